theorem dX12_in_0 : decode cX12_in 0 = .ok (.iload_n 0, 1) := by decide +kernel
theorem dX12_in_1 : decode cX12_in 1 = .ok (.iload_n 1, 1) := by decide +kernel
theorem dX12_in_2 : decode cX12_in 2 = .ok (.if_icmp .lt 12, 3) := by decide +kernel
theorem dX12_in_5 : decode cX12_in 5 = .ok (.iload_n 0, 1) := by decide +kernel
theorem dX12_in_6 : decode cX12_in 6 = .ok (.iload_n 2, 1) := by decide +kernel
theorem dX12_in_7 : decode cX12_in 7 = .ok (.if_icmp .gt 7, 3) := by decide +kernel
theorem dX12_in_10 : decode cX12_in 10 = .ok (.iconst 1, 1) := by decide +kernel
theorem dX12_in_11 : decode cX12_in 11 = .ok (.goto 4, 3) := by decide +kernel
theorem dX12_in_14 : decode cX12_in 14 = .ok (.iconst 0, 1) := by decide +kernel
theorem dX12_in_15 : decode cX12_in 15 = .ok (.ireturn, 1) := by decide +kernel
set_option maxHeartbeats 4000000 in
set_option maxRecDepth 100000 in
/-- X12_in -/
theorem kX12_in (l : Launch) (D : va_G) (G : tyG) (v : Int32) (a : Int32) (b : Int32) (sz : Nat) : Met l yX12_in wsX12_in ({ frames := 0, cells := 0, slots := 0, locals := 0 }) (va_Pc [.int v, .int a, .int b] (wB D G sz [])) (va_Qi (fun (r : Int32) (_ : Unit) => r = if (inB v a b) = true then 1 else 0) (fun _ _ => True) (va_A [] sz)) 0 0 (va_A [] sz) := by
  refine Met.ofW (cc := cX12_in) (maxL := 3) (ret := (some .boolean)) (by decide) rfl ?_
  intro p e s m args below meth c s₁ B hml hv
  obtain ⟨rfl, hsz, hP, hK, hD0, hN⟩ := hv
  have hx := B.exec
  have hb := B.bytes
  have hr := B.returns
  have hts := atoms_spec (ws := wsX12_in) B.pre
  have hown : s.vm.findClass RX12 = some m.cls := findClass_of_methodNamed B.named
  have hlocks := B.notSynchronized
  subst hsz
  have hD := hD0.self (sz := s.heap.size)
  generalize hAe : va_A [] s.heap.size = A at hD ⊢
  have hA : ∀ q : Nat, s.heap.size ≤ q → A q := fun q h => by rw [← hAe]; exact Or.inr h
  have hS : va_S A s.heap s.heap [] := va_S.rf
  have hP : va_P D vwCl [] s.heap := hP
  have hl := lv_entry ([.int v, .int a, .int b]) (n := 3) (Nat.le_of_ble_eq_true rfl)
  rw [lg_entry_eq]
  generalize (lg_sl ([.int v, .int a, .int b]) ++ List.replicate (3 - (lg_sl ([.int v, .int a, .int b])).length) Slot.unset).toArray = ls at hl ⊢
  have hl : lv_has ls 3 [(0, .int v), (1, .int a), (2, .int b)] := hl
  refine lv_iload_n hx hb dX12_in_0 rfl (lv_at hl 0 rfl) ?_
  refine lv_iload_n hx hb dX12_in_1 rfl (lv_at hl 1 rfl) ?_
  refine lv_icmp_lt (tgt := 14) hx hb dX12_in_2 (by decide) (fun c1 => ?_) (fun c1 => ?_)
  · refine lv_iconst (v := 0) hx hb dX12_in_14 (by decide) ?_
    exact W.zret (v := 0) hx hb hr rfl (fun t ht hW => ⟨⟨0, (), rfl, by rw [inB_f1 c1]; rfl, trivial⟩, hS.F ht⟩) hS.2.2 dX12_in_15
  · refine lv_iload_n hx hb dX12_in_5 rfl (lv_at hl 0 rfl) ?_
    refine lv_iload_n hx hb dX12_in_6 rfl (lv_at hl 2 rfl) ?_
    refine lv_icmp_gt (tgt := 14) hx hb dX12_in_7 (by decide) (fun c2 => ?_) (fun c2 => ?_)
    · refine lv_iconst (v := 0) hx hb dX12_in_14 (by decide) ?_
      exact W.zret (v := 0) hx hb hr rfl (fun t ht hW => ⟨⟨0, (), rfl, by rw [inB_f2 c2]; rfl, trivial⟩, hS.F ht⟩) hS.2.2 dX12_in_15
    · refine lv_iconst (v := 1) hx hb dX12_in_10 (by decide) ?_
      refine lv_goto (tgt := 15) hx hb dX12_in_11 (by decide) ?_
      exact W.zret (v := 1) hx hb hr rfl (fun t ht hW => ⟨⟨1, (), rfl, by rw [inB_t c1 c2]; rfl, trivial⟩, hS.F ht⟩) hS.2.2 dX12_in_15

set_option maxRecDepth 20000 in
theorem ggX12_isShape_X12_in : GoodIn wsX12_isShape wsX12_in := goodIn_r _ [4] (by decide +kernel) (by decide +kernel)
set_option maxRecDepth 20000 in
theorem gX12_isShape_X12_in : GoodIn wsX12_isShape (va_wsS RX12 163 yX12_in wsX12_in) := goodIn_app (goodIn_of _ (by decide +kernel)) ggX12_isShape_X12_in
theorem dX12_isShape_0 : decode cX12_isShape 0 = .ok (.iload_n 0, 1) := by decide +kernel
theorem dX12_isShape_1 : decode cX12_isShape 1 = .ok (.iconst 1, 1) := by decide +kernel
theorem dX12_isShape_2 : decode cX12_isShape 2 = .ok (.bipush 20, 2) := by decide +kernel
theorem dX12_isShape_4 : decode cX12_isShape 4 = .ok (.invokestatic 163, 3) := by decide +kernel
theorem dX12_isShape_7 : decode cX12_isShape 7 = .ok (.ifCond .eq 27, 3) := by decide +kernel
theorem dX12_isShape_10 : decode cX12_isShape 10 = .ok (.iload_n 1, 1) := by decide +kernel
theorem dX12_isShape_11 : decode cX12_isShape 11 = .ok (.iconst 0, 1) := by decide +kernel
theorem dX12_isShape_12 : decode cX12_isShape 12 = .ok (.bipush 15, 2) := by decide +kernel
theorem dX12_isShape_14 : decode cX12_isShape 14 = .ok (.invokestatic 163, 3) := by decide +kernel
theorem dX12_isShape_17 : decode cX12_isShape 17 = .ok (.ifCond .eq 17, 3) := by decide +kernel
theorem dX12_isShape_20 : decode cX12_isShape 20 = .ok (.iload_n 2, 1) := by decide +kernel
theorem dX12_isShape_21 : decode cX12_isShape 21 = .ok (.iconst 0, 1) := by decide +kernel
theorem dX12_isShape_22 : decode cX12_isShape 22 = .ok (.bipush 8, 2) := by decide +kernel
theorem dX12_isShape_24 : decode cX12_isShape 24 = .ok (.invokestatic 163, 3) := by decide +kernel
theorem dX12_isShape_27 : decode cX12_isShape 27 = .ok (.ifCond .eq 7, 3) := by decide +kernel
theorem dX12_isShape_30 : decode cX12_isShape 30 = .ok (.iconst 1, 1) := by decide +kernel
theorem dX12_isShape_31 : decode cX12_isShape 31 = .ok (.goto 4, 3) := by decide +kernel
theorem dX12_isShape_34 : decode cX12_isShape 34 = .ok (.iconst 0, 1) := by decide +kernel
theorem dX12_isShape_35 : decode cX12_isShape 35 = .ok (.ireturn, 1) := by decide +kernel
set_option maxHeartbeats 4000000 in
set_option maxRecDepth 100000 in
/-- X12_isShape -/
theorem kX12_isShape (l : Launch) (D : va_G) (G : tyG) (x : Int32) (y : Int32) (z : Int32) (sz : Nat) : Met l yX12_isShape wsX12_isShape ({ frames := 1, cells := 0, slots := 0, locals := 22 }) (va_Pc [.int x, .int y, .int z] (wB D G sz [])) (va_Qi (fun (r : Int32) (_ : Unit) => r = if (inB x 1 20 && (inB y 0 15 && inB z 0 8)) = true then 1 else 0) (fun _ _ => True) (va_A [] sz)) 0 0 (va_A [] sz) := by
  refine Met.ofW (cc := cX12_isShape) (maxL := 3) (ret := (some .boolean)) (by decide) rfl ?_
  intro p e s m args below meth c s₁ B hml hv
  obtain ⟨rfl, hsz, hP, hK, hD0, hN⟩ := hv
  have hx := B.exec
  have hb := B.bytes
  have hr := B.returns
  have hts := atoms_spec (ws := wsX12_isShape) B.pre
  have hown : s.vm.findClass RX12 = some m.cls := findClass_of_methodNamed B.named
  have hlocks := B.notSynchronized
  subst hsz
  have hD := hD0.self (sz := s.heap.size)
  generalize hAe : va_A [] s.heap.size = A at hD ⊢
  have hA : ∀ q : Nat, s.heap.size ≤ q → A q := fun q h => by rw [← hAe]; exact Or.inr h
  have hS : va_S A s.heap s.heap [] := va_S.rf
  have hP : va_P D vwCl [] s.heap := hP
  have hl := lv_entry ([.int x, .int y, .int z]) (n := 3) (Nat.le_of_ble_eq_true rfl)
  rw [lg_entry_eq]
  generalize (lg_sl ([.int x, .int y, .int z]) ++ List.replicate (3 - (lg_sl ([.int x, .int y, .int z])).length) Slot.unset).toArray = ls at hl ⊢
  have hl : lv_has ls 3 [(0, .int x), (1, .int y), (2, .int z)] := hl
  refine lv_iload_n hx hb dX12_isShape_0 rfl (lv_at hl 0 rfl) ?_
  refine lv_iconst (v := 1) hx hb dX12_isShape_1 (by decide) ?_
  refine lv_bipush (v := 20) hx hb dX12_isShape_2 (by decide) ?_
  have hPc := hP.sub (ws' := []) [] rfl
  have hDc := hD.sub (ws' := []) [] (by decide) rfl
  have hFc := va_free (wc := []) hD hS hA [] rfl
  refine va_calli (va_runS (As := [.int x, .int 1, .int 20]) (rest := []) ⟨hx, hb, hml, hown, hts⟩ (kX12_in l D G x 1 20 s.heap.size) (va_cwS 3 hts gX12_isShape_X12_in rfl rfl rfl (by decide +kernel) ⟨Nat.le_of_ble_eq_true rfl, Nat.le_of_ble_eq_true rfl⟩) ⟨wB_blind, wB_pre hPc hK hDc hN⟩ rfl rfl hl.1 rfl (lv_room (Nat.le_of_ble_eq_true rfl)) dX12_isShape_4 ⟨Nat.le_of_ble_eq_true rfl, Nat.le_of_ble_eq_true rfl⟩) hS (fun q _ h => hFc q h) hFc (fun r1 u t H1 locs ht hvm hr1 hB hz1 hk1 hS => ?_)
  obtain ⟨hP, hD⟩ := va_join (wr := []) (w1 := []) hP hD [] [] rfl rfl (by decide) (by decide) hk1 hFc wP_nil wD_nil
  clear hPc hDc
  generalize H1 = H at hP hS ⊢
  have hP : va_P D vwCl [] H := hP
  have hD : va_D A [] := hD
  refine lv_if_eq (tgt := 34) hx hb dX12_isShape_7 (by decide) (fun c2 => ?_) (fun c2 => ?_)
  · have kc2 : (inB x 1 20) = false := wk_b0 hr1 c2
    refine lv_iconst (v := 0) hx hb dX12_isShape_34 (by decide) ?_
    exact W.zret (v := 0) hx hb hr rfl (fun t ht hW => ⟨⟨0, (), rfl, by first | (simp [kc2]; done) | rfl, trivial⟩, hS.F ht⟩) hS.2.2 dX12_isShape_35
  · have kc2 : (inB x 1 20) = true := wk_b1 hr1 c2
    refine lv_iload_n hx hb dX12_isShape_10 rfl (lv_at hl 1 rfl) ?_
    refine lv_iconst (v := 0) hx hb dX12_isShape_11 (by decide) ?_
    refine lv_bipush (v := 15) hx hb dX12_isShape_12 (by decide) ?_
    have hPc := hP.sub (ws' := []) [] rfl
    have hDc := hD.sub (ws' := []) [] (by decide) rfl
    have hFc := va_free (wc := []) hD hS hA [] rfl
    refine va_calli (va_runS (As := [.int y, .int 0, .int 15]) (rest := []) ⟨hx, hb, hml, hown, hts⟩ (kX12_in l D G y 0 15 H.size) (va_cwS 3 hts gX12_isShape_X12_in rfl rfl rfl (by decide +kernel) ⟨Nat.le_of_ble_eq_true rfl, Nat.le_of_ble_eq_true rfl⟩) ⟨wB_blind, wB_pre hPc hK hDc hN⟩ rfl rfl hl.1 rfl (lv_room (Nat.le_of_ble_eq_true rfl)) dX12_isShape_14 ⟨Nat.le_of_ble_eq_true rfl, Nat.le_of_ble_eq_true rfl⟩) hS (fun q _ h => hFc q h) hFc (fun r3 u t H1 locs ht hvm hr3 hB hz1 hk1 hS => ?_)
    obtain ⟨hP, hD⟩ := va_join (wr := []) (w1 := []) hP hD [] [] rfl rfl (by decide) (by decide) hk1 hFc wP_nil wD_nil
    clear hPc hDc
    generalize H1 = H at hP hS ⊢
    have hP : va_P D vwCl [] H := hP
    have hD : va_D A [] := hD
    refine lv_if_eq (tgt := 34) hx hb dX12_isShape_17 (by decide) (fun c4 => ?_) (fun c4 => ?_)
    · have kc4 : (inB y 0 15) = false := wk_b0 hr3 c4
      refine lv_iconst (v := 0) hx hb dX12_isShape_34 (by decide) ?_
      exact W.zret (v := 0) hx hb hr rfl (fun t ht hW => ⟨⟨0, (), rfl, by first | (simp [kc2, kc4]; done) | (simp [kc2]; done) | rfl, trivial⟩, hS.F ht⟩) hS.2.2 dX12_isShape_35
    · have kc4 : (inB y 0 15) = true := wk_b1 hr3 c4
      refine lv_iload_n hx hb dX12_isShape_20 rfl (lv_at hl 2 rfl) ?_
      refine lv_iconst (v := 0) hx hb dX12_isShape_21 (by decide) ?_
      refine lv_bipush (v := 8) hx hb dX12_isShape_22 (by decide) ?_
      have hPc := hP.sub (ws' := []) [] rfl
      have hDc := hD.sub (ws' := []) [] (by decide) rfl
      have hFc := va_free (wc := []) hD hS hA [] rfl
      refine va_calli (va_runS (As := [.int z, .int 0, .int 8]) (rest := []) ⟨hx, hb, hml, hown, hts⟩ (kX12_in l D G z 0 8 H.size) (va_cwS 3 hts gX12_isShape_X12_in rfl rfl rfl (by decide +kernel) ⟨Nat.le_of_ble_eq_true rfl, Nat.le_of_ble_eq_true rfl⟩) ⟨wB_blind, wB_pre hPc hK hDc hN⟩ rfl rfl hl.1 rfl (lv_room (Nat.le_of_ble_eq_true rfl)) dX12_isShape_24 ⟨Nat.le_of_ble_eq_true rfl, Nat.le_of_ble_eq_true rfl⟩) hS (fun q _ h => hFc q h) hFc (fun r5 u t H1 locs ht hvm hr5 hB hz1 hk1 hS => ?_)
      obtain ⟨hP, hD⟩ := va_join (wr := []) (w1 := []) hP hD [] [] rfl rfl (by decide) (by decide) hk1 hFc wP_nil wD_nil
      clear hPc hDc
      generalize H1 = H at hP hS ⊢
      have hP : va_P D vwCl [] H := hP
      have hD : va_D A [] := hD
      refine lv_if_eq (tgt := 34) hx hb dX12_isShape_27 (by decide) (fun c6 => ?_) (fun c6 => ?_)
      · have kc6 : (inB z 0 8) = false := wk_b0 hr5 c6
        refine lv_iconst (v := 0) hx hb dX12_isShape_34 (by decide) ?_
        exact W.zret (v := 0) hx hb hr rfl (fun t ht hW => ⟨⟨0, (), rfl, by first | (simp [kc2, kc4, kc6]; done) | (simp [kc2, kc4]; done) | (simp [kc2]; done) | rfl, trivial⟩, hS.F ht⟩) hS.2.2 dX12_isShape_35
      · have kc6 : (inB z 0 8) = true := wk_b1 hr5 c6
        refine lv_iconst (v := 1) hx hb dX12_isShape_30 (by decide) ?_
        refine lv_goto (tgt := 35) hx hb dX12_isShape_31 (by decide) ?_
        exact W.zret (v := 1) hx hb hr rfl (fun t ht hW => ⟨⟨1, (), rfl, by first | (simp [kc2, kc4, kc6]; done) | (simp [kc2, kc4]; done) | (simp [kc2]; done) | rfl, trivial⟩, hS.F ht⟩) hS.2.2 dX12_isShape_35

theorem mX12_isFigure_w0 : Cond.fieldLink RX12 160 "PuppetBridgeModel" "figures" "I" ∈ wsX12_isFigure := by decide +kernel
theorem iX12_isFigure_X12 : ∀ w ∈ wsX120, w ∈ wsX12_isFigure := fun _ h => List.mem_cons_of_mem _ (List.mem_append_right _ h)
set_option maxRecDepth 20000 in
theorem ggX12_isFigure_X12_in : GoodIn wsX12_isFigure wsX12_in := goodIn_r _ [5] (by decide +kernel) (by decide +kernel)
set_option maxRecDepth 20000 in
theorem gX12_isFigure_X12_in : GoodIn wsX12_isFigure (va_wsS RX12 163 yX12_in wsX12_in) := goodIn_app (goodIn_of _ (by decide +kernel)) ggX12_isFigure_X12_in
theorem dX12_isFigure_0 : decode cX12_isFigure 0 = .ok (.iload_n 1, 1) := by decide +kernel
theorem dX12_isFigure_1 : decode cX12_isFigure 1 = .ok (.iconst 0, 1) := by decide +kernel
theorem dX12_isFigure_2 : decode cX12_isFigure 2 = .ok (.aload_n 0, 1) := by decide +kernel
theorem dX12_isFigure_3 : decode cX12_isFigure 3 = .ok (.getfield 160, 3) := by decide +kernel
theorem dX12_isFigure_6 : decode cX12_isFigure 6 = .ok (.iconst 1, 1) := by decide +kernel
theorem dX12_isFigure_7 : decode cX12_isFigure 7 = .ok (.isub, 1) := by decide +kernel
theorem dX12_isFigure_8 : decode cX12_isFigure 8 = .ok (.invokestatic 163, 3) := by decide +kernel
theorem dX12_isFigure_11 : decode cX12_isFigure 11 = .ok (.ireturn, 1) := by decide +kernel
set_option maxHeartbeats 4000000 in
set_option maxRecDepth 100000 in
/-- X12_isFigure -/
theorem kX12_isFigure (l : Launch) (D : va_G) (G : tyG) (h0 : Nat) (f : Int32) (z0 : Nat) (z1 : Nat) (z2 : Nat) (z3 : Nat) (z4 : Nat) (z5 : Nat) (z20 : Nat) (z21 : Nat) (z22 : Nat) (z23 : Nat) (z24 : Nat) (z25 : Nat) (z26 : Nat) (z27 : Nat) (z28 : Nat) (z6 : Nat) (z29 : Nat) (z7 : Nat) (z19 : Nat) (z8 : Nat) (z9 : Nat) (z10 : Nat) (z11 : Nat) (z30 : Nat) (z31 : Nat) (z32 : Nat) (z33 : Nat) (z12 : Nat) (z34 : Nat) (z35 : Nat) (z36 : Nat) (z37 : Nat) (z38 : Nat) (z39 : Nat) (z40 : Nat) (z41 : Nat) (z42 : Nat) (z13 : Nat) (z14 : Nat) (z15 : Nat) (z16 : Nat) (z17 : Nat) (z18 : Nat) (z43 : Nat) (sz : Nat) : Met l yX12_isFigure wsX12_isFigure ({ frames := 1, cells := 0, slots := 0, locals := 22 }) (va_Pc [.ref h0, .int f] (wB D G sz [(h0, .inr (12, [.ref z0, .ref z1, .ref z2, .ref z3, .ref z4, .ref z5, .ref z20, .ref z21, .ref z22, .ref z23, .ref z24, .ref z25, .int 0, .ref z26, .ref z27, .ref z28, .int 9, .int 0, .int 0, .ref z6, .ref z29, .ref z7, .int 0, .int 2, .ref z19, .ref z8, .ref z9, .ref z10, .int 0, .ref z11, .int 0, .ref z30, .ref z31, .ref z32, .ref z33, .int 0, .ref z12, .int 0, .int 0, .ref z34, .ref z35, .ref z36, .ref z37, .int 0, .int 0, .int 0, .int 0, .ref z38, .int 0, .ref z39, .ref z40, .ref z41, .ref z42, .int 0, .ref z13, .ref z14, .ref z15, .ref z16, .int 0, .ref z17, .ref z18, .ref z43]))])) (va_Qi (fun (r : Int32) (_ : Unit) => r = 0) (fun _ t => wS D G (va_A [(h0, .inr (12, [.ref z0, .ref z1, .ref z2, .ref z3, .ref z4, .ref z5, .ref z20, .ref z21, .ref z22, .ref z23, .ref z24, .ref z25, .int 0, .ref z26, .ref z27, .ref z28, .int 9, .int 0, .int 0, .ref z6, .ref z29, .ref z7, .int 0, .int 2, .ref z19, .ref z8, .ref z9, .ref z10, .int 0, .ref z11, .int 0, .ref z30, .ref z31, .ref z32, .ref z33, .int 0, .ref z12, .int 0, .int 0, .ref z34, .ref z35, .ref z36, .ref z37, .int 0, .int 0, .int 0, .int 0, .ref z38, .int 0, .ref z39, .ref z40, .ref z41, .ref z42, .int 0, .ref z13, .ref z14, .ref z15, .ref z16, .int 0, .ref z17, .ref z18, .ref z43]))] sz) [(h0, .inr (12, [.ref z0, .ref z1, .ref z2, .ref z3, .ref z4, .ref z5, .ref z20, .ref z21, .ref z22, .ref z23, .ref z24, .ref z25, .int 0, .ref z26, .ref z27, .ref z28, .int 9, .int 0, .int 0, .ref z6, .ref z29, .ref z7, .int 0, .int 2, .ref z19, .ref z8, .ref z9, .ref z10, .int 0, .ref z11, .int 0, .ref z30, .ref z31, .ref z32, .ref z33, .int 0, .ref z12, .int 0, .int 0, .ref z34, .ref z35, .ref z36, .ref z37, .int 0, .int 0, .int 0, .int 0, .ref z38, .int 0, .ref z39, .ref z40, .ref z41, .ref z42, .int 0, .ref z13, .ref z14, .ref z15, .ref z16, .int 0, .ref z17, .ref z18, .ref z43]))] t) (va_A [(h0, .inr (12, [.ref z0, .ref z1, .ref z2, .ref z3, .ref z4, .ref z5, .ref z20, .ref z21, .ref z22, .ref z23, .ref z24, .ref z25, .int 0, .ref z26, .ref z27, .ref z28, .int 9, .int 0, .int 0, .ref z6, .ref z29, .ref z7, .int 0, .int 2, .ref z19, .ref z8, .ref z9, .ref z10, .int 0, .ref z11, .int 0, .ref z30, .ref z31, .ref z32, .ref z33, .int 0, .ref z12, .int 0, .int 0, .ref z34, .ref z35, .ref z36, .ref z37, .int 0, .int 0, .int 0, .int 0, .ref z38, .int 0, .ref z39, .ref z40, .ref z41, .ref z42, .int 0, .ref z13, .ref z14, .ref z15, .ref z16, .int 0, .ref z17, .ref z18, .ref z43]))] sz)) 0 0 (va_A [(h0, .inr (12, [.ref z0, .ref z1, .ref z2, .ref z3, .ref z4, .ref z5, .ref z20, .ref z21, .ref z22, .ref z23, .ref z24, .ref z25, .int 0, .ref z26, .ref z27, .ref z28, .int 9, .int 0, .int 0, .ref z6, .ref z29, .ref z7, .int 0, .int 2, .ref z19, .ref z8, .ref z9, .ref z10, .int 0, .ref z11, .int 0, .ref z30, .ref z31, .ref z32, .ref z33, .int 0, .ref z12, .int 0, .int 0, .ref z34, .ref z35, .ref z36, .ref z37, .int 0, .int 0, .int 0, .int 0, .ref z38, .int 0, .ref z39, .ref z40, .ref z41, .ref z42, .int 0, .ref z13, .ref z14, .ref z15, .ref z16, .int 0, .ref z17, .ref z18, .ref z43]))] sz) := by
  refine Met.ofW (cc := cX12_isFigure) (maxL := 2) (ret := (some .boolean)) (by decide) rfl ?_
  intro p e s m args below meth c s₁ B hml hv
  obtain ⟨rfl, hsz, hP, hK, hD0, hN⟩ := hv
  have hx := B.exec
  have hb := B.bytes
  have hr := B.returns
  have hts := atoms_spec (ws := wsX12_isFigure) B.pre
  have hown : s.vm.findClass RX12 = some m.cls := findClass_of_methodNamed B.named
  have hlocks := B.notSynchronized
  subst hsz
  have hD := hD0.self (sz := s.heap.size)
  generalize hAe : va_A [(h0, .inr (12, [.ref z0, .ref z1, .ref z2, .ref z3, .ref z4, .ref z5, .ref z20, .ref z21, .ref z22, .ref z23, .ref z24, .ref z25, .int 0, .ref z26, .ref z27, .ref z28, .int 9, .int 0, .int 0, .ref z6, .ref z29, .ref z7, .int 0, .int 2, .ref z19, .ref z8, .ref z9, .ref z10, .int 0, .ref z11, .int 0, .ref z30, .ref z31, .ref z32, .ref z33, .int 0, .ref z12, .int 0, .int 0, .ref z34, .ref z35, .ref z36, .ref z37, .int 0, .int 0, .int 0, .int 0, .ref z38, .int 0, .ref z39, .ref z40, .ref z41, .ref z42, .int 0, .ref z13, .ref z14, .ref z15, .ref z16, .int 0, .ref z17, .ref z18, .ref z43]))] s.heap.size = A at hD ⊢
  have hA : ∀ q : Nat, s.heap.size ≤ q → A q := fun q h => by rw [← hAe]; exact Or.inr h
  have hS : va_S A s.heap s.heap [] := va_S.rf
  have hP : va_P D vwCl [(h0, .inr (12, [.ref z0, .ref z1, .ref z2, .ref z3, .ref z4, .ref z5, .ref z20, .ref z21, .ref z22, .ref z23, .ref z24, .ref z25, .int 0, .ref z26, .ref z27, .ref z28, .int 9, .int 0, .int 0, .ref z6, .ref z29, .ref z7, .int 0, .int 2, .ref z19, .ref z8, .ref z9, .ref z10, .int 0, .ref z11, .int 0, .ref z30, .ref z31, .ref z32, .ref z33, .int 0, .ref z12, .int 0, .int 0, .ref z34, .ref z35, .ref z36, .ref z37, .int 0, .int 0, .int 0, .int 0, .ref z38, .int 0, .ref z39, .ref z40, .ref z41, .ref z42, .int 0, .ref z13, .ref z14, .ref z15, .ref z16, .int 0, .ref z17, .ref z18, .ref z43]))] s.heap := hP
  have hl := lv_entry ([.ref h0, .int f]) (n := 2) (Nat.le_of_ble_eq_true rfl)
  rw [lg_entry_eq]
  generalize (lg_sl ([.ref h0, .int f]) ++ List.replicate (2 - (lg_sl ([.ref h0, .int f])).length) Slot.unset).toArray = ls at hl ⊢
  have hl : lv_has ls 2 [(0, .ref h0), (1, .int f)] := hl
  refine lv_iload_n hx hb dX12_isFigure_0 rfl (lv_at hl 1 rfl) ?_
  refine lv_iconst (v := 0) hx hb dX12_isFigure_1 (by decide) ?_
  refine lv_aload_n hx hb dX12_isFigure_2 rfl (lv_at hl 0 rfl) ?_
  refine va_get (D := D) (ci := 12) (v := .int 0) (C := RX12) (T := TX12) (N := 62) hx hb hts iX12_isFigure_X12 hown hK hP 0 rfl rfl 12 (by decide) (hts (.fieldLink RX12 160 "PuppetBridgeModel" "figures" "I") mX12_isFigure_w0) (fun _ h9 => h9) rfl dX12_isFigure_3 ?_
  refine lv_iconst (v := 1) hx hb dX12_isFigure_6 (by decide) ?_
  refine lv_isub hx hb dX12_isFigure_7 ?_
  refine wk_i (-1) (by decide) ?_
  have hPc := hP.sub (ws' := []) [] rfl
  have hDc := hD.sub (ws' := []) [] (by decide) rfl
  have hFc := va_free (wc := []) hD hS hA [] rfl
  refine va_calli (va_runS (As := [.int f, .int 0, .int (-1)]) (rest := []) ⟨hx, hb, hml, hown, hts⟩ (kX12_in l D G f 0 (-1) s.heap.size) (va_cwS 3 hts gX12_isFigure_X12_in rfl rfl rfl (by decide +kernel) ⟨Nat.le_of_ble_eq_true rfl, Nat.le_of_ble_eq_true rfl⟩) ⟨wB_blind, wB_pre hPc hK hDc hN⟩ rfl rfl hl.1 rfl (lv_room (Nat.le_of_ble_eq_true rfl)) dX12_isFigure_8 ⟨Nat.le_of_ble_eq_true rfl, Nat.le_of_ble_eq_true rfl⟩) hS (fun q _ h => hFc q h) hFc (fun r1 u t H1 locs ht hvm hr1 hB hz1 hk1 hS => ?_)
  obtain ⟨hP, hD⟩ := va_join (wr := [(h0, .inr (12, [.ref z0, .ref z1, .ref z2, .ref z3, .ref z4, .ref z5, .ref z20, .ref z21, .ref z22, .ref z23, .ref z24, .ref z25, .int 0, .ref z26, .ref z27, .ref z28, .int 9, .int 0, .int 0, .ref z6, .ref z29, .ref z7, .int 0, .int 2, .ref z19, .ref z8, .ref z9, .ref z10, .int 0, .ref z11, .int 0, .ref z30, .ref z31, .ref z32, .ref z33, .int 0, .ref z12, .int 0, .int 0, .ref z34, .ref z35, .ref z36, .ref z37, .int 0, .int 0, .int 0, .int 0, .ref z38, .int 0, .ref z39, .ref z40, .ref z41, .ref z42, .int 0, .ref z13, .ref z14, .ref z15, .ref z16, .int 0, .ref z17, .ref z18, .ref z43]))]) (w1 := []) hP hD [] [0] rfl rfl (by decide) (by decide) hk1 hFc wP_nil wD_nil
  clear hPc hDc
  generalize H1 = H at hP hS ⊢
  have hP : va_P D vwCl [(h0, .inr (12, [.ref z0, .ref z1, .ref z2, .ref z3, .ref z4, .ref z5, .ref z20, .ref z21, .ref z22, .ref z23, .ref z24, .ref z25, .int 0, .ref z26, .ref z27, .ref z28, .int 9, .int 0, .int 0, .ref z6, .ref z29, .ref z7, .int 0, .int 2, .ref z19, .ref z8, .ref z9, .ref z10, .int 0, .ref z11, .int 0, .ref z30, .ref z31, .ref z32, .ref z33, .int 0, .ref z12, .int 0, .int 0, .ref z34, .ref z35, .ref z36, .ref z37, .int 0, .int 0, .int 0, .int 0, .ref z38, .int 0, .ref z39, .ref z40, .ref z41, .ref z42, .int 0, .ref z13, .ref z14, .ref z15, .ref z16, .int 0, .ref z17, .ref z18, .ref z43]))] H := hP
  have hD : va_D A [(h0, .inr (12, [.ref z0, .ref z1, .ref z2, .ref z3, .ref z4, .ref z5, .ref z20, .ref z21, .ref z22, .ref z23, .ref z24, .ref z25, .int 0, .ref z26, .ref z27, .ref z28, .int 9, .int 0, .int 0, .ref z6, .ref z29, .ref z7, .int 0, .int 2, .ref z19, .ref z8, .ref z9, .ref z10, .int 0, .ref z11, .int 0, .ref z30, .ref z31, .ref z32, .ref z33, .int 0, .ref z12, .int 0, .int 0, .ref z34, .ref z35, .ref z36, .ref z37, .int 0, .int 0, .int 0, .int 0, .ref z38, .int 0, .ref z39, .ref z40, .ref z41, .ref z42, .int 0, .ref z13, .ref z14, .ref z15, .ref z16, .int 0, .ref z17, .ref z18, .ref z43]))] := hD
  have hP9 := hP.sub (ws' := [(h0, .inr (12, [.ref z0, .ref z1, .ref z2, .ref z3, .ref z4, .ref z5, .ref z20, .ref z21, .ref z22, .ref z23, .ref z24, .ref z25, .int 0, .ref z26, .ref z27, .ref z28, .int 9, .int 0, .int 0, .ref z6, .ref z29, .ref z7, .int 0, .int 2, .ref z19, .ref z8, .ref z9, .ref z10, .int 0, .ref z11, .int 0, .ref z30, .ref z31, .ref z32, .ref z33, .int 0, .ref z12, .int 0, .int 0, .ref z34, .ref z35, .ref z36, .ref z37, .int 0, .int 0, .int 0, .int 0, .ref z38, .int 0, .ref z39, .ref z40, .ref z41, .ref z42, .int 0, .ref z13, .ref z14, .ref z15, .ref z16, .int 0, .ref z17, .ref z18, .ref z43]))]) [0] rfl
  have hD9 := hD.sub (ws' := [(h0, .inr (12, [.ref z0, .ref z1, .ref z2, .ref z3, .ref z4, .ref z5, .ref z20, .ref z21, .ref z22, .ref z23, .ref z24, .ref z25, .int 0, .ref z26, .ref z27, .ref z28, .int 9, .int 0, .int 0, .ref z6, .ref z29, .ref z7, .int 0, .int 2, .ref z19, .ref z8, .ref z9, .ref z10, .int 0, .ref z11, .int 0, .ref z30, .ref z31, .ref z32, .ref z33, .int 0, .ref z12, .int 0, .int 0, .ref z34, .ref z35, .ref z36, .ref z37, .int 0, .int 0, .int 0, .int 0, .ref z38, .int 0, .ref z39, .ref z40, .ref z41, .ref z42, .int 0, .ref z13, .ref z14, .ref z15, .ref z16, .int 0, .ref z17, .ref z18, .ref z43]))]) [0] (by decide) rfl
  exact W.zret (v := r1) hx hb hr (wk_nar hr1) (fun t ht hW => ⟨⟨r1, (), rfl, by rw [hr1, inB_none]; rfl, ⟨by rw [ht]; exact hP9, va_K.moved hW.alike hK, hD9⟩⟩, hS.F ht⟩) hS.2.2 dX12_isFigure_11

set_option maxRecDepth 20000 in
theorem ggX12_isLimb_X12_isFigure : GoodIn wsX12_isLimb wsX12_isFigure := goodIn_r _ [6, 7, 8, 9, 5, 10, 11, 12, 13, 14, 15, 16, 17, 18, 19, 20, 21, 22, 23, 24, 25, 26, 27, 28, 29, 30, 31, 32, 33, 34, 35, 36, 37, 38, 39, 40, 41, 42, 43, 44, 45, 46, 47, 48, 49, 50, 51, 52, 53, 54, 55, 56, 57, 58, 59, 60, 61, 62, 63, 64, 65, 66, 67, 68, 69, 70, 71, 72] (by decide +kernel) (by decide +kernel)
set_option maxRecDepth 20000 in
theorem gX12_isLimb_X12_isFigure : GoodIn wsX12_isLimb (wsV RX12 167 RX12 yX12_isFigure wsX12_isFigure) := goodIn_app (goodIn_of _ (by decide +kernel)) ggX12_isLimb_X12_isFigure
theorem dX12_isLimb_0 : decode cX12_isLimb 0 = .ok (.aload_n 0, 1) := by decide +kernel
theorem dX12_isLimb_1 : decode cX12_isLimb 1 = .ok (.iload_n 1, 1) := by decide +kernel
theorem dX12_isLimb_2 : decode cX12_isLimb 2 = .ok (.invokevirtual 167, 3) := by decide +kernel
theorem dX12_isLimb_5 : decode cX12_isLimb 5 = .ok (.ifCond .eq 23, 3) := by decide +kernel
theorem dX12_isLimb_28 : decode cX12_isLimb 28 = .ok (.iconst 0, 1) := by decide +kernel
theorem dX12_isLimb_29 : decode cX12_isLimb 29 = .ok (.ireturn, 1) := by decide +kernel
set_option maxHeartbeats 4000000 in
set_option maxRecDepth 100000 in
/-- X12_isLimb -/
theorem kX12_isLimb (l : Launch) (D : va_G) (G : tyG) (h0 : Nat) (f : Int32) (g : Int32) (z0 : Nat) (z1 : Nat) (z2 : Nat) (z3 : Nat) (z4 : Nat) (z5 : Nat) (z20 : Nat) (z21 : Nat) (z22 : Nat) (z23 : Nat) (z24 : Nat) (z25 : Nat) (z26 : Nat) (z27 : Nat) (z28 : Nat) (z6 : Nat) (z29 : Nat) (z7 : Nat) (z19 : Nat) (z8 : Nat) (z9 : Nat) (z10 : Nat) (z11 : Nat) (z30 : Nat) (z31 : Nat) (z32 : Nat) (z33 : Nat) (z12 : Nat) (z34 : Nat) (z35 : Nat) (z36 : Nat) (z37 : Nat) (z38 : Nat) (z39 : Nat) (z40 : Nat) (z41 : Nat) (z42 : Nat) (z13 : Nat) (z14 : Nat) (z15 : Nat) (z16 : Nat) (z17 : Nat) (z18 : Nat) (z43 : Nat) (sz : Nat) : Met l yX12_isLimb wsX12_isLimb ({ frames := 2, cells := 0, slots := 0, locals := 43 }) (va_Pc [.ref h0, .int f, .int g] (wB D G sz [(h0, .inr (12, [.ref z0, .ref z1, .ref z2, .ref z3, .ref z4, .ref z5, .ref z20, .ref z21, .ref z22, .ref z23, .ref z24, .ref z25, .int 0, .ref z26, .ref z27, .ref z28, .int 9, .int 0, .int 0, .ref z6, .ref z29, .ref z7, .int 0, .int 2, .ref z19, .ref z8, .ref z9, .ref z10, .int 0, .ref z11, .int 0, .ref z30, .ref z31, .ref z32, .ref z33, .int 0, .ref z12, .int 0, .int 0, .ref z34, .ref z35, .ref z36, .ref z37, .int 0, .int 0, .int 0, .int 0, .ref z38, .int 0, .ref z39, .ref z40, .ref z41, .ref z42, .int 0, .ref z13, .ref z14, .ref z15, .ref z16, .int 0, .ref z17, .ref z18, .ref z43]))])) (va_Qi (fun (r : Int32) (_ : Unit) => r = 0) (fun _ t => wS D G (va_A [(h0, .inr (12, [.ref z0, .ref z1, .ref z2, .ref z3, .ref z4, .ref z5, .ref z20, .ref z21, .ref z22, .ref z23, .ref z24, .ref z25, .int 0, .ref z26, .ref z27, .ref z28, .int 9, .int 0, .int 0, .ref z6, .ref z29, .ref z7, .int 0, .int 2, .ref z19, .ref z8, .ref z9, .ref z10, .int 0, .ref z11, .int 0, .ref z30, .ref z31, .ref z32, .ref z33, .int 0, .ref z12, .int 0, .int 0, .ref z34, .ref z35, .ref z36, .ref z37, .int 0, .int 0, .int 0, .int 0, .ref z38, .int 0, .ref z39, .ref z40, .ref z41, .ref z42, .int 0, .ref z13, .ref z14, .ref z15, .ref z16, .int 0, .ref z17, .ref z18, .ref z43]))] sz) [(h0, .inr (12, [.ref z0, .ref z1, .ref z2, .ref z3, .ref z4, .ref z5, .ref z20, .ref z21, .ref z22, .ref z23, .ref z24, .ref z25, .int 0, .ref z26, .ref z27, .ref z28, .int 9, .int 0, .int 0, .ref z6, .ref z29, .ref z7, .int 0, .int 2, .ref z19, .ref z8, .ref z9, .ref z10, .int 0, .ref z11, .int 0, .ref z30, .ref z31, .ref z32, .ref z33, .int 0, .ref z12, .int 0, .int 0, .ref z34, .ref z35, .ref z36, .ref z37, .int 0, .int 0, .int 0, .int 0, .ref z38, .int 0, .ref z39, .ref z40, .ref z41, .ref z42, .int 0, .ref z13, .ref z14, .ref z15, .ref z16, .int 0, .ref z17, .ref z18, .ref z43]))] t) (va_A [(h0, .inr (12, [.ref z0, .ref z1, .ref z2, .ref z3, .ref z4, .ref z5, .ref z20, .ref z21, .ref z22, .ref z23, .ref z24, .ref z25, .int 0, .ref z26, .ref z27, .ref z28, .int 9, .int 0, .int 0, .ref z6, .ref z29, .ref z7, .int 0, .int 2, .ref z19, .ref z8, .ref z9, .ref z10, .int 0, .ref z11, .int 0, .ref z30, .ref z31, .ref z32, .ref z33, .int 0, .ref z12, .int 0, .int 0, .ref z34, .ref z35, .ref z36, .ref z37, .int 0, .int 0, .int 0, .int 0, .ref z38, .int 0, .ref z39, .ref z40, .ref z41, .ref z42, .int 0, .ref z13, .ref z14, .ref z15, .ref z16, .int 0, .ref z17, .ref z18, .ref z43]))] sz)) 0 0 (va_A [(h0, .inr (12, [.ref z0, .ref z1, .ref z2, .ref z3, .ref z4, .ref z5, .ref z20, .ref z21, .ref z22, .ref z23, .ref z24, .ref z25, .int 0, .ref z26, .ref z27, .ref z28, .int 9, .int 0, .int 0, .ref z6, .ref z29, .ref z7, .int 0, .int 2, .ref z19, .ref z8, .ref z9, .ref z10, .int 0, .ref z11, .int 0, .ref z30, .ref z31, .ref z32, .ref z33, .int 0, .ref z12, .int 0, .int 0, .ref z34, .ref z35, .ref z36, .ref z37, .int 0, .int 0, .int 0, .int 0, .ref z38, .int 0, .ref z39, .ref z40, .ref z41, .ref z42, .int 0, .ref z13, .ref z14, .ref z15, .ref z16, .int 0, .ref z17, .ref z18, .ref z43]))] sz) := by
  refine Met.ofW (cc := cX12_isLimb) (maxL := 3) (ret := (some .boolean)) (by decide) rfl ?_
  intro p e s m args below meth c s₁ B hml hv
  obtain ⟨rfl, hsz, hP, hK, hD0, hN⟩ := hv
  have hx := B.exec
  have hb := B.bytes
  have hr := B.returns
  have hts := atoms_spec (ws := wsX12_isLimb) B.pre
  have hown : s.vm.findClass RX12 = some m.cls := findClass_of_methodNamed B.named
  have hlocks := B.notSynchronized
  subst hsz
  have hD := hD0.self (sz := s.heap.size)
  generalize hAe : va_A [(h0, .inr (12, [.ref z0, .ref z1, .ref z2, .ref z3, .ref z4, .ref z5, .ref z20, .ref z21, .ref z22, .ref z23, .ref z24, .ref z25, .int 0, .ref z26, .ref z27, .ref z28, .int 9, .int 0, .int 0, .ref z6, .ref z29, .ref z7, .int 0, .int 2, .ref z19, .ref z8, .ref z9, .ref z10, .int 0, .ref z11, .int 0, .ref z30, .ref z31, .ref z32, .ref z33, .int 0, .ref z12, .int 0, .int 0, .ref z34, .ref z35, .ref z36, .ref z37, .int 0, .int 0, .int 0, .int 0, .ref z38, .int 0, .ref z39, .ref z40, .ref z41, .ref z42, .int 0, .ref z13, .ref z14, .ref z15, .ref z16, .int 0, .ref z17, .ref z18, .ref z43]))] s.heap.size = A at hD ⊢
  have hA : ∀ q : Nat, s.heap.size ≤ q → A q := fun q h => by rw [← hAe]; exact Or.inr h
  have hS : va_S A s.heap s.heap [] := va_S.rf
  have hP : va_P D vwCl [(h0, .inr (12, [.ref z0, .ref z1, .ref z2, .ref z3, .ref z4, .ref z5, .ref z20, .ref z21, .ref z22, .ref z23, .ref z24, .ref z25, .int 0, .ref z26, .ref z27, .ref z28, .int 9, .int 0, .int 0, .ref z6, .ref z29, .ref z7, .int 0, .int 2, .ref z19, .ref z8, .ref z9, .ref z10, .int 0, .ref z11, .int 0, .ref z30, .ref z31, .ref z32, .ref z33, .int 0, .ref z12, .int 0, .int 0, .ref z34, .ref z35, .ref z36, .ref z37, .int 0, .int 0, .int 0, .int 0, .ref z38, .int 0, .ref z39, .ref z40, .ref z41, .ref z42, .int 0, .ref z13, .ref z14, .ref z15, .ref z16, .int 0, .ref z17, .ref z18, .ref z43]))] s.heap := hP
  have hl := lv_entry ([.ref h0, .int f, .int g]) (n := 3) (Nat.le_of_ble_eq_true rfl)
  rw [lg_entry_eq]
  generalize (lg_sl ([.ref h0, .int f, .int g]) ++ List.replicate (3 - (lg_sl ([.ref h0, .int f, .int g])).length) Slot.unset).toArray = ls at hl ⊢
  have hl : lv_has ls 3 [(0, .ref h0), (1, .int f), (2, .int g)] := hl
  refine lv_aload_n hx hb dX12_isLimb_0 rfl (lv_at hl 0 rfl) ?_
  refine lv_iload_n hx hb dX12_isLimb_1 rfl (lv_at hl 1 rfl) ?_
  have hPc := hP.sub (ws' := [(h0, .inr (12, [.ref z0, .ref z1, .ref z2, .ref z3, .ref z4, .ref z5, .ref z20, .ref z21, .ref z22, .ref z23, .ref z24, .ref z25, .int 0, .ref z26, .ref z27, .ref z28, .int 9, .int 0, .int 0, .ref z6, .ref z29, .ref z7, .int 0, .int 2, .ref z19, .ref z8, .ref z9, .ref z10, .int 0, .ref z11, .int 0, .ref z30, .ref z31, .ref z32, .ref z33, .int 0, .ref z12, .int 0, .int 0, .ref z34, .ref z35, .ref z36, .ref z37, .int 0, .int 0, .int 0, .int 0, .ref z38, .int 0, .ref z39, .ref z40, .ref z41, .ref z42, .int 0, .ref z13, .ref z14, .ref z15, .ref z16, .int 0, .ref z17, .ref z18, .ref z43]))]) [0] rfl
  have hDc := hD.sub (ws' := [(h0, .inr (12, [.ref z0, .ref z1, .ref z2, .ref z3, .ref z4, .ref z5, .ref z20, .ref z21, .ref z22, .ref z23, .ref z24, .ref z25, .int 0, .ref z26, .ref z27, .ref z28, .int 9, .int 0, .int 0, .ref z6, .ref z29, .ref z7, .int 0, .int 2, .ref z19, .ref z8, .ref z9, .ref z10, .int 0, .ref z11, .int 0, .ref z30, .ref z31, .ref z32, .ref z33, .int 0, .ref z12, .int 0, .int 0, .ref z34, .ref z35, .ref z36, .ref z37, .int 0, .int 0, .int 0, .int 0, .ref z38, .int 0, .ref z39, .ref z40, .ref z41, .ref z42, .int 0, .ref z13, .ref z14, .ref z15, .ref z16, .int 0, .ref z17, .ref z18, .ref z43]))]) [0] (by decide) rfl
  have hFc := va_free (wc := [(h0, .inr (12, [.ref z0, .ref z1, .ref z2, .ref z3, .ref z4, .ref z5, .ref z20, .ref z21, .ref z22, .ref z23, .ref z24, .ref z25, .int 0, .ref z26, .ref z27, .ref z28, .int 9, .int 0, .int 0, .ref z6, .ref z29, .ref z7, .int 0, .int 2, .ref z19, .ref z8, .ref z9, .ref z10, .int 0, .ref z11, .int 0, .ref z30, .ref z31, .ref z32, .ref z33, .int 0, .ref z12, .int 0, .int 0, .ref z34, .ref z35, .ref z36, .ref z37, .int 0, .int 0, .int 0, .int 0, .ref z38, .int 0, .ref z39, .ref z40, .ref z41, .ref z42, .int 0, .ref z13, .ref z14, .ref z15, .ref z16, .int 0, .ref z17, .ref z18, .ref z43]))]) hD hS hA [0] rfl
  refine va_calli (va_runV (As := [.int f]) (rest := []) ⟨hx, hb, hml, hown, hts⟩ (kX12_isFigure l D G h0 f z0 z1 z2 z3 z4 z5 z20 z21 z22 z23 z24 z25 z26 z27 z28 z6 z29 z7 z19 z8 z9 z10 z11 z30 z31 z32 z33 z12 z34 z35 z36 z37 z38 z39 z40 z41 z42 z13 z14 z15 z16 z17 z18 z43 s.heap.size) (cwV 1 hts gX12_isLimb_X12_isFigure rfl rfl rfl (by decide +kernel) ⟨Nat.le_of_ble_eq_true rfl, Nat.le_of_ble_eq_true rfl⟩) ⟨wB_blind, va_recv hK hPc (ci := 12) (q0 := 0) rfl rfl, wB_pre hPc hK hDc hN⟩ rfl rfl hl.1 rfl (lv_room (Nat.le_of_ble_eq_true rfl)) dX12_isLimb_2 ⟨Nat.le_of_ble_eq_true rfl, Nat.le_of_ble_eq_true rfl⟩) hS (fun q _ h => hFc q h) hFc (fun r1 u t H1 locs ht hvm hr1 hB hz1 hk1 hS => ?_)
  obtain ⟨hP1, hK1, hD1⟩ := hB
  rw [ht] at hP1
  obtain ⟨hP, hD⟩ := va_join (wr := []) (w1 := [(h0, .inr (12, [.ref z0, .ref z1, .ref z2, .ref z3, .ref z4, .ref z5, .ref z20, .ref z21, .ref z22, .ref z23, .ref z24, .ref z25, .int 0, .ref z26, .ref z27, .ref z28, .int 9, .int 0, .int 0, .ref z6, .ref z29, .ref z7, .int 0, .int 2, .ref z19, .ref z8, .ref z9, .ref z10, .int 0, .ref z11, .int 0, .ref z30, .ref z31, .ref z32, .ref z33, .int 0, .ref z12, .int 0, .int 0, .ref z34, .ref z35, .ref z36, .ref z37, .int 0, .int 0, .int 0, .int 0, .ref z38, .int 0, .ref z39, .ref z40, .ref z41, .ref z42, .int 0, .ref z13, .ref z14, .ref z15, .ref z16, .int 0, .ref z17, .ref z18, .ref z43]))]) hP hD [0] [] rfl rfl (by decide) (by decide) hk1 hFc hP1 hD1
  clear hPc hDc
  generalize H1 = H at hP hS ⊢
  have hP : va_P D vwCl [(h0, .inr (12, [.ref z0, .ref z1, .ref z2, .ref z3, .ref z4, .ref z5, .ref z20, .ref z21, .ref z22, .ref z23, .ref z24, .ref z25, .int 0, .ref z26, .ref z27, .ref z28, .int 9, .int 0, .int 0, .ref z6, .ref z29, .ref z7, .int 0, .int 2, .ref z19, .ref z8, .ref z9, .ref z10, .int 0, .ref z11, .int 0, .ref z30, .ref z31, .ref z32, .ref z33, .int 0, .ref z12, .int 0, .int 0, .ref z34, .ref z35, .ref z36, .ref z37, .int 0, .int 0, .int 0, .int 0, .ref z38, .int 0, .ref z39, .ref z40, .ref z41, .ref z42, .int 0, .ref z13, .ref z14, .ref z15, .ref z16, .int 0, .ref z17, .ref z18, .ref z43]))] H := hP
  have hD : va_D A [(h0, .inr (12, [.ref z0, .ref z1, .ref z2, .ref z3, .ref z4, .ref z5, .ref z20, .ref z21, .ref z22, .ref z23, .ref z24, .ref z25, .int 0, .ref z26, .ref z27, .ref z28, .int 9, .int 0, .int 0, .ref z6, .ref z29, .ref z7, .int 0, .int 2, .ref z19, .ref z8, .ref z9, .ref z10, .int 0, .ref z11, .int 0, .ref z30, .ref z31, .ref z32, .ref z33, .int 0, .ref z12, .int 0, .int 0, .ref z34, .ref z35, .ref z36, .ref z37, .int 0, .int 0, .int 0, .int 0, .ref z38, .int 0, .ref z39, .ref z40, .ref z41, .ref z42, .int 0, .ref z13, .ref z14, .ref z15, .ref z16, .int 0, .ref z17, .ref z18, .ref z43]))] := hD
  subst hr1
  refine lv_if_eq (tgt := 28) hx hb dX12_isLimb_5 (by decide) (fun _ => ?_) (fun h9 => absurd h9 (by decide))
  refine lv_iconst (v := 0) hx hb dX12_isLimb_28 (by decide) ?_
  have hP9 := hP.sub (ws' := [(h0, .inr (12, [.ref z0, .ref z1, .ref z2, .ref z3, .ref z4, .ref z5, .ref z20, .ref z21, .ref z22, .ref z23, .ref z24, .ref z25, .int 0, .ref z26, .ref z27, .ref z28, .int 9, .int 0, .int 0, .ref z6, .ref z29, .ref z7, .int 0, .int 2, .ref z19, .ref z8, .ref z9, .ref z10, .int 0, .ref z11, .int 0, .ref z30, .ref z31, .ref z32, .ref z33, .int 0, .ref z12, .int 0, .int 0, .ref z34, .ref z35, .ref z36, .ref z37, .int 0, .int 0, .int 0, .int 0, .ref z38, .int 0, .ref z39, .ref z40, .ref z41, .ref z42, .int 0, .ref z13, .ref z14, .ref z15, .ref z16, .int 0, .ref z17, .ref z18, .ref z43]))]) [0] rfl
  have hD9 := hD.sub (ws' := [(h0, .inr (12, [.ref z0, .ref z1, .ref z2, .ref z3, .ref z4, .ref z5, .ref z20, .ref z21, .ref z22, .ref z23, .ref z24, .ref z25, .int 0, .ref z26, .ref z27, .ref z28, .int 9, .int 0, .int 0, .ref z6, .ref z29, .ref z7, .int 0, .int 2, .ref z19, .ref z8, .ref z9, .ref z10, .int 0, .ref z11, .int 0, .ref z30, .ref z31, .ref z32, .ref z33, .int 0, .ref z12, .int 0, .int 0, .ref z34, .ref z35, .ref z36, .ref z37, .int 0, .int 0, .int 0, .int 0, .ref z38, .int 0, .ref z39, .ref z40, .ref z41, .ref z42, .int 0, .ref z13, .ref z14, .ref z15, .ref z16, .int 0, .ref z17, .ref z18, .ref z43]))]) [0] (by decide) rfl
  exact W.zret (v := 0) hx hb hr rfl (fun t ht hW => ⟨⟨0, (), rfl, rfl, ⟨by rw [ht]; exact hP9, va_K.moved hW.alike hK, hD9⟩⟩, hS.F ht⟩) hS.2.2 dX12_isLimb_29

set_option maxRecDepth 20000 in
theorem ggX12_isString_X12_isFigure : GoodIn wsX12_isString wsX12_isFigure := goodIn_r _ [6, 7, 8, 9, 5, 10, 11, 12, 13, 14, 15, 16, 17, 18, 19, 20, 21, 22, 23, 24, 25, 26, 27, 28, 29, 30, 31, 32, 33, 34, 35, 36, 37, 38, 39, 40, 41, 42, 43, 44, 45, 46, 47, 48, 49, 50, 51, 52, 53, 54, 55, 56, 57, 58, 59, 60, 61, 62, 63, 64, 65, 66, 67, 68, 69, 70, 71, 72] (by decide +kernel) (by decide +kernel)
set_option maxRecDepth 20000 in
theorem gX12_isString_X12_isFigure : GoodIn wsX12_isString (wsV RX12 167 RX12 yX12_isFigure wsX12_isFigure) := goodIn_app (goodIn_of _ (by decide +kernel)) ggX12_isString_X12_isFigure
theorem dX12_isString_0 : decode cX12_isString 0 = .ok (.aload_n 0, 1) := by decide +kernel
theorem dX12_isString_1 : decode cX12_isString 1 = .ok (.iload_n 1, 1) := by decide +kernel
theorem dX12_isString_2 : decode cX12_isString 2 = .ok (.invokevirtual 167, 3) := by decide +kernel
theorem dX12_isString_5 : decode cX12_isString 5 = .ok (.ifCond .eq 23, 3) := by decide +kernel
theorem dX12_isString_28 : decode cX12_isString 28 = .ok (.iconst 0, 1) := by decide +kernel
theorem dX12_isString_29 : decode cX12_isString 29 = .ok (.ireturn, 1) := by decide +kernel
set_option maxHeartbeats 4000000 in
set_option maxRecDepth 100000 in
/-- X12_isString -/
theorem kX12_isString (l : Launch) (D : va_G) (G : tyG) (h0 : Nat) (f : Int32) (g : Int32) (z0 : Nat) (z1 : Nat) (z2 : Nat) (z3 : Nat) (z4 : Nat) (z5 : Nat) (z20 : Nat) (z21 : Nat) (z22 : Nat) (z23 : Nat) (z24 : Nat) (z25 : Nat) (z26 : Nat) (z27 : Nat) (z28 : Nat) (z6 : Nat) (z29 : Nat) (z7 : Nat) (z19 : Nat) (z8 : Nat) (z9 : Nat) (z10 : Nat) (z11 : Nat) (z30 : Nat) (z31 : Nat) (z32 : Nat) (z33 : Nat) (z12 : Nat) (z34 : Nat) (z35 : Nat) (z36 : Nat) (z37 : Nat) (z38 : Nat) (z39 : Nat) (z40 : Nat) (z41 : Nat) (z42 : Nat) (z13 : Nat) (z14 : Nat) (z15 : Nat) (z16 : Nat) (z17 : Nat) (z18 : Nat) (z43 : Nat) (sz : Nat) : Met l yX12_isString wsX12_isString ({ frames := 2, cells := 0, slots := 0, locals := 43 }) (va_Pc [.ref h0, .int f, .int g] (wB D G sz [(h0, .inr (12, [.ref z0, .ref z1, .ref z2, .ref z3, .ref z4, .ref z5, .ref z20, .ref z21, .ref z22, .ref z23, .ref z24, .ref z25, .int 0, .ref z26, .ref z27, .ref z28, .int 9, .int 0, .int 0, .ref z6, .ref z29, .ref z7, .int 0, .int 2, .ref z19, .ref z8, .ref z9, .ref z10, .int 0, .ref z11, .int 0, .ref z30, .ref z31, .ref z32, .ref z33, .int 0, .ref z12, .int 0, .int 0, .ref z34, .ref z35, .ref z36, .ref z37, .int 0, .int 0, .int 0, .int 0, .ref z38, .int 0, .ref z39, .ref z40, .ref z41, .ref z42, .int 0, .ref z13, .ref z14, .ref z15, .ref z16, .int 0, .ref z17, .ref z18, .ref z43]))])) (va_Qi (fun (r : Int32) (_ : Unit) => r = 0) (fun _ t => wS D G (va_A [(h0, .inr (12, [.ref z0, .ref z1, .ref z2, .ref z3, .ref z4, .ref z5, .ref z20, .ref z21, .ref z22, .ref z23, .ref z24, .ref z25, .int 0, .ref z26, .ref z27, .ref z28, .int 9, .int 0, .int 0, .ref z6, .ref z29, .ref z7, .int 0, .int 2, .ref z19, .ref z8, .ref z9, .ref z10, .int 0, .ref z11, .int 0, .ref z30, .ref z31, .ref z32, .ref z33, .int 0, .ref z12, .int 0, .int 0, .ref z34, .ref z35, .ref z36, .ref z37, .int 0, .int 0, .int 0, .int 0, .ref z38, .int 0, .ref z39, .ref z40, .ref z41, .ref z42, .int 0, .ref z13, .ref z14, .ref z15, .ref z16, .int 0, .ref z17, .ref z18, .ref z43]))] sz) [(h0, .inr (12, [.ref z0, .ref z1, .ref z2, .ref z3, .ref z4, .ref z5, .ref z20, .ref z21, .ref z22, .ref z23, .ref z24, .ref z25, .int 0, .ref z26, .ref z27, .ref z28, .int 9, .int 0, .int 0, .ref z6, .ref z29, .ref z7, .int 0, .int 2, .ref z19, .ref z8, .ref z9, .ref z10, .int 0, .ref z11, .int 0, .ref z30, .ref z31, .ref z32, .ref z33, .int 0, .ref z12, .int 0, .int 0, .ref z34, .ref z35, .ref z36, .ref z37, .int 0, .int 0, .int 0, .int 0, .ref z38, .int 0, .ref z39, .ref z40, .ref z41, .ref z42, .int 0, .ref z13, .ref z14, .ref z15, .ref z16, .int 0, .ref z17, .ref z18, .ref z43]))] t) (va_A [(h0, .inr (12, [.ref z0, .ref z1, .ref z2, .ref z3, .ref z4, .ref z5, .ref z20, .ref z21, .ref z22, .ref z23, .ref z24, .ref z25, .int 0, .ref z26, .ref z27, .ref z28, .int 9, .int 0, .int 0, .ref z6, .ref z29, .ref z7, .int 0, .int 2, .ref z19, .ref z8, .ref z9, .ref z10, .int 0, .ref z11, .int 0, .ref z30, .ref z31, .ref z32, .ref z33, .int 0, .ref z12, .int 0, .int 0, .ref z34, .ref z35, .ref z36, .ref z37, .int 0, .int 0, .int 0, .int 0, .ref z38, .int 0, .ref z39, .ref z40, .ref z41, .ref z42, .int 0, .ref z13, .ref z14, .ref z15, .ref z16, .int 0, .ref z17, .ref z18, .ref z43]))] sz)) 0 0 (va_A [(h0, .inr (12, [.ref z0, .ref z1, .ref z2, .ref z3, .ref z4, .ref z5, .ref z20, .ref z21, .ref z22, .ref z23, .ref z24, .ref z25, .int 0, .ref z26, .ref z27, .ref z28, .int 9, .int 0, .int 0, .ref z6, .ref z29, .ref z7, .int 0, .int 2, .ref z19, .ref z8, .ref z9, .ref z10, .int 0, .ref z11, .int 0, .ref z30, .ref z31, .ref z32, .ref z33, .int 0, .ref z12, .int 0, .int 0, .ref z34, .ref z35, .ref z36, .ref z37, .int 0, .int 0, .int 0, .int 0, .ref z38, .int 0, .ref z39, .ref z40, .ref z41, .ref z42, .int 0, .ref z13, .ref z14, .ref z15, .ref z16, .int 0, .ref z17, .ref z18, .ref z43]))] sz) := by
  refine Met.ofW (cc := cX12_isString) (maxL := 3) (ret := (some .boolean)) (by decide) rfl ?_
  intro p e s m args below meth c s₁ B hml hv
  obtain ⟨rfl, hsz, hP, hK, hD0, hN⟩ := hv
  have hx := B.exec
  have hb := B.bytes
  have hr := B.returns
  have hts := atoms_spec (ws := wsX12_isString) B.pre
  have hown : s.vm.findClass RX12 = some m.cls := findClass_of_methodNamed B.named
  have hlocks := B.notSynchronized
  subst hsz
  have hD := hD0.self (sz := s.heap.size)
  generalize hAe : va_A [(h0, .inr (12, [.ref z0, .ref z1, .ref z2, .ref z3, .ref z4, .ref z5, .ref z20, .ref z21, .ref z22, .ref z23, .ref z24, .ref z25, .int 0, .ref z26, .ref z27, .ref z28, .int 9, .int 0, .int 0, .ref z6, .ref z29, .ref z7, .int 0, .int 2, .ref z19, .ref z8, .ref z9, .ref z10, .int 0, .ref z11, .int 0, .ref z30, .ref z31, .ref z32, .ref z33, .int 0, .ref z12, .int 0, .int 0, .ref z34, .ref z35, .ref z36, .ref z37, .int 0, .int 0, .int 0, .int 0, .ref z38, .int 0, .ref z39, .ref z40, .ref z41, .ref z42, .int 0, .ref z13, .ref z14, .ref z15, .ref z16, .int 0, .ref z17, .ref z18, .ref z43]))] s.heap.size = A at hD ⊢
  have hA : ∀ q : Nat, s.heap.size ≤ q → A q := fun q h => by rw [← hAe]; exact Or.inr h
  have hS : va_S A s.heap s.heap [] := va_S.rf
  have hP : va_P D vwCl [(h0, .inr (12, [.ref z0, .ref z1, .ref z2, .ref z3, .ref z4, .ref z5, .ref z20, .ref z21, .ref z22, .ref z23, .ref z24, .ref z25, .int 0, .ref z26, .ref z27, .ref z28, .int 9, .int 0, .int 0, .ref z6, .ref z29, .ref z7, .int 0, .int 2, .ref z19, .ref z8, .ref z9, .ref z10, .int 0, .ref z11, .int 0, .ref z30, .ref z31, .ref z32, .ref z33, .int 0, .ref z12, .int 0, .int 0, .ref z34, .ref z35, .ref z36, .ref z37, .int 0, .int 0, .int 0, .int 0, .ref z38, .int 0, .ref z39, .ref z40, .ref z41, .ref z42, .int 0, .ref z13, .ref z14, .ref z15, .ref z16, .int 0, .ref z17, .ref z18, .ref z43]))] s.heap := hP
  have hl := lv_entry ([.ref h0, .int f, .int g]) (n := 3) (Nat.le_of_ble_eq_true rfl)
  rw [lg_entry_eq]
  generalize (lg_sl ([.ref h0, .int f, .int g]) ++ List.replicate (3 - (lg_sl ([.ref h0, .int f, .int g])).length) Slot.unset).toArray = ls at hl ⊢
  have hl : lv_has ls 3 [(0, .ref h0), (1, .int f), (2, .int g)] := hl
  refine lv_aload_n hx hb dX12_isString_0 rfl (lv_at hl 0 rfl) ?_
  refine lv_iload_n hx hb dX12_isString_1 rfl (lv_at hl 1 rfl) ?_
  have hPc := hP.sub (ws' := [(h0, .inr (12, [.ref z0, .ref z1, .ref z2, .ref z3, .ref z4, .ref z5, .ref z20, .ref z21, .ref z22, .ref z23, .ref z24, .ref z25, .int 0, .ref z26, .ref z27, .ref z28, .int 9, .int 0, .int 0, .ref z6, .ref z29, .ref z7, .int 0, .int 2, .ref z19, .ref z8, .ref z9, .ref z10, .int 0, .ref z11, .int 0, .ref z30, .ref z31, .ref z32, .ref z33, .int 0, .ref z12, .int 0, .int 0, .ref z34, .ref z35, .ref z36, .ref z37, .int 0, .int 0, .int 0, .int 0, .ref z38, .int 0, .ref z39, .ref z40, .ref z41, .ref z42, .int 0, .ref z13, .ref z14, .ref z15, .ref z16, .int 0, .ref z17, .ref z18, .ref z43]))]) [0] rfl
  have hDc := hD.sub (ws' := [(h0, .inr (12, [.ref z0, .ref z1, .ref z2, .ref z3, .ref z4, .ref z5, .ref z20, .ref z21, .ref z22, .ref z23, .ref z24, .ref z25, .int 0, .ref z26, .ref z27, .ref z28, .int 9, .int 0, .int 0, .ref z6, .ref z29, .ref z7, .int 0, .int 2, .ref z19, .ref z8, .ref z9, .ref z10, .int 0, .ref z11, .int 0, .ref z30, .ref z31, .ref z32, .ref z33, .int 0, .ref z12, .int 0, .int 0, .ref z34, .ref z35, .ref z36, .ref z37, .int 0, .int 0, .int 0, .int 0, .ref z38, .int 0, .ref z39, .ref z40, .ref z41, .ref z42, .int 0, .ref z13, .ref z14, .ref z15, .ref z16, .int 0, .ref z17, .ref z18, .ref z43]))]) [0] (by decide) rfl
  have hFc := va_free (wc := [(h0, .inr (12, [.ref z0, .ref z1, .ref z2, .ref z3, .ref z4, .ref z5, .ref z20, .ref z21, .ref z22, .ref z23, .ref z24, .ref z25, .int 0, .ref z26, .ref z27, .ref z28, .int 9, .int 0, .int 0, .ref z6, .ref z29, .ref z7, .int 0, .int 2, .ref z19, .ref z8, .ref z9, .ref z10, .int 0, .ref z11, .int 0, .ref z30, .ref z31, .ref z32, .ref z33, .int 0, .ref z12, .int 0, .int 0, .ref z34, .ref z35, .ref z36, .ref z37, .int 0, .int 0, .int 0, .int 0, .ref z38, .int 0, .ref z39, .ref z40, .ref z41, .ref z42, .int 0, .ref z13, .ref z14, .ref z15, .ref z16, .int 0, .ref z17, .ref z18, .ref z43]))]) hD hS hA [0] rfl
  refine va_calli (va_runV (As := [.int f]) (rest := []) ⟨hx, hb, hml, hown, hts⟩ (kX12_isFigure l D G h0 f z0 z1 z2 z3 z4 z5 z20 z21 z22 z23 z24 z25 z26 z27 z28 z6 z29 z7 z19 z8 z9 z10 z11 z30 z31 z32 z33 z12 z34 z35 z36 z37 z38 z39 z40 z41 z42 z13 z14 z15 z16 z17 z18 z43 s.heap.size) (cwV 1 hts gX12_isString_X12_isFigure rfl rfl rfl (by decide +kernel) ⟨Nat.le_of_ble_eq_true rfl, Nat.le_of_ble_eq_true rfl⟩) ⟨wB_blind, va_recv hK hPc (ci := 12) (q0 := 0) rfl rfl, wB_pre hPc hK hDc hN⟩ rfl rfl hl.1 rfl (lv_room (Nat.le_of_ble_eq_true rfl)) dX12_isString_2 ⟨Nat.le_of_ble_eq_true rfl, Nat.le_of_ble_eq_true rfl⟩) hS (fun q _ h => hFc q h) hFc (fun r1 u t H1 locs ht hvm hr1 hB hz1 hk1 hS => ?_)
  obtain ⟨hP1, hK1, hD1⟩ := hB
  rw [ht] at hP1
  obtain ⟨hP, hD⟩ := va_join (wr := []) (w1 := [(h0, .inr (12, [.ref z0, .ref z1, .ref z2, .ref z3, .ref z4, .ref z5, .ref z20, .ref z21, .ref z22, .ref z23, .ref z24, .ref z25, .int 0, .ref z26, .ref z27, .ref z28, .int 9, .int 0, .int 0, .ref z6, .ref z29, .ref z7, .int 0, .int 2, .ref z19, .ref z8, .ref z9, .ref z10, .int 0, .ref z11, .int 0, .ref z30, .ref z31, .ref z32, .ref z33, .int 0, .ref z12, .int 0, .int 0, .ref z34, .ref z35, .ref z36, .ref z37, .int 0, .int 0, .int 0, .int 0, .ref z38, .int 0, .ref z39, .ref z40, .ref z41, .ref z42, .int 0, .ref z13, .ref z14, .ref z15, .ref z16, .int 0, .ref z17, .ref z18, .ref z43]))]) hP hD [0] [] rfl rfl (by decide) (by decide) hk1 hFc hP1 hD1
  clear hPc hDc
  generalize H1 = H at hP hS ⊢
  have hP : va_P D vwCl [(h0, .inr (12, [.ref z0, .ref z1, .ref z2, .ref z3, .ref z4, .ref z5, .ref z20, .ref z21, .ref z22, .ref z23, .ref z24, .ref z25, .int 0, .ref z26, .ref z27, .ref z28, .int 9, .int 0, .int 0, .ref z6, .ref z29, .ref z7, .int 0, .int 2, .ref z19, .ref z8, .ref z9, .ref z10, .int 0, .ref z11, .int 0, .ref z30, .ref z31, .ref z32, .ref z33, .int 0, .ref z12, .int 0, .int 0, .ref z34, .ref z35, .ref z36, .ref z37, .int 0, .int 0, .int 0, .int 0, .ref z38, .int 0, .ref z39, .ref z40, .ref z41, .ref z42, .int 0, .ref z13, .ref z14, .ref z15, .ref z16, .int 0, .ref z17, .ref z18, .ref z43]))] H := hP
  have hD : va_D A [(h0, .inr (12, [.ref z0, .ref z1, .ref z2, .ref z3, .ref z4, .ref z5, .ref z20, .ref z21, .ref z22, .ref z23, .ref z24, .ref z25, .int 0, .ref z26, .ref z27, .ref z28, .int 9, .int 0, .int 0, .ref z6, .ref z29, .ref z7, .int 0, .int 2, .ref z19, .ref z8, .ref z9, .ref z10, .int 0, .ref z11, .int 0, .ref z30, .ref z31, .ref z32, .ref z33, .int 0, .ref z12, .int 0, .int 0, .ref z34, .ref z35, .ref z36, .ref z37, .int 0, .int 0, .int 0, .int 0, .ref z38, .int 0, .ref z39, .ref z40, .ref z41, .ref z42, .int 0, .ref z13, .ref z14, .ref z15, .ref z16, .int 0, .ref z17, .ref z18, .ref z43]))] := hD
  subst hr1
  refine lv_if_eq (tgt := 28) hx hb dX12_isString_5 (by decide) (fun _ => ?_) (fun h9 => absurd h9 (by decide))
  refine lv_iconst (v := 0) hx hb dX12_isString_28 (by decide) ?_
  have hP9 := hP.sub (ws' := [(h0, .inr (12, [.ref z0, .ref z1, .ref z2, .ref z3, .ref z4, .ref z5, .ref z20, .ref z21, .ref z22, .ref z23, .ref z24, .ref z25, .int 0, .ref z26, .ref z27, .ref z28, .int 9, .int 0, .int 0, .ref z6, .ref z29, .ref z7, .int 0, .int 2, .ref z19, .ref z8, .ref z9, .ref z10, .int 0, .ref z11, .int 0, .ref z30, .ref z31, .ref z32, .ref z33, .int 0, .ref z12, .int 0, .int 0, .ref z34, .ref z35, .ref z36, .ref z37, .int 0, .int 0, .int 0, .int 0, .ref z38, .int 0, .ref z39, .ref z40, .ref z41, .ref z42, .int 0, .ref z13, .ref z14, .ref z15, .ref z16, .int 0, .ref z17, .ref z18, .ref z43]))]) [0] rfl
  have hD9 := hD.sub (ws' := [(h0, .inr (12, [.ref z0, .ref z1, .ref z2, .ref z3, .ref z4, .ref z5, .ref z20, .ref z21, .ref z22, .ref z23, .ref z24, .ref z25, .int 0, .ref z26, .ref z27, .ref z28, .int 9, .int 0, .int 0, .ref z6, .ref z29, .ref z7, .int 0, .int 2, .ref z19, .ref z8, .ref z9, .ref z10, .int 0, .ref z11, .int 0, .ref z30, .ref z31, .ref z32, .ref z33, .int 0, .ref z12, .int 0, .int 0, .ref z34, .ref z35, .ref z36, .ref z37, .int 0, .int 0, .int 0, .int 0, .ref z38, .int 0, .ref z39, .ref z40, .ref z41, .ref z42, .int 0, .ref z13, .ref z14, .ref z15, .ref z16, .int 0, .ref z17, .ref z18, .ref z43]))]) [0] (by decide) rfl
  exact W.zret (v := 0) hx hb hr rfl (fun t ht hW => ⟨⟨0, (), rfl, rfl, ⟨by rw [ht]; exact hP9, va_K.moved hW.alike hK, hD9⟩⟩, hS.F ht⟩) hS.2.2 dX12_isString_29

set_option maxRecDepth 20000 in
theorem ggX12_areTwo_X12_isFigure : GoodIn wsX12_areTwo wsX12_isFigure := goodIn_r _ [5, 6, 7, 8, 4, 9, 10, 11, 12, 13, 14, 15, 16, 17, 18, 19, 20, 21, 22, 23, 24, 25, 26, 27, 28, 29, 30, 31, 32, 33, 34, 35, 36, 37, 38, 39, 40, 41, 42, 43, 44, 45, 46, 47, 48, 49, 50, 51, 52, 53, 54, 55, 56, 57, 58, 59, 60, 61, 62, 63, 64, 65, 66, 67, 68, 69, 70, 71] (by decide +kernel) (by decide +kernel)
set_option maxRecDepth 20000 in
theorem gX12_areTwo_X12_isFigure : GoodIn wsX12_areTwo (wsV RX12 167 RX12 yX12_isFigure wsX12_isFigure) := goodIn_app (goodIn_of _ (by decide +kernel)) ggX12_areTwo_X12_isFigure
theorem dX12_areTwo_0 : decode cX12_areTwo 0 = .ok (.aload_n 0, 1) := by decide +kernel
theorem dX12_areTwo_1 : decode cX12_areTwo 1 = .ok (.iload_n 1, 1) := by decide +kernel
theorem dX12_areTwo_2 : decode cX12_areTwo 2 = .ok (.invokevirtual 167, 3) := by decide +kernel
theorem dX12_areTwo_5 : decode cX12_areTwo 5 = .ok (.ifCond .eq 20, 3) := by decide +kernel
theorem dX12_areTwo_25 : decode cX12_areTwo 25 = .ok (.iconst 0, 1) := by decide +kernel
theorem dX12_areTwo_26 : decode cX12_areTwo 26 = .ok (.ireturn, 1) := by decide +kernel
set_option maxHeartbeats 4000000 in
set_option maxRecDepth 100000 in
/-- X12_areTwo -/
theorem kX12_areTwo (l : Launch) (D : va_G) (G : tyG) (h0 : Nat) (f : Int32) (g : Int32) (z0 : Nat) (z1 : Nat) (z2 : Nat) (z3 : Nat) (z4 : Nat) (z5 : Nat) (z20 : Nat) (z21 : Nat) (z22 : Nat) (z23 : Nat) (z24 : Nat) (z25 : Nat) (z26 : Nat) (z27 : Nat) (z28 : Nat) (z6 : Nat) (z29 : Nat) (z7 : Nat) (z19 : Nat) (z8 : Nat) (z9 : Nat) (z10 : Nat) (z11 : Nat) (z30 : Nat) (z31 : Nat) (z32 : Nat) (z33 : Nat) (z12 : Nat) (z34 : Nat) (z35 : Nat) (z36 : Nat) (z37 : Nat) (z38 : Nat) (z39 : Nat) (z40 : Nat) (z41 : Nat) (z42 : Nat) (z13 : Nat) (z14 : Nat) (z15 : Nat) (z16 : Nat) (z17 : Nat) (z18 : Nat) (z43 : Nat) (sz : Nat) : Met l yX12_areTwo wsX12_areTwo ({ frames := 2, cells := 0, slots := 0, locals := 43 }) (va_Pc [.ref h0, .int f, .int g] (wB D G sz [(h0, .inr (12, [.ref z0, .ref z1, .ref z2, .ref z3, .ref z4, .ref z5, .ref z20, .ref z21, .ref z22, .ref z23, .ref z24, .ref z25, .int 0, .ref z26, .ref z27, .ref z28, .int 9, .int 0, .int 0, .ref z6, .ref z29, .ref z7, .int 0, .int 2, .ref z19, .ref z8, .ref z9, .ref z10, .int 0, .ref z11, .int 0, .ref z30, .ref z31, .ref z32, .ref z33, .int 0, .ref z12, .int 0, .int 0, .ref z34, .ref z35, .ref z36, .ref z37, .int 0, .int 0, .int 0, .int 0, .ref z38, .int 0, .ref z39, .ref z40, .ref z41, .ref z42, .int 0, .ref z13, .ref z14, .ref z15, .ref z16, .int 0, .ref z17, .ref z18, .ref z43]))])) (va_Qi (fun (r : Int32) (_ : Unit) => r = 0) (fun _ t => wS D G (va_A [(h0, .inr (12, [.ref z0, .ref z1, .ref z2, .ref z3, .ref z4, .ref z5, .ref z20, .ref z21, .ref z22, .ref z23, .ref z24, .ref z25, .int 0, .ref z26, .ref z27, .ref z28, .int 9, .int 0, .int 0, .ref z6, .ref z29, .ref z7, .int 0, .int 2, .ref z19, .ref z8, .ref z9, .ref z10, .int 0, .ref z11, .int 0, .ref z30, .ref z31, .ref z32, .ref z33, .int 0, .ref z12, .int 0, .int 0, .ref z34, .ref z35, .ref z36, .ref z37, .int 0, .int 0, .int 0, .int 0, .ref z38, .int 0, .ref z39, .ref z40, .ref z41, .ref z42, .int 0, .ref z13, .ref z14, .ref z15, .ref z16, .int 0, .ref z17, .ref z18, .ref z43]))] sz) [(h0, .inr (12, [.ref z0, .ref z1, .ref z2, .ref z3, .ref z4, .ref z5, .ref z20, .ref z21, .ref z22, .ref z23, .ref z24, .ref z25, .int 0, .ref z26, .ref z27, .ref z28, .int 9, .int 0, .int 0, .ref z6, .ref z29, .ref z7, .int 0, .int 2, .ref z19, .ref z8, .ref z9, .ref z10, .int 0, .ref z11, .int 0, .ref z30, .ref z31, .ref z32, .ref z33, .int 0, .ref z12, .int 0, .int 0, .ref z34, .ref z35, .ref z36, .ref z37, .int 0, .int 0, .int 0, .int 0, .ref z38, .int 0, .ref z39, .ref z40, .ref z41, .ref z42, .int 0, .ref z13, .ref z14, .ref z15, .ref z16, .int 0, .ref z17, .ref z18, .ref z43]))] t) (va_A [(h0, .inr (12, [.ref z0, .ref z1, .ref z2, .ref z3, .ref z4, .ref z5, .ref z20, .ref z21, .ref z22, .ref z23, .ref z24, .ref z25, .int 0, .ref z26, .ref z27, .ref z28, .int 9, .int 0, .int 0, .ref z6, .ref z29, .ref z7, .int 0, .int 2, .ref z19, .ref z8, .ref z9, .ref z10, .int 0, .ref z11, .int 0, .ref z30, .ref z31, .ref z32, .ref z33, .int 0, .ref z12, .int 0, .int 0, .ref z34, .ref z35, .ref z36, .ref z37, .int 0, .int 0, .int 0, .int 0, .ref z38, .int 0, .ref z39, .ref z40, .ref z41, .ref z42, .int 0, .ref z13, .ref z14, .ref z15, .ref z16, .int 0, .ref z17, .ref z18, .ref z43]))] sz)) 0 0 (va_A [(h0, .inr (12, [.ref z0, .ref z1, .ref z2, .ref z3, .ref z4, .ref z5, .ref z20, .ref z21, .ref z22, .ref z23, .ref z24, .ref z25, .int 0, .ref z26, .ref z27, .ref z28, .int 9, .int 0, .int 0, .ref z6, .ref z29, .ref z7, .int 0, .int 2, .ref z19, .ref z8, .ref z9, .ref z10, .int 0, .ref z11, .int 0, .ref z30, .ref z31, .ref z32, .ref z33, .int 0, .ref z12, .int 0, .int 0, .ref z34, .ref z35, .ref z36, .ref z37, .int 0, .int 0, .int 0, .int 0, .ref z38, .int 0, .ref z39, .ref z40, .ref z41, .ref z42, .int 0, .ref z13, .ref z14, .ref z15, .ref z16, .int 0, .ref z17, .ref z18, .ref z43]))] sz) := by
  refine Met.ofW (cc := cX12_areTwo) (maxL := 3) (ret := (some .boolean)) (by decide) rfl ?_
  intro p e s m args below meth c s₁ B hml hv
  obtain ⟨rfl, hsz, hP, hK, hD0, hN⟩ := hv
  have hx := B.exec
  have hb := B.bytes
  have hr := B.returns
  have hts := atoms_spec (ws := wsX12_areTwo) B.pre
  have hown : s.vm.findClass RX12 = some m.cls := findClass_of_methodNamed B.named
  have hlocks := B.notSynchronized
  subst hsz
  have hD := hD0.self (sz := s.heap.size)
  generalize hAe : va_A [(h0, .inr (12, [.ref z0, .ref z1, .ref z2, .ref z3, .ref z4, .ref z5, .ref z20, .ref z21, .ref z22, .ref z23, .ref z24, .ref z25, .int 0, .ref z26, .ref z27, .ref z28, .int 9, .int 0, .int 0, .ref z6, .ref z29, .ref z7, .int 0, .int 2, .ref z19, .ref z8, .ref z9, .ref z10, .int 0, .ref z11, .int 0, .ref z30, .ref z31, .ref z32, .ref z33, .int 0, .ref z12, .int 0, .int 0, .ref z34, .ref z35, .ref z36, .ref z37, .int 0, .int 0, .int 0, .int 0, .ref z38, .int 0, .ref z39, .ref z40, .ref z41, .ref z42, .int 0, .ref z13, .ref z14, .ref z15, .ref z16, .int 0, .ref z17, .ref z18, .ref z43]))] s.heap.size = A at hD ⊢
  have hA : ∀ q : Nat, s.heap.size ≤ q → A q := fun q h => by rw [← hAe]; exact Or.inr h
  have hS : va_S A s.heap s.heap [] := va_S.rf
  have hP : va_P D vwCl [(h0, .inr (12, [.ref z0, .ref z1, .ref z2, .ref z3, .ref z4, .ref z5, .ref z20, .ref z21, .ref z22, .ref z23, .ref z24, .ref z25, .int 0, .ref z26, .ref z27, .ref z28, .int 9, .int 0, .int 0, .ref z6, .ref z29, .ref z7, .int 0, .int 2, .ref z19, .ref z8, .ref z9, .ref z10, .int 0, .ref z11, .int 0, .ref z30, .ref z31, .ref z32, .ref z33, .int 0, .ref z12, .int 0, .int 0, .ref z34, .ref z35, .ref z36, .ref z37, .int 0, .int 0, .int 0, .int 0, .ref z38, .int 0, .ref z39, .ref z40, .ref z41, .ref z42, .int 0, .ref z13, .ref z14, .ref z15, .ref z16, .int 0, .ref z17, .ref z18, .ref z43]))] s.heap := hP
  have hl := lv_entry ([.ref h0, .int f, .int g]) (n := 3) (Nat.le_of_ble_eq_true rfl)
  rw [lg_entry_eq]
  generalize (lg_sl ([.ref h0, .int f, .int g]) ++ List.replicate (3 - (lg_sl ([.ref h0, .int f, .int g])).length) Slot.unset).toArray = ls at hl ⊢
  have hl : lv_has ls 3 [(0, .ref h0), (1, .int f), (2, .int g)] := hl
  refine lv_aload_n hx hb dX12_areTwo_0 rfl (lv_at hl 0 rfl) ?_
  refine lv_iload_n hx hb dX12_areTwo_1 rfl (lv_at hl 1 rfl) ?_
  have hPc := hP.sub (ws' := [(h0, .inr (12, [.ref z0, .ref z1, .ref z2, .ref z3, .ref z4, .ref z5, .ref z20, .ref z21, .ref z22, .ref z23, .ref z24, .ref z25, .int 0, .ref z26, .ref z27, .ref z28, .int 9, .int 0, .int 0, .ref z6, .ref z29, .ref z7, .int 0, .int 2, .ref z19, .ref z8, .ref z9, .ref z10, .int 0, .ref z11, .int 0, .ref z30, .ref z31, .ref z32, .ref z33, .int 0, .ref z12, .int 0, .int 0, .ref z34, .ref z35, .ref z36, .ref z37, .int 0, .int 0, .int 0, .int 0, .ref z38, .int 0, .ref z39, .ref z40, .ref z41, .ref z42, .int 0, .ref z13, .ref z14, .ref z15, .ref z16, .int 0, .ref z17, .ref z18, .ref z43]))]) [0] rfl
  have hDc := hD.sub (ws' := [(h0, .inr (12, [.ref z0, .ref z1, .ref z2, .ref z3, .ref z4, .ref z5, .ref z20, .ref z21, .ref z22, .ref z23, .ref z24, .ref z25, .int 0, .ref z26, .ref z27, .ref z28, .int 9, .int 0, .int 0, .ref z6, .ref z29, .ref z7, .int 0, .int 2, .ref z19, .ref z8, .ref z9, .ref z10, .int 0, .ref z11, .int 0, .ref z30, .ref z31, .ref z32, .ref z33, .int 0, .ref z12, .int 0, .int 0, .ref z34, .ref z35, .ref z36, .ref z37, .int 0, .int 0, .int 0, .int 0, .ref z38, .int 0, .ref z39, .ref z40, .ref z41, .ref z42, .int 0, .ref z13, .ref z14, .ref z15, .ref z16, .int 0, .ref z17, .ref z18, .ref z43]))]) [0] (by decide) rfl
  have hFc := va_free (wc := [(h0, .inr (12, [.ref z0, .ref z1, .ref z2, .ref z3, .ref z4, .ref z5, .ref z20, .ref z21, .ref z22, .ref z23, .ref z24, .ref z25, .int 0, .ref z26, .ref z27, .ref z28, .int 9, .int 0, .int 0, .ref z6, .ref z29, .ref z7, .int 0, .int 2, .ref z19, .ref z8, .ref z9, .ref z10, .int 0, .ref z11, .int 0, .ref z30, .ref z31, .ref z32, .ref z33, .int 0, .ref z12, .int 0, .int 0, .ref z34, .ref z35, .ref z36, .ref z37, .int 0, .int 0, .int 0, .int 0, .ref z38, .int 0, .ref z39, .ref z40, .ref z41, .ref z42, .int 0, .ref z13, .ref z14, .ref z15, .ref z16, .int 0, .ref z17, .ref z18, .ref z43]))]) hD hS hA [0] rfl
  refine va_calli (va_runV (As := [.int f]) (rest := []) ⟨hx, hb, hml, hown, hts⟩ (kX12_isFigure l D G h0 f z0 z1 z2 z3 z4 z5 z20 z21 z22 z23 z24 z25 z26 z27 z28 z6 z29 z7 z19 z8 z9 z10 z11 z30 z31 z32 z33 z12 z34 z35 z36 z37 z38 z39 z40 z41 z42 z13 z14 z15 z16 z17 z18 z43 s.heap.size) (cwV 1 hts gX12_areTwo_X12_isFigure rfl rfl rfl (by decide +kernel) ⟨Nat.le_of_ble_eq_true rfl, Nat.le_of_ble_eq_true rfl⟩) ⟨wB_blind, va_recv hK hPc (ci := 12) (q0 := 0) rfl rfl, wB_pre hPc hK hDc hN⟩ rfl rfl hl.1 rfl (lv_room (Nat.le_of_ble_eq_true rfl)) dX12_areTwo_2 ⟨Nat.le_of_ble_eq_true rfl, Nat.le_of_ble_eq_true rfl⟩) hS (fun q _ h => hFc q h) hFc (fun r1 u t H1 locs ht hvm hr1 hB hz1 hk1 hS => ?_)
  obtain ⟨hP1, hK1, hD1⟩ := hB
  rw [ht] at hP1
  obtain ⟨hP, hD⟩ := va_join (wr := []) (w1 := [(h0, .inr (12, [.ref z0, .ref z1, .ref z2, .ref z3, .ref z4, .ref z5, .ref z20, .ref z21, .ref z22, .ref z23, .ref z24, .ref z25, .int 0, .ref z26, .ref z27, .ref z28, .int 9, .int 0, .int 0, .ref z6, .ref z29, .ref z7, .int 0, .int 2, .ref z19, .ref z8, .ref z9, .ref z10, .int 0, .ref z11, .int 0, .ref z30, .ref z31, .ref z32, .ref z33, .int 0, .ref z12, .int 0, .int 0, .ref z34, .ref z35, .ref z36, .ref z37, .int 0, .int 0, .int 0, .int 0, .ref z38, .int 0, .ref z39, .ref z40, .ref z41, .ref z42, .int 0, .ref z13, .ref z14, .ref z15, .ref z16, .int 0, .ref z17, .ref z18, .ref z43]))]) hP hD [0] [] rfl rfl (by decide) (by decide) hk1 hFc hP1 hD1
  clear hPc hDc
  generalize H1 = H at hP hS ⊢
  have hP : va_P D vwCl [(h0, .inr (12, [.ref z0, .ref z1, .ref z2, .ref z3, .ref z4, .ref z5, .ref z20, .ref z21, .ref z22, .ref z23, .ref z24, .ref z25, .int 0, .ref z26, .ref z27, .ref z28, .int 9, .int 0, .int 0, .ref z6, .ref z29, .ref z7, .int 0, .int 2, .ref z19, .ref z8, .ref z9, .ref z10, .int 0, .ref z11, .int 0, .ref z30, .ref z31, .ref z32, .ref z33, .int 0, .ref z12, .int 0, .int 0, .ref z34, .ref z35, .ref z36, .ref z37, .int 0, .int 0, .int 0, .int 0, .ref z38, .int 0, .ref z39, .ref z40, .ref z41, .ref z42, .int 0, .ref z13, .ref z14, .ref z15, .ref z16, .int 0, .ref z17, .ref z18, .ref z43]))] H := hP
  have hD : va_D A [(h0, .inr (12, [.ref z0, .ref z1, .ref z2, .ref z3, .ref z4, .ref z5, .ref z20, .ref z21, .ref z22, .ref z23, .ref z24, .ref z25, .int 0, .ref z26, .ref z27, .ref z28, .int 9, .int 0, .int 0, .ref z6, .ref z29, .ref z7, .int 0, .int 2, .ref z19, .ref z8, .ref z9, .ref z10, .int 0, .ref z11, .int 0, .ref z30, .ref z31, .ref z32, .ref z33, .int 0, .ref z12, .int 0, .int 0, .ref z34, .ref z35, .ref z36, .ref z37, .int 0, .int 0, .int 0, .int 0, .ref z38, .int 0, .ref z39, .ref z40, .ref z41, .ref z42, .int 0, .ref z13, .ref z14, .ref z15, .ref z16, .int 0, .ref z17, .ref z18, .ref z43]))] := hD
  subst hr1
  refine lv_if_eq (tgt := 25) hx hb dX12_areTwo_5 (by decide) (fun _ => ?_) (fun h9 => absurd h9 (by decide))
  refine lv_iconst (v := 0) hx hb dX12_areTwo_25 (by decide) ?_
  have hP9 := hP.sub (ws' := [(h0, .inr (12, [.ref z0, .ref z1, .ref z2, .ref z3, .ref z4, .ref z5, .ref z20, .ref z21, .ref z22, .ref z23, .ref z24, .ref z25, .int 0, .ref z26, .ref z27, .ref z28, .int 9, .int 0, .int 0, .ref z6, .ref z29, .ref z7, .int 0, .int 2, .ref z19, .ref z8, .ref z9, .ref z10, .int 0, .ref z11, .int 0, .ref z30, .ref z31, .ref z32, .ref z33, .int 0, .ref z12, .int 0, .int 0, .ref z34, .ref z35, .ref z36, .ref z37, .int 0, .int 0, .int 0, .int 0, .ref z38, .int 0, .ref z39, .ref z40, .ref z41, .ref z42, .int 0, .ref z13, .ref z14, .ref z15, .ref z16, .int 0, .ref z17, .ref z18, .ref z43]))]) [0] rfl
  have hD9 := hD.sub (ws' := [(h0, .inr (12, [.ref z0, .ref z1, .ref z2, .ref z3, .ref z4, .ref z5, .ref z20, .ref z21, .ref z22, .ref z23, .ref z24, .ref z25, .int 0, .ref z26, .ref z27, .ref z28, .int 9, .int 0, .int 0, .ref z6, .ref z29, .ref z7, .int 0, .int 2, .ref z19, .ref z8, .ref z9, .ref z10, .int 0, .ref z11, .int 0, .ref z30, .ref z31, .ref z32, .ref z33, .int 0, .ref z12, .int 0, .int 0, .ref z34, .ref z35, .ref z36, .ref z37, .int 0, .int 0, .int 0, .int 0, .ref z38, .int 0, .ref z39, .ref z40, .ref z41, .ref z42, .int 0, .ref z13, .ref z14, .ref z15, .ref z16, .int 0, .ref z17, .ref z18, .ref z43]))]) [0] (by decide) rfl
  exact W.zret (v := 0) hx hb hr rfl (fun t ht hW => ⟨⟨0, (), rfl, rfl, ⟨by rw [ht]; exact hP9, va_K.moved hW.alike hK, hD9⟩⟩, hS.F ht⟩) hS.2.2 dX12_areTwo_26

theorem mX12_lost_w0 : Cond.fieldLink RX12 157 "PuppetBridgeModel" "thrown" "I" ∈ wsX12_lost := by decide +kernel
theorem iX12_lost_X12 : ∀ w ∈ wsX120, w ∈ wsX12_lost := fun _ h => List.mem_cons_of_mem _ (List.mem_append_right _ h)
theorem dX12_lost_0 : decode cX12_lost 0 = .ok (.aload_n 0, 1) := by decide +kernel
theorem dX12_lost_1 : decode cX12_lost 1 = .ok (.iconst 1, 1) := by decide +kernel
theorem dX12_lost_2 : decode cX12_lost 2 = .ok (.putfield 157, 3) := by decide +kernel
theorem dX12_lost_5 : decode cX12_lost 5 = .ok (.iconst 0, 1) := by decide +kernel
theorem dX12_lost_6 : decode cX12_lost 6 = .ok (.ireturn, 1) := by decide +kernel
set_option maxHeartbeats 4000000 in
set_option maxRecDepth 100000 in
/-- X12_lost -/
theorem kX12_lost (l : Launch) (D : va_G) (G : tyG) (h0 : Nat) (z0 : Nat) (z1 : Nat) (z2 : Nat) (z3 : Nat) (z4 : Nat) (z5 : Nat) (z20 : Nat) (z21 : Nat) (z22 : Nat) (z23 : Nat) (z24 : Nat) (z25 : Nat) (z26 : Nat) (z27 : Nat) (z28 : Nat) (z6 : Nat) (z29 : Nat) (z7 : Nat) (z19 : Nat) (z8 : Nat) (z9 : Nat) (z10 : Nat) (z11 : Nat) (z30 : Nat) (z31 : Nat) (z32 : Nat) (z33 : Nat) (z12 : Nat) (z34 : Nat) (z35 : Nat) (z36 : Nat) (z37 : Nat) (z38 : Nat) (z39 : Nat) (z40 : Nat) (z41 : Nat) (z42 : Nat) (z13 : Nat) (z14 : Nat) (z15 : Nat) (z16 : Nat) (z17 : Nat) (z18 : Nat) (z43 : Nat) (sz : Nat) : Met l yX12_lost wsX12_lost ({ frames := 0, cells := 0, slots := 0, locals := 0 }) (va_Pc [.ref h0] (wB D G sz [(h0, .inr (12, [.ref z0, .ref z1, .ref z2, .ref z3, .ref z4, .ref z5, .ref z20, .ref z21, .ref z22, .ref z23, .ref z24, .ref z25, .int 0, .ref z26, .ref z27, .ref z28, .int 9, .int 0, .int 0, .ref z6, .ref z29, .ref z7, .int 0, .int 2, .ref z19, .ref z8, .ref z9, .ref z10, .int 0, .ref z11, .int 0, .ref z30, .ref z31, .ref z32, .ref z33, .int 0, .ref z12, .int 0, .int 0, .ref z34, .ref z35, .ref z36, .ref z37, .int 0, .int 0, .int 0, .int 0, .ref z38, .int 0, .ref z39, .ref z40, .ref z41, .ref z42, .int 0, .ref z13, .ref z14, .ref z15, .ref z16, .int 0, .ref z17, .ref z18, .ref z43]))])) (va_Qi (fun (r : Int32) (_ : Unit) => r = 0) (fun _ t => wS D G (va_A [(h0, .inr (12, [.ref z0, .ref z1, .ref z2, .ref z3, .ref z4, .ref z5, .ref z20, .ref z21, .ref z22, .ref z23, .ref z24, .ref z25, .int 0, .ref z26, .ref z27, .ref z28, .int 9, .int 0, .int 0, .ref z6, .ref z29, .ref z7, .int 0, .int 2, .ref z19, .ref z8, .ref z9, .ref z10, .int 0, .ref z11, .int 0, .ref z30, .ref z31, .ref z32, .ref z33, .int 0, .ref z12, .int 0, .int 0, .ref z34, .ref z35, .ref z36, .ref z37, .int 0, .int 0, .int 0, .int 0, .ref z38, .int 0, .ref z39, .ref z40, .ref z41, .ref z42, .int 0, .ref z13, .ref z14, .ref z15, .ref z16, .int 0, .ref z17, .ref z18, .ref z43]))] sz) [(h0, .inr (12, [.ref z0, .ref z1, .ref z2, .ref z3, .ref z4, .ref z5, .ref z20, .ref z21, .ref z22, .ref z23, .ref z24, .ref z25, .int 0, .ref z26, .ref z27, .ref z28, .int 9, .int 0, .int 0, .ref z6, .ref z29, .ref z7, .int 0, .int 2, .ref z19, .ref z8, .ref z9, .ref z10, .int 0, .ref z11, .int 0, .ref z30, .ref z31, .ref z32, .ref z33, .int 0, .ref z12, .int 0, .int 1, .ref z34, .ref z35, .ref z36, .ref z37, .int 0, .int 0, .int 0, .int 0, .ref z38, .int 0, .ref z39, .ref z40, .ref z41, .ref z42, .int 0, .ref z13, .ref z14, .ref z15, .ref z16, .int 0, .ref z17, .ref z18, .ref z43]))] t) (va_A [(h0, .inr (12, [.ref z0, .ref z1, .ref z2, .ref z3, .ref z4, .ref z5, .ref z20, .ref z21, .ref z22, .ref z23, .ref z24, .ref z25, .int 0, .ref z26, .ref z27, .ref z28, .int 9, .int 0, .int 0, .ref z6, .ref z29, .ref z7, .int 0, .int 2, .ref z19, .ref z8, .ref z9, .ref z10, .int 0, .ref z11, .int 0, .ref z30, .ref z31, .ref z32, .ref z33, .int 0, .ref z12, .int 0, .int 0, .ref z34, .ref z35, .ref z36, .ref z37, .int 0, .int 0, .int 0, .int 0, .ref z38, .int 0, .ref z39, .ref z40, .ref z41, .ref z42, .int 0, .ref z13, .ref z14, .ref z15, .ref z16, .int 0, .ref z17, .ref z18, .ref z43]))] sz)) 0 0 (va_A [(h0, .inr (12, [.ref z0, .ref z1, .ref z2, .ref z3, .ref z4, .ref z5, .ref z20, .ref z21, .ref z22, .ref z23, .ref z24, .ref z25, .int 0, .ref z26, .ref z27, .ref z28, .int 9, .int 0, .int 0, .ref z6, .ref z29, .ref z7, .int 0, .int 2, .ref z19, .ref z8, .ref z9, .ref z10, .int 0, .ref z11, .int 0, .ref z30, .ref z31, .ref z32, .ref z33, .int 0, .ref z12, .int 0, .int 0, .ref z34, .ref z35, .ref z36, .ref z37, .int 0, .int 0, .int 0, .int 0, .ref z38, .int 0, .ref z39, .ref z40, .ref z41, .ref z42, .int 0, .ref z13, .ref z14, .ref z15, .ref z16, .int 0, .ref z17, .ref z18, .ref z43]))] sz) := by
  refine Met.ofW (cc := cX12_lost) (maxL := 1) (ret := (some .int)) (by decide) rfl ?_
  intro p e s m args below meth c s₁ B hml hv
  obtain ⟨rfl, hsz, hP, hK, hD0, hN⟩ := hv
  have hx := B.exec
  have hb := B.bytes
  have hr := B.returns
  have hts := atoms_spec (ws := wsX12_lost) B.pre
  have hown : s.vm.findClass RX12 = some m.cls := findClass_of_methodNamed B.named
  have hlocks := B.notSynchronized
  subst hsz
  have hD := hD0.self (sz := s.heap.size)
  generalize hAe : va_A [(h0, .inr (12, [.ref z0, .ref z1, .ref z2, .ref z3, .ref z4, .ref z5, .ref z20, .ref z21, .ref z22, .ref z23, .ref z24, .ref z25, .int 0, .ref z26, .ref z27, .ref z28, .int 9, .int 0, .int 0, .ref z6, .ref z29, .ref z7, .int 0, .int 2, .ref z19, .ref z8, .ref z9, .ref z10, .int 0, .ref z11, .int 0, .ref z30, .ref z31, .ref z32, .ref z33, .int 0, .ref z12, .int 0, .int 0, .ref z34, .ref z35, .ref z36, .ref z37, .int 0, .int 0, .int 0, .int 0, .ref z38, .int 0, .ref z39, .ref z40, .ref z41, .ref z42, .int 0, .ref z13, .ref z14, .ref z15, .ref z16, .int 0, .ref z17, .ref z18, .ref z43]))] s.heap.size = A at hD ⊢
  have hA : ∀ q : Nat, s.heap.size ≤ q → A q := fun q h => by rw [← hAe]; exact Or.inr h
  have hS : va_S A s.heap s.heap [] := va_S.rf
  have hP : va_P D vwCl [(h0, .inr (12, [.ref z0, .ref z1, .ref z2, .ref z3, .ref z4, .ref z5, .ref z20, .ref z21, .ref z22, .ref z23, .ref z24, .ref z25, .int 0, .ref z26, .ref z27, .ref z28, .int 9, .int 0, .int 0, .ref z6, .ref z29, .ref z7, .int 0, .int 2, .ref z19, .ref z8, .ref z9, .ref z10, .int 0, .ref z11, .int 0, .ref z30, .ref z31, .ref z32, .ref z33, .int 0, .ref z12, .int 0, .int 0, .ref z34, .ref z35, .ref z36, .ref z37, .int 0, .int 0, .int 0, .int 0, .ref z38, .int 0, .ref z39, .ref z40, .ref z41, .ref z42, .int 0, .ref z13, .ref z14, .ref z15, .ref z16, .int 0, .ref z17, .ref z18, .ref z43]))] s.heap := hP
  have hl := lv_entry ([.ref h0]) (n := 1) (Nat.le_of_ble_eq_true rfl)
  rw [lg_entry_eq]
  generalize (lg_sl ([.ref h0]) ++ List.replicate (1 - (lg_sl ([.ref h0])).length) Slot.unset).toArray = ls at hl ⊢
  have hl : lv_has ls 1 [(0, .ref h0)] := hl
  refine lv_aload_n hx hb dX12_lost_0 rfl (lv_at hl 0 rfl) ?_
  refine lv_iconst (v := 1) hx hb dX12_lost_1 (by decide) ?_
  refine va_put (D := D) (ci := 12) (v := .int 1) (ty := (tyX12 38)) (C := RX12) (T := TX12) (N := 62) hx hb hts iX12_lost_X12 tyX12 tyX12_ok nmX12 hown hK hP hD hS 0 rfl rfl 38 (by decide) (hts (.fieldLink RX12 157 "PuppetBridgeModel" "thrown" "I") mX12_lost_w0) (fun _ h9 => h9) rfl (tyX12_ok 38 (by decide)) rfl rfl (Nat.le_of_ble_eq_true rfl) dX12_lost_2 (fun H locs hP hD hS => ?_)
  have hP : va_P D vwCl [(h0, .inr (12, [.ref z0, .ref z1, .ref z2, .ref z3, .ref z4, .ref z5, .ref z20, .ref z21, .ref z22, .ref z23, .ref z24, .ref z25, .int 0, .ref z26, .ref z27, .ref z28, .int 9, .int 0, .int 0, .ref z6, .ref z29, .ref z7, .int 0, .int 2, .ref z19, .ref z8, .ref z9, .ref z10, .int 0, .ref z11, .int 0, .ref z30, .ref z31, .ref z32, .ref z33, .int 0, .ref z12, .int 0, .int 1, .ref z34, .ref z35, .ref z36, .ref z37, .int 0, .int 0, .int 0, .int 0, .ref z38, .int 0, .ref z39, .ref z40, .ref z41, .ref z42, .int 0, .ref z13, .ref z14, .ref z15, .ref z16, .int 0, .ref z17, .ref z18, .ref z43]))] H := hP
  have hD : va_D A [(h0, .inr (12, [.ref z0, .ref z1, .ref z2, .ref z3, .ref z4, .ref z5, .ref z20, .ref z21, .ref z22, .ref z23, .ref z24, .ref z25, .int 0, .ref z26, .ref z27, .ref z28, .int 9, .int 0, .int 0, .ref z6, .ref z29, .ref z7, .int 0, .int 2, .ref z19, .ref z8, .ref z9, .ref z10, .int 0, .ref z11, .int 0, .ref z30, .ref z31, .ref z32, .ref z33, .int 0, .ref z12, .int 0, .int 1, .ref z34, .ref z35, .ref z36, .ref z37, .int 0, .int 0, .int 0, .int 0, .ref z38, .int 0, .ref z39, .ref z40, .ref z41, .ref z42, .int 0, .ref z13, .ref z14, .ref z15, .ref z16, .int 0, .ref z17, .ref z18, .ref z43]))] := hD
  refine lv_iconst (v := 0) hx hb dX12_lost_5 (by decide) ?_
  have hP9 := hP.sub (ws' := [(h0, .inr (12, [.ref z0, .ref z1, .ref z2, .ref z3, .ref z4, .ref z5, .ref z20, .ref z21, .ref z22, .ref z23, .ref z24, .ref z25, .int 0, .ref z26, .ref z27, .ref z28, .int 9, .int 0, .int 0, .ref z6, .ref z29, .ref z7, .int 0, .int 2, .ref z19, .ref z8, .ref z9, .ref z10, .int 0, .ref z11, .int 0, .ref z30, .ref z31, .ref z32, .ref z33, .int 0, .ref z12, .int 0, .int 1, .ref z34, .ref z35, .ref z36, .ref z37, .int 0, .int 0, .int 0, .int 0, .ref z38, .int 0, .ref z39, .ref z40, .ref z41, .ref z42, .int 0, .ref z13, .ref z14, .ref z15, .ref z16, .int 0, .ref z17, .ref z18, .ref z43]))]) [0] rfl
  have hD9 := hD.sub (ws' := [(h0, .inr (12, [.ref z0, .ref z1, .ref z2, .ref z3, .ref z4, .ref z5, .ref z20, .ref z21, .ref z22, .ref z23, .ref z24, .ref z25, .int 0, .ref z26, .ref z27, .ref z28, .int 9, .int 0, .int 0, .ref z6, .ref z29, .ref z7, .int 0, .int 2, .ref z19, .ref z8, .ref z9, .ref z10, .int 0, .ref z11, .int 0, .ref z30, .ref z31, .ref z32, .ref z33, .int 0, .ref z12, .int 0, .int 1, .ref z34, .ref z35, .ref z36, .ref z37, .int 0, .int 0, .int 0, .int 0, .ref z38, .int 0, .ref z39, .ref z40, .ref z41, .ref z42, .int 0, .ref z13, .ref z14, .ref z15, .ref z16, .int 0, .ref z17, .ref z18, .ref z43]))]) [0] (by decide) rfl
  exact W.iret (v := 0) hx hb hr (fun t ht hW => ⟨⟨0, (), rfl, rfl, ⟨by rw [ht]; exact hP9, va_K.moved hW.alike hK, hD9⟩⟩, hS.F ht⟩) hS.2.2 dX12_lost_6

theorem mX12_thrown_w0 : Cond.fieldLink RX12 157 "PuppetBridgeModel" "thrown" "I" ∈ wsX12_thrown := by decide +kernel
theorem iX12_thrown_X12 : ∀ w ∈ wsX120, w ∈ wsX12_thrown := fun _ h => List.mem_cons_of_mem _ (List.mem_append_right _ h)
theorem dX12_thrown_0 : decode cX12_thrown 0 = .ok (.aload_n 0, 1) := by decide +kernel
theorem dX12_thrown_1 : decode cX12_thrown 1 = .ok (.getfield 157, 3) := by decide +kernel
theorem dX12_thrown_4 : decode cX12_thrown 4 = .ok (.ireturn, 1) := by decide +kernel
set_option maxHeartbeats 4000000 in
set_option maxRecDepth 100000 in
/-- X12_thrown -/
theorem kX12_thrown (l : Launch) (D : va_G) (G : tyG) (h0 : Nat) (z0 : Nat) (z1 : Nat) (z2 : Nat) (z3 : Nat) (z4 : Nat) (z5 : Nat) (z20 : Nat) (z21 : Nat) (z22 : Nat) (z23 : Nat) (z24 : Nat) (z25 : Nat) (z26 : Nat) (z27 : Nat) (z28 : Nat) (z6 : Nat) (z29 : Nat) (z7 : Nat) (z19 : Nat) (z8 : Nat) (z9 : Nat) (z10 : Nat) (z11 : Nat) (z30 : Nat) (z31 : Nat) (z32 : Nat) (z33 : Nat) (z12 : Nat) (z34 : Nat) (z35 : Nat) (z36 : Nat) (z37 : Nat) (z38 : Nat) (z39 : Nat) (z40 : Nat) (z41 : Nat) (z42 : Nat) (z13 : Nat) (z14 : Nat) (z15 : Nat) (z16 : Nat) (z17 : Nat) (z18 : Nat) (z43 : Nat) (sz : Nat) : Met l yX12_thrown wsX12_thrown ({ frames := 0, cells := 0, slots := 0, locals := 0 }) (va_Pc [.ref h0] (wB D G sz [(h0, .inr (12, [.ref z0, .ref z1, .ref z2, .ref z3, .ref z4, .ref z5, .ref z20, .ref z21, .ref z22, .ref z23, .ref z24, .ref z25, .int 0, .ref z26, .ref z27, .ref z28, .int 9, .int 0, .int 0, .ref z6, .ref z29, .ref z7, .int 0, .int 2, .ref z19, .ref z8, .ref z9, .ref z10, .int 0, .ref z11, .int 0, .ref z30, .ref z31, .ref z32, .ref z33, .int 0, .ref z12, .int 0, .int 1, .ref z34, .ref z35, .ref z36, .ref z37, .int 0, .int 0, .int 0, .int 0, .ref z38, .int 0, .ref z39, .ref z40, .ref z41, .ref z42, .int 0, .ref z13, .ref z14, .ref z15, .ref z16, .int 0, .ref z17, .ref z18, .ref z43]))])) (va_Qi (fun (r : Int32) (_ : Unit) => r = 1) (fun _ _ => True) (va_A [(h0, .inr (12, [.ref z0, .ref z1, .ref z2, .ref z3, .ref z4, .ref z5, .ref z20, .ref z21, .ref z22, .ref z23, .ref z24, .ref z25, .int 0, .ref z26, .ref z27, .ref z28, .int 9, .int 0, .int 0, .ref z6, .ref z29, .ref z7, .int 0, .int 2, .ref z19, .ref z8, .ref z9, .ref z10, .int 0, .ref z11, .int 0, .ref z30, .ref z31, .ref z32, .ref z33, .int 0, .ref z12, .int 0, .int 1, .ref z34, .ref z35, .ref z36, .ref z37, .int 0, .int 0, .int 0, .int 0, .ref z38, .int 0, .ref z39, .ref z40, .ref z41, .ref z42, .int 0, .ref z13, .ref z14, .ref z15, .ref z16, .int 0, .ref z17, .ref z18, .ref z43]))] sz)) 0 0 (va_A [(h0, .inr (12, [.ref z0, .ref z1, .ref z2, .ref z3, .ref z4, .ref z5, .ref z20, .ref z21, .ref z22, .ref z23, .ref z24, .ref z25, .int 0, .ref z26, .ref z27, .ref z28, .int 9, .int 0, .int 0, .ref z6, .ref z29, .ref z7, .int 0, .int 2, .ref z19, .ref z8, .ref z9, .ref z10, .int 0, .ref z11, .int 0, .ref z30, .ref z31, .ref z32, .ref z33, .int 0, .ref z12, .int 0, .int 1, .ref z34, .ref z35, .ref z36, .ref z37, .int 0, .int 0, .int 0, .int 0, .ref z38, .int 0, .ref z39, .ref z40, .ref z41, .ref z42, .int 0, .ref z13, .ref z14, .ref z15, .ref z16, .int 0, .ref z17, .ref z18, .ref z43]))] sz) := by
  refine Met.ofW (cc := cX12_thrown) (maxL := 1) (ret := (some .int)) (by decide) rfl ?_
  intro p e s m args below meth c s₁ B hml hv
  obtain ⟨rfl, hsz, hP, hK, hD0, hN⟩ := hv
  have hx := B.exec
  have hb := B.bytes
  have hr := B.returns
  have hts := atoms_spec (ws := wsX12_thrown) B.pre
  have hown : s.vm.findClass RX12 = some m.cls := findClass_of_methodNamed B.named
  have hlocks := B.notSynchronized
  subst hsz
  have hD := hD0.self (sz := s.heap.size)
  generalize hAe : va_A [(h0, .inr (12, [.ref z0, .ref z1, .ref z2, .ref z3, .ref z4, .ref z5, .ref z20, .ref z21, .ref z22, .ref z23, .ref z24, .ref z25, .int 0, .ref z26, .ref z27, .ref z28, .int 9, .int 0, .int 0, .ref z6, .ref z29, .ref z7, .int 0, .int 2, .ref z19, .ref z8, .ref z9, .ref z10, .int 0, .ref z11, .int 0, .ref z30, .ref z31, .ref z32, .ref z33, .int 0, .ref z12, .int 0, .int 1, .ref z34, .ref z35, .ref z36, .ref z37, .int 0, .int 0, .int 0, .int 0, .ref z38, .int 0, .ref z39, .ref z40, .ref z41, .ref z42, .int 0, .ref z13, .ref z14, .ref z15, .ref z16, .int 0, .ref z17, .ref z18, .ref z43]))] s.heap.size = A at hD ⊢
  have hA : ∀ q : Nat, s.heap.size ≤ q → A q := fun q h => by rw [← hAe]; exact Or.inr h
  have hS : va_S A s.heap s.heap [] := va_S.rf
  have hP : va_P D vwCl [(h0, .inr (12, [.ref z0, .ref z1, .ref z2, .ref z3, .ref z4, .ref z5, .ref z20, .ref z21, .ref z22, .ref z23, .ref z24, .ref z25, .int 0, .ref z26, .ref z27, .ref z28, .int 9, .int 0, .int 0, .ref z6, .ref z29, .ref z7, .int 0, .int 2, .ref z19, .ref z8, .ref z9, .ref z10, .int 0, .ref z11, .int 0, .ref z30, .ref z31, .ref z32, .ref z33, .int 0, .ref z12, .int 0, .int 1, .ref z34, .ref z35, .ref z36, .ref z37, .int 0, .int 0, .int 0, .int 0, .ref z38, .int 0, .ref z39, .ref z40, .ref z41, .ref z42, .int 0, .ref z13, .ref z14, .ref z15, .ref z16, .int 0, .ref z17, .ref z18, .ref z43]))] s.heap := hP
  have hl := lv_entry ([.ref h0]) (n := 1) (Nat.le_of_ble_eq_true rfl)
  rw [lg_entry_eq]
  generalize (lg_sl ([.ref h0]) ++ List.replicate (1 - (lg_sl ([.ref h0])).length) Slot.unset).toArray = ls at hl ⊢
  have hl : lv_has ls 1 [(0, .ref h0)] := hl
  refine lv_aload_n hx hb dX12_thrown_0 rfl (lv_at hl 0 rfl) ?_
  refine va_get (D := D) (ci := 12) (v := .int 1) (C := RX12) (T := TX12) (N := 62) hx hb hts iX12_thrown_X12 hown hK hP 0 rfl rfl 38 (by decide) (hts (.fieldLink RX12 157 "PuppetBridgeModel" "thrown" "I") mX12_thrown_w0) (fun _ h9 => h9) rfl dX12_thrown_1 ?_
  exact W.iret (v := 1) hx hb hr (fun t ht hW => ⟨⟨1, (), rfl, rfl, trivial⟩, hS.F ht⟩) hS.2.2 dX12_thrown_4

theorem mX12_limb_w0 : Cond.fieldLink RX12 157 "PuppetBridgeModel" "thrown" "I" ∈ wsX12_limb := by decide +kernel
theorem iX12_limb_X12 : ∀ w ∈ wsX120, w ∈ wsX12_limb := fun _ h => List.mem_cons_of_mem _ (List.mem_append_right _ h)
set_option maxRecDepth 20000 in
theorem ggX12_limb_X12_isLimb : GoodIn wsX12_limb wsX12_isLimb := goodIn_r _ [7, 2, 8, 9, 10, 6, 11, 12, 13, 14, 15, 28, 29, 30, 31, 32, 33, 34, 35, 36, 37, 38, 39, 40, 41, 42, 43, 44, 45, 46, 47, 48, 49, 50, 51, 52, 53, 54, 55, 56, 57, 58, 59, 60, 61, 62, 63, 64, 65, 66, 67, 68, 69, 70, 71, 72, 73, 74, 75, 76, 77, 78, 79, 80, 81, 82, 83, 84, 85, 86, 87, 88, 89] (by decide +kernel) (by decide +kernel)
set_option maxRecDepth 20000 in
theorem gX12_limb_X12_isLimb : GoodIn wsX12_limb (wsV RX12 178 RX12 yX12_isLimb wsX12_isLimb) := goodIn_app (goodIn_of _ (by decide +kernel)) ggX12_limb_X12_isLimb
theorem dX12_limb_0 : decode cX12_limb 0 = .ok (.aload_n 0, 1) := by decide +kernel
theorem dX12_limb_1 : decode cX12_limb 1 = .ok (.iconst 0, 1) := by decide +kernel
theorem dX12_limb_2 : decode cX12_limb 2 = .ok (.putfield 157, 3) := by decide +kernel
theorem dX12_limb_5 : decode cX12_limb 5 = .ok (.aload_n 0, 1) := by decide +kernel
theorem dX12_limb_6 : decode cX12_limb 6 = .ok (.iload_n 1, 1) := by decide +kernel
theorem dX12_limb_7 : decode cX12_limb 7 = .ok (.iload_n 2, 1) := by decide +kernel
theorem dX12_limb_8 : decode cX12_limb 8 = .ok (.invokevirtual 178, 3) := by decide +kernel
theorem dX12_limb_11 : decode cX12_limb 11 = .ok (.ifCond .eq 35, 3) := by decide +kernel
theorem dX12_limb_46 : decode cX12_limb 46 = .ok (.iconst (-1), 1) := by decide +kernel
theorem dX12_limb_47 : decode cX12_limb 47 = .ok (.ireturn, 1) := by decide +kernel
set_option maxHeartbeats 4000000 in
set_option maxRecDepth 100000 in
/-- X12_limb -/
theorem kX12_limb (l : Launch) (D : va_G) (G : tyG) (h0 : Nat) (x1 : Int32) (x2 : Int32) (x3 : Int32) (x4 : Int32) (x5 : Int32) (x6 : Int32) (z0 : Nat) (z1 : Nat) (z2 : Nat) (z3 : Nat) (z4 : Nat) (z5 : Nat) (z20 : Nat) (z21 : Nat) (z22 : Nat) (z23 : Nat) (z24 : Nat) (z25 : Nat) (z26 : Nat) (z27 : Nat) (z28 : Nat) (z6 : Nat) (z29 : Nat) (z7 : Nat) (z19 : Nat) (z8 : Nat) (z9 : Nat) (z10 : Nat) (z11 : Nat) (z30 : Nat) (z31 : Nat) (z32 : Nat) (z33 : Nat) (z12 : Nat) (z34 : Nat) (z35 : Nat) (z36 : Nat) (z37 : Nat) (z38 : Nat) (z39 : Nat) (z40 : Nat) (z41 : Nat) (z42 : Nat) (z13 : Nat) (z14 : Nat) (z15 : Nat) (z16 : Nat) (z17 : Nat) (z18 : Nat) (z43 : Nat) (sz : Nat) : Met l yX12_limb wsX12_limb ({ frames := 3, cells := 0, slots := 0, locals := 65 }) (va_Pc [.ref h0, .int x1, .int x2, .int x3, .int x4, .int x5, .int x6] (wB D G sz [(h0, .inr (12, [.ref z0, .ref z1, .ref z2, .ref z3, .ref z4, .ref z5, .ref z20, .ref z21, .ref z22, .ref z23, .ref z24, .ref z25, .int 0, .ref z26, .ref z27, .ref z28, .int 9, .int 0, .int 0, .ref z6, .ref z29, .ref z7, .int 0, .int 2, .ref z19, .ref z8, .ref z9, .ref z10, .int 0, .ref z11, .int 0, .ref z30, .ref z31, .ref z32, .ref z33, .int 0, .ref z12, .int 0, .int 0, .ref z34, .ref z35, .ref z36, .ref z37, .int 0, .int 0, .int 0, .int 0, .ref z38, .int 0, .ref z39, .ref z40, .ref z41, .ref z42, .int 0, .ref z13, .ref z14, .ref z15, .ref z16, .int 0, .ref z17, .ref z18, .ref z43]))])) (va_Qi (fun (r : Int32) (_ : Unit) => r = (-1)) (fun _ _ => True) (va_A [(h0, .inr (12, [.ref z0, .ref z1, .ref z2, .ref z3, .ref z4, .ref z5, .ref z20, .ref z21, .ref z22, .ref z23, .ref z24, .ref z25, .int 0, .ref z26, .ref z27, .ref z28, .int 9, .int 0, .int 0, .ref z6, .ref z29, .ref z7, .int 0, .int 2, .ref z19, .ref z8, .ref z9, .ref z10, .int 0, .ref z11, .int 0, .ref z30, .ref z31, .ref z32, .ref z33, .int 0, .ref z12, .int 0, .int 0, .ref z34, .ref z35, .ref z36, .ref z37, .int 0, .int 0, .int 0, .int 0, .ref z38, .int 0, .ref z39, .ref z40, .ref z41, .ref z42, .int 0, .ref z13, .ref z14, .ref z15, .ref z16, .int 0, .ref z17, .ref z18, .ref z43]))] sz)) 0 0 (va_A [(h0, .inr (12, [.ref z0, .ref z1, .ref z2, .ref z3, .ref z4, .ref z5, .ref z20, .ref z21, .ref z22, .ref z23, .ref z24, .ref z25, .int 0, .ref z26, .ref z27, .ref z28, .int 9, .int 0, .int 0, .ref z6, .ref z29, .ref z7, .int 0, .int 2, .ref z19, .ref z8, .ref z9, .ref z10, .int 0, .ref z11, .int 0, .ref z30, .ref z31, .ref z32, .ref z33, .int 0, .ref z12, .int 0, .int 0, .ref z34, .ref z35, .ref z36, .ref z37, .int 0, .int 0, .int 0, .int 0, .ref z38, .int 0, .ref z39, .ref z40, .ref z41, .ref z42, .int 0, .ref z13, .ref z14, .ref z15, .ref z16, .int 0, .ref z17, .ref z18, .ref z43]))] sz) := by
  refine Met.ofW (cc := cX12_limb) (maxL := 7) (ret := (some .int)) (by decide) rfl ?_
  intro p e s m args below meth c s₁ B hml hv
  obtain ⟨rfl, hsz, hP, hK, hD0, hN⟩ := hv
  have hx := B.exec
  have hb := B.bytes
  have hr := B.returns
  have hts := atoms_spec (ws := wsX12_limb) B.pre
  have hown : s.vm.findClass RX12 = some m.cls := findClass_of_methodNamed B.named
  have hlocks := B.notSynchronized
  subst hsz
  have hD := hD0.self (sz := s.heap.size)
  generalize hAe : va_A [(h0, .inr (12, [.ref z0, .ref z1, .ref z2, .ref z3, .ref z4, .ref z5, .ref z20, .ref z21, .ref z22, .ref z23, .ref z24, .ref z25, .int 0, .ref z26, .ref z27, .ref z28, .int 9, .int 0, .int 0, .ref z6, .ref z29, .ref z7, .int 0, .int 2, .ref z19, .ref z8, .ref z9, .ref z10, .int 0, .ref z11, .int 0, .ref z30, .ref z31, .ref z32, .ref z33, .int 0, .ref z12, .int 0, .int 0, .ref z34, .ref z35, .ref z36, .ref z37, .int 0, .int 0, .int 0, .int 0, .ref z38, .int 0, .ref z39, .ref z40, .ref z41, .ref z42, .int 0, .ref z13, .ref z14, .ref z15, .ref z16, .int 0, .ref z17, .ref z18, .ref z43]))] s.heap.size = A at hD ⊢
  have hA : ∀ q : Nat, s.heap.size ≤ q → A q := fun q h => by rw [← hAe]; exact Or.inr h
  have hS : va_S A s.heap s.heap [] := va_S.rf
  have hP : va_P D vwCl [(h0, .inr (12, [.ref z0, .ref z1, .ref z2, .ref z3, .ref z4, .ref z5, .ref z20, .ref z21, .ref z22, .ref z23, .ref z24, .ref z25, .int 0, .ref z26, .ref z27, .ref z28, .int 9, .int 0, .int 0, .ref z6, .ref z29, .ref z7, .int 0, .int 2, .ref z19, .ref z8, .ref z9, .ref z10, .int 0, .ref z11, .int 0, .ref z30, .ref z31, .ref z32, .ref z33, .int 0, .ref z12, .int 0, .int 0, .ref z34, .ref z35, .ref z36, .ref z37, .int 0, .int 0, .int 0, .int 0, .ref z38, .int 0, .ref z39, .ref z40, .ref z41, .ref z42, .int 0, .ref z13, .ref z14, .ref z15, .ref z16, .int 0, .ref z17, .ref z18, .ref z43]))] s.heap := hP
  have hl := lv_entry ([.ref h0, .int x1, .int x2, .int x3, .int x4, .int x5, .int x6]) (n := 7) (Nat.le_of_ble_eq_true rfl)
  rw [lg_entry_eq]
  generalize (lg_sl ([.ref h0, .int x1, .int x2, .int x3, .int x4, .int x5, .int x6]) ++ List.replicate (7 - (lg_sl ([.ref h0, .int x1, .int x2, .int x3, .int x4, .int x5, .int x6])).length) Slot.unset).toArray = ls at hl ⊢
  have hl : lv_has ls 7 [(0, .ref h0), (1, .int x1), (2, .int x2), (3, .int x3), (4, .int x4), (5, .int x5), (6, .int x6)] := hl
  refine lv_aload_n hx hb dX12_limb_0 rfl (lv_at hl 0 rfl) ?_
  refine lv_iconst (v := 0) hx hb dX12_limb_1 (by decide) ?_
  refine va_put (D := D) (ci := 12) (v := .int 0) (ty := (tyX12 38)) (C := RX12) (T := TX12) (N := 62) hx hb hts iX12_limb_X12 tyX12 tyX12_ok nmX12 hown hK hP hD hS 0 rfl rfl 38 (by decide) (hts (.fieldLink RX12 157 "PuppetBridgeModel" "thrown" "I") mX12_limb_w0) (fun _ h9 => h9) rfl (tyX12_ok 38 (by decide)) rfl rfl (Nat.le_of_ble_eq_true rfl) dX12_limb_2 (fun H locs hP hD hS => ?_)
  have hP : va_P D vwCl [(h0, .inr (12, [.ref z0, .ref z1, .ref z2, .ref z3, .ref z4, .ref z5, .ref z20, .ref z21, .ref z22, .ref z23, .ref z24, .ref z25, .int 0, .ref z26, .ref z27, .ref z28, .int 9, .int 0, .int 0, .ref z6, .ref z29, .ref z7, .int 0, .int 2, .ref z19, .ref z8, .ref z9, .ref z10, .int 0, .ref z11, .int 0, .ref z30, .ref z31, .ref z32, .ref z33, .int 0, .ref z12, .int 0, .int 0, .ref z34, .ref z35, .ref z36, .ref z37, .int 0, .int 0, .int 0, .int 0, .ref z38, .int 0, .ref z39, .ref z40, .ref z41, .ref z42, .int 0, .ref z13, .ref z14, .ref z15, .ref z16, .int 0, .ref z17, .ref z18, .ref z43]))] H := hP
  have hD : va_D A [(h0, .inr (12, [.ref z0, .ref z1, .ref z2, .ref z3, .ref z4, .ref z5, .ref z20, .ref z21, .ref z22, .ref z23, .ref z24, .ref z25, .int 0, .ref z26, .ref z27, .ref z28, .int 9, .int 0, .int 0, .ref z6, .ref z29, .ref z7, .int 0, .int 2, .ref z19, .ref z8, .ref z9, .ref z10, .int 0, .ref z11, .int 0, .ref z30, .ref z31, .ref z32, .ref z33, .int 0, .ref z12, .int 0, .int 0, .ref z34, .ref z35, .ref z36, .ref z37, .int 0, .int 0, .int 0, .int 0, .ref z38, .int 0, .ref z39, .ref z40, .ref z41, .ref z42, .int 0, .ref z13, .ref z14, .ref z15, .ref z16, .int 0, .ref z17, .ref z18, .ref z43]))] := hD
  refine lv_aload_n hx hb dX12_limb_5 rfl (lv_at hl 0 rfl) ?_
  refine lv_iload_n hx hb dX12_limb_6 rfl (lv_at hl 1 rfl) ?_
  refine lv_iload_n hx hb dX12_limb_7 rfl (lv_at hl 2 rfl) ?_
  have hPc := hP.sub (ws' := [(h0, .inr (12, [.ref z0, .ref z1, .ref z2, .ref z3, .ref z4, .ref z5, .ref z20, .ref z21, .ref z22, .ref z23, .ref z24, .ref z25, .int 0, .ref z26, .ref z27, .ref z28, .int 9, .int 0, .int 0, .ref z6, .ref z29, .ref z7, .int 0, .int 2, .ref z19, .ref z8, .ref z9, .ref z10, .int 0, .ref z11, .int 0, .ref z30, .ref z31, .ref z32, .ref z33, .int 0, .ref z12, .int 0, .int 0, .ref z34, .ref z35, .ref z36, .ref z37, .int 0, .int 0, .int 0, .int 0, .ref z38, .int 0, .ref z39, .ref z40, .ref z41, .ref z42, .int 0, .ref z13, .ref z14, .ref z15, .ref z16, .int 0, .ref z17, .ref z18, .ref z43]))]) [0] rfl
  have hDc := hD.sub (ws' := [(h0, .inr (12, [.ref z0, .ref z1, .ref z2, .ref z3, .ref z4, .ref z5, .ref z20, .ref z21, .ref z22, .ref z23, .ref z24, .ref z25, .int 0, .ref z26, .ref z27, .ref z28, .int 9, .int 0, .int 0, .ref z6, .ref z29, .ref z7, .int 0, .int 2, .ref z19, .ref z8, .ref z9, .ref z10, .int 0, .ref z11, .int 0, .ref z30, .ref z31, .ref z32, .ref z33, .int 0, .ref z12, .int 0, .int 0, .ref z34, .ref z35, .ref z36, .ref z37, .int 0, .int 0, .int 0, .int 0, .ref z38, .int 0, .ref z39, .ref z40, .ref z41, .ref z42, .int 0, .ref z13, .ref z14, .ref z15, .ref z16, .int 0, .ref z17, .ref z18, .ref z43]))]) [0] (by decide) rfl
  have hFc := va_free (wc := [(h0, .inr (12, [.ref z0, .ref z1, .ref z2, .ref z3, .ref z4, .ref z5, .ref z20, .ref z21, .ref z22, .ref z23, .ref z24, .ref z25, .int 0, .ref z26, .ref z27, .ref z28, .int 9, .int 0, .int 0, .ref z6, .ref z29, .ref z7, .int 0, .int 2, .ref z19, .ref z8, .ref z9, .ref z10, .int 0, .ref z11, .int 0, .ref z30, .ref z31, .ref z32, .ref z33, .int 0, .ref z12, .int 0, .int 0, .ref z34, .ref z35, .ref z36, .ref z37, .int 0, .int 0, .int 0, .int 0, .ref z38, .int 0, .ref z39, .ref z40, .ref z41, .ref z42, .int 0, .ref z13, .ref z14, .ref z15, .ref z16, .int 0, .ref z17, .ref z18, .ref z43]))]) hD hS hA [0] rfl
  refine va_calli (va_runV (As := [.int x1, .int x2]) (rest := []) ⟨hx, hb, hml, hown, hts⟩ (kX12_isLimb l D G h0 x1 x2 z0 z1 z2 z3 z4 z5 z20 z21 z22 z23 z24 z25 z26 z27 z28 z6 z29 z7 z19 z8 z9 z10 z11 z30 z31 z32 z33 z12 z34 z35 z36 z37 z38 z39 z40 z41 z42 z13 z14 z15 z16 z17 z18 z43 H.size) (cwV 2 hts gX12_limb_X12_isLimb rfl rfl rfl (by decide +kernel) ⟨Nat.le_of_ble_eq_true rfl, Nat.le_of_ble_eq_true rfl⟩) ⟨wB_blind, va_recv hK hPc (ci := 12) (q0 := 0) rfl rfl, wB_pre hPc hK hDc hN⟩ rfl rfl hl.1 rfl (lv_room (Nat.le_of_ble_eq_true rfl)) dX12_limb_8 ⟨Nat.le_of_ble_eq_true rfl, Nat.le_of_ble_eq_true rfl⟩) hS (fun q _ h => hFc q h) hFc (fun r1 u t H1 locs ht hvm hr1 hB hz1 hk1 hS => ?_)
  obtain ⟨hP1, hK1, hD1⟩ := hB
  rw [ht] at hP1
  obtain ⟨hP, hD⟩ := va_join (wr := []) (w1 := [(h0, .inr (12, [.ref z0, .ref z1, .ref z2, .ref z3, .ref z4, .ref z5, .ref z20, .ref z21, .ref z22, .ref z23, .ref z24, .ref z25, .int 0, .ref z26, .ref z27, .ref z28, .int 9, .int 0, .int 0, .ref z6, .ref z29, .ref z7, .int 0, .int 2, .ref z19, .ref z8, .ref z9, .ref z10, .int 0, .ref z11, .int 0, .ref z30, .ref z31, .ref z32, .ref z33, .int 0, .ref z12, .int 0, .int 0, .ref z34, .ref z35, .ref z36, .ref z37, .int 0, .int 0, .int 0, .int 0, .ref z38, .int 0, .ref z39, .ref z40, .ref z41, .ref z42, .int 0, .ref z13, .ref z14, .ref z15, .ref z16, .int 0, .ref z17, .ref z18, .ref z43]))]) hP hD [0] [] rfl rfl (by decide) (by decide) hk1 hFc hP1 hD1
  clear hPc hDc
  generalize H1 = H at hP hS ⊢
  have hP : va_P D vwCl [(h0, .inr (12, [.ref z0, .ref z1, .ref z2, .ref z3, .ref z4, .ref z5, .ref z20, .ref z21, .ref z22, .ref z23, .ref z24, .ref z25, .int 0, .ref z26, .ref z27, .ref z28, .int 9, .int 0, .int 0, .ref z6, .ref z29, .ref z7, .int 0, .int 2, .ref z19, .ref z8, .ref z9, .ref z10, .int 0, .ref z11, .int 0, .ref z30, .ref z31, .ref z32, .ref z33, .int 0, .ref z12, .int 0, .int 0, .ref z34, .ref z35, .ref z36, .ref z37, .int 0, .int 0, .int 0, .int 0, .ref z38, .int 0, .ref z39, .ref z40, .ref z41, .ref z42, .int 0, .ref z13, .ref z14, .ref z15, .ref z16, .int 0, .ref z17, .ref z18, .ref z43]))] H := hP
  have hD : va_D A [(h0, .inr (12, [.ref z0, .ref z1, .ref z2, .ref z3, .ref z4, .ref z5, .ref z20, .ref z21, .ref z22, .ref z23, .ref z24, .ref z25, .int 0, .ref z26, .ref z27, .ref z28, .int 9, .int 0, .int 0, .ref z6, .ref z29, .ref z7, .int 0, .int 2, .ref z19, .ref z8, .ref z9, .ref z10, .int 0, .ref z11, .int 0, .ref z30, .ref z31, .ref z32, .ref z33, .int 0, .ref z12, .int 0, .int 0, .ref z34, .ref z35, .ref z36, .ref z37, .int 0, .int 0, .int 0, .int 0, .ref z38, .int 0, .ref z39, .ref z40, .ref z41, .ref z42, .int 0, .ref z13, .ref z14, .ref z15, .ref z16, .int 0, .ref z17, .ref z18, .ref z43]))] := hD
  subst hr1
  refine lv_if_eq (tgt := 46) hx hb dX12_limb_11 (by decide) (fun _ => ?_) (fun h9 => absurd h9 (by decide))
  refine lv_iconst (v := (-1)) hx hb dX12_limb_46 (by decide) ?_
  exact W.iret (v := (-1)) hx hb hr (fun t ht hW => ⟨⟨(-1), (), rfl, rfl, trivial⟩, hS.F ht⟩) hS.2.2 dX12_limb_47

theorem mX12_string_w0 : Cond.fieldLink RX12 157 "PuppetBridgeModel" "thrown" "I" ∈ wsX12_string := by decide +kernel
theorem iX12_string_X12 : ∀ w ∈ wsX120, w ∈ wsX12_string := fun _ h => List.mem_cons_of_mem _ (List.mem_append_right _ h)
set_option maxRecDepth 20000 in
theorem ggX12_string_X12_isLimb : GoodIn wsX12_string wsX12_isLimb := goodIn_r _ [10, 11, 12, 13, 14, 9, 15, 16, 17, 18, 19, 20, 21, 22, 23, 24, 25, 26, 27, 28, 29, 30, 31, 32, 33, 34, 35, 36, 37, 38, 39, 40, 41, 42, 43, 44, 45, 46, 47, 48, 49, 50, 51, 52, 53, 54, 55, 56, 57, 58, 59, 60, 61, 62, 63, 64, 65, 66, 67, 68, 69, 70, 71, 72, 73, 74, 75, 76, 77, 78, 79, 80, 81] (by decide +kernel) (by decide +kernel)
set_option maxRecDepth 20000 in
theorem gX12_string_X12_isLimb : GoodIn wsX12_string (wsV RX12 178 RX12 yX12_isLimb wsX12_isLimb) := goodIn_app (goodIn_of _ (by decide +kernel)) ggX12_string_X12_isLimb
theorem dX12_string_0 : decode cX12_string 0 = .ok (.aload_n 0, 1) := by decide +kernel
theorem dX12_string_1 : decode cX12_string 1 = .ok (.iconst 0, 1) := by decide +kernel
theorem dX12_string_2 : decode cX12_string 2 = .ok (.putfield 157, 3) := by decide +kernel
theorem dX12_string_5 : decode cX12_string 5 = .ok (.aload_n 0, 1) := by decide +kernel
theorem dX12_string_6 : decode cX12_string 6 = .ok (.iload_n 1, 1) := by decide +kernel
theorem dX12_string_7 : decode cX12_string 7 = .ok (.iload_n 2, 1) := by decide +kernel
theorem dX12_string_8 : decode cX12_string 8 = .ok (.invokevirtual 178, 3) := by decide +kernel
theorem dX12_string_11 : decode cX12_string 11 = .ok (.ifCond .eq 36, 3) := by decide +kernel
theorem dX12_string_47 : decode cX12_string 47 = .ok (.iconst (-1), 1) := by decide +kernel
theorem dX12_string_48 : decode cX12_string 48 = .ok (.ireturn, 1) := by decide +kernel
set_option maxHeartbeats 4000000 in
set_option maxRecDepth 100000 in
/-- X12_string -/
theorem kX12_string (l : Launch) (D : va_G) (G : tyG) (h0 : Nat) (x1 : Int32) (x2 : Int32) (x3 : Int32) (x4 : Int32) (z0 : Nat) (z1 : Nat) (z2 : Nat) (z3 : Nat) (z4 : Nat) (z5 : Nat) (z20 : Nat) (z21 : Nat) (z22 : Nat) (z23 : Nat) (z24 : Nat) (z25 : Nat) (z26 : Nat) (z27 : Nat) (z28 : Nat) (z6 : Nat) (z29 : Nat) (z7 : Nat) (z19 : Nat) (z8 : Nat) (z9 : Nat) (z10 : Nat) (z11 : Nat) (z30 : Nat) (z31 : Nat) (z32 : Nat) (z33 : Nat) (z12 : Nat) (z34 : Nat) (z35 : Nat) (z36 : Nat) (z37 : Nat) (z38 : Nat) (z39 : Nat) (z40 : Nat) (z41 : Nat) (z42 : Nat) (z13 : Nat) (z14 : Nat) (z15 : Nat) (z16 : Nat) (z17 : Nat) (z18 : Nat) (z43 : Nat) (sz : Nat) : Met l yX12_string wsX12_string ({ frames := 3, cells := 0, slots := 0, locals := 65 }) (va_Pc [.ref h0, .int x1, .int x2, .int x3, .int x4] (wB D G sz [(h0, .inr (12, [.ref z0, .ref z1, .ref z2, .ref z3, .ref z4, .ref z5, .ref z20, .ref z21, .ref z22, .ref z23, .ref z24, .ref z25, .int 0, .ref z26, .ref z27, .ref z28, .int 9, .int 0, .int 0, .ref z6, .ref z29, .ref z7, .int 0, .int 2, .ref z19, .ref z8, .ref z9, .ref z10, .int 0, .ref z11, .int 0, .ref z30, .ref z31, .ref z32, .ref z33, .int 0, .ref z12, .int 0, .int 0, .ref z34, .ref z35, .ref z36, .ref z37, .int 0, .int 0, .int 0, .int 0, .ref z38, .int 0, .ref z39, .ref z40, .ref z41, .ref z42, .int 0, .ref z13, .ref z14, .ref z15, .ref z16, .int 0, .ref z17, .ref z18, .ref z43]))])) (va_Qi (fun (r : Int32) (_ : Unit) => r = (-1)) (fun _ _ => True) (va_A [(h0, .inr (12, [.ref z0, .ref z1, .ref z2, .ref z3, .ref z4, .ref z5, .ref z20, .ref z21, .ref z22, .ref z23, .ref z24, .ref z25, .int 0, .ref z26, .ref z27, .ref z28, .int 9, .int 0, .int 0, .ref z6, .ref z29, .ref z7, .int 0, .int 2, .ref z19, .ref z8, .ref z9, .ref z10, .int 0, .ref z11, .int 0, .ref z30, .ref z31, .ref z32, .ref z33, .int 0, .ref z12, .int 0, .int 0, .ref z34, .ref z35, .ref z36, .ref z37, .int 0, .int 0, .int 0, .int 0, .ref z38, .int 0, .ref z39, .ref z40, .ref z41, .ref z42, .int 0, .ref z13, .ref z14, .ref z15, .ref z16, .int 0, .ref z17, .ref z18, .ref z43]))] sz)) 0 0 (va_A [(h0, .inr (12, [.ref z0, .ref z1, .ref z2, .ref z3, .ref z4, .ref z5, .ref z20, .ref z21, .ref z22, .ref z23, .ref z24, .ref z25, .int 0, .ref z26, .ref z27, .ref z28, .int 9, .int 0, .int 0, .ref z6, .ref z29, .ref z7, .int 0, .int 2, .ref z19, .ref z8, .ref z9, .ref z10, .int 0, .ref z11, .int 0, .ref z30, .ref z31, .ref z32, .ref z33, .int 0, .ref z12, .int 0, .int 0, .ref z34, .ref z35, .ref z36, .ref z37, .int 0, .int 0, .int 0, .int 0, .ref z38, .int 0, .ref z39, .ref z40, .ref z41, .ref z42, .int 0, .ref z13, .ref z14, .ref z15, .ref z16, .int 0, .ref z17, .ref z18, .ref z43]))] sz) := by
  refine Met.ofW (cc := cX12_string) (maxL := 6) (ret := (some .int)) (by decide) rfl ?_
  intro p e s m args below meth c s₁ B hml hv
  obtain ⟨rfl, hsz, hP, hK, hD0, hN⟩ := hv
  have hx := B.exec
  have hb := B.bytes
  have hr := B.returns
  have hts := atoms_spec (ws := wsX12_string) B.pre
  have hown : s.vm.findClass RX12 = some m.cls := findClass_of_methodNamed B.named
  have hlocks := B.notSynchronized
  subst hsz
  have hD := hD0.self (sz := s.heap.size)
  generalize hAe : va_A [(h0, .inr (12, [.ref z0, .ref z1, .ref z2, .ref z3, .ref z4, .ref z5, .ref z20, .ref z21, .ref z22, .ref z23, .ref z24, .ref z25, .int 0, .ref z26, .ref z27, .ref z28, .int 9, .int 0, .int 0, .ref z6, .ref z29, .ref z7, .int 0, .int 2, .ref z19, .ref z8, .ref z9, .ref z10, .int 0, .ref z11, .int 0, .ref z30, .ref z31, .ref z32, .ref z33, .int 0, .ref z12, .int 0, .int 0, .ref z34, .ref z35, .ref z36, .ref z37, .int 0, .int 0, .int 0, .int 0, .ref z38, .int 0, .ref z39, .ref z40, .ref z41, .ref z42, .int 0, .ref z13, .ref z14, .ref z15, .ref z16, .int 0, .ref z17, .ref z18, .ref z43]))] s.heap.size = A at hD ⊢
  have hA : ∀ q : Nat, s.heap.size ≤ q → A q := fun q h => by rw [← hAe]; exact Or.inr h
  have hS : va_S A s.heap s.heap [] := va_S.rf
  have hP : va_P D vwCl [(h0, .inr (12, [.ref z0, .ref z1, .ref z2, .ref z3, .ref z4, .ref z5, .ref z20, .ref z21, .ref z22, .ref z23, .ref z24, .ref z25, .int 0, .ref z26, .ref z27, .ref z28, .int 9, .int 0, .int 0, .ref z6, .ref z29, .ref z7, .int 0, .int 2, .ref z19, .ref z8, .ref z9, .ref z10, .int 0, .ref z11, .int 0, .ref z30, .ref z31, .ref z32, .ref z33, .int 0, .ref z12, .int 0, .int 0, .ref z34, .ref z35, .ref z36, .ref z37, .int 0, .int 0, .int 0, .int 0, .ref z38, .int 0, .ref z39, .ref z40, .ref z41, .ref z42, .int 0, .ref z13, .ref z14, .ref z15, .ref z16, .int 0, .ref z17, .ref z18, .ref z43]))] s.heap := hP
  have hl := lv_entry ([.ref h0, .int x1, .int x2, .int x3, .int x4]) (n := 6) (Nat.le_of_ble_eq_true rfl)
  rw [lg_entry_eq]
  generalize (lg_sl ([.ref h0, .int x1, .int x2, .int x3, .int x4]) ++ List.replicate (6 - (lg_sl ([.ref h0, .int x1, .int x2, .int x3, .int x4])).length) Slot.unset).toArray = ls at hl ⊢
  have hl : lv_has ls 6 [(0, .ref h0), (1, .int x1), (2, .int x2), (3, .int x3), (4, .int x4)] := hl
  refine lv_aload_n hx hb dX12_string_0 rfl (lv_at hl 0 rfl) ?_
  refine lv_iconst (v := 0) hx hb dX12_string_1 (by decide) ?_
  refine va_put (D := D) (ci := 12) (v := .int 0) (ty := (tyX12 38)) (C := RX12) (T := TX12) (N := 62) hx hb hts iX12_string_X12 tyX12 tyX12_ok nmX12 hown hK hP hD hS 0 rfl rfl 38 (by decide) (hts (.fieldLink RX12 157 "PuppetBridgeModel" "thrown" "I") mX12_string_w0) (fun _ h9 => h9) rfl (tyX12_ok 38 (by decide)) rfl rfl (Nat.le_of_ble_eq_true rfl) dX12_string_2 (fun H locs hP hD hS => ?_)
  have hP : va_P D vwCl [(h0, .inr (12, [.ref z0, .ref z1, .ref z2, .ref z3, .ref z4, .ref z5, .ref z20, .ref z21, .ref z22, .ref z23, .ref z24, .ref z25, .int 0, .ref z26, .ref z27, .ref z28, .int 9, .int 0, .int 0, .ref z6, .ref z29, .ref z7, .int 0, .int 2, .ref z19, .ref z8, .ref z9, .ref z10, .int 0, .ref z11, .int 0, .ref z30, .ref z31, .ref z32, .ref z33, .int 0, .ref z12, .int 0, .int 0, .ref z34, .ref z35, .ref z36, .ref z37, .int 0, .int 0, .int 0, .int 0, .ref z38, .int 0, .ref z39, .ref z40, .ref z41, .ref z42, .int 0, .ref z13, .ref z14, .ref z15, .ref z16, .int 0, .ref z17, .ref z18, .ref z43]))] H := hP
  have hD : va_D A [(h0, .inr (12, [.ref z0, .ref z1, .ref z2, .ref z3, .ref z4, .ref z5, .ref z20, .ref z21, .ref z22, .ref z23, .ref z24, .ref z25, .int 0, .ref z26, .ref z27, .ref z28, .int 9, .int 0, .int 0, .ref z6, .ref z29, .ref z7, .int 0, .int 2, .ref z19, .ref z8, .ref z9, .ref z10, .int 0, .ref z11, .int 0, .ref z30, .ref z31, .ref z32, .ref z33, .int 0, .ref z12, .int 0, .int 0, .ref z34, .ref z35, .ref z36, .ref z37, .int 0, .int 0, .int 0, .int 0, .ref z38, .int 0, .ref z39, .ref z40, .ref z41, .ref z42, .int 0, .ref z13, .ref z14, .ref z15, .ref z16, .int 0, .ref z17, .ref z18, .ref z43]))] := hD
  refine lv_aload_n hx hb dX12_string_5 rfl (lv_at hl 0 rfl) ?_
  refine lv_iload_n hx hb dX12_string_6 rfl (lv_at hl 1 rfl) ?_
  refine lv_iload_n hx hb dX12_string_7 rfl (lv_at hl 2 rfl) ?_
  have hPc := hP.sub (ws' := [(h0, .inr (12, [.ref z0, .ref z1, .ref z2, .ref z3, .ref z4, .ref z5, .ref z20, .ref z21, .ref z22, .ref z23, .ref z24, .ref z25, .int 0, .ref z26, .ref z27, .ref z28, .int 9, .int 0, .int 0, .ref z6, .ref z29, .ref z7, .int 0, .int 2, .ref z19, .ref z8, .ref z9, .ref z10, .int 0, .ref z11, .int 0, .ref z30, .ref z31, .ref z32, .ref z33, .int 0, .ref z12, .int 0, .int 0, .ref z34, .ref z35, .ref z36, .ref z37, .int 0, .int 0, .int 0, .int 0, .ref z38, .int 0, .ref z39, .ref z40, .ref z41, .ref z42, .int 0, .ref z13, .ref z14, .ref z15, .ref z16, .int 0, .ref z17, .ref z18, .ref z43]))]) [0] rfl
  have hDc := hD.sub (ws' := [(h0, .inr (12, [.ref z0, .ref z1, .ref z2, .ref z3, .ref z4, .ref z5, .ref z20, .ref z21, .ref z22, .ref z23, .ref z24, .ref z25, .int 0, .ref z26, .ref z27, .ref z28, .int 9, .int 0, .int 0, .ref z6, .ref z29, .ref z7, .int 0, .int 2, .ref z19, .ref z8, .ref z9, .ref z10, .int 0, .ref z11, .int 0, .ref z30, .ref z31, .ref z32, .ref z33, .int 0, .ref z12, .int 0, .int 0, .ref z34, .ref z35, .ref z36, .ref z37, .int 0, .int 0, .int 0, .int 0, .ref z38, .int 0, .ref z39, .ref z40, .ref z41, .ref z42, .int 0, .ref z13, .ref z14, .ref z15, .ref z16, .int 0, .ref z17, .ref z18, .ref z43]))]) [0] (by decide) rfl
  have hFc := va_free (wc := [(h0, .inr (12, [.ref z0, .ref z1, .ref z2, .ref z3, .ref z4, .ref z5, .ref z20, .ref z21, .ref z22, .ref z23, .ref z24, .ref z25, .int 0, .ref z26, .ref z27, .ref z28, .int 9, .int 0, .int 0, .ref z6, .ref z29, .ref z7, .int 0, .int 2, .ref z19, .ref z8, .ref z9, .ref z10, .int 0, .ref z11, .int 0, .ref z30, .ref z31, .ref z32, .ref z33, .int 0, .ref z12, .int 0, .int 0, .ref z34, .ref z35, .ref z36, .ref z37, .int 0, .int 0, .int 0, .int 0, .ref z38, .int 0, .ref z39, .ref z40, .ref z41, .ref z42, .int 0, .ref z13, .ref z14, .ref z15, .ref z16, .int 0, .ref z17, .ref z18, .ref z43]))]) hD hS hA [0] rfl
  refine va_calli (va_runV (As := [.int x1, .int x2]) (rest := []) ⟨hx, hb, hml, hown, hts⟩ (kX12_isLimb l D G h0 x1 x2 z0 z1 z2 z3 z4 z5 z20 z21 z22 z23 z24 z25 z26 z27 z28 z6 z29 z7 z19 z8 z9 z10 z11 z30 z31 z32 z33 z12 z34 z35 z36 z37 z38 z39 z40 z41 z42 z13 z14 z15 z16 z17 z18 z43 H.size) (cwV 2 hts gX12_string_X12_isLimb rfl rfl rfl (by decide +kernel) ⟨Nat.le_of_ble_eq_true rfl, Nat.le_of_ble_eq_true rfl⟩) ⟨wB_blind, va_recv hK hPc (ci := 12) (q0 := 0) rfl rfl, wB_pre hPc hK hDc hN⟩ rfl rfl hl.1 rfl (lv_room (Nat.le_of_ble_eq_true rfl)) dX12_string_8 ⟨Nat.le_of_ble_eq_true rfl, Nat.le_of_ble_eq_true rfl⟩) hS (fun q _ h => hFc q h) hFc (fun r1 u t H1 locs ht hvm hr1 hB hz1 hk1 hS => ?_)
  obtain ⟨hP1, hK1, hD1⟩ := hB
  rw [ht] at hP1
  obtain ⟨hP, hD⟩ := va_join (wr := []) (w1 := [(h0, .inr (12, [.ref z0, .ref z1, .ref z2, .ref z3, .ref z4, .ref z5, .ref z20, .ref z21, .ref z22, .ref z23, .ref z24, .ref z25, .int 0, .ref z26, .ref z27, .ref z28, .int 9, .int 0, .int 0, .ref z6, .ref z29, .ref z7, .int 0, .int 2, .ref z19, .ref z8, .ref z9, .ref z10, .int 0, .ref z11, .int 0, .ref z30, .ref z31, .ref z32, .ref z33, .int 0, .ref z12, .int 0, .int 0, .ref z34, .ref z35, .ref z36, .ref z37, .int 0, .int 0, .int 0, .int 0, .ref z38, .int 0, .ref z39, .ref z40, .ref z41, .ref z42, .int 0, .ref z13, .ref z14, .ref z15, .ref z16, .int 0, .ref z17, .ref z18, .ref z43]))]) hP hD [0] [] rfl rfl (by decide) (by decide) hk1 hFc hP1 hD1
  clear hPc hDc
  generalize H1 = H at hP hS ⊢
  have hP : va_P D vwCl [(h0, .inr (12, [.ref z0, .ref z1, .ref z2, .ref z3, .ref z4, .ref z5, .ref z20, .ref z21, .ref z22, .ref z23, .ref z24, .ref z25, .int 0, .ref z26, .ref z27, .ref z28, .int 9, .int 0, .int 0, .ref z6, .ref z29, .ref z7, .int 0, .int 2, .ref z19, .ref z8, .ref z9, .ref z10, .int 0, .ref z11, .int 0, .ref z30, .ref z31, .ref z32, .ref z33, .int 0, .ref z12, .int 0, .int 0, .ref z34, .ref z35, .ref z36, .ref z37, .int 0, .int 0, .int 0, .int 0, .ref z38, .int 0, .ref z39, .ref z40, .ref z41, .ref z42, .int 0, .ref z13, .ref z14, .ref z15, .ref z16, .int 0, .ref z17, .ref z18, .ref z43]))] H := hP
  have hD : va_D A [(h0, .inr (12, [.ref z0, .ref z1, .ref z2, .ref z3, .ref z4, .ref z5, .ref z20, .ref z21, .ref z22, .ref z23, .ref z24, .ref z25, .int 0, .ref z26, .ref z27, .ref z28, .int 9, .int 0, .int 0, .ref z6, .ref z29, .ref z7, .int 0, .int 2, .ref z19, .ref z8, .ref z9, .ref z10, .int 0, .ref z11, .int 0, .ref z30, .ref z31, .ref z32, .ref z33, .int 0, .ref z12, .int 0, .int 0, .ref z34, .ref z35, .ref z36, .ref z37, .int 0, .int 0, .int 0, .int 0, .ref z38, .int 0, .ref z39, .ref z40, .ref z41, .ref z42, .int 0, .ref z13, .ref z14, .ref z15, .ref z16, .int 0, .ref z17, .ref z18, .ref z43]))] := hD
  subst hr1
  refine lv_if_eq (tgt := 47) hx hb dX12_string_11 (by decide) (fun _ => ?_) (fun h9 => absurd h9 (by decide))
  refine lv_iconst (v := (-1)) hx hb dX12_string_47 (by decide) ?_
  exact W.iret (v := (-1)) hx hb hr (fun t ht hW => ⟨⟨(-1), (), rfl, rfl, trivial⟩, hS.F ht⟩) hS.2.2 dX12_string_48

theorem mX12_place_w0 : Cond.fieldLink RX12 157 "PuppetBridgeModel" "thrown" "I" ∈ wsX12_place := by decide +kernel
theorem iX12_place_X12 : ∀ w ∈ wsX120, w ∈ wsX12_place := fun _ h => List.mem_cons_of_mem _ (List.mem_append_right _ h)
set_option maxRecDepth 20000 in
theorem ggX12_place_X12_isFigure : GoodIn wsX12_place wsX12_isFigure := goodIn_r _ [11, 12, 13, 14, 10, 15, 16, 17, 18, 19, 20, 21, 22, 23, 24, 25, 26, 27, 28, 29, 30, 31, 32, 33, 34, 35, 36, 37, 38, 39, 40, 41, 42, 43, 44, 45, 46, 47, 48, 49, 50, 51, 52, 53, 54, 55, 56, 57, 58, 59, 60, 61, 62, 63, 64, 65, 66, 67, 68, 69, 70, 71, 72, 73, 74, 75, 76, 77] (by decide +kernel) (by decide +kernel)
set_option maxRecDepth 20000 in
theorem gX12_place_X12_isFigure : GoodIn wsX12_place (wsV RX12 167 RX12 yX12_isFigure wsX12_isFigure) := goodIn_app (goodIn_of _ (by decide +kernel)) ggX12_place_X12_isFigure
theorem dX12_place_0 : decode cX12_place 0 = .ok (.aload_n 0, 1) := by decide +kernel
theorem dX12_place_1 : decode cX12_place 1 = .ok (.iconst 0, 1) := by decide +kernel
theorem dX12_place_2 : decode cX12_place 2 = .ok (.putfield 157, 3) := by decide +kernel
theorem dX12_place_5 : decode cX12_place 5 = .ok (.aload_n 0, 1) := by decide +kernel
theorem dX12_place_6 : decode cX12_place 6 = .ok (.iload_n 1, 1) := by decide +kernel
theorem dX12_place_7 : decode cX12_place 7 = .ok (.invokevirtual 167, 3) := by decide +kernel
theorem dX12_place_10 : decode cX12_place 10 = .ok (.ifCond .eq 25, 3) := by decide +kernel
theorem dX12_place_35 : decode cX12_place 35 = .ok (.iconst 0, 1) := by decide +kernel
theorem dX12_place_36 : decode cX12_place 36 = .ok (.ireturn, 1) := by decide +kernel
set_option maxHeartbeats 4000000 in
set_option maxRecDepth 100000 in
/-- X12_place -/
theorem kX12_place (l : Launch) (D : va_G) (G : tyG) (h0 : Nat) (x1 : Int32) (x2 : Int32) (x3 : Int32) (z0 : Nat) (z1 : Nat) (z2 : Nat) (z3 : Nat) (z4 : Nat) (z5 : Nat) (z20 : Nat) (z21 : Nat) (z22 : Nat) (z23 : Nat) (z24 : Nat) (z25 : Nat) (z26 : Nat) (z27 : Nat) (z28 : Nat) (z6 : Nat) (z29 : Nat) (z7 : Nat) (z19 : Nat) (z8 : Nat) (z9 : Nat) (z10 : Nat) (z11 : Nat) (z30 : Nat) (z31 : Nat) (z32 : Nat) (z33 : Nat) (z12 : Nat) (z34 : Nat) (z35 : Nat) (z36 : Nat) (z37 : Nat) (z38 : Nat) (z39 : Nat) (z40 : Nat) (z41 : Nat) (z42 : Nat) (z13 : Nat) (z14 : Nat) (z15 : Nat) (z16 : Nat) (z17 : Nat) (z18 : Nat) (z43 : Nat) (sz : Nat) : Met l yX12_place wsX12_place ({ frames := 2, cells := 0, slots := 0, locals := 43 }) (va_Pc [.ref h0, .int x1, .int x2, .int x3] (wB D G sz [(h0, .inr (12, [.ref z0, .ref z1, .ref z2, .ref z3, .ref z4, .ref z5, .ref z20, .ref z21, .ref z22, .ref z23, .ref z24, .ref z25, .int 0, .ref z26, .ref z27, .ref z28, .int 9, .int 0, .int 0, .ref z6, .ref z29, .ref z7, .int 0, .int 2, .ref z19, .ref z8, .ref z9, .ref z10, .int 0, .ref z11, .int 0, .ref z30, .ref z31, .ref z32, .ref z33, .int 0, .ref z12, .int 0, .int 0, .ref z34, .ref z35, .ref z36, .ref z37, .int 0, .int 0, .int 0, .int 0, .ref z38, .int 0, .ref z39, .ref z40, .ref z41, .ref z42, .int 0, .ref z13, .ref z14, .ref z15, .ref z16, .int 0, .ref z17, .ref z18, .ref z43]))])) (va_Qi (fun (r : Int32) (_ : Unit) => r = 0) (fun _ _ => True) (va_A [(h0, .inr (12, [.ref z0, .ref z1, .ref z2, .ref z3, .ref z4, .ref z5, .ref z20, .ref z21, .ref z22, .ref z23, .ref z24, .ref z25, .int 0, .ref z26, .ref z27, .ref z28, .int 9, .int 0, .int 0, .ref z6, .ref z29, .ref z7, .int 0, .int 2, .ref z19, .ref z8, .ref z9, .ref z10, .int 0, .ref z11, .int 0, .ref z30, .ref z31, .ref z32, .ref z33, .int 0, .ref z12, .int 0, .int 0, .ref z34, .ref z35, .ref z36, .ref z37, .int 0, .int 0, .int 0, .int 0, .ref z38, .int 0, .ref z39, .ref z40, .ref z41, .ref z42, .int 0, .ref z13, .ref z14, .ref z15, .ref z16, .int 0, .ref z17, .ref z18, .ref z43]))] sz)) 0 0 (va_A [(h0, .inr (12, [.ref z0, .ref z1, .ref z2, .ref z3, .ref z4, .ref z5, .ref z20, .ref z21, .ref z22, .ref z23, .ref z24, .ref z25, .int 0, .ref z26, .ref z27, .ref z28, .int 9, .int 0, .int 0, .ref z6, .ref z29, .ref z7, .int 0, .int 2, .ref z19, .ref z8, .ref z9, .ref z10, .int 0, .ref z11, .int 0, .ref z30, .ref z31, .ref z32, .ref z33, .int 0, .ref z12, .int 0, .int 0, .ref z34, .ref z35, .ref z36, .ref z37, .int 0, .int 0, .int 0, .int 0, .ref z38, .int 0, .ref z39, .ref z40, .ref z41, .ref z42, .int 0, .ref z13, .ref z14, .ref z15, .ref z16, .int 0, .ref z17, .ref z18, .ref z43]))] sz) := by
  refine Met.ofW (cc := cX12_place) (maxL := 4) (ret := (some .boolean)) (by decide) rfl ?_
  intro p e s m args below meth c s₁ B hml hv
  obtain ⟨rfl, hsz, hP, hK, hD0, hN⟩ := hv
  have hx := B.exec
  have hb := B.bytes
  have hr := B.returns
  have hts := atoms_spec (ws := wsX12_place) B.pre
  have hown : s.vm.findClass RX12 = some m.cls := findClass_of_methodNamed B.named
  have hlocks := B.notSynchronized
  subst hsz
  have hD := hD0.self (sz := s.heap.size)
  generalize hAe : va_A [(h0, .inr (12, [.ref z0, .ref z1, .ref z2, .ref z3, .ref z4, .ref z5, .ref z20, .ref z21, .ref z22, .ref z23, .ref z24, .ref z25, .int 0, .ref z26, .ref z27, .ref z28, .int 9, .int 0, .int 0, .ref z6, .ref z29, .ref z7, .int 0, .int 2, .ref z19, .ref z8, .ref z9, .ref z10, .int 0, .ref z11, .int 0, .ref z30, .ref z31, .ref z32, .ref z33, .int 0, .ref z12, .int 0, .int 0, .ref z34, .ref z35, .ref z36, .ref z37, .int 0, .int 0, .int 0, .int 0, .ref z38, .int 0, .ref z39, .ref z40, .ref z41, .ref z42, .int 0, .ref z13, .ref z14, .ref z15, .ref z16, .int 0, .ref z17, .ref z18, .ref z43]))] s.heap.size = A at hD ⊢
  have hA : ∀ q : Nat, s.heap.size ≤ q → A q := fun q h => by rw [← hAe]; exact Or.inr h
  have hS : va_S A s.heap s.heap [] := va_S.rf
  have hP : va_P D vwCl [(h0, .inr (12, [.ref z0, .ref z1, .ref z2, .ref z3, .ref z4, .ref z5, .ref z20, .ref z21, .ref z22, .ref z23, .ref z24, .ref z25, .int 0, .ref z26, .ref z27, .ref z28, .int 9, .int 0, .int 0, .ref z6, .ref z29, .ref z7, .int 0, .int 2, .ref z19, .ref z8, .ref z9, .ref z10, .int 0, .ref z11, .int 0, .ref z30, .ref z31, .ref z32, .ref z33, .int 0, .ref z12, .int 0, .int 0, .ref z34, .ref z35, .ref z36, .ref z37, .int 0, .int 0, .int 0, .int 0, .ref z38, .int 0, .ref z39, .ref z40, .ref z41, .ref z42, .int 0, .ref z13, .ref z14, .ref z15, .ref z16, .int 0, .ref z17, .ref z18, .ref z43]))] s.heap := hP
  have hl := lv_entry ([.ref h0, .int x1, .int x2, .int x3]) (n := 4) (Nat.le_of_ble_eq_true rfl)
  rw [lg_entry_eq]
  generalize (lg_sl ([.ref h0, .int x1, .int x2, .int x3]) ++ List.replicate (4 - (lg_sl ([.ref h0, .int x1, .int x2, .int x3])).length) Slot.unset).toArray = ls at hl ⊢
  have hl : lv_has ls 4 [(0, .ref h0), (1, .int x1), (2, .int x2), (3, .int x3)] := hl
  refine lv_aload_n hx hb dX12_place_0 rfl (lv_at hl 0 rfl) ?_
  refine lv_iconst (v := 0) hx hb dX12_place_1 (by decide) ?_
  refine va_put (D := D) (ci := 12) (v := .int 0) (ty := (tyX12 38)) (C := RX12) (T := TX12) (N := 62) hx hb hts iX12_place_X12 tyX12 tyX12_ok nmX12 hown hK hP hD hS 0 rfl rfl 38 (by decide) (hts (.fieldLink RX12 157 "PuppetBridgeModel" "thrown" "I") mX12_place_w0) (fun _ h9 => h9) rfl (tyX12_ok 38 (by decide)) rfl rfl (Nat.le_of_ble_eq_true rfl) dX12_place_2 (fun H locs hP hD hS => ?_)
  have hP : va_P D vwCl [(h0, .inr (12, [.ref z0, .ref z1, .ref z2, .ref z3, .ref z4, .ref z5, .ref z20, .ref z21, .ref z22, .ref z23, .ref z24, .ref z25, .int 0, .ref z26, .ref z27, .ref z28, .int 9, .int 0, .int 0, .ref z6, .ref z29, .ref z7, .int 0, .int 2, .ref z19, .ref z8, .ref z9, .ref z10, .int 0, .ref z11, .int 0, .ref z30, .ref z31, .ref z32, .ref z33, .int 0, .ref z12, .int 0, .int 0, .ref z34, .ref z35, .ref z36, .ref z37, .int 0, .int 0, .int 0, .int 0, .ref z38, .int 0, .ref z39, .ref z40, .ref z41, .ref z42, .int 0, .ref z13, .ref z14, .ref z15, .ref z16, .int 0, .ref z17, .ref z18, .ref z43]))] H := hP
  have hD : va_D A [(h0, .inr (12, [.ref z0, .ref z1, .ref z2, .ref z3, .ref z4, .ref z5, .ref z20, .ref z21, .ref z22, .ref z23, .ref z24, .ref z25, .int 0, .ref z26, .ref z27, .ref z28, .int 9, .int 0, .int 0, .ref z6, .ref z29, .ref z7, .int 0, .int 2, .ref z19, .ref z8, .ref z9, .ref z10, .int 0, .ref z11, .int 0, .ref z30, .ref z31, .ref z32, .ref z33, .int 0, .ref z12, .int 0, .int 0, .ref z34, .ref z35, .ref z36, .ref z37, .int 0, .int 0, .int 0, .int 0, .ref z38, .int 0, .ref z39, .ref z40, .ref z41, .ref z42, .int 0, .ref z13, .ref z14, .ref z15, .ref z16, .int 0, .ref z17, .ref z18, .ref z43]))] := hD
  refine lv_aload_n hx hb dX12_place_5 rfl (lv_at hl 0 rfl) ?_
  refine lv_iload_n hx hb dX12_place_6 rfl (lv_at hl 1 rfl) ?_
  have hPc := hP.sub (ws' := [(h0, .inr (12, [.ref z0, .ref z1, .ref z2, .ref z3, .ref z4, .ref z5, .ref z20, .ref z21, .ref z22, .ref z23, .ref z24, .ref z25, .int 0, .ref z26, .ref z27, .ref z28, .int 9, .int 0, .int 0, .ref z6, .ref z29, .ref z7, .int 0, .int 2, .ref z19, .ref z8, .ref z9, .ref z10, .int 0, .ref z11, .int 0, .ref z30, .ref z31, .ref z32, .ref z33, .int 0, .ref z12, .int 0, .int 0, .ref z34, .ref z35, .ref z36, .ref z37, .int 0, .int 0, .int 0, .int 0, .ref z38, .int 0, .ref z39, .ref z40, .ref z41, .ref z42, .int 0, .ref z13, .ref z14, .ref z15, .ref z16, .int 0, .ref z17, .ref z18, .ref z43]))]) [0] rfl
  have hDc := hD.sub (ws' := [(h0, .inr (12, [.ref z0, .ref z1, .ref z2, .ref z3, .ref z4, .ref z5, .ref z20, .ref z21, .ref z22, .ref z23, .ref z24, .ref z25, .int 0, .ref z26, .ref z27, .ref z28, .int 9, .int 0, .int 0, .ref z6, .ref z29, .ref z7, .int 0, .int 2, .ref z19, .ref z8, .ref z9, .ref z10, .int 0, .ref z11, .int 0, .ref z30, .ref z31, .ref z32, .ref z33, .int 0, .ref z12, .int 0, .int 0, .ref z34, .ref z35, .ref z36, .ref z37, .int 0, .int 0, .int 0, .int 0, .ref z38, .int 0, .ref z39, .ref z40, .ref z41, .ref z42, .int 0, .ref z13, .ref z14, .ref z15, .ref z16, .int 0, .ref z17, .ref z18, .ref z43]))]) [0] (by decide) rfl
  have hFc := va_free (wc := [(h0, .inr (12, [.ref z0, .ref z1, .ref z2, .ref z3, .ref z4, .ref z5, .ref z20, .ref z21, .ref z22, .ref z23, .ref z24, .ref z25, .int 0, .ref z26, .ref z27, .ref z28, .int 9, .int 0, .int 0, .ref z6, .ref z29, .ref z7, .int 0, .int 2, .ref z19, .ref z8, .ref z9, .ref z10, .int 0, .ref z11, .int 0, .ref z30, .ref z31, .ref z32, .ref z33, .int 0, .ref z12, .int 0, .int 0, .ref z34, .ref z35, .ref z36, .ref z37, .int 0, .int 0, .int 0, .int 0, .ref z38, .int 0, .ref z39, .ref z40, .ref z41, .ref z42, .int 0, .ref z13, .ref z14, .ref z15, .ref z16, .int 0, .ref z17, .ref z18, .ref z43]))]) hD hS hA [0] rfl
  refine va_calli (va_runV (As := [.int x1]) (rest := []) ⟨hx, hb, hml, hown, hts⟩ (kX12_isFigure l D G h0 x1 z0 z1 z2 z3 z4 z5 z20 z21 z22 z23 z24 z25 z26 z27 z28 z6 z29 z7 z19 z8 z9 z10 z11 z30 z31 z32 z33 z12 z34 z35 z36 z37 z38 z39 z40 z41 z42 z13 z14 z15 z16 z17 z18 z43 H.size) (cwV 1 hts gX12_place_X12_isFigure rfl rfl rfl (by decide +kernel) ⟨Nat.le_of_ble_eq_true rfl, Nat.le_of_ble_eq_true rfl⟩) ⟨wB_blind, va_recv hK hPc (ci := 12) (q0 := 0) rfl rfl, wB_pre hPc hK hDc hN⟩ rfl rfl hl.1 rfl (lv_room (Nat.le_of_ble_eq_true rfl)) dX12_place_7 ⟨Nat.le_of_ble_eq_true rfl, Nat.le_of_ble_eq_true rfl⟩) hS (fun q _ h => hFc q h) hFc (fun r1 u t H1 locs ht hvm hr1 hB hz1 hk1 hS => ?_)
  obtain ⟨hP1, hK1, hD1⟩ := hB
  rw [ht] at hP1
  obtain ⟨hP, hD⟩ := va_join (wr := []) (w1 := [(h0, .inr (12, [.ref z0, .ref z1, .ref z2, .ref z3, .ref z4, .ref z5, .ref z20, .ref z21, .ref z22, .ref z23, .ref z24, .ref z25, .int 0, .ref z26, .ref z27, .ref z28, .int 9, .int 0, .int 0, .ref z6, .ref z29, .ref z7, .int 0, .int 2, .ref z19, .ref z8, .ref z9, .ref z10, .int 0, .ref z11, .int 0, .ref z30, .ref z31, .ref z32, .ref z33, .int 0, .ref z12, .int 0, .int 0, .ref z34, .ref z35, .ref z36, .ref z37, .int 0, .int 0, .int 0, .int 0, .ref z38, .int 0, .ref z39, .ref z40, .ref z41, .ref z42, .int 0, .ref z13, .ref z14, .ref z15, .ref z16, .int 0, .ref z17, .ref z18, .ref z43]))]) hP hD [0] [] rfl rfl (by decide) (by decide) hk1 hFc hP1 hD1
  clear hPc hDc
  generalize H1 = H at hP hS ⊢
  have hP : va_P D vwCl [(h0, .inr (12, [.ref z0, .ref z1, .ref z2, .ref z3, .ref z4, .ref z5, .ref z20, .ref z21, .ref z22, .ref z23, .ref z24, .ref z25, .int 0, .ref z26, .ref z27, .ref z28, .int 9, .int 0, .int 0, .ref z6, .ref z29, .ref z7, .int 0, .int 2, .ref z19, .ref z8, .ref z9, .ref z10, .int 0, .ref z11, .int 0, .ref z30, .ref z31, .ref z32, .ref z33, .int 0, .ref z12, .int 0, .int 0, .ref z34, .ref z35, .ref z36, .ref z37, .int 0, .int 0, .int 0, .int 0, .ref z38, .int 0, .ref z39, .ref z40, .ref z41, .ref z42, .int 0, .ref z13, .ref z14, .ref z15, .ref z16, .int 0, .ref z17, .ref z18, .ref z43]))] H := hP
  have hD : va_D A [(h0, .inr (12, [.ref z0, .ref z1, .ref z2, .ref z3, .ref z4, .ref z5, .ref z20, .ref z21, .ref z22, .ref z23, .ref z24, .ref z25, .int 0, .ref z26, .ref z27, .ref z28, .int 9, .int 0, .int 0, .ref z6, .ref z29, .ref z7, .int 0, .int 2, .ref z19, .ref z8, .ref z9, .ref z10, .int 0, .ref z11, .int 0, .ref z30, .ref z31, .ref z32, .ref z33, .int 0, .ref z12, .int 0, .int 0, .ref z34, .ref z35, .ref z36, .ref z37, .int 0, .int 0, .int 0, .int 0, .ref z38, .int 0, .ref z39, .ref z40, .ref z41, .ref z42, .int 0, .ref z13, .ref z14, .ref z15, .ref z16, .int 0, .ref z17, .ref z18, .ref z43]))] := hD
  subst hr1
  refine lv_if_eq (tgt := 35) hx hb dX12_place_10 (by decide) (fun _ => ?_) (fun h9 => absurd h9 (by decide))
  refine lv_iconst (v := 0) hx hb dX12_place_35 (by decide) ?_
  exact W.zret (v := 0) hx hb hr rfl (fun t ht hW => ⟨⟨0, (), rfl, rfl, trivial⟩, hS.F ht⟩) hS.2.2 dX12_place_36

theorem mX12_pull_w0 : Cond.fieldLink RX12 157 "PuppetBridgeModel" "thrown" "I" ∈ wsX12_pull := by decide +kernel
theorem iX12_pull_X12 : ∀ w ∈ wsX120, w ∈ wsX12_pull := fun _ h => List.mem_cons_of_mem _ (List.mem_append_right _ h)
set_option maxRecDepth 20000 in
theorem ggX12_pull_X12_isString : GoodIn wsX12_pull wsX12_isString := goodIn_r _ [7, 8, 9, 10, 11, 6, 12, 13, 14, 15, 16, 81, 82, 83, 84, 85, 86, 87, 88, 89, 90, 91, 92, 93, 94, 95, 96, 97, 98, 99, 100, 101, 102, 103, 104, 105, 106, 107, 108, 109, 110, 111, 112, 113, 114, 115, 116, 117, 118, 119, 120, 121, 122, 123, 124, 125, 126, 127, 128, 129, 130, 131, 132, 133, 134, 135, 136, 137, 138, 139, 140, 141, 142] (by decide +kernel) (by decide +kernel)
set_option maxRecDepth 20000 in
theorem gX12_pull_X12_isString : GoodIn wsX12_pull (wsV RX12 231 RX12 yX12_isString wsX12_isString) := goodIn_app (goodIn_of _ (by decide +kernel)) ggX12_pull_X12_isString
theorem dX12_pull_0 : decode cX12_pull 0 = .ok (.aload_n 0, 1) := by decide +kernel
theorem dX12_pull_1 : decode cX12_pull 1 = .ok (.iconst 0, 1) := by decide +kernel
theorem dX12_pull_2 : decode cX12_pull 2 = .ok (.putfield 157, 3) := by decide +kernel
theorem dX12_pull_5 : decode cX12_pull 5 = .ok (.aload_n 0, 1) := by decide +kernel
theorem dX12_pull_6 : decode cX12_pull 6 = .ok (.iload_n 1, 1) := by decide +kernel
theorem dX12_pull_7 : decode cX12_pull 7 = .ok (.iload_n 2, 1) := by decide +kernel
theorem dX12_pull_8 : decode cX12_pull 8 = .ok (.invokevirtual 231, 3) := by decide +kernel
theorem dX12_pull_11 : decode cX12_pull 11 = .ok (.ifCond .eq 13, 3) := by decide +kernel
theorem dX12_pull_24 : decode cX12_pull 24 = .ok (.iconst 0, 1) := by decide +kernel
theorem dX12_pull_25 : decode cX12_pull 25 = .ok (.ireturn, 1) := by decide +kernel
set_option maxHeartbeats 4000000 in
set_option maxRecDepth 100000 in
/-- X12_pull -/
theorem kX12_pull (l : Launch) (D : va_G) (G : tyG) (h0 : Nat) (x1 : Int32) (x2 : Int32) (x3 : Int32) (z0 : Nat) (z1 : Nat) (z2 : Nat) (z3 : Nat) (z4 : Nat) (z5 : Nat) (z20 : Nat) (z21 : Nat) (z22 : Nat) (z23 : Nat) (z24 : Nat) (z25 : Nat) (z26 : Nat) (z27 : Nat) (z28 : Nat) (z6 : Nat) (z29 : Nat) (z7 : Nat) (z19 : Nat) (z8 : Nat) (z9 : Nat) (z10 : Nat) (z11 : Nat) (z30 : Nat) (z31 : Nat) (z32 : Nat) (z33 : Nat) (z12 : Nat) (z34 : Nat) (z35 : Nat) (z36 : Nat) (z37 : Nat) (z38 : Nat) (z39 : Nat) (z40 : Nat) (z41 : Nat) (z42 : Nat) (z13 : Nat) (z14 : Nat) (z15 : Nat) (z16 : Nat) (z17 : Nat) (z18 : Nat) (z43 : Nat) (sz : Nat) : Met l yX12_pull wsX12_pull ({ frames := 3, cells := 0, slots := 0, locals := 65 }) (va_Pc [.ref h0, .int x1, .int x2, .int x3] (wB D G sz [(h0, .inr (12, [.ref z0, .ref z1, .ref z2, .ref z3, .ref z4, .ref z5, .ref z20, .ref z21, .ref z22, .ref z23, .ref z24, .ref z25, .int 0, .ref z26, .ref z27, .ref z28, .int 9, .int 0, .int 0, .ref z6, .ref z29, .ref z7, .int 0, .int 2, .ref z19, .ref z8, .ref z9, .ref z10, .int 0, .ref z11, .int 0, .ref z30, .ref z31, .ref z32, .ref z33, .int 0, .ref z12, .int 0, .int 0, .ref z34, .ref z35, .ref z36, .ref z37, .int 0, .int 0, .int 0, .int 0, .ref z38, .int 0, .ref z39, .ref z40, .ref z41, .ref z42, .int 0, .ref z13, .ref z14, .ref z15, .ref z16, .int 0, .ref z17, .ref z18, .ref z43]))])) (va_Qi (fun (r : Int32) (_ : Unit) => r = 0) (fun _ _ => True) (va_A [(h0, .inr (12, [.ref z0, .ref z1, .ref z2, .ref z3, .ref z4, .ref z5, .ref z20, .ref z21, .ref z22, .ref z23, .ref z24, .ref z25, .int 0, .ref z26, .ref z27, .ref z28, .int 9, .int 0, .int 0, .ref z6, .ref z29, .ref z7, .int 0, .int 2, .ref z19, .ref z8, .ref z9, .ref z10, .int 0, .ref z11, .int 0, .ref z30, .ref z31, .ref z32, .ref z33, .int 0, .ref z12, .int 0, .int 0, .ref z34, .ref z35, .ref z36, .ref z37, .int 0, .int 0, .int 0, .int 0, .ref z38, .int 0, .ref z39, .ref z40, .ref z41, .ref z42, .int 0, .ref z13, .ref z14, .ref z15, .ref z16, .int 0, .ref z17, .ref z18, .ref z43]))] sz)) 0 0 (va_A [(h0, .inr (12, [.ref z0, .ref z1, .ref z2, .ref z3, .ref z4, .ref z5, .ref z20, .ref z21, .ref z22, .ref z23, .ref z24, .ref z25, .int 0, .ref z26, .ref z27, .ref z28, .int 9, .int 0, .int 0, .ref z6, .ref z29, .ref z7, .int 0, .int 2, .ref z19, .ref z8, .ref z9, .ref z10, .int 0, .ref z11, .int 0, .ref z30, .ref z31, .ref z32, .ref z33, .int 0, .ref z12, .int 0, .int 0, .ref z34, .ref z35, .ref z36, .ref z37, .int 0, .int 0, .int 0, .int 0, .ref z38, .int 0, .ref z39, .ref z40, .ref z41, .ref z42, .int 0, .ref z13, .ref z14, .ref z15, .ref z16, .int 0, .ref z17, .ref z18, .ref z43]))] sz) := by
  refine Met.ofW (cc := cX12_pull) (maxL := 4) (ret := (some .boolean)) (by decide) rfl ?_
  intro p e s m args below meth c s₁ B hml hv
  obtain ⟨rfl, hsz, hP, hK, hD0, hN⟩ := hv
  have hx := B.exec
  have hb := B.bytes
  have hr := B.returns
  have hts := atoms_spec (ws := wsX12_pull) B.pre
  have hown : s.vm.findClass RX12 = some m.cls := findClass_of_methodNamed B.named
  have hlocks := B.notSynchronized
  subst hsz
  have hD := hD0.self (sz := s.heap.size)
  generalize hAe : va_A [(h0, .inr (12, [.ref z0, .ref z1, .ref z2, .ref z3, .ref z4, .ref z5, .ref z20, .ref z21, .ref z22, .ref z23, .ref z24, .ref z25, .int 0, .ref z26, .ref z27, .ref z28, .int 9, .int 0, .int 0, .ref z6, .ref z29, .ref z7, .int 0, .int 2, .ref z19, .ref z8, .ref z9, .ref z10, .int 0, .ref z11, .int 0, .ref z30, .ref z31, .ref z32, .ref z33, .int 0, .ref z12, .int 0, .int 0, .ref z34, .ref z35, .ref z36, .ref z37, .int 0, .int 0, .int 0, .int 0, .ref z38, .int 0, .ref z39, .ref z40, .ref z41, .ref z42, .int 0, .ref z13, .ref z14, .ref z15, .ref z16, .int 0, .ref z17, .ref z18, .ref z43]))] s.heap.size = A at hD ⊢
  have hA : ∀ q : Nat, s.heap.size ≤ q → A q := fun q h => by rw [← hAe]; exact Or.inr h
  have hS : va_S A s.heap s.heap [] := va_S.rf
  have hP : va_P D vwCl [(h0, .inr (12, [.ref z0, .ref z1, .ref z2, .ref z3, .ref z4, .ref z5, .ref z20, .ref z21, .ref z22, .ref z23, .ref z24, .ref z25, .int 0, .ref z26, .ref z27, .ref z28, .int 9, .int 0, .int 0, .ref z6, .ref z29, .ref z7, .int 0, .int 2, .ref z19, .ref z8, .ref z9, .ref z10, .int 0, .ref z11, .int 0, .ref z30, .ref z31, .ref z32, .ref z33, .int 0, .ref z12, .int 0, .int 0, .ref z34, .ref z35, .ref z36, .ref z37, .int 0, .int 0, .int 0, .int 0, .ref z38, .int 0, .ref z39, .ref z40, .ref z41, .ref z42, .int 0, .ref z13, .ref z14, .ref z15, .ref z16, .int 0, .ref z17, .ref z18, .ref z43]))] s.heap := hP
  have hl := lv_entry ([.ref h0, .int x1, .int x2, .int x3]) (n := 4) (Nat.le_of_ble_eq_true rfl)
  rw [lg_entry_eq]
  generalize (lg_sl ([.ref h0, .int x1, .int x2, .int x3]) ++ List.replicate (4 - (lg_sl ([.ref h0, .int x1, .int x2, .int x3])).length) Slot.unset).toArray = ls at hl ⊢
  have hl : lv_has ls 4 [(0, .ref h0), (1, .int x1), (2, .int x2), (3, .int x3)] := hl
  refine lv_aload_n hx hb dX12_pull_0 rfl (lv_at hl 0 rfl) ?_
  refine lv_iconst (v := 0) hx hb dX12_pull_1 (by decide) ?_
  refine va_put (D := D) (ci := 12) (v := .int 0) (ty := (tyX12 38)) (C := RX12) (T := TX12) (N := 62) hx hb hts iX12_pull_X12 tyX12 tyX12_ok nmX12 hown hK hP hD hS 0 rfl rfl 38 (by decide) (hts (.fieldLink RX12 157 "PuppetBridgeModel" "thrown" "I") mX12_pull_w0) (fun _ h9 => h9) rfl (tyX12_ok 38 (by decide)) rfl rfl (Nat.le_of_ble_eq_true rfl) dX12_pull_2 (fun H locs hP hD hS => ?_)
  have hP : va_P D vwCl [(h0, .inr (12, [.ref z0, .ref z1, .ref z2, .ref z3, .ref z4, .ref z5, .ref z20, .ref z21, .ref z22, .ref z23, .ref z24, .ref z25, .int 0, .ref z26, .ref z27, .ref z28, .int 9, .int 0, .int 0, .ref z6, .ref z29, .ref z7, .int 0, .int 2, .ref z19, .ref z8, .ref z9, .ref z10, .int 0, .ref z11, .int 0, .ref z30, .ref z31, .ref z32, .ref z33, .int 0, .ref z12, .int 0, .int 0, .ref z34, .ref z35, .ref z36, .ref z37, .int 0, .int 0, .int 0, .int 0, .ref z38, .int 0, .ref z39, .ref z40, .ref z41, .ref z42, .int 0, .ref z13, .ref z14, .ref z15, .ref z16, .int 0, .ref z17, .ref z18, .ref z43]))] H := hP
  have hD : va_D A [(h0, .inr (12, [.ref z0, .ref z1, .ref z2, .ref z3, .ref z4, .ref z5, .ref z20, .ref z21, .ref z22, .ref z23, .ref z24, .ref z25, .int 0, .ref z26, .ref z27, .ref z28, .int 9, .int 0, .int 0, .ref z6, .ref z29, .ref z7, .int 0, .int 2, .ref z19, .ref z8, .ref z9, .ref z10, .int 0, .ref z11, .int 0, .ref z30, .ref z31, .ref z32, .ref z33, .int 0, .ref z12, .int 0, .int 0, .ref z34, .ref z35, .ref z36, .ref z37, .int 0, .int 0, .int 0, .int 0, .ref z38, .int 0, .ref z39, .ref z40, .ref z41, .ref z42, .int 0, .ref z13, .ref z14, .ref z15, .ref z16, .int 0, .ref z17, .ref z18, .ref z43]))] := hD
  refine lv_aload_n hx hb dX12_pull_5 rfl (lv_at hl 0 rfl) ?_
  refine lv_iload_n hx hb dX12_pull_6 rfl (lv_at hl 1 rfl) ?_
  refine lv_iload_n hx hb dX12_pull_7 rfl (lv_at hl 2 rfl) ?_
  have hPc := hP.sub (ws' := [(h0, .inr (12, [.ref z0, .ref z1, .ref z2, .ref z3, .ref z4, .ref z5, .ref z20, .ref z21, .ref z22, .ref z23, .ref z24, .ref z25, .int 0, .ref z26, .ref z27, .ref z28, .int 9, .int 0, .int 0, .ref z6, .ref z29, .ref z7, .int 0, .int 2, .ref z19, .ref z8, .ref z9, .ref z10, .int 0, .ref z11, .int 0, .ref z30, .ref z31, .ref z32, .ref z33, .int 0, .ref z12, .int 0, .int 0, .ref z34, .ref z35, .ref z36, .ref z37, .int 0, .int 0, .int 0, .int 0, .ref z38, .int 0, .ref z39, .ref z40, .ref z41, .ref z42, .int 0, .ref z13, .ref z14, .ref z15, .ref z16, .int 0, .ref z17, .ref z18, .ref z43]))]) [0] rfl
  have hDc := hD.sub (ws' := [(h0, .inr (12, [.ref z0, .ref z1, .ref z2, .ref z3, .ref z4, .ref z5, .ref z20, .ref z21, .ref z22, .ref z23, .ref z24, .ref z25, .int 0, .ref z26, .ref z27, .ref z28, .int 9, .int 0, .int 0, .ref z6, .ref z29, .ref z7, .int 0, .int 2, .ref z19, .ref z8, .ref z9, .ref z10, .int 0, .ref z11, .int 0, .ref z30, .ref z31, .ref z32, .ref z33, .int 0, .ref z12, .int 0, .int 0, .ref z34, .ref z35, .ref z36, .ref z37, .int 0, .int 0, .int 0, .int 0, .ref z38, .int 0, .ref z39, .ref z40, .ref z41, .ref z42, .int 0, .ref z13, .ref z14, .ref z15, .ref z16, .int 0, .ref z17, .ref z18, .ref z43]))]) [0] (by decide) rfl
  have hFc := va_free (wc := [(h0, .inr (12, [.ref z0, .ref z1, .ref z2, .ref z3, .ref z4, .ref z5, .ref z20, .ref z21, .ref z22, .ref z23, .ref z24, .ref z25, .int 0, .ref z26, .ref z27, .ref z28, .int 9, .int 0, .int 0, .ref z6, .ref z29, .ref z7, .int 0, .int 2, .ref z19, .ref z8, .ref z9, .ref z10, .int 0, .ref z11, .int 0, .ref z30, .ref z31, .ref z32, .ref z33, .int 0, .ref z12, .int 0, .int 0, .ref z34, .ref z35, .ref z36, .ref z37, .int 0, .int 0, .int 0, .int 0, .ref z38, .int 0, .ref z39, .ref z40, .ref z41, .ref z42, .int 0, .ref z13, .ref z14, .ref z15, .ref z16, .int 0, .ref z17, .ref z18, .ref z43]))]) hD hS hA [0] rfl
  refine va_calli (va_runV (As := [.int x1, .int x2]) (rest := []) ⟨hx, hb, hml, hown, hts⟩ (kX12_isString l D G h0 x1 x2 z0 z1 z2 z3 z4 z5 z20 z21 z22 z23 z24 z25 z26 z27 z28 z6 z29 z7 z19 z8 z9 z10 z11 z30 z31 z32 z33 z12 z34 z35 z36 z37 z38 z39 z40 z41 z42 z13 z14 z15 z16 z17 z18 z43 H.size) (cwV 2 hts gX12_pull_X12_isString rfl rfl rfl (by decide +kernel) ⟨Nat.le_of_ble_eq_true rfl, Nat.le_of_ble_eq_true rfl⟩) ⟨wB_blind, va_recv hK hPc (ci := 12) (q0 := 0) rfl rfl, wB_pre hPc hK hDc hN⟩ rfl rfl hl.1 rfl (lv_room (Nat.le_of_ble_eq_true rfl)) dX12_pull_8 ⟨Nat.le_of_ble_eq_true rfl, Nat.le_of_ble_eq_true rfl⟩) hS (fun q _ h => hFc q h) hFc (fun r1 u t H1 locs ht hvm hr1 hB hz1 hk1 hS => ?_)
  obtain ⟨hP1, hK1, hD1⟩ := hB
  rw [ht] at hP1
  obtain ⟨hP, hD⟩ := va_join (wr := []) (w1 := [(h0, .inr (12, [.ref z0, .ref z1, .ref z2, .ref z3, .ref z4, .ref z5, .ref z20, .ref z21, .ref z22, .ref z23, .ref z24, .ref z25, .int 0, .ref z26, .ref z27, .ref z28, .int 9, .int 0, .int 0, .ref z6, .ref z29, .ref z7, .int 0, .int 2, .ref z19, .ref z8, .ref z9, .ref z10, .int 0, .ref z11, .int 0, .ref z30, .ref z31, .ref z32, .ref z33, .int 0, .ref z12, .int 0, .int 0, .ref z34, .ref z35, .ref z36, .ref z37, .int 0, .int 0, .int 0, .int 0, .ref z38, .int 0, .ref z39, .ref z40, .ref z41, .ref z42, .int 0, .ref z13, .ref z14, .ref z15, .ref z16, .int 0, .ref z17, .ref z18, .ref z43]))]) hP hD [0] [] rfl rfl (by decide) (by decide) hk1 hFc hP1 hD1
  clear hPc hDc
  generalize H1 = H at hP hS ⊢
  have hP : va_P D vwCl [(h0, .inr (12, [.ref z0, .ref z1, .ref z2, .ref z3, .ref z4, .ref z5, .ref z20, .ref z21, .ref z22, .ref z23, .ref z24, .ref z25, .int 0, .ref z26, .ref z27, .ref z28, .int 9, .int 0, .int 0, .ref z6, .ref z29, .ref z7, .int 0, .int 2, .ref z19, .ref z8, .ref z9, .ref z10, .int 0, .ref z11, .int 0, .ref z30, .ref z31, .ref z32, .ref z33, .int 0, .ref z12, .int 0, .int 0, .ref z34, .ref z35, .ref z36, .ref z37, .int 0, .int 0, .int 0, .int 0, .ref z38, .int 0, .ref z39, .ref z40, .ref z41, .ref z42, .int 0, .ref z13, .ref z14, .ref z15, .ref z16, .int 0, .ref z17, .ref z18, .ref z43]))] H := hP
  have hD : va_D A [(h0, .inr (12, [.ref z0, .ref z1, .ref z2, .ref z3, .ref z4, .ref z5, .ref z20, .ref z21, .ref z22, .ref z23, .ref z24, .ref z25, .int 0, .ref z26, .ref z27, .ref z28, .int 9, .int 0, .int 0, .ref z6, .ref z29, .ref z7, .int 0, .int 2, .ref z19, .ref z8, .ref z9, .ref z10, .int 0, .ref z11, .int 0, .ref z30, .ref z31, .ref z32, .ref z33, .int 0, .ref z12, .int 0, .int 0, .ref z34, .ref z35, .ref z36, .ref z37, .int 0, .int 0, .int 0, .int 0, .ref z38, .int 0, .ref z39, .ref z40, .ref z41, .ref z42, .int 0, .ref z13, .ref z14, .ref z15, .ref z16, .int 0, .ref z17, .ref z18, .ref z43]))] := hD
  subst hr1
  refine lv_if_eq (tgt := 24) hx hb dX12_pull_11 (by decide) (fun _ => ?_) (fun h9 => absurd h9 (by decide))
  refine lv_iconst (v := 0) hx hb dX12_pull_24 (by decide) ?_
  exact W.zret (v := 0) hx hb hr rfl (fun t ht hW => ⟨⟨0, (), rfl, rfl, trivial⟩, hS.F ht⟩) hS.2.2 dX12_pull_25

theorem mX12_mend_w0 : Cond.fieldLink RX12 157 "PuppetBridgeModel" "thrown" "I" ∈ wsX12_mend := by decide +kernel
theorem iX12_mend_X12 : ∀ w ∈ wsX120, w ∈ wsX12_mend := fun _ h => List.mem_cons_of_mem _ (List.mem_append_right _ h)
set_option maxRecDepth 20000 in
theorem ggX12_mend_X12_isString : GoodIn wsX12_mend wsX12_isString := goodIn_r _ [7, 8, 9, 10, 11, 6, 12, 13, 14, 15, 16, 73, 74, 75, 76, 77, 78, 79, 80, 81, 82, 83, 84, 85, 86, 87, 88, 89, 90, 91, 92, 93, 94, 95, 96, 97, 98, 99, 100, 101, 102, 103, 104, 105, 106, 107, 108, 109, 110, 111, 112, 113, 114, 115, 116, 117, 118, 119, 120, 121, 122, 123, 124, 125, 126, 127, 128, 129, 130, 131, 132, 133, 134] (by decide +kernel) (by decide +kernel)
set_option maxRecDepth 20000 in
theorem gX12_mend_X12_isString : GoodIn wsX12_mend (wsV RX12 231 RX12 yX12_isString wsX12_isString) := goodIn_app (goodIn_of _ (by decide +kernel)) ggX12_mend_X12_isString
theorem dX12_mend_0 : decode cX12_mend 0 = .ok (.aload_n 0, 1) := by decide +kernel
theorem dX12_mend_1 : decode cX12_mend 1 = .ok (.iconst 0, 1) := by decide +kernel
theorem dX12_mend_2 : decode cX12_mend 2 = .ok (.putfield 157, 3) := by decide +kernel
theorem dX12_mend_5 : decode cX12_mend 5 = .ok (.aload_n 0, 1) := by decide +kernel
theorem dX12_mend_6 : decode cX12_mend 6 = .ok (.iload_n 1, 1) := by decide +kernel
theorem dX12_mend_7 : decode cX12_mend 7 = .ok (.iload_n 2, 1) := by decide +kernel
theorem dX12_mend_8 : decode cX12_mend 8 = .ok (.invokevirtual 231, 3) := by decide +kernel
theorem dX12_mend_11 : decode cX12_mend 11 = .ok (.ifCond .ne 5, 3) := by decide +kernel
theorem dX12_mend_14 : decode cX12_mend 14 = .ok (.iconst 0, 1) := by decide +kernel
theorem dX12_mend_15 : decode cX12_mend 15 = .ok (.ireturn, 1) := by decide +kernel
set_option maxHeartbeats 4000000 in
set_option maxRecDepth 100000 in
/-- X12_mend -/
theorem kX12_mend (l : Launch) (D : va_G) (G : tyG) (h0 : Nat) (x1 : Int32) (x2 : Int32) (x3 : Int32) (z0 : Nat) (z1 : Nat) (z2 : Nat) (z3 : Nat) (z4 : Nat) (z5 : Nat) (z20 : Nat) (z21 : Nat) (z22 : Nat) (z23 : Nat) (z24 : Nat) (z25 : Nat) (z26 : Nat) (z27 : Nat) (z28 : Nat) (z6 : Nat) (z29 : Nat) (z7 : Nat) (z19 : Nat) (z8 : Nat) (z9 : Nat) (z10 : Nat) (z11 : Nat) (z30 : Nat) (z31 : Nat) (z32 : Nat) (z33 : Nat) (z12 : Nat) (z34 : Nat) (z35 : Nat) (z36 : Nat) (z37 : Nat) (z38 : Nat) (z39 : Nat) (z40 : Nat) (z41 : Nat) (z42 : Nat) (z13 : Nat) (z14 : Nat) (z15 : Nat) (z16 : Nat) (z17 : Nat) (z18 : Nat) (z43 : Nat) (sz : Nat) : Met l yX12_mend wsX12_mend ({ frames := 3, cells := 0, slots := 0, locals := 65 }) (va_Pc [.ref h0, .int x1, .int x2, .int x3] (wB D G sz [(h0, .inr (12, [.ref z0, .ref z1, .ref z2, .ref z3, .ref z4, .ref z5, .ref z20, .ref z21, .ref z22, .ref z23, .ref z24, .ref z25, .int 0, .ref z26, .ref z27, .ref z28, .int 9, .int 0, .int 0, .ref z6, .ref z29, .ref z7, .int 0, .int 2, .ref z19, .ref z8, .ref z9, .ref z10, .int 0, .ref z11, .int 0, .ref z30, .ref z31, .ref z32, .ref z33, .int 0, .ref z12, .int 0, .int 0, .ref z34, .ref z35, .ref z36, .ref z37, .int 0, .int 0, .int 0, .int 0, .ref z38, .int 0, .ref z39, .ref z40, .ref z41, .ref z42, .int 0, .ref z13, .ref z14, .ref z15, .ref z16, .int 0, .ref z17, .ref z18, .ref z43]))])) (va_Qi (fun (r : Int32) (_ : Unit) => r = 0) (fun _ _ => True) (va_A [(h0, .inr (12, [.ref z0, .ref z1, .ref z2, .ref z3, .ref z4, .ref z5, .ref z20, .ref z21, .ref z22, .ref z23, .ref z24, .ref z25, .int 0, .ref z26, .ref z27, .ref z28, .int 9, .int 0, .int 0, .ref z6, .ref z29, .ref z7, .int 0, .int 2, .ref z19, .ref z8, .ref z9, .ref z10, .int 0, .ref z11, .int 0, .ref z30, .ref z31, .ref z32, .ref z33, .int 0, .ref z12, .int 0, .int 0, .ref z34, .ref z35, .ref z36, .ref z37, .int 0, .int 0, .int 0, .int 0, .ref z38, .int 0, .ref z39, .ref z40, .ref z41, .ref z42, .int 0, .ref z13, .ref z14, .ref z15, .ref z16, .int 0, .ref z17, .ref z18, .ref z43]))] sz)) 0 0 (va_A [(h0, .inr (12, [.ref z0, .ref z1, .ref z2, .ref z3, .ref z4, .ref z5, .ref z20, .ref z21, .ref z22, .ref z23, .ref z24, .ref z25, .int 0, .ref z26, .ref z27, .ref z28, .int 9, .int 0, .int 0, .ref z6, .ref z29, .ref z7, .int 0, .int 2, .ref z19, .ref z8, .ref z9, .ref z10, .int 0, .ref z11, .int 0, .ref z30, .ref z31, .ref z32, .ref z33, .int 0, .ref z12, .int 0, .int 0, .ref z34, .ref z35, .ref z36, .ref z37, .int 0, .int 0, .int 0, .int 0, .ref z38, .int 0, .ref z39, .ref z40, .ref z41, .ref z42, .int 0, .ref z13, .ref z14, .ref z15, .ref z16, .int 0, .ref z17, .ref z18, .ref z43]))] sz) := by
  refine Met.ofW (cc := cX12_mend) (maxL := 4) (ret := (some .boolean)) (by decide) rfl ?_
  intro p e s m args below meth c s₁ B hml hv
  obtain ⟨rfl, hsz, hP, hK, hD0, hN⟩ := hv
  have hx := B.exec
  have hb := B.bytes
  have hr := B.returns
  have hts := atoms_spec (ws := wsX12_mend) B.pre
  have hown : s.vm.findClass RX12 = some m.cls := findClass_of_methodNamed B.named
  have hlocks := B.notSynchronized
  subst hsz
  have hD := hD0.self (sz := s.heap.size)
  generalize hAe : va_A [(h0, .inr (12, [.ref z0, .ref z1, .ref z2, .ref z3, .ref z4, .ref z5, .ref z20, .ref z21, .ref z22, .ref z23, .ref z24, .ref z25, .int 0, .ref z26, .ref z27, .ref z28, .int 9, .int 0, .int 0, .ref z6, .ref z29, .ref z7, .int 0, .int 2, .ref z19, .ref z8, .ref z9, .ref z10, .int 0, .ref z11, .int 0, .ref z30, .ref z31, .ref z32, .ref z33, .int 0, .ref z12, .int 0, .int 0, .ref z34, .ref z35, .ref z36, .ref z37, .int 0, .int 0, .int 0, .int 0, .ref z38, .int 0, .ref z39, .ref z40, .ref z41, .ref z42, .int 0, .ref z13, .ref z14, .ref z15, .ref z16, .int 0, .ref z17, .ref z18, .ref z43]))] s.heap.size = A at hD ⊢
  have hA : ∀ q : Nat, s.heap.size ≤ q → A q := fun q h => by rw [← hAe]; exact Or.inr h
  have hS : va_S A s.heap s.heap [] := va_S.rf
  have hP : va_P D vwCl [(h0, .inr (12, [.ref z0, .ref z1, .ref z2, .ref z3, .ref z4, .ref z5, .ref z20, .ref z21, .ref z22, .ref z23, .ref z24, .ref z25, .int 0, .ref z26, .ref z27, .ref z28, .int 9, .int 0, .int 0, .ref z6, .ref z29, .ref z7, .int 0, .int 2, .ref z19, .ref z8, .ref z9, .ref z10, .int 0, .ref z11, .int 0, .ref z30, .ref z31, .ref z32, .ref z33, .int 0, .ref z12, .int 0, .int 0, .ref z34, .ref z35, .ref z36, .ref z37, .int 0, .int 0, .int 0, .int 0, .ref z38, .int 0, .ref z39, .ref z40, .ref z41, .ref z42, .int 0, .ref z13, .ref z14, .ref z15, .ref z16, .int 0, .ref z17, .ref z18, .ref z43]))] s.heap := hP
  have hl := lv_entry ([.ref h0, .int x1, .int x2, .int x3]) (n := 4) (Nat.le_of_ble_eq_true rfl)
  rw [lg_entry_eq]
  generalize (lg_sl ([.ref h0, .int x1, .int x2, .int x3]) ++ List.replicate (4 - (lg_sl ([.ref h0, .int x1, .int x2, .int x3])).length) Slot.unset).toArray = ls at hl ⊢
  have hl : lv_has ls 4 [(0, .ref h0), (1, .int x1), (2, .int x2), (3, .int x3)] := hl
  refine lv_aload_n hx hb dX12_mend_0 rfl (lv_at hl 0 rfl) ?_
  refine lv_iconst (v := 0) hx hb dX12_mend_1 (by decide) ?_
  refine va_put (D := D) (ci := 12) (v := .int 0) (ty := (tyX12 38)) (C := RX12) (T := TX12) (N := 62) hx hb hts iX12_mend_X12 tyX12 tyX12_ok nmX12 hown hK hP hD hS 0 rfl rfl 38 (by decide) (hts (.fieldLink RX12 157 "PuppetBridgeModel" "thrown" "I") mX12_mend_w0) (fun _ h9 => h9) rfl (tyX12_ok 38 (by decide)) rfl rfl (Nat.le_of_ble_eq_true rfl) dX12_mend_2 (fun H locs hP hD hS => ?_)
  have hP : va_P D vwCl [(h0, .inr (12, [.ref z0, .ref z1, .ref z2, .ref z3, .ref z4, .ref z5, .ref z20, .ref z21, .ref z22, .ref z23, .ref z24, .ref z25, .int 0, .ref z26, .ref z27, .ref z28, .int 9, .int 0, .int 0, .ref z6, .ref z29, .ref z7, .int 0, .int 2, .ref z19, .ref z8, .ref z9, .ref z10, .int 0, .ref z11, .int 0, .ref z30, .ref z31, .ref z32, .ref z33, .int 0, .ref z12, .int 0, .int 0, .ref z34, .ref z35, .ref z36, .ref z37, .int 0, .int 0, .int 0, .int 0, .ref z38, .int 0, .ref z39, .ref z40, .ref z41, .ref z42, .int 0, .ref z13, .ref z14, .ref z15, .ref z16, .int 0, .ref z17, .ref z18, .ref z43]))] H := hP
  have hD : va_D A [(h0, .inr (12, [.ref z0, .ref z1, .ref z2, .ref z3, .ref z4, .ref z5, .ref z20, .ref z21, .ref z22, .ref z23, .ref z24, .ref z25, .int 0, .ref z26, .ref z27, .ref z28, .int 9, .int 0, .int 0, .ref z6, .ref z29, .ref z7, .int 0, .int 2, .ref z19, .ref z8, .ref z9, .ref z10, .int 0, .ref z11, .int 0, .ref z30, .ref z31, .ref z32, .ref z33, .int 0, .ref z12, .int 0, .int 0, .ref z34, .ref z35, .ref z36, .ref z37, .int 0, .int 0, .int 0, .int 0, .ref z38, .int 0, .ref z39, .ref z40, .ref z41, .ref z42, .int 0, .ref z13, .ref z14, .ref z15, .ref z16, .int 0, .ref z17, .ref z18, .ref z43]))] := hD
  refine lv_aload_n hx hb dX12_mend_5 rfl (lv_at hl 0 rfl) ?_
  refine lv_iload_n hx hb dX12_mend_6 rfl (lv_at hl 1 rfl) ?_
  refine lv_iload_n hx hb dX12_mend_7 rfl (lv_at hl 2 rfl) ?_
  have hPc := hP.sub (ws' := [(h0, .inr (12, [.ref z0, .ref z1, .ref z2, .ref z3, .ref z4, .ref z5, .ref z20, .ref z21, .ref z22, .ref z23, .ref z24, .ref z25, .int 0, .ref z26, .ref z27, .ref z28, .int 9, .int 0, .int 0, .ref z6, .ref z29, .ref z7, .int 0, .int 2, .ref z19, .ref z8, .ref z9, .ref z10, .int 0, .ref z11, .int 0, .ref z30, .ref z31, .ref z32, .ref z33, .int 0, .ref z12, .int 0, .int 0, .ref z34, .ref z35, .ref z36, .ref z37, .int 0, .int 0, .int 0, .int 0, .ref z38, .int 0, .ref z39, .ref z40, .ref z41, .ref z42, .int 0, .ref z13, .ref z14, .ref z15, .ref z16, .int 0, .ref z17, .ref z18, .ref z43]))]) [0] rfl
  have hDc := hD.sub (ws' := [(h0, .inr (12, [.ref z0, .ref z1, .ref z2, .ref z3, .ref z4, .ref z5, .ref z20, .ref z21, .ref z22, .ref z23, .ref z24, .ref z25, .int 0, .ref z26, .ref z27, .ref z28, .int 9, .int 0, .int 0, .ref z6, .ref z29, .ref z7, .int 0, .int 2, .ref z19, .ref z8, .ref z9, .ref z10, .int 0, .ref z11, .int 0, .ref z30, .ref z31, .ref z32, .ref z33, .int 0, .ref z12, .int 0, .int 0, .ref z34, .ref z35, .ref z36, .ref z37, .int 0, .int 0, .int 0, .int 0, .ref z38, .int 0, .ref z39, .ref z40, .ref z41, .ref z42, .int 0, .ref z13, .ref z14, .ref z15, .ref z16, .int 0, .ref z17, .ref z18, .ref z43]))]) [0] (by decide) rfl
  have hFc := va_free (wc := [(h0, .inr (12, [.ref z0, .ref z1, .ref z2, .ref z3, .ref z4, .ref z5, .ref z20, .ref z21, .ref z22, .ref z23, .ref z24, .ref z25, .int 0, .ref z26, .ref z27, .ref z28, .int 9, .int 0, .int 0, .ref z6, .ref z29, .ref z7, .int 0, .int 2, .ref z19, .ref z8, .ref z9, .ref z10, .int 0, .ref z11, .int 0, .ref z30, .ref z31, .ref z32, .ref z33, .int 0, .ref z12, .int 0, .int 0, .ref z34, .ref z35, .ref z36, .ref z37, .int 0, .int 0, .int 0, .int 0, .ref z38, .int 0, .ref z39, .ref z40, .ref z41, .ref z42, .int 0, .ref z13, .ref z14, .ref z15, .ref z16, .int 0, .ref z17, .ref z18, .ref z43]))]) hD hS hA [0] rfl
  refine va_calli (va_runV (As := [.int x1, .int x2]) (rest := []) ⟨hx, hb, hml, hown, hts⟩ (kX12_isString l D G h0 x1 x2 z0 z1 z2 z3 z4 z5 z20 z21 z22 z23 z24 z25 z26 z27 z28 z6 z29 z7 z19 z8 z9 z10 z11 z30 z31 z32 z33 z12 z34 z35 z36 z37 z38 z39 z40 z41 z42 z13 z14 z15 z16 z17 z18 z43 H.size) (cwV 2 hts gX12_mend_X12_isString rfl rfl rfl (by decide +kernel) ⟨Nat.le_of_ble_eq_true rfl, Nat.le_of_ble_eq_true rfl⟩) ⟨wB_blind, va_recv hK hPc (ci := 12) (q0 := 0) rfl rfl, wB_pre hPc hK hDc hN⟩ rfl rfl hl.1 rfl (lv_room (Nat.le_of_ble_eq_true rfl)) dX12_mend_8 ⟨Nat.le_of_ble_eq_true rfl, Nat.le_of_ble_eq_true rfl⟩) hS (fun q _ h => hFc q h) hFc (fun r1 u t H1 locs ht hvm hr1 hB hz1 hk1 hS => ?_)
  obtain ⟨hP1, hK1, hD1⟩ := hB
  rw [ht] at hP1
  obtain ⟨hP, hD⟩ := va_join (wr := []) (w1 := [(h0, .inr (12, [.ref z0, .ref z1, .ref z2, .ref z3, .ref z4, .ref z5, .ref z20, .ref z21, .ref z22, .ref z23, .ref z24, .ref z25, .int 0, .ref z26, .ref z27, .ref z28, .int 9, .int 0, .int 0, .ref z6, .ref z29, .ref z7, .int 0, .int 2, .ref z19, .ref z8, .ref z9, .ref z10, .int 0, .ref z11, .int 0, .ref z30, .ref z31, .ref z32, .ref z33, .int 0, .ref z12, .int 0, .int 0, .ref z34, .ref z35, .ref z36, .ref z37, .int 0, .int 0, .int 0, .int 0, .ref z38, .int 0, .ref z39, .ref z40, .ref z41, .ref z42, .int 0, .ref z13, .ref z14, .ref z15, .ref z16, .int 0, .ref z17, .ref z18, .ref z43]))]) hP hD [0] [] rfl rfl (by decide) (by decide) hk1 hFc hP1 hD1
  clear hPc hDc
  generalize H1 = H at hP hS ⊢
  have hP : va_P D vwCl [(h0, .inr (12, [.ref z0, .ref z1, .ref z2, .ref z3, .ref z4, .ref z5, .ref z20, .ref z21, .ref z22, .ref z23, .ref z24, .ref z25, .int 0, .ref z26, .ref z27, .ref z28, .int 9, .int 0, .int 0, .ref z6, .ref z29, .ref z7, .int 0, .int 2, .ref z19, .ref z8, .ref z9, .ref z10, .int 0, .ref z11, .int 0, .ref z30, .ref z31, .ref z32, .ref z33, .int 0, .ref z12, .int 0, .int 0, .ref z34, .ref z35, .ref z36, .ref z37, .int 0, .int 0, .int 0, .int 0, .ref z38, .int 0, .ref z39, .ref z40, .ref z41, .ref z42, .int 0, .ref z13, .ref z14, .ref z15, .ref z16, .int 0, .ref z17, .ref z18, .ref z43]))] H := hP
  have hD : va_D A [(h0, .inr (12, [.ref z0, .ref z1, .ref z2, .ref z3, .ref z4, .ref z5, .ref z20, .ref z21, .ref z22, .ref z23, .ref z24, .ref z25, .int 0, .ref z26, .ref z27, .ref z28, .int 9, .int 0, .int 0, .ref z6, .ref z29, .ref z7, .int 0, .int 2, .ref z19, .ref z8, .ref z9, .ref z10, .int 0, .ref z11, .int 0, .ref z30, .ref z31, .ref z32, .ref z33, .int 0, .ref z12, .int 0, .int 0, .ref z34, .ref z35, .ref z36, .ref z37, .int 0, .int 0, .int 0, .int 0, .ref z38, .int 0, .ref z39, .ref z40, .ref z41, .ref z42, .int 0, .ref z13, .ref z14, .ref z15, .ref z16, .int 0, .ref z17, .ref z18, .ref z43]))] := hD
  subst hr1
  refine lv_if_ne (tgt := 16) hx hb dX12_mend_11 (by decide) (fun h9 => absurd h9 (by decide)) (fun _ => ?_)
  refine lv_iconst (v := 0) hx hb dX12_mend_14 (by decide) ?_
  exact W.zret (v := 0) hx hb hr rfl (fun t ht hW => ⟨⟨0, (), rfl, rfl, trivial⟩, hS.F ht⟩) hS.2.2 dX12_mend_15

theorem mX12_pulled_w0 : Cond.fieldLink RX12 157 "PuppetBridgeModel" "thrown" "I" ∈ wsX12_pulled := by decide +kernel
theorem iX12_pulled_X12 : ∀ w ∈ wsX120, w ∈ wsX12_pulled := fun _ h => List.mem_cons_of_mem _ (List.mem_append_right _ h)
set_option maxRecDepth 20000 in
theorem ggX12_pulled_X12_isString : GoodIn wsX12_pulled wsX12_isString := goodIn_r _ [8, 9, 10, 11, 12, 7, 13, 14, 15, 16, 17, 18, 19, 20, 21, 22, 23, 24, 25, 26, 27, 28, 29, 30, 31, 32, 33, 34, 35, 36, 37, 38, 39, 40, 41, 42, 43, 44, 45, 46, 47, 48, 49, 50, 51, 52, 53, 54, 55, 56, 57, 58, 59, 60, 61, 62, 63, 64, 65, 66, 67, 68, 69, 70, 71, 72, 73, 74, 75, 76, 77, 78, 79] (by decide +kernel) (by decide +kernel)
set_option maxRecDepth 20000 in
theorem gX12_pulled_X12_isString : GoodIn wsX12_pulled (wsV RX12 231 RX12 yX12_isString wsX12_isString) := goodIn_app (goodIn_of _ (by decide +kernel)) ggX12_pulled_X12_isString
theorem dX12_pulled_0 : decode cX12_pulled 0 = .ok (.aload_n 0, 1) := by decide +kernel
theorem dX12_pulled_1 : decode cX12_pulled 1 = .ok (.iconst 0, 1) := by decide +kernel
theorem dX12_pulled_2 : decode cX12_pulled 2 = .ok (.putfield 157, 3) := by decide +kernel
theorem dX12_pulled_5 : decode cX12_pulled 5 = .ok (.aload_n 0, 1) := by decide +kernel
theorem dX12_pulled_6 : decode cX12_pulled 6 = .ok (.iload_n 1, 1) := by decide +kernel
theorem dX12_pulled_7 : decode cX12_pulled 7 = .ok (.iload_n 2, 1) := by decide +kernel
theorem dX12_pulled_8 : decode cX12_pulled 8 = .ok (.invokevirtual 231, 3) := by decide +kernel
theorem dX12_pulled_11 : decode cX12_pulled 11 = .ok (.ifCond .ne 5, 3) := by decide +kernel
theorem dX12_pulled_14 : decode cX12_pulled 14 = .ok (.iconst (-1), 1) := by decide +kernel
theorem dX12_pulled_15 : decode cX12_pulled 15 = .ok (.ireturn, 1) := by decide +kernel
set_option maxHeartbeats 4000000 in
set_option maxRecDepth 100000 in
/-- X12_pulled -/
theorem kX12_pulled (l : Launch) (D : va_G) (G : tyG) (h0 : Nat) (x1 : Int32) (x2 : Int32) (x3 : Int32) (z0 : Nat) (z1 : Nat) (z2 : Nat) (z3 : Nat) (z4 : Nat) (z5 : Nat) (z20 : Nat) (z21 : Nat) (z22 : Nat) (z23 : Nat) (z24 : Nat) (z25 : Nat) (z26 : Nat) (z27 : Nat) (z28 : Nat) (z6 : Nat) (z29 : Nat) (z7 : Nat) (z19 : Nat) (z8 : Nat) (z9 : Nat) (z10 : Nat) (z11 : Nat) (z30 : Nat) (z31 : Nat) (z32 : Nat) (z33 : Nat) (z12 : Nat) (z34 : Nat) (z35 : Nat) (z36 : Nat) (z37 : Nat) (z38 : Nat) (z39 : Nat) (z40 : Nat) (z41 : Nat) (z42 : Nat) (z13 : Nat) (z14 : Nat) (z15 : Nat) (z16 : Nat) (z17 : Nat) (z18 : Nat) (z43 : Nat) (sz : Nat) : Met l yX12_pulled wsX12_pulled ({ frames := 3, cells := 0, slots := 0, locals := 65 }) (va_Pc [.ref h0, .int x1, .int x2, .int x3] (wB D G sz [(h0, .inr (12, [.ref z0, .ref z1, .ref z2, .ref z3, .ref z4, .ref z5, .ref z20, .ref z21, .ref z22, .ref z23, .ref z24, .ref z25, .int 0, .ref z26, .ref z27, .ref z28, .int 9, .int 0, .int 0, .ref z6, .ref z29, .ref z7, .int 0, .int 2, .ref z19, .ref z8, .ref z9, .ref z10, .int 0, .ref z11, .int 0, .ref z30, .ref z31, .ref z32, .ref z33, .int 0, .ref z12, .int 0, .int 0, .ref z34, .ref z35, .ref z36, .ref z37, .int 0, .int 0, .int 0, .int 0, .ref z38, .int 0, .ref z39, .ref z40, .ref z41, .ref z42, .int 0, .ref z13, .ref z14, .ref z15, .ref z16, .int 0, .ref z17, .ref z18, .ref z43]))])) (va_Qi (fun (r : Int32) (_ : Unit) => r = (-1)) (fun _ _ => True) (va_A [(h0, .inr (12, [.ref z0, .ref z1, .ref z2, .ref z3, .ref z4, .ref z5, .ref z20, .ref z21, .ref z22, .ref z23, .ref z24, .ref z25, .int 0, .ref z26, .ref z27, .ref z28, .int 9, .int 0, .int 0, .ref z6, .ref z29, .ref z7, .int 0, .int 2, .ref z19, .ref z8, .ref z9, .ref z10, .int 0, .ref z11, .int 0, .ref z30, .ref z31, .ref z32, .ref z33, .int 0, .ref z12, .int 0, .int 0, .ref z34, .ref z35, .ref z36, .ref z37, .int 0, .int 0, .int 0, .int 0, .ref z38, .int 0, .ref z39, .ref z40, .ref z41, .ref z42, .int 0, .ref z13, .ref z14, .ref z15, .ref z16, .int 0, .ref z17, .ref z18, .ref z43]))] sz)) 0 0 (va_A [(h0, .inr (12, [.ref z0, .ref z1, .ref z2, .ref z3, .ref z4, .ref z5, .ref z20, .ref z21, .ref z22, .ref z23, .ref z24, .ref z25, .int 0, .ref z26, .ref z27, .ref z28, .int 9, .int 0, .int 0, .ref z6, .ref z29, .ref z7, .int 0, .int 2, .ref z19, .ref z8, .ref z9, .ref z10, .int 0, .ref z11, .int 0, .ref z30, .ref z31, .ref z32, .ref z33, .int 0, .ref z12, .int 0, .int 0, .ref z34, .ref z35, .ref z36, .ref z37, .int 0, .int 0, .int 0, .int 0, .ref z38, .int 0, .ref z39, .ref z40, .ref z41, .ref z42, .int 0, .ref z13, .ref z14, .ref z15, .ref z16, .int 0, .ref z17, .ref z18, .ref z43]))] sz) := by
  refine Met.ofW (cc := cX12_pulled) (maxL := 5) (ret := (some .int)) (by decide) rfl ?_
  intro p e s m args below meth c s₁ B hml hv
  obtain ⟨rfl, hsz, hP, hK, hD0, hN⟩ := hv
  have hx := B.exec
  have hb := B.bytes
  have hr := B.returns
  have hts := atoms_spec (ws := wsX12_pulled) B.pre
  have hown : s.vm.findClass RX12 = some m.cls := findClass_of_methodNamed B.named
  have hlocks := B.notSynchronized
  subst hsz
  have hD := hD0.self (sz := s.heap.size)
  generalize hAe : va_A [(h0, .inr (12, [.ref z0, .ref z1, .ref z2, .ref z3, .ref z4, .ref z5, .ref z20, .ref z21, .ref z22, .ref z23, .ref z24, .ref z25, .int 0, .ref z26, .ref z27, .ref z28, .int 9, .int 0, .int 0, .ref z6, .ref z29, .ref z7, .int 0, .int 2, .ref z19, .ref z8, .ref z9, .ref z10, .int 0, .ref z11, .int 0, .ref z30, .ref z31, .ref z32, .ref z33, .int 0, .ref z12, .int 0, .int 0, .ref z34, .ref z35, .ref z36, .ref z37, .int 0, .int 0, .int 0, .int 0, .ref z38, .int 0, .ref z39, .ref z40, .ref z41, .ref z42, .int 0, .ref z13, .ref z14, .ref z15, .ref z16, .int 0, .ref z17, .ref z18, .ref z43]))] s.heap.size = A at hD ⊢
  have hA : ∀ q : Nat, s.heap.size ≤ q → A q := fun q h => by rw [← hAe]; exact Or.inr h
  have hS : va_S A s.heap s.heap [] := va_S.rf
  have hP : va_P D vwCl [(h0, .inr (12, [.ref z0, .ref z1, .ref z2, .ref z3, .ref z4, .ref z5, .ref z20, .ref z21, .ref z22, .ref z23, .ref z24, .ref z25, .int 0, .ref z26, .ref z27, .ref z28, .int 9, .int 0, .int 0, .ref z6, .ref z29, .ref z7, .int 0, .int 2, .ref z19, .ref z8, .ref z9, .ref z10, .int 0, .ref z11, .int 0, .ref z30, .ref z31, .ref z32, .ref z33, .int 0, .ref z12, .int 0, .int 0, .ref z34, .ref z35, .ref z36, .ref z37, .int 0, .int 0, .int 0, .int 0, .ref z38, .int 0, .ref z39, .ref z40, .ref z41, .ref z42, .int 0, .ref z13, .ref z14, .ref z15, .ref z16, .int 0, .ref z17, .ref z18, .ref z43]))] s.heap := hP
  have hl := lv_entry ([.ref h0, .int x1, .int x2, .int x3]) (n := 5) (Nat.le_of_ble_eq_true rfl)
  rw [lg_entry_eq]
  generalize (lg_sl ([.ref h0, .int x1, .int x2, .int x3]) ++ List.replicate (5 - (lg_sl ([.ref h0, .int x1, .int x2, .int x3])).length) Slot.unset).toArray = ls at hl ⊢
  have hl : lv_has ls 5 [(0, .ref h0), (1, .int x1), (2, .int x2), (3, .int x3)] := hl
  refine lv_aload_n hx hb dX12_pulled_0 rfl (lv_at hl 0 rfl) ?_
  refine lv_iconst (v := 0) hx hb dX12_pulled_1 (by decide) ?_
  refine va_put (D := D) (ci := 12) (v := .int 0) (ty := (tyX12 38)) (C := RX12) (T := TX12) (N := 62) hx hb hts iX12_pulled_X12 tyX12 tyX12_ok nmX12 hown hK hP hD hS 0 rfl rfl 38 (by decide) (hts (.fieldLink RX12 157 "PuppetBridgeModel" "thrown" "I") mX12_pulled_w0) (fun _ h9 => h9) rfl (tyX12_ok 38 (by decide)) rfl rfl (Nat.le_of_ble_eq_true rfl) dX12_pulled_2 (fun H locs hP hD hS => ?_)
  have hP : va_P D vwCl [(h0, .inr (12, [.ref z0, .ref z1, .ref z2, .ref z3, .ref z4, .ref z5, .ref z20, .ref z21, .ref z22, .ref z23, .ref z24, .ref z25, .int 0, .ref z26, .ref z27, .ref z28, .int 9, .int 0, .int 0, .ref z6, .ref z29, .ref z7, .int 0, .int 2, .ref z19, .ref z8, .ref z9, .ref z10, .int 0, .ref z11, .int 0, .ref z30, .ref z31, .ref z32, .ref z33, .int 0, .ref z12, .int 0, .int 0, .ref z34, .ref z35, .ref z36, .ref z37, .int 0, .int 0, .int 0, .int 0, .ref z38, .int 0, .ref z39, .ref z40, .ref z41, .ref z42, .int 0, .ref z13, .ref z14, .ref z15, .ref z16, .int 0, .ref z17, .ref z18, .ref z43]))] H := hP
  have hD : va_D A [(h0, .inr (12, [.ref z0, .ref z1, .ref z2, .ref z3, .ref z4, .ref z5, .ref z20, .ref z21, .ref z22, .ref z23, .ref z24, .ref z25, .int 0, .ref z26, .ref z27, .ref z28, .int 9, .int 0, .int 0, .ref z6, .ref z29, .ref z7, .int 0, .int 2, .ref z19, .ref z8, .ref z9, .ref z10, .int 0, .ref z11, .int 0, .ref z30, .ref z31, .ref z32, .ref z33, .int 0, .ref z12, .int 0, .int 0, .ref z34, .ref z35, .ref z36, .ref z37, .int 0, .int 0, .int 0, .int 0, .ref z38, .int 0, .ref z39, .ref z40, .ref z41, .ref z42, .int 0, .ref z13, .ref z14, .ref z15, .ref z16, .int 0, .ref z17, .ref z18, .ref z43]))] := hD
  refine lv_aload_n hx hb dX12_pulled_5 rfl (lv_at hl 0 rfl) ?_
  refine lv_iload_n hx hb dX12_pulled_6 rfl (lv_at hl 1 rfl) ?_
  refine lv_iload_n hx hb dX12_pulled_7 rfl (lv_at hl 2 rfl) ?_
  have hPc := hP.sub (ws' := [(h0, .inr (12, [.ref z0, .ref z1, .ref z2, .ref z3, .ref z4, .ref z5, .ref z20, .ref z21, .ref z22, .ref z23, .ref z24, .ref z25, .int 0, .ref z26, .ref z27, .ref z28, .int 9, .int 0, .int 0, .ref z6, .ref z29, .ref z7, .int 0, .int 2, .ref z19, .ref z8, .ref z9, .ref z10, .int 0, .ref z11, .int 0, .ref z30, .ref z31, .ref z32, .ref z33, .int 0, .ref z12, .int 0, .int 0, .ref z34, .ref z35, .ref z36, .ref z37, .int 0, .int 0, .int 0, .int 0, .ref z38, .int 0, .ref z39, .ref z40, .ref z41, .ref z42, .int 0, .ref z13, .ref z14, .ref z15, .ref z16, .int 0, .ref z17, .ref z18, .ref z43]))]) [0] rfl
  have hDc := hD.sub (ws' := [(h0, .inr (12, [.ref z0, .ref z1, .ref z2, .ref z3, .ref z4, .ref z5, .ref z20, .ref z21, .ref z22, .ref z23, .ref z24, .ref z25, .int 0, .ref z26, .ref z27, .ref z28, .int 9, .int 0, .int 0, .ref z6, .ref z29, .ref z7, .int 0, .int 2, .ref z19, .ref z8, .ref z9, .ref z10, .int 0, .ref z11, .int 0, .ref z30, .ref z31, .ref z32, .ref z33, .int 0, .ref z12, .int 0, .int 0, .ref z34, .ref z35, .ref z36, .ref z37, .int 0, .int 0, .int 0, .int 0, .ref z38, .int 0, .ref z39, .ref z40, .ref z41, .ref z42, .int 0, .ref z13, .ref z14, .ref z15, .ref z16, .int 0, .ref z17, .ref z18, .ref z43]))]) [0] (by decide) rfl
  have hFc := va_free (wc := [(h0, .inr (12, [.ref z0, .ref z1, .ref z2, .ref z3, .ref z4, .ref z5, .ref z20, .ref z21, .ref z22, .ref z23, .ref z24, .ref z25, .int 0, .ref z26, .ref z27, .ref z28, .int 9, .int 0, .int 0, .ref z6, .ref z29, .ref z7, .int 0, .int 2, .ref z19, .ref z8, .ref z9, .ref z10, .int 0, .ref z11, .int 0, .ref z30, .ref z31, .ref z32, .ref z33, .int 0, .ref z12, .int 0, .int 0, .ref z34, .ref z35, .ref z36, .ref z37, .int 0, .int 0, .int 0, .int 0, .ref z38, .int 0, .ref z39, .ref z40, .ref z41, .ref z42, .int 0, .ref z13, .ref z14, .ref z15, .ref z16, .int 0, .ref z17, .ref z18, .ref z43]))]) hD hS hA [0] rfl
  refine va_calli (va_runV (As := [.int x1, .int x2]) (rest := []) ⟨hx, hb, hml, hown, hts⟩ (kX12_isString l D G h0 x1 x2 z0 z1 z2 z3 z4 z5 z20 z21 z22 z23 z24 z25 z26 z27 z28 z6 z29 z7 z19 z8 z9 z10 z11 z30 z31 z32 z33 z12 z34 z35 z36 z37 z38 z39 z40 z41 z42 z13 z14 z15 z16 z17 z18 z43 H.size) (cwV 2 hts gX12_pulled_X12_isString rfl rfl rfl (by decide +kernel) ⟨Nat.le_of_ble_eq_true rfl, Nat.le_of_ble_eq_true rfl⟩) ⟨wB_blind, va_recv hK hPc (ci := 12) (q0 := 0) rfl rfl, wB_pre hPc hK hDc hN⟩ rfl rfl hl.1 rfl (lv_room (Nat.le_of_ble_eq_true rfl)) dX12_pulled_8 ⟨Nat.le_of_ble_eq_true rfl, Nat.le_of_ble_eq_true rfl⟩) hS (fun q _ h => hFc q h) hFc (fun r1 u t H1 locs ht hvm hr1 hB hz1 hk1 hS => ?_)
  obtain ⟨hP1, hK1, hD1⟩ := hB
  rw [ht] at hP1
  obtain ⟨hP, hD⟩ := va_join (wr := []) (w1 := [(h0, .inr (12, [.ref z0, .ref z1, .ref z2, .ref z3, .ref z4, .ref z5, .ref z20, .ref z21, .ref z22, .ref z23, .ref z24, .ref z25, .int 0, .ref z26, .ref z27, .ref z28, .int 9, .int 0, .int 0, .ref z6, .ref z29, .ref z7, .int 0, .int 2, .ref z19, .ref z8, .ref z9, .ref z10, .int 0, .ref z11, .int 0, .ref z30, .ref z31, .ref z32, .ref z33, .int 0, .ref z12, .int 0, .int 0, .ref z34, .ref z35, .ref z36, .ref z37, .int 0, .int 0, .int 0, .int 0, .ref z38, .int 0, .ref z39, .ref z40, .ref z41, .ref z42, .int 0, .ref z13, .ref z14, .ref z15, .ref z16, .int 0, .ref z17, .ref z18, .ref z43]))]) hP hD [0] [] rfl rfl (by decide) (by decide) hk1 hFc hP1 hD1
  clear hPc hDc
  generalize H1 = H at hP hS ⊢
  have hP : va_P D vwCl [(h0, .inr (12, [.ref z0, .ref z1, .ref z2, .ref z3, .ref z4, .ref z5, .ref z20, .ref z21, .ref z22, .ref z23, .ref z24, .ref z25, .int 0, .ref z26, .ref z27, .ref z28, .int 9, .int 0, .int 0, .ref z6, .ref z29, .ref z7, .int 0, .int 2, .ref z19, .ref z8, .ref z9, .ref z10, .int 0, .ref z11, .int 0, .ref z30, .ref z31, .ref z32, .ref z33, .int 0, .ref z12, .int 0, .int 0, .ref z34, .ref z35, .ref z36, .ref z37, .int 0, .int 0, .int 0, .int 0, .ref z38, .int 0, .ref z39, .ref z40, .ref z41, .ref z42, .int 0, .ref z13, .ref z14, .ref z15, .ref z16, .int 0, .ref z17, .ref z18, .ref z43]))] H := hP
  have hD : va_D A [(h0, .inr (12, [.ref z0, .ref z1, .ref z2, .ref z3, .ref z4, .ref z5, .ref z20, .ref z21, .ref z22, .ref z23, .ref z24, .ref z25, .int 0, .ref z26, .ref z27, .ref z28, .int 9, .int 0, .int 0, .ref z6, .ref z29, .ref z7, .int 0, .int 2, .ref z19, .ref z8, .ref z9, .ref z10, .int 0, .ref z11, .int 0, .ref z30, .ref z31, .ref z32, .ref z33, .int 0, .ref z12, .int 0, .int 0, .ref z34, .ref z35, .ref z36, .ref z37, .int 0, .int 0, .int 0, .int 0, .ref z38, .int 0, .ref z39, .ref z40, .ref z41, .ref z42, .int 0, .ref z13, .ref z14, .ref z15, .ref z16, .int 0, .ref z17, .ref z18, .ref z43]))] := hD
  subst hr1
  refine lv_if_ne (tgt := 16) hx hb dX12_pulled_11 (by decide) (fun h9 => absurd h9 (by decide)) (fun _ => ?_)
  refine lv_iconst (v := (-1)) hx hb dX12_pulled_14 (by decide) ?_
  exact W.iret (v := (-1)) hx hb hr (fun t ht hW => ⟨⟨(-1), (), rfl, rfl, trivial⟩, hS.F ht⟩) hS.2.2 dX12_pulled_15

theorem mX12_score_w0 : Cond.fieldLink RX12 157 "PuppetBridgeModel" "thrown" "I" ∈ wsX12_score := by decide +kernel
theorem mX12_score_w1 : Cond.fieldLink RX12 251 "PuppetBridgeModel" "typed" "I" ∈ wsX12_score := by decide +kernel
theorem mX12_score_w2 : Cond.fieldLink RX12 257 "PuppetBridgeModel" "size" "I" ∈ wsX12_score := by decide +kernel
theorem iX12_score_X12 : ∀ w ∈ wsX120, w ∈ wsX12_score := fun _ h => List.mem_cons_of_mem _ (List.mem_append_right _ h)
set_option maxRecDepth 20000 in
theorem ggX12_score_X12_isFigure : GoodIn wsX12_score wsX12_isFigure := goodIn_r _ [15, 16, 17, 18, 14, 19, 37, 38, 39, 40, 41, 42, 43, 44, 45, 46, 47, 48, 49, 50, 51, 52, 53, 54, 55, 56, 57, 58, 59, 60, 61, 62, 63, 64, 65, 66, 67, 68, 69, 70, 71, 72, 73, 74, 75, 76, 77, 78, 79, 80, 81, 82, 83, 84, 85, 86, 87, 88, 89, 90, 91, 92, 93, 94, 95, 96, 97, 98] (by decide +kernel) (by decide +kernel)
set_option maxRecDepth 20000 in
theorem gX12_score_X12_isFigure : GoodIn wsX12_score (wsV RX12 167 RX12 yX12_isFigure wsX12_isFigure) := goodIn_app (goodIn_of _ (by decide +kernel)) ggX12_score_X12_isFigure
theorem dX12_score_0 : decode cX12_score 0 = .ok (.aload_n 0, 1) := by decide +kernel
theorem dX12_score_1 : decode cX12_score 1 = .ok (.iconst 0, 1) := by decide +kernel
theorem dX12_score_2 : decode cX12_score 2 = .ok (.putfield 157, 3) := by decide +kernel
theorem dX12_score_5 : decode cX12_score 5 = .ok (.aload_n 0, 1) := by decide +kernel
theorem dX12_score_6 : decode cX12_score 6 = .ok (.aload_n 0, 1) := by decide +kernel
theorem dX12_score_7 : decode cX12_score 7 = .ok (.getfield 251, 3) := by decide +kernel
theorem dX12_score_10 : decode cX12_score 10 = .ok (.putfield 257, 3) := by decide +kernel
theorem dX12_score_13 : decode cX12_score 13 = .ok (.aload_n 0, 1) := by decide +kernel
theorem dX12_score_14 : decode cX12_score 14 = .ok (.iconst 0, 1) := by decide +kernel
theorem dX12_score_15 : decode cX12_score 15 = .ok (.putfield 251, 3) := by decide +kernel
theorem dX12_score_18 : decode cX12_score 18 = .ok (.aload_n 0, 1) := by decide +kernel
theorem dX12_score_19 : decode cX12_score 19 = .ok (.iload_n 1, 1) := by decide +kernel
theorem dX12_score_20 : decode cX12_score 20 = .ok (.invokevirtual 167, 3) := by decide +kernel
theorem dX12_score_23 : decode cX12_score 23 = .ok (.ifCond .ne 6, 3) := by decide +kernel
theorem dX12_score_26 : decode cX12_score 26 = .ok (.bipush (-101), 2) := by decide +kernel
theorem dX12_score_28 : decode cX12_score 28 = .ok (.ireturn, 1) := by decide +kernel
set_option maxHeartbeats 4000000 in
set_option maxRecDepth 100000 in
/-- X12_score -/
theorem kX12_score (l : Launch) (D : va_G) (G : tyG) (h0 : Nat) (x1 : Int32) (z0 : Nat) (z1 : Nat) (z2 : Nat) (z3 : Nat) (z4 : Nat) (z5 : Nat) (z20 : Nat) (z21 : Nat) (z22 : Nat) (z23 : Nat) (z24 : Nat) (z25 : Nat) (z26 : Nat) (z27 : Nat) (z28 : Nat) (z6 : Nat) (z29 : Nat) (z7 : Nat) (z19 : Nat) (z8 : Nat) (z9 : Nat) (z10 : Nat) (z11 : Nat) (z30 : Nat) (z31 : Nat) (z32 : Nat) (z33 : Nat) (z12 : Nat) (z34 : Nat) (z35 : Nat) (z36 : Nat) (z37 : Nat) (z38 : Nat) (z39 : Nat) (z40 : Nat) (z41 : Nat) (z42 : Nat) (z13 : Nat) (z14 : Nat) (z15 : Nat) (z16 : Nat) (z17 : Nat) (z18 : Nat) (z43 : Nat) (sz : Nat) : Met l yX12_score wsX12_score ({ frames := 2, cells := 0, slots := 0, locals := 43 }) (va_Pc [.ref h0, .int x1] (wB D G sz [(h0, .inr (12, [.ref z0, .ref z1, .ref z2, .ref z3, .ref z4, .ref z5, .ref z20, .ref z21, .ref z22, .ref z23, .ref z24, .ref z25, .int 0, .ref z26, .ref z27, .ref z28, .int 9, .int 0, .int 0, .ref z6, .ref z29, .ref z7, .int 0, .int 2, .ref z19, .ref z8, .ref z9, .ref z10, .int 0, .ref z11, .int 0, .ref z30, .ref z31, .ref z32, .ref z33, .int 0, .ref z12, .int 0, .int 0, .ref z34, .ref z35, .ref z36, .ref z37, .int 0, .int 0, .int 0, .int 0, .ref z38, .int 0, .ref z39, .ref z40, .ref z41, .ref z42, .int 0, .ref z13, .ref z14, .ref z15, .ref z16, .int 0, .ref z17, .ref z18, .ref z43]))])) (va_Qi (fun (r : Int32) (_ : Unit) => r = (-101)) (fun _ _ => True) (va_A [(h0, .inr (12, [.ref z0, .ref z1, .ref z2, .ref z3, .ref z4, .ref z5, .ref z20, .ref z21, .ref z22, .ref z23, .ref z24, .ref z25, .int 0, .ref z26, .ref z27, .ref z28, .int 9, .int 0, .int 0, .ref z6, .ref z29, .ref z7, .int 0, .int 2, .ref z19, .ref z8, .ref z9, .ref z10, .int 0, .ref z11, .int 0, .ref z30, .ref z31, .ref z32, .ref z33, .int 0, .ref z12, .int 0, .int 0, .ref z34, .ref z35, .ref z36, .ref z37, .int 0, .int 0, .int 0, .int 0, .ref z38, .int 0, .ref z39, .ref z40, .ref z41, .ref z42, .int 0, .ref z13, .ref z14, .ref z15, .ref z16, .int 0, .ref z17, .ref z18, .ref z43]))] sz)) 0 0 (va_A [(h0, .inr (12, [.ref z0, .ref z1, .ref z2, .ref z3, .ref z4, .ref z5, .ref z20, .ref z21, .ref z22, .ref z23, .ref z24, .ref z25, .int 0, .ref z26, .ref z27, .ref z28, .int 9, .int 0, .int 0, .ref z6, .ref z29, .ref z7, .int 0, .int 2, .ref z19, .ref z8, .ref z9, .ref z10, .int 0, .ref z11, .int 0, .ref z30, .ref z31, .ref z32, .ref z33, .int 0, .ref z12, .int 0, .int 0, .ref z34, .ref z35, .ref z36, .ref z37, .int 0, .int 0, .int 0, .int 0, .ref z38, .int 0, .ref z39, .ref z40, .ref z41, .ref z42, .int 0, .ref z13, .ref z14, .ref z15, .ref z16, .int 0, .ref z17, .ref z18, .ref z43]))] sz) := by
  refine Met.ofW (cc := cX12_score) (maxL := 3) (ret := (some .int)) (by decide) rfl ?_
  intro p e s m args below meth c s₁ B hml hv
  obtain ⟨rfl, hsz, hP, hK, hD0, hN⟩ := hv
  have hx := B.exec
  have hb := B.bytes
  have hr := B.returns
  have hts := atoms_spec (ws := wsX12_score) B.pre
  have hown : s.vm.findClass RX12 = some m.cls := findClass_of_methodNamed B.named
  have hlocks := B.notSynchronized
  subst hsz
  have hD := hD0.self (sz := s.heap.size)
  generalize hAe : va_A [(h0, .inr (12, [.ref z0, .ref z1, .ref z2, .ref z3, .ref z4, .ref z5, .ref z20, .ref z21, .ref z22, .ref z23, .ref z24, .ref z25, .int 0, .ref z26, .ref z27, .ref z28, .int 9, .int 0, .int 0, .ref z6, .ref z29, .ref z7, .int 0, .int 2, .ref z19, .ref z8, .ref z9, .ref z10, .int 0, .ref z11, .int 0, .ref z30, .ref z31, .ref z32, .ref z33, .int 0, .ref z12, .int 0, .int 0, .ref z34, .ref z35, .ref z36, .ref z37, .int 0, .int 0, .int 0, .int 0, .ref z38, .int 0, .ref z39, .ref z40, .ref z41, .ref z42, .int 0, .ref z13, .ref z14, .ref z15, .ref z16, .int 0, .ref z17, .ref z18, .ref z43]))] s.heap.size = A at hD ⊢
  have hA : ∀ q : Nat, s.heap.size ≤ q → A q := fun q h => by rw [← hAe]; exact Or.inr h
  have hS : va_S A s.heap s.heap [] := va_S.rf
  have hP : va_P D vwCl [(h0, .inr (12, [.ref z0, .ref z1, .ref z2, .ref z3, .ref z4, .ref z5, .ref z20, .ref z21, .ref z22, .ref z23, .ref z24, .ref z25, .int 0, .ref z26, .ref z27, .ref z28, .int 9, .int 0, .int 0, .ref z6, .ref z29, .ref z7, .int 0, .int 2, .ref z19, .ref z8, .ref z9, .ref z10, .int 0, .ref z11, .int 0, .ref z30, .ref z31, .ref z32, .ref z33, .int 0, .ref z12, .int 0, .int 0, .ref z34, .ref z35, .ref z36, .ref z37, .int 0, .int 0, .int 0, .int 0, .ref z38, .int 0, .ref z39, .ref z40, .ref z41, .ref z42, .int 0, .ref z13, .ref z14, .ref z15, .ref z16, .int 0, .ref z17, .ref z18, .ref z43]))] s.heap := hP
  have hl := lv_entry ([.ref h0, .int x1]) (n := 3) (Nat.le_of_ble_eq_true rfl)
  rw [lg_entry_eq]
  generalize (lg_sl ([.ref h0, .int x1]) ++ List.replicate (3 - (lg_sl ([.ref h0, .int x1])).length) Slot.unset).toArray = ls at hl ⊢
  have hl : lv_has ls 3 [(0, .ref h0), (1, .int x1)] := hl
  refine lv_aload_n hx hb dX12_score_0 rfl (lv_at hl 0 rfl) ?_
  refine lv_iconst (v := 0) hx hb dX12_score_1 (by decide) ?_
  refine va_put (D := D) (ci := 12) (v := .int 0) (ty := (tyX12 38)) (C := RX12) (T := TX12) (N := 62) hx hb hts iX12_score_X12 tyX12 tyX12_ok nmX12 hown hK hP hD hS 0 rfl rfl 38 (by decide) (hts (.fieldLink RX12 157 "PuppetBridgeModel" "thrown" "I") mX12_score_w0) (fun _ h9 => h9) rfl (tyX12_ok 38 (by decide)) rfl rfl (Nat.le_of_ble_eq_true rfl) dX12_score_2 (fun H locs hP hD hS => ?_)
  have hP : va_P D vwCl [(h0, .inr (12, [.ref z0, .ref z1, .ref z2, .ref z3, .ref z4, .ref z5, .ref z20, .ref z21, .ref z22, .ref z23, .ref z24, .ref z25, .int 0, .ref z26, .ref z27, .ref z28, .int 9, .int 0, .int 0, .ref z6, .ref z29, .ref z7, .int 0, .int 2, .ref z19, .ref z8, .ref z9, .ref z10, .int 0, .ref z11, .int 0, .ref z30, .ref z31, .ref z32, .ref z33, .int 0, .ref z12, .int 0, .int 0, .ref z34, .ref z35, .ref z36, .ref z37, .int 0, .int 0, .int 0, .int 0, .ref z38, .int 0, .ref z39, .ref z40, .ref z41, .ref z42, .int 0, .ref z13, .ref z14, .ref z15, .ref z16, .int 0, .ref z17, .ref z18, .ref z43]))] H := hP
  have hD : va_D A [(h0, .inr (12, [.ref z0, .ref z1, .ref z2, .ref z3, .ref z4, .ref z5, .ref z20, .ref z21, .ref z22, .ref z23, .ref z24, .ref z25, .int 0, .ref z26, .ref z27, .ref z28, .int 9, .int 0, .int 0, .ref z6, .ref z29, .ref z7, .int 0, .int 2, .ref z19, .ref z8, .ref z9, .ref z10, .int 0, .ref z11, .int 0, .ref z30, .ref z31, .ref z32, .ref z33, .int 0, .ref z12, .int 0, .int 0, .ref z34, .ref z35, .ref z36, .ref z37, .int 0, .int 0, .int 0, .int 0, .ref z38, .int 0, .ref z39, .ref z40, .ref z41, .ref z42, .int 0, .ref z13, .ref z14, .ref z15, .ref z16, .int 0, .ref z17, .ref z18, .ref z43]))] := hD
  refine lv_aload_n hx hb dX12_score_5 rfl (lv_at hl 0 rfl) ?_
  refine lv_aload_n hx hb dX12_score_6 rfl (lv_at hl 0 rfl) ?_
  refine va_get (D := D) (ci := 12) (v := .int 0) (C := RX12) (T := TX12) (N := 62) hx hb hts iX12_score_X12 hown hK hP 0 rfl rfl 22 (by decide) (hts (.fieldLink RX12 251 "PuppetBridgeModel" "typed" "I") mX12_score_w1) (fun _ h9 => h9) rfl dX12_score_7 ?_
  refine va_put (D := D) (ci := 12) (v := .int 0) (ty := (tyX12 45)) (C := RX12) (T := TX12) (N := 62) hx hb hts iX12_score_X12 tyX12 tyX12_ok nmX12 hown hK hP hD hS 0 rfl rfl 45 (by decide) (hts (.fieldLink RX12 257 "PuppetBridgeModel" "size" "I") mX12_score_w2) (fun _ h9 => h9) rfl (tyX12_ok 45 (by decide)) rfl rfl (Nat.le_of_ble_eq_true rfl) dX12_score_10 (fun H locs hP hD hS => ?_)
  have hP : va_P D vwCl [(h0, .inr (12, [.ref z0, .ref z1, .ref z2, .ref z3, .ref z4, .ref z5, .ref z20, .ref z21, .ref z22, .ref z23, .ref z24, .ref z25, .int 0, .ref z26, .ref z27, .ref z28, .int 9, .int 0, .int 0, .ref z6, .ref z29, .ref z7, .int 0, .int 2, .ref z19, .ref z8, .ref z9, .ref z10, .int 0, .ref z11, .int 0, .ref z30, .ref z31, .ref z32, .ref z33, .int 0, .ref z12, .int 0, .int 0, .ref z34, .ref z35, .ref z36, .ref z37, .int 0, .int 0, .int 0, .int 0, .ref z38, .int 0, .ref z39, .ref z40, .ref z41, .ref z42, .int 0, .ref z13, .ref z14, .ref z15, .ref z16, .int 0, .ref z17, .ref z18, .ref z43]))] H := hP
  have hD : va_D A [(h0, .inr (12, [.ref z0, .ref z1, .ref z2, .ref z3, .ref z4, .ref z5, .ref z20, .ref z21, .ref z22, .ref z23, .ref z24, .ref z25, .int 0, .ref z26, .ref z27, .ref z28, .int 9, .int 0, .int 0, .ref z6, .ref z29, .ref z7, .int 0, .int 2, .ref z19, .ref z8, .ref z9, .ref z10, .int 0, .ref z11, .int 0, .ref z30, .ref z31, .ref z32, .ref z33, .int 0, .ref z12, .int 0, .int 0, .ref z34, .ref z35, .ref z36, .ref z37, .int 0, .int 0, .int 0, .int 0, .ref z38, .int 0, .ref z39, .ref z40, .ref z41, .ref z42, .int 0, .ref z13, .ref z14, .ref z15, .ref z16, .int 0, .ref z17, .ref z18, .ref z43]))] := hD
  refine lv_aload_n hx hb dX12_score_13 rfl (lv_at hl 0 rfl) ?_
  refine lv_iconst (v := 0) hx hb dX12_score_14 (by decide) ?_
  refine va_put (D := D) (ci := 12) (v := .int 0) (ty := (tyX12 22)) (C := RX12) (T := TX12) (N := 62) hx hb hts iX12_score_X12 tyX12 tyX12_ok nmX12 hown hK hP hD hS 0 rfl rfl 22 (by decide) (hts (.fieldLink RX12 251 "PuppetBridgeModel" "typed" "I") mX12_score_w1) (fun _ h9 => h9) rfl (tyX12_ok 22 (by decide)) rfl rfl (Nat.le_of_ble_eq_true rfl) dX12_score_15 (fun H locs hP hD hS => ?_)
  have hP : va_P D vwCl [(h0, .inr (12, [.ref z0, .ref z1, .ref z2, .ref z3, .ref z4, .ref z5, .ref z20, .ref z21, .ref z22, .ref z23, .ref z24, .ref z25, .int 0, .ref z26, .ref z27, .ref z28, .int 9, .int 0, .int 0, .ref z6, .ref z29, .ref z7, .int 0, .int 2, .ref z19, .ref z8, .ref z9, .ref z10, .int 0, .ref z11, .int 0, .ref z30, .ref z31, .ref z32, .ref z33, .int 0, .ref z12, .int 0, .int 0, .ref z34, .ref z35, .ref z36, .ref z37, .int 0, .int 0, .int 0, .int 0, .ref z38, .int 0, .ref z39, .ref z40, .ref z41, .ref z42, .int 0, .ref z13, .ref z14, .ref z15, .ref z16, .int 0, .ref z17, .ref z18, .ref z43]))] H := hP
  have hD : va_D A [(h0, .inr (12, [.ref z0, .ref z1, .ref z2, .ref z3, .ref z4, .ref z5, .ref z20, .ref z21, .ref z22, .ref z23, .ref z24, .ref z25, .int 0, .ref z26, .ref z27, .ref z28, .int 9, .int 0, .int 0, .ref z6, .ref z29, .ref z7, .int 0, .int 2, .ref z19, .ref z8, .ref z9, .ref z10, .int 0, .ref z11, .int 0, .ref z30, .ref z31, .ref z32, .ref z33, .int 0, .ref z12, .int 0, .int 0, .ref z34, .ref z35, .ref z36, .ref z37, .int 0, .int 0, .int 0, .int 0, .ref z38, .int 0, .ref z39, .ref z40, .ref z41, .ref z42, .int 0, .ref z13, .ref z14, .ref z15, .ref z16, .int 0, .ref z17, .ref z18, .ref z43]))] := hD
  refine lv_aload_n hx hb dX12_score_18 rfl (lv_at hl 0 rfl) ?_
  refine lv_iload_n hx hb dX12_score_19 rfl (lv_at hl 1 rfl) ?_
  have hPc := hP.sub (ws' := [(h0, .inr (12, [.ref z0, .ref z1, .ref z2, .ref z3, .ref z4, .ref z5, .ref z20, .ref z21, .ref z22, .ref z23, .ref z24, .ref z25, .int 0, .ref z26, .ref z27, .ref z28, .int 9, .int 0, .int 0, .ref z6, .ref z29, .ref z7, .int 0, .int 2, .ref z19, .ref z8, .ref z9, .ref z10, .int 0, .ref z11, .int 0, .ref z30, .ref z31, .ref z32, .ref z33, .int 0, .ref z12, .int 0, .int 0, .ref z34, .ref z35, .ref z36, .ref z37, .int 0, .int 0, .int 0, .int 0, .ref z38, .int 0, .ref z39, .ref z40, .ref z41, .ref z42, .int 0, .ref z13, .ref z14, .ref z15, .ref z16, .int 0, .ref z17, .ref z18, .ref z43]))]) [0] rfl
  have hDc := hD.sub (ws' := [(h0, .inr (12, [.ref z0, .ref z1, .ref z2, .ref z3, .ref z4, .ref z5, .ref z20, .ref z21, .ref z22, .ref z23, .ref z24, .ref z25, .int 0, .ref z26, .ref z27, .ref z28, .int 9, .int 0, .int 0, .ref z6, .ref z29, .ref z7, .int 0, .int 2, .ref z19, .ref z8, .ref z9, .ref z10, .int 0, .ref z11, .int 0, .ref z30, .ref z31, .ref z32, .ref z33, .int 0, .ref z12, .int 0, .int 0, .ref z34, .ref z35, .ref z36, .ref z37, .int 0, .int 0, .int 0, .int 0, .ref z38, .int 0, .ref z39, .ref z40, .ref z41, .ref z42, .int 0, .ref z13, .ref z14, .ref z15, .ref z16, .int 0, .ref z17, .ref z18, .ref z43]))]) [0] (by decide) rfl
  have hFc := va_free (wc := [(h0, .inr (12, [.ref z0, .ref z1, .ref z2, .ref z3, .ref z4, .ref z5, .ref z20, .ref z21, .ref z22, .ref z23, .ref z24, .ref z25, .int 0, .ref z26, .ref z27, .ref z28, .int 9, .int 0, .int 0, .ref z6, .ref z29, .ref z7, .int 0, .int 2, .ref z19, .ref z8, .ref z9, .ref z10, .int 0, .ref z11, .int 0, .ref z30, .ref z31, .ref z32, .ref z33, .int 0, .ref z12, .int 0, .int 0, .ref z34, .ref z35, .ref z36, .ref z37, .int 0, .int 0, .int 0, .int 0, .ref z38, .int 0, .ref z39, .ref z40, .ref z41, .ref z42, .int 0, .ref z13, .ref z14, .ref z15, .ref z16, .int 0, .ref z17, .ref z18, .ref z43]))]) hD hS hA [0] rfl
  refine va_calli (va_runV (As := [.int x1]) (rest := []) ⟨hx, hb, hml, hown, hts⟩ (kX12_isFigure l D G h0 x1 z0 z1 z2 z3 z4 z5 z20 z21 z22 z23 z24 z25 z26 z27 z28 z6 z29 z7 z19 z8 z9 z10 z11 z30 z31 z32 z33 z12 z34 z35 z36 z37 z38 z39 z40 z41 z42 z13 z14 z15 z16 z17 z18 z43 H.size) (cwV 1 hts gX12_score_X12_isFigure rfl rfl rfl (by decide +kernel) ⟨Nat.le_of_ble_eq_true rfl, Nat.le_of_ble_eq_true rfl⟩) ⟨wB_blind, va_recv hK hPc (ci := 12) (q0 := 0) rfl rfl, wB_pre hPc hK hDc hN⟩ rfl rfl hl.1 rfl (lv_room (Nat.le_of_ble_eq_true rfl)) dX12_score_20 ⟨Nat.le_of_ble_eq_true rfl, Nat.le_of_ble_eq_true rfl⟩) hS (fun q _ h => hFc q h) hFc (fun r1 u t H1 locs ht hvm hr1 hB hz1 hk1 hS => ?_)
  obtain ⟨hP1, hK1, hD1⟩ := hB
  rw [ht] at hP1
  obtain ⟨hP, hD⟩ := va_join (wr := []) (w1 := [(h0, .inr (12, [.ref z0, .ref z1, .ref z2, .ref z3, .ref z4, .ref z5, .ref z20, .ref z21, .ref z22, .ref z23, .ref z24, .ref z25, .int 0, .ref z26, .ref z27, .ref z28, .int 9, .int 0, .int 0, .ref z6, .ref z29, .ref z7, .int 0, .int 2, .ref z19, .ref z8, .ref z9, .ref z10, .int 0, .ref z11, .int 0, .ref z30, .ref z31, .ref z32, .ref z33, .int 0, .ref z12, .int 0, .int 0, .ref z34, .ref z35, .ref z36, .ref z37, .int 0, .int 0, .int 0, .int 0, .ref z38, .int 0, .ref z39, .ref z40, .ref z41, .ref z42, .int 0, .ref z13, .ref z14, .ref z15, .ref z16, .int 0, .ref z17, .ref z18, .ref z43]))]) hP hD [0] [] rfl rfl (by decide) (by decide) hk1 hFc hP1 hD1
  clear hPc hDc
  generalize H1 = H at hP hS ⊢
  have hP : va_P D vwCl [(h0, .inr (12, [.ref z0, .ref z1, .ref z2, .ref z3, .ref z4, .ref z5, .ref z20, .ref z21, .ref z22, .ref z23, .ref z24, .ref z25, .int 0, .ref z26, .ref z27, .ref z28, .int 9, .int 0, .int 0, .ref z6, .ref z29, .ref z7, .int 0, .int 2, .ref z19, .ref z8, .ref z9, .ref z10, .int 0, .ref z11, .int 0, .ref z30, .ref z31, .ref z32, .ref z33, .int 0, .ref z12, .int 0, .int 0, .ref z34, .ref z35, .ref z36, .ref z37, .int 0, .int 0, .int 0, .int 0, .ref z38, .int 0, .ref z39, .ref z40, .ref z41, .ref z42, .int 0, .ref z13, .ref z14, .ref z15, .ref z16, .int 0, .ref z17, .ref z18, .ref z43]))] H := hP
  have hD : va_D A [(h0, .inr (12, [.ref z0, .ref z1, .ref z2, .ref z3, .ref z4, .ref z5, .ref z20, .ref z21, .ref z22, .ref z23, .ref z24, .ref z25, .int 0, .ref z26, .ref z27, .ref z28, .int 9, .int 0, .int 0, .ref z6, .ref z29, .ref z7, .int 0, .int 2, .ref z19, .ref z8, .ref z9, .ref z10, .int 0, .ref z11, .int 0, .ref z30, .ref z31, .ref z32, .ref z33, .int 0, .ref z12, .int 0, .int 0, .ref z34, .ref z35, .ref z36, .ref z37, .int 0, .int 0, .int 0, .int 0, .ref z38, .int 0, .ref z39, .ref z40, .ref z41, .ref z42, .int 0, .ref z13, .ref z14, .ref z15, .ref z16, .int 0, .ref z17, .ref z18, .ref z43]))] := hD
  subst hr1
  refine lv_if_ne (tgt := 29) hx hb dX12_score_23 (by decide) (fun h9 => absurd h9 (by decide)) (fun _ => ?_)
  refine lv_bipush (v := (-101)) hx hb dX12_score_26 (by decide) ?_
  exact W.iret (v := (-101)) hx hb hr (fun t ht hW => ⟨⟨(-101), (), rfl, rfl, trivial⟩, hS.F ht⟩) hS.2.2 dX12_score_28

theorem mX12_met_w0 : Cond.fieldLink RX12 157 "PuppetBridgeModel" "thrown" "I" ∈ wsX12_met := by decide +kernel
theorem iX12_met_X12 : ∀ w ∈ wsX120, w ∈ wsX12_met := fun _ h => List.mem_cons_of_mem _ (List.mem_append_right _ h)
set_option maxRecDepth 20000 in
theorem ggX12_met_X12_areTwo : GoodIn wsX12_met wsX12_areTwo := goodIn_r _ [14, 15, 16, 17, 13, 18, 19, 20, 21, 22, 23, 24, 25, 26, 27, 28, 29, 30, 31, 32, 33, 34, 35, 36, 37, 38, 39, 40, 41, 42, 43, 44, 45, 46, 47, 48, 49, 50, 51, 52, 53, 54, 55, 56, 57, 58, 59, 60, 61, 62, 63, 64, 65, 66, 67, 68, 69, 70, 71, 72, 73, 74, 75, 76, 77, 78, 79, 80, 81, 82, 83, 84] (by decide +kernel) (by decide +kernel)
set_option maxRecDepth 20000 in
theorem gX12_met_X12_areTwo : GoodIn wsX12_met (wsV RX12 288 RX12 yX12_areTwo wsX12_areTwo) := goodIn_app (goodIn_of _ (by decide +kernel)) ggX12_met_X12_areTwo
theorem dX12_met_0 : decode cX12_met 0 = .ok (.aload_n 0, 1) := by decide +kernel
theorem dX12_met_1 : decode cX12_met 1 = .ok (.iconst 0, 1) := by decide +kernel
theorem dX12_met_2 : decode cX12_met 2 = .ok (.putfield 157, 3) := by decide +kernel
theorem dX12_met_5 : decode cX12_met 5 = .ok (.aload_n 0, 1) := by decide +kernel
theorem dX12_met_6 : decode cX12_met 6 = .ok (.iload_n 1, 1) := by decide +kernel
theorem dX12_met_7 : decode cX12_met 7 = .ok (.iload_n 2, 1) := by decide +kernel
theorem dX12_met_8 : decode cX12_met 8 = .ok (.invokevirtual 288, 3) := by decide +kernel
theorem dX12_met_11 : decode cX12_met 11 = .ok (.ifCond .eq 28, 3) := by decide +kernel
theorem dX12_met_39 : decode cX12_met 39 = .ok (.iconst (-1), 1) := by decide +kernel
theorem dX12_met_40 : decode cX12_met 40 = .ok (.ireturn, 1) := by decide +kernel
set_option maxHeartbeats 4000000 in
set_option maxRecDepth 100000 in
/-- X12_met -/
theorem kX12_met (l : Launch) (D : va_G) (G : tyG) (h0 : Nat) (x1 : Int32) (x2 : Int32) (z0 : Nat) (z1 : Nat) (z2 : Nat) (z3 : Nat) (z4 : Nat) (z5 : Nat) (z20 : Nat) (z21 : Nat) (z22 : Nat) (z23 : Nat) (z24 : Nat) (z25 : Nat) (z26 : Nat) (z27 : Nat) (z28 : Nat) (z6 : Nat) (z29 : Nat) (z7 : Nat) (z19 : Nat) (z8 : Nat) (z9 : Nat) (z10 : Nat) (z11 : Nat) (z30 : Nat) (z31 : Nat) (z32 : Nat) (z33 : Nat) (z12 : Nat) (z34 : Nat) (z35 : Nat) (z36 : Nat) (z37 : Nat) (z38 : Nat) (z39 : Nat) (z40 : Nat) (z41 : Nat) (z42 : Nat) (z13 : Nat) (z14 : Nat) (z15 : Nat) (z16 : Nat) (z17 : Nat) (z18 : Nat) (z43 : Nat) (sz : Nat) : Met l yX12_met wsX12_met ({ frames := 3, cells := 0, slots := 0, locals := 65 }) (va_Pc [.ref h0, .int x1, .int x2] (wB D G sz [(h0, .inr (12, [.ref z0, .ref z1, .ref z2, .ref z3, .ref z4, .ref z5, .ref z20, .ref z21, .ref z22, .ref z23, .ref z24, .ref z25, .int 0, .ref z26, .ref z27, .ref z28, .int 9, .int 0, .int 0, .ref z6, .ref z29, .ref z7, .int 0, .int 2, .ref z19, .ref z8, .ref z9, .ref z10, .int 0, .ref z11, .int 0, .ref z30, .ref z31, .ref z32, .ref z33, .int 0, .ref z12, .int 0, .int 0, .ref z34, .ref z35, .ref z36, .ref z37, .int 0, .int 0, .int 0, .int 0, .ref z38, .int 0, .ref z39, .ref z40, .ref z41, .ref z42, .int 0, .ref z13, .ref z14, .ref z15, .ref z16, .int 0, .ref z17, .ref z18, .ref z43]))])) (va_Qi (fun (r : Int32) (_ : Unit) => r = (-1)) (fun _ _ => True) (va_A [(h0, .inr (12, [.ref z0, .ref z1, .ref z2, .ref z3, .ref z4, .ref z5, .ref z20, .ref z21, .ref z22, .ref z23, .ref z24, .ref z25, .int 0, .ref z26, .ref z27, .ref z28, .int 9, .int 0, .int 0, .ref z6, .ref z29, .ref z7, .int 0, .int 2, .ref z19, .ref z8, .ref z9, .ref z10, .int 0, .ref z11, .int 0, .ref z30, .ref z31, .ref z32, .ref z33, .int 0, .ref z12, .int 0, .int 0, .ref z34, .ref z35, .ref z36, .ref z37, .int 0, .int 0, .int 0, .int 0, .ref z38, .int 0, .ref z39, .ref z40, .ref z41, .ref z42, .int 0, .ref z13, .ref z14, .ref z15, .ref z16, .int 0, .ref z17, .ref z18, .ref z43]))] sz)) 0 0 (va_A [(h0, .inr (12, [.ref z0, .ref z1, .ref z2, .ref z3, .ref z4, .ref z5, .ref z20, .ref z21, .ref z22, .ref z23, .ref z24, .ref z25, .int 0, .ref z26, .ref z27, .ref z28, .int 9, .int 0, .int 0, .ref z6, .ref z29, .ref z7, .int 0, .int 2, .ref z19, .ref z8, .ref z9, .ref z10, .int 0, .ref z11, .int 0, .ref z30, .ref z31, .ref z32, .ref z33, .int 0, .ref z12, .int 0, .int 0, .ref z34, .ref z35, .ref z36, .ref z37, .int 0, .int 0, .int 0, .int 0, .ref z38, .int 0, .ref z39, .ref z40, .ref z41, .ref z42, .int 0, .ref z13, .ref z14, .ref z15, .ref z16, .int 0, .ref z17, .ref z18, .ref z43]))] sz) := by
  refine Met.ofW (cc := cX12_met) (maxL := 3) (ret := (some .int)) (by decide) rfl ?_
  intro p e s m args below meth c s₁ B hml hv
  obtain ⟨rfl, hsz, hP, hK, hD0, hN⟩ := hv
  have hx := B.exec
  have hb := B.bytes
  have hr := B.returns
  have hts := atoms_spec (ws := wsX12_met) B.pre
  have hown : s.vm.findClass RX12 = some m.cls := findClass_of_methodNamed B.named
  have hlocks := B.notSynchronized
  subst hsz
  have hD := hD0.self (sz := s.heap.size)
  generalize hAe : va_A [(h0, .inr (12, [.ref z0, .ref z1, .ref z2, .ref z3, .ref z4, .ref z5, .ref z20, .ref z21, .ref z22, .ref z23, .ref z24, .ref z25, .int 0, .ref z26, .ref z27, .ref z28, .int 9, .int 0, .int 0, .ref z6, .ref z29, .ref z7, .int 0, .int 2, .ref z19, .ref z8, .ref z9, .ref z10, .int 0, .ref z11, .int 0, .ref z30, .ref z31, .ref z32, .ref z33, .int 0, .ref z12, .int 0, .int 0, .ref z34, .ref z35, .ref z36, .ref z37, .int 0, .int 0, .int 0, .int 0, .ref z38, .int 0, .ref z39, .ref z40, .ref z41, .ref z42, .int 0, .ref z13, .ref z14, .ref z15, .ref z16, .int 0, .ref z17, .ref z18, .ref z43]))] s.heap.size = A at hD ⊢
  have hA : ∀ q : Nat, s.heap.size ≤ q → A q := fun q h => by rw [← hAe]; exact Or.inr h
  have hS : va_S A s.heap s.heap [] := va_S.rf
  have hP : va_P D vwCl [(h0, .inr (12, [.ref z0, .ref z1, .ref z2, .ref z3, .ref z4, .ref z5, .ref z20, .ref z21, .ref z22, .ref z23, .ref z24, .ref z25, .int 0, .ref z26, .ref z27, .ref z28, .int 9, .int 0, .int 0, .ref z6, .ref z29, .ref z7, .int 0, .int 2, .ref z19, .ref z8, .ref z9, .ref z10, .int 0, .ref z11, .int 0, .ref z30, .ref z31, .ref z32, .ref z33, .int 0, .ref z12, .int 0, .int 0, .ref z34, .ref z35, .ref z36, .ref z37, .int 0, .int 0, .int 0, .int 0, .ref z38, .int 0, .ref z39, .ref z40, .ref z41, .ref z42, .int 0, .ref z13, .ref z14, .ref z15, .ref z16, .int 0, .ref z17, .ref z18, .ref z43]))] s.heap := hP
  have hl := lv_entry ([.ref h0, .int x1, .int x2]) (n := 3) (Nat.le_of_ble_eq_true rfl)
  rw [lg_entry_eq]
  generalize (lg_sl ([.ref h0, .int x1, .int x2]) ++ List.replicate (3 - (lg_sl ([.ref h0, .int x1, .int x2])).length) Slot.unset).toArray = ls at hl ⊢
  have hl : lv_has ls 3 [(0, .ref h0), (1, .int x1), (2, .int x2)] := hl
  refine lv_aload_n hx hb dX12_met_0 rfl (lv_at hl 0 rfl) ?_
  refine lv_iconst (v := 0) hx hb dX12_met_1 (by decide) ?_
  refine va_put (D := D) (ci := 12) (v := .int 0) (ty := (tyX12 38)) (C := RX12) (T := TX12) (N := 62) hx hb hts iX12_met_X12 tyX12 tyX12_ok nmX12 hown hK hP hD hS 0 rfl rfl 38 (by decide) (hts (.fieldLink RX12 157 "PuppetBridgeModel" "thrown" "I") mX12_met_w0) (fun _ h9 => h9) rfl (tyX12_ok 38 (by decide)) rfl rfl (Nat.le_of_ble_eq_true rfl) dX12_met_2 (fun H locs hP hD hS => ?_)
  have hP : va_P D vwCl [(h0, .inr (12, [.ref z0, .ref z1, .ref z2, .ref z3, .ref z4, .ref z5, .ref z20, .ref z21, .ref z22, .ref z23, .ref z24, .ref z25, .int 0, .ref z26, .ref z27, .ref z28, .int 9, .int 0, .int 0, .ref z6, .ref z29, .ref z7, .int 0, .int 2, .ref z19, .ref z8, .ref z9, .ref z10, .int 0, .ref z11, .int 0, .ref z30, .ref z31, .ref z32, .ref z33, .int 0, .ref z12, .int 0, .int 0, .ref z34, .ref z35, .ref z36, .ref z37, .int 0, .int 0, .int 0, .int 0, .ref z38, .int 0, .ref z39, .ref z40, .ref z41, .ref z42, .int 0, .ref z13, .ref z14, .ref z15, .ref z16, .int 0, .ref z17, .ref z18, .ref z43]))] H := hP
  have hD : va_D A [(h0, .inr (12, [.ref z0, .ref z1, .ref z2, .ref z3, .ref z4, .ref z5, .ref z20, .ref z21, .ref z22, .ref z23, .ref z24, .ref z25, .int 0, .ref z26, .ref z27, .ref z28, .int 9, .int 0, .int 0, .ref z6, .ref z29, .ref z7, .int 0, .int 2, .ref z19, .ref z8, .ref z9, .ref z10, .int 0, .ref z11, .int 0, .ref z30, .ref z31, .ref z32, .ref z33, .int 0, .ref z12, .int 0, .int 0, .ref z34, .ref z35, .ref z36, .ref z37, .int 0, .int 0, .int 0, .int 0, .ref z38, .int 0, .ref z39, .ref z40, .ref z41, .ref z42, .int 0, .ref z13, .ref z14, .ref z15, .ref z16, .int 0, .ref z17, .ref z18, .ref z43]))] := hD
  refine lv_aload_n hx hb dX12_met_5 rfl (lv_at hl 0 rfl) ?_
  refine lv_iload_n hx hb dX12_met_6 rfl (lv_at hl 1 rfl) ?_
  refine lv_iload_n hx hb dX12_met_7 rfl (lv_at hl 2 rfl) ?_
  have hPc := hP.sub (ws' := [(h0, .inr (12, [.ref z0, .ref z1, .ref z2, .ref z3, .ref z4, .ref z5, .ref z20, .ref z21, .ref z22, .ref z23, .ref z24, .ref z25, .int 0, .ref z26, .ref z27, .ref z28, .int 9, .int 0, .int 0, .ref z6, .ref z29, .ref z7, .int 0, .int 2, .ref z19, .ref z8, .ref z9, .ref z10, .int 0, .ref z11, .int 0, .ref z30, .ref z31, .ref z32, .ref z33, .int 0, .ref z12, .int 0, .int 0, .ref z34, .ref z35, .ref z36, .ref z37, .int 0, .int 0, .int 0, .int 0, .ref z38, .int 0, .ref z39, .ref z40, .ref z41, .ref z42, .int 0, .ref z13, .ref z14, .ref z15, .ref z16, .int 0, .ref z17, .ref z18, .ref z43]))]) [0] rfl
  have hDc := hD.sub (ws' := [(h0, .inr (12, [.ref z0, .ref z1, .ref z2, .ref z3, .ref z4, .ref z5, .ref z20, .ref z21, .ref z22, .ref z23, .ref z24, .ref z25, .int 0, .ref z26, .ref z27, .ref z28, .int 9, .int 0, .int 0, .ref z6, .ref z29, .ref z7, .int 0, .int 2, .ref z19, .ref z8, .ref z9, .ref z10, .int 0, .ref z11, .int 0, .ref z30, .ref z31, .ref z32, .ref z33, .int 0, .ref z12, .int 0, .int 0, .ref z34, .ref z35, .ref z36, .ref z37, .int 0, .int 0, .int 0, .int 0, .ref z38, .int 0, .ref z39, .ref z40, .ref z41, .ref z42, .int 0, .ref z13, .ref z14, .ref z15, .ref z16, .int 0, .ref z17, .ref z18, .ref z43]))]) [0] (by decide) rfl
  have hFc := va_free (wc := [(h0, .inr (12, [.ref z0, .ref z1, .ref z2, .ref z3, .ref z4, .ref z5, .ref z20, .ref z21, .ref z22, .ref z23, .ref z24, .ref z25, .int 0, .ref z26, .ref z27, .ref z28, .int 9, .int 0, .int 0, .ref z6, .ref z29, .ref z7, .int 0, .int 2, .ref z19, .ref z8, .ref z9, .ref z10, .int 0, .ref z11, .int 0, .ref z30, .ref z31, .ref z32, .ref z33, .int 0, .ref z12, .int 0, .int 0, .ref z34, .ref z35, .ref z36, .ref z37, .int 0, .int 0, .int 0, .int 0, .ref z38, .int 0, .ref z39, .ref z40, .ref z41, .ref z42, .int 0, .ref z13, .ref z14, .ref z15, .ref z16, .int 0, .ref z17, .ref z18, .ref z43]))]) hD hS hA [0] rfl
  refine va_calli (va_runV (As := [.int x1, .int x2]) (rest := []) ⟨hx, hb, hml, hown, hts⟩ (kX12_areTwo l D G h0 x1 x2 z0 z1 z2 z3 z4 z5 z20 z21 z22 z23 z24 z25 z26 z27 z28 z6 z29 z7 z19 z8 z9 z10 z11 z30 z31 z32 z33 z12 z34 z35 z36 z37 z38 z39 z40 z41 z42 z13 z14 z15 z16 z17 z18 z43 H.size) (cwV 2 hts gX12_met_X12_areTwo rfl rfl rfl (by decide +kernel) ⟨Nat.le_of_ble_eq_true rfl, Nat.le_of_ble_eq_true rfl⟩) ⟨wB_blind, va_recv hK hPc (ci := 12) (q0 := 0) rfl rfl, wB_pre hPc hK hDc hN⟩ rfl rfl hl.1 rfl (lv_room (Nat.le_of_ble_eq_true rfl)) dX12_met_8 ⟨Nat.le_of_ble_eq_true rfl, Nat.le_of_ble_eq_true rfl⟩) hS (fun q _ h => hFc q h) hFc (fun r1 u t H1 locs ht hvm hr1 hB hz1 hk1 hS => ?_)
  obtain ⟨hP1, hK1, hD1⟩ := hB
  rw [ht] at hP1
  obtain ⟨hP, hD⟩ := va_join (wr := []) (w1 := [(h0, .inr (12, [.ref z0, .ref z1, .ref z2, .ref z3, .ref z4, .ref z5, .ref z20, .ref z21, .ref z22, .ref z23, .ref z24, .ref z25, .int 0, .ref z26, .ref z27, .ref z28, .int 9, .int 0, .int 0, .ref z6, .ref z29, .ref z7, .int 0, .int 2, .ref z19, .ref z8, .ref z9, .ref z10, .int 0, .ref z11, .int 0, .ref z30, .ref z31, .ref z32, .ref z33, .int 0, .ref z12, .int 0, .int 0, .ref z34, .ref z35, .ref z36, .ref z37, .int 0, .int 0, .int 0, .int 0, .ref z38, .int 0, .ref z39, .ref z40, .ref z41, .ref z42, .int 0, .ref z13, .ref z14, .ref z15, .ref z16, .int 0, .ref z17, .ref z18, .ref z43]))]) hP hD [0] [] rfl rfl (by decide) (by decide) hk1 hFc hP1 hD1
  clear hPc hDc
  generalize H1 = H at hP hS ⊢
  have hP : va_P D vwCl [(h0, .inr (12, [.ref z0, .ref z1, .ref z2, .ref z3, .ref z4, .ref z5, .ref z20, .ref z21, .ref z22, .ref z23, .ref z24, .ref z25, .int 0, .ref z26, .ref z27, .ref z28, .int 9, .int 0, .int 0, .ref z6, .ref z29, .ref z7, .int 0, .int 2, .ref z19, .ref z8, .ref z9, .ref z10, .int 0, .ref z11, .int 0, .ref z30, .ref z31, .ref z32, .ref z33, .int 0, .ref z12, .int 0, .int 0, .ref z34, .ref z35, .ref z36, .ref z37, .int 0, .int 0, .int 0, .int 0, .ref z38, .int 0, .ref z39, .ref z40, .ref z41, .ref z42, .int 0, .ref z13, .ref z14, .ref z15, .ref z16, .int 0, .ref z17, .ref z18, .ref z43]))] H := hP
  have hD : va_D A [(h0, .inr (12, [.ref z0, .ref z1, .ref z2, .ref z3, .ref z4, .ref z5, .ref z20, .ref z21, .ref z22, .ref z23, .ref z24, .ref z25, .int 0, .ref z26, .ref z27, .ref z28, .int 9, .int 0, .int 0, .ref z6, .ref z29, .ref z7, .int 0, .int 2, .ref z19, .ref z8, .ref z9, .ref z10, .int 0, .ref z11, .int 0, .ref z30, .ref z31, .ref z32, .ref z33, .int 0, .ref z12, .int 0, .int 0, .ref z34, .ref z35, .ref z36, .ref z37, .int 0, .int 0, .int 0, .int 0, .ref z38, .int 0, .ref z39, .ref z40, .ref z41, .ref z42, .int 0, .ref z13, .ref z14, .ref z15, .ref z16, .int 0, .ref z17, .ref z18, .ref z43]))] := hD
  subst hr1
  refine lv_if_eq (tgt := 39) hx hb dX12_met_11 (by decide) (fun _ => ?_) (fun h9 => absurd h9 (by decide))
  refine lv_iconst (v := (-1)) hx hb dX12_met_39 (by decide) ?_
  exact W.iret (v := (-1)) hx hb hr (fun t ht hW => ⟨⟨(-1), (), rfl, rfl, trivial⟩, hS.F ht⟩) hS.2.2 dX12_met_40

theorem mX12_touch_w0 : Cond.fieldLink RX12 157 "PuppetBridgeModel" "thrown" "I" ∈ wsX12_touch := by decide +kernel
theorem iX12_touch_X12 : ∀ w ∈ wsX120, w ∈ wsX12_touch := fun _ h => List.mem_cons_of_mem _ (List.mem_append_right _ h)
set_option maxRecDepth 20000 in
theorem ggX12_touch_X12_areTwo : GoodIn wsX12_touch wsX12_areTwo := goodIn_r _ [6, 7, 8, 9, 5, 10, 11, 12, 13, 14, 68, 69, 70, 71, 72, 73, 74, 75, 76, 77, 78, 79, 80, 81, 82, 83, 84, 85, 86, 87, 88, 89, 90, 91, 92, 93, 94, 95, 96, 97, 98, 99, 100, 101, 102, 103, 104, 105, 106, 107, 108, 109, 110, 111, 112, 113, 114, 115, 116, 117, 118, 119, 120, 121, 122, 123, 124, 125, 126, 127, 128, 129] (by decide +kernel) (by decide +kernel)
set_option maxRecDepth 20000 in
theorem gX12_touch_X12_areTwo : GoodIn wsX12_touch (wsV RX12 288 RX12 yX12_areTwo wsX12_areTwo) := goodIn_app (goodIn_of _ (by decide +kernel)) ggX12_touch_X12_areTwo
theorem dX12_touch_0 : decode cX12_touch 0 = .ok (.aload_n 0, 1) := by decide +kernel
theorem dX12_touch_1 : decode cX12_touch 1 = .ok (.iconst 0, 1) := by decide +kernel
theorem dX12_touch_2 : decode cX12_touch 2 = .ok (.putfield 157, 3) := by decide +kernel
theorem dX12_touch_5 : decode cX12_touch 5 = .ok (.aload_n 0, 1) := by decide +kernel
theorem dX12_touch_6 : decode cX12_touch 6 = .ok (.iload_n 1, 1) := by decide +kernel
theorem dX12_touch_7 : decode cX12_touch 7 = .ok (.iload_n 2, 1) := by decide +kernel
theorem dX12_touch_8 : decode cX12_touch 8 = .ok (.invokevirtual 288, 3) := by decide +kernel
theorem dX12_touch_11 : decode cX12_touch 11 = .ok (.ifCond .eq 20, 3) := by decide +kernel
theorem dX12_touch_31 : decode cX12_touch 31 = .ok (.iconst (-1), 1) := by decide +kernel
theorem dX12_touch_32 : decode cX12_touch 32 = .ok (.ireturn, 1) := by decide +kernel
set_option maxHeartbeats 4000000 in
set_option maxRecDepth 100000 in
/-- X12_touch -/
theorem kX12_touch (l : Launch) (D : va_G) (G : tyG) (h0 : Nat) (x1 : Int32) (x2 : Int32) (z0 : Nat) (z1 : Nat) (z2 : Nat) (z3 : Nat) (z4 : Nat) (z5 : Nat) (z20 : Nat) (z21 : Nat) (z22 : Nat) (z23 : Nat) (z24 : Nat) (z25 : Nat) (z26 : Nat) (z27 : Nat) (z28 : Nat) (z6 : Nat) (z29 : Nat) (z7 : Nat) (z19 : Nat) (z8 : Nat) (z9 : Nat) (z10 : Nat) (z11 : Nat) (z30 : Nat) (z31 : Nat) (z32 : Nat) (z33 : Nat) (z12 : Nat) (z34 : Nat) (z35 : Nat) (z36 : Nat) (z37 : Nat) (z38 : Nat) (z39 : Nat) (z40 : Nat) (z41 : Nat) (z42 : Nat) (z13 : Nat) (z14 : Nat) (z15 : Nat) (z16 : Nat) (z17 : Nat) (z18 : Nat) (z43 : Nat) (sz : Nat) : Met l yX12_touch wsX12_touch ({ frames := 3, cells := 0, slots := 0, locals := 65 }) (va_Pc [.ref h0, .int x1, .int x2] (wB D G sz [(h0, .inr (12, [.ref z0, .ref z1, .ref z2, .ref z3, .ref z4, .ref z5, .ref z20, .ref z21, .ref z22, .ref z23, .ref z24, .ref z25, .int 0, .ref z26, .ref z27, .ref z28, .int 9, .int 0, .int 0, .ref z6, .ref z29, .ref z7, .int 0, .int 2, .ref z19, .ref z8, .ref z9, .ref z10, .int 0, .ref z11, .int 0, .ref z30, .ref z31, .ref z32, .ref z33, .int 0, .ref z12, .int 0, .int 0, .ref z34, .ref z35, .ref z36, .ref z37, .int 0, .int 0, .int 0, .int 0, .ref z38, .int 0, .ref z39, .ref z40, .ref z41, .ref z42, .int 0, .ref z13, .ref z14, .ref z15, .ref z16, .int 0, .ref z17, .ref z18, .ref z43]))])) (va_Qi (fun (r : Int32) (_ : Unit) => r = (-1)) (fun _ _ => True) (va_A [(h0, .inr (12, [.ref z0, .ref z1, .ref z2, .ref z3, .ref z4, .ref z5, .ref z20, .ref z21, .ref z22, .ref z23, .ref z24, .ref z25, .int 0, .ref z26, .ref z27, .ref z28, .int 9, .int 0, .int 0, .ref z6, .ref z29, .ref z7, .int 0, .int 2, .ref z19, .ref z8, .ref z9, .ref z10, .int 0, .ref z11, .int 0, .ref z30, .ref z31, .ref z32, .ref z33, .int 0, .ref z12, .int 0, .int 0, .ref z34, .ref z35, .ref z36, .ref z37, .int 0, .int 0, .int 0, .int 0, .ref z38, .int 0, .ref z39, .ref z40, .ref z41, .ref z42, .int 0, .ref z13, .ref z14, .ref z15, .ref z16, .int 0, .ref z17, .ref z18, .ref z43]))] sz)) 0 0 (va_A [(h0, .inr (12, [.ref z0, .ref z1, .ref z2, .ref z3, .ref z4, .ref z5, .ref z20, .ref z21, .ref z22, .ref z23, .ref z24, .ref z25, .int 0, .ref z26, .ref z27, .ref z28, .int 9, .int 0, .int 0, .ref z6, .ref z29, .ref z7, .int 0, .int 2, .ref z19, .ref z8, .ref z9, .ref z10, .int 0, .ref z11, .int 0, .ref z30, .ref z31, .ref z32, .ref z33, .int 0, .ref z12, .int 0, .int 0, .ref z34, .ref z35, .ref z36, .ref z37, .int 0, .int 0, .int 0, .int 0, .ref z38, .int 0, .ref z39, .ref z40, .ref z41, .ref z42, .int 0, .ref z13, .ref z14, .ref z15, .ref z16, .int 0, .ref z17, .ref z18, .ref z43]))] sz) := by
  refine Met.ofW (cc := cX12_touch) (maxL := 3) (ret := (some .int)) (by decide) rfl ?_
  intro p e s m args below meth c s₁ B hml hv
  obtain ⟨rfl, hsz, hP, hK, hD0, hN⟩ := hv
  have hx := B.exec
  have hb := B.bytes
  have hr := B.returns
  have hts := atoms_spec (ws := wsX12_touch) B.pre
  have hown : s.vm.findClass RX12 = some m.cls := findClass_of_methodNamed B.named
  have hlocks := B.notSynchronized
  subst hsz
  have hD := hD0.self (sz := s.heap.size)
  generalize hAe : va_A [(h0, .inr (12, [.ref z0, .ref z1, .ref z2, .ref z3, .ref z4, .ref z5, .ref z20, .ref z21, .ref z22, .ref z23, .ref z24, .ref z25, .int 0, .ref z26, .ref z27, .ref z28, .int 9, .int 0, .int 0, .ref z6, .ref z29, .ref z7, .int 0, .int 2, .ref z19, .ref z8, .ref z9, .ref z10, .int 0, .ref z11, .int 0, .ref z30, .ref z31, .ref z32, .ref z33, .int 0, .ref z12, .int 0, .int 0, .ref z34, .ref z35, .ref z36, .ref z37, .int 0, .int 0, .int 0, .int 0, .ref z38, .int 0, .ref z39, .ref z40, .ref z41, .ref z42, .int 0, .ref z13, .ref z14, .ref z15, .ref z16, .int 0, .ref z17, .ref z18, .ref z43]))] s.heap.size = A at hD ⊢
  have hA : ∀ q : Nat, s.heap.size ≤ q → A q := fun q h => by rw [← hAe]; exact Or.inr h
  have hS : va_S A s.heap s.heap [] := va_S.rf
  have hP : va_P D vwCl [(h0, .inr (12, [.ref z0, .ref z1, .ref z2, .ref z3, .ref z4, .ref z5, .ref z20, .ref z21, .ref z22, .ref z23, .ref z24, .ref z25, .int 0, .ref z26, .ref z27, .ref z28, .int 9, .int 0, .int 0, .ref z6, .ref z29, .ref z7, .int 0, .int 2, .ref z19, .ref z8, .ref z9, .ref z10, .int 0, .ref z11, .int 0, .ref z30, .ref z31, .ref z32, .ref z33, .int 0, .ref z12, .int 0, .int 0, .ref z34, .ref z35, .ref z36, .ref z37, .int 0, .int 0, .int 0, .int 0, .ref z38, .int 0, .ref z39, .ref z40, .ref z41, .ref z42, .int 0, .ref z13, .ref z14, .ref z15, .ref z16, .int 0, .ref z17, .ref z18, .ref z43]))] s.heap := hP
  have hl := lv_entry ([.ref h0, .int x1, .int x2]) (n := 3) (Nat.le_of_ble_eq_true rfl)
  rw [lg_entry_eq]
  generalize (lg_sl ([.ref h0, .int x1, .int x2]) ++ List.replicate (3 - (lg_sl ([.ref h0, .int x1, .int x2])).length) Slot.unset).toArray = ls at hl ⊢
  have hl : lv_has ls 3 [(0, .ref h0), (1, .int x1), (2, .int x2)] := hl
  refine lv_aload_n hx hb dX12_touch_0 rfl (lv_at hl 0 rfl) ?_
  refine lv_iconst (v := 0) hx hb dX12_touch_1 (by decide) ?_
  refine va_put (D := D) (ci := 12) (v := .int 0) (ty := (tyX12 38)) (C := RX12) (T := TX12) (N := 62) hx hb hts iX12_touch_X12 tyX12 tyX12_ok nmX12 hown hK hP hD hS 0 rfl rfl 38 (by decide) (hts (.fieldLink RX12 157 "PuppetBridgeModel" "thrown" "I") mX12_touch_w0) (fun _ h9 => h9) rfl (tyX12_ok 38 (by decide)) rfl rfl (Nat.le_of_ble_eq_true rfl) dX12_touch_2 (fun H locs hP hD hS => ?_)
  have hP : va_P D vwCl [(h0, .inr (12, [.ref z0, .ref z1, .ref z2, .ref z3, .ref z4, .ref z5, .ref z20, .ref z21, .ref z22, .ref z23, .ref z24, .ref z25, .int 0, .ref z26, .ref z27, .ref z28, .int 9, .int 0, .int 0, .ref z6, .ref z29, .ref z7, .int 0, .int 2, .ref z19, .ref z8, .ref z9, .ref z10, .int 0, .ref z11, .int 0, .ref z30, .ref z31, .ref z32, .ref z33, .int 0, .ref z12, .int 0, .int 0, .ref z34, .ref z35, .ref z36, .ref z37, .int 0, .int 0, .int 0, .int 0, .ref z38, .int 0, .ref z39, .ref z40, .ref z41, .ref z42, .int 0, .ref z13, .ref z14, .ref z15, .ref z16, .int 0, .ref z17, .ref z18, .ref z43]))] H := hP
  have hD : va_D A [(h0, .inr (12, [.ref z0, .ref z1, .ref z2, .ref z3, .ref z4, .ref z5, .ref z20, .ref z21, .ref z22, .ref z23, .ref z24, .ref z25, .int 0, .ref z26, .ref z27, .ref z28, .int 9, .int 0, .int 0, .ref z6, .ref z29, .ref z7, .int 0, .int 2, .ref z19, .ref z8, .ref z9, .ref z10, .int 0, .ref z11, .int 0, .ref z30, .ref z31, .ref z32, .ref z33, .int 0, .ref z12, .int 0, .int 0, .ref z34, .ref z35, .ref z36, .ref z37, .int 0, .int 0, .int 0, .int 0, .ref z38, .int 0, .ref z39, .ref z40, .ref z41, .ref z42, .int 0, .ref z13, .ref z14, .ref z15, .ref z16, .int 0, .ref z17, .ref z18, .ref z43]))] := hD
  refine lv_aload_n hx hb dX12_touch_5 rfl (lv_at hl 0 rfl) ?_
  refine lv_iload_n hx hb dX12_touch_6 rfl (lv_at hl 1 rfl) ?_
  refine lv_iload_n hx hb dX12_touch_7 rfl (lv_at hl 2 rfl) ?_
  have hPc := hP.sub (ws' := [(h0, .inr (12, [.ref z0, .ref z1, .ref z2, .ref z3, .ref z4, .ref z5, .ref z20, .ref z21, .ref z22, .ref z23, .ref z24, .ref z25, .int 0, .ref z26, .ref z27, .ref z28, .int 9, .int 0, .int 0, .ref z6, .ref z29, .ref z7, .int 0, .int 2, .ref z19, .ref z8, .ref z9, .ref z10, .int 0, .ref z11, .int 0, .ref z30, .ref z31, .ref z32, .ref z33, .int 0, .ref z12, .int 0, .int 0, .ref z34, .ref z35, .ref z36, .ref z37, .int 0, .int 0, .int 0, .int 0, .ref z38, .int 0, .ref z39, .ref z40, .ref z41, .ref z42, .int 0, .ref z13, .ref z14, .ref z15, .ref z16, .int 0, .ref z17, .ref z18, .ref z43]))]) [0] rfl
  have hDc := hD.sub (ws' := [(h0, .inr (12, [.ref z0, .ref z1, .ref z2, .ref z3, .ref z4, .ref z5, .ref z20, .ref z21, .ref z22, .ref z23, .ref z24, .ref z25, .int 0, .ref z26, .ref z27, .ref z28, .int 9, .int 0, .int 0, .ref z6, .ref z29, .ref z7, .int 0, .int 2, .ref z19, .ref z8, .ref z9, .ref z10, .int 0, .ref z11, .int 0, .ref z30, .ref z31, .ref z32, .ref z33, .int 0, .ref z12, .int 0, .int 0, .ref z34, .ref z35, .ref z36, .ref z37, .int 0, .int 0, .int 0, .int 0, .ref z38, .int 0, .ref z39, .ref z40, .ref z41, .ref z42, .int 0, .ref z13, .ref z14, .ref z15, .ref z16, .int 0, .ref z17, .ref z18, .ref z43]))]) [0] (by decide) rfl
  have hFc := va_free (wc := [(h0, .inr (12, [.ref z0, .ref z1, .ref z2, .ref z3, .ref z4, .ref z5, .ref z20, .ref z21, .ref z22, .ref z23, .ref z24, .ref z25, .int 0, .ref z26, .ref z27, .ref z28, .int 9, .int 0, .int 0, .ref z6, .ref z29, .ref z7, .int 0, .int 2, .ref z19, .ref z8, .ref z9, .ref z10, .int 0, .ref z11, .int 0, .ref z30, .ref z31, .ref z32, .ref z33, .int 0, .ref z12, .int 0, .int 0, .ref z34, .ref z35, .ref z36, .ref z37, .int 0, .int 0, .int 0, .int 0, .ref z38, .int 0, .ref z39, .ref z40, .ref z41, .ref z42, .int 0, .ref z13, .ref z14, .ref z15, .ref z16, .int 0, .ref z17, .ref z18, .ref z43]))]) hD hS hA [0] rfl
  refine va_calli (va_runV (As := [.int x1, .int x2]) (rest := []) ⟨hx, hb, hml, hown, hts⟩ (kX12_areTwo l D G h0 x1 x2 z0 z1 z2 z3 z4 z5 z20 z21 z22 z23 z24 z25 z26 z27 z28 z6 z29 z7 z19 z8 z9 z10 z11 z30 z31 z32 z33 z12 z34 z35 z36 z37 z38 z39 z40 z41 z42 z13 z14 z15 z16 z17 z18 z43 H.size) (cwV 2 hts gX12_touch_X12_areTwo rfl rfl rfl (by decide +kernel) ⟨Nat.le_of_ble_eq_true rfl, Nat.le_of_ble_eq_true rfl⟩) ⟨wB_blind, va_recv hK hPc (ci := 12) (q0 := 0) rfl rfl, wB_pre hPc hK hDc hN⟩ rfl rfl hl.1 rfl (lv_room (Nat.le_of_ble_eq_true rfl)) dX12_touch_8 ⟨Nat.le_of_ble_eq_true rfl, Nat.le_of_ble_eq_true rfl⟩) hS (fun q _ h => hFc q h) hFc (fun r1 u t H1 locs ht hvm hr1 hB hz1 hk1 hS => ?_)
  obtain ⟨hP1, hK1, hD1⟩ := hB
  rw [ht] at hP1
  obtain ⟨hP, hD⟩ := va_join (wr := []) (w1 := [(h0, .inr (12, [.ref z0, .ref z1, .ref z2, .ref z3, .ref z4, .ref z5, .ref z20, .ref z21, .ref z22, .ref z23, .ref z24, .ref z25, .int 0, .ref z26, .ref z27, .ref z28, .int 9, .int 0, .int 0, .ref z6, .ref z29, .ref z7, .int 0, .int 2, .ref z19, .ref z8, .ref z9, .ref z10, .int 0, .ref z11, .int 0, .ref z30, .ref z31, .ref z32, .ref z33, .int 0, .ref z12, .int 0, .int 0, .ref z34, .ref z35, .ref z36, .ref z37, .int 0, .int 0, .int 0, .int 0, .ref z38, .int 0, .ref z39, .ref z40, .ref z41, .ref z42, .int 0, .ref z13, .ref z14, .ref z15, .ref z16, .int 0, .ref z17, .ref z18, .ref z43]))]) hP hD [0] [] rfl rfl (by decide) (by decide) hk1 hFc hP1 hD1
  clear hPc hDc
  generalize H1 = H at hP hS ⊢
  have hP : va_P D vwCl [(h0, .inr (12, [.ref z0, .ref z1, .ref z2, .ref z3, .ref z4, .ref z5, .ref z20, .ref z21, .ref z22, .ref z23, .ref z24, .ref z25, .int 0, .ref z26, .ref z27, .ref z28, .int 9, .int 0, .int 0, .ref z6, .ref z29, .ref z7, .int 0, .int 2, .ref z19, .ref z8, .ref z9, .ref z10, .int 0, .ref z11, .int 0, .ref z30, .ref z31, .ref z32, .ref z33, .int 0, .ref z12, .int 0, .int 0, .ref z34, .ref z35, .ref z36, .ref z37, .int 0, .int 0, .int 0, .int 0, .ref z38, .int 0, .ref z39, .ref z40, .ref z41, .ref z42, .int 0, .ref z13, .ref z14, .ref z15, .ref z16, .int 0, .ref z17, .ref z18, .ref z43]))] H := hP
  have hD : va_D A [(h0, .inr (12, [.ref z0, .ref z1, .ref z2, .ref z3, .ref z4, .ref z5, .ref z20, .ref z21, .ref z22, .ref z23, .ref z24, .ref z25, .int 0, .ref z26, .ref z27, .ref z28, .int 9, .int 0, .int 0, .ref z6, .ref z29, .ref z7, .int 0, .int 2, .ref z19, .ref z8, .ref z9, .ref z10, .int 0, .ref z11, .int 0, .ref z30, .ref z31, .ref z32, .ref z33, .int 0, .ref z12, .int 0, .int 0, .ref z34, .ref z35, .ref z36, .ref z37, .int 0, .int 0, .int 0, .int 0, .ref z38, .int 0, .ref z39, .ref z40, .ref z41, .ref z42, .int 0, .ref z13, .ref z14, .ref z15, .ref z16, .int 0, .ref z17, .ref z18, .ref z43]))] := hD
  subst hr1
  refine lv_if_eq (tgt := 31) hx hb dX12_touch_11 (by decide) (fun _ => ?_) (fun h9 => absurd h9 (by decide))
  refine lv_iconst (v := (-1)) hx hb dX12_touch_31 (by decide) ?_
  exact W.iret (v := (-1)) hx hb hr (fun t ht hW => ⟨⟨(-1), (), rfl, rfl, trivial⟩, hS.F ht⟩) hS.2.2 dX12_touch_32

theorem mX12_meeting_w0 : Cond.fieldLink RX12 157 "PuppetBridgeModel" "thrown" "I" ∈ wsX12_meeting := by decide +kernel
theorem iX12_meeting_X12 : ∀ w ∈ wsX120, w ∈ wsX12_meeting := fun _ h => List.mem_cons_of_mem _ (List.mem_append_right _ h)
set_option maxRecDepth 20000 in
theorem ggX12_meeting_X12_areTwo : GoodIn wsX12_meeting wsX12_areTwo := goodIn_r _ [6, 7, 8, 9, 5, 10, 11, 12, 13, 14, 117, 118, 119, 120, 121, 122, 123, 124, 125, 126, 127, 128, 129, 130, 131, 132, 133, 134, 135, 136, 137, 138, 139, 140, 141, 142, 143, 144, 145, 146, 147, 148, 149, 150, 151, 152, 153, 154, 155, 156, 157, 158, 159, 160, 161, 162, 163, 164, 165, 166, 167, 168, 169, 170, 171, 172, 173, 174, 175, 176, 177, 178] (by decide +kernel) (by decide +kernel)
set_option maxRecDepth 20000 in
theorem gX12_meeting_X12_areTwo : GoodIn wsX12_meeting (wsV RX12 288 RX12 yX12_areTwo wsX12_areTwo) := goodIn_app (goodIn_of _ (by decide +kernel)) ggX12_meeting_X12_areTwo
theorem dX12_meeting_0 : decode cX12_meeting 0 = .ok (.aload_n 0, 1) := by decide +kernel
theorem dX12_meeting_1 : decode cX12_meeting 1 = .ok (.iconst 0, 1) := by decide +kernel
theorem dX12_meeting_2 : decode cX12_meeting 2 = .ok (.putfield 157, 3) := by decide +kernel
theorem dX12_meeting_5 : decode cX12_meeting 5 = .ok (.aload_n 0, 1) := by decide +kernel
theorem dX12_meeting_6 : decode cX12_meeting 6 = .ok (.iload_n 1, 1) := by decide +kernel
theorem dX12_meeting_7 : decode cX12_meeting 7 = .ok (.iload_n 2, 1) := by decide +kernel
theorem dX12_meeting_8 : decode cX12_meeting 8 = .ok (.invokevirtual 288, 3) := by decide +kernel
theorem dX12_meeting_11 : decode cX12_meeting 11 = .ok (.ifCond .eq 12, 3) := by decide +kernel
theorem dX12_meeting_23 : decode cX12_meeting 23 = .ok (.iconst (-1), 1) := by decide +kernel
theorem dX12_meeting_24 : decode cX12_meeting 24 = .ok (.ireturn, 1) := by decide +kernel
set_option maxHeartbeats 4000000 in
set_option maxRecDepth 100000 in
/-- X12_meeting -/
theorem kX12_meeting (l : Launch) (D : va_G) (G : tyG) (h0 : Nat) (x1 : Int32) (x2 : Int32) (x3 : Int32) (z0 : Nat) (z1 : Nat) (z2 : Nat) (z3 : Nat) (z4 : Nat) (z5 : Nat) (z20 : Nat) (z21 : Nat) (z22 : Nat) (z23 : Nat) (z24 : Nat) (z25 : Nat) (z26 : Nat) (z27 : Nat) (z28 : Nat) (z6 : Nat) (z29 : Nat) (z7 : Nat) (z19 : Nat) (z8 : Nat) (z9 : Nat) (z10 : Nat) (z11 : Nat) (z30 : Nat) (z31 : Nat) (z32 : Nat) (z33 : Nat) (z12 : Nat) (z34 : Nat) (z35 : Nat) (z36 : Nat) (z37 : Nat) (z38 : Nat) (z39 : Nat) (z40 : Nat) (z41 : Nat) (z42 : Nat) (z13 : Nat) (z14 : Nat) (z15 : Nat) (z16 : Nat) (z17 : Nat) (z18 : Nat) (z43 : Nat) (sz : Nat) : Met l yX12_meeting wsX12_meeting ({ frames := 3, cells := 0, slots := 0, locals := 65 }) (va_Pc [.ref h0, .int x1, .int x2, .int x3] (wB D G sz [(h0, .inr (12, [.ref z0, .ref z1, .ref z2, .ref z3, .ref z4, .ref z5, .ref z20, .ref z21, .ref z22, .ref z23, .ref z24, .ref z25, .int 0, .ref z26, .ref z27, .ref z28, .int 9, .int 0, .int 0, .ref z6, .ref z29, .ref z7, .int 0, .int 2, .ref z19, .ref z8, .ref z9, .ref z10, .int 0, .ref z11, .int 0, .ref z30, .ref z31, .ref z32, .ref z33, .int 0, .ref z12, .int 0, .int 0, .ref z34, .ref z35, .ref z36, .ref z37, .int 0, .int 0, .int 0, .int 0, .ref z38, .int 0, .ref z39, .ref z40, .ref z41, .ref z42, .int 0, .ref z13, .ref z14, .ref z15, .ref z16, .int 0, .ref z17, .ref z18, .ref z43]))])) (va_Qi (fun (r : Int32) (_ : Unit) => r = (-1)) (fun _ _ => True) (va_A [(h0, .inr (12, [.ref z0, .ref z1, .ref z2, .ref z3, .ref z4, .ref z5, .ref z20, .ref z21, .ref z22, .ref z23, .ref z24, .ref z25, .int 0, .ref z26, .ref z27, .ref z28, .int 9, .int 0, .int 0, .ref z6, .ref z29, .ref z7, .int 0, .int 2, .ref z19, .ref z8, .ref z9, .ref z10, .int 0, .ref z11, .int 0, .ref z30, .ref z31, .ref z32, .ref z33, .int 0, .ref z12, .int 0, .int 0, .ref z34, .ref z35, .ref z36, .ref z37, .int 0, .int 0, .int 0, .int 0, .ref z38, .int 0, .ref z39, .ref z40, .ref z41, .ref z42, .int 0, .ref z13, .ref z14, .ref z15, .ref z16, .int 0, .ref z17, .ref z18, .ref z43]))] sz)) 0 0 (va_A [(h0, .inr (12, [.ref z0, .ref z1, .ref z2, .ref z3, .ref z4, .ref z5, .ref z20, .ref z21, .ref z22, .ref z23, .ref z24, .ref z25, .int 0, .ref z26, .ref z27, .ref z28, .int 9, .int 0, .int 0, .ref z6, .ref z29, .ref z7, .int 0, .int 2, .ref z19, .ref z8, .ref z9, .ref z10, .int 0, .ref z11, .int 0, .ref z30, .ref z31, .ref z32, .ref z33, .int 0, .ref z12, .int 0, .int 0, .ref z34, .ref z35, .ref z36, .ref z37, .int 0, .int 0, .int 0, .int 0, .ref z38, .int 0, .ref z39, .ref z40, .ref z41, .ref z42, .int 0, .ref z13, .ref z14, .ref z15, .ref z16, .int 0, .ref z17, .ref z18, .ref z43]))] sz) := by
  refine Met.ofW (cc := cX12_meeting) (maxL := 6) (ret := (some .int)) (by decide) rfl ?_
  intro p e s m args below meth c s₁ B hml hv
  obtain ⟨rfl, hsz, hP, hK, hD0, hN⟩ := hv
  have hx := B.exec
  have hb := B.bytes
  have hr := B.returns
  have hts := atoms_spec (ws := wsX12_meeting) B.pre
  have hown : s.vm.findClass RX12 = some m.cls := findClass_of_methodNamed B.named
  have hlocks := B.notSynchronized
  subst hsz
  have hD := hD0.self (sz := s.heap.size)
  generalize hAe : va_A [(h0, .inr (12, [.ref z0, .ref z1, .ref z2, .ref z3, .ref z4, .ref z5, .ref z20, .ref z21, .ref z22, .ref z23, .ref z24, .ref z25, .int 0, .ref z26, .ref z27, .ref z28, .int 9, .int 0, .int 0, .ref z6, .ref z29, .ref z7, .int 0, .int 2, .ref z19, .ref z8, .ref z9, .ref z10, .int 0, .ref z11, .int 0, .ref z30, .ref z31, .ref z32, .ref z33, .int 0, .ref z12, .int 0, .int 0, .ref z34, .ref z35, .ref z36, .ref z37, .int 0, .int 0, .int 0, .int 0, .ref z38, .int 0, .ref z39, .ref z40, .ref z41, .ref z42, .int 0, .ref z13, .ref z14, .ref z15, .ref z16, .int 0, .ref z17, .ref z18, .ref z43]))] s.heap.size = A at hD ⊢
  have hA : ∀ q : Nat, s.heap.size ≤ q → A q := fun q h => by rw [← hAe]; exact Or.inr h
  have hS : va_S A s.heap s.heap [] := va_S.rf
  have hP : va_P D vwCl [(h0, .inr (12, [.ref z0, .ref z1, .ref z2, .ref z3, .ref z4, .ref z5, .ref z20, .ref z21, .ref z22, .ref z23, .ref z24, .ref z25, .int 0, .ref z26, .ref z27, .ref z28, .int 9, .int 0, .int 0, .ref z6, .ref z29, .ref z7, .int 0, .int 2, .ref z19, .ref z8, .ref z9, .ref z10, .int 0, .ref z11, .int 0, .ref z30, .ref z31, .ref z32, .ref z33, .int 0, .ref z12, .int 0, .int 0, .ref z34, .ref z35, .ref z36, .ref z37, .int 0, .int 0, .int 0, .int 0, .ref z38, .int 0, .ref z39, .ref z40, .ref z41, .ref z42, .int 0, .ref z13, .ref z14, .ref z15, .ref z16, .int 0, .ref z17, .ref z18, .ref z43]))] s.heap := hP
  have hl := lv_entry ([.ref h0, .int x1, .int x2, .int x3]) (n := 6) (Nat.le_of_ble_eq_true rfl)
  rw [lg_entry_eq]
  generalize (lg_sl ([.ref h0, .int x1, .int x2, .int x3]) ++ List.replicate (6 - (lg_sl ([.ref h0, .int x1, .int x2, .int x3])).length) Slot.unset).toArray = ls at hl ⊢
  have hl : lv_has ls 6 [(0, .ref h0), (1, .int x1), (2, .int x2), (3, .int x3)] := hl
  refine lv_aload_n hx hb dX12_meeting_0 rfl (lv_at hl 0 rfl) ?_
  refine lv_iconst (v := 0) hx hb dX12_meeting_1 (by decide) ?_
  refine va_put (D := D) (ci := 12) (v := .int 0) (ty := (tyX12 38)) (C := RX12) (T := TX12) (N := 62) hx hb hts iX12_meeting_X12 tyX12 tyX12_ok nmX12 hown hK hP hD hS 0 rfl rfl 38 (by decide) (hts (.fieldLink RX12 157 "PuppetBridgeModel" "thrown" "I") mX12_meeting_w0) (fun _ h9 => h9) rfl (tyX12_ok 38 (by decide)) rfl rfl (Nat.le_of_ble_eq_true rfl) dX12_meeting_2 (fun H locs hP hD hS => ?_)
  have hP : va_P D vwCl [(h0, .inr (12, [.ref z0, .ref z1, .ref z2, .ref z3, .ref z4, .ref z5, .ref z20, .ref z21, .ref z22, .ref z23, .ref z24, .ref z25, .int 0, .ref z26, .ref z27, .ref z28, .int 9, .int 0, .int 0, .ref z6, .ref z29, .ref z7, .int 0, .int 2, .ref z19, .ref z8, .ref z9, .ref z10, .int 0, .ref z11, .int 0, .ref z30, .ref z31, .ref z32, .ref z33, .int 0, .ref z12, .int 0, .int 0, .ref z34, .ref z35, .ref z36, .ref z37, .int 0, .int 0, .int 0, .int 0, .ref z38, .int 0, .ref z39, .ref z40, .ref z41, .ref z42, .int 0, .ref z13, .ref z14, .ref z15, .ref z16, .int 0, .ref z17, .ref z18, .ref z43]))] H := hP
  have hD : va_D A [(h0, .inr (12, [.ref z0, .ref z1, .ref z2, .ref z3, .ref z4, .ref z5, .ref z20, .ref z21, .ref z22, .ref z23, .ref z24, .ref z25, .int 0, .ref z26, .ref z27, .ref z28, .int 9, .int 0, .int 0, .ref z6, .ref z29, .ref z7, .int 0, .int 2, .ref z19, .ref z8, .ref z9, .ref z10, .int 0, .ref z11, .int 0, .ref z30, .ref z31, .ref z32, .ref z33, .int 0, .ref z12, .int 0, .int 0, .ref z34, .ref z35, .ref z36, .ref z37, .int 0, .int 0, .int 0, .int 0, .ref z38, .int 0, .ref z39, .ref z40, .ref z41, .ref z42, .int 0, .ref z13, .ref z14, .ref z15, .ref z16, .int 0, .ref z17, .ref z18, .ref z43]))] := hD
  refine lv_aload_n hx hb dX12_meeting_5 rfl (lv_at hl 0 rfl) ?_
  refine lv_iload_n hx hb dX12_meeting_6 rfl (lv_at hl 1 rfl) ?_
  refine lv_iload_n hx hb dX12_meeting_7 rfl (lv_at hl 2 rfl) ?_
  have hPc := hP.sub (ws' := [(h0, .inr (12, [.ref z0, .ref z1, .ref z2, .ref z3, .ref z4, .ref z5, .ref z20, .ref z21, .ref z22, .ref z23, .ref z24, .ref z25, .int 0, .ref z26, .ref z27, .ref z28, .int 9, .int 0, .int 0, .ref z6, .ref z29, .ref z7, .int 0, .int 2, .ref z19, .ref z8, .ref z9, .ref z10, .int 0, .ref z11, .int 0, .ref z30, .ref z31, .ref z32, .ref z33, .int 0, .ref z12, .int 0, .int 0, .ref z34, .ref z35, .ref z36, .ref z37, .int 0, .int 0, .int 0, .int 0, .ref z38, .int 0, .ref z39, .ref z40, .ref z41, .ref z42, .int 0, .ref z13, .ref z14, .ref z15, .ref z16, .int 0, .ref z17, .ref z18, .ref z43]))]) [0] rfl
  have hDc := hD.sub (ws' := [(h0, .inr (12, [.ref z0, .ref z1, .ref z2, .ref z3, .ref z4, .ref z5, .ref z20, .ref z21, .ref z22, .ref z23, .ref z24, .ref z25, .int 0, .ref z26, .ref z27, .ref z28, .int 9, .int 0, .int 0, .ref z6, .ref z29, .ref z7, .int 0, .int 2, .ref z19, .ref z8, .ref z9, .ref z10, .int 0, .ref z11, .int 0, .ref z30, .ref z31, .ref z32, .ref z33, .int 0, .ref z12, .int 0, .int 0, .ref z34, .ref z35, .ref z36, .ref z37, .int 0, .int 0, .int 0, .int 0, .ref z38, .int 0, .ref z39, .ref z40, .ref z41, .ref z42, .int 0, .ref z13, .ref z14, .ref z15, .ref z16, .int 0, .ref z17, .ref z18, .ref z43]))]) [0] (by decide) rfl
  have hFc := va_free (wc := [(h0, .inr (12, [.ref z0, .ref z1, .ref z2, .ref z3, .ref z4, .ref z5, .ref z20, .ref z21, .ref z22, .ref z23, .ref z24, .ref z25, .int 0, .ref z26, .ref z27, .ref z28, .int 9, .int 0, .int 0, .ref z6, .ref z29, .ref z7, .int 0, .int 2, .ref z19, .ref z8, .ref z9, .ref z10, .int 0, .ref z11, .int 0, .ref z30, .ref z31, .ref z32, .ref z33, .int 0, .ref z12, .int 0, .int 0, .ref z34, .ref z35, .ref z36, .ref z37, .int 0, .int 0, .int 0, .int 0, .ref z38, .int 0, .ref z39, .ref z40, .ref z41, .ref z42, .int 0, .ref z13, .ref z14, .ref z15, .ref z16, .int 0, .ref z17, .ref z18, .ref z43]))]) hD hS hA [0] rfl
  refine va_calli (va_runV (As := [.int x1, .int x2]) (rest := []) ⟨hx, hb, hml, hown, hts⟩ (kX12_areTwo l D G h0 x1 x2 z0 z1 z2 z3 z4 z5 z20 z21 z22 z23 z24 z25 z26 z27 z28 z6 z29 z7 z19 z8 z9 z10 z11 z30 z31 z32 z33 z12 z34 z35 z36 z37 z38 z39 z40 z41 z42 z13 z14 z15 z16 z17 z18 z43 H.size) (cwV 2 hts gX12_meeting_X12_areTwo rfl rfl rfl (by decide +kernel) ⟨Nat.le_of_ble_eq_true rfl, Nat.le_of_ble_eq_true rfl⟩) ⟨wB_blind, va_recv hK hPc (ci := 12) (q0 := 0) rfl rfl, wB_pre hPc hK hDc hN⟩ rfl rfl hl.1 rfl (lv_room (Nat.le_of_ble_eq_true rfl)) dX12_meeting_8 ⟨Nat.le_of_ble_eq_true rfl, Nat.le_of_ble_eq_true rfl⟩) hS (fun q _ h => hFc q h) hFc (fun r1 u t H1 locs ht hvm hr1 hB hz1 hk1 hS => ?_)
  obtain ⟨hP1, hK1, hD1⟩ := hB
  rw [ht] at hP1
  obtain ⟨hP, hD⟩ := va_join (wr := []) (w1 := [(h0, .inr (12, [.ref z0, .ref z1, .ref z2, .ref z3, .ref z4, .ref z5, .ref z20, .ref z21, .ref z22, .ref z23, .ref z24, .ref z25, .int 0, .ref z26, .ref z27, .ref z28, .int 9, .int 0, .int 0, .ref z6, .ref z29, .ref z7, .int 0, .int 2, .ref z19, .ref z8, .ref z9, .ref z10, .int 0, .ref z11, .int 0, .ref z30, .ref z31, .ref z32, .ref z33, .int 0, .ref z12, .int 0, .int 0, .ref z34, .ref z35, .ref z36, .ref z37, .int 0, .int 0, .int 0, .int 0, .ref z38, .int 0, .ref z39, .ref z40, .ref z41, .ref z42, .int 0, .ref z13, .ref z14, .ref z15, .ref z16, .int 0, .ref z17, .ref z18, .ref z43]))]) hP hD [0] [] rfl rfl (by decide) (by decide) hk1 hFc hP1 hD1
  clear hPc hDc
  generalize H1 = H at hP hS ⊢
  have hP : va_P D vwCl [(h0, .inr (12, [.ref z0, .ref z1, .ref z2, .ref z3, .ref z4, .ref z5, .ref z20, .ref z21, .ref z22, .ref z23, .ref z24, .ref z25, .int 0, .ref z26, .ref z27, .ref z28, .int 9, .int 0, .int 0, .ref z6, .ref z29, .ref z7, .int 0, .int 2, .ref z19, .ref z8, .ref z9, .ref z10, .int 0, .ref z11, .int 0, .ref z30, .ref z31, .ref z32, .ref z33, .int 0, .ref z12, .int 0, .int 0, .ref z34, .ref z35, .ref z36, .ref z37, .int 0, .int 0, .int 0, .int 0, .ref z38, .int 0, .ref z39, .ref z40, .ref z41, .ref z42, .int 0, .ref z13, .ref z14, .ref z15, .ref z16, .int 0, .ref z17, .ref z18, .ref z43]))] H := hP
  have hD : va_D A [(h0, .inr (12, [.ref z0, .ref z1, .ref z2, .ref z3, .ref z4, .ref z5, .ref z20, .ref z21, .ref z22, .ref z23, .ref z24, .ref z25, .int 0, .ref z26, .ref z27, .ref z28, .int 9, .int 0, .int 0, .ref z6, .ref z29, .ref z7, .int 0, .int 2, .ref z19, .ref z8, .ref z9, .ref z10, .int 0, .ref z11, .int 0, .ref z30, .ref z31, .ref z32, .ref z33, .int 0, .ref z12, .int 0, .int 0, .ref z34, .ref z35, .ref z36, .ref z37, .int 0, .int 0, .int 0, .int 0, .ref z38, .int 0, .ref z39, .ref z40, .ref z41, .ref z42, .int 0, .ref z13, .ref z14, .ref z15, .ref z16, .int 0, .ref z17, .ref z18, .ref z43]))] := hD
  subst hr1
  refine lv_if_eq (tgt := 23) hx hb dX12_meeting_11 (by decide) (fun _ => ?_) (fun h9 => absurd h9 (by decide))
  refine lv_iconst (v := (-1)) hx hb dX12_meeting_23 (by decide) ?_
  exact W.iret (v := (-1)) hx hb hr (fun t ht hW => ⟨⟨(-1), (), rfl, rfl, trivial⟩, hS.F ht⟩) hS.2.2 dX12_meeting_24

theorem mX12_back_w0 : Cond.fieldLink RX12 157 "PuppetBridgeModel" "thrown" "I" ∈ wsX12_back := by decide +kernel
theorem mX12_back_w1 : Cond.fieldLink RX12 297 "PuppetBridgeModel" "passMany" "I" ∈ wsX12_back := by decide +kernel
theorem iX12_back_X12 : ∀ w ∈ wsX120, w ∈ wsX12_back := fun _ h => List.mem_cons_of_mem _ (List.mem_append_right _ h)
theorem dX12_back_0 : decode cX12_back 0 = .ok (.aload_n 0, 1) := by decide +kernel
theorem dX12_back_1 : decode cX12_back 1 = .ok (.iconst 0, 1) := by decide +kernel
theorem dX12_back_2 : decode cX12_back 2 = .ok (.putfield 157, 3) := by decide +kernel
theorem dX12_back_5 : decode cX12_back 5 = .ok (.aload_n 0, 1) := by decide +kernel
theorem dX12_back_6 : decode cX12_back 6 = .ok (.getfield 297, 3) := by decide +kernel
theorem dX12_back_9 : decode cX12_back 9 = .ok (.ifCond .ne 5, 3) := by decide +kernel
theorem dX12_back_12 : decode cX12_back 12 = .ok (.iconst 0, 1) := by decide +kernel
theorem dX12_back_13 : decode cX12_back 13 = .ok (.ireturn, 1) := by decide +kernel
set_option maxHeartbeats 4000000 in
set_option maxRecDepth 100000 in
/-- X12_back -/
theorem kX12_back (l : Launch) (D : va_G) (G : tyG) (h0 : Nat) (z0 : Nat) (z1 : Nat) (z2 : Nat) (z3 : Nat) (z4 : Nat) (z5 : Nat) (z20 : Nat) (z21 : Nat) (z22 : Nat) (z23 : Nat) (z24 : Nat) (z25 : Nat) (z26 : Nat) (z27 : Nat) (z28 : Nat) (z6 : Nat) (z29 : Nat) (z7 : Nat) (z19 : Nat) (z8 : Nat) (z9 : Nat) (z10 : Nat) (z11 : Nat) (z30 : Nat) (z31 : Nat) (z32 : Nat) (z33 : Nat) (z12 : Nat) (z34 : Nat) (z35 : Nat) (z36 : Nat) (z37 : Nat) (z38 : Nat) (z39 : Nat) (z40 : Nat) (z41 : Nat) (z42 : Nat) (z13 : Nat) (z14 : Nat) (z15 : Nat) (z16 : Nat) (z17 : Nat) (z18 : Nat) (z43 : Nat) (sz : Nat) : Met l yX12_back wsX12_back ({ frames := 0, cells := 0, slots := 0, locals := 0 }) (va_Pc [.ref h0] (wB D G sz [(h0, .inr (12, [.ref z0, .ref z1, .ref z2, .ref z3, .ref z4, .ref z5, .ref z20, .ref z21, .ref z22, .ref z23, .ref z24, .ref z25, .int 0, .ref z26, .ref z27, .ref z28, .int 9, .int 0, .int 0, .ref z6, .ref z29, .ref z7, .int 0, .int 2, .ref z19, .ref z8, .ref z9, .ref z10, .int 0, .ref z11, .int 0, .ref z30, .ref z31, .ref z32, .ref z33, .int 0, .ref z12, .int 0, .int 0, .ref z34, .ref z35, .ref z36, .ref z37, .int 0, .int 0, .int 0, .int 0, .ref z38, .int 0, .ref z39, .ref z40, .ref z41, .ref z42, .int 0, .ref z13, .ref z14, .ref z15, .ref z16, .int 0, .ref z17, .ref z18, .ref z43]))])) (va_Qi (fun (r : Int32) (_ : Unit) => r = 0) (fun _ _ => True) (va_A [(h0, .inr (12, [.ref z0, .ref z1, .ref z2, .ref z3, .ref z4, .ref z5, .ref z20, .ref z21, .ref z22, .ref z23, .ref z24, .ref z25, .int 0, .ref z26, .ref z27, .ref z28, .int 9, .int 0, .int 0, .ref z6, .ref z29, .ref z7, .int 0, .int 2, .ref z19, .ref z8, .ref z9, .ref z10, .int 0, .ref z11, .int 0, .ref z30, .ref z31, .ref z32, .ref z33, .int 0, .ref z12, .int 0, .int 0, .ref z34, .ref z35, .ref z36, .ref z37, .int 0, .int 0, .int 0, .int 0, .ref z38, .int 0, .ref z39, .ref z40, .ref z41, .ref z42, .int 0, .ref z13, .ref z14, .ref z15, .ref z16, .int 0, .ref z17, .ref z18, .ref z43]))] sz)) 0 0 (va_A [(h0, .inr (12, [.ref z0, .ref z1, .ref z2, .ref z3, .ref z4, .ref z5, .ref z20, .ref z21, .ref z22, .ref z23, .ref z24, .ref z25, .int 0, .ref z26, .ref z27, .ref z28, .int 9, .int 0, .int 0, .ref z6, .ref z29, .ref z7, .int 0, .int 2, .ref z19, .ref z8, .ref z9, .ref z10, .int 0, .ref z11, .int 0, .ref z30, .ref z31, .ref z32, .ref z33, .int 0, .ref z12, .int 0, .int 0, .ref z34, .ref z35, .ref z36, .ref z37, .int 0, .int 0, .int 0, .int 0, .ref z38, .int 0, .ref z39, .ref z40, .ref z41, .ref z42, .int 0, .ref z13, .ref z14, .ref z15, .ref z16, .int 0, .ref z17, .ref z18, .ref z43]))] sz) := by
  refine Met.ofW (cc := cX12_back) (maxL := 1) (ret := (some .boolean)) (by decide) rfl ?_
  intro p e s m args below meth c s₁ B hml hv
  obtain ⟨rfl, hsz, hP, hK, hD0, hN⟩ := hv
  have hx := B.exec
  have hb := B.bytes
  have hr := B.returns
  have hts := atoms_spec (ws := wsX12_back) B.pre
  have hown : s.vm.findClass RX12 = some m.cls := findClass_of_methodNamed B.named
  have hlocks := B.notSynchronized
  subst hsz
  have hD := hD0.self (sz := s.heap.size)
  generalize hAe : va_A [(h0, .inr (12, [.ref z0, .ref z1, .ref z2, .ref z3, .ref z4, .ref z5, .ref z20, .ref z21, .ref z22, .ref z23, .ref z24, .ref z25, .int 0, .ref z26, .ref z27, .ref z28, .int 9, .int 0, .int 0, .ref z6, .ref z29, .ref z7, .int 0, .int 2, .ref z19, .ref z8, .ref z9, .ref z10, .int 0, .ref z11, .int 0, .ref z30, .ref z31, .ref z32, .ref z33, .int 0, .ref z12, .int 0, .int 0, .ref z34, .ref z35, .ref z36, .ref z37, .int 0, .int 0, .int 0, .int 0, .ref z38, .int 0, .ref z39, .ref z40, .ref z41, .ref z42, .int 0, .ref z13, .ref z14, .ref z15, .ref z16, .int 0, .ref z17, .ref z18, .ref z43]))] s.heap.size = A at hD ⊢
  have hA : ∀ q : Nat, s.heap.size ≤ q → A q := fun q h => by rw [← hAe]; exact Or.inr h
  have hS : va_S A s.heap s.heap [] := va_S.rf
  have hP : va_P D vwCl [(h0, .inr (12, [.ref z0, .ref z1, .ref z2, .ref z3, .ref z4, .ref z5, .ref z20, .ref z21, .ref z22, .ref z23, .ref z24, .ref z25, .int 0, .ref z26, .ref z27, .ref z28, .int 9, .int 0, .int 0, .ref z6, .ref z29, .ref z7, .int 0, .int 2, .ref z19, .ref z8, .ref z9, .ref z10, .int 0, .ref z11, .int 0, .ref z30, .ref z31, .ref z32, .ref z33, .int 0, .ref z12, .int 0, .int 0, .ref z34, .ref z35, .ref z36, .ref z37, .int 0, .int 0, .int 0, .int 0, .ref z38, .int 0, .ref z39, .ref z40, .ref z41, .ref z42, .int 0, .ref z13, .ref z14, .ref z15, .ref z16, .int 0, .ref z17, .ref z18, .ref z43]))] s.heap := hP
  have hl := lv_entry ([.ref h0]) (n := 1) (Nat.le_of_ble_eq_true rfl)
  rw [lg_entry_eq]
  generalize (lg_sl ([.ref h0]) ++ List.replicate (1 - (lg_sl ([.ref h0])).length) Slot.unset).toArray = ls at hl ⊢
  have hl : lv_has ls 1 [(0, .ref h0)] := hl
  refine lv_aload_n hx hb dX12_back_0 rfl (lv_at hl 0 rfl) ?_
  refine lv_iconst (v := 0) hx hb dX12_back_1 (by decide) ?_
  refine va_put (D := D) (ci := 12) (v := .int 0) (ty := (tyX12 38)) (C := RX12) (T := TX12) (N := 62) hx hb hts iX12_back_X12 tyX12 tyX12_ok nmX12 hown hK hP hD hS 0 rfl rfl 38 (by decide) (hts (.fieldLink RX12 157 "PuppetBridgeModel" "thrown" "I") mX12_back_w0) (fun _ h9 => h9) rfl (tyX12_ok 38 (by decide)) rfl rfl (Nat.le_of_ble_eq_true rfl) dX12_back_2 (fun H locs hP hD hS => ?_)
  have hP : va_P D vwCl [(h0, .inr (12, [.ref z0, .ref z1, .ref z2, .ref z3, .ref z4, .ref z5, .ref z20, .ref z21, .ref z22, .ref z23, .ref z24, .ref z25, .int 0, .ref z26, .ref z27, .ref z28, .int 9, .int 0, .int 0, .ref z6, .ref z29, .ref z7, .int 0, .int 2, .ref z19, .ref z8, .ref z9, .ref z10, .int 0, .ref z11, .int 0, .ref z30, .ref z31, .ref z32, .ref z33, .int 0, .ref z12, .int 0, .int 0, .ref z34, .ref z35, .ref z36, .ref z37, .int 0, .int 0, .int 0, .int 0, .ref z38, .int 0, .ref z39, .ref z40, .ref z41, .ref z42, .int 0, .ref z13, .ref z14, .ref z15, .ref z16, .int 0, .ref z17, .ref z18, .ref z43]))] H := hP
  have hD : va_D A [(h0, .inr (12, [.ref z0, .ref z1, .ref z2, .ref z3, .ref z4, .ref z5, .ref z20, .ref z21, .ref z22, .ref z23, .ref z24, .ref z25, .int 0, .ref z26, .ref z27, .ref z28, .int 9, .int 0, .int 0, .ref z6, .ref z29, .ref z7, .int 0, .int 2, .ref z19, .ref z8, .ref z9, .ref z10, .int 0, .ref z11, .int 0, .ref z30, .ref z31, .ref z32, .ref z33, .int 0, .ref z12, .int 0, .int 0, .ref z34, .ref z35, .ref z36, .ref z37, .int 0, .int 0, .int 0, .int 0, .ref z38, .int 0, .ref z39, .ref z40, .ref z41, .ref z42, .int 0, .ref z13, .ref z14, .ref z15, .ref z16, .int 0, .ref z17, .ref z18, .ref z43]))] := hD
  refine lv_aload_n hx hb dX12_back_5 rfl (lv_at hl 0 rfl) ?_
  refine va_get (D := D) (ci := 12) (v := .int 0) (C := RX12) (T := TX12) (N := 62) hx hb hts iX12_back_X12 hown hK hP 0 rfl rfl 28 (by decide) (hts (.fieldLink RX12 297 "PuppetBridgeModel" "passMany" "I") mX12_back_w1) (fun _ h9 => h9) rfl dX12_back_6 ?_
  refine lv_if_ne (tgt := 14) hx hb dX12_back_9 (by decide) (fun h9 => absurd h9 (by decide)) (fun _ => ?_)
  refine lv_iconst (v := 0) hx hb dX12_back_12 (by decide) ?_
  exact W.zret (v := 0) hx hb hr rfl (fun t ht hW => ⟨⟨0, (), rfl, rfl, trivial⟩, hS.F ht⟩) hS.2.2 dX12_back_13

theorem mX12_clear_w0 : Cond.fieldLink RX12 157 "PuppetBridgeModel" "thrown" "I" ∈ wsX12_clear := by decide +kernel
theorem mX12_clear_w1 : Cond.fieldLink RX12 300 "PuppetBridgeModel" "sceneMany" "I" ∈ wsX12_clear := by decide +kernel
theorem mX12_clear_w2 : Cond.fieldLink RX12 303 "PuppetBridgeModel" "seenMany" "I" ∈ wsX12_clear := by decide +kernel
theorem iX12_clear_X12 : ∀ w ∈ wsX120, w ∈ wsX12_clear := fun _ h => List.mem_cons_of_mem _ (List.mem_append_right _ h)
theorem dX12_clear_0 : decode cX12_clear 0 = .ok (.aload_n 0, 1) := by decide +kernel
theorem dX12_clear_1 : decode cX12_clear 1 = .ok (.iconst 0, 1) := by decide +kernel
theorem dX12_clear_2 : decode cX12_clear 2 = .ok (.putfield 157, 3) := by decide +kernel
theorem dX12_clear_5 : decode cX12_clear 5 = .ok (.aload_n 0, 1) := by decide +kernel
theorem dX12_clear_6 : decode cX12_clear 6 = .ok (.getfield 300, 3) := by decide +kernel
theorem dX12_clear_9 : decode cX12_clear 9 = .ok (.istore_n 1, 1) := by decide +kernel
theorem dX12_clear_10 : decode cX12_clear 10 = .ok (.aload_n 0, 1) := by decide +kernel
theorem dX12_clear_11 : decode cX12_clear 11 = .ok (.iconst 0, 1) := by decide +kernel
theorem dX12_clear_12 : decode cX12_clear 12 = .ok (.putfield 300, 3) := by decide +kernel
theorem dX12_clear_15 : decode cX12_clear 15 = .ok (.aload_n 0, 1) := by decide +kernel
theorem dX12_clear_16 : decode cX12_clear 16 = .ok (.iconst 0, 1) := by decide +kernel
theorem dX12_clear_17 : decode cX12_clear 17 = .ok (.putfield 303, 3) := by decide +kernel
theorem dX12_clear_20 : decode cX12_clear 20 = .ok (.iload_n 1, 1) := by decide +kernel
theorem dX12_clear_21 : decode cX12_clear 21 = .ok (.ireturn, 1) := by decide +kernel
set_option maxHeartbeats 4000000 in
set_option maxRecDepth 100000 in
/-- X12_clear -/
theorem kX12_clear (l : Launch) (D : va_G) (G : tyG) (h0 : Nat) (z0 : Nat) (z1 : Nat) (z2 : Nat) (z3 : Nat) (z4 : Nat) (z5 : Nat) (z20 : Nat) (z21 : Nat) (z22 : Nat) (z23 : Nat) (z24 : Nat) (z25 : Nat) (z26 : Nat) (z27 : Nat) (z28 : Nat) (z6 : Nat) (z29 : Nat) (z7 : Nat) (z19 : Nat) (z8 : Nat) (z9 : Nat) (z10 : Nat) (z11 : Nat) (z30 : Nat) (z31 : Nat) (z32 : Nat) (z33 : Nat) (z12 : Nat) (z34 : Nat) (z35 : Nat) (z36 : Nat) (z37 : Nat) (z38 : Nat) (z39 : Nat) (z40 : Nat) (z41 : Nat) (z42 : Nat) (z13 : Nat) (z14 : Nat) (z15 : Nat) (z16 : Nat) (z17 : Nat) (z18 : Nat) (z43 : Nat) (sz : Nat) : Met l yX12_clear wsX12_clear ({ frames := 0, cells := 0, slots := 0, locals := 0 }) (va_Pc [.ref h0] (wB D G sz [(h0, .inr (12, [.ref z0, .ref z1, .ref z2, .ref z3, .ref z4, .ref z5, .ref z20, .ref z21, .ref z22, .ref z23, .ref z24, .ref z25, .int 0, .ref z26, .ref z27, .ref z28, .int 9, .int 0, .int 0, .ref z6, .ref z29, .ref z7, .int 0, .int 2, .ref z19, .ref z8, .ref z9, .ref z10, .int 0, .ref z11, .int 0, .ref z30, .ref z31, .ref z32, .ref z33, .int 0, .ref z12, .int 0, .int 0, .ref z34, .ref z35, .ref z36, .ref z37, .int 0, .int 0, .int 0, .int 0, .ref z38, .int 0, .ref z39, .ref z40, .ref z41, .ref z42, .int 0, .ref z13, .ref z14, .ref z15, .ref z16, .int 0, .ref z17, .ref z18, .ref z43]))])) (va_Qi (fun (r : Int32) (_ : Unit) => r = 0) (fun _ _ => True) (va_A [(h0, .inr (12, [.ref z0, .ref z1, .ref z2, .ref z3, .ref z4, .ref z5, .ref z20, .ref z21, .ref z22, .ref z23, .ref z24, .ref z25, .int 0, .ref z26, .ref z27, .ref z28, .int 9, .int 0, .int 0, .ref z6, .ref z29, .ref z7, .int 0, .int 2, .ref z19, .ref z8, .ref z9, .ref z10, .int 0, .ref z11, .int 0, .ref z30, .ref z31, .ref z32, .ref z33, .int 0, .ref z12, .int 0, .int 0, .ref z34, .ref z35, .ref z36, .ref z37, .int 0, .int 0, .int 0, .int 0, .ref z38, .int 0, .ref z39, .ref z40, .ref z41, .ref z42, .int 0, .ref z13, .ref z14, .ref z15, .ref z16, .int 0, .ref z17, .ref z18, .ref z43]))] sz)) 0 0 (va_A [(h0, .inr (12, [.ref z0, .ref z1, .ref z2, .ref z3, .ref z4, .ref z5, .ref z20, .ref z21, .ref z22, .ref z23, .ref z24, .ref z25, .int 0, .ref z26, .ref z27, .ref z28, .int 9, .int 0, .int 0, .ref z6, .ref z29, .ref z7, .int 0, .int 2, .ref z19, .ref z8, .ref z9, .ref z10, .int 0, .ref z11, .int 0, .ref z30, .ref z31, .ref z32, .ref z33, .int 0, .ref z12, .int 0, .int 0, .ref z34, .ref z35, .ref z36, .ref z37, .int 0, .int 0, .int 0, .int 0, .ref z38, .int 0, .ref z39, .ref z40, .ref z41, .ref z42, .int 0, .ref z13, .ref z14, .ref z15, .ref z16, .int 0, .ref z17, .ref z18, .ref z43]))] sz) := by
  refine Met.ofW (cc := cX12_clear) (maxL := 2) (ret := (some .int)) (by decide) rfl ?_
  intro p e s m args below meth c s₁ B hml hv
  obtain ⟨rfl, hsz, hP, hK, hD0, hN⟩ := hv
  have hx := B.exec
  have hb := B.bytes
  have hr := B.returns
  have hts := atoms_spec (ws := wsX12_clear) B.pre
  have hown : s.vm.findClass RX12 = some m.cls := findClass_of_methodNamed B.named
  have hlocks := B.notSynchronized
  subst hsz
  have hD := hD0.self (sz := s.heap.size)
  generalize hAe : va_A [(h0, .inr (12, [.ref z0, .ref z1, .ref z2, .ref z3, .ref z4, .ref z5, .ref z20, .ref z21, .ref z22, .ref z23, .ref z24, .ref z25, .int 0, .ref z26, .ref z27, .ref z28, .int 9, .int 0, .int 0, .ref z6, .ref z29, .ref z7, .int 0, .int 2, .ref z19, .ref z8, .ref z9, .ref z10, .int 0, .ref z11, .int 0, .ref z30, .ref z31, .ref z32, .ref z33, .int 0, .ref z12, .int 0, .int 0, .ref z34, .ref z35, .ref z36, .ref z37, .int 0, .int 0, .int 0, .int 0, .ref z38, .int 0, .ref z39, .ref z40, .ref z41, .ref z42, .int 0, .ref z13, .ref z14, .ref z15, .ref z16, .int 0, .ref z17, .ref z18, .ref z43]))] s.heap.size = A at hD ⊢
  have hA : ∀ q : Nat, s.heap.size ≤ q → A q := fun q h => by rw [← hAe]; exact Or.inr h
  have hS : va_S A s.heap s.heap [] := va_S.rf
  have hP : va_P D vwCl [(h0, .inr (12, [.ref z0, .ref z1, .ref z2, .ref z3, .ref z4, .ref z5, .ref z20, .ref z21, .ref z22, .ref z23, .ref z24, .ref z25, .int 0, .ref z26, .ref z27, .ref z28, .int 9, .int 0, .int 0, .ref z6, .ref z29, .ref z7, .int 0, .int 2, .ref z19, .ref z8, .ref z9, .ref z10, .int 0, .ref z11, .int 0, .ref z30, .ref z31, .ref z32, .ref z33, .int 0, .ref z12, .int 0, .int 0, .ref z34, .ref z35, .ref z36, .ref z37, .int 0, .int 0, .int 0, .int 0, .ref z38, .int 0, .ref z39, .ref z40, .ref z41, .ref z42, .int 0, .ref z13, .ref z14, .ref z15, .ref z16, .int 0, .ref z17, .ref z18, .ref z43]))] s.heap := hP
  have hl := lv_entry ([.ref h0]) (n := 2) (Nat.le_of_ble_eq_true rfl)
  rw [lg_entry_eq]
  generalize (lg_sl ([.ref h0]) ++ List.replicate (2 - (lg_sl ([.ref h0])).length) Slot.unset).toArray = ls at hl ⊢
  have hl : lv_has ls 2 [(0, .ref h0)] := hl
  refine lv_aload_n hx hb dX12_clear_0 rfl (lv_at hl 0 rfl) ?_
  refine lv_iconst (v := 0) hx hb dX12_clear_1 (by decide) ?_
  refine va_put (D := D) (ci := 12) (v := .int 0) (ty := (tyX12 38)) (C := RX12) (T := TX12) (N := 62) hx hb hts iX12_clear_X12 tyX12 tyX12_ok nmX12 hown hK hP hD hS 0 rfl rfl 38 (by decide) (hts (.fieldLink RX12 157 "PuppetBridgeModel" "thrown" "I") mX12_clear_w0) (fun _ h9 => h9) rfl (tyX12_ok 38 (by decide)) rfl rfl (Nat.le_of_ble_eq_true rfl) dX12_clear_2 (fun H locs hP hD hS => ?_)
  have hP : va_P D vwCl [(h0, .inr (12, [.ref z0, .ref z1, .ref z2, .ref z3, .ref z4, .ref z5, .ref z20, .ref z21, .ref z22, .ref z23, .ref z24, .ref z25, .int 0, .ref z26, .ref z27, .ref z28, .int 9, .int 0, .int 0, .ref z6, .ref z29, .ref z7, .int 0, .int 2, .ref z19, .ref z8, .ref z9, .ref z10, .int 0, .ref z11, .int 0, .ref z30, .ref z31, .ref z32, .ref z33, .int 0, .ref z12, .int 0, .int 0, .ref z34, .ref z35, .ref z36, .ref z37, .int 0, .int 0, .int 0, .int 0, .ref z38, .int 0, .ref z39, .ref z40, .ref z41, .ref z42, .int 0, .ref z13, .ref z14, .ref z15, .ref z16, .int 0, .ref z17, .ref z18, .ref z43]))] H := hP
  have hD : va_D A [(h0, .inr (12, [.ref z0, .ref z1, .ref z2, .ref z3, .ref z4, .ref z5, .ref z20, .ref z21, .ref z22, .ref z23, .ref z24, .ref z25, .int 0, .ref z26, .ref z27, .ref z28, .int 9, .int 0, .int 0, .ref z6, .ref z29, .ref z7, .int 0, .int 2, .ref z19, .ref z8, .ref z9, .ref z10, .int 0, .ref z11, .int 0, .ref z30, .ref z31, .ref z32, .ref z33, .int 0, .ref z12, .int 0, .int 0, .ref z34, .ref z35, .ref z36, .ref z37, .int 0, .int 0, .int 0, .int 0, .ref z38, .int 0, .ref z39, .ref z40, .ref z41, .ref z42, .int 0, .ref z13, .ref z14, .ref z15, .ref z16, .int 0, .ref z17, .ref z18, .ref z43]))] := hD
  refine lv_aload_n hx hb dX12_clear_5 rfl (lv_at hl 0 rfl) ?_
  refine va_get (D := D) (ci := 12) (v := .int 0) (C := RX12) (T := TX12) (N := 62) hx hb hts iX12_clear_X12 hown hK hP 0 rfl rfl 30 (by decide) (hts (.fieldLink RX12 300 "PuppetBridgeModel" "sceneMany" "I") mX12_clear_w1) (fun _ h9 => h9) rfl dX12_clear_6 ?_
  refine lv_istore_n (lv' := [(1, .int 0), (0, .ref h0)]) hx hb dX12_clear_9 rfl hl (by decide) rfl (fun ls hl => ?_)
  refine lv_aload_n hx hb dX12_clear_10 rfl (lv_at hl 1 rfl) ?_
  refine lv_iconst (v := 0) hx hb dX12_clear_11 (by decide) ?_
  refine va_put (D := D) (ci := 12) (v := .int 0) (ty := (tyX12 30)) (C := RX12) (T := TX12) (N := 62) hx hb hts iX12_clear_X12 tyX12 tyX12_ok nmX12 hown hK hP hD hS 0 rfl rfl 30 (by decide) (hts (.fieldLink RX12 300 "PuppetBridgeModel" "sceneMany" "I") mX12_clear_w1) (fun _ h9 => h9) rfl (tyX12_ok 30 (by decide)) rfl rfl (Nat.le_of_ble_eq_true rfl) dX12_clear_12 (fun H locs hP hD hS => ?_)
  have hP : va_P D vwCl [(h0, .inr (12, [.ref z0, .ref z1, .ref z2, .ref z3, .ref z4, .ref z5, .ref z20, .ref z21, .ref z22, .ref z23, .ref z24, .ref z25, .int 0, .ref z26, .ref z27, .ref z28, .int 9, .int 0, .int 0, .ref z6, .ref z29, .ref z7, .int 0, .int 2, .ref z19, .ref z8, .ref z9, .ref z10, .int 0, .ref z11, .int 0, .ref z30, .ref z31, .ref z32, .ref z33, .int 0, .ref z12, .int 0, .int 0, .ref z34, .ref z35, .ref z36, .ref z37, .int 0, .int 0, .int 0, .int 0, .ref z38, .int 0, .ref z39, .ref z40, .ref z41, .ref z42, .int 0, .ref z13, .ref z14, .ref z15, .ref z16, .int 0, .ref z17, .ref z18, .ref z43]))] H := hP
  have hD : va_D A [(h0, .inr (12, [.ref z0, .ref z1, .ref z2, .ref z3, .ref z4, .ref z5, .ref z20, .ref z21, .ref z22, .ref z23, .ref z24, .ref z25, .int 0, .ref z26, .ref z27, .ref z28, .int 9, .int 0, .int 0, .ref z6, .ref z29, .ref z7, .int 0, .int 2, .ref z19, .ref z8, .ref z9, .ref z10, .int 0, .ref z11, .int 0, .ref z30, .ref z31, .ref z32, .ref z33, .int 0, .ref z12, .int 0, .int 0, .ref z34, .ref z35, .ref z36, .ref z37, .int 0, .int 0, .int 0, .int 0, .ref z38, .int 0, .ref z39, .ref z40, .ref z41, .ref z42, .int 0, .ref z13, .ref z14, .ref z15, .ref z16, .int 0, .ref z17, .ref z18, .ref z43]))] := hD
  refine lv_aload_n hx hb dX12_clear_15 rfl (lv_at hl 1 rfl) ?_
  refine lv_iconst (v := 0) hx hb dX12_clear_16 (by decide) ?_
  refine va_put (D := D) (ci := 12) (v := .int 0) (ty := (tyX12 35)) (C := RX12) (T := TX12) (N := 62) hx hb hts iX12_clear_X12 tyX12 tyX12_ok nmX12 hown hK hP hD hS 0 rfl rfl 35 (by decide) (hts (.fieldLink RX12 303 "PuppetBridgeModel" "seenMany" "I") mX12_clear_w2) (fun _ h9 => h9) rfl (tyX12_ok 35 (by decide)) rfl rfl (Nat.le_of_ble_eq_true rfl) dX12_clear_17 (fun H locs hP hD hS => ?_)
  have hP : va_P D vwCl [(h0, .inr (12, [.ref z0, .ref z1, .ref z2, .ref z3, .ref z4, .ref z5, .ref z20, .ref z21, .ref z22, .ref z23, .ref z24, .ref z25, .int 0, .ref z26, .ref z27, .ref z28, .int 9, .int 0, .int 0, .ref z6, .ref z29, .ref z7, .int 0, .int 2, .ref z19, .ref z8, .ref z9, .ref z10, .int 0, .ref z11, .int 0, .ref z30, .ref z31, .ref z32, .ref z33, .int 0, .ref z12, .int 0, .int 0, .ref z34, .ref z35, .ref z36, .ref z37, .int 0, .int 0, .int 0, .int 0, .ref z38, .int 0, .ref z39, .ref z40, .ref z41, .ref z42, .int 0, .ref z13, .ref z14, .ref z15, .ref z16, .int 0, .ref z17, .ref z18, .ref z43]))] H := hP
  have hD : va_D A [(h0, .inr (12, [.ref z0, .ref z1, .ref z2, .ref z3, .ref z4, .ref z5, .ref z20, .ref z21, .ref z22, .ref z23, .ref z24, .ref z25, .int 0, .ref z26, .ref z27, .ref z28, .int 9, .int 0, .int 0, .ref z6, .ref z29, .ref z7, .int 0, .int 2, .ref z19, .ref z8, .ref z9, .ref z10, .int 0, .ref z11, .int 0, .ref z30, .ref z31, .ref z32, .ref z33, .int 0, .ref z12, .int 0, .int 0, .ref z34, .ref z35, .ref z36, .ref z37, .int 0, .int 0, .int 0, .int 0, .ref z38, .int 0, .ref z39, .ref z40, .ref z41, .ref z42, .int 0, .ref z13, .ref z14, .ref z15, .ref z16, .int 0, .ref z17, .ref z18, .ref z43]))] := hD
  refine lv_iload_n hx hb dX12_clear_20 rfl (lv_at hl 0 rfl) ?_
  exact W.iret (v := 0) hx hb hr (fun t ht hW => ⟨⟨0, (), rfl, rfl, trivial⟩, hS.F ht⟩) hS.2.2 dX12_clear_21

theorem mX12_seen_w0 : Cond.fieldLink RX12 157 "PuppetBridgeModel" "thrown" "I" ∈ wsX12_seen := by decide +kernel
theorem iX12_seen_X12 : ∀ w ∈ wsX120, w ∈ wsX12_seen := fun _ h => List.mem_cons_of_mem _ (List.mem_append_right _ h)
set_option maxRecDepth 20000 in
theorem ggX12_seen_X12_isLimb : GoodIn wsX12_seen wsX12_isLimb := goodIn_r _ [11, 12, 13, 14, 15, 10, 16, 17, 18, 19, 20, 21, 22, 23, 24, 25, 26, 27, 28, 29, 30, 31, 32, 33, 34, 35, 36, 37, 38, 39, 40, 41, 42, 43, 44, 45, 46, 47, 48, 49, 50, 51, 52, 53, 54, 55, 56, 57, 58, 59, 60, 61, 62, 63, 64, 65, 66, 67, 68, 69, 70, 71, 72, 73, 74, 75, 76, 77, 78, 79, 80, 81, 82] (by decide +kernel) (by decide +kernel)
set_option maxRecDepth 20000 in
theorem gX12_seen_X12_isLimb : GoodIn wsX12_seen (wsV RX12 178 RX12 yX12_isLimb wsX12_isLimb) := goodIn_app (goodIn_of _ (by decide +kernel)) ggX12_seen_X12_isLimb
theorem dX12_seen_0 : decode cX12_seen 0 = .ok (.aload_n 0, 1) := by decide +kernel
theorem dX12_seen_1 : decode cX12_seen 1 = .ok (.iconst 0, 1) := by decide +kernel
theorem dX12_seen_2 : decode cX12_seen 2 = .ok (.putfield 157, 3) := by decide +kernel
theorem dX12_seen_5 : decode cX12_seen 5 = .ok (.aload_n 0, 1) := by decide +kernel
theorem dX12_seen_6 : decode cX12_seen 6 = .ok (.iload_n 1, 1) := by decide +kernel
theorem dX12_seen_7 : decode cX12_seen 7 = .ok (.iload_n 3, 1) := by decide +kernel
theorem dX12_seen_8 : decode cX12_seen 8 = .ok (.invokevirtual 178, 3) := by decide +kernel
theorem dX12_seen_11 : decode cX12_seen 11 = .ok (.ifCond .eq 33, 3) := by decide +kernel
theorem dX12_seen_44 : decode cX12_seen 44 = .ok (.iconst (-1), 1) := by decide +kernel
theorem dX12_seen_45 : decode cX12_seen 45 = .ok (.ireturn, 1) := by decide +kernel
set_option maxHeartbeats 4000000 in
set_option maxRecDepth 100000 in
/-- X12_seen -/
theorem kX12_seen (l : Launch) (D : va_G) (G : tyG) (h0 : Nat) (x1 : Int32) (x2 : Int32) (x3 : Int32) (x4 : Int32) (z0 : Nat) (z1 : Nat) (z2 : Nat) (z3 : Nat) (z4 : Nat) (z5 : Nat) (z20 : Nat) (z21 : Nat) (z22 : Nat) (z23 : Nat) (z24 : Nat) (z25 : Nat) (z26 : Nat) (z27 : Nat) (z28 : Nat) (z6 : Nat) (z29 : Nat) (z7 : Nat) (z19 : Nat) (z8 : Nat) (z9 : Nat) (z10 : Nat) (z11 : Nat) (z30 : Nat) (z31 : Nat) (z32 : Nat) (z33 : Nat) (z12 : Nat) (z34 : Nat) (z35 : Nat) (z36 : Nat) (z37 : Nat) (z38 : Nat) (z39 : Nat) (z40 : Nat) (z41 : Nat) (z42 : Nat) (z13 : Nat) (z14 : Nat) (z15 : Nat) (z16 : Nat) (z17 : Nat) (z18 : Nat) (z43 : Nat) (sz : Nat) : Met l yX12_seen wsX12_seen ({ frames := 3, cells := 0, slots := 0, locals := 65 }) (va_Pc [.ref h0, .int x1, .int x2, .int x3, .int x4] (wB D G sz [(h0, .inr (12, [.ref z0, .ref z1, .ref z2, .ref z3, .ref z4, .ref z5, .ref z20, .ref z21, .ref z22, .ref z23, .ref z24, .ref z25, .int 0, .ref z26, .ref z27, .ref z28, .int 9, .int 0, .int 0, .ref z6, .ref z29, .ref z7, .int 0, .int 2, .ref z19, .ref z8, .ref z9, .ref z10, .int 0, .ref z11, .int 0, .ref z30, .ref z31, .ref z32, .ref z33, .int 0, .ref z12, .int 0, .int 0, .ref z34, .ref z35, .ref z36, .ref z37, .int 0, .int 0, .int 0, .int 0, .ref z38, .int 0, .ref z39, .ref z40, .ref z41, .ref z42, .int 0, .ref z13, .ref z14, .ref z15, .ref z16, .int 0, .ref z17, .ref z18, .ref z43]))])) (va_Qi (fun (r : Int32) (_ : Unit) => r = (-1)) (fun _ _ => True) (va_A [(h0, .inr (12, [.ref z0, .ref z1, .ref z2, .ref z3, .ref z4, .ref z5, .ref z20, .ref z21, .ref z22, .ref z23, .ref z24, .ref z25, .int 0, .ref z26, .ref z27, .ref z28, .int 9, .int 0, .int 0, .ref z6, .ref z29, .ref z7, .int 0, .int 2, .ref z19, .ref z8, .ref z9, .ref z10, .int 0, .ref z11, .int 0, .ref z30, .ref z31, .ref z32, .ref z33, .int 0, .ref z12, .int 0, .int 0, .ref z34, .ref z35, .ref z36, .ref z37, .int 0, .int 0, .int 0, .int 0, .ref z38, .int 0, .ref z39, .ref z40, .ref z41, .ref z42, .int 0, .ref z13, .ref z14, .ref z15, .ref z16, .int 0, .ref z17, .ref z18, .ref z43]))] sz)) 0 0 (va_A [(h0, .inr (12, [.ref z0, .ref z1, .ref z2, .ref z3, .ref z4, .ref z5, .ref z20, .ref z21, .ref z22, .ref z23, .ref z24, .ref z25, .int 0, .ref z26, .ref z27, .ref z28, .int 9, .int 0, .int 0, .ref z6, .ref z29, .ref z7, .int 0, .int 2, .ref z19, .ref z8, .ref z9, .ref z10, .int 0, .ref z11, .int 0, .ref z30, .ref z31, .ref z32, .ref z33, .int 0, .ref z12, .int 0, .int 0, .ref z34, .ref z35, .ref z36, .ref z37, .int 0, .int 0, .int 0, .int 0, .ref z38, .int 0, .ref z39, .ref z40, .ref z41, .ref z42, .int 0, .ref z13, .ref z14, .ref z15, .ref z16, .int 0, .ref z17, .ref z18, .ref z43]))] sz) := by
  refine Met.ofW (cc := cX12_seen) (maxL := 5) (ret := (some .int)) (by decide) rfl ?_
  intro p e s m args below meth c s₁ B hml hv
  obtain ⟨rfl, hsz, hP, hK, hD0, hN⟩ := hv
  have hx := B.exec
  have hb := B.bytes
  have hr := B.returns
  have hts := atoms_spec (ws := wsX12_seen) B.pre
  have hown : s.vm.findClass RX12 = some m.cls := findClass_of_methodNamed B.named
  have hlocks := B.notSynchronized
  subst hsz
  have hD := hD0.self (sz := s.heap.size)
  generalize hAe : va_A [(h0, .inr (12, [.ref z0, .ref z1, .ref z2, .ref z3, .ref z4, .ref z5, .ref z20, .ref z21, .ref z22, .ref z23, .ref z24, .ref z25, .int 0, .ref z26, .ref z27, .ref z28, .int 9, .int 0, .int 0, .ref z6, .ref z29, .ref z7, .int 0, .int 2, .ref z19, .ref z8, .ref z9, .ref z10, .int 0, .ref z11, .int 0, .ref z30, .ref z31, .ref z32, .ref z33, .int 0, .ref z12, .int 0, .int 0, .ref z34, .ref z35, .ref z36, .ref z37, .int 0, .int 0, .int 0, .int 0, .ref z38, .int 0, .ref z39, .ref z40, .ref z41, .ref z42, .int 0, .ref z13, .ref z14, .ref z15, .ref z16, .int 0, .ref z17, .ref z18, .ref z43]))] s.heap.size = A at hD ⊢
  have hA : ∀ q : Nat, s.heap.size ≤ q → A q := fun q h => by rw [← hAe]; exact Or.inr h
  have hS : va_S A s.heap s.heap [] := va_S.rf
  have hP : va_P D vwCl [(h0, .inr (12, [.ref z0, .ref z1, .ref z2, .ref z3, .ref z4, .ref z5, .ref z20, .ref z21, .ref z22, .ref z23, .ref z24, .ref z25, .int 0, .ref z26, .ref z27, .ref z28, .int 9, .int 0, .int 0, .ref z6, .ref z29, .ref z7, .int 0, .int 2, .ref z19, .ref z8, .ref z9, .ref z10, .int 0, .ref z11, .int 0, .ref z30, .ref z31, .ref z32, .ref z33, .int 0, .ref z12, .int 0, .int 0, .ref z34, .ref z35, .ref z36, .ref z37, .int 0, .int 0, .int 0, .int 0, .ref z38, .int 0, .ref z39, .ref z40, .ref z41, .ref z42, .int 0, .ref z13, .ref z14, .ref z15, .ref z16, .int 0, .ref z17, .ref z18, .ref z43]))] s.heap := hP
  have hl := lv_entry ([.ref h0, .int x1, .int x2, .int x3, .int x4]) (n := 5) (Nat.le_of_ble_eq_true rfl)
  rw [lg_entry_eq]
  generalize (lg_sl ([.ref h0, .int x1, .int x2, .int x3, .int x4]) ++ List.replicate (5 - (lg_sl ([.ref h0, .int x1, .int x2, .int x3, .int x4])).length) Slot.unset).toArray = ls at hl ⊢
  have hl : lv_has ls 5 [(0, .ref h0), (1, .int x1), (2, .int x2), (3, .int x3), (4, .int x4)] := hl
  refine lv_aload_n hx hb dX12_seen_0 rfl (lv_at hl 0 rfl) ?_
  refine lv_iconst (v := 0) hx hb dX12_seen_1 (by decide) ?_
  refine va_put (D := D) (ci := 12) (v := .int 0) (ty := (tyX12 38)) (C := RX12) (T := TX12) (N := 62) hx hb hts iX12_seen_X12 tyX12 tyX12_ok nmX12 hown hK hP hD hS 0 rfl rfl 38 (by decide) (hts (.fieldLink RX12 157 "PuppetBridgeModel" "thrown" "I") mX12_seen_w0) (fun _ h9 => h9) rfl (tyX12_ok 38 (by decide)) rfl rfl (Nat.le_of_ble_eq_true rfl) dX12_seen_2 (fun H locs hP hD hS => ?_)
  have hP : va_P D vwCl [(h0, .inr (12, [.ref z0, .ref z1, .ref z2, .ref z3, .ref z4, .ref z5, .ref z20, .ref z21, .ref z22, .ref z23, .ref z24, .ref z25, .int 0, .ref z26, .ref z27, .ref z28, .int 9, .int 0, .int 0, .ref z6, .ref z29, .ref z7, .int 0, .int 2, .ref z19, .ref z8, .ref z9, .ref z10, .int 0, .ref z11, .int 0, .ref z30, .ref z31, .ref z32, .ref z33, .int 0, .ref z12, .int 0, .int 0, .ref z34, .ref z35, .ref z36, .ref z37, .int 0, .int 0, .int 0, .int 0, .ref z38, .int 0, .ref z39, .ref z40, .ref z41, .ref z42, .int 0, .ref z13, .ref z14, .ref z15, .ref z16, .int 0, .ref z17, .ref z18, .ref z43]))] H := hP
  have hD : va_D A [(h0, .inr (12, [.ref z0, .ref z1, .ref z2, .ref z3, .ref z4, .ref z5, .ref z20, .ref z21, .ref z22, .ref z23, .ref z24, .ref z25, .int 0, .ref z26, .ref z27, .ref z28, .int 9, .int 0, .int 0, .ref z6, .ref z29, .ref z7, .int 0, .int 2, .ref z19, .ref z8, .ref z9, .ref z10, .int 0, .ref z11, .int 0, .ref z30, .ref z31, .ref z32, .ref z33, .int 0, .ref z12, .int 0, .int 0, .ref z34, .ref z35, .ref z36, .ref z37, .int 0, .int 0, .int 0, .int 0, .ref z38, .int 0, .ref z39, .ref z40, .ref z41, .ref z42, .int 0, .ref z13, .ref z14, .ref z15, .ref z16, .int 0, .ref z17, .ref z18, .ref z43]))] := hD
  refine lv_aload_n hx hb dX12_seen_5 rfl (lv_at hl 0 rfl) ?_
  refine lv_iload_n hx hb dX12_seen_6 rfl (lv_at hl 1 rfl) ?_
  refine lv_iload_n hx hb dX12_seen_7 rfl (lv_at hl 3 rfl) ?_
  have hPc := hP.sub (ws' := [(h0, .inr (12, [.ref z0, .ref z1, .ref z2, .ref z3, .ref z4, .ref z5, .ref z20, .ref z21, .ref z22, .ref z23, .ref z24, .ref z25, .int 0, .ref z26, .ref z27, .ref z28, .int 9, .int 0, .int 0, .ref z6, .ref z29, .ref z7, .int 0, .int 2, .ref z19, .ref z8, .ref z9, .ref z10, .int 0, .ref z11, .int 0, .ref z30, .ref z31, .ref z32, .ref z33, .int 0, .ref z12, .int 0, .int 0, .ref z34, .ref z35, .ref z36, .ref z37, .int 0, .int 0, .int 0, .int 0, .ref z38, .int 0, .ref z39, .ref z40, .ref z41, .ref z42, .int 0, .ref z13, .ref z14, .ref z15, .ref z16, .int 0, .ref z17, .ref z18, .ref z43]))]) [0] rfl
  have hDc := hD.sub (ws' := [(h0, .inr (12, [.ref z0, .ref z1, .ref z2, .ref z3, .ref z4, .ref z5, .ref z20, .ref z21, .ref z22, .ref z23, .ref z24, .ref z25, .int 0, .ref z26, .ref z27, .ref z28, .int 9, .int 0, .int 0, .ref z6, .ref z29, .ref z7, .int 0, .int 2, .ref z19, .ref z8, .ref z9, .ref z10, .int 0, .ref z11, .int 0, .ref z30, .ref z31, .ref z32, .ref z33, .int 0, .ref z12, .int 0, .int 0, .ref z34, .ref z35, .ref z36, .ref z37, .int 0, .int 0, .int 0, .int 0, .ref z38, .int 0, .ref z39, .ref z40, .ref z41, .ref z42, .int 0, .ref z13, .ref z14, .ref z15, .ref z16, .int 0, .ref z17, .ref z18, .ref z43]))]) [0] (by decide) rfl
  have hFc := va_free (wc := [(h0, .inr (12, [.ref z0, .ref z1, .ref z2, .ref z3, .ref z4, .ref z5, .ref z20, .ref z21, .ref z22, .ref z23, .ref z24, .ref z25, .int 0, .ref z26, .ref z27, .ref z28, .int 9, .int 0, .int 0, .ref z6, .ref z29, .ref z7, .int 0, .int 2, .ref z19, .ref z8, .ref z9, .ref z10, .int 0, .ref z11, .int 0, .ref z30, .ref z31, .ref z32, .ref z33, .int 0, .ref z12, .int 0, .int 0, .ref z34, .ref z35, .ref z36, .ref z37, .int 0, .int 0, .int 0, .int 0, .ref z38, .int 0, .ref z39, .ref z40, .ref z41, .ref z42, .int 0, .ref z13, .ref z14, .ref z15, .ref z16, .int 0, .ref z17, .ref z18, .ref z43]))]) hD hS hA [0] rfl
  refine va_calli (va_runV (As := [.int x1, .int x3]) (rest := []) ⟨hx, hb, hml, hown, hts⟩ (kX12_isLimb l D G h0 x1 x3 z0 z1 z2 z3 z4 z5 z20 z21 z22 z23 z24 z25 z26 z27 z28 z6 z29 z7 z19 z8 z9 z10 z11 z30 z31 z32 z33 z12 z34 z35 z36 z37 z38 z39 z40 z41 z42 z13 z14 z15 z16 z17 z18 z43 H.size) (cwV 2 hts gX12_seen_X12_isLimb rfl rfl rfl (by decide +kernel) ⟨Nat.le_of_ble_eq_true rfl, Nat.le_of_ble_eq_true rfl⟩) ⟨wB_blind, va_recv hK hPc (ci := 12) (q0 := 0) rfl rfl, wB_pre hPc hK hDc hN⟩ rfl rfl hl.1 rfl (lv_room (Nat.le_of_ble_eq_true rfl)) dX12_seen_8 ⟨Nat.le_of_ble_eq_true rfl, Nat.le_of_ble_eq_true rfl⟩) hS (fun q _ h => hFc q h) hFc (fun r1 u t H1 locs ht hvm hr1 hB hz1 hk1 hS => ?_)
  obtain ⟨hP1, hK1, hD1⟩ := hB
  rw [ht] at hP1
  obtain ⟨hP, hD⟩ := va_join (wr := []) (w1 := [(h0, .inr (12, [.ref z0, .ref z1, .ref z2, .ref z3, .ref z4, .ref z5, .ref z20, .ref z21, .ref z22, .ref z23, .ref z24, .ref z25, .int 0, .ref z26, .ref z27, .ref z28, .int 9, .int 0, .int 0, .ref z6, .ref z29, .ref z7, .int 0, .int 2, .ref z19, .ref z8, .ref z9, .ref z10, .int 0, .ref z11, .int 0, .ref z30, .ref z31, .ref z32, .ref z33, .int 0, .ref z12, .int 0, .int 0, .ref z34, .ref z35, .ref z36, .ref z37, .int 0, .int 0, .int 0, .int 0, .ref z38, .int 0, .ref z39, .ref z40, .ref z41, .ref z42, .int 0, .ref z13, .ref z14, .ref z15, .ref z16, .int 0, .ref z17, .ref z18, .ref z43]))]) hP hD [0] [] rfl rfl (by decide) (by decide) hk1 hFc hP1 hD1
  clear hPc hDc
  generalize H1 = H at hP hS ⊢
  have hP : va_P D vwCl [(h0, .inr (12, [.ref z0, .ref z1, .ref z2, .ref z3, .ref z4, .ref z5, .ref z20, .ref z21, .ref z22, .ref z23, .ref z24, .ref z25, .int 0, .ref z26, .ref z27, .ref z28, .int 9, .int 0, .int 0, .ref z6, .ref z29, .ref z7, .int 0, .int 2, .ref z19, .ref z8, .ref z9, .ref z10, .int 0, .ref z11, .int 0, .ref z30, .ref z31, .ref z32, .ref z33, .int 0, .ref z12, .int 0, .int 0, .ref z34, .ref z35, .ref z36, .ref z37, .int 0, .int 0, .int 0, .int 0, .ref z38, .int 0, .ref z39, .ref z40, .ref z41, .ref z42, .int 0, .ref z13, .ref z14, .ref z15, .ref z16, .int 0, .ref z17, .ref z18, .ref z43]))] H := hP
  have hD : va_D A [(h0, .inr (12, [.ref z0, .ref z1, .ref z2, .ref z3, .ref z4, .ref z5, .ref z20, .ref z21, .ref z22, .ref z23, .ref z24, .ref z25, .int 0, .ref z26, .ref z27, .ref z28, .int 9, .int 0, .int 0, .ref z6, .ref z29, .ref z7, .int 0, .int 2, .ref z19, .ref z8, .ref z9, .ref z10, .int 0, .ref z11, .int 0, .ref z30, .ref z31, .ref z32, .ref z33, .int 0, .ref z12, .int 0, .int 0, .ref z34, .ref z35, .ref z36, .ref z37, .int 0, .int 0, .int 0, .int 0, .ref z38, .int 0, .ref z39, .ref z40, .ref z41, .ref z42, .int 0, .ref z13, .ref z14, .ref z15, .ref z16, .int 0, .ref z17, .ref z18, .ref z43]))] := hD
  subst hr1
  refine lv_if_eq (tgt := 44) hx hb dX12_seen_11 (by decide) (fun _ => ?_) (fun h9 => absurd h9 (by decide))
  refine lv_iconst (v := (-1)) hx hb dX12_seen_44 (by decide) ?_
  exact W.iret (v := (-1)) hx hb hr (fun t ht hW => ⟨⟨(-1), (), rfl, rfl, trivial⟩, hS.F ht⟩) hS.2.2 dX12_seen_45

theorem mX12_broken_w0 : Cond.fieldLink RX12 157 "PuppetBridgeModel" "thrown" "I" ∈ wsX12_broken := by decide +kernel
theorem iX12_broken_X12 : ∀ w ∈ wsX120, w ∈ wsX12_broken := fun _ h => List.mem_cons_of_mem _ (List.mem_append_right _ h)
set_option maxRecDepth 20000 in
theorem ggX12_broken_X12_isFigure : GoodIn wsX12_broken wsX12_isFigure := goodIn_r _ [9, 10, 11, 12, 8, 13, 67, 68, 69, 70, 71, 72, 73, 74, 75, 76, 77, 78, 79, 80, 81, 82, 83, 84, 85, 86, 87, 88, 89, 90, 91, 92, 93, 94, 95, 96, 97, 98, 99, 100, 101, 102, 103, 104, 105, 106, 107, 108, 109, 110, 111, 112, 113, 114, 115, 116, 117, 118, 119, 120, 121, 122, 123, 124, 125, 126, 127, 128] (by decide +kernel) (by decide +kernel)
set_option maxRecDepth 20000 in
theorem gX12_broken_X12_isFigure : GoodIn wsX12_broken (wsV RX12 167 RX12 yX12_isFigure wsX12_isFigure) := goodIn_app (goodIn_of _ (by decide +kernel)) ggX12_broken_X12_isFigure
theorem dX12_broken_0 : decode cX12_broken 0 = .ok (.aload_n 0, 1) := by decide +kernel
theorem dX12_broken_1 : decode cX12_broken 1 = .ok (.iconst 0, 1) := by decide +kernel
theorem dX12_broken_2 : decode cX12_broken 2 = .ok (.putfield 157, 3) := by decide +kernel
theorem dX12_broken_5 : decode cX12_broken 5 = .ok (.aload_n 0, 1) := by decide +kernel
theorem dX12_broken_6 : decode cX12_broken 6 = .ok (.iload_n 1, 1) := by decide +kernel
theorem dX12_broken_7 : decode cX12_broken 7 = .ok (.invokevirtual 167, 3) := by decide +kernel
theorem dX12_broken_10 : decode cX12_broken 10 = .ok (.ifCond .ne 5, 3) := by decide +kernel
theorem dX12_broken_13 : decode cX12_broken 13 = .ok (.iconst (-1), 1) := by decide +kernel
theorem dX12_broken_14 : decode cX12_broken 14 = .ok (.ireturn, 1) := by decide +kernel
set_option maxHeartbeats 4000000 in
set_option maxRecDepth 100000 in
/-- X12_broken -/
theorem kX12_broken (l : Launch) (D : va_G) (G : tyG) (h0 : Nat) (x1 : Int32) (z0 : Nat) (z1 : Nat) (z2 : Nat) (z3 : Nat) (z4 : Nat) (z5 : Nat) (z20 : Nat) (z21 : Nat) (z22 : Nat) (z23 : Nat) (z24 : Nat) (z25 : Nat) (z26 : Nat) (z27 : Nat) (z28 : Nat) (z6 : Nat) (z29 : Nat) (z7 : Nat) (z19 : Nat) (z8 : Nat) (z9 : Nat) (z10 : Nat) (z11 : Nat) (z30 : Nat) (z31 : Nat) (z32 : Nat) (z33 : Nat) (z12 : Nat) (z34 : Nat) (z35 : Nat) (z36 : Nat) (z37 : Nat) (z38 : Nat) (z39 : Nat) (z40 : Nat) (z41 : Nat) (z42 : Nat) (z13 : Nat) (z14 : Nat) (z15 : Nat) (z16 : Nat) (z17 : Nat) (z18 : Nat) (z43 : Nat) (sz : Nat) : Met l yX12_broken wsX12_broken ({ frames := 2, cells := 0, slots := 0, locals := 43 }) (va_Pc [.ref h0, .int x1] (wB D G sz [(h0, .inr (12, [.ref z0, .ref z1, .ref z2, .ref z3, .ref z4, .ref z5, .ref z20, .ref z21, .ref z22, .ref z23, .ref z24, .ref z25, .int 0, .ref z26, .ref z27, .ref z28, .int 9, .int 0, .int 0, .ref z6, .ref z29, .ref z7, .int 0, .int 2, .ref z19, .ref z8, .ref z9, .ref z10, .int 0, .ref z11, .int 0, .ref z30, .ref z31, .ref z32, .ref z33, .int 0, .ref z12, .int 0, .int 0, .ref z34, .ref z35, .ref z36, .ref z37, .int 0, .int 0, .int 0, .int 0, .ref z38, .int 0, .ref z39, .ref z40, .ref z41, .ref z42, .int 0, .ref z13, .ref z14, .ref z15, .ref z16, .int 0, .ref z17, .ref z18, .ref z43]))])) (va_Qi (fun (r : Int32) (_ : Unit) => r = (-1)) (fun _ _ => True) (va_A [(h0, .inr (12, [.ref z0, .ref z1, .ref z2, .ref z3, .ref z4, .ref z5, .ref z20, .ref z21, .ref z22, .ref z23, .ref z24, .ref z25, .int 0, .ref z26, .ref z27, .ref z28, .int 9, .int 0, .int 0, .ref z6, .ref z29, .ref z7, .int 0, .int 2, .ref z19, .ref z8, .ref z9, .ref z10, .int 0, .ref z11, .int 0, .ref z30, .ref z31, .ref z32, .ref z33, .int 0, .ref z12, .int 0, .int 0, .ref z34, .ref z35, .ref z36, .ref z37, .int 0, .int 0, .int 0, .int 0, .ref z38, .int 0, .ref z39, .ref z40, .ref z41, .ref z42, .int 0, .ref z13, .ref z14, .ref z15, .ref z16, .int 0, .ref z17, .ref z18, .ref z43]))] sz)) 0 0 (va_A [(h0, .inr (12, [.ref z0, .ref z1, .ref z2, .ref z3, .ref z4, .ref z5, .ref z20, .ref z21, .ref z22, .ref z23, .ref z24, .ref z25, .int 0, .ref z26, .ref z27, .ref z28, .int 9, .int 0, .int 0, .ref z6, .ref z29, .ref z7, .int 0, .int 2, .ref z19, .ref z8, .ref z9, .ref z10, .int 0, .ref z11, .int 0, .ref z30, .ref z31, .ref z32, .ref z33, .int 0, .ref z12, .int 0, .int 0, .ref z34, .ref z35, .ref z36, .ref z37, .int 0, .int 0, .int 0, .int 0, .ref z38, .int 0, .ref z39, .ref z40, .ref z41, .ref z42, .int 0, .ref z13, .ref z14, .ref z15, .ref z16, .int 0, .ref z17, .ref z18, .ref z43]))] sz) := by
  refine Met.ofW (cc := cX12_broken) (maxL := 7) (ret := (some .int)) (by decide) rfl ?_
  intro p e s m args below meth c s₁ B hml hv
  obtain ⟨rfl, hsz, hP, hK, hD0, hN⟩ := hv
  have hx := B.exec
  have hb := B.bytes
  have hr := B.returns
  have hts := atoms_spec (ws := wsX12_broken) B.pre
  have hown : s.vm.findClass RX12 = some m.cls := findClass_of_methodNamed B.named
  have hlocks := B.notSynchronized
  subst hsz
  have hD := hD0.self (sz := s.heap.size)
  generalize hAe : va_A [(h0, .inr (12, [.ref z0, .ref z1, .ref z2, .ref z3, .ref z4, .ref z5, .ref z20, .ref z21, .ref z22, .ref z23, .ref z24, .ref z25, .int 0, .ref z26, .ref z27, .ref z28, .int 9, .int 0, .int 0, .ref z6, .ref z29, .ref z7, .int 0, .int 2, .ref z19, .ref z8, .ref z9, .ref z10, .int 0, .ref z11, .int 0, .ref z30, .ref z31, .ref z32, .ref z33, .int 0, .ref z12, .int 0, .int 0, .ref z34, .ref z35, .ref z36, .ref z37, .int 0, .int 0, .int 0, .int 0, .ref z38, .int 0, .ref z39, .ref z40, .ref z41, .ref z42, .int 0, .ref z13, .ref z14, .ref z15, .ref z16, .int 0, .ref z17, .ref z18, .ref z43]))] s.heap.size = A at hD ⊢
  have hA : ∀ q : Nat, s.heap.size ≤ q → A q := fun q h => by rw [← hAe]; exact Or.inr h
  have hS : va_S A s.heap s.heap [] := va_S.rf
  have hP : va_P D vwCl [(h0, .inr (12, [.ref z0, .ref z1, .ref z2, .ref z3, .ref z4, .ref z5, .ref z20, .ref z21, .ref z22, .ref z23, .ref z24, .ref z25, .int 0, .ref z26, .ref z27, .ref z28, .int 9, .int 0, .int 0, .ref z6, .ref z29, .ref z7, .int 0, .int 2, .ref z19, .ref z8, .ref z9, .ref z10, .int 0, .ref z11, .int 0, .ref z30, .ref z31, .ref z32, .ref z33, .int 0, .ref z12, .int 0, .int 0, .ref z34, .ref z35, .ref z36, .ref z37, .int 0, .int 0, .int 0, .int 0, .ref z38, .int 0, .ref z39, .ref z40, .ref z41, .ref z42, .int 0, .ref z13, .ref z14, .ref z15, .ref z16, .int 0, .ref z17, .ref z18, .ref z43]))] s.heap := hP
  have hl := lv_entry ([.ref h0, .int x1]) (n := 7) (Nat.le_of_ble_eq_true rfl)
  rw [lg_entry_eq]
  generalize (lg_sl ([.ref h0, .int x1]) ++ List.replicate (7 - (lg_sl ([.ref h0, .int x1])).length) Slot.unset).toArray = ls at hl ⊢
  have hl : lv_has ls 7 [(0, .ref h0), (1, .int x1)] := hl
  refine lv_aload_n hx hb dX12_broken_0 rfl (lv_at hl 0 rfl) ?_
  refine lv_iconst (v := 0) hx hb dX12_broken_1 (by decide) ?_
  refine va_put (D := D) (ci := 12) (v := .int 0) (ty := (tyX12 38)) (C := RX12) (T := TX12) (N := 62) hx hb hts iX12_broken_X12 tyX12 tyX12_ok nmX12 hown hK hP hD hS 0 rfl rfl 38 (by decide) (hts (.fieldLink RX12 157 "PuppetBridgeModel" "thrown" "I") mX12_broken_w0) (fun _ h9 => h9) rfl (tyX12_ok 38 (by decide)) rfl rfl (Nat.le_of_ble_eq_true rfl) dX12_broken_2 (fun H locs hP hD hS => ?_)
  have hP : va_P D vwCl [(h0, .inr (12, [.ref z0, .ref z1, .ref z2, .ref z3, .ref z4, .ref z5, .ref z20, .ref z21, .ref z22, .ref z23, .ref z24, .ref z25, .int 0, .ref z26, .ref z27, .ref z28, .int 9, .int 0, .int 0, .ref z6, .ref z29, .ref z7, .int 0, .int 2, .ref z19, .ref z8, .ref z9, .ref z10, .int 0, .ref z11, .int 0, .ref z30, .ref z31, .ref z32, .ref z33, .int 0, .ref z12, .int 0, .int 0, .ref z34, .ref z35, .ref z36, .ref z37, .int 0, .int 0, .int 0, .int 0, .ref z38, .int 0, .ref z39, .ref z40, .ref z41, .ref z42, .int 0, .ref z13, .ref z14, .ref z15, .ref z16, .int 0, .ref z17, .ref z18, .ref z43]))] H := hP
  have hD : va_D A [(h0, .inr (12, [.ref z0, .ref z1, .ref z2, .ref z3, .ref z4, .ref z5, .ref z20, .ref z21, .ref z22, .ref z23, .ref z24, .ref z25, .int 0, .ref z26, .ref z27, .ref z28, .int 9, .int 0, .int 0, .ref z6, .ref z29, .ref z7, .int 0, .int 2, .ref z19, .ref z8, .ref z9, .ref z10, .int 0, .ref z11, .int 0, .ref z30, .ref z31, .ref z32, .ref z33, .int 0, .ref z12, .int 0, .int 0, .ref z34, .ref z35, .ref z36, .ref z37, .int 0, .int 0, .int 0, .int 0, .ref z38, .int 0, .ref z39, .ref z40, .ref z41, .ref z42, .int 0, .ref z13, .ref z14, .ref z15, .ref z16, .int 0, .ref z17, .ref z18, .ref z43]))] := hD
  refine lv_aload_n hx hb dX12_broken_5 rfl (lv_at hl 0 rfl) ?_
  refine lv_iload_n hx hb dX12_broken_6 rfl (lv_at hl 1 rfl) ?_
  have hPc := hP.sub (ws' := [(h0, .inr (12, [.ref z0, .ref z1, .ref z2, .ref z3, .ref z4, .ref z5, .ref z20, .ref z21, .ref z22, .ref z23, .ref z24, .ref z25, .int 0, .ref z26, .ref z27, .ref z28, .int 9, .int 0, .int 0, .ref z6, .ref z29, .ref z7, .int 0, .int 2, .ref z19, .ref z8, .ref z9, .ref z10, .int 0, .ref z11, .int 0, .ref z30, .ref z31, .ref z32, .ref z33, .int 0, .ref z12, .int 0, .int 0, .ref z34, .ref z35, .ref z36, .ref z37, .int 0, .int 0, .int 0, .int 0, .ref z38, .int 0, .ref z39, .ref z40, .ref z41, .ref z42, .int 0, .ref z13, .ref z14, .ref z15, .ref z16, .int 0, .ref z17, .ref z18, .ref z43]))]) [0] rfl
  have hDc := hD.sub (ws' := [(h0, .inr (12, [.ref z0, .ref z1, .ref z2, .ref z3, .ref z4, .ref z5, .ref z20, .ref z21, .ref z22, .ref z23, .ref z24, .ref z25, .int 0, .ref z26, .ref z27, .ref z28, .int 9, .int 0, .int 0, .ref z6, .ref z29, .ref z7, .int 0, .int 2, .ref z19, .ref z8, .ref z9, .ref z10, .int 0, .ref z11, .int 0, .ref z30, .ref z31, .ref z32, .ref z33, .int 0, .ref z12, .int 0, .int 0, .ref z34, .ref z35, .ref z36, .ref z37, .int 0, .int 0, .int 0, .int 0, .ref z38, .int 0, .ref z39, .ref z40, .ref z41, .ref z42, .int 0, .ref z13, .ref z14, .ref z15, .ref z16, .int 0, .ref z17, .ref z18, .ref z43]))]) [0] (by decide) rfl
  have hFc := va_free (wc := [(h0, .inr (12, [.ref z0, .ref z1, .ref z2, .ref z3, .ref z4, .ref z5, .ref z20, .ref z21, .ref z22, .ref z23, .ref z24, .ref z25, .int 0, .ref z26, .ref z27, .ref z28, .int 9, .int 0, .int 0, .ref z6, .ref z29, .ref z7, .int 0, .int 2, .ref z19, .ref z8, .ref z9, .ref z10, .int 0, .ref z11, .int 0, .ref z30, .ref z31, .ref z32, .ref z33, .int 0, .ref z12, .int 0, .int 0, .ref z34, .ref z35, .ref z36, .ref z37, .int 0, .int 0, .int 0, .int 0, .ref z38, .int 0, .ref z39, .ref z40, .ref z41, .ref z42, .int 0, .ref z13, .ref z14, .ref z15, .ref z16, .int 0, .ref z17, .ref z18, .ref z43]))]) hD hS hA [0] rfl
  refine va_calli (va_runV (As := [.int x1]) (rest := []) ⟨hx, hb, hml, hown, hts⟩ (kX12_isFigure l D G h0 x1 z0 z1 z2 z3 z4 z5 z20 z21 z22 z23 z24 z25 z26 z27 z28 z6 z29 z7 z19 z8 z9 z10 z11 z30 z31 z32 z33 z12 z34 z35 z36 z37 z38 z39 z40 z41 z42 z13 z14 z15 z16 z17 z18 z43 H.size) (cwV 1 hts gX12_broken_X12_isFigure rfl rfl rfl (by decide +kernel) ⟨Nat.le_of_ble_eq_true rfl, Nat.le_of_ble_eq_true rfl⟩) ⟨wB_blind, va_recv hK hPc (ci := 12) (q0 := 0) rfl rfl, wB_pre hPc hK hDc hN⟩ rfl rfl hl.1 rfl (lv_room (Nat.le_of_ble_eq_true rfl)) dX12_broken_7 ⟨Nat.le_of_ble_eq_true rfl, Nat.le_of_ble_eq_true rfl⟩) hS (fun q _ h => hFc q h) hFc (fun r1 u t H1 locs ht hvm hr1 hB hz1 hk1 hS => ?_)
  obtain ⟨hP1, hK1, hD1⟩ := hB
  rw [ht] at hP1
  obtain ⟨hP, hD⟩ := va_join (wr := []) (w1 := [(h0, .inr (12, [.ref z0, .ref z1, .ref z2, .ref z3, .ref z4, .ref z5, .ref z20, .ref z21, .ref z22, .ref z23, .ref z24, .ref z25, .int 0, .ref z26, .ref z27, .ref z28, .int 9, .int 0, .int 0, .ref z6, .ref z29, .ref z7, .int 0, .int 2, .ref z19, .ref z8, .ref z9, .ref z10, .int 0, .ref z11, .int 0, .ref z30, .ref z31, .ref z32, .ref z33, .int 0, .ref z12, .int 0, .int 0, .ref z34, .ref z35, .ref z36, .ref z37, .int 0, .int 0, .int 0, .int 0, .ref z38, .int 0, .ref z39, .ref z40, .ref z41, .ref z42, .int 0, .ref z13, .ref z14, .ref z15, .ref z16, .int 0, .ref z17, .ref z18, .ref z43]))]) hP hD [0] [] rfl rfl (by decide) (by decide) hk1 hFc hP1 hD1
  clear hPc hDc
  generalize H1 = H at hP hS ⊢
  have hP : va_P D vwCl [(h0, .inr (12, [.ref z0, .ref z1, .ref z2, .ref z3, .ref z4, .ref z5, .ref z20, .ref z21, .ref z22, .ref z23, .ref z24, .ref z25, .int 0, .ref z26, .ref z27, .ref z28, .int 9, .int 0, .int 0, .ref z6, .ref z29, .ref z7, .int 0, .int 2, .ref z19, .ref z8, .ref z9, .ref z10, .int 0, .ref z11, .int 0, .ref z30, .ref z31, .ref z32, .ref z33, .int 0, .ref z12, .int 0, .int 0, .ref z34, .ref z35, .ref z36, .ref z37, .int 0, .int 0, .int 0, .int 0, .ref z38, .int 0, .ref z39, .ref z40, .ref z41, .ref z42, .int 0, .ref z13, .ref z14, .ref z15, .ref z16, .int 0, .ref z17, .ref z18, .ref z43]))] H := hP
  have hD : va_D A [(h0, .inr (12, [.ref z0, .ref z1, .ref z2, .ref z3, .ref z4, .ref z5, .ref z20, .ref z21, .ref z22, .ref z23, .ref z24, .ref z25, .int 0, .ref z26, .ref z27, .ref z28, .int 9, .int 0, .int 0, .ref z6, .ref z29, .ref z7, .int 0, .int 2, .ref z19, .ref z8, .ref z9, .ref z10, .int 0, .ref z11, .int 0, .ref z30, .ref z31, .ref z32, .ref z33, .int 0, .ref z12, .int 0, .int 0, .ref z34, .ref z35, .ref z36, .ref z37, .int 0, .int 0, .int 0, .int 0, .ref z38, .int 0, .ref z39, .ref z40, .ref z41, .ref z42, .int 0, .ref z13, .ref z14, .ref z15, .ref z16, .int 0, .ref z17, .ref z18, .ref z43]))] := hD
  subst hr1
  refine lv_if_ne (tgt := 15) hx hb dX12_broken_10 (by decide) (fun h9 => absurd h9 (by decide)) (fun _ => ?_)
  refine lv_iconst (v := (-1)) hx hb dX12_broken_13 (by decide) ?_
  exact W.iret (v := (-1)) hx hb hr (fun t ht hW => ⟨⟨(-1), (), rfl, rfl, trivial⟩, hS.F ht⟩) hS.2.2 dX12_broken_14

theorem mX12_of_w0 : Cond.fieldLink RX12 157 "PuppetBridgeModel" "thrown" "I" ∈ wsX12_of := by decide +kernel
theorem iX12_of_X12 : ∀ w ∈ wsX120, w ∈ wsX12_of := fun _ h => List.mem_cons_of_mem _ (List.mem_append_right _ h)
set_option maxRecDepth 20000 in
theorem ggX12_of_X12_isFigure : GoodIn wsX12_of wsX12_isFigure := goodIn_r _ [10, 11, 12, 13, 9, 14, 59, 60, 61, 62, 63, 64, 65, 66, 67, 68, 69, 70, 71, 72, 73, 74, 75, 76, 77, 78, 79, 80, 81, 82, 83, 84, 85, 86, 87, 88, 89, 90, 91, 92, 93, 94, 95, 96, 97, 98, 99, 100, 101, 102, 103, 104, 105, 106, 107, 108, 109, 110, 111, 112, 113, 114, 115, 116, 117, 118, 119, 120] (by decide +kernel) (by decide +kernel)
set_option maxRecDepth 20000 in
theorem gX12_of_X12_isFigure : GoodIn wsX12_of (wsV RX12 167 RX12 yX12_isFigure wsX12_isFigure) := goodIn_app (goodIn_of _ (by decide +kernel)) ggX12_of_X12_isFigure
set_option maxRecDepth 20000 in
theorem ggX12_of_X12_lost : GoodIn wsX12_of wsX12_lost := goodIn_r _ [18, 1, 59, 60, 61, 62, 63, 64, 65, 66, 67, 68, 69, 70, 71, 72, 73, 74, 75, 76, 77, 78, 79, 80, 81, 82, 83, 84, 85, 86, 87, 88, 89, 90, 91, 92, 93, 94, 95, 96, 97, 98, 99, 100, 101, 102, 103, 104, 105, 106, 107, 108, 109, 110, 111, 112, 113, 114, 115, 116, 117, 118, 119, 120] (by decide +kernel) (by decide +kernel)
set_option maxRecDepth 20000 in
theorem gX12_of_X12_lost : GoodIn wsX12_of (wsV RX12 247 RX12 yX12_lost wsX12_lost) := goodIn_app (goodIn_of _ (by decide +kernel)) ggX12_of_X12_lost
theorem dX12_of_0 : decode cX12_of 0 = .ok (.aload_n 0, 1) := by decide +kernel
theorem dX12_of_1 : decode cX12_of 1 = .ok (.iconst 0, 1) := by decide +kernel
theorem dX12_of_2 : decode cX12_of 2 = .ok (.putfield 157, 3) := by decide +kernel
theorem dX12_of_5 : decode cX12_of 5 = .ok (.aload_n 0, 1) := by decide +kernel
theorem dX12_of_6 : decode cX12_of 6 = .ok (.iload_n 1, 1) := by decide +kernel
theorem dX12_of_7 : decode cX12_of 7 = .ok (.invokevirtual 167, 3) := by decide +kernel
theorem dX12_of_10 : decode cX12_of 10 = .ok (.ifCond .eq 13, 3) := by decide +kernel
theorem dX12_of_23 : decode cX12_of 23 = .ok (.aload_n 0, 1) := by decide +kernel
theorem dX12_of_24 : decode cX12_of 24 = .ok (.invokevirtual 247, 3) := by decide +kernel
theorem dX12_of_27 : decode cX12_of 27 = .ok (.ireturn, 1) := by decide +kernel
set_option maxHeartbeats 4000000 in
set_option maxRecDepth 100000 in
/-- X12_of -/
theorem kX12_of (l : Launch) (D : va_G) (G : tyG) (h0 : Nat) (x1 : Int32) (x2 : Int32) (z0 : Nat) (z1 : Nat) (z2 : Nat) (z3 : Nat) (z4 : Nat) (z5 : Nat) (z20 : Nat) (z21 : Nat) (z22 : Nat) (z23 : Nat) (z24 : Nat) (z25 : Nat) (z26 : Nat) (z27 : Nat) (z28 : Nat) (z6 : Nat) (z29 : Nat) (z7 : Nat) (z19 : Nat) (z8 : Nat) (z9 : Nat) (z10 : Nat) (z11 : Nat) (z30 : Nat) (z31 : Nat) (z32 : Nat) (z33 : Nat) (z12 : Nat) (z34 : Nat) (z35 : Nat) (z36 : Nat) (z37 : Nat) (z38 : Nat) (z39 : Nat) (z40 : Nat) (z41 : Nat) (z42 : Nat) (z13 : Nat) (z14 : Nat) (z15 : Nat) (z16 : Nat) (z17 : Nat) (z18 : Nat) (z43 : Nat) (sz : Nat) : Met l yX12_of wsX12_of ({ frames := 2, cells := 0, slots := 0, locals := 43 }) (va_Pc [.ref h0, .int x1, .int x2] (wB D G sz [(h0, .inr (12, [.ref z0, .ref z1, .ref z2, .ref z3, .ref z4, .ref z5, .ref z20, .ref z21, .ref z22, .ref z23, .ref z24, .ref z25, .int 0, .ref z26, .ref z27, .ref z28, .int 9, .int 0, .int 0, .ref z6, .ref z29, .ref z7, .int 0, .int 2, .ref z19, .ref z8, .ref z9, .ref z10, .int 0, .ref z11, .int 0, .ref z30, .ref z31, .ref z32, .ref z33, .int 0, .ref z12, .int 0, .int 0, .ref z34, .ref z35, .ref z36, .ref z37, .int 0, .int 0, .int 0, .int 0, .ref z38, .int 0, .ref z39, .ref z40, .ref z41, .ref z42, .int 0, .ref z13, .ref z14, .ref z15, .ref z16, .int 0, .ref z17, .ref z18, .ref z43]))])) (va_Qi (fun (r : Int32) (_ : Unit) => r = 0) (fun _ t => wS D G (va_A [(h0, .inr (12, [.ref z0, .ref z1, .ref z2, .ref z3, .ref z4, .ref z5, .ref z20, .ref z21, .ref z22, .ref z23, .ref z24, .ref z25, .int 0, .ref z26, .ref z27, .ref z28, .int 9, .int 0, .int 0, .ref z6, .ref z29, .ref z7, .int 0, .int 2, .ref z19, .ref z8, .ref z9, .ref z10, .int 0, .ref z11, .int 0, .ref z30, .ref z31, .ref z32, .ref z33, .int 0, .ref z12, .int 0, .int 0, .ref z34, .ref z35, .ref z36, .ref z37, .int 0, .int 0, .int 0, .int 0, .ref z38, .int 0, .ref z39, .ref z40, .ref z41, .ref z42, .int 0, .ref z13, .ref z14, .ref z15, .ref z16, .int 0, .ref z17, .ref z18, .ref z43]))] sz) [(h0, .inr (12, [.ref z0, .ref z1, .ref z2, .ref z3, .ref z4, .ref z5, .ref z20, .ref z21, .ref z22, .ref z23, .ref z24, .ref z25, .int 0, .ref z26, .ref z27, .ref z28, .int 9, .int 0, .int 0, .ref z6, .ref z29, .ref z7, .int 0, .int 2, .ref z19, .ref z8, .ref z9, .ref z10, .int 0, .ref z11, .int 0, .ref z30, .ref z31, .ref z32, .ref z33, .int 0, .ref z12, .int 0, .int 1, .ref z34, .ref z35, .ref z36, .ref z37, .int 0, .int 0, .int 0, .int 0, .ref z38, .int 0, .ref z39, .ref z40, .ref z41, .ref z42, .int 0, .ref z13, .ref z14, .ref z15, .ref z16, .int 0, .ref z17, .ref z18, .ref z43]))] t) (va_A [(h0, .inr (12, [.ref z0, .ref z1, .ref z2, .ref z3, .ref z4, .ref z5, .ref z20, .ref z21, .ref z22, .ref z23, .ref z24, .ref z25, .int 0, .ref z26, .ref z27, .ref z28, .int 9, .int 0, .int 0, .ref z6, .ref z29, .ref z7, .int 0, .int 2, .ref z19, .ref z8, .ref z9, .ref z10, .int 0, .ref z11, .int 0, .ref z30, .ref z31, .ref z32, .ref z33, .int 0, .ref z12, .int 0, .int 0, .ref z34, .ref z35, .ref z36, .ref z37, .int 0, .int 0, .int 0, .int 0, .ref z38, .int 0, .ref z39, .ref z40, .ref z41, .ref z42, .int 0, .ref z13, .ref z14, .ref z15, .ref z16, .int 0, .ref z17, .ref z18, .ref z43]))] sz)) 0 0 (va_A [(h0, .inr (12, [.ref z0, .ref z1, .ref z2, .ref z3, .ref z4, .ref z5, .ref z20, .ref z21, .ref z22, .ref z23, .ref z24, .ref z25, .int 0, .ref z26, .ref z27, .ref z28, .int 9, .int 0, .int 0, .ref z6, .ref z29, .ref z7, .int 0, .int 2, .ref z19, .ref z8, .ref z9, .ref z10, .int 0, .ref z11, .int 0, .ref z30, .ref z31, .ref z32, .ref z33, .int 0, .ref z12, .int 0, .int 0, .ref z34, .ref z35, .ref z36, .ref z37, .int 0, .int 0, .int 0, .int 0, .ref z38, .int 0, .ref z39, .ref z40, .ref z41, .ref z42, .int 0, .ref z13, .ref z14, .ref z15, .ref z16, .int 0, .ref z17, .ref z18, .ref z43]))] sz) := by
  refine Met.ofW (cc := cX12_of) (maxL := 5) (ret := (some .int)) (by decide) rfl ?_
  intro p e s m args below meth c s₁ B hml hv
  obtain ⟨rfl, hsz, hP, hK, hD0, hN⟩ := hv
  have hx := B.exec
  have hb := B.bytes
  have hr := B.returns
  have hts := atoms_spec (ws := wsX12_of) B.pre
  have hown : s.vm.findClass RX12 = some m.cls := findClass_of_methodNamed B.named
  have hlocks := B.notSynchronized
  subst hsz
  have hD := hD0.self (sz := s.heap.size)
  generalize hAe : va_A [(h0, .inr (12, [.ref z0, .ref z1, .ref z2, .ref z3, .ref z4, .ref z5, .ref z20, .ref z21, .ref z22, .ref z23, .ref z24, .ref z25, .int 0, .ref z26, .ref z27, .ref z28, .int 9, .int 0, .int 0, .ref z6, .ref z29, .ref z7, .int 0, .int 2, .ref z19, .ref z8, .ref z9, .ref z10, .int 0, .ref z11, .int 0, .ref z30, .ref z31, .ref z32, .ref z33, .int 0, .ref z12, .int 0, .int 0, .ref z34, .ref z35, .ref z36, .ref z37, .int 0, .int 0, .int 0, .int 0, .ref z38, .int 0, .ref z39, .ref z40, .ref z41, .ref z42, .int 0, .ref z13, .ref z14, .ref z15, .ref z16, .int 0, .ref z17, .ref z18, .ref z43]))] s.heap.size = A at hD ⊢
  have hA : ∀ q : Nat, s.heap.size ≤ q → A q := fun q h => by rw [← hAe]; exact Or.inr h
  have hS : va_S A s.heap s.heap [] := va_S.rf
  have hP : va_P D vwCl [(h0, .inr (12, [.ref z0, .ref z1, .ref z2, .ref z3, .ref z4, .ref z5, .ref z20, .ref z21, .ref z22, .ref z23, .ref z24, .ref z25, .int 0, .ref z26, .ref z27, .ref z28, .int 9, .int 0, .int 0, .ref z6, .ref z29, .ref z7, .int 0, .int 2, .ref z19, .ref z8, .ref z9, .ref z10, .int 0, .ref z11, .int 0, .ref z30, .ref z31, .ref z32, .ref z33, .int 0, .ref z12, .int 0, .int 0, .ref z34, .ref z35, .ref z36, .ref z37, .int 0, .int 0, .int 0, .int 0, .ref z38, .int 0, .ref z39, .ref z40, .ref z41, .ref z42, .int 0, .ref z13, .ref z14, .ref z15, .ref z16, .int 0, .ref z17, .ref z18, .ref z43]))] s.heap := hP
  have hl := lv_entry ([.ref h0, .int x1, .int x2]) (n := 5) (Nat.le_of_ble_eq_true rfl)
  rw [lg_entry_eq]
  generalize (lg_sl ([.ref h0, .int x1, .int x2]) ++ List.replicate (5 - (lg_sl ([.ref h0, .int x1, .int x2])).length) Slot.unset).toArray = ls at hl ⊢
  have hl : lv_has ls 5 [(0, .ref h0), (1, .int x1), (2, .int x2)] := hl
  refine lv_aload_n hx hb dX12_of_0 rfl (lv_at hl 0 rfl) ?_
  refine lv_iconst (v := 0) hx hb dX12_of_1 (by decide) ?_
  refine va_put (D := D) (ci := 12) (v := .int 0) (ty := (tyX12 38)) (C := RX12) (T := TX12) (N := 62) hx hb hts iX12_of_X12 tyX12 tyX12_ok nmX12 hown hK hP hD hS 0 rfl rfl 38 (by decide) (hts (.fieldLink RX12 157 "PuppetBridgeModel" "thrown" "I") mX12_of_w0) (fun _ h9 => h9) rfl (tyX12_ok 38 (by decide)) rfl rfl (Nat.le_of_ble_eq_true rfl) dX12_of_2 (fun H locs hP hD hS => ?_)
  have hP : va_P D vwCl [(h0, .inr (12, [.ref z0, .ref z1, .ref z2, .ref z3, .ref z4, .ref z5, .ref z20, .ref z21, .ref z22, .ref z23, .ref z24, .ref z25, .int 0, .ref z26, .ref z27, .ref z28, .int 9, .int 0, .int 0, .ref z6, .ref z29, .ref z7, .int 0, .int 2, .ref z19, .ref z8, .ref z9, .ref z10, .int 0, .ref z11, .int 0, .ref z30, .ref z31, .ref z32, .ref z33, .int 0, .ref z12, .int 0, .int 0, .ref z34, .ref z35, .ref z36, .ref z37, .int 0, .int 0, .int 0, .int 0, .ref z38, .int 0, .ref z39, .ref z40, .ref z41, .ref z42, .int 0, .ref z13, .ref z14, .ref z15, .ref z16, .int 0, .ref z17, .ref z18, .ref z43]))] H := hP
  have hD : va_D A [(h0, .inr (12, [.ref z0, .ref z1, .ref z2, .ref z3, .ref z4, .ref z5, .ref z20, .ref z21, .ref z22, .ref z23, .ref z24, .ref z25, .int 0, .ref z26, .ref z27, .ref z28, .int 9, .int 0, .int 0, .ref z6, .ref z29, .ref z7, .int 0, .int 2, .ref z19, .ref z8, .ref z9, .ref z10, .int 0, .ref z11, .int 0, .ref z30, .ref z31, .ref z32, .ref z33, .int 0, .ref z12, .int 0, .int 0, .ref z34, .ref z35, .ref z36, .ref z37, .int 0, .int 0, .int 0, .int 0, .ref z38, .int 0, .ref z39, .ref z40, .ref z41, .ref z42, .int 0, .ref z13, .ref z14, .ref z15, .ref z16, .int 0, .ref z17, .ref z18, .ref z43]))] := hD
  refine lv_aload_n hx hb dX12_of_5 rfl (lv_at hl 0 rfl) ?_
  refine lv_iload_n hx hb dX12_of_6 rfl (lv_at hl 1 rfl) ?_
  have hPc := hP.sub (ws' := [(h0, .inr (12, [.ref z0, .ref z1, .ref z2, .ref z3, .ref z4, .ref z5, .ref z20, .ref z21, .ref z22, .ref z23, .ref z24, .ref z25, .int 0, .ref z26, .ref z27, .ref z28, .int 9, .int 0, .int 0, .ref z6, .ref z29, .ref z7, .int 0, .int 2, .ref z19, .ref z8, .ref z9, .ref z10, .int 0, .ref z11, .int 0, .ref z30, .ref z31, .ref z32, .ref z33, .int 0, .ref z12, .int 0, .int 0, .ref z34, .ref z35, .ref z36, .ref z37, .int 0, .int 0, .int 0, .int 0, .ref z38, .int 0, .ref z39, .ref z40, .ref z41, .ref z42, .int 0, .ref z13, .ref z14, .ref z15, .ref z16, .int 0, .ref z17, .ref z18, .ref z43]))]) [0] rfl
  have hDc := hD.sub (ws' := [(h0, .inr (12, [.ref z0, .ref z1, .ref z2, .ref z3, .ref z4, .ref z5, .ref z20, .ref z21, .ref z22, .ref z23, .ref z24, .ref z25, .int 0, .ref z26, .ref z27, .ref z28, .int 9, .int 0, .int 0, .ref z6, .ref z29, .ref z7, .int 0, .int 2, .ref z19, .ref z8, .ref z9, .ref z10, .int 0, .ref z11, .int 0, .ref z30, .ref z31, .ref z32, .ref z33, .int 0, .ref z12, .int 0, .int 0, .ref z34, .ref z35, .ref z36, .ref z37, .int 0, .int 0, .int 0, .int 0, .ref z38, .int 0, .ref z39, .ref z40, .ref z41, .ref z42, .int 0, .ref z13, .ref z14, .ref z15, .ref z16, .int 0, .ref z17, .ref z18, .ref z43]))]) [0] (by decide) rfl
  have hFc := va_free (wc := [(h0, .inr (12, [.ref z0, .ref z1, .ref z2, .ref z3, .ref z4, .ref z5, .ref z20, .ref z21, .ref z22, .ref z23, .ref z24, .ref z25, .int 0, .ref z26, .ref z27, .ref z28, .int 9, .int 0, .int 0, .ref z6, .ref z29, .ref z7, .int 0, .int 2, .ref z19, .ref z8, .ref z9, .ref z10, .int 0, .ref z11, .int 0, .ref z30, .ref z31, .ref z32, .ref z33, .int 0, .ref z12, .int 0, .int 0, .ref z34, .ref z35, .ref z36, .ref z37, .int 0, .int 0, .int 0, .int 0, .ref z38, .int 0, .ref z39, .ref z40, .ref z41, .ref z42, .int 0, .ref z13, .ref z14, .ref z15, .ref z16, .int 0, .ref z17, .ref z18, .ref z43]))]) hD hS hA [0] rfl
  refine va_calli (va_runV (As := [.int x1]) (rest := []) ⟨hx, hb, hml, hown, hts⟩ (kX12_isFigure l D G h0 x1 z0 z1 z2 z3 z4 z5 z20 z21 z22 z23 z24 z25 z26 z27 z28 z6 z29 z7 z19 z8 z9 z10 z11 z30 z31 z32 z33 z12 z34 z35 z36 z37 z38 z39 z40 z41 z42 z13 z14 z15 z16 z17 z18 z43 H.size) (cwV 1 hts gX12_of_X12_isFigure rfl rfl rfl (by decide +kernel) ⟨Nat.le_of_ble_eq_true rfl, Nat.le_of_ble_eq_true rfl⟩) ⟨wB_blind, va_recv hK hPc (ci := 12) (q0 := 0) rfl rfl, wB_pre hPc hK hDc hN⟩ rfl rfl hl.1 rfl (lv_room (Nat.le_of_ble_eq_true rfl)) dX12_of_7 ⟨Nat.le_of_ble_eq_true rfl, Nat.le_of_ble_eq_true rfl⟩) hS (fun q _ h => hFc q h) hFc (fun r1 u t H1 locs ht hvm hr1 hB hz1 hk1 hS => ?_)
  obtain ⟨hP1, hK1, hD1⟩ := hB
  rw [ht] at hP1
  obtain ⟨hP, hD⟩ := va_join (wr := []) (w1 := [(h0, .inr (12, [.ref z0, .ref z1, .ref z2, .ref z3, .ref z4, .ref z5, .ref z20, .ref z21, .ref z22, .ref z23, .ref z24, .ref z25, .int 0, .ref z26, .ref z27, .ref z28, .int 9, .int 0, .int 0, .ref z6, .ref z29, .ref z7, .int 0, .int 2, .ref z19, .ref z8, .ref z9, .ref z10, .int 0, .ref z11, .int 0, .ref z30, .ref z31, .ref z32, .ref z33, .int 0, .ref z12, .int 0, .int 0, .ref z34, .ref z35, .ref z36, .ref z37, .int 0, .int 0, .int 0, .int 0, .ref z38, .int 0, .ref z39, .ref z40, .ref z41, .ref z42, .int 0, .ref z13, .ref z14, .ref z15, .ref z16, .int 0, .ref z17, .ref z18, .ref z43]))]) hP hD [0] [] rfl rfl (by decide) (by decide) hk1 hFc hP1 hD1
  clear hPc hDc
  generalize H1 = H at hP hS ⊢
  have hP : va_P D vwCl [(h0, .inr (12, [.ref z0, .ref z1, .ref z2, .ref z3, .ref z4, .ref z5, .ref z20, .ref z21, .ref z22, .ref z23, .ref z24, .ref z25, .int 0, .ref z26, .ref z27, .ref z28, .int 9, .int 0, .int 0, .ref z6, .ref z29, .ref z7, .int 0, .int 2, .ref z19, .ref z8, .ref z9, .ref z10, .int 0, .ref z11, .int 0, .ref z30, .ref z31, .ref z32, .ref z33, .int 0, .ref z12, .int 0, .int 0, .ref z34, .ref z35, .ref z36, .ref z37, .int 0, .int 0, .int 0, .int 0, .ref z38, .int 0, .ref z39, .ref z40, .ref z41, .ref z42, .int 0, .ref z13, .ref z14, .ref z15, .ref z16, .int 0, .ref z17, .ref z18, .ref z43]))] H := hP
  have hD : va_D A [(h0, .inr (12, [.ref z0, .ref z1, .ref z2, .ref z3, .ref z4, .ref z5, .ref z20, .ref z21, .ref z22, .ref z23, .ref z24, .ref z25, .int 0, .ref z26, .ref z27, .ref z28, .int 9, .int 0, .int 0, .ref z6, .ref z29, .ref z7, .int 0, .int 2, .ref z19, .ref z8, .ref z9, .ref z10, .int 0, .ref z11, .int 0, .ref z30, .ref z31, .ref z32, .ref z33, .int 0, .ref z12, .int 0, .int 0, .ref z34, .ref z35, .ref z36, .ref z37, .int 0, .int 0, .int 0, .int 0, .ref z38, .int 0, .ref z39, .ref z40, .ref z41, .ref z42, .int 0, .ref z13, .ref z14, .ref z15, .ref z16, .int 0, .ref z17, .ref z18, .ref z43]))] := hD
  subst hr1
  refine lv_if_eq (tgt := 23) hx hb dX12_of_10 (by decide) (fun _ => ?_) (fun h9 => absurd h9 (by decide))
  refine lv_aload_n hx hb dX12_of_23 rfl (lv_at hl 0 rfl) ?_
  have hPc := hP.sub (ws' := [(h0, .inr (12, [.ref z0, .ref z1, .ref z2, .ref z3, .ref z4, .ref z5, .ref z20, .ref z21, .ref z22, .ref z23, .ref z24, .ref z25, .int 0, .ref z26, .ref z27, .ref z28, .int 9, .int 0, .int 0, .ref z6, .ref z29, .ref z7, .int 0, .int 2, .ref z19, .ref z8, .ref z9, .ref z10, .int 0, .ref z11, .int 0, .ref z30, .ref z31, .ref z32, .ref z33, .int 0, .ref z12, .int 0, .int 0, .ref z34, .ref z35, .ref z36, .ref z37, .int 0, .int 0, .int 0, .int 0, .ref z38, .int 0, .ref z39, .ref z40, .ref z41, .ref z42, .int 0, .ref z13, .ref z14, .ref z15, .ref z16, .int 0, .ref z17, .ref z18, .ref z43]))]) [0] rfl
  have hDc := hD.sub (ws' := [(h0, .inr (12, [.ref z0, .ref z1, .ref z2, .ref z3, .ref z4, .ref z5, .ref z20, .ref z21, .ref z22, .ref z23, .ref z24, .ref z25, .int 0, .ref z26, .ref z27, .ref z28, .int 9, .int 0, .int 0, .ref z6, .ref z29, .ref z7, .int 0, .int 2, .ref z19, .ref z8, .ref z9, .ref z10, .int 0, .ref z11, .int 0, .ref z30, .ref z31, .ref z32, .ref z33, .int 0, .ref z12, .int 0, .int 0, .ref z34, .ref z35, .ref z36, .ref z37, .int 0, .int 0, .int 0, .int 0, .ref z38, .int 0, .ref z39, .ref z40, .ref z41, .ref z42, .int 0, .ref z13, .ref z14, .ref z15, .ref z16, .int 0, .ref z17, .ref z18, .ref z43]))]) [0] (by decide) rfl
  have hFc := va_free (wc := [(h0, .inr (12, [.ref z0, .ref z1, .ref z2, .ref z3, .ref z4, .ref z5, .ref z20, .ref z21, .ref z22, .ref z23, .ref z24, .ref z25, .int 0, .ref z26, .ref z27, .ref z28, .int 9, .int 0, .int 0, .ref z6, .ref z29, .ref z7, .int 0, .int 2, .ref z19, .ref z8, .ref z9, .ref z10, .int 0, .ref z11, .int 0, .ref z30, .ref z31, .ref z32, .ref z33, .int 0, .ref z12, .int 0, .int 0, .ref z34, .ref z35, .ref z36, .ref z37, .int 0, .int 0, .int 0, .int 0, .ref z38, .int 0, .ref z39, .ref z40, .ref z41, .ref z42, .int 0, .ref z13, .ref z14, .ref z15, .ref z16, .int 0, .ref z17, .ref z18, .ref z43]))]) hD hS hA [0] rfl
  refine va_calli (va_runV (As := []) (rest := []) ⟨hx, hb, hml, hown, hts⟩ (kX12_lost l D G h0 z0 z1 z2 z3 z4 z5 z20 z21 z22 z23 z24 z25 z26 z27 z28 z6 z29 z7 z19 z8 z9 z10 z11 z30 z31 z32 z33 z12 z34 z35 z36 z37 z38 z39 z40 z41 z42 z13 z14 z15 z16 z17 z18 z43 H.size) (cwV 0 hts gX12_of_X12_lost rfl rfl rfl (by decide +kernel) ⟨Nat.le_of_ble_eq_true rfl, Nat.le_of_ble_eq_true rfl⟩) ⟨wB_blind, va_recv hK hPc (ci := 12) (q0 := 0) rfl rfl, wB_pre hPc hK hDc hN⟩ rfl rfl hl.1 rfl (lv_room (Nat.le_of_ble_eq_true rfl)) dX12_of_24 ⟨Nat.le_of_ble_eq_true rfl, Nat.le_of_ble_eq_true rfl⟩) hS (fun q _ h => hFc q h) hFc (fun r2 u t H1 locs ht hvm hr2 hB hz1 hk1 hS => ?_)
  obtain ⟨hP1, hK1, hD1⟩ := hB
  rw [ht] at hP1
  obtain ⟨hP, hD⟩ := va_join (wr := []) (w1 := [(h0, .inr (12, [.ref z0, .ref z1, .ref z2, .ref z3, .ref z4, .ref z5, .ref z20, .ref z21, .ref z22, .ref z23, .ref z24, .ref z25, .int 0, .ref z26, .ref z27, .ref z28, .int 9, .int 0, .int 0, .ref z6, .ref z29, .ref z7, .int 0, .int 2, .ref z19, .ref z8, .ref z9, .ref z10, .int 0, .ref z11, .int 0, .ref z30, .ref z31, .ref z32, .ref z33, .int 0, .ref z12, .int 0, .int 1, .ref z34, .ref z35, .ref z36, .ref z37, .int 0, .int 0, .int 0, .int 0, .ref z38, .int 0, .ref z39, .ref z40, .ref z41, .ref z42, .int 0, .ref z13, .ref z14, .ref z15, .ref z16, .int 0, .ref z17, .ref z18, .ref z43]))]) hP hD [0] [] rfl rfl (by decide) (by decide) hk1 hFc hP1 hD1
  clear hPc hDc
  generalize H1 = H at hP hS ⊢
  have hP : va_P D vwCl [(h0, .inr (12, [.ref z0, .ref z1, .ref z2, .ref z3, .ref z4, .ref z5, .ref z20, .ref z21, .ref z22, .ref z23, .ref z24, .ref z25, .int 0, .ref z26, .ref z27, .ref z28, .int 9, .int 0, .int 0, .ref z6, .ref z29, .ref z7, .int 0, .int 2, .ref z19, .ref z8, .ref z9, .ref z10, .int 0, .ref z11, .int 0, .ref z30, .ref z31, .ref z32, .ref z33, .int 0, .ref z12, .int 0, .int 1, .ref z34, .ref z35, .ref z36, .ref z37, .int 0, .int 0, .int 0, .int 0, .ref z38, .int 0, .ref z39, .ref z40, .ref z41, .ref z42, .int 0, .ref z13, .ref z14, .ref z15, .ref z16, .int 0, .ref z17, .ref z18, .ref z43]))] H := hP
  have hD : va_D A [(h0, .inr (12, [.ref z0, .ref z1, .ref z2, .ref z3, .ref z4, .ref z5, .ref z20, .ref z21, .ref z22, .ref z23, .ref z24, .ref z25, .int 0, .ref z26, .ref z27, .ref z28, .int 9, .int 0, .int 0, .ref z6, .ref z29, .ref z7, .int 0, .int 2, .ref z19, .ref z8, .ref z9, .ref z10, .int 0, .ref z11, .int 0, .ref z30, .ref z31, .ref z32, .ref z33, .int 0, .ref z12, .int 0, .int 1, .ref z34, .ref z35, .ref z36, .ref z37, .int 0, .int 0, .int 0, .int 0, .ref z38, .int 0, .ref z39, .ref z40, .ref z41, .ref z42, .int 0, .ref z13, .ref z14, .ref z15, .ref z16, .int 0, .ref z17, .ref z18, .ref z43]))] := hD
  subst hr2
  have hP9 := hP.sub (ws' := [(h0, .inr (12, [.ref z0, .ref z1, .ref z2, .ref z3, .ref z4, .ref z5, .ref z20, .ref z21, .ref z22, .ref z23, .ref z24, .ref z25, .int 0, .ref z26, .ref z27, .ref z28, .int 9, .int 0, .int 0, .ref z6, .ref z29, .ref z7, .int 0, .int 2, .ref z19, .ref z8, .ref z9, .ref z10, .int 0, .ref z11, .int 0, .ref z30, .ref z31, .ref z32, .ref z33, .int 0, .ref z12, .int 0, .int 1, .ref z34, .ref z35, .ref z36, .ref z37, .int 0, .int 0, .int 0, .int 0, .ref z38, .int 0, .ref z39, .ref z40, .ref z41, .ref z42, .int 0, .ref z13, .ref z14, .ref z15, .ref z16, .int 0, .ref z17, .ref z18, .ref z43]))]) [0] rfl
  have hD9 := hD.sub (ws' := [(h0, .inr (12, [.ref z0, .ref z1, .ref z2, .ref z3, .ref z4, .ref z5, .ref z20, .ref z21, .ref z22, .ref z23, .ref z24, .ref z25, .int 0, .ref z26, .ref z27, .ref z28, .int 9, .int 0, .int 0, .ref z6, .ref z29, .ref z7, .int 0, .int 2, .ref z19, .ref z8, .ref z9, .ref z10, .int 0, .ref z11, .int 0, .ref z30, .ref z31, .ref z32, .ref z33, .int 0, .ref z12, .int 0, .int 1, .ref z34, .ref z35, .ref z36, .ref z37, .int 0, .int 0, .int 0, .int 0, .ref z38, .int 0, .ref z39, .ref z40, .ref z41, .ref z42, .int 0, .ref z13, .ref z14, .ref z15, .ref z16, .int 0, .ref z17, .ref z18, .ref z43]))]) [0] (by decide) rfl
  exact W.iret (v := 0) hx hb hr (fun t ht hW => ⟨⟨0, (), rfl, rfl, ⟨by rw [ht]; exact hP9, va_K.moved hW.alike hK, hD9⟩⟩, hS.F ht⟩) hS.2.2 dX12_of_27

theorem mX12_at_w0 : Cond.fieldLink RX12 157 "PuppetBridgeModel" "thrown" "I" ∈ wsX12_at := by decide +kernel
theorem iX12_at_X12 : ∀ w ∈ wsX120, w ∈ wsX12_at := fun _ h => List.mem_cons_of_mem _ (List.mem_append_right _ h)
set_option maxRecDepth 20000 in
theorem ggX12_at_X12_isLimb : GoodIn wsX12_at wsX12_isLimb := goodIn_r _ [9, 10, 11, 12, 13, 8, 14, 15, 16, 17, 18, 58, 59, 60, 61, 62, 63, 64, 65, 66, 67, 68, 69, 70, 71, 72, 73, 74, 75, 76, 77, 78, 79, 80, 81, 82, 83, 84, 85, 86, 87, 88, 89, 90, 91, 92, 93, 94, 95, 96, 97, 98, 99, 100, 101, 102, 103, 104, 105, 106, 107, 108, 109, 110, 111, 112, 113, 114, 115, 116, 117, 118, 119] (by decide +kernel) (by decide +kernel)
set_option maxRecDepth 20000 in
theorem gX12_at_X12_isLimb : GoodIn wsX12_at (wsV RX12 178 RX12 yX12_isLimb wsX12_isLimb) := goodIn_app (goodIn_of _ (by decide +kernel)) ggX12_at_X12_isLimb
set_option maxRecDepth 20000 in
theorem ggX12_at_X12_lost : GoodIn wsX12_at wsX12_lost := goodIn_r _ [22, 1, 58, 59, 60, 61, 62, 63, 64, 65, 66, 67, 68, 69, 70, 71, 72, 73, 74, 75, 76, 77, 78, 79, 80, 81, 82, 83, 84, 85, 86, 87, 88, 89, 90, 91, 92, 93, 94, 95, 96, 97, 98, 99, 100, 101, 102, 103, 104, 105, 106, 107, 108, 109, 110, 111, 112, 113, 114, 115, 116, 117, 118, 119] (by decide +kernel) (by decide +kernel)
set_option maxRecDepth 20000 in
theorem gX12_at_X12_lost : GoodIn wsX12_at (wsV RX12 247 RX12 yX12_lost wsX12_lost) := goodIn_app (goodIn_of _ (by decide +kernel)) ggX12_at_X12_lost
theorem dX12_at_0 : decode cX12_at 0 = .ok (.aload_n 0, 1) := by decide +kernel
theorem dX12_at_1 : decode cX12_at 1 = .ok (.iconst 0, 1) := by decide +kernel
theorem dX12_at_2 : decode cX12_at 2 = .ok (.putfield 157, 3) := by decide +kernel
theorem dX12_at_5 : decode cX12_at 5 = .ok (.aload_n 0, 1) := by decide +kernel
theorem dX12_at_6 : decode cX12_at 6 = .ok (.iload_n 1, 1) := by decide +kernel
theorem dX12_at_7 : decode cX12_at 7 = .ok (.iload_n 2, 1) := by decide +kernel
theorem dX12_at_8 : decode cX12_at 8 = .ok (.invokevirtual 178, 3) := by decide +kernel
theorem dX12_at_11 : decode cX12_at 11 = .ok (.ifCond .eq 12, 3) := by decide +kernel
theorem dX12_at_23 : decode cX12_at 23 = .ok (.aload_n 0, 1) := by decide +kernel
theorem dX12_at_24 : decode cX12_at 24 = .ok (.invokevirtual 247, 3) := by decide +kernel
theorem dX12_at_27 : decode cX12_at 27 = .ok (.ireturn, 1) := by decide +kernel
set_option maxHeartbeats 4000000 in
set_option maxRecDepth 100000 in
/-- X12_at -/
theorem kX12_at (l : Launch) (D : va_G) (G : tyG) (h0 : Nat) (x1 : Int32) (x2 : Int32) (x3 : Int32) (z0 : Nat) (z1 : Nat) (z2 : Nat) (z3 : Nat) (z4 : Nat) (z5 : Nat) (z20 : Nat) (z21 : Nat) (z22 : Nat) (z23 : Nat) (z24 : Nat) (z25 : Nat) (z26 : Nat) (z27 : Nat) (z28 : Nat) (z6 : Nat) (z29 : Nat) (z7 : Nat) (z19 : Nat) (z8 : Nat) (z9 : Nat) (z10 : Nat) (z11 : Nat) (z30 : Nat) (z31 : Nat) (z32 : Nat) (z33 : Nat) (z12 : Nat) (z34 : Nat) (z35 : Nat) (z36 : Nat) (z37 : Nat) (z38 : Nat) (z39 : Nat) (z40 : Nat) (z41 : Nat) (z42 : Nat) (z13 : Nat) (z14 : Nat) (z15 : Nat) (z16 : Nat) (z17 : Nat) (z18 : Nat) (z43 : Nat) (sz : Nat) : Met l yX12_at wsX12_at ({ frames := 3, cells := 0, slots := 0, locals := 65 }) (va_Pc [.ref h0, .int x1, .int x2, .int x3] (wB D G sz [(h0, .inr (12, [.ref z0, .ref z1, .ref z2, .ref z3, .ref z4, .ref z5, .ref z20, .ref z21, .ref z22, .ref z23, .ref z24, .ref z25, .int 0, .ref z26, .ref z27, .ref z28, .int 9, .int 0, .int 0, .ref z6, .ref z29, .ref z7, .int 0, .int 2, .ref z19, .ref z8, .ref z9, .ref z10, .int 0, .ref z11, .int 0, .ref z30, .ref z31, .ref z32, .ref z33, .int 0, .ref z12, .int 0, .int 0, .ref z34, .ref z35, .ref z36, .ref z37, .int 0, .int 0, .int 0, .int 0, .ref z38, .int 0, .ref z39, .ref z40, .ref z41, .ref z42, .int 0, .ref z13, .ref z14, .ref z15, .ref z16, .int 0, .ref z17, .ref z18, .ref z43]))])) (va_Qi (fun (r : Int32) (_ : Unit) => r = 0) (fun _ t => wS D G (va_A [(h0, .inr (12, [.ref z0, .ref z1, .ref z2, .ref z3, .ref z4, .ref z5, .ref z20, .ref z21, .ref z22, .ref z23, .ref z24, .ref z25, .int 0, .ref z26, .ref z27, .ref z28, .int 9, .int 0, .int 0, .ref z6, .ref z29, .ref z7, .int 0, .int 2, .ref z19, .ref z8, .ref z9, .ref z10, .int 0, .ref z11, .int 0, .ref z30, .ref z31, .ref z32, .ref z33, .int 0, .ref z12, .int 0, .int 0, .ref z34, .ref z35, .ref z36, .ref z37, .int 0, .int 0, .int 0, .int 0, .ref z38, .int 0, .ref z39, .ref z40, .ref z41, .ref z42, .int 0, .ref z13, .ref z14, .ref z15, .ref z16, .int 0, .ref z17, .ref z18, .ref z43]))] sz) [(h0, .inr (12, [.ref z0, .ref z1, .ref z2, .ref z3, .ref z4, .ref z5, .ref z20, .ref z21, .ref z22, .ref z23, .ref z24, .ref z25, .int 0, .ref z26, .ref z27, .ref z28, .int 9, .int 0, .int 0, .ref z6, .ref z29, .ref z7, .int 0, .int 2, .ref z19, .ref z8, .ref z9, .ref z10, .int 0, .ref z11, .int 0, .ref z30, .ref z31, .ref z32, .ref z33, .int 0, .ref z12, .int 0, .int 1, .ref z34, .ref z35, .ref z36, .ref z37, .int 0, .int 0, .int 0, .int 0, .ref z38, .int 0, .ref z39, .ref z40, .ref z41, .ref z42, .int 0, .ref z13, .ref z14, .ref z15, .ref z16, .int 0, .ref z17, .ref z18, .ref z43]))] t) (va_A [(h0, .inr (12, [.ref z0, .ref z1, .ref z2, .ref z3, .ref z4, .ref z5, .ref z20, .ref z21, .ref z22, .ref z23, .ref z24, .ref z25, .int 0, .ref z26, .ref z27, .ref z28, .int 9, .int 0, .int 0, .ref z6, .ref z29, .ref z7, .int 0, .int 2, .ref z19, .ref z8, .ref z9, .ref z10, .int 0, .ref z11, .int 0, .ref z30, .ref z31, .ref z32, .ref z33, .int 0, .ref z12, .int 0, .int 0, .ref z34, .ref z35, .ref z36, .ref z37, .int 0, .int 0, .int 0, .int 0, .ref z38, .int 0, .ref z39, .ref z40, .ref z41, .ref z42, .int 0, .ref z13, .ref z14, .ref z15, .ref z16, .int 0, .ref z17, .ref z18, .ref z43]))] sz)) 0 0 (va_A [(h0, .inr (12, [.ref z0, .ref z1, .ref z2, .ref z3, .ref z4, .ref z5, .ref z20, .ref z21, .ref z22, .ref z23, .ref z24, .ref z25, .int 0, .ref z26, .ref z27, .ref z28, .int 9, .int 0, .int 0, .ref z6, .ref z29, .ref z7, .int 0, .int 2, .ref z19, .ref z8, .ref z9, .ref z10, .int 0, .ref z11, .int 0, .ref z30, .ref z31, .ref z32, .ref z33, .int 0, .ref z12, .int 0, .int 0, .ref z34, .ref z35, .ref z36, .ref z37, .int 0, .int 0, .int 0, .int 0, .ref z38, .int 0, .ref z39, .ref z40, .ref z41, .ref z42, .int 0, .ref z13, .ref z14, .ref z15, .ref z16, .int 0, .ref z17, .ref z18, .ref z43]))] sz) := by
  refine Met.ofW (cc := cX12_at) (maxL := 4) (ret := (some .int)) (by decide) rfl ?_
  intro p e s m args below meth c s₁ B hml hv
  obtain ⟨rfl, hsz, hP, hK, hD0, hN⟩ := hv
  have hx := B.exec
  have hb := B.bytes
  have hr := B.returns
  have hts := atoms_spec (ws := wsX12_at) B.pre
  have hown : s.vm.findClass RX12 = some m.cls := findClass_of_methodNamed B.named
  have hlocks := B.notSynchronized
  subst hsz
  have hD := hD0.self (sz := s.heap.size)
  generalize hAe : va_A [(h0, .inr (12, [.ref z0, .ref z1, .ref z2, .ref z3, .ref z4, .ref z5, .ref z20, .ref z21, .ref z22, .ref z23, .ref z24, .ref z25, .int 0, .ref z26, .ref z27, .ref z28, .int 9, .int 0, .int 0, .ref z6, .ref z29, .ref z7, .int 0, .int 2, .ref z19, .ref z8, .ref z9, .ref z10, .int 0, .ref z11, .int 0, .ref z30, .ref z31, .ref z32, .ref z33, .int 0, .ref z12, .int 0, .int 0, .ref z34, .ref z35, .ref z36, .ref z37, .int 0, .int 0, .int 0, .int 0, .ref z38, .int 0, .ref z39, .ref z40, .ref z41, .ref z42, .int 0, .ref z13, .ref z14, .ref z15, .ref z16, .int 0, .ref z17, .ref z18, .ref z43]))] s.heap.size = A at hD ⊢
  have hA : ∀ q : Nat, s.heap.size ≤ q → A q := fun q h => by rw [← hAe]; exact Or.inr h
  have hS : va_S A s.heap s.heap [] := va_S.rf
  have hP : va_P D vwCl [(h0, .inr (12, [.ref z0, .ref z1, .ref z2, .ref z3, .ref z4, .ref z5, .ref z20, .ref z21, .ref z22, .ref z23, .ref z24, .ref z25, .int 0, .ref z26, .ref z27, .ref z28, .int 9, .int 0, .int 0, .ref z6, .ref z29, .ref z7, .int 0, .int 2, .ref z19, .ref z8, .ref z9, .ref z10, .int 0, .ref z11, .int 0, .ref z30, .ref z31, .ref z32, .ref z33, .int 0, .ref z12, .int 0, .int 0, .ref z34, .ref z35, .ref z36, .ref z37, .int 0, .int 0, .int 0, .int 0, .ref z38, .int 0, .ref z39, .ref z40, .ref z41, .ref z42, .int 0, .ref z13, .ref z14, .ref z15, .ref z16, .int 0, .ref z17, .ref z18, .ref z43]))] s.heap := hP
  have hl := lv_entry ([.ref h0, .int x1, .int x2, .int x3]) (n := 4) (Nat.le_of_ble_eq_true rfl)
  rw [lg_entry_eq]
  generalize (lg_sl ([.ref h0, .int x1, .int x2, .int x3]) ++ List.replicate (4 - (lg_sl ([.ref h0, .int x1, .int x2, .int x3])).length) Slot.unset).toArray = ls at hl ⊢
  have hl : lv_has ls 4 [(0, .ref h0), (1, .int x1), (2, .int x2), (3, .int x3)] := hl
  refine lv_aload_n hx hb dX12_at_0 rfl (lv_at hl 0 rfl) ?_
  refine lv_iconst (v := 0) hx hb dX12_at_1 (by decide) ?_
  refine va_put (D := D) (ci := 12) (v := .int 0) (ty := (tyX12 38)) (C := RX12) (T := TX12) (N := 62) hx hb hts iX12_at_X12 tyX12 tyX12_ok nmX12 hown hK hP hD hS 0 rfl rfl 38 (by decide) (hts (.fieldLink RX12 157 "PuppetBridgeModel" "thrown" "I") mX12_at_w0) (fun _ h9 => h9) rfl (tyX12_ok 38 (by decide)) rfl rfl (Nat.le_of_ble_eq_true rfl) dX12_at_2 (fun H locs hP hD hS => ?_)
  have hP : va_P D vwCl [(h0, .inr (12, [.ref z0, .ref z1, .ref z2, .ref z3, .ref z4, .ref z5, .ref z20, .ref z21, .ref z22, .ref z23, .ref z24, .ref z25, .int 0, .ref z26, .ref z27, .ref z28, .int 9, .int 0, .int 0, .ref z6, .ref z29, .ref z7, .int 0, .int 2, .ref z19, .ref z8, .ref z9, .ref z10, .int 0, .ref z11, .int 0, .ref z30, .ref z31, .ref z32, .ref z33, .int 0, .ref z12, .int 0, .int 0, .ref z34, .ref z35, .ref z36, .ref z37, .int 0, .int 0, .int 0, .int 0, .ref z38, .int 0, .ref z39, .ref z40, .ref z41, .ref z42, .int 0, .ref z13, .ref z14, .ref z15, .ref z16, .int 0, .ref z17, .ref z18, .ref z43]))] H := hP
  have hD : va_D A [(h0, .inr (12, [.ref z0, .ref z1, .ref z2, .ref z3, .ref z4, .ref z5, .ref z20, .ref z21, .ref z22, .ref z23, .ref z24, .ref z25, .int 0, .ref z26, .ref z27, .ref z28, .int 9, .int 0, .int 0, .ref z6, .ref z29, .ref z7, .int 0, .int 2, .ref z19, .ref z8, .ref z9, .ref z10, .int 0, .ref z11, .int 0, .ref z30, .ref z31, .ref z32, .ref z33, .int 0, .ref z12, .int 0, .int 0, .ref z34, .ref z35, .ref z36, .ref z37, .int 0, .int 0, .int 0, .int 0, .ref z38, .int 0, .ref z39, .ref z40, .ref z41, .ref z42, .int 0, .ref z13, .ref z14, .ref z15, .ref z16, .int 0, .ref z17, .ref z18, .ref z43]))] := hD
  refine lv_aload_n hx hb dX12_at_5 rfl (lv_at hl 0 rfl) ?_
  refine lv_iload_n hx hb dX12_at_6 rfl (lv_at hl 1 rfl) ?_
  refine lv_iload_n hx hb dX12_at_7 rfl (lv_at hl 2 rfl) ?_
  have hPc := hP.sub (ws' := [(h0, .inr (12, [.ref z0, .ref z1, .ref z2, .ref z3, .ref z4, .ref z5, .ref z20, .ref z21, .ref z22, .ref z23, .ref z24, .ref z25, .int 0, .ref z26, .ref z27, .ref z28, .int 9, .int 0, .int 0, .ref z6, .ref z29, .ref z7, .int 0, .int 2, .ref z19, .ref z8, .ref z9, .ref z10, .int 0, .ref z11, .int 0, .ref z30, .ref z31, .ref z32, .ref z33, .int 0, .ref z12, .int 0, .int 0, .ref z34, .ref z35, .ref z36, .ref z37, .int 0, .int 0, .int 0, .int 0, .ref z38, .int 0, .ref z39, .ref z40, .ref z41, .ref z42, .int 0, .ref z13, .ref z14, .ref z15, .ref z16, .int 0, .ref z17, .ref z18, .ref z43]))]) [0] rfl
  have hDc := hD.sub (ws' := [(h0, .inr (12, [.ref z0, .ref z1, .ref z2, .ref z3, .ref z4, .ref z5, .ref z20, .ref z21, .ref z22, .ref z23, .ref z24, .ref z25, .int 0, .ref z26, .ref z27, .ref z28, .int 9, .int 0, .int 0, .ref z6, .ref z29, .ref z7, .int 0, .int 2, .ref z19, .ref z8, .ref z9, .ref z10, .int 0, .ref z11, .int 0, .ref z30, .ref z31, .ref z32, .ref z33, .int 0, .ref z12, .int 0, .int 0, .ref z34, .ref z35, .ref z36, .ref z37, .int 0, .int 0, .int 0, .int 0, .ref z38, .int 0, .ref z39, .ref z40, .ref z41, .ref z42, .int 0, .ref z13, .ref z14, .ref z15, .ref z16, .int 0, .ref z17, .ref z18, .ref z43]))]) [0] (by decide) rfl
  have hFc := va_free (wc := [(h0, .inr (12, [.ref z0, .ref z1, .ref z2, .ref z3, .ref z4, .ref z5, .ref z20, .ref z21, .ref z22, .ref z23, .ref z24, .ref z25, .int 0, .ref z26, .ref z27, .ref z28, .int 9, .int 0, .int 0, .ref z6, .ref z29, .ref z7, .int 0, .int 2, .ref z19, .ref z8, .ref z9, .ref z10, .int 0, .ref z11, .int 0, .ref z30, .ref z31, .ref z32, .ref z33, .int 0, .ref z12, .int 0, .int 0, .ref z34, .ref z35, .ref z36, .ref z37, .int 0, .int 0, .int 0, .int 0, .ref z38, .int 0, .ref z39, .ref z40, .ref z41, .ref z42, .int 0, .ref z13, .ref z14, .ref z15, .ref z16, .int 0, .ref z17, .ref z18, .ref z43]))]) hD hS hA [0] rfl
  refine va_calli (va_runV (As := [.int x1, .int x2]) (rest := []) ⟨hx, hb, hml, hown, hts⟩ (kX12_isLimb l D G h0 x1 x2 z0 z1 z2 z3 z4 z5 z20 z21 z22 z23 z24 z25 z26 z27 z28 z6 z29 z7 z19 z8 z9 z10 z11 z30 z31 z32 z33 z12 z34 z35 z36 z37 z38 z39 z40 z41 z42 z13 z14 z15 z16 z17 z18 z43 H.size) (cwV 2 hts gX12_at_X12_isLimb rfl rfl rfl (by decide +kernel) ⟨Nat.le_of_ble_eq_true rfl, Nat.le_of_ble_eq_true rfl⟩) ⟨wB_blind, va_recv hK hPc (ci := 12) (q0 := 0) rfl rfl, wB_pre hPc hK hDc hN⟩ rfl rfl hl.1 rfl (lv_room (Nat.le_of_ble_eq_true rfl)) dX12_at_8 ⟨Nat.le_of_ble_eq_true rfl, Nat.le_of_ble_eq_true rfl⟩) hS (fun q _ h => hFc q h) hFc (fun r1 u t H1 locs ht hvm hr1 hB hz1 hk1 hS => ?_)
  obtain ⟨hP1, hK1, hD1⟩ := hB
  rw [ht] at hP1
  obtain ⟨hP, hD⟩ := va_join (wr := []) (w1 := [(h0, .inr (12, [.ref z0, .ref z1, .ref z2, .ref z3, .ref z4, .ref z5, .ref z20, .ref z21, .ref z22, .ref z23, .ref z24, .ref z25, .int 0, .ref z26, .ref z27, .ref z28, .int 9, .int 0, .int 0, .ref z6, .ref z29, .ref z7, .int 0, .int 2, .ref z19, .ref z8, .ref z9, .ref z10, .int 0, .ref z11, .int 0, .ref z30, .ref z31, .ref z32, .ref z33, .int 0, .ref z12, .int 0, .int 0, .ref z34, .ref z35, .ref z36, .ref z37, .int 0, .int 0, .int 0, .int 0, .ref z38, .int 0, .ref z39, .ref z40, .ref z41, .ref z42, .int 0, .ref z13, .ref z14, .ref z15, .ref z16, .int 0, .ref z17, .ref z18, .ref z43]))]) hP hD [0] [] rfl rfl (by decide) (by decide) hk1 hFc hP1 hD1
  clear hPc hDc
  generalize H1 = H at hP hS ⊢
  have hP : va_P D vwCl [(h0, .inr (12, [.ref z0, .ref z1, .ref z2, .ref z3, .ref z4, .ref z5, .ref z20, .ref z21, .ref z22, .ref z23, .ref z24, .ref z25, .int 0, .ref z26, .ref z27, .ref z28, .int 9, .int 0, .int 0, .ref z6, .ref z29, .ref z7, .int 0, .int 2, .ref z19, .ref z8, .ref z9, .ref z10, .int 0, .ref z11, .int 0, .ref z30, .ref z31, .ref z32, .ref z33, .int 0, .ref z12, .int 0, .int 0, .ref z34, .ref z35, .ref z36, .ref z37, .int 0, .int 0, .int 0, .int 0, .ref z38, .int 0, .ref z39, .ref z40, .ref z41, .ref z42, .int 0, .ref z13, .ref z14, .ref z15, .ref z16, .int 0, .ref z17, .ref z18, .ref z43]))] H := hP
  have hD : va_D A [(h0, .inr (12, [.ref z0, .ref z1, .ref z2, .ref z3, .ref z4, .ref z5, .ref z20, .ref z21, .ref z22, .ref z23, .ref z24, .ref z25, .int 0, .ref z26, .ref z27, .ref z28, .int 9, .int 0, .int 0, .ref z6, .ref z29, .ref z7, .int 0, .int 2, .ref z19, .ref z8, .ref z9, .ref z10, .int 0, .ref z11, .int 0, .ref z30, .ref z31, .ref z32, .ref z33, .int 0, .ref z12, .int 0, .int 0, .ref z34, .ref z35, .ref z36, .ref z37, .int 0, .int 0, .int 0, .int 0, .ref z38, .int 0, .ref z39, .ref z40, .ref z41, .ref z42, .int 0, .ref z13, .ref z14, .ref z15, .ref z16, .int 0, .ref z17, .ref z18, .ref z43]))] := hD
  subst hr1
  refine lv_if_eq (tgt := 23) hx hb dX12_at_11 (by decide) (fun _ => ?_) (fun h9 => absurd h9 (by decide))
  refine lv_aload_n hx hb dX12_at_23 rfl (lv_at hl 0 rfl) ?_
  have hPc := hP.sub (ws' := [(h0, .inr (12, [.ref z0, .ref z1, .ref z2, .ref z3, .ref z4, .ref z5, .ref z20, .ref z21, .ref z22, .ref z23, .ref z24, .ref z25, .int 0, .ref z26, .ref z27, .ref z28, .int 9, .int 0, .int 0, .ref z6, .ref z29, .ref z7, .int 0, .int 2, .ref z19, .ref z8, .ref z9, .ref z10, .int 0, .ref z11, .int 0, .ref z30, .ref z31, .ref z32, .ref z33, .int 0, .ref z12, .int 0, .int 0, .ref z34, .ref z35, .ref z36, .ref z37, .int 0, .int 0, .int 0, .int 0, .ref z38, .int 0, .ref z39, .ref z40, .ref z41, .ref z42, .int 0, .ref z13, .ref z14, .ref z15, .ref z16, .int 0, .ref z17, .ref z18, .ref z43]))]) [0] rfl
  have hDc := hD.sub (ws' := [(h0, .inr (12, [.ref z0, .ref z1, .ref z2, .ref z3, .ref z4, .ref z5, .ref z20, .ref z21, .ref z22, .ref z23, .ref z24, .ref z25, .int 0, .ref z26, .ref z27, .ref z28, .int 9, .int 0, .int 0, .ref z6, .ref z29, .ref z7, .int 0, .int 2, .ref z19, .ref z8, .ref z9, .ref z10, .int 0, .ref z11, .int 0, .ref z30, .ref z31, .ref z32, .ref z33, .int 0, .ref z12, .int 0, .int 0, .ref z34, .ref z35, .ref z36, .ref z37, .int 0, .int 0, .int 0, .int 0, .ref z38, .int 0, .ref z39, .ref z40, .ref z41, .ref z42, .int 0, .ref z13, .ref z14, .ref z15, .ref z16, .int 0, .ref z17, .ref z18, .ref z43]))]) [0] (by decide) rfl
  have hFc := va_free (wc := [(h0, .inr (12, [.ref z0, .ref z1, .ref z2, .ref z3, .ref z4, .ref z5, .ref z20, .ref z21, .ref z22, .ref z23, .ref z24, .ref z25, .int 0, .ref z26, .ref z27, .ref z28, .int 9, .int 0, .int 0, .ref z6, .ref z29, .ref z7, .int 0, .int 2, .ref z19, .ref z8, .ref z9, .ref z10, .int 0, .ref z11, .int 0, .ref z30, .ref z31, .ref z32, .ref z33, .int 0, .ref z12, .int 0, .int 0, .ref z34, .ref z35, .ref z36, .ref z37, .int 0, .int 0, .int 0, .int 0, .ref z38, .int 0, .ref z39, .ref z40, .ref z41, .ref z42, .int 0, .ref z13, .ref z14, .ref z15, .ref z16, .int 0, .ref z17, .ref z18, .ref z43]))]) hD hS hA [0] rfl
  refine va_calli (va_runV (As := []) (rest := []) ⟨hx, hb, hml, hown, hts⟩ (kX12_lost l D G h0 z0 z1 z2 z3 z4 z5 z20 z21 z22 z23 z24 z25 z26 z27 z28 z6 z29 z7 z19 z8 z9 z10 z11 z30 z31 z32 z33 z12 z34 z35 z36 z37 z38 z39 z40 z41 z42 z13 z14 z15 z16 z17 z18 z43 H.size) (cwV 0 hts gX12_at_X12_lost rfl rfl rfl (by decide +kernel) ⟨Nat.le_of_ble_eq_true rfl, Nat.le_of_ble_eq_true rfl⟩) ⟨wB_blind, va_recv hK hPc (ci := 12) (q0 := 0) rfl rfl, wB_pre hPc hK hDc hN⟩ rfl rfl hl.1 rfl (lv_room (Nat.le_of_ble_eq_true rfl)) dX12_at_24 ⟨Nat.le_of_ble_eq_true rfl, Nat.le_of_ble_eq_true rfl⟩) hS (fun q _ h => hFc q h) hFc (fun r2 u t H1 locs ht hvm hr2 hB hz1 hk1 hS => ?_)
  obtain ⟨hP1, hK1, hD1⟩ := hB
  rw [ht] at hP1
  obtain ⟨hP, hD⟩ := va_join (wr := []) (w1 := [(h0, .inr (12, [.ref z0, .ref z1, .ref z2, .ref z3, .ref z4, .ref z5, .ref z20, .ref z21, .ref z22, .ref z23, .ref z24, .ref z25, .int 0, .ref z26, .ref z27, .ref z28, .int 9, .int 0, .int 0, .ref z6, .ref z29, .ref z7, .int 0, .int 2, .ref z19, .ref z8, .ref z9, .ref z10, .int 0, .ref z11, .int 0, .ref z30, .ref z31, .ref z32, .ref z33, .int 0, .ref z12, .int 0, .int 1, .ref z34, .ref z35, .ref z36, .ref z37, .int 0, .int 0, .int 0, .int 0, .ref z38, .int 0, .ref z39, .ref z40, .ref z41, .ref z42, .int 0, .ref z13, .ref z14, .ref z15, .ref z16, .int 0, .ref z17, .ref z18, .ref z43]))]) hP hD [0] [] rfl rfl (by decide) (by decide) hk1 hFc hP1 hD1
  clear hPc hDc
  generalize H1 = H at hP hS ⊢
  have hP : va_P D vwCl [(h0, .inr (12, [.ref z0, .ref z1, .ref z2, .ref z3, .ref z4, .ref z5, .ref z20, .ref z21, .ref z22, .ref z23, .ref z24, .ref z25, .int 0, .ref z26, .ref z27, .ref z28, .int 9, .int 0, .int 0, .ref z6, .ref z29, .ref z7, .int 0, .int 2, .ref z19, .ref z8, .ref z9, .ref z10, .int 0, .ref z11, .int 0, .ref z30, .ref z31, .ref z32, .ref z33, .int 0, .ref z12, .int 0, .int 1, .ref z34, .ref z35, .ref z36, .ref z37, .int 0, .int 0, .int 0, .int 0, .ref z38, .int 0, .ref z39, .ref z40, .ref z41, .ref z42, .int 0, .ref z13, .ref z14, .ref z15, .ref z16, .int 0, .ref z17, .ref z18, .ref z43]))] H := hP
  have hD : va_D A [(h0, .inr (12, [.ref z0, .ref z1, .ref z2, .ref z3, .ref z4, .ref z5, .ref z20, .ref z21, .ref z22, .ref z23, .ref z24, .ref z25, .int 0, .ref z26, .ref z27, .ref z28, .int 9, .int 0, .int 0, .ref z6, .ref z29, .ref z7, .int 0, .int 2, .ref z19, .ref z8, .ref z9, .ref z10, .int 0, .ref z11, .int 0, .ref z30, .ref z31, .ref z32, .ref z33, .int 0, .ref z12, .int 0, .int 1, .ref z34, .ref z35, .ref z36, .ref z37, .int 0, .int 0, .int 0, .int 0, .ref z38, .int 0, .ref z39, .ref z40, .ref z41, .ref z42, .int 0, .ref z13, .ref z14, .ref z15, .ref z16, .int 0, .ref z17, .ref z18, .ref z43]))] := hD
  subst hr2
  have hP9 := hP.sub (ws' := [(h0, .inr (12, [.ref z0, .ref z1, .ref z2, .ref z3, .ref z4, .ref z5, .ref z20, .ref z21, .ref z22, .ref z23, .ref z24, .ref z25, .int 0, .ref z26, .ref z27, .ref z28, .int 9, .int 0, .int 0, .ref z6, .ref z29, .ref z7, .int 0, .int 2, .ref z19, .ref z8, .ref z9, .ref z10, .int 0, .ref z11, .int 0, .ref z30, .ref z31, .ref z32, .ref z33, .int 0, .ref z12, .int 0, .int 1, .ref z34, .ref z35, .ref z36, .ref z37, .int 0, .int 0, .int 0, .int 0, .ref z38, .int 0, .ref z39, .ref z40, .ref z41, .ref z42, .int 0, .ref z13, .ref z14, .ref z15, .ref z16, .int 0, .ref z17, .ref z18, .ref z43]))]) [0] rfl
  have hD9 := hD.sub (ws' := [(h0, .inr (12, [.ref z0, .ref z1, .ref z2, .ref z3, .ref z4, .ref z5, .ref z20, .ref z21, .ref z22, .ref z23, .ref z24, .ref z25, .int 0, .ref z26, .ref z27, .ref z28, .int 9, .int 0, .int 0, .ref z6, .ref z29, .ref z7, .int 0, .int 2, .ref z19, .ref z8, .ref z9, .ref z10, .int 0, .ref z11, .int 0, .ref z30, .ref z31, .ref z32, .ref z33, .int 0, .ref z12, .int 0, .int 1, .ref z34, .ref z35, .ref z36, .ref z37, .int 0, .int 0, .int 0, .int 0, .ref z38, .int 0, .ref z39, .ref z40, .ref z41, .ref z42, .int 0, .ref z13, .ref z14, .ref z15, .ref z16, .int 0, .ref z17, .ref z18, .ref z43]))]) [0] (by decide) rfl
  exact W.iret (v := 0) hx hb hr (fun t ht hW => ⟨⟨0, (), rfl, rfl, ⟨by rw [ht]; exact hP9, va_K.moved hW.alike hK, hD9⟩⟩, hS.F ht⟩) hS.2.2 dX12_at_27

theorem mX12_reach_w0 : Cond.fieldLink RX12 157 "PuppetBridgeModel" "thrown" "I" ∈ wsX12_reach := by decide +kernel
theorem mX12_reach_w1 : Cond.constant RX12 395 (1000000) ∈ wsX12_reach := by decide +kernel
theorem iX12_reach_X12 : ∀ w ∈ wsX120, w ∈ wsX12_reach := fun _ h => List.mem_cons_of_mem _ (List.mem_append_right _ h)
set_option maxRecDepth 20000 in
theorem ggX12_reach_X12_isLimb : GoodIn wsX12_reach wsX12_isLimb := goodIn_r _ [15, 16, 17, 18, 19, 14, 20, 21, 22, 23, 24, 82, 83, 84, 85, 86, 87, 88, 89, 90, 91, 92, 93, 94, 95, 96, 97, 98, 99, 100, 101, 102, 103, 104, 105, 106, 107, 108, 109, 110, 111, 112, 113, 114, 115, 116, 117, 118, 119, 120, 121, 122, 123, 124, 125, 126, 127, 128, 129, 130, 131, 132, 133, 134, 135, 136, 137, 138, 139, 140, 141, 142, 143] (by decide +kernel) (by decide +kernel)
set_option maxRecDepth 20000 in
theorem gX12_reach_X12_isLimb : GoodIn wsX12_reach (wsV RX12 178 RX12 yX12_isLimb wsX12_isLimb) := goodIn_app (goodIn_of _ (by decide +kernel)) ggX12_reach_X12_isLimb
set_option maxRecDepth 20000 in
theorem ggX12_reach_X12_lost : GoodIn wsX12_reach wsX12_lost := goodIn_r _ [35, 1, 82, 83, 84, 85, 86, 87, 88, 89, 90, 91, 92, 93, 94, 95, 96, 97, 98, 99, 100, 101, 102, 103, 104, 105, 106, 107, 108, 109, 110, 111, 112, 113, 114, 115, 116, 117, 118, 119, 120, 121, 122, 123, 124, 125, 126, 127, 128, 129, 130, 131, 132, 133, 134, 135, 136, 137, 138, 139, 140, 141, 142, 143] (by decide +kernel) (by decide +kernel)
set_option maxRecDepth 20000 in
theorem gX12_reach_X12_lost : GoodIn wsX12_reach (wsV RX12 247 RX12 yX12_lost wsX12_lost) := goodIn_app (goodIn_of _ (by decide +kernel)) ggX12_reach_X12_lost
theorem dX12_reach_0 : decode cX12_reach 0 = .ok (.aload_n 0, 1) := by decide +kernel
theorem dX12_reach_1 : decode cX12_reach 1 = .ok (.iconst 0, 1) := by decide +kernel
theorem dX12_reach_2 : decode cX12_reach 2 = .ok (.putfield 157, 3) := by decide +kernel
theorem dX12_reach_5 : decode cX12_reach 5 = .ok (.ldc_w 395, 3) := by decide +kernel
theorem dX12_reach_8 : decode cX12_reach 8 = .ok (.istore 6, 2) := by decide +kernel
theorem dX12_reach_10 : decode cX12_reach 10 = .ok (.aload_n 0, 1) := by decide +kernel
theorem dX12_reach_11 : decode cX12_reach 11 = .ok (.iload_n 1, 1) := by decide +kernel
theorem dX12_reach_12 : decode cX12_reach 12 = .ok (.iload_n 2, 1) := by decide +kernel
theorem dX12_reach_13 : decode cX12_reach 13 = .ok (.invokevirtual 178, 3) := by decide +kernel
theorem dX12_reach_16 : decode cX12_reach 16 = .ok (.ifCond .eq 55, 3) := by decide +kernel
theorem dX12_reach_71 : decode cX12_reach 71 = .ok (.aload_n 0, 1) := by decide +kernel
theorem dX12_reach_72 : decode cX12_reach 72 = .ok (.invokevirtual 247, 3) := by decide +kernel
theorem dX12_reach_75 : decode cX12_reach 75 = .ok (.i2l, 1) := by decide +kernel
theorem dX12_reach_76 : decode cX12_reach 76 = .ok (.lreturn, 1) := by decide +kernel
set_option maxHeartbeats 4000000 in
set_option maxRecDepth 100000 in
/-- X12_reach -/
theorem kX12_reach (l : Launch) (D : va_G) (G : tyG) (h0 : Nat) (x1 : Int32) (x2 : Int32) (x3 : Int32) (x4 : Int32) (x5 : Int32) (z0 : Nat) (z1 : Nat) (z2 : Nat) (z3 : Nat) (z4 : Nat) (z5 : Nat) (z20 : Nat) (z21 : Nat) (z22 : Nat) (z23 : Nat) (z24 : Nat) (z25 : Nat) (z26 : Nat) (z27 : Nat) (z28 : Nat) (z6 : Nat) (z29 : Nat) (z7 : Nat) (z19 : Nat) (z8 : Nat) (z9 : Nat) (z10 : Nat) (z11 : Nat) (z30 : Nat) (z31 : Nat) (z32 : Nat) (z33 : Nat) (z12 : Nat) (z34 : Nat) (z35 : Nat) (z36 : Nat) (z37 : Nat) (z38 : Nat) (z39 : Nat) (z40 : Nat) (z41 : Nat) (z42 : Nat) (z13 : Nat) (z14 : Nat) (z15 : Nat) (z16 : Nat) (z17 : Nat) (z18 : Nat) (z43 : Nat) (sz : Nat) : Met l yX12_reach wsX12_reach ({ frames := 3, cells := 0, slots := 0, locals := 65 }) (va_Pc [.ref h0, .int x1, .int x2, .int x3, .int x4, .int x5] (wB D G sz [(h0, .inr (12, [.ref z0, .ref z1, .ref z2, .ref z3, .ref z4, .ref z5, .ref z20, .ref z21, .ref z22, .ref z23, .ref z24, .ref z25, .int 0, .ref z26, .ref z27, .ref z28, .int 9, .int 0, .int 0, .ref z6, .ref z29, .ref z7, .int 0, .int 2, .ref z19, .ref z8, .ref z9, .ref z10, .int 0, .ref z11, .int 0, .ref z30, .ref z31, .ref z32, .ref z33, .int 0, .ref z12, .int 0, .int 0, .ref z34, .ref z35, .ref z36, .ref z37, .int 0, .int 0, .int 0, .int 0, .ref z38, .int 0, .ref z39, .ref z40, .ref z41, .ref z42, .int 0, .ref z13, .ref z14, .ref z15, .ref z16, .int 0, .ref z17, .ref z18, .ref z43]))])) (va_Ql (fun (r : Int64) (_ : Unit) => r = 0) (fun _ t => wS D G (va_A [(h0, .inr (12, [.ref z0, .ref z1, .ref z2, .ref z3, .ref z4, .ref z5, .ref z20, .ref z21, .ref z22, .ref z23, .ref z24, .ref z25, .int 0, .ref z26, .ref z27, .ref z28, .int 9, .int 0, .int 0, .ref z6, .ref z29, .ref z7, .int 0, .int 2, .ref z19, .ref z8, .ref z9, .ref z10, .int 0, .ref z11, .int 0, .ref z30, .ref z31, .ref z32, .ref z33, .int 0, .ref z12, .int 0, .int 0, .ref z34, .ref z35, .ref z36, .ref z37, .int 0, .int 0, .int 0, .int 0, .ref z38, .int 0, .ref z39, .ref z40, .ref z41, .ref z42, .int 0, .ref z13, .ref z14, .ref z15, .ref z16, .int 0, .ref z17, .ref z18, .ref z43]))] sz) [(h0, .inr (12, [.ref z0, .ref z1, .ref z2, .ref z3, .ref z4, .ref z5, .ref z20, .ref z21, .ref z22, .ref z23, .ref z24, .ref z25, .int 0, .ref z26, .ref z27, .ref z28, .int 9, .int 0, .int 0, .ref z6, .ref z29, .ref z7, .int 0, .int 2, .ref z19, .ref z8, .ref z9, .ref z10, .int 0, .ref z11, .int 0, .ref z30, .ref z31, .ref z32, .ref z33, .int 0, .ref z12, .int 0, .int 1, .ref z34, .ref z35, .ref z36, .ref z37, .int 0, .int 0, .int 0, .int 0, .ref z38, .int 0, .ref z39, .ref z40, .ref z41, .ref z42, .int 0, .ref z13, .ref z14, .ref z15, .ref z16, .int 0, .ref z17, .ref z18, .ref z43]))] t) (va_A [(h0, .inr (12, [.ref z0, .ref z1, .ref z2, .ref z3, .ref z4, .ref z5, .ref z20, .ref z21, .ref z22, .ref z23, .ref z24, .ref z25, .int 0, .ref z26, .ref z27, .ref z28, .int 9, .int 0, .int 0, .ref z6, .ref z29, .ref z7, .int 0, .int 2, .ref z19, .ref z8, .ref z9, .ref z10, .int 0, .ref z11, .int 0, .ref z30, .ref z31, .ref z32, .ref z33, .int 0, .ref z12, .int 0, .int 0, .ref z34, .ref z35, .ref z36, .ref z37, .int 0, .int 0, .int 0, .int 0, .ref z38, .int 0, .ref z39, .ref z40, .ref z41, .ref z42, .int 0, .ref z13, .ref z14, .ref z15, .ref z16, .int 0, .ref z17, .ref z18, .ref z43]))] sz)) 0 0 (va_A [(h0, .inr (12, [.ref z0, .ref z1, .ref z2, .ref z3, .ref z4, .ref z5, .ref z20, .ref z21, .ref z22, .ref z23, .ref z24, .ref z25, .int 0, .ref z26, .ref z27, .ref z28, .int 9, .int 0, .int 0, .ref z6, .ref z29, .ref z7, .int 0, .int 2, .ref z19, .ref z8, .ref z9, .ref z10, .int 0, .ref z11, .int 0, .ref z30, .ref z31, .ref z32, .ref z33, .int 0, .ref z12, .int 0, .int 0, .ref z34, .ref z35, .ref z36, .ref z37, .int 0, .int 0, .int 0, .int 0, .ref z38, .int 0, .ref z39, .ref z40, .ref z41, .ref z42, .int 0, .ref z13, .ref z14, .ref z15, .ref z16, .int 0, .ref z17, .ref z18, .ref z43]))] sz) := by
  refine Met.ofW (cc := cX12_reach) (maxL := 24) (ret := (some .long)) (by decide) rfl ?_
  intro p e s m args below meth c s₁ B hml hv
  obtain ⟨rfl, hsz, hP, hK, hD0, hN⟩ := hv
  have hx := B.exec
  have hb := B.bytes
  have hr := B.returns
  have hts := atoms_spec (ws := wsX12_reach) B.pre
  have hown : s.vm.findClass RX12 = some m.cls := findClass_of_methodNamed B.named
  have hlocks := B.notSynchronized
  subst hsz
  have hD := hD0.self (sz := s.heap.size)
  generalize hAe : va_A [(h0, .inr (12, [.ref z0, .ref z1, .ref z2, .ref z3, .ref z4, .ref z5, .ref z20, .ref z21, .ref z22, .ref z23, .ref z24, .ref z25, .int 0, .ref z26, .ref z27, .ref z28, .int 9, .int 0, .int 0, .ref z6, .ref z29, .ref z7, .int 0, .int 2, .ref z19, .ref z8, .ref z9, .ref z10, .int 0, .ref z11, .int 0, .ref z30, .ref z31, .ref z32, .ref z33, .int 0, .ref z12, .int 0, .int 0, .ref z34, .ref z35, .ref z36, .ref z37, .int 0, .int 0, .int 0, .int 0, .ref z38, .int 0, .ref z39, .ref z40, .ref z41, .ref z42, .int 0, .ref z13, .ref z14, .ref z15, .ref z16, .int 0, .ref z17, .ref z18, .ref z43]))] s.heap.size = A at hD ⊢
  have hA : ∀ q : Nat, s.heap.size ≤ q → A q := fun q h => by rw [← hAe]; exact Or.inr h
  have hS : va_S A s.heap s.heap [] := va_S.rf
  have hP : va_P D vwCl [(h0, .inr (12, [.ref z0, .ref z1, .ref z2, .ref z3, .ref z4, .ref z5, .ref z20, .ref z21, .ref z22, .ref z23, .ref z24, .ref z25, .int 0, .ref z26, .ref z27, .ref z28, .int 9, .int 0, .int 0, .ref z6, .ref z29, .ref z7, .int 0, .int 2, .ref z19, .ref z8, .ref z9, .ref z10, .int 0, .ref z11, .int 0, .ref z30, .ref z31, .ref z32, .ref z33, .int 0, .ref z12, .int 0, .int 0, .ref z34, .ref z35, .ref z36, .ref z37, .int 0, .int 0, .int 0, .int 0, .ref z38, .int 0, .ref z39, .ref z40, .ref z41, .ref z42, .int 0, .ref z13, .ref z14, .ref z15, .ref z16, .int 0, .ref z17, .ref z18, .ref z43]))] s.heap := hP
  have hl := lv_entry ([.ref h0, .int x1, .int x2, .int x3, .int x4, .int x5]) (n := 24) (Nat.le_of_ble_eq_true rfl)
  rw [lg_entry_eq]
  generalize (lg_sl ([.ref h0, .int x1, .int x2, .int x3, .int x4, .int x5]) ++ List.replicate (24 - (lg_sl ([.ref h0, .int x1, .int x2, .int x3, .int x4, .int x5])).length) Slot.unset).toArray = ls at hl ⊢
  have hl : lv_has ls 24 [(0, .ref h0), (1, .int x1), (2, .int x2), (3, .int x3), (4, .int x4), (5, .int x5)] := hl
  refine lv_aload_n hx hb dX12_reach_0 rfl (lv_at hl 0 rfl) ?_
  refine lv_iconst (v := 0) hx hb dX12_reach_1 (by decide) ?_
  refine va_put (D := D) (ci := 12) (v := .int 0) (ty := (tyX12 38)) (C := RX12) (T := TX12) (N := 62) hx hb hts iX12_reach_X12 tyX12 tyX12_ok nmX12 hown hK hP hD hS 0 rfl rfl 38 (by decide) (hts (.fieldLink RX12 157 "PuppetBridgeModel" "thrown" "I") mX12_reach_w0) (fun _ h9 => h9) rfl (tyX12_ok 38 (by decide)) rfl rfl (Nat.le_of_ble_eq_true rfl) dX12_reach_2 (fun H locs hP hD hS => ?_)
  have hP : va_P D vwCl [(h0, .inr (12, [.ref z0, .ref z1, .ref z2, .ref z3, .ref z4, .ref z5, .ref z20, .ref z21, .ref z22, .ref z23, .ref z24, .ref z25, .int 0, .ref z26, .ref z27, .ref z28, .int 9, .int 0, .int 0, .ref z6, .ref z29, .ref z7, .int 0, .int 2, .ref z19, .ref z8, .ref z9, .ref z10, .int 0, .ref z11, .int 0, .ref z30, .ref z31, .ref z32, .ref z33, .int 0, .ref z12, .int 0, .int 0, .ref z34, .ref z35, .ref z36, .ref z37, .int 0, .int 0, .int 0, .int 0, .ref z38, .int 0, .ref z39, .ref z40, .ref z41, .ref z42, .int 0, .ref z13, .ref z14, .ref z15, .ref z16, .int 0, .ref z17, .ref z18, .ref z43]))] H := hP
  have hD : va_D A [(h0, .inr (12, [.ref z0, .ref z1, .ref z2, .ref z3, .ref z4, .ref z5, .ref z20, .ref z21, .ref z22, .ref z23, .ref z24, .ref z25, .int 0, .ref z26, .ref z27, .ref z28, .int 9, .int 0, .int 0, .ref z6, .ref z29, .ref z7, .int 0, .int 2, .ref z19, .ref z8, .ref z9, .ref z10, .int 0, .ref z11, .int 0, .ref z30, .ref z31, .ref z32, .ref z33, .int 0, .ref z12, .int 0, .int 0, .ref z34, .ref z35, .ref z36, .ref z37, .int 0, .int 0, .int 0, .int 0, .ref z38, .int 0, .ref z39, .ref z40, .ref z41, .ref z42, .int 0, .ref z13, .ref z14, .ref z15, .ref z16, .int 0, .ref z17, .ref z18, .ref z43]))] := hD
  refine lv_ldcw (v := 1000000) hx hb hown (hts (.constant RX12 395 (1000000)) mX12_reach_w1) dX12_reach_5 ?_
  refine lv_istore (lv' := [(6, .int 1000000), (0, .ref h0), (1, .int x1), (2, .int x2), (3, .int x3), (4, .int x4), (5, .int x5)]) hx hb dX12_reach_8 hl (by decide) rfl (fun ls hl => ?_)
  refine lv_aload_n hx hb dX12_reach_10 rfl (lv_at hl 1 rfl) ?_
  refine lv_iload_n hx hb dX12_reach_11 rfl (lv_at hl 2 rfl) ?_
  refine lv_iload_n hx hb dX12_reach_12 rfl (lv_at hl 3 rfl) ?_
  have hPc := hP.sub (ws' := [(h0, .inr (12, [.ref z0, .ref z1, .ref z2, .ref z3, .ref z4, .ref z5, .ref z20, .ref z21, .ref z22, .ref z23, .ref z24, .ref z25, .int 0, .ref z26, .ref z27, .ref z28, .int 9, .int 0, .int 0, .ref z6, .ref z29, .ref z7, .int 0, .int 2, .ref z19, .ref z8, .ref z9, .ref z10, .int 0, .ref z11, .int 0, .ref z30, .ref z31, .ref z32, .ref z33, .int 0, .ref z12, .int 0, .int 0, .ref z34, .ref z35, .ref z36, .ref z37, .int 0, .int 0, .int 0, .int 0, .ref z38, .int 0, .ref z39, .ref z40, .ref z41, .ref z42, .int 0, .ref z13, .ref z14, .ref z15, .ref z16, .int 0, .ref z17, .ref z18, .ref z43]))]) [0] rfl
  have hDc := hD.sub (ws' := [(h0, .inr (12, [.ref z0, .ref z1, .ref z2, .ref z3, .ref z4, .ref z5, .ref z20, .ref z21, .ref z22, .ref z23, .ref z24, .ref z25, .int 0, .ref z26, .ref z27, .ref z28, .int 9, .int 0, .int 0, .ref z6, .ref z29, .ref z7, .int 0, .int 2, .ref z19, .ref z8, .ref z9, .ref z10, .int 0, .ref z11, .int 0, .ref z30, .ref z31, .ref z32, .ref z33, .int 0, .ref z12, .int 0, .int 0, .ref z34, .ref z35, .ref z36, .ref z37, .int 0, .int 0, .int 0, .int 0, .ref z38, .int 0, .ref z39, .ref z40, .ref z41, .ref z42, .int 0, .ref z13, .ref z14, .ref z15, .ref z16, .int 0, .ref z17, .ref z18, .ref z43]))]) [0] (by decide) rfl
  have hFc := va_free (wc := [(h0, .inr (12, [.ref z0, .ref z1, .ref z2, .ref z3, .ref z4, .ref z5, .ref z20, .ref z21, .ref z22, .ref z23, .ref z24, .ref z25, .int 0, .ref z26, .ref z27, .ref z28, .int 9, .int 0, .int 0, .ref z6, .ref z29, .ref z7, .int 0, .int 2, .ref z19, .ref z8, .ref z9, .ref z10, .int 0, .ref z11, .int 0, .ref z30, .ref z31, .ref z32, .ref z33, .int 0, .ref z12, .int 0, .int 0, .ref z34, .ref z35, .ref z36, .ref z37, .int 0, .int 0, .int 0, .int 0, .ref z38, .int 0, .ref z39, .ref z40, .ref z41, .ref z42, .int 0, .ref z13, .ref z14, .ref z15, .ref z16, .int 0, .ref z17, .ref z18, .ref z43]))]) hD hS hA [0] rfl
  refine va_calli (va_runV (As := [.int x1, .int x2]) (rest := []) ⟨hx, hb, hml, hown, hts⟩ (kX12_isLimb l D G h0 x1 x2 z0 z1 z2 z3 z4 z5 z20 z21 z22 z23 z24 z25 z26 z27 z28 z6 z29 z7 z19 z8 z9 z10 z11 z30 z31 z32 z33 z12 z34 z35 z36 z37 z38 z39 z40 z41 z42 z13 z14 z15 z16 z17 z18 z43 H.size) (cwV 2 hts gX12_reach_X12_isLimb rfl rfl rfl (by decide +kernel) ⟨Nat.le_of_ble_eq_true rfl, Nat.le_of_ble_eq_true rfl⟩) ⟨wB_blind, va_recv hK hPc (ci := 12) (q0 := 0) rfl rfl, wB_pre hPc hK hDc hN⟩ rfl rfl hl.1 rfl (lv_room (Nat.le_of_ble_eq_true rfl)) dX12_reach_13 ⟨Nat.le_of_ble_eq_true rfl, Nat.le_of_ble_eq_true rfl⟩) hS (fun q _ h => hFc q h) hFc (fun r1 u t H1 locs ht hvm hr1 hB hz1 hk1 hS => ?_)
  obtain ⟨hP1, hK1, hD1⟩ := hB
  rw [ht] at hP1
  obtain ⟨hP, hD⟩ := va_join (wr := []) (w1 := [(h0, .inr (12, [.ref z0, .ref z1, .ref z2, .ref z3, .ref z4, .ref z5, .ref z20, .ref z21, .ref z22, .ref z23, .ref z24, .ref z25, .int 0, .ref z26, .ref z27, .ref z28, .int 9, .int 0, .int 0, .ref z6, .ref z29, .ref z7, .int 0, .int 2, .ref z19, .ref z8, .ref z9, .ref z10, .int 0, .ref z11, .int 0, .ref z30, .ref z31, .ref z32, .ref z33, .int 0, .ref z12, .int 0, .int 0, .ref z34, .ref z35, .ref z36, .ref z37, .int 0, .int 0, .int 0, .int 0, .ref z38, .int 0, .ref z39, .ref z40, .ref z41, .ref z42, .int 0, .ref z13, .ref z14, .ref z15, .ref z16, .int 0, .ref z17, .ref z18, .ref z43]))]) hP hD [0] [] rfl rfl (by decide) (by decide) hk1 hFc hP1 hD1
  clear hPc hDc
  generalize H1 = H at hP hS ⊢
  have hP : va_P D vwCl [(h0, .inr (12, [.ref z0, .ref z1, .ref z2, .ref z3, .ref z4, .ref z5, .ref z20, .ref z21, .ref z22, .ref z23, .ref z24, .ref z25, .int 0, .ref z26, .ref z27, .ref z28, .int 9, .int 0, .int 0, .ref z6, .ref z29, .ref z7, .int 0, .int 2, .ref z19, .ref z8, .ref z9, .ref z10, .int 0, .ref z11, .int 0, .ref z30, .ref z31, .ref z32, .ref z33, .int 0, .ref z12, .int 0, .int 0, .ref z34, .ref z35, .ref z36, .ref z37, .int 0, .int 0, .int 0, .int 0, .ref z38, .int 0, .ref z39, .ref z40, .ref z41, .ref z42, .int 0, .ref z13, .ref z14, .ref z15, .ref z16, .int 0, .ref z17, .ref z18, .ref z43]))] H := hP
  have hD : va_D A [(h0, .inr (12, [.ref z0, .ref z1, .ref z2, .ref z3, .ref z4, .ref z5, .ref z20, .ref z21, .ref z22, .ref z23, .ref z24, .ref z25, .int 0, .ref z26, .ref z27, .ref z28, .int 9, .int 0, .int 0, .ref z6, .ref z29, .ref z7, .int 0, .int 2, .ref z19, .ref z8, .ref z9, .ref z10, .int 0, .ref z11, .int 0, .ref z30, .ref z31, .ref z32, .ref z33, .int 0, .ref z12, .int 0, .int 0, .ref z34, .ref z35, .ref z36, .ref z37, .int 0, .int 0, .int 0, .int 0, .ref z38, .int 0, .ref z39, .ref z40, .ref z41, .ref z42, .int 0, .ref z13, .ref z14, .ref z15, .ref z16, .int 0, .ref z17, .ref z18, .ref z43]))] := hD
  subst hr1
  refine lv_if_eq (tgt := 71) hx hb dX12_reach_16 (by decide) (fun _ => ?_) (fun h9 => absurd h9 (by decide))
  refine lv_aload_n hx hb dX12_reach_71 rfl (lv_at hl 1 rfl) ?_
  have hPc := hP.sub (ws' := [(h0, .inr (12, [.ref z0, .ref z1, .ref z2, .ref z3, .ref z4, .ref z5, .ref z20, .ref z21, .ref z22, .ref z23, .ref z24, .ref z25, .int 0, .ref z26, .ref z27, .ref z28, .int 9, .int 0, .int 0, .ref z6, .ref z29, .ref z7, .int 0, .int 2, .ref z19, .ref z8, .ref z9, .ref z10, .int 0, .ref z11, .int 0, .ref z30, .ref z31, .ref z32, .ref z33, .int 0, .ref z12, .int 0, .int 0, .ref z34, .ref z35, .ref z36, .ref z37, .int 0, .int 0, .int 0, .int 0, .ref z38, .int 0, .ref z39, .ref z40, .ref z41, .ref z42, .int 0, .ref z13, .ref z14, .ref z15, .ref z16, .int 0, .ref z17, .ref z18, .ref z43]))]) [0] rfl
  have hDc := hD.sub (ws' := [(h0, .inr (12, [.ref z0, .ref z1, .ref z2, .ref z3, .ref z4, .ref z5, .ref z20, .ref z21, .ref z22, .ref z23, .ref z24, .ref z25, .int 0, .ref z26, .ref z27, .ref z28, .int 9, .int 0, .int 0, .ref z6, .ref z29, .ref z7, .int 0, .int 2, .ref z19, .ref z8, .ref z9, .ref z10, .int 0, .ref z11, .int 0, .ref z30, .ref z31, .ref z32, .ref z33, .int 0, .ref z12, .int 0, .int 0, .ref z34, .ref z35, .ref z36, .ref z37, .int 0, .int 0, .int 0, .int 0, .ref z38, .int 0, .ref z39, .ref z40, .ref z41, .ref z42, .int 0, .ref z13, .ref z14, .ref z15, .ref z16, .int 0, .ref z17, .ref z18, .ref z43]))]) [0] (by decide) rfl
  have hFc := va_free (wc := [(h0, .inr (12, [.ref z0, .ref z1, .ref z2, .ref z3, .ref z4, .ref z5, .ref z20, .ref z21, .ref z22, .ref z23, .ref z24, .ref z25, .int 0, .ref z26, .ref z27, .ref z28, .int 9, .int 0, .int 0, .ref z6, .ref z29, .ref z7, .int 0, .int 2, .ref z19, .ref z8, .ref z9, .ref z10, .int 0, .ref z11, .int 0, .ref z30, .ref z31, .ref z32, .ref z33, .int 0, .ref z12, .int 0, .int 0, .ref z34, .ref z35, .ref z36, .ref z37, .int 0, .int 0, .int 0, .int 0, .ref z38, .int 0, .ref z39, .ref z40, .ref z41, .ref z42, .int 0, .ref z13, .ref z14, .ref z15, .ref z16, .int 0, .ref z17, .ref z18, .ref z43]))]) hD hS hA [0] rfl
  refine va_calli (va_runV (As := []) (rest := []) ⟨hx, hb, hml, hown, hts⟩ (kX12_lost l D G h0 z0 z1 z2 z3 z4 z5 z20 z21 z22 z23 z24 z25 z26 z27 z28 z6 z29 z7 z19 z8 z9 z10 z11 z30 z31 z32 z33 z12 z34 z35 z36 z37 z38 z39 z40 z41 z42 z13 z14 z15 z16 z17 z18 z43 H.size) (cwV 0 hts gX12_reach_X12_lost rfl rfl rfl (by decide +kernel) ⟨Nat.le_of_ble_eq_true rfl, Nat.le_of_ble_eq_true rfl⟩) ⟨wB_blind, va_recv hK hPc (ci := 12) (q0 := 0) rfl rfl, wB_pre hPc hK hDc hN⟩ rfl rfl hl.1 rfl (lv_room (Nat.le_of_ble_eq_true rfl)) dX12_reach_72 ⟨Nat.le_of_ble_eq_true rfl, Nat.le_of_ble_eq_true rfl⟩) hS (fun q _ h => hFc q h) hFc (fun r2 u t H1 locs ht hvm hr2 hB hz1 hk1 hS => ?_)
  obtain ⟨hP1, hK1, hD1⟩ := hB
  rw [ht] at hP1
  obtain ⟨hP, hD⟩ := va_join (wr := []) (w1 := [(h0, .inr (12, [.ref z0, .ref z1, .ref z2, .ref z3, .ref z4, .ref z5, .ref z20, .ref z21, .ref z22, .ref z23, .ref z24, .ref z25, .int 0, .ref z26, .ref z27, .ref z28, .int 9, .int 0, .int 0, .ref z6, .ref z29, .ref z7, .int 0, .int 2, .ref z19, .ref z8, .ref z9, .ref z10, .int 0, .ref z11, .int 0, .ref z30, .ref z31, .ref z32, .ref z33, .int 0, .ref z12, .int 0, .int 1, .ref z34, .ref z35, .ref z36, .ref z37, .int 0, .int 0, .int 0, .int 0, .ref z38, .int 0, .ref z39, .ref z40, .ref z41, .ref z42, .int 0, .ref z13, .ref z14, .ref z15, .ref z16, .int 0, .ref z17, .ref z18, .ref z43]))]) hP hD [0] [] rfl rfl (by decide) (by decide) hk1 hFc hP1 hD1
  clear hPc hDc
  generalize H1 = H at hP hS ⊢
  have hP : va_P D vwCl [(h0, .inr (12, [.ref z0, .ref z1, .ref z2, .ref z3, .ref z4, .ref z5, .ref z20, .ref z21, .ref z22, .ref z23, .ref z24, .ref z25, .int 0, .ref z26, .ref z27, .ref z28, .int 9, .int 0, .int 0, .ref z6, .ref z29, .ref z7, .int 0, .int 2, .ref z19, .ref z8, .ref z9, .ref z10, .int 0, .ref z11, .int 0, .ref z30, .ref z31, .ref z32, .ref z33, .int 0, .ref z12, .int 0, .int 1, .ref z34, .ref z35, .ref z36, .ref z37, .int 0, .int 0, .int 0, .int 0, .ref z38, .int 0, .ref z39, .ref z40, .ref z41, .ref z42, .int 0, .ref z13, .ref z14, .ref z15, .ref z16, .int 0, .ref z17, .ref z18, .ref z43]))] H := hP
  have hD : va_D A [(h0, .inr (12, [.ref z0, .ref z1, .ref z2, .ref z3, .ref z4, .ref z5, .ref z20, .ref z21, .ref z22, .ref z23, .ref z24, .ref z25, .int 0, .ref z26, .ref z27, .ref z28, .int 9, .int 0, .int 0, .ref z6, .ref z29, .ref z7, .int 0, .int 2, .ref z19, .ref z8, .ref z9, .ref z10, .int 0, .ref z11, .int 0, .ref z30, .ref z31, .ref z32, .ref z33, .int 0, .ref z12, .int 0, .int 1, .ref z34, .ref z35, .ref z36, .ref z37, .int 0, .int 0, .int 0, .int 0, .ref z38, .int 0, .ref z39, .ref z40, .ref z41, .ref z42, .int 0, .ref z13, .ref z14, .ref z15, .ref z16, .int 0, .ref z17, .ref z18, .ref z43]))] := hD
  subst hr2
  refine lv_i2l hx hb dX12_reach_75 rfl ?_
  refine wk_l 0 (by decide) ?_
  have hP9 := hP.sub (ws' := [(h0, .inr (12, [.ref z0, .ref z1, .ref z2, .ref z3, .ref z4, .ref z5, .ref z20, .ref z21, .ref z22, .ref z23, .ref z24, .ref z25, .int 0, .ref z26, .ref z27, .ref z28, .int 9, .int 0, .int 0, .ref z6, .ref z29, .ref z7, .int 0, .int 2, .ref z19, .ref z8, .ref z9, .ref z10, .int 0, .ref z11, .int 0, .ref z30, .ref z31, .ref z32, .ref z33, .int 0, .ref z12, .int 0, .int 1, .ref z34, .ref z35, .ref z36, .ref z37, .int 0, .int 0, .int 0, .int 0, .ref z38, .int 0, .ref z39, .ref z40, .ref z41, .ref z42, .int 0, .ref z13, .ref z14, .ref z15, .ref z16, .int 0, .ref z17, .ref z18, .ref z43]))]) [0] rfl
  have hD9 := hD.sub (ws' := [(h0, .inr (12, [.ref z0, .ref z1, .ref z2, .ref z3, .ref z4, .ref z5, .ref z20, .ref z21, .ref z22, .ref z23, .ref z24, .ref z25, .int 0, .ref z26, .ref z27, .ref z28, .int 9, .int 0, .int 0, .ref z6, .ref z29, .ref z7, .int 0, .int 2, .ref z19, .ref z8, .ref z9, .ref z10, .int 0, .ref z11, .int 0, .ref z30, .ref z31, .ref z32, .ref z33, .int 0, .ref z12, .int 0, .int 1, .ref z34, .ref z35, .ref z36, .ref z37, .int 0, .int 0, .int 0, .int 0, .ref z38, .int 0, .ref z39, .ref z40, .ref z41, .ref z42, .int 0, .ref z13, .ref z14, .ref z15, .ref z16, .int 0, .ref z17, .ref z18, .ref z43]))]) [0] (by decide) rfl
  exact W.lret (v := 0) hx hb hr (fun t ht hW => ⟨⟨0, (), rfl, rfl, ⟨by rw [ht]; exact hP9, va_K.moved hW.alike hK, hD9⟩⟩, hS.F ht⟩) hS.2.2 dX12_reach_76

theorem mX12_row_w0 : Cond.fieldLink RX12 157 "PuppetBridgeModel" "thrown" "I" ∈ wsX12_row := by decide +kernel
theorem mX12_row_w1 : Cond.fieldLink RX12 306 "PuppetBridgeModel" "rowMany" "I" ∈ wsX12_row := by decide +kernel
theorem iX12_row_X12 : ∀ w ∈ wsX120, w ∈ wsX12_row := fun _ h => List.mem_cons_of_mem _ (List.mem_append_right _ h)
set_option maxRecDepth 20000 in
theorem ggX12_row_X12_in : GoodIn wsX12_row wsX12_in := goodIn_r _ [7] (by decide +kernel) (by decide +kernel)
set_option maxRecDepth 20000 in
theorem gX12_row_X12_in : GoodIn wsX12_row (va_wsS RX12 163 yX12_in wsX12_in) := goodIn_app (goodIn_of _ (by decide +kernel)) ggX12_row_X12_in
set_option maxRecDepth 20000 in
theorem ggX12_row_X12_lost : GoodIn wsX12_row wsX12_lost := goodIn_r _ [11, 1, 12, 13, 14, 15, 16, 17, 18, 19, 20, 21, 22, 23, 24, 25, 26, 27, 28, 29, 30, 31, 32, 33, 34, 35, 36, 37, 38, 39, 40, 41, 42, 43, 44, 45, 46, 47, 48, 49, 50, 51, 52, 53, 54, 55, 56, 57, 58, 59, 60, 61, 62, 63, 64, 65, 66, 67, 68, 69, 70, 71, 72, 73] (by decide +kernel) (by decide +kernel)
set_option maxRecDepth 20000 in
theorem gX12_row_X12_lost : GoodIn wsX12_row (wsV RX12 247 RX12 yX12_lost wsX12_lost) := goodIn_app (goodIn_of _ (by decide +kernel)) ggX12_row_X12_lost
theorem dX12_row_0 : decode cX12_row 0 = .ok (.aload_n 0, 1) := by decide +kernel
theorem dX12_row_1 : decode cX12_row 1 = .ok (.iconst 0, 1) := by decide +kernel
theorem dX12_row_2 : decode cX12_row 2 = .ok (.putfield 157, 3) := by decide +kernel
theorem dX12_row_5 : decode cX12_row 5 = .ok (.iload_n 1, 1) := by decide +kernel
theorem dX12_row_6 : decode cX12_row 6 = .ok (.iconst 0, 1) := by decide +kernel
theorem dX12_row_7 : decode cX12_row 7 = .ok (.aload_n 0, 1) := by decide +kernel
theorem dX12_row_8 : decode cX12_row 8 = .ok (.getfield 306, 3) := by decide +kernel
theorem dX12_row_11 : decode cX12_row 11 = .ok (.iconst 1, 1) := by decide +kernel
theorem dX12_row_12 : decode cX12_row 12 = .ok (.isub, 1) := by decide +kernel
theorem dX12_row_13 : decode cX12_row 13 = .ok (.invokestatic 163, 3) := by decide +kernel
theorem dX12_row_16 : decode cX12_row 16 = .ok (.ifCond .eq 12, 3) := by decide +kernel
theorem dX12_row_28 : decode cX12_row 28 = .ok (.aload_n 0, 1) := by decide +kernel
theorem dX12_row_29 : decode cX12_row 29 = .ok (.invokevirtual 247, 3) := by decide +kernel
theorem dX12_row_32 : decode cX12_row 32 = .ok (.ireturn, 1) := by decide +kernel
set_option maxHeartbeats 4000000 in
set_option maxRecDepth 100000 in
/-- X12_row -/
theorem kX12_row (l : Launch) (D : va_G) (G : tyG) (h0 : Nat) (x1 : Int32) (z0 : Nat) (z1 : Nat) (z2 : Nat) (z3 : Nat) (z4 : Nat) (z5 : Nat) (z20 : Nat) (z21 : Nat) (z22 : Nat) (z23 : Nat) (z24 : Nat) (z25 : Nat) (z26 : Nat) (z27 : Nat) (z28 : Nat) (z6 : Nat) (z29 : Nat) (z7 : Nat) (z19 : Nat) (z8 : Nat) (z9 : Nat) (z10 : Nat) (z11 : Nat) (z30 : Nat) (z31 : Nat) (z32 : Nat) (z33 : Nat) (z12 : Nat) (z34 : Nat) (z35 : Nat) (z36 : Nat) (z37 : Nat) (z38 : Nat) (z39 : Nat) (z40 : Nat) (z41 : Nat) (z42 : Nat) (z13 : Nat) (z14 : Nat) (z15 : Nat) (z16 : Nat) (z17 : Nat) (z18 : Nat) (z43 : Nat) (sz : Nat) : Met l yX12_row wsX12_row ({ frames := 1, cells := 0, slots := 0, locals := 22 }) (va_Pc [.ref h0, .int x1] (wB D G sz [(h0, .inr (12, [.ref z0, .ref z1, .ref z2, .ref z3, .ref z4, .ref z5, .ref z20, .ref z21, .ref z22, .ref z23, .ref z24, .ref z25, .int 0, .ref z26, .ref z27, .ref z28, .int 9, .int 0, .int 0, .ref z6, .ref z29, .ref z7, .int 0, .int 2, .ref z19, .ref z8, .ref z9, .ref z10, .int 0, .ref z11, .int 0, .ref z30, .ref z31, .ref z32, .ref z33, .int 0, .ref z12, .int 0, .int 0, .ref z34, .ref z35, .ref z36, .ref z37, .int 0, .int 0, .int 0, .int 0, .ref z38, .int 0, .ref z39, .ref z40, .ref z41, .ref z42, .int 0, .ref z13, .ref z14, .ref z15, .ref z16, .int 0, .ref z17, .ref z18, .ref z43]))])) (va_Qi (fun (r : Int32) (_ : Unit) => r = 0) (fun _ t => wS D G (va_A [(h0, .inr (12, [.ref z0, .ref z1, .ref z2, .ref z3, .ref z4, .ref z5, .ref z20, .ref z21, .ref z22, .ref z23, .ref z24, .ref z25, .int 0, .ref z26, .ref z27, .ref z28, .int 9, .int 0, .int 0, .ref z6, .ref z29, .ref z7, .int 0, .int 2, .ref z19, .ref z8, .ref z9, .ref z10, .int 0, .ref z11, .int 0, .ref z30, .ref z31, .ref z32, .ref z33, .int 0, .ref z12, .int 0, .int 0, .ref z34, .ref z35, .ref z36, .ref z37, .int 0, .int 0, .int 0, .int 0, .ref z38, .int 0, .ref z39, .ref z40, .ref z41, .ref z42, .int 0, .ref z13, .ref z14, .ref z15, .ref z16, .int 0, .ref z17, .ref z18, .ref z43]))] sz) [(h0, .inr (12, [.ref z0, .ref z1, .ref z2, .ref z3, .ref z4, .ref z5, .ref z20, .ref z21, .ref z22, .ref z23, .ref z24, .ref z25, .int 0, .ref z26, .ref z27, .ref z28, .int 9, .int 0, .int 0, .ref z6, .ref z29, .ref z7, .int 0, .int 2, .ref z19, .ref z8, .ref z9, .ref z10, .int 0, .ref z11, .int 0, .ref z30, .ref z31, .ref z32, .ref z33, .int 0, .ref z12, .int 0, .int 1, .ref z34, .ref z35, .ref z36, .ref z37, .int 0, .int 0, .int 0, .int 0, .ref z38, .int 0, .ref z39, .ref z40, .ref z41, .ref z42, .int 0, .ref z13, .ref z14, .ref z15, .ref z16, .int 0, .ref z17, .ref z18, .ref z43]))] t) (va_A [(h0, .inr (12, [.ref z0, .ref z1, .ref z2, .ref z3, .ref z4, .ref z5, .ref z20, .ref z21, .ref z22, .ref z23, .ref z24, .ref z25, .int 0, .ref z26, .ref z27, .ref z28, .int 9, .int 0, .int 0, .ref z6, .ref z29, .ref z7, .int 0, .int 2, .ref z19, .ref z8, .ref z9, .ref z10, .int 0, .ref z11, .int 0, .ref z30, .ref z31, .ref z32, .ref z33, .int 0, .ref z12, .int 0, .int 0, .ref z34, .ref z35, .ref z36, .ref z37, .int 0, .int 0, .int 0, .int 0, .ref z38, .int 0, .ref z39, .ref z40, .ref z41, .ref z42, .int 0, .ref z13, .ref z14, .ref z15, .ref z16, .int 0, .ref z17, .ref z18, .ref z43]))] sz)) 0 0 (va_A [(h0, .inr (12, [.ref z0, .ref z1, .ref z2, .ref z3, .ref z4, .ref z5, .ref z20, .ref z21, .ref z22, .ref z23, .ref z24, .ref z25, .int 0, .ref z26, .ref z27, .ref z28, .int 9, .int 0, .int 0, .ref z6, .ref z29, .ref z7, .int 0, .int 2, .ref z19, .ref z8, .ref z9, .ref z10, .int 0, .ref z11, .int 0, .ref z30, .ref z31, .ref z32, .ref z33, .int 0, .ref z12, .int 0, .int 0, .ref z34, .ref z35, .ref z36, .ref z37, .int 0, .int 0, .int 0, .int 0, .ref z38, .int 0, .ref z39, .ref z40, .ref z41, .ref z42, .int 0, .ref z13, .ref z14, .ref z15, .ref z16, .int 0, .ref z17, .ref z18, .ref z43]))] sz) := by
  refine Met.ofW (cc := cX12_row) (maxL := 2) (ret := (some .int)) (by decide) rfl ?_
  intro p e s m args below meth c s₁ B hml hv
  obtain ⟨rfl, hsz, hP, hK, hD0, hN⟩ := hv
  have hx := B.exec
  have hb := B.bytes
  have hr := B.returns
  have hts := atoms_spec (ws := wsX12_row) B.pre
  have hown : s.vm.findClass RX12 = some m.cls := findClass_of_methodNamed B.named
  have hlocks := B.notSynchronized
  subst hsz
  have hD := hD0.self (sz := s.heap.size)
  generalize hAe : va_A [(h0, .inr (12, [.ref z0, .ref z1, .ref z2, .ref z3, .ref z4, .ref z5, .ref z20, .ref z21, .ref z22, .ref z23, .ref z24, .ref z25, .int 0, .ref z26, .ref z27, .ref z28, .int 9, .int 0, .int 0, .ref z6, .ref z29, .ref z7, .int 0, .int 2, .ref z19, .ref z8, .ref z9, .ref z10, .int 0, .ref z11, .int 0, .ref z30, .ref z31, .ref z32, .ref z33, .int 0, .ref z12, .int 0, .int 0, .ref z34, .ref z35, .ref z36, .ref z37, .int 0, .int 0, .int 0, .int 0, .ref z38, .int 0, .ref z39, .ref z40, .ref z41, .ref z42, .int 0, .ref z13, .ref z14, .ref z15, .ref z16, .int 0, .ref z17, .ref z18, .ref z43]))] s.heap.size = A at hD ⊢
  have hA : ∀ q : Nat, s.heap.size ≤ q → A q := fun q h => by rw [← hAe]; exact Or.inr h
  have hS : va_S A s.heap s.heap [] := va_S.rf
  have hP : va_P D vwCl [(h0, .inr (12, [.ref z0, .ref z1, .ref z2, .ref z3, .ref z4, .ref z5, .ref z20, .ref z21, .ref z22, .ref z23, .ref z24, .ref z25, .int 0, .ref z26, .ref z27, .ref z28, .int 9, .int 0, .int 0, .ref z6, .ref z29, .ref z7, .int 0, .int 2, .ref z19, .ref z8, .ref z9, .ref z10, .int 0, .ref z11, .int 0, .ref z30, .ref z31, .ref z32, .ref z33, .int 0, .ref z12, .int 0, .int 0, .ref z34, .ref z35, .ref z36, .ref z37, .int 0, .int 0, .int 0, .int 0, .ref z38, .int 0, .ref z39, .ref z40, .ref z41, .ref z42, .int 0, .ref z13, .ref z14, .ref z15, .ref z16, .int 0, .ref z17, .ref z18, .ref z43]))] s.heap := hP
  have hl := lv_entry ([.ref h0, .int x1]) (n := 2) (Nat.le_of_ble_eq_true rfl)
  rw [lg_entry_eq]
  generalize (lg_sl ([.ref h0, .int x1]) ++ List.replicate (2 - (lg_sl ([.ref h0, .int x1])).length) Slot.unset).toArray = ls at hl ⊢
  have hl : lv_has ls 2 [(0, .ref h0), (1, .int x1)] := hl
  refine lv_aload_n hx hb dX12_row_0 rfl (lv_at hl 0 rfl) ?_
  refine lv_iconst (v := 0) hx hb dX12_row_1 (by decide) ?_
  refine va_put (D := D) (ci := 12) (v := .int 0) (ty := (tyX12 38)) (C := RX12) (T := TX12) (N := 62) hx hb hts iX12_row_X12 tyX12 tyX12_ok nmX12 hown hK hP hD hS 0 rfl rfl 38 (by decide) (hts (.fieldLink RX12 157 "PuppetBridgeModel" "thrown" "I") mX12_row_w0) (fun _ h9 => h9) rfl (tyX12_ok 38 (by decide)) rfl rfl (Nat.le_of_ble_eq_true rfl) dX12_row_2 (fun H locs hP hD hS => ?_)
  have hP : va_P D vwCl [(h0, .inr (12, [.ref z0, .ref z1, .ref z2, .ref z3, .ref z4, .ref z5, .ref z20, .ref z21, .ref z22, .ref z23, .ref z24, .ref z25, .int 0, .ref z26, .ref z27, .ref z28, .int 9, .int 0, .int 0, .ref z6, .ref z29, .ref z7, .int 0, .int 2, .ref z19, .ref z8, .ref z9, .ref z10, .int 0, .ref z11, .int 0, .ref z30, .ref z31, .ref z32, .ref z33, .int 0, .ref z12, .int 0, .int 0, .ref z34, .ref z35, .ref z36, .ref z37, .int 0, .int 0, .int 0, .int 0, .ref z38, .int 0, .ref z39, .ref z40, .ref z41, .ref z42, .int 0, .ref z13, .ref z14, .ref z15, .ref z16, .int 0, .ref z17, .ref z18, .ref z43]))] H := hP
  have hD : va_D A [(h0, .inr (12, [.ref z0, .ref z1, .ref z2, .ref z3, .ref z4, .ref z5, .ref z20, .ref z21, .ref z22, .ref z23, .ref z24, .ref z25, .int 0, .ref z26, .ref z27, .ref z28, .int 9, .int 0, .int 0, .ref z6, .ref z29, .ref z7, .int 0, .int 2, .ref z19, .ref z8, .ref z9, .ref z10, .int 0, .ref z11, .int 0, .ref z30, .ref z31, .ref z32, .ref z33, .int 0, .ref z12, .int 0, .int 0, .ref z34, .ref z35, .ref z36, .ref z37, .int 0, .int 0, .int 0, .int 0, .ref z38, .int 0, .ref z39, .ref z40, .ref z41, .ref z42, .int 0, .ref z13, .ref z14, .ref z15, .ref z16, .int 0, .ref z17, .ref z18, .ref z43]))] := hD
  refine lv_iload_n hx hb dX12_row_5 rfl (lv_at hl 1 rfl) ?_
  refine lv_iconst (v := 0) hx hb dX12_row_6 (by decide) ?_
  refine lv_aload_n hx hb dX12_row_7 rfl (lv_at hl 0 rfl) ?_
  refine va_get (D := D) (ci := 12) (v := .int 0) (C := RX12) (T := TX12) (N := 62) hx hb hts iX12_row_X12 hown hK hP 0 rfl rfl 37 (by decide) (hts (.fieldLink RX12 306 "PuppetBridgeModel" "rowMany" "I") mX12_row_w1) (fun _ h9 => h9) rfl dX12_row_8 ?_
  refine lv_iconst (v := 1) hx hb dX12_row_11 (by decide) ?_
  refine lv_isub hx hb dX12_row_12 ?_
  refine wk_i (-1) (by decide) ?_
  have hPc := hP.sub (ws' := []) [] rfl
  have hDc := hD.sub (ws' := []) [] (by decide) rfl
  have hFc := va_free (wc := []) hD hS hA [] rfl
  refine va_calli (va_runS (As := [.int x1, .int 0, .int (-1)]) (rest := []) ⟨hx, hb, hml, hown, hts⟩ (kX12_in l D G x1 0 (-1) H.size) (va_cwS 3 hts gX12_row_X12_in rfl rfl rfl (by decide +kernel) ⟨Nat.le_of_ble_eq_true rfl, Nat.le_of_ble_eq_true rfl⟩) ⟨wB_blind, wB_pre hPc hK hDc hN⟩ rfl rfl hl.1 rfl (lv_room (Nat.le_of_ble_eq_true rfl)) dX12_row_13 ⟨Nat.le_of_ble_eq_true rfl, Nat.le_of_ble_eq_true rfl⟩) hS (fun q _ h => hFc q h) hFc (fun r1 u t H1 locs ht hvm hr1 hB hz1 hk1 hS => ?_)
  obtain ⟨hP, hD⟩ := va_join (wr := [(h0, .inr (12, [.ref z0, .ref z1, .ref z2, .ref z3, .ref z4, .ref z5, .ref z20, .ref z21, .ref z22, .ref z23, .ref z24, .ref z25, .int 0, .ref z26, .ref z27, .ref z28, .int 9, .int 0, .int 0, .ref z6, .ref z29, .ref z7, .int 0, .int 2, .ref z19, .ref z8, .ref z9, .ref z10, .int 0, .ref z11, .int 0, .ref z30, .ref z31, .ref z32, .ref z33, .int 0, .ref z12, .int 0, .int 0, .ref z34, .ref z35, .ref z36, .ref z37, .int 0, .int 0, .int 0, .int 0, .ref z38, .int 0, .ref z39, .ref z40, .ref z41, .ref z42, .int 0, .ref z13, .ref z14, .ref z15, .ref z16, .int 0, .ref z17, .ref z18, .ref z43]))]) (w1 := []) hP hD [] [0] rfl rfl (by decide) (by decide) hk1 hFc wP_nil wD_nil
  clear hPc hDc
  generalize H1 = H at hP hS ⊢
  have hP : va_P D vwCl [(h0, .inr (12, [.ref z0, .ref z1, .ref z2, .ref z3, .ref z4, .ref z5, .ref z20, .ref z21, .ref z22, .ref z23, .ref z24, .ref z25, .int 0, .ref z26, .ref z27, .ref z28, .int 9, .int 0, .int 0, .ref z6, .ref z29, .ref z7, .int 0, .int 2, .ref z19, .ref z8, .ref z9, .ref z10, .int 0, .ref z11, .int 0, .ref z30, .ref z31, .ref z32, .ref z33, .int 0, .ref z12, .int 0, .int 0, .ref z34, .ref z35, .ref z36, .ref z37, .int 0, .int 0, .int 0, .int 0, .ref z38, .int 0, .ref z39, .ref z40, .ref z41, .ref z42, .int 0, .ref z13, .ref z14, .ref z15, .ref z16, .int 0, .ref z17, .ref z18, .ref z43]))] H := hP
  have hD : va_D A [(h0, .inr (12, [.ref z0, .ref z1, .ref z2, .ref z3, .ref z4, .ref z5, .ref z20, .ref z21, .ref z22, .ref z23, .ref z24, .ref z25, .int 0, .ref z26, .ref z27, .ref z28, .int 9, .int 0, .int 0, .ref z6, .ref z29, .ref z7, .int 0, .int 2, .ref z19, .ref z8, .ref z9, .ref z10, .int 0, .ref z11, .int 0, .ref z30, .ref z31, .ref z32, .ref z33, .int 0, .ref z12, .int 0, .int 0, .ref z34, .ref z35, .ref z36, .ref z37, .int 0, .int 0, .int 0, .int 0, .ref z38, .int 0, .ref z39, .ref z40, .ref z41, .ref z42, .int 0, .ref z13, .ref z14, .ref z15, .ref z16, .int 0, .ref z17, .ref z18, .ref z43]))] := hD
  obtain rfl : r1 = 0 := by rw [hr1, inB_none]; rfl
  refine lv_if_eq (tgt := 28) hx hb dX12_row_16 (by decide) (fun _ => ?_) (fun h9 => absurd h9 (by decide))
  refine lv_aload_n hx hb dX12_row_28 rfl (lv_at hl 0 rfl) ?_
  have hPc := hP.sub (ws' := [(h0, .inr (12, [.ref z0, .ref z1, .ref z2, .ref z3, .ref z4, .ref z5, .ref z20, .ref z21, .ref z22, .ref z23, .ref z24, .ref z25, .int 0, .ref z26, .ref z27, .ref z28, .int 9, .int 0, .int 0, .ref z6, .ref z29, .ref z7, .int 0, .int 2, .ref z19, .ref z8, .ref z9, .ref z10, .int 0, .ref z11, .int 0, .ref z30, .ref z31, .ref z32, .ref z33, .int 0, .ref z12, .int 0, .int 0, .ref z34, .ref z35, .ref z36, .ref z37, .int 0, .int 0, .int 0, .int 0, .ref z38, .int 0, .ref z39, .ref z40, .ref z41, .ref z42, .int 0, .ref z13, .ref z14, .ref z15, .ref z16, .int 0, .ref z17, .ref z18, .ref z43]))]) [0] rfl
  have hDc := hD.sub (ws' := [(h0, .inr (12, [.ref z0, .ref z1, .ref z2, .ref z3, .ref z4, .ref z5, .ref z20, .ref z21, .ref z22, .ref z23, .ref z24, .ref z25, .int 0, .ref z26, .ref z27, .ref z28, .int 9, .int 0, .int 0, .ref z6, .ref z29, .ref z7, .int 0, .int 2, .ref z19, .ref z8, .ref z9, .ref z10, .int 0, .ref z11, .int 0, .ref z30, .ref z31, .ref z32, .ref z33, .int 0, .ref z12, .int 0, .int 0, .ref z34, .ref z35, .ref z36, .ref z37, .int 0, .int 0, .int 0, .int 0, .ref z38, .int 0, .ref z39, .ref z40, .ref z41, .ref z42, .int 0, .ref z13, .ref z14, .ref z15, .ref z16, .int 0, .ref z17, .ref z18, .ref z43]))]) [0] (by decide) rfl
  have hFc := va_free (wc := [(h0, .inr (12, [.ref z0, .ref z1, .ref z2, .ref z3, .ref z4, .ref z5, .ref z20, .ref z21, .ref z22, .ref z23, .ref z24, .ref z25, .int 0, .ref z26, .ref z27, .ref z28, .int 9, .int 0, .int 0, .ref z6, .ref z29, .ref z7, .int 0, .int 2, .ref z19, .ref z8, .ref z9, .ref z10, .int 0, .ref z11, .int 0, .ref z30, .ref z31, .ref z32, .ref z33, .int 0, .ref z12, .int 0, .int 0, .ref z34, .ref z35, .ref z36, .ref z37, .int 0, .int 0, .int 0, .int 0, .ref z38, .int 0, .ref z39, .ref z40, .ref z41, .ref z42, .int 0, .ref z13, .ref z14, .ref z15, .ref z16, .int 0, .ref z17, .ref z18, .ref z43]))]) hD hS hA [0] rfl
  refine va_calli (va_runV (As := []) (rest := []) ⟨hx, hb, hml, hown, hts⟩ (kX12_lost l D G h0 z0 z1 z2 z3 z4 z5 z20 z21 z22 z23 z24 z25 z26 z27 z28 z6 z29 z7 z19 z8 z9 z10 z11 z30 z31 z32 z33 z12 z34 z35 z36 z37 z38 z39 z40 z41 z42 z13 z14 z15 z16 z17 z18 z43 H.size) (cwV 0 hts gX12_row_X12_lost rfl rfl rfl (by decide +kernel) ⟨Nat.le_of_ble_eq_true rfl, Nat.le_of_ble_eq_true rfl⟩) ⟨wB_blind, va_recv hK hPc (ci := 12) (q0 := 0) rfl rfl, wB_pre hPc hK hDc hN⟩ rfl rfl hl.1 rfl (lv_room (Nat.le_of_ble_eq_true rfl)) dX12_row_29 ⟨Nat.le_of_ble_eq_true rfl, Nat.le_of_ble_eq_true rfl⟩) hS (fun q _ h => hFc q h) hFc (fun r2 u t H1 locs ht hvm hr2 hB hz1 hk1 hS => ?_)
  obtain ⟨hP1, hK1, hD1⟩ := hB
  rw [ht] at hP1
  obtain ⟨hP, hD⟩ := va_join (wr := []) (w1 := [(h0, .inr (12, [.ref z0, .ref z1, .ref z2, .ref z3, .ref z4, .ref z5, .ref z20, .ref z21, .ref z22, .ref z23, .ref z24, .ref z25, .int 0, .ref z26, .ref z27, .ref z28, .int 9, .int 0, .int 0, .ref z6, .ref z29, .ref z7, .int 0, .int 2, .ref z19, .ref z8, .ref z9, .ref z10, .int 0, .ref z11, .int 0, .ref z30, .ref z31, .ref z32, .ref z33, .int 0, .ref z12, .int 0, .int 1, .ref z34, .ref z35, .ref z36, .ref z37, .int 0, .int 0, .int 0, .int 0, .ref z38, .int 0, .ref z39, .ref z40, .ref z41, .ref z42, .int 0, .ref z13, .ref z14, .ref z15, .ref z16, .int 0, .ref z17, .ref z18, .ref z43]))]) hP hD [0] [] rfl rfl (by decide) (by decide) hk1 hFc hP1 hD1
  clear hPc hDc
  generalize H1 = H at hP hS ⊢
  have hP : va_P D vwCl [(h0, .inr (12, [.ref z0, .ref z1, .ref z2, .ref z3, .ref z4, .ref z5, .ref z20, .ref z21, .ref z22, .ref z23, .ref z24, .ref z25, .int 0, .ref z26, .ref z27, .ref z28, .int 9, .int 0, .int 0, .ref z6, .ref z29, .ref z7, .int 0, .int 2, .ref z19, .ref z8, .ref z9, .ref z10, .int 0, .ref z11, .int 0, .ref z30, .ref z31, .ref z32, .ref z33, .int 0, .ref z12, .int 0, .int 1, .ref z34, .ref z35, .ref z36, .ref z37, .int 0, .int 0, .int 0, .int 0, .ref z38, .int 0, .ref z39, .ref z40, .ref z41, .ref z42, .int 0, .ref z13, .ref z14, .ref z15, .ref z16, .int 0, .ref z17, .ref z18, .ref z43]))] H := hP
  have hD : va_D A [(h0, .inr (12, [.ref z0, .ref z1, .ref z2, .ref z3, .ref z4, .ref z5, .ref z20, .ref z21, .ref z22, .ref z23, .ref z24, .ref z25, .int 0, .ref z26, .ref z27, .ref z28, .int 9, .int 0, .int 0, .ref z6, .ref z29, .ref z7, .int 0, .int 2, .ref z19, .ref z8, .ref z9, .ref z10, .int 0, .ref z11, .int 0, .ref z30, .ref z31, .ref z32, .ref z33, .int 0, .ref z12, .int 0, .int 1, .ref z34, .ref z35, .ref z36, .ref z37, .int 0, .int 0, .int 0, .int 0, .ref z38, .int 0, .ref z39, .ref z40, .ref z41, .ref z42, .int 0, .ref z13, .ref z14, .ref z15, .ref z16, .int 0, .ref z17, .ref z18, .ref z43]))] := hD
  subst hr2
  have hP9 := hP.sub (ws' := [(h0, .inr (12, [.ref z0, .ref z1, .ref z2, .ref z3, .ref z4, .ref z5, .ref z20, .ref z21, .ref z22, .ref z23, .ref z24, .ref z25, .int 0, .ref z26, .ref z27, .ref z28, .int 9, .int 0, .int 0, .ref z6, .ref z29, .ref z7, .int 0, .int 2, .ref z19, .ref z8, .ref z9, .ref z10, .int 0, .ref z11, .int 0, .ref z30, .ref z31, .ref z32, .ref z33, .int 0, .ref z12, .int 0, .int 1, .ref z34, .ref z35, .ref z36, .ref z37, .int 0, .int 0, .int 0, .int 0, .ref z38, .int 0, .ref z39, .ref z40, .ref z41, .ref z42, .int 0, .ref z13, .ref z14, .ref z15, .ref z16, .int 0, .ref z17, .ref z18, .ref z43]))]) [0] rfl
  have hD9 := hD.sub (ws' := [(h0, .inr (12, [.ref z0, .ref z1, .ref z2, .ref z3, .ref z4, .ref z5, .ref z20, .ref z21, .ref z22, .ref z23, .ref z24, .ref z25, .int 0, .ref z26, .ref z27, .ref z28, .int 9, .int 0, .int 0, .ref z6, .ref z29, .ref z7, .int 0, .int 2, .ref z19, .ref z8, .ref z9, .ref z10, .int 0, .ref z11, .int 0, .ref z30, .ref z31, .ref z32, .ref z33, .int 0, .ref z12, .int 0, .int 1, .ref z34, .ref z35, .ref z36, .ref z37, .int 0, .int 0, .int 0, .int 0, .ref z38, .int 0, .ref z39, .ref z40, .ref z41, .ref z42, .int 0, .ref z13, .ref z14, .ref z15, .ref z16, .int 0, .ref z17, .ref z18, .ref z43]))]) [0] (by decide) rfl
  exact W.iret (v := 0) hx hb hr (fun t ht hW => ⟨⟨0, (), rfl, rfl, ⟨by rw [ht]; exact hP9, va_K.moved hW.alike hK, hD9⟩⟩, hS.F ht⟩) hS.2.2 dX12_row_32

theorem mX12_set_w0 : Cond.fieldLink RX12 157 "PuppetBridgeModel" "thrown" "I" ∈ wsX12_set := by decide +kernel
theorem mX12_set_w1 : Cond.fieldLink RX12 56 "PuppetBridgeModel" "rate" "I" ∈ wsX12_set := by decide +kernel
theorem mX12_set_w2 : Cond.fieldLink RX12 244 "PuppetBridgeModel" "near" "I" ∈ wsX12_set := by decide +kernel
theorem mX12_set_w3 : Cond.fieldLink RX12 222 "PuppetBridgeModel" "isSlippery" "Z" ∈ wsX12_set := by decide +kernel
theorem iX12_set_X12 : ∀ w ∈ wsX120, w ∈ wsX12_set := fun _ h => List.mem_cons_of_mem _ (List.mem_append_right _ h)
set_option maxRecDepth 20000 in
theorem ggX12_set_X12_in : GoodIn wsX12_set wsX12_in := goodIn_r _ [8] (by decide +kernel) (by decide +kernel)
set_option maxRecDepth 20000 in
theorem gX12_set_X12_in : GoodIn wsX12_set (va_wsS RX12 163 yX12_in wsX12_in) := goodIn_app (goodIn_of _ (by decide +kernel)) ggX12_set_X12_in
theorem dX12_set_0 : decode cX12_set 0 = .ok (.aload_n 0, 1) := by decide +kernel
theorem dX12_set_1 : decode cX12_set 1 = .ok (.iconst 0, 1) := by decide +kernel
theorem dX12_set_2 : decode cX12_set 2 = .ok (.putfield 157, 3) := by decide +kernel
theorem dX12_set_5 : decode cX12_set 5 = .ok (.iload_n 1, 1) := by decide +kernel
theorem dX12_set_6 : decode cX12_set 6 = .ok (.iconst 0, 1) := by decide +kernel
theorem dX12_set_7 : decode cX12_set 7 = .ok (.iconst 2, 1) := by decide +kernel
theorem dX12_set_8 : decode cX12_set 8 = .ok (.invokestatic 163, 3) := by decide +kernel
theorem dX12_set_11 : decode cX12_set 11 = .ok (.ifCond .eq 40, 3) := by decide +kernel
theorem dX12_set_14 : decode cX12_set 14 = .ok (.iload_n 2, 1) := by decide +kernel
theorem dX12_set_15 : decode cX12_set 15 = .ok (.iload_n 1, 1) := by decide +kernel
theorem dX12_set_16 : decode cX12_set 16 = .ok (.ifCond .ne 7, 3) := by decide +kernel
theorem dX12_set_19 : decode cX12_set 19 = .ok (.iconst 1, 1) := by decide +kernel
theorem dX12_set_20 : decode cX12_set 20 = .ok (.goto 4, 3) := by decide +kernel
theorem dX12_set_23 : decode cX12_set 23 = .ok (.iconst 0, 1) := by decide +kernel
theorem dX12_set_24 : decode cX12_set 24 = .ok (.iload_n 1, 1) := by decide +kernel
theorem dX12_set_25 : decode cX12_set 25 = .ok (.ifCond .ne 8, 3) := by decide +kernel
theorem dX12_set_28 : decode cX12_set 28 = .ok (.bipush 9, 2) := by decide +kernel
theorem dX12_set_30 : decode cX12_set 30 = .ok (.goto 15, 3) := by decide +kernel
theorem dX12_set_33 : decode cX12_set 33 = .ok (.iload_n 1, 1) := by decide +kernel
theorem dX12_set_34 : decode cX12_set 34 = .ok (.iconst 1, 1) := by decide +kernel
theorem dX12_set_35 : decode cX12_set 35 = .ok (.if_icmp .ne 9, 3) := by decide +kernel
theorem dX12_set_38 : decode cX12_set 38 = .ok (.sipush 2000, 3) := by decide +kernel
theorem dX12_set_41 : decode cX12_set 41 = .ok (.goto 4, 3) := by decide +kernel
theorem dX12_set_44 : decode cX12_set 44 = .ok (.iconst 1, 1) := by decide +kernel
theorem dX12_set_45 : decode cX12_set 45 = .ok (.invokestatic 163, 3) := by decide +kernel
theorem dX12_set_48 : decode cX12_set 48 = .ok (.ifCond .ne 5, 3) := by decide +kernel
theorem dX12_set_51 : decode cX12_set 51 = .ok (.iconst (-1), 1) := by decide +kernel
theorem dX12_set_52 : decode cX12_set 52 = .ok (.ireturn, 1) := by decide +kernel
theorem dX12_set_53 : decode cX12_set 53 = .ok (.iload_n 1, 1) := by decide +kernel
theorem dX12_set_54 : decode cX12_set 54 = .ok (.ifCond .ne 10, 3) := by decide +kernel
theorem dX12_set_57 : decode cX12_set 57 = .ok (.aload_n 0, 1) := by decide +kernel
theorem dX12_set_58 : decode cX12_set 58 = .ok (.getfield 56, 3) := by decide +kernel
theorem dX12_set_61 : decode cX12_set 61 = .ok (.goto 27, 3) := by decide +kernel
theorem dX12_set_64 : decode cX12_set 64 = .ok (.iload_n 1, 1) := by decide +kernel
theorem dX12_set_65 : decode cX12_set 65 = .ok (.iconst 1, 1) := by decide +kernel
theorem dX12_set_66 : decode cX12_set 66 = .ok (.if_icmp .ne 10, 3) := by decide +kernel
theorem dX12_set_69 : decode cX12_set 69 = .ok (.aload_n 0, 1) := by decide +kernel
theorem dX12_set_70 : decode cX12_set 70 = .ok (.getfield 244, 3) := by decide +kernel
theorem dX12_set_73 : decode cX12_set 73 = .ok (.goto 15, 3) := by decide +kernel
theorem dX12_set_76 : decode cX12_set 76 = .ok (.aload_n 0, 1) := by decide +kernel
theorem dX12_set_77 : decode cX12_set 77 = .ok (.getfield 222, 3) := by decide +kernel
theorem dX12_set_80 : decode cX12_set 80 = .ok (.ifCond .eq 7, 3) := by decide +kernel
theorem dX12_set_87 : decode cX12_set 87 = .ok (.iconst 0, 1) := by decide +kernel
theorem dX12_set_88 : decode cX12_set 88 = .ok (.istore_n 3, 1) := by decide +kernel
theorem dX12_set_89 : decode cX12_set 89 = .ok (.iload_n 1, 1) := by decide +kernel
theorem dX12_set_90 : decode cX12_set 90 = .ok (.ifCond .ne 11, 3) := by decide +kernel
theorem dX12_set_93 : decode cX12_set 93 = .ok (.aload_n 0, 1) := by decide +kernel
theorem dX12_set_94 : decode cX12_set 94 = .ok (.iload_n 2, 1) := by decide +kernel
theorem dX12_set_95 : decode cX12_set 95 = .ok (.putfield 56, 3) := by decide +kernel
theorem dX12_set_98 : decode cX12_set 98 = .ok (.goto 30, 3) := by decide +kernel
theorem dX12_set_101 : decode cX12_set 101 = .ok (.iload_n 1, 1) := by decide +kernel
theorem dX12_set_102 : decode cX12_set 102 = .ok (.iconst 1, 1) := by decide +kernel
theorem dX12_set_103 : decode cX12_set 103 = .ok (.if_icmp .ne 11, 3) := by decide +kernel
theorem dX12_set_106 : decode cX12_set 106 = .ok (.aload_n 0, 1) := by decide +kernel
theorem dX12_set_107 : decode cX12_set 107 = .ok (.iload_n 2, 1) := by decide +kernel
theorem dX12_set_108 : decode cX12_set 108 = .ok (.putfield 244, 3) := by decide +kernel
theorem dX12_set_111 : decode cX12_set 111 = .ok (.goto 17, 3) := by decide +kernel
theorem dX12_set_114 : decode cX12_set 114 = .ok (.aload_n 0, 1) := by decide +kernel
theorem dX12_set_115 : decode cX12_set 115 = .ok (.iload_n 2, 1) := by decide +kernel
theorem dX12_set_116 : decode cX12_set 116 = .ok (.iconst 1, 1) := by decide +kernel
theorem dX12_set_117 : decode cX12_set 117 = .ok (.if_icmp .ne 7, 3) := by decide +kernel
theorem dX12_set_120 : decode cX12_set 120 = .ok (.iconst 1, 1) := by decide +kernel
theorem dX12_set_121 : decode cX12_set 121 = .ok (.goto 4, 3) := by decide +kernel
theorem dX12_set_124 : decode cX12_set 124 = .ok (.iconst 0, 1) := by decide +kernel
theorem dX12_set_125 : decode cX12_set 125 = .ok (.putfield 222, 3) := by decide +kernel
theorem dX12_set_128 : decode cX12_set 128 = .ok (.iload_n 3, 1) := by decide +kernel
theorem dX12_set_129 : decode cX12_set 129 = .ok (.ireturn, 1) := by decide +kernel
set_option maxHeartbeats 4000000 in
set_option maxRecDepth 100000 in
/-- X12_set -/
theorem kX12_set (l : Launch) (D : va_G) (G : tyG) (h0 : Nat) (x1 : Int32) (x2 : Int32) (z0 : Nat) (z1 : Nat) (z2 : Nat) (z3 : Nat) (z4 : Nat) (z5 : Nat) (z20 : Nat) (z21 : Nat) (z22 : Nat) (z23 : Nat) (z24 : Nat) (z25 : Nat) (z26 : Nat) (z27 : Nat) (z28 : Nat) (z6 : Nat) (z29 : Nat) (z7 : Nat) (z19 : Nat) (z8 : Nat) (z9 : Nat) (z10 : Nat) (z11 : Nat) (z30 : Nat) (z31 : Nat) (z32 : Nat) (z33 : Nat) (z12 : Nat) (z34 : Nat) (z35 : Nat) (z36 : Nat) (z37 : Nat) (z38 : Nat) (z39 : Nat) (z40 : Nat) (z41 : Nat) (z42 : Nat) (z13 : Nat) (z14 : Nat) (z15 : Nat) (z16 : Nat) (z17 : Nat) (z18 : Nat) (z43 : Nat) (sz : Nat) : Met l yX12_set wsX12_set ({ frames := 1, cells := 0, slots := 0, locals := 22 }) (va_Pc [.ref h0, .int x1, .int x2] (wB D G sz [(h0, .inr (12, [.ref z0, .ref z1, .ref z2, .ref z3, .ref z4, .ref z5, .ref z20, .ref z21, .ref z22, .ref z23, .ref z24, .ref z25, .int 0, .ref z26, .ref z27, .ref z28, .int 9, .int 0, .int 0, .ref z6, .ref z29, .ref z7, .int 0, .int 2, .ref z19, .ref z8, .ref z9, .ref z10, .int 0, .ref z11, .int 0, .ref z30, .ref z31, .ref z32, .ref z33, .int 0, .ref z12, .int 0, .int 0, .ref z34, .ref z35, .ref z36, .ref z37, .int 0, .int 0, .int 0, .int 0, .ref z38, .int 0, .ref z39, .ref z40, .ref z41, .ref z42, .int 0, .ref z13, .ref z14, .ref z15, .ref z16, .int 0, .ref z17, .ref z18, .ref z43]))])) (va_Qi (fun (r : Int32) (_ : Unit) => r = sSet x1 x2) (fun _ _ => True) (va_A [(h0, .inr (12, [.ref z0, .ref z1, .ref z2, .ref z3, .ref z4, .ref z5, .ref z20, .ref z21, .ref z22, .ref z23, .ref z24, .ref z25, .int 0, .ref z26, .ref z27, .ref z28, .int 9, .int 0, .int 0, .ref z6, .ref z29, .ref z7, .int 0, .int 2, .ref z19, .ref z8, .ref z9, .ref z10, .int 0, .ref z11, .int 0, .ref z30, .ref z31, .ref z32, .ref z33, .int 0, .ref z12, .int 0, .int 0, .ref z34, .ref z35, .ref z36, .ref z37, .int 0, .int 0, .int 0, .int 0, .ref z38, .int 0, .ref z39, .ref z40, .ref z41, .ref z42, .int 0, .ref z13, .ref z14, .ref z15, .ref z16, .int 0, .ref z17, .ref z18, .ref z43]))] sz)) 0 0 (va_A [(h0, .inr (12, [.ref z0, .ref z1, .ref z2, .ref z3, .ref z4, .ref z5, .ref z20, .ref z21, .ref z22, .ref z23, .ref z24, .ref z25, .int 0, .ref z26, .ref z27, .ref z28, .int 9, .int 0, .int 0, .ref z6, .ref z29, .ref z7, .int 0, .int 2, .ref z19, .ref z8, .ref z9, .ref z10, .int 0, .ref z11, .int 0, .ref z30, .ref z31, .ref z32, .ref z33, .int 0, .ref z12, .int 0, .int 0, .ref z34, .ref z35, .ref z36, .ref z37, .int 0, .int 0, .int 0, .int 0, .ref z38, .int 0, .ref z39, .ref z40, .ref z41, .ref z42, .int 0, .ref z13, .ref z14, .ref z15, .ref z16, .int 0, .ref z17, .ref z18, .ref z43]))] sz) := by
  refine Met.ofW (cc := cX12_set) (maxL := 4) (ret := (some .int)) (by decide) rfl ?_
  intro p e s m args below meth c s₁ B hml hv
  obtain ⟨rfl, hsz, hP, hK, hD0, hN⟩ := hv
  have hx := B.exec
  have hb := B.bytes
  have hr := B.returns
  have hts := atoms_spec (ws := wsX12_set) B.pre
  have hown : s.vm.findClass RX12 = some m.cls := findClass_of_methodNamed B.named
  have hlocks := B.notSynchronized
  subst hsz
  have hD := hD0.self (sz := s.heap.size)
  generalize hAe : va_A [(h0, .inr (12, [.ref z0, .ref z1, .ref z2, .ref z3, .ref z4, .ref z5, .ref z20, .ref z21, .ref z22, .ref z23, .ref z24, .ref z25, .int 0, .ref z26, .ref z27, .ref z28, .int 9, .int 0, .int 0, .ref z6, .ref z29, .ref z7, .int 0, .int 2, .ref z19, .ref z8, .ref z9, .ref z10, .int 0, .ref z11, .int 0, .ref z30, .ref z31, .ref z32, .ref z33, .int 0, .ref z12, .int 0, .int 0, .ref z34, .ref z35, .ref z36, .ref z37, .int 0, .int 0, .int 0, .int 0, .ref z38, .int 0, .ref z39, .ref z40, .ref z41, .ref z42, .int 0, .ref z13, .ref z14, .ref z15, .ref z16, .int 0, .ref z17, .ref z18, .ref z43]))] s.heap.size = A at hD ⊢
  have hA : ∀ q : Nat, s.heap.size ≤ q → A q := fun q h => by rw [← hAe]; exact Or.inr h
  have hS : va_S A s.heap s.heap [] := va_S.rf
  have hP : va_P D vwCl [(h0, .inr (12, [.ref z0, .ref z1, .ref z2, .ref z3, .ref z4, .ref z5, .ref z20, .ref z21, .ref z22, .ref z23, .ref z24, .ref z25, .int 0, .ref z26, .ref z27, .ref z28, .int 9, .int 0, .int 0, .ref z6, .ref z29, .ref z7, .int 0, .int 2, .ref z19, .ref z8, .ref z9, .ref z10, .int 0, .ref z11, .int 0, .ref z30, .ref z31, .ref z32, .ref z33, .int 0, .ref z12, .int 0, .int 0, .ref z34, .ref z35, .ref z36, .ref z37, .int 0, .int 0, .int 0, .int 0, .ref z38, .int 0, .ref z39, .ref z40, .ref z41, .ref z42, .int 0, .ref z13, .ref z14, .ref z15, .ref z16, .int 0, .ref z17, .ref z18, .ref z43]))] s.heap := hP
  have hl := lv_entry ([.ref h0, .int x1, .int x2]) (n := 4) (Nat.le_of_ble_eq_true rfl)
  rw [lg_entry_eq]
  generalize (lg_sl ([.ref h0, .int x1, .int x2]) ++ List.replicate (4 - (lg_sl ([.ref h0, .int x1, .int x2])).length) Slot.unset).toArray = ls at hl ⊢
  have hl : lv_has ls 4 [(0, .ref h0), (1, .int x1), (2, .int x2)] := hl
  refine lv_aload_n hx hb dX12_set_0 rfl (lv_at hl 0 rfl) ?_
  refine lv_iconst (v := 0) hx hb dX12_set_1 (by decide) ?_
  refine va_put (D := D) (ci := 12) (v := .int 0) (ty := (tyX12 38)) (C := RX12) (T := TX12) (N := 62) hx hb hts iX12_set_X12 tyX12 tyX12_ok nmX12 hown hK hP hD hS 0 rfl rfl 38 (by decide) (hts (.fieldLink RX12 157 "PuppetBridgeModel" "thrown" "I") mX12_set_w0) (fun _ h9 => h9) rfl (tyX12_ok 38 (by decide)) rfl rfl (Nat.le_of_ble_eq_true rfl) dX12_set_2 (fun H locs hP hD hS => ?_)
  have hP : va_P D vwCl [(h0, .inr (12, [.ref z0, .ref z1, .ref z2, .ref z3, .ref z4, .ref z5, .ref z20, .ref z21, .ref z22, .ref z23, .ref z24, .ref z25, .int 0, .ref z26, .ref z27, .ref z28, .int 9, .int 0, .int 0, .ref z6, .ref z29, .ref z7, .int 0, .int 2, .ref z19, .ref z8, .ref z9, .ref z10, .int 0, .ref z11, .int 0, .ref z30, .ref z31, .ref z32, .ref z33, .int 0, .ref z12, .int 0, .int 0, .ref z34, .ref z35, .ref z36, .ref z37, .int 0, .int 0, .int 0, .int 0, .ref z38, .int 0, .ref z39, .ref z40, .ref z41, .ref z42, .int 0, .ref z13, .ref z14, .ref z15, .ref z16, .int 0, .ref z17, .ref z18, .ref z43]))] H := hP
  have hD : va_D A [(h0, .inr (12, [.ref z0, .ref z1, .ref z2, .ref z3, .ref z4, .ref z5, .ref z20, .ref z21, .ref z22, .ref z23, .ref z24, .ref z25, .int 0, .ref z26, .ref z27, .ref z28, .int 9, .int 0, .int 0, .ref z6, .ref z29, .ref z7, .int 0, .int 2, .ref z19, .ref z8, .ref z9, .ref z10, .int 0, .ref z11, .int 0, .ref z30, .ref z31, .ref z32, .ref z33, .int 0, .ref z12, .int 0, .int 0, .ref z34, .ref z35, .ref z36, .ref z37, .int 0, .int 0, .int 0, .int 0, .ref z38, .int 0, .ref z39, .ref z40, .ref z41, .ref z42, .int 0, .ref z13, .ref z14, .ref z15, .ref z16, .int 0, .ref z17, .ref z18, .ref z43]))] := hD
  refine lv_iload_n hx hb dX12_set_5 rfl (lv_at hl 1 rfl) ?_
  refine lv_iconst (v := 0) hx hb dX12_set_6 (by decide) ?_
  refine lv_iconst (v := 2) hx hb dX12_set_7 (by decide) ?_
  have hPc := hP.sub (ws' := []) [] rfl
  have hDc := hD.sub (ws' := []) [] (by decide) rfl
  have hFc := va_free (wc := []) hD hS hA [] rfl
  refine va_calli (va_runS (As := [.int x1, .int 0, .int 2]) (rest := []) ⟨hx, hb, hml, hown, hts⟩ (kX12_in l D G x1 0 2 H.size) (va_cwS 3 hts gX12_set_X12_in rfl rfl rfl (by decide +kernel) ⟨Nat.le_of_ble_eq_true rfl, Nat.le_of_ble_eq_true rfl⟩) ⟨wB_blind, wB_pre hPc hK hDc hN⟩ rfl rfl hl.1 rfl (lv_room (Nat.le_of_ble_eq_true rfl)) dX12_set_8 ⟨Nat.le_of_ble_eq_true rfl, Nat.le_of_ble_eq_true rfl⟩) hS (fun q _ h => hFc q h) hFc (fun r1 u t H1 locs ht hvm hr1 hB hz1 hk1 hS => ?_)
  obtain ⟨hP, hD⟩ := va_join (wr := [(h0, .inr (12, [.ref z0, .ref z1, .ref z2, .ref z3, .ref z4, .ref z5, .ref z20, .ref z21, .ref z22, .ref z23, .ref z24, .ref z25, .int 0, .ref z26, .ref z27, .ref z28, .int 9, .int 0, .int 0, .ref z6, .ref z29, .ref z7, .int 0, .int 2, .ref z19, .ref z8, .ref z9, .ref z10, .int 0, .ref z11, .int 0, .ref z30, .ref z31, .ref z32, .ref z33, .int 0, .ref z12, .int 0, .int 0, .ref z34, .ref z35, .ref z36, .ref z37, .int 0, .int 0, .int 0, .int 0, .ref z38, .int 0, .ref z39, .ref z40, .ref z41, .ref z42, .int 0, .ref z13, .ref z14, .ref z15, .ref z16, .int 0, .ref z17, .ref z18, .ref z43]))]) (w1 := []) hP hD [] [0] rfl rfl (by decide) (by decide) hk1 hFc wP_nil wD_nil
  clear hPc hDc
  generalize H1 = H at hP hS ⊢
  have hP : va_P D vwCl [(h0, .inr (12, [.ref z0, .ref z1, .ref z2, .ref z3, .ref z4, .ref z5, .ref z20, .ref z21, .ref z22, .ref z23, .ref z24, .ref z25, .int 0, .ref z26, .ref z27, .ref z28, .int 9, .int 0, .int 0, .ref z6, .ref z29, .ref z7, .int 0, .int 2, .ref z19, .ref z8, .ref z9, .ref z10, .int 0, .ref z11, .int 0, .ref z30, .ref z31, .ref z32, .ref z33, .int 0, .ref z12, .int 0, .int 0, .ref z34, .ref z35, .ref z36, .ref z37, .int 0, .int 0, .int 0, .int 0, .ref z38, .int 0, .ref z39, .ref z40, .ref z41, .ref z42, .int 0, .ref z13, .ref z14, .ref z15, .ref z16, .int 0, .ref z17, .ref z18, .ref z43]))] H := hP
  have hD : va_D A [(h0, .inr (12, [.ref z0, .ref z1, .ref z2, .ref z3, .ref z4, .ref z5, .ref z20, .ref z21, .ref z22, .ref z23, .ref z24, .ref z25, .int 0, .ref z26, .ref z27, .ref z28, .int 9, .int 0, .int 0, .ref z6, .ref z29, .ref z7, .int 0, .int 2, .ref z19, .ref z8, .ref z9, .ref z10, .int 0, .ref z11, .int 0, .ref z30, .ref z31, .ref z32, .ref z33, .int 0, .ref z12, .int 0, .int 0, .ref z34, .ref z35, .ref z36, .ref z37, .int 0, .int 0, .int 0, .int 0, .ref z38, .int 0, .ref z39, .ref z40, .ref z41, .ref z42, .int 0, .ref z13, .ref z14, .ref z15, .ref z16, .int 0, .ref z17, .ref z18, .ref z43]))] := hD
  refine lv_if_eq (tgt := 51) hx hb dX12_set_11 (by decide) (fun c2 => ?_) (fun c2 => ?_)
  · have kc2 : (inB x1 0 2) = false := wk_b0 hr1 c2
    refine lv_iconst (v := (-1)) hx hb dX12_set_51 (by decide) ?_
    exact W.iret (v := (-1)) hx hb hr (fun t ht hW => ⟨⟨(-1), (), rfl, sSet_out kc2, trivial⟩, hS.F ht⟩) hS.2.2 dX12_set_52
  · have kc2 : (inB x1 0 2) = true := wk_b1 hr1 c2
    rcases (inB_012 kc2) with rfl | rfl | rfl
    · refine lv_iload_n hx hb dX12_set_14 rfl (lv_at hl 2 rfl) ?_
      refine lv_iload_n hx hb dX12_set_15 rfl (lv_at hl 1 rfl) ?_
      refine lv_if_ne (tgt := 23) hx hb dX12_set_16 (by decide) (fun h9 => absurd h9 (by decide)) (fun _ => ?_)
      refine lv_iconst (v := 1) hx hb dX12_set_19 (by decide) ?_
      refine lv_goto (tgt := 24) hx hb dX12_set_20 (by decide) ?_
      refine lv_iload_n hx hb dX12_set_24 rfl (lv_at hl 1 rfl) ?_
      refine lv_if_ne (tgt := 33) hx hb dX12_set_25 (by decide) (fun h9 => absurd h9 (by decide)) (fun _ => ?_)
      refine lv_bipush (v := 9) hx hb dX12_set_28 (by decide) ?_
      refine lv_goto (tgt := 45) hx hb dX12_set_30 (by decide) ?_
      have hPc := hP.sub (ws' := []) [] rfl
      have hDc := hD.sub (ws' := []) [] (by decide) rfl
      have hFc := va_free (wc := []) hD hS hA [] rfl
      refine va_calli (va_runS (As := [.int x2, .int 1, .int 9]) (rest := []) ⟨hx, hb, hml, hown, hts⟩ (kX12_in l D G x2 1 9 H.size) (va_cwS 3 hts gX12_set_X12_in rfl rfl rfl (by decide +kernel) ⟨Nat.le_of_ble_eq_true rfl, Nat.le_of_ble_eq_true rfl⟩) ⟨wB_blind, wB_pre hPc hK hDc hN⟩ rfl rfl hl.1 rfl (lv_room (Nat.le_of_ble_eq_true rfl)) dX12_set_45 ⟨Nat.le_of_ble_eq_true rfl, Nat.le_of_ble_eq_true rfl⟩) hS (fun q _ h => hFc q h) hFc (fun r3 u t H1 locs ht hvm hr3 hB hz1 hk1 hS => ?_)
      obtain ⟨hP, hD⟩ := va_join (wr := [(h0, .inr (12, [.ref z0, .ref z1, .ref z2, .ref z3, .ref z4, .ref z5, .ref z20, .ref z21, .ref z22, .ref z23, .ref z24, .ref z25, .int 0, .ref z26, .ref z27, .ref z28, .int 9, .int 0, .int 0, .ref z6, .ref z29, .ref z7, .int 0, .int 2, .ref z19, .ref z8, .ref z9, .ref z10, .int 0, .ref z11, .int 0, .ref z30, .ref z31, .ref z32, .ref z33, .int 0, .ref z12, .int 0, .int 0, .ref z34, .ref z35, .ref z36, .ref z37, .int 0, .int 0, .int 0, .int 0, .ref z38, .int 0, .ref z39, .ref z40, .ref z41, .ref z42, .int 0, .ref z13, .ref z14, .ref z15, .ref z16, .int 0, .ref z17, .ref z18, .ref z43]))]) (w1 := []) hP hD [] [0] rfl rfl (by decide) (by decide) hk1 hFc wP_nil wD_nil
      clear hPc hDc
      generalize H1 = H at hP hS ⊢
      have hP : va_P D vwCl [(h0, .inr (12, [.ref z0, .ref z1, .ref z2, .ref z3, .ref z4, .ref z5, .ref z20, .ref z21, .ref z22, .ref z23, .ref z24, .ref z25, .int 0, .ref z26, .ref z27, .ref z28, .int 9, .int 0, .int 0, .ref z6, .ref z29, .ref z7, .int 0, .int 2, .ref z19, .ref z8, .ref z9, .ref z10, .int 0, .ref z11, .int 0, .ref z30, .ref z31, .ref z32, .ref z33, .int 0, .ref z12, .int 0, .int 0, .ref z34, .ref z35, .ref z36, .ref z37, .int 0, .int 0, .int 0, .int 0, .ref z38, .int 0, .ref z39, .ref z40, .ref z41, .ref z42, .int 0, .ref z13, .ref z14, .ref z15, .ref z16, .int 0, .ref z17, .ref z18, .ref z43]))] H := hP
      have hD : va_D A [(h0, .inr (12, [.ref z0, .ref z1, .ref z2, .ref z3, .ref z4, .ref z5, .ref z20, .ref z21, .ref z22, .ref z23, .ref z24, .ref z25, .int 0, .ref z26, .ref z27, .ref z28, .int 9, .int 0, .int 0, .ref z6, .ref z29, .ref z7, .int 0, .int 2, .ref z19, .ref z8, .ref z9, .ref z10, .int 0, .ref z11, .int 0, .ref z30, .ref z31, .ref z32, .ref z33, .int 0, .ref z12, .int 0, .int 0, .ref z34, .ref z35, .ref z36, .ref z37, .int 0, .int 0, .int 0, .int 0, .ref z38, .int 0, .ref z39, .ref z40, .ref z41, .ref z42, .int 0, .ref z13, .ref z14, .ref z15, .ref z16, .int 0, .ref z17, .ref z18, .ref z43]))] := hD
      refine lv_if_ne (tgt := 53) hx hb dX12_set_48 (by decide) (fun c4 => ?_) (fun c4 => ?_)
      · have kc4 : (inB x2 1 9) = true := wk_b1 hr3 c4
        refine lv_iload_n hx hb dX12_set_53 rfl (lv_at hl 1 rfl) ?_
        refine lv_if_ne (tgt := 64) hx hb dX12_set_54 (by decide) (fun h9 => absurd h9 (by decide)) (fun _ => ?_)
        refine lv_aload_n hx hb dX12_set_57 rfl (lv_at hl 0 rfl) ?_
        refine va_get (D := D) (ci := 12) (v := .int 9) (C := RX12) (T := TX12) (N := 62) hx hb hts iX12_set_X12 hown hK hP 0 rfl rfl 16 (by decide) (hts (.fieldLink RX12 56 "PuppetBridgeModel" "rate" "I") mX12_set_w1) (fun _ h9 => h9) rfl dX12_set_58 ?_
        refine lv_goto (tgt := 88) hx hb dX12_set_61 (by decide) ?_
        refine lv_istore_n (lv' := [(3, .int 9), (0, .ref h0), (1, .int 0), (2, .int x2)]) hx hb dX12_set_88 rfl hl (by decide) rfl (fun ls hl => ?_)
        refine lv_iload_n hx hb dX12_set_89 rfl (lv_at hl 2 rfl) ?_
        refine lv_if_ne (tgt := 101) hx hb dX12_set_90 (by decide) (fun h9 => absurd h9 (by decide)) (fun _ => ?_)
        refine lv_aload_n hx hb dX12_set_93 rfl (lv_at hl 1 rfl) ?_
        refine lv_iload_n hx hb dX12_set_94 rfl (lv_at hl 3 rfl) ?_
        refine va_put (D := D) (ci := 12) (v := .int x2) (ty := (tyX12 16)) (C := RX12) (T := TX12) (N := 62) hx hb hts iX12_set_X12 tyX12 tyX12_ok nmX12 hown hK hP hD hS 0 rfl rfl 16 (by decide) (hts (.fieldLink RX12 56 "PuppetBridgeModel" "rate" "I") mX12_set_w1) (fun _ h9 => h9) rfl (tyX12_ok 16 (by decide)) rfl rfl (Nat.le_of_ble_eq_true rfl) dX12_set_95 (fun H locs hP hD hS => ?_)
        have hP : va_P D vwCl [(h0, .inr (12, [.ref z0, .ref z1, .ref z2, .ref z3, .ref z4, .ref z5, .ref z20, .ref z21, .ref z22, .ref z23, .ref z24, .ref z25, .int 0, .ref z26, .ref z27, .ref z28, .int x2, .int 0, .int 0, .ref z6, .ref z29, .ref z7, .int 0, .int 2, .ref z19, .ref z8, .ref z9, .ref z10, .int 0, .ref z11, .int 0, .ref z30, .ref z31, .ref z32, .ref z33, .int 0, .ref z12, .int 0, .int 0, .ref z34, .ref z35, .ref z36, .ref z37, .int 0, .int 0, .int 0, .int 0, .ref z38, .int 0, .ref z39, .ref z40, .ref z41, .ref z42, .int 0, .ref z13, .ref z14, .ref z15, .ref z16, .int 0, .ref z17, .ref z18, .ref z43]))] H := hP
        have hD : va_D A [(h0, .inr (12, [.ref z0, .ref z1, .ref z2, .ref z3, .ref z4, .ref z5, .ref z20, .ref z21, .ref z22, .ref z23, .ref z24, .ref z25, .int 0, .ref z26, .ref z27, .ref z28, .int x2, .int 0, .int 0, .ref z6, .ref z29, .ref z7, .int 0, .int 2, .ref z19, .ref z8, .ref z9, .ref z10, .int 0, .ref z11, .int 0, .ref z30, .ref z31, .ref z32, .ref z33, .int 0, .ref z12, .int 0, .int 0, .ref z34, .ref z35, .ref z36, .ref z37, .int 0, .int 0, .int 0, .int 0, .ref z38, .int 0, .ref z39, .ref z40, .ref z41, .ref z42, .int 0, .ref z13, .ref z14, .ref z15, .ref z16, .int 0, .ref z17, .ref z18, .ref z43]))] := hD
        refine lv_goto (tgt := 128) hx hb dX12_set_98 (by decide) ?_
        refine lv_iload_n hx hb dX12_set_128 rfl (lv_at hl 0 rfl) ?_
        exact W.iret (v := 9) hx hb hr (fun t ht hW => ⟨⟨9, (), rfl, by first | (simp [sSet, kc4]; done) | rfl, trivial⟩, hS.F ht⟩) hS.2.2 dX12_set_129
      · have kc4 : (inB x2 1 9) = false := wk_b0 hr3 c4
        refine lv_iconst (v := (-1)) hx hb dX12_set_51 (by decide) ?_
        exact W.iret (v := (-1)) hx hb hr (fun t ht hW => ⟨⟨(-1), (), rfl, by first | (simp [sSet, kc4]; done) | rfl, trivial⟩, hS.F ht⟩) hS.2.2 dX12_set_52
    · refine lv_iload_n hx hb dX12_set_14 rfl (lv_at hl 2 rfl) ?_
      refine lv_iload_n hx hb dX12_set_15 rfl (lv_at hl 1 rfl) ?_
      refine lv_if_ne (tgt := 23) hx hb dX12_set_16 (by decide) (fun _ => ?_) (fun h9 => absurd h9 (by decide))
      refine lv_iconst (v := 0) hx hb dX12_set_23 (by decide) ?_
      refine lv_iload_n hx hb dX12_set_24 rfl (lv_at hl 1 rfl) ?_
      refine lv_if_ne (tgt := 33) hx hb dX12_set_25 (by decide) (fun _ => ?_) (fun h9 => absurd h9 (by decide))
      refine lv_iload_n hx hb dX12_set_33 rfl (lv_at hl 1 rfl) ?_
      refine lv_iconst (v := 1) hx hb dX12_set_34 (by decide) ?_
      refine lv_icmp_ne (tgt := 44) hx hb dX12_set_35 (by decide) (fun h9 => absurd h9 (by decide)) (fun _ => ?_)
      refine lv_sipush (v := 2000) hx hb dX12_set_38 (by decide) ?_
      refine lv_goto (tgt := 45) hx hb dX12_set_41 (by decide) ?_
      have hPc := hP.sub (ws' := []) [] rfl
      have hDc := hD.sub (ws' := []) [] (by decide) rfl
      have hFc := va_free (wc := []) hD hS hA [] rfl
      refine va_calli (va_runS (As := [.int x2, .int 0, .int 2000]) (rest := []) ⟨hx, hb, hml, hown, hts⟩ (kX12_in l D G x2 0 2000 H.size) (va_cwS 3 hts gX12_set_X12_in rfl rfl rfl (by decide +kernel) ⟨Nat.le_of_ble_eq_true rfl, Nat.le_of_ble_eq_true rfl⟩) ⟨wB_blind, wB_pre hPc hK hDc hN⟩ rfl rfl hl.1 rfl (lv_room (Nat.le_of_ble_eq_true rfl)) dX12_set_45 ⟨Nat.le_of_ble_eq_true rfl, Nat.le_of_ble_eq_true rfl⟩) hS (fun q _ h => hFc q h) hFc (fun r5 u t H1 locs ht hvm hr5 hB hz1 hk1 hS => ?_)
      obtain ⟨hP, hD⟩ := va_join (wr := [(h0, .inr (12, [.ref z0, .ref z1, .ref z2, .ref z3, .ref z4, .ref z5, .ref z20, .ref z21, .ref z22, .ref z23, .ref z24, .ref z25, .int 0, .ref z26, .ref z27, .ref z28, .int 9, .int 0, .int 0, .ref z6, .ref z29, .ref z7, .int 0, .int 2, .ref z19, .ref z8, .ref z9, .ref z10, .int 0, .ref z11, .int 0, .ref z30, .ref z31, .ref z32, .ref z33, .int 0, .ref z12, .int 0, .int 0, .ref z34, .ref z35, .ref z36, .ref z37, .int 0, .int 0, .int 0, .int 0, .ref z38, .int 0, .ref z39, .ref z40, .ref z41, .ref z42, .int 0, .ref z13, .ref z14, .ref z15, .ref z16, .int 0, .ref z17, .ref z18, .ref z43]))]) (w1 := []) hP hD [] [0] rfl rfl (by decide) (by decide) hk1 hFc wP_nil wD_nil
      clear hPc hDc
      generalize H1 = H at hP hS ⊢
      have hP : va_P D vwCl [(h0, .inr (12, [.ref z0, .ref z1, .ref z2, .ref z3, .ref z4, .ref z5, .ref z20, .ref z21, .ref z22, .ref z23, .ref z24, .ref z25, .int 0, .ref z26, .ref z27, .ref z28, .int 9, .int 0, .int 0, .ref z6, .ref z29, .ref z7, .int 0, .int 2, .ref z19, .ref z8, .ref z9, .ref z10, .int 0, .ref z11, .int 0, .ref z30, .ref z31, .ref z32, .ref z33, .int 0, .ref z12, .int 0, .int 0, .ref z34, .ref z35, .ref z36, .ref z37, .int 0, .int 0, .int 0, .int 0, .ref z38, .int 0, .ref z39, .ref z40, .ref z41, .ref z42, .int 0, .ref z13, .ref z14, .ref z15, .ref z16, .int 0, .ref z17, .ref z18, .ref z43]))] H := hP
      have hD : va_D A [(h0, .inr (12, [.ref z0, .ref z1, .ref z2, .ref z3, .ref z4, .ref z5, .ref z20, .ref z21, .ref z22, .ref z23, .ref z24, .ref z25, .int 0, .ref z26, .ref z27, .ref z28, .int 9, .int 0, .int 0, .ref z6, .ref z29, .ref z7, .int 0, .int 2, .ref z19, .ref z8, .ref z9, .ref z10, .int 0, .ref z11, .int 0, .ref z30, .ref z31, .ref z32, .ref z33, .int 0, .ref z12, .int 0, .int 0, .ref z34, .ref z35, .ref z36, .ref z37, .int 0, .int 0, .int 0, .int 0, .ref z38, .int 0, .ref z39, .ref z40, .ref z41, .ref z42, .int 0, .ref z13, .ref z14, .ref z15, .ref z16, .int 0, .ref z17, .ref z18, .ref z43]))] := hD
      refine lv_if_ne (tgt := 53) hx hb dX12_set_48 (by decide) (fun c6 => ?_) (fun c6 => ?_)
      · have kc6 : (inB x2 0 2000) = true := wk_b1 hr5 c6
        refine lv_iload_n hx hb dX12_set_53 rfl (lv_at hl 1 rfl) ?_
        refine lv_if_ne (tgt := 64) hx hb dX12_set_54 (by decide) (fun _ => ?_) (fun h9 => absurd h9 (by decide))
        refine lv_iload_n hx hb dX12_set_64 rfl (lv_at hl 1 rfl) ?_
        refine lv_iconst (v := 1) hx hb dX12_set_65 (by decide) ?_
        refine lv_icmp_ne (tgt := 76) hx hb dX12_set_66 (by decide) (fun h9 => absurd h9 (by decide)) (fun _ => ?_)
        refine lv_aload_n hx hb dX12_set_69 rfl (lv_at hl 0 rfl) ?_
        refine va_get (D := D) (ci := 12) (v := .int 0) (C := RX12) (T := TX12) (N := 62) hx hb hts iX12_set_X12 hown hK hP 0 rfl rfl 17 (by decide) (hts (.fieldLink RX12 244 "PuppetBridgeModel" "near" "I") mX12_set_w2) (fun _ h9 => h9) rfl dX12_set_70 ?_
        refine lv_goto (tgt := 88) hx hb dX12_set_73 (by decide) ?_
        refine lv_istore_n (lv' := [(3, .int 0), (0, .ref h0), (1, .int 1), (2, .int x2)]) hx hb dX12_set_88 rfl hl (by decide) rfl (fun ls hl => ?_)
        refine lv_iload_n hx hb dX12_set_89 rfl (lv_at hl 2 rfl) ?_
        refine lv_if_ne (tgt := 101) hx hb dX12_set_90 (by decide) (fun _ => ?_) (fun h9 => absurd h9 (by decide))
        refine lv_iload_n hx hb dX12_set_101 rfl (lv_at hl 2 rfl) ?_
        refine lv_iconst (v := 1) hx hb dX12_set_102 (by decide) ?_
        refine lv_icmp_ne (tgt := 114) hx hb dX12_set_103 (by decide) (fun h9 => absurd h9 (by decide)) (fun _ => ?_)
        refine lv_aload_n hx hb dX12_set_106 rfl (lv_at hl 1 rfl) ?_
        refine lv_iload_n hx hb dX12_set_107 rfl (lv_at hl 3 rfl) ?_
        refine va_put (D := D) (ci := 12) (v := .int x2) (ty := (tyX12 17)) (C := RX12) (T := TX12) (N := 62) hx hb hts iX12_set_X12 tyX12 tyX12_ok nmX12 hown hK hP hD hS 0 rfl rfl 17 (by decide) (hts (.fieldLink RX12 244 "PuppetBridgeModel" "near" "I") mX12_set_w2) (fun _ h9 => h9) rfl (tyX12_ok 17 (by decide)) rfl rfl (Nat.le_of_ble_eq_true rfl) dX12_set_108 (fun H locs hP hD hS => ?_)
        have hP : va_P D vwCl [(h0, .inr (12, [.ref z0, .ref z1, .ref z2, .ref z3, .ref z4, .ref z5, .ref z20, .ref z21, .ref z22, .ref z23, .ref z24, .ref z25, .int 0, .ref z26, .ref z27, .ref z28, .int 9, .int x2, .int 0, .ref z6, .ref z29, .ref z7, .int 0, .int 2, .ref z19, .ref z8, .ref z9, .ref z10, .int 0, .ref z11, .int 0, .ref z30, .ref z31, .ref z32, .ref z33, .int 0, .ref z12, .int 0, .int 0, .ref z34, .ref z35, .ref z36, .ref z37, .int 0, .int 0, .int 0, .int 0, .ref z38, .int 0, .ref z39, .ref z40, .ref z41, .ref z42, .int 0, .ref z13, .ref z14, .ref z15, .ref z16, .int 0, .ref z17, .ref z18, .ref z43]))] H := hP
        have hD : va_D A [(h0, .inr (12, [.ref z0, .ref z1, .ref z2, .ref z3, .ref z4, .ref z5, .ref z20, .ref z21, .ref z22, .ref z23, .ref z24, .ref z25, .int 0, .ref z26, .ref z27, .ref z28, .int 9, .int x2, .int 0, .ref z6, .ref z29, .ref z7, .int 0, .int 2, .ref z19, .ref z8, .ref z9, .ref z10, .int 0, .ref z11, .int 0, .ref z30, .ref z31, .ref z32, .ref z33, .int 0, .ref z12, .int 0, .int 0, .ref z34, .ref z35, .ref z36, .ref z37, .int 0, .int 0, .int 0, .int 0, .ref z38, .int 0, .ref z39, .ref z40, .ref z41, .ref z42, .int 0, .ref z13, .ref z14, .ref z15, .ref z16, .int 0, .ref z17, .ref z18, .ref z43]))] := hD
        refine lv_goto (tgt := 128) hx hb dX12_set_111 (by decide) ?_
        refine lv_iload_n hx hb dX12_set_128 rfl (lv_at hl 0 rfl) ?_
        exact W.iret (v := 0) hx hb hr (fun t ht hW => ⟨⟨0, (), rfl, by first | (simp [sSet, kc6]; done) | rfl, trivial⟩, hS.F ht⟩) hS.2.2 dX12_set_129
      · have kc6 : (inB x2 0 2000) = false := wk_b0 hr5 c6
        refine lv_iconst (v := (-1)) hx hb dX12_set_51 (by decide) ?_
        exact W.iret (v := (-1)) hx hb hr (fun t ht hW => ⟨⟨(-1), (), rfl, by first | (simp [sSet, kc6]; done) | rfl, trivial⟩, hS.F ht⟩) hS.2.2 dX12_set_52
    · refine lv_iload_n hx hb dX12_set_14 rfl (lv_at hl 2 rfl) ?_
      refine lv_iload_n hx hb dX12_set_15 rfl (lv_at hl 1 rfl) ?_
      refine lv_if_ne (tgt := 23) hx hb dX12_set_16 (by decide) (fun _ => ?_) (fun h9 => absurd h9 (by decide))
      refine lv_iconst (v := 0) hx hb dX12_set_23 (by decide) ?_
      refine lv_iload_n hx hb dX12_set_24 rfl (lv_at hl 1 rfl) ?_
      refine lv_if_ne (tgt := 33) hx hb dX12_set_25 (by decide) (fun _ => ?_) (fun h9 => absurd h9 (by decide))
      refine lv_iload_n hx hb dX12_set_33 rfl (lv_at hl 1 rfl) ?_
      refine lv_iconst (v := 1) hx hb dX12_set_34 (by decide) ?_
      refine lv_icmp_ne (tgt := 44) hx hb dX12_set_35 (by decide) (fun _ => ?_) (fun h9 => absurd h9 (by decide))
      refine lv_iconst (v := 1) hx hb dX12_set_44 (by decide) ?_
      have hPc := hP.sub (ws' := []) [] rfl
      have hDc := hD.sub (ws' := []) [] (by decide) rfl
      have hFc := va_free (wc := []) hD hS hA [] rfl
      refine va_calli (va_runS (As := [.int x2, .int 0, .int 1]) (rest := []) ⟨hx, hb, hml, hown, hts⟩ (kX12_in l D G x2 0 1 H.size) (va_cwS 3 hts gX12_set_X12_in rfl rfl rfl (by decide +kernel) ⟨Nat.le_of_ble_eq_true rfl, Nat.le_of_ble_eq_true rfl⟩) ⟨wB_blind, wB_pre hPc hK hDc hN⟩ rfl rfl hl.1 rfl (lv_room (Nat.le_of_ble_eq_true rfl)) dX12_set_45 ⟨Nat.le_of_ble_eq_true rfl, Nat.le_of_ble_eq_true rfl⟩) hS (fun q _ h => hFc q h) hFc (fun r7 u t H1 locs ht hvm hr7 hB hz1 hk1 hS => ?_)
      obtain ⟨hP, hD⟩ := va_join (wr := [(h0, .inr (12, [.ref z0, .ref z1, .ref z2, .ref z3, .ref z4, .ref z5, .ref z20, .ref z21, .ref z22, .ref z23, .ref z24, .ref z25, .int 0, .ref z26, .ref z27, .ref z28, .int 9, .int 0, .int 0, .ref z6, .ref z29, .ref z7, .int 0, .int 2, .ref z19, .ref z8, .ref z9, .ref z10, .int 0, .ref z11, .int 0, .ref z30, .ref z31, .ref z32, .ref z33, .int 0, .ref z12, .int 0, .int 0, .ref z34, .ref z35, .ref z36, .ref z37, .int 0, .int 0, .int 0, .int 0, .ref z38, .int 0, .ref z39, .ref z40, .ref z41, .ref z42, .int 0, .ref z13, .ref z14, .ref z15, .ref z16, .int 0, .ref z17, .ref z18, .ref z43]))]) (w1 := []) hP hD [] [0] rfl rfl (by decide) (by decide) hk1 hFc wP_nil wD_nil
      clear hPc hDc
      generalize H1 = H at hP hS ⊢
      have hP : va_P D vwCl [(h0, .inr (12, [.ref z0, .ref z1, .ref z2, .ref z3, .ref z4, .ref z5, .ref z20, .ref z21, .ref z22, .ref z23, .ref z24, .ref z25, .int 0, .ref z26, .ref z27, .ref z28, .int 9, .int 0, .int 0, .ref z6, .ref z29, .ref z7, .int 0, .int 2, .ref z19, .ref z8, .ref z9, .ref z10, .int 0, .ref z11, .int 0, .ref z30, .ref z31, .ref z32, .ref z33, .int 0, .ref z12, .int 0, .int 0, .ref z34, .ref z35, .ref z36, .ref z37, .int 0, .int 0, .int 0, .int 0, .ref z38, .int 0, .ref z39, .ref z40, .ref z41, .ref z42, .int 0, .ref z13, .ref z14, .ref z15, .ref z16, .int 0, .ref z17, .ref z18, .ref z43]))] H := hP
      have hD : va_D A [(h0, .inr (12, [.ref z0, .ref z1, .ref z2, .ref z3, .ref z4, .ref z5, .ref z20, .ref z21, .ref z22, .ref z23, .ref z24, .ref z25, .int 0, .ref z26, .ref z27, .ref z28, .int 9, .int 0, .int 0, .ref z6, .ref z29, .ref z7, .int 0, .int 2, .ref z19, .ref z8, .ref z9, .ref z10, .int 0, .ref z11, .int 0, .ref z30, .ref z31, .ref z32, .ref z33, .int 0, .ref z12, .int 0, .int 0, .ref z34, .ref z35, .ref z36, .ref z37, .int 0, .int 0, .int 0, .int 0, .ref z38, .int 0, .ref z39, .ref z40, .ref z41, .ref z42, .int 0, .ref z13, .ref z14, .ref z15, .ref z16, .int 0, .ref z17, .ref z18, .ref z43]))] := hD
      refine lv_if_ne (tgt := 53) hx hb dX12_set_48 (by decide) (fun c8 => ?_) (fun c8 => ?_)
      · have kc8 : (inB x2 0 1) = true := wk_b1 hr7 c8
        refine lv_iload_n hx hb dX12_set_53 rfl (lv_at hl 1 rfl) ?_
        refine lv_if_ne (tgt := 64) hx hb dX12_set_54 (by decide) (fun _ => ?_) (fun h9 => absurd h9 (by decide))
        refine lv_iload_n hx hb dX12_set_64 rfl (lv_at hl 1 rfl) ?_
        refine lv_iconst (v := 1) hx hb dX12_set_65 (by decide) ?_
        refine lv_icmp_ne (tgt := 76) hx hb dX12_set_66 (by decide) (fun _ => ?_) (fun h9 => absurd h9 (by decide))
        refine lv_aload_n hx hb dX12_set_76 rfl (lv_at hl 0 rfl) ?_
        refine va_get (D := D) (ci := 12) (v := .int 0) (C := RX12) (T := TX12) (N := 62) hx hb hts iX12_set_X12 hown hK hP 0 rfl rfl 18 (by decide) (hts (.fieldLink RX12 222 "PuppetBridgeModel" "isSlippery" "Z") mX12_set_w3) (fun _ h9 => h9) rfl dX12_set_77 ?_
        refine lv_if_eq (tgt := 87) hx hb dX12_set_80 (by decide) (fun _ => ?_) (fun h9 => absurd h9 (by decide))
        refine lv_iconst (v := 0) hx hb dX12_set_87 (by decide) ?_
        refine lv_istore_n (lv' := [(3, .int 0), (0, .ref h0), (1, .int 2), (2, .int x2)]) hx hb dX12_set_88 rfl hl (by decide) rfl (fun ls hl => ?_)
        refine lv_iload_n hx hb dX12_set_89 rfl (lv_at hl 2 rfl) ?_
        refine lv_if_ne (tgt := 101) hx hb dX12_set_90 (by decide) (fun _ => ?_) (fun h9 => absurd h9 (by decide))
        refine lv_iload_n hx hb dX12_set_101 rfl (lv_at hl 2 rfl) ?_
        refine lv_iconst (v := 1) hx hb dX12_set_102 (by decide) ?_
        refine lv_icmp_ne (tgt := 114) hx hb dX12_set_103 (by decide) (fun _ => ?_) (fun h9 => absurd h9 (by decide))
        refine lv_aload_n hx hb dX12_set_114 rfl (lv_at hl 1 rfl) ?_
        refine lv_iload_n hx hb dX12_set_115 rfl (lv_at hl 3 rfl) ?_
        refine lv_iconst (v := 1) hx hb dX12_set_116 (by decide) ?_
        refine lv_icmp_ne (tgt := 124) hx hb dX12_set_117 (by decide) (fun c9 => ?_) (fun c9 => ?_)
        · refine lv_iconst (v := 0) hx hb dX12_set_124 (by decide) ?_
          refine va_put (D := D) (ci := 12) (v := .int 0) (ty := (tyX12 18)) (C := RX12) (T := TX12) (N := 62) hx hb hts iX12_set_X12 tyX12 tyX12_ok nmX12 hown hK hP hD hS 0 rfl rfl 18 (by decide) (hts (.fieldLink RX12 222 "PuppetBridgeModel" "isSlippery" "Z") mX12_set_w3) (fun _ h9 => h9) rfl (tyX12_ok 18 (by decide)) rfl rfl (Nat.le_of_ble_eq_true rfl) dX12_set_125 (fun H locs hP hD hS => ?_)
          have hP : va_P D vwCl [(h0, .inr (12, [.ref z0, .ref z1, .ref z2, .ref z3, .ref z4, .ref z5, .ref z20, .ref z21, .ref z22, .ref z23, .ref z24, .ref z25, .int 0, .ref z26, .ref z27, .ref z28, .int 9, .int 0, .int 0, .ref z6, .ref z29, .ref z7, .int 0, .int 2, .ref z19, .ref z8, .ref z9, .ref z10, .int 0, .ref z11, .int 0, .ref z30, .ref z31, .ref z32, .ref z33, .int 0, .ref z12, .int 0, .int 0, .ref z34, .ref z35, .ref z36, .ref z37, .int 0, .int 0, .int 0, .int 0, .ref z38, .int 0, .ref z39, .ref z40, .ref z41, .ref z42, .int 0, .ref z13, .ref z14, .ref z15, .ref z16, .int 0, .ref z17, .ref z18, .ref z43]))] H := hP
          have hD : va_D A [(h0, .inr (12, [.ref z0, .ref z1, .ref z2, .ref z3, .ref z4, .ref z5, .ref z20, .ref z21, .ref z22, .ref z23, .ref z24, .ref z25, .int 0, .ref z26, .ref z27, .ref z28, .int 9, .int 0, .int 0, .ref z6, .ref z29, .ref z7, .int 0, .int 2, .ref z19, .ref z8, .ref z9, .ref z10, .int 0, .ref z11, .int 0, .ref z30, .ref z31, .ref z32, .ref z33, .int 0, .ref z12, .int 0, .int 0, .ref z34, .ref z35, .ref z36, .ref z37, .int 0, .int 0, .int 0, .int 0, .ref z38, .int 0, .ref z39, .ref z40, .ref z41, .ref z42, .int 0, .ref z13, .ref z14, .ref z15, .ref z16, .int 0, .ref z17, .ref z18, .ref z43]))] := hD
          refine lv_iload_n hx hb dX12_set_128 rfl (lv_at hl 0 rfl) ?_
          exact W.iret (v := 0) hx hb hr (fun t ht hW => ⟨⟨0, (), rfl, by first | (simp [sSet, kc8, c9]; done) | (simp [sSet, kc8]; done) | rfl, trivial⟩, hS.F ht⟩) hS.2.2 dX12_set_129
        · refine lv_iconst (v := 1) hx hb dX12_set_120 (by decide) ?_
          refine lv_goto (tgt := 125) hx hb dX12_set_121 (by decide) ?_
          refine va_put (D := D) (ci := 12) (v := .int 1) (ty := (tyX12 18)) (C := RX12) (T := TX12) (N := 62) hx hb hts iX12_set_X12 tyX12 tyX12_ok nmX12 hown hK hP hD hS 0 rfl rfl 18 (by decide) (hts (.fieldLink RX12 222 "PuppetBridgeModel" "isSlippery" "Z") mX12_set_w3) (fun _ h9 => h9) rfl (tyX12_ok 18 (by decide)) rfl rfl (Nat.le_of_ble_eq_true rfl) dX12_set_125 (fun H locs hP hD hS => ?_)
          have hP : va_P D vwCl [(h0, .inr (12, [.ref z0, .ref z1, .ref z2, .ref z3, .ref z4, .ref z5, .ref z20, .ref z21, .ref z22, .ref z23, .ref z24, .ref z25, .int 0, .ref z26, .ref z27, .ref z28, .int 9, .int 0, .int 1, .ref z6, .ref z29, .ref z7, .int 0, .int 2, .ref z19, .ref z8, .ref z9, .ref z10, .int 0, .ref z11, .int 0, .ref z30, .ref z31, .ref z32, .ref z33, .int 0, .ref z12, .int 0, .int 0, .ref z34, .ref z35, .ref z36, .ref z37, .int 0, .int 0, .int 0, .int 0, .ref z38, .int 0, .ref z39, .ref z40, .ref z41, .ref z42, .int 0, .ref z13, .ref z14, .ref z15, .ref z16, .int 0, .ref z17, .ref z18, .ref z43]))] H := hP
          have hD : va_D A [(h0, .inr (12, [.ref z0, .ref z1, .ref z2, .ref z3, .ref z4, .ref z5, .ref z20, .ref z21, .ref z22, .ref z23, .ref z24, .ref z25, .int 0, .ref z26, .ref z27, .ref z28, .int 9, .int 0, .int 1, .ref z6, .ref z29, .ref z7, .int 0, .int 2, .ref z19, .ref z8, .ref z9, .ref z10, .int 0, .ref z11, .int 0, .ref z30, .ref z31, .ref z32, .ref z33, .int 0, .ref z12, .int 0, .int 0, .ref z34, .ref z35, .ref z36, .ref z37, .int 0, .int 0, .int 0, .int 0, .ref z38, .int 0, .ref z39, .ref z40, .ref z41, .ref z42, .int 0, .ref z13, .ref z14, .ref z15, .ref z16, .int 0, .ref z17, .ref z18, .ref z43]))] := hD
          refine lv_iload_n hx hb dX12_set_128 rfl (lv_at hl 0 rfl) ?_
          exact W.iret (v := 0) hx hb hr (fun t ht hW => ⟨⟨0, (), rfl, by first | (simp [sSet, kc8, c9]; done) | (simp [sSet, kc8]; done) | rfl, trivial⟩, hS.F ht⟩) hS.2.2 dX12_set_129
      · have kc8 : (inB x2 0 1) = false := wk_b0 hr7 c8
        refine lv_iconst (v := (-1)) hx hb dX12_set_51 (by decide) ?_
        exact W.iret (v := (-1)) hx hb hr (fun t ht hW => ⟨⟨(-1), (), rfl, by first | (simp [sSet, kc8]; done) | rfl, trivial⟩, hS.F ht⟩) hS.2.2 dX12_set_52

theorem mX12_end_w0 : Cond.fieldLink RX12 157 "PuppetBridgeModel" "thrown" "I" ∈ wsX12_end := by decide +kernel
theorem mX12_end_w1 : Cond.fieldLink RX12 251 "PuppetBridgeModel" "typed" "I" ∈ wsX12_end := by decide +kernel
theorem iX12_end_X12 : ∀ w ∈ wsX120, w ∈ wsX12_end := fun _ h => List.mem_cons_of_mem _ (List.mem_append_right _ h)
set_option maxRecDepth 20000 in
theorem ggX12_end_X12_in : GoodIn wsX12_end wsX12_in := goodIn_r _ [6] (by decide +kernel) (by decide +kernel)
set_option maxRecDepth 20000 in
theorem gX12_end_X12_in : GoodIn wsX12_end (va_wsS RX12 163 yX12_in wsX12_in) := goodIn_app (goodIn_of _ (by decide +kernel)) ggX12_end_X12_in
theorem dX12_end_0 : decode cX12_end 0 = .ok (.aload_n 0, 1) := by decide +kernel
theorem dX12_end_1 : decode cX12_end 1 = .ok (.iconst 0, 1) := by decide +kernel
theorem dX12_end_2 : decode cX12_end 2 = .ok (.putfield 157, 3) := by decide +kernel
theorem dX12_end_5 : decode cX12_end 5 = .ok (.iload_n 1, 1) := by decide +kernel
theorem dX12_end_6 : decode cX12_end 6 = .ok (.iconst 0, 1) := by decide +kernel
theorem dX12_end_7 : decode cX12_end 7 = .ok (.aload_n 0, 1) := by decide +kernel
theorem dX12_end_8 : decode cX12_end 8 = .ok (.getfield 251, 3) := by decide +kernel
theorem dX12_end_11 : decode cX12_end 11 = .ok (.invokestatic 163, 3) := by decide +kernel
theorem dX12_end_14 : decode cX12_end 14 = .ok (.ifCond .ne 5, 3) := by decide +kernel
theorem dX12_end_17 : decode cX12_end 17 = .ok (.iconst 0, 1) := by decide +kernel
theorem dX12_end_18 : decode cX12_end 18 = .ok (.ireturn, 1) := by decide +kernel
theorem dX12_end_19 : decode cX12_end 19 = .ok (.aload_n 0, 1) := by decide +kernel
theorem dX12_end_20 : decode cX12_end 20 = .ok (.iload_n 1, 1) := by decide +kernel
theorem dX12_end_21 : decode cX12_end 21 = .ok (.putfield 251, 3) := by decide +kernel
theorem dX12_end_24 : decode cX12_end 24 = .ok (.iconst 1, 1) := by decide +kernel
theorem dX12_end_25 : decode cX12_end 25 = .ok (.ireturn, 1) := by decide +kernel
set_option maxHeartbeats 4000000 in
set_option maxRecDepth 100000 in
/-- X12_end -/
theorem kX12_end (l : Launch) (D : va_G) (G : tyG) (h0 : Nat) (x1 : Int32) (z0 : Nat) (z1 : Nat) (z2 : Nat) (z3 : Nat) (z4 : Nat) (z5 : Nat) (z20 : Nat) (z21 : Nat) (z22 : Nat) (z23 : Nat) (z24 : Nat) (z25 : Nat) (z26 : Nat) (z27 : Nat) (z28 : Nat) (z6 : Nat) (z29 : Nat) (z7 : Nat) (z19 : Nat) (z8 : Nat) (z9 : Nat) (z10 : Nat) (z11 : Nat) (z30 : Nat) (z31 : Nat) (z32 : Nat) (z33 : Nat) (z12 : Nat) (z34 : Nat) (z35 : Nat) (z36 : Nat) (z37 : Nat) (z38 : Nat) (z39 : Nat) (z40 : Nat) (z41 : Nat) (z42 : Nat) (z13 : Nat) (z14 : Nat) (z15 : Nat) (z16 : Nat) (z17 : Nat) (z18 : Nat) (z43 : Nat) (sz : Nat) : Met l yX12_end wsX12_end ({ frames := 1, cells := 0, slots := 0, locals := 22 }) (va_Pc [.ref h0, .int x1] (wB D G sz [(h0, .inr (12, [.ref z0, .ref z1, .ref z2, .ref z3, .ref z4, .ref z5, .ref z20, .ref z21, .ref z22, .ref z23, .ref z24, .ref z25, .int 0, .ref z26, .ref z27, .ref z28, .int 9, .int 0, .int 0, .ref z6, .ref z29, .ref z7, .int 0, .int 2, .ref z19, .ref z8, .ref z9, .ref z10, .int 0, .ref z11, .int 0, .ref z30, .ref z31, .ref z32, .ref z33, .int 0, .ref z12, .int 0, .int 0, .ref z34, .ref z35, .ref z36, .ref z37, .int 0, .int 0, .int 0, .int 0, .ref z38, .int 0, .ref z39, .ref z40, .ref z41, .ref z42, .int 0, .ref z13, .ref z14, .ref z15, .ref z16, .int 0, .ref z17, .ref z18, .ref z43]))])) (va_Qi (fun (r : Int32) (_ : Unit) => r = if (inB x1 0 0) = true then 1 else 0) (fun _ _ => True) (va_A [(h0, .inr (12, [.ref z0, .ref z1, .ref z2, .ref z3, .ref z4, .ref z5, .ref z20, .ref z21, .ref z22, .ref z23, .ref z24, .ref z25, .int 0, .ref z26, .ref z27, .ref z28, .int 9, .int 0, .int 0, .ref z6, .ref z29, .ref z7, .int 0, .int 2, .ref z19, .ref z8, .ref z9, .ref z10, .int 0, .ref z11, .int 0, .ref z30, .ref z31, .ref z32, .ref z33, .int 0, .ref z12, .int 0, .int 0, .ref z34, .ref z35, .ref z36, .ref z37, .int 0, .int 0, .int 0, .int 0, .ref z38, .int 0, .ref z39, .ref z40, .ref z41, .ref z42, .int 0, .ref z13, .ref z14, .ref z15, .ref z16, .int 0, .ref z17, .ref z18, .ref z43]))] sz)) 0 0 (va_A [(h0, .inr (12, [.ref z0, .ref z1, .ref z2, .ref z3, .ref z4, .ref z5, .ref z20, .ref z21, .ref z22, .ref z23, .ref z24, .ref z25, .int 0, .ref z26, .ref z27, .ref z28, .int 9, .int 0, .int 0, .ref z6, .ref z29, .ref z7, .int 0, .int 2, .ref z19, .ref z8, .ref z9, .ref z10, .int 0, .ref z11, .int 0, .ref z30, .ref z31, .ref z32, .ref z33, .int 0, .ref z12, .int 0, .int 0, .ref z34, .ref z35, .ref z36, .ref z37, .int 0, .int 0, .int 0, .int 0, .ref z38, .int 0, .ref z39, .ref z40, .ref z41, .ref z42, .int 0, .ref z13, .ref z14, .ref z15, .ref z16, .int 0, .ref z17, .ref z18, .ref z43]))] sz) := by
  refine Met.ofW (cc := cX12_end) (maxL := 2) (ret := (some .boolean)) (by decide) rfl ?_
  intro p e s m args below meth c s₁ B hml hv
  obtain ⟨rfl, hsz, hP, hK, hD0, hN⟩ := hv
  have hx := B.exec
  have hb := B.bytes
  have hr := B.returns
  have hts := atoms_spec (ws := wsX12_end) B.pre
  have hown : s.vm.findClass RX12 = some m.cls := findClass_of_methodNamed B.named
  have hlocks := B.notSynchronized
  subst hsz
  have hD := hD0.self (sz := s.heap.size)
  generalize hAe : va_A [(h0, .inr (12, [.ref z0, .ref z1, .ref z2, .ref z3, .ref z4, .ref z5, .ref z20, .ref z21, .ref z22, .ref z23, .ref z24, .ref z25, .int 0, .ref z26, .ref z27, .ref z28, .int 9, .int 0, .int 0, .ref z6, .ref z29, .ref z7, .int 0, .int 2, .ref z19, .ref z8, .ref z9, .ref z10, .int 0, .ref z11, .int 0, .ref z30, .ref z31, .ref z32, .ref z33, .int 0, .ref z12, .int 0, .int 0, .ref z34, .ref z35, .ref z36, .ref z37, .int 0, .int 0, .int 0, .int 0, .ref z38, .int 0, .ref z39, .ref z40, .ref z41, .ref z42, .int 0, .ref z13, .ref z14, .ref z15, .ref z16, .int 0, .ref z17, .ref z18, .ref z43]))] s.heap.size = A at hD ⊢
  have hA : ∀ q : Nat, s.heap.size ≤ q → A q := fun q h => by rw [← hAe]; exact Or.inr h
  have hS : va_S A s.heap s.heap [] := va_S.rf
  have hP : va_P D vwCl [(h0, .inr (12, [.ref z0, .ref z1, .ref z2, .ref z3, .ref z4, .ref z5, .ref z20, .ref z21, .ref z22, .ref z23, .ref z24, .ref z25, .int 0, .ref z26, .ref z27, .ref z28, .int 9, .int 0, .int 0, .ref z6, .ref z29, .ref z7, .int 0, .int 2, .ref z19, .ref z8, .ref z9, .ref z10, .int 0, .ref z11, .int 0, .ref z30, .ref z31, .ref z32, .ref z33, .int 0, .ref z12, .int 0, .int 0, .ref z34, .ref z35, .ref z36, .ref z37, .int 0, .int 0, .int 0, .int 0, .ref z38, .int 0, .ref z39, .ref z40, .ref z41, .ref z42, .int 0, .ref z13, .ref z14, .ref z15, .ref z16, .int 0, .ref z17, .ref z18, .ref z43]))] s.heap := hP
  have hl := lv_entry ([.ref h0, .int x1]) (n := 2) (Nat.le_of_ble_eq_true rfl)
  rw [lg_entry_eq]
  generalize (lg_sl ([.ref h0, .int x1]) ++ List.replicate (2 - (lg_sl ([.ref h0, .int x1])).length) Slot.unset).toArray = ls at hl ⊢
  have hl : lv_has ls 2 [(0, .ref h0), (1, .int x1)] := hl
  refine lv_aload_n hx hb dX12_end_0 rfl (lv_at hl 0 rfl) ?_
  refine lv_iconst (v := 0) hx hb dX12_end_1 (by decide) ?_
  refine va_put (D := D) (ci := 12) (v := .int 0) (ty := (tyX12 38)) (C := RX12) (T := TX12) (N := 62) hx hb hts iX12_end_X12 tyX12 tyX12_ok nmX12 hown hK hP hD hS 0 rfl rfl 38 (by decide) (hts (.fieldLink RX12 157 "PuppetBridgeModel" "thrown" "I") mX12_end_w0) (fun _ h9 => h9) rfl (tyX12_ok 38 (by decide)) rfl rfl (Nat.le_of_ble_eq_true rfl) dX12_end_2 (fun H locs hP hD hS => ?_)
  have hP : va_P D vwCl [(h0, .inr (12, [.ref z0, .ref z1, .ref z2, .ref z3, .ref z4, .ref z5, .ref z20, .ref z21, .ref z22, .ref z23, .ref z24, .ref z25, .int 0, .ref z26, .ref z27, .ref z28, .int 9, .int 0, .int 0, .ref z6, .ref z29, .ref z7, .int 0, .int 2, .ref z19, .ref z8, .ref z9, .ref z10, .int 0, .ref z11, .int 0, .ref z30, .ref z31, .ref z32, .ref z33, .int 0, .ref z12, .int 0, .int 0, .ref z34, .ref z35, .ref z36, .ref z37, .int 0, .int 0, .int 0, .int 0, .ref z38, .int 0, .ref z39, .ref z40, .ref z41, .ref z42, .int 0, .ref z13, .ref z14, .ref z15, .ref z16, .int 0, .ref z17, .ref z18, .ref z43]))] H := hP
  have hD : va_D A [(h0, .inr (12, [.ref z0, .ref z1, .ref z2, .ref z3, .ref z4, .ref z5, .ref z20, .ref z21, .ref z22, .ref z23, .ref z24, .ref z25, .int 0, .ref z26, .ref z27, .ref z28, .int 9, .int 0, .int 0, .ref z6, .ref z29, .ref z7, .int 0, .int 2, .ref z19, .ref z8, .ref z9, .ref z10, .int 0, .ref z11, .int 0, .ref z30, .ref z31, .ref z32, .ref z33, .int 0, .ref z12, .int 0, .int 0, .ref z34, .ref z35, .ref z36, .ref z37, .int 0, .int 0, .int 0, .int 0, .ref z38, .int 0, .ref z39, .ref z40, .ref z41, .ref z42, .int 0, .ref z13, .ref z14, .ref z15, .ref z16, .int 0, .ref z17, .ref z18, .ref z43]))] := hD
  refine lv_iload_n hx hb dX12_end_5 rfl (lv_at hl 1 rfl) ?_
  refine lv_iconst (v := 0) hx hb dX12_end_6 (by decide) ?_
  refine lv_aload_n hx hb dX12_end_7 rfl (lv_at hl 0 rfl) ?_
  refine va_get (D := D) (ci := 12) (v := .int 0) (C := RX12) (T := TX12) (N := 62) hx hb hts iX12_end_X12 hown hK hP 0 rfl rfl 22 (by decide) (hts (.fieldLink RX12 251 "PuppetBridgeModel" "typed" "I") mX12_end_w1) (fun _ h9 => h9) rfl dX12_end_8 ?_
  have hPc := hP.sub (ws' := []) [] rfl
  have hDc := hD.sub (ws' := []) [] (by decide) rfl
  have hFc := va_free (wc := []) hD hS hA [] rfl
  refine va_calli (va_runS (As := [.int x1, .int 0, .int 0]) (rest := []) ⟨hx, hb, hml, hown, hts⟩ (kX12_in l D G x1 0 0 H.size) (va_cwS 3 hts gX12_end_X12_in rfl rfl rfl (by decide +kernel) ⟨Nat.le_of_ble_eq_true rfl, Nat.le_of_ble_eq_true rfl⟩) ⟨wB_blind, wB_pre hPc hK hDc hN⟩ rfl rfl hl.1 rfl (lv_room (Nat.le_of_ble_eq_true rfl)) dX12_end_11 ⟨Nat.le_of_ble_eq_true rfl, Nat.le_of_ble_eq_true rfl⟩) hS (fun q _ h => hFc q h) hFc (fun r1 u t H1 locs ht hvm hr1 hB hz1 hk1 hS => ?_)
  obtain ⟨hP, hD⟩ := va_join (wr := [(h0, .inr (12, [.ref z0, .ref z1, .ref z2, .ref z3, .ref z4, .ref z5, .ref z20, .ref z21, .ref z22, .ref z23, .ref z24, .ref z25, .int 0, .ref z26, .ref z27, .ref z28, .int 9, .int 0, .int 0, .ref z6, .ref z29, .ref z7, .int 0, .int 2, .ref z19, .ref z8, .ref z9, .ref z10, .int 0, .ref z11, .int 0, .ref z30, .ref z31, .ref z32, .ref z33, .int 0, .ref z12, .int 0, .int 0, .ref z34, .ref z35, .ref z36, .ref z37, .int 0, .int 0, .int 0, .int 0, .ref z38, .int 0, .ref z39, .ref z40, .ref z41, .ref z42, .int 0, .ref z13, .ref z14, .ref z15, .ref z16, .int 0, .ref z17, .ref z18, .ref z43]))]) (w1 := []) hP hD [] [0] rfl rfl (by decide) (by decide) hk1 hFc wP_nil wD_nil
  clear hPc hDc
  generalize H1 = H at hP hS ⊢
  have hP : va_P D vwCl [(h0, .inr (12, [.ref z0, .ref z1, .ref z2, .ref z3, .ref z4, .ref z5, .ref z20, .ref z21, .ref z22, .ref z23, .ref z24, .ref z25, .int 0, .ref z26, .ref z27, .ref z28, .int 9, .int 0, .int 0, .ref z6, .ref z29, .ref z7, .int 0, .int 2, .ref z19, .ref z8, .ref z9, .ref z10, .int 0, .ref z11, .int 0, .ref z30, .ref z31, .ref z32, .ref z33, .int 0, .ref z12, .int 0, .int 0, .ref z34, .ref z35, .ref z36, .ref z37, .int 0, .int 0, .int 0, .int 0, .ref z38, .int 0, .ref z39, .ref z40, .ref z41, .ref z42, .int 0, .ref z13, .ref z14, .ref z15, .ref z16, .int 0, .ref z17, .ref z18, .ref z43]))] H := hP
  have hD : va_D A [(h0, .inr (12, [.ref z0, .ref z1, .ref z2, .ref z3, .ref z4, .ref z5, .ref z20, .ref z21, .ref z22, .ref z23, .ref z24, .ref z25, .int 0, .ref z26, .ref z27, .ref z28, .int 9, .int 0, .int 0, .ref z6, .ref z29, .ref z7, .int 0, .int 2, .ref z19, .ref z8, .ref z9, .ref z10, .int 0, .ref z11, .int 0, .ref z30, .ref z31, .ref z32, .ref z33, .int 0, .ref z12, .int 0, .int 0, .ref z34, .ref z35, .ref z36, .ref z37, .int 0, .int 0, .int 0, .int 0, .ref z38, .int 0, .ref z39, .ref z40, .ref z41, .ref z42, .int 0, .ref z13, .ref z14, .ref z15, .ref z16, .int 0, .ref z17, .ref z18, .ref z43]))] := hD
  refine lv_if_ne (tgt := 19) hx hb dX12_end_14 (by decide) (fun c2 => ?_) (fun c2 => ?_)
  · have kc2 : (inB x1 0 0) = true := wk_b1 hr1 c2
    refine lv_aload_n hx hb dX12_end_19 rfl (lv_at hl 0 rfl) ?_
    refine lv_iload_n hx hb dX12_end_20 rfl (lv_at hl 1 rfl) ?_
    refine va_put (D := D) (ci := 12) (v := .int x1) (ty := (tyX12 22)) (C := RX12) (T := TX12) (N := 62) hx hb hts iX12_end_X12 tyX12 tyX12_ok nmX12 hown hK hP hD hS 0 rfl rfl 22 (by decide) (hts (.fieldLink RX12 251 "PuppetBridgeModel" "typed" "I") mX12_end_w1) (fun _ h9 => h9) rfl (tyX12_ok 22 (by decide)) rfl rfl (Nat.le_of_ble_eq_true rfl) dX12_end_21 (fun H locs hP hD hS => ?_)
    have hP : va_P D vwCl [(h0, .inr (12, [.ref z0, .ref z1, .ref z2, .ref z3, .ref z4, .ref z5, .ref z20, .ref z21, .ref z22, .ref z23, .ref z24, .ref z25, .int 0, .ref z26, .ref z27, .ref z28, .int 9, .int 0, .int 0, .ref z6, .ref z29, .ref z7, .int x1, .int 2, .ref z19, .ref z8, .ref z9, .ref z10, .int 0, .ref z11, .int 0, .ref z30, .ref z31, .ref z32, .ref z33, .int 0, .ref z12, .int 0, .int 0, .ref z34, .ref z35, .ref z36, .ref z37, .int 0, .int 0, .int 0, .int 0, .ref z38, .int 0, .ref z39, .ref z40, .ref z41, .ref z42, .int 0, .ref z13, .ref z14, .ref z15, .ref z16, .int 0, .ref z17, .ref z18, .ref z43]))] H := hP
    have hD : va_D A [(h0, .inr (12, [.ref z0, .ref z1, .ref z2, .ref z3, .ref z4, .ref z5, .ref z20, .ref z21, .ref z22, .ref z23, .ref z24, .ref z25, .int 0, .ref z26, .ref z27, .ref z28, .int 9, .int 0, .int 0, .ref z6, .ref z29, .ref z7, .int x1, .int 2, .ref z19, .ref z8, .ref z9, .ref z10, .int 0, .ref z11, .int 0, .ref z30, .ref z31, .ref z32, .ref z33, .int 0, .ref z12, .int 0, .int 0, .ref z34, .ref z35, .ref z36, .ref z37, .int 0, .int 0, .int 0, .int 0, .ref z38, .int 0, .ref z39, .ref z40, .ref z41, .ref z42, .int 0, .ref z13, .ref z14, .ref z15, .ref z16, .int 0, .ref z17, .ref z18, .ref z43]))] := hD
    refine lv_iconst (v := 1) hx hb dX12_end_24 (by decide) ?_
    exact W.zret (v := 1) hx hb hr rfl (fun t ht hW => ⟨⟨1, (), rfl, by first | (simp [kc2]; done) | rfl, trivial⟩, hS.F ht⟩) hS.2.2 dX12_end_25
  · have kc2 : (inB x1 0 0) = false := wk_b0 hr1 c2
    refine lv_iconst (v := 0) hx hb dX12_end_17 (by decide) ?_
    exact W.zret (v := 0) hx hb hr rfl (fun t ht hW => ⟨⟨0, (), rfl, by first | (simp [kc2]; done) | rfl, trivial⟩, hS.F ht⟩) hS.2.2 dX12_end_18

theorem mX12_count_w0 : Cond.fieldLink RX12 157 "PuppetBridgeModel" "thrown" "I" ∈ wsX12_count := by decide +kernel
theorem mX12_count_w1 : Cond.fieldLink RX12 160 "PuppetBridgeModel" "figures" "I" ∈ wsX12_count := by decide +kernel
theorem mX12_count_w2 : Cond.fieldLink RX12 60 "PuppetBridgeModel" "w" "[I" ∈ wsX12_count := by decide +kernel
theorem mX12_count_w3 : Cond.fieldLink RX12 69 "PuppetBridgeModel" "bars" "I" ∈ wsX12_count := by decide +kernel
theorem mX12_count_w4 : Cond.fieldLink RX12 297 "PuppetBridgeModel" "passMany" "I" ∈ wsX12_count := by decide +kernel
theorem mX12_count_w5 : Cond.fieldLink RX12 300 "PuppetBridgeModel" "sceneMany" "I" ∈ wsX12_count := by decide +kernel
theorem mX12_count_w6 : Cond.fieldLink RX12 303 "PuppetBridgeModel" "seenMany" "I" ∈ wsX12_count := by decide +kernel
theorem mX12_count_w7 : Cond.fieldLink RX12 306 "PuppetBridgeModel" "rowMany" "I" ∈ wsX12_count := by decide +kernel
theorem mX12_count_w8 : Cond.fieldLink RX12 251 "PuppetBridgeModel" "typed" "I" ∈ wsX12_count := by decide +kernel
theorem iX12_count_X12 : ∀ w ∈ wsX120, w ∈ wsX12_count := fun _ h => List.mem_cons_of_mem _ (List.mem_append_right _ h)
theorem dX12_count_0 : decode cX12_count 0 = .ok (.aload_n 0, 1) := by decide +kernel
theorem dX12_count_1 : decode cX12_count 1 = .ok (.iconst 0, 1) := by decide +kernel
theorem dX12_count_2 : decode cX12_count 2 = .ok (.putfield 157, 3) := by decide +kernel
theorem dX12_count_5 : decode cX12_count 5 = .ok (.iload_n 1, 1) := by decide +kernel
theorem dX12_count_6 : decode cX12_count 6 = .ok (.tableswitch 90 0 7 #[46, 51, 60, 65, 70, 75, 80, 85], 46) := by decide +kernel
theorem dX12_count_52 : decode cX12_count 52 = .ok (.aload_n 0, 1) := by decide +kernel
theorem dX12_count_53 : decode cX12_count 53 = .ok (.getfield 160, 3) := by decide +kernel
theorem dX12_count_56 : decode cX12_count 56 = .ok (.ireturn, 1) := by decide +kernel
theorem dX12_count_57 : decode cX12_count 57 = .ok (.aload_n 0, 1) := by decide +kernel
theorem dX12_count_58 : decode cX12_count 58 = .ok (.getfield 60, 3) := by decide +kernel
theorem dX12_count_61 : decode cX12_count 61 = .ok (.sipush 168, 3) := by decide +kernel
theorem dX12_count_64 : decode cX12_count 64 = .ok (.iaload, 1) := by decide +kernel
theorem dX12_count_65 : decode cX12_count 65 = .ok (.ireturn, 1) := by decide +kernel
theorem dX12_count_66 : decode cX12_count 66 = .ok (.aload_n 0, 1) := by decide +kernel
theorem dX12_count_67 : decode cX12_count 67 = .ok (.getfield 69, 3) := by decide +kernel
theorem dX12_count_70 : decode cX12_count 70 = .ok (.ireturn, 1) := by decide +kernel
theorem dX12_count_71 : decode cX12_count 71 = .ok (.aload_n 0, 1) := by decide +kernel
theorem dX12_count_72 : decode cX12_count 72 = .ok (.getfield 297, 3) := by decide +kernel
theorem dX12_count_75 : decode cX12_count 75 = .ok (.ireturn, 1) := by decide +kernel
theorem dX12_count_76 : decode cX12_count 76 = .ok (.aload_n 0, 1) := by decide +kernel
theorem dX12_count_77 : decode cX12_count 77 = .ok (.getfield 300, 3) := by decide +kernel
theorem dX12_count_80 : decode cX12_count 80 = .ok (.ireturn, 1) := by decide +kernel
theorem dX12_count_81 : decode cX12_count 81 = .ok (.aload_n 0, 1) := by decide +kernel
theorem dX12_count_82 : decode cX12_count 82 = .ok (.getfield 303, 3) := by decide +kernel
theorem dX12_count_85 : decode cX12_count 85 = .ok (.ireturn, 1) := by decide +kernel
theorem dX12_count_86 : decode cX12_count 86 = .ok (.aload_n 0, 1) := by decide +kernel
theorem dX12_count_87 : decode cX12_count 87 = .ok (.getfield 306, 3) := by decide +kernel
theorem dX12_count_90 : decode cX12_count 90 = .ok (.ireturn, 1) := by decide +kernel
theorem dX12_count_91 : decode cX12_count 91 = .ok (.aload_n 0, 1) := by decide +kernel
theorem dX12_count_92 : decode cX12_count 92 = .ok (.getfield 251, 3) := by decide +kernel
theorem dX12_count_95 : decode cX12_count 95 = .ok (.ireturn, 1) := by decide +kernel
theorem dX12_count_96 : decode cX12_count 96 = .ok (.iconst (-1), 1) := by decide +kernel
theorem dX12_count_97 : decode cX12_count 97 = .ok (.ireturn, 1) := by decide +kernel
set_option maxHeartbeats 4000000 in
set_option maxRecDepth 100000 in
/-- X12_count -/
theorem kX12_count (l : Launch) (D : va_G) (G : tyG) (h0 : Nat) (x1 : Int32) (z0 : Nat) (z1 : Nat) (z2 : Nat) (z3 : Nat) (z4 : Nat) (z5 : Nat) (z20 : Nat) (z21 : Nat) (z22 : Nat) (z23 : Nat) (z24 : Nat) (z25 : Nat) (z26 : Nat) (z27 : Nat) (z28 : Nat) (z6 : Nat) (z29 : Nat) (z7 : Nat) (z19 : Nat) (z8 : Nat) (z9 : Nat) (z10 : Nat) (z11 : Nat) (z30 : Nat) (z31 : Nat) (z32 : Nat) (z33 : Nat) (z12 : Nat) (z34 : Nat) (z35 : Nat) (z36 : Nat) (z37 : Nat) (z38 : Nat) (z39 : Nat) (z40 : Nat) (z41 : Nat) (z42 : Nat) (z13 : Nat) (z14 : Nat) (z15 : Nat) (z16 : Nat) (z17 : Nat) (z18 : Nat) (z43 : Nat) (sz : Nat) : Met l yX12_count wsX12_count ({ frames := 0, cells := 0, slots := 0, locals := 0 }) (va_Pc [.ref h0, .int x1] (wB D G sz [(h0, .inr (12, [.ref z0, .ref z1, .ref z2, .ref z3, .ref z4, .ref z5, .ref z20, .ref z21, .ref z22, .ref z23, .ref z24, .ref z25, .int 0, .ref z26, .ref z27, .ref z28, .int 9, .int 0, .int 0, .ref z6, .ref z29, .ref z7, .int 0, .int 2, .ref z19, .ref z8, .ref z9, .ref z10, .int 0, .ref z11, .int 0, .ref z30, .ref z31, .ref z32, .ref z33, .int 0, .ref z12, .int 0, .int 0, .ref z34, .ref z35, .ref z36, .ref z37, .int 0, .int 0, .int 0, .int 0, .ref z38, .int 0, .ref z39, .ref z40, .ref z41, .ref z42, .int 0, .ref z13, .ref z14, .ref z15, .ref z16, .int 0, .ref z17, .ref z18, .ref z43])), (z6, .inl (G.1, 169, .inl (fun _ => 0)))])) (va_Qi (fun (r : Int32) (_ : Unit) => r = sCount x1) (fun _ _ => True) (va_A [(h0, .inr (12, [.ref z0, .ref z1, .ref z2, .ref z3, .ref z4, .ref z5, .ref z20, .ref z21, .ref z22, .ref z23, .ref z24, .ref z25, .int 0, .ref z26, .ref z27, .ref z28, .int 9, .int 0, .int 0, .ref z6, .ref z29, .ref z7, .int 0, .int 2, .ref z19, .ref z8, .ref z9, .ref z10, .int 0, .ref z11, .int 0, .ref z30, .ref z31, .ref z32, .ref z33, .int 0, .ref z12, .int 0, .int 0, .ref z34, .ref z35, .ref z36, .ref z37, .int 0, .int 0, .int 0, .int 0, .ref z38, .int 0, .ref z39, .ref z40, .ref z41, .ref z42, .int 0, .ref z13, .ref z14, .ref z15, .ref z16, .int 0, .ref z17, .ref z18, .ref z43])), (z6, .inl (G.1, 169, .inl (fun _ => 0)))] sz)) 0 0 (va_A [(h0, .inr (12, [.ref z0, .ref z1, .ref z2, .ref z3, .ref z4, .ref z5, .ref z20, .ref z21, .ref z22, .ref z23, .ref z24, .ref z25, .int 0, .ref z26, .ref z27, .ref z28, .int 9, .int 0, .int 0, .ref z6, .ref z29, .ref z7, .int 0, .int 2, .ref z19, .ref z8, .ref z9, .ref z10, .int 0, .ref z11, .int 0, .ref z30, .ref z31, .ref z32, .ref z33, .int 0, .ref z12, .int 0, .int 0, .ref z34, .ref z35, .ref z36, .ref z37, .int 0, .int 0, .int 0, .int 0, .ref z38, .int 0, .ref z39, .ref z40, .ref z41, .ref z42, .int 0, .ref z13, .ref z14, .ref z15, .ref z16, .int 0, .ref z17, .ref z18, .ref z43])), (z6, .inl (G.1, 169, .inl (fun _ => 0)))] sz) := by
  refine Met.ofW (cc := cX12_count) (maxL := 2) (ret := (some .int)) (by decide) rfl ?_
  intro p e s m args below meth c s₁ B hml hv
  obtain ⟨rfl, hsz, hP, hK, hD0, hN⟩ := hv
  have hx := B.exec
  have hb := B.bytes
  have hr := B.returns
  have hts := atoms_spec (ws := wsX12_count) B.pre
  have hown : s.vm.findClass RX12 = some m.cls := findClass_of_methodNamed B.named
  have hlocks := B.notSynchronized
  subst hsz
  have hD := hD0.self (sz := s.heap.size)
  generalize hAe : va_A [(h0, .inr (12, [.ref z0, .ref z1, .ref z2, .ref z3, .ref z4, .ref z5, .ref z20, .ref z21, .ref z22, .ref z23, .ref z24, .ref z25, .int 0, .ref z26, .ref z27, .ref z28, .int 9, .int 0, .int 0, .ref z6, .ref z29, .ref z7, .int 0, .int 2, .ref z19, .ref z8, .ref z9, .ref z10, .int 0, .ref z11, .int 0, .ref z30, .ref z31, .ref z32, .ref z33, .int 0, .ref z12, .int 0, .int 0, .ref z34, .ref z35, .ref z36, .ref z37, .int 0, .int 0, .int 0, .int 0, .ref z38, .int 0, .ref z39, .ref z40, .ref z41, .ref z42, .int 0, .ref z13, .ref z14, .ref z15, .ref z16, .int 0, .ref z17, .ref z18, .ref z43])), (z6, .inl (G.1, 169, .inl (fun _ => 0)))] s.heap.size = A at hD ⊢
  have hA : ∀ q : Nat, s.heap.size ≤ q → A q := fun q h => by rw [← hAe]; exact Or.inr h
  have hS : va_S A s.heap s.heap [] := va_S.rf
  have hP : va_P D vwCl [(h0, .inr (12, [.ref z0, .ref z1, .ref z2, .ref z3, .ref z4, .ref z5, .ref z20, .ref z21, .ref z22, .ref z23, .ref z24, .ref z25, .int 0, .ref z26, .ref z27, .ref z28, .int 9, .int 0, .int 0, .ref z6, .ref z29, .ref z7, .int 0, .int 2, .ref z19, .ref z8, .ref z9, .ref z10, .int 0, .ref z11, .int 0, .ref z30, .ref z31, .ref z32, .ref z33, .int 0, .ref z12, .int 0, .int 0, .ref z34, .ref z35, .ref z36, .ref z37, .int 0, .int 0, .int 0, .int 0, .ref z38, .int 0, .ref z39, .ref z40, .ref z41, .ref z42, .int 0, .ref z13, .ref z14, .ref z15, .ref z16, .int 0, .ref z17, .ref z18, .ref z43])), (z6, .inl (G.1, 169, .inl (fun _ => 0)))] s.heap := hP
  have hl := lv_entry ([.ref h0, .int x1]) (n := 2) (Nat.le_of_ble_eq_true rfl)
  rw [lg_entry_eq]
  generalize (lg_sl ([.ref h0, .int x1]) ++ List.replicate (2 - (lg_sl ([.ref h0, .int x1])).length) Slot.unset).toArray = ls at hl ⊢
  have hl : lv_has ls 2 [(0, .ref h0), (1, .int x1)] := hl
  refine lv_aload_n hx hb dX12_count_0 rfl (lv_at hl 0 rfl) ?_
  refine lv_iconst (v := 0) hx hb dX12_count_1 (by decide) ?_
  refine va_put (D := D) (ci := 12) (v := .int 0) (ty := (tyX12 38)) (C := RX12) (T := TX12) (N := 62) hx hb hts iX12_count_X12 tyX12 tyX12_ok nmX12 hown hK hP hD hS 0 rfl rfl 38 (by decide) (hts (.fieldLink RX12 157 "PuppetBridgeModel" "thrown" "I") mX12_count_w0) (fun _ h9 => h9) rfl (tyX12_ok 38 (by decide)) rfl rfl (Nat.le_of_ble_eq_true rfl) dX12_count_2 (fun H locs hP hD hS => ?_)
  have hP : va_P D vwCl [(h0, .inr (12, [.ref z0, .ref z1, .ref z2, .ref z3, .ref z4, .ref z5, .ref z20, .ref z21, .ref z22, .ref z23, .ref z24, .ref z25, .int 0, .ref z26, .ref z27, .ref z28, .int 9, .int 0, .int 0, .ref z6, .ref z29, .ref z7, .int 0, .int 2, .ref z19, .ref z8, .ref z9, .ref z10, .int 0, .ref z11, .int 0, .ref z30, .ref z31, .ref z32, .ref z33, .int 0, .ref z12, .int 0, .int 0, .ref z34, .ref z35, .ref z36, .ref z37, .int 0, .int 0, .int 0, .int 0, .ref z38, .int 0, .ref z39, .ref z40, .ref z41, .ref z42, .int 0, .ref z13, .ref z14, .ref z15, .ref z16, .int 0, .ref z17, .ref z18, .ref z43])), (z6, .inl (G.1, 169, .inl (fun _ => 0)))] H := hP
  have hD : va_D A [(h0, .inr (12, [.ref z0, .ref z1, .ref z2, .ref z3, .ref z4, .ref z5, .ref z20, .ref z21, .ref z22, .ref z23, .ref z24, .ref z25, .int 0, .ref z26, .ref z27, .ref z28, .int 9, .int 0, .int 0, .ref z6, .ref z29, .ref z7, .int 0, .int 2, .ref z19, .ref z8, .ref z9, .ref z10, .int 0, .ref z11, .int 0, .ref z30, .ref z31, .ref z32, .ref z33, .int 0, .ref z12, .int 0, .int 0, .ref z34, .ref z35, .ref z36, .ref z37, .int 0, .int 0, .int 0, .int 0, .ref z38, .int 0, .ref z39, .ref z40, .ref z41, .ref z42, .int 0, .ref z13, .ref z14, .ref z15, .ref z16, .int 0, .ref z17, .ref z18, .ref z43])), (z6, .inl (G.1, 169, .inl (fun _ => 0)))] := hD
  refine lv_iload_n hx hb dX12_count_5 rfl (lv_at hl 1 rfl) ?_
  by_cases s1 : x1 = 0
  · subst s1
    refine lv_tableIn (off := 46) (tgt := 52) hx hb dX12_count_6 (by decide) (by decide) (by decide) (by decide) ?_
    refine lv_aload_n hx hb dX12_count_52 rfl (lv_at hl 0 rfl) ?_
    refine va_get (D := D) (ci := 12) (v := .int 0) (C := RX12) (T := TX12) (N := 62) hx hb hts iX12_count_X12 hown hK hP 0 rfl rfl 12 (by decide) (hts (.fieldLink RX12 160 "PuppetBridgeModel" "figures" "I") mX12_count_w1) (fun _ h9 => h9) rfl dX12_count_53 ?_
    exact W.iret (v := 0) hx hb hr (fun t ht hW => ⟨⟨0, (), rfl, rfl, trivial⟩, hS.F ht⟩) hS.2.2 dX12_count_56
  by_cases s2 : x1 = 1
  · subst s2
    refine lv_tableIn (off := 51) (tgt := 57) hx hb dX12_count_6 (by decide) (by decide) (by decide) (by decide) ?_
    refine lv_aload_n hx hb dX12_count_57 rfl (lv_at hl 0 rfl) ?_
    refine va_get (D := D) (ci := 12) (v := .ref z6) (C := RX12) (T := TX12) (N := 62) hx hb hts iX12_count_X12 hown hK hP 0 rfl rfl 19 (by decide) (hts (.fieldLink RX12 60 "PuppetBridgeModel" "w" "[I") mX12_count_w2) (fun _ h9 => h9) rfl dX12_count_58 ?_
    refine lv_sipush (v := 168) hx hb dX12_count_61 (by decide) ?_
    refine va_iald hx hb hK hP 1 0 rfl rfl (wk_in rfl) dX12_count_64 ?_
    refine wk_i 0 rfl ?_
    exact W.iret (v := 0) hx hb hr (fun t ht hW => ⟨⟨0, (), rfl, by first | (simp [sCount, s1]; done) | rfl, trivial⟩, hS.F ht⟩) hS.2.2 dX12_count_65
  by_cases s3 : x1 = 2
  · subst s3
    refine lv_tableIn (off := 60) (tgt := 66) hx hb dX12_count_6 (by decide) (by decide) (by decide) (by decide) ?_
    refine lv_aload_n hx hb dX12_count_66 rfl (lv_at hl 0 rfl) ?_
    refine va_get (D := D) (ci := 12) (v := .int 2) (C := RX12) (T := TX12) (N := 62) hx hb hts iX12_count_X12 hown hK hP 0 rfl rfl 23 (by decide) (hts (.fieldLink RX12 69 "PuppetBridgeModel" "bars" "I") mX12_count_w3) (fun _ h9 => h9) rfl dX12_count_67 ?_
    exact W.iret (v := 2) hx hb hr (fun t ht hW => ⟨⟨2, (), rfl, by first | (simp [sCount, s1, s2]; done) | (simp [sCount, s1]; done) | rfl, trivial⟩, hS.F ht⟩) hS.2.2 dX12_count_70
  by_cases s4 : x1 = 3
  · subst s4
    refine lv_tableIn (off := 65) (tgt := 71) hx hb dX12_count_6 (by decide) (by decide) (by decide) (by decide) ?_
    refine lv_aload_n hx hb dX12_count_71 rfl (lv_at hl 0 rfl) ?_
    refine va_get (D := D) (ci := 12) (v := .int 0) (C := RX12) (T := TX12) (N := 62) hx hb hts iX12_count_X12 hown hK hP 0 rfl rfl 28 (by decide) (hts (.fieldLink RX12 297 "PuppetBridgeModel" "passMany" "I") mX12_count_w4) (fun _ h9 => h9) rfl dX12_count_72 ?_
    exact W.iret (v := 0) hx hb hr (fun t ht hW => ⟨⟨0, (), rfl, by first | (simp [sCount, s1, s2, s3]; done) | (simp [sCount, s1, s2]; done) | (simp [sCount, s1]; done) | rfl, trivial⟩, hS.F ht⟩) hS.2.2 dX12_count_75
  by_cases s5 : x1 = 4
  · subst s5
    refine lv_tableIn (off := 70) (tgt := 76) hx hb dX12_count_6 (by decide) (by decide) (by decide) (by decide) ?_
    refine lv_aload_n hx hb dX12_count_76 rfl (lv_at hl 0 rfl) ?_
    refine va_get (D := D) (ci := 12) (v := .int 0) (C := RX12) (T := TX12) (N := 62) hx hb hts iX12_count_X12 hown hK hP 0 rfl rfl 30 (by decide) (hts (.fieldLink RX12 300 "PuppetBridgeModel" "sceneMany" "I") mX12_count_w5) (fun _ h9 => h9) rfl dX12_count_77 ?_
    exact W.iret (v := 0) hx hb hr (fun t ht hW => ⟨⟨0, (), rfl, by first | (simp [sCount, s1, s2, s3, s4]; done) | (simp [sCount, s1, s2, s3]; done) | (simp [sCount, s1, s2]; done) | (simp [sCount, s1]; done) | rfl, trivial⟩, hS.F ht⟩) hS.2.2 dX12_count_80
  by_cases s6 : x1 = 5
  · subst s6
    refine lv_tableIn (off := 75) (tgt := 81) hx hb dX12_count_6 (by decide) (by decide) (by decide) (by decide) ?_
    refine lv_aload_n hx hb dX12_count_81 rfl (lv_at hl 0 rfl) ?_
    refine va_get (D := D) (ci := 12) (v := .int 0) (C := RX12) (T := TX12) (N := 62) hx hb hts iX12_count_X12 hown hK hP 0 rfl rfl 35 (by decide) (hts (.fieldLink RX12 303 "PuppetBridgeModel" "seenMany" "I") mX12_count_w6) (fun _ h9 => h9) rfl dX12_count_82 ?_
    exact W.iret (v := 0) hx hb hr (fun t ht hW => ⟨⟨0, (), rfl, by first | (simp [sCount, s1, s2, s3, s4, s5]; done) | (simp [sCount, s1, s2, s3, s4]; done) | (simp [sCount, s1, s2, s3]; done) | (simp [sCount, s1, s2]; done) | (simp [sCount, s1]; done) | rfl, trivial⟩, hS.F ht⟩) hS.2.2 dX12_count_85
  by_cases s7 : x1 = 6
  · subst s7
    refine lv_tableIn (off := 80) (tgt := 86) hx hb dX12_count_6 (by decide) (by decide) (by decide) (by decide) ?_
    refine lv_aload_n hx hb dX12_count_86 rfl (lv_at hl 0 rfl) ?_
    refine va_get (D := D) (ci := 12) (v := .int 0) (C := RX12) (T := TX12) (N := 62) hx hb hts iX12_count_X12 hown hK hP 0 rfl rfl 37 (by decide) (hts (.fieldLink RX12 306 "PuppetBridgeModel" "rowMany" "I") mX12_count_w7) (fun _ h9 => h9) rfl dX12_count_87 ?_
    exact W.iret (v := 0) hx hb hr (fun t ht hW => ⟨⟨0, (), rfl, by first | (simp [sCount, s1, s2, s3, s4, s5, s6]; done) | (simp [sCount, s1, s2, s3, s4, s5]; done) | (simp [sCount, s1, s2, s3, s4]; done) | (simp [sCount, s1, s2, s3]; done) | (simp [sCount, s1, s2]; done) | (simp [sCount, s1]; done) | rfl, trivial⟩, hS.F ht⟩) hS.2.2 dX12_count_90
  by_cases s8 : x1 = 7
  · subst s8
    refine lv_tableIn (off := 85) (tgt := 91) hx hb dX12_count_6 (by decide) (by decide) (by decide) (by decide) ?_
    refine lv_aload_n hx hb dX12_count_91 rfl (lv_at hl 0 rfl) ?_
    refine va_get (D := D) (ci := 12) (v := .int 0) (C := RX12) (T := TX12) (N := 62) hx hb hts iX12_count_X12 hown hK hP 0 rfl rfl 22 (by decide) (hts (.fieldLink RX12 251 "PuppetBridgeModel" "typed" "I") mX12_count_w8) (fun _ h9 => h9) rfl dX12_count_92 ?_
    exact W.iret (v := 0) hx hb hr (fun t ht hW => ⟨⟨0, (), rfl, by first | (simp [sCount, s1, s2, s3, s4, s5, s6, s7]; done) | (simp [sCount, s1, s2, s3, s4, s5, s6]; done) | (simp [sCount, s1, s2, s3, s4, s5]; done) | (simp [sCount, s1, s2, s3, s4]; done) | (simp [sCount, s1, s2, s3]; done) | (simp [sCount, s1, s2]; done) | (simp [sCount, s1]; done) | rfl, trivial⟩, hS.F ht⟩) hS.2.2 dX12_count_95
  · refine lv_tableOut (tgt := 96) hx hb dX12_count_6 (by have bs1 : x1.toInt ≠ 0 := fun h9 => s1 (wk_eq (by rw [h9]; decide)); have bs2 : x1.toInt ≠ 1 := fun h9 => s2 (wk_eq (by rw [h9]; decide)); have bs3 : x1.toInt ≠ 2 := fun h9 => s3 (wk_eq (by rw [h9]; decide)); have bs4 : x1.toInt ≠ 3 := fun h9 => s4 (wk_eq (by rw [h9]; decide)); have bs5 : x1.toInt ≠ 4 := fun h9 => s5 (wk_eq (by rw [h9]; decide)); have bs6 : x1.toInt ≠ 5 := fun h9 => s6 (wk_eq (by rw [h9]; decide)); have bs7 : x1.toInt ≠ 6 := fun h9 => s7 (wk_eq (by rw [h9]; decide)); have bs8 : x1.toInt ≠ 7 := fun h9 => s8 (wk_eq (by rw [h9]; decide)); omega) (by decide) ?_
    refine lv_iconst (v := (-1)) hx hb dX12_count_96 (by decide) ?_
    exact W.iret (v := (-1)) hx hb hr (fun t ht hW => ⟨⟨(-1), (), rfl, by first | (simp [sCount, s1, s2, s3, s4, s5, s6, s7, s8]; done) | (simp [sCount, s1, s2, s3, s4, s5, s6, s7]; done) | (simp [sCount, s1, s2, s3, s4, s5, s6]; done) | (simp [sCount, s1, s2, s3, s4, s5]; done) | (simp [sCount, s1, s2, s3, s4]; done) | (simp [sCount, s1, s2, s3]; done) | (simp [sCount, s1, s2]; done) | (simp [sCount, s1]; done) | rfl, trivial⟩, hS.F ht⟩) hS.2.2 dX12_count_97

theorem mX12_scene_w0 : Cond.fieldLink RX12 157 "PuppetBridgeModel" "thrown" "I" ∈ wsX12_scene := by decide +kernel
theorem mX12_scene_w1 : Cond.fieldLink RX12 300 "PuppetBridgeModel" "sceneMany" "I" ∈ wsX12_scene := by decide +kernel
theorem mX12_scene_w2 : Cond.fieldLink RX12 84 "PuppetBridgeModel" "scenes" "[I" ∈ wsX12_scene := by decide +kernel
theorem iX12_scene_X12 : ∀ w ∈ wsX120, w ∈ wsX12_scene := fun _ h => List.mem_cons_of_mem _ (List.mem_append_right _ h)
set_option maxRecDepth 20000 in
theorem ggX12_scene_X12_in : GoodIn wsX12_scene wsX12_in := goodIn_r _ [7] (by decide +kernel) (by decide +kernel)
set_option maxRecDepth 20000 in
theorem gX12_scene_X12_in : GoodIn wsX12_scene (va_wsS RX12 163 yX12_in wsX12_in) := goodIn_app (goodIn_of _ (by decide +kernel)) ggX12_scene_X12_in
theorem dX12_scene_0 : decode cX12_scene 0 = .ok (.aload_n 0, 1) := by decide +kernel
theorem dX12_scene_1 : decode cX12_scene 1 = .ok (.iconst 0, 1) := by decide +kernel
theorem dX12_scene_2 : decode cX12_scene 2 = .ok (.putfield 157, 3) := by decide +kernel
theorem dX12_scene_5 : decode cX12_scene 5 = .ok (.iload_n 1, 1) := by decide +kernel
theorem dX12_scene_6 : decode cX12_scene 6 = .ok (.iconst 0, 1) := by decide +kernel
theorem dX12_scene_7 : decode cX12_scene 7 = .ok (.bipush 15, 2) := by decide +kernel
theorem dX12_scene_9 : decode cX12_scene 9 = .ok (.invokestatic 163, 3) := by decide +kernel
theorem dX12_scene_12 : decode cX12_scene 12 = .ok (.ifCond .eq 12, 3) := by decide +kernel
theorem dX12_scene_15 : decode cX12_scene 15 = .ok (.aload_n 0, 1) := by decide +kernel
theorem dX12_scene_16 : decode cX12_scene 16 = .ok (.getfield 300, 3) := by decide +kernel
theorem dX12_scene_19 : decode cX12_scene 19 = .ok (.bipush 8, 2) := by decide +kernel
theorem dX12_scene_21 : decode cX12_scene 21 = .ok (.if_icmp .ne 5, 3) := by decide +kernel
theorem dX12_scene_24 : decode cX12_scene 24 = .ok (.iconst (-1), 1) := by decide +kernel
theorem dX12_scene_25 : decode cX12_scene 25 = .ok (.ireturn, 1) := by decide +kernel
theorem dX12_scene_26 : decode cX12_scene 26 = .ok (.aload_n 0, 1) := by decide +kernel
theorem dX12_scene_27 : decode cX12_scene 27 = .ok (.getfield 84, 3) := by decide +kernel
theorem dX12_scene_30 : decode cX12_scene 30 = .ok (.aload_n 0, 1) := by decide +kernel
theorem dX12_scene_31 : decode cX12_scene 31 = .ok (.getfield 300, 3) := by decide +kernel
theorem dX12_scene_34 : decode cX12_scene 34 = .ok (.iload_n 1, 1) := by decide +kernel
theorem dX12_scene_35 : decode cX12_scene 35 = .ok (.iastore, 1) := by decide +kernel
theorem dX12_scene_36 : decode cX12_scene 36 = .ok (.aload_n 0, 1) := by decide +kernel
theorem dX12_scene_37 : decode cX12_scene 37 = .ok (.dup, 1) := by decide +kernel
theorem dX12_scene_38 : decode cX12_scene 38 = .ok (.getfield 300, 3) := by decide +kernel
theorem dX12_scene_41 : decode cX12_scene 41 = .ok (.iconst 1, 1) := by decide +kernel
theorem dX12_scene_42 : decode cX12_scene 42 = .ok (.iadd, 1) := by decide +kernel
theorem dX12_scene_43 : decode cX12_scene 43 = .ok (.putfield 300, 3) := by decide +kernel
theorem dX12_scene_46 : decode cX12_scene 46 = .ok (.aload_n 0, 1) := by decide +kernel
theorem dX12_scene_47 : decode cX12_scene 47 = .ok (.getfield 300, 3) := by decide +kernel
theorem dX12_scene_50 : decode cX12_scene 50 = .ok (.iconst 1, 1) := by decide +kernel
theorem dX12_scene_51 : decode cX12_scene 51 = .ok (.isub, 1) := by decide +kernel
theorem dX12_scene_52 : decode cX12_scene 52 = .ok (.ireturn, 1) := by decide +kernel
set_option maxHeartbeats 4000000 in
set_option maxRecDepth 100000 in
/-- X12_scene -/
theorem kX12_scene (l : Launch) (D : va_G) (G : tyG) (h0 : Nat) (x1 : Int32) (z0 : Nat) (z1 : Nat) (z2 : Nat) (z3 : Nat) (z4 : Nat) (z5 : Nat) (z20 : Nat) (z21 : Nat) (z22 : Nat) (z23 : Nat) (z24 : Nat) (z25 : Nat) (z26 : Nat) (z27 : Nat) (z28 : Nat) (z6 : Nat) (z29 : Nat) (z7 : Nat) (z19 : Nat) (z8 : Nat) (z9 : Nat) (z10 : Nat) (z11 : Nat) (z30 : Nat) (z31 : Nat) (z32 : Nat) (z33 : Nat) (z12 : Nat) (z34 : Nat) (z35 : Nat) (z36 : Nat) (z37 : Nat) (z38 : Nat) (z39 : Nat) (z40 : Nat) (z41 : Nat) (z42 : Nat) (z13 : Nat) (z14 : Nat) (z15 : Nat) (z16 : Nat) (z17 : Nat) (z18 : Nat) (z43 : Nat) (sz : Nat) : Met l yX12_scene wsX12_scene ({ frames := 1, cells := 0, slots := 0, locals := 22 }) (va_Pc [.ref h0, .int x1] (wB D G sz [(h0, .inr (12, [.ref z0, .ref z1, .ref z2, .ref z3, .ref z4, .ref z5, .ref z20, .ref z21, .ref z22, .ref z23, .ref z24, .ref z25, .int 0, .ref z26, .ref z27, .ref z28, .int 9, .int 0, .int 0, .ref z6, .ref z29, .ref z7, .int 0, .int 2, .ref z19, .ref z8, .ref z9, .ref z10, .int 0, .ref z11, .int 0, .ref z30, .ref z31, .ref z32, .ref z33, .int 0, .ref z12, .int 0, .int 0, .ref z34, .ref z35, .ref z36, .ref z37, .int 0, .int 0, .int 0, .int 0, .ref z38, .int 0, .ref z39, .ref z40, .ref z41, .ref z42, .int 0, .ref z13, .ref z14, .ref z15, .ref z16, .int 0, .ref z17, .ref z18, .ref z43])), (z11, .inl (G.1, 8, .inl (fun _ => 0)))])) (va_Qi (fun (r : Int32) (_ : Unit) => r = (if inB x1 0 15 = true then 0 else -1)) (fun _ _ => True) (va_A [(h0, .inr (12, [.ref z0, .ref z1, .ref z2, .ref z3, .ref z4, .ref z5, .ref z20, .ref z21, .ref z22, .ref z23, .ref z24, .ref z25, .int 0, .ref z26, .ref z27, .ref z28, .int 9, .int 0, .int 0, .ref z6, .ref z29, .ref z7, .int 0, .int 2, .ref z19, .ref z8, .ref z9, .ref z10, .int 0, .ref z11, .int 0, .ref z30, .ref z31, .ref z32, .ref z33, .int 0, .ref z12, .int 0, .int 0, .ref z34, .ref z35, .ref z36, .ref z37, .int 0, .int 0, .int 0, .int 0, .ref z38, .int 0, .ref z39, .ref z40, .ref z41, .ref z42, .int 0, .ref z13, .ref z14, .ref z15, .ref z16, .int 0, .ref z17, .ref z18, .ref z43])), (z11, .inl (G.1, 8, .inl (fun _ => 0)))] sz)) 0 0 (va_A [(h0, .inr (12, [.ref z0, .ref z1, .ref z2, .ref z3, .ref z4, .ref z5, .ref z20, .ref z21, .ref z22, .ref z23, .ref z24, .ref z25, .int 0, .ref z26, .ref z27, .ref z28, .int 9, .int 0, .int 0, .ref z6, .ref z29, .ref z7, .int 0, .int 2, .ref z19, .ref z8, .ref z9, .ref z10, .int 0, .ref z11, .int 0, .ref z30, .ref z31, .ref z32, .ref z33, .int 0, .ref z12, .int 0, .int 0, .ref z34, .ref z35, .ref z36, .ref z37, .int 0, .int 0, .int 0, .int 0, .ref z38, .int 0, .ref z39, .ref z40, .ref z41, .ref z42, .int 0, .ref z13, .ref z14, .ref z15, .ref z16, .int 0, .ref z17, .ref z18, .ref z43])), (z11, .inl (G.1, 8, .inl (fun _ => 0)))] sz) := by
  refine Met.ofW (cc := cX12_scene) (maxL := 2) (ret := (some .int)) (by decide) rfl ?_
  intro p e s m args below meth c s₁ B hml hv
  obtain ⟨rfl, hsz, hP, hK, hD0, hN⟩ := hv
  have hx := B.exec
  have hb := B.bytes
  have hr := B.returns
  have hts := atoms_spec (ws := wsX12_scene) B.pre
  have hown : s.vm.findClass RX12 = some m.cls := findClass_of_methodNamed B.named
  have hlocks := B.notSynchronized
  subst hsz
  have hD := hD0.self (sz := s.heap.size)
  generalize hAe : va_A [(h0, .inr (12, [.ref z0, .ref z1, .ref z2, .ref z3, .ref z4, .ref z5, .ref z20, .ref z21, .ref z22, .ref z23, .ref z24, .ref z25, .int 0, .ref z26, .ref z27, .ref z28, .int 9, .int 0, .int 0, .ref z6, .ref z29, .ref z7, .int 0, .int 2, .ref z19, .ref z8, .ref z9, .ref z10, .int 0, .ref z11, .int 0, .ref z30, .ref z31, .ref z32, .ref z33, .int 0, .ref z12, .int 0, .int 0, .ref z34, .ref z35, .ref z36, .ref z37, .int 0, .int 0, .int 0, .int 0, .ref z38, .int 0, .ref z39, .ref z40, .ref z41, .ref z42, .int 0, .ref z13, .ref z14, .ref z15, .ref z16, .int 0, .ref z17, .ref z18, .ref z43])), (z11, .inl (G.1, 8, .inl (fun _ => 0)))] s.heap.size = A at hD ⊢
  have hA : ∀ q : Nat, s.heap.size ≤ q → A q := fun q h => by rw [← hAe]; exact Or.inr h
  have hS : va_S A s.heap s.heap [] := va_S.rf
  have hP : va_P D vwCl [(h0, .inr (12, [.ref z0, .ref z1, .ref z2, .ref z3, .ref z4, .ref z5, .ref z20, .ref z21, .ref z22, .ref z23, .ref z24, .ref z25, .int 0, .ref z26, .ref z27, .ref z28, .int 9, .int 0, .int 0, .ref z6, .ref z29, .ref z7, .int 0, .int 2, .ref z19, .ref z8, .ref z9, .ref z10, .int 0, .ref z11, .int 0, .ref z30, .ref z31, .ref z32, .ref z33, .int 0, .ref z12, .int 0, .int 0, .ref z34, .ref z35, .ref z36, .ref z37, .int 0, .int 0, .int 0, .int 0, .ref z38, .int 0, .ref z39, .ref z40, .ref z41, .ref z42, .int 0, .ref z13, .ref z14, .ref z15, .ref z16, .int 0, .ref z17, .ref z18, .ref z43])), (z11, .inl (G.1, 8, .inl (fun _ => 0)))] s.heap := hP
  have hl := lv_entry ([.ref h0, .int x1]) (n := 2) (Nat.le_of_ble_eq_true rfl)
  rw [lg_entry_eq]
  generalize (lg_sl ([.ref h0, .int x1]) ++ List.replicate (2 - (lg_sl ([.ref h0, .int x1])).length) Slot.unset).toArray = ls at hl ⊢
  have hl : lv_has ls 2 [(0, .ref h0), (1, .int x1)] := hl
  refine lv_aload_n hx hb dX12_scene_0 rfl (lv_at hl 0 rfl) ?_
  refine lv_iconst (v := 0) hx hb dX12_scene_1 (by decide) ?_
  refine va_put (D := D) (ci := 12) (v := .int 0) (ty := (tyX12 38)) (C := RX12) (T := TX12) (N := 62) hx hb hts iX12_scene_X12 tyX12 tyX12_ok nmX12 hown hK hP hD hS 0 rfl rfl 38 (by decide) (hts (.fieldLink RX12 157 "PuppetBridgeModel" "thrown" "I") mX12_scene_w0) (fun _ h9 => h9) rfl (tyX12_ok 38 (by decide)) rfl rfl (Nat.le_of_ble_eq_true rfl) dX12_scene_2 (fun H locs hP hD hS => ?_)
  have hP : va_P D vwCl [(h0, .inr (12, [.ref z0, .ref z1, .ref z2, .ref z3, .ref z4, .ref z5, .ref z20, .ref z21, .ref z22, .ref z23, .ref z24, .ref z25, .int 0, .ref z26, .ref z27, .ref z28, .int 9, .int 0, .int 0, .ref z6, .ref z29, .ref z7, .int 0, .int 2, .ref z19, .ref z8, .ref z9, .ref z10, .int 0, .ref z11, .int 0, .ref z30, .ref z31, .ref z32, .ref z33, .int 0, .ref z12, .int 0, .int 0, .ref z34, .ref z35, .ref z36, .ref z37, .int 0, .int 0, .int 0, .int 0, .ref z38, .int 0, .ref z39, .ref z40, .ref z41, .ref z42, .int 0, .ref z13, .ref z14, .ref z15, .ref z16, .int 0, .ref z17, .ref z18, .ref z43])), (z11, .inl (G.1, 8, .inl (fun _ => 0)))] H := hP
  have hD : va_D A [(h0, .inr (12, [.ref z0, .ref z1, .ref z2, .ref z3, .ref z4, .ref z5, .ref z20, .ref z21, .ref z22, .ref z23, .ref z24, .ref z25, .int 0, .ref z26, .ref z27, .ref z28, .int 9, .int 0, .int 0, .ref z6, .ref z29, .ref z7, .int 0, .int 2, .ref z19, .ref z8, .ref z9, .ref z10, .int 0, .ref z11, .int 0, .ref z30, .ref z31, .ref z32, .ref z33, .int 0, .ref z12, .int 0, .int 0, .ref z34, .ref z35, .ref z36, .ref z37, .int 0, .int 0, .int 0, .int 0, .ref z38, .int 0, .ref z39, .ref z40, .ref z41, .ref z42, .int 0, .ref z13, .ref z14, .ref z15, .ref z16, .int 0, .ref z17, .ref z18, .ref z43])), (z11, .inl (G.1, 8, .inl (fun _ => 0)))] := hD
  refine lv_iload_n hx hb dX12_scene_5 rfl (lv_at hl 1 rfl) ?_
  refine lv_iconst (v := 0) hx hb dX12_scene_6 (by decide) ?_
  refine lv_bipush (v := 15) hx hb dX12_scene_7 (by decide) ?_
  have hPc := hP.sub (ws' := []) [] rfl
  have hDc := hD.sub (ws' := []) [] (by decide) rfl
  have hFc := va_free (wc := []) hD hS hA [] rfl
  refine va_calli (va_runS (As := [.int x1, .int 0, .int 15]) (rest := []) ⟨hx, hb, hml, hown, hts⟩ (kX12_in l D G x1 0 15 H.size) (va_cwS 3 hts gX12_scene_X12_in rfl rfl rfl (by decide +kernel) ⟨Nat.le_of_ble_eq_true rfl, Nat.le_of_ble_eq_true rfl⟩) ⟨wB_blind, wB_pre hPc hK hDc hN⟩ rfl rfl hl.1 rfl (lv_room (Nat.le_of_ble_eq_true rfl)) dX12_scene_9 ⟨Nat.le_of_ble_eq_true rfl, Nat.le_of_ble_eq_true rfl⟩) hS (fun q _ h => hFc q h) hFc (fun r1 u t H1 locs ht hvm hr1 hB hz1 hk1 hS => ?_)
  obtain ⟨hP, hD⟩ := va_join (wr := [(h0, .inr (12, [.ref z0, .ref z1, .ref z2, .ref z3, .ref z4, .ref z5, .ref z20, .ref z21, .ref z22, .ref z23, .ref z24, .ref z25, .int 0, .ref z26, .ref z27, .ref z28, .int 9, .int 0, .int 0, .ref z6, .ref z29, .ref z7, .int 0, .int 2, .ref z19, .ref z8, .ref z9, .ref z10, .int 0, .ref z11, .int 0, .ref z30, .ref z31, .ref z32, .ref z33, .int 0, .ref z12, .int 0, .int 0, .ref z34, .ref z35, .ref z36, .ref z37, .int 0, .int 0, .int 0, .int 0, .ref z38, .int 0, .ref z39, .ref z40, .ref z41, .ref z42, .int 0, .ref z13, .ref z14, .ref z15, .ref z16, .int 0, .ref z17, .ref z18, .ref z43])), (z11, .inl (G.1, 8, .inl (fun _ => 0)))]) (w1 := []) hP hD [] [0, 1] rfl rfl (by decide) (by decide) hk1 hFc wP_nil wD_nil
  clear hPc hDc
  generalize H1 = H at hP hS ⊢
  have hP : va_P D vwCl [(h0, .inr (12, [.ref z0, .ref z1, .ref z2, .ref z3, .ref z4, .ref z5, .ref z20, .ref z21, .ref z22, .ref z23, .ref z24, .ref z25, .int 0, .ref z26, .ref z27, .ref z28, .int 9, .int 0, .int 0, .ref z6, .ref z29, .ref z7, .int 0, .int 2, .ref z19, .ref z8, .ref z9, .ref z10, .int 0, .ref z11, .int 0, .ref z30, .ref z31, .ref z32, .ref z33, .int 0, .ref z12, .int 0, .int 0, .ref z34, .ref z35, .ref z36, .ref z37, .int 0, .int 0, .int 0, .int 0, .ref z38, .int 0, .ref z39, .ref z40, .ref z41, .ref z42, .int 0, .ref z13, .ref z14, .ref z15, .ref z16, .int 0, .ref z17, .ref z18, .ref z43])), (z11, .inl (G.1, 8, .inl (fun _ => 0)))] H := hP
  have hD : va_D A [(h0, .inr (12, [.ref z0, .ref z1, .ref z2, .ref z3, .ref z4, .ref z5, .ref z20, .ref z21, .ref z22, .ref z23, .ref z24, .ref z25, .int 0, .ref z26, .ref z27, .ref z28, .int 9, .int 0, .int 0, .ref z6, .ref z29, .ref z7, .int 0, .int 2, .ref z19, .ref z8, .ref z9, .ref z10, .int 0, .ref z11, .int 0, .ref z30, .ref z31, .ref z32, .ref z33, .int 0, .ref z12, .int 0, .int 0, .ref z34, .ref z35, .ref z36, .ref z37, .int 0, .int 0, .int 0, .int 0, .ref z38, .int 0, .ref z39, .ref z40, .ref z41, .ref z42, .int 0, .ref z13, .ref z14, .ref z15, .ref z16, .int 0, .ref z17, .ref z18, .ref z43])), (z11, .inl (G.1, 8, .inl (fun _ => 0)))] := hD
  refine lv_if_eq (tgt := 24) hx hb dX12_scene_12 (by decide) (fun c2 => ?_) (fun c2 => ?_)
  · have kc2 : (inB x1 0 15) = false := wk_b0 hr1 c2
    refine lv_iconst (v := (-1)) hx hb dX12_scene_24 (by decide) ?_
    exact W.iret (v := (-1)) hx hb hr (fun t ht hW => ⟨⟨(-1), (), rfl, by first | (simp [kc2]; done) | rfl, trivial⟩, hS.F ht⟩) hS.2.2 dX12_scene_25
  · have kc2 : (inB x1 0 15) = true := wk_b1 hr1 c2
    refine lv_aload_n hx hb dX12_scene_15 rfl (lv_at hl 0 rfl) ?_
    refine va_get (D := D) (ci := 12) (v := .int 0) (C := RX12) (T := TX12) (N := 62) hx hb hts iX12_scene_X12 hown hK hP 0 rfl rfl 30 (by decide) (hts (.fieldLink RX12 300 "PuppetBridgeModel" "sceneMany" "I") mX12_scene_w1) (fun _ h9 => h9) rfl dX12_scene_16 ?_
    refine lv_bipush (v := 8) hx hb dX12_scene_19 (by decide) ?_
    refine lv_icmp_ne (tgt := 26) hx hb dX12_scene_21 (by decide) (fun _ => ?_) (fun h9 => absurd h9 (by decide))
    refine lv_aload_n hx hb dX12_scene_26 rfl (lv_at hl 0 rfl) ?_
    refine va_get (D := D) (ci := 12) (v := .ref z11) (C := RX12) (T := TX12) (N := 62) hx hb hts iX12_scene_X12 hown hK hP 0 rfl rfl 29 (by decide) (hts (.fieldLink RX12 84 "PuppetBridgeModel" "scenes" "[I") mX12_scene_w2) (fun _ h9 => h9) rfl dX12_scene_27 ?_
    refine lv_aload_n hx hb dX12_scene_30 rfl (lv_at hl 0 rfl) ?_
    refine va_get (D := D) (ci := 12) (v := .int 0) (C := RX12) (T := TX12) (N := 62) hx hb hts iX12_scene_X12 hown hK hP 0 rfl rfl 30 (by decide) (hts (.fieldLink RX12 300 "PuppetBridgeModel" "sceneMany" "I") mX12_scene_w1) (fun _ h9 => h9) rfl dX12_scene_31 ?_
    refine lv_iload_n hx hb dX12_scene_34 rfl (lv_at hl 1 rfl) ?_
    refine va_iast hx hb hK hP hD hS 1 0 rfl rfl (wk_in rfl) dX12_scene_35 (fun H locs hP hD hS => ?_)
    have hP : va_P D vwCl [(h0, .inr (12, [.ref z0, .ref z1, .ref z2, .ref z3, .ref z4, .ref z5, .ref z20, .ref z21, .ref z22, .ref z23, .ref z24, .ref z25, .int 0, .ref z26, .ref z27, .ref z28, .int 9, .int 0, .int 0, .ref z6, .ref z29, .ref z7, .int 0, .int 2, .ref z19, .ref z8, .ref z9, .ref z10, .int 0, .ref z11, .int 0, .ref z30, .ref z31, .ref z32, .ref z33, .int 0, .ref z12, .int 0, .int 0, .ref z34, .ref z35, .ref z36, .ref z37, .int 0, .int 0, .int 0, .int 0, .ref z38, .int 0, .ref z39, .ref z40, .ref z41, .ref z42, .int 0, .ref z13, .ref z14, .ref z15, .ref z16, .int 0, .ref z17, .ref z18, .ref z43])), (z11, .inl (G.1, 8, .inl (upd (fun _ => 0) 0 x1)))] H := hP
    have hD : va_D A [(h0, .inr (12, [.ref z0, .ref z1, .ref z2, .ref z3, .ref z4, .ref z5, .ref z20, .ref z21, .ref z22, .ref z23, .ref z24, .ref z25, .int 0, .ref z26, .ref z27, .ref z28, .int 9, .int 0, .int 0, .ref z6, .ref z29, .ref z7, .int 0, .int 2, .ref z19, .ref z8, .ref z9, .ref z10, .int 0, .ref z11, .int 0, .ref z30, .ref z31, .ref z32, .ref z33, .int 0, .ref z12, .int 0, .int 0, .ref z34, .ref z35, .ref z36, .ref z37, .int 0, .int 0, .int 0, .int 0, .ref z38, .int 0, .ref z39, .ref z40, .ref z41, .ref z42, .int 0, .ref z13, .ref z14, .ref z15, .ref z16, .int 0, .ref z17, .ref z18, .ref z43])), (z11, .inl (G.1, 8, .inl (upd (fun _ => 0) 0 x1)))] := hD
    refine lv_aload_n hx hb dX12_scene_36 rfl (lv_at hl 0 rfl) ?_
    refine lv_dup hx hb dX12_scene_37 rfl ?_
    refine va_get (D := D) (ci := 12) (v := .int 0) (C := RX12) (T := TX12) (N := 62) hx hb hts iX12_scene_X12 hown hK hP 0 rfl rfl 30 (by decide) (hts (.fieldLink RX12 300 "PuppetBridgeModel" "sceneMany" "I") mX12_scene_w1) (fun _ h9 => h9) rfl dX12_scene_38 ?_
    refine lv_iconst (v := 1) hx hb dX12_scene_41 (by decide) ?_
    refine lv_iadd hx hb dX12_scene_42 ?_
    refine wk_i 1 (by decide) ?_
    refine va_put (D := D) (ci := 12) (v := .int 1) (ty := (tyX12 30)) (C := RX12) (T := TX12) (N := 62) hx hb hts iX12_scene_X12 tyX12 tyX12_ok nmX12 hown hK hP hD hS 0 rfl rfl 30 (by decide) (hts (.fieldLink RX12 300 "PuppetBridgeModel" "sceneMany" "I") mX12_scene_w1) (fun _ h9 => h9) rfl (tyX12_ok 30 (by decide)) rfl rfl (Nat.le_of_ble_eq_true rfl) dX12_scene_43 (fun H locs hP hD hS => ?_)
    have hP : va_P D vwCl [(h0, .inr (12, [.ref z0, .ref z1, .ref z2, .ref z3, .ref z4, .ref z5, .ref z20, .ref z21, .ref z22, .ref z23, .ref z24, .ref z25, .int 0, .ref z26, .ref z27, .ref z28, .int 9, .int 0, .int 0, .ref z6, .ref z29, .ref z7, .int 0, .int 2, .ref z19, .ref z8, .ref z9, .ref z10, .int 0, .ref z11, .int 1, .ref z30, .ref z31, .ref z32, .ref z33, .int 0, .ref z12, .int 0, .int 0, .ref z34, .ref z35, .ref z36, .ref z37, .int 0, .int 0, .int 0, .int 0, .ref z38, .int 0, .ref z39, .ref z40, .ref z41, .ref z42, .int 0, .ref z13, .ref z14, .ref z15, .ref z16, .int 0, .ref z17, .ref z18, .ref z43])), (z11, .inl (G.1, 8, .inl (upd (fun _ => 0) 0 x1)))] H := hP
    have hD : va_D A [(h0, .inr (12, [.ref z0, .ref z1, .ref z2, .ref z3, .ref z4, .ref z5, .ref z20, .ref z21, .ref z22, .ref z23, .ref z24, .ref z25, .int 0, .ref z26, .ref z27, .ref z28, .int 9, .int 0, .int 0, .ref z6, .ref z29, .ref z7, .int 0, .int 2, .ref z19, .ref z8, .ref z9, .ref z10, .int 0, .ref z11, .int 1, .ref z30, .ref z31, .ref z32, .ref z33, .int 0, .ref z12, .int 0, .int 0, .ref z34, .ref z35, .ref z36, .ref z37, .int 0, .int 0, .int 0, .int 0, .ref z38, .int 0, .ref z39, .ref z40, .ref z41, .ref z42, .int 0, .ref z13, .ref z14, .ref z15, .ref z16, .int 0, .ref z17, .ref z18, .ref z43])), (z11, .inl (G.1, 8, .inl (upd (fun _ => 0) 0 x1)))] := hD
    refine lv_aload_n hx hb dX12_scene_46 rfl (lv_at hl 0 rfl) ?_
    refine va_get (D := D) (ci := 12) (v := .int 1) (C := RX12) (T := TX12) (N := 62) hx hb hts iX12_scene_X12 hown hK hP 0 rfl rfl 30 (by decide) (hts (.fieldLink RX12 300 "PuppetBridgeModel" "sceneMany" "I") mX12_scene_w1) (fun _ h9 => h9) rfl dX12_scene_47 ?_
    refine lv_iconst (v := 1) hx hb dX12_scene_50 (by decide) ?_
    refine lv_isub hx hb dX12_scene_51 ?_
    refine wk_i 0 (by decide) ?_
    exact W.iret (v := 0) hx hb hr (fun t ht hW => ⟨⟨0, (), rfl, by first | (simp [kc2]; done) | rfl, trivial⟩, hS.F ht⟩) hS.2.2 dX12_scene_52

theorem mX12_bars_w0 : Cond.fieldLink RX12 157 "PuppetBridgeModel" "thrown" "I" ∈ wsX12_bars := by decide +kernel
theorem iX12_bars_X12 : ∀ w ∈ wsX120, w ∈ wsX12_bars := fun _ h => List.mem_cons_of_mem _ (List.mem_append_right _ h)
set_option maxRecDepth 20000 in
theorem ggX12_bars_X12_in : GoodIn wsX12_bars wsX12_in := goodIn_r _ [5] (by decide +kernel) (by decide +kernel)
set_option maxRecDepth 20000 in
theorem gX12_bars_X12_in : GoodIn wsX12_bars (va_wsS RX12 163 yX12_in wsX12_in) := goodIn_app (goodIn_of _ (by decide +kernel)) ggX12_bars_X12_in
set_option maxRecDepth 20000 in
theorem ggX12_bars_X12_begin : GoodIn wsX12_bars wsX12_begin := goodIn_r _ [9, 10, 11, 12, 13, 14, 15, 16, 17, 18, 19, 20, 21, 22, 23, 24, 25, 26, 27, 28, 29, 30, 31, 32, 33, 34, 35, 36, 37, 38, 39, 40, 41, 42, 43, 44, 45, 46, 47, 48, 49, 50, 51, 52, 53, 54, 55, 56, 57, 58, 59, 60, 61, 62, 63, 64, 65, 66, 67, 68, 69, 70, 71, 72, 73, 74] (by decide +kernel) (by decide +kernel)
set_option maxRecDepth 20000 in
theorem gX12_bars_X12_begin : GoodIn wsX12_bars (wsV RX12 153 RX12 yX12_begin wsX12_begin) := goodIn_app (goodIn_of _ (by decide +kernel)) ggX12_bars_X12_begin
theorem dX12_bars_0 : decode cX12_bars 0 = .ok (.aload_n 0, 1) := by decide +kernel
theorem dX12_bars_1 : decode cX12_bars 1 = .ok (.iconst 0, 1) := by decide +kernel
theorem dX12_bars_2 : decode cX12_bars 2 = .ok (.putfield 157, 3) := by decide +kernel
theorem dX12_bars_5 : decode cX12_bars 5 = .ok (.iload_n 1, 1) := by decide +kernel
theorem dX12_bars_6 : decode cX12_bars 6 = .ok (.iconst 2, 1) := by decide +kernel
theorem dX12_bars_7 : decode cX12_bars 7 = .ok (.iconst 5, 1) := by decide +kernel
theorem dX12_bars_8 : decode cX12_bars 8 = .ok (.invokestatic 163, 3) := by decide +kernel
theorem dX12_bars_11 : decode cX12_bars 11 = .ok (.ifCond .ne 5, 3) := by decide +kernel
theorem dX12_bars_14 : decode cX12_bars 14 = .ok (.iconst 0, 1) := by decide +kernel
theorem dX12_bars_15 : decode cX12_bars 15 = .ok (.ireturn, 1) := by decide +kernel
theorem dX12_bars_16 : decode cX12_bars 16 = .ok (.aload_n 0, 1) := by decide +kernel
theorem dX12_bars_17 : decode cX12_bars 17 = .ok (.iload_n 1, 1) := by decide +kernel
theorem dX12_bars_18 : decode cX12_bars 18 = .ok (.invokevirtual 153, 3) := by decide +kernel
theorem dX12_bars_21 : decode cX12_bars 21 = .ok (.iconst 1, 1) := by decide +kernel
theorem dX12_bars_22 : decode cX12_bars 22 = .ok (.ireturn, 1) := by decide +kernel
set_option maxHeartbeats 4000000 in
set_option maxRecDepth 100000 in
/-- X12_bars -/
theorem kX12_bars (l : Launch) (D : va_G) (G : tyG) (h0 : Nat) (x1 : Int32) (z0 : Nat) (z1 : Nat) (z2 : Nat) (z3 : Nat) (z4 : Nat) (z5 : Nat) (z20 : Nat) (z21 : Nat) (z22 : Nat) (z23 : Nat) (z24 : Nat) (z25 : Nat) (z26 : Nat) (z27 : Nat) (z28 : Nat) (z6 : Nat) (z29 : Nat) (z7 : Nat) (z19 : Nat) (z8 : Nat) (z9 : Nat) (z10 : Nat) (z11 : Nat) (z30 : Nat) (z31 : Nat) (z32 : Nat) (z33 : Nat) (z12 : Nat) (z34 : Nat) (z35 : Nat) (z36 : Nat) (z37 : Nat) (z38 : Nat) (z39 : Nat) (z40 : Nat) (z41 : Nat) (z42 : Nat) (z13 : Nat) (z14 : Nat) (z15 : Nat) (z16 : Nat) (z17 : Nat) (z18 : Nat) (z43 : Nat) (sz : Nat) : Met l yX12_bars wsX12_bars ({ frames := 1, cells := 0, slots := 0, locals := 22 }) (va_Pc [.ref h0, .int x1] (wB D G sz [(h0, .inr (12, [.ref z0, .ref z1, .ref z2, .ref z3, .ref z4, .ref z5, .ref z20, .ref z21, .ref z22, .ref z23, .ref z24, .ref z25, .int 0, .ref z26, .ref z27, .ref z28, .int 9, .int 0, .int 0, .ref z6, .ref z29, .ref z7, .int 0, .int 2, .ref z19, .ref z8, .ref z9, .ref z10, .int 0, .ref z11, .int 0, .ref z30, .ref z31, .ref z32, .ref z33, .int 0, .ref z12, .int 0, .int 0, .ref z34, .ref z35, .ref z36, .ref z37, .int 0, .int 0, .int 0, .int 0, .ref z38, .int 0, .ref z39, .ref z40, .ref z41, .ref z42, .int 0, .ref z13, .ref z14, .ref z15, .ref z16, .int 0, .ref z17, .ref z18, .ref z43])), (z19, .inl (G.1, 5, .inl (tI [0, 1, 2, 3, 4])))])) (va_Qi (fun (r : Int32) (_ : Unit) => r = if (inB x1 2 5) = true then 1 else 0) (fun _ _ => True) (va_A [(h0, .inr (12, [.ref z0, .ref z1, .ref z2, .ref z3, .ref z4, .ref z5, .ref z20, .ref z21, .ref z22, .ref z23, .ref z24, .ref z25, .int 0, .ref z26, .ref z27, .ref z28, .int 9, .int 0, .int 0, .ref z6, .ref z29, .ref z7, .int 0, .int 2, .ref z19, .ref z8, .ref z9, .ref z10, .int 0, .ref z11, .int 0, .ref z30, .ref z31, .ref z32, .ref z33, .int 0, .ref z12, .int 0, .int 0, .ref z34, .ref z35, .ref z36, .ref z37, .int 0, .int 0, .int 0, .int 0, .ref z38, .int 0, .ref z39, .ref z40, .ref z41, .ref z42, .int 0, .ref z13, .ref z14, .ref z15, .ref z16, .int 0, .ref z17, .ref z18, .ref z43])), (z19, .inl (G.1, 5, .inl (tI [0, 1, 2, 3, 4])))] sz)) 0 0 (va_A [(h0, .inr (12, [.ref z0, .ref z1, .ref z2, .ref z3, .ref z4, .ref z5, .ref z20, .ref z21, .ref z22, .ref z23, .ref z24, .ref z25, .int 0, .ref z26, .ref z27, .ref z28, .int 9, .int 0, .int 0, .ref z6, .ref z29, .ref z7, .int 0, .int 2, .ref z19, .ref z8, .ref z9, .ref z10, .int 0, .ref z11, .int 0, .ref z30, .ref z31, .ref z32, .ref z33, .int 0, .ref z12, .int 0, .int 0, .ref z34, .ref z35, .ref z36, .ref z37, .int 0, .int 0, .int 0, .int 0, .ref z38, .int 0, .ref z39, .ref z40, .ref z41, .ref z42, .int 0, .ref z13, .ref z14, .ref z15, .ref z16, .int 0, .ref z17, .ref z18, .ref z43])), (z19, .inl (G.1, 5, .inl (tI [0, 1, 2, 3, 4])))] sz) := by
  refine Met.ofW (cc := cX12_bars) (maxL := 2) (ret := (some .boolean)) (by decide) rfl ?_
  intro p e s m args below meth c s₁ B hml hv
  obtain ⟨rfl, hsz, hP, hK, hD0, hN⟩ := hv
  have hx := B.exec
  have hb := B.bytes
  have hr := B.returns
  have hts := atoms_spec (ws := wsX12_bars) B.pre
  have hown : s.vm.findClass RX12 = some m.cls := findClass_of_methodNamed B.named
  have hlocks := B.notSynchronized
  subst hsz
  have hD := hD0.self (sz := s.heap.size)
  generalize hAe : va_A [(h0, .inr (12, [.ref z0, .ref z1, .ref z2, .ref z3, .ref z4, .ref z5, .ref z20, .ref z21, .ref z22, .ref z23, .ref z24, .ref z25, .int 0, .ref z26, .ref z27, .ref z28, .int 9, .int 0, .int 0, .ref z6, .ref z29, .ref z7, .int 0, .int 2, .ref z19, .ref z8, .ref z9, .ref z10, .int 0, .ref z11, .int 0, .ref z30, .ref z31, .ref z32, .ref z33, .int 0, .ref z12, .int 0, .int 0, .ref z34, .ref z35, .ref z36, .ref z37, .int 0, .int 0, .int 0, .int 0, .ref z38, .int 0, .ref z39, .ref z40, .ref z41, .ref z42, .int 0, .ref z13, .ref z14, .ref z15, .ref z16, .int 0, .ref z17, .ref z18, .ref z43])), (z19, .inl (G.1, 5, .inl (tI [0, 1, 2, 3, 4])))] s.heap.size = A at hD ⊢
  have hA : ∀ q : Nat, s.heap.size ≤ q → A q := fun q h => by rw [← hAe]; exact Or.inr h
  have hS : va_S A s.heap s.heap [] := va_S.rf
  have hP : va_P D vwCl [(h0, .inr (12, [.ref z0, .ref z1, .ref z2, .ref z3, .ref z4, .ref z5, .ref z20, .ref z21, .ref z22, .ref z23, .ref z24, .ref z25, .int 0, .ref z26, .ref z27, .ref z28, .int 9, .int 0, .int 0, .ref z6, .ref z29, .ref z7, .int 0, .int 2, .ref z19, .ref z8, .ref z9, .ref z10, .int 0, .ref z11, .int 0, .ref z30, .ref z31, .ref z32, .ref z33, .int 0, .ref z12, .int 0, .int 0, .ref z34, .ref z35, .ref z36, .ref z37, .int 0, .int 0, .int 0, .int 0, .ref z38, .int 0, .ref z39, .ref z40, .ref z41, .ref z42, .int 0, .ref z13, .ref z14, .ref z15, .ref z16, .int 0, .ref z17, .ref z18, .ref z43])), (z19, .inl (G.1, 5, .inl (tI [0, 1, 2, 3, 4])))] s.heap := hP
  have hl := lv_entry ([.ref h0, .int x1]) (n := 2) (Nat.le_of_ble_eq_true rfl)
  rw [lg_entry_eq]
  generalize (lg_sl ([.ref h0, .int x1]) ++ List.replicate (2 - (lg_sl ([.ref h0, .int x1])).length) Slot.unset).toArray = ls at hl ⊢
  have hl : lv_has ls 2 [(0, .ref h0), (1, .int x1)] := hl
  refine lv_aload_n hx hb dX12_bars_0 rfl (lv_at hl 0 rfl) ?_
  refine lv_iconst (v := 0) hx hb dX12_bars_1 (by decide) ?_
  refine va_put (D := D) (ci := 12) (v := .int 0) (ty := (tyX12 38)) (C := RX12) (T := TX12) (N := 62) hx hb hts iX12_bars_X12 tyX12 tyX12_ok nmX12 hown hK hP hD hS 0 rfl rfl 38 (by decide) (hts (.fieldLink RX12 157 "PuppetBridgeModel" "thrown" "I") mX12_bars_w0) (fun _ h9 => h9) rfl (tyX12_ok 38 (by decide)) rfl rfl (Nat.le_of_ble_eq_true rfl) dX12_bars_2 (fun H locs hP hD hS => ?_)
  have hP : va_P D vwCl [(h0, .inr (12, [.ref z0, .ref z1, .ref z2, .ref z3, .ref z4, .ref z5, .ref z20, .ref z21, .ref z22, .ref z23, .ref z24, .ref z25, .int 0, .ref z26, .ref z27, .ref z28, .int 9, .int 0, .int 0, .ref z6, .ref z29, .ref z7, .int 0, .int 2, .ref z19, .ref z8, .ref z9, .ref z10, .int 0, .ref z11, .int 0, .ref z30, .ref z31, .ref z32, .ref z33, .int 0, .ref z12, .int 0, .int 0, .ref z34, .ref z35, .ref z36, .ref z37, .int 0, .int 0, .int 0, .int 0, .ref z38, .int 0, .ref z39, .ref z40, .ref z41, .ref z42, .int 0, .ref z13, .ref z14, .ref z15, .ref z16, .int 0, .ref z17, .ref z18, .ref z43])), (z19, .inl (G.1, 5, .inl (tI [0, 1, 2, 3, 4])))] H := hP
  have hD : va_D A [(h0, .inr (12, [.ref z0, .ref z1, .ref z2, .ref z3, .ref z4, .ref z5, .ref z20, .ref z21, .ref z22, .ref z23, .ref z24, .ref z25, .int 0, .ref z26, .ref z27, .ref z28, .int 9, .int 0, .int 0, .ref z6, .ref z29, .ref z7, .int 0, .int 2, .ref z19, .ref z8, .ref z9, .ref z10, .int 0, .ref z11, .int 0, .ref z30, .ref z31, .ref z32, .ref z33, .int 0, .ref z12, .int 0, .int 0, .ref z34, .ref z35, .ref z36, .ref z37, .int 0, .int 0, .int 0, .int 0, .ref z38, .int 0, .ref z39, .ref z40, .ref z41, .ref z42, .int 0, .ref z13, .ref z14, .ref z15, .ref z16, .int 0, .ref z17, .ref z18, .ref z43])), (z19, .inl (G.1, 5, .inl (tI [0, 1, 2, 3, 4])))] := hD
  refine lv_iload_n hx hb dX12_bars_5 rfl (lv_at hl 1 rfl) ?_
  refine lv_iconst (v := 2) hx hb dX12_bars_6 (by decide) ?_
  refine lv_iconst (v := 5) hx hb dX12_bars_7 (by decide) ?_
  have hPc := hP.sub (ws' := []) [] rfl
  have hDc := hD.sub (ws' := []) [] (by decide) rfl
  have hFc := va_free (wc := []) hD hS hA [] rfl
  refine va_calli (va_runS (As := [.int x1, .int 2, .int 5]) (rest := []) ⟨hx, hb, hml, hown, hts⟩ (kX12_in l D G x1 2 5 H.size) (va_cwS 3 hts gX12_bars_X12_in rfl rfl rfl (by decide +kernel) ⟨Nat.le_of_ble_eq_true rfl, Nat.le_of_ble_eq_true rfl⟩) ⟨wB_blind, wB_pre hPc hK hDc hN⟩ rfl rfl hl.1 rfl (lv_room (Nat.le_of_ble_eq_true rfl)) dX12_bars_8 ⟨Nat.le_of_ble_eq_true rfl, Nat.le_of_ble_eq_true rfl⟩) hS (fun q _ h => hFc q h) hFc (fun r1 u t H1 locs ht hvm hr1 hB hz1 hk1 hS => ?_)
  obtain ⟨hP, hD⟩ := va_join (wr := [(h0, .inr (12, [.ref z0, .ref z1, .ref z2, .ref z3, .ref z4, .ref z5, .ref z20, .ref z21, .ref z22, .ref z23, .ref z24, .ref z25, .int 0, .ref z26, .ref z27, .ref z28, .int 9, .int 0, .int 0, .ref z6, .ref z29, .ref z7, .int 0, .int 2, .ref z19, .ref z8, .ref z9, .ref z10, .int 0, .ref z11, .int 0, .ref z30, .ref z31, .ref z32, .ref z33, .int 0, .ref z12, .int 0, .int 0, .ref z34, .ref z35, .ref z36, .ref z37, .int 0, .int 0, .int 0, .int 0, .ref z38, .int 0, .ref z39, .ref z40, .ref z41, .ref z42, .int 0, .ref z13, .ref z14, .ref z15, .ref z16, .int 0, .ref z17, .ref z18, .ref z43])), (z19, .inl (G.1, 5, .inl (tI [0, 1, 2, 3, 4])))]) (w1 := []) hP hD [] [0, 1] rfl rfl (by decide) (by decide) hk1 hFc wP_nil wD_nil
  clear hPc hDc
  generalize H1 = H at hP hS ⊢
  have hP : va_P D vwCl [(h0, .inr (12, [.ref z0, .ref z1, .ref z2, .ref z3, .ref z4, .ref z5, .ref z20, .ref z21, .ref z22, .ref z23, .ref z24, .ref z25, .int 0, .ref z26, .ref z27, .ref z28, .int 9, .int 0, .int 0, .ref z6, .ref z29, .ref z7, .int 0, .int 2, .ref z19, .ref z8, .ref z9, .ref z10, .int 0, .ref z11, .int 0, .ref z30, .ref z31, .ref z32, .ref z33, .int 0, .ref z12, .int 0, .int 0, .ref z34, .ref z35, .ref z36, .ref z37, .int 0, .int 0, .int 0, .int 0, .ref z38, .int 0, .ref z39, .ref z40, .ref z41, .ref z42, .int 0, .ref z13, .ref z14, .ref z15, .ref z16, .int 0, .ref z17, .ref z18, .ref z43])), (z19, .inl (G.1, 5, .inl (tI [0, 1, 2, 3, 4])))] H := hP
  have hD : va_D A [(h0, .inr (12, [.ref z0, .ref z1, .ref z2, .ref z3, .ref z4, .ref z5, .ref z20, .ref z21, .ref z22, .ref z23, .ref z24, .ref z25, .int 0, .ref z26, .ref z27, .ref z28, .int 9, .int 0, .int 0, .ref z6, .ref z29, .ref z7, .int 0, .int 2, .ref z19, .ref z8, .ref z9, .ref z10, .int 0, .ref z11, .int 0, .ref z30, .ref z31, .ref z32, .ref z33, .int 0, .ref z12, .int 0, .int 0, .ref z34, .ref z35, .ref z36, .ref z37, .int 0, .int 0, .int 0, .int 0, .ref z38, .int 0, .ref z39, .ref z40, .ref z41, .ref z42, .int 0, .ref z13, .ref z14, .ref z15, .ref z16, .int 0, .ref z17, .ref z18, .ref z43])), (z19, .inl (G.1, 5, .inl (tI [0, 1, 2, 3, 4])))] := hD
  refine lv_if_ne (tgt := 16) hx hb dX12_bars_11 (by decide) (fun c2 => ?_) (fun c2 => ?_)
  · have kc2 : (inB x1 2 5) = true := wk_b1 hr1 c2
    refine lv_aload_n hx hb dX12_bars_16 rfl (lv_at hl 0 rfl) ?_
    refine lv_iload_n hx hb dX12_bars_17 rfl (lv_at hl 1 rfl) ?_
    have hPc := hP.sub (ws' := [(h0, .inr (12, [.ref z0, .ref z1, .ref z2, .ref z3, .ref z4, .ref z5, .ref z20, .ref z21, .ref z22, .ref z23, .ref z24, .ref z25, .int 0, .ref z26, .ref z27, .ref z28, .int 9, .int 0, .int 0, .ref z6, .ref z29, .ref z7, .int 0, .int 2, .ref z19, .ref z8, .ref z9, .ref z10, .int 0, .ref z11, .int 0, .ref z30, .ref z31, .ref z32, .ref z33, .int 0, .ref z12, .int 0, .int 0, .ref z34, .ref z35, .ref z36, .ref z37, .int 0, .int 0, .int 0, .int 0, .ref z38, .int 0, .ref z39, .ref z40, .ref z41, .ref z42, .int 0, .ref z13, .ref z14, .ref z15, .ref z16, .int 0, .ref z17, .ref z18, .ref z43])), (z19, .inl (G.1, 5, .inl (tI [0, 1, 2, 3, 4])))]) [0, 1] rfl
    have hDc := hD.sub (ws' := [(h0, .inr (12, [.ref z0, .ref z1, .ref z2, .ref z3, .ref z4, .ref z5, .ref z20, .ref z21, .ref z22, .ref z23, .ref z24, .ref z25, .int 0, .ref z26, .ref z27, .ref z28, .int 9, .int 0, .int 0, .ref z6, .ref z29, .ref z7, .int 0, .int 2, .ref z19, .ref z8, .ref z9, .ref z10, .int 0, .ref z11, .int 0, .ref z30, .ref z31, .ref z32, .ref z33, .int 0, .ref z12, .int 0, .int 0, .ref z34, .ref z35, .ref z36, .ref z37, .int 0, .int 0, .int 0, .int 0, .ref z38, .int 0, .ref z39, .ref z40, .ref z41, .ref z42, .int 0, .ref z13, .ref z14, .ref z15, .ref z16, .int 0, .ref z17, .ref z18, .ref z43])), (z19, .inl (G.1, 5, .inl (tI [0, 1, 2, 3, 4])))]) [0, 1] (by decide) rfl
    have hFc := va_free (wc := [(h0, .inr (12, [.ref z0, .ref z1, .ref z2, .ref z3, .ref z4, .ref z5, .ref z20, .ref z21, .ref z22, .ref z23, .ref z24, .ref z25, .int 0, .ref z26, .ref z27, .ref z28, .int 9, .int 0, .int 0, .ref z6, .ref z29, .ref z7, .int 0, .int 2, .ref z19, .ref z8, .ref z9, .ref z10, .int 0, .ref z11, .int 0, .ref z30, .ref z31, .ref z32, .ref z33, .int 0, .ref z12, .int 0, .int 0, .ref z34, .ref z35, .ref z36, .ref z37, .int 0, .int 0, .int 0, .int 0, .ref z38, .int 0, .ref z39, .ref z40, .ref z41, .ref z42, .int 0, .ref z13, .ref z14, .ref z15, .ref z16, .int 0, .ref z17, .ref z18, .ref z43])), (z19, .inl (G.1, 5, .inl (tI [0, 1, 2, 3, 4])))]) hD hS hA [0, 1] rfl
    refine va_callv (va_runV (As := [.int x1]) (rest := []) ⟨hx, hb, hml, hown, hts⟩ (kX12_begin l D G h0 x1 z19 (tI [0, 1, 2, 3, 4]) 2 0 (.ref z0) (.ref z1) (.ref z2) (.ref z3) (.ref z4) (.ref z5) (.ref z20) (.ref z21) (.ref z22) (.ref z23) (.ref z24) (.ref z25) (.int 0) (.ref z26) (.ref z27) (.ref z28) (.int 9) (.int 0) (.int 0) (.ref z6) (.ref z29) (.ref z7) (.int 0) (.ref z8) (.ref z9) (.ref z10) (.ref z11) (.int 0) (.ref z30) (.ref z31) (.ref z32) (.ref z33) (.int 0) (.ref z12) (.int 0) (.int 0) (.ref z34) (.ref z35) (.ref z36) (.ref z37) (.int 0) (.int 0) (.int 0) (.int 0) (.ref z38) (.int 0) (.ref z39) (.ref z40) (.ref z41) (.ref z42) (.int 0) (.ref z13) (.ref z14) (.ref z15) (.ref z16) (.int 0) (.ref z17) (.ref z18) (.ref z43) H.size) (cwV 1 hts gX12_bars_X12_begin rfl rfl rfl (by decide +kernel) ⟨Nat.le_of_ble_eq_true rfl, Nat.le_of_ble_eq_true rfl⟩) ⟨wB_blind, va_recv hK hPc (ci := 12) (q0 := 0) rfl rfl, wB_pre hPc hK hDc hN⟩ rfl rfl hl.1 rfl (lv_room (Nat.le_of_ble_eq_true rfl)) dX12_bars_18 ⟨Nat.le_of_ble_eq_true rfl, Nat.le_of_ble_eq_true rfl⟩) hS (fun q _ h => hFc q h) hFc (fun u t H1 locs ht hvm hr3 hB hz1 hk1 hS => ?_)
    obtain ⟨hP1, hK1, hD1⟩ := hB
    rw [ht] at hP1
    obtain ⟨hP, hD⟩ := va_join (wr := []) (w1 := [(h0, .inr (12, [.ref z0, .ref z1, .ref z2, .ref z3, .ref z4, .ref z5, .ref z20, .ref z21, .ref z22, .ref z23, .ref z24, .ref z25, .int 0, .ref z26, .ref z27, .ref z28, .int 9, .int 0, .int 0, .ref z6, .ref z29, .ref z7, .int 0, .int x1, .ref z19, .ref z8, .ref z9, .ref z10, .int 0, .ref z11, .int 0, .ref z30, .ref z31, .ref z32, .ref z33, .int 0, .ref z12, .int 0, .int 0, .ref z34, .ref z35, .ref z36, .ref z37, .int 0, .int 0, .int 0, .int 0, .ref z38, .int 0, .ref z39, .ref z40, .ref z41, .ref z42, .int 0, .ref z13, .ref z14, .ref z15, .ref z16, .int 0, .ref z17, .ref z18, .ref z43])), (z19, .inl (G.1, 5, .inl (tI [0, 1, 2, 3, 4])))]) hP hD [0, 1] [] rfl rfl (by decide) (by decide) hk1 hFc hP1 hD1
    clear hPc hDc
    generalize H1 = H at hP hS ⊢
    have hP : va_P D vwCl [(h0, .inr (12, [.ref z0, .ref z1, .ref z2, .ref z3, .ref z4, .ref z5, .ref z20, .ref z21, .ref z22, .ref z23, .ref z24, .ref z25, .int 0, .ref z26, .ref z27, .ref z28, .int 9, .int 0, .int 0, .ref z6, .ref z29, .ref z7, .int 0, .int x1, .ref z19, .ref z8, .ref z9, .ref z10, .int 0, .ref z11, .int 0, .ref z30, .ref z31, .ref z32, .ref z33, .int 0, .ref z12, .int 0, .int 0, .ref z34, .ref z35, .ref z36, .ref z37, .int 0, .int 0, .int 0, .int 0, .ref z38, .int 0, .ref z39, .ref z40, .ref z41, .ref z42, .int 0, .ref z13, .ref z14, .ref z15, .ref z16, .int 0, .ref z17, .ref z18, .ref z43])), (z19, .inl (G.1, 5, .inl (tI [0, 1, 2, 3, 4])))] H := hP
    have hD : va_D A [(h0, .inr (12, [.ref z0, .ref z1, .ref z2, .ref z3, .ref z4, .ref z5, .ref z20, .ref z21, .ref z22, .ref z23, .ref z24, .ref z25, .int 0, .ref z26, .ref z27, .ref z28, .int 9, .int 0, .int 0, .ref z6, .ref z29, .ref z7, .int 0, .int x1, .ref z19, .ref z8, .ref z9, .ref z10, .int 0, .ref z11, .int 0, .ref z30, .ref z31, .ref z32, .ref z33, .int 0, .ref z12, .int 0, .int 0, .ref z34, .ref z35, .ref z36, .ref z37, .int 0, .int 0, .int 0, .int 0, .ref z38, .int 0, .ref z39, .ref z40, .ref z41, .ref z42, .int 0, .ref z13, .ref z14, .ref z15, .ref z16, .int 0, .ref z17, .ref z18, .ref z43])), (z19, .inl (G.1, 5, .inl (tI [0, 1, 2, 3, 4])))] := hD
    refine lv_iconst (v := 1) hx hb dX12_bars_21 (by decide) ?_
    exact W.zret (v := 1) hx hb hr rfl (fun t ht hW => ⟨⟨1, (), rfl, by first | (simp [kc2]; done) | rfl, trivial⟩, hS.F ht⟩) hS.2.2 dX12_bars_22
  · have kc2 : (inB x1 2 5) = false := wk_b0 hr1 c2
    refine lv_iconst (v := 0) hx hb dX12_bars_14 (by decide) ?_
    exact W.zret (v := 0) hx hb hr rfl (fun t ht hW => ⟨⟨0, (), rfl, by first | (simp [kc2]; done) | rfl, trivial⟩, hS.F ht⟩) hS.2.2 dX12_bars_15

theorem mX12_addLimb_w0 : Cond.fieldLink RX12 9 "PuppetBridgeModel" "limbs" "[I" ∈ wsX12_addLimb := by decide +kernel
theorem mX12_addLimb_w1 : Cond.fieldLink RX12 13 "PuppetBridgeModel" "on" "[I" ∈ wsX12_addLimb := by decide +kernel
theorem mX12_addLimb_w2 : Cond.fieldLink RX12 16 "PuppetBridgeModel" "onEnd" "[I" ∈ wsX12_addLimb := by decide +kernel
theorem mX12_addLimb_w3 : Cond.fieldLink RX12 19 "PuppetBridgeModel" "length" "[I" ∈ wsX12_addLimb := by decide +kernel
theorem mX12_addLimb_w4 : Cond.fieldLink RX12 22 "PuppetBridgeModel" "rest" "[I" ∈ wsX12_addLimb := by decide +kernel
theorem mX12_addLimb_w5 : Cond.fieldLink RX12 25 "PuppetBridgeModel" "most" "[I" ∈ wsX12_addLimb := by decide +kernel
theorem iX12_addLimb_X12 : ∀ w ∈ wsX120, w ∈ wsX12_addLimb := fun _ h => List.mem_cons_of_mem _ (List.mem_append_right _ h)
theorem dX12_addLimb_0 : decode cX12_addLimb 0 = .ok (.bipush 8, 2) := by decide +kernel
theorem dX12_addLimb_2 : decode cX12_addLimb 2 = .ok (.iload_n 1, 1) := by decide +kernel
theorem dX12_addLimb_3 : decode cX12_addLimb 3 = .ok (.imul, 1) := by decide +kernel
theorem dX12_addLimb_4 : decode cX12_addLimb 4 = .ok (.aload_n 0, 1) := by decide +kernel
theorem dX12_addLimb_5 : decode cX12_addLimb 5 = .ok (.getfield 9, 3) := by decide +kernel
theorem dX12_addLimb_8 : decode cX12_addLimb 8 = .ok (.iload_n 1, 1) := by decide +kernel
theorem dX12_addLimb_9 : decode cX12_addLimb 9 = .ok (.iaload, 1) := by decide +kernel
theorem dX12_addLimb_10 : decode cX12_addLimb 10 = .ok (.iadd, 1) := by decide +kernel
theorem dX12_addLimb_11 : decode cX12_addLimb 11 = .ok (.istore 7, 2) := by decide +kernel
theorem dX12_addLimb_13 : decode cX12_addLimb 13 = .ok (.aload_n 0, 1) := by decide +kernel
theorem dX12_addLimb_14 : decode cX12_addLimb 14 = .ok (.getfield 13, 3) := by decide +kernel
theorem dX12_addLimb_17 : decode cX12_addLimb 17 = .ok (.iload 7, 2) := by decide +kernel
theorem dX12_addLimb_19 : decode cX12_addLimb 19 = .ok (.iload_n 2, 1) := by decide +kernel
theorem dX12_addLimb_20 : decode cX12_addLimb 20 = .ok (.iastore, 1) := by decide +kernel
theorem dX12_addLimb_21 : decode cX12_addLimb 21 = .ok (.aload_n 0, 1) := by decide +kernel
theorem dX12_addLimb_22 : decode cX12_addLimb 22 = .ok (.getfield 16, 3) := by decide +kernel
theorem dX12_addLimb_25 : decode cX12_addLimb 25 = .ok (.iload 7, 2) := by decide +kernel
theorem dX12_addLimb_27 : decode cX12_addLimb 27 = .ok (.iload_n 3, 1) := by decide +kernel
theorem dX12_addLimb_28 : decode cX12_addLimb 28 = .ok (.iastore, 1) := by decide +kernel
theorem dX12_addLimb_29 : decode cX12_addLimb 29 = .ok (.aload_n 0, 1) := by decide +kernel
theorem dX12_addLimb_30 : decode cX12_addLimb 30 = .ok (.getfield 19, 3) := by decide +kernel
theorem dX12_addLimb_33 : decode cX12_addLimb 33 = .ok (.iload 7, 2) := by decide +kernel
theorem dX12_addLimb_35 : decode cX12_addLimb 35 = .ok (.iload 4, 2) := by decide +kernel
theorem dX12_addLimb_37 : decode cX12_addLimb 37 = .ok (.iastore, 1) := by decide +kernel
theorem dX12_addLimb_38 : decode cX12_addLimb 38 = .ok (.aload_n 0, 1) := by decide +kernel
theorem dX12_addLimb_39 : decode cX12_addLimb 39 = .ok (.getfield 22, 3) := by decide +kernel
theorem dX12_addLimb_42 : decode cX12_addLimb 42 = .ok (.iload 7, 2) := by decide +kernel
theorem dX12_addLimb_44 : decode cX12_addLimb 44 = .ok (.iload 5, 2) := by decide +kernel
theorem dX12_addLimb_46 : decode cX12_addLimb 46 = .ok (.iastore, 1) := by decide +kernel
theorem dX12_addLimb_47 : decode cX12_addLimb 47 = .ok (.aload_n 0, 1) := by decide +kernel
theorem dX12_addLimb_48 : decode cX12_addLimb 48 = .ok (.getfield 25, 3) := by decide +kernel
theorem dX12_addLimb_51 : decode cX12_addLimb 51 = .ok (.iload 7, 2) := by decide +kernel
theorem dX12_addLimb_53 : decode cX12_addLimb 53 = .ok (.iload 6, 2) := by decide +kernel
theorem dX12_addLimb_55 : decode cX12_addLimb 55 = .ok (.iastore, 1) := by decide +kernel
theorem dX12_addLimb_56 : decode cX12_addLimb 56 = .ok (.aload_n 0, 1) := by decide +kernel
theorem dX12_addLimb_57 : decode cX12_addLimb 57 = .ok (.getfield 9, 3) := by decide +kernel
theorem dX12_addLimb_60 : decode cX12_addLimb 60 = .ok (.iload_n 1, 1) := by decide +kernel
theorem dX12_addLimb_61 : decode cX12_addLimb 61 = .ok (.dup2, 1) := by decide +kernel
theorem dX12_addLimb_62 : decode cX12_addLimb 62 = .ok (.iaload, 1) := by decide +kernel
theorem dX12_addLimb_63 : decode cX12_addLimb 63 = .ok (.iconst 1, 1) := by decide +kernel
theorem dX12_addLimb_64 : decode cX12_addLimb 64 = .ok (.iadd, 1) := by decide +kernel
theorem dX12_addLimb_65 : decode cX12_addLimb 65 = .ok (.iastore, 1) := by decide +kernel
theorem dX12_addLimb_66 : decode cX12_addLimb 66 = .ok (.return_, 1) := by decide +kernel
set_option maxHeartbeats 4000000 in
set_option maxRecDepth 100000 in
/-- X12_addLimb -/
theorem kX12_addLimb (l : Launch) (D : va_G) (G : tyG) (h0 : Nat) (x1 : Int32) (x2 : Int32) (x3 : Int32) (z0 : Nat) (z1 : Nat) (z2 : Nat) (z3 : Nat) (z4 : Nat) (z5 : Nat) (z20 : Nat) (z21 : Nat) (z22 : Nat) (z23 : Nat) (z24 : Nat) (z25 : Nat) (z26 : Nat) (z27 : Nat) (z28 : Nat) (z6 : Nat) (z29 : Nat) (z7 : Nat) (z19 : Nat) (z8 : Nat) (z9 : Nat) (z10 : Nat) (z11 : Nat) (z30 : Nat) (z31 : Nat) (z32 : Nat) (z33 : Nat) (z12 : Nat) (z34 : Nat) (z35 : Nat) (z36 : Nat) (z37 : Nat) (z38 : Nat) (z39 : Nat) (z40 : Nat) (z41 : Nat) (z42 : Nat) (z13 : Nat) (z14 : Nat) (z15 : Nat) (z16 : Nat) (z17 : Nat) (z18 : Nat) (z43 : Nat) (sz : Nat) : Met l yX12_addLimb wsX12_addLimb ({ frames := 0, cells := 0, slots := 0, locals := 0 }) (va_Pc [.ref h0, .int 0, .int (-1), .int 0, .int x1, .int x2, .int x3] (wB D G sz [(h0, .inr (12, [.ref z0, .ref z1, .ref z2, .ref z3, .ref z4, .ref z5, .ref z20, .ref z21, .ref z22, .ref z23, .ref z24, .ref z25, .int 1, .ref z26, .ref z27, .ref z28, .int 9, .int 0, .int 0, .ref z6, .ref z29, .ref z7, .int 0, .int 2, .ref z19, .ref z8, .ref z9, .ref z10, .int 0, .ref z11, .int 0, .ref z30, .ref z31, .ref z32, .ref z33, .int 0, .ref z12, .int 0, .int 0, .ref z34, .ref z35, .ref z36, .ref z37, .int 0, .int 0, .int 0, .int 0, .ref z38, .int 0, .ref z39, .ref z40, .ref z41, .ref z42, .int 0, .ref z13, .ref z14, .ref z15, .ref z16, .int 0, .ref z17, .ref z18, .ref z43])), (z0, .inl (G.1, 4, .inl (fun _ => 0))), (z1, .inl (G.1, 32, .inl (fun _ => 0))), (z2, .inl (G.1, 32, .inl (fun _ => 0))), (z3, .inl (G.1, 32, .inl (fun _ => 0))), (z4, .inl (G.1, 32, .inl (fun _ => 0))), (z5, .inl (G.1, 32, .inl (fun _ => 0)))])) (va_Qv (fun _ : Unit => True) (fun _ t => wS D G (va_A [(h0, .inr (12, [.ref z0, .ref z1, .ref z2, .ref z3, .ref z4, .ref z5, .ref z20, .ref z21, .ref z22, .ref z23, .ref z24, .ref z25, .int 1, .ref z26, .ref z27, .ref z28, .int 9, .int 0, .int 0, .ref z6, .ref z29, .ref z7, .int 0, .int 2, .ref z19, .ref z8, .ref z9, .ref z10, .int 0, .ref z11, .int 0, .ref z30, .ref z31, .ref z32, .ref z33, .int 0, .ref z12, .int 0, .int 0, .ref z34, .ref z35, .ref z36, .ref z37, .int 0, .int 0, .int 0, .int 0, .ref z38, .int 0, .ref z39, .ref z40, .ref z41, .ref z42, .int 0, .ref z13, .ref z14, .ref z15, .ref z16, .int 0, .ref z17, .ref z18, .ref z43])), (z0, .inl (G.1, 4, .inl (fun _ => 0))), (z1, .inl (G.1, 32, .inl (fun _ => 0))), (z2, .inl (G.1, 32, .inl (fun _ => 0))), (z3, .inl (G.1, 32, .inl (fun _ => 0))), (z4, .inl (G.1, 32, .inl (fun _ => 0))), (z5, .inl (G.1, 32, .inl (fun _ => 0)))] sz) [(h0, .inr (12, [.ref z0, .ref z1, .ref z2, .ref z3, .ref z4, .ref z5, .ref z20, .ref z21, .ref z22, .ref z23, .ref z24, .ref z25, .int 1, .ref z26, .ref z27, .ref z28, .int 9, .int 0, .int 0, .ref z6, .ref z29, .ref z7, .int 0, .int 2, .ref z19, .ref z8, .ref z9, .ref z10, .int 0, .ref z11, .int 0, .ref z30, .ref z31, .ref z32, .ref z33, .int 0, .ref z12, .int 0, .int 0, .ref z34, .ref z35, .ref z36, .ref z37, .int 0, .int 0, .int 0, .int 0, .ref z38, .int 0, .ref z39, .ref z40, .ref z41, .ref z42, .int 0, .ref z13, .ref z14, .ref z15, .ref z16, .int 0, .ref z17, .ref z18, .ref z43]))] t) (va_A [(h0, .inr (12, [.ref z0, .ref z1, .ref z2, .ref z3, .ref z4, .ref z5, .ref z20, .ref z21, .ref z22, .ref z23, .ref z24, .ref z25, .int 1, .ref z26, .ref z27, .ref z28, .int 9, .int 0, .int 0, .ref z6, .ref z29, .ref z7, .int 0, .int 2, .ref z19, .ref z8, .ref z9, .ref z10, .int 0, .ref z11, .int 0, .ref z30, .ref z31, .ref z32, .ref z33, .int 0, .ref z12, .int 0, .int 0, .ref z34, .ref z35, .ref z36, .ref z37, .int 0, .int 0, .int 0, .int 0, .ref z38, .int 0, .ref z39, .ref z40, .ref z41, .ref z42, .int 0, .ref z13, .ref z14, .ref z15, .ref z16, .int 0, .ref z17, .ref z18, .ref z43])), (z0, .inl (G.1, 4, .inl (fun _ => 0))), (z1, .inl (G.1, 32, .inl (fun _ => 0))), (z2, .inl (G.1, 32, .inl (fun _ => 0))), (z3, .inl (G.1, 32, .inl (fun _ => 0))), (z4, .inl (G.1, 32, .inl (fun _ => 0))), (z5, .inl (G.1, 32, .inl (fun _ => 0)))] sz)) 0 0 (va_A [(h0, .inr (12, [.ref z0, .ref z1, .ref z2, .ref z3, .ref z4, .ref z5, .ref z20, .ref z21, .ref z22, .ref z23, .ref z24, .ref z25, .int 1, .ref z26, .ref z27, .ref z28, .int 9, .int 0, .int 0, .ref z6, .ref z29, .ref z7, .int 0, .int 2, .ref z19, .ref z8, .ref z9, .ref z10, .int 0, .ref z11, .int 0, .ref z30, .ref z31, .ref z32, .ref z33, .int 0, .ref z12, .int 0, .int 0, .ref z34, .ref z35, .ref z36, .ref z37, .int 0, .int 0, .int 0, .int 0, .ref z38, .int 0, .ref z39, .ref z40, .ref z41, .ref z42, .int 0, .ref z13, .ref z14, .ref z15, .ref z16, .int 0, .ref z17, .ref z18, .ref z43])), (z0, .inl (G.1, 4, .inl (fun _ => 0))), (z1, .inl (G.1, 32, .inl (fun _ => 0))), (z2, .inl (G.1, 32, .inl (fun _ => 0))), (z3, .inl (G.1, 32, .inl (fun _ => 0))), (z4, .inl (G.1, 32, .inl (fun _ => 0))), (z5, .inl (G.1, 32, .inl (fun _ => 0)))] sz) := by
  refine Met.ofW (cc := cX12_addLimb) (maxL := 8) (ret := none) (by decide) rfl ?_
  intro p e s m args below meth c s₁ B hml hv
  obtain ⟨rfl, hsz, hP, hK, hD0, hN⟩ := hv
  have hx := B.exec
  have hb := B.bytes
  have hr := B.returns
  have hts := atoms_spec (ws := wsX12_addLimb) B.pre
  have hown : s.vm.findClass RX12 = some m.cls := findClass_of_methodNamed B.named
  have hlocks := B.notSynchronized
  subst hsz
  have hD := hD0.self (sz := s.heap.size)
  generalize hAe : va_A [(h0, .inr (12, [.ref z0, .ref z1, .ref z2, .ref z3, .ref z4, .ref z5, .ref z20, .ref z21, .ref z22, .ref z23, .ref z24, .ref z25, .int 1, .ref z26, .ref z27, .ref z28, .int 9, .int 0, .int 0, .ref z6, .ref z29, .ref z7, .int 0, .int 2, .ref z19, .ref z8, .ref z9, .ref z10, .int 0, .ref z11, .int 0, .ref z30, .ref z31, .ref z32, .ref z33, .int 0, .ref z12, .int 0, .int 0, .ref z34, .ref z35, .ref z36, .ref z37, .int 0, .int 0, .int 0, .int 0, .ref z38, .int 0, .ref z39, .ref z40, .ref z41, .ref z42, .int 0, .ref z13, .ref z14, .ref z15, .ref z16, .int 0, .ref z17, .ref z18, .ref z43])), (z0, .inl (G.1, 4, .inl (fun _ => 0))), (z1, .inl (G.1, 32, .inl (fun _ => 0))), (z2, .inl (G.1, 32, .inl (fun _ => 0))), (z3, .inl (G.1, 32, .inl (fun _ => 0))), (z4, .inl (G.1, 32, .inl (fun _ => 0))), (z5, .inl (G.1, 32, .inl (fun _ => 0)))] s.heap.size = A at hD ⊢
  have hA : ∀ q : Nat, s.heap.size ≤ q → A q := fun q h => by rw [← hAe]; exact Or.inr h
  have hS : va_S A s.heap s.heap [] := va_S.rf
  have hP : va_P D vwCl [(h0, .inr (12, [.ref z0, .ref z1, .ref z2, .ref z3, .ref z4, .ref z5, .ref z20, .ref z21, .ref z22, .ref z23, .ref z24, .ref z25, .int 1, .ref z26, .ref z27, .ref z28, .int 9, .int 0, .int 0, .ref z6, .ref z29, .ref z7, .int 0, .int 2, .ref z19, .ref z8, .ref z9, .ref z10, .int 0, .ref z11, .int 0, .ref z30, .ref z31, .ref z32, .ref z33, .int 0, .ref z12, .int 0, .int 0, .ref z34, .ref z35, .ref z36, .ref z37, .int 0, .int 0, .int 0, .int 0, .ref z38, .int 0, .ref z39, .ref z40, .ref z41, .ref z42, .int 0, .ref z13, .ref z14, .ref z15, .ref z16, .int 0, .ref z17, .ref z18, .ref z43])), (z0, .inl (G.1, 4, .inl (fun _ => 0))), (z1, .inl (G.1, 32, .inl (fun _ => 0))), (z2, .inl (G.1, 32, .inl (fun _ => 0))), (z3, .inl (G.1, 32, .inl (fun _ => 0))), (z4, .inl (G.1, 32, .inl (fun _ => 0))), (z5, .inl (G.1, 32, .inl (fun _ => 0)))] s.heap := hP
  have hl := lv_entry ([.ref h0, .int 0, .int (-1), .int 0, .int x1, .int x2, .int x3]) (n := 8) (Nat.le_of_ble_eq_true rfl)
  rw [lg_entry_eq]
  generalize (lg_sl ([.ref h0, .int 0, .int (-1), .int 0, .int x1, .int x2, .int x3]) ++ List.replicate (8 - (lg_sl ([.ref h0, .int 0, .int (-1), .int 0, .int x1, .int x2, .int x3])).length) Slot.unset).toArray = ls at hl ⊢
  have hl : lv_has ls 8 [(0, .ref h0), (1, .int 0), (2, .int (-1)), (3, .int 0), (4, .int x1), (5, .int x2), (6, .int x3)] := hl
  refine lv_bipush (v := 8) hx hb dX12_addLimb_0 (by decide) ?_
  refine lv_iload_n hx hb dX12_addLimb_2 rfl (lv_at hl 1 rfl) ?_
  refine lv_imul hx hb dX12_addLimb_3 ?_
  refine wk_i 0 (by decide) ?_
  refine lv_aload_n hx hb dX12_addLimb_4 rfl (lv_at hl 0 rfl) ?_
  refine va_get (D := D) (ci := 12) (v := .ref z0) (C := RX12) (T := TX12) (N := 62) hx hb hts iX12_addLimb_X12 hown hK hP 0 rfl rfl 0 (by decide) (hts (.fieldLink RX12 9 "PuppetBridgeModel" "limbs" "[I") mX12_addLimb_w0) (fun _ h9 => h9) rfl dX12_addLimb_5 ?_
  refine lv_iload_n hx hb dX12_addLimb_8 rfl (lv_at hl 1 rfl) ?_
  refine va_iald hx hb hK hP 1 0 rfl rfl (wk_in rfl) dX12_addLimb_9 ?_
  refine wk_i 0 rfl ?_
  refine lv_iadd hx hb dX12_addLimb_10 ?_
  refine wk_i 0 (by decide) ?_
  refine lv_istore (lv' := [(7, .int 0), (0, .ref h0), (1, .int 0), (2, .int (-1)), (3, .int 0), (4, .int x1), (5, .int x2), (6, .int x3)]) hx hb dX12_addLimb_11 hl (by decide) rfl (fun ls hl => ?_)
  refine lv_aload_n hx hb dX12_addLimb_13 rfl (lv_at hl 1 rfl) ?_
  refine va_get (D := D) (ci := 12) (v := .ref z1) (C := RX12) (T := TX12) (N := 62) hx hb hts iX12_addLimb_X12 hown hK hP 0 rfl rfl 1 (by decide) (hts (.fieldLink RX12 13 "PuppetBridgeModel" "on" "[I") mX12_addLimb_w1) (fun _ h9 => h9) rfl dX12_addLimb_14 ?_
  refine lv_iload hx hb dX12_addLimb_17 (lv_at hl 0 rfl) ?_
  refine lv_iload_n hx hb dX12_addLimb_19 rfl (lv_at hl 3 rfl) ?_
  refine va_iast hx hb hK hP hD hS 2 0 rfl rfl (wk_in rfl) dX12_addLimb_20 (fun H locs hP hD hS => ?_)
  have hP : va_P D vwCl [(h0, .inr (12, [.ref z0, .ref z1, .ref z2, .ref z3, .ref z4, .ref z5, .ref z20, .ref z21, .ref z22, .ref z23, .ref z24, .ref z25, .int 1, .ref z26, .ref z27, .ref z28, .int 9, .int 0, .int 0, .ref z6, .ref z29, .ref z7, .int 0, .int 2, .ref z19, .ref z8, .ref z9, .ref z10, .int 0, .ref z11, .int 0, .ref z30, .ref z31, .ref z32, .ref z33, .int 0, .ref z12, .int 0, .int 0, .ref z34, .ref z35, .ref z36, .ref z37, .int 0, .int 0, .int 0, .int 0, .ref z38, .int 0, .ref z39, .ref z40, .ref z41, .ref z42, .int 0, .ref z13, .ref z14, .ref z15, .ref z16, .int 0, .ref z17, .ref z18, .ref z43])), (z0, .inl (G.1, 4, .inl (fun _ => 0))), (z1, .inl (G.1, 32, .inl (upd (fun _ => 0) 0 (-1)))), (z2, .inl (G.1, 32, .inl (fun _ => 0))), (z3, .inl (G.1, 32, .inl (fun _ => 0))), (z4, .inl (G.1, 32, .inl (fun _ => 0))), (z5, .inl (G.1, 32, .inl (fun _ => 0)))] H := hP
  have hD : va_D A [(h0, .inr (12, [.ref z0, .ref z1, .ref z2, .ref z3, .ref z4, .ref z5, .ref z20, .ref z21, .ref z22, .ref z23, .ref z24, .ref z25, .int 1, .ref z26, .ref z27, .ref z28, .int 9, .int 0, .int 0, .ref z6, .ref z29, .ref z7, .int 0, .int 2, .ref z19, .ref z8, .ref z9, .ref z10, .int 0, .ref z11, .int 0, .ref z30, .ref z31, .ref z32, .ref z33, .int 0, .ref z12, .int 0, .int 0, .ref z34, .ref z35, .ref z36, .ref z37, .int 0, .int 0, .int 0, .int 0, .ref z38, .int 0, .ref z39, .ref z40, .ref z41, .ref z42, .int 0, .ref z13, .ref z14, .ref z15, .ref z16, .int 0, .ref z17, .ref z18, .ref z43])), (z0, .inl (G.1, 4, .inl (fun _ => 0))), (z1, .inl (G.1, 32, .inl (upd (fun _ => 0) 0 (-1)))), (z2, .inl (G.1, 32, .inl (fun _ => 0))), (z3, .inl (G.1, 32, .inl (fun _ => 0))), (z4, .inl (G.1, 32, .inl (fun _ => 0))), (z5, .inl (G.1, 32, .inl (fun _ => 0)))] := hD
  refine lv_aload_n hx hb dX12_addLimb_21 rfl (lv_at hl 1 rfl) ?_
  refine va_get (D := D) (ci := 12) (v := .ref z2) (C := RX12) (T := TX12) (N := 62) hx hb hts iX12_addLimb_X12 hown hK hP 0 rfl rfl 2 (by decide) (hts (.fieldLink RX12 16 "PuppetBridgeModel" "onEnd" "[I") mX12_addLimb_w2) (fun _ h9 => h9) rfl dX12_addLimb_22 ?_
  refine lv_iload hx hb dX12_addLimb_25 (lv_at hl 0 rfl) ?_
  refine lv_iload_n hx hb dX12_addLimb_27 rfl (lv_at hl 4 rfl) ?_
  refine va_iast hx hb hK hP hD hS 3 0 rfl rfl (wk_in rfl) dX12_addLimb_28 (fun H locs hP hD hS => ?_)
  have hP : va_P D vwCl [(h0, .inr (12, [.ref z0, .ref z1, .ref z2, .ref z3, .ref z4, .ref z5, .ref z20, .ref z21, .ref z22, .ref z23, .ref z24, .ref z25, .int 1, .ref z26, .ref z27, .ref z28, .int 9, .int 0, .int 0, .ref z6, .ref z29, .ref z7, .int 0, .int 2, .ref z19, .ref z8, .ref z9, .ref z10, .int 0, .ref z11, .int 0, .ref z30, .ref z31, .ref z32, .ref z33, .int 0, .ref z12, .int 0, .int 0, .ref z34, .ref z35, .ref z36, .ref z37, .int 0, .int 0, .int 0, .int 0, .ref z38, .int 0, .ref z39, .ref z40, .ref z41, .ref z42, .int 0, .ref z13, .ref z14, .ref z15, .ref z16, .int 0, .ref z17, .ref z18, .ref z43])), (z0, .inl (G.1, 4, .inl (fun _ => 0))), (z1, .inl (G.1, 32, .inl (upd (fun _ => 0) 0 (-1)))), (z2, .inl (G.1, 32, .inl (upd (fun _ => 0) 0 0))), (z3, .inl (G.1, 32, .inl (fun _ => 0))), (z4, .inl (G.1, 32, .inl (fun _ => 0))), (z5, .inl (G.1, 32, .inl (fun _ => 0)))] H := hP
  have hD : va_D A [(h0, .inr (12, [.ref z0, .ref z1, .ref z2, .ref z3, .ref z4, .ref z5, .ref z20, .ref z21, .ref z22, .ref z23, .ref z24, .ref z25, .int 1, .ref z26, .ref z27, .ref z28, .int 9, .int 0, .int 0, .ref z6, .ref z29, .ref z7, .int 0, .int 2, .ref z19, .ref z8, .ref z9, .ref z10, .int 0, .ref z11, .int 0, .ref z30, .ref z31, .ref z32, .ref z33, .int 0, .ref z12, .int 0, .int 0, .ref z34, .ref z35, .ref z36, .ref z37, .int 0, .int 0, .int 0, .int 0, .ref z38, .int 0, .ref z39, .ref z40, .ref z41, .ref z42, .int 0, .ref z13, .ref z14, .ref z15, .ref z16, .int 0, .ref z17, .ref z18, .ref z43])), (z0, .inl (G.1, 4, .inl (fun _ => 0))), (z1, .inl (G.1, 32, .inl (upd (fun _ => 0) 0 (-1)))), (z2, .inl (G.1, 32, .inl (upd (fun _ => 0) 0 0))), (z3, .inl (G.1, 32, .inl (fun _ => 0))), (z4, .inl (G.1, 32, .inl (fun _ => 0))), (z5, .inl (G.1, 32, .inl (fun _ => 0)))] := hD
  refine lv_aload_n hx hb dX12_addLimb_29 rfl (lv_at hl 1 rfl) ?_
  refine va_get (D := D) (ci := 12) (v := .ref z3) (C := RX12) (T := TX12) (N := 62) hx hb hts iX12_addLimb_X12 hown hK hP 0 rfl rfl 3 (by decide) (hts (.fieldLink RX12 19 "PuppetBridgeModel" "length" "[I") mX12_addLimb_w3) (fun _ h9 => h9) rfl dX12_addLimb_30 ?_
  refine lv_iload hx hb dX12_addLimb_33 (lv_at hl 0 rfl) ?_
  refine lv_iload hx hb dX12_addLimb_35 (lv_at hl 5 rfl) ?_
  refine va_iast hx hb hK hP hD hS 4 0 rfl rfl (wk_in rfl) dX12_addLimb_37 (fun H locs hP hD hS => ?_)
  have hP : va_P D vwCl [(h0, .inr (12, [.ref z0, .ref z1, .ref z2, .ref z3, .ref z4, .ref z5, .ref z20, .ref z21, .ref z22, .ref z23, .ref z24, .ref z25, .int 1, .ref z26, .ref z27, .ref z28, .int 9, .int 0, .int 0, .ref z6, .ref z29, .ref z7, .int 0, .int 2, .ref z19, .ref z8, .ref z9, .ref z10, .int 0, .ref z11, .int 0, .ref z30, .ref z31, .ref z32, .ref z33, .int 0, .ref z12, .int 0, .int 0, .ref z34, .ref z35, .ref z36, .ref z37, .int 0, .int 0, .int 0, .int 0, .ref z38, .int 0, .ref z39, .ref z40, .ref z41, .ref z42, .int 0, .ref z13, .ref z14, .ref z15, .ref z16, .int 0, .ref z17, .ref z18, .ref z43])), (z0, .inl (G.1, 4, .inl (fun _ => 0))), (z1, .inl (G.1, 32, .inl (upd (fun _ => 0) 0 (-1)))), (z2, .inl (G.1, 32, .inl (upd (fun _ => 0) 0 0))), (z3, .inl (G.1, 32, .inl (upd (fun _ => 0) 0 x1))), (z4, .inl (G.1, 32, .inl (fun _ => 0))), (z5, .inl (G.1, 32, .inl (fun _ => 0)))] H := hP
  have hD : va_D A [(h0, .inr (12, [.ref z0, .ref z1, .ref z2, .ref z3, .ref z4, .ref z5, .ref z20, .ref z21, .ref z22, .ref z23, .ref z24, .ref z25, .int 1, .ref z26, .ref z27, .ref z28, .int 9, .int 0, .int 0, .ref z6, .ref z29, .ref z7, .int 0, .int 2, .ref z19, .ref z8, .ref z9, .ref z10, .int 0, .ref z11, .int 0, .ref z30, .ref z31, .ref z32, .ref z33, .int 0, .ref z12, .int 0, .int 0, .ref z34, .ref z35, .ref z36, .ref z37, .int 0, .int 0, .int 0, .int 0, .ref z38, .int 0, .ref z39, .ref z40, .ref z41, .ref z42, .int 0, .ref z13, .ref z14, .ref z15, .ref z16, .int 0, .ref z17, .ref z18, .ref z43])), (z0, .inl (G.1, 4, .inl (fun _ => 0))), (z1, .inl (G.1, 32, .inl (upd (fun _ => 0) 0 (-1)))), (z2, .inl (G.1, 32, .inl (upd (fun _ => 0) 0 0))), (z3, .inl (G.1, 32, .inl (upd (fun _ => 0) 0 x1))), (z4, .inl (G.1, 32, .inl (fun _ => 0))), (z5, .inl (G.1, 32, .inl (fun _ => 0)))] := hD
  refine lv_aload_n hx hb dX12_addLimb_38 rfl (lv_at hl 1 rfl) ?_
  refine va_get (D := D) (ci := 12) (v := .ref z4) (C := RX12) (T := TX12) (N := 62) hx hb hts iX12_addLimb_X12 hown hK hP 0 rfl rfl 4 (by decide) (hts (.fieldLink RX12 22 "PuppetBridgeModel" "rest" "[I") mX12_addLimb_w4) (fun _ h9 => h9) rfl dX12_addLimb_39 ?_
  refine lv_iload hx hb dX12_addLimb_42 (lv_at hl 0 rfl) ?_
  refine lv_iload hx hb dX12_addLimb_44 (lv_at hl 6 rfl) ?_
  refine va_iast hx hb hK hP hD hS 5 0 rfl rfl (wk_in rfl) dX12_addLimb_46 (fun H locs hP hD hS => ?_)
  have hP : va_P D vwCl [(h0, .inr (12, [.ref z0, .ref z1, .ref z2, .ref z3, .ref z4, .ref z5, .ref z20, .ref z21, .ref z22, .ref z23, .ref z24, .ref z25, .int 1, .ref z26, .ref z27, .ref z28, .int 9, .int 0, .int 0, .ref z6, .ref z29, .ref z7, .int 0, .int 2, .ref z19, .ref z8, .ref z9, .ref z10, .int 0, .ref z11, .int 0, .ref z30, .ref z31, .ref z32, .ref z33, .int 0, .ref z12, .int 0, .int 0, .ref z34, .ref z35, .ref z36, .ref z37, .int 0, .int 0, .int 0, .int 0, .ref z38, .int 0, .ref z39, .ref z40, .ref z41, .ref z42, .int 0, .ref z13, .ref z14, .ref z15, .ref z16, .int 0, .ref z17, .ref z18, .ref z43])), (z0, .inl (G.1, 4, .inl (fun _ => 0))), (z1, .inl (G.1, 32, .inl (upd (fun _ => 0) 0 (-1)))), (z2, .inl (G.1, 32, .inl (upd (fun _ => 0) 0 0))), (z3, .inl (G.1, 32, .inl (upd (fun _ => 0) 0 x1))), (z4, .inl (G.1, 32, .inl (upd (fun _ => 0) 0 x2))), (z5, .inl (G.1, 32, .inl (fun _ => 0)))] H := hP
  have hD : va_D A [(h0, .inr (12, [.ref z0, .ref z1, .ref z2, .ref z3, .ref z4, .ref z5, .ref z20, .ref z21, .ref z22, .ref z23, .ref z24, .ref z25, .int 1, .ref z26, .ref z27, .ref z28, .int 9, .int 0, .int 0, .ref z6, .ref z29, .ref z7, .int 0, .int 2, .ref z19, .ref z8, .ref z9, .ref z10, .int 0, .ref z11, .int 0, .ref z30, .ref z31, .ref z32, .ref z33, .int 0, .ref z12, .int 0, .int 0, .ref z34, .ref z35, .ref z36, .ref z37, .int 0, .int 0, .int 0, .int 0, .ref z38, .int 0, .ref z39, .ref z40, .ref z41, .ref z42, .int 0, .ref z13, .ref z14, .ref z15, .ref z16, .int 0, .ref z17, .ref z18, .ref z43])), (z0, .inl (G.1, 4, .inl (fun _ => 0))), (z1, .inl (G.1, 32, .inl (upd (fun _ => 0) 0 (-1)))), (z2, .inl (G.1, 32, .inl (upd (fun _ => 0) 0 0))), (z3, .inl (G.1, 32, .inl (upd (fun _ => 0) 0 x1))), (z4, .inl (G.1, 32, .inl (upd (fun _ => 0) 0 x2))), (z5, .inl (G.1, 32, .inl (fun _ => 0)))] := hD
  refine lv_aload_n hx hb dX12_addLimb_47 rfl (lv_at hl 1 rfl) ?_
  refine va_get (D := D) (ci := 12) (v := .ref z5) (C := RX12) (T := TX12) (N := 62) hx hb hts iX12_addLimb_X12 hown hK hP 0 rfl rfl 5 (by decide) (hts (.fieldLink RX12 25 "PuppetBridgeModel" "most" "[I") mX12_addLimb_w5) (fun _ h9 => h9) rfl dX12_addLimb_48 ?_
  refine lv_iload hx hb dX12_addLimb_51 (lv_at hl 0 rfl) ?_
  refine lv_iload hx hb dX12_addLimb_53 (lv_at hl 7 rfl) ?_
  refine va_iast hx hb hK hP hD hS 6 0 rfl rfl (wk_in rfl) dX12_addLimb_55 (fun H locs hP hD hS => ?_)
  have hP : va_P D vwCl [(h0, .inr (12, [.ref z0, .ref z1, .ref z2, .ref z3, .ref z4, .ref z5, .ref z20, .ref z21, .ref z22, .ref z23, .ref z24, .ref z25, .int 1, .ref z26, .ref z27, .ref z28, .int 9, .int 0, .int 0, .ref z6, .ref z29, .ref z7, .int 0, .int 2, .ref z19, .ref z8, .ref z9, .ref z10, .int 0, .ref z11, .int 0, .ref z30, .ref z31, .ref z32, .ref z33, .int 0, .ref z12, .int 0, .int 0, .ref z34, .ref z35, .ref z36, .ref z37, .int 0, .int 0, .int 0, .int 0, .ref z38, .int 0, .ref z39, .ref z40, .ref z41, .ref z42, .int 0, .ref z13, .ref z14, .ref z15, .ref z16, .int 0, .ref z17, .ref z18, .ref z43])), (z0, .inl (G.1, 4, .inl (fun _ => 0))), (z1, .inl (G.1, 32, .inl (upd (fun _ => 0) 0 (-1)))), (z2, .inl (G.1, 32, .inl (upd (fun _ => 0) 0 0))), (z3, .inl (G.1, 32, .inl (upd (fun _ => 0) 0 x1))), (z4, .inl (G.1, 32, .inl (upd (fun _ => 0) 0 x2))), (z5, .inl (G.1, 32, .inl (upd (fun _ => 0) 0 x3)))] H := hP
  have hD : va_D A [(h0, .inr (12, [.ref z0, .ref z1, .ref z2, .ref z3, .ref z4, .ref z5, .ref z20, .ref z21, .ref z22, .ref z23, .ref z24, .ref z25, .int 1, .ref z26, .ref z27, .ref z28, .int 9, .int 0, .int 0, .ref z6, .ref z29, .ref z7, .int 0, .int 2, .ref z19, .ref z8, .ref z9, .ref z10, .int 0, .ref z11, .int 0, .ref z30, .ref z31, .ref z32, .ref z33, .int 0, .ref z12, .int 0, .int 0, .ref z34, .ref z35, .ref z36, .ref z37, .int 0, .int 0, .int 0, .int 0, .ref z38, .int 0, .ref z39, .ref z40, .ref z41, .ref z42, .int 0, .ref z13, .ref z14, .ref z15, .ref z16, .int 0, .ref z17, .ref z18, .ref z43])), (z0, .inl (G.1, 4, .inl (fun _ => 0))), (z1, .inl (G.1, 32, .inl (upd (fun _ => 0) 0 (-1)))), (z2, .inl (G.1, 32, .inl (upd (fun _ => 0) 0 0))), (z3, .inl (G.1, 32, .inl (upd (fun _ => 0) 0 x1))), (z4, .inl (G.1, 32, .inl (upd (fun _ => 0) 0 x2))), (z5, .inl (G.1, 32, .inl (upd (fun _ => 0) 0 x3)))] := hD
  refine lv_aload_n hx hb dX12_addLimb_56 rfl (lv_at hl 1 rfl) ?_
  refine va_get (D := D) (ci := 12) (v := .ref z0) (C := RX12) (T := TX12) (N := 62) hx hb hts iX12_addLimb_X12 hown hK hP 0 rfl rfl 0 (by decide) (hts (.fieldLink RX12 9 "PuppetBridgeModel" "limbs" "[I") mX12_addLimb_w0) (fun _ h9 => h9) rfl dX12_addLimb_57 ?_
  refine lv_iload_n hx hb dX12_addLimb_60 rfl (lv_at hl 2 rfl) ?_
  refine lv_dup2_11 hx hb dX12_addLimb_61 rfl rfl ?_
  refine va_iald hx hb hK hP 1 0 rfl rfl (wk_in rfl) dX12_addLimb_62 ?_
  refine wk_i 0 rfl ?_
  refine lv_iconst (v := 1) hx hb dX12_addLimb_63 (by decide) ?_
  refine lv_iadd hx hb dX12_addLimb_64 ?_
  refine wk_i 1 (by decide) ?_
  refine va_iast hx hb hK hP hD hS 1 0 rfl rfl (wk_in rfl) dX12_addLimb_65 (fun H locs hP hD hS => ?_)
  have hP : va_P D vwCl [(h0, .inr (12, [.ref z0, .ref z1, .ref z2, .ref z3, .ref z4, .ref z5, .ref z20, .ref z21, .ref z22, .ref z23, .ref z24, .ref z25, .int 1, .ref z26, .ref z27, .ref z28, .int 9, .int 0, .int 0, .ref z6, .ref z29, .ref z7, .int 0, .int 2, .ref z19, .ref z8, .ref z9, .ref z10, .int 0, .ref z11, .int 0, .ref z30, .ref z31, .ref z32, .ref z33, .int 0, .ref z12, .int 0, .int 0, .ref z34, .ref z35, .ref z36, .ref z37, .int 0, .int 0, .int 0, .int 0, .ref z38, .int 0, .ref z39, .ref z40, .ref z41, .ref z42, .int 0, .ref z13, .ref z14, .ref z15, .ref z16, .int 0, .ref z17, .ref z18, .ref z43])), (z0, .inl (G.1, 4, .inl (upd (fun _ => 0) 0 1))), (z1, .inl (G.1, 32, .inl (upd (fun _ => 0) 0 (-1)))), (z2, .inl (G.1, 32, .inl (upd (fun _ => 0) 0 0))), (z3, .inl (G.1, 32, .inl (upd (fun _ => 0) 0 x1))), (z4, .inl (G.1, 32, .inl (upd (fun _ => 0) 0 x2))), (z5, .inl (G.1, 32, .inl (upd (fun _ => 0) 0 x3)))] H := hP
  have hD : va_D A [(h0, .inr (12, [.ref z0, .ref z1, .ref z2, .ref z3, .ref z4, .ref z5, .ref z20, .ref z21, .ref z22, .ref z23, .ref z24, .ref z25, .int 1, .ref z26, .ref z27, .ref z28, .int 9, .int 0, .int 0, .ref z6, .ref z29, .ref z7, .int 0, .int 2, .ref z19, .ref z8, .ref z9, .ref z10, .int 0, .ref z11, .int 0, .ref z30, .ref z31, .ref z32, .ref z33, .int 0, .ref z12, .int 0, .int 0, .ref z34, .ref z35, .ref z36, .ref z37, .int 0, .int 0, .int 0, .int 0, .ref z38, .int 0, .ref z39, .ref z40, .ref z41, .ref z42, .int 0, .ref z13, .ref z14, .ref z15, .ref z16, .int 0, .ref z17, .ref z18, .ref z43])), (z0, .inl (G.1, 4, .inl (upd (fun _ => 0) 0 1))), (z1, .inl (G.1, 32, .inl (upd (fun _ => 0) 0 (-1)))), (z2, .inl (G.1, 32, .inl (upd (fun _ => 0) 0 0))), (z3, .inl (G.1, 32, .inl (upd (fun _ => 0) 0 x1))), (z4, .inl (G.1, 32, .inl (upd (fun _ => 0) 0 x2))), (z5, .inl (G.1, 32, .inl (upd (fun _ => 0) 0 x3)))] := hD
  have hP9 := hP.sub (ws' := [(h0, .inr (12, [.ref z0, .ref z1, .ref z2, .ref z3, .ref z4, .ref z5, .ref z20, .ref z21, .ref z22, .ref z23, .ref z24, .ref z25, .int 1, .ref z26, .ref z27, .ref z28, .int 9, .int 0, .int 0, .ref z6, .ref z29, .ref z7, .int 0, .int 2, .ref z19, .ref z8, .ref z9, .ref z10, .int 0, .ref z11, .int 0, .ref z30, .ref z31, .ref z32, .ref z33, .int 0, .ref z12, .int 0, .int 0, .ref z34, .ref z35, .ref z36, .ref z37, .int 0, .int 0, .int 0, .int 0, .ref z38, .int 0, .ref z39, .ref z40, .ref z41, .ref z42, .int 0, .ref z13, .ref z14, .ref z15, .ref z16, .int 0, .ref z17, .ref z18, .ref z43]))]) [0] rfl
  have hD9 := hD.sub (ws' := [(h0, .inr (12, [.ref z0, .ref z1, .ref z2, .ref z3, .ref z4, .ref z5, .ref z20, .ref z21, .ref z22, .ref z23, .ref z24, .ref z25, .int 1, .ref z26, .ref z27, .ref z28, .int 9, .int 0, .int 0, .ref z6, .ref z29, .ref z7, .int 0, .int 2, .ref z19, .ref z8, .ref z9, .ref z10, .int 0, .ref z11, .int 0, .ref z30, .ref z31, .ref z32, .ref z33, .int 0, .ref z12, .int 0, .int 0, .ref z34, .ref z35, .ref z36, .ref z37, .int 0, .int 0, .int 0, .int 0, .ref z38, .int 0, .ref z39, .ref z40, .ref z41, .ref z42, .int 0, .ref z13, .ref z14, .ref z15, .ref z16, .int 0, .ref z17, .ref z18, .ref z43]))]) [0] (by decide) rfl
  exact W.vret hx hb hr (fun t ht hW => ⟨⟨(), rfl, trivial, ⟨by rw [ht]; exact hP9, va_K.moved hW.alike hK, hD9⟩⟩, hS.F ht⟩) hS.2.2 dX12_addLimb_66

theorem mX12_figure_w0 : Cond.fieldLink RX12 157 "PuppetBridgeModel" "thrown" "I" ∈ wsX12_figure := by decide +kernel
theorem mX12_figure_w1 : Cond.fieldLink RX12 160 "PuppetBridgeModel" "figures" "I" ∈ wsX12_figure := by decide +kernel
theorem iX12_figure_X12 : ∀ w ∈ wsX120, w ∈ wsX12_figure := fun _ h => List.mem_cons_of_mem _ (List.mem_append_right _ h)
set_option maxRecDepth 20000 in
theorem ggX12_figure_X12_isShape : GoodIn wsX12_figure wsX12_isShape := goodIn_r _ [6, 7, 8, 5, 9] (by decide +kernel) (by decide +kernel)
set_option maxRecDepth 20000 in
theorem gX12_figure_X12_isShape : GoodIn wsX12_figure (va_wsS RX12 171 yX12_isShape wsX12_isShape) := goodIn_app (goodIn_of _ (by decide +kernel)) ggX12_figure_X12_isShape
set_option maxRecDepth 20000 in
theorem ggX12_figure_X12_addLimb : GoodIn wsX12_figure wsX12_addLimb := goodIn_r _ [13, 14, 15, 16, 17, 18, 19, 20, 21, 22, 23, 24, 25, 26, 27, 28, 29, 30, 31, 32, 33, 34, 35, 36, 37, 38, 39, 40, 41, 42, 43, 44, 45, 46, 47, 48, 49, 50, 51, 52, 53, 54, 55, 56, 57, 58, 59, 60, 61, 62, 63, 64, 65, 66, 67, 68, 69, 70, 71, 72, 73, 74, 75, 76, 77, 78, 79, 80, 81] (by decide +kernel) (by decide +kernel)
set_option maxRecDepth 20000 in
theorem gX12_figure_X12_addLimb : GoodIn wsX12_figure (wsV RX12 174 RX12 yX12_addLimb wsX12_addLimb) := goodIn_app (goodIn_of _ (by decide +kernel)) ggX12_figure_X12_addLimb
theorem dX12_figure_0 : decode cX12_figure 0 = .ok (.aload_n 0, 1) := by decide +kernel
theorem dX12_figure_1 : decode cX12_figure 1 = .ok (.iconst 0, 1) := by decide +kernel
theorem dX12_figure_2 : decode cX12_figure 2 = .ok (.putfield 157, 3) := by decide +kernel
theorem dX12_figure_5 : decode cX12_figure 5 = .ok (.iload_n 1, 1) := by decide +kernel
theorem dX12_figure_6 : decode cX12_figure 6 = .ok (.iload_n 2, 1) := by decide +kernel
theorem dX12_figure_7 : decode cX12_figure 7 = .ok (.iload_n 3, 1) := by decide +kernel
theorem dX12_figure_8 : decode cX12_figure 8 = .ok (.invokestatic 171, 3) := by decide +kernel
theorem dX12_figure_11 : decode cX12_figure 11 = .ok (.ifCond .eq 11, 3) := by decide +kernel
theorem dX12_figure_14 : decode cX12_figure 14 = .ok (.aload_n 0, 1) := by decide +kernel
theorem dX12_figure_15 : decode cX12_figure 15 = .ok (.getfield 160, 3) := by decide +kernel
theorem dX12_figure_18 : decode cX12_figure 18 = .ok (.iconst 4, 1) := by decide +kernel
theorem dX12_figure_19 : decode cX12_figure 19 = .ok (.if_icmp .ne 5, 3) := by decide +kernel
theorem dX12_figure_22 : decode cX12_figure 22 = .ok (.iconst (-1), 1) := by decide +kernel
theorem dX12_figure_23 : decode cX12_figure 23 = .ok (.ireturn, 1) := by decide +kernel
theorem dX12_figure_24 : decode cX12_figure 24 = .ok (.aload_n 0, 1) := by decide +kernel
theorem dX12_figure_25 : decode cX12_figure 25 = .ok (.dup, 1) := by decide +kernel
theorem dX12_figure_26 : decode cX12_figure 26 = .ok (.getfield 160, 3) := by decide +kernel
theorem dX12_figure_29 : decode cX12_figure 29 = .ok (.iconst 1, 1) := by decide +kernel
theorem dX12_figure_30 : decode cX12_figure 30 = .ok (.iadd, 1) := by decide +kernel
theorem dX12_figure_31 : decode cX12_figure 31 = .ok (.putfield 160, 3) := by decide +kernel
theorem dX12_figure_34 : decode cX12_figure 34 = .ok (.aload_n 0, 1) := by decide +kernel
theorem dX12_figure_35 : decode cX12_figure 35 = .ok (.aload_n 0, 1) := by decide +kernel
theorem dX12_figure_36 : decode cX12_figure 36 = .ok (.getfield 160, 3) := by decide +kernel
theorem dX12_figure_39 : decode cX12_figure 39 = .ok (.iconst 1, 1) := by decide +kernel
theorem dX12_figure_40 : decode cX12_figure 40 = .ok (.isub, 1) := by decide +kernel
theorem dX12_figure_41 : decode cX12_figure 41 = .ok (.iconst (-1), 1) := by decide +kernel
theorem dX12_figure_42 : decode cX12_figure 42 = .ok (.iconst 0, 1) := by decide +kernel
theorem dX12_figure_43 : decode cX12_figure 43 = .ok (.iload_n 1, 1) := by decide +kernel
theorem dX12_figure_44 : decode cX12_figure 44 = .ok (.iload_n 2, 1) := by decide +kernel
theorem dX12_figure_45 : decode cX12_figure 45 = .ok (.iload_n 3, 1) := by decide +kernel
theorem dX12_figure_46 : decode cX12_figure 46 = .ok (.invokevirtual 174, 3) := by decide +kernel
theorem dX12_figure_49 : decode cX12_figure 49 = .ok (.aload_n 0, 1) := by decide +kernel
theorem dX12_figure_50 : decode cX12_figure 50 = .ok (.getfield 160, 3) := by decide +kernel
theorem dX12_figure_53 : decode cX12_figure 53 = .ok (.iconst 1, 1) := by decide +kernel
theorem dX12_figure_54 : decode cX12_figure 54 = .ok (.isub, 1) := by decide +kernel
theorem dX12_figure_55 : decode cX12_figure 55 = .ok (.ireturn, 1) := by decide +kernel
set_option maxHeartbeats 4000000 in
set_option maxRecDepth 100000 in
/-- X12_figure -/
theorem kX12_figure (l : Launch) (D : va_G) (G : tyG) (h0 : Nat) (x1 : Int32) (x2 : Int32) (x3 : Int32) (z0 : Nat) (z1 : Nat) (z2 : Nat) (z3 : Nat) (z4 : Nat) (z5 : Nat) (z20 : Nat) (z21 : Nat) (z22 : Nat) (z23 : Nat) (z24 : Nat) (z25 : Nat) (z26 : Nat) (z27 : Nat) (z28 : Nat) (z6 : Nat) (z29 : Nat) (z7 : Nat) (z19 : Nat) (z8 : Nat) (z9 : Nat) (z10 : Nat) (z11 : Nat) (z30 : Nat) (z31 : Nat) (z32 : Nat) (z33 : Nat) (z12 : Nat) (z34 : Nat) (z35 : Nat) (z36 : Nat) (z37 : Nat) (z38 : Nat) (z39 : Nat) (z40 : Nat) (z41 : Nat) (z42 : Nat) (z13 : Nat) (z14 : Nat) (z15 : Nat) (z16 : Nat) (z17 : Nat) (z18 : Nat) (z43 : Nat) (sz : Nat) : Met l yX12_figure wsX12_figure ({ frames := 2, cells := 0, slots := 0, locals := 44 }) (va_Pc [.ref h0, .int x1, .int x2, .int x3] (wB D G sz [(h0, .inr (12, [.ref z0, .ref z1, .ref z2, .ref z3, .ref z4, .ref z5, .ref z20, .ref z21, .ref z22, .ref z23, .ref z24, .ref z25, .int 0, .ref z26, .ref z27, .ref z28, .int 9, .int 0, .int 0, .ref z6, .ref z29, .ref z7, .int 0, .int 2, .ref z19, .ref z8, .ref z9, .ref z10, .int 0, .ref z11, .int 0, .ref z30, .ref z31, .ref z32, .ref z33, .int 0, .ref z12, .int 0, .int 0, .ref z34, .ref z35, .ref z36, .ref z37, .int 0, .int 0, .int 0, .int 0, .ref z38, .int 0, .ref z39, .ref z40, .ref z41, .ref z42, .int 0, .ref z13, .ref z14, .ref z15, .ref z16, .int 0, .ref z17, .ref z18, .ref z43])), (z0, .inl (G.1, 4, .inl (fun _ => 0))), (z1, .inl (G.1, 32, .inl (fun _ => 0))), (z2, .inl (G.1, 32, .inl (fun _ => 0))), (z3, .inl (G.1, 32, .inl (fun _ => 0))), (z4, .inl (G.1, 32, .inl (fun _ => 0))), (z5, .inl (G.1, 32, .inl (fun _ => 0)))])) (va_Qi (fun (r : Int32) (_ : Unit) => r = (if (inB x1 1 20 && (inB x2 0 15 && inB x3 0 8)) = true then 0 else -1)) (fun _ _ => True) (va_A [(h0, .inr (12, [.ref z0, .ref z1, .ref z2, .ref z3, .ref z4, .ref z5, .ref z20, .ref z21, .ref z22, .ref z23, .ref z24, .ref z25, .int 0, .ref z26, .ref z27, .ref z28, .int 9, .int 0, .int 0, .ref z6, .ref z29, .ref z7, .int 0, .int 2, .ref z19, .ref z8, .ref z9, .ref z10, .int 0, .ref z11, .int 0, .ref z30, .ref z31, .ref z32, .ref z33, .int 0, .ref z12, .int 0, .int 0, .ref z34, .ref z35, .ref z36, .ref z37, .int 0, .int 0, .int 0, .int 0, .ref z38, .int 0, .ref z39, .ref z40, .ref z41, .ref z42, .int 0, .ref z13, .ref z14, .ref z15, .ref z16, .int 0, .ref z17, .ref z18, .ref z43])), (z0, .inl (G.1, 4, .inl (fun _ => 0))), (z1, .inl (G.1, 32, .inl (fun _ => 0))), (z2, .inl (G.1, 32, .inl (fun _ => 0))), (z3, .inl (G.1, 32, .inl (fun _ => 0))), (z4, .inl (G.1, 32, .inl (fun _ => 0))), (z5, .inl (G.1, 32, .inl (fun _ => 0)))] sz)) 0 0 (va_A [(h0, .inr (12, [.ref z0, .ref z1, .ref z2, .ref z3, .ref z4, .ref z5, .ref z20, .ref z21, .ref z22, .ref z23, .ref z24, .ref z25, .int 0, .ref z26, .ref z27, .ref z28, .int 9, .int 0, .int 0, .ref z6, .ref z29, .ref z7, .int 0, .int 2, .ref z19, .ref z8, .ref z9, .ref z10, .int 0, .ref z11, .int 0, .ref z30, .ref z31, .ref z32, .ref z33, .int 0, .ref z12, .int 0, .int 0, .ref z34, .ref z35, .ref z36, .ref z37, .int 0, .int 0, .int 0, .int 0, .ref z38, .int 0, .ref z39, .ref z40, .ref z41, .ref z42, .int 0, .ref z13, .ref z14, .ref z15, .ref z16, .int 0, .ref z17, .ref z18, .ref z43])), (z0, .inl (G.1, 4, .inl (fun _ => 0))), (z1, .inl (G.1, 32, .inl (fun _ => 0))), (z2, .inl (G.1, 32, .inl (fun _ => 0))), (z3, .inl (G.1, 32, .inl (fun _ => 0))), (z4, .inl (G.1, 32, .inl (fun _ => 0))), (z5, .inl (G.1, 32, .inl (fun _ => 0)))] sz) := by
  refine Met.ofW (cc := cX12_figure) (maxL := 4) (ret := (some .int)) (by decide) rfl ?_
  intro p e s m args below meth c s₁ B hml hv
  obtain ⟨rfl, hsz, hP, hK, hD0, hN⟩ := hv
  have hx := B.exec
  have hb := B.bytes
  have hr := B.returns
  have hts := atoms_spec (ws := wsX12_figure) B.pre
  have hown : s.vm.findClass RX12 = some m.cls := findClass_of_methodNamed B.named
  have hlocks := B.notSynchronized
  subst hsz
  have hD := hD0.self (sz := s.heap.size)
  generalize hAe : va_A [(h0, .inr (12, [.ref z0, .ref z1, .ref z2, .ref z3, .ref z4, .ref z5, .ref z20, .ref z21, .ref z22, .ref z23, .ref z24, .ref z25, .int 0, .ref z26, .ref z27, .ref z28, .int 9, .int 0, .int 0, .ref z6, .ref z29, .ref z7, .int 0, .int 2, .ref z19, .ref z8, .ref z9, .ref z10, .int 0, .ref z11, .int 0, .ref z30, .ref z31, .ref z32, .ref z33, .int 0, .ref z12, .int 0, .int 0, .ref z34, .ref z35, .ref z36, .ref z37, .int 0, .int 0, .int 0, .int 0, .ref z38, .int 0, .ref z39, .ref z40, .ref z41, .ref z42, .int 0, .ref z13, .ref z14, .ref z15, .ref z16, .int 0, .ref z17, .ref z18, .ref z43])), (z0, .inl (G.1, 4, .inl (fun _ => 0))), (z1, .inl (G.1, 32, .inl (fun _ => 0))), (z2, .inl (G.1, 32, .inl (fun _ => 0))), (z3, .inl (G.1, 32, .inl (fun _ => 0))), (z4, .inl (G.1, 32, .inl (fun _ => 0))), (z5, .inl (G.1, 32, .inl (fun _ => 0)))] s.heap.size = A at hD ⊢
  have hA : ∀ q : Nat, s.heap.size ≤ q → A q := fun q h => by rw [← hAe]; exact Or.inr h
  have hS : va_S A s.heap s.heap [] := va_S.rf
  have hP : va_P D vwCl [(h0, .inr (12, [.ref z0, .ref z1, .ref z2, .ref z3, .ref z4, .ref z5, .ref z20, .ref z21, .ref z22, .ref z23, .ref z24, .ref z25, .int 0, .ref z26, .ref z27, .ref z28, .int 9, .int 0, .int 0, .ref z6, .ref z29, .ref z7, .int 0, .int 2, .ref z19, .ref z8, .ref z9, .ref z10, .int 0, .ref z11, .int 0, .ref z30, .ref z31, .ref z32, .ref z33, .int 0, .ref z12, .int 0, .int 0, .ref z34, .ref z35, .ref z36, .ref z37, .int 0, .int 0, .int 0, .int 0, .ref z38, .int 0, .ref z39, .ref z40, .ref z41, .ref z42, .int 0, .ref z13, .ref z14, .ref z15, .ref z16, .int 0, .ref z17, .ref z18, .ref z43])), (z0, .inl (G.1, 4, .inl (fun _ => 0))), (z1, .inl (G.1, 32, .inl (fun _ => 0))), (z2, .inl (G.1, 32, .inl (fun _ => 0))), (z3, .inl (G.1, 32, .inl (fun _ => 0))), (z4, .inl (G.1, 32, .inl (fun _ => 0))), (z5, .inl (G.1, 32, .inl (fun _ => 0)))] s.heap := hP
  have hl := lv_entry ([.ref h0, .int x1, .int x2, .int x3]) (n := 4) (Nat.le_of_ble_eq_true rfl)
  rw [lg_entry_eq]
  generalize (lg_sl ([.ref h0, .int x1, .int x2, .int x3]) ++ List.replicate (4 - (lg_sl ([.ref h0, .int x1, .int x2, .int x3])).length) Slot.unset).toArray = ls at hl ⊢
  have hl : lv_has ls 4 [(0, .ref h0), (1, .int x1), (2, .int x2), (3, .int x3)] := hl
  refine lv_aload_n hx hb dX12_figure_0 rfl (lv_at hl 0 rfl) ?_
  refine lv_iconst (v := 0) hx hb dX12_figure_1 (by decide) ?_
  refine va_put (D := D) (ci := 12) (v := .int 0) (ty := (tyX12 38)) (C := RX12) (T := TX12) (N := 62) hx hb hts iX12_figure_X12 tyX12 tyX12_ok nmX12 hown hK hP hD hS 0 rfl rfl 38 (by decide) (hts (.fieldLink RX12 157 "PuppetBridgeModel" "thrown" "I") mX12_figure_w0) (fun _ h9 => h9) rfl (tyX12_ok 38 (by decide)) rfl rfl (Nat.le_of_ble_eq_true rfl) dX12_figure_2 (fun H locs hP hD hS => ?_)
  have hP : va_P D vwCl [(h0, .inr (12, [.ref z0, .ref z1, .ref z2, .ref z3, .ref z4, .ref z5, .ref z20, .ref z21, .ref z22, .ref z23, .ref z24, .ref z25, .int 0, .ref z26, .ref z27, .ref z28, .int 9, .int 0, .int 0, .ref z6, .ref z29, .ref z7, .int 0, .int 2, .ref z19, .ref z8, .ref z9, .ref z10, .int 0, .ref z11, .int 0, .ref z30, .ref z31, .ref z32, .ref z33, .int 0, .ref z12, .int 0, .int 0, .ref z34, .ref z35, .ref z36, .ref z37, .int 0, .int 0, .int 0, .int 0, .ref z38, .int 0, .ref z39, .ref z40, .ref z41, .ref z42, .int 0, .ref z13, .ref z14, .ref z15, .ref z16, .int 0, .ref z17, .ref z18, .ref z43])), (z0, .inl (G.1, 4, .inl (fun _ => 0))), (z1, .inl (G.1, 32, .inl (fun _ => 0))), (z2, .inl (G.1, 32, .inl (fun _ => 0))), (z3, .inl (G.1, 32, .inl (fun _ => 0))), (z4, .inl (G.1, 32, .inl (fun _ => 0))), (z5, .inl (G.1, 32, .inl (fun _ => 0)))] H := hP
  have hD : va_D A [(h0, .inr (12, [.ref z0, .ref z1, .ref z2, .ref z3, .ref z4, .ref z5, .ref z20, .ref z21, .ref z22, .ref z23, .ref z24, .ref z25, .int 0, .ref z26, .ref z27, .ref z28, .int 9, .int 0, .int 0, .ref z6, .ref z29, .ref z7, .int 0, .int 2, .ref z19, .ref z8, .ref z9, .ref z10, .int 0, .ref z11, .int 0, .ref z30, .ref z31, .ref z32, .ref z33, .int 0, .ref z12, .int 0, .int 0, .ref z34, .ref z35, .ref z36, .ref z37, .int 0, .int 0, .int 0, .int 0, .ref z38, .int 0, .ref z39, .ref z40, .ref z41, .ref z42, .int 0, .ref z13, .ref z14, .ref z15, .ref z16, .int 0, .ref z17, .ref z18, .ref z43])), (z0, .inl (G.1, 4, .inl (fun _ => 0))), (z1, .inl (G.1, 32, .inl (fun _ => 0))), (z2, .inl (G.1, 32, .inl (fun _ => 0))), (z3, .inl (G.1, 32, .inl (fun _ => 0))), (z4, .inl (G.1, 32, .inl (fun _ => 0))), (z5, .inl (G.1, 32, .inl (fun _ => 0)))] := hD
  refine lv_iload_n hx hb dX12_figure_5 rfl (lv_at hl 1 rfl) ?_
  refine lv_iload_n hx hb dX12_figure_6 rfl (lv_at hl 2 rfl) ?_
  refine lv_iload_n hx hb dX12_figure_7 rfl (lv_at hl 3 rfl) ?_
  have hPc := hP.sub (ws' := []) [] rfl
  have hDc := hD.sub (ws' := []) [] (by decide) rfl
  have hFc := va_free (wc := []) hD hS hA [] rfl
  refine va_calli (va_runS (As := [.int x1, .int x2, .int x3]) (rest := []) ⟨hx, hb, hml, hown, hts⟩ (kX12_isShape l D G x1 x2 x3 H.size) (va_cwS 3 hts gX12_figure_X12_isShape rfl rfl rfl (by decide +kernel) ⟨Nat.le_of_ble_eq_true rfl, Nat.le_of_ble_eq_true rfl⟩) ⟨wB_blind, wB_pre hPc hK hDc hN⟩ rfl rfl hl.1 rfl (lv_room (Nat.le_of_ble_eq_true rfl)) dX12_figure_8 ⟨Nat.le_of_ble_eq_true rfl, Nat.le_of_ble_eq_true rfl⟩) hS (fun q _ h => hFc q h) hFc (fun r1 u t H1 locs ht hvm hr1 hB hz1 hk1 hS => ?_)
  obtain ⟨hP, hD⟩ := va_join (wr := [(h0, .inr (12, [.ref z0, .ref z1, .ref z2, .ref z3, .ref z4, .ref z5, .ref z20, .ref z21, .ref z22, .ref z23, .ref z24, .ref z25, .int 0, .ref z26, .ref z27, .ref z28, .int 9, .int 0, .int 0, .ref z6, .ref z29, .ref z7, .int 0, .int 2, .ref z19, .ref z8, .ref z9, .ref z10, .int 0, .ref z11, .int 0, .ref z30, .ref z31, .ref z32, .ref z33, .int 0, .ref z12, .int 0, .int 0, .ref z34, .ref z35, .ref z36, .ref z37, .int 0, .int 0, .int 0, .int 0, .ref z38, .int 0, .ref z39, .ref z40, .ref z41, .ref z42, .int 0, .ref z13, .ref z14, .ref z15, .ref z16, .int 0, .ref z17, .ref z18, .ref z43])), (z0, .inl (G.1, 4, .inl (fun _ => 0))), (z1, .inl (G.1, 32, .inl (fun _ => 0))), (z2, .inl (G.1, 32, .inl (fun _ => 0))), (z3, .inl (G.1, 32, .inl (fun _ => 0))), (z4, .inl (G.1, 32, .inl (fun _ => 0))), (z5, .inl (G.1, 32, .inl (fun _ => 0)))]) (w1 := []) hP hD [] [0, 1, 2, 3, 4, 5, 6] rfl rfl (by decide) (by decide) hk1 hFc wP_nil wD_nil
  clear hPc hDc
  generalize H1 = H at hP hS ⊢
  have hP : va_P D vwCl [(h0, .inr (12, [.ref z0, .ref z1, .ref z2, .ref z3, .ref z4, .ref z5, .ref z20, .ref z21, .ref z22, .ref z23, .ref z24, .ref z25, .int 0, .ref z26, .ref z27, .ref z28, .int 9, .int 0, .int 0, .ref z6, .ref z29, .ref z7, .int 0, .int 2, .ref z19, .ref z8, .ref z9, .ref z10, .int 0, .ref z11, .int 0, .ref z30, .ref z31, .ref z32, .ref z33, .int 0, .ref z12, .int 0, .int 0, .ref z34, .ref z35, .ref z36, .ref z37, .int 0, .int 0, .int 0, .int 0, .ref z38, .int 0, .ref z39, .ref z40, .ref z41, .ref z42, .int 0, .ref z13, .ref z14, .ref z15, .ref z16, .int 0, .ref z17, .ref z18, .ref z43])), (z0, .inl (G.1, 4, .inl (fun _ => 0))), (z1, .inl (G.1, 32, .inl (fun _ => 0))), (z2, .inl (G.1, 32, .inl (fun _ => 0))), (z3, .inl (G.1, 32, .inl (fun _ => 0))), (z4, .inl (G.1, 32, .inl (fun _ => 0))), (z5, .inl (G.1, 32, .inl (fun _ => 0)))] H := hP
  have hD : va_D A [(h0, .inr (12, [.ref z0, .ref z1, .ref z2, .ref z3, .ref z4, .ref z5, .ref z20, .ref z21, .ref z22, .ref z23, .ref z24, .ref z25, .int 0, .ref z26, .ref z27, .ref z28, .int 9, .int 0, .int 0, .ref z6, .ref z29, .ref z7, .int 0, .int 2, .ref z19, .ref z8, .ref z9, .ref z10, .int 0, .ref z11, .int 0, .ref z30, .ref z31, .ref z32, .ref z33, .int 0, .ref z12, .int 0, .int 0, .ref z34, .ref z35, .ref z36, .ref z37, .int 0, .int 0, .int 0, .int 0, .ref z38, .int 0, .ref z39, .ref z40, .ref z41, .ref z42, .int 0, .ref z13, .ref z14, .ref z15, .ref z16, .int 0, .ref z17, .ref z18, .ref z43])), (z0, .inl (G.1, 4, .inl (fun _ => 0))), (z1, .inl (G.1, 32, .inl (fun _ => 0))), (z2, .inl (G.1, 32, .inl (fun _ => 0))), (z3, .inl (G.1, 32, .inl (fun _ => 0))), (z4, .inl (G.1, 32, .inl (fun _ => 0))), (z5, .inl (G.1, 32, .inl (fun _ => 0)))] := hD
  refine lv_if_eq (tgt := 22) hx hb dX12_figure_11 (by decide) (fun c2 => ?_) (fun c2 => ?_)
  · have kc2 : (inB x1 1 20 && (inB x2 0 15 && inB x3 0 8)) = false := wk_b0 hr1 c2
    refine lv_iconst (v := (-1)) hx hb dX12_figure_22 (by decide) ?_
    exact W.iret (v := (-1)) hx hb hr (fun t ht hW => ⟨⟨(-1), (), rfl, by first | (simp [kc2]; done) | rfl, trivial⟩, hS.F ht⟩) hS.2.2 dX12_figure_23
  · have kc2 : (inB x1 1 20 && (inB x2 0 15 && inB x3 0 8)) = true := wk_b1 hr1 c2
    refine lv_aload_n hx hb dX12_figure_14 rfl (lv_at hl 0 rfl) ?_
    refine va_get (D := D) (ci := 12) (v := .int 0) (C := RX12) (T := TX12) (N := 62) hx hb hts iX12_figure_X12 hown hK hP 0 rfl rfl 12 (by decide) (hts (.fieldLink RX12 160 "PuppetBridgeModel" "figures" "I") mX12_figure_w1) (fun _ h9 => h9) rfl dX12_figure_15 ?_
    refine lv_iconst (v := 4) hx hb dX12_figure_18 (by decide) ?_
    refine lv_icmp_ne (tgt := 24) hx hb dX12_figure_19 (by decide) (fun _ => ?_) (fun h9 => absurd h9 (by decide))
    refine lv_aload_n hx hb dX12_figure_24 rfl (lv_at hl 0 rfl) ?_
    refine lv_dup hx hb dX12_figure_25 rfl ?_
    refine va_get (D := D) (ci := 12) (v := .int 0) (C := RX12) (T := TX12) (N := 62) hx hb hts iX12_figure_X12 hown hK hP 0 rfl rfl 12 (by decide) (hts (.fieldLink RX12 160 "PuppetBridgeModel" "figures" "I") mX12_figure_w1) (fun _ h9 => h9) rfl dX12_figure_26 ?_
    refine lv_iconst (v := 1) hx hb dX12_figure_29 (by decide) ?_
    refine lv_iadd hx hb dX12_figure_30 ?_
    refine wk_i 1 (by decide) ?_
    refine va_put (D := D) (ci := 12) (v := .int 1) (ty := (tyX12 12)) (C := RX12) (T := TX12) (N := 62) hx hb hts iX12_figure_X12 tyX12 tyX12_ok nmX12 hown hK hP hD hS 0 rfl rfl 12 (by decide) (hts (.fieldLink RX12 160 "PuppetBridgeModel" "figures" "I") mX12_figure_w1) (fun _ h9 => h9) rfl (tyX12_ok 12 (by decide)) rfl rfl (Nat.le_of_ble_eq_true rfl) dX12_figure_31 (fun H locs hP hD hS => ?_)
    have hP : va_P D vwCl [(h0, .inr (12, [.ref z0, .ref z1, .ref z2, .ref z3, .ref z4, .ref z5, .ref z20, .ref z21, .ref z22, .ref z23, .ref z24, .ref z25, .int 1, .ref z26, .ref z27, .ref z28, .int 9, .int 0, .int 0, .ref z6, .ref z29, .ref z7, .int 0, .int 2, .ref z19, .ref z8, .ref z9, .ref z10, .int 0, .ref z11, .int 0, .ref z30, .ref z31, .ref z32, .ref z33, .int 0, .ref z12, .int 0, .int 0, .ref z34, .ref z35, .ref z36, .ref z37, .int 0, .int 0, .int 0, .int 0, .ref z38, .int 0, .ref z39, .ref z40, .ref z41, .ref z42, .int 0, .ref z13, .ref z14, .ref z15, .ref z16, .int 0, .ref z17, .ref z18, .ref z43])), (z0, .inl (G.1, 4, .inl (fun _ => 0))), (z1, .inl (G.1, 32, .inl (fun _ => 0))), (z2, .inl (G.1, 32, .inl (fun _ => 0))), (z3, .inl (G.1, 32, .inl (fun _ => 0))), (z4, .inl (G.1, 32, .inl (fun _ => 0))), (z5, .inl (G.1, 32, .inl (fun _ => 0)))] H := hP
    have hD : va_D A [(h0, .inr (12, [.ref z0, .ref z1, .ref z2, .ref z3, .ref z4, .ref z5, .ref z20, .ref z21, .ref z22, .ref z23, .ref z24, .ref z25, .int 1, .ref z26, .ref z27, .ref z28, .int 9, .int 0, .int 0, .ref z6, .ref z29, .ref z7, .int 0, .int 2, .ref z19, .ref z8, .ref z9, .ref z10, .int 0, .ref z11, .int 0, .ref z30, .ref z31, .ref z32, .ref z33, .int 0, .ref z12, .int 0, .int 0, .ref z34, .ref z35, .ref z36, .ref z37, .int 0, .int 0, .int 0, .int 0, .ref z38, .int 0, .ref z39, .ref z40, .ref z41, .ref z42, .int 0, .ref z13, .ref z14, .ref z15, .ref z16, .int 0, .ref z17, .ref z18, .ref z43])), (z0, .inl (G.1, 4, .inl (fun _ => 0))), (z1, .inl (G.1, 32, .inl (fun _ => 0))), (z2, .inl (G.1, 32, .inl (fun _ => 0))), (z3, .inl (G.1, 32, .inl (fun _ => 0))), (z4, .inl (G.1, 32, .inl (fun _ => 0))), (z5, .inl (G.1, 32, .inl (fun _ => 0)))] := hD
    refine lv_aload_n hx hb dX12_figure_34 rfl (lv_at hl 0 rfl) ?_
    refine lv_aload_n hx hb dX12_figure_35 rfl (lv_at hl 0 rfl) ?_
    refine va_get (D := D) (ci := 12) (v := .int 1) (C := RX12) (T := TX12) (N := 62) hx hb hts iX12_figure_X12 hown hK hP 0 rfl rfl 12 (by decide) (hts (.fieldLink RX12 160 "PuppetBridgeModel" "figures" "I") mX12_figure_w1) (fun _ h9 => h9) rfl dX12_figure_36 ?_
    refine lv_iconst (v := 1) hx hb dX12_figure_39 (by decide) ?_
    refine lv_isub hx hb dX12_figure_40 ?_
    refine wk_i 0 (by decide) ?_
    refine lv_iconst (v := (-1)) hx hb dX12_figure_41 (by decide) ?_
    refine lv_iconst (v := 0) hx hb dX12_figure_42 (by decide) ?_
    refine lv_iload_n hx hb dX12_figure_43 rfl (lv_at hl 1 rfl) ?_
    refine lv_iload_n hx hb dX12_figure_44 rfl (lv_at hl 2 rfl) ?_
    refine lv_iload_n hx hb dX12_figure_45 rfl (lv_at hl 3 rfl) ?_
    have hPc := hP.sub (ws' := [(h0, .inr (12, [.ref z0, .ref z1, .ref z2, .ref z3, .ref z4, .ref z5, .ref z20, .ref z21, .ref z22, .ref z23, .ref z24, .ref z25, .int 1, .ref z26, .ref z27, .ref z28, .int 9, .int 0, .int 0, .ref z6, .ref z29, .ref z7, .int 0, .int 2, .ref z19, .ref z8, .ref z9, .ref z10, .int 0, .ref z11, .int 0, .ref z30, .ref z31, .ref z32, .ref z33, .int 0, .ref z12, .int 0, .int 0, .ref z34, .ref z35, .ref z36, .ref z37, .int 0, .int 0, .int 0, .int 0, .ref z38, .int 0, .ref z39, .ref z40, .ref z41, .ref z42, .int 0, .ref z13, .ref z14, .ref z15, .ref z16, .int 0, .ref z17, .ref z18, .ref z43])), (z0, .inl (G.1, 4, .inl (fun _ => 0))), (z1, .inl (G.1, 32, .inl (fun _ => 0))), (z2, .inl (G.1, 32, .inl (fun _ => 0))), (z3, .inl (G.1, 32, .inl (fun _ => 0))), (z4, .inl (G.1, 32, .inl (fun _ => 0))), (z5, .inl (G.1, 32, .inl (fun _ => 0)))]) [0, 1, 2, 3, 4, 5, 6] rfl
    have hDc := hD.sub (ws' := [(h0, .inr (12, [.ref z0, .ref z1, .ref z2, .ref z3, .ref z4, .ref z5, .ref z20, .ref z21, .ref z22, .ref z23, .ref z24, .ref z25, .int 1, .ref z26, .ref z27, .ref z28, .int 9, .int 0, .int 0, .ref z6, .ref z29, .ref z7, .int 0, .int 2, .ref z19, .ref z8, .ref z9, .ref z10, .int 0, .ref z11, .int 0, .ref z30, .ref z31, .ref z32, .ref z33, .int 0, .ref z12, .int 0, .int 0, .ref z34, .ref z35, .ref z36, .ref z37, .int 0, .int 0, .int 0, .int 0, .ref z38, .int 0, .ref z39, .ref z40, .ref z41, .ref z42, .int 0, .ref z13, .ref z14, .ref z15, .ref z16, .int 0, .ref z17, .ref z18, .ref z43])), (z0, .inl (G.1, 4, .inl (fun _ => 0))), (z1, .inl (G.1, 32, .inl (fun _ => 0))), (z2, .inl (G.1, 32, .inl (fun _ => 0))), (z3, .inl (G.1, 32, .inl (fun _ => 0))), (z4, .inl (G.1, 32, .inl (fun _ => 0))), (z5, .inl (G.1, 32, .inl (fun _ => 0)))]) [0, 1, 2, 3, 4, 5, 6] (by decide) rfl
    have hFc := va_free (wc := [(h0, .inr (12, [.ref z0, .ref z1, .ref z2, .ref z3, .ref z4, .ref z5, .ref z20, .ref z21, .ref z22, .ref z23, .ref z24, .ref z25, .int 1, .ref z26, .ref z27, .ref z28, .int 9, .int 0, .int 0, .ref z6, .ref z29, .ref z7, .int 0, .int 2, .ref z19, .ref z8, .ref z9, .ref z10, .int 0, .ref z11, .int 0, .ref z30, .ref z31, .ref z32, .ref z33, .int 0, .ref z12, .int 0, .int 0, .ref z34, .ref z35, .ref z36, .ref z37, .int 0, .int 0, .int 0, .int 0, .ref z38, .int 0, .ref z39, .ref z40, .ref z41, .ref z42, .int 0, .ref z13, .ref z14, .ref z15, .ref z16, .int 0, .ref z17, .ref z18, .ref z43])), (z0, .inl (G.1, 4, .inl (fun _ => 0))), (z1, .inl (G.1, 32, .inl (fun _ => 0))), (z2, .inl (G.1, 32, .inl (fun _ => 0))), (z3, .inl (G.1, 32, .inl (fun _ => 0))), (z4, .inl (G.1, 32, .inl (fun _ => 0))), (z5, .inl (G.1, 32, .inl (fun _ => 0)))]) hD hS hA [0, 1, 2, 3, 4, 5, 6] rfl
    refine va_callv (va_runV (As := [.int 0, .int (-1), .int 0, .int x1, .int x2, .int x3]) (rest := []) ⟨hx, hb, hml, hown, hts⟩ (kX12_addLimb l D G h0 x1 x2 x3 z0 z1 z2 z3 z4 z5 z20 z21 z22 z23 z24 z25 z26 z27 z28 z6 z29 z7 z19 z8 z9 z10 z11 z30 z31 z32 z33 z12 z34 z35 z36 z37 z38 z39 z40 z41 z42 z13 z14 z15 z16 z17 z18 z43 H.size) (cwV 6 hts gX12_figure_X12_addLimb rfl rfl rfl (by decide +kernel) ⟨Nat.le_of_ble_eq_true rfl, Nat.le_of_ble_eq_true rfl⟩) ⟨wB_blind, va_recv hK hPc (ci := 12) (q0 := 0) rfl rfl, wB_pre hPc hK hDc hN⟩ rfl rfl hl.1 rfl (lv_room (Nat.le_of_ble_eq_true rfl)) dX12_figure_46 ⟨Nat.le_of_ble_eq_true rfl, Nat.le_of_ble_eq_true rfl⟩) hS (fun q _ h => hFc q h) hFc (fun u t H1 locs ht hvm hr3 hB hz1 hk1 hS => ?_)
    obtain ⟨hP1, hK1, hD1⟩ := hB
    rw [ht] at hP1
    obtain ⟨hP, hD⟩ := va_join (wr := []) (w1 := [(h0, .inr (12, [.ref z0, .ref z1, .ref z2, .ref z3, .ref z4, .ref z5, .ref z20, .ref z21, .ref z22, .ref z23, .ref z24, .ref z25, .int 1, .ref z26, .ref z27, .ref z28, .int 9, .int 0, .int 0, .ref z6, .ref z29, .ref z7, .int 0, .int 2, .ref z19, .ref z8, .ref z9, .ref z10, .int 0, .ref z11, .int 0, .ref z30, .ref z31, .ref z32, .ref z33, .int 0, .ref z12, .int 0, .int 0, .ref z34, .ref z35, .ref z36, .ref z37, .int 0, .int 0, .int 0, .int 0, .ref z38, .int 0, .ref z39, .ref z40, .ref z41, .ref z42, .int 0, .ref z13, .ref z14, .ref z15, .ref z16, .int 0, .ref z17, .ref z18, .ref z43]))]) hP hD [0, 1, 2, 3, 4, 5, 6] [] rfl rfl (by decide) (by decide) hk1 hFc hP1 hD1
    clear hPc hDc
    generalize H1 = H at hP hS ⊢
    have hP : va_P D vwCl [(h0, .inr (12, [.ref z0, .ref z1, .ref z2, .ref z3, .ref z4, .ref z5, .ref z20, .ref z21, .ref z22, .ref z23, .ref z24, .ref z25, .int 1, .ref z26, .ref z27, .ref z28, .int 9, .int 0, .int 0, .ref z6, .ref z29, .ref z7, .int 0, .int 2, .ref z19, .ref z8, .ref z9, .ref z10, .int 0, .ref z11, .int 0, .ref z30, .ref z31, .ref z32, .ref z33, .int 0, .ref z12, .int 0, .int 0, .ref z34, .ref z35, .ref z36, .ref z37, .int 0, .int 0, .int 0, .int 0, .ref z38, .int 0, .ref z39, .ref z40, .ref z41, .ref z42, .int 0, .ref z13, .ref z14, .ref z15, .ref z16, .int 0, .ref z17, .ref z18, .ref z43]))] H := hP
    have hD : va_D A [(h0, .inr (12, [.ref z0, .ref z1, .ref z2, .ref z3, .ref z4, .ref z5, .ref z20, .ref z21, .ref z22, .ref z23, .ref z24, .ref z25, .int 1, .ref z26, .ref z27, .ref z28, .int 9, .int 0, .int 0, .ref z6, .ref z29, .ref z7, .int 0, .int 2, .ref z19, .ref z8, .ref z9, .ref z10, .int 0, .ref z11, .int 0, .ref z30, .ref z31, .ref z32, .ref z33, .int 0, .ref z12, .int 0, .int 0, .ref z34, .ref z35, .ref z36, .ref z37, .int 0, .int 0, .int 0, .int 0, .ref z38, .int 0, .ref z39, .ref z40, .ref z41, .ref z42, .int 0, .ref z13, .ref z14, .ref z15, .ref z16, .int 0, .ref z17, .ref z18, .ref z43]))] := hD
    refine lv_aload_n hx hb dX12_figure_49 rfl (lv_at hl 0 rfl) ?_
    refine va_get (D := D) (ci := 12) (v := .int 1) (C := RX12) (T := TX12) (N := 62) hx hb hts iX12_figure_X12 hown hK hP 0 rfl rfl 12 (by decide) (hts (.fieldLink RX12 160 "PuppetBridgeModel" "figures" "I") mX12_figure_w1) (fun _ h9 => h9) rfl dX12_figure_50 ?_
    refine lv_iconst (v := 1) hx hb dX12_figure_53 (by decide) ?_
    refine lv_isub hx hb dX12_figure_54 ?_
    refine wk_i 0 (by decide) ?_
    exact W.iret (v := 0) hx hb hr (fun t ht hW => ⟨⟨0, (), rfl, by first | (simp [kc2]; done) | rfl, trivial⟩, hS.F ht⟩) hS.2.2 dX12_figure_55

theorem mX12_sign_w0 : Cond.fieldLink RX12 157 "PuppetBridgeModel" "thrown" "I" ∈ wsX12_sign := by decide +kernel
theorem mX12_sign_w1 : Cond.fieldLink RX12 251 "PuppetBridgeModel" "typed" "I" ∈ wsX12_sign := by decide +kernel
theorem mX12_sign_w2 : Cond.fieldLink RX12 66 "PuppetBridgeModel" "text" "[B" ∈ wsX12_sign := by decide +kernel
theorem iX12_sign_X12 : ∀ w ∈ wsX120, w ∈ wsX12_sign := fun _ h => List.mem_cons_of_mem _ (List.mem_append_right _ h)
theorem dX12_sign_0 : decode cX12_sign 0 = .ok (.aload_n 0, 1) := by decide +kernel
theorem dX12_sign_1 : decode cX12_sign 1 = .ok (.iconst 0, 1) := by decide +kernel
theorem dX12_sign_2 : decode cX12_sign 2 = .ok (.putfield 157, 3) := by decide +kernel
theorem dX12_sign_5 : decode cX12_sign 5 = .ok (.aload_n 0, 1) := by decide +kernel
theorem dX12_sign_6 : decode cX12_sign 6 = .ok (.getfield 251, 3) := by decide +kernel
theorem dX12_sign_9 : decode cX12_sign 9 = .ok (.iconst 4, 1) := by decide +kernel
theorem dX12_sign_10 : decode cX12_sign 10 = .ok (.iadd, 1) := by decide +kernel
theorem dX12_sign_11 : decode cX12_sign 11 = .ok (.bipush 100, 2) := by decide +kernel
theorem dX12_sign_13 : decode cX12_sign 13 = .ok (.if_icmp .le 5, 3) := by decide +kernel
theorem dX12_sign_18 : decode cX12_sign 18 = .ok (.iconst 3, 1) := by decide +kernel
theorem dX12_sign_19 : decode cX12_sign 19 = .ok (.istore_n 2, 1) := by decide +kernel
theorem dX12_sign_20 : decode cX12_sign 20 = .ok (.iload_n 2, 1) := by decide +kernel
theorem dX12_sign_21 : decode cX12_sign 21 = .ok (.ifCond .lt 32, 3) := by decide +kernel
theorem dX12_sign_24 : decode cX12_sign 24 = .ok (.aload_n 0, 1) := by decide +kernel
theorem dX12_sign_25 : decode cX12_sign 25 = .ok (.getfield 66, 3) := by decide +kernel
theorem dX12_sign_28 : decode cX12_sign 28 = .ok (.aload_n 0, 1) := by decide +kernel
theorem dX12_sign_29 : decode cX12_sign 29 = .ok (.dup, 1) := by decide +kernel
theorem dX12_sign_30 : decode cX12_sign 30 = .ok (.getfield 251, 3) := by decide +kernel
theorem dX12_sign_33 : decode cX12_sign 33 = .ok (.dup_x1, 1) := by decide +kernel
theorem dX12_sign_34 : decode cX12_sign 34 = .ok (.iconst 1, 1) := by decide +kernel
theorem dX12_sign_35 : decode cX12_sign 35 = .ok (.iadd, 1) := by decide +kernel
theorem dX12_sign_36 : decode cX12_sign 36 = .ok (.putfield 251, 3) := by decide +kernel
theorem dX12_sign_39 : decode cX12_sign 39 = .ok (.iload_n 1, 1) := by decide +kernel
theorem dX12_sign_40 : decode cX12_sign 40 = .ok (.bipush 8, 2) := by decide +kernel
theorem dX12_sign_42 : decode cX12_sign 42 = .ok (.iload_n 2, 1) := by decide +kernel
theorem dX12_sign_43 : decode cX12_sign 43 = .ok (.imul, 1) := by decide +kernel
theorem dX12_sign_44 : decode cX12_sign 44 = .ok (.ishr, 1) := by decide +kernel
theorem dX12_sign_45 : decode cX12_sign 45 = .ok (.i2b, 1) := by decide +kernel
theorem dX12_sign_46 : decode cX12_sign 46 = .ok (.bastore, 1) := by decide +kernel
theorem dX12_sign_47 : decode cX12_sign 47 = .ok (.iinc 2 (-1), 3) := by decide +kernel
theorem dX12_sign_50 : decode cX12_sign 50 = .ok (.goto (-30), 3) := by decide +kernel
theorem dX12_sign_53 : decode cX12_sign 53 = .ok (.aload_n 0, 1) := by decide +kernel
theorem dX12_sign_54 : decode cX12_sign 54 = .ok (.getfield 251, 3) := by decide +kernel
theorem dX12_sign_57 : decode cX12_sign 57 = .ok (.ireturn, 1) := by decide +kernel
set_option maxHeartbeats 4000000 in
set_option maxRecDepth 100000 in
/-- X12_sign -/
theorem kX12_sign (l : Launch) (D : va_G) (G : tyG) (h0 : Nat) (x1 : Int32) (z0 : Nat) (z1 : Nat) (z2 : Nat) (z3 : Nat) (z4 : Nat) (z5 : Nat) (z20 : Nat) (z21 : Nat) (z22 : Nat) (z23 : Nat) (z24 : Nat) (z25 : Nat) (z26 : Nat) (z27 : Nat) (z28 : Nat) (z6 : Nat) (z29 : Nat) (z7 : Nat) (z19 : Nat) (z8 : Nat) (z9 : Nat) (z10 : Nat) (z11 : Nat) (z30 : Nat) (z31 : Nat) (z32 : Nat) (z33 : Nat) (z12 : Nat) (z34 : Nat) (z35 : Nat) (z36 : Nat) (z37 : Nat) (z38 : Nat) (z39 : Nat) (z40 : Nat) (z41 : Nat) (z42 : Nat) (z13 : Nat) (z14 : Nat) (z15 : Nat) (z16 : Nat) (z17 : Nat) (z18 : Nat) (z43 : Nat) (sz : Nat) : Met l yX12_sign wsX12_sign ({ frames := 0, cells := 0, slots := 0, locals := 0 }) (va_Pc [.ref h0, .int x1] (wB D G sz [(h0, .inr (12, [.ref z0, .ref z1, .ref z2, .ref z3, .ref z4, .ref z5, .ref z20, .ref z21, .ref z22, .ref z23, .ref z24, .ref z25, .int 0, .ref z26, .ref z27, .ref z28, .int 9, .int 0, .int 0, .ref z6, .ref z29, .ref z7, .int 0, .int 2, .ref z19, .ref z8, .ref z9, .ref z10, .int 0, .ref z11, .int 0, .ref z30, .ref z31, .ref z32, .ref z33, .int 0, .ref z12, .int 0, .int 0, .ref z34, .ref z35, .ref z36, .ref z37, .int 0, .int 0, .int 0, .int 0, .ref z38, .int 0, .ref z39, .ref z40, .ref z41, .ref z42, .int 0, .ref z13, .ref z14, .ref z15, .ref z16, .int 0, .ref z17, .ref z18, .ref z43])), (z7, .inl (G.2.2.1, 100, .inl (fun _ => 0)))])) (va_Qi (fun (r : Int32) (_ : Unit) => r = 4) (fun _ _ => True) (va_A [(h0, .inr (12, [.ref z0, .ref z1, .ref z2, .ref z3, .ref z4, .ref z5, .ref z20, .ref z21, .ref z22, .ref z23, .ref z24, .ref z25, .int 0, .ref z26, .ref z27, .ref z28, .int 9, .int 0, .int 0, .ref z6, .ref z29, .ref z7, .int 0, .int 2, .ref z19, .ref z8, .ref z9, .ref z10, .int 0, .ref z11, .int 0, .ref z30, .ref z31, .ref z32, .ref z33, .int 0, .ref z12, .int 0, .int 0, .ref z34, .ref z35, .ref z36, .ref z37, .int 0, .int 0, .int 0, .int 0, .ref z38, .int 0, .ref z39, .ref z40, .ref z41, .ref z42, .int 0, .ref z13, .ref z14, .ref z15, .ref z16, .int 0, .ref z17, .ref z18, .ref z43])), (z7, .inl (G.2.2.1, 100, .inl (fun _ => 0)))] sz)) 0 0 (va_A [(h0, .inr (12, [.ref z0, .ref z1, .ref z2, .ref z3, .ref z4, .ref z5, .ref z20, .ref z21, .ref z22, .ref z23, .ref z24, .ref z25, .int 0, .ref z26, .ref z27, .ref z28, .int 9, .int 0, .int 0, .ref z6, .ref z29, .ref z7, .int 0, .int 2, .ref z19, .ref z8, .ref z9, .ref z10, .int 0, .ref z11, .int 0, .ref z30, .ref z31, .ref z32, .ref z33, .int 0, .ref z12, .int 0, .int 0, .ref z34, .ref z35, .ref z36, .ref z37, .int 0, .int 0, .int 0, .int 0, .ref z38, .int 0, .ref z39, .ref z40, .ref z41, .ref z42, .int 0, .ref z13, .ref z14, .ref z15, .ref z16, .int 0, .ref z17, .ref z18, .ref z43])), (z7, .inl (G.2.2.1, 100, .inl (fun _ => 0)))] sz) := by
  refine Met.ofW (cc := cX12_sign) (maxL := 3) (ret := (some .int)) (by decide) rfl ?_
  intro p e s m args below meth c s₁ B hml hv
  obtain ⟨rfl, hsz, hP, hK, hD0, hN⟩ := hv
  have hx := B.exec
  have hb := B.bytes
  have hr := B.returns
  have hts := atoms_spec (ws := wsX12_sign) B.pre
  have hown : s.vm.findClass RX12 = some m.cls := findClass_of_methodNamed B.named
  have hlocks := B.notSynchronized
  subst hsz
  have hD := hD0.self (sz := s.heap.size)
  generalize hAe : va_A [(h0, .inr (12, [.ref z0, .ref z1, .ref z2, .ref z3, .ref z4, .ref z5, .ref z20, .ref z21, .ref z22, .ref z23, .ref z24, .ref z25, .int 0, .ref z26, .ref z27, .ref z28, .int 9, .int 0, .int 0, .ref z6, .ref z29, .ref z7, .int 0, .int 2, .ref z19, .ref z8, .ref z9, .ref z10, .int 0, .ref z11, .int 0, .ref z30, .ref z31, .ref z32, .ref z33, .int 0, .ref z12, .int 0, .int 0, .ref z34, .ref z35, .ref z36, .ref z37, .int 0, .int 0, .int 0, .int 0, .ref z38, .int 0, .ref z39, .ref z40, .ref z41, .ref z42, .int 0, .ref z13, .ref z14, .ref z15, .ref z16, .int 0, .ref z17, .ref z18, .ref z43])), (z7, .inl (G.2.2.1, 100, .inl (fun _ => 0)))] s.heap.size = A at hD ⊢
  have hA : ∀ q : Nat, s.heap.size ≤ q → A q := fun q h => by rw [← hAe]; exact Or.inr h
  have hS : va_S A s.heap s.heap [] := va_S.rf
  have hP : va_P D vwCl [(h0, .inr (12, [.ref z0, .ref z1, .ref z2, .ref z3, .ref z4, .ref z5, .ref z20, .ref z21, .ref z22, .ref z23, .ref z24, .ref z25, .int 0, .ref z26, .ref z27, .ref z28, .int 9, .int 0, .int 0, .ref z6, .ref z29, .ref z7, .int 0, .int 2, .ref z19, .ref z8, .ref z9, .ref z10, .int 0, .ref z11, .int 0, .ref z30, .ref z31, .ref z32, .ref z33, .int 0, .ref z12, .int 0, .int 0, .ref z34, .ref z35, .ref z36, .ref z37, .int 0, .int 0, .int 0, .int 0, .ref z38, .int 0, .ref z39, .ref z40, .ref z41, .ref z42, .int 0, .ref z13, .ref z14, .ref z15, .ref z16, .int 0, .ref z17, .ref z18, .ref z43])), (z7, .inl (G.2.2.1, 100, .inl (fun _ => 0)))] s.heap := hP
  have hl := lv_entry ([.ref h0, .int x1]) (n := 3) (Nat.le_of_ble_eq_true rfl)
  rw [lg_entry_eq]
  generalize (lg_sl ([.ref h0, .int x1]) ++ List.replicate (3 - (lg_sl ([.ref h0, .int x1])).length) Slot.unset).toArray = ls at hl ⊢
  have hl : lv_has ls 3 [(0, .ref h0), (1, .int x1)] := hl
  refine lv_aload_n hx hb dX12_sign_0 rfl (lv_at hl 0 rfl) ?_
  refine lv_iconst (v := 0) hx hb dX12_sign_1 (by decide) ?_
  refine va_put (D := D) (ci := 12) (v := .int 0) (ty := (tyX12 38)) (C := RX12) (T := TX12) (N := 62) hx hb hts iX12_sign_X12 tyX12 tyX12_ok nmX12 hown hK hP hD hS 0 rfl rfl 38 (by decide) (hts (.fieldLink RX12 157 "PuppetBridgeModel" "thrown" "I") mX12_sign_w0) (fun _ h9 => h9) rfl (tyX12_ok 38 (by decide)) rfl rfl (Nat.le_of_ble_eq_true rfl) dX12_sign_2 (fun H locs hP hD hS => ?_)
  have hP : va_P D vwCl [(h0, .inr (12, [.ref z0, .ref z1, .ref z2, .ref z3, .ref z4, .ref z5, .ref z20, .ref z21, .ref z22, .ref z23, .ref z24, .ref z25, .int 0, .ref z26, .ref z27, .ref z28, .int 9, .int 0, .int 0, .ref z6, .ref z29, .ref z7, .int 0, .int 2, .ref z19, .ref z8, .ref z9, .ref z10, .int 0, .ref z11, .int 0, .ref z30, .ref z31, .ref z32, .ref z33, .int 0, .ref z12, .int 0, .int 0, .ref z34, .ref z35, .ref z36, .ref z37, .int 0, .int 0, .int 0, .int 0, .ref z38, .int 0, .ref z39, .ref z40, .ref z41, .ref z42, .int 0, .ref z13, .ref z14, .ref z15, .ref z16, .int 0, .ref z17, .ref z18, .ref z43])), (z7, .inl (G.2.2.1, 100, .inl (fun _ => 0)))] H := hP
  have hD : va_D A [(h0, .inr (12, [.ref z0, .ref z1, .ref z2, .ref z3, .ref z4, .ref z5, .ref z20, .ref z21, .ref z22, .ref z23, .ref z24, .ref z25, .int 0, .ref z26, .ref z27, .ref z28, .int 9, .int 0, .int 0, .ref z6, .ref z29, .ref z7, .int 0, .int 2, .ref z19, .ref z8, .ref z9, .ref z10, .int 0, .ref z11, .int 0, .ref z30, .ref z31, .ref z32, .ref z33, .int 0, .ref z12, .int 0, .int 0, .ref z34, .ref z35, .ref z36, .ref z37, .int 0, .int 0, .int 0, .int 0, .ref z38, .int 0, .ref z39, .ref z40, .ref z41, .ref z42, .int 0, .ref z13, .ref z14, .ref z15, .ref z16, .int 0, .ref z17, .ref z18, .ref z43])), (z7, .inl (G.2.2.1, 100, .inl (fun _ => 0)))] := hD
  refine lv_aload_n hx hb dX12_sign_5 rfl (lv_at hl 0 rfl) ?_
  refine va_get (D := D) (ci := 12) (v := .int 0) (C := RX12) (T := TX12) (N := 62) hx hb hts iX12_sign_X12 hown hK hP 0 rfl rfl 22 (by decide) (hts (.fieldLink RX12 251 "PuppetBridgeModel" "typed" "I") mX12_sign_w1) (fun _ h9 => h9) rfl dX12_sign_6 ?_
  refine lv_iconst (v := 4) hx hb dX12_sign_9 (by decide) ?_
  refine lv_iadd hx hb dX12_sign_10 ?_
  refine wk_i 4 (by decide) ?_
  refine lv_bipush (v := 100) hx hb dX12_sign_11 (by decide) ?_
  refine lv_icmp_le (tgt := 18) hx hb dX12_sign_13 (by decide) (fun _ => ?_) (fun h9 => absurd h9 (by decide))
  refine lv_iconst (v := 3) hx hb dX12_sign_18 (by decide) ?_
  refine lv_istore_n (lv' := [(2, .int 3), (0, .ref h0), (1, .int x1)]) hx hb dX12_sign_19 rfl hl (by decide) rfl (fun ls hl => ?_)
  refine lv_iload_n hx hb dX12_sign_20 rfl (lv_at hl 0 rfl) ?_
  refine lv_if_lt (tgt := 53) hx hb dX12_sign_21 (by decide) (fun h9 => absurd h9 (by decide)) (fun _ => ?_)
  refine lv_aload_n hx hb dX12_sign_24 rfl (lv_at hl 1 rfl) ?_
  refine va_get (D := D) (ci := 12) (v := .ref z7) (C := RX12) (T := TX12) (N := 62) hx hb hts iX12_sign_X12 hown hK hP 0 rfl rfl 21 (by decide) (hts (.fieldLink RX12 66 "PuppetBridgeModel" "text" "[B") mX12_sign_w2) (fun _ h9 => h9) rfl dX12_sign_25 ?_
  refine lv_aload_n hx hb dX12_sign_28 rfl (lv_at hl 1 rfl) ?_
  refine lv_dup hx hb dX12_sign_29 rfl ?_
  refine va_get (D := D) (ci := 12) (v := .int 0) (C := RX12) (T := TX12) (N := 62) hx hb hts iX12_sign_X12 hown hK hP 0 rfl rfl 22 (by decide) (hts (.fieldLink RX12 251 "PuppetBridgeModel" "typed" "I") mX12_sign_w1) (fun _ h9 => h9) rfl dX12_sign_30 ?_
  refine lv_dup_x1 hx hb dX12_sign_33 rfl rfl ?_
  refine lv_iconst (v := 1) hx hb dX12_sign_34 (by decide) ?_
  refine lv_iadd hx hb dX12_sign_35 ?_
  refine wk_i 1 (by decide) ?_
  refine va_put (D := D) (ci := 12) (v := .int 1) (ty := (tyX12 22)) (C := RX12) (T := TX12) (N := 62) hx hb hts iX12_sign_X12 tyX12 tyX12_ok nmX12 hown hK hP hD hS 0 rfl rfl 22 (by decide) (hts (.fieldLink RX12 251 "PuppetBridgeModel" "typed" "I") mX12_sign_w1) (fun _ h9 => h9) rfl (tyX12_ok 22 (by decide)) rfl rfl (Nat.le_of_ble_eq_true rfl) dX12_sign_36 (fun H locs hP hD hS => ?_)
  have hP : va_P D vwCl [(h0, .inr (12, [.ref z0, .ref z1, .ref z2, .ref z3, .ref z4, .ref z5, .ref z20, .ref z21, .ref z22, .ref z23, .ref z24, .ref z25, .int 0, .ref z26, .ref z27, .ref z28, .int 9, .int 0, .int 0, .ref z6, .ref z29, .ref z7, .int 1, .int 2, .ref z19, .ref z8, .ref z9, .ref z10, .int 0, .ref z11, .int 0, .ref z30, .ref z31, .ref z32, .ref z33, .int 0, .ref z12, .int 0, .int 0, .ref z34, .ref z35, .ref z36, .ref z37, .int 0, .int 0, .int 0, .int 0, .ref z38, .int 0, .ref z39, .ref z40, .ref z41, .ref z42, .int 0, .ref z13, .ref z14, .ref z15, .ref z16, .int 0, .ref z17, .ref z18, .ref z43])), (z7, .inl (G.2.2.1, 100, .inl (fun _ => 0)))] H := hP
  have hD : va_D A [(h0, .inr (12, [.ref z0, .ref z1, .ref z2, .ref z3, .ref z4, .ref z5, .ref z20, .ref z21, .ref z22, .ref z23, .ref z24, .ref z25, .int 0, .ref z26, .ref z27, .ref z28, .int 9, .int 0, .int 0, .ref z6, .ref z29, .ref z7, .int 1, .int 2, .ref z19, .ref z8, .ref z9, .ref z10, .int 0, .ref z11, .int 0, .ref z30, .ref z31, .ref z32, .ref z33, .int 0, .ref z12, .int 0, .int 0, .ref z34, .ref z35, .ref z36, .ref z37, .int 0, .int 0, .int 0, .int 0, .ref z38, .int 0, .ref z39, .ref z40, .ref z41, .ref z42, .int 0, .ref z13, .ref z14, .ref z15, .ref z16, .int 0, .ref z17, .ref z18, .ref z43])), (z7, .inl (G.2.2.1, 100, .inl (fun _ => 0)))] := hD
  refine lv_iload_n hx hb dX12_sign_39 rfl (lv_at hl 2 rfl) ?_
  refine lv_bipush (v := 8) hx hb dX12_sign_40 (by decide) ?_
  refine lv_iload_n hx hb dX12_sign_42 rfl (lv_at hl 0 rfl) ?_
  refine lv_imul hx hb dX12_sign_43 ?_
  refine wk_i 24 (by decide) ?_
  refine lv_ishr hx hb dX12_sign_44 ?_
  refine lv_topi (fun v1 ev1 => ?_)
  refine lv_i2b hx hb dX12_sign_45 rfl ?_
  refine lv_topi (fun v2 ev2 => ?_)
  refine va_bast hx hb hK hP hD hS 1 2 rfl rfl (wk_in rfl) dX12_sign_46 (fun H locs hP hD hS => ?_)
  have hP : va_P D vwCl [(h0, .inr (12, [.ref z0, .ref z1, .ref z2, .ref z3, .ref z4, .ref z5, .ref z20, .ref z21, .ref z22, .ref z23, .ref z24, .ref z25, .int 0, .ref z26, .ref z27, .ref z28, .int 9, .int 0, .int 0, .ref z6, .ref z29, .ref z7, .int 1, .int 2, .ref z19, .ref z8, .ref z9, .ref z10, .int 0, .ref z11, .int 0, .ref z30, .ref z31, .ref z32, .ref z33, .int 0, .ref z12, .int 0, .int 0, .ref z34, .ref z35, .ref z36, .ref z37, .int 0, .int 0, .int 0, .int 0, .ref z38, .int 0, .ref z39, .ref z40, .ref z41, .ref z42, .int 0, .ref z13, .ref z14, .ref z15, .ref z16, .int 0, .ref z17, .ref z18, .ref z43])), (z7, .inl (G.2.2.1, 100, .inl (upd (fun _ => 0) 0 (vp_nar .byte v2))))] H := hP
  have hD : va_D A [(h0, .inr (12, [.ref z0, .ref z1, .ref z2, .ref z3, .ref z4, .ref z5, .ref z20, .ref z21, .ref z22, .ref z23, .ref z24, .ref z25, .int 0, .ref z26, .ref z27, .ref z28, .int 9, .int 0, .int 0, .ref z6, .ref z29, .ref z7, .int 1, .int 2, .ref z19, .ref z8, .ref z9, .ref z10, .int 0, .ref z11, .int 0, .ref z30, .ref z31, .ref z32, .ref z33, .int 0, .ref z12, .int 0, .int 0, .ref z34, .ref z35, .ref z36, .ref z37, .int 0, .int 0, .int 0, .int 0, .ref z38, .int 0, .ref z39, .ref z40, .ref z41, .ref z42, .int 0, .ref z13, .ref z14, .ref z15, .ref z16, .int 0, .ref z17, .ref z18, .ref z43])), (z7, .inl (G.2.2.1, 100, .inl (upd (fun _ => 0) 0 (vp_nar .byte v2))))] := hD
  refine lv_iinc (v := 2) (lv' := [(2, .int 2), (0, .ref h0), (1, .int x1)]) hx hb dX12_sign_47 hl (k := 0) rfl (by decide) (by decide) rfl (fun ls hl => ?_)
  refine lv_goto (tgt := 20) hx hb dX12_sign_50 (by decide) ?_
  refine lv_iload_n hx hb dX12_sign_20 rfl (lv_at hl 0 rfl) ?_
  refine lv_if_lt (tgt := 53) hx hb dX12_sign_21 (by decide) (fun h9 => absurd h9 (by decide)) (fun _ => ?_)
  refine lv_aload_n hx hb dX12_sign_24 rfl (lv_at hl 1 rfl) ?_
  refine va_get (D := D) (ci := 12) (v := .ref z7) (C := RX12) (T := TX12) (N := 62) hx hb hts iX12_sign_X12 hown hK hP 0 rfl rfl 21 (by decide) (hts (.fieldLink RX12 66 "PuppetBridgeModel" "text" "[B") mX12_sign_w2) (fun _ h9 => h9) rfl dX12_sign_25 ?_
  refine lv_aload_n hx hb dX12_sign_28 rfl (lv_at hl 1 rfl) ?_
  refine lv_dup hx hb dX12_sign_29 rfl ?_
  refine va_get (D := D) (ci := 12) (v := .int 1) (C := RX12) (T := TX12) (N := 62) hx hb hts iX12_sign_X12 hown hK hP 0 rfl rfl 22 (by decide) (hts (.fieldLink RX12 251 "PuppetBridgeModel" "typed" "I") mX12_sign_w1) (fun _ h9 => h9) rfl dX12_sign_30 ?_
  refine lv_dup_x1 hx hb dX12_sign_33 rfl rfl ?_
  refine lv_iconst (v := 1) hx hb dX12_sign_34 (by decide) ?_
  refine lv_iadd hx hb dX12_sign_35 ?_
  refine wk_i 2 (by decide) ?_
  refine va_put (D := D) (ci := 12) (v := .int 2) (ty := (tyX12 22)) (C := RX12) (T := TX12) (N := 62) hx hb hts iX12_sign_X12 tyX12 tyX12_ok nmX12 hown hK hP hD hS 0 rfl rfl 22 (by decide) (hts (.fieldLink RX12 251 "PuppetBridgeModel" "typed" "I") mX12_sign_w1) (fun _ h9 => h9) rfl (tyX12_ok 22 (by decide)) rfl rfl (Nat.le_of_ble_eq_true rfl) dX12_sign_36 (fun H locs hP hD hS => ?_)
  have hP : va_P D vwCl [(h0, .inr (12, [.ref z0, .ref z1, .ref z2, .ref z3, .ref z4, .ref z5, .ref z20, .ref z21, .ref z22, .ref z23, .ref z24, .ref z25, .int 0, .ref z26, .ref z27, .ref z28, .int 9, .int 0, .int 0, .ref z6, .ref z29, .ref z7, .int 2, .int 2, .ref z19, .ref z8, .ref z9, .ref z10, .int 0, .ref z11, .int 0, .ref z30, .ref z31, .ref z32, .ref z33, .int 0, .ref z12, .int 0, .int 0, .ref z34, .ref z35, .ref z36, .ref z37, .int 0, .int 0, .int 0, .int 0, .ref z38, .int 0, .ref z39, .ref z40, .ref z41, .ref z42, .int 0, .ref z13, .ref z14, .ref z15, .ref z16, .int 0, .ref z17, .ref z18, .ref z43])), (z7, .inl (G.2.2.1, 100, .inl (upd (fun _ => 0) 0 (vp_nar .byte v2))))] H := hP
  have hD : va_D A [(h0, .inr (12, [.ref z0, .ref z1, .ref z2, .ref z3, .ref z4, .ref z5, .ref z20, .ref z21, .ref z22, .ref z23, .ref z24, .ref z25, .int 0, .ref z26, .ref z27, .ref z28, .int 9, .int 0, .int 0, .ref z6, .ref z29, .ref z7, .int 2, .int 2, .ref z19, .ref z8, .ref z9, .ref z10, .int 0, .ref z11, .int 0, .ref z30, .ref z31, .ref z32, .ref z33, .int 0, .ref z12, .int 0, .int 0, .ref z34, .ref z35, .ref z36, .ref z37, .int 0, .int 0, .int 0, .int 0, .ref z38, .int 0, .ref z39, .ref z40, .ref z41, .ref z42, .int 0, .ref z13, .ref z14, .ref z15, .ref z16, .int 0, .ref z17, .ref z18, .ref z43])), (z7, .inl (G.2.2.1, 100, .inl (upd (fun _ => 0) 0 (vp_nar .byte v2))))] := hD
  refine lv_iload_n hx hb dX12_sign_39 rfl (lv_at hl 2 rfl) ?_
  refine lv_bipush (v := 8) hx hb dX12_sign_40 (by decide) ?_
  refine lv_iload_n hx hb dX12_sign_42 rfl (lv_at hl 0 rfl) ?_
  refine lv_imul hx hb dX12_sign_43 ?_
  refine wk_i 16 (by decide) ?_
  refine lv_ishr hx hb dX12_sign_44 ?_
  refine lv_topi (fun v3 ev3 => ?_)
  refine lv_i2b hx hb dX12_sign_45 rfl ?_
  refine lv_topi (fun v4 ev4 => ?_)
  refine va_bast hx hb hK hP hD hS 1 2 rfl rfl (wk_in rfl) dX12_sign_46 (fun H locs hP hD hS => ?_)
  have hP : va_P D vwCl [(h0, .inr (12, [.ref z0, .ref z1, .ref z2, .ref z3, .ref z4, .ref z5, .ref z20, .ref z21, .ref z22, .ref z23, .ref z24, .ref z25, .int 0, .ref z26, .ref z27, .ref z28, .int 9, .int 0, .int 0, .ref z6, .ref z29, .ref z7, .int 2, .int 2, .ref z19, .ref z8, .ref z9, .ref z10, .int 0, .ref z11, .int 0, .ref z30, .ref z31, .ref z32, .ref z33, .int 0, .ref z12, .int 0, .int 0, .ref z34, .ref z35, .ref z36, .ref z37, .int 0, .int 0, .int 0, .int 0, .ref z38, .int 0, .ref z39, .ref z40, .ref z41, .ref z42, .int 0, .ref z13, .ref z14, .ref z15, .ref z16, .int 0, .ref z17, .ref z18, .ref z43])), (z7, .inl (G.2.2.1, 100, .inl (upd (upd (fun _ => 0) 0 (vp_nar .byte v2)) 1 (vp_nar .byte v4))))] H := hP
  have hD : va_D A [(h0, .inr (12, [.ref z0, .ref z1, .ref z2, .ref z3, .ref z4, .ref z5, .ref z20, .ref z21, .ref z22, .ref z23, .ref z24, .ref z25, .int 0, .ref z26, .ref z27, .ref z28, .int 9, .int 0, .int 0, .ref z6, .ref z29, .ref z7, .int 2, .int 2, .ref z19, .ref z8, .ref z9, .ref z10, .int 0, .ref z11, .int 0, .ref z30, .ref z31, .ref z32, .ref z33, .int 0, .ref z12, .int 0, .int 0, .ref z34, .ref z35, .ref z36, .ref z37, .int 0, .int 0, .int 0, .int 0, .ref z38, .int 0, .ref z39, .ref z40, .ref z41, .ref z42, .int 0, .ref z13, .ref z14, .ref z15, .ref z16, .int 0, .ref z17, .ref z18, .ref z43])), (z7, .inl (G.2.2.1, 100, .inl (upd (upd (fun _ => 0) 0 (vp_nar .byte v2)) 1 (vp_nar .byte v4))))] := hD
  refine lv_iinc (v := 1) (lv' := [(2, .int 1), (0, .ref h0), (1, .int x1)]) hx hb dX12_sign_47 hl (k := 0) rfl (by decide) (by decide) rfl (fun ls hl => ?_)
  refine lv_goto (tgt := 20) hx hb dX12_sign_50 (by decide) ?_
  refine lv_iload_n hx hb dX12_sign_20 rfl (lv_at hl 0 rfl) ?_
  refine lv_if_lt (tgt := 53) hx hb dX12_sign_21 (by decide) (fun h9 => absurd h9 (by decide)) (fun _ => ?_)
  refine lv_aload_n hx hb dX12_sign_24 rfl (lv_at hl 1 rfl) ?_
  refine va_get (D := D) (ci := 12) (v := .ref z7) (C := RX12) (T := TX12) (N := 62) hx hb hts iX12_sign_X12 hown hK hP 0 rfl rfl 21 (by decide) (hts (.fieldLink RX12 66 "PuppetBridgeModel" "text" "[B") mX12_sign_w2) (fun _ h9 => h9) rfl dX12_sign_25 ?_
  refine lv_aload_n hx hb dX12_sign_28 rfl (lv_at hl 1 rfl) ?_
  refine lv_dup hx hb dX12_sign_29 rfl ?_
  refine va_get (D := D) (ci := 12) (v := .int 2) (C := RX12) (T := TX12) (N := 62) hx hb hts iX12_sign_X12 hown hK hP 0 rfl rfl 22 (by decide) (hts (.fieldLink RX12 251 "PuppetBridgeModel" "typed" "I") mX12_sign_w1) (fun _ h9 => h9) rfl dX12_sign_30 ?_
  refine lv_dup_x1 hx hb dX12_sign_33 rfl rfl ?_
  refine lv_iconst (v := 1) hx hb dX12_sign_34 (by decide) ?_
  refine lv_iadd hx hb dX12_sign_35 ?_
  refine wk_i 3 (by decide) ?_
  refine va_put (D := D) (ci := 12) (v := .int 3) (ty := (tyX12 22)) (C := RX12) (T := TX12) (N := 62) hx hb hts iX12_sign_X12 tyX12 tyX12_ok nmX12 hown hK hP hD hS 0 rfl rfl 22 (by decide) (hts (.fieldLink RX12 251 "PuppetBridgeModel" "typed" "I") mX12_sign_w1) (fun _ h9 => h9) rfl (tyX12_ok 22 (by decide)) rfl rfl (Nat.le_of_ble_eq_true rfl) dX12_sign_36 (fun H locs hP hD hS => ?_)
  have hP : va_P D vwCl [(h0, .inr (12, [.ref z0, .ref z1, .ref z2, .ref z3, .ref z4, .ref z5, .ref z20, .ref z21, .ref z22, .ref z23, .ref z24, .ref z25, .int 0, .ref z26, .ref z27, .ref z28, .int 9, .int 0, .int 0, .ref z6, .ref z29, .ref z7, .int 3, .int 2, .ref z19, .ref z8, .ref z9, .ref z10, .int 0, .ref z11, .int 0, .ref z30, .ref z31, .ref z32, .ref z33, .int 0, .ref z12, .int 0, .int 0, .ref z34, .ref z35, .ref z36, .ref z37, .int 0, .int 0, .int 0, .int 0, .ref z38, .int 0, .ref z39, .ref z40, .ref z41, .ref z42, .int 0, .ref z13, .ref z14, .ref z15, .ref z16, .int 0, .ref z17, .ref z18, .ref z43])), (z7, .inl (G.2.2.1, 100, .inl (upd (upd (fun _ => 0) 0 (vp_nar .byte v2)) 1 (vp_nar .byte v4))))] H := hP
  have hD : va_D A [(h0, .inr (12, [.ref z0, .ref z1, .ref z2, .ref z3, .ref z4, .ref z5, .ref z20, .ref z21, .ref z22, .ref z23, .ref z24, .ref z25, .int 0, .ref z26, .ref z27, .ref z28, .int 9, .int 0, .int 0, .ref z6, .ref z29, .ref z7, .int 3, .int 2, .ref z19, .ref z8, .ref z9, .ref z10, .int 0, .ref z11, .int 0, .ref z30, .ref z31, .ref z32, .ref z33, .int 0, .ref z12, .int 0, .int 0, .ref z34, .ref z35, .ref z36, .ref z37, .int 0, .int 0, .int 0, .int 0, .ref z38, .int 0, .ref z39, .ref z40, .ref z41, .ref z42, .int 0, .ref z13, .ref z14, .ref z15, .ref z16, .int 0, .ref z17, .ref z18, .ref z43])), (z7, .inl (G.2.2.1, 100, .inl (upd (upd (fun _ => 0) 0 (vp_nar .byte v2)) 1 (vp_nar .byte v4))))] := hD
  refine lv_iload_n hx hb dX12_sign_39 rfl (lv_at hl 2 rfl) ?_
  refine lv_bipush (v := 8) hx hb dX12_sign_40 (by decide) ?_
  refine lv_iload_n hx hb dX12_sign_42 rfl (lv_at hl 0 rfl) ?_
  refine lv_imul hx hb dX12_sign_43 ?_
  refine wk_i 8 (by decide) ?_
  refine lv_ishr hx hb dX12_sign_44 ?_
  refine lv_topi (fun v5 ev5 => ?_)
  refine lv_i2b hx hb dX12_sign_45 rfl ?_
  refine lv_topi (fun v6 ev6 => ?_)
  refine va_bast hx hb hK hP hD hS 1 2 rfl rfl (wk_in rfl) dX12_sign_46 (fun H locs hP hD hS => ?_)
  have hP : va_P D vwCl [(h0, .inr (12, [.ref z0, .ref z1, .ref z2, .ref z3, .ref z4, .ref z5, .ref z20, .ref z21, .ref z22, .ref z23, .ref z24, .ref z25, .int 0, .ref z26, .ref z27, .ref z28, .int 9, .int 0, .int 0, .ref z6, .ref z29, .ref z7, .int 3, .int 2, .ref z19, .ref z8, .ref z9, .ref z10, .int 0, .ref z11, .int 0, .ref z30, .ref z31, .ref z32, .ref z33, .int 0, .ref z12, .int 0, .int 0, .ref z34, .ref z35, .ref z36, .ref z37, .int 0, .int 0, .int 0, .int 0, .ref z38, .int 0, .ref z39, .ref z40, .ref z41, .ref z42, .int 0, .ref z13, .ref z14, .ref z15, .ref z16, .int 0, .ref z17, .ref z18, .ref z43])), (z7, .inl (G.2.2.1, 100, .inl (upd (upd (upd (fun _ => 0) 0 (vp_nar .byte v2)) 1 (vp_nar .byte v4)) 2 (vp_nar .byte v6))))] H := hP
  have hD : va_D A [(h0, .inr (12, [.ref z0, .ref z1, .ref z2, .ref z3, .ref z4, .ref z5, .ref z20, .ref z21, .ref z22, .ref z23, .ref z24, .ref z25, .int 0, .ref z26, .ref z27, .ref z28, .int 9, .int 0, .int 0, .ref z6, .ref z29, .ref z7, .int 3, .int 2, .ref z19, .ref z8, .ref z9, .ref z10, .int 0, .ref z11, .int 0, .ref z30, .ref z31, .ref z32, .ref z33, .int 0, .ref z12, .int 0, .int 0, .ref z34, .ref z35, .ref z36, .ref z37, .int 0, .int 0, .int 0, .int 0, .ref z38, .int 0, .ref z39, .ref z40, .ref z41, .ref z42, .int 0, .ref z13, .ref z14, .ref z15, .ref z16, .int 0, .ref z17, .ref z18, .ref z43])), (z7, .inl (G.2.2.1, 100, .inl (upd (upd (upd (fun _ => 0) 0 (vp_nar .byte v2)) 1 (vp_nar .byte v4)) 2 (vp_nar .byte v6))))] := hD
  refine lv_iinc (v := 0) (lv' := [(2, .int 0), (0, .ref h0), (1, .int x1)]) hx hb dX12_sign_47 hl (k := 0) rfl (by decide) (by decide) rfl (fun ls hl => ?_)
  refine lv_goto (tgt := 20) hx hb dX12_sign_50 (by decide) ?_
  refine lv_iload_n hx hb dX12_sign_20 rfl (lv_at hl 0 rfl) ?_
  refine lv_if_lt (tgt := 53) hx hb dX12_sign_21 (by decide) (fun h9 => absurd h9 (by decide)) (fun _ => ?_)
  refine lv_aload_n hx hb dX12_sign_24 rfl (lv_at hl 1 rfl) ?_
  refine va_get (D := D) (ci := 12) (v := .ref z7) (C := RX12) (T := TX12) (N := 62) hx hb hts iX12_sign_X12 hown hK hP 0 rfl rfl 21 (by decide) (hts (.fieldLink RX12 66 "PuppetBridgeModel" "text" "[B") mX12_sign_w2) (fun _ h9 => h9) rfl dX12_sign_25 ?_
  refine lv_aload_n hx hb dX12_sign_28 rfl (lv_at hl 1 rfl) ?_
  refine lv_dup hx hb dX12_sign_29 rfl ?_
  refine va_get (D := D) (ci := 12) (v := .int 3) (C := RX12) (T := TX12) (N := 62) hx hb hts iX12_sign_X12 hown hK hP 0 rfl rfl 22 (by decide) (hts (.fieldLink RX12 251 "PuppetBridgeModel" "typed" "I") mX12_sign_w1) (fun _ h9 => h9) rfl dX12_sign_30 ?_
  refine lv_dup_x1 hx hb dX12_sign_33 rfl rfl ?_
  refine lv_iconst (v := 1) hx hb dX12_sign_34 (by decide) ?_
  refine lv_iadd hx hb dX12_sign_35 ?_
  refine wk_i 4 (by decide) ?_
  refine va_put (D := D) (ci := 12) (v := .int 4) (ty := (tyX12 22)) (C := RX12) (T := TX12) (N := 62) hx hb hts iX12_sign_X12 tyX12 tyX12_ok nmX12 hown hK hP hD hS 0 rfl rfl 22 (by decide) (hts (.fieldLink RX12 251 "PuppetBridgeModel" "typed" "I") mX12_sign_w1) (fun _ h9 => h9) rfl (tyX12_ok 22 (by decide)) rfl rfl (Nat.le_of_ble_eq_true rfl) dX12_sign_36 (fun H locs hP hD hS => ?_)
  have hP : va_P D vwCl [(h0, .inr (12, [.ref z0, .ref z1, .ref z2, .ref z3, .ref z4, .ref z5, .ref z20, .ref z21, .ref z22, .ref z23, .ref z24, .ref z25, .int 0, .ref z26, .ref z27, .ref z28, .int 9, .int 0, .int 0, .ref z6, .ref z29, .ref z7, .int 4, .int 2, .ref z19, .ref z8, .ref z9, .ref z10, .int 0, .ref z11, .int 0, .ref z30, .ref z31, .ref z32, .ref z33, .int 0, .ref z12, .int 0, .int 0, .ref z34, .ref z35, .ref z36, .ref z37, .int 0, .int 0, .int 0, .int 0, .ref z38, .int 0, .ref z39, .ref z40, .ref z41, .ref z42, .int 0, .ref z13, .ref z14, .ref z15, .ref z16, .int 0, .ref z17, .ref z18, .ref z43])), (z7, .inl (G.2.2.1, 100, .inl (upd (upd (upd (fun _ => 0) 0 (vp_nar .byte v2)) 1 (vp_nar .byte v4)) 2 (vp_nar .byte v6))))] H := hP
  have hD : va_D A [(h0, .inr (12, [.ref z0, .ref z1, .ref z2, .ref z3, .ref z4, .ref z5, .ref z20, .ref z21, .ref z22, .ref z23, .ref z24, .ref z25, .int 0, .ref z26, .ref z27, .ref z28, .int 9, .int 0, .int 0, .ref z6, .ref z29, .ref z7, .int 4, .int 2, .ref z19, .ref z8, .ref z9, .ref z10, .int 0, .ref z11, .int 0, .ref z30, .ref z31, .ref z32, .ref z33, .int 0, .ref z12, .int 0, .int 0, .ref z34, .ref z35, .ref z36, .ref z37, .int 0, .int 0, .int 0, .int 0, .ref z38, .int 0, .ref z39, .ref z40, .ref z41, .ref z42, .int 0, .ref z13, .ref z14, .ref z15, .ref z16, .int 0, .ref z17, .ref z18, .ref z43])), (z7, .inl (G.2.2.1, 100, .inl (upd (upd (upd (fun _ => 0) 0 (vp_nar .byte v2)) 1 (vp_nar .byte v4)) 2 (vp_nar .byte v6))))] := hD
  refine lv_iload_n hx hb dX12_sign_39 rfl (lv_at hl 2 rfl) ?_
  refine lv_bipush (v := 8) hx hb dX12_sign_40 (by decide) ?_
  refine lv_iload_n hx hb dX12_sign_42 rfl (lv_at hl 0 rfl) ?_
  refine lv_imul hx hb dX12_sign_43 ?_
  refine wk_i 0 (by decide) ?_
  refine lv_ishr hx hb dX12_sign_44 ?_
  refine lv_topi (fun v7 ev7 => ?_)
  refine lv_i2b hx hb dX12_sign_45 rfl ?_
  refine lv_topi (fun v8 ev8 => ?_)
  refine va_bast hx hb hK hP hD hS 1 2 rfl rfl (wk_in rfl) dX12_sign_46 (fun H locs hP hD hS => ?_)
  have hP : va_P D vwCl [(h0, .inr (12, [.ref z0, .ref z1, .ref z2, .ref z3, .ref z4, .ref z5, .ref z20, .ref z21, .ref z22, .ref z23, .ref z24, .ref z25, .int 0, .ref z26, .ref z27, .ref z28, .int 9, .int 0, .int 0, .ref z6, .ref z29, .ref z7, .int 4, .int 2, .ref z19, .ref z8, .ref z9, .ref z10, .int 0, .ref z11, .int 0, .ref z30, .ref z31, .ref z32, .ref z33, .int 0, .ref z12, .int 0, .int 0, .ref z34, .ref z35, .ref z36, .ref z37, .int 0, .int 0, .int 0, .int 0, .ref z38, .int 0, .ref z39, .ref z40, .ref z41, .ref z42, .int 0, .ref z13, .ref z14, .ref z15, .ref z16, .int 0, .ref z17, .ref z18, .ref z43])), (z7, .inl (G.2.2.1, 100, .inl (upd (upd (upd (upd (fun _ => 0) 0 (vp_nar .byte v2)) 1 (vp_nar .byte v4)) 2 (vp_nar .byte v6)) 3 (vp_nar .byte v8))))] H := hP
  have hD : va_D A [(h0, .inr (12, [.ref z0, .ref z1, .ref z2, .ref z3, .ref z4, .ref z5, .ref z20, .ref z21, .ref z22, .ref z23, .ref z24, .ref z25, .int 0, .ref z26, .ref z27, .ref z28, .int 9, .int 0, .int 0, .ref z6, .ref z29, .ref z7, .int 4, .int 2, .ref z19, .ref z8, .ref z9, .ref z10, .int 0, .ref z11, .int 0, .ref z30, .ref z31, .ref z32, .ref z33, .int 0, .ref z12, .int 0, .int 0, .ref z34, .ref z35, .ref z36, .ref z37, .int 0, .int 0, .int 0, .int 0, .ref z38, .int 0, .ref z39, .ref z40, .ref z41, .ref z42, .int 0, .ref z13, .ref z14, .ref z15, .ref z16, .int 0, .ref z17, .ref z18, .ref z43])), (z7, .inl (G.2.2.1, 100, .inl (upd (upd (upd (upd (fun _ => 0) 0 (vp_nar .byte v2)) 1 (vp_nar .byte v4)) 2 (vp_nar .byte v6)) 3 (vp_nar .byte v8))))] := hD
  refine lv_iinc (v := (-1)) (lv' := [(2, .int (-1)), (0, .ref h0), (1, .int x1)]) hx hb dX12_sign_47 hl (k := 0) rfl (by decide) (by decide) rfl (fun ls hl => ?_)
  refine lv_goto (tgt := 20) hx hb dX12_sign_50 (by decide) ?_
  refine lv_iload_n hx hb dX12_sign_20 rfl (lv_at hl 0 rfl) ?_
  refine lv_if_lt (tgt := 53) hx hb dX12_sign_21 (by decide) (fun _ => ?_) (fun h9 => absurd h9 (by decide))
  refine lv_aload_n hx hb dX12_sign_53 rfl (lv_at hl 1 rfl) ?_
  refine va_get (D := D) (ci := 12) (v := .int 4) (C := RX12) (T := TX12) (N := 62) hx hb hts iX12_sign_X12 hown hK hP 0 rfl rfl 22 (by decide) (hts (.fieldLink RX12 251 "PuppetBridgeModel" "typed" "I") mX12_sign_w1) (fun _ h9 => h9) rfl dX12_sign_54 ?_
  exact W.iret (v := 4) hx hb hr (fun t ht hW => ⟨⟨4, (), rfl, rfl, trivial⟩, hS.F ht⟩) hS.2.2 dX12_sign_57

theorem mX12_isNothing_w0 : Cond.fieldLink RX12 318 "PuppetBridgeModel" "letters" "I" ∈ wsX12_isNothing := by decide +kernel
theorem iX12_isNothing_X12 : ∀ w ∈ wsX120, w ∈ wsX12_isNothing := fun _ h => List.mem_cons_of_mem _ (List.mem_append_right _ h)
theorem dX12_isNothing_0 : decode cX12_isNothing 0 = .ok (.iconst 0, 1) := by decide +kernel
theorem dX12_isNothing_1 : decode cX12_isNothing 1 = .ok (.istore_n 1, 1) := by decide +kernel
theorem dX12_isNothing_2 : decode cX12_isNothing 2 = .ok (.iload_n 1, 1) := by decide +kernel
theorem dX12_isNothing_3 : decode cX12_isNothing 3 = .ok (.aload_n 0, 1) := by decide +kernel
theorem dX12_isNothing_4 : decode cX12_isNothing 4 = .ok (.getfield 318, 3) := by decide +kernel
theorem dX12_isNothing_7 : decode cX12_isNothing 7 = .ok (.if_icmp .ge 260, 3) := by decide +kernel
theorem dX12_isNothing_267 : decode cX12_isNothing 267 = .ok (.aload_n 0, 1) := by decide +kernel
theorem dX12_isNothing_268 : decode cX12_isNothing 268 = .ok (.getfield 318, 3) := by decide +kernel
theorem dX12_isNothing_271 : decode cX12_isNothing 271 = .ok (.ifCond .ne 7, 3) := by decide +kernel
theorem dX12_isNothing_274 : decode cX12_isNothing 274 = .ok (.iconst 1, 1) := by decide +kernel
theorem dX12_isNothing_275 : decode cX12_isNothing 275 = .ok (.goto 4, 3) := by decide +kernel
theorem dX12_isNothing_279 : decode cX12_isNothing 279 = .ok (.ireturn, 1) := by decide +kernel
set_option maxHeartbeats 4000000 in
set_option maxRecDepth 100000 in
/-- X12_isNothing -/
theorem kX12_isNothing (l : Launch) (D : va_G) (G : tyG) (h0 : Nat) (z0 : Nat) (z1 : Nat) (z2 : Nat) (z3 : Nat) (z4 : Nat) (z5 : Nat) (z20 : Nat) (z21 : Nat) (z22 : Nat) (z23 : Nat) (z24 : Nat) (z25 : Nat) (z26 : Nat) (z27 : Nat) (z28 : Nat) (z6 : Nat) (z29 : Nat) (z7 : Nat) (z19 : Nat) (z8 : Nat) (z9 : Nat) (z10 : Nat) (z11 : Nat) (z30 : Nat) (z31 : Nat) (z32 : Nat) (z33 : Nat) (z12 : Nat) (z34 : Nat) (z35 : Nat) (z36 : Nat) (z37 : Nat) (z38 : Nat) (z39 : Nat) (z40 : Nat) (z41 : Nat) (z42 : Nat) (z13 : Nat) (z14 : Nat) (z15 : Nat) (z16 : Nat) (z17 : Nat) (z18 : Nat) (z43 : Nat) (sz : Nat) : Met l yX12_isNothing wsX12_isNothing ({ frames := 0, cells := 0, slots := 0, locals := 0 }) (va_Pc [.ref h0] (wB D G sz [(h0, .inr (12, [.ref z0, .ref z1, .ref z2, .ref z3, .ref z4, .ref z5, .ref z20, .ref z21, .ref z22, .ref z23, .ref z24, .ref z25, .int 0, .ref z26, .ref z27, .ref z28, .int 9, .int 0, .int 0, .ref z6, .ref z29, .ref z7, .int 0, .int 2, .ref z19, .ref z8, .ref z9, .ref z10, .int 0, .ref z11, .int 0, .ref z30, .ref z31, .ref z32, .ref z33, .int 0, .ref z12, .int 0, .int 0, .ref z34, .ref z35, .ref z36, .ref z37, .int 0, .int 0, .int 0, .int 0, .ref z38, .int 0, .ref z39, .ref z40, .ref z41, .ref z42, .int 0, .ref z13, .ref z14, .ref z15, .ref z16, .int 0, .ref z17, .ref z18, .ref z43]))])) (va_Qi (fun (r : Int32) (_ : Unit) => r = 1) (fun _ _ => True) (va_A [(h0, .inr (12, [.ref z0, .ref z1, .ref z2, .ref z3, .ref z4, .ref z5, .ref z20, .ref z21, .ref z22, .ref z23, .ref z24, .ref z25, .int 0, .ref z26, .ref z27, .ref z28, .int 9, .int 0, .int 0, .ref z6, .ref z29, .ref z7, .int 0, .int 2, .ref z19, .ref z8, .ref z9, .ref z10, .int 0, .ref z11, .int 0, .ref z30, .ref z31, .ref z32, .ref z33, .int 0, .ref z12, .int 0, .int 0, .ref z34, .ref z35, .ref z36, .ref z37, .int 0, .int 0, .int 0, .int 0, .ref z38, .int 0, .ref z39, .ref z40, .ref z41, .ref z42, .int 0, .ref z13, .ref z14, .ref z15, .ref z16, .int 0, .ref z17, .ref z18, .ref z43]))] sz)) 0 0 (va_A [(h0, .inr (12, [.ref z0, .ref z1, .ref z2, .ref z3, .ref z4, .ref z5, .ref z20, .ref z21, .ref z22, .ref z23, .ref z24, .ref z25, .int 0, .ref z26, .ref z27, .ref z28, .int 9, .int 0, .int 0, .ref z6, .ref z29, .ref z7, .int 0, .int 2, .ref z19, .ref z8, .ref z9, .ref z10, .int 0, .ref z11, .int 0, .ref z30, .ref z31, .ref z32, .ref z33, .int 0, .ref z12, .int 0, .int 0, .ref z34, .ref z35, .ref z36, .ref z37, .int 0, .int 0, .int 0, .int 0, .ref z38, .int 0, .ref z39, .ref z40, .ref z41, .ref z42, .int 0, .ref z13, .ref z14, .ref z15, .ref z16, .int 0, .ref z17, .ref z18, .ref z43]))] sz) := by
  refine Met.ofW (cc := cX12_isNothing) (maxL := 9) (ret := (some .boolean)) (by decide) rfl ?_
  intro p e s m args below meth c s₁ B hml hv
  obtain ⟨rfl, hsz, hP, hK, hD0, hN⟩ := hv
  have hx := B.exec
  have hb := B.bytes
  have hr := B.returns
  have hts := atoms_spec (ws := wsX12_isNothing) B.pre
  have hown : s.vm.findClass RX12 = some m.cls := findClass_of_methodNamed B.named
  have hlocks := B.notSynchronized
  subst hsz
  have hD := hD0.self (sz := s.heap.size)
  generalize hAe : va_A [(h0, .inr (12, [.ref z0, .ref z1, .ref z2, .ref z3, .ref z4, .ref z5, .ref z20, .ref z21, .ref z22, .ref z23, .ref z24, .ref z25, .int 0, .ref z26, .ref z27, .ref z28, .int 9, .int 0, .int 0, .ref z6, .ref z29, .ref z7, .int 0, .int 2, .ref z19, .ref z8, .ref z9, .ref z10, .int 0, .ref z11, .int 0, .ref z30, .ref z31, .ref z32, .ref z33, .int 0, .ref z12, .int 0, .int 0, .ref z34, .ref z35, .ref z36, .ref z37, .int 0, .int 0, .int 0, .int 0, .ref z38, .int 0, .ref z39, .ref z40, .ref z41, .ref z42, .int 0, .ref z13, .ref z14, .ref z15, .ref z16, .int 0, .ref z17, .ref z18, .ref z43]))] s.heap.size = A at hD ⊢
  have hA : ∀ q : Nat, s.heap.size ≤ q → A q := fun q h => by rw [← hAe]; exact Or.inr h
  have hS : va_S A s.heap s.heap [] := va_S.rf
  have hP : va_P D vwCl [(h0, .inr (12, [.ref z0, .ref z1, .ref z2, .ref z3, .ref z4, .ref z5, .ref z20, .ref z21, .ref z22, .ref z23, .ref z24, .ref z25, .int 0, .ref z26, .ref z27, .ref z28, .int 9, .int 0, .int 0, .ref z6, .ref z29, .ref z7, .int 0, .int 2, .ref z19, .ref z8, .ref z9, .ref z10, .int 0, .ref z11, .int 0, .ref z30, .ref z31, .ref z32, .ref z33, .int 0, .ref z12, .int 0, .int 0, .ref z34, .ref z35, .ref z36, .ref z37, .int 0, .int 0, .int 0, .int 0, .ref z38, .int 0, .ref z39, .ref z40, .ref z41, .ref z42, .int 0, .ref z13, .ref z14, .ref z15, .ref z16, .int 0, .ref z17, .ref z18, .ref z43]))] s.heap := hP
  have hl := lv_entry ([.ref h0]) (n := 9) (Nat.le_of_ble_eq_true rfl)
  rw [lg_entry_eq]
  generalize (lg_sl ([.ref h0]) ++ List.replicate (9 - (lg_sl ([.ref h0])).length) Slot.unset).toArray = ls at hl ⊢
  have hl : lv_has ls 9 [(0, .ref h0)] := hl
  refine lv_iconst (v := 0) hx hb dX12_isNothing_0 (by decide) ?_
  refine lv_istore_n (lv' := [(1, .int 0), (0, .ref h0)]) hx hb dX12_isNothing_1 rfl hl (by decide) rfl (fun ls hl => ?_)
  refine lv_iload_n hx hb dX12_isNothing_2 rfl (lv_at hl 0 rfl) ?_
  refine lv_aload_n hx hb dX12_isNothing_3 rfl (lv_at hl 1 rfl) ?_
  refine va_get (D := D) (ci := 12) (v := .int 0) (C := RX12) (T := TX12) (N := 62) hx hb hts iX12_isNothing_X12 hown hK hP 0 rfl rfl 53 (by decide) (hts (.fieldLink RX12 318 "PuppetBridgeModel" "letters" "I") mX12_isNothing_w0) (fun _ h9 => h9) rfl dX12_isNothing_4 ?_
  refine lv_icmp_ge (tgt := 267) hx hb dX12_isNothing_7 (by decide) (fun _ => ?_) (fun h9 => absurd h9 (by decide))
  refine lv_aload_n hx hb dX12_isNothing_267 rfl (lv_at hl 1 rfl) ?_
  refine va_get (D := D) (ci := 12) (v := .int 0) (C := RX12) (T := TX12) (N := 62) hx hb hts iX12_isNothing_X12 hown hK hP 0 rfl rfl 53 (by decide) (hts (.fieldLink RX12 318 "PuppetBridgeModel" "letters" "I") mX12_isNothing_w0) (fun _ h9 => h9) rfl dX12_isNothing_268 ?_
  refine lv_if_ne (tgt := 278) hx hb dX12_isNothing_271 (by decide) (fun h9 => absurd h9 (by decide)) (fun _ => ?_)
  refine lv_iconst (v := 1) hx hb dX12_isNothing_274 (by decide) ?_
  refine lv_goto (tgt := 279) hx hb dX12_isNothing_275 (by decide) ?_
  exact W.zret (v := 1) hx hb hr rfl (fun t ht hW => ⟨⟨1, (), rfl, rfl, trivial⟩, hS.F ht⟩) hS.2.2 dX12_isNothing_279

theorem mX12_isFree_w0 : Cond.fieldLink RX12 318 "PuppetBridgeModel" "letters" "I" ∈ wsX12_isFree := by decide +kernel
theorem mX12_isFree_w1 : Cond.fieldLink RX12 297 "PuppetBridgeModel" "passMany" "I" ∈ wsX12_isFree := by decide +kernel
theorem iX12_isFree_X12 : ∀ w ∈ wsX120, w ∈ wsX12_isFree := fun _ h => List.mem_cons_of_mem _ (List.mem_append_right _ h)
set_option maxRecDepth 20000 in
theorem ggX12_isFree_X12_isNothing : GoodIn wsX12_isFree wsX12_isNothing := goodIn_r _ [13, 1, 9, 14, 15, 16, 17, 18, 19, 20, 21, 7, 22, 23, 24, 25, 26, 27, 28, 29, 30, 31, 32, 33, 34, 35, 36, 37, 38, 39, 40, 41, 42, 43, 44, 45, 46, 47, 48, 49, 50, 51, 52, 53, 54, 55, 56, 57, 58, 59, 60, 61, 62, 63, 64, 65, 66, 67, 68, 69, 70, 71, 72, 73, 74, 75, 76, 77, 78, 79, 80, 81, 82, 83, 84] (by decide +kernel) (by decide +kernel)
set_option maxRecDepth 20000 in
theorem gX12_isFree_X12_isNothing : GoodIn wsX12_isFree (wsV RX12 327 RX12 yX12_isNothing wsX12_isNothing) := goodIn_app (goodIn_of _ (by decide +kernel)) ggX12_isFree_X12_isNothing
theorem dX12_isFree_0 : decode cX12_isFree 0 = .ok (.aload_n 0, 1) := by decide +kernel
theorem dX12_isFree_1 : decode cX12_isFree 1 = .ok (.iconst 0, 1) := by decide +kernel
theorem dX12_isFree_2 : decode cX12_isFree 2 = .ok (.putfield 318, 3) := by decide +kernel
theorem dX12_isFree_5 : decode cX12_isFree 5 = .ok (.iload_n 1, 1) := by decide +kernel
theorem dX12_isFree_6 : decode cX12_isFree 6 = .ok (.istore 4, 2) := by decide +kernel
theorem dX12_isFree_8 : decode cX12_isFree 8 = .ok (.iload 4, 2) := by decide +kernel
theorem dX12_isFree_10 : decode cX12_isFree 10 = .ok (.aload_n 0, 1) := by decide +kernel
theorem dX12_isFree_11 : decode cX12_isFree 11 = .ok (.getfield 297, 3) := by decide +kernel
theorem dX12_isFree_14 : decode cX12_isFree 14 = .ok (.if_icmp .ge 20, 3) := by decide +kernel
theorem dX12_isFree_34 : decode cX12_isFree 34 = .ok (.iconst 0, 1) := by decide +kernel
theorem dX12_isFree_35 : decode cX12_isFree 35 = .ok (.istore 4, 2) := by decide +kernel
theorem dX12_isFree_37 : decode cX12_isFree 37 = .ok (.iload 4, 2) := by decide +kernel
theorem dX12_isFree_39 : decode cX12_isFree 39 = .ok (.iload_n 3, 1) := by decide +kernel
theorem dX12_isFree_40 : decode cX12_isFree 40 = .ok (.if_icmp .ge 17, 3) := by decide +kernel
theorem dX12_isFree_57 : decode cX12_isFree 57 = .ok (.aload_n 0, 1) := by decide +kernel
theorem dX12_isFree_58 : decode cX12_isFree 58 = .ok (.invokevirtual 327, 3) := by decide +kernel
theorem dX12_isFree_61 : decode cX12_isFree 61 = .ok (.ireturn, 1) := by decide +kernel
set_option maxHeartbeats 4000000 in
set_option maxRecDepth 100000 in
/-- X12_isFree -/
theorem kX12_isFree (l : Launch) (D : va_G) (G : tyG) (h0 : Nat) (z13 : Nat) (z0 : Nat) (z1 : Nat) (z2 : Nat) (z3 : Nat) (z4 : Nat) (z5 : Nat) (z20 : Nat) (z21 : Nat) (z22 : Nat) (z23 : Nat) (z24 : Nat) (z25 : Nat) (z26 : Nat) (z27 : Nat) (z28 : Nat) (z6 : Nat) (z29 : Nat) (z7 : Nat) (z19 : Nat) (z8 : Nat) (z9 : Nat) (z10 : Nat) (z11 : Nat) (z30 : Nat) (z31 : Nat) (z32 : Nat) (z33 : Nat) (z12 : Nat) (z34 : Nat) (z35 : Nat) (z36 : Nat) (z37 : Nat) (z38 : Nat) (z39 : Nat) (z40 : Nat) (z41 : Nat) (z42 : Nat) (z14 : Nat) (z15 : Nat) (z16 : Nat) (z17 : Nat) (z18 : Nat) (z43 : Nat) (sz : Nat) : Met l yX12_isFree wsX12_isFree ({ frames := 1, cells := 0, slots := 0, locals := 28 }) (va_Pc [.ref h0, .int 0, .ref z13, .int 0] (wB D G sz [(h0, .inr (12, [.ref z0, .ref z1, .ref z2, .ref z3, .ref z4, .ref z5, .ref z20, .ref z21, .ref z22, .ref z23, .ref z24, .ref z25, .int 0, .ref z26, .ref z27, .ref z28, .int 9, .int 0, .int 0, .ref z6, .ref z29, .ref z7, .int 0, .int 2, .ref z19, .ref z8, .ref z9, .ref z10, .int 0, .ref z11, .int 0, .ref z30, .ref z31, .ref z32, .ref z33, .int 0, .ref z12, .int 0, .int 0, .ref z34, .ref z35, .ref z36, .ref z37, .int 0, .int 0, .int 0, .int 0, .ref z38, .int 0, .ref z39, .ref z40, .ref z41, .ref z42, .int 0, .ref z13, .ref z14, .ref z15, .ref z16, .int 0, .ref z17, .ref z18, .ref z43]))])) (va_Qi (fun (r : Int32) (_ : Unit) => r = 1) (fun _ _ => True) (va_A [(h0, .inr (12, [.ref z0, .ref z1, .ref z2, .ref z3, .ref z4, .ref z5, .ref z20, .ref z21, .ref z22, .ref z23, .ref z24, .ref z25, .int 0, .ref z26, .ref z27, .ref z28, .int 9, .int 0, .int 0, .ref z6, .ref z29, .ref z7, .int 0, .int 2, .ref z19, .ref z8, .ref z9, .ref z10, .int 0, .ref z11, .int 0, .ref z30, .ref z31, .ref z32, .ref z33, .int 0, .ref z12, .int 0, .int 0, .ref z34, .ref z35, .ref z36, .ref z37, .int 0, .int 0, .int 0, .int 0, .ref z38, .int 0, .ref z39, .ref z40, .ref z41, .ref z42, .int 0, .ref z13, .ref z14, .ref z15, .ref z16, .int 0, .ref z17, .ref z18, .ref z43]))] sz)) 0 0 (va_A [(h0, .inr (12, [.ref z0, .ref z1, .ref z2, .ref z3, .ref z4, .ref z5, .ref z20, .ref z21, .ref z22, .ref z23, .ref z24, .ref z25, .int 0, .ref z26, .ref z27, .ref z28, .int 9, .int 0, .int 0, .ref z6, .ref z29, .ref z7, .int 0, .int 2, .ref z19, .ref z8, .ref z9, .ref z10, .int 0, .ref z11, .int 0, .ref z30, .ref z31, .ref z32, .ref z33, .int 0, .ref z12, .int 0, .int 0, .ref z34, .ref z35, .ref z36, .ref z37, .int 0, .int 0, .int 0, .int 0, .ref z38, .int 0, .ref z39, .ref z40, .ref z41, .ref z42, .int 0, .ref z13, .ref z14, .ref z15, .ref z16, .int 0, .ref z17, .ref z18, .ref z43]))] sz) := by
  refine Met.ofW (cc := cX12_isFree) (maxL := 5) (ret := (some .boolean)) (by decide) rfl ?_
  intro p e s m args below meth c s₁ B hml hv
  obtain ⟨rfl, hsz, hP, hK, hD0, hN⟩ := hv
  have hx := B.exec
  have hb := B.bytes
  have hr := B.returns
  have hts := atoms_spec (ws := wsX12_isFree) B.pre
  have hown : s.vm.findClass RX12 = some m.cls := findClass_of_methodNamed B.named
  have hlocks := B.notSynchronized
  subst hsz
  have hD := hD0.self (sz := s.heap.size)
  generalize hAe : va_A [(h0, .inr (12, [.ref z0, .ref z1, .ref z2, .ref z3, .ref z4, .ref z5, .ref z20, .ref z21, .ref z22, .ref z23, .ref z24, .ref z25, .int 0, .ref z26, .ref z27, .ref z28, .int 9, .int 0, .int 0, .ref z6, .ref z29, .ref z7, .int 0, .int 2, .ref z19, .ref z8, .ref z9, .ref z10, .int 0, .ref z11, .int 0, .ref z30, .ref z31, .ref z32, .ref z33, .int 0, .ref z12, .int 0, .int 0, .ref z34, .ref z35, .ref z36, .ref z37, .int 0, .int 0, .int 0, .int 0, .ref z38, .int 0, .ref z39, .ref z40, .ref z41, .ref z42, .int 0, .ref z13, .ref z14, .ref z15, .ref z16, .int 0, .ref z17, .ref z18, .ref z43]))] s.heap.size = A at hD ⊢
  have hA : ∀ q : Nat, s.heap.size ≤ q → A q := fun q h => by rw [← hAe]; exact Or.inr h
  have hS : va_S A s.heap s.heap [] := va_S.rf
  have hP : va_P D vwCl [(h0, .inr (12, [.ref z0, .ref z1, .ref z2, .ref z3, .ref z4, .ref z5, .ref z20, .ref z21, .ref z22, .ref z23, .ref z24, .ref z25, .int 0, .ref z26, .ref z27, .ref z28, .int 9, .int 0, .int 0, .ref z6, .ref z29, .ref z7, .int 0, .int 2, .ref z19, .ref z8, .ref z9, .ref z10, .int 0, .ref z11, .int 0, .ref z30, .ref z31, .ref z32, .ref z33, .int 0, .ref z12, .int 0, .int 0, .ref z34, .ref z35, .ref z36, .ref z37, .int 0, .int 0, .int 0, .int 0, .ref z38, .int 0, .ref z39, .ref z40, .ref z41, .ref z42, .int 0, .ref z13, .ref z14, .ref z15, .ref z16, .int 0, .ref z17, .ref z18, .ref z43]))] s.heap := hP
  have hl := lv_entry ([.ref h0, .int 0, .ref z13, .int 0]) (n := 5) (Nat.le_of_ble_eq_true rfl)
  rw [lg_entry_eq]
  generalize (lg_sl ([.ref h0, .int 0, .ref z13, .int 0]) ++ List.replicate (5 - (lg_sl ([.ref h0, .int 0, .ref z13, .int 0])).length) Slot.unset).toArray = ls at hl ⊢
  have hl : lv_has ls 5 [(0, .ref h0), (1, .int 0), (2, .ref z13), (3, .int 0)] := hl
  refine lv_aload_n hx hb dX12_isFree_0 rfl (lv_at hl 0 rfl) ?_
  refine lv_iconst (v := 0) hx hb dX12_isFree_1 (by decide) ?_
  refine va_put (D := D) (ci := 12) (v := .int 0) (ty := (tyX12 53)) (C := RX12) (T := TX12) (N := 62) hx hb hts iX12_isFree_X12 tyX12 tyX12_ok nmX12 hown hK hP hD hS 0 rfl rfl 53 (by decide) (hts (.fieldLink RX12 318 "PuppetBridgeModel" "letters" "I") mX12_isFree_w0) (fun _ h9 => h9) rfl (tyX12_ok 53 (by decide)) rfl rfl (Nat.le_of_ble_eq_true rfl) dX12_isFree_2 (fun H locs hP hD hS => ?_)
  have hP : va_P D vwCl [(h0, .inr (12, [.ref z0, .ref z1, .ref z2, .ref z3, .ref z4, .ref z5, .ref z20, .ref z21, .ref z22, .ref z23, .ref z24, .ref z25, .int 0, .ref z26, .ref z27, .ref z28, .int 9, .int 0, .int 0, .ref z6, .ref z29, .ref z7, .int 0, .int 2, .ref z19, .ref z8, .ref z9, .ref z10, .int 0, .ref z11, .int 0, .ref z30, .ref z31, .ref z32, .ref z33, .int 0, .ref z12, .int 0, .int 0, .ref z34, .ref z35, .ref z36, .ref z37, .int 0, .int 0, .int 0, .int 0, .ref z38, .int 0, .ref z39, .ref z40, .ref z41, .ref z42, .int 0, .ref z13, .ref z14, .ref z15, .ref z16, .int 0, .ref z17, .ref z18, .ref z43]))] H := hP
  have hD : va_D A [(h0, .inr (12, [.ref z0, .ref z1, .ref z2, .ref z3, .ref z4, .ref z5, .ref z20, .ref z21, .ref z22, .ref z23, .ref z24, .ref z25, .int 0, .ref z26, .ref z27, .ref z28, .int 9, .int 0, .int 0, .ref z6, .ref z29, .ref z7, .int 0, .int 2, .ref z19, .ref z8, .ref z9, .ref z10, .int 0, .ref z11, .int 0, .ref z30, .ref z31, .ref z32, .ref z33, .int 0, .ref z12, .int 0, .int 0, .ref z34, .ref z35, .ref z36, .ref z37, .int 0, .int 0, .int 0, .int 0, .ref z38, .int 0, .ref z39, .ref z40, .ref z41, .ref z42, .int 0, .ref z13, .ref z14, .ref z15, .ref z16, .int 0, .ref z17, .ref z18, .ref z43]))] := hD
  refine lv_iload_n hx hb dX12_isFree_5 rfl (lv_at hl 1 rfl) ?_
  refine lv_istore (lv' := [(4, .int 0), (0, .ref h0), (1, .int 0), (2, .ref z13), (3, .int 0)]) hx hb dX12_isFree_6 hl (by decide) rfl (fun ls hl => ?_)
  refine lv_iload hx hb dX12_isFree_8 (lv_at hl 0 rfl) ?_
  refine lv_aload_n hx hb dX12_isFree_10 rfl (lv_at hl 1 rfl) ?_
  refine va_get (D := D) (ci := 12) (v := .int 0) (C := RX12) (T := TX12) (N := 62) hx hb hts iX12_isFree_X12 hown hK hP 0 rfl rfl 28 (by decide) (hts (.fieldLink RX12 297 "PuppetBridgeModel" "passMany" "I") mX12_isFree_w1) (fun _ h9 => h9) rfl dX12_isFree_11 ?_
  refine lv_icmp_ge (tgt := 34) hx hb dX12_isFree_14 (by decide) (fun _ => ?_) (fun h9 => absurd h9 (by decide))
  refine lv_iconst (v := 0) hx hb dX12_isFree_34 (by decide) ?_
  refine lv_istore (lv' := [(4, .int 0), (0, .ref h0), (1, .int 0), (2, .ref z13), (3, .int 0)]) hx hb dX12_isFree_35 hl (by decide) rfl (fun ls hl => ?_)
  refine lv_iload hx hb dX12_isFree_37 (lv_at hl 0 rfl) ?_
  refine lv_iload_n hx hb dX12_isFree_39 rfl (lv_at hl 4 rfl) ?_
  refine lv_icmp_ge (tgt := 57) hx hb dX12_isFree_40 (by decide) (fun _ => ?_) (fun h9 => absurd h9 (by decide))
  refine lv_aload_n hx hb dX12_isFree_57 rfl (lv_at hl 1 rfl) ?_
  have hPc := hP.sub (ws' := [(h0, .inr (12, [.ref z0, .ref z1, .ref z2, .ref z3, .ref z4, .ref z5, .ref z20, .ref z21, .ref z22, .ref z23, .ref z24, .ref z25, .int 0, .ref z26, .ref z27, .ref z28, .int 9, .int 0, .int 0, .ref z6, .ref z29, .ref z7, .int 0, .int 2, .ref z19, .ref z8, .ref z9, .ref z10, .int 0, .ref z11, .int 0, .ref z30, .ref z31, .ref z32, .ref z33, .int 0, .ref z12, .int 0, .int 0, .ref z34, .ref z35, .ref z36, .ref z37, .int 0, .int 0, .int 0, .int 0, .ref z38, .int 0, .ref z39, .ref z40, .ref z41, .ref z42, .int 0, .ref z13, .ref z14, .ref z15, .ref z16, .int 0, .ref z17, .ref z18, .ref z43]))]) [0] rfl
  have hDc := hD.sub (ws' := [(h0, .inr (12, [.ref z0, .ref z1, .ref z2, .ref z3, .ref z4, .ref z5, .ref z20, .ref z21, .ref z22, .ref z23, .ref z24, .ref z25, .int 0, .ref z26, .ref z27, .ref z28, .int 9, .int 0, .int 0, .ref z6, .ref z29, .ref z7, .int 0, .int 2, .ref z19, .ref z8, .ref z9, .ref z10, .int 0, .ref z11, .int 0, .ref z30, .ref z31, .ref z32, .ref z33, .int 0, .ref z12, .int 0, .int 0, .ref z34, .ref z35, .ref z36, .ref z37, .int 0, .int 0, .int 0, .int 0, .ref z38, .int 0, .ref z39, .ref z40, .ref z41, .ref z42, .int 0, .ref z13, .ref z14, .ref z15, .ref z16, .int 0, .ref z17, .ref z18, .ref z43]))]) [0] (by decide) rfl
  have hFc := va_free (wc := [(h0, .inr (12, [.ref z0, .ref z1, .ref z2, .ref z3, .ref z4, .ref z5, .ref z20, .ref z21, .ref z22, .ref z23, .ref z24, .ref z25, .int 0, .ref z26, .ref z27, .ref z28, .int 9, .int 0, .int 0, .ref z6, .ref z29, .ref z7, .int 0, .int 2, .ref z19, .ref z8, .ref z9, .ref z10, .int 0, .ref z11, .int 0, .ref z30, .ref z31, .ref z32, .ref z33, .int 0, .ref z12, .int 0, .int 0, .ref z34, .ref z35, .ref z36, .ref z37, .int 0, .int 0, .int 0, .int 0, .ref z38, .int 0, .ref z39, .ref z40, .ref z41, .ref z42, .int 0, .ref z13, .ref z14, .ref z15, .ref z16, .int 0, .ref z17, .ref z18, .ref z43]))]) hD hS hA [0] rfl
  refine va_calli (va_runV (As := []) (rest := []) ⟨hx, hb, hml, hown, hts⟩ (kX12_isNothing l D G h0 z0 z1 z2 z3 z4 z5 z20 z21 z22 z23 z24 z25 z26 z27 z28 z6 z29 z7 z19 z8 z9 z10 z11 z30 z31 z32 z33 z12 z34 z35 z36 z37 z38 z39 z40 z41 z42 z13 z14 z15 z16 z17 z18 z43 H.size) (cwV 0 hts gX12_isFree_X12_isNothing rfl rfl rfl (by decide +kernel) ⟨Nat.le_of_ble_eq_true rfl, Nat.le_of_ble_eq_true rfl⟩) ⟨wB_blind, va_recv hK hPc (ci := 12) (q0 := 0) rfl rfl, wB_pre hPc hK hDc hN⟩ rfl rfl hl.1 rfl (lv_room (Nat.le_of_ble_eq_true rfl)) dX12_isFree_58 ⟨Nat.le_of_ble_eq_true rfl, Nat.le_of_ble_eq_true rfl⟩) hS (fun q _ h => hFc q h) hFc (fun r1 u t H1 locs ht hvm hr1 hB hz1 hk1 hS => ?_)
  obtain ⟨hP, hD⟩ := va_join (wr := []) (w1 := []) hP hD [0] [] rfl rfl (by decide) (by decide) hk1 hFc wP_nil wD_nil
  clear hPc hDc
  generalize H1 = H at hP hS ⊢
  have hP : va_P D vwCl [] H := hP
  have hD : va_D A [] := hD
  subst hr1
  exact W.zret (v := 1) hx hb hr rfl (fun t ht hW => ⟨⟨1, (), rfl, rfl, trivial⟩, hS.F ht⟩) hS.2.2 dX12_isFree_61

theorem mX12_free_w0 : Cond.fieldLink RX12 157 "PuppetBridgeModel" "thrown" "I" ∈ wsX12_free := by decide +kernel
theorem mX12_free_w1 : Cond.fieldLink RX12 130 "PuppetBridgeModel" "remedy" "[I" ∈ wsX12_free := by decide +kernel
theorem iX12_free_X12 : ∀ w ∈ wsX120, w ∈ wsX12_free := fun _ h => List.mem_cons_of_mem _ (List.mem_append_right _ h)
set_option maxRecDepth 20000 in
theorem ggX12_free_X12_isFree : GoodIn wsX12_free wsX12_isFree := goodIn_r _ [7, 8, 9, 10, 11, 12, 13, 6, 14, 15, 16, 17, 18, 19, 20, 21, 22, 23, 24, 25, 26, 27, 28, 29, 30, 31, 32, 33, 34, 35, 36, 37, 38, 39, 40, 41, 42, 43, 44, 45, 46, 47, 48, 49, 50, 51, 52, 53, 54, 55, 56, 57, 58, 59, 60, 61, 62, 63, 64, 65, 66, 67, 68, 69, 70, 71, 72, 73, 74, 75, 76, 77, 78, 79, 80, 81, 82, 83, 84, 85, 86, 87, 88, 89, 90] (by decide +kernel) (by decide +kernel)
set_option maxRecDepth 20000 in
theorem gX12_free_X12_isFree : GoodIn wsX12_free (wsV RX12 331 RX12 yX12_isFree wsX12_isFree) := goodIn_app (goodIn_of _ (by decide +kernel)) ggX12_free_X12_isFree
theorem dX12_free_0 : decode cX12_free 0 = .ok (.aload_n 0, 1) := by decide +kernel
theorem dX12_free_1 : decode cX12_free 1 = .ok (.iconst 0, 1) := by decide +kernel
theorem dX12_free_2 : decode cX12_free 2 = .ok (.putfield 157, 3) := by decide +kernel
theorem dX12_free_5 : decode cX12_free 5 = .ok (.aload_n 0, 1) := by decide +kernel
theorem dX12_free_6 : decode cX12_free 6 = .ok (.iconst 0, 1) := by decide +kernel
theorem dX12_free_7 : decode cX12_free 7 = .ok (.aload_n 0, 1) := by decide +kernel
theorem dX12_free_8 : decode cX12_free 8 = .ok (.getfield 130, 3) := by decide +kernel
theorem dX12_free_11 : decode cX12_free 11 = .ok (.iconst 0, 1) := by decide +kernel
theorem dX12_free_12 : decode cX12_free 12 = .ok (.invokevirtual 331, 3) := by decide +kernel
theorem dX12_free_15 : decode cX12_free 15 = .ok (.ifCond .eq 7, 3) := by decide +kernel
theorem dX12_free_18 : decode cX12_free 18 = .ok (.iconst 1, 1) := by decide +kernel
theorem dX12_free_19 : decode cX12_free 19 = .ok (.goto 4, 3) := by decide +kernel
theorem dX12_free_23 : decode cX12_free 23 = .ok (.ireturn, 1) := by decide +kernel
set_option maxHeartbeats 4000000 in
set_option maxRecDepth 100000 in
/-- X12_free -/
theorem kX12_free (l : Launch) (D : va_G) (G : tyG) (h0 : Nat) (z0 : Nat) (z1 : Nat) (z2 : Nat) (z3 : Nat) (z4 : Nat) (z5 : Nat) (z20 : Nat) (z21 : Nat) (z22 : Nat) (z23 : Nat) (z24 : Nat) (z25 : Nat) (z26 : Nat) (z27 : Nat) (z28 : Nat) (z6 : Nat) (z29 : Nat) (z7 : Nat) (z19 : Nat) (z8 : Nat) (z9 : Nat) (z10 : Nat) (z11 : Nat) (z30 : Nat) (z31 : Nat) (z32 : Nat) (z33 : Nat) (z12 : Nat) (z34 : Nat) (z35 : Nat) (z36 : Nat) (z37 : Nat) (z38 : Nat) (z39 : Nat) (z40 : Nat) (z41 : Nat) (z42 : Nat) (z13 : Nat) (z14 : Nat) (z15 : Nat) (z16 : Nat) (z17 : Nat) (z18 : Nat) (z43 : Nat) (sz : Nat) : Met l yX12_free wsX12_free ({ frames := 2, cells := 0, slots := 0, locals := 52 }) (va_Pc [.ref h0] (wB D G sz [(h0, .inr (12, [.ref z0, .ref z1, .ref z2, .ref z3, .ref z4, .ref z5, .ref z20, .ref z21, .ref z22, .ref z23, .ref z24, .ref z25, .int 0, .ref z26, .ref z27, .ref z28, .int 9, .int 0, .int 0, .ref z6, .ref z29, .ref z7, .int 0, .int 2, .ref z19, .ref z8, .ref z9, .ref z10, .int 0, .ref z11, .int 0, .ref z30, .ref z31, .ref z32, .ref z33, .int 0, .ref z12, .int 0, .int 0, .ref z34, .ref z35, .ref z36, .ref z37, .int 0, .int 0, .int 0, .int 0, .ref z38, .int 0, .ref z39, .ref z40, .ref z41, .ref z42, .int 0, .ref z13, .ref z14, .ref z15, .ref z16, .int 0, .ref z17, .ref z18, .ref z43]))])) (va_Qi (fun (r : Int32) (_ : Unit) => r = 1) (fun _ _ => True) (va_A [(h0, .inr (12, [.ref z0, .ref z1, .ref z2, .ref z3, .ref z4, .ref z5, .ref z20, .ref z21, .ref z22, .ref z23, .ref z24, .ref z25, .int 0, .ref z26, .ref z27, .ref z28, .int 9, .int 0, .int 0, .ref z6, .ref z29, .ref z7, .int 0, .int 2, .ref z19, .ref z8, .ref z9, .ref z10, .int 0, .ref z11, .int 0, .ref z30, .ref z31, .ref z32, .ref z33, .int 0, .ref z12, .int 0, .int 0, .ref z34, .ref z35, .ref z36, .ref z37, .int 0, .int 0, .int 0, .int 0, .ref z38, .int 0, .ref z39, .ref z40, .ref z41, .ref z42, .int 0, .ref z13, .ref z14, .ref z15, .ref z16, .int 0, .ref z17, .ref z18, .ref z43]))] sz)) 0 0 (va_A [(h0, .inr (12, [.ref z0, .ref z1, .ref z2, .ref z3, .ref z4, .ref z5, .ref z20, .ref z21, .ref z22, .ref z23, .ref z24, .ref z25, .int 0, .ref z26, .ref z27, .ref z28, .int 9, .int 0, .int 0, .ref z6, .ref z29, .ref z7, .int 0, .int 2, .ref z19, .ref z8, .ref z9, .ref z10, .int 0, .ref z11, .int 0, .ref z30, .ref z31, .ref z32, .ref z33, .int 0, .ref z12, .int 0, .int 0, .ref z34, .ref z35, .ref z36, .ref z37, .int 0, .int 0, .int 0, .int 0, .ref z38, .int 0, .ref z39, .ref z40, .ref z41, .ref z42, .int 0, .ref z13, .ref z14, .ref z15, .ref z16, .int 0, .ref z17, .ref z18, .ref z43]))] sz) := by
  refine Met.ofW (cc := cX12_free) (maxL := 1) (ret := (some .int)) (by decide) rfl ?_
  intro p e s m args below meth c s₁ B hml hv
  obtain ⟨rfl, hsz, hP, hK, hD0, hN⟩ := hv
  have hx := B.exec
  have hb := B.bytes
  have hr := B.returns
  have hts := atoms_spec (ws := wsX12_free) B.pre
  have hown : s.vm.findClass RX12 = some m.cls := findClass_of_methodNamed B.named
  have hlocks := B.notSynchronized
  subst hsz
  have hD := hD0.self (sz := s.heap.size)
  generalize hAe : va_A [(h0, .inr (12, [.ref z0, .ref z1, .ref z2, .ref z3, .ref z4, .ref z5, .ref z20, .ref z21, .ref z22, .ref z23, .ref z24, .ref z25, .int 0, .ref z26, .ref z27, .ref z28, .int 9, .int 0, .int 0, .ref z6, .ref z29, .ref z7, .int 0, .int 2, .ref z19, .ref z8, .ref z9, .ref z10, .int 0, .ref z11, .int 0, .ref z30, .ref z31, .ref z32, .ref z33, .int 0, .ref z12, .int 0, .int 0, .ref z34, .ref z35, .ref z36, .ref z37, .int 0, .int 0, .int 0, .int 0, .ref z38, .int 0, .ref z39, .ref z40, .ref z41, .ref z42, .int 0, .ref z13, .ref z14, .ref z15, .ref z16, .int 0, .ref z17, .ref z18, .ref z43]))] s.heap.size = A at hD ⊢
  have hA : ∀ q : Nat, s.heap.size ≤ q → A q := fun q h => by rw [← hAe]; exact Or.inr h
  have hS : va_S A s.heap s.heap [] := va_S.rf
  have hP : va_P D vwCl [(h0, .inr (12, [.ref z0, .ref z1, .ref z2, .ref z3, .ref z4, .ref z5, .ref z20, .ref z21, .ref z22, .ref z23, .ref z24, .ref z25, .int 0, .ref z26, .ref z27, .ref z28, .int 9, .int 0, .int 0, .ref z6, .ref z29, .ref z7, .int 0, .int 2, .ref z19, .ref z8, .ref z9, .ref z10, .int 0, .ref z11, .int 0, .ref z30, .ref z31, .ref z32, .ref z33, .int 0, .ref z12, .int 0, .int 0, .ref z34, .ref z35, .ref z36, .ref z37, .int 0, .int 0, .int 0, .int 0, .ref z38, .int 0, .ref z39, .ref z40, .ref z41, .ref z42, .int 0, .ref z13, .ref z14, .ref z15, .ref z16, .int 0, .ref z17, .ref z18, .ref z43]))] s.heap := hP
  have hl := lv_entry ([.ref h0]) (n := 1) (Nat.le_of_ble_eq_true rfl)
  rw [lg_entry_eq]
  generalize (lg_sl ([.ref h0]) ++ List.replicate (1 - (lg_sl ([.ref h0])).length) Slot.unset).toArray = ls at hl ⊢
  have hl : lv_has ls 1 [(0, .ref h0)] := hl
  refine lv_aload_n hx hb dX12_free_0 rfl (lv_at hl 0 rfl) ?_
  refine lv_iconst (v := 0) hx hb dX12_free_1 (by decide) ?_
  refine va_put (D := D) (ci := 12) (v := .int 0) (ty := (tyX12 38)) (C := RX12) (T := TX12) (N := 62) hx hb hts iX12_free_X12 tyX12 tyX12_ok nmX12 hown hK hP hD hS 0 rfl rfl 38 (by decide) (hts (.fieldLink RX12 157 "PuppetBridgeModel" "thrown" "I") mX12_free_w0) (fun _ h9 => h9) rfl (tyX12_ok 38 (by decide)) rfl rfl (Nat.le_of_ble_eq_true rfl) dX12_free_2 (fun H locs hP hD hS => ?_)
  have hP : va_P D vwCl [(h0, .inr (12, [.ref z0, .ref z1, .ref z2, .ref z3, .ref z4, .ref z5, .ref z20, .ref z21, .ref z22, .ref z23, .ref z24, .ref z25, .int 0, .ref z26, .ref z27, .ref z28, .int 9, .int 0, .int 0, .ref z6, .ref z29, .ref z7, .int 0, .int 2, .ref z19, .ref z8, .ref z9, .ref z10, .int 0, .ref z11, .int 0, .ref z30, .ref z31, .ref z32, .ref z33, .int 0, .ref z12, .int 0, .int 0, .ref z34, .ref z35, .ref z36, .ref z37, .int 0, .int 0, .int 0, .int 0, .ref z38, .int 0, .ref z39, .ref z40, .ref z41, .ref z42, .int 0, .ref z13, .ref z14, .ref z15, .ref z16, .int 0, .ref z17, .ref z18, .ref z43]))] H := hP
  have hD : va_D A [(h0, .inr (12, [.ref z0, .ref z1, .ref z2, .ref z3, .ref z4, .ref z5, .ref z20, .ref z21, .ref z22, .ref z23, .ref z24, .ref z25, .int 0, .ref z26, .ref z27, .ref z28, .int 9, .int 0, .int 0, .ref z6, .ref z29, .ref z7, .int 0, .int 2, .ref z19, .ref z8, .ref z9, .ref z10, .int 0, .ref z11, .int 0, .ref z30, .ref z31, .ref z32, .ref z33, .int 0, .ref z12, .int 0, .int 0, .ref z34, .ref z35, .ref z36, .ref z37, .int 0, .int 0, .int 0, .int 0, .ref z38, .int 0, .ref z39, .ref z40, .ref z41, .ref z42, .int 0, .ref z13, .ref z14, .ref z15, .ref z16, .int 0, .ref z17, .ref z18, .ref z43]))] := hD
  refine lv_aload_n hx hb dX12_free_5 rfl (lv_at hl 0 rfl) ?_
  refine lv_iconst (v := 0) hx hb dX12_free_6 (by decide) ?_
  refine lv_aload_n hx hb dX12_free_7 rfl (lv_at hl 0 rfl) ?_
  refine va_get (D := D) (ci := 12) (v := .ref z13) (C := RX12) (T := TX12) (N := 62) hx hb hts iX12_free_X12 hown hK hP 0 rfl rfl 54 (by decide) (hts (.fieldLink RX12 130 "PuppetBridgeModel" "remedy" "[I") mX12_free_w1) (fun _ h9 => h9) rfl dX12_free_8 ?_
  refine lv_iconst (v := 0) hx hb dX12_free_11 (by decide) ?_
  have hPc := hP.sub (ws' := [(h0, .inr (12, [.ref z0, .ref z1, .ref z2, .ref z3, .ref z4, .ref z5, .ref z20, .ref z21, .ref z22, .ref z23, .ref z24, .ref z25, .int 0, .ref z26, .ref z27, .ref z28, .int 9, .int 0, .int 0, .ref z6, .ref z29, .ref z7, .int 0, .int 2, .ref z19, .ref z8, .ref z9, .ref z10, .int 0, .ref z11, .int 0, .ref z30, .ref z31, .ref z32, .ref z33, .int 0, .ref z12, .int 0, .int 0, .ref z34, .ref z35, .ref z36, .ref z37, .int 0, .int 0, .int 0, .int 0, .ref z38, .int 0, .ref z39, .ref z40, .ref z41, .ref z42, .int 0, .ref z13, .ref z14, .ref z15, .ref z16, .int 0, .ref z17, .ref z18, .ref z43]))]) [0] rfl
  have hDc := hD.sub (ws' := [(h0, .inr (12, [.ref z0, .ref z1, .ref z2, .ref z3, .ref z4, .ref z5, .ref z20, .ref z21, .ref z22, .ref z23, .ref z24, .ref z25, .int 0, .ref z26, .ref z27, .ref z28, .int 9, .int 0, .int 0, .ref z6, .ref z29, .ref z7, .int 0, .int 2, .ref z19, .ref z8, .ref z9, .ref z10, .int 0, .ref z11, .int 0, .ref z30, .ref z31, .ref z32, .ref z33, .int 0, .ref z12, .int 0, .int 0, .ref z34, .ref z35, .ref z36, .ref z37, .int 0, .int 0, .int 0, .int 0, .ref z38, .int 0, .ref z39, .ref z40, .ref z41, .ref z42, .int 0, .ref z13, .ref z14, .ref z15, .ref z16, .int 0, .ref z17, .ref z18, .ref z43]))]) [0] (by decide) rfl
  have hFc := va_free (wc := [(h0, .inr (12, [.ref z0, .ref z1, .ref z2, .ref z3, .ref z4, .ref z5, .ref z20, .ref z21, .ref z22, .ref z23, .ref z24, .ref z25, .int 0, .ref z26, .ref z27, .ref z28, .int 9, .int 0, .int 0, .ref z6, .ref z29, .ref z7, .int 0, .int 2, .ref z19, .ref z8, .ref z9, .ref z10, .int 0, .ref z11, .int 0, .ref z30, .ref z31, .ref z32, .ref z33, .int 0, .ref z12, .int 0, .int 0, .ref z34, .ref z35, .ref z36, .ref z37, .int 0, .int 0, .int 0, .int 0, .ref z38, .int 0, .ref z39, .ref z40, .ref z41, .ref z42, .int 0, .ref z13, .ref z14, .ref z15, .ref z16, .int 0, .ref z17, .ref z18, .ref z43]))]) hD hS hA [0] rfl
  refine va_calli (va_runV (As := [.int 0, .ref z13, .int 0]) (rest := []) ⟨hx, hb, hml, hown, hts⟩ (kX12_isFree l D G h0 z13 z0 z1 z2 z3 z4 z5 z20 z21 z22 z23 z24 z25 z26 z27 z28 z6 z29 z7 z19 z8 z9 z10 z11 z30 z31 z32 z33 z12 z34 z35 z36 z37 z38 z39 z40 z41 z42 z14 z15 z16 z17 z18 z43 H.size) (cwV 3 hts gX12_free_X12_isFree rfl rfl rfl (by decide +kernel) ⟨Nat.le_of_ble_eq_true rfl, Nat.le_of_ble_eq_true rfl⟩) ⟨wB_blind, va_recv hK hPc (ci := 12) (q0 := 0) rfl rfl, wB_pre hPc hK hDc hN⟩ rfl rfl hl.1 rfl (lv_room (Nat.le_of_ble_eq_true rfl)) dX12_free_12 ⟨Nat.le_of_ble_eq_true rfl, Nat.le_of_ble_eq_true rfl⟩) hS (fun q _ h => hFc q h) hFc (fun r1 u t H1 locs ht hvm hr1 hB hz1 hk1 hS => ?_)
  obtain ⟨hP, hD⟩ := va_join (wr := []) (w1 := []) hP hD [0] [] rfl rfl (by decide) (by decide) hk1 hFc wP_nil wD_nil
  clear hPc hDc
  generalize H1 = H at hP hS ⊢
  have hP : va_P D vwCl [] H := hP
  have hD : va_D A [] := hD
  subst hr1
  refine lv_if_eq (tgt := 22) hx hb dX12_free_15 (by decide) (fun h9 => absurd h9 (by decide)) (fun _ => ?_)
  refine lv_iconst (v := 1) hx hb dX12_free_18 (by decide) ?_
  refine lv_goto (tgt := 23) hx hb dX12_free_19 (by decide) ?_
  exact W.iret (v := 1) hx hb hr (fun t ht hW => ⟨⟨1, (), rfl, rfl, trivial⟩, hS.F ht⟩) hS.2.2 dX12_free_23

theorem mX12_alike_w0 : Cond.fieldLink RX12 157 "PuppetBridgeModel" "thrown" "I" ∈ wsX12_alike := by decide +kernel
theorem mX12_alike_w1 : Cond.fieldLink RX12 297 "PuppetBridgeModel" "passMany" "I" ∈ wsX12_alike := by decide +kernel
theorem mX12_alike_w2 : Cond.fieldLink RX12 130 "PuppetBridgeModel" "remedy" "[I" ∈ wsX12_alike := by decide +kernel
theorem iX12_alike_X12 : ∀ w ∈ wsX120, w ∈ wsX12_alike := fun _ h => List.mem_cons_of_mem _ (List.mem_append_right _ h)
set_option maxRecDepth 20000 in
theorem ggX12_alike_X12_in : GoodIn wsX12_alike wsX12_in := goodIn_r _ [7] (by decide +kernel) (by decide +kernel)
set_option maxRecDepth 20000 in
theorem gX12_alike_X12_in : GoodIn wsX12_alike (va_wsS RX12 163 yX12_in wsX12_in) := goodIn_app (goodIn_of _ (by decide +kernel)) ggX12_alike_X12_in
set_option maxRecDepth 20000 in
theorem ggX12_alike_X12_isFree : GoodIn wsX12_alike wsX12_isFree := goodIn_r _ [11, 12, 2, 13, 14, 15, 16, 6, 17, 18, 19, 20, 21, 22, 23, 24, 25, 26, 27, 28, 29, 30, 31, 32, 33, 34, 35, 36, 37, 38, 39, 40, 41, 42, 43, 44, 45, 46, 47, 48, 49, 50, 51, 52, 53, 54, 55, 56, 57, 58, 59, 60, 61, 62, 63, 64, 65, 66, 67, 68, 69, 70, 71, 72, 73, 74, 75, 76, 77, 78, 79, 80, 81, 82, 83, 84, 85, 86, 87, 88, 89, 90, 91, 92, 93] (by decide +kernel) (by decide +kernel)
set_option maxRecDepth 20000 in
theorem gX12_alike_X12_isFree : GoodIn wsX12_alike (wsV RX12 331 RX12 yX12_isFree wsX12_isFree) := goodIn_app (goodIn_of _ (by decide +kernel)) ggX12_alike_X12_isFree
theorem dX12_alike_0 : decode cX12_alike 0 = .ok (.aload_n 0, 1) := by decide +kernel
theorem dX12_alike_1 : decode cX12_alike 1 = .ok (.iconst 0, 1) := by decide +kernel
theorem dX12_alike_2 : decode cX12_alike 2 = .ok (.putfield 157, 3) := by decide +kernel
theorem dX12_alike_5 : decode cX12_alike 5 = .ok (.iload_n 1, 1) := by decide +kernel
theorem dX12_alike_6 : decode cX12_alike 6 = .ok (.iconst 0, 1) := by decide +kernel
theorem dX12_alike_7 : decode cX12_alike 7 = .ok (.aload_n 0, 1) := by decide +kernel
theorem dX12_alike_8 : decode cX12_alike 8 = .ok (.getfield 297, 3) := by decide +kernel
theorem dX12_alike_11 : decode cX12_alike 11 = .ok (.invokestatic 163, 3) := by decide +kernel
theorem dX12_alike_14 : decode cX12_alike 14 = .ok (.ifCond .ne 5, 3) := by decide +kernel
theorem dX12_alike_17 : decode cX12_alike 17 = .ok (.iconst (-1), 1) := by decide +kernel
theorem dX12_alike_18 : decode cX12_alike 18 = .ok (.ireturn, 1) := by decide +kernel
theorem dX12_alike_19 : decode cX12_alike 19 = .ok (.aload_n 0, 1) := by decide +kernel
theorem dX12_alike_20 : decode cX12_alike 20 = .ok (.iload_n 1, 1) := by decide +kernel
theorem dX12_alike_21 : decode cX12_alike 21 = .ok (.aload_n 0, 1) := by decide +kernel
theorem dX12_alike_22 : decode cX12_alike 22 = .ok (.getfield 130, 3) := by decide +kernel
theorem dX12_alike_25 : decode cX12_alike 25 = .ok (.iconst 0, 1) := by decide +kernel
theorem dX12_alike_26 : decode cX12_alike 26 = .ok (.invokevirtual 331, 3) := by decide +kernel
theorem dX12_alike_29 : decode cX12_alike 29 = .ok (.ifCond .eq 7, 3) := by decide +kernel
theorem dX12_alike_32 : decode cX12_alike 32 = .ok (.iconst 1, 1) := by decide +kernel
theorem dX12_alike_33 : decode cX12_alike 33 = .ok (.goto 4, 3) := by decide +kernel
theorem dX12_alike_37 : decode cX12_alike 37 = .ok (.ireturn, 1) := by decide +kernel
set_option maxHeartbeats 4000000 in
set_option maxRecDepth 100000 in
/-- X12_alike -/
theorem kX12_alike (l : Launch) (D : va_G) (G : tyG) (h0 : Nat) (x1 : Int32) (z0 : Nat) (z1 : Nat) (z2 : Nat) (z3 : Nat) (z4 : Nat) (z5 : Nat) (z20 : Nat) (z21 : Nat) (z22 : Nat) (z23 : Nat) (z24 : Nat) (z25 : Nat) (z26 : Nat) (z27 : Nat) (z28 : Nat) (z6 : Nat) (z29 : Nat) (z7 : Nat) (z19 : Nat) (z8 : Nat) (z9 : Nat) (z10 : Nat) (z11 : Nat) (z30 : Nat) (z31 : Nat) (z32 : Nat) (z33 : Nat) (z12 : Nat) (z34 : Nat) (z35 : Nat) (z36 : Nat) (z37 : Nat) (z38 : Nat) (z39 : Nat) (z40 : Nat) (z41 : Nat) (z42 : Nat) (z13 : Nat) (z14 : Nat) (z15 : Nat) (z16 : Nat) (z17 : Nat) (z18 : Nat) (z43 : Nat) (sz : Nat) : Met l yX12_alike wsX12_alike ({ frames := 2, cells := 0, slots := 0, locals := 52 }) (va_Pc [.ref h0, .int x1] (wB D G sz [(h0, .inr (12, [.ref z0, .ref z1, .ref z2, .ref z3, .ref z4, .ref z5, .ref z20, .ref z21, .ref z22, .ref z23, .ref z24, .ref z25, .int 0, .ref z26, .ref z27, .ref z28, .int 9, .int 0, .int 0, .ref z6, .ref z29, .ref z7, .int 0, .int 2, .ref z19, .ref z8, .ref z9, .ref z10, .int 0, .ref z11, .int 0, .ref z30, .ref z31, .ref z32, .ref z33, .int 0, .ref z12, .int 0, .int 0, .ref z34, .ref z35, .ref z36, .ref z37, .int 0, .int 0, .int 0, .int 0, .ref z38, .int 0, .ref z39, .ref z40, .ref z41, .ref z42, .int 0, .ref z13, .ref z14, .ref z15, .ref z16, .int 0, .ref z17, .ref z18, .ref z43]))])) (va_Qi (fun (r : Int32) (_ : Unit) => r = (if inB x1 0 0 = true then 1 else -1)) (fun _ _ => True) (va_A [(h0, .inr (12, [.ref z0, .ref z1, .ref z2, .ref z3, .ref z4, .ref z5, .ref z20, .ref z21, .ref z22, .ref z23, .ref z24, .ref z25, .int 0, .ref z26, .ref z27, .ref z28, .int 9, .int 0, .int 0, .ref z6, .ref z29, .ref z7, .int 0, .int 2, .ref z19, .ref z8, .ref z9, .ref z10, .int 0, .ref z11, .int 0, .ref z30, .ref z31, .ref z32, .ref z33, .int 0, .ref z12, .int 0, .int 0, .ref z34, .ref z35, .ref z36, .ref z37, .int 0, .int 0, .int 0, .int 0, .ref z38, .int 0, .ref z39, .ref z40, .ref z41, .ref z42, .int 0, .ref z13, .ref z14, .ref z15, .ref z16, .int 0, .ref z17, .ref z18, .ref z43]))] sz)) 0 0 (va_A [(h0, .inr (12, [.ref z0, .ref z1, .ref z2, .ref z3, .ref z4, .ref z5, .ref z20, .ref z21, .ref z22, .ref z23, .ref z24, .ref z25, .int 0, .ref z26, .ref z27, .ref z28, .int 9, .int 0, .int 0, .ref z6, .ref z29, .ref z7, .int 0, .int 2, .ref z19, .ref z8, .ref z9, .ref z10, .int 0, .ref z11, .int 0, .ref z30, .ref z31, .ref z32, .ref z33, .int 0, .ref z12, .int 0, .int 0, .ref z34, .ref z35, .ref z36, .ref z37, .int 0, .int 0, .int 0, .int 0, .ref z38, .int 0, .ref z39, .ref z40, .ref z41, .ref z42, .int 0, .ref z13, .ref z14, .ref z15, .ref z16, .int 0, .ref z17, .ref z18, .ref z43]))] sz) := by
  refine Met.ofW (cc := cX12_alike) (maxL := 2) (ret := (some .int)) (by decide) rfl ?_
  intro p e s m args below meth c s₁ B hml hv
  obtain ⟨rfl, hsz, hP, hK, hD0, hN⟩ := hv
  have hx := B.exec
  have hb := B.bytes
  have hr := B.returns
  have hts := atoms_spec (ws := wsX12_alike) B.pre
  have hown : s.vm.findClass RX12 = some m.cls := findClass_of_methodNamed B.named
  have hlocks := B.notSynchronized
  subst hsz
  have hD := hD0.self (sz := s.heap.size)
  generalize hAe : va_A [(h0, .inr (12, [.ref z0, .ref z1, .ref z2, .ref z3, .ref z4, .ref z5, .ref z20, .ref z21, .ref z22, .ref z23, .ref z24, .ref z25, .int 0, .ref z26, .ref z27, .ref z28, .int 9, .int 0, .int 0, .ref z6, .ref z29, .ref z7, .int 0, .int 2, .ref z19, .ref z8, .ref z9, .ref z10, .int 0, .ref z11, .int 0, .ref z30, .ref z31, .ref z32, .ref z33, .int 0, .ref z12, .int 0, .int 0, .ref z34, .ref z35, .ref z36, .ref z37, .int 0, .int 0, .int 0, .int 0, .ref z38, .int 0, .ref z39, .ref z40, .ref z41, .ref z42, .int 0, .ref z13, .ref z14, .ref z15, .ref z16, .int 0, .ref z17, .ref z18, .ref z43]))] s.heap.size = A at hD ⊢
  have hA : ∀ q : Nat, s.heap.size ≤ q → A q := fun q h => by rw [← hAe]; exact Or.inr h
  have hS : va_S A s.heap s.heap [] := va_S.rf
  have hP : va_P D vwCl [(h0, .inr (12, [.ref z0, .ref z1, .ref z2, .ref z3, .ref z4, .ref z5, .ref z20, .ref z21, .ref z22, .ref z23, .ref z24, .ref z25, .int 0, .ref z26, .ref z27, .ref z28, .int 9, .int 0, .int 0, .ref z6, .ref z29, .ref z7, .int 0, .int 2, .ref z19, .ref z8, .ref z9, .ref z10, .int 0, .ref z11, .int 0, .ref z30, .ref z31, .ref z32, .ref z33, .int 0, .ref z12, .int 0, .int 0, .ref z34, .ref z35, .ref z36, .ref z37, .int 0, .int 0, .int 0, .int 0, .ref z38, .int 0, .ref z39, .ref z40, .ref z41, .ref z42, .int 0, .ref z13, .ref z14, .ref z15, .ref z16, .int 0, .ref z17, .ref z18, .ref z43]))] s.heap := hP
  have hl := lv_entry ([.ref h0, .int x1]) (n := 2) (Nat.le_of_ble_eq_true rfl)
  rw [lg_entry_eq]
  generalize (lg_sl ([.ref h0, .int x1]) ++ List.replicate (2 - (lg_sl ([.ref h0, .int x1])).length) Slot.unset).toArray = ls at hl ⊢
  have hl : lv_has ls 2 [(0, .ref h0), (1, .int x1)] := hl
  refine lv_aload_n hx hb dX12_alike_0 rfl (lv_at hl 0 rfl) ?_
  refine lv_iconst (v := 0) hx hb dX12_alike_1 (by decide) ?_
  refine va_put (D := D) (ci := 12) (v := .int 0) (ty := (tyX12 38)) (C := RX12) (T := TX12) (N := 62) hx hb hts iX12_alike_X12 tyX12 tyX12_ok nmX12 hown hK hP hD hS 0 rfl rfl 38 (by decide) (hts (.fieldLink RX12 157 "PuppetBridgeModel" "thrown" "I") mX12_alike_w0) (fun _ h9 => h9) rfl (tyX12_ok 38 (by decide)) rfl rfl (Nat.le_of_ble_eq_true rfl) dX12_alike_2 (fun H locs hP hD hS => ?_)
  have hP : va_P D vwCl [(h0, .inr (12, [.ref z0, .ref z1, .ref z2, .ref z3, .ref z4, .ref z5, .ref z20, .ref z21, .ref z22, .ref z23, .ref z24, .ref z25, .int 0, .ref z26, .ref z27, .ref z28, .int 9, .int 0, .int 0, .ref z6, .ref z29, .ref z7, .int 0, .int 2, .ref z19, .ref z8, .ref z9, .ref z10, .int 0, .ref z11, .int 0, .ref z30, .ref z31, .ref z32, .ref z33, .int 0, .ref z12, .int 0, .int 0, .ref z34, .ref z35, .ref z36, .ref z37, .int 0, .int 0, .int 0, .int 0, .ref z38, .int 0, .ref z39, .ref z40, .ref z41, .ref z42, .int 0, .ref z13, .ref z14, .ref z15, .ref z16, .int 0, .ref z17, .ref z18, .ref z43]))] H := hP
  have hD : va_D A [(h0, .inr (12, [.ref z0, .ref z1, .ref z2, .ref z3, .ref z4, .ref z5, .ref z20, .ref z21, .ref z22, .ref z23, .ref z24, .ref z25, .int 0, .ref z26, .ref z27, .ref z28, .int 9, .int 0, .int 0, .ref z6, .ref z29, .ref z7, .int 0, .int 2, .ref z19, .ref z8, .ref z9, .ref z10, .int 0, .ref z11, .int 0, .ref z30, .ref z31, .ref z32, .ref z33, .int 0, .ref z12, .int 0, .int 0, .ref z34, .ref z35, .ref z36, .ref z37, .int 0, .int 0, .int 0, .int 0, .ref z38, .int 0, .ref z39, .ref z40, .ref z41, .ref z42, .int 0, .ref z13, .ref z14, .ref z15, .ref z16, .int 0, .ref z17, .ref z18, .ref z43]))] := hD
  refine lv_iload_n hx hb dX12_alike_5 rfl (lv_at hl 1 rfl) ?_
  refine lv_iconst (v := 0) hx hb dX12_alike_6 (by decide) ?_
  refine lv_aload_n hx hb dX12_alike_7 rfl (lv_at hl 0 rfl) ?_
  refine va_get (D := D) (ci := 12) (v := .int 0) (C := RX12) (T := TX12) (N := 62) hx hb hts iX12_alike_X12 hown hK hP 0 rfl rfl 28 (by decide) (hts (.fieldLink RX12 297 "PuppetBridgeModel" "passMany" "I") mX12_alike_w1) (fun _ h9 => h9) rfl dX12_alike_8 ?_
  have hPc := hP.sub (ws' := []) [] rfl
  have hDc := hD.sub (ws' := []) [] (by decide) rfl
  have hFc := va_free (wc := []) hD hS hA [] rfl
  refine va_calli (va_runS (As := [.int x1, .int 0, .int 0]) (rest := []) ⟨hx, hb, hml, hown, hts⟩ (kX12_in l D G x1 0 0 H.size) (va_cwS 3 hts gX12_alike_X12_in rfl rfl rfl (by decide +kernel) ⟨Nat.le_of_ble_eq_true rfl, Nat.le_of_ble_eq_true rfl⟩) ⟨wB_blind, wB_pre hPc hK hDc hN⟩ rfl rfl hl.1 rfl (lv_room (Nat.le_of_ble_eq_true rfl)) dX12_alike_11 ⟨Nat.le_of_ble_eq_true rfl, Nat.le_of_ble_eq_true rfl⟩) hS (fun q _ h => hFc q h) hFc (fun r1 u t H1 locs ht hvm hr1 hB hz1 hk1 hS => ?_)
  obtain ⟨hP, hD⟩ := va_join (wr := [(h0, .inr (12, [.ref z0, .ref z1, .ref z2, .ref z3, .ref z4, .ref z5, .ref z20, .ref z21, .ref z22, .ref z23, .ref z24, .ref z25, .int 0, .ref z26, .ref z27, .ref z28, .int 9, .int 0, .int 0, .ref z6, .ref z29, .ref z7, .int 0, .int 2, .ref z19, .ref z8, .ref z9, .ref z10, .int 0, .ref z11, .int 0, .ref z30, .ref z31, .ref z32, .ref z33, .int 0, .ref z12, .int 0, .int 0, .ref z34, .ref z35, .ref z36, .ref z37, .int 0, .int 0, .int 0, .int 0, .ref z38, .int 0, .ref z39, .ref z40, .ref z41, .ref z42, .int 0, .ref z13, .ref z14, .ref z15, .ref z16, .int 0, .ref z17, .ref z18, .ref z43]))]) (w1 := []) hP hD [] [0] rfl rfl (by decide) (by decide) hk1 hFc wP_nil wD_nil
  clear hPc hDc
  generalize H1 = H at hP hS ⊢
  have hP : va_P D vwCl [(h0, .inr (12, [.ref z0, .ref z1, .ref z2, .ref z3, .ref z4, .ref z5, .ref z20, .ref z21, .ref z22, .ref z23, .ref z24, .ref z25, .int 0, .ref z26, .ref z27, .ref z28, .int 9, .int 0, .int 0, .ref z6, .ref z29, .ref z7, .int 0, .int 2, .ref z19, .ref z8, .ref z9, .ref z10, .int 0, .ref z11, .int 0, .ref z30, .ref z31, .ref z32, .ref z33, .int 0, .ref z12, .int 0, .int 0, .ref z34, .ref z35, .ref z36, .ref z37, .int 0, .int 0, .int 0, .int 0, .ref z38, .int 0, .ref z39, .ref z40, .ref z41, .ref z42, .int 0, .ref z13, .ref z14, .ref z15, .ref z16, .int 0, .ref z17, .ref z18, .ref z43]))] H := hP
  have hD : va_D A [(h0, .inr (12, [.ref z0, .ref z1, .ref z2, .ref z3, .ref z4, .ref z5, .ref z20, .ref z21, .ref z22, .ref z23, .ref z24, .ref z25, .int 0, .ref z26, .ref z27, .ref z28, .int 9, .int 0, .int 0, .ref z6, .ref z29, .ref z7, .int 0, .int 2, .ref z19, .ref z8, .ref z9, .ref z10, .int 0, .ref z11, .int 0, .ref z30, .ref z31, .ref z32, .ref z33, .int 0, .ref z12, .int 0, .int 0, .ref z34, .ref z35, .ref z36, .ref z37, .int 0, .int 0, .int 0, .int 0, .ref z38, .int 0, .ref z39, .ref z40, .ref z41, .ref z42, .int 0, .ref z13, .ref z14, .ref z15, .ref z16, .int 0, .ref z17, .ref z18, .ref z43]))] := hD
  refine lv_if_ne (tgt := 19) hx hb dX12_alike_14 (by decide) (fun c2 => ?_) (fun c2 => ?_)
  · have kc2 : (inB x1 0 0) = true := wk_b1 hr1 c2
    obtain rfl := inB_eq kc2
    refine lv_aload_n hx hb dX12_alike_19 rfl (lv_at hl 0 rfl) ?_
    refine lv_iload_n hx hb dX12_alike_20 rfl (lv_at hl 1 rfl) ?_
    refine lv_aload_n hx hb dX12_alike_21 rfl (lv_at hl 0 rfl) ?_
    refine va_get (D := D) (ci := 12) (v := .ref z13) (C := RX12) (T := TX12) (N := 62) hx hb hts iX12_alike_X12 hown hK hP 0 rfl rfl 54 (by decide) (hts (.fieldLink RX12 130 "PuppetBridgeModel" "remedy" "[I") mX12_alike_w2) (fun _ h9 => h9) rfl dX12_alike_22 ?_
    refine lv_iconst (v := 0) hx hb dX12_alike_25 (by decide) ?_
    have hPc := hP.sub (ws' := [(h0, .inr (12, [.ref z0, .ref z1, .ref z2, .ref z3, .ref z4, .ref z5, .ref z20, .ref z21, .ref z22, .ref z23, .ref z24, .ref z25, .int 0, .ref z26, .ref z27, .ref z28, .int 9, .int 0, .int 0, .ref z6, .ref z29, .ref z7, .int 0, .int 2, .ref z19, .ref z8, .ref z9, .ref z10, .int 0, .ref z11, .int 0, .ref z30, .ref z31, .ref z32, .ref z33, .int 0, .ref z12, .int 0, .int 0, .ref z34, .ref z35, .ref z36, .ref z37, .int 0, .int 0, .int 0, .int 0, .ref z38, .int 0, .ref z39, .ref z40, .ref z41, .ref z42, .int 0, .ref z13, .ref z14, .ref z15, .ref z16, .int 0, .ref z17, .ref z18, .ref z43]))]) [0] rfl
    have hDc := hD.sub (ws' := [(h0, .inr (12, [.ref z0, .ref z1, .ref z2, .ref z3, .ref z4, .ref z5, .ref z20, .ref z21, .ref z22, .ref z23, .ref z24, .ref z25, .int 0, .ref z26, .ref z27, .ref z28, .int 9, .int 0, .int 0, .ref z6, .ref z29, .ref z7, .int 0, .int 2, .ref z19, .ref z8, .ref z9, .ref z10, .int 0, .ref z11, .int 0, .ref z30, .ref z31, .ref z32, .ref z33, .int 0, .ref z12, .int 0, .int 0, .ref z34, .ref z35, .ref z36, .ref z37, .int 0, .int 0, .int 0, .int 0, .ref z38, .int 0, .ref z39, .ref z40, .ref z41, .ref z42, .int 0, .ref z13, .ref z14, .ref z15, .ref z16, .int 0, .ref z17, .ref z18, .ref z43]))]) [0] (by decide) rfl
    have hFc := va_free (wc := [(h0, .inr (12, [.ref z0, .ref z1, .ref z2, .ref z3, .ref z4, .ref z5, .ref z20, .ref z21, .ref z22, .ref z23, .ref z24, .ref z25, .int 0, .ref z26, .ref z27, .ref z28, .int 9, .int 0, .int 0, .ref z6, .ref z29, .ref z7, .int 0, .int 2, .ref z19, .ref z8, .ref z9, .ref z10, .int 0, .ref z11, .int 0, .ref z30, .ref z31, .ref z32, .ref z33, .int 0, .ref z12, .int 0, .int 0, .ref z34, .ref z35, .ref z36, .ref z37, .int 0, .int 0, .int 0, .int 0, .ref z38, .int 0, .ref z39, .ref z40, .ref z41, .ref z42, .int 0, .ref z13, .ref z14, .ref z15, .ref z16, .int 0, .ref z17, .ref z18, .ref z43]))]) hD hS hA [0] rfl
    refine va_calli (va_runV (As := [.int 0, .ref z13, .int 0]) (rest := []) ⟨hx, hb, hml, hown, hts⟩ (kX12_isFree l D G h0 z13 z0 z1 z2 z3 z4 z5 z20 z21 z22 z23 z24 z25 z26 z27 z28 z6 z29 z7 z19 z8 z9 z10 z11 z30 z31 z32 z33 z12 z34 z35 z36 z37 z38 z39 z40 z41 z42 z14 z15 z16 z17 z18 z43 H.size) (cwV 3 hts gX12_alike_X12_isFree rfl rfl rfl (by decide +kernel) ⟨Nat.le_of_ble_eq_true rfl, Nat.le_of_ble_eq_true rfl⟩) ⟨wB_blind, va_recv hK hPc (ci := 12) (q0 := 0) rfl rfl, wB_pre hPc hK hDc hN⟩ rfl rfl hl.1 rfl (lv_room (Nat.le_of_ble_eq_true rfl)) dX12_alike_26 ⟨Nat.le_of_ble_eq_true rfl, Nat.le_of_ble_eq_true rfl⟩) hS (fun q _ h => hFc q h) hFc (fun r3 u t H1 locs ht hvm hr3 hB hz1 hk1 hS => ?_)
    obtain ⟨hP, hD⟩ := va_join (wr := []) (w1 := []) hP hD [0] [] rfl rfl (by decide) (by decide) hk1 hFc wP_nil wD_nil
    clear hPc hDc
    generalize H1 = H at hP hS ⊢
    have hP : va_P D vwCl [] H := hP
    have hD : va_D A [] := hD
    subst hr3
    refine lv_if_eq (tgt := 36) hx hb dX12_alike_29 (by decide) (fun h9 => absurd h9 (by decide)) (fun _ => ?_)
    refine lv_iconst (v := 1) hx hb dX12_alike_32 (by decide) ?_
    refine lv_goto (tgt := 37) hx hb dX12_alike_33 (by decide) ?_
    exact W.iret (v := 1) hx hb hr (fun t ht hW => ⟨⟨1, (), rfl, by decide, trivial⟩, hS.F ht⟩) hS.2.2 dX12_alike_37
  · have kc2 : (inB x1 0 0) = false := wk_b0 hr1 c2
    refine lv_iconst (v := (-1)) hx hb dX12_alike_17 (by decide) ?_
    exact W.iret (v := (-1)) hx hb hr (fun t ht hW => ⟨⟨(-1), (), rfl, by first | (simp [kc2]; done) | rfl, trivial⟩, hS.F ht⟩) hS.2.2 dX12_alike_18

theorem mX12_bar_w0 : Cond.fieldLink RX12 157 "PuppetBridgeModel" "thrown" "I" ∈ wsX12_bar := by decide +kernel
theorem mX12_bar_w1 : Cond.fieldLink RX12 69 "PuppetBridgeModel" "bars" "I" ∈ wsX12_bar := by decide +kernel
theorem mX12_bar_w2 : Cond.fieldLink RX12 72 "PuppetBridgeModel" "spots" "[I" ∈ wsX12_bar := by decide +kernel
theorem iX12_bar_X12 : ∀ w ∈ wsX120, w ∈ wsX12_bar := fun _ h => List.mem_cons_of_mem _ (List.mem_append_right _ h)
set_option maxRecDepth 20000 in
theorem ggX12_bar_X12_in : GoodIn wsX12_bar wsX12_in := goodIn_r _ [7] (by decide +kernel) (by decide +kernel)
set_option maxRecDepth 20000 in
theorem gX12_bar_X12_in : GoodIn wsX12_bar (va_wsS RX12 163 yX12_in wsX12_in) := goodIn_app (goodIn_of _ (by decide +kernel)) ggX12_bar_X12_in
theorem dX12_bar_0 : decode cX12_bar 0 = .ok (.aload_n 0, 1) := by decide +kernel
theorem dX12_bar_1 : decode cX12_bar 1 = .ok (.iconst 0, 1) := by decide +kernel
theorem dX12_bar_2 : decode cX12_bar 2 = .ok (.putfield 157, 3) := by decide +kernel
theorem dX12_bar_5 : decode cX12_bar 5 = .ok (.iload_n 1, 1) := by decide +kernel
theorem dX12_bar_6 : decode cX12_bar 6 = .ok (.iconst 0, 1) := by decide +kernel
theorem dX12_bar_7 : decode cX12_bar 7 = .ok (.aload_n 0, 1) := by decide +kernel
theorem dX12_bar_8 : decode cX12_bar 8 = .ok (.getfield 69, 3) := by decide +kernel
theorem dX12_bar_11 : decode cX12_bar 11 = .ok (.iconst 1, 1) := by decide +kernel
theorem dX12_bar_12 : decode cX12_bar 12 = .ok (.isub, 1) := by decide +kernel
theorem dX12_bar_13 : decode cX12_bar 13 = .ok (.invokestatic 163, 3) := by decide +kernel
theorem dX12_bar_16 : decode cX12_bar 16 = .ok (.ifCond .eq 12, 3) := by decide +kernel
theorem dX12_bar_19 : decode cX12_bar 19 = .ok (.aload_n 0, 1) := by decide +kernel
theorem dX12_bar_20 : decode cX12_bar 20 = .ok (.getfield 72, 3) := by decide +kernel
theorem dX12_bar_23 : decode cX12_bar 23 = .ok (.iload_n 1, 1) := by decide +kernel
theorem dX12_bar_24 : decode cX12_bar 24 = .ok (.iaload, 1) := by decide +kernel
theorem dX12_bar_25 : decode cX12_bar 25 = .ok (.goto 4, 3) := by decide +kernel
theorem dX12_bar_28 : decode cX12_bar 28 = .ok (.iconst (-1), 1) := by decide +kernel
theorem dX12_bar_29 : decode cX12_bar 29 = .ok (.ireturn, 1) := by decide +kernel
set_option maxHeartbeats 4000000 in
set_option maxRecDepth 100000 in
/-- X12_bar -/
theorem kX12_bar (l : Launch) (D : va_G) (G : tyG) (h0 : Nat) (x1 : Int32) (z0 : Nat) (z1 : Nat) (z2 : Nat) (z3 : Nat) (z4 : Nat) (z5 : Nat) (z20 : Nat) (z21 : Nat) (z22 : Nat) (z23 : Nat) (z24 : Nat) (z25 : Nat) (z26 : Nat) (z27 : Nat) (z28 : Nat) (z6 : Nat) (z29 : Nat) (z7 : Nat) (z19 : Nat) (z8 : Nat) (z9 : Nat) (z10 : Nat) (z11 : Nat) (z30 : Nat) (z31 : Nat) (z32 : Nat) (z33 : Nat) (z12 : Nat) (z34 : Nat) (z35 : Nat) (z36 : Nat) (z37 : Nat) (z38 : Nat) (z39 : Nat) (z40 : Nat) (z41 : Nat) (z42 : Nat) (z13 : Nat) (z14 : Nat) (z15 : Nat) (z16 : Nat) (z17 : Nat) (z18 : Nat) (z43 : Nat) (sz : Nat) : Met l yX12_bar wsX12_bar ({ frames := 1, cells := 0, slots := 0, locals := 22 }) (va_Pc [.ref h0, .int x1] (wB D G sz [(h0, .inr (12, [.ref z0, .ref z1, .ref z2, .ref z3, .ref z4, .ref z5, .ref z20, .ref z21, .ref z22, .ref z23, .ref z24, .ref z25, .int 0, .ref z26, .ref z27, .ref z28, .int 9, .int 0, .int 0, .ref z6, .ref z29, .ref z7, .int 0, .int 2, .ref z19, .ref z8, .ref z9, .ref z10, .int 0, .ref z11, .int 0, .ref z30, .ref z31, .ref z32, .ref z33, .int 0, .ref z12, .int 0, .int 0, .ref z34, .ref z35, .ref z36, .ref z37, .int 0, .int 0, .int 0, .int 0, .ref z38, .int 0, .ref z39, .ref z40, .ref z41, .ref z42, .int 0, .ref z13, .ref z14, .ref z15, .ref z16, .int 0, .ref z17, .ref z18, .ref z43])), (z19, .inl (G.1, 5, .inl (tI [0, 1, 2, 3, 4])))])) (va_Qi (fun (r : Int32) (_ : Unit) => r = (if inB x1 0 1 = true then x1 else -1)) (fun _ _ => True) (va_A [(h0, .inr (12, [.ref z0, .ref z1, .ref z2, .ref z3, .ref z4, .ref z5, .ref z20, .ref z21, .ref z22, .ref z23, .ref z24, .ref z25, .int 0, .ref z26, .ref z27, .ref z28, .int 9, .int 0, .int 0, .ref z6, .ref z29, .ref z7, .int 0, .int 2, .ref z19, .ref z8, .ref z9, .ref z10, .int 0, .ref z11, .int 0, .ref z30, .ref z31, .ref z32, .ref z33, .int 0, .ref z12, .int 0, .int 0, .ref z34, .ref z35, .ref z36, .ref z37, .int 0, .int 0, .int 0, .int 0, .ref z38, .int 0, .ref z39, .ref z40, .ref z41, .ref z42, .int 0, .ref z13, .ref z14, .ref z15, .ref z16, .int 0, .ref z17, .ref z18, .ref z43])), (z19, .inl (G.1, 5, .inl (tI [0, 1, 2, 3, 4])))] sz)) 0 0 (va_A [(h0, .inr (12, [.ref z0, .ref z1, .ref z2, .ref z3, .ref z4, .ref z5, .ref z20, .ref z21, .ref z22, .ref z23, .ref z24, .ref z25, .int 0, .ref z26, .ref z27, .ref z28, .int 9, .int 0, .int 0, .ref z6, .ref z29, .ref z7, .int 0, .int 2, .ref z19, .ref z8, .ref z9, .ref z10, .int 0, .ref z11, .int 0, .ref z30, .ref z31, .ref z32, .ref z33, .int 0, .ref z12, .int 0, .int 0, .ref z34, .ref z35, .ref z36, .ref z37, .int 0, .int 0, .int 0, .int 0, .ref z38, .int 0, .ref z39, .ref z40, .ref z41, .ref z42, .int 0, .ref z13, .ref z14, .ref z15, .ref z16, .int 0, .ref z17, .ref z18, .ref z43])), (z19, .inl (G.1, 5, .inl (tI [0, 1, 2, 3, 4])))] sz) := by
  refine Met.ofW (cc := cX12_bar) (maxL := 2) (ret := (some .int)) (by decide) rfl ?_
  intro p e s m args below meth c s₁ B hml hv
  obtain ⟨rfl, hsz, hP, hK, hD0, hN⟩ := hv
  have hx := B.exec
  have hb := B.bytes
  have hr := B.returns
  have hts := atoms_spec (ws := wsX12_bar) B.pre
  have hown : s.vm.findClass RX12 = some m.cls := findClass_of_methodNamed B.named
  have hlocks := B.notSynchronized
  subst hsz
  have hD := hD0.self (sz := s.heap.size)
  generalize hAe : va_A [(h0, .inr (12, [.ref z0, .ref z1, .ref z2, .ref z3, .ref z4, .ref z5, .ref z20, .ref z21, .ref z22, .ref z23, .ref z24, .ref z25, .int 0, .ref z26, .ref z27, .ref z28, .int 9, .int 0, .int 0, .ref z6, .ref z29, .ref z7, .int 0, .int 2, .ref z19, .ref z8, .ref z9, .ref z10, .int 0, .ref z11, .int 0, .ref z30, .ref z31, .ref z32, .ref z33, .int 0, .ref z12, .int 0, .int 0, .ref z34, .ref z35, .ref z36, .ref z37, .int 0, .int 0, .int 0, .int 0, .ref z38, .int 0, .ref z39, .ref z40, .ref z41, .ref z42, .int 0, .ref z13, .ref z14, .ref z15, .ref z16, .int 0, .ref z17, .ref z18, .ref z43])), (z19, .inl (G.1, 5, .inl (tI [0, 1, 2, 3, 4])))] s.heap.size = A at hD ⊢
  have hA : ∀ q : Nat, s.heap.size ≤ q → A q := fun q h => by rw [← hAe]; exact Or.inr h
  have hS : va_S A s.heap s.heap [] := va_S.rf
  have hP : va_P D vwCl [(h0, .inr (12, [.ref z0, .ref z1, .ref z2, .ref z3, .ref z4, .ref z5, .ref z20, .ref z21, .ref z22, .ref z23, .ref z24, .ref z25, .int 0, .ref z26, .ref z27, .ref z28, .int 9, .int 0, .int 0, .ref z6, .ref z29, .ref z7, .int 0, .int 2, .ref z19, .ref z8, .ref z9, .ref z10, .int 0, .ref z11, .int 0, .ref z30, .ref z31, .ref z32, .ref z33, .int 0, .ref z12, .int 0, .int 0, .ref z34, .ref z35, .ref z36, .ref z37, .int 0, .int 0, .int 0, .int 0, .ref z38, .int 0, .ref z39, .ref z40, .ref z41, .ref z42, .int 0, .ref z13, .ref z14, .ref z15, .ref z16, .int 0, .ref z17, .ref z18, .ref z43])), (z19, .inl (G.1, 5, .inl (tI [0, 1, 2, 3, 4])))] s.heap := hP
  have hl := lv_entry ([.ref h0, .int x1]) (n := 2) (Nat.le_of_ble_eq_true rfl)
  rw [lg_entry_eq]
  generalize (lg_sl ([.ref h0, .int x1]) ++ List.replicate (2 - (lg_sl ([.ref h0, .int x1])).length) Slot.unset).toArray = ls at hl ⊢
  have hl : lv_has ls 2 [(0, .ref h0), (1, .int x1)] := hl
  refine lv_aload_n hx hb dX12_bar_0 rfl (lv_at hl 0 rfl) ?_
  refine lv_iconst (v := 0) hx hb dX12_bar_1 (by decide) ?_
  refine va_put (D := D) (ci := 12) (v := .int 0) (ty := (tyX12 38)) (C := RX12) (T := TX12) (N := 62) hx hb hts iX12_bar_X12 tyX12 tyX12_ok nmX12 hown hK hP hD hS 0 rfl rfl 38 (by decide) (hts (.fieldLink RX12 157 "PuppetBridgeModel" "thrown" "I") mX12_bar_w0) (fun _ h9 => h9) rfl (tyX12_ok 38 (by decide)) rfl rfl (Nat.le_of_ble_eq_true rfl) dX12_bar_2 (fun H locs hP hD hS => ?_)
  have hP : va_P D vwCl [(h0, .inr (12, [.ref z0, .ref z1, .ref z2, .ref z3, .ref z4, .ref z5, .ref z20, .ref z21, .ref z22, .ref z23, .ref z24, .ref z25, .int 0, .ref z26, .ref z27, .ref z28, .int 9, .int 0, .int 0, .ref z6, .ref z29, .ref z7, .int 0, .int 2, .ref z19, .ref z8, .ref z9, .ref z10, .int 0, .ref z11, .int 0, .ref z30, .ref z31, .ref z32, .ref z33, .int 0, .ref z12, .int 0, .int 0, .ref z34, .ref z35, .ref z36, .ref z37, .int 0, .int 0, .int 0, .int 0, .ref z38, .int 0, .ref z39, .ref z40, .ref z41, .ref z42, .int 0, .ref z13, .ref z14, .ref z15, .ref z16, .int 0, .ref z17, .ref z18, .ref z43])), (z19, .inl (G.1, 5, .inl (tI [0, 1, 2, 3, 4])))] H := hP
  have hD : va_D A [(h0, .inr (12, [.ref z0, .ref z1, .ref z2, .ref z3, .ref z4, .ref z5, .ref z20, .ref z21, .ref z22, .ref z23, .ref z24, .ref z25, .int 0, .ref z26, .ref z27, .ref z28, .int 9, .int 0, .int 0, .ref z6, .ref z29, .ref z7, .int 0, .int 2, .ref z19, .ref z8, .ref z9, .ref z10, .int 0, .ref z11, .int 0, .ref z30, .ref z31, .ref z32, .ref z33, .int 0, .ref z12, .int 0, .int 0, .ref z34, .ref z35, .ref z36, .ref z37, .int 0, .int 0, .int 0, .int 0, .ref z38, .int 0, .ref z39, .ref z40, .ref z41, .ref z42, .int 0, .ref z13, .ref z14, .ref z15, .ref z16, .int 0, .ref z17, .ref z18, .ref z43])), (z19, .inl (G.1, 5, .inl (tI [0, 1, 2, 3, 4])))] := hD
  refine lv_iload_n hx hb dX12_bar_5 rfl (lv_at hl 1 rfl) ?_
  refine lv_iconst (v := 0) hx hb dX12_bar_6 (by decide) ?_
  refine lv_aload_n hx hb dX12_bar_7 rfl (lv_at hl 0 rfl) ?_
  refine va_get (D := D) (ci := 12) (v := .int 2) (C := RX12) (T := TX12) (N := 62) hx hb hts iX12_bar_X12 hown hK hP 0 rfl rfl 23 (by decide) (hts (.fieldLink RX12 69 "PuppetBridgeModel" "bars" "I") mX12_bar_w1) (fun _ h9 => h9) rfl dX12_bar_8 ?_
  refine lv_iconst (v := 1) hx hb dX12_bar_11 (by decide) ?_
  refine lv_isub hx hb dX12_bar_12 ?_
  refine wk_i 1 (by decide) ?_
  have hPc := hP.sub (ws' := []) [] rfl
  have hDc := hD.sub (ws' := []) [] (by decide) rfl
  have hFc := va_free (wc := []) hD hS hA [] rfl
  refine va_calli (va_runS (As := [.int x1, .int 0, .int 1]) (rest := []) ⟨hx, hb, hml, hown, hts⟩ (kX12_in l D G x1 0 1 H.size) (va_cwS 3 hts gX12_bar_X12_in rfl rfl rfl (by decide +kernel) ⟨Nat.le_of_ble_eq_true rfl, Nat.le_of_ble_eq_true rfl⟩) ⟨wB_blind, wB_pre hPc hK hDc hN⟩ rfl rfl hl.1 rfl (lv_room (Nat.le_of_ble_eq_true rfl)) dX12_bar_13 ⟨Nat.le_of_ble_eq_true rfl, Nat.le_of_ble_eq_true rfl⟩) hS (fun q _ h => hFc q h) hFc (fun r1 u t H1 locs ht hvm hr1 hB hz1 hk1 hS => ?_)
  obtain ⟨hP, hD⟩ := va_join (wr := [(h0, .inr (12, [.ref z0, .ref z1, .ref z2, .ref z3, .ref z4, .ref z5, .ref z20, .ref z21, .ref z22, .ref z23, .ref z24, .ref z25, .int 0, .ref z26, .ref z27, .ref z28, .int 9, .int 0, .int 0, .ref z6, .ref z29, .ref z7, .int 0, .int 2, .ref z19, .ref z8, .ref z9, .ref z10, .int 0, .ref z11, .int 0, .ref z30, .ref z31, .ref z32, .ref z33, .int 0, .ref z12, .int 0, .int 0, .ref z34, .ref z35, .ref z36, .ref z37, .int 0, .int 0, .int 0, .int 0, .ref z38, .int 0, .ref z39, .ref z40, .ref z41, .ref z42, .int 0, .ref z13, .ref z14, .ref z15, .ref z16, .int 0, .ref z17, .ref z18, .ref z43])), (z19, .inl (G.1, 5, .inl (tI [0, 1, 2, 3, 4])))]) (w1 := []) hP hD [] [0, 1] rfl rfl (by decide) (by decide) hk1 hFc wP_nil wD_nil
  clear hPc hDc
  generalize H1 = H at hP hS ⊢
  have hP : va_P D vwCl [(h0, .inr (12, [.ref z0, .ref z1, .ref z2, .ref z3, .ref z4, .ref z5, .ref z20, .ref z21, .ref z22, .ref z23, .ref z24, .ref z25, .int 0, .ref z26, .ref z27, .ref z28, .int 9, .int 0, .int 0, .ref z6, .ref z29, .ref z7, .int 0, .int 2, .ref z19, .ref z8, .ref z9, .ref z10, .int 0, .ref z11, .int 0, .ref z30, .ref z31, .ref z32, .ref z33, .int 0, .ref z12, .int 0, .int 0, .ref z34, .ref z35, .ref z36, .ref z37, .int 0, .int 0, .int 0, .int 0, .ref z38, .int 0, .ref z39, .ref z40, .ref z41, .ref z42, .int 0, .ref z13, .ref z14, .ref z15, .ref z16, .int 0, .ref z17, .ref z18, .ref z43])), (z19, .inl (G.1, 5, .inl (tI [0, 1, 2, 3, 4])))] H := hP
  have hD : va_D A [(h0, .inr (12, [.ref z0, .ref z1, .ref z2, .ref z3, .ref z4, .ref z5, .ref z20, .ref z21, .ref z22, .ref z23, .ref z24, .ref z25, .int 0, .ref z26, .ref z27, .ref z28, .int 9, .int 0, .int 0, .ref z6, .ref z29, .ref z7, .int 0, .int 2, .ref z19, .ref z8, .ref z9, .ref z10, .int 0, .ref z11, .int 0, .ref z30, .ref z31, .ref z32, .ref z33, .int 0, .ref z12, .int 0, .int 0, .ref z34, .ref z35, .ref z36, .ref z37, .int 0, .int 0, .int 0, .int 0, .ref z38, .int 0, .ref z39, .ref z40, .ref z41, .ref z42, .int 0, .ref z13, .ref z14, .ref z15, .ref z16, .int 0, .ref z17, .ref z18, .ref z43])), (z19, .inl (G.1, 5, .inl (tI [0, 1, 2, 3, 4])))] := hD
  refine lv_if_eq (tgt := 28) hx hb dX12_bar_16 (by decide) (fun c2 => ?_) (fun c2 => ?_)
  · have kc2 : (inB x1 0 1) = false := wk_b0 hr1 c2
    refine lv_iconst (v := (-1)) hx hb dX12_bar_28 (by decide) ?_
    exact W.iret (v := (-1)) hx hb hr (fun t ht hW => ⟨⟨(-1), (), rfl, by first | (simp [kc2]; done) | rfl, trivial⟩, hS.F ht⟩) hS.2.2 dX12_bar_29
  · have kc2 : (inB x1 0 1) = true := wk_b1 hr1 c2
    rcases (inB_01 kc2) with rfl | rfl
    · refine lv_aload_n hx hb dX12_bar_19 rfl (lv_at hl 0 rfl) ?_
      refine va_get (D := D) (ci := 12) (v := .ref z19) (C := RX12) (T := TX12) (N := 62) hx hb hts iX12_bar_X12 hown hK hP 0 rfl rfl 24 (by decide) (hts (.fieldLink RX12 72 "PuppetBridgeModel" "spots" "[I") mX12_bar_w2) (fun _ h9 => h9) rfl dX12_bar_20 ?_
      refine lv_iload_n hx hb dX12_bar_23 rfl (lv_at hl 1 rfl) ?_
      refine va_iald hx hb hK hP 1 0 rfl rfl (wk_in rfl) dX12_bar_24 ?_
      refine wk_i 0 rfl ?_
      refine lv_goto (tgt := 29) hx hb dX12_bar_25 (by decide) ?_
      exact W.iret (v := 0) hx hb hr (fun t ht hW => ⟨⟨0, (), rfl, by decide, trivial⟩, hS.F ht⟩) hS.2.2 dX12_bar_29
    · refine lv_aload_n hx hb dX12_bar_19 rfl (lv_at hl 0 rfl) ?_
      refine va_get (D := D) (ci := 12) (v := .ref z19) (C := RX12) (T := TX12) (N := 62) hx hb hts iX12_bar_X12 hown hK hP 0 rfl rfl 24 (by decide) (hts (.fieldLink RX12 72 "PuppetBridgeModel" "spots" "[I") mX12_bar_w2) (fun _ h9 => h9) rfl dX12_bar_20 ?_
      refine lv_iload_n hx hb dX12_bar_23 rfl (lv_at hl 1 rfl) ?_
      refine va_iald hx hb hK hP 1 0 rfl rfl (wk_in rfl) dX12_bar_24 ?_
      refine wk_i 1 rfl ?_
      refine lv_goto (tgt := 29) hx hb dX12_bar_25 (by decide) ?_
      exact W.iret (v := 1) hx hb hr (fun t ht hW => ⟨⟨1, (), rfl, by decide, trivial⟩, hS.F ht⟩) hS.2.2 dX12_bar_29

theorem mX12_wound_w0 : Cond.fieldLink RX12 157 "PuppetBridgeModel" "thrown" "I" ∈ wsX12_wound := by decide +kernel
theorem mX12_wound_w1 : Cond.fieldLink RX12 69 "PuppetBridgeModel" "bars" "I" ∈ wsX12_wound := by decide +kernel
theorem mX12_wound_w2 : Cond.fieldLink RX12 297 "PuppetBridgeModel" "passMany" "I" ∈ wsX12_wound := by decide +kernel
theorem iX12_wound_X12 : ∀ w ∈ wsX120, w ∈ wsX12_wound := fun _ h => List.mem_cons_of_mem _ (List.mem_append_right _ h)
set_option maxRecDepth 20000 in
theorem ggX12_wound_X12_in : GoodIn wsX12_wound wsX12_in := goodIn_r _ [10] (by decide +kernel) (by decide +kernel)
set_option maxRecDepth 20000 in
theorem gX12_wound_X12_in : GoodIn wsX12_wound (va_wsS RX12 163 yX12_in wsX12_in) := goodIn_app (goodIn_of _ (by decide +kernel)) ggX12_wound_X12_in
theorem dX12_wound_0 : decode cX12_wound 0 = .ok (.aload_n 0, 1) := by decide +kernel
theorem dX12_wound_1 : decode cX12_wound 1 = .ok (.iconst 0, 1) := by decide +kernel
theorem dX12_wound_2 : decode cX12_wound 2 = .ok (.putfield 157, 3) := by decide +kernel
theorem dX12_wound_5 : decode cX12_wound 5 = .ok (.iload_n 1, 1) := by decide +kernel
theorem dX12_wound_6 : decode cX12_wound 6 = .ok (.iconst 0, 1) := by decide +kernel
theorem dX12_wound_7 : decode cX12_wound 7 = .ok (.aload_n 0, 1) := by decide +kernel
theorem dX12_wound_8 : decode cX12_wound 8 = .ok (.getfield 69, 3) := by decide +kernel
theorem dX12_wound_11 : decode cX12_wound 11 = .ok (.iconst 1, 1) := by decide +kernel
theorem dX12_wound_12 : decode cX12_wound 12 = .ok (.isub, 1) := by decide +kernel
theorem dX12_wound_13 : decode cX12_wound 13 = .ok (.invokestatic 163, 3) := by decide +kernel
theorem dX12_wound_16 : decode cX12_wound 16 = .ok (.ifCond .eq 22, 3) := by decide +kernel
theorem dX12_wound_19 : decode cX12_wound 19 = .ok (.iload_n 2, 1) := by decide +kernel
theorem dX12_wound_20 : decode cX12_wound 20 = .ok (.iconst 0, 1) := by decide +kernel
theorem dX12_wound_21 : decode cX12_wound 21 = .ok (.aload_n 0, 1) := by decide +kernel
theorem dX12_wound_22 : decode cX12_wound 22 = .ok (.getfield 69, 3) := by decide +kernel
theorem dX12_wound_25 : decode cX12_wound 25 = .ok (.iconst 1, 1) := by decide +kernel
theorem dX12_wound_26 : decode cX12_wound 26 = .ok (.isub, 1) := by decide +kernel
theorem dX12_wound_27 : decode cX12_wound 27 = .ok (.invokestatic 163, 3) := by decide +kernel
theorem dX12_wound_30 : decode cX12_wound 30 = .ok (.ifCond .eq 8, 3) := by decide +kernel
theorem dX12_wound_33 : decode cX12_wound 33 = .ok (.iload_n 1, 1) := by decide +kernel
theorem dX12_wound_34 : decode cX12_wound 34 = .ok (.iload_n 2, 1) := by decide +kernel
theorem dX12_wound_35 : decode cX12_wound 35 = .ok (.if_icmp .ne 7, 3) := by decide +kernel
theorem dX12_wound_38 : decode cX12_wound 38 = .ok (.sipush (-1000), 3) := by decide +kernel
theorem dX12_wound_41 : decode cX12_wound 41 = .ok (.ireturn, 1) := by decide +kernel
theorem dX12_wound_42 : decode cX12_wound 42 = .ok (.iconst 0, 1) := by decide +kernel
theorem dX12_wound_43 : decode cX12_wound 43 = .ok (.istore_n 3, 1) := by decide +kernel
theorem dX12_wound_44 : decode cX12_wound 44 = .ok (.iconst 0, 1) := by decide +kernel
theorem dX12_wound_45 : decode cX12_wound 45 = .ok (.istore 4, 2) := by decide +kernel
theorem dX12_wound_47 : decode cX12_wound 47 = .ok (.iload 4, 2) := by decide +kernel
theorem dX12_wound_49 : decode cX12_wound 49 = .ok (.aload_n 0, 1) := by decide +kernel
theorem dX12_wound_50 : decode cX12_wound 50 = .ok (.getfield 297, 3) := by decide +kernel
theorem dX12_wound_53 : decode cX12_wound 53 = .ok (.if_icmp .ge 74, 3) := by decide +kernel
theorem dX12_wound_127 : decode cX12_wound 127 = .ok (.iload_n 3, 1) := by decide +kernel
theorem dX12_wound_128 : decode cX12_wound 128 = .ok (.ireturn, 1) := by decide +kernel
set_option maxHeartbeats 4000000 in
set_option maxRecDepth 100000 in
/-- X12_wound -/
theorem kX12_wound (l : Launch) (D : va_G) (G : tyG) (h0 : Nat) (x1 : Int32) (x2 : Int32) (z0 : Nat) (z1 : Nat) (z2 : Nat) (z3 : Nat) (z4 : Nat) (z5 : Nat) (z20 : Nat) (z21 : Nat) (z22 : Nat) (z23 : Nat) (z24 : Nat) (z25 : Nat) (z26 : Nat) (z27 : Nat) (z28 : Nat) (z6 : Nat) (z29 : Nat) (z7 : Nat) (z19 : Nat) (z8 : Nat) (z9 : Nat) (z10 : Nat) (z11 : Nat) (z30 : Nat) (z31 : Nat) (z32 : Nat) (z33 : Nat) (z12 : Nat) (z34 : Nat) (z35 : Nat) (z36 : Nat) (z37 : Nat) (z38 : Nat) (z39 : Nat) (z40 : Nat) (z41 : Nat) (z42 : Nat) (z13 : Nat) (z14 : Nat) (z15 : Nat) (z16 : Nat) (z17 : Nat) (z18 : Nat) (z43 : Nat) (sz : Nat) : Met l yX12_wound wsX12_wound ({ frames := 1, cells := 0, slots := 0, locals := 22 }) (va_Pc [.ref h0, .int x1, .int x2] (wB D G sz [(h0, .inr (12, [.ref z0, .ref z1, .ref z2, .ref z3, .ref z4, .ref z5, .ref z20, .ref z21, .ref z22, .ref z23, .ref z24, .ref z25, .int 0, .ref z26, .ref z27, .ref z28, .int 9, .int 0, .int 0, .ref z6, .ref z29, .ref z7, .int 0, .int 2, .ref z19, .ref z8, .ref z9, .ref z10, .int 0, .ref z11, .int 0, .ref z30, .ref z31, .ref z32, .ref z33, .int 0, .ref z12, .int 0, .int 0, .ref z34, .ref z35, .ref z36, .ref z37, .int 0, .int 0, .int 0, .int 0, .ref z38, .int 0, .ref z39, .ref z40, .ref z41, .ref z42, .int 0, .ref z13, .ref z14, .ref z15, .ref z16, .int 0, .ref z17, .ref z18, .ref z43]))])) (va_Qi (fun (r : Int32) (_ : Unit) => r = sWound x1 x2) (fun _ _ => True) (va_A [(h0, .inr (12, [.ref z0, .ref z1, .ref z2, .ref z3, .ref z4, .ref z5, .ref z20, .ref z21, .ref z22, .ref z23, .ref z24, .ref z25, .int 0, .ref z26, .ref z27, .ref z28, .int 9, .int 0, .int 0, .ref z6, .ref z29, .ref z7, .int 0, .int 2, .ref z19, .ref z8, .ref z9, .ref z10, .int 0, .ref z11, .int 0, .ref z30, .ref z31, .ref z32, .ref z33, .int 0, .ref z12, .int 0, .int 0, .ref z34, .ref z35, .ref z36, .ref z37, .int 0, .int 0, .int 0, .int 0, .ref z38, .int 0, .ref z39, .ref z40, .ref z41, .ref z42, .int 0, .ref z13, .ref z14, .ref z15, .ref z16, .int 0, .ref z17, .ref z18, .ref z43]))] sz)) 0 0 (va_A [(h0, .inr (12, [.ref z0, .ref z1, .ref z2, .ref z3, .ref z4, .ref z5, .ref z20, .ref z21, .ref z22, .ref z23, .ref z24, .ref z25, .int 0, .ref z26, .ref z27, .ref z28, .int 9, .int 0, .int 0, .ref z6, .ref z29, .ref z7, .int 0, .int 2, .ref z19, .ref z8, .ref z9, .ref z10, .int 0, .ref z11, .int 0, .ref z30, .ref z31, .ref z32, .ref z33, .int 0, .ref z12, .int 0, .int 0, .ref z34, .ref z35, .ref z36, .ref z37, .int 0, .int 0, .int 0, .int 0, .ref z38, .int 0, .ref z39, .ref z40, .ref z41, .ref z42, .int 0, .ref z13, .ref z14, .ref z15, .ref z16, .int 0, .ref z17, .ref z18, .ref z43]))] sz) := by
  refine Met.ofW (cc := cX12_wound) (maxL := 5) (ret := (some .int)) (by decide) rfl ?_
  intro p e s m args below meth c s₁ B hml hv
  obtain ⟨rfl, hsz, hP, hK, hD0, hN⟩ := hv
  have hx := B.exec
  have hb := B.bytes
  have hr := B.returns
  have hts := atoms_spec (ws := wsX12_wound) B.pre
  have hown : s.vm.findClass RX12 = some m.cls := findClass_of_methodNamed B.named
  have hlocks := B.notSynchronized
  subst hsz
  have hD := hD0.self (sz := s.heap.size)
  generalize hAe : va_A [(h0, .inr (12, [.ref z0, .ref z1, .ref z2, .ref z3, .ref z4, .ref z5, .ref z20, .ref z21, .ref z22, .ref z23, .ref z24, .ref z25, .int 0, .ref z26, .ref z27, .ref z28, .int 9, .int 0, .int 0, .ref z6, .ref z29, .ref z7, .int 0, .int 2, .ref z19, .ref z8, .ref z9, .ref z10, .int 0, .ref z11, .int 0, .ref z30, .ref z31, .ref z32, .ref z33, .int 0, .ref z12, .int 0, .int 0, .ref z34, .ref z35, .ref z36, .ref z37, .int 0, .int 0, .int 0, .int 0, .ref z38, .int 0, .ref z39, .ref z40, .ref z41, .ref z42, .int 0, .ref z13, .ref z14, .ref z15, .ref z16, .int 0, .ref z17, .ref z18, .ref z43]))] s.heap.size = A at hD ⊢
  have hA : ∀ q : Nat, s.heap.size ≤ q → A q := fun q h => by rw [← hAe]; exact Or.inr h
  have hS : va_S A s.heap s.heap [] := va_S.rf
  have hP : va_P D vwCl [(h0, .inr (12, [.ref z0, .ref z1, .ref z2, .ref z3, .ref z4, .ref z5, .ref z20, .ref z21, .ref z22, .ref z23, .ref z24, .ref z25, .int 0, .ref z26, .ref z27, .ref z28, .int 9, .int 0, .int 0, .ref z6, .ref z29, .ref z7, .int 0, .int 2, .ref z19, .ref z8, .ref z9, .ref z10, .int 0, .ref z11, .int 0, .ref z30, .ref z31, .ref z32, .ref z33, .int 0, .ref z12, .int 0, .int 0, .ref z34, .ref z35, .ref z36, .ref z37, .int 0, .int 0, .int 0, .int 0, .ref z38, .int 0, .ref z39, .ref z40, .ref z41, .ref z42, .int 0, .ref z13, .ref z14, .ref z15, .ref z16, .int 0, .ref z17, .ref z18, .ref z43]))] s.heap := hP
  have hl := lv_entry ([.ref h0, .int x1, .int x2]) (n := 5) (Nat.le_of_ble_eq_true rfl)
  rw [lg_entry_eq]
  generalize (lg_sl ([.ref h0, .int x1, .int x2]) ++ List.replicate (5 - (lg_sl ([.ref h0, .int x1, .int x2])).length) Slot.unset).toArray = ls at hl ⊢
  have hl : lv_has ls 5 [(0, .ref h0), (1, .int x1), (2, .int x2)] := hl
  refine lv_aload_n hx hb dX12_wound_0 rfl (lv_at hl 0 rfl) ?_
  refine lv_iconst (v := 0) hx hb dX12_wound_1 (by decide) ?_
  refine va_put (D := D) (ci := 12) (v := .int 0) (ty := (tyX12 38)) (C := RX12) (T := TX12) (N := 62) hx hb hts iX12_wound_X12 tyX12 tyX12_ok nmX12 hown hK hP hD hS 0 rfl rfl 38 (by decide) (hts (.fieldLink RX12 157 "PuppetBridgeModel" "thrown" "I") mX12_wound_w0) (fun _ h9 => h9) rfl (tyX12_ok 38 (by decide)) rfl rfl (Nat.le_of_ble_eq_true rfl) dX12_wound_2 (fun H locs hP hD hS => ?_)
  have hP : va_P D vwCl [(h0, .inr (12, [.ref z0, .ref z1, .ref z2, .ref z3, .ref z4, .ref z5, .ref z20, .ref z21, .ref z22, .ref z23, .ref z24, .ref z25, .int 0, .ref z26, .ref z27, .ref z28, .int 9, .int 0, .int 0, .ref z6, .ref z29, .ref z7, .int 0, .int 2, .ref z19, .ref z8, .ref z9, .ref z10, .int 0, .ref z11, .int 0, .ref z30, .ref z31, .ref z32, .ref z33, .int 0, .ref z12, .int 0, .int 0, .ref z34, .ref z35, .ref z36, .ref z37, .int 0, .int 0, .int 0, .int 0, .ref z38, .int 0, .ref z39, .ref z40, .ref z41, .ref z42, .int 0, .ref z13, .ref z14, .ref z15, .ref z16, .int 0, .ref z17, .ref z18, .ref z43]))] H := hP
  have hD : va_D A [(h0, .inr (12, [.ref z0, .ref z1, .ref z2, .ref z3, .ref z4, .ref z5, .ref z20, .ref z21, .ref z22, .ref z23, .ref z24, .ref z25, .int 0, .ref z26, .ref z27, .ref z28, .int 9, .int 0, .int 0, .ref z6, .ref z29, .ref z7, .int 0, .int 2, .ref z19, .ref z8, .ref z9, .ref z10, .int 0, .ref z11, .int 0, .ref z30, .ref z31, .ref z32, .ref z33, .int 0, .ref z12, .int 0, .int 0, .ref z34, .ref z35, .ref z36, .ref z37, .int 0, .int 0, .int 0, .int 0, .ref z38, .int 0, .ref z39, .ref z40, .ref z41, .ref z42, .int 0, .ref z13, .ref z14, .ref z15, .ref z16, .int 0, .ref z17, .ref z18, .ref z43]))] := hD
  refine lv_iload_n hx hb dX12_wound_5 rfl (lv_at hl 1 rfl) ?_
  refine lv_iconst (v := 0) hx hb dX12_wound_6 (by decide) ?_
  refine lv_aload_n hx hb dX12_wound_7 rfl (lv_at hl 0 rfl) ?_
  refine va_get (D := D) (ci := 12) (v := .int 2) (C := RX12) (T := TX12) (N := 62) hx hb hts iX12_wound_X12 hown hK hP 0 rfl rfl 23 (by decide) (hts (.fieldLink RX12 69 "PuppetBridgeModel" "bars" "I") mX12_wound_w1) (fun _ h9 => h9) rfl dX12_wound_8 ?_
  refine lv_iconst (v := 1) hx hb dX12_wound_11 (by decide) ?_
  refine lv_isub hx hb dX12_wound_12 ?_
  refine wk_i 1 (by decide) ?_
  have hPc := hP.sub (ws' := []) [] rfl
  have hDc := hD.sub (ws' := []) [] (by decide) rfl
  have hFc := va_free (wc := []) hD hS hA [] rfl
  refine va_calli (va_runS (As := [.int x1, .int 0, .int 1]) (rest := []) ⟨hx, hb, hml, hown, hts⟩ (kX12_in l D G x1 0 1 H.size) (va_cwS 3 hts gX12_wound_X12_in rfl rfl rfl (by decide +kernel) ⟨Nat.le_of_ble_eq_true rfl, Nat.le_of_ble_eq_true rfl⟩) ⟨wB_blind, wB_pre hPc hK hDc hN⟩ rfl rfl hl.1 rfl (lv_room (Nat.le_of_ble_eq_true rfl)) dX12_wound_13 ⟨Nat.le_of_ble_eq_true rfl, Nat.le_of_ble_eq_true rfl⟩) hS (fun q _ h => hFc q h) hFc (fun r1 u t H1 locs ht hvm hr1 hB hz1 hk1 hS => ?_)
  obtain ⟨hP, hD⟩ := va_join (wr := [(h0, .inr (12, [.ref z0, .ref z1, .ref z2, .ref z3, .ref z4, .ref z5, .ref z20, .ref z21, .ref z22, .ref z23, .ref z24, .ref z25, .int 0, .ref z26, .ref z27, .ref z28, .int 9, .int 0, .int 0, .ref z6, .ref z29, .ref z7, .int 0, .int 2, .ref z19, .ref z8, .ref z9, .ref z10, .int 0, .ref z11, .int 0, .ref z30, .ref z31, .ref z32, .ref z33, .int 0, .ref z12, .int 0, .int 0, .ref z34, .ref z35, .ref z36, .ref z37, .int 0, .int 0, .int 0, .int 0, .ref z38, .int 0, .ref z39, .ref z40, .ref z41, .ref z42, .int 0, .ref z13, .ref z14, .ref z15, .ref z16, .int 0, .ref z17, .ref z18, .ref z43]))]) (w1 := []) hP hD [] [0] rfl rfl (by decide) (by decide) hk1 hFc wP_nil wD_nil
  clear hPc hDc
  generalize H1 = H at hP hS ⊢
  have hP : va_P D vwCl [(h0, .inr (12, [.ref z0, .ref z1, .ref z2, .ref z3, .ref z4, .ref z5, .ref z20, .ref z21, .ref z22, .ref z23, .ref z24, .ref z25, .int 0, .ref z26, .ref z27, .ref z28, .int 9, .int 0, .int 0, .ref z6, .ref z29, .ref z7, .int 0, .int 2, .ref z19, .ref z8, .ref z9, .ref z10, .int 0, .ref z11, .int 0, .ref z30, .ref z31, .ref z32, .ref z33, .int 0, .ref z12, .int 0, .int 0, .ref z34, .ref z35, .ref z36, .ref z37, .int 0, .int 0, .int 0, .int 0, .ref z38, .int 0, .ref z39, .ref z40, .ref z41, .ref z42, .int 0, .ref z13, .ref z14, .ref z15, .ref z16, .int 0, .ref z17, .ref z18, .ref z43]))] H := hP
  have hD : va_D A [(h0, .inr (12, [.ref z0, .ref z1, .ref z2, .ref z3, .ref z4, .ref z5, .ref z20, .ref z21, .ref z22, .ref z23, .ref z24, .ref z25, .int 0, .ref z26, .ref z27, .ref z28, .int 9, .int 0, .int 0, .ref z6, .ref z29, .ref z7, .int 0, .int 2, .ref z19, .ref z8, .ref z9, .ref z10, .int 0, .ref z11, .int 0, .ref z30, .ref z31, .ref z32, .ref z33, .int 0, .ref z12, .int 0, .int 0, .ref z34, .ref z35, .ref z36, .ref z37, .int 0, .int 0, .int 0, .int 0, .ref z38, .int 0, .ref z39, .ref z40, .ref z41, .ref z42, .int 0, .ref z13, .ref z14, .ref z15, .ref z16, .int 0, .ref z17, .ref z18, .ref z43]))] := hD
  refine lv_if_eq (tgt := 38) hx hb dX12_wound_16 (by decide) (fun c2 => ?_) (fun c2 => ?_)
  · have kc2 : (inB x1 0 1) = false := wk_b0 hr1 c2
    refine lv_sipush (v := (-1000)) hx hb dX12_wound_38 (by decide) ?_
    exact W.iret (v := (-1000)) hx hb hr (fun t ht hW => ⟨⟨(-1000), (), rfl, by first | (simp [sWound, kc2]; done) | rfl, trivial⟩, hS.F ht⟩) hS.2.2 dX12_wound_41
  · have kc2 : (inB x1 0 1) = true := wk_b1 hr1 c2
    refine lv_iload_n hx hb dX12_wound_19 rfl (lv_at hl 2 rfl) ?_
    refine lv_iconst (v := 0) hx hb dX12_wound_20 (by decide) ?_
    refine lv_aload_n hx hb dX12_wound_21 rfl (lv_at hl 0 rfl) ?_
    refine va_get (D := D) (ci := 12) (v := .int 2) (C := RX12) (T := TX12) (N := 62) hx hb hts iX12_wound_X12 hown hK hP 0 rfl rfl 23 (by decide) (hts (.fieldLink RX12 69 "PuppetBridgeModel" "bars" "I") mX12_wound_w1) (fun _ h9 => h9) rfl dX12_wound_22 ?_
    refine lv_iconst (v := 1) hx hb dX12_wound_25 (by decide) ?_
    refine lv_isub hx hb dX12_wound_26 ?_
    refine wk_i 1 (by decide) ?_
    have hPc := hP.sub (ws' := []) [] rfl
    have hDc := hD.sub (ws' := []) [] (by decide) rfl
    have hFc := va_free (wc := []) hD hS hA [] rfl
    refine va_calli (va_runS (As := [.int x2, .int 0, .int 1]) (rest := []) ⟨hx, hb, hml, hown, hts⟩ (kX12_in l D G x2 0 1 H.size) (va_cwS 3 hts gX12_wound_X12_in rfl rfl rfl (by decide +kernel) ⟨Nat.le_of_ble_eq_true rfl, Nat.le_of_ble_eq_true rfl⟩) ⟨wB_blind, wB_pre hPc hK hDc hN⟩ rfl rfl hl.1 rfl (lv_room (Nat.le_of_ble_eq_true rfl)) dX12_wound_27 ⟨Nat.le_of_ble_eq_true rfl, Nat.le_of_ble_eq_true rfl⟩) hS (fun q _ h => hFc q h) hFc (fun r3 u t H1 locs ht hvm hr3 hB hz1 hk1 hS => ?_)
    obtain ⟨hP, hD⟩ := va_join (wr := [(h0, .inr (12, [.ref z0, .ref z1, .ref z2, .ref z3, .ref z4, .ref z5, .ref z20, .ref z21, .ref z22, .ref z23, .ref z24, .ref z25, .int 0, .ref z26, .ref z27, .ref z28, .int 9, .int 0, .int 0, .ref z6, .ref z29, .ref z7, .int 0, .int 2, .ref z19, .ref z8, .ref z9, .ref z10, .int 0, .ref z11, .int 0, .ref z30, .ref z31, .ref z32, .ref z33, .int 0, .ref z12, .int 0, .int 0, .ref z34, .ref z35, .ref z36, .ref z37, .int 0, .int 0, .int 0, .int 0, .ref z38, .int 0, .ref z39, .ref z40, .ref z41, .ref z42, .int 0, .ref z13, .ref z14, .ref z15, .ref z16, .int 0, .ref z17, .ref z18, .ref z43]))]) (w1 := []) hP hD [] [0] rfl rfl (by decide) (by decide) hk1 hFc wP_nil wD_nil
    clear hPc hDc
    generalize H1 = H at hP hS ⊢
    have hP : va_P D vwCl [(h0, .inr (12, [.ref z0, .ref z1, .ref z2, .ref z3, .ref z4, .ref z5, .ref z20, .ref z21, .ref z22, .ref z23, .ref z24, .ref z25, .int 0, .ref z26, .ref z27, .ref z28, .int 9, .int 0, .int 0, .ref z6, .ref z29, .ref z7, .int 0, .int 2, .ref z19, .ref z8, .ref z9, .ref z10, .int 0, .ref z11, .int 0, .ref z30, .ref z31, .ref z32, .ref z33, .int 0, .ref z12, .int 0, .int 0, .ref z34, .ref z35, .ref z36, .ref z37, .int 0, .int 0, .int 0, .int 0, .ref z38, .int 0, .ref z39, .ref z40, .ref z41, .ref z42, .int 0, .ref z13, .ref z14, .ref z15, .ref z16, .int 0, .ref z17, .ref z18, .ref z43]))] H := hP
    have hD : va_D A [(h0, .inr (12, [.ref z0, .ref z1, .ref z2, .ref z3, .ref z4, .ref z5, .ref z20, .ref z21, .ref z22, .ref z23, .ref z24, .ref z25, .int 0, .ref z26, .ref z27, .ref z28, .int 9, .int 0, .int 0, .ref z6, .ref z29, .ref z7, .int 0, .int 2, .ref z19, .ref z8, .ref z9, .ref z10, .int 0, .ref z11, .int 0, .ref z30, .ref z31, .ref z32, .ref z33, .int 0, .ref z12, .int 0, .int 0, .ref z34, .ref z35, .ref z36, .ref z37, .int 0, .int 0, .int 0, .int 0, .ref z38, .int 0, .ref z39, .ref z40, .ref z41, .ref z42, .int 0, .ref z13, .ref z14, .ref z15, .ref z16, .int 0, .ref z17, .ref z18, .ref z43]))] := hD
    refine lv_if_eq (tgt := 38) hx hb dX12_wound_30 (by decide) (fun c4 => ?_) (fun c4 => ?_)
    · have kc4 : (inB x2 0 1) = false := wk_b0 hr3 c4
      refine lv_sipush (v := (-1000)) hx hb dX12_wound_38 (by decide) ?_
      exact W.iret (v := (-1000)) hx hb hr (fun t ht hW => ⟨⟨(-1000), (), rfl, by first | (simp [sWound, kc2, kc4]; done) | (simp [sWound, kc2]; done) | rfl, trivial⟩, hS.F ht⟩) hS.2.2 dX12_wound_41
    · have kc4 : (inB x2 0 1) = true := wk_b1 hr3 c4
      refine lv_iload_n hx hb dX12_wound_33 rfl (lv_at hl 1 rfl) ?_
      refine lv_iload_n hx hb dX12_wound_34 rfl (lv_at hl 2 rfl) ?_
      refine lv_icmp_ne (tgt := 42) hx hb dX12_wound_35 (by decide) (fun c5 => ?_) (fun c5 => ?_)
      · refine lv_iconst (v := 0) hx hb dX12_wound_42 (by decide) ?_
        refine lv_istore_n (lv' := [(3, .int 0), (0, .ref h0), (1, .int x1), (2, .int x2)]) hx hb dX12_wound_43 rfl hl (by decide) rfl (fun ls hl => ?_)
        refine lv_iconst (v := 0) hx hb dX12_wound_44 (by decide) ?_
        refine lv_istore (lv' := [(4, .int 0), (3, .int 0), (0, .ref h0), (1, .int x1), (2, .int x2)]) hx hb dX12_wound_45 hl (by decide) rfl (fun ls hl => ?_)
        refine lv_iload hx hb dX12_wound_47 (lv_at hl 0 rfl) ?_
        refine lv_aload_n hx hb dX12_wound_49 rfl (lv_at hl 2 rfl) ?_
        refine va_get (D := D) (ci := 12) (v := .int 0) (C := RX12) (T := TX12) (N := 62) hx hb hts iX12_wound_X12 hown hK hP 0 rfl rfl 28 (by decide) (hts (.fieldLink RX12 297 "PuppetBridgeModel" "passMany" "I") mX12_wound_w2) (fun _ h9 => h9) rfl dX12_wound_50 ?_
        refine lv_icmp_ge (tgt := 127) hx hb dX12_wound_53 (by decide) (fun _ => ?_) (fun h9 => absurd h9 (by decide))
        refine lv_iload_n hx hb dX12_wound_127 rfl (lv_at hl 1 rfl) ?_
        exact W.iret (v := 0) hx hb hr (fun t ht hW => ⟨⟨0, (), rfl, by first | (simp [sWound, kc2, kc4, c5]; done) | (simp [sWound, kc2, kc4]; done) | (simp [sWound, kc2]; done) | rfl, trivial⟩, hS.F ht⟩) hS.2.2 dX12_wound_128
      · refine lv_sipush (v := (-1000)) hx hb dX12_wound_38 (by decide) ?_
        exact W.iret (v := (-1000)) hx hb hr (fun t ht hW => ⟨⟨(-1000), (), rfl, by first | (simp [sWound, kc2, kc4, c5]; done) | (simp [sWound, kc2, kc4]; done) | (simp [sWound, kc2]; done) | rfl, trivial⟩, hS.F ht⟩) hS.2.2 dX12_wound_41

theorem mX12_isPass_w0 : Cond.methodLink RX12 309 Lib.MathLoose.abs_long.x ∈ wsX12_isPass := by decide +kernel
theorem mX12_isPass_w1 : Cond.static Lib.MathLoose.abs_long.x ∈ wsX12_isPass := by decide +kernel
theorem mX12_isPass_w2 : Cond.initialized "java/lang/Math" ∈ wsX12_isPass := by decide +kernel
theorem mX12_isPass_w3 : Cond.code Lib.MathLoose.abs_long.x Lib.MathLoose.abs_long.code 2 (some .long) ∈ wsX12_isPass := by decide +kernel
theorem mX12_isPass_w4 : Cond.fieldLink RX12 69 "PuppetBridgeModel" "bars" "I" ∈ wsX12_isPass := by decide +kernel
theorem iX12_isPass_X12 : ∀ w ∈ wsX120, w ∈ wsX12_isPass := fun _ h => List.mem_cons_of_mem _ (List.mem_append_right _ h)
theorem dX12_isPass_0 : decode cX12_isPass 0 = .ok (.iload_n 1, 1) := by decide +kernel
theorem dX12_isPass_1 : decode cX12_isPass 1 = .ok (.ifCond .eq 21, 3) := by decide +kernel
theorem dX12_isPass_4 : decode cX12_isPass 4 = .ok (.iload_n 1, 1) := by decide +kernel
theorem dX12_isPass_5 : decode cX12_isPass 5 = .ok (.i2l, 1) := by decide +kernel
theorem dX12_isPass_6 : decode cX12_isPass 6 = .ok (.invokestatic 309, 3) := by decide +kernel
theorem dX12_isPass_9 : decode cX12_isPass 9 = .ok (.aload_n 0, 1) := by decide +kernel
theorem dX12_isPass_10 : decode cX12_isPass 10 = .ok (.getfield 69, 3) := by decide +kernel
theorem dX12_isPass_13 : decode cX12_isPass 13 = .ok (.i2l, 1) := by decide +kernel
theorem dX12_isPass_14 : decode cX12_isPass 14 = .ok (.lcmp, 1) := by decide +kernel
theorem dX12_isPass_15 : decode cX12_isPass 15 = .ok (.ifCond .ge 7, 3) := by decide +kernel
theorem dX12_isPass_18 : decode cX12_isPass 18 = .ok (.iconst 1, 1) := by decide +kernel
theorem dX12_isPass_19 : decode cX12_isPass 19 = .ok (.goto 4, 3) := by decide +kernel
theorem dX12_isPass_22 : decode cX12_isPass 22 = .ok (.iconst 0, 1) := by decide +kernel
theorem dX12_isPass_23 : decode cX12_isPass 23 = .ok (.ireturn, 1) := by decide +kernel
set_option maxHeartbeats 4000000 in
set_option maxRecDepth 100000 in
/-- X12_isPass -/
theorem kX12_isPass (l : Launch) (D : va_G) (G : tyG) (h0 : Nat) (i : Int32) (z0 : Nat) (z1 : Nat) (z2 : Nat) (z3 : Nat) (z4 : Nat) (z5 : Nat) (z20 : Nat) (z21 : Nat) (z22 : Nat) (z23 : Nat) (z24 : Nat) (z25 : Nat) (z26 : Nat) (z27 : Nat) (z28 : Nat) (z6 : Nat) (z29 : Nat) (z7 : Nat) (z19 : Nat) (z8 : Nat) (z9 : Nat) (z10 : Nat) (z11 : Nat) (z30 : Nat) (z31 : Nat) (z32 : Nat) (z33 : Nat) (z12 : Nat) (z34 : Nat) (z35 : Nat) (z36 : Nat) (z37 : Nat) (z38 : Nat) (z39 : Nat) (z40 : Nat) (z41 : Nat) (z42 : Nat) (z13 : Nat) (z14 : Nat) (z15 : Nat) (z16 : Nat) (z17 : Nat) (z18 : Nat) (z43 : Nat) (sz : Nat) : Met l yX12_isPass wsX12_isPass ({ frames := 1, cells := 0, slots := 0, locals := 32 }) (va_Pc [.ref h0, .int i] (wB D G sz [(h0, .inr (12, [.ref z0, .ref z1, .ref z2, .ref z3, .ref z4, .ref z5, .ref z20, .ref z21, .ref z22, .ref z23, .ref z24, .ref z25, .int 0, .ref z26, .ref z27, .ref z28, .int 9, .int 0, .int 0, .ref z6, .ref z29, .ref z7, .int 0, .int 2, .ref z19, .ref z8, .ref z9, .ref z10, .int 0, .ref z11, .int 0, .ref z30, .ref z31, .ref z32, .ref z33, .int 0, .ref z12, .int 0, .int 0, .ref z34, .ref z35, .ref z36, .ref z37, .int 0, .int 0, .int 0, .int 0, .ref z38, .int 0, .ref z39, .ref z40, .ref z41, .ref z42, .int 0, .ref z13, .ref z14, .ref z15, .ref z16, .int 0, .ref z17, .ref z18, .ref z43]))])) (va_Qi (fun (r : Int32) (_ : Unit) => r = if (inB i 1 1 || inB i (-1) (-1)) = true then 1 else 0) (fun _ t => wS D G (va_A [(h0, .inr (12, [.ref z0, .ref z1, .ref z2, .ref z3, .ref z4, .ref z5, .ref z20, .ref z21, .ref z22, .ref z23, .ref z24, .ref z25, .int 0, .ref z26, .ref z27, .ref z28, .int 9, .int 0, .int 0, .ref z6, .ref z29, .ref z7, .int 0, .int 2, .ref z19, .ref z8, .ref z9, .ref z10, .int 0, .ref z11, .int 0, .ref z30, .ref z31, .ref z32, .ref z33, .int 0, .ref z12, .int 0, .int 0, .ref z34, .ref z35, .ref z36, .ref z37, .int 0, .int 0, .int 0, .int 0, .ref z38, .int 0, .ref z39, .ref z40, .ref z41, .ref z42, .int 0, .ref z13, .ref z14, .ref z15, .ref z16, .int 0, .ref z17, .ref z18, .ref z43]))] sz) [(h0, .inr (12, [.ref z0, .ref z1, .ref z2, .ref z3, .ref z4, .ref z5, .ref z20, .ref z21, .ref z22, .ref z23, .ref z24, .ref z25, .int 0, .ref z26, .ref z27, .ref z28, .int 9, .int 0, .int 0, .ref z6, .ref z29, .ref z7, .int 0, .int 2, .ref z19, .ref z8, .ref z9, .ref z10, .int 0, .ref z11, .int 0, .ref z30, .ref z31, .ref z32, .ref z33, .int 0, .ref z12, .int 0, .int 0, .ref z34, .ref z35, .ref z36, .ref z37, .int 0, .int 0, .int 0, .int 0, .ref z38, .int 0, .ref z39, .ref z40, .ref z41, .ref z42, .int 0, .ref z13, .ref z14, .ref z15, .ref z16, .int 0, .ref z17, .ref z18, .ref z43]))] t) (va_A [(h0, .inr (12, [.ref z0, .ref z1, .ref z2, .ref z3, .ref z4, .ref z5, .ref z20, .ref z21, .ref z22, .ref z23, .ref z24, .ref z25, .int 0, .ref z26, .ref z27, .ref z28, .int 9, .int 0, .int 0, .ref z6, .ref z29, .ref z7, .int 0, .int 2, .ref z19, .ref z8, .ref z9, .ref z10, .int 0, .ref z11, .int 0, .ref z30, .ref z31, .ref z32, .ref z33, .int 0, .ref z12, .int 0, .int 0, .ref z34, .ref z35, .ref z36, .ref z37, .int 0, .int 0, .int 0, .int 0, .ref z38, .int 0, .ref z39, .ref z40, .ref z41, .ref z42, .int 0, .ref z13, .ref z14, .ref z15, .ref z16, .int 0, .ref z17, .ref z18, .ref z43]))] sz)) 0 0 (va_A [(h0, .inr (12, [.ref z0, .ref z1, .ref z2, .ref z3, .ref z4, .ref z5, .ref z20, .ref z21, .ref z22, .ref z23, .ref z24, .ref z25, .int 0, .ref z26, .ref z27, .ref z28, .int 9, .int 0, .int 0, .ref z6, .ref z29, .ref z7, .int 0, .int 2, .ref z19, .ref z8, .ref z9, .ref z10, .int 0, .ref z11, .int 0, .ref z30, .ref z31, .ref z32, .ref z33, .int 0, .ref z12, .int 0, .int 0, .ref z34, .ref z35, .ref z36, .ref z37, .int 0, .int 0, .int 0, .int 0, .ref z38, .int 0, .ref z39, .ref z40, .ref z41, .ref z42, .int 0, .ref z13, .ref z14, .ref z15, .ref z16, .int 0, .ref z17, .ref z18, .ref z43]))] sz) := by
  refine Met.ofW (cc := cX12_isPass) (maxL := 2) (ret := (some .boolean)) (by decide) rfl ?_
  intro p e s m args below meth c s₁ B hml hv
  obtain ⟨rfl, hsz, hP, hK, hD0, hN⟩ := hv
  have hx := B.exec
  have hb := B.bytes
  have hr := B.returns
  have hts := atoms_spec (ws := wsX12_isPass) B.pre
  have hown : s.vm.findClass RX12 = some m.cls := findClass_of_methodNamed B.named
  have hlocks := B.notSynchronized
  subst hsz
  have hD := hD0.self (sz := s.heap.size)
  generalize hAe : va_A [(h0, .inr (12, [.ref z0, .ref z1, .ref z2, .ref z3, .ref z4, .ref z5, .ref z20, .ref z21, .ref z22, .ref z23, .ref z24, .ref z25, .int 0, .ref z26, .ref z27, .ref z28, .int 9, .int 0, .int 0, .ref z6, .ref z29, .ref z7, .int 0, .int 2, .ref z19, .ref z8, .ref z9, .ref z10, .int 0, .ref z11, .int 0, .ref z30, .ref z31, .ref z32, .ref z33, .int 0, .ref z12, .int 0, .int 0, .ref z34, .ref z35, .ref z36, .ref z37, .int 0, .int 0, .int 0, .int 0, .ref z38, .int 0, .ref z39, .ref z40, .ref z41, .ref z42, .int 0, .ref z13, .ref z14, .ref z15, .ref z16, .int 0, .ref z17, .ref z18, .ref z43]))] s.heap.size = A at hD ⊢
  have hA : ∀ q : Nat, s.heap.size ≤ q → A q := fun q h => by rw [← hAe]; exact Or.inr h
  have hS : va_S A s.heap s.heap [] := va_S.rf
  have hP : va_P D vwCl [(h0, .inr (12, [.ref z0, .ref z1, .ref z2, .ref z3, .ref z4, .ref z5, .ref z20, .ref z21, .ref z22, .ref z23, .ref z24, .ref z25, .int 0, .ref z26, .ref z27, .ref z28, .int 9, .int 0, .int 0, .ref z6, .ref z29, .ref z7, .int 0, .int 2, .ref z19, .ref z8, .ref z9, .ref z10, .int 0, .ref z11, .int 0, .ref z30, .ref z31, .ref z32, .ref z33, .int 0, .ref z12, .int 0, .int 0, .ref z34, .ref z35, .ref z36, .ref z37, .int 0, .int 0, .int 0, .int 0, .ref z38, .int 0, .ref z39, .ref z40, .ref z41, .ref z42, .int 0, .ref z13, .ref z14, .ref z15, .ref z16, .int 0, .ref z17, .ref z18, .ref z43]))] s.heap := hP
  have hl := lv_entry ([.ref h0, .int i]) (n := 2) (Nat.le_of_ble_eq_true rfl)
  rw [lg_entry_eq]
  generalize (lg_sl ([.ref h0, .int i]) ++ List.replicate (2 - (lg_sl ([.ref h0, .int i])).length) Slot.unset).toArray = ls at hl ⊢
  have hl : lv_has ls 2 [(0, .ref h0), (1, .int i)] := hl
  by_cases g1 : i = 1
  · subst g1
    refine lv_iload_n hx hb dX12_isPass_0 rfl (lv_at hl 1 rfl) ?_
    refine lv_if_eq (tgt := 22) hx hb dX12_isPass_1 (by decide) (fun h9 => absurd h9 (by decide)) (fun _ => ?_)
    refine lv_iload_n hx hb dX12_isPass_4 rfl (lv_at hl 1 rfl) ?_
    refine lv_i2l hx hb dX12_isPass_5 rfl ?_
    refine wk_l 1 (by decide) ?_
    refine va_mabs_long hx hb (by rw [hml]; exact hl.1.symm) hown (hts (.methodLink RX12 309 Lib.MathLoose.abs_long.x) mX12_isPass_w0) (hts (.static Lib.MathLoose.abs_long.x) mX12_isPass_w1) (hts (.initialized "java/lang/Math") mX12_isPass_w2) (hts (.code Lib.MathLoose.abs_long.x Lib.MathLoose.abs_long.code 2 (some .long)) mX12_isPass_w3) (Nat.le_of_ble_eq_true rfl) (Nat.le_of_ble_eq_true rfl) (Nat.le_of_ble_eq_true rfl) (Nat.le_of_ble_eq_true rfl) dX12_isPass_6 ?_
    refine wk_l 1 (by decide) ?_
    refine lv_aload_n hx hb dX12_isPass_9 rfl (lv_at hl 0 rfl) ?_
    refine va_get (D := D) (ci := 12) (v := .int 2) (C := RX12) (T := TX12) (N := 62) hx hb hts iX12_isPass_X12 hown hK hP 0 rfl rfl 23 (by decide) (hts (.fieldLink RX12 69 "PuppetBridgeModel" "bars" "I") mX12_isPass_w4) (fun _ h9 => h9) rfl dX12_isPass_10 ?_
    refine lv_i2l hx hb dX12_isPass_13 rfl ?_
    refine wk_l 2 (by decide) ?_
    refine W.lcmp hx hb dX12_isPass_14 ?_
    refine wk_i (-1) (by decide) ?_
    refine lv_if_ge (tgt := 22) hx hb dX12_isPass_15 (by decide) (fun h9 => absurd h9 (by decide)) (fun _ => ?_)
    refine lv_iconst (v := 1) hx hb dX12_isPass_18 (by decide) ?_
    refine lv_goto (tgt := 23) hx hb dX12_isPass_19 (by decide) ?_
    have hP9 := hP.sub (ws' := [(h0, .inr (12, [.ref z0, .ref z1, .ref z2, .ref z3, .ref z4, .ref z5, .ref z20, .ref z21, .ref z22, .ref z23, .ref z24, .ref z25, .int 0, .ref z26, .ref z27, .ref z28, .int 9, .int 0, .int 0, .ref z6, .ref z29, .ref z7, .int 0, .int 2, .ref z19, .ref z8, .ref z9, .ref z10, .int 0, .ref z11, .int 0, .ref z30, .ref z31, .ref z32, .ref z33, .int 0, .ref z12, .int 0, .int 0, .ref z34, .ref z35, .ref z36, .ref z37, .int 0, .int 0, .int 0, .int 0, .ref z38, .int 0, .ref z39, .ref z40, .ref z41, .ref z42, .int 0, .ref z13, .ref z14, .ref z15, .ref z16, .int 0, .ref z17, .ref z18, .ref z43]))]) [0] rfl
    have hD9 := hD.sub (ws' := [(h0, .inr (12, [.ref z0, .ref z1, .ref z2, .ref z3, .ref z4, .ref z5, .ref z20, .ref z21, .ref z22, .ref z23, .ref z24, .ref z25, .int 0, .ref z26, .ref z27, .ref z28, .int 9, .int 0, .int 0, .ref z6, .ref z29, .ref z7, .int 0, .int 2, .ref z19, .ref z8, .ref z9, .ref z10, .int 0, .ref z11, .int 0, .ref z30, .ref z31, .ref z32, .ref z33, .int 0, .ref z12, .int 0, .int 0, .ref z34, .ref z35, .ref z36, .ref z37, .int 0, .int 0, .int 0, .int 0, .ref z38, .int 0, .ref z39, .ref z40, .ref z41, .ref z42, .int 0, .ref z13, .ref z14, .ref z15, .ref z16, .int 0, .ref z17, .ref z18, .ref z43]))]) [0] (by decide) rfl
    exact W.zret (v := 1) hx hb hr rfl (fun t ht hW => ⟨⟨1, (), rfl, by decide, ⟨by rw [ht]; exact hP9, va_K.moved hW.alike hK, hD9⟩⟩, hS.F ht⟩) hS.2.2 dX12_isPass_23
  by_cases g2 : i = -1
  · subst g2
    refine lv_iload_n hx hb dX12_isPass_0 rfl (lv_at hl 1 rfl) ?_
    refine lv_if_eq (tgt := 22) hx hb dX12_isPass_1 (by decide) (fun h9 => absurd h9 (by decide)) (fun _ => ?_)
    refine lv_iload_n hx hb dX12_isPass_4 rfl (lv_at hl 1 rfl) ?_
    refine lv_i2l hx hb dX12_isPass_5 rfl ?_
    refine wk_l (-1) (by decide) ?_
    refine va_mabs_long hx hb (by rw [hml]; exact hl.1.symm) hown (hts (.methodLink RX12 309 Lib.MathLoose.abs_long.x) mX12_isPass_w0) (hts (.static Lib.MathLoose.abs_long.x) mX12_isPass_w1) (hts (.initialized "java/lang/Math") mX12_isPass_w2) (hts (.code Lib.MathLoose.abs_long.x Lib.MathLoose.abs_long.code 2 (some .long)) mX12_isPass_w3) (Nat.le_of_ble_eq_true rfl) (Nat.le_of_ble_eq_true rfl) (Nat.le_of_ble_eq_true rfl) (Nat.le_of_ble_eq_true rfl) dX12_isPass_6 ?_
    refine wk_l 1 (by decide) ?_
    refine lv_aload_n hx hb dX12_isPass_9 rfl (lv_at hl 0 rfl) ?_
    refine va_get (D := D) (ci := 12) (v := .int 2) (C := RX12) (T := TX12) (N := 62) hx hb hts iX12_isPass_X12 hown hK hP 0 rfl rfl 23 (by decide) (hts (.fieldLink RX12 69 "PuppetBridgeModel" "bars" "I") mX12_isPass_w4) (fun _ h9 => h9) rfl dX12_isPass_10 ?_
    refine lv_i2l hx hb dX12_isPass_13 rfl ?_
    refine wk_l 2 (by decide) ?_
    refine W.lcmp hx hb dX12_isPass_14 ?_
    refine wk_i (-1) (by decide) ?_
    refine lv_if_ge (tgt := 22) hx hb dX12_isPass_15 (by decide) (fun h9 => absurd h9 (by decide)) (fun _ => ?_)
    refine lv_iconst (v := 1) hx hb dX12_isPass_18 (by decide) ?_
    refine lv_goto (tgt := 23) hx hb dX12_isPass_19 (by decide) ?_
    have hP9 := hP.sub (ws' := [(h0, .inr (12, [.ref z0, .ref z1, .ref z2, .ref z3, .ref z4, .ref z5, .ref z20, .ref z21, .ref z22, .ref z23, .ref z24, .ref z25, .int 0, .ref z26, .ref z27, .ref z28, .int 9, .int 0, .int 0, .ref z6, .ref z29, .ref z7, .int 0, .int 2, .ref z19, .ref z8, .ref z9, .ref z10, .int 0, .ref z11, .int 0, .ref z30, .ref z31, .ref z32, .ref z33, .int 0, .ref z12, .int 0, .int 0, .ref z34, .ref z35, .ref z36, .ref z37, .int 0, .int 0, .int 0, .int 0, .ref z38, .int 0, .ref z39, .ref z40, .ref z41, .ref z42, .int 0, .ref z13, .ref z14, .ref z15, .ref z16, .int 0, .ref z17, .ref z18, .ref z43]))]) [0] rfl
    have hD9 := hD.sub (ws' := [(h0, .inr (12, [.ref z0, .ref z1, .ref z2, .ref z3, .ref z4, .ref z5, .ref z20, .ref z21, .ref z22, .ref z23, .ref z24, .ref z25, .int 0, .ref z26, .ref z27, .ref z28, .int 9, .int 0, .int 0, .ref z6, .ref z29, .ref z7, .int 0, .int 2, .ref z19, .ref z8, .ref z9, .ref z10, .int 0, .ref z11, .int 0, .ref z30, .ref z31, .ref z32, .ref z33, .int 0, .ref z12, .int 0, .int 0, .ref z34, .ref z35, .ref z36, .ref z37, .int 0, .int 0, .int 0, .int 0, .ref z38, .int 0, .ref z39, .ref z40, .ref z41, .ref z42, .int 0, .ref z13, .ref z14, .ref z15, .ref z16, .int 0, .ref z17, .ref z18, .ref z43]))]) [0] (by decide) rfl
    exact W.zret (v := 1) hx hb hr rfl (fun t ht hW => ⟨⟨1, (), rfl, by decide, ⟨by rw [ht]; exact hP9, va_K.moved hW.alike hK, hD9⟩⟩, hS.F ht⟩) hS.2.2 dX12_isPass_23
  · refine lv_iload_n hx hb dX12_isPass_0 rfl (lv_at hl 1 rfl) ?_
    refine lv_if_eq (tgt := 22) hx hb dX12_isPass_1 (by decide) (fun c1 => ?_) (fun c1 => ?_)
    · refine lv_iconst (v := 0) hx hb dX12_isPass_22 (by decide) ?_
      have hP9 := hP.sub (ws' := [(h0, .inr (12, [.ref z0, .ref z1, .ref z2, .ref z3, .ref z4, .ref z5, .ref z20, .ref z21, .ref z22, .ref z23, .ref z24, .ref z25, .int 0, .ref z26, .ref z27, .ref z28, .int 9, .int 0, .int 0, .ref z6, .ref z29, .ref z7, .int 0, .int 2, .ref z19, .ref z8, .ref z9, .ref z10, .int 0, .ref z11, .int 0, .ref z30, .ref z31, .ref z32, .ref z33, .int 0, .ref z12, .int 0, .int 0, .ref z34, .ref z35, .ref z36, .ref z37, .int 0, .int 0, .int 0, .int 0, .ref z38, .int 0, .ref z39, .ref z40, .ref z41, .ref z42, .int 0, .ref z13, .ref z14, .ref z15, .ref z16, .int 0, .ref z17, .ref z18, .ref z43]))]) [0] rfl
      have hD9 := hD.sub (ws' := [(h0, .inr (12, [.ref z0, .ref z1, .ref z2, .ref z3, .ref z4, .ref z5, .ref z20, .ref z21, .ref z22, .ref z23, .ref z24, .ref z25, .int 0, .ref z26, .ref z27, .ref z28, .int 9, .int 0, .int 0, .ref z6, .ref z29, .ref z7, .int 0, .int 2, .ref z19, .ref z8, .ref z9, .ref z10, .int 0, .ref z11, .int 0, .ref z30, .ref z31, .ref z32, .ref z33, .int 0, .ref z12, .int 0, .int 0, .ref z34, .ref z35, .ref z36, .ref z37, .int 0, .int 0, .int 0, .int 0, .ref z38, .int 0, .ref z39, .ref z40, .ref z41, .ref z42, .int 0, .ref z13, .ref z14, .ref z15, .ref z16, .int 0, .ref z17, .ref z18, .ref z43]))]) [0] (by decide) rfl
      exact W.zret (v := 0) hx hb hr rfl (fun t ht hW => ⟨⟨0, (), rfl, by rw [inB_ne g1, inB_ne g2]; rfl, ⟨by rw [ht]; exact hP9, va_K.moved hW.alike hK, hD9⟩⟩, hS.F ht⟩) hS.2.2 dX12_isPass_23
    · refine lv_iload_n hx hb dX12_isPass_4 rfl (lv_at hl 1 rfl) ?_
      refine lv_i2l hx hb dX12_isPass_5 rfl ?_
      refine lv_topl (fun w1 ew1 => ?_)
      refine va_mabs_long hx hb (by rw [hml]; exact hl.1.symm) hown (hts (.methodLink RX12 309 Lib.MathLoose.abs_long.x) mX12_isPass_w0) (hts (.static Lib.MathLoose.abs_long.x) mX12_isPass_w1) (hts (.initialized "java/lang/Math") mX12_isPass_w2) (hts (.code Lib.MathLoose.abs_long.x Lib.MathLoose.abs_long.code 2 (some .long)) mX12_isPass_w3) (Nat.le_of_ble_eq_true rfl) (Nat.le_of_ble_eq_true rfl) (Nat.le_of_ble_eq_true rfl) (Nat.le_of_ble_eq_true rfl) dX12_isPass_6 ?_
      refine lv_topl (fun w2 ew2 => ?_)
      refine lv_aload_n hx hb dX12_isPass_9 rfl (lv_at hl 0 rfl) ?_
      refine va_get (D := D) (ci := 12) (v := .int 2) (C := RX12) (T := TX12) (N := 62) hx hb hts iX12_isPass_X12 hown hK hP 0 rfl rfl 23 (by decide) (hts (.fieldLink RX12 69 "PuppetBridgeModel" "bars" "I") mX12_isPass_w4) (fun _ h9 => h9) rfl dX12_isPass_10 ?_
      refine lv_i2l hx hb dX12_isPass_13 rfl ?_
      refine wk_l 2 (by decide) ?_
      refine W.lcmp hx hb dX12_isPass_14 ?_
      refine lv_topi (fun v3 ev3 => ?_)
      refine lv_if_ge (tgt := 22) hx hb dX12_isPass_15 (by decide) (fun _ => ?_) (fun h9 => absurd (wk_pass ew1 ew2 ev3 c1 g1 g2) h9)
      refine lv_iconst (v := 0) hx hb dX12_isPass_22 (by decide) ?_
      have hP9 := hP.sub (ws' := [(h0, .inr (12, [.ref z0, .ref z1, .ref z2, .ref z3, .ref z4, .ref z5, .ref z20, .ref z21, .ref z22, .ref z23, .ref z24, .ref z25, .int 0, .ref z26, .ref z27, .ref z28, .int 9, .int 0, .int 0, .ref z6, .ref z29, .ref z7, .int 0, .int 2, .ref z19, .ref z8, .ref z9, .ref z10, .int 0, .ref z11, .int 0, .ref z30, .ref z31, .ref z32, .ref z33, .int 0, .ref z12, .int 0, .int 0, .ref z34, .ref z35, .ref z36, .ref z37, .int 0, .int 0, .int 0, .int 0, .ref z38, .int 0, .ref z39, .ref z40, .ref z41, .ref z42, .int 0, .ref z13, .ref z14, .ref z15, .ref z16, .int 0, .ref z17, .ref z18, .ref z43]))]) [0] rfl
      have hD9 := hD.sub (ws' := [(h0, .inr (12, [.ref z0, .ref z1, .ref z2, .ref z3, .ref z4, .ref z5, .ref z20, .ref z21, .ref z22, .ref z23, .ref z24, .ref z25, .int 0, .ref z26, .ref z27, .ref z28, .int 9, .int 0, .int 0, .ref z6, .ref z29, .ref z7, .int 0, .int 2, .ref z19, .ref z8, .ref z9, .ref z10, .int 0, .ref z11, .int 0, .ref z30, .ref z31, .ref z32, .ref z33, .int 0, .ref z12, .int 0, .int 0, .ref z34, .ref z35, .ref z36, .ref z37, .int 0, .int 0, .int 0, .int 0, .ref z38, .int 0, .ref z39, .ref z40, .ref z41, .ref z42, .int 0, .ref z13, .ref z14, .ref z15, .ref z16, .int 0, .ref z17, .ref z18, .ref z43]))]) [0] (by decide) rfl
      exact W.zret (v := 0) hx hb hr rfl (fun t ht hW => ⟨⟨0, (), rfl, by rw [inB_ne g1, inB_ne g2]; rfl, ⟨by rw [ht]; exact hP9, va_K.moved hW.alike hK, hD9⟩⟩, hS.F ht⟩) hS.2.2 dX12_isPass_23

theorem mX12_change_w0 : Cond.methodLink RX12 228 Lib.Math.abs.name ∈ wsX12_change := by decide +kernel
theorem mX12_change_w1 : Cond.static Lib.Math.abs.name ∈ wsX12_change := by decide +kernel
theorem mX12_change_w2 : Cond.initialized "java/lang/Math" ∈ wsX12_change := by decide +kernel
theorem mX12_change_w3 : Cond.code Lib.Math.abs.name Lib.Math.abs.code 1 (some .int) ∈ wsX12_change := by decide +kernel
theorem mX12_change_w4 : Cond.fieldLink RX12 72 "PuppetBridgeModel" "spots" "[I" ∈ wsX12_change := by decide +kernel
theorem iX12_change_X12 : ∀ w ∈ wsX120, w ∈ wsX12_change := fun _ h => List.mem_cons_of_mem _ (List.mem_append_right _ h)
theorem dX12_change_0 : decode cX12_change 0 = .ok (.iload_n 1, 1) := by decide +kernel
theorem dX12_change_1 : decode cX12_change 1 = .ok (.invokestatic 228, 3) := by decide +kernel
theorem dX12_change_4 : decode cX12_change 4 = .ok (.istore_n 2, 1) := by decide +kernel
theorem dX12_change_5 : decode cX12_change 5 = .ok (.aload_n 0, 1) := by decide +kernel
theorem dX12_change_6 : decode cX12_change 6 = .ok (.getfield 72, 3) := by decide +kernel
theorem dX12_change_9 : decode cX12_change 9 = .ok (.iload_n 2, 1) := by decide +kernel
theorem dX12_change_10 : decode cX12_change 10 = .ok (.iconst 1, 1) := by decide +kernel
theorem dX12_change_11 : decode cX12_change 11 = .ok (.isub, 1) := by decide +kernel
theorem dX12_change_12 : decode cX12_change 12 = .ok (.iaload, 1) := by decide +kernel
theorem dX12_change_13 : decode cX12_change 13 = .ok (.istore_n 3, 1) := by decide +kernel
theorem dX12_change_14 : decode cX12_change 14 = .ok (.aload_n 0, 1) := by decide +kernel
theorem dX12_change_15 : decode cX12_change 15 = .ok (.getfield 72, 3) := by decide +kernel
theorem dX12_change_18 : decode cX12_change 18 = .ok (.iload_n 2, 1) := by decide +kernel
theorem dX12_change_19 : decode cX12_change 19 = .ok (.iconst 1, 1) := by decide +kernel
theorem dX12_change_20 : decode cX12_change 20 = .ok (.isub, 1) := by decide +kernel
theorem dX12_change_21 : decode cX12_change 21 = .ok (.aload_n 0, 1) := by decide +kernel
theorem dX12_change_22 : decode cX12_change 22 = .ok (.getfield 72, 3) := by decide +kernel
theorem dX12_change_25 : decode cX12_change 25 = .ok (.iload_n 2, 1) := by decide +kernel
theorem dX12_change_26 : decode cX12_change 26 = .ok (.iaload, 1) := by decide +kernel
theorem dX12_change_27 : decode cX12_change 27 = .ok (.iastore, 1) := by decide +kernel
theorem dX12_change_28 : decode cX12_change 28 = .ok (.aload_n 0, 1) := by decide +kernel
theorem dX12_change_29 : decode cX12_change 29 = .ok (.getfield 72, 3) := by decide +kernel
theorem dX12_change_32 : decode cX12_change 32 = .ok (.iload_n 2, 1) := by decide +kernel
theorem dX12_change_33 : decode cX12_change 33 = .ok (.iload_n 3, 1) := by decide +kernel
theorem dX12_change_34 : decode cX12_change 34 = .ok (.iastore, 1) := by decide +kernel
theorem dX12_change_35 : decode cX12_change 35 = .ok (.return_, 1) := by decide +kernel
set_option maxHeartbeats 4000000 in
set_option maxRecDepth 100000 in
/-- X12_change -/
theorem kX12_change_1 (l : Launch) (D : va_G) (G : tyG) (h0 : Nat) (z0 : Nat) (z1 : Nat) (z2 : Nat) (z3 : Nat) (z4 : Nat) (z5 : Nat) (z20 : Nat) (z21 : Nat) (z22 : Nat) (z23 : Nat) (z24 : Nat) (z25 : Nat) (z26 : Nat) (z27 : Nat) (z28 : Nat) (z6 : Nat) (z29 : Nat) (z7 : Nat) (z19 : Nat) (z8 : Nat) (z9 : Nat) (z10 : Nat) (z11 : Nat) (z30 : Nat) (z31 : Nat) (z32 : Nat) (z33 : Nat) (z12 : Nat) (z34 : Nat) (z35 : Nat) (z36 : Nat) (z37 : Nat) (z38 : Nat) (z39 : Nat) (z40 : Nat) (z41 : Nat) (z42 : Nat) (z13 : Nat) (z14 : Nat) (z15 : Nat) (z16 : Nat) (z17 : Nat) (z18 : Nat) (z43 : Nat) (sz : Nat) : Met l yX12_change wsX12_change ({ frames := 1, cells := 0, slots := 0, locals := 32 }) (va_Pc [.ref h0, .int 1] (wB D G sz [(h0, .inr (12, [.ref z0, .ref z1, .ref z2, .ref z3, .ref z4, .ref z5, .ref z20, .ref z21, .ref z22, .ref z23, .ref z24, .ref z25, .int 0, .ref z26, .ref z27, .ref z28, .int 9, .int 0, .int 0, .ref z6, .ref z29, .ref z7, .int 0, .int 2, .ref z19, .ref z8, .ref z9, .ref z10, .int 1, .ref z11, .int 0, .ref z30, .ref z31, .ref z32, .ref z33, .int 0, .ref z12, .int 0, .int 0, .ref z34, .ref z35, .ref z36, .ref z37, .int 0, .int 0, .int 0, .int 0, .ref z38, .int 0, .ref z39, .ref z40, .ref z41, .ref z42, .int 0, .ref z13, .ref z14, .ref z15, .ref z16, .int 0, .ref z17, .ref z18, .ref z43])), (z19, .inl (G.1, 5, .inl (tI [0, 1, 2, 3, 4])))])) (va_Qv (fun _ : Unit => True) (fun _ t => wS D G (va_A [(h0, .inr (12, [.ref z0, .ref z1, .ref z2, .ref z3, .ref z4, .ref z5, .ref z20, .ref z21, .ref z22, .ref z23, .ref z24, .ref z25, .int 0, .ref z26, .ref z27, .ref z28, .int 9, .int 0, .int 0, .ref z6, .ref z29, .ref z7, .int 0, .int 2, .ref z19, .ref z8, .ref z9, .ref z10, .int 1, .ref z11, .int 0, .ref z30, .ref z31, .ref z32, .ref z33, .int 0, .ref z12, .int 0, .int 0, .ref z34, .ref z35, .ref z36, .ref z37, .int 0, .int 0, .int 0, .int 0, .ref z38, .int 0, .ref z39, .ref z40, .ref z41, .ref z42, .int 0, .ref z13, .ref z14, .ref z15, .ref z16, .int 0, .ref z17, .ref z18, .ref z43])), (z19, .inl (G.1, 5, .inl (tI [0, 1, 2, 3, 4])))] sz) [(h0, .inr (12, [.ref z0, .ref z1, .ref z2, .ref z3, .ref z4, .ref z5, .ref z20, .ref z21, .ref z22, .ref z23, .ref z24, .ref z25, .int 0, .ref z26, .ref z27, .ref z28, .int 9, .int 0, .int 0, .ref z6, .ref z29, .ref z7, .int 0, .int 2, .ref z19, .ref z8, .ref z9, .ref z10, .int 1, .ref z11, .int 0, .ref z30, .ref z31, .ref z32, .ref z33, .int 0, .ref z12, .int 0, .int 0, .ref z34, .ref z35, .ref z36, .ref z37, .int 0, .int 0, .int 0, .int 0, .ref z38, .int 0, .ref z39, .ref z40, .ref z41, .ref z42, .int 0, .ref z13, .ref z14, .ref z15, .ref z16, .int 0, .ref z17, .ref z18, .ref z43]))] t) (va_A [(h0, .inr (12, [.ref z0, .ref z1, .ref z2, .ref z3, .ref z4, .ref z5, .ref z20, .ref z21, .ref z22, .ref z23, .ref z24, .ref z25, .int 0, .ref z26, .ref z27, .ref z28, .int 9, .int 0, .int 0, .ref z6, .ref z29, .ref z7, .int 0, .int 2, .ref z19, .ref z8, .ref z9, .ref z10, .int 1, .ref z11, .int 0, .ref z30, .ref z31, .ref z32, .ref z33, .int 0, .ref z12, .int 0, .int 0, .ref z34, .ref z35, .ref z36, .ref z37, .int 0, .int 0, .int 0, .int 0, .ref z38, .int 0, .ref z39, .ref z40, .ref z41, .ref z42, .int 0, .ref z13, .ref z14, .ref z15, .ref z16, .int 0, .ref z17, .ref z18, .ref z43])), (z19, .inl (G.1, 5, .inl (tI [0, 1, 2, 3, 4])))] sz)) 0 0 (va_A [(h0, .inr (12, [.ref z0, .ref z1, .ref z2, .ref z3, .ref z4, .ref z5, .ref z20, .ref z21, .ref z22, .ref z23, .ref z24, .ref z25, .int 0, .ref z26, .ref z27, .ref z28, .int 9, .int 0, .int 0, .ref z6, .ref z29, .ref z7, .int 0, .int 2, .ref z19, .ref z8, .ref z9, .ref z10, .int 1, .ref z11, .int 0, .ref z30, .ref z31, .ref z32, .ref z33, .int 0, .ref z12, .int 0, .int 0, .ref z34, .ref z35, .ref z36, .ref z37, .int 0, .int 0, .int 0, .int 0, .ref z38, .int 0, .ref z39, .ref z40, .ref z41, .ref z42, .int 0, .ref z13, .ref z14, .ref z15, .ref z16, .int 0, .ref z17, .ref z18, .ref z43])), (z19, .inl (G.1, 5, .inl (tI [0, 1, 2, 3, 4])))] sz) := by
  refine Met.ofW (cc := cX12_change) (maxL := 4) (ret := none) (by decide) rfl ?_
  intro p e s m args below meth c s₁ B hml hv
  obtain ⟨rfl, hsz, hP, hK, hD0, hN⟩ := hv
  have hx := B.exec
  have hb := B.bytes
  have hr := B.returns
  have hts := atoms_spec (ws := wsX12_change) B.pre
  have hown : s.vm.findClass RX12 = some m.cls := findClass_of_methodNamed B.named
  have hlocks := B.notSynchronized
  subst hsz
  have hD := hD0.self (sz := s.heap.size)
  generalize hAe : va_A [(h0, .inr (12, [.ref z0, .ref z1, .ref z2, .ref z3, .ref z4, .ref z5, .ref z20, .ref z21, .ref z22, .ref z23, .ref z24, .ref z25, .int 0, .ref z26, .ref z27, .ref z28, .int 9, .int 0, .int 0, .ref z6, .ref z29, .ref z7, .int 0, .int 2, .ref z19, .ref z8, .ref z9, .ref z10, .int 1, .ref z11, .int 0, .ref z30, .ref z31, .ref z32, .ref z33, .int 0, .ref z12, .int 0, .int 0, .ref z34, .ref z35, .ref z36, .ref z37, .int 0, .int 0, .int 0, .int 0, .ref z38, .int 0, .ref z39, .ref z40, .ref z41, .ref z42, .int 0, .ref z13, .ref z14, .ref z15, .ref z16, .int 0, .ref z17, .ref z18, .ref z43])), (z19, .inl (G.1, 5, .inl (tI [0, 1, 2, 3, 4])))] s.heap.size = A at hD ⊢
  have hA : ∀ q : Nat, s.heap.size ≤ q → A q := fun q h => by rw [← hAe]; exact Or.inr h
  have hS : va_S A s.heap s.heap [] := va_S.rf
  have hP : va_P D vwCl [(h0, .inr (12, [.ref z0, .ref z1, .ref z2, .ref z3, .ref z4, .ref z5, .ref z20, .ref z21, .ref z22, .ref z23, .ref z24, .ref z25, .int 0, .ref z26, .ref z27, .ref z28, .int 9, .int 0, .int 0, .ref z6, .ref z29, .ref z7, .int 0, .int 2, .ref z19, .ref z8, .ref z9, .ref z10, .int 1, .ref z11, .int 0, .ref z30, .ref z31, .ref z32, .ref z33, .int 0, .ref z12, .int 0, .int 0, .ref z34, .ref z35, .ref z36, .ref z37, .int 0, .int 0, .int 0, .int 0, .ref z38, .int 0, .ref z39, .ref z40, .ref z41, .ref z42, .int 0, .ref z13, .ref z14, .ref z15, .ref z16, .int 0, .ref z17, .ref z18, .ref z43])), (z19, .inl (G.1, 5, .inl (tI [0, 1, 2, 3, 4])))] s.heap := hP
  have hl := lv_entry ([.ref h0, .int 1]) (n := 4) (Nat.le_of_ble_eq_true rfl)
  rw [lg_entry_eq]
  generalize (lg_sl ([.ref h0, .int 1]) ++ List.replicate (4 - (lg_sl ([.ref h0, .int 1])).length) Slot.unset).toArray = ls at hl ⊢
  have hl : lv_has ls 4 [(0, .ref h0), (1, .int 1)] := hl
  refine lv_iload_n hx hb dX12_change_0 rfl (lv_at hl 1 rfl) ?_
  refine va_mabs hx hb (by rw [hml]; exact hl.1.symm) hown (hts (.methodLink RX12 228 Lib.Math.abs.name) mX12_change_w0) (hts (.static Lib.Math.abs.name) mX12_change_w1) (hts (.initialized "java/lang/Math") mX12_change_w2) (hts (.code Lib.Math.abs.name Lib.Math.abs.code 1 (some .int)) mX12_change_w3) (Nat.le_of_ble_eq_true rfl) (Nat.le_of_ble_eq_true rfl) (Nat.le_of_ble_eq_true rfl) (Nat.le_of_ble_eq_true rfl) dX12_change_1 ?_
  refine wk_i 1 (by decide) ?_
  refine lv_istore_n (lv' := [(2, .int 1), (0, .ref h0), (1, .int 1)]) hx hb dX12_change_4 rfl hl (by decide) rfl (fun ls hl => ?_)
  refine lv_aload_n hx hb dX12_change_5 rfl (lv_at hl 1 rfl) ?_
  refine va_get (D := D) (ci := 12) (v := .ref z19) (C := RX12) (T := TX12) (N := 62) hx hb hts iX12_change_X12 hown hK hP 0 rfl rfl 24 (by decide) (hts (.fieldLink RX12 72 "PuppetBridgeModel" "spots" "[I") mX12_change_w4) (fun _ h9 => h9) rfl dX12_change_6 ?_
  refine lv_iload_n hx hb dX12_change_9 rfl (lv_at hl 0 rfl) ?_
  refine lv_iconst (v := 1) hx hb dX12_change_10 (by decide) ?_
  refine lv_isub hx hb dX12_change_11 ?_
  refine wk_i 0 (by decide) ?_
  refine va_iald hx hb hK hP 1 0 rfl rfl (wk_in rfl) dX12_change_12 ?_
  refine wk_i 0 rfl ?_
  refine lv_istore_n (lv' := [(3, .int 0), (2, .int 1), (0, .ref h0), (1, .int 1)]) hx hb dX12_change_13 rfl hl (by decide) rfl (fun ls hl => ?_)
  refine lv_aload_n hx hb dX12_change_14 rfl (lv_at hl 2 rfl) ?_
  refine va_get (D := D) (ci := 12) (v := .ref z19) (C := RX12) (T := TX12) (N := 62) hx hb hts iX12_change_X12 hown hK hP 0 rfl rfl 24 (by decide) (hts (.fieldLink RX12 72 "PuppetBridgeModel" "spots" "[I") mX12_change_w4) (fun _ h9 => h9) rfl dX12_change_15 ?_
  refine lv_iload_n hx hb dX12_change_18 rfl (lv_at hl 1 rfl) ?_
  refine lv_iconst (v := 1) hx hb dX12_change_19 (by decide) ?_
  refine lv_isub hx hb dX12_change_20 ?_
  refine wk_i 0 (by decide) ?_
  refine lv_aload_n hx hb dX12_change_21 rfl (lv_at hl 2 rfl) ?_
  refine va_get (D := D) (ci := 12) (v := .ref z19) (C := RX12) (T := TX12) (N := 62) hx hb hts iX12_change_X12 hown hK hP 0 rfl rfl 24 (by decide) (hts (.fieldLink RX12 72 "PuppetBridgeModel" "spots" "[I") mX12_change_w4) (fun _ h9 => h9) rfl dX12_change_22 ?_
  refine lv_iload_n hx hb dX12_change_25 rfl (lv_at hl 1 rfl) ?_
  refine va_iald hx hb hK hP 1 0 rfl rfl (wk_in rfl) dX12_change_26 ?_
  refine wk_i 1 rfl ?_
  refine va_iast hx hb hK hP hD hS 1 0 rfl rfl (wk_in rfl) dX12_change_27 (fun H locs hP hD hS => ?_)
  have hP : va_P D vwCl [(h0, .inr (12, [.ref z0, .ref z1, .ref z2, .ref z3, .ref z4, .ref z5, .ref z20, .ref z21, .ref z22, .ref z23, .ref z24, .ref z25, .int 0, .ref z26, .ref z27, .ref z28, .int 9, .int 0, .int 0, .ref z6, .ref z29, .ref z7, .int 0, .int 2, .ref z19, .ref z8, .ref z9, .ref z10, .int 1, .ref z11, .int 0, .ref z30, .ref z31, .ref z32, .ref z33, .int 0, .ref z12, .int 0, .int 0, .ref z34, .ref z35, .ref z36, .ref z37, .int 0, .int 0, .int 0, .int 0, .ref z38, .int 0, .ref z39, .ref z40, .ref z41, .ref z42, .int 0, .ref z13, .ref z14, .ref z15, .ref z16, .int 0, .ref z17, .ref z18, .ref z43])), (z19, .inl (G.1, 5, .inl (upd (tI [0, 1, 2, 3, 4]) 0 1)))] H := hP
  have hD : va_D A [(h0, .inr (12, [.ref z0, .ref z1, .ref z2, .ref z3, .ref z4, .ref z5, .ref z20, .ref z21, .ref z22, .ref z23, .ref z24, .ref z25, .int 0, .ref z26, .ref z27, .ref z28, .int 9, .int 0, .int 0, .ref z6, .ref z29, .ref z7, .int 0, .int 2, .ref z19, .ref z8, .ref z9, .ref z10, .int 1, .ref z11, .int 0, .ref z30, .ref z31, .ref z32, .ref z33, .int 0, .ref z12, .int 0, .int 0, .ref z34, .ref z35, .ref z36, .ref z37, .int 0, .int 0, .int 0, .int 0, .ref z38, .int 0, .ref z39, .ref z40, .ref z41, .ref z42, .int 0, .ref z13, .ref z14, .ref z15, .ref z16, .int 0, .ref z17, .ref z18, .ref z43])), (z19, .inl (G.1, 5, .inl (upd (tI [0, 1, 2, 3, 4]) 0 1)))] := hD
  refine lv_aload_n hx hb dX12_change_28 rfl (lv_at hl 2 rfl) ?_
  refine va_get (D := D) (ci := 12) (v := .ref z19) (C := RX12) (T := TX12) (N := 62) hx hb hts iX12_change_X12 hown hK hP 0 rfl rfl 24 (by decide) (hts (.fieldLink RX12 72 "PuppetBridgeModel" "spots" "[I") mX12_change_w4) (fun _ h9 => h9) rfl dX12_change_29 ?_
  refine lv_iload_n hx hb dX12_change_32 rfl (lv_at hl 1 rfl) ?_
  refine lv_iload_n hx hb dX12_change_33 rfl (lv_at hl 0 rfl) ?_
  refine va_iast hx hb hK hP hD hS 1 0 rfl rfl (wk_in rfl) dX12_change_34 (fun H locs hP hD hS => ?_)
  have hP : va_P D vwCl [(h0, .inr (12, [.ref z0, .ref z1, .ref z2, .ref z3, .ref z4, .ref z5, .ref z20, .ref z21, .ref z22, .ref z23, .ref z24, .ref z25, .int 0, .ref z26, .ref z27, .ref z28, .int 9, .int 0, .int 0, .ref z6, .ref z29, .ref z7, .int 0, .int 2, .ref z19, .ref z8, .ref z9, .ref z10, .int 1, .ref z11, .int 0, .ref z30, .ref z31, .ref z32, .ref z33, .int 0, .ref z12, .int 0, .int 0, .ref z34, .ref z35, .ref z36, .ref z37, .int 0, .int 0, .int 0, .int 0, .ref z38, .int 0, .ref z39, .ref z40, .ref z41, .ref z42, .int 0, .ref z13, .ref z14, .ref z15, .ref z16, .int 0, .ref z17, .ref z18, .ref z43])), (z19, .inl (G.1, 5, .inl (upd (upd (tI [0, 1, 2, 3, 4]) 0 1) 1 0)))] H := hP
  have hD : va_D A [(h0, .inr (12, [.ref z0, .ref z1, .ref z2, .ref z3, .ref z4, .ref z5, .ref z20, .ref z21, .ref z22, .ref z23, .ref z24, .ref z25, .int 0, .ref z26, .ref z27, .ref z28, .int 9, .int 0, .int 0, .ref z6, .ref z29, .ref z7, .int 0, .int 2, .ref z19, .ref z8, .ref z9, .ref z10, .int 1, .ref z11, .int 0, .ref z30, .ref z31, .ref z32, .ref z33, .int 0, .ref z12, .int 0, .int 0, .ref z34, .ref z35, .ref z36, .ref z37, .int 0, .int 0, .int 0, .int 0, .ref z38, .int 0, .ref z39, .ref z40, .ref z41, .ref z42, .int 0, .ref z13, .ref z14, .ref z15, .ref z16, .int 0, .ref z17, .ref z18, .ref z43])), (z19, .inl (G.1, 5, .inl (upd (upd (tI [0, 1, 2, 3, 4]) 0 1) 1 0)))] := hD
  have hP9 := hP.sub (ws' := [(h0, .inr (12, [.ref z0, .ref z1, .ref z2, .ref z3, .ref z4, .ref z5, .ref z20, .ref z21, .ref z22, .ref z23, .ref z24, .ref z25, .int 0, .ref z26, .ref z27, .ref z28, .int 9, .int 0, .int 0, .ref z6, .ref z29, .ref z7, .int 0, .int 2, .ref z19, .ref z8, .ref z9, .ref z10, .int 1, .ref z11, .int 0, .ref z30, .ref z31, .ref z32, .ref z33, .int 0, .ref z12, .int 0, .int 0, .ref z34, .ref z35, .ref z36, .ref z37, .int 0, .int 0, .int 0, .int 0, .ref z38, .int 0, .ref z39, .ref z40, .ref z41, .ref z42, .int 0, .ref z13, .ref z14, .ref z15, .ref z16, .int 0, .ref z17, .ref z18, .ref z43]))]) [0] rfl
  have hD9 := hD.sub (ws' := [(h0, .inr (12, [.ref z0, .ref z1, .ref z2, .ref z3, .ref z4, .ref z5, .ref z20, .ref z21, .ref z22, .ref z23, .ref z24, .ref z25, .int 0, .ref z26, .ref z27, .ref z28, .int 9, .int 0, .int 0, .ref z6, .ref z29, .ref z7, .int 0, .int 2, .ref z19, .ref z8, .ref z9, .ref z10, .int 1, .ref z11, .int 0, .ref z30, .ref z31, .ref z32, .ref z33, .int 0, .ref z12, .int 0, .int 0, .ref z34, .ref z35, .ref z36, .ref z37, .int 0, .int 0, .int 0, .int 0, .ref z38, .int 0, .ref z39, .ref z40, .ref z41, .ref z42, .int 0, .ref z13, .ref z14, .ref z15, .ref z16, .int 0, .ref z17, .ref z18, .ref z43]))]) [0] (by decide) rfl
  exact W.vret hx hb hr (fun t ht hW => ⟨⟨(), rfl, trivial, ⟨by rw [ht]; exact hP9, va_K.moved hW.alike hK, hD9⟩⟩, hS.F ht⟩) hS.2.2 dX12_change_35

set_option maxHeartbeats 4000000 in
set_option maxRecDepth 100000 in
/-- X12_change -/
theorem kX12_change_m (l : Launch) (D : va_G) (G : tyG) (h0 : Nat) (z0 : Nat) (z1 : Nat) (z2 : Nat) (z3 : Nat) (z4 : Nat) (z5 : Nat) (z20 : Nat) (z21 : Nat) (z22 : Nat) (z23 : Nat) (z24 : Nat) (z25 : Nat) (z26 : Nat) (z27 : Nat) (z28 : Nat) (z6 : Nat) (z29 : Nat) (z7 : Nat) (z19 : Nat) (z8 : Nat) (z9 : Nat) (z10 : Nat) (z11 : Nat) (z30 : Nat) (z31 : Nat) (z32 : Nat) (z33 : Nat) (z12 : Nat) (z34 : Nat) (z35 : Nat) (z36 : Nat) (z37 : Nat) (z38 : Nat) (z39 : Nat) (z40 : Nat) (z41 : Nat) (z42 : Nat) (z13 : Nat) (z14 : Nat) (z15 : Nat) (z16 : Nat) (z17 : Nat) (z18 : Nat) (z43 : Nat) (sz : Nat) : Met l yX12_change wsX12_change ({ frames := 1, cells := 0, slots := 0, locals := 32 }) (va_Pc [.ref h0, .int (-1)] (wB D G sz [(h0, .inr (12, [.ref z0, .ref z1, .ref z2, .ref z3, .ref z4, .ref z5, .ref z20, .ref z21, .ref z22, .ref z23, .ref z24, .ref z25, .int 0, .ref z26, .ref z27, .ref z28, .int 9, .int 0, .int 0, .ref z6, .ref z29, .ref z7, .int 0, .int 2, .ref z19, .ref z8, .ref z9, .ref z10, .int 1, .ref z11, .int 0, .ref z30, .ref z31, .ref z32, .ref z33, .int 0, .ref z12, .int 0, .int 0, .ref z34, .ref z35, .ref z36, .ref z37, .int 0, .int 0, .int 0, .int 0, .ref z38, .int 0, .ref z39, .ref z40, .ref z41, .ref z42, .int 0, .ref z13, .ref z14, .ref z15, .ref z16, .int 0, .ref z17, .ref z18, .ref z43])), (z19, .inl (G.1, 5, .inl (tI [0, 1, 2, 3, 4])))])) (va_Qv (fun _ : Unit => True) (fun _ t => wS D G (va_A [(h0, .inr (12, [.ref z0, .ref z1, .ref z2, .ref z3, .ref z4, .ref z5, .ref z20, .ref z21, .ref z22, .ref z23, .ref z24, .ref z25, .int 0, .ref z26, .ref z27, .ref z28, .int 9, .int 0, .int 0, .ref z6, .ref z29, .ref z7, .int 0, .int 2, .ref z19, .ref z8, .ref z9, .ref z10, .int 1, .ref z11, .int 0, .ref z30, .ref z31, .ref z32, .ref z33, .int 0, .ref z12, .int 0, .int 0, .ref z34, .ref z35, .ref z36, .ref z37, .int 0, .int 0, .int 0, .int 0, .ref z38, .int 0, .ref z39, .ref z40, .ref z41, .ref z42, .int 0, .ref z13, .ref z14, .ref z15, .ref z16, .int 0, .ref z17, .ref z18, .ref z43])), (z19, .inl (G.1, 5, .inl (tI [0, 1, 2, 3, 4])))] sz) [(h0, .inr (12, [.ref z0, .ref z1, .ref z2, .ref z3, .ref z4, .ref z5, .ref z20, .ref z21, .ref z22, .ref z23, .ref z24, .ref z25, .int 0, .ref z26, .ref z27, .ref z28, .int 9, .int 0, .int 0, .ref z6, .ref z29, .ref z7, .int 0, .int 2, .ref z19, .ref z8, .ref z9, .ref z10, .int 1, .ref z11, .int 0, .ref z30, .ref z31, .ref z32, .ref z33, .int 0, .ref z12, .int 0, .int 0, .ref z34, .ref z35, .ref z36, .ref z37, .int 0, .int 0, .int 0, .int 0, .ref z38, .int 0, .ref z39, .ref z40, .ref z41, .ref z42, .int 0, .ref z13, .ref z14, .ref z15, .ref z16, .int 0, .ref z17, .ref z18, .ref z43]))] t) (va_A [(h0, .inr (12, [.ref z0, .ref z1, .ref z2, .ref z3, .ref z4, .ref z5, .ref z20, .ref z21, .ref z22, .ref z23, .ref z24, .ref z25, .int 0, .ref z26, .ref z27, .ref z28, .int 9, .int 0, .int 0, .ref z6, .ref z29, .ref z7, .int 0, .int 2, .ref z19, .ref z8, .ref z9, .ref z10, .int 1, .ref z11, .int 0, .ref z30, .ref z31, .ref z32, .ref z33, .int 0, .ref z12, .int 0, .int 0, .ref z34, .ref z35, .ref z36, .ref z37, .int 0, .int 0, .int 0, .int 0, .ref z38, .int 0, .ref z39, .ref z40, .ref z41, .ref z42, .int 0, .ref z13, .ref z14, .ref z15, .ref z16, .int 0, .ref z17, .ref z18, .ref z43])), (z19, .inl (G.1, 5, .inl (tI [0, 1, 2, 3, 4])))] sz)) 0 0 (va_A [(h0, .inr (12, [.ref z0, .ref z1, .ref z2, .ref z3, .ref z4, .ref z5, .ref z20, .ref z21, .ref z22, .ref z23, .ref z24, .ref z25, .int 0, .ref z26, .ref z27, .ref z28, .int 9, .int 0, .int 0, .ref z6, .ref z29, .ref z7, .int 0, .int 2, .ref z19, .ref z8, .ref z9, .ref z10, .int 1, .ref z11, .int 0, .ref z30, .ref z31, .ref z32, .ref z33, .int 0, .ref z12, .int 0, .int 0, .ref z34, .ref z35, .ref z36, .ref z37, .int 0, .int 0, .int 0, .int 0, .ref z38, .int 0, .ref z39, .ref z40, .ref z41, .ref z42, .int 0, .ref z13, .ref z14, .ref z15, .ref z16, .int 0, .ref z17, .ref z18, .ref z43])), (z19, .inl (G.1, 5, .inl (tI [0, 1, 2, 3, 4])))] sz) := by
  refine Met.ofW (cc := cX12_change) (maxL := 4) (ret := none) (by decide) rfl ?_
  intro p e s m args below meth c s₁ B hml hv
  obtain ⟨rfl, hsz, hP, hK, hD0, hN⟩ := hv
  have hx := B.exec
  have hb := B.bytes
  have hr := B.returns
  have hts := atoms_spec (ws := wsX12_change) B.pre
  have hown : s.vm.findClass RX12 = some m.cls := findClass_of_methodNamed B.named
  have hlocks := B.notSynchronized
  subst hsz
  have hD := hD0.self (sz := s.heap.size)
  generalize hAe : va_A [(h0, .inr (12, [.ref z0, .ref z1, .ref z2, .ref z3, .ref z4, .ref z5, .ref z20, .ref z21, .ref z22, .ref z23, .ref z24, .ref z25, .int 0, .ref z26, .ref z27, .ref z28, .int 9, .int 0, .int 0, .ref z6, .ref z29, .ref z7, .int 0, .int 2, .ref z19, .ref z8, .ref z9, .ref z10, .int 1, .ref z11, .int 0, .ref z30, .ref z31, .ref z32, .ref z33, .int 0, .ref z12, .int 0, .int 0, .ref z34, .ref z35, .ref z36, .ref z37, .int 0, .int 0, .int 0, .int 0, .ref z38, .int 0, .ref z39, .ref z40, .ref z41, .ref z42, .int 0, .ref z13, .ref z14, .ref z15, .ref z16, .int 0, .ref z17, .ref z18, .ref z43])), (z19, .inl (G.1, 5, .inl (tI [0, 1, 2, 3, 4])))] s.heap.size = A at hD ⊢
  have hA : ∀ q : Nat, s.heap.size ≤ q → A q := fun q h => by rw [← hAe]; exact Or.inr h
  have hS : va_S A s.heap s.heap [] := va_S.rf
  have hP : va_P D vwCl [(h0, .inr (12, [.ref z0, .ref z1, .ref z2, .ref z3, .ref z4, .ref z5, .ref z20, .ref z21, .ref z22, .ref z23, .ref z24, .ref z25, .int 0, .ref z26, .ref z27, .ref z28, .int 9, .int 0, .int 0, .ref z6, .ref z29, .ref z7, .int 0, .int 2, .ref z19, .ref z8, .ref z9, .ref z10, .int 1, .ref z11, .int 0, .ref z30, .ref z31, .ref z32, .ref z33, .int 0, .ref z12, .int 0, .int 0, .ref z34, .ref z35, .ref z36, .ref z37, .int 0, .int 0, .int 0, .int 0, .ref z38, .int 0, .ref z39, .ref z40, .ref z41, .ref z42, .int 0, .ref z13, .ref z14, .ref z15, .ref z16, .int 0, .ref z17, .ref z18, .ref z43])), (z19, .inl (G.1, 5, .inl (tI [0, 1, 2, 3, 4])))] s.heap := hP
  have hl := lv_entry ([.ref h0, .int (-1)]) (n := 4) (Nat.le_of_ble_eq_true rfl)
  rw [lg_entry_eq]
  generalize (lg_sl ([.ref h0, .int (-1)]) ++ List.replicate (4 - (lg_sl ([.ref h0, .int (-1)])).length) Slot.unset).toArray = ls at hl ⊢
  have hl : lv_has ls 4 [(0, .ref h0), (1, .int (-1))] := hl
  refine lv_iload_n hx hb dX12_change_0 rfl (lv_at hl 1 rfl) ?_
  refine va_mabs hx hb (by rw [hml]; exact hl.1.symm) hown (hts (.methodLink RX12 228 Lib.Math.abs.name) mX12_change_w0) (hts (.static Lib.Math.abs.name) mX12_change_w1) (hts (.initialized "java/lang/Math") mX12_change_w2) (hts (.code Lib.Math.abs.name Lib.Math.abs.code 1 (some .int)) mX12_change_w3) (Nat.le_of_ble_eq_true rfl) (Nat.le_of_ble_eq_true rfl) (Nat.le_of_ble_eq_true rfl) (Nat.le_of_ble_eq_true rfl) dX12_change_1 ?_
  refine wk_i 1 (by decide) ?_
  refine lv_istore_n (lv' := [(2, .int 1), (0, .ref h0), (1, .int (-1))]) hx hb dX12_change_4 rfl hl (by decide) rfl (fun ls hl => ?_)
  refine lv_aload_n hx hb dX12_change_5 rfl (lv_at hl 1 rfl) ?_
  refine va_get (D := D) (ci := 12) (v := .ref z19) (C := RX12) (T := TX12) (N := 62) hx hb hts iX12_change_X12 hown hK hP 0 rfl rfl 24 (by decide) (hts (.fieldLink RX12 72 "PuppetBridgeModel" "spots" "[I") mX12_change_w4) (fun _ h9 => h9) rfl dX12_change_6 ?_
  refine lv_iload_n hx hb dX12_change_9 rfl (lv_at hl 0 rfl) ?_
  refine lv_iconst (v := 1) hx hb dX12_change_10 (by decide) ?_
  refine lv_isub hx hb dX12_change_11 ?_
  refine wk_i 0 (by decide) ?_
  refine va_iald hx hb hK hP 1 0 rfl rfl (wk_in rfl) dX12_change_12 ?_
  refine wk_i 0 rfl ?_
  refine lv_istore_n (lv' := [(3, .int 0), (2, .int 1), (0, .ref h0), (1, .int (-1))]) hx hb dX12_change_13 rfl hl (by decide) rfl (fun ls hl => ?_)
  refine lv_aload_n hx hb dX12_change_14 rfl (lv_at hl 2 rfl) ?_
  refine va_get (D := D) (ci := 12) (v := .ref z19) (C := RX12) (T := TX12) (N := 62) hx hb hts iX12_change_X12 hown hK hP 0 rfl rfl 24 (by decide) (hts (.fieldLink RX12 72 "PuppetBridgeModel" "spots" "[I") mX12_change_w4) (fun _ h9 => h9) rfl dX12_change_15 ?_
  refine lv_iload_n hx hb dX12_change_18 rfl (lv_at hl 1 rfl) ?_
  refine lv_iconst (v := 1) hx hb dX12_change_19 (by decide) ?_
  refine lv_isub hx hb dX12_change_20 ?_
  refine wk_i 0 (by decide) ?_
  refine lv_aload_n hx hb dX12_change_21 rfl (lv_at hl 2 rfl) ?_
  refine va_get (D := D) (ci := 12) (v := .ref z19) (C := RX12) (T := TX12) (N := 62) hx hb hts iX12_change_X12 hown hK hP 0 rfl rfl 24 (by decide) (hts (.fieldLink RX12 72 "PuppetBridgeModel" "spots" "[I") mX12_change_w4) (fun _ h9 => h9) rfl dX12_change_22 ?_
  refine lv_iload_n hx hb dX12_change_25 rfl (lv_at hl 1 rfl) ?_
  refine va_iald hx hb hK hP 1 0 rfl rfl (wk_in rfl) dX12_change_26 ?_
  refine wk_i 1 rfl ?_
  refine va_iast hx hb hK hP hD hS 1 0 rfl rfl (wk_in rfl) dX12_change_27 (fun H locs hP hD hS => ?_)
  have hP : va_P D vwCl [(h0, .inr (12, [.ref z0, .ref z1, .ref z2, .ref z3, .ref z4, .ref z5, .ref z20, .ref z21, .ref z22, .ref z23, .ref z24, .ref z25, .int 0, .ref z26, .ref z27, .ref z28, .int 9, .int 0, .int 0, .ref z6, .ref z29, .ref z7, .int 0, .int 2, .ref z19, .ref z8, .ref z9, .ref z10, .int 1, .ref z11, .int 0, .ref z30, .ref z31, .ref z32, .ref z33, .int 0, .ref z12, .int 0, .int 0, .ref z34, .ref z35, .ref z36, .ref z37, .int 0, .int 0, .int 0, .int 0, .ref z38, .int 0, .ref z39, .ref z40, .ref z41, .ref z42, .int 0, .ref z13, .ref z14, .ref z15, .ref z16, .int 0, .ref z17, .ref z18, .ref z43])), (z19, .inl (G.1, 5, .inl (upd (tI [0, 1, 2, 3, 4]) 0 1)))] H := hP
  have hD : va_D A [(h0, .inr (12, [.ref z0, .ref z1, .ref z2, .ref z3, .ref z4, .ref z5, .ref z20, .ref z21, .ref z22, .ref z23, .ref z24, .ref z25, .int 0, .ref z26, .ref z27, .ref z28, .int 9, .int 0, .int 0, .ref z6, .ref z29, .ref z7, .int 0, .int 2, .ref z19, .ref z8, .ref z9, .ref z10, .int 1, .ref z11, .int 0, .ref z30, .ref z31, .ref z32, .ref z33, .int 0, .ref z12, .int 0, .int 0, .ref z34, .ref z35, .ref z36, .ref z37, .int 0, .int 0, .int 0, .int 0, .ref z38, .int 0, .ref z39, .ref z40, .ref z41, .ref z42, .int 0, .ref z13, .ref z14, .ref z15, .ref z16, .int 0, .ref z17, .ref z18, .ref z43])), (z19, .inl (G.1, 5, .inl (upd (tI [0, 1, 2, 3, 4]) 0 1)))] := hD
  refine lv_aload_n hx hb dX12_change_28 rfl (lv_at hl 2 rfl) ?_
  refine va_get (D := D) (ci := 12) (v := .ref z19) (C := RX12) (T := TX12) (N := 62) hx hb hts iX12_change_X12 hown hK hP 0 rfl rfl 24 (by decide) (hts (.fieldLink RX12 72 "PuppetBridgeModel" "spots" "[I") mX12_change_w4) (fun _ h9 => h9) rfl dX12_change_29 ?_
  refine lv_iload_n hx hb dX12_change_32 rfl (lv_at hl 1 rfl) ?_
  refine lv_iload_n hx hb dX12_change_33 rfl (lv_at hl 0 rfl) ?_
  refine va_iast hx hb hK hP hD hS 1 0 rfl rfl (wk_in rfl) dX12_change_34 (fun H locs hP hD hS => ?_)
  have hP : va_P D vwCl [(h0, .inr (12, [.ref z0, .ref z1, .ref z2, .ref z3, .ref z4, .ref z5, .ref z20, .ref z21, .ref z22, .ref z23, .ref z24, .ref z25, .int 0, .ref z26, .ref z27, .ref z28, .int 9, .int 0, .int 0, .ref z6, .ref z29, .ref z7, .int 0, .int 2, .ref z19, .ref z8, .ref z9, .ref z10, .int 1, .ref z11, .int 0, .ref z30, .ref z31, .ref z32, .ref z33, .int 0, .ref z12, .int 0, .int 0, .ref z34, .ref z35, .ref z36, .ref z37, .int 0, .int 0, .int 0, .int 0, .ref z38, .int 0, .ref z39, .ref z40, .ref z41, .ref z42, .int 0, .ref z13, .ref z14, .ref z15, .ref z16, .int 0, .ref z17, .ref z18, .ref z43])), (z19, .inl (G.1, 5, .inl (upd (upd (tI [0, 1, 2, 3, 4]) 0 1) 1 0)))] H := hP
  have hD : va_D A [(h0, .inr (12, [.ref z0, .ref z1, .ref z2, .ref z3, .ref z4, .ref z5, .ref z20, .ref z21, .ref z22, .ref z23, .ref z24, .ref z25, .int 0, .ref z26, .ref z27, .ref z28, .int 9, .int 0, .int 0, .ref z6, .ref z29, .ref z7, .int 0, .int 2, .ref z19, .ref z8, .ref z9, .ref z10, .int 1, .ref z11, .int 0, .ref z30, .ref z31, .ref z32, .ref z33, .int 0, .ref z12, .int 0, .int 0, .ref z34, .ref z35, .ref z36, .ref z37, .int 0, .int 0, .int 0, .int 0, .ref z38, .int 0, .ref z39, .ref z40, .ref z41, .ref z42, .int 0, .ref z13, .ref z14, .ref z15, .ref z16, .int 0, .ref z17, .ref z18, .ref z43])), (z19, .inl (G.1, 5, .inl (upd (upd (tI [0, 1, 2, 3, 4]) 0 1) 1 0)))] := hD
  have hP9 := hP.sub (ws' := [(h0, .inr (12, [.ref z0, .ref z1, .ref z2, .ref z3, .ref z4, .ref z5, .ref z20, .ref z21, .ref z22, .ref z23, .ref z24, .ref z25, .int 0, .ref z26, .ref z27, .ref z28, .int 9, .int 0, .int 0, .ref z6, .ref z29, .ref z7, .int 0, .int 2, .ref z19, .ref z8, .ref z9, .ref z10, .int 1, .ref z11, .int 0, .ref z30, .ref z31, .ref z32, .ref z33, .int 0, .ref z12, .int 0, .int 0, .ref z34, .ref z35, .ref z36, .ref z37, .int 0, .int 0, .int 0, .int 0, .ref z38, .int 0, .ref z39, .ref z40, .ref z41, .ref z42, .int 0, .ref z13, .ref z14, .ref z15, .ref z16, .int 0, .ref z17, .ref z18, .ref z43]))]) [0] rfl
  have hD9 := hD.sub (ws' := [(h0, .inr (12, [.ref z0, .ref z1, .ref z2, .ref z3, .ref z4, .ref z5, .ref z20, .ref z21, .ref z22, .ref z23, .ref z24, .ref z25, .int 0, .ref z26, .ref z27, .ref z28, .int 9, .int 0, .int 0, .ref z6, .ref z29, .ref z7, .int 0, .int 2, .ref z19, .ref z8, .ref z9, .ref z10, .int 1, .ref z11, .int 0, .ref z30, .ref z31, .ref z32, .ref z33, .int 0, .ref z12, .int 0, .int 0, .ref z34, .ref z35, .ref z36, .ref z37, .int 0, .int 0, .int 0, .int 0, .ref z38, .int 0, .ref z39, .ref z40, .ref z41, .ref z42, .int 0, .ref z13, .ref z14, .ref z15, .ref z16, .int 0, .ref z17, .ref z18, .ref z43]))]) [0] (by decide) rfl
  exact W.vret hx hb hr (fun t ht hW => ⟨⟨(), rfl, trivial, ⟨by rw [ht]; exact hP9, va_K.moved hW.alike hK, hD9⟩⟩, hS.F ht⟩) hS.2.2 dX12_change_35

theorem mX12_pass_w0 : Cond.fieldLink RX12 157 "PuppetBridgeModel" "thrown" "I" ∈ wsX12_pass := by decide +kernel
theorem mX12_pass_w1 : Cond.fieldLink RX12 297 "PuppetBridgeModel" "passMany" "I" ∈ wsX12_pass := by decide +kernel
theorem mX12_pass_w2 : Cond.fieldLink RX12 75 "PuppetBridgeModel" "passes" "[I" ∈ wsX12_pass := by decide +kernel
theorem mX12_pass_w3 : Cond.fieldLink RX12 78 "PuppetBridgeModel" "passA" "[I" ∈ wsX12_pass := by decide +kernel
theorem mX12_pass_w4 : Cond.fieldLink RX12 72 "PuppetBridgeModel" "spots" "[I" ∈ wsX12_pass := by decide +kernel
theorem mX12_pass_w5 : Cond.methodLink RX12 228 Lib.Math.abs.name ∈ wsX12_pass := by decide +kernel
theorem mX12_pass_w6 : Cond.static Lib.Math.abs.name ∈ wsX12_pass := by decide +kernel
theorem mX12_pass_w7 : Cond.initialized "java/lang/Math" ∈ wsX12_pass := by decide +kernel
theorem mX12_pass_w8 : Cond.code Lib.Math.abs.name Lib.Math.abs.code 1 (some .int) ∈ wsX12_pass := by decide +kernel
theorem mX12_pass_w9 : Cond.fieldLink RX12 81 "PuppetBridgeModel" "passB" "[I" ∈ wsX12_pass := by decide +kernel
theorem iX12_pass_X12 : ∀ w ∈ wsX120, w ∈ wsX12_pass := fun _ h => List.mem_cons_of_mem _ (List.mem_append_right _ h)
set_option maxRecDepth 20000 in
theorem ggX12_pass_X12_isPass : GoodIn wsX12_pass wsX12_isPass := goodIn_r _ [15, 16, 17, 8, 18, 19, 24, 25, 26, 27, 28, 29, 30, 31, 32, 33, 34, 35, 36, 37, 38, 39, 40, 41, 42, 43, 44, 45, 46, 47, 48, 49, 50, 51, 52, 53, 54, 55, 56, 57, 58, 59, 60, 61, 62, 63, 64, 65, 66, 67, 68, 69, 70, 71, 72, 73, 74, 75, 76, 77, 78, 79, 80, 81, 82, 83, 84, 85] (by decide +kernel) (by decide +kernel)
set_option maxRecDepth 20000 in
theorem gX12_pass_X12_isPass : GoodIn wsX12_pass (wsV RX12 312 RX12 yX12_isPass wsX12_isPass) := goodIn_app (goodIn_of _ (by decide +kernel)) ggX12_pass_X12_isPass
set_option maxRecDepth 20000 in
theorem ggX12_pass_X12_change : GoodIn wsX12_pass wsX12_change := goodIn_r _ [23, 6, 7, 8, 9, 5, 24, 25, 26, 27, 28, 29, 30, 31, 32, 33, 34, 35, 36, 37, 38, 39, 40, 41, 42, 43, 44, 45, 46, 47, 48, 49, 50, 51, 52, 53, 54, 55, 56, 57, 58, 59, 60, 61, 62, 63, 64, 65, 66, 67, 68, 69, 70, 71, 72, 73, 74, 75, 76, 77, 78, 79, 80, 81, 82, 83, 84, 85] (by decide +kernel) (by decide +kernel)
set_option maxRecDepth 20000 in
theorem gX12_pass_X12_change : GoodIn wsX12_pass (wsV RX12 315 RX12 yX12_change wsX12_change) := goodIn_app (goodIn_of _ (by decide +kernel)) ggX12_pass_X12_change
theorem dX12_pass_0 : decode cX12_pass 0 = .ok (.aload_n 0, 1) := by decide +kernel
theorem dX12_pass_1 : decode cX12_pass 1 = .ok (.iconst 0, 1) := by decide +kernel
theorem dX12_pass_2 : decode cX12_pass 2 = .ok (.putfield 157, 3) := by decide +kernel
theorem dX12_pass_5 : decode cX12_pass 5 = .ok (.aload_n 0, 1) := by decide +kernel
theorem dX12_pass_6 : decode cX12_pass 6 = .ok (.iload_n 1, 1) := by decide +kernel
theorem dX12_pass_7 : decode cX12_pass 7 = .ok (.invokevirtual 312, 3) := by decide +kernel
theorem dX12_pass_10 : decode cX12_pass 10 = .ok (.ifCond .eq 12, 3) := by decide +kernel
theorem dX12_pass_13 : decode cX12_pass 13 = .ok (.aload_n 0, 1) := by decide +kernel
theorem dX12_pass_14 : decode cX12_pass 14 = .ok (.getfield 297, 3) := by decide +kernel
theorem dX12_pass_17 : decode cX12_pass 17 = .ok (.bipush 40, 2) := by decide +kernel
theorem dX12_pass_19 : decode cX12_pass 19 = .ok (.if_icmp .ne 5, 3) := by decide +kernel
theorem dX12_pass_22 : decode cX12_pass 22 = .ok (.iconst (-1), 1) := by decide +kernel
theorem dX12_pass_23 : decode cX12_pass 23 = .ok (.ireturn, 1) := by decide +kernel
theorem dX12_pass_24 : decode cX12_pass 24 = .ok (.aload_n 0, 1) := by decide +kernel
theorem dX12_pass_25 : decode cX12_pass 25 = .ok (.getfield 75, 3) := by decide +kernel
theorem dX12_pass_28 : decode cX12_pass 28 = .ok (.aload_n 0, 1) := by decide +kernel
theorem dX12_pass_29 : decode cX12_pass 29 = .ok (.getfield 297, 3) := by decide +kernel
theorem dX12_pass_32 : decode cX12_pass 32 = .ok (.iload_n 1, 1) := by decide +kernel
theorem dX12_pass_33 : decode cX12_pass 33 = .ok (.iastore, 1) := by decide +kernel
theorem dX12_pass_34 : decode cX12_pass 34 = .ok (.aload_n 0, 1) := by decide +kernel
theorem dX12_pass_35 : decode cX12_pass 35 = .ok (.getfield 78, 3) := by decide +kernel
theorem dX12_pass_38 : decode cX12_pass 38 = .ok (.aload_n 0, 1) := by decide +kernel
theorem dX12_pass_39 : decode cX12_pass 39 = .ok (.getfield 297, 3) := by decide +kernel
theorem dX12_pass_42 : decode cX12_pass 42 = .ok (.aload_n 0, 1) := by decide +kernel
theorem dX12_pass_43 : decode cX12_pass 43 = .ok (.getfield 72, 3) := by decide +kernel
theorem dX12_pass_46 : decode cX12_pass 46 = .ok (.iload_n 1, 1) := by decide +kernel
theorem dX12_pass_47 : decode cX12_pass 47 = .ok (.invokestatic 228, 3) := by decide +kernel
theorem dX12_pass_50 : decode cX12_pass 50 = .ok (.iconst 1, 1) := by decide +kernel
theorem dX12_pass_51 : decode cX12_pass 51 = .ok (.isub, 1) := by decide +kernel
theorem dX12_pass_52 : decode cX12_pass 52 = .ok (.iaload, 1) := by decide +kernel
theorem dX12_pass_53 : decode cX12_pass 53 = .ok (.iastore, 1) := by decide +kernel
theorem dX12_pass_54 : decode cX12_pass 54 = .ok (.aload_n 0, 1) := by decide +kernel
theorem dX12_pass_55 : decode cX12_pass 55 = .ok (.getfield 81, 3) := by decide +kernel
theorem dX12_pass_58 : decode cX12_pass 58 = .ok (.aload_n 0, 1) := by decide +kernel
theorem dX12_pass_59 : decode cX12_pass 59 = .ok (.getfield 297, 3) := by decide +kernel
theorem dX12_pass_62 : decode cX12_pass 62 = .ok (.aload_n 0, 1) := by decide +kernel
theorem dX12_pass_63 : decode cX12_pass 63 = .ok (.getfield 72, 3) := by decide +kernel
theorem dX12_pass_66 : decode cX12_pass 66 = .ok (.iload_n 1, 1) := by decide +kernel
theorem dX12_pass_67 : decode cX12_pass 67 = .ok (.invokestatic 228, 3) := by decide +kernel
theorem dX12_pass_70 : decode cX12_pass 70 = .ok (.iaload, 1) := by decide +kernel
theorem dX12_pass_71 : decode cX12_pass 71 = .ok (.iastore, 1) := by decide +kernel
theorem dX12_pass_72 : decode cX12_pass 72 = .ok (.aload_n 0, 1) := by decide +kernel
theorem dX12_pass_73 : decode cX12_pass 73 = .ok (.dup, 1) := by decide +kernel
theorem dX12_pass_74 : decode cX12_pass 74 = .ok (.getfield 297, 3) := by decide +kernel
theorem dX12_pass_77 : decode cX12_pass 77 = .ok (.iconst 1, 1) := by decide +kernel
theorem dX12_pass_78 : decode cX12_pass 78 = .ok (.iadd, 1) := by decide +kernel
theorem dX12_pass_79 : decode cX12_pass 79 = .ok (.putfield 297, 3) := by decide +kernel
theorem dX12_pass_82 : decode cX12_pass 82 = .ok (.aload_n 0, 1) := by decide +kernel
theorem dX12_pass_83 : decode cX12_pass 83 = .ok (.iload_n 1, 1) := by decide +kernel
theorem dX12_pass_84 : decode cX12_pass 84 = .ok (.invokevirtual 315, 3) := by decide +kernel
theorem dX12_pass_87 : decode cX12_pass 87 = .ok (.aload_n 0, 1) := by decide +kernel
theorem dX12_pass_88 : decode cX12_pass 88 = .ok (.getfield 297, 3) := by decide +kernel
theorem dX12_pass_91 : decode cX12_pass 91 = .ok (.ireturn, 1) := by decide +kernel
set_option maxHeartbeats 4000000 in
set_option maxRecDepth 100000 in
/-- X12_pass -/
theorem kX12_pass (l : Launch) (D : va_G) (G : tyG) (h0 : Nat) (x1 : Int32) (z0 : Nat) (z1 : Nat) (z2 : Nat) (z3 : Nat) (z4 : Nat) (z5 : Nat) (z20 : Nat) (z21 : Nat) (z22 : Nat) (z23 : Nat) (z24 : Nat) (z25 : Nat) (z26 : Nat) (z27 : Nat) (z28 : Nat) (z6 : Nat) (z29 : Nat) (z7 : Nat) (z19 : Nat) (z8 : Nat) (z9 : Nat) (z10 : Nat) (z11 : Nat) (z30 : Nat) (z31 : Nat) (z32 : Nat) (z33 : Nat) (z12 : Nat) (z34 : Nat) (z35 : Nat) (z36 : Nat) (z37 : Nat) (z38 : Nat) (z39 : Nat) (z40 : Nat) (z41 : Nat) (z42 : Nat) (z13 : Nat) (z14 : Nat) (z15 : Nat) (z16 : Nat) (z17 : Nat) (z18 : Nat) (z43 : Nat) (sz : Nat) : Met l yX12_pass wsX12_pass ({ frames := 2, cells := 0, slots := 0, locals := 55 }) (va_Pc [.ref h0, .int x1] (wB D G sz [(h0, .inr (12, [.ref z0, .ref z1, .ref z2, .ref z3, .ref z4, .ref z5, .ref z20, .ref z21, .ref z22, .ref z23, .ref z24, .ref z25, .int 0, .ref z26, .ref z27, .ref z28, .int 9, .int 0, .int 0, .ref z6, .ref z29, .ref z7, .int 0, .int 2, .ref z19, .ref z8, .ref z9, .ref z10, .int 0, .ref z11, .int 0, .ref z30, .ref z31, .ref z32, .ref z33, .int 0, .ref z12, .int 0, .int 0, .ref z34, .ref z35, .ref z36, .ref z37, .int 0, .int 0, .int 0, .int 0, .ref z38, .int 0, .ref z39, .ref z40, .ref z41, .ref z42, .int 0, .ref z13, .ref z14, .ref z15, .ref z16, .int 0, .ref z17, .ref z18, .ref z43])), (z19, .inl (G.1, 5, .inl (tI [0, 1, 2, 3, 4]))), (z8, .inl (G.1, 40, .inl (fun _ => 0))), (z9, .inl (G.1, 40, .inl (fun _ => 0))), (z10, .inl (G.1, 40, .inl (fun _ => 0)))])) (va_Qi (fun (r : Int32) (_ : Unit) => r = sPass x1) (fun _ _ => True) (va_A [(h0, .inr (12, [.ref z0, .ref z1, .ref z2, .ref z3, .ref z4, .ref z5, .ref z20, .ref z21, .ref z22, .ref z23, .ref z24, .ref z25, .int 0, .ref z26, .ref z27, .ref z28, .int 9, .int 0, .int 0, .ref z6, .ref z29, .ref z7, .int 0, .int 2, .ref z19, .ref z8, .ref z9, .ref z10, .int 0, .ref z11, .int 0, .ref z30, .ref z31, .ref z32, .ref z33, .int 0, .ref z12, .int 0, .int 0, .ref z34, .ref z35, .ref z36, .ref z37, .int 0, .int 0, .int 0, .int 0, .ref z38, .int 0, .ref z39, .ref z40, .ref z41, .ref z42, .int 0, .ref z13, .ref z14, .ref z15, .ref z16, .int 0, .ref z17, .ref z18, .ref z43])), (z19, .inl (G.1, 5, .inl (tI [0, 1, 2, 3, 4]))), (z8, .inl (G.1, 40, .inl (fun _ => 0))), (z9, .inl (G.1, 40, .inl (fun _ => 0))), (z10, .inl (G.1, 40, .inl (fun _ => 0)))] sz)) 0 0 (va_A [(h0, .inr (12, [.ref z0, .ref z1, .ref z2, .ref z3, .ref z4, .ref z5, .ref z20, .ref z21, .ref z22, .ref z23, .ref z24, .ref z25, .int 0, .ref z26, .ref z27, .ref z28, .int 9, .int 0, .int 0, .ref z6, .ref z29, .ref z7, .int 0, .int 2, .ref z19, .ref z8, .ref z9, .ref z10, .int 0, .ref z11, .int 0, .ref z30, .ref z31, .ref z32, .ref z33, .int 0, .ref z12, .int 0, .int 0, .ref z34, .ref z35, .ref z36, .ref z37, .int 0, .int 0, .int 0, .int 0, .ref z38, .int 0, .ref z39, .ref z40, .ref z41, .ref z42, .int 0, .ref z13, .ref z14, .ref z15, .ref z16, .int 0, .ref z17, .ref z18, .ref z43])), (z19, .inl (G.1, 5, .inl (tI [0, 1, 2, 3, 4]))), (z8, .inl (G.1, 40, .inl (fun _ => 0))), (z9, .inl (G.1, 40, .inl (fun _ => 0))), (z10, .inl (G.1, 40, .inl (fun _ => 0)))] sz) := by
  refine Met.ofW (cc := cX12_pass) (maxL := 2) (ret := (some .int)) (by decide) rfl ?_
  intro p e s m args below meth c s₁ B hml hv
  obtain ⟨rfl, hsz, hP, hK, hD0, hN⟩ := hv
  have hx := B.exec
  have hb := B.bytes
  have hr := B.returns
  have hts := atoms_spec (ws := wsX12_pass) B.pre
  have hown : s.vm.findClass RX12 = some m.cls := findClass_of_methodNamed B.named
  have hlocks := B.notSynchronized
  subst hsz
  have hD := hD0.self (sz := s.heap.size)
  generalize hAe : va_A [(h0, .inr (12, [.ref z0, .ref z1, .ref z2, .ref z3, .ref z4, .ref z5, .ref z20, .ref z21, .ref z22, .ref z23, .ref z24, .ref z25, .int 0, .ref z26, .ref z27, .ref z28, .int 9, .int 0, .int 0, .ref z6, .ref z29, .ref z7, .int 0, .int 2, .ref z19, .ref z8, .ref z9, .ref z10, .int 0, .ref z11, .int 0, .ref z30, .ref z31, .ref z32, .ref z33, .int 0, .ref z12, .int 0, .int 0, .ref z34, .ref z35, .ref z36, .ref z37, .int 0, .int 0, .int 0, .int 0, .ref z38, .int 0, .ref z39, .ref z40, .ref z41, .ref z42, .int 0, .ref z13, .ref z14, .ref z15, .ref z16, .int 0, .ref z17, .ref z18, .ref z43])), (z19, .inl (G.1, 5, .inl (tI [0, 1, 2, 3, 4]))), (z8, .inl (G.1, 40, .inl (fun _ => 0))), (z9, .inl (G.1, 40, .inl (fun _ => 0))), (z10, .inl (G.1, 40, .inl (fun _ => 0)))] s.heap.size = A at hD ⊢
  have hA : ∀ q : Nat, s.heap.size ≤ q → A q := fun q h => by rw [← hAe]; exact Or.inr h
  have hS : va_S A s.heap s.heap [] := va_S.rf
  have hP : va_P D vwCl [(h0, .inr (12, [.ref z0, .ref z1, .ref z2, .ref z3, .ref z4, .ref z5, .ref z20, .ref z21, .ref z22, .ref z23, .ref z24, .ref z25, .int 0, .ref z26, .ref z27, .ref z28, .int 9, .int 0, .int 0, .ref z6, .ref z29, .ref z7, .int 0, .int 2, .ref z19, .ref z8, .ref z9, .ref z10, .int 0, .ref z11, .int 0, .ref z30, .ref z31, .ref z32, .ref z33, .int 0, .ref z12, .int 0, .int 0, .ref z34, .ref z35, .ref z36, .ref z37, .int 0, .int 0, .int 0, .int 0, .ref z38, .int 0, .ref z39, .ref z40, .ref z41, .ref z42, .int 0, .ref z13, .ref z14, .ref z15, .ref z16, .int 0, .ref z17, .ref z18, .ref z43])), (z19, .inl (G.1, 5, .inl (tI [0, 1, 2, 3, 4]))), (z8, .inl (G.1, 40, .inl (fun _ => 0))), (z9, .inl (G.1, 40, .inl (fun _ => 0))), (z10, .inl (G.1, 40, .inl (fun _ => 0)))] s.heap := hP
  have hl := lv_entry ([.ref h0, .int x1]) (n := 2) (Nat.le_of_ble_eq_true rfl)
  rw [lg_entry_eq]
  generalize (lg_sl ([.ref h0, .int x1]) ++ List.replicate (2 - (lg_sl ([.ref h0, .int x1])).length) Slot.unset).toArray = ls at hl ⊢
  have hl : lv_has ls 2 [(0, .ref h0), (1, .int x1)] := hl
  refine lv_aload_n hx hb dX12_pass_0 rfl (lv_at hl 0 rfl) ?_
  refine lv_iconst (v := 0) hx hb dX12_pass_1 (by decide) ?_
  refine va_put (D := D) (ci := 12) (v := .int 0) (ty := (tyX12 38)) (C := RX12) (T := TX12) (N := 62) hx hb hts iX12_pass_X12 tyX12 tyX12_ok nmX12 hown hK hP hD hS 0 rfl rfl 38 (by decide) (hts (.fieldLink RX12 157 "PuppetBridgeModel" "thrown" "I") mX12_pass_w0) (fun _ h9 => h9) rfl (tyX12_ok 38 (by decide)) rfl rfl (Nat.le_of_ble_eq_true rfl) dX12_pass_2 (fun H locs hP hD hS => ?_)
  have hP : va_P D vwCl [(h0, .inr (12, [.ref z0, .ref z1, .ref z2, .ref z3, .ref z4, .ref z5, .ref z20, .ref z21, .ref z22, .ref z23, .ref z24, .ref z25, .int 0, .ref z26, .ref z27, .ref z28, .int 9, .int 0, .int 0, .ref z6, .ref z29, .ref z7, .int 0, .int 2, .ref z19, .ref z8, .ref z9, .ref z10, .int 0, .ref z11, .int 0, .ref z30, .ref z31, .ref z32, .ref z33, .int 0, .ref z12, .int 0, .int 0, .ref z34, .ref z35, .ref z36, .ref z37, .int 0, .int 0, .int 0, .int 0, .ref z38, .int 0, .ref z39, .ref z40, .ref z41, .ref z42, .int 0, .ref z13, .ref z14, .ref z15, .ref z16, .int 0, .ref z17, .ref z18, .ref z43])), (z19, .inl (G.1, 5, .inl (tI [0, 1, 2, 3, 4]))), (z8, .inl (G.1, 40, .inl (fun _ => 0))), (z9, .inl (G.1, 40, .inl (fun _ => 0))), (z10, .inl (G.1, 40, .inl (fun _ => 0)))] H := hP
  have hD : va_D A [(h0, .inr (12, [.ref z0, .ref z1, .ref z2, .ref z3, .ref z4, .ref z5, .ref z20, .ref z21, .ref z22, .ref z23, .ref z24, .ref z25, .int 0, .ref z26, .ref z27, .ref z28, .int 9, .int 0, .int 0, .ref z6, .ref z29, .ref z7, .int 0, .int 2, .ref z19, .ref z8, .ref z9, .ref z10, .int 0, .ref z11, .int 0, .ref z30, .ref z31, .ref z32, .ref z33, .int 0, .ref z12, .int 0, .int 0, .ref z34, .ref z35, .ref z36, .ref z37, .int 0, .int 0, .int 0, .int 0, .ref z38, .int 0, .ref z39, .ref z40, .ref z41, .ref z42, .int 0, .ref z13, .ref z14, .ref z15, .ref z16, .int 0, .ref z17, .ref z18, .ref z43])), (z19, .inl (G.1, 5, .inl (tI [0, 1, 2, 3, 4]))), (z8, .inl (G.1, 40, .inl (fun _ => 0))), (z9, .inl (G.1, 40, .inl (fun _ => 0))), (z10, .inl (G.1, 40, .inl (fun _ => 0)))] := hD
  refine lv_aload_n hx hb dX12_pass_5 rfl (lv_at hl 0 rfl) ?_
  refine lv_iload_n hx hb dX12_pass_6 rfl (lv_at hl 1 rfl) ?_
  have hPc := hP.sub (ws' := [(h0, .inr (12, [.ref z0, .ref z1, .ref z2, .ref z3, .ref z4, .ref z5, .ref z20, .ref z21, .ref z22, .ref z23, .ref z24, .ref z25, .int 0, .ref z26, .ref z27, .ref z28, .int 9, .int 0, .int 0, .ref z6, .ref z29, .ref z7, .int 0, .int 2, .ref z19, .ref z8, .ref z9, .ref z10, .int 0, .ref z11, .int 0, .ref z30, .ref z31, .ref z32, .ref z33, .int 0, .ref z12, .int 0, .int 0, .ref z34, .ref z35, .ref z36, .ref z37, .int 0, .int 0, .int 0, .int 0, .ref z38, .int 0, .ref z39, .ref z40, .ref z41, .ref z42, .int 0, .ref z13, .ref z14, .ref z15, .ref z16, .int 0, .ref z17, .ref z18, .ref z43]))]) [0] rfl
  have hDc := hD.sub (ws' := [(h0, .inr (12, [.ref z0, .ref z1, .ref z2, .ref z3, .ref z4, .ref z5, .ref z20, .ref z21, .ref z22, .ref z23, .ref z24, .ref z25, .int 0, .ref z26, .ref z27, .ref z28, .int 9, .int 0, .int 0, .ref z6, .ref z29, .ref z7, .int 0, .int 2, .ref z19, .ref z8, .ref z9, .ref z10, .int 0, .ref z11, .int 0, .ref z30, .ref z31, .ref z32, .ref z33, .int 0, .ref z12, .int 0, .int 0, .ref z34, .ref z35, .ref z36, .ref z37, .int 0, .int 0, .int 0, .int 0, .ref z38, .int 0, .ref z39, .ref z40, .ref z41, .ref z42, .int 0, .ref z13, .ref z14, .ref z15, .ref z16, .int 0, .ref z17, .ref z18, .ref z43]))]) [0] (by decide) rfl
  have hFc := va_free (wc := [(h0, .inr (12, [.ref z0, .ref z1, .ref z2, .ref z3, .ref z4, .ref z5, .ref z20, .ref z21, .ref z22, .ref z23, .ref z24, .ref z25, .int 0, .ref z26, .ref z27, .ref z28, .int 9, .int 0, .int 0, .ref z6, .ref z29, .ref z7, .int 0, .int 2, .ref z19, .ref z8, .ref z9, .ref z10, .int 0, .ref z11, .int 0, .ref z30, .ref z31, .ref z32, .ref z33, .int 0, .ref z12, .int 0, .int 0, .ref z34, .ref z35, .ref z36, .ref z37, .int 0, .int 0, .int 0, .int 0, .ref z38, .int 0, .ref z39, .ref z40, .ref z41, .ref z42, .int 0, .ref z13, .ref z14, .ref z15, .ref z16, .int 0, .ref z17, .ref z18, .ref z43]))]) hD hS hA [0] rfl
  refine va_calli (va_runV (As := [.int x1]) (rest := []) ⟨hx, hb, hml, hown, hts⟩ (kX12_isPass l D G h0 x1 z0 z1 z2 z3 z4 z5 z20 z21 z22 z23 z24 z25 z26 z27 z28 z6 z29 z7 z19 z8 z9 z10 z11 z30 z31 z32 z33 z12 z34 z35 z36 z37 z38 z39 z40 z41 z42 z13 z14 z15 z16 z17 z18 z43 H.size) (cwV 1 hts gX12_pass_X12_isPass rfl rfl rfl (by decide +kernel) ⟨Nat.le_of_ble_eq_true rfl, Nat.le_of_ble_eq_true rfl⟩) ⟨wB_blind, va_recv hK hPc (ci := 12) (q0 := 0) rfl rfl, wB_pre hPc hK hDc hN⟩ rfl rfl hl.1 rfl (lv_room (Nat.le_of_ble_eq_true rfl)) dX12_pass_7 ⟨Nat.le_of_ble_eq_true rfl, Nat.le_of_ble_eq_true rfl⟩) hS (fun q _ h => hFc q h) hFc (fun r1 u t H1 locs ht hvm hr1 hB hz1 hk1 hS => ?_)
  obtain ⟨hP1, hK1, hD1⟩ := hB
  rw [ht] at hP1
  obtain ⟨hP, hD⟩ := va_join (wr := [(z19, .inl (G.1, 5, .inl (tI [0, 1, 2, 3, 4]))), (z8, .inl (G.1, 40, .inl (fun _ => 0))), (z9, .inl (G.1, 40, .inl (fun _ => 0))), (z10, .inl (G.1, 40, .inl (fun _ => 0)))]) (w1 := [(h0, .inr (12, [.ref z0, .ref z1, .ref z2, .ref z3, .ref z4, .ref z5, .ref z20, .ref z21, .ref z22, .ref z23, .ref z24, .ref z25, .int 0, .ref z26, .ref z27, .ref z28, .int 9, .int 0, .int 0, .ref z6, .ref z29, .ref z7, .int 0, .int 2, .ref z19, .ref z8, .ref z9, .ref z10, .int 0, .ref z11, .int 0, .ref z30, .ref z31, .ref z32, .ref z33, .int 0, .ref z12, .int 0, .int 0, .ref z34, .ref z35, .ref z36, .ref z37, .int 0, .int 0, .int 0, .int 0, .ref z38, .int 0, .ref z39, .ref z40, .ref z41, .ref z42, .int 0, .ref z13, .ref z14, .ref z15, .ref z16, .int 0, .ref z17, .ref z18, .ref z43]))]) hP hD [0] [1, 2, 3, 4] rfl rfl (by decide) (by decide) hk1 hFc hP1 hD1
  clear hPc hDc
  generalize H1 = H at hP hS ⊢
  have hP : va_P D vwCl [(z19, .inl (G.1, 5, .inl (tI [0, 1, 2, 3, 4]))), (z8, .inl (G.1, 40, .inl (fun _ => 0))), (z9, .inl (G.1, 40, .inl (fun _ => 0))), (z10, .inl (G.1, 40, .inl (fun _ => 0))), (h0, .inr (12, [.ref z0, .ref z1, .ref z2, .ref z3, .ref z4, .ref z5, .ref z20, .ref z21, .ref z22, .ref z23, .ref z24, .ref z25, .int 0, .ref z26, .ref z27, .ref z28, .int 9, .int 0, .int 0, .ref z6, .ref z29, .ref z7, .int 0, .int 2, .ref z19, .ref z8, .ref z9, .ref z10, .int 0, .ref z11, .int 0, .ref z30, .ref z31, .ref z32, .ref z33, .int 0, .ref z12, .int 0, .int 0, .ref z34, .ref z35, .ref z36, .ref z37, .int 0, .int 0, .int 0, .int 0, .ref z38, .int 0, .ref z39, .ref z40, .ref z41, .ref z42, .int 0, .ref z13, .ref z14, .ref z15, .ref z16, .int 0, .ref z17, .ref z18, .ref z43]))] H := hP
  have hD : va_D A [(z19, .inl (G.1, 5, .inl (tI [0, 1, 2, 3, 4]))), (z8, .inl (G.1, 40, .inl (fun _ => 0))), (z9, .inl (G.1, 40, .inl (fun _ => 0))), (z10, .inl (G.1, 40, .inl (fun _ => 0))), (h0, .inr (12, [.ref z0, .ref z1, .ref z2, .ref z3, .ref z4, .ref z5, .ref z20, .ref z21, .ref z22, .ref z23, .ref z24, .ref z25, .int 0, .ref z26, .ref z27, .ref z28, .int 9, .int 0, .int 0, .ref z6, .ref z29, .ref z7, .int 0, .int 2, .ref z19, .ref z8, .ref z9, .ref z10, .int 0, .ref z11, .int 0, .ref z30, .ref z31, .ref z32, .ref z33, .int 0, .ref z12, .int 0, .int 0, .ref z34, .ref z35, .ref z36, .ref z37, .int 0, .int 0, .int 0, .int 0, .ref z38, .int 0, .ref z39, .ref z40, .ref z41, .ref z42, .int 0, .ref z13, .ref z14, .ref z15, .ref z16, .int 0, .ref z17, .ref z18, .ref z43]))] := hD
  refine lv_if_eq (tgt := 22) hx hb dX12_pass_10 (by decide) (fun c2 => ?_) (fun c2 => ?_)
  · have kc2 : (inB x1 1 1 || inB x1 (-1) (-1)) = false := wk_b0 hr1 c2
    refine lv_iconst (v := (-1)) hx hb dX12_pass_22 (by decide) ?_
    exact W.iret (v := (-1)) hx hb hr (fun t ht hW => ⟨⟨(-1), (), rfl, inB_npm kc2, trivial⟩, hS.F ht⟩) hS.2.2 dX12_pass_23
  · have kc2 : (inB x1 1 1 || inB x1 (-1) (-1)) = true := wk_b1 hr1 c2
    rcases (inB_pm kc2) with rfl | rfl
    · refine lv_aload_n hx hb dX12_pass_13 rfl (lv_at hl 0 rfl) ?_
      refine va_get (D := D) (ci := 12) (v := .int 0) (C := RX12) (T := TX12) (N := 62) hx hb hts iX12_pass_X12 hown hK hP 4 rfl rfl 28 (by decide) (hts (.fieldLink RX12 297 "PuppetBridgeModel" "passMany" "I") mX12_pass_w1) (fun _ h9 => h9) rfl dX12_pass_14 ?_
      refine lv_bipush (v := 40) hx hb dX12_pass_17 (by decide) ?_
      refine lv_icmp_ne (tgt := 24) hx hb dX12_pass_19 (by decide) (fun _ => ?_) (fun h9 => absurd h9 (by decide))
      refine lv_aload_n hx hb dX12_pass_24 rfl (lv_at hl 0 rfl) ?_
      refine va_get (D := D) (ci := 12) (v := .ref z8) (C := RX12) (T := TX12) (N := 62) hx hb hts iX12_pass_X12 hown hK hP 4 rfl rfl 25 (by decide) (hts (.fieldLink RX12 75 "PuppetBridgeModel" "passes" "[I") mX12_pass_w2) (fun _ h9 => h9) rfl dX12_pass_25 ?_
      refine lv_aload_n hx hb dX12_pass_28 rfl (lv_at hl 0 rfl) ?_
      refine va_get (D := D) (ci := 12) (v := .int 0) (C := RX12) (T := TX12) (N := 62) hx hb hts iX12_pass_X12 hown hK hP 4 rfl rfl 28 (by decide) (hts (.fieldLink RX12 297 "PuppetBridgeModel" "passMany" "I") mX12_pass_w1) (fun _ h9 => h9) rfl dX12_pass_29 ?_
      refine lv_iload_n hx hb dX12_pass_32 rfl (lv_at hl 1 rfl) ?_
      refine va_iast hx hb hK hP hD hS 1 0 rfl rfl (wk_in rfl) dX12_pass_33 (fun H locs hP hD hS => ?_)
      have hP : va_P D vwCl [(z19, .inl (G.1, 5, .inl (tI [0, 1, 2, 3, 4]))), (z8, .inl (G.1, 40, .inl (upd (fun _ => 0) 0 1))), (z9, .inl (G.1, 40, .inl (fun _ => 0))), (z10, .inl (G.1, 40, .inl (fun _ => 0))), (h0, .inr (12, [.ref z0, .ref z1, .ref z2, .ref z3, .ref z4, .ref z5, .ref z20, .ref z21, .ref z22, .ref z23, .ref z24, .ref z25, .int 0, .ref z26, .ref z27, .ref z28, .int 9, .int 0, .int 0, .ref z6, .ref z29, .ref z7, .int 0, .int 2, .ref z19, .ref z8, .ref z9, .ref z10, .int 0, .ref z11, .int 0, .ref z30, .ref z31, .ref z32, .ref z33, .int 0, .ref z12, .int 0, .int 0, .ref z34, .ref z35, .ref z36, .ref z37, .int 0, .int 0, .int 0, .int 0, .ref z38, .int 0, .ref z39, .ref z40, .ref z41, .ref z42, .int 0, .ref z13, .ref z14, .ref z15, .ref z16, .int 0, .ref z17, .ref z18, .ref z43]))] H := hP
      have hD : va_D A [(z19, .inl (G.1, 5, .inl (tI [0, 1, 2, 3, 4]))), (z8, .inl (G.1, 40, .inl (upd (fun _ => 0) 0 1))), (z9, .inl (G.1, 40, .inl (fun _ => 0))), (z10, .inl (G.1, 40, .inl (fun _ => 0))), (h0, .inr (12, [.ref z0, .ref z1, .ref z2, .ref z3, .ref z4, .ref z5, .ref z20, .ref z21, .ref z22, .ref z23, .ref z24, .ref z25, .int 0, .ref z26, .ref z27, .ref z28, .int 9, .int 0, .int 0, .ref z6, .ref z29, .ref z7, .int 0, .int 2, .ref z19, .ref z8, .ref z9, .ref z10, .int 0, .ref z11, .int 0, .ref z30, .ref z31, .ref z32, .ref z33, .int 0, .ref z12, .int 0, .int 0, .ref z34, .ref z35, .ref z36, .ref z37, .int 0, .int 0, .int 0, .int 0, .ref z38, .int 0, .ref z39, .ref z40, .ref z41, .ref z42, .int 0, .ref z13, .ref z14, .ref z15, .ref z16, .int 0, .ref z17, .ref z18, .ref z43]))] := hD
      refine lv_aload_n hx hb dX12_pass_34 rfl (lv_at hl 0 rfl) ?_
      refine va_get (D := D) (ci := 12) (v := .ref z9) (C := RX12) (T := TX12) (N := 62) hx hb hts iX12_pass_X12 hown hK hP 4 rfl rfl 26 (by decide) (hts (.fieldLink RX12 78 "PuppetBridgeModel" "passA" "[I") mX12_pass_w3) (fun _ h9 => h9) rfl dX12_pass_35 ?_
      refine lv_aload_n hx hb dX12_pass_38 rfl (lv_at hl 0 rfl) ?_
      refine va_get (D := D) (ci := 12) (v := .int 0) (C := RX12) (T := TX12) (N := 62) hx hb hts iX12_pass_X12 hown hK hP 4 rfl rfl 28 (by decide) (hts (.fieldLink RX12 297 "PuppetBridgeModel" "passMany" "I") mX12_pass_w1) (fun _ h9 => h9) rfl dX12_pass_39 ?_
      refine lv_aload_n hx hb dX12_pass_42 rfl (lv_at hl 0 rfl) ?_
      refine va_get (D := D) (ci := 12) (v := .ref z19) (C := RX12) (T := TX12) (N := 62) hx hb hts iX12_pass_X12 hown hK hP 4 rfl rfl 24 (by decide) (hts (.fieldLink RX12 72 "PuppetBridgeModel" "spots" "[I") mX12_pass_w4) (fun _ h9 => h9) rfl dX12_pass_43 ?_
      refine lv_iload_n hx hb dX12_pass_46 rfl (lv_at hl 1 rfl) ?_
      refine va_mabs hx hb (by rw [hml]; exact hl.1.symm) hown (hts (.methodLink RX12 228 Lib.Math.abs.name) mX12_pass_w5) (hts (.static Lib.Math.abs.name) mX12_pass_w6) (hts (.initialized "java/lang/Math") mX12_pass_w7) (hts (.code Lib.Math.abs.name Lib.Math.abs.code 1 (some .int)) mX12_pass_w8) (Nat.le_of_ble_eq_true rfl) (Nat.le_of_ble_eq_true rfl) (Nat.le_of_ble_eq_true rfl) (Nat.le_of_ble_eq_true rfl) dX12_pass_47 ?_
      refine wk_i 1 (by decide) ?_
      refine lv_iconst (v := 1) hx hb dX12_pass_50 (by decide) ?_
      refine lv_isub hx hb dX12_pass_51 ?_
      refine wk_i 0 (by decide) ?_
      refine va_iald hx hb hK hP 0 0 rfl rfl (wk_in rfl) dX12_pass_52 ?_
      refine wk_i 0 rfl ?_
      refine va_iast hx hb hK hP hD hS 2 0 rfl rfl (wk_in rfl) dX12_pass_53 (fun H locs hP hD hS => ?_)
      have hP : va_P D vwCl [(z19, .inl (G.1, 5, .inl (tI [0, 1, 2, 3, 4]))), (z8, .inl (G.1, 40, .inl (upd (fun _ => 0) 0 1))), (z9, .inl (G.1, 40, .inl (upd (fun _ => 0) 0 0))), (z10, .inl (G.1, 40, .inl (fun _ => 0))), (h0, .inr (12, [.ref z0, .ref z1, .ref z2, .ref z3, .ref z4, .ref z5, .ref z20, .ref z21, .ref z22, .ref z23, .ref z24, .ref z25, .int 0, .ref z26, .ref z27, .ref z28, .int 9, .int 0, .int 0, .ref z6, .ref z29, .ref z7, .int 0, .int 2, .ref z19, .ref z8, .ref z9, .ref z10, .int 0, .ref z11, .int 0, .ref z30, .ref z31, .ref z32, .ref z33, .int 0, .ref z12, .int 0, .int 0, .ref z34, .ref z35, .ref z36, .ref z37, .int 0, .int 0, .int 0, .int 0, .ref z38, .int 0, .ref z39, .ref z40, .ref z41, .ref z42, .int 0, .ref z13, .ref z14, .ref z15, .ref z16, .int 0, .ref z17, .ref z18, .ref z43]))] H := hP
      have hD : va_D A [(z19, .inl (G.1, 5, .inl (tI [0, 1, 2, 3, 4]))), (z8, .inl (G.1, 40, .inl (upd (fun _ => 0) 0 1))), (z9, .inl (G.1, 40, .inl (upd (fun _ => 0) 0 0))), (z10, .inl (G.1, 40, .inl (fun _ => 0))), (h0, .inr (12, [.ref z0, .ref z1, .ref z2, .ref z3, .ref z4, .ref z5, .ref z20, .ref z21, .ref z22, .ref z23, .ref z24, .ref z25, .int 0, .ref z26, .ref z27, .ref z28, .int 9, .int 0, .int 0, .ref z6, .ref z29, .ref z7, .int 0, .int 2, .ref z19, .ref z8, .ref z9, .ref z10, .int 0, .ref z11, .int 0, .ref z30, .ref z31, .ref z32, .ref z33, .int 0, .ref z12, .int 0, .int 0, .ref z34, .ref z35, .ref z36, .ref z37, .int 0, .int 0, .int 0, .int 0, .ref z38, .int 0, .ref z39, .ref z40, .ref z41, .ref z42, .int 0, .ref z13, .ref z14, .ref z15, .ref z16, .int 0, .ref z17, .ref z18, .ref z43]))] := hD
      refine lv_aload_n hx hb dX12_pass_54 rfl (lv_at hl 0 rfl) ?_
      refine va_get (D := D) (ci := 12) (v := .ref z10) (C := RX12) (T := TX12) (N := 62) hx hb hts iX12_pass_X12 hown hK hP 4 rfl rfl 27 (by decide) (hts (.fieldLink RX12 81 "PuppetBridgeModel" "passB" "[I") mX12_pass_w9) (fun _ h9 => h9) rfl dX12_pass_55 ?_
      refine lv_aload_n hx hb dX12_pass_58 rfl (lv_at hl 0 rfl) ?_
      refine va_get (D := D) (ci := 12) (v := .int 0) (C := RX12) (T := TX12) (N := 62) hx hb hts iX12_pass_X12 hown hK hP 4 rfl rfl 28 (by decide) (hts (.fieldLink RX12 297 "PuppetBridgeModel" "passMany" "I") mX12_pass_w1) (fun _ h9 => h9) rfl dX12_pass_59 ?_
      refine lv_aload_n hx hb dX12_pass_62 rfl (lv_at hl 0 rfl) ?_
      refine va_get (D := D) (ci := 12) (v := .ref z19) (C := RX12) (T := TX12) (N := 62) hx hb hts iX12_pass_X12 hown hK hP 4 rfl rfl 24 (by decide) (hts (.fieldLink RX12 72 "PuppetBridgeModel" "spots" "[I") mX12_pass_w4) (fun _ h9 => h9) rfl dX12_pass_63 ?_
      refine lv_iload_n hx hb dX12_pass_66 rfl (lv_at hl 1 rfl) ?_
      refine va_mabs hx hb (by rw [hml]; exact hl.1.symm) hown (hts (.methodLink RX12 228 Lib.Math.abs.name) mX12_pass_w5) (hts (.static Lib.Math.abs.name) mX12_pass_w6) (hts (.initialized "java/lang/Math") mX12_pass_w7) (hts (.code Lib.Math.abs.name Lib.Math.abs.code 1 (some .int)) mX12_pass_w8) (Nat.le_of_ble_eq_true rfl) (Nat.le_of_ble_eq_true rfl) (Nat.le_of_ble_eq_true rfl) (Nat.le_of_ble_eq_true rfl) dX12_pass_67 ?_
      refine wk_i 1 (by decide) ?_
      refine va_iald hx hb hK hP 0 0 rfl rfl (wk_in rfl) dX12_pass_70 ?_
      refine wk_i 1 rfl ?_
      refine va_iast hx hb hK hP hD hS 3 0 rfl rfl (wk_in rfl) dX12_pass_71 (fun H locs hP hD hS => ?_)
      have hP : va_P D vwCl [(z19, .inl (G.1, 5, .inl (tI [0, 1, 2, 3, 4]))), (z8, .inl (G.1, 40, .inl (upd (fun _ => 0) 0 1))), (z9, .inl (G.1, 40, .inl (upd (fun _ => 0) 0 0))), (z10, .inl (G.1, 40, .inl (upd (fun _ => 0) 0 1))), (h0, .inr (12, [.ref z0, .ref z1, .ref z2, .ref z3, .ref z4, .ref z5, .ref z20, .ref z21, .ref z22, .ref z23, .ref z24, .ref z25, .int 0, .ref z26, .ref z27, .ref z28, .int 9, .int 0, .int 0, .ref z6, .ref z29, .ref z7, .int 0, .int 2, .ref z19, .ref z8, .ref z9, .ref z10, .int 0, .ref z11, .int 0, .ref z30, .ref z31, .ref z32, .ref z33, .int 0, .ref z12, .int 0, .int 0, .ref z34, .ref z35, .ref z36, .ref z37, .int 0, .int 0, .int 0, .int 0, .ref z38, .int 0, .ref z39, .ref z40, .ref z41, .ref z42, .int 0, .ref z13, .ref z14, .ref z15, .ref z16, .int 0, .ref z17, .ref z18, .ref z43]))] H := hP
      have hD : va_D A [(z19, .inl (G.1, 5, .inl (tI [0, 1, 2, 3, 4]))), (z8, .inl (G.1, 40, .inl (upd (fun _ => 0) 0 1))), (z9, .inl (G.1, 40, .inl (upd (fun _ => 0) 0 0))), (z10, .inl (G.1, 40, .inl (upd (fun _ => 0) 0 1))), (h0, .inr (12, [.ref z0, .ref z1, .ref z2, .ref z3, .ref z4, .ref z5, .ref z20, .ref z21, .ref z22, .ref z23, .ref z24, .ref z25, .int 0, .ref z26, .ref z27, .ref z28, .int 9, .int 0, .int 0, .ref z6, .ref z29, .ref z7, .int 0, .int 2, .ref z19, .ref z8, .ref z9, .ref z10, .int 0, .ref z11, .int 0, .ref z30, .ref z31, .ref z32, .ref z33, .int 0, .ref z12, .int 0, .int 0, .ref z34, .ref z35, .ref z36, .ref z37, .int 0, .int 0, .int 0, .int 0, .ref z38, .int 0, .ref z39, .ref z40, .ref z41, .ref z42, .int 0, .ref z13, .ref z14, .ref z15, .ref z16, .int 0, .ref z17, .ref z18, .ref z43]))] := hD
      refine lv_aload_n hx hb dX12_pass_72 rfl (lv_at hl 0 rfl) ?_
      refine lv_dup hx hb dX12_pass_73 rfl ?_
      refine va_get (D := D) (ci := 12) (v := .int 0) (C := RX12) (T := TX12) (N := 62) hx hb hts iX12_pass_X12 hown hK hP 4 rfl rfl 28 (by decide) (hts (.fieldLink RX12 297 "PuppetBridgeModel" "passMany" "I") mX12_pass_w1) (fun _ h9 => h9) rfl dX12_pass_74 ?_
      refine lv_iconst (v := 1) hx hb dX12_pass_77 (by decide) ?_
      refine lv_iadd hx hb dX12_pass_78 ?_
      refine wk_i 1 (by decide) ?_
      refine va_put (D := D) (ci := 12) (v := .int 1) (ty := (tyX12 28)) (C := RX12) (T := TX12) (N := 62) hx hb hts iX12_pass_X12 tyX12 tyX12_ok nmX12 hown hK hP hD hS 4 rfl rfl 28 (by decide) (hts (.fieldLink RX12 297 "PuppetBridgeModel" "passMany" "I") mX12_pass_w1) (fun _ h9 => h9) rfl (tyX12_ok 28 (by decide)) rfl rfl (Nat.le_of_ble_eq_true rfl) dX12_pass_79 (fun H locs hP hD hS => ?_)
      have hP : va_P D vwCl [(z19, .inl (G.1, 5, .inl (tI [0, 1, 2, 3, 4]))), (z8, .inl (G.1, 40, .inl (upd (fun _ => 0) 0 1))), (z9, .inl (G.1, 40, .inl (upd (fun _ => 0) 0 0))), (z10, .inl (G.1, 40, .inl (upd (fun _ => 0) 0 1))), (h0, .inr (12, [.ref z0, .ref z1, .ref z2, .ref z3, .ref z4, .ref z5, .ref z20, .ref z21, .ref z22, .ref z23, .ref z24, .ref z25, .int 0, .ref z26, .ref z27, .ref z28, .int 9, .int 0, .int 0, .ref z6, .ref z29, .ref z7, .int 0, .int 2, .ref z19, .ref z8, .ref z9, .ref z10, .int 1, .ref z11, .int 0, .ref z30, .ref z31, .ref z32, .ref z33, .int 0, .ref z12, .int 0, .int 0, .ref z34, .ref z35, .ref z36, .ref z37, .int 0, .int 0, .int 0, .int 0, .ref z38, .int 0, .ref z39, .ref z40, .ref z41, .ref z42, .int 0, .ref z13, .ref z14, .ref z15, .ref z16, .int 0, .ref z17, .ref z18, .ref z43]))] H := hP
      have hD : va_D A [(z19, .inl (G.1, 5, .inl (tI [0, 1, 2, 3, 4]))), (z8, .inl (G.1, 40, .inl (upd (fun _ => 0) 0 1))), (z9, .inl (G.1, 40, .inl (upd (fun _ => 0) 0 0))), (z10, .inl (G.1, 40, .inl (upd (fun _ => 0) 0 1))), (h0, .inr (12, [.ref z0, .ref z1, .ref z2, .ref z3, .ref z4, .ref z5, .ref z20, .ref z21, .ref z22, .ref z23, .ref z24, .ref z25, .int 0, .ref z26, .ref z27, .ref z28, .int 9, .int 0, .int 0, .ref z6, .ref z29, .ref z7, .int 0, .int 2, .ref z19, .ref z8, .ref z9, .ref z10, .int 1, .ref z11, .int 0, .ref z30, .ref z31, .ref z32, .ref z33, .int 0, .ref z12, .int 0, .int 0, .ref z34, .ref z35, .ref z36, .ref z37, .int 0, .int 0, .int 0, .int 0, .ref z38, .int 0, .ref z39, .ref z40, .ref z41, .ref z42, .int 0, .ref z13, .ref z14, .ref z15, .ref z16, .int 0, .ref z17, .ref z18, .ref z43]))] := hD
      refine lv_aload_n hx hb dX12_pass_82 rfl (lv_at hl 0 rfl) ?_
      refine lv_iload_n hx hb dX12_pass_83 rfl (lv_at hl 1 rfl) ?_
      have hPc := hP.sub (ws' := [(h0, .inr (12, [.ref z0, .ref z1, .ref z2, .ref z3, .ref z4, .ref z5, .ref z20, .ref z21, .ref z22, .ref z23, .ref z24, .ref z25, .int 0, .ref z26, .ref z27, .ref z28, .int 9, .int 0, .int 0, .ref z6, .ref z29, .ref z7, .int 0, .int 2, .ref z19, .ref z8, .ref z9, .ref z10, .int 1, .ref z11, .int 0, .ref z30, .ref z31, .ref z32, .ref z33, .int 0, .ref z12, .int 0, .int 0, .ref z34, .ref z35, .ref z36, .ref z37, .int 0, .int 0, .int 0, .int 0, .ref z38, .int 0, .ref z39, .ref z40, .ref z41, .ref z42, .int 0, .ref z13, .ref z14, .ref z15, .ref z16, .int 0, .ref z17, .ref z18, .ref z43])), (z19, .inl (G.1, 5, .inl (tI [0, 1, 2, 3, 4])))]) [4, 0] rfl
      have hDc := hD.sub (ws' := [(h0, .inr (12, [.ref z0, .ref z1, .ref z2, .ref z3, .ref z4, .ref z5, .ref z20, .ref z21, .ref z22, .ref z23, .ref z24, .ref z25, .int 0, .ref z26, .ref z27, .ref z28, .int 9, .int 0, .int 0, .ref z6, .ref z29, .ref z7, .int 0, .int 2, .ref z19, .ref z8, .ref z9, .ref z10, .int 1, .ref z11, .int 0, .ref z30, .ref z31, .ref z32, .ref z33, .int 0, .ref z12, .int 0, .int 0, .ref z34, .ref z35, .ref z36, .ref z37, .int 0, .int 0, .int 0, .int 0, .ref z38, .int 0, .ref z39, .ref z40, .ref z41, .ref z42, .int 0, .ref z13, .ref z14, .ref z15, .ref z16, .int 0, .ref z17, .ref z18, .ref z43])), (z19, .inl (G.1, 5, .inl (tI [0, 1, 2, 3, 4])))]) [4, 0] (by decide) rfl
      have hFc := va_free (wc := [(h0, .inr (12, [.ref z0, .ref z1, .ref z2, .ref z3, .ref z4, .ref z5, .ref z20, .ref z21, .ref z22, .ref z23, .ref z24, .ref z25, .int 0, .ref z26, .ref z27, .ref z28, .int 9, .int 0, .int 0, .ref z6, .ref z29, .ref z7, .int 0, .int 2, .ref z19, .ref z8, .ref z9, .ref z10, .int 1, .ref z11, .int 0, .ref z30, .ref z31, .ref z32, .ref z33, .int 0, .ref z12, .int 0, .int 0, .ref z34, .ref z35, .ref z36, .ref z37, .int 0, .int 0, .int 0, .int 0, .ref z38, .int 0, .ref z39, .ref z40, .ref z41, .ref z42, .int 0, .ref z13, .ref z14, .ref z15, .ref z16, .int 0, .ref z17, .ref z18, .ref z43])), (z19, .inl (G.1, 5, .inl (tI [0, 1, 2, 3, 4])))]) hD hS hA [4, 0] rfl
      refine va_callv (va_runV (As := [.int 1]) (rest := []) ⟨hx, hb, hml, hown, hts⟩ (kX12_change_1 l D G h0 z0 z1 z2 z3 z4 z5 z20 z21 z22 z23 z24 z25 z26 z27 z28 z6 z29 z7 z19 z8 z9 z10 z11 z30 z31 z32 z33 z12 z34 z35 z36 z37 z38 z39 z40 z41 z42 z13 z14 z15 z16 z17 z18 z43 H.size) (cwV 1 hts gX12_pass_X12_change rfl rfl rfl (by decide +kernel) ⟨Nat.le_of_ble_eq_true rfl, Nat.le_of_ble_eq_true rfl⟩) ⟨wB_blind, va_recv hK hPc (ci := 12) (q0 := 0) rfl rfl, wB_pre hPc hK hDc hN⟩ rfl rfl hl.1 rfl (lv_room (Nat.le_of_ble_eq_true rfl)) dX12_pass_84 ⟨Nat.le_of_ble_eq_true rfl, Nat.le_of_ble_eq_true rfl⟩) hS (fun q _ h => hFc q h) hFc (fun u t H1 locs ht hvm hr3 hB hz1 hk1 hS => ?_)
      obtain ⟨hP1, hK1, hD1⟩ := hB
      rw [ht] at hP1
      obtain ⟨hP, hD⟩ := va_join (wr := [(z8, .inl (G.1, 40, .inl (upd (fun _ => 0) 0 1))), (z9, .inl (G.1, 40, .inl (upd (fun _ => 0) 0 0))), (z10, .inl (G.1, 40, .inl (upd (fun _ => 0) 0 1)))]) (w1 := [(h0, .inr (12, [.ref z0, .ref z1, .ref z2, .ref z3, .ref z4, .ref z5, .ref z20, .ref z21, .ref z22, .ref z23, .ref z24, .ref z25, .int 0, .ref z26, .ref z27, .ref z28, .int 9, .int 0, .int 0, .ref z6, .ref z29, .ref z7, .int 0, .int 2, .ref z19, .ref z8, .ref z9, .ref z10, .int 1, .ref z11, .int 0, .ref z30, .ref z31, .ref z32, .ref z33, .int 0, .ref z12, .int 0, .int 0, .ref z34, .ref z35, .ref z36, .ref z37, .int 0, .int 0, .int 0, .int 0, .ref z38, .int 0, .ref z39, .ref z40, .ref z41, .ref z42, .int 0, .ref z13, .ref z14, .ref z15, .ref z16, .int 0, .ref z17, .ref z18, .ref z43]))]) hP hD [4, 0] [1, 2, 3] rfl rfl (by decide) (by decide) hk1 hFc hP1 hD1
      clear hPc hDc
      generalize H1 = H at hP hS ⊢
      have hP : va_P D vwCl [(z8, .inl (G.1, 40, .inl (upd (fun _ => 0) 0 1))), (z9, .inl (G.1, 40, .inl (upd (fun _ => 0) 0 0))), (z10, .inl (G.1, 40, .inl (upd (fun _ => 0) 0 1))), (h0, .inr (12, [.ref z0, .ref z1, .ref z2, .ref z3, .ref z4, .ref z5, .ref z20, .ref z21, .ref z22, .ref z23, .ref z24, .ref z25, .int 0, .ref z26, .ref z27, .ref z28, .int 9, .int 0, .int 0, .ref z6, .ref z29, .ref z7, .int 0, .int 2, .ref z19, .ref z8, .ref z9, .ref z10, .int 1, .ref z11, .int 0, .ref z30, .ref z31, .ref z32, .ref z33, .int 0, .ref z12, .int 0, .int 0, .ref z34, .ref z35, .ref z36, .ref z37, .int 0, .int 0, .int 0, .int 0, .ref z38, .int 0, .ref z39, .ref z40, .ref z41, .ref z42, .int 0, .ref z13, .ref z14, .ref z15, .ref z16, .int 0, .ref z17, .ref z18, .ref z43]))] H := hP
      have hD : va_D A [(z8, .inl (G.1, 40, .inl (upd (fun _ => 0) 0 1))), (z9, .inl (G.1, 40, .inl (upd (fun _ => 0) 0 0))), (z10, .inl (G.1, 40, .inl (upd (fun _ => 0) 0 1))), (h0, .inr (12, [.ref z0, .ref z1, .ref z2, .ref z3, .ref z4, .ref z5, .ref z20, .ref z21, .ref z22, .ref z23, .ref z24, .ref z25, .int 0, .ref z26, .ref z27, .ref z28, .int 9, .int 0, .int 0, .ref z6, .ref z29, .ref z7, .int 0, .int 2, .ref z19, .ref z8, .ref z9, .ref z10, .int 1, .ref z11, .int 0, .ref z30, .ref z31, .ref z32, .ref z33, .int 0, .ref z12, .int 0, .int 0, .ref z34, .ref z35, .ref z36, .ref z37, .int 0, .int 0, .int 0, .int 0, .ref z38, .int 0, .ref z39, .ref z40, .ref z41, .ref z42, .int 0, .ref z13, .ref z14, .ref z15, .ref z16, .int 0, .ref z17, .ref z18, .ref z43]))] := hD
      refine lv_aload_n hx hb dX12_pass_87 rfl (lv_at hl 0 rfl) ?_
      refine va_get (D := D) (ci := 12) (v := .int 1) (C := RX12) (T := TX12) (N := 62) hx hb hts iX12_pass_X12 hown hK hP 3 rfl rfl 28 (by decide) (hts (.fieldLink RX12 297 "PuppetBridgeModel" "passMany" "I") mX12_pass_w1) (fun _ h9 => h9) rfl dX12_pass_88 ?_
      exact W.iret (v := 1) hx hb hr (fun t ht hW => ⟨⟨1, (), rfl, by decide, trivial⟩, hS.F ht⟩) hS.2.2 dX12_pass_91
    · refine lv_aload_n hx hb dX12_pass_13 rfl (lv_at hl 0 rfl) ?_
      refine va_get (D := D) (ci := 12) (v := .int 0) (C := RX12) (T := TX12) (N := 62) hx hb hts iX12_pass_X12 hown hK hP 4 rfl rfl 28 (by decide) (hts (.fieldLink RX12 297 "PuppetBridgeModel" "passMany" "I") mX12_pass_w1) (fun _ h9 => h9) rfl dX12_pass_14 ?_
      refine lv_bipush (v := 40) hx hb dX12_pass_17 (by decide) ?_
      refine lv_icmp_ne (tgt := 24) hx hb dX12_pass_19 (by decide) (fun _ => ?_) (fun h9 => absurd h9 (by decide))
      refine lv_aload_n hx hb dX12_pass_24 rfl (lv_at hl 0 rfl) ?_
      refine va_get (D := D) (ci := 12) (v := .ref z8) (C := RX12) (T := TX12) (N := 62) hx hb hts iX12_pass_X12 hown hK hP 4 rfl rfl 25 (by decide) (hts (.fieldLink RX12 75 "PuppetBridgeModel" "passes" "[I") mX12_pass_w2) (fun _ h9 => h9) rfl dX12_pass_25 ?_
      refine lv_aload_n hx hb dX12_pass_28 rfl (lv_at hl 0 rfl) ?_
      refine va_get (D := D) (ci := 12) (v := .int 0) (C := RX12) (T := TX12) (N := 62) hx hb hts iX12_pass_X12 hown hK hP 4 rfl rfl 28 (by decide) (hts (.fieldLink RX12 297 "PuppetBridgeModel" "passMany" "I") mX12_pass_w1) (fun _ h9 => h9) rfl dX12_pass_29 ?_
      refine lv_iload_n hx hb dX12_pass_32 rfl (lv_at hl 1 rfl) ?_
      refine va_iast hx hb hK hP hD hS 1 0 rfl rfl (wk_in rfl) dX12_pass_33 (fun H locs hP hD hS => ?_)
      have hP : va_P D vwCl [(z19, .inl (G.1, 5, .inl (tI [0, 1, 2, 3, 4]))), (z8, .inl (G.1, 40, .inl (upd (fun _ => 0) 0 (-1)))), (z9, .inl (G.1, 40, .inl (fun _ => 0))), (z10, .inl (G.1, 40, .inl (fun _ => 0))), (h0, .inr (12, [.ref z0, .ref z1, .ref z2, .ref z3, .ref z4, .ref z5, .ref z20, .ref z21, .ref z22, .ref z23, .ref z24, .ref z25, .int 0, .ref z26, .ref z27, .ref z28, .int 9, .int 0, .int 0, .ref z6, .ref z29, .ref z7, .int 0, .int 2, .ref z19, .ref z8, .ref z9, .ref z10, .int 0, .ref z11, .int 0, .ref z30, .ref z31, .ref z32, .ref z33, .int 0, .ref z12, .int 0, .int 0, .ref z34, .ref z35, .ref z36, .ref z37, .int 0, .int 0, .int 0, .int 0, .ref z38, .int 0, .ref z39, .ref z40, .ref z41, .ref z42, .int 0, .ref z13, .ref z14, .ref z15, .ref z16, .int 0, .ref z17, .ref z18, .ref z43]))] H := hP
      have hD : va_D A [(z19, .inl (G.1, 5, .inl (tI [0, 1, 2, 3, 4]))), (z8, .inl (G.1, 40, .inl (upd (fun _ => 0) 0 (-1)))), (z9, .inl (G.1, 40, .inl (fun _ => 0))), (z10, .inl (G.1, 40, .inl (fun _ => 0))), (h0, .inr (12, [.ref z0, .ref z1, .ref z2, .ref z3, .ref z4, .ref z5, .ref z20, .ref z21, .ref z22, .ref z23, .ref z24, .ref z25, .int 0, .ref z26, .ref z27, .ref z28, .int 9, .int 0, .int 0, .ref z6, .ref z29, .ref z7, .int 0, .int 2, .ref z19, .ref z8, .ref z9, .ref z10, .int 0, .ref z11, .int 0, .ref z30, .ref z31, .ref z32, .ref z33, .int 0, .ref z12, .int 0, .int 0, .ref z34, .ref z35, .ref z36, .ref z37, .int 0, .int 0, .int 0, .int 0, .ref z38, .int 0, .ref z39, .ref z40, .ref z41, .ref z42, .int 0, .ref z13, .ref z14, .ref z15, .ref z16, .int 0, .ref z17, .ref z18, .ref z43]))] := hD
      refine lv_aload_n hx hb dX12_pass_34 rfl (lv_at hl 0 rfl) ?_
      refine va_get (D := D) (ci := 12) (v := .ref z9) (C := RX12) (T := TX12) (N := 62) hx hb hts iX12_pass_X12 hown hK hP 4 rfl rfl 26 (by decide) (hts (.fieldLink RX12 78 "PuppetBridgeModel" "passA" "[I") mX12_pass_w3) (fun _ h9 => h9) rfl dX12_pass_35 ?_
      refine lv_aload_n hx hb dX12_pass_38 rfl (lv_at hl 0 rfl) ?_
      refine va_get (D := D) (ci := 12) (v := .int 0) (C := RX12) (T := TX12) (N := 62) hx hb hts iX12_pass_X12 hown hK hP 4 rfl rfl 28 (by decide) (hts (.fieldLink RX12 297 "PuppetBridgeModel" "passMany" "I") mX12_pass_w1) (fun _ h9 => h9) rfl dX12_pass_39 ?_
      refine lv_aload_n hx hb dX12_pass_42 rfl (lv_at hl 0 rfl) ?_
      refine va_get (D := D) (ci := 12) (v := .ref z19) (C := RX12) (T := TX12) (N := 62) hx hb hts iX12_pass_X12 hown hK hP 4 rfl rfl 24 (by decide) (hts (.fieldLink RX12 72 "PuppetBridgeModel" "spots" "[I") mX12_pass_w4) (fun _ h9 => h9) rfl dX12_pass_43 ?_
      refine lv_iload_n hx hb dX12_pass_46 rfl (lv_at hl 1 rfl) ?_
      refine va_mabs hx hb (by rw [hml]; exact hl.1.symm) hown (hts (.methodLink RX12 228 Lib.Math.abs.name) mX12_pass_w5) (hts (.static Lib.Math.abs.name) mX12_pass_w6) (hts (.initialized "java/lang/Math") mX12_pass_w7) (hts (.code Lib.Math.abs.name Lib.Math.abs.code 1 (some .int)) mX12_pass_w8) (Nat.le_of_ble_eq_true rfl) (Nat.le_of_ble_eq_true rfl) (Nat.le_of_ble_eq_true rfl) (Nat.le_of_ble_eq_true rfl) dX12_pass_47 ?_
      refine wk_i 1 (by decide) ?_
      refine lv_iconst (v := 1) hx hb dX12_pass_50 (by decide) ?_
      refine lv_isub hx hb dX12_pass_51 ?_
      refine wk_i 0 (by decide) ?_
      refine va_iald hx hb hK hP 0 0 rfl rfl (wk_in rfl) dX12_pass_52 ?_
      refine wk_i 0 rfl ?_
      refine va_iast hx hb hK hP hD hS 2 0 rfl rfl (wk_in rfl) dX12_pass_53 (fun H locs hP hD hS => ?_)
      have hP : va_P D vwCl [(z19, .inl (G.1, 5, .inl (tI [0, 1, 2, 3, 4]))), (z8, .inl (G.1, 40, .inl (upd (fun _ => 0) 0 (-1)))), (z9, .inl (G.1, 40, .inl (upd (fun _ => 0) 0 0))), (z10, .inl (G.1, 40, .inl (fun _ => 0))), (h0, .inr (12, [.ref z0, .ref z1, .ref z2, .ref z3, .ref z4, .ref z5, .ref z20, .ref z21, .ref z22, .ref z23, .ref z24, .ref z25, .int 0, .ref z26, .ref z27, .ref z28, .int 9, .int 0, .int 0, .ref z6, .ref z29, .ref z7, .int 0, .int 2, .ref z19, .ref z8, .ref z9, .ref z10, .int 0, .ref z11, .int 0, .ref z30, .ref z31, .ref z32, .ref z33, .int 0, .ref z12, .int 0, .int 0, .ref z34, .ref z35, .ref z36, .ref z37, .int 0, .int 0, .int 0, .int 0, .ref z38, .int 0, .ref z39, .ref z40, .ref z41, .ref z42, .int 0, .ref z13, .ref z14, .ref z15, .ref z16, .int 0, .ref z17, .ref z18, .ref z43]))] H := hP
      have hD : va_D A [(z19, .inl (G.1, 5, .inl (tI [0, 1, 2, 3, 4]))), (z8, .inl (G.1, 40, .inl (upd (fun _ => 0) 0 (-1)))), (z9, .inl (G.1, 40, .inl (upd (fun _ => 0) 0 0))), (z10, .inl (G.1, 40, .inl (fun _ => 0))), (h0, .inr (12, [.ref z0, .ref z1, .ref z2, .ref z3, .ref z4, .ref z5, .ref z20, .ref z21, .ref z22, .ref z23, .ref z24, .ref z25, .int 0, .ref z26, .ref z27, .ref z28, .int 9, .int 0, .int 0, .ref z6, .ref z29, .ref z7, .int 0, .int 2, .ref z19, .ref z8, .ref z9, .ref z10, .int 0, .ref z11, .int 0, .ref z30, .ref z31, .ref z32, .ref z33, .int 0, .ref z12, .int 0, .int 0, .ref z34, .ref z35, .ref z36, .ref z37, .int 0, .int 0, .int 0, .int 0, .ref z38, .int 0, .ref z39, .ref z40, .ref z41, .ref z42, .int 0, .ref z13, .ref z14, .ref z15, .ref z16, .int 0, .ref z17, .ref z18, .ref z43]))] := hD
      refine lv_aload_n hx hb dX12_pass_54 rfl (lv_at hl 0 rfl) ?_
      refine va_get (D := D) (ci := 12) (v := .ref z10) (C := RX12) (T := TX12) (N := 62) hx hb hts iX12_pass_X12 hown hK hP 4 rfl rfl 27 (by decide) (hts (.fieldLink RX12 81 "PuppetBridgeModel" "passB" "[I") mX12_pass_w9) (fun _ h9 => h9) rfl dX12_pass_55 ?_
      refine lv_aload_n hx hb dX12_pass_58 rfl (lv_at hl 0 rfl) ?_
      refine va_get (D := D) (ci := 12) (v := .int 0) (C := RX12) (T := TX12) (N := 62) hx hb hts iX12_pass_X12 hown hK hP 4 rfl rfl 28 (by decide) (hts (.fieldLink RX12 297 "PuppetBridgeModel" "passMany" "I") mX12_pass_w1) (fun _ h9 => h9) rfl dX12_pass_59 ?_
      refine lv_aload_n hx hb dX12_pass_62 rfl (lv_at hl 0 rfl) ?_
      refine va_get (D := D) (ci := 12) (v := .ref z19) (C := RX12) (T := TX12) (N := 62) hx hb hts iX12_pass_X12 hown hK hP 4 rfl rfl 24 (by decide) (hts (.fieldLink RX12 72 "PuppetBridgeModel" "spots" "[I") mX12_pass_w4) (fun _ h9 => h9) rfl dX12_pass_63 ?_
      refine lv_iload_n hx hb dX12_pass_66 rfl (lv_at hl 1 rfl) ?_
      refine va_mabs hx hb (by rw [hml]; exact hl.1.symm) hown (hts (.methodLink RX12 228 Lib.Math.abs.name) mX12_pass_w5) (hts (.static Lib.Math.abs.name) mX12_pass_w6) (hts (.initialized "java/lang/Math") mX12_pass_w7) (hts (.code Lib.Math.abs.name Lib.Math.abs.code 1 (some .int)) mX12_pass_w8) (Nat.le_of_ble_eq_true rfl) (Nat.le_of_ble_eq_true rfl) (Nat.le_of_ble_eq_true rfl) (Nat.le_of_ble_eq_true rfl) dX12_pass_67 ?_
      refine wk_i 1 (by decide) ?_
      refine va_iald hx hb hK hP 0 0 rfl rfl (wk_in rfl) dX12_pass_70 ?_
      refine wk_i 1 rfl ?_
      refine va_iast hx hb hK hP hD hS 3 0 rfl rfl (wk_in rfl) dX12_pass_71 (fun H locs hP hD hS => ?_)
      have hP : va_P D vwCl [(z19, .inl (G.1, 5, .inl (tI [0, 1, 2, 3, 4]))), (z8, .inl (G.1, 40, .inl (upd (fun _ => 0) 0 (-1)))), (z9, .inl (G.1, 40, .inl (upd (fun _ => 0) 0 0))), (z10, .inl (G.1, 40, .inl (upd (fun _ => 0) 0 1))), (h0, .inr (12, [.ref z0, .ref z1, .ref z2, .ref z3, .ref z4, .ref z5, .ref z20, .ref z21, .ref z22, .ref z23, .ref z24, .ref z25, .int 0, .ref z26, .ref z27, .ref z28, .int 9, .int 0, .int 0, .ref z6, .ref z29, .ref z7, .int 0, .int 2, .ref z19, .ref z8, .ref z9, .ref z10, .int 0, .ref z11, .int 0, .ref z30, .ref z31, .ref z32, .ref z33, .int 0, .ref z12, .int 0, .int 0, .ref z34, .ref z35, .ref z36, .ref z37, .int 0, .int 0, .int 0, .int 0, .ref z38, .int 0, .ref z39, .ref z40, .ref z41, .ref z42, .int 0, .ref z13, .ref z14, .ref z15, .ref z16, .int 0, .ref z17, .ref z18, .ref z43]))] H := hP
      have hD : va_D A [(z19, .inl (G.1, 5, .inl (tI [0, 1, 2, 3, 4]))), (z8, .inl (G.1, 40, .inl (upd (fun _ => 0) 0 (-1)))), (z9, .inl (G.1, 40, .inl (upd (fun _ => 0) 0 0))), (z10, .inl (G.1, 40, .inl (upd (fun _ => 0) 0 1))), (h0, .inr (12, [.ref z0, .ref z1, .ref z2, .ref z3, .ref z4, .ref z5, .ref z20, .ref z21, .ref z22, .ref z23, .ref z24, .ref z25, .int 0, .ref z26, .ref z27, .ref z28, .int 9, .int 0, .int 0, .ref z6, .ref z29, .ref z7, .int 0, .int 2, .ref z19, .ref z8, .ref z9, .ref z10, .int 0, .ref z11, .int 0, .ref z30, .ref z31, .ref z32, .ref z33, .int 0, .ref z12, .int 0, .int 0, .ref z34, .ref z35, .ref z36, .ref z37, .int 0, .int 0, .int 0, .int 0, .ref z38, .int 0, .ref z39, .ref z40, .ref z41, .ref z42, .int 0, .ref z13, .ref z14, .ref z15, .ref z16, .int 0, .ref z17, .ref z18, .ref z43]))] := hD
      refine lv_aload_n hx hb dX12_pass_72 rfl (lv_at hl 0 rfl) ?_
      refine lv_dup hx hb dX12_pass_73 rfl ?_
      refine va_get (D := D) (ci := 12) (v := .int 0) (C := RX12) (T := TX12) (N := 62) hx hb hts iX12_pass_X12 hown hK hP 4 rfl rfl 28 (by decide) (hts (.fieldLink RX12 297 "PuppetBridgeModel" "passMany" "I") mX12_pass_w1) (fun _ h9 => h9) rfl dX12_pass_74 ?_
      refine lv_iconst (v := 1) hx hb dX12_pass_77 (by decide) ?_
      refine lv_iadd hx hb dX12_pass_78 ?_
      refine wk_i 1 (by decide) ?_
      refine va_put (D := D) (ci := 12) (v := .int 1) (ty := (tyX12 28)) (C := RX12) (T := TX12) (N := 62) hx hb hts iX12_pass_X12 tyX12 tyX12_ok nmX12 hown hK hP hD hS 4 rfl rfl 28 (by decide) (hts (.fieldLink RX12 297 "PuppetBridgeModel" "passMany" "I") mX12_pass_w1) (fun _ h9 => h9) rfl (tyX12_ok 28 (by decide)) rfl rfl (Nat.le_of_ble_eq_true rfl) dX12_pass_79 (fun H locs hP hD hS => ?_)
      have hP : va_P D vwCl [(z19, .inl (G.1, 5, .inl (tI [0, 1, 2, 3, 4]))), (z8, .inl (G.1, 40, .inl (upd (fun _ => 0) 0 (-1)))), (z9, .inl (G.1, 40, .inl (upd (fun _ => 0) 0 0))), (z10, .inl (G.1, 40, .inl (upd (fun _ => 0) 0 1))), (h0, .inr (12, [.ref z0, .ref z1, .ref z2, .ref z3, .ref z4, .ref z5, .ref z20, .ref z21, .ref z22, .ref z23, .ref z24, .ref z25, .int 0, .ref z26, .ref z27, .ref z28, .int 9, .int 0, .int 0, .ref z6, .ref z29, .ref z7, .int 0, .int 2, .ref z19, .ref z8, .ref z9, .ref z10, .int 1, .ref z11, .int 0, .ref z30, .ref z31, .ref z32, .ref z33, .int 0, .ref z12, .int 0, .int 0, .ref z34, .ref z35, .ref z36, .ref z37, .int 0, .int 0, .int 0, .int 0, .ref z38, .int 0, .ref z39, .ref z40, .ref z41, .ref z42, .int 0, .ref z13, .ref z14, .ref z15, .ref z16, .int 0, .ref z17, .ref z18, .ref z43]))] H := hP
      have hD : va_D A [(z19, .inl (G.1, 5, .inl (tI [0, 1, 2, 3, 4]))), (z8, .inl (G.1, 40, .inl (upd (fun _ => 0) 0 (-1)))), (z9, .inl (G.1, 40, .inl (upd (fun _ => 0) 0 0))), (z10, .inl (G.1, 40, .inl (upd (fun _ => 0) 0 1))), (h0, .inr (12, [.ref z0, .ref z1, .ref z2, .ref z3, .ref z4, .ref z5, .ref z20, .ref z21, .ref z22, .ref z23, .ref z24, .ref z25, .int 0, .ref z26, .ref z27, .ref z28, .int 9, .int 0, .int 0, .ref z6, .ref z29, .ref z7, .int 0, .int 2, .ref z19, .ref z8, .ref z9, .ref z10, .int 1, .ref z11, .int 0, .ref z30, .ref z31, .ref z32, .ref z33, .int 0, .ref z12, .int 0, .int 0, .ref z34, .ref z35, .ref z36, .ref z37, .int 0, .int 0, .int 0, .int 0, .ref z38, .int 0, .ref z39, .ref z40, .ref z41, .ref z42, .int 0, .ref z13, .ref z14, .ref z15, .ref z16, .int 0, .ref z17, .ref z18, .ref z43]))] := hD
      refine lv_aload_n hx hb dX12_pass_82 rfl (lv_at hl 0 rfl) ?_
      refine lv_iload_n hx hb dX12_pass_83 rfl (lv_at hl 1 rfl) ?_
      have hPc := hP.sub (ws' := [(h0, .inr (12, [.ref z0, .ref z1, .ref z2, .ref z3, .ref z4, .ref z5, .ref z20, .ref z21, .ref z22, .ref z23, .ref z24, .ref z25, .int 0, .ref z26, .ref z27, .ref z28, .int 9, .int 0, .int 0, .ref z6, .ref z29, .ref z7, .int 0, .int 2, .ref z19, .ref z8, .ref z9, .ref z10, .int 1, .ref z11, .int 0, .ref z30, .ref z31, .ref z32, .ref z33, .int 0, .ref z12, .int 0, .int 0, .ref z34, .ref z35, .ref z36, .ref z37, .int 0, .int 0, .int 0, .int 0, .ref z38, .int 0, .ref z39, .ref z40, .ref z41, .ref z42, .int 0, .ref z13, .ref z14, .ref z15, .ref z16, .int 0, .ref z17, .ref z18, .ref z43])), (z19, .inl (G.1, 5, .inl (tI [0, 1, 2, 3, 4])))]) [4, 0] rfl
      have hDc := hD.sub (ws' := [(h0, .inr (12, [.ref z0, .ref z1, .ref z2, .ref z3, .ref z4, .ref z5, .ref z20, .ref z21, .ref z22, .ref z23, .ref z24, .ref z25, .int 0, .ref z26, .ref z27, .ref z28, .int 9, .int 0, .int 0, .ref z6, .ref z29, .ref z7, .int 0, .int 2, .ref z19, .ref z8, .ref z9, .ref z10, .int 1, .ref z11, .int 0, .ref z30, .ref z31, .ref z32, .ref z33, .int 0, .ref z12, .int 0, .int 0, .ref z34, .ref z35, .ref z36, .ref z37, .int 0, .int 0, .int 0, .int 0, .ref z38, .int 0, .ref z39, .ref z40, .ref z41, .ref z42, .int 0, .ref z13, .ref z14, .ref z15, .ref z16, .int 0, .ref z17, .ref z18, .ref z43])), (z19, .inl (G.1, 5, .inl (tI [0, 1, 2, 3, 4])))]) [4, 0] (by decide) rfl
      have hFc := va_free (wc := [(h0, .inr (12, [.ref z0, .ref z1, .ref z2, .ref z3, .ref z4, .ref z5, .ref z20, .ref z21, .ref z22, .ref z23, .ref z24, .ref z25, .int 0, .ref z26, .ref z27, .ref z28, .int 9, .int 0, .int 0, .ref z6, .ref z29, .ref z7, .int 0, .int 2, .ref z19, .ref z8, .ref z9, .ref z10, .int 1, .ref z11, .int 0, .ref z30, .ref z31, .ref z32, .ref z33, .int 0, .ref z12, .int 0, .int 0, .ref z34, .ref z35, .ref z36, .ref z37, .int 0, .int 0, .int 0, .int 0, .ref z38, .int 0, .ref z39, .ref z40, .ref z41, .ref z42, .int 0, .ref z13, .ref z14, .ref z15, .ref z16, .int 0, .ref z17, .ref z18, .ref z43])), (z19, .inl (G.1, 5, .inl (tI [0, 1, 2, 3, 4])))]) hD hS hA [4, 0] rfl
      refine va_callv (va_runV (As := [.int (-1)]) (rest := []) ⟨hx, hb, hml, hown, hts⟩ (kX12_change_m l D G h0 z0 z1 z2 z3 z4 z5 z20 z21 z22 z23 z24 z25 z26 z27 z28 z6 z29 z7 z19 z8 z9 z10 z11 z30 z31 z32 z33 z12 z34 z35 z36 z37 z38 z39 z40 z41 z42 z13 z14 z15 z16 z17 z18 z43 H.size) (cwV 1 hts gX12_pass_X12_change rfl rfl rfl (by decide +kernel) ⟨Nat.le_of_ble_eq_true rfl, Nat.le_of_ble_eq_true rfl⟩) ⟨wB_blind, va_recv hK hPc (ci := 12) (q0 := 0) rfl rfl, wB_pre hPc hK hDc hN⟩ rfl rfl hl.1 rfl (lv_room (Nat.le_of_ble_eq_true rfl)) dX12_pass_84 ⟨Nat.le_of_ble_eq_true rfl, Nat.le_of_ble_eq_true rfl⟩) hS (fun q _ h => hFc q h) hFc (fun u t H1 locs ht hvm hr4 hB hz1 hk1 hS => ?_)
      obtain ⟨hP1, hK1, hD1⟩ := hB
      rw [ht] at hP1
      obtain ⟨hP, hD⟩ := va_join (wr := [(z8, .inl (G.1, 40, .inl (upd (fun _ => 0) 0 (-1)))), (z9, .inl (G.1, 40, .inl (upd (fun _ => 0) 0 0))), (z10, .inl (G.1, 40, .inl (upd (fun _ => 0) 0 1)))]) (w1 := [(h0, .inr (12, [.ref z0, .ref z1, .ref z2, .ref z3, .ref z4, .ref z5, .ref z20, .ref z21, .ref z22, .ref z23, .ref z24, .ref z25, .int 0, .ref z26, .ref z27, .ref z28, .int 9, .int 0, .int 0, .ref z6, .ref z29, .ref z7, .int 0, .int 2, .ref z19, .ref z8, .ref z9, .ref z10, .int 1, .ref z11, .int 0, .ref z30, .ref z31, .ref z32, .ref z33, .int 0, .ref z12, .int 0, .int 0, .ref z34, .ref z35, .ref z36, .ref z37, .int 0, .int 0, .int 0, .int 0, .ref z38, .int 0, .ref z39, .ref z40, .ref z41, .ref z42, .int 0, .ref z13, .ref z14, .ref z15, .ref z16, .int 0, .ref z17, .ref z18, .ref z43]))]) hP hD [4, 0] [1, 2, 3] rfl rfl (by decide) (by decide) hk1 hFc hP1 hD1
      clear hPc hDc
      generalize H1 = H at hP hS ⊢
      have hP : va_P D vwCl [(z8, .inl (G.1, 40, .inl (upd (fun _ => 0) 0 (-1)))), (z9, .inl (G.1, 40, .inl (upd (fun _ => 0) 0 0))), (z10, .inl (G.1, 40, .inl (upd (fun _ => 0) 0 1))), (h0, .inr (12, [.ref z0, .ref z1, .ref z2, .ref z3, .ref z4, .ref z5, .ref z20, .ref z21, .ref z22, .ref z23, .ref z24, .ref z25, .int 0, .ref z26, .ref z27, .ref z28, .int 9, .int 0, .int 0, .ref z6, .ref z29, .ref z7, .int 0, .int 2, .ref z19, .ref z8, .ref z9, .ref z10, .int 1, .ref z11, .int 0, .ref z30, .ref z31, .ref z32, .ref z33, .int 0, .ref z12, .int 0, .int 0, .ref z34, .ref z35, .ref z36, .ref z37, .int 0, .int 0, .int 0, .int 0, .ref z38, .int 0, .ref z39, .ref z40, .ref z41, .ref z42, .int 0, .ref z13, .ref z14, .ref z15, .ref z16, .int 0, .ref z17, .ref z18, .ref z43]))] H := hP
      have hD : va_D A [(z8, .inl (G.1, 40, .inl (upd (fun _ => 0) 0 (-1)))), (z9, .inl (G.1, 40, .inl (upd (fun _ => 0) 0 0))), (z10, .inl (G.1, 40, .inl (upd (fun _ => 0) 0 1))), (h0, .inr (12, [.ref z0, .ref z1, .ref z2, .ref z3, .ref z4, .ref z5, .ref z20, .ref z21, .ref z22, .ref z23, .ref z24, .ref z25, .int 0, .ref z26, .ref z27, .ref z28, .int 9, .int 0, .int 0, .ref z6, .ref z29, .ref z7, .int 0, .int 2, .ref z19, .ref z8, .ref z9, .ref z10, .int 1, .ref z11, .int 0, .ref z30, .ref z31, .ref z32, .ref z33, .int 0, .ref z12, .int 0, .int 0, .ref z34, .ref z35, .ref z36, .ref z37, .int 0, .int 0, .int 0, .int 0, .ref z38, .int 0, .ref z39, .ref z40, .ref z41, .ref z42, .int 0, .ref z13, .ref z14, .ref z15, .ref z16, .int 0, .ref z17, .ref z18, .ref z43]))] := hD
      refine lv_aload_n hx hb dX12_pass_87 rfl (lv_at hl 0 rfl) ?_
      refine va_get (D := D) (ci := 12) (v := .int 1) (C := RX12) (T := TX12) (N := 62) hx hb hts iX12_pass_X12 hown hK hP 3 rfl rfl 28 (by decide) (hts (.fieldLink RX12 297 "PuppetBridgeModel" "passMany" "I") mX12_pass_w1) (fun _ h9 => h9) rfl dX12_pass_88 ?_
      exact W.iret (v := 1) hx hb hr (fun t ht hW => ⟨⟨1, (), rfl, by decide, trivial⟩, hS.F ht⟩) hS.2.2 dX12_pass_91
