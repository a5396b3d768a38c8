theorem dX11_within_0 : decode cX11_within 0 = .ok (.iload_n 0, 1) := by decide +kernel
theorem dX11_within_1 : decode cX11_within 1 = .ok (.iload_n 1, 1) := by decide +kernel
theorem dX11_within_2 : decode cX11_within 2 = .ok (.if_icmp .lt 12, 3) := by decide +kernel
theorem dX11_within_5 : decode cX11_within 5 = .ok (.iload_n 0, 1) := by decide +kernel
theorem dX11_within_6 : decode cX11_within 6 = .ok (.iload_n 2, 1) := by decide +kernel
theorem dX11_within_7 : decode cX11_within 7 = .ok (.if_icmp .gt 7, 3) := by decide +kernel
theorem dX11_within_10 : decode cX11_within 10 = .ok (.iconst 1, 1) := by decide +kernel
theorem dX11_within_11 : decode cX11_within 11 = .ok (.goto 4, 3) := by decide +kernel
theorem dX11_within_14 : decode cX11_within 14 = .ok (.iconst 0, 1) := by decide +kernel
theorem dX11_within_15 : decode cX11_within 15 = .ok (.ireturn, 1) := by decide +kernel
set_option maxHeartbeats 4000000 in
set_option maxRecDepth 100000 in
/-- X11_within -/
theorem kX11_within (l : Launch) (D : va_G) (G : tyG) (v : Int32) (a : Int32) (b : Int32) (sz : Nat) : Met l yX11_within wsX11_within ({ frames := 0, cells := 0, slots := 0, locals := 0 }) (va_Pc [.int v, .int a, .int b] (wB D G sz [])) (va_Qi (fun (r : Int32) (_ : Unit) => r = if (inB v a b) = true then 1 else 0) (fun _ _ => True) (va_A [] sz)) 0 0 (va_A [] sz) := by
  refine Met.ofW (cc := cX11_within) (maxL := 3) (ret := (some .boolean)) (by decide) rfl ?_
  intro p e s m args below meth c s₁ B hml hv
  obtain ⟨rfl, hsz, hP, hK, hD0, hN⟩ := hv
  have hx := B.exec
  have hb := B.bytes
  have hr := B.returns
  have hts := atoms_spec (ws := wsX11_within) B.pre
  have hown : s.vm.findClass RX11 = some m.cls := findClass_of_methodNamed B.named
  have hlocks := B.notSynchronized
  subst hsz
  have hD := hD0.self (sz := s.heap.size)
  generalize hAe : va_A [] s.heap.size = A at hD ⊢
  have hA : ∀ q : Nat, s.heap.size ≤ q → A q := fun q h => by rw [← hAe]; exact Or.inr h
  have hS : va_S A s.heap s.heap [] := va_S.rf
  have hP : va_P D vwCl [] s.heap := hP
  have hl := lv_entry ([.int v, .int a, .int b]) (n := 3) (Nat.le_of_ble_eq_true rfl)
  rw [lg_entry_eq]
  generalize (lg_sl ([.int v, .int a, .int b]) ++ List.replicate (3 - (lg_sl ([.int v, .int a, .int b])).length) Slot.unset).toArray = ls at hl ⊢
  have hl : lv_has ls 3 [(0, .int v), (1, .int a), (2, .int b)] := hl
  refine lv_iload_n hx hb dX11_within_0 rfl (lv_at hl 0 rfl) ?_
  refine lv_iload_n hx hb dX11_within_1 rfl (lv_at hl 1 rfl) ?_
  refine lv_icmp_lt (tgt := 14) hx hb dX11_within_2 (by decide) (fun c1 => ?_) (fun c1 => ?_)
  · refine lv_iconst (v := 0) hx hb dX11_within_14 (by decide) ?_
    exact W.zret (v := 0) hx hb hr rfl (fun t ht hW => ⟨⟨0, (), rfl, by rw [inB_f1 c1]; rfl, trivial⟩, hS.F ht⟩) hS.2.2 dX11_within_15
  · refine lv_iload_n hx hb dX11_within_5 rfl (lv_at hl 0 rfl) ?_
    refine lv_iload_n hx hb dX11_within_6 rfl (lv_at hl 2 rfl) ?_
    refine lv_icmp_gt (tgt := 14) hx hb dX11_within_7 (by decide) (fun c2 => ?_) (fun c2 => ?_)
    · refine lv_iconst (v := 0) hx hb dX11_within_14 (by decide) ?_
      exact W.zret (v := 0) hx hb hr rfl (fun t ht hW => ⟨⟨0, (), rfl, by rw [inB_f2 c2]; rfl, trivial⟩, hS.F ht⟩) hS.2.2 dX11_within_15
    · refine lv_iconst (v := 1) hx hb dX11_within_10 (by decide) ?_
      refine lv_goto (tgt := 15) hx hb dX11_within_11 (by decide) ?_
      exact W.zret (v := 1) hx hb hr rfl (fun t ht hW => ⟨⟨1, (), rfl, by rw [inB_t c1 c2]; rfl, trivial⟩, hS.F ht⟩) hS.2.2 dX11_within_15

set_option maxRecDepth 20000 in
theorem ggX11_isLimbShape_X11_within : GoodIn wsX11_isLimbShape wsX11_within := goodIn_r _ [4] (by decide +kernel) (by decide +kernel)
set_option maxRecDepth 20000 in
theorem gX11_isLimbShape_X11_within : GoodIn wsX11_isLimbShape (va_wsS RX11 94 yX11_within wsX11_within) := goodIn_app (goodIn_of _ (by decide +kernel)) ggX11_isLimbShape_X11_within
theorem dX11_isLimbShape_0 : decode cX11_isLimbShape 0 = .ok (.iload_n 0, 1) := by decide +kernel
theorem dX11_isLimbShape_1 : decode cX11_isLimbShape 1 = .ok (.iconst 1, 1) := by decide +kernel
theorem dX11_isLimbShape_2 : decode cX11_isLimbShape 2 = .ok (.bipush 20, 2) := by decide +kernel
theorem dX11_isLimbShape_4 : decode cX11_isLimbShape 4 = .ok (.invokestatic 94, 3) := by decide +kernel
theorem dX11_isLimbShape_7 : decode cX11_isLimbShape 7 = .ok (.ifCond .eq 27, 3) := by decide +kernel
theorem dX11_isLimbShape_10 : decode cX11_isLimbShape 10 = .ok (.iload_n 1, 1) := by decide +kernel
theorem dX11_isLimbShape_11 : decode cX11_isLimbShape 11 = .ok (.iconst 0, 1) := by decide +kernel
theorem dX11_isLimbShape_12 : decode cX11_isLimbShape 12 = .ok (.bipush 15, 2) := by decide +kernel
theorem dX11_isLimbShape_14 : decode cX11_isLimbShape 14 = .ok (.invokestatic 94, 3) := by decide +kernel
theorem dX11_isLimbShape_17 : decode cX11_isLimbShape 17 = .ok (.ifCond .eq 17, 3) := by decide +kernel
theorem dX11_isLimbShape_20 : decode cX11_isLimbShape 20 = .ok (.iload_n 2, 1) := by decide +kernel
theorem dX11_isLimbShape_21 : decode cX11_isLimbShape 21 = .ok (.iconst 0, 1) := by decide +kernel
theorem dX11_isLimbShape_22 : decode cX11_isLimbShape 22 = .ok (.bipush 8, 2) := by decide +kernel
theorem dX11_isLimbShape_24 : decode cX11_isLimbShape 24 = .ok (.invokestatic 94, 3) := by decide +kernel
theorem dX11_isLimbShape_27 : decode cX11_isLimbShape 27 = .ok (.ifCond .eq 7, 3) := by decide +kernel
theorem dX11_isLimbShape_30 : decode cX11_isLimbShape 30 = .ok (.iconst 1, 1) := by decide +kernel
theorem dX11_isLimbShape_31 : decode cX11_isLimbShape 31 = .ok (.goto 4, 3) := by decide +kernel
theorem dX11_isLimbShape_34 : decode cX11_isLimbShape 34 = .ok (.iconst 0, 1) := by decide +kernel
theorem dX11_isLimbShape_35 : decode cX11_isLimbShape 35 = .ok (.ireturn, 1) := by decide +kernel
set_option maxHeartbeats 4000000 in
set_option maxRecDepth 100000 in
/-- X11_isLimbShape -/
theorem kX11_isLimbShape (l : Launch) (D : va_G) (G : tyG) (x : Int32) (y : Int32) (z : Int32) (sz : Nat) : Met l yX11_isLimbShape wsX11_isLimbShape ({ frames := 1, cells := 0, slots := 0, locals := 22 }) (va_Pc [.int x, .int y, .int z] (wB D G sz [])) (va_Qi (fun (r : Int32) (_ : Unit) => r = if (inB x 1 20 && (inB y 0 15 && inB z 0 8)) = true then 1 else 0) (fun _ _ => True) (va_A [] sz)) 0 0 (va_A [] sz) := by
  refine Met.ofW (cc := cX11_isLimbShape) (maxL := 3) (ret := (some .boolean)) (by decide) rfl ?_
  intro p e s m args below meth c s₁ B hml hv
  obtain ⟨rfl, hsz, hP, hK, hD0, hN⟩ := hv
  have hx := B.exec
  have hb := B.bytes
  have hr := B.returns
  have hts := atoms_spec (ws := wsX11_isLimbShape) B.pre
  have hown : s.vm.findClass RX11 = some m.cls := findClass_of_methodNamed B.named
  have hlocks := B.notSynchronized
  subst hsz
  have hD := hD0.self (sz := s.heap.size)
  generalize hAe : va_A [] s.heap.size = A at hD ⊢
  have hA : ∀ q : Nat, s.heap.size ≤ q → A q := fun q h => by rw [← hAe]; exact Or.inr h
  have hS : va_S A s.heap s.heap [] := va_S.rf
  have hP : va_P D vwCl [] s.heap := hP
  have hl := lv_entry ([.int x, .int y, .int z]) (n := 3) (Nat.le_of_ble_eq_true rfl)
  rw [lg_entry_eq]
  generalize (lg_sl ([.int x, .int y, .int z]) ++ List.replicate (3 - (lg_sl ([.int x, .int y, .int z])).length) Slot.unset).toArray = ls at hl ⊢
  have hl : lv_has ls 3 [(0, .int x), (1, .int y), (2, .int z)] := hl
  refine lv_iload_n hx hb dX11_isLimbShape_0 rfl (lv_at hl 0 rfl) ?_
  refine lv_iconst (v := 1) hx hb dX11_isLimbShape_1 (by decide) ?_
  refine lv_bipush (v := 20) hx hb dX11_isLimbShape_2 (by decide) ?_
  have hPc := hP.sub (ws' := []) [] rfl
  have hDc := hD.sub (ws' := []) [] (by decide) rfl
  have hFc := va_free (wc := []) hD hS hA [] rfl
  refine va_calli (va_runS (As := [.int x, .int 1, .int 20]) (rest := []) ⟨hx, hb, hml, hown, hts⟩ (kX11_within l D G x 1 20 s.heap.size) (va_cwS 3 hts gX11_isLimbShape_X11_within rfl rfl rfl (by decide +kernel) ⟨Nat.le_of_ble_eq_true rfl, Nat.le_of_ble_eq_true rfl⟩) ⟨wB_blind, wB_pre hPc hK hDc hN⟩ rfl rfl hl.1 rfl (lv_room (Nat.le_of_ble_eq_true rfl)) dX11_isLimbShape_4 ⟨Nat.le_of_ble_eq_true rfl, Nat.le_of_ble_eq_true rfl⟩) hS (fun q _ h => hFc q h) hFc (fun r1 u t H1 locs ht hvm hr1 hB hz1 hk1 hS => ?_)
  obtain ⟨hP, hD⟩ := va_join (wr := []) (w1 := []) hP hD [] [] rfl rfl (by decide) (by decide) hk1 hFc wP_nil wD_nil
  clear hPc hDc
  generalize H1 = H at hP hS ⊢
  have hP : va_P D vwCl [] H := hP
  have hD : va_D A [] := hD
  refine lv_if_eq (tgt := 34) hx hb dX11_isLimbShape_7 (by decide) (fun c2 => ?_) (fun c2 => ?_)
  · have kc2 : (inB x 1 20) = false := wk_b0 hr1 c2
    refine lv_iconst (v := 0) hx hb dX11_isLimbShape_34 (by decide) ?_
    exact W.zret (v := 0) hx hb hr rfl (fun t ht hW => ⟨⟨0, (), rfl, by first | (simp [kc2]; done) | rfl, trivial⟩, hS.F ht⟩) hS.2.2 dX11_isLimbShape_35
  · have kc2 : (inB x 1 20) = true := wk_b1 hr1 c2
    refine lv_iload_n hx hb dX11_isLimbShape_10 rfl (lv_at hl 1 rfl) ?_
    refine lv_iconst (v := 0) hx hb dX11_isLimbShape_11 (by decide) ?_
    refine lv_bipush (v := 15) hx hb dX11_isLimbShape_12 (by decide) ?_
    have hPc := hP.sub (ws' := []) [] rfl
    have hDc := hD.sub (ws' := []) [] (by decide) rfl
    have hFc := va_free (wc := []) hD hS hA [] rfl
    refine va_calli (va_runS (As := [.int y, .int 0, .int 15]) (rest := []) ⟨hx, hb, hml, hown, hts⟩ (kX11_within l D G y 0 15 H.size) (va_cwS 3 hts gX11_isLimbShape_X11_within rfl rfl rfl (by decide +kernel) ⟨Nat.le_of_ble_eq_true rfl, Nat.le_of_ble_eq_true rfl⟩) ⟨wB_blind, wB_pre hPc hK hDc hN⟩ rfl rfl hl.1 rfl (lv_room (Nat.le_of_ble_eq_true rfl)) dX11_isLimbShape_14 ⟨Nat.le_of_ble_eq_true rfl, Nat.le_of_ble_eq_true rfl⟩) hS (fun q _ h => hFc q h) hFc (fun r3 u t H1 locs ht hvm hr3 hB hz1 hk1 hS => ?_)
    obtain ⟨hP, hD⟩ := va_join (wr := []) (w1 := []) hP hD [] [] rfl rfl (by decide) (by decide) hk1 hFc wP_nil wD_nil
    clear hPc hDc
    generalize H1 = H at hP hS ⊢
    have hP : va_P D vwCl [] H := hP
    have hD : va_D A [] := hD
    refine lv_if_eq (tgt := 34) hx hb dX11_isLimbShape_17 (by decide) (fun c4 => ?_) (fun c4 => ?_)
    · have kc4 : (inB y 0 15) = false := wk_b0 hr3 c4
      refine lv_iconst (v := 0) hx hb dX11_isLimbShape_34 (by decide) ?_
      exact W.zret (v := 0) hx hb hr rfl (fun t ht hW => ⟨⟨0, (), rfl, by first | (simp [kc2, kc4]; done) | (simp [kc2]; done) | rfl, trivial⟩, hS.F ht⟩) hS.2.2 dX11_isLimbShape_35
    · have kc4 : (inB y 0 15) = true := wk_b1 hr3 c4
      refine lv_iload_n hx hb dX11_isLimbShape_20 rfl (lv_at hl 2 rfl) ?_
      refine lv_iconst (v := 0) hx hb dX11_isLimbShape_21 (by decide) ?_
      refine lv_bipush (v := 8) hx hb dX11_isLimbShape_22 (by decide) ?_
      have hPc := hP.sub (ws' := []) [] rfl
      have hDc := hD.sub (ws' := []) [] (by decide) rfl
      have hFc := va_free (wc := []) hD hS hA [] rfl
      refine va_calli (va_runS (As := [.int z, .int 0, .int 8]) (rest := []) ⟨hx, hb, hml, hown, hts⟩ (kX11_within l D G z 0 8 H.size) (va_cwS 3 hts gX11_isLimbShape_X11_within rfl rfl rfl (by decide +kernel) ⟨Nat.le_of_ble_eq_true rfl, Nat.le_of_ble_eq_true rfl⟩) ⟨wB_blind, wB_pre hPc hK hDc hN⟩ rfl rfl hl.1 rfl (lv_room (Nat.le_of_ble_eq_true rfl)) dX11_isLimbShape_24 ⟨Nat.le_of_ble_eq_true rfl, Nat.le_of_ble_eq_true rfl⟩) hS (fun q _ h => hFc q h) hFc (fun r5 u t H1 locs ht hvm hr5 hB hz1 hk1 hS => ?_)
      obtain ⟨hP, hD⟩ := va_join (wr := []) (w1 := []) hP hD [] [] rfl rfl (by decide) (by decide) hk1 hFc wP_nil wD_nil
      clear hPc hDc
      generalize H1 = H at hP hS ⊢
      have hP : va_P D vwCl [] H := hP
      have hD : va_D A [] := hD
      refine lv_if_eq (tgt := 34) hx hb dX11_isLimbShape_27 (by decide) (fun c6 => ?_) (fun c6 => ?_)
      · have kc6 : (inB z 0 8) = false := wk_b0 hr5 c6
        refine lv_iconst (v := 0) hx hb dX11_isLimbShape_34 (by decide) ?_
        exact W.zret (v := 0) hx hb hr rfl (fun t ht hW => ⟨⟨0, (), rfl, by first | (simp [kc2, kc4, kc6]; done) | (simp [kc2, kc4]; done) | (simp [kc2]; done) | rfl, trivial⟩, hS.F ht⟩) hS.2.2 dX11_isLimbShape_35
      · have kc6 : (inB z 0 8) = true := wk_b1 hr5 c6
        refine lv_iconst (v := 1) hx hb dX11_isLimbShape_30 (by decide) ?_
        refine lv_goto (tgt := 35) hx hb dX11_isLimbShape_31 (by decide) ?_
        exact W.zret (v := 1) hx hb hr rfl (fun t ht hW => ⟨⟨1, (), rfl, by first | (simp [kc2, kc4, kc6]; done) | (simp [kc2, kc4]; done) | (simp [kc2]; done) | rfl, trivial⟩, hS.F ht⟩) hS.2.2 dX11_isLimbShape_35

theorem mX11_hasFigure_w0 : Cond.fieldLink RX11 10 "PuppetBridge" "stage" "LPuppetBridge$Stage;" ∈ wsX11_hasFigure := by decide +kernel
theorem mX11_hasFigure_w1 : Cond.fieldLink RX11 69 "PuppetBridge$Stage" "count" "I" ∈ wsX11_hasFigure := by decide +kernel
theorem iX11_hasFigure_X11 : ∀ w ∈ wsX110, w ∈ wsX11_hasFigure := fun _ h => List.mem_cons_of_mem _ (List.mem_append_left _ (List.mem_append_right _ h))
theorem iX11_hasFigure_X8 : ∀ w ∈ wsX80, w ∈ wsX11_hasFigure := fun _ h => List.mem_cons_of_mem _ (List.mem_append_right _ h)
set_option maxRecDepth 20000 in
theorem ggX11_hasFigure_X11_within : GoodIn wsX11_hasFigure wsX11_within := goodIn_r _ [6] (by decide +kernel) (by decide +kernel)
set_option maxRecDepth 20000 in
theorem gX11_hasFigure_X11_within : GoodIn wsX11_hasFigure (va_wsS RX11 94 yX11_within wsX11_within) := goodIn_app (goodIn_of _ (by decide +kernel)) ggX11_hasFigure_X11_within
theorem dX11_hasFigure_0 : decode cX11_hasFigure 0 = .ok (.iload_n 1, 1) := by decide +kernel
theorem dX11_hasFigure_1 : decode cX11_hasFigure 1 = .ok (.iconst 0, 1) := by decide +kernel
theorem dX11_hasFigure_2 : decode cX11_hasFigure 2 = .ok (.aload_n 0, 1) := by decide +kernel
theorem dX11_hasFigure_3 : decode cX11_hasFigure 3 = .ok (.getfield 10, 3) := by decide +kernel
theorem dX11_hasFigure_6 : decode cX11_hasFigure 6 = .ok (.getfield 69, 3) := by decide +kernel
theorem dX11_hasFigure_9 : decode cX11_hasFigure 9 = .ok (.iconst 1, 1) := by decide +kernel
theorem dX11_hasFigure_10 : decode cX11_hasFigure 10 = .ok (.isub, 1) := by decide +kernel
theorem dX11_hasFigure_11 : decode cX11_hasFigure 11 = .ok (.invokestatic 94, 3) := by decide +kernel
theorem dX11_hasFigure_14 : decode cX11_hasFigure 14 = .ok (.ireturn, 1) := by decide +kernel
set_option maxHeartbeats 4000000 in
set_option maxRecDepth 100000 in
/-- X11_hasFigure -/
theorem kX11_hasFigure (l : Launch) (D : va_G) (G : tyG) (h0 : Nat) (f : Int32) (z0 : Nat) (z23 : Nat) (z25 : Nat) (z32 : Nat) (z36 : Nat) (z40 : Nat) (z43 : Nat) (z49 : Nat) (z1 : Nat) (z51 : Nat) (z52 : Nat) (z2 : Nat) (z3 : Nat) (sz : Nat) : Met l yX11_hasFigure wsX11_hasFigure ({ frames := 1, cells := 0, slots := 0, locals := 22 }) (va_Pc [.ref h0, .int f] (wB D G sz [(h0, .inr (11, [.ref z0, .ref z23, .ref z25, .ref z32, .ref z36, .ref z40, .ref z43, .ref z49])), (z0, .inr (8, [.ref z1, .ref z51, .ref z52, .ref z2, .ref z3, .int 0, .int 0, .int 9, .int 0, .int 0]))])) (va_Qi (fun (r : Int32) (_ : Unit) => r = 0) (fun _ t => wS D G (va_A [(h0, .inr (11, [.ref z0, .ref z23, .ref z25, .ref z32, .ref z36, .ref z40, .ref z43, .ref z49])), (z0, .inr (8, [.ref z1, .ref z51, .ref z52, .ref z2, .ref z3, .int 0, .int 0, .int 9, .int 0, .int 0]))] sz) [(h0, .inr (11, [.ref z0, .ref z23, .ref z25, .ref z32, .ref z36, .ref z40, .ref z43, .ref z49])), (z0, .inr (8, [.ref z1, .ref z51, .ref z52, .ref z2, .ref z3, .int 0, .int 0, .int 9, .int 0, .int 0]))] t) (va_A [(h0, .inr (11, [.ref z0, .ref z23, .ref z25, .ref z32, .ref z36, .ref z40, .ref z43, .ref z49])), (z0, .inr (8, [.ref z1, .ref z51, .ref z52, .ref z2, .ref z3, .int 0, .int 0, .int 9, .int 0, .int 0]))] sz)) 0 0 (va_A [(h0, .inr (11, [.ref z0, .ref z23, .ref z25, .ref z32, .ref z36, .ref z40, .ref z43, .ref z49])), (z0, .inr (8, [.ref z1, .ref z51, .ref z52, .ref z2, .ref z3, .int 0, .int 0, .int 9, .int 0, .int 0]))] sz) := by
  refine Met.ofW (cc := cX11_hasFigure) (maxL := 2) (ret := (some .boolean)) (by decide) rfl ?_
  intro p e s m args below meth c s₁ B hml hv
  obtain ⟨rfl, hsz, hP, hK, hD0, hN⟩ := hv
  have hx := B.exec
  have hb := B.bytes
  have hr := B.returns
  have hts := atoms_spec (ws := wsX11_hasFigure) B.pre
  have hown : s.vm.findClass RX11 = some m.cls := findClass_of_methodNamed B.named
  have hlocks := B.notSynchronized
  subst hsz
  have hD := hD0.self (sz := s.heap.size)
  generalize hAe : va_A [(h0, .inr (11, [.ref z0, .ref z23, .ref z25, .ref z32, .ref z36, .ref z40, .ref z43, .ref z49])), (z0, .inr (8, [.ref z1, .ref z51, .ref z52, .ref z2, .ref z3, .int 0, .int 0, .int 9, .int 0, .int 0]))] s.heap.size = A at hD ⊢
  have hA : ∀ q : Nat, s.heap.size ≤ q → A q := fun q h => by rw [← hAe]; exact Or.inr h
  have hS : va_S A s.heap s.heap [] := va_S.rf
  have hP : va_P D vwCl [(h0, .inr (11, [.ref z0, .ref z23, .ref z25, .ref z32, .ref z36, .ref z40, .ref z43, .ref z49])), (z0, .inr (8, [.ref z1, .ref z51, .ref z52, .ref z2, .ref z3, .int 0, .int 0, .int 9, .int 0, .int 0]))] s.heap := hP
  have hl := lv_entry ([.ref h0, .int f]) (n := 2) (Nat.le_of_ble_eq_true rfl)
  rw [lg_entry_eq]
  generalize (lg_sl ([.ref h0, .int f]) ++ List.replicate (2 - (lg_sl ([.ref h0, .int f])).length) Slot.unset).toArray = ls at hl ⊢
  have hl : lv_has ls 2 [(0, .ref h0), (1, .int f)] := hl
  refine lv_iload_n hx hb dX11_hasFigure_0 rfl (lv_at hl 1 rfl) ?_
  refine lv_iconst (v := 0) hx hb dX11_hasFigure_1 (by decide) ?_
  refine lv_aload_n hx hb dX11_hasFigure_2 rfl (lv_at hl 0 rfl) ?_
  refine va_get (D := D) (ci := 11) (v := .ref z0) (C := RX11) (T := TX11) (N := 8) hx hb hts iX11_hasFigure_X11 hown hK hP 0 rfl rfl 0 (by decide) (hts (.fieldLink RX11 10 "PuppetBridge" "stage" "LPuppetBridge$Stage;") mX11_hasFigure_w0) (fun _ h9 => h9) rfl dX11_hasFigure_3 ?_
  refine va_get (D := D) (ci := 8) (v := .int 0) (C := RX8) (T := TX8) (N := 10) hx hb hts iX11_hasFigure_X8 hown hK hP 1 rfl rfl 5 (by decide) (hts (.fieldLink RX11 69 "PuppetBridge$Stage" "count" "I") mX11_hasFigure_w1) (fun _ h9 => h9) rfl dX11_hasFigure_6 ?_
  refine lv_iconst (v := 1) hx hb dX11_hasFigure_9 (by decide) ?_
  refine lv_isub hx hb dX11_hasFigure_10 ?_
  refine wk_i (-1) (by decide) ?_
  have hPc := hP.sub (ws' := []) [] rfl
  have hDc := hD.sub (ws' := []) [] (by decide) rfl
  have hFc := va_free (wc := []) hD hS hA [] rfl
  refine va_calli (va_runS (As := [.int f, .int 0, .int (-1)]) (rest := []) ⟨hx, hb, hml, hown, hts⟩ (kX11_within l D G f 0 (-1) s.heap.size) (va_cwS 3 hts gX11_hasFigure_X11_within rfl rfl rfl (by decide +kernel) ⟨Nat.le_of_ble_eq_true rfl, Nat.le_of_ble_eq_true rfl⟩) ⟨wB_blind, wB_pre hPc hK hDc hN⟩ rfl rfl hl.1 rfl (lv_room (Nat.le_of_ble_eq_true rfl)) dX11_hasFigure_11 ⟨Nat.le_of_ble_eq_true rfl, Nat.le_of_ble_eq_true rfl⟩) hS (fun q _ h => hFc q h) hFc (fun r1 u t H1 locs ht hvm hr1 hB hz1 hk1 hS => ?_)
  obtain ⟨hP, hD⟩ := va_join (wr := [(h0, .inr (11, [.ref z0, .ref z23, .ref z25, .ref z32, .ref z36, .ref z40, .ref z43, .ref z49])), (z0, .inr (8, [.ref z1, .ref z51, .ref z52, .ref z2, .ref z3, .int 0, .int 0, .int 9, .int 0, .int 0]))]) (w1 := []) hP hD [] [0, 1] rfl rfl (by decide) (by decide) hk1 hFc wP_nil wD_nil
  clear hPc hDc
  generalize H1 = H at hP hS ⊢
  have hP : va_P D vwCl [(h0, .inr (11, [.ref z0, .ref z23, .ref z25, .ref z32, .ref z36, .ref z40, .ref z43, .ref z49])), (z0, .inr (8, [.ref z1, .ref z51, .ref z52, .ref z2, .ref z3, .int 0, .int 0, .int 9, .int 0, .int 0]))] H := hP
  have hD : va_D A [(h0, .inr (11, [.ref z0, .ref z23, .ref z25, .ref z32, .ref z36, .ref z40, .ref z43, .ref z49])), (z0, .inr (8, [.ref z1, .ref z51, .ref z52, .ref z2, .ref z3, .int 0, .int 0, .int 9, .int 0, .int 0]))] := hD
  have hP9 := hP.sub (ws' := [(h0, .inr (11, [.ref z0, .ref z23, .ref z25, .ref z32, .ref z36, .ref z40, .ref z43, .ref z49])), (z0, .inr (8, [.ref z1, .ref z51, .ref z52, .ref z2, .ref z3, .int 0, .int 0, .int 9, .int 0, .int 0]))]) [0, 1] rfl
  have hD9 := hD.sub (ws' := [(h0, .inr (11, [.ref z0, .ref z23, .ref z25, .ref z32, .ref z36, .ref z40, .ref z43, .ref z49])), (z0, .inr (8, [.ref z1, .ref z51, .ref z52, .ref z2, .ref z3, .int 0, .int 0, .int 9, .int 0, .int 0]))]) [0, 1] (by decide) rfl
  exact W.zret (v := r1) hx hb hr (wk_nar hr1) (fun t ht hW => ⟨⟨r1, (), rfl, by rw [hr1, inB_none]; rfl, ⟨by rw [ht]; exact hP9, va_K.moved hW.alike hK, hD9⟩⟩, hS.F ht⟩) hS.2.2 dX11_hasFigure_14

set_option maxRecDepth 20000 in
theorem ggX11_hasLimb_X11_hasFigure : GoodIn wsX11_hasLimb wsX11_hasFigure := goodIn_r _ [8, 1, 9, 10, 11, 7, 12, 13, 14, 15, 16, 17, 18, 19, 20, 21, 22, 23, 24, 25, 26, 27, 28, 29, 30] (by decide +kernel) (by decide +kernel)
set_option maxRecDepth 20000 in
theorem gX11_hasLimb_X11_hasFigure : GoodIn wsX11_hasLimb (wsV RX11 108 RX11 yX11_hasFigure wsX11_hasFigure) := goodIn_app (goodIn_of _ (by decide +kernel)) ggX11_hasLimb_X11_hasFigure
theorem dX11_hasLimb_0 : decode cX11_hasLimb 0 = .ok (.aload_n 0, 1) := by decide +kernel
theorem dX11_hasLimb_1 : decode cX11_hasLimb 1 = .ok (.iload_n 1, 1) := by decide +kernel
theorem dX11_hasLimb_2 : decode cX11_hasLimb 2 = .ok (.invokevirtual 108, 3) := by decide +kernel
theorem dX11_hasLimb_5 : decode cX11_hasLimb 5 = .ok (.ifCond .eq 29, 3) := by decide +kernel
theorem dX11_hasLimb_34 : decode cX11_hasLimb 34 = .ok (.iconst 0, 1) := by decide +kernel
theorem dX11_hasLimb_35 : decode cX11_hasLimb 35 = .ok (.ireturn, 1) := by decide +kernel
set_option maxHeartbeats 4000000 in
set_option maxRecDepth 100000 in
/-- X11_hasLimb -/
theorem kX11_hasLimb (l : Launch) (D : va_G) (G : tyG) (h0 : Nat) (f : Int32) (g : Int32) (z0 : Nat) (z23 : Nat) (z25 : Nat) (z32 : Nat) (z36 : Nat) (z40 : Nat) (z43 : Nat) (z49 : Nat) (z1 : Nat) (z51 : Nat) (z52 : Nat) (z2 : Nat) (z3 : Nat) (sz : Nat) : Met l yX11_hasLimb wsX11_hasLimb ({ frames := 2, cells := 0, slots := 0, locals := 43 }) (va_Pc [.ref h0, .int f, .int g] (wB D G sz [(h0, .inr (11, [.ref z0, .ref z23, .ref z25, .ref z32, .ref z36, .ref z40, .ref z43, .ref z49])), (z0, .inr (8, [.ref z1, .ref z51, .ref z52, .ref z2, .ref z3, .int 0, .int 0, .int 9, .int 0, .int 0]))])) (va_Qi (fun (r : Int32) (_ : Unit) => r = 0) (fun _ t => wS D G (va_A [(h0, .inr (11, [.ref z0, .ref z23, .ref z25, .ref z32, .ref z36, .ref z40, .ref z43, .ref z49])), (z0, .inr (8, [.ref z1, .ref z51, .ref z52, .ref z2, .ref z3, .int 0, .int 0, .int 9, .int 0, .int 0]))] sz) [(h0, .inr (11, [.ref z0, .ref z23, .ref z25, .ref z32, .ref z36, .ref z40, .ref z43, .ref z49])), (z0, .inr (8, [.ref z1, .ref z51, .ref z52, .ref z2, .ref z3, .int 0, .int 0, .int 9, .int 0, .int 0]))] t) (va_A [(h0, .inr (11, [.ref z0, .ref z23, .ref z25, .ref z32, .ref z36, .ref z40, .ref z43, .ref z49])), (z0, .inr (8, [.ref z1, .ref z51, .ref z52, .ref z2, .ref z3, .int 0, .int 0, .int 9, .int 0, .int 0]))] sz)) 0 0 (va_A [(h0, .inr (11, [.ref z0, .ref z23, .ref z25, .ref z32, .ref z36, .ref z40, .ref z43, .ref z49])), (z0, .inr (8, [.ref z1, .ref z51, .ref z52, .ref z2, .ref z3, .int 0, .int 0, .int 9, .int 0, .int 0]))] sz) := by
  refine Met.ofW (cc := cX11_hasLimb) (maxL := 3) (ret := (some .boolean)) (by decide) rfl ?_
  intro p e s m args below meth c s₁ B hml hv
  obtain ⟨rfl, hsz, hP, hK, hD0, hN⟩ := hv
  have hx := B.exec
  have hb := B.bytes
  have hr := B.returns
  have hts := atoms_spec (ws := wsX11_hasLimb) B.pre
  have hown : s.vm.findClass RX11 = some m.cls := findClass_of_methodNamed B.named
  have hlocks := B.notSynchronized
  subst hsz
  have hD := hD0.self (sz := s.heap.size)
  generalize hAe : va_A [(h0, .inr (11, [.ref z0, .ref z23, .ref z25, .ref z32, .ref z36, .ref z40, .ref z43, .ref z49])), (z0, .inr (8, [.ref z1, .ref z51, .ref z52, .ref z2, .ref z3, .int 0, .int 0, .int 9, .int 0, .int 0]))] s.heap.size = A at hD ⊢
  have hA : ∀ q : Nat, s.heap.size ≤ q → A q := fun q h => by rw [← hAe]; exact Or.inr h
  have hS : va_S A s.heap s.heap [] := va_S.rf
  have hP : va_P D vwCl [(h0, .inr (11, [.ref z0, .ref z23, .ref z25, .ref z32, .ref z36, .ref z40, .ref z43, .ref z49])), (z0, .inr (8, [.ref z1, .ref z51, .ref z52, .ref z2, .ref z3, .int 0, .int 0, .int 9, .int 0, .int 0]))] s.heap := hP
  have hl := lv_entry ([.ref h0, .int f, .int g]) (n := 3) (Nat.le_of_ble_eq_true rfl)
  rw [lg_entry_eq]
  generalize (lg_sl ([.ref h0, .int f, .int g]) ++ List.replicate (3 - (lg_sl ([.ref h0, .int f, .int g])).length) Slot.unset).toArray = ls at hl ⊢
  have hl : lv_has ls 3 [(0, .ref h0), (1, .int f), (2, .int g)] := hl
  refine lv_aload_n hx hb dX11_hasLimb_0 rfl (lv_at hl 0 rfl) ?_
  refine lv_iload_n hx hb dX11_hasLimb_1 rfl (lv_at hl 1 rfl) ?_
  have hPc := hP.sub (ws' := [(h0, .inr (11, [.ref z0, .ref z23, .ref z25, .ref z32, .ref z36, .ref z40, .ref z43, .ref z49])), (z0, .inr (8, [.ref z1, .ref z51, .ref z52, .ref z2, .ref z3, .int 0, .int 0, .int 9, .int 0, .int 0]))]) [0, 1] rfl
  have hDc := hD.sub (ws' := [(h0, .inr (11, [.ref z0, .ref z23, .ref z25, .ref z32, .ref z36, .ref z40, .ref z43, .ref z49])), (z0, .inr (8, [.ref z1, .ref z51, .ref z52, .ref z2, .ref z3, .int 0, .int 0, .int 9, .int 0, .int 0]))]) [0, 1] (by decide) rfl
  have hFc := va_free (wc := [(h0, .inr (11, [.ref z0, .ref z23, .ref z25, .ref z32, .ref z36, .ref z40, .ref z43, .ref z49])), (z0, .inr (8, [.ref z1, .ref z51, .ref z52, .ref z2, .ref z3, .int 0, .int 0, .int 9, .int 0, .int 0]))]) hD hS hA [0, 1] rfl
  refine va_calli (va_runV (As := [.int f]) (rest := []) ⟨hx, hb, hml, hown, hts⟩ (kX11_hasFigure l D G h0 f z0 z23 z25 z32 z36 z40 z43 z49 z1 z51 z52 z2 z3 s.heap.size) (cwV 1 hts gX11_hasLimb_X11_hasFigure rfl rfl rfl (by decide +kernel) ⟨Nat.le_of_ble_eq_true rfl, Nat.le_of_ble_eq_true rfl⟩) ⟨wB_blind, va_recv hK hPc (ci := 11) (q0 := 0) rfl rfl, wB_pre hPc hK hDc hN⟩ rfl rfl hl.1 rfl (lv_room (Nat.le_of_ble_eq_true rfl)) dX11_hasLimb_2 ⟨Nat.le_of_ble_eq_true rfl, Nat.le_of_ble_eq_true rfl⟩) hS (fun q _ h => hFc q h) hFc (fun r1 u t H1 locs ht hvm hr1 hB hz1 hk1 hS => ?_)
  obtain ⟨hP1, hK1, hD1⟩ := hB
  rw [ht] at hP1
  obtain ⟨hP, hD⟩ := va_join (wr := []) (w1 := [(h0, .inr (11, [.ref z0, .ref z23, .ref z25, .ref z32, .ref z36, .ref z40, .ref z43, .ref z49])), (z0, .inr (8, [.ref z1, .ref z51, .ref z52, .ref z2, .ref z3, .int 0, .int 0, .int 9, .int 0, .int 0]))]) hP hD [0, 1] [] rfl rfl (by decide) (by decide) hk1 hFc hP1 hD1
  clear hPc hDc
  generalize H1 = H at hP hS ⊢
  have hP : va_P D vwCl [(h0, .inr (11, [.ref z0, .ref z23, .ref z25, .ref z32, .ref z36, .ref z40, .ref z43, .ref z49])), (z0, .inr (8, [.ref z1, .ref z51, .ref z52, .ref z2, .ref z3, .int 0, .int 0, .int 9, .int 0, .int 0]))] H := hP
  have hD : va_D A [(h0, .inr (11, [.ref z0, .ref z23, .ref z25, .ref z32, .ref z36, .ref z40, .ref z43, .ref z49])), (z0, .inr (8, [.ref z1, .ref z51, .ref z52, .ref z2, .ref z3, .int 0, .int 0, .int 9, .int 0, .int 0]))] := hD
  subst hr1
  refine lv_if_eq (tgt := 34) hx hb dX11_hasLimb_5 (by decide) (fun _ => ?_) (fun h9 => absurd h9 (by decide))
  refine lv_iconst (v := 0) hx hb dX11_hasLimb_34 (by decide) ?_
  have hP9 := hP.sub (ws' := [(h0, .inr (11, [.ref z0, .ref z23, .ref z25, .ref z32, .ref z36, .ref z40, .ref z43, .ref z49])), (z0, .inr (8, [.ref z1, .ref z51, .ref z52, .ref z2, .ref z3, .int 0, .int 0, .int 9, .int 0, .int 0]))]) [0, 1] rfl
  have hD9 := hD.sub (ws' := [(h0, .inr (11, [.ref z0, .ref z23, .ref z25, .ref z32, .ref z36, .ref z40, .ref z43, .ref z49])), (z0, .inr (8, [.ref z1, .ref z51, .ref z52, .ref z2, .ref z3, .int 0, .int 0, .int 9, .int 0, .int 0]))]) [0, 1] (by decide) rfl
  exact W.zret (v := 0) hx hb hr rfl (fun t ht hW => ⟨⟨0, (), rfl, rfl, ⟨by rw [ht]; exact hP9, va_K.moved hW.alike hK, hD9⟩⟩, hS.F ht⟩) hS.2.2 dX11_hasLimb_35

set_option maxRecDepth 20000 in
theorem ggX11_hasString_X11_hasFigure : GoodIn wsX11_hasString wsX11_hasFigure := goodIn_r _ [9, 1, 10, 11, 12, 8, 13, 14, 15, 16, 17, 18, 19, 20, 21, 22, 23, 24, 25, 26, 27, 28, 29, 30, 31] (by decide +kernel) (by decide +kernel)
set_option maxRecDepth 20000 in
theorem gX11_hasString_X11_hasFigure : GoodIn wsX11_hasString (wsV RX11 108 RX11 yX11_hasFigure wsX11_hasFigure) := goodIn_app (goodIn_of _ (by decide +kernel)) ggX11_hasString_X11_hasFigure
theorem dX11_hasString_0 : decode cX11_hasString 0 = .ok (.aload_n 0, 1) := by decide +kernel
theorem dX11_hasString_1 : decode cX11_hasString 1 = .ok (.iload_n 1, 1) := by decide +kernel
theorem dX11_hasString_2 : decode cX11_hasString 2 = .ok (.invokevirtual 108, 3) := by decide +kernel
theorem dX11_hasString_5 : decode cX11_hasString 5 = .ok (.ifCond .eq 32, 3) := by decide +kernel
theorem dX11_hasString_37 : decode cX11_hasString 37 = .ok (.iconst 0, 1) := by decide +kernel
theorem dX11_hasString_38 : decode cX11_hasString 38 = .ok (.ireturn, 1) := by decide +kernel
set_option maxHeartbeats 4000000 in
set_option maxRecDepth 100000 in
/-- X11_hasString -/
theorem kX11_hasString (l : Launch) (D : va_G) (G : tyG) (h0 : Nat) (f : Int32) (g : Int32) (z0 : Nat) (z23 : Nat) (z25 : Nat) (z32 : Nat) (z36 : Nat) (z40 : Nat) (z43 : Nat) (z49 : Nat) (z1 : Nat) (z51 : Nat) (z52 : Nat) (z2 : Nat) (z3 : Nat) (sz : Nat) : Met l yX11_hasString wsX11_hasString ({ frames := 2, cells := 0, slots := 0, locals := 43 }) (va_Pc [.ref h0, .int f, .int g] (wB D G sz [(h0, .inr (11, [.ref z0, .ref z23, .ref z25, .ref z32, .ref z36, .ref z40, .ref z43, .ref z49])), (z0, .inr (8, [.ref z1, .ref z51, .ref z52, .ref z2, .ref z3, .int 0, .int 0, .int 9, .int 0, .int 0]))])) (va_Qi (fun (r : Int32) (_ : Unit) => r = 0) (fun _ t => wS D G (va_A [(h0, .inr (11, [.ref z0, .ref z23, .ref z25, .ref z32, .ref z36, .ref z40, .ref z43, .ref z49])), (z0, .inr (8, [.ref z1, .ref z51, .ref z52, .ref z2, .ref z3, .int 0, .int 0, .int 9, .int 0, .int 0]))] sz) [(h0, .inr (11, [.ref z0, .ref z23, .ref z25, .ref z32, .ref z36, .ref z40, .ref z43, .ref z49])), (z0, .inr (8, [.ref z1, .ref z51, .ref z52, .ref z2, .ref z3, .int 0, .int 0, .int 9, .int 0, .int 0]))] t) (va_A [(h0, .inr (11, [.ref z0, .ref z23, .ref z25, .ref z32, .ref z36, .ref z40, .ref z43, .ref z49])), (z0, .inr (8, [.ref z1, .ref z51, .ref z52, .ref z2, .ref z3, .int 0, .int 0, .int 9, .int 0, .int 0]))] sz)) 0 0 (va_A [(h0, .inr (11, [.ref z0, .ref z23, .ref z25, .ref z32, .ref z36, .ref z40, .ref z43, .ref z49])), (z0, .inr (8, [.ref z1, .ref z51, .ref z52, .ref z2, .ref z3, .int 0, .int 0, .int 9, .int 0, .int 0]))] sz) := by
  refine Met.ofW (cc := cX11_hasString) (maxL := 3) (ret := (some .boolean)) (by decide) rfl ?_
  intro p e s m args below meth c s₁ B hml hv
  obtain ⟨rfl, hsz, hP, hK, hD0, hN⟩ := hv
  have hx := B.exec
  have hb := B.bytes
  have hr := B.returns
  have hts := atoms_spec (ws := wsX11_hasString) B.pre
  have hown : s.vm.findClass RX11 = some m.cls := findClass_of_methodNamed B.named
  have hlocks := B.notSynchronized
  subst hsz
  have hD := hD0.self (sz := s.heap.size)
  generalize hAe : va_A [(h0, .inr (11, [.ref z0, .ref z23, .ref z25, .ref z32, .ref z36, .ref z40, .ref z43, .ref z49])), (z0, .inr (8, [.ref z1, .ref z51, .ref z52, .ref z2, .ref z3, .int 0, .int 0, .int 9, .int 0, .int 0]))] s.heap.size = A at hD ⊢
  have hA : ∀ q : Nat, s.heap.size ≤ q → A q := fun q h => by rw [← hAe]; exact Or.inr h
  have hS : va_S A s.heap s.heap [] := va_S.rf
  have hP : va_P D vwCl [(h0, .inr (11, [.ref z0, .ref z23, .ref z25, .ref z32, .ref z36, .ref z40, .ref z43, .ref z49])), (z0, .inr (8, [.ref z1, .ref z51, .ref z52, .ref z2, .ref z3, .int 0, .int 0, .int 9, .int 0, .int 0]))] s.heap := hP
  have hl := lv_entry ([.ref h0, .int f, .int g]) (n := 3) (Nat.le_of_ble_eq_true rfl)
  rw [lg_entry_eq]
  generalize (lg_sl ([.ref h0, .int f, .int g]) ++ List.replicate (3 - (lg_sl ([.ref h0, .int f, .int g])).length) Slot.unset).toArray = ls at hl ⊢
  have hl : lv_has ls 3 [(0, .ref h0), (1, .int f), (2, .int g)] := hl
  refine lv_aload_n hx hb dX11_hasString_0 rfl (lv_at hl 0 rfl) ?_
  refine lv_iload_n hx hb dX11_hasString_1 rfl (lv_at hl 1 rfl) ?_
  have hPc := hP.sub (ws' := [(h0, .inr (11, [.ref z0, .ref z23, .ref z25, .ref z32, .ref z36, .ref z40, .ref z43, .ref z49])), (z0, .inr (8, [.ref z1, .ref z51, .ref z52, .ref z2, .ref z3, .int 0, .int 0, .int 9, .int 0, .int 0]))]) [0, 1] rfl
  have hDc := hD.sub (ws' := [(h0, .inr (11, [.ref z0, .ref z23, .ref z25, .ref z32, .ref z36, .ref z40, .ref z43, .ref z49])), (z0, .inr (8, [.ref z1, .ref z51, .ref z52, .ref z2, .ref z3, .int 0, .int 0, .int 9, .int 0, .int 0]))]) [0, 1] (by decide) rfl
  have hFc := va_free (wc := [(h0, .inr (11, [.ref z0, .ref z23, .ref z25, .ref z32, .ref z36, .ref z40, .ref z43, .ref z49])), (z0, .inr (8, [.ref z1, .ref z51, .ref z52, .ref z2, .ref z3, .int 0, .int 0, .int 9, .int 0, .int 0]))]) hD hS hA [0, 1] rfl
  refine va_calli (va_runV (As := [.int f]) (rest := []) ⟨hx, hb, hml, hown, hts⟩ (kX11_hasFigure l D G h0 f z0 z23 z25 z32 z36 z40 z43 z49 z1 z51 z52 z2 z3 s.heap.size) (cwV 1 hts gX11_hasString_X11_hasFigure rfl rfl rfl (by decide +kernel) ⟨Nat.le_of_ble_eq_true rfl, Nat.le_of_ble_eq_true rfl⟩) ⟨wB_blind, va_recv hK hPc (ci := 11) (q0 := 0) rfl rfl, wB_pre hPc hK hDc hN⟩ rfl rfl hl.1 rfl (lv_room (Nat.le_of_ble_eq_true rfl)) dX11_hasString_2 ⟨Nat.le_of_ble_eq_true rfl, Nat.le_of_ble_eq_true rfl⟩) hS (fun q _ h => hFc q h) hFc (fun r1 u t H1 locs ht hvm hr1 hB hz1 hk1 hS => ?_)
  obtain ⟨hP1, hK1, hD1⟩ := hB
  rw [ht] at hP1
  obtain ⟨hP, hD⟩ := va_join (wr := []) (w1 := [(h0, .inr (11, [.ref z0, .ref z23, .ref z25, .ref z32, .ref z36, .ref z40, .ref z43, .ref z49])), (z0, .inr (8, [.ref z1, .ref z51, .ref z52, .ref z2, .ref z3, .int 0, .int 0, .int 9, .int 0, .int 0]))]) hP hD [0, 1] [] rfl rfl (by decide) (by decide) hk1 hFc hP1 hD1
  clear hPc hDc
  generalize H1 = H at hP hS ⊢
  have hP : va_P D vwCl [(h0, .inr (11, [.ref z0, .ref z23, .ref z25, .ref z32, .ref z36, .ref z40, .ref z43, .ref z49])), (z0, .inr (8, [.ref z1, .ref z51, .ref z52, .ref z2, .ref z3, .int 0, .int 0, .int 9, .int 0, .int 0]))] H := hP
  have hD : va_D A [(h0, .inr (11, [.ref z0, .ref z23, .ref z25, .ref z32, .ref z36, .ref z40, .ref z43, .ref z49])), (z0, .inr (8, [.ref z1, .ref z51, .ref z52, .ref z2, .ref z3, .int 0, .int 0, .int 9, .int 0, .int 0]))] := hD
  subst hr1
  refine lv_if_eq (tgt := 37) hx hb dX11_hasString_5 (by decide) (fun _ => ?_) (fun h9 => absurd h9 (by decide))
  refine lv_iconst (v := 0) hx hb dX11_hasString_37 (by decide) ?_
  have hP9 := hP.sub (ws' := [(h0, .inr (11, [.ref z0, .ref z23, .ref z25, .ref z32, .ref z36, .ref z40, .ref z43, .ref z49])), (z0, .inr (8, [.ref z1, .ref z51, .ref z52, .ref z2, .ref z3, .int 0, .int 0, .int 9, .int 0, .int 0]))]) [0, 1] rfl
  have hD9 := hD.sub (ws' := [(h0, .inr (11, [.ref z0, .ref z23, .ref z25, .ref z32, .ref z36, .ref z40, .ref z43, .ref z49])), (z0, .inr (8, [.ref z1, .ref z51, .ref z52, .ref z2, .ref z3, .int 0, .int 0, .int 9, .int 0, .int 0]))]) [0, 1] (by decide) rfl
  exact W.zret (v := 0) hx hb hr rfl (fun t ht hW => ⟨⟨0, (), rfl, rfl, ⟨by rw [ht]; exact hP9, va_K.moved hW.alike hK, hD9⟩⟩, hS.F ht⟩) hS.2.2 dX11_hasString_38

set_option maxRecDepth 20000 in
theorem ggX11_isPair_X11_hasFigure : GoodIn wsX11_isPair wsX11_hasFigure := goodIn_r _ [5, 6, 7, 8, 9, 4, 10, 11, 12, 13, 14, 15, 16, 17, 18, 19, 20, 21, 22, 23, 24, 25, 26, 27, 28] (by decide +kernel) (by decide +kernel)
set_option maxRecDepth 20000 in
theorem gX11_isPair_X11_hasFigure : GoodIn wsX11_isPair (wsV RX11 108 RX11 yX11_hasFigure wsX11_hasFigure) := goodIn_app (goodIn_of _ (by decide +kernel)) ggX11_isPair_X11_hasFigure
theorem dX11_isPair_0 : decode cX11_isPair 0 = .ok (.iload_n 1, 1) := by decide +kernel
theorem dX11_isPair_1 : decode cX11_isPair 1 = .ok (.iload_n 2, 1) := by decide +kernel
theorem dX11_isPair_2 : decode cX11_isPair 2 = .ok (.if_icmp .eq 23, 3) := by decide +kernel
theorem dX11_isPair_5 : decode cX11_isPair 5 = .ok (.aload_n 0, 1) := by decide +kernel
theorem dX11_isPair_6 : decode cX11_isPair 6 = .ok (.iload_n 1, 1) := by decide +kernel
theorem dX11_isPair_7 : decode cX11_isPair 7 = .ok (.invokevirtual 108, 3) := by decide +kernel
theorem dX11_isPair_10 : decode cX11_isPair 10 = .ok (.ifCond .eq 15, 3) := by decide +kernel
theorem dX11_isPair_25 : decode cX11_isPair 25 = .ok (.iconst 0, 1) := by decide +kernel
theorem dX11_isPair_26 : decode cX11_isPair 26 = .ok (.ireturn, 1) := by decide +kernel
set_option maxHeartbeats 4000000 in
set_option maxRecDepth 100000 in
/-- X11_isPair -/
theorem kX11_isPair (l : Launch) (D : va_G) (G : tyG) (h0 : Nat) (f : Int32) (g : Int32) (z0 : Nat) (z23 : Nat) (z25 : Nat) (z32 : Nat) (z36 : Nat) (z40 : Nat) (z43 : Nat) (z49 : Nat) (z1 : Nat) (z51 : Nat) (z52 : Nat) (z2 : Nat) (z3 : Nat) (sz : Nat) : Met l yX11_isPair wsX11_isPair ({ frames := 2, cells := 0, slots := 0, locals := 43 }) (va_Pc [.ref h0, .int f, .int g] (wB D G sz [(h0, .inr (11, [.ref z0, .ref z23, .ref z25, .ref z32, .ref z36, .ref z40, .ref z43, .ref z49])), (z0, .inr (8, [.ref z1, .ref z51, .ref z52, .ref z2, .ref z3, .int 0, .int 0, .int 9, .int 0, .int 0]))])) (va_Qi (fun (r : Int32) (_ : Unit) => r = 0) (fun _ t => wS D G (va_A [(h0, .inr (11, [.ref z0, .ref z23, .ref z25, .ref z32, .ref z36, .ref z40, .ref z43, .ref z49])), (z0, .inr (8, [.ref z1, .ref z51, .ref z52, .ref z2, .ref z3, .int 0, .int 0, .int 9, .int 0, .int 0]))] sz) [(h0, .inr (11, [.ref z0, .ref z23, .ref z25, .ref z32, .ref z36, .ref z40, .ref z43, .ref z49])), (z0, .inr (8, [.ref z1, .ref z51, .ref z52, .ref z2, .ref z3, .int 0, .int 0, .int 9, .int 0, .int 0]))] t) (va_A [(h0, .inr (11, [.ref z0, .ref z23, .ref z25, .ref z32, .ref z36, .ref z40, .ref z43, .ref z49])), (z0, .inr (8, [.ref z1, .ref z51, .ref z52, .ref z2, .ref z3, .int 0, .int 0, .int 9, .int 0, .int 0]))] sz)) 0 0 (va_A [(h0, .inr (11, [.ref z0, .ref z23, .ref z25, .ref z32, .ref z36, .ref z40, .ref z43, .ref z49])), (z0, .inr (8, [.ref z1, .ref z51, .ref z52, .ref z2, .ref z3, .int 0, .int 0, .int 9, .int 0, .int 0]))] sz) := by
  refine Met.ofW (cc := cX11_isPair) (maxL := 3) (ret := (some .boolean)) (by decide) rfl ?_
  intro p e s m args below meth c s₁ B hml hv
  obtain ⟨rfl, hsz, hP, hK, hD0, hN⟩ := hv
  have hx := B.exec
  have hb := B.bytes
  have hr := B.returns
  have hts := atoms_spec (ws := wsX11_isPair) B.pre
  have hown : s.vm.findClass RX11 = some m.cls := findClass_of_methodNamed B.named
  have hlocks := B.notSynchronized
  subst hsz
  have hD := hD0.self (sz := s.heap.size)
  generalize hAe : va_A [(h0, .inr (11, [.ref z0, .ref z23, .ref z25, .ref z32, .ref z36, .ref z40, .ref z43, .ref z49])), (z0, .inr (8, [.ref z1, .ref z51, .ref z52, .ref z2, .ref z3, .int 0, .int 0, .int 9, .int 0, .int 0]))] s.heap.size = A at hD ⊢
  have hA : ∀ q : Nat, s.heap.size ≤ q → A q := fun q h => by rw [← hAe]; exact Or.inr h
  have hS : va_S A s.heap s.heap [] := va_S.rf
  have hP : va_P D vwCl [(h0, .inr (11, [.ref z0, .ref z23, .ref z25, .ref z32, .ref z36, .ref z40, .ref z43, .ref z49])), (z0, .inr (8, [.ref z1, .ref z51, .ref z52, .ref z2, .ref z3, .int 0, .int 0, .int 9, .int 0, .int 0]))] s.heap := hP
  have hl := lv_entry ([.ref h0, .int f, .int g]) (n := 3) (Nat.le_of_ble_eq_true rfl)
  rw [lg_entry_eq]
  generalize (lg_sl ([.ref h0, .int f, .int g]) ++ List.replicate (3 - (lg_sl ([.ref h0, .int f, .int g])).length) Slot.unset).toArray = ls at hl ⊢
  have hl : lv_has ls 3 [(0, .ref h0), (1, .int f), (2, .int g)] := hl
  refine lv_iload_n hx hb dX11_isPair_0 rfl (lv_at hl 1 rfl) ?_
  refine lv_iload_n hx hb dX11_isPair_1 rfl (lv_at hl 2 rfl) ?_
  refine lv_icmp_eq (tgt := 25) hx hb dX11_isPair_2 (by decide) (fun c1 => ?_) (fun c1 => ?_)
  · refine lv_iconst (v := 0) hx hb dX11_isPair_25 (by decide) ?_
    have hP9 := hP.sub (ws' := [(h0, .inr (11, [.ref z0, .ref z23, .ref z25, .ref z32, .ref z36, .ref z40, .ref z43, .ref z49])), (z0, .inr (8, [.ref z1, .ref z51, .ref z52, .ref z2, .ref z3, .int 0, .int 0, .int 9, .int 0, .int 0]))]) [0, 1] rfl
    have hD9 := hD.sub (ws' := [(h0, .inr (11, [.ref z0, .ref z23, .ref z25, .ref z32, .ref z36, .ref z40, .ref z43, .ref z49])), (z0, .inr (8, [.ref z1, .ref z51, .ref z52, .ref z2, .ref z3, .int 0, .int 0, .int 9, .int 0, .int 0]))]) [0, 1] (by decide) rfl
    exact W.zret (v := 0) hx hb hr rfl (fun t ht hW => ⟨⟨0, (), rfl, rfl, ⟨by rw [ht]; exact hP9, va_K.moved hW.alike hK, hD9⟩⟩, hS.F ht⟩) hS.2.2 dX11_isPair_26
  · refine lv_aload_n hx hb dX11_isPair_5 rfl (lv_at hl 0 rfl) ?_
    refine lv_iload_n hx hb dX11_isPair_6 rfl (lv_at hl 1 rfl) ?_
    have hPc := hP.sub (ws' := [(h0, .inr (11, [.ref z0, .ref z23, .ref z25, .ref z32, .ref z36, .ref z40, .ref z43, .ref z49])), (z0, .inr (8, [.ref z1, .ref z51, .ref z52, .ref z2, .ref z3, .int 0, .int 0, .int 9, .int 0, .int 0]))]) [0, 1] rfl
    have hDc := hD.sub (ws' := [(h0, .inr (11, [.ref z0, .ref z23, .ref z25, .ref z32, .ref z36, .ref z40, .ref z43, .ref z49])), (z0, .inr (8, [.ref z1, .ref z51, .ref z52, .ref z2, .ref z3, .int 0, .int 0, .int 9, .int 0, .int 0]))]) [0, 1] (by decide) rfl
    have hFc := va_free (wc := [(h0, .inr (11, [.ref z0, .ref z23, .ref z25, .ref z32, .ref z36, .ref z40, .ref z43, .ref z49])), (z0, .inr (8, [.ref z1, .ref z51, .ref z52, .ref z2, .ref z3, .int 0, .int 0, .int 9, .int 0, .int 0]))]) hD hS hA [0, 1] rfl
    refine va_calli (va_runV (As := [.int f]) (rest := []) ⟨hx, hb, hml, hown, hts⟩ (kX11_hasFigure l D G h0 f z0 z23 z25 z32 z36 z40 z43 z49 z1 z51 z52 z2 z3 s.heap.size) (cwV 1 hts gX11_isPair_X11_hasFigure rfl rfl rfl (by decide +kernel) ⟨Nat.le_of_ble_eq_true rfl, Nat.le_of_ble_eq_true rfl⟩) ⟨wB_blind, va_recv hK hPc (ci := 11) (q0 := 0) rfl rfl, wB_pre hPc hK hDc hN⟩ rfl rfl hl.1 rfl (lv_room (Nat.le_of_ble_eq_true rfl)) dX11_isPair_7 ⟨Nat.le_of_ble_eq_true rfl, Nat.le_of_ble_eq_true rfl⟩) hS (fun q _ h => hFc q h) hFc (fun r2 u t H1 locs ht hvm hr2 hB hz1 hk1 hS => ?_)
    obtain ⟨hP1, hK1, hD1⟩ := hB
    rw [ht] at hP1
    obtain ⟨hP, hD⟩ := va_join (wr := []) (w1 := [(h0, .inr (11, [.ref z0, .ref z23, .ref z25, .ref z32, .ref z36, .ref z40, .ref z43, .ref z49])), (z0, .inr (8, [.ref z1, .ref z51, .ref z52, .ref z2, .ref z3, .int 0, .int 0, .int 9, .int 0, .int 0]))]) hP hD [0, 1] [] rfl rfl (by decide) (by decide) hk1 hFc hP1 hD1
    clear hPc hDc
    generalize H1 = H at hP hS ⊢
    have hP : va_P D vwCl [(h0, .inr (11, [.ref z0, .ref z23, .ref z25, .ref z32, .ref z36, .ref z40, .ref z43, .ref z49])), (z0, .inr (8, [.ref z1, .ref z51, .ref z52, .ref z2, .ref z3, .int 0, .int 0, .int 9, .int 0, .int 0]))] H := hP
    have hD : va_D A [(h0, .inr (11, [.ref z0, .ref z23, .ref z25, .ref z32, .ref z36, .ref z40, .ref z43, .ref z49])), (z0, .inr (8, [.ref z1, .ref z51, .ref z52, .ref z2, .ref z3, .int 0, .int 0, .int 9, .int 0, .int 0]))] := hD
    subst hr2
    refine lv_if_eq (tgt := 25) hx hb dX11_isPair_10 (by decide) (fun _ => ?_) (fun h9 => absurd h9 (by decide))
    refine lv_iconst (v := 0) hx hb dX11_isPair_25 (by decide) ?_
    have hP9 := hP.sub (ws' := [(h0, .inr (11, [.ref z0, .ref z23, .ref z25, .ref z32, .ref z36, .ref z40, .ref z43, .ref z49])), (z0, .inr (8, [.ref z1, .ref z51, .ref z52, .ref z2, .ref z3, .int 0, .int 0, .int 9, .int 0, .int 0]))]) [0, 1] rfl
    have hD9 := hD.sub (ws' := [(h0, .inr (11, [.ref z0, .ref z23, .ref z25, .ref z32, .ref z36, .ref z40, .ref z43, .ref z49])), (z0, .inr (8, [.ref z1, .ref z51, .ref z52, .ref z2, .ref z3, .int 0, .int 0, .int 9, .int 0, .int 0]))]) [0, 1] (by decide) rfl
    exact W.zret (v := 0) hx hb hr rfl (fun t ht hW => ⟨⟨0, (), rfl, rfl, ⟨by rw [ht]; exact hP9, va_K.moved hW.alike hK, hD9⟩⟩, hS.F ht⟩) hS.2.2 dX11_isPair_26

set_option maxRecDepth 20000 in
theorem ggX11_limb_X11_hasLimb : GoodIn wsX11_limb wsX11_hasLimb := goodIn_r _ [9, 1, 2, 3, 10, 11, 12, 8, 13, 14, 15, 16, 17, 66, 67, 68, 69, 70, 71, 72, 73, 74, 75, 76, 77, 78, 79, 80, 81, 82, 83, 84, 85, 86, 87, 88, 89, 90, 91, 92, 93, 94, 95, 96, 97, 98, 99] (by decide +kernel) (by decide +kernel)
set_option maxRecDepth 20000 in
theorem gX11_limb_X11_hasLimb : GoodIn wsX11_limb (wsV RX11 83 RX11 yX11_hasLimb wsX11_hasLimb) := goodIn_app (goodIn_of _ (by decide +kernel)) ggX11_limb_X11_hasLimb
theorem dX11_limb_0 : decode cX11_limb 0 = .ok (.aload_n 0, 1) := by decide +kernel
theorem dX11_limb_1 : decode cX11_limb 1 = .ok (.iload_n 1, 1) := by decide +kernel
theorem dX11_limb_2 : decode cX11_limb 2 = .ok (.iload_n 2, 1) := by decide +kernel
theorem dX11_limb_3 : decode cX11_limb 3 = .ok (.invokevirtual 83, 3) := by decide +kernel
theorem dX11_limb_6 : decode cX11_limb 6 = .ok (.ifCond .eq 24, 3) := by decide +kernel
theorem dX11_limb_30 : decode cX11_limb 30 = .ok (.iconst (-1), 1) := by decide +kernel
theorem dX11_limb_31 : decode cX11_limb 31 = .ok (.ireturn, 1) := by decide +kernel
set_option maxHeartbeats 4000000 in
set_option maxRecDepth 100000 in
/-- X11_limb -/
theorem kX11_limb (l : Launch) (D : va_G) (G : tyG) (h0 : Nat) (x1 : Int32) (x2 : Int32) (x3 : Int32) (x4 : Int32) (x5 : Int32) (x6 : Int32) (z0 : Nat) (z23 : Nat) (z25 : Nat) (z32 : Nat) (z36 : Nat) (z40 : Nat) (z43 : Nat) (z49 : Nat) (z1 : Nat) (z51 : Nat) (z52 : Nat) (z2 : Nat) (z3 : Nat) (sz : Nat) : Met l yX11_limb wsX11_limb ({ frames := 3, cells := 0, slots := 0, locals := 65 }) (va_Pc [.ref h0, .int x1, .int x2, .int x3, .int x4, .int x5, .int x6] (wB D G sz [(h0, .inr (11, [.ref z0, .ref z23, .ref z25, .ref z32, .ref z36, .ref z40, .ref z43, .ref z49])), (z0, .inr (8, [.ref z1, .ref z51, .ref z52, .ref z2, .ref z3, .int 0, .int 0, .int 9, .int 0, .int 0]))])) (va_Qi (fun (r : Int32) (_ : Unit) => r = (-1)) (fun _ _ => True) (va_A [(h0, .inr (11, [.ref z0, .ref z23, .ref z25, .ref z32, .ref z36, .ref z40, .ref z43, .ref z49])), (z0, .inr (8, [.ref z1, .ref z51, .ref z52, .ref z2, .ref z3, .int 0, .int 0, .int 9, .int 0, .int 0]))] sz)) 0 0 (va_A [(h0, .inr (11, [.ref z0, .ref z23, .ref z25, .ref z32, .ref z36, .ref z40, .ref z43, .ref z49])), (z0, .inr (8, [.ref z1, .ref z51, .ref z52, .ref z2, .ref z3, .int 0, .int 0, .int 9, .int 0, .int 0]))] sz) := by
  refine Met.ofW (cc := cX11_limb) (maxL := 8) (ret := (some .int)) (by decide) rfl ?_
  intro p e s m args below meth c s₁ B hml hv
  obtain ⟨rfl, hsz, hP, hK, hD0, hN⟩ := hv
  have hx := B.exec
  have hb := B.bytes
  have hr := B.returns
  have hts := atoms_spec (ws := wsX11_limb) B.pre
  have hown : s.vm.findClass RX11 = some m.cls := findClass_of_methodNamed B.named
  have hlocks := B.notSynchronized
  subst hsz
  have hD := hD0.self (sz := s.heap.size)
  generalize hAe : va_A [(h0, .inr (11, [.ref z0, .ref z23, .ref z25, .ref z32, .ref z36, .ref z40, .ref z43, .ref z49])), (z0, .inr (8, [.ref z1, .ref z51, .ref z52, .ref z2, .ref z3, .int 0, .int 0, .int 9, .int 0, .int 0]))] s.heap.size = A at hD ⊢
  have hA : ∀ q : Nat, s.heap.size ≤ q → A q := fun q h => by rw [← hAe]; exact Or.inr h
  have hS : va_S A s.heap s.heap [] := va_S.rf
  have hP : va_P D vwCl [(h0, .inr (11, [.ref z0, .ref z23, .ref z25, .ref z32, .ref z36, .ref z40, .ref z43, .ref z49])), (z0, .inr (8, [.ref z1, .ref z51, .ref z52, .ref z2, .ref z3, .int 0, .int 0, .int 9, .int 0, .int 0]))] s.heap := hP
  have hl := lv_entry ([.ref h0, .int x1, .int x2, .int x3, .int x4, .int x5, .int x6]) (n := 8) (Nat.le_of_ble_eq_true rfl)
  rw [lg_entry_eq]
  generalize (lg_sl ([.ref h0, .int x1, .int x2, .int x3, .int x4, .int x5, .int x6]) ++ List.replicate (8 - (lg_sl ([.ref h0, .int x1, .int x2, .int x3, .int x4, .int x5, .int x6])).length) Slot.unset).toArray = ls at hl ⊢
  have hl : lv_has ls 8 [(0, .ref h0), (1, .int x1), (2, .int x2), (3, .int x3), (4, .int x4), (5, .int x5), (6, .int x6)] := hl
  refine lv_aload_n hx hb dX11_limb_0 rfl (lv_at hl 0 rfl) ?_
  refine lv_iload_n hx hb dX11_limb_1 rfl (lv_at hl 1 rfl) ?_
  refine lv_iload_n hx hb dX11_limb_2 rfl (lv_at hl 2 rfl) ?_
  have hPc := hP.sub (ws' := [(h0, .inr (11, [.ref z0, .ref z23, .ref z25, .ref z32, .ref z36, .ref z40, .ref z43, .ref z49])), (z0, .inr (8, [.ref z1, .ref z51, .ref z52, .ref z2, .ref z3, .int 0, .int 0, .int 9, .int 0, .int 0]))]) [0, 1] rfl
  have hDc := hD.sub (ws' := [(h0, .inr (11, [.ref z0, .ref z23, .ref z25, .ref z32, .ref z36, .ref z40, .ref z43, .ref z49])), (z0, .inr (8, [.ref z1, .ref z51, .ref z52, .ref z2, .ref z3, .int 0, .int 0, .int 9, .int 0, .int 0]))]) [0, 1] (by decide) rfl
  have hFc := va_free (wc := [(h0, .inr (11, [.ref z0, .ref z23, .ref z25, .ref z32, .ref z36, .ref z40, .ref z43, .ref z49])), (z0, .inr (8, [.ref z1, .ref z51, .ref z52, .ref z2, .ref z3, .int 0, .int 0, .int 9, .int 0, .int 0]))]) hD hS hA [0, 1] rfl
  refine va_calli (va_runV (As := [.int x1, .int x2]) (rest := []) ⟨hx, hb, hml, hown, hts⟩ (kX11_hasLimb l D G h0 x1 x2 z0 z23 z25 z32 z36 z40 z43 z49 z1 z51 z52 z2 z3 s.heap.size) (cwV 2 hts gX11_limb_X11_hasLimb rfl rfl rfl (by decide +kernel) ⟨Nat.le_of_ble_eq_true rfl, Nat.le_of_ble_eq_true rfl⟩) ⟨wB_blind, va_recv hK hPc (ci := 11) (q0 := 0) rfl rfl, wB_pre hPc hK hDc hN⟩ rfl rfl hl.1 rfl (lv_room (Nat.le_of_ble_eq_true rfl)) dX11_limb_3 ⟨Nat.le_of_ble_eq_true rfl, Nat.le_of_ble_eq_true rfl⟩) hS (fun q _ h => hFc q h) hFc (fun r1 u t H1 locs ht hvm hr1 hB hz1 hk1 hS => ?_)
  obtain ⟨hP1, hK1, hD1⟩ := hB
  rw [ht] at hP1
  obtain ⟨hP, hD⟩ := va_join (wr := []) (w1 := [(h0, .inr (11, [.ref z0, .ref z23, .ref z25, .ref z32, .ref z36, .ref z40, .ref z43, .ref z49])), (z0, .inr (8, [.ref z1, .ref z51, .ref z52, .ref z2, .ref z3, .int 0, .int 0, .int 9, .int 0, .int 0]))]) hP hD [0, 1] [] rfl rfl (by decide) (by decide) hk1 hFc hP1 hD1
  clear hPc hDc
  generalize H1 = H at hP hS ⊢
  have hP : va_P D vwCl [(h0, .inr (11, [.ref z0, .ref z23, .ref z25, .ref z32, .ref z36, .ref z40, .ref z43, .ref z49])), (z0, .inr (8, [.ref z1, .ref z51, .ref z52, .ref z2, .ref z3, .int 0, .int 0, .int 9, .int 0, .int 0]))] H := hP
  have hD : va_D A [(h0, .inr (11, [.ref z0, .ref z23, .ref z25, .ref z32, .ref z36, .ref z40, .ref z43, .ref z49])), (z0, .inr (8, [.ref z1, .ref z51, .ref z52, .ref z2, .ref z3, .int 0, .int 0, .int 9, .int 0, .int 0]))] := hD
  subst hr1
  refine lv_if_eq (tgt := 30) hx hb dX11_limb_6 (by decide) (fun _ => ?_) (fun h9 => absurd h9 (by decide))
  refine lv_iconst (v := (-1)) hx hb dX11_limb_30 (by decide) ?_
  exact W.iret (v := (-1)) hx hb hr (fun t ht hW => ⟨⟨(-1), (), rfl, rfl, trivial⟩, hS.F ht⟩) hS.2.2 dX11_limb_31

set_option maxRecDepth 20000 in
theorem ggX11_string_X11_hasLimb : GoodIn wsX11_string wsX11_hasLimb := goodIn_r _ [9, 1, 2, 10, 11, 12, 13, 8, 14, 15, 16, 17, 18, 28, 29, 30, 31, 32, 33, 34, 35, 36, 37, 38, 39, 40, 41, 42, 43, 44, 45, 46, 47, 48, 49, 50, 51, 52, 53, 54, 55, 56, 57, 58, 59, 60, 61] (by decide +kernel) (by decide +kernel)
set_option maxRecDepth 20000 in
theorem gX11_string_X11_hasLimb : GoodIn wsX11_string (wsV RX11 83 RX11 yX11_hasLimb wsX11_hasLimb) := goodIn_app (goodIn_of _ (by decide +kernel)) ggX11_string_X11_hasLimb
theorem dX11_string_0 : decode cX11_string 0 = .ok (.aload_n 0, 1) := by decide +kernel
theorem dX11_string_1 : decode cX11_string 1 = .ok (.iload_n 1, 1) := by decide +kernel
theorem dX11_string_2 : decode cX11_string 2 = .ok (.iload_n 2, 1) := by decide +kernel
theorem dX11_string_3 : decode cX11_string 3 = .ok (.invokevirtual 83, 3) := by decide +kernel
theorem dX11_string_6 : decode cX11_string 6 = .ok (.ifCond .eq 25, 3) := by decide +kernel
theorem dX11_string_31 : decode cX11_string 31 = .ok (.iconst (-1), 1) := by decide +kernel
theorem dX11_string_32 : decode cX11_string 32 = .ok (.ireturn, 1) := by decide +kernel
set_option maxHeartbeats 4000000 in
set_option maxRecDepth 100000 in
/-- X11_string -/
theorem kX11_string (l : Launch) (D : va_G) (G : tyG) (h0 : Nat) (x1 : Int32) (x2 : Int32) (x3 : Int32) (x4 : Int32) (z0 : Nat) (z23 : Nat) (z25 : Nat) (z32 : Nat) (z36 : Nat) (z40 : Nat) (z43 : Nat) (z49 : Nat) (z1 : Nat) (z51 : Nat) (z52 : Nat) (z2 : Nat) (z3 : Nat) (sz : Nat) : Met l yX11_string wsX11_string ({ frames := 3, cells := 0, slots := 0, locals := 65 }) (va_Pc [.ref h0, .int x1, .int x2, .int x3, .int x4] (wB D G sz [(h0, .inr (11, [.ref z0, .ref z23, .ref z25, .ref z32, .ref z36, .ref z40, .ref z43, .ref z49])), (z0, .inr (8, [.ref z1, .ref z51, .ref z52, .ref z2, .ref z3, .int 0, .int 0, .int 9, .int 0, .int 0]))])) (va_Qi (fun (r : Int32) (_ : Unit) => r = (-1)) (fun _ _ => True) (va_A [(h0, .inr (11, [.ref z0, .ref z23, .ref z25, .ref z32, .ref z36, .ref z40, .ref z43, .ref z49])), (z0, .inr (8, [.ref z1, .ref z51, .ref z52, .ref z2, .ref z3, .int 0, .int 0, .int 9, .int 0, .int 0]))] sz)) 0 0 (va_A [(h0, .inr (11, [.ref z0, .ref z23, .ref z25, .ref z32, .ref z36, .ref z40, .ref z43, .ref z49])), (z0, .inr (8, [.ref z1, .ref z51, .ref z52, .ref z2, .ref z3, .int 0, .int 0, .int 9, .int 0, .int 0]))] sz) := by
  refine Met.ofW (cc := cX11_string) (maxL := 6) (ret := (some .int)) (by decide) rfl ?_
  intro p e s m args below meth c s₁ B hml hv
  obtain ⟨rfl, hsz, hP, hK, hD0, hN⟩ := hv
  have hx := B.exec
  have hb := B.bytes
  have hr := B.returns
  have hts := atoms_spec (ws := wsX11_string) B.pre
  have hown : s.vm.findClass RX11 = some m.cls := findClass_of_methodNamed B.named
  have hlocks := B.notSynchronized
  subst hsz
  have hD := hD0.self (sz := s.heap.size)
  generalize hAe : va_A [(h0, .inr (11, [.ref z0, .ref z23, .ref z25, .ref z32, .ref z36, .ref z40, .ref z43, .ref z49])), (z0, .inr (8, [.ref z1, .ref z51, .ref z52, .ref z2, .ref z3, .int 0, .int 0, .int 9, .int 0, .int 0]))] s.heap.size = A at hD ⊢
  have hA : ∀ q : Nat, s.heap.size ≤ q → A q := fun q h => by rw [← hAe]; exact Or.inr h
  have hS : va_S A s.heap s.heap [] := va_S.rf
  have hP : va_P D vwCl [(h0, .inr (11, [.ref z0, .ref z23, .ref z25, .ref z32, .ref z36, .ref z40, .ref z43, .ref z49])), (z0, .inr (8, [.ref z1, .ref z51, .ref z52, .ref z2, .ref z3, .int 0, .int 0, .int 9, .int 0, .int 0]))] s.heap := hP
  have hl := lv_entry ([.ref h0, .int x1, .int x2, .int x3, .int x4]) (n := 6) (Nat.le_of_ble_eq_true rfl)
  rw [lg_entry_eq]
  generalize (lg_sl ([.ref h0, .int x1, .int x2, .int x3, .int x4]) ++ List.replicate (6 - (lg_sl ([.ref h0, .int x1, .int x2, .int x3, .int x4])).length) Slot.unset).toArray = ls at hl ⊢
  have hl : lv_has ls 6 [(0, .ref h0), (1, .int x1), (2, .int x2), (3, .int x3), (4, .int x4)] := hl
  refine lv_aload_n hx hb dX11_string_0 rfl (lv_at hl 0 rfl) ?_
  refine lv_iload_n hx hb dX11_string_1 rfl (lv_at hl 1 rfl) ?_
  refine lv_iload_n hx hb dX11_string_2 rfl (lv_at hl 2 rfl) ?_
  have hPc := hP.sub (ws' := [(h0, .inr (11, [.ref z0, .ref z23, .ref z25, .ref z32, .ref z36, .ref z40, .ref z43, .ref z49])), (z0, .inr (8, [.ref z1, .ref z51, .ref z52, .ref z2, .ref z3, .int 0, .int 0, .int 9, .int 0, .int 0]))]) [0, 1] rfl
  have hDc := hD.sub (ws' := [(h0, .inr (11, [.ref z0, .ref z23, .ref z25, .ref z32, .ref z36, .ref z40, .ref z43, .ref z49])), (z0, .inr (8, [.ref z1, .ref z51, .ref z52, .ref z2, .ref z3, .int 0, .int 0, .int 9, .int 0, .int 0]))]) [0, 1] (by decide) rfl
  have hFc := va_free (wc := [(h0, .inr (11, [.ref z0, .ref z23, .ref z25, .ref z32, .ref z36, .ref z40, .ref z43, .ref z49])), (z0, .inr (8, [.ref z1, .ref z51, .ref z52, .ref z2, .ref z3, .int 0, .int 0, .int 9, .int 0, .int 0]))]) hD hS hA [0, 1] rfl
  refine va_calli (va_runV (As := [.int x1, .int x2]) (rest := []) ⟨hx, hb, hml, hown, hts⟩ (kX11_hasLimb l D G h0 x1 x2 z0 z23 z25 z32 z36 z40 z43 z49 z1 z51 z52 z2 z3 s.heap.size) (cwV 2 hts gX11_string_X11_hasLimb rfl rfl rfl (by decide +kernel) ⟨Nat.le_of_ble_eq_true rfl, Nat.le_of_ble_eq_true rfl⟩) ⟨wB_blind, va_recv hK hPc (ci := 11) (q0 := 0) rfl rfl, wB_pre hPc hK hDc hN⟩ rfl rfl hl.1 rfl (lv_room (Nat.le_of_ble_eq_true rfl)) dX11_string_3 ⟨Nat.le_of_ble_eq_true rfl, Nat.le_of_ble_eq_true rfl⟩) hS (fun q _ h => hFc q h) hFc (fun r1 u t H1 locs ht hvm hr1 hB hz1 hk1 hS => ?_)
  obtain ⟨hP1, hK1, hD1⟩ := hB
  rw [ht] at hP1
  obtain ⟨hP, hD⟩ := va_join (wr := []) (w1 := [(h0, .inr (11, [.ref z0, .ref z23, .ref z25, .ref z32, .ref z36, .ref z40, .ref z43, .ref z49])), (z0, .inr (8, [.ref z1, .ref z51, .ref z52, .ref z2, .ref z3, .int 0, .int 0, .int 9, .int 0, .int 0]))]) hP hD [0, 1] [] rfl rfl (by decide) (by decide) hk1 hFc hP1 hD1
  clear hPc hDc
  generalize H1 = H at hP hS ⊢
  have hP : va_P D vwCl [(h0, .inr (11, [.ref z0, .ref z23, .ref z25, .ref z32, .ref z36, .ref z40, .ref z43, .ref z49])), (z0, .inr (8, [.ref z1, .ref z51, .ref z52, .ref z2, .ref z3, .int 0, .int 0, .int 9, .int 0, .int 0]))] H := hP
  have hD : va_D A [(h0, .inr (11, [.ref z0, .ref z23, .ref z25, .ref z32, .ref z36, .ref z40, .ref z43, .ref z49])), (z0, .inr (8, [.ref z1, .ref z51, .ref z52, .ref z2, .ref z3, .int 0, .int 0, .int 9, .int 0, .int 0]))] := hD
  subst hr1
  refine lv_if_eq (tgt := 31) hx hb dX11_string_6 (by decide) (fun _ => ?_) (fun h9 => absurd h9 (by decide))
  refine lv_iconst (v := (-1)) hx hb dX11_string_31 (by decide) ?_
  exact W.iret (v := (-1)) hx hb hr (fun t ht hW => ⟨⟨(-1), (), rfl, rfl, trivial⟩, hS.F ht⟩) hS.2.2 dX11_string_32

set_option maxRecDepth 20000 in
theorem ggX11_place_X11_hasFigure : GoodIn wsX11_place wsX11_hasFigure := goodIn_r _ [9, 3, 10, 11, 12, 8, 13, 38, 39, 40, 41, 42, 43, 44, 45, 46, 47, 48, 49, 50, 51, 52, 53, 54, 55] (by decide +kernel) (by decide +kernel)
set_option maxRecDepth 20000 in
theorem gX11_place_X11_hasFigure : GoodIn wsX11_place (wsV RX11 108 RX11 yX11_hasFigure wsX11_hasFigure) := goodIn_app (goodIn_of _ (by decide +kernel)) ggX11_place_X11_hasFigure
theorem dX11_place_0 : decode cX11_place 0 = .ok (.aload_n 0, 1) := by decide +kernel
theorem dX11_place_1 : decode cX11_place 1 = .ok (.iload_n 1, 1) := by decide +kernel
theorem dX11_place_2 : decode cX11_place 2 = .ok (.invokevirtual 108, 3) := by decide +kernel
theorem dX11_place_5 : decode cX11_place 5 = .ok (.ifCond .eq 25, 3) := by decide +kernel
theorem dX11_place_30 : decode cX11_place 30 = .ok (.iconst 0, 1) := by decide +kernel
theorem dX11_place_31 : decode cX11_place 31 = .ok (.ireturn, 1) := by decide +kernel
set_option maxHeartbeats 4000000 in
set_option maxRecDepth 100000 in
/-- X11_place -/
theorem kX11_place (l : Launch) (D : va_G) (G : tyG) (h0 : Nat) (x1 : Int32) (x2 : Int32) (x3 : Int32) (z0 : Nat) (z23 : Nat) (z25 : Nat) (z32 : Nat) (z36 : Nat) (z40 : Nat) (z43 : Nat) (z49 : Nat) (z1 : Nat) (z51 : Nat) (z52 : Nat) (z2 : Nat) (z3 : Nat) (sz : Nat) : Met l yX11_place wsX11_place ({ frames := 2, cells := 0, slots := 0, locals := 43 }) (va_Pc [.ref h0, .int x1, .int x2, .int x3] (wB D G sz [(h0, .inr (11, [.ref z0, .ref z23, .ref z25, .ref z32, .ref z36, .ref z40, .ref z43, .ref z49])), (z0, .inr (8, [.ref z1, .ref z51, .ref z52, .ref z2, .ref z3, .int 0, .int 0, .int 9, .int 0, .int 0]))])) (va_Qi (fun (r : Int32) (_ : Unit) => r = 0) (fun _ _ => True) (va_A [(h0, .inr (11, [.ref z0, .ref z23, .ref z25, .ref z32, .ref z36, .ref z40, .ref z43, .ref z49])), (z0, .inr (8, [.ref z1, .ref z51, .ref z52, .ref z2, .ref z3, .int 0, .int 0, .int 9, .int 0, .int 0]))] sz)) 0 0 (va_A [(h0, .inr (11, [.ref z0, .ref z23, .ref z25, .ref z32, .ref z36, .ref z40, .ref z43, .ref z49])), (z0, .inr (8, [.ref z1, .ref z51, .ref z52, .ref z2, .ref z3, .int 0, .int 0, .int 9, .int 0, .int 0]))] sz) := by
  refine Met.ofW (cc := cX11_place) (maxL := 4) (ret := (some .boolean)) (by decide) rfl ?_
  intro p e s m args below meth c s₁ B hml hv
  obtain ⟨rfl, hsz, hP, hK, hD0, hN⟩ := hv
  have hx := B.exec
  have hb := B.bytes
  have hr := B.returns
  have hts := atoms_spec (ws := wsX11_place) B.pre
  have hown : s.vm.findClass RX11 = some m.cls := findClass_of_methodNamed B.named
  have hlocks := B.notSynchronized
  subst hsz
  have hD := hD0.self (sz := s.heap.size)
  generalize hAe : va_A [(h0, .inr (11, [.ref z0, .ref z23, .ref z25, .ref z32, .ref z36, .ref z40, .ref z43, .ref z49])), (z0, .inr (8, [.ref z1, .ref z51, .ref z52, .ref z2, .ref z3, .int 0, .int 0, .int 9, .int 0, .int 0]))] s.heap.size = A at hD ⊢
  have hA : ∀ q : Nat, s.heap.size ≤ q → A q := fun q h => by rw [← hAe]; exact Or.inr h
  have hS : va_S A s.heap s.heap [] := va_S.rf
  have hP : va_P D vwCl [(h0, .inr (11, [.ref z0, .ref z23, .ref z25, .ref z32, .ref z36, .ref z40, .ref z43, .ref z49])), (z0, .inr (8, [.ref z1, .ref z51, .ref z52, .ref z2, .ref z3, .int 0, .int 0, .int 9, .int 0, .int 0]))] s.heap := hP
  have hl := lv_entry ([.ref h0, .int x1, .int x2, .int x3]) (n := 4) (Nat.le_of_ble_eq_true rfl)
  rw [lg_entry_eq]
  generalize (lg_sl ([.ref h0, .int x1, .int x2, .int x3]) ++ List.replicate (4 - (lg_sl ([.ref h0, .int x1, .int x2, .int x3])).length) Slot.unset).toArray = ls at hl ⊢
  have hl : lv_has ls 4 [(0, .ref h0), (1, .int x1), (2, .int x2), (3, .int x3)] := hl
  refine lv_aload_n hx hb dX11_place_0 rfl (lv_at hl 0 rfl) ?_
  refine lv_iload_n hx hb dX11_place_1 rfl (lv_at hl 1 rfl) ?_
  have hPc := hP.sub (ws' := [(h0, .inr (11, [.ref z0, .ref z23, .ref z25, .ref z32, .ref z36, .ref z40, .ref z43, .ref z49])), (z0, .inr (8, [.ref z1, .ref z51, .ref z52, .ref z2, .ref z3, .int 0, .int 0, .int 9, .int 0, .int 0]))]) [0, 1] rfl
  have hDc := hD.sub (ws' := [(h0, .inr (11, [.ref z0, .ref z23, .ref z25, .ref z32, .ref z36, .ref z40, .ref z43, .ref z49])), (z0, .inr (8, [.ref z1, .ref z51, .ref z52, .ref z2, .ref z3, .int 0, .int 0, .int 9, .int 0, .int 0]))]) [0, 1] (by decide) rfl
  have hFc := va_free (wc := [(h0, .inr (11, [.ref z0, .ref z23, .ref z25, .ref z32, .ref z36, .ref z40, .ref z43, .ref z49])), (z0, .inr (8, [.ref z1, .ref z51, .ref z52, .ref z2, .ref z3, .int 0, .int 0, .int 9, .int 0, .int 0]))]) hD hS hA [0, 1] rfl
  refine va_calli (va_runV (As := [.int x1]) (rest := []) ⟨hx, hb, hml, hown, hts⟩ (kX11_hasFigure l D G h0 x1 z0 z23 z25 z32 z36 z40 z43 z49 z1 z51 z52 z2 z3 s.heap.size) (cwV 1 hts gX11_place_X11_hasFigure rfl rfl rfl (by decide +kernel) ⟨Nat.le_of_ble_eq_true rfl, Nat.le_of_ble_eq_true rfl⟩) ⟨wB_blind, va_recv hK hPc (ci := 11) (q0 := 0) rfl rfl, wB_pre hPc hK hDc hN⟩ rfl rfl hl.1 rfl (lv_room (Nat.le_of_ble_eq_true rfl)) dX11_place_2 ⟨Nat.le_of_ble_eq_true rfl, Nat.le_of_ble_eq_true rfl⟩) hS (fun q _ h => hFc q h) hFc (fun r1 u t H1 locs ht hvm hr1 hB hz1 hk1 hS => ?_)
  obtain ⟨hP1, hK1, hD1⟩ := hB
  rw [ht] at hP1
  obtain ⟨hP, hD⟩ := va_join (wr := []) (w1 := [(h0, .inr (11, [.ref z0, .ref z23, .ref z25, .ref z32, .ref z36, .ref z40, .ref z43, .ref z49])), (z0, .inr (8, [.ref z1, .ref z51, .ref z52, .ref z2, .ref z3, .int 0, .int 0, .int 9, .int 0, .int 0]))]) hP hD [0, 1] [] rfl rfl (by decide) (by decide) hk1 hFc hP1 hD1
  clear hPc hDc
  generalize H1 = H at hP hS ⊢
  have hP : va_P D vwCl [(h0, .inr (11, [.ref z0, .ref z23, .ref z25, .ref z32, .ref z36, .ref z40, .ref z43, .ref z49])), (z0, .inr (8, [.ref z1, .ref z51, .ref z52, .ref z2, .ref z3, .int 0, .int 0, .int 9, .int 0, .int 0]))] H := hP
  have hD : va_D A [(h0, .inr (11, [.ref z0, .ref z23, .ref z25, .ref z32, .ref z36, .ref z40, .ref z43, .ref z49])), (z0, .inr (8, [.ref z1, .ref z51, .ref z52, .ref z2, .ref z3, .int 0, .int 0, .int 9, .int 0, .int 0]))] := hD
  subst hr1
  refine lv_if_eq (tgt := 30) hx hb dX11_place_5 (by decide) (fun _ => ?_) (fun h9 => absurd h9 (by decide))
  refine lv_iconst (v := 0) hx hb dX11_place_30 (by decide) ?_
  exact W.zret (v := 0) hx hb hr rfl (fun t ht hW => ⟨⟨0, (), rfl, rfl, trivial⟩, hS.F ht⟩) hS.2.2 dX11_place_31

set_option maxRecDepth 20000 in
theorem ggX11_pull_X11_hasString : GoodIn wsX11_pull wsX11_hasString := goodIn_r _ [10, 1, 2, 3, 11, 12, 13, 14, 9, 15, 16, 17, 18, 19, 78, 79, 80, 81, 82, 83, 84, 85, 86, 87, 88, 89, 90, 91, 92, 93, 94, 95, 96, 97, 98, 99, 100, 101, 102, 103, 104, 105, 106, 107, 108, 109, 110, 111, 112, 113, 114, 115, 116, 117, 118, 119] (by decide +kernel) (by decide +kernel)
set_option maxRecDepth 20000 in
theorem gX11_pull_X11_hasString : GoodIn wsX11_pull (wsV RX11 118 RX11 yX11_hasString wsX11_hasString) := goodIn_app (goodIn_of _ (by decide +kernel)) ggX11_pull_X11_hasString
theorem dX11_pull_0 : decode cX11_pull 0 = .ok (.aload_n 0, 1) := by decide +kernel
theorem dX11_pull_1 : decode cX11_pull 1 = .ok (.iload_n 1, 1) := by decide +kernel
theorem dX11_pull_2 : decode cX11_pull 2 = .ok (.iload_n 2, 1) := by decide +kernel
theorem dX11_pull_3 : decode cX11_pull 3 = .ok (.invokevirtual 118, 3) := by decide +kernel
theorem dX11_pull_6 : decode cX11_pull 6 = .ok (.ifCond .eq 13, 3) := by decide +kernel
theorem dX11_pull_19 : decode cX11_pull 19 = .ok (.iconst 0, 1) := by decide +kernel
theorem dX11_pull_20 : decode cX11_pull 20 = .ok (.ireturn, 1) := by decide +kernel
set_option maxHeartbeats 4000000 in
set_option maxRecDepth 100000 in
/-- X11_pull -/
theorem kX11_pull (l : Launch) (D : va_G) (G : tyG) (h0 : Nat) (x1 : Int32) (x2 : Int32) (x3 : Int32) (z0 : Nat) (z23 : Nat) (z25 : Nat) (z32 : Nat) (z36 : Nat) (z40 : Nat) (z43 : Nat) (z49 : Nat) (z1 : Nat) (z51 : Nat) (z52 : Nat) (z2 : Nat) (z3 : Nat) (sz : Nat) : Met l yX11_pull wsX11_pull ({ frames := 3, cells := 0, slots := 0, locals := 65 }) (va_Pc [.ref h0, .int x1, .int x2, .int x3] (wB D G sz [(h0, .inr (11, [.ref z0, .ref z23, .ref z25, .ref z32, .ref z36, .ref z40, .ref z43, .ref z49])), (z0, .inr (8, [.ref z1, .ref z51, .ref z52, .ref z2, .ref z3, .int 0, .int 0, .int 9, .int 0, .int 0]))])) (va_Qi (fun (r : Int32) (_ : Unit) => r = 0) (fun _ _ => True) (va_A [(h0, .inr (11, [.ref z0, .ref z23, .ref z25, .ref z32, .ref z36, .ref z40, .ref z43, .ref z49])), (z0, .inr (8, [.ref z1, .ref z51, .ref z52, .ref z2, .ref z3, .int 0, .int 0, .int 9, .int 0, .int 0]))] sz)) 0 0 (va_A [(h0, .inr (11, [.ref z0, .ref z23, .ref z25, .ref z32, .ref z36, .ref z40, .ref z43, .ref z49])), (z0, .inr (8, [.ref z1, .ref z51, .ref z52, .ref z2, .ref z3, .int 0, .int 0, .int 9, .int 0, .int 0]))] sz) := by
  refine Met.ofW (cc := cX11_pull) (maxL := 5) (ret := (some .boolean)) (by decide) rfl ?_
  intro p e s m args below meth c s₁ B hml hv
  obtain ⟨rfl, hsz, hP, hK, hD0, hN⟩ := hv
  have hx := B.exec
  have hb := B.bytes
  have hr := B.returns
  have hts := atoms_spec (ws := wsX11_pull) B.pre
  have hown : s.vm.findClass RX11 = some m.cls := findClass_of_methodNamed B.named
  have hlocks := B.notSynchronized
  subst hsz
  have hD := hD0.self (sz := s.heap.size)
  generalize hAe : va_A [(h0, .inr (11, [.ref z0, .ref z23, .ref z25, .ref z32, .ref z36, .ref z40, .ref z43, .ref z49])), (z0, .inr (8, [.ref z1, .ref z51, .ref z52, .ref z2, .ref z3, .int 0, .int 0, .int 9, .int 0, .int 0]))] s.heap.size = A at hD ⊢
  have hA : ∀ q : Nat, s.heap.size ≤ q → A q := fun q h => by rw [← hAe]; exact Or.inr h
  have hS : va_S A s.heap s.heap [] := va_S.rf
  have hP : va_P D vwCl [(h0, .inr (11, [.ref z0, .ref z23, .ref z25, .ref z32, .ref z36, .ref z40, .ref z43, .ref z49])), (z0, .inr (8, [.ref z1, .ref z51, .ref z52, .ref z2, .ref z3, .int 0, .int 0, .int 9, .int 0, .int 0]))] s.heap := hP
  have hl := lv_entry ([.ref h0, .int x1, .int x2, .int x3]) (n := 5) (Nat.le_of_ble_eq_true rfl)
  rw [lg_entry_eq]
  generalize (lg_sl ([.ref h0, .int x1, .int x2, .int x3]) ++ List.replicate (5 - (lg_sl ([.ref h0, .int x1, .int x2, .int x3])).length) Slot.unset).toArray = ls at hl ⊢
  have hl : lv_has ls 5 [(0, .ref h0), (1, .int x1), (2, .int x2), (3, .int x3)] := hl
  refine lv_aload_n hx hb dX11_pull_0 rfl (lv_at hl 0 rfl) ?_
  refine lv_iload_n hx hb dX11_pull_1 rfl (lv_at hl 1 rfl) ?_
  refine lv_iload_n hx hb dX11_pull_2 rfl (lv_at hl 2 rfl) ?_
  have hPc := hP.sub (ws' := [(h0, .inr (11, [.ref z0, .ref z23, .ref z25, .ref z32, .ref z36, .ref z40, .ref z43, .ref z49])), (z0, .inr (8, [.ref z1, .ref z51, .ref z52, .ref z2, .ref z3, .int 0, .int 0, .int 9, .int 0, .int 0]))]) [0, 1] rfl
  have hDc := hD.sub (ws' := [(h0, .inr (11, [.ref z0, .ref z23, .ref z25, .ref z32, .ref z36, .ref z40, .ref z43, .ref z49])), (z0, .inr (8, [.ref z1, .ref z51, .ref z52, .ref z2, .ref z3, .int 0, .int 0, .int 9, .int 0, .int 0]))]) [0, 1] (by decide) rfl
  have hFc := va_free (wc := [(h0, .inr (11, [.ref z0, .ref z23, .ref z25, .ref z32, .ref z36, .ref z40, .ref z43, .ref z49])), (z0, .inr (8, [.ref z1, .ref z51, .ref z52, .ref z2, .ref z3, .int 0, .int 0, .int 9, .int 0, .int 0]))]) hD hS hA [0, 1] rfl
  refine va_calli (va_runV (As := [.int x1, .int x2]) (rest := []) ⟨hx, hb, hml, hown, hts⟩ (kX11_hasString l D G h0 x1 x2 z0 z23 z25 z32 z36 z40 z43 z49 z1 z51 z52 z2 z3 s.heap.size) (cwV 2 hts gX11_pull_X11_hasString rfl rfl rfl (by decide +kernel) ⟨Nat.le_of_ble_eq_true rfl, Nat.le_of_ble_eq_true rfl⟩) ⟨wB_blind, va_recv hK hPc (ci := 11) (q0 := 0) rfl rfl, wB_pre hPc hK hDc hN⟩ rfl rfl hl.1 rfl (lv_room (Nat.le_of_ble_eq_true rfl)) dX11_pull_3 ⟨Nat.le_of_ble_eq_true rfl, Nat.le_of_ble_eq_true rfl⟩) hS (fun q _ h => hFc q h) hFc (fun r1 u t H1 locs ht hvm hr1 hB hz1 hk1 hS => ?_)
  obtain ⟨hP1, hK1, hD1⟩ := hB
  rw [ht] at hP1
  obtain ⟨hP, hD⟩ := va_join (wr := []) (w1 := [(h0, .inr (11, [.ref z0, .ref z23, .ref z25, .ref z32, .ref z36, .ref z40, .ref z43, .ref z49])), (z0, .inr (8, [.ref z1, .ref z51, .ref z52, .ref z2, .ref z3, .int 0, .int 0, .int 9, .int 0, .int 0]))]) hP hD [0, 1] [] rfl rfl (by decide) (by decide) hk1 hFc hP1 hD1
  clear hPc hDc
  generalize H1 = H at hP hS ⊢
  have hP : va_P D vwCl [(h0, .inr (11, [.ref z0, .ref z23, .ref z25, .ref z32, .ref z36, .ref z40, .ref z43, .ref z49])), (z0, .inr (8, [.ref z1, .ref z51, .ref z52, .ref z2, .ref z3, .int 0, .int 0, .int 9, .int 0, .int 0]))] H := hP
  have hD : va_D A [(h0, .inr (11, [.ref z0, .ref z23, .ref z25, .ref z32, .ref z36, .ref z40, .ref z43, .ref z49])), (z0, .inr (8, [.ref z1, .ref z51, .ref z52, .ref z2, .ref z3, .int 0, .int 0, .int 9, .int 0, .int 0]))] := hD
  subst hr1
  refine lv_if_eq (tgt := 19) hx hb dX11_pull_6 (by decide) (fun _ => ?_) (fun h9 => absurd h9 (by decide))
  refine lv_iconst (v := 0) hx hb dX11_pull_19 (by decide) ?_
  exact W.zret (v := 0) hx hb hr rfl (fun t ht hW => ⟨⟨0, (), rfl, rfl, trivial⟩, hS.F ht⟩) hS.2.2 dX11_pull_20

set_option maxRecDepth 20000 in
theorem ggX11_mend_X11_hasString : GoodIn wsX11_mend wsX11_hasString := goodIn_r _ [11, 1, 2, 3, 12, 13, 14, 15, 10, 16, 17, 18, 19, 20, 67, 68, 69, 70, 71, 72, 73, 74, 75, 76, 77, 78, 79, 80, 81, 82, 83, 84, 85, 86, 87, 88, 89, 90, 91, 92, 93, 94, 95, 96, 97, 98, 99, 100, 101, 102, 103, 104, 105, 106, 107, 108] (by decide +kernel) (by decide +kernel)
set_option maxRecDepth 20000 in
theorem gX11_mend_X11_hasString : GoodIn wsX11_mend (wsV RX11 118 RX11 yX11_hasString wsX11_hasString) := goodIn_app (goodIn_of _ (by decide +kernel)) ggX11_mend_X11_hasString
theorem dX11_mend_0 : decode cX11_mend 0 = .ok (.aload_n 0, 1) := by decide +kernel
theorem dX11_mend_1 : decode cX11_mend 1 = .ok (.iload_n 1, 1) := by decide +kernel
theorem dX11_mend_2 : decode cX11_mend 2 = .ok (.iload_n 2, 1) := by decide +kernel
theorem dX11_mend_3 : decode cX11_mend 3 = .ok (.invokevirtual 118, 3) := by decide +kernel
theorem dX11_mend_6 : decode cX11_mend 6 = .ok (.ifCond .ne 5, 3) := by decide +kernel
theorem dX11_mend_9 : decode cX11_mend 9 = .ok (.iconst 0, 1) := by decide +kernel
theorem dX11_mend_10 : decode cX11_mend 10 = .ok (.ireturn, 1) := by decide +kernel
set_option maxHeartbeats 4000000 in
set_option maxRecDepth 100000 in
/-- X11_mend -/
theorem kX11_mend (l : Launch) (D : va_G) (G : tyG) (h0 : Nat) (x1 : Int32) (x2 : Int32) (x3 : Int32) (z0 : Nat) (z23 : Nat) (z25 : Nat) (z32 : Nat) (z36 : Nat) (z40 : Nat) (z43 : Nat) (z49 : Nat) (z1 : Nat) (z51 : Nat) (z52 : Nat) (z2 : Nat) (z3 : Nat) (sz : Nat) : Met l yX11_mend wsX11_mend ({ frames := 3, cells := 0, slots := 0, locals := 65 }) (va_Pc [.ref h0, .int x1, .int x2, .int x3] (wB D G sz [(h0, .inr (11, [.ref z0, .ref z23, .ref z25, .ref z32, .ref z36, .ref z40, .ref z43, .ref z49])), (z0, .inr (8, [.ref z1, .ref z51, .ref z52, .ref z2, .ref z3, .int 0, .int 0, .int 9, .int 0, .int 0]))])) (va_Qi (fun (r : Int32) (_ : Unit) => r = 0) (fun _ _ => True) (va_A [(h0, .inr (11, [.ref z0, .ref z23, .ref z25, .ref z32, .ref z36, .ref z40, .ref z43, .ref z49])), (z0, .inr (8, [.ref z1, .ref z51, .ref z52, .ref z2, .ref z3, .int 0, .int 0, .int 9, .int 0, .int 0]))] sz)) 0 0 (va_A [(h0, .inr (11, [.ref z0, .ref z23, .ref z25, .ref z32, .ref z36, .ref z40, .ref z43, .ref z49])), (z0, .inr (8, [.ref z1, .ref z51, .ref z52, .ref z2, .ref z3, .int 0, .int 0, .int 9, .int 0, .int 0]))] sz) := by
  refine Met.ofW (cc := cX11_mend) (maxL := 5) (ret := (some .boolean)) (by decide) rfl ?_
  intro p e s m args below meth c s₁ B hml hv
  obtain ⟨rfl, hsz, hP, hK, hD0, hN⟩ := hv
  have hx := B.exec
  have hb := B.bytes
  have hr := B.returns
  have hts := atoms_spec (ws := wsX11_mend) B.pre
  have hown : s.vm.findClass RX11 = some m.cls := findClass_of_methodNamed B.named
  have hlocks := B.notSynchronized
  subst hsz
  have hD := hD0.self (sz := s.heap.size)
  generalize hAe : va_A [(h0, .inr (11, [.ref z0, .ref z23, .ref z25, .ref z32, .ref z36, .ref z40, .ref z43, .ref z49])), (z0, .inr (8, [.ref z1, .ref z51, .ref z52, .ref z2, .ref z3, .int 0, .int 0, .int 9, .int 0, .int 0]))] s.heap.size = A at hD ⊢
  have hA : ∀ q : Nat, s.heap.size ≤ q → A q := fun q h => by rw [← hAe]; exact Or.inr h
  have hS : va_S A s.heap s.heap [] := va_S.rf
  have hP : va_P D vwCl [(h0, .inr (11, [.ref z0, .ref z23, .ref z25, .ref z32, .ref z36, .ref z40, .ref z43, .ref z49])), (z0, .inr (8, [.ref z1, .ref z51, .ref z52, .ref z2, .ref z3, .int 0, .int 0, .int 9, .int 0, .int 0]))] s.heap := hP
  have hl := lv_entry ([.ref h0, .int x1, .int x2, .int x3]) (n := 5) (Nat.le_of_ble_eq_true rfl)
  rw [lg_entry_eq]
  generalize (lg_sl ([.ref h0, .int x1, .int x2, .int x3]) ++ List.replicate (5 - (lg_sl ([.ref h0, .int x1, .int x2, .int x3])).length) Slot.unset).toArray = ls at hl ⊢
  have hl : lv_has ls 5 [(0, .ref h0), (1, .int x1), (2, .int x2), (3, .int x3)] := hl
  refine lv_aload_n hx hb dX11_mend_0 rfl (lv_at hl 0 rfl) ?_
  refine lv_iload_n hx hb dX11_mend_1 rfl (lv_at hl 1 rfl) ?_
  refine lv_iload_n hx hb dX11_mend_2 rfl (lv_at hl 2 rfl) ?_
  have hPc := hP.sub (ws' := [(h0, .inr (11, [.ref z0, .ref z23, .ref z25, .ref z32, .ref z36, .ref z40, .ref z43, .ref z49])), (z0, .inr (8, [.ref z1, .ref z51, .ref z52, .ref z2, .ref z3, .int 0, .int 0, .int 9, .int 0, .int 0]))]) [0, 1] rfl
  have hDc := hD.sub (ws' := [(h0, .inr (11, [.ref z0, .ref z23, .ref z25, .ref z32, .ref z36, .ref z40, .ref z43, .ref z49])), (z0, .inr (8, [.ref z1, .ref z51, .ref z52, .ref z2, .ref z3, .int 0, .int 0, .int 9, .int 0, .int 0]))]) [0, 1] (by decide) rfl
  have hFc := va_free (wc := [(h0, .inr (11, [.ref z0, .ref z23, .ref z25, .ref z32, .ref z36, .ref z40, .ref z43, .ref z49])), (z0, .inr (8, [.ref z1, .ref z51, .ref z52, .ref z2, .ref z3, .int 0, .int 0, .int 9, .int 0, .int 0]))]) hD hS hA [0, 1] rfl
  refine va_calli (va_runV (As := [.int x1, .int x2]) (rest := []) ⟨hx, hb, hml, hown, hts⟩ (kX11_hasString l D G h0 x1 x2 z0 z23 z25 z32 z36 z40 z43 z49 z1 z51 z52 z2 z3 s.heap.size) (cwV 2 hts gX11_mend_X11_hasString rfl rfl rfl (by decide +kernel) ⟨Nat.le_of_ble_eq_true rfl, Nat.le_of_ble_eq_true rfl⟩) ⟨wB_blind, va_recv hK hPc (ci := 11) (q0 := 0) rfl rfl, wB_pre hPc hK hDc hN⟩ rfl rfl hl.1 rfl (lv_room (Nat.le_of_ble_eq_true rfl)) dX11_mend_3 ⟨Nat.le_of_ble_eq_true rfl, Nat.le_of_ble_eq_true rfl⟩) hS (fun q _ h => hFc q h) hFc (fun r1 u t H1 locs ht hvm hr1 hB hz1 hk1 hS => ?_)
  obtain ⟨hP1, hK1, hD1⟩ := hB
  rw [ht] at hP1
  obtain ⟨hP, hD⟩ := va_join (wr := []) (w1 := [(h0, .inr (11, [.ref z0, .ref z23, .ref z25, .ref z32, .ref z36, .ref z40, .ref z43, .ref z49])), (z0, .inr (8, [.ref z1, .ref z51, .ref z52, .ref z2, .ref z3, .int 0, .int 0, .int 9, .int 0, .int 0]))]) hP hD [0, 1] [] rfl rfl (by decide) (by decide) hk1 hFc hP1 hD1
  clear hPc hDc
  generalize H1 = H at hP hS ⊢
  have hP : va_P D vwCl [(h0, .inr (11, [.ref z0, .ref z23, .ref z25, .ref z32, .ref z36, .ref z40, .ref z43, .ref z49])), (z0, .inr (8, [.ref z1, .ref z51, .ref z52, .ref z2, .ref z3, .int 0, .int 0, .int 9, .int 0, .int 0]))] H := hP
  have hD : va_D A [(h0, .inr (11, [.ref z0, .ref z23, .ref z25, .ref z32, .ref z36, .ref z40, .ref z43, .ref z49])), (z0, .inr (8, [.ref z1, .ref z51, .ref z52, .ref z2, .ref z3, .int 0, .int 0, .int 9, .int 0, .int 0]))] := hD
  subst hr1
  refine lv_if_ne (tgt := 11) hx hb dX11_mend_6 (by decide) (fun h9 => absurd h9 (by decide)) (fun _ => ?_)
  refine lv_iconst (v := 0) hx hb dX11_mend_9 (by decide) ?_
  exact W.zret (v := 0) hx hb hr rfl (fun t ht hW => ⟨⟨0, (), rfl, rfl, trivial⟩, hS.F ht⟩) hS.2.2 dX11_mend_10

set_option maxRecDepth 20000 in
theorem ggX11_pulled_X11_hasString : GoodIn wsX11_pulled wsX11_hasString := goodIn_r _ [13, 1, 2, 3, 14, 15, 16, 17, 12, 18, 19, 20, 21, 22, 23, 24, 25, 26, 27, 28, 29, 30, 31, 32, 33, 34, 35, 36, 37, 38, 39, 40, 41, 42, 43, 44, 45, 46, 47, 48, 49, 50, 51, 52, 53, 54, 55, 56, 57, 58, 59, 60, 61, 62, 63, 64] (by decide +kernel) (by decide +kernel)
set_option maxRecDepth 20000 in
theorem gX11_pulled_X11_hasString : GoodIn wsX11_pulled (wsV RX11 118 RX11 yX11_hasString wsX11_hasString) := goodIn_app (goodIn_of _ (by decide +kernel)) ggX11_pulled_X11_hasString
theorem dX11_pulled_0 : decode cX11_pulled 0 = .ok (.aload_n 0, 1) := by decide +kernel
theorem dX11_pulled_1 : decode cX11_pulled 1 = .ok (.iload_n 1, 1) := by decide +kernel
theorem dX11_pulled_2 : decode cX11_pulled 2 = .ok (.iload_n 2, 1) := by decide +kernel
theorem dX11_pulled_3 : decode cX11_pulled 3 = .ok (.invokevirtual 118, 3) := by decide +kernel
theorem dX11_pulled_6 : decode cX11_pulled 6 = .ok (.ifCond .ne 5, 3) := by decide +kernel
theorem dX11_pulled_9 : decode cX11_pulled 9 = .ok (.iconst (-1), 1) := by decide +kernel
theorem dX11_pulled_10 : decode cX11_pulled 10 = .ok (.ireturn, 1) := by decide +kernel
set_option maxHeartbeats 4000000 in
set_option maxRecDepth 100000 in
/-- X11_pulled -/
theorem kX11_pulled (l : Launch) (D : va_G) (G : tyG) (h0 : Nat) (x1 : Int32) (x2 : Int32) (x3 : Int32) (z0 : Nat) (z23 : Nat) (z25 : Nat) (z32 : Nat) (z36 : Nat) (z40 : Nat) (z43 : Nat) (z49 : Nat) (z1 : Nat) (z51 : Nat) (z52 : Nat) (z2 : Nat) (z3 : Nat) (sz : Nat) : Met l yX11_pulled wsX11_pulled ({ frames := 3, cells := 0, slots := 0, locals := 65 }) (va_Pc [.ref h0, .int x1, .int x2, .int x3] (wB D G sz [(h0, .inr (11, [.ref z0, .ref z23, .ref z25, .ref z32, .ref z36, .ref z40, .ref z43, .ref z49])), (z0, .inr (8, [.ref z1, .ref z51, .ref z52, .ref z2, .ref z3, .int 0, .int 0, .int 9, .int 0, .int 0]))])) (va_Qi (fun (r : Int32) (_ : Unit) => r = (-1)) (fun _ _ => True) (va_A [(h0, .inr (11, [.ref z0, .ref z23, .ref z25, .ref z32, .ref z36, .ref z40, .ref z43, .ref z49])), (z0, .inr (8, [.ref z1, .ref z51, .ref z52, .ref z2, .ref z3, .int 0, .int 0, .int 9, .int 0, .int 0]))] sz)) 0 0 (va_A [(h0, .inr (11, [.ref z0, .ref z23, .ref z25, .ref z32, .ref z36, .ref z40, .ref z43, .ref z49])), (z0, .inr (8, [.ref z1, .ref z51, .ref z52, .ref z2, .ref z3, .int 0, .int 0, .int 9, .int 0, .int 0]))] sz) := by
  refine Met.ofW (cc := cX11_pulled) (maxL := 5) (ret := (some .int)) (by decide) rfl ?_
  intro p e s m args below meth c s₁ B hml hv
  obtain ⟨rfl, hsz, hP, hK, hD0, hN⟩ := hv
  have hx := B.exec
  have hb := B.bytes
  have hr := B.returns
  have hts := atoms_spec (ws := wsX11_pulled) B.pre
  have hown : s.vm.findClass RX11 = some m.cls := findClass_of_methodNamed B.named
  have hlocks := B.notSynchronized
  subst hsz
  have hD := hD0.self (sz := s.heap.size)
  generalize hAe : va_A [(h0, .inr (11, [.ref z0, .ref z23, .ref z25, .ref z32, .ref z36, .ref z40, .ref z43, .ref z49])), (z0, .inr (8, [.ref z1, .ref z51, .ref z52, .ref z2, .ref z3, .int 0, .int 0, .int 9, .int 0, .int 0]))] s.heap.size = A at hD ⊢
  have hA : ∀ q : Nat, s.heap.size ≤ q → A q := fun q h => by rw [← hAe]; exact Or.inr h
  have hS : va_S A s.heap s.heap [] := va_S.rf
  have hP : va_P D vwCl [(h0, .inr (11, [.ref z0, .ref z23, .ref z25, .ref z32, .ref z36, .ref z40, .ref z43, .ref z49])), (z0, .inr (8, [.ref z1, .ref z51, .ref z52, .ref z2, .ref z3, .int 0, .int 0, .int 9, .int 0, .int 0]))] s.heap := hP
  have hl := lv_entry ([.ref h0, .int x1, .int x2, .int x3]) (n := 5) (Nat.le_of_ble_eq_true rfl)
  rw [lg_entry_eq]
  generalize (lg_sl ([.ref h0, .int x1, .int x2, .int x3]) ++ List.replicate (5 - (lg_sl ([.ref h0, .int x1, .int x2, .int x3])).length) Slot.unset).toArray = ls at hl ⊢
  have hl : lv_has ls 5 [(0, .ref h0), (1, .int x1), (2, .int x2), (3, .int x3)] := hl
  refine lv_aload_n hx hb dX11_pulled_0 rfl (lv_at hl 0 rfl) ?_
  refine lv_iload_n hx hb dX11_pulled_1 rfl (lv_at hl 1 rfl) ?_
  refine lv_iload_n hx hb dX11_pulled_2 rfl (lv_at hl 2 rfl) ?_
  have hPc := hP.sub (ws' := [(h0, .inr (11, [.ref z0, .ref z23, .ref z25, .ref z32, .ref z36, .ref z40, .ref z43, .ref z49])), (z0, .inr (8, [.ref z1, .ref z51, .ref z52, .ref z2, .ref z3, .int 0, .int 0, .int 9, .int 0, .int 0]))]) [0, 1] rfl
  have hDc := hD.sub (ws' := [(h0, .inr (11, [.ref z0, .ref z23, .ref z25, .ref z32, .ref z36, .ref z40, .ref z43, .ref z49])), (z0, .inr (8, [.ref z1, .ref z51, .ref z52, .ref z2, .ref z3, .int 0, .int 0, .int 9, .int 0, .int 0]))]) [0, 1] (by decide) rfl
  have hFc := va_free (wc := [(h0, .inr (11, [.ref z0, .ref z23, .ref z25, .ref z32, .ref z36, .ref z40, .ref z43, .ref z49])), (z0, .inr (8, [.ref z1, .ref z51, .ref z52, .ref z2, .ref z3, .int 0, .int 0, .int 9, .int 0, .int 0]))]) hD hS hA [0, 1] rfl
  refine va_calli (va_runV (As := [.int x1, .int x2]) (rest := []) ⟨hx, hb, hml, hown, hts⟩ (kX11_hasString l D G h0 x1 x2 z0 z23 z25 z32 z36 z40 z43 z49 z1 z51 z52 z2 z3 s.heap.size) (cwV 2 hts gX11_pulled_X11_hasString rfl rfl rfl (by decide +kernel) ⟨Nat.le_of_ble_eq_true rfl, Nat.le_of_ble_eq_true rfl⟩) ⟨wB_blind, va_recv hK hPc (ci := 11) (q0 := 0) rfl rfl, wB_pre hPc hK hDc hN⟩ rfl rfl hl.1 rfl (lv_room (Nat.le_of_ble_eq_true rfl)) dX11_pulled_3 ⟨Nat.le_of_ble_eq_true rfl, Nat.le_of_ble_eq_true rfl⟩) hS (fun q _ h => hFc q h) hFc (fun r1 u t H1 locs ht hvm hr1 hB hz1 hk1 hS => ?_)
  obtain ⟨hP1, hK1, hD1⟩ := hB
  rw [ht] at hP1
  obtain ⟨hP, hD⟩ := va_join (wr := []) (w1 := [(h0, .inr (11, [.ref z0, .ref z23, .ref z25, .ref z32, .ref z36, .ref z40, .ref z43, .ref z49])), (z0, .inr (8, [.ref z1, .ref z51, .ref z52, .ref z2, .ref z3, .int 0, .int 0, .int 9, .int 0, .int 0]))]) hP hD [0, 1] [] rfl rfl (by decide) (by decide) hk1 hFc hP1 hD1
  clear hPc hDc
  generalize H1 = H at hP hS ⊢
  have hP : va_P D vwCl [(h0, .inr (11, [.ref z0, .ref z23, .ref z25, .ref z32, .ref z36, .ref z40, .ref z43, .ref z49])), (z0, .inr (8, [.ref z1, .ref z51, .ref z52, .ref z2, .ref z3, .int 0, .int 0, .int 9, .int 0, .int 0]))] H := hP
  have hD : va_D A [(h0, .inr (11, [.ref z0, .ref z23, .ref z25, .ref z32, .ref z36, .ref z40, .ref z43, .ref z49])), (z0, .inr (8, [.ref z1, .ref z51, .ref z52, .ref z2, .ref z3, .int 0, .int 0, .int 9, .int 0, .int 0]))] := hD
  subst hr1
  refine lv_if_ne (tgt := 11) hx hb dX11_pulled_6 (by decide) (fun h9 => absurd h9 (by decide)) (fun _ => ?_)
  refine lv_iconst (v := (-1)) hx hb dX11_pulled_9 (by decide) ?_
  exact W.iret (v := (-1)) hx hb hr (fun t ht hW => ⟨⟨(-1), (), rfl, rfl, trivial⟩, hS.F ht⟩) hS.2.2 dX11_pulled_10

theorem mX11_score_w3 : Cond.fieldLink RX11 19 "PuppetBridge" "text" "LPuppetBridge$Text;" ∈ wsX11_score := by decide +kernel
theorem mX11_score_w7 : Cond.fieldLink RX11 191 "PuppetBridge$Text" "length" "I" ∈ wsX11_score := by decide +kernel
theorem iX11_score_X10 : ∀ w ∈ wsX100, w ∈ wsX11_score := fun _ h => List.mem_cons_of_mem _ (List.mem_append_left _ (List.mem_append_left _ (List.mem_append_right _ h)))
theorem iX11_score_X11 : ∀ w ∈ wsX110, w ∈ wsX11_score := fun _ h => List.mem_cons_of_mem _ (List.mem_append_left _ (List.mem_append_left _ (List.mem_append_left _ (List.mem_append_left _ (List.mem_append_left _ (List.mem_append_left _ (List.mem_append_right _ h)))))))
set_option maxRecDepth 20000 in
theorem ggX11_score_X11_hasFigure : GoodIn wsX11_score wsX11_hasFigure := goodIn_r _ [13, 1, 14, 15, 16, 12, 17, 72, 73, 74, 75, 76, 77, 78, 79, 80, 81, 82, 83, 84, 85, 86, 87, 88, 89] (by decide +kernel) (by decide +kernel)
set_option maxRecDepth 20000 in
theorem gX11_score_X11_hasFigure : GoodIn wsX11_score (wsV RX11 108 RX11 yX11_hasFigure wsX11_hasFigure) := goodIn_app (goodIn_of _ (by decide +kernel)) ggX11_score_X11_hasFigure
theorem dX11_score_0 : decode cX11_score 0 = .ok (.bipush (-101), 2) := by decide +kernel
theorem dX11_score_2 : decode cX11_score 2 = .ok (.istore_n 2, 1) := by decide +kernel
theorem dX11_score_3 : decode cX11_score 3 = .ok (.aload_n 0, 1) := by decide +kernel
theorem dX11_score_4 : decode cX11_score 4 = .ok (.iload_n 1, 1) := by decide +kernel
theorem dX11_score_5 : decode cX11_score 5 = .ok (.invokevirtual 108, 3) := by decide +kernel
theorem dX11_score_8 : decode cX11_score 8 = .ok (.ifCond .eq 36, 3) := by decide +kernel
theorem dX11_score_44 : decode cX11_score 44 = .ok (.aload_n 0, 1) := by decide +kernel
theorem dX11_score_45 : decode cX11_score 45 = .ok (.getfield 19, 3) := by decide +kernel
theorem dX11_score_48 : decode cX11_score 48 = .ok (.iconst 0, 1) := by decide +kernel
theorem dX11_score_49 : decode cX11_score 49 = .ok (.putfield 191, 3) := by decide +kernel
theorem dX11_score_52 : decode cX11_score 52 = .ok (.iload_n 2, 1) := by decide +kernel
theorem dX11_score_53 : decode cX11_score 53 = .ok (.ireturn, 1) := by decide +kernel
set_option maxHeartbeats 4000000 in
set_option maxRecDepth 100000 in
/-- X11_score -/
theorem kX11_score (l : Launch) (D : va_G) (G : tyG) (h0 : Nat) (x1 : Int32) (z0 : Nat) (z23 : Nat) (z25 : Nat) (z32 : Nat) (z36 : Nat) (z40 : Nat) (z43 : Nat) (z49 : Nat) (z1 : Nat) (z51 : Nat) (z52 : Nat) (z2 : Nat) (z3 : Nat) (z24 : Nat) (sz : Nat) : Met l yX11_score wsX11_score ({ frames := 2, cells := 0, slots := 0, locals := 43 }) (va_Pc [.ref h0, .int x1] (wB D G sz [(h0, .inr (11, [.ref z0, .ref z23, .ref z25, .ref z32, .ref z36, .ref z40, .ref z43, .ref z49])), (z0, .inr (8, [.ref z1, .ref z51, .ref z52, .ref z2, .ref z3, .int 0, .int 0, .int 9, .int 0, .int 0])), (z23, .inr (10, [.ref z24, .int 0]))])) (va_Qi (fun (r : Int32) (_ : Unit) => r = (-101)) (fun _ _ => True) (va_A [(h0, .inr (11, [.ref z0, .ref z23, .ref z25, .ref z32, .ref z36, .ref z40, .ref z43, .ref z49])), (z0, .inr (8, [.ref z1, .ref z51, .ref z52, .ref z2, .ref z3, .int 0, .int 0, .int 9, .int 0, .int 0])), (z23, .inr (10, [.ref z24, .int 0]))] sz)) 0 0 (va_A [(h0, .inr (11, [.ref z0, .ref z23, .ref z25, .ref z32, .ref z36, .ref z40, .ref z43, .ref z49])), (z0, .inr (8, [.ref z1, .ref z51, .ref z52, .ref z2, .ref z3, .int 0, .int 0, .int 9, .int 0, .int 0])), (z23, .inr (10, [.ref z24, .int 0]))] sz) := by
  refine Met.ofW (cc := cX11_score) (maxL := 4) (ret := (some .int)) (by decide) rfl ?_
  intro p e s m args below meth c s₁ B hml hv
  obtain ⟨rfl, hsz, hP, hK, hD0, hN⟩ := hv
  have hx := B.exec
  have hb := B.bytes
  have hr := B.returns
  have hts := atoms_spec (ws := wsX11_score) B.pre
  have hown : s.vm.findClass RX11 = some m.cls := findClass_of_methodNamed B.named
  have hlocks := B.notSynchronized
  subst hsz
  have hD := hD0.self (sz := s.heap.size)
  generalize hAe : va_A [(h0, .inr (11, [.ref z0, .ref z23, .ref z25, .ref z32, .ref z36, .ref z40, .ref z43, .ref z49])), (z0, .inr (8, [.ref z1, .ref z51, .ref z52, .ref z2, .ref z3, .int 0, .int 0, .int 9, .int 0, .int 0])), (z23, .inr (10, [.ref z24, .int 0]))] s.heap.size = A at hD ⊢
  have hA : ∀ q : Nat, s.heap.size ≤ q → A q := fun q h => by rw [← hAe]; exact Or.inr h
  have hS : va_S A s.heap s.heap [] := va_S.rf
  have hP : va_P D vwCl [(h0, .inr (11, [.ref z0, .ref z23, .ref z25, .ref z32, .ref z36, .ref z40, .ref z43, .ref z49])), (z0, .inr (8, [.ref z1, .ref z51, .ref z52, .ref z2, .ref z3, .int 0, .int 0, .int 9, .int 0, .int 0])), (z23, .inr (10, [.ref z24, .int 0]))] s.heap := hP
  have hl := lv_entry ([.ref h0, .int x1]) (n := 4) (Nat.le_of_ble_eq_true rfl)
  rw [lg_entry_eq]
  generalize (lg_sl ([.ref h0, .int x1]) ++ List.replicate (4 - (lg_sl ([.ref h0, .int x1])).length) Slot.unset).toArray = ls at hl ⊢
  have hl : lv_has ls 4 [(0, .ref h0), (1, .int x1)] := hl
  refine lv_bipush (v := (-101)) hx hb dX11_score_0 (by decide) ?_
  refine lv_istore_n (lv' := [(2, .int (-101)), (0, .ref h0), (1, .int x1)]) hx hb dX11_score_2 rfl hl (by decide) rfl (fun ls hl => ?_)
  refine lv_aload_n hx hb dX11_score_3 rfl (lv_at hl 1 rfl) ?_
  refine lv_iload_n hx hb dX11_score_4 rfl (lv_at hl 2 rfl) ?_
  have hPc := hP.sub (ws' := [(h0, .inr (11, [.ref z0, .ref z23, .ref z25, .ref z32, .ref z36, .ref z40, .ref z43, .ref z49])), (z0, .inr (8, [.ref z1, .ref z51, .ref z52, .ref z2, .ref z3, .int 0, .int 0, .int 9, .int 0, .int 0]))]) [0, 1] rfl
  have hDc := hD.sub (ws' := [(h0, .inr (11, [.ref z0, .ref z23, .ref z25, .ref z32, .ref z36, .ref z40, .ref z43, .ref z49])), (z0, .inr (8, [.ref z1, .ref z51, .ref z52, .ref z2, .ref z3, .int 0, .int 0, .int 9, .int 0, .int 0]))]) [0, 1] (by decide) rfl
  have hFc := va_free (wc := [(h0, .inr (11, [.ref z0, .ref z23, .ref z25, .ref z32, .ref z36, .ref z40, .ref z43, .ref z49])), (z0, .inr (8, [.ref z1, .ref z51, .ref z52, .ref z2, .ref z3, .int 0, .int 0, .int 9, .int 0, .int 0]))]) hD hS hA [0, 1] rfl
  refine va_calli (va_runV (As := [.int x1]) (rest := []) ⟨hx, hb, hml, hown, hts⟩ (kX11_hasFigure l D G h0 x1 z0 z23 z25 z32 z36 z40 z43 z49 z1 z51 z52 z2 z3 s.heap.size) (cwV 1 hts gX11_score_X11_hasFigure rfl rfl rfl (by decide +kernel) ⟨Nat.le_of_ble_eq_true rfl, Nat.le_of_ble_eq_true rfl⟩) ⟨wB_blind, va_recv hK hPc (ci := 11) (q0 := 0) rfl rfl, wB_pre hPc hK hDc hN⟩ rfl rfl hl.1 rfl (lv_room (Nat.le_of_ble_eq_true rfl)) dX11_score_5 ⟨Nat.le_of_ble_eq_true rfl, Nat.le_of_ble_eq_true rfl⟩) hS (fun q _ h => hFc q h) hFc (fun r1 u t H1 locs ht hvm hr1 hB hz1 hk1 hS => ?_)
  obtain ⟨hP1, hK1, hD1⟩ := hB
  rw [ht] at hP1
  obtain ⟨hP, hD⟩ := va_join (wr := [(z23, .inr (10, [.ref z24, .int 0]))]) (w1 := [(h0, .inr (11, [.ref z0, .ref z23, .ref z25, .ref z32, .ref z36, .ref z40, .ref z43, .ref z49])), (z0, .inr (8, [.ref z1, .ref z51, .ref z52, .ref z2, .ref z3, .int 0, .int 0, .int 9, .int 0, .int 0]))]) hP hD [0, 1] [2] rfl rfl (by decide) (by decide) hk1 hFc hP1 hD1
  clear hPc hDc
  generalize H1 = H at hP hS ⊢
  have hP : va_P D vwCl [(z23, .inr (10, [.ref z24, .int 0])), (h0, .inr (11, [.ref z0, .ref z23, .ref z25, .ref z32, .ref z36, .ref z40, .ref z43, .ref z49])), (z0, .inr (8, [.ref z1, .ref z51, .ref z52, .ref z2, .ref z3, .int 0, .int 0, .int 9, .int 0, .int 0]))] H := hP
  have hD : va_D A [(z23, .inr (10, [.ref z24, .int 0])), (h0, .inr (11, [.ref z0, .ref z23, .ref z25, .ref z32, .ref z36, .ref z40, .ref z43, .ref z49])), (z0, .inr (8, [.ref z1, .ref z51, .ref z52, .ref z2, .ref z3, .int 0, .int 0, .int 9, .int 0, .int 0]))] := hD
  subst hr1
  refine lv_if_eq (tgt := 44) hx hb dX11_score_8 (by decide) (fun _ => ?_) (fun h9 => absurd h9 (by decide))
  refine lv_aload_n hx hb dX11_score_44 rfl (lv_at hl 1 rfl) ?_
  refine va_get (D := D) (ci := 11) (v := .ref z23) (C := RX11) (T := TX11) (N := 8) hx hb hts iX11_score_X11 hown hK hP 1 rfl rfl 1 (by decide) (hts (.fieldLink RX11 19 "PuppetBridge" "text" "LPuppetBridge$Text;") mX11_score_w3) (fun _ h9 => h9) rfl dX11_score_45 ?_
  refine lv_iconst (v := 0) hx hb dX11_score_48 (by decide) ?_
  refine va_put (D := D) (ci := 10) (v := .int 0) (ty := (tyX10 1)) (C := RX10) (T := TX10) (N := 2) hx hb hts iX11_score_X10 tyX10 tyX10_ok nmX10 hown hK hP hD hS 0 rfl rfl 1 (by decide) (hts (.fieldLink RX11 191 "PuppetBridge$Text" "length" "I") mX11_score_w7) (fun _ h9 => h9) rfl (tyX10_ok 1 (by decide)) rfl rfl (Nat.le_of_ble_eq_true rfl) dX11_score_49 (fun H locs hP hD hS => ?_)
  have hP : va_P D vwCl [(z23, .inr (10, [.ref z24, .int 0])), (h0, .inr (11, [.ref z0, .ref z23, .ref z25, .ref z32, .ref z36, .ref z40, .ref z43, .ref z49])), (z0, .inr (8, [.ref z1, .ref z51, .ref z52, .ref z2, .ref z3, .int 0, .int 0, .int 9, .int 0, .int 0]))] H := hP
  have hD : va_D A [(z23, .inr (10, [.ref z24, .int 0])), (h0, .inr (11, [.ref z0, .ref z23, .ref z25, .ref z32, .ref z36, .ref z40, .ref z43, .ref z49])), (z0, .inr (8, [.ref z1, .ref z51, .ref z52, .ref z2, .ref z3, .int 0, .int 0, .int 9, .int 0, .int 0]))] := hD
  refine lv_iload_n hx hb dX11_score_52 rfl (lv_at hl 0 rfl) ?_
  exact W.iret (v := (-101)) hx hb hr (fun t ht hW => ⟨⟨(-101), (), rfl, rfl, trivial⟩, hS.F ht⟩) hS.2.2 dX11_score_53

set_option maxRecDepth 20000 in
theorem ggX11_met_X11_isPair : GoodIn wsX11_met wsX11_isPair := goodIn_r _ [7, 8, 9, 10, 6, 11, 1, 12, 13, 14, 15, 27, 28, 29, 30, 31, 32, 33, 34, 35, 36, 37, 38, 39, 40, 41, 42, 43, 44] (by decide +kernel) (by decide +kernel)
set_option maxRecDepth 20000 in
theorem gX11_met_X11_isPair : GoodIn wsX11_met (wsV RX11 211 RX11 yX11_isPair wsX11_isPair) := goodIn_app (goodIn_of _ (by decide +kernel)) ggX11_met_X11_isPair
theorem dX11_met_0 : decode cX11_met 0 = .ok (.aload_n 0, 1) := by decide +kernel
theorem dX11_met_1 : decode cX11_met 1 = .ok (.iload_n 1, 1) := by decide +kernel
theorem dX11_met_2 : decode cX11_met 2 = .ok (.iload_n 2, 1) := by decide +kernel
theorem dX11_met_3 : decode cX11_met 3 = .ok (.invokevirtual 211, 3) := by decide +kernel
theorem dX11_met_6 : decode cX11_met 6 = .ok (.ifCond .eq 19, 3) := by decide +kernel
theorem dX11_met_25 : decode cX11_met 25 = .ok (.iconst (-1), 1) := by decide +kernel
theorem dX11_met_26 : decode cX11_met 26 = .ok (.ireturn, 1) := by decide +kernel
set_option maxHeartbeats 4000000 in
set_option maxRecDepth 100000 in
/-- X11_met -/
theorem kX11_met (l : Launch) (D : va_G) (G : tyG) (h0 : Nat) (x1 : Int32) (x2 : Int32) (z0 : Nat) (z23 : Nat) (z25 : Nat) (z32 : Nat) (z36 : Nat) (z40 : Nat) (z43 : Nat) (z49 : Nat) (z1 : Nat) (z51 : Nat) (z52 : Nat) (z2 : Nat) (z3 : Nat) (sz : Nat) : Met l yX11_met wsX11_met ({ frames := 3, cells := 0, slots := 0, locals := 65 }) (va_Pc [.ref h0, .int x1, .int x2] (wB D G sz [(h0, .inr (11, [.ref z0, .ref z23, .ref z25, .ref z32, .ref z36, .ref z40, .ref z43, .ref z49])), (z0, .inr (8, [.ref z1, .ref z51, .ref z52, .ref z2, .ref z3, .int 0, .int 0, .int 9, .int 0, .int 0]))])) (va_Qi (fun (r : Int32) (_ : Unit) => r = (-1)) (fun _ _ => True) (va_A [(h0, .inr (11, [.ref z0, .ref z23, .ref z25, .ref z32, .ref z36, .ref z40, .ref z43, .ref z49])), (z0, .inr (8, [.ref z1, .ref z51, .ref z52, .ref z2, .ref z3, .int 0, .int 0, .int 9, .int 0, .int 0]))] sz)) 0 0 (va_A [(h0, .inr (11, [.ref z0, .ref z23, .ref z25, .ref z32, .ref z36, .ref z40, .ref z43, .ref z49])), (z0, .inr (8, [.ref z1, .ref z51, .ref z52, .ref z2, .ref z3, .int 0, .int 0, .int 9, .int 0, .int 0]))] sz) := by
  refine Met.ofW (cc := cX11_met) (maxL := 3) (ret := (some .int)) (by decide) rfl ?_
  intro p e s m args below meth c s₁ B hml hv
  obtain ⟨rfl, hsz, hP, hK, hD0, hN⟩ := hv
  have hx := B.exec
  have hb := B.bytes
  have hr := B.returns
  have hts := atoms_spec (ws := wsX11_met) B.pre
  have hown : s.vm.findClass RX11 = some m.cls := findClass_of_methodNamed B.named
  have hlocks := B.notSynchronized
  subst hsz
  have hD := hD0.self (sz := s.heap.size)
  generalize hAe : va_A [(h0, .inr (11, [.ref z0, .ref z23, .ref z25, .ref z32, .ref z36, .ref z40, .ref z43, .ref z49])), (z0, .inr (8, [.ref z1, .ref z51, .ref z52, .ref z2, .ref z3, .int 0, .int 0, .int 9, .int 0, .int 0]))] s.heap.size = A at hD ⊢
  have hA : ∀ q : Nat, s.heap.size ≤ q → A q := fun q h => by rw [← hAe]; exact Or.inr h
  have hS : va_S A s.heap s.heap [] := va_S.rf
  have hP : va_P D vwCl [(h0, .inr (11, [.ref z0, .ref z23, .ref z25, .ref z32, .ref z36, .ref z40, .ref z43, .ref z49])), (z0, .inr (8, [.ref z1, .ref z51, .ref z52, .ref z2, .ref z3, .int 0, .int 0, .int 9, .int 0, .int 0]))] s.heap := hP
  have hl := lv_entry ([.ref h0, .int x1, .int x2]) (n := 3) (Nat.le_of_ble_eq_true rfl)
  rw [lg_entry_eq]
  generalize (lg_sl ([.ref h0, .int x1, .int x2]) ++ List.replicate (3 - (lg_sl ([.ref h0, .int x1, .int x2])).length) Slot.unset).toArray = ls at hl ⊢
  have hl : lv_has ls 3 [(0, .ref h0), (1, .int x1), (2, .int x2)] := hl
  refine lv_aload_n hx hb dX11_met_0 rfl (lv_at hl 0 rfl) ?_
  refine lv_iload_n hx hb dX11_met_1 rfl (lv_at hl 1 rfl) ?_
  refine lv_iload_n hx hb dX11_met_2 rfl (lv_at hl 2 rfl) ?_
  have hPc := hP.sub (ws' := [(h0, .inr (11, [.ref z0, .ref z23, .ref z25, .ref z32, .ref z36, .ref z40, .ref z43, .ref z49])), (z0, .inr (8, [.ref z1, .ref z51, .ref z52, .ref z2, .ref z3, .int 0, .int 0, .int 9, .int 0, .int 0]))]) [0, 1] rfl
  have hDc := hD.sub (ws' := [(h0, .inr (11, [.ref z0, .ref z23, .ref z25, .ref z32, .ref z36, .ref z40, .ref z43, .ref z49])), (z0, .inr (8, [.ref z1, .ref z51, .ref z52, .ref z2, .ref z3, .int 0, .int 0, .int 9, .int 0, .int 0]))]) [0, 1] (by decide) rfl
  have hFc := va_free (wc := [(h0, .inr (11, [.ref z0, .ref z23, .ref z25, .ref z32, .ref z36, .ref z40, .ref z43, .ref z49])), (z0, .inr (8, [.ref z1, .ref z51, .ref z52, .ref z2, .ref z3, .int 0, .int 0, .int 9, .int 0, .int 0]))]) hD hS hA [0, 1] rfl
  refine va_calli (va_runV (As := [.int x1, .int x2]) (rest := []) ⟨hx, hb, hml, hown, hts⟩ (kX11_isPair l D G h0 x1 x2 z0 z23 z25 z32 z36 z40 z43 z49 z1 z51 z52 z2 z3 s.heap.size) (cwV 2 hts gX11_met_X11_isPair rfl rfl rfl (by decide +kernel) ⟨Nat.le_of_ble_eq_true rfl, Nat.le_of_ble_eq_true rfl⟩) ⟨wB_blind, va_recv hK hPc (ci := 11) (q0 := 0) rfl rfl, wB_pre hPc hK hDc hN⟩ rfl rfl hl.1 rfl (lv_room (Nat.le_of_ble_eq_true rfl)) dX11_met_3 ⟨Nat.le_of_ble_eq_true rfl, Nat.le_of_ble_eq_true rfl⟩) hS (fun q _ h => hFc q h) hFc (fun r1 u t H1 locs ht hvm hr1 hB hz1 hk1 hS => ?_)
  obtain ⟨hP1, hK1, hD1⟩ := hB
  rw [ht] at hP1
  obtain ⟨hP, hD⟩ := va_join (wr := []) (w1 := [(h0, .inr (11, [.ref z0, .ref z23, .ref z25, .ref z32, .ref z36, .ref z40, .ref z43, .ref z49])), (z0, .inr (8, [.ref z1, .ref z51, .ref z52, .ref z2, .ref z3, .int 0, .int 0, .int 9, .int 0, .int 0]))]) hP hD [0, 1] [] rfl rfl (by decide) (by decide) hk1 hFc hP1 hD1
  clear hPc hDc
  generalize H1 = H at hP hS ⊢
  have hP : va_P D vwCl [(h0, .inr (11, [.ref z0, .ref z23, .ref z25, .ref z32, .ref z36, .ref z40, .ref z43, .ref z49])), (z0, .inr (8, [.ref z1, .ref z51, .ref z52, .ref z2, .ref z3, .int 0, .int 0, .int 9, .int 0, .int 0]))] H := hP
  have hD : va_D A [(h0, .inr (11, [.ref z0, .ref z23, .ref z25, .ref z32, .ref z36, .ref z40, .ref z43, .ref z49])), (z0, .inr (8, [.ref z1, .ref z51, .ref z52, .ref z2, .ref z3, .int 0, .int 0, .int 9, .int 0, .int 0]))] := hD
  subst hr1
  refine lv_if_eq (tgt := 25) hx hb dX11_met_6 (by decide) (fun _ => ?_) (fun h9 => absurd h9 (by decide))
  refine lv_iconst (v := (-1)) hx hb dX11_met_25 (by decide) ?_
  exact W.iret (v := (-1)) hx hb hr (fun t ht hW => ⟨⟨(-1), (), rfl, rfl, trivial⟩, hS.F ht⟩) hS.2.2 dX11_met_26

set_option maxRecDepth 20000 in
theorem ggX11_touch_X11_isPair : GoodIn wsX11_touch wsX11_isPair := goodIn_r _ [8, 9, 10, 11, 7, 12, 1, 13, 14, 15, 16, 31, 32, 33, 34, 35, 36, 37, 38, 39, 40, 41, 42, 43, 44, 45, 46, 47, 48] (by decide +kernel) (by decide +kernel)
set_option maxRecDepth 20000 in
theorem gX11_touch_X11_isPair : GoodIn wsX11_touch (wsV RX11 211 RX11 yX11_isPair wsX11_isPair) := goodIn_app (goodIn_of _ (by decide +kernel)) ggX11_touch_X11_isPair
theorem dX11_touch_0 : decode cX11_touch 0 = .ok (.aload_n 0, 1) := by decide +kernel
theorem dX11_touch_1 : decode cX11_touch 1 = .ok (.iload_n 1, 1) := by decide +kernel
theorem dX11_touch_2 : decode cX11_touch 2 = .ok (.iload_n 2, 1) := by decide +kernel
theorem dX11_touch_3 : decode cX11_touch 3 = .ok (.invokevirtual 211, 3) := by decide +kernel
theorem dX11_touch_6 : decode cX11_touch 6 = .ok (.ifCond .ne 5, 3) := by decide +kernel
theorem dX11_touch_9 : decode cX11_touch 9 = .ok (.iconst (-1), 1) := by decide +kernel
theorem dX11_touch_10 : decode cX11_touch 10 = .ok (.ireturn, 1) := by decide +kernel
set_option maxHeartbeats 4000000 in
set_option maxRecDepth 100000 in
/-- X11_touch -/
theorem kX11_touch (l : Launch) (D : va_G) (G : tyG) (h0 : Nat) (x1 : Int32) (x2 : Int32) (z0 : Nat) (z23 : Nat) (z25 : Nat) (z32 : Nat) (z36 : Nat) (z40 : Nat) (z43 : Nat) (z49 : Nat) (z1 : Nat) (z51 : Nat) (z52 : Nat) (z2 : Nat) (z3 : Nat) (sz : Nat) : Met l yX11_touch wsX11_touch ({ frames := 3, cells := 0, slots := 0, locals := 65 }) (va_Pc [.ref h0, .int x1, .int x2] (wB D G sz [(h0, .inr (11, [.ref z0, .ref z23, .ref z25, .ref z32, .ref z36, .ref z40, .ref z43, .ref z49])), (z0, .inr (8, [.ref z1, .ref z51, .ref z52, .ref z2, .ref z3, .int 0, .int 0, .int 9, .int 0, .int 0]))])) (va_Qi (fun (r : Int32) (_ : Unit) => r = (-1)) (fun _ _ => True) (va_A [(h0, .inr (11, [.ref z0, .ref z23, .ref z25, .ref z32, .ref z36, .ref z40, .ref z43, .ref z49])), (z0, .inr (8, [.ref z1, .ref z51, .ref z52, .ref z2, .ref z3, .int 0, .int 0, .int 9, .int 0, .int 0]))] sz)) 0 0 (va_A [(h0, .inr (11, [.ref z0, .ref z23, .ref z25, .ref z32, .ref z36, .ref z40, .ref z43, .ref z49])), (z0, .inr (8, [.ref z1, .ref z51, .ref z52, .ref z2, .ref z3, .int 0, .int 0, .int 9, .int 0, .int 0]))] sz) := by
  refine Met.ofW (cc := cX11_touch) (maxL := 3) (ret := (some .int)) (by decide) rfl ?_
  intro p e s m args below meth c s₁ B hml hv
  obtain ⟨rfl, hsz, hP, hK, hD0, hN⟩ := hv
  have hx := B.exec
  have hb := B.bytes
  have hr := B.returns
  have hts := atoms_spec (ws := wsX11_touch) B.pre
  have hown : s.vm.findClass RX11 = some m.cls := findClass_of_methodNamed B.named
  have hlocks := B.notSynchronized
  subst hsz
  have hD := hD0.self (sz := s.heap.size)
  generalize hAe : va_A [(h0, .inr (11, [.ref z0, .ref z23, .ref z25, .ref z32, .ref z36, .ref z40, .ref z43, .ref z49])), (z0, .inr (8, [.ref z1, .ref z51, .ref z52, .ref z2, .ref z3, .int 0, .int 0, .int 9, .int 0, .int 0]))] s.heap.size = A at hD ⊢
  have hA : ∀ q : Nat, s.heap.size ≤ q → A q := fun q h => by rw [← hAe]; exact Or.inr h
  have hS : va_S A s.heap s.heap [] := va_S.rf
  have hP : va_P D vwCl [(h0, .inr (11, [.ref z0, .ref z23, .ref z25, .ref z32, .ref z36, .ref z40, .ref z43, .ref z49])), (z0, .inr (8, [.ref z1, .ref z51, .ref z52, .ref z2, .ref z3, .int 0, .int 0, .int 9, .int 0, .int 0]))] s.heap := hP
  have hl := lv_entry ([.ref h0, .int x1, .int x2]) (n := 3) (Nat.le_of_ble_eq_true rfl)
  rw [lg_entry_eq]
  generalize (lg_sl ([.ref h0, .int x1, .int x2]) ++ List.replicate (3 - (lg_sl ([.ref h0, .int x1, .int x2])).length) Slot.unset).toArray = ls at hl ⊢
  have hl : lv_has ls 3 [(0, .ref h0), (1, .int x1), (2, .int x2)] := hl
  refine lv_aload_n hx hb dX11_touch_0 rfl (lv_at hl 0 rfl) ?_
  refine lv_iload_n hx hb dX11_touch_1 rfl (lv_at hl 1 rfl) ?_
  refine lv_iload_n hx hb dX11_touch_2 rfl (lv_at hl 2 rfl) ?_
  have hPc := hP.sub (ws' := [(h0, .inr (11, [.ref z0, .ref z23, .ref z25, .ref z32, .ref z36, .ref z40, .ref z43, .ref z49])), (z0, .inr (8, [.ref z1, .ref z51, .ref z52, .ref z2, .ref z3, .int 0, .int 0, .int 9, .int 0, .int 0]))]) [0, 1] rfl
  have hDc := hD.sub (ws' := [(h0, .inr (11, [.ref z0, .ref z23, .ref z25, .ref z32, .ref z36, .ref z40, .ref z43, .ref z49])), (z0, .inr (8, [.ref z1, .ref z51, .ref z52, .ref z2, .ref z3, .int 0, .int 0, .int 9, .int 0, .int 0]))]) [0, 1] (by decide) rfl
  have hFc := va_free (wc := [(h0, .inr (11, [.ref z0, .ref z23, .ref z25, .ref z32, .ref z36, .ref z40, .ref z43, .ref z49])), (z0, .inr (8, [.ref z1, .ref z51, .ref z52, .ref z2, .ref z3, .int 0, .int 0, .int 9, .int 0, .int 0]))]) hD hS hA [0, 1] rfl
  refine va_calli (va_runV (As := [.int x1, .int x2]) (rest := []) ⟨hx, hb, hml, hown, hts⟩ (kX11_isPair l D G h0 x1 x2 z0 z23 z25 z32 z36 z40 z43 z49 z1 z51 z52 z2 z3 s.heap.size) (cwV 2 hts gX11_touch_X11_isPair rfl rfl rfl (by decide +kernel) ⟨Nat.le_of_ble_eq_true rfl, Nat.le_of_ble_eq_true rfl⟩) ⟨wB_blind, va_recv hK hPc (ci := 11) (q0 := 0) rfl rfl, wB_pre hPc hK hDc hN⟩ rfl rfl hl.1 rfl (lv_room (Nat.le_of_ble_eq_true rfl)) dX11_touch_3 ⟨Nat.le_of_ble_eq_true rfl, Nat.le_of_ble_eq_true rfl⟩) hS (fun q _ h => hFc q h) hFc (fun r1 u t H1 locs ht hvm hr1 hB hz1 hk1 hS => ?_)
  obtain ⟨hP1, hK1, hD1⟩ := hB
  rw [ht] at hP1
  obtain ⟨hP, hD⟩ := va_join (wr := []) (w1 := [(h0, .inr (11, [.ref z0, .ref z23, .ref z25, .ref z32, .ref z36, .ref z40, .ref z43, .ref z49])), (z0, .inr (8, [.ref z1, .ref z51, .ref z52, .ref z2, .ref z3, .int 0, .int 0, .int 9, .int 0, .int 0]))]) hP hD [0, 1] [] rfl rfl (by decide) (by decide) hk1 hFc hP1 hD1
  clear hPc hDc
  generalize H1 = H at hP hS ⊢
  have hP : va_P D vwCl [(h0, .inr (11, [.ref z0, .ref z23, .ref z25, .ref z32, .ref z36, .ref z40, .ref z43, .ref z49])), (z0, .inr (8, [.ref z1, .ref z51, .ref z52, .ref z2, .ref z3, .int 0, .int 0, .int 9, .int 0, .int 0]))] H := hP
  have hD : va_D A [(h0, .inr (11, [.ref z0, .ref z23, .ref z25, .ref z32, .ref z36, .ref z40, .ref z43, .ref z49])), (z0, .inr (8, [.ref z1, .ref z51, .ref z52, .ref z2, .ref z3, .int 0, .int 0, .int 9, .int 0, .int 0]))] := hD
  subst hr1
  refine lv_if_ne (tgt := 11) hx hb dX11_touch_6 (by decide) (fun h9 => absurd h9 (by decide)) (fun _ => ?_)
  refine lv_iconst (v := (-1)) hx hb dX11_touch_9 (by decide) ?_
  exact W.iret (v := (-1)) hx hb hr (fun t ht hW => ⟨⟨(-1), (), rfl, rfl, trivial⟩, hS.F ht⟩) hS.2.2 dX11_touch_10

set_option maxRecDepth 20000 in
theorem ggX11_meeting_X11_isPair : GoodIn wsX11_meeting wsX11_isPair := goodIn_r _ [8, 9, 10, 11, 7, 12, 1, 13, 14, 15, 16, 134, 135, 136, 137, 138, 139, 140, 141, 142, 143, 144, 145, 146, 147, 148, 149, 150, 151] (by decide +kernel) (by decide +kernel)
set_option maxRecDepth 20000 in
theorem gX11_meeting_X11_isPair : GoodIn wsX11_meeting (wsV RX11 211 RX11 yX11_isPair wsX11_isPair) := goodIn_app (goodIn_of _ (by decide +kernel)) ggX11_meeting_X11_isPair
theorem dX11_meeting_0 : decode cX11_meeting 0 = .ok (.aload_n 0, 1) := by decide +kernel
theorem dX11_meeting_1 : decode cX11_meeting 1 = .ok (.iload_n 1, 1) := by decide +kernel
theorem dX11_meeting_2 : decode cX11_meeting 2 = .ok (.iload_n 2, 1) := by decide +kernel
theorem dX11_meeting_3 : decode cX11_meeting 3 = .ok (.invokevirtual 211, 3) := by decide +kernel
theorem dX11_meeting_6 : decode cX11_meeting 6 = .ok (.ifCond .eq 28, 3) := by decide +kernel
theorem dX11_meeting_34 : decode cX11_meeting 34 = .ok (.iconst (-1), 1) := by decide +kernel
theorem dX11_meeting_35 : decode cX11_meeting 35 = .ok (.ireturn, 1) := by decide +kernel
set_option maxHeartbeats 4000000 in
set_option maxRecDepth 100000 in
/-- X11_meeting -/
theorem kX11_meeting (l : Launch) (D : va_G) (G : tyG) (h0 : Nat) (x1 : Int32) (x2 : Int32) (x3 : Int32) (z0 : Nat) (z23 : Nat) (z25 : Nat) (z32 : Nat) (z36 : Nat) (z40 : Nat) (z43 : Nat) (z49 : Nat) (z1 : Nat) (z51 : Nat) (z52 : Nat) (z2 : Nat) (z3 : Nat) (sz : Nat) : Met l yX11_meeting wsX11_meeting ({ frames := 3, cells := 0, slots := 0, locals := 65 }) (va_Pc [.ref h0, .int x1, .int x2, .int x3] (wB D G sz [(h0, .inr (11, [.ref z0, .ref z23, .ref z25, .ref z32, .ref z36, .ref z40, .ref z43, .ref z49])), (z0, .inr (8, [.ref z1, .ref z51, .ref z52, .ref z2, .ref z3, .int 0, .int 0, .int 9, .int 0, .int 0]))])) (va_Qi (fun (r : Int32) (_ : Unit) => r = (-1)) (fun _ _ => True) (va_A [(h0, .inr (11, [.ref z0, .ref z23, .ref z25, .ref z32, .ref z36, .ref z40, .ref z43, .ref z49])), (z0, .inr (8, [.ref z1, .ref z51, .ref z52, .ref z2, .ref z3, .int 0, .int 0, .int 9, .int 0, .int 0]))] sz)) 0 0 (va_A [(h0, .inr (11, [.ref z0, .ref z23, .ref z25, .ref z32, .ref z36, .ref z40, .ref z43, .ref z49])), (z0, .inr (8, [.ref z1, .ref z51, .ref z52, .ref z2, .ref z3, .int 0, .int 0, .int 9, .int 0, .int 0]))] sz) := by
  refine Met.ofW (cc := cX11_meeting) (maxL := 4) (ret := (some .int)) (by decide) rfl ?_
  intro p e s m args below meth c s₁ B hml hv
  obtain ⟨rfl, hsz, hP, hK, hD0, hN⟩ := hv
  have hx := B.exec
  have hb := B.bytes
  have hr := B.returns
  have hts := atoms_spec (ws := wsX11_meeting) B.pre
  have hown : s.vm.findClass RX11 = some m.cls := findClass_of_methodNamed B.named
  have hlocks := B.notSynchronized
  subst hsz
  have hD := hD0.self (sz := s.heap.size)
  generalize hAe : va_A [(h0, .inr (11, [.ref z0, .ref z23, .ref z25, .ref z32, .ref z36, .ref z40, .ref z43, .ref z49])), (z0, .inr (8, [.ref z1, .ref z51, .ref z52, .ref z2, .ref z3, .int 0, .int 0, .int 9, .int 0, .int 0]))] s.heap.size = A at hD ⊢
  have hA : ∀ q : Nat, s.heap.size ≤ q → A q := fun q h => by rw [← hAe]; exact Or.inr h
  have hS : va_S A s.heap s.heap [] := va_S.rf
  have hP : va_P D vwCl [(h0, .inr (11, [.ref z0, .ref z23, .ref z25, .ref z32, .ref z36, .ref z40, .ref z43, .ref z49])), (z0, .inr (8, [.ref z1, .ref z51, .ref z52, .ref z2, .ref z3, .int 0, .int 0, .int 9, .int 0, .int 0]))] s.heap := hP
  have hl := lv_entry ([.ref h0, .int x1, .int x2, .int x3]) (n := 4) (Nat.le_of_ble_eq_true rfl)
  rw [lg_entry_eq]
  generalize (lg_sl ([.ref h0, .int x1, .int x2, .int x3]) ++ List.replicate (4 - (lg_sl ([.ref h0, .int x1, .int x2, .int x3])).length) Slot.unset).toArray = ls at hl ⊢
  have hl : lv_has ls 4 [(0, .ref h0), (1, .int x1), (2, .int x2), (3, .int x3)] := hl
  refine lv_aload_n hx hb dX11_meeting_0 rfl (lv_at hl 0 rfl) ?_
  refine lv_iload_n hx hb dX11_meeting_1 rfl (lv_at hl 1 rfl) ?_
  refine lv_iload_n hx hb dX11_meeting_2 rfl (lv_at hl 2 rfl) ?_
  have hPc := hP.sub (ws' := [(h0, .inr (11, [.ref z0, .ref z23, .ref z25, .ref z32, .ref z36, .ref z40, .ref z43, .ref z49])), (z0, .inr (8, [.ref z1, .ref z51, .ref z52, .ref z2, .ref z3, .int 0, .int 0, .int 9, .int 0, .int 0]))]) [0, 1] rfl
  have hDc := hD.sub (ws' := [(h0, .inr (11, [.ref z0, .ref z23, .ref z25, .ref z32, .ref z36, .ref z40, .ref z43, .ref z49])), (z0, .inr (8, [.ref z1, .ref z51, .ref z52, .ref z2, .ref z3, .int 0, .int 0, .int 9, .int 0, .int 0]))]) [0, 1] (by decide) rfl
  have hFc := va_free (wc := [(h0, .inr (11, [.ref z0, .ref z23, .ref z25, .ref z32, .ref z36, .ref z40, .ref z43, .ref z49])), (z0, .inr (8, [.ref z1, .ref z51, .ref z52, .ref z2, .ref z3, .int 0, .int 0, .int 9, .int 0, .int 0]))]) hD hS hA [0, 1] rfl
  refine va_calli (va_runV (As := [.int x1, .int x2]) (rest := []) ⟨hx, hb, hml, hown, hts⟩ (kX11_isPair l D G h0 x1 x2 z0 z23 z25 z32 z36 z40 z43 z49 z1 z51 z52 z2 z3 s.heap.size) (cwV 2 hts gX11_meeting_X11_isPair rfl rfl rfl (by decide +kernel) ⟨Nat.le_of_ble_eq_true rfl, Nat.le_of_ble_eq_true rfl⟩) ⟨wB_blind, va_recv hK hPc (ci := 11) (q0 := 0) rfl rfl, wB_pre hPc hK hDc hN⟩ rfl rfl hl.1 rfl (lv_room (Nat.le_of_ble_eq_true rfl)) dX11_meeting_3 ⟨Nat.le_of_ble_eq_true rfl, Nat.le_of_ble_eq_true rfl⟩) hS (fun q _ h => hFc q h) hFc (fun r1 u t H1 locs ht hvm hr1 hB hz1 hk1 hS => ?_)
  obtain ⟨hP1, hK1, hD1⟩ := hB
  rw [ht] at hP1
  obtain ⟨hP, hD⟩ := va_join (wr := []) (w1 := [(h0, .inr (11, [.ref z0, .ref z23, .ref z25, .ref z32, .ref z36, .ref z40, .ref z43, .ref z49])), (z0, .inr (8, [.ref z1, .ref z51, .ref z52, .ref z2, .ref z3, .int 0, .int 0, .int 9, .int 0, .int 0]))]) hP hD [0, 1] [] rfl rfl (by decide) (by decide) hk1 hFc hP1 hD1
  clear hPc hDc
  generalize H1 = H at hP hS ⊢
  have hP : va_P D vwCl [(h0, .inr (11, [.ref z0, .ref z23, .ref z25, .ref z32, .ref z36, .ref z40, .ref z43, .ref z49])), (z0, .inr (8, [.ref z1, .ref z51, .ref z52, .ref z2, .ref z3, .int 0, .int 0, .int 9, .int 0, .int 0]))] H := hP
  have hD : va_D A [(h0, .inr (11, [.ref z0, .ref z23, .ref z25, .ref z32, .ref z36, .ref z40, .ref z43, .ref z49])), (z0, .inr (8, [.ref z1, .ref z51, .ref z52, .ref z2, .ref z3, .int 0, .int 0, .int 9, .int 0, .int 0]))] := hD
  subst hr1
  refine lv_if_eq (tgt := 34) hx hb dX11_meeting_6 (by decide) (fun _ => ?_) (fun h9 => absurd h9 (by decide))
  refine lv_iconst (v := (-1)) hx hb dX11_meeting_34 (by decide) ?_
  exact W.iret (v := (-1)) hx hb hr (fun t ht hW => ⟨⟨(-1), (), rfl, rfl, trivial⟩, hS.F ht⟩) hS.2.2 dX11_meeting_35

theorem mX11_back_w0 : Cond.fieldLink RX11 33 "PuppetBridge" "bridge" "LPuppetBridge$Bridge;" ∈ wsX11_back := by decide +kernel
theorem mX11_back_w1 : Cond.fieldLink RX11 232 "PuppetBridge$Bridge" "count" "I" ∈ wsX11_back := by decide +kernel
theorem iX11_back_X0 : ∀ w ∈ wsX00, w ∈ wsX11_back := fun _ h => List.mem_cons_of_mem _ (List.mem_append_right _ h)
theorem iX11_back_X11 : ∀ w ∈ wsX110, w ∈ wsX11_back := fun _ h => List.mem_cons_of_mem _ (List.mem_append_left _ (List.mem_append_right _ h))
theorem dX11_back_0 : decode cX11_back 0 = .ok (.aload_n 0, 1) := by decide +kernel
theorem dX11_back_1 : decode cX11_back 1 = .ok (.getfield 33, 3) := by decide +kernel
theorem dX11_back_4 : decode cX11_back 4 = .ok (.getfield 232, 3) := by decide +kernel
theorem dX11_back_7 : decode cX11_back 7 = .ok (.ifCond .gt 5, 3) := by decide +kernel
theorem dX11_back_10 : decode cX11_back 10 = .ok (.iconst 0, 1) := by decide +kernel
theorem dX11_back_11 : decode cX11_back 11 = .ok (.ireturn, 1) := by decide +kernel
set_option maxHeartbeats 4000000 in
set_option maxRecDepth 100000 in
/-- X11_back -/
theorem kX11_back (l : Launch) (D : va_G) (G : tyG) (h0 : Nat) (z0 : Nat) (z23 : Nat) (z25 : Nat) (z32 : Nat) (z36 : Nat) (z40 : Nat) (z43 : Nat) (z49 : Nat) (z29 : Nat) (z33 : Nat) (z34 : Nat) (z35 : Nat) (z30 : Nat) (z31 : Nat) (sz : Nat) : Met l yX11_back wsX11_back ({ frames := 0, cells := 0, slots := 0, locals := 0 }) (va_Pc [.ref h0] (wB D G sz [(h0, .inr (11, [.ref z0, .ref z23, .ref z25, .ref z32, .ref z36, .ref z40, .ref z43, .ref z49])), (z32, .inr (0, [.ref z29, .ref z33, .ref z34, .ref z35, .ref z30, .ref z31, .int 2, .int 0, .int 0]))])) (va_Qi (fun (r : Int32) (_ : Unit) => r = 0) (fun _ _ => True) (va_A [(h0, .inr (11, [.ref z0, .ref z23, .ref z25, .ref z32, .ref z36, .ref z40, .ref z43, .ref z49])), (z32, .inr (0, [.ref z29, .ref z33, .ref z34, .ref z35, .ref z30, .ref z31, .int 2, .int 0, .int 0]))] sz)) 0 0 (va_A [(h0, .inr (11, [.ref z0, .ref z23, .ref z25, .ref z32, .ref z36, .ref z40, .ref z43, .ref z49])), (z32, .inr (0, [.ref z29, .ref z33, .ref z34, .ref z35, .ref z30, .ref z31, .int 2, .int 0, .int 0]))] sz) := by
  refine Met.ofW (cc := cX11_back) (maxL := 1) (ret := (some .boolean)) (by decide) rfl ?_
  intro p e s m args below meth c s₁ B hml hv
  obtain ⟨rfl, hsz, hP, hK, hD0, hN⟩ := hv
  have hx := B.exec
  have hb := B.bytes
  have hr := B.returns
  have hts := atoms_spec (ws := wsX11_back) B.pre
  have hown : s.vm.findClass RX11 = some m.cls := findClass_of_methodNamed B.named
  have hlocks := B.notSynchronized
  subst hsz
  have hD := hD0.self (sz := s.heap.size)
  generalize hAe : va_A [(h0, .inr (11, [.ref z0, .ref z23, .ref z25, .ref z32, .ref z36, .ref z40, .ref z43, .ref z49])), (z32, .inr (0, [.ref z29, .ref z33, .ref z34, .ref z35, .ref z30, .ref z31, .int 2, .int 0, .int 0]))] s.heap.size = A at hD ⊢
  have hA : ∀ q : Nat, s.heap.size ≤ q → A q := fun q h => by rw [← hAe]; exact Or.inr h
  have hS : va_S A s.heap s.heap [] := va_S.rf
  have hP : va_P D vwCl [(h0, .inr (11, [.ref z0, .ref z23, .ref z25, .ref z32, .ref z36, .ref z40, .ref z43, .ref z49])), (z32, .inr (0, [.ref z29, .ref z33, .ref z34, .ref z35, .ref z30, .ref z31, .int 2, .int 0, .int 0]))] s.heap := hP
  have hl := lv_entry ([.ref h0]) (n := 1) (Nat.le_of_ble_eq_true rfl)
  rw [lg_entry_eq]
  generalize (lg_sl ([.ref h0]) ++ List.replicate (1 - (lg_sl ([.ref h0])).length) Slot.unset).toArray = ls at hl ⊢
  have hl : lv_has ls 1 [(0, .ref h0)] := hl
  refine lv_aload_n hx hb dX11_back_0 rfl (lv_at hl 0 rfl) ?_
  refine va_get (D := D) (ci := 11) (v := .ref z32) (C := RX11) (T := TX11) (N := 8) hx hb hts iX11_back_X11 hown hK hP 0 rfl rfl 3 (by decide) (hts (.fieldLink RX11 33 "PuppetBridge" "bridge" "LPuppetBridge$Bridge;") mX11_back_w0) (fun _ h9 => h9) rfl dX11_back_1 ?_
  refine va_get (D := D) (ci := 0) (v := .int 0) (C := RX0) (T := TX0) (N := 9) hx hb hts iX11_back_X0 hown hK hP 1 rfl rfl 7 (by decide) (hts (.fieldLink RX11 232 "PuppetBridge$Bridge" "count" "I") mX11_back_w1) (fun _ h9 => h9) rfl dX11_back_4 ?_
  refine lv_if_gt (tgt := 12) hx hb dX11_back_7 (by decide) (fun h9 => absurd h9 (by decide)) (fun _ => ?_)
  refine lv_iconst (v := 0) hx hb dX11_back_10 (by decide) ?_
  exact W.zret (v := 0) hx hb hr rfl (fun t ht hW => ⟨⟨0, (), rfl, rfl, trivial⟩, hS.F ht⟩) hS.2.2 dX11_back_11

theorem mX11_clear_w0 : Cond.fieldLink RX11 40 "PuppetBridge" "hands" "LPuppetBridge$Hands;" ∈ wsX11_clear := by decide +kernel
theorem mX11_clear_w1 : Cond.fieldLink RX11 233 "PuppetBridge$Hands" "count" "I" ∈ wsX11_clear := by decide +kernel
theorem mX11_clear_w2 : Cond.fieldLink RX11 54 "PuppetBridge" "tales" "LPuppetBridge$Tales;" ∈ wsX11_clear := by decide +kernel
theorem mX11_clear_w3 : Cond.fieldLink RX11 234 "PuppetBridge$Tales" "count" "I" ∈ wsX11_clear := by decide +kernel
theorem iX11_clear_X11 : ∀ w ∈ wsX110, w ∈ wsX11_clear := fun _ h => List.mem_cons_of_mem _ (List.mem_append_left _ (List.mem_append_left _ (List.mem_append_right _ h)))
theorem iX11_clear_X3 : ∀ w ∈ wsX30, w ∈ wsX11_clear := fun _ h => List.mem_cons_of_mem _ (List.mem_append_left _ (List.mem_append_right _ h))
theorem iX11_clear_X9 : ∀ w ∈ wsX90, w ∈ wsX11_clear := fun _ h => List.mem_cons_of_mem _ (List.mem_append_right _ h)
theorem dX11_clear_0 : decode cX11_clear 0 = .ok (.aload_n 0, 1) := by decide +kernel
theorem dX11_clear_1 : decode cX11_clear 1 = .ok (.getfield 40, 3) := by decide +kernel
theorem dX11_clear_4 : decode cX11_clear 4 = .ok (.getfield 233, 3) := by decide +kernel
theorem dX11_clear_7 : decode cX11_clear 7 = .ok (.istore_n 1, 1) := by decide +kernel
theorem dX11_clear_8 : decode cX11_clear 8 = .ok (.aload_n 0, 1) := by decide +kernel
theorem dX11_clear_9 : decode cX11_clear 9 = .ok (.getfield 40, 3) := by decide +kernel
theorem dX11_clear_12 : decode cX11_clear 12 = .ok (.iconst 0, 1) := by decide +kernel
theorem dX11_clear_13 : decode cX11_clear 13 = .ok (.putfield 233, 3) := by decide +kernel
theorem dX11_clear_16 : decode cX11_clear 16 = .ok (.aload_n 0, 1) := by decide +kernel
theorem dX11_clear_17 : decode cX11_clear 17 = .ok (.getfield 54, 3) := by decide +kernel
theorem dX11_clear_20 : decode cX11_clear 20 = .ok (.iconst 0, 1) := by decide +kernel
theorem dX11_clear_21 : decode cX11_clear 21 = .ok (.putfield 234, 3) := by decide +kernel
theorem dX11_clear_24 : decode cX11_clear 24 = .ok (.iload_n 1, 1) := by decide +kernel
theorem dX11_clear_25 : decode cX11_clear 25 = .ok (.ireturn, 1) := by decide +kernel
set_option maxHeartbeats 4000000 in
set_option maxRecDepth 100000 in
/-- X11_clear -/
theorem kX11_clear (l : Launch) (D : va_G) (G : tyG) (h0 : Nat) (z0 : Nat) (z23 : Nat) (z25 : Nat) (z32 : Nat) (z36 : Nat) (z40 : Nat) (z43 : Nat) (z49 : Nat) (z37 : Nat) (z38 : Nat) (z39 : Nat) (z44 : Nat) (z45 : Nat) (z46 : Nat) (z47 : Nat) (z48 : Nat) (sz : Nat) : Met l yX11_clear wsX11_clear ({ frames := 0, cells := 0, slots := 0, locals := 0 }) (va_Pc [.ref h0] (wB D G sz [(h0, .inr (11, [.ref z0, .ref z23, .ref z25, .ref z32, .ref z36, .ref z40, .ref z43, .ref z49])), (z36, .inr (3, [.ref z37, .ref z38, .ref z39, .int 0])), (z43, .inr (9, [.ref z44, .ref z45, .ref z46, .ref z47, .ref z48, .int 0]))])) (va_Qi (fun (r : Int32) (_ : Unit) => r = 0) (fun _ _ => True) (va_A [(h0, .inr (11, [.ref z0, .ref z23, .ref z25, .ref z32, .ref z36, .ref z40, .ref z43, .ref z49])), (z36, .inr (3, [.ref z37, .ref z38, .ref z39, .int 0])), (z43, .inr (9, [.ref z44, .ref z45, .ref z46, .ref z47, .ref z48, .int 0]))] sz)) 0 0 (va_A [(h0, .inr (11, [.ref z0, .ref z23, .ref z25, .ref z32, .ref z36, .ref z40, .ref z43, .ref z49])), (z36, .inr (3, [.ref z37, .ref z38, .ref z39, .int 0])), (z43, .inr (9, [.ref z44, .ref z45, .ref z46, .ref z47, .ref z48, .int 0]))] sz) := by
  refine Met.ofW (cc := cX11_clear) (maxL := 2) (ret := (some .int)) (by decide) rfl ?_
  intro p e s m args below meth c s₁ B hml hv
  obtain ⟨rfl, hsz, hP, hK, hD0, hN⟩ := hv
  have hx := B.exec
  have hb := B.bytes
  have hr := B.returns
  have hts := atoms_spec (ws := wsX11_clear) B.pre
  have hown : s.vm.findClass RX11 = some m.cls := findClass_of_methodNamed B.named
  have hlocks := B.notSynchronized
  subst hsz
  have hD := hD0.self (sz := s.heap.size)
  generalize hAe : va_A [(h0, .inr (11, [.ref z0, .ref z23, .ref z25, .ref z32, .ref z36, .ref z40, .ref z43, .ref z49])), (z36, .inr (3, [.ref z37, .ref z38, .ref z39, .int 0])), (z43, .inr (9, [.ref z44, .ref z45, .ref z46, .ref z47, .ref z48, .int 0]))] s.heap.size = A at hD ⊢
  have hA : ∀ q : Nat, s.heap.size ≤ q → A q := fun q h => by rw [← hAe]; exact Or.inr h
  have hS : va_S A s.heap s.heap [] := va_S.rf
  have hP : va_P D vwCl [(h0, .inr (11, [.ref z0, .ref z23, .ref z25, .ref z32, .ref z36, .ref z40, .ref z43, .ref z49])), (z36, .inr (3, [.ref z37, .ref z38, .ref z39, .int 0])), (z43, .inr (9, [.ref z44, .ref z45, .ref z46, .ref z47, .ref z48, .int 0]))] s.heap := hP
  have hl := lv_entry ([.ref h0]) (n := 2) (Nat.le_of_ble_eq_true rfl)
  rw [lg_entry_eq]
  generalize (lg_sl ([.ref h0]) ++ List.replicate (2 - (lg_sl ([.ref h0])).length) Slot.unset).toArray = ls at hl ⊢
  have hl : lv_has ls 2 [(0, .ref h0)] := hl
  refine lv_aload_n hx hb dX11_clear_0 rfl (lv_at hl 0 rfl) ?_
  refine va_get (D := D) (ci := 11) (v := .ref z36) (C := RX11) (T := TX11) (N := 8) hx hb hts iX11_clear_X11 hown hK hP 0 rfl rfl 4 (by decide) (hts (.fieldLink RX11 40 "PuppetBridge" "hands" "LPuppetBridge$Hands;") mX11_clear_w0) (fun _ h9 => h9) rfl dX11_clear_1 ?_
  refine va_get (D := D) (ci := 3) (v := .int 0) (C := RX3) (T := TX3) (N := 4) hx hb hts iX11_clear_X3 hown hK hP 1 rfl rfl 3 (by decide) (hts (.fieldLink RX11 233 "PuppetBridge$Hands" "count" "I") mX11_clear_w1) (fun _ h9 => h9) rfl dX11_clear_4 ?_
  refine lv_istore_n (lv' := [(1, .int 0), (0, .ref h0)]) hx hb dX11_clear_7 rfl hl (by decide) rfl (fun ls hl => ?_)
  refine lv_aload_n hx hb dX11_clear_8 rfl (lv_at hl 1 rfl) ?_
  refine va_get (D := D) (ci := 11) (v := .ref z36) (C := RX11) (T := TX11) (N := 8) hx hb hts iX11_clear_X11 hown hK hP 0 rfl rfl 4 (by decide) (hts (.fieldLink RX11 40 "PuppetBridge" "hands" "LPuppetBridge$Hands;") mX11_clear_w0) (fun _ h9 => h9) rfl dX11_clear_9 ?_
  refine lv_iconst (v := 0) hx hb dX11_clear_12 (by decide) ?_
  refine va_put (D := D) (ci := 3) (v := .int 0) (ty := (tyX3 3)) (C := RX3) (T := TX3) (N := 4) hx hb hts iX11_clear_X3 tyX3 tyX3_ok nmX3 hown hK hP hD hS 1 rfl rfl 3 (by decide) (hts (.fieldLink RX11 233 "PuppetBridge$Hands" "count" "I") mX11_clear_w1) (fun _ h9 => h9) rfl (tyX3_ok 3 (by decide)) rfl rfl (Nat.le_of_ble_eq_true rfl) dX11_clear_13 (fun H locs hP hD hS => ?_)
  have hP : va_P D vwCl [(h0, .inr (11, [.ref z0, .ref z23, .ref z25, .ref z32, .ref z36, .ref z40, .ref z43, .ref z49])), (z36, .inr (3, [.ref z37, .ref z38, .ref z39, .int 0])), (z43, .inr (9, [.ref z44, .ref z45, .ref z46, .ref z47, .ref z48, .int 0]))] H := hP
  have hD : va_D A [(h0, .inr (11, [.ref z0, .ref z23, .ref z25, .ref z32, .ref z36, .ref z40, .ref z43, .ref z49])), (z36, .inr (3, [.ref z37, .ref z38, .ref z39, .int 0])), (z43, .inr (9, [.ref z44, .ref z45, .ref z46, .ref z47, .ref z48, .int 0]))] := hD
  refine lv_aload_n hx hb dX11_clear_16 rfl (lv_at hl 1 rfl) ?_
  refine va_get (D := D) (ci := 11) (v := .ref z43) (C := RX11) (T := TX11) (N := 8) hx hb hts iX11_clear_X11 hown hK hP 0 rfl rfl 6 (by decide) (hts (.fieldLink RX11 54 "PuppetBridge" "tales" "LPuppetBridge$Tales;") mX11_clear_w2) (fun _ h9 => h9) rfl dX11_clear_17 ?_
  refine lv_iconst (v := 0) hx hb dX11_clear_20 (by decide) ?_
  refine va_put (D := D) (ci := 9) (v := .int 0) (ty := (tyX9 5)) (C := RX9) (T := TX9) (N := 6) hx hb hts iX11_clear_X9 tyX9 tyX9_ok nmX9 hown hK hP hD hS 2 rfl rfl 5 (by decide) (hts (.fieldLink RX11 234 "PuppetBridge$Tales" "count" "I") mX11_clear_w3) (fun _ h9 => h9) rfl (tyX9_ok 5 (by decide)) rfl rfl (Nat.le_of_ble_eq_true rfl) dX11_clear_21 (fun H locs hP hD hS => ?_)
  have hP : va_P D vwCl [(h0, .inr (11, [.ref z0, .ref z23, .ref z25, .ref z32, .ref z36, .ref z40, .ref z43, .ref z49])), (z36, .inr (3, [.ref z37, .ref z38, .ref z39, .int 0])), (z43, .inr (9, [.ref z44, .ref z45, .ref z46, .ref z47, .ref z48, .int 0]))] H := hP
  have hD : va_D A [(h0, .inr (11, [.ref z0, .ref z23, .ref z25, .ref z32, .ref z36, .ref z40, .ref z43, .ref z49])), (z36, .inr (3, [.ref z37, .ref z38, .ref z39, .int 0])), (z43, .inr (9, [.ref z44, .ref z45, .ref z46, .ref z47, .ref z48, .int 0]))] := hD
  refine lv_iload_n hx hb dX11_clear_24 rfl (lv_at hl 0 rfl) ?_
  exact W.iret (v := 0) hx hb hr (fun t ht hW => ⟨⟨0, (), rfl, rfl, trivial⟩, hS.F ht⟩) hS.2.2 dX11_clear_25

set_option maxRecDepth 20000 in
theorem ggX11_seen_X11_hasLimb : GoodIn wsX11_seen wsX11_hasLimb := goodIn_r _ [7, 8, 9, 10, 11, 12, 13, 6, 14, 15, 16, 17, 18, 29, 30, 31, 32, 33, 34, 35, 36, 43, 44, 45, 46, 47, 48, 49, 50, 51, 52, 53, 54, 55, 56, 57, 58, 59, 60, 61, 62, 63, 64, 65, 66, 67, 68] (by decide +kernel) (by decide +kernel)
set_option maxRecDepth 20000 in
theorem gX11_seen_X11_hasLimb : GoodIn wsX11_seen (wsV RX11 83 RX11 yX11_hasLimb wsX11_hasLimb) := goodIn_app (goodIn_of _ (by decide +kernel)) ggX11_seen_X11_hasLimb
theorem dX11_seen_0 : decode cX11_seen 0 = .ok (.aload_n 0, 1) := by decide +kernel
theorem dX11_seen_1 : decode cX11_seen 1 = .ok (.iload_n 1, 1) := by decide +kernel
theorem dX11_seen_2 : decode cX11_seen 2 = .ok (.iload_n 3, 1) := by decide +kernel
theorem dX11_seen_3 : decode cX11_seen 3 = .ok (.invokevirtual 83, 3) := by decide +kernel
theorem dX11_seen_6 : decode cX11_seen 6 = .ok (.ifCond .eq 36, 3) := by decide +kernel
theorem dX11_seen_42 : decode cX11_seen 42 = .ok (.iconst (-1), 1) := by decide +kernel
theorem dX11_seen_43 : decode cX11_seen 43 = .ok (.ireturn, 1) := by decide +kernel
set_option maxHeartbeats 4000000 in
set_option maxRecDepth 100000 in
/-- X11_seen -/
theorem kX11_seen (l : Launch) (D : va_G) (G : tyG) (h0 : Nat) (x1 : Int32) (x2 : Int32) (x3 : Int32) (x4 : Int32) (z0 : Nat) (z23 : Nat) (z25 : Nat) (z32 : Nat) (z36 : Nat) (z40 : Nat) (z43 : Nat) (z49 : Nat) (z1 : Nat) (z51 : Nat) (z52 : Nat) (z2 : Nat) (z3 : Nat) (sz : Nat) : Met l yX11_seen wsX11_seen ({ frames := 3, cells := 0, slots := 0, locals := 65 }) (va_Pc [.ref h0, .int x1, .int x2, .int x3, .int x4] (wB D G sz [(h0, .inr (11, [.ref z0, .ref z23, .ref z25, .ref z32, .ref z36, .ref z40, .ref z43, .ref z49])), (z0, .inr (8, [.ref z1, .ref z51, .ref z52, .ref z2, .ref z3, .int 0, .int 0, .int 9, .int 0, .int 0]))])) (va_Qi (fun (r : Int32) (_ : Unit) => r = (-1)) (fun _ _ => True) (va_A [(h0, .inr (11, [.ref z0, .ref z23, .ref z25, .ref z32, .ref z36, .ref z40, .ref z43, .ref z49])), (z0, .inr (8, [.ref z1, .ref z51, .ref z52, .ref z2, .ref z3, .int 0, .int 0, .int 9, .int 0, .int 0]))] sz)) 0 0 (va_A [(h0, .inr (11, [.ref z0, .ref z23, .ref z25, .ref z32, .ref z36, .ref z40, .ref z43, .ref z49])), (z0, .inr (8, [.ref z1, .ref z51, .ref z52, .ref z2, .ref z3, .int 0, .int 0, .int 9, .int 0, .int 0]))] sz) := by
  refine Met.ofW (cc := cX11_seen) (maxL := 5) (ret := (some .int)) (by decide) rfl ?_
  intro p e s m args below meth c s₁ B hml hv
  obtain ⟨rfl, hsz, hP, hK, hD0, hN⟩ := hv
  have hx := B.exec
  have hb := B.bytes
  have hr := B.returns
  have hts := atoms_spec (ws := wsX11_seen) B.pre
  have hown : s.vm.findClass RX11 = some m.cls := findClass_of_methodNamed B.named
  have hlocks := B.notSynchronized
  subst hsz
  have hD := hD0.self (sz := s.heap.size)
  generalize hAe : va_A [(h0, .inr (11, [.ref z0, .ref z23, .ref z25, .ref z32, .ref z36, .ref z40, .ref z43, .ref z49])), (z0, .inr (8, [.ref z1, .ref z51, .ref z52, .ref z2, .ref z3, .int 0, .int 0, .int 9, .int 0, .int 0]))] s.heap.size = A at hD ⊢
  have hA : ∀ q : Nat, s.heap.size ≤ q → A q := fun q h => by rw [← hAe]; exact Or.inr h
  have hS : va_S A s.heap s.heap [] := va_S.rf
  have hP : va_P D vwCl [(h0, .inr (11, [.ref z0, .ref z23, .ref z25, .ref z32, .ref z36, .ref z40, .ref z43, .ref z49])), (z0, .inr (8, [.ref z1, .ref z51, .ref z52, .ref z2, .ref z3, .int 0, .int 0, .int 9, .int 0, .int 0]))] s.heap := hP
  have hl := lv_entry ([.ref h0, .int x1, .int x2, .int x3, .int x4]) (n := 5) (Nat.le_of_ble_eq_true rfl)
  rw [lg_entry_eq]
  generalize (lg_sl ([.ref h0, .int x1, .int x2, .int x3, .int x4]) ++ List.replicate (5 - (lg_sl ([.ref h0, .int x1, .int x2, .int x3, .int x4])).length) Slot.unset).toArray = ls at hl ⊢
  have hl : lv_has ls 5 [(0, .ref h0), (1, .int x1), (2, .int x2), (3, .int x3), (4, .int x4)] := hl
  refine lv_aload_n hx hb dX11_seen_0 rfl (lv_at hl 0 rfl) ?_
  refine lv_iload_n hx hb dX11_seen_1 rfl (lv_at hl 1 rfl) ?_
  refine lv_iload_n hx hb dX11_seen_2 rfl (lv_at hl 3 rfl) ?_
  have hPc := hP.sub (ws' := [(h0, .inr (11, [.ref z0, .ref z23, .ref z25, .ref z32, .ref z36, .ref z40, .ref z43, .ref z49])), (z0, .inr (8, [.ref z1, .ref z51, .ref z52, .ref z2, .ref z3, .int 0, .int 0, .int 9, .int 0, .int 0]))]) [0, 1] rfl
  have hDc := hD.sub (ws' := [(h0, .inr (11, [.ref z0, .ref z23, .ref z25, .ref z32, .ref z36, .ref z40, .ref z43, .ref z49])), (z0, .inr (8, [.ref z1, .ref z51, .ref z52, .ref z2, .ref z3, .int 0, .int 0, .int 9, .int 0, .int 0]))]) [0, 1] (by decide) rfl
  have hFc := va_free (wc := [(h0, .inr (11, [.ref z0, .ref z23, .ref z25, .ref z32, .ref z36, .ref z40, .ref z43, .ref z49])), (z0, .inr (8, [.ref z1, .ref z51, .ref z52, .ref z2, .ref z3, .int 0, .int 0, .int 9, .int 0, .int 0]))]) hD hS hA [0, 1] rfl
  refine va_calli (va_runV (As := [.int x1, .int x3]) (rest := []) ⟨hx, hb, hml, hown, hts⟩ (kX11_hasLimb l D G h0 x1 x3 z0 z23 z25 z32 z36 z40 z43 z49 z1 z51 z52 z2 z3 s.heap.size) (cwV 2 hts gX11_seen_X11_hasLimb rfl rfl rfl (by decide +kernel) ⟨Nat.le_of_ble_eq_true rfl, Nat.le_of_ble_eq_true rfl⟩) ⟨wB_blind, va_recv hK hPc (ci := 11) (q0 := 0) rfl rfl, wB_pre hPc hK hDc hN⟩ rfl rfl hl.1 rfl (lv_room (Nat.le_of_ble_eq_true rfl)) dX11_seen_3 ⟨Nat.le_of_ble_eq_true rfl, Nat.le_of_ble_eq_true rfl⟩) hS (fun q _ h => hFc q h) hFc (fun r1 u t H1 locs ht hvm hr1 hB hz1 hk1 hS => ?_)
  obtain ⟨hP1, hK1, hD1⟩ := hB
  rw [ht] at hP1
  obtain ⟨hP, hD⟩ := va_join (wr := []) (w1 := [(h0, .inr (11, [.ref z0, .ref z23, .ref z25, .ref z32, .ref z36, .ref z40, .ref z43, .ref z49])), (z0, .inr (8, [.ref z1, .ref z51, .ref z52, .ref z2, .ref z3, .int 0, .int 0, .int 9, .int 0, .int 0]))]) hP hD [0, 1] [] rfl rfl (by decide) (by decide) hk1 hFc hP1 hD1
  clear hPc hDc
  generalize H1 = H at hP hS ⊢
  have hP : va_P D vwCl [(h0, .inr (11, [.ref z0, .ref z23, .ref z25, .ref z32, .ref z36, .ref z40, .ref z43, .ref z49])), (z0, .inr (8, [.ref z1, .ref z51, .ref z52, .ref z2, .ref z3, .int 0, .int 0, .int 9, .int 0, .int 0]))] H := hP
  have hD : va_D A [(h0, .inr (11, [.ref z0, .ref z23, .ref z25, .ref z32, .ref z36, .ref z40, .ref z43, .ref z49])), (z0, .inr (8, [.ref z1, .ref z51, .ref z52, .ref z2, .ref z3, .int 0, .int 0, .int 9, .int 0, .int 0]))] := hD
  subst hr1
  refine lv_if_eq (tgt := 42) hx hb dX11_seen_6 (by decide) (fun _ => ?_) (fun h9 => absurd h9 (by decide))
  refine lv_iconst (v := (-1)) hx hb dX11_seen_42 (by decide) ?_
  exact W.iret (v := (-1)) hx hb hr (fun t ht hW => ⟨⟨(-1), (), rfl, rfl, trivial⟩, hS.F ht⟩) hS.2.2 dX11_seen_43

set_option maxRecDepth 20000 in
theorem ggX11_broken_X11_hasFigure : GoodIn wsX11_broken wsX11_hasFigure := goodIn_r _ [11, 1, 12, 13, 14, 10, 15, 145, 146, 147, 148, 149, 150, 151, 152, 153, 154, 155, 156, 157, 158, 159, 160, 161, 162] (by decide +kernel) (by decide +kernel)
set_option maxRecDepth 20000 in
theorem gX11_broken_X11_hasFigure : GoodIn wsX11_broken (wsV RX11 108 RX11 yX11_hasFigure wsX11_hasFigure) := goodIn_app (goodIn_of _ (by decide +kernel)) ggX11_broken_X11_hasFigure
theorem dX11_broken_0 : decode cX11_broken 0 = .ok (.aload_n 0, 1) := by decide +kernel
theorem dX11_broken_1 : decode cX11_broken 1 = .ok (.iload_n 1, 1) := by decide +kernel
theorem dX11_broken_2 : decode cX11_broken 2 = .ok (.invokevirtual 108, 3) := by decide +kernel
theorem dX11_broken_5 : decode cX11_broken 5 = .ok (.ifCond .ne 5, 3) := by decide +kernel
theorem dX11_broken_8 : decode cX11_broken 8 = .ok (.iconst (-1), 1) := by decide +kernel
theorem dX11_broken_9 : decode cX11_broken 9 = .ok (.ireturn, 1) := by decide +kernel
set_option maxHeartbeats 4000000 in
set_option maxRecDepth 100000 in
/-- X11_broken -/
theorem kX11_broken (l : Launch) (D : va_G) (G : tyG) (h0 : Nat) (x1 : Int32) (z0 : Nat) (z23 : Nat) (z25 : Nat) (z32 : Nat) (z36 : Nat) (z40 : Nat) (z43 : Nat) (z49 : Nat) (z1 : Nat) (z51 : Nat) (z52 : Nat) (z2 : Nat) (z3 : Nat) (sz : Nat) : Met l yX11_broken wsX11_broken ({ frames := 2, cells := 0, slots := 0, locals := 43 }) (va_Pc [.ref h0, .int x1] (wB D G sz [(h0, .inr (11, [.ref z0, .ref z23, .ref z25, .ref z32, .ref z36, .ref z40, .ref z43, .ref z49])), (z0, .inr (8, [.ref z1, .ref z51, .ref z52, .ref z2, .ref z3, .int 0, .int 0, .int 9, .int 0, .int 0]))])) (va_Qi (fun (r : Int32) (_ : Unit) => r = (-1)) (fun _ _ => True) (va_A [(h0, .inr (11, [.ref z0, .ref z23, .ref z25, .ref z32, .ref z36, .ref z40, .ref z43, .ref z49])), (z0, .inr (8, [.ref z1, .ref z51, .ref z52, .ref z2, .ref z3, .int 0, .int 0, .int 9, .int 0, .int 0]))] sz)) 0 0 (va_A [(h0, .inr (11, [.ref z0, .ref z23, .ref z25, .ref z32, .ref z36, .ref z40, .ref z43, .ref z49])), (z0, .inr (8, [.ref z1, .ref z51, .ref z52, .ref z2, .ref z3, .int 0, .int 0, .int 9, .int 0, .int 0]))] sz) := by
  refine Met.ofW (cc := cX11_broken) (maxL := 3) (ret := (some .int)) (by decide) rfl ?_
  intro p e s m args below meth c s₁ B hml hv
  obtain ⟨rfl, hsz, hP, hK, hD0, hN⟩ := hv
  have hx := B.exec
  have hb := B.bytes
  have hr := B.returns
  have hts := atoms_spec (ws := wsX11_broken) B.pre
  have hown : s.vm.findClass RX11 = some m.cls := findClass_of_methodNamed B.named
  have hlocks := B.notSynchronized
  subst hsz
  have hD := hD0.self (sz := s.heap.size)
  generalize hAe : va_A [(h0, .inr (11, [.ref z0, .ref z23, .ref z25, .ref z32, .ref z36, .ref z40, .ref z43, .ref z49])), (z0, .inr (8, [.ref z1, .ref z51, .ref z52, .ref z2, .ref z3, .int 0, .int 0, .int 9, .int 0, .int 0]))] s.heap.size = A at hD ⊢
  have hA : ∀ q : Nat, s.heap.size ≤ q → A q := fun q h => by rw [← hAe]; exact Or.inr h
  have hS : va_S A s.heap s.heap [] := va_S.rf
  have hP : va_P D vwCl [(h0, .inr (11, [.ref z0, .ref z23, .ref z25, .ref z32, .ref z36, .ref z40, .ref z43, .ref z49])), (z0, .inr (8, [.ref z1, .ref z51, .ref z52, .ref z2, .ref z3, .int 0, .int 0, .int 9, .int 0, .int 0]))] s.heap := hP
  have hl := lv_entry ([.ref h0, .int x1]) (n := 3) (Nat.le_of_ble_eq_true rfl)
  rw [lg_entry_eq]
  generalize (lg_sl ([.ref h0, .int x1]) ++ List.replicate (3 - (lg_sl ([.ref h0, .int x1])).length) Slot.unset).toArray = ls at hl ⊢
  have hl : lv_has ls 3 [(0, .ref h0), (1, .int x1)] := hl
  refine lv_aload_n hx hb dX11_broken_0 rfl (lv_at hl 0 rfl) ?_
  refine lv_iload_n hx hb dX11_broken_1 rfl (lv_at hl 1 rfl) ?_
  have hPc := hP.sub (ws' := [(h0, .inr (11, [.ref z0, .ref z23, .ref z25, .ref z32, .ref z36, .ref z40, .ref z43, .ref z49])), (z0, .inr (8, [.ref z1, .ref z51, .ref z52, .ref z2, .ref z3, .int 0, .int 0, .int 9, .int 0, .int 0]))]) [0, 1] rfl
  have hDc := hD.sub (ws' := [(h0, .inr (11, [.ref z0, .ref z23, .ref z25, .ref z32, .ref z36, .ref z40, .ref z43, .ref z49])), (z0, .inr (8, [.ref z1, .ref z51, .ref z52, .ref z2, .ref z3, .int 0, .int 0, .int 9, .int 0, .int 0]))]) [0, 1] (by decide) rfl
  have hFc := va_free (wc := [(h0, .inr (11, [.ref z0, .ref z23, .ref z25, .ref z32, .ref z36, .ref z40, .ref z43, .ref z49])), (z0, .inr (8, [.ref z1, .ref z51, .ref z52, .ref z2, .ref z3, .int 0, .int 0, .int 9, .int 0, .int 0]))]) hD hS hA [0, 1] rfl
  refine va_calli (va_runV (As := [.int x1]) (rest := []) ⟨hx, hb, hml, hown, hts⟩ (kX11_hasFigure l D G h0 x1 z0 z23 z25 z32 z36 z40 z43 z49 z1 z51 z52 z2 z3 s.heap.size) (cwV 1 hts gX11_broken_X11_hasFigure rfl rfl rfl (by decide +kernel) ⟨Nat.le_of_ble_eq_true rfl, Nat.le_of_ble_eq_true rfl⟩) ⟨wB_blind, va_recv hK hPc (ci := 11) (q0 := 0) rfl rfl, wB_pre hPc hK hDc hN⟩ rfl rfl hl.1 rfl (lv_room (Nat.le_of_ble_eq_true rfl)) dX11_broken_2 ⟨Nat.le_of_ble_eq_true rfl, Nat.le_of_ble_eq_true rfl⟩) hS (fun q _ h => hFc q h) hFc (fun r1 u t H1 locs ht hvm hr1 hB hz1 hk1 hS => ?_)
  obtain ⟨hP1, hK1, hD1⟩ := hB
  rw [ht] at hP1
  obtain ⟨hP, hD⟩ := va_join (wr := []) (w1 := [(h0, .inr (11, [.ref z0, .ref z23, .ref z25, .ref z32, .ref z36, .ref z40, .ref z43, .ref z49])), (z0, .inr (8, [.ref z1, .ref z51, .ref z52, .ref z2, .ref z3, .int 0, .int 0, .int 9, .int 0, .int 0]))]) hP hD [0, 1] [] rfl rfl (by decide) (by decide) hk1 hFc hP1 hD1
  clear hPc hDc
  generalize H1 = H at hP hS ⊢
  have hP : va_P D vwCl [(h0, .inr (11, [.ref z0, .ref z23, .ref z25, .ref z32, .ref z36, .ref z40, .ref z43, .ref z49])), (z0, .inr (8, [.ref z1, .ref z51, .ref z52, .ref z2, .ref z3, .int 0, .int 0, .int 9, .int 0, .int 0]))] H := hP
  have hD : va_D A [(h0, .inr (11, [.ref z0, .ref z23, .ref z25, .ref z32, .ref z36, .ref z40, .ref z43, .ref z49])), (z0, .inr (8, [.ref z1, .ref z51, .ref z52, .ref z2, .ref z3, .int 0, .int 0, .int 9, .int 0, .int 0]))] := hD
  subst hr1
  refine lv_if_ne (tgt := 10) hx hb dX11_broken_5 (by decide) (fun h9 => absurd h9 (by decide)) (fun _ => ?_)
  refine lv_iconst (v := (-1)) hx hb dX11_broken_8 (by decide) ?_
  exact W.iret (v := (-1)) hx hb hr (fun t ht hW => ⟨⟨(-1), (), rfl, rfl, trivial⟩, hS.F ht⟩) hS.2.2 dX11_broken_9

theorem mX11_set_w0 : Cond.fieldLink RX11 10 "PuppetBridge" "stage" "LPuppetBridge$Stage;" ∈ wsX11_set := by decide +kernel
theorem mX11_set_w3 : Cond.fieldLink RX11 127 "PuppetBridge$Stage" "slippery" "Z" ∈ wsX11_set := by decide +kernel
theorem mX11_set_w2 : Cond.fieldLink RX11 145 "PuppetBridge$Stage" "near" "I" ∈ wsX11_set := by decide +kernel
theorem mX11_set_w1 : Cond.fieldLink RX11 142 "PuppetBridge$Stage" "rate" "I" ∈ wsX11_set := by decide +kernel
theorem iX11_set_X11 : ∀ w ∈ wsX110, w ∈ wsX11_set := fun _ h => List.mem_cons_of_mem _ (List.mem_append_left _ (List.mem_append_right _ h))
theorem iX11_set_X8 : ∀ w ∈ wsX80, w ∈ wsX11_set := fun _ h => List.mem_cons_of_mem _ (List.mem_append_right _ h)
set_option maxRecDepth 20000 in
theorem ggX11_set_X11_within : GoodIn wsX11_set wsX11_within := goodIn_r _ [8] (by decide +kernel) (by decide +kernel)
set_option maxRecDepth 20000 in
theorem gX11_set_X11_within : GoodIn wsX11_set (va_wsS RX11 94 yX11_within wsX11_within) := goodIn_app (goodIn_of _ (by decide +kernel)) ggX11_set_X11_within
theorem dX11_set_0 : decode cX11_set 0 = .ok (.iconst (-1), 1) := by decide +kernel
theorem dX11_set_1 : decode cX11_set 1 = .ok (.istore_n 3, 1) := by decide +kernel
theorem dX11_set_2 : decode cX11_set 2 = .ok (.iload_n 1, 1) := by decide +kernel
theorem dX11_set_3 : decode cX11_set 3 = .ok (.ifCond .ne 32, 3) := by decide +kernel
theorem dX11_set_6 : decode cX11_set 6 = .ok (.iload_n 2, 1) := by decide +kernel
theorem dX11_set_7 : decode cX11_set 7 = .ok (.iconst 1, 1) := by decide +kernel
theorem dX11_set_8 : decode cX11_set 8 = .ok (.bipush 9, 2) := by decide +kernel
theorem dX11_set_10 : decode cX11_set 10 = .ok (.invokestatic 94, 3) := by decide +kernel
theorem dX11_set_13 : decode cX11_set 13 = .ok (.ifCond .eq 22, 3) := by decide +kernel
theorem dX11_set_16 : decode cX11_set 16 = .ok (.aload_n 0, 1) := by decide +kernel
theorem dX11_set_17 : decode cX11_set 17 = .ok (.getfield 10, 3) := by decide +kernel
theorem dX11_set_20 : decode cX11_set 20 = .ok (.getfield 142, 3) := by decide +kernel
theorem dX11_set_23 : decode cX11_set 23 = .ok (.istore_n 3, 1) := by decide +kernel
theorem dX11_set_24 : decode cX11_set 24 = .ok (.aload_n 0, 1) := by decide +kernel
theorem dX11_set_25 : decode cX11_set 25 = .ok (.getfield 10, 3) := by decide +kernel
theorem dX11_set_28 : decode cX11_set 28 = .ok (.iload_n 2, 1) := by decide +kernel
theorem dX11_set_29 : decode cX11_set 29 = .ok (.putfield 142, 3) := by decide +kernel
theorem dX11_set_32 : decode cX11_set 32 = .ok (.goto 85, 3) := by decide +kernel
theorem dX11_set_35 : decode cX11_set 35 = .ok (.iload_n 1, 1) := by decide +kernel
theorem dX11_set_36 : decode cX11_set 36 = .ok (.iconst 1, 1) := by decide +kernel
theorem dX11_set_37 : decode cX11_set 37 = .ok (.if_icmp .ne 33, 3) := by decide +kernel
theorem dX11_set_40 : decode cX11_set 40 = .ok (.iload_n 2, 1) := by decide +kernel
theorem dX11_set_41 : decode cX11_set 41 = .ok (.iconst 0, 1) := by decide +kernel
theorem dX11_set_42 : decode cX11_set 42 = .ok (.sipush 2000, 3) := by decide +kernel
theorem dX11_set_45 : decode cX11_set 45 = .ok (.invokestatic 94, 3) := by decide +kernel
theorem dX11_set_48 : decode cX11_set 48 = .ok (.ifCond .eq 22, 3) := by decide +kernel
theorem dX11_set_51 : decode cX11_set 51 = .ok (.aload_n 0, 1) := by decide +kernel
theorem dX11_set_52 : decode cX11_set 52 = .ok (.getfield 10, 3) := by decide +kernel
theorem dX11_set_55 : decode cX11_set 55 = .ok (.getfield 145, 3) := by decide +kernel
theorem dX11_set_58 : decode cX11_set 58 = .ok (.istore_n 3, 1) := by decide +kernel
theorem dX11_set_59 : decode cX11_set 59 = .ok (.aload_n 0, 1) := by decide +kernel
theorem dX11_set_60 : decode cX11_set 60 = .ok (.getfield 10, 3) := by decide +kernel
theorem dX11_set_63 : decode cX11_set 63 = .ok (.iload_n 2, 1) := by decide +kernel
theorem dX11_set_64 : decode cX11_set 64 = .ok (.putfield 145, 3) := by decide +kernel
theorem dX11_set_67 : decode cX11_set 67 = .ok (.goto 50, 3) := by decide +kernel
theorem dX11_set_70 : decode cX11_set 70 = .ok (.iload_n 1, 1) := by decide +kernel
theorem dX11_set_71 : decode cX11_set 71 = .ok (.iconst 2, 1) := by decide +kernel
theorem dX11_set_72 : decode cX11_set 72 = .ok (.if_icmp .ne 45, 3) := by decide +kernel
theorem dX11_set_75 : decode cX11_set 75 = .ok (.iload_n 2, 1) := by decide +kernel
theorem dX11_set_76 : decode cX11_set 76 = .ok (.iconst 0, 1) := by decide +kernel
theorem dX11_set_77 : decode cX11_set 77 = .ok (.iconst 1, 1) := by decide +kernel
theorem dX11_set_78 : decode cX11_set 78 = .ok (.invokestatic 94, 3) := by decide +kernel
theorem dX11_set_81 : decode cX11_set 81 = .ok (.ifCond .eq 36, 3) := by decide +kernel
theorem dX11_set_84 : decode cX11_set 84 = .ok (.aload_n 0, 1) := by decide +kernel
theorem dX11_set_85 : decode cX11_set 85 = .ok (.getfield 10, 3) := by decide +kernel
theorem dX11_set_88 : decode cX11_set 88 = .ok (.getfield 127, 3) := by decide +kernel
theorem dX11_set_91 : decode cX11_set 91 = .ok (.ifCond .eq 7, 3) := by decide +kernel
theorem dX11_set_98 : decode cX11_set 98 = .ok (.iconst 0, 1) := by decide +kernel
theorem dX11_set_99 : decode cX11_set 99 = .ok (.istore_n 3, 1) := by decide +kernel
theorem dX11_set_100 : decode cX11_set 100 = .ok (.aload_n 0, 1) := by decide +kernel
theorem dX11_set_101 : decode cX11_set 101 = .ok (.getfield 10, 3) := by decide +kernel
theorem dX11_set_104 : decode cX11_set 104 = .ok (.iload_n 2, 1) := by decide +kernel
theorem dX11_set_105 : decode cX11_set 105 = .ok (.iconst 1, 1) := by decide +kernel
theorem dX11_set_106 : decode cX11_set 106 = .ok (.if_icmp .ne 7, 3) := by decide +kernel
theorem dX11_set_109 : decode cX11_set 109 = .ok (.iconst 1, 1) := by decide +kernel
theorem dX11_set_110 : decode cX11_set 110 = .ok (.goto 4, 3) := by decide +kernel
theorem dX11_set_113 : decode cX11_set 113 = .ok (.iconst 0, 1) := by decide +kernel
theorem dX11_set_114 : decode cX11_set 114 = .ok (.putfield 127, 3) := by decide +kernel
theorem dX11_set_117 : decode cX11_set 117 = .ok (.iload_n 3, 1) := by decide +kernel
theorem dX11_set_118 : decode cX11_set 118 = .ok (.ireturn, 1) := by decide +kernel
set_option maxHeartbeats 4000000 in
set_option maxRecDepth 100000 in
/-- X11_set -/
theorem kX11_set (l : Launch) (D : va_G) (G : tyG) (h0 : Nat) (x1 : Int32) (x2 : Int32) (z0 : Nat) (z23 : Nat) (z25 : Nat) (z32 : Nat) (z36 : Nat) (z40 : Nat) (z43 : Nat) (z49 : Nat) (z1 : Nat) (z51 : Nat) (z52 : Nat) (z2 : Nat) (z3 : Nat) (sz : Nat) : Met l yX11_set wsX11_set ({ frames := 1, cells := 0, slots := 0, locals := 22 }) (va_Pc [.ref h0, .int x1, .int x2] (wB D G sz [(h0, .inr (11, [.ref z0, .ref z23, .ref z25, .ref z32, .ref z36, .ref z40, .ref z43, .ref z49])), (z0, .inr (8, [.ref z1, .ref z51, .ref z52, .ref z2, .ref z3, .int 0, .int 0, .int 9, .int 0, .int 0]))])) (va_Qi (fun (r : Int32) (_ : Unit) => r = sSet x1 x2) (fun _ _ => True) (va_A [(h0, .inr (11, [.ref z0, .ref z23, .ref z25, .ref z32, .ref z36, .ref z40, .ref z43, .ref z49])), (z0, .inr (8, [.ref z1, .ref z51, .ref z52, .ref z2, .ref z3, .int 0, .int 0, .int 9, .int 0, .int 0]))] sz)) 0 0 (va_A [(h0, .inr (11, [.ref z0, .ref z23, .ref z25, .ref z32, .ref z36, .ref z40, .ref z43, .ref z49])), (z0, .inr (8, [.ref z1, .ref z51, .ref z52, .ref z2, .ref z3, .int 0, .int 0, .int 9, .int 0, .int 0]))] sz) := by
  refine Met.ofW (cc := cX11_set) (maxL := 4) (ret := (some .int)) (by decide) rfl ?_
  intro p e s m args below meth c s₁ B hml hv
  obtain ⟨rfl, hsz, hP, hK, hD0, hN⟩ := hv
  have hx := B.exec
  have hb := B.bytes
  have hr := B.returns
  have hts := atoms_spec (ws := wsX11_set) B.pre
  have hown : s.vm.findClass RX11 = some m.cls := findClass_of_methodNamed B.named
  have hlocks := B.notSynchronized
  subst hsz
  have hD := hD0.self (sz := s.heap.size)
  generalize hAe : va_A [(h0, .inr (11, [.ref z0, .ref z23, .ref z25, .ref z32, .ref z36, .ref z40, .ref z43, .ref z49])), (z0, .inr (8, [.ref z1, .ref z51, .ref z52, .ref z2, .ref z3, .int 0, .int 0, .int 9, .int 0, .int 0]))] s.heap.size = A at hD ⊢
  have hA : ∀ q : Nat, s.heap.size ≤ q → A q := fun q h => by rw [← hAe]; exact Or.inr h
  have hS : va_S A s.heap s.heap [] := va_S.rf
  have hP : va_P D vwCl [(h0, .inr (11, [.ref z0, .ref z23, .ref z25, .ref z32, .ref z36, .ref z40, .ref z43, .ref z49])), (z0, .inr (8, [.ref z1, .ref z51, .ref z52, .ref z2, .ref z3, .int 0, .int 0, .int 9, .int 0, .int 0]))] s.heap := hP
  have hl := lv_entry ([.ref h0, .int x1, .int x2]) (n := 4) (Nat.le_of_ble_eq_true rfl)
  rw [lg_entry_eq]
  generalize (lg_sl ([.ref h0, .int x1, .int x2]) ++ List.replicate (4 - (lg_sl ([.ref h0, .int x1, .int x2])).length) Slot.unset).toArray = ls at hl ⊢
  have hl : lv_has ls 4 [(0, .ref h0), (1, .int x1), (2, .int x2)] := hl
  refine lv_iconst (v := (-1)) hx hb dX11_set_0 (by decide) ?_
  refine lv_istore_n (lv' := [(3, .int (-1)), (0, .ref h0), (1, .int x1), (2, .int x2)]) hx hb dX11_set_1 rfl hl (by decide) rfl (fun ls hl => ?_)
  refine lv_iload_n hx hb dX11_set_2 rfl (lv_at hl 2 rfl) ?_
  refine lv_if_ne (tgt := 35) hx hb dX11_set_3 (by decide) (fun c1 => ?_) (fun c1 => ?_)
  · refine lv_iload_n hx hb dX11_set_35 rfl (lv_at hl 2 rfl) ?_
    refine lv_iconst (v := 1) hx hb dX11_set_36 (by decide) ?_
    refine lv_icmp_ne (tgt := 70) hx hb dX11_set_37 (by decide) (fun c2 => ?_) (fun c2 => ?_)
    · refine lv_iload_n hx hb dX11_set_70 rfl (lv_at hl 2 rfl) ?_
      refine lv_iconst (v := 2) hx hb dX11_set_71 (by decide) ?_
      refine lv_icmp_ne (tgt := 117) hx hb dX11_set_72 (by decide) (fun c3 => ?_) (fun c3 => ?_)
      · refine lv_iload_n hx hb dX11_set_117 rfl (lv_at hl 0 rfl) ?_
        exact W.iret (v := (-1)) hx hb hr (fun t ht hW => ⟨⟨(-1), (), rfl, by first | (simp [sSet, c1, c2, c3]; done) | (simp [sSet, c1, c2]; done) | (simp [sSet, c1]; done) | rfl, trivial⟩, hS.F ht⟩) hS.2.2 dX11_set_118
      · refine lv_iload_n hx hb dX11_set_75 rfl (lv_at hl 3 rfl) ?_
        refine lv_iconst (v := 0) hx hb dX11_set_76 (by decide) ?_
        refine lv_iconst (v := 1) hx hb dX11_set_77 (by decide) ?_
        have hPc := hP.sub (ws' := []) [] rfl
        have hDc := hD.sub (ws' := []) [] (by decide) rfl
        have hFc := va_free (wc := []) hD hS hA [] rfl
        refine va_calli (va_runS (As := [.int x2, .int 0, .int 1]) (rest := []) ⟨hx, hb, hml, hown, hts⟩ (kX11_within l D G x2 0 1 s.heap.size) (va_cwS 3 hts gX11_set_X11_within rfl rfl rfl (by decide +kernel) ⟨Nat.le_of_ble_eq_true rfl, Nat.le_of_ble_eq_true rfl⟩) ⟨wB_blind, wB_pre hPc hK hDc hN⟩ rfl rfl hl.1 rfl (lv_room (Nat.le_of_ble_eq_true rfl)) dX11_set_78 ⟨Nat.le_of_ble_eq_true rfl, Nat.le_of_ble_eq_true rfl⟩) hS (fun q _ h => hFc q h) hFc (fun r4 u t H1 locs ht hvm hr4 hB hz1 hk1 hS => ?_)
        obtain ⟨hP, hD⟩ := va_join (wr := [(h0, .inr (11, [.ref z0, .ref z23, .ref z25, .ref z32, .ref z36, .ref z40, .ref z43, .ref z49])), (z0, .inr (8, [.ref z1, .ref z51, .ref z52, .ref z2, .ref z3, .int 0, .int 0, .int 9, .int 0, .int 0]))]) (w1 := []) hP hD [] [0, 1] rfl rfl (by decide) (by decide) hk1 hFc wP_nil wD_nil
        clear hPc hDc
        generalize H1 = H at hP hS ⊢
        have hP : va_P D vwCl [(h0, .inr (11, [.ref z0, .ref z23, .ref z25, .ref z32, .ref z36, .ref z40, .ref z43, .ref z49])), (z0, .inr (8, [.ref z1, .ref z51, .ref z52, .ref z2, .ref z3, .int 0, .int 0, .int 9, .int 0, .int 0]))] H := hP
        have hD : va_D A [(h0, .inr (11, [.ref z0, .ref z23, .ref z25, .ref z32, .ref z36, .ref z40, .ref z43, .ref z49])), (z0, .inr (8, [.ref z1, .ref z51, .ref z52, .ref z2, .ref z3, .int 0, .int 0, .int 9, .int 0, .int 0]))] := hD
        refine lv_if_eq (tgt := 117) hx hb dX11_set_81 (by decide) (fun c5 => ?_) (fun c5 => ?_)
        · have kc5 : (inB x2 0 1) = false := wk_b0 hr4 c5
          refine lv_iload_n hx hb dX11_set_117 rfl (lv_at hl 0 rfl) ?_
          exact W.iret (v := (-1)) hx hb hr (fun t ht hW => ⟨⟨(-1), (), rfl, by first | (simp [sSet, c1, c2, c3, kc5]; done) | (simp [sSet, c1, c2, c3]; done) | (simp [sSet, c1, c2]; done) | (simp [sSet, c1]; done) | rfl, trivial⟩, hS.F ht⟩) hS.2.2 dX11_set_118
        · have kc5 : (inB x2 0 1) = true := wk_b1 hr4 c5
          refine lv_aload_n hx hb dX11_set_84 rfl (lv_at hl 1 rfl) ?_
          refine va_get (D := D) (ci := 11) (v := .ref z0) (C := RX11) (T := TX11) (N := 8) hx hb hts iX11_set_X11 hown hK hP 0 rfl rfl 0 (by decide) (hts (.fieldLink RX11 10 "PuppetBridge" "stage" "LPuppetBridge$Stage;") mX11_set_w0) (fun _ h9 => h9) rfl dX11_set_85 ?_
          refine va_get (D := D) (ci := 8) (v := .int 0) (C := RX8) (T := TX8) (N := 10) hx hb hts iX11_set_X8 hown hK hP 1 rfl rfl 9 (by decide) (hts (.fieldLink RX11 127 "PuppetBridge$Stage" "slippery" "Z") mX11_set_w3) (fun _ h9 => h9) rfl dX11_set_88 ?_
          refine lv_if_eq (tgt := 98) hx hb dX11_set_91 (by decide) (fun _ => ?_) (fun h9 => absurd h9 (by decide))
          refine lv_iconst (v := 0) hx hb dX11_set_98 (by decide) ?_
          refine lv_istore_n (lv' := [(3, .int 0), (0, .ref h0), (1, .int x1), (2, .int x2)]) hx hb dX11_set_99 rfl hl (by decide) rfl (fun ls hl => ?_)
          refine lv_aload_n hx hb dX11_set_100 rfl (lv_at hl 1 rfl) ?_
          refine va_get (D := D) (ci := 11) (v := .ref z0) (C := RX11) (T := TX11) (N := 8) hx hb hts iX11_set_X11 hown hK hP 0 rfl rfl 0 (by decide) (hts (.fieldLink RX11 10 "PuppetBridge" "stage" "LPuppetBridge$Stage;") mX11_set_w0) (fun _ h9 => h9) rfl dX11_set_101 ?_
          refine lv_iload_n hx hb dX11_set_104 rfl (lv_at hl 3 rfl) ?_
          refine lv_iconst (v := 1) hx hb dX11_set_105 (by decide) ?_
          refine lv_icmp_ne (tgt := 113) hx hb dX11_set_106 (by decide) (fun c6 => ?_) (fun c6 => ?_)
          · refine lv_iconst (v := 0) hx hb dX11_set_113 (by decide) ?_
            refine va_put (D := D) (ci := 8) (v := .int 0) (ty := (tyX8 9)) (C := RX8) (T := TX8) (N := 10) hx hb hts iX11_set_X8 tyX8 tyX8_ok nmX8 hown hK hP hD hS 1 rfl rfl 9 (by decide) (hts (.fieldLink RX11 127 "PuppetBridge$Stage" "slippery" "Z") mX11_set_w3) (fun _ h9 => h9) rfl (tyX8_ok 9 (by decide)) rfl rfl (Nat.le_of_ble_eq_true rfl) dX11_set_114 (fun H locs hP hD hS => ?_)
            have hP : va_P D vwCl [(h0, .inr (11, [.ref z0, .ref z23, .ref z25, .ref z32, .ref z36, .ref z40, .ref z43, .ref z49])), (z0, .inr (8, [.ref z1, .ref z51, .ref z52, .ref z2, .ref z3, .int 0, .int 0, .int 9, .int 0, .int 0]))] H := hP
            have hD : va_D A [(h0, .inr (11, [.ref z0, .ref z23, .ref z25, .ref z32, .ref z36, .ref z40, .ref z43, .ref z49])), (z0, .inr (8, [.ref z1, .ref z51, .ref z52, .ref z2, .ref z3, .int 0, .int 0, .int 9, .int 0, .int 0]))] := hD
            refine lv_iload_n hx hb dX11_set_117 rfl (lv_at hl 0 rfl) ?_
            exact W.iret (v := 0) hx hb hr (fun t ht hW => ⟨⟨0, (), rfl, by first | (simp [sSet, c1, c2, c3, kc5, c6]; done) | (simp [sSet, c1, c2, c3, kc5]; done) | (simp [sSet, c1, c2, c3]; done) | (simp [sSet, c1, c2]; done) | (simp [sSet, c1]; done) | rfl, trivial⟩, hS.F ht⟩) hS.2.2 dX11_set_118
          · refine lv_iconst (v := 1) hx hb dX11_set_109 (by decide) ?_
            refine lv_goto (tgt := 114) hx hb dX11_set_110 (by decide) ?_
            refine va_put (D := D) (ci := 8) (v := .int 1) (ty := (tyX8 9)) (C := RX8) (T := TX8) (N := 10) hx hb hts iX11_set_X8 tyX8 tyX8_ok nmX8 hown hK hP hD hS 1 rfl rfl 9 (by decide) (hts (.fieldLink RX11 127 "PuppetBridge$Stage" "slippery" "Z") mX11_set_w3) (fun _ h9 => h9) rfl (tyX8_ok 9 (by decide)) rfl rfl (Nat.le_of_ble_eq_true rfl) dX11_set_114 (fun H locs hP hD hS => ?_)
            have hP : va_P D vwCl [(h0, .inr (11, [.ref z0, .ref z23, .ref z25, .ref z32, .ref z36, .ref z40, .ref z43, .ref z49])), (z0, .inr (8, [.ref z1, .ref z51, .ref z52, .ref z2, .ref z3, .int 0, .int 0, .int 9, .int 0, .int 1]))] H := hP
            have hD : va_D A [(h0, .inr (11, [.ref z0, .ref z23, .ref z25, .ref z32, .ref z36, .ref z40, .ref z43, .ref z49])), (z0, .inr (8, [.ref z1, .ref z51, .ref z52, .ref z2, .ref z3, .int 0, .int 0, .int 9, .int 0, .int 1]))] := hD
            refine lv_iload_n hx hb dX11_set_117 rfl (lv_at hl 0 rfl) ?_
            exact W.iret (v := 0) hx hb hr (fun t ht hW => ⟨⟨0, (), rfl, by first | (simp [sSet, c1, c2, c3, kc5, c6]; done) | (simp [sSet, c1, c2, c3, kc5]; done) | (simp [sSet, c1, c2, c3]; done) | (simp [sSet, c1, c2]; done) | (simp [sSet, c1]; done) | rfl, trivial⟩, hS.F ht⟩) hS.2.2 dX11_set_118
    · refine lv_iload_n hx hb dX11_set_40 rfl (lv_at hl 3 rfl) ?_
      refine lv_iconst (v := 0) hx hb dX11_set_41 (by decide) ?_
      refine lv_sipush (v := 2000) hx hb dX11_set_42 (by decide) ?_
      have hPc := hP.sub (ws' := []) [] rfl
      have hDc := hD.sub (ws' := []) [] (by decide) rfl
      have hFc := va_free (wc := []) hD hS hA [] rfl
      refine va_calli (va_runS (As := [.int x2, .int 0, .int 2000]) (rest := []) ⟨hx, hb, hml, hown, hts⟩ (kX11_within l D G x2 0 2000 s.heap.size) (va_cwS 3 hts gX11_set_X11_within rfl rfl rfl (by decide +kernel) ⟨Nat.le_of_ble_eq_true rfl, Nat.le_of_ble_eq_true rfl⟩) ⟨wB_blind, wB_pre hPc hK hDc hN⟩ rfl rfl hl.1 rfl (lv_room (Nat.le_of_ble_eq_true rfl)) dX11_set_45 ⟨Nat.le_of_ble_eq_true rfl, Nat.le_of_ble_eq_true rfl⟩) hS (fun q _ h => hFc q h) hFc (fun r7 u t H1 locs ht hvm hr7 hB hz1 hk1 hS => ?_)
      obtain ⟨hP, hD⟩ := va_join (wr := [(h0, .inr (11, [.ref z0, .ref z23, .ref z25, .ref z32, .ref z36, .ref z40, .ref z43, .ref z49])), (z0, .inr (8, [.ref z1, .ref z51, .ref z52, .ref z2, .ref z3, .int 0, .int 0, .int 9, .int 0, .int 0]))]) (w1 := []) hP hD [] [0, 1] rfl rfl (by decide) (by decide) hk1 hFc wP_nil wD_nil
      clear hPc hDc
      generalize H1 = H at hP hS ⊢
      have hP : va_P D vwCl [(h0, .inr (11, [.ref z0, .ref z23, .ref z25, .ref z32, .ref z36, .ref z40, .ref z43, .ref z49])), (z0, .inr (8, [.ref z1, .ref z51, .ref z52, .ref z2, .ref z3, .int 0, .int 0, .int 9, .int 0, .int 0]))] H := hP
      have hD : va_D A [(h0, .inr (11, [.ref z0, .ref z23, .ref z25, .ref z32, .ref z36, .ref z40, .ref z43, .ref z49])), (z0, .inr (8, [.ref z1, .ref z51, .ref z52, .ref z2, .ref z3, .int 0, .int 0, .int 9, .int 0, .int 0]))] := hD
      refine lv_if_eq (tgt := 70) hx hb dX11_set_48 (by decide) (fun c8 => ?_) (fun c8 => ?_)
      · have kc8 : (inB x2 0 2000) = false := wk_b0 hr7 c8
        refine lv_iload_n hx hb dX11_set_70 rfl (lv_at hl 2 rfl) ?_
        refine lv_iconst (v := 2) hx hb dX11_set_71 (by decide) ?_
        refine lv_icmp_ne (tgt := 117) hx hb dX11_set_72 (by decide) (fun _ => ?_) (fun h9 => absurd h9 (by rw [c2]; decide))
        refine lv_iload_n hx hb dX11_set_117 rfl (lv_at hl 0 rfl) ?_
        exact W.iret (v := (-1)) hx hb hr (fun t ht hW => ⟨⟨(-1), (), rfl, by first | (simp [sSet, c1, c2, kc8]; done) | (simp [sSet, c1, c2]; done) | (simp [sSet, c1]; done) | rfl, trivial⟩, hS.F ht⟩) hS.2.2 dX11_set_118
      · have kc8 : (inB x2 0 2000) = true := wk_b1 hr7 c8
        refine lv_aload_n hx hb dX11_set_51 rfl (lv_at hl 1 rfl) ?_
        refine va_get (D := D) (ci := 11) (v := .ref z0) (C := RX11) (T := TX11) (N := 8) hx hb hts iX11_set_X11 hown hK hP 0 rfl rfl 0 (by decide) (hts (.fieldLink RX11 10 "PuppetBridge" "stage" "LPuppetBridge$Stage;") mX11_set_w0) (fun _ h9 => h9) rfl dX11_set_52 ?_
        refine va_get (D := D) (ci := 8) (v := .int 0) (C := RX8) (T := TX8) (N := 10) hx hb hts iX11_set_X8 hown hK hP 1 rfl rfl 8 (by decide) (hts (.fieldLink RX11 145 "PuppetBridge$Stage" "near" "I") mX11_set_w2) (fun _ h9 => h9) rfl dX11_set_55 ?_
        refine lv_istore_n (lv' := [(3, .int 0), (0, .ref h0), (1, .int x1), (2, .int x2)]) hx hb dX11_set_58 rfl hl (by decide) rfl (fun ls hl => ?_)
        refine lv_aload_n hx hb dX11_set_59 rfl (lv_at hl 1 rfl) ?_
        refine va_get (D := D) (ci := 11) (v := .ref z0) (C := RX11) (T := TX11) (N := 8) hx hb hts iX11_set_X11 hown hK hP 0 rfl rfl 0 (by decide) (hts (.fieldLink RX11 10 "PuppetBridge" "stage" "LPuppetBridge$Stage;") mX11_set_w0) (fun _ h9 => h9) rfl dX11_set_60 ?_
        refine lv_iload_n hx hb dX11_set_63 rfl (lv_at hl 3 rfl) ?_
        refine va_put (D := D) (ci := 8) (v := .int x2) (ty := (tyX8 8)) (C := RX8) (T := TX8) (N := 10) hx hb hts iX11_set_X8 tyX8 tyX8_ok nmX8 hown hK hP hD hS 1 rfl rfl 8 (by decide) (hts (.fieldLink RX11 145 "PuppetBridge$Stage" "near" "I") mX11_set_w2) (fun _ h9 => h9) rfl (tyX8_ok 8 (by decide)) rfl rfl (Nat.le_of_ble_eq_true rfl) dX11_set_64 (fun H locs hP hD hS => ?_)
        have hP : va_P D vwCl [(h0, .inr (11, [.ref z0, .ref z23, .ref z25, .ref z32, .ref z36, .ref z40, .ref z43, .ref z49])), (z0, .inr (8, [.ref z1, .ref z51, .ref z52, .ref z2, .ref z3, .int 0, .int 0, .int 9, .int x2, .int 0]))] H := hP
        have hD : va_D A [(h0, .inr (11, [.ref z0, .ref z23, .ref z25, .ref z32, .ref z36, .ref z40, .ref z43, .ref z49])), (z0, .inr (8, [.ref z1, .ref z51, .ref z52, .ref z2, .ref z3, .int 0, .int 0, .int 9, .int x2, .int 0]))] := hD
        refine lv_goto (tgt := 117) hx hb dX11_set_67 (by decide) ?_
        refine lv_iload_n hx hb dX11_set_117 rfl (lv_at hl 0 rfl) ?_
        exact W.iret (v := 0) hx hb hr (fun t ht hW => ⟨⟨0, (), rfl, by first | (simp [sSet, c1, c2, kc8]; done) | (simp [sSet, c1, c2]; done) | (simp [sSet, c1]; done) | rfl, trivial⟩, hS.F ht⟩) hS.2.2 dX11_set_118
  · refine lv_iload_n hx hb dX11_set_6 rfl (lv_at hl 3 rfl) ?_
    refine lv_iconst (v := 1) hx hb dX11_set_7 (by decide) ?_
    refine lv_bipush (v := 9) hx hb dX11_set_8 (by decide) ?_
    have hPc := hP.sub (ws' := []) [] rfl
    have hDc := hD.sub (ws' := []) [] (by decide) rfl
    have hFc := va_free (wc := []) hD hS hA [] rfl
    refine va_calli (va_runS (As := [.int x2, .int 1, .int 9]) (rest := []) ⟨hx, hb, hml, hown, hts⟩ (kX11_within l D G x2 1 9 s.heap.size) (va_cwS 3 hts gX11_set_X11_within rfl rfl rfl (by decide +kernel) ⟨Nat.le_of_ble_eq_true rfl, Nat.le_of_ble_eq_true rfl⟩) ⟨wB_blind, wB_pre hPc hK hDc hN⟩ rfl rfl hl.1 rfl (lv_room (Nat.le_of_ble_eq_true rfl)) dX11_set_10 ⟨Nat.le_of_ble_eq_true rfl, Nat.le_of_ble_eq_true rfl⟩) hS (fun q _ h => hFc q h) hFc (fun r9 u t H1 locs ht hvm hr9 hB hz1 hk1 hS => ?_)
    obtain ⟨hP, hD⟩ := va_join (wr := [(h0, .inr (11, [.ref z0, .ref z23, .ref z25, .ref z32, .ref z36, .ref z40, .ref z43, .ref z49])), (z0, .inr (8, [.ref z1, .ref z51, .ref z52, .ref z2, .ref z3, .int 0, .int 0, .int 9, .int 0, .int 0]))]) (w1 := []) hP hD [] [0, 1] rfl rfl (by decide) (by decide) hk1 hFc wP_nil wD_nil
    clear hPc hDc
    generalize H1 = H at hP hS ⊢
    have hP : va_P D vwCl [(h0, .inr (11, [.ref z0, .ref z23, .ref z25, .ref z32, .ref z36, .ref z40, .ref z43, .ref z49])), (z0, .inr (8, [.ref z1, .ref z51, .ref z52, .ref z2, .ref z3, .int 0, .int 0, .int 9, .int 0, .int 0]))] H := hP
    have hD : va_D A [(h0, .inr (11, [.ref z0, .ref z23, .ref z25, .ref z32, .ref z36, .ref z40, .ref z43, .ref z49])), (z0, .inr (8, [.ref z1, .ref z51, .ref z52, .ref z2, .ref z3, .int 0, .int 0, .int 9, .int 0, .int 0]))] := hD
    refine lv_if_eq (tgt := 35) hx hb dX11_set_13 (by decide) (fun c10 => ?_) (fun c10 => ?_)
    · have kc10 : (inB x2 1 9) = false := wk_b0 hr9 c10
      refine lv_iload_n hx hb dX11_set_35 rfl (lv_at hl 2 rfl) ?_
      refine lv_iconst (v := 1) hx hb dX11_set_36 (by decide) ?_
      refine lv_icmp_ne (tgt := 70) hx hb dX11_set_37 (by decide) (fun _ => ?_) (fun h9 => absurd h9 (by rw [c1]; decide))
      refine lv_iload_n hx hb dX11_set_70 rfl (lv_at hl 2 rfl) ?_
      refine lv_iconst (v := 2) hx hb dX11_set_71 (by decide) ?_
      refine lv_icmp_ne (tgt := 117) hx hb dX11_set_72 (by decide) (fun _ => ?_) (fun h9 => absurd h9 (by rw [c1]; decide))
      refine lv_iload_n hx hb dX11_set_117 rfl (lv_at hl 0 rfl) ?_
      exact W.iret (v := (-1)) hx hb hr (fun t ht hW => ⟨⟨(-1), (), rfl, by first | (simp [sSet, c1, kc10]; done) | (simp [sSet, c1]; done) | rfl, trivial⟩, hS.F ht⟩) hS.2.2 dX11_set_118
    · have kc10 : (inB x2 1 9) = true := wk_b1 hr9 c10
      refine lv_aload_n hx hb dX11_set_16 rfl (lv_at hl 1 rfl) ?_
      refine va_get (D := D) (ci := 11) (v := .ref z0) (C := RX11) (T := TX11) (N := 8) hx hb hts iX11_set_X11 hown hK hP 0 rfl rfl 0 (by decide) (hts (.fieldLink RX11 10 "PuppetBridge" "stage" "LPuppetBridge$Stage;") mX11_set_w0) (fun _ h9 => h9) rfl dX11_set_17 ?_
      refine va_get (D := D) (ci := 8) (v := .int 9) (C := RX8) (T := TX8) (N := 10) hx hb hts iX11_set_X8 hown hK hP 1 rfl rfl 7 (by decide) (hts (.fieldLink RX11 142 "PuppetBridge$Stage" "rate" "I") mX11_set_w1) (fun _ h9 => h9) rfl dX11_set_20 ?_
      refine lv_istore_n (lv' := [(3, .int 9), (0, .ref h0), (1, .int x1), (2, .int x2)]) hx hb dX11_set_23 rfl hl (by decide) rfl (fun ls hl => ?_)
      refine lv_aload_n hx hb dX11_set_24 rfl (lv_at hl 1 rfl) ?_
      refine va_get (D := D) (ci := 11) (v := .ref z0) (C := RX11) (T := TX11) (N := 8) hx hb hts iX11_set_X11 hown hK hP 0 rfl rfl 0 (by decide) (hts (.fieldLink RX11 10 "PuppetBridge" "stage" "LPuppetBridge$Stage;") mX11_set_w0) (fun _ h9 => h9) rfl dX11_set_25 ?_
      refine lv_iload_n hx hb dX11_set_28 rfl (lv_at hl 3 rfl) ?_
      refine va_put (D := D) (ci := 8) (v := .int x2) (ty := (tyX8 7)) (C := RX8) (T := TX8) (N := 10) hx hb hts iX11_set_X8 tyX8 tyX8_ok nmX8 hown hK hP hD hS 1 rfl rfl 7 (by decide) (hts (.fieldLink RX11 142 "PuppetBridge$Stage" "rate" "I") mX11_set_w1) (fun _ h9 => h9) rfl (tyX8_ok 7 (by decide)) rfl rfl (Nat.le_of_ble_eq_true rfl) dX11_set_29 (fun H locs hP hD hS => ?_)
      have hP : va_P D vwCl [(h0, .inr (11, [.ref z0, .ref z23, .ref z25, .ref z32, .ref z36, .ref z40, .ref z43, .ref z49])), (z0, .inr (8, [.ref z1, .ref z51, .ref z52, .ref z2, .ref z3, .int 0, .int 0, .int x2, .int 0, .int 0]))] H := hP
      have hD : va_D A [(h0, .inr (11, [.ref z0, .ref z23, .ref z25, .ref z32, .ref z36, .ref z40, .ref z43, .ref z49])), (z0, .inr (8, [.ref z1, .ref z51, .ref z52, .ref z2, .ref z3, .int 0, .int 0, .int x2, .int 0, .int 0]))] := hD
      refine lv_goto (tgt := 117) hx hb dX11_set_32 (by decide) ?_
      refine lv_iload_n hx hb dX11_set_117 rfl (lv_at hl 0 rfl) ?_
      exact W.iret (v := 9) hx hb hr (fun t ht hW => ⟨⟨9, (), rfl, by first | (simp [sSet, c1, kc10]; done) | (simp [sSet, c1]; done) | rfl, trivial⟩, hS.F ht⟩) hS.2.2 dX11_set_118

theorem mX11_end_w0 : Cond.fieldLink RX11 19 "PuppetBridge" "text" "LPuppetBridge$Text;" ∈ wsX11_end := by decide +kernel
theorem mX11_end_w1 : Cond.fieldLink RX11 191 "PuppetBridge$Text" "length" "I" ∈ wsX11_end := by decide +kernel
theorem iX11_end_X10 : ∀ w ∈ wsX100, w ∈ wsX11_end := fun _ h => List.mem_cons_of_mem _ (List.mem_append_right _ h)
theorem iX11_end_X11 : ∀ w ∈ wsX110, w ∈ wsX11_end := fun _ h => List.mem_cons_of_mem _ (List.mem_append_left _ (List.mem_append_right _ h))
set_option maxRecDepth 20000 in
theorem ggX11_end_X11_within : GoodIn wsX11_end wsX11_within := goodIn_r _ [6] (by decide +kernel) (by decide +kernel)
set_option maxRecDepth 20000 in
theorem gX11_end_X11_within : GoodIn wsX11_end (va_wsS RX11 94 yX11_within wsX11_within) := goodIn_app (goodIn_of _ (by decide +kernel)) ggX11_end_X11_within
theorem dX11_end_0 : decode cX11_end 0 = .ok (.iload_n 1, 1) := by decide +kernel
theorem dX11_end_1 : decode cX11_end 1 = .ok (.iconst 0, 1) := by decide +kernel
theorem dX11_end_2 : decode cX11_end 2 = .ok (.aload_n 0, 1) := by decide +kernel
theorem dX11_end_3 : decode cX11_end 3 = .ok (.getfield 19, 3) := by decide +kernel
theorem dX11_end_6 : decode cX11_end 6 = .ok (.getfield 191, 3) := by decide +kernel
theorem dX11_end_9 : decode cX11_end 9 = .ok (.invokestatic 94, 3) := by decide +kernel
theorem dX11_end_12 : decode cX11_end 12 = .ok (.ifCond .ne 5, 3) := by decide +kernel
theorem dX11_end_15 : decode cX11_end 15 = .ok (.iconst 0, 1) := by decide +kernel
theorem dX11_end_16 : decode cX11_end 16 = .ok (.ireturn, 1) := by decide +kernel
theorem dX11_end_17 : decode cX11_end 17 = .ok (.aload_n 0, 1) := by decide +kernel
theorem dX11_end_18 : decode cX11_end 18 = .ok (.getfield 19, 3) := by decide +kernel
theorem dX11_end_21 : decode cX11_end 21 = .ok (.iload_n 1, 1) := by decide +kernel
theorem dX11_end_22 : decode cX11_end 22 = .ok (.putfield 191, 3) := by decide +kernel
theorem dX11_end_25 : decode cX11_end 25 = .ok (.iconst 1, 1) := by decide +kernel
theorem dX11_end_26 : decode cX11_end 26 = .ok (.ireturn, 1) := by decide +kernel
set_option maxHeartbeats 4000000 in
set_option maxRecDepth 100000 in
/-- X11_end -/
theorem kX11_end (l : Launch) (D : va_G) (G : tyG) (h0 : Nat) (x1 : Int32) (z0 : Nat) (z23 : Nat) (z25 : Nat) (z32 : Nat) (z36 : Nat) (z40 : Nat) (z43 : Nat) (z49 : Nat) (z24 : Nat) (sz : Nat) : Met l yX11_end wsX11_end ({ frames := 1, cells := 0, slots := 0, locals := 22 }) (va_Pc [.ref h0, .int x1] (wB D G sz [(h0, .inr (11, [.ref z0, .ref z23, .ref z25, .ref z32, .ref z36, .ref z40, .ref z43, .ref z49])), (z23, .inr (10, [.ref z24, .int 0]))])) (va_Qi (fun (r : Int32) (_ : Unit) => r = if (inB x1 0 0) = true then 1 else 0) (fun _ _ => True) (va_A [(h0, .inr (11, [.ref z0, .ref z23, .ref z25, .ref z32, .ref z36, .ref z40, .ref z43, .ref z49])), (z23, .inr (10, [.ref z24, .int 0]))] sz)) 0 0 (va_A [(h0, .inr (11, [.ref z0, .ref z23, .ref z25, .ref z32, .ref z36, .ref z40, .ref z43, .ref z49])), (z23, .inr (10, [.ref z24, .int 0]))] sz) := by
  refine Met.ofW (cc := cX11_end) (maxL := 2) (ret := (some .boolean)) (by decide) rfl ?_
  intro p e s m args below meth c s₁ B hml hv
  obtain ⟨rfl, hsz, hP, hK, hD0, hN⟩ := hv
  have hx := B.exec
  have hb := B.bytes
  have hr := B.returns
  have hts := atoms_spec (ws := wsX11_end) B.pre
  have hown : s.vm.findClass RX11 = some m.cls := findClass_of_methodNamed B.named
  have hlocks := B.notSynchronized
  subst hsz
  have hD := hD0.self (sz := s.heap.size)
  generalize hAe : va_A [(h0, .inr (11, [.ref z0, .ref z23, .ref z25, .ref z32, .ref z36, .ref z40, .ref z43, .ref z49])), (z23, .inr (10, [.ref z24, .int 0]))] s.heap.size = A at hD ⊢
  have hA : ∀ q : Nat, s.heap.size ≤ q → A q := fun q h => by rw [← hAe]; exact Or.inr h
  have hS : va_S A s.heap s.heap [] := va_S.rf
  have hP : va_P D vwCl [(h0, .inr (11, [.ref z0, .ref z23, .ref z25, .ref z32, .ref z36, .ref z40, .ref z43, .ref z49])), (z23, .inr (10, [.ref z24, .int 0]))] s.heap := hP
  have hl := lv_entry ([.ref h0, .int x1]) (n := 2) (Nat.le_of_ble_eq_true rfl)
  rw [lg_entry_eq]
  generalize (lg_sl ([.ref h0, .int x1]) ++ List.replicate (2 - (lg_sl ([.ref h0, .int x1])).length) Slot.unset).toArray = ls at hl ⊢
  have hl : lv_has ls 2 [(0, .ref h0), (1, .int x1)] := hl
  refine lv_iload_n hx hb dX11_end_0 rfl (lv_at hl 1 rfl) ?_
  refine lv_iconst (v := 0) hx hb dX11_end_1 (by decide) ?_
  refine lv_aload_n hx hb dX11_end_2 rfl (lv_at hl 0 rfl) ?_
  refine va_get (D := D) (ci := 11) (v := .ref z23) (C := RX11) (T := TX11) (N := 8) hx hb hts iX11_end_X11 hown hK hP 0 rfl rfl 1 (by decide) (hts (.fieldLink RX11 19 "PuppetBridge" "text" "LPuppetBridge$Text;") mX11_end_w0) (fun _ h9 => h9) rfl dX11_end_3 ?_
  refine va_get (D := D) (ci := 10) (v := .int 0) (C := RX10) (T := TX10) (N := 2) hx hb hts iX11_end_X10 hown hK hP 1 rfl rfl 1 (by decide) (hts (.fieldLink RX11 191 "PuppetBridge$Text" "length" "I") mX11_end_w1) (fun _ h9 => h9) rfl dX11_end_6 ?_
  have hPc := hP.sub (ws' := []) [] rfl
  have hDc := hD.sub (ws' := []) [] (by decide) rfl
  have hFc := va_free (wc := []) hD hS hA [] rfl
  refine va_calli (va_runS (As := [.int x1, .int 0, .int 0]) (rest := []) ⟨hx, hb, hml, hown, hts⟩ (kX11_within l D G x1 0 0 s.heap.size) (va_cwS 3 hts gX11_end_X11_within rfl rfl rfl (by decide +kernel) ⟨Nat.le_of_ble_eq_true rfl, Nat.le_of_ble_eq_true rfl⟩) ⟨wB_blind, wB_pre hPc hK hDc hN⟩ rfl rfl hl.1 rfl (lv_room (Nat.le_of_ble_eq_true rfl)) dX11_end_9 ⟨Nat.le_of_ble_eq_true rfl, Nat.le_of_ble_eq_true rfl⟩) hS (fun q _ h => hFc q h) hFc (fun r1 u t H1 locs ht hvm hr1 hB hz1 hk1 hS => ?_)
  obtain ⟨hP, hD⟩ := va_join (wr := [(h0, .inr (11, [.ref z0, .ref z23, .ref z25, .ref z32, .ref z36, .ref z40, .ref z43, .ref z49])), (z23, .inr (10, [.ref z24, .int 0]))]) (w1 := []) hP hD [] [0, 1] rfl rfl (by decide) (by decide) hk1 hFc wP_nil wD_nil
  clear hPc hDc
  generalize H1 = H at hP hS ⊢
  have hP : va_P D vwCl [(h0, .inr (11, [.ref z0, .ref z23, .ref z25, .ref z32, .ref z36, .ref z40, .ref z43, .ref z49])), (z23, .inr (10, [.ref z24, .int 0]))] H := hP
  have hD : va_D A [(h0, .inr (11, [.ref z0, .ref z23, .ref z25, .ref z32, .ref z36, .ref z40, .ref z43, .ref z49])), (z23, .inr (10, [.ref z24, .int 0]))] := hD
  refine lv_if_ne (tgt := 17) hx hb dX11_end_12 (by decide) (fun c2 => ?_) (fun c2 => ?_)
  · have kc2 : (inB x1 0 0) = true := wk_b1 hr1 c2
    refine lv_aload_n hx hb dX11_end_17 rfl (lv_at hl 0 rfl) ?_
    refine va_get (D := D) (ci := 11) (v := .ref z23) (C := RX11) (T := TX11) (N := 8) hx hb hts iX11_end_X11 hown hK hP 0 rfl rfl 1 (by decide) (hts (.fieldLink RX11 19 "PuppetBridge" "text" "LPuppetBridge$Text;") mX11_end_w0) (fun _ h9 => h9) rfl dX11_end_18 ?_
    refine lv_iload_n hx hb dX11_end_21 rfl (lv_at hl 1 rfl) ?_
    refine va_put (D := D) (ci := 10) (v := .int x1) (ty := (tyX10 1)) (C := RX10) (T := TX10) (N := 2) hx hb hts iX11_end_X10 tyX10 tyX10_ok nmX10 hown hK hP hD hS 1 rfl rfl 1 (by decide) (hts (.fieldLink RX11 191 "PuppetBridge$Text" "length" "I") mX11_end_w1) (fun _ h9 => h9) rfl (tyX10_ok 1 (by decide)) rfl rfl (Nat.le_of_ble_eq_true rfl) dX11_end_22 (fun H locs hP hD hS => ?_)
    have hP : va_P D vwCl [(h0, .inr (11, [.ref z0, .ref z23, .ref z25, .ref z32, .ref z36, .ref z40, .ref z43, .ref z49])), (z23, .inr (10, [.ref z24, .int x1]))] H := hP
    have hD : va_D A [(h0, .inr (11, [.ref z0, .ref z23, .ref z25, .ref z32, .ref z36, .ref z40, .ref z43, .ref z49])), (z23, .inr (10, [.ref z24, .int x1]))] := hD
    refine lv_iconst (v := 1) hx hb dX11_end_25 (by decide) ?_
    exact W.zret (v := 1) hx hb hr rfl (fun t ht hW => ⟨⟨1, (), rfl, by first | (simp [kc2]; done) | rfl, trivial⟩, hS.F ht⟩) hS.2.2 dX11_end_26
  · have kc2 : (inB x1 0 0) = false := wk_b0 hr1 c2
    refine lv_iconst (v := 0) hx hb dX11_end_15 (by decide) ?_
    exact W.zret (v := 0) hx hb hr rfl (fun t ht hW => ⟨⟨0, (), rfl, by first | (simp [kc2]; done) | rfl, trivial⟩, hS.F ht⟩) hS.2.2 dX11_end_16

theorem mX11_count_w0 : Cond.fieldLink RX11 10 "PuppetBridge" "stage" "LPuppetBridge$Stage;" ∈ wsX11_count := by decide +kernel
theorem mX11_count_w1 : Cond.fieldLink RX11 69 "PuppetBridge$Stage" "count" "I" ∈ wsX11_count := by decide +kernel
theorem mX11_count_w2 : Cond.fieldLink RX11 202 "PuppetBridge$Stage" "beat" "I" ∈ wsX11_count := by decide +kernel
theorem mX11_count_w3 : Cond.fieldLink RX11 33 "PuppetBridge" "bridge" "LPuppetBridge$Bridge;" ∈ wsX11_count := by decide +kernel
theorem mX11_count_w4 : Cond.fieldLink RX11 229 "PuppetBridge$Bridge" "bars" "I" ∈ wsX11_count := by decide +kernel
theorem mX11_count_w5 : Cond.fieldLink RX11 232 "PuppetBridge$Bridge" "count" "I" ∈ wsX11_count := by decide +kernel
theorem mX11_count_w6 : Cond.fieldLink RX11 40 "PuppetBridge" "hands" "LPuppetBridge$Hands;" ∈ wsX11_count := by decide +kernel
theorem mX11_count_w7 : Cond.fieldLink RX11 233 "PuppetBridge$Hands" "count" "I" ∈ wsX11_count := by decide +kernel
theorem mX11_count_w8 : Cond.fieldLink RX11 54 "PuppetBridge" "tales" "LPuppetBridge$Tales;" ∈ wsX11_count := by decide +kernel
theorem mX11_count_w9 : Cond.fieldLink RX11 234 "PuppetBridge$Tales" "count" "I" ∈ wsX11_count := by decide +kernel
theorem mX11_count_w10 : Cond.fieldLink RX11 61 "PuppetBridge" "told" "LPuppetBridge$Row;" ∈ wsX11_count := by decide +kernel
theorem mX11_count_w11 : Cond.fieldLink RX11 235 "PuppetBridge$Row" "size" "I" ∈ wsX11_count := by decide +kernel
theorem mX11_count_w12 : Cond.fieldLink RX11 19 "PuppetBridge" "text" "LPuppetBridge$Text;" ∈ wsX11_count := by decide +kernel
theorem mX11_count_w13 : Cond.fieldLink RX11 191 "PuppetBridge$Text" "length" "I" ∈ wsX11_count := by decide +kernel
theorem iX11_count_X0 : ∀ w ∈ wsX00, w ∈ wsX11_count := fun _ h => List.mem_cons_of_mem _ (List.mem_append_left _ (List.mem_append_left _ (List.mem_append_left _ (List.mem_append_left _ (List.mem_append_right _ h)))))
theorem iX11_count_X10 : ∀ w ∈ wsX100, w ∈ wsX11_count := fun _ h => List.mem_cons_of_mem _ (List.mem_append_right _ h)
theorem iX11_count_X11 : ∀ w ∈ wsX110, w ∈ wsX11_count := fun _ h => List.mem_cons_of_mem _ (List.mem_append_left _ (List.mem_append_left _ (List.mem_append_left _ (List.mem_append_left _ (List.mem_append_left _ (List.mem_append_left _ (List.mem_append_right _ h)))))))
theorem iX11_count_X3 : ∀ w ∈ wsX30, w ∈ wsX11_count := fun _ h => List.mem_cons_of_mem _ (List.mem_append_left _ (List.mem_append_left _ (List.mem_append_left _ (List.mem_append_right _ h))))
theorem iX11_count_X5 : ∀ w ∈ wsX50, w ∈ wsX11_count := fun _ h => List.mem_cons_of_mem _ (List.mem_append_left _ (List.mem_append_right _ h))
theorem iX11_count_X8 : ∀ w ∈ wsX80, w ∈ wsX11_count := fun _ h => List.mem_cons_of_mem _ (List.mem_append_left _ (List.mem_append_left _ (List.mem_append_left _ (List.mem_append_left _ (List.mem_append_left _ (List.mem_append_right _ h))))))
theorem iX11_count_X9 : ∀ w ∈ wsX90, w ∈ wsX11_count := fun _ h => List.mem_cons_of_mem _ (List.mem_append_left _ (List.mem_append_left _ (List.mem_append_right _ h)))
theorem dX11_count_0 : decode cX11_count 0 = .ok (.iload_n 1, 1) := by decide +kernel
theorem dX11_count_1 : decode cX11_count 1 = .ok (.tableswitch 111 0 7 #[47, 55, 63, 71, 79, 87, 95, 103], 47) := by decide +kernel
theorem dX11_count_48 : decode cX11_count 48 = .ok (.aload_n 0, 1) := by decide +kernel
theorem dX11_count_49 : decode cX11_count 49 = .ok (.getfield 10, 3) := by decide +kernel
theorem dX11_count_52 : decode cX11_count 52 = .ok (.getfield 69, 3) := by decide +kernel
theorem dX11_count_55 : decode cX11_count 55 = .ok (.ireturn, 1) := by decide +kernel
theorem dX11_count_56 : decode cX11_count 56 = .ok (.aload_n 0, 1) := by decide +kernel
theorem dX11_count_57 : decode cX11_count 57 = .ok (.getfield 10, 3) := by decide +kernel
theorem dX11_count_60 : decode cX11_count 60 = .ok (.getfield 202, 3) := by decide +kernel
theorem dX11_count_63 : decode cX11_count 63 = .ok (.ireturn, 1) := by decide +kernel
theorem dX11_count_64 : decode cX11_count 64 = .ok (.aload_n 0, 1) := by decide +kernel
theorem dX11_count_65 : decode cX11_count 65 = .ok (.getfield 33, 3) := by decide +kernel
theorem dX11_count_68 : decode cX11_count 68 = .ok (.getfield 229, 3) := by decide +kernel
theorem dX11_count_71 : decode cX11_count 71 = .ok (.ireturn, 1) := by decide +kernel
theorem dX11_count_72 : decode cX11_count 72 = .ok (.aload_n 0, 1) := by decide +kernel
theorem dX11_count_73 : decode cX11_count 73 = .ok (.getfield 33, 3) := by decide +kernel
theorem dX11_count_76 : decode cX11_count 76 = .ok (.getfield 232, 3) := by decide +kernel
theorem dX11_count_79 : decode cX11_count 79 = .ok (.ireturn, 1) := by decide +kernel
theorem dX11_count_80 : decode cX11_count 80 = .ok (.aload_n 0, 1) := by decide +kernel
theorem dX11_count_81 : decode cX11_count 81 = .ok (.getfield 40, 3) := by decide +kernel
theorem dX11_count_84 : decode cX11_count 84 = .ok (.getfield 233, 3) := by decide +kernel
theorem dX11_count_87 : decode cX11_count 87 = .ok (.ireturn, 1) := by decide +kernel
theorem dX11_count_88 : decode cX11_count 88 = .ok (.aload_n 0, 1) := by decide +kernel
theorem dX11_count_89 : decode cX11_count 89 = .ok (.getfield 54, 3) := by decide +kernel
theorem dX11_count_92 : decode cX11_count 92 = .ok (.getfield 234, 3) := by decide +kernel
theorem dX11_count_95 : decode cX11_count 95 = .ok (.ireturn, 1) := by decide +kernel
theorem dX11_count_96 : decode cX11_count 96 = .ok (.aload_n 0, 1) := by decide +kernel
theorem dX11_count_97 : decode cX11_count 97 = .ok (.getfield 61, 3) := by decide +kernel
theorem dX11_count_100 : decode cX11_count 100 = .ok (.getfield 235, 3) := by decide +kernel
theorem dX11_count_103 : decode cX11_count 103 = .ok (.ireturn, 1) := by decide +kernel
theorem dX11_count_104 : decode cX11_count 104 = .ok (.aload_n 0, 1) := by decide +kernel
theorem dX11_count_105 : decode cX11_count 105 = .ok (.getfield 19, 3) := by decide +kernel
theorem dX11_count_108 : decode cX11_count 108 = .ok (.getfield 191, 3) := by decide +kernel
theorem dX11_count_111 : decode cX11_count 111 = .ok (.ireturn, 1) := by decide +kernel
theorem dX11_count_112 : decode cX11_count 112 = .ok (.iconst (-1), 1) := by decide +kernel
theorem dX11_count_113 : decode cX11_count 113 = .ok (.ireturn, 1) := by decide +kernel
set_option maxHeartbeats 4000000 in
set_option maxRecDepth 100000 in
/-- X11_count -/
theorem kX11_count (l : Launch) (D : va_G) (G : tyG) (h0 : Nat) (x1 : Int32) (z0 : Nat) (z23 : Nat) (z25 : Nat) (z32 : Nat) (z36 : Nat) (z40 : Nat) (z43 : Nat) (z49 : Nat) (z1 : Nat) (z51 : Nat) (z52 : Nat) (z2 : Nat) (z3 : Nat) (z24 : Nat) (z29 : Nat) (z33 : Nat) (z34 : Nat) (z35 : Nat) (z30 : Nat) (z31 : Nat) (z37 : Nat) (z38 : Nat) (z39 : Nat) (z44 : Nat) (z45 : Nat) (z46 : Nat) (z47 : Nat) (z48 : Nat) (z50 : Nat) (sz : Nat) : Met l yX11_count wsX11_count ({ frames := 0, cells := 0, slots := 0, locals := 0 }) (va_Pc [.ref h0, .int x1] (wB D G sz [(h0, .inr (11, [.ref z0, .ref z23, .ref z25, .ref z32, .ref z36, .ref z40, .ref z43, .ref z49])), (z0, .inr (8, [.ref z1, .ref z51, .ref z52, .ref z2, .ref z3, .int 0, .int 0, .int 9, .int 0, .int 0])), (z23, .inr (10, [.ref z24, .int 0])), (z32, .inr (0, [.ref z29, .ref z33, .ref z34, .ref z35, .ref z30, .ref z31, .int 2, .int 0, .int 0])), (z36, .inr (3, [.ref z37, .ref z38, .ref z39, .int 0])), (z43, .inr (9, [.ref z44, .ref z45, .ref z46, .ref z47, .ref z48, .int 0])), (z49, .inr (5, [.ref z50, .int 0]))])) (va_Qi (fun (r : Int32) (_ : Unit) => r = sCount x1) (fun _ _ => True) (va_A [(h0, .inr (11, [.ref z0, .ref z23, .ref z25, .ref z32, .ref z36, .ref z40, .ref z43, .ref z49])), (z0, .inr (8, [.ref z1, .ref z51, .ref z52, .ref z2, .ref z3, .int 0, .int 0, .int 9, .int 0, .int 0])), (z23, .inr (10, [.ref z24, .int 0])), (z32, .inr (0, [.ref z29, .ref z33, .ref z34, .ref z35, .ref z30, .ref z31, .int 2, .int 0, .int 0])), (z36, .inr (3, [.ref z37, .ref z38, .ref z39, .int 0])), (z43, .inr (9, [.ref z44, .ref z45, .ref z46, .ref z47, .ref z48, .int 0])), (z49, .inr (5, [.ref z50, .int 0]))] sz)) 0 0 (va_A [(h0, .inr (11, [.ref z0, .ref z23, .ref z25, .ref z32, .ref z36, .ref z40, .ref z43, .ref z49])), (z0, .inr (8, [.ref z1, .ref z51, .ref z52, .ref z2, .ref z3, .int 0, .int 0, .int 9, .int 0, .int 0])), (z23, .inr (10, [.ref z24, .int 0])), (z32, .inr (0, [.ref z29, .ref z33, .ref z34, .ref z35, .ref z30, .ref z31, .int 2, .int 0, .int 0])), (z36, .inr (3, [.ref z37, .ref z38, .ref z39, .int 0])), (z43, .inr (9, [.ref z44, .ref z45, .ref z46, .ref z47, .ref z48, .int 0])), (z49, .inr (5, [.ref z50, .int 0]))] sz) := by
  refine Met.ofW (cc := cX11_count) (maxL := 2) (ret := (some .int)) (by decide) rfl ?_
  intro p e s m args below meth c s₁ B hml hv
  obtain ⟨rfl, hsz, hP, hK, hD0, hN⟩ := hv
  have hx := B.exec
  have hb := B.bytes
  have hr := B.returns
  have hts := atoms_spec (ws := wsX11_count) B.pre
  have hown : s.vm.findClass RX11 = some m.cls := findClass_of_methodNamed B.named
  have hlocks := B.notSynchronized
  subst hsz
  have hD := hD0.self (sz := s.heap.size)
  generalize hAe : va_A [(h0, .inr (11, [.ref z0, .ref z23, .ref z25, .ref z32, .ref z36, .ref z40, .ref z43, .ref z49])), (z0, .inr (8, [.ref z1, .ref z51, .ref z52, .ref z2, .ref z3, .int 0, .int 0, .int 9, .int 0, .int 0])), (z23, .inr (10, [.ref z24, .int 0])), (z32, .inr (0, [.ref z29, .ref z33, .ref z34, .ref z35, .ref z30, .ref z31, .int 2, .int 0, .int 0])), (z36, .inr (3, [.ref z37, .ref z38, .ref z39, .int 0])), (z43, .inr (9, [.ref z44, .ref z45, .ref z46, .ref z47, .ref z48, .int 0])), (z49, .inr (5, [.ref z50, .int 0]))] s.heap.size = A at hD ⊢
  have hA : ∀ q : Nat, s.heap.size ≤ q → A q := fun q h => by rw [← hAe]; exact Or.inr h
  have hS : va_S A s.heap s.heap [] := va_S.rf
  have hP : va_P D vwCl [(h0, .inr (11, [.ref z0, .ref z23, .ref z25, .ref z32, .ref z36, .ref z40, .ref z43, .ref z49])), (z0, .inr (8, [.ref z1, .ref z51, .ref z52, .ref z2, .ref z3, .int 0, .int 0, .int 9, .int 0, .int 0])), (z23, .inr (10, [.ref z24, .int 0])), (z32, .inr (0, [.ref z29, .ref z33, .ref z34, .ref z35, .ref z30, .ref z31, .int 2, .int 0, .int 0])), (z36, .inr (3, [.ref z37, .ref z38, .ref z39, .int 0])), (z43, .inr (9, [.ref z44, .ref z45, .ref z46, .ref z47, .ref z48, .int 0])), (z49, .inr (5, [.ref z50, .int 0]))] s.heap := hP
  have hl := lv_entry ([.ref h0, .int x1]) (n := 2) (Nat.le_of_ble_eq_true rfl)
  rw [lg_entry_eq]
  generalize (lg_sl ([.ref h0, .int x1]) ++ List.replicate (2 - (lg_sl ([.ref h0, .int x1])).length) Slot.unset).toArray = ls at hl ⊢
  have hl : lv_has ls 2 [(0, .ref h0), (1, .int x1)] := hl
  refine lv_iload_n hx hb dX11_count_0 rfl (lv_at hl 1 rfl) ?_
  by_cases s1 : x1 = 0
  · subst s1
    refine lv_tableIn (off := 47) (tgt := 48) hx hb dX11_count_1 (by decide) (by decide) (by decide) (by decide) ?_
    refine lv_aload_n hx hb dX11_count_48 rfl (lv_at hl 0 rfl) ?_
    refine va_get (D := D) (ci := 11) (v := .ref z0) (C := RX11) (T := TX11) (N := 8) hx hb hts iX11_count_X11 hown hK hP 0 rfl rfl 0 (by decide) (hts (.fieldLink RX11 10 "PuppetBridge" "stage" "LPuppetBridge$Stage;") mX11_count_w0) (fun _ h9 => h9) rfl dX11_count_49 ?_
    refine va_get (D := D) (ci := 8) (v := .int 0) (C := RX8) (T := TX8) (N := 10) hx hb hts iX11_count_X8 hown hK hP 1 rfl rfl 5 (by decide) (hts (.fieldLink RX11 69 "PuppetBridge$Stage" "count" "I") mX11_count_w1) (fun _ h9 => h9) rfl dX11_count_52 ?_
    exact W.iret (v := 0) hx hb hr (fun t ht hW => ⟨⟨0, (), rfl, rfl, trivial⟩, hS.F ht⟩) hS.2.2 dX11_count_55
  by_cases s2 : x1 = 1
  · subst s2
    refine lv_tableIn (off := 55) (tgt := 56) hx hb dX11_count_1 (by decide) (by decide) (by decide) (by decide) ?_
    refine lv_aload_n hx hb dX11_count_56 rfl (lv_at hl 0 rfl) ?_
    refine va_get (D := D) (ci := 11) (v := .ref z0) (C := RX11) (T := TX11) (N := 8) hx hb hts iX11_count_X11 hown hK hP 0 rfl rfl 0 (by decide) (hts (.fieldLink RX11 10 "PuppetBridge" "stage" "LPuppetBridge$Stage;") mX11_count_w0) (fun _ h9 => h9) rfl dX11_count_57 ?_
    refine va_get (D := D) (ci := 8) (v := .int 0) (C := RX8) (T := TX8) (N := 10) hx hb hts iX11_count_X8 hown hK hP 1 rfl rfl 6 (by decide) (hts (.fieldLink RX11 202 "PuppetBridge$Stage" "beat" "I") mX11_count_w2) (fun _ h9 => h9) rfl dX11_count_60 ?_
    exact W.iret (v := 0) hx hb hr (fun t ht hW => ⟨⟨0, (), rfl, by first | (simp [sCount, s1]; done) | rfl, trivial⟩, hS.F ht⟩) hS.2.2 dX11_count_63
  by_cases s3 : x1 = 2
  · subst s3
    refine lv_tableIn (off := 63) (tgt := 64) hx hb dX11_count_1 (by decide) (by decide) (by decide) (by decide) ?_
    refine lv_aload_n hx hb dX11_count_64 rfl (lv_at hl 0 rfl) ?_
    refine va_get (D := D) (ci := 11) (v := .ref z32) (C := RX11) (T := TX11) (N := 8) hx hb hts iX11_count_X11 hown hK hP 0 rfl rfl 3 (by decide) (hts (.fieldLink RX11 33 "PuppetBridge" "bridge" "LPuppetBridge$Bridge;") mX11_count_w3) (fun _ h9 => h9) rfl dX11_count_65 ?_
    refine va_get (D := D) (ci := 0) (v := .int 2) (C := RX0) (T := TX0) (N := 9) hx hb hts iX11_count_X0 hown hK hP 3 rfl rfl 6 (by decide) (hts (.fieldLink RX11 229 "PuppetBridge$Bridge" "bars" "I") mX11_count_w4) (fun _ h9 => h9) rfl dX11_count_68 ?_
    exact W.iret (v := 2) hx hb hr (fun t ht hW => ⟨⟨2, (), rfl, by first | (simp [sCount, s1, s2]; done) | (simp [sCount, s1]; done) | rfl, trivial⟩, hS.F ht⟩) hS.2.2 dX11_count_71
  by_cases s4 : x1 = 3
  · subst s4
    refine lv_tableIn (off := 71) (tgt := 72) hx hb dX11_count_1 (by decide) (by decide) (by decide) (by decide) ?_
    refine lv_aload_n hx hb dX11_count_72 rfl (lv_at hl 0 rfl) ?_
    refine va_get (D := D) (ci := 11) (v := .ref z32) (C := RX11) (T := TX11) (N := 8) hx hb hts iX11_count_X11 hown hK hP 0 rfl rfl 3 (by decide) (hts (.fieldLink RX11 33 "PuppetBridge" "bridge" "LPuppetBridge$Bridge;") mX11_count_w3) (fun _ h9 => h9) rfl dX11_count_73 ?_
    refine va_get (D := D) (ci := 0) (v := .int 0) (C := RX0) (T := TX0) (N := 9) hx hb hts iX11_count_X0 hown hK hP 3 rfl rfl 7 (by decide) (hts (.fieldLink RX11 232 "PuppetBridge$Bridge" "count" "I") mX11_count_w5) (fun _ h9 => h9) rfl dX11_count_76 ?_
    exact W.iret (v := 0) hx hb hr (fun t ht hW => ⟨⟨0, (), rfl, by first | (simp [sCount, s1, s2, s3]; done) | (simp [sCount, s1, s2]; done) | (simp [sCount, s1]; done) | rfl, trivial⟩, hS.F ht⟩) hS.2.2 dX11_count_79
  by_cases s5 : x1 = 4
  · subst s5
    refine lv_tableIn (off := 79) (tgt := 80) hx hb dX11_count_1 (by decide) (by decide) (by decide) (by decide) ?_
    refine lv_aload_n hx hb dX11_count_80 rfl (lv_at hl 0 rfl) ?_
    refine va_get (D := D) (ci := 11) (v := .ref z36) (C := RX11) (T := TX11) (N := 8) hx hb hts iX11_count_X11 hown hK hP 0 rfl rfl 4 (by decide) (hts (.fieldLink RX11 40 "PuppetBridge" "hands" "LPuppetBridge$Hands;") mX11_count_w6) (fun _ h9 => h9) rfl dX11_count_81 ?_
    refine va_get (D := D) (ci := 3) (v := .int 0) (C := RX3) (T := TX3) (N := 4) hx hb hts iX11_count_X3 hown hK hP 4 rfl rfl 3 (by decide) (hts (.fieldLink RX11 233 "PuppetBridge$Hands" "count" "I") mX11_count_w7) (fun _ h9 => h9) rfl dX11_count_84 ?_
    exact W.iret (v := 0) hx hb hr (fun t ht hW => ⟨⟨0, (), rfl, by first | (simp [sCount, s1, s2, s3, s4]; done) | (simp [sCount, s1, s2, s3]; done) | (simp [sCount, s1, s2]; done) | (simp [sCount, s1]; done) | rfl, trivial⟩, hS.F ht⟩) hS.2.2 dX11_count_87
  by_cases s6 : x1 = 5
  · subst s6
    refine lv_tableIn (off := 87) (tgt := 88) hx hb dX11_count_1 (by decide) (by decide) (by decide) (by decide) ?_
    refine lv_aload_n hx hb dX11_count_88 rfl (lv_at hl 0 rfl) ?_
    refine va_get (D := D) (ci := 11) (v := .ref z43) (C := RX11) (T := TX11) (N := 8) hx hb hts iX11_count_X11 hown hK hP 0 rfl rfl 6 (by decide) (hts (.fieldLink RX11 54 "PuppetBridge" "tales" "LPuppetBridge$Tales;") mX11_count_w8) (fun _ h9 => h9) rfl dX11_count_89 ?_
    refine va_get (D := D) (ci := 9) (v := .int 0) (C := RX9) (T := TX9) (N := 6) hx hb hts iX11_count_X9 hown hK hP 5 rfl rfl 5 (by decide) (hts (.fieldLink RX11 234 "PuppetBridge$Tales" "count" "I") mX11_count_w9) (fun _ h9 => h9) rfl dX11_count_92 ?_
    exact W.iret (v := 0) hx hb hr (fun t ht hW => ⟨⟨0, (), rfl, by first | (simp [sCount, s1, s2, s3, s4, s5]; done) | (simp [sCount, s1, s2, s3, s4]; done) | (simp [sCount, s1, s2, s3]; done) | (simp [sCount, s1, s2]; done) | (simp [sCount, s1]; done) | rfl, trivial⟩, hS.F ht⟩) hS.2.2 dX11_count_95
  by_cases s7 : x1 = 6
  · subst s7
    refine lv_tableIn (off := 95) (tgt := 96) hx hb dX11_count_1 (by decide) (by decide) (by decide) (by decide) ?_
    refine lv_aload_n hx hb dX11_count_96 rfl (lv_at hl 0 rfl) ?_
    refine va_get (D := D) (ci := 11) (v := .ref z49) (C := RX11) (T := TX11) (N := 8) hx hb hts iX11_count_X11 hown hK hP 0 rfl rfl 7 (by decide) (hts (.fieldLink RX11 61 "PuppetBridge" "told" "LPuppetBridge$Row;") mX11_count_w10) (fun _ h9 => h9) rfl dX11_count_97 ?_
    refine va_get (D := D) (ci := 5) (v := .int 0) (C := RX5) (T := TX5) (N := 2) hx hb hts iX11_count_X5 hown hK hP 6 rfl rfl 1 (by decide) (hts (.fieldLink RX11 235 "PuppetBridge$Row" "size" "I") mX11_count_w11) (fun _ h9 => h9) rfl dX11_count_100 ?_
    exact W.iret (v := 0) hx hb hr (fun t ht hW => ⟨⟨0, (), rfl, by first | (simp [sCount, s1, s2, s3, s4, s5, s6]; done) | (simp [sCount, s1, s2, s3, s4, s5]; done) | (simp [sCount, s1, s2, s3, s4]; done) | (simp [sCount, s1, s2, s3]; done) | (simp [sCount, s1, s2]; done) | (simp [sCount, s1]; done) | rfl, trivial⟩, hS.F ht⟩) hS.2.2 dX11_count_103
  by_cases s8 : x1 = 7
  · subst s8
    refine lv_tableIn (off := 103) (tgt := 104) hx hb dX11_count_1 (by decide) (by decide) (by decide) (by decide) ?_
    refine lv_aload_n hx hb dX11_count_104 rfl (lv_at hl 0 rfl) ?_
    refine va_get (D := D) (ci := 11) (v := .ref z23) (C := RX11) (T := TX11) (N := 8) hx hb hts iX11_count_X11 hown hK hP 0 rfl rfl 1 (by decide) (hts (.fieldLink RX11 19 "PuppetBridge" "text" "LPuppetBridge$Text;") mX11_count_w12) (fun _ h9 => h9) rfl dX11_count_105 ?_
    refine va_get (D := D) (ci := 10) (v := .int 0) (C := RX10) (T := TX10) (N := 2) hx hb hts iX11_count_X10 hown hK hP 2 rfl rfl 1 (by decide) (hts (.fieldLink RX11 191 "PuppetBridge$Text" "length" "I") mX11_count_w13) (fun _ h9 => h9) rfl dX11_count_108 ?_
    exact W.iret (v := 0) hx hb hr (fun t ht hW => ⟨⟨0, (), rfl, by first | (simp [sCount, s1, s2, s3, s4, s5, s6, s7]; done) | (simp [sCount, s1, s2, s3, s4, s5, s6]; done) | (simp [sCount, s1, s2, s3, s4, s5]; done) | (simp [sCount, s1, s2, s3, s4]; done) | (simp [sCount, s1, s2, s3]; done) | (simp [sCount, s1, s2]; done) | (simp [sCount, s1]; done) | rfl, trivial⟩, hS.F ht⟩) hS.2.2 dX11_count_111
  · refine lv_tableOut (tgt := 112) hx hb dX11_count_1 (by have bs1 : x1.toInt ≠ 0 := fun h9 => s1 (wk_eq (by rw [h9]; decide)); have bs2 : x1.toInt ≠ 1 := fun h9 => s2 (wk_eq (by rw [h9]; decide)); have bs3 : x1.toInt ≠ 2 := fun h9 => s3 (wk_eq (by rw [h9]; decide)); have bs4 : x1.toInt ≠ 3 := fun h9 => s4 (wk_eq (by rw [h9]; decide)); have bs5 : x1.toInt ≠ 4 := fun h9 => s5 (wk_eq (by rw [h9]; decide)); have bs6 : x1.toInt ≠ 5 := fun h9 => s6 (wk_eq (by rw [h9]; decide)); have bs7 : x1.toInt ≠ 6 := fun h9 => s7 (wk_eq (by rw [h9]; decide)); have bs8 : x1.toInt ≠ 7 := fun h9 => s8 (wk_eq (by rw [h9]; decide)); omega) (by decide) ?_
    refine lv_iconst (v := (-1)) hx hb dX11_count_112 (by decide) ?_
    exact W.iret (v := (-1)) hx hb hr (fun t ht hW => ⟨⟨(-1), (), rfl, by first | (simp [sCount, s1, s2, s3, s4, s5, s6, s7, s8]; done) | (simp [sCount, s1, s2, s3, s4, s5, s6, s7]; done) | (simp [sCount, s1, s2, s3, s4, s5, s6]; done) | (simp [sCount, s1, s2, s3, s4, s5]; done) | (simp [sCount, s1, s2, s3, s4]; done) | (simp [sCount, s1, s2, s3]; done) | (simp [sCount, s1, s2]; done) | (simp [sCount, s1]; done) | rfl, trivial⟩, hS.F ht⟩) hS.2.2 dX11_count_113

theorem mX11_scene_w0 : Cond.fieldLink RX11 40 "PuppetBridge" "hands" "LPuppetBridge$Hands;" ∈ wsX11_scene := by decide +kernel
theorem mX11_scene_w1 : Cond.fieldLink RX11 233 "PuppetBridge$Hands" "count" "I" ∈ wsX11_scene := by decide +kernel
theorem mX11_scene_w2 : Cond.fieldLink RX11 270 "PuppetBridge$Hands" "scenes" "[I" ∈ wsX11_scene := by decide +kernel
theorem iX11_scene_X11 : ∀ w ∈ wsX110, w ∈ wsX11_scene := fun _ h => List.mem_cons_of_mem _ (List.mem_append_left _ (List.mem_append_right _ h))
theorem iX11_scene_X3 : ∀ w ∈ wsX30, w ∈ wsX11_scene := fun _ h => List.mem_cons_of_mem _ (List.mem_append_right _ h)
set_option maxRecDepth 20000 in
theorem ggX11_scene_X11_within : GoodIn wsX11_scene wsX11_within := goodIn_r _ [7] (by decide +kernel) (by decide +kernel)
set_option maxRecDepth 20000 in
theorem gX11_scene_X11_within : GoodIn wsX11_scene (va_wsS RX11 94 yX11_within wsX11_within) := goodIn_app (goodIn_of _ (by decide +kernel)) ggX11_scene_X11_within
theorem dX11_scene_0 : decode cX11_scene 0 = .ok (.iload_n 1, 1) := by decide +kernel
theorem dX11_scene_1 : decode cX11_scene 1 = .ok (.iconst 0, 1) := by decide +kernel
theorem dX11_scene_2 : decode cX11_scene 2 = .ok (.bipush 15, 2) := by decide +kernel
theorem dX11_scene_4 : decode cX11_scene 4 = .ok (.invokestatic 94, 3) := by decide +kernel
theorem dX11_scene_7 : decode cX11_scene 7 = .ok (.ifCond .eq 15, 3) := by decide +kernel
theorem dX11_scene_10 : decode cX11_scene 10 = .ok (.aload_n 0, 1) := by decide +kernel
theorem dX11_scene_11 : decode cX11_scene 11 = .ok (.getfield 40, 3) := by decide +kernel
theorem dX11_scene_14 : decode cX11_scene 14 = .ok (.getfield 233, 3) := by decide +kernel
theorem dX11_scene_17 : decode cX11_scene 17 = .ok (.bipush 8, 2) := by decide +kernel
theorem dX11_scene_19 : decode cX11_scene 19 = .ok (.if_icmp .lt 5, 3) := by decide +kernel
theorem dX11_scene_22 : decode cX11_scene 22 = .ok (.iconst (-1), 1) := by decide +kernel
theorem dX11_scene_23 : decode cX11_scene 23 = .ok (.ireturn, 1) := by decide +kernel
theorem dX11_scene_24 : decode cX11_scene 24 = .ok (.aload_n 0, 1) := by decide +kernel
theorem dX11_scene_25 : decode cX11_scene 25 = .ok (.getfield 40, 3) := by decide +kernel
theorem dX11_scene_28 : decode cX11_scene 28 = .ok (.getfield 270, 3) := by decide +kernel
theorem dX11_scene_31 : decode cX11_scene 31 = .ok (.aload_n 0, 1) := by decide +kernel
theorem dX11_scene_32 : decode cX11_scene 32 = .ok (.getfield 40, 3) := by decide +kernel
theorem dX11_scene_35 : decode cX11_scene 35 = .ok (.getfield 233, 3) := by decide +kernel
theorem dX11_scene_38 : decode cX11_scene 38 = .ok (.iload_n 1, 1) := by decide +kernel
theorem dX11_scene_39 : decode cX11_scene 39 = .ok (.iastore, 1) := by decide +kernel
theorem dX11_scene_40 : decode cX11_scene 40 = .ok (.aload_n 0, 1) := by decide +kernel
theorem dX11_scene_41 : decode cX11_scene 41 = .ok (.getfield 40, 3) := by decide +kernel
theorem dX11_scene_44 : decode cX11_scene 44 = .ok (.dup, 1) := by decide +kernel
theorem dX11_scene_45 : decode cX11_scene 45 = .ok (.getfield 233, 3) := by decide +kernel
theorem dX11_scene_48 : decode cX11_scene 48 = .ok (.iconst 1, 1) := by decide +kernel
theorem dX11_scene_49 : decode cX11_scene 49 = .ok (.iadd, 1) := by decide +kernel
theorem dX11_scene_50 : decode cX11_scene 50 = .ok (.putfield 233, 3) := by decide +kernel
theorem dX11_scene_53 : decode cX11_scene 53 = .ok (.aload_n 0, 1) := by decide +kernel
theorem dX11_scene_54 : decode cX11_scene 54 = .ok (.getfield 40, 3) := by decide +kernel
theorem dX11_scene_57 : decode cX11_scene 57 = .ok (.getfield 233, 3) := by decide +kernel
theorem dX11_scene_60 : decode cX11_scene 60 = .ok (.iconst 1, 1) := by decide +kernel
theorem dX11_scene_61 : decode cX11_scene 61 = .ok (.isub, 1) := by decide +kernel
theorem dX11_scene_62 : decode cX11_scene 62 = .ok (.ireturn, 1) := by decide +kernel
set_option maxHeartbeats 4000000 in
set_option maxRecDepth 100000 in
/-- X11_scene -/
theorem kX11_scene (l : Launch) (D : va_G) (G : tyG) (h0 : Nat) (x1 : Int32) (z0 : Nat) (z23 : Nat) (z25 : Nat) (z32 : Nat) (z36 : Nat) (z40 : Nat) (z43 : Nat) (z49 : Nat) (z37 : Nat) (z38 : Nat) (z39 : Nat) (sz : Nat) : Met l yX11_scene wsX11_scene ({ frames := 1, cells := 0, slots := 0, locals := 22 }) (va_Pc [.ref h0, .int x1] (wB D G sz [(h0, .inr (11, [.ref z0, .ref z23, .ref z25, .ref z32, .ref z36, .ref z40, .ref z43, .ref z49])), (z36, .inr (3, [.ref z37, .ref z38, .ref z39, .int 0])), (z37, .inl (G.1, 8, .inl (fun _ => 0)))])) (va_Qi (fun (r : Int32) (_ : Unit) => r = (if inB x1 0 15 = true then 0 else -1)) (fun _ _ => True) (va_A [(h0, .inr (11, [.ref z0, .ref z23, .ref z25, .ref z32, .ref z36, .ref z40, .ref z43, .ref z49])), (z36, .inr (3, [.ref z37, .ref z38, .ref z39, .int 0])), (z37, .inl (G.1, 8, .inl (fun _ => 0)))] sz)) 0 0 (va_A [(h0, .inr (11, [.ref z0, .ref z23, .ref z25, .ref z32, .ref z36, .ref z40, .ref z43, .ref z49])), (z36, .inr (3, [.ref z37, .ref z38, .ref z39, .int 0])), (z37, .inl (G.1, 8, .inl (fun _ => 0)))] sz) := by
  refine Met.ofW (cc := cX11_scene) (maxL := 2) (ret := (some .int)) (by decide) rfl ?_
  intro p e s m args below meth c s₁ B hml hv
  obtain ⟨rfl, hsz, hP, hK, hD0, hN⟩ := hv
  have hx := B.exec
  have hb := B.bytes
  have hr := B.returns
  have hts := atoms_spec (ws := wsX11_scene) B.pre
  have hown : s.vm.findClass RX11 = some m.cls := findClass_of_methodNamed B.named
  have hlocks := B.notSynchronized
  subst hsz
  have hD := hD0.self (sz := s.heap.size)
  generalize hAe : va_A [(h0, .inr (11, [.ref z0, .ref z23, .ref z25, .ref z32, .ref z36, .ref z40, .ref z43, .ref z49])), (z36, .inr (3, [.ref z37, .ref z38, .ref z39, .int 0])), (z37, .inl (G.1, 8, .inl (fun _ => 0)))] s.heap.size = A at hD ⊢
  have hA : ∀ q : Nat, s.heap.size ≤ q → A q := fun q h => by rw [← hAe]; exact Or.inr h
  have hS : va_S A s.heap s.heap [] := va_S.rf
  have hP : va_P D vwCl [(h0, .inr (11, [.ref z0, .ref z23, .ref z25, .ref z32, .ref z36, .ref z40, .ref z43, .ref z49])), (z36, .inr (3, [.ref z37, .ref z38, .ref z39, .int 0])), (z37, .inl (G.1, 8, .inl (fun _ => 0)))] s.heap := hP
  have hl := lv_entry ([.ref h0, .int x1]) (n := 2) (Nat.le_of_ble_eq_true rfl)
  rw [lg_entry_eq]
  generalize (lg_sl ([.ref h0, .int x1]) ++ List.replicate (2 - (lg_sl ([.ref h0, .int x1])).length) Slot.unset).toArray = ls at hl ⊢
  have hl : lv_has ls 2 [(0, .ref h0), (1, .int x1)] := hl
  refine lv_iload_n hx hb dX11_scene_0 rfl (lv_at hl 1 rfl) ?_
  refine lv_iconst (v := 0) hx hb dX11_scene_1 (by decide) ?_
  refine lv_bipush (v := 15) hx hb dX11_scene_2 (by decide) ?_
  have hPc := hP.sub (ws' := []) [] rfl
  have hDc := hD.sub (ws' := []) [] (by decide) rfl
  have hFc := va_free (wc := []) hD hS hA [] rfl
  refine va_calli (va_runS (As := [.int x1, .int 0, .int 15]) (rest := []) ⟨hx, hb, hml, hown, hts⟩ (kX11_within l D G x1 0 15 s.heap.size) (va_cwS 3 hts gX11_scene_X11_within rfl rfl rfl (by decide +kernel) ⟨Nat.le_of_ble_eq_true rfl, Nat.le_of_ble_eq_true rfl⟩) ⟨wB_blind, wB_pre hPc hK hDc hN⟩ rfl rfl hl.1 rfl (lv_room (Nat.le_of_ble_eq_true rfl)) dX11_scene_4 ⟨Nat.le_of_ble_eq_true rfl, Nat.le_of_ble_eq_true rfl⟩) hS (fun q _ h => hFc q h) hFc (fun r1 u t H1 locs ht hvm hr1 hB hz1 hk1 hS => ?_)
  obtain ⟨hP, hD⟩ := va_join (wr := [(h0, .inr (11, [.ref z0, .ref z23, .ref z25, .ref z32, .ref z36, .ref z40, .ref z43, .ref z49])), (z36, .inr (3, [.ref z37, .ref z38, .ref z39, .int 0])), (z37, .inl (G.1, 8, .inl (fun _ => 0)))]) (w1 := []) hP hD [] [0, 1, 2] rfl rfl (by decide) (by decide) hk1 hFc wP_nil wD_nil
  clear hPc hDc
  generalize H1 = H at hP hS ⊢
  have hP : va_P D vwCl [(h0, .inr (11, [.ref z0, .ref z23, .ref z25, .ref z32, .ref z36, .ref z40, .ref z43, .ref z49])), (z36, .inr (3, [.ref z37, .ref z38, .ref z39, .int 0])), (z37, .inl (G.1, 8, .inl (fun _ => 0)))] H := hP
  have hD : va_D A [(h0, .inr (11, [.ref z0, .ref z23, .ref z25, .ref z32, .ref z36, .ref z40, .ref z43, .ref z49])), (z36, .inr (3, [.ref z37, .ref z38, .ref z39, .int 0])), (z37, .inl (G.1, 8, .inl (fun _ => 0)))] := hD
  refine lv_if_eq (tgt := 22) hx hb dX11_scene_7 (by decide) (fun c2 => ?_) (fun c2 => ?_)
  · have kc2 : (inB x1 0 15) = false := wk_b0 hr1 c2
    refine lv_iconst (v := (-1)) hx hb dX11_scene_22 (by decide) ?_
    exact W.iret (v := (-1)) hx hb hr (fun t ht hW => ⟨⟨(-1), (), rfl, by first | (simp [kc2]; done) | rfl, trivial⟩, hS.F ht⟩) hS.2.2 dX11_scene_23
  · have kc2 : (inB x1 0 15) = true := wk_b1 hr1 c2
    refine lv_aload_n hx hb dX11_scene_10 rfl (lv_at hl 0 rfl) ?_
    refine va_get (D := D) (ci := 11) (v := .ref z36) (C := RX11) (T := TX11) (N := 8) hx hb hts iX11_scene_X11 hown hK hP 0 rfl rfl 4 (by decide) (hts (.fieldLink RX11 40 "PuppetBridge" "hands" "LPuppetBridge$Hands;") mX11_scene_w0) (fun _ h9 => h9) rfl dX11_scene_11 ?_
    refine va_get (D := D) (ci := 3) (v := .int 0) (C := RX3) (T := TX3) (N := 4) hx hb hts iX11_scene_X3 hown hK hP 1 rfl rfl 3 (by decide) (hts (.fieldLink RX11 233 "PuppetBridge$Hands" "count" "I") mX11_scene_w1) (fun _ h9 => h9) rfl dX11_scene_14 ?_
    refine lv_bipush (v := 8) hx hb dX11_scene_17 (by decide) ?_
    refine lv_icmp_lt (tgt := 24) hx hb dX11_scene_19 (by decide) (fun _ => ?_) (fun h9 => absurd h9 (by decide))
    refine lv_aload_n hx hb dX11_scene_24 rfl (lv_at hl 0 rfl) ?_
    refine va_get (D := D) (ci := 11) (v := .ref z36) (C := RX11) (T := TX11) (N := 8) hx hb hts iX11_scene_X11 hown hK hP 0 rfl rfl 4 (by decide) (hts (.fieldLink RX11 40 "PuppetBridge" "hands" "LPuppetBridge$Hands;") mX11_scene_w0) (fun _ h9 => h9) rfl dX11_scene_25 ?_
    refine va_get (D := D) (ci := 3) (v := .ref z37) (C := RX3) (T := TX3) (N := 4) hx hb hts iX11_scene_X3 hown hK hP 1 rfl rfl 0 (by decide) (hts (.fieldLink RX11 270 "PuppetBridge$Hands" "scenes" "[I") mX11_scene_w2) (fun _ h9 => h9) rfl dX11_scene_28 ?_
    refine lv_aload_n hx hb dX11_scene_31 rfl (lv_at hl 0 rfl) ?_
    refine va_get (D := D) (ci := 11) (v := .ref z36) (C := RX11) (T := TX11) (N := 8) hx hb hts iX11_scene_X11 hown hK hP 0 rfl rfl 4 (by decide) (hts (.fieldLink RX11 40 "PuppetBridge" "hands" "LPuppetBridge$Hands;") mX11_scene_w0) (fun _ h9 => h9) rfl dX11_scene_32 ?_
    refine va_get (D := D) (ci := 3) (v := .int 0) (C := RX3) (T := TX3) (N := 4) hx hb hts iX11_scene_X3 hown hK hP 1 rfl rfl 3 (by decide) (hts (.fieldLink RX11 233 "PuppetBridge$Hands" "count" "I") mX11_scene_w1) (fun _ h9 => h9) rfl dX11_scene_35 ?_
    refine lv_iload_n hx hb dX11_scene_38 rfl (lv_at hl 1 rfl) ?_
    refine va_iast hx hb hK hP hD hS 2 0 rfl rfl (wk_in rfl) dX11_scene_39 (fun H locs hP hD hS => ?_)
    have hP : va_P D vwCl [(h0, .inr (11, [.ref z0, .ref z23, .ref z25, .ref z32, .ref z36, .ref z40, .ref z43, .ref z49])), (z36, .inr (3, [.ref z37, .ref z38, .ref z39, .int 0])), (z37, .inl (G.1, 8, .inl (upd (fun _ => 0) 0 x1)))] H := hP
    have hD : va_D A [(h0, .inr (11, [.ref z0, .ref z23, .ref z25, .ref z32, .ref z36, .ref z40, .ref z43, .ref z49])), (z36, .inr (3, [.ref z37, .ref z38, .ref z39, .int 0])), (z37, .inl (G.1, 8, .inl (upd (fun _ => 0) 0 x1)))] := hD
    refine lv_aload_n hx hb dX11_scene_40 rfl (lv_at hl 0 rfl) ?_
    refine va_get (D := D) (ci := 11) (v := .ref z36) (C := RX11) (T := TX11) (N := 8) hx hb hts iX11_scene_X11 hown hK hP 0 rfl rfl 4 (by decide) (hts (.fieldLink RX11 40 "PuppetBridge" "hands" "LPuppetBridge$Hands;") mX11_scene_w0) (fun _ h9 => h9) rfl dX11_scene_41 ?_
    refine lv_dup hx hb dX11_scene_44 rfl ?_
    refine va_get (D := D) (ci := 3) (v := .int 0) (C := RX3) (T := TX3) (N := 4) hx hb hts iX11_scene_X3 hown hK hP 1 rfl rfl 3 (by decide) (hts (.fieldLink RX11 233 "PuppetBridge$Hands" "count" "I") mX11_scene_w1) (fun _ h9 => h9) rfl dX11_scene_45 ?_
    refine lv_iconst (v := 1) hx hb dX11_scene_48 (by decide) ?_
    refine lv_iadd hx hb dX11_scene_49 ?_
    refine wk_i 1 (by decide) ?_
    refine va_put (D := D) (ci := 3) (v := .int 1) (ty := (tyX3 3)) (C := RX3) (T := TX3) (N := 4) hx hb hts iX11_scene_X3 tyX3 tyX3_ok nmX3 hown hK hP hD hS 1 rfl rfl 3 (by decide) (hts (.fieldLink RX11 233 "PuppetBridge$Hands" "count" "I") mX11_scene_w1) (fun _ h9 => h9) rfl (tyX3_ok 3 (by decide)) rfl rfl (Nat.le_of_ble_eq_true rfl) dX11_scene_50 (fun H locs hP hD hS => ?_)
    have hP : va_P D vwCl [(h0, .inr (11, [.ref z0, .ref z23, .ref z25, .ref z32, .ref z36, .ref z40, .ref z43, .ref z49])), (z36, .inr (3, [.ref z37, .ref z38, .ref z39, .int 1])), (z37, .inl (G.1, 8, .inl (upd (fun _ => 0) 0 x1)))] H := hP
    have hD : va_D A [(h0, .inr (11, [.ref z0, .ref z23, .ref z25, .ref z32, .ref z36, .ref z40, .ref z43, .ref z49])), (z36, .inr (3, [.ref z37, .ref z38, .ref z39, .int 1])), (z37, .inl (G.1, 8, .inl (upd (fun _ => 0) 0 x1)))] := hD
    refine lv_aload_n hx hb dX11_scene_53 rfl (lv_at hl 0 rfl) ?_
    refine va_get (D := D) (ci := 11) (v := .ref z36) (C := RX11) (T := TX11) (N := 8) hx hb hts iX11_scene_X11 hown hK hP 0 rfl rfl 4 (by decide) (hts (.fieldLink RX11 40 "PuppetBridge" "hands" "LPuppetBridge$Hands;") mX11_scene_w0) (fun _ h9 => h9) rfl dX11_scene_54 ?_
    refine va_get (D := D) (ci := 3) (v := .int 1) (C := RX3) (T := TX3) (N := 4) hx hb hts iX11_scene_X3 hown hK hP 1 rfl rfl 3 (by decide) (hts (.fieldLink RX11 233 "PuppetBridge$Hands" "count" "I") mX11_scene_w1) (fun _ h9 => h9) rfl dX11_scene_57 ?_
    refine lv_iconst (v := 1) hx hb dX11_scene_60 (by decide) ?_
    refine lv_isub hx hb dX11_scene_61 ?_
    refine wk_i 0 (by decide) ?_
    exact W.iret (v := 0) hx hb hr (fun t ht hW => ⟨⟨0, (), rfl, by first | (simp [kc2]; done) | rfl, trivial⟩, hS.F ht⟩) hS.2.2 dX11_scene_62

theorem mX11_bars_w0 : Cond.fieldLink RX11 33 "PuppetBridge" "bridge" "LPuppetBridge$Bridge;" ∈ wsX11_bars := by decide +kernel
theorem iX11_bars_X11 : ∀ w ∈ wsX110, w ∈ wsX11_bars := fun _ h => List.mem_cons_of_mem _ (List.mem_append_left _ (List.mem_append_right _ h))
set_option maxRecDepth 20000 in
theorem ggX11_bars_X11_within : GoodIn wsX11_bars wsX11_within := goodIn_r _ [5] (by decide +kernel) (by decide +kernel)
set_option maxRecDepth 20000 in
theorem gX11_bars_X11_within : GoodIn wsX11_bars (va_wsS RX11 94 yX11_within wsX11_within) := goodIn_app (goodIn_of _ (by decide +kernel)) ggX11_bars_X11_within
set_option maxRecDepth 20000 in
theorem ggX11_bars_X0_lay : GoodIn wsX11_bars wsX0_lay := goodIn_r _ [10, 11, 12, 13, 14, 15, 16, 17, 18, 9, 19, 28, 29, 30, 31, 32, 33, 34, 35, 36] (by decide +kernel) (by decide +kernel)
set_option maxRecDepth 20000 in
theorem gX11_bars_X0_lay : GoodIn wsX11_bars (wsV RX11 238 RX0 yX0_lay wsX0_lay) := goodIn_app (goodIn_of _ (by decide +kernel)) ggX11_bars_X0_lay
theorem dX11_bars_0 : decode cX11_bars 0 = .ok (.iload_n 1, 1) := by decide +kernel
theorem dX11_bars_1 : decode cX11_bars 1 = .ok (.iconst 2, 1) := by decide +kernel
theorem dX11_bars_2 : decode cX11_bars 2 = .ok (.iconst 5, 1) := by decide +kernel
theorem dX11_bars_3 : decode cX11_bars 3 = .ok (.invokestatic 94, 3) := by decide +kernel
theorem dX11_bars_6 : decode cX11_bars 6 = .ok (.ifCond .ne 5, 3) := by decide +kernel
theorem dX11_bars_9 : decode cX11_bars 9 = .ok (.iconst 0, 1) := by decide +kernel
theorem dX11_bars_10 : decode cX11_bars 10 = .ok (.ireturn, 1) := by decide +kernel
theorem dX11_bars_11 : decode cX11_bars 11 = .ok (.aload_n 0, 1) := by decide +kernel
theorem dX11_bars_12 : decode cX11_bars 12 = .ok (.getfield 33, 3) := by decide +kernel
theorem dX11_bars_15 : decode cX11_bars 15 = .ok (.iload_n 1, 1) := by decide +kernel
theorem dX11_bars_16 : decode cX11_bars 16 = .ok (.invokevirtual 238, 3) := by decide +kernel
theorem dX11_bars_19 : decode cX11_bars 19 = .ok (.iconst 1, 1) := by decide +kernel
theorem dX11_bars_20 : decode cX11_bars 20 = .ok (.ireturn, 1) := by decide +kernel
set_option maxHeartbeats 4000000 in
set_option maxRecDepth 100000 in
/-- X11_bars -/
theorem kX11_bars (l : Launch) (D : va_G) (G : tyG) (h0 : Nat) (x1 : Int32) (z0 : Nat) (z23 : Nat) (z25 : Nat) (z32 : Nat) (z36 : Nat) (z40 : Nat) (z43 : Nat) (z49 : Nat) (z29 : Nat) (z33 : Nat) (z34 : Nat) (z35 : Nat) (z30 : Nat) (z31 : Nat) (sz : Nat) : Met l yX11_bars wsX11_bars ({ frames := 2, cells := 0, slots := 0, locals := 43 }) (va_Pc [.ref h0, .int x1] (wB D G sz [(h0, .inr (11, [.ref z0, .ref z23, .ref z25, .ref z32, .ref z36, .ref z40, .ref z43, .ref z49])), (z32, .inr (0, [.ref z29, .ref z33, .ref z34, .ref z35, .ref z30, .ref z31, .int 2, .int 0, .int 0])), (z33, .inl (G.1, 5, .inl (tI [0, 1, 2, 3, 4]))), (z34, .inl (G.1, 25, .inl (tI [0, 0, 0, 0, 0, 0, 0, 0, 0, 0, 0, 0, 0, 0, 0, 0, 0, 0, 0, 0, 0, 0, 0, 0, 0]))), (z35, .inl (G.2.1, 10, .inr (.inl (tL [0, 1, 0, 1, 0, 1, 0, 1, 0, 1]))))])) (va_Qi (fun (r : Int32) (_ : Unit) => r = if (inB x1 2 5) = true then 1 else 0) (fun _ _ => True) (va_A [(h0, .inr (11, [.ref z0, .ref z23, .ref z25, .ref z32, .ref z36, .ref z40, .ref z43, .ref z49])), (z32, .inr (0, [.ref z29, .ref z33, .ref z34, .ref z35, .ref z30, .ref z31, .int 2, .int 0, .int 0])), (z33, .inl (G.1, 5, .inl (tI [0, 1, 2, 3, 4]))), (z34, .inl (G.1, 25, .inl (tI [0, 0, 0, 0, 0, 0, 0, 0, 0, 0, 0, 0, 0, 0, 0, 0, 0, 0, 0, 0, 0, 0, 0, 0, 0]))), (z35, .inl (G.2.1, 10, .inr (.inl (tL [0, 1, 0, 1, 0, 1, 0, 1, 0, 1]))))] sz)) 0 0 (va_A [(h0, .inr (11, [.ref z0, .ref z23, .ref z25, .ref z32, .ref z36, .ref z40, .ref z43, .ref z49])), (z32, .inr (0, [.ref z29, .ref z33, .ref z34, .ref z35, .ref z30, .ref z31, .int 2, .int 0, .int 0])), (z33, .inl (G.1, 5, .inl (tI [0, 1, 2, 3, 4]))), (z34, .inl (G.1, 25, .inl (tI [0, 0, 0, 0, 0, 0, 0, 0, 0, 0, 0, 0, 0, 0, 0, 0, 0, 0, 0, 0, 0, 0, 0, 0, 0]))), (z35, .inl (G.2.1, 10, .inr (.inl (tL [0, 1, 0, 1, 0, 1, 0, 1, 0, 1]))))] sz) := by
  refine Met.ofW (cc := cX11_bars) (maxL := 2) (ret := (some .boolean)) (by decide) rfl ?_
  intro p e s m args below meth c s₁ B hml hv
  obtain ⟨rfl, hsz, hP, hK, hD0, hN⟩ := hv
  have hx := B.exec
  have hb := B.bytes
  have hr := B.returns
  have hts := atoms_spec (ws := wsX11_bars) B.pre
  have hown : s.vm.findClass RX11 = some m.cls := findClass_of_methodNamed B.named
  have hlocks := B.notSynchronized
  subst hsz
  have hD := hD0.self (sz := s.heap.size)
  generalize hAe : va_A [(h0, .inr (11, [.ref z0, .ref z23, .ref z25, .ref z32, .ref z36, .ref z40, .ref z43, .ref z49])), (z32, .inr (0, [.ref z29, .ref z33, .ref z34, .ref z35, .ref z30, .ref z31, .int 2, .int 0, .int 0])), (z33, .inl (G.1, 5, .inl (tI [0, 1, 2, 3, 4]))), (z34, .inl (G.1, 25, .inl (tI [0, 0, 0, 0, 0, 0, 0, 0, 0, 0, 0, 0, 0, 0, 0, 0, 0, 0, 0, 0, 0, 0, 0, 0, 0]))), (z35, .inl (G.2.1, 10, .inr (.inl (tL [0, 1, 0, 1, 0, 1, 0, 1, 0, 1]))))] s.heap.size = A at hD ⊢
  have hA : ∀ q : Nat, s.heap.size ≤ q → A q := fun q h => by rw [← hAe]; exact Or.inr h
  have hS : va_S A s.heap s.heap [] := va_S.rf
  have hP : va_P D vwCl [(h0, .inr (11, [.ref z0, .ref z23, .ref z25, .ref z32, .ref z36, .ref z40, .ref z43, .ref z49])), (z32, .inr (0, [.ref z29, .ref z33, .ref z34, .ref z35, .ref z30, .ref z31, .int 2, .int 0, .int 0])), (z33, .inl (G.1, 5, .inl (tI [0, 1, 2, 3, 4]))), (z34, .inl (G.1, 25, .inl (tI [0, 0, 0, 0, 0, 0, 0, 0, 0, 0, 0, 0, 0, 0, 0, 0, 0, 0, 0, 0, 0, 0, 0, 0, 0]))), (z35, .inl (G.2.1, 10, .inr (.inl (tL [0, 1, 0, 1, 0, 1, 0, 1, 0, 1]))))] s.heap := hP
  have hl := lv_entry ([.ref h0, .int x1]) (n := 2) (Nat.le_of_ble_eq_true rfl)
  rw [lg_entry_eq]
  generalize (lg_sl ([.ref h0, .int x1]) ++ List.replicate (2 - (lg_sl ([.ref h0, .int x1])).length) Slot.unset).toArray = ls at hl ⊢
  have hl : lv_has ls 2 [(0, .ref h0), (1, .int x1)] := hl
  refine lv_iload_n hx hb dX11_bars_0 rfl (lv_at hl 1 rfl) ?_
  refine lv_iconst (v := 2) hx hb dX11_bars_1 (by decide) ?_
  refine lv_iconst (v := 5) hx hb dX11_bars_2 (by decide) ?_
  have hPc := hP.sub (ws' := []) [] rfl
  have hDc := hD.sub (ws' := []) [] (by decide) rfl
  have hFc := va_free (wc := []) hD hS hA [] rfl
  refine va_calli (va_runS (As := [.int x1, .int 2, .int 5]) (rest := []) ⟨hx, hb, hml, hown, hts⟩ (kX11_within l D G x1 2 5 s.heap.size) (va_cwS 3 hts gX11_bars_X11_within rfl rfl rfl (by decide +kernel) ⟨Nat.le_of_ble_eq_true rfl, Nat.le_of_ble_eq_true rfl⟩) ⟨wB_blind, wB_pre hPc hK hDc hN⟩ rfl rfl hl.1 rfl (lv_room (Nat.le_of_ble_eq_true rfl)) dX11_bars_3 ⟨Nat.le_of_ble_eq_true rfl, Nat.le_of_ble_eq_true rfl⟩) hS (fun q _ h => hFc q h) hFc (fun r1 u t H1 locs ht hvm hr1 hB hz1 hk1 hS => ?_)
  obtain ⟨hP, hD⟩ := va_join (wr := [(h0, .inr (11, [.ref z0, .ref z23, .ref z25, .ref z32, .ref z36, .ref z40, .ref z43, .ref z49])), (z32, .inr (0, [.ref z29, .ref z33, .ref z34, .ref z35, .ref z30, .ref z31, .int 2, .int 0, .int 0])), (z33, .inl (G.1, 5, .inl (tI [0, 1, 2, 3, 4]))), (z34, .inl (G.1, 25, .inl (tI [0, 0, 0, 0, 0, 0, 0, 0, 0, 0, 0, 0, 0, 0, 0, 0, 0, 0, 0, 0, 0, 0, 0, 0, 0]))), (z35, .inl (G.2.1, 10, .inr (.inl (tL [0, 1, 0, 1, 0, 1, 0, 1, 0, 1]))))]) (w1 := []) hP hD [] [0, 1, 2, 3, 4] rfl rfl (by decide) (by decide) hk1 hFc wP_nil wD_nil
  clear hPc hDc
  generalize H1 = H at hP hS ⊢
  have hP : va_P D vwCl [(h0, .inr (11, [.ref z0, .ref z23, .ref z25, .ref z32, .ref z36, .ref z40, .ref z43, .ref z49])), (z32, .inr (0, [.ref z29, .ref z33, .ref z34, .ref z35, .ref z30, .ref z31, .int 2, .int 0, .int 0])), (z33, .inl (G.1, 5, .inl (tI [0, 1, 2, 3, 4]))), (z34, .inl (G.1, 25, .inl (tI [0, 0, 0, 0, 0, 0, 0, 0, 0, 0, 0, 0, 0, 0, 0, 0, 0, 0, 0, 0, 0, 0, 0, 0, 0]))), (z35, .inl (G.2.1, 10, .inr (.inl (tL [0, 1, 0, 1, 0, 1, 0, 1, 0, 1]))))] H := hP
  have hD : va_D A [(h0, .inr (11, [.ref z0, .ref z23, .ref z25, .ref z32, .ref z36, .ref z40, .ref z43, .ref z49])), (z32, .inr (0, [.ref z29, .ref z33, .ref z34, .ref z35, .ref z30, .ref z31, .int 2, .int 0, .int 0])), (z33, .inl (G.1, 5, .inl (tI [0, 1, 2, 3, 4]))), (z34, .inl (G.1, 25, .inl (tI [0, 0, 0, 0, 0, 0, 0, 0, 0, 0, 0, 0, 0, 0, 0, 0, 0, 0, 0, 0, 0, 0, 0, 0, 0]))), (z35, .inl (G.2.1, 10, .inr (.inl (tL [0, 1, 0, 1, 0, 1, 0, 1, 0, 1]))))] := hD
  refine lv_if_ne (tgt := 11) hx hb dX11_bars_6 (by decide) (fun c2 => ?_) (fun c2 => ?_)
  · have kc2 : (inB x1 2 5) = true := wk_b1 hr1 c2
    refine lv_aload_n hx hb dX11_bars_11 rfl (lv_at hl 0 rfl) ?_
    refine va_get (D := D) (ci := 11) (v := .ref z32) (C := RX11) (T := TX11) (N := 8) hx hb hts iX11_bars_X11 hown hK hP 0 rfl rfl 3 (by decide) (hts (.fieldLink RX11 33 "PuppetBridge" "bridge" "LPuppetBridge$Bridge;") mX11_bars_w0) (fun _ h9 => h9) rfl dX11_bars_12 ?_
    refine lv_iload_n hx hb dX11_bars_15 rfl (lv_at hl 1 rfl) ?_
    have hPc := hP.sub (ws' := [(z32, .inr (0, [.ref z29, .ref z33, .ref z34, .ref z35, .ref z30, .ref z31, .int 2, .int 0, .int 0])), (z33, .inl (G.1, 5, .inl (tI [0, 1, 2, 3, 4]))), (z34, .inl (G.1, 25, .inl (tI [0, 0, 0, 0, 0, 0, 0, 0, 0, 0, 0, 0, 0, 0, 0, 0, 0, 0, 0, 0, 0, 0, 0, 0, 0]))), (z35, .inl (G.2.1, 10, .inr (.inl (tL [0, 1, 0, 1, 0, 1, 0, 1, 0, 1]))))]) [1, 2, 3, 4] rfl
    have hDc := hD.sub (ws' := [(z32, .inr (0, [.ref z29, .ref z33, .ref z34, .ref z35, .ref z30, .ref z31, .int 2, .int 0, .int 0])), (z33, .inl (G.1, 5, .inl (tI [0, 1, 2, 3, 4]))), (z34, .inl (G.1, 25, .inl (tI [0, 0, 0, 0, 0, 0, 0, 0, 0, 0, 0, 0, 0, 0, 0, 0, 0, 0, 0, 0, 0, 0, 0, 0, 0]))), (z35, .inl (G.2.1, 10, .inr (.inl (tL [0, 1, 0, 1, 0, 1, 0, 1, 0, 1]))))]) [1, 2, 3, 4] (by decide) rfl
    have hFc := va_free (wc := [(z32, .inr (0, [.ref z29, .ref z33, .ref z34, .ref z35, .ref z30, .ref z31, .int 2, .int 0, .int 0])), (z33, .inl (G.1, 5, .inl (tI [0, 1, 2, 3, 4]))), (z34, .inl (G.1, 25, .inl (tI [0, 0, 0, 0, 0, 0, 0, 0, 0, 0, 0, 0, 0, 0, 0, 0, 0, 0, 0, 0, 0, 0, 0, 0, 0]))), (z35, .inl (G.2.1, 10, .inr (.inl (tL [0, 1, 0, 1, 0, 1, 0, 1, 0, 1]))))]) hD hS hA [1, 2, 3, 4] rfl
    refine va_callv (va_runV (As := [.int x1]) (rest := []) ⟨hx, hb, hml, hown, hts⟩ (kX0_lay l D G z32 x1 z29 z33 z34 z35 z30 z31 (tI [0, 1, 2, 3, 4]) (tI [0, 0, 0, 0, 0, 0, 0, 0, 0, 0, 0, 0, 0, 0, 0, 0, 0, 0, 0, 0, 0, 0, 0, 0, 0]) (tL [0, 1, 0, 1, 0, 1, 0, 1, 0, 1]) 2 0 0 H.size) (cwV 1 hts gX11_bars_X0_lay rfl rfl rfl (by decide +kernel) ⟨Nat.le_of_ble_eq_true rfl, Nat.le_of_ble_eq_true rfl⟩) ⟨wB_blind, va_recv hK hPc (ci := 0) (q0 := 0) rfl rfl, wB_pre hPc hK hDc hN⟩ rfl rfl hl.1 rfl (lv_room (Nat.le_of_ble_eq_true rfl)) dX11_bars_16 ⟨Nat.le_of_ble_eq_true rfl, Nat.le_of_ble_eq_true rfl⟩) hS (fun q _ h => hFc q h) hFc (fun u t H1 locs ht hvm hr3 hB hz1 hk1 hS => ?_)
    obtain ⟨hP1, hK1, hD1⟩ := hB
    rw [ht] at hP1
    obtain ⟨hP, hD⟩ := va_join (wr := [(h0, .inr (11, [.ref z0, .ref z23, .ref z25, .ref z32, .ref z36, .ref z40, .ref z43, .ref z49]))]) (w1 := [(z32, .inr (0, [.ref z29, .ref z33, .ref z34, .ref z35, .ref z30, .ref z31, .int x1, .int 0, .int 0])), (z33, .inl (G.1, 5, .inl (tI [0, 1, 2, 3, 4]))), (z34, .inl (G.1, 25, .inl (tI [0, 0, 0, 0, 0, 0, 0, 0, 0, 0, 0, 0, 0, 0, 0, 0, 0, 0, 0, 0, 0, 0, 0, 0, 0]))), (z35, .inl (G.2.1, 10, .inr (.inl (tL [0, 1, 0, 1, 0, 1, 0, 1, 0, 1]))))]) hP hD [1, 2, 3, 4] [0] rfl rfl (by decide) (by decide) hk1 hFc hP1 hD1
    clear hPc hDc
    generalize H1 = H at hP hS ⊢
    have hP : va_P D vwCl [(h0, .inr (11, [.ref z0, .ref z23, .ref z25, .ref z32, .ref z36, .ref z40, .ref z43, .ref z49])), (z32, .inr (0, [.ref z29, .ref z33, .ref z34, .ref z35, .ref z30, .ref z31, .int x1, .int 0, .int 0])), (z33, .inl (G.1, 5, .inl (tI [0, 1, 2, 3, 4]))), (z34, .inl (G.1, 25, .inl (tI [0, 0, 0, 0, 0, 0, 0, 0, 0, 0, 0, 0, 0, 0, 0, 0, 0, 0, 0, 0, 0, 0, 0, 0, 0]))), (z35, .inl (G.2.1, 10, .inr (.inl (tL [0, 1, 0, 1, 0, 1, 0, 1, 0, 1]))))] H := hP
    have hD : va_D A [(h0, .inr (11, [.ref z0, .ref z23, .ref z25, .ref z32, .ref z36, .ref z40, .ref z43, .ref z49])), (z32, .inr (0, [.ref z29, .ref z33, .ref z34, .ref z35, .ref z30, .ref z31, .int x1, .int 0, .int 0])), (z33, .inl (G.1, 5, .inl (tI [0, 1, 2, 3, 4]))), (z34, .inl (G.1, 25, .inl (tI [0, 0, 0, 0, 0, 0, 0, 0, 0, 0, 0, 0, 0, 0, 0, 0, 0, 0, 0, 0, 0, 0, 0, 0, 0]))), (z35, .inl (G.2.1, 10, .inr (.inl (tL [0, 1, 0, 1, 0, 1, 0, 1, 0, 1]))))] := hD
    refine lv_iconst (v := 1) hx hb dX11_bars_19 (by decide) ?_
    exact W.zret (v := 1) hx hb hr rfl (fun t ht hW => ⟨⟨1, (), rfl, by first | (simp [kc2]; done) | rfl, trivial⟩, hS.F ht⟩) hS.2.2 dX11_bars_20
  · have kc2 : (inB x1 2 5) = false := wk_b0 hr1 c2
    refine lv_iconst (v := 0) hx hb dX11_bars_9 (by decide) ?_
    exact W.zret (v := 0) hx hb hr rfl (fun t ht hW => ⟨⟨0, (), rfl, by first | (simp [kc2]; done) | rfl, trivial⟩, hS.F ht⟩) hS.2.2 dX11_bars_10
