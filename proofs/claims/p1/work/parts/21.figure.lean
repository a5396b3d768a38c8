set_option maxHeartbeats 4000000 in
set_option maxRecDepth 100000 in
/-- J9_floorMod_7cf53 -/
theorem kJ9_floorMod (l : Launch) (D : va_G) (G : tyG) (x : Int32) (sz : Nat) : Met l yJ9_floorMod_7cf53 wsJ9_floorMod_7cf53 ({ frames := 0, cells := 0, slots := 0, locals := 0 }) (va_Pc [.int x, .int 16] (wB D G sz [])) (va_Qi (fun (r : Int32) (_ : Unit) => vp_in r 16) (fun _ _ => True) (va_A [] sz)) 0 0 (va_A [] sz) := by
  refine wk_ofW (cc := cJ9_floorMod_7cf53) (maxL := 3) (ret := (some .int)) (by decide +kernel) rfl ?_
  intro p e s m args below meth c s₁ B hml hv
  obtain ⟨rfl, hsz, hP, hK, hD0, hN⟩ := hv
  have hx := B.exec
  have hb := B.bytes
  have hr := B.returns
  have hts := atoms_spec (ws := wsJ9_floorMod_7cf53) B.pre
  have hown : s.vm.findClass RJ9 = some m.cls := findClass_of_methodNamed B.named
  have hlocks := B.notSynchronized
  subst hsz
  have hD := hD0.self (sz := s.heap.size)
  generalize hAe : va_A [] s.heap.size = A at hD ⊢
  have hA : ∀ q : Nat, s.heap.size ≤ q → A q := fun q h => by rw [← hAe]; exact Or.inr h
  have hS : va_S A s.heap s.heap [] := va_S.rf
  have hP : va_P D vwCl [] s.heap := hP
  have hl := lv_entry ([.int x, .int 16]) (n := 3) (Nat.le_of_ble_eq_true rfl)
  rw [lg_entry_eq]
  generalize (lg_sl ([.int x, .int 16]) ++ List.replicate (3 - (lg_sl ([.int x, .int 16])).length) Slot.unset).toArray = ls at hl ⊢
  have hl : lv_has ls 3 [(0, .int x), (1, .int 16)] := hl
  refine lv_iload_n hx hb dJ9_floorMod_7cf53_0 rfl (lv_at hl 0 rfl) ?_
  refine lv_iload_n hx hb dJ9_floorMod_7cf53_1 rfl (lv_at hl 1 rfl) ?_
  refine lv_irem hx hb dJ9_floorMod_7cf53_2 (by decide) ?_
  refine lv_topi (fun mm emm => ?_)
  refine lv_istore_n (lv' := [(2, .int mm), (0, .int x), (1, .int 16)]) hx hb dJ9_floorMod_7cf53_3 rfl hl (by decide) rfl (fun ls hl => ?_)
  refine lv_iload_n hx hb dJ9_floorMod_7cf53_4 rfl (lv_at hl 1 rfl) ?_
  refine lv_iload_n hx hb dJ9_floorMod_7cf53_5 rfl (lv_at hl 2 rfl) ?_
  refine lv_ixor hx hb dJ9_floorMod_7cf53_6 ?_
  refine lv_topi (fun yy eyy => ?_)
  refine lv_if_ge (tgt := 18) hx hb dJ9_floorMod_7cf53_7 (by decide) (fun c1 => ?_) (fun c1 => ?_)
  · refine lv_iload_n hx hb dJ9_floorMod_7cf53_18 rfl (lv_at hl 0 rfl) ?_
    exact W.iret (v := mm) hx hb hr (fun t ht hW => ⟨⟨mm, (), rfl, wk_fm1 eyy emm c1, trivial⟩, hS.F ht⟩) hS.2.2 dJ9_floorMod_7cf53_19
  · refine lv_iload_n hx hb dJ9_floorMod_7cf53_10 rfl (lv_at hl 0 rfl) ?_
    refine lv_if_eq (tgt := 18) hx hb dJ9_floorMod_7cf53_11 (by decide) (fun c2 => ?_) (fun c2 => ?_)
    · refine lv_iload_n hx hb dJ9_floorMod_7cf53_18 rfl (lv_at hl 0 rfl) ?_
      exact W.iret (v := mm) hx hb hr (fun t ht hW => ⟨⟨mm, (), rfl, wk_fm2 c2, trivial⟩, hS.F ht⟩) hS.2.2 dJ9_floorMod_7cf53_19
    · refine lv_iload_n hx hb dJ9_floorMod_7cf53_14 rfl (lv_at hl 0 rfl) ?_
      refine lv_iload_n hx hb dJ9_floorMod_7cf53_15 rfl (lv_at hl 2 rfl) ?_
      refine lv_iadd hx hb dJ9_floorMod_7cf53_16 ?_
      refine lv_topi (fun rr err => ?_)
      exact W.iret (v := rr) hx hb hr (fun t ht hW => ⟨⟨rr, (), rfl, wk_fm3 eyy emm c1 c2 err, trivial⟩, hS.F ht⟩) hS.2.2 dJ9_floorMod_7cf53_17

theorem mX2_headingFor_w0 : Cond.fieldLink RX2 21 "PuppetBridge$Figure" "most" "[I" ∈ wsX2_headingFor := by decide +kernel
theorem mX2_headingFor_w1 : Cond.methodLink RX2 101 Lib.Math.min.name ∈ wsX2_headingFor := by decide +kernel
theorem mX2_headingFor_w2 : Cond.static Lib.Math.min.name ∈ wsX2_headingFor := by decide +kernel
theorem mX2_headingFor_w3 : Cond.initialized "java/lang/Math" ∈ wsX2_headingFor := by decide +kernel
theorem mX2_headingFor_w4 : Cond.code Lib.Math.min.name Lib.Math.min.code 2 (some .int) ∈ wsX2_headingFor := by decide +kernel
theorem mX2_headingFor_w5 : Cond.methodLink RX2 106 Lib.Math.max.name ∈ wsX2_headingFor := by decide +kernel
theorem mX2_headingFor_w6 : Cond.static Lib.Math.max.name ∈ wsX2_headingFor := by decide +kernel
theorem mX2_headingFor_w7 : Cond.code Lib.Math.max.name Lib.Math.max.code 2 (some .int) ∈ wsX2_headingFor := by decide +kernel
theorem mX2_headingFor_w8 : Cond.fieldLink RX2 18 "PuppetBridge$Figure" "rest" "[I" ∈ wsX2_headingFor := by decide +kernel
theorem iX2_headingFor_X2 : ∀ w ∈ wsX20, w ∈ wsX2_headingFor := fun _ h => List.mem_cons_of_mem _ (List.mem_append_right _ h)
set_option maxRecDepth 20000 in
theorem ggX2_headingFor_J9_floorMod_7cf53 : GoodIn wsX2_headingFor wsJ9_floorMod_7cf53 := goodIn_r _ [13] (by decide +kernel) (by decide +kernel)
set_option maxRecDepth 20000 in
theorem gX2_headingFor_J9_floorMod_7cf53 : GoodIn wsX2_headingFor (va_wsS RX2 109 yJ9_floorMod_7cf53 wsJ9_floorMod_7cf53) := goodIn_app (goodIn_of _ (by decide +kernel)) ggX2_headingFor_J9_floorMod_7cf53
theorem dX2_headingFor_0 : decode cX2_headingFor 0 = .ok (.aload_n 0, 1) := by decide +kernel
theorem dX2_headingFor_1 : decode cX2_headingFor 1 = .ok (.getfield 21, 3) := by decide +kernel
theorem dX2_headingFor_4 : decode cX2_headingFor 4 = .ok (.iload_n 1, 1) := by decide +kernel
theorem dX2_headingFor_5 : decode cX2_headingFor 5 = .ok (.iaload, 1) := by decide +kernel
theorem dX2_headingFor_6 : decode cX2_headingFor 6 = .ok (.ineg, 1) := by decide +kernel
theorem dX2_headingFor_7 : decode cX2_headingFor 7 = .ok (.aload_n 0, 1) := by decide +kernel
theorem dX2_headingFor_8 : decode cX2_headingFor 8 = .ok (.getfield 21, 3) := by decide +kernel
theorem dX2_headingFor_11 : decode cX2_headingFor 11 = .ok (.iload_n 1, 1) := by decide +kernel
theorem dX2_headingFor_12 : decode cX2_headingFor 12 = .ok (.iaload, 1) := by decide +kernel
theorem dX2_headingFor_13 : decode cX2_headingFor 13 = .ok (.iload_n 2, 1) := by decide +kernel
theorem dX2_headingFor_14 : decode cX2_headingFor 14 = .ok (.invokestatic 101, 3) := by decide +kernel
theorem dX2_headingFor_17 : decode cX2_headingFor 17 = .ok (.invokestatic 106, 3) := by decide +kernel
theorem dX2_headingFor_20 : decode cX2_headingFor 20 = .ok (.istore_n 3, 1) := by decide +kernel
theorem dX2_headingFor_21 : decode cX2_headingFor 21 = .ok (.aload_n 0, 1) := by decide +kernel
theorem dX2_headingFor_22 : decode cX2_headingFor 22 = .ok (.getfield 18, 3) := by decide +kernel
theorem dX2_headingFor_25 : decode cX2_headingFor 25 = .ok (.iload_n 1, 1) := by decide +kernel
theorem dX2_headingFor_26 : decode cX2_headingFor 26 = .ok (.iaload, 1) := by decide +kernel
theorem dX2_headingFor_27 : decode cX2_headingFor 27 = .ok (.iload_n 3, 1) := by decide +kernel
theorem dX2_headingFor_28 : decode cX2_headingFor 28 = .ok (.iadd, 1) := by decide +kernel
theorem dX2_headingFor_29 : decode cX2_headingFor 29 = .ok (.bipush 16, 2) := by decide +kernel
theorem dX2_headingFor_31 : decode cX2_headingFor 31 = .ok (.invokestatic 109, 3) := by decide +kernel
theorem dX2_headingFor_34 : decode cX2_headingFor 34 = .ok (.ireturn, 1) := by decide +kernel
set_option maxHeartbeats 4000000 in
set_option maxRecDepth 100000 in
/-- X2_headingFor -/
theorem kX2_headingFor (l : Launch) (D : va_G) (G : tyG) (z4 : Nat) (q : Int32) (z5 : Nat) (z6 : Nat) (z7 : Nat) (z8 : Nat) (z9 : Nat) (z10 : Nat) (z11 : Nat) (z12 : Nat) (z20 : Nat) (fr : Nat → Int32) (fm : Nat → Int32) (sz : Nat) : Met l yX2_headingFor wsX2_headingFor ({ frames := 1, cells := 0, slots := 0, locals := 32 }) (va_Pc [.ref z4, .int 0, .int q] (wB D G sz [(z4, .inr (2, [.ref z5, .ref z6, .ref z7, .ref z8, .ref z9, .ref z10, .ref z11, .ref z12, .ref z20, .int 1, .int 0, .int 0, .int 0, .int 0, .int 0, .int 0])), (z7, .inl (G.1, 8, .inl fr)), (z8, .inl (G.1, 8, .inl fm))])) (va_Qi (fun (r : Int32) (_ : Unit) => vp_in r 16) (fun _ t => wS D G (va_A [(z4, .inr (2, [.ref z5, .ref z6, .ref z7, .ref z8, .ref z9, .ref z10, .ref z11, .ref z12, .ref z20, .int 1, .int 0, .int 0, .int 0, .int 0, .int 0, .int 0])), (z7, .inl (G.1, 8, .inl fr)), (z8, .inl (G.1, 8, .inl fm))] sz) [(z4, .inr (2, [.ref z5, .ref z6, .ref z7, .ref z8, .ref z9, .ref z10, .ref z11, .ref z12, .ref z20, .int 1, .int 0, .int 0, .int 0, .int 0, .int 0, .int 0])), (z7, .inl (G.1, 8, .inl fr)), (z8, .inl (G.1, 8, .inl fm))] t) (va_A [(z4, .inr (2, [.ref z5, .ref z6, .ref z7, .ref z8, .ref z9, .ref z10, .ref z11, .ref z12, .ref z20, .int 1, .int 0, .int 0, .int 0, .int 0, .int 0, .int 0])), (z7, .inl (G.1, 8, .inl fr)), (z8, .inl (G.1, 8, .inl fm))] sz)) 0 0 (va_A [(z4, .inr (2, [.ref z5, .ref z6, .ref z7, .ref z8, .ref z9, .ref z10, .ref z11, .ref z12, .ref z20, .int 1, .int 0, .int 0, .int 0, .int 0, .int 0, .int 0])), (z7, .inl (G.1, 8, .inl fr)), (z8, .inl (G.1, 8, .inl fm))] sz) := by
  refine Met.ofW (cc := cX2_headingFor) (maxL := 4) (ret := (some .int)) (by decide) rfl ?_
  intro p e s m args below meth c s₁ B hml hv
  obtain ⟨rfl, hsz, hP, hK, hD0, hN⟩ := hv
  have hx := B.exec
  have hb := B.bytes
  have hr := B.returns
  have hts := atoms_spec (ws := wsX2_headingFor) B.pre
  have hown : s.vm.findClass RX2 = some m.cls := findClass_of_methodNamed B.named
  have hlocks := B.notSynchronized
  subst hsz
  have hD := hD0.self (sz := s.heap.size)
  generalize hAe : va_A [(z4, .inr (2, [.ref z5, .ref z6, .ref z7, .ref z8, .ref z9, .ref z10, .ref z11, .ref z12, .ref z20, .int 1, .int 0, .int 0, .int 0, .int 0, .int 0, .int 0])), (z7, .inl (G.1, 8, .inl fr)), (z8, .inl (G.1, 8, .inl fm))] s.heap.size = A at hD ⊢
  have hA : ∀ q : Nat, s.heap.size ≤ q → A q := fun q h => by rw [← hAe]; exact Or.inr h
  have hS : va_S A s.heap s.heap [] := va_S.rf
  have hP : va_P D vwCl [(z4, .inr (2, [.ref z5, .ref z6, .ref z7, .ref z8, .ref z9, .ref z10, .ref z11, .ref z12, .ref z20, .int 1, .int 0, .int 0, .int 0, .int 0, .int 0, .int 0])), (z7, .inl (G.1, 8, .inl fr)), (z8, .inl (G.1, 8, .inl fm))] s.heap := hP
  have hl := lv_entry ([.ref z4, .int 0, .int q]) (n := 4) (Nat.le_of_ble_eq_true rfl)
  rw [lg_entry_eq]
  generalize (lg_sl ([.ref z4, .int 0, .int q]) ++ List.replicate (4 - (lg_sl ([.ref z4, .int 0, .int q])).length) Slot.unset).toArray = ls at hl ⊢
  have hl : lv_has ls 4 [(0, .ref z4), (1, .int 0), (2, .int q)] := hl
  refine lv_aload_n hx hb dX2_headingFor_0 rfl (lv_at hl 0 rfl) ?_
  refine va_get (D := D) (ci := 2) (v := .ref z8) (C := RX2) (T := TX2) (N := 16) hx hb hts iX2_headingFor_X2 hown hK hP 0 rfl rfl 3 (by decide) (hts (.fieldLink RX2 21 "PuppetBridge$Figure" "most" "[I") mX2_headingFor_w0) (fun _ h9 => h9) rfl dX2_headingFor_1 ?_
  refine lv_iload_n hx hb dX2_headingFor_4 rfl (lv_at hl 1 rfl) ?_
  refine va_iald hx hb hK hP 2 0 rfl rfl (wk_in rfl) dX2_headingFor_5 ?_
  refine lv_topi (fun v1 ev1 => ?_)
  refine lv_ineg hx hb dX2_headingFor_6 ?_
  refine lv_topi (fun v2 ev2 => ?_)
  refine lv_aload_n hx hb dX2_headingFor_7 rfl (lv_at hl 0 rfl) ?_
  refine va_get (D := D) (ci := 2) (v := .ref z8) (C := RX2) (T := TX2) (N := 16) hx hb hts iX2_headingFor_X2 hown hK hP 0 rfl rfl 3 (by decide) (hts (.fieldLink RX2 21 "PuppetBridge$Figure" "most" "[I") mX2_headingFor_w0) (fun _ h9 => h9) rfl dX2_headingFor_8 ?_
  refine lv_iload_n hx hb dX2_headingFor_11 rfl (lv_at hl 1 rfl) ?_
  refine va_iald hx hb hK hP 2 0 rfl rfl (wk_in rfl) dX2_headingFor_12 ?_
  refine lv_topi (fun v3 ev3 => ?_)
  refine lv_iload_n hx hb dX2_headingFor_13 rfl (lv_at hl 2 rfl) ?_
  refine va_mmin hx hb (by rw [hml]; exact hl.1.symm) hown (hts (.methodLink RX2 101 Lib.Math.min.name) mX2_headingFor_w1) (hts (.static Lib.Math.min.name) mX2_headingFor_w2) (hts (.initialized "java/lang/Math") mX2_headingFor_w3) (hts (.code Lib.Math.min.name Lib.Math.min.code 2 (some .int)) mX2_headingFor_w4) (Nat.le_of_ble_eq_true rfl) (Nat.le_of_ble_eq_true rfl) (Nat.le_of_ble_eq_true rfl) (Nat.le_of_ble_eq_true rfl) dX2_headingFor_14 ?_
  refine lv_topi (fun v4 ev4 => ?_)
  refine va_mmax hx hb (by rw [hml]; exact hl.1.symm) hown (hts (.methodLink RX2 106 Lib.Math.max.name) mX2_headingFor_w5) (hts (.static Lib.Math.max.name) mX2_headingFor_w6) (hts (.initialized "java/lang/Math") mX2_headingFor_w3) (hts (.code Lib.Math.max.name Lib.Math.max.code 2 (some .int)) mX2_headingFor_w7) (Nat.le_of_ble_eq_true rfl) (Nat.le_of_ble_eq_true rfl) (Nat.le_of_ble_eq_true rfl) (Nat.le_of_ble_eq_true rfl) dX2_headingFor_17 ?_
  refine lv_topi (fun v5 ev5 => ?_)
  refine lv_istore_n (lv' := [(3, .int v5), (0, .ref z4), (1, .int 0), (2, .int q)]) hx hb dX2_headingFor_20 rfl hl (by decide) rfl (fun ls hl => ?_)
  refine lv_aload_n hx hb dX2_headingFor_21 rfl (lv_at hl 1 rfl) ?_
  refine va_get (D := D) (ci := 2) (v := .ref z7) (C := RX2) (T := TX2) (N := 16) hx hb hts iX2_headingFor_X2 hown hK hP 0 rfl rfl 2 (by decide) (hts (.fieldLink RX2 18 "PuppetBridge$Figure" "rest" "[I") mX2_headingFor_w8) (fun _ h9 => h9) rfl dX2_headingFor_22 ?_
  refine lv_iload_n hx hb dX2_headingFor_25 rfl (lv_at hl 2 rfl) ?_
  refine va_iald hx hb hK hP 1 0 rfl rfl (wk_in rfl) dX2_headingFor_26 ?_
  refine lv_topi (fun v6 ev6 => ?_)
  refine lv_iload_n hx hb dX2_headingFor_27 rfl (lv_at hl 0 rfl) ?_
  refine lv_iadd hx hb dX2_headingFor_28 ?_
  refine lv_topi (fun v7 ev7 => ?_)
  refine lv_bipush (v := 16) hx hb dX2_headingFor_29 (by decide) ?_
  have hPc := hP.sub (ws' := []) [] rfl
  have hDc := hD.sub (ws' := []) [] (by decide) rfl
  have hFc := va_free (wc := []) hD hS hA [] rfl
  refine va_calli (va_runS (As := [.int v7, .int 16]) (rest := []) ⟨hx, hb, hml, hown, hts⟩ (kJ9_floorMod l D G v7 s.heap.size) (va_cwS 2 hts gX2_headingFor_J9_floorMod_7cf53 rfl rfl rfl (by decide +kernel) ⟨Nat.le_of_ble_eq_true rfl, Nat.le_of_ble_eq_true rfl⟩) ⟨wB_blind, wB_pre hPc hK hDc hN⟩ rfl rfl hl.1 rfl (lv_room (Nat.le_of_ble_eq_true rfl)) dX2_headingFor_31 ⟨Nat.le_of_ble_eq_true rfl, Nat.le_of_ble_eq_true rfl⟩) hS (fun q _ h => hFc q h) hFc (fun r8 u t H1 locs ht hvm hr8 hB hz1 hk1 hS => ?_)
  obtain ⟨hP, hD⟩ := va_join (wr := [(z4, .inr (2, [.ref z5, .ref z6, .ref z7, .ref z8, .ref z9, .ref z10, .ref z11, .ref z12, .ref z20, .int 1, .int 0, .int 0, .int 0, .int 0, .int 0, .int 0])), (z7, .inl (G.1, 8, .inl fr)), (z8, .inl (G.1, 8, .inl fm))]) (w1 := []) hP hD [] [0, 1, 2] rfl rfl (by decide) (by decide) hk1 hFc wP_nil wD_nil
  clear hPc hDc
  generalize H1 = H at hP hS ⊢
  have hP : va_P D vwCl [(z4, .inr (2, [.ref z5, .ref z6, .ref z7, .ref z8, .ref z9, .ref z10, .ref z11, .ref z12, .ref z20, .int 1, .int 0, .int 0, .int 0, .int 0, .int 0, .int 0])), (z7, .inl (G.1, 8, .inl fr)), (z8, .inl (G.1, 8, .inl fm))] H := hP
  have hD : va_D A [(z4, .inr (2, [.ref z5, .ref z6, .ref z7, .ref z8, .ref z9, .ref z10, .ref z11, .ref z12, .ref z20, .int 1, .int 0, .int 0, .int 0, .int 0, .int 0, .int 0])), (z7, .inl (G.1, 8, .inl fr)), (z8, .inl (G.1, 8, .inl fm))] := hD
  have hP9 := hP.sub (ws' := [(z4, .inr (2, [.ref z5, .ref z6, .ref z7, .ref z8, .ref z9, .ref z10, .ref z11, .ref z12, .ref z20, .int 1, .int 0, .int 0, .int 0, .int 0, .int 0, .int 0])), (z7, .inl (G.1, 8, .inl fr)), (z8, .inl (G.1, 8, .inl fm))]) [0, 1, 2] rfl
  have hD9 := hD.sub (ws' := [(z4, .inr (2, [.ref z5, .ref z6, .ref z7, .ref z8, .ref z9, .ref z10, .ref z11, .ref z12, .ref z20, .int 1, .int 0, .int 0, .int 0, .int 0, .int 0, .int 0])), (z7, .inl (G.1, 8, .inl fr)), (z8, .inl (G.1, 8, .inl fm))]) [0, 1, 2] (by decide) rfl
  exact W.iret (v := r8) hx hb hr (fun t ht hW => ⟨⟨r8, (), rfl, hr8, ⟨by rw [ht]; exact hP9, va_K.moved hW.alike hK, hD9⟩⟩, hS.F ht⟩) hS.2.2 dX2_headingFor_34

theorem mX2_bend_w0 : Cond.fieldLink RX2 47 "PuppetBridge$Figure" "limbs" "I" ∈ wsX2_bend := by decide +kernel
theorem mX2_bend_w1 : Cond.fieldLink RX2 24 "PuppetBridge$Figure" "heading" "[I" ∈ wsX2_bend := by decide +kernel
theorem mX2_bend_w2 : Cond.fieldLink RX2 36 "PuppetBridge$Figure" "cords" "LPuppetBridge$Cords;" ∈ wsX2_bend := by decide +kernel
theorem mX2_bend_w3 : Cond.fieldLink RX2 75 "PuppetBridge$Cords" "count" "I" ∈ wsX2_bend := by decide +kernel
theorem mX2_bend_w8 : Cond.fieldLink RX2 27 "PuppetBridge$Figure" "offX" "[I" ∈ wsX2_bend := by decide +kernel
theorem mX2_bend_w9 : Cond.fieldLink RX2 9 "PuppetBridge$Figure" "start" "[I" ∈ wsX2_bend := by decide +kernel
theorem mX2_bend_w10 : Cond.fieldLink RX2 15 "PuppetBridge$Figure" "length" "[I" ∈ wsX2_bend := by decide +kernel
theorem mX2_bend_w11 : Cond.fieldLink RX2 30 "PuppetBridge$Figure" "offY" "[I" ∈ wsX2_bend := by decide +kernel
theorem iX2_bend_X1 : ∀ w ∈ wsX10, w ∈ wsX2_bend := fun _ h => List.mem_cons_of_mem _ (List.mem_append_right _ h)
theorem iX2_bend_X2 : ∀ w ∈ wsX20, w ∈ wsX2_bend := fun _ h => List.mem_cons_of_mem _ (List.mem_append_left _ (List.mem_append_right _ h))
set_option maxRecDepth 20000 in
theorem ggX2_bend_X2_headingFor : GoodIn wsX2_bend wsX2_headingFor := goodIn_r _ [17, 18, 19, 20, 21, 22, 23, 24, 25, 26, 27, 28, 29, 30, 31, 32, 33, 34, 35, 36, 37, 38, 39, 40, 41, 42, 43, 44, 45, 46] (by decide +kernel) (by decide +kernel)
set_option maxRecDepth 20000 in
theorem gX2_bend_X2_headingFor : GoodIn wsX2_bend (wsV RX2 91 RX2 yX2_headingFor wsX2_headingFor) := goodIn_app (goodIn_of _ (by decide +kernel)) ggX2_bend_X2_headingFor
theorem dX2_bend_0 : decode cX2_bend 0 = .ok (.iconst 0, 1) := by decide +kernel
theorem dX2_bend_1 : decode cX2_bend 1 = .ok (.istore_n 1, 1) := by decide +kernel
theorem dX2_bend_2 : decode cX2_bend 2 = .ok (.iload_n 1, 1) := by decide +kernel
theorem dX2_bend_3 : decode cX2_bend 3 = .ok (.aload_n 0, 1) := by decide +kernel
theorem dX2_bend_4 : decode cX2_bend 4 = .ok (.getfield 47, 3) := by decide +kernel
theorem dX2_bend_7 : decode cX2_bend 7 = .ok (.if_icmp .ge 16, 3) := by decide +kernel
theorem dX2_bend_10 : decode cX2_bend 10 = .ok (.aload_n 0, 1) := by decide +kernel
theorem dX2_bend_11 : decode cX2_bend 11 = .ok (.getfield 24, 3) := by decide +kernel
theorem dX2_bend_14 : decode cX2_bend 14 = .ok (.iload_n 1, 1) := by decide +kernel
theorem dX2_bend_15 : decode cX2_bend 15 = .ok (.iconst 0, 1) := by decide +kernel
theorem dX2_bend_16 : decode cX2_bend 16 = .ok (.iastore, 1) := by decide +kernel
theorem dX2_bend_17 : decode cX2_bend 17 = .ok (.iinc 1 1, 3) := by decide +kernel
theorem dX2_bend_20 : decode cX2_bend 20 = .ok (.goto (-18), 3) := by decide +kernel
theorem dX2_bend_23 : decode cX2_bend 23 = .ok (.iconst 0, 1) := by decide +kernel
theorem dX2_bend_24 : decode cX2_bend 24 = .ok (.istore_n 1, 1) := by decide +kernel
theorem dX2_bend_25 : decode cX2_bend 25 = .ok (.iload_n 1, 1) := by decide +kernel
theorem dX2_bend_26 : decode cX2_bend 26 = .ok (.aload_n 0, 1) := by decide +kernel
theorem dX2_bend_27 : decode cX2_bend 27 = .ok (.getfield 36, 3) := by decide +kernel
theorem dX2_bend_30 : decode cX2_bend 30 = .ok (.getfield 75, 3) := by decide +kernel
theorem dX2_bend_33 : decode cX2_bend 33 = .ok (.if_icmp .ge 57, 3) := by decide +kernel
theorem dX2_bend_90 : decode cX2_bend 90 = .ok (.iconst 0, 1) := by decide +kernel
theorem dX2_bend_91 : decode cX2_bend 91 = .ok (.istore_n 1, 1) := by decide +kernel
theorem dX2_bend_92 : decode cX2_bend 92 = .ok (.iload_n 1, 1) := by decide +kernel
theorem dX2_bend_93 : decode cX2_bend 93 = .ok (.aload_n 0, 1) := by decide +kernel
theorem dX2_bend_94 : decode cX2_bend 94 = .ok (.getfield 47, 3) := by decide +kernel
theorem dX2_bend_97 : decode cX2_bend 97 = .ok (.if_icmp .ge 100, 3) := by decide +kernel
theorem dX2_bend_100 : decode cX2_bend 100 = .ok (.aload_n 0, 1) := by decide +kernel
theorem dX2_bend_101 : decode cX2_bend 101 = .ok (.getfield 24, 3) := by decide +kernel
theorem dX2_bend_104 : decode cX2_bend 104 = .ok (.iload_n 1, 1) := by decide +kernel
theorem dX2_bend_105 : decode cX2_bend 105 = .ok (.aload_n 0, 1) := by decide +kernel
theorem dX2_bend_106 : decode cX2_bend 106 = .ok (.iload_n 1, 1) := by decide +kernel
theorem dX2_bend_107 : decode cX2_bend 107 = .ok (.aload_n 0, 1) := by decide +kernel
theorem dX2_bend_108 : decode cX2_bend 108 = .ok (.getfield 24, 3) := by decide +kernel
theorem dX2_bend_111 : decode cX2_bend 111 = .ok (.iload_n 1, 1) := by decide +kernel
theorem dX2_bend_112 : decode cX2_bend 112 = .ok (.iaload, 1) := by decide +kernel
theorem dX2_bend_113 : decode cX2_bend 113 = .ok (.invokevirtual 91, 3) := by decide +kernel
theorem dX2_bend_116 : decode cX2_bend 116 = .ok (.iastore, 1) := by decide +kernel
theorem dX2_bend_117 : decode cX2_bend 117 = .ok (.aload_n 0, 1) := by decide +kernel
theorem dX2_bend_118 : decode cX2_bend 118 = .ok (.getfield 27, 3) := by decide +kernel
theorem dX2_bend_121 : decode cX2_bend 121 = .ok (.iload_n 1, 1) := by decide +kernel
theorem dX2_bend_122 : decode cX2_bend 122 = .ok (.iconst 1, 1) := by decide +kernel
theorem dX2_bend_123 : decode cX2_bend 123 = .ok (.iadd, 1) := by decide +kernel
theorem dX2_bend_124 : decode cX2_bend 124 = .ok (.aload_n 0, 1) := by decide +kernel
theorem dX2_bend_125 : decode cX2_bend 125 = .ok (.getfield 27, 3) := by decide +kernel
theorem dX2_bend_128 : decode cX2_bend 128 = .ok (.aload_n 0, 1) := by decide +kernel
theorem dX2_bend_129 : decode cX2_bend 129 = .ok (.getfield 9, 3) := by decide +kernel
theorem dX2_bend_132 : decode cX2_bend 132 = .ok (.iload_n 1, 1) := by decide +kernel
theorem dX2_bend_133 : decode cX2_bend 133 = .ok (.iaload, 1) := by decide +kernel
theorem dX2_bend_134 : decode cX2_bend 134 = .ok (.iaload, 1) := by decide +kernel
theorem dX2_bend_135 : decode cX2_bend 135 = .ok (.aload_n 0, 1) := by decide +kernel
theorem dX2_bend_136 : decode cX2_bend 136 = .ok (.getfield 15, 3) := by decide +kernel
theorem dX2_bend_139 : decode cX2_bend 139 = .ok (.iload_n 1, 1) := by decide +kernel
theorem dX2_bend_140 : decode cX2_bend 140 = .ok (.iaload, 1) := by decide +kernel
theorem dX2_bend_141 : decode cX2_bend 141 = .ok (.getstatic 95, 3) := by decide +kernel
theorem dX2_bend_144 : decode cX2_bend 144 = .ok (.aload_n 0, 1) := by decide +kernel
theorem dX2_bend_145 : decode cX2_bend 145 = .ok (.getfield 24, 3) := by decide +kernel
theorem dX2_bend_148 : decode cX2_bend 148 = .ok (.iload_n 1, 1) := by decide +kernel
theorem dX2_bend_149 : decode cX2_bend 149 = .ok (.iaload, 1) := by decide +kernel
theorem dX2_bend_150 : decode cX2_bend 150 = .ok (.iaload, 1) := by decide +kernel
theorem dX2_bend_151 : decode cX2_bend 151 = .ok (.imul, 1) := by decide +kernel
theorem dX2_bend_152 : decode cX2_bend 152 = .ok (.iadd, 1) := by decide +kernel
theorem dX2_bend_153 : decode cX2_bend 153 = .ok (.iastore, 1) := by decide +kernel
theorem dX2_bend_154 : decode cX2_bend 154 = .ok (.aload_n 0, 1) := by decide +kernel
theorem dX2_bend_155 : decode cX2_bend 155 = .ok (.getfield 30, 3) := by decide +kernel
theorem dX2_bend_158 : decode cX2_bend 158 = .ok (.iload_n 1, 1) := by decide +kernel
theorem dX2_bend_159 : decode cX2_bend 159 = .ok (.iconst 1, 1) := by decide +kernel
theorem dX2_bend_160 : decode cX2_bend 160 = .ok (.iadd, 1) := by decide +kernel
theorem dX2_bend_161 : decode cX2_bend 161 = .ok (.aload_n 0, 1) := by decide +kernel
theorem dX2_bend_162 : decode cX2_bend 162 = .ok (.getfield 30, 3) := by decide +kernel
theorem dX2_bend_165 : decode cX2_bend 165 = .ok (.aload_n 0, 1) := by decide +kernel
theorem dX2_bend_166 : decode cX2_bend 166 = .ok (.getfield 9, 3) := by decide +kernel
theorem dX2_bend_169 : decode cX2_bend 169 = .ok (.iload_n 1, 1) := by decide +kernel
theorem dX2_bend_170 : decode cX2_bend 170 = .ok (.iaload, 1) := by decide +kernel
theorem dX2_bend_171 : decode cX2_bend 171 = .ok (.iaload, 1) := by decide +kernel
theorem dX2_bend_172 : decode cX2_bend 172 = .ok (.aload_n 0, 1) := by decide +kernel
theorem dX2_bend_173 : decode cX2_bend 173 = .ok (.getfield 15, 3) := by decide +kernel
theorem dX2_bend_176 : decode cX2_bend 176 = .ok (.iload_n 1, 1) := by decide +kernel
theorem dX2_bend_177 : decode cX2_bend 177 = .ok (.iaload, 1) := by decide +kernel
theorem dX2_bend_178 : decode cX2_bend 178 = .ok (.getstatic 98, 3) := by decide +kernel
theorem dX2_bend_181 : decode cX2_bend 181 = .ok (.aload_n 0, 1) := by decide +kernel
theorem dX2_bend_182 : decode cX2_bend 182 = .ok (.getfield 24, 3) := by decide +kernel
theorem dX2_bend_185 : decode cX2_bend 185 = .ok (.iload_n 1, 1) := by decide +kernel
theorem dX2_bend_186 : decode cX2_bend 186 = .ok (.iaload, 1) := by decide +kernel
theorem dX2_bend_187 : decode cX2_bend 187 = .ok (.iaload, 1) := by decide +kernel
theorem dX2_bend_188 : decode cX2_bend 188 = .ok (.imul, 1) := by decide +kernel
theorem dX2_bend_189 : decode cX2_bend 189 = .ok (.iadd, 1) := by decide +kernel
theorem dX2_bend_190 : decode cX2_bend 190 = .ok (.iastore, 1) := by decide +kernel
theorem dX2_bend_191 : decode cX2_bend 191 = .ok (.iinc 1 1, 3) := by decide +kernel
theorem dX2_bend_194 : decode cX2_bend 194 = .ok (.goto (-102), 3) := by decide +kernel
theorem dX2_bend_197 : decode cX2_bend 197 = .ok (.return_, 1) := by decide +kernel
set_option maxHeartbeats 4000000 in
set_option maxRecDepth 100000 in
/-- X2_bend -/
theorem kX2_bend (l : Launch) (D : va_G) (G : tyG) (z4 : Nat) (z5 : Nat) (z6 : Nat) (z7 : Nat) (z8 : Nat) (z9 : Nat) (z10 : Nat) (z11 : Nat) (z12 : Nat) (z20 : Nat) (z13 : Nat) (z14 : Nat) (z15 : Nat) (z16 : Nat) (z17 : Nat) (z18 : Nat) (z19 : Nat) (fl : Nat → Int32) (fr : Nat → Int32) (fm : Nat → Int32) (fh : Nat → Int32) (fx : Nat → Int32) (fy : Nat → Int32) (tx : Nat) (ty : Nat) (gx : Nat → Int32) (gy : Nat → Int32) (sz : Nat) : Met l yX2_bend wsX2_bend ({ frames := 2, cells := 0, slots := 0, locals := 55 }) (va_Pc [.ref z4] (fun U => wB D G sz [(z4, .inr (2, [.ref z5, .ref z6, .ref z7, .ref z8, .ref z9, .ref z10, .ref z11, .ref z12, .ref z20, .int 1, .int 0, .int 0, .int 0, .int 0, .int 0, .int 0])), (z5, .inl (G.1, 8, .inl (upd (fun _ => 0) 0 0))), (z6, .inl (G.1, 8, .inl fl)), (z7, .inl (G.1, 8, .inl fr)), (z8, .inl (G.1, 8, .inl fm)), (z9, .inl (G.1, 8, .inl fh)), (z10, .inl (G.1, 9, .inl fx)), (z11, .inl (G.1, 9, .inl fy)), (z12, .inr (1, [.ref z13, .ref z14, .ref z15, .ref z16, .ref z17, .ref z18, .ref z19, .int 0]))] U ∧ wZ (va_A [(z4, .inr (2, [.ref z5, .ref z6, .ref z7, .ref z8, .ref z9, .ref z10, .ref z11, .ref z12, .ref z20, .int 1, .int 0, .int 0, .int 0, .int 0, .int 0, .int 0])), (z5, .inl (G.1, 8, .inl (upd (fun _ => 0) 0 0))), (z6, .inl (G.1, 8, .inl fl)), (z7, .inl (G.1, 8, .inl fr)), (z8, .inl (G.1, 8, .inl fm)), (z9, .inl (G.1, 8, .inl fh)), (z10, .inl (G.1, 9, .inl fx)), (z11, .inl (G.1, 9, .inl fy)), (z12, .inr (1, [.ref z13, .ref z14, .ref z15, .ref z16, .ref z17, .ref z18, .ref z19, .int 0]))] sz) tx ty gx gy U)) (va_Qv (fun _ : Unit => True) (fun _ t => ∃ (g9 : Nat → Int32), wS D G (va_A [(z4, .inr (2, [.ref z5, .ref z6, .ref z7, .ref z8, .ref z9, .ref z10, .ref z11, .ref z12, .ref z20, .int 1, .int 0, .int 0, .int 0, .int 0, .int 0, .int 0])), (z5, .inl (G.1, 8, .inl (upd (fun _ => 0) 0 0))), (z6, .inl (G.1, 8, .inl fl)), (z7, .inl (G.1, 8, .inl fr)), (z8, .inl (G.1, 8, .inl fm)), (z9, .inl (G.1, 8, .inl fh)), (z10, .inl (G.1, 9, .inl fx)), (z11, .inl (G.1, 9, .inl fy)), (z12, .inr (1, [.ref z13, .ref z14, .ref z15, .ref z16, .ref z17, .ref z18, .ref z19, .int 0]))] sz) [(z11, .inl (G.1, 9, .inl g9)), (z4, .inr (2, [.ref z5, .ref z6, .ref z7, .ref z8, .ref z9, .ref z10, .ref z11, .ref z12, .ref z20, .int 1, .int 0, .int 0, .int 0, .int 0, .int 0, .int 0]))] t) (va_A [(z4, .inr (2, [.ref z5, .ref z6, .ref z7, .ref z8, .ref z9, .ref z10, .ref z11, .ref z12, .ref z20, .int 1, .int 0, .int 0, .int 0, .int 0, .int 0, .int 0])), (z5, .inl (G.1, 8, .inl (upd (fun _ => 0) 0 0))), (z6, .inl (G.1, 8, .inl fl)), (z7, .inl (G.1, 8, .inl fr)), (z8, .inl (G.1, 8, .inl fm)), (z9, .inl (G.1, 8, .inl fh)), (z10, .inl (G.1, 9, .inl fx)), (z11, .inl (G.1, 9, .inl fy)), (z12, .inr (1, [.ref z13, .ref z14, .ref z15, .ref z16, .ref z17, .ref z18, .ref z19, .int 0]))] sz)) 0 0 (va_A [(z4, .inr (2, [.ref z5, .ref z6, .ref z7, .ref z8, .ref z9, .ref z10, .ref z11, .ref z12, .ref z20, .int 1, .int 0, .int 0, .int 0, .int 0, .int 0, .int 0])), (z5, .inl (G.1, 8, .inl (upd (fun _ => 0) 0 0))), (z6, .inl (G.1, 8, .inl fl)), (z7, .inl (G.1, 8, .inl fr)), (z8, .inl (G.1, 8, .inl fm)), (z9, .inl (G.1, 8, .inl fh)), (z10, .inl (G.1, 9, .inl fx)), (z11, .inl (G.1, 9, .inl fy)), (z12, .inr (1, [.ref z13, .ref z14, .ref z15, .ref z16, .ref z17, .ref z18, .ref z19, .int 0]))] sz) := by
  refine Met.ofW (cc := cX2_bend) (maxL := 2) (ret := none) (by decide) rfl ?_
  intro p e s m args below meth c s₁ B hml hv
  obtain ⟨rfl, ⟨hsz, hP, hK, hD0, hN⟩, hZ⟩ := hv
  have hx := B.exec
  have hb := B.bytes
  have hr := B.returns
  have hts := atoms_spec (ws := wsX2_bend) B.pre
  have hown : s.vm.findClass RX2 = some m.cls := findClass_of_methodNamed B.named
  have hlocks := B.notSynchronized
  subst hsz
  have hD := hD0.self (sz := s.heap.size)
  generalize hAe : va_A [(z4, .inr (2, [.ref z5, .ref z6, .ref z7, .ref z8, .ref z9, .ref z10, .ref z11, .ref z12, .ref z20, .int 1, .int 0, .int 0, .int 0, .int 0, .int 0, .int 0])), (z5, .inl (G.1, 8, .inl (upd (fun _ => 0) 0 0))), (z6, .inl (G.1, 8, .inl fl)), (z7, .inl (G.1, 8, .inl fr)), (z8, .inl (G.1, 8, .inl fm)), (z9, .inl (G.1, 8, .inl fh)), (z10, .inl (G.1, 9, .inl fx)), (z11, .inl (G.1, 9, .inl fy)), (z12, .inr (1, [.ref z13, .ref z14, .ref z15, .ref z16, .ref z17, .ref z18, .ref z19, .int 0]))] s.heap.size = A at hD hZ ⊢
  have hA : ∀ q : Nat, s.heap.size ≤ q → A q := fun q h => by rw [← hAe]; exact Or.inr h
  have hS : va_S A s.heap s.heap [] := va_S.rf
  have hP : va_P D vwCl [(z4, .inr (2, [.ref z5, .ref z6, .ref z7, .ref z8, .ref z9, .ref z10, .ref z11, .ref z12, .ref z20, .int 1, .int 0, .int 0, .int 0, .int 0, .int 0, .int 0])), (z5, .inl (G.1, 8, .inl (upd (fun _ => 0) 0 0))), (z6, .inl (G.1, 8, .inl fl)), (z7, .inl (G.1, 8, .inl fr)), (z8, .inl (G.1, 8, .inl fm)), (z9, .inl (G.1, 8, .inl fh)), (z10, .inl (G.1, 9, .inl fx)), (z11, .inl (G.1, 9, .inl fy)), (z12, .inr (1, [.ref z13, .ref z14, .ref z15, .ref z16, .ref z17, .ref z18, .ref z19, .int 0]))] s.heap := hP
  have hl := lv_entry ([.ref z4]) (n := 2) (Nat.le_of_ble_eq_true rfl)
  rw [lg_entry_eq]
  generalize (lg_sl ([.ref z4]) ++ List.replicate (2 - (lg_sl ([.ref z4])).length) Slot.unset).toArray = ls at hl ⊢
  have hl : lv_has ls 2 [(0, .ref z4)] := hl
  refine lv_iconst (v := 0) hx hb dX2_bend_0 (by decide) ?_
  refine lv_istore_n (lv' := [(1, .int 0), (0, .ref z4)]) hx hb dX2_bend_1 rfl hl (by decide) rfl (fun ls hl => ?_)
  refine lv_iload_n hx hb dX2_bend_2 rfl (lv_at hl 0 rfl) ?_
  refine lv_aload_n hx hb dX2_bend_3 rfl (lv_at hl 1 rfl) ?_
  refine va_get (D := D) (ci := 2) (v := .int 1) (C := RX2) (T := TX2) (N := 16) hx hb hts iX2_bend_X2 hown hK hP 0 rfl rfl 9 (by decide) (hts (.fieldLink RX2 47 "PuppetBridge$Figure" "limbs" "I") mX2_bend_w0) (fun _ h9 => h9) rfl dX2_bend_4 ?_
  refine lv_icmp_ge (tgt := 23) hx hb dX2_bend_7 (by decide) (fun h9 => absurd h9 (by decide)) (fun _ => ?_)
  refine lv_aload_n hx hb dX2_bend_10 rfl (lv_at hl 1 rfl) ?_
  refine va_get (D := D) (ci := 2) (v := .ref z9) (C := RX2) (T := TX2) (N := 16) hx hb hts iX2_bend_X2 hown hK hP 0 rfl rfl 4 (by decide) (hts (.fieldLink RX2 24 "PuppetBridge$Figure" "heading" "[I") mX2_bend_w1) (fun _ h9 => h9) rfl dX2_bend_11 ?_
  refine lv_iload_n hx hb dX2_bend_14 rfl (lv_at hl 0 rfl) ?_
  refine lv_iconst (v := 0) hx hb dX2_bend_15 (by decide) ?_
  refine va_iast hx hb hK hP hD hS 5 0 rfl rfl (wk_in rfl) dX2_bend_16 (fun H locs hP hD hS => ?_)
  have hP : va_P D vwCl [(z4, .inr (2, [.ref z5, .ref z6, .ref z7, .ref z8, .ref z9, .ref z10, .ref z11, .ref z12, .ref z20, .int 1, .int 0, .int 0, .int 0, .int 0, .int 0, .int 0])), (z5, .inl (G.1, 8, .inl (upd (fun _ => 0) 0 0))), (z6, .inl (G.1, 8, .inl fl)), (z7, .inl (G.1, 8, .inl fr)), (z8, .inl (G.1, 8, .inl fm)), (z9, .inl (G.1, 8, .inl (upd fh 0 0))), (z10, .inl (G.1, 9, .inl fx)), (z11, .inl (G.1, 9, .inl fy)), (z12, .inr (1, [.ref z13, .ref z14, .ref z15, .ref z16, .ref z17, .ref z18, .ref z19, .int 0]))] H := hP
  have hD : va_D A [(z4, .inr (2, [.ref z5, .ref z6, .ref z7, .ref z8, .ref z9, .ref z10, .ref z11, .ref z12, .ref z20, .int 1, .int 0, .int 0, .int 0, .int 0, .int 0, .int 0])), (z5, .inl (G.1, 8, .inl (upd (fun _ => 0) 0 0))), (z6, .inl (G.1, 8, .inl fl)), (z7, .inl (G.1, 8, .inl fr)), (z8, .inl (G.1, 8, .inl fm)), (z9, .inl (G.1, 8, .inl (upd fh 0 0))), (z10, .inl (G.1, 9, .inl fx)), (z11, .inl (G.1, 9, .inl fy)), (z12, .inr (1, [.ref z13, .ref z14, .ref z15, .ref z16, .ref z17, .ref z18, .ref z19, .int 0]))] := hD
  refine lv_iinc (v := 1) (lv' := [(1, .int 1), (0, .ref z4)]) hx hb dX2_bend_17 hl (k := 0) rfl (by decide) (by decide) rfl (fun ls hl => ?_)
  refine lv_goto (tgt := 2) hx hb dX2_bend_20 (by decide) ?_
  refine lv_iload_n hx hb dX2_bend_2 rfl (lv_at hl 0 rfl) ?_
  refine lv_aload_n hx hb dX2_bend_3 rfl (lv_at hl 1 rfl) ?_
  refine va_get (D := D) (ci := 2) (v := .int 1) (C := RX2) (T := TX2) (N := 16) hx hb hts iX2_bend_X2 hown hK hP 0 rfl rfl 9 (by decide) (hts (.fieldLink RX2 47 "PuppetBridge$Figure" "limbs" "I") mX2_bend_w0) (fun _ h9 => h9) rfl dX2_bend_4 ?_
  refine lv_icmp_ge (tgt := 23) hx hb dX2_bend_7 (by decide) (fun _ => ?_) (fun h9 => absurd h9 (by decide))
  refine lv_iconst (v := 0) hx hb dX2_bend_23 (by decide) ?_
  refine lv_istore_n (lv' := [(1, .int 0), (0, .ref z4)]) hx hb dX2_bend_24 rfl hl (by decide) rfl (fun ls hl => ?_)
  refine lv_iload_n hx hb dX2_bend_25 rfl (lv_at hl 0 rfl) ?_
  refine lv_aload_n hx hb dX2_bend_26 rfl (lv_at hl 1 rfl) ?_
  refine va_get (D := D) (ci := 2) (v := .ref z12) (C := RX2) (T := TX2) (N := 16) hx hb hts iX2_bend_X2 hown hK hP 0 rfl rfl 7 (by decide) (hts (.fieldLink RX2 36 "PuppetBridge$Figure" "cords" "LPuppetBridge$Cords;") mX2_bend_w2) (fun _ h9 => h9) rfl dX2_bend_27 ?_
  refine va_get (D := D) (ci := 1) (v := .int 0) (C := RX1) (T := TX1) (N := 8) hx hb hts iX2_bend_X1 hown hK hP 8 rfl rfl 7 (by decide) (hts (.fieldLink RX2 75 "PuppetBridge$Cords" "count" "I") mX2_bend_w3) (fun _ h9 => h9) rfl dX2_bend_30 ?_
  refine lv_icmp_ge (tgt := 90) hx hb dX2_bend_33 (by decide) (fun _ => ?_) (fun h9 => absurd h9 (by decide))
  refine lv_iconst (v := 0) hx hb dX2_bend_90 (by decide) ?_
  refine lv_istore_n (lv' := [(1, .int 0), (0, .ref z4)]) hx hb dX2_bend_91 rfl hl (by decide) rfl (fun ls hl => ?_)
  refine lv_iload_n hx hb dX2_bend_92 rfl (lv_at hl 0 rfl) ?_
  refine lv_aload_n hx hb dX2_bend_93 rfl (lv_at hl 1 rfl) ?_
  refine va_get (D := D) (ci := 2) (v := .int 1) (C := RX2) (T := TX2) (N := 16) hx hb hts iX2_bend_X2 hown hK hP 0 rfl rfl 9 (by decide) (hts (.fieldLink RX2 47 "PuppetBridge$Figure" "limbs" "I") mX2_bend_w0) (fun _ h9 => h9) rfl dX2_bend_94 ?_
  refine lv_icmp_ge (tgt := 197) hx hb dX2_bend_97 (by decide) (fun h9 => absurd h9 (by decide)) (fun _ => ?_)
  refine lv_aload_n hx hb dX2_bend_100 rfl (lv_at hl 1 rfl) ?_
  refine va_get (D := D) (ci := 2) (v := .ref z9) (C := RX2) (T := TX2) (N := 16) hx hb hts iX2_bend_X2 hown hK hP 0 rfl rfl 4 (by decide) (hts (.fieldLink RX2 24 "PuppetBridge$Figure" "heading" "[I") mX2_bend_w1) (fun _ h9 => h9) rfl dX2_bend_101 ?_
  refine lv_iload_n hx hb dX2_bend_104 rfl (lv_at hl 0 rfl) ?_
  refine lv_aload_n hx hb dX2_bend_105 rfl (lv_at hl 1 rfl) ?_
  refine lv_iload_n hx hb dX2_bend_106 rfl (lv_at hl 0 rfl) ?_
  refine lv_aload_n hx hb dX2_bend_107 rfl (lv_at hl 1 rfl) ?_
  refine va_get (D := D) (ci := 2) (v := .ref z9) (C := RX2) (T := TX2) (N := 16) hx hb hts iX2_bend_X2 hown hK hP 0 rfl rfl 4 (by decide) (hts (.fieldLink RX2 24 "PuppetBridge$Figure" "heading" "[I") mX2_bend_w1) (fun _ h9 => h9) rfl dX2_bend_108 ?_
  refine lv_iload_n hx hb dX2_bend_111 rfl (lv_at hl 0 rfl) ?_
  refine va_iald hx hb hK hP 5 0 rfl rfl (wk_in rfl) dX2_bend_112 ?_
  refine wk_i 0 rfl ?_
  have hPc := hP.sub (ws' := [(z4, .inr (2, [.ref z5, .ref z6, .ref z7, .ref z8, .ref z9, .ref z10, .ref z11, .ref z12, .ref z20, .int 1, .int 0, .int 0, .int 0, .int 0, .int 0, .int 0])), (z7, .inl (G.1, 8, .inl fr)), (z8, .inl (G.1, 8, .inl fm))]) [0, 3, 4] rfl
  have hDc := hD.sub (ws' := [(z4, .inr (2, [.ref z5, .ref z6, .ref z7, .ref z8, .ref z9, .ref z10, .ref z11, .ref z12, .ref z20, .int 1, .int 0, .int 0, .int 0, .int 0, .int 0, .int 0])), (z7, .inl (G.1, 8, .inl fr)), (z8, .inl (G.1, 8, .inl fm))]) [0, 3, 4] (by decide) rfl
  have hFc := va_free (wc := [(z4, .inr (2, [.ref z5, .ref z6, .ref z7, .ref z8, .ref z9, .ref z10, .ref z11, .ref z12, .ref z20, .int 1, .int 0, .int 0, .int 0, .int 0, .int 0, .int 0])), (z7, .inl (G.1, 8, .inl fr)), (z8, .inl (G.1, 8, .inl fm))]) hD hS hA [0, 3, 4] rfl
  refine va_calli (va_runV (As := [.int 0, .int 0]) (rest := [.int 0, .ref z9]) ⟨hx, hb, hml, hown, hts⟩ (kX2_headingFor l D G z4 0 z5 z6 z7 z8 z9 z10 z11 z12 z20 fr fm H.size) (cwV 2 hts gX2_bend_X2_headingFor rfl rfl rfl (by decide +kernel) ⟨Nat.le_of_ble_eq_true rfl, Nat.le_of_ble_eq_true rfl⟩) ⟨wB_blind, va_recv hK hPc (ci := 2) (q0 := 0) rfl rfl, wB_pre hPc hK hDc hN⟩ rfl rfl hl.1 rfl (lv_room (Nat.le_of_ble_eq_true rfl)) dX2_bend_113 ⟨Nat.le_of_ble_eq_true rfl, Nat.le_of_ble_eq_true rfl⟩) hS (fun q _ h => hFc q h) hFc (fun r1 u t H1 locs ht hvm hr1 hB hz1 hk1 hS => ?_)
  obtain ⟨hP1, hK1, hD1⟩ := hB
  rw [ht] at hP1
  obtain ⟨hP, hD⟩ := va_join (wr := [(z5, .inl (G.1, 8, .inl (upd (fun _ => 0) 0 0))), (z6, .inl (G.1, 8, .inl fl)), (z9, .inl (G.1, 8, .inl (upd fh 0 0))), (z10, .inl (G.1, 9, .inl fx)), (z11, .inl (G.1, 9, .inl fy)), (z12, .inr (1, [.ref z13, .ref z14, .ref z15, .ref z16, .ref z17, .ref z18, .ref z19, .int 0]))]) (w1 := [(z4, .inr (2, [.ref z5, .ref z6, .ref z7, .ref z8, .ref z9, .ref z10, .ref z11, .ref z12, .ref z20, .int 1, .int 0, .int 0, .int 0, .int 0, .int 0, .int 0])), (z7, .inl (G.1, 8, .inl fr)), (z8, .inl (G.1, 8, .inl fm))]) hP hD [0, 3, 4] [1, 2, 5, 6, 7, 8] rfl rfl (by decide) (by decide) hk1 hFc hP1 hD1
  clear hPc hDc
  generalize H1 = H at hP hS ⊢
  have hP : va_P D vwCl [(z5, .inl (G.1, 8, .inl (upd (fun _ => 0) 0 0))), (z6, .inl (G.1, 8, .inl fl)), (z9, .inl (G.1, 8, .inl (upd fh 0 0))), (z10, .inl (G.1, 9, .inl fx)), (z11, .inl (G.1, 9, .inl fy)), (z12, .inr (1, [.ref z13, .ref z14, .ref z15, .ref z16, .ref z17, .ref z18, .ref z19, .int 0])), (z4, .inr (2, [.ref z5, .ref z6, .ref z7, .ref z8, .ref z9, .ref z10, .ref z11, .ref z12, .ref z20, .int 1, .int 0, .int 0, .int 0, .int 0, .int 0, .int 0])), (z7, .inl (G.1, 8, .inl fr)), (z8, .inl (G.1, 8, .inl fm))] H := hP
  have hD : va_D A [(z5, .inl (G.1, 8, .inl (upd (fun _ => 0) 0 0))), (z6, .inl (G.1, 8, .inl fl)), (z9, .inl (G.1, 8, .inl (upd fh 0 0))), (z10, .inl (G.1, 9, .inl fx)), (z11, .inl (G.1, 9, .inl fy)), (z12, .inr (1, [.ref z13, .ref z14, .ref z15, .ref z16, .ref z17, .ref z18, .ref z19, .int 0])), (z4, .inr (2, [.ref z5, .ref z6, .ref z7, .ref z8, .ref z9, .ref z10, .ref z11, .ref z12, .ref z20, .int 1, .int 0, .int 0, .int 0, .int 0, .int 0, .int 0])), (z7, .inl (G.1, 8, .inl fr)), (z8, .inl (G.1, 8, .inl fm))] := hD
  refine va_iast hx hb hK hP hD hS 2 0 rfl rfl (wk_in rfl) dX2_bend_116 (fun H locs hP hD hS => ?_)
  have hP : va_P D vwCl [(z5, .inl (G.1, 8, .inl (upd (fun _ => 0) 0 0))), (z6, .inl (G.1, 8, .inl fl)), (z9, .inl (G.1, 8, .inl (upd (upd fh 0 0) 0 r1))), (z10, .inl (G.1, 9, .inl fx)), (z11, .inl (G.1, 9, .inl fy)), (z12, .inr (1, [.ref z13, .ref z14, .ref z15, .ref z16, .ref z17, .ref z18, .ref z19, .int 0])), (z4, .inr (2, [.ref z5, .ref z6, .ref z7, .ref z8, .ref z9, .ref z10, .ref z11, .ref z12, .ref z20, .int 1, .int 0, .int 0, .int 0, .int 0, .int 0, .int 0])), (z7, .inl (G.1, 8, .inl fr)), (z8, .inl (G.1, 8, .inl fm))] H := hP
  have hD : va_D A [(z5, .inl (G.1, 8, .inl (upd (fun _ => 0) 0 0))), (z6, .inl (G.1, 8, .inl fl)), (z9, .inl (G.1, 8, .inl (upd (upd fh 0 0) 0 r1))), (z10, .inl (G.1, 9, .inl fx)), (z11, .inl (G.1, 9, .inl fy)), (z12, .inr (1, [.ref z13, .ref z14, .ref z15, .ref z16, .ref z17, .ref z18, .ref z19, .int 0])), (z4, .inr (2, [.ref z5, .ref z6, .ref z7, .ref z8, .ref z9, .ref z10, .ref z11, .ref z12, .ref z20, .int 1, .int 0, .int 0, .int 0, .int 0, .int 0, .int 0])), (z7, .inl (G.1, 8, .inl fr)), (z8, .inl (G.1, 8, .inl fm))] := hD
  refine lv_aload_n hx hb dX2_bend_117 rfl (lv_at hl 1 rfl) ?_
  refine va_get (D := D) (ci := 2) (v := .ref z10) (C := RX2) (T := TX2) (N := 16) hx hb hts iX2_bend_X2 hown hK hP 6 rfl rfl 5 (by decide) (hts (.fieldLink RX2 27 "PuppetBridge$Figure" "offX" "[I") mX2_bend_w8) (fun _ h9 => h9) rfl dX2_bend_118 ?_
  refine lv_iload_n hx hb dX2_bend_121 rfl (lv_at hl 0 rfl) ?_
  refine lv_iconst (v := 1) hx hb dX2_bend_122 (by decide) ?_
  refine lv_iadd hx hb dX2_bend_123 ?_
  refine wk_i 1 (by decide) ?_
  refine lv_aload_n hx hb dX2_bend_124 rfl (lv_at hl 1 rfl) ?_
  refine va_get (D := D) (ci := 2) (v := .ref z10) (C := RX2) (T := TX2) (N := 16) hx hb hts iX2_bend_X2 hown hK hP 6 rfl rfl 5 (by decide) (hts (.fieldLink RX2 27 "PuppetBridge$Figure" "offX" "[I") mX2_bend_w8) (fun _ h9 => h9) rfl dX2_bend_125 ?_
  refine lv_aload_n hx hb dX2_bend_128 rfl (lv_at hl 1 rfl) ?_
  refine va_get (D := D) (ci := 2) (v := .ref z5) (C := RX2) (T := TX2) (N := 16) hx hb hts iX2_bend_X2 hown hK hP 6 rfl rfl 0 (by decide) (hts (.fieldLink RX2 9 "PuppetBridge$Figure" "start" "[I") mX2_bend_w9) (fun _ h9 => h9) rfl dX2_bend_129 ?_
  refine lv_iload_n hx hb dX2_bend_132 rfl (lv_at hl 0 rfl) ?_
  refine va_iald hx hb hK hP 0 0 rfl rfl (wk_in rfl) dX2_bend_133 ?_
  refine wk_i 0 rfl ?_
  refine va_iald hx hb hK hP 3 0 rfl rfl (wk_in rfl) dX2_bend_134 ?_
  refine lv_topi (fun v2 ev2 => ?_)
  refine lv_aload_n hx hb dX2_bend_135 rfl (lv_at hl 1 rfl) ?_
  refine va_get (D := D) (ci := 2) (v := .ref z6) (C := RX2) (T := TX2) (N := 16) hx hb hts iX2_bend_X2 hown hK hP 6 rfl rfl 1 (by decide) (hts (.fieldLink RX2 15 "PuppetBridge$Figure" "length" "[I") mX2_bend_w10) (fun _ h9 => h9) rfl dX2_bend_136 ?_
  refine lv_iload_n hx hb dX2_bend_139 rfl (lv_at hl 0 rfl) ?_
  refine va_iald hx hb hK hP 1 0 rfl rfl (wk_in rfl) dX2_bend_140 ?_
  refine lv_topi (fun v3 ev3 => ?_)
  refine va_getsN (v := .ref tx) hx hb hZ.1 hS hown (va_Nw.use rfl (hN.2.1 _ (List.mem_of_getElem? (i := 0) rfl))) (fun _ h9 => h9) dX2_bend_141 ?_
  refine lv_aload_n hx hb dX2_bend_144 rfl (lv_at hl 1 rfl) ?_
  refine va_get (D := D) (ci := 2) (v := .ref z9) (C := RX2) (T := TX2) (N := 16) hx hb hts iX2_bend_X2 hown hK hP 6 rfl rfl 4 (by decide) (hts (.fieldLink RX2 24 "PuppetBridge$Figure" "heading" "[I") mX2_bend_w1) (fun _ h9 => h9) rfl dX2_bend_145 ?_
  refine lv_iload_n hx hb dX2_bend_148 rfl (lv_at hl 0 rfl) ?_
  refine va_iald hx hb hK hP 2 0 rfl rfl (wk_in rfl) dX2_bend_149 ?_
  refine wk_i r1 rfl ?_
  refine va_ti (v := .int (gx r1.toNatClampNeg)) hx hb hZ.2.1 hS hr1 rfl dX2_bend_150 ?_
  refine lv_topi (fun v4 ev4 => ?_)
  refine lv_imul hx hb dX2_bend_151 ?_
  refine lv_topi (fun v5 ev5 => ?_)
  refine lv_iadd hx hb dX2_bend_152 ?_
  refine lv_topi (fun v6 ev6 => ?_)
  refine va_iast hx hb hK hP hD hS 3 0 rfl rfl (wk_in rfl) dX2_bend_153 (fun H locs hP hD hS => ?_)
  have hP : va_P D vwCl [(z5, .inl (G.1, 8, .inl (upd (fun _ => 0) 0 0))), (z6, .inl (G.1, 8, .inl fl)), (z9, .inl (G.1, 8, .inl (upd (upd fh 0 0) 0 r1))), (z10, .inl (G.1, 9, .inl (upd fx 1 v6))), (z11, .inl (G.1, 9, .inl fy)), (z12, .inr (1, [.ref z13, .ref z14, .ref z15, .ref z16, .ref z17, .ref z18, .ref z19, .int 0])), (z4, .inr (2, [.ref z5, .ref z6, .ref z7, .ref z8, .ref z9, .ref z10, .ref z11, .ref z12, .ref z20, .int 1, .int 0, .int 0, .int 0, .int 0, .int 0, .int 0])), (z7, .inl (G.1, 8, .inl fr)), (z8, .inl (G.1, 8, .inl fm))] H := hP
  have hD : va_D A [(z5, .inl (G.1, 8, .inl (upd (fun _ => 0) 0 0))), (z6, .inl (G.1, 8, .inl fl)), (z9, .inl (G.1, 8, .inl (upd (upd fh 0 0) 0 r1))), (z10, .inl (G.1, 9, .inl (upd fx 1 v6))), (z11, .inl (G.1, 9, .inl fy)), (z12, .inr (1, [.ref z13, .ref z14, .ref z15, .ref z16, .ref z17, .ref z18, .ref z19, .int 0])), (z4, .inr (2, [.ref z5, .ref z6, .ref z7, .ref z8, .ref z9, .ref z10, .ref z11, .ref z12, .ref z20, .int 1, .int 0, .int 0, .int 0, .int 0, .int 0, .int 0])), (z7, .inl (G.1, 8, .inl fr)), (z8, .inl (G.1, 8, .inl fm))] := hD
  refine lv_aload_n hx hb dX2_bend_154 rfl (lv_at hl 1 rfl) ?_
  refine va_get (D := D) (ci := 2) (v := .ref z11) (C := RX2) (T := TX2) (N := 16) hx hb hts iX2_bend_X2 hown hK hP 6 rfl rfl 6 (by decide) (hts (.fieldLink RX2 30 "PuppetBridge$Figure" "offY" "[I") mX2_bend_w11) (fun _ h9 => h9) rfl dX2_bend_155 ?_
  refine lv_iload_n hx hb dX2_bend_158 rfl (lv_at hl 0 rfl) ?_
  refine lv_iconst (v := 1) hx hb dX2_bend_159 (by decide) ?_
  refine lv_iadd hx hb dX2_bend_160 ?_
  refine wk_i 1 (by decide) ?_
  refine lv_aload_n hx hb dX2_bend_161 rfl (lv_at hl 1 rfl) ?_
  refine va_get (D := D) (ci := 2) (v := .ref z11) (C := RX2) (T := TX2) (N := 16) hx hb hts iX2_bend_X2 hown hK hP 6 rfl rfl 6 (by decide) (hts (.fieldLink RX2 30 "PuppetBridge$Figure" "offY" "[I") mX2_bend_w11) (fun _ h9 => h9) rfl dX2_bend_162 ?_
  refine lv_aload_n hx hb dX2_bend_165 rfl (lv_at hl 1 rfl) ?_
  refine va_get (D := D) (ci := 2) (v := .ref z5) (C := RX2) (T := TX2) (N := 16) hx hb hts iX2_bend_X2 hown hK hP 6 rfl rfl 0 (by decide) (hts (.fieldLink RX2 9 "PuppetBridge$Figure" "start" "[I") mX2_bend_w9) (fun _ h9 => h9) rfl dX2_bend_166 ?_
  refine lv_iload_n hx hb dX2_bend_169 rfl (lv_at hl 0 rfl) ?_
  refine va_iald hx hb hK hP 0 0 rfl rfl (wk_in rfl) dX2_bend_170 ?_
  refine wk_i 0 rfl ?_
  refine va_iald hx hb hK hP 4 0 rfl rfl (wk_in rfl) dX2_bend_171 ?_
  refine lv_topi (fun v7 ev7 => ?_)
  refine lv_aload_n hx hb dX2_bend_172 rfl (lv_at hl 1 rfl) ?_
  refine va_get (D := D) (ci := 2) (v := .ref z6) (C := RX2) (T := TX2) (N := 16) hx hb hts iX2_bend_X2 hown hK hP 6 rfl rfl 1 (by decide) (hts (.fieldLink RX2 15 "PuppetBridge$Figure" "length" "[I") mX2_bend_w10) (fun _ h9 => h9) rfl dX2_bend_173 ?_
  refine lv_iload_n hx hb dX2_bend_176 rfl (lv_at hl 0 rfl) ?_
  refine va_iald hx hb hK hP 1 0 rfl rfl (wk_in rfl) dX2_bend_177 ?_
  refine lv_topi (fun v8 ev8 => ?_)
  refine va_getsN (v := .ref ty) hx hb hZ.2.2.1 hS hown (va_Nw.use rfl (hN.2.1 _ (List.mem_of_getElem? (i := 1) rfl))) (fun _ h9 => h9) dX2_bend_178 ?_
  refine lv_aload_n hx hb dX2_bend_181 rfl (lv_at hl 1 rfl) ?_
  refine va_get (D := D) (ci := 2) (v := .ref z9) (C := RX2) (T := TX2) (N := 16) hx hb hts iX2_bend_X2 hown hK hP 6 rfl rfl 4 (by decide) (hts (.fieldLink RX2 24 "PuppetBridge$Figure" "heading" "[I") mX2_bend_w1) (fun _ h9 => h9) rfl dX2_bend_182 ?_
  refine lv_iload_n hx hb dX2_bend_185 rfl (lv_at hl 0 rfl) ?_
  refine va_iald hx hb hK hP 2 0 rfl rfl (wk_in rfl) dX2_bend_186 ?_
  refine wk_i r1 rfl ?_
  refine va_ti (v := .int (gy r1.toNatClampNeg)) hx hb hZ.2.2.2 hS hr1 rfl dX2_bend_187 ?_
  refine lv_topi (fun v9 ev9 => ?_)
  refine lv_imul hx hb dX2_bend_188 ?_
  refine lv_topi (fun v10 ev10 => ?_)
  refine lv_iadd hx hb dX2_bend_189 ?_
  refine lv_topi (fun v11 ev11 => ?_)
  refine va_iast hx hb hK hP hD hS 4 0 rfl rfl (wk_in rfl) dX2_bend_190 (fun H locs hP hD hS => ?_)
  have hP : va_P D vwCl [(z5, .inl (G.1, 8, .inl (upd (fun _ => 0) 0 0))), (z6, .inl (G.1, 8, .inl fl)), (z9, .inl (G.1, 8, .inl (upd (upd fh 0 0) 0 r1))), (z10, .inl (G.1, 9, .inl (upd fx 1 v6))), (z11, .inl (G.1, 9, .inl (upd fy 1 v11))), (z12, .inr (1, [.ref z13, .ref z14, .ref z15, .ref z16, .ref z17, .ref z18, .ref z19, .int 0])), (z4, .inr (2, [.ref z5, .ref z6, .ref z7, .ref z8, .ref z9, .ref z10, .ref z11, .ref z12, .ref z20, .int 1, .int 0, .int 0, .int 0, .int 0, .int 0, .int 0])), (z7, .inl (G.1, 8, .inl fr)), (z8, .inl (G.1, 8, .inl fm))] H := hP
  have hD : va_D A [(z5, .inl (G.1, 8, .inl (upd (fun _ => 0) 0 0))), (z6, .inl (G.1, 8, .inl fl)), (z9, .inl (G.1, 8, .inl (upd (upd fh 0 0) 0 r1))), (z10, .inl (G.1, 9, .inl (upd fx 1 v6))), (z11, .inl (G.1, 9, .inl (upd fy 1 v11))), (z12, .inr (1, [.ref z13, .ref z14, .ref z15, .ref z16, .ref z17, .ref z18, .ref z19, .int 0])), (z4, .inr (2, [.ref z5, .ref z6, .ref z7, .ref z8, .ref z9, .ref z10, .ref z11, .ref z12, .ref z20, .int 1, .int 0, .int 0, .int 0, .int 0, .int 0, .int 0])), (z7, .inl (G.1, 8, .inl fr)), (z8, .inl (G.1, 8, .inl fm))] := hD
  refine lv_iinc (v := 1) (lv' := [(1, .int 1), (0, .ref z4)]) hx hb dX2_bend_191 hl (k := 0) rfl (by decide) (by decide) rfl (fun ls hl => ?_)
  refine lv_goto (tgt := 92) hx hb dX2_bend_194 (by decide) ?_
  refine lv_iload_n hx hb dX2_bend_92 rfl (lv_at hl 0 rfl) ?_
  refine lv_aload_n hx hb dX2_bend_93 rfl (lv_at hl 1 rfl) ?_
  refine va_get (D := D) (ci := 2) (v := .int 1) (C := RX2) (T := TX2) (N := 16) hx hb hts iX2_bend_X2 hown hK hP 6 rfl rfl 9 (by decide) (hts (.fieldLink RX2 47 "PuppetBridge$Figure" "limbs" "I") mX2_bend_w0) (fun _ h9 => h9) rfl dX2_bend_94 ?_
  refine lv_icmp_ge (tgt := 197) hx hb dX2_bend_97 (by decide) (fun _ => ?_) (fun h9 => absurd h9 (by decide))
  have hP9 := hP.sub (ws' := [(z11, .inl (G.1, 9, .inl ((upd fy 1 v11)))), (z4, .inr (2, [.ref z5, .ref z6, .ref z7, .ref z8, .ref z9, .ref z10, .ref z11, .ref z12, .ref z20, .int 1, .int 0, .int 0, .int 0, .int 0, .int 0, .int 0]))]) [4, 6] rfl
  have hD9 := hD.sub (ws' := [(z11, .inl (G.1, 9, .inl ((upd fy 1 v11)))), (z4, .inr (2, [.ref z5, .ref z6, .ref z7, .ref z8, .ref z9, .ref z10, .ref z11, .ref z12, .ref z20, .int 1, .int 0, .int 0, .int 0, .int 0, .int 0, .int 0]))]) [4, 6] (by decide) rfl
  exact W.vret hx hb hr (fun t ht hW => ⟨⟨(), rfl, trivial, ⟨(upd fy 1 v11), by rw [ht]; exact hP9, va_K.moved hW.alike hK, hD9⟩⟩, hS.F ht⟩) hS.2.2 dX2_bend_197

theorem mX2_stand_w0 : Cond.fieldLink RX2 47 "PuppetBridge$Figure" "limbs" "I" ∈ wsX2_stand := by decide +kernel
theorem mX2_stand_w1 : Cond.fieldLink RX2 30 "PuppetBridge$Figure" "offY" "[I" ∈ wsX2_stand := by decide +kernel
theorem mX2_stand_w2 : Cond.methodLink RX2 101 Lib.Math.min.name ∈ wsX2_stand := by decide +kernel
theorem mX2_stand_w3 : Cond.static Lib.Math.min.name ∈ wsX2_stand := by decide +kernel
theorem mX2_stand_w4 : Cond.initialized "java/lang/Math" ∈ wsX2_stand := by decide +kernel
theorem mX2_stand_w5 : Cond.code Lib.Math.min.name Lib.Math.min.code 2 (some .int) ∈ wsX2_stand := by decide +kernel
theorem mX2_stand_w6 : Cond.fieldLink RX2 60 "PuppetBridge$Figure" "lift" "I" ∈ wsX2_stand := by decide +kernel
theorem mX2_stand_w7 : Cond.methodLink RX2 106 Lib.Math.max.name ∈ wsX2_stand := by decide +kernel
theorem mX2_stand_w8 : Cond.static Lib.Math.max.name ∈ wsX2_stand := by decide +kernel
theorem mX2_stand_w9 : Cond.code Lib.Math.max.name Lib.Math.max.code 2 (some .int) ∈ wsX2_stand := by decide +kernel
theorem mX2_stand_w10 : Cond.fieldLink RX2 112 "PuppetBridge$Figure" "hipY" "I" ∈ wsX2_stand := by decide +kernel
theorem mX2_stand_w11 : Cond.fieldLink RX2 72 "PuppetBridge$Figure" "stands" "I" ∈ wsX2_stand := by decide +kernel
theorem iX2_stand_X2 : ∀ w ∈ wsX20, w ∈ wsX2_stand := fun _ h => List.mem_cons_of_mem _ (List.mem_append_right _ h)
theorem dX2_stand_0 : decode cX2_stand 0 = .ok (.iconst 0, 1) := by decide +kernel
theorem dX2_stand_1 : decode cX2_stand 1 = .ok (.istore_n 1, 1) := by decide +kernel
theorem dX2_stand_2 : decode cX2_stand 2 = .ok (.iconst 1, 1) := by decide +kernel
theorem dX2_stand_3 : decode cX2_stand 3 = .ok (.istore_n 2, 1) := by decide +kernel
theorem dX2_stand_4 : decode cX2_stand 4 = .ok (.iload_n 2, 1) := by decide +kernel
theorem dX2_stand_5 : decode cX2_stand 5 = .ok (.aload_n 0, 1) := by decide +kernel
theorem dX2_stand_6 : decode cX2_stand 6 = .ok (.getfield 47, 3) := by decide +kernel
theorem dX2_stand_9 : decode cX2_stand 9 = .ok (.if_icmp .gt 20, 3) := by decide +kernel
theorem dX2_stand_12 : decode cX2_stand 12 = .ok (.iload_n 1, 1) := by decide +kernel
theorem dX2_stand_13 : decode cX2_stand 13 = .ok (.aload_n 0, 1) := by decide +kernel
theorem dX2_stand_14 : decode cX2_stand 14 = .ok (.getfield 30, 3) := by decide +kernel
theorem dX2_stand_17 : decode cX2_stand 17 = .ok (.iload_n 2, 1) := by decide +kernel
theorem dX2_stand_18 : decode cX2_stand 18 = .ok (.iaload, 1) := by decide +kernel
theorem dX2_stand_19 : decode cX2_stand 19 = .ok (.invokestatic 101, 3) := by decide +kernel
theorem dX2_stand_22 : decode cX2_stand 22 = .ok (.istore_n 1, 1) := by decide +kernel
theorem dX2_stand_23 : decode cX2_stand 23 = .ok (.iinc 2 1, 3) := by decide +kernel
theorem dX2_stand_26 : decode cX2_stand 26 = .ok (.goto (-22), 3) := by decide +kernel
theorem dX2_stand_29 : decode cX2_stand 29 = .ok (.aload_n 0, 1) := by decide +kernel
theorem dX2_stand_30 : decode cX2_stand 30 = .ok (.aload_n 0, 1) := by decide +kernel
theorem dX2_stand_31 : decode cX2_stand 31 = .ok (.getfield 60, 3) := by decide +kernel
theorem dX2_stand_34 : decode cX2_stand 34 = .ok (.iload_n 1, 1) := by decide +kernel
theorem dX2_stand_35 : decode cX2_stand 35 = .ok (.ineg, 1) := by decide +kernel
theorem dX2_stand_36 : decode cX2_stand 36 = .ok (.invokestatic 106, 3) := by decide +kernel
theorem dX2_stand_39 : decode cX2_stand 39 = .ok (.putfield 112, 3) := by decide +kernel
theorem dX2_stand_42 : decode cX2_stand 42 = .ok (.aload_n 0, 1) := by decide +kernel
theorem dX2_stand_43 : decode cX2_stand 43 = .ok (.iconst (-1), 1) := by decide +kernel
theorem dX2_stand_44 : decode cX2_stand 44 = .ok (.putfield 72, 3) := by decide +kernel
theorem dX2_stand_47 : decode cX2_stand 47 = .ok (.aload_n 0, 1) := by decide +kernel
theorem dX2_stand_48 : decode cX2_stand 48 = .ok (.getfield 47, 3) := by decide +kernel
theorem dX2_stand_51 : decode cX2_stand 51 = .ok (.istore_n 2, 1) := by decide +kernel
theorem dX2_stand_52 : decode cX2_stand 52 = .ok (.iload_n 2, 1) := by decide +kernel
theorem dX2_stand_53 : decode cX2_stand 53 = .ok (.ifCond .lt 28, 3) := by decide +kernel
theorem dX2_stand_56 : decode cX2_stand 56 = .ok (.aload_n 0, 1) := by decide +kernel
theorem dX2_stand_57 : decode cX2_stand 57 = .ok (.getfield 112, 3) := by decide +kernel
theorem dX2_stand_60 : decode cX2_stand 60 = .ok (.aload_n 0, 1) := by decide +kernel
theorem dX2_stand_61 : decode cX2_stand 61 = .ok (.getfield 30, 3) := by decide +kernel
theorem dX2_stand_64 : decode cX2_stand 64 = .ok (.iload_n 2, 1) := by decide +kernel
theorem dX2_stand_65 : decode cX2_stand 65 = .ok (.iaload, 1) := by decide +kernel
theorem dX2_stand_66 : decode cX2_stand 66 = .ok (.iadd, 1) := by decide +kernel
theorem dX2_stand_67 : decode cX2_stand 67 = .ok (.ifCond .ne 8, 3) := by decide +kernel
theorem dX2_stand_70 : decode cX2_stand 70 = .ok (.aload_n 0, 1) := by decide +kernel
theorem dX2_stand_71 : decode cX2_stand 71 = .ok (.iload_n 2, 1) := by decide +kernel
theorem dX2_stand_72 : decode cX2_stand 72 = .ok (.putfield 72, 3) := by decide +kernel
theorem dX2_stand_75 : decode cX2_stand 75 = .ok (.iinc 2 (-1), 3) := by decide +kernel
theorem dX2_stand_78 : decode cX2_stand 78 = .ok (.goto (-26), 3) := by decide +kernel
theorem dX2_stand_81 : decode cX2_stand 81 = .ok (.return_, 1) := by decide +kernel
set_option maxHeartbeats 4000000 in
set_option maxRecDepth 100000 in
/-- X2_stand -/
theorem kX2_stand (l : Launch) (D : va_G) (G : tyG) (z4 : Nat) (z5 : Nat) (z6 : Nat) (z7 : Nat) (z8 : Nat) (z9 : Nat) (z10 : Nat) (z11 : Nat) (z12 : Nat) (z20 : Nat) (fy : Nat → Int32) (sz : Nat) : Met l yX2_stand wsX2_stand ({ frames := 1, cells := 0, slots := 0, locals := 32 }) (va_Pc [.ref z4] (wB D G sz [(z4, .inr (2, [.ref z5, .ref z6, .ref z7, .ref z8, .ref z9, .ref z10, .ref z11, .ref z12, .ref z20, .int 1, .int 0, .int 0, .int 0, .int 0, .int 0, .int 0])), (z11, .inl (G.1, 9, .inl fy))])) (va_Qv (fun _ : Unit => True) (fun _ t => ∃ (a9 : Int32) (b9 : Int32), wS D G (va_A [(z4, .inr (2, [.ref z5, .ref z6, .ref z7, .ref z8, .ref z9, .ref z10, .ref z11, .ref z12, .ref z20, .int 1, .int 0, .int 0, .int 0, .int 0, .int 0, .int 0])), (z11, .inl (G.1, 9, .inl fy))] sz) [(z4, .inr (2, [.ref z5, .ref z6, .ref z7, .ref z8, .ref z9, .ref z10, .ref z11, .ref z12, .ref z20, .int 1, .int 0, .int 0, .int 0, .int 0, .int a9, .int b9]))] t) (va_A [(z4, .inr (2, [.ref z5, .ref z6, .ref z7, .ref z8, .ref z9, .ref z10, .ref z11, .ref z12, .ref z20, .int 1, .int 0, .int 0, .int 0, .int 0, .int 0, .int 0])), (z11, .inl (G.1, 9, .inl fy))] sz)) 0 0 (va_A [(z4, .inr (2, [.ref z5, .ref z6, .ref z7, .ref z8, .ref z9, .ref z10, .ref z11, .ref z12, .ref z20, .int 1, .int 0, .int 0, .int 0, .int 0, .int 0, .int 0])), (z11, .inl (G.1, 9, .inl fy))] sz) := by
  refine Met.ofW (cc := cX2_stand) (maxL := 3) (ret := none) (by decide) rfl ?_
  intro p e s m args below meth c s₁ B hml hv
  obtain ⟨rfl, hsz, hP, hK, hD0, hN⟩ := hv
  have hx := B.exec
  have hb := B.bytes
  have hr := B.returns
  have hts := atoms_spec (ws := wsX2_stand) B.pre
  have hown : s.vm.findClass RX2 = some m.cls := findClass_of_methodNamed B.named
  have hlocks := B.notSynchronized
  subst hsz
  have hD := hD0.self (sz := s.heap.size)
  generalize hAe : va_A [(z4, .inr (2, [.ref z5, .ref z6, .ref z7, .ref z8, .ref z9, .ref z10, .ref z11, .ref z12, .ref z20, .int 1, .int 0, .int 0, .int 0, .int 0, .int 0, .int 0])), (z11, .inl (G.1, 9, .inl fy))] s.heap.size = A at hD ⊢
  have hA : ∀ q : Nat, s.heap.size ≤ q → A q := fun q h => by rw [← hAe]; exact Or.inr h
  have hS : va_S A s.heap s.heap [] := va_S.rf
  have hP : va_P D vwCl [(z4, .inr (2, [.ref z5, .ref z6, .ref z7, .ref z8, .ref z9, .ref z10, .ref z11, .ref z12, .ref z20, .int 1, .int 0, .int 0, .int 0, .int 0, .int 0, .int 0])), (z11, .inl (G.1, 9, .inl fy))] s.heap := hP
  have hl := lv_entry ([.ref z4]) (n := 3) (Nat.le_of_ble_eq_true rfl)
  rw [lg_entry_eq]
  generalize (lg_sl ([.ref z4]) ++ List.replicate (3 - (lg_sl ([.ref z4])).length) Slot.unset).toArray = ls at hl ⊢
  have hl : lv_has ls 3 [(0, .ref z4)] := hl
  refine lv_iconst (v := 0) hx hb dX2_stand_0 (by decide) ?_
  refine lv_istore_n (lv' := [(1, .int 0), (0, .ref z4)]) hx hb dX2_stand_1 rfl hl (by decide) rfl (fun ls hl => ?_)
  refine lv_iconst (v := 1) hx hb dX2_stand_2 (by decide) ?_
  refine lv_istore_n (lv' := [(2, .int 1), (1, .int 0), (0, .ref z4)]) hx hb dX2_stand_3 rfl hl (by decide) rfl (fun ls hl => ?_)
  refine lv_iload_n hx hb dX2_stand_4 rfl (lv_at hl 0 rfl) ?_
  refine lv_aload_n hx hb dX2_stand_5 rfl (lv_at hl 2 rfl) ?_
  refine va_get (D := D) (ci := 2) (v := .int 1) (C := RX2) (T := TX2) (N := 16) hx hb hts iX2_stand_X2 hown hK hP 0 rfl rfl 9 (by decide) (hts (.fieldLink RX2 47 "PuppetBridge$Figure" "limbs" "I") mX2_stand_w0) (fun _ h9 => h9) rfl dX2_stand_6 ?_
  refine lv_icmp_gt (tgt := 29) hx hb dX2_stand_9 (by decide) (fun h9 => absurd h9 (by decide)) (fun _ => ?_)
  refine lv_iload_n hx hb dX2_stand_12 rfl (lv_at hl 1 rfl) ?_
  refine lv_aload_n hx hb dX2_stand_13 rfl (lv_at hl 2 rfl) ?_
  refine va_get (D := D) (ci := 2) (v := .ref z11) (C := RX2) (T := TX2) (N := 16) hx hb hts iX2_stand_X2 hown hK hP 0 rfl rfl 6 (by decide) (hts (.fieldLink RX2 30 "PuppetBridge$Figure" "offY" "[I") mX2_stand_w1) (fun _ h9 => h9) rfl dX2_stand_14 ?_
  refine lv_iload_n hx hb dX2_stand_17 rfl (lv_at hl 0 rfl) ?_
  refine va_iald hx hb hK hP 1 0 rfl rfl (wk_in rfl) dX2_stand_18 ?_
  refine lv_topi (fun v1 ev1 => ?_)
  refine va_mmin hx hb (by rw [hml]; exact hl.1.symm) hown (hts (.methodLink RX2 101 Lib.Math.min.name) mX2_stand_w2) (hts (.static Lib.Math.min.name) mX2_stand_w3) (hts (.initialized "java/lang/Math") mX2_stand_w4) (hts (.code Lib.Math.min.name Lib.Math.min.code 2 (some .int)) mX2_stand_w5) (Nat.le_of_ble_eq_true rfl) (Nat.le_of_ble_eq_true rfl) (Nat.le_of_ble_eq_true rfl) (Nat.le_of_ble_eq_true rfl) dX2_stand_19 ?_
  refine lv_topi (fun v2 ev2 => ?_)
  refine lv_istore_n (lv' := [(1, .int v2), (2, .int 1), (0, .ref z4)]) hx hb dX2_stand_22 rfl hl (by decide) rfl (fun ls hl => ?_)
  refine lv_iinc (v := 2) (lv' := [(2, .int 2), (1, .int v2), (0, .ref z4)]) hx hb dX2_stand_23 hl (k := 1) rfl (by decide) (by decide) rfl (fun ls hl => ?_)
  refine lv_goto (tgt := 4) hx hb dX2_stand_26 (by decide) ?_
  refine lv_iload_n hx hb dX2_stand_4 rfl (lv_at hl 0 rfl) ?_
  refine lv_aload_n hx hb dX2_stand_5 rfl (lv_at hl 2 rfl) ?_
  refine va_get (D := D) (ci := 2) (v := .int 1) (C := RX2) (T := TX2) (N := 16) hx hb hts iX2_stand_X2 hown hK hP 0 rfl rfl 9 (by decide) (hts (.fieldLink RX2 47 "PuppetBridge$Figure" "limbs" "I") mX2_stand_w0) (fun _ h9 => h9) rfl dX2_stand_6 ?_
  refine lv_icmp_gt (tgt := 29) hx hb dX2_stand_9 (by decide) (fun _ => ?_) (fun h9 => absurd h9 (by decide))
  refine lv_aload_n hx hb dX2_stand_29 rfl (lv_at hl 2 rfl) ?_
  refine lv_aload_n hx hb dX2_stand_30 rfl (lv_at hl 2 rfl) ?_
  refine va_get (D := D) (ci := 2) (v := .int 0) (C := RX2) (T := TX2) (N := 16) hx hb hts iX2_stand_X2 hown hK hP 0 rfl rfl 11 (by decide) (hts (.fieldLink RX2 60 "PuppetBridge$Figure" "lift" "I") mX2_stand_w6) (fun _ h9 => h9) rfl dX2_stand_31 ?_
  refine lv_iload_n hx hb dX2_stand_34 rfl (lv_at hl 1 rfl) ?_
  refine lv_ineg hx hb dX2_stand_35 ?_
  refine lv_topi (fun v3 ev3 => ?_)
  refine va_mmax hx hb (by rw [hml]; exact hl.1.symm) hown (hts (.methodLink RX2 106 Lib.Math.max.name) mX2_stand_w7) (hts (.static Lib.Math.max.name) mX2_stand_w8) (hts (.initialized "java/lang/Math") mX2_stand_w4) (hts (.code Lib.Math.max.name Lib.Math.max.code 2 (some .int)) mX2_stand_w9) (Nat.le_of_ble_eq_true rfl) (Nat.le_of_ble_eq_true rfl) (Nat.le_of_ble_eq_true rfl) (Nat.le_of_ble_eq_true rfl) dX2_stand_36 ?_
  refine lv_topi (fun v4 ev4 => ?_)
  refine va_put (D := D) (ci := 2) (v := .int v4) (ty := (tyX2 14)) (C := RX2) (T := TX2) (N := 16) hx hb hts iX2_stand_X2 tyX2 tyX2_ok nmX2 hown hK hP hD hS 0 rfl rfl 14 (by decide) (hts (.fieldLink RX2 112 "PuppetBridge$Figure" "hipY" "I") mX2_stand_w10) (fun _ h9 => h9) rfl (tyX2_ok 14 (by decide)) rfl rfl (Nat.le_of_ble_eq_true rfl) dX2_stand_39 (fun H locs hP hD hS => ?_)
  have hP : va_P D vwCl [(z4, .inr (2, [.ref z5, .ref z6, .ref z7, .ref z8, .ref z9, .ref z10, .ref z11, .ref z12, .ref z20, .int 1, .int 0, .int 0, .int 0, .int 0, .int v4, .int 0])), (z11, .inl (G.1, 9, .inl fy))] H := hP
  have hD : va_D A [(z4, .inr (2, [.ref z5, .ref z6, .ref z7, .ref z8, .ref z9, .ref z10, .ref z11, .ref z12, .ref z20, .int 1, .int 0, .int 0, .int 0, .int 0, .int v4, .int 0])), (z11, .inl (G.1, 9, .inl fy))] := hD
  refine lv_aload_n hx hb dX2_stand_42 rfl (lv_at hl 2 rfl) ?_
  refine lv_iconst (v := (-1)) hx hb dX2_stand_43 (by decide) ?_
  refine va_put (D := D) (ci := 2) (v := .int (-1)) (ty := (tyX2 15)) (C := RX2) (T := TX2) (N := 16) hx hb hts iX2_stand_X2 tyX2 tyX2_ok nmX2 hown hK hP hD hS 0 rfl rfl 15 (by decide) (hts (.fieldLink RX2 72 "PuppetBridge$Figure" "stands" "I") mX2_stand_w11) (fun _ h9 => h9) rfl (tyX2_ok 15 (by decide)) rfl rfl (Nat.le_of_ble_eq_true rfl) dX2_stand_44 (fun H locs hP hD hS => ?_)
  have hP : va_P D vwCl [(z4, .inr (2, [.ref z5, .ref z6, .ref z7, .ref z8, .ref z9, .ref z10, .ref z11, .ref z12, .ref z20, .int 1, .int 0, .int 0, .int 0, .int 0, .int v4, .int (-1)])), (z11, .inl (G.1, 9, .inl fy))] H := hP
  have hD : va_D A [(z4, .inr (2, [.ref z5, .ref z6, .ref z7, .ref z8, .ref z9, .ref z10, .ref z11, .ref z12, .ref z20, .int 1, .int 0, .int 0, .int 0, .int 0, .int v4, .int (-1)])), (z11, .inl (G.1, 9, .inl fy))] := hD
  refine lv_aload_n hx hb dX2_stand_47 rfl (lv_at hl 2 rfl) ?_
  refine va_get (D := D) (ci := 2) (v := .int 1) (C := RX2) (T := TX2) (N := 16) hx hb hts iX2_stand_X2 hown hK hP 0 rfl rfl 9 (by decide) (hts (.fieldLink RX2 47 "PuppetBridge$Figure" "limbs" "I") mX2_stand_w0) (fun _ h9 => h9) rfl dX2_stand_48 ?_
  refine lv_istore_n (lv' := [(2, .int 1), (1, .int v2), (0, .ref z4)]) hx hb dX2_stand_51 rfl hl (by decide) rfl (fun ls hl => ?_)
  refine lv_iload_n hx hb dX2_stand_52 rfl (lv_at hl 0 rfl) ?_
  refine lv_if_lt (tgt := 81) hx hb dX2_stand_53 (by decide) (fun h9 => absurd h9 (by decide)) (fun _ => ?_)
  refine lv_aload_n hx hb dX2_stand_56 rfl (lv_at hl 2 rfl) ?_
  refine va_get (D := D) (ci := 2) (v := .int v4) (C := RX2) (T := TX2) (N := 16) hx hb hts iX2_stand_X2 hown hK hP 0 rfl rfl 14 (by decide) (hts (.fieldLink RX2 112 "PuppetBridge$Figure" "hipY" "I") mX2_stand_w10) (fun _ h9 => h9) rfl dX2_stand_57 ?_
  refine lv_aload_n hx hb dX2_stand_60 rfl (lv_at hl 2 rfl) ?_
  refine va_get (D := D) (ci := 2) (v := .ref z11) (C := RX2) (T := TX2) (N := 16) hx hb hts iX2_stand_X2 hown hK hP 0 rfl rfl 6 (by decide) (hts (.fieldLink RX2 30 "PuppetBridge$Figure" "offY" "[I") mX2_stand_w1) (fun _ h9 => h9) rfl dX2_stand_61 ?_
  refine lv_iload_n hx hb dX2_stand_64 rfl (lv_at hl 0 rfl) ?_
  refine va_iald hx hb hK hP 1 0 rfl rfl (wk_in rfl) dX2_stand_65 ?_
  refine lv_topi (fun v5 ev5 => ?_)
  refine lv_iadd hx hb dX2_stand_66 ?_
  refine lv_topi (fun v6 ev6 => ?_)
  refine lv_if_ne (tgt := 75) hx hb dX2_stand_67 (by decide) (fun c7 => ?_) (fun c7 => ?_)
  · refine lv_iinc (v := 0) (lv' := [(2, .int 0), (1, .int v2), (0, .ref z4)]) hx hb dX2_stand_75 hl (k := 0) rfl (by decide) (by decide) rfl (fun ls hl => ?_)
    refine lv_goto (tgt := 52) hx hb dX2_stand_78 (by decide) ?_
    refine lv_iload_n hx hb dX2_stand_52 rfl (lv_at hl 0 rfl) ?_
    refine lv_if_lt (tgt := 81) hx hb dX2_stand_53 (by decide) (fun h9 => absurd h9 (by decide)) (fun _ => ?_)
    refine lv_aload_n hx hb dX2_stand_56 rfl (lv_at hl 2 rfl) ?_
    refine va_get (D := D) (ci := 2) (v := .int v4) (C := RX2) (T := TX2) (N := 16) hx hb hts iX2_stand_X2 hown hK hP 0 rfl rfl 14 (by decide) (hts (.fieldLink RX2 112 "PuppetBridge$Figure" "hipY" "I") mX2_stand_w10) (fun _ h9 => h9) rfl dX2_stand_57 ?_
    refine lv_aload_n hx hb dX2_stand_60 rfl (lv_at hl 2 rfl) ?_
    refine va_get (D := D) (ci := 2) (v := .ref z11) (C := RX2) (T := TX2) (N := 16) hx hb hts iX2_stand_X2 hown hK hP 0 rfl rfl 6 (by decide) (hts (.fieldLink RX2 30 "PuppetBridge$Figure" "offY" "[I") mX2_stand_w1) (fun _ h9 => h9) rfl dX2_stand_61 ?_
    refine lv_iload_n hx hb dX2_stand_64 rfl (lv_at hl 0 rfl) ?_
    refine va_iald hx hb hK hP 1 0 rfl rfl (wk_in rfl) dX2_stand_65 ?_
    refine lv_topi (fun v8 ev8 => ?_)
    refine lv_iadd hx hb dX2_stand_66 ?_
    refine lv_topi (fun v9 ev9 => ?_)
    refine lv_if_ne (tgt := 75) hx hb dX2_stand_67 (by decide) (fun c10 => ?_) (fun c10 => ?_)
    · refine lv_iinc (v := (-1)) (lv' := [(2, .int (-1)), (1, .int v2), (0, .ref z4)]) hx hb dX2_stand_75 hl (k := 0) rfl (by decide) (by decide) rfl (fun ls hl => ?_)
      refine lv_goto (tgt := 52) hx hb dX2_stand_78 (by decide) ?_
      refine lv_iload_n hx hb dX2_stand_52 rfl (lv_at hl 0 rfl) ?_
      refine lv_if_lt (tgt := 81) hx hb dX2_stand_53 (by decide) (fun _ => ?_) (fun h9 => absurd h9 (by decide))
      have hP9 := hP.sub (ws' := [(z4, .inr (2, [.ref z5, .ref z6, .ref z7, .ref z8, .ref z9, .ref z10, .ref z11, .ref z12, .ref z20, .int 1, .int 0, .int 0, .int 0, .int 0, .int v4, .int (-1)]))]) [0] rfl
      have hD9 := hD.sub (ws' := [(z4, .inr (2, [.ref z5, .ref z6, .ref z7, .ref z8, .ref z9, .ref z10, .ref z11, .ref z12, .ref z20, .int 1, .int 0, .int 0, .int 0, .int 0, .int v4, .int (-1)]))]) [0] (by decide) rfl
      exact W.vret hx hb hr (fun t ht hW => ⟨⟨(), rfl, trivial, ⟨v4, (-1), by rw [ht]; exact hP9, va_K.moved hW.alike hK, hD9⟩⟩, hS.F ht⟩) hS.2.2 dX2_stand_81
    · refine lv_aload_n hx hb dX2_stand_70 rfl (lv_at hl 2 rfl) ?_
      refine lv_iload_n hx hb dX2_stand_71 rfl (lv_at hl 0 rfl) ?_
      refine va_put (D := D) (ci := 2) (v := .int 0) (ty := (tyX2 15)) (C := RX2) (T := TX2) (N := 16) hx hb hts iX2_stand_X2 tyX2 tyX2_ok nmX2 hown hK hP hD hS 0 rfl rfl 15 (by decide) (hts (.fieldLink RX2 72 "PuppetBridge$Figure" "stands" "I") mX2_stand_w11) (fun _ h9 => h9) rfl (tyX2_ok 15 (by decide)) rfl rfl (Nat.le_of_ble_eq_true rfl) dX2_stand_72 (fun H locs hP hD hS => ?_)
      have hP : va_P D vwCl [(z4, .inr (2, [.ref z5, .ref z6, .ref z7, .ref z8, .ref z9, .ref z10, .ref z11, .ref z12, .ref z20, .int 1, .int 0, .int 0, .int 0, .int 0, .int v4, .int 0])), (z11, .inl (G.1, 9, .inl fy))] H := hP
      have hD : va_D A [(z4, .inr (2, [.ref z5, .ref z6, .ref z7, .ref z8, .ref z9, .ref z10, .ref z11, .ref z12, .ref z20, .int 1, .int 0, .int 0, .int 0, .int 0, .int v4, .int 0])), (z11, .inl (G.1, 9, .inl fy))] := hD
      refine lv_iinc (v := (-1)) (lv' := [(2, .int (-1)), (1, .int v2), (0, .ref z4)]) hx hb dX2_stand_75 hl (k := 0) rfl (by decide) (by decide) rfl (fun ls hl => ?_)
      refine lv_goto (tgt := 52) hx hb dX2_stand_78 (by decide) ?_
      refine lv_iload_n hx hb dX2_stand_52 rfl (lv_at hl 0 rfl) ?_
      refine lv_if_lt (tgt := 81) hx hb dX2_stand_53 (by decide) (fun _ => ?_) (fun h9 => absurd h9 (by decide))
      have hP9 := hP.sub (ws' := [(z4, .inr (2, [.ref z5, .ref z6, .ref z7, .ref z8, .ref z9, .ref z10, .ref z11, .ref z12, .ref z20, .int 1, .int 0, .int 0, .int 0, .int 0, .int v4, .int 0]))]) [0] rfl
      have hD9 := hD.sub (ws' := [(z4, .inr (2, [.ref z5, .ref z6, .ref z7, .ref z8, .ref z9, .ref z10, .ref z11, .ref z12, .ref z20, .int 1, .int 0, .int 0, .int 0, .int 0, .int v4, .int 0]))]) [0] (by decide) rfl
      exact W.vret hx hb hr (fun t ht hW => ⟨⟨(), rfl, trivial, ⟨v4, 0, by rw [ht]; exact hP9, va_K.moved hW.alike hK, hD9⟩⟩, hS.F ht⟩) hS.2.2 dX2_stand_81
  · refine lv_aload_n hx hb dX2_stand_70 rfl (lv_at hl 2 rfl) ?_
    refine lv_iload_n hx hb dX2_stand_71 rfl (lv_at hl 0 rfl) ?_
    refine va_put (D := D) (ci := 2) (v := .int 1) (ty := (tyX2 15)) (C := RX2) (T := TX2) (N := 16) hx hb hts iX2_stand_X2 tyX2 tyX2_ok nmX2 hown hK hP hD hS 0 rfl rfl 15 (by decide) (hts (.fieldLink RX2 72 "PuppetBridge$Figure" "stands" "I") mX2_stand_w11) (fun _ h9 => h9) rfl (tyX2_ok 15 (by decide)) rfl rfl (Nat.le_of_ble_eq_true rfl) dX2_stand_72 (fun H locs hP hD hS => ?_)
    have hP : va_P D vwCl [(z4, .inr (2, [.ref z5, .ref z6, .ref z7, .ref z8, .ref z9, .ref z10, .ref z11, .ref z12, .ref z20, .int 1, .int 0, .int 0, .int 0, .int 0, .int v4, .int 1])), (z11, .inl (G.1, 9, .inl fy))] H := hP
    have hD : va_D A [(z4, .inr (2, [.ref z5, .ref z6, .ref z7, .ref z8, .ref z9, .ref z10, .ref z11, .ref z12, .ref z20, .int 1, .int 0, .int 0, .int 0, .int 0, .int v4, .int 1])), (z11, .inl (G.1, 9, .inl fy))] := hD
    refine lv_iinc (v := 0) (lv' := [(2, .int 0), (1, .int v2), (0, .ref z4)]) hx hb dX2_stand_75 hl (k := 0) rfl (by decide) (by decide) rfl (fun ls hl => ?_)
    refine lv_goto (tgt := 52) hx hb dX2_stand_78 (by decide) ?_
    refine lv_iload_n hx hb dX2_stand_52 rfl (lv_at hl 0 rfl) ?_
    refine lv_if_lt (tgt := 81) hx hb dX2_stand_53 (by decide) (fun h9 => absurd h9 (by decide)) (fun _ => ?_)
    refine lv_aload_n hx hb dX2_stand_56 rfl (lv_at hl 2 rfl) ?_
    refine va_get (D := D) (ci := 2) (v := .int v4) (C := RX2) (T := TX2) (N := 16) hx hb hts iX2_stand_X2 hown hK hP 0 rfl rfl 14 (by decide) (hts (.fieldLink RX2 112 "PuppetBridge$Figure" "hipY" "I") mX2_stand_w10) (fun _ h9 => h9) rfl dX2_stand_57 ?_
    refine lv_aload_n hx hb dX2_stand_60 rfl (lv_at hl 2 rfl) ?_
    refine va_get (D := D) (ci := 2) (v := .ref z11) (C := RX2) (T := TX2) (N := 16) hx hb hts iX2_stand_X2 hown hK hP 0 rfl rfl 6 (by decide) (hts (.fieldLink RX2 30 "PuppetBridge$Figure" "offY" "[I") mX2_stand_w1) (fun _ h9 => h9) rfl dX2_stand_61 ?_
    refine lv_iload_n hx hb dX2_stand_64 rfl (lv_at hl 0 rfl) ?_
    refine va_iald hx hb hK hP 1 0 rfl rfl (wk_in rfl) dX2_stand_65 ?_
    refine lv_topi (fun v11 ev11 => ?_)
    refine lv_iadd hx hb dX2_stand_66 ?_
    refine lv_topi (fun v12 ev12 => ?_)
    refine lv_if_ne (tgt := 75) hx hb dX2_stand_67 (by decide) (fun c13 => ?_) (fun c13 => ?_)
    · refine lv_iinc (v := (-1)) (lv' := [(2, .int (-1)), (1, .int v2), (0, .ref z4)]) hx hb dX2_stand_75 hl (k := 0) rfl (by decide) (by decide) rfl (fun ls hl => ?_)
      refine lv_goto (tgt := 52) hx hb dX2_stand_78 (by decide) ?_
      refine lv_iload_n hx hb dX2_stand_52 rfl (lv_at hl 0 rfl) ?_
      refine lv_if_lt (tgt := 81) hx hb dX2_stand_53 (by decide) (fun _ => ?_) (fun h9 => absurd h9 (by decide))
      have hP9 := hP.sub (ws' := [(z4, .inr (2, [.ref z5, .ref z6, .ref z7, .ref z8, .ref z9, .ref z10, .ref z11, .ref z12, .ref z20, .int 1, .int 0, .int 0, .int 0, .int 0, .int v4, .int 1]))]) [0] rfl
      have hD9 := hD.sub (ws' := [(z4, .inr (2, [.ref z5, .ref z6, .ref z7, .ref z8, .ref z9, .ref z10, .ref z11, .ref z12, .ref z20, .int 1, .int 0, .int 0, .int 0, .int 0, .int v4, .int 1]))]) [0] (by decide) rfl
      exact W.vret hx hb hr (fun t ht hW => ⟨⟨(), rfl, trivial, ⟨v4, 1, by rw [ht]; exact hP9, va_K.moved hW.alike hK, hD9⟩⟩, hS.F ht⟩) hS.2.2 dX2_stand_81
    · refine lv_aload_n hx hb dX2_stand_70 rfl (lv_at hl 2 rfl) ?_
      refine lv_iload_n hx hb dX2_stand_71 rfl (lv_at hl 0 rfl) ?_
      refine va_put (D := D) (ci := 2) (v := .int 0) (ty := (tyX2 15)) (C := RX2) (T := TX2) (N := 16) hx hb hts iX2_stand_X2 tyX2 tyX2_ok nmX2 hown hK hP hD hS 0 rfl rfl 15 (by decide) (hts (.fieldLink RX2 72 "PuppetBridge$Figure" "stands" "I") mX2_stand_w11) (fun _ h9 => h9) rfl (tyX2_ok 15 (by decide)) rfl rfl (Nat.le_of_ble_eq_true rfl) dX2_stand_72 (fun H locs hP hD hS => ?_)
      have hP : va_P D vwCl [(z4, .inr (2, [.ref z5, .ref z6, .ref z7, .ref z8, .ref z9, .ref z10, .ref z11, .ref z12, .ref z20, .int 1, .int 0, .int 0, .int 0, .int 0, .int v4, .int 0])), (z11, .inl (G.1, 9, .inl fy))] H := hP
      have hD : va_D A [(z4, .inr (2, [.ref z5, .ref z6, .ref z7, .ref z8, .ref z9, .ref z10, .ref z11, .ref z12, .ref z20, .int 1, .int 0, .int 0, .int 0, .int 0, .int v4, .int 0])), (z11, .inl (G.1, 9, .inl fy))] := hD
      refine lv_iinc (v := (-1)) (lv' := [(2, .int (-1)), (1, .int v2), (0, .ref z4)]) hx hb dX2_stand_75 hl (k := 0) rfl (by decide) (by decide) rfl (fun ls hl => ?_)
      refine lv_goto (tgt := 52) hx hb dX2_stand_78 (by decide) ?_
      refine lv_iload_n hx hb dX2_stand_52 rfl (lv_at hl 0 rfl) ?_
      refine lv_if_lt (tgt := 81) hx hb dX2_stand_53 (by decide) (fun _ => ?_) (fun h9 => absurd h9 (by decide))
      have hP9 := hP.sub (ws' := [(z4, .inr (2, [.ref z5, .ref z6, .ref z7, .ref z8, .ref z9, .ref z10, .ref z11, .ref z12, .ref z20, .int 1, .int 0, .int 0, .int 0, .int 0, .int v4, .int 0]))]) [0] rfl
      have hD9 := hD.sub (ws' := [(z4, .inr (2, [.ref z5, .ref z6, .ref z7, .ref z8, .ref z9, .ref z10, .ref z11, .ref z12, .ref z20, .int 1, .int 0, .int 0, .int 0, .int 0, .int v4, .int 0]))]) [0] (by decide) rfl
      exact W.vret hx hb hr (fun t ht hW => ⟨⟨(), rfl, trivial, ⟨v4, 0, by rw [ht]; exact hP9, va_K.moved hW.alike hK, hD9⟩⟩, hS.F ht⟩) hS.2.2 dX2_stand_81

theorem mX2_grow_w0 : Cond.fieldLink RX2 9 "PuppetBridge$Figure" "start" "[I" ∈ wsX2_grow := by decide +kernel
theorem mX2_grow_w1 : Cond.fieldLink RX2 47 "PuppetBridge$Figure" "limbs" "I" ∈ wsX2_grow := by decide +kernel
theorem mX2_grow_w2 : Cond.fieldLink RX2 15 "PuppetBridge$Figure" "length" "[I" ∈ wsX2_grow := by decide +kernel
theorem mX2_grow_w3 : Cond.fieldLink RX2 18 "PuppetBridge$Figure" "rest" "[I" ∈ wsX2_grow := by decide +kernel
theorem mX2_grow_w4 : Cond.fieldLink RX2 21 "PuppetBridge$Figure" "most" "[I" ∈ wsX2_grow := by decide +kernel
theorem iX2_grow_X2 : ∀ w ∈ wsX20, w ∈ wsX2_grow := fun _ h => List.mem_cons_of_mem _ (List.mem_append_left _ (List.mem_append_right _ h))
set_option maxRecDepth 20000 in
theorem ggX2_grow_X2_bend : GoodIn wsX2_grow wsX2_bend := goodIn_r _ [10, 2, 11, 12, 13, 14, 15, 16, 17, 18, 1, 3, 19, 20, 21, 22, 9, 23, 5, 24, 25, 26, 27, 28, 29, 30, 4, 31, 32, 33, 34, 42, 43, 44, 45, 46, 47, 48, 49, 50, 51, 52, 53, 54, 55, 56, 57, 58, 59, 60, 61, 62, 63, 64, 65] (by decide +kernel) (by decide +kernel)
set_option maxRecDepth 20000 in
theorem gX2_grow_X2_bend : GoodIn wsX2_grow (wsV RX2 51 RX2 yX2_bend wsX2_bend) := goodIn_app (goodIn_of _ (by decide +kernel)) ggX2_grow_X2_bend
set_option maxRecDepth 20000 in
theorem ggX2_grow_X2_stand : GoodIn wsX2_grow wsX2_stand := goodIn_r _ [38, 2, 19, 24, 25, 26, 27, 39, 28, 29, 30, 40, 41, 42, 43, 44, 45, 46, 47, 48, 49, 50, 51, 52, 53, 54, 55, 56, 57] (by decide +kernel) (by decide +kernel)
set_option maxRecDepth 20000 in
theorem gX2_grow_X2_stand : GoodIn wsX2_grow (wsV RX2 54 RX2 yX2_stand wsX2_stand) := goodIn_app (goodIn_of _ (by decide +kernel)) ggX2_grow_X2_stand
theorem dX2_grow_0 : decode cX2_grow 0 = .ok (.aload_n 0, 1) := by decide +kernel
theorem dX2_grow_1 : decode cX2_grow 1 = .ok (.getfield 9, 3) := by decide +kernel
theorem dX2_grow_4 : decode cX2_grow 4 = .ok (.aload_n 0, 1) := by decide +kernel
theorem dX2_grow_5 : decode cX2_grow 5 = .ok (.getfield 47, 3) := by decide +kernel
theorem dX2_grow_8 : decode cX2_grow 8 = .ok (.iload_n 1, 1) := by decide +kernel
theorem dX2_grow_9 : decode cX2_grow 9 = .ok (.iastore, 1) := by decide +kernel
theorem dX2_grow_10 : decode cX2_grow 10 = .ok (.aload_n 0, 1) := by decide +kernel
theorem dX2_grow_11 : decode cX2_grow 11 = .ok (.getfield 15, 3) := by decide +kernel
theorem dX2_grow_14 : decode cX2_grow 14 = .ok (.aload_n 0, 1) := by decide +kernel
theorem dX2_grow_15 : decode cX2_grow 15 = .ok (.getfield 47, 3) := by decide +kernel
theorem dX2_grow_18 : decode cX2_grow 18 = .ok (.iload_n 2, 1) := by decide +kernel
theorem dX2_grow_19 : decode cX2_grow 19 = .ok (.iastore, 1) := by decide +kernel
theorem dX2_grow_20 : decode cX2_grow 20 = .ok (.aload_n 0, 1) := by decide +kernel
theorem dX2_grow_21 : decode cX2_grow 21 = .ok (.getfield 18, 3) := by decide +kernel
theorem dX2_grow_24 : decode cX2_grow 24 = .ok (.aload_n 0, 1) := by decide +kernel
theorem dX2_grow_25 : decode cX2_grow 25 = .ok (.getfield 47, 3) := by decide +kernel
theorem dX2_grow_28 : decode cX2_grow 28 = .ok (.iload_n 3, 1) := by decide +kernel
theorem dX2_grow_29 : decode cX2_grow 29 = .ok (.iastore, 1) := by decide +kernel
theorem dX2_grow_30 : decode cX2_grow 30 = .ok (.aload_n 0, 1) := by decide +kernel
theorem dX2_grow_31 : decode cX2_grow 31 = .ok (.getfield 21, 3) := by decide +kernel
theorem dX2_grow_34 : decode cX2_grow 34 = .ok (.aload_n 0, 1) := by decide +kernel
theorem dX2_grow_35 : decode cX2_grow 35 = .ok (.getfield 47, 3) := by decide +kernel
theorem dX2_grow_38 : decode cX2_grow 38 = .ok (.iload 4, 2) := by decide +kernel
theorem dX2_grow_40 : decode cX2_grow 40 = .ok (.iastore, 1) := by decide +kernel
theorem dX2_grow_41 : decode cX2_grow 41 = .ok (.aload_n 0, 1) := by decide +kernel
theorem dX2_grow_42 : decode cX2_grow 42 = .ok (.dup, 1) := by decide +kernel
theorem dX2_grow_43 : decode cX2_grow 43 = .ok (.getfield 47, 3) := by decide +kernel
theorem dX2_grow_46 : decode cX2_grow 46 = .ok (.iconst 1, 1) := by decide +kernel
theorem dX2_grow_47 : decode cX2_grow 47 = .ok (.iadd, 1) := by decide +kernel
theorem dX2_grow_48 : decode cX2_grow 48 = .ok (.putfield 47, 3) := by decide +kernel
theorem dX2_grow_51 : decode cX2_grow 51 = .ok (.aload_n 0, 1) := by decide +kernel
theorem dX2_grow_52 : decode cX2_grow 52 = .ok (.invokevirtual 51, 3) := by decide +kernel
theorem dX2_grow_55 : decode cX2_grow 55 = .ok (.aload_n 0, 1) := by decide +kernel
theorem dX2_grow_56 : decode cX2_grow 56 = .ok (.invokevirtual 54, 3) := by decide +kernel
theorem dX2_grow_59 : decode cX2_grow 59 = .ok (.aload_n 0, 1) := by decide +kernel
theorem dX2_grow_60 : decode cX2_grow 60 = .ok (.getfield 47, 3) := by decide +kernel
theorem dX2_grow_63 : decode cX2_grow 63 = .ok (.iconst 1, 1) := by decide +kernel
theorem dX2_grow_64 : decode cX2_grow 64 = .ok (.isub, 1) := by decide +kernel
theorem dX2_grow_65 : decode cX2_grow 65 = .ok (.ireturn, 1) := by decide +kernel
set_option maxHeartbeats 4000000 in
set_option maxRecDepth 100000 in
/-- X2_grow -/
theorem kX2_grow (l : Launch) (D : va_G) (G : tyG) (z4 : Nat) (x1 : Int32) (x2 : Int32) (x3 : Int32) (z5 : Nat) (z6 : Nat) (z7 : Nat) (z8 : Nat) (z9 : Nat) (z10 : Nat) (z11 : Nat) (z12 : Nat) (z20 : Nat) (z13 : Nat) (z14 : Nat) (z15 : Nat) (z16 : Nat) (z17 : Nat) (z18 : Nat) (z19 : Nat) (tx : Nat) (ty : Nat) (gx : Nat → Int32) (gy : Nat → Int32) (sz : Nat) : Met l yX2_grow wsX2_grow ({ frames := 3, cells := 0, slots := 0, locals := 76 }) (va_Pc [.ref z4, .int 0, .int x1, .int x2, .int x3] (fun U => wB D G sz [(z4, .inr (2, [.ref z5, .ref z6, .ref z7, .ref z8, .ref z9, .ref z10, .ref z11, .ref z12, .ref z20, .int 0, .int 0, .int 0, .int 0, .int 0, .int 0, .int 0])), (z5, .inl (G.1, 8, .inl (fun _ => 0))), (z6, .inl (G.1, 8, .inl (fun _ => 0))), (z7, .inl (G.1, 8, .inl (fun _ => 0))), (z8, .inl (G.1, 8, .inl (fun _ => 0))), (z9, .inl (G.1, 8, .inl (fun _ => 0))), (z10, .inl (G.1, 9, .inl (fun _ => 0))), (z11, .inl (G.1, 9, .inl (fun _ => 0))), (z12, .inr (1, [.ref z13, .ref z14, .ref z15, .ref z16, .ref z17, .ref z18, .ref z19, .int 0]))] U ∧ wZ (va_A [(z4, .inr (2, [.ref z5, .ref z6, .ref z7, .ref z8, .ref z9, .ref z10, .ref z11, .ref z12, .ref z20, .int 0, .int 0, .int 0, .int 0, .int 0, .int 0, .int 0])), (z5, .inl (G.1, 8, .inl (fun _ => 0))), (z6, .inl (G.1, 8, .inl (fun _ => 0))), (z7, .inl (G.1, 8, .inl (fun _ => 0))), (z8, .inl (G.1, 8, .inl (fun _ => 0))), (z9, .inl (G.1, 8, .inl (fun _ => 0))), (z10, .inl (G.1, 9, .inl (fun _ => 0))), (z11, .inl (G.1, 9, .inl (fun _ => 0))), (z12, .inr (1, [.ref z13, .ref z14, .ref z15, .ref z16, .ref z17, .ref z18, .ref z19, .int 0]))] sz) tx ty gx gy U)) (va_Qi (fun (_ : Int32) (_ : Unit) => True) (fun _ _ => True) (va_A [(z4, .inr (2, [.ref z5, .ref z6, .ref z7, .ref z8, .ref z9, .ref z10, .ref z11, .ref z12, .ref z20, .int 0, .int 0, .int 0, .int 0, .int 0, .int 0, .int 0])), (z5, .inl (G.1, 8, .inl (fun _ => 0))), (z6, .inl (G.1, 8, .inl (fun _ => 0))), (z7, .inl (G.1, 8, .inl (fun _ => 0))), (z8, .inl (G.1, 8, .inl (fun _ => 0))), (z9, .inl (G.1, 8, .inl (fun _ => 0))), (z10, .inl (G.1, 9, .inl (fun _ => 0))), (z11, .inl (G.1, 9, .inl (fun _ => 0))), (z12, .inr (1, [.ref z13, .ref z14, .ref z15, .ref z16, .ref z17, .ref z18, .ref z19, .int 0]))] sz)) 0 0 (va_A [(z4, .inr (2, [.ref z5, .ref z6, .ref z7, .ref z8, .ref z9, .ref z10, .ref z11, .ref z12, .ref z20, .int 0, .int 0, .int 0, .int 0, .int 0, .int 0, .int 0])), (z5, .inl (G.1, 8, .inl (fun _ => 0))), (z6, .inl (G.1, 8, .inl (fun _ => 0))), (z7, .inl (G.1, 8, .inl (fun _ => 0))), (z8, .inl (G.1, 8, .inl (fun _ => 0))), (z9, .inl (G.1, 8, .inl (fun _ => 0))), (z10, .inl (G.1, 9, .inl (fun _ => 0))), (z11, .inl (G.1, 9, .inl (fun _ => 0))), (z12, .inr (1, [.ref z13, .ref z14, .ref z15, .ref z16, .ref z17, .ref z18, .ref z19, .int 0]))] sz) := by
  refine Met.ofW (cc := cX2_grow) (maxL := 5) (ret := (some .int)) (by decide) rfl ?_
  intro p e s m args below meth c s₁ B hml hv
  obtain ⟨rfl, ⟨hsz, hP, hK, hD0, hN⟩, hZ⟩ := hv
  have hx := B.exec
  have hb := B.bytes
  have hr := B.returns
  have hts := atoms_spec (ws := wsX2_grow) B.pre
  have hown : s.vm.findClass RX2 = some m.cls := findClass_of_methodNamed B.named
  have hlocks := B.notSynchronized
  subst hsz
  have hD := hD0.self (sz := s.heap.size)
  generalize hAe : va_A [(z4, .inr (2, [.ref z5, .ref z6, .ref z7, .ref z8, .ref z9, .ref z10, .ref z11, .ref z12, .ref z20, .int 0, .int 0, .int 0, .int 0, .int 0, .int 0, .int 0])), (z5, .inl (G.1, 8, .inl (fun _ => 0))), (z6, .inl (G.1, 8, .inl (fun _ => 0))), (z7, .inl (G.1, 8, .inl (fun _ => 0))), (z8, .inl (G.1, 8, .inl (fun _ => 0))), (z9, .inl (G.1, 8, .inl (fun _ => 0))), (z10, .inl (G.1, 9, .inl (fun _ => 0))), (z11, .inl (G.1, 9, .inl (fun _ => 0))), (z12, .inr (1, [.ref z13, .ref z14, .ref z15, .ref z16, .ref z17, .ref z18, .ref z19, .int 0]))] s.heap.size = A at hD hZ ⊢
  have hA : ∀ q : Nat, s.heap.size ≤ q → A q := fun q h => by rw [← hAe]; exact Or.inr h
  have hS : va_S A s.heap s.heap [] := va_S.rf
  have hP : va_P D vwCl [(z4, .inr (2, [.ref z5, .ref z6, .ref z7, .ref z8, .ref z9, .ref z10, .ref z11, .ref z12, .ref z20, .int 0, .int 0, .int 0, .int 0, .int 0, .int 0, .int 0])), (z5, .inl (G.1, 8, .inl (fun _ => 0))), (z6, .inl (G.1, 8, .inl (fun _ => 0))), (z7, .inl (G.1, 8, .inl (fun _ => 0))), (z8, .inl (G.1, 8, .inl (fun _ => 0))), (z9, .inl (G.1, 8, .inl (fun _ => 0))), (z10, .inl (G.1, 9, .inl (fun _ => 0))), (z11, .inl (G.1, 9, .inl (fun _ => 0))), (z12, .inr (1, [.ref z13, .ref z14, .ref z15, .ref z16, .ref z17, .ref z18, .ref z19, .int 0]))] s.heap := hP
  have hl := lv_entry ([.ref z4, .int 0, .int x1, .int x2, .int x3]) (n := 5) (Nat.le_of_ble_eq_true rfl)
  rw [lg_entry_eq]
  generalize (lg_sl ([.ref z4, .int 0, .int x1, .int x2, .int x3]) ++ List.replicate (5 - (lg_sl ([.ref z4, .int 0, .int x1, .int x2, .int x3])).length) Slot.unset).toArray = ls at hl ⊢
  have hl : lv_has ls 5 [(0, .ref z4), (1, .int 0), (2, .int x1), (3, .int x2), (4, .int x3)] := hl
  refine lv_aload_n hx hb dX2_grow_0 rfl (lv_at hl 0 rfl) ?_
  refine va_get (D := D) (ci := 2) (v := .ref z5) (C := RX2) (T := TX2) (N := 16) hx hb hts iX2_grow_X2 hown hK hP 0 rfl rfl 0 (by decide) (hts (.fieldLink RX2 9 "PuppetBridge$Figure" "start" "[I") mX2_grow_w0) (fun _ h9 => h9) rfl dX2_grow_1 ?_
  refine lv_aload_n hx hb dX2_grow_4 rfl (lv_at hl 0 rfl) ?_
  refine va_get (D := D) (ci := 2) (v := .int 0) (C := RX2) (T := TX2) (N := 16) hx hb hts iX2_grow_X2 hown hK hP 0 rfl rfl 9 (by decide) (hts (.fieldLink RX2 47 "PuppetBridge$Figure" "limbs" "I") mX2_grow_w1) (fun _ h9 => h9) rfl dX2_grow_5 ?_
  refine lv_iload_n hx hb dX2_grow_8 rfl (lv_at hl 1 rfl) ?_
  refine va_iast hx hb hK hP hD hS 1 0 rfl rfl (wk_in rfl) dX2_grow_9 (fun H locs hP hD hS => ?_)
  have hP : va_P D vwCl [(z4, .inr (2, [.ref z5, .ref z6, .ref z7, .ref z8, .ref z9, .ref z10, .ref z11, .ref z12, .ref z20, .int 0, .int 0, .int 0, .int 0, .int 0, .int 0, .int 0])), (z5, .inl (G.1, 8, .inl (upd (fun _ => 0) 0 0))), (z6, .inl (G.1, 8, .inl (fun _ => 0))), (z7, .inl (G.1, 8, .inl (fun _ => 0))), (z8, .inl (G.1, 8, .inl (fun _ => 0))), (z9, .inl (G.1, 8, .inl (fun _ => 0))), (z10, .inl (G.1, 9, .inl (fun _ => 0))), (z11, .inl (G.1, 9, .inl (fun _ => 0))), (z12, .inr (1, [.ref z13, .ref z14, .ref z15, .ref z16, .ref z17, .ref z18, .ref z19, .int 0]))] H := hP
  have hD : va_D A [(z4, .inr (2, [.ref z5, .ref z6, .ref z7, .ref z8, .ref z9, .ref z10, .ref z11, .ref z12, .ref z20, .int 0, .int 0, .int 0, .int 0, .int 0, .int 0, .int 0])), (z5, .inl (G.1, 8, .inl (upd (fun _ => 0) 0 0))), (z6, .inl (G.1, 8, .inl (fun _ => 0))), (z7, .inl (G.1, 8, .inl (fun _ => 0))), (z8, .inl (G.1, 8, .inl (fun _ => 0))), (z9, .inl (G.1, 8, .inl (fun _ => 0))), (z10, .inl (G.1, 9, .inl (fun _ => 0))), (z11, .inl (G.1, 9, .inl (fun _ => 0))), (z12, .inr (1, [.ref z13, .ref z14, .ref z15, .ref z16, .ref z17, .ref z18, .ref z19, .int 0]))] := hD
  refine lv_aload_n hx hb dX2_grow_10 rfl (lv_at hl 0 rfl) ?_
  refine va_get (D := D) (ci := 2) (v := .ref z6) (C := RX2) (T := TX2) (N := 16) hx hb hts iX2_grow_X2 hown hK hP 0 rfl rfl 1 (by decide) (hts (.fieldLink RX2 15 "PuppetBridge$Figure" "length" "[I") mX2_grow_w2) (fun _ h9 => h9) rfl dX2_grow_11 ?_
  refine lv_aload_n hx hb dX2_grow_14 rfl (lv_at hl 0 rfl) ?_
  refine va_get (D := D) (ci := 2) (v := .int 0) (C := RX2) (T := TX2) (N := 16) hx hb hts iX2_grow_X2 hown hK hP 0 rfl rfl 9 (by decide) (hts (.fieldLink RX2 47 "PuppetBridge$Figure" "limbs" "I") mX2_grow_w1) (fun _ h9 => h9) rfl dX2_grow_15 ?_
  refine lv_iload_n hx hb dX2_grow_18 rfl (lv_at hl 2 rfl) ?_
  refine va_iast hx hb hK hP hD hS 2 0 rfl rfl (wk_in rfl) dX2_grow_19 (fun H locs hP hD hS => ?_)
  have hP : va_P D vwCl [(z4, .inr (2, [.ref z5, .ref z6, .ref z7, .ref z8, .ref z9, .ref z10, .ref z11, .ref z12, .ref z20, .int 0, .int 0, .int 0, .int 0, .int 0, .int 0, .int 0])), (z5, .inl (G.1, 8, .inl (upd (fun _ => 0) 0 0))), (z6, .inl (G.1, 8, .inl (upd (fun _ => 0) 0 x1))), (z7, .inl (G.1, 8, .inl (fun _ => 0))), (z8, .inl (G.1, 8, .inl (fun _ => 0))), (z9, .inl (G.1, 8, .inl (fun _ => 0))), (z10, .inl (G.1, 9, .inl (fun _ => 0))), (z11, .inl (G.1, 9, .inl (fun _ => 0))), (z12, .inr (1, [.ref z13, .ref z14, .ref z15, .ref z16, .ref z17, .ref z18, .ref z19, .int 0]))] H := hP
  have hD : va_D A [(z4, .inr (2, [.ref z5, .ref z6, .ref z7, .ref z8, .ref z9, .ref z10, .ref z11, .ref z12, .ref z20, .int 0, .int 0, .int 0, .int 0, .int 0, .int 0, .int 0])), (z5, .inl (G.1, 8, .inl (upd (fun _ => 0) 0 0))), (z6, .inl (G.1, 8, .inl (upd (fun _ => 0) 0 x1))), (z7, .inl (G.1, 8, .inl (fun _ => 0))), (z8, .inl (G.1, 8, .inl (fun _ => 0))), (z9, .inl (G.1, 8, .inl (fun _ => 0))), (z10, .inl (G.1, 9, .inl (fun _ => 0))), (z11, .inl (G.1, 9, .inl (fun _ => 0))), (z12, .inr (1, [.ref z13, .ref z14, .ref z15, .ref z16, .ref z17, .ref z18, .ref z19, .int 0]))] := hD
  refine lv_aload_n hx hb dX2_grow_20 rfl (lv_at hl 0 rfl) ?_
  refine va_get (D := D) (ci := 2) (v := .ref z7) (C := RX2) (T := TX2) (N := 16) hx hb hts iX2_grow_X2 hown hK hP 0 rfl rfl 2 (by decide) (hts (.fieldLink RX2 18 "PuppetBridge$Figure" "rest" "[I") mX2_grow_w3) (fun _ h9 => h9) rfl dX2_grow_21 ?_
  refine lv_aload_n hx hb dX2_grow_24 rfl (lv_at hl 0 rfl) ?_
  refine va_get (D := D) (ci := 2) (v := .int 0) (C := RX2) (T := TX2) (N := 16) hx hb hts iX2_grow_X2 hown hK hP 0 rfl rfl 9 (by decide) (hts (.fieldLink RX2 47 "PuppetBridge$Figure" "limbs" "I") mX2_grow_w1) (fun _ h9 => h9) rfl dX2_grow_25 ?_
  refine lv_iload_n hx hb dX2_grow_28 rfl (lv_at hl 3 rfl) ?_
  refine va_iast hx hb hK hP hD hS 3 0 rfl rfl (wk_in rfl) dX2_grow_29 (fun H locs hP hD hS => ?_)
  have hP : va_P D vwCl [(z4, .inr (2, [.ref z5, .ref z6, .ref z7, .ref z8, .ref z9, .ref z10, .ref z11, .ref z12, .ref z20, .int 0, .int 0, .int 0, .int 0, .int 0, .int 0, .int 0])), (z5, .inl (G.1, 8, .inl (upd (fun _ => 0) 0 0))), (z6, .inl (G.1, 8, .inl (upd (fun _ => 0) 0 x1))), (z7, .inl (G.1, 8, .inl (upd (fun _ => 0) 0 x2))), (z8, .inl (G.1, 8, .inl (fun _ => 0))), (z9, .inl (G.1, 8, .inl (fun _ => 0))), (z10, .inl (G.1, 9, .inl (fun _ => 0))), (z11, .inl (G.1, 9, .inl (fun _ => 0))), (z12, .inr (1, [.ref z13, .ref z14, .ref z15, .ref z16, .ref z17, .ref z18, .ref z19, .int 0]))] H := hP
  have hD : va_D A [(z4, .inr (2, [.ref z5, .ref z6, .ref z7, .ref z8, .ref z9, .ref z10, .ref z11, .ref z12, .ref z20, .int 0, .int 0, .int 0, .int 0, .int 0, .int 0, .int 0])), (z5, .inl (G.1, 8, .inl (upd (fun _ => 0) 0 0))), (z6, .inl (G.1, 8, .inl (upd (fun _ => 0) 0 x1))), (z7, .inl (G.1, 8, .inl (upd (fun _ => 0) 0 x2))), (z8, .inl (G.1, 8, .inl (fun _ => 0))), (z9, .inl (G.1, 8, .inl (fun _ => 0))), (z10, .inl (G.1, 9, .inl (fun _ => 0))), (z11, .inl (G.1, 9, .inl (fun _ => 0))), (z12, .inr (1, [.ref z13, .ref z14, .ref z15, .ref z16, .ref z17, .ref z18, .ref z19, .int 0]))] := hD
  refine lv_aload_n hx hb dX2_grow_30 rfl (lv_at hl 0 rfl) ?_
  refine va_get (D := D) (ci := 2) (v := .ref z8) (C := RX2) (T := TX2) (N := 16) hx hb hts iX2_grow_X2 hown hK hP 0 rfl rfl 3 (by decide) (hts (.fieldLink RX2 21 "PuppetBridge$Figure" "most" "[I") mX2_grow_w4) (fun _ h9 => h9) rfl dX2_grow_31 ?_
  refine lv_aload_n hx hb dX2_grow_34 rfl (lv_at hl 0 rfl) ?_
  refine va_get (D := D) (ci := 2) (v := .int 0) (C := RX2) (T := TX2) (N := 16) hx hb hts iX2_grow_X2 hown hK hP 0 rfl rfl 9 (by decide) (hts (.fieldLink RX2 47 "PuppetBridge$Figure" "limbs" "I") mX2_grow_w1) (fun _ h9 => h9) rfl dX2_grow_35 ?_
  refine lv_iload hx hb dX2_grow_38 (lv_at hl 4 rfl) ?_
  refine va_iast hx hb hK hP hD hS 4 0 rfl rfl (wk_in rfl) dX2_grow_40 (fun H locs hP hD hS => ?_)
  have hP : va_P D vwCl [(z4, .inr (2, [.ref z5, .ref z6, .ref z7, .ref z8, .ref z9, .ref z10, .ref z11, .ref z12, .ref z20, .int 0, .int 0, .int 0, .int 0, .int 0, .int 0, .int 0])), (z5, .inl (G.1, 8, .inl (upd (fun _ => 0) 0 0))), (z6, .inl (G.1, 8, .inl (upd (fun _ => 0) 0 x1))), (z7, .inl (G.1, 8, .inl (upd (fun _ => 0) 0 x2))), (z8, .inl (G.1, 8, .inl (upd (fun _ => 0) 0 x3))), (z9, .inl (G.1, 8, .inl (fun _ => 0))), (z10, .inl (G.1, 9, .inl (fun _ => 0))), (z11, .inl (G.1, 9, .inl (fun _ => 0))), (z12, .inr (1, [.ref z13, .ref z14, .ref z15, .ref z16, .ref z17, .ref z18, .ref z19, .int 0]))] H := hP
  have hD : va_D A [(z4, .inr (2, [.ref z5, .ref z6, .ref z7, .ref z8, .ref z9, .ref z10, .ref z11, .ref z12, .ref z20, .int 0, .int 0, .int 0, .int 0, .int 0, .int 0, .int 0])), (z5, .inl (G.1, 8, .inl (upd (fun _ => 0) 0 0))), (z6, .inl (G.1, 8, .inl (upd (fun _ => 0) 0 x1))), (z7, .inl (G.1, 8, .inl (upd (fun _ => 0) 0 x2))), (z8, .inl (G.1, 8, .inl (upd (fun _ => 0) 0 x3))), (z9, .inl (G.1, 8, .inl (fun _ => 0))), (z10, .inl (G.1, 9, .inl (fun _ => 0))), (z11, .inl (G.1, 9, .inl (fun _ => 0))), (z12, .inr (1, [.ref z13, .ref z14, .ref z15, .ref z16, .ref z17, .ref z18, .ref z19, .int 0]))] := hD
  refine lv_aload_n hx hb dX2_grow_41 rfl (lv_at hl 0 rfl) ?_
  refine lv_dup hx hb dX2_grow_42 rfl ?_
  refine va_get (D := D) (ci := 2) (v := .int 0) (C := RX2) (T := TX2) (N := 16) hx hb hts iX2_grow_X2 hown hK hP 0 rfl rfl 9 (by decide) (hts (.fieldLink RX2 47 "PuppetBridge$Figure" "limbs" "I") mX2_grow_w1) (fun _ h9 => h9) rfl dX2_grow_43 ?_
  refine lv_iconst (v := 1) hx hb dX2_grow_46 (by decide) ?_
  refine lv_iadd hx hb dX2_grow_47 ?_
  refine wk_i 1 (by decide) ?_
  refine va_put (D := D) (ci := 2) (v := .int 1) (ty := (tyX2 9)) (C := RX2) (T := TX2) (N := 16) hx hb hts iX2_grow_X2 tyX2 tyX2_ok nmX2 hown hK hP hD hS 0 rfl rfl 9 (by decide) (hts (.fieldLink RX2 47 "PuppetBridge$Figure" "limbs" "I") mX2_grow_w1) (fun _ h9 => h9) rfl (tyX2_ok 9 (by decide)) rfl rfl (Nat.le_of_ble_eq_true rfl) dX2_grow_48 (fun H locs hP hD hS => ?_)
  have hP : va_P D vwCl [(z4, .inr (2, [.ref z5, .ref z6, .ref z7, .ref z8, .ref z9, .ref z10, .ref z11, .ref z12, .ref z20, .int 1, .int 0, .int 0, .int 0, .int 0, .int 0, .int 0])), (z5, .inl (G.1, 8, .inl (upd (fun _ => 0) 0 0))), (z6, .inl (G.1, 8, .inl (upd (fun _ => 0) 0 x1))), (z7, .inl (G.1, 8, .inl (upd (fun _ => 0) 0 x2))), (z8, .inl (G.1, 8, .inl (upd (fun _ => 0) 0 x3))), (z9, .inl (G.1, 8, .inl (fun _ => 0))), (z10, .inl (G.1, 9, .inl (fun _ => 0))), (z11, .inl (G.1, 9, .inl (fun _ => 0))), (z12, .inr (1, [.ref z13, .ref z14, .ref z15, .ref z16, .ref z17, .ref z18, .ref z19, .int 0]))] H := hP
  have hD : va_D A [(z4, .inr (2, [.ref z5, .ref z6, .ref z7, .ref z8, .ref z9, .ref z10, .ref z11, .ref z12, .ref z20, .int 1, .int 0, .int 0, .int 0, .int 0, .int 0, .int 0])), (z5, .inl (G.1, 8, .inl (upd (fun _ => 0) 0 0))), (z6, .inl (G.1, 8, .inl (upd (fun _ => 0) 0 x1))), (z7, .inl (G.1, 8, .inl (upd (fun _ => 0) 0 x2))), (z8, .inl (G.1, 8, .inl (upd (fun _ => 0) 0 x3))), (z9, .inl (G.1, 8, .inl (fun _ => 0))), (z10, .inl (G.1, 9, .inl (fun _ => 0))), (z11, .inl (G.1, 9, .inl (fun _ => 0))), (z12, .inr (1, [.ref z13, .ref z14, .ref z15, .ref z16, .ref z17, .ref z18, .ref z19, .int 0]))] := hD
  refine lv_aload_n hx hb dX2_grow_51 rfl (lv_at hl 0 rfl) ?_
  have hPc := hP.sub (ws' := [(z4, .inr (2, [.ref z5, .ref z6, .ref z7, .ref z8, .ref z9, .ref z10, .ref z11, .ref z12, .ref z20, .int 1, .int 0, .int 0, .int 0, .int 0, .int 0, .int 0])), (z5, .inl (G.1, 8, .inl (upd (fun _ => 0) 0 0))), (z6, .inl (G.1, 8, .inl (upd (fun _ => 0) 0 x1))), (z7, .inl (G.1, 8, .inl (upd (fun _ => 0) 0 x2))), (z8, .inl (G.1, 8, .inl (upd (fun _ => 0) 0 x3))), (z9, .inl (G.1, 8, .inl (fun _ => 0))), (z10, .inl (G.1, 9, .inl (fun _ => 0))), (z11, .inl (G.1, 9, .inl (fun _ => 0))), (z12, .inr (1, [.ref z13, .ref z14, .ref z15, .ref z16, .ref z17, .ref z18, .ref z19, .int 0]))]) [0, 1, 2, 3, 4, 5, 6, 7, 8] rfl
  have hDc := hD.sub (ws' := [(z4, .inr (2, [.ref z5, .ref z6, .ref z7, .ref z8, .ref z9, .ref z10, .ref z11, .ref z12, .ref z20, .int 1, .int 0, .int 0, .int 0, .int 0, .int 0, .int 0])), (z5, .inl (G.1, 8, .inl (upd (fun _ => 0) 0 0))), (z6, .inl (G.1, 8, .inl (upd (fun _ => 0) 0 x1))), (z7, .inl (G.1, 8, .inl (upd (fun _ => 0) 0 x2))), (z8, .inl (G.1, 8, .inl (upd (fun _ => 0) 0 x3))), (z9, .inl (G.1, 8, .inl (fun _ => 0))), (z10, .inl (G.1, 9, .inl (fun _ => 0))), (z11, .inl (G.1, 9, .inl (fun _ => 0))), (z12, .inr (1, [.ref z13, .ref z14, .ref z15, .ref z16, .ref z17, .ref z18, .ref z19, .int 0]))]) [0, 1, 2, 3, 4, 5, 6, 7, 8] (by decide) rfl
  have hFc := va_free (wc := [(z4, .inr (2, [.ref z5, .ref z6, .ref z7, .ref z8, .ref z9, .ref z10, .ref z11, .ref z12, .ref z20, .int 1, .int 0, .int 0, .int 0, .int 0, .int 0, .int 0])), (z5, .inl (G.1, 8, .inl (upd (fun _ => 0) 0 0))), (z6, .inl (G.1, 8, .inl (upd (fun _ => 0) 0 x1))), (z7, .inl (G.1, 8, .inl (upd (fun _ => 0) 0 x2))), (z8, .inl (G.1, 8, .inl (upd (fun _ => 0) 0 x3))), (z9, .inl (G.1, 8, .inl (fun _ => 0))), (z10, .inl (G.1, 9, .inl (fun _ => 0))), (z11, .inl (G.1, 9, .inl (fun _ => 0))), (z12, .inr (1, [.ref z13, .ref z14, .ref z15, .ref z16, .ref z17, .ref z18, .ref z19, .int 0]))]) hD hS hA [0, 1, 2, 3, 4, 5, 6, 7, 8] rfl
  refine va_callv (va_runV (As := []) (rest := []) ⟨hx, hb, hml, hown, hts⟩ (kX2_bend l D G z4 z5 z6 z7 z8 z9 z10 z11 z12 z20 z13 z14 z15 z16 z17 z18 z19 (upd (fun _ => 0) 0 x1) (upd (fun _ => 0) 0 x2) (upd (fun _ => 0) 0 x3) (fun _ => 0) (fun _ => 0) (fun _ => 0) tx ty gx gy H.size) (cwV 0 hts gX2_grow_X2_bend rfl rfl rfl (by decide +kernel) ⟨Nat.le_of_ble_eq_true rfl, Nat.le_of_ble_eq_true rfl⟩) ⟨wBZ_blind, va_recv hK hPc (ci := 2) (q0 := 0) rfl rfl, wBZ_pre hPc hK hDc hN hZ hS hFc⟩ rfl rfl hl.1 rfl (lv_room (Nat.le_of_ble_eq_true rfl)) dX2_grow_52 ⟨Nat.le_of_ble_eq_true rfl, Nat.le_of_ble_eq_true rfl⟩) hS (fun q _ h => hFc q h) hFc (fun u t H1 locs ht hvm hr1 hB hz1 hk1 hS => ?_)
  obtain ⟨f2, hP1, hK1, hD1⟩ := hB
  rw [ht] at hP1
  obtain ⟨hP, hD⟩ := va_join (wr := []) (w1 := [(z11, .inl (G.1, 9, .inl f2)), (z4, .inr (2, [.ref z5, .ref z6, .ref z7, .ref z8, .ref z9, .ref z10, .ref z11, .ref z12, .ref z20, .int 1, .int 0, .int 0, .int 0, .int 0, .int 0, .int 0]))]) hP hD [0, 1, 2, 3, 4, 5, 6, 7, 8] [] rfl rfl (by decide) (by decide) hk1 hFc hP1 hD1
  clear hPc hDc
  generalize H1 = H at hP hS ⊢
  have hP : va_P D vwCl [(z11, .inl (G.1, 9, .inl f2)), (z4, .inr (2, [.ref z5, .ref z6, .ref z7, .ref z8, .ref z9, .ref z10, .ref z11, .ref z12, .ref z20, .int 1, .int 0, .int 0, .int 0, .int 0, .int 0, .int 0]))] H := hP
  have hD : va_D A [(z11, .inl (G.1, 9, .inl f2)), (z4, .inr (2, [.ref z5, .ref z6, .ref z7, .ref z8, .ref z9, .ref z10, .ref z11, .ref z12, .ref z20, .int 1, .int 0, .int 0, .int 0, .int 0, .int 0, .int 0]))] := hD
  refine lv_aload_n hx hb dX2_grow_55 rfl (lv_at hl 0 rfl) ?_
  have hPc := hP.sub (ws' := [(z4, .inr (2, [.ref z5, .ref z6, .ref z7, .ref z8, .ref z9, .ref z10, .ref z11, .ref z12, .ref z20, .int 1, .int 0, .int 0, .int 0, .int 0, .int 0, .int 0])), (z11, .inl (G.1, 9, .inl f2))]) [1, 0] rfl
  have hDc := hD.sub (ws' := [(z4, .inr (2, [.ref z5, .ref z6, .ref z7, .ref z8, .ref z9, .ref z10, .ref z11, .ref z12, .ref z20, .int 1, .int 0, .int 0, .int 0, .int 0, .int 0, .int 0])), (z11, .inl (G.1, 9, .inl f2))]) [1, 0] (by decide) rfl
  have hFc := va_free (wc := [(z4, .inr (2, [.ref z5, .ref z6, .ref z7, .ref z8, .ref z9, .ref z10, .ref z11, .ref z12, .ref z20, .int 1, .int 0, .int 0, .int 0, .int 0, .int 0, .int 0])), (z11, .inl (G.1, 9, .inl f2))]) hD hS hA [1, 0] rfl
  refine va_callv (va_runV (As := []) (rest := []) ⟨hx, hb, hml, hown, hts⟩ (kX2_stand l D G z4 z5 z6 z7 z8 z9 z10 z11 z12 z20 f2 H.size) (cwV 0 hts gX2_grow_X2_stand rfl rfl rfl (by decide +kernel) ⟨Nat.le_of_ble_eq_true rfl, Nat.le_of_ble_eq_true rfl⟩) ⟨wB_blind, va_recv hK hPc (ci := 2) (q0 := 0) rfl rfl, wB_pre hPc hK hDc hN⟩ rfl rfl hl.1 rfl (lv_room (Nat.le_of_ble_eq_true rfl)) dX2_grow_56 ⟨Nat.le_of_ble_eq_true rfl, Nat.le_of_ble_eq_true rfl⟩) hS (fun q _ h => hFc q h) hFc (fun u t H1 locs ht hvm hr3 hB hz1 hk1 hS => ?_)
  obtain ⟨f4, f5, hP1, hK1, hD1⟩ := hB
  rw [ht] at hP1
  obtain ⟨hP, hD⟩ := va_join (wr := []) (w1 := [(z4, .inr (2, [.ref z5, .ref z6, .ref z7, .ref z8, .ref z9, .ref z10, .ref z11, .ref z12, .ref z20, .int 1, .int 0, .int 0, .int 0, .int 0, .int f4, .int f5]))]) hP hD [1, 0] [] rfl rfl (by decide) (by decide) hk1 hFc hP1 hD1
  clear hPc hDc
  generalize H1 = H at hP hS ⊢
  have hP : va_P D vwCl [(z4, .inr (2, [.ref z5, .ref z6, .ref z7, .ref z8, .ref z9, .ref z10, .ref z11, .ref z12, .ref z20, .int 1, .int 0, .int 0, .int 0, .int 0, .int f4, .int f5]))] H := hP
  have hD : va_D A [(z4, .inr (2, [.ref z5, .ref z6, .ref z7, .ref z8, .ref z9, .ref z10, .ref z11, .ref z12, .ref z20, .int 1, .int 0, .int 0, .int 0, .int 0, .int f4, .int f5]))] := hD
  refine lv_aload_n hx hb dX2_grow_59 rfl (lv_at hl 0 rfl) ?_
  refine va_get (D := D) (ci := 2) (v := .int 1) (C := RX2) (T := TX2) (N := 16) hx hb hts iX2_grow_X2 hown hK hP 0 rfl rfl 9 (by decide) (hts (.fieldLink RX2 47 "PuppetBridge$Figure" "limbs" "I") mX2_grow_w1) (fun _ h9 => h9) rfl dX2_grow_60 ?_
  refine lv_iconst (v := 1) hx hb dX2_grow_63 (by decide) ?_
  refine lv_isub hx hb dX2_grow_64 ?_
  refine wk_i 0 (by decide) ?_
  exact W.iret (v := 0) hx hb hr (fun t ht hW => ⟨⟨0, (), rfl, trivial, trivial⟩, hS.F ht⟩) hS.2.2 dX2_grow_65

theorem mX11_figure_w0 : Cond.fieldLink RX11 10 "PuppetBridge" "stage" "LPuppetBridge$Stage;" ∈ wsX11_figure := by decide +kernel
theorem mX11_figure_w1 : Cond.fieldLink RX11 69 "PuppetBridge$Stage" "count" "I" ∈ wsX11_figure := by decide +kernel
theorem mX11_figure_w2 : Cond.fieldLink RX11 73 "PuppetBridge$Stage" "figures" "[LPuppetBridge$Figure;" ∈ wsX11_figure := by decide +kernel
theorem iX11_figure_X11 : ∀ w ∈ wsX110, w ∈ wsX11_figure := fun _ h => List.mem_cons_of_mem _ (List.mem_append_left _ (List.mem_append_left _ (List.mem_append_left _ (List.mem_append_right _ h))))
theorem iX11_figure_X8 : ∀ w ∈ wsX80, w ∈ wsX11_figure := fun _ h => List.mem_cons_of_mem _ (List.mem_append_left _ (List.mem_append_left _ (List.mem_append_right _ h)))
set_option maxRecDepth 20000 in
theorem ggX11_figure_X11_isLimbShape : GoodIn wsX11_figure wsX11_isLimbShape := goodIn_r _ [7, 8, 9, 6, 10] (by decide +kernel) (by decide +kernel)
set_option maxRecDepth 20000 in
theorem gX11_figure_X11_isLimbShape : GoodIn wsX11_figure (va_wsS RX11 65 yX11_isLimbShape wsX11_isLimbShape) := goodIn_app (goodIn_of _ (by decide +kernel)) ggX11_figure_X11_isLimbShape
set_option maxRecDepth 20000 in
theorem ggX11_figure_X2_grow : GoodIn wsX11_figure wsX2_grow := goodIn_r _ [15, 16, 17, 18, 19, 20, 21, 22, 23, 14, 24, 25, 26, 27, 28, 29, 30, 31, 32, 33, 34, 35, 36, 37, 38, 39, 40, 41, 42, 43, 44, 45, 46, 47, 48, 49, 50, 51, 52, 53, 54, 55, 74, 75, 76, 77, 78, 79, 80, 81, 82, 83, 84, 85, 86, 87, 88, 89, 90, 91, 92, 93, 94, 95, 96, 97] (by decide +kernel) (by decide +kernel)
set_option maxRecDepth 20000 in
theorem gX11_figure_X2_grow : GoodIn wsX11_figure (wsV RX11 77 RX2 yX2_grow wsX2_grow) := goodIn_app (goodIn_of _ (by decide +kernel)) ggX11_figure_X2_grow
theorem dX11_figure_0 : decode cX11_figure 0 = .ok (.iload_n 1, 1) := by decide +kernel
theorem dX11_figure_1 : decode cX11_figure 1 = .ok (.iload_n 2, 1) := by decide +kernel
theorem dX11_figure_2 : decode cX11_figure 2 = .ok (.iload_n 3, 1) := by decide +kernel
theorem dX11_figure_3 : decode cX11_figure 3 = .ok (.invokestatic 65, 3) := by decide +kernel
theorem dX11_figure_6 : decode cX11_figure 6 = .ok (.ifCond .eq 14, 3) := by decide +kernel
theorem dX11_figure_9 : decode cX11_figure 9 = .ok (.aload_n 0, 1) := by decide +kernel
theorem dX11_figure_10 : decode cX11_figure 10 = .ok (.getfield 10, 3) := by decide +kernel
theorem dX11_figure_13 : decode cX11_figure 13 = .ok (.getfield 69, 3) := by decide +kernel
theorem dX11_figure_16 : decode cX11_figure 16 = .ok (.iconst 4, 1) := by decide +kernel
theorem dX11_figure_17 : decode cX11_figure 17 = .ok (.if_icmp .lt 5, 3) := by decide +kernel
theorem dX11_figure_20 : decode cX11_figure 20 = .ok (.iconst (-1), 1) := by decide +kernel
theorem dX11_figure_21 : decode cX11_figure 21 = .ok (.ireturn, 1) := by decide +kernel
theorem dX11_figure_22 : decode cX11_figure 22 = .ok (.aload_n 0, 1) := by decide +kernel
theorem dX11_figure_23 : decode cX11_figure 23 = .ok (.getfield 10, 3) := by decide +kernel
theorem dX11_figure_26 : decode cX11_figure 26 = .ok (.getfield 73, 3) := by decide +kernel
theorem dX11_figure_29 : decode cX11_figure 29 = .ok (.aload_n 0, 1) := by decide +kernel
theorem dX11_figure_30 : decode cX11_figure 30 = .ok (.getfield 10, 3) := by decide +kernel
theorem dX11_figure_33 : decode cX11_figure 33 = .ok (.getfield 69, 3) := by decide +kernel
theorem dX11_figure_36 : decode cX11_figure 36 = .ok (.aaload, 1) := by decide +kernel
theorem dX11_figure_37 : decode cX11_figure 37 = .ok (.iconst 0, 1) := by decide +kernel
theorem dX11_figure_38 : decode cX11_figure 38 = .ok (.iload_n 1, 1) := by decide +kernel
theorem dX11_figure_39 : decode cX11_figure 39 = .ok (.iload_n 2, 1) := by decide +kernel
theorem dX11_figure_40 : decode cX11_figure 40 = .ok (.iload_n 3, 1) := by decide +kernel
theorem dX11_figure_41 : decode cX11_figure 41 = .ok (.invokevirtual 77, 3) := by decide +kernel
theorem dX11_figure_44 : decode cX11_figure 44 = .ok (.pop, 1) := by decide +kernel
theorem dX11_figure_45 : decode cX11_figure 45 = .ok (.aload_n 0, 1) := by decide +kernel
theorem dX11_figure_46 : decode cX11_figure 46 = .ok (.getfield 10, 3) := by decide +kernel
theorem dX11_figure_49 : decode cX11_figure 49 = .ok (.dup, 1) := by decide +kernel
theorem dX11_figure_50 : decode cX11_figure 50 = .ok (.getfield 69, 3) := by decide +kernel
theorem dX11_figure_53 : decode cX11_figure 53 = .ok (.iconst 1, 1) := by decide +kernel
theorem dX11_figure_54 : decode cX11_figure 54 = .ok (.iadd, 1) := by decide +kernel
theorem dX11_figure_55 : decode cX11_figure 55 = .ok (.putfield 69, 3) := by decide +kernel
theorem dX11_figure_58 : decode cX11_figure 58 = .ok (.aload_n 0, 1) := by decide +kernel
theorem dX11_figure_59 : decode cX11_figure 59 = .ok (.getfield 10, 3) := by decide +kernel
theorem dX11_figure_62 : decode cX11_figure 62 = .ok (.getfield 69, 3) := by decide +kernel
theorem dX11_figure_65 : decode cX11_figure 65 = .ok (.iconst 1, 1) := by decide +kernel
theorem dX11_figure_66 : decode cX11_figure 66 = .ok (.isub, 1) := by decide +kernel
theorem dX11_figure_67 : decode cX11_figure 67 = .ok (.ireturn, 1) := by decide +kernel
set_option maxHeartbeats 4000000 in
set_option maxRecDepth 100000 in
/-- X11_figure -/
theorem kX11_figure (l : Launch) (D : va_G) (G : tyG) (h0 : Nat) (x1 : Int32) (x2 : Int32) (x3 : Int32) (z0 : Nat) (z23 : Nat) (z25 : Nat) (z32 : Nat) (z36 : Nat) (z40 : Nat) (z43 : Nat) (z49 : Nat) (z1 : Nat) (z51 : Nat) (z52 : Nat) (z2 : Nat) (z3 : Nat) (z4 : Nat) (z53 : Nat) (z54 : Nat) (z55 : Nat) (z5 : Nat) (z6 : Nat) (z7 : Nat) (z8 : Nat) (z9 : Nat) (z10 : Nat) (z11 : Nat) (z12 : Nat) (z20 : Nat) (z13 : Nat) (z14 : Nat) (z15 : Nat) (z16 : Nat) (z17 : Nat) (z18 : Nat) (z19 : Nat) (tx : Nat) (ty : Nat) (gx : Nat → Int32) (gy : Nat → Int32) (sz : Nat) : Met l yX11_figure wsX11_figure ({ frames := 4, cells := 0, slots := 0, locals := 100 }) (va_Pc [.ref h0, .int x1, .int x2, .int x3] (fun U => wB D G sz [(h0, .inr (11, [.ref z0, .ref z23, .ref z25, .ref z32, .ref z36, .ref z40, .ref z43, .ref z49])), (z0, .inr (8, [.ref z1, .ref z51, .ref z52, .ref z2, .ref z3, .int 0, .int 0, .int 9, .int 0, .int 0])), (z1, .inl (G.2.2.2.2, 4, .inr (.inr (.inr (.inr (va_up (va_up (va_up (va_up (fun _ => none) 0 (some z4)) 1 (some z53)) 2 (some z54)) 3 (some z55))))))), (z4, .inr (2, [.ref z5, .ref z6, .ref z7, .ref z8, .ref z9, .ref z10, .ref z11, .ref z12, .ref z20, .int 0, .int 0, .int 0, .int 0, .int 0, .int 0, .int 0])), (z5, .inl (G.1, 8, .inl (fun _ => 0))), (z6, .inl (G.1, 8, .inl (fun _ => 0))), (z7, .inl (G.1, 8, .inl (fun _ => 0))), (z8, .inl (G.1, 8, .inl (fun _ => 0))), (z9, .inl (G.1, 8, .inl (fun _ => 0))), (z10, .inl (G.1, 9, .inl (fun _ => 0))), (z11, .inl (G.1, 9, .inl (fun _ => 0))), (z12, .inr (1, [.ref z13, .ref z14, .ref z15, .ref z16, .ref z17, .ref z18, .ref z19, .int 0]))] U ∧ wZ (va_A [(h0, .inr (11, [.ref z0, .ref z23, .ref z25, .ref z32, .ref z36, .ref z40, .ref z43, .ref z49])), (z0, .inr (8, [.ref z1, .ref z51, .ref z52, .ref z2, .ref z3, .int 0, .int 0, .int 9, .int 0, .int 0])), (z1, .inl (G.2.2.2.2, 4, .inr (.inr (.inr (.inr (va_up (va_up (va_up (va_up (fun _ => none) 0 (some z4)) 1 (some z53)) 2 (some z54)) 3 (some z55))))))), (z4, .inr (2, [.ref z5, .ref z6, .ref z7, .ref z8, .ref z9, .ref z10, .ref z11, .ref z12, .ref z20, .int 0, .int 0, .int 0, .int 0, .int 0, .int 0, .int 0])), (z5, .inl (G.1, 8, .inl (fun _ => 0))), (z6, .inl (G.1, 8, .inl (fun _ => 0))), (z7, .inl (G.1, 8, .inl (fun _ => 0))), (z8, .inl (G.1, 8, .inl (fun _ => 0))), (z9, .inl (G.1, 8, .inl (fun _ => 0))), (z10, .inl (G.1, 9, .inl (fun _ => 0))), (z11, .inl (G.1, 9, .inl (fun _ => 0))), (z12, .inr (1, [.ref z13, .ref z14, .ref z15, .ref z16, .ref z17, .ref z18, .ref z19, .int 0]))] sz) tx ty gx gy U)) (va_Qi (fun (r : Int32) (_ : Unit) => r = (if (inB x1 1 20 && (inB x2 0 15 && inB x3 0 8)) = true then 0 else -1)) (fun _ _ => True) (va_A [(h0, .inr (11, [.ref z0, .ref z23, .ref z25, .ref z32, .ref z36, .ref z40, .ref z43, .ref z49])), (z0, .inr (8, [.ref z1, .ref z51, .ref z52, .ref z2, .ref z3, .int 0, .int 0, .int 9, .int 0, .int 0])), (z1, .inl (G.2.2.2.2, 4, .inr (.inr (.inr (.inr (va_up (va_up (va_up (va_up (fun _ => none) 0 (some z4)) 1 (some z53)) 2 (some z54)) 3 (some z55))))))), (z4, .inr (2, [.ref z5, .ref z6, .ref z7, .ref z8, .ref z9, .ref z10, .ref z11, .ref z12, .ref z20, .int 0, .int 0, .int 0, .int 0, .int 0, .int 0, .int 0])), (z5, .inl (G.1, 8, .inl (fun _ => 0))), (z6, .inl (G.1, 8, .inl (fun _ => 0))), (z7, .inl (G.1, 8, .inl (fun _ => 0))), (z8, .inl (G.1, 8, .inl (fun _ => 0))), (z9, .inl (G.1, 8, .inl (fun _ => 0))), (z10, .inl (G.1, 9, .inl (fun _ => 0))), (z11, .inl (G.1, 9, .inl (fun _ => 0))), (z12, .inr (1, [.ref z13, .ref z14, .ref z15, .ref z16, .ref z17, .ref z18, .ref z19, .int 0]))] sz)) 0 0 (va_A [(h0, .inr (11, [.ref z0, .ref z23, .ref z25, .ref z32, .ref z36, .ref z40, .ref z43, .ref z49])), (z0, .inr (8, [.ref z1, .ref z51, .ref z52, .ref z2, .ref z3, .int 0, .int 0, .int 9, .int 0, .int 0])), (z1, .inl (G.2.2.2.2, 4, .inr (.inr (.inr (.inr (va_up (va_up (va_up (va_up (fun _ => none) 0 (some z4)) 1 (some z53)) 2 (some z54)) 3 (some z55))))))), (z4, .inr (2, [.ref z5, .ref z6, .ref z7, .ref z8, .ref z9, .ref z10, .ref z11, .ref z12, .ref z20, .int 0, .int 0, .int 0, .int 0, .int 0, .int 0, .int 0])), (z5, .inl (G.1, 8, .inl (fun _ => 0))), (z6, .inl (G.1, 8, .inl (fun _ => 0))), (z7, .inl (G.1, 8, .inl (fun _ => 0))), (z8, .inl (G.1, 8, .inl (fun _ => 0))), (z9, .inl (G.1, 8, .inl (fun _ => 0))), (z10, .inl (G.1, 9, .inl (fun _ => 0))), (z11, .inl (G.1, 9, .inl (fun _ => 0))), (z12, .inr (1, [.ref z13, .ref z14, .ref z15, .ref z16, .ref z17, .ref z18, .ref z19, .int 0]))] sz) := by
  refine Met.ofW (cc := cX11_figure) (maxL := 4) (ret := (some .int)) (by decide) rfl ?_
  intro p e s m args below meth c s₁ B hml hv
  obtain ⟨rfl, ⟨hsz, hP, hK, hD0, hN⟩, hZ⟩ := hv
  have hx := B.exec
  have hb := B.bytes
  have hr := B.returns
  have hts := atoms_spec (ws := wsX11_figure) B.pre
  have hown : s.vm.findClass RX11 = some m.cls := findClass_of_methodNamed B.named
  have hlocks := B.notSynchronized
  subst hsz
  have hD := hD0.self (sz := s.heap.size)
  generalize hAe : va_A [(h0, .inr (11, [.ref z0, .ref z23, .ref z25, .ref z32, .ref z36, .ref z40, .ref z43, .ref z49])), (z0, .inr (8, [.ref z1, .ref z51, .ref z52, .ref z2, .ref z3, .int 0, .int 0, .int 9, .int 0, .int 0])), (z1, .inl (G.2.2.2.2, 4, .inr (.inr (.inr (.inr (va_up (va_up (va_up (va_up (fun _ => none) 0 (some z4)) 1 (some z53)) 2 (some z54)) 3 (some z55))))))), (z4, .inr (2, [.ref z5, .ref z6, .ref z7, .ref z8, .ref z9, .ref z10, .ref z11, .ref z12, .ref z20, .int 0, .int 0, .int 0, .int 0, .int 0, .int 0, .int 0])), (z5, .inl (G.1, 8, .inl (fun _ => 0))), (z6, .inl (G.1, 8, .inl (fun _ => 0))), (z7, .inl (G.1, 8, .inl (fun _ => 0))), (z8, .inl (G.1, 8, .inl (fun _ => 0))), (z9, .inl (G.1, 8, .inl (fun _ => 0))), (z10, .inl (G.1, 9, .inl (fun _ => 0))), (z11, .inl (G.1, 9, .inl (fun _ => 0))), (z12, .inr (1, [.ref z13, .ref z14, .ref z15, .ref z16, .ref z17, .ref z18, .ref z19, .int 0]))] s.heap.size = A at hD hZ ⊢
  have hA : ∀ q : Nat, s.heap.size ≤ q → A q := fun q h => by rw [← hAe]; exact Or.inr h
  have hS : va_S A s.heap s.heap [] := va_S.rf
  have hP : va_P D vwCl [(h0, .inr (11, [.ref z0, .ref z23, .ref z25, .ref z32, .ref z36, .ref z40, .ref z43, .ref z49])), (z0, .inr (8, [.ref z1, .ref z51, .ref z52, .ref z2, .ref z3, .int 0, .int 0, .int 9, .int 0, .int 0])), (z1, .inl (G.2.2.2.2, 4, .inr (.inr (.inr (.inr (va_up (va_up (va_up (va_up (fun _ => none) 0 (some z4)) 1 (some z53)) 2 (some z54)) 3 (some z55))))))), (z4, .inr (2, [.ref z5, .ref z6, .ref z7, .ref z8, .ref z9, .ref z10, .ref z11, .ref z12, .ref z20, .int 0, .int 0, .int 0, .int 0, .int 0, .int 0, .int 0])), (z5, .inl (G.1, 8, .inl (fun _ => 0))), (z6, .inl (G.1, 8, .inl (fun _ => 0))), (z7, .inl (G.1, 8, .inl (fun _ => 0))), (z8, .inl (G.1, 8, .inl (fun _ => 0))), (z9, .inl (G.1, 8, .inl (fun _ => 0))), (z10, .inl (G.1, 9, .inl (fun _ => 0))), (z11, .inl (G.1, 9, .inl (fun _ => 0))), (z12, .inr (1, [.ref z13, .ref z14, .ref z15, .ref z16, .ref z17, .ref z18, .ref z19, .int 0]))] s.heap := hP
  have hl := lv_entry ([.ref h0, .int x1, .int x2, .int x3]) (n := 4) (Nat.le_of_ble_eq_true rfl)
  rw [lg_entry_eq]
  generalize (lg_sl ([.ref h0, .int x1, .int x2, .int x3]) ++ List.replicate (4 - (lg_sl ([.ref h0, .int x1, .int x2, .int x3])).length) Slot.unset).toArray = ls at hl ⊢
  have hl : lv_has ls 4 [(0, .ref h0), (1, .int x1), (2, .int x2), (3, .int x3)] := hl
  refine lv_iload_n hx hb dX11_figure_0 rfl (lv_at hl 1 rfl) ?_
  refine lv_iload_n hx hb dX11_figure_1 rfl (lv_at hl 2 rfl) ?_
  refine lv_iload_n hx hb dX11_figure_2 rfl (lv_at hl 3 rfl) ?_
  have hPc := hP.sub (ws' := []) [] rfl
  have hDc := hD.sub (ws' := []) [] (by decide) rfl
  have hFc := va_free (wc := []) hD hS hA [] rfl
  refine va_calli (va_runS (As := [.int x1, .int x2, .int x3]) (rest := []) ⟨hx, hb, hml, hown, hts⟩ (kX11_isLimbShape l D G x1 x2 x3 s.heap.size) (va_cwS 3 hts gX11_figure_X11_isLimbShape rfl rfl rfl (by decide +kernel) ⟨Nat.le_of_ble_eq_true rfl, Nat.le_of_ble_eq_true rfl⟩) ⟨wB_blind, wB_pre hPc hK hDc hN⟩ rfl rfl hl.1 rfl (lv_room (Nat.le_of_ble_eq_true rfl)) dX11_figure_3 ⟨Nat.le_of_ble_eq_true rfl, Nat.le_of_ble_eq_true rfl⟩) hS (fun q _ h => hFc q h) hFc (fun r1 u t H1 locs ht hvm hr1 hB hz1 hk1 hS => ?_)
  obtain ⟨hP, hD⟩ := va_join (wr := [(h0, .inr (11, [.ref z0, .ref z23, .ref z25, .ref z32, .ref z36, .ref z40, .ref z43, .ref z49])), (z0, .inr (8, [.ref z1, .ref z51, .ref z52, .ref z2, .ref z3, .int 0, .int 0, .int 9, .int 0, .int 0])), (z1, .inl (G.2.2.2.2, 4, .inr (.inr (.inr (.inr (va_up (va_up (va_up (va_up (fun _ => none) 0 (some z4)) 1 (some z53)) 2 (some z54)) 3 (some z55))))))), (z4, .inr (2, [.ref z5, .ref z6, .ref z7, .ref z8, .ref z9, .ref z10, .ref z11, .ref z12, .ref z20, .int 0, .int 0, .int 0, .int 0, .int 0, .int 0, .int 0])), (z5, .inl (G.1, 8, .inl (fun _ => 0))), (z6, .inl (G.1, 8, .inl (fun _ => 0))), (z7, .inl (G.1, 8, .inl (fun _ => 0))), (z8, .inl (G.1, 8, .inl (fun _ => 0))), (z9, .inl (G.1, 8, .inl (fun _ => 0))), (z10, .inl (G.1, 9, .inl (fun _ => 0))), (z11, .inl (G.1, 9, .inl (fun _ => 0))), (z12, .inr (1, [.ref z13, .ref z14, .ref z15, .ref z16, .ref z17, .ref z18, .ref z19, .int 0]))]) (w1 := []) hP hD [] [0, 1, 2, 3, 4, 5, 6, 7, 8, 9, 10, 11] rfl rfl (by decide) (by decide) hk1 hFc wP_nil wD_nil
  clear hPc hDc
  generalize H1 = H at hP hS ⊢
  have hP : va_P D vwCl [(h0, .inr (11, [.ref z0, .ref z23, .ref z25, .ref z32, .ref z36, .ref z40, .ref z43, .ref z49])), (z0, .inr (8, [.ref z1, .ref z51, .ref z52, .ref z2, .ref z3, .int 0, .int 0, .int 9, .int 0, .int 0])), (z1, .inl (G.2.2.2.2, 4, .inr (.inr (.inr (.inr (va_up (va_up (va_up (va_up (fun _ => none) 0 (some z4)) 1 (some z53)) 2 (some z54)) 3 (some z55))))))), (z4, .inr (2, [.ref z5, .ref z6, .ref z7, .ref z8, .ref z9, .ref z10, .ref z11, .ref z12, .ref z20, .int 0, .int 0, .int 0, .int 0, .int 0, .int 0, .int 0])), (z5, .inl (G.1, 8, .inl (fun _ => 0))), (z6, .inl (G.1, 8, .inl (fun _ => 0))), (z7, .inl (G.1, 8, .inl (fun _ => 0))), (z8, .inl (G.1, 8, .inl (fun _ => 0))), (z9, .inl (G.1, 8, .inl (fun _ => 0))), (z10, .inl (G.1, 9, .inl (fun _ => 0))), (z11, .inl (G.1, 9, .inl (fun _ => 0))), (z12, .inr (1, [.ref z13, .ref z14, .ref z15, .ref z16, .ref z17, .ref z18, .ref z19, .int 0]))] H := hP
  have hD : va_D A [(h0, .inr (11, [.ref z0, .ref z23, .ref z25, .ref z32, .ref z36, .ref z40, .ref z43, .ref z49])), (z0, .inr (8, [.ref z1, .ref z51, .ref z52, .ref z2, .ref z3, .int 0, .int 0, .int 9, .int 0, .int 0])), (z1, .inl (G.2.2.2.2, 4, .inr (.inr (.inr (.inr (va_up (va_up (va_up (va_up (fun _ => none) 0 (some z4)) 1 (some z53)) 2 (some z54)) 3 (some z55))))))), (z4, .inr (2, [.ref z5, .ref z6, .ref z7, .ref z8, .ref z9, .ref z10, .ref z11, .ref z12, .ref z20, .int 0, .int 0, .int 0, .int 0, .int 0, .int 0, .int 0])), (z5, .inl (G.1, 8, .inl (fun _ => 0))), (z6, .inl (G.1, 8, .inl (fun _ => 0))), (z7, .inl (G.1, 8, .inl (fun _ => 0))), (z8, .inl (G.1, 8, .inl (fun _ => 0))), (z9, .inl (G.1, 8, .inl (fun _ => 0))), (z10, .inl (G.1, 9, .inl (fun _ => 0))), (z11, .inl (G.1, 9, .inl (fun _ => 0))), (z12, .inr (1, [.ref z13, .ref z14, .ref z15, .ref z16, .ref z17, .ref z18, .ref z19, .int 0]))] := hD
  refine lv_if_eq (tgt := 20) hx hb dX11_figure_6 (by decide) (fun c2 => ?_) (fun c2 => ?_)
  · have kc2 : (inB x1 1 20 && (inB x2 0 15 && inB x3 0 8)) = false := wk_b0 hr1 c2
    refine lv_iconst (v := (-1)) hx hb dX11_figure_20 (by decide) ?_
    exact W.iret (v := (-1)) hx hb hr (fun t ht hW => ⟨⟨(-1), (), rfl, by first | (simp [kc2]; done) | rfl, trivial⟩, hS.F ht⟩) hS.2.2 dX11_figure_21
  · have kc2 : (inB x1 1 20 && (inB x2 0 15 && inB x3 0 8)) = true := wk_b1 hr1 c2
    refine lv_aload_n hx hb dX11_figure_9 rfl (lv_at hl 0 rfl) ?_
    refine va_get (D := D) (ci := 11) (v := .ref z0) (C := RX11) (T := TX11) (N := 8) hx hb hts iX11_figure_X11 hown hK hP 0 rfl rfl 0 (by decide) (hts (.fieldLink RX11 10 "PuppetBridge" "stage" "LPuppetBridge$Stage;") mX11_figure_w0) (fun _ h9 => h9) rfl dX11_figure_10 ?_
    refine va_get (D := D) (ci := 8) (v := .int 0) (C := RX8) (T := TX8) (N := 10) hx hb hts iX11_figure_X8 hown hK hP 1 rfl rfl 5 (by decide) (hts (.fieldLink RX11 69 "PuppetBridge$Stage" "count" "I") mX11_figure_w1) (fun _ h9 => h9) rfl dX11_figure_13 ?_
    refine lv_iconst (v := 4) hx hb dX11_figure_16 (by decide) ?_
    refine lv_icmp_lt (tgt := 22) hx hb dX11_figure_17 (by decide) (fun _ => ?_) (fun h9 => absurd h9 (by decide))
    refine lv_aload_n hx hb dX11_figure_22 rfl (lv_at hl 0 rfl) ?_
    refine va_get (D := D) (ci := 11) (v := .ref z0) (C := RX11) (T := TX11) (N := 8) hx hb hts iX11_figure_X11 hown hK hP 0 rfl rfl 0 (by decide) (hts (.fieldLink RX11 10 "PuppetBridge" "stage" "LPuppetBridge$Stage;") mX11_figure_w0) (fun _ h9 => h9) rfl dX11_figure_23 ?_
    refine va_get (D := D) (ci := 8) (v := .ref z1) (C := RX8) (T := TX8) (N := 10) hx hb hts iX11_figure_X8 hown hK hP 1 rfl rfl 0 (by decide) (hts (.fieldLink RX11 73 "PuppetBridge$Stage" "figures" "[LPuppetBridge$Figure;") mX11_figure_w2) (fun _ h9 => h9) rfl dX11_figure_26 ?_
    refine lv_aload_n hx hb dX11_figure_29 rfl (lv_at hl 0 rfl) ?_
    refine va_get (D := D) (ci := 11) (v := .ref z0) (C := RX11) (T := TX11) (N := 8) hx hb hts iX11_figure_X11 hown hK hP 0 rfl rfl 0 (by decide) (hts (.fieldLink RX11 10 "PuppetBridge" "stage" "LPuppetBridge$Stage;") mX11_figure_w0) (fun _ h9 => h9) rfl dX11_figure_30 ?_
    refine va_get (D := D) (ci := 8) (v := .int 0) (C := RX8) (T := TX8) (N := 10) hx hb hts iX11_figure_X8 hown hK hP 1 rfl rfl 5 (by decide) (hts (.fieldLink RX11 69 "PuppetBridge$Stage" "count" "I") mX11_figure_w1) (fun _ h9 => h9) rfl dX11_figure_33 ?_
    refine va_aldq hx hb hK hP 2 4 rfl rfl (wk_in rfl) dX11_figure_36 ?_
    refine wk_v (.ref z4) rfl ?_
    refine lv_iconst (v := 0) hx hb dX11_figure_37 (by decide) ?_
    refine lv_iload_n hx hb dX11_figure_38 rfl (lv_at hl 1 rfl) ?_
    refine lv_iload_n hx hb dX11_figure_39 rfl (lv_at hl 2 rfl) ?_
    refine lv_iload_n hx hb dX11_figure_40 rfl (lv_at hl 3 rfl) ?_
    have hPc := hP.sub (ws' := [(z4, .inr (2, [.ref z5, .ref z6, .ref z7, .ref z8, .ref z9, .ref z10, .ref z11, .ref z12, .ref z20, .int 0, .int 0, .int 0, .int 0, .int 0, .int 0, .int 0])), (z5, .inl (G.1, 8, .inl (fun _ => 0))), (z6, .inl (G.1, 8, .inl (fun _ => 0))), (z7, .inl (G.1, 8, .inl (fun _ => 0))), (z8, .inl (G.1, 8, .inl (fun _ => 0))), (z9, .inl (G.1, 8, .inl (fun _ => 0))), (z10, .inl (G.1, 9, .inl (fun _ => 0))), (z11, .inl (G.1, 9, .inl (fun _ => 0))), (z12, .inr (1, [.ref z13, .ref z14, .ref z15, .ref z16, .ref z17, .ref z18, .ref z19, .int 0]))]) [3, 4, 5, 6, 7, 8, 9, 10, 11] rfl
    have hDc := hD.sub (ws' := [(z4, .inr (2, [.ref z5, .ref z6, .ref z7, .ref z8, .ref z9, .ref z10, .ref z11, .ref z12, .ref z20, .int 0, .int 0, .int 0, .int 0, .int 0, .int 0, .int 0])), (z5, .inl (G.1, 8, .inl (fun _ => 0))), (z6, .inl (G.1, 8, .inl (fun _ => 0))), (z7, .inl (G.1, 8, .inl (fun _ => 0))), (z8, .inl (G.1, 8, .inl (fun _ => 0))), (z9, .inl (G.1, 8, .inl (fun _ => 0))), (z10, .inl (G.1, 9, .inl (fun _ => 0))), (z11, .inl (G.1, 9, .inl (fun _ => 0))), (z12, .inr (1, [.ref z13, .ref z14, .ref z15, .ref z16, .ref z17, .ref z18, .ref z19, .int 0]))]) [3, 4, 5, 6, 7, 8, 9, 10, 11] (by decide) rfl
    have hFc := va_free (wc := [(z4, .inr (2, [.ref z5, .ref z6, .ref z7, .ref z8, .ref z9, .ref z10, .ref z11, .ref z12, .ref z20, .int 0, .int 0, .int 0, .int 0, .int 0, .int 0, .int 0])), (z5, .inl (G.1, 8, .inl (fun _ => 0))), (z6, .inl (G.1, 8, .inl (fun _ => 0))), (z7, .inl (G.1, 8, .inl (fun _ => 0))), (z8, .inl (G.1, 8, .inl (fun _ => 0))), (z9, .inl (G.1, 8, .inl (fun _ => 0))), (z10, .inl (G.1, 9, .inl (fun _ => 0))), (z11, .inl (G.1, 9, .inl (fun _ => 0))), (z12, .inr (1, [.ref z13, .ref z14, .ref z15, .ref z16, .ref z17, .ref z18, .ref z19, .int 0]))]) hD hS hA [3, 4, 5, 6, 7, 8, 9, 10, 11] rfl
    refine va_calli (va_runV (As := [.int 0, .int x1, .int x2, .int x3]) (rest := []) ⟨hx, hb, hml, hown, hts⟩ (kX2_grow l D G z4 x1 x2 x3 z5 z6 z7 z8 z9 z10 z11 z12 z20 z13 z14 z15 z16 z17 z18 z19 tx ty gx gy H.size) (cwV 4 hts gX11_figure_X2_grow rfl rfl rfl (by decide +kernel) ⟨Nat.le_of_ble_eq_true rfl, Nat.le_of_ble_eq_true rfl⟩) ⟨wBZ_blind, va_recv hK hPc (ci := 2) (q0 := 0) rfl rfl, wBZ_pre hPc hK hDc hN hZ hS hFc⟩ rfl rfl hl.1 rfl (lv_room (Nat.le_of_ble_eq_true rfl)) dX11_figure_41 ⟨Nat.le_of_ble_eq_true rfl, Nat.le_of_ble_eq_true rfl⟩) hS (fun q _ h => hFc q h) hFc (fun r3 u t H1 locs ht hvm hr3 hB hz1 hk1 hS => ?_)
    obtain ⟨hP, hD⟩ := va_join (wr := [(h0, .inr (11, [.ref z0, .ref z23, .ref z25, .ref z32, .ref z36, .ref z40, .ref z43, .ref z49])), (z0, .inr (8, [.ref z1, .ref z51, .ref z52, .ref z2, .ref z3, .int 0, .int 0, .int 9, .int 0, .int 0])), (z1, .inl (G.2.2.2.2, 4, .inr (.inr (.inr (.inr (va_up (va_up (va_up (va_up (fun _ => none) 0 (some z4)) 1 (some z53)) 2 (some z54)) 3 (some z55)))))))]) (w1 := []) hP hD [3, 4, 5, 6, 7, 8, 9, 10, 11] [0, 1, 2] rfl rfl (by decide) (by decide) hk1 hFc wP_nil wD_nil
    clear hPc hDc
    generalize H1 = H at hP hS ⊢
    have hP : va_P D vwCl [(h0, .inr (11, [.ref z0, .ref z23, .ref z25, .ref z32, .ref z36, .ref z40, .ref z43, .ref z49])), (z0, .inr (8, [.ref z1, .ref z51, .ref z52, .ref z2, .ref z3, .int 0, .int 0, .int 9, .int 0, .int 0])), (z1, .inl (G.2.2.2.2, 4, .inr (.inr (.inr (.inr (va_up (va_up (va_up (va_up (fun _ => none) 0 (some z4)) 1 (some z53)) 2 (some z54)) 3 (some z55)))))))] H := hP
    have hD : va_D A [(h0, .inr (11, [.ref z0, .ref z23, .ref z25, .ref z32, .ref z36, .ref z40, .ref z43, .ref z49])), (z0, .inr (8, [.ref z1, .ref z51, .ref z52, .ref z2, .ref z3, .int 0, .int 0, .int 9, .int 0, .int 0])), (z1, .inl (G.2.2.2.2, 4, .inr (.inr (.inr (.inr (va_up (va_up (va_up (va_up (fun _ => none) 0 (some z4)) 1 (some z53)) 2 (some z54)) 3 (some z55)))))))] := hD
    refine lv_pop hx hb dX11_figure_44 rfl ?_
    refine lv_aload_n hx hb dX11_figure_45 rfl (lv_at hl 0 rfl) ?_
    refine va_get (D := D) (ci := 11) (v := .ref z0) (C := RX11) (T := TX11) (N := 8) hx hb hts iX11_figure_X11 hown hK hP 0 rfl rfl 0 (by decide) (hts (.fieldLink RX11 10 "PuppetBridge" "stage" "LPuppetBridge$Stage;") mX11_figure_w0) (fun _ h9 => h9) rfl dX11_figure_46 ?_
    refine lv_dup hx hb dX11_figure_49 rfl ?_
    refine va_get (D := D) (ci := 8) (v := .int 0) (C := RX8) (T := TX8) (N := 10) hx hb hts iX11_figure_X8 hown hK hP 1 rfl rfl 5 (by decide) (hts (.fieldLink RX11 69 "PuppetBridge$Stage" "count" "I") mX11_figure_w1) (fun _ h9 => h9) rfl dX11_figure_50 ?_
    refine lv_iconst (v := 1) hx hb dX11_figure_53 (by decide) ?_
    refine lv_iadd hx hb dX11_figure_54 ?_
    refine wk_i 1 (by decide) ?_
    refine va_put (D := D) (ci := 8) (v := .int 1) (ty := (tyX8 5)) (C := RX8) (T := TX8) (N := 10) hx hb hts iX11_figure_X8 tyX8 tyX8_ok nmX8 hown hK hP hD hS 1 rfl rfl 5 (by decide) (hts (.fieldLink RX11 69 "PuppetBridge$Stage" "count" "I") mX11_figure_w1) (fun _ h9 => h9) rfl (tyX8_ok 5 (by decide)) rfl rfl (Nat.le_of_ble_eq_true rfl) dX11_figure_55 (fun H locs hP hD hS => ?_)
    have hP : va_P D vwCl [(h0, .inr (11, [.ref z0, .ref z23, .ref z25, .ref z32, .ref z36, .ref z40, .ref z43, .ref z49])), (z0, .inr (8, [.ref z1, .ref z51, .ref z52, .ref z2, .ref z3, .int 1, .int 0, .int 9, .int 0, .int 0])), (z1, .inl (G.2.2.2.2, 4, .inr (.inr (.inr (.inr (va_up (va_up (va_up (va_up (fun _ => none) 0 (some z4)) 1 (some z53)) 2 (some z54)) 3 (some z55)))))))] H := hP
    have hD : va_D A [(h0, .inr (11, [.ref z0, .ref z23, .ref z25, .ref z32, .ref z36, .ref z40, .ref z43, .ref z49])), (z0, .inr (8, [.ref z1, .ref z51, .ref z52, .ref z2, .ref z3, .int 1, .int 0, .int 9, .int 0, .int 0])), (z1, .inl (G.2.2.2.2, 4, .inr (.inr (.inr (.inr (va_up (va_up (va_up (va_up (fun _ => none) 0 (some z4)) 1 (some z53)) 2 (some z54)) 3 (some z55)))))))] := hD
    refine lv_aload_n hx hb dX11_figure_58 rfl (lv_at hl 0 rfl) ?_
    refine va_get (D := D) (ci := 11) (v := .ref z0) (C := RX11) (T := TX11) (N := 8) hx hb hts iX11_figure_X11 hown hK hP 0 rfl rfl 0 (by decide) (hts (.fieldLink RX11 10 "PuppetBridge" "stage" "LPuppetBridge$Stage;") mX11_figure_w0) (fun _ h9 => h9) rfl dX11_figure_59 ?_
    refine va_get (D := D) (ci := 8) (v := .int 1) (C := RX8) (T := TX8) (N := 10) hx hb hts iX11_figure_X8 hown hK hP 1 rfl rfl 5 (by decide) (hts (.fieldLink RX11 69 "PuppetBridge$Stage" "count" "I") mX11_figure_w1) (fun _ h9 => h9) rfl dX11_figure_62 ?_
    refine lv_iconst (v := 1) hx hb dX11_figure_65 (by decide) ?_
    refine lv_isub hx hb dX11_figure_66 ?_
    refine wk_i 0 (by decide) ?_
    exact W.iret (v := 0) hx hb hr (fun t ht hW => ⟨⟨0, (), rfl, by first | (simp [kc2]; done) | rfl, trivial⟩, hS.F ht⟩) hS.2.2 dX11_figure_67
