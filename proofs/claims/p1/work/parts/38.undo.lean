theorem mX12_fits_w0 : Cond.fieldLink RX12 141 "PuppetBridgeModel" "endMarks" "[J" ∈ wsX12_fits := by decide +kernel
theorem iX12_fits_X12 : ∀ w ∈ wsX120, w ∈ wsX12_fits := fun _ h => List.mem_cons_of_mem _ (List.mem_append_right _ h)
theorem dX12_fits_0 : decode cX12_fits 0 = .ok (.iconst 0, 1) := by decide +kernel
theorem dX12_fits_1 : decode cX12_fits 1 = .ok (.istore_n 3, 1) := by decide +kernel
theorem dX12_fits_2 : decode cX12_fits 2 = .ok (.iload_n 3, 1) := by decide +kernel
theorem dX12_fits_3 : decode cX12_fits 3 = .ok (.bipush 25, 2) := by decide +kernel
theorem dX12_fits_5 : decode cX12_fits 5 = .ok (.if_icmp .ge 29, 3) := by decide +kernel
theorem dX12_fits_8 : decode cX12_fits 8 = .ok (.aload_n 1, 1) := by decide +kernel
theorem dX12_fits_9 : decode cX12_fits 9 = .ok (.iload_n 3, 1) := by decide +kernel
theorem dX12_fits_10 : decode cX12_fits 10 = .ok (.laload, 1) := by decide +kernel
theorem dX12_fits_11 : decode cX12_fits 11 = .ok (.aload_n 0, 1) := by decide +kernel
theorem dX12_fits_12 : decode cX12_fits 12 = .ok (.getfield 141, 3) := by decide +kernel
theorem dX12_fits_15 : decode cX12_fits 15 = .ok (.iload_n 2, 1) := by decide +kernel
theorem dX12_fits_16 : decode cX12_fits 16 = .ok (.bipush 25, 2) := by decide +kernel
theorem dX12_fits_18 : decode cX12_fits 18 = .ok (.imul, 1) := by decide +kernel
theorem dX12_fits_19 : decode cX12_fits 19 = .ok (.iload_n 3, 1) := by decide +kernel
theorem dX12_fits_20 : decode cX12_fits 20 = .ok (.iadd, 1) := by decide +kernel
theorem dX12_fits_21 : decode cX12_fits 21 = .ok (.laload, 1) := by decide +kernel
theorem dX12_fits_22 : decode cX12_fits 22 = .ok (.lcmp, 1) := by decide +kernel
theorem dX12_fits_23 : decode cX12_fits 23 = .ok (.ifCond .eq 5, 3) := by decide +kernel
theorem dX12_fits_28 : decode cX12_fits 28 = .ok (.iinc 3 1, 3) := by decide +kernel
theorem dX12_fits_31 : decode cX12_fits 31 = .ok (.goto (-29), 3) := by decide +kernel
theorem dX12_fits_34 : decode cX12_fits 34 = .ok (.iconst 1, 1) := by decide +kernel
theorem dX12_fits_35 : decode cX12_fits 35 = .ok (.ireturn, 1) := by decide +kernel
set_option maxHeartbeats 4000000 in
set_option maxRecDepth 100000 in
/-- X12_fits -/
theorem kX12_fits (l : Launch) (D : va_G) (G : tyG) (h0 : Nat) (z14 : Nat) (z0 : Nat) (z1 : Nat) (z2 : Nat) (z3 : Nat) (z4 : Nat) (z5 : Nat) (z20 : Nat) (z21 : Nat) (z22 : Nat) (z23 : Nat) (z24 : Nat) (z25 : Nat) (z26 : Nat) (z27 : Nat) (z28 : Nat) (z6 : Nat) (z29 : Nat) (z7 : Nat) (z19 : Nat) (z8 : Nat) (z9 : Nat) (z10 : Nat) (z11 : Nat) (z30 : Nat) (z31 : Nat) (z32 : Nat) (z33 : Nat) (z12 : Nat) (z34 : Nat) (z35 : Nat) (z36 : Nat) (z37 : Nat) (z38 : Nat) (z39 : Nat) (z40 : Nat) (z41 : Nat) (z42 : Nat) (z13 : Nat) (z15 : Nat) (z16 : Nat) (z17 : Nat) (z18 : Nat) (z43 : Nat) (ge : Nat → Int64) (hE : ∀ j : Nat, j < 25 → ge j = tIdn j) (sz : Nat) : Met l yX12_fits wsX12_fits ({ frames := 0, cells := 0, slots := 0, locals := 0 }) (va_Pc [.ref h0, .ref z14, .int 0] (wB D G sz [(h0, .inr (12, [.ref z0, .ref z1, .ref z2, .ref z3, .ref z4, .ref z5, .ref z20, .ref z21, .ref z22, .ref z23, .ref z24, .ref z25, .int 0, .ref z26, .ref z27, .ref z28, .int 9, .int 0, .int 0, .ref z6, .ref z29, .ref z7, .int 0, .int 2, .ref z19, .ref z8, .ref z9, .ref z10, .int 0, .ref z11, .int 0, .ref z30, .ref z31, .ref z32, .ref z33, .int 0, .ref z12, .int 0, .int 0, .ref z34, .ref z35, .ref z36, .ref z37, .int 0, .int 0, .int 0, .int 0, .ref z38, .int 0, .ref z39, .ref z40, .ref z41, .ref z42, .int 0, .ref z13, .ref z14, .ref z15, .ref z16, .int 2, .ref z17, .ref z18, .ref z43])), (z14, .inl (G.2.1, 25, .inr (.inl tIdn))), (z16, .inl (G.2.1, 51200, .inr (.inl ge)))])) (va_Qi (fun (r : Int32) (_ : Unit) => r = 1) (fun _ t => wS D G (va_A [(h0, .inr (12, [.ref z0, .ref z1, .ref z2, .ref z3, .ref z4, .ref z5, .ref z20, .ref z21, .ref z22, .ref z23, .ref z24, .ref z25, .int 0, .ref z26, .ref z27, .ref z28, .int 9, .int 0, .int 0, .ref z6, .ref z29, .ref z7, .int 0, .int 2, .ref z19, .ref z8, .ref z9, .ref z10, .int 0, .ref z11, .int 0, .ref z30, .ref z31, .ref z32, .ref z33, .int 0, .ref z12, .int 0, .int 0, .ref z34, .ref z35, .ref z36, .ref z37, .int 0, .int 0, .int 0, .int 0, .ref z38, .int 0, .ref z39, .ref z40, .ref z41, .ref z42, .int 0, .ref z13, .ref z14, .ref z15, .ref z16, .int 2, .ref z17, .ref z18, .ref z43])), (z14, .inl (G.2.1, 25, .inr (.inl tIdn))), (z16, .inl (G.2.1, 51200, .inr (.inl ge)))] sz) [(z14, .inl (G.2.1, 25, .inr (.inl tIdn))), (z16, .inl (G.2.1, 51200, .inr (.inl ge))), (h0, .inr (12, [.ref z0, .ref z1, .ref z2, .ref z3, .ref z4, .ref z5, .ref z20, .ref z21, .ref z22, .ref z23, .ref z24, .ref z25, .int 0, .ref z26, .ref z27, .ref z28, .int 9, .int 0, .int 0, .ref z6, .ref z29, .ref z7, .int 0, .int 2, .ref z19, .ref z8, .ref z9, .ref z10, .int 0, .ref z11, .int 0, .ref z30, .ref z31, .ref z32, .ref z33, .int 0, .ref z12, .int 0, .int 0, .ref z34, .ref z35, .ref z36, .ref z37, .int 0, .int 0, .int 0, .int 0, .ref z38, .int 0, .ref z39, .ref z40, .ref z41, .ref z42, .int 0, .ref z13, .ref z14, .ref z15, .ref z16, .int 2, .ref z17, .ref z18, .ref z43]))] t) (va_A [(h0, .inr (12, [.ref z0, .ref z1, .ref z2, .ref z3, .ref z4, .ref z5, .ref z20, .ref z21, .ref z22, .ref z23, .ref z24, .ref z25, .int 0, .ref z26, .ref z27, .ref z28, .int 9, .int 0, .int 0, .ref z6, .ref z29, .ref z7, .int 0, .int 2, .ref z19, .ref z8, .ref z9, .ref z10, .int 0, .ref z11, .int 0, .ref z30, .ref z31, .ref z32, .ref z33, .int 0, .ref z12, .int 0, .int 0, .ref z34, .ref z35, .ref z36, .ref z37, .int 0, .int 0, .int 0, .int 0, .ref z38, .int 0, .ref z39, .ref z40, .ref z41, .ref z42, .int 0, .ref z13, .ref z14, .ref z15, .ref z16, .int 2, .ref z17, .ref z18, .ref z43])), (z14, .inl (G.2.1, 25, .inr (.inl tIdn))), (z16, .inl (G.2.1, 51200, .inr (.inl ge)))] sz)) 0 0 (va_A [(h0, .inr (12, [.ref z0, .ref z1, .ref z2, .ref z3, .ref z4, .ref z5, .ref z20, .ref z21, .ref z22, .ref z23, .ref z24, .ref z25, .int 0, .ref z26, .ref z27, .ref z28, .int 9, .int 0, .int 0, .ref z6, .ref z29, .ref z7, .int 0, .int 2, .ref z19, .ref z8, .ref z9, .ref z10, .int 0, .ref z11, .int 0, .ref z30, .ref z31, .ref z32, .ref z33, .int 0, .ref z12, .int 0, .int 0, .ref z34, .ref z35, .ref z36, .ref z37, .int 0, .int 0, .int 0, .int 0, .ref z38, .int 0, .ref z39, .ref z40, .ref z41, .ref z42, .int 0, .ref z13, .ref z14, .ref z15, .ref z16, .int 2, .ref z17, .ref z18, .ref z43])), (z14, .inl (G.2.1, 25, .inr (.inl tIdn))), (z16, .inl (G.2.1, 51200, .inr (.inl ge)))] sz) := by
  refine Met.ofW (cc := cX12_fits) (maxL := 4) (ret := (some .boolean)) (by decide) rfl ?_
  intro p e s m args below meth c s₁ B hml hv
  obtain ⟨rfl, hsz, hP, hK, hD0, hN⟩ := hv
  have hx := B.exec
  have hb := B.bytes
  have hr := B.returns
  have hts := atoms_spec (ws := wsX12_fits) B.pre
  have hown : s.vm.findClass RX12 = some m.cls := findClass_of_methodNamed B.named
  have hlocks := B.notSynchronized
  subst hsz
  have hD := hD0.self (sz := s.heap.size)
  generalize hAe : va_A [(h0, .inr (12, [.ref z0, .ref z1, .ref z2, .ref z3, .ref z4, .ref z5, .ref z20, .ref z21, .ref z22, .ref z23, .ref z24, .ref z25, .int 0, .ref z26, .ref z27, .ref z28, .int 9, .int 0, .int 0, .ref z6, .ref z29, .ref z7, .int 0, .int 2, .ref z19, .ref z8, .ref z9, .ref z10, .int 0, .ref z11, .int 0, .ref z30, .ref z31, .ref z32, .ref z33, .int 0, .ref z12, .int 0, .int 0, .ref z34, .ref z35, .ref z36, .ref z37, .int 0, .int 0, .int 0, .int 0, .ref z38, .int 0, .ref z39, .ref z40, .ref z41, .ref z42, .int 0, .ref z13, .ref z14, .ref z15, .ref z16, .int 2, .ref z17, .ref z18, .ref z43])), (z14, .inl (G.2.1, 25, .inr (.inl tIdn))), (z16, .inl (G.2.1, 51200, .inr (.inl ge)))] s.heap.size = A at hD ⊢
  have hA : ∀ q : Nat, s.heap.size ≤ q → A q := fun q h => by rw [← hAe]; exact Or.inr h
  have hS : va_S A s.heap s.heap [] := va_S.rf
  have hP : va_P D vwCl [(h0, .inr (12, [.ref z0, .ref z1, .ref z2, .ref z3, .ref z4, .ref z5, .ref z20, .ref z21, .ref z22, .ref z23, .ref z24, .ref z25, .int 0, .ref z26, .ref z27, .ref z28, .int 9, .int 0, .int 0, .ref z6, .ref z29, .ref z7, .int 0, .int 2, .ref z19, .ref z8, .ref z9, .ref z10, .int 0, .ref z11, .int 0, .ref z30, .ref z31, .ref z32, .ref z33, .int 0, .ref z12, .int 0, .int 0, .ref z34, .ref z35, .ref z36, .ref z37, .int 0, .int 0, .int 0, .int 0, .ref z38, .int 0, .ref z39, .ref z40, .ref z41, .ref z42, .int 0, .ref z13, .ref z14, .ref z15, .ref z16, .int 2, .ref z17, .ref z18, .ref z43])), (z14, .inl (G.2.1, 25, .inr (.inl tIdn))), (z16, .inl (G.2.1, 51200, .inr (.inl ge)))] s.heap := hP
  have hl := lv_entry ([.ref h0, .ref z14, .int 0]) (n := 4) (Nat.le_of_ble_eq_true rfl)
  rw [lg_entry_eq]
  generalize (lg_sl ([.ref h0, .ref z14, .int 0]) ++ List.replicate (4 - (lg_sl ([.ref h0, .ref z14, .int 0])).length) Slot.unset).toArray = ls at hl ⊢
  have hl : lv_has ls 4 [(0, .ref h0), (1, .ref z14), (2, .int 0)] := hl
  refine lv_iconst (v := 0) hx hb dX12_fits_0 (by decide) ?_
  refine lv_istore_n (lv' := [(3, .int 0), (0, .ref h0), (1, .ref z14), (2, .int 0)]) hx hb dX12_fits_1 rfl hl (by decide) rfl (fun ls hl => ?_)
  refine lv_iload_n hx hb dX12_fits_2 rfl (lv_at hl 0 rfl) ?_
  refine lv_bipush (v := 25) hx hb dX12_fits_3 (by decide) ?_
  refine lv_icmp_ge (tgt := 34) hx hb dX12_fits_5 (by decide) (fun h9 => absurd h9 (by decide)) (fun _ => ?_)
  refine lv_aload_n hx hb dX12_fits_8 rfl (lv_at hl 2 rfl) ?_
  refine lv_iload_n hx hb dX12_fits_9 rfl (lv_at hl 0 rfl) ?_
  refine va_lald hx hb hK hP 1 1 rfl rfl (wk_in rfl) dX12_fits_10 ?_
  refine wk_l 1 (by decide) ?_
  refine lv_aload_n hx hb dX12_fits_11 rfl (lv_at hl 1 rfl) ?_
  refine va_get (D := D) (ci := 12) (v := .ref z16) (C := RX12) (T := TX12) (N := 62) hx hb hts iX12_fits_X12 hown hK hP 0 rfl rfl 57 (by decide) (hts (.fieldLink RX12 141 "PuppetBridgeModel" "endMarks" "[J") mX12_fits_w0) (fun _ h9 => h9) rfl dX12_fits_12 ?_
  refine lv_iload_n hx hb dX12_fits_15 rfl (lv_at hl 3 rfl) ?_
  refine lv_bipush (v := 25) hx hb dX12_fits_16 (by decide) ?_
  refine lv_imul hx hb dX12_fits_18 ?_
  refine wk_i 0 (by decide) ?_
  refine lv_iload_n hx hb dX12_fits_19 rfl (lv_at hl 0 rfl) ?_
  refine lv_iadd hx hb dX12_fits_20 ?_
  refine wk_i 0 (by decide) ?_
  refine va_lald hx hb hK hP 2 1 rfl rfl (wk_in rfl) dX12_fits_21 ?_
  refine wk_l 1 ((hE 0 (by decide)).trans (by decide)) ?_
  refine W.lcmp hx hb dX12_fits_22 ?_
  refine wk_i 0 (by decide) ?_
  refine lv_if_eq (tgt := 28) hx hb dX12_fits_23 (by decide) (fun _ => ?_) (fun h9 => absurd h9 (by decide))
  refine lv_iinc (v := 1) (lv' := [(3, .int 1), (0, .ref h0), (1, .ref z14), (2, .int 0)]) hx hb dX12_fits_28 hl (k := 0) rfl (by decide) (by decide) rfl (fun ls hl => ?_)
  refine lv_goto (tgt := 2) hx hb dX12_fits_31 (by decide) ?_
  refine lv_iload_n hx hb dX12_fits_2 rfl (lv_at hl 0 rfl) ?_
  refine lv_bipush (v := 25) hx hb dX12_fits_3 (by decide) ?_
  refine lv_icmp_ge (tgt := 34) hx hb dX12_fits_5 (by decide) (fun h9 => absurd h9 (by decide)) (fun _ => ?_)
  refine lv_aload_n hx hb dX12_fits_8 rfl (lv_at hl 2 rfl) ?_
  refine lv_iload_n hx hb dX12_fits_9 rfl (lv_at hl 0 rfl) ?_
  refine va_lald hx hb hK hP 1 1 rfl rfl (wk_in rfl) dX12_fits_10 ?_
  refine wk_l 0 (by decide) ?_
  refine lv_aload_n hx hb dX12_fits_11 rfl (lv_at hl 1 rfl) ?_
  refine va_get (D := D) (ci := 12) (v := .ref z16) (C := RX12) (T := TX12) (N := 62) hx hb hts iX12_fits_X12 hown hK hP 0 rfl rfl 57 (by decide) (hts (.fieldLink RX12 141 "PuppetBridgeModel" "endMarks" "[J") mX12_fits_w0) (fun _ h9 => h9) rfl dX12_fits_12 ?_
  refine lv_iload_n hx hb dX12_fits_15 rfl (lv_at hl 3 rfl) ?_
  refine lv_bipush (v := 25) hx hb dX12_fits_16 (by decide) ?_
  refine lv_imul hx hb dX12_fits_18 ?_
  refine wk_i 0 (by decide) ?_
  refine lv_iload_n hx hb dX12_fits_19 rfl (lv_at hl 0 rfl) ?_
  refine lv_iadd hx hb dX12_fits_20 ?_
  refine wk_i 1 (by decide) ?_
  refine va_lald hx hb hK hP 2 1 rfl rfl (wk_in rfl) dX12_fits_21 ?_
  refine wk_l 0 ((hE 1 (by decide)).trans (by decide)) ?_
  refine W.lcmp hx hb dX12_fits_22 ?_
  refine wk_i 0 (by decide) ?_
  refine lv_if_eq (tgt := 28) hx hb dX12_fits_23 (by decide) (fun _ => ?_) (fun h9 => absurd h9 (by decide))
  refine lv_iinc (v := 2) (lv' := [(3, .int 2), (0, .ref h0), (1, .ref z14), (2, .int 0)]) hx hb dX12_fits_28 hl (k := 0) rfl (by decide) (by decide) rfl (fun ls hl => ?_)
  refine lv_goto (tgt := 2) hx hb dX12_fits_31 (by decide) ?_
  refine lv_iload_n hx hb dX12_fits_2 rfl (lv_at hl 0 rfl) ?_
  refine lv_bipush (v := 25) hx hb dX12_fits_3 (by decide) ?_
  refine lv_icmp_ge (tgt := 34) hx hb dX12_fits_5 (by decide) (fun h9 => absurd h9 (by decide)) (fun _ => ?_)
  refine lv_aload_n hx hb dX12_fits_8 rfl (lv_at hl 2 rfl) ?_
  refine lv_iload_n hx hb dX12_fits_9 rfl (lv_at hl 0 rfl) ?_
  refine va_lald hx hb hK hP 1 1 rfl rfl (wk_in rfl) dX12_fits_10 ?_
  refine wk_l 0 (by decide) ?_
  refine lv_aload_n hx hb dX12_fits_11 rfl (lv_at hl 1 rfl) ?_
  refine va_get (D := D) (ci := 12) (v := .ref z16) (C := RX12) (T := TX12) (N := 62) hx hb hts iX12_fits_X12 hown hK hP 0 rfl rfl 57 (by decide) (hts (.fieldLink RX12 141 "PuppetBridgeModel" "endMarks" "[J") mX12_fits_w0) (fun _ h9 => h9) rfl dX12_fits_12 ?_
  refine lv_iload_n hx hb dX12_fits_15 rfl (lv_at hl 3 rfl) ?_
  refine lv_bipush (v := 25) hx hb dX12_fits_16 (by decide) ?_
  refine lv_imul hx hb dX12_fits_18 ?_
  refine wk_i 0 (by decide) ?_
  refine lv_iload_n hx hb dX12_fits_19 rfl (lv_at hl 0 rfl) ?_
  refine lv_iadd hx hb dX12_fits_20 ?_
  refine wk_i 2 (by decide) ?_
  refine va_lald hx hb hK hP 2 1 rfl rfl (wk_in rfl) dX12_fits_21 ?_
  refine wk_l 0 ((hE 2 (by decide)).trans (by decide)) ?_
  refine W.lcmp hx hb dX12_fits_22 ?_
  refine wk_i 0 (by decide) ?_
  refine lv_if_eq (tgt := 28) hx hb dX12_fits_23 (by decide) (fun _ => ?_) (fun h9 => absurd h9 (by decide))
  refine lv_iinc (v := 3) (lv' := [(3, .int 3), (0, .ref h0), (1, .ref z14), (2, .int 0)]) hx hb dX12_fits_28 hl (k := 0) rfl (by decide) (by decide) rfl (fun ls hl => ?_)
  refine lv_goto (tgt := 2) hx hb dX12_fits_31 (by decide) ?_
  refine lv_iload_n hx hb dX12_fits_2 rfl (lv_at hl 0 rfl) ?_
  refine lv_bipush (v := 25) hx hb dX12_fits_3 (by decide) ?_
  refine lv_icmp_ge (tgt := 34) hx hb dX12_fits_5 (by decide) (fun h9 => absurd h9 (by decide)) (fun _ => ?_)
  refine lv_aload_n hx hb dX12_fits_8 rfl (lv_at hl 2 rfl) ?_
  refine lv_iload_n hx hb dX12_fits_9 rfl (lv_at hl 0 rfl) ?_
  refine va_lald hx hb hK hP 1 1 rfl rfl (wk_in rfl) dX12_fits_10 ?_
  refine wk_l 0 (by decide) ?_
  refine lv_aload_n hx hb dX12_fits_11 rfl (lv_at hl 1 rfl) ?_
  refine va_get (D := D) (ci := 12) (v := .ref z16) (C := RX12) (T := TX12) (N := 62) hx hb hts iX12_fits_X12 hown hK hP 0 rfl rfl 57 (by decide) (hts (.fieldLink RX12 141 "PuppetBridgeModel" "endMarks" "[J") mX12_fits_w0) (fun _ h9 => h9) rfl dX12_fits_12 ?_
  refine lv_iload_n hx hb dX12_fits_15 rfl (lv_at hl 3 rfl) ?_
  refine lv_bipush (v := 25) hx hb dX12_fits_16 (by decide) ?_
  refine lv_imul hx hb dX12_fits_18 ?_
  refine wk_i 0 (by decide) ?_
  refine lv_iload_n hx hb dX12_fits_19 rfl (lv_at hl 0 rfl) ?_
  refine lv_iadd hx hb dX12_fits_20 ?_
  refine wk_i 3 (by decide) ?_
  refine va_lald hx hb hK hP 2 1 rfl rfl (wk_in rfl) dX12_fits_21 ?_
  refine wk_l 0 ((hE 3 (by decide)).trans (by decide)) ?_
  refine W.lcmp hx hb dX12_fits_22 ?_
  refine wk_i 0 (by decide) ?_
  refine lv_if_eq (tgt := 28) hx hb dX12_fits_23 (by decide) (fun _ => ?_) (fun h9 => absurd h9 (by decide))
  refine lv_iinc (v := 4) (lv' := [(3, .int 4), (0, .ref h0), (1, .ref z14), (2, .int 0)]) hx hb dX12_fits_28 hl (k := 0) rfl (by decide) (by decide) rfl (fun ls hl => ?_)
  refine lv_goto (tgt := 2) hx hb dX12_fits_31 (by decide) ?_
  refine lv_iload_n hx hb dX12_fits_2 rfl (lv_at hl 0 rfl) ?_
  refine lv_bipush (v := 25) hx hb dX12_fits_3 (by decide) ?_
  refine lv_icmp_ge (tgt := 34) hx hb dX12_fits_5 (by decide) (fun h9 => absurd h9 (by decide)) (fun _ => ?_)
  refine lv_aload_n hx hb dX12_fits_8 rfl (lv_at hl 2 rfl) ?_
  refine lv_iload_n hx hb dX12_fits_9 rfl (lv_at hl 0 rfl) ?_
  refine va_lald hx hb hK hP 1 1 rfl rfl (wk_in rfl) dX12_fits_10 ?_
  refine wk_l 0 (by decide) ?_
  refine lv_aload_n hx hb dX12_fits_11 rfl (lv_at hl 1 rfl) ?_
  refine va_get (D := D) (ci := 12) (v := .ref z16) (C := RX12) (T := TX12) (N := 62) hx hb hts iX12_fits_X12 hown hK hP 0 rfl rfl 57 (by decide) (hts (.fieldLink RX12 141 "PuppetBridgeModel" "endMarks" "[J") mX12_fits_w0) (fun _ h9 => h9) rfl dX12_fits_12 ?_
  refine lv_iload_n hx hb dX12_fits_15 rfl (lv_at hl 3 rfl) ?_
  refine lv_bipush (v := 25) hx hb dX12_fits_16 (by decide) ?_
  refine lv_imul hx hb dX12_fits_18 ?_
  refine wk_i 0 (by decide) ?_
  refine lv_iload_n hx hb dX12_fits_19 rfl (lv_at hl 0 rfl) ?_
  refine lv_iadd hx hb dX12_fits_20 ?_
  refine wk_i 4 (by decide) ?_
  refine va_lald hx hb hK hP 2 1 rfl rfl (wk_in rfl) dX12_fits_21 ?_
  refine wk_l 0 ((hE 4 (by decide)).trans (by decide)) ?_
  refine W.lcmp hx hb dX12_fits_22 ?_
  refine wk_i 0 (by decide) ?_
  refine lv_if_eq (tgt := 28) hx hb dX12_fits_23 (by decide) (fun _ => ?_) (fun h9 => absurd h9 (by decide))
  refine lv_iinc (v := 5) (lv' := [(3, .int 5), (0, .ref h0), (1, .ref z14), (2, .int 0)]) hx hb dX12_fits_28 hl (k := 0) rfl (by decide) (by decide) rfl (fun ls hl => ?_)
  refine lv_goto (tgt := 2) hx hb dX12_fits_31 (by decide) ?_
  refine lv_iload_n hx hb dX12_fits_2 rfl (lv_at hl 0 rfl) ?_
  refine lv_bipush (v := 25) hx hb dX12_fits_3 (by decide) ?_
  refine lv_icmp_ge (tgt := 34) hx hb dX12_fits_5 (by decide) (fun h9 => absurd h9 (by decide)) (fun _ => ?_)
  refine lv_aload_n hx hb dX12_fits_8 rfl (lv_at hl 2 rfl) ?_
  refine lv_iload_n hx hb dX12_fits_9 rfl (lv_at hl 0 rfl) ?_
  refine va_lald hx hb hK hP 1 1 rfl rfl (wk_in rfl) dX12_fits_10 ?_
  refine wk_l 0 (by decide) ?_
  refine lv_aload_n hx hb dX12_fits_11 rfl (lv_at hl 1 rfl) ?_
  refine va_get (D := D) (ci := 12) (v := .ref z16) (C := RX12) (T := TX12) (N := 62) hx hb hts iX12_fits_X12 hown hK hP 0 rfl rfl 57 (by decide) (hts (.fieldLink RX12 141 "PuppetBridgeModel" "endMarks" "[J") mX12_fits_w0) (fun _ h9 => h9) rfl dX12_fits_12 ?_
  refine lv_iload_n hx hb dX12_fits_15 rfl (lv_at hl 3 rfl) ?_
  refine lv_bipush (v := 25) hx hb dX12_fits_16 (by decide) ?_
  refine lv_imul hx hb dX12_fits_18 ?_
  refine wk_i 0 (by decide) ?_
  refine lv_iload_n hx hb dX12_fits_19 rfl (lv_at hl 0 rfl) ?_
  refine lv_iadd hx hb dX12_fits_20 ?_
  refine wk_i 5 (by decide) ?_
  refine va_lald hx hb hK hP 2 1 rfl rfl (wk_in rfl) dX12_fits_21 ?_
  refine wk_l 0 ((hE 5 (by decide)).trans (by decide)) ?_
  refine W.lcmp hx hb dX12_fits_22 ?_
  refine wk_i 0 (by decide) ?_
  refine lv_if_eq (tgt := 28) hx hb dX12_fits_23 (by decide) (fun _ => ?_) (fun h9 => absurd h9 (by decide))
  refine lv_iinc (v := 6) (lv' := [(3, .int 6), (0, .ref h0), (1, .ref z14), (2, .int 0)]) hx hb dX12_fits_28 hl (k := 0) rfl (by decide) (by decide) rfl (fun ls hl => ?_)
  refine lv_goto (tgt := 2) hx hb dX12_fits_31 (by decide) ?_
  refine lv_iload_n hx hb dX12_fits_2 rfl (lv_at hl 0 rfl) ?_
  refine lv_bipush (v := 25) hx hb dX12_fits_3 (by decide) ?_
  refine lv_icmp_ge (tgt := 34) hx hb dX12_fits_5 (by decide) (fun h9 => absurd h9 (by decide)) (fun _ => ?_)
  refine lv_aload_n hx hb dX12_fits_8 rfl (lv_at hl 2 rfl) ?_
  refine lv_iload_n hx hb dX12_fits_9 rfl (lv_at hl 0 rfl) ?_
  refine va_lald hx hb hK hP 1 1 rfl rfl (wk_in rfl) dX12_fits_10 ?_
  refine wk_l 1 (by decide) ?_
  refine lv_aload_n hx hb dX12_fits_11 rfl (lv_at hl 1 rfl) ?_
  refine va_get (D := D) (ci := 12) (v := .ref z16) (C := RX12) (T := TX12) (N := 62) hx hb hts iX12_fits_X12 hown hK hP 0 rfl rfl 57 (by decide) (hts (.fieldLink RX12 141 "PuppetBridgeModel" "endMarks" "[J") mX12_fits_w0) (fun _ h9 => h9) rfl dX12_fits_12 ?_
  refine lv_iload_n hx hb dX12_fits_15 rfl (lv_at hl 3 rfl) ?_
  refine lv_bipush (v := 25) hx hb dX12_fits_16 (by decide) ?_
  refine lv_imul hx hb dX12_fits_18 ?_
  refine wk_i 0 (by decide) ?_
  refine lv_iload_n hx hb dX12_fits_19 rfl (lv_at hl 0 rfl) ?_
  refine lv_iadd hx hb dX12_fits_20 ?_
  refine wk_i 6 (by decide) ?_
  refine va_lald hx hb hK hP 2 1 rfl rfl (wk_in rfl) dX12_fits_21 ?_
  refine wk_l 1 ((hE 6 (by decide)).trans (by decide)) ?_
  refine W.lcmp hx hb dX12_fits_22 ?_
  refine wk_i 0 (by decide) ?_
  refine lv_if_eq (tgt := 28) hx hb dX12_fits_23 (by decide) (fun _ => ?_) (fun h9 => absurd h9 (by decide))
  refine lv_iinc (v := 7) (lv' := [(3, .int 7), (0, .ref h0), (1, .ref z14), (2, .int 0)]) hx hb dX12_fits_28 hl (k := 0) rfl (by decide) (by decide) rfl (fun ls hl => ?_)
  refine lv_goto (tgt := 2) hx hb dX12_fits_31 (by decide) ?_
  refine lv_iload_n hx hb dX12_fits_2 rfl (lv_at hl 0 rfl) ?_
  refine lv_bipush (v := 25) hx hb dX12_fits_3 (by decide) ?_
  refine lv_icmp_ge (tgt := 34) hx hb dX12_fits_5 (by decide) (fun h9 => absurd h9 (by decide)) (fun _ => ?_)
  refine lv_aload_n hx hb dX12_fits_8 rfl (lv_at hl 2 rfl) ?_
  refine lv_iload_n hx hb dX12_fits_9 rfl (lv_at hl 0 rfl) ?_
  refine va_lald hx hb hK hP 1 1 rfl rfl (wk_in rfl) dX12_fits_10 ?_
  refine wk_l 0 (by decide) ?_
  refine lv_aload_n hx hb dX12_fits_11 rfl (lv_at hl 1 rfl) ?_
  refine va_get (D := D) (ci := 12) (v := .ref z16) (C := RX12) (T := TX12) (N := 62) hx hb hts iX12_fits_X12 hown hK hP 0 rfl rfl 57 (by decide) (hts (.fieldLink RX12 141 "PuppetBridgeModel" "endMarks" "[J") mX12_fits_w0) (fun _ h9 => h9) rfl dX12_fits_12 ?_
  refine lv_iload_n hx hb dX12_fits_15 rfl (lv_at hl 3 rfl) ?_
  refine lv_bipush (v := 25) hx hb dX12_fits_16 (by decide) ?_
  refine lv_imul hx hb dX12_fits_18 ?_
  refine wk_i 0 (by decide) ?_
  refine lv_iload_n hx hb dX12_fits_19 rfl (lv_at hl 0 rfl) ?_
  refine lv_iadd hx hb dX12_fits_20 ?_
  refine wk_i 7 (by decide) ?_
  refine va_lald hx hb hK hP 2 1 rfl rfl (wk_in rfl) dX12_fits_21 ?_
  refine wk_l 0 ((hE 7 (by decide)).trans (by decide)) ?_
  refine W.lcmp hx hb dX12_fits_22 ?_
  refine wk_i 0 (by decide) ?_
  refine lv_if_eq (tgt := 28) hx hb dX12_fits_23 (by decide) (fun _ => ?_) (fun h9 => absurd h9 (by decide))
  refine lv_iinc (v := 8) (lv' := [(3, .int 8), (0, .ref h0), (1, .ref z14), (2, .int 0)]) hx hb dX12_fits_28 hl (k := 0) rfl (by decide) (by decide) rfl (fun ls hl => ?_)
  refine lv_goto (tgt := 2) hx hb dX12_fits_31 (by decide) ?_
  refine lv_iload_n hx hb dX12_fits_2 rfl (lv_at hl 0 rfl) ?_
  refine lv_bipush (v := 25) hx hb dX12_fits_3 (by decide) ?_
  refine lv_icmp_ge (tgt := 34) hx hb dX12_fits_5 (by decide) (fun h9 => absurd h9 (by decide)) (fun _ => ?_)
  refine lv_aload_n hx hb dX12_fits_8 rfl (lv_at hl 2 rfl) ?_
  refine lv_iload_n hx hb dX12_fits_9 rfl (lv_at hl 0 rfl) ?_
  refine va_lald hx hb hK hP 1 1 rfl rfl (wk_in rfl) dX12_fits_10 ?_
  refine wk_l 0 (by decide) ?_
  refine lv_aload_n hx hb dX12_fits_11 rfl (lv_at hl 1 rfl) ?_
  refine va_get (D := D) (ci := 12) (v := .ref z16) (C := RX12) (T := TX12) (N := 62) hx hb hts iX12_fits_X12 hown hK hP 0 rfl rfl 57 (by decide) (hts (.fieldLink RX12 141 "PuppetBridgeModel" "endMarks" "[J") mX12_fits_w0) (fun _ h9 => h9) rfl dX12_fits_12 ?_
  refine lv_iload_n hx hb dX12_fits_15 rfl (lv_at hl 3 rfl) ?_
  refine lv_bipush (v := 25) hx hb dX12_fits_16 (by decide) ?_
  refine lv_imul hx hb dX12_fits_18 ?_
  refine wk_i 0 (by decide) ?_
  refine lv_iload_n hx hb dX12_fits_19 rfl (lv_at hl 0 rfl) ?_
  refine lv_iadd hx hb dX12_fits_20 ?_
  refine wk_i 8 (by decide) ?_
  refine va_lald hx hb hK hP 2 1 rfl rfl (wk_in rfl) dX12_fits_21 ?_
  refine wk_l 0 ((hE 8 (by decide)).trans (by decide)) ?_
  refine W.lcmp hx hb dX12_fits_22 ?_
  refine wk_i 0 (by decide) ?_
  refine lv_if_eq (tgt := 28) hx hb dX12_fits_23 (by decide) (fun _ => ?_) (fun h9 => absurd h9 (by decide))
  refine lv_iinc (v := 9) (lv' := [(3, .int 9), (0, .ref h0), (1, .ref z14), (2, .int 0)]) hx hb dX12_fits_28 hl (k := 0) rfl (by decide) (by decide) rfl (fun ls hl => ?_)
  refine lv_goto (tgt := 2) hx hb dX12_fits_31 (by decide) ?_
  refine lv_iload_n hx hb dX12_fits_2 rfl (lv_at hl 0 rfl) ?_
  refine lv_bipush (v := 25) hx hb dX12_fits_3 (by decide) ?_
  refine lv_icmp_ge (tgt := 34) hx hb dX12_fits_5 (by decide) (fun h9 => absurd h9 (by decide)) (fun _ => ?_)
  refine lv_aload_n hx hb dX12_fits_8 rfl (lv_at hl 2 rfl) ?_
  refine lv_iload_n hx hb dX12_fits_9 rfl (lv_at hl 0 rfl) ?_
  refine va_lald hx hb hK hP 1 1 rfl rfl (wk_in rfl) dX12_fits_10 ?_
  refine wk_l 0 (by decide) ?_
  refine lv_aload_n hx hb dX12_fits_11 rfl (lv_at hl 1 rfl) ?_
  refine va_get (D := D) (ci := 12) (v := .ref z16) (C := RX12) (T := TX12) (N := 62) hx hb hts iX12_fits_X12 hown hK hP 0 rfl rfl 57 (by decide) (hts (.fieldLink RX12 141 "PuppetBridgeModel" "endMarks" "[J") mX12_fits_w0) (fun _ h9 => h9) rfl dX12_fits_12 ?_
  refine lv_iload_n hx hb dX12_fits_15 rfl (lv_at hl 3 rfl) ?_
  refine lv_bipush (v := 25) hx hb dX12_fits_16 (by decide) ?_
  refine lv_imul hx hb dX12_fits_18 ?_
  refine wk_i 0 (by decide) ?_
  refine lv_iload_n hx hb dX12_fits_19 rfl (lv_at hl 0 rfl) ?_
  refine lv_iadd hx hb dX12_fits_20 ?_
  refine wk_i 9 (by decide) ?_
  refine va_lald hx hb hK hP 2 1 rfl rfl (wk_in rfl) dX12_fits_21 ?_
  refine wk_l 0 ((hE 9 (by decide)).trans (by decide)) ?_
  refine W.lcmp hx hb dX12_fits_22 ?_
  refine wk_i 0 (by decide) ?_
  refine lv_if_eq (tgt := 28) hx hb dX12_fits_23 (by decide) (fun _ => ?_) (fun h9 => absurd h9 (by decide))
  refine lv_iinc (v := 10) (lv' := [(3, .int 10), (0, .ref h0), (1, .ref z14), (2, .int 0)]) hx hb dX12_fits_28 hl (k := 0) rfl (by decide) (by decide) rfl (fun ls hl => ?_)
  refine lv_goto (tgt := 2) hx hb dX12_fits_31 (by decide) ?_
  refine lv_iload_n hx hb dX12_fits_2 rfl (lv_at hl 0 rfl) ?_
  refine lv_bipush (v := 25) hx hb dX12_fits_3 (by decide) ?_
  refine lv_icmp_ge (tgt := 34) hx hb dX12_fits_5 (by decide) (fun h9 => absurd h9 (by decide)) (fun _ => ?_)
  refine lv_aload_n hx hb dX12_fits_8 rfl (lv_at hl 2 rfl) ?_
  refine lv_iload_n hx hb dX12_fits_9 rfl (lv_at hl 0 rfl) ?_
  refine va_lald hx hb hK hP 1 1 rfl rfl (wk_in rfl) dX12_fits_10 ?_
  refine wk_l 0 (by decide) ?_
  refine lv_aload_n hx hb dX12_fits_11 rfl (lv_at hl 1 rfl) ?_
  refine va_get (D := D) (ci := 12) (v := .ref z16) (C := RX12) (T := TX12) (N := 62) hx hb hts iX12_fits_X12 hown hK hP 0 rfl rfl 57 (by decide) (hts (.fieldLink RX12 141 "PuppetBridgeModel" "endMarks" "[J") mX12_fits_w0) (fun _ h9 => h9) rfl dX12_fits_12 ?_
  refine lv_iload_n hx hb dX12_fits_15 rfl (lv_at hl 3 rfl) ?_
  refine lv_bipush (v := 25) hx hb dX12_fits_16 (by decide) ?_
  refine lv_imul hx hb dX12_fits_18 ?_
  refine wk_i 0 (by decide) ?_
  refine lv_iload_n hx hb dX12_fits_19 rfl (lv_at hl 0 rfl) ?_
  refine lv_iadd hx hb dX12_fits_20 ?_
  refine wk_i 10 (by decide) ?_
  refine va_lald hx hb hK hP 2 1 rfl rfl (wk_in rfl) dX12_fits_21 ?_
  refine wk_l 0 ((hE 10 (by decide)).trans (by decide)) ?_
  refine W.lcmp hx hb dX12_fits_22 ?_
  refine wk_i 0 (by decide) ?_
  refine lv_if_eq (tgt := 28) hx hb dX12_fits_23 (by decide) (fun _ => ?_) (fun h9 => absurd h9 (by decide))
  refine lv_iinc (v := 11) (lv' := [(3, .int 11), (0, .ref h0), (1, .ref z14), (2, .int 0)]) hx hb dX12_fits_28 hl (k := 0) rfl (by decide) (by decide) rfl (fun ls hl => ?_)
  refine lv_goto (tgt := 2) hx hb dX12_fits_31 (by decide) ?_
  refine lv_iload_n hx hb dX12_fits_2 rfl (lv_at hl 0 rfl) ?_
  refine lv_bipush (v := 25) hx hb dX12_fits_3 (by decide) ?_
  refine lv_icmp_ge (tgt := 34) hx hb dX12_fits_5 (by decide) (fun h9 => absurd h9 (by decide)) (fun _ => ?_)
  refine lv_aload_n hx hb dX12_fits_8 rfl (lv_at hl 2 rfl) ?_
  refine lv_iload_n hx hb dX12_fits_9 rfl (lv_at hl 0 rfl) ?_
  refine va_lald hx hb hK hP 1 1 rfl rfl (wk_in rfl) dX12_fits_10 ?_
  refine wk_l 0 (by decide) ?_
  refine lv_aload_n hx hb dX12_fits_11 rfl (lv_at hl 1 rfl) ?_
  refine va_get (D := D) (ci := 12) (v := .ref z16) (C := RX12) (T := TX12) (N := 62) hx hb hts iX12_fits_X12 hown hK hP 0 rfl rfl 57 (by decide) (hts (.fieldLink RX12 141 "PuppetBridgeModel" "endMarks" "[J") mX12_fits_w0) (fun _ h9 => h9) rfl dX12_fits_12 ?_
  refine lv_iload_n hx hb dX12_fits_15 rfl (lv_at hl 3 rfl) ?_
  refine lv_bipush (v := 25) hx hb dX12_fits_16 (by decide) ?_
  refine lv_imul hx hb dX12_fits_18 ?_
  refine wk_i 0 (by decide) ?_
  refine lv_iload_n hx hb dX12_fits_19 rfl (lv_at hl 0 rfl) ?_
  refine lv_iadd hx hb dX12_fits_20 ?_
  refine wk_i 11 (by decide) ?_
  refine va_lald hx hb hK hP 2 1 rfl rfl (wk_in rfl) dX12_fits_21 ?_
  refine wk_l 0 ((hE 11 (by decide)).trans (by decide)) ?_
  refine W.lcmp hx hb dX12_fits_22 ?_
  refine wk_i 0 (by decide) ?_
  refine lv_if_eq (tgt := 28) hx hb dX12_fits_23 (by decide) (fun _ => ?_) (fun h9 => absurd h9 (by decide))
  refine lv_iinc (v := 12) (lv' := [(3, .int 12), (0, .ref h0), (1, .ref z14), (2, .int 0)]) hx hb dX12_fits_28 hl (k := 0) rfl (by decide) (by decide) rfl (fun ls hl => ?_)
  refine lv_goto (tgt := 2) hx hb dX12_fits_31 (by decide) ?_
  refine lv_iload_n hx hb dX12_fits_2 rfl (lv_at hl 0 rfl) ?_
  refine lv_bipush (v := 25) hx hb dX12_fits_3 (by decide) ?_
  refine lv_icmp_ge (tgt := 34) hx hb dX12_fits_5 (by decide) (fun h9 => absurd h9 (by decide)) (fun _ => ?_)
  refine lv_aload_n hx hb dX12_fits_8 rfl (lv_at hl 2 rfl) ?_
  refine lv_iload_n hx hb dX12_fits_9 rfl (lv_at hl 0 rfl) ?_
  refine va_lald hx hb hK hP 1 1 rfl rfl (wk_in rfl) dX12_fits_10 ?_
  refine wk_l 1 (by decide) ?_
  refine lv_aload_n hx hb dX12_fits_11 rfl (lv_at hl 1 rfl) ?_
  refine va_get (D := D) (ci := 12) (v := .ref z16) (C := RX12) (T := TX12) (N := 62) hx hb hts iX12_fits_X12 hown hK hP 0 rfl rfl 57 (by decide) (hts (.fieldLink RX12 141 "PuppetBridgeModel" "endMarks" "[J") mX12_fits_w0) (fun _ h9 => h9) rfl dX12_fits_12 ?_
  refine lv_iload_n hx hb dX12_fits_15 rfl (lv_at hl 3 rfl) ?_
  refine lv_bipush (v := 25) hx hb dX12_fits_16 (by decide) ?_
  refine lv_imul hx hb dX12_fits_18 ?_
  refine wk_i 0 (by decide) ?_
  refine lv_iload_n hx hb dX12_fits_19 rfl (lv_at hl 0 rfl) ?_
  refine lv_iadd hx hb dX12_fits_20 ?_
  refine wk_i 12 (by decide) ?_
  refine va_lald hx hb hK hP 2 1 rfl rfl (wk_in rfl) dX12_fits_21 ?_
  refine wk_l 1 ((hE 12 (by decide)).trans (by decide)) ?_
  refine W.lcmp hx hb dX12_fits_22 ?_
  refine wk_i 0 (by decide) ?_
  refine lv_if_eq (tgt := 28) hx hb dX12_fits_23 (by decide) (fun _ => ?_) (fun h9 => absurd h9 (by decide))
  refine lv_iinc (v := 13) (lv' := [(3, .int 13), (0, .ref h0), (1, .ref z14), (2, .int 0)]) hx hb dX12_fits_28 hl (k := 0) rfl (by decide) (by decide) rfl (fun ls hl => ?_)
  refine lv_goto (tgt := 2) hx hb dX12_fits_31 (by decide) ?_
  refine lv_iload_n hx hb dX12_fits_2 rfl (lv_at hl 0 rfl) ?_
  refine lv_bipush (v := 25) hx hb dX12_fits_3 (by decide) ?_
  refine lv_icmp_ge (tgt := 34) hx hb dX12_fits_5 (by decide) (fun h9 => absurd h9 (by decide)) (fun _ => ?_)
  refine lv_aload_n hx hb dX12_fits_8 rfl (lv_at hl 2 rfl) ?_
  refine lv_iload_n hx hb dX12_fits_9 rfl (lv_at hl 0 rfl) ?_
  refine va_lald hx hb hK hP 1 1 rfl rfl (wk_in rfl) dX12_fits_10 ?_
  refine wk_l 0 (by decide) ?_
  refine lv_aload_n hx hb dX12_fits_11 rfl (lv_at hl 1 rfl) ?_
  refine va_get (D := D) (ci := 12) (v := .ref z16) (C := RX12) (T := TX12) (N := 62) hx hb hts iX12_fits_X12 hown hK hP 0 rfl rfl 57 (by decide) (hts (.fieldLink RX12 141 "PuppetBridgeModel" "endMarks" "[J") mX12_fits_w0) (fun _ h9 => h9) rfl dX12_fits_12 ?_
  refine lv_iload_n hx hb dX12_fits_15 rfl (lv_at hl 3 rfl) ?_
  refine lv_bipush (v := 25) hx hb dX12_fits_16 (by decide) ?_
  refine lv_imul hx hb dX12_fits_18 ?_
  refine wk_i 0 (by decide) ?_
  refine lv_iload_n hx hb dX12_fits_19 rfl (lv_at hl 0 rfl) ?_
  refine lv_iadd hx hb dX12_fits_20 ?_
  refine wk_i 13 (by decide) ?_
  refine va_lald hx hb hK hP 2 1 rfl rfl (wk_in rfl) dX12_fits_21 ?_
  refine wk_l 0 ((hE 13 (by decide)).trans (by decide)) ?_
  refine W.lcmp hx hb dX12_fits_22 ?_
  refine wk_i 0 (by decide) ?_
  refine lv_if_eq (tgt := 28) hx hb dX12_fits_23 (by decide) (fun _ => ?_) (fun h9 => absurd h9 (by decide))
  refine lv_iinc (v := 14) (lv' := [(3, .int 14), (0, .ref h0), (1, .ref z14), (2, .int 0)]) hx hb dX12_fits_28 hl (k := 0) rfl (by decide) (by decide) rfl (fun ls hl => ?_)
  refine lv_goto (tgt := 2) hx hb dX12_fits_31 (by decide) ?_
  refine lv_iload_n hx hb dX12_fits_2 rfl (lv_at hl 0 rfl) ?_
  refine lv_bipush (v := 25) hx hb dX12_fits_3 (by decide) ?_
  refine lv_icmp_ge (tgt := 34) hx hb dX12_fits_5 (by decide) (fun h9 => absurd h9 (by decide)) (fun _ => ?_)
  refine lv_aload_n hx hb dX12_fits_8 rfl (lv_at hl 2 rfl) ?_
  refine lv_iload_n hx hb dX12_fits_9 rfl (lv_at hl 0 rfl) ?_
  refine va_lald hx hb hK hP 1 1 rfl rfl (wk_in rfl) dX12_fits_10 ?_
  refine wk_l 0 (by decide) ?_
  refine lv_aload_n hx hb dX12_fits_11 rfl (lv_at hl 1 rfl) ?_
  refine va_get (D := D) (ci := 12) (v := .ref z16) (C := RX12) (T := TX12) (N := 62) hx hb hts iX12_fits_X12 hown hK hP 0 rfl rfl 57 (by decide) (hts (.fieldLink RX12 141 "PuppetBridgeModel" "endMarks" "[J") mX12_fits_w0) (fun _ h9 => h9) rfl dX12_fits_12 ?_
  refine lv_iload_n hx hb dX12_fits_15 rfl (lv_at hl 3 rfl) ?_
  refine lv_bipush (v := 25) hx hb dX12_fits_16 (by decide) ?_
  refine lv_imul hx hb dX12_fits_18 ?_
  refine wk_i 0 (by decide) ?_
  refine lv_iload_n hx hb dX12_fits_19 rfl (lv_at hl 0 rfl) ?_
  refine lv_iadd hx hb dX12_fits_20 ?_
  refine wk_i 14 (by decide) ?_
  refine va_lald hx hb hK hP 2 1 rfl rfl (wk_in rfl) dX12_fits_21 ?_
  refine wk_l 0 ((hE 14 (by decide)).trans (by decide)) ?_
  refine W.lcmp hx hb dX12_fits_22 ?_
  refine wk_i 0 (by decide) ?_
  refine lv_if_eq (tgt := 28) hx hb dX12_fits_23 (by decide) (fun _ => ?_) (fun h9 => absurd h9 (by decide))
  refine lv_iinc (v := 15) (lv' := [(3, .int 15), (0, .ref h0), (1, .ref z14), (2, .int 0)]) hx hb dX12_fits_28 hl (k := 0) rfl (by decide) (by decide) rfl (fun ls hl => ?_)
  refine lv_goto (tgt := 2) hx hb dX12_fits_31 (by decide) ?_
  refine lv_iload_n hx hb dX12_fits_2 rfl (lv_at hl 0 rfl) ?_
  refine lv_bipush (v := 25) hx hb dX12_fits_3 (by decide) ?_
  refine lv_icmp_ge (tgt := 34) hx hb dX12_fits_5 (by decide) (fun h9 => absurd h9 (by decide)) (fun _ => ?_)
  refine lv_aload_n hx hb dX12_fits_8 rfl (lv_at hl 2 rfl) ?_
  refine lv_iload_n hx hb dX12_fits_9 rfl (lv_at hl 0 rfl) ?_
  refine va_lald hx hb hK hP 1 1 rfl rfl (wk_in rfl) dX12_fits_10 ?_
  refine wk_l 0 (by decide) ?_
  refine lv_aload_n hx hb dX12_fits_11 rfl (lv_at hl 1 rfl) ?_
  refine va_get (D := D) (ci := 12) (v := .ref z16) (C := RX12) (T := TX12) (N := 62) hx hb hts iX12_fits_X12 hown hK hP 0 rfl rfl 57 (by decide) (hts (.fieldLink RX12 141 "PuppetBridgeModel" "endMarks" "[J") mX12_fits_w0) (fun _ h9 => h9) rfl dX12_fits_12 ?_
  refine lv_iload_n hx hb dX12_fits_15 rfl (lv_at hl 3 rfl) ?_
  refine lv_bipush (v := 25) hx hb dX12_fits_16 (by decide) ?_
  refine lv_imul hx hb dX12_fits_18 ?_
  refine wk_i 0 (by decide) ?_
  refine lv_iload_n hx hb dX12_fits_19 rfl (lv_at hl 0 rfl) ?_
  refine lv_iadd hx hb dX12_fits_20 ?_
  refine wk_i 15 (by decide) ?_
  refine va_lald hx hb hK hP 2 1 rfl rfl (wk_in rfl) dX12_fits_21 ?_
  refine wk_l 0 ((hE 15 (by decide)).trans (by decide)) ?_
  refine W.lcmp hx hb dX12_fits_22 ?_
  refine wk_i 0 (by decide) ?_
  refine lv_if_eq (tgt := 28) hx hb dX12_fits_23 (by decide) (fun _ => ?_) (fun h9 => absurd h9 (by decide))
  refine lv_iinc (v := 16) (lv' := [(3, .int 16), (0, .ref h0), (1, .ref z14), (2, .int 0)]) hx hb dX12_fits_28 hl (k := 0) rfl (by decide) (by decide) rfl (fun ls hl => ?_)
  refine lv_goto (tgt := 2) hx hb dX12_fits_31 (by decide) ?_
  refine lv_iload_n hx hb dX12_fits_2 rfl (lv_at hl 0 rfl) ?_
  refine lv_bipush (v := 25) hx hb dX12_fits_3 (by decide) ?_
  refine lv_icmp_ge (tgt := 34) hx hb dX12_fits_5 (by decide) (fun h9 => absurd h9 (by decide)) (fun _ => ?_)
  refine lv_aload_n hx hb dX12_fits_8 rfl (lv_at hl 2 rfl) ?_
  refine lv_iload_n hx hb dX12_fits_9 rfl (lv_at hl 0 rfl) ?_
  refine va_lald hx hb hK hP 1 1 rfl rfl (wk_in rfl) dX12_fits_10 ?_
  refine wk_l 0 (by decide) ?_
  refine lv_aload_n hx hb dX12_fits_11 rfl (lv_at hl 1 rfl) ?_
  refine va_get (D := D) (ci := 12) (v := .ref z16) (C := RX12) (T := TX12) (N := 62) hx hb hts iX12_fits_X12 hown hK hP 0 rfl rfl 57 (by decide) (hts (.fieldLink RX12 141 "PuppetBridgeModel" "endMarks" "[J") mX12_fits_w0) (fun _ h9 => h9) rfl dX12_fits_12 ?_
  refine lv_iload_n hx hb dX12_fits_15 rfl (lv_at hl 3 rfl) ?_
  refine lv_bipush (v := 25) hx hb dX12_fits_16 (by decide) ?_
  refine lv_imul hx hb dX12_fits_18 ?_
  refine wk_i 0 (by decide) ?_
  refine lv_iload_n hx hb dX12_fits_19 rfl (lv_at hl 0 rfl) ?_
  refine lv_iadd hx hb dX12_fits_20 ?_
  refine wk_i 16 (by decide) ?_
  refine va_lald hx hb hK hP 2 1 rfl rfl (wk_in rfl) dX12_fits_21 ?_
  refine wk_l 0 ((hE 16 (by decide)).trans (by decide)) ?_
  refine W.lcmp hx hb dX12_fits_22 ?_
  refine wk_i 0 (by decide) ?_
  refine lv_if_eq (tgt := 28) hx hb dX12_fits_23 (by decide) (fun _ => ?_) (fun h9 => absurd h9 (by decide))
  refine lv_iinc (v := 17) (lv' := [(3, .int 17), (0, .ref h0), (1, .ref z14), (2, .int 0)]) hx hb dX12_fits_28 hl (k := 0) rfl (by decide) (by decide) rfl (fun ls hl => ?_)
  refine lv_goto (tgt := 2) hx hb dX12_fits_31 (by decide) ?_
  refine lv_iload_n hx hb dX12_fits_2 rfl (lv_at hl 0 rfl) ?_
  refine lv_bipush (v := 25) hx hb dX12_fits_3 (by decide) ?_
  refine lv_icmp_ge (tgt := 34) hx hb dX12_fits_5 (by decide) (fun h9 => absurd h9 (by decide)) (fun _ => ?_)
  refine lv_aload_n hx hb dX12_fits_8 rfl (lv_at hl 2 rfl) ?_
  refine lv_iload_n hx hb dX12_fits_9 rfl (lv_at hl 0 rfl) ?_
  refine va_lald hx hb hK hP 1 1 rfl rfl (wk_in rfl) dX12_fits_10 ?_
  refine wk_l 0 (by decide) ?_
  refine lv_aload_n hx hb dX12_fits_11 rfl (lv_at hl 1 rfl) ?_
  refine va_get (D := D) (ci := 12) (v := .ref z16) (C := RX12) (T := TX12) (N := 62) hx hb hts iX12_fits_X12 hown hK hP 0 rfl rfl 57 (by decide) (hts (.fieldLink RX12 141 "PuppetBridgeModel" "endMarks" "[J") mX12_fits_w0) (fun _ h9 => h9) rfl dX12_fits_12 ?_
  refine lv_iload_n hx hb dX12_fits_15 rfl (lv_at hl 3 rfl) ?_
  refine lv_bipush (v := 25) hx hb dX12_fits_16 (by decide) ?_
  refine lv_imul hx hb dX12_fits_18 ?_
  refine wk_i 0 (by decide) ?_
  refine lv_iload_n hx hb dX12_fits_19 rfl (lv_at hl 0 rfl) ?_
  refine lv_iadd hx hb dX12_fits_20 ?_
  refine wk_i 17 (by decide) ?_
  refine va_lald hx hb hK hP 2 1 rfl rfl (wk_in rfl) dX12_fits_21 ?_
  refine wk_l 0 ((hE 17 (by decide)).trans (by decide)) ?_
  refine W.lcmp hx hb dX12_fits_22 ?_
  refine wk_i 0 (by decide) ?_
  refine lv_if_eq (tgt := 28) hx hb dX12_fits_23 (by decide) (fun _ => ?_) (fun h9 => absurd h9 (by decide))
  refine lv_iinc (v := 18) (lv' := [(3, .int 18), (0, .ref h0), (1, .ref z14), (2, .int 0)]) hx hb dX12_fits_28 hl (k := 0) rfl (by decide) (by decide) rfl (fun ls hl => ?_)
  refine lv_goto (tgt := 2) hx hb dX12_fits_31 (by decide) ?_
  refine lv_iload_n hx hb dX12_fits_2 rfl (lv_at hl 0 rfl) ?_
  refine lv_bipush (v := 25) hx hb dX12_fits_3 (by decide) ?_
  refine lv_icmp_ge (tgt := 34) hx hb dX12_fits_5 (by decide) (fun h9 => absurd h9 (by decide)) (fun _ => ?_)
  refine lv_aload_n hx hb dX12_fits_8 rfl (lv_at hl 2 rfl) ?_
  refine lv_iload_n hx hb dX12_fits_9 rfl (lv_at hl 0 rfl) ?_
  refine va_lald hx hb hK hP 1 1 rfl rfl (wk_in rfl) dX12_fits_10 ?_
  refine wk_l 1 (by decide) ?_
  refine lv_aload_n hx hb dX12_fits_11 rfl (lv_at hl 1 rfl) ?_
  refine va_get (D := D) (ci := 12) (v := .ref z16) (C := RX12) (T := TX12) (N := 62) hx hb hts iX12_fits_X12 hown hK hP 0 rfl rfl 57 (by decide) (hts (.fieldLink RX12 141 "PuppetBridgeModel" "endMarks" "[J") mX12_fits_w0) (fun _ h9 => h9) rfl dX12_fits_12 ?_
  refine lv_iload_n hx hb dX12_fits_15 rfl (lv_at hl 3 rfl) ?_
  refine lv_bipush (v := 25) hx hb dX12_fits_16 (by decide) ?_
  refine lv_imul hx hb dX12_fits_18 ?_
  refine wk_i 0 (by decide) ?_
  refine lv_iload_n hx hb dX12_fits_19 rfl (lv_at hl 0 rfl) ?_
  refine lv_iadd hx hb dX12_fits_20 ?_
  refine wk_i 18 (by decide) ?_
  refine va_lald hx hb hK hP 2 1 rfl rfl (wk_in rfl) dX12_fits_21 ?_
  refine wk_l 1 ((hE 18 (by decide)).trans (by decide)) ?_
  refine W.lcmp hx hb dX12_fits_22 ?_
  refine wk_i 0 (by decide) ?_
  refine lv_if_eq (tgt := 28) hx hb dX12_fits_23 (by decide) (fun _ => ?_) (fun h9 => absurd h9 (by decide))
  refine lv_iinc (v := 19) (lv' := [(3, .int 19), (0, .ref h0), (1, .ref z14), (2, .int 0)]) hx hb dX12_fits_28 hl (k := 0) rfl (by decide) (by decide) rfl (fun ls hl => ?_)
  refine lv_goto (tgt := 2) hx hb dX12_fits_31 (by decide) ?_
  refine lv_iload_n hx hb dX12_fits_2 rfl (lv_at hl 0 rfl) ?_
  refine lv_bipush (v := 25) hx hb dX12_fits_3 (by decide) ?_
  refine lv_icmp_ge (tgt := 34) hx hb dX12_fits_5 (by decide) (fun h9 => absurd h9 (by decide)) (fun _ => ?_)
  refine lv_aload_n hx hb dX12_fits_8 rfl (lv_at hl 2 rfl) ?_
  refine lv_iload_n hx hb dX12_fits_9 rfl (lv_at hl 0 rfl) ?_
  refine va_lald hx hb hK hP 1 1 rfl rfl (wk_in rfl) dX12_fits_10 ?_
  refine wk_l 0 (by decide) ?_
  refine lv_aload_n hx hb dX12_fits_11 rfl (lv_at hl 1 rfl) ?_
  refine va_get (D := D) (ci := 12) (v := .ref z16) (C := RX12) (T := TX12) (N := 62) hx hb hts iX12_fits_X12 hown hK hP 0 rfl rfl 57 (by decide) (hts (.fieldLink RX12 141 "PuppetBridgeModel" "endMarks" "[J") mX12_fits_w0) (fun _ h9 => h9) rfl dX12_fits_12 ?_
  refine lv_iload_n hx hb dX12_fits_15 rfl (lv_at hl 3 rfl) ?_
  refine lv_bipush (v := 25) hx hb dX12_fits_16 (by decide) ?_
  refine lv_imul hx hb dX12_fits_18 ?_
  refine wk_i 0 (by decide) ?_
  refine lv_iload_n hx hb dX12_fits_19 rfl (lv_at hl 0 rfl) ?_
  refine lv_iadd hx hb dX12_fits_20 ?_
  refine wk_i 19 (by decide) ?_
  refine va_lald hx hb hK hP 2 1 rfl rfl (wk_in rfl) dX12_fits_21 ?_
  refine wk_l 0 ((hE 19 (by decide)).trans (by decide)) ?_
  refine W.lcmp hx hb dX12_fits_22 ?_
  refine wk_i 0 (by decide) ?_
  refine lv_if_eq (tgt := 28) hx hb dX12_fits_23 (by decide) (fun _ => ?_) (fun h9 => absurd h9 (by decide))
  refine lv_iinc (v := 20) (lv' := [(3, .int 20), (0, .ref h0), (1, .ref z14), (2, .int 0)]) hx hb dX12_fits_28 hl (k := 0) rfl (by decide) (by decide) rfl (fun ls hl => ?_)
  refine lv_goto (tgt := 2) hx hb dX12_fits_31 (by decide) ?_
  refine lv_iload_n hx hb dX12_fits_2 rfl (lv_at hl 0 rfl) ?_
  refine lv_bipush (v := 25) hx hb dX12_fits_3 (by decide) ?_
  refine lv_icmp_ge (tgt := 34) hx hb dX12_fits_5 (by decide) (fun h9 => absurd h9 (by decide)) (fun _ => ?_)
  refine lv_aload_n hx hb dX12_fits_8 rfl (lv_at hl 2 rfl) ?_
  refine lv_iload_n hx hb dX12_fits_9 rfl (lv_at hl 0 rfl) ?_
  refine va_lald hx hb hK hP 1 1 rfl rfl (wk_in rfl) dX12_fits_10 ?_
  refine wk_l 0 (by decide) ?_
  refine lv_aload_n hx hb dX12_fits_11 rfl (lv_at hl 1 rfl) ?_
  refine va_get (D := D) (ci := 12) (v := .ref z16) (C := RX12) (T := TX12) (N := 62) hx hb hts iX12_fits_X12 hown hK hP 0 rfl rfl 57 (by decide) (hts (.fieldLink RX12 141 "PuppetBridgeModel" "endMarks" "[J") mX12_fits_w0) (fun _ h9 => h9) rfl dX12_fits_12 ?_
  refine lv_iload_n hx hb dX12_fits_15 rfl (lv_at hl 3 rfl) ?_
  refine lv_bipush (v := 25) hx hb dX12_fits_16 (by decide) ?_
  refine lv_imul hx hb dX12_fits_18 ?_
  refine wk_i 0 (by decide) ?_
  refine lv_iload_n hx hb dX12_fits_19 rfl (lv_at hl 0 rfl) ?_
  refine lv_iadd hx hb dX12_fits_20 ?_
  refine wk_i 20 (by decide) ?_
  refine va_lald hx hb hK hP 2 1 rfl rfl (wk_in rfl) dX12_fits_21 ?_
  refine wk_l 0 ((hE 20 (by decide)).trans (by decide)) ?_
  refine W.lcmp hx hb dX12_fits_22 ?_
  refine wk_i 0 (by decide) ?_
  refine lv_if_eq (tgt := 28) hx hb dX12_fits_23 (by decide) (fun _ => ?_) (fun h9 => absurd h9 (by decide))
  refine lv_iinc (v := 21) (lv' := [(3, .int 21), (0, .ref h0), (1, .ref z14), (2, .int 0)]) hx hb dX12_fits_28 hl (k := 0) rfl (by decide) (by decide) rfl (fun ls hl => ?_)
  refine lv_goto (tgt := 2) hx hb dX12_fits_31 (by decide) ?_
  refine lv_iload_n hx hb dX12_fits_2 rfl (lv_at hl 0 rfl) ?_
  refine lv_bipush (v := 25) hx hb dX12_fits_3 (by decide) ?_
  refine lv_icmp_ge (tgt := 34) hx hb dX12_fits_5 (by decide) (fun h9 => absurd h9 (by decide)) (fun _ => ?_)
  refine lv_aload_n hx hb dX12_fits_8 rfl (lv_at hl 2 rfl) ?_
  refine lv_iload_n hx hb dX12_fits_9 rfl (lv_at hl 0 rfl) ?_
  refine va_lald hx hb hK hP 1 1 rfl rfl (wk_in rfl) dX12_fits_10 ?_
  refine wk_l 0 (by decide) ?_
  refine lv_aload_n hx hb dX12_fits_11 rfl (lv_at hl 1 rfl) ?_
  refine va_get (D := D) (ci := 12) (v := .ref z16) (C := RX12) (T := TX12) (N := 62) hx hb hts iX12_fits_X12 hown hK hP 0 rfl rfl 57 (by decide) (hts (.fieldLink RX12 141 "PuppetBridgeModel" "endMarks" "[J") mX12_fits_w0) (fun _ h9 => h9) rfl dX12_fits_12 ?_
  refine lv_iload_n hx hb dX12_fits_15 rfl (lv_at hl 3 rfl) ?_
  refine lv_bipush (v := 25) hx hb dX12_fits_16 (by decide) ?_
  refine lv_imul hx hb dX12_fits_18 ?_
  refine wk_i 0 (by decide) ?_
  refine lv_iload_n hx hb dX12_fits_19 rfl (lv_at hl 0 rfl) ?_
  refine lv_iadd hx hb dX12_fits_20 ?_
  refine wk_i 21 (by decide) ?_
  refine va_lald hx hb hK hP 2 1 rfl rfl (wk_in rfl) dX12_fits_21 ?_
  refine wk_l 0 ((hE 21 (by decide)).trans (by decide)) ?_
  refine W.lcmp hx hb dX12_fits_22 ?_
  refine wk_i 0 (by decide) ?_
  refine lv_if_eq (tgt := 28) hx hb dX12_fits_23 (by decide) (fun _ => ?_) (fun h9 => absurd h9 (by decide))
  refine lv_iinc (v := 22) (lv' := [(3, .int 22), (0, .ref h0), (1, .ref z14), (2, .int 0)]) hx hb dX12_fits_28 hl (k := 0) rfl (by decide) (by decide) rfl (fun ls hl => ?_)
  refine lv_goto (tgt := 2) hx hb dX12_fits_31 (by decide) ?_
  refine lv_iload_n hx hb dX12_fits_2 rfl (lv_at hl 0 rfl) ?_
  refine lv_bipush (v := 25) hx hb dX12_fits_3 (by decide) ?_
  refine lv_icmp_ge (tgt := 34) hx hb dX12_fits_5 (by decide) (fun h9 => absurd h9 (by decide)) (fun _ => ?_)
  refine lv_aload_n hx hb dX12_fits_8 rfl (lv_at hl 2 rfl) ?_
  refine lv_iload_n hx hb dX12_fits_9 rfl (lv_at hl 0 rfl) ?_
  refine va_lald hx hb hK hP 1 1 rfl rfl (wk_in rfl) dX12_fits_10 ?_
  refine wk_l 0 (by decide) ?_
  refine lv_aload_n hx hb dX12_fits_11 rfl (lv_at hl 1 rfl) ?_
  refine va_get (D := D) (ci := 12) (v := .ref z16) (C := RX12) (T := TX12) (N := 62) hx hb hts iX12_fits_X12 hown hK hP 0 rfl rfl 57 (by decide) (hts (.fieldLink RX12 141 "PuppetBridgeModel" "endMarks" "[J") mX12_fits_w0) (fun _ h9 => h9) rfl dX12_fits_12 ?_
  refine lv_iload_n hx hb dX12_fits_15 rfl (lv_at hl 3 rfl) ?_
  refine lv_bipush (v := 25) hx hb dX12_fits_16 (by decide) ?_
  refine lv_imul hx hb dX12_fits_18 ?_
  refine wk_i 0 (by decide) ?_
  refine lv_iload_n hx hb dX12_fits_19 rfl (lv_at hl 0 rfl) ?_
  refine lv_iadd hx hb dX12_fits_20 ?_
  refine wk_i 22 (by decide) ?_
  refine va_lald hx hb hK hP 2 1 rfl rfl (wk_in rfl) dX12_fits_21 ?_
  refine wk_l 0 ((hE 22 (by decide)).trans (by decide)) ?_
  refine W.lcmp hx hb dX12_fits_22 ?_
  refine wk_i 0 (by decide) ?_
  refine lv_if_eq (tgt := 28) hx hb dX12_fits_23 (by decide) (fun _ => ?_) (fun h9 => absurd h9 (by decide))
  refine lv_iinc (v := 23) (lv' := [(3, .int 23), (0, .ref h0), (1, .ref z14), (2, .int 0)]) hx hb dX12_fits_28 hl (k := 0) rfl (by decide) (by decide) rfl (fun ls hl => ?_)
  refine lv_goto (tgt := 2) hx hb dX12_fits_31 (by decide) ?_
  refine lv_iload_n hx hb dX12_fits_2 rfl (lv_at hl 0 rfl) ?_
  refine lv_bipush (v := 25) hx hb dX12_fits_3 (by decide) ?_
  refine lv_icmp_ge (tgt := 34) hx hb dX12_fits_5 (by decide) (fun h9 => absurd h9 (by decide)) (fun _ => ?_)
  refine lv_aload_n hx hb dX12_fits_8 rfl (lv_at hl 2 rfl) ?_
  refine lv_iload_n hx hb dX12_fits_9 rfl (lv_at hl 0 rfl) ?_
  refine va_lald hx hb hK hP 1 1 rfl rfl (wk_in rfl) dX12_fits_10 ?_
  refine wk_l 0 (by decide) ?_
  refine lv_aload_n hx hb dX12_fits_11 rfl (lv_at hl 1 rfl) ?_
  refine va_get (D := D) (ci := 12) (v := .ref z16) (C := RX12) (T := TX12) (N := 62) hx hb hts iX12_fits_X12 hown hK hP 0 rfl rfl 57 (by decide) (hts (.fieldLink RX12 141 "PuppetBridgeModel" "endMarks" "[J") mX12_fits_w0) (fun _ h9 => h9) rfl dX12_fits_12 ?_
  refine lv_iload_n hx hb dX12_fits_15 rfl (lv_at hl 3 rfl) ?_
  refine lv_bipush (v := 25) hx hb dX12_fits_16 (by decide) ?_
  refine lv_imul hx hb dX12_fits_18 ?_
  refine wk_i 0 (by decide) ?_
  refine lv_iload_n hx hb dX12_fits_19 rfl (lv_at hl 0 rfl) ?_
  refine lv_iadd hx hb dX12_fits_20 ?_
  refine wk_i 23 (by decide) ?_
  refine va_lald hx hb hK hP 2 1 rfl rfl (wk_in rfl) dX12_fits_21 ?_
  refine wk_l 0 ((hE 23 (by decide)).trans (by decide)) ?_
  refine W.lcmp hx hb dX12_fits_22 ?_
  refine wk_i 0 (by decide) ?_
  refine lv_if_eq (tgt := 28) hx hb dX12_fits_23 (by decide) (fun _ => ?_) (fun h9 => absurd h9 (by decide))
  refine lv_iinc (v := 24) (lv' := [(3, .int 24), (0, .ref h0), (1, .ref z14), (2, .int 0)]) hx hb dX12_fits_28 hl (k := 0) rfl (by decide) (by decide) rfl (fun ls hl => ?_)
  refine lv_goto (tgt := 2) hx hb dX12_fits_31 (by decide) ?_
  refine lv_iload_n hx hb dX12_fits_2 rfl (lv_at hl 0 rfl) ?_
  refine lv_bipush (v := 25) hx hb dX12_fits_3 (by decide) ?_
  refine lv_icmp_ge (tgt := 34) hx hb dX12_fits_5 (by decide) (fun h9 => absurd h9 (by decide)) (fun _ => ?_)
  refine lv_aload_n hx hb dX12_fits_8 rfl (lv_at hl 2 rfl) ?_
  refine lv_iload_n hx hb dX12_fits_9 rfl (lv_at hl 0 rfl) ?_
  refine va_lald hx hb hK hP 1 1 rfl rfl (wk_in rfl) dX12_fits_10 ?_
  refine wk_l 1 (by decide) ?_
  refine lv_aload_n hx hb dX12_fits_11 rfl (lv_at hl 1 rfl) ?_
  refine va_get (D := D) (ci := 12) (v := .ref z16) (C := RX12) (T := TX12) (N := 62) hx hb hts iX12_fits_X12 hown hK hP 0 rfl rfl 57 (by decide) (hts (.fieldLink RX12 141 "PuppetBridgeModel" "endMarks" "[J") mX12_fits_w0) (fun _ h9 => h9) rfl dX12_fits_12 ?_
  refine lv_iload_n hx hb dX12_fits_15 rfl (lv_at hl 3 rfl) ?_
  refine lv_bipush (v := 25) hx hb dX12_fits_16 (by decide) ?_
  refine lv_imul hx hb dX12_fits_18 ?_
  refine wk_i 0 (by decide) ?_
  refine lv_iload_n hx hb dX12_fits_19 rfl (lv_at hl 0 rfl) ?_
  refine lv_iadd hx hb dX12_fits_20 ?_
  refine wk_i 24 (by decide) ?_
  refine va_lald hx hb hK hP 2 1 rfl rfl (wk_in rfl) dX12_fits_21 ?_
  refine wk_l 1 ((hE 24 (by decide)).trans (by decide)) ?_
  refine W.lcmp hx hb dX12_fits_22 ?_
  refine wk_i 0 (by decide) ?_
  refine lv_if_eq (tgt := 28) hx hb dX12_fits_23 (by decide) (fun _ => ?_) (fun h9 => absurd h9 (by decide))
  refine lv_iinc (v := 25) (lv' := [(3, .int 25), (0, .ref h0), (1, .ref z14), (2, .int 0)]) hx hb dX12_fits_28 hl (k := 0) rfl (by decide) (by decide) rfl (fun ls hl => ?_)
  refine lv_goto (tgt := 2) hx hb dX12_fits_31 (by decide) ?_
  refine lv_iload_n hx hb dX12_fits_2 rfl (lv_at hl 0 rfl) ?_
  refine lv_bipush (v := 25) hx hb dX12_fits_3 (by decide) ?_
  refine lv_icmp_ge (tgt := 34) hx hb dX12_fits_5 (by decide) (fun _ => ?_) (fun h9 => absurd h9 (by decide))
  refine lv_iconst (v := 1) hx hb dX12_fits_34 (by decide) ?_
  have hP9 := hP.sub (ws' := [(z14, .inl (G.2.1, 25, .inr (.inl tIdn))), (z16, .inl (G.2.1, 51200, .inr (.inl ge))), (h0, .inr (12, [.ref z0, .ref z1, .ref z2, .ref z3, .ref z4, .ref z5, .ref z20, .ref z21, .ref z22, .ref z23, .ref z24, .ref z25, .int 0, .ref z26, .ref z27, .ref z28, .int 9, .int 0, .int 0, .ref z6, .ref z29, .ref z7, .int 0, .int 2, .ref z19, .ref z8, .ref z9, .ref z10, .int 0, .ref z11, .int 0, .ref z30, .ref z31, .ref z32, .ref z33, .int 0, .ref z12, .int 0, .int 0, .ref z34, .ref z35, .ref z36, .ref z37, .int 0, .int 0, .int 0, .int 0, .ref z38, .int 0, .ref z39, .ref z40, .ref z41, .ref z42, .int 0, .ref z13, .ref z14, .ref z15, .ref z16, .int 2, .ref z17, .ref z18, .ref z43]))]) [1, 2, 0] rfl
  have hD9 := hD.sub (ws' := [(z14, .inl (G.2.1, 25, .inr (.inl tIdn))), (z16, .inl (G.2.1, 51200, .inr (.inl ge))), (h0, .inr (12, [.ref z0, .ref z1, .ref z2, .ref z3, .ref z4, .ref z5, .ref z20, .ref z21, .ref z22, .ref z23, .ref z24, .ref z25, .int 0, .ref z26, .ref z27, .ref z28, .int 9, .int 0, .int 0, .ref z6, .ref z29, .ref z7, .int 0, .int 2, .ref z19, .ref z8, .ref z9, .ref z10, .int 0, .ref z11, .int 0, .ref z30, .ref z31, .ref z32, .ref z33, .int 0, .ref z12, .int 0, .int 0, .ref z34, .ref z35, .ref z36, .ref z37, .int 0, .int 0, .int 0, .int 0, .ref z38, .int 0, .ref z39, .ref z40, .ref z41, .ref z42, .int 0, .ref z13, .ref z14, .ref z15, .ref z16, .int 2, .ref z17, .ref z18, .ref z43]))]) [1, 2, 0] (by decide) rfl
  exact W.zret (v := 1) hx hb hr rfl (fun t ht hW => ⟨⟨1, (), rfl, rfl, ⟨by rw [ht]; exact hP9, va_K.moved hW.alike hK, hD9⟩⟩, hS.F ht⟩) hS.2.2 dX12_fits_35

set_option maxHeartbeats 4000000 in
set_option maxRecDepth 100000 in
/-- X12_isNothing -/
theorem kX12_isNothing_2 (l : Launch) (D : va_G) (G : tyG) (h0 : Nat) (z0 : Nat) (z1 : Nat) (z2 : Nat) (z3 : Nat) (z4 : Nat) (z5 : Nat) (z20 : Nat) (z21 : Nat) (z22 : Nat) (z23 : Nat) (z24 : Nat) (z25 : Nat) (z26 : Nat) (z27 : Nat) (z28 : Nat) (z6 : Nat) (z29 : Nat) (z7 : Nat) (z19 : Nat) (z8 : Nat) (z9 : Nat) (z10 : Nat) (z11 : Nat) (z30 : Nat) (z31 : Nat) (z32 : Nat) (z33 : Nat) (z12 : Nat) (z34 : Nat) (z35 : Nat) (z36 : Nat) (z37 : Nat) (z38 : Nat) (z39 : Nat) (z40 : Nat) (z41 : Nat) (z42 : Nat) (z13 : Nat) (z14 : Nat) (z15 : Nat) (z16 : Nat) (z17 : Nat) (z18 : Nat) (z43 : Nat) (sz : Nat) : Met l yX12_isNothing wsX12_isNothing ({ frames := 0, cells := 0, slots := 0, locals := 0 }) (va_Pc [.ref h0] (wB D G sz [(h0, .inr (12, [.ref z0, .ref z1, .ref z2, .ref z3, .ref z4, .ref z5, .ref z20, .ref z21, .ref z22, .ref z23, .ref z24, .ref z25, .int 0, .ref z26, .ref z27, .ref z28, .int 9, .int 0, .int 0, .ref z6, .ref z29, .ref z7, .int 0, .int 2, .ref z19, .ref z8, .ref z9, .ref z10, .int 0, .ref z11, .int 0, .ref z30, .ref z31, .ref z32, .ref z33, .int 0, .ref z12, .int 0, .int 0, .ref z34, .ref z35, .ref z36, .ref z37, .int 0, .int 0, .int 0, .int 0, .ref z38, .int 0, .ref z39, .ref z40, .ref z41, .ref z42, .int 0, .ref z13, .ref z14, .ref z15, .ref z16, .int 2, .ref z17, .ref z18, .ref z43]))])) (va_Qi (fun (r : Int32) (_ : Unit) => r = 1) (fun _ t => wS D G (va_A [(h0, .inr (12, [.ref z0, .ref z1, .ref z2, .ref z3, .ref z4, .ref z5, .ref z20, .ref z21, .ref z22, .ref z23, .ref z24, .ref z25, .int 0, .ref z26, .ref z27, .ref z28, .int 9, .int 0, .int 0, .ref z6, .ref z29, .ref z7, .int 0, .int 2, .ref z19, .ref z8, .ref z9, .ref z10, .int 0, .ref z11, .int 0, .ref z30, .ref z31, .ref z32, .ref z33, .int 0, .ref z12, .int 0, .int 0, .ref z34, .ref z35, .ref z36, .ref z37, .int 0, .int 0, .int 0, .int 0, .ref z38, .int 0, .ref z39, .ref z40, .ref z41, .ref z42, .int 0, .ref z13, .ref z14, .ref z15, .ref z16, .int 2, .ref z17, .ref z18, .ref z43]))] sz) [(h0, .inr (12, [.ref z0, .ref z1, .ref z2, .ref z3, .ref z4, .ref z5, .ref z20, .ref z21, .ref z22, .ref z23, .ref z24, .ref z25, .int 0, .ref z26, .ref z27, .ref z28, .int 9, .int 0, .int 0, .ref z6, .ref z29, .ref z7, .int 0, .int 2, .ref z19, .ref z8, .ref z9, .ref z10, .int 0, .ref z11, .int 0, .ref z30, .ref z31, .ref z32, .ref z33, .int 0, .ref z12, .int 0, .int 0, .ref z34, .ref z35, .ref z36, .ref z37, .int 0, .int 0, .int 0, .int 0, .ref z38, .int 0, .ref z39, .ref z40, .ref z41, .ref z42, .int 0, .ref z13, .ref z14, .ref z15, .ref z16, .int 2, .ref z17, .ref z18, .ref z43]))] t) (va_A [(h0, .inr (12, [.ref z0, .ref z1, .ref z2, .ref z3, .ref z4, .ref z5, .ref z20, .ref z21, .ref z22, .ref z23, .ref z24, .ref z25, .int 0, .ref z26, .ref z27, .ref z28, .int 9, .int 0, .int 0, .ref z6, .ref z29, .ref z7, .int 0, .int 2, .ref z19, .ref z8, .ref z9, .ref z10, .int 0, .ref z11, .int 0, .ref z30, .ref z31, .ref z32, .ref z33, .int 0, .ref z12, .int 0, .int 0, .ref z34, .ref z35, .ref z36, .ref z37, .int 0, .int 0, .int 0, .int 0, .ref z38, .int 0, .ref z39, .ref z40, .ref z41, .ref z42, .int 0, .ref z13, .ref z14, .ref z15, .ref z16, .int 2, .ref z17, .ref z18, .ref z43]))] sz)) 0 0 (va_A [(h0, .inr (12, [.ref z0, .ref z1, .ref z2, .ref z3, .ref z4, .ref z5, .ref z20, .ref z21, .ref z22, .ref z23, .ref z24, .ref z25, .int 0, .ref z26, .ref z27, .ref z28, .int 9, .int 0, .int 0, .ref z6, .ref z29, .ref z7, .int 0, .int 2, .ref z19, .ref z8, .ref z9, .ref z10, .int 0, .ref z11, .int 0, .ref z30, .ref z31, .ref z32, .ref z33, .int 0, .ref z12, .int 0, .int 0, .ref z34, .ref z35, .ref z36, .ref z37, .int 0, .int 0, .int 0, .int 0, .ref z38, .int 0, .ref z39, .ref z40, .ref z41, .ref z42, .int 0, .ref z13, .ref z14, .ref z15, .ref z16, .int 2, .ref z17, .ref z18, .ref z43]))] sz) := by
  refine Met.ofW (cc := cX12_isNothing) (maxL := 9) (ret := (some .boolean)) (by decide) rfl ?_
  intro p e s m args below meth c s₁ B hml hv
  obtain ⟨rfl, hsz, hP, hK, hD0, hN⟩ := hv
  have hx := B.exec
  have hb := B.bytes
  have hr := B.returns
  have hts := atoms_spec (ws := wsX12_isNothing) B.pre
  have hown : s.vm.findClass RX12 = some m.cls := findClass_of_methodNamed B.named
  have hlocks := B.notSynchronized
  subst hsz
  have hD := hD0.self (sz := s.heap.size)
  generalize hAe : va_A [(h0, .inr (12, [.ref z0, .ref z1, .ref z2, .ref z3, .ref z4, .ref z5, .ref z20, .ref z21, .ref z22, .ref z23, .ref z24, .ref z25, .int 0, .ref z26, .ref z27, .ref z28, .int 9, .int 0, .int 0, .ref z6, .ref z29, .ref z7, .int 0, .int 2, .ref z19, .ref z8, .ref z9, .ref z10, .int 0, .ref z11, .int 0, .ref z30, .ref z31, .ref z32, .ref z33, .int 0, .ref z12, .int 0, .int 0, .ref z34, .ref z35, .ref z36, .ref z37, .int 0, .int 0, .int 0, .int 0, .ref z38, .int 0, .ref z39, .ref z40, .ref z41, .ref z42, .int 0, .ref z13, .ref z14, .ref z15, .ref z16, .int 2, .ref z17, .ref z18, .ref z43]))] s.heap.size = A at hD ⊢
  have hA : ∀ q : Nat, s.heap.size ≤ q → A q := fun q h => by rw [← hAe]; exact Or.inr h
  have hS : va_S A s.heap s.heap [] := va_S.rf
  have hP : va_P D vwCl [(h0, .inr (12, [.ref z0, .ref z1, .ref z2, .ref z3, .ref z4, .ref z5, .ref z20, .ref z21, .ref z22, .ref z23, .ref z24, .ref z25, .int 0, .ref z26, .ref z27, .ref z28, .int 9, .int 0, .int 0, .ref z6, .ref z29, .ref z7, .int 0, .int 2, .ref z19, .ref z8, .ref z9, .ref z10, .int 0, .ref z11, .int 0, .ref z30, .ref z31, .ref z32, .ref z33, .int 0, .ref z12, .int 0, .int 0, .ref z34, .ref z35, .ref z36, .ref z37, .int 0, .int 0, .int 0, .int 0, .ref z38, .int 0, .ref z39, .ref z40, .ref z41, .ref z42, .int 0, .ref z13, .ref z14, .ref z15, .ref z16, .int 2, .ref z17, .ref z18, .ref z43]))] s.heap := hP
  have hl := lv_entry ([.ref h0]) (n := 9) (Nat.le_of_ble_eq_true rfl)
  rw [lg_entry_eq]
  generalize (lg_sl ([.ref h0]) ++ List.replicate (9 - (lg_sl ([.ref h0])).length) Slot.unset).toArray = ls at hl ⊢
  have hl : lv_has ls 9 [(0, .ref h0)] := hl
  refine lv_iconst (v := 0) hx hb dX12_isNothing_0 (by decide) ?_
  refine lv_istore_n (lv' := [(1, .int 0), (0, .ref h0)]) hx hb dX12_isNothing_1 rfl hl (by decide) rfl (fun ls hl => ?_)
  refine lv_iload_n hx hb dX12_isNothing_2 rfl (lv_at hl 0 rfl) ?_
  refine lv_aload_n hx hb dX12_isNothing_3 rfl (lv_at hl 1 rfl) ?_
  refine va_get (D := D) (ci := 12) (v := .int 0) (C := RX12) (T := TX12) (N := 62) hx hb hts iX12_isNothing_X12 hown hK hP 0 rfl rfl 53 (by decide) (hts (.fieldLink RX12 318 "PuppetBridgeModel" "letters" "I") mX12_isNothing_w0) (fun _ h9 => h9) rfl dX12_isNothing_4 ?_
  refine lv_icmp_ge (tgt := 267) hx hb dX12_isNothing_7 (by decide) (fun _ => ?_) (fun h9 => absurd h9 (by decide))
  refine lv_aload_n hx hb dX12_isNothing_267 rfl (lv_at hl 1 rfl) ?_
  refine va_get (D := D) (ci := 12) (v := .int 0) (C := RX12) (T := TX12) (N := 62) hx hb hts iX12_isNothing_X12 hown hK hP 0 rfl rfl 53 (by decide) (hts (.fieldLink RX12 318 "PuppetBridgeModel" "letters" "I") mX12_isNothing_w0) (fun _ h9 => h9) rfl dX12_isNothing_268 ?_
  refine lv_if_ne (tgt := 278) hx hb dX12_isNothing_271 (by decide) (fun h9 => absurd h9 (by decide)) (fun _ => ?_)
  refine lv_iconst (v := 1) hx hb dX12_isNothing_274 (by decide) ?_
  refine lv_goto (tgt := 279) hx hb dX12_isNothing_275 (by decide) ?_
  have hP9 := hP.sub (ws' := [(h0, .inr (12, [.ref z0, .ref z1, .ref z2, .ref z3, .ref z4, .ref z5, .ref z20, .ref z21, .ref z22, .ref z23, .ref z24, .ref z25, .int 0, .ref z26, .ref z27, .ref z28, .int 9, .int 0, .int 0, .ref z6, .ref z29, .ref z7, .int 0, .int 2, .ref z19, .ref z8, .ref z9, .ref z10, .int 0, .ref z11, .int 0, .ref z30, .ref z31, .ref z32, .ref z33, .int 0, .ref z12, .int 0, .int 0, .ref z34, .ref z35, .ref z36, .ref z37, .int 0, .int 0, .int 0, .int 0, .ref z38, .int 0, .ref z39, .ref z40, .ref z41, .ref z42, .int 0, .ref z13, .ref z14, .ref z15, .ref z16, .int 2, .ref z17, .ref z18, .ref z43]))]) [0] rfl
  have hD9 := hD.sub (ws' := [(h0, .inr (12, [.ref z0, .ref z1, .ref z2, .ref z3, .ref z4, .ref z5, .ref z20, .ref z21, .ref z22, .ref z23, .ref z24, .ref z25, .int 0, .ref z26, .ref z27, .ref z28, .int 9, .int 0, .int 0, .ref z6, .ref z29, .ref z7, .int 0, .int 2, .ref z19, .ref z8, .ref z9, .ref z10, .int 0, .ref z11, .int 0, .ref z30, .ref z31, .ref z32, .ref z33, .int 0, .ref z12, .int 0, .int 0, .ref z34, .ref z35, .ref z36, .ref z37, .int 0, .int 0, .int 0, .int 0, .ref z38, .int 0, .ref z39, .ref z40, .ref z41, .ref z42, .int 0, .ref z13, .ref z14, .ref z15, .ref z16, .int 2, .ref z17, .ref z18, .ref z43]))]) [0] (by decide) rfl
  exact W.zret (v := 1) hx hb hr rfl (fun t ht hW => ⟨⟨1, (), rfl, rfl, ⟨by rw [ht]; exact hP9, va_K.moved hW.alike hK, hD9⟩⟩, hS.F ht⟩) hS.2.2 dX12_isNothing_279

set_option maxHeartbeats 4000000 in
set_option maxRecDepth 100000 in
/-- X12_isFree -/
theorem kX12_isFree_2 (l : Launch) (D : va_G) (G : tyG) (h0 : Nat) (z13 : Nat) (z0 : Nat) (z1 : Nat) (z2 : Nat) (z3 : Nat) (z4 : Nat) (z5 : Nat) (z20 : Nat) (z21 : Nat) (z22 : Nat) (z23 : Nat) (z24 : Nat) (z25 : Nat) (z26 : Nat) (z27 : Nat) (z28 : Nat) (z6 : Nat) (z29 : Nat) (z7 : Nat) (z19 : Nat) (z8 : Nat) (z9 : Nat) (z10 : Nat) (z11 : Nat) (z30 : Nat) (z31 : Nat) (z32 : Nat) (z33 : Nat) (z12 : Nat) (z34 : Nat) (z35 : Nat) (z36 : Nat) (z37 : Nat) (z38 : Nat) (z39 : Nat) (z40 : Nat) (z41 : Nat) (z42 : Nat) (z14 : Nat) (z15 : Nat) (z16 : Nat) (z17 : Nat) (z18 : Nat) (z43 : Nat) (sz : Nat) : Met l yX12_isFree wsX12_isFree ({ frames := 1, cells := 0, slots := 0, locals := 28 }) (va_Pc [.ref h0, .int 0, .ref z13, .int 0] (wB D G sz [(h0, .inr (12, [.ref z0, .ref z1, .ref z2, .ref z3, .ref z4, .ref z5, .ref z20, .ref z21, .ref z22, .ref z23, .ref z24, .ref z25, .int 0, .ref z26, .ref z27, .ref z28, .int 9, .int 0, .int 0, .ref z6, .ref z29, .ref z7, .int 0, .int 2, .ref z19, .ref z8, .ref z9, .ref z10, .int 0, .ref z11, .int 0, .ref z30, .ref z31, .ref z32, .ref z33, .int 0, .ref z12, .int 0, .int 0, .ref z34, .ref z35, .ref z36, .ref z37, .int 0, .int 0, .int 0, .int 0, .ref z38, .int 0, .ref z39, .ref z40, .ref z41, .ref z42, .int 0, .ref z13, .ref z14, .ref z15, .ref z16, .int 2, .ref z17, .ref z18, .ref z43]))])) (va_Qi (fun (r : Int32) (_ : Unit) => r = 1) (fun _ t => wS D G (va_A [(h0, .inr (12, [.ref z0, .ref z1, .ref z2, .ref z3, .ref z4, .ref z5, .ref z20, .ref z21, .ref z22, .ref z23, .ref z24, .ref z25, .int 0, .ref z26, .ref z27, .ref z28, .int 9, .int 0, .int 0, .ref z6, .ref z29, .ref z7, .int 0, .int 2, .ref z19, .ref z8, .ref z9, .ref z10, .int 0, .ref z11, .int 0, .ref z30, .ref z31, .ref z32, .ref z33, .int 0, .ref z12, .int 0, .int 0, .ref z34, .ref z35, .ref z36, .ref z37, .int 0, .int 0, .int 0, .int 0, .ref z38, .int 0, .ref z39, .ref z40, .ref z41, .ref z42, .int 0, .ref z13, .ref z14, .ref z15, .ref z16, .int 2, .ref z17, .ref z18, .ref z43]))] sz) [(h0, .inr (12, [.ref z0, .ref z1, .ref z2, .ref z3, .ref z4, .ref z5, .ref z20, .ref z21, .ref z22, .ref z23, .ref z24, .ref z25, .int 0, .ref z26, .ref z27, .ref z28, .int 9, .int 0, .int 0, .ref z6, .ref z29, .ref z7, .int 0, .int 2, .ref z19, .ref z8, .ref z9, .ref z10, .int 0, .ref z11, .int 0, .ref z30, .ref z31, .ref z32, .ref z33, .int 0, .ref z12, .int 0, .int 0, .ref z34, .ref z35, .ref z36, .ref z37, .int 0, .int 0, .int 0, .int 0, .ref z38, .int 0, .ref z39, .ref z40, .ref z41, .ref z42, .int 0, .ref z13, .ref z14, .ref z15, .ref z16, .int 2, .ref z17, .ref z18, .ref z43]))] t) (va_A [(h0, .inr (12, [.ref z0, .ref z1, .ref z2, .ref z3, .ref z4, .ref z5, .ref z20, .ref z21, .ref z22, .ref z23, .ref z24, .ref z25, .int 0, .ref z26, .ref z27, .ref z28, .int 9, .int 0, .int 0, .ref z6, .ref z29, .ref z7, .int 0, .int 2, .ref z19, .ref z8, .ref z9, .ref z10, .int 0, .ref z11, .int 0, .ref z30, .ref z31, .ref z32, .ref z33, .int 0, .ref z12, .int 0, .int 0, .ref z34, .ref z35, .ref z36, .ref z37, .int 0, .int 0, .int 0, .int 0, .ref z38, .int 0, .ref z39, .ref z40, .ref z41, .ref z42, .int 0, .ref z13, .ref z14, .ref z15, .ref z16, .int 2, .ref z17, .ref z18, .ref z43]))] sz)) 0 0 (va_A [(h0, .inr (12, [.ref z0, .ref z1, .ref z2, .ref z3, .ref z4, .ref z5, .ref z20, .ref z21, .ref z22, .ref z23, .ref z24, .ref z25, .int 0, .ref z26, .ref z27, .ref z28, .int 9, .int 0, .int 0, .ref z6, .ref z29, .ref z7, .int 0, .int 2, .ref z19, .ref z8, .ref z9, .ref z10, .int 0, .ref z11, .int 0, .ref z30, .ref z31, .ref z32, .ref z33, .int 0, .ref z12, .int 0, .int 0, .ref z34, .ref z35, .ref z36, .ref z37, .int 0, .int 0, .int 0, .int 0, .ref z38, .int 0, .ref z39, .ref z40, .ref z41, .ref z42, .int 0, .ref z13, .ref z14, .ref z15, .ref z16, .int 2, .ref z17, .ref z18, .ref z43]))] sz) := by
  refine Met.ofW (cc := cX12_isFree) (maxL := 5) (ret := (some .boolean)) (by decide) rfl ?_
  intro p e s m args below meth c s₁ B hml hv
  obtain ⟨rfl, hsz, hP, hK, hD0, hN⟩ := hv
  have hx := B.exec
  have hb := B.bytes
  have hr := B.returns
  have hts := atoms_spec (ws := wsX12_isFree) B.pre
  have hown : s.vm.findClass RX12 = some m.cls := findClass_of_methodNamed B.named
  have hlocks := B.notSynchronized
  subst hsz
  have hD := hD0.self (sz := s.heap.size)
  generalize hAe : va_A [(h0, .inr (12, [.ref z0, .ref z1, .ref z2, .ref z3, .ref z4, .ref z5, .ref z20, .ref z21, .ref z22, .ref z23, .ref z24, .ref z25, .int 0, .ref z26, .ref z27, .ref z28, .int 9, .int 0, .int 0, .ref z6, .ref z29, .ref z7, .int 0, .int 2, .ref z19, .ref z8, .ref z9, .ref z10, .int 0, .ref z11, .int 0, .ref z30, .ref z31, .ref z32, .ref z33, .int 0, .ref z12, .int 0, .int 0, .ref z34, .ref z35, .ref z36, .ref z37, .int 0, .int 0, .int 0, .int 0, .ref z38, .int 0, .ref z39, .ref z40, .ref z41, .ref z42, .int 0, .ref z13, .ref z14, .ref z15, .ref z16, .int 2, .ref z17, .ref z18, .ref z43]))] s.heap.size = A at hD ⊢
  have hA : ∀ q : Nat, s.heap.size ≤ q → A q := fun q h => by rw [← hAe]; exact Or.inr h
  have hS : va_S A s.heap s.heap [] := va_S.rf
  have hP : va_P D vwCl [(h0, .inr (12, [.ref z0, .ref z1, .ref z2, .ref z3, .ref z4, .ref z5, .ref z20, .ref z21, .ref z22, .ref z23, .ref z24, .ref z25, .int 0, .ref z26, .ref z27, .ref z28, .int 9, .int 0, .int 0, .ref z6, .ref z29, .ref z7, .int 0, .int 2, .ref z19, .ref z8, .ref z9, .ref z10, .int 0, .ref z11, .int 0, .ref z30, .ref z31, .ref z32, .ref z33, .int 0, .ref z12, .int 0, .int 0, .ref z34, .ref z35, .ref z36, .ref z37, .int 0, .int 0, .int 0, .int 0, .ref z38, .int 0, .ref z39, .ref z40, .ref z41, .ref z42, .int 0, .ref z13, .ref z14, .ref z15, .ref z16, .int 2, .ref z17, .ref z18, .ref z43]))] s.heap := hP
  have hl := lv_entry ([.ref h0, .int 0, .ref z13, .int 0]) (n := 5) (Nat.le_of_ble_eq_true rfl)
  rw [lg_entry_eq]
  generalize (lg_sl ([.ref h0, .int 0, .ref z13, .int 0]) ++ List.replicate (5 - (lg_sl ([.ref h0, .int 0, .ref z13, .int 0])).length) Slot.unset).toArray = ls at hl ⊢
  have hl : lv_has ls 5 [(0, .ref h0), (1, .int 0), (2, .ref z13), (3, .int 0)] := hl
  refine lv_aload_n hx hb dX12_isFree_0 rfl (lv_at hl 0 rfl) ?_
  refine lv_iconst (v := 0) hx hb dX12_isFree_1 (by decide) ?_
  refine va_put (D := D) (ci := 12) (v := .int 0) (ty := (tyX12 53)) (C := RX12) (T := TX12) (N := 62) hx hb hts iX12_isFree_X12 tyX12 tyX12_ok nmX12 hown hK hP hD hS 0 rfl rfl 53 (by decide) (hts (.fieldLink RX12 318 "PuppetBridgeModel" "letters" "I") mX12_isFree_w0) (fun _ h9 => h9) rfl (tyX12_ok 53 (by decide)) rfl rfl (Nat.le_of_ble_eq_true rfl) dX12_isFree_2 (fun H locs hP hD hS => ?_)
  have hP : va_P D vwCl [(h0, .inr (12, [.ref z0, .ref z1, .ref z2, .ref z3, .ref z4, .ref z5, .ref z20, .ref z21, .ref z22, .ref z23, .ref z24, .ref z25, .int 0, .ref z26, .ref z27, .ref z28, .int 9, .int 0, .int 0, .ref z6, .ref z29, .ref z7, .int 0, .int 2, .ref z19, .ref z8, .ref z9, .ref z10, .int 0, .ref z11, .int 0, .ref z30, .ref z31, .ref z32, .ref z33, .int 0, .ref z12, .int 0, .int 0, .ref z34, .ref z35, .ref z36, .ref z37, .int 0, .int 0, .int 0, .int 0, .ref z38, .int 0, .ref z39, .ref z40, .ref z41, .ref z42, .int 0, .ref z13, .ref z14, .ref z15, .ref z16, .int 2, .ref z17, .ref z18, .ref z43]))] H := hP
  have hD : va_D A [(h0, .inr (12, [.ref z0, .ref z1, .ref z2, .ref z3, .ref z4, .ref z5, .ref z20, .ref z21, .ref z22, .ref z23, .ref z24, .ref z25, .int 0, .ref z26, .ref z27, .ref z28, .int 9, .int 0, .int 0, .ref z6, .ref z29, .ref z7, .int 0, .int 2, .ref z19, .ref z8, .ref z9, .ref z10, .int 0, .ref z11, .int 0, .ref z30, .ref z31, .ref z32, .ref z33, .int 0, .ref z12, .int 0, .int 0, .ref z34, .ref z35, .ref z36, .ref z37, .int 0, .int 0, .int 0, .int 0, .ref z38, .int 0, .ref z39, .ref z40, .ref z41, .ref z42, .int 0, .ref z13, .ref z14, .ref z15, .ref z16, .int 2, .ref z17, .ref z18, .ref z43]))] := hD
  refine lv_iload_n hx hb dX12_isFree_5 rfl (lv_at hl 1 rfl) ?_
  refine lv_istore (lv' := [(4, .int 0), (0, .ref h0), (1, .int 0), (2, .ref z13), (3, .int 0)]) hx hb dX12_isFree_6 hl (by decide) rfl (fun ls hl => ?_)
  refine lv_iload hx hb dX12_isFree_8 (lv_at hl 0 rfl) ?_
  refine lv_aload_n hx hb dX12_isFree_10 rfl (lv_at hl 1 rfl) ?_
  refine va_get (D := D) (ci := 12) (v := .int 0) (C := RX12) (T := TX12) (N := 62) hx hb hts iX12_isFree_X12 hown hK hP 0 rfl rfl 28 (by decide) (hts (.fieldLink RX12 297 "PuppetBridgeModel" "passMany" "I") mX12_isFree_w1) (fun _ h9 => h9) rfl dX12_isFree_11 ?_
  refine lv_icmp_ge (tgt := 34) hx hb dX12_isFree_14 (by decide) (fun _ => ?_) (fun h9 => absurd h9 (by decide))
  refine lv_iconst (v := 0) hx hb dX12_isFree_34 (by decide) ?_
  refine lv_istore (lv' := [(4, .int 0), (0, .ref h0), (1, .int 0), (2, .ref z13), (3, .int 0)]) hx hb dX12_isFree_35 hl (by decide) rfl (fun ls hl => ?_)
  refine lv_iload hx hb dX12_isFree_37 (lv_at hl 0 rfl) ?_
  refine lv_iload_n hx hb dX12_isFree_39 rfl (lv_at hl 4 rfl) ?_
  refine lv_icmp_ge (tgt := 57) hx hb dX12_isFree_40 (by decide) (fun _ => ?_) (fun h9 => absurd h9 (by decide))
  refine lv_aload_n hx hb dX12_isFree_57 rfl (lv_at hl 1 rfl) ?_
  have hPc := hP.sub (ws' := [(h0, .inr (12, [.ref z0, .ref z1, .ref z2, .ref z3, .ref z4, .ref z5, .ref z20, .ref z21, .ref z22, .ref z23, .ref z24, .ref z25, .int 0, .ref z26, .ref z27, .ref z28, .int 9, .int 0, .int 0, .ref z6, .ref z29, .ref z7, .int 0, .int 2, .ref z19, .ref z8, .ref z9, .ref z10, .int 0, .ref z11, .int 0, .ref z30, .ref z31, .ref z32, .ref z33, .int 0, .ref z12, .int 0, .int 0, .ref z34, .ref z35, .ref z36, .ref z37, .int 0, .int 0, .int 0, .int 0, .ref z38, .int 0, .ref z39, .ref z40, .ref z41, .ref z42, .int 0, .ref z13, .ref z14, .ref z15, .ref z16, .int 2, .ref z17, .ref z18, .ref z43]))]) [0] rfl
  have hDc := hD.sub (ws' := [(h0, .inr (12, [.ref z0, .ref z1, .ref z2, .ref z3, .ref z4, .ref z5, .ref z20, .ref z21, .ref z22, .ref z23, .ref z24, .ref z25, .int 0, .ref z26, .ref z27, .ref z28, .int 9, .int 0, .int 0, .ref z6, .ref z29, .ref z7, .int 0, .int 2, .ref z19, .ref z8, .ref z9, .ref z10, .int 0, .ref z11, .int 0, .ref z30, .ref z31, .ref z32, .ref z33, .int 0, .ref z12, .int 0, .int 0, .ref z34, .ref z35, .ref z36, .ref z37, .int 0, .int 0, .int 0, .int 0, .ref z38, .int 0, .ref z39, .ref z40, .ref z41, .ref z42, .int 0, .ref z13, .ref z14, .ref z15, .ref z16, .int 2, .ref z17, .ref z18, .ref z43]))]) [0] (by decide) rfl
  have hFc := va_free (wc := [(h0, .inr (12, [.ref z0, .ref z1, .ref z2, .ref z3, .ref z4, .ref z5, .ref z20, .ref z21, .ref z22, .ref z23, .ref z24, .ref z25, .int 0, .ref z26, .ref z27, .ref z28, .int 9, .int 0, .int 0, .ref z6, .ref z29, .ref z7, .int 0, .int 2, .ref z19, .ref z8, .ref z9, .ref z10, .int 0, .ref z11, .int 0, .ref z30, .ref z31, .ref z32, .ref z33, .int 0, .ref z12, .int 0, .int 0, .ref z34, .ref z35, .ref z36, .ref z37, .int 0, .int 0, .int 0, .int 0, .ref z38, .int 0, .ref z39, .ref z40, .ref z41, .ref z42, .int 0, .ref z13, .ref z14, .ref z15, .ref z16, .int 2, .ref z17, .ref z18, .ref z43]))]) hD hS hA [0] rfl
  refine va_calli (va_runV (As := []) (rest := []) ⟨hx, hb, hml, hown, hts⟩ (kX12_isNothing_2 l D G h0 z0 z1 z2 z3 z4 z5 z20 z21 z22 z23 z24 z25 z26 z27 z28 z6 z29 z7 z19 z8 z9 z10 z11 z30 z31 z32 z33 z12 z34 z35 z36 z37 z38 z39 z40 z41 z42 z13 z14 z15 z16 z17 z18 z43 H.size) (cwV 0 hts gX12_isFree_X12_isNothing rfl rfl rfl (by decide +kernel) ⟨Nat.le_of_ble_eq_true rfl, Nat.le_of_ble_eq_true rfl⟩) ⟨wB_blind, va_recv hK hPc (ci := 12) (q0 := 0) rfl rfl, wB_pre hPc hK hDc hN⟩ rfl rfl hl.1 rfl (lv_room (Nat.le_of_ble_eq_true rfl)) dX12_isFree_58 ⟨Nat.le_of_ble_eq_true rfl, Nat.le_of_ble_eq_true rfl⟩) hS (fun q _ h => hFc q h) hFc (fun r1 u t H1 locs ht hvm hr1 hB hz1 hk1 hS => ?_)
  obtain ⟨hP1, hK1, hD1⟩ := hB
  rw [ht] at hP1
  obtain ⟨hP, hD⟩ := va_join (wr := []) (w1 := [(h0, .inr (12, [.ref z0, .ref z1, .ref z2, .ref z3, .ref z4, .ref z5, .ref z20, .ref z21, .ref z22, .ref z23, .ref z24, .ref z25, .int 0, .ref z26, .ref z27, .ref z28, .int 9, .int 0, .int 0, .ref z6, .ref z29, .ref z7, .int 0, .int 2, .ref z19, .ref z8, .ref z9, .ref z10, .int 0, .ref z11, .int 0, .ref z30, .ref z31, .ref z32, .ref z33, .int 0, .ref z12, .int 0, .int 0, .ref z34, .ref z35, .ref z36, .ref z37, .int 0, .int 0, .int 0, .int 0, .ref z38, .int 0, .ref z39, .ref z40, .ref z41, .ref z42, .int 0, .ref z13, .ref z14, .ref z15, .ref z16, .int 2, .ref z17, .ref z18, .ref z43]))]) hP hD [0] [] rfl rfl (by decide) (by decide) hk1 hFc hP1 hD1
  clear hPc hDc
  generalize H1 = H at hP hS ⊢
  have hP : va_P D vwCl [(h0, .inr (12, [.ref z0, .ref z1, .ref z2, .ref z3, .ref z4, .ref z5, .ref z20, .ref z21, .ref z22, .ref z23, .ref z24, .ref z25, .int 0, .ref z26, .ref z27, .ref z28, .int 9, .int 0, .int 0, .ref z6, .ref z29, .ref z7, .int 0, .int 2, .ref z19, .ref z8, .ref z9, .ref z10, .int 0, .ref z11, .int 0, .ref z30, .ref z31, .ref z32, .ref z33, .int 0, .ref z12, .int 0, .int 0, .ref z34, .ref z35, .ref z36, .ref z37, .int 0, .int 0, .int 0, .int 0, .ref z38, .int 0, .ref z39, .ref z40, .ref z41, .ref z42, .int 0, .ref z13, .ref z14, .ref z15, .ref z16, .int 2, .ref z17, .ref z18, .ref z43]))] H := hP
  have hD : va_D A [(h0, .inr (12, [.ref z0, .ref z1, .ref z2, .ref z3, .ref z4, .ref z5, .ref z20, .ref z21, .ref z22, .ref z23, .ref z24, .ref z25, .int 0, .ref z26, .ref z27, .ref z28, .int 9, .int 0, .int 0, .ref z6, .ref z29, .ref z7, .int 0, .int 2, .ref z19, .ref z8, .ref z9, .ref z10, .int 0, .ref z11, .int 0, .ref z30, .ref z31, .ref z32, .ref z33, .int 0, .ref z12, .int 0, .int 0, .ref z34, .ref z35, .ref z36, .ref z37, .int 0, .int 0, .int 0, .int 0, .ref z38, .int 0, .ref z39, .ref z40, .ref z41, .ref z42, .int 0, .ref z13, .ref z14, .ref z15, .ref z16, .int 2, .ref z17, .ref z18, .ref z43]))] := hD
  subst hr1
  have hP9 := hP.sub (ws' := [(h0, .inr (12, [.ref z0, .ref z1, .ref z2, .ref z3, .ref z4, .ref z5, .ref z20, .ref z21, .ref z22, .ref z23, .ref z24, .ref z25, .int 0, .ref z26, .ref z27, .ref z28, .int 9, .int 0, .int 0, .ref z6, .ref z29, .ref z7, .int 0, .int 2, .ref z19, .ref z8, .ref z9, .ref z10, .int 0, .ref z11, .int 0, .ref z30, .ref z31, .ref z32, .ref z33, .int 0, .ref z12, .int 0, .int 0, .ref z34, .ref z35, .ref z36, .ref z37, .int 0, .int 0, .int 0, .int 0, .ref z38, .int 0, .ref z39, .ref z40, .ref z41, .ref z42, .int 0, .ref z13, .ref z14, .ref z15, .ref z16, .int 2, .ref z17, .ref z18, .ref z43]))]) [0] rfl
  have hD9 := hD.sub (ws' := [(h0, .inr (12, [.ref z0, .ref z1, .ref z2, .ref z3, .ref z4, .ref z5, .ref z20, .ref z21, .ref z22, .ref z23, .ref z24, .ref z25, .int 0, .ref z26, .ref z27, .ref z28, .int 9, .int 0, .int 0, .ref z6, .ref z29, .ref z7, .int 0, .int 2, .ref z19, .ref z8, .ref z9, .ref z10, .int 0, .ref z11, .int 0, .ref z30, .ref z31, .ref z32, .ref z33, .int 0, .ref z12, .int 0, .int 0, .ref z34, .ref z35, .ref z36, .ref z37, .int 0, .int 0, .int 0, .int 0, .ref z38, .int 0, .ref z39, .ref z40, .ref z41, .ref z42, .int 0, .ref z13, .ref z14, .ref z15, .ref z16, .int 2, .ref z17, .ref z18, .ref z43]))]) [0] (by decide) rfl
  exact W.zret (v := 1) hx hb hr rfl (fun t ht hW => ⟨⟨1, (), rfl, rfl, ⟨by rw [ht]; exact hP9, va_K.moved hW.alike hK, hD9⟩⟩, hS.F ht⟩) hS.2.2 dX12_isFree_61

theorem mX12_frees_w0 : Cond.constantLong RX12 343 (7) ∈ wsX12_frees := by decide +kernel
theorem mX12_frees_w1 : Cond.methodLink RX12 188 Lib.Math.max.name ∈ wsX12_frees := by decide +kernel
theorem mX12_frees_w2 : Cond.static Lib.Math.max.name ∈ wsX12_frees := by decide +kernel
theorem mX12_frees_w3 : Cond.initialized "java/lang/Math" ∈ wsX12_frees := by decide +kernel
theorem mX12_frees_w4 : Cond.code Lib.Math.max.name Lib.Math.max.code 2 (some .int) ∈ wsX12_frees := by decide +kernel
theorem mX12_frees_w5 : Cond.fieldLink RX12 133 "PuppetBridgeModel" "mark" "[J" ∈ wsX12_frees := by decide +kernel
theorem mX12_frees_w6 : Cond.fieldLink RX12 297 "PuppetBridgeModel" "passMany" "I" ∈ wsX12_frees := by decide +kernel
theorem mX12_frees_w8 : Cond.fieldLink RX12 130 "PuppetBridgeModel" "remedy" "[I" ∈ wsX12_frees := by decide +kernel
theorem iX12_frees_X12 : ∀ w ∈ wsX120, w ∈ wsX12_frees := fun _ h => List.mem_cons_of_mem _ (List.mem_append_right _ h)
set_option maxRecDepth 20000 in
theorem ggX12_frees_X12_contrary : GoodIn wsX12_frees wsX12_contrary := goodIn_r _ [13, 14, 15, 16] (by decide +kernel) (by decide +kernel)
set_option maxRecDepth 20000 in
theorem gX12_frees_X12_contrary : GoodIn wsX12_frees (va_wsS RX12 354 yX12_contrary wsX12_contrary) := goodIn_app (goodIn_of _ (by decide +kernel)) ggX12_frees_X12_contrary
set_option maxRecDepth 20000 in
theorem ggX12_frees_X12_gens : GoodIn wsX12_frees wsX12_gens := goodIn_r _ [20, 21, 66, 67, 68, 69, 70, 71, 72, 73, 74, 75, 76, 77, 78, 79, 80, 81, 82, 83, 84, 85, 86, 87, 88, 89, 90, 91, 92, 93, 94, 95, 96, 97, 98, 99, 100, 101, 102, 103, 104, 105, 106, 107, 108, 109, 110, 111, 112, 113, 114, 115, 116, 117, 118, 119, 120, 121, 122, 123, 124, 125, 126, 127] (by decide +kernel) (by decide +kernel)
set_option maxRecDepth 20000 in
theorem gX12_frees_X12_gens : GoodIn wsX12_frees (wsV RX12 345 RX12 yX12_gens wsX12_gens) := goodIn_app (goodIn_of _ (by decide +kernel)) ggX12_frees_X12_gens
set_option maxRecDepth 20000 in
theorem ggX12_frees_X12_power : GoodIn wsX12_frees wsX12_power := goodIn_r _ [24] (by decide +kernel) (by decide +kernel)
set_option maxRecDepth 20000 in
theorem gX12_frees_X12_power : GoodIn wsX12_frees (va_wsS RX12 348 yX12_power wsX12_power) := goodIn_app (goodIn_of _ (by decide +kernel)) ggX12_frees_X12_power
set_option maxRecDepth 20000 in
theorem ggX12_frees_X12_nothing : GoodIn wsX12_frees wsX12_nothing := goodIn_r _ [27] (by decide +kernel) (by decide +kernel)
set_option maxRecDepth 20000 in
theorem gX12_frees_X12_nothing : GoodIn wsX12_frees (va_wsS RX12 357 yX12_nothing wsX12_nothing) := goodIn_app (goodIn_of _ (by decide +kernel)) ggX12_frees_X12_nothing
set_option maxRecDepth 20000 in
theorem ggX12_frees_X12_fits : GoodIn wsX12_frees wsX12_fits := goodIn_r _ [45, 46, 66, 67, 68, 69, 70, 71, 72, 73, 74, 75, 76, 77, 78, 79, 80, 81, 82, 83, 84, 85, 86, 87, 88, 89, 90, 91, 92, 93, 94, 95, 96, 97, 98, 99, 100, 101, 102, 103, 104, 105, 106, 107, 108, 109, 110, 111, 112, 113, 114, 115, 116, 117, 118, 119, 120, 121, 122, 123, 124, 125, 126, 127] (by decide +kernel) (by decide +kernel)
set_option maxRecDepth 20000 in
theorem gX12_frees_X12_fits : GoodIn wsX12_frees (wsV RX12 372 RX12 yX12_fits wsX12_fits) := goodIn_app (goodIn_of _ (by decide +kernel)) ggX12_frees_X12_fits
set_option maxRecDepth 20000 in
theorem ggX12_frees_X12_isFree : GoodIn wsX12_frees wsX12_isFree := goodIn_r _ [50, 51, 7, 8, 52, 53, 54, 12, 55, 56, 57, 58, 59, 60, 31, 32, 4, 33, 61, 62, 63, 64, 65, 66, 67, 68, 69, 70, 71, 72, 73, 74, 75, 76, 77, 78, 79, 80, 81, 82, 83, 84, 85, 86, 87, 88, 89, 90, 91, 92, 93, 94, 95, 96, 97, 98, 99, 100, 101, 102, 103, 104, 105, 106, 107, 108, 109, 110, 111, 112, 113, 114, 115, 116, 117, 118, 119, 120, 121, 122, 123, 124, 125, 126, 127] (by decide +kernel) (by decide +kernel)
set_option maxRecDepth 20000 in
theorem gX12_frees_X12_isFree : GoodIn wsX12_frees (wsV RX12 331 RX12 yX12_isFree wsX12_isFree) := goodIn_app (goodIn_of _ (by decide +kernel)) ggX12_frees_X12_isFree
theorem dX12_frees_0 : decode cX12_frees 0 = .ok (.ldc2_w 343, 3) := by decide +kernel
theorem dX12_frees_3 : decode cX12_frees 3 = .ok (.invokestatic 354, 3) := by decide +kernel
theorem dX12_frees_6 : decode cX12_frees 6 = .ok (.lstore_n 2, 1) := by decide +kernel
theorem dX12_frees_7 : decode cX12_frees 7 = .ok (.iconst 0, 1) := by decide +kernel
theorem dX12_frees_8 : decode cX12_frees 8 = .ok (.iload_n 1, 1) := by decide +kernel
theorem dX12_frees_9 : decode cX12_frees 9 = .ok (.iconst 3, 1) := by decide +kernel
theorem dX12_frees_10 : decode cX12_frees 10 = .ok (.isub, 1) := by decide +kernel
theorem dX12_frees_11 : decode cX12_frees 11 = .ok (.invokestatic 188, 3) := by decide +kernel
theorem dX12_frees_14 : decode cX12_frees 14 = .ok (.istore 4, 2) := by decide +kernel
theorem dX12_frees_16 : decode cX12_frees 16 = .ok (.iload_n 1, 1) := by decide +kernel
theorem dX12_frees_17 : decode cX12_frees 17 = .ok (.iload 4, 2) := by decide +kernel
theorem dX12_frees_19 : decode cX12_frees 19 = .ok (.isub, 1) := by decide +kernel
theorem dX12_frees_20 : decode cX12_frees 20 = .ok (.istore 5, 2) := by decide +kernel
theorem dX12_frees_22 : decode cX12_frees 22 = .ok (.iconst 0, 1) := by decide +kernel
theorem dX12_frees_23 : decode cX12_frees 23 = .ok (.istore 6, 2) := by decide +kernel
theorem dX12_frees_25 : decode cX12_frees 25 = .ok (.iload 6, 2) := by decide +kernel
theorem dX12_frees_27 : decode cX12_frees 27 = .ok (.aload_n 0, 1) := by decide +kernel
theorem dX12_frees_28 : decode cX12_frees 28 = .ok (.invokevirtual 345, 3) := by decide +kernel
theorem dX12_frees_31 : decode cX12_frees 31 = .ok (.iload 4, 2) := by decide +kernel
theorem dX12_frees_33 : decode cX12_frees 33 = .ok (.invokestatic 348, 3) := by decide +kernel
theorem dX12_frees_36 : decode cX12_frees 36 = .ok (.if_icmp .ge 194, 3) := by decide +kernel
theorem dX12_frees_39 : decode cX12_frees 39 = .ok (.aload_n 0, 1) := by decide +kernel
theorem dX12_frees_40 : decode cX12_frees 40 = .ok (.getfield 133, 3) := by decide +kernel
theorem dX12_frees_43 : decode cX12_frees 43 = .ok (.invokestatic 357, 3) := by decide +kernel
theorem dX12_frees_46 : decode cX12_frees 46 = .ok (.iconst 0, 1) := by decide +kernel
theorem dX12_frees_47 : decode cX12_frees 47 = .ok (.istore 7, 2) := by decide +kernel
theorem dX12_frees_49 : decode cX12_frees 49 = .ok (.iload 7, 2) := by decide +kernel
theorem dX12_frees_51 : decode cX12_frees 51 = .ok (.aload_n 0, 1) := by decide +kernel
theorem dX12_frees_52 : decode cX12_frees 52 = .ok (.getfield 297, 3) := by decide +kernel
theorem dX12_frees_55 : decode cX12_frees 55 = .ok (.if_icmp .ge 24, 3) := by decide +kernel
theorem dX12_frees_79 : decode cX12_frees 79 = .ok (.iconst 0, 1) := by decide +kernel
theorem dX12_frees_80 : decode cX12_frees 80 = .ok (.istore 7, 2) := by decide +kernel
theorem dX12_frees_82 : decode cX12_frees 82 = .ok (.iload 7, 2) := by decide +kernel
theorem dX12_frees_84 : decode cX12_frees 84 = .ok (.iload 4, 2) := by decide +kernel
theorem dX12_frees_86 : decode cX12_frees 86 = .ok (.if_icmp .ge 41, 3) := by decide +kernel
theorem dX12_frees_127 : decode cX12_frees 127 = .ok (.iconst 0, 1) := by decide +kernel
theorem dX12_frees_128 : decode cX12_frees 128 = .ok (.istore 7, 2) := by decide +kernel
theorem dX12_frees_130 : decode cX12_frees 130 = .ok (.iload 7, 2) := by decide +kernel
theorem dX12_frees_132 : decode cX12_frees 132 = .ok (.aload_n 0, 1) := by decide +kernel
theorem dX12_frees_133 : decode cX12_frees 133 = .ok (.invokevirtual 345, 3) := by decide +kernel
theorem dX12_frees_136 : decode cX12_frees 136 = .ok (.iload 5, 2) := by decide +kernel
theorem dX12_frees_138 : decode cX12_frees 138 = .ok (.invokestatic 348, 3) := by decide +kernel
theorem dX12_frees_141 : decode cX12_frees 141 = .ok (.if_icmp .ge 83, 3) := by decide +kernel
theorem dX12_frees_144 : decode cX12_frees 144 = .ok (.aload_n 0, 1) := by decide +kernel
theorem dX12_frees_145 : decode cX12_frees 145 = .ok (.aload_n 0, 1) := by decide +kernel
theorem dX12_frees_146 : decode cX12_frees 146 = .ok (.getfield 133, 3) := by decide +kernel
theorem dX12_frees_149 : decode cX12_frees 149 = .ok (.sipush 512, 3) := by decide +kernel
theorem dX12_frees_152 : decode cX12_frees 152 = .ok (.iload 5, 2) := by decide +kernel
theorem dX12_frees_154 : decode cX12_frees 154 = .ok (.imul, 1) := by decide +kernel
theorem dX12_frees_155 : decode cX12_frees 155 = .ok (.iload 7, 2) := by decide +kernel
theorem dX12_frees_157 : decode cX12_frees 157 = .ok (.iadd, 1) := by decide +kernel
theorem dX12_frees_158 : decode cX12_frees 158 = .ok (.invokevirtual 372, 3) := by decide +kernel
theorem dX12_frees_161 : decode cX12_frees 161 = .ok (.ifCond .ne 6, 3) := by decide +kernel
theorem dX12_frees_167 : decode cX12_frees 167 = .ok (.iconst 0, 1) := by decide +kernel
theorem dX12_frees_168 : decode cX12_frees 168 = .ok (.istore 8, 2) := by decide +kernel
theorem dX12_frees_170 : decode cX12_frees 170 = .ok (.iload 8, 2) := by decide +kernel
theorem dX12_frees_172 : decode cX12_frees 172 = .ok (.iload 5, 2) := by decide +kernel
theorem dX12_frees_174 : decode cX12_frees 174 = .ok (.if_icmp .ge 29, 3) := by decide +kernel
theorem dX12_frees_203 : decode cX12_frees 203 = .ok (.aload_n 0, 1) := by decide +kernel
theorem dX12_frees_204 : decode cX12_frees 204 = .ok (.iconst 0, 1) := by decide +kernel
theorem dX12_frees_205 : decode cX12_frees 205 = .ok (.aload_n 0, 1) := by decide +kernel
theorem dX12_frees_206 : decode cX12_frees 206 = .ok (.getfield 130, 3) := by decide +kernel
theorem dX12_frees_209 : decode cX12_frees 209 = .ok (.iload_n 1, 1) := by decide +kernel
theorem dX12_frees_210 : decode cX12_frees 210 = .ok (.invokevirtual 331, 3) := by decide +kernel
theorem dX12_frees_213 : decode cX12_frees 213 = .ok (.ifCond .eq 5, 3) := by decide +kernel
theorem dX12_frees_216 : decode cX12_frees 216 = .ok (.iconst 1, 1) := by decide +kernel
theorem dX12_frees_217 : decode cX12_frees 217 = .ok (.ireturn, 1) := by decide +kernel
set_option maxHeartbeats 4000000 in
set_option maxRecDepth 100000 in
/-- X12_frees -/
theorem kX12_frees (l : Launch) (D : va_G) (G : tyG) (h0 : Nat) (z0 : Nat) (z1 : Nat) (z2 : Nat) (z3 : Nat) (z4 : Nat) (z5 : Nat) (z20 : Nat) (z21 : Nat) (z22 : Nat) (z23 : Nat) (z24 : Nat) (z25 : Nat) (z26 : Nat) (z27 : Nat) (z28 : Nat) (z6 : Nat) (z29 : Nat) (z7 : Nat) (z19 : Nat) (z8 : Nat) (z9 : Nat) (z10 : Nat) (z11 : Nat) (z30 : Nat) (z31 : Nat) (z32 : Nat) (z33 : Nat) (z12 : Nat) (z34 : Nat) (z35 : Nat) (z36 : Nat) (z37 : Nat) (z38 : Nat) (z39 : Nat) (z40 : Nat) (z41 : Nat) (z42 : Nat) (z13 : Nat) (z14 : Nat) (z15 : Nat) (z16 : Nat) (z17 : Nat) (z18 : Nat) (z43 : Nat) (ge : Nat → Int64) (hE : ∀ j : Nat, j < 25 → ge j = tIdn j) (sz : Nat) : Met l yX12_frees wsX12_frees ({ frames := 2, cells := 0, slots := 0, locals := 52 }) (va_Pc [.ref h0, .int 0] (wB D G sz [(h0, .inr (12, [.ref z0, .ref z1, .ref z2, .ref z3, .ref z4, .ref z5, .ref z20, .ref z21, .ref z22, .ref z23, .ref z24, .ref z25, .int 0, .ref z26, .ref z27, .ref z28, .int 9, .int 0, .int 0, .ref z6, .ref z29, .ref z7, .int 0, .int 2, .ref z19, .ref z8, .ref z9, .ref z10, .int 0, .ref z11, .int 0, .ref z30, .ref z31, .ref z32, .ref z33, .int 0, .ref z12, .int 0, .int 0, .ref z34, .ref z35, .ref z36, .ref z37, .int 0, .int 0, .int 0, .int 0, .ref z38, .int 0, .ref z39, .ref z40, .ref z41, .ref z42, .int 0, .ref z13, .ref z14, .ref z15, .ref z16, .int 2, .ref z17, .ref z18, .ref z43])), (z14, .inl (G.2.1, 25, .inr (.inl (fun _ => 0)))), (z16, .inl (G.2.1, 51200, .inr (.inl ge)))])) (va_Qi (fun (r : Int32) (_ : Unit) => r = 1) (fun _ t => wS D G (va_A [(h0, .inr (12, [.ref z0, .ref z1, .ref z2, .ref z3, .ref z4, .ref z5, .ref z20, .ref z21, .ref z22, .ref z23, .ref z24, .ref z25, .int 0, .ref z26, .ref z27, .ref z28, .int 9, .int 0, .int 0, .ref z6, .ref z29, .ref z7, .int 0, .int 2, .ref z19, .ref z8, .ref z9, .ref z10, .int 0, .ref z11, .int 0, .ref z30, .ref z31, .ref z32, .ref z33, .int 0, .ref z12, .int 0, .int 0, .ref z34, .ref z35, .ref z36, .ref z37, .int 0, .int 0, .int 0, .int 0, .ref z38, .int 0, .ref z39, .ref z40, .ref z41, .ref z42, .int 0, .ref z13, .ref z14, .ref z15, .ref z16, .int 2, .ref z17, .ref z18, .ref z43])), (z14, .inl (G.2.1, 25, .inr (.inl (fun _ => 0)))), (z16, .inl (G.2.1, 51200, .inr (.inl ge)))] sz) [(h0, .inr (12, [.ref z0, .ref z1, .ref z2, .ref z3, .ref z4, .ref z5, .ref z20, .ref z21, .ref z22, .ref z23, .ref z24, .ref z25, .int 0, .ref z26, .ref z27, .ref z28, .int 9, .int 0, .int 0, .ref z6, .ref z29, .ref z7, .int 0, .int 2, .ref z19, .ref z8, .ref z9, .ref z10, .int 0, .ref z11, .int 0, .ref z30, .ref z31, .ref z32, .ref z33, .int 0, .ref z12, .int 0, .int 0, .ref z34, .ref z35, .ref z36, .ref z37, .int 0, .int 0, .int 0, .int 0, .ref z38, .int 0, .ref z39, .ref z40, .ref z41, .ref z42, .int 0, .ref z13, .ref z14, .ref z15, .ref z16, .int 2, .ref z17, .ref z18, .ref z43]))] t) (va_A [(h0, .inr (12, [.ref z0, .ref z1, .ref z2, .ref z3, .ref z4, .ref z5, .ref z20, .ref z21, .ref z22, .ref z23, .ref z24, .ref z25, .int 0, .ref z26, .ref z27, .ref z28, .int 9, .int 0, .int 0, .ref z6, .ref z29, .ref z7, .int 0, .int 2, .ref z19, .ref z8, .ref z9, .ref z10, .int 0, .ref z11, .int 0, .ref z30, .ref z31, .ref z32, .ref z33, .int 0, .ref z12, .int 0, .int 0, .ref z34, .ref z35, .ref z36, .ref z37, .int 0, .int 0, .int 0, .int 0, .ref z38, .int 0, .ref z39, .ref z40, .ref z41, .ref z42, .int 0, .ref z13, .ref z14, .ref z15, .ref z16, .int 2, .ref z17, .ref z18, .ref z43])), (z14, .inl (G.2.1, 25, .inr (.inl (fun _ => 0)))), (z16, .inl (G.2.1, 51200, .inr (.inl ge)))] sz)) 0 0 (va_A [(h0, .inr (12, [.ref z0, .ref z1, .ref z2, .ref z3, .ref z4, .ref z5, .ref z20, .ref z21, .ref z22, .ref z23, .ref z24, .ref z25, .int 0, .ref z26, .ref z27, .ref z28, .int 9, .int 0, .int 0, .ref z6, .ref z29, .ref z7, .int 0, .int 2, .ref z19, .ref z8, .ref z9, .ref z10, .int 0, .ref z11, .int 0, .ref z30, .ref z31, .ref z32, .ref z33, .int 0, .ref z12, .int 0, .int 0, .ref z34, .ref z35, .ref z36, .ref z37, .int 0, .int 0, .int 0, .int 0, .ref z38, .int 0, .ref z39, .ref z40, .ref z41, .ref z42, .int 0, .ref z13, .ref z14, .ref z15, .ref z16, .int 2, .ref z17, .ref z18, .ref z43])), (z14, .inl (G.2.1, 25, .inr (.inl (fun _ => 0)))), (z16, .inl (G.2.1, 51200, .inr (.inl ge)))] sz) := by
  refine Met.ofW (cc := cX12_frees) (maxL := 9) (ret := (some .boolean)) (by decide) rfl ?_
  intro p e s m args below meth c s₁ B hml hv
  obtain ⟨rfl, hsz, hP, hK, hD0, hN⟩ := hv
  have hx := B.exec
  have hb := B.bytes
  have hr := B.returns
  have hts := atoms_spec (ws := wsX12_frees) B.pre
  have hown : s.vm.findClass RX12 = some m.cls := findClass_of_methodNamed B.named
  have hlocks := B.notSynchronized
  subst hsz
  have hD := hD0.self (sz := s.heap.size)
  generalize hAe : va_A [(h0, .inr (12, [.ref z0, .ref z1, .ref z2, .ref z3, .ref z4, .ref z5, .ref z20, .ref z21, .ref z22, .ref z23, .ref z24, .ref z25, .int 0, .ref z26, .ref z27, .ref z28, .int 9, .int 0, .int 0, .ref z6, .ref z29, .ref z7, .int 0, .int 2, .ref z19, .ref z8, .ref z9, .ref z10, .int 0, .ref z11, .int 0, .ref z30, .ref z31, .ref z32, .ref z33, .int 0, .ref z12, .int 0, .int 0, .ref z34, .ref z35, .ref z36, .ref z37, .int 0, .int 0, .int 0, .int 0, .ref z38, .int 0, .ref z39, .ref z40, .ref z41, .ref z42, .int 0, .ref z13, .ref z14, .ref z15, .ref z16, .int 2, .ref z17, .ref z18, .ref z43])), (z14, .inl (G.2.1, 25, .inr (.inl (fun _ => 0)))), (z16, .inl (G.2.1, 51200, .inr (.inl ge)))] s.heap.size = A at hD ⊢
  have hA : ∀ q : Nat, s.heap.size ≤ q → A q := fun q h => by rw [← hAe]; exact Or.inr h
  have hS : va_S A s.heap s.heap [] := va_S.rf
  have hP : va_P D vwCl [(h0, .inr (12, [.ref z0, .ref z1, .ref z2, .ref z3, .ref z4, .ref z5, .ref z20, .ref z21, .ref z22, .ref z23, .ref z24, .ref z25, .int 0, .ref z26, .ref z27, .ref z28, .int 9, .int 0, .int 0, .ref z6, .ref z29, .ref z7, .int 0, .int 2, .ref z19, .ref z8, .ref z9, .ref z10, .int 0, .ref z11, .int 0, .ref z30, .ref z31, .ref z32, .ref z33, .int 0, .ref z12, .int 0, .int 0, .ref z34, .ref z35, .ref z36, .ref z37, .int 0, .int 0, .int 0, .int 0, .ref z38, .int 0, .ref z39, .ref z40, .ref z41, .ref z42, .int 0, .ref z13, .ref z14, .ref z15, .ref z16, .int 2, .ref z17, .ref z18, .ref z43])), (z14, .inl (G.2.1, 25, .inr (.inl (fun _ => 0)))), (z16, .inl (G.2.1, 51200, .inr (.inl ge)))] s.heap := hP
  have hl := lv_entry ([.ref h0, .int 0]) (n := 9) (Nat.le_of_ble_eq_true rfl)
  rw [lg_entry_eq]
  generalize (lg_sl ([.ref h0, .int 0]) ++ List.replicate (9 - (lg_sl ([.ref h0, .int 0])).length) Slot.unset).toArray = ls at hl ⊢
  have hl : lv_has ls 9 [(0, .ref h0), (1, .int 0)] := hl
  refine lv_ldc2 (v := 7) hx hb hown (hts (.constantLong RX12 343 (7)) mX12_frees_w0) dX12_frees_0 ?_
  have hPc := hP.sub (ws' := []) [] rfl
  have hDc := hD.sub (ws' := []) [] (by decide) rfl
  have hFc := va_free (wc := []) hD hS hA [] rfl
  refine va_calll (va_runS (As := [.long 7]) (rest := []) ⟨hx, hb, hml, hown, hts⟩ (kX12_contrary l D G  s.heap.size) (va_cwS 1 hts gX12_frees_X12_contrary rfl rfl rfl (by decide +kernel) ⟨Nat.le_of_ble_eq_true rfl, Nat.le_of_ble_eq_true rfl⟩) ⟨wB_blind, wB_pre hPc hK hDc hN⟩ rfl rfl hl.1 rfl (lv_room (Nat.le_of_ble_eq_true rfl)) dX12_frees_3 ⟨Nat.le_of_ble_eq_true rfl, Nat.le_of_ble_eq_true rfl⟩) hS (fun q _ h => hFc q h) hFc (fun r1 u t H1 locs ht hvm hr1 hB hz1 hk1 hS => ?_)
  obtain ⟨hP, hD⟩ := va_join (wr := [(h0, .inr (12, [.ref z0, .ref z1, .ref z2, .ref z3, .ref z4, .ref z5, .ref z20, .ref z21, .ref z22, .ref z23, .ref z24, .ref z25, .int 0, .ref z26, .ref z27, .ref z28, .int 9, .int 0, .int 0, .ref z6, .ref z29, .ref z7, .int 0, .int 2, .ref z19, .ref z8, .ref z9, .ref z10, .int 0, .ref z11, .int 0, .ref z30, .ref z31, .ref z32, .ref z33, .int 0, .ref z12, .int 0, .int 0, .ref z34, .ref z35, .ref z36, .ref z37, .int 0, .int 0, .int 0, .int 0, .ref z38, .int 0, .ref z39, .ref z40, .ref z41, .ref z42, .int 0, .ref z13, .ref z14, .ref z15, .ref z16, .int 2, .ref z17, .ref z18, .ref z43])), (z14, .inl (G.2.1, 25, .inr (.inl (fun _ => 0)))), (z16, .inl (G.2.1, 51200, .inr (.inl ge)))]) (w1 := []) hP hD [] [0, 1, 2] rfl rfl (by decide) (by decide) hk1 hFc wP_nil wD_nil
  clear hPc hDc
  generalize H1 = H at hP hS ⊢
  have hP : va_P D vwCl [(h0, .inr (12, [.ref z0, .ref z1, .ref z2, .ref z3, .ref z4, .ref z5, .ref z20, .ref z21, .ref z22, .ref z23, .ref z24, .ref z25, .int 0, .ref z26, .ref z27, .ref z28, .int 9, .int 0, .int 0, .ref z6, .ref z29, .ref z7, .int 0, .int 2, .ref z19, .ref z8, .ref z9, .ref z10, .int 0, .ref z11, .int 0, .ref z30, .ref z31, .ref z32, .ref z33, .int 0, .ref z12, .int 0, .int 0, .ref z34, .ref z35, .ref z36, .ref z37, .int 0, .int 0, .int 0, .int 0, .ref z38, .int 0, .ref z39, .ref z40, .ref z41, .ref z42, .int 0, .ref z13, .ref z14, .ref z15, .ref z16, .int 2, .ref z17, .ref z18, .ref z43])), (z14, .inl (G.2.1, 25, .inr (.inl (fun _ => 0)))), (z16, .inl (G.2.1, 51200, .inr (.inl ge)))] H := hP
  have hD : va_D A [(h0, .inr (12, [.ref z0, .ref z1, .ref z2, .ref z3, .ref z4, .ref z5, .ref z20, .ref z21, .ref z22, .ref z23, .ref z24, .ref z25, .int 0, .ref z26, .ref z27, .ref z28, .int 9, .int 0, .int 0, .ref z6, .ref z29, .ref z7, .int 0, .int 2, .ref z19, .ref z8, .ref z9, .ref z10, .int 0, .ref z11, .int 0, .ref z30, .ref z31, .ref z32, .ref z33, .int 0, .ref z12, .int 0, .int 0, .ref z34, .ref z35, .ref z36, .ref z37, .int 0, .int 0, .int 0, .int 0, .ref z38, .int 0, .ref z39, .ref z40, .ref z41, .ref z42, .int 0, .ref z13, .ref z14, .ref z15, .ref z16, .int 2, .ref z17, .ref z18, .ref z43])), (z14, .inl (G.2.1, 25, .inr (.inl (fun _ => 0)))), (z16, .inl (G.2.1, 51200, .inr (.inl ge)))] := hD
  subst hr1
  refine lv_lstore_n (lv' := [(2, .long 714288), (0, .ref h0), (1, .int 0)]) hx hb dX12_frees_6 rfl hl (by decide) rfl (fun ls hl => ?_)
  refine lv_iconst (v := 0) hx hb dX12_frees_7 (by decide) ?_
  refine lv_iload_n hx hb dX12_frees_8 rfl (lv_at hl 2 rfl) ?_
  refine lv_iconst (v := 3) hx hb dX12_frees_9 (by decide) ?_
  refine lv_isub hx hb dX12_frees_10 ?_
  refine wk_i (-3) (by decide) ?_
  refine va_mmax hx hb (by rw [hml]; exact hl.1.symm) hown (hts (.methodLink RX12 188 Lib.Math.max.name) mX12_frees_w1) (hts (.static Lib.Math.max.name) mX12_frees_w2) (hts (.initialized "java/lang/Math") mX12_frees_w3) (hts (.code Lib.Math.max.name Lib.Math.max.code 2 (some .int)) mX12_frees_w4) (Nat.le_of_ble_eq_true rfl) (Nat.le_of_ble_eq_true rfl) (Nat.le_of_ble_eq_true rfl) (Nat.le_of_ble_eq_true rfl) dX12_frees_11 ?_
  refine wk_i 0 (by decide) ?_
  refine lv_istore (lv' := [(4, .int 0), (2, .long 714288), (0, .ref h0), (1, .int 0)]) hx hb dX12_frees_14 hl (by decide) rfl (fun ls hl => ?_)
  refine lv_iload_n hx hb dX12_frees_16 rfl (lv_at hl 3 rfl) ?_
  refine lv_iload hx hb dX12_frees_17 (lv_at hl 0 rfl) ?_
  refine lv_isub hx hb dX12_frees_19 ?_
  refine wk_i 0 (by decide) ?_
  refine lv_istore (lv' := [(5, .int 0), (4, .int 0), (2, .long 714288), (0, .ref h0), (1, .int 0)]) hx hb dX12_frees_20 hl (by decide) rfl (fun ls hl => ?_)
  refine lv_iconst (v := 0) hx hb dX12_frees_22 (by decide) ?_
  refine lv_istore (lv' := [(6, .int 0), (5, .int 0), (4, .int 0), (2, .long 714288), (0, .ref h0), (1, .int 0)]) hx hb dX12_frees_23 hl (by decide) rfl (fun ls hl => ?_)
  refine lv_iload hx hb dX12_frees_25 (lv_at hl 0 rfl) ?_
  refine lv_aload_n hx hb dX12_frees_27 rfl (lv_at hl 4 rfl) ?_
  have hPc := hP.sub (ws' := [(h0, .inr (12, [.ref z0, .ref z1, .ref z2, .ref z3, .ref z4, .ref z5, .ref z20, .ref z21, .ref z22, .ref z23, .ref z24, .ref z25, .int 0, .ref z26, .ref z27, .ref z28, .int 9, .int 0, .int 0, .ref z6, .ref z29, .ref z7, .int 0, .int 2, .ref z19, .ref z8, .ref z9, .ref z10, .int 0, .ref z11, .int 0, .ref z30, .ref z31, .ref z32, .ref z33, .int 0, .ref z12, .int 0, .int 0, .ref z34, .ref z35, .ref z36, .ref z37, .int 0, .int 0, .int 0, .int 0, .ref z38, .int 0, .ref z39, .ref z40, .ref z41, .ref z42, .int 0, .ref z13, .ref z14, .ref z15, .ref z16, .int 2, .ref z17, .ref z18, .ref z43]))]) [0] rfl
  have hDc := hD.sub (ws' := [(h0, .inr (12, [.ref z0, .ref z1, .ref z2, .ref z3, .ref z4, .ref z5, .ref z20, .ref z21, .ref z22, .ref z23, .ref z24, .ref z25, .int 0, .ref z26, .ref z27, .ref z28, .int 9, .int 0, .int 0, .ref z6, .ref z29, .ref z7, .int 0, .int 2, .ref z19, .ref z8, .ref z9, .ref z10, .int 0, .ref z11, .int 0, .ref z30, .ref z31, .ref z32, .ref z33, .int 0, .ref z12, .int 0, .int 0, .ref z34, .ref z35, .ref z36, .ref z37, .int 0, .int 0, .int 0, .int 0, .ref z38, .int 0, .ref z39, .ref z40, .ref z41, .ref z42, .int 0, .ref z13, .ref z14, .ref z15, .ref z16, .int 2, .ref z17, .ref z18, .ref z43]))]) [0] (by decide) rfl
  have hFc := va_free (wc := [(h0, .inr (12, [.ref z0, .ref z1, .ref z2, .ref z3, .ref z4, .ref z5, .ref z20, .ref z21, .ref z22, .ref z23, .ref z24, .ref z25, .int 0, .ref z26, .ref z27, .ref z28, .int 9, .int 0, .int 0, .ref z6, .ref z29, .ref z7, .int 0, .int 2, .ref z19, .ref z8, .ref z9, .ref z10, .int 0, .ref z11, .int 0, .ref z30, .ref z31, .ref z32, .ref z33, .int 0, .ref z12, .int 0, .int 0, .ref z34, .ref z35, .ref z36, .ref z37, .int 0, .int 0, .int 0, .int 0, .ref z38, .int 0, .ref z39, .ref z40, .ref z41, .ref z42, .int 0, .ref z13, .ref z14, .ref z15, .ref z16, .int 2, .ref z17, .ref z18, .ref z43]))]) hD hS hA [0] rfl
  refine va_calli (va_runV (As := []) (rest := [.int 0]) ⟨hx, hb, hml, hown, hts⟩ (kX12_gens l D G h0 z0 z1 z2 z3 z4 z5 z20 z21 z22 z23 z24 z25 z26 z27 z28 z6 z29 z7 z19 z8 z9 z10 z11 z30 z31 z32 z33 z12 z34 z35 z36 z37 z38 z39 z40 z41 z42 z13 z14 z15 z16 z17 z18 z43 2 H.size) (cwV 0 hts gX12_frees_X12_gens rfl rfl rfl (by decide +kernel) ⟨Nat.le_of_ble_eq_true rfl, Nat.le_of_ble_eq_true rfl⟩) ⟨wB_blind, va_recv hK hPc (ci := 12) (q0 := 0) rfl rfl, wB_pre hPc hK hDc hN⟩ rfl rfl hl.1 rfl (lv_room (Nat.le_of_ble_eq_true rfl)) dX12_frees_28 ⟨Nat.le_of_ble_eq_true rfl, Nat.le_of_ble_eq_true rfl⟩) hS (fun q _ h => hFc q h) hFc (fun r2 u t H1 locs ht hvm hr2 hB hz1 hk1 hS => ?_)
  obtain ⟨hP1, hK1, hD1⟩ := hB
  rw [ht] at hP1
  obtain ⟨hP, hD⟩ := va_join (wr := [(z14, .inl (G.2.1, 25, .inr (.inl (fun _ => 0)))), (z16, .inl (G.2.1, 51200, .inr (.inl ge)))]) (w1 := [(h0, .inr (12, [.ref z0, .ref z1, .ref z2, .ref z3, .ref z4, .ref z5, .ref z20, .ref z21, .ref z22, .ref z23, .ref z24, .ref z25, .int 0, .ref z26, .ref z27, .ref z28, .int 9, .int 0, .int 0, .ref z6, .ref z29, .ref z7, .int 0, .int 2, .ref z19, .ref z8, .ref z9, .ref z10, .int 0, .ref z11, .int 0, .ref z30, .ref z31, .ref z32, .ref z33, .int 0, .ref z12, .int 0, .int 0, .ref z34, .ref z35, .ref z36, .ref z37, .int 0, .int 0, .int 0, .int 0, .ref z38, .int 0, .ref z39, .ref z40, .ref z41, .ref z42, .int 0, .ref z13, .ref z14, .ref z15, .ref z16, .int 2, .ref z17, .ref z18, .ref z43]))]) hP hD [0] [1, 2] rfl rfl (by decide) (by decide) hk1 hFc hP1 hD1
  clear hPc hDc
  generalize H1 = H at hP hS ⊢
  have hP : va_P D vwCl [(z14, .inl (G.2.1, 25, .inr (.inl (fun _ => 0)))), (z16, .inl (G.2.1, 51200, .inr (.inl ge))), (h0, .inr (12, [.ref z0, .ref z1, .ref z2, .ref z3, .ref z4, .ref z5, .ref z20, .ref z21, .ref z22, .ref z23, .ref z24, .ref z25, .int 0, .ref z26, .ref z27, .ref z28, .int 9, .int 0, .int 0, .ref z6, .ref z29, .ref z7, .int 0, .int 2, .ref z19, .ref z8, .ref z9, .ref z10, .int 0, .ref z11, .int 0, .ref z30, .ref z31, .ref z32, .ref z33, .int 0, .ref z12, .int 0, .int 0, .ref z34, .ref z35, .ref z36, .ref z37, .int 0, .int 0, .int 0, .int 0, .ref z38, .int 0, .ref z39, .ref z40, .ref z41, .ref z42, .int 0, .ref z13, .ref z14, .ref z15, .ref z16, .int 2, .ref z17, .ref z18, .ref z43]))] H := hP
  have hD : va_D A [(z14, .inl (G.2.1, 25, .inr (.inl (fun _ => 0)))), (z16, .inl (G.2.1, 51200, .inr (.inl ge))), (h0, .inr (12, [.ref z0, .ref z1, .ref z2, .ref z3, .ref z4, .ref z5, .ref z20, .ref z21, .ref z22, .ref z23, .ref z24, .ref z25, .int 0, .ref z26, .ref z27, .ref z28, .int 9, .int 0, .int 0, .ref z6, .ref z29, .ref z7, .int 0, .int 2, .ref z19, .ref z8, .ref z9, .ref z10, .int 0, .ref z11, .int 0, .ref z30, .ref z31, .ref z32, .ref z33, .int 0, .ref z12, .int 0, .int 0, .ref z34, .ref z35, .ref z36, .ref z37, .int 0, .int 0, .int 0, .int 0, .ref z38, .int 0, .ref z39, .ref z40, .ref z41, .ref z42, .int 0, .ref z13, .ref z14, .ref z15, .ref z16, .int 2, .ref z17, .ref z18, .ref z43]))] := hD
  subst hr2
  refine lv_iload hx hb dX12_frees_31 (lv_at hl 2 rfl) ?_
  have hPc := hP.sub (ws' := []) [] rfl
  have hDc := hD.sub (ws' := []) [] (by decide) rfl
  have hFc := va_free (wc := []) hD hS hA [] rfl
  refine va_calli (va_runS (As := [.int 2, .int 0]) (rest := [.int 0]) ⟨hx, hb, hml, hown, hts⟩ (kX12_power_0 l D G  H.size) (va_cwS 2 hts gX12_frees_X12_power rfl rfl rfl (by decide +kernel) ⟨Nat.le_of_ble_eq_true rfl, Nat.le_of_ble_eq_true rfl⟩) ⟨wB_blind, wB_pre hPc hK hDc hN⟩ rfl rfl hl.1 rfl (lv_room (Nat.le_of_ble_eq_true rfl)) dX12_frees_33 ⟨Nat.le_of_ble_eq_true rfl, Nat.le_of_ble_eq_true rfl⟩) hS (fun q _ h => hFc q h) hFc (fun r3 u t H1 locs ht hvm hr3 hB hz1 hk1 hS => ?_)
  obtain ⟨hP, hD⟩ := va_join (wr := [(z14, .inl (G.2.1, 25, .inr (.inl (fun _ => 0)))), (z16, .inl (G.2.1, 51200, .inr (.inl ge))), (h0, .inr (12, [.ref z0, .ref z1, .ref z2, .ref z3, .ref z4, .ref z5, .ref z20, .ref z21, .ref z22, .ref z23, .ref z24, .ref z25, .int 0, .ref z26, .ref z27, .ref z28, .int 9, .int 0, .int 0, .ref z6, .ref z29, .ref z7, .int 0, .int 2, .ref z19, .ref z8, .ref z9, .ref z10, .int 0, .ref z11, .int 0, .ref z30, .ref z31, .ref z32, .ref z33, .int 0, .ref z12, .int 0, .int 0, .ref z34, .ref z35, .ref z36, .ref z37, .int 0, .int 0, .int 0, .int 0, .ref z38, .int 0, .ref z39, .ref z40, .ref z41, .ref z42, .int 0, .ref z13, .ref z14, .ref z15, .ref z16, .int 2, .ref z17, .ref z18, .ref z43]))]) (w1 := []) hP hD [] [0, 1, 2] rfl rfl (by decide) (by decide) hk1 hFc wP_nil wD_nil
  clear hPc hDc
  generalize H1 = H at hP hS ⊢
  have hP : va_P D vwCl [(z14, .inl (G.2.1, 25, .inr (.inl (fun _ => 0)))), (z16, .inl (G.2.1, 51200, .inr (.inl ge))), (h0, .inr (12, [.ref z0, .ref z1, .ref z2, .ref z3, .ref z4, .ref z5, .ref z20, .ref z21, .ref z22, .ref z23, .ref z24, .ref z25, .int 0, .ref z26, .ref z27, .ref z28, .int 9, .int 0, .int 0, .ref z6, .ref z29, .ref z7, .int 0, .int 2, .ref z19, .ref z8, .ref z9, .ref z10, .int 0, .ref z11, .int 0, .ref z30, .ref z31, .ref z32, .ref z33, .int 0, .ref z12, .int 0, .int 0, .ref z34, .ref z35, .ref z36, .ref z37, .int 0, .int 0, .int 0, .int 0, .ref z38, .int 0, .ref z39, .ref z40, .ref z41, .ref z42, .int 0, .ref z13, .ref z14, .ref z15, .ref z16, .int 2, .ref z17, .ref z18, .ref z43]))] H := hP
  have hD : va_D A [(z14, .inl (G.2.1, 25, .inr (.inl (fun _ => 0)))), (z16, .inl (G.2.1, 51200, .inr (.inl ge))), (h0, .inr (12, [.ref z0, .ref z1, .ref z2, .ref z3, .ref z4, .ref z5, .ref z20, .ref z21, .ref z22, .ref z23, .ref z24, .ref z25, .int 0, .ref z26, .ref z27, .ref z28, .int 9, .int 0, .int 0, .ref z6, .ref z29, .ref z7, .int 0, .int 2, .ref z19, .ref z8, .ref z9, .ref z10, .int 0, .ref z11, .int 0, .ref z30, .ref z31, .ref z32, .ref z33, .int 0, .ref z12, .int 0, .int 0, .ref z34, .ref z35, .ref z36, .ref z37, .int 0, .int 0, .int 0, .int 0, .ref z38, .int 0, .ref z39, .ref z40, .ref z41, .ref z42, .int 0, .ref z13, .ref z14, .ref z15, .ref z16, .int 2, .ref z17, .ref z18, .ref z43]))] := hD
  subst hr3
  refine lv_icmp_ge (tgt := 230) hx hb dX12_frees_36 (by decide) (fun h9 => absurd h9 (by decide)) (fun _ => ?_)
  refine lv_aload_n hx hb dX12_frees_39 rfl (lv_at hl 4 rfl) ?_
  refine va_get (D := D) (ci := 12) (v := .ref z14) (C := RX12) (T := TX12) (N := 62) hx hb hts iX12_frees_X12 hown hK hP 2 rfl rfl 55 (by decide) (hts (.fieldLink RX12 133 "PuppetBridgeModel" "mark" "[J") mX12_frees_w5) (fun _ h9 => h9) rfl dX12_frees_40 ?_
  have hPc := hP.sub (ws' := [(z14, .inl (G.2.1, 25, .inr (.inl (fun _ => 0))))]) [0] rfl
  have hDc := hD.sub (ws' := [(z14, .inl (G.2.1, 25, .inr (.inl (fun _ => 0))))]) [0] (by decide) rfl
  have hFc := va_free (wc := [(z14, .inl (G.2.1, 25, .inr (.inl (fun _ => 0))))]) hD hS hA [0] rfl
  refine va_callv (va_runS (As := [.ref z14]) (rest := []) ⟨hx, hb, hml, hown, hts⟩ (kX12_nothing l D G z14 (fun _ => 0) H.size) (va_cwS 1 hts gX12_frees_X12_nothing rfl rfl rfl (by decide +kernel) ⟨Nat.le_of_ble_eq_true rfl, Nat.le_of_ble_eq_true rfl⟩) ⟨wB_blind, wB_pre hPc hK hDc hN⟩ rfl rfl hl.1 rfl (lv_room (Nat.le_of_ble_eq_true rfl)) dX12_frees_43 ⟨Nat.le_of_ble_eq_true rfl, Nat.le_of_ble_eq_true rfl⟩) hS (fun q _ h => hFc q h) hFc (fun u t H1 locs ht hvm hr4 hB hz1 hk1 hS => ?_)
  obtain ⟨hP1, hK1, hD1⟩ := hB
  rw [ht] at hP1
  obtain ⟨hP, hD⟩ := va_join (wr := [(z16, .inl (G.2.1, 51200, .inr (.inl ge))), (h0, .inr (12, [.ref z0, .ref z1, .ref z2, .ref z3, .ref z4, .ref z5, .ref z20, .ref z21, .ref z22, .ref z23, .ref z24, .ref z25, .int 0, .ref z26, .ref z27, .ref z28, .int 9, .int 0, .int 0, .ref z6, .ref z29, .ref z7, .int 0, .int 2, .ref z19, .ref z8, .ref z9, .ref z10, .int 0, .ref z11, .int 0, .ref z30, .ref z31, .ref z32, .ref z33, .int 0, .ref z12, .int 0, .int 0, .ref z34, .ref z35, .ref z36, .ref z37, .int 0, .int 0, .int 0, .int 0, .ref z38, .int 0, .ref z39, .ref z40, .ref z41, .ref z42, .int 0, .ref z13, .ref z14, .ref z15, .ref z16, .int 2, .ref z17, .ref z18, .ref z43]))]) (w1 := [(z14, .inl (G.2.1, 25, .inr (.inl tIdn)))]) hP hD [0] [1, 2] rfl rfl (by decide) (by decide) hk1 hFc hP1 hD1
  clear hPc hDc
  generalize H1 = H at hP hS ⊢
  have hP : va_P D vwCl [(z16, .inl (G.2.1, 51200, .inr (.inl ge))), (h0, .inr (12, [.ref z0, .ref z1, .ref z2, .ref z3, .ref z4, .ref z5, .ref z20, .ref z21, .ref z22, .ref z23, .ref z24, .ref z25, .int 0, .ref z26, .ref z27, .ref z28, .int 9, .int 0, .int 0, .ref z6, .ref z29, .ref z7, .int 0, .int 2, .ref z19, .ref z8, .ref z9, .ref z10, .int 0, .ref z11, .int 0, .ref z30, .ref z31, .ref z32, .ref z33, .int 0, .ref z12, .int 0, .int 0, .ref z34, .ref z35, .ref z36, .ref z37, .int 0, .int 0, .int 0, .int 0, .ref z38, .int 0, .ref z39, .ref z40, .ref z41, .ref z42, .int 0, .ref z13, .ref z14, .ref z15, .ref z16, .int 2, .ref z17, .ref z18, .ref z43])), (z14, .inl (G.2.1, 25, .inr (.inl tIdn)))] H := hP
  have hD : va_D A [(z16, .inl (G.2.1, 51200, .inr (.inl ge))), (h0, .inr (12, [.ref z0, .ref z1, .ref z2, .ref z3, .ref z4, .ref z5, .ref z20, .ref z21, .ref z22, .ref z23, .ref z24, .ref z25, .int 0, .ref z26, .ref z27, .ref z28, .int 9, .int 0, .int 0, .ref z6, .ref z29, .ref z7, .int 0, .int 2, .ref z19, .ref z8, .ref z9, .ref z10, .int 0, .ref z11, .int 0, .ref z30, .ref z31, .ref z32, .ref z33, .int 0, .ref z12, .int 0, .int 0, .ref z34, .ref z35, .ref z36, .ref z37, .int 0, .int 0, .int 0, .int 0, .ref z38, .int 0, .ref z39, .ref z40, .ref z41, .ref z42, .int 0, .ref z13, .ref z14, .ref z15, .ref z16, .int 2, .ref z17, .ref z18, .ref z43])), (z14, .inl (G.2.1, 25, .inr (.inl tIdn)))] := hD
  refine lv_iconst (v := 0) hx hb dX12_frees_46 (by decide) ?_
  refine lv_istore (lv' := [(7, .int 0), (6, .int 0), (5, .int 0), (4, .int 0), (2, .long 714288), (0, .ref h0), (1, .int 0)]) hx hb dX12_frees_47 hl (by decide) rfl (fun ls hl => ?_)
  refine lv_iload hx hb dX12_frees_49 (lv_at hl 0 rfl) ?_
  refine lv_aload_n hx hb dX12_frees_51 rfl (lv_at hl 5 rfl) ?_
  refine va_get (D := D) (ci := 12) (v := .int 0) (C := RX12) (T := TX12) (N := 62) hx hb hts iX12_frees_X12 hown hK hP 1 rfl rfl 28 (by decide) (hts (.fieldLink RX12 297 "PuppetBridgeModel" "passMany" "I") mX12_frees_w6) (fun _ h9 => h9) rfl dX12_frees_52 ?_
  refine lv_icmp_ge (tgt := 79) hx hb dX12_frees_55 (by decide) (fun _ => ?_) (fun h9 => absurd h9 (by decide))
  refine lv_iconst (v := 0) hx hb dX12_frees_79 (by decide) ?_
  refine lv_istore (lv' := [(7, .int 0), (6, .int 0), (5, .int 0), (4, .int 0), (2, .long 714288), (0, .ref h0), (1, .int 0)]) hx hb dX12_frees_80 hl (by decide) rfl (fun ls hl => ?_)
  refine lv_iload hx hb dX12_frees_82 (lv_at hl 0 rfl) ?_
  refine lv_iload hx hb dX12_frees_84 (lv_at hl 3 rfl) ?_
  refine lv_icmp_ge (tgt := 127) hx hb dX12_frees_86 (by decide) (fun _ => ?_) (fun h9 => absurd h9 (by decide))
  refine lv_iconst (v := 0) hx hb dX12_frees_127 (by decide) ?_
  refine lv_istore (lv' := [(7, .int 0), (6, .int 0), (5, .int 0), (4, .int 0), (2, .long 714288), (0, .ref h0), (1, .int 0)]) hx hb dX12_frees_128 hl (by decide) rfl (fun ls hl => ?_)
  refine lv_iload hx hb dX12_frees_130 (lv_at hl 0 rfl) ?_
  refine lv_aload_n hx hb dX12_frees_132 rfl (lv_at hl 5 rfl) ?_
  have hPc := hP.sub (ws' := [(h0, .inr (12, [.ref z0, .ref z1, .ref z2, .ref z3, .ref z4, .ref z5, .ref z20, .ref z21, .ref z22, .ref z23, .ref z24, .ref z25, .int 0, .ref z26, .ref z27, .ref z28, .int 9, .int 0, .int 0, .ref z6, .ref z29, .ref z7, .int 0, .int 2, .ref z19, .ref z8, .ref z9, .ref z10, .int 0, .ref z11, .int 0, .ref z30, .ref z31, .ref z32, .ref z33, .int 0, .ref z12, .int 0, .int 0, .ref z34, .ref z35, .ref z36, .ref z37, .int 0, .int 0, .int 0, .int 0, .ref z38, .int 0, .ref z39, .ref z40, .ref z41, .ref z42, .int 0, .ref z13, .ref z14, .ref z15, .ref z16, .int 2, .ref z17, .ref z18, .ref z43]))]) [1] rfl
  have hDc := hD.sub (ws' := [(h0, .inr (12, [.ref z0, .ref z1, .ref z2, .ref z3, .ref z4, .ref z5, .ref z20, .ref z21, .ref z22, .ref z23, .ref z24, .ref z25, .int 0, .ref z26, .ref z27, .ref z28, .int 9, .int 0, .int 0, .ref z6, .ref z29, .ref z7, .int 0, .int 2, .ref z19, .ref z8, .ref z9, .ref z10, .int 0, .ref z11, .int 0, .ref z30, .ref z31, .ref z32, .ref z33, .int 0, .ref z12, .int 0, .int 0, .ref z34, .ref z35, .ref z36, .ref z37, .int 0, .int 0, .int 0, .int 0, .ref z38, .int 0, .ref z39, .ref z40, .ref z41, .ref z42, .int 0, .ref z13, .ref z14, .ref z15, .ref z16, .int 2, .ref z17, .ref z18, .ref z43]))]) [1] (by decide) rfl
  have hFc := va_free (wc := [(h0, .inr (12, [.ref z0, .ref z1, .ref z2, .ref z3, .ref z4, .ref z5, .ref z20, .ref z21, .ref z22, .ref z23, .ref z24, .ref z25, .int 0, .ref z26, .ref z27, .ref z28, .int 9, .int 0, .int 0, .ref z6, .ref z29, .ref z7, .int 0, .int 2, .ref z19, .ref z8, .ref z9, .ref z10, .int 0, .ref z11, .int 0, .ref z30, .ref z31, .ref z32, .ref z33, .int 0, .ref z12, .int 0, .int 0, .ref z34, .ref z35, .ref z36, .ref z37, .int 0, .int 0, .int 0, .int 0, .ref z38, .int 0, .ref z39, .ref z40, .ref z41, .ref z42, .int 0, .ref z13, .ref z14, .ref z15, .ref z16, .int 2, .ref z17, .ref z18, .ref z43]))]) hD hS hA [1] rfl
  refine va_calli (va_runV (As := []) (rest := [.int 0]) ⟨hx, hb, hml, hown, hts⟩ (kX12_gens l D G h0 z0 z1 z2 z3 z4 z5 z20 z21 z22 z23 z24 z25 z26 z27 z28 z6 z29 z7 z19 z8 z9 z10 z11 z30 z31 z32 z33 z12 z34 z35 z36 z37 z38 z39 z40 z41 z42 z13 z14 z15 z16 z17 z18 z43 2 H.size) (cwV 0 hts gX12_frees_X12_gens rfl rfl rfl (by decide +kernel) ⟨Nat.le_of_ble_eq_true rfl, Nat.le_of_ble_eq_true rfl⟩) ⟨wB_blind, va_recv hK hPc (ci := 12) (q0 := 0) rfl rfl, wB_pre hPc hK hDc hN⟩ rfl rfl hl.1 rfl (lv_room (Nat.le_of_ble_eq_true rfl)) dX12_frees_133 ⟨Nat.le_of_ble_eq_true rfl, Nat.le_of_ble_eq_true rfl⟩) hS (fun q _ h => hFc q h) hFc (fun r5 u t H1 locs ht hvm hr5 hB hz1 hk1 hS => ?_)
  obtain ⟨hP1, hK1, hD1⟩ := hB
  rw [ht] at hP1
  obtain ⟨hP, hD⟩ := va_join (wr := [(z16, .inl (G.2.1, 51200, .inr (.inl ge))), (z14, .inl (G.2.1, 25, .inr (.inl tIdn)))]) (w1 := [(h0, .inr (12, [.ref z0, .ref z1, .ref z2, .ref z3, .ref z4, .ref z5, .ref z20, .ref z21, .ref z22, .ref z23, .ref z24, .ref z25, .int 0, .ref z26, .ref z27, .ref z28, .int 9, .int 0, .int 0, .ref z6, .ref z29, .ref z7, .int 0, .int 2, .ref z19, .ref z8, .ref z9, .ref z10, .int 0, .ref z11, .int 0, .ref z30, .ref z31, .ref z32, .ref z33, .int 0, .ref z12, .int 0, .int 0, .ref z34, .ref z35, .ref z36, .ref z37, .int 0, .int 0, .int 0, .int 0, .ref z38, .int 0, .ref z39, .ref z40, .ref z41, .ref z42, .int 0, .ref z13, .ref z14, .ref z15, .ref z16, .int 2, .ref z17, .ref z18, .ref z43]))]) hP hD [1] [0, 2] rfl rfl (by decide) (by decide) hk1 hFc hP1 hD1
  clear hPc hDc
  generalize H1 = H at hP hS ⊢
  have hP : va_P D vwCl [(z16, .inl (G.2.1, 51200, .inr (.inl ge))), (z14, .inl (G.2.1, 25, .inr (.inl tIdn))), (h0, .inr (12, [.ref z0, .ref z1, .ref z2, .ref z3, .ref z4, .ref z5, .ref z20, .ref z21, .ref z22, .ref z23, .ref z24, .ref z25, .int 0, .ref z26, .ref z27, .ref z28, .int 9, .int 0, .int 0, .ref z6, .ref z29, .ref z7, .int 0, .int 2, .ref z19, .ref z8, .ref z9, .ref z10, .int 0, .ref z11, .int 0, .ref z30, .ref z31, .ref z32, .ref z33, .int 0, .ref z12, .int 0, .int 0, .ref z34, .ref z35, .ref z36, .ref z37, .int 0, .int 0, .int 0, .int 0, .ref z38, .int 0, .ref z39, .ref z40, .ref z41, .ref z42, .int 0, .ref z13, .ref z14, .ref z15, .ref z16, .int 2, .ref z17, .ref z18, .ref z43]))] H := hP
  have hD : va_D A [(z16, .inl (G.2.1, 51200, .inr (.inl ge))), (z14, .inl (G.2.1, 25, .inr (.inl tIdn))), (h0, .inr (12, [.ref z0, .ref z1, .ref z2, .ref z3, .ref z4, .ref z5, .ref z20, .ref z21, .ref z22, .ref z23, .ref z24, .ref z25, .int 0, .ref z26, .ref z27, .ref z28, .int 9, .int 0, .int 0, .ref z6, .ref z29, .ref z7, .int 0, .int 2, .ref z19, .ref z8, .ref z9, .ref z10, .int 0, .ref z11, .int 0, .ref z30, .ref z31, .ref z32, .ref z33, .int 0, .ref z12, .int 0, .int 0, .ref z34, .ref z35, .ref z36, .ref z37, .int 0, .int 0, .int 0, .int 0, .ref z38, .int 0, .ref z39, .ref z40, .ref z41, .ref z42, .int 0, .ref z13, .ref z14, .ref z15, .ref z16, .int 2, .ref z17, .ref z18, .ref z43]))] := hD
  subst hr5
  refine lv_iload hx hb dX12_frees_136 (lv_at hl 2 rfl) ?_
  have hPc := hP.sub (ws' := []) [] rfl
  have hDc := hD.sub (ws' := []) [] (by decide) rfl
  have hFc := va_free (wc := []) hD hS hA [] rfl
  refine va_calli (va_runS (As := [.int 2, .int 0]) (rest := [.int 0]) ⟨hx, hb, hml, hown, hts⟩ (kX12_power_0 l D G  H.size) (va_cwS 2 hts gX12_frees_X12_power rfl rfl rfl (by decide +kernel) ⟨Nat.le_of_ble_eq_true rfl, Nat.le_of_ble_eq_true rfl⟩) ⟨wB_blind, wB_pre hPc hK hDc hN⟩ rfl rfl hl.1 rfl (lv_room (Nat.le_of_ble_eq_true rfl)) dX12_frees_138 ⟨Nat.le_of_ble_eq_true rfl, Nat.le_of_ble_eq_true rfl⟩) hS (fun q _ h => hFc q h) hFc (fun r6 u t H1 locs ht hvm hr6 hB hz1 hk1 hS => ?_)
  obtain ⟨hP, hD⟩ := va_join (wr := [(z16, .inl (G.2.1, 51200, .inr (.inl ge))), (z14, .inl (G.2.1, 25, .inr (.inl tIdn))), (h0, .inr (12, [.ref z0, .ref z1, .ref z2, .ref z3, .ref z4, .ref z5, .ref z20, .ref z21, .ref z22, .ref z23, .ref z24, .ref z25, .int 0, .ref z26, .ref z27, .ref z28, .int 9, .int 0, .int 0, .ref z6, .ref z29, .ref z7, .int 0, .int 2, .ref z19, .ref z8, .ref z9, .ref z10, .int 0, .ref z11, .int 0, .ref z30, .ref z31, .ref z32, .ref z33, .int 0, .ref z12, .int 0, .int 0, .ref z34, .ref z35, .ref z36, .ref z37, .int 0, .int 0, .int 0, .int 0, .ref z38, .int 0, .ref z39, .ref z40, .ref z41, .ref z42, .int 0, .ref z13, .ref z14, .ref z15, .ref z16, .int 2, .ref z17, .ref z18, .ref z43]))]) (w1 := []) hP hD [] [0, 1, 2] rfl rfl (by decide) (by decide) hk1 hFc wP_nil wD_nil
  clear hPc hDc
  generalize H1 = H at hP hS ⊢
  have hP : va_P D vwCl [(z16, .inl (G.2.1, 51200, .inr (.inl ge))), (z14, .inl (G.2.1, 25, .inr (.inl tIdn))), (h0, .inr (12, [.ref z0, .ref z1, .ref z2, .ref z3, .ref z4, .ref z5, .ref z20, .ref z21, .ref z22, .ref z23, .ref z24, .ref z25, .int 0, .ref z26, .ref z27, .ref z28, .int 9, .int 0, .int 0, .ref z6, .ref z29, .ref z7, .int 0, .int 2, .ref z19, .ref z8, .ref z9, .ref z10, .int 0, .ref z11, .int 0, .ref z30, .ref z31, .ref z32, .ref z33, .int 0, .ref z12, .int 0, .int 0, .ref z34, .ref z35, .ref z36, .ref z37, .int 0, .int 0, .int 0, .int 0, .ref z38, .int 0, .ref z39, .ref z40, .ref z41, .ref z42, .int 0, .ref z13, .ref z14, .ref z15, .ref z16, .int 2, .ref z17, .ref z18, .ref z43]))] H := hP
  have hD : va_D A [(z16, .inl (G.2.1, 51200, .inr (.inl ge))), (z14, .inl (G.2.1, 25, .inr (.inl tIdn))), (h0, .inr (12, [.ref z0, .ref z1, .ref z2, .ref z3, .ref z4, .ref z5, .ref z20, .ref z21, .ref z22, .ref z23, .ref z24, .ref z25, .int 0, .ref z26, .ref z27, .ref z28, .int 9, .int 0, .int 0, .ref z6, .ref z29, .ref z7, .int 0, .int 2, .ref z19, .ref z8, .ref z9, .ref z10, .int 0, .ref z11, .int 0, .ref z30, .ref z31, .ref z32, .ref z33, .int 0, .ref z12, .int 0, .int 0, .ref z34, .ref z35, .ref z36, .ref z37, .int 0, .int 0, .int 0, .int 0, .ref z38, .int 0, .ref z39, .ref z40, .ref z41, .ref z42, .int 0, .ref z13, .ref z14, .ref z15, .ref z16, .int 2, .ref z17, .ref z18, .ref z43]))] := hD
  subst hr6
  refine lv_icmp_ge (tgt := 224) hx hb dX12_frees_141 (by decide) (fun h9 => absurd h9 (by decide)) (fun _ => ?_)
  refine lv_aload_n hx hb dX12_frees_144 rfl (lv_at hl 5 rfl) ?_
  refine lv_aload_n hx hb dX12_frees_145 rfl (lv_at hl 5 rfl) ?_
  refine va_get (D := D) (ci := 12) (v := .ref z14) (C := RX12) (T := TX12) (N := 62) hx hb hts iX12_frees_X12 hown hK hP 2 rfl rfl 55 (by decide) (hts (.fieldLink RX12 133 "PuppetBridgeModel" "mark" "[J") mX12_frees_w5) (fun _ h9 => h9) rfl dX12_frees_146 ?_
  refine lv_sipush (v := 512) hx hb dX12_frees_149 (by decide) ?_
  refine lv_iload hx hb dX12_frees_152 (lv_at hl 2 rfl) ?_
  refine lv_imul hx hb dX12_frees_154 ?_
  refine wk_i 0 (by decide) ?_
  refine lv_iload hx hb dX12_frees_155 (lv_at hl 0 rfl) ?_
  refine lv_iadd hx hb dX12_frees_157 ?_
  refine wk_i 0 (by decide) ?_
  have hPc := hP.sub (ws' := [(h0, .inr (12, [.ref z0, .ref z1, .ref z2, .ref z3, .ref z4, .ref z5, .ref z20, .ref z21, .ref z22, .ref z23, .ref z24, .ref z25, .int 0, .ref z26, .ref z27, .ref z28, .int 9, .int 0, .int 0, .ref z6, .ref z29, .ref z7, .int 0, .int 2, .ref z19, .ref z8, .ref z9, .ref z10, .int 0, .ref z11, .int 0, .ref z30, .ref z31, .ref z32, .ref z33, .int 0, .ref z12, .int 0, .int 0, .ref z34, .ref z35, .ref z36, .ref z37, .int 0, .int 0, .int 0, .int 0, .ref z38, .int 0, .ref z39, .ref z40, .ref z41, .ref z42, .int 0, .ref z13, .ref z14, .ref z15, .ref z16, .int 2, .ref z17, .ref z18, .ref z43])), (z14, .inl (G.2.1, 25, .inr (.inl tIdn))), (z16, .inl (G.2.1, 51200, .inr (.inl ge)))]) [2, 1, 0] rfl
  have hDc := hD.sub (ws' := [(h0, .inr (12, [.ref z0, .ref z1, .ref z2, .ref z3, .ref z4, .ref z5, .ref z20, .ref z21, .ref z22, .ref z23, .ref z24, .ref z25, .int 0, .ref z26, .ref z27, .ref z28, .int 9, .int 0, .int 0, .ref z6, .ref z29, .ref z7, .int 0, .int 2, .ref z19, .ref z8, .ref z9, .ref z10, .int 0, .ref z11, .int 0, .ref z30, .ref z31, .ref z32, .ref z33, .int 0, .ref z12, .int 0, .int 0, .ref z34, .ref z35, .ref z36, .ref z37, .int 0, .int 0, .int 0, .int 0, .ref z38, .int 0, .ref z39, .ref z40, .ref z41, .ref z42, .int 0, .ref z13, .ref z14, .ref z15, .ref z16, .int 2, .ref z17, .ref z18, .ref z43])), (z14, .inl (G.2.1, 25, .inr (.inl tIdn))), (z16, .inl (G.2.1, 51200, .inr (.inl ge)))]) [2, 1, 0] (by decide) rfl
  have hFc := va_free (wc := [(h0, .inr (12, [.ref z0, .ref z1, .ref z2, .ref z3, .ref z4, .ref z5, .ref z20, .ref z21, .ref z22, .ref z23, .ref z24, .ref z25, .int 0, .ref z26, .ref z27, .ref z28, .int 9, .int 0, .int 0, .ref z6, .ref z29, .ref z7, .int 0, .int 2, .ref z19, .ref z8, .ref z9, .ref z10, .int 0, .ref z11, .int 0, .ref z30, .ref z31, .ref z32, .ref z33, .int 0, .ref z12, .int 0, .int 0, .ref z34, .ref z35, .ref z36, .ref z37, .int 0, .int 0, .int 0, .int 0, .ref z38, .int 0, .ref z39, .ref z40, .ref z41, .ref z42, .int 0, .ref z13, .ref z14, .ref z15, .ref z16, .int 2, .ref z17, .ref z18, .ref z43])), (z14, .inl (G.2.1, 25, .inr (.inl tIdn))), (z16, .inl (G.2.1, 51200, .inr (.inl ge)))]) hD hS hA [2, 1, 0] rfl
  refine va_calli (va_runV (As := [.ref z14, .int 0]) (rest := []) ⟨hx, hb, hml, hown, hts⟩ (kX12_fits l D G h0 z14 z0 z1 z2 z3 z4 z5 z20 z21 z22 z23 z24 z25 z26 z27 z28 z6 z29 z7 z19 z8 z9 z10 z11 z30 z31 z32 z33 z12 z34 z35 z36 z37 z38 z39 z40 z41 z42 z13 z15 z16 z17 z18 z43 ge hE H.size) (cwV 2 hts gX12_frees_X12_fits rfl rfl rfl (by decide +kernel) ⟨Nat.le_of_ble_eq_true rfl, Nat.le_of_ble_eq_true rfl⟩) ⟨wB_blind, va_recv hK hPc (ci := 12) (q0 := 0) rfl rfl, wB_pre hPc hK hDc hN⟩ rfl rfl hl.1 rfl (lv_room (Nat.le_of_ble_eq_true rfl)) dX12_frees_158 ⟨Nat.le_of_ble_eq_true rfl, Nat.le_of_ble_eq_true rfl⟩) hS (fun q _ h => hFc q h) hFc (fun r7 u t H1 locs ht hvm hr7 hB hz1 hk1 hS => ?_)
  obtain ⟨hP1, hK1, hD1⟩ := hB
  rw [ht] at hP1
  obtain ⟨hP, hD⟩ := va_join (wr := []) (w1 := [(z14, .inl (G.2.1, 25, .inr (.inl tIdn))), (z16, .inl (G.2.1, 51200, .inr (.inl ge))), (h0, .inr (12, [.ref z0, .ref z1, .ref z2, .ref z3, .ref z4, .ref z5, .ref z20, .ref z21, .ref z22, .ref z23, .ref z24, .ref z25, .int 0, .ref z26, .ref z27, .ref z28, .int 9, .int 0, .int 0, .ref z6, .ref z29, .ref z7, .int 0, .int 2, .ref z19, .ref z8, .ref z9, .ref z10, .int 0, .ref z11, .int 0, .ref z30, .ref z31, .ref z32, .ref z33, .int 0, .ref z12, .int 0, .int 0, .ref z34, .ref z35, .ref z36, .ref z37, .int 0, .int 0, .int 0, .int 0, .ref z38, .int 0, .ref z39, .ref z40, .ref z41, .ref z42, .int 0, .ref z13, .ref z14, .ref z15, .ref z16, .int 2, .ref z17, .ref z18, .ref z43]))]) hP hD [2, 1, 0] [] rfl rfl (by decide) (by decide) hk1 hFc hP1 hD1
  clear hPc hDc
  generalize H1 = H at hP hS ⊢
  have hP : va_P D vwCl [(z14, .inl (G.2.1, 25, .inr (.inl tIdn))), (z16, .inl (G.2.1, 51200, .inr (.inl ge))), (h0, .inr (12, [.ref z0, .ref z1, .ref z2, .ref z3, .ref z4, .ref z5, .ref z20, .ref z21, .ref z22, .ref z23, .ref z24, .ref z25, .int 0, .ref z26, .ref z27, .ref z28, .int 9, .int 0, .int 0, .ref z6, .ref z29, .ref z7, .int 0, .int 2, .ref z19, .ref z8, .ref z9, .ref z10, .int 0, .ref z11, .int 0, .ref z30, .ref z31, .ref z32, .ref z33, .int 0, .ref z12, .int 0, .int 0, .ref z34, .ref z35, .ref z36, .ref z37, .int 0, .int 0, .int 0, .int 0, .ref z38, .int 0, .ref z39, .ref z40, .ref z41, .ref z42, .int 0, .ref z13, .ref z14, .ref z15, .ref z16, .int 2, .ref z17, .ref z18, .ref z43]))] H := hP
  have hD : va_D A [(z14, .inl (G.2.1, 25, .inr (.inl tIdn))), (z16, .inl (G.2.1, 51200, .inr (.inl ge))), (h0, .inr (12, [.ref z0, .ref z1, .ref z2, .ref z3, .ref z4, .ref z5, .ref z20, .ref z21, .ref z22, .ref z23, .ref z24, .ref z25, .int 0, .ref z26, .ref z27, .ref z28, .int 9, .int 0, .int 0, .ref z6, .ref z29, .ref z7, .int 0, .int 2, .ref z19, .ref z8, .ref z9, .ref z10, .int 0, .ref z11, .int 0, .ref z30, .ref z31, .ref z32, .ref z33, .int 0, .ref z12, .int 0, .int 0, .ref z34, .ref z35, .ref z36, .ref z37, .int 0, .int 0, .int 0, .int 0, .ref z38, .int 0, .ref z39, .ref z40, .ref z41, .ref z42, .int 0, .ref z13, .ref z14, .ref z15, .ref z16, .int 2, .ref z17, .ref z18, .ref z43]))] := hD
  subst hr7
  refine lv_if_ne (tgt := 167) hx hb dX12_frees_161 (by decide) (fun _ => ?_) (fun h9 => absurd h9 (by decide))
  refine lv_iconst (v := 0) hx hb dX12_frees_167 (by decide) ?_
  refine lv_istore (lv' := [(8, .int 0), (7, .int 0), (6, .int 0), (5, .int 0), (4, .int 0), (2, .long 714288), (0, .ref h0), (1, .int 0)]) hx hb dX12_frees_168 hl (by decide) rfl (fun ls hl => ?_)
  refine lv_iload hx hb dX12_frees_170 (lv_at hl 0 rfl) ?_
  refine lv_iload hx hb dX12_frees_172 (lv_at hl 3 rfl) ?_
  refine lv_icmp_ge (tgt := 203) hx hb dX12_frees_174 (by decide) (fun _ => ?_) (fun h9 => absurd h9 (by decide))
  refine lv_aload_n hx hb dX12_frees_203 rfl (lv_at hl 6 rfl) ?_
  refine lv_iconst (v := 0) hx hb dX12_frees_204 (by decide) ?_
  refine lv_aload_n hx hb dX12_frees_205 rfl (lv_at hl 6 rfl) ?_
  refine va_get (D := D) (ci := 12) (v := .ref z13) (C := RX12) (T := TX12) (N := 62) hx hb hts iX12_frees_X12 hown hK hP 2 rfl rfl 54 (by decide) (hts (.fieldLink RX12 130 "PuppetBridgeModel" "remedy" "[I") mX12_frees_w8) (fun _ h9 => h9) rfl dX12_frees_206 ?_
  refine lv_iload_n hx hb dX12_frees_209 rfl (lv_at hl 7 rfl) ?_
  have hPc := hP.sub (ws' := [(h0, .inr (12, [.ref z0, .ref z1, .ref z2, .ref z3, .ref z4, .ref z5, .ref z20, .ref z21, .ref z22, .ref z23, .ref z24, .ref z25, .int 0, .ref z26, .ref z27, .ref z28, .int 9, .int 0, .int 0, .ref z6, .ref z29, .ref z7, .int 0, .int 2, .ref z19, .ref z8, .ref z9, .ref z10, .int 0, .ref z11, .int 0, .ref z30, .ref z31, .ref z32, .ref z33, .int 0, .ref z12, .int 0, .int 0, .ref z34, .ref z35, .ref z36, .ref z37, .int 0, .int 0, .int 0, .int 0, .ref z38, .int 0, .ref z39, .ref z40, .ref z41, .ref z42, .int 0, .ref z13, .ref z14, .ref z15, .ref z16, .int 2, .ref z17, .ref z18, .ref z43]))]) [2] rfl
  have hDc := hD.sub (ws' := [(h0, .inr (12, [.ref z0, .ref z1, .ref z2, .ref z3, .ref z4, .ref z5, .ref z20, .ref z21, .ref z22, .ref z23, .ref z24, .ref z25, .int 0, .ref z26, .ref z27, .ref z28, .int 9, .int 0, .int 0, .ref z6, .ref z29, .ref z7, .int 0, .int 2, .ref z19, .ref z8, .ref z9, .ref z10, .int 0, .ref z11, .int 0, .ref z30, .ref z31, .ref z32, .ref z33, .int 0, .ref z12, .int 0, .int 0, .ref z34, .ref z35, .ref z36, .ref z37, .int 0, .int 0, .int 0, .int 0, .ref z38, .int 0, .ref z39, .ref z40, .ref z41, .ref z42, .int 0, .ref z13, .ref z14, .ref z15, .ref z16, .int 2, .ref z17, .ref z18, .ref z43]))]) [2] (by decide) rfl
  have hFc := va_free (wc := [(h0, .inr (12, [.ref z0, .ref z1, .ref z2, .ref z3, .ref z4, .ref z5, .ref z20, .ref z21, .ref z22, .ref z23, .ref z24, .ref z25, .int 0, .ref z26, .ref z27, .ref z28, .int 9, .int 0, .int 0, .ref z6, .ref z29, .ref z7, .int 0, .int 2, .ref z19, .ref z8, .ref z9, .ref z10, .int 0, .ref z11, .int 0, .ref z30, .ref z31, .ref z32, .ref z33, .int 0, .ref z12, .int 0, .int 0, .ref z34, .ref z35, .ref z36, .ref z37, .int 0, .int 0, .int 0, .int 0, .ref z38, .int 0, .ref z39, .ref z40, .ref z41, .ref z42, .int 0, .ref z13, .ref z14, .ref z15, .ref z16, .int 2, .ref z17, .ref z18, .ref z43]))]) hD hS hA [2] rfl
  refine va_calli (va_runV (As := [.int 0, .ref z13, .int 0]) (rest := []) ⟨hx, hb, hml, hown, hts⟩ (kX12_isFree_2 l D G h0 z13 z0 z1 z2 z3 z4 z5 z20 z21 z22 z23 z24 z25 z26 z27 z28 z6 z29 z7 z19 z8 z9 z10 z11 z30 z31 z32 z33 z12 z34 z35 z36 z37 z38 z39 z40 z41 z42 z14 z15 z16 z17 z18 z43 H.size) (cwV 3 hts gX12_frees_X12_isFree rfl rfl rfl (by decide +kernel) ⟨Nat.le_of_ble_eq_true rfl, Nat.le_of_ble_eq_true rfl⟩) ⟨wB_blind, va_recv hK hPc (ci := 12) (q0 := 0) rfl rfl, wB_pre hPc hK hDc hN⟩ rfl rfl hl.1 rfl (lv_room (Nat.le_of_ble_eq_true rfl)) dX12_frees_210 ⟨Nat.le_of_ble_eq_true rfl, Nat.le_of_ble_eq_true rfl⟩) hS (fun q _ h => hFc q h) hFc (fun r8 u t H1 locs ht hvm hr8 hB hz1 hk1 hS => ?_)
  obtain ⟨hP1, hK1, hD1⟩ := hB
  rw [ht] at hP1
  obtain ⟨hP, hD⟩ := va_join (wr := [(z14, .inl (G.2.1, 25, .inr (.inl tIdn))), (z16, .inl (G.2.1, 51200, .inr (.inl ge)))]) (w1 := [(h0, .inr (12, [.ref z0, .ref z1, .ref z2, .ref z3, .ref z4, .ref z5, .ref z20, .ref z21, .ref z22, .ref z23, .ref z24, .ref z25, .int 0, .ref z26, .ref z27, .ref z28, .int 9, .int 0, .int 0, .ref z6, .ref z29, .ref z7, .int 0, .int 2, .ref z19, .ref z8, .ref z9, .ref z10, .int 0, .ref z11, .int 0, .ref z30, .ref z31, .ref z32, .ref z33, .int 0, .ref z12, .int 0, .int 0, .ref z34, .ref z35, .ref z36, .ref z37, .int 0, .int 0, .int 0, .int 0, .ref z38, .int 0, .ref z39, .ref z40, .ref z41, .ref z42, .int 0, .ref z13, .ref z14, .ref z15, .ref z16, .int 2, .ref z17, .ref z18, .ref z43]))]) hP hD [2] [0, 1] rfl rfl (by decide) (by decide) hk1 hFc hP1 hD1
  clear hPc hDc
  generalize H1 = H at hP hS ⊢
  have hP : va_P D vwCl [(z14, .inl (G.2.1, 25, .inr (.inl tIdn))), (z16, .inl (G.2.1, 51200, .inr (.inl ge))), (h0, .inr (12, [.ref z0, .ref z1, .ref z2, .ref z3, .ref z4, .ref z5, .ref z20, .ref z21, .ref z22, .ref z23, .ref z24, .ref z25, .int 0, .ref z26, .ref z27, .ref z28, .int 9, .int 0, .int 0, .ref z6, .ref z29, .ref z7, .int 0, .int 2, .ref z19, .ref z8, .ref z9, .ref z10, .int 0, .ref z11, .int 0, .ref z30, .ref z31, .ref z32, .ref z33, .int 0, .ref z12, .int 0, .int 0, .ref z34, .ref z35, .ref z36, .ref z37, .int 0, .int 0, .int 0, .int 0, .ref z38, .int 0, .ref z39, .ref z40, .ref z41, .ref z42, .int 0, .ref z13, .ref z14, .ref z15, .ref z16, .int 2, .ref z17, .ref z18, .ref z43]))] H := hP
  have hD : va_D A [(z14, .inl (G.2.1, 25, .inr (.inl tIdn))), (z16, .inl (G.2.1, 51200, .inr (.inl ge))), (h0, .inr (12, [.ref z0, .ref z1, .ref z2, .ref z3, .ref z4, .ref z5, .ref z20, .ref z21, .ref z22, .ref z23, .ref z24, .ref z25, .int 0, .ref z26, .ref z27, .ref z28, .int 9, .int 0, .int 0, .ref z6, .ref z29, .ref z7, .int 0, .int 2, .ref z19, .ref z8, .ref z9, .ref z10, .int 0, .ref z11, .int 0, .ref z30, .ref z31, .ref z32, .ref z33, .int 0, .ref z12, .int 0, .int 0, .ref z34, .ref z35, .ref z36, .ref z37, .int 0, .int 0, .int 0, .int 0, .ref z38, .int 0, .ref z39, .ref z40, .ref z41, .ref z42, .int 0, .ref z13, .ref z14, .ref z15, .ref z16, .int 2, .ref z17, .ref z18, .ref z43]))] := hD
  subst hr8
  refine lv_if_eq (tgt := 218) hx hb dX12_frees_213 (by decide) (fun h9 => absurd h9 (by decide)) (fun _ => ?_)
  refine lv_iconst (v := 1) hx hb dX12_frees_216 (by decide) ?_
  have hP9 := hP.sub (ws' := [(h0, .inr (12, [.ref z0, .ref z1, .ref z2, .ref z3, .ref z4, .ref z5, .ref z20, .ref z21, .ref z22, .ref z23, .ref z24, .ref z25, .int 0, .ref z26, .ref z27, .ref z28, .int 9, .int 0, .int 0, .ref z6, .ref z29, .ref z7, .int 0, .int 2, .ref z19, .ref z8, .ref z9, .ref z10, .int 0, .ref z11, .int 0, .ref z30, .ref z31, .ref z32, .ref z33, .int 0, .ref z12, .int 0, .int 0, .ref z34, .ref z35, .ref z36, .ref z37, .int 0, .int 0, .int 0, .int 0, .ref z38, .int 0, .ref z39, .ref z40, .ref z41, .ref z42, .int 0, .ref z13, .ref z14, .ref z15, .ref z16, .int 2, .ref z17, .ref z18, .ref z43]))]) [2] rfl
  have hD9 := hD.sub (ws' := [(h0, .inr (12, [.ref z0, .ref z1, .ref z2, .ref z3, .ref z4, .ref z5, .ref z20, .ref z21, .ref z22, .ref z23, .ref z24, .ref z25, .int 0, .ref z26, .ref z27, .ref z28, .int 9, .int 0, .int 0, .ref z6, .ref z29, .ref z7, .int 0, .int 2, .ref z19, .ref z8, .ref z9, .ref z10, .int 0, .ref z11, .int 0, .ref z30, .ref z31, .ref z32, .ref z33, .int 0, .ref z12, .int 0, .int 0, .ref z34, .ref z35, .ref z36, .ref z37, .int 0, .int 0, .int 0, .int 0, .ref z38, .int 0, .ref z39, .ref z40, .ref z41, .ref z42, .int 0, .ref z13, .ref z14, .ref z15, .ref z16, .int 2, .ref z17, .ref z18, .ref z43]))]) [2] (by decide) rfl
  exact W.zret (v := 1) hx hb hr rfl (fun t ht hW => ⟨⟨1, (), rfl, rfl, ⟨by rw [ht]; exact hP9, va_K.moved hW.alike hK, hD9⟩⟩, hS.F ht⟩) hS.2.2 dX12_frees_217

theorem mX12_undo_w0 : Cond.fieldLink RX12 157 "PuppetBridgeModel" "thrown" "I" ∈ wsX12_undo := by decide +kernel
theorem mX12_undo_w1 : Cond.fieldLink RX12 369 "PuppetBridgeModel" "endsOf" "I" ∈ wsX12_undo := by decide +kernel
theorem mX12_undo_w2 : Cond.fieldLink RX12 69 "PuppetBridgeModel" "bars" "I" ∈ wsX12_undo := by decide +kernel
theorem mX12_undo_w5 : Cond.fieldLink RX12 306 "PuppetBridgeModel" "rowMany" "I" ∈ wsX12_undo := by decide +kernel
theorem iX12_undo_X12 : ∀ w ∈ wsX120, w ∈ wsX12_undo := fun _ h => List.mem_cons_of_mem _ (List.mem_append_right _ h)
set_option maxRecDepth 20000 in
theorem ggX12_undo_X12_findEnds : GoodIn wsX12_undo wsX12_findEnds := goodIn_r _ [11, 12, 13, 14, 3, 2, 15, 16, 10, 17, 18, 19, 20, 21, 22, 23, 24, 25, 26, 27, 28, 29, 30, 31, 32, 33, 34, 35, 36, 37, 38, 39, 40, 41, 42, 43, 44, 45, 79, 80, 81, 82, 83, 84, 85, 86, 87, 88, 89, 90, 91, 92, 93, 94, 95, 96, 97, 98, 99, 100, 101, 102, 103, 104, 105, 106, 107, 108, 109, 110, 111, 112, 113, 114, 115, 116, 117, 118, 119, 120, 121, 122, 123, 124, 125, 126, 127, 128, 129, 130, 131, 132, 133, 134, 135, 136, 137, 138, 139, 140] (by decide +kernel) (by decide +kernel)
set_option maxRecDepth 20000 in
theorem gX12_undo_X12_findEnds : GoodIn wsX12_undo (wsV RX12 376 RX12 yX12_findEnds wsX12_findEnds) := goodIn_app (goodIn_of _ (by decide +kernel)) ggX12_undo_X12_findEnds
set_option maxRecDepth 20000 in
theorem ggX12_undo_X12_frees : GoodIn wsX12_undo wsX12_frees := goodIn_r _ [49, 12, 50, 51, 43, 52, 53, 54, 55, 5, 15, 16, 10, 17, 18, 19, 20, 21, 22, 23, 24, 3, 25, 26, 27, 28, 29, 30, 38, 39, 40, 41, 42, 44, 45, 31, 32, 33, 34, 35, 36, 37, 56, 57, 58, 59, 14, 60, 61, 62, 63, 64, 65, 66, 67, 68, 69, 70, 71, 72, 73, 74, 75, 76, 77, 78, 79, 80, 81, 82, 83, 84, 85, 86, 87, 88, 89, 90, 91, 92, 93, 94, 95, 96, 97, 98, 99, 100, 101, 102, 103, 104, 105, 106, 107, 108, 109, 110, 111, 112, 113, 114, 115, 116, 117, 118, 119, 120, 121, 122, 123, 124, 125, 126, 127, 128, 129, 130, 131, 132, 133, 134, 135, 136, 137, 138, 139, 140] (by decide +kernel) (by decide +kernel)
set_option maxRecDepth 20000 in
theorem gX12_undo_X12_frees : GoodIn wsX12_undo (wsV RX12 379 RX12 yX12_frees wsX12_frees) := goodIn_app (goodIn_of _ (by decide +kernel)) ggX12_undo_X12_frees
theorem dX12_undo_0 : decode cX12_undo 0 = .ok (.aload_n 0, 1) := by decide +kernel
theorem dX12_undo_1 : decode cX12_undo 1 = .ok (.iconst 0, 1) := by decide +kernel
theorem dX12_undo_2 : decode cX12_undo 2 = .ok (.putfield 157, 3) := by decide +kernel
theorem dX12_undo_5 : decode cX12_undo 5 = .ok (.aload_n 0, 1) := by decide +kernel
theorem dX12_undo_6 : decode cX12_undo 6 = .ok (.getfield 369, 3) := by decide +kernel
theorem dX12_undo_9 : decode cX12_undo 9 = .ok (.aload_n 0, 1) := by decide +kernel
theorem dX12_undo_10 : decode cX12_undo 10 = .ok (.getfield 69, 3) := by decide +kernel
theorem dX12_undo_13 : decode cX12_undo 13 = .ok (.if_icmp .eq 7, 3) := by decide +kernel
theorem dX12_undo_16 : decode cX12_undo 16 = .ok (.aload_n 0, 1) := by decide +kernel
theorem dX12_undo_17 : decode cX12_undo 17 = .ok (.invokevirtual 376, 3) := by decide +kernel
theorem dX12_undo_20 : decode cX12_undo 20 = .ok (.iconst 0, 1) := by decide +kernel
theorem dX12_undo_21 : decode cX12_undo 21 = .ok (.istore_n 1, 1) := by decide +kernel
theorem dX12_undo_22 : decode cX12_undo 22 = .ok (.iload_n 1, 1) := by decide +kernel
theorem dX12_undo_23 : decode cX12_undo 23 = .ok (.bipush 6, 2) := by decide +kernel
theorem dX12_undo_25 : decode cX12_undo 25 = .ok (.if_icmp .gt 52, 3) := by decide +kernel
theorem dX12_undo_28 : decode cX12_undo 28 = .ok (.aload_n 0, 1) := by decide +kernel
theorem dX12_undo_29 : decode cX12_undo 29 = .ok (.iload_n 1, 1) := by decide +kernel
theorem dX12_undo_30 : decode cX12_undo 30 = .ok (.invokevirtual 379, 3) := by decide +kernel
theorem dX12_undo_33 : decode cX12_undo 33 = .ok (.ifCond .ne 6, 3) := by decide +kernel
theorem dX12_undo_39 : decode cX12_undo 39 = .ok (.iconst 0, 1) := by decide +kernel
theorem dX12_undo_40 : decode cX12_undo 40 = .ok (.istore_n 2, 1) := by decide +kernel
theorem dX12_undo_41 : decode cX12_undo 41 = .ok (.iload_n 2, 1) := by decide +kernel
theorem dX12_undo_42 : decode cX12_undo 42 = .ok (.iload_n 1, 1) := by decide +kernel
theorem dX12_undo_43 : decode cX12_undo 43 = .ok (.if_icmp .ge 21, 3) := by decide +kernel
theorem dX12_undo_64 : decode cX12_undo 64 = .ok (.aload_n 0, 1) := by decide +kernel
theorem dX12_undo_65 : decode cX12_undo 65 = .ok (.iload_n 1, 1) := by decide +kernel
theorem dX12_undo_66 : decode cX12_undo 66 = .ok (.putfield 306, 3) := by decide +kernel
theorem dX12_undo_69 : decode cX12_undo 69 = .ok (.iload_n 1, 1) := by decide +kernel
theorem dX12_undo_70 : decode cX12_undo 70 = .ok (.ireturn, 1) := by decide +kernel
set_option maxHeartbeats 4000000 in
set_option maxRecDepth 100000 in
/-- X12_undo -/
theorem kX12_undo (l : Launch) (D : va_G) (G : tyG) (h0 : Nat) (z0 : Nat) (z1 : Nat) (z2 : Nat) (z3 : Nat) (z4 : Nat) (z5 : Nat) (z20 : Nat) (z21 : Nat) (z22 : Nat) (z23 : Nat) (z24 : Nat) (z25 : Nat) (z26 : Nat) (z27 : Nat) (z28 : Nat) (z6 : Nat) (z29 : Nat) (z7 : Nat) (z19 : Nat) (z8 : Nat) (z9 : Nat) (z10 : Nat) (z11 : Nat) (z30 : Nat) (z31 : Nat) (z32 : Nat) (z33 : Nat) (z12 : Nat) (z34 : Nat) (z35 : Nat) (z36 : Nat) (z37 : Nat) (z38 : Nat) (z39 : Nat) (z40 : Nat) (z41 : Nat) (z42 : Nat) (z13 : Nat) (z14 : Nat) (z15 : Nat) (z16 : Nat) (z17 : Nat) (z18 : Nat) (z43 : Nat) (sz : Nat) : Met l yX12_undo wsX12_undo ({ frames := 3, cells := 0, slots := 0, locals := 90 }) (va_Pc [.ref h0] (wB D G sz [(h0, .inr (12, [.ref z0, .ref z1, .ref z2, .ref z3, .ref z4, .ref z5, .ref z20, .ref z21, .ref z22, .ref z23, .ref z24, .ref z25, .int 0, .ref z26, .ref z27, .ref z28, .int 9, .int 0, .int 0, .ref z6, .ref z29, .ref z7, .int 0, .int 2, .ref z19, .ref z8, .ref z9, .ref z10, .int 0, .ref z11, .int 0, .ref z30, .ref z31, .ref z32, .ref z33, .int 0, .ref z12, .int 0, .int 0, .ref z34, .ref z35, .ref z36, .ref z37, .int 0, .int 0, .int 0, .int 0, .ref z38, .int 0, .ref z39, .ref z40, .ref z41, .ref z42, .int 0, .ref z13, .ref z14, .ref z15, .ref z16, .int 0, .ref z17, .ref z18, .ref z43])), (z14, .inl (G.2.1, 25, .inr (.inl (fun _ => 0)))), (z15, .inl (G.2.1, 25, .inr (.inl (fun _ => 0)))), (z16, .inl (G.2.1, 51200, .inr (.inl (fun _ => 0))))])) (va_Qi (fun (r : Int32) (_ : Unit) => r = 0) (fun _ _ => True) (va_A [(h0, .inr (12, [.ref z0, .ref z1, .ref z2, .ref z3, .ref z4, .ref z5, .ref z20, .ref z21, .ref z22, .ref z23, .ref z24, .ref z25, .int 0, .ref z26, .ref z27, .ref z28, .int 9, .int 0, .int 0, .ref z6, .ref z29, .ref z7, .int 0, .int 2, .ref z19, .ref z8, .ref z9, .ref z10, .int 0, .ref z11, .int 0, .ref z30, .ref z31, .ref z32, .ref z33, .int 0, .ref z12, .int 0, .int 0, .ref z34, .ref z35, .ref z36, .ref z37, .int 0, .int 0, .int 0, .int 0, .ref z38, .int 0, .ref z39, .ref z40, .ref z41, .ref z42, .int 0, .ref z13, .ref z14, .ref z15, .ref z16, .int 0, .ref z17, .ref z18, .ref z43])), (z14, .inl (G.2.1, 25, .inr (.inl (fun _ => 0)))), (z15, .inl (G.2.1, 25, .inr (.inl (fun _ => 0)))), (z16, .inl (G.2.1, 51200, .inr (.inl (fun _ => 0))))] sz)) 0 0 (va_A [(h0, .inr (12, [.ref z0, .ref z1, .ref z2, .ref z3, .ref z4, .ref z5, .ref z20, .ref z21, .ref z22, .ref z23, .ref z24, .ref z25, .int 0, .ref z26, .ref z27, .ref z28, .int 9, .int 0, .int 0, .ref z6, .ref z29, .ref z7, .int 0, .int 2, .ref z19, .ref z8, .ref z9, .ref z10, .int 0, .ref z11, .int 0, .ref z30, .ref z31, .ref z32, .ref z33, .int 0, .ref z12, .int 0, .int 0, .ref z34, .ref z35, .ref z36, .ref z37, .int 0, .int 0, .int 0, .int 0, .ref z38, .int 0, .ref z39, .ref z40, .ref z41, .ref z42, .int 0, .ref z13, .ref z14, .ref z15, .ref z16, .int 0, .ref z17, .ref z18, .ref z43])), (z14, .inl (G.2.1, 25, .inr (.inl (fun _ => 0)))), (z15, .inl (G.2.1, 25, .inr (.inl (fun _ => 0)))), (z16, .inl (G.2.1, 51200, .inr (.inl (fun _ => 0))))] sz) := by
  refine Met.ofW (cc := cX12_undo) (maxL := 3) (ret := (some .int)) (by decide) rfl ?_
  intro p e s m args below meth c s₁ B hml hv
  obtain ⟨rfl, hsz, hP, hK, hD0, hN⟩ := hv
  have hx := B.exec
  have hb := B.bytes
  have hr := B.returns
  have hts := atoms_spec (ws := wsX12_undo) B.pre
  have hown : s.vm.findClass RX12 = some m.cls := findClass_of_methodNamed B.named
  have hlocks := B.notSynchronized
  subst hsz
  have hD := hD0.self (sz := s.heap.size)
  generalize hAe : va_A [(h0, .inr (12, [.ref z0, .ref z1, .ref z2, .ref z3, .ref z4, .ref z5, .ref z20, .ref z21, .ref z22, .ref z23, .ref z24, .ref z25, .int 0, .ref z26, .ref z27, .ref z28, .int 9, .int 0, .int 0, .ref z6, .ref z29, .ref z7, .int 0, .int 2, .ref z19, .ref z8, .ref z9, .ref z10, .int 0, .ref z11, .int 0, .ref z30, .ref z31, .ref z32, .ref z33, .int 0, .ref z12, .int 0, .int 0, .ref z34, .ref z35, .ref z36, .ref z37, .int 0, .int 0, .int 0, .int 0, .ref z38, .int 0, .ref z39, .ref z40, .ref z41, .ref z42, .int 0, .ref z13, .ref z14, .ref z15, .ref z16, .int 0, .ref z17, .ref z18, .ref z43])), (z14, .inl (G.2.1, 25, .inr (.inl (fun _ => 0)))), (z15, .inl (G.2.1, 25, .inr (.inl (fun _ => 0)))), (z16, .inl (G.2.1, 51200, .inr (.inl (fun _ => 0))))] s.heap.size = A at hD ⊢
  have hA : ∀ q : Nat, s.heap.size ≤ q → A q := fun q h => by rw [← hAe]; exact Or.inr h
  have hS : va_S A s.heap s.heap [] := va_S.rf
  have hP : va_P D vwCl [(h0, .inr (12, [.ref z0, .ref z1, .ref z2, .ref z3, .ref z4, .ref z5, .ref z20, .ref z21, .ref z22, .ref z23, .ref z24, .ref z25, .int 0, .ref z26, .ref z27, .ref z28, .int 9, .int 0, .int 0, .ref z6, .ref z29, .ref z7, .int 0, .int 2, .ref z19, .ref z8, .ref z9, .ref z10, .int 0, .ref z11, .int 0, .ref z30, .ref z31, .ref z32, .ref z33, .int 0, .ref z12, .int 0, .int 0, .ref z34, .ref z35, .ref z36, .ref z37, .int 0, .int 0, .int 0, .int 0, .ref z38, .int 0, .ref z39, .ref z40, .ref z41, .ref z42, .int 0, .ref z13, .ref z14, .ref z15, .ref z16, .int 0, .ref z17, .ref z18, .ref z43])), (z14, .inl (G.2.1, 25, .inr (.inl (fun _ => 0)))), (z15, .inl (G.2.1, 25, .inr (.inl (fun _ => 0)))), (z16, .inl (G.2.1, 51200, .inr (.inl (fun _ => 0))))] s.heap := hP
  have hl := lv_entry ([.ref h0]) (n := 3) (Nat.le_of_ble_eq_true rfl)
  rw [lg_entry_eq]
  generalize (lg_sl ([.ref h0]) ++ List.replicate (3 - (lg_sl ([.ref h0])).length) Slot.unset).toArray = ls at hl ⊢
  have hl : lv_has ls 3 [(0, .ref h0)] := hl
  refine lv_aload_n hx hb dX12_undo_0 rfl (lv_at hl 0 rfl) ?_
  refine lv_iconst (v := 0) hx hb dX12_undo_1 (by decide) ?_
  refine va_put (D := D) (ci := 12) (v := .int 0) (ty := (tyX12 38)) (C := RX12) (T := TX12) (N := 62) hx hb hts iX12_undo_X12 tyX12 tyX12_ok nmX12 hown hK hP hD hS 0 rfl rfl 38 (by decide) (hts (.fieldLink RX12 157 "PuppetBridgeModel" "thrown" "I") mX12_undo_w0) (fun _ h9 => h9) rfl (tyX12_ok 38 (by decide)) rfl rfl (Nat.le_of_ble_eq_true rfl) dX12_undo_2 (fun H locs hP hD hS => ?_)
  have hP : va_P D vwCl [(h0, .inr (12, [.ref z0, .ref z1, .ref z2, .ref z3, .ref z4, .ref z5, .ref z20, .ref z21, .ref z22, .ref z23, .ref z24, .ref z25, .int 0, .ref z26, .ref z27, .ref z28, .int 9, .int 0, .int 0, .ref z6, .ref z29, .ref z7, .int 0, .int 2, .ref z19, .ref z8, .ref z9, .ref z10, .int 0, .ref z11, .int 0, .ref z30, .ref z31, .ref z32, .ref z33, .int 0, .ref z12, .int 0, .int 0, .ref z34, .ref z35, .ref z36, .ref z37, .int 0, .int 0, .int 0, .int 0, .ref z38, .int 0, .ref z39, .ref z40, .ref z41, .ref z42, .int 0, .ref z13, .ref z14, .ref z15, .ref z16, .int 0, .ref z17, .ref z18, .ref z43])), (z14, .inl (G.2.1, 25, .inr (.inl (fun _ => 0)))), (z15, .inl (G.2.1, 25, .inr (.inl (fun _ => 0)))), (z16, .inl (G.2.1, 51200, .inr (.inl (fun _ => 0))))] H := hP
  have hD : va_D A [(h0, .inr (12, [.ref z0, .ref z1, .ref z2, .ref z3, .ref z4, .ref z5, .ref z20, .ref z21, .ref z22, .ref z23, .ref z24, .ref z25, .int 0, .ref z26, .ref z27, .ref z28, .int 9, .int 0, .int 0, .ref z6, .ref z29, .ref z7, .int 0, .int 2, .ref z19, .ref z8, .ref z9, .ref z10, .int 0, .ref z11, .int 0, .ref z30, .ref z31, .ref z32, .ref z33, .int 0, .ref z12, .int 0, .int 0, .ref z34, .ref z35, .ref z36, .ref z37, .int 0, .int 0, .int 0, .int 0, .ref z38, .int 0, .ref z39, .ref z40, .ref z41, .ref z42, .int 0, .ref z13, .ref z14, .ref z15, .ref z16, .int 0, .ref z17, .ref z18, .ref z43])), (z14, .inl (G.2.1, 25, .inr (.inl (fun _ => 0)))), (z15, .inl (G.2.1, 25, .inr (.inl (fun _ => 0)))), (z16, .inl (G.2.1, 51200, .inr (.inl (fun _ => 0))))] := hD
  refine lv_aload_n hx hb dX12_undo_5 rfl (lv_at hl 0 rfl) ?_
  refine va_get (D := D) (ci := 12) (v := .int 0) (C := RX12) (T := TX12) (N := 62) hx hb hts iX12_undo_X12 hown hK hP 0 rfl rfl 58 (by decide) (hts (.fieldLink RX12 369 "PuppetBridgeModel" "endsOf" "I") mX12_undo_w1) (fun _ h9 => h9) rfl dX12_undo_6 ?_
  refine lv_aload_n hx hb dX12_undo_9 rfl (lv_at hl 0 rfl) ?_
  refine va_get (D := D) (ci := 12) (v := .int 2) (C := RX12) (T := TX12) (N := 62) hx hb hts iX12_undo_X12 hown hK hP 0 rfl rfl 23 (by decide) (hts (.fieldLink RX12 69 "PuppetBridgeModel" "bars" "I") mX12_undo_w2) (fun _ h9 => h9) rfl dX12_undo_10 ?_
  refine lv_icmp_eq (tgt := 20) hx hb dX12_undo_13 (by decide) (fun h9 => absurd h9 (by decide)) (fun _ => ?_)
  refine lv_aload_n hx hb dX12_undo_16 rfl (lv_at hl 0 rfl) ?_
  have hPc := hP.sub (ws' := [(h0, .inr (12, [.ref z0, .ref z1, .ref z2, .ref z3, .ref z4, .ref z5, .ref z20, .ref z21, .ref z22, .ref z23, .ref z24, .ref z25, .int 0, .ref z26, .ref z27, .ref z28, .int 9, .int 0, .int 0, .ref z6, .ref z29, .ref z7, .int 0, .int 2, .ref z19, .ref z8, .ref z9, .ref z10, .int 0, .ref z11, .int 0, .ref z30, .ref z31, .ref z32, .ref z33, .int 0, .ref z12, .int 0, .int 0, .ref z34, .ref z35, .ref z36, .ref z37, .int 0, .int 0, .int 0, .int 0, .ref z38, .int 0, .ref z39, .ref z40, .ref z41, .ref z42, .int 0, .ref z13, .ref z14, .ref z15, .ref z16, .int 0, .ref z17, .ref z18, .ref z43])), (z15, .inl (G.2.1, 25, .inr (.inl (fun _ => 0)))), (z16, .inl (G.2.1, 51200, .inr (.inl (fun _ => 0))))]) [0, 2, 3] rfl
  have hDc := hD.sub (ws' := [(h0, .inr (12, [.ref z0, .ref z1, .ref z2, .ref z3, .ref z4, .ref z5, .ref z20, .ref z21, .ref z22, .ref z23, .ref z24, .ref z25, .int 0, .ref z26, .ref z27, .ref z28, .int 9, .int 0, .int 0, .ref z6, .ref z29, .ref z7, .int 0, .int 2, .ref z19, .ref z8, .ref z9, .ref z10, .int 0, .ref z11, .int 0, .ref z30, .ref z31, .ref z32, .ref z33, .int 0, .ref z12, .int 0, .int 0, .ref z34, .ref z35, .ref z36, .ref z37, .int 0, .int 0, .int 0, .int 0, .ref z38, .int 0, .ref z39, .ref z40, .ref z41, .ref z42, .int 0, .ref z13, .ref z14, .ref z15, .ref z16, .int 0, .ref z17, .ref z18, .ref z43])), (z15, .inl (G.2.1, 25, .inr (.inl (fun _ => 0)))), (z16, .inl (G.2.1, 51200, .inr (.inl (fun _ => 0))))]) [0, 2, 3] (by decide) rfl
  have hFc := va_free (wc := [(h0, .inr (12, [.ref z0, .ref z1, .ref z2, .ref z3, .ref z4, .ref z5, .ref z20, .ref z21, .ref z22, .ref z23, .ref z24, .ref z25, .int 0, .ref z26, .ref z27, .ref z28, .int 9, .int 0, .int 0, .ref z6, .ref z29, .ref z7, .int 0, .int 2, .ref z19, .ref z8, .ref z9, .ref z10, .int 0, .ref z11, .int 0, .ref z30, .ref z31, .ref z32, .ref z33, .int 0, .ref z12, .int 0, .int 0, .ref z34, .ref z35, .ref z36, .ref z37, .int 0, .int 0, .int 0, .int 0, .ref z38, .int 0, .ref z39, .ref z40, .ref z41, .ref z42, .int 0, .ref z13, .ref z14, .ref z15, .ref z16, .int 0, .ref z17, .ref z18, .ref z43])), (z15, .inl (G.2.1, 25, .inr (.inl (fun _ => 0)))), (z16, .inl (G.2.1, 51200, .inr (.inl (fun _ => 0))))]) hD hS hA [0, 2, 3] rfl
  refine va_callv (va_runV (As := []) (rest := []) ⟨hx, hb, hml, hown, hts⟩ (kX12_findEnds l D G h0 z0 z1 z2 z3 z4 z5 z20 z21 z22 z23 z24 z25 z26 z27 z28 z6 z29 z7 z19 z8 z9 z10 z11 z30 z31 z32 z33 z12 z34 z35 z36 z37 z38 z39 z40 z41 z42 z13 z14 z15 z16 z17 z18 z43 H.size) (cwV 0 hts gX12_undo_X12_findEnds rfl rfl rfl (by decide +kernel) ⟨Nat.le_of_ble_eq_true rfl, Nat.le_of_ble_eq_true rfl⟩) ⟨wB_blind, va_recv hK hPc (ci := 12) (q0 := 0) rfl rfl, wB_pre hPc hK hDc hN⟩ rfl rfl hl.1 rfl (lv_room (Nat.le_of_ble_eq_true rfl)) dX12_undo_17 ⟨Nat.le_of_ble_eq_true rfl, Nat.le_of_ble_eq_true rfl⟩) hS (fun q _ h => hFc q h) hFc (fun u t H1 locs ht hvm hr1 hB hz1 hk1 hS => ?_)
  obtain ⟨f2, hf3, hP1, hK1, hD1⟩ := hB
  rw [ht] at hP1
  obtain ⟨hP, hD⟩ := va_join (wr := [(z14, .inl (G.2.1, 25, .inr (.inl (fun _ => 0))))]) (w1 := [(z16, .inl (G.2.1, 51200, .inr (.inl f2))), (h0, .inr (12, [.ref z0, .ref z1, .ref z2, .ref z3, .ref z4, .ref z5, .ref z20, .ref z21, .ref z22, .ref z23, .ref z24, .ref z25, .int 0, .ref z26, .ref z27, .ref z28, .int 9, .int 0, .int 0, .ref z6, .ref z29, .ref z7, .int 0, .int 2, .ref z19, .ref z8, .ref z9, .ref z10, .int 0, .ref z11, .int 0, .ref z30, .ref z31, .ref z32, .ref z33, .int 0, .ref z12, .int 0, .int 0, .ref z34, .ref z35, .ref z36, .ref z37, .int 0, .int 0, .int 0, .int 0, .ref z38, .int 0, .ref z39, .ref z40, .ref z41, .ref z42, .int 0, .ref z13, .ref z14, .ref z15, .ref z16, .int 2, .ref z17, .ref z18, .ref z43]))]) hP hD [0, 2, 3] [1] rfl rfl (by decide) (by decide) hk1 hFc hP1 hD1
  clear hPc hDc
  generalize H1 = H at hP hS ⊢
  have hP : va_P D vwCl [(z14, .inl (G.2.1, 25, .inr (.inl (fun _ => 0)))), (z16, .inl (G.2.1, 51200, .inr (.inl f2))), (h0, .inr (12, [.ref z0, .ref z1, .ref z2, .ref z3, .ref z4, .ref z5, .ref z20, .ref z21, .ref z22, .ref z23, .ref z24, .ref z25, .int 0, .ref z26, .ref z27, .ref z28, .int 9, .int 0, .int 0, .ref z6, .ref z29, .ref z7, .int 0, .int 2, .ref z19, .ref z8, .ref z9, .ref z10, .int 0, .ref z11, .int 0, .ref z30, .ref z31, .ref z32, .ref z33, .int 0, .ref z12, .int 0, .int 0, .ref z34, .ref z35, .ref z36, .ref z37, .int 0, .int 0, .int 0, .int 0, .ref z38, .int 0, .ref z39, .ref z40, .ref z41, .ref z42, .int 0, .ref z13, .ref z14, .ref z15, .ref z16, .int 2, .ref z17, .ref z18, .ref z43]))] H := hP
  have hD : va_D A [(z14, .inl (G.2.1, 25, .inr (.inl (fun _ => 0)))), (z16, .inl (G.2.1, 51200, .inr (.inl f2))), (h0, .inr (12, [.ref z0, .ref z1, .ref z2, .ref z3, .ref z4, .ref z5, .ref z20, .ref z21, .ref z22, .ref z23, .ref z24, .ref z25, .int 0, .ref z26, .ref z27, .ref z28, .int 9, .int 0, .int 0, .ref z6, .ref z29, .ref z7, .int 0, .int 2, .ref z19, .ref z8, .ref z9, .ref z10, .int 0, .ref z11, .int 0, .ref z30, .ref z31, .ref z32, .ref z33, .int 0, .ref z12, .int 0, .int 0, .ref z34, .ref z35, .ref z36, .ref z37, .int 0, .int 0, .int 0, .int 0, .ref z38, .int 0, .ref z39, .ref z40, .ref z41, .ref z42, .int 0, .ref z13, .ref z14, .ref z15, .ref z16, .int 2, .ref z17, .ref z18, .ref z43]))] := hD
  have hE := hf3
  refine lv_iconst (v := 0) hx hb dX12_undo_20 (by decide) ?_
  refine lv_istore_n (lv' := [(1, .int 0), (0, .ref h0)]) hx hb dX12_undo_21 rfl hl (by decide) rfl (fun ls hl => ?_)
  refine lv_iload_n hx hb dX12_undo_22 rfl (lv_at hl 0 rfl) ?_
  refine lv_bipush (v := 6) hx hb dX12_undo_23 (by decide) ?_
  refine lv_icmp_gt (tgt := 77) hx hb dX12_undo_25 (by decide) (fun h9 => absurd h9 (by decide)) (fun _ => ?_)
  refine lv_aload_n hx hb dX12_undo_28 rfl (lv_at hl 1 rfl) ?_
  refine lv_iload_n hx hb dX12_undo_29 rfl (lv_at hl 0 rfl) ?_
  have hPc := hP.sub (ws' := [(h0, .inr (12, [.ref z0, .ref z1, .ref z2, .ref z3, .ref z4, .ref z5, .ref z20, .ref z21, .ref z22, .ref z23, .ref z24, .ref z25, .int 0, .ref z26, .ref z27, .ref z28, .int 9, .int 0, .int 0, .ref z6, .ref z29, .ref z7, .int 0, .int 2, .ref z19, .ref z8, .ref z9, .ref z10, .int 0, .ref z11, .int 0, .ref z30, .ref z31, .ref z32, .ref z33, .int 0, .ref z12, .int 0, .int 0, .ref z34, .ref z35, .ref z36, .ref z37, .int 0, .int 0, .int 0, .int 0, .ref z38, .int 0, .ref z39, .ref z40, .ref z41, .ref z42, .int 0, .ref z13, .ref z14, .ref z15, .ref z16, .int 2, .ref z17, .ref z18, .ref z43])), (z14, .inl (G.2.1, 25, .inr (.inl (fun _ => 0)))), (z16, .inl (G.2.1, 51200, .inr (.inl f2)))]) [2, 0, 1] rfl
  have hDc := hD.sub (ws' := [(h0, .inr (12, [.ref z0, .ref z1, .ref z2, .ref z3, .ref z4, .ref z5, .ref z20, .ref z21, .ref z22, .ref z23, .ref z24, .ref z25, .int 0, .ref z26, .ref z27, .ref z28, .int 9, .int 0, .int 0, .ref z6, .ref z29, .ref z7, .int 0, .int 2, .ref z19, .ref z8, .ref z9, .ref z10, .int 0, .ref z11, .int 0, .ref z30, .ref z31, .ref z32, .ref z33, .int 0, .ref z12, .int 0, .int 0, .ref z34, .ref z35, .ref z36, .ref z37, .int 0, .int 0, .int 0, .int 0, .ref z38, .int 0, .ref z39, .ref z40, .ref z41, .ref z42, .int 0, .ref z13, .ref z14, .ref z15, .ref z16, .int 2, .ref z17, .ref z18, .ref z43])), (z14, .inl (G.2.1, 25, .inr (.inl (fun _ => 0)))), (z16, .inl (G.2.1, 51200, .inr (.inl f2)))]) [2, 0, 1] (by decide) rfl
  have hFc := va_free (wc := [(h0, .inr (12, [.ref z0, .ref z1, .ref z2, .ref z3, .ref z4, .ref z5, .ref z20, .ref z21, .ref z22, .ref z23, .ref z24, .ref z25, .int 0, .ref z26, .ref z27, .ref z28, .int 9, .int 0, .int 0, .ref z6, .ref z29, .ref z7, .int 0, .int 2, .ref z19, .ref z8, .ref z9, .ref z10, .int 0, .ref z11, .int 0, .ref z30, .ref z31, .ref z32, .ref z33, .int 0, .ref z12, .int 0, .int 0, .ref z34, .ref z35, .ref z36, .ref z37, .int 0, .int 0, .int 0, .int 0, .ref z38, .int 0, .ref z39, .ref z40, .ref z41, .ref z42, .int 0, .ref z13, .ref z14, .ref z15, .ref z16, .int 2, .ref z17, .ref z18, .ref z43])), (z14, .inl (G.2.1, 25, .inr (.inl (fun _ => 0)))), (z16, .inl (G.2.1, 51200, .inr (.inl f2)))]) hD hS hA [2, 0, 1] rfl
  refine va_calli (va_runV (As := [.int 0]) (rest := []) ⟨hx, hb, hml, hown, hts⟩ (kX12_frees l D G h0 z0 z1 z2 z3 z4 z5 z20 z21 z22 z23 z24 z25 z26 z27 z28 z6 z29 z7 z19 z8 z9 z10 z11 z30 z31 z32 z33 z12 z34 z35 z36 z37 z38 z39 z40 z41 z42 z13 z14 z15 z16 z17 z18 z43 f2 hE H.size) (cwV 1 hts gX12_undo_X12_frees rfl rfl rfl (by decide +kernel) ⟨Nat.le_of_ble_eq_true rfl, Nat.le_of_ble_eq_true rfl⟩) ⟨wB_blind, va_recv hK hPc (ci := 12) (q0 := 0) rfl rfl, wB_pre hPc hK hDc hN⟩ rfl rfl hl.1 rfl (lv_room (Nat.le_of_ble_eq_true rfl)) dX12_undo_30 ⟨Nat.le_of_ble_eq_true rfl, Nat.le_of_ble_eq_true rfl⟩) hS (fun q _ h => hFc q h) hFc (fun r4 u t H1 locs ht hvm hr4 hB hz1 hk1 hS => ?_)
  obtain ⟨hP1, hK1, hD1⟩ := hB
  rw [ht] at hP1
  obtain ⟨hP, hD⟩ := va_join (wr := []) (w1 := [(h0, .inr (12, [.ref z0, .ref z1, .ref z2, .ref z3, .ref z4, .ref z5, .ref z20, .ref z21, .ref z22, .ref z23, .ref z24, .ref z25, .int 0, .ref z26, .ref z27, .ref z28, .int 9, .int 0, .int 0, .ref z6, .ref z29, .ref z7, .int 0, .int 2, .ref z19, .ref z8, .ref z9, .ref z10, .int 0, .ref z11, .int 0, .ref z30, .ref z31, .ref z32, .ref z33, .int 0, .ref z12, .int 0, .int 0, .ref z34, .ref z35, .ref z36, .ref z37, .int 0, .int 0, .int 0, .int 0, .ref z38, .int 0, .ref z39, .ref z40, .ref z41, .ref z42, .int 0, .ref z13, .ref z14, .ref z15, .ref z16, .int 2, .ref z17, .ref z18, .ref z43]))]) hP hD [2, 0, 1] [] rfl rfl (by decide) (by decide) hk1 hFc hP1 hD1
  clear hPc hDc
  generalize H1 = H at hP hS ⊢
  have hP : va_P D vwCl [(h0, .inr (12, [.ref z0, .ref z1, .ref z2, .ref z3, .ref z4, .ref z5, .ref z20, .ref z21, .ref z22, .ref z23, .ref z24, .ref z25, .int 0, .ref z26, .ref z27, .ref z28, .int 9, .int 0, .int 0, .ref z6, .ref z29, .ref z7, .int 0, .int 2, .ref z19, .ref z8, .ref z9, .ref z10, .int 0, .ref z11, .int 0, .ref z30, .ref z31, .ref z32, .ref z33, .int 0, .ref z12, .int 0, .int 0, .ref z34, .ref z35, .ref z36, .ref z37, .int 0, .int 0, .int 0, .int 0, .ref z38, .int 0, .ref z39, .ref z40, .ref z41, .ref z42, .int 0, .ref z13, .ref z14, .ref z15, .ref z16, .int 2, .ref z17, .ref z18, .ref z43]))] H := hP
  have hD : va_D A [(h0, .inr (12, [.ref z0, .ref z1, .ref z2, .ref z3, .ref z4, .ref z5, .ref z20, .ref z21, .ref z22, .ref z23, .ref z24, .ref z25, .int 0, .ref z26, .ref z27, .ref z28, .int 9, .int 0, .int 0, .ref z6, .ref z29, .ref z7, .int 0, .int 2, .ref z19, .ref z8, .ref z9, .ref z10, .int 0, .ref z11, .int 0, .ref z30, .ref z31, .ref z32, .ref z33, .int 0, .ref z12, .int 0, .int 0, .ref z34, .ref z35, .ref z36, .ref z37, .int 0, .int 0, .int 0, .int 0, .ref z38, .int 0, .ref z39, .ref z40, .ref z41, .ref z42, .int 0, .ref z13, .ref z14, .ref z15, .ref z16, .int 2, .ref z17, .ref z18, .ref z43]))] := hD
  subst hr4
  refine lv_if_ne (tgt := 39) hx hb dX12_undo_33 (by decide) (fun _ => ?_) (fun h9 => absurd h9 (by decide))
  refine lv_iconst (v := 0) hx hb dX12_undo_39 (by decide) ?_
  refine lv_istore_n (lv' := [(2, .int 0), (1, .int 0), (0, .ref h0)]) hx hb dX12_undo_40 rfl hl (by decide) rfl (fun ls hl => ?_)
  refine lv_iload_n hx hb dX12_undo_41 rfl (lv_at hl 0 rfl) ?_
  refine lv_iload_n hx hb dX12_undo_42 rfl (lv_at hl 1 rfl) ?_
  refine lv_icmp_ge (tgt := 64) hx hb dX12_undo_43 (by decide) (fun _ => ?_) (fun h9 => absurd h9 (by decide))
  refine lv_aload_n hx hb dX12_undo_64 rfl (lv_at hl 2 rfl) ?_
  refine lv_iload_n hx hb dX12_undo_65 rfl (lv_at hl 1 rfl) ?_
  refine va_put (D := D) (ci := 12) (v := .int 0) (ty := (tyX12 37)) (C := RX12) (T := TX12) (N := 62) hx hb hts iX12_undo_X12 tyX12 tyX12_ok nmX12 hown hK hP hD hS 0 rfl rfl 37 (by decide) (hts (.fieldLink RX12 306 "PuppetBridgeModel" "rowMany" "I") mX12_undo_w5) (fun _ h9 => h9) rfl (tyX12_ok 37 (by decide)) rfl rfl (Nat.le_of_ble_eq_true rfl) dX12_undo_66 (fun H locs hP hD hS => ?_)
  have hP : va_P D vwCl [(h0, .inr (12, [.ref z0, .ref z1, .ref z2, .ref z3, .ref z4, .ref z5, .ref z20, .ref z21, .ref z22, .ref z23, .ref z24, .ref z25, .int 0, .ref z26, .ref z27, .ref z28, .int 9, .int 0, .int 0, .ref z6, .ref z29, .ref z7, .int 0, .int 2, .ref z19, .ref z8, .ref z9, .ref z10, .int 0, .ref z11, .int 0, .ref z30, .ref z31, .ref z32, .ref z33, .int 0, .ref z12, .int 0, .int 0, .ref z34, .ref z35, .ref z36, .ref z37, .int 0, .int 0, .int 0, .int 0, .ref z38, .int 0, .ref z39, .ref z40, .ref z41, .ref z42, .int 0, .ref z13, .ref z14, .ref z15, .ref z16, .int 2, .ref z17, .ref z18, .ref z43]))] H := hP
  have hD : va_D A [(h0, .inr (12, [.ref z0, .ref z1, .ref z2, .ref z3, .ref z4, .ref z5, .ref z20, .ref z21, .ref z22, .ref z23, .ref z24, .ref z25, .int 0, .ref z26, .ref z27, .ref z28, .int 9, .int 0, .int 0, .ref z6, .ref z29, .ref z7, .int 0, .int 2, .ref z19, .ref z8, .ref z9, .ref z10, .int 0, .ref z11, .int 0, .ref z30, .ref z31, .ref z32, .ref z33, .int 0, .ref z12, .int 0, .int 0, .ref z34, .ref z35, .ref z36, .ref z37, .int 0, .int 0, .int 0, .int 0, .ref z38, .int 0, .ref z39, .ref z40, .ref z41, .ref z42, .int 0, .ref z13, .ref z14, .ref z15, .ref z16, .int 2, .ref z17, .ref z18, .ref z43]))] := hD
  refine lv_iload_n hx hb dX12_undo_69 rfl (lv_at hl 1 rfl) ?_
  exact W.iret (v := 0) hx hb hr (fun t ht hW => ⟨⟨0, (), rfl, rfl, trivial⟩, hS.F ht⟩) hS.2.2 dX12_undo_70
