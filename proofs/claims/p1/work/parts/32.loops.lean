theorem mX12_again_w0 : Cond.fieldLink RX12 157 "PuppetBridgeModel" "thrown" "I" ∈ wsX12_again := by decide +kernel
theorem mX12_again_w1 : Cond.fieldLink RX12 60 "PuppetBridgeModel" "w" "[I" ∈ wsX12_again := by decide +kernel
theorem mX12_again_w2 : Cond.fieldLink RX12 160 "PuppetBridgeModel" "figures" "I" ∈ wsX12_again := by decide +kernel
theorem iX12_again_X12 : ∀ w ∈ wsX120, w ∈ wsX12_again := fun _ h => List.mem_cons_of_mem _ (List.mem_append_right _ h)
theorem dX12_again_0 : decode cX12_again 0 = .ok (.aload_n 0, 1) := by decide +kernel
theorem dX12_again_1 : decode cX12_again 1 = .ok (.iconst 0, 1) := by decide +kernel
theorem dX12_again_2 : decode cX12_again 2 = .ok (.putfield 157, 3) := by decide +kernel
theorem dX12_again_5 : decode cX12_again 5 = .ok (.aload_n 0, 1) := by decide +kernel
theorem dX12_again_6 : decode cX12_again 6 = .ok (.getfield 60, 3) := by decide +kernel
theorem dX12_again_9 : decode cX12_again 9 = .ok (.sipush 168, 3) := by decide +kernel
theorem dX12_again_12 : decode cX12_again 12 = .ok (.iaload, 1) := by decide +kernel
theorem dX12_again_13 : decode cX12_again 13 = .ok (.istore_n 1, 1) := by decide +kernel
theorem dX12_again_14 : decode cX12_again 14 = .ok (.iconst 0, 1) := by decide +kernel
theorem dX12_again_15 : decode cX12_again 15 = .ok (.istore_n 2, 1) := by decide +kernel
theorem dX12_again_16 : decode cX12_again 16 = .ok (.iload_n 2, 1) := by decide +kernel
theorem dX12_again_17 : decode cX12_again 17 = .ok (.sipush 169, 3) := by decide +kernel
theorem dX12_again_20 : decode cX12_again 20 = .ok (.if_icmp .ge 16, 3) := by decide +kernel
theorem dX12_again_23 : decode cX12_again 23 = .ok (.aload_n 0, 1) := by decide +kernel
theorem dX12_again_24 : decode cX12_again 24 = .ok (.getfield 60, 3) := by decide +kernel
theorem dX12_again_27 : decode cX12_again 27 = .ok (.iload_n 2, 1) := by decide +kernel
theorem dX12_again_28 : decode cX12_again 28 = .ok (.iconst 0, 1) := by decide +kernel
theorem dX12_again_29 : decode cX12_again 29 = .ok (.iastore, 1) := by decide +kernel
theorem dX12_again_30 : decode cX12_again 30 = .ok (.iinc 2 1, 3) := by decide +kernel
theorem dX12_again_33 : decode cX12_again 33 = .ok (.goto (-17), 3) := by decide +kernel
theorem dX12_again_36 : decode cX12_again 36 = .ok (.iconst 0, 1) := by decide +kernel
theorem dX12_again_37 : decode cX12_again 37 = .ok (.istore_n 2, 1) := by decide +kernel
theorem dX12_again_38 : decode cX12_again 38 = .ok (.iload_n 2, 1) := by decide +kernel
theorem dX12_again_39 : decode cX12_again 39 = .ok (.aload_n 0, 1) := by decide +kernel
theorem dX12_again_40 : decode cX12_again 40 = .ok (.getfield 160, 3) := by decide +kernel
theorem dX12_again_43 : decode cX12_again 43 = .ok (.if_icmp .ge 41, 3) := by decide +kernel
theorem dX12_again_84 : decode cX12_again 84 = .ok (.iload_n 1, 1) := by decide +kernel
theorem dX12_again_85 : decode cX12_again 85 = .ok (.ireturn, 1) := by decide +kernel
set_option maxHeartbeats 4000000 in
set_option maxRecDepth 100000 in
/-- X12_again -/
theorem kX12_again (l : Launch) (D : va_G) (G : tyG) (h0 : Nat) (z0 : Nat) (z1 : Nat) (z2 : Nat) (z3 : Nat) (z4 : Nat) (z5 : Nat) (z20 : Nat) (z21 : Nat) (z22 : Nat) (z23 : Nat) (z24 : Nat) (z25 : Nat) (z26 : Nat) (z27 : Nat) (z28 : Nat) (z6 : Nat) (z29 : Nat) (z7 : Nat) (z19 : Nat) (z8 : Nat) (z9 : Nat) (z10 : Nat) (z11 : Nat) (z30 : Nat) (z31 : Nat) (z32 : Nat) (z33 : Nat) (z12 : Nat) (z34 : Nat) (z35 : Nat) (z36 : Nat) (z37 : Nat) (z38 : Nat) (z39 : Nat) (z40 : Nat) (z41 : Nat) (z42 : Nat) (z13 : Nat) (z14 : Nat) (z15 : Nat) (z16 : Nat) (z17 : Nat) (z18 : Nat) (z43 : Nat) (sz : Nat) : Met l yX12_again wsX12_again ({ frames := 0, cells := 0, slots := 0, locals := 0 }) (va_Pc [.ref h0] (wB D G sz [(h0, .inr (12, [.ref z0, .ref z1, .ref z2, .ref z3, .ref z4, .ref z5, .ref z20, .ref z21, .ref z22, .ref z23, .ref z24, .ref z25, .int 0, .ref z26, .ref z27, .ref z28, .int 9, .int 0, .int 0, .ref z6, .ref z29, .ref z7, .int 0, .int 2, .ref z19, .ref z8, .ref z9, .ref z10, .int 0, .ref z11, .int 0, .ref z30, .ref z31, .ref z32, .ref z33, .int 0, .ref z12, .int 0, .int 0, .ref z34, .ref z35, .ref z36, .ref z37, .int 0, .int 0, .int 0, .int 0, .ref z38, .int 0, .ref z39, .ref z40, .ref z41, .ref z42, .int 0, .ref z13, .ref z14, .ref z15, .ref z16, .int 0, .ref z17, .ref z18, .ref z43])), (z6, .inl (G.1, 169, .inl (fun _ => 0)))])) (va_Qi (fun (r : Int32) (_ : Unit) => r = 0) (fun _ _ => True) (va_A [(h0, .inr (12, [.ref z0, .ref z1, .ref z2, .ref z3, .ref z4, .ref z5, .ref z20, .ref z21, .ref z22, .ref z23, .ref z24, .ref z25, .int 0, .ref z26, .ref z27, .ref z28, .int 9, .int 0, .int 0, .ref z6, .ref z29, .ref z7, .int 0, .int 2, .ref z19, .ref z8, .ref z9, .ref z10, .int 0, .ref z11, .int 0, .ref z30, .ref z31, .ref z32, .ref z33, .int 0, .ref z12, .int 0, .int 0, .ref z34, .ref z35, .ref z36, .ref z37, .int 0, .int 0, .int 0, .int 0, .ref z38, .int 0, .ref z39, .ref z40, .ref z41, .ref z42, .int 0, .ref z13, .ref z14, .ref z15, .ref z16, .int 0, .ref z17, .ref z18, .ref z43])), (z6, .inl (G.1, 169, .inl (fun _ => 0)))] sz)) 0 0 (va_A [(h0, .inr (12, [.ref z0, .ref z1, .ref z2, .ref z3, .ref z4, .ref z5, .ref z20, .ref z21, .ref z22, .ref z23, .ref z24, .ref z25, .int 0, .ref z26, .ref z27, .ref z28, .int 9, .int 0, .int 0, .ref z6, .ref z29, .ref z7, .int 0, .int 2, .ref z19, .ref z8, .ref z9, .ref z10, .int 0, .ref z11, .int 0, .ref z30, .ref z31, .ref z32, .ref z33, .int 0, .ref z12, .int 0, .int 0, .ref z34, .ref z35, .ref z36, .ref z37, .int 0, .int 0, .int 0, .int 0, .ref z38, .int 0, .ref z39, .ref z40, .ref z41, .ref z42, .int 0, .ref z13, .ref z14, .ref z15, .ref z16, .int 0, .ref z17, .ref z18, .ref z43])), (z6, .inl (G.1, 169, .inl (fun _ => 0)))] sz) := by
  refine Met.ofW (cc := cX12_again) (maxL := 3) (ret := (some .int)) (by decide) rfl ?_
  intro p e s m args below meth c s₁ B hml hv
  obtain ⟨rfl, hsz, hP, hK, hD0, hN⟩ := hv
  have hx := B.exec
  have hb := B.bytes
  have hr := B.returns
  have hts := atoms_spec (ws := wsX12_again) B.pre
  have hown : s.vm.findClass RX12 = some m.cls := findClass_of_methodNamed B.named
  have hlocks := B.notSynchronized
  subst hsz
  have hD := hD0.self (sz := s.heap.size)
  generalize hAe : va_A [(h0, .inr (12, [.ref z0, .ref z1, .ref z2, .ref z3, .ref z4, .ref z5, .ref z20, .ref z21, .ref z22, .ref z23, .ref z24, .ref z25, .int 0, .ref z26, .ref z27, .ref z28, .int 9, .int 0, .int 0, .ref z6, .ref z29, .ref z7, .int 0, .int 2, .ref z19, .ref z8, .ref z9, .ref z10, .int 0, .ref z11, .int 0, .ref z30, .ref z31, .ref z32, .ref z33, .int 0, .ref z12, .int 0, .int 0, .ref z34, .ref z35, .ref z36, .ref z37, .int 0, .int 0, .int 0, .int 0, .ref z38, .int 0, .ref z39, .ref z40, .ref z41, .ref z42, .int 0, .ref z13, .ref z14, .ref z15, .ref z16, .int 0, .ref z17, .ref z18, .ref z43])), (z6, .inl (G.1, 169, .inl (fun _ => 0)))] s.heap.size = A at hD ⊢
  have hA : ∀ q : Nat, s.heap.size ≤ q → A q := fun q h => by rw [← hAe]; exact Or.inr h
  have hS : va_S A s.heap s.heap [] := va_S.rf
  have hP : va_P D vwCl [(h0, .inr (12, [.ref z0, .ref z1, .ref z2, .ref z3, .ref z4, .ref z5, .ref z20, .ref z21, .ref z22, .ref z23, .ref z24, .ref z25, .int 0, .ref z26, .ref z27, .ref z28, .int 9, .int 0, .int 0, .ref z6, .ref z29, .ref z7, .int 0, .int 2, .ref z19, .ref z8, .ref z9, .ref z10, .int 0, .ref z11, .int 0, .ref z30, .ref z31, .ref z32, .ref z33, .int 0, .ref z12, .int 0, .int 0, .ref z34, .ref z35, .ref z36, .ref z37, .int 0, .int 0, .int 0, .int 0, .ref z38, .int 0, .ref z39, .ref z40, .ref z41, .ref z42, .int 0, .ref z13, .ref z14, .ref z15, .ref z16, .int 0, .ref z17, .ref z18, .ref z43])), (z6, .inl (G.1, 169, .inl (fun _ => 0)))] s.heap := hP
  have hl := lv_entry ([.ref h0]) (n := 3) (Nat.le_of_ble_eq_true rfl)
  rw [lg_entry_eq]
  generalize (lg_sl ([.ref h0]) ++ List.replicate (3 - (lg_sl ([.ref h0])).length) Slot.unset).toArray = ls at hl ⊢
  have hl : lv_has ls 3 [(0, .ref h0)] := hl
  refine lv_aload_n hx hb dX12_again_0 rfl (lv_at hl 0 rfl) ?_
  refine lv_iconst (v := 0) hx hb dX12_again_1 (by decide) ?_
  refine va_put (D := D) (ci := 12) (v := .int 0) (ty := (tyX12 38)) (C := RX12) (T := TX12) (N := 62) hx hb hts iX12_again_X12 tyX12 tyX12_ok nmX12 hown hK hP hD hS 0 rfl rfl 38 (by decide) (hts (.fieldLink RX12 157 "PuppetBridgeModel" "thrown" "I") mX12_again_w0) (fun _ h9 => h9) rfl (tyX12_ok 38 (by decide)) rfl rfl (Nat.le_of_ble_eq_true rfl) dX12_again_2 (fun H locs hP hD hS => ?_)
  have hP : va_P D vwCl [(h0, .inr (12, [.ref z0, .ref z1, .ref z2, .ref z3, .ref z4, .ref z5, .ref z20, .ref z21, .ref z22, .ref z23, .ref z24, .ref z25, .int 0, .ref z26, .ref z27, .ref z28, .int 9, .int 0, .int 0, .ref z6, .ref z29, .ref z7, .int 0, .int 2, .ref z19, .ref z8, .ref z9, .ref z10, .int 0, .ref z11, .int 0, .ref z30, .ref z31, .ref z32, .ref z33, .int 0, .ref z12, .int 0, .int 0, .ref z34, .ref z35, .ref z36, .ref z37, .int 0, .int 0, .int 0, .int 0, .ref z38, .int 0, .ref z39, .ref z40, .ref z41, .ref z42, .int 0, .ref z13, .ref z14, .ref z15, .ref z16, .int 0, .ref z17, .ref z18, .ref z43])), (z6, .inl (G.1, 169, .inl (fun _ => 0)))] H := hP
  have hD : va_D A [(h0, .inr (12, [.ref z0, .ref z1, .ref z2, .ref z3, .ref z4, .ref z5, .ref z20, .ref z21, .ref z22, .ref z23, .ref z24, .ref z25, .int 0, .ref z26, .ref z27, .ref z28, .int 9, .int 0, .int 0, .ref z6, .ref z29, .ref z7, .int 0, .int 2, .ref z19, .ref z8, .ref z9, .ref z10, .int 0, .ref z11, .int 0, .ref z30, .ref z31, .ref z32, .ref z33, .int 0, .ref z12, .int 0, .int 0, .ref z34, .ref z35, .ref z36, .ref z37, .int 0, .int 0, .int 0, .int 0, .ref z38, .int 0, .ref z39, .ref z40, .ref z41, .ref z42, .int 0, .ref z13, .ref z14, .ref z15, .ref z16, .int 0, .ref z17, .ref z18, .ref z43])), (z6, .inl (G.1, 169, .inl (fun _ => 0)))] := hD
  refine lv_aload_n hx hb dX12_again_5 rfl (lv_at hl 0 rfl) ?_
  refine va_get (D := D) (ci := 12) (v := .ref z6) (C := RX12) (T := TX12) (N := 62) hx hb hts iX12_again_X12 hown hK hP 0 rfl rfl 19 (by decide) (hts (.fieldLink RX12 60 "PuppetBridgeModel" "w" "[I") mX12_again_w1) (fun _ h9 => h9) rfl dX12_again_6 ?_
  refine lv_sipush (v := 168) hx hb dX12_again_9 (by decide) ?_
  refine va_iald hx hb hK hP 1 0 rfl rfl (wk_in rfl) dX12_again_12 ?_
  refine wk_i 0 rfl ?_
  refine lv_istore_n (lv' := [(1, .int 0), (0, .ref h0)]) hx hb dX12_again_13 rfl hl (by decide) rfl (fun ls hl => ?_)
  refine lv_iconst (v := 0) hx hb dX12_again_14 (by decide) ?_
  refine lv_istore_n (lv' := [(2, .int 0), (1, .int 0), (0, .ref h0)]) hx hb dX12_again_15 rfl hl (by decide) rfl (fun ls hl => ?_)
  obtain ⟨i, hi⟩ : ∃ i : Nat, i = 0 := ⟨0, rfl⟩
  obtain ⟨lf0, hlf0⟩ : ∃ f : Nat → Int32, f = (fun _ => 0) := ⟨_, rfl⟩
  have hP : va_P D vwCl [(h0, .inr (12, [.ref z0, .ref z1, .ref z2, .ref z3, .ref z4, .ref z5, .ref z20, .ref z21, .ref z22, .ref z23, .ref z24, .ref z25, .int 0, .ref z26, .ref z27, .ref z28, .int 9, .int 0, .int 0, .ref z6, .ref z29, .ref z7, .int 0, .int 2, .ref z19, .ref z8, .ref z9, .ref z10, .int 0, .ref z11, .int 0, .ref z30, .ref z31, .ref z32, .ref z33, .int 0, .ref z12, .int 0, .int 0, .ref z34, .ref z35, .ref z36, .ref z37, .int 0, .int 0, .int 0, .int 0, .ref z38, .int 0, .ref z39, .ref z40, .ref z41, .ref z42, .int 0, .ref z13, .ref z14, .ref z15, .ref z16, .int 0, .ref z17, .ref z18, .ref z43])), (z6, .inl (G.1, 169, .inl lf0))] H := by rw [hlf0]; exact hP
  have hD : va_D A [(h0, .inr (12, [.ref z0, .ref z1, .ref z2, .ref z3, .ref z4, .ref z5, .ref z20, .ref z21, .ref z22, .ref z23, .ref z24, .ref z25, .int 0, .ref z26, .ref z27, .ref z28, .int 9, .int 0, .int 0, .ref z6, .ref z29, .ref z7, .int 0, .int 2, .ref z19, .ref z8, .ref z9, .ref z10, .int 0, .ref z11, .int 0, .ref z30, .ref z31, .ref z32, .ref z33, .int 0, .ref z12, .int 0, .int 0, .ref z34, .ref z35, .ref z36, .ref z37, .int 0, .int 0, .int 0, .int 0, .ref z38, .int 0, .ref z39, .ref z40, .ref z41, .ref z42, .int 0, .ref z13, .ref z14, .ref z15, .ref z16, .int 0, .ref z17, .ref z18, .ref z43])), (z6, .inl (G.1, 169, .inl lf0))] := by rw [hlf0]; exact hD
  have hl : lv_has ls 3 [(2, .int (nI i)), (1, .int 0), (0, .ref h0)] := by rw [hi]; exact hl
  obtain ⟨d, hd⟩ : ∃ d : Nat, i + d = 169 := ⟨169, by omega⟩
  clear hi hlf0
  generalize H = H at hP hS ⊢
  generalize locs = locs at hS ⊢
  generalize ls = ls at hl ⊢
  induction d generalizing i lf0 H locs ls with
  | zero =>
    refine lv_iload_n hx hb dX12_again_16 rfl (lv_at hl 0 rfl) ?_
    refine lv_sipush (v := 169) hx hb dX12_again_17 (by decide) ?_
    refine lv_icmp_ge (tgt := 36) hx hb dX12_again_20 (by decide) (fun _ => ?_) (fun h9 => absurd (by rw [show i = 169 by omega]; first | decide | exact Int32.le_refl _) h9)
    refine lv_iconst (v := 0) hx hb dX12_again_36 (by decide) ?_
    refine lv_istore_n (lv' := [(2, .int 0), (1, .int 0), (0, .ref h0)]) hx hb dX12_again_37 rfl hl (by decide) rfl (fun ls hl => ?_)
    refine lv_iload_n hx hb dX12_again_38 rfl (lv_at hl 0 rfl) ?_
    refine lv_aload_n hx hb dX12_again_39 rfl (lv_at hl 2 rfl) ?_
    refine va_get (D := D) (ci := 12) (v := .int 0) (C := RX12) (T := TX12) (N := 62) hx hb hts iX12_again_X12 hown hK hP 0 rfl rfl 12 (by decide) (hts (.fieldLink RX12 160 "PuppetBridgeModel" "figures" "I") mX12_again_w2) (fun _ h9 => h9) rfl dX12_again_40 ?_
    refine lv_icmp_ge (tgt := 84) hx hb dX12_again_43 (by decide) (fun _ => ?_) (fun h9 => absurd h9 (by decide))
    refine lv_iload_n hx hb dX12_again_84 rfl (lv_at hl 1 rfl) ?_
    exact W.iret (v := 0) hx hb hr (fun t ht hW => ⟨⟨0, (), rfl, rfl, trivial⟩, hS.F ht⟩) hS.2.2 dX12_again_85
  | succ d ih =>
    refine lv_iload_n hx hb dX12_again_16 rfl (lv_at hl 0 rfl) ?_
    refine lv_sipush (v := 169) hx hb dX12_again_17 (by decide) ?_
    refine lv_icmp_ge (tgt := 36) hx hb dX12_again_20 (by decide) (fun h9 => absurd h9 (by rw [show (169 : Int32) = nI 169 from rfl]; exact nI_ge (by omega) (by omega))) (fun _ => ?_)
    refine lv_aload_n hx hb dX12_again_23 rfl (lv_at hl 2 rfl) ?_
    refine va_get (D := D) (ci := 12) (v := .ref z6) (C := RX12) (T := TX12) (N := 62) hx hb hts iX12_again_X12 hown hK hP 0 rfl rfl 19 (by decide) (hts (.fieldLink RX12 60 "PuppetBridgeModel" "w" "[I") mX12_again_w1) (fun _ h9 => h9) rfl dX12_again_24 ?_
    refine lv_iload_n hx hb dX12_again_27 rfl (lv_at hl 0 rfl) ?_
    refine lv_iconst (v := 0) hx hb dX12_again_28 (by decide) ?_
    refine va_iast hx hb hK hP hD hS 1 0 rfl rfl (vp_in_nI (by omega) (by omega)) dX12_again_29 (fun H locs hP hD hS => ?_)
    have hP : va_P D vwCl [(h0, .inr (12, [.ref z0, .ref z1, .ref z2, .ref z3, .ref z4, .ref z5, .ref z20, .ref z21, .ref z22, .ref z23, .ref z24, .ref z25, .int 0, .ref z26, .ref z27, .ref z28, .int 9, .int 0, .int 0, .ref z6, .ref z29, .ref z7, .int 0, .int 2, .ref z19, .ref z8, .ref z9, .ref z10, .int 0, .ref z11, .int 0, .ref z30, .ref z31, .ref z32, .ref z33, .int 0, .ref z12, .int 0, .int 0, .ref z34, .ref z35, .ref z36, .ref z37, .int 0, .int 0, .int 0, .int 0, .ref z38, .int 0, .ref z39, .ref z40, .ref z41, .ref z42, .int 0, .ref z13, .ref z14, .ref z15, .ref z16, .int 0, .ref z17, .ref z18, .ref z43])), (z6, .inl (G.1, 169, .inl (upd lf0 (nI i).toNatClampNeg 0)))] H := hP
    have hD : va_D A [(h0, .inr (12, [.ref z0, .ref z1, .ref z2, .ref z3, .ref z4, .ref z5, .ref z20, .ref z21, .ref z22, .ref z23, .ref z24, .ref z25, .int 0, .ref z26, .ref z27, .ref z28, .int 9, .int 0, .int 0, .ref z6, .ref z29, .ref z7, .int 0, .int 2, .ref z19, .ref z8, .ref z9, .ref z10, .int 0, .ref z11, .int 0, .ref z30, .ref z31, .ref z32, .ref z33, .int 0, .ref z12, .int 0, .int 0, .ref z34, .ref z35, .ref z36, .ref z37, .int 0, .int 0, .int 0, .int 0, .ref z38, .int 0, .ref z39, .ref z40, .ref z41, .ref z42, .int 0, .ref z13, .ref z14, .ref z15, .ref z16, .int 0, .ref z17, .ref z18, .ref z43])), (z6, .inl (G.1, 169, .inl (upd lf0 (nI i).toNatClampNeg 0)))] := hD
    obtain ⟨v1, ev1⟩ : ∃ y : Int32, y = (nI i) + 1 := ⟨_, rfl⟩
    refine lv_iinc (v := v1) (lv' := [(2, .int v1), (1, .int 0), (0, .ref h0)]) hx hb dX12_again_30 hl (k := 0) rfl (by rw [ev1]; rfl) (by decide) rfl (fun ls hl => ?_)
    refine lv_goto (tgt := 16) hx hb dX12_again_33 (by decide) ?_
    exact ih (i := i + 1) (hP := hP) (hD := hD) (hS := hS) (hl := by rw [← nI_1, ← ev1]; exact hl) (hd := by omega)

theorem mX12_cast_w0 : Cond.fieldLink RX12 157 "PuppetBridgeModel" "thrown" "I" ∈ wsX12_cast := by decide +kernel
theorem mX12_cast_w2 : Cond.fieldLink RX12 300 "PuppetBridgeModel" "sceneMany" "I" ∈ wsX12_cast := by decide +kernel
theorem mX12_cast_w3 : Cond.constant RX12 385 (1048576) ∈ wsX12_cast := by decide +kernel
theorem mX12_cast_w10 : Cond.fieldLink RX12 306 "PuppetBridgeModel" "rowMany" "I" ∈ wsX12_cast := by decide +kernel
theorem mX12_cast_w1 : Cond.fieldLink RX12 144 "PuppetBridgeModel" "costs" "[I" ∈ wsX12_cast := by decide +kernel
theorem iX12_cast_X12 : ∀ w ∈ wsX120, w ∈ wsX12_cast := fun _ h => List.mem_cons_of_mem _ (List.mem_append_right _ h)
set_option maxRecDepth 20000 in
theorem ggX12_cast_X12_in : GoodIn wsX12_cast wsX12_in := goodIn_r _ [15] (by decide +kernel) (by decide +kernel)
set_option maxRecDepth 20000 in
theorem gX12_cast_X12_in : GoodIn wsX12_cast (va_wsS RX12 163 yX12_in wsX12_in) := goodIn_app (goodIn_of _ (by decide +kernel)) ggX12_cast_X12_in
theorem dX12_cast_0 : decode cX12_cast 0 = .ok (.aload_n 0, 1) := by decide +kernel
theorem dX12_cast_1 : decode cX12_cast 1 = .ok (.iconst 0, 1) := by decide +kernel
theorem dX12_cast_2 : decode cX12_cast 2 = .ok (.putfield 157, 3) := by decide +kernel
theorem dX12_cast_5 : decode cX12_cast 5 = .ok (.iload_n 1, 1) := by decide +kernel
theorem dX12_cast_6 : decode cX12_cast 6 = .ok (.iconst 1, 1) := by decide +kernel
theorem dX12_cast_7 : decode cX12_cast 7 = .ok (.iconst 3, 1) := by decide +kernel
theorem dX12_cast_8 : decode cX12_cast 8 = .ok (.invokestatic 163, 3) := by decide +kernel
theorem dX12_cast_11 : decode cX12_cast 11 = .ok (.ifCond .ne 5, 3) := by decide +kernel
theorem dX12_cast_14 : decode cX12_cast 14 = .ok (.iconst (-1), 1) := by decide +kernel
theorem dX12_cast_15 : decode cX12_cast 15 = .ok (.ireturn, 1) := by decide +kernel
theorem dX12_cast_16 : decode cX12_cast 16 = .ok (.iconst 0, 1) := by decide +kernel
theorem dX12_cast_17 : decode cX12_cast 17 = .ok (.istore_n 2, 1) := by decide +kernel
theorem dX12_cast_18 : decode cX12_cast 18 = .ok (.iload_n 2, 1) := by decide +kernel
theorem dX12_cast_19 : decode cX12_cast 19 = .ok (.sipush 256, 3) := by decide +kernel
theorem dX12_cast_22 : decode cX12_cast 22 = .ok (.if_icmp .ge 25, 3) := by decide +kernel
theorem dX12_cast_25 : decode cX12_cast 25 = .ok (.aload_n 0, 1) := by decide +kernel
theorem dX12_cast_26 : decode cX12_cast 26 = .ok (.getfield 144, 3) := by decide +kernel
theorem dX12_cast_29 : decode cX12_cast 29 = .ok (.sipush 256, 3) := by decide +kernel
theorem dX12_cast_32 : decode cX12_cast 32 = .ok (.aload_n 0, 1) := by decide +kernel
theorem dX12_cast_33 : decode cX12_cast 33 = .ok (.getfield 300, 3) := by decide +kernel
theorem dX12_cast_36 : decode cX12_cast 36 = .ok (.imul, 1) := by decide +kernel
theorem dX12_cast_37 : decode cX12_cast 37 = .ok (.iload_n 2, 1) := by decide +kernel
theorem dX12_cast_38 : decode cX12_cast 38 = .ok (.iadd, 1) := by decide +kernel
theorem dX12_cast_39 : decode cX12_cast 39 = .ok (.iconst 0, 1) := by decide +kernel
theorem dX12_cast_40 : decode cX12_cast 40 = .ok (.iastore, 1) := by decide +kernel
theorem dX12_cast_41 : decode cX12_cast 41 = .ok (.iinc 2 1, 3) := by decide +kernel
theorem dX12_cast_44 : decode cX12_cast 44 = .ok (.goto (-26), 3) := by decide +kernel
theorem dX12_cast_47 : decode cX12_cast 47 = .ok (.aload_n 0, 1) := by decide +kernel
theorem dX12_cast_48 : decode cX12_cast 48 = .ok (.getfield 300, 3) := by decide +kernel
theorem dX12_cast_51 : decode cX12_cast 51 = .ok (.iconst 1, 1) := by decide +kernel
theorem dX12_cast_52 : decode cX12_cast 52 = .ok (.isub, 1) := by decide +kernel
theorem dX12_cast_53 : decode cX12_cast 53 = .ok (.istore_n 2, 1) := by decide +kernel
theorem dX12_cast_54 : decode cX12_cast 54 = .ok (.iload_n 2, 1) := by decide +kernel
theorem dX12_cast_55 : decode cX12_cast 55 = .ok (.ifCond .lt 145, 3) := by decide +kernel
theorem dX12_cast_200 : decode cX12_cast 200 = .ok (.aload_n 0, 1) := by decide +kernel
theorem dX12_cast_201 : decode cX12_cast 201 = .ok (.getfield 300, 3) := by decide +kernel
theorem dX12_cast_204 : decode cX12_cast 204 = .ok (.ifCond .ne 7, 3) := by decide +kernel
theorem dX12_cast_207 : decode cX12_cast 207 = .ok (.iconst 0, 1) := by decide +kernel
theorem dX12_cast_208 : decode cX12_cast 208 = .ok (.goto 6, 3) := by decide +kernel
theorem dX12_cast_214 : decode cX12_cast 214 = .ok (.istore_n 2, 1) := by decide +kernel
theorem dX12_cast_215 : decode cX12_cast 215 = .ok (.iconst 0, 1) := by decide +kernel
theorem dX12_cast_216 : decode cX12_cast 216 = .ok (.istore_n 3, 1) := by decide +kernel
theorem dX12_cast_217 : decode cX12_cast 217 = .ok (.iload_n 3, 1) := by decide +kernel
theorem dX12_cast_218 : decode cX12_cast 218 = .ok (.sipush 256, 3) := by decide +kernel
theorem dX12_cast_221 : decode cX12_cast 221 = .ok (.if_icmp .ge 27, 3) := by decide +kernel
theorem dX12_cast_224 : decode cX12_cast 224 = .ok (.aload_n 0, 1) := by decide +kernel
theorem dX12_cast_225 : decode cX12_cast 225 = .ok (.getfield 300, 3) := by decide +kernel
theorem dX12_cast_228 : decode cX12_cast 228 = .ok (.ifCond .le 20, 3) := by decide +kernel
theorem dX12_cast_248 : decode cX12_cast 248 = .ok (.iload_n 2, 1) := by decide +kernel
theorem dX12_cast_249 : decode cX12_cast 249 = .ok (.ldc_w 385, 3) := by decide +kernel
theorem dX12_cast_252 : decode cX12_cast 252 = .ok (.if_icmp .lt 5, 3) := by decide +kernel
theorem dX12_cast_257 : decode cX12_cast 257 = .ok (.iload_n 2, 1) := by decide +kernel
theorem dX12_cast_258 : decode cX12_cast 258 = .ok (.istore_n 3, 1) := by decide +kernel
theorem dX12_cast_259 : decode cX12_cast 259 = .ok (.iconst 0, 1) := by decide +kernel
theorem dX12_cast_260 : decode cX12_cast 260 = .ok (.istore 4, 2) := by decide +kernel
theorem dX12_cast_262 : decode cX12_cast 262 = .ok (.iconst 0, 1) := by decide +kernel
theorem dX12_cast_263 : decode cX12_cast 263 = .ok (.istore 5, 2) := by decide +kernel
theorem dX12_cast_265 : decode cX12_cast 265 = .ok (.iload 5, 2) := by decide +kernel
theorem dX12_cast_267 : decode cX12_cast 267 = .ok (.aload_n 0, 1) := by decide +kernel
theorem dX12_cast_268 : decode cX12_cast 268 = .ok (.getfield 300, 3) := by decide +kernel
theorem dX12_cast_271 : decode cX12_cast 271 = .ok (.if_icmp .ge 153, 3) := by decide +kernel
theorem dX12_cast_424 : decode cX12_cast 424 = .ok (.aload_n 0, 1) := by decide +kernel
theorem dX12_cast_425 : decode cX12_cast 425 = .ok (.iconst 4, 1) := by decide +kernel
theorem dX12_cast_426 : decode cX12_cast 426 = .ok (.aload_n 0, 1) := by decide +kernel
theorem dX12_cast_427 : decode cX12_cast 427 = .ok (.getfield 300, 3) := by decide +kernel
theorem dX12_cast_430 : decode cX12_cast 430 = .ok (.imul, 1) := by decide +kernel
theorem dX12_cast_431 : decode cX12_cast 431 = .ok (.putfield 306, 3) := by decide +kernel
theorem dX12_cast_434 : decode cX12_cast 434 = .ok (.iload_n 2, 1) := by decide +kernel
theorem dX12_cast_435 : decode cX12_cast 435 = .ok (.ireturn, 1) := by decide +kernel
set_option maxHeartbeats 4000000 in
set_option maxRecDepth 100000 in
/-- X12_cast -/
theorem kX12_cast (l : Launch) (D : va_G) (G : tyG) (h0 : Nat) (x1 : Int32) (z0 : Nat) (z1 : Nat) (z2 : Nat) (z3 : Nat) (z4 : Nat) (z5 : Nat) (z20 : Nat) (z21 : Nat) (z22 : Nat) (z23 : Nat) (z24 : Nat) (z25 : Nat) (z26 : Nat) (z27 : Nat) (z28 : Nat) (z6 : Nat) (z29 : Nat) (z7 : Nat) (z19 : Nat) (z8 : Nat) (z9 : Nat) (z10 : Nat) (z11 : Nat) (z30 : Nat) (z31 : Nat) (z32 : Nat) (z33 : Nat) (z12 : Nat) (z34 : Nat) (z35 : Nat) (z36 : Nat) (z37 : Nat) (z38 : Nat) (z39 : Nat) (z40 : Nat) (z41 : Nat) (z42 : Nat) (z13 : Nat) (z14 : Nat) (z15 : Nat) (z16 : Nat) (z17 : Nat) (z18 : Nat) (z43 : Nat) (sz : Nat) : Met l yX12_cast wsX12_cast ({ frames := 1, cells := 0, slots := 0, locals := 22 }) (va_Pc [.ref h0, .int x1] (wB D G sz [(h0, .inr (12, [.ref z0, .ref z1, .ref z2, .ref z3, .ref z4, .ref z5, .ref z20, .ref z21, .ref z22, .ref z23, .ref z24, .ref z25, .int 0, .ref z26, .ref z27, .ref z28, .int 9, .int 0, .int 0, .ref z6, .ref z29, .ref z7, .int 0, .int 2, .ref z19, .ref z8, .ref z9, .ref z10, .int 0, .ref z11, .int 0, .ref z30, .ref z31, .ref z32, .ref z33, .int 0, .ref z12, .int 0, .int 0, .ref z34, .ref z35, .ref z36, .ref z37, .int 0, .int 0, .int 0, .int 0, .ref z38, .int 0, .ref z39, .ref z40, .ref z41, .ref z42, .int 0, .ref z13, .ref z14, .ref z15, .ref z16, .int 0, .ref z17, .ref z18, .ref z43])), (z17, .inl (G.1, 2304, .inl (fun _ => 0)))])) (va_Qi (fun (r : Int32) (_ : Unit) => r = (if inB x1 1 3 = true then 0 else -1)) (fun _ _ => True) (va_A [(h0, .inr (12, [.ref z0, .ref z1, .ref z2, .ref z3, .ref z4, .ref z5, .ref z20, .ref z21, .ref z22, .ref z23, .ref z24, .ref z25, .int 0, .ref z26, .ref z27, .ref z28, .int 9, .int 0, .int 0, .ref z6, .ref z29, .ref z7, .int 0, .int 2, .ref z19, .ref z8, .ref z9, .ref z10, .int 0, .ref z11, .int 0, .ref z30, .ref z31, .ref z32, .ref z33, .int 0, .ref z12, .int 0, .int 0, .ref z34, .ref z35, .ref z36, .ref z37, .int 0, .int 0, .int 0, .int 0, .ref z38, .int 0, .ref z39, .ref z40, .ref z41, .ref z42, .int 0, .ref z13, .ref z14, .ref z15, .ref z16, .int 0, .ref z17, .ref z18, .ref z43])), (z17, .inl (G.1, 2304, .inl (fun _ => 0)))] sz)) 0 0 (va_A [(h0, .inr (12, [.ref z0, .ref z1, .ref z2, .ref z3, .ref z4, .ref z5, .ref z20, .ref z21, .ref z22, .ref z23, .ref z24, .ref z25, .int 0, .ref z26, .ref z27, .ref z28, .int 9, .int 0, .int 0, .ref z6, .ref z29, .ref z7, .int 0, .int 2, .ref z19, .ref z8, .ref z9, .ref z10, .int 0, .ref z11, .int 0, .ref z30, .ref z31, .ref z32, .ref z33, .int 0, .ref z12, .int 0, .int 0, .ref z34, .ref z35, .ref z36, .ref z37, .int 0, .int 0, .int 0, .int 0, .ref z38, .int 0, .ref z39, .ref z40, .ref z41, .ref z42, .int 0, .ref z13, .ref z14, .ref z15, .ref z16, .int 0, .ref z17, .ref z18, .ref z43])), (z17, .inl (G.1, 2304, .inl (fun _ => 0)))] sz) := by
  refine Met.ofW (cc := cX12_cast) (maxL := 9) (ret := (some .int)) (by decide) rfl ?_
  intro p e s m args below meth c s₁ B hml hv
  obtain ⟨rfl, hsz, hP, hK, hD0, hN⟩ := hv
  have hx := B.exec
  have hb := B.bytes
  have hr := B.returns
  have hts := atoms_spec (ws := wsX12_cast) B.pre
  have hown : s.vm.findClass RX12 = some m.cls := findClass_of_methodNamed B.named
  have hlocks := B.notSynchronized
  subst hsz
  have hD := hD0.self (sz := s.heap.size)
  generalize hAe : va_A [(h0, .inr (12, [.ref z0, .ref z1, .ref z2, .ref z3, .ref z4, .ref z5, .ref z20, .ref z21, .ref z22, .ref z23, .ref z24, .ref z25, .int 0, .ref z26, .ref z27, .ref z28, .int 9, .int 0, .int 0, .ref z6, .ref z29, .ref z7, .int 0, .int 2, .ref z19, .ref z8, .ref z9, .ref z10, .int 0, .ref z11, .int 0, .ref z30, .ref z31, .ref z32, .ref z33, .int 0, .ref z12, .int 0, .int 0, .ref z34, .ref z35, .ref z36, .ref z37, .int 0, .int 0, .int 0, .int 0, .ref z38, .int 0, .ref z39, .ref z40, .ref z41, .ref z42, .int 0, .ref z13, .ref z14, .ref z15, .ref z16, .int 0, .ref z17, .ref z18, .ref z43])), (z17, .inl (G.1, 2304, .inl (fun _ => 0)))] s.heap.size = A at hD ⊢
  have hA : ∀ q : Nat, s.heap.size ≤ q → A q := fun q h => by rw [← hAe]; exact Or.inr h
  have hS : va_S A s.heap s.heap [] := va_S.rf
  have hP : va_P D vwCl [(h0, .inr (12, [.ref z0, .ref z1, .ref z2, .ref z3, .ref z4, .ref z5, .ref z20, .ref z21, .ref z22, .ref z23, .ref z24, .ref z25, .int 0, .ref z26, .ref z27, .ref z28, .int 9, .int 0, .int 0, .ref z6, .ref z29, .ref z7, .int 0, .int 2, .ref z19, .ref z8, .ref z9, .ref z10, .int 0, .ref z11, .int 0, .ref z30, .ref z31, .ref z32, .ref z33, .int 0, .ref z12, .int 0, .int 0, .ref z34, .ref z35, .ref z36, .ref z37, .int 0, .int 0, .int 0, .int 0, .ref z38, .int 0, .ref z39, .ref z40, .ref z41, .ref z42, .int 0, .ref z13, .ref z14, .ref z15, .ref z16, .int 0, .ref z17, .ref z18, .ref z43])), (z17, .inl (G.1, 2304, .inl (fun _ => 0)))] s.heap := hP
  have hl := lv_entry ([.ref h0, .int x1]) (n := 9) (Nat.le_of_ble_eq_true rfl)
  rw [lg_entry_eq]
  generalize (lg_sl ([.ref h0, .int x1]) ++ List.replicate (9 - (lg_sl ([.ref h0, .int x1])).length) Slot.unset).toArray = ls at hl ⊢
  have hl : lv_has ls 9 [(0, .ref h0), (1, .int x1)] := hl
  refine lv_aload_n hx hb dX12_cast_0 rfl (lv_at hl 0 rfl) ?_
  refine lv_iconst (v := 0) hx hb dX12_cast_1 (by decide) ?_
  refine va_put (D := D) (ci := 12) (v := .int 0) (ty := (tyX12 38)) (C := RX12) (T := TX12) (N := 62) hx hb hts iX12_cast_X12 tyX12 tyX12_ok nmX12 hown hK hP hD hS 0 rfl rfl 38 (by decide) (hts (.fieldLink RX12 157 "PuppetBridgeModel" "thrown" "I") mX12_cast_w0) (fun _ h9 => h9) rfl (tyX12_ok 38 (by decide)) rfl rfl (Nat.le_of_ble_eq_true rfl) dX12_cast_2 (fun H locs hP hD hS => ?_)
  have hP : va_P D vwCl [(h0, .inr (12, [.ref z0, .ref z1, .ref z2, .ref z3, .ref z4, .ref z5, .ref z20, .ref z21, .ref z22, .ref z23, .ref z24, .ref z25, .int 0, .ref z26, .ref z27, .ref z28, .int 9, .int 0, .int 0, .ref z6, .ref z29, .ref z7, .int 0, .int 2, .ref z19, .ref z8, .ref z9, .ref z10, .int 0, .ref z11, .int 0, .ref z30, .ref z31, .ref z32, .ref z33, .int 0, .ref z12, .int 0, .int 0, .ref z34, .ref z35, .ref z36, .ref z37, .int 0, .int 0, .int 0, .int 0, .ref z38, .int 0, .ref z39, .ref z40, .ref z41, .ref z42, .int 0, .ref z13, .ref z14, .ref z15, .ref z16, .int 0, .ref z17, .ref z18, .ref z43])), (z17, .inl (G.1, 2304, .inl (fun _ => 0)))] H := hP
  have hD : va_D A [(h0, .inr (12, [.ref z0, .ref z1, .ref z2, .ref z3, .ref z4, .ref z5, .ref z20, .ref z21, .ref z22, .ref z23, .ref z24, .ref z25, .int 0, .ref z26, .ref z27, .ref z28, .int 9, .int 0, .int 0, .ref z6, .ref z29, .ref z7, .int 0, .int 2, .ref z19, .ref z8, .ref z9, .ref z10, .int 0, .ref z11, .int 0, .ref z30, .ref z31, .ref z32, .ref z33, .int 0, .ref z12, .int 0, .int 0, .ref z34, .ref z35, .ref z36, .ref z37, .int 0, .int 0, .int 0, .int 0, .ref z38, .int 0, .ref z39, .ref z40, .ref z41, .ref z42, .int 0, .ref z13, .ref z14, .ref z15, .ref z16, .int 0, .ref z17, .ref z18, .ref z43])), (z17, .inl (G.1, 2304, .inl (fun _ => 0)))] := hD
  refine lv_iload_n hx hb dX12_cast_5 rfl (lv_at hl 1 rfl) ?_
  refine lv_iconst (v := 1) hx hb dX12_cast_6 (by decide) ?_
  refine lv_iconst (v := 3) hx hb dX12_cast_7 (by decide) ?_
  have hPc := hP.sub (ws' := []) [] rfl
  have hDc := hD.sub (ws' := []) [] (by decide) rfl
  have hFc := va_free (wc := []) hD hS hA [] rfl
  refine va_calli (va_runS (As := [.int x1, .int 1, .int 3]) (rest := []) ⟨hx, hb, hml, hown, hts⟩ (kX12_in l D G x1 1 3 H.size) (va_cwS 3 hts gX12_cast_X12_in rfl rfl rfl (by decide +kernel) ⟨Nat.le_of_ble_eq_true rfl, Nat.le_of_ble_eq_true rfl⟩) ⟨wB_blind, wB_pre hPc hK hDc hN⟩ rfl rfl hl.1 rfl (lv_room (Nat.le_of_ble_eq_true rfl)) dX12_cast_8 ⟨Nat.le_of_ble_eq_true rfl, Nat.le_of_ble_eq_true rfl⟩) hS (fun q _ h => hFc q h) hFc (fun r1 u t H1 locs ht hvm hr1 hB hz1 hk1 hS => ?_)
  obtain ⟨hP, hD⟩ := va_join (wr := [(h0, .inr (12, [.ref z0, .ref z1, .ref z2, .ref z3, .ref z4, .ref z5, .ref z20, .ref z21, .ref z22, .ref z23, .ref z24, .ref z25, .int 0, .ref z26, .ref z27, .ref z28, .int 9, .int 0, .int 0, .ref z6, .ref z29, .ref z7, .int 0, .int 2, .ref z19, .ref z8, .ref z9, .ref z10, .int 0, .ref z11, .int 0, .ref z30, .ref z31, .ref z32, .ref z33, .int 0, .ref z12, .int 0, .int 0, .ref z34, .ref z35, .ref z36, .ref z37, .int 0, .int 0, .int 0, .int 0, .ref z38, .int 0, .ref z39, .ref z40, .ref z41, .ref z42, .int 0, .ref z13, .ref z14, .ref z15, .ref z16, .int 0, .ref z17, .ref z18, .ref z43])), (z17, .inl (G.1, 2304, .inl (fun _ => 0)))]) (w1 := []) hP hD [] [0, 1] rfl rfl (by decide) (by decide) hk1 hFc wP_nil wD_nil
  clear hPc hDc
  generalize H1 = H at hP hS ⊢
  have hP : va_P D vwCl [(h0, .inr (12, [.ref z0, .ref z1, .ref z2, .ref z3, .ref z4, .ref z5, .ref z20, .ref z21, .ref z22, .ref z23, .ref z24, .ref z25, .int 0, .ref z26, .ref z27, .ref z28, .int 9, .int 0, .int 0, .ref z6, .ref z29, .ref z7, .int 0, .int 2, .ref z19, .ref z8, .ref z9, .ref z10, .int 0, .ref z11, .int 0, .ref z30, .ref z31, .ref z32, .ref z33, .int 0, .ref z12, .int 0, .int 0, .ref z34, .ref z35, .ref z36, .ref z37, .int 0, .int 0, .int 0, .int 0, .ref z38, .int 0, .ref z39, .ref z40, .ref z41, .ref z42, .int 0, .ref z13, .ref z14, .ref z15, .ref z16, .int 0, .ref z17, .ref z18, .ref z43])), (z17, .inl (G.1, 2304, .inl (fun _ => 0)))] H := hP
  have hD : va_D A [(h0, .inr (12, [.ref z0, .ref z1, .ref z2, .ref z3, .ref z4, .ref z5, .ref z20, .ref z21, .ref z22, .ref z23, .ref z24, .ref z25, .int 0, .ref z26, .ref z27, .ref z28, .int 9, .int 0, .int 0, .ref z6, .ref z29, .ref z7, .int 0, .int 2, .ref z19, .ref z8, .ref z9, .ref z10, .int 0, .ref z11, .int 0, .ref z30, .ref z31, .ref z32, .ref z33, .int 0, .ref z12, .int 0, .int 0, .ref z34, .ref z35, .ref z36, .ref z37, .int 0, .int 0, .int 0, .int 0, .ref z38, .int 0, .ref z39, .ref z40, .ref z41, .ref z42, .int 0, .ref z13, .ref z14, .ref z15, .ref z16, .int 0, .ref z17, .ref z18, .ref z43])), (z17, .inl (G.1, 2304, .inl (fun _ => 0)))] := hD
  refine lv_if_ne (tgt := 16) hx hb dX12_cast_11 (by decide) (fun c2 => ?_) (fun c2 => ?_)
  · have kc2 : (inB x1 1 3) = true := wk_b1 hr1 c2
    refine lv_iconst (v := 0) hx hb dX12_cast_16 (by decide) ?_
    refine lv_istore_n (lv' := [(2, .int 0), (0, .ref h0), (1, .int x1)]) hx hb dX12_cast_17 rfl hl (by decide) rfl (fun ls hl => ?_)
    obtain ⟨i, hi⟩ : ∃ i : Nat, i = 0 := ⟨0, rfl⟩
    obtain ⟨lf0, hlf0⟩ : ∃ f : Nat → Int32, f = (fun _ => 0) := ⟨_, rfl⟩
    have hP : va_P D vwCl [(h0, .inr (12, [.ref z0, .ref z1, .ref z2, .ref z3, .ref z4, .ref z5, .ref z20, .ref z21, .ref z22, .ref z23, .ref z24, .ref z25, .int 0, .ref z26, .ref z27, .ref z28, .int 9, .int 0, .int 0, .ref z6, .ref z29, .ref z7, .int 0, .int 2, .ref z19, .ref z8, .ref z9, .ref z10, .int 0, .ref z11, .int 0, .ref z30, .ref z31, .ref z32, .ref z33, .int 0, .ref z12, .int 0, .int 0, .ref z34, .ref z35, .ref z36, .ref z37, .int 0, .int 0, .int 0, .int 0, .ref z38, .int 0, .ref z39, .ref z40, .ref z41, .ref z42, .int 0, .ref z13, .ref z14, .ref z15, .ref z16, .int 0, .ref z17, .ref z18, .ref z43])), (z17, .inl (G.1, 2304, .inl lf0))] H := by rw [hlf0]; exact hP
    have hD : va_D A [(h0, .inr (12, [.ref z0, .ref z1, .ref z2, .ref z3, .ref z4, .ref z5, .ref z20, .ref z21, .ref z22, .ref z23, .ref z24, .ref z25, .int 0, .ref z26, .ref z27, .ref z28, .int 9, .int 0, .int 0, .ref z6, .ref z29, .ref z7, .int 0, .int 2, .ref z19, .ref z8, .ref z9, .ref z10, .int 0, .ref z11, .int 0, .ref z30, .ref z31, .ref z32, .ref z33, .int 0, .ref z12, .int 0, .int 0, .ref z34, .ref z35, .ref z36, .ref z37, .int 0, .int 0, .int 0, .int 0, .ref z38, .int 0, .ref z39, .ref z40, .ref z41, .ref z42, .int 0, .ref z13, .ref z14, .ref z15, .ref z16, .int 0, .ref z17, .ref z18, .ref z43])), (z17, .inl (G.1, 2304, .inl lf0))] := by rw [hlf0]; exact hD
    have hl : lv_has ls 9 [(2, .int (nI i)), (0, .ref h0), (1, .int x1)] := by rw [hi]; exact hl
    obtain ⟨d, hd⟩ : ∃ d : Nat, i + d = 256 := ⟨256, by omega⟩
    clear hi hlf0
    generalize H = H at hP hS ⊢
    generalize locs = locs at hS ⊢
    generalize ls = ls at hl ⊢
    induction d generalizing i lf0 H locs ls with
    | zero =>
      refine lv_iload_n hx hb dX12_cast_18 rfl (lv_at hl 0 rfl) ?_
      refine lv_sipush (v := 256) hx hb dX12_cast_19 (by decide) ?_
      refine lv_icmp_ge (tgt := 47) hx hb dX12_cast_22 (by decide) (fun _ => ?_) (fun h9 => absurd (by rw [show i = 256 by omega]; first | decide | exact Int32.le_refl _) h9)
      refine lv_aload_n hx hb dX12_cast_47 rfl (lv_at hl 1 rfl) ?_
      refine va_get (D := D) (ci := 12) (v := .int 0) (C := RX12) (T := TX12) (N := 62) hx hb hts iX12_cast_X12 hown hK hP 0 rfl rfl 30 (by decide) (hts (.fieldLink RX12 300 "PuppetBridgeModel" "sceneMany" "I") mX12_cast_w2) (fun _ h9 => h9) rfl dX12_cast_48 ?_
      refine lv_iconst (v := 1) hx hb dX12_cast_51 (by decide) ?_
      refine lv_isub hx hb dX12_cast_52 ?_
      refine wk_i (-1) (by decide) ?_
      refine lv_istore_n (lv' := [(2, .int (-1)), (0, .ref h0), (1, .int x1)]) hx hb dX12_cast_53 rfl hl (by decide) rfl (fun ls hl => ?_)
      refine lv_iload_n hx hb dX12_cast_54 rfl (lv_at hl 0 rfl) ?_
      refine lv_if_lt (tgt := 200) hx hb dX12_cast_55 (by decide) (fun _ => ?_) (fun h9 => absurd h9 (by decide))
      refine lv_aload_n hx hb dX12_cast_200 rfl (lv_at hl 1 rfl) ?_
      refine va_get (D := D) (ci := 12) (v := .int 0) (C := RX12) (T := TX12) (N := 62) hx hb hts iX12_cast_X12 hown hK hP 0 rfl rfl 30 (by decide) (hts (.fieldLink RX12 300 "PuppetBridgeModel" "sceneMany" "I") mX12_cast_w2) (fun _ h9 => h9) rfl dX12_cast_201 ?_
      refine lv_if_ne (tgt := 211) hx hb dX12_cast_204 (by decide) (fun h9 => absurd h9 (by decide)) (fun _ => ?_)
      refine lv_iconst (v := 0) hx hb dX12_cast_207 (by decide) ?_
      refine lv_goto (tgt := 214) hx hb dX12_cast_208 (by decide) ?_
      refine lv_istore_n (lv' := [(2, .int 0), (0, .ref h0), (1, .int x1)]) hx hb dX12_cast_214 rfl hl (by decide) rfl (fun ls hl => ?_)
      refine lv_iconst (v := 0) hx hb dX12_cast_215 (by decide) ?_
      refine lv_istore_n (lv' := [(3, .int 0), (2, .int 0), (0, .ref h0), (1, .int x1)]) hx hb dX12_cast_216 rfl hl (by decide) rfl (fun ls hl => ?_)
      refine lv_iload_n hx hb dX12_cast_217 rfl (lv_at hl 0 rfl) ?_
      refine lv_sipush (v := 256) hx hb dX12_cast_218 (by decide) ?_
      refine lv_icmp_ge (tgt := 248) hx hb dX12_cast_221 (by decide) (fun h9 => absurd h9 (by decide)) (fun _ => ?_)
      refine lv_aload_n hx hb dX12_cast_224 rfl (lv_at hl 2 rfl) ?_
      refine va_get (D := D) (ci := 12) (v := .int 0) (C := RX12) (T := TX12) (N := 62) hx hb hts iX12_cast_X12 hown hK hP 0 rfl rfl 30 (by decide) (hts (.fieldLink RX12 300 "PuppetBridgeModel" "sceneMany" "I") mX12_cast_w2) (fun _ h9 => h9) rfl dX12_cast_225 ?_
      refine lv_if_le (tgt := 248) hx hb dX12_cast_228 (by decide) (fun _ => ?_) (fun h9 => absurd h9 (by decide))
      refine lv_iload_n hx hb dX12_cast_248 rfl (lv_at hl 1 rfl) ?_
      refine lv_ldcw (v := 1048576) hx hb hown (hts (.constant RX12 385 (1048576)) mX12_cast_w3) dX12_cast_249 ?_
      refine lv_icmp_lt (tgt := 257) hx hb dX12_cast_252 (by decide) (fun _ => ?_) (fun h9 => absurd h9 (by decide))
      refine lv_iload_n hx hb dX12_cast_257 rfl (lv_at hl 1 rfl) ?_
      refine lv_istore_n (lv' := [(3, .int 0), (2, .int 0), (0, .ref h0), (1, .int x1)]) hx hb dX12_cast_258 rfl hl (by decide) rfl (fun ls hl => ?_)
      refine lv_iconst (v := 0) hx hb dX12_cast_259 (by decide) ?_
      refine lv_istore (lv' := [(4, .int 0), (3, .int 0), (2, .int 0), (0, .ref h0), (1, .int x1)]) hx hb dX12_cast_260 hl (by decide) rfl (fun ls hl => ?_)
      refine lv_iconst (v := 0) hx hb dX12_cast_262 (by decide) ?_
      refine lv_istore (lv' := [(5, .int 0), (4, .int 0), (3, .int 0), (2, .int 0), (0, .ref h0), (1, .int x1)]) hx hb dX12_cast_263 hl (by decide) rfl (fun ls hl => ?_)
      refine lv_iload hx hb dX12_cast_265 (lv_at hl 0 rfl) ?_
      refine lv_aload_n hx hb dX12_cast_267 rfl (lv_at hl 4 rfl) ?_
      refine va_get (D := D) (ci := 12) (v := .int 0) (C := RX12) (T := TX12) (N := 62) hx hb hts iX12_cast_X12 hown hK hP 0 rfl rfl 30 (by decide) (hts (.fieldLink RX12 300 "PuppetBridgeModel" "sceneMany" "I") mX12_cast_w2) (fun _ h9 => h9) rfl dX12_cast_268 ?_
      refine lv_icmp_ge (tgt := 424) hx hb dX12_cast_271 (by decide) (fun _ => ?_) (fun h9 => absurd h9 (by decide))
      refine lv_aload_n hx hb dX12_cast_424 rfl (lv_at hl 4 rfl) ?_
      refine lv_iconst (v := 4) hx hb dX12_cast_425 (by decide) ?_
      refine lv_aload_n hx hb dX12_cast_426 rfl (lv_at hl 4 rfl) ?_
      refine va_get (D := D) (ci := 12) (v := .int 0) (C := RX12) (T := TX12) (N := 62) hx hb hts iX12_cast_X12 hown hK hP 0 rfl rfl 30 (by decide) (hts (.fieldLink RX12 300 "PuppetBridgeModel" "sceneMany" "I") mX12_cast_w2) (fun _ h9 => h9) rfl dX12_cast_427 ?_
      refine lv_imul hx hb dX12_cast_430 ?_
      refine wk_i 0 (by decide) ?_
      refine va_put (D := D) (ci := 12) (v := .int 0) (ty := (tyX12 37)) (C := RX12) (T := TX12) (N := 62) hx hb hts iX12_cast_X12 tyX12 tyX12_ok nmX12 hown hK hP hD hS 0 rfl rfl 37 (by decide) (hts (.fieldLink RX12 306 "PuppetBridgeModel" "rowMany" "I") mX12_cast_w10) (fun _ h9 => h9) rfl (tyX12_ok 37 (by decide)) rfl rfl (Nat.le_of_ble_eq_true rfl) dX12_cast_431 (fun H locs hP hD hS => ?_)
      have hP : va_P D vwCl [(h0, .inr (12, [.ref z0, .ref z1, .ref z2, .ref z3, .ref z4, .ref z5, .ref z20, .ref z21, .ref z22, .ref z23, .ref z24, .ref z25, .int 0, .ref z26, .ref z27, .ref z28, .int 9, .int 0, .int 0, .ref z6, .ref z29, .ref z7, .int 0, .int 2, .ref z19, .ref z8, .ref z9, .ref z10, .int 0, .ref z11, .int 0, .ref z30, .ref z31, .ref z32, .ref z33, .int 0, .ref z12, .int 0, .int 0, .ref z34, .ref z35, .ref z36, .ref z37, .int 0, .int 0, .int 0, .int 0, .ref z38, .int 0, .ref z39, .ref z40, .ref z41, .ref z42, .int 0, .ref z13, .ref z14, .ref z15, .ref z16, .int 0, .ref z17, .ref z18, .ref z43])), (z17, .inl (G.1, 2304, .inl lf0))] H := hP
      have hD : va_D A [(h0, .inr (12, [.ref z0, .ref z1, .ref z2, .ref z3, .ref z4, .ref z5, .ref z20, .ref z21, .ref z22, .ref z23, .ref z24, .ref z25, .int 0, .ref z26, .ref z27, .ref z28, .int 9, .int 0, .int 0, .ref z6, .ref z29, .ref z7, .int 0, .int 2, .ref z19, .ref z8, .ref z9, .ref z10, .int 0, .ref z11, .int 0, .ref z30, .ref z31, .ref z32, .ref z33, .int 0, .ref z12, .int 0, .int 0, .ref z34, .ref z35, .ref z36, .ref z37, .int 0, .int 0, .int 0, .int 0, .ref z38, .int 0, .ref z39, .ref z40, .ref z41, .ref z42, .int 0, .ref z13, .ref z14, .ref z15, .ref z16, .int 0, .ref z17, .ref z18, .ref z43])), (z17, .inl (G.1, 2304, .inl lf0))] := hD
      refine lv_iload_n hx hb dX12_cast_434 rfl (lv_at hl 3 rfl) ?_
      exact W.iret (v := 0) hx hb hr (fun t ht hW => ⟨⟨0, (), rfl, by first | (simp [kc2]; done) | rfl, trivial⟩, hS.F ht⟩) hS.2.2 dX12_cast_435
    | succ d ih =>
      refine lv_iload_n hx hb dX12_cast_18 rfl (lv_at hl 0 rfl) ?_
      refine lv_sipush (v := 256) hx hb dX12_cast_19 (by decide) ?_
      refine lv_icmp_ge (tgt := 47) hx hb dX12_cast_22 (by decide) (fun h9 => absurd h9 (by rw [show (256 : Int32) = nI 256 from rfl]; exact nI_ge (by omega) (by omega))) (fun _ => ?_)
      refine lv_aload_n hx hb dX12_cast_25 rfl (lv_at hl 1 rfl) ?_
      refine va_get (D := D) (ci := 12) (v := .ref z17) (C := RX12) (T := TX12) (N := 62) hx hb hts iX12_cast_X12 hown hK hP 0 rfl rfl 59 (by decide) (hts (.fieldLink RX12 144 "PuppetBridgeModel" "costs" "[I") mX12_cast_w1) (fun _ h9 => h9) rfl dX12_cast_26 ?_
      refine lv_sipush (v := 256) hx hb dX12_cast_29 (by decide) ?_
      refine lv_aload_n hx hb dX12_cast_32 rfl (lv_at hl 1 rfl) ?_
      refine va_get (D := D) (ci := 12) (v := .int 0) (C := RX12) (T := TX12) (N := 62) hx hb hts iX12_cast_X12 hown hK hP 0 rfl rfl 30 (by decide) (hts (.fieldLink RX12 300 "PuppetBridgeModel" "sceneMany" "I") mX12_cast_w2) (fun _ h9 => h9) rfl dX12_cast_33 ?_
      refine lv_imul hx hb dX12_cast_36 ?_
      refine wk_i 0 (by decide) ?_
      refine lv_iload_n hx hb dX12_cast_37 rfl (lv_at hl 0 rfl) ?_
      refine lv_iadd hx hb dX12_cast_38 ?_
      refine lv_topi (fun vix evix => ?_)
      refine lv_iconst (v := 0) hx hb dX12_cast_39 (by decide) ?_
      refine va_iast hx hb hK hP hD hS 1 0 rfl rfl (by rw [evix, Int32.zero_add]; exact vp_in_nI (by omega) (by omega)) dX12_cast_40 (fun H locs hP hD hS => ?_)
      have hP : va_P D vwCl [(h0, .inr (12, [.ref z0, .ref z1, .ref z2, .ref z3, .ref z4, .ref z5, .ref z20, .ref z21, .ref z22, .ref z23, .ref z24, .ref z25, .int 0, .ref z26, .ref z27, .ref z28, .int 9, .int 0, .int 0, .ref z6, .ref z29, .ref z7, .int 0, .int 2, .ref z19, .ref z8, .ref z9, .ref z10, .int 0, .ref z11, .int 0, .ref z30, .ref z31, .ref z32, .ref z33, .int 0, .ref z12, .int 0, .int 0, .ref z34, .ref z35, .ref z36, .ref z37, .int 0, .int 0, .int 0, .int 0, .ref z38, .int 0, .ref z39, .ref z40, .ref z41, .ref z42, .int 0, .ref z13, .ref z14, .ref z15, .ref z16, .int 0, .ref z17, .ref z18, .ref z43])), (z17, .inl (G.1, 2304, .inl (upd lf0 vix.toNatClampNeg 0)))] H := hP
      have hD : va_D A [(h0, .inr (12, [.ref z0, .ref z1, .ref z2, .ref z3, .ref z4, .ref z5, .ref z20, .ref z21, .ref z22, .ref z23, .ref z24, .ref z25, .int 0, .ref z26, .ref z27, .ref z28, .int 9, .int 0, .int 0, .ref z6, .ref z29, .ref z7, .int 0, .int 2, .ref z19, .ref z8, .ref z9, .ref z10, .int 0, .ref z11, .int 0, .ref z30, .ref z31, .ref z32, .ref z33, .int 0, .ref z12, .int 0, .int 0, .ref z34, .ref z35, .ref z36, .ref z37, .int 0, .int 0, .int 0, .int 0, .ref z38, .int 0, .ref z39, .ref z40, .ref z41, .ref z42, .int 0, .ref z13, .ref z14, .ref z15, .ref z16, .int 0, .ref z17, .ref z18, .ref z43])), (z17, .inl (G.1, 2304, .inl (upd lf0 vix.toNatClampNeg 0)))] := hD
      obtain ⟨v3, ev3⟩ : ∃ y : Int32, y = (nI i) + 1 := ⟨_, rfl⟩
      refine lv_iinc (v := v3) (lv' := [(2, .int v3), (0, .ref h0), (1, .int x1)]) hx hb dX12_cast_41 hl (k := 0) rfl (by rw [ev3]; rfl) (by decide) rfl (fun ls hl => ?_)
      refine lv_goto (tgt := 18) hx hb dX12_cast_44 (by decide) ?_
      exact ih (i := i + 1) (hP := hP) (hD := hD) (hS := hS) (hl := by rw [← nI_1, ← ev3]; exact hl) (hd := by omega)
  · have kc2 : (inB x1 1 3) = false := wk_b0 hr1 c2
    refine lv_iconst (v := (-1)) hx hb dX12_cast_14 (by decide) ?_
    exact W.iret (v := (-1)) hx hb hr (fun t ht hW => ⟨⟨(-1), (), rfl, by first | (simp [kc2]; done) | rfl, trivial⟩, hS.F ht⟩) hS.2.2 dX12_cast_15

theorem mX8_playBeat_w0 : Cond.fieldLink RX8 46 "PuppetBridge$Stage" "count" "I" ∈ wsX8_playBeat := by decide +kernel
theorem mX8_playBeat_w2 : Cond.fieldLink RX8 49 "PuppetBridge$Stage" "beat" "I" ∈ wsX8_playBeat := by decide +kernel
theorem iX8_playBeat_X8 : ∀ w ∈ wsX80, w ∈ wsX8_playBeat := fun _ h => List.mem_cons_of_mem _ (List.mem_append_left _ (List.mem_append_left _ (List.mem_append_left _ (List.mem_append_right _ h))))
theorem dX8_playBeat_0 : decode cX8_playBeat 0 = .ok (.iconst 0, 1) := by decide +kernel
theorem dX8_playBeat_1 : decode cX8_playBeat 1 = .ok (.istore_n 1, 1) := by decide +kernel
theorem dX8_playBeat_2 : decode cX8_playBeat 2 = .ok (.iload_n 1, 1) := by decide +kernel
theorem dX8_playBeat_3 : decode cX8_playBeat 3 = .ok (.aload_n 0, 1) := by decide +kernel
theorem dX8_playBeat_4 : decode cX8_playBeat 4 = .ok (.getfield 46, 3) := by decide +kernel
theorem dX8_playBeat_7 : decode cX8_playBeat 7 = .ok (.if_icmp .ge 30, 3) := by decide +kernel
theorem dX8_playBeat_37 : decode cX8_playBeat 37 = .ok (.iconst 0, 1) := by decide +kernel
theorem dX8_playBeat_38 : decode cX8_playBeat 38 = .ok (.istore_n 1, 1) := by decide +kernel
theorem dX8_playBeat_39 : decode cX8_playBeat 39 = .ok (.iload_n 1, 1) := by decide +kernel
theorem dX8_playBeat_40 : decode cX8_playBeat 40 = .ok (.aload_n 0, 1) := by decide +kernel
theorem dX8_playBeat_41 : decode cX8_playBeat 41 = .ok (.getfield 46, 3) := by decide +kernel
theorem dX8_playBeat_44 : decode cX8_playBeat 44 = .ok (.if_icmp .ge 33, 3) := by decide +kernel
theorem dX8_playBeat_77 : decode cX8_playBeat 77 = .ok (.aload_n 0, 1) := by decide +kernel
theorem dX8_playBeat_78 : decode cX8_playBeat 78 = .ok (.dup, 1) := by decide +kernel
theorem dX8_playBeat_79 : decode cX8_playBeat 79 = .ok (.getfield 49, 3) := by decide +kernel
theorem dX8_playBeat_82 : decode cX8_playBeat 82 = .ok (.iconst 1, 1) := by decide +kernel
theorem dX8_playBeat_83 : decode cX8_playBeat 83 = .ok (.iadd, 1) := by decide +kernel
theorem dX8_playBeat_84 : decode cX8_playBeat 84 = .ok (.putfield 49, 3) := by decide +kernel
theorem dX8_playBeat_87 : decode cX8_playBeat 87 = .ok (.return_, 1) := by decide +kernel
set_option maxHeartbeats 4000000 in
set_option maxRecDepth 100000 in
/-- X8_playBeat -/
theorem kX8_playBeat (l : Launch) (D : va_G) (G : tyG) (z0 : Nat) (z1 : Nat) (z51 : Nat) (z52 : Nat) (z2 : Nat) (z3 : Nat) (b : Int32) (sz : Nat) : Met l yX8_playBeat wsX8_playBeat ({ frames := 0, cells := 0, slots := 0, locals := 0 }) (va_Pc [.ref z0] (wB D G sz [(z0, .inr (8, [.ref z1, .ref z51, .ref z52, .ref z2, .ref z3, .int 0, .int b, .int 9, .int 0, .int 0]))])) (va_Qv (fun _ : Unit => True) (fun _ t => ∃ (b9 : Int32), b9 = b + 1 ∧ wS D G (va_A [(z0, .inr (8, [.ref z1, .ref z51, .ref z52, .ref z2, .ref z3, .int 0, .int b, .int 9, .int 0, .int 0]))] sz) [(z0, .inr (8, [.ref z1, .ref z51, .ref z52, .ref z2, .ref z3, .int 0, .int b9, .int 9, .int 0, .int 0]))] t) (va_A [(z0, .inr (8, [.ref z1, .ref z51, .ref z52, .ref z2, .ref z3, .int 0, .int b, .int 9, .int 0, .int 0]))] sz)) 0 0 (va_A [(z0, .inr (8, [.ref z1, .ref z51, .ref z52, .ref z2, .ref z3, .int 0, .int b, .int 9, .int 0, .int 0]))] sz) := by
  refine Met.ofW (cc := cX8_playBeat) (maxL := 3) (ret := none) (by decide) rfl ?_
  intro p e s m args below meth c s₁ B hml hv
  obtain ⟨rfl, hsz, hP, hK, hD0, hN⟩ := hv
  have hx := B.exec
  have hb := B.bytes
  have hr := B.returns
  have hts := atoms_spec (ws := wsX8_playBeat) B.pre
  have hown : s.vm.findClass RX8 = some m.cls := findClass_of_methodNamed B.named
  have hlocks := B.notSynchronized
  subst hsz
  have hD := hD0.self (sz := s.heap.size)
  generalize hAe : va_A [(z0, .inr (8, [.ref z1, .ref z51, .ref z52, .ref z2, .ref z3, .int 0, .int b, .int 9, .int 0, .int 0]))] s.heap.size = A at hD ⊢
  have hA : ∀ q : Nat, s.heap.size ≤ q → A q := fun q h => by rw [← hAe]; exact Or.inr h
  have hS : va_S A s.heap s.heap [] := va_S.rf
  have hP : va_P D vwCl [(z0, .inr (8, [.ref z1, .ref z51, .ref z52, .ref z2, .ref z3, .int 0, .int b, .int 9, .int 0, .int 0]))] s.heap := hP
  have hl := lv_entry ([.ref z0]) (n := 3) (Nat.le_of_ble_eq_true rfl)
  rw [lg_entry_eq]
  generalize (lg_sl ([.ref z0]) ++ List.replicate (3 - (lg_sl ([.ref z0])).length) Slot.unset).toArray = ls at hl ⊢
  have hl : lv_has ls 3 [(0, .ref z0)] := hl
  refine lv_iconst (v := 0) hx hb dX8_playBeat_0 (by decide) ?_
  refine lv_istore_n (lv' := [(1, .int 0), (0, .ref z0)]) hx hb dX8_playBeat_1 rfl hl (by decide) rfl (fun ls hl => ?_)
  refine lv_iload_n hx hb dX8_playBeat_2 rfl (lv_at hl 0 rfl) ?_
  refine lv_aload_n hx hb dX8_playBeat_3 rfl (lv_at hl 1 rfl) ?_
  refine va_get (D := D) (ci := 8) (v := .int 0) (C := RX8) (T := TX8) (N := 10) hx hb hts iX8_playBeat_X8 hown hK hP 0 rfl rfl 5 (by decide) (hts (.fieldLink RX8 46 "PuppetBridge$Stage" "count" "I") mX8_playBeat_w0) (fun _ h9 => h9) rfl dX8_playBeat_4 ?_
  refine lv_icmp_ge (tgt := 37) hx hb dX8_playBeat_7 (by decide) (fun _ => ?_) (fun h9 => absurd h9 (by decide))
  refine lv_iconst (v := 0) hx hb dX8_playBeat_37 (by decide) ?_
  refine lv_istore_n (lv' := [(1, .int 0), (0, .ref z0)]) hx hb dX8_playBeat_38 rfl hl (by decide) rfl (fun ls hl => ?_)
  refine lv_iload_n hx hb dX8_playBeat_39 rfl (lv_at hl 0 rfl) ?_
  refine lv_aload_n hx hb dX8_playBeat_40 rfl (lv_at hl 1 rfl) ?_
  refine va_get (D := D) (ci := 8) (v := .int 0) (C := RX8) (T := TX8) (N := 10) hx hb hts iX8_playBeat_X8 hown hK hP 0 rfl rfl 5 (by decide) (hts (.fieldLink RX8 46 "PuppetBridge$Stage" "count" "I") mX8_playBeat_w0) (fun _ h9 => h9) rfl dX8_playBeat_41 ?_
  refine lv_icmp_ge (tgt := 77) hx hb dX8_playBeat_44 (by decide) (fun _ => ?_) (fun h9 => absurd h9 (by decide))
  refine lv_aload_n hx hb dX8_playBeat_77 rfl (lv_at hl 1 rfl) ?_
  refine lv_dup hx hb dX8_playBeat_78 rfl ?_
  refine va_get (D := D) (ci := 8) (v := .int b) (C := RX8) (T := TX8) (N := 10) hx hb hts iX8_playBeat_X8 hown hK hP 0 rfl rfl 6 (by decide) (hts (.fieldLink RX8 49 "PuppetBridge$Stage" "beat" "I") mX8_playBeat_w2) (fun _ h9 => h9) rfl dX8_playBeat_79 ?_
  refine lv_iconst (v := 1) hx hb dX8_playBeat_82 (by decide) ?_
  refine lv_iadd hx hb dX8_playBeat_83 ?_
  refine lv_topi (fun v1 ev1 => ?_)
  refine va_put (D := D) (ci := 8) (v := .int v1) (ty := (tyX8 6)) (C := RX8) (T := TX8) (N := 10) hx hb hts iX8_playBeat_X8 tyX8 tyX8_ok nmX8 hown hK hP hD hS 0 rfl rfl 6 (by decide) (hts (.fieldLink RX8 49 "PuppetBridge$Stage" "beat" "I") mX8_playBeat_w2) (fun _ h9 => h9) rfl (tyX8_ok 6 (by decide)) rfl rfl (Nat.le_of_ble_eq_true rfl) dX8_playBeat_84 (fun H locs hP hD hS => ?_)
  have hP : va_P D vwCl [(z0, .inr (8, [.ref z1, .ref z51, .ref z52, .ref z2, .ref z3, .int 0, .int v1, .int 9, .int 0, .int 0]))] H := hP
  have hD : va_D A [(z0, .inr (8, [.ref z1, .ref z51, .ref z52, .ref z2, .ref z3, .int 0, .int v1, .int 9, .int 0, .int 0]))] := hD
  have hP9 := hP.sub (ws' := [(z0, .inr (8, [.ref z1, .ref z51, .ref z52, .ref z2, .ref z3, .int 0, .int v1, .int 9, .int 0, .int 0]))]) [0] rfl
  have hD9 := hD.sub (ws' := [(z0, .inr (8, [.ref z1, .ref z51, .ref z52, .ref z2, .ref z3, .int 0, .int v1, .int 9, .int 0, .int 0]))]) [0] (by decide) rfl
  exact W.vret hx hb hr (fun t ht hW => ⟨⟨(), rfl, trivial, ⟨v1, ev1, by rw [ht]; exact hP9, va_K.moved hW.alike hK, hD9⟩⟩, hS.F ht⟩) hS.2.2 dX8_playBeat_87

theorem mX11_play_w0 : Cond.fieldLink RX11 10 "PuppetBridge" "stage" "LPuppetBridge$Stage;" ∈ wsX11_play := by decide +kernel
theorem mX11_play_w1 : Cond.fieldLink RX11 202 "PuppetBridge$Stage" "beat" "I" ∈ wsX11_play := by decide +kernel
theorem iX11_play_X11 : ∀ w ∈ wsX110, w ∈ wsX11_play := fun _ h => List.mem_cons_of_mem _ (List.mem_append_left _ (List.mem_append_left _ (List.mem_append_left _ (List.mem_append_left _ (List.mem_append_right _ h)))))
theorem iX11_play_X8 : ∀ w ∈ wsX80, w ∈ wsX11_play := fun _ h => List.mem_cons_of_mem _ (List.mem_append_left _ (List.mem_append_left _ (List.mem_append_left _ (List.mem_append_right _ h))))
set_option maxRecDepth 20000 in
theorem ggX11_play_X11_within : GoodIn wsX11_play wsX11_within := goodIn_r _ [6] (by decide +kernel) (by decide +kernel)
set_option maxRecDepth 20000 in
theorem gX11_play_X11_within : GoodIn wsX11_play (va_wsS RX11 94 yX11_within wsX11_within) := goodIn_app (goodIn_of _ (by decide +kernel)) ggX11_play_X11_within
set_option maxRecDepth 20000 in
theorem ggX11_play_X8_playBeat : GoodIn wsX11_play wsX8_playBeat := goodIn_r _ [11, 12, 13, 14, 15, 16, 17, 18, 19, 20, 21, 22, 23, 24, 25, 26, 27, 28, 29, 30, 31, 32, 33, 34, 35, 36, 37, 38, 39, 40, 41, 42, 43, 44, 45, 4, 5, 6, 46, 47, 48, 49, 50, 51, 52, 53, 54, 55, 56, 57, 58, 59, 60, 61, 62, 63, 64, 65, 66, 67, 68, 69, 70, 71, 72, 73, 74, 75, 76, 77, 78, 79, 80, 81, 82, 83, 84, 85, 86, 87, 88, 89, 90, 91, 92, 93, 94, 95, 96, 97, 98, 99, 100, 101, 102, 103, 10, 104, 105, 106, 107, 108, 109, 110, 111, 112, 113, 114, 115, 116, 117, 126, 127, 128, 129, 130, 131, 132, 133, 134, 135, 136, 137, 138, 139, 140, 141, 142, 143, 144, 145, 146, 147, 148, 149, 150, 151, 152, 153, 154, 155, 156, 157, 158, 159, 160, 161, 162, 163] (by decide +kernel) (by decide +kernel)
set_option maxRecDepth 20000 in
theorem gX11_play_X8_playBeat : GoodIn wsX11_play (wsV RX11 205 RX8 yX8_playBeat wsX8_playBeat) := goodIn_app (goodIn_of _ (by decide +kernel)) ggX11_play_X8_playBeat
theorem dX11_play_0 : decode cX11_play 0 = .ok (.iload_n 1, 1) := by decide +kernel
theorem dX11_play_1 : decode cX11_play 1 = .ok (.iconst 0, 1) := by decide +kernel
theorem dX11_play_2 : decode cX11_play 2 = .ok (.bipush 100, 2) := by decide +kernel
theorem dX11_play_4 : decode cX11_play 4 = .ok (.invokestatic 94, 3) := by decide +kernel
theorem dX11_play_7 : decode cX11_play 7 = .ok (.ifCond .eq 18, 3) := by decide +kernel
theorem dX11_play_10 : decode cX11_play 10 = .ok (.aload_n 0, 1) := by decide +kernel
theorem dX11_play_11 : decode cX11_play 11 = .ok (.getfield 10, 3) := by decide +kernel
theorem dX11_play_14 : decode cX11_play 14 = .ok (.getfield 202, 3) := by decide +kernel
theorem dX11_play_17 : decode cX11_play 17 = .ok (.iload_n 1, 1) := by decide +kernel
theorem dX11_play_18 : decode cX11_play 18 = .ok (.iadd, 1) := by decide +kernel
theorem dX11_play_19 : decode cX11_play 19 = .ok (.sipush 1000, 3) := by decide +kernel
theorem dX11_play_22 : decode cX11_play 22 = .ok (.if_icmp .le 5, 3) := by decide +kernel
theorem dX11_play_25 : decode cX11_play 25 = .ok (.iconst (-1), 1) := by decide +kernel
theorem dX11_play_26 : decode cX11_play 26 = .ok (.ireturn, 1) := by decide +kernel
theorem dX11_play_27 : decode cX11_play 27 = .ok (.iconst 0, 1) := by decide +kernel
theorem dX11_play_28 : decode cX11_play 28 = .ok (.istore_n 2, 1) := by decide +kernel
theorem dX11_play_29 : decode cX11_play 29 = .ok (.iload_n 2, 1) := by decide +kernel
theorem dX11_play_30 : decode cX11_play 30 = .ok (.iload_n 1, 1) := by decide +kernel
theorem dX11_play_31 : decode cX11_play 31 = .ok (.if_icmp .ge 16, 3) := by decide +kernel
theorem dX11_play_34 : decode cX11_play 34 = .ok (.aload_n 0, 1) := by decide +kernel
theorem dX11_play_35 : decode cX11_play 35 = .ok (.getfield 10, 3) := by decide +kernel
theorem dX11_play_38 : decode cX11_play 38 = .ok (.invokevirtual 205, 3) := by decide +kernel
theorem dX11_play_41 : decode cX11_play 41 = .ok (.iinc 2 1, 3) := by decide +kernel
theorem dX11_play_44 : decode cX11_play 44 = .ok (.goto (-15), 3) := by decide +kernel
theorem dX11_play_47 : decode cX11_play 47 = .ok (.aload_n 0, 1) := by decide +kernel
theorem dX11_play_48 : decode cX11_play 48 = .ok (.getfield 10, 3) := by decide +kernel
theorem dX11_play_51 : decode cX11_play 51 = .ok (.getfield 202, 3) := by decide +kernel
theorem dX11_play_54 : decode cX11_play 54 = .ok (.ireturn, 1) := by decide +kernel
set_option maxHeartbeats 4000000 in
set_option maxRecDepth 100000 in
/-- X11_play -/
theorem kX11_play (l : Launch) (D : va_G) (G : tyG) (h0 : Nat) (x1 : Int32) (z0 : Nat) (z23 : Nat) (z25 : Nat) (z32 : Nat) (z36 : Nat) (z40 : Nat) (z43 : Nat) (z49 : Nat) (z1 : Nat) (z51 : Nat) (z52 : Nat) (z2 : Nat) (z3 : Nat) (sz : Nat) : Met l yX11_play wsX11_play ({ frames := 1, cells := 0, slots := 0, locals := 22 }) (va_Pc [.ref h0, .int x1] (wB D G sz [(h0, .inr (11, [.ref z0, .ref z23, .ref z25, .ref z32, .ref z36, .ref z40, .ref z43, .ref z49])), (z0, .inr (8, [.ref z1, .ref z51, .ref z52, .ref z2, .ref z3, .int 0, .int 0, .int 9, .int 0, .int 0]))])) (va_Qi (fun (r : Int32) (_ : Unit) => r = (if inB x1 0 100 = true then x1 else -1)) (fun _ _ => True) (va_A [(h0, .inr (11, [.ref z0, .ref z23, .ref z25, .ref z32, .ref z36, .ref z40, .ref z43, .ref z49])), (z0, .inr (8, [.ref z1, .ref z51, .ref z52, .ref z2, .ref z3, .int 0, .int 0, .int 9, .int 0, .int 0]))] sz)) 0 0 (va_A [(h0, .inr (11, [.ref z0, .ref z23, .ref z25, .ref z32, .ref z36, .ref z40, .ref z43, .ref z49])), (z0, .inr (8, [.ref z1, .ref z51, .ref z52, .ref z2, .ref z3, .int 0, .int 0, .int 9, .int 0, .int 0]))] sz) := by
  refine Met.ofW (cc := cX11_play) (maxL := 3) (ret := (some .int)) (by decide) rfl ?_
  intro p e s m args below meth c s₁ B hml hv
  obtain ⟨rfl, hsz, hP, hK, hD0, hN⟩ := hv
  have hx := B.exec
  have hb := B.bytes
  have hr := B.returns
  have hts := atoms_spec (ws := wsX11_play) B.pre
  have hown : s.vm.findClass RX11 = some m.cls := findClass_of_methodNamed B.named
  have hlocks := B.notSynchronized
  subst hsz
  have hD := hD0.self (sz := s.heap.size)
  generalize hAe : va_A [(h0, .inr (11, [.ref z0, .ref z23, .ref z25, .ref z32, .ref z36, .ref z40, .ref z43, .ref z49])), (z0, .inr (8, [.ref z1, .ref z51, .ref z52, .ref z2, .ref z3, .int 0, .int 0, .int 9, .int 0, .int 0]))] s.heap.size = A at hD ⊢
  have hA : ∀ q : Nat, s.heap.size ≤ q → A q := fun q h => by rw [← hAe]; exact Or.inr h
  have hS : va_S A s.heap s.heap [] := va_S.rf
  have hP : va_P D vwCl [(h0, .inr (11, [.ref z0, .ref z23, .ref z25, .ref z32, .ref z36, .ref z40, .ref z43, .ref z49])), (z0, .inr (8, [.ref z1, .ref z51, .ref z52, .ref z2, .ref z3, .int 0, .int 0, .int 9, .int 0, .int 0]))] s.heap := hP
  have hl := lv_entry ([.ref h0, .int x1]) (n := 3) (Nat.le_of_ble_eq_true rfl)
  rw [lg_entry_eq]
  generalize (lg_sl ([.ref h0, .int x1]) ++ List.replicate (3 - (lg_sl ([.ref h0, .int x1])).length) Slot.unset).toArray = ls at hl ⊢
  have hl : lv_has ls 3 [(0, .ref h0), (1, .int x1)] := hl
  refine lv_iload_n hx hb dX11_play_0 rfl (lv_at hl 1 rfl) ?_
  refine lv_iconst (v := 0) hx hb dX11_play_1 (by decide) ?_
  refine lv_bipush (v := 100) hx hb dX11_play_2 (by decide) ?_
  have hPc := hP.sub (ws' := []) [] rfl
  have hDc := hD.sub (ws' := []) [] (by decide) rfl
  have hFc := va_free (wc := []) hD hS hA [] rfl
  refine va_calli (va_runS (As := [.int x1, .int 0, .int 100]) (rest := []) ⟨hx, hb, hml, hown, hts⟩ (kX11_within l D G x1 0 100 s.heap.size) (va_cwS 3 hts gX11_play_X11_within rfl rfl rfl (by decide +kernel) ⟨Nat.le_of_ble_eq_true rfl, Nat.le_of_ble_eq_true rfl⟩) ⟨wB_blind, wB_pre hPc hK hDc hN⟩ rfl rfl hl.1 rfl (lv_room (Nat.le_of_ble_eq_true rfl)) dX11_play_4 ⟨Nat.le_of_ble_eq_true rfl, Nat.le_of_ble_eq_true rfl⟩) hS (fun q _ h => hFc q h) hFc (fun r1 u t H1 locs ht hvm hr1 hB hz1 hk1 hS => ?_)
  obtain ⟨hP, hD⟩ := va_join (wr := [(h0, .inr (11, [.ref z0, .ref z23, .ref z25, .ref z32, .ref z36, .ref z40, .ref z43, .ref z49])), (z0, .inr (8, [.ref z1, .ref z51, .ref z52, .ref z2, .ref z3, .int 0, .int 0, .int 9, .int 0, .int 0]))]) (w1 := []) hP hD [] [0, 1] rfl rfl (by decide) (by decide) hk1 hFc wP_nil wD_nil
  clear hPc hDc
  generalize H1 = H at hP hS ⊢
  have hP : va_P D vwCl [(h0, .inr (11, [.ref z0, .ref z23, .ref z25, .ref z32, .ref z36, .ref z40, .ref z43, .ref z49])), (z0, .inr (8, [.ref z1, .ref z51, .ref z52, .ref z2, .ref z3, .int 0, .int 0, .int 9, .int 0, .int 0]))] H := hP
  have hD : va_D A [(h0, .inr (11, [.ref z0, .ref z23, .ref z25, .ref z32, .ref z36, .ref z40, .ref z43, .ref z49])), (z0, .inr (8, [.ref z1, .ref z51, .ref z52, .ref z2, .ref z3, .int 0, .int 0, .int 9, .int 0, .int 0]))] := hD
  refine lv_if_eq (tgt := 25) hx hb dX11_play_7 (by decide) (fun c2 => ?_) (fun c2 => ?_)
  · have kc2 : (inB x1 0 100) = false := wk_b0 hr1 c2
    refine lv_iconst (v := (-1)) hx hb dX11_play_25 (by decide) ?_
    exact W.iret (v := (-1)) hx hb hr (fun t ht hW => ⟨⟨(-1), (), rfl, by first | (simp [kc2]; done) | rfl, trivial⟩, hS.F ht⟩) hS.2.2 dX11_play_26
  · have kc2 : (inB x1 0 100) = true := wk_b1 hr1 c2
    refine lv_aload_n hx hb dX11_play_10 rfl (lv_at hl 0 rfl) ?_
    refine va_get (D := D) (ci := 11) (v := .ref z0) (C := RX11) (T := TX11) (N := 8) hx hb hts iX11_play_X11 hown hK hP 0 rfl rfl 0 (by decide) (hts (.fieldLink RX11 10 "PuppetBridge" "stage" "LPuppetBridge$Stage;") mX11_play_w0) (fun _ h9 => h9) rfl dX11_play_11 ?_
    refine va_get (D := D) (ci := 8) (v := .int 0) (C := RX8) (T := TX8) (N := 10) hx hb hts iX11_play_X8 hown hK hP 1 rfl rfl 6 (by decide) (hts (.fieldLink RX11 202 "PuppetBridge$Stage" "beat" "I") mX11_play_w1) (fun _ h9 => h9) rfl dX11_play_14 ?_
    refine lv_iload_n hx hb dX11_play_17 rfl (lv_at hl 1 rfl) ?_
    refine lv_iadd hx hb dX11_play_18 ?_
    refine lv_topi (fun vsum evsum => ?_)
    refine lv_sipush (v := 1000) hx hb dX11_play_19 (by decide) ?_
    refine lv_icmp_le (tgt := 27) hx hb dX11_play_22 (by decide) (fun _ => ?_) (fun h9 => absurd (wk_1000 kc2 evsum) h9)
    obtain ⟨N, hN1, rfl⟩ := inB_nat (N := 100) (by decide) kc2
    refine lv_iconst (v := 0) hx hb dX11_play_27 (by decide) ?_
    refine lv_istore_n (lv' := [(2, .int 0), (0, .ref h0), (1, .int (nI N))]) hx hb dX11_play_28 rfl hl (by decide) rfl (fun ls hl => ?_)
    obtain ⟨i, hi⟩ : ∃ i : Nat, i = 0 := ⟨0, rfl⟩
    have hP : va_P D vwCl [(h0, .inr (11, [.ref z0, .ref z23, .ref z25, .ref z32, .ref z36, .ref z40, .ref z43, .ref z49])), (z0, .inr (8, [.ref z1, .ref z51, .ref z52, .ref z2, .ref z3, .int 0, .int (nI i), .int 9, .int 0, .int 0]))] H := by rw [hi]; exact hP
    have hD : va_D A [(h0, .inr (11, [.ref z0, .ref z23, .ref z25, .ref z32, .ref z36, .ref z40, .ref z43, .ref z49])), (z0, .inr (8, [.ref z1, .ref z51, .ref z52, .ref z2, .ref z3, .int 0, .int (nI i), .int 9, .int 0, .int 0]))] := by rw [hi]; exact hD
    have hl : lv_has ls 3 [(2, .int (nI i)), (0, .ref h0), (1, .int (nI N))] := by rw [hi]; exact hl
    obtain ⟨d, hd⟩ : ∃ d : Nat, i + d = N := ⟨N, by omega⟩
    clear hi
    generalize H = H at hP hS ⊢
    generalize locs = locs at hS ⊢
    generalize ls = ls at hl ⊢
    induction d generalizing i H locs ls with
    | zero =>
      refine lv_iload_n hx hb dX11_play_29 rfl (lv_at hl 0 rfl) ?_
      refine lv_iload_n hx hb dX11_play_30 rfl (lv_at hl 2 rfl) ?_
      refine lv_icmp_ge (tgt := 47) hx hb dX11_play_31 (by decide) (fun _ => ?_) (fun h9 => absurd (by rw [show i = N by omega]; first | decide | exact Int32.le_refl _) h9)
      refine lv_aload_n hx hb dX11_play_47 rfl (lv_at hl 1 rfl) ?_
      refine va_get (D := D) (ci := 11) (v := .ref z0) (C := RX11) (T := TX11) (N := 8) hx hb hts iX11_play_X11 hown hK hP 0 rfl rfl 0 (by decide) (hts (.fieldLink RX11 10 "PuppetBridge" "stage" "LPuppetBridge$Stage;") mX11_play_w0) (fun _ h9 => h9) rfl dX11_play_48 ?_
      refine va_get (D := D) (ci := 8) (v := .int (nI i)) (C := RX8) (T := TX8) (N := 10) hx hb hts iX11_play_X8 hown hK hP 1 rfl rfl 6 (by decide) (hts (.fieldLink RX11 202 "PuppetBridge$Stage" "beat" "I") mX11_play_w1) (fun _ h9 => h9) rfl dX11_play_51 ?_
      exact W.iret (v := (nI i)) hx hb hr (fun t ht hW => ⟨⟨(nI i), (), rfl, by rw [if_pos kc2, show i = N by omega], trivial⟩, hS.F ht⟩) hS.2.2 dX11_play_54
    | succ d ih =>
      refine lv_iload_n hx hb dX11_play_29 rfl (lv_at hl 0 rfl) ?_
      refine lv_iload_n hx hb dX11_play_30 rfl (lv_at hl 2 rfl) ?_
      refine lv_icmp_ge (tgt := 47) hx hb dX11_play_31 (by decide) (fun h9 => absurd h9 (nI_ge (by omega) (by omega))) (fun _ => ?_)
      refine lv_aload_n hx hb dX11_play_34 rfl (lv_at hl 1 rfl) ?_
      refine va_get (D := D) (ci := 11) (v := .ref z0) (C := RX11) (T := TX11) (N := 8) hx hb hts iX11_play_X11 hown hK hP 0 rfl rfl 0 (by decide) (hts (.fieldLink RX11 10 "PuppetBridge" "stage" "LPuppetBridge$Stage;") mX11_play_w0) (fun _ h9 => h9) rfl dX11_play_35 ?_
      have hPc := hP.sub (ws' := [(z0, .inr (8, [.ref z1, .ref z51, .ref z52, .ref z2, .ref z3, .int 0, .int (nI i), .int 9, .int 0, .int 0]))]) [1] rfl
      have hDc := hD.sub (ws' := [(z0, .inr (8, [.ref z1, .ref z51, .ref z52, .ref z2, .ref z3, .int 0, .int (nI i), .int 9, .int 0, .int 0]))]) [1] (by decide) rfl
      have hFc := va_free (wc := [(z0, .inr (8, [.ref z1, .ref z51, .ref z52, .ref z2, .ref z3, .int 0, .int (nI i), .int 9, .int 0, .int 0]))]) hD hS hA [1] rfl
      refine va_callv (va_runV (As := []) (rest := []) ⟨hx, hb, hml, hown, hts⟩ (kX8_playBeat l D G z0 z1 z51 z52 z2 z3 (nI i) H.size) (cwV 0 hts gX11_play_X8_playBeat rfl rfl rfl (by decide +kernel) ⟨Nat.le_of_ble_eq_true rfl, Nat.le_of_ble_eq_true rfl⟩) ⟨wB_blind, va_recv hK hPc (ci := 8) (q0 := 0) rfl rfl, wB_pre hPc hK hDc hN⟩ rfl rfl hl.1 rfl (lv_room (Nat.le_of_ble_eq_true rfl)) dX11_play_38 ⟨Nat.le_of_ble_eq_true rfl, Nat.le_of_ble_eq_true rfl⟩) hS (fun q _ h => hFc q h) hFc (fun u t H1 locs ht hvm hr3 hB hz1 hk1 hS => ?_)
      obtain ⟨f4, hf5, hP1, hK1, hD1⟩ := hB
      rw [ht] at hP1
      obtain ⟨hP, hD⟩ := va_join (wr := [(h0, .inr (11, [.ref z0, .ref z23, .ref z25, .ref z32, .ref z36, .ref z40, .ref z43, .ref z49]))]) (w1 := [(z0, .inr (8, [.ref z1, .ref z51, .ref z52, .ref z2, .ref z3, .int 0, .int f4, .int 9, .int 0, .int 0]))]) hP hD [1] [0] rfl rfl (by decide) (by decide) hk1 hFc hP1 hD1
      clear hPc hDc
      generalize H1 = H at hP hS ⊢
      have hP : va_P D vwCl [(h0, .inr (11, [.ref z0, .ref z23, .ref z25, .ref z32, .ref z36, .ref z40, .ref z43, .ref z49])), (z0, .inr (8, [.ref z1, .ref z51, .ref z52, .ref z2, .ref z3, .int 0, .int f4, .int 9, .int 0, .int 0]))] H := hP
      have hD : va_D A [(h0, .inr (11, [.ref z0, .ref z23, .ref z25, .ref z32, .ref z36, .ref z40, .ref z43, .ref z49])), (z0, .inr (8, [.ref z1, .ref z51, .ref z52, .ref z2, .ref z3, .int 0, .int f4, .int 9, .int 0, .int 0]))] := hD
      obtain ⟨v6, ev6⟩ : ∃ y : Int32, y = (nI i) + 1 := ⟨_, rfl⟩
      refine lv_iinc (v := v6) (lv' := [(2, .int v6), (0, .ref h0), (1, .int (nI N))]) hx hb dX11_play_41 hl (k := 0) rfl (by rw [ev6]; rfl) (by decide) rfl (fun ls hl => ?_)
      refine lv_goto (tgt := 29) hx hb dX11_play_44 (by decide) ?_
      exact ih (i := i + 1) (hP := by rw [← nI_1, ← hf5]; exact hP) (hD := by rw [← nI_1, ← hf5]; exact hD) (hS := hS) (hl := by rw [← nI_1, ← ev6]; exact hl) (hd := by omega)

theorem mX12_goBeat_w0 : Cond.fieldLink RX12 160 "PuppetBridgeModel" "figures" "I" ∈ wsX12_goBeat := by decide +kernel
theorem mX12_goBeat_w1 : Cond.fieldLink RX12 60 "PuppetBridgeModel" "w" "[I" ∈ wsX12_goBeat := by decide +kernel
theorem iX12_goBeat_X12 : ∀ w ∈ wsX120, w ∈ wsX12_goBeat := fun _ h => List.mem_cons_of_mem _ (List.mem_append_right _ h)
theorem dX12_goBeat_0 : decode cX12_goBeat 0 = .ok (.iconst 0, 1) := by decide +kernel
theorem dX12_goBeat_1 : decode cX12_goBeat 1 = .ok (.istore_n 1, 1) := by decide +kernel
theorem dX12_goBeat_2 : decode cX12_goBeat 2 = .ok (.iload_n 1, 1) := by decide +kernel
theorem dX12_goBeat_3 : decode cX12_goBeat 3 = .ok (.aload_n 0, 1) := by decide +kernel
theorem dX12_goBeat_4 : decode cX12_goBeat 4 = .ok (.getfield 160, 3) := by decide +kernel
theorem dX12_goBeat_7 : decode cX12_goBeat 7 = .ok (.if_icmp .ge 68, 3) := by decide +kernel
theorem dX12_goBeat_75 : decode cX12_goBeat 75 = .ok (.iconst 0, 1) := by decide +kernel
theorem dX12_goBeat_76 : decode cX12_goBeat 76 = .ok (.istore_n 1, 1) := by decide +kernel
theorem dX12_goBeat_77 : decode cX12_goBeat 77 = .ok (.iload_n 1, 1) := by decide +kernel
theorem dX12_goBeat_78 : decode cX12_goBeat 78 = .ok (.aload_n 0, 1) := by decide +kernel
theorem dX12_goBeat_79 : decode cX12_goBeat 79 = .ok (.getfield 160, 3) := by decide +kernel
theorem dX12_goBeat_82 : decode cX12_goBeat 82 = .ok (.if_icmp .ge 94, 3) := by decide +kernel
theorem dX12_goBeat_176 : decode cX12_goBeat 176 = .ok (.aload_n 0, 1) := by decide +kernel
theorem dX12_goBeat_177 : decode cX12_goBeat 177 = .ok (.getfield 60, 3) := by decide +kernel
theorem dX12_goBeat_180 : decode cX12_goBeat 180 = .ok (.sipush 168, 3) := by decide +kernel
theorem dX12_goBeat_183 : decode cX12_goBeat 183 = .ok (.dup2, 1) := by decide +kernel
theorem dX12_goBeat_184 : decode cX12_goBeat 184 = .ok (.iaload, 1) := by decide +kernel
theorem dX12_goBeat_185 : decode cX12_goBeat 185 = .ok (.iconst 1, 1) := by decide +kernel
theorem dX12_goBeat_186 : decode cX12_goBeat 186 = .ok (.iadd, 1) := by decide +kernel
theorem dX12_goBeat_187 : decode cX12_goBeat 187 = .ok (.iastore, 1) := by decide +kernel
theorem dX12_goBeat_188 : decode cX12_goBeat 188 = .ok (.return_, 1) := by decide +kernel
set_option maxHeartbeats 4000000 in
set_option maxRecDepth 100000 in
/-- X12_goBeat -/
theorem kX12_goBeat (l : Launch) (D : va_G) (G : tyG) (h0 : Nat) (z0 : Nat) (z1 : Nat) (z2 : Nat) (z3 : Nat) (z4 : Nat) (z5 : Nat) (z20 : Nat) (z21 : Nat) (z22 : Nat) (z23 : Nat) (z24 : Nat) (z25 : Nat) (z26 : Nat) (z27 : Nat) (z28 : Nat) (z6 : Nat) (z29 : Nat) (z7 : Nat) (z19 : Nat) (z8 : Nat) (z9 : Nat) (z10 : Nat) (z11 : Nat) (z30 : Nat) (z31 : Nat) (z32 : Nat) (z33 : Nat) (z12 : Nat) (z34 : Nat) (z35 : Nat) (z36 : Nat) (z37 : Nat) (z38 : Nat) (z39 : Nat) (z40 : Nat) (z41 : Nat) (z42 : Nat) (z13 : Nat) (z14 : Nat) (z15 : Nat) (z16 : Nat) (z17 : Nat) (z18 : Nat) (z43 : Nat) (fw : Nat → Int32) (sz : Nat) : Met l yX12_goBeat wsX12_goBeat ({ frames := 0, cells := 0, slots := 0, locals := 0 }) (va_Pc [.ref h0] (wB D G sz [(h0, .inr (12, [.ref z0, .ref z1, .ref z2, .ref z3, .ref z4, .ref z5, .ref z20, .ref z21, .ref z22, .ref z23, .ref z24, .ref z25, .int 0, .ref z26, .ref z27, .ref z28, .int 9, .int 0, .int 0, .ref z6, .ref z29, .ref z7, .int 0, .int 2, .ref z19, .ref z8, .ref z9, .ref z10, .int 0, .ref z11, .int 0, .ref z30, .ref z31, .ref z32, .ref z33, .int 0, .ref z12, .int 0, .int 0, .ref z34, .ref z35, .ref z36, .ref z37, .int 0, .int 0, .int 0, .int 0, .ref z38, .int 0, .ref z39, .ref z40, .ref z41, .ref z42, .int 0, .ref z13, .ref z14, .ref z15, .ref z16, .int 0, .ref z17, .ref z18, .ref z43])), (z6, .inl (G.1, 169, .inl fw))])) (va_Qv (fun _ : Unit => True) (fun _ t => ∃ (g9 : Nat → Int32), g9 168 = fw 168 + 1 ∧ wS D G (va_A [(h0, .inr (12, [.ref z0, .ref z1, .ref z2, .ref z3, .ref z4, .ref z5, .ref z20, .ref z21, .ref z22, .ref z23, .ref z24, .ref z25, .int 0, .ref z26, .ref z27, .ref z28, .int 9, .int 0, .int 0, .ref z6, .ref z29, .ref z7, .int 0, .int 2, .ref z19, .ref z8, .ref z9, .ref z10, .int 0, .ref z11, .int 0, .ref z30, .ref z31, .ref z32, .ref z33, .int 0, .ref z12, .int 0, .int 0, .ref z34, .ref z35, .ref z36, .ref z37, .int 0, .int 0, .int 0, .int 0, .ref z38, .int 0, .ref z39, .ref z40, .ref z41, .ref z42, .int 0, .ref z13, .ref z14, .ref z15, .ref z16, .int 0, .ref z17, .ref z18, .ref z43])), (z6, .inl (G.1, 169, .inl fw))] sz) [(z6, .inl (G.1, 169, .inl g9)), (h0, .inr (12, [.ref z0, .ref z1, .ref z2, .ref z3, .ref z4, .ref z5, .ref z20, .ref z21, .ref z22, .ref z23, .ref z24, .ref z25, .int 0, .ref z26, .ref z27, .ref z28, .int 9, .int 0, .int 0, .ref z6, .ref z29, .ref z7, .int 0, .int 2, .ref z19, .ref z8, .ref z9, .ref z10, .int 0, .ref z11, .int 0, .ref z30, .ref z31, .ref z32, .ref z33, .int 0, .ref z12, .int 0, .int 0, .ref z34, .ref z35, .ref z36, .ref z37, .int 0, .int 0, .int 0, .int 0, .ref z38, .int 0, .ref z39, .ref z40, .ref z41, .ref z42, .int 0, .ref z13, .ref z14, .ref z15, .ref z16, .int 0, .ref z17, .ref z18, .ref z43]))] t) (va_A [(h0, .inr (12, [.ref z0, .ref z1, .ref z2, .ref z3, .ref z4, .ref z5, .ref z20, .ref z21, .ref z22, .ref z23, .ref z24, .ref z25, .int 0, .ref z26, .ref z27, .ref z28, .int 9, .int 0, .int 0, .ref z6, .ref z29, .ref z7, .int 0, .int 2, .ref z19, .ref z8, .ref z9, .ref z10, .int 0, .ref z11, .int 0, .ref z30, .ref z31, .ref z32, .ref z33, .int 0, .ref z12, .int 0, .int 0, .ref z34, .ref z35, .ref z36, .ref z37, .int 0, .int 0, .int 0, .int 0, .ref z38, .int 0, .ref z39, .ref z40, .ref z41, .ref z42, .int 0, .ref z13, .ref z14, .ref z15, .ref z16, .int 0, .ref z17, .ref z18, .ref z43])), (z6, .inl (G.1, 169, .inl fw))] sz)) 0 0 (va_A [(h0, .inr (12, [.ref z0, .ref z1, .ref z2, .ref z3, .ref z4, .ref z5, .ref z20, .ref z21, .ref z22, .ref z23, .ref z24, .ref z25, .int 0, .ref z26, .ref z27, .ref z28, .int 9, .int 0, .int 0, .ref z6, .ref z29, .ref z7, .int 0, .int 2, .ref z19, .ref z8, .ref z9, .ref z10, .int 0, .ref z11, .int 0, .ref z30, .ref z31, .ref z32, .ref z33, .int 0, .ref z12, .int 0, .int 0, .ref z34, .ref z35, .ref z36, .ref z37, .int 0, .int 0, .int 0, .int 0, .ref z38, .int 0, .ref z39, .ref z40, .ref z41, .ref z42, .int 0, .ref z13, .ref z14, .ref z15, .ref z16, .int 0, .ref z17, .ref z18, .ref z43])), (z6, .inl (G.1, 169, .inl fw))] sz) := by
  refine Met.ofW (cc := cX12_goBeat) (maxL := 5) (ret := none) (by decide) rfl ?_
  intro p e s m args below meth c s₁ B hml hv
  obtain ⟨rfl, hsz, hP, hK, hD0, hN⟩ := hv
  have hx := B.exec
  have hb := B.bytes
  have hr := B.returns
  have hts := atoms_spec (ws := wsX12_goBeat) B.pre
  have hown : s.vm.findClass RX12 = some m.cls := findClass_of_methodNamed B.named
  have hlocks := B.notSynchronized
  subst hsz
  have hD := hD0.self (sz := s.heap.size)
  generalize hAe : va_A [(h0, .inr (12, [.ref z0, .ref z1, .ref z2, .ref z3, .ref z4, .ref z5, .ref z20, .ref z21, .ref z22, .ref z23, .ref z24, .ref z25, .int 0, .ref z26, .ref z27, .ref z28, .int 9, .int 0, .int 0, .ref z6, .ref z29, .ref z7, .int 0, .int 2, .ref z19, .ref z8, .ref z9, .ref z10, .int 0, .ref z11, .int 0, .ref z30, .ref z31, .ref z32, .ref z33, .int 0, .ref z12, .int 0, .int 0, .ref z34, .ref z35, .ref z36, .ref z37, .int 0, .int 0, .int 0, .int 0, .ref z38, .int 0, .ref z39, .ref z40, .ref z41, .ref z42, .int 0, .ref z13, .ref z14, .ref z15, .ref z16, .int 0, .ref z17, .ref z18, .ref z43])), (z6, .inl (G.1, 169, .inl fw))] s.heap.size = A at hD ⊢
  have hA : ∀ q : Nat, s.heap.size ≤ q → A q := fun q h => by rw [← hAe]; exact Or.inr h
  have hS : va_S A s.heap s.heap [] := va_S.rf
  have hP : va_P D vwCl [(h0, .inr (12, [.ref z0, .ref z1, .ref z2, .ref z3, .ref z4, .ref z5, .ref z20, .ref z21, .ref z22, .ref z23, .ref z24, .ref z25, .int 0, .ref z26, .ref z27, .ref z28, .int 9, .int 0, .int 0, .ref z6, .ref z29, .ref z7, .int 0, .int 2, .ref z19, .ref z8, .ref z9, .ref z10, .int 0, .ref z11, .int 0, .ref z30, .ref z31, .ref z32, .ref z33, .int 0, .ref z12, .int 0, .int 0, .ref z34, .ref z35, .ref z36, .ref z37, .int 0, .int 0, .int 0, .int 0, .ref z38, .int 0, .ref z39, .ref z40, .ref z41, .ref z42, .int 0, .ref z13, .ref z14, .ref z15, .ref z16, .int 0, .ref z17, .ref z18, .ref z43])), (z6, .inl (G.1, 169, .inl fw))] s.heap := hP
  have hl := lv_entry ([.ref h0]) (n := 5) (Nat.le_of_ble_eq_true rfl)
  rw [lg_entry_eq]
  generalize (lg_sl ([.ref h0]) ++ List.replicate (5 - (lg_sl ([.ref h0])).length) Slot.unset).toArray = ls at hl ⊢
  have hl : lv_has ls 5 [(0, .ref h0)] := hl
  refine lv_iconst (v := 0) hx hb dX12_goBeat_0 (by decide) ?_
  refine lv_istore_n (lv' := [(1, .int 0), (0, .ref h0)]) hx hb dX12_goBeat_1 rfl hl (by decide) rfl (fun ls hl => ?_)
  refine lv_iload_n hx hb dX12_goBeat_2 rfl (lv_at hl 0 rfl) ?_
  refine lv_aload_n hx hb dX12_goBeat_3 rfl (lv_at hl 1 rfl) ?_
  refine va_get (D := D) (ci := 12) (v := .int 0) (C := RX12) (T := TX12) (N := 62) hx hb hts iX12_goBeat_X12 hown hK hP 0 rfl rfl 12 (by decide) (hts (.fieldLink RX12 160 "PuppetBridgeModel" "figures" "I") mX12_goBeat_w0) (fun _ h9 => h9) rfl dX12_goBeat_4 ?_
  refine lv_icmp_ge (tgt := 75) hx hb dX12_goBeat_7 (by decide) (fun _ => ?_) (fun h9 => absurd h9 (by decide))
  refine lv_iconst (v := 0) hx hb dX12_goBeat_75 (by decide) ?_
  refine lv_istore_n (lv' := [(1, .int 0), (0, .ref h0)]) hx hb dX12_goBeat_76 rfl hl (by decide) rfl (fun ls hl => ?_)
  refine lv_iload_n hx hb dX12_goBeat_77 rfl (lv_at hl 0 rfl) ?_
  refine lv_aload_n hx hb dX12_goBeat_78 rfl (lv_at hl 1 rfl) ?_
  refine va_get (D := D) (ci := 12) (v := .int 0) (C := RX12) (T := TX12) (N := 62) hx hb hts iX12_goBeat_X12 hown hK hP 0 rfl rfl 12 (by decide) (hts (.fieldLink RX12 160 "PuppetBridgeModel" "figures" "I") mX12_goBeat_w0) (fun _ h9 => h9) rfl dX12_goBeat_79 ?_
  refine lv_icmp_ge (tgt := 176) hx hb dX12_goBeat_82 (by decide) (fun _ => ?_) (fun h9 => absurd h9 (by decide))
  refine lv_aload_n hx hb dX12_goBeat_176 rfl (lv_at hl 1 rfl) ?_
  refine va_get (D := D) (ci := 12) (v := .ref z6) (C := RX12) (T := TX12) (N := 62) hx hb hts iX12_goBeat_X12 hown hK hP 0 rfl rfl 19 (by decide) (hts (.fieldLink RX12 60 "PuppetBridgeModel" "w" "[I") mX12_goBeat_w1) (fun _ h9 => h9) rfl dX12_goBeat_177 ?_
  refine lv_sipush (v := 168) hx hb dX12_goBeat_180 (by decide) ?_
  refine lv_dup2_11 hx hb dX12_goBeat_183 rfl rfl ?_
  refine va_iald hx hb hK hP 1 0 rfl rfl (wk_in rfl) dX12_goBeat_184 ?_
  refine lv_topi (fun vold evold => ?_)
  refine lv_iconst (v := 1) hx hb dX12_goBeat_185 (by decide) ?_
  refine lv_iadd hx hb dX12_goBeat_186 ?_
  refine lv_topi (fun vnew evnew => ?_)
  refine va_iast hx hb hK hP hD hS 1 0 rfl rfl (wk_in rfl) dX12_goBeat_187 (fun H locs hP hD hS => ?_)
  have hP : va_P D vwCl [(h0, .inr (12, [.ref z0, .ref z1, .ref z2, .ref z3, .ref z4, .ref z5, .ref z20, .ref z21, .ref z22, .ref z23, .ref z24, .ref z25, .int 0, .ref z26, .ref z27, .ref z28, .int 9, .int 0, .int 0, .ref z6, .ref z29, .ref z7, .int 0, .int 2, .ref z19, .ref z8, .ref z9, .ref z10, .int 0, .ref z11, .int 0, .ref z30, .ref z31, .ref z32, .ref z33, .int 0, .ref z12, .int 0, .int 0, .ref z34, .ref z35, .ref z36, .ref z37, .int 0, .int 0, .int 0, .int 0, .ref z38, .int 0, .ref z39, .ref z40, .ref z41, .ref z42, .int 0, .ref z13, .ref z14, .ref z15, .ref z16, .int 0, .ref z17, .ref z18, .ref z43])), (z6, .inl (G.1, 169, .inl (upd fw 168 vnew)))] H := hP
  have hD : va_D A [(h0, .inr (12, [.ref z0, .ref z1, .ref z2, .ref z3, .ref z4, .ref z5, .ref z20, .ref z21, .ref z22, .ref z23, .ref z24, .ref z25, .int 0, .ref z26, .ref z27, .ref z28, .int 9, .int 0, .int 0, .ref z6, .ref z29, .ref z7, .int 0, .int 2, .ref z19, .ref z8, .ref z9, .ref z10, .int 0, .ref z11, .int 0, .ref z30, .ref z31, .ref z32, .ref z33, .int 0, .ref z12, .int 0, .int 0, .ref z34, .ref z35, .ref z36, .ref z37, .int 0, .int 0, .int 0, .int 0, .ref z38, .int 0, .ref z39, .ref z40, .ref z41, .ref z42, .int 0, .ref z13, .ref z14, .ref z15, .ref z16, .int 0, .ref z17, .ref z18, .ref z43])), (z6, .inl (G.1, 169, .inl (upd fw 168 vnew)))] := hD
  have hP9 := hP.sub (ws' := [(z6, .inl (G.1, 169, .inl ((upd fw 168 vnew)))), (h0, .inr (12, [.ref z0, .ref z1, .ref z2, .ref z3, .ref z4, .ref z5, .ref z20, .ref z21, .ref z22, .ref z23, .ref z24, .ref z25, .int 0, .ref z26, .ref z27, .ref z28, .int 9, .int 0, .int 0, .ref z6, .ref z29, .ref z7, .int 0, .int 2, .ref z19, .ref z8, .ref z9, .ref z10, .int 0, .ref z11, .int 0, .ref z30, .ref z31, .ref z32, .ref z33, .int 0, .ref z12, .int 0, .int 0, .ref z34, .ref z35, .ref z36, .ref z37, .int 0, .int 0, .int 0, .int 0, .ref z38, .int 0, .ref z39, .ref z40, .ref z41, .ref z42, .int 0, .ref z13, .ref z14, .ref z15, .ref z16, .int 0, .ref z17, .ref z18, .ref z43]))]) [1, 0] rfl
  have hD9 := hD.sub (ws' := [(z6, .inl (G.1, 169, .inl ((upd fw 168 vnew)))), (h0, .inr (12, [.ref z0, .ref z1, .ref z2, .ref z3, .ref z4, .ref z5, .ref z20, .ref z21, .ref z22, .ref z23, .ref z24, .ref z25, .int 0, .ref z26, .ref z27, .ref z28, .int 9, .int 0, .int 0, .ref z6, .ref z29, .ref z7, .int 0, .int 2, .ref z19, .ref z8, .ref z9, .ref z10, .int 0, .ref z11, .int 0, .ref z30, .ref z31, .ref z32, .ref z33, .int 0, .ref z12, .int 0, .int 0, .ref z34, .ref z35, .ref z36, .ref z37, .int 0, .int 0, .int 0, .int 0, .ref z38, .int 0, .ref z39, .ref z40, .ref z41, .ref z42, .int 0, .ref z13, .ref z14, .ref z15, .ref z16, .int 0, .ref z17, .ref z18, .ref z43]))]) [1, 0] (by decide) rfl
  exact W.vret hx hb hr (fun t ht hW => ⟨⟨(), rfl, trivial, ⟨(upd fw 168 vnew), by rw [pk_us, evnew, evold]; rfl, by rw [ht]; exact hP9, va_K.moved hW.alike hK, hD9⟩⟩, hS.F ht⟩) hS.2.2 dX12_goBeat_188

theorem mX12_canPlay_w0 : Cond.fieldLink RX12 60 "PuppetBridgeModel" "w" "[I" ∈ wsX12_canPlay := by decide +kernel
theorem iX12_canPlay_X12 : ∀ w ∈ wsX120, w ∈ wsX12_canPlay := fun _ h => List.mem_cons_of_mem _ (List.mem_append_right _ h)
set_option maxRecDepth 20000 in
theorem ggX12_canPlay_X12_in : GoodIn wsX12_canPlay wsX12_in := goodIn_r _ [5] (by decide +kernel) (by decide +kernel)
set_option maxRecDepth 20000 in
theorem gX12_canPlay_X12_in : GoodIn wsX12_canPlay (va_wsS RX12 163 yX12_in wsX12_in) := goodIn_app (goodIn_of _ (by decide +kernel)) ggX12_canPlay_X12_in
theorem dX12_canPlay_0 : decode cX12_canPlay 0 = .ok (.iload_n 1, 1) := by decide +kernel
theorem dX12_canPlay_1 : decode cX12_canPlay 1 = .ok (.iload_n 2, 1) := by decide +kernel
theorem dX12_canPlay_2 : decode cX12_canPlay 2 = .ok (.bipush 100, 2) := by decide +kernel
theorem dX12_canPlay_4 : decode cX12_canPlay 4 = .ok (.invokestatic 163, 3) := by decide +kernel
theorem dX12_canPlay_7 : decode cX12_canPlay 7 = .ok (.ifCond .eq 23, 3) := by decide +kernel
theorem dX12_canPlay_10 : decode cX12_canPlay 10 = .ok (.aload_n 0, 1) := by decide +kernel
theorem dX12_canPlay_11 : decode cX12_canPlay 11 = .ok (.getfield 60, 3) := by decide +kernel
theorem dX12_canPlay_14 : decode cX12_canPlay 14 = .ok (.sipush 168, 3) := by decide +kernel
theorem dX12_canPlay_17 : decode cX12_canPlay 17 = .ok (.iaload, 1) := by decide +kernel
theorem dX12_canPlay_18 : decode cX12_canPlay 18 = .ok (.iload_n 1, 1) := by decide +kernel
theorem dX12_canPlay_19 : decode cX12_canPlay 19 = .ok (.iadd, 1) := by decide +kernel
theorem dX12_canPlay_20 : decode cX12_canPlay 20 = .ok (.sipush 1000, 3) := by decide +kernel
theorem dX12_canPlay_23 : decode cX12_canPlay 23 = .ok (.if_icmp .gt 7, 3) := by decide +kernel
theorem dX12_canPlay_26 : decode cX12_canPlay 26 = .ok (.iconst 1, 1) := by decide +kernel
theorem dX12_canPlay_27 : decode cX12_canPlay 27 = .ok (.goto 4, 3) := by decide +kernel
theorem dX12_canPlay_30 : decode cX12_canPlay 30 = .ok (.iconst 0, 1) := by decide +kernel
theorem dX12_canPlay_31 : decode cX12_canPlay 31 = .ok (.ireturn, 1) := by decide +kernel
set_option maxHeartbeats 4000000 in
set_option maxRecDepth 100000 in
/-- X12_canPlay -/
theorem kX12_canPlay (l : Launch) (D : va_G) (G : tyG) (h0 : Nat) (n : Int32) (z0 : Nat) (z1 : Nat) (z2 : Nat) (z3 : Nat) (z4 : Nat) (z5 : Nat) (z20 : Nat) (z21 : Nat) (z22 : Nat) (z23 : Nat) (z24 : Nat) (z25 : Nat) (z26 : Nat) (z27 : Nat) (z28 : Nat) (z6 : Nat) (z29 : Nat) (z7 : Nat) (z19 : Nat) (z8 : Nat) (z9 : Nat) (z10 : Nat) (z11 : Nat) (z30 : Nat) (z31 : Nat) (z32 : Nat) (z33 : Nat) (z12 : Nat) (z34 : Nat) (z35 : Nat) (z36 : Nat) (z37 : Nat) (z38 : Nat) (z39 : Nat) (z40 : Nat) (z41 : Nat) (z42 : Nat) (z13 : Nat) (z14 : Nat) (z15 : Nat) (z16 : Nat) (z17 : Nat) (z18 : Nat) (z43 : Nat) (sz : Nat) : Met l yX12_canPlay wsX12_canPlay ({ frames := 1, cells := 0, slots := 0, locals := 22 }) (va_Pc [.ref h0, .int n, .int 0] (wB D G sz [(h0, .inr (12, [.ref z0, .ref z1, .ref z2, .ref z3, .ref z4, .ref z5, .ref z20, .ref z21, .ref z22, .ref z23, .ref z24, .ref z25, .int 0, .ref z26, .ref z27, .ref z28, .int 9, .int 0, .int 0, .ref z6, .ref z29, .ref z7, .int 0, .int 2, .ref z19, .ref z8, .ref z9, .ref z10, .int 0, .ref z11, .int 0, .ref z30, .ref z31, .ref z32, .ref z33, .int 0, .ref z12, .int 0, .int 0, .ref z34, .ref z35, .ref z36, .ref z37, .int 0, .int 0, .int 0, .int 0, .ref z38, .int 0, .ref z39, .ref z40, .ref z41, .ref z42, .int 0, .ref z13, .ref z14, .ref z15, .ref z16, .int 0, .ref z17, .ref z18, .ref z43])), (z6, .inl (G.1, 169, .inl (fun _ => 0)))])) (va_Qi (fun (r : Int32) (_ : Unit) => r = if (inB n 0 100) = true then 1 else 0) (fun _ t => wS D G (va_A [(h0, .inr (12, [.ref z0, .ref z1, .ref z2, .ref z3, .ref z4, .ref z5, .ref z20, .ref z21, .ref z22, .ref z23, .ref z24, .ref z25, .int 0, .ref z26, .ref z27, .ref z28, .int 9, .int 0, .int 0, .ref z6, .ref z29, .ref z7, .int 0, .int 2, .ref z19, .ref z8, .ref z9, .ref z10, .int 0, .ref z11, .int 0, .ref z30, .ref z31, .ref z32, .ref z33, .int 0, .ref z12, .int 0, .int 0, .ref z34, .ref z35, .ref z36, .ref z37, .int 0, .int 0, .int 0, .int 0, .ref z38, .int 0, .ref z39, .ref z40, .ref z41, .ref z42, .int 0, .ref z13, .ref z14, .ref z15, .ref z16, .int 0, .ref z17, .ref z18, .ref z43])), (z6, .inl (G.1, 169, .inl (fun _ => 0)))] sz) [(z6, .inl (G.1, 169, .inl (fun _ => 0))), (h0, .inr (12, [.ref z0, .ref z1, .ref z2, .ref z3, .ref z4, .ref z5, .ref z20, .ref z21, .ref z22, .ref z23, .ref z24, .ref z25, .int 0, .ref z26, .ref z27, .ref z28, .int 9, .int 0, .int 0, .ref z6, .ref z29, .ref z7, .int 0, .int 2, .ref z19, .ref z8, .ref z9, .ref z10, .int 0, .ref z11, .int 0, .ref z30, .ref z31, .ref z32, .ref z33, .int 0, .ref z12, .int 0, .int 0, .ref z34, .ref z35, .ref z36, .ref z37, .int 0, .int 0, .int 0, .int 0, .ref z38, .int 0, .ref z39, .ref z40, .ref z41, .ref z42, .int 0, .ref z13, .ref z14, .ref z15, .ref z16, .int 0, .ref z17, .ref z18, .ref z43]))] t) (va_A [(h0, .inr (12, [.ref z0, .ref z1, .ref z2, .ref z3, .ref z4, .ref z5, .ref z20, .ref z21, .ref z22, .ref z23, .ref z24, .ref z25, .int 0, .ref z26, .ref z27, .ref z28, .int 9, .int 0, .int 0, .ref z6, .ref z29, .ref z7, .int 0, .int 2, .ref z19, .ref z8, .ref z9, .ref z10, .int 0, .ref z11, .int 0, .ref z30, .ref z31, .ref z32, .ref z33, .int 0, .ref z12, .int 0, .int 0, .ref z34, .ref z35, .ref z36, .ref z37, .int 0, .int 0, .int 0, .int 0, .ref z38, .int 0, .ref z39, .ref z40, .ref z41, .ref z42, .int 0, .ref z13, .ref z14, .ref z15, .ref z16, .int 0, .ref z17, .ref z18, .ref z43])), (z6, .inl (G.1, 169, .inl (fun _ => 0)))] sz)) 0 0 (va_A [(h0, .inr (12, [.ref z0, .ref z1, .ref z2, .ref z3, .ref z4, .ref z5, .ref z20, .ref z21, .ref z22, .ref z23, .ref z24, .ref z25, .int 0, .ref z26, .ref z27, .ref z28, .int 9, .int 0, .int 0, .ref z6, .ref z29, .ref z7, .int 0, .int 2, .ref z19, .ref z8, .ref z9, .ref z10, .int 0, .ref z11, .int 0, .ref z30, .ref z31, .ref z32, .ref z33, .int 0, .ref z12, .int 0, .int 0, .ref z34, .ref z35, .ref z36, .ref z37, .int 0, .int 0, .int 0, .int 0, .ref z38, .int 0, .ref z39, .ref z40, .ref z41, .ref z42, .int 0, .ref z13, .ref z14, .ref z15, .ref z16, .int 0, .ref z17, .ref z18, .ref z43])), (z6, .inl (G.1, 169, .inl (fun _ => 0)))] sz) := by
  refine Met.ofW (cc := cX12_canPlay) (maxL := 3) (ret := (some .boolean)) (by decide) rfl ?_
  intro p e s m args below meth c s₁ B hml hv
  obtain ⟨rfl, hsz, hP, hK, hD0, hN⟩ := hv
  have hx := B.exec
  have hb := B.bytes
  have hr := B.returns
  have hts := atoms_spec (ws := wsX12_canPlay) B.pre
  have hown : s.vm.findClass RX12 = some m.cls := findClass_of_methodNamed B.named
  have hlocks := B.notSynchronized
  subst hsz
  have hD := hD0.self (sz := s.heap.size)
  generalize hAe : va_A [(h0, .inr (12, [.ref z0, .ref z1, .ref z2, .ref z3, .ref z4, .ref z5, .ref z20, .ref z21, .ref z22, .ref z23, .ref z24, .ref z25, .int 0, .ref z26, .ref z27, .ref z28, .int 9, .int 0, .int 0, .ref z6, .ref z29, .ref z7, .int 0, .int 2, .ref z19, .ref z8, .ref z9, .ref z10, .int 0, .ref z11, .int 0, .ref z30, .ref z31, .ref z32, .ref z33, .int 0, .ref z12, .int 0, .int 0, .ref z34, .ref z35, .ref z36, .ref z37, .int 0, .int 0, .int 0, .int 0, .ref z38, .int 0, .ref z39, .ref z40, .ref z41, .ref z42, .int 0, .ref z13, .ref z14, .ref z15, .ref z16, .int 0, .ref z17, .ref z18, .ref z43])), (z6, .inl (G.1, 169, .inl (fun _ => 0)))] s.heap.size = A at hD ⊢
  have hA : ∀ q : Nat, s.heap.size ≤ q → A q := fun q h => by rw [← hAe]; exact Or.inr h
  have hS : va_S A s.heap s.heap [] := va_S.rf
  have hP : va_P D vwCl [(h0, .inr (12, [.ref z0, .ref z1, .ref z2, .ref z3, .ref z4, .ref z5, .ref z20, .ref z21, .ref z22, .ref z23, .ref z24, .ref z25, .int 0, .ref z26, .ref z27, .ref z28, .int 9, .int 0, .int 0, .ref z6, .ref z29, .ref z7, .int 0, .int 2, .ref z19, .ref z8, .ref z9, .ref z10, .int 0, .ref z11, .int 0, .ref z30, .ref z31, .ref z32, .ref z33, .int 0, .ref z12, .int 0, .int 0, .ref z34, .ref z35, .ref z36, .ref z37, .int 0, .int 0, .int 0, .int 0, .ref z38, .int 0, .ref z39, .ref z40, .ref z41, .ref z42, .int 0, .ref z13, .ref z14, .ref z15, .ref z16, .int 0, .ref z17, .ref z18, .ref z43])), (z6, .inl (G.1, 169, .inl (fun _ => 0)))] s.heap := hP
  have hl := lv_entry ([.ref h0, .int n, .int 0]) (n := 3) (Nat.le_of_ble_eq_true rfl)
  rw [lg_entry_eq]
  generalize (lg_sl ([.ref h0, .int n, .int 0]) ++ List.replicate (3 - (lg_sl ([.ref h0, .int n, .int 0])).length) Slot.unset).toArray = ls at hl ⊢
  have hl : lv_has ls 3 [(0, .ref h0), (1, .int n), (2, .int 0)] := hl
  refine lv_iload_n hx hb dX12_canPlay_0 rfl (lv_at hl 1 rfl) ?_
  refine lv_iload_n hx hb dX12_canPlay_1 rfl (lv_at hl 2 rfl) ?_
  refine lv_bipush (v := 100) hx hb dX12_canPlay_2 (by decide) ?_
  have hPc := hP.sub (ws' := []) [] rfl
  have hDc := hD.sub (ws' := []) [] (by decide) rfl
  have hFc := va_free (wc := []) hD hS hA [] rfl
  refine va_calli (va_runS (As := [.int n, .int 0, .int 100]) (rest := []) ⟨hx, hb, hml, hown, hts⟩ (kX12_in l D G n 0 100 s.heap.size) (va_cwS 3 hts gX12_canPlay_X12_in rfl rfl rfl (by decide +kernel) ⟨Nat.le_of_ble_eq_true rfl, Nat.le_of_ble_eq_true rfl⟩) ⟨wB_blind, wB_pre hPc hK hDc hN⟩ rfl rfl hl.1 rfl (lv_room (Nat.le_of_ble_eq_true rfl)) dX12_canPlay_4 ⟨Nat.le_of_ble_eq_true rfl, Nat.le_of_ble_eq_true rfl⟩) hS (fun q _ h => hFc q h) hFc (fun r1 u t H1 locs ht hvm hr1 hB hz1 hk1 hS => ?_)
  obtain ⟨hP, hD⟩ := va_join (wr := [(h0, .inr (12, [.ref z0, .ref z1, .ref z2, .ref z3, .ref z4, .ref z5, .ref z20, .ref z21, .ref z22, .ref z23, .ref z24, .ref z25, .int 0, .ref z26, .ref z27, .ref z28, .int 9, .int 0, .int 0, .ref z6, .ref z29, .ref z7, .int 0, .int 2, .ref z19, .ref z8, .ref z9, .ref z10, .int 0, .ref z11, .int 0, .ref z30, .ref z31, .ref z32, .ref z33, .int 0, .ref z12, .int 0, .int 0, .ref z34, .ref z35, .ref z36, .ref z37, .int 0, .int 0, .int 0, .int 0, .ref z38, .int 0, .ref z39, .ref z40, .ref z41, .ref z42, .int 0, .ref z13, .ref z14, .ref z15, .ref z16, .int 0, .ref z17, .ref z18, .ref z43])), (z6, .inl (G.1, 169, .inl (fun _ => 0)))]) (w1 := []) hP hD [] [0, 1] rfl rfl (by decide) (by decide) hk1 hFc wP_nil wD_nil
  clear hPc hDc
  generalize H1 = H at hP hS ⊢
  have hP : va_P D vwCl [(h0, .inr (12, [.ref z0, .ref z1, .ref z2, .ref z3, .ref z4, .ref z5, .ref z20, .ref z21, .ref z22, .ref z23, .ref z24, .ref z25, .int 0, .ref z26, .ref z27, .ref z28, .int 9, .int 0, .int 0, .ref z6, .ref z29, .ref z7, .int 0, .int 2, .ref z19, .ref z8, .ref z9, .ref z10, .int 0, .ref z11, .int 0, .ref z30, .ref z31, .ref z32, .ref z33, .int 0, .ref z12, .int 0, .int 0, .ref z34, .ref z35, .ref z36, .ref z37, .int 0, .int 0, .int 0, .int 0, .ref z38, .int 0, .ref z39, .ref z40, .ref z41, .ref z42, .int 0, .ref z13, .ref z14, .ref z15, .ref z16, .int 0, .ref z17, .ref z18, .ref z43])), (z6, .inl (G.1, 169, .inl (fun _ => 0)))] H := hP
  have hD : va_D A [(h0, .inr (12, [.ref z0, .ref z1, .ref z2, .ref z3, .ref z4, .ref z5, .ref z20, .ref z21, .ref z22, .ref z23, .ref z24, .ref z25, .int 0, .ref z26, .ref z27, .ref z28, .int 9, .int 0, .int 0, .ref z6, .ref z29, .ref z7, .int 0, .int 2, .ref z19, .ref z8, .ref z9, .ref z10, .int 0, .ref z11, .int 0, .ref z30, .ref z31, .ref z32, .ref z33, .int 0, .ref z12, .int 0, .int 0, .ref z34, .ref z35, .ref z36, .ref z37, .int 0, .int 0, .int 0, .int 0, .ref z38, .int 0, .ref z39, .ref z40, .ref z41, .ref z42, .int 0, .ref z13, .ref z14, .ref z15, .ref z16, .int 0, .ref z17, .ref z18, .ref z43])), (z6, .inl (G.1, 169, .inl (fun _ => 0)))] := hD
  refine lv_if_eq (tgt := 30) hx hb dX12_canPlay_7 (by decide) (fun c2 => ?_) (fun c2 => ?_)
  · have kc2 : (inB n 0 100) = false := wk_b0 hr1 c2
    refine lv_iconst (v := 0) hx hb dX12_canPlay_30 (by decide) ?_
    have hP9 := hP.sub (ws' := [(z6, .inl (G.1, 169, .inl (fun _ => 0))), (h0, .inr (12, [.ref z0, .ref z1, .ref z2, .ref z3, .ref z4, .ref z5, .ref z20, .ref z21, .ref z22, .ref z23, .ref z24, .ref z25, .int 0, .ref z26, .ref z27, .ref z28, .int 9, .int 0, .int 0, .ref z6, .ref z29, .ref z7, .int 0, .int 2, .ref z19, .ref z8, .ref z9, .ref z10, .int 0, .ref z11, .int 0, .ref z30, .ref z31, .ref z32, .ref z33, .int 0, .ref z12, .int 0, .int 0, .ref z34, .ref z35, .ref z36, .ref z37, .int 0, .int 0, .int 0, .int 0, .ref z38, .int 0, .ref z39, .ref z40, .ref z41, .ref z42, .int 0, .ref z13, .ref z14, .ref z15, .ref z16, .int 0, .ref z17, .ref z18, .ref z43]))]) [1, 0] rfl
    have hD9 := hD.sub (ws' := [(z6, .inl (G.1, 169, .inl (fun _ => 0))), (h0, .inr (12, [.ref z0, .ref z1, .ref z2, .ref z3, .ref z4, .ref z5, .ref z20, .ref z21, .ref z22, .ref z23, .ref z24, .ref z25, .int 0, .ref z26, .ref z27, .ref z28, .int 9, .int 0, .int 0, .ref z6, .ref z29, .ref z7, .int 0, .int 2, .ref z19, .ref z8, .ref z9, .ref z10, .int 0, .ref z11, .int 0, .ref z30, .ref z31, .ref z32, .ref z33, .int 0, .ref z12, .int 0, .int 0, .ref z34, .ref z35, .ref z36, .ref z37, .int 0, .int 0, .int 0, .int 0, .ref z38, .int 0, .ref z39, .ref z40, .ref z41, .ref z42, .int 0, .ref z13, .ref z14, .ref z15, .ref z16, .int 0, .ref z17, .ref z18, .ref z43]))]) [1, 0] (by decide) rfl
    exact W.zret (v := 0) hx hb hr rfl (fun t ht hW => ⟨⟨0, (), rfl, by first | (simp [kc2]; done) | rfl, ⟨by rw [ht]; exact hP9, va_K.moved hW.alike hK, hD9⟩⟩, hS.F ht⟩) hS.2.2 dX12_canPlay_31
  · have kc2 : (inB n 0 100) = true := wk_b1 hr1 c2
    refine lv_aload_n hx hb dX12_canPlay_10 rfl (lv_at hl 0 rfl) ?_
    refine va_get (D := D) (ci := 12) (v := .ref z6) (C := RX12) (T := TX12) (N := 62) hx hb hts iX12_canPlay_X12 hown hK hP 0 rfl rfl 19 (by decide) (hts (.fieldLink RX12 60 "PuppetBridgeModel" "w" "[I") mX12_canPlay_w0) (fun _ h9 => h9) rfl dX12_canPlay_11 ?_
    refine lv_sipush (v := 168) hx hb dX12_canPlay_14 (by decide) ?_
    refine va_iald hx hb hK hP 1 0 rfl rfl (wk_in rfl) dX12_canPlay_17 ?_
    refine wk_i 0 rfl ?_
    refine lv_iload_n hx hb dX12_canPlay_18 rfl (lv_at hl 1 rfl) ?_
    refine lv_iadd hx hb dX12_canPlay_19 ?_
    refine lv_topi (fun vsum evsum => ?_)
    refine lv_sipush (v := 1000) hx hb dX12_canPlay_20 (by decide) ?_
    refine lv_icmp_gt (tgt := 30) hx hb dX12_canPlay_23 (by decide) (fun h9 => absurd h9 (wk_n1000 kc2 evsum)) (fun _ => ?_)
    refine lv_iconst (v := 1) hx hb dX12_canPlay_26 (by decide) ?_
    refine lv_goto (tgt := 31) hx hb dX12_canPlay_27 (by decide) ?_
    have hP9 := hP.sub (ws' := [(z6, .inl (G.1, 169, .inl (fun _ => 0))), (h0, .inr (12, [.ref z0, .ref z1, .ref z2, .ref z3, .ref z4, .ref z5, .ref z20, .ref z21, .ref z22, .ref z23, .ref z24, .ref z25, .int 0, .ref z26, .ref z27, .ref z28, .int 9, .int 0, .int 0, .ref z6, .ref z29, .ref z7, .int 0, .int 2, .ref z19, .ref z8, .ref z9, .ref z10, .int 0, .ref z11, .int 0, .ref z30, .ref z31, .ref z32, .ref z33, .int 0, .ref z12, .int 0, .int 0, .ref z34, .ref z35, .ref z36, .ref z37, .int 0, .int 0, .int 0, .int 0, .ref z38, .int 0, .ref z39, .ref z40, .ref z41, .ref z42, .int 0, .ref z13, .ref z14, .ref z15, .ref z16, .int 0, .ref z17, .ref z18, .ref z43]))]) [1, 0] rfl
    have hD9 := hD.sub (ws' := [(z6, .inl (G.1, 169, .inl (fun _ => 0))), (h0, .inr (12, [.ref z0, .ref z1, .ref z2, .ref z3, .ref z4, .ref z5, .ref z20, .ref z21, .ref z22, .ref z23, .ref z24, .ref z25, .int 0, .ref z26, .ref z27, .ref z28, .int 9, .int 0, .int 0, .ref z6, .ref z29, .ref z7, .int 0, .int 2, .ref z19, .ref z8, .ref z9, .ref z10, .int 0, .ref z11, .int 0, .ref z30, .ref z31, .ref z32, .ref z33, .int 0, .ref z12, .int 0, .int 0, .ref z34, .ref z35, .ref z36, .ref z37, .int 0, .int 0, .int 0, .int 0, .ref z38, .int 0, .ref z39, .ref z40, .ref z41, .ref z42, .int 0, .ref z13, .ref z14, .ref z15, .ref z16, .int 0, .ref z17, .ref z18, .ref z43]))]) [1, 0] (by decide) rfl
    exact W.zret (v := 1) hx hb hr rfl (fun t ht hW => ⟨⟨1, (), rfl, by first | (simp [kc2]; done) | rfl, ⟨by rw [ht]; exact hP9, va_K.moved hW.alike hK, hD9⟩⟩, hS.F ht⟩) hS.2.2 dX12_canPlay_31

theorem mX12_play_w0 : Cond.fieldLink RX12 157 "PuppetBridgeModel" "thrown" "I" ∈ wsX12_play := by decide +kernel
theorem mX12_play_w1 : Cond.fieldLink RX12 60 "PuppetBridgeModel" "w" "[I" ∈ wsX12_play := by decide +kernel
theorem iX12_play_X12 : ∀ w ∈ wsX120, w ∈ wsX12_play := fun _ h => List.mem_cons_of_mem _ (List.mem_append_right _ h)
set_option maxRecDepth 20000 in
theorem ggX12_play_X12_canPlay : GoodIn wsX12_play wsX12_canPlay := goodIn_r _ [7, 2, 8, 9, 6, 10, 100, 101, 102, 103, 104, 105, 106, 107, 108, 109, 110, 111, 112, 113, 114, 115, 116, 117, 118, 119, 120, 121, 122, 123, 124, 125, 126, 127, 128, 129, 130, 131, 132, 133, 134, 135, 136, 137, 138, 139, 140, 141, 142, 143, 144, 145, 146, 147, 148, 149, 150, 151, 152, 153, 154, 155, 156, 157, 158, 159, 160, 161] (by decide +kernel) (by decide +kernel)
set_option maxRecDepth 20000 in
theorem gX12_play_X12_canPlay : GoodIn wsX12_play (wsV RX12 282 RX12 yX12_canPlay wsX12_canPlay) := goodIn_app (goodIn_of _ (by decide +kernel)) ggX12_play_X12_canPlay
set_option maxRecDepth 20000 in
theorem ggX12_play_X12_goBeat : GoodIn wsX12_play wsX12_goBeat := goodIn_r _ [14, 15, 2, 16, 17, 18, 19, 6, 20, 21, 22, 23, 24, 25, 26, 27, 28, 29, 30, 31, 32, 33, 34, 35, 36, 37, 38, 39, 40, 41, 42, 43, 44, 45, 46, 47, 48, 49, 50, 51, 52, 53, 54, 55, 56, 57, 58, 59, 60, 61, 62, 63, 64, 65, 66, 67, 68, 69, 70, 71, 72, 73, 74, 75, 76, 77, 78, 79, 80, 81, 82, 83, 84, 85, 86, 87, 88, 89, 90, 91, 92, 93, 94, 95, 96, 97, 98, 99, 100, 101, 102, 103, 104, 105, 106, 107, 108, 109, 110, 111, 112, 113, 114, 115, 116, 117, 118, 119, 120, 121, 122, 123, 124, 125, 126, 127, 128, 129, 130, 131, 132, 133, 134, 135, 136, 137, 138, 139, 140, 141, 142, 143, 144, 145, 146, 147, 148, 149, 150, 151, 152, 153, 154, 155, 156, 157, 158, 159, 160, 161] (by decide +kernel) (by decide +kernel)
set_option maxRecDepth 20000 in
theorem gX12_play_X12_goBeat : GoodIn wsX12_play (wsV RX12 285 RX12 yX12_goBeat wsX12_goBeat) := goodIn_app (goodIn_of _ (by decide +kernel)) ggX12_play_X12_goBeat
theorem dX12_play_0 : decode cX12_play 0 = .ok (.aload_n 0, 1) := by decide +kernel
theorem dX12_play_1 : decode cX12_play 1 = .ok (.iconst 0, 1) := by decide +kernel
theorem dX12_play_2 : decode cX12_play 2 = .ok (.putfield 157, 3) := by decide +kernel
theorem dX12_play_5 : decode cX12_play 5 = .ok (.aload_n 0, 1) := by decide +kernel
theorem dX12_play_6 : decode cX12_play 6 = .ok (.iload_n 1, 1) := by decide +kernel
theorem dX12_play_7 : decode cX12_play 7 = .ok (.iconst 0, 1) := by decide +kernel
theorem dX12_play_8 : decode cX12_play 8 = .ok (.invokevirtual 282, 3) := by decide +kernel
theorem dX12_play_11 : decode cX12_play 11 = .ok (.ifCond .ne 5, 3) := by decide +kernel
theorem dX12_play_14 : decode cX12_play 14 = .ok (.iconst (-1), 1) := by decide +kernel
theorem dX12_play_15 : decode cX12_play 15 = .ok (.ireturn, 1) := by decide +kernel
theorem dX12_play_16 : decode cX12_play 16 = .ok (.iconst 0, 1) := by decide +kernel
theorem dX12_play_17 : decode cX12_play 17 = .ok (.istore_n 2, 1) := by decide +kernel
theorem dX12_play_18 : decode cX12_play 18 = .ok (.iload_n 2, 1) := by decide +kernel
theorem dX12_play_19 : decode cX12_play 19 = .ok (.iload_n 1, 1) := by decide +kernel
theorem dX12_play_20 : decode cX12_play 20 = .ok (.if_icmp .ge 13, 3) := by decide +kernel
theorem dX12_play_23 : decode cX12_play 23 = .ok (.aload_n 0, 1) := by decide +kernel
theorem dX12_play_24 : decode cX12_play 24 = .ok (.invokevirtual 285, 3) := by decide +kernel
theorem dX12_play_27 : decode cX12_play 27 = .ok (.iinc 2 1, 3) := by decide +kernel
theorem dX12_play_30 : decode cX12_play 30 = .ok (.goto (-12), 3) := by decide +kernel
theorem dX12_play_33 : decode cX12_play 33 = .ok (.aload_n 0, 1) := by decide +kernel
theorem dX12_play_34 : decode cX12_play 34 = .ok (.getfield 60, 3) := by decide +kernel
theorem dX12_play_37 : decode cX12_play 37 = .ok (.sipush 168, 3) := by decide +kernel
theorem dX12_play_40 : decode cX12_play 40 = .ok (.iaload, 1) := by decide +kernel
theorem dX12_play_41 : decode cX12_play 41 = .ok (.ireturn, 1) := by decide +kernel
set_option maxHeartbeats 4000000 in
set_option maxRecDepth 100000 in
/-- X12_play -/
theorem kX12_play (l : Launch) (D : va_G) (G : tyG) (h0 : Nat) (x1 : Int32) (z0 : Nat) (z1 : Nat) (z2 : Nat) (z3 : Nat) (z4 : Nat) (z5 : Nat) (z20 : Nat) (z21 : Nat) (z22 : Nat) (z23 : Nat) (z24 : Nat) (z25 : Nat) (z26 : Nat) (z27 : Nat) (z28 : Nat) (z6 : Nat) (z29 : Nat) (z7 : Nat) (z19 : Nat) (z8 : Nat) (z9 : Nat) (z10 : Nat) (z11 : Nat) (z30 : Nat) (z31 : Nat) (z32 : Nat) (z33 : Nat) (z12 : Nat) (z34 : Nat) (z35 : Nat) (z36 : Nat) (z37 : Nat) (z38 : Nat) (z39 : Nat) (z40 : Nat) (z41 : Nat) (z42 : Nat) (z13 : Nat) (z14 : Nat) (z15 : Nat) (z16 : Nat) (z17 : Nat) (z18 : Nat) (z43 : Nat) (sz : Nat) : Met l yX12_play wsX12_play ({ frames := 2, cells := 0, slots := 0, locals := 44 }) (va_Pc [.ref h0, .int x1] (wB D G sz [(h0, .inr (12, [.ref z0, .ref z1, .ref z2, .ref z3, .ref z4, .ref z5, .ref z20, .ref z21, .ref z22, .ref z23, .ref z24, .ref z25, .int 0, .ref z26, .ref z27, .ref z28, .int 9, .int 0, .int 0, .ref z6, .ref z29, .ref z7, .int 0, .int 2, .ref z19, .ref z8, .ref z9, .ref z10, .int 0, .ref z11, .int 0, .ref z30, .ref z31, .ref z32, .ref z33, .int 0, .ref z12, .int 0, .int 0, .ref z34, .ref z35, .ref z36, .ref z37, .int 0, .int 0, .int 0, .int 0, .ref z38, .int 0, .ref z39, .ref z40, .ref z41, .ref z42, .int 0, .ref z13, .ref z14, .ref z15, .ref z16, .int 0, .ref z17, .ref z18, .ref z43])), (z6, .inl (G.1, 169, .inl (fun _ => 0)))])) (va_Qi (fun (r : Int32) (_ : Unit) => r = (if inB x1 0 100 = true then x1 else -1)) (fun _ _ => True) (va_A [(h0, .inr (12, [.ref z0, .ref z1, .ref z2, .ref z3, .ref z4, .ref z5, .ref z20, .ref z21, .ref z22, .ref z23, .ref z24, .ref z25, .int 0, .ref z26, .ref z27, .ref z28, .int 9, .int 0, .int 0, .ref z6, .ref z29, .ref z7, .int 0, .int 2, .ref z19, .ref z8, .ref z9, .ref z10, .int 0, .ref z11, .int 0, .ref z30, .ref z31, .ref z32, .ref z33, .int 0, .ref z12, .int 0, .int 0, .ref z34, .ref z35, .ref z36, .ref z37, .int 0, .int 0, .int 0, .int 0, .ref z38, .int 0, .ref z39, .ref z40, .ref z41, .ref z42, .int 0, .ref z13, .ref z14, .ref z15, .ref z16, .int 0, .ref z17, .ref z18, .ref z43])), (z6, .inl (G.1, 169, .inl (fun _ => 0)))] sz)) 0 0 (va_A [(h0, .inr (12, [.ref z0, .ref z1, .ref z2, .ref z3, .ref z4, .ref z5, .ref z20, .ref z21, .ref z22, .ref z23, .ref z24, .ref z25, .int 0, .ref z26, .ref z27, .ref z28, .int 9, .int 0, .int 0, .ref z6, .ref z29, .ref z7, .int 0, .int 2, .ref z19, .ref z8, .ref z9, .ref z10, .int 0, .ref z11, .int 0, .ref z30, .ref z31, .ref z32, .ref z33, .int 0, .ref z12, .int 0, .int 0, .ref z34, .ref z35, .ref z36, .ref z37, .int 0, .int 0, .int 0, .int 0, .ref z38, .int 0, .ref z39, .ref z40, .ref z41, .ref z42, .int 0, .ref z13, .ref z14, .ref z15, .ref z16, .int 0, .ref z17, .ref z18, .ref z43])), (z6, .inl (G.1, 169, .inl (fun _ => 0)))] sz) := by
  refine Met.ofW (cc := cX12_play) (maxL := 3) (ret := (some .int)) (by decide) rfl ?_
  intro p e s m args below meth c s₁ B hml hv
  obtain ⟨rfl, hsz, hP, hK, hD0, hN⟩ := hv
  have hx := B.exec
  have hb := B.bytes
  have hr := B.returns
  have hts := atoms_spec (ws := wsX12_play) B.pre
  have hown : s.vm.findClass RX12 = some m.cls := findClass_of_methodNamed B.named
  have hlocks := B.notSynchronized
  subst hsz
  have hD := hD0.self (sz := s.heap.size)
  generalize hAe : va_A [(h0, .inr (12, [.ref z0, .ref z1, .ref z2, .ref z3, .ref z4, .ref z5, .ref z20, .ref z21, .ref z22, .ref z23, .ref z24, .ref z25, .int 0, .ref z26, .ref z27, .ref z28, .int 9, .int 0, .int 0, .ref z6, .ref z29, .ref z7, .int 0, .int 2, .ref z19, .ref z8, .ref z9, .ref z10, .int 0, .ref z11, .int 0, .ref z30, .ref z31, .ref z32, .ref z33, .int 0, .ref z12, .int 0, .int 0, .ref z34, .ref z35, .ref z36, .ref z37, .int 0, .int 0, .int 0, .int 0, .ref z38, .int 0, .ref z39, .ref z40, .ref z41, .ref z42, .int 0, .ref z13, .ref z14, .ref z15, .ref z16, .int 0, .ref z17, .ref z18, .ref z43])), (z6, .inl (G.1, 169, .inl (fun _ => 0)))] s.heap.size = A at hD ⊢
  have hA : ∀ q : Nat, s.heap.size ≤ q → A q := fun q h => by rw [← hAe]; exact Or.inr h
  have hS : va_S A s.heap s.heap [] := va_S.rf
  have hP : va_P D vwCl [(h0, .inr (12, [.ref z0, .ref z1, .ref z2, .ref z3, .ref z4, .ref z5, .ref z20, .ref z21, .ref z22, .ref z23, .ref z24, .ref z25, .int 0, .ref z26, .ref z27, .ref z28, .int 9, .int 0, .int 0, .ref z6, .ref z29, .ref z7, .int 0, .int 2, .ref z19, .ref z8, .ref z9, .ref z10, .int 0, .ref z11, .int 0, .ref z30, .ref z31, .ref z32, .ref z33, .int 0, .ref z12, .int 0, .int 0, .ref z34, .ref z35, .ref z36, .ref z37, .int 0, .int 0, .int 0, .int 0, .ref z38, .int 0, .ref z39, .ref z40, .ref z41, .ref z42, .int 0, .ref z13, .ref z14, .ref z15, .ref z16, .int 0, .ref z17, .ref z18, .ref z43])), (z6, .inl (G.1, 169, .inl (fun _ => 0)))] s.heap := hP
  have hl := lv_entry ([.ref h0, .int x1]) (n := 3) (Nat.le_of_ble_eq_true rfl)
  rw [lg_entry_eq]
  generalize (lg_sl ([.ref h0, .int x1]) ++ List.replicate (3 - (lg_sl ([.ref h0, .int x1])).length) Slot.unset).toArray = ls at hl ⊢
  have hl : lv_has ls 3 [(0, .ref h0), (1, .int x1)] := hl
  refine lv_aload_n hx hb dX12_play_0 rfl (lv_at hl 0 rfl) ?_
  refine lv_iconst (v := 0) hx hb dX12_play_1 (by decide) ?_
  refine va_put (D := D) (ci := 12) (v := .int 0) (ty := (tyX12 38)) (C := RX12) (T := TX12) (N := 62) hx hb hts iX12_play_X12 tyX12 tyX12_ok nmX12 hown hK hP hD hS 0 rfl rfl 38 (by decide) (hts (.fieldLink RX12 157 "PuppetBridgeModel" "thrown" "I") mX12_play_w0) (fun _ h9 => h9) rfl (tyX12_ok 38 (by decide)) rfl rfl (Nat.le_of_ble_eq_true rfl) dX12_play_2 (fun H locs hP hD hS => ?_)
  have hP : va_P D vwCl [(h0, .inr (12, [.ref z0, .ref z1, .ref z2, .ref z3, .ref z4, .ref z5, .ref z20, .ref z21, .ref z22, .ref z23, .ref z24, .ref z25, .int 0, .ref z26, .ref z27, .ref z28, .int 9, .int 0, .int 0, .ref z6, .ref z29, .ref z7, .int 0, .int 2, .ref z19, .ref z8, .ref z9, .ref z10, .int 0, .ref z11, .int 0, .ref z30, .ref z31, .ref z32, .ref z33, .int 0, .ref z12, .int 0, .int 0, .ref z34, .ref z35, .ref z36, .ref z37, .int 0, .int 0, .int 0, .int 0, .ref z38, .int 0, .ref z39, .ref z40, .ref z41, .ref z42, .int 0, .ref z13, .ref z14, .ref z15, .ref z16, .int 0, .ref z17, .ref z18, .ref z43])), (z6, .inl (G.1, 169, .inl (fun _ => 0)))] H := hP
  have hD : va_D A [(h0, .inr (12, [.ref z0, .ref z1, .ref z2, .ref z3, .ref z4, .ref z5, .ref z20, .ref z21, .ref z22, .ref z23, .ref z24, .ref z25, .int 0, .ref z26, .ref z27, .ref z28, .int 9, .int 0, .int 0, .ref z6, .ref z29, .ref z7, .int 0, .int 2, .ref z19, .ref z8, .ref z9, .ref z10, .int 0, .ref z11, .int 0, .ref z30, .ref z31, .ref z32, .ref z33, .int 0, .ref z12, .int 0, .int 0, .ref z34, .ref z35, .ref z36, .ref z37, .int 0, .int 0, .int 0, .int 0, .ref z38, .int 0, .ref z39, .ref z40, .ref z41, .ref z42, .int 0, .ref z13, .ref z14, .ref z15, .ref z16, .int 0, .ref z17, .ref z18, .ref z43])), (z6, .inl (G.1, 169, .inl (fun _ => 0)))] := hD
  refine lv_aload_n hx hb dX12_play_5 rfl (lv_at hl 0 rfl) ?_
  refine lv_iload_n hx hb dX12_play_6 rfl (lv_at hl 1 rfl) ?_
  refine lv_iconst (v := 0) hx hb dX12_play_7 (by decide) ?_
  have hPc := hP.sub (ws' := [(h0, .inr (12, [.ref z0, .ref z1, .ref z2, .ref z3, .ref z4, .ref z5, .ref z20, .ref z21, .ref z22, .ref z23, .ref z24, .ref z25, .int 0, .ref z26, .ref z27, .ref z28, .int 9, .int 0, .int 0, .ref z6, .ref z29, .ref z7, .int 0, .int 2, .ref z19, .ref z8, .ref z9, .ref z10, .int 0, .ref z11, .int 0, .ref z30, .ref z31, .ref z32, .ref z33, .int 0, .ref z12, .int 0, .int 0, .ref z34, .ref z35, .ref z36, .ref z37, .int 0, .int 0, .int 0, .int 0, .ref z38, .int 0, .ref z39, .ref z40, .ref z41, .ref z42, .int 0, .ref z13, .ref z14, .ref z15, .ref z16, .int 0, .ref z17, .ref z18, .ref z43])), (z6, .inl (G.1, 169, .inl (fun _ => 0)))]) [0, 1] rfl
  have hDc := hD.sub (ws' := [(h0, .inr (12, [.ref z0, .ref z1, .ref z2, .ref z3, .ref z4, .ref z5, .ref z20, .ref z21, .ref z22, .ref z23, .ref z24, .ref z25, .int 0, .ref z26, .ref z27, .ref z28, .int 9, .int 0, .int 0, .ref z6, .ref z29, .ref z7, .int 0, .int 2, .ref z19, .ref z8, .ref z9, .ref z10, .int 0, .ref z11, .int 0, .ref z30, .ref z31, .ref z32, .ref z33, .int 0, .ref z12, .int 0, .int 0, .ref z34, .ref z35, .ref z36, .ref z37, .int 0, .int 0, .int 0, .int 0, .ref z38, .int 0, .ref z39, .ref z40, .ref z41, .ref z42, .int 0, .ref z13, .ref z14, .ref z15, .ref z16, .int 0, .ref z17, .ref z18, .ref z43])), (z6, .inl (G.1, 169, .inl (fun _ => 0)))]) [0, 1] (by decide) rfl
  have hFc := va_free (wc := [(h0, .inr (12, [.ref z0, .ref z1, .ref z2, .ref z3, .ref z4, .ref z5, .ref z20, .ref z21, .ref z22, .ref z23, .ref z24, .ref z25, .int 0, .ref z26, .ref z27, .ref z28, .int 9, .int 0, .int 0, .ref z6, .ref z29, .ref z7, .int 0, .int 2, .ref z19, .ref z8, .ref z9, .ref z10, .int 0, .ref z11, .int 0, .ref z30, .ref z31, .ref z32, .ref z33, .int 0, .ref z12, .int 0, .int 0, .ref z34, .ref z35, .ref z36, .ref z37, .int 0, .int 0, .int 0, .int 0, .ref z38, .int 0, .ref z39, .ref z40, .ref z41, .ref z42, .int 0, .ref z13, .ref z14, .ref z15, .ref z16, .int 0, .ref z17, .ref z18, .ref z43])), (z6, .inl (G.1, 169, .inl (fun _ => 0)))]) hD hS hA [0, 1] rfl
  refine va_calli (va_runV (As := [.int x1, .int 0]) (rest := []) ⟨hx, hb, hml, hown, hts⟩ (kX12_canPlay l D G h0 x1 z0 z1 z2 z3 z4 z5 z20 z21 z22 z23 z24 z25 z26 z27 z28 z6 z29 z7 z19 z8 z9 z10 z11 z30 z31 z32 z33 z12 z34 z35 z36 z37 z38 z39 z40 z41 z42 z13 z14 z15 z16 z17 z18 z43 H.size) (cwV 2 hts gX12_play_X12_canPlay rfl rfl rfl (by decide +kernel) ⟨Nat.le_of_ble_eq_true rfl, Nat.le_of_ble_eq_true rfl⟩) ⟨wB_blind, va_recv hK hPc (ci := 12) (q0 := 0) rfl rfl, wB_pre hPc hK hDc hN⟩ rfl rfl hl.1 rfl (lv_room (Nat.le_of_ble_eq_true rfl)) dX12_play_8 ⟨Nat.le_of_ble_eq_true rfl, Nat.le_of_ble_eq_true rfl⟩) hS (fun q _ h => hFc q h) hFc (fun r1 u t H1 locs ht hvm hr1 hB hz1 hk1 hS => ?_)
  obtain ⟨hP1, hK1, hD1⟩ := hB
  rw [ht] at hP1
  obtain ⟨hP, hD⟩ := va_join (wr := []) (w1 := [(z6, .inl (G.1, 169, .inl (fun _ => 0))), (h0, .inr (12, [.ref z0, .ref z1, .ref z2, .ref z3, .ref z4, .ref z5, .ref z20, .ref z21, .ref z22, .ref z23, .ref z24, .ref z25, .int 0, .ref z26, .ref z27, .ref z28, .int 9, .int 0, .int 0, .ref z6, .ref z29, .ref z7, .int 0, .int 2, .ref z19, .ref z8, .ref z9, .ref z10, .int 0, .ref z11, .int 0, .ref z30, .ref z31, .ref z32, .ref z33, .int 0, .ref z12, .int 0, .int 0, .ref z34, .ref z35, .ref z36, .ref z37, .int 0, .int 0, .int 0, .int 0, .ref z38, .int 0, .ref z39, .ref z40, .ref z41, .ref z42, .int 0, .ref z13, .ref z14, .ref z15, .ref z16, .int 0, .ref z17, .ref z18, .ref z43]))]) hP hD [0, 1] [] rfl rfl (by decide) (by decide) hk1 hFc hP1 hD1
  clear hPc hDc
  generalize H1 = H at hP hS ⊢
  have hP : va_P D vwCl [(z6, .inl (G.1, 169, .inl (fun _ => 0))), (h0, .inr (12, [.ref z0, .ref z1, .ref z2, .ref z3, .ref z4, .ref z5, .ref z20, .ref z21, .ref z22, .ref z23, .ref z24, .ref z25, .int 0, .ref z26, .ref z27, .ref z28, .int 9, .int 0, .int 0, .ref z6, .ref z29, .ref z7, .int 0, .int 2, .ref z19, .ref z8, .ref z9, .ref z10, .int 0, .ref z11, .int 0, .ref z30, .ref z31, .ref z32, .ref z33, .int 0, .ref z12, .int 0, .int 0, .ref z34, .ref z35, .ref z36, .ref z37, .int 0, .int 0, .int 0, .int 0, .ref z38, .int 0, .ref z39, .ref z40, .ref z41, .ref z42, .int 0, .ref z13, .ref z14, .ref z15, .ref z16, .int 0, .ref z17, .ref z18, .ref z43]))] H := hP
  have hD : va_D A [(z6, .inl (G.1, 169, .inl (fun _ => 0))), (h0, .inr (12, [.ref z0, .ref z1, .ref z2, .ref z3, .ref z4, .ref z5, .ref z20, .ref z21, .ref z22, .ref z23, .ref z24, .ref z25, .int 0, .ref z26, .ref z27, .ref z28, .int 9, .int 0, .int 0, .ref z6, .ref z29, .ref z7, .int 0, .int 2, .ref z19, .ref z8, .ref z9, .ref z10, .int 0, .ref z11, .int 0, .ref z30, .ref z31, .ref z32, .ref z33, .int 0, .ref z12, .int 0, .int 0, .ref z34, .ref z35, .ref z36, .ref z37, .int 0, .int 0, .int 0, .int 0, .ref z38, .int 0, .ref z39, .ref z40, .ref z41, .ref z42, .int 0, .ref z13, .ref z14, .ref z15, .ref z16, .int 0, .ref z17, .ref z18, .ref z43]))] := hD
  refine lv_if_ne (tgt := 16) hx hb dX12_play_11 (by decide) (fun c2 => ?_) (fun c2 => ?_)
  · have kc2 : (inB x1 0 100) = true := wk_b1 hr1 c2
    obtain ⟨N, hN1, rfl⟩ := inB_nat (N := 100) (by decide) kc2
    refine lv_iconst (v := 0) hx hb dX12_play_16 (by decide) ?_
    refine lv_istore_n (lv' := [(2, .int 0), (0, .ref h0), (1, .int (nI N))]) hx hb dX12_play_17 rfl hl (by decide) rfl (fun ls hl => ?_)
    obtain ⟨i, hi⟩ : ∃ i : Nat, i = 0 := ⟨0, rfl⟩
    obtain ⟨lf0, hlf0⟩ : ∃ f : Nat → Int32, f = (fun _ => 0) := ⟨_, rfl⟩
    have hfa : lf0 168 = nI i := by rw [hlf0, hi]; rfl
    have hP : va_P D vwCl [(z6, .inl (G.1, 169, .inl lf0)), (h0, .inr (12, [.ref z0, .ref z1, .ref z2, .ref z3, .ref z4, .ref z5, .ref z20, .ref z21, .ref z22, .ref z23, .ref z24, .ref z25, .int 0, .ref z26, .ref z27, .ref z28, .int 9, .int 0, .int 0, .ref z6, .ref z29, .ref z7, .int 0, .int 2, .ref z19, .ref z8, .ref z9, .ref z10, .int 0, .ref z11, .int 0, .ref z30, .ref z31, .ref z32, .ref z33, .int 0, .ref z12, .int 0, .int 0, .ref z34, .ref z35, .ref z36, .ref z37, .int 0, .int 0, .int 0, .int 0, .ref z38, .int 0, .ref z39, .ref z40, .ref z41, .ref z42, .int 0, .ref z13, .ref z14, .ref z15, .ref z16, .int 0, .ref z17, .ref z18, .ref z43]))] H := by rw [hlf0]; exact hP
    have hD : va_D A [(z6, .inl (G.1, 169, .inl lf0)), (h0, .inr (12, [.ref z0, .ref z1, .ref z2, .ref z3, .ref z4, .ref z5, .ref z20, .ref z21, .ref z22, .ref z23, .ref z24, .ref z25, .int 0, .ref z26, .ref z27, .ref z28, .int 9, .int 0, .int 0, .ref z6, .ref z29, .ref z7, .int 0, .int 2, .ref z19, .ref z8, .ref z9, .ref z10, .int 0, .ref z11, .int 0, .ref z30, .ref z31, .ref z32, .ref z33, .int 0, .ref z12, .int 0, .int 0, .ref z34, .ref z35, .ref z36, .ref z37, .int 0, .int 0, .int 0, .int 0, .ref z38, .int 0, .ref z39, .ref z40, .ref z41, .ref z42, .int 0, .ref z13, .ref z14, .ref z15, .ref z16, .int 0, .ref z17, .ref z18, .ref z43]))] := by rw [hlf0]; exact hD
    have hl : lv_has ls 3 [(2, .int (nI i)), (0, .ref h0), (1, .int (nI N))] := by rw [hi]; exact hl
    obtain ⟨d, hd⟩ : ∃ d : Nat, i + d = N := ⟨N, by omega⟩
    clear hi hlf0
    generalize H = H at hP hS ⊢
    generalize locs = locs at hS ⊢
    generalize ls = ls at hl ⊢
    induction d generalizing i lf0 H locs ls with
    | zero =>
      refine lv_iload_n hx hb dX12_play_18 rfl (lv_at hl 0 rfl) ?_
      refine lv_iload_n hx hb dX12_play_19 rfl (lv_at hl 2 rfl) ?_
      refine lv_icmp_ge (tgt := 33) hx hb dX12_play_20 (by decide) (fun _ => ?_) (fun h9 => absurd (by rw [show i = N by omega]; first | decide | exact Int32.le_refl _) h9)
      refine lv_aload_n hx hb dX12_play_33 rfl (lv_at hl 1 rfl) ?_
      refine va_get (D := D) (ci := 12) (v := .ref z6) (C := RX12) (T := TX12) (N := 62) hx hb hts iX12_play_X12 hown hK hP 1 rfl rfl 19 (by decide) (hts (.fieldLink RX12 60 "PuppetBridgeModel" "w" "[I") mX12_play_w1) (fun _ h9 => h9) rfl dX12_play_34 ?_
      refine lv_sipush (v := 168) hx hb dX12_play_37 (by decide) ?_
      refine va_iald hx hb hK hP 0 0 rfl rfl (wk_in rfl) dX12_play_40 ?_
      refine lv_topi (fun vend evend => ?_)
      exact W.iret (v := vend) hx hb hr (fun t ht hW => ⟨⟨vend, (), rfl, by rw [if_pos kc2, evend]; exact hfa.trans (by rw [show i = N by omega]), trivial⟩, hS.F ht⟩) hS.2.2 dX12_play_41
    | succ d ih =>
      refine lv_iload_n hx hb dX12_play_18 rfl (lv_at hl 0 rfl) ?_
      refine lv_iload_n hx hb dX12_play_19 rfl (lv_at hl 2 rfl) ?_
      refine lv_icmp_ge (tgt := 33) hx hb dX12_play_20 (by decide) (fun h9 => absurd h9 (nI_ge (by omega) (by omega))) (fun _ => ?_)
      refine lv_aload_n hx hb dX12_play_23 rfl (lv_at hl 1 rfl) ?_
      have hPc := hP.sub (ws' := [(h0, .inr (12, [.ref z0, .ref z1, .ref z2, .ref z3, .ref z4, .ref z5, .ref z20, .ref z21, .ref z22, .ref z23, .ref z24, .ref z25, .int 0, .ref z26, .ref z27, .ref z28, .int 9, .int 0, .int 0, .ref z6, .ref z29, .ref z7, .int 0, .int 2, .ref z19, .ref z8, .ref z9, .ref z10, .int 0, .ref z11, .int 0, .ref z30, .ref z31, .ref z32, .ref z33, .int 0, .ref z12, .int 0, .int 0, .ref z34, .ref z35, .ref z36, .ref z37, .int 0, .int 0, .int 0, .int 0, .ref z38, .int 0, .ref z39, .ref z40, .ref z41, .ref z42, .int 0, .ref z13, .ref z14, .ref z15, .ref z16, .int 0, .ref z17, .ref z18, .ref z43])), (z6, .inl (G.1, 169, .inl lf0))]) [1, 0] rfl
      have hDc := hD.sub (ws' := [(h0, .inr (12, [.ref z0, .ref z1, .ref z2, .ref z3, .ref z4, .ref z5, .ref z20, .ref z21, .ref z22, .ref z23, .ref z24, .ref z25, .int 0, .ref z26, .ref z27, .ref z28, .int 9, .int 0, .int 0, .ref z6, .ref z29, .ref z7, .int 0, .int 2, .ref z19, .ref z8, .ref z9, .ref z10, .int 0, .ref z11, .int 0, .ref z30, .ref z31, .ref z32, .ref z33, .int 0, .ref z12, .int 0, .int 0, .ref z34, .ref z35, .ref z36, .ref z37, .int 0, .int 0, .int 0, .int 0, .ref z38, .int 0, .ref z39, .ref z40, .ref z41, .ref z42, .int 0, .ref z13, .ref z14, .ref z15, .ref z16, .int 0, .ref z17, .ref z18, .ref z43])), (z6, .inl (G.1, 169, .inl lf0))]) [1, 0] (by decide) rfl
      have hFc := va_free (wc := [(h0, .inr (12, [.ref z0, .ref z1, .ref z2, .ref z3, .ref z4, .ref z5, .ref z20, .ref z21, .ref z22, .ref z23, .ref z24, .ref z25, .int 0, .ref z26, .ref z27, .ref z28, .int 9, .int 0, .int 0, .ref z6, .ref z29, .ref z7, .int 0, .int 2, .ref z19, .ref z8, .ref z9, .ref z10, .int 0, .ref z11, .int 0, .ref z30, .ref z31, .ref z32, .ref z33, .int 0, .ref z12, .int 0, .int 0, .ref z34, .ref z35, .ref z36, .ref z37, .int 0, .int 0, .int 0, .int 0, .ref z38, .int 0, .ref z39, .ref z40, .ref z41, .ref z42, .int 0, .ref z13, .ref z14, .ref z15, .ref z16, .int 0, .ref z17, .ref z18, .ref z43])), (z6, .inl (G.1, 169, .inl lf0))]) hD hS hA [1, 0] rfl
      refine va_callv (va_runV (As := []) (rest := []) ⟨hx, hb, hml, hown, hts⟩ (kX12_goBeat l D G h0 z0 z1 z2 z3 z4 z5 z20 z21 z22 z23 z24 z25 z26 z27 z28 z6 z29 z7 z19 z8 z9 z10 z11 z30 z31 z32 z33 z12 z34 z35 z36 z37 z38 z39 z40 z41 z42 z13 z14 z15 z16 z17 z18 z43 lf0 H.size) (cwV 0 hts gX12_play_X12_goBeat rfl rfl rfl (by decide +kernel) ⟨Nat.le_of_ble_eq_true rfl, Nat.le_of_ble_eq_true rfl⟩) ⟨wB_blind, va_recv hK hPc (ci := 12) (q0 := 0) rfl rfl, wB_pre hPc hK hDc hN⟩ rfl rfl hl.1 rfl (lv_room (Nat.le_of_ble_eq_true rfl)) dX12_play_24 ⟨Nat.le_of_ble_eq_true rfl, Nat.le_of_ble_eq_true rfl⟩) hS (fun q _ h => hFc q h) hFc (fun u t H1 locs ht hvm hr3 hB hz1 hk1 hS => ?_)
      obtain ⟨f4, hf5, hP1, hK1, hD1⟩ := hB
      rw [ht] at hP1
      obtain ⟨hP, hD⟩ := va_join (wr := []) (w1 := [(z6, .inl (G.1, 169, .inl f4)), (h0, .inr (12, [.ref z0, .ref z1, .ref z2, .ref z3, .ref z4, .ref z5, .ref z20, .ref z21, .ref z22, .ref z23, .ref z24, .ref z25, .int 0, .ref z26, .ref z27, .ref z28, .int 9, .int 0, .int 0, .ref z6, .ref z29, .ref z7, .int 0, .int 2, .ref z19, .ref z8, .ref z9, .ref z10, .int 0, .ref z11, .int 0, .ref z30, .ref z31, .ref z32, .ref z33, .int 0, .ref z12, .int 0, .int 0, .ref z34, .ref z35, .ref z36, .ref z37, .int 0, .int 0, .int 0, .int 0, .ref z38, .int 0, .ref z39, .ref z40, .ref z41, .ref z42, .int 0, .ref z13, .ref z14, .ref z15, .ref z16, .int 0, .ref z17, .ref z18, .ref z43]))]) hP hD [1, 0] [] rfl rfl (by decide) (by decide) hk1 hFc hP1 hD1
      clear hPc hDc
      generalize H1 = H at hP hS ⊢
      have hP : va_P D vwCl [(z6, .inl (G.1, 169, .inl f4)), (h0, .inr (12, [.ref z0, .ref z1, .ref z2, .ref z3, .ref z4, .ref z5, .ref z20, .ref z21, .ref z22, .ref z23, .ref z24, .ref z25, .int 0, .ref z26, .ref z27, .ref z28, .int 9, .int 0, .int 0, .ref z6, .ref z29, .ref z7, .int 0, .int 2, .ref z19, .ref z8, .ref z9, .ref z10, .int 0, .ref z11, .int 0, .ref z30, .ref z31, .ref z32, .ref z33, .int 0, .ref z12, .int 0, .int 0, .ref z34, .ref z35, .ref z36, .ref z37, .int 0, .int 0, .int 0, .int 0, .ref z38, .int 0, .ref z39, .ref z40, .ref z41, .ref z42, .int 0, .ref z13, .ref z14, .ref z15, .ref z16, .int 0, .ref z17, .ref z18, .ref z43]))] H := hP
      have hD : va_D A [(z6, .inl (G.1, 169, .inl f4)), (h0, .inr (12, [.ref z0, .ref z1, .ref z2, .ref z3, .ref z4, .ref z5, .ref z20, .ref z21, .ref z22, .ref z23, .ref z24, .ref z25, .int 0, .ref z26, .ref z27, .ref z28, .int 9, .int 0, .int 0, .ref z6, .ref z29, .ref z7, .int 0, .int 2, .ref z19, .ref z8, .ref z9, .ref z10, .int 0, .ref z11, .int 0, .ref z30, .ref z31, .ref z32, .ref z33, .int 0, .ref z12, .int 0, .int 0, .ref z34, .ref z35, .ref z36, .ref z37, .int 0, .int 0, .int 0, .int 0, .ref z38, .int 0, .ref z39, .ref z40, .ref z41, .ref z42, .int 0, .ref z13, .ref z14, .ref z15, .ref z16, .int 0, .ref z17, .ref z18, .ref z43]))] := hD
      obtain ⟨v6, ev6⟩ : ∃ y : Int32, y = (nI i) + 1 := ⟨_, rfl⟩
      refine lv_iinc (v := v6) (lv' := [(2, .int v6), (0, .ref h0), (1, .int (nI N))]) hx hb dX12_play_27 hl (k := 0) rfl (by rw [ev6]; rfl) (by decide) rfl (fun ls hl => ?_)
      refine lv_goto (tgt := 18) hx hb dX12_play_30 (by decide) ?_
      exact ih (i := i + 1) (hP := hP) (hD := hD) (hS := hS) (hl := by rw [← nI_1, ← ev6]; exact hl) (hd := by omega) (hfa := by (rw [hf5, hfa]; exact nI_1 i))
  · have kc2 : (inB x1 0 100) = false := wk_b0 hr1 c2
    refine lv_iconst (v := (-1)) hx hb dX12_play_14 (by decide) ?_
    exact W.iret (v := (-1)) hx hb hr (fun t ht hW => ⟨⟨(-1), (), rfl, by first | (simp [kc2]; done) | rfl, trivial⟩, hS.F ht⟩) hS.2.2 dX12_play_15
