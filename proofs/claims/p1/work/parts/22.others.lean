theorem mX10_append_w0 : Cond.fieldLink RX10 15 "PuppetBridge$Text" "length" "I" ∈ wsX10_append := by decide +kernel
theorem mX10_append_w1 : Cond.fieldLink RX10 9 "PuppetBridge$Text" "signs" "[I" ∈ wsX10_append := by decide +kernel
theorem iX10_append_X10 : ∀ w ∈ wsX100, w ∈ wsX10_append := fun _ h => List.mem_cons_of_mem _ (List.mem_append_right _ h)
theorem dX10_append_0 : decode cX10_append 0 = .ok (.bipush 24, 2) := by decide +kernel
theorem dX10_append_2 : decode cX10_append 2 = .ok (.istore_n 2, 1) := by decide +kernel
theorem dX10_append_3 : decode cX10_append 3 = .ok (.iload_n 2, 1) := by decide +kernel
theorem dX10_append_4 : decode cX10_append 4 = .ok (.ifCond .lt 44, 3) := by decide +kernel
theorem dX10_append_7 : decode cX10_append 7 = .ok (.aload_n 0, 1) := by decide +kernel
theorem dX10_append_8 : decode cX10_append 8 = .ok (.getfield 15, 3) := by decide +kernel
theorem dX10_append_11 : decode cX10_append 11 = .ok (.bipush 100, 2) := by decide +kernel
theorem dX10_append_13 : decode cX10_append 13 = .ok (.if_icmp .ge 35, 3) := by decide +kernel
theorem dX10_append_16 : decode cX10_append 16 = .ok (.aload_n 0, 1) := by decide +kernel
theorem dX10_append_17 : decode cX10_append 17 = .ok (.getfield 9, 3) := by decide +kernel
theorem dX10_append_20 : decode cX10_append 20 = .ok (.aload_n 0, 1) := by decide +kernel
theorem dX10_append_21 : decode cX10_append 21 = .ok (.getfield 15, 3) := by decide +kernel
theorem dX10_append_24 : decode cX10_append 24 = .ok (.iload_n 1, 1) := by decide +kernel
theorem dX10_append_25 : decode cX10_append 25 = .ok (.iload_n 2, 1) := by decide +kernel
theorem dX10_append_26 : decode cX10_append 26 = .ok (.iushr, 1) := by decide +kernel
theorem dX10_append_27 : decode cX10_append 27 = .ok (.sipush 255, 3) := by decide +kernel
theorem dX10_append_30 : decode cX10_append 30 = .ok (.iand, 1) := by decide +kernel
theorem dX10_append_31 : decode cX10_append 31 = .ok (.iastore, 1) := by decide +kernel
theorem dX10_append_32 : decode cX10_append 32 = .ok (.aload_n 0, 1) := by decide +kernel
theorem dX10_append_33 : decode cX10_append 33 = .ok (.dup, 1) := by decide +kernel
theorem dX10_append_34 : decode cX10_append 34 = .ok (.getfield 15, 3) := by decide +kernel
theorem dX10_append_37 : decode cX10_append 37 = .ok (.iconst 1, 1) := by decide +kernel
theorem dX10_append_38 : decode cX10_append 38 = .ok (.iadd, 1) := by decide +kernel
theorem dX10_append_39 : decode cX10_append 39 = .ok (.putfield 15, 3) := by decide +kernel
theorem dX10_append_42 : decode cX10_append 42 = .ok (.iinc 2 (-8), 3) := by decide +kernel
theorem dX10_append_45 : decode cX10_append 45 = .ok (.goto (-42), 3) := by decide +kernel
theorem dX10_append_48 : decode cX10_append 48 = .ok (.return_, 1) := by decide +kernel
set_option maxHeartbeats 4000000 in
set_option maxRecDepth 100000 in
/-- X10_append -/
theorem kX10_append (l : Launch) (D : va_G) (G : tyG) (z23 : Nat) (v : Int32) (z24 : Nat) (sz : Nat) : Met l yX10_append wsX10_append ({ frames := 0, cells := 0, slots := 0, locals := 0 }) (va_Pc [.ref z23, .int v] (wB D G sz [(z23, .inr (10, [.ref z24, .int 0])), (z24, .inl (G.1, 100, .inl (fun _ => 0)))])) (va_Qv (fun _ : Unit => True) (fun _ t => wS D G (va_A [(z23, .inr (10, [.ref z24, .int 0])), (z24, .inl (G.1, 100, .inl (fun _ => 0)))] sz) [(z23, .inr (10, [.ref z24, .int 4]))] t) (va_A [(z23, .inr (10, [.ref z24, .int 0])), (z24, .inl (G.1, 100, .inl (fun _ => 0)))] sz)) 0 0 (va_A [(z23, .inr (10, [.ref z24, .int 0])), (z24, .inl (G.1, 100, .inl (fun _ => 0)))] sz) := by
  refine Met.ofW (cc := cX10_append) (maxL := 3) (ret := none) (by decide) rfl ?_
  intro p e s m args below meth c s₁ B hml hv
  obtain ⟨rfl, hsz, hP, hK, hD0, hN⟩ := hv
  have hx := B.exec
  have hb := B.bytes
  have hr := B.returns
  have hts := atoms_spec (ws := wsX10_append) B.pre
  have hown : s.vm.findClass RX10 = some m.cls := findClass_of_methodNamed B.named
  have hlocks := B.notSynchronized
  subst hsz
  have hD := hD0.self (sz := s.heap.size)
  generalize hAe : va_A [(z23, .inr (10, [.ref z24, .int 0])), (z24, .inl (G.1, 100, .inl (fun _ => 0)))] s.heap.size = A at hD ⊢
  have hA : ∀ q : Nat, s.heap.size ≤ q → A q := fun q h => by rw [← hAe]; exact Or.inr h
  have hS : va_S A s.heap s.heap [] := va_S.rf
  have hP : va_P D vwCl [(z23, .inr (10, [.ref z24, .int 0])), (z24, .inl (G.1, 100, .inl (fun _ => 0)))] s.heap := hP
  have hl := lv_entry ([.ref z23, .int v]) (n := 3) (Nat.le_of_ble_eq_true rfl)
  rw [lg_entry_eq]
  generalize (lg_sl ([.ref z23, .int v]) ++ List.replicate (3 - (lg_sl ([.ref z23, .int v])).length) Slot.unset).toArray = ls at hl ⊢
  have hl : lv_has ls 3 [(0, .ref z23), (1, .int v)] := hl
  refine lv_bipush (v := 24) hx hb dX10_append_0 (by decide) ?_
  refine lv_istore_n (lv' := [(2, .int 24), (0, .ref z23), (1, .int v)]) hx hb dX10_append_2 rfl hl (by decide) rfl (fun ls hl => ?_)
  refine lv_iload_n hx hb dX10_append_3 rfl (lv_at hl 0 rfl) ?_
  refine lv_if_lt (tgt := 48) hx hb dX10_append_4 (by decide) (fun h9 => absurd h9 (by decide)) (fun _ => ?_)
  refine lv_aload_n hx hb dX10_append_7 rfl (lv_at hl 1 rfl) ?_
  refine va_get (D := D) (ci := 10) (v := .int 0) (C := RX10) (T := TX10) (N := 2) hx hb hts iX10_append_X10 hown hK hP 0 rfl rfl 1 (by decide) (hts (.fieldLink RX10 15 "PuppetBridge$Text" "length" "I") mX10_append_w0) (fun _ h9 => h9) rfl dX10_append_8 ?_
  refine lv_bipush (v := 100) hx hb dX10_append_11 (by decide) ?_
  refine lv_icmp_ge (tgt := 48) hx hb dX10_append_13 (by decide) (fun h9 => absurd h9 (by decide)) (fun _ => ?_)
  refine lv_aload_n hx hb dX10_append_16 rfl (lv_at hl 1 rfl) ?_
  refine va_get (D := D) (ci := 10) (v := .ref z24) (C := RX10) (T := TX10) (N := 2) hx hb hts iX10_append_X10 hown hK hP 0 rfl rfl 0 (by decide) (hts (.fieldLink RX10 9 "PuppetBridge$Text" "signs" "[I") mX10_append_w1) (fun _ h9 => h9) rfl dX10_append_17 ?_
  refine lv_aload_n hx hb dX10_append_20 rfl (lv_at hl 1 rfl) ?_
  refine va_get (D := D) (ci := 10) (v := .int 0) (C := RX10) (T := TX10) (N := 2) hx hb hts iX10_append_X10 hown hK hP 0 rfl rfl 1 (by decide) (hts (.fieldLink RX10 15 "PuppetBridge$Text" "length" "I") mX10_append_w0) (fun _ h9 => h9) rfl dX10_append_21 ?_
  refine lv_iload_n hx hb dX10_append_24 rfl (lv_at hl 2 rfl) ?_
  refine lv_iload_n hx hb dX10_append_25 rfl (lv_at hl 0 rfl) ?_
  refine lv_iushr hx hb dX10_append_26 rfl ?_
  refine lv_topi (fun v1 ev1 => ?_)
  refine lv_sipush (v := 255) hx hb dX10_append_27 (by decide) ?_
  refine lv_iand hx hb dX10_append_30 ?_
  refine lv_topi (fun v2 ev2 => ?_)
  refine va_iast hx hb hK hP hD hS 1 0 rfl rfl (wk_in rfl) dX10_append_31 (fun H locs hP hD hS => ?_)
  have hP : va_P D vwCl [(z23, .inr (10, [.ref z24, .int 0])), (z24, .inl (G.1, 100, .inl (upd (fun _ => 0) 0 v2)))] H := hP
  have hD : va_D A [(z23, .inr (10, [.ref z24, .int 0])), (z24, .inl (G.1, 100, .inl (upd (fun _ => 0) 0 v2)))] := hD
  refine lv_aload_n hx hb dX10_append_32 rfl (lv_at hl 1 rfl) ?_
  refine lv_dup hx hb dX10_append_33 rfl ?_
  refine va_get (D := D) (ci := 10) (v := .int 0) (C := RX10) (T := TX10) (N := 2) hx hb hts iX10_append_X10 hown hK hP 0 rfl rfl 1 (by decide) (hts (.fieldLink RX10 15 "PuppetBridge$Text" "length" "I") mX10_append_w0) (fun _ h9 => h9) rfl dX10_append_34 ?_
  refine lv_iconst (v := 1) hx hb dX10_append_37 (by decide) ?_
  refine lv_iadd hx hb dX10_append_38 ?_
  refine wk_i 1 (by decide) ?_
  refine va_put (D := D) (ci := 10) (v := .int 1) (ty := (tyX10 1)) (C := RX10) (T := TX10) (N := 2) hx hb hts iX10_append_X10 tyX10 tyX10_ok nmX10 hown hK hP hD hS 0 rfl rfl 1 (by decide) (hts (.fieldLink RX10 15 "PuppetBridge$Text" "length" "I") mX10_append_w0) (fun _ h9 => h9) rfl (tyX10_ok 1 (by decide)) rfl rfl (Nat.le_of_ble_eq_true rfl) dX10_append_39 (fun H locs hP hD hS => ?_)
  have hP : va_P D vwCl [(z23, .inr (10, [.ref z24, .int 1])), (z24, .inl (G.1, 100, .inl (upd (fun _ => 0) 0 v2)))] H := hP
  have hD : va_D A [(z23, .inr (10, [.ref z24, .int 1])), (z24, .inl (G.1, 100, .inl (upd (fun _ => 0) 0 v2)))] := hD
  refine lv_iinc (v := 16) (lv' := [(2, .int 16), (0, .ref z23), (1, .int v)]) hx hb dX10_append_42 hl (k := 0) rfl (by decide) (by decide) rfl (fun ls hl => ?_)
  refine lv_goto (tgt := 3) hx hb dX10_append_45 (by decide) ?_
  refine lv_iload_n hx hb dX10_append_3 rfl (lv_at hl 0 rfl) ?_
  refine lv_if_lt (tgt := 48) hx hb dX10_append_4 (by decide) (fun h9 => absurd h9 (by decide)) (fun _ => ?_)
  refine lv_aload_n hx hb dX10_append_7 rfl (lv_at hl 1 rfl) ?_
  refine va_get (D := D) (ci := 10) (v := .int 1) (C := RX10) (T := TX10) (N := 2) hx hb hts iX10_append_X10 hown hK hP 0 rfl rfl 1 (by decide) (hts (.fieldLink RX10 15 "PuppetBridge$Text" "length" "I") mX10_append_w0) (fun _ h9 => h9) rfl dX10_append_8 ?_
  refine lv_bipush (v := 100) hx hb dX10_append_11 (by decide) ?_
  refine lv_icmp_ge (tgt := 48) hx hb dX10_append_13 (by decide) (fun h9 => absurd h9 (by decide)) (fun _ => ?_)
  refine lv_aload_n hx hb dX10_append_16 rfl (lv_at hl 1 rfl) ?_
  refine va_get (D := D) (ci := 10) (v := .ref z24) (C := RX10) (T := TX10) (N := 2) hx hb hts iX10_append_X10 hown hK hP 0 rfl rfl 0 (by decide) (hts (.fieldLink RX10 9 "PuppetBridge$Text" "signs" "[I") mX10_append_w1) (fun _ h9 => h9) rfl dX10_append_17 ?_
  refine lv_aload_n hx hb dX10_append_20 rfl (lv_at hl 1 rfl) ?_
  refine va_get (D := D) (ci := 10) (v := .int 1) (C := RX10) (T := TX10) (N := 2) hx hb hts iX10_append_X10 hown hK hP 0 rfl rfl 1 (by decide) (hts (.fieldLink RX10 15 "PuppetBridge$Text" "length" "I") mX10_append_w0) (fun _ h9 => h9) rfl dX10_append_21 ?_
  refine lv_iload_n hx hb dX10_append_24 rfl (lv_at hl 2 rfl) ?_
  refine lv_iload_n hx hb dX10_append_25 rfl (lv_at hl 0 rfl) ?_
  refine lv_iushr hx hb dX10_append_26 rfl ?_
  refine lv_topi (fun v3 ev3 => ?_)
  refine lv_sipush (v := 255) hx hb dX10_append_27 (by decide) ?_
  refine lv_iand hx hb dX10_append_30 ?_
  refine lv_topi (fun v4 ev4 => ?_)
  refine va_iast hx hb hK hP hD hS 1 0 rfl rfl (wk_in rfl) dX10_append_31 (fun H locs hP hD hS => ?_)
  have hP : va_P D vwCl [(z23, .inr (10, [.ref z24, .int 1])), (z24, .inl (G.1, 100, .inl (upd (upd (fun _ => 0) 0 v2) 1 v4)))] H := hP
  have hD : va_D A [(z23, .inr (10, [.ref z24, .int 1])), (z24, .inl (G.1, 100, .inl (upd (upd (fun _ => 0) 0 v2) 1 v4)))] := hD
  refine lv_aload_n hx hb dX10_append_32 rfl (lv_at hl 1 rfl) ?_
  refine lv_dup hx hb dX10_append_33 rfl ?_
  refine va_get (D := D) (ci := 10) (v := .int 1) (C := RX10) (T := TX10) (N := 2) hx hb hts iX10_append_X10 hown hK hP 0 rfl rfl 1 (by decide) (hts (.fieldLink RX10 15 "PuppetBridge$Text" "length" "I") mX10_append_w0) (fun _ h9 => h9) rfl dX10_append_34 ?_
  refine lv_iconst (v := 1) hx hb dX10_append_37 (by decide) ?_
  refine lv_iadd hx hb dX10_append_38 ?_
  refine wk_i 2 (by decide) ?_
  refine va_put (D := D) (ci := 10) (v := .int 2) (ty := (tyX10 1)) (C := RX10) (T := TX10) (N := 2) hx hb hts iX10_append_X10 tyX10 tyX10_ok nmX10 hown hK hP hD hS 0 rfl rfl 1 (by decide) (hts (.fieldLink RX10 15 "PuppetBridge$Text" "length" "I") mX10_append_w0) (fun _ h9 => h9) rfl (tyX10_ok 1 (by decide)) rfl rfl (Nat.le_of_ble_eq_true rfl) dX10_append_39 (fun H locs hP hD hS => ?_)
  have hP : va_P D vwCl [(z23, .inr (10, [.ref z24, .int 2])), (z24, .inl (G.1, 100, .inl (upd (upd (fun _ => 0) 0 v2) 1 v4)))] H := hP
  have hD : va_D A [(z23, .inr (10, [.ref z24, .int 2])), (z24, .inl (G.1, 100, .inl (upd (upd (fun _ => 0) 0 v2) 1 v4)))] := hD
  refine lv_iinc (v := 8) (lv' := [(2, .int 8), (0, .ref z23), (1, .int v)]) hx hb dX10_append_42 hl (k := 0) rfl (by decide) (by decide) rfl (fun ls hl => ?_)
  refine lv_goto (tgt := 3) hx hb dX10_append_45 (by decide) ?_
  refine lv_iload_n hx hb dX10_append_3 rfl (lv_at hl 0 rfl) ?_
  refine lv_if_lt (tgt := 48) hx hb dX10_append_4 (by decide) (fun h9 => absurd h9 (by decide)) (fun _ => ?_)
  refine lv_aload_n hx hb dX10_append_7 rfl (lv_at hl 1 rfl) ?_
  refine va_get (D := D) (ci := 10) (v := .int 2) (C := RX10) (T := TX10) (N := 2) hx hb hts iX10_append_X10 hown hK hP 0 rfl rfl 1 (by decide) (hts (.fieldLink RX10 15 "PuppetBridge$Text" "length" "I") mX10_append_w0) (fun _ h9 => h9) rfl dX10_append_8 ?_
  refine lv_bipush (v := 100) hx hb dX10_append_11 (by decide) ?_
  refine lv_icmp_ge (tgt := 48) hx hb dX10_append_13 (by decide) (fun h9 => absurd h9 (by decide)) (fun _ => ?_)
  refine lv_aload_n hx hb dX10_append_16 rfl (lv_at hl 1 rfl) ?_
  refine va_get (D := D) (ci := 10) (v := .ref z24) (C := RX10) (T := TX10) (N := 2) hx hb hts iX10_append_X10 hown hK hP 0 rfl rfl 0 (by decide) (hts (.fieldLink RX10 9 "PuppetBridge$Text" "signs" "[I") mX10_append_w1) (fun _ h9 => h9) rfl dX10_append_17 ?_
  refine lv_aload_n hx hb dX10_append_20 rfl (lv_at hl 1 rfl) ?_
  refine va_get (D := D) (ci := 10) (v := .int 2) (C := RX10) (T := TX10) (N := 2) hx hb hts iX10_append_X10 hown hK hP 0 rfl rfl 1 (by decide) (hts (.fieldLink RX10 15 "PuppetBridge$Text" "length" "I") mX10_append_w0) (fun _ h9 => h9) rfl dX10_append_21 ?_
  refine lv_iload_n hx hb dX10_append_24 rfl (lv_at hl 2 rfl) ?_
  refine lv_iload_n hx hb dX10_append_25 rfl (lv_at hl 0 rfl) ?_
  refine lv_iushr hx hb dX10_append_26 rfl ?_
  refine lv_topi (fun v5 ev5 => ?_)
  refine lv_sipush (v := 255) hx hb dX10_append_27 (by decide) ?_
  refine lv_iand hx hb dX10_append_30 ?_
  refine lv_topi (fun v6 ev6 => ?_)
  refine va_iast hx hb hK hP hD hS 1 0 rfl rfl (wk_in rfl) dX10_append_31 (fun H locs hP hD hS => ?_)
  have hP : va_P D vwCl [(z23, .inr (10, [.ref z24, .int 2])), (z24, .inl (G.1, 100, .inl (upd (upd (upd (fun _ => 0) 0 v2) 1 v4) 2 v6)))] H := hP
  have hD : va_D A [(z23, .inr (10, [.ref z24, .int 2])), (z24, .inl (G.1, 100, .inl (upd (upd (upd (fun _ => 0) 0 v2) 1 v4) 2 v6)))] := hD
  refine lv_aload_n hx hb dX10_append_32 rfl (lv_at hl 1 rfl) ?_
  refine lv_dup hx hb dX10_append_33 rfl ?_
  refine va_get (D := D) (ci := 10) (v := .int 2) (C := RX10) (T := TX10) (N := 2) hx hb hts iX10_append_X10 hown hK hP 0 rfl rfl 1 (by decide) (hts (.fieldLink RX10 15 "PuppetBridge$Text" "length" "I") mX10_append_w0) (fun _ h9 => h9) rfl dX10_append_34 ?_
  refine lv_iconst (v := 1) hx hb dX10_append_37 (by decide) ?_
  refine lv_iadd hx hb dX10_append_38 ?_
  refine wk_i 3 (by decide) ?_
  refine va_put (D := D) (ci := 10) (v := .int 3) (ty := (tyX10 1)) (C := RX10) (T := TX10) (N := 2) hx hb hts iX10_append_X10 tyX10 tyX10_ok nmX10 hown hK hP hD hS 0 rfl rfl 1 (by decide) (hts (.fieldLink RX10 15 "PuppetBridge$Text" "length" "I") mX10_append_w0) (fun _ h9 => h9) rfl (tyX10_ok 1 (by decide)) rfl rfl (Nat.le_of_ble_eq_true rfl) dX10_append_39 (fun H locs hP hD hS => ?_)
  have hP : va_P D vwCl [(z23, .inr (10, [.ref z24, .int 3])), (z24, .inl (G.1, 100, .inl (upd (upd (upd (fun _ => 0) 0 v2) 1 v4) 2 v6)))] H := hP
  have hD : va_D A [(z23, .inr (10, [.ref z24, .int 3])), (z24, .inl (G.1, 100, .inl (upd (upd (upd (fun _ => 0) 0 v2) 1 v4) 2 v6)))] := hD
  refine lv_iinc (v := 0) (lv' := [(2, .int 0), (0, .ref z23), (1, .int v)]) hx hb dX10_append_42 hl (k := 0) rfl (by decide) (by decide) rfl (fun ls hl => ?_)
  refine lv_goto (tgt := 3) hx hb dX10_append_45 (by decide) ?_
  refine lv_iload_n hx hb dX10_append_3 rfl (lv_at hl 0 rfl) ?_
  refine lv_if_lt (tgt := 48) hx hb dX10_append_4 (by decide) (fun h9 => absurd h9 (by decide)) (fun _ => ?_)
  refine lv_aload_n hx hb dX10_append_7 rfl (lv_at hl 1 rfl) ?_
  refine va_get (D := D) (ci := 10) (v := .int 3) (C := RX10) (T := TX10) (N := 2) hx hb hts iX10_append_X10 hown hK hP 0 rfl rfl 1 (by decide) (hts (.fieldLink RX10 15 "PuppetBridge$Text" "length" "I") mX10_append_w0) (fun _ h9 => h9) rfl dX10_append_8 ?_
  refine lv_bipush (v := 100) hx hb dX10_append_11 (by decide) ?_
  refine lv_icmp_ge (tgt := 48) hx hb dX10_append_13 (by decide) (fun h9 => absurd h9 (by decide)) (fun _ => ?_)
  refine lv_aload_n hx hb dX10_append_16 rfl (lv_at hl 1 rfl) ?_
  refine va_get (D := D) (ci := 10) (v := .ref z24) (C := RX10) (T := TX10) (N := 2) hx hb hts iX10_append_X10 hown hK hP 0 rfl rfl 0 (by decide) (hts (.fieldLink RX10 9 "PuppetBridge$Text" "signs" "[I") mX10_append_w1) (fun _ h9 => h9) rfl dX10_append_17 ?_
  refine lv_aload_n hx hb dX10_append_20 rfl (lv_at hl 1 rfl) ?_
  refine va_get (D := D) (ci := 10) (v := .int 3) (C := RX10) (T := TX10) (N := 2) hx hb hts iX10_append_X10 hown hK hP 0 rfl rfl 1 (by decide) (hts (.fieldLink RX10 15 "PuppetBridge$Text" "length" "I") mX10_append_w0) (fun _ h9 => h9) rfl dX10_append_21 ?_
  refine lv_iload_n hx hb dX10_append_24 rfl (lv_at hl 2 rfl) ?_
  refine lv_iload_n hx hb dX10_append_25 rfl (lv_at hl 0 rfl) ?_
  refine lv_iushr hx hb dX10_append_26 rfl ?_
  refine lv_topi (fun v7 ev7 => ?_)
  refine lv_sipush (v := 255) hx hb dX10_append_27 (by decide) ?_
  refine lv_iand hx hb dX10_append_30 ?_
  refine lv_topi (fun v8 ev8 => ?_)
  refine va_iast hx hb hK hP hD hS 1 0 rfl rfl (wk_in rfl) dX10_append_31 (fun H locs hP hD hS => ?_)
  have hP : va_P D vwCl [(z23, .inr (10, [.ref z24, .int 3])), (z24, .inl (G.1, 100, .inl (upd (upd (upd (upd (fun _ => 0) 0 v2) 1 v4) 2 v6) 3 v8)))] H := hP
  have hD : va_D A [(z23, .inr (10, [.ref z24, .int 3])), (z24, .inl (G.1, 100, .inl (upd (upd (upd (upd (fun _ => 0) 0 v2) 1 v4) 2 v6) 3 v8)))] := hD
  refine lv_aload_n hx hb dX10_append_32 rfl (lv_at hl 1 rfl) ?_
  refine lv_dup hx hb dX10_append_33 rfl ?_
  refine va_get (D := D) (ci := 10) (v := .int 3) (C := RX10) (T := TX10) (N := 2) hx hb hts iX10_append_X10 hown hK hP 0 rfl rfl 1 (by decide) (hts (.fieldLink RX10 15 "PuppetBridge$Text" "length" "I") mX10_append_w0) (fun _ h9 => h9) rfl dX10_append_34 ?_
  refine lv_iconst (v := 1) hx hb dX10_append_37 (by decide) ?_
  refine lv_iadd hx hb dX10_append_38 ?_
  refine wk_i 4 (by decide) ?_
  refine va_put (D := D) (ci := 10) (v := .int 4) (ty := (tyX10 1)) (C := RX10) (T := TX10) (N := 2) hx hb hts iX10_append_X10 tyX10 tyX10_ok nmX10 hown hK hP hD hS 0 rfl rfl 1 (by decide) (hts (.fieldLink RX10 15 "PuppetBridge$Text" "length" "I") mX10_append_w0) (fun _ h9 => h9) rfl (tyX10_ok 1 (by decide)) rfl rfl (Nat.le_of_ble_eq_true rfl) dX10_append_39 (fun H locs hP hD hS => ?_)
  have hP : va_P D vwCl [(z23, .inr (10, [.ref z24, .int 4])), (z24, .inl (G.1, 100, .inl (upd (upd (upd (upd (fun _ => 0) 0 v2) 1 v4) 2 v6) 3 v8)))] H := hP
  have hD : va_D A [(z23, .inr (10, [.ref z24, .int 4])), (z24, .inl (G.1, 100, .inl (upd (upd (upd (upd (fun _ => 0) 0 v2) 1 v4) 2 v6) 3 v8)))] := hD
  refine lv_iinc (v := (-8)) (lv' := [(2, .int (-8)), (0, .ref z23), (1, .int v)]) hx hb dX10_append_42 hl (k := 0) rfl (by decide) (by decide) rfl (fun ls hl => ?_)
  refine lv_goto (tgt := 3) hx hb dX10_append_45 (by decide) ?_
  refine lv_iload_n hx hb dX10_append_3 rfl (lv_at hl 0 rfl) ?_
  refine lv_if_lt (tgt := 48) hx hb dX10_append_4 (by decide) (fun _ => ?_) (fun h9 => absurd h9 (by decide))
  have hP9 := hP.sub (ws' := [(z23, .inr (10, [.ref z24, .int 4]))]) [0] rfl
  have hD9 := hD.sub (ws' := [(z23, .inr (10, [.ref z24, .int 4]))]) [0] (by decide) rfl
  exact W.vret hx hb hr (fun t ht hW => ⟨⟨(), rfl, trivial, ⟨by rw [ht]; exact hP9, va_K.moved hW.alike hK, hD9⟩⟩, hS.F ht⟩) hS.2.2 dX10_append_48

theorem mX11_sign_w0 : Cond.fieldLink RX11 19 "PuppetBridge" "text" "LPuppetBridge$Text;" ∈ wsX11_sign := by decide +kernel
theorem mX11_sign_w1 : Cond.fieldLink RX11 191 "PuppetBridge$Text" "length" "I" ∈ wsX11_sign := by decide +kernel
theorem iX11_sign_X10 : ∀ w ∈ wsX100, w ∈ wsX11_sign := fun _ h => List.mem_cons_of_mem _ (List.mem_append_right _ h)
theorem iX11_sign_X11 : ∀ w ∈ wsX110, w ∈ wsX11_sign := fun _ h => List.mem_cons_of_mem _ (List.mem_append_left _ (List.mem_append_right _ h))
set_option maxRecDepth 20000 in
theorem ggX11_sign_X10_append : GoodIn wsX11_sign wsX10_append := goodIn_r _ [7, 8, 9, 18, 19] (by decide +kernel) (by decide +kernel)
set_option maxRecDepth 20000 in
theorem gX11_sign_X10_append : GoodIn wsX11_sign (wsV RX11 194 RX10 yX10_append wsX10_append) := goodIn_app (goodIn_of _ (by decide +kernel)) ggX11_sign_X10_append
theorem dX11_sign_0 : decode cX11_sign 0 = .ok (.aload_n 0, 1) := by decide +kernel
theorem dX11_sign_1 : decode cX11_sign 1 = .ok (.getfield 19, 3) := by decide +kernel
theorem dX11_sign_4 : decode cX11_sign 4 = .ok (.getfield 191, 3) := by decide +kernel
theorem dX11_sign_7 : decode cX11_sign 7 = .ok (.iconst 4, 1) := by decide +kernel
theorem dX11_sign_8 : decode cX11_sign 8 = .ok (.iadd, 1) := by decide +kernel
theorem dX11_sign_9 : decode cX11_sign 9 = .ok (.bipush 100, 2) := by decide +kernel
theorem dX11_sign_11 : decode cX11_sign 11 = .ok (.if_icmp .le 5, 3) := by decide +kernel
theorem dX11_sign_16 : decode cX11_sign 16 = .ok (.aload_n 0, 1) := by decide +kernel
theorem dX11_sign_17 : decode cX11_sign 17 = .ok (.getfield 19, 3) := by decide +kernel
theorem dX11_sign_20 : decode cX11_sign 20 = .ok (.iload_n 1, 1) := by decide +kernel
theorem dX11_sign_21 : decode cX11_sign 21 = .ok (.invokevirtual 194, 3) := by decide +kernel
theorem dX11_sign_24 : decode cX11_sign 24 = .ok (.aload_n 0, 1) := by decide +kernel
theorem dX11_sign_25 : decode cX11_sign 25 = .ok (.getfield 19, 3) := by decide +kernel
theorem dX11_sign_28 : decode cX11_sign 28 = .ok (.getfield 191, 3) := by decide +kernel
theorem dX11_sign_31 : decode cX11_sign 31 = .ok (.ireturn, 1) := by decide +kernel
set_option maxHeartbeats 4000000 in
set_option maxRecDepth 100000 in
/-- X11_sign -/
theorem kX11_sign (l : Launch) (D : va_G) (G : tyG) (h0 : Nat) (x1 : Int32) (z0 : Nat) (z23 : Nat) (z25 : Nat) (z32 : Nat) (z36 : Nat) (z40 : Nat) (z43 : Nat) (z49 : Nat) (z24 : Nat) (sz : Nat) : Met l yX11_sign wsX11_sign ({ frames := 1, cells := 0, slots := 0, locals := 22 }) (va_Pc [.ref h0, .int x1] (wB D G sz [(h0, .inr (11, [.ref z0, .ref z23, .ref z25, .ref z32, .ref z36, .ref z40, .ref z43, .ref z49])), (z23, .inr (10, [.ref z24, .int 0])), (z24, .inl (G.1, 100, .inl (fun _ => 0)))])) (va_Qi (fun (r : Int32) (_ : Unit) => r = 4) (fun _ _ => True) (va_A [(h0, .inr (11, [.ref z0, .ref z23, .ref z25, .ref z32, .ref z36, .ref z40, .ref z43, .ref z49])), (z23, .inr (10, [.ref z24, .int 0])), (z24, .inl (G.1, 100, .inl (fun _ => 0)))] sz)) 0 0 (va_A [(h0, .inr (11, [.ref z0, .ref z23, .ref z25, .ref z32, .ref z36, .ref z40, .ref z43, .ref z49])), (z23, .inr (10, [.ref z24, .int 0])), (z24, .inl (G.1, 100, .inl (fun _ => 0)))] sz) := by
  refine Met.ofW (cc := cX11_sign) (maxL := 2) (ret := (some .int)) (by decide) rfl ?_
  intro p e s m args below meth c s₁ B hml hv
  obtain ⟨rfl, hsz, hP, hK, hD0, hN⟩ := hv
  have hx := B.exec
  have hb := B.bytes
  have hr := B.returns
  have hts := atoms_spec (ws := wsX11_sign) B.pre
  have hown : s.vm.findClass RX11 = some m.cls := findClass_of_methodNamed B.named
  have hlocks := B.notSynchronized
  subst hsz
  have hD := hD0.self (sz := s.heap.size)
  generalize hAe : va_A [(h0, .inr (11, [.ref z0, .ref z23, .ref z25, .ref z32, .ref z36, .ref z40, .ref z43, .ref z49])), (z23, .inr (10, [.ref z24, .int 0])), (z24, .inl (G.1, 100, .inl (fun _ => 0)))] s.heap.size = A at hD ⊢
  have hA : ∀ q : Nat, s.heap.size ≤ q → A q := fun q h => by rw [← hAe]; exact Or.inr h
  have hS : va_S A s.heap s.heap [] := va_S.rf
  have hP : va_P D vwCl [(h0, .inr (11, [.ref z0, .ref z23, .ref z25, .ref z32, .ref z36, .ref z40, .ref z43, .ref z49])), (z23, .inr (10, [.ref z24, .int 0])), (z24, .inl (G.1, 100, .inl (fun _ => 0)))] s.heap := hP
  have hl := lv_entry ([.ref h0, .int x1]) (n := 2) (Nat.le_of_ble_eq_true rfl)
  rw [lg_entry_eq]
  generalize (lg_sl ([.ref h0, .int x1]) ++ List.replicate (2 - (lg_sl ([.ref h0, .int x1])).length) Slot.unset).toArray = ls at hl ⊢
  have hl : lv_has ls 2 [(0, .ref h0), (1, .int x1)] := hl
  refine lv_aload_n hx hb dX11_sign_0 rfl (lv_at hl 0 rfl) ?_
  refine va_get (D := D) (ci := 11) (v := .ref z23) (C := RX11) (T := TX11) (N := 8) hx hb hts iX11_sign_X11 hown hK hP 0 rfl rfl 1 (by decide) (hts (.fieldLink RX11 19 "PuppetBridge" "text" "LPuppetBridge$Text;") mX11_sign_w0) (fun _ h9 => h9) rfl dX11_sign_1 ?_
  refine va_get (D := D) (ci := 10) (v := .int 0) (C := RX10) (T := TX10) (N := 2) hx hb hts iX11_sign_X10 hown hK hP 1 rfl rfl 1 (by decide) (hts (.fieldLink RX11 191 "PuppetBridge$Text" "length" "I") mX11_sign_w1) (fun _ h9 => h9) rfl dX11_sign_4 ?_
  refine lv_iconst (v := 4) hx hb dX11_sign_7 (by decide) ?_
  refine lv_iadd hx hb dX11_sign_8 ?_
  refine wk_i 4 (by decide) ?_
  refine lv_bipush (v := 100) hx hb dX11_sign_9 (by decide) ?_
  refine lv_icmp_le (tgt := 16) hx hb dX11_sign_11 (by decide) (fun _ => ?_) (fun h9 => absurd h9 (by decide))
  refine lv_aload_n hx hb dX11_sign_16 rfl (lv_at hl 0 rfl) ?_
  refine va_get (D := D) (ci := 11) (v := .ref z23) (C := RX11) (T := TX11) (N := 8) hx hb hts iX11_sign_X11 hown hK hP 0 rfl rfl 1 (by decide) (hts (.fieldLink RX11 19 "PuppetBridge" "text" "LPuppetBridge$Text;") mX11_sign_w0) (fun _ h9 => h9) rfl dX11_sign_17 ?_
  refine lv_iload_n hx hb dX11_sign_20 rfl (lv_at hl 1 rfl) ?_
  have hPc := hP.sub (ws' := [(z23, .inr (10, [.ref z24, .int 0])), (z24, .inl (G.1, 100, .inl (fun _ => 0)))]) [1, 2] rfl
  have hDc := hD.sub (ws' := [(z23, .inr (10, [.ref z24, .int 0])), (z24, .inl (G.1, 100, .inl (fun _ => 0)))]) [1, 2] (by decide) rfl
  have hFc := va_free (wc := [(z23, .inr (10, [.ref z24, .int 0])), (z24, .inl (G.1, 100, .inl (fun _ => 0)))]) hD hS hA [1, 2] rfl
  refine va_callv (va_runV (As := [.int x1]) (rest := []) ⟨hx, hb, hml, hown, hts⟩ (kX10_append l D G z23 x1 z24 s.heap.size) (cwV 1 hts gX11_sign_X10_append rfl rfl rfl (by decide +kernel) ⟨Nat.le_of_ble_eq_true rfl, Nat.le_of_ble_eq_true rfl⟩) ⟨wB_blind, va_recv hK hPc (ci := 10) (q0 := 0) rfl rfl, wB_pre hPc hK hDc hN⟩ rfl rfl hl.1 rfl (lv_room (Nat.le_of_ble_eq_true rfl)) dX11_sign_21 ⟨Nat.le_of_ble_eq_true rfl, Nat.le_of_ble_eq_true rfl⟩) hS (fun q _ h => hFc q h) hFc (fun u t H1 locs ht hvm hr1 hB hz1 hk1 hS => ?_)
  obtain ⟨hP1, hK1, hD1⟩ := hB
  rw [ht] at hP1
  obtain ⟨hP, hD⟩ := va_join (wr := [(h0, .inr (11, [.ref z0, .ref z23, .ref z25, .ref z32, .ref z36, .ref z40, .ref z43, .ref z49]))]) (w1 := [(z23, .inr (10, [.ref z24, .int 4]))]) hP hD [1, 2] [0] rfl rfl (by decide) (by decide) hk1 hFc hP1 hD1
  clear hPc hDc
  generalize H1 = H at hP hS ⊢
  have hP : va_P D vwCl [(h0, .inr (11, [.ref z0, .ref z23, .ref z25, .ref z32, .ref z36, .ref z40, .ref z43, .ref z49])), (z23, .inr (10, [.ref z24, .int 4]))] H := hP
  have hD : va_D A [(h0, .inr (11, [.ref z0, .ref z23, .ref z25, .ref z32, .ref z36, .ref z40, .ref z43, .ref z49])), (z23, .inr (10, [.ref z24, .int 4]))] := hD
  refine lv_aload_n hx hb dX11_sign_24 rfl (lv_at hl 0 rfl) ?_
  refine va_get (D := D) (ci := 11) (v := .ref z23) (C := RX11) (T := TX11) (N := 8) hx hb hts iX11_sign_X11 hown hK hP 0 rfl rfl 1 (by decide) (hts (.fieldLink RX11 19 "PuppetBridge" "text" "LPuppetBridge$Text;") mX11_sign_w0) (fun _ h9 => h9) rfl dX11_sign_25 ?_
  refine va_get (D := D) (ci := 10) (v := .int 4) (C := RX10) (T := TX10) (N := 2) hx hb hts iX11_sign_X10 hown hK hP 1 rfl rfl 1 (by decide) (hts (.fieldLink RX11 191 "PuppetBridge$Text" "length" "I") mX11_sign_w1) (fun _ h9 => h9) rfl dX11_sign_28 ?_
  exact W.iret (v := 4) hx hb hr (fun t ht hW => ⟨⟨4, (), rfl, rfl, trivial⟩, hS.F ht⟩) hS.2.2 dX11_sign_31

theorem mX8_rewind_w0 : Cond.fieldLink RX8 49 "PuppetBridge$Stage" "beat" "I" ∈ wsX8_rewind := by decide +kernel
theorem mX8_rewind_w1 : Cond.fieldLink RX8 46 "PuppetBridge$Stage" "count" "I" ∈ wsX8_rewind := by decide +kernel
theorem mX8_rewind_w3 : Cond.fieldLink RX8 25 "PuppetBridge$Stage" "meetings" "[I" ∈ wsX8_rewind := by decide +kernel
theorem mX8_rewind_w4 : Cond.fieldLink RX8 29 "PuppetBridge$Stage" "together" "[Z" ∈ wsX8_rewind := by decide +kernel
theorem iX8_rewind_X8 : ∀ w ∈ wsX80, w ∈ wsX8_rewind := fun _ h => List.mem_cons_of_mem _ (List.mem_append_left _ (List.mem_append_left _ (List.mem_append_right _ h)))
theorem dX8_rewind_0 : decode cX8_rewind 0 = .ok (.aload_n 0, 1) := by decide +kernel
theorem dX8_rewind_1 : decode cX8_rewind 1 = .ok (.iconst 0, 1) := by decide +kernel
theorem dX8_rewind_2 : decode cX8_rewind 2 = .ok (.putfield 49, 3) := by decide +kernel
theorem dX8_rewind_5 : decode cX8_rewind 5 = .ok (.iconst 0, 1) := by decide +kernel
theorem dX8_rewind_6 : decode cX8_rewind 6 = .ok (.istore_n 1, 1) := by decide +kernel
theorem dX8_rewind_7 : decode cX8_rewind 7 = .ok (.iload_n 1, 1) := by decide +kernel
theorem dX8_rewind_8 : decode cX8_rewind 8 = .ok (.aload_n 0, 1) := by decide +kernel
theorem dX8_rewind_9 : decode cX8_rewind 9 = .ok (.getfield 46, 3) := by decide +kernel
theorem dX8_rewind_12 : decode cX8_rewind 12 = .ok (.if_icmp .ge 18, 3) := by decide +kernel
theorem dX8_rewind_30 : decode cX8_rewind 30 = .ok (.iconst 0, 1) := by decide +kernel
theorem dX8_rewind_31 : decode cX8_rewind 31 = .ok (.istore_n 1, 1) := by decide +kernel
theorem dX8_rewind_32 : decode cX8_rewind 32 = .ok (.iload_n 1, 1) := by decide +kernel
theorem dX8_rewind_33 : decode cX8_rewind 33 = .ok (.bipush 16, 2) := by decide +kernel
theorem dX8_rewind_35 : decode cX8_rewind 35 = .ok (.if_icmp .ge 23, 3) := by decide +kernel
theorem dX8_rewind_38 : decode cX8_rewind 38 = .ok (.aload_n 0, 1) := by decide +kernel
theorem dX8_rewind_39 : decode cX8_rewind 39 = .ok (.getfield 25, 3) := by decide +kernel
theorem dX8_rewind_42 : decode cX8_rewind 42 = .ok (.iload_n 1, 1) := by decide +kernel
theorem dX8_rewind_43 : decode cX8_rewind 43 = .ok (.iconst 0, 1) := by decide +kernel
theorem dX8_rewind_44 : decode cX8_rewind 44 = .ok (.iastore, 1) := by decide +kernel
theorem dX8_rewind_45 : decode cX8_rewind 45 = .ok (.aload_n 0, 1) := by decide +kernel
theorem dX8_rewind_46 : decode cX8_rewind 46 = .ok (.getfield 29, 3) := by decide +kernel
theorem dX8_rewind_49 : decode cX8_rewind 49 = .ok (.iload_n 1, 1) := by decide +kernel
theorem dX8_rewind_50 : decode cX8_rewind 50 = .ok (.iconst 0, 1) := by decide +kernel
theorem dX8_rewind_51 : decode cX8_rewind 51 = .ok (.bastore, 1) := by decide +kernel
theorem dX8_rewind_52 : decode cX8_rewind 52 = .ok (.iinc 1 1, 3) := by decide +kernel
theorem dX8_rewind_55 : decode cX8_rewind 55 = .ok (.goto (-23), 3) := by decide +kernel
theorem dX8_rewind_58 : decode cX8_rewind 58 = .ok (.return_, 1) := by decide +kernel
set_option maxHeartbeats 4000000 in
set_option maxRecDepth 100000 in
/-- X8_rewind -/
theorem kX8_rewind (l : Launch) (D : va_G) (G : tyG) (z0 : Nat) (z1 : Nat) (z51 : Nat) (z52 : Nat) (z2 : Nat) (z3 : Nat) (sz : Nat) : Met l yX8_rewind wsX8_rewind ({ frames := 0, cells := 0, slots := 0, locals := 0 }) (va_Pc [.ref z0] (wB D G sz [(z0, .inr (8, [.ref z1, .ref z51, .ref z52, .ref z2, .ref z3, .int 0, .int 0, .int 9, .int 0, .int 0])), (z2, .inl (G.1, 16, .inl (fun _ => 0))), (z3, .inl (G.2.2.2.1, 16, .inl (fun _ => 0)))])) (va_Qv (fun _ : Unit => True) (fun _ _ => True) (va_A [(z0, .inr (8, [.ref z1, .ref z51, .ref z52, .ref z2, .ref z3, .int 0, .int 0, .int 9, .int 0, .int 0])), (z2, .inl (G.1, 16, .inl (fun _ => 0))), (z3, .inl (G.2.2.2.1, 16, .inl (fun _ => 0)))] sz)) 0 0 (va_A [(z0, .inr (8, [.ref z1, .ref z51, .ref z52, .ref z2, .ref z3, .int 0, .int 0, .int 9, .int 0, .int 0])), (z2, .inl (G.1, 16, .inl (fun _ => 0))), (z3, .inl (G.2.2.2.1, 16, .inl (fun _ => 0)))] sz) := by
  refine Met.ofW (cc := cX8_rewind) (maxL := 2) (ret := none) (by decide) rfl ?_
  intro p e s m args below meth c s₁ B hml hv
  obtain ⟨rfl, hsz, hP, hK, hD0, hN⟩ := hv
  have hx := B.exec
  have hb := B.bytes
  have hr := B.returns
  have hts := atoms_spec (ws := wsX8_rewind) B.pre
  have hown : s.vm.findClass RX8 = some m.cls := findClass_of_methodNamed B.named
  have hlocks := B.notSynchronized
  subst hsz
  have hD := hD0.self (sz := s.heap.size)
  generalize hAe : va_A [(z0, .inr (8, [.ref z1, .ref z51, .ref z52, .ref z2, .ref z3, .int 0, .int 0, .int 9, .int 0, .int 0])), (z2, .inl (G.1, 16, .inl (fun _ => 0))), (z3, .inl (G.2.2.2.1, 16, .inl (fun _ => 0)))] s.heap.size = A at hD ⊢
  have hA : ∀ q : Nat, s.heap.size ≤ q → A q := fun q h => by rw [← hAe]; exact Or.inr h
  have hS : va_S A s.heap s.heap [] := va_S.rf
  have hP : va_P D vwCl [(z0, .inr (8, [.ref z1, .ref z51, .ref z52, .ref z2, .ref z3, .int 0, .int 0, .int 9, .int 0, .int 0])), (z2, .inl (G.1, 16, .inl (fun _ => 0))), (z3, .inl (G.2.2.2.1, 16, .inl (fun _ => 0)))] s.heap := hP
  have hl := lv_entry ([.ref z0]) (n := 2) (Nat.le_of_ble_eq_true rfl)
  rw [lg_entry_eq]
  generalize (lg_sl ([.ref z0]) ++ List.replicate (2 - (lg_sl ([.ref z0])).length) Slot.unset).toArray = ls at hl ⊢
  have hl : lv_has ls 2 [(0, .ref z0)] := hl
  refine lv_aload_n hx hb dX8_rewind_0 rfl (lv_at hl 0 rfl) ?_
  refine lv_iconst (v := 0) hx hb dX8_rewind_1 (by decide) ?_
  refine va_put (D := D) (ci := 8) (v := .int 0) (ty := (tyX8 6)) (C := RX8) (T := TX8) (N := 10) hx hb hts iX8_rewind_X8 tyX8 tyX8_ok nmX8 hown hK hP hD hS 0 rfl rfl 6 (by decide) (hts (.fieldLink RX8 49 "PuppetBridge$Stage" "beat" "I") mX8_rewind_w0) (fun _ h9 => h9) rfl (tyX8_ok 6 (by decide)) rfl rfl (Nat.le_of_ble_eq_true rfl) dX8_rewind_2 (fun H locs hP hD hS => ?_)
  have hP : va_P D vwCl [(z0, .inr (8, [.ref z1, .ref z51, .ref z52, .ref z2, .ref z3, .int 0, .int 0, .int 9, .int 0, .int 0])), (z2, .inl (G.1, 16, .inl (fun _ => 0))), (z3, .inl (G.2.2.2.1, 16, .inl (fun _ => 0)))] H := hP
  have hD : va_D A [(z0, .inr (8, [.ref z1, .ref z51, .ref z52, .ref z2, .ref z3, .int 0, .int 0, .int 9, .int 0, .int 0])), (z2, .inl (G.1, 16, .inl (fun _ => 0))), (z3, .inl (G.2.2.2.1, 16, .inl (fun _ => 0)))] := hD
  refine lv_iconst (v := 0) hx hb dX8_rewind_5 (by decide) ?_
  refine lv_istore_n (lv' := [(1, .int 0), (0, .ref z0)]) hx hb dX8_rewind_6 rfl hl (by decide) rfl (fun ls hl => ?_)
  refine lv_iload_n hx hb dX8_rewind_7 rfl (lv_at hl 0 rfl) ?_
  refine lv_aload_n hx hb dX8_rewind_8 rfl (lv_at hl 1 rfl) ?_
  refine va_get (D := D) (ci := 8) (v := .int 0) (C := RX8) (T := TX8) (N := 10) hx hb hts iX8_rewind_X8 hown hK hP 0 rfl rfl 5 (by decide) (hts (.fieldLink RX8 46 "PuppetBridge$Stage" "count" "I") mX8_rewind_w1) (fun _ h9 => h9) rfl dX8_rewind_9 ?_
  refine lv_icmp_ge (tgt := 30) hx hb dX8_rewind_12 (by decide) (fun _ => ?_) (fun h9 => absurd h9 (by decide))
  refine lv_iconst (v := 0) hx hb dX8_rewind_30 (by decide) ?_
  refine lv_istore_n (lv' := [(1, .int 0), (0, .ref z0)]) hx hb dX8_rewind_31 rfl hl (by decide) rfl (fun ls hl => ?_)
  refine lv_iload_n hx hb dX8_rewind_32 rfl (lv_at hl 0 rfl) ?_
  refine lv_bipush (v := 16) hx hb dX8_rewind_33 (by decide) ?_
  refine lv_icmp_ge (tgt := 58) hx hb dX8_rewind_35 (by decide) (fun h9 => absurd h9 (by decide)) (fun _ => ?_)
  refine lv_aload_n hx hb dX8_rewind_38 rfl (lv_at hl 1 rfl) ?_
  refine va_get (D := D) (ci := 8) (v := .ref z2) (C := RX8) (T := TX8) (N := 10) hx hb hts iX8_rewind_X8 hown hK hP 0 rfl rfl 3 (by decide) (hts (.fieldLink RX8 25 "PuppetBridge$Stage" "meetings" "[I") mX8_rewind_w3) (fun _ h9 => h9) rfl dX8_rewind_39 ?_
  refine lv_iload_n hx hb dX8_rewind_42 rfl (lv_at hl 0 rfl) ?_
  refine lv_iconst (v := 0) hx hb dX8_rewind_43 (by decide) ?_
  refine va_iast hx hb hK hP hD hS 1 0 rfl rfl (wk_in rfl) dX8_rewind_44 (fun H locs hP hD hS => ?_)
  have hP : va_P D vwCl [(z0, .inr (8, [.ref z1, .ref z51, .ref z52, .ref z2, .ref z3, .int 0, .int 0, .int 9, .int 0, .int 0])), (z2, .inl (G.1, 16, .inl (upd (fun _ => 0) 0 0))), (z3, .inl (G.2.2.2.1, 16, .inl (fun _ => 0)))] H := hP
  have hD : va_D A [(z0, .inr (8, [.ref z1, .ref z51, .ref z52, .ref z2, .ref z3, .int 0, .int 0, .int 9, .int 0, .int 0])), (z2, .inl (G.1, 16, .inl (upd (fun _ => 0) 0 0))), (z3, .inl (G.2.2.2.1, 16, .inl (fun _ => 0)))] := hD
  refine lv_aload_n hx hb dX8_rewind_45 rfl (lv_at hl 1 rfl) ?_
  refine va_get (D := D) (ci := 8) (v := .ref z3) (C := RX8) (T := TX8) (N := 10) hx hb hts iX8_rewind_X8 hown hK hP 0 rfl rfl 4 (by decide) (hts (.fieldLink RX8 29 "PuppetBridge$Stage" "together" "[Z") mX8_rewind_w4) (fun _ h9 => h9) rfl dX8_rewind_46 ?_
  refine lv_iload_n hx hb dX8_rewind_49 rfl (lv_at hl 0 rfl) ?_
  refine lv_iconst (v := 0) hx hb dX8_rewind_50 (by decide) ?_
  refine va_zast hx hb hK hP hD hS 2 3 rfl rfl (wk_in rfl) dX8_rewind_51 (fun H locs hP hD hS => ?_)
  have hP : va_P D vwCl [(z0, .inr (8, [.ref z1, .ref z51, .ref z52, .ref z2, .ref z3, .int 0, .int 0, .int 9, .int 0, .int 0])), (z2, .inl (G.1, 16, .inl (upd (fun _ => 0) 0 0))), (z3, .inl (G.2.2.2.1, 16, .inl (upd (fun _ => 0) 0 0)))] H := hP
  have hD : va_D A [(z0, .inr (8, [.ref z1, .ref z51, .ref z52, .ref z2, .ref z3, .int 0, .int 0, .int 9, .int 0, .int 0])), (z2, .inl (G.1, 16, .inl (upd (fun _ => 0) 0 0))), (z3, .inl (G.2.2.2.1, 16, .inl (upd (fun _ => 0) 0 0)))] := hD
  refine lv_iinc (v := 1) (lv' := [(1, .int 1), (0, .ref z0)]) hx hb dX8_rewind_52 hl (k := 0) rfl (by decide) (by decide) rfl (fun ls hl => ?_)
  refine lv_goto (tgt := 32) hx hb dX8_rewind_55 (by decide) ?_
  refine lv_iload_n hx hb dX8_rewind_32 rfl (lv_at hl 0 rfl) ?_
  refine lv_bipush (v := 16) hx hb dX8_rewind_33 (by decide) ?_
  refine lv_icmp_ge (tgt := 58) hx hb dX8_rewind_35 (by decide) (fun h9 => absurd h9 (by decide)) (fun _ => ?_)
  refine lv_aload_n hx hb dX8_rewind_38 rfl (lv_at hl 1 rfl) ?_
  refine va_get (D := D) (ci := 8) (v := .ref z2) (C := RX8) (T := TX8) (N := 10) hx hb hts iX8_rewind_X8 hown hK hP 0 rfl rfl 3 (by decide) (hts (.fieldLink RX8 25 "PuppetBridge$Stage" "meetings" "[I") mX8_rewind_w3) (fun _ h9 => h9) rfl dX8_rewind_39 ?_
  refine lv_iload_n hx hb dX8_rewind_42 rfl (lv_at hl 0 rfl) ?_
  refine lv_iconst (v := 0) hx hb dX8_rewind_43 (by decide) ?_
  refine va_iast hx hb hK hP hD hS 1 0 rfl rfl (wk_in rfl) dX8_rewind_44 (fun H locs hP hD hS => ?_)
  have hP : va_P D vwCl [(z0, .inr (8, [.ref z1, .ref z51, .ref z52, .ref z2, .ref z3, .int 0, .int 0, .int 9, .int 0, .int 0])), (z2, .inl (G.1, 16, .inl (upd (upd (fun _ => 0) 0 0) 1 0))), (z3, .inl (G.2.2.2.1, 16, .inl (upd (fun _ => 0) 0 0)))] H := hP
  have hD : va_D A [(z0, .inr (8, [.ref z1, .ref z51, .ref z52, .ref z2, .ref z3, .int 0, .int 0, .int 9, .int 0, .int 0])), (z2, .inl (G.1, 16, .inl (upd (upd (fun _ => 0) 0 0) 1 0))), (z3, .inl (G.2.2.2.1, 16, .inl (upd (fun _ => 0) 0 0)))] := hD
  refine lv_aload_n hx hb dX8_rewind_45 rfl (lv_at hl 1 rfl) ?_
  refine va_get (D := D) (ci := 8) (v := .ref z3) (C := RX8) (T := TX8) (N := 10) hx hb hts iX8_rewind_X8 hown hK hP 0 rfl rfl 4 (by decide) (hts (.fieldLink RX8 29 "PuppetBridge$Stage" "together" "[Z") mX8_rewind_w4) (fun _ h9 => h9) rfl dX8_rewind_46 ?_
  refine lv_iload_n hx hb dX8_rewind_49 rfl (lv_at hl 0 rfl) ?_
  refine lv_iconst (v := 0) hx hb dX8_rewind_50 (by decide) ?_
  refine va_zast hx hb hK hP hD hS 2 3 rfl rfl (wk_in rfl) dX8_rewind_51 (fun H locs hP hD hS => ?_)
  have hP : va_P D vwCl [(z0, .inr (8, [.ref z1, .ref z51, .ref z52, .ref z2, .ref z3, .int 0, .int 0, .int 9, .int 0, .int 0])), (z2, .inl (G.1, 16, .inl (upd (upd (fun _ => 0) 0 0) 1 0))), (z3, .inl (G.2.2.2.1, 16, .inl (upd (upd (fun _ => 0) 0 0) 1 0)))] H := hP
  have hD : va_D A [(z0, .inr (8, [.ref z1, .ref z51, .ref z52, .ref z2, .ref z3, .int 0, .int 0, .int 9, .int 0, .int 0])), (z2, .inl (G.1, 16, .inl (upd (upd (fun _ => 0) 0 0) 1 0))), (z3, .inl (G.2.2.2.1, 16, .inl (upd (upd (fun _ => 0) 0 0) 1 0)))] := hD
  refine lv_iinc (v := 2) (lv' := [(1, .int 2), (0, .ref z0)]) hx hb dX8_rewind_52 hl (k := 0) rfl (by decide) (by decide) rfl (fun ls hl => ?_)
  refine lv_goto (tgt := 32) hx hb dX8_rewind_55 (by decide) ?_
  refine lv_iload_n hx hb dX8_rewind_32 rfl (lv_at hl 0 rfl) ?_
  refine lv_bipush (v := 16) hx hb dX8_rewind_33 (by decide) ?_
  refine lv_icmp_ge (tgt := 58) hx hb dX8_rewind_35 (by decide) (fun h9 => absurd h9 (by decide)) (fun _ => ?_)
  refine lv_aload_n hx hb dX8_rewind_38 rfl (lv_at hl 1 rfl) ?_
  refine va_get (D := D) (ci := 8) (v := .ref z2) (C := RX8) (T := TX8) (N := 10) hx hb hts iX8_rewind_X8 hown hK hP 0 rfl rfl 3 (by decide) (hts (.fieldLink RX8 25 "PuppetBridge$Stage" "meetings" "[I") mX8_rewind_w3) (fun _ h9 => h9) rfl dX8_rewind_39 ?_
  refine lv_iload_n hx hb dX8_rewind_42 rfl (lv_at hl 0 rfl) ?_
  refine lv_iconst (v := 0) hx hb dX8_rewind_43 (by decide) ?_
  refine va_iast hx hb hK hP hD hS 1 0 rfl rfl (wk_in rfl) dX8_rewind_44 (fun H locs hP hD hS => ?_)
  have hP : va_P D vwCl [(z0, .inr (8, [.ref z1, .ref z51, .ref z52, .ref z2, .ref z3, .int 0, .int 0, .int 9, .int 0, .int 0])), (z2, .inl (G.1, 16, .inl (upd (upd (upd (fun _ => 0) 0 0) 1 0) 2 0))), (z3, .inl (G.2.2.2.1, 16, .inl (upd (upd (fun _ => 0) 0 0) 1 0)))] H := hP
  have hD : va_D A [(z0, .inr (8, [.ref z1, .ref z51, .ref z52, .ref z2, .ref z3, .int 0, .int 0, .int 9, .int 0, .int 0])), (z2, .inl (G.1, 16, .inl (upd (upd (upd (fun _ => 0) 0 0) 1 0) 2 0))), (z3, .inl (G.2.2.2.1, 16, .inl (upd (upd (fun _ => 0) 0 0) 1 0)))] := hD
  refine lv_aload_n hx hb dX8_rewind_45 rfl (lv_at hl 1 rfl) ?_
  refine va_get (D := D) (ci := 8) (v := .ref z3) (C := RX8) (T := TX8) (N := 10) hx hb hts iX8_rewind_X8 hown hK hP 0 rfl rfl 4 (by decide) (hts (.fieldLink RX8 29 "PuppetBridge$Stage" "together" "[Z") mX8_rewind_w4) (fun _ h9 => h9) rfl dX8_rewind_46 ?_
  refine lv_iload_n hx hb dX8_rewind_49 rfl (lv_at hl 0 rfl) ?_
  refine lv_iconst (v := 0) hx hb dX8_rewind_50 (by decide) ?_
  refine va_zast hx hb hK hP hD hS 2 3 rfl rfl (wk_in rfl) dX8_rewind_51 (fun H locs hP hD hS => ?_)
  have hP : va_P D vwCl [(z0, .inr (8, [.ref z1, .ref z51, .ref z52, .ref z2, .ref z3, .int 0, .int 0, .int 9, .int 0, .int 0])), (z2, .inl (G.1, 16, .inl (upd (upd (upd (fun _ => 0) 0 0) 1 0) 2 0))), (z3, .inl (G.2.2.2.1, 16, .inl (upd (upd (upd (fun _ => 0) 0 0) 1 0) 2 0)))] H := hP
  have hD : va_D A [(z0, .inr (8, [.ref z1, .ref z51, .ref z52, .ref z2, .ref z3, .int 0, .int 0, .int 9, .int 0, .int 0])), (z2, .inl (G.1, 16, .inl (upd (upd (upd (fun _ => 0) 0 0) 1 0) 2 0))), (z3, .inl (G.2.2.2.1, 16, .inl (upd (upd (upd (fun _ => 0) 0 0) 1 0) 2 0)))] := hD
  refine lv_iinc (v := 3) (lv' := [(1, .int 3), (0, .ref z0)]) hx hb dX8_rewind_52 hl (k := 0) rfl (by decide) (by decide) rfl (fun ls hl => ?_)
  refine lv_goto (tgt := 32) hx hb dX8_rewind_55 (by decide) ?_
  refine lv_iload_n hx hb dX8_rewind_32 rfl (lv_at hl 0 rfl) ?_
  refine lv_bipush (v := 16) hx hb dX8_rewind_33 (by decide) ?_
  refine lv_icmp_ge (tgt := 58) hx hb dX8_rewind_35 (by decide) (fun h9 => absurd h9 (by decide)) (fun _ => ?_)
  refine lv_aload_n hx hb dX8_rewind_38 rfl (lv_at hl 1 rfl) ?_
  refine va_get (D := D) (ci := 8) (v := .ref z2) (C := RX8) (T := TX8) (N := 10) hx hb hts iX8_rewind_X8 hown hK hP 0 rfl rfl 3 (by decide) (hts (.fieldLink RX8 25 "PuppetBridge$Stage" "meetings" "[I") mX8_rewind_w3) (fun _ h9 => h9) rfl dX8_rewind_39 ?_
  refine lv_iload_n hx hb dX8_rewind_42 rfl (lv_at hl 0 rfl) ?_
  refine lv_iconst (v := 0) hx hb dX8_rewind_43 (by decide) ?_
  refine va_iast hx hb hK hP hD hS 1 0 rfl rfl (wk_in rfl) dX8_rewind_44 (fun H locs hP hD hS => ?_)
  have hP : va_P D vwCl [(z0, .inr (8, [.ref z1, .ref z51, .ref z52, .ref z2, .ref z3, .int 0, .int 0, .int 9, .int 0, .int 0])), (z2, .inl (G.1, 16, .inl (upd (upd (upd (upd (fun _ => 0) 0 0) 1 0) 2 0) 3 0))), (z3, .inl (G.2.2.2.1, 16, .inl (upd (upd (upd (fun _ => 0) 0 0) 1 0) 2 0)))] H := hP
  have hD : va_D A [(z0, .inr (8, [.ref z1, .ref z51, .ref z52, .ref z2, .ref z3, .int 0, .int 0, .int 9, .int 0, .int 0])), (z2, .inl (G.1, 16, .inl (upd (upd (upd (upd (fun _ => 0) 0 0) 1 0) 2 0) 3 0))), (z3, .inl (G.2.2.2.1, 16, .inl (upd (upd (upd (fun _ => 0) 0 0) 1 0) 2 0)))] := hD
  refine lv_aload_n hx hb dX8_rewind_45 rfl (lv_at hl 1 rfl) ?_
  refine va_get (D := D) (ci := 8) (v := .ref z3) (C := RX8) (T := TX8) (N := 10) hx hb hts iX8_rewind_X8 hown hK hP 0 rfl rfl 4 (by decide) (hts (.fieldLink RX8 29 "PuppetBridge$Stage" "together" "[Z") mX8_rewind_w4) (fun _ h9 => h9) rfl dX8_rewind_46 ?_
  refine lv_iload_n hx hb dX8_rewind_49 rfl (lv_at hl 0 rfl) ?_
  refine lv_iconst (v := 0) hx hb dX8_rewind_50 (by decide) ?_
  refine va_zast hx hb hK hP hD hS 2 3 rfl rfl (wk_in rfl) dX8_rewind_51 (fun H locs hP hD hS => ?_)
  have hP : va_P D vwCl [(z0, .inr (8, [.ref z1, .ref z51, .ref z52, .ref z2, .ref z3, .int 0, .int 0, .int 9, .int 0, .int 0])), (z2, .inl (G.1, 16, .inl (upd (upd (upd (upd (fun _ => 0) 0 0) 1 0) 2 0) 3 0))), (z3, .inl (G.2.2.2.1, 16, .inl (upd (upd (upd (upd (fun _ => 0) 0 0) 1 0) 2 0) 3 0)))] H := hP
  have hD : va_D A [(z0, .inr (8, [.ref z1, .ref z51, .ref z52, .ref z2, .ref z3, .int 0, .int 0, .int 9, .int 0, .int 0])), (z2, .inl (G.1, 16, .inl (upd (upd (upd (upd (fun _ => 0) 0 0) 1 0) 2 0) 3 0))), (z3, .inl (G.2.2.2.1, 16, .inl (upd (upd (upd (upd (fun _ => 0) 0 0) 1 0) 2 0) 3 0)))] := hD
  refine lv_iinc (v := 4) (lv' := [(1, .int 4), (0, .ref z0)]) hx hb dX8_rewind_52 hl (k := 0) rfl (by decide) (by decide) rfl (fun ls hl => ?_)
  refine lv_goto (tgt := 32) hx hb dX8_rewind_55 (by decide) ?_
  refine lv_iload_n hx hb dX8_rewind_32 rfl (lv_at hl 0 rfl) ?_
  refine lv_bipush (v := 16) hx hb dX8_rewind_33 (by decide) ?_
  refine lv_icmp_ge (tgt := 58) hx hb dX8_rewind_35 (by decide) (fun h9 => absurd h9 (by decide)) (fun _ => ?_)
  refine lv_aload_n hx hb dX8_rewind_38 rfl (lv_at hl 1 rfl) ?_
  refine va_get (D := D) (ci := 8) (v := .ref z2) (C := RX8) (T := TX8) (N := 10) hx hb hts iX8_rewind_X8 hown hK hP 0 rfl rfl 3 (by decide) (hts (.fieldLink RX8 25 "PuppetBridge$Stage" "meetings" "[I") mX8_rewind_w3) (fun _ h9 => h9) rfl dX8_rewind_39 ?_
  refine lv_iload_n hx hb dX8_rewind_42 rfl (lv_at hl 0 rfl) ?_
  refine lv_iconst (v := 0) hx hb dX8_rewind_43 (by decide) ?_
  refine va_iast hx hb hK hP hD hS 1 0 rfl rfl (wk_in rfl) dX8_rewind_44 (fun H locs hP hD hS => ?_)
  have hP : va_P D vwCl [(z0, .inr (8, [.ref z1, .ref z51, .ref z52, .ref z2, .ref z3, .int 0, .int 0, .int 9, .int 0, .int 0])), (z2, .inl (G.1, 16, .inl (upd (upd (upd (upd (upd (fun _ => 0) 0 0) 1 0) 2 0) 3 0) 4 0))), (z3, .inl (G.2.2.2.1, 16, .inl (upd (upd (upd (upd (fun _ => 0) 0 0) 1 0) 2 0) 3 0)))] H := hP
  have hD : va_D A [(z0, .inr (8, [.ref z1, .ref z51, .ref z52, .ref z2, .ref z3, .int 0, .int 0, .int 9, .int 0, .int 0])), (z2, .inl (G.1, 16, .inl (upd (upd (upd (upd (upd (fun _ => 0) 0 0) 1 0) 2 0) 3 0) 4 0))), (z3, .inl (G.2.2.2.1, 16, .inl (upd (upd (upd (upd (fun _ => 0) 0 0) 1 0) 2 0) 3 0)))] := hD
  refine lv_aload_n hx hb dX8_rewind_45 rfl (lv_at hl 1 rfl) ?_
  refine va_get (D := D) (ci := 8) (v := .ref z3) (C := RX8) (T := TX8) (N := 10) hx hb hts iX8_rewind_X8 hown hK hP 0 rfl rfl 4 (by decide) (hts (.fieldLink RX8 29 "PuppetBridge$Stage" "together" "[Z") mX8_rewind_w4) (fun _ h9 => h9) rfl dX8_rewind_46 ?_
  refine lv_iload_n hx hb dX8_rewind_49 rfl (lv_at hl 0 rfl) ?_
  refine lv_iconst (v := 0) hx hb dX8_rewind_50 (by decide) ?_
  refine va_zast hx hb hK hP hD hS 2 3 rfl rfl (wk_in rfl) dX8_rewind_51 (fun H locs hP hD hS => ?_)
  have hP : va_P D vwCl [(z0, .inr (8, [.ref z1, .ref z51, .ref z52, .ref z2, .ref z3, .int 0, .int 0, .int 9, .int 0, .int 0])), (z2, .inl (G.1, 16, .inl (upd (upd (upd (upd (upd (fun _ => 0) 0 0) 1 0) 2 0) 3 0) 4 0))), (z3, .inl (G.2.2.2.1, 16, .inl (upd (upd (upd (upd (upd (fun _ => 0) 0 0) 1 0) 2 0) 3 0) 4 0)))] H := hP
  have hD : va_D A [(z0, .inr (8, [.ref z1, .ref z51, .ref z52, .ref z2, .ref z3, .int 0, .int 0, .int 9, .int 0, .int 0])), (z2, .inl (G.1, 16, .inl (upd (upd (upd (upd (upd (fun _ => 0) 0 0) 1 0) 2 0) 3 0) 4 0))), (z3, .inl (G.2.2.2.1, 16, .inl (upd (upd (upd (upd (upd (fun _ => 0) 0 0) 1 0) 2 0) 3 0) 4 0)))] := hD
  refine lv_iinc (v := 5) (lv' := [(1, .int 5), (0, .ref z0)]) hx hb dX8_rewind_52 hl (k := 0) rfl (by decide) (by decide) rfl (fun ls hl => ?_)
  refine lv_goto (tgt := 32) hx hb dX8_rewind_55 (by decide) ?_
  refine lv_iload_n hx hb dX8_rewind_32 rfl (lv_at hl 0 rfl) ?_
  refine lv_bipush (v := 16) hx hb dX8_rewind_33 (by decide) ?_
  refine lv_icmp_ge (tgt := 58) hx hb dX8_rewind_35 (by decide) (fun h9 => absurd h9 (by decide)) (fun _ => ?_)
  refine lv_aload_n hx hb dX8_rewind_38 rfl (lv_at hl 1 rfl) ?_
  refine va_get (D := D) (ci := 8) (v := .ref z2) (C := RX8) (T := TX8) (N := 10) hx hb hts iX8_rewind_X8 hown hK hP 0 rfl rfl 3 (by decide) (hts (.fieldLink RX8 25 "PuppetBridge$Stage" "meetings" "[I") mX8_rewind_w3) (fun _ h9 => h9) rfl dX8_rewind_39 ?_
  refine lv_iload_n hx hb dX8_rewind_42 rfl (lv_at hl 0 rfl) ?_
  refine lv_iconst (v := 0) hx hb dX8_rewind_43 (by decide) ?_
  refine va_iast hx hb hK hP hD hS 1 0 rfl rfl (wk_in rfl) dX8_rewind_44 (fun H locs hP hD hS => ?_)
  have hP : va_P D vwCl [(z0, .inr (8, [.ref z1, .ref z51, .ref z52, .ref z2, .ref z3, .int 0, .int 0, .int 9, .int 0, .int 0])), (z2, .inl (G.1, 16, .inl (upd (upd (upd (upd (upd (upd (fun _ => 0) 0 0) 1 0) 2 0) 3 0) 4 0) 5 0))), (z3, .inl (G.2.2.2.1, 16, .inl (upd (upd (upd (upd (upd (fun _ => 0) 0 0) 1 0) 2 0) 3 0) 4 0)))] H := hP
  have hD : va_D A [(z0, .inr (8, [.ref z1, .ref z51, .ref z52, .ref z2, .ref z3, .int 0, .int 0, .int 9, .int 0, .int 0])), (z2, .inl (G.1, 16, .inl (upd (upd (upd (upd (upd (upd (fun _ => 0) 0 0) 1 0) 2 0) 3 0) 4 0) 5 0))), (z3, .inl (G.2.2.2.1, 16, .inl (upd (upd (upd (upd (upd (fun _ => 0) 0 0) 1 0) 2 0) 3 0) 4 0)))] := hD
  refine lv_aload_n hx hb dX8_rewind_45 rfl (lv_at hl 1 rfl) ?_
  refine va_get (D := D) (ci := 8) (v := .ref z3) (C := RX8) (T := TX8) (N := 10) hx hb hts iX8_rewind_X8 hown hK hP 0 rfl rfl 4 (by decide) (hts (.fieldLink RX8 29 "PuppetBridge$Stage" "together" "[Z") mX8_rewind_w4) (fun _ h9 => h9) rfl dX8_rewind_46 ?_
  refine lv_iload_n hx hb dX8_rewind_49 rfl (lv_at hl 0 rfl) ?_
  refine lv_iconst (v := 0) hx hb dX8_rewind_50 (by decide) ?_
  refine va_zast hx hb hK hP hD hS 2 3 rfl rfl (wk_in rfl) dX8_rewind_51 (fun H locs hP hD hS => ?_)
  have hP : va_P D vwCl [(z0, .inr (8, [.ref z1, .ref z51, .ref z52, .ref z2, .ref z3, .int 0, .int 0, .int 9, .int 0, .int 0])), (z2, .inl (G.1, 16, .inl (upd (upd (upd (upd (upd (upd (fun _ => 0) 0 0) 1 0) 2 0) 3 0) 4 0) 5 0))), (z3, .inl (G.2.2.2.1, 16, .inl (upd (upd (upd (upd (upd (upd (fun _ => 0) 0 0) 1 0) 2 0) 3 0) 4 0) 5 0)))] H := hP
  have hD : va_D A [(z0, .inr (8, [.ref z1, .ref z51, .ref z52, .ref z2, .ref z3, .int 0, .int 0, .int 9, .int 0, .int 0])), (z2, .inl (G.1, 16, .inl (upd (upd (upd (upd (upd (upd (fun _ => 0) 0 0) 1 0) 2 0) 3 0) 4 0) 5 0))), (z3, .inl (G.2.2.2.1, 16, .inl (upd (upd (upd (upd (upd (upd (fun _ => 0) 0 0) 1 0) 2 0) 3 0) 4 0) 5 0)))] := hD
  refine lv_iinc (v := 6) (lv' := [(1, .int 6), (0, .ref z0)]) hx hb dX8_rewind_52 hl (k := 0) rfl (by decide) (by decide) rfl (fun ls hl => ?_)
  refine lv_goto (tgt := 32) hx hb dX8_rewind_55 (by decide) ?_
  refine lv_iload_n hx hb dX8_rewind_32 rfl (lv_at hl 0 rfl) ?_
  refine lv_bipush (v := 16) hx hb dX8_rewind_33 (by decide) ?_
  refine lv_icmp_ge (tgt := 58) hx hb dX8_rewind_35 (by decide) (fun h9 => absurd h9 (by decide)) (fun _ => ?_)
  refine lv_aload_n hx hb dX8_rewind_38 rfl (lv_at hl 1 rfl) ?_
  refine va_get (D := D) (ci := 8) (v := .ref z2) (C := RX8) (T := TX8) (N := 10) hx hb hts iX8_rewind_X8 hown hK hP 0 rfl rfl 3 (by decide) (hts (.fieldLink RX8 25 "PuppetBridge$Stage" "meetings" "[I") mX8_rewind_w3) (fun _ h9 => h9) rfl dX8_rewind_39 ?_
  refine lv_iload_n hx hb dX8_rewind_42 rfl (lv_at hl 0 rfl) ?_
  refine lv_iconst (v := 0) hx hb dX8_rewind_43 (by decide) ?_
  refine va_iast hx hb hK hP hD hS 1 0 rfl rfl (wk_in rfl) dX8_rewind_44 (fun H locs hP hD hS => ?_)
  have hP : va_P D vwCl [(z0, .inr (8, [.ref z1, .ref z51, .ref z52, .ref z2, .ref z3, .int 0, .int 0, .int 9, .int 0, .int 0])), (z2, .inl (G.1, 16, .inl (upd (upd (upd (upd (upd (upd (upd (fun _ => 0) 0 0) 1 0) 2 0) 3 0) 4 0) 5 0) 6 0))), (z3, .inl (G.2.2.2.1, 16, .inl (upd (upd (upd (upd (upd (upd (fun _ => 0) 0 0) 1 0) 2 0) 3 0) 4 0) 5 0)))] H := hP
  have hD : va_D A [(z0, .inr (8, [.ref z1, .ref z51, .ref z52, .ref z2, .ref z3, .int 0, .int 0, .int 9, .int 0, .int 0])), (z2, .inl (G.1, 16, .inl (upd (upd (upd (upd (upd (upd (upd (fun _ => 0) 0 0) 1 0) 2 0) 3 0) 4 0) 5 0) 6 0))), (z3, .inl (G.2.2.2.1, 16, .inl (upd (upd (upd (upd (upd (upd (fun _ => 0) 0 0) 1 0) 2 0) 3 0) 4 0) 5 0)))] := hD
  refine lv_aload_n hx hb dX8_rewind_45 rfl (lv_at hl 1 rfl) ?_
  refine va_get (D := D) (ci := 8) (v := .ref z3) (C := RX8) (T := TX8) (N := 10) hx hb hts iX8_rewind_X8 hown hK hP 0 rfl rfl 4 (by decide) (hts (.fieldLink RX8 29 "PuppetBridge$Stage" "together" "[Z") mX8_rewind_w4) (fun _ h9 => h9) rfl dX8_rewind_46 ?_
  refine lv_iload_n hx hb dX8_rewind_49 rfl (lv_at hl 0 rfl) ?_
  refine lv_iconst (v := 0) hx hb dX8_rewind_50 (by decide) ?_
  refine va_zast hx hb hK hP hD hS 2 3 rfl rfl (wk_in rfl) dX8_rewind_51 (fun H locs hP hD hS => ?_)
  have hP : va_P D vwCl [(z0, .inr (8, [.ref z1, .ref z51, .ref z52, .ref z2, .ref z3, .int 0, .int 0, .int 9, .int 0, .int 0])), (z2, .inl (G.1, 16, .inl (upd (upd (upd (upd (upd (upd (upd (fun _ => 0) 0 0) 1 0) 2 0) 3 0) 4 0) 5 0) 6 0))), (z3, .inl (G.2.2.2.1, 16, .inl (upd (upd (upd (upd (upd (upd (upd (fun _ => 0) 0 0) 1 0) 2 0) 3 0) 4 0) 5 0) 6 0)))] H := hP
  have hD : va_D A [(z0, .inr (8, [.ref z1, .ref z51, .ref z52, .ref z2, .ref z3, .int 0, .int 0, .int 9, .int 0, .int 0])), (z2, .inl (G.1, 16, .inl (upd (upd (upd (upd (upd (upd (upd (fun _ => 0) 0 0) 1 0) 2 0) 3 0) 4 0) 5 0) 6 0))), (z3, .inl (G.2.2.2.1, 16, .inl (upd (upd (upd (upd (upd (upd (upd (fun _ => 0) 0 0) 1 0) 2 0) 3 0) 4 0) 5 0) 6 0)))] := hD
  refine lv_iinc (v := 7) (lv' := [(1, .int 7), (0, .ref z0)]) hx hb dX8_rewind_52 hl (k := 0) rfl (by decide) (by decide) rfl (fun ls hl => ?_)
  refine lv_goto (tgt := 32) hx hb dX8_rewind_55 (by decide) ?_
  refine lv_iload_n hx hb dX8_rewind_32 rfl (lv_at hl 0 rfl) ?_
  refine lv_bipush (v := 16) hx hb dX8_rewind_33 (by decide) ?_
  refine lv_icmp_ge (tgt := 58) hx hb dX8_rewind_35 (by decide) (fun h9 => absurd h9 (by decide)) (fun _ => ?_)
  refine lv_aload_n hx hb dX8_rewind_38 rfl (lv_at hl 1 rfl) ?_
  refine va_get (D := D) (ci := 8) (v := .ref z2) (C := RX8) (T := TX8) (N := 10) hx hb hts iX8_rewind_X8 hown hK hP 0 rfl rfl 3 (by decide) (hts (.fieldLink RX8 25 "PuppetBridge$Stage" "meetings" "[I") mX8_rewind_w3) (fun _ h9 => h9) rfl dX8_rewind_39 ?_
  refine lv_iload_n hx hb dX8_rewind_42 rfl (lv_at hl 0 rfl) ?_
  refine lv_iconst (v := 0) hx hb dX8_rewind_43 (by decide) ?_
  refine va_iast hx hb hK hP hD hS 1 0 rfl rfl (wk_in rfl) dX8_rewind_44 (fun H locs hP hD hS => ?_)
  have hP : va_P D vwCl [(z0, .inr (8, [.ref z1, .ref z51, .ref z52, .ref z2, .ref z3, .int 0, .int 0, .int 9, .int 0, .int 0])), (z2, .inl (G.1, 16, .inl (upd (upd (upd (upd (upd (upd (upd (upd (fun _ => 0) 0 0) 1 0) 2 0) 3 0) 4 0) 5 0) 6 0) 7 0))), (z3, .inl (G.2.2.2.1, 16, .inl (upd (upd (upd (upd (upd (upd (upd (fun _ => 0) 0 0) 1 0) 2 0) 3 0) 4 0) 5 0) 6 0)))] H := hP
  have hD : va_D A [(z0, .inr (8, [.ref z1, .ref z51, .ref z52, .ref z2, .ref z3, .int 0, .int 0, .int 9, .int 0, .int 0])), (z2, .inl (G.1, 16, .inl (upd (upd (upd (upd (upd (upd (upd (upd (fun _ => 0) 0 0) 1 0) 2 0) 3 0) 4 0) 5 0) 6 0) 7 0))), (z3, .inl (G.2.2.2.1, 16, .inl (upd (upd (upd (upd (upd (upd (upd (fun _ => 0) 0 0) 1 0) 2 0) 3 0) 4 0) 5 0) 6 0)))] := hD
  refine lv_aload_n hx hb dX8_rewind_45 rfl (lv_at hl 1 rfl) ?_
  refine va_get (D := D) (ci := 8) (v := .ref z3) (C := RX8) (T := TX8) (N := 10) hx hb hts iX8_rewind_X8 hown hK hP 0 rfl rfl 4 (by decide) (hts (.fieldLink RX8 29 "PuppetBridge$Stage" "together" "[Z") mX8_rewind_w4) (fun _ h9 => h9) rfl dX8_rewind_46 ?_
  refine lv_iload_n hx hb dX8_rewind_49 rfl (lv_at hl 0 rfl) ?_
  refine lv_iconst (v := 0) hx hb dX8_rewind_50 (by decide) ?_
  refine va_zast hx hb hK hP hD hS 2 3 rfl rfl (wk_in rfl) dX8_rewind_51 (fun H locs hP hD hS => ?_)
  have hP : va_P D vwCl [(z0, .inr (8, [.ref z1, .ref z51, .ref z52, .ref z2, .ref z3, .int 0, .int 0, .int 9, .int 0, .int 0])), (z2, .inl (G.1, 16, .inl (upd (upd (upd (upd (upd (upd (upd (upd (fun _ => 0) 0 0) 1 0) 2 0) 3 0) 4 0) 5 0) 6 0) 7 0))), (z3, .inl (G.2.2.2.1, 16, .inl (upd (upd (upd (upd (upd (upd (upd (upd (fun _ => 0) 0 0) 1 0) 2 0) 3 0) 4 0) 5 0) 6 0) 7 0)))] H := hP
  have hD : va_D A [(z0, .inr (8, [.ref z1, .ref z51, .ref z52, .ref z2, .ref z3, .int 0, .int 0, .int 9, .int 0, .int 0])), (z2, .inl (G.1, 16, .inl (upd (upd (upd (upd (upd (upd (upd (upd (fun _ => 0) 0 0) 1 0) 2 0) 3 0) 4 0) 5 0) 6 0) 7 0))), (z3, .inl (G.2.2.2.1, 16, .inl (upd (upd (upd (upd (upd (upd (upd (upd (fun _ => 0) 0 0) 1 0) 2 0) 3 0) 4 0) 5 0) 6 0) 7 0)))] := hD
  refine lv_iinc (v := 8) (lv' := [(1, .int 8), (0, .ref z0)]) hx hb dX8_rewind_52 hl (k := 0) rfl (by decide) (by decide) rfl (fun ls hl => ?_)
  refine lv_goto (tgt := 32) hx hb dX8_rewind_55 (by decide) ?_
  refine lv_iload_n hx hb dX8_rewind_32 rfl (lv_at hl 0 rfl) ?_
  refine lv_bipush (v := 16) hx hb dX8_rewind_33 (by decide) ?_
  refine lv_icmp_ge (tgt := 58) hx hb dX8_rewind_35 (by decide) (fun h9 => absurd h9 (by decide)) (fun _ => ?_)
  refine lv_aload_n hx hb dX8_rewind_38 rfl (lv_at hl 1 rfl) ?_
  refine va_get (D := D) (ci := 8) (v := .ref z2) (C := RX8) (T := TX8) (N := 10) hx hb hts iX8_rewind_X8 hown hK hP 0 rfl rfl 3 (by decide) (hts (.fieldLink RX8 25 "PuppetBridge$Stage" "meetings" "[I") mX8_rewind_w3) (fun _ h9 => h9) rfl dX8_rewind_39 ?_
  refine lv_iload_n hx hb dX8_rewind_42 rfl (lv_at hl 0 rfl) ?_
  refine lv_iconst (v := 0) hx hb dX8_rewind_43 (by decide) ?_
  refine va_iast hx hb hK hP hD hS 1 0 rfl rfl (wk_in rfl) dX8_rewind_44 (fun H locs hP hD hS => ?_)
  have hP : va_P D vwCl [(z0, .inr (8, [.ref z1, .ref z51, .ref z52, .ref z2, .ref z3, .int 0, .int 0, .int 9, .int 0, .int 0])), (z2, .inl (G.1, 16, .inl (upd (upd (upd (upd (upd (upd (upd (upd (upd (fun _ => 0) 0 0) 1 0) 2 0) 3 0) 4 0) 5 0) 6 0) 7 0) 8 0))), (z3, .inl (G.2.2.2.1, 16, .inl (upd (upd (upd (upd (upd (upd (upd (upd (fun _ => 0) 0 0) 1 0) 2 0) 3 0) 4 0) 5 0) 6 0) 7 0)))] H := hP
  have hD : va_D A [(z0, .inr (8, [.ref z1, .ref z51, .ref z52, .ref z2, .ref z3, .int 0, .int 0, .int 9, .int 0, .int 0])), (z2, .inl (G.1, 16, .inl (upd (upd (upd (upd (upd (upd (upd (upd (upd (fun _ => 0) 0 0) 1 0) 2 0) 3 0) 4 0) 5 0) 6 0) 7 0) 8 0))), (z3, .inl (G.2.2.2.1, 16, .inl (upd (upd (upd (upd (upd (upd (upd (upd (fun _ => 0) 0 0) 1 0) 2 0) 3 0) 4 0) 5 0) 6 0) 7 0)))] := hD
  refine lv_aload_n hx hb dX8_rewind_45 rfl (lv_at hl 1 rfl) ?_
  refine va_get (D := D) (ci := 8) (v := .ref z3) (C := RX8) (T := TX8) (N := 10) hx hb hts iX8_rewind_X8 hown hK hP 0 rfl rfl 4 (by decide) (hts (.fieldLink RX8 29 "PuppetBridge$Stage" "together" "[Z") mX8_rewind_w4) (fun _ h9 => h9) rfl dX8_rewind_46 ?_
  refine lv_iload_n hx hb dX8_rewind_49 rfl (lv_at hl 0 rfl) ?_
  refine lv_iconst (v := 0) hx hb dX8_rewind_50 (by decide) ?_
  refine va_zast hx hb hK hP hD hS 2 3 rfl rfl (wk_in rfl) dX8_rewind_51 (fun H locs hP hD hS => ?_)
  have hP : va_P D vwCl [(z0, .inr (8, [.ref z1, .ref z51, .ref z52, .ref z2, .ref z3, .int 0, .int 0, .int 9, .int 0, .int 0])), (z2, .inl (G.1, 16, .inl (upd (upd (upd (upd (upd (upd (upd (upd (upd (fun _ => 0) 0 0) 1 0) 2 0) 3 0) 4 0) 5 0) 6 0) 7 0) 8 0))), (z3, .inl (G.2.2.2.1, 16, .inl (upd (upd (upd (upd (upd (upd (upd (upd (upd (fun _ => 0) 0 0) 1 0) 2 0) 3 0) 4 0) 5 0) 6 0) 7 0) 8 0)))] H := hP
  have hD : va_D A [(z0, .inr (8, [.ref z1, .ref z51, .ref z52, .ref z2, .ref z3, .int 0, .int 0, .int 9, .int 0, .int 0])), (z2, .inl (G.1, 16, .inl (upd (upd (upd (upd (upd (upd (upd (upd (upd (fun _ => 0) 0 0) 1 0) 2 0) 3 0) 4 0) 5 0) 6 0) 7 0) 8 0))), (z3, .inl (G.2.2.2.1, 16, .inl (upd (upd (upd (upd (upd (upd (upd (upd (upd (fun _ => 0) 0 0) 1 0) 2 0) 3 0) 4 0) 5 0) 6 0) 7 0) 8 0)))] := hD
  refine lv_iinc (v := 9) (lv' := [(1, .int 9), (0, .ref z0)]) hx hb dX8_rewind_52 hl (k := 0) rfl (by decide) (by decide) rfl (fun ls hl => ?_)
  refine lv_goto (tgt := 32) hx hb dX8_rewind_55 (by decide) ?_
  refine lv_iload_n hx hb dX8_rewind_32 rfl (lv_at hl 0 rfl) ?_
  refine lv_bipush (v := 16) hx hb dX8_rewind_33 (by decide) ?_
  refine lv_icmp_ge (tgt := 58) hx hb dX8_rewind_35 (by decide) (fun h9 => absurd h9 (by decide)) (fun _ => ?_)
  refine lv_aload_n hx hb dX8_rewind_38 rfl (lv_at hl 1 rfl) ?_
  refine va_get (D := D) (ci := 8) (v := .ref z2) (C := RX8) (T := TX8) (N := 10) hx hb hts iX8_rewind_X8 hown hK hP 0 rfl rfl 3 (by decide) (hts (.fieldLink RX8 25 "PuppetBridge$Stage" "meetings" "[I") mX8_rewind_w3) (fun _ h9 => h9) rfl dX8_rewind_39 ?_
  refine lv_iload_n hx hb dX8_rewind_42 rfl (lv_at hl 0 rfl) ?_
  refine lv_iconst (v := 0) hx hb dX8_rewind_43 (by decide) ?_
  refine va_iast hx hb hK hP hD hS 1 0 rfl rfl (wk_in rfl) dX8_rewind_44 (fun H locs hP hD hS => ?_)
  have hP : va_P D vwCl [(z0, .inr (8, [.ref z1, .ref z51, .ref z52, .ref z2, .ref z3, .int 0, .int 0, .int 9, .int 0, .int 0])), (z2, .inl (G.1, 16, .inl (upd (upd (upd (upd (upd (upd (upd (upd (upd (upd (fun _ => 0) 0 0) 1 0) 2 0) 3 0) 4 0) 5 0) 6 0) 7 0) 8 0) 9 0))), (z3, .inl (G.2.2.2.1, 16, .inl (upd (upd (upd (upd (upd (upd (upd (upd (upd (fun _ => 0) 0 0) 1 0) 2 0) 3 0) 4 0) 5 0) 6 0) 7 0) 8 0)))] H := hP
  have hD : va_D A [(z0, .inr (8, [.ref z1, .ref z51, .ref z52, .ref z2, .ref z3, .int 0, .int 0, .int 9, .int 0, .int 0])), (z2, .inl (G.1, 16, .inl (upd (upd (upd (upd (upd (upd (upd (upd (upd (upd (fun _ => 0) 0 0) 1 0) 2 0) 3 0) 4 0) 5 0) 6 0) 7 0) 8 0) 9 0))), (z3, .inl (G.2.2.2.1, 16, .inl (upd (upd (upd (upd (upd (upd (upd (upd (upd (fun _ => 0) 0 0) 1 0) 2 0) 3 0) 4 0) 5 0) 6 0) 7 0) 8 0)))] := hD
  refine lv_aload_n hx hb dX8_rewind_45 rfl (lv_at hl 1 rfl) ?_
  refine va_get (D := D) (ci := 8) (v := .ref z3) (C := RX8) (T := TX8) (N := 10) hx hb hts iX8_rewind_X8 hown hK hP 0 rfl rfl 4 (by decide) (hts (.fieldLink RX8 29 "PuppetBridge$Stage" "together" "[Z") mX8_rewind_w4) (fun _ h9 => h9) rfl dX8_rewind_46 ?_
  refine lv_iload_n hx hb dX8_rewind_49 rfl (lv_at hl 0 rfl) ?_
  refine lv_iconst (v := 0) hx hb dX8_rewind_50 (by decide) ?_
  refine va_zast hx hb hK hP hD hS 2 3 rfl rfl (wk_in rfl) dX8_rewind_51 (fun H locs hP hD hS => ?_)
  have hP : va_P D vwCl [(z0, .inr (8, [.ref z1, .ref z51, .ref z52, .ref z2, .ref z3, .int 0, .int 0, .int 9, .int 0, .int 0])), (z2, .inl (G.1, 16, .inl (upd (upd (upd (upd (upd (upd (upd (upd (upd (upd (fun _ => 0) 0 0) 1 0) 2 0) 3 0) 4 0) 5 0) 6 0) 7 0) 8 0) 9 0))), (z3, .inl (G.2.2.2.1, 16, .inl (upd (upd (upd (upd (upd (upd (upd (upd (upd (upd (fun _ => 0) 0 0) 1 0) 2 0) 3 0) 4 0) 5 0) 6 0) 7 0) 8 0) 9 0)))] H := hP
  have hD : va_D A [(z0, .inr (8, [.ref z1, .ref z51, .ref z52, .ref z2, .ref z3, .int 0, .int 0, .int 9, .int 0, .int 0])), (z2, .inl (G.1, 16, .inl (upd (upd (upd (upd (upd (upd (upd (upd (upd (upd (fun _ => 0) 0 0) 1 0) 2 0) 3 0) 4 0) 5 0) 6 0) 7 0) 8 0) 9 0))), (z3, .inl (G.2.2.2.1, 16, .inl (upd (upd (upd (upd (upd (upd (upd (upd (upd (upd (fun _ => 0) 0 0) 1 0) 2 0) 3 0) 4 0) 5 0) 6 0) 7 0) 8 0) 9 0)))] := hD
  refine lv_iinc (v := 10) (lv' := [(1, .int 10), (0, .ref z0)]) hx hb dX8_rewind_52 hl (k := 0) rfl (by decide) (by decide) rfl (fun ls hl => ?_)
  refine lv_goto (tgt := 32) hx hb dX8_rewind_55 (by decide) ?_
  refine lv_iload_n hx hb dX8_rewind_32 rfl (lv_at hl 0 rfl) ?_
  refine lv_bipush (v := 16) hx hb dX8_rewind_33 (by decide) ?_
  refine lv_icmp_ge (tgt := 58) hx hb dX8_rewind_35 (by decide) (fun h9 => absurd h9 (by decide)) (fun _ => ?_)
  refine lv_aload_n hx hb dX8_rewind_38 rfl (lv_at hl 1 rfl) ?_
  refine va_get (D := D) (ci := 8) (v := .ref z2) (C := RX8) (T := TX8) (N := 10) hx hb hts iX8_rewind_X8 hown hK hP 0 rfl rfl 3 (by decide) (hts (.fieldLink RX8 25 "PuppetBridge$Stage" "meetings" "[I") mX8_rewind_w3) (fun _ h9 => h9) rfl dX8_rewind_39 ?_
  refine lv_iload_n hx hb dX8_rewind_42 rfl (lv_at hl 0 rfl) ?_
  refine lv_iconst (v := 0) hx hb dX8_rewind_43 (by decide) ?_
  refine va_iast hx hb hK hP hD hS 1 0 rfl rfl (wk_in rfl) dX8_rewind_44 (fun H locs hP hD hS => ?_)
  have hP : va_P D vwCl [(z0, .inr (8, [.ref z1, .ref z51, .ref z52, .ref z2, .ref z3, .int 0, .int 0, .int 9, .int 0, .int 0])), (z2, .inl (G.1, 16, .inl (upd (upd (upd (upd (upd (upd (upd (upd (upd (upd (upd (fun _ => 0) 0 0) 1 0) 2 0) 3 0) 4 0) 5 0) 6 0) 7 0) 8 0) 9 0) 10 0))), (z3, .inl (G.2.2.2.1, 16, .inl (upd (upd (upd (upd (upd (upd (upd (upd (upd (upd (fun _ => 0) 0 0) 1 0) 2 0) 3 0) 4 0) 5 0) 6 0) 7 0) 8 0) 9 0)))] H := hP
  have hD : va_D A [(z0, .inr (8, [.ref z1, .ref z51, .ref z52, .ref z2, .ref z3, .int 0, .int 0, .int 9, .int 0, .int 0])), (z2, .inl (G.1, 16, .inl (upd (upd (upd (upd (upd (upd (upd (upd (upd (upd (upd (fun _ => 0) 0 0) 1 0) 2 0) 3 0) 4 0) 5 0) 6 0) 7 0) 8 0) 9 0) 10 0))), (z3, .inl (G.2.2.2.1, 16, .inl (upd (upd (upd (upd (upd (upd (upd (upd (upd (upd (fun _ => 0) 0 0) 1 0) 2 0) 3 0) 4 0) 5 0) 6 0) 7 0) 8 0) 9 0)))] := hD
  refine lv_aload_n hx hb dX8_rewind_45 rfl (lv_at hl 1 rfl) ?_
  refine va_get (D := D) (ci := 8) (v := .ref z3) (C := RX8) (T := TX8) (N := 10) hx hb hts iX8_rewind_X8 hown hK hP 0 rfl rfl 4 (by decide) (hts (.fieldLink RX8 29 "PuppetBridge$Stage" "together" "[Z") mX8_rewind_w4) (fun _ h9 => h9) rfl dX8_rewind_46 ?_
  refine lv_iload_n hx hb dX8_rewind_49 rfl (lv_at hl 0 rfl) ?_
  refine lv_iconst (v := 0) hx hb dX8_rewind_50 (by decide) ?_
  refine va_zast hx hb hK hP hD hS 2 3 rfl rfl (wk_in rfl) dX8_rewind_51 (fun H locs hP hD hS => ?_)
  have hP : va_P D vwCl [(z0, .inr (8, [.ref z1, .ref z51, .ref z52, .ref z2, .ref z3, .int 0, .int 0, .int 9, .int 0, .int 0])), (z2, .inl (G.1, 16, .inl (upd (upd (upd (upd (upd (upd (upd (upd (upd (upd (upd (fun _ => 0) 0 0) 1 0) 2 0) 3 0) 4 0) 5 0) 6 0) 7 0) 8 0) 9 0) 10 0))), (z3, .inl (G.2.2.2.1, 16, .inl (upd (upd (upd (upd (upd (upd (upd (upd (upd (upd (upd (fun _ => 0) 0 0) 1 0) 2 0) 3 0) 4 0) 5 0) 6 0) 7 0) 8 0) 9 0) 10 0)))] H := hP
  have hD : va_D A [(z0, .inr (8, [.ref z1, .ref z51, .ref z52, .ref z2, .ref z3, .int 0, .int 0, .int 9, .int 0, .int 0])), (z2, .inl (G.1, 16, .inl (upd (upd (upd (upd (upd (upd (upd (upd (upd (upd (upd (fun _ => 0) 0 0) 1 0) 2 0) 3 0) 4 0) 5 0) 6 0) 7 0) 8 0) 9 0) 10 0))), (z3, .inl (G.2.2.2.1, 16, .inl (upd (upd (upd (upd (upd (upd (upd (upd (upd (upd (upd (fun _ => 0) 0 0) 1 0) 2 0) 3 0) 4 0) 5 0) 6 0) 7 0) 8 0) 9 0) 10 0)))] := hD
  refine lv_iinc (v := 11) (lv' := [(1, .int 11), (0, .ref z0)]) hx hb dX8_rewind_52 hl (k := 0) rfl (by decide) (by decide) rfl (fun ls hl => ?_)
  refine lv_goto (tgt := 32) hx hb dX8_rewind_55 (by decide) ?_
  refine lv_iload_n hx hb dX8_rewind_32 rfl (lv_at hl 0 rfl) ?_
  refine lv_bipush (v := 16) hx hb dX8_rewind_33 (by decide) ?_
  refine lv_icmp_ge (tgt := 58) hx hb dX8_rewind_35 (by decide) (fun h9 => absurd h9 (by decide)) (fun _ => ?_)
  refine lv_aload_n hx hb dX8_rewind_38 rfl (lv_at hl 1 rfl) ?_
  refine va_get (D := D) (ci := 8) (v := .ref z2) (C := RX8) (T := TX8) (N := 10) hx hb hts iX8_rewind_X8 hown hK hP 0 rfl rfl 3 (by decide) (hts (.fieldLink RX8 25 "PuppetBridge$Stage" "meetings" "[I") mX8_rewind_w3) (fun _ h9 => h9) rfl dX8_rewind_39 ?_
  refine lv_iload_n hx hb dX8_rewind_42 rfl (lv_at hl 0 rfl) ?_
  refine lv_iconst (v := 0) hx hb dX8_rewind_43 (by decide) ?_
  refine va_iast hx hb hK hP hD hS 1 0 rfl rfl (wk_in rfl) dX8_rewind_44 (fun H locs hP hD hS => ?_)
  have hP : va_P D vwCl [(z0, .inr (8, [.ref z1, .ref z51, .ref z52, .ref z2, .ref z3, .int 0, .int 0, .int 9, .int 0, .int 0])), (z2, .inl (G.1, 16, .inl (upd (upd (upd (upd (upd (upd (upd (upd (upd (upd (upd (upd (fun _ => 0) 0 0) 1 0) 2 0) 3 0) 4 0) 5 0) 6 0) 7 0) 8 0) 9 0) 10 0) 11 0))), (z3, .inl (G.2.2.2.1, 16, .inl (upd (upd (upd (upd (upd (upd (upd (upd (upd (upd (upd (fun _ => 0) 0 0) 1 0) 2 0) 3 0) 4 0) 5 0) 6 0) 7 0) 8 0) 9 0) 10 0)))] H := hP
  have hD : va_D A [(z0, .inr (8, [.ref z1, .ref z51, .ref z52, .ref z2, .ref z3, .int 0, .int 0, .int 9, .int 0, .int 0])), (z2, .inl (G.1, 16, .inl (upd (upd (upd (upd (upd (upd (upd (upd (upd (upd (upd (upd (fun _ => 0) 0 0) 1 0) 2 0) 3 0) 4 0) 5 0) 6 0) 7 0) 8 0) 9 0) 10 0) 11 0))), (z3, .inl (G.2.2.2.1, 16, .inl (upd (upd (upd (upd (upd (upd (upd (upd (upd (upd (upd (fun _ => 0) 0 0) 1 0) 2 0) 3 0) 4 0) 5 0) 6 0) 7 0) 8 0) 9 0) 10 0)))] := hD
  refine lv_aload_n hx hb dX8_rewind_45 rfl (lv_at hl 1 rfl) ?_
  refine va_get (D := D) (ci := 8) (v := .ref z3) (C := RX8) (T := TX8) (N := 10) hx hb hts iX8_rewind_X8 hown hK hP 0 rfl rfl 4 (by decide) (hts (.fieldLink RX8 29 "PuppetBridge$Stage" "together" "[Z") mX8_rewind_w4) (fun _ h9 => h9) rfl dX8_rewind_46 ?_
  refine lv_iload_n hx hb dX8_rewind_49 rfl (lv_at hl 0 rfl) ?_
  refine lv_iconst (v := 0) hx hb dX8_rewind_50 (by decide) ?_
  refine va_zast hx hb hK hP hD hS 2 3 rfl rfl (wk_in rfl) dX8_rewind_51 (fun H locs hP hD hS => ?_)
  have hP : va_P D vwCl [(z0, .inr (8, [.ref z1, .ref z51, .ref z52, .ref z2, .ref z3, .int 0, .int 0, .int 9, .int 0, .int 0])), (z2, .inl (G.1, 16, .inl (upd (upd (upd (upd (upd (upd (upd (upd (upd (upd (upd (upd (fun _ => 0) 0 0) 1 0) 2 0) 3 0) 4 0) 5 0) 6 0) 7 0) 8 0) 9 0) 10 0) 11 0))), (z3, .inl (G.2.2.2.1, 16, .inl (upd (upd (upd (upd (upd (upd (upd (upd (upd (upd (upd (upd (fun _ => 0) 0 0) 1 0) 2 0) 3 0) 4 0) 5 0) 6 0) 7 0) 8 0) 9 0) 10 0) 11 0)))] H := hP
  have hD : va_D A [(z0, .inr (8, [.ref z1, .ref z51, .ref z52, .ref z2, .ref z3, .int 0, .int 0, .int 9, .int 0, .int 0])), (z2, .inl (G.1, 16, .inl (upd (upd (upd (upd (upd (upd (upd (upd (upd (upd (upd (upd (fun _ => 0) 0 0) 1 0) 2 0) 3 0) 4 0) 5 0) 6 0) 7 0) 8 0) 9 0) 10 0) 11 0))), (z3, .inl (G.2.2.2.1, 16, .inl (upd (upd (upd (upd (upd (upd (upd (upd (upd (upd (upd (upd (fun _ => 0) 0 0) 1 0) 2 0) 3 0) 4 0) 5 0) 6 0) 7 0) 8 0) 9 0) 10 0) 11 0)))] := hD
  refine lv_iinc (v := 12) (lv' := [(1, .int 12), (0, .ref z0)]) hx hb dX8_rewind_52 hl (k := 0) rfl (by decide) (by decide) rfl (fun ls hl => ?_)
  refine lv_goto (tgt := 32) hx hb dX8_rewind_55 (by decide) ?_
  refine lv_iload_n hx hb dX8_rewind_32 rfl (lv_at hl 0 rfl) ?_
  refine lv_bipush (v := 16) hx hb dX8_rewind_33 (by decide) ?_
  refine lv_icmp_ge (tgt := 58) hx hb dX8_rewind_35 (by decide) (fun h9 => absurd h9 (by decide)) (fun _ => ?_)
  refine lv_aload_n hx hb dX8_rewind_38 rfl (lv_at hl 1 rfl) ?_
  refine va_get (D := D) (ci := 8) (v := .ref z2) (C := RX8) (T := TX8) (N := 10) hx hb hts iX8_rewind_X8 hown hK hP 0 rfl rfl 3 (by decide) (hts (.fieldLink RX8 25 "PuppetBridge$Stage" "meetings" "[I") mX8_rewind_w3) (fun _ h9 => h9) rfl dX8_rewind_39 ?_
  refine lv_iload_n hx hb dX8_rewind_42 rfl (lv_at hl 0 rfl) ?_
  refine lv_iconst (v := 0) hx hb dX8_rewind_43 (by decide) ?_
  refine va_iast hx hb hK hP hD hS 1 0 rfl rfl (wk_in rfl) dX8_rewind_44 (fun H locs hP hD hS => ?_)
  have hP : va_P D vwCl [(z0, .inr (8, [.ref z1, .ref z51, .ref z52, .ref z2, .ref z3, .int 0, .int 0, .int 9, .int 0, .int 0])), (z2, .inl (G.1, 16, .inl (upd (upd (upd (upd (upd (upd (upd (upd (upd (upd (upd (upd (upd (fun _ => 0) 0 0) 1 0) 2 0) 3 0) 4 0) 5 0) 6 0) 7 0) 8 0) 9 0) 10 0) 11 0) 12 0))), (z3, .inl (G.2.2.2.1, 16, .inl (upd (upd (upd (upd (upd (upd (upd (upd (upd (upd (upd (upd (fun _ => 0) 0 0) 1 0) 2 0) 3 0) 4 0) 5 0) 6 0) 7 0) 8 0) 9 0) 10 0) 11 0)))] H := hP
  have hD : va_D A [(z0, .inr (8, [.ref z1, .ref z51, .ref z52, .ref z2, .ref z3, .int 0, .int 0, .int 9, .int 0, .int 0])), (z2, .inl (G.1, 16, .inl (upd (upd (upd (upd (upd (upd (upd (upd (upd (upd (upd (upd (upd (fun _ => 0) 0 0) 1 0) 2 0) 3 0) 4 0) 5 0) 6 0) 7 0) 8 0) 9 0) 10 0) 11 0) 12 0))), (z3, .inl (G.2.2.2.1, 16, .inl (upd (upd (upd (upd (upd (upd (upd (upd (upd (upd (upd (upd (fun _ => 0) 0 0) 1 0) 2 0) 3 0) 4 0) 5 0) 6 0) 7 0) 8 0) 9 0) 10 0) 11 0)))] := hD
  refine lv_aload_n hx hb dX8_rewind_45 rfl (lv_at hl 1 rfl) ?_
  refine va_get (D := D) (ci := 8) (v := .ref z3) (C := RX8) (T := TX8) (N := 10) hx hb hts iX8_rewind_X8 hown hK hP 0 rfl rfl 4 (by decide) (hts (.fieldLink RX8 29 "PuppetBridge$Stage" "together" "[Z") mX8_rewind_w4) (fun _ h9 => h9) rfl dX8_rewind_46 ?_
  refine lv_iload_n hx hb dX8_rewind_49 rfl (lv_at hl 0 rfl) ?_
  refine lv_iconst (v := 0) hx hb dX8_rewind_50 (by decide) ?_
  refine va_zast hx hb hK hP hD hS 2 3 rfl rfl (wk_in rfl) dX8_rewind_51 (fun H locs hP hD hS => ?_)
  have hP : va_P D vwCl [(z0, .inr (8, [.ref z1, .ref z51, .ref z52, .ref z2, .ref z3, .int 0, .int 0, .int 9, .int 0, .int 0])), (z2, .inl (G.1, 16, .inl (upd (upd (upd (upd (upd (upd (upd (upd (upd (upd (upd (upd (upd (fun _ => 0) 0 0) 1 0) 2 0) 3 0) 4 0) 5 0) 6 0) 7 0) 8 0) 9 0) 10 0) 11 0) 12 0))), (z3, .inl (G.2.2.2.1, 16, .inl (upd (upd (upd (upd (upd (upd (upd (upd (upd (upd (upd (upd (upd (fun _ => 0) 0 0) 1 0) 2 0) 3 0) 4 0) 5 0) 6 0) 7 0) 8 0) 9 0) 10 0) 11 0) 12 0)))] H := hP
  have hD : va_D A [(z0, .inr (8, [.ref z1, .ref z51, .ref z52, .ref z2, .ref z3, .int 0, .int 0, .int 9, .int 0, .int 0])), (z2, .inl (G.1, 16, .inl (upd (upd (upd (upd (upd (upd (upd (upd (upd (upd (upd (upd (upd (fun _ => 0) 0 0) 1 0) 2 0) 3 0) 4 0) 5 0) 6 0) 7 0) 8 0) 9 0) 10 0) 11 0) 12 0))), (z3, .inl (G.2.2.2.1, 16, .inl (upd (upd (upd (upd (upd (upd (upd (upd (upd (upd (upd (upd (upd (fun _ => 0) 0 0) 1 0) 2 0) 3 0) 4 0) 5 0) 6 0) 7 0) 8 0) 9 0) 10 0) 11 0) 12 0)))] := hD
  refine lv_iinc (v := 13) (lv' := [(1, .int 13), (0, .ref z0)]) hx hb dX8_rewind_52 hl (k := 0) rfl (by decide) (by decide) rfl (fun ls hl => ?_)
  refine lv_goto (tgt := 32) hx hb dX8_rewind_55 (by decide) ?_
  refine lv_iload_n hx hb dX8_rewind_32 rfl (lv_at hl 0 rfl) ?_
  refine lv_bipush (v := 16) hx hb dX8_rewind_33 (by decide) ?_
  refine lv_icmp_ge (tgt := 58) hx hb dX8_rewind_35 (by decide) (fun h9 => absurd h9 (by decide)) (fun _ => ?_)
  refine lv_aload_n hx hb dX8_rewind_38 rfl (lv_at hl 1 rfl) ?_
  refine va_get (D := D) (ci := 8) (v := .ref z2) (C := RX8) (T := TX8) (N := 10) hx hb hts iX8_rewind_X8 hown hK hP 0 rfl rfl 3 (by decide) (hts (.fieldLink RX8 25 "PuppetBridge$Stage" "meetings" "[I") mX8_rewind_w3) (fun _ h9 => h9) rfl dX8_rewind_39 ?_
  refine lv_iload_n hx hb dX8_rewind_42 rfl (lv_at hl 0 rfl) ?_
  refine lv_iconst (v := 0) hx hb dX8_rewind_43 (by decide) ?_
  refine va_iast hx hb hK hP hD hS 1 0 rfl rfl (wk_in rfl) dX8_rewind_44 (fun H locs hP hD hS => ?_)
  have hP : va_P D vwCl [(z0, .inr (8, [.ref z1, .ref z51, .ref z52, .ref z2, .ref z3, .int 0, .int 0, .int 9, .int 0, .int 0])), (z2, .inl (G.1, 16, .inl (upd (upd (upd (upd (upd (upd (upd (upd (upd (upd (upd (upd (upd (upd (fun _ => 0) 0 0) 1 0) 2 0) 3 0) 4 0) 5 0) 6 0) 7 0) 8 0) 9 0) 10 0) 11 0) 12 0) 13 0))), (z3, .inl (G.2.2.2.1, 16, .inl (upd (upd (upd (upd (upd (upd (upd (upd (upd (upd (upd (upd (upd (fun _ => 0) 0 0) 1 0) 2 0) 3 0) 4 0) 5 0) 6 0) 7 0) 8 0) 9 0) 10 0) 11 0) 12 0)))] H := hP
  have hD : va_D A [(z0, .inr (8, [.ref z1, .ref z51, .ref z52, .ref z2, .ref z3, .int 0, .int 0, .int 9, .int 0, .int 0])), (z2, .inl (G.1, 16, .inl (upd (upd (upd (upd (upd (upd (upd (upd (upd (upd (upd (upd (upd (upd (fun _ => 0) 0 0) 1 0) 2 0) 3 0) 4 0) 5 0) 6 0) 7 0) 8 0) 9 0) 10 0) 11 0) 12 0) 13 0))), (z3, .inl (G.2.2.2.1, 16, .inl (upd (upd (upd (upd (upd (upd (upd (upd (upd (upd (upd (upd (upd (fun _ => 0) 0 0) 1 0) 2 0) 3 0) 4 0) 5 0) 6 0) 7 0) 8 0) 9 0) 10 0) 11 0) 12 0)))] := hD
  refine lv_aload_n hx hb dX8_rewind_45 rfl (lv_at hl 1 rfl) ?_
  refine va_get (D := D) (ci := 8) (v := .ref z3) (C := RX8) (T := TX8) (N := 10) hx hb hts iX8_rewind_X8 hown hK hP 0 rfl rfl 4 (by decide) (hts (.fieldLink RX8 29 "PuppetBridge$Stage" "together" "[Z") mX8_rewind_w4) (fun _ h9 => h9) rfl dX8_rewind_46 ?_
  refine lv_iload_n hx hb dX8_rewind_49 rfl (lv_at hl 0 rfl) ?_
  refine lv_iconst (v := 0) hx hb dX8_rewind_50 (by decide) ?_
  refine va_zast hx hb hK hP hD hS 2 3 rfl rfl (wk_in rfl) dX8_rewind_51 (fun H locs hP hD hS => ?_)
  have hP : va_P D vwCl [(z0, .inr (8, [.ref z1, .ref z51, .ref z52, .ref z2, .ref z3, .int 0, .int 0, .int 9, .int 0, .int 0])), (z2, .inl (G.1, 16, .inl (upd (upd (upd (upd (upd (upd (upd (upd (upd (upd (upd (upd (upd (upd (fun _ => 0) 0 0) 1 0) 2 0) 3 0) 4 0) 5 0) 6 0) 7 0) 8 0) 9 0) 10 0) 11 0) 12 0) 13 0))), (z3, .inl (G.2.2.2.1, 16, .inl (upd (upd (upd (upd (upd (upd (upd (upd (upd (upd (upd (upd (upd (upd (fun _ => 0) 0 0) 1 0) 2 0) 3 0) 4 0) 5 0) 6 0) 7 0) 8 0) 9 0) 10 0) 11 0) 12 0) 13 0)))] H := hP
  have hD : va_D A [(z0, .inr (8, [.ref z1, .ref z51, .ref z52, .ref z2, .ref z3, .int 0, .int 0, .int 9, .int 0, .int 0])), (z2, .inl (G.1, 16, .inl (upd (upd (upd (upd (upd (upd (upd (upd (upd (upd (upd (upd (upd (upd (fun _ => 0) 0 0) 1 0) 2 0) 3 0) 4 0) 5 0) 6 0) 7 0) 8 0) 9 0) 10 0) 11 0) 12 0) 13 0))), (z3, .inl (G.2.2.2.1, 16, .inl (upd (upd (upd (upd (upd (upd (upd (upd (upd (upd (upd (upd (upd (upd (fun _ => 0) 0 0) 1 0) 2 0) 3 0) 4 0) 5 0) 6 0) 7 0) 8 0) 9 0) 10 0) 11 0) 12 0) 13 0)))] := hD
  refine lv_iinc (v := 14) (lv' := [(1, .int 14), (0, .ref z0)]) hx hb dX8_rewind_52 hl (k := 0) rfl (by decide) (by decide) rfl (fun ls hl => ?_)
  refine lv_goto (tgt := 32) hx hb dX8_rewind_55 (by decide) ?_
  refine lv_iload_n hx hb dX8_rewind_32 rfl (lv_at hl 0 rfl) ?_
  refine lv_bipush (v := 16) hx hb dX8_rewind_33 (by decide) ?_
  refine lv_icmp_ge (tgt := 58) hx hb dX8_rewind_35 (by decide) (fun h9 => absurd h9 (by decide)) (fun _ => ?_)
  refine lv_aload_n hx hb dX8_rewind_38 rfl (lv_at hl 1 rfl) ?_
  refine va_get (D := D) (ci := 8) (v := .ref z2) (C := RX8) (T := TX8) (N := 10) hx hb hts iX8_rewind_X8 hown hK hP 0 rfl rfl 3 (by decide) (hts (.fieldLink RX8 25 "PuppetBridge$Stage" "meetings" "[I") mX8_rewind_w3) (fun _ h9 => h9) rfl dX8_rewind_39 ?_
  refine lv_iload_n hx hb dX8_rewind_42 rfl (lv_at hl 0 rfl) ?_
  refine lv_iconst (v := 0) hx hb dX8_rewind_43 (by decide) ?_
  refine va_iast hx hb hK hP hD hS 1 0 rfl rfl (wk_in rfl) dX8_rewind_44 (fun H locs hP hD hS => ?_)
  have hP : va_P D vwCl [(z0, .inr (8, [.ref z1, .ref z51, .ref z52, .ref z2, .ref z3, .int 0, .int 0, .int 9, .int 0, .int 0])), (z2, .inl (G.1, 16, .inl (upd (upd (upd (upd (upd (upd (upd (upd (upd (upd (upd (upd (upd (upd (upd (fun _ => 0) 0 0) 1 0) 2 0) 3 0) 4 0) 5 0) 6 0) 7 0) 8 0) 9 0) 10 0) 11 0) 12 0) 13 0) 14 0))), (z3, .inl (G.2.2.2.1, 16, .inl (upd (upd (upd (upd (upd (upd (upd (upd (upd (upd (upd (upd (upd (upd (fun _ => 0) 0 0) 1 0) 2 0) 3 0) 4 0) 5 0) 6 0) 7 0) 8 0) 9 0) 10 0) 11 0) 12 0) 13 0)))] H := hP
  have hD : va_D A [(z0, .inr (8, [.ref z1, .ref z51, .ref z52, .ref z2, .ref z3, .int 0, .int 0, .int 9, .int 0, .int 0])), (z2, .inl (G.1, 16, .inl (upd (upd (upd (upd (upd (upd (upd (upd (upd (upd (upd (upd (upd (upd (upd (fun _ => 0) 0 0) 1 0) 2 0) 3 0) 4 0) 5 0) 6 0) 7 0) 8 0) 9 0) 10 0) 11 0) 12 0) 13 0) 14 0))), (z3, .inl (G.2.2.2.1, 16, .inl (upd (upd (upd (upd (upd (upd (upd (upd (upd (upd (upd (upd (upd (upd (fun _ => 0) 0 0) 1 0) 2 0) 3 0) 4 0) 5 0) 6 0) 7 0) 8 0) 9 0) 10 0) 11 0) 12 0) 13 0)))] := hD
  refine lv_aload_n hx hb dX8_rewind_45 rfl (lv_at hl 1 rfl) ?_
  refine va_get (D := D) (ci := 8) (v := .ref z3) (C := RX8) (T := TX8) (N := 10) hx hb hts iX8_rewind_X8 hown hK hP 0 rfl rfl 4 (by decide) (hts (.fieldLink RX8 29 "PuppetBridge$Stage" "together" "[Z") mX8_rewind_w4) (fun _ h9 => h9) rfl dX8_rewind_46 ?_
  refine lv_iload_n hx hb dX8_rewind_49 rfl (lv_at hl 0 rfl) ?_
  refine lv_iconst (v := 0) hx hb dX8_rewind_50 (by decide) ?_
  refine va_zast hx hb hK hP hD hS 2 3 rfl rfl (wk_in rfl) dX8_rewind_51 (fun H locs hP hD hS => ?_)
  have hP : va_P D vwCl [(z0, .inr (8, [.ref z1, .ref z51, .ref z52, .ref z2, .ref z3, .int 0, .int 0, .int 9, .int 0, .int 0])), (z2, .inl (G.1, 16, .inl (upd (upd (upd (upd (upd (upd (upd (upd (upd (upd (upd (upd (upd (upd (upd (fun _ => 0) 0 0) 1 0) 2 0) 3 0) 4 0) 5 0) 6 0) 7 0) 8 0) 9 0) 10 0) 11 0) 12 0) 13 0) 14 0))), (z3, .inl (G.2.2.2.1, 16, .inl (upd (upd (upd (upd (upd (upd (upd (upd (upd (upd (upd (upd (upd (upd (upd (fun _ => 0) 0 0) 1 0) 2 0) 3 0) 4 0) 5 0) 6 0) 7 0) 8 0) 9 0) 10 0) 11 0) 12 0) 13 0) 14 0)))] H := hP
  have hD : va_D A [(z0, .inr (8, [.ref z1, .ref z51, .ref z52, .ref z2, .ref z3, .int 0, .int 0, .int 9, .int 0, .int 0])), (z2, .inl (G.1, 16, .inl (upd (upd (upd (upd (upd (upd (upd (upd (upd (upd (upd (upd (upd (upd (upd (fun _ => 0) 0 0) 1 0) 2 0) 3 0) 4 0) 5 0) 6 0) 7 0) 8 0) 9 0) 10 0) 11 0) 12 0) 13 0) 14 0))), (z3, .inl (G.2.2.2.1, 16, .inl (upd (upd (upd (upd (upd (upd (upd (upd (upd (upd (upd (upd (upd (upd (upd (fun _ => 0) 0 0) 1 0) 2 0) 3 0) 4 0) 5 0) 6 0) 7 0) 8 0) 9 0) 10 0) 11 0) 12 0) 13 0) 14 0)))] := hD
  refine lv_iinc (v := 15) (lv' := [(1, .int 15), (0, .ref z0)]) hx hb dX8_rewind_52 hl (k := 0) rfl (by decide) (by decide) rfl (fun ls hl => ?_)
  refine lv_goto (tgt := 32) hx hb dX8_rewind_55 (by decide) ?_
  refine lv_iload_n hx hb dX8_rewind_32 rfl (lv_at hl 0 rfl) ?_
  refine lv_bipush (v := 16) hx hb dX8_rewind_33 (by decide) ?_
  refine lv_icmp_ge (tgt := 58) hx hb dX8_rewind_35 (by decide) (fun h9 => absurd h9 (by decide)) (fun _ => ?_)
  refine lv_aload_n hx hb dX8_rewind_38 rfl (lv_at hl 1 rfl) ?_
  refine va_get (D := D) (ci := 8) (v := .ref z2) (C := RX8) (T := TX8) (N := 10) hx hb hts iX8_rewind_X8 hown hK hP 0 rfl rfl 3 (by decide) (hts (.fieldLink RX8 25 "PuppetBridge$Stage" "meetings" "[I") mX8_rewind_w3) (fun _ h9 => h9) rfl dX8_rewind_39 ?_
  refine lv_iload_n hx hb dX8_rewind_42 rfl (lv_at hl 0 rfl) ?_
  refine lv_iconst (v := 0) hx hb dX8_rewind_43 (by decide) ?_
  refine va_iast hx hb hK hP hD hS 1 0 rfl rfl (wk_in rfl) dX8_rewind_44 (fun H locs hP hD hS => ?_)
  have hP : va_P D vwCl [(z0, .inr (8, [.ref z1, .ref z51, .ref z52, .ref z2, .ref z3, .int 0, .int 0, .int 9, .int 0, .int 0])), (z2, .inl (G.1, 16, .inl (upd (upd (upd (upd (upd (upd (upd (upd (upd (upd (upd (upd (upd (upd (upd (upd (fun _ => 0) 0 0) 1 0) 2 0) 3 0) 4 0) 5 0) 6 0) 7 0) 8 0) 9 0) 10 0) 11 0) 12 0) 13 0) 14 0) 15 0))), (z3, .inl (G.2.2.2.1, 16, .inl (upd (upd (upd (upd (upd (upd (upd (upd (upd (upd (upd (upd (upd (upd (upd (fun _ => 0) 0 0) 1 0) 2 0) 3 0) 4 0) 5 0) 6 0) 7 0) 8 0) 9 0) 10 0) 11 0) 12 0) 13 0) 14 0)))] H := hP
  have hD : va_D A [(z0, .inr (8, [.ref z1, .ref z51, .ref z52, .ref z2, .ref z3, .int 0, .int 0, .int 9, .int 0, .int 0])), (z2, .inl (G.1, 16, .inl (upd (upd (upd (upd (upd (upd (upd (upd (upd (upd (upd (upd (upd (upd (upd (upd (fun _ => 0) 0 0) 1 0) 2 0) 3 0) 4 0) 5 0) 6 0) 7 0) 8 0) 9 0) 10 0) 11 0) 12 0) 13 0) 14 0) 15 0))), (z3, .inl (G.2.2.2.1, 16, .inl (upd (upd (upd (upd (upd (upd (upd (upd (upd (upd (upd (upd (upd (upd (upd (fun _ => 0) 0 0) 1 0) 2 0) 3 0) 4 0) 5 0) 6 0) 7 0) 8 0) 9 0) 10 0) 11 0) 12 0) 13 0) 14 0)))] := hD
  refine lv_aload_n hx hb dX8_rewind_45 rfl (lv_at hl 1 rfl) ?_
  refine va_get (D := D) (ci := 8) (v := .ref z3) (C := RX8) (T := TX8) (N := 10) hx hb hts iX8_rewind_X8 hown hK hP 0 rfl rfl 4 (by decide) (hts (.fieldLink RX8 29 "PuppetBridge$Stage" "together" "[Z") mX8_rewind_w4) (fun _ h9 => h9) rfl dX8_rewind_46 ?_
  refine lv_iload_n hx hb dX8_rewind_49 rfl (lv_at hl 0 rfl) ?_
  refine lv_iconst (v := 0) hx hb dX8_rewind_50 (by decide) ?_
  refine va_zast hx hb hK hP hD hS 2 3 rfl rfl (wk_in rfl) dX8_rewind_51 (fun H locs hP hD hS => ?_)
  have hP : va_P D vwCl [(z0, .inr (8, [.ref z1, .ref z51, .ref z52, .ref z2, .ref z3, .int 0, .int 0, .int 9, .int 0, .int 0])), (z2, .inl (G.1, 16, .inl (upd (upd (upd (upd (upd (upd (upd (upd (upd (upd (upd (upd (upd (upd (upd (upd (fun _ => 0) 0 0) 1 0) 2 0) 3 0) 4 0) 5 0) 6 0) 7 0) 8 0) 9 0) 10 0) 11 0) 12 0) 13 0) 14 0) 15 0))), (z3, .inl (G.2.2.2.1, 16, .inl (upd (upd (upd (upd (upd (upd (upd (upd (upd (upd (upd (upd (upd (upd (upd (upd (fun _ => 0) 0 0) 1 0) 2 0) 3 0) 4 0) 5 0) 6 0) 7 0) 8 0) 9 0) 10 0) 11 0) 12 0) 13 0) 14 0) 15 0)))] H := hP
  have hD : va_D A [(z0, .inr (8, [.ref z1, .ref z51, .ref z52, .ref z2, .ref z3, .int 0, .int 0, .int 9, .int 0, .int 0])), (z2, .inl (G.1, 16, .inl (upd (upd (upd (upd (upd (upd (upd (upd (upd (upd (upd (upd (upd (upd (upd (upd (fun _ => 0) 0 0) 1 0) 2 0) 3 0) 4 0) 5 0) 6 0) 7 0) 8 0) 9 0) 10 0) 11 0) 12 0) 13 0) 14 0) 15 0))), (z3, .inl (G.2.2.2.1, 16, .inl (upd (upd (upd (upd (upd (upd (upd (upd (upd (upd (upd (upd (upd (upd (upd (upd (fun _ => 0) 0 0) 1 0) 2 0) 3 0) 4 0) 5 0) 6 0) 7 0) 8 0) 9 0) 10 0) 11 0) 12 0) 13 0) 14 0) 15 0)))] := hD
  refine lv_iinc (v := 16) (lv' := [(1, .int 16), (0, .ref z0)]) hx hb dX8_rewind_52 hl (k := 0) rfl (by decide) (by decide) rfl (fun ls hl => ?_)
  refine lv_goto (tgt := 32) hx hb dX8_rewind_55 (by decide) ?_
  refine lv_iload_n hx hb dX8_rewind_32 rfl (lv_at hl 0 rfl) ?_
  refine lv_bipush (v := 16) hx hb dX8_rewind_33 (by decide) ?_
  refine lv_icmp_ge (tgt := 58) hx hb dX8_rewind_35 (by decide) (fun _ => ?_) (fun h9 => absurd h9 (by decide))
  exact W.vret hx hb hr (fun t ht hW => ⟨⟨(), rfl, trivial, trivial⟩, hS.F ht⟩) hS.2.2 dX8_rewind_58

theorem mX11_again_w0 : Cond.fieldLink RX11 10 "PuppetBridge" "stage" "LPuppetBridge$Stage;" ∈ wsX11_again := by decide +kernel
theorem mX11_again_w1 : Cond.fieldLink RX11 202 "PuppetBridge$Stage" "beat" "I" ∈ wsX11_again := by decide +kernel
theorem iX11_again_X11 : ∀ w ∈ wsX110, w ∈ wsX11_again := fun _ h => List.mem_cons_of_mem _ (List.mem_append_left _ (List.mem_append_left _ (List.mem_append_left _ (List.mem_append_right _ h))))
theorem iX11_again_X8 : ∀ w ∈ wsX80, w ∈ wsX11_again := fun _ h => List.mem_cons_of_mem _ (List.mem_append_left _ (List.mem_append_left _ (List.mem_append_right _ h)))
set_option maxRecDepth 20000 in
theorem ggX11_again_X8_rewind : GoodIn wsX11_again wsX8_rewind := goodIn_r _ [7, 8, 9, 10, 11, 12, 13, 14, 15, 16, 17, 18, 19, 20, 21, 22, 23, 24, 25, 26, 27, 28, 29, 30, 31, 32, 33, 34, 35, 36, 37, 38, 39, 40, 41, 42, 43, 44, 45, 46, 47, 48, 49, 50, 51, 52, 53, 54, 55, 56, 57, 58, 59, 60, 61, 62, 63, 64, 65, 66, 67, 68, 69, 70, 79, 80, 81, 82, 83, 84, 85, 86, 87, 88, 89, 90, 91, 92, 93, 94, 95, 96, 97, 98, 99, 100, 101, 102, 103, 104, 105, 106, 107, 108, 109, 110, 111, 112] (by decide +kernel) (by decide +kernel)
set_option maxRecDepth 20000 in
theorem gX11_again_X8_rewind : GoodIn wsX11_again (wsV RX11 208 RX8 yX8_rewind wsX8_rewind) := goodIn_app (goodIn_of _ (by decide +kernel)) ggX11_again_X8_rewind
theorem dX11_again_0 : decode cX11_again 0 = .ok (.aload_n 0, 1) := by decide +kernel
theorem dX11_again_1 : decode cX11_again 1 = .ok (.getfield 10, 3) := by decide +kernel
theorem dX11_again_4 : decode cX11_again 4 = .ok (.getfield 202, 3) := by decide +kernel
theorem dX11_again_7 : decode cX11_again 7 = .ok (.istore_n 1, 1) := by decide +kernel
theorem dX11_again_8 : decode cX11_again 8 = .ok (.aload_n 0, 1) := by decide +kernel
theorem dX11_again_9 : decode cX11_again 9 = .ok (.getfield 10, 3) := by decide +kernel
theorem dX11_again_12 : decode cX11_again 12 = .ok (.invokevirtual 208, 3) := by decide +kernel
theorem dX11_again_15 : decode cX11_again 15 = .ok (.iload_n 1, 1) := by decide +kernel
theorem dX11_again_16 : decode cX11_again 16 = .ok (.ireturn, 1) := by decide +kernel
set_option maxHeartbeats 4000000 in
set_option maxRecDepth 100000 in
/-- X11_again -/
theorem kX11_again (l : Launch) (D : va_G) (G : tyG) (h0 : Nat) (z0 : Nat) (z23 : Nat) (z25 : Nat) (z32 : Nat) (z36 : Nat) (z40 : Nat) (z43 : Nat) (z49 : Nat) (z1 : Nat) (z51 : Nat) (z52 : Nat) (z2 : Nat) (z3 : Nat) (sz : Nat) : Met l yX11_again wsX11_again ({ frames := 1, cells := 0, slots := 0, locals := 21 }) (va_Pc [.ref h0] (wB D G sz [(h0, .inr (11, [.ref z0, .ref z23, .ref z25, .ref z32, .ref z36, .ref z40, .ref z43, .ref z49])), (z0, .inr (8, [.ref z1, .ref z51, .ref z52, .ref z2, .ref z3, .int 0, .int 0, .int 9, .int 0, .int 0])), (z2, .inl (G.1, 16, .inl (fun _ => 0))), (z3, .inl (G.2.2.2.1, 16, .inl (fun _ => 0)))])) (va_Qi (fun (r : Int32) (_ : Unit) => r = 0) (fun _ _ => True) (va_A [(h0, .inr (11, [.ref z0, .ref z23, .ref z25, .ref z32, .ref z36, .ref z40, .ref z43, .ref z49])), (z0, .inr (8, [.ref z1, .ref z51, .ref z52, .ref z2, .ref z3, .int 0, .int 0, .int 9, .int 0, .int 0])), (z2, .inl (G.1, 16, .inl (fun _ => 0))), (z3, .inl (G.2.2.2.1, 16, .inl (fun _ => 0)))] sz)) 0 0 (va_A [(h0, .inr (11, [.ref z0, .ref z23, .ref z25, .ref z32, .ref z36, .ref z40, .ref z43, .ref z49])), (z0, .inr (8, [.ref z1, .ref z51, .ref z52, .ref z2, .ref z3, .int 0, .int 0, .int 9, .int 0, .int 0])), (z2, .inl (G.1, 16, .inl (fun _ => 0))), (z3, .inl (G.2.2.2.1, 16, .inl (fun _ => 0)))] sz) := by
  refine Met.ofW (cc := cX11_again) (maxL := 2) (ret := (some .int)) (by decide) rfl ?_
  intro p e s m args below meth c s₁ B hml hv
  obtain ⟨rfl, hsz, hP, hK, hD0, hN⟩ := hv
  have hx := B.exec
  have hb := B.bytes
  have hr := B.returns
  have hts := atoms_spec (ws := wsX11_again) B.pre
  have hown : s.vm.findClass RX11 = some m.cls := findClass_of_methodNamed B.named
  have hlocks := B.notSynchronized
  subst hsz
  have hD := hD0.self (sz := s.heap.size)
  generalize hAe : va_A [(h0, .inr (11, [.ref z0, .ref z23, .ref z25, .ref z32, .ref z36, .ref z40, .ref z43, .ref z49])), (z0, .inr (8, [.ref z1, .ref z51, .ref z52, .ref z2, .ref z3, .int 0, .int 0, .int 9, .int 0, .int 0])), (z2, .inl (G.1, 16, .inl (fun _ => 0))), (z3, .inl (G.2.2.2.1, 16, .inl (fun _ => 0)))] s.heap.size = A at hD ⊢
  have hA : ∀ q : Nat, s.heap.size ≤ q → A q := fun q h => by rw [← hAe]; exact Or.inr h
  have hS : va_S A s.heap s.heap [] := va_S.rf
  have hP : va_P D vwCl [(h0, .inr (11, [.ref z0, .ref z23, .ref z25, .ref z32, .ref z36, .ref z40, .ref z43, .ref z49])), (z0, .inr (8, [.ref z1, .ref z51, .ref z52, .ref z2, .ref z3, .int 0, .int 0, .int 9, .int 0, .int 0])), (z2, .inl (G.1, 16, .inl (fun _ => 0))), (z3, .inl (G.2.2.2.1, 16, .inl (fun _ => 0)))] s.heap := hP
  have hl := lv_entry ([.ref h0]) (n := 2) (Nat.le_of_ble_eq_true rfl)
  rw [lg_entry_eq]
  generalize (lg_sl ([.ref h0]) ++ List.replicate (2 - (lg_sl ([.ref h0])).length) Slot.unset).toArray = ls at hl ⊢
  have hl : lv_has ls 2 [(0, .ref h0)] := hl
  refine lv_aload_n hx hb dX11_again_0 rfl (lv_at hl 0 rfl) ?_
  refine va_get (D := D) (ci := 11) (v := .ref z0) (C := RX11) (T := TX11) (N := 8) hx hb hts iX11_again_X11 hown hK hP 0 rfl rfl 0 (by decide) (hts (.fieldLink RX11 10 "PuppetBridge" "stage" "LPuppetBridge$Stage;") mX11_again_w0) (fun _ h9 => h9) rfl dX11_again_1 ?_
  refine va_get (D := D) (ci := 8) (v := .int 0) (C := RX8) (T := TX8) (N := 10) hx hb hts iX11_again_X8 hown hK hP 1 rfl rfl 6 (by decide) (hts (.fieldLink RX11 202 "PuppetBridge$Stage" "beat" "I") mX11_again_w1) (fun _ h9 => h9) rfl dX11_again_4 ?_
  refine lv_istore_n (lv' := [(1, .int 0), (0, .ref h0)]) hx hb dX11_again_7 rfl hl (by decide) rfl (fun ls hl => ?_)
  refine lv_aload_n hx hb dX11_again_8 rfl (lv_at hl 1 rfl) ?_
  refine va_get (D := D) (ci := 11) (v := .ref z0) (C := RX11) (T := TX11) (N := 8) hx hb hts iX11_again_X11 hown hK hP 0 rfl rfl 0 (by decide) (hts (.fieldLink RX11 10 "PuppetBridge" "stage" "LPuppetBridge$Stage;") mX11_again_w0) (fun _ h9 => h9) rfl dX11_again_9 ?_
  have hPc := hP.sub (ws' := [(z0, .inr (8, [.ref z1, .ref z51, .ref z52, .ref z2, .ref z3, .int 0, .int 0, .int 9, .int 0, .int 0])), (z2, .inl (G.1, 16, .inl (fun _ => 0))), (z3, .inl (G.2.2.2.1, 16, .inl (fun _ => 0)))]) [1, 2, 3] rfl
  have hDc := hD.sub (ws' := [(z0, .inr (8, [.ref z1, .ref z51, .ref z52, .ref z2, .ref z3, .int 0, .int 0, .int 9, .int 0, .int 0])), (z2, .inl (G.1, 16, .inl (fun _ => 0))), (z3, .inl (G.2.2.2.1, 16, .inl (fun _ => 0)))]) [1, 2, 3] (by decide) rfl
  have hFc := va_free (wc := [(z0, .inr (8, [.ref z1, .ref z51, .ref z52, .ref z2, .ref z3, .int 0, .int 0, .int 9, .int 0, .int 0])), (z2, .inl (G.1, 16, .inl (fun _ => 0))), (z3, .inl (G.2.2.2.1, 16, .inl (fun _ => 0)))]) hD hS hA [1, 2, 3] rfl
  refine va_callv (va_runV (As := []) (rest := []) ⟨hx, hb, hml, hown, hts⟩ (kX8_rewind l D G z0 z1 z51 z52 z2 z3 s.heap.size) (cwV 0 hts gX11_again_X8_rewind rfl rfl rfl (by decide +kernel) ⟨Nat.le_of_ble_eq_true rfl, Nat.le_of_ble_eq_true rfl⟩) ⟨wB_blind, va_recv hK hPc (ci := 8) (q0 := 0) rfl rfl, wB_pre hPc hK hDc hN⟩ rfl rfl hl.1 rfl (lv_room (Nat.le_of_ble_eq_true rfl)) dX11_again_12 ⟨Nat.le_of_ble_eq_true rfl, Nat.le_of_ble_eq_true rfl⟩) hS (fun q _ h => hFc q h) hFc (fun u t H1 locs ht hvm hr1 hB hz1 hk1 hS => ?_)
  obtain ⟨hP, hD⟩ := va_join (wr := [(h0, .inr (11, [.ref z0, .ref z23, .ref z25, .ref z32, .ref z36, .ref z40, .ref z43, .ref z49]))]) (w1 := []) hP hD [1, 2, 3] [0] rfl rfl (by decide) (by decide) hk1 hFc wP_nil wD_nil
  clear hPc hDc
  generalize H1 = H at hP hS ⊢
  have hP : va_P D vwCl [(h0, .inr (11, [.ref z0, .ref z23, .ref z25, .ref z32, .ref z36, .ref z40, .ref z43, .ref z49]))] H := hP
  have hD : va_D A [(h0, .inr (11, [.ref z0, .ref z23, .ref z25, .ref z32, .ref z36, .ref z40, .ref z43, .ref z49]))] := hD
  refine lv_iload_n hx hb dX11_again_15 rfl (lv_at hl 0 rfl) ?_
  exact W.iret (v := 0) hx hb hr (fun t ht hW => ⟨⟨0, (), rfl, rfl, trivial⟩, hS.F ht⟩) hS.2.2 dX11_again_16

theorem mX3_share_w0 : Cond.fieldLink RX3 21 "PuppetBridge$Hands" "count" "I" ∈ wsX3_share := by decide +kernel
theorem mX3_share_w2 : Cond.fieldLink RX3 31 "PuppetBridge$Row" "size" "I" ∈ wsX3_share := by decide +kernel
theorem mX3_share_w3 : Cond.fieldLink RX3 15 "PuppetBridge$Hands" "holder" "[I" ∈ wsX3_share := by decide +kernel
theorem iX3_share_X3 : ∀ w ∈ wsX30, w ∈ wsX3_share := fun _ h => List.mem_cons_of_mem _ (List.mem_append_left _ (List.mem_append_right _ h))
theorem iX3_share_X5 : ∀ w ∈ wsX50, w ∈ wsX3_share := fun _ h => List.mem_cons_of_mem _ (List.mem_append_right _ h)
theorem dX3_share_0 : decode cX3_share 0 = .ok (.iconst 0, 1) := by decide +kernel
theorem dX3_share_1 : decode cX3_share 1 = .ok (.istore_n 3, 1) := by decide +kernel
theorem dX3_share_2 : decode cX3_share 2 = .ok (.iload_n 3, 1) := by decide +kernel
theorem dX3_share_3 : decode cX3_share 3 = .ok (.aload_n 0, 1) := by decide +kernel
theorem dX3_share_4 : decode cX3_share 4 = .ok (.getfield 21, 3) := by decide +kernel
theorem dX3_share_7 : decode cX3_share 7 = .ok (.if_icmp .ge 26, 3) := by decide +kernel
theorem dX3_share_33 : decode cX3_share 33 = .ok (.aload_n 2, 1) := by decide +kernel
theorem dX3_share_34 : decode cX3_share 34 = .ok (.iconst 0, 1) := by decide +kernel
theorem dX3_share_35 : decode cX3_share 35 = .ok (.putfield 31, 3) := by decide +kernel
theorem dX3_share_38 : decode cX3_share 38 = .ok (.iconst 0, 1) := by decide +kernel
theorem dX3_share_39 : decode cX3_share 39 = .ok (.istore_n 3, 1) := by decide +kernel
theorem dX3_share_40 : decode cX3_share 40 = .ok (.iload_n 3, 1) := by decide +kernel
theorem dX3_share_41 : decode cX3_share 41 = .ok (.iconst 4, 1) := by decide +kernel
theorem dX3_share_42 : decode cX3_share 42 = .ok (.if_icmp .ge 16, 3) := by decide +kernel
theorem dX3_share_45 : decode cX3_share 45 = .ok (.aload_n 0, 1) := by decide +kernel
theorem dX3_share_46 : decode cX3_share 46 = .ok (.getfield 15, 3) := by decide +kernel
theorem dX3_share_49 : decode cX3_share 49 = .ok (.iload_n 3, 1) := by decide +kernel
theorem dX3_share_50 : decode cX3_share 50 = .ok (.iconst (-1), 1) := by decide +kernel
theorem dX3_share_51 : decode cX3_share 51 = .ok (.iastore, 1) := by decide +kernel
theorem dX3_share_52 : decode cX3_share 52 = .ok (.iinc 3 1, 3) := by decide +kernel
theorem dX3_share_55 : decode cX3_share 55 = .ok (.goto (-15), 3) := by decide +kernel
theorem dX3_share_58 : decode cX3_share 58 = .ok (.iconst 0, 1) := by decide +kernel
theorem dX3_share_59 : decode cX3_share 59 = .ok (.istore_n 3, 1) := by decide +kernel
theorem dX3_share_60 : decode cX3_share 60 = .ok (.iload_n 3, 1) := by decide +kernel
theorem dX3_share_61 : decode cX3_share 61 = .ok (.aload_n 0, 1) := by decide +kernel
theorem dX3_share_62 : decode cX3_share 62 = .ok (.getfield 21, 3) := by decide +kernel
theorem dX3_share_65 : decode cX3_share 65 = .ok (.if_icmp .ge 56, 3) := by decide +kernel
theorem dX3_share_121 : decode cX3_share 121 = .ok (.iconst 0, 1) := by decide +kernel
theorem dX3_share_122 : decode cX3_share 122 = .ok (.ireturn, 1) := by decide +kernel
set_option maxHeartbeats 4000000 in
set_option maxRecDepth 100000 in
/-- X3_share -/
theorem kX3_share (l : Launch) (D : va_G) (G : tyG) (z36 : Nat) (pp : Int32) (z49 : Nat) (z37 : Nat) (z38 : Nat) (z39 : Nat) (z50 : Nat) (sz : Nat) : Met l yX3_share wsX3_share ({ frames := 0, cells := 0, slots := 0, locals := 0 }) (va_Pc [.ref z36, .int pp, .ref z49] (wB D G sz [(z36, .inr (3, [.ref z37, .ref z38, .ref z39, .int 0])), (z49, .inr (5, [.ref z50, .int 0])), (z38, .inl (G.1, 4, .inl (fun _ => 0)))])) (va_Qi (fun (r : Int32) (_ : Unit) => r = 0) (fun _ _ => True) (va_A [(z36, .inr (3, [.ref z37, .ref z38, .ref z39, .int 0])), (z49, .inr (5, [.ref z50, .int 0])), (z38, .inl (G.1, 4, .inl (fun _ => 0)))] sz)) 0 0 (va_A [(z36, .inr (3, [.ref z37, .ref z38, .ref z39, .int 0])), (z49, .inr (5, [.ref z50, .int 0])), (z38, .inl (G.1, 4, .inl (fun _ => 0)))] sz) := by
  refine Met.ofW (cc := cX3_share) (maxL := 5) (ret := (some .int)) (by decide) rfl ?_
  intro p e s m args below meth c s₁ B hml hv
  obtain ⟨rfl, hsz, hP, hK, hD0, hN⟩ := hv
  have hx := B.exec
  have hb := B.bytes
  have hr := B.returns
  have hts := atoms_spec (ws := wsX3_share) B.pre
  have hown : s.vm.findClass RX3 = some m.cls := findClass_of_methodNamed B.named
  have hlocks := B.notSynchronized
  subst hsz
  have hD := hD0.self (sz := s.heap.size)
  generalize hAe : va_A [(z36, .inr (3, [.ref z37, .ref z38, .ref z39, .int 0])), (z49, .inr (5, [.ref z50, .int 0])), (z38, .inl (G.1, 4, .inl (fun _ => 0)))] s.heap.size = A at hD ⊢
  have hA : ∀ q : Nat, s.heap.size ≤ q → A q := fun q h => by rw [← hAe]; exact Or.inr h
  have hS : va_S A s.heap s.heap [] := va_S.rf
  have hP : va_P D vwCl [(z36, .inr (3, [.ref z37, .ref z38, .ref z39, .int 0])), (z49, .inr (5, [.ref z50, .int 0])), (z38, .inl (G.1, 4, .inl (fun _ => 0)))] s.heap := hP
  have hl := lv_entry ([.ref z36, .int pp, .ref z49]) (n := 5) (Nat.le_of_ble_eq_true rfl)
  rw [lg_entry_eq]
  generalize (lg_sl ([.ref z36, .int pp, .ref z49]) ++ List.replicate (5 - (lg_sl ([.ref z36, .int pp, .ref z49])).length) Slot.unset).toArray = ls at hl ⊢
  have hl : lv_has ls 5 [(0, .ref z36), (1, .int pp), (2, .ref z49)] := hl
  refine lv_iconst (v := 0) hx hb dX3_share_0 (by decide) ?_
  refine lv_istore_n (lv' := [(3, .int 0), (0, .ref z36), (1, .int pp), (2, .ref z49)]) hx hb dX3_share_1 rfl hl (by decide) rfl (fun ls hl => ?_)
  refine lv_iload_n hx hb dX3_share_2 rfl (lv_at hl 0 rfl) ?_
  refine lv_aload_n hx hb dX3_share_3 rfl (lv_at hl 1 rfl) ?_
  refine va_get (D := D) (ci := 3) (v := .int 0) (C := RX3) (T := TX3) (N := 4) hx hb hts iX3_share_X3 hown hK hP 0 rfl rfl 3 (by decide) (hts (.fieldLink RX3 21 "PuppetBridge$Hands" "count" "I") mX3_share_w0) (fun _ h9 => h9) rfl dX3_share_4 ?_
  refine lv_icmp_ge (tgt := 33) hx hb dX3_share_7 (by decide) (fun _ => ?_) (fun h9 => absurd h9 (by decide))
  refine lv_aload_n hx hb dX3_share_33 rfl (lv_at hl 3 rfl) ?_
  refine lv_iconst (v := 0) hx hb dX3_share_34 (by decide) ?_
  refine va_put (D := D) (ci := 5) (v := .int 0) (ty := (tyX5 1)) (C := RX5) (T := TX5) (N := 2) hx hb hts iX3_share_X5 tyX5 tyX5_ok nmX5 hown hK hP hD hS 1 rfl rfl 1 (by decide) (hts (.fieldLink RX3 31 "PuppetBridge$Row" "size" "I") mX3_share_w2) (fun _ h9 => h9) rfl (tyX5_ok 1 (by decide)) rfl rfl (Nat.le_of_ble_eq_true rfl) dX3_share_35 (fun H locs hP hD hS => ?_)
  have hP : va_P D vwCl [(z36, .inr (3, [.ref z37, .ref z38, .ref z39, .int 0])), (z49, .inr (5, [.ref z50, .int 0])), (z38, .inl (G.1, 4, .inl (fun _ => 0)))] H := hP
  have hD : va_D A [(z36, .inr (3, [.ref z37, .ref z38, .ref z39, .int 0])), (z49, .inr (5, [.ref z50, .int 0])), (z38, .inl (G.1, 4, .inl (fun _ => 0)))] := hD
  refine lv_iconst (v := 0) hx hb dX3_share_38 (by decide) ?_
  refine lv_istore_n (lv' := [(3, .int 0), (0, .ref z36), (1, .int pp), (2, .ref z49)]) hx hb dX3_share_39 rfl hl (by decide) rfl (fun ls hl => ?_)
  refine lv_iload_n hx hb dX3_share_40 rfl (lv_at hl 0 rfl) ?_
  refine lv_iconst (v := 4) hx hb dX3_share_41 (by decide) ?_
  refine lv_icmp_ge (tgt := 58) hx hb dX3_share_42 (by decide) (fun h9 => absurd h9 (by decide)) (fun _ => ?_)
  refine lv_aload_n hx hb dX3_share_45 rfl (lv_at hl 1 rfl) ?_
  refine va_get (D := D) (ci := 3) (v := .ref z38) (C := RX3) (T := TX3) (N := 4) hx hb hts iX3_share_X3 hown hK hP 0 rfl rfl 1 (by decide) (hts (.fieldLink RX3 15 "PuppetBridge$Hands" "holder" "[I") mX3_share_w3) (fun _ h9 => h9) rfl dX3_share_46 ?_
  refine lv_iload_n hx hb dX3_share_49 rfl (lv_at hl 0 rfl) ?_
  refine lv_iconst (v := (-1)) hx hb dX3_share_50 (by decide) ?_
  refine va_iast hx hb hK hP hD hS 2 0 rfl rfl (wk_in rfl) dX3_share_51 (fun H locs hP hD hS => ?_)
  have hP : va_P D vwCl [(z36, .inr (3, [.ref z37, .ref z38, .ref z39, .int 0])), (z49, .inr (5, [.ref z50, .int 0])), (z38, .inl (G.1, 4, .inl (upd (fun _ => 0) 0 (-1))))] H := hP
  have hD : va_D A [(z36, .inr (3, [.ref z37, .ref z38, .ref z39, .int 0])), (z49, .inr (5, [.ref z50, .int 0])), (z38, .inl (G.1, 4, .inl (upd (fun _ => 0) 0 (-1))))] := hD
  refine lv_iinc (v := 1) (lv' := [(3, .int 1), (0, .ref z36), (1, .int pp), (2, .ref z49)]) hx hb dX3_share_52 hl (k := 0) rfl (by decide) (by decide) rfl (fun ls hl => ?_)
  refine lv_goto (tgt := 40) hx hb dX3_share_55 (by decide) ?_
  refine lv_iload_n hx hb dX3_share_40 rfl (lv_at hl 0 rfl) ?_
  refine lv_iconst (v := 4) hx hb dX3_share_41 (by decide) ?_
  refine lv_icmp_ge (tgt := 58) hx hb dX3_share_42 (by decide) (fun h9 => absurd h9 (by decide)) (fun _ => ?_)
  refine lv_aload_n hx hb dX3_share_45 rfl (lv_at hl 1 rfl) ?_
  refine va_get (D := D) (ci := 3) (v := .ref z38) (C := RX3) (T := TX3) (N := 4) hx hb hts iX3_share_X3 hown hK hP 0 rfl rfl 1 (by decide) (hts (.fieldLink RX3 15 "PuppetBridge$Hands" "holder" "[I") mX3_share_w3) (fun _ h9 => h9) rfl dX3_share_46 ?_
  refine lv_iload_n hx hb dX3_share_49 rfl (lv_at hl 0 rfl) ?_
  refine lv_iconst (v := (-1)) hx hb dX3_share_50 (by decide) ?_
  refine va_iast hx hb hK hP hD hS 2 0 rfl rfl (wk_in rfl) dX3_share_51 (fun H locs hP hD hS => ?_)
  have hP : va_P D vwCl [(z36, .inr (3, [.ref z37, .ref z38, .ref z39, .int 0])), (z49, .inr (5, [.ref z50, .int 0])), (z38, .inl (G.1, 4, .inl (upd (upd (fun _ => 0) 0 (-1)) 1 (-1))))] H := hP
  have hD : va_D A [(z36, .inr (3, [.ref z37, .ref z38, .ref z39, .int 0])), (z49, .inr (5, [.ref z50, .int 0])), (z38, .inl (G.1, 4, .inl (upd (upd (fun _ => 0) 0 (-1)) 1 (-1))))] := hD
  refine lv_iinc (v := 2) (lv' := [(3, .int 2), (0, .ref z36), (1, .int pp), (2, .ref z49)]) hx hb dX3_share_52 hl (k := 0) rfl (by decide) (by decide) rfl (fun ls hl => ?_)
  refine lv_goto (tgt := 40) hx hb dX3_share_55 (by decide) ?_
  refine lv_iload_n hx hb dX3_share_40 rfl (lv_at hl 0 rfl) ?_
  refine lv_iconst (v := 4) hx hb dX3_share_41 (by decide) ?_
  refine lv_icmp_ge (tgt := 58) hx hb dX3_share_42 (by decide) (fun h9 => absurd h9 (by decide)) (fun _ => ?_)
  refine lv_aload_n hx hb dX3_share_45 rfl (lv_at hl 1 rfl) ?_
  refine va_get (D := D) (ci := 3) (v := .ref z38) (C := RX3) (T := TX3) (N := 4) hx hb hts iX3_share_X3 hown hK hP 0 rfl rfl 1 (by decide) (hts (.fieldLink RX3 15 "PuppetBridge$Hands" "holder" "[I") mX3_share_w3) (fun _ h9 => h9) rfl dX3_share_46 ?_
  refine lv_iload_n hx hb dX3_share_49 rfl (lv_at hl 0 rfl) ?_
  refine lv_iconst (v := (-1)) hx hb dX3_share_50 (by decide) ?_
  refine va_iast hx hb hK hP hD hS 2 0 rfl rfl (wk_in rfl) dX3_share_51 (fun H locs hP hD hS => ?_)
  have hP : va_P D vwCl [(z36, .inr (3, [.ref z37, .ref z38, .ref z39, .int 0])), (z49, .inr (5, [.ref z50, .int 0])), (z38, .inl (G.1, 4, .inl (upd (upd (upd (fun _ => 0) 0 (-1)) 1 (-1)) 2 (-1))))] H := hP
  have hD : va_D A [(z36, .inr (3, [.ref z37, .ref z38, .ref z39, .int 0])), (z49, .inr (5, [.ref z50, .int 0])), (z38, .inl (G.1, 4, .inl (upd (upd (upd (fun _ => 0) 0 (-1)) 1 (-1)) 2 (-1))))] := hD
  refine lv_iinc (v := 3) (lv' := [(3, .int 3), (0, .ref z36), (1, .int pp), (2, .ref z49)]) hx hb dX3_share_52 hl (k := 0) rfl (by decide) (by decide) rfl (fun ls hl => ?_)
  refine lv_goto (tgt := 40) hx hb dX3_share_55 (by decide) ?_
  refine lv_iload_n hx hb dX3_share_40 rfl (lv_at hl 0 rfl) ?_
  refine lv_iconst (v := 4) hx hb dX3_share_41 (by decide) ?_
  refine lv_icmp_ge (tgt := 58) hx hb dX3_share_42 (by decide) (fun h9 => absurd h9 (by decide)) (fun _ => ?_)
  refine lv_aload_n hx hb dX3_share_45 rfl (lv_at hl 1 rfl) ?_
  refine va_get (D := D) (ci := 3) (v := .ref z38) (C := RX3) (T := TX3) (N := 4) hx hb hts iX3_share_X3 hown hK hP 0 rfl rfl 1 (by decide) (hts (.fieldLink RX3 15 "PuppetBridge$Hands" "holder" "[I") mX3_share_w3) (fun _ h9 => h9) rfl dX3_share_46 ?_
  refine lv_iload_n hx hb dX3_share_49 rfl (lv_at hl 0 rfl) ?_
  refine lv_iconst (v := (-1)) hx hb dX3_share_50 (by decide) ?_
  refine va_iast hx hb hK hP hD hS 2 0 rfl rfl (wk_in rfl) dX3_share_51 (fun H locs hP hD hS => ?_)
  have hP : va_P D vwCl [(z36, .inr (3, [.ref z37, .ref z38, .ref z39, .int 0])), (z49, .inr (5, [.ref z50, .int 0])), (z38, .inl (G.1, 4, .inl (upd (upd (upd (upd (fun _ => 0) 0 (-1)) 1 (-1)) 2 (-1)) 3 (-1))))] H := hP
  have hD : va_D A [(z36, .inr (3, [.ref z37, .ref z38, .ref z39, .int 0])), (z49, .inr (5, [.ref z50, .int 0])), (z38, .inl (G.1, 4, .inl (upd (upd (upd (upd (fun _ => 0) 0 (-1)) 1 (-1)) 2 (-1)) 3 (-1))))] := hD
  refine lv_iinc (v := 4) (lv' := [(3, .int 4), (0, .ref z36), (1, .int pp), (2, .ref z49)]) hx hb dX3_share_52 hl (k := 0) rfl (by decide) (by decide) rfl (fun ls hl => ?_)
  refine lv_goto (tgt := 40) hx hb dX3_share_55 (by decide) ?_
  refine lv_iload_n hx hb dX3_share_40 rfl (lv_at hl 0 rfl) ?_
  refine lv_iconst (v := 4) hx hb dX3_share_41 (by decide) ?_
  refine lv_icmp_ge (tgt := 58) hx hb dX3_share_42 (by decide) (fun _ => ?_) (fun h9 => absurd h9 (by decide))
  refine lv_iconst (v := 0) hx hb dX3_share_58 (by decide) ?_
  refine lv_istore_n (lv' := [(3, .int 0), (0, .ref z36), (1, .int pp), (2, .ref z49)]) hx hb dX3_share_59 rfl hl (by decide) rfl (fun ls hl => ?_)
  refine lv_iload_n hx hb dX3_share_60 rfl (lv_at hl 0 rfl) ?_
  refine lv_aload_n hx hb dX3_share_61 rfl (lv_at hl 1 rfl) ?_
  refine va_get (D := D) (ci := 3) (v := .int 0) (C := RX3) (T := TX3) (N := 4) hx hb hts iX3_share_X3 hown hK hP 0 rfl rfl 3 (by decide) (hts (.fieldLink RX3 21 "PuppetBridge$Hands" "count" "I") mX3_share_w0) (fun _ h9 => h9) rfl dX3_share_62 ?_
  refine lv_icmp_ge (tgt := 121) hx hb dX3_share_65 (by decide) (fun _ => ?_) (fun h9 => absurd h9 (by decide))
  refine lv_iconst (v := 0) hx hb dX3_share_121 (by decide) ?_
  exact W.iret (v := 0) hx hb hr (fun t ht hW => ⟨⟨0, (), rfl, rfl, trivial⟩, hS.F ht⟩) hS.2.2 dX3_share_122

theorem mX11_cast_w0 : Cond.fieldLink RX11 40 "PuppetBridge" "hands" "LPuppetBridge$Hands;" ∈ wsX11_cast := by decide +kernel
theorem mX11_cast_w1 : Cond.fieldLink RX11 61 "PuppetBridge" "told" "LPuppetBridge$Row;" ∈ wsX11_cast := by decide +kernel
theorem iX11_cast_X11 : ∀ w ∈ wsX110, w ∈ wsX11_cast := fun _ h => List.mem_cons_of_mem _ (List.mem_append_left _ (List.mem_append_left _ (List.mem_append_right _ h)))
set_option maxRecDepth 20000 in
theorem ggX11_cast_X11_within : GoodIn wsX11_cast wsX11_within := goodIn_r _ [6] (by decide +kernel) (by decide +kernel)
set_option maxRecDepth 20000 in
theorem gX11_cast_X11_within : GoodIn wsX11_cast (va_wsS RX11 94 yX11_within wsX11_within) := goodIn_app (goodIn_of _ (by decide +kernel)) ggX11_cast_X11_within
set_option maxRecDepth 20000 in
theorem ggX11_cast_X3_share : GoodIn wsX11_cast wsX3_share := goodIn_r _ [11, 12, 13, 14, 15, 16, 17, 18, 19, 20, 21, 22, 23, 24, 25, 10, 26, 27, 28, 29, 30, 31, 32, 33, 34, 35, 36, 37, 38, 47, 48, 49, 50, 51, 52] (by decide +kernel) (by decide +kernel)
set_option maxRecDepth 20000 in
theorem gX11_cast_X3_share : GoodIn wsX11_cast (wsV RX11 273 RX3 yX3_share wsX3_share) := goodIn_app (goodIn_of _ (by decide +kernel)) ggX11_cast_X3_share
theorem dX11_cast_0 : decode cX11_cast 0 = .ok (.iload_n 1, 1) := by decide +kernel
theorem dX11_cast_1 : decode cX11_cast 1 = .ok (.iconst 1, 1) := by decide +kernel
theorem dX11_cast_2 : decode cX11_cast 2 = .ok (.iconst 3, 1) := by decide +kernel
theorem dX11_cast_3 : decode cX11_cast 3 = .ok (.invokestatic 94, 3) := by decide +kernel
theorem dX11_cast_6 : decode cX11_cast 6 = .ok (.ifCond .ne 5, 3) := by decide +kernel
theorem dX11_cast_9 : decode cX11_cast 9 = .ok (.iconst (-1), 1) := by decide +kernel
theorem dX11_cast_10 : decode cX11_cast 10 = .ok (.ireturn, 1) := by decide +kernel
theorem dX11_cast_11 : decode cX11_cast 11 = .ok (.aload_n 0, 1) := by decide +kernel
theorem dX11_cast_12 : decode cX11_cast 12 = .ok (.getfield 40, 3) := by decide +kernel
theorem dX11_cast_15 : decode cX11_cast 15 = .ok (.iload_n 1, 1) := by decide +kernel
theorem dX11_cast_16 : decode cX11_cast 16 = .ok (.aload_n 0, 1) := by decide +kernel
theorem dX11_cast_17 : decode cX11_cast 17 = .ok (.getfield 61, 3) := by decide +kernel
theorem dX11_cast_20 : decode cX11_cast 20 = .ok (.invokevirtual 273, 3) := by decide +kernel
theorem dX11_cast_23 : decode cX11_cast 23 = .ok (.ireturn, 1) := by decide +kernel
set_option maxHeartbeats 4000000 in
set_option maxRecDepth 100000 in
/-- X11_cast -/
theorem kX11_cast (l : Launch) (D : va_G) (G : tyG) (h0 : Nat) (x1 : Int32) (z0 : Nat) (z23 : Nat) (z25 : Nat) (z32 : Nat) (z36 : Nat) (z40 : Nat) (z43 : Nat) (z49 : Nat) (z37 : Nat) (z38 : Nat) (z39 : Nat) (z50 : Nat) (sz : Nat) : Met l yX11_cast wsX11_cast ({ frames := 1, cells := 0, slots := 0, locals := 24 }) (va_Pc [.ref h0, .int x1] (wB D G sz [(h0, .inr (11, [.ref z0, .ref z23, .ref z25, .ref z32, .ref z36, .ref z40, .ref z43, .ref z49])), (z36, .inr (3, [.ref z37, .ref z38, .ref z39, .int 0])), (z49, .inr (5, [.ref z50, .int 0])), (z38, .inl (G.1, 4, .inl (fun _ => 0)))])) (va_Qi (fun (r : Int32) (_ : Unit) => r = (if inB x1 1 3 = true then 0 else -1)) (fun _ _ => True) (va_A [(h0, .inr (11, [.ref z0, .ref z23, .ref z25, .ref z32, .ref z36, .ref z40, .ref z43, .ref z49])), (z36, .inr (3, [.ref z37, .ref z38, .ref z39, .int 0])), (z49, .inr (5, [.ref z50, .int 0])), (z38, .inl (G.1, 4, .inl (fun _ => 0)))] sz)) 0 0 (va_A [(h0, .inr (11, [.ref z0, .ref z23, .ref z25, .ref z32, .ref z36, .ref z40, .ref z43, .ref z49])), (z36, .inr (3, [.ref z37, .ref z38, .ref z39, .int 0])), (z49, .inr (5, [.ref z50, .int 0])), (z38, .inl (G.1, 4, .inl (fun _ => 0)))] sz) := by
  refine Met.ofW (cc := cX11_cast) (maxL := 2) (ret := (some .int)) (by decide) rfl ?_
  intro p e s m args below meth c s₁ B hml hv
  obtain ⟨rfl, hsz, hP, hK, hD0, hN⟩ := hv
  have hx := B.exec
  have hb := B.bytes
  have hr := B.returns
  have hts := atoms_spec (ws := wsX11_cast) B.pre
  have hown : s.vm.findClass RX11 = some m.cls := findClass_of_methodNamed B.named
  have hlocks := B.notSynchronized
  subst hsz
  have hD := hD0.self (sz := s.heap.size)
  generalize hAe : va_A [(h0, .inr (11, [.ref z0, .ref z23, .ref z25, .ref z32, .ref z36, .ref z40, .ref z43, .ref z49])), (z36, .inr (3, [.ref z37, .ref z38, .ref z39, .int 0])), (z49, .inr (5, [.ref z50, .int 0])), (z38, .inl (G.1, 4, .inl (fun _ => 0)))] s.heap.size = A at hD ⊢
  have hA : ∀ q : Nat, s.heap.size ≤ q → A q := fun q h => by rw [← hAe]; exact Or.inr h
  have hS : va_S A s.heap s.heap [] := va_S.rf
  have hP : va_P D vwCl [(h0, .inr (11, [.ref z0, .ref z23, .ref z25, .ref z32, .ref z36, .ref z40, .ref z43, .ref z49])), (z36, .inr (3, [.ref z37, .ref z38, .ref z39, .int 0])), (z49, .inr (5, [.ref z50, .int 0])), (z38, .inl (G.1, 4, .inl (fun _ => 0)))] s.heap := hP
  have hl := lv_entry ([.ref h0, .int x1]) (n := 2) (Nat.le_of_ble_eq_true rfl)
  rw [lg_entry_eq]
  generalize (lg_sl ([.ref h0, .int x1]) ++ List.replicate (2 - (lg_sl ([.ref h0, .int x1])).length) Slot.unset).toArray = ls at hl ⊢
  have hl : lv_has ls 2 [(0, .ref h0), (1, .int x1)] := hl
  refine lv_iload_n hx hb dX11_cast_0 rfl (lv_at hl 1 rfl) ?_
  refine lv_iconst (v := 1) hx hb dX11_cast_1 (by decide) ?_
  refine lv_iconst (v := 3) hx hb dX11_cast_2 (by decide) ?_
  have hPc := hP.sub (ws' := []) [] rfl
  have hDc := hD.sub (ws' := []) [] (by decide) rfl
  have hFc := va_free (wc := []) hD hS hA [] rfl
  refine va_calli (va_runS (As := [.int x1, .int 1, .int 3]) (rest := []) ⟨hx, hb, hml, hown, hts⟩ (kX11_within l D G x1 1 3 s.heap.size) (va_cwS 3 hts gX11_cast_X11_within rfl rfl rfl (by decide +kernel) ⟨Nat.le_of_ble_eq_true rfl, Nat.le_of_ble_eq_true rfl⟩) ⟨wB_blind, wB_pre hPc hK hDc hN⟩ rfl rfl hl.1 rfl (lv_room (Nat.le_of_ble_eq_true rfl)) dX11_cast_3 ⟨Nat.le_of_ble_eq_true rfl, Nat.le_of_ble_eq_true rfl⟩) hS (fun q _ h => hFc q h) hFc (fun r1 u t H1 locs ht hvm hr1 hB hz1 hk1 hS => ?_)
  obtain ⟨hP, hD⟩ := va_join (wr := [(h0, .inr (11, [.ref z0, .ref z23, .ref z25, .ref z32, .ref z36, .ref z40, .ref z43, .ref z49])), (z36, .inr (3, [.ref z37, .ref z38, .ref z39, .int 0])), (z49, .inr (5, [.ref z50, .int 0])), (z38, .inl (G.1, 4, .inl (fun _ => 0)))]) (w1 := []) hP hD [] [0, 1, 2, 3] rfl rfl (by decide) (by decide) hk1 hFc wP_nil wD_nil
  clear hPc hDc
  generalize H1 = H at hP hS ⊢
  have hP : va_P D vwCl [(h0, .inr (11, [.ref z0, .ref z23, .ref z25, .ref z32, .ref z36, .ref z40, .ref z43, .ref z49])), (z36, .inr (3, [.ref z37, .ref z38, .ref z39, .int 0])), (z49, .inr (5, [.ref z50, .int 0])), (z38, .inl (G.1, 4, .inl (fun _ => 0)))] H := hP
  have hD : va_D A [(h0, .inr (11, [.ref z0, .ref z23, .ref z25, .ref z32, .ref z36, .ref z40, .ref z43, .ref z49])), (z36, .inr (3, [.ref z37, .ref z38, .ref z39, .int 0])), (z49, .inr (5, [.ref z50, .int 0])), (z38, .inl (G.1, 4, .inl (fun _ => 0)))] := hD
  refine lv_if_ne (tgt := 11) hx hb dX11_cast_6 (by decide) (fun c2 => ?_) (fun c2 => ?_)
  · have kc2 : (inB x1 1 3) = true := wk_b1 hr1 c2
    refine lv_aload_n hx hb dX11_cast_11 rfl (lv_at hl 0 rfl) ?_
    refine va_get (D := D) (ci := 11) (v := .ref z36) (C := RX11) (T := TX11) (N := 8) hx hb hts iX11_cast_X11 hown hK hP 0 rfl rfl 4 (by decide) (hts (.fieldLink RX11 40 "PuppetBridge" "hands" "LPuppetBridge$Hands;") mX11_cast_w0) (fun _ h9 => h9) rfl dX11_cast_12 ?_
    refine lv_iload_n hx hb dX11_cast_15 rfl (lv_at hl 1 rfl) ?_
    refine lv_aload_n hx hb dX11_cast_16 rfl (lv_at hl 0 rfl) ?_
    refine va_get (D := D) (ci := 11) (v := .ref z49) (C := RX11) (T := TX11) (N := 8) hx hb hts iX11_cast_X11 hown hK hP 0 rfl rfl 7 (by decide) (hts (.fieldLink RX11 61 "PuppetBridge" "told" "LPuppetBridge$Row;") mX11_cast_w1) (fun _ h9 => h9) rfl dX11_cast_17 ?_
    have hPc := hP.sub (ws' := [(z36, .inr (3, [.ref z37, .ref z38, .ref z39, .int 0])), (z49, .inr (5, [.ref z50, .int 0])), (z38, .inl (G.1, 4, .inl (fun _ => 0)))]) [1, 2, 3] rfl
    have hDc := hD.sub (ws' := [(z36, .inr (3, [.ref z37, .ref z38, .ref z39, .int 0])), (z49, .inr (5, [.ref z50, .int 0])), (z38, .inl (G.1, 4, .inl (fun _ => 0)))]) [1, 2, 3] (by decide) rfl
    have hFc := va_free (wc := [(z36, .inr (3, [.ref z37, .ref z38, .ref z39, .int 0])), (z49, .inr (5, [.ref z50, .int 0])), (z38, .inl (G.1, 4, .inl (fun _ => 0)))]) hD hS hA [1, 2, 3] rfl
    refine va_calli (va_runV (As := [.int x1, .ref z49]) (rest := []) ⟨hx, hb, hml, hown, hts⟩ (kX3_share l D G z36 x1 z49 z37 z38 z39 z50 H.size) (cwV 2 hts gX11_cast_X3_share rfl rfl rfl (by decide +kernel) ⟨Nat.le_of_ble_eq_true rfl, Nat.le_of_ble_eq_true rfl⟩) ⟨wB_blind, va_recv hK hPc (ci := 3) (q0 := 0) rfl rfl, wB_pre hPc hK hDc hN⟩ rfl rfl hl.1 rfl (lv_room (Nat.le_of_ble_eq_true rfl)) dX11_cast_20 ⟨Nat.le_of_ble_eq_true rfl, Nat.le_of_ble_eq_true rfl⟩) hS (fun q _ h => hFc q h) hFc (fun r3 u t H1 locs ht hvm hr3 hB hz1 hk1 hS => ?_)
    obtain ⟨hP, hD⟩ := va_join (wr := [(h0, .inr (11, [.ref z0, .ref z23, .ref z25, .ref z32, .ref z36, .ref z40, .ref z43, .ref z49]))]) (w1 := []) hP hD [1, 2, 3] [0] rfl rfl (by decide) (by decide) hk1 hFc wP_nil wD_nil
    clear hPc hDc
    generalize H1 = H at hP hS ⊢
    have hP : va_P D vwCl [(h0, .inr (11, [.ref z0, .ref z23, .ref z25, .ref z32, .ref z36, .ref z40, .ref z43, .ref z49]))] H := hP
    have hD : va_D A [(h0, .inr (11, [.ref z0, .ref z23, .ref z25, .ref z32, .ref z36, .ref z40, .ref z43, .ref z49]))] := hD
    subst hr3
    exact W.iret (v := 0) hx hb hr (fun t ht hW => ⟨⟨0, (), rfl, by first | (simp [kc2]; done) | rfl, trivial⟩, hS.F ht⟩) hS.2.2 dX11_cast_23
  · have kc2 : (inB x1 1 3) = false := wk_b0 hr1 c2
    refine lv_iconst (v := (-1)) hx hb dX11_cast_9 (by decide) ?_
    exact W.iret (v := (-1)) hx hb hr (fun t ht hW => ⟨⟨(-1), (), rfl, by first | (simp [kc2]; done) | rfl, trivial⟩, hS.F ht⟩) hS.2.2 dX11_cast_10

theorem dX0_isStraight_0 : decode cX0_isStraight 0 = .ok (.iconst 0, 1) := by decide +kernel
theorem dX0_isStraight_1 : decode cX0_isStraight 1 = .ok (.istore_n 1, 1) := by decide +kernel
theorem dX0_isStraight_2 : decode cX0_isStraight 2 = .ok (.iload_n 1, 1) := by decide +kernel
theorem dX0_isStraight_3 : decode cX0_isStraight 3 = .ok (.aload_n 0, 1) := by decide +kernel
theorem dX0_isStraight_4 : decode cX0_isStraight 4 = .ok (.arraylength, 1) := by decide +kernel
theorem dX0_isStraight_5 : decode cX0_isStraight 5 = .ok (.if_icmp .ge 22, 3) := by decide +kernel
theorem dX0_isStraight_8 : decode cX0_isStraight 8 = .ok (.aload_n 0, 1) := by decide +kernel
theorem dX0_isStraight_9 : decode cX0_isStraight 9 = .ok (.iload_n 1, 1) := by decide +kernel
theorem dX0_isStraight_10 : decode cX0_isStraight 10 = .ok (.laload, 1) := by decide +kernel
theorem dX0_isStraight_11 : decode cX0_isStraight 11 = .ok (.iload_n 1, 1) := by decide +kernel
theorem dX0_isStraight_12 : decode cX0_isStraight 12 = .ok (.iconst 2, 1) := by decide +kernel
theorem dX0_isStraight_13 : decode cX0_isStraight 13 = .ok (.irem, 1) := by decide +kernel
theorem dX0_isStraight_14 : decode cX0_isStraight 14 = .ok (.i2l, 1) := by decide +kernel
theorem dX0_isStraight_15 : decode cX0_isStraight 15 = .ok (.lcmp, 1) := by decide +kernel
theorem dX0_isStraight_16 : decode cX0_isStraight 16 = .ok (.ifCond .eq 5, 3) := by decide +kernel
theorem dX0_isStraight_21 : decode cX0_isStraight 21 = .ok (.iinc 1 1, 3) := by decide +kernel
theorem dX0_isStraight_24 : decode cX0_isStraight 24 = .ok (.goto (-22), 3) := by decide +kernel
theorem dX0_isStraight_27 : decode cX0_isStraight 27 = .ok (.iconst 1, 1) := by decide +kernel
theorem dX0_isStraight_28 : decode cX0_isStraight 28 = .ok (.ireturn, 1) := by decide +kernel
set_option maxHeartbeats 4000000 in
set_option maxRecDepth 100000 in
/-- X0_isStraight -/
theorem kX0_isStraight (l : Launch) (D : va_G) (G : tyG) (z35 : Nat) (sz : Nat) : Met l yX0_isStraight wsX0_isStraight ({ frames := 0, cells := 0, slots := 0, locals := 0 }) (va_Pc [.ref z35] (wB D G sz [(z35, .inl (G.2.1, 10, .inr (.inl (tL [0, 1, 0, 1, 0, 1, 0, 1, 0, 1]))))])) (va_Qi (fun (r : Int32) (_ : Unit) => r = 1) (fun _ t => wS D G (va_A [(z35, .inl (G.2.1, 10, .inr (.inl (tL [0, 1, 0, 1, 0, 1, 0, 1, 0, 1]))))] sz) [(z35, .inl (G.2.1, 10, .inr (.inl (tL [0, 1, 0, 1, 0, 1, 0, 1, 0, 1]))))] t) (va_A [(z35, .inl (G.2.1, 10, .inr (.inl (tL [0, 1, 0, 1, 0, 1, 0, 1, 0, 1]))))] sz)) 0 0 (va_A [(z35, .inl (G.2.1, 10, .inr (.inl (tL [0, 1, 0, 1, 0, 1, 0, 1, 0, 1]))))] sz) := by
  refine Met.ofW (cc := cX0_isStraight) (maxL := 2) (ret := (some .boolean)) (by decide) rfl ?_
  intro p e s m args below meth c s₁ B hml hv
  obtain ⟨rfl, hsz, hP, hK, hD0, hN⟩ := hv
  have hx := B.exec
  have hb := B.bytes
  have hr := B.returns
  have hts := atoms_spec (ws := wsX0_isStraight) B.pre
  have hown : s.vm.findClass RX0 = some m.cls := findClass_of_methodNamed B.named
  have hlocks := B.notSynchronized
  subst hsz
  have hD := hD0.self (sz := s.heap.size)
  generalize hAe : va_A [(z35, .inl (G.2.1, 10, .inr (.inl (tL [0, 1, 0, 1, 0, 1, 0, 1, 0, 1]))))] s.heap.size = A at hD ⊢
  have hA : ∀ q : Nat, s.heap.size ≤ q → A q := fun q h => by rw [← hAe]; exact Or.inr h
  have hS : va_S A s.heap s.heap [] := va_S.rf
  have hP : va_P D vwCl [(z35, .inl (G.2.1, 10, .inr (.inl (tL [0, 1, 0, 1, 0, 1, 0, 1, 0, 1]))))] s.heap := hP
  have hl := lv_entry ([.ref z35]) (n := 2) (Nat.le_of_ble_eq_true rfl)
  rw [lg_entry_eq]
  generalize (lg_sl ([.ref z35]) ++ List.replicate (2 - (lg_sl ([.ref z35])).length) Slot.unset).toArray = ls at hl ⊢
  have hl : lv_has ls 2 [(0, .ref z35)] := hl
  refine lv_iconst (v := 0) hx hb dX0_isStraight_0 (by decide) ?_
  refine lv_istore_n (lv' := [(1, .int 0), (0, .ref z35)]) hx hb dX0_isStraight_1 rfl hl (by decide) rfl (fun ls hl => ?_)
  refine lv_iload_n hx hb dX0_isStraight_2 rfl (lv_at hl 0 rfl) ?_
  refine lv_aload_n hx hb dX0_isStraight_3 rfl (lv_at hl 1 rfl) ?_
  refine va_alen (v := 10) hx hb hK hP 0 1 rfl rfl rfl dX0_isStraight_4 ?_
  refine lv_icmp_ge (tgt := 27) hx hb dX0_isStraight_5 (by decide) (fun h9 => absurd h9 (by decide)) (fun _ => ?_)
  refine lv_aload_n hx hb dX0_isStraight_8 rfl (lv_at hl 1 rfl) ?_
  refine lv_iload_n hx hb dX0_isStraight_9 rfl (lv_at hl 0 rfl) ?_
  refine va_lald hx hb hK hP 0 1 rfl rfl (wk_in rfl) dX0_isStraight_10 ?_
  refine wk_l 0 rfl ?_
  refine lv_iload_n hx hb dX0_isStraight_11 rfl (lv_at hl 0 rfl) ?_
  refine lv_iconst (v := 2) hx hb dX0_isStraight_12 (by decide) ?_
  refine lv_irem hx hb dX0_isStraight_13 (by decide) ?_
  refine wk_i 0 (by decide) ?_
  refine lv_i2l hx hb dX0_isStraight_14 rfl ?_
  refine wk_l 0 (by decide) ?_
  refine W.lcmp hx hb dX0_isStraight_15 ?_
  refine wk_i 0 (by decide) ?_
  refine lv_if_eq (tgt := 21) hx hb dX0_isStraight_16 (by decide) (fun _ => ?_) (fun h9 => absurd h9 (by decide))
  refine lv_iinc (v := 1) (lv' := [(1, .int 1), (0, .ref z35)]) hx hb dX0_isStraight_21 hl (k := 0) rfl (by decide) (by decide) rfl (fun ls hl => ?_)
  refine lv_goto (tgt := 2) hx hb dX0_isStraight_24 (by decide) ?_
  refine lv_iload_n hx hb dX0_isStraight_2 rfl (lv_at hl 0 rfl) ?_
  refine lv_aload_n hx hb dX0_isStraight_3 rfl (lv_at hl 1 rfl) ?_
  refine va_alen (v := 10) hx hb hK hP 0 1 rfl rfl rfl dX0_isStraight_4 ?_
  refine lv_icmp_ge (tgt := 27) hx hb dX0_isStraight_5 (by decide) (fun h9 => absurd h9 (by decide)) (fun _ => ?_)
  refine lv_aload_n hx hb dX0_isStraight_8 rfl (lv_at hl 1 rfl) ?_
  refine lv_iload_n hx hb dX0_isStraight_9 rfl (lv_at hl 0 rfl) ?_
  refine va_lald hx hb hK hP 0 1 rfl rfl (wk_in rfl) dX0_isStraight_10 ?_
  refine wk_l 1 rfl ?_
  refine lv_iload_n hx hb dX0_isStraight_11 rfl (lv_at hl 0 rfl) ?_
  refine lv_iconst (v := 2) hx hb dX0_isStraight_12 (by decide) ?_
  refine lv_irem hx hb dX0_isStraight_13 (by decide) ?_
  refine wk_i 1 (by decide) ?_
  refine lv_i2l hx hb dX0_isStraight_14 rfl ?_
  refine wk_l 1 (by decide) ?_
  refine W.lcmp hx hb dX0_isStraight_15 ?_
  refine wk_i 0 (by decide) ?_
  refine lv_if_eq (tgt := 21) hx hb dX0_isStraight_16 (by decide) (fun _ => ?_) (fun h9 => absurd h9 (by decide))
  refine lv_iinc (v := 2) (lv' := [(1, .int 2), (0, .ref z35)]) hx hb dX0_isStraight_21 hl (k := 0) rfl (by decide) (by decide) rfl (fun ls hl => ?_)
  refine lv_goto (tgt := 2) hx hb dX0_isStraight_24 (by decide) ?_
  refine lv_iload_n hx hb dX0_isStraight_2 rfl (lv_at hl 0 rfl) ?_
  refine lv_aload_n hx hb dX0_isStraight_3 rfl (lv_at hl 1 rfl) ?_
  refine va_alen (v := 10) hx hb hK hP 0 1 rfl rfl rfl dX0_isStraight_4 ?_
  refine lv_icmp_ge (tgt := 27) hx hb dX0_isStraight_5 (by decide) (fun h9 => absurd h9 (by decide)) (fun _ => ?_)
  refine lv_aload_n hx hb dX0_isStraight_8 rfl (lv_at hl 1 rfl) ?_
  refine lv_iload_n hx hb dX0_isStraight_9 rfl (lv_at hl 0 rfl) ?_
  refine va_lald hx hb hK hP 0 1 rfl rfl (wk_in rfl) dX0_isStraight_10 ?_
  refine wk_l 0 rfl ?_
  refine lv_iload_n hx hb dX0_isStraight_11 rfl (lv_at hl 0 rfl) ?_
  refine lv_iconst (v := 2) hx hb dX0_isStraight_12 (by decide) ?_
  refine lv_irem hx hb dX0_isStraight_13 (by decide) ?_
  refine wk_i 0 (by decide) ?_
  refine lv_i2l hx hb dX0_isStraight_14 rfl ?_
  refine wk_l 0 (by decide) ?_
  refine W.lcmp hx hb dX0_isStraight_15 ?_
  refine wk_i 0 (by decide) ?_
  refine lv_if_eq (tgt := 21) hx hb dX0_isStraight_16 (by decide) (fun _ => ?_) (fun h9 => absurd h9 (by decide))
  refine lv_iinc (v := 3) (lv' := [(1, .int 3), (0, .ref z35)]) hx hb dX0_isStraight_21 hl (k := 0) rfl (by decide) (by decide) rfl (fun ls hl => ?_)
  refine lv_goto (tgt := 2) hx hb dX0_isStraight_24 (by decide) ?_
  refine lv_iload_n hx hb dX0_isStraight_2 rfl (lv_at hl 0 rfl) ?_
  refine lv_aload_n hx hb dX0_isStraight_3 rfl (lv_at hl 1 rfl) ?_
  refine va_alen (v := 10) hx hb hK hP 0 1 rfl rfl rfl dX0_isStraight_4 ?_
  refine lv_icmp_ge (tgt := 27) hx hb dX0_isStraight_5 (by decide) (fun h9 => absurd h9 (by decide)) (fun _ => ?_)
  refine lv_aload_n hx hb dX0_isStraight_8 rfl (lv_at hl 1 rfl) ?_
  refine lv_iload_n hx hb dX0_isStraight_9 rfl (lv_at hl 0 rfl) ?_
  refine va_lald hx hb hK hP 0 1 rfl rfl (wk_in rfl) dX0_isStraight_10 ?_
  refine wk_l 1 rfl ?_
  refine lv_iload_n hx hb dX0_isStraight_11 rfl (lv_at hl 0 rfl) ?_
  refine lv_iconst (v := 2) hx hb dX0_isStraight_12 (by decide) ?_
  refine lv_irem hx hb dX0_isStraight_13 (by decide) ?_
  refine wk_i 1 (by decide) ?_
  refine lv_i2l hx hb dX0_isStraight_14 rfl ?_
  refine wk_l 1 (by decide) ?_
  refine W.lcmp hx hb dX0_isStraight_15 ?_
  refine wk_i 0 (by decide) ?_
  refine lv_if_eq (tgt := 21) hx hb dX0_isStraight_16 (by decide) (fun _ => ?_) (fun h9 => absurd h9 (by decide))
  refine lv_iinc (v := 4) (lv' := [(1, .int 4), (0, .ref z35)]) hx hb dX0_isStraight_21 hl (k := 0) rfl (by decide) (by decide) rfl (fun ls hl => ?_)
  refine lv_goto (tgt := 2) hx hb dX0_isStraight_24 (by decide) ?_
  refine lv_iload_n hx hb dX0_isStraight_2 rfl (lv_at hl 0 rfl) ?_
  refine lv_aload_n hx hb dX0_isStraight_3 rfl (lv_at hl 1 rfl) ?_
  refine va_alen (v := 10) hx hb hK hP 0 1 rfl rfl rfl dX0_isStraight_4 ?_
  refine lv_icmp_ge (tgt := 27) hx hb dX0_isStraight_5 (by decide) (fun h9 => absurd h9 (by decide)) (fun _ => ?_)
  refine lv_aload_n hx hb dX0_isStraight_8 rfl (lv_at hl 1 rfl) ?_
  refine lv_iload_n hx hb dX0_isStraight_9 rfl (lv_at hl 0 rfl) ?_
  refine va_lald hx hb hK hP 0 1 rfl rfl (wk_in rfl) dX0_isStraight_10 ?_
  refine wk_l 0 rfl ?_
  refine lv_iload_n hx hb dX0_isStraight_11 rfl (lv_at hl 0 rfl) ?_
  refine lv_iconst (v := 2) hx hb dX0_isStraight_12 (by decide) ?_
  refine lv_irem hx hb dX0_isStraight_13 (by decide) ?_
  refine wk_i 0 (by decide) ?_
  refine lv_i2l hx hb dX0_isStraight_14 rfl ?_
  refine wk_l 0 (by decide) ?_
  refine W.lcmp hx hb dX0_isStraight_15 ?_
  refine wk_i 0 (by decide) ?_
  refine lv_if_eq (tgt := 21) hx hb dX0_isStraight_16 (by decide) (fun _ => ?_) (fun h9 => absurd h9 (by decide))
  refine lv_iinc (v := 5) (lv' := [(1, .int 5), (0, .ref z35)]) hx hb dX0_isStraight_21 hl (k := 0) rfl (by decide) (by decide) rfl (fun ls hl => ?_)
  refine lv_goto (tgt := 2) hx hb dX0_isStraight_24 (by decide) ?_
  refine lv_iload_n hx hb dX0_isStraight_2 rfl (lv_at hl 0 rfl) ?_
  refine lv_aload_n hx hb dX0_isStraight_3 rfl (lv_at hl 1 rfl) ?_
  refine va_alen (v := 10) hx hb hK hP 0 1 rfl rfl rfl dX0_isStraight_4 ?_
  refine lv_icmp_ge (tgt := 27) hx hb dX0_isStraight_5 (by decide) (fun h9 => absurd h9 (by decide)) (fun _ => ?_)
  refine lv_aload_n hx hb dX0_isStraight_8 rfl (lv_at hl 1 rfl) ?_
  refine lv_iload_n hx hb dX0_isStraight_9 rfl (lv_at hl 0 rfl) ?_
  refine va_lald hx hb hK hP 0 1 rfl rfl (wk_in rfl) dX0_isStraight_10 ?_
  refine wk_l 1 rfl ?_
  refine lv_iload_n hx hb dX0_isStraight_11 rfl (lv_at hl 0 rfl) ?_
  refine lv_iconst (v := 2) hx hb dX0_isStraight_12 (by decide) ?_
  refine lv_irem hx hb dX0_isStraight_13 (by decide) ?_
  refine wk_i 1 (by decide) ?_
  refine lv_i2l hx hb dX0_isStraight_14 rfl ?_
  refine wk_l 1 (by decide) ?_
  refine W.lcmp hx hb dX0_isStraight_15 ?_
  refine wk_i 0 (by decide) ?_
  refine lv_if_eq (tgt := 21) hx hb dX0_isStraight_16 (by decide) (fun _ => ?_) (fun h9 => absurd h9 (by decide))
  refine lv_iinc (v := 6) (lv' := [(1, .int 6), (0, .ref z35)]) hx hb dX0_isStraight_21 hl (k := 0) rfl (by decide) (by decide) rfl (fun ls hl => ?_)
  refine lv_goto (tgt := 2) hx hb dX0_isStraight_24 (by decide) ?_
  refine lv_iload_n hx hb dX0_isStraight_2 rfl (lv_at hl 0 rfl) ?_
  refine lv_aload_n hx hb dX0_isStraight_3 rfl (lv_at hl 1 rfl) ?_
  refine va_alen (v := 10) hx hb hK hP 0 1 rfl rfl rfl dX0_isStraight_4 ?_
  refine lv_icmp_ge (tgt := 27) hx hb dX0_isStraight_5 (by decide) (fun h9 => absurd h9 (by decide)) (fun _ => ?_)
  refine lv_aload_n hx hb dX0_isStraight_8 rfl (lv_at hl 1 rfl) ?_
  refine lv_iload_n hx hb dX0_isStraight_9 rfl (lv_at hl 0 rfl) ?_
  refine va_lald hx hb hK hP 0 1 rfl rfl (wk_in rfl) dX0_isStraight_10 ?_
  refine wk_l 0 rfl ?_
  refine lv_iload_n hx hb dX0_isStraight_11 rfl (lv_at hl 0 rfl) ?_
  refine lv_iconst (v := 2) hx hb dX0_isStraight_12 (by decide) ?_
  refine lv_irem hx hb dX0_isStraight_13 (by decide) ?_
  refine wk_i 0 (by decide) ?_
  refine lv_i2l hx hb dX0_isStraight_14 rfl ?_
  refine wk_l 0 (by decide) ?_
  refine W.lcmp hx hb dX0_isStraight_15 ?_
  refine wk_i 0 (by decide) ?_
  refine lv_if_eq (tgt := 21) hx hb dX0_isStraight_16 (by decide) (fun _ => ?_) (fun h9 => absurd h9 (by decide))
  refine lv_iinc (v := 7) (lv' := [(1, .int 7), (0, .ref z35)]) hx hb dX0_isStraight_21 hl (k := 0) rfl (by decide) (by decide) rfl (fun ls hl => ?_)
  refine lv_goto (tgt := 2) hx hb dX0_isStraight_24 (by decide) ?_
  refine lv_iload_n hx hb dX0_isStraight_2 rfl (lv_at hl 0 rfl) ?_
  refine lv_aload_n hx hb dX0_isStraight_3 rfl (lv_at hl 1 rfl) ?_
  refine va_alen (v := 10) hx hb hK hP 0 1 rfl rfl rfl dX0_isStraight_4 ?_
  refine lv_icmp_ge (tgt := 27) hx hb dX0_isStraight_5 (by decide) (fun h9 => absurd h9 (by decide)) (fun _ => ?_)
  refine lv_aload_n hx hb dX0_isStraight_8 rfl (lv_at hl 1 rfl) ?_
  refine lv_iload_n hx hb dX0_isStraight_9 rfl (lv_at hl 0 rfl) ?_
  refine va_lald hx hb hK hP 0 1 rfl rfl (wk_in rfl) dX0_isStraight_10 ?_
  refine wk_l 1 rfl ?_
  refine lv_iload_n hx hb dX0_isStraight_11 rfl (lv_at hl 0 rfl) ?_
  refine lv_iconst (v := 2) hx hb dX0_isStraight_12 (by decide) ?_
  refine lv_irem hx hb dX0_isStraight_13 (by decide) ?_
  refine wk_i 1 (by decide) ?_
  refine lv_i2l hx hb dX0_isStraight_14 rfl ?_
  refine wk_l 1 (by decide) ?_
  refine W.lcmp hx hb dX0_isStraight_15 ?_
  refine wk_i 0 (by decide) ?_
  refine lv_if_eq (tgt := 21) hx hb dX0_isStraight_16 (by decide) (fun _ => ?_) (fun h9 => absurd h9 (by decide))
  refine lv_iinc (v := 8) (lv' := [(1, .int 8), (0, .ref z35)]) hx hb dX0_isStraight_21 hl (k := 0) rfl (by decide) (by decide) rfl (fun ls hl => ?_)
  refine lv_goto (tgt := 2) hx hb dX0_isStraight_24 (by decide) ?_
  refine lv_iload_n hx hb dX0_isStraight_2 rfl (lv_at hl 0 rfl) ?_
  refine lv_aload_n hx hb dX0_isStraight_3 rfl (lv_at hl 1 rfl) ?_
  refine va_alen (v := 10) hx hb hK hP 0 1 rfl rfl rfl dX0_isStraight_4 ?_
  refine lv_icmp_ge (tgt := 27) hx hb dX0_isStraight_5 (by decide) (fun h9 => absurd h9 (by decide)) (fun _ => ?_)
  refine lv_aload_n hx hb dX0_isStraight_8 rfl (lv_at hl 1 rfl) ?_
  refine lv_iload_n hx hb dX0_isStraight_9 rfl (lv_at hl 0 rfl) ?_
  refine va_lald hx hb hK hP 0 1 rfl rfl (wk_in rfl) dX0_isStraight_10 ?_
  refine wk_l 0 rfl ?_
  refine lv_iload_n hx hb dX0_isStraight_11 rfl (lv_at hl 0 rfl) ?_
  refine lv_iconst (v := 2) hx hb dX0_isStraight_12 (by decide) ?_
  refine lv_irem hx hb dX0_isStraight_13 (by decide) ?_
  refine wk_i 0 (by decide) ?_
  refine lv_i2l hx hb dX0_isStraight_14 rfl ?_
  refine wk_l 0 (by decide) ?_
  refine W.lcmp hx hb dX0_isStraight_15 ?_
  refine wk_i 0 (by decide) ?_
  refine lv_if_eq (tgt := 21) hx hb dX0_isStraight_16 (by decide) (fun _ => ?_) (fun h9 => absurd h9 (by decide))
  refine lv_iinc (v := 9) (lv' := [(1, .int 9), (0, .ref z35)]) hx hb dX0_isStraight_21 hl (k := 0) rfl (by decide) (by decide) rfl (fun ls hl => ?_)
  refine lv_goto (tgt := 2) hx hb dX0_isStraight_24 (by decide) ?_
  refine lv_iload_n hx hb dX0_isStraight_2 rfl (lv_at hl 0 rfl) ?_
  refine lv_aload_n hx hb dX0_isStraight_3 rfl (lv_at hl 1 rfl) ?_
  refine va_alen (v := 10) hx hb hK hP 0 1 rfl rfl rfl dX0_isStraight_4 ?_
  refine lv_icmp_ge (tgt := 27) hx hb dX0_isStraight_5 (by decide) (fun h9 => absurd h9 (by decide)) (fun _ => ?_)
  refine lv_aload_n hx hb dX0_isStraight_8 rfl (lv_at hl 1 rfl) ?_
  refine lv_iload_n hx hb dX0_isStraight_9 rfl (lv_at hl 0 rfl) ?_
  refine va_lald hx hb hK hP 0 1 rfl rfl (wk_in rfl) dX0_isStraight_10 ?_
  refine wk_l 1 rfl ?_
  refine lv_iload_n hx hb dX0_isStraight_11 rfl (lv_at hl 0 rfl) ?_
  refine lv_iconst (v := 2) hx hb dX0_isStraight_12 (by decide) ?_
  refine lv_irem hx hb dX0_isStraight_13 (by decide) ?_
  refine wk_i 1 (by decide) ?_
  refine lv_i2l hx hb dX0_isStraight_14 rfl ?_
  refine wk_l 1 (by decide) ?_
  refine W.lcmp hx hb dX0_isStraight_15 ?_
  refine wk_i 0 (by decide) ?_
  refine lv_if_eq (tgt := 21) hx hb dX0_isStraight_16 (by decide) (fun _ => ?_) (fun h9 => absurd h9 (by decide))
  refine lv_iinc (v := 10) (lv' := [(1, .int 10), (0, .ref z35)]) hx hb dX0_isStraight_21 hl (k := 0) rfl (by decide) (by decide) rfl (fun ls hl => ?_)
  refine lv_goto (tgt := 2) hx hb dX0_isStraight_24 (by decide) ?_
  refine lv_iload_n hx hb dX0_isStraight_2 rfl (lv_at hl 0 rfl) ?_
  refine lv_aload_n hx hb dX0_isStraight_3 rfl (lv_at hl 1 rfl) ?_
  refine va_alen (v := 10) hx hb hK hP 0 1 rfl rfl rfl dX0_isStraight_4 ?_
  refine lv_icmp_ge (tgt := 27) hx hb dX0_isStraight_5 (by decide) (fun _ => ?_) (fun h9 => absurd h9 (by decide))
  refine lv_iconst (v := 1) hx hb dX0_isStraight_27 (by decide) ?_
  have hP9 := hP.sub (ws' := [(z35, .inl (G.2.1, 10, .inr (.inl (tL [0, 1, 0, 1, 0, 1, 0, 1, 0, 1]))))]) [0] rfl
  have hD9 := hD.sub (ws' := [(z35, .inl (G.2.1, 10, .inr (.inl (tL [0, 1, 0, 1, 0, 1, 0, 1, 0, 1]))))]) [0] (by decide) rfl
  exact W.zret (v := 1) hx hb hr rfl (fun t ht hW => ⟨⟨1, (), rfl, rfl, ⟨by rw [ht]; exact hP9, va_K.moved hW.alike hK, hD9⟩⟩, hS.F ht⟩) hS.2.2 dX0_isStraight_28

theorem mX0_isFree_w0 : Cond.fieldLink RX0 42 "PuppetBridge$Bridge" "tangle" "I" ∈ wsX0_isFree := by decide +kernel
theorem mX0_isFree_w1 : Cond.fieldLink RX0 21 "PuppetBridge$Bridge" "curve" "[J" ∈ wsX0_isFree := by decide +kernel
theorem iX0_isFree_X0 : ∀ w ∈ wsX00, w ∈ wsX0_isFree := fun _ h => List.mem_cons_of_mem _ (List.mem_append_right _ h)
set_option maxRecDepth 20000 in
theorem ggX0_isFree_X0_isStraight : GoodIn wsX0_isFree wsX0_isStraight := goodIn_r _ [6] (by decide +kernel) (by decide +kernel)
set_option maxRecDepth 20000 in
theorem gX0_isFree_X0_isStraight : GoodIn wsX0_isFree (va_wsS RX0 69 yX0_isStraight wsX0_isStraight) := goodIn_app (goodIn_of _ (by decide +kernel)) ggX0_isFree_X0_isStraight
theorem dX0_isFree_0 : decode cX0_isFree 0 = .ok (.aload_n 0, 1) := by decide +kernel
theorem dX0_isFree_1 : decode cX0_isFree 1 = .ok (.getfield 42, 3) := by decide +kernel
theorem dX0_isFree_4 : decode cX0_isFree 4 = .ok (.ifCond .ne 17, 3) := by decide +kernel
theorem dX0_isFree_7 : decode cX0_isFree 7 = .ok (.aload_n 0, 1) := by decide +kernel
theorem dX0_isFree_8 : decode cX0_isFree 8 = .ok (.getfield 21, 3) := by decide +kernel
theorem dX0_isFree_11 : decode cX0_isFree 11 = .ok (.invokestatic 69, 3) := by decide +kernel
theorem dX0_isFree_14 : decode cX0_isFree 14 = .ok (.ifCond .eq 7, 3) := by decide +kernel
theorem dX0_isFree_17 : decode cX0_isFree 17 = .ok (.iconst 1, 1) := by decide +kernel
theorem dX0_isFree_18 : decode cX0_isFree 18 = .ok (.goto 4, 3) := by decide +kernel
theorem dX0_isFree_22 : decode cX0_isFree 22 = .ok (.ireturn, 1) := by decide +kernel
set_option maxHeartbeats 4000000 in
set_option maxRecDepth 100000 in
/-- X0_isFree -/
theorem kX0_isFree (l : Launch) (D : va_G) (G : tyG) (z32 : Nat) (z29 : Nat) (z33 : Nat) (z34 : Nat) (z35 : Nat) (z30 : Nat) (z31 : Nat) (sz : Nat) : Met l yX0_isFree wsX0_isFree ({ frames := 1, cells := 0, slots := 0, locals := 21 }) (va_Pc [.ref z32] (wB D G sz [(z32, .inr (0, [.ref z29, .ref z33, .ref z34, .ref z35, .ref z30, .ref z31, .int 2, .int 0, .int 0])), (z35, .inl (G.2.1, 10, .inr (.inl (tL [0, 1, 0, 1, 0, 1, 0, 1, 0, 1]))))])) (va_Qi (fun (r : Int32) (_ : Unit) => r = 1) (fun _ t => wS D G (va_A [(z32, .inr (0, [.ref z29, .ref z33, .ref z34, .ref z35, .ref z30, .ref z31, .int 2, .int 0, .int 0])), (z35, .inl (G.2.1, 10, .inr (.inl (tL [0, 1, 0, 1, 0, 1, 0, 1, 0, 1]))))] sz) [(z32, .inr (0, [.ref z29, .ref z33, .ref z34, .ref z35, .ref z30, .ref z31, .int 2, .int 0, .int 0])), (z35, .inl (G.2.1, 10, .inr (.inl (tL [0, 1, 0, 1, 0, 1, 0, 1, 0, 1]))))] t) (va_A [(z32, .inr (0, [.ref z29, .ref z33, .ref z34, .ref z35, .ref z30, .ref z31, .int 2, .int 0, .int 0])), (z35, .inl (G.2.1, 10, .inr (.inl (tL [0, 1, 0, 1, 0, 1, 0, 1, 0, 1]))))] sz)) 0 0 (va_A [(z32, .inr (0, [.ref z29, .ref z33, .ref z34, .ref z35, .ref z30, .ref z31, .int 2, .int 0, .int 0])), (z35, .inl (G.2.1, 10, .inr (.inl (tL [0, 1, 0, 1, 0, 1, 0, 1, 0, 1]))))] sz) := by
  refine Met.ofW (cc := cX0_isFree) (maxL := 1) (ret := (some .boolean)) (by decide) rfl ?_
  intro p e s m args below meth c s₁ B hml hv
  obtain ⟨rfl, hsz, hP, hK, hD0, hN⟩ := hv
  have hx := B.exec
  have hb := B.bytes
  have hr := B.returns
  have hts := atoms_spec (ws := wsX0_isFree) B.pre
  have hown : s.vm.findClass RX0 = some m.cls := findClass_of_methodNamed B.named
  have hlocks := B.notSynchronized
  subst hsz
  have hD := hD0.self (sz := s.heap.size)
  generalize hAe : va_A [(z32, .inr (0, [.ref z29, .ref z33, .ref z34, .ref z35, .ref z30, .ref z31, .int 2, .int 0, .int 0])), (z35, .inl (G.2.1, 10, .inr (.inl (tL [0, 1, 0, 1, 0, 1, 0, 1, 0, 1]))))] s.heap.size = A at hD ⊢
  have hA : ∀ q : Nat, s.heap.size ≤ q → A q := fun q h => by rw [← hAe]; exact Or.inr h
  have hS : va_S A s.heap s.heap [] := va_S.rf
  have hP : va_P D vwCl [(z32, .inr (0, [.ref z29, .ref z33, .ref z34, .ref z35, .ref z30, .ref z31, .int 2, .int 0, .int 0])), (z35, .inl (G.2.1, 10, .inr (.inl (tL [0, 1, 0, 1, 0, 1, 0, 1, 0, 1]))))] s.heap := hP
  have hl := lv_entry ([.ref z32]) (n := 1) (Nat.le_of_ble_eq_true rfl)
  rw [lg_entry_eq]
  generalize (lg_sl ([.ref z32]) ++ List.replicate (1 - (lg_sl ([.ref z32])).length) Slot.unset).toArray = ls at hl ⊢
  have hl : lv_has ls 1 [(0, .ref z32)] := hl
  refine lv_aload_n hx hb dX0_isFree_0 rfl (lv_at hl 0 rfl) ?_
  refine va_get (D := D) (ci := 0) (v := .int 0) (C := RX0) (T := TX0) (N := 9) hx hb hts iX0_isFree_X0 hown hK hP 0 rfl rfl 8 (by decide) (hts (.fieldLink RX0 42 "PuppetBridge$Bridge" "tangle" "I") mX0_isFree_w0) (fun _ h9 => h9) rfl dX0_isFree_1 ?_
  refine lv_if_ne (tgt := 21) hx hb dX0_isFree_4 (by decide) (fun h9 => absurd h9 (by decide)) (fun _ => ?_)
  refine lv_aload_n hx hb dX0_isFree_7 rfl (lv_at hl 0 rfl) ?_
  refine va_get (D := D) (ci := 0) (v := .ref z35) (C := RX0) (T := TX0) (N := 9) hx hb hts iX0_isFree_X0 hown hK hP 0 rfl rfl 3 (by decide) (hts (.fieldLink RX0 21 "PuppetBridge$Bridge" "curve" "[J") mX0_isFree_w1) (fun _ h9 => h9) rfl dX0_isFree_8 ?_
  have hPc := hP.sub (ws' := [(z35, .inl (G.2.1, 10, .inr (.inl (tL [0, 1, 0, 1, 0, 1, 0, 1, 0, 1]))))]) [1] rfl
  have hDc := hD.sub (ws' := [(z35, .inl (G.2.1, 10, .inr (.inl (tL [0, 1, 0, 1, 0, 1, 0, 1, 0, 1]))))]) [1] (by decide) rfl
  have hFc := va_free (wc := [(z35, .inl (G.2.1, 10, .inr (.inl (tL [0, 1, 0, 1, 0, 1, 0, 1, 0, 1]))))]) hD hS hA [1] rfl
  refine va_calli (va_runS (As := [.ref z35]) (rest := []) ⟨hx, hb, hml, hown, hts⟩ (kX0_isStraight l D G z35 s.heap.size) (va_cwS 1 hts gX0_isFree_X0_isStraight rfl rfl rfl (by decide +kernel) ⟨Nat.le_of_ble_eq_true rfl, Nat.le_of_ble_eq_true rfl⟩) ⟨wB_blind, wB_pre hPc hK hDc hN⟩ rfl rfl hl.1 rfl (lv_room (Nat.le_of_ble_eq_true rfl)) dX0_isFree_11 ⟨Nat.le_of_ble_eq_true rfl, Nat.le_of_ble_eq_true rfl⟩) hS (fun q _ h => hFc q h) hFc (fun r1 u t H1 locs ht hvm hr1 hB hz1 hk1 hS => ?_)
  obtain ⟨hP1, hK1, hD1⟩ := hB
  rw [ht] at hP1
  obtain ⟨hP, hD⟩ := va_join (wr := [(z32, .inr (0, [.ref z29, .ref z33, .ref z34, .ref z35, .ref z30, .ref z31, .int 2, .int 0, .int 0]))]) (w1 := [(z35, .inl (G.2.1, 10, .inr (.inl (tL [0, 1, 0, 1, 0, 1, 0, 1, 0, 1]))))]) hP hD [1] [0] rfl rfl (by decide) (by decide) hk1 hFc hP1 hD1
  clear hPc hDc
  generalize H1 = H at hP hS ⊢
  have hP : va_P D vwCl [(z32, .inr (0, [.ref z29, .ref z33, .ref z34, .ref z35, .ref z30, .ref z31, .int 2, .int 0, .int 0])), (z35, .inl (G.2.1, 10, .inr (.inl (tL [0, 1, 0, 1, 0, 1, 0, 1, 0, 1]))))] H := hP
  have hD : va_D A [(z32, .inr (0, [.ref z29, .ref z33, .ref z34, .ref z35, .ref z30, .ref z31, .int 2, .int 0, .int 0])), (z35, .inl (G.2.1, 10, .inr (.inl (tL [0, 1, 0, 1, 0, 1, 0, 1, 0, 1]))))] := hD
  subst hr1
  refine lv_if_eq (tgt := 21) hx hb dX0_isFree_14 (by decide) (fun h9 => absurd h9 (by decide)) (fun _ => ?_)
  refine lv_iconst (v := 1) hx hb dX0_isFree_17 (by decide) ?_
  refine lv_goto (tgt := 22) hx hb dX0_isFree_18 (by decide) ?_
  have hP9 := hP.sub (ws' := [(z32, .inr (0, [.ref z29, .ref z33, .ref z34, .ref z35, .ref z30, .ref z31, .int 2, .int 0, .int 0])), (z35, .inl (G.2.1, 10, .inr (.inl (tL [0, 1, 0, 1, 0, 1, 0, 1, 0, 1]))))]) [0, 1] rfl
  have hD9 := hD.sub (ws' := [(z32, .inr (0, [.ref z29, .ref z33, .ref z34, .ref z35, .ref z30, .ref z31, .int 2, .int 0, .int 0])), (z35, .inl (G.2.1, 10, .inr (.inl (tL [0, 1, 0, 1, 0, 1, 0, 1, 0, 1]))))]) [0, 1] (by decide) rfl
  exact W.zret (v := 1) hx hb hr rfl (fun t ht hW => ⟨⟨1, (), rfl, rfl, ⟨by rw [ht]; exact hP9, va_K.moved hW.alike hK, hD9⟩⟩, hS.F ht⟩) hS.2.2 dX0_isFree_22

theorem mX11_free_w0 : Cond.fieldLink RX11 33 "PuppetBridge" "bridge" "LPuppetBridge$Bridge;" ∈ wsX11_free := by decide +kernel
theorem iX11_free_X11 : ∀ w ∈ wsX110, w ∈ wsX11_free := fun _ h => List.mem_cons_of_mem _ (List.mem_append_left _ (List.mem_append_right _ h))
set_option maxRecDepth 20000 in
theorem ggX11_free_X0_isFree : GoodIn wsX11_free wsX0_isFree := goodIn_r _ [6, 7, 8, 9, 10, 5, 11, 20, 21, 22, 23, 24, 25, 26, 27, 28] (by decide +kernel) (by decide +kernel)
set_option maxRecDepth 20000 in
theorem gX11_free_X0_isFree : GoodIn wsX11_free (wsV RX11 254 RX0 yX0_isFree wsX0_isFree) := goodIn_app (goodIn_of _ (by decide +kernel)) ggX11_free_X0_isFree
theorem dX11_free_0 : decode cX11_free 0 = .ok (.aload_n 0, 1) := by decide +kernel
theorem dX11_free_1 : decode cX11_free 1 = .ok (.getfield 33, 3) := by decide +kernel
theorem dX11_free_4 : decode cX11_free 4 = .ok (.invokevirtual 254, 3) := by decide +kernel
theorem dX11_free_7 : decode cX11_free 7 = .ok (.ifCond .eq 7, 3) := by decide +kernel
theorem dX11_free_10 : decode cX11_free 10 = .ok (.iconst 1, 1) := by decide +kernel
theorem dX11_free_11 : decode cX11_free 11 = .ok (.goto 4, 3) := by decide +kernel
theorem dX11_free_15 : decode cX11_free 15 = .ok (.ireturn, 1) := by decide +kernel
set_option maxHeartbeats 4000000 in
set_option maxRecDepth 100000 in
/-- X11_free -/
theorem kX11_free (l : Launch) (D : va_G) (G : tyG) (h0 : Nat) (z0 : Nat) (z23 : Nat) (z25 : Nat) (z32 : Nat) (z36 : Nat) (z40 : Nat) (z43 : Nat) (z49 : Nat) (z29 : Nat) (z33 : Nat) (z34 : Nat) (z35 : Nat) (z30 : Nat) (z31 : Nat) (sz : Nat) : Met l yX11_free wsX11_free ({ frames := 2, cells := 0, slots := 0, locals := 41 }) (va_Pc [.ref h0] (wB D G sz [(h0, .inr (11, [.ref z0, .ref z23, .ref z25, .ref z32, .ref z36, .ref z40, .ref z43, .ref z49])), (z32, .inr (0, [.ref z29, .ref z33, .ref z34, .ref z35, .ref z30, .ref z31, .int 2, .int 0, .int 0])), (z35, .inl (G.2.1, 10, .inr (.inl (tL [0, 1, 0, 1, 0, 1, 0, 1, 0, 1]))))])) (va_Qi (fun (r : Int32) (_ : Unit) => r = 1) (fun _ _ => True) (va_A [(h0, .inr (11, [.ref z0, .ref z23, .ref z25, .ref z32, .ref z36, .ref z40, .ref z43, .ref z49])), (z32, .inr (0, [.ref z29, .ref z33, .ref z34, .ref z35, .ref z30, .ref z31, .int 2, .int 0, .int 0])), (z35, .inl (G.2.1, 10, .inr (.inl (tL [0, 1, 0, 1, 0, 1, 0, 1, 0, 1]))))] sz)) 0 0 (va_A [(h0, .inr (11, [.ref z0, .ref z23, .ref z25, .ref z32, .ref z36, .ref z40, .ref z43, .ref z49])), (z32, .inr (0, [.ref z29, .ref z33, .ref z34, .ref z35, .ref z30, .ref z31, .int 2, .int 0, .int 0])), (z35, .inl (G.2.1, 10, .inr (.inl (tL [0, 1, 0, 1, 0, 1, 0, 1, 0, 1]))))] sz) := by
  refine Met.ofW (cc := cX11_free) (maxL := 1) (ret := (some .int)) (by decide) rfl ?_
  intro p e s m args below meth c s₁ B hml hv
  obtain ⟨rfl, hsz, hP, hK, hD0, hN⟩ := hv
  have hx := B.exec
  have hb := B.bytes
  have hr := B.returns
  have hts := atoms_spec (ws := wsX11_free) B.pre
  have hown : s.vm.findClass RX11 = some m.cls := findClass_of_methodNamed B.named
  have hlocks := B.notSynchronized
  subst hsz
  have hD := hD0.self (sz := s.heap.size)
  generalize hAe : va_A [(h0, .inr (11, [.ref z0, .ref z23, .ref z25, .ref z32, .ref z36, .ref z40, .ref z43, .ref z49])), (z32, .inr (0, [.ref z29, .ref z33, .ref z34, .ref z35, .ref z30, .ref z31, .int 2, .int 0, .int 0])), (z35, .inl (G.2.1, 10, .inr (.inl (tL [0, 1, 0, 1, 0, 1, 0, 1, 0, 1]))))] s.heap.size = A at hD ⊢
  have hA : ∀ q : Nat, s.heap.size ≤ q → A q := fun q h => by rw [← hAe]; exact Or.inr h
  have hS : va_S A s.heap s.heap [] := va_S.rf
  have hP : va_P D vwCl [(h0, .inr (11, [.ref z0, .ref z23, .ref z25, .ref z32, .ref z36, .ref z40, .ref z43, .ref z49])), (z32, .inr (0, [.ref z29, .ref z33, .ref z34, .ref z35, .ref z30, .ref z31, .int 2, .int 0, .int 0])), (z35, .inl (G.2.1, 10, .inr (.inl (tL [0, 1, 0, 1, 0, 1, 0, 1, 0, 1]))))] s.heap := hP
  have hl := lv_entry ([.ref h0]) (n := 1) (Nat.le_of_ble_eq_true rfl)
  rw [lg_entry_eq]
  generalize (lg_sl ([.ref h0]) ++ List.replicate (1 - (lg_sl ([.ref h0])).length) Slot.unset).toArray = ls at hl ⊢
  have hl : lv_has ls 1 [(0, .ref h0)] := hl
  refine lv_aload_n hx hb dX11_free_0 rfl (lv_at hl 0 rfl) ?_
  refine va_get (D := D) (ci := 11) (v := .ref z32) (C := RX11) (T := TX11) (N := 8) hx hb hts iX11_free_X11 hown hK hP 0 rfl rfl 3 (by decide) (hts (.fieldLink RX11 33 "PuppetBridge" "bridge" "LPuppetBridge$Bridge;") mX11_free_w0) (fun _ h9 => h9) rfl dX11_free_1 ?_
  have hPc := hP.sub (ws' := [(z32, .inr (0, [.ref z29, .ref z33, .ref z34, .ref z35, .ref z30, .ref z31, .int 2, .int 0, .int 0])), (z35, .inl (G.2.1, 10, .inr (.inl (tL [0, 1, 0, 1, 0, 1, 0, 1, 0, 1]))))]) [1, 2] rfl
  have hDc := hD.sub (ws' := [(z32, .inr (0, [.ref z29, .ref z33, .ref z34, .ref z35, .ref z30, .ref z31, .int 2, .int 0, .int 0])), (z35, .inl (G.2.1, 10, .inr (.inl (tL [0, 1, 0, 1, 0, 1, 0, 1, 0, 1]))))]) [1, 2] (by decide) rfl
  have hFc := va_free (wc := [(z32, .inr (0, [.ref z29, .ref z33, .ref z34, .ref z35, .ref z30, .ref z31, .int 2, .int 0, .int 0])), (z35, .inl (G.2.1, 10, .inr (.inl (tL [0, 1, 0, 1, 0, 1, 0, 1, 0, 1]))))]) hD hS hA [1, 2] rfl
  refine va_calli (va_runV (As := []) (rest := []) ⟨hx, hb, hml, hown, hts⟩ (kX0_isFree l D G z32 z29 z33 z34 z35 z30 z31 s.heap.size) (cwV 0 hts gX11_free_X0_isFree rfl rfl rfl (by decide +kernel) ⟨Nat.le_of_ble_eq_true rfl, Nat.le_of_ble_eq_true rfl⟩) ⟨wB_blind, va_recv hK hPc (ci := 0) (q0 := 0) rfl rfl, wB_pre hPc hK hDc hN⟩ rfl rfl hl.1 rfl (lv_room (Nat.le_of_ble_eq_true rfl)) dX11_free_4 ⟨Nat.le_of_ble_eq_true rfl, Nat.le_of_ble_eq_true rfl⟩) hS (fun q _ h => hFc q h) hFc (fun r1 u t H1 locs ht hvm hr1 hB hz1 hk1 hS => ?_)
  obtain ⟨hP1, hK1, hD1⟩ := hB
  rw [ht] at hP1
  obtain ⟨hP, hD⟩ := va_join (wr := [(h0, .inr (11, [.ref z0, .ref z23, .ref z25, .ref z32, .ref z36, .ref z40, .ref z43, .ref z49]))]) (w1 := [(z32, .inr (0, [.ref z29, .ref z33, .ref z34, .ref z35, .ref z30, .ref z31, .int 2, .int 0, .int 0])), (z35, .inl (G.2.1, 10, .inr (.inl (tL [0, 1, 0, 1, 0, 1, 0, 1, 0, 1]))))]) hP hD [1, 2] [0] rfl rfl (by decide) (by decide) hk1 hFc hP1 hD1
  clear hPc hDc
  generalize H1 = H at hP hS ⊢
  have hP : va_P D vwCl [(h0, .inr (11, [.ref z0, .ref z23, .ref z25, .ref z32, .ref z36, .ref z40, .ref z43, .ref z49])), (z32, .inr (0, [.ref z29, .ref z33, .ref z34, .ref z35, .ref z30, .ref z31, .int 2, .int 0, .int 0])), (z35, .inl (G.2.1, 10, .inr (.inl (tL [0, 1, 0, 1, 0, 1, 0, 1, 0, 1]))))] H := hP
  have hD : va_D A [(h0, .inr (11, [.ref z0, .ref z23, .ref z25, .ref z32, .ref z36, .ref z40, .ref z43, .ref z49])), (z32, .inr (0, [.ref z29, .ref z33, .ref z34, .ref z35, .ref z30, .ref z31, .int 2, .int 0, .int 0])), (z35, .inl (G.2.1, 10, .inr (.inl (tL [0, 1, 0, 1, 0, 1, 0, 1, 0, 1]))))] := hD
  subst hr1
  refine lv_if_eq (tgt := 14) hx hb dX11_free_7 (by decide) (fun h9 => absurd h9 (by decide)) (fun _ => ?_)
  refine lv_iconst (v := 1) hx hb dX11_free_10 (by decide) ?_
  refine lv_goto (tgt := 15) hx hb dX11_free_11 (by decide) ?_
  exact W.iret (v := 1) hx hb hr (fun t ht hW => ⟨⟨1, (), rfl, rfl, trivial⟩, hS.F ht⟩) hS.2.2 dX11_free_15

theorem mX0_isIdleFrom_w0 : Cond.fieldLink RX0 25 "PuppetBridge$Bridge" "trialCurve" "[J" ∈ wsX0_isIdleFrom := by decide +kernel
theorem mX0_isIdleFrom_w1 : Cond.fieldLink RX0 39 "PuppetBridge$Bridge" "count" "I" ∈ wsX0_isIdleFrom := by decide +kernel
theorem iX0_isIdleFrom_X0 : ∀ w ∈ wsX00, w ∈ wsX0_isIdleFrom := fun _ h => List.mem_cons_of_mem _ (List.mem_append_right _ h)
set_option maxRecDepth 20000 in
theorem ggX0_isIdleFrom_X0_straighten : GoodIn wsX0_isIdleFrom wsX0_straighten := goodIn_r _ [7] (by decide +kernel) (by decide +kernel)
set_option maxRecDepth 20000 in
theorem gX0_isIdleFrom_X0_straighten : GoodIn wsX0_isIdleFrom (va_wsS RX0 45 yX0_straighten wsX0_straighten) := goodIn_app (goodIn_of _ (by decide +kernel)) ggX0_isIdleFrom_X0_straighten
set_option maxRecDepth 20000 in
theorem ggX0_isIdleFrom_X0_isStraight : GoodIn wsX0_isIdleFrom wsX0_isStraight := goodIn_r _ [35] (by decide +kernel) (by decide +kernel)
set_option maxRecDepth 20000 in
theorem gX0_isIdleFrom_X0_isStraight : GoodIn wsX0_isIdleFrom (va_wsS RX0 69 yX0_isStraight wsX0_isStraight) := goodIn_app (goodIn_of _ (by decide +kernel)) ggX0_isIdleFrom_X0_isStraight
theorem dX0_isIdleFrom_0 : decode cX0_isIdleFrom 0 = .ok (.aload_n 0, 1) := by decide +kernel
theorem dX0_isIdleFrom_1 : decode cX0_isIdleFrom 1 = .ok (.getfield 25, 3) := by decide +kernel
theorem dX0_isIdleFrom_4 : decode cX0_isIdleFrom 4 = .ok (.invokestatic 45, 3) := by decide +kernel
theorem dX0_isIdleFrom_7 : decode cX0_isIdleFrom 7 = .ok (.iload_n 1, 1) := by decide +kernel
theorem dX0_isIdleFrom_8 : decode cX0_isIdleFrom 8 = .ok (.istore_n 2, 1) := by decide +kernel
theorem dX0_isIdleFrom_9 : decode cX0_isIdleFrom 9 = .ok (.iload_n 2, 1) := by decide +kernel
theorem dX0_isIdleFrom_10 : decode cX0_isIdleFrom 10 = .ok (.aload_n 0, 1) := by decide +kernel
theorem dX0_isIdleFrom_11 : decode cX0_isIdleFrom 11 = .ok (.getfield 39, 3) := by decide +kernel
theorem dX0_isIdleFrom_14 : decode cX0_isIdleFrom 14 = .ok (.if_icmp .ge 22, 3) := by decide +kernel
theorem dX0_isIdleFrom_36 : decode cX0_isIdleFrom 36 = .ok (.aload_n 0, 1) := by decide +kernel
theorem dX0_isIdleFrom_37 : decode cX0_isIdleFrom 37 = .ok (.getfield 25, 3) := by decide +kernel
theorem dX0_isIdleFrom_40 : decode cX0_isIdleFrom 40 = .ok (.invokestatic 69, 3) := by decide +kernel
theorem dX0_isIdleFrom_43 : decode cX0_isIdleFrom 43 = .ok (.ireturn, 1) := by decide +kernel
set_option maxHeartbeats 4000000 in
set_option maxRecDepth 100000 in
/-- X0_isIdleFrom -/
theorem kX0_isIdleFrom (l : Launch) (D : va_G) (G : tyG) (z32 : Nat) (z29 : Nat) (z33 : Nat) (z34 : Nat) (z35 : Nat) (z30 : Nat) (z31 : Nat) (sz : Nat) : Met l yX0_isIdleFrom wsX0_isIdleFrom ({ frames := 1, cells := 0, slots := 0, locals := 21 }) (va_Pc [.ref z32, .int 0] (wB D G sz [(z32, .inr (0, [.ref z29, .ref z33, .ref z34, .ref z35, .ref z30, .ref z31, .int 2, .int 0, .int 0])), (z30, .inl (G.2.1, 10, .inr (.inl (fun _ => 0))))])) (va_Qi (fun (r : Int32) (_ : Unit) => r = 1) (fun _ _ => True) (va_A [(z32, .inr (0, [.ref z29, .ref z33, .ref z34, .ref z35, .ref z30, .ref z31, .int 2, .int 0, .int 0])), (z30, .inl (G.2.1, 10, .inr (.inl (fun _ => 0))))] sz)) 0 0 (va_A [(z32, .inr (0, [.ref z29, .ref z33, .ref z34, .ref z35, .ref z30, .ref z31, .int 2, .int 0, .int 0])), (z30, .inl (G.2.1, 10, .inr (.inl (fun _ => 0))))] sz) := by
  refine Met.ofW (cc := cX0_isIdleFrom) (maxL := 3) (ret := (some .boolean)) (by decide) rfl ?_
  intro p e s m args below meth c s₁ B hml hv
  obtain ⟨rfl, hsz, hP, hK, hD0, hN⟩ := hv
  have hx := B.exec
  have hb := B.bytes
  have hr := B.returns
  have hts := atoms_spec (ws := wsX0_isIdleFrom) B.pre
  have hown : s.vm.findClass RX0 = some m.cls := findClass_of_methodNamed B.named
  have hlocks := B.notSynchronized
  subst hsz
  have hD := hD0.self (sz := s.heap.size)
  generalize hAe : va_A [(z32, .inr (0, [.ref z29, .ref z33, .ref z34, .ref z35, .ref z30, .ref z31, .int 2, .int 0, .int 0])), (z30, .inl (G.2.1, 10, .inr (.inl (fun _ => 0))))] s.heap.size = A at hD ⊢
  have hA : ∀ q : Nat, s.heap.size ≤ q → A q := fun q h => by rw [← hAe]; exact Or.inr h
  have hS : va_S A s.heap s.heap [] := va_S.rf
  have hP : va_P D vwCl [(z32, .inr (0, [.ref z29, .ref z33, .ref z34, .ref z35, .ref z30, .ref z31, .int 2, .int 0, .int 0])), (z30, .inl (G.2.1, 10, .inr (.inl (fun _ => 0))))] s.heap := hP
  have hl := lv_entry ([.ref z32, .int 0]) (n := 3) (Nat.le_of_ble_eq_true rfl)
  rw [lg_entry_eq]
  generalize (lg_sl ([.ref z32, .int 0]) ++ List.replicate (3 - (lg_sl ([.ref z32, .int 0])).length) Slot.unset).toArray = ls at hl ⊢
  have hl : lv_has ls 3 [(0, .ref z32), (1, .int 0)] := hl
  refine lv_aload_n hx hb dX0_isIdleFrom_0 rfl (lv_at hl 0 rfl) ?_
  refine va_get (D := D) (ci := 0) (v := .ref z30) (C := RX0) (T := TX0) (N := 9) hx hb hts iX0_isIdleFrom_X0 hown hK hP 0 rfl rfl 4 (by decide) (hts (.fieldLink RX0 25 "PuppetBridge$Bridge" "trialCurve" "[J") mX0_isIdleFrom_w0) (fun _ h9 => h9) rfl dX0_isIdleFrom_1 ?_
  have hPc := hP.sub (ws' := [(z30, .inl (G.2.1, 10, .inr (.inl (fun _ => 0))))]) [1] rfl
  have hDc := hD.sub (ws' := [(z30, .inl (G.2.1, 10, .inr (.inl (fun _ => 0))))]) [1] (by decide) rfl
  have hFc := va_free (wc := [(z30, .inl (G.2.1, 10, .inr (.inl (fun _ => 0))))]) hD hS hA [1] rfl
  refine va_callv (va_runS (As := [.ref z30]) (rest := []) ⟨hx, hb, hml, hown, hts⟩ (kX0_straighten l D G z30 (fun _ => 0) s.heap.size) (va_cwS 1 hts gX0_isIdleFrom_X0_straighten rfl rfl rfl (by decide +kernel) ⟨Nat.le_of_ble_eq_true rfl, Nat.le_of_ble_eq_true rfl⟩) ⟨wB_blind, wB_pre hPc hK hDc hN⟩ rfl rfl hl.1 rfl (lv_room (Nat.le_of_ble_eq_true rfl)) dX0_isIdleFrom_4 ⟨Nat.le_of_ble_eq_true rfl, Nat.le_of_ble_eq_true rfl⟩) hS (fun q _ h => hFc q h) hFc (fun u t H1 locs ht hvm hr1 hB hz1 hk1 hS => ?_)
  obtain ⟨hP1, hK1, hD1⟩ := hB
  rw [ht] at hP1
  obtain ⟨hP, hD⟩ := va_join (wr := [(z32, .inr (0, [.ref z29, .ref z33, .ref z34, .ref z35, .ref z30, .ref z31, .int 2, .int 0, .int 0]))]) (w1 := [(z30, .inl (G.2.1, 10, .inr (.inl (tL [0, 1, 0, 1, 0, 1, 0, 1, 0, 1]))))]) hP hD [1] [0] rfl rfl (by decide) (by decide) hk1 hFc hP1 hD1
  clear hPc hDc
  generalize H1 = H at hP hS ⊢
  have hP : va_P D vwCl [(z32, .inr (0, [.ref z29, .ref z33, .ref z34, .ref z35, .ref z30, .ref z31, .int 2, .int 0, .int 0])), (z30, .inl (G.2.1, 10, .inr (.inl (tL [0, 1, 0, 1, 0, 1, 0, 1, 0, 1]))))] H := hP
  have hD : va_D A [(z32, .inr (0, [.ref z29, .ref z33, .ref z34, .ref z35, .ref z30, .ref z31, .int 2, .int 0, .int 0])), (z30, .inl (G.2.1, 10, .inr (.inl (tL [0, 1, 0, 1, 0, 1, 0, 1, 0, 1]))))] := hD
  refine lv_iload_n hx hb dX0_isIdleFrom_7 rfl (lv_at hl 1 rfl) ?_
  refine lv_istore_n (lv' := [(2, .int 0), (0, .ref z32), (1, .int 0)]) hx hb dX0_isIdleFrom_8 rfl hl (by decide) rfl (fun ls hl => ?_)
  refine lv_iload_n hx hb dX0_isIdleFrom_9 rfl (lv_at hl 0 rfl) ?_
  refine lv_aload_n hx hb dX0_isIdleFrom_10 rfl (lv_at hl 1 rfl) ?_
  refine va_get (D := D) (ci := 0) (v := .int 0) (C := RX0) (T := TX0) (N := 9) hx hb hts iX0_isIdleFrom_X0 hown hK hP 0 rfl rfl 7 (by decide) (hts (.fieldLink RX0 39 "PuppetBridge$Bridge" "count" "I") mX0_isIdleFrom_w1) (fun _ h9 => h9) rfl dX0_isIdleFrom_11 ?_
  refine lv_icmp_ge (tgt := 36) hx hb dX0_isIdleFrom_14 (by decide) (fun _ => ?_) (fun h9 => absurd h9 (by decide))
  refine lv_aload_n hx hb dX0_isIdleFrom_36 rfl (lv_at hl 1 rfl) ?_
  refine va_get (D := D) (ci := 0) (v := .ref z30) (C := RX0) (T := TX0) (N := 9) hx hb hts iX0_isIdleFrom_X0 hown hK hP 0 rfl rfl 4 (by decide) (hts (.fieldLink RX0 25 "PuppetBridge$Bridge" "trialCurve" "[J") mX0_isIdleFrom_w0) (fun _ h9 => h9) rfl dX0_isIdleFrom_37 ?_
  have hPc := hP.sub (ws' := [(z30, .inl (G.2.1, 10, .inr (.inl (tL [0, 1, 0, 1, 0, 1, 0, 1, 0, 1]))))]) [1] rfl
  have hDc := hD.sub (ws' := [(z30, .inl (G.2.1, 10, .inr (.inl (tL [0, 1, 0, 1, 0, 1, 0, 1, 0, 1]))))]) [1] (by decide) rfl
  have hFc := va_free (wc := [(z30, .inl (G.2.1, 10, .inr (.inl (tL [0, 1, 0, 1, 0, 1, 0, 1, 0, 1]))))]) hD hS hA [1] rfl
  refine va_calli (va_runS (As := [.ref z30]) (rest := []) ⟨hx, hb, hml, hown, hts⟩ (kX0_isStraight l D G z30 H.size) (va_cwS 1 hts gX0_isIdleFrom_X0_isStraight rfl rfl rfl (by decide +kernel) ⟨Nat.le_of_ble_eq_true rfl, Nat.le_of_ble_eq_true rfl⟩) ⟨wB_blind, wB_pre hPc hK hDc hN⟩ rfl rfl hl.1 rfl (lv_room (Nat.le_of_ble_eq_true rfl)) dX0_isIdleFrom_40 ⟨Nat.le_of_ble_eq_true rfl, Nat.le_of_ble_eq_true rfl⟩) hS (fun q _ h => hFc q h) hFc (fun r2 u t H1 locs ht hvm hr2 hB hz1 hk1 hS => ?_)
  obtain ⟨hP1, hK1, hD1⟩ := hB
  rw [ht] at hP1
  obtain ⟨hP, hD⟩ := va_join (wr := [(z32, .inr (0, [.ref z29, .ref z33, .ref z34, .ref z35, .ref z30, .ref z31, .int 2, .int 0, .int 0]))]) (w1 := [(z30, .inl (G.2.1, 10, .inr (.inl (tL [0, 1, 0, 1, 0, 1, 0, 1, 0, 1]))))]) hP hD [1] [0] rfl rfl (by decide) (by decide) hk1 hFc hP1 hD1
  clear hPc hDc
  generalize H1 = H at hP hS ⊢
  have hP : va_P D vwCl [(z32, .inr (0, [.ref z29, .ref z33, .ref z34, .ref z35, .ref z30, .ref z31, .int 2, .int 0, .int 0])), (z30, .inl (G.2.1, 10, .inr (.inl (tL [0, 1, 0, 1, 0, 1, 0, 1, 0, 1]))))] H := hP
  have hD : va_D A [(z32, .inr (0, [.ref z29, .ref z33, .ref z34, .ref z35, .ref z30, .ref z31, .int 2, .int 0, .int 0])), (z30, .inl (G.2.1, 10, .inr (.inl (tL [0, 1, 0, 1, 0, 1, 0, 1, 0, 1]))))] := hD
  subst hr2
  exact W.zret (v := 1) hx hb hr rfl (fun t ht hW => ⟨⟨1, (), rfl, rfl, trivial⟩, hS.F ht⟩) hS.2.2 dX0_isIdleFrom_43

theorem mX11_alike_w0 : Cond.fieldLink RX11 33 "PuppetBridge" "bridge" "LPuppetBridge$Bridge;" ∈ wsX11_alike := by decide +kernel
theorem mX11_alike_w1 : Cond.fieldLink RX11 232 "PuppetBridge$Bridge" "count" "I" ∈ wsX11_alike := by decide +kernel
theorem iX11_alike_X0 : ∀ w ∈ wsX00, w ∈ wsX11_alike := fun _ h => List.mem_cons_of_mem _ (List.mem_append_right _ h)
theorem iX11_alike_X11 : ∀ w ∈ wsX110, w ∈ wsX11_alike := fun _ h => List.mem_cons_of_mem _ (List.mem_append_left _ (List.mem_append_right _ h))
set_option maxRecDepth 20000 in
theorem ggX11_alike_X11_within : GoodIn wsX11_alike wsX11_within := goodIn_r _ [6] (by decide +kernel) (by decide +kernel)
set_option maxRecDepth 20000 in
theorem gX11_alike_X11_within : GoodIn wsX11_alike (va_wsS RX11 94 yX11_within wsX11_within) := goodIn_app (goodIn_of _ (by decide +kernel)) ggX11_alike_X11_within
set_option maxRecDepth 20000 in
theorem ggX11_alike_X0_isIdleFrom : GoodIn wsX11_alike wsX0_isIdleFrom := goodIn_r _ [11, 12, 13, 14, 15, 16, 10, 17, 18, 19, 20, 21, 22, 23, 24, 25, 26, 27, 28, 29, 30, 31, 32, 33, 34, 35, 36, 37, 38, 39, 40, 41, 42, 43, 44, 45, 54, 55, 56, 57, 58, 59, 60, 61, 62] (by decide +kernel) (by decide +kernel)
set_option maxRecDepth 20000 in
theorem gX11_alike_X0_isIdleFrom : GoodIn wsX11_alike (wsV RX11 258 RX0 yX0_isIdleFrom wsX0_isIdleFrom) := goodIn_app (goodIn_of _ (by decide +kernel)) ggX11_alike_X0_isIdleFrom
theorem dX11_alike_0 : decode cX11_alike 0 = .ok (.iload_n 1, 1) := by decide +kernel
theorem dX11_alike_1 : decode cX11_alike 1 = .ok (.iconst 0, 1) := by decide +kernel
theorem dX11_alike_2 : decode cX11_alike 2 = .ok (.aload_n 0, 1) := by decide +kernel
theorem dX11_alike_3 : decode cX11_alike 3 = .ok (.getfield 33, 3) := by decide +kernel
theorem dX11_alike_6 : decode cX11_alike 6 = .ok (.getfield 232, 3) := by decide +kernel
theorem dX11_alike_9 : decode cX11_alike 9 = .ok (.invokestatic 94, 3) := by decide +kernel
theorem dX11_alike_12 : decode cX11_alike 12 = .ok (.ifCond .ne 5, 3) := by decide +kernel
theorem dX11_alike_15 : decode cX11_alike 15 = .ok (.iconst (-1), 1) := by decide +kernel
theorem dX11_alike_16 : decode cX11_alike 16 = .ok (.ireturn, 1) := by decide +kernel
theorem dX11_alike_17 : decode cX11_alike 17 = .ok (.aload_n 0, 1) := by decide +kernel
theorem dX11_alike_18 : decode cX11_alike 18 = .ok (.getfield 33, 3) := by decide +kernel
theorem dX11_alike_21 : decode cX11_alike 21 = .ok (.iload_n 1, 1) := by decide +kernel
theorem dX11_alike_22 : decode cX11_alike 22 = .ok (.invokevirtual 258, 3) := by decide +kernel
theorem dX11_alike_25 : decode cX11_alike 25 = .ok (.ifCond .eq 7, 3) := by decide +kernel
theorem dX11_alike_28 : decode cX11_alike 28 = .ok (.iconst 1, 1) := by decide +kernel
theorem dX11_alike_29 : decode cX11_alike 29 = .ok (.goto 4, 3) := by decide +kernel
theorem dX11_alike_33 : decode cX11_alike 33 = .ok (.ireturn, 1) := by decide +kernel
set_option maxHeartbeats 4000000 in
set_option maxRecDepth 100000 in
/-- X11_alike -/
theorem kX11_alike (l : Launch) (D : va_G) (G : tyG) (h0 : Nat) (x1 : Int32) (z0 : Nat) (z23 : Nat) (z25 : Nat) (z32 : Nat) (z36 : Nat) (z40 : Nat) (z43 : Nat) (z49 : Nat) (z29 : Nat) (z33 : Nat) (z34 : Nat) (z35 : Nat) (z30 : Nat) (z31 : Nat) (sz : Nat) : Met l yX11_alike wsX11_alike ({ frames := 2, cells := 0, slots := 0, locals := 43 }) (va_Pc [.ref h0, .int x1] (wB D G sz [(h0, .inr (11, [.ref z0, .ref z23, .ref z25, .ref z32, .ref z36, .ref z40, .ref z43, .ref z49])), (z32, .inr (0, [.ref z29, .ref z33, .ref z34, .ref z35, .ref z30, .ref z31, .int 2, .int 0, .int 0])), (z30, .inl (G.2.1, 10, .inr (.inl (fun _ => 0))))])) (va_Qi (fun (r : Int32) (_ : Unit) => r = (if inB x1 0 0 = true then 1 else -1)) (fun _ _ => True) (va_A [(h0, .inr (11, [.ref z0, .ref z23, .ref z25, .ref z32, .ref z36, .ref z40, .ref z43, .ref z49])), (z32, .inr (0, [.ref z29, .ref z33, .ref z34, .ref z35, .ref z30, .ref z31, .int 2, .int 0, .int 0])), (z30, .inl (G.2.1, 10, .inr (.inl (fun _ => 0))))] sz)) 0 0 (va_A [(h0, .inr (11, [.ref z0, .ref z23, .ref z25, .ref z32, .ref z36, .ref z40, .ref z43, .ref z49])), (z32, .inr (0, [.ref z29, .ref z33, .ref z34, .ref z35, .ref z30, .ref z31, .int 2, .int 0, .int 0])), (z30, .inl (G.2.1, 10, .inr (.inl (fun _ => 0))))] sz) := by
  refine Met.ofW (cc := cX11_alike) (maxL := 2) (ret := (some .int)) (by decide) rfl ?_
  intro p e s m args below meth c s₁ B hml hv
  obtain ⟨rfl, hsz, hP, hK, hD0, hN⟩ := hv
  have hx := B.exec
  have hb := B.bytes
  have hr := B.returns
  have hts := atoms_spec (ws := wsX11_alike) B.pre
  have hown : s.vm.findClass RX11 = some m.cls := findClass_of_methodNamed B.named
  have hlocks := B.notSynchronized
  subst hsz
  have hD := hD0.self (sz := s.heap.size)
  generalize hAe : va_A [(h0, .inr (11, [.ref z0, .ref z23, .ref z25, .ref z32, .ref z36, .ref z40, .ref z43, .ref z49])), (z32, .inr (0, [.ref z29, .ref z33, .ref z34, .ref z35, .ref z30, .ref z31, .int 2, .int 0, .int 0])), (z30, .inl (G.2.1, 10, .inr (.inl (fun _ => 0))))] s.heap.size = A at hD ⊢
  have hA : ∀ q : Nat, s.heap.size ≤ q → A q := fun q h => by rw [← hAe]; exact Or.inr h
  have hS : va_S A s.heap s.heap [] := va_S.rf
  have hP : va_P D vwCl [(h0, .inr (11, [.ref z0, .ref z23, .ref z25, .ref z32, .ref z36, .ref z40, .ref z43, .ref z49])), (z32, .inr (0, [.ref z29, .ref z33, .ref z34, .ref z35, .ref z30, .ref z31, .int 2, .int 0, .int 0])), (z30, .inl (G.2.1, 10, .inr (.inl (fun _ => 0))))] s.heap := hP
  have hl := lv_entry ([.ref h0, .int x1]) (n := 2) (Nat.le_of_ble_eq_true rfl)
  rw [lg_entry_eq]
  generalize (lg_sl ([.ref h0, .int x1]) ++ List.replicate (2 - (lg_sl ([.ref h0, .int x1])).length) Slot.unset).toArray = ls at hl ⊢
  have hl : lv_has ls 2 [(0, .ref h0), (1, .int x1)] := hl
  refine lv_iload_n hx hb dX11_alike_0 rfl (lv_at hl 1 rfl) ?_
  refine lv_iconst (v := 0) hx hb dX11_alike_1 (by decide) ?_
  refine lv_aload_n hx hb dX11_alike_2 rfl (lv_at hl 0 rfl) ?_
  refine va_get (D := D) (ci := 11) (v := .ref z32) (C := RX11) (T := TX11) (N := 8) hx hb hts iX11_alike_X11 hown hK hP 0 rfl rfl 3 (by decide) (hts (.fieldLink RX11 33 "PuppetBridge" "bridge" "LPuppetBridge$Bridge;") mX11_alike_w0) (fun _ h9 => h9) rfl dX11_alike_3 ?_
  refine va_get (D := D) (ci := 0) (v := .int 0) (C := RX0) (T := TX0) (N := 9) hx hb hts iX11_alike_X0 hown hK hP 1 rfl rfl 7 (by decide) (hts (.fieldLink RX11 232 "PuppetBridge$Bridge" "count" "I") mX11_alike_w1) (fun _ h9 => h9) rfl dX11_alike_6 ?_
  have hPc := hP.sub (ws' := []) [] rfl
  have hDc := hD.sub (ws' := []) [] (by decide) rfl
  have hFc := va_free (wc := []) hD hS hA [] rfl
  refine va_calli (va_runS (As := [.int x1, .int 0, .int 0]) (rest := []) ⟨hx, hb, hml, hown, hts⟩ (kX11_within l D G x1 0 0 s.heap.size) (va_cwS 3 hts gX11_alike_X11_within rfl rfl rfl (by decide +kernel) ⟨Nat.le_of_ble_eq_true rfl, Nat.le_of_ble_eq_true rfl⟩) ⟨wB_blind, wB_pre hPc hK hDc hN⟩ rfl rfl hl.1 rfl (lv_room (Nat.le_of_ble_eq_true rfl)) dX11_alike_9 ⟨Nat.le_of_ble_eq_true rfl, Nat.le_of_ble_eq_true rfl⟩) hS (fun q _ h => hFc q h) hFc (fun r1 u t H1 locs ht hvm hr1 hB hz1 hk1 hS => ?_)
  obtain ⟨hP, hD⟩ := va_join (wr := [(h0, .inr (11, [.ref z0, .ref z23, .ref z25, .ref z32, .ref z36, .ref z40, .ref z43, .ref z49])), (z32, .inr (0, [.ref z29, .ref z33, .ref z34, .ref z35, .ref z30, .ref z31, .int 2, .int 0, .int 0])), (z30, .inl (G.2.1, 10, .inr (.inl (fun _ => 0))))]) (w1 := []) hP hD [] [0, 1, 2] rfl rfl (by decide) (by decide) hk1 hFc wP_nil wD_nil
  clear hPc hDc
  generalize H1 = H at hP hS ⊢
  have hP : va_P D vwCl [(h0, .inr (11, [.ref z0, .ref z23, .ref z25, .ref z32, .ref z36, .ref z40, .ref z43, .ref z49])), (z32, .inr (0, [.ref z29, .ref z33, .ref z34, .ref z35, .ref z30, .ref z31, .int 2, .int 0, .int 0])), (z30, .inl (G.2.1, 10, .inr (.inl (fun _ => 0))))] H := hP
  have hD : va_D A [(h0, .inr (11, [.ref z0, .ref z23, .ref z25, .ref z32, .ref z36, .ref z40, .ref z43, .ref z49])), (z32, .inr (0, [.ref z29, .ref z33, .ref z34, .ref z35, .ref z30, .ref z31, .int 2, .int 0, .int 0])), (z30, .inl (G.2.1, 10, .inr (.inl (fun _ => 0))))] := hD
  refine lv_if_ne (tgt := 17) hx hb dX11_alike_12 (by decide) (fun c2 => ?_) (fun c2 => ?_)
  · have kc2 : (inB x1 0 0) = true := wk_b1 hr1 c2
    obtain rfl := inB_eq kc2
    refine lv_aload_n hx hb dX11_alike_17 rfl (lv_at hl 0 rfl) ?_
    refine va_get (D := D) (ci := 11) (v := .ref z32) (C := RX11) (T := TX11) (N := 8) hx hb hts iX11_alike_X11 hown hK hP 0 rfl rfl 3 (by decide) (hts (.fieldLink RX11 33 "PuppetBridge" "bridge" "LPuppetBridge$Bridge;") mX11_alike_w0) (fun _ h9 => h9) rfl dX11_alike_18 ?_
    refine lv_iload_n hx hb dX11_alike_21 rfl (lv_at hl 1 rfl) ?_
    have hPc := hP.sub (ws' := [(z32, .inr (0, [.ref z29, .ref z33, .ref z34, .ref z35, .ref z30, .ref z31, .int 2, .int 0, .int 0])), (z30, .inl (G.2.1, 10, .inr (.inl (fun _ => 0))))]) [1, 2] rfl
    have hDc := hD.sub (ws' := [(z32, .inr (0, [.ref z29, .ref z33, .ref z34, .ref z35, .ref z30, .ref z31, .int 2, .int 0, .int 0])), (z30, .inl (G.2.1, 10, .inr (.inl (fun _ => 0))))]) [1, 2] (by decide) rfl
    have hFc := va_free (wc := [(z32, .inr (0, [.ref z29, .ref z33, .ref z34, .ref z35, .ref z30, .ref z31, .int 2, .int 0, .int 0])), (z30, .inl (G.2.1, 10, .inr (.inl (fun _ => 0))))]) hD hS hA [1, 2] rfl
    refine va_calli (va_runV (As := [.int 0]) (rest := []) ⟨hx, hb, hml, hown, hts⟩ (kX0_isIdleFrom l D G z32 z29 z33 z34 z35 z30 z31 H.size) (cwV 1 hts gX11_alike_X0_isIdleFrom rfl rfl rfl (by decide +kernel) ⟨Nat.le_of_ble_eq_true rfl, Nat.le_of_ble_eq_true rfl⟩) ⟨wB_blind, va_recv hK hPc (ci := 0) (q0 := 0) rfl rfl, wB_pre hPc hK hDc hN⟩ rfl rfl hl.1 rfl (lv_room (Nat.le_of_ble_eq_true rfl)) dX11_alike_22 ⟨Nat.le_of_ble_eq_true rfl, Nat.le_of_ble_eq_true rfl⟩) hS (fun q _ h => hFc q h) hFc (fun r3 u t H1 locs ht hvm hr3 hB hz1 hk1 hS => ?_)
    obtain ⟨hP, hD⟩ := va_join (wr := [(h0, .inr (11, [.ref z0, .ref z23, .ref z25, .ref z32, .ref z36, .ref z40, .ref z43, .ref z49]))]) (w1 := []) hP hD [1, 2] [0] rfl rfl (by decide) (by decide) hk1 hFc wP_nil wD_nil
    clear hPc hDc
    generalize H1 = H at hP hS ⊢
    have hP : va_P D vwCl [(h0, .inr (11, [.ref z0, .ref z23, .ref z25, .ref z32, .ref z36, .ref z40, .ref z43, .ref z49]))] H := hP
    have hD : va_D A [(h0, .inr (11, [.ref z0, .ref z23, .ref z25, .ref z32, .ref z36, .ref z40, .ref z43, .ref z49]))] := hD
    subst hr3
    refine lv_if_eq (tgt := 32) hx hb dX11_alike_25 (by decide) (fun h9 => absurd h9 (by decide)) (fun _ => ?_)
    refine lv_iconst (v := 1) hx hb dX11_alike_28 (by decide) ?_
    refine lv_goto (tgt := 33) hx hb dX11_alike_29 (by decide) ?_
    exact W.iret (v := 1) hx hb hr (fun t ht hW => ⟨⟨1, (), rfl, by decide, trivial⟩, hS.F ht⟩) hS.2.2 dX11_alike_33
  · have kc2 : (inB x1 0 0) = false := wk_b0 hr1 c2
    refine lv_iconst (v := (-1)) hx hb dX11_alike_15 (by decide) ?_
    exact W.iret (v := (-1)) hx hb hr (fun t ht hW => ⟨⟨(-1), (), rfl, by first | (simp [kc2]; done) | rfl, trivial⟩, hS.F ht⟩) hS.2.2 dX11_alike_16

theorem mX0_spread_w0 : Cond.fieldLink RX0 21 "PuppetBridge$Bridge" "curve" "[J" ∈ wsX0_spread := by decide +kernel
theorem mX0_spread_w1 : Cond.methodLink RX0 91 Lib.MathLoose.abs_long.x ∈ wsX0_spread := by decide +kernel
theorem mX0_spread_w2 : Cond.static Lib.MathLoose.abs_long.x ∈ wsX0_spread := by decide +kernel
theorem mX0_spread_w3 : Cond.initialized "java/lang/Math" ∈ wsX0_spread := by decide +kernel
theorem mX0_spread_w4 : Cond.code Lib.MathLoose.abs_long.x Lib.MathLoose.abs_long.code 2 (some .long) ∈ wsX0_spread := by decide +kernel
theorem iX0_spread_X0 : ∀ w ∈ wsX00, w ∈ wsX0_spread := fun _ h => List.mem_cons_of_mem _ (List.mem_append_right _ h)
theorem dX0_spread_0 : decode cX0_spread 0 = .ok (.lconst 0, 1) := by decide +kernel
theorem dX0_spread_1 : decode cX0_spread 1 = .ok (.lstore_n 1, 1) := by decide +kernel
theorem dX0_spread_2 : decode cX0_spread 2 = .ok (.iconst 0, 1) := by decide +kernel
theorem dX0_spread_3 : decode cX0_spread 3 = .ok (.istore_n 3, 1) := by decide +kernel
theorem dX0_spread_4 : decode cX0_spread 4 = .ok (.iload_n 3, 1) := by decide +kernel
theorem dX0_spread_5 : decode cX0_spread 5 = .ok (.aload_n 0, 1) := by decide +kernel
theorem dX0_spread_6 : decode cX0_spread 6 = .ok (.getfield 21, 3) := by decide +kernel
theorem dX0_spread_9 : decode cX0_spread 9 = .ok (.arraylength, 1) := by decide +kernel
theorem dX0_spread_10 : decode cX0_spread 10 = .ok (.if_icmp .ge 21, 3) := by decide +kernel
theorem dX0_spread_13 : decode cX0_spread 13 = .ok (.lload_n 1, 1) := by decide +kernel
theorem dX0_spread_14 : decode cX0_spread 14 = .ok (.aload_n 0, 1) := by decide +kernel
theorem dX0_spread_15 : decode cX0_spread 15 = .ok (.getfield 21, 3) := by decide +kernel
theorem dX0_spread_18 : decode cX0_spread 18 = .ok (.iload_n 3, 1) := by decide +kernel
theorem dX0_spread_19 : decode cX0_spread 19 = .ok (.laload, 1) := by decide +kernel
theorem dX0_spread_20 : decode cX0_spread 20 = .ok (.invokestatic 91, 3) := by decide +kernel
theorem dX0_spread_23 : decode cX0_spread 23 = .ok (.ladd, 1) := by decide +kernel
theorem dX0_spread_24 : decode cX0_spread 24 = .ok (.lstore_n 1, 1) := by decide +kernel
theorem dX0_spread_25 : decode cX0_spread 25 = .ok (.iinc 3 1, 3) := by decide +kernel
theorem dX0_spread_28 : decode cX0_spread 28 = .ok (.goto (-24), 3) := by decide +kernel
theorem dX0_spread_31 : decode cX0_spread 31 = .ok (.lload_n 1, 1) := by decide +kernel
theorem dX0_spread_32 : decode cX0_spread 32 = .ok (.lreturn, 1) := by decide +kernel
set_option maxHeartbeats 4000000 in
set_option maxRecDepth 100000 in
/-- X0_spread -/
theorem kX0_spread (l : Launch) (D : va_G) (G : tyG) (z32 : Nat) (z29 : Nat) (z33 : Nat) (z34 : Nat) (z35 : Nat) (z30 : Nat) (z31 : Nat) (sz : Nat) : Met l yX0_spread wsX0_spread ({ frames := 1, cells := 0, slots := 0, locals := 32 }) (va_Pc [.ref z32] (wB D G sz [(z32, .inr (0, [.ref z29, .ref z33, .ref z34, .ref z35, .ref z30, .ref z31, .int 2, .int 0, .int 0])), (z35, .inl (G.2.1, 10, .inr (.inl (tL [0, 1, 0, 1, 0, 1, 0, 1, 0, 1]))))])) (va_Ql (fun (r : Int64) (_ : Unit) => r = 5) (fun _ t => wS D G (va_A [(z32, .inr (0, [.ref z29, .ref z33, .ref z34, .ref z35, .ref z30, .ref z31, .int 2, .int 0, .int 0])), (z35, .inl (G.2.1, 10, .inr (.inl (tL [0, 1, 0, 1, 0, 1, 0, 1, 0, 1]))))] sz) [(z32, .inr (0, [.ref z29, .ref z33, .ref z34, .ref z35, .ref z30, .ref z31, .int 2, .int 0, .int 0])), (z35, .inl (G.2.1, 10, .inr (.inl (tL [0, 1, 0, 1, 0, 1, 0, 1, 0, 1]))))] t) (va_A [(z32, .inr (0, [.ref z29, .ref z33, .ref z34, .ref z35, .ref z30, .ref z31, .int 2, .int 0, .int 0])), (z35, .inl (G.2.1, 10, .inr (.inl (tL [0, 1, 0, 1, 0, 1, 0, 1, 0, 1]))))] sz)) 0 0 (va_A [(z32, .inr (0, [.ref z29, .ref z33, .ref z34, .ref z35, .ref z30, .ref z31, .int 2, .int 0, .int 0])), (z35, .inl (G.2.1, 10, .inr (.inl (tL [0, 1, 0, 1, 0, 1, 0, 1, 0, 1]))))] sz) := by
  refine Met.ofW (cc := cX0_spread) (maxL := 4) (ret := (some .long)) (by decide) rfl ?_
  intro p e s m args below meth c s₁ B hml hv
  obtain ⟨rfl, hsz, hP, hK, hD0, hN⟩ := hv
  have hx := B.exec
  have hb := B.bytes
  have hr := B.returns
  have hts := atoms_spec (ws := wsX0_spread) B.pre
  have hown : s.vm.findClass RX0 = some m.cls := findClass_of_methodNamed B.named
  have hlocks := B.notSynchronized
  subst hsz
  have hD := hD0.self (sz := s.heap.size)
  generalize hAe : va_A [(z32, .inr (0, [.ref z29, .ref z33, .ref z34, .ref z35, .ref z30, .ref z31, .int 2, .int 0, .int 0])), (z35, .inl (G.2.1, 10, .inr (.inl (tL [0, 1, 0, 1, 0, 1, 0, 1, 0, 1]))))] s.heap.size = A at hD ⊢
  have hA : ∀ q : Nat, s.heap.size ≤ q → A q := fun q h => by rw [← hAe]; exact Or.inr h
  have hS : va_S A s.heap s.heap [] := va_S.rf
  have hP : va_P D vwCl [(z32, .inr (0, [.ref z29, .ref z33, .ref z34, .ref z35, .ref z30, .ref z31, .int 2, .int 0, .int 0])), (z35, .inl (G.2.1, 10, .inr (.inl (tL [0, 1, 0, 1, 0, 1, 0, 1, 0, 1]))))] s.heap := hP
  have hl := lv_entry ([.ref z32]) (n := 4) (Nat.le_of_ble_eq_true rfl)
  rw [lg_entry_eq]
  generalize (lg_sl ([.ref z32]) ++ List.replicate (4 - (lg_sl ([.ref z32])).length) Slot.unset).toArray = ls at hl ⊢
  have hl : lv_has ls 4 [(0, .ref z32)] := hl
  refine lv_lconst (v := 0) hx hb dX0_spread_0 (by decide) ?_
  refine lv_lstore_n (lv' := [(1, .long 0), (0, .ref z32)]) hx hb dX0_spread_1 rfl hl (by decide) rfl (fun ls hl => ?_)
  refine lv_iconst (v := 0) hx hb dX0_spread_2 (by decide) ?_
  refine lv_istore_n (lv' := [(3, .int 0), (1, .long 0), (0, .ref z32)]) hx hb dX0_spread_3 rfl hl (by decide) rfl (fun ls hl => ?_)
  refine lv_iload_n hx hb dX0_spread_4 rfl (lv_at hl 0 rfl) ?_
  refine lv_aload_n hx hb dX0_spread_5 rfl (lv_at hl 2 rfl) ?_
  refine va_get (D := D) (ci := 0) (v := .ref z35) (C := RX0) (T := TX0) (N := 9) hx hb hts iX0_spread_X0 hown hK hP 0 rfl rfl 3 (by decide) (hts (.fieldLink RX0 21 "PuppetBridge$Bridge" "curve" "[J") mX0_spread_w0) (fun _ h9 => h9) rfl dX0_spread_6 ?_
  refine va_alen (v := 10) hx hb hK hP 1 1 rfl rfl rfl dX0_spread_9 ?_
  refine lv_icmp_ge (tgt := 31) hx hb dX0_spread_10 (by decide) (fun h9 => absurd h9 (by decide)) (fun _ => ?_)
  refine lv_lload_n hx hb dX0_spread_13 rfl (lv_at hl 1 rfl) ?_
  refine lv_aload_n hx hb dX0_spread_14 rfl (lv_at hl 2 rfl) ?_
  refine va_get (D := D) (ci := 0) (v := .ref z35) (C := RX0) (T := TX0) (N := 9) hx hb hts iX0_spread_X0 hown hK hP 0 rfl rfl 3 (by decide) (hts (.fieldLink RX0 21 "PuppetBridge$Bridge" "curve" "[J") mX0_spread_w0) (fun _ h9 => h9) rfl dX0_spread_15 ?_
  refine lv_iload_n hx hb dX0_spread_18 rfl (lv_at hl 0 rfl) ?_
  refine va_lald hx hb hK hP 1 1 rfl rfl (wk_in rfl) dX0_spread_19 ?_
  refine wk_l 0 rfl ?_
  refine va_mabs_long hx hb (by rw [hml]; exact hl.1.symm) hown (hts (.methodLink RX0 91 Lib.MathLoose.abs_long.x) mX0_spread_w1) (hts (.static Lib.MathLoose.abs_long.x) mX0_spread_w2) (hts (.initialized "java/lang/Math") mX0_spread_w3) (hts (.code Lib.MathLoose.abs_long.x Lib.MathLoose.abs_long.code 2 (some .long)) mX0_spread_w4) (Nat.le_of_ble_eq_true rfl) (Nat.le_of_ble_eq_true rfl) (Nat.le_of_ble_eq_true rfl) (Nat.le_of_ble_eq_true rfl) dX0_spread_20 ?_
  refine wk_l 0 (by decide) ?_
  refine lv_ladd hx hb dX0_spread_23 ?_
  refine wk_l 0 (by decide) ?_
  refine lv_lstore_n (lv' := [(1, .long 0), (3, .int 0), (0, .ref z32)]) hx hb dX0_spread_24 rfl hl (by decide) rfl (fun ls hl => ?_)
  refine lv_iinc (v := 1) (lv' := [(3, .int 1), (1, .long 0), (0, .ref z32)]) hx hb dX0_spread_25 hl (k := 1) rfl (by decide) (by decide) rfl (fun ls hl => ?_)
  refine lv_goto (tgt := 4) hx hb dX0_spread_28 (by decide) ?_
  refine lv_iload_n hx hb dX0_spread_4 rfl (lv_at hl 0 rfl) ?_
  refine lv_aload_n hx hb dX0_spread_5 rfl (lv_at hl 2 rfl) ?_
  refine va_get (D := D) (ci := 0) (v := .ref z35) (C := RX0) (T := TX0) (N := 9) hx hb hts iX0_spread_X0 hown hK hP 0 rfl rfl 3 (by decide) (hts (.fieldLink RX0 21 "PuppetBridge$Bridge" "curve" "[J") mX0_spread_w0) (fun _ h9 => h9) rfl dX0_spread_6 ?_
  refine va_alen (v := 10) hx hb hK hP 1 1 rfl rfl rfl dX0_spread_9 ?_
  refine lv_icmp_ge (tgt := 31) hx hb dX0_spread_10 (by decide) (fun h9 => absurd h9 (by decide)) (fun _ => ?_)
  refine lv_lload_n hx hb dX0_spread_13 rfl (lv_at hl 1 rfl) ?_
  refine lv_aload_n hx hb dX0_spread_14 rfl (lv_at hl 2 rfl) ?_
  refine va_get (D := D) (ci := 0) (v := .ref z35) (C := RX0) (T := TX0) (N := 9) hx hb hts iX0_spread_X0 hown hK hP 0 rfl rfl 3 (by decide) (hts (.fieldLink RX0 21 "PuppetBridge$Bridge" "curve" "[J") mX0_spread_w0) (fun _ h9 => h9) rfl dX0_spread_15 ?_
  refine lv_iload_n hx hb dX0_spread_18 rfl (lv_at hl 0 rfl) ?_
  refine va_lald hx hb hK hP 1 1 rfl rfl (wk_in rfl) dX0_spread_19 ?_
  refine wk_l 1 rfl ?_
  refine va_mabs_long hx hb (by rw [hml]; exact hl.1.symm) hown (hts (.methodLink RX0 91 Lib.MathLoose.abs_long.x) mX0_spread_w1) (hts (.static Lib.MathLoose.abs_long.x) mX0_spread_w2) (hts (.initialized "java/lang/Math") mX0_spread_w3) (hts (.code Lib.MathLoose.abs_long.x Lib.MathLoose.abs_long.code 2 (some .long)) mX0_spread_w4) (Nat.le_of_ble_eq_true rfl) (Nat.le_of_ble_eq_true rfl) (Nat.le_of_ble_eq_true rfl) (Nat.le_of_ble_eq_true rfl) dX0_spread_20 ?_
  refine wk_l 1 (by decide) ?_
  refine lv_ladd hx hb dX0_spread_23 ?_
  refine wk_l 1 (by decide) ?_
  refine lv_lstore_n (lv' := [(1, .long 1), (3, .int 1), (0, .ref z32)]) hx hb dX0_spread_24 rfl hl (by decide) rfl (fun ls hl => ?_)
  refine lv_iinc (v := 2) (lv' := [(3, .int 2), (1, .long 1), (0, .ref z32)]) hx hb dX0_spread_25 hl (k := 1) rfl (by decide) (by decide) rfl (fun ls hl => ?_)
  refine lv_goto (tgt := 4) hx hb dX0_spread_28 (by decide) ?_
  refine lv_iload_n hx hb dX0_spread_4 rfl (lv_at hl 0 rfl) ?_
  refine lv_aload_n hx hb dX0_spread_5 rfl (lv_at hl 2 rfl) ?_
  refine va_get (D := D) (ci := 0) (v := .ref z35) (C := RX0) (T := TX0) (N := 9) hx hb hts iX0_spread_X0 hown hK hP 0 rfl rfl 3 (by decide) (hts (.fieldLink RX0 21 "PuppetBridge$Bridge" "curve" "[J") mX0_spread_w0) (fun _ h9 => h9) rfl dX0_spread_6 ?_
  refine va_alen (v := 10) hx hb hK hP 1 1 rfl rfl rfl dX0_spread_9 ?_
  refine lv_icmp_ge (tgt := 31) hx hb dX0_spread_10 (by decide) (fun h9 => absurd h9 (by decide)) (fun _ => ?_)
  refine lv_lload_n hx hb dX0_spread_13 rfl (lv_at hl 1 rfl) ?_
  refine lv_aload_n hx hb dX0_spread_14 rfl (lv_at hl 2 rfl) ?_
  refine va_get (D := D) (ci := 0) (v := .ref z35) (C := RX0) (T := TX0) (N := 9) hx hb hts iX0_spread_X0 hown hK hP 0 rfl rfl 3 (by decide) (hts (.fieldLink RX0 21 "PuppetBridge$Bridge" "curve" "[J") mX0_spread_w0) (fun _ h9 => h9) rfl dX0_spread_15 ?_
  refine lv_iload_n hx hb dX0_spread_18 rfl (lv_at hl 0 rfl) ?_
  refine va_lald hx hb hK hP 1 1 rfl rfl (wk_in rfl) dX0_spread_19 ?_
  refine wk_l 0 rfl ?_
  refine va_mabs_long hx hb (by rw [hml]; exact hl.1.symm) hown (hts (.methodLink RX0 91 Lib.MathLoose.abs_long.x) mX0_spread_w1) (hts (.static Lib.MathLoose.abs_long.x) mX0_spread_w2) (hts (.initialized "java/lang/Math") mX0_spread_w3) (hts (.code Lib.MathLoose.abs_long.x Lib.MathLoose.abs_long.code 2 (some .long)) mX0_spread_w4) (Nat.le_of_ble_eq_true rfl) (Nat.le_of_ble_eq_true rfl) (Nat.le_of_ble_eq_true rfl) (Nat.le_of_ble_eq_true rfl) dX0_spread_20 ?_
  refine wk_l 0 (by decide) ?_
  refine lv_ladd hx hb dX0_spread_23 ?_
  refine wk_l 1 (by decide) ?_
  refine lv_lstore_n (lv' := [(1, .long 1), (3, .int 2), (0, .ref z32)]) hx hb dX0_spread_24 rfl hl (by decide) rfl (fun ls hl => ?_)
  refine lv_iinc (v := 3) (lv' := [(3, .int 3), (1, .long 1), (0, .ref z32)]) hx hb dX0_spread_25 hl (k := 1) rfl (by decide) (by decide) rfl (fun ls hl => ?_)
  refine lv_goto (tgt := 4) hx hb dX0_spread_28 (by decide) ?_
  refine lv_iload_n hx hb dX0_spread_4 rfl (lv_at hl 0 rfl) ?_
  refine lv_aload_n hx hb dX0_spread_5 rfl (lv_at hl 2 rfl) ?_
  refine va_get (D := D) (ci := 0) (v := .ref z35) (C := RX0) (T := TX0) (N := 9) hx hb hts iX0_spread_X0 hown hK hP 0 rfl rfl 3 (by decide) (hts (.fieldLink RX0 21 "PuppetBridge$Bridge" "curve" "[J") mX0_spread_w0) (fun _ h9 => h9) rfl dX0_spread_6 ?_
  refine va_alen (v := 10) hx hb hK hP 1 1 rfl rfl rfl dX0_spread_9 ?_
  refine lv_icmp_ge (tgt := 31) hx hb dX0_spread_10 (by decide) (fun h9 => absurd h9 (by decide)) (fun _ => ?_)
  refine lv_lload_n hx hb dX0_spread_13 rfl (lv_at hl 1 rfl) ?_
  refine lv_aload_n hx hb dX0_spread_14 rfl (lv_at hl 2 rfl) ?_
  refine va_get (D := D) (ci := 0) (v := .ref z35) (C := RX0) (T := TX0) (N := 9) hx hb hts iX0_spread_X0 hown hK hP 0 rfl rfl 3 (by decide) (hts (.fieldLink RX0 21 "PuppetBridge$Bridge" "curve" "[J") mX0_spread_w0) (fun _ h9 => h9) rfl dX0_spread_15 ?_
  refine lv_iload_n hx hb dX0_spread_18 rfl (lv_at hl 0 rfl) ?_
  refine va_lald hx hb hK hP 1 1 rfl rfl (wk_in rfl) dX0_spread_19 ?_
  refine wk_l 1 rfl ?_
  refine va_mabs_long hx hb (by rw [hml]; exact hl.1.symm) hown (hts (.methodLink RX0 91 Lib.MathLoose.abs_long.x) mX0_spread_w1) (hts (.static Lib.MathLoose.abs_long.x) mX0_spread_w2) (hts (.initialized "java/lang/Math") mX0_spread_w3) (hts (.code Lib.MathLoose.abs_long.x Lib.MathLoose.abs_long.code 2 (some .long)) mX0_spread_w4) (Nat.le_of_ble_eq_true rfl) (Nat.le_of_ble_eq_true rfl) (Nat.le_of_ble_eq_true rfl) (Nat.le_of_ble_eq_true rfl) dX0_spread_20 ?_
  refine wk_l 1 (by decide) ?_
  refine lv_ladd hx hb dX0_spread_23 ?_
  refine wk_l 2 (by decide) ?_
  refine lv_lstore_n (lv' := [(1, .long 2), (3, .int 3), (0, .ref z32)]) hx hb dX0_spread_24 rfl hl (by decide) rfl (fun ls hl => ?_)
  refine lv_iinc (v := 4) (lv' := [(3, .int 4), (1, .long 2), (0, .ref z32)]) hx hb dX0_spread_25 hl (k := 1) rfl (by decide) (by decide) rfl (fun ls hl => ?_)
  refine lv_goto (tgt := 4) hx hb dX0_spread_28 (by decide) ?_
  refine lv_iload_n hx hb dX0_spread_4 rfl (lv_at hl 0 rfl) ?_
  refine lv_aload_n hx hb dX0_spread_5 rfl (lv_at hl 2 rfl) ?_
  refine va_get (D := D) (ci := 0) (v := .ref z35) (C := RX0) (T := TX0) (N := 9) hx hb hts iX0_spread_X0 hown hK hP 0 rfl rfl 3 (by decide) (hts (.fieldLink RX0 21 "PuppetBridge$Bridge" "curve" "[J") mX0_spread_w0) (fun _ h9 => h9) rfl dX0_spread_6 ?_
  refine va_alen (v := 10) hx hb hK hP 1 1 rfl rfl rfl dX0_spread_9 ?_
  refine lv_icmp_ge (tgt := 31) hx hb dX0_spread_10 (by decide) (fun h9 => absurd h9 (by decide)) (fun _ => ?_)
  refine lv_lload_n hx hb dX0_spread_13 rfl (lv_at hl 1 rfl) ?_
  refine lv_aload_n hx hb dX0_spread_14 rfl (lv_at hl 2 rfl) ?_
  refine va_get (D := D) (ci := 0) (v := .ref z35) (C := RX0) (T := TX0) (N := 9) hx hb hts iX0_spread_X0 hown hK hP 0 rfl rfl 3 (by decide) (hts (.fieldLink RX0 21 "PuppetBridge$Bridge" "curve" "[J") mX0_spread_w0) (fun _ h9 => h9) rfl dX0_spread_15 ?_
  refine lv_iload_n hx hb dX0_spread_18 rfl (lv_at hl 0 rfl) ?_
  refine va_lald hx hb hK hP 1 1 rfl rfl (wk_in rfl) dX0_spread_19 ?_
  refine wk_l 0 rfl ?_
  refine va_mabs_long hx hb (by rw [hml]; exact hl.1.symm) hown (hts (.methodLink RX0 91 Lib.MathLoose.abs_long.x) mX0_spread_w1) (hts (.static Lib.MathLoose.abs_long.x) mX0_spread_w2) (hts (.initialized "java/lang/Math") mX0_spread_w3) (hts (.code Lib.MathLoose.abs_long.x Lib.MathLoose.abs_long.code 2 (some .long)) mX0_spread_w4) (Nat.le_of_ble_eq_true rfl) (Nat.le_of_ble_eq_true rfl) (Nat.le_of_ble_eq_true rfl) (Nat.le_of_ble_eq_true rfl) dX0_spread_20 ?_
  refine wk_l 0 (by decide) ?_
  refine lv_ladd hx hb dX0_spread_23 ?_
  refine wk_l 2 (by decide) ?_
  refine lv_lstore_n (lv' := [(1, .long 2), (3, .int 4), (0, .ref z32)]) hx hb dX0_spread_24 rfl hl (by decide) rfl (fun ls hl => ?_)
  refine lv_iinc (v := 5) (lv' := [(3, .int 5), (1, .long 2), (0, .ref z32)]) hx hb dX0_spread_25 hl (k := 1) rfl (by decide) (by decide) rfl (fun ls hl => ?_)
  refine lv_goto (tgt := 4) hx hb dX0_spread_28 (by decide) ?_
  refine lv_iload_n hx hb dX0_spread_4 rfl (lv_at hl 0 rfl) ?_
  refine lv_aload_n hx hb dX0_spread_5 rfl (lv_at hl 2 rfl) ?_
  refine va_get (D := D) (ci := 0) (v := .ref z35) (C := RX0) (T := TX0) (N := 9) hx hb hts iX0_spread_X0 hown hK hP 0 rfl rfl 3 (by decide) (hts (.fieldLink RX0 21 "PuppetBridge$Bridge" "curve" "[J") mX0_spread_w0) (fun _ h9 => h9) rfl dX0_spread_6 ?_
  refine va_alen (v := 10) hx hb hK hP 1 1 rfl rfl rfl dX0_spread_9 ?_
  refine lv_icmp_ge (tgt := 31) hx hb dX0_spread_10 (by decide) (fun h9 => absurd h9 (by decide)) (fun _ => ?_)
  refine lv_lload_n hx hb dX0_spread_13 rfl (lv_at hl 1 rfl) ?_
  refine lv_aload_n hx hb dX0_spread_14 rfl (lv_at hl 2 rfl) ?_
  refine va_get (D := D) (ci := 0) (v := .ref z35) (C := RX0) (T := TX0) (N := 9) hx hb hts iX0_spread_X0 hown hK hP 0 rfl rfl 3 (by decide) (hts (.fieldLink RX0 21 "PuppetBridge$Bridge" "curve" "[J") mX0_spread_w0) (fun _ h9 => h9) rfl dX0_spread_15 ?_
  refine lv_iload_n hx hb dX0_spread_18 rfl (lv_at hl 0 rfl) ?_
  refine va_lald hx hb hK hP 1 1 rfl rfl (wk_in rfl) dX0_spread_19 ?_
  refine wk_l 1 rfl ?_
  refine va_mabs_long hx hb (by rw [hml]; exact hl.1.symm) hown (hts (.methodLink RX0 91 Lib.MathLoose.abs_long.x) mX0_spread_w1) (hts (.static Lib.MathLoose.abs_long.x) mX0_spread_w2) (hts (.initialized "java/lang/Math") mX0_spread_w3) (hts (.code Lib.MathLoose.abs_long.x Lib.MathLoose.abs_long.code 2 (some .long)) mX0_spread_w4) (Nat.le_of_ble_eq_true rfl) (Nat.le_of_ble_eq_true rfl) (Nat.le_of_ble_eq_true rfl) (Nat.le_of_ble_eq_true rfl) dX0_spread_20 ?_
  refine wk_l 1 (by decide) ?_
  refine lv_ladd hx hb dX0_spread_23 ?_
  refine wk_l 3 (by decide) ?_
  refine lv_lstore_n (lv' := [(1, .long 3), (3, .int 5), (0, .ref z32)]) hx hb dX0_spread_24 rfl hl (by decide) rfl (fun ls hl => ?_)
  refine lv_iinc (v := 6) (lv' := [(3, .int 6), (1, .long 3), (0, .ref z32)]) hx hb dX0_spread_25 hl (k := 1) rfl (by decide) (by decide) rfl (fun ls hl => ?_)
  refine lv_goto (tgt := 4) hx hb dX0_spread_28 (by decide) ?_
  refine lv_iload_n hx hb dX0_spread_4 rfl (lv_at hl 0 rfl) ?_
  refine lv_aload_n hx hb dX0_spread_5 rfl (lv_at hl 2 rfl) ?_
  refine va_get (D := D) (ci := 0) (v := .ref z35) (C := RX0) (T := TX0) (N := 9) hx hb hts iX0_spread_X0 hown hK hP 0 rfl rfl 3 (by decide) (hts (.fieldLink RX0 21 "PuppetBridge$Bridge" "curve" "[J") mX0_spread_w0) (fun _ h9 => h9) rfl dX0_spread_6 ?_
  refine va_alen (v := 10) hx hb hK hP 1 1 rfl rfl rfl dX0_spread_9 ?_
  refine lv_icmp_ge (tgt := 31) hx hb dX0_spread_10 (by decide) (fun h9 => absurd h9 (by decide)) (fun _ => ?_)
  refine lv_lload_n hx hb dX0_spread_13 rfl (lv_at hl 1 rfl) ?_
  refine lv_aload_n hx hb dX0_spread_14 rfl (lv_at hl 2 rfl) ?_
  refine va_get (D := D) (ci := 0) (v := .ref z35) (C := RX0) (T := TX0) (N := 9) hx hb hts iX0_spread_X0 hown hK hP 0 rfl rfl 3 (by decide) (hts (.fieldLink RX0 21 "PuppetBridge$Bridge" "curve" "[J") mX0_spread_w0) (fun _ h9 => h9) rfl dX0_spread_15 ?_
  refine lv_iload_n hx hb dX0_spread_18 rfl (lv_at hl 0 rfl) ?_
  refine va_lald hx hb hK hP 1 1 rfl rfl (wk_in rfl) dX0_spread_19 ?_
  refine wk_l 0 rfl ?_
  refine va_mabs_long hx hb (by rw [hml]; exact hl.1.symm) hown (hts (.methodLink RX0 91 Lib.MathLoose.abs_long.x) mX0_spread_w1) (hts (.static Lib.MathLoose.abs_long.x) mX0_spread_w2) (hts (.initialized "java/lang/Math") mX0_spread_w3) (hts (.code Lib.MathLoose.abs_long.x Lib.MathLoose.abs_long.code 2 (some .long)) mX0_spread_w4) (Nat.le_of_ble_eq_true rfl) (Nat.le_of_ble_eq_true rfl) (Nat.le_of_ble_eq_true rfl) (Nat.le_of_ble_eq_true rfl) dX0_spread_20 ?_
  refine wk_l 0 (by decide) ?_
  refine lv_ladd hx hb dX0_spread_23 ?_
  refine wk_l 3 (by decide) ?_
  refine lv_lstore_n (lv' := [(1, .long 3), (3, .int 6), (0, .ref z32)]) hx hb dX0_spread_24 rfl hl (by decide) rfl (fun ls hl => ?_)
  refine lv_iinc (v := 7) (lv' := [(3, .int 7), (1, .long 3), (0, .ref z32)]) hx hb dX0_spread_25 hl (k := 1) rfl (by decide) (by decide) rfl (fun ls hl => ?_)
  refine lv_goto (tgt := 4) hx hb dX0_spread_28 (by decide) ?_
  refine lv_iload_n hx hb dX0_spread_4 rfl (lv_at hl 0 rfl) ?_
  refine lv_aload_n hx hb dX0_spread_5 rfl (lv_at hl 2 rfl) ?_
  refine va_get (D := D) (ci := 0) (v := .ref z35) (C := RX0) (T := TX0) (N := 9) hx hb hts iX0_spread_X0 hown hK hP 0 rfl rfl 3 (by decide) (hts (.fieldLink RX0 21 "PuppetBridge$Bridge" "curve" "[J") mX0_spread_w0) (fun _ h9 => h9) rfl dX0_spread_6 ?_
  refine va_alen (v := 10) hx hb hK hP 1 1 rfl rfl rfl dX0_spread_9 ?_
  refine lv_icmp_ge (tgt := 31) hx hb dX0_spread_10 (by decide) (fun h9 => absurd h9 (by decide)) (fun _ => ?_)
  refine lv_lload_n hx hb dX0_spread_13 rfl (lv_at hl 1 rfl) ?_
  refine lv_aload_n hx hb dX0_spread_14 rfl (lv_at hl 2 rfl) ?_
  refine va_get (D := D) (ci := 0) (v := .ref z35) (C := RX0) (T := TX0) (N := 9) hx hb hts iX0_spread_X0 hown hK hP 0 rfl rfl 3 (by decide) (hts (.fieldLink RX0 21 "PuppetBridge$Bridge" "curve" "[J") mX0_spread_w0) (fun _ h9 => h9) rfl dX0_spread_15 ?_
  refine lv_iload_n hx hb dX0_spread_18 rfl (lv_at hl 0 rfl) ?_
  refine va_lald hx hb hK hP 1 1 rfl rfl (wk_in rfl) dX0_spread_19 ?_
  refine wk_l 1 rfl ?_
  refine va_mabs_long hx hb (by rw [hml]; exact hl.1.symm) hown (hts (.methodLink RX0 91 Lib.MathLoose.abs_long.x) mX0_spread_w1) (hts (.static Lib.MathLoose.abs_long.x) mX0_spread_w2) (hts (.initialized "java/lang/Math") mX0_spread_w3) (hts (.code Lib.MathLoose.abs_long.x Lib.MathLoose.abs_long.code 2 (some .long)) mX0_spread_w4) (Nat.le_of_ble_eq_true rfl) (Nat.le_of_ble_eq_true rfl) (Nat.le_of_ble_eq_true rfl) (Nat.le_of_ble_eq_true rfl) dX0_spread_20 ?_
  refine wk_l 1 (by decide) ?_
  refine lv_ladd hx hb dX0_spread_23 ?_
  refine wk_l 4 (by decide) ?_
  refine lv_lstore_n (lv' := [(1, .long 4), (3, .int 7), (0, .ref z32)]) hx hb dX0_spread_24 rfl hl (by decide) rfl (fun ls hl => ?_)
  refine lv_iinc (v := 8) (lv' := [(3, .int 8), (1, .long 4), (0, .ref z32)]) hx hb dX0_spread_25 hl (k := 1) rfl (by decide) (by decide) rfl (fun ls hl => ?_)
  refine lv_goto (tgt := 4) hx hb dX0_spread_28 (by decide) ?_
  refine lv_iload_n hx hb dX0_spread_4 rfl (lv_at hl 0 rfl) ?_
  refine lv_aload_n hx hb dX0_spread_5 rfl (lv_at hl 2 rfl) ?_
  refine va_get (D := D) (ci := 0) (v := .ref z35) (C := RX0) (T := TX0) (N := 9) hx hb hts iX0_spread_X0 hown hK hP 0 rfl rfl 3 (by decide) (hts (.fieldLink RX0 21 "PuppetBridge$Bridge" "curve" "[J") mX0_spread_w0) (fun _ h9 => h9) rfl dX0_spread_6 ?_
  refine va_alen (v := 10) hx hb hK hP 1 1 rfl rfl rfl dX0_spread_9 ?_
  refine lv_icmp_ge (tgt := 31) hx hb dX0_spread_10 (by decide) (fun h9 => absurd h9 (by decide)) (fun _ => ?_)
  refine lv_lload_n hx hb dX0_spread_13 rfl (lv_at hl 1 rfl) ?_
  refine lv_aload_n hx hb dX0_spread_14 rfl (lv_at hl 2 rfl) ?_
  refine va_get (D := D) (ci := 0) (v := .ref z35) (C := RX0) (T := TX0) (N := 9) hx hb hts iX0_spread_X0 hown hK hP 0 rfl rfl 3 (by decide) (hts (.fieldLink RX0 21 "PuppetBridge$Bridge" "curve" "[J") mX0_spread_w0) (fun _ h9 => h9) rfl dX0_spread_15 ?_
  refine lv_iload_n hx hb dX0_spread_18 rfl (lv_at hl 0 rfl) ?_
  refine va_lald hx hb hK hP 1 1 rfl rfl (wk_in rfl) dX0_spread_19 ?_
  refine wk_l 0 rfl ?_
  refine va_mabs_long hx hb (by rw [hml]; exact hl.1.symm) hown (hts (.methodLink RX0 91 Lib.MathLoose.abs_long.x) mX0_spread_w1) (hts (.static Lib.MathLoose.abs_long.x) mX0_spread_w2) (hts (.initialized "java/lang/Math") mX0_spread_w3) (hts (.code Lib.MathLoose.abs_long.x Lib.MathLoose.abs_long.code 2 (some .long)) mX0_spread_w4) (Nat.le_of_ble_eq_true rfl) (Nat.le_of_ble_eq_true rfl) (Nat.le_of_ble_eq_true rfl) (Nat.le_of_ble_eq_true rfl) dX0_spread_20 ?_
  refine wk_l 0 (by decide) ?_
  refine lv_ladd hx hb dX0_spread_23 ?_
  refine wk_l 4 (by decide) ?_
  refine lv_lstore_n (lv' := [(1, .long 4), (3, .int 8), (0, .ref z32)]) hx hb dX0_spread_24 rfl hl (by decide) rfl (fun ls hl => ?_)
  refine lv_iinc (v := 9) (lv' := [(3, .int 9), (1, .long 4), (0, .ref z32)]) hx hb dX0_spread_25 hl (k := 1) rfl (by decide) (by decide) rfl (fun ls hl => ?_)
  refine lv_goto (tgt := 4) hx hb dX0_spread_28 (by decide) ?_
  refine lv_iload_n hx hb dX0_spread_4 rfl (lv_at hl 0 rfl) ?_
  refine lv_aload_n hx hb dX0_spread_5 rfl (lv_at hl 2 rfl) ?_
  refine va_get (D := D) (ci := 0) (v := .ref z35) (C := RX0) (T := TX0) (N := 9) hx hb hts iX0_spread_X0 hown hK hP 0 rfl rfl 3 (by decide) (hts (.fieldLink RX0 21 "PuppetBridge$Bridge" "curve" "[J") mX0_spread_w0) (fun _ h9 => h9) rfl dX0_spread_6 ?_
  refine va_alen (v := 10) hx hb hK hP 1 1 rfl rfl rfl dX0_spread_9 ?_
  refine lv_icmp_ge (tgt := 31) hx hb dX0_spread_10 (by decide) (fun h9 => absurd h9 (by decide)) (fun _ => ?_)
  refine lv_lload_n hx hb dX0_spread_13 rfl (lv_at hl 1 rfl) ?_
  refine lv_aload_n hx hb dX0_spread_14 rfl (lv_at hl 2 rfl) ?_
  refine va_get (D := D) (ci := 0) (v := .ref z35) (C := RX0) (T := TX0) (N := 9) hx hb hts iX0_spread_X0 hown hK hP 0 rfl rfl 3 (by decide) (hts (.fieldLink RX0 21 "PuppetBridge$Bridge" "curve" "[J") mX0_spread_w0) (fun _ h9 => h9) rfl dX0_spread_15 ?_
  refine lv_iload_n hx hb dX0_spread_18 rfl (lv_at hl 0 rfl) ?_
  refine va_lald hx hb hK hP 1 1 rfl rfl (wk_in rfl) dX0_spread_19 ?_
  refine wk_l 1 rfl ?_
  refine va_mabs_long hx hb (by rw [hml]; exact hl.1.symm) hown (hts (.methodLink RX0 91 Lib.MathLoose.abs_long.x) mX0_spread_w1) (hts (.static Lib.MathLoose.abs_long.x) mX0_spread_w2) (hts (.initialized "java/lang/Math") mX0_spread_w3) (hts (.code Lib.MathLoose.abs_long.x Lib.MathLoose.abs_long.code 2 (some .long)) mX0_spread_w4) (Nat.le_of_ble_eq_true rfl) (Nat.le_of_ble_eq_true rfl) (Nat.le_of_ble_eq_true rfl) (Nat.le_of_ble_eq_true rfl) dX0_spread_20 ?_
  refine wk_l 1 (by decide) ?_
  refine lv_ladd hx hb dX0_spread_23 ?_
  refine wk_l 5 (by decide) ?_
  refine lv_lstore_n (lv' := [(1, .long 5), (3, .int 9), (0, .ref z32)]) hx hb dX0_spread_24 rfl hl (by decide) rfl (fun ls hl => ?_)
  refine lv_iinc (v := 10) (lv' := [(3, .int 10), (1, .long 5), (0, .ref z32)]) hx hb dX0_spread_25 hl (k := 1) rfl (by decide) (by decide) rfl (fun ls hl => ?_)
  refine lv_goto (tgt := 4) hx hb dX0_spread_28 (by decide) ?_
  refine lv_iload_n hx hb dX0_spread_4 rfl (lv_at hl 0 rfl) ?_
  refine lv_aload_n hx hb dX0_spread_5 rfl (lv_at hl 2 rfl) ?_
  refine va_get (D := D) (ci := 0) (v := .ref z35) (C := RX0) (T := TX0) (N := 9) hx hb hts iX0_spread_X0 hown hK hP 0 rfl rfl 3 (by decide) (hts (.fieldLink RX0 21 "PuppetBridge$Bridge" "curve" "[J") mX0_spread_w0) (fun _ h9 => h9) rfl dX0_spread_6 ?_
  refine va_alen (v := 10) hx hb hK hP 1 1 rfl rfl rfl dX0_spread_9 ?_
  refine lv_icmp_ge (tgt := 31) hx hb dX0_spread_10 (by decide) (fun _ => ?_) (fun h9 => absurd h9 (by decide))
  refine lv_lload_n hx hb dX0_spread_31 rfl (lv_at hl 1 rfl) ?_
  have hP9 := hP.sub (ws' := [(z32, .inr (0, [.ref z29, .ref z33, .ref z34, .ref z35, .ref z30, .ref z31, .int 2, .int 0, .int 0])), (z35, .inl (G.2.1, 10, .inr (.inl (tL [0, 1, 0, 1, 0, 1, 0, 1, 0, 1]))))]) [0, 1] rfl
  have hD9 := hD.sub (ws' := [(z32, .inr (0, [.ref z29, .ref z33, .ref z34, .ref z35, .ref z30, .ref z31, .int 2, .int 0, .int 0])), (z35, .inl (G.2.1, 10, .inr (.inl (tL [0, 1, 0, 1, 0, 1, 0, 1, 0, 1]))))]) [0, 1] (by decide) rfl
  exact W.lret (v := 5) hx hb hr (fun t ht hW => ⟨⟨5, (), rfl, rfl, ⟨by rw [ht]; exact hP9, va_K.moved hW.alike hK, hD9⟩⟩, hS.F ht⟩) hS.2.2 dX0_spread_32

theorem mX0_isFreeBehind_w0 : Cond.fieldLink RX0 42 "PuppetBridge$Bridge" "tangle" "I" ∈ wsX0_isFreeBehind := by decide +kernel
theorem mX0_isFreeBehind_w1 : Cond.fieldLink RX0 81 "PuppetBridge$Bridge" "FARTHEST" "[I" ∈ wsX0_isFreeBehind := by decide +kernel
theorem iX0_isFreeBehind_X0 : ∀ w ∈ wsX00, w ∈ wsX0_isFreeBehind := fun _ h => List.mem_cons_of_mem _ (List.mem_append_right _ h)
set_option maxRecDepth 20000 in
theorem ggX0_isFreeBehind_X0_spread : GoodIn wsX0_isFreeBehind wsX0_spread := goodIn_r _ [9, 10, 11, 12, 13, 14, 63, 64, 65, 66, 67, 68, 69, 70, 71] (by decide +kernel) (by decide +kernel)
set_option maxRecDepth 20000 in
theorem gX0_isFreeBehind_X0_spread : GoodIn wsX0_isFreeBehind (wsV RX0 77 RX0 yX0_spread wsX0_spread) := goodIn_app (goodIn_of _ (by decide +kernel)) ggX0_isFreeBehind_X0_spread
set_option maxRecDepth 20000 in
theorem ggX0_isFreeBehind_X0_isFree : GoodIn wsX0_isFreeBehind wsX0_isFree := goodIn_r _ [18, 1, 10, 19, 20, 8, 21, 63, 64, 65, 66, 67, 68, 69, 70, 71] (by decide +kernel) (by decide +kernel)
set_option maxRecDepth 20000 in
theorem gX0_isFreeBehind_X0_isFree : GoodIn wsX0_isFreeBehind (wsV RX0 84 RX0 yX0_isFree wsX0_isFree) := goodIn_app (goodIn_of _ (by decide +kernel)) ggX0_isFreeBehind_X0_isFree
theorem dX0_isFreeBehind_0 : decode cX0_isFreeBehind 0 = .ok (.iload_n 1, 1) := by decide +kernel
theorem dX0_isFreeBehind_1 : decode cX0_isFreeBehind 1 = .ok (.iload_n 2, 1) := by decide +kernel
theorem dX0_isFreeBehind_2 : decode cX0_isFreeBehind 2 = .ok (.isub, 1) := by decide +kernel
theorem dX0_isFreeBehind_3 : decode cX0_isFreeBehind 3 = .ok (.istore_n 3, 1) := by decide +kernel
theorem dX0_isFreeBehind_4 : decode cX0_isFreeBehind 4 = .ok (.iload_n 3, 1) := by decide +kernel
theorem dX0_isFreeBehind_5 : decode cX0_isFreeBehind 5 = .ok (.ifCond .lt 31, 3) := by decide +kernel
theorem dX0_isFreeBehind_8 : decode cX0_isFreeBehind 8 = .ok (.iload_n 3, 1) := by decide +kernel
theorem dX0_isFreeBehind_9 : decode cX0_isFreeBehind 9 = .ok (.bipush 6, 2) := by decide +kernel
theorem dX0_isFreeBehind_11 : decode cX0_isFreeBehind 11 = .ok (.if_icmp .gt 25, 3) := by decide +kernel
theorem dX0_isFreeBehind_14 : decode cX0_isFreeBehind 14 = .ok (.aload_n 0, 1) := by decide +kernel
theorem dX0_isFreeBehind_15 : decode cX0_isFreeBehind 15 = .ok (.getfield 42, 3) := by decide +kernel
theorem dX0_isFreeBehind_18 : decode cX0_isFreeBehind 18 = .ok (.iload_n 3, 1) := by decide +kernel
theorem dX0_isFreeBehind_19 : decode cX0_isFreeBehind 19 = .ok (.if_icmp .gt 17, 3) := by decide +kernel
theorem dX0_isFreeBehind_22 : decode cX0_isFreeBehind 22 = .ok (.aload_n 0, 1) := by decide +kernel
theorem dX0_isFreeBehind_23 : decode cX0_isFreeBehind 23 = .ok (.invokevirtual 77, 3) := by decide +kernel
theorem dX0_isFreeBehind_26 : decode cX0_isFreeBehind 26 = .ok (.getstatic 81, 3) := by decide +kernel
theorem dX0_isFreeBehind_29 : decode cX0_isFreeBehind 29 = .ok (.iload_n 3, 1) := by decide +kernel
theorem dX0_isFreeBehind_30 : decode cX0_isFreeBehind 30 = .ok (.iaload, 1) := by decide +kernel
theorem dX0_isFreeBehind_31 : decode cX0_isFreeBehind 31 = .ok (.i2l, 1) := by decide +kernel
theorem dX0_isFreeBehind_32 : decode cX0_isFreeBehind 32 = .ok (.lcmp, 1) := by decide +kernel
theorem dX0_isFreeBehind_33 : decode cX0_isFreeBehind 33 = .ok (.ifCond .le 5, 3) := by decide +kernel
theorem dX0_isFreeBehind_38 : decode cX0_isFreeBehind 38 = .ok (.iload_n 3, 1) := by decide +kernel
theorem dX0_isFreeBehind_39 : decode cX0_isFreeBehind 39 = .ok (.ifCond .eq 9, 3) := by decide +kernel
theorem dX0_isFreeBehind_48 : decode cX0_isFreeBehind 48 = .ok (.aload_n 0, 1) := by decide +kernel
theorem dX0_isFreeBehind_49 : decode cX0_isFreeBehind 49 = .ok (.invokevirtual 84, 3) := by decide +kernel
theorem dX0_isFreeBehind_52 : decode cX0_isFreeBehind 52 = .ok (.ireturn, 1) := by decide +kernel
set_option maxHeartbeats 4000000 in
set_option maxRecDepth 100000 in
/-- X0_isFreeBehind -/
theorem kX0_isFreeBehind (l : Launch) (D : va_G) (G : tyG) (z32 : Nat) (z29 : Nat) (z33 : Nat) (z34 : Nat) (z35 : Nat) (z30 : Nat) (z31 : Nat) (tf : Nat) (sz : Nat) : Met l yX0_isFreeBehind wsX0_isFreeBehind ({ frames := 2, cells := 0, slots := 0, locals := 55 }) (va_Pc [.ref z32, .int 0, .int 0] (fun U => wB D G sz [(z32, .inr (0, [.ref z29, .ref z33, .ref z34, .ref z35, .ref z30, .ref z31, .int 2, .int 0, .int 0])), (z35, .inl (G.2.1, 10, .inr (.inl (tL [0, 1, 0, 1, 0, 1, 0, 1, 0, 1]))))] U ∧ wF (va_A [(z32, .inr (0, [.ref z29, .ref z33, .ref z34, .ref z35, .ref z30, .ref z31, .int 2, .int 0, .int 0])), (z35, .inl (G.2.1, 10, .inr (.inl (tL [0, 1, 0, 1, 0, 1, 0, 1, 0, 1]))))] sz) tf U)) (va_Qi (fun (r : Int32) (_ : Unit) => r = 1) (fun _ _ => True) (va_A [(z32, .inr (0, [.ref z29, .ref z33, .ref z34, .ref z35, .ref z30, .ref z31, .int 2, .int 0, .int 0])), (z35, .inl (G.2.1, 10, .inr (.inl (tL [0, 1, 0, 1, 0, 1, 0, 1, 0, 1]))))] sz)) 0 0 (va_A [(z32, .inr (0, [.ref z29, .ref z33, .ref z34, .ref z35, .ref z30, .ref z31, .int 2, .int 0, .int 0])), (z35, .inl (G.2.1, 10, .inr (.inl (tL [0, 1, 0, 1, 0, 1, 0, 1, 0, 1]))))] sz) := by
  refine Met.ofW (cc := cX0_isFreeBehind) (maxL := 7) (ret := (some .boolean)) (by decide) rfl ?_
  intro p e s m args below meth c s₁ B hml hv
  obtain ⟨rfl, ⟨hsz, hP, hK, hD0, hN⟩, hZ⟩ := hv
  have hx := B.exec
  have hb := B.bytes
  have hr := B.returns
  have hts := atoms_spec (ws := wsX0_isFreeBehind) B.pre
  have hown : s.vm.findClass RX0 = some m.cls := findClass_of_methodNamed B.named
  have hlocks := B.notSynchronized
  subst hsz
  have hD := hD0.self (sz := s.heap.size)
  generalize hAe : va_A [(z32, .inr (0, [.ref z29, .ref z33, .ref z34, .ref z35, .ref z30, .ref z31, .int 2, .int 0, .int 0])), (z35, .inl (G.2.1, 10, .inr (.inl (tL [0, 1, 0, 1, 0, 1, 0, 1, 0, 1]))))] s.heap.size = A at hD hZ ⊢
  have hA : ∀ q : Nat, s.heap.size ≤ q → A q := fun q h => by rw [← hAe]; exact Or.inr h
  have hS : va_S A s.heap s.heap [] := va_S.rf
  have hP : va_P D vwCl [(z32, .inr (0, [.ref z29, .ref z33, .ref z34, .ref z35, .ref z30, .ref z31, .int 2, .int 0, .int 0])), (z35, .inl (G.2.1, 10, .inr (.inl (tL [0, 1, 0, 1, 0, 1, 0, 1, 0, 1]))))] s.heap := hP
  have hl := lv_entry ([.ref z32, .int 0, .int 0]) (n := 7) (Nat.le_of_ble_eq_true rfl)
  rw [lg_entry_eq]
  generalize (lg_sl ([.ref z32, .int 0, .int 0]) ++ List.replicate (7 - (lg_sl ([.ref z32, .int 0, .int 0])).length) Slot.unset).toArray = ls at hl ⊢
  have hl : lv_has ls 7 [(0, .ref z32), (1, .int 0), (2, .int 0)] := hl
  refine lv_iload_n hx hb dX0_isFreeBehind_0 rfl (lv_at hl 1 rfl) ?_
  refine lv_iload_n hx hb dX0_isFreeBehind_1 rfl (lv_at hl 2 rfl) ?_
  refine lv_isub hx hb dX0_isFreeBehind_2 ?_
  refine wk_i 0 (by decide) ?_
  refine lv_istore_n (lv' := [(3, .int 0), (0, .ref z32), (1, .int 0), (2, .int 0)]) hx hb dX0_isFreeBehind_3 rfl hl (by decide) rfl (fun ls hl => ?_)
  refine lv_iload_n hx hb dX0_isFreeBehind_4 rfl (lv_at hl 0 rfl) ?_
  refine lv_if_lt (tgt := 36) hx hb dX0_isFreeBehind_5 (by decide) (fun h9 => absurd h9 (by decide)) (fun _ => ?_)
  refine lv_iload_n hx hb dX0_isFreeBehind_8 rfl (lv_at hl 0 rfl) ?_
  refine lv_bipush (v := 6) hx hb dX0_isFreeBehind_9 (by decide) ?_
  refine lv_icmp_gt (tgt := 36) hx hb dX0_isFreeBehind_11 (by decide) (fun h9 => absurd h9 (by decide)) (fun _ => ?_)
  refine lv_aload_n hx hb dX0_isFreeBehind_14 rfl (lv_at hl 1 rfl) ?_
  refine va_get (D := D) (ci := 0) (v := .int 0) (C := RX0) (T := TX0) (N := 9) hx hb hts iX0_isFreeBehind_X0 hown hK hP 0 rfl rfl 8 (by decide) (hts (.fieldLink RX0 42 "PuppetBridge$Bridge" "tangle" "I") mX0_isFreeBehind_w0) (fun _ h9 => h9) rfl dX0_isFreeBehind_15 ?_
  refine lv_iload_n hx hb dX0_isFreeBehind_18 rfl (lv_at hl 0 rfl) ?_
  refine lv_icmp_gt (tgt := 36) hx hb dX0_isFreeBehind_19 (by decide) (fun h9 => absurd h9 (by decide)) (fun _ => ?_)
  refine lv_aload_n hx hb dX0_isFreeBehind_22 rfl (lv_at hl 1 rfl) ?_
  have hPc := hP.sub (ws' := [(z32, .inr (0, [.ref z29, .ref z33, .ref z34, .ref z35, .ref z30, .ref z31, .int 2, .int 0, .int 0])), (z35, .inl (G.2.1, 10, .inr (.inl (tL [0, 1, 0, 1, 0, 1, 0, 1, 0, 1]))))]) [0, 1] rfl
  have hDc := hD.sub (ws' := [(z32, .inr (0, [.ref z29, .ref z33, .ref z34, .ref z35, .ref z30, .ref z31, .int 2, .int 0, .int 0])), (z35, .inl (G.2.1, 10, .inr (.inl (tL [0, 1, 0, 1, 0, 1, 0, 1, 0, 1]))))]) [0, 1] (by decide) rfl
  have hFc := va_free (wc := [(z32, .inr (0, [.ref z29, .ref z33, .ref z34, .ref z35, .ref z30, .ref z31, .int 2, .int 0, .int 0])), (z35, .inl (G.2.1, 10, .inr (.inl (tL [0, 1, 0, 1, 0, 1, 0, 1, 0, 1]))))]) hD hS hA [0, 1] rfl
  refine va_calll (va_runV (As := []) (rest := []) ⟨hx, hb, hml, hown, hts⟩ (kX0_spread l D G z32 z29 z33 z34 z35 z30 z31 s.heap.size) (cwV 0 hts gX0_isFreeBehind_X0_spread rfl rfl rfl (by decide +kernel) ⟨Nat.le_of_ble_eq_true rfl, Nat.le_of_ble_eq_true rfl⟩) ⟨wB_blind, va_recv hK hPc (ci := 0) (q0 := 0) rfl rfl, wB_pre hPc hK hDc hN⟩ rfl rfl hl.1 rfl (lv_room (Nat.le_of_ble_eq_true rfl)) dX0_isFreeBehind_23 ⟨Nat.le_of_ble_eq_true rfl, Nat.le_of_ble_eq_true rfl⟩) hS (fun q _ h => hFc q h) hFc (fun r1 u t H1 locs ht hvm hr1 hB hz1 hk1 hS => ?_)
  obtain ⟨hP1, hK1, hD1⟩ := hB
  rw [ht] at hP1
  obtain ⟨hP, hD⟩ := va_join (wr := []) (w1 := [(z32, .inr (0, [.ref z29, .ref z33, .ref z34, .ref z35, .ref z30, .ref z31, .int 2, .int 0, .int 0])), (z35, .inl (G.2.1, 10, .inr (.inl (tL [0, 1, 0, 1, 0, 1, 0, 1, 0, 1]))))]) hP hD [0, 1] [] rfl rfl (by decide) (by decide) hk1 hFc hP1 hD1
  clear hPc hDc
  generalize H1 = H at hP hS ⊢
  have hP : va_P D vwCl [(z32, .inr (0, [.ref z29, .ref z33, .ref z34, .ref z35, .ref z30, .ref z31, .int 2, .int 0, .int 0])), (z35, .inl (G.2.1, 10, .inr (.inl (tL [0, 1, 0, 1, 0, 1, 0, 1, 0, 1]))))] H := hP
  have hD : va_D A [(z32, .inr (0, [.ref z29, .ref z33, .ref z34, .ref z35, .ref z30, .ref z31, .int 2, .int 0, .int 0])), (z35, .inl (G.2.1, 10, .inr (.inl (tL [0, 1, 0, 1, 0, 1, 0, 1, 0, 1]))))] := hD
  subst hr1
  refine va_gets (v := .ref tf) hx hb hZ.1 hS hown (hts (.fieldLink RX0 81 "PuppetBridge$Bridge" "FARTHEST" "[I") mX0_isFreeBehind_w1) (fun _ h9 => h9) dX0_isFreeBehind_26 ?_
  refine lv_iload_n hx hb dX0_isFreeBehind_29 rfl (lv_at hl 0 rfl) ?_
  refine va_ti (v := .int 5) hx hb hZ.2 hS (wk_in rfl) rfl dX0_isFreeBehind_30 ?_
  refine lv_i2l hx hb dX0_isFreeBehind_31 rfl ?_
  refine wk_l 5 (by decide) ?_
  refine W.lcmp hx hb dX0_isFreeBehind_32 ?_
  refine wk_i 0 (by decide) ?_
  refine lv_if_le (tgt := 38) hx hb dX0_isFreeBehind_33 (by decide) (fun _ => ?_) (fun h9 => absurd h9 (by decide))
  refine lv_iload_n hx hb dX0_isFreeBehind_38 rfl (lv_at hl 0 rfl) ?_
  refine lv_if_eq (tgt := 48) hx hb dX0_isFreeBehind_39 (by decide) (fun _ => ?_) (fun h9 => absurd h9 (by decide))
  refine lv_aload_n hx hb dX0_isFreeBehind_48 rfl (lv_at hl 1 rfl) ?_
  have hPc := hP.sub (ws' := [(z32, .inr (0, [.ref z29, .ref z33, .ref z34, .ref z35, .ref z30, .ref z31, .int 2, .int 0, .int 0])), (z35, .inl (G.2.1, 10, .inr (.inl (tL [0, 1, 0, 1, 0, 1, 0, 1, 0, 1]))))]) [0, 1] rfl
  have hDc := hD.sub (ws' := [(z32, .inr (0, [.ref z29, .ref z33, .ref z34, .ref z35, .ref z30, .ref z31, .int 2, .int 0, .int 0])), (z35, .inl (G.2.1, 10, .inr (.inl (tL [0, 1, 0, 1, 0, 1, 0, 1, 0, 1]))))]) [0, 1] (by decide) rfl
  have hFc := va_free (wc := [(z32, .inr (0, [.ref z29, .ref z33, .ref z34, .ref z35, .ref z30, .ref z31, .int 2, .int 0, .int 0])), (z35, .inl (G.2.1, 10, .inr (.inl (tL [0, 1, 0, 1, 0, 1, 0, 1, 0, 1]))))]) hD hS hA [0, 1] rfl
  refine va_calli (va_runV (As := []) (rest := []) ⟨hx, hb, hml, hown, hts⟩ (kX0_isFree l D G z32 z29 z33 z34 z35 z30 z31 H.size) (cwV 0 hts gX0_isFreeBehind_X0_isFree rfl rfl rfl (by decide +kernel) ⟨Nat.le_of_ble_eq_true rfl, Nat.le_of_ble_eq_true rfl⟩) ⟨wB_blind, va_recv hK hPc (ci := 0) (q0 := 0) rfl rfl, wB_pre hPc hK hDc hN⟩ rfl rfl hl.1 rfl (lv_room (Nat.le_of_ble_eq_true rfl)) dX0_isFreeBehind_49 ⟨Nat.le_of_ble_eq_true rfl, Nat.le_of_ble_eq_true rfl⟩) hS (fun q _ h => hFc q h) hFc (fun r2 u t H1 locs ht hvm hr2 hB hz1 hk1 hS => ?_)
  obtain ⟨hP1, hK1, hD1⟩ := hB
  rw [ht] at hP1
  obtain ⟨hP, hD⟩ := va_join (wr := []) (w1 := [(z32, .inr (0, [.ref z29, .ref z33, .ref z34, .ref z35, .ref z30, .ref z31, .int 2, .int 0, .int 0])), (z35, .inl (G.2.1, 10, .inr (.inl (tL [0, 1, 0, 1, 0, 1, 0, 1, 0, 1]))))]) hP hD [0, 1] [] rfl rfl (by decide) (by decide) hk1 hFc hP1 hD1
  clear hPc hDc
  generalize H1 = H at hP hS ⊢
  have hP : va_P D vwCl [(z32, .inr (0, [.ref z29, .ref z33, .ref z34, .ref z35, .ref z30, .ref z31, .int 2, .int 0, .int 0])), (z35, .inl (G.2.1, 10, .inr (.inl (tL [0, 1, 0, 1, 0, 1, 0, 1, 0, 1]))))] H := hP
  have hD : va_D A [(z32, .inr (0, [.ref z29, .ref z33, .ref z34, .ref z35, .ref z30, .ref z31, .int 2, .int 0, .int 0])), (z35, .inl (G.2.1, 10, .inr (.inl (tL [0, 1, 0, 1, 0, 1, 0, 1, 0, 1]))))] := hD
  subst hr2
  exact W.zret (v := 1) hx hb hr rfl (fun t ht hW => ⟨⟨1, (), rfl, rfl, trivial⟩, hS.F ht⟩) hS.2.2 dX0_isFreeBehind_52

theorem mX0_unwind_w0 : Cond.fieldLink RX0 42 "PuppetBridge$Bridge" "tangle" "I" ∈ wsX0_unwind := by decide +kernel
theorem iX0_unwind_X0 : ∀ w ∈ wsX00, w ∈ wsX0_unwind := fun _ h => List.mem_cons_of_mem _ (List.mem_append_right _ h)
set_option maxRecDepth 20000 in
theorem ggX0_unwind_X0_isFreeBehind : GoodIn wsX0_unwind wsX0_isFreeBehind := goodIn_r _ [5, 1, 6, 7, 8, 9, 10, 11, 4, 12, 13, 14, 15, 16, 17, 18, 19, 20, 21, 22, 23, 24, 25, 26, 27, 28, 29, 30, 31, 32, 33, 34, 35, 36, 37, 38, 39, 40, 41, 42, 43, 44, 45, 46, 47, 48, 49, 50, 51, 52, 53, 54, 55, 56, 57, 58, 59, 60, 61, 62, 63, 2, 3, 64, 65, 66, 67, 68, 69, 70, 71, 72] (by decide +kernel) (by decide +kernel)
set_option maxRecDepth 20000 in
theorem gX0_unwind_X0_isFreeBehind : GoodIn wsX0_unwind (va_wsS RX0 73 yX0_isFreeBehind wsX0_isFreeBehind) := goodIn_app (goodIn_of _ (by decide +kernel)) ggX0_unwind_X0_isFreeBehind
theorem dX0_unwind_0 : decode cX0_unwind 0 = .ok (.aload_n 0, 1) := by decide +kernel
theorem dX0_unwind_1 : decode cX0_unwind 1 = .ok (.getfield 42, 3) := by decide +kernel
theorem dX0_unwind_4 : decode cX0_unwind 4 = .ok (.istore_n 1, 1) := by decide +kernel
theorem dX0_unwind_5 : decode cX0_unwind 5 = .ok (.iload_n 1, 1) := by decide +kernel
theorem dX0_unwind_6 : decode cX0_unwind 6 = .ok (.bipush 6, 2) := by decide +kernel
theorem dX0_unwind_8 : decode cX0_unwind 8 = .ok (.if_icmp .gt 20, 3) := by decide +kernel
theorem dX0_unwind_11 : decode cX0_unwind 11 = .ok (.aload_n 0, 1) := by decide +kernel
theorem dX0_unwind_12 : decode cX0_unwind 12 = .ok (.iload_n 1, 1) := by decide +kernel
theorem dX0_unwind_13 : decode cX0_unwind 13 = .ok (.iconst 0, 1) := by decide +kernel
theorem dX0_unwind_14 : decode cX0_unwind 14 = .ok (.invokestatic 73, 3) := by decide +kernel
theorem dX0_unwind_17 : decode cX0_unwind 17 = .ok (.ifCond .eq 5, 3) := by decide +kernel
theorem dX0_unwind_20 : decode cX0_unwind 20 = .ok (.iload_n 1, 1) := by decide +kernel
theorem dX0_unwind_21 : decode cX0_unwind 21 = .ok (.ireturn, 1) := by decide +kernel
set_option maxHeartbeats 4000000 in
set_option maxRecDepth 100000 in
/-- X0_unwind -/
theorem kX0_unwind (l : Launch) (D : va_G) (G : tyG) (z32 : Nat) (z29 : Nat) (z33 : Nat) (z34 : Nat) (z35 : Nat) (z30 : Nat) (z31 : Nat) (tf : Nat) (sz : Nat) : Met l yX0_unwind wsX0_unwind ({ frames := 3, cells := 0, slots := 0, locals := 81 }) (va_Pc [.ref z32] (fun U => wB D G sz [(z32, .inr (0, [.ref z29, .ref z33, .ref z34, .ref z35, .ref z30, .ref z31, .int 2, .int 0, .int 0])), (z35, .inl (G.2.1, 10, .inr (.inl (tL [0, 1, 0, 1, 0, 1, 0, 1, 0, 1]))))] U ∧ wF (va_A [(z32, .inr (0, [.ref z29, .ref z33, .ref z34, .ref z35, .ref z30, .ref z31, .int 2, .int 0, .int 0])), (z35, .inl (G.2.1, 10, .inr (.inl (tL [0, 1, 0, 1, 0, 1, 0, 1, 0, 1]))))] sz) tf U)) (va_Qi (fun (r : Int32) (_ : Unit) => r = 0) (fun _ _ => True) (va_A [(z32, .inr (0, [.ref z29, .ref z33, .ref z34, .ref z35, .ref z30, .ref z31, .int 2, .int 0, .int 0])), (z35, .inl (G.2.1, 10, .inr (.inl (tL [0, 1, 0, 1, 0, 1, 0, 1, 0, 1]))))] sz)) 0 0 (va_A [(z32, .inr (0, [.ref z29, .ref z33, .ref z34, .ref z35, .ref z30, .ref z31, .int 2, .int 0, .int 0])), (z35, .inl (G.2.1, 10, .inr (.inl (tL [0, 1, 0, 1, 0, 1, 0, 1, 0, 1]))))] sz) := by
  refine Met.ofW (cc := cX0_unwind) (maxL := 2) (ret := (some .int)) (by decide) rfl ?_
  intro p e s m args below meth c s₁ B hml hv
  obtain ⟨rfl, ⟨hsz, hP, hK, hD0, hN⟩, hZ⟩ := hv
  have hx := B.exec
  have hb := B.bytes
  have hr := B.returns
  have hts := atoms_spec (ws := wsX0_unwind) B.pre
  have hown : s.vm.findClass RX0 = some m.cls := findClass_of_methodNamed B.named
  have hlocks := B.notSynchronized
  subst hsz
  have hD := hD0.self (sz := s.heap.size)
  generalize hAe : va_A [(z32, .inr (0, [.ref z29, .ref z33, .ref z34, .ref z35, .ref z30, .ref z31, .int 2, .int 0, .int 0])), (z35, .inl (G.2.1, 10, .inr (.inl (tL [0, 1, 0, 1, 0, 1, 0, 1, 0, 1]))))] s.heap.size = A at hD hZ ⊢
  have hA : ∀ q : Nat, s.heap.size ≤ q → A q := fun q h => by rw [← hAe]; exact Or.inr h
  have hS : va_S A s.heap s.heap [] := va_S.rf
  have hP : va_P D vwCl [(z32, .inr (0, [.ref z29, .ref z33, .ref z34, .ref z35, .ref z30, .ref z31, .int 2, .int 0, .int 0])), (z35, .inl (G.2.1, 10, .inr (.inl (tL [0, 1, 0, 1, 0, 1, 0, 1, 0, 1]))))] s.heap := hP
  have hl := lv_entry ([.ref z32]) (n := 2) (Nat.le_of_ble_eq_true rfl)
  rw [lg_entry_eq]
  generalize (lg_sl ([.ref z32]) ++ List.replicate (2 - (lg_sl ([.ref z32])).length) Slot.unset).toArray = ls at hl ⊢
  have hl : lv_has ls 2 [(0, .ref z32)] := hl
  refine lv_aload_n hx hb dX0_unwind_0 rfl (lv_at hl 0 rfl) ?_
  refine va_get (D := D) (ci := 0) (v := .int 0) (C := RX0) (T := TX0) (N := 9) hx hb hts iX0_unwind_X0 hown hK hP 0 rfl rfl 8 (by decide) (hts (.fieldLink RX0 42 "PuppetBridge$Bridge" "tangle" "I") mX0_unwind_w0) (fun _ h9 => h9) rfl dX0_unwind_1 ?_
  refine lv_istore_n (lv' := [(1, .int 0), (0, .ref z32)]) hx hb dX0_unwind_4 rfl hl (by decide) rfl (fun ls hl => ?_)
  refine lv_iload_n hx hb dX0_unwind_5 rfl (lv_at hl 0 rfl) ?_
  refine lv_bipush (v := 6) hx hb dX0_unwind_6 (by decide) ?_
  refine lv_icmp_gt (tgt := 28) hx hb dX0_unwind_8 (by decide) (fun h9 => absurd h9 (by decide)) (fun _ => ?_)
  refine lv_aload_n hx hb dX0_unwind_11 rfl (lv_at hl 1 rfl) ?_
  refine lv_iload_n hx hb dX0_unwind_12 rfl (lv_at hl 0 rfl) ?_
  refine lv_iconst (v := 0) hx hb dX0_unwind_13 (by decide) ?_
  have hPc := hP.sub (ws' := [(z32, .inr (0, [.ref z29, .ref z33, .ref z34, .ref z35, .ref z30, .ref z31, .int 2, .int 0, .int 0])), (z35, .inl (G.2.1, 10, .inr (.inl (tL [0, 1, 0, 1, 0, 1, 0, 1, 0, 1]))))]) [0, 1] rfl
  have hDc := hD.sub (ws' := [(z32, .inr (0, [.ref z29, .ref z33, .ref z34, .ref z35, .ref z30, .ref z31, .int 2, .int 0, .int 0])), (z35, .inl (G.2.1, 10, .inr (.inl (tL [0, 1, 0, 1, 0, 1, 0, 1, 0, 1]))))]) [0, 1] (by decide) rfl
  have hFc := va_free (wc := [(z32, .inr (0, [.ref z29, .ref z33, .ref z34, .ref z35, .ref z30, .ref z31, .int 2, .int 0, .int 0])), (z35, .inl (G.2.1, 10, .inr (.inl (tL [0, 1, 0, 1, 0, 1, 0, 1, 0, 1]))))]) hD hS hA [0, 1] rfl
  refine va_calli (va_runS (As := [.ref z32, .int 0, .int 0]) (rest := []) ⟨hx, hb, hml, hown, hts⟩ (kX0_isFreeBehind l D G z32 z29 z33 z34 z35 z30 z31 tf s.heap.size) (va_cwS 3 hts gX0_unwind_X0_isFreeBehind rfl rfl rfl (by decide +kernel) ⟨Nat.le_of_ble_eq_true rfl, Nat.le_of_ble_eq_true rfl⟩) ⟨wBF_blind, wBF_pre hPc hK hDc hN hZ hS hFc⟩ rfl rfl hl.1 rfl (lv_room (Nat.le_of_ble_eq_true rfl)) dX0_unwind_14 ⟨Nat.le_of_ble_eq_true rfl, Nat.le_of_ble_eq_true rfl⟩) hS (fun q _ h => hFc q h) hFc (fun r1 u t H1 locs ht hvm hr1 hB hz1 hk1 hS => ?_)
  obtain ⟨hP, hD⟩ := va_join (wr := []) (w1 := []) hP hD [0, 1] [] rfl rfl (by decide) (by decide) hk1 hFc wP_nil wD_nil
  clear hPc hDc
  generalize H1 = H at hP hS ⊢
  have hP : va_P D vwCl [] H := hP
  have hD : va_D A [] := hD
  subst hr1
  refine lv_if_eq (tgt := 22) hx hb dX0_unwind_17 (by decide) (fun h9 => absurd h9 (by decide)) (fun _ => ?_)
  refine lv_iload_n hx hb dX0_unwind_20 rfl (lv_at hl 0 rfl) ?_
  exact W.iret (v := 0) hx hb hr (fun t ht hW => ⟨⟨0, (), rfl, rfl, trivial⟩, hS.F ht⟩) hS.2.2 dX0_unwind_21

theorem mX11_undo_w0 : Cond.fieldLink RX11 33 "PuppetBridge" "bridge" "LPuppetBridge$Bridge;" ∈ wsX11_undo := by decide +kernel
theorem mX11_undo_w1 : Cond.fieldLink RX11 61 "PuppetBridge" "told" "LPuppetBridge$Row;" ∈ wsX11_undo := by decide +kernel
theorem mX11_undo_w2 : Cond.fieldLink RX11 235 "PuppetBridge$Row" "size" "I" ∈ wsX11_undo := by decide +kernel
theorem iX11_undo_X11 : ∀ w ∈ wsX110, w ∈ wsX11_undo := fun _ h => List.mem_cons_of_mem _ (List.mem_append_left _ (List.mem_append_left _ (List.mem_append_right _ h)))
theorem iX11_undo_X5 : ∀ w ∈ wsX50, w ∈ wsX11_undo := fun _ h => List.mem_cons_of_mem _ (List.mem_append_left _ (List.mem_append_right _ h))
set_option maxRecDepth 20000 in
theorem ggX11_undo_X0_unwind : GoodIn wsX11_undo wsX0_unwind := goodIn_r _ [9, 10, 11, 12, 8, 13, 14, 15, 16, 17, 18, 19, 20, 21, 22, 23, 24, 25, 26, 27, 28, 29, 30, 31, 32, 33, 34, 35, 36, 37, 38, 39, 40, 41, 42, 43, 44, 45, 46, 47, 48, 49, 50, 51, 52, 53, 54, 55, 56, 57, 58, 59, 60, 61, 62, 63, 64, 65, 66, 67, 68, 69, 70, 71, 89, 90, 91, 92, 93, 94, 95, 96, 97] (by decide +kernel) (by decide +kernel)
set_option maxRecDepth 20000 in
theorem gX11_undo_X0_unwind : GoodIn wsX11_undo (wsV RX11 261 RX0 yX0_unwind wsX0_unwind) := goodIn_app (goodIn_of _ (by decide +kernel)) ggX11_undo_X0_unwind
theorem dX11_undo_0 : decode cX11_undo 0 = .ok (.aload_n 0, 1) := by decide +kernel
theorem dX11_undo_1 : decode cX11_undo 1 = .ok (.getfield 33, 3) := by decide +kernel
theorem dX11_undo_4 : decode cX11_undo 4 = .ok (.invokevirtual 261, 3) := by decide +kernel
theorem dX11_undo_7 : decode cX11_undo 7 = .ok (.istore_n 1, 1) := by decide +kernel
theorem dX11_undo_8 : decode cX11_undo 8 = .ok (.iload_n 1, 1) := by decide +kernel
theorem dX11_undo_9 : decode cX11_undo 9 = .ok (.iconst (-1), 1) := by decide +kernel
theorem dX11_undo_10 : decode cX11_undo 10 = .ok (.if_icmp .eq 40, 3) := by decide +kernel
theorem dX11_undo_13 : decode cX11_undo 13 = .ok (.aload_n 0, 1) := by decide +kernel
theorem dX11_undo_14 : decode cX11_undo 14 = .ok (.getfield 61, 3) := by decide +kernel
theorem dX11_undo_17 : decode cX11_undo 17 = .ok (.iconst 0, 1) := by decide +kernel
theorem dX11_undo_18 : decode cX11_undo 18 = .ok (.putfield 235, 3) := by decide +kernel
theorem dX11_undo_21 : decode cX11_undo 21 = .ok (.iconst 0, 1) := by decide +kernel
theorem dX11_undo_22 : decode cX11_undo 22 = .ok (.istore_n 2, 1) := by decide +kernel
theorem dX11_undo_23 : decode cX11_undo 23 = .ok (.iload_n 2, 1) := by decide +kernel
theorem dX11_undo_24 : decode cX11_undo 24 = .ok (.iload_n 1, 1) := by decide +kernel
theorem dX11_undo_25 : decode cX11_undo 25 = .ok (.if_icmp .ge 25, 3) := by decide +kernel
theorem dX11_undo_50 : decode cX11_undo 50 = .ok (.iload_n 1, 1) := by decide +kernel
theorem dX11_undo_51 : decode cX11_undo 51 = .ok (.ireturn, 1) := by decide +kernel
set_option maxHeartbeats 4000000 in
set_option maxRecDepth 100000 in
/-- X11_undo -/
theorem kX11_undo (l : Launch) (D : va_G) (G : tyG) (h0 : Nat) (z0 : Nat) (z23 : Nat) (z25 : Nat) (z32 : Nat) (z36 : Nat) (z40 : Nat) (z43 : Nat) (z49 : Nat) (z29 : Nat) (z33 : Nat) (z34 : Nat) (z35 : Nat) (z30 : Nat) (z31 : Nat) (z50 : Nat) (tf : Nat) (sz : Nat) : Met l yX11_undo wsX11_undo ({ frames := 4, cells := 0, slots := 0, locals := 102 }) (va_Pc [.ref h0] (fun U => wB D G sz [(h0, .inr (11, [.ref z0, .ref z23, .ref z25, .ref z32, .ref z36, .ref z40, .ref z43, .ref z49])), (z32, .inr (0, [.ref z29, .ref z33, .ref z34, .ref z35, .ref z30, .ref z31, .int 2, .int 0, .int 0])), (z49, .inr (5, [.ref z50, .int 0])), (z35, .inl (G.2.1, 10, .inr (.inl (tL [0, 1, 0, 1, 0, 1, 0, 1, 0, 1]))))] U ∧ wF (va_A [(h0, .inr (11, [.ref z0, .ref z23, .ref z25, .ref z32, .ref z36, .ref z40, .ref z43, .ref z49])), (z32, .inr (0, [.ref z29, .ref z33, .ref z34, .ref z35, .ref z30, .ref z31, .int 2, .int 0, .int 0])), (z49, .inr (5, [.ref z50, .int 0])), (z35, .inl (G.2.1, 10, .inr (.inl (tL [0, 1, 0, 1, 0, 1, 0, 1, 0, 1]))))] sz) tf U)) (va_Qi (fun (r : Int32) (_ : Unit) => r = 0) (fun _ _ => True) (va_A [(h0, .inr (11, [.ref z0, .ref z23, .ref z25, .ref z32, .ref z36, .ref z40, .ref z43, .ref z49])), (z32, .inr (0, [.ref z29, .ref z33, .ref z34, .ref z35, .ref z30, .ref z31, .int 2, .int 0, .int 0])), (z49, .inr (5, [.ref z50, .int 0])), (z35, .inl (G.2.1, 10, .inr (.inl (tL [0, 1, 0, 1, 0, 1, 0, 1, 0, 1]))))] sz)) 0 0 (va_A [(h0, .inr (11, [.ref z0, .ref z23, .ref z25, .ref z32, .ref z36, .ref z40, .ref z43, .ref z49])), (z32, .inr (0, [.ref z29, .ref z33, .ref z34, .ref z35, .ref z30, .ref z31, .int 2, .int 0, .int 0])), (z49, .inr (5, [.ref z50, .int 0])), (z35, .inl (G.2.1, 10, .inr (.inl (tL [0, 1, 0, 1, 0, 1, 0, 1, 0, 1]))))] sz) := by
  refine Met.ofW (cc := cX11_undo) (maxL := 3) (ret := (some .int)) (by decide) rfl ?_
  intro p e s m args below meth c s₁ B hml hv
  obtain ⟨rfl, ⟨hsz, hP, hK, hD0, hN⟩, hZ⟩ := hv
  have hx := B.exec
  have hb := B.bytes
  have hr := B.returns
  have hts := atoms_spec (ws := wsX11_undo) B.pre
  have hown : s.vm.findClass RX11 = some m.cls := findClass_of_methodNamed B.named
  have hlocks := B.notSynchronized
  subst hsz
  have hD := hD0.self (sz := s.heap.size)
  generalize hAe : va_A [(h0, .inr (11, [.ref z0, .ref z23, .ref z25, .ref z32, .ref z36, .ref z40, .ref z43, .ref z49])), (z32, .inr (0, [.ref z29, .ref z33, .ref z34, .ref z35, .ref z30, .ref z31, .int 2, .int 0, .int 0])), (z49, .inr (5, [.ref z50, .int 0])), (z35, .inl (G.2.1, 10, .inr (.inl (tL [0, 1, 0, 1, 0, 1, 0, 1, 0, 1]))))] s.heap.size = A at hD hZ ⊢
  have hA : ∀ q : Nat, s.heap.size ≤ q → A q := fun q h => by rw [← hAe]; exact Or.inr h
  have hS : va_S A s.heap s.heap [] := va_S.rf
  have hP : va_P D vwCl [(h0, .inr (11, [.ref z0, .ref z23, .ref z25, .ref z32, .ref z36, .ref z40, .ref z43, .ref z49])), (z32, .inr (0, [.ref z29, .ref z33, .ref z34, .ref z35, .ref z30, .ref z31, .int 2, .int 0, .int 0])), (z49, .inr (5, [.ref z50, .int 0])), (z35, .inl (G.2.1, 10, .inr (.inl (tL [0, 1, 0, 1, 0, 1, 0, 1, 0, 1]))))] s.heap := hP
  have hl := lv_entry ([.ref h0]) (n := 3) (Nat.le_of_ble_eq_true rfl)
  rw [lg_entry_eq]
  generalize (lg_sl ([.ref h0]) ++ List.replicate (3 - (lg_sl ([.ref h0])).length) Slot.unset).toArray = ls at hl ⊢
  have hl : lv_has ls 3 [(0, .ref h0)] := hl
  refine lv_aload_n hx hb dX11_undo_0 rfl (lv_at hl 0 rfl) ?_
  refine va_get (D := D) (ci := 11) (v := .ref z32) (C := RX11) (T := TX11) (N := 8) hx hb hts iX11_undo_X11 hown hK hP 0 rfl rfl 3 (by decide) (hts (.fieldLink RX11 33 "PuppetBridge" "bridge" "LPuppetBridge$Bridge;") mX11_undo_w0) (fun _ h9 => h9) rfl dX11_undo_1 ?_
  have hPc := hP.sub (ws' := [(z32, .inr (0, [.ref z29, .ref z33, .ref z34, .ref z35, .ref z30, .ref z31, .int 2, .int 0, .int 0])), (z35, .inl (G.2.1, 10, .inr (.inl (tL [0, 1, 0, 1, 0, 1, 0, 1, 0, 1]))))]) [1, 3] rfl
  have hDc := hD.sub (ws' := [(z32, .inr (0, [.ref z29, .ref z33, .ref z34, .ref z35, .ref z30, .ref z31, .int 2, .int 0, .int 0])), (z35, .inl (G.2.1, 10, .inr (.inl (tL [0, 1, 0, 1, 0, 1, 0, 1, 0, 1]))))]) [1, 3] (by decide) rfl
  have hFc := va_free (wc := [(z32, .inr (0, [.ref z29, .ref z33, .ref z34, .ref z35, .ref z30, .ref z31, .int 2, .int 0, .int 0])), (z35, .inl (G.2.1, 10, .inr (.inl (tL [0, 1, 0, 1, 0, 1, 0, 1, 0, 1]))))]) hD hS hA [1, 3] rfl
  refine va_calli (va_runV (As := []) (rest := []) ⟨hx, hb, hml, hown, hts⟩ (kX0_unwind l D G z32 z29 z33 z34 z35 z30 z31 tf s.heap.size) (cwV 0 hts gX11_undo_X0_unwind rfl rfl rfl (by decide +kernel) ⟨Nat.le_of_ble_eq_true rfl, Nat.le_of_ble_eq_true rfl⟩) ⟨wBF_blind, va_recv hK hPc (ci := 0) (q0 := 0) rfl rfl, wBF_pre hPc hK hDc hN hZ hS hFc⟩ rfl rfl hl.1 rfl (lv_room (Nat.le_of_ble_eq_true rfl)) dX11_undo_4 ⟨Nat.le_of_ble_eq_true rfl, Nat.le_of_ble_eq_true rfl⟩) hS (fun q _ h => hFc q h) hFc (fun r1 u t H1 locs ht hvm hr1 hB hz1 hk1 hS => ?_)
  obtain ⟨hP, hD⟩ := va_join (wr := [(h0, .inr (11, [.ref z0, .ref z23, .ref z25, .ref z32, .ref z36, .ref z40, .ref z43, .ref z49])), (z49, .inr (5, [.ref z50, .int 0]))]) (w1 := []) hP hD [1, 3] [0, 2] rfl rfl (by decide) (by decide) hk1 hFc wP_nil wD_nil
  clear hPc hDc
  generalize H1 = H at hP hS ⊢
  have hP : va_P D vwCl [(h0, .inr (11, [.ref z0, .ref z23, .ref z25, .ref z32, .ref z36, .ref z40, .ref z43, .ref z49])), (z49, .inr (5, [.ref z50, .int 0]))] H := hP
  have hD : va_D A [(h0, .inr (11, [.ref z0, .ref z23, .ref z25, .ref z32, .ref z36, .ref z40, .ref z43, .ref z49])), (z49, .inr (5, [.ref z50, .int 0]))] := hD
  subst hr1
  refine lv_istore_n (lv' := [(1, .int 0), (0, .ref h0)]) hx hb dX11_undo_7 rfl hl (by decide) rfl (fun ls hl => ?_)
  refine lv_iload_n hx hb dX11_undo_8 rfl (lv_at hl 0 rfl) ?_
  refine lv_iconst (v := (-1)) hx hb dX11_undo_9 (by decide) ?_
  refine lv_icmp_eq (tgt := 50) hx hb dX11_undo_10 (by decide) (fun h9 => absurd h9 (by decide)) (fun _ => ?_)
  refine lv_aload_n hx hb dX11_undo_13 rfl (lv_at hl 1 rfl) ?_
  refine va_get (D := D) (ci := 11) (v := .ref z49) (C := RX11) (T := TX11) (N := 8) hx hb hts iX11_undo_X11 hown hK hP 0 rfl rfl 7 (by decide) (hts (.fieldLink RX11 61 "PuppetBridge" "told" "LPuppetBridge$Row;") mX11_undo_w1) (fun _ h9 => h9) rfl dX11_undo_14 ?_
  refine lv_iconst (v := 0) hx hb dX11_undo_17 (by decide) ?_
  refine va_put (D := D) (ci := 5) (v := .int 0) (ty := (tyX5 1)) (C := RX5) (T := TX5) (N := 2) hx hb hts iX11_undo_X5 tyX5 tyX5_ok nmX5 hown hK hP hD hS 1 rfl rfl 1 (by decide) (hts (.fieldLink RX11 235 "PuppetBridge$Row" "size" "I") mX11_undo_w2) (fun _ h9 => h9) rfl (tyX5_ok 1 (by decide)) rfl rfl (Nat.le_of_ble_eq_true rfl) dX11_undo_18 (fun H locs hP hD hS => ?_)
  have hP : va_P D vwCl [(h0, .inr (11, [.ref z0, .ref z23, .ref z25, .ref z32, .ref z36, .ref z40, .ref z43, .ref z49])), (z49, .inr (5, [.ref z50, .int 0]))] H := hP
  have hD : va_D A [(h0, .inr (11, [.ref z0, .ref z23, .ref z25, .ref z32, .ref z36, .ref z40, .ref z43, .ref z49])), (z49, .inr (5, [.ref z50, .int 0]))] := hD
  refine lv_iconst (v := 0) hx hb dX11_undo_21 (by decide) ?_
  refine lv_istore_n (lv' := [(2, .int 0), (1, .int 0), (0, .ref h0)]) hx hb dX11_undo_22 rfl hl (by decide) rfl (fun ls hl => ?_)
  refine lv_iload_n hx hb dX11_undo_23 rfl (lv_at hl 0 rfl) ?_
  refine lv_iload_n hx hb dX11_undo_24 rfl (lv_at hl 1 rfl) ?_
  refine lv_icmp_ge (tgt := 50) hx hb dX11_undo_25 (by decide) (fun _ => ?_) (fun h9 => absurd h9 (by decide))
  refine lv_iload_n hx hb dX11_undo_50 rfl (lv_at hl 1 rfl) ?_
  exact W.iret (v := 0) hx hb hr (fun t ht hW => ⟨⟨0, (), rfl, rfl, trivial⟩, hS.F ht⟩) hS.2.2 dX11_undo_51

theorem mX11_bar_w0 : Cond.fieldLink RX11 33 "PuppetBridge" "bridge" "LPuppetBridge$Bridge;" ∈ wsX11_bar := by decide +kernel
theorem mX11_bar_w1 : Cond.fieldLink RX11 229 "PuppetBridge$Bridge" "bars" "I" ∈ wsX11_bar := by decide +kernel
theorem mX11_bar_w2 : Cond.fieldLink RX11 247 "PuppetBridge$Bridge" "spots" "[I" ∈ wsX11_bar := by decide +kernel
theorem iX11_bar_X0 : ∀ w ∈ wsX00, w ∈ wsX11_bar := fun _ h => List.mem_cons_of_mem _ (List.mem_append_right _ h)
theorem iX11_bar_X11 : ∀ w ∈ wsX110, w ∈ wsX11_bar := fun _ h => List.mem_cons_of_mem _ (List.mem_append_left _ (List.mem_append_right _ h))
set_option maxRecDepth 20000 in
theorem ggX11_bar_X11_within : GoodIn wsX11_bar wsX11_within := goodIn_r _ [7] (by decide +kernel) (by decide +kernel)
set_option maxRecDepth 20000 in
theorem gX11_bar_X11_within : GoodIn wsX11_bar (va_wsS RX11 94 yX11_within wsX11_within) := goodIn_app (goodIn_of _ (by decide +kernel)) ggX11_bar_X11_within
theorem dX11_bar_0 : decode cX11_bar 0 = .ok (.iload_n 1, 1) := by decide +kernel
theorem dX11_bar_1 : decode cX11_bar 1 = .ok (.iconst 0, 1) := by decide +kernel
theorem dX11_bar_2 : decode cX11_bar 2 = .ok (.aload_n 0, 1) := by decide +kernel
theorem dX11_bar_3 : decode cX11_bar 3 = .ok (.getfield 33, 3) := by decide +kernel
theorem dX11_bar_6 : decode cX11_bar 6 = .ok (.getfield 229, 3) := by decide +kernel
theorem dX11_bar_9 : decode cX11_bar 9 = .ok (.iconst 1, 1) := by decide +kernel
theorem dX11_bar_10 : decode cX11_bar 10 = .ok (.isub, 1) := by decide +kernel
theorem dX11_bar_11 : decode cX11_bar 11 = .ok (.invokestatic 94, 3) := by decide +kernel
theorem dX11_bar_14 : decode cX11_bar 14 = .ok (.ifCond .eq 15, 3) := by decide +kernel
theorem dX11_bar_17 : decode cX11_bar 17 = .ok (.aload_n 0, 1) := by decide +kernel
theorem dX11_bar_18 : decode cX11_bar 18 = .ok (.getfield 33, 3) := by decide +kernel
theorem dX11_bar_21 : decode cX11_bar 21 = .ok (.getfield 247, 3) := by decide +kernel
theorem dX11_bar_24 : decode cX11_bar 24 = .ok (.iload_n 1, 1) := by decide +kernel
theorem dX11_bar_25 : decode cX11_bar 25 = .ok (.iaload, 1) := by decide +kernel
theorem dX11_bar_26 : decode cX11_bar 26 = .ok (.goto 4, 3) := by decide +kernel
theorem dX11_bar_29 : decode cX11_bar 29 = .ok (.iconst (-1), 1) := by decide +kernel
theorem dX11_bar_30 : decode cX11_bar 30 = .ok (.ireturn, 1) := by decide +kernel
set_option maxHeartbeats 4000000 in
set_option maxRecDepth 100000 in
/-- X11_bar -/
theorem kX11_bar (l : Launch) (D : va_G) (G : tyG) (h0 : Nat) (x1 : Int32) (z0 : Nat) (z23 : Nat) (z25 : Nat) (z32 : Nat) (z36 : Nat) (z40 : Nat) (z43 : Nat) (z49 : Nat) (z29 : Nat) (z33 : Nat) (z34 : Nat) (z35 : Nat) (z30 : Nat) (z31 : Nat) (sz : Nat) : Met l yX11_bar wsX11_bar ({ frames := 1, cells := 0, slots := 0, locals := 22 }) (va_Pc [.ref h0, .int x1] (wB D G sz [(h0, .inr (11, [.ref z0, .ref z23, .ref z25, .ref z32, .ref z36, .ref z40, .ref z43, .ref z49])), (z32, .inr (0, [.ref z29, .ref z33, .ref z34, .ref z35, .ref z30, .ref z31, .int 2, .int 0, .int 0])), (z33, .inl (G.1, 5, .inl (tI [0, 1, 2, 3, 4])))])) (va_Qi (fun (r : Int32) (_ : Unit) => r = (if inB x1 0 1 = true then x1 else -1)) (fun _ _ => True) (va_A [(h0, .inr (11, [.ref z0, .ref z23, .ref z25, .ref z32, .ref z36, .ref z40, .ref z43, .ref z49])), (z32, .inr (0, [.ref z29, .ref z33, .ref z34, .ref z35, .ref z30, .ref z31, .int 2, .int 0, .int 0])), (z33, .inl (G.1, 5, .inl (tI [0, 1, 2, 3, 4])))] sz)) 0 0 (va_A [(h0, .inr (11, [.ref z0, .ref z23, .ref z25, .ref z32, .ref z36, .ref z40, .ref z43, .ref z49])), (z32, .inr (0, [.ref z29, .ref z33, .ref z34, .ref z35, .ref z30, .ref z31, .int 2, .int 0, .int 0])), (z33, .inl (G.1, 5, .inl (tI [0, 1, 2, 3, 4])))] sz) := by
  refine Met.ofW (cc := cX11_bar) (maxL := 2) (ret := (some .int)) (by decide) rfl ?_
  intro p e s m args below meth c s₁ B hml hv
  obtain ⟨rfl, hsz, hP, hK, hD0, hN⟩ := hv
  have hx := B.exec
  have hb := B.bytes
  have hr := B.returns
  have hts := atoms_spec (ws := wsX11_bar) B.pre
  have hown : s.vm.findClass RX11 = some m.cls := findClass_of_methodNamed B.named
  have hlocks := B.notSynchronized
  subst hsz
  have hD := hD0.self (sz := s.heap.size)
  generalize hAe : va_A [(h0, .inr (11, [.ref z0, .ref z23, .ref z25, .ref z32, .ref z36, .ref z40, .ref z43, .ref z49])), (z32, .inr (0, [.ref z29, .ref z33, .ref z34, .ref z35, .ref z30, .ref z31, .int 2, .int 0, .int 0])), (z33, .inl (G.1, 5, .inl (tI [0, 1, 2, 3, 4])))] s.heap.size = A at hD ⊢
  have hA : ∀ q : Nat, s.heap.size ≤ q → A q := fun q h => by rw [← hAe]; exact Or.inr h
  have hS : va_S A s.heap s.heap [] := va_S.rf
  have hP : va_P D vwCl [(h0, .inr (11, [.ref z0, .ref z23, .ref z25, .ref z32, .ref z36, .ref z40, .ref z43, .ref z49])), (z32, .inr (0, [.ref z29, .ref z33, .ref z34, .ref z35, .ref z30, .ref z31, .int 2, .int 0, .int 0])), (z33, .inl (G.1, 5, .inl (tI [0, 1, 2, 3, 4])))] s.heap := hP
  have hl := lv_entry ([.ref h0, .int x1]) (n := 2) (Nat.le_of_ble_eq_true rfl)
  rw [lg_entry_eq]
  generalize (lg_sl ([.ref h0, .int x1]) ++ List.replicate (2 - (lg_sl ([.ref h0, .int x1])).length) Slot.unset).toArray = ls at hl ⊢
  have hl : lv_has ls 2 [(0, .ref h0), (1, .int x1)] := hl
  refine lv_iload_n hx hb dX11_bar_0 rfl (lv_at hl 1 rfl) ?_
  refine lv_iconst (v := 0) hx hb dX11_bar_1 (by decide) ?_
  refine lv_aload_n hx hb dX11_bar_2 rfl (lv_at hl 0 rfl) ?_
  refine va_get (D := D) (ci := 11) (v := .ref z32) (C := RX11) (T := TX11) (N := 8) hx hb hts iX11_bar_X11 hown hK hP 0 rfl rfl 3 (by decide) (hts (.fieldLink RX11 33 "PuppetBridge" "bridge" "LPuppetBridge$Bridge;") mX11_bar_w0) (fun _ h9 => h9) rfl dX11_bar_3 ?_
  refine va_get (D := D) (ci := 0) (v := .int 2) (C := RX0) (T := TX0) (N := 9) hx hb hts iX11_bar_X0 hown hK hP 1 rfl rfl 6 (by decide) (hts (.fieldLink RX11 229 "PuppetBridge$Bridge" "bars" "I") mX11_bar_w1) (fun _ h9 => h9) rfl dX11_bar_6 ?_
  refine lv_iconst (v := 1) hx hb dX11_bar_9 (by decide) ?_
  refine lv_isub hx hb dX11_bar_10 ?_
  refine wk_i 1 (by decide) ?_
  have hPc := hP.sub (ws' := []) [] rfl
  have hDc := hD.sub (ws' := []) [] (by decide) rfl
  have hFc := va_free (wc := []) hD hS hA [] rfl
  refine va_calli (va_runS (As := [.int x1, .int 0, .int 1]) (rest := []) ⟨hx, hb, hml, hown, hts⟩ (kX11_within l D G x1 0 1 s.heap.size) (va_cwS 3 hts gX11_bar_X11_within rfl rfl rfl (by decide +kernel) ⟨Nat.le_of_ble_eq_true rfl, Nat.le_of_ble_eq_true rfl⟩) ⟨wB_blind, wB_pre hPc hK hDc hN⟩ rfl rfl hl.1 rfl (lv_room (Nat.le_of_ble_eq_true rfl)) dX11_bar_11 ⟨Nat.le_of_ble_eq_true rfl, Nat.le_of_ble_eq_true rfl⟩) hS (fun q _ h => hFc q h) hFc (fun r1 u t H1 locs ht hvm hr1 hB hz1 hk1 hS => ?_)
  obtain ⟨hP, hD⟩ := va_join (wr := [(h0, .inr (11, [.ref z0, .ref z23, .ref z25, .ref z32, .ref z36, .ref z40, .ref z43, .ref z49])), (z32, .inr (0, [.ref z29, .ref z33, .ref z34, .ref z35, .ref z30, .ref z31, .int 2, .int 0, .int 0])), (z33, .inl (G.1, 5, .inl (tI [0, 1, 2, 3, 4])))]) (w1 := []) hP hD [] [0, 1, 2] rfl rfl (by decide) (by decide) hk1 hFc wP_nil wD_nil
  clear hPc hDc
  generalize H1 = H at hP hS ⊢
  have hP : va_P D vwCl [(h0, .inr (11, [.ref z0, .ref z23, .ref z25, .ref z32, .ref z36, .ref z40, .ref z43, .ref z49])), (z32, .inr (0, [.ref z29, .ref z33, .ref z34, .ref z35, .ref z30, .ref z31, .int 2, .int 0, .int 0])), (z33, .inl (G.1, 5, .inl (tI [0, 1, 2, 3, 4])))] H := hP
  have hD : va_D A [(h0, .inr (11, [.ref z0, .ref z23, .ref z25, .ref z32, .ref z36, .ref z40, .ref z43, .ref z49])), (z32, .inr (0, [.ref z29, .ref z33, .ref z34, .ref z35, .ref z30, .ref z31, .int 2, .int 0, .int 0])), (z33, .inl (G.1, 5, .inl (tI [0, 1, 2, 3, 4])))] := hD
  refine lv_if_eq (tgt := 29) hx hb dX11_bar_14 (by decide) (fun c2 => ?_) (fun c2 => ?_)
  · have kc2 : (inB x1 0 1) = false := wk_b0 hr1 c2
    refine lv_iconst (v := (-1)) hx hb dX11_bar_29 (by decide) ?_
    exact W.iret (v := (-1)) hx hb hr (fun t ht hW => ⟨⟨(-1), (), rfl, by first | (simp [kc2]; done) | rfl, trivial⟩, hS.F ht⟩) hS.2.2 dX11_bar_30
  · have kc2 : (inB x1 0 1) = true := wk_b1 hr1 c2
    rcases (inB_01 kc2) with rfl | rfl
    · refine lv_aload_n hx hb dX11_bar_17 rfl (lv_at hl 0 rfl) ?_
      refine va_get (D := D) (ci := 11) (v := .ref z32) (C := RX11) (T := TX11) (N := 8) hx hb hts iX11_bar_X11 hown hK hP 0 rfl rfl 3 (by decide) (hts (.fieldLink RX11 33 "PuppetBridge" "bridge" "LPuppetBridge$Bridge;") mX11_bar_w0) (fun _ h9 => h9) rfl dX11_bar_18 ?_
      refine va_get (D := D) (ci := 0) (v := .ref z33) (C := RX0) (T := TX0) (N := 9) hx hb hts iX11_bar_X0 hown hK hP 1 rfl rfl 1 (by decide) (hts (.fieldLink RX11 247 "PuppetBridge$Bridge" "spots" "[I") mX11_bar_w2) (fun _ h9 => h9) rfl dX11_bar_21 ?_
      refine lv_iload_n hx hb dX11_bar_24 rfl (lv_at hl 1 rfl) ?_
      refine va_iald hx hb hK hP 2 0 rfl rfl (wk_in rfl) dX11_bar_25 ?_
      refine wk_i 0 rfl ?_
      refine lv_goto (tgt := 30) hx hb dX11_bar_26 (by decide) ?_
      exact W.iret (v := 0) hx hb hr (fun t ht hW => ⟨⟨0, (), rfl, by decide, trivial⟩, hS.F ht⟩) hS.2.2 dX11_bar_30
    · refine lv_aload_n hx hb dX11_bar_17 rfl (lv_at hl 0 rfl) ?_
      refine va_get (D := D) (ci := 11) (v := .ref z32) (C := RX11) (T := TX11) (N := 8) hx hb hts iX11_bar_X11 hown hK hP 0 rfl rfl 3 (by decide) (hts (.fieldLink RX11 33 "PuppetBridge" "bridge" "LPuppetBridge$Bridge;") mX11_bar_w0) (fun _ h9 => h9) rfl dX11_bar_18 ?_
      refine va_get (D := D) (ci := 0) (v := .ref z33) (C := RX0) (T := TX0) (N := 9) hx hb hts iX11_bar_X0 hown hK hP 1 rfl rfl 1 (by decide) (hts (.fieldLink RX11 247 "PuppetBridge$Bridge" "spots" "[I") mX11_bar_w2) (fun _ h9 => h9) rfl dX11_bar_21 ?_
      refine lv_iload_n hx hb dX11_bar_24 rfl (lv_at hl 1 rfl) ?_
      refine va_iald hx hb hK hP 2 0 rfl rfl (wk_in rfl) dX11_bar_25 ?_
      refine wk_i 1 rfl ?_
      refine lv_goto (tgt := 30) hx hb dX11_bar_26 (by decide) ?_
      exact W.iret (v := 1) hx hb hr (fun t ht hW => ⟨⟨1, (), rfl, by decide, trivial⟩, hS.F ht⟩) hS.2.2 dX11_bar_30

theorem mX0_pairOf_w0 : Cond.methodLink RX0 49 Lib.Math.min.name ∈ wsX0_pairOf := by decide +kernel
theorem mX0_pairOf_w1 : Cond.static Lib.Math.min.name ∈ wsX0_pairOf := by decide +kernel
theorem mX0_pairOf_w2 : Cond.initialized "java/lang/Math" ∈ wsX0_pairOf := by decide +kernel
theorem mX0_pairOf_w3 : Cond.code Lib.Math.min.name Lib.Math.min.code 2 (some .int) ∈ wsX0_pairOf := by decide +kernel
theorem mX0_pairOf_w4 : Cond.methodLink RX0 55 Lib.Math.max.name ∈ wsX0_pairOf := by decide +kernel
theorem mX0_pairOf_w5 : Cond.static Lib.Math.max.name ∈ wsX0_pairOf := by decide +kernel
theorem mX0_pairOf_w6 : Cond.code Lib.Math.max.name Lib.Math.max.code 2 (some .int) ∈ wsX0_pairOf := by decide +kernel
theorem dX0_pairOf_0 : decode cX0_pairOf 0 = .ok (.iload_n 0, 1) := by decide +kernel
theorem dX0_pairOf_1 : decode cX0_pairOf 1 = .ok (.iload_n 1, 1) := by decide +kernel
theorem dX0_pairOf_2 : decode cX0_pairOf 2 = .ok (.invokestatic 49, 3) := by decide +kernel
theorem dX0_pairOf_5 : decode cX0_pairOf 5 = .ok (.iconst 5, 1) := by decide +kernel
theorem dX0_pairOf_6 : decode cX0_pairOf 6 = .ok (.imul, 1) := by decide +kernel
theorem dX0_pairOf_7 : decode cX0_pairOf 7 = .ok (.iload_n 0, 1) := by decide +kernel
theorem dX0_pairOf_8 : decode cX0_pairOf 8 = .ok (.iload_n 1, 1) := by decide +kernel
theorem dX0_pairOf_9 : decode cX0_pairOf 9 = .ok (.invokestatic 55, 3) := by decide +kernel
theorem dX0_pairOf_12 : decode cX0_pairOf 12 = .ok (.iadd, 1) := by decide +kernel
theorem dX0_pairOf_13 : decode cX0_pairOf 13 = .ok (.ireturn, 1) := by decide +kernel
set_option maxHeartbeats 4000000 in
set_option maxRecDepth 100000 in
/-- X0_pairOf -/
theorem kX0_pairOf (l : Launch) (D : va_G) (G : tyG) (a : Int32) (b : Int32) (sz : Nat) : Met l yX0_pairOf wsX0_pairOf ({ frames := 1, cells := 0, slots := 0, locals := 32 }) (va_Pc [.int a, .int b] (wB D G sz [])) (va_Qi (fun (r : Int32) (_ : Unit) => r = (if b < a then b else a) * 5 + (if a < b then b else a)) (fun _ _ => True) (va_A [] sz)) 0 0 (va_A [] sz) := by
  refine Met.ofW (cc := cX0_pairOf) (maxL := 2) (ret := (some .int)) (by decide) rfl ?_
  intro p e s m args below meth c s₁ B hml hv
  obtain ⟨rfl, hsz, hP, hK, hD0, hN⟩ := hv
  have hx := B.exec
  have hb := B.bytes
  have hr := B.returns
  have hts := atoms_spec (ws := wsX0_pairOf) B.pre
  have hown : s.vm.findClass RX0 = some m.cls := findClass_of_methodNamed B.named
  have hlocks := B.notSynchronized
  subst hsz
  have hD := hD0.self (sz := s.heap.size)
  generalize hAe : va_A [] s.heap.size = A at hD ⊢
  have hA : ∀ q : Nat, s.heap.size ≤ q → A q := fun q h => by rw [← hAe]; exact Or.inr h
  have hS : va_S A s.heap s.heap [] := va_S.rf
  have hP : va_P D vwCl [] s.heap := hP
  have hl := lv_entry ([.int a, .int b]) (n := 2) (Nat.le_of_ble_eq_true rfl)
  rw [lg_entry_eq]
  generalize (lg_sl ([.int a, .int b]) ++ List.replicate (2 - (lg_sl ([.int a, .int b])).length) Slot.unset).toArray = ls at hl ⊢
  have hl : lv_has ls 2 [(0, .int a), (1, .int b)] := hl
  refine lv_iload_n hx hb dX0_pairOf_0 rfl (lv_at hl 0 rfl) ?_
  refine lv_iload_n hx hb dX0_pairOf_1 rfl (lv_at hl 1 rfl) ?_
  refine va_mmin hx hb (by rw [hml]; exact hl.1.symm) hown (hts (.methodLink RX0 49 Lib.Math.min.name) mX0_pairOf_w0) (hts (.static Lib.Math.min.name) mX0_pairOf_w1) (hts (.initialized "java/lang/Math") mX0_pairOf_w2) (hts (.code Lib.Math.min.name Lib.Math.min.code 2 (some .int)) mX0_pairOf_w3) (Nat.le_of_ble_eq_true rfl) (Nat.le_of_ble_eq_true rfl) (Nat.le_of_ble_eq_true rfl) (Nat.le_of_ble_eq_true rfl) dX0_pairOf_2 ?_
  refine lv_topi (fun v1 ev1 => ?_)
  refine lv_iconst (v := 5) hx hb dX0_pairOf_5 (by decide) ?_
  refine lv_imul hx hb dX0_pairOf_6 ?_
  refine lv_topi (fun v2 ev2 => ?_)
  refine lv_iload_n hx hb dX0_pairOf_7 rfl (lv_at hl 0 rfl) ?_
  refine lv_iload_n hx hb dX0_pairOf_8 rfl (lv_at hl 1 rfl) ?_
  refine va_mmax hx hb (by rw [hml]; exact hl.1.symm) hown (hts (.methodLink RX0 55 Lib.Math.max.name) mX0_pairOf_w4) (hts (.static Lib.Math.max.name) mX0_pairOf_w5) (hts (.initialized "java/lang/Math") mX0_pairOf_w2) (hts (.code Lib.Math.max.name Lib.Math.max.code 2 (some .int)) mX0_pairOf_w6) (Nat.le_of_ble_eq_true rfl) (Nat.le_of_ble_eq_true rfl) (Nat.le_of_ble_eq_true rfl) (Nat.le_of_ble_eq_true rfl) dX0_pairOf_9 ?_
  refine lv_topi (fun v3 ev3 => ?_)
  refine lv_iadd hx hb dX0_pairOf_12 ?_
  refine lv_topi (fun v4 ev4 => ?_)
  exact W.iret (v := v4) hx hb hr (fun t ht hW => ⟨⟨v4, (), rfl, by rw [ev4, ev2, ev1, ev3], trivial⟩, hS.F ht⟩) hS.2.2 dX0_pairOf_13

theorem mX11_wound_w0 : Cond.fieldLink RX11 33 "PuppetBridge" "bridge" "LPuppetBridge$Bridge;" ∈ wsX11_wound := by decide +kernel
theorem mX11_wound_w1 : Cond.fieldLink RX11 229 "PuppetBridge$Bridge" "bars" "I" ∈ wsX11_wound := by decide +kernel
theorem mX11_wound_w2 : Cond.fieldLink RX11 250 "PuppetBridge$Bridge" "turns" "[I" ∈ wsX11_wound := by decide +kernel
theorem iX11_wound_X0 : ∀ w ∈ wsX00, w ∈ wsX11_wound := fun _ h => List.mem_cons_of_mem _ (List.mem_append_right _ h)
theorem iX11_wound_X11 : ∀ w ∈ wsX110, w ∈ wsX11_wound := fun _ h => List.mem_cons_of_mem _ (List.mem_append_left _ (List.mem_append_right _ h))
set_option maxRecDepth 20000 in
theorem ggX11_wound_X11_within : GoodIn wsX11_wound wsX11_within := goodIn_r _ [7] (by decide +kernel) (by decide +kernel)
set_option maxRecDepth 20000 in
theorem gX11_wound_X11_within : GoodIn wsX11_wound (va_wsS RX11 94 yX11_within wsX11_within) := goodIn_app (goodIn_of _ (by decide +kernel)) ggX11_wound_X11_within
set_option maxRecDepth 20000 in
theorem ggX11_wound_X0_pairOf : GoodIn wsX11_wound wsX0_pairOf := goodIn_r _ [11, 12, 13, 14, 15, 16, 17, 18] (by decide +kernel) (by decide +kernel)
set_option maxRecDepth 20000 in
theorem gX11_wound_X0_pairOf : GoodIn wsX11_wound (va_wsS RX11 253 yX0_pairOf wsX0_pairOf) := goodIn_app (goodIn_of _ (by decide +kernel)) ggX11_wound_X0_pairOf
theorem dX11_wound_0 : decode cX11_wound 0 = .ok (.aload_n 0, 1) := by decide +kernel
theorem dX11_wound_1 : decode cX11_wound 1 = .ok (.getfield 33, 3) := by decide +kernel
theorem dX11_wound_4 : decode cX11_wound 4 = .ok (.getfield 229, 3) := by decide +kernel
theorem dX11_wound_7 : decode cX11_wound 7 = .ok (.iconst 1, 1) := by decide +kernel
theorem dX11_wound_8 : decode cX11_wound 8 = .ok (.isub, 1) := by decide +kernel
theorem dX11_wound_9 : decode cX11_wound 9 = .ok (.istore_n 3, 1) := by decide +kernel
theorem dX11_wound_10 : decode cX11_wound 10 = .ok (.iload_n 1, 1) := by decide +kernel
theorem dX11_wound_11 : decode cX11_wound 11 = .ok (.iload_n 2, 1) := by decide +kernel
theorem dX11_wound_12 : decode cX11_wound 12 = .ok (.if_icmp .eq 21, 3) := by decide +kernel
theorem dX11_wound_15 : decode cX11_wound 15 = .ok (.iload_n 1, 1) := by decide +kernel
theorem dX11_wound_16 : decode cX11_wound 16 = .ok (.iconst 0, 1) := by decide +kernel
theorem dX11_wound_17 : decode cX11_wound 17 = .ok (.iload_n 3, 1) := by decide +kernel
theorem dX11_wound_18 : decode cX11_wound 18 = .ok (.invokestatic 94, 3) := by decide +kernel
theorem dX11_wound_21 : decode cX11_wound 21 = .ok (.ifCond .eq 12, 3) := by decide +kernel
theorem dX11_wound_24 : decode cX11_wound 24 = .ok (.iload_n 2, 1) := by decide +kernel
theorem dX11_wound_25 : decode cX11_wound 25 = .ok (.iconst 0, 1) := by decide +kernel
theorem dX11_wound_26 : decode cX11_wound 26 = .ok (.iload_n 3, 1) := by decide +kernel
theorem dX11_wound_27 : decode cX11_wound 27 = .ok (.invokestatic 94, 3) := by decide +kernel
theorem dX11_wound_30 : decode cX11_wound 30 = .ok (.ifCond .ne 7, 3) := by decide +kernel
theorem dX11_wound_33 : decode cX11_wound 33 = .ok (.sipush (-1000), 3) := by decide +kernel
theorem dX11_wound_36 : decode cX11_wound 36 = .ok (.ireturn, 1) := by decide +kernel
theorem dX11_wound_37 : decode cX11_wound 37 = .ok (.aload_n 0, 1) := by decide +kernel
theorem dX11_wound_38 : decode cX11_wound 38 = .ok (.getfield 33, 3) := by decide +kernel
theorem dX11_wound_41 : decode cX11_wound 41 = .ok (.getfield 250, 3) := by decide +kernel
theorem dX11_wound_44 : decode cX11_wound 44 = .ok (.iload_n 1, 1) := by decide +kernel
theorem dX11_wound_45 : decode cX11_wound 45 = .ok (.iload_n 2, 1) := by decide +kernel
theorem dX11_wound_46 : decode cX11_wound 46 = .ok (.invokestatic 253, 3) := by decide +kernel
theorem dX11_wound_49 : decode cX11_wound 49 = .ok (.iaload, 1) := by decide +kernel
theorem dX11_wound_50 : decode cX11_wound 50 = .ok (.ireturn, 1) := by decide +kernel
set_option maxHeartbeats 4000000 in
set_option maxRecDepth 100000 in
/-- X11_wound -/
theorem kX11_wound (l : Launch) (D : va_G) (G : tyG) (h0 : Nat) (x1 : Int32) (x2 : Int32) (z0 : Nat) (z23 : Nat) (z25 : Nat) (z32 : Nat) (z36 : Nat) (z40 : Nat) (z43 : Nat) (z49 : Nat) (z29 : Nat) (z33 : Nat) (z34 : Nat) (z35 : Nat) (z30 : Nat) (z31 : Nat) (sz : Nat) : Met l yX11_wound wsX11_wound ({ frames := 2, cells := 0, slots := 0, locals := 53 }) (va_Pc [.ref h0, .int x1, .int x2] (wB D G sz [(h0, .inr (11, [.ref z0, .ref z23, .ref z25, .ref z32, .ref z36, .ref z40, .ref z43, .ref z49])), (z32, .inr (0, [.ref z29, .ref z33, .ref z34, .ref z35, .ref z30, .ref z31, .int 2, .int 0, .int 0])), (z34, .inl (G.1, 25, .inl (tI [0, 0, 0, 0, 0, 0, 0, 0, 0, 0, 0, 0, 0, 0, 0, 0, 0, 0, 0, 0, 0, 0, 0, 0, 0])))])) (va_Qi (fun (r : Int32) (_ : Unit) => r = sWound x1 x2) (fun _ _ => True) (va_A [(h0, .inr (11, [.ref z0, .ref z23, .ref z25, .ref z32, .ref z36, .ref z40, .ref z43, .ref z49])), (z32, .inr (0, [.ref z29, .ref z33, .ref z34, .ref z35, .ref z30, .ref z31, .int 2, .int 0, .int 0])), (z34, .inl (G.1, 25, .inl (tI [0, 0, 0, 0, 0, 0, 0, 0, 0, 0, 0, 0, 0, 0, 0, 0, 0, 0, 0, 0, 0, 0, 0, 0, 0])))] sz)) 0 0 (va_A [(h0, .inr (11, [.ref z0, .ref z23, .ref z25, .ref z32, .ref z36, .ref z40, .ref z43, .ref z49])), (z32, .inr (0, [.ref z29, .ref z33, .ref z34, .ref z35, .ref z30, .ref z31, .int 2, .int 0, .int 0])), (z34, .inl (G.1, 25, .inl (tI [0, 0, 0, 0, 0, 0, 0, 0, 0, 0, 0, 0, 0, 0, 0, 0, 0, 0, 0, 0, 0, 0, 0, 0, 0])))] sz) := by
  refine Met.ofW (cc := cX11_wound) (maxL := 4) (ret := (some .int)) (by decide) rfl ?_
  intro p e s m args below meth c s₁ B hml hv
  obtain ⟨rfl, hsz, hP, hK, hD0, hN⟩ := hv
  have hx := B.exec
  have hb := B.bytes
  have hr := B.returns
  have hts := atoms_spec (ws := wsX11_wound) B.pre
  have hown : s.vm.findClass RX11 = some m.cls := findClass_of_methodNamed B.named
  have hlocks := B.notSynchronized
  subst hsz
  have hD := hD0.self (sz := s.heap.size)
  generalize hAe : va_A [(h0, .inr (11, [.ref z0, .ref z23, .ref z25, .ref z32, .ref z36, .ref z40, .ref z43, .ref z49])), (z32, .inr (0, [.ref z29, .ref z33, .ref z34, .ref z35, .ref z30, .ref z31, .int 2, .int 0, .int 0])), (z34, .inl (G.1, 25, .inl (tI [0, 0, 0, 0, 0, 0, 0, 0, 0, 0, 0, 0, 0, 0, 0, 0, 0, 0, 0, 0, 0, 0, 0, 0, 0])))] s.heap.size = A at hD ⊢
  have hA : ∀ q : Nat, s.heap.size ≤ q → A q := fun q h => by rw [← hAe]; exact Or.inr h
  have hS : va_S A s.heap s.heap [] := va_S.rf
  have hP : va_P D vwCl [(h0, .inr (11, [.ref z0, .ref z23, .ref z25, .ref z32, .ref z36, .ref z40, .ref z43, .ref z49])), (z32, .inr (0, [.ref z29, .ref z33, .ref z34, .ref z35, .ref z30, .ref z31, .int 2, .int 0, .int 0])), (z34, .inl (G.1, 25, .inl (tI [0, 0, 0, 0, 0, 0, 0, 0, 0, 0, 0, 0, 0, 0, 0, 0, 0, 0, 0, 0, 0, 0, 0, 0, 0])))] s.heap := hP
  have hl := lv_entry ([.ref h0, .int x1, .int x2]) (n := 4) (Nat.le_of_ble_eq_true rfl)
  rw [lg_entry_eq]
  generalize (lg_sl ([.ref h0, .int x1, .int x2]) ++ List.replicate (4 - (lg_sl ([.ref h0, .int x1, .int x2])).length) Slot.unset).toArray = ls at hl ⊢
  have hl : lv_has ls 4 [(0, .ref h0), (1, .int x1), (2, .int x2)] := hl
  refine lv_aload_n hx hb dX11_wound_0 rfl (lv_at hl 0 rfl) ?_
  refine va_get (D := D) (ci := 11) (v := .ref z32) (C := RX11) (T := TX11) (N := 8) hx hb hts iX11_wound_X11 hown hK hP 0 rfl rfl 3 (by decide) (hts (.fieldLink RX11 33 "PuppetBridge" "bridge" "LPuppetBridge$Bridge;") mX11_wound_w0) (fun _ h9 => h9) rfl dX11_wound_1 ?_
  refine va_get (D := D) (ci := 0) (v := .int 2) (C := RX0) (T := TX0) (N := 9) hx hb hts iX11_wound_X0 hown hK hP 1 rfl rfl 6 (by decide) (hts (.fieldLink RX11 229 "PuppetBridge$Bridge" "bars" "I") mX11_wound_w1) (fun _ h9 => h9) rfl dX11_wound_4 ?_
  refine lv_iconst (v := 1) hx hb dX11_wound_7 (by decide) ?_
  refine lv_isub hx hb dX11_wound_8 ?_
  refine wk_i 1 (by decide) ?_
  refine lv_istore_n (lv' := [(3, .int 1), (0, .ref h0), (1, .int x1), (2, .int x2)]) hx hb dX11_wound_9 rfl hl (by decide) rfl (fun ls hl => ?_)
  refine lv_iload_n hx hb dX11_wound_10 rfl (lv_at hl 2 rfl) ?_
  refine lv_iload_n hx hb dX11_wound_11 rfl (lv_at hl 3 rfl) ?_
  refine lv_icmp_eq (tgt := 33) hx hb dX11_wound_12 (by decide) (fun c1 => ?_) (fun c1 => ?_)
  · refine lv_sipush (v := (-1000)) hx hb dX11_wound_33 (by decide) ?_
    exact W.iret (v := (-1000)) hx hb hr (fun t ht hW => ⟨⟨(-1000), (), rfl, by first | (simp [sWound, c1]; done) | rfl, trivial⟩, hS.F ht⟩) hS.2.2 dX11_wound_36
  · refine lv_iload_n hx hb dX11_wound_15 rfl (lv_at hl 2 rfl) ?_
    refine lv_iconst (v := 0) hx hb dX11_wound_16 (by decide) ?_
    refine lv_iload_n hx hb dX11_wound_17 rfl (lv_at hl 0 rfl) ?_
    have hPc := hP.sub (ws' := []) [] rfl
    have hDc := hD.sub (ws' := []) [] (by decide) rfl
    have hFc := va_free (wc := []) hD hS hA [] rfl
    refine va_calli (va_runS (As := [.int x1, .int 0, .int 1]) (rest := []) ⟨hx, hb, hml, hown, hts⟩ (kX11_within l D G x1 0 1 s.heap.size) (va_cwS 3 hts gX11_wound_X11_within rfl rfl rfl (by decide +kernel) ⟨Nat.le_of_ble_eq_true rfl, Nat.le_of_ble_eq_true rfl⟩) ⟨wB_blind, wB_pre hPc hK hDc hN⟩ rfl rfl hl.1 rfl (lv_room (Nat.le_of_ble_eq_true rfl)) dX11_wound_18 ⟨Nat.le_of_ble_eq_true rfl, Nat.le_of_ble_eq_true rfl⟩) hS (fun q _ h => hFc q h) hFc (fun r2 u t H1 locs ht hvm hr2 hB hz1 hk1 hS => ?_)
    obtain ⟨hP, hD⟩ := va_join (wr := [(h0, .inr (11, [.ref z0, .ref z23, .ref z25, .ref z32, .ref z36, .ref z40, .ref z43, .ref z49])), (z32, .inr (0, [.ref z29, .ref z33, .ref z34, .ref z35, .ref z30, .ref z31, .int 2, .int 0, .int 0])), (z34, .inl (G.1, 25, .inl (tI [0, 0, 0, 0, 0, 0, 0, 0, 0, 0, 0, 0, 0, 0, 0, 0, 0, 0, 0, 0, 0, 0, 0, 0, 0])))]) (w1 := []) hP hD [] [0, 1, 2] rfl rfl (by decide) (by decide) hk1 hFc wP_nil wD_nil
    clear hPc hDc
    generalize H1 = H at hP hS ⊢
    have hP : va_P D vwCl [(h0, .inr (11, [.ref z0, .ref z23, .ref z25, .ref z32, .ref z36, .ref z40, .ref z43, .ref z49])), (z32, .inr (0, [.ref z29, .ref z33, .ref z34, .ref z35, .ref z30, .ref z31, .int 2, .int 0, .int 0])), (z34, .inl (G.1, 25, .inl (tI [0, 0, 0, 0, 0, 0, 0, 0, 0, 0, 0, 0, 0, 0, 0, 0, 0, 0, 0, 0, 0, 0, 0, 0, 0])))] H := hP
    have hD : va_D A [(h0, .inr (11, [.ref z0, .ref z23, .ref z25, .ref z32, .ref z36, .ref z40, .ref z43, .ref z49])), (z32, .inr (0, [.ref z29, .ref z33, .ref z34, .ref z35, .ref z30, .ref z31, .int 2, .int 0, .int 0])), (z34, .inl (G.1, 25, .inl (tI [0, 0, 0, 0, 0, 0, 0, 0, 0, 0, 0, 0, 0, 0, 0, 0, 0, 0, 0, 0, 0, 0, 0, 0, 0])))] := hD
    refine lv_if_eq (tgt := 33) hx hb dX11_wound_21 (by decide) (fun c3 => ?_) (fun c3 => ?_)
    · have kc3 : (inB x1 0 1) = false := wk_b0 hr2 c3
      refine lv_sipush (v := (-1000)) hx hb dX11_wound_33 (by decide) ?_
      exact W.iret (v := (-1000)) hx hb hr (fun t ht hW => ⟨⟨(-1000), (), rfl, by first | (simp [sWound, c1, kc3]; done) | (simp [sWound, c1]; done) | rfl, trivial⟩, hS.F ht⟩) hS.2.2 dX11_wound_36
    · have kc3 : (inB x1 0 1) = true := wk_b1 hr2 c3
      refine lv_iload_n hx hb dX11_wound_24 rfl (lv_at hl 3 rfl) ?_
      refine lv_iconst (v := 0) hx hb dX11_wound_25 (by decide) ?_
      refine lv_iload_n hx hb dX11_wound_26 rfl (lv_at hl 0 rfl) ?_
      have hPc := hP.sub (ws' := []) [] rfl
      have hDc := hD.sub (ws' := []) [] (by decide) rfl
      have hFc := va_free (wc := []) hD hS hA [] rfl
      refine va_calli (va_runS (As := [.int x2, .int 0, .int 1]) (rest := []) ⟨hx, hb, hml, hown, hts⟩ (kX11_within l D G x2 0 1 H.size) (va_cwS 3 hts gX11_wound_X11_within rfl rfl rfl (by decide +kernel) ⟨Nat.le_of_ble_eq_true rfl, Nat.le_of_ble_eq_true rfl⟩) ⟨wB_blind, wB_pre hPc hK hDc hN⟩ rfl rfl hl.1 rfl (lv_room (Nat.le_of_ble_eq_true rfl)) dX11_wound_27 ⟨Nat.le_of_ble_eq_true rfl, Nat.le_of_ble_eq_true rfl⟩) hS (fun q _ h => hFc q h) hFc (fun r4 u t H1 locs ht hvm hr4 hB hz1 hk1 hS => ?_)
      obtain ⟨hP, hD⟩ := va_join (wr := [(h0, .inr (11, [.ref z0, .ref z23, .ref z25, .ref z32, .ref z36, .ref z40, .ref z43, .ref z49])), (z32, .inr (0, [.ref z29, .ref z33, .ref z34, .ref z35, .ref z30, .ref z31, .int 2, .int 0, .int 0])), (z34, .inl (G.1, 25, .inl (tI [0, 0, 0, 0, 0, 0, 0, 0, 0, 0, 0, 0, 0, 0, 0, 0, 0, 0, 0, 0, 0, 0, 0, 0, 0])))]) (w1 := []) hP hD [] [0, 1, 2] rfl rfl (by decide) (by decide) hk1 hFc wP_nil wD_nil
      clear hPc hDc
      generalize H1 = H at hP hS ⊢
      have hP : va_P D vwCl [(h0, .inr (11, [.ref z0, .ref z23, .ref z25, .ref z32, .ref z36, .ref z40, .ref z43, .ref z49])), (z32, .inr (0, [.ref z29, .ref z33, .ref z34, .ref z35, .ref z30, .ref z31, .int 2, .int 0, .int 0])), (z34, .inl (G.1, 25, .inl (tI [0, 0, 0, 0, 0, 0, 0, 0, 0, 0, 0, 0, 0, 0, 0, 0, 0, 0, 0, 0, 0, 0, 0, 0, 0])))] H := hP
      have hD : va_D A [(h0, .inr (11, [.ref z0, .ref z23, .ref z25, .ref z32, .ref z36, .ref z40, .ref z43, .ref z49])), (z32, .inr (0, [.ref z29, .ref z33, .ref z34, .ref z35, .ref z30, .ref z31, .int 2, .int 0, .int 0])), (z34, .inl (G.1, 25, .inl (tI [0, 0, 0, 0, 0, 0, 0, 0, 0, 0, 0, 0, 0, 0, 0, 0, 0, 0, 0, 0, 0, 0, 0, 0, 0])))] := hD
      refine lv_if_ne (tgt := 37) hx hb dX11_wound_30 (by decide) (fun c5 => ?_) (fun c5 => ?_)
      · have kc5 : (inB x2 0 1) = true := wk_b1 hr4 c5
        rcases inB_01 kc3 with rfl | rfl <;> rcases inB_01 kc5 with rfl | rfl
        · exact absurd rfl c1
        · refine lv_aload_n hx hb dX11_wound_37 rfl (lv_at hl 1 rfl) ?_
          refine va_get (D := D) (ci := 11) (v := .ref z32) (C := RX11) (T := TX11) (N := 8) hx hb hts iX11_wound_X11 hown hK hP 0 rfl rfl 3 (by decide) (hts (.fieldLink RX11 33 "PuppetBridge" "bridge" "LPuppetBridge$Bridge;") mX11_wound_w0) (fun _ h9 => h9) rfl dX11_wound_38 ?_
          refine va_get (D := D) (ci := 0) (v := .ref z34) (C := RX0) (T := TX0) (N := 9) hx hb hts iX11_wound_X0 hown hK hP 1 rfl rfl 2 (by decide) (hts (.fieldLink RX11 250 "PuppetBridge$Bridge" "turns" "[I") mX11_wound_w2) (fun _ h9 => h9) rfl dX11_wound_41 ?_
          refine lv_iload_n hx hb dX11_wound_44 rfl (lv_at hl 2 rfl) ?_
          refine lv_iload_n hx hb dX11_wound_45 rfl (lv_at hl 3 rfl) ?_
          have hPc := hP.sub (ws' := []) [] rfl
          have hDc := hD.sub (ws' := []) [] (by decide) rfl
          have hFc := va_free (wc := []) hD hS hA [] rfl
          refine va_calli (va_runS (As := [.int 0, .int 1]) (rest := [.ref z34]) ⟨hx, hb, hml, hown, hts⟩ (kX0_pairOf l D G 0 1 H.size) (va_cwS 2 hts gX11_wound_X0_pairOf rfl rfl rfl (by decide +kernel) ⟨Nat.le_of_ble_eq_true rfl, Nat.le_of_ble_eq_true rfl⟩) ⟨wB_blind, wB_pre hPc hK hDc hN⟩ rfl rfl hl.1 rfl (lv_room (Nat.le_of_ble_eq_true rfl)) dX11_wound_46 ⟨Nat.le_of_ble_eq_true rfl, Nat.le_of_ble_eq_true rfl⟩) hS (fun q _ h => hFc q h) hFc (fun r6 u t H1 locs ht hvm hr6 hB hz1 hk1 hS => ?_)
          obtain ⟨hP, hD⟩ := va_join (wr := [(h0, .inr (11, [.ref z0, .ref z23, .ref z25, .ref z32, .ref z36, .ref z40, .ref z43, .ref z49])), (z32, .inr (0, [.ref z29, .ref z33, .ref z34, .ref z35, .ref z30, .ref z31, .int 2, .int 0, .int 0])), (z34, .inl (G.1, 25, .inl (tI [0, 0, 0, 0, 0, 0, 0, 0, 0, 0, 0, 0, 0, 0, 0, 0, 0, 0, 0, 0, 0, 0, 0, 0, 0])))]) (w1 := []) hP hD [] [0, 1, 2] rfl rfl (by decide) (by decide) hk1 hFc wP_nil wD_nil
          clear hPc hDc
          generalize H1 = H at hP hS ⊢
          have hP : va_P D vwCl [(h0, .inr (11, [.ref z0, .ref z23, .ref z25, .ref z32, .ref z36, .ref z40, .ref z43, .ref z49])), (z32, .inr (0, [.ref z29, .ref z33, .ref z34, .ref z35, .ref z30, .ref z31, .int 2, .int 0, .int 0])), (z34, .inl (G.1, 25, .inl (tI [0, 0, 0, 0, 0, 0, 0, 0, 0, 0, 0, 0, 0, 0, 0, 0, 0, 0, 0, 0, 0, 0, 0, 0, 0])))] H := hP
          have hD : va_D A [(h0, .inr (11, [.ref z0, .ref z23, .ref z25, .ref z32, .ref z36, .ref z40, .ref z43, .ref z49])), (z32, .inr (0, [.ref z29, .ref z33, .ref z34, .ref z35, .ref z30, .ref z31, .int 2, .int 0, .int 0])), (z34, .inl (G.1, 25, .inl (tI [0, 0, 0, 0, 0, 0, 0, 0, 0, 0, 0, 0, 0, 0, 0, 0, 0, 0, 0, 0, 0, 0, 0, 0, 0])))] := hD
          obtain rfl : r6 = 1 := by rw [hr6]; decide
          refine va_iald hx hb hK hP 2 0 rfl rfl (wk_in rfl) dX11_wound_49 ?_
          refine wk_i 0 rfl ?_
          exact W.iret (v := 0) hx hb hr (fun t ht hW => ⟨⟨0, (), rfl, by decide, trivial⟩, hS.F ht⟩) hS.2.2 dX11_wound_50
        · refine lv_aload_n hx hb dX11_wound_37 rfl (lv_at hl 1 rfl) ?_
          refine va_get (D := D) (ci := 11) (v := .ref z32) (C := RX11) (T := TX11) (N := 8) hx hb hts iX11_wound_X11 hown hK hP 0 rfl rfl 3 (by decide) (hts (.fieldLink RX11 33 "PuppetBridge" "bridge" "LPuppetBridge$Bridge;") mX11_wound_w0) (fun _ h9 => h9) rfl dX11_wound_38 ?_
          refine va_get (D := D) (ci := 0) (v := .ref z34) (C := RX0) (T := TX0) (N := 9) hx hb hts iX11_wound_X0 hown hK hP 1 rfl rfl 2 (by decide) (hts (.fieldLink RX11 250 "PuppetBridge$Bridge" "turns" "[I") mX11_wound_w2) (fun _ h9 => h9) rfl dX11_wound_41 ?_
          refine lv_iload_n hx hb dX11_wound_44 rfl (lv_at hl 2 rfl) ?_
          refine lv_iload_n hx hb dX11_wound_45 rfl (lv_at hl 3 rfl) ?_
          have hPc := hP.sub (ws' := []) [] rfl
          have hDc := hD.sub (ws' := []) [] (by decide) rfl
          have hFc := va_free (wc := []) hD hS hA [] rfl
          refine va_calli (va_runS (As := [.int 1, .int 0]) (rest := [.ref z34]) ⟨hx, hb, hml, hown, hts⟩ (kX0_pairOf l D G 1 0 H.size) (va_cwS 2 hts gX11_wound_X0_pairOf rfl rfl rfl (by decide +kernel) ⟨Nat.le_of_ble_eq_true rfl, Nat.le_of_ble_eq_true rfl⟩) ⟨wB_blind, wB_pre hPc hK hDc hN⟩ rfl rfl hl.1 rfl (lv_room (Nat.le_of_ble_eq_true rfl)) dX11_wound_46 ⟨Nat.le_of_ble_eq_true rfl, Nat.le_of_ble_eq_true rfl⟩) hS (fun q _ h => hFc q h) hFc (fun r7 u t H1 locs ht hvm hr7 hB hz1 hk1 hS => ?_)
          obtain ⟨hP, hD⟩ := va_join (wr := [(h0, .inr (11, [.ref z0, .ref z23, .ref z25, .ref z32, .ref z36, .ref z40, .ref z43, .ref z49])), (z32, .inr (0, [.ref z29, .ref z33, .ref z34, .ref z35, .ref z30, .ref z31, .int 2, .int 0, .int 0])), (z34, .inl (G.1, 25, .inl (tI [0, 0, 0, 0, 0, 0, 0, 0, 0, 0, 0, 0, 0, 0, 0, 0, 0, 0, 0, 0, 0, 0, 0, 0, 0])))]) (w1 := []) hP hD [] [0, 1, 2] rfl rfl (by decide) (by decide) hk1 hFc wP_nil wD_nil
          clear hPc hDc
          generalize H1 = H at hP hS ⊢
          have hP : va_P D vwCl [(h0, .inr (11, [.ref z0, .ref z23, .ref z25, .ref z32, .ref z36, .ref z40, .ref z43, .ref z49])), (z32, .inr (0, [.ref z29, .ref z33, .ref z34, .ref z35, .ref z30, .ref z31, .int 2, .int 0, .int 0])), (z34, .inl (G.1, 25, .inl (tI [0, 0, 0, 0, 0, 0, 0, 0, 0, 0, 0, 0, 0, 0, 0, 0, 0, 0, 0, 0, 0, 0, 0, 0, 0])))] H := hP
          have hD : va_D A [(h0, .inr (11, [.ref z0, .ref z23, .ref z25, .ref z32, .ref z36, .ref z40, .ref z43, .ref z49])), (z32, .inr (0, [.ref z29, .ref z33, .ref z34, .ref z35, .ref z30, .ref z31, .int 2, .int 0, .int 0])), (z34, .inl (G.1, 25, .inl (tI [0, 0, 0, 0, 0, 0, 0, 0, 0, 0, 0, 0, 0, 0, 0, 0, 0, 0, 0, 0, 0, 0, 0, 0, 0])))] := hD
          obtain rfl : r7 = 1 := by rw [hr7]; decide
          refine va_iald hx hb hK hP 2 0 rfl rfl (wk_in rfl) dX11_wound_49 ?_
          refine wk_i 0 rfl ?_
          exact W.iret (v := 0) hx hb hr (fun t ht hW => ⟨⟨0, (), rfl, by decide, trivial⟩, hS.F ht⟩) hS.2.2 dX11_wound_50
        · exact absurd rfl c1
      · have kc5 : (inB x2 0 1) = false := wk_b0 hr4 c5
        refine lv_sipush (v := (-1000)) hx hb dX11_wound_33 (by decide) ?_
        exact W.iret (v := (-1000)) hx hb hr (fun t ht hW => ⟨⟨(-1000), (), rfl, by first | (simp [sWound, c1, kc3, kc5]; done) | (simp [sWound, c1, kc3]; done) | (simp [sWound, c1]; done) | rfl, trivial⟩, hS.F ht⟩) hS.2.2 dX11_wound_36

theorem mX0_plus_w0 : Cond.methodLink RX0 106 Lib.MathLoose.max_long.x ∈ wsX0_plus := by decide +kernel
theorem mX0_plus_w1 : Cond.static Lib.MathLoose.max_long.x ∈ wsX0_plus := by decide +kernel
theorem mX0_plus_w2 : Cond.initialized "java/lang/Math" ∈ wsX0_plus := by decide +kernel
theorem mX0_plus_w3 : Cond.code Lib.MathLoose.max_long.x Lib.MathLoose.max_long.code 4 (some .long) ∈ wsX0_plus := by decide +kernel
theorem dX0_plus_0 : decode cX0_plus 0 = .ok (.lconst 0, 1) := by decide +kernel
theorem dX0_plus_1 : decode cX0_plus 1 = .ok (.lload_n 0, 1) := by decide +kernel
theorem dX0_plus_2 : decode cX0_plus 2 = .ok (.invokestatic 106, 3) := by decide +kernel
theorem dX0_plus_5 : decode cX0_plus 5 = .ok (.lreturn, 1) := by decide +kernel
set_option maxHeartbeats 4000000 in
set_option maxRecDepth 100000 in
/-- X0_plus -/
theorem kX0_plus (l : Launch) (D : va_G) (G : tyG) (v : Int64) (sz : Nat) : Met l yX0_plus wsX0_plus ({ frames := 1, cells := 0, slots := 0, locals := 32 }) (va_Pc [.long v] (wB D G sz [])) (va_Ql (fun (r : Int64) (_ : Unit) => r = (if v < 0 then 0 else v)) (fun _ _ => True) (va_A [] sz)) 0 0 (va_A [] sz) := by
  refine Met.ofW (cc := cX0_plus) (maxL := 2) (ret := (some .long)) (by decide) rfl ?_
  intro p e s m args below meth c s₁ B hml hv
  obtain ⟨rfl, hsz, hP, hK, hD0, hN⟩ := hv
  have hx := B.exec
  have hb := B.bytes
  have hr := B.returns
  have hts := atoms_spec (ws := wsX0_plus) B.pre
  have hown : s.vm.findClass RX0 = some m.cls := findClass_of_methodNamed B.named
  have hlocks := B.notSynchronized
  subst hsz
  have hD := hD0.self (sz := s.heap.size)
  generalize hAe : va_A [] s.heap.size = A at hD ⊢
  have hA : ∀ q : Nat, s.heap.size ≤ q → A q := fun q h => by rw [← hAe]; exact Or.inr h
  have hS : va_S A s.heap s.heap [] := va_S.rf
  have hP : va_P D vwCl [] s.heap := hP
  have hl := lv_entry ([.long v]) (n := 2) (Nat.le_of_ble_eq_true rfl)
  rw [lg_entry_eq]
  generalize (lg_sl ([.long v]) ++ List.replicate (2 - (lg_sl ([.long v])).length) Slot.unset).toArray = ls at hl ⊢
  have hl : lv_has ls 2 [(0, .long v)] := hl
  refine lv_lconst (v := 0) hx hb dX0_plus_0 (by decide) ?_
  refine lv_lload_n hx hb dX0_plus_1 rfl (lv_at hl 0 rfl) ?_
  refine va_mmax_long hx hb (by rw [hml]; exact hl.1.symm) hown (hts (.methodLink RX0 106 Lib.MathLoose.max_long.x) mX0_plus_w0) (hts (.static Lib.MathLoose.max_long.x) mX0_plus_w1) (hts (.initialized "java/lang/Math") mX0_plus_w2) (hts (.code Lib.MathLoose.max_long.x Lib.MathLoose.max_long.code 4 (some .long)) mX0_plus_w3) (Nat.le_of_ble_eq_true rfl) (Nat.le_of_ble_eq_true rfl) (Nat.le_of_ble_eq_true rfl) (Nat.le_of_ble_eq_true rfl) dX0_plus_2 ?_
  refine lv_topl (fun w1 ew1 => ?_)
  exact W.lret (v := w1) hx hb hr (fun t ht hW => ⟨⟨w1, (), rfl, by rw [ew1], trivial⟩, hS.F ht⟩) hS.2.2 dX0_plus_5

theorem mX0_minus_w0 : Cond.methodLink RX0 109 Lib.MathLoose.min_long.x ∈ wsX0_minus := by decide +kernel
theorem mX0_minus_w1 : Cond.static Lib.MathLoose.min_long.x ∈ wsX0_minus := by decide +kernel
theorem mX0_minus_w2 : Cond.initialized "java/lang/Math" ∈ wsX0_minus := by decide +kernel
theorem mX0_minus_w3 : Cond.code Lib.MathLoose.min_long.x Lib.MathLoose.min_long.code 4 (some .long) ∈ wsX0_minus := by decide +kernel
theorem dX0_minus_0 : decode cX0_minus 0 = .ok (.lconst 0, 1) := by decide +kernel
theorem dX0_minus_1 : decode cX0_minus 1 = .ok (.lload_n 0, 1) := by decide +kernel
theorem dX0_minus_2 : decode cX0_minus 2 = .ok (.invokestatic 109, 3) := by decide +kernel
theorem dX0_minus_5 : decode cX0_minus 5 = .ok (.lreturn, 1) := by decide +kernel
set_option maxHeartbeats 4000000 in
set_option maxRecDepth 100000 in
/-- X0_minus -/
theorem kX0_minus (l : Launch) (D : va_G) (G : tyG) (v : Int64) (sz : Nat) : Met l yX0_minus wsX0_minus ({ frames := 1, cells := 0, slots := 0, locals := 32 }) (va_Pc [.long v] (wB D G sz [])) (va_Ql (fun (r : Int64) (_ : Unit) => r = (if v < 0 then v else 0)) (fun _ _ => True) (va_A [] sz)) 0 0 (va_A [] sz) := by
  refine Met.ofW (cc := cX0_minus) (maxL := 2) (ret := (some .long)) (by decide) rfl ?_
  intro p e s m args below meth c s₁ B hml hv
  obtain ⟨rfl, hsz, hP, hK, hD0, hN⟩ := hv
  have hx := B.exec
  have hb := B.bytes
  have hr := B.returns
  have hts := atoms_spec (ws := wsX0_minus) B.pre
  have hown : s.vm.findClass RX0 = some m.cls := findClass_of_methodNamed B.named
  have hlocks := B.notSynchronized
  subst hsz
  have hD := hD0.self (sz := s.heap.size)
  generalize hAe : va_A [] s.heap.size = A at hD ⊢
  have hA : ∀ q : Nat, s.heap.size ≤ q → A q := fun q h => by rw [← hAe]; exact Or.inr h
  have hS : va_S A s.heap s.heap [] := va_S.rf
  have hP : va_P D vwCl [] s.heap := hP
  have hl := lv_entry ([.long v]) (n := 2) (Nat.le_of_ble_eq_true rfl)
  rw [lg_entry_eq]
  generalize (lg_sl ([.long v]) ++ List.replicate (2 - (lg_sl ([.long v])).length) Slot.unset).toArray = ls at hl ⊢
  have hl : lv_has ls 2 [(0, .long v)] := hl
  refine lv_lconst (v := 0) hx hb dX0_minus_0 (by decide) ?_
  refine lv_lload_n hx hb dX0_minus_1 rfl (lv_at hl 0 rfl) ?_
  refine va_mmin_long hx hb (by rw [hml]; exact hl.1.symm) hown (hts (.methodLink RX0 109 Lib.MathLoose.min_long.x) mX0_minus_w0) (hts (.static Lib.MathLoose.min_long.x) mX0_minus_w1) (hts (.initialized "java/lang/Math") mX0_minus_w2) (hts (.code Lib.MathLoose.min_long.x Lib.MathLoose.min_long.code 4 (some .long)) mX0_minus_w3) (Nat.le_of_ble_eq_true rfl) (Nat.le_of_ble_eq_true rfl) (Nat.le_of_ble_eq_true rfl) (Nat.le_of_ble_eq_true rfl) dX0_minus_2 ?_
  refine lv_topl (fun w1 ew1 => ?_)
  exact W.lret (v := w1) hx hb hr (fun t ht hW => ⟨⟨w1, (), rfl, by rw [ew1], trivial⟩, hS.F ht⟩) hS.2.2 dX0_minus_5

set_option maxRecDepth 20000 in
theorem ggX0_weaveBefore_X0_minus : GoodIn wsX0_weaveBefore wsX0_minus := goodIn_r _ [4, 5, 6, 7, 8] (by decide +kernel) (by decide +kernel)
set_option maxRecDepth 20000 in
theorem gX0_weaveBefore_X0_minus : GoodIn wsX0_weaveBefore (va_wsS RX0 100 yX0_minus wsX0_minus) := goodIn_app (goodIn_of _ (by decide +kernel)) ggX0_weaveBefore_X0_minus
set_option maxRecDepth 20000 in
theorem ggX0_weaveBefore_X0_plus : GoodIn wsX0_weaveBefore wsX0_plus := goodIn_r _ [11, 12, 13, 7, 14] (by decide +kernel) (by decide +kernel)
set_option maxRecDepth 20000 in
theorem gX0_weaveBefore_X0_plus : GoodIn wsX0_weaveBefore (va_wsS RX0 103 yX0_plus wsX0_plus) := goodIn_app (goodIn_of _ (by decide +kernel)) ggX0_weaveBefore_X0_plus
theorem dX0_weaveBefore_0 : decode cX0_weaveBefore 0 = .ok (.aload_n 0, 1) := by decide +kernel
theorem dX0_weaveBefore_1 : decode cX0_weaveBefore 1 = .ok (.iload_n 1, 1) := by decide +kernel
theorem dX0_weaveBefore_2 : decode cX0_weaveBefore 2 = .ok (.laload, 1) := by decide +kernel
theorem dX0_weaveBefore_3 : decode cX0_weaveBefore 3 = .ok (.lstore_n 2, 1) := by decide +kernel
theorem dX0_weaveBefore_4 : decode cX0_weaveBefore 4 = .ok (.aload_n 0, 1) := by decide +kernel
theorem dX0_weaveBefore_5 : decode cX0_weaveBefore 5 = .ok (.iload_n 1, 1) := by decide +kernel
theorem dX0_weaveBefore_6 : decode cX0_weaveBefore 6 = .ok (.iconst 1, 1) := by decide +kernel
theorem dX0_weaveBefore_7 : decode cX0_weaveBefore 7 = .ok (.iadd, 1) := by decide +kernel
theorem dX0_weaveBefore_8 : decode cX0_weaveBefore 8 = .ok (.laload, 1) := by decide +kernel
theorem dX0_weaveBefore_9 : decode cX0_weaveBefore 9 = .ok (.lstore 4, 2) := by decide +kernel
theorem dX0_weaveBefore_11 : decode cX0_weaveBefore 11 = .ok (.aload_n 0, 1) := by decide +kernel
theorem dX0_weaveBefore_12 : decode cX0_weaveBefore 12 = .ok (.iload_n 1, 1) := by decide +kernel
theorem dX0_weaveBefore_13 : decode cX0_weaveBefore 13 = .ok (.iconst 2, 1) := by decide +kernel
theorem dX0_weaveBefore_14 : decode cX0_weaveBefore 14 = .ok (.iadd, 1) := by decide +kernel
theorem dX0_weaveBefore_15 : decode cX0_weaveBefore 15 = .ok (.laload, 1) := by decide +kernel
theorem dX0_weaveBefore_16 : decode cX0_weaveBefore 16 = .ok (.lstore 6, 2) := by decide +kernel
theorem dX0_weaveBefore_18 : decode cX0_weaveBefore 18 = .ok (.aload_n 0, 1) := by decide +kernel
theorem dX0_weaveBefore_19 : decode cX0_weaveBefore 19 = .ok (.iload_n 1, 1) := by decide +kernel
theorem dX0_weaveBefore_20 : decode cX0_weaveBefore 20 = .ok (.iconst 3, 1) := by decide +kernel
theorem dX0_weaveBefore_21 : decode cX0_weaveBefore 21 = .ok (.iadd, 1) := by decide +kernel
theorem dX0_weaveBefore_22 : decode cX0_weaveBefore 22 = .ok (.laload, 1) := by decide +kernel
theorem dX0_weaveBefore_23 : decode cX0_weaveBefore 23 = .ok (.lstore 8, 2) := by decide +kernel
theorem dX0_weaveBefore_25 : decode cX0_weaveBefore 25 = .ok (.lload_n 2, 1) := by decide +kernel
theorem dX0_weaveBefore_26 : decode cX0_weaveBefore 26 = .ok (.lload 4, 2) := by decide +kernel
theorem dX0_weaveBefore_28 : decode cX0_weaveBefore 28 = .ok (.invokestatic 100, 3) := by decide +kernel
theorem dX0_weaveBefore_31 : decode cX0_weaveBefore 31 = .ok (.lsub, 1) := by decide +kernel
theorem dX0_weaveBefore_32 : decode cX0_weaveBefore 32 = .ok (.lload 6, 2) := by decide +kernel
theorem dX0_weaveBefore_34 : decode cX0_weaveBefore 34 = .ok (.lsub, 1) := by decide +kernel
theorem dX0_weaveBefore_35 : decode cX0_weaveBefore 35 = .ok (.lload 8, 2) := by decide +kernel
theorem dX0_weaveBefore_37 : decode cX0_weaveBefore 37 = .ok (.invokestatic 103, 3) := by decide +kernel
theorem dX0_weaveBefore_40 : decode cX0_weaveBefore 40 = .ok (.ladd, 1) := by decide +kernel
theorem dX0_weaveBefore_41 : decode cX0_weaveBefore 41 = .ok (.lstore 10, 2) := by decide +kernel
theorem dX0_weaveBefore_43 : decode cX0_weaveBefore 43 = .ok (.aload_n 0, 1) := by decide +kernel
theorem dX0_weaveBefore_44 : decode cX0_weaveBefore 44 = .ok (.iload_n 1, 1) := by decide +kernel
theorem dX0_weaveBefore_45 : decode cX0_weaveBefore 45 = .ok (.lload_n 2, 1) := by decide +kernel
theorem dX0_weaveBefore_46 : decode cX0_weaveBefore 46 = .ok (.lload 4, 2) := by decide +kernel
theorem dX0_weaveBefore_48 : decode cX0_weaveBefore 48 = .ok (.invokestatic 103, 3) := by decide +kernel
theorem dX0_weaveBefore_51 : decode cX0_weaveBefore 51 = .ok (.ladd, 1) := by decide +kernel
theorem dX0_weaveBefore_52 : decode cX0_weaveBefore 52 = .ok (.lload 8, 2) := by decide +kernel
theorem dX0_weaveBefore_54 : decode cX0_weaveBefore 54 = .ok (.invokestatic 103, 3) := by decide +kernel
theorem dX0_weaveBefore_57 : decode cX0_weaveBefore 57 = .ok (.lload 10, 2) := by decide +kernel
theorem dX0_weaveBefore_59 : decode cX0_weaveBefore 59 = .ok (.lsub, 1) := by decide +kernel
theorem dX0_weaveBefore_60 : decode cX0_weaveBefore 60 = .ok (.invokestatic 103, 3) := by decide +kernel
theorem dX0_weaveBefore_63 : decode cX0_weaveBefore 63 = .ok (.ladd, 1) := by decide +kernel
theorem dX0_weaveBefore_64 : decode cX0_weaveBefore 64 = .ok (.lastore, 1) := by decide +kernel
theorem dX0_weaveBefore_65 : decode cX0_weaveBefore 65 = .ok (.aload_n 0, 1) := by decide +kernel
theorem dX0_weaveBefore_66 : decode cX0_weaveBefore 66 = .ok (.iload_n 1, 1) := by decide +kernel
theorem dX0_weaveBefore_67 : decode cX0_weaveBefore 67 = .ok (.iconst 1, 1) := by decide +kernel
theorem dX0_weaveBefore_68 : decode cX0_weaveBefore 68 = .ok (.iadd, 1) := by decide +kernel
theorem dX0_weaveBefore_69 : decode cX0_weaveBefore 69 = .ok (.lload 8, 2) := by decide +kernel
theorem dX0_weaveBefore_71 : decode cX0_weaveBefore 71 = .ok (.lload 10, 2) := by decide +kernel
theorem dX0_weaveBefore_73 : decode cX0_weaveBefore 73 = .ok (.invokestatic 103, 3) := by decide +kernel
theorem dX0_weaveBefore_76 : decode cX0_weaveBefore 76 = .ok (.lsub, 1) := by decide +kernel
theorem dX0_weaveBefore_77 : decode cX0_weaveBefore 77 = .ok (.lastore, 1) := by decide +kernel
theorem dX0_weaveBefore_78 : decode cX0_weaveBefore 78 = .ok (.aload_n 0, 1) := by decide +kernel
theorem dX0_weaveBefore_79 : decode cX0_weaveBefore 79 = .ok (.iload_n 1, 1) := by decide +kernel
theorem dX0_weaveBefore_80 : decode cX0_weaveBefore 80 = .ok (.iconst 2, 1) := by decide +kernel
theorem dX0_weaveBefore_81 : decode cX0_weaveBefore 81 = .ok (.iadd, 1) := by decide +kernel
theorem dX0_weaveBefore_82 : decode cX0_weaveBefore 82 = .ok (.lload 6, 2) := by decide +kernel
theorem dX0_weaveBefore_84 : decode cX0_weaveBefore 84 = .ok (.lload 8, 2) := by decide +kernel
theorem dX0_weaveBefore_86 : decode cX0_weaveBefore 86 = .ok (.invokestatic 100, 3) := by decide +kernel
theorem dX0_weaveBefore_89 : decode cX0_weaveBefore 89 = .ok (.ladd, 1) := by decide +kernel
theorem dX0_weaveBefore_90 : decode cX0_weaveBefore 90 = .ok (.lload 4, 2) := by decide +kernel
theorem dX0_weaveBefore_92 : decode cX0_weaveBefore 92 = .ok (.invokestatic 100, 3) := by decide +kernel
theorem dX0_weaveBefore_95 : decode cX0_weaveBefore 95 = .ok (.lload 10, 2) := by decide +kernel
theorem dX0_weaveBefore_97 : decode cX0_weaveBefore 97 = .ok (.ladd, 1) := by decide +kernel
theorem dX0_weaveBefore_98 : decode cX0_weaveBefore 98 = .ok (.invokestatic 100, 3) := by decide +kernel
theorem dX0_weaveBefore_101 : decode cX0_weaveBefore 101 = .ok (.ladd, 1) := by decide +kernel
theorem dX0_weaveBefore_102 : decode cX0_weaveBefore 102 = .ok (.lastore, 1) := by decide +kernel
theorem dX0_weaveBefore_103 : decode cX0_weaveBefore 103 = .ok (.aload_n 0, 1) := by decide +kernel
theorem dX0_weaveBefore_104 : decode cX0_weaveBefore 104 = .ok (.iload_n 1, 1) := by decide +kernel
theorem dX0_weaveBefore_105 : decode cX0_weaveBefore 105 = .ok (.iconst 3, 1) := by decide +kernel
theorem dX0_weaveBefore_106 : decode cX0_weaveBefore 106 = .ok (.iadd, 1) := by decide +kernel
theorem dX0_weaveBefore_107 : decode cX0_weaveBefore 107 = .ok (.lload 4, 2) := by decide +kernel
theorem dX0_weaveBefore_109 : decode cX0_weaveBefore 109 = .ok (.lload 10, 2) := by decide +kernel
theorem dX0_weaveBefore_111 : decode cX0_weaveBefore 111 = .ok (.invokestatic 103, 3) := by decide +kernel
theorem dX0_weaveBefore_114 : decode cX0_weaveBefore 114 = .ok (.ladd, 1) := by decide +kernel
theorem dX0_weaveBefore_115 : decode cX0_weaveBefore 115 = .ok (.lastore, 1) := by decide +kernel
theorem dX0_weaveBefore_116 : decode cX0_weaveBefore 116 = .ok (.return_, 1) := by decide +kernel
set_option maxHeartbeats 4000000 in
set_option maxRecDepth 100000 in
/-- X0_weaveBefore -/
theorem kX0_weaveBefore (l : Launch) (D : va_G) (G : tyG) (z35 : Nat) (sz : Nat) : Met l yX0_weaveBefore wsX0_weaveBefore ({ frames := 2, cells := 0, slots := 0, locals := 53 }) (va_Pc [.ref z35, .int 0] (wB D G sz [(z35, .inl (G.2.1, 10, .inr (.inl (tL [0, 1, 0, 1, 0, 1, 0, 1, 0, 1]))))])) (va_Qv (fun _ : Unit => True) (fun _ _ => True) (va_A [(z35, .inl (G.2.1, 10, .inr (.inl (tL [0, 1, 0, 1, 0, 1, 0, 1, 0, 1]))))] sz)) 0 0 (va_A [(z35, .inl (G.2.1, 10, .inr (.inl (tL [0, 1, 0, 1, 0, 1, 0, 1, 0, 1]))))] sz) := by
  refine Met.ofW (cc := cX0_weaveBefore) (maxL := 12) (ret := none) (by decide) rfl ?_
  intro p e s m args below meth c s₁ B hml hv
  obtain ⟨rfl, hsz, hP, hK, hD0, hN⟩ := hv
  have hx := B.exec
  have hb := B.bytes
  have hr := B.returns
  have hts := atoms_spec (ws := wsX0_weaveBefore) B.pre
  have hown : s.vm.findClass RX0 = some m.cls := findClass_of_methodNamed B.named
  have hlocks := B.notSynchronized
  subst hsz
  have hD := hD0.self (sz := s.heap.size)
  generalize hAe : va_A [(z35, .inl (G.2.1, 10, .inr (.inl (tL [0, 1, 0, 1, 0, 1, 0, 1, 0, 1]))))] s.heap.size = A at hD ⊢
  have hA : ∀ q : Nat, s.heap.size ≤ q → A q := fun q h => by rw [← hAe]; exact Or.inr h
  have hS : va_S A s.heap s.heap [] := va_S.rf
  have hP : va_P D vwCl [(z35, .inl (G.2.1, 10, .inr (.inl (tL [0, 1, 0, 1, 0, 1, 0, 1, 0, 1]))))] s.heap := hP
  have hl := lv_entry ([.ref z35, .int 0]) (n := 12) (Nat.le_of_ble_eq_true rfl)
  rw [lg_entry_eq]
  generalize (lg_sl ([.ref z35, .int 0]) ++ List.replicate (12 - (lg_sl ([.ref z35, .int 0])).length) Slot.unset).toArray = ls at hl ⊢
  have hl : lv_has ls 12 [(0, .ref z35), (1, .int 0)] := hl
  refine lv_aload_n hx hb dX0_weaveBefore_0 rfl (lv_at hl 0 rfl) ?_
  refine lv_iload_n hx hb dX0_weaveBefore_1 rfl (lv_at hl 1 rfl) ?_
  refine va_lald hx hb hK hP 0 1 rfl rfl (wk_in rfl) dX0_weaveBefore_2 ?_
  refine wk_l 0 rfl ?_
  refine lv_lstore_n (lv' := [(2, .long 0), (0, .ref z35), (1, .int 0)]) hx hb dX0_weaveBefore_3 rfl hl (by decide) rfl (fun ls hl => ?_)
  refine lv_aload_n hx hb dX0_weaveBefore_4 rfl (lv_at hl 1 rfl) ?_
  refine lv_iload_n hx hb dX0_weaveBefore_5 rfl (lv_at hl 2 rfl) ?_
  refine lv_iconst (v := 1) hx hb dX0_weaveBefore_6 (by decide) ?_
  refine lv_iadd hx hb dX0_weaveBefore_7 ?_
  refine wk_i 1 (by decide) ?_
  refine va_lald hx hb hK hP 0 1 rfl rfl (wk_in rfl) dX0_weaveBefore_8 ?_
  refine wk_l 1 rfl ?_
  refine lv_lstore (lv' := [(4, .long 1), (2, .long 0), (0, .ref z35), (1, .int 0)]) hx hb dX0_weaveBefore_9 hl (by decide) rfl (fun ls hl => ?_)
  refine lv_aload_n hx hb dX0_weaveBefore_11 rfl (lv_at hl 2 rfl) ?_
  refine lv_iload_n hx hb dX0_weaveBefore_12 rfl (lv_at hl 3 rfl) ?_
  refine lv_iconst (v := 2) hx hb dX0_weaveBefore_13 (by decide) ?_
  refine lv_iadd hx hb dX0_weaveBefore_14 ?_
  refine wk_i 2 (by decide) ?_
  refine va_lald hx hb hK hP 0 1 rfl rfl (wk_in rfl) dX0_weaveBefore_15 ?_
  refine wk_l 0 rfl ?_
  refine lv_lstore (lv' := [(6, .long 0), (4, .long 1), (2, .long 0), (0, .ref z35), (1, .int 0)]) hx hb dX0_weaveBefore_16 hl (by decide) rfl (fun ls hl => ?_)
  refine lv_aload_n hx hb dX0_weaveBefore_18 rfl (lv_at hl 3 rfl) ?_
  refine lv_iload_n hx hb dX0_weaveBefore_19 rfl (lv_at hl 4 rfl) ?_
  refine lv_iconst (v := 3) hx hb dX0_weaveBefore_20 (by decide) ?_
  refine lv_iadd hx hb dX0_weaveBefore_21 ?_
  refine wk_i 3 (by decide) ?_
  refine va_lald hx hb hK hP 0 1 rfl rfl (wk_in rfl) dX0_weaveBefore_22 ?_
  refine wk_l 1 rfl ?_
  refine lv_lstore (lv' := [(8, .long 1), (6, .long 0), (4, .long 1), (2, .long 0), (0, .ref z35), (1, .int 0)]) hx hb dX0_weaveBefore_23 hl (by decide) rfl (fun ls hl => ?_)
  refine lv_lload_n hx hb dX0_weaveBefore_25 rfl (lv_at hl 3 rfl) ?_
  refine lv_lload hx hb dX0_weaveBefore_26 (lv_at hl 2 rfl) ?_
  have hPc := hP.sub (ws' := []) [] rfl
  have hDc := hD.sub (ws' := []) [] (by decide) rfl
  have hFc := va_free (wc := []) hD hS hA [] rfl
  refine va_calll (va_runS (As := [.long 1]) (rest := [.long 0]) ⟨hx, hb, hml, hown, hts⟩ (kX0_minus l D G 1 s.heap.size) (va_cwS 1 hts gX0_weaveBefore_X0_minus rfl rfl rfl (by decide +kernel) ⟨Nat.le_of_ble_eq_true rfl, Nat.le_of_ble_eq_true rfl⟩) ⟨wB_blind, wB_pre hPc hK hDc hN⟩ rfl rfl hl.1 rfl (lv_room (Nat.le_of_ble_eq_true rfl)) dX0_weaveBefore_28 ⟨Nat.le_of_ble_eq_true rfl, Nat.le_of_ble_eq_true rfl⟩) hS (fun q _ h => hFc q h) hFc (fun r1 u t H1 locs ht hvm hr1 hB hz1 hk1 hS => ?_)
  obtain ⟨hP, hD⟩ := va_join (wr := [(z35, .inl (G.2.1, 10, .inr (.inl (tL [0, 1, 0, 1, 0, 1, 0, 1, 0, 1]))))]) (w1 := []) hP hD [] [0] rfl rfl (by decide) (by decide) hk1 hFc wP_nil wD_nil
  clear hPc hDc
  generalize H1 = H at hP hS ⊢
  have hP : va_P D vwCl [(z35, .inl (G.2.1, 10, .inr (.inl (tL [0, 1, 0, 1, 0, 1, 0, 1, 0, 1]))))] H := hP
  have hD : va_D A [(z35, .inl (G.2.1, 10, .inr (.inl (tL [0, 1, 0, 1, 0, 1, 0, 1, 0, 1]))))] := hD
  obtain rfl : r1 = 0 := by rw [hr1]; decide
  refine lv_lsub hx hb dX0_weaveBefore_31 ?_
  refine wk_l 0 (by decide) ?_
  refine lv_lload hx hb dX0_weaveBefore_32 (lv_at hl 1 rfl) ?_
  refine lv_lsub hx hb dX0_weaveBefore_34 ?_
  refine wk_l 0 (by decide) ?_
  refine lv_lload hx hb dX0_weaveBefore_35 (lv_at hl 0 rfl) ?_
  have hPc := hP.sub (ws' := []) [] rfl
  have hDc := hD.sub (ws' := []) [] (by decide) rfl
  have hFc := va_free (wc := []) hD hS hA [] rfl
  refine va_calll (va_runS (As := [.long 1]) (rest := [.long 0]) ⟨hx, hb, hml, hown, hts⟩ (kX0_plus l D G 1 H.size) (va_cwS 1 hts gX0_weaveBefore_X0_plus rfl rfl rfl (by decide +kernel) ⟨Nat.le_of_ble_eq_true rfl, Nat.le_of_ble_eq_true rfl⟩) ⟨wB_blind, wB_pre hPc hK hDc hN⟩ rfl rfl hl.1 rfl (lv_room (Nat.le_of_ble_eq_true rfl)) dX0_weaveBefore_37 ⟨Nat.le_of_ble_eq_true rfl, Nat.le_of_ble_eq_true rfl⟩) hS (fun q _ h => hFc q h) hFc (fun r2 u t H1 locs ht hvm hr2 hB hz1 hk1 hS => ?_)
  obtain ⟨hP, hD⟩ := va_join (wr := [(z35, .inl (G.2.1, 10, .inr (.inl (tL [0, 1, 0, 1, 0, 1, 0, 1, 0, 1]))))]) (w1 := []) hP hD [] [0] rfl rfl (by decide) (by decide) hk1 hFc wP_nil wD_nil
  clear hPc hDc
  generalize H1 = H at hP hS ⊢
  have hP : va_P D vwCl [(z35, .inl (G.2.1, 10, .inr (.inl (tL [0, 1, 0, 1, 0, 1, 0, 1, 0, 1]))))] H := hP
  have hD : va_D A [(z35, .inl (G.2.1, 10, .inr (.inl (tL [0, 1, 0, 1, 0, 1, 0, 1, 0, 1]))))] := hD
  obtain rfl : r2 = 1 := by rw [hr2]; decide
  refine lv_ladd hx hb dX0_weaveBefore_40 ?_
  refine wk_l 1 (by decide) ?_
  refine lv_lstore (lv' := [(10, .long 1), (8, .long 1), (6, .long 0), (4, .long 1), (2, .long 0), (0, .ref z35), (1, .int 0)]) hx hb dX0_weaveBefore_41 hl (by decide) rfl (fun ls hl => ?_)
  refine lv_aload_n hx hb dX0_weaveBefore_43 rfl (lv_at hl 5 rfl) ?_
  refine lv_iload_n hx hb dX0_weaveBefore_44 rfl (lv_at hl 6 rfl) ?_
  refine lv_lload_n hx hb dX0_weaveBefore_45 rfl (lv_at hl 4 rfl) ?_
  refine lv_lload hx hb dX0_weaveBefore_46 (lv_at hl 3 rfl) ?_
  have hPc := hP.sub (ws' := []) [] rfl
  have hDc := hD.sub (ws' := []) [] (by decide) rfl
  have hFc := va_free (wc := []) hD hS hA [] rfl
  refine va_calll (va_runS (As := [.long 1]) (rest := [.long 0, .int 0, .ref z35]) ⟨hx, hb, hml, hown, hts⟩ (kX0_plus l D G 1 H.size) (va_cwS 1 hts gX0_weaveBefore_X0_plus rfl rfl rfl (by decide +kernel) ⟨Nat.le_of_ble_eq_true rfl, Nat.le_of_ble_eq_true rfl⟩) ⟨wB_blind, wB_pre hPc hK hDc hN⟩ rfl rfl hl.1 rfl (lv_room (Nat.le_of_ble_eq_true rfl)) dX0_weaveBefore_48 ⟨Nat.le_of_ble_eq_true rfl, Nat.le_of_ble_eq_true rfl⟩) hS (fun q _ h => hFc q h) hFc (fun r3 u t H1 locs ht hvm hr3 hB hz1 hk1 hS => ?_)
  obtain ⟨hP, hD⟩ := va_join (wr := [(z35, .inl (G.2.1, 10, .inr (.inl (tL [0, 1, 0, 1, 0, 1, 0, 1, 0, 1]))))]) (w1 := []) hP hD [] [0] rfl rfl (by decide) (by decide) hk1 hFc wP_nil wD_nil
  clear hPc hDc
  generalize H1 = H at hP hS ⊢
  have hP : va_P D vwCl [(z35, .inl (G.2.1, 10, .inr (.inl (tL [0, 1, 0, 1, 0, 1, 0, 1, 0, 1]))))] H := hP
  have hD : va_D A [(z35, .inl (G.2.1, 10, .inr (.inl (tL [0, 1, 0, 1, 0, 1, 0, 1, 0, 1]))))] := hD
  obtain rfl : r3 = 1 := by rw [hr3]; decide
  refine lv_ladd hx hb dX0_weaveBefore_51 ?_
  refine wk_l 1 (by decide) ?_
  refine lv_lload hx hb dX0_weaveBefore_52 (lv_at hl 1 rfl) ?_
  have hPc := hP.sub (ws' := []) [] rfl
  have hDc := hD.sub (ws' := []) [] (by decide) rfl
  have hFc := va_free (wc := []) hD hS hA [] rfl
  refine va_calll (va_runS (As := [.long 1]) (rest := [.long 1, .int 0, .ref z35]) ⟨hx, hb, hml, hown, hts⟩ (kX0_plus l D G 1 H.size) (va_cwS 1 hts gX0_weaveBefore_X0_plus rfl rfl rfl (by decide +kernel) ⟨Nat.le_of_ble_eq_true rfl, Nat.le_of_ble_eq_true rfl⟩) ⟨wB_blind, wB_pre hPc hK hDc hN⟩ rfl rfl hl.1 rfl (lv_room (Nat.le_of_ble_eq_true rfl)) dX0_weaveBefore_54 ⟨Nat.le_of_ble_eq_true rfl, Nat.le_of_ble_eq_true rfl⟩) hS (fun q _ h => hFc q h) hFc (fun r4 u t H1 locs ht hvm hr4 hB hz1 hk1 hS => ?_)
  obtain ⟨hP, hD⟩ := va_join (wr := [(z35, .inl (G.2.1, 10, .inr (.inl (tL [0, 1, 0, 1, 0, 1, 0, 1, 0, 1]))))]) (w1 := []) hP hD [] [0] rfl rfl (by decide) (by decide) hk1 hFc wP_nil wD_nil
  clear hPc hDc
  generalize H1 = H at hP hS ⊢
  have hP : va_P D vwCl [(z35, .inl (G.2.1, 10, .inr (.inl (tL [0, 1, 0, 1, 0, 1, 0, 1, 0, 1]))))] H := hP
  have hD : va_D A [(z35, .inl (G.2.1, 10, .inr (.inl (tL [0, 1, 0, 1, 0, 1, 0, 1, 0, 1]))))] := hD
  obtain rfl : r4 = 1 := by rw [hr4]; decide
  refine lv_lload hx hb dX0_weaveBefore_57 (lv_at hl 0 rfl) ?_
  refine lv_lsub hx hb dX0_weaveBefore_59 ?_
  refine wk_l 0 (by decide) ?_
  have hPc := hP.sub (ws' := []) [] rfl
  have hDc := hD.sub (ws' := []) [] (by decide) rfl
  have hFc := va_free (wc := []) hD hS hA [] rfl
  refine va_calll (va_runS (As := [.long 0]) (rest := [.long 1, .int 0, .ref z35]) ⟨hx, hb, hml, hown, hts⟩ (kX0_plus l D G 0 H.size) (va_cwS 1 hts gX0_weaveBefore_X0_plus rfl rfl rfl (by decide +kernel) ⟨Nat.le_of_ble_eq_true rfl, Nat.le_of_ble_eq_true rfl⟩) ⟨wB_blind, wB_pre hPc hK hDc hN⟩ rfl rfl hl.1 rfl (lv_room (Nat.le_of_ble_eq_true rfl)) dX0_weaveBefore_60 ⟨Nat.le_of_ble_eq_true rfl, Nat.le_of_ble_eq_true rfl⟩) hS (fun q _ h => hFc q h) hFc (fun r5 u t H1 locs ht hvm hr5 hB hz1 hk1 hS => ?_)
  obtain ⟨hP, hD⟩ := va_join (wr := [(z35, .inl (G.2.1, 10, .inr (.inl (tL [0, 1, 0, 1, 0, 1, 0, 1, 0, 1]))))]) (w1 := []) hP hD [] [0] rfl rfl (by decide) (by decide) hk1 hFc wP_nil wD_nil
  clear hPc hDc
  generalize H1 = H at hP hS ⊢
  have hP : va_P D vwCl [(z35, .inl (G.2.1, 10, .inr (.inl (tL [0, 1, 0, 1, 0, 1, 0, 1, 0, 1]))))] H := hP
  have hD : va_D A [(z35, .inl (G.2.1, 10, .inr (.inl (tL [0, 1, 0, 1, 0, 1, 0, 1, 0, 1]))))] := hD
  obtain rfl : r5 = 0 := by rw [hr5]; decide
  refine lv_ladd hx hb dX0_weaveBefore_63 ?_
  refine wk_l 1 (by decide) ?_
  refine va_last hx hb hK hP hD hS 0 1 rfl rfl (wk_in rfl) dX0_weaveBefore_64 (fun H locs hP hD hS => ?_)
  have hP : va_P D vwCl [(z35, .inl (G.2.1, 10, .inr (.inl (vp_updL (tL [0, 1, 0, 1, 0, 1, 0, 1, 0, 1]) 0 1))))] H := hP
  have hD : va_D A [(z35, .inl (G.2.1, 10, .inr (.inl (vp_updL (tL [0, 1, 0, 1, 0, 1, 0, 1, 0, 1]) 0 1))))] := hD
  refine lv_aload_n hx hb dX0_weaveBefore_65 rfl (lv_at hl 5 rfl) ?_
  refine lv_iload_n hx hb dX0_weaveBefore_66 rfl (lv_at hl 6 rfl) ?_
  refine lv_iconst (v := 1) hx hb dX0_weaveBefore_67 (by decide) ?_
  refine lv_iadd hx hb dX0_weaveBefore_68 ?_
  refine wk_i 1 (by decide) ?_
  refine lv_lload hx hb dX0_weaveBefore_69 (lv_at hl 1 rfl) ?_
  refine lv_lload hx hb dX0_weaveBefore_71 (lv_at hl 0 rfl) ?_
  have hPc := hP.sub (ws' := []) [] rfl
  have hDc := hD.sub (ws' := []) [] (by decide) rfl
  have hFc := va_free (wc := []) hD hS hA [] rfl
  refine va_calll (va_runS (As := [.long 1]) (rest := [.long 1, .int 1, .ref z35]) ⟨hx, hb, hml, hown, hts⟩ (kX0_plus l D G 1 H.size) (va_cwS 1 hts gX0_weaveBefore_X0_plus rfl rfl rfl (by decide +kernel) ⟨Nat.le_of_ble_eq_true rfl, Nat.le_of_ble_eq_true rfl⟩) ⟨wB_blind, wB_pre hPc hK hDc hN⟩ rfl rfl hl.1 rfl (lv_room (Nat.le_of_ble_eq_true rfl)) dX0_weaveBefore_73 ⟨Nat.le_of_ble_eq_true rfl, Nat.le_of_ble_eq_true rfl⟩) hS (fun q _ h => hFc q h) hFc (fun r6 u t H1 locs ht hvm hr6 hB hz1 hk1 hS => ?_)
  obtain ⟨hP, hD⟩ := va_join (wr := [(z35, .inl (G.2.1, 10, .inr (.inl (vp_updL (tL [0, 1, 0, 1, 0, 1, 0, 1, 0, 1]) 0 1))))]) (w1 := []) hP hD [] [0] rfl rfl (by decide) (by decide) hk1 hFc wP_nil wD_nil
  clear hPc hDc
  generalize H1 = H at hP hS ⊢
  have hP : va_P D vwCl [(z35, .inl (G.2.1, 10, .inr (.inl (vp_updL (tL [0, 1, 0, 1, 0, 1, 0, 1, 0, 1]) 0 1))))] H := hP
  have hD : va_D A [(z35, .inl (G.2.1, 10, .inr (.inl (vp_updL (tL [0, 1, 0, 1, 0, 1, 0, 1, 0, 1]) 0 1))))] := hD
  obtain rfl : r6 = 1 := by rw [hr6]; decide
  refine lv_lsub hx hb dX0_weaveBefore_76 ?_
  refine wk_l 0 (by decide) ?_
  refine va_last hx hb hK hP hD hS 0 1 rfl rfl (wk_in rfl) dX0_weaveBefore_77 (fun H locs hP hD hS => ?_)
  have hP : va_P D vwCl [(z35, .inl (G.2.1, 10, .inr (.inl (vp_updL (vp_updL (tL [0, 1, 0, 1, 0, 1, 0, 1, 0, 1]) 0 1) 1 0))))] H := hP
  have hD : va_D A [(z35, .inl (G.2.1, 10, .inr (.inl (vp_updL (vp_updL (tL [0, 1, 0, 1, 0, 1, 0, 1, 0, 1]) 0 1) 1 0))))] := hD
  refine lv_aload_n hx hb dX0_weaveBefore_78 rfl (lv_at hl 5 rfl) ?_
  refine lv_iload_n hx hb dX0_weaveBefore_79 rfl (lv_at hl 6 rfl) ?_
  refine lv_iconst (v := 2) hx hb dX0_weaveBefore_80 (by decide) ?_
  refine lv_iadd hx hb dX0_weaveBefore_81 ?_
  refine wk_i 2 (by decide) ?_
  refine lv_lload hx hb dX0_weaveBefore_82 (lv_at hl 2 rfl) ?_
  refine lv_lload hx hb dX0_weaveBefore_84 (lv_at hl 1 rfl) ?_
  have hPc := hP.sub (ws' := []) [] rfl
  have hDc := hD.sub (ws' := []) [] (by decide) rfl
  have hFc := va_free (wc := []) hD hS hA [] rfl
  refine va_calll (va_runS (As := [.long 1]) (rest := [.long 0, .int 2, .ref z35]) ⟨hx, hb, hml, hown, hts⟩ (kX0_minus l D G 1 H.size) (va_cwS 1 hts gX0_weaveBefore_X0_minus rfl rfl rfl (by decide +kernel) ⟨Nat.le_of_ble_eq_true rfl, Nat.le_of_ble_eq_true rfl⟩) ⟨wB_blind, wB_pre hPc hK hDc hN⟩ rfl rfl hl.1 rfl (lv_room (Nat.le_of_ble_eq_true rfl)) dX0_weaveBefore_86 ⟨Nat.le_of_ble_eq_true rfl, Nat.le_of_ble_eq_true rfl⟩) hS (fun q _ h => hFc q h) hFc (fun r7 u t H1 locs ht hvm hr7 hB hz1 hk1 hS => ?_)
  obtain ⟨hP, hD⟩ := va_join (wr := [(z35, .inl (G.2.1, 10, .inr (.inl (vp_updL (vp_updL (tL [0, 1, 0, 1, 0, 1, 0, 1, 0, 1]) 0 1) 1 0))))]) (w1 := []) hP hD [] [0] rfl rfl (by decide) (by decide) hk1 hFc wP_nil wD_nil
  clear hPc hDc
  generalize H1 = H at hP hS ⊢
  have hP : va_P D vwCl [(z35, .inl (G.2.1, 10, .inr (.inl (vp_updL (vp_updL (tL [0, 1, 0, 1, 0, 1, 0, 1, 0, 1]) 0 1) 1 0))))] H := hP
  have hD : va_D A [(z35, .inl (G.2.1, 10, .inr (.inl (vp_updL (vp_updL (tL [0, 1, 0, 1, 0, 1, 0, 1, 0, 1]) 0 1) 1 0))))] := hD
  obtain rfl : r7 = 0 := by rw [hr7]; decide
  refine lv_ladd hx hb dX0_weaveBefore_89 ?_
  refine wk_l 0 (by decide) ?_
  refine lv_lload hx hb dX0_weaveBefore_90 (lv_at hl 3 rfl) ?_
  have hPc := hP.sub (ws' := []) [] rfl
  have hDc := hD.sub (ws' := []) [] (by decide) rfl
  have hFc := va_free (wc := []) hD hS hA [] rfl
  refine va_calll (va_runS (As := [.long 1]) (rest := [.long 0, .int 2, .ref z35]) ⟨hx, hb, hml, hown, hts⟩ (kX0_minus l D G 1 H.size) (va_cwS 1 hts gX0_weaveBefore_X0_minus rfl rfl rfl (by decide +kernel) ⟨Nat.le_of_ble_eq_true rfl, Nat.le_of_ble_eq_true rfl⟩) ⟨wB_blind, wB_pre hPc hK hDc hN⟩ rfl rfl hl.1 rfl (lv_room (Nat.le_of_ble_eq_true rfl)) dX0_weaveBefore_92 ⟨Nat.le_of_ble_eq_true rfl, Nat.le_of_ble_eq_true rfl⟩) hS (fun q _ h => hFc q h) hFc (fun r8 u t H1 locs ht hvm hr8 hB hz1 hk1 hS => ?_)
  obtain ⟨hP, hD⟩ := va_join (wr := [(z35, .inl (G.2.1, 10, .inr (.inl (vp_updL (vp_updL (tL [0, 1, 0, 1, 0, 1, 0, 1, 0, 1]) 0 1) 1 0))))]) (w1 := []) hP hD [] [0] rfl rfl (by decide) (by decide) hk1 hFc wP_nil wD_nil
  clear hPc hDc
  generalize H1 = H at hP hS ⊢
  have hP : va_P D vwCl [(z35, .inl (G.2.1, 10, .inr (.inl (vp_updL (vp_updL (tL [0, 1, 0, 1, 0, 1, 0, 1, 0, 1]) 0 1) 1 0))))] H := hP
  have hD : va_D A [(z35, .inl (G.2.1, 10, .inr (.inl (vp_updL (vp_updL (tL [0, 1, 0, 1, 0, 1, 0, 1, 0, 1]) 0 1) 1 0))))] := hD
  obtain rfl : r8 = 0 := by rw [hr8]; decide
  refine lv_lload hx hb dX0_weaveBefore_95 (lv_at hl 0 rfl) ?_
  refine lv_ladd hx hb dX0_weaveBefore_97 ?_
  refine wk_l 1 (by decide) ?_
  have hPc := hP.sub (ws' := []) [] rfl
  have hDc := hD.sub (ws' := []) [] (by decide) rfl
  have hFc := va_free (wc := []) hD hS hA [] rfl
  refine va_calll (va_runS (As := [.long 1]) (rest := [.long 0, .int 2, .ref z35]) ⟨hx, hb, hml, hown, hts⟩ (kX0_minus l D G 1 H.size) (va_cwS 1 hts gX0_weaveBefore_X0_minus rfl rfl rfl (by decide +kernel) ⟨Nat.le_of_ble_eq_true rfl, Nat.le_of_ble_eq_true rfl⟩) ⟨wB_blind, wB_pre hPc hK hDc hN⟩ rfl rfl hl.1 rfl (lv_room (Nat.le_of_ble_eq_true rfl)) dX0_weaveBefore_98 ⟨Nat.le_of_ble_eq_true rfl, Nat.le_of_ble_eq_true rfl⟩) hS (fun q _ h => hFc q h) hFc (fun r9 u t H1 locs ht hvm hr9 hB hz1 hk1 hS => ?_)
  obtain ⟨hP, hD⟩ := va_join (wr := [(z35, .inl (G.2.1, 10, .inr (.inl (vp_updL (vp_updL (tL [0, 1, 0, 1, 0, 1, 0, 1, 0, 1]) 0 1) 1 0))))]) (w1 := []) hP hD [] [0] rfl rfl (by decide) (by decide) hk1 hFc wP_nil wD_nil
  clear hPc hDc
  generalize H1 = H at hP hS ⊢
  have hP : va_P D vwCl [(z35, .inl (G.2.1, 10, .inr (.inl (vp_updL (vp_updL (tL [0, 1, 0, 1, 0, 1, 0, 1, 0, 1]) 0 1) 1 0))))] H := hP
  have hD : va_D A [(z35, .inl (G.2.1, 10, .inr (.inl (vp_updL (vp_updL (tL [0, 1, 0, 1, 0, 1, 0, 1, 0, 1]) 0 1) 1 0))))] := hD
  obtain rfl : r9 = 0 := by rw [hr9]; decide
  refine lv_ladd hx hb dX0_weaveBefore_101 ?_
  refine wk_l 0 (by decide) ?_
  refine va_last hx hb hK hP hD hS 0 1 rfl rfl (wk_in rfl) dX0_weaveBefore_102 (fun H locs hP hD hS => ?_)
  have hP : va_P D vwCl [(z35, .inl (G.2.1, 10, .inr (.inl (vp_updL (vp_updL (vp_updL (tL [0, 1, 0, 1, 0, 1, 0, 1, 0, 1]) 0 1) 1 0) 2 0))))] H := hP
  have hD : va_D A [(z35, .inl (G.2.1, 10, .inr (.inl (vp_updL (vp_updL (vp_updL (tL [0, 1, 0, 1, 0, 1, 0, 1, 0, 1]) 0 1) 1 0) 2 0))))] := hD
  refine lv_aload_n hx hb dX0_weaveBefore_103 rfl (lv_at hl 5 rfl) ?_
  refine lv_iload_n hx hb dX0_weaveBefore_104 rfl (lv_at hl 6 rfl) ?_
  refine lv_iconst (v := 3) hx hb dX0_weaveBefore_105 (by decide) ?_
  refine lv_iadd hx hb dX0_weaveBefore_106 ?_
  refine wk_i 3 (by decide) ?_
  refine lv_lload hx hb dX0_weaveBefore_107 (lv_at hl 3 rfl) ?_
  refine lv_lload hx hb dX0_weaveBefore_109 (lv_at hl 0 rfl) ?_
  have hPc := hP.sub (ws' := []) [] rfl
  have hDc := hD.sub (ws' := []) [] (by decide) rfl
  have hFc := va_free (wc := []) hD hS hA [] rfl
  refine va_calll (va_runS (As := [.long 1]) (rest := [.long 1, .int 3, .ref z35]) ⟨hx, hb, hml, hown, hts⟩ (kX0_plus l D G 1 H.size) (va_cwS 1 hts gX0_weaveBefore_X0_plus rfl rfl rfl (by decide +kernel) ⟨Nat.le_of_ble_eq_true rfl, Nat.le_of_ble_eq_true rfl⟩) ⟨wB_blind, wB_pre hPc hK hDc hN⟩ rfl rfl hl.1 rfl (lv_room (Nat.le_of_ble_eq_true rfl)) dX0_weaveBefore_111 ⟨Nat.le_of_ble_eq_true rfl, Nat.le_of_ble_eq_true rfl⟩) hS (fun q _ h => hFc q h) hFc (fun r10 u t H1 locs ht hvm hr10 hB hz1 hk1 hS => ?_)
  obtain ⟨hP, hD⟩ := va_join (wr := [(z35, .inl (G.2.1, 10, .inr (.inl (vp_updL (vp_updL (vp_updL (tL [0, 1, 0, 1, 0, 1, 0, 1, 0, 1]) 0 1) 1 0) 2 0))))]) (w1 := []) hP hD [] [0] rfl rfl (by decide) (by decide) hk1 hFc wP_nil wD_nil
  clear hPc hDc
  generalize H1 = H at hP hS ⊢
  have hP : va_P D vwCl [(z35, .inl (G.2.1, 10, .inr (.inl (vp_updL (vp_updL (vp_updL (tL [0, 1, 0, 1, 0, 1, 0, 1, 0, 1]) 0 1) 1 0) 2 0))))] H := hP
  have hD : va_D A [(z35, .inl (G.2.1, 10, .inr (.inl (vp_updL (vp_updL (vp_updL (tL [0, 1, 0, 1, 0, 1, 0, 1, 0, 1]) 0 1) 1 0) 2 0))))] := hD
  obtain rfl : r10 = 1 := by rw [hr10]; decide
  refine lv_ladd hx hb dX0_weaveBefore_114 ?_
  refine wk_l 2 (by decide) ?_
  refine va_last hx hb hK hP hD hS 0 1 rfl rfl (wk_in rfl) dX0_weaveBefore_115 (fun H locs hP hD hS => ?_)
  have hP : va_P D vwCl [(z35, .inl (G.2.1, 10, .inr (.inl (vp_updL (vp_updL (vp_updL (vp_updL (tL [0, 1, 0, 1, 0, 1, 0, 1, 0, 1]) 0 1) 1 0) 2 0) 3 2))))] H := hP
  have hD : va_D A [(z35, .inl (G.2.1, 10, .inr (.inl (vp_updL (vp_updL (vp_updL (vp_updL (tL [0, 1, 0, 1, 0, 1, 0, 1, 0, 1]) 0 1) 1 0) 2 0) 3 2))))] := hD
  exact W.vret hx hb hr (fun t ht hW => ⟨⟨(), rfl, trivial, trivial⟩, hS.F ht⟩) hS.2.2 dX0_weaveBefore_116

set_option maxRecDepth 20000 in
theorem ggX0_weaveBehind_X0_minus : GoodIn wsX0_weaveBehind wsX0_minus := goodIn_r _ [4, 5, 6, 7, 8] (by decide +kernel) (by decide +kernel)
set_option maxRecDepth 20000 in
theorem gX0_weaveBehind_X0_minus : GoodIn wsX0_weaveBehind (va_wsS RX0 100 yX0_minus wsX0_minus) := goodIn_app (goodIn_of _ (by decide +kernel)) ggX0_weaveBehind_X0_minus
set_option maxRecDepth 20000 in
theorem ggX0_weaveBehind_X0_plus : GoodIn wsX0_weaveBehind wsX0_plus := goodIn_r _ [11, 12, 13, 7, 14] (by decide +kernel) (by decide +kernel)
set_option maxRecDepth 20000 in
theorem gX0_weaveBehind_X0_plus : GoodIn wsX0_weaveBehind (va_wsS RX0 103 yX0_plus wsX0_plus) := goodIn_app (goodIn_of _ (by decide +kernel)) ggX0_weaveBehind_X0_plus
theorem dX0_weaveBehind_0 : decode cX0_weaveBehind 0 = .ok (.aload_n 0, 1) := by decide +kernel
theorem dX0_weaveBehind_1 : decode cX0_weaveBehind 1 = .ok (.iload_n 1, 1) := by decide +kernel
theorem dX0_weaveBehind_2 : decode cX0_weaveBehind 2 = .ok (.laload, 1) := by decide +kernel
theorem dX0_weaveBehind_3 : decode cX0_weaveBehind 3 = .ok (.lstore_n 2, 1) := by decide +kernel
theorem dX0_weaveBehind_4 : decode cX0_weaveBehind 4 = .ok (.aload_n 0, 1) := by decide +kernel
theorem dX0_weaveBehind_5 : decode cX0_weaveBehind 5 = .ok (.iload_n 1, 1) := by decide +kernel
theorem dX0_weaveBehind_6 : decode cX0_weaveBehind 6 = .ok (.iconst 1, 1) := by decide +kernel
theorem dX0_weaveBehind_7 : decode cX0_weaveBehind 7 = .ok (.iadd, 1) := by decide +kernel
theorem dX0_weaveBehind_8 : decode cX0_weaveBehind 8 = .ok (.laload, 1) := by decide +kernel
theorem dX0_weaveBehind_9 : decode cX0_weaveBehind 9 = .ok (.lstore 4, 2) := by decide +kernel
theorem dX0_weaveBehind_11 : decode cX0_weaveBehind 11 = .ok (.aload_n 0, 1) := by decide +kernel
theorem dX0_weaveBehind_12 : decode cX0_weaveBehind 12 = .ok (.iload_n 1, 1) := by decide +kernel
theorem dX0_weaveBehind_13 : decode cX0_weaveBehind 13 = .ok (.iconst 2, 1) := by decide +kernel
theorem dX0_weaveBehind_14 : decode cX0_weaveBehind 14 = .ok (.iadd, 1) := by decide +kernel
theorem dX0_weaveBehind_15 : decode cX0_weaveBehind 15 = .ok (.laload, 1) := by decide +kernel
theorem dX0_weaveBehind_16 : decode cX0_weaveBehind 16 = .ok (.lstore 6, 2) := by decide +kernel
theorem dX0_weaveBehind_18 : decode cX0_weaveBehind 18 = .ok (.aload_n 0, 1) := by decide +kernel
theorem dX0_weaveBehind_19 : decode cX0_weaveBehind 19 = .ok (.iload_n 1, 1) := by decide +kernel
theorem dX0_weaveBehind_20 : decode cX0_weaveBehind 20 = .ok (.iconst 3, 1) := by decide +kernel
theorem dX0_weaveBehind_21 : decode cX0_weaveBehind 21 = .ok (.iadd, 1) := by decide +kernel
theorem dX0_weaveBehind_22 : decode cX0_weaveBehind 22 = .ok (.laload, 1) := by decide +kernel
theorem dX0_weaveBehind_23 : decode cX0_weaveBehind 23 = .ok (.lstore 8, 2) := by decide +kernel
theorem dX0_weaveBehind_25 : decode cX0_weaveBehind 25 = .ok (.lload_n 2, 1) := by decide +kernel
theorem dX0_weaveBehind_26 : decode cX0_weaveBehind 26 = .ok (.lload 4, 2) := by decide +kernel
theorem dX0_weaveBehind_28 : decode cX0_weaveBehind 28 = .ok (.invokestatic 100, 3) := by decide +kernel
theorem dX0_weaveBehind_31 : decode cX0_weaveBehind 31 = .ok (.ladd, 1) := by decide +kernel
theorem dX0_weaveBehind_32 : decode cX0_weaveBehind 32 = .ok (.lload 6, 2) := by decide +kernel
theorem dX0_weaveBehind_34 : decode cX0_weaveBehind 34 = .ok (.lsub, 1) := by decide +kernel
theorem dX0_weaveBehind_35 : decode cX0_weaveBehind 35 = .ok (.lload 8, 2) := by decide +kernel
theorem dX0_weaveBehind_37 : decode cX0_weaveBehind 37 = .ok (.invokestatic 103, 3) := by decide +kernel
theorem dX0_weaveBehind_40 : decode cX0_weaveBehind 40 = .ok (.lsub, 1) := by decide +kernel
theorem dX0_weaveBehind_41 : decode cX0_weaveBehind 41 = .ok (.lstore 10, 2) := by decide +kernel
theorem dX0_weaveBehind_43 : decode cX0_weaveBehind 43 = .ok (.aload_n 0, 1) := by decide +kernel
theorem dX0_weaveBehind_44 : decode cX0_weaveBehind 44 = .ok (.iload_n 1, 1) := by decide +kernel
theorem dX0_weaveBehind_45 : decode cX0_weaveBehind 45 = .ok (.lload_n 2, 1) := by decide +kernel
theorem dX0_weaveBehind_46 : decode cX0_weaveBehind 46 = .ok (.lload 4, 2) := by decide +kernel
theorem dX0_weaveBehind_48 : decode cX0_weaveBehind 48 = .ok (.invokestatic 103, 3) := by decide +kernel
theorem dX0_weaveBehind_51 : decode cX0_weaveBehind 51 = .ok (.lsub, 1) := by decide +kernel
theorem dX0_weaveBehind_52 : decode cX0_weaveBehind 52 = .ok (.lload 8, 2) := by decide +kernel
theorem dX0_weaveBehind_54 : decode cX0_weaveBehind 54 = .ok (.invokestatic 103, 3) := by decide +kernel
theorem dX0_weaveBehind_57 : decode cX0_weaveBehind 57 = .ok (.lload 10, 2) := by decide +kernel
theorem dX0_weaveBehind_59 : decode cX0_weaveBehind 59 = .ok (.ladd, 1) := by decide +kernel
theorem dX0_weaveBehind_60 : decode cX0_weaveBehind 60 = .ok (.invokestatic 103, 3) := by decide +kernel
theorem dX0_weaveBehind_63 : decode cX0_weaveBehind 63 = .ok (.lsub, 1) := by decide +kernel
theorem dX0_weaveBehind_64 : decode cX0_weaveBehind 64 = .ok (.lastore, 1) := by decide +kernel
theorem dX0_weaveBehind_65 : decode cX0_weaveBehind 65 = .ok (.aload_n 0, 1) := by decide +kernel
theorem dX0_weaveBehind_66 : decode cX0_weaveBehind 66 = .ok (.iload_n 1, 1) := by decide +kernel
theorem dX0_weaveBehind_67 : decode cX0_weaveBehind 67 = .ok (.iconst 1, 1) := by decide +kernel
theorem dX0_weaveBehind_68 : decode cX0_weaveBehind 68 = .ok (.iadd, 1) := by decide +kernel
theorem dX0_weaveBehind_69 : decode cX0_weaveBehind 69 = .ok (.lload 8, 2) := by decide +kernel
theorem dX0_weaveBehind_71 : decode cX0_weaveBehind 71 = .ok (.lload 10, 2) := by decide +kernel
theorem dX0_weaveBehind_73 : decode cX0_weaveBehind 73 = .ok (.invokestatic 100, 3) := by decide +kernel
theorem dX0_weaveBehind_76 : decode cX0_weaveBehind 76 = .ok (.ladd, 1) := by decide +kernel
theorem dX0_weaveBehind_77 : decode cX0_weaveBehind 77 = .ok (.lastore, 1) := by decide +kernel
theorem dX0_weaveBehind_78 : decode cX0_weaveBehind 78 = .ok (.aload_n 0, 1) := by decide +kernel
theorem dX0_weaveBehind_79 : decode cX0_weaveBehind 79 = .ok (.iload_n 1, 1) := by decide +kernel
theorem dX0_weaveBehind_80 : decode cX0_weaveBehind 80 = .ok (.iconst 2, 1) := by decide +kernel
theorem dX0_weaveBehind_81 : decode cX0_weaveBehind 81 = .ok (.iadd, 1) := by decide +kernel
theorem dX0_weaveBehind_82 : decode cX0_weaveBehind 82 = .ok (.lload 6, 2) := by decide +kernel
theorem dX0_weaveBehind_84 : decode cX0_weaveBehind 84 = .ok (.lload 8, 2) := by decide +kernel
theorem dX0_weaveBehind_86 : decode cX0_weaveBehind 86 = .ok (.invokestatic 100, 3) := by decide +kernel
theorem dX0_weaveBehind_89 : decode cX0_weaveBehind 89 = .ok (.lsub, 1) := by decide +kernel
theorem dX0_weaveBehind_90 : decode cX0_weaveBehind 90 = .ok (.lload 4, 2) := by decide +kernel
theorem dX0_weaveBehind_92 : decode cX0_weaveBehind 92 = .ok (.invokestatic 100, 3) := by decide +kernel
theorem dX0_weaveBehind_95 : decode cX0_weaveBehind 95 = .ok (.lload 10, 2) := by decide +kernel
theorem dX0_weaveBehind_97 : decode cX0_weaveBehind 97 = .ok (.lsub, 1) := by decide +kernel
theorem dX0_weaveBehind_98 : decode cX0_weaveBehind 98 = .ok (.invokestatic 100, 3) := by decide +kernel
theorem dX0_weaveBehind_101 : decode cX0_weaveBehind 101 = .ok (.lsub, 1) := by decide +kernel
theorem dX0_weaveBehind_102 : decode cX0_weaveBehind 102 = .ok (.lastore, 1) := by decide +kernel
theorem dX0_weaveBehind_103 : decode cX0_weaveBehind 103 = .ok (.aload_n 0, 1) := by decide +kernel
theorem dX0_weaveBehind_104 : decode cX0_weaveBehind 104 = .ok (.iload_n 1, 1) := by decide +kernel
theorem dX0_weaveBehind_105 : decode cX0_weaveBehind 105 = .ok (.iconst 3, 1) := by decide +kernel
theorem dX0_weaveBehind_106 : decode cX0_weaveBehind 106 = .ok (.iadd, 1) := by decide +kernel
theorem dX0_weaveBehind_107 : decode cX0_weaveBehind 107 = .ok (.lload 4, 2) := by decide +kernel
theorem dX0_weaveBehind_109 : decode cX0_weaveBehind 109 = .ok (.lload 10, 2) := by decide +kernel
theorem dX0_weaveBehind_111 : decode cX0_weaveBehind 111 = .ok (.invokestatic 100, 3) := by decide +kernel
theorem dX0_weaveBehind_114 : decode cX0_weaveBehind 114 = .ok (.lsub, 1) := by decide +kernel
theorem dX0_weaveBehind_115 : decode cX0_weaveBehind 115 = .ok (.lastore, 1) := by decide +kernel
theorem dX0_weaveBehind_116 : decode cX0_weaveBehind 116 = .ok (.return_, 1) := by decide +kernel
set_option maxHeartbeats 4000000 in
set_option maxRecDepth 100000 in
/-- X0_weaveBehind -/
theorem kX0_weaveBehind (l : Launch) (D : va_G) (G : tyG) (z35 : Nat) (sz : Nat) : Met l yX0_weaveBehind wsX0_weaveBehind ({ frames := 2, cells := 0, slots := 0, locals := 53 }) (va_Pc [.ref z35, .int 0] (wB D G sz [(z35, .inl (G.2.1, 10, .inr (.inl (tL [0, 1, 0, 1, 0, 1, 0, 1, 0, 1]))))])) (va_Qv (fun _ : Unit => True) (fun _ _ => True) (va_A [(z35, .inl (G.2.1, 10, .inr (.inl (tL [0, 1, 0, 1, 0, 1, 0, 1, 0, 1]))))] sz)) 0 0 (va_A [(z35, .inl (G.2.1, 10, .inr (.inl (tL [0, 1, 0, 1, 0, 1, 0, 1, 0, 1]))))] sz) := by
  refine Met.ofW (cc := cX0_weaveBehind) (maxL := 12) (ret := none) (by decide) rfl ?_
  intro p e s m args below meth c s₁ B hml hv
  obtain ⟨rfl, hsz, hP, hK, hD0, hN⟩ := hv
  have hx := B.exec
  have hb := B.bytes
  have hr := B.returns
  have hts := atoms_spec (ws := wsX0_weaveBehind) B.pre
  have hown : s.vm.findClass RX0 = some m.cls := findClass_of_methodNamed B.named
  have hlocks := B.notSynchronized
  subst hsz
  have hD := hD0.self (sz := s.heap.size)
  generalize hAe : va_A [(z35, .inl (G.2.1, 10, .inr (.inl (tL [0, 1, 0, 1, 0, 1, 0, 1, 0, 1]))))] s.heap.size = A at hD ⊢
  have hA : ∀ q : Nat, s.heap.size ≤ q → A q := fun q h => by rw [← hAe]; exact Or.inr h
  have hS : va_S A s.heap s.heap [] := va_S.rf
  have hP : va_P D vwCl [(z35, .inl (G.2.1, 10, .inr (.inl (tL [0, 1, 0, 1, 0, 1, 0, 1, 0, 1]))))] s.heap := hP
  have hl := lv_entry ([.ref z35, .int 0]) (n := 12) (Nat.le_of_ble_eq_true rfl)
  rw [lg_entry_eq]
  generalize (lg_sl ([.ref z35, .int 0]) ++ List.replicate (12 - (lg_sl ([.ref z35, .int 0])).length) Slot.unset).toArray = ls at hl ⊢
  have hl : lv_has ls 12 [(0, .ref z35), (1, .int 0)] := hl
  refine lv_aload_n hx hb dX0_weaveBehind_0 rfl (lv_at hl 0 rfl) ?_
  refine lv_iload_n hx hb dX0_weaveBehind_1 rfl (lv_at hl 1 rfl) ?_
  refine va_lald hx hb hK hP 0 1 rfl rfl (wk_in rfl) dX0_weaveBehind_2 ?_
  refine wk_l 0 rfl ?_
  refine lv_lstore_n (lv' := [(2, .long 0), (0, .ref z35), (1, .int 0)]) hx hb dX0_weaveBehind_3 rfl hl (by decide) rfl (fun ls hl => ?_)
  refine lv_aload_n hx hb dX0_weaveBehind_4 rfl (lv_at hl 1 rfl) ?_
  refine lv_iload_n hx hb dX0_weaveBehind_5 rfl (lv_at hl 2 rfl) ?_
  refine lv_iconst (v := 1) hx hb dX0_weaveBehind_6 (by decide) ?_
  refine lv_iadd hx hb dX0_weaveBehind_7 ?_
  refine wk_i 1 (by decide) ?_
  refine va_lald hx hb hK hP 0 1 rfl rfl (wk_in rfl) dX0_weaveBehind_8 ?_
  refine wk_l 1 rfl ?_
  refine lv_lstore (lv' := [(4, .long 1), (2, .long 0), (0, .ref z35), (1, .int 0)]) hx hb dX0_weaveBehind_9 hl (by decide) rfl (fun ls hl => ?_)
  refine lv_aload_n hx hb dX0_weaveBehind_11 rfl (lv_at hl 2 rfl) ?_
  refine lv_iload_n hx hb dX0_weaveBehind_12 rfl (lv_at hl 3 rfl) ?_
  refine lv_iconst (v := 2) hx hb dX0_weaveBehind_13 (by decide) ?_
  refine lv_iadd hx hb dX0_weaveBehind_14 ?_
  refine wk_i 2 (by decide) ?_
  refine va_lald hx hb hK hP 0 1 rfl rfl (wk_in rfl) dX0_weaveBehind_15 ?_
  refine wk_l 0 rfl ?_
  refine lv_lstore (lv' := [(6, .long 0), (4, .long 1), (2, .long 0), (0, .ref z35), (1, .int 0)]) hx hb dX0_weaveBehind_16 hl (by decide) rfl (fun ls hl => ?_)
  refine lv_aload_n hx hb dX0_weaveBehind_18 rfl (lv_at hl 3 rfl) ?_
  refine lv_iload_n hx hb dX0_weaveBehind_19 rfl (lv_at hl 4 rfl) ?_
  refine lv_iconst (v := 3) hx hb dX0_weaveBehind_20 (by decide) ?_
  refine lv_iadd hx hb dX0_weaveBehind_21 ?_
  refine wk_i 3 (by decide) ?_
  refine va_lald hx hb hK hP 0 1 rfl rfl (wk_in rfl) dX0_weaveBehind_22 ?_
  refine wk_l 1 rfl ?_
  refine lv_lstore (lv' := [(8, .long 1), (6, .long 0), (4, .long 1), (2, .long 0), (0, .ref z35), (1, .int 0)]) hx hb dX0_weaveBehind_23 hl (by decide) rfl (fun ls hl => ?_)
  refine lv_lload_n hx hb dX0_weaveBehind_25 rfl (lv_at hl 3 rfl) ?_
  refine lv_lload hx hb dX0_weaveBehind_26 (lv_at hl 2 rfl) ?_
  have hPc := hP.sub (ws' := []) [] rfl
  have hDc := hD.sub (ws' := []) [] (by decide) rfl
  have hFc := va_free (wc := []) hD hS hA [] rfl
  refine va_calll (va_runS (As := [.long 1]) (rest := [.long 0]) ⟨hx, hb, hml, hown, hts⟩ (kX0_minus l D G 1 s.heap.size) (va_cwS 1 hts gX0_weaveBehind_X0_minus rfl rfl rfl (by decide +kernel) ⟨Nat.le_of_ble_eq_true rfl, Nat.le_of_ble_eq_true rfl⟩) ⟨wB_blind, wB_pre hPc hK hDc hN⟩ rfl rfl hl.1 rfl (lv_room (Nat.le_of_ble_eq_true rfl)) dX0_weaveBehind_28 ⟨Nat.le_of_ble_eq_true rfl, Nat.le_of_ble_eq_true rfl⟩) hS (fun q _ h => hFc q h) hFc (fun r1 u t H1 locs ht hvm hr1 hB hz1 hk1 hS => ?_)
  obtain ⟨hP, hD⟩ := va_join (wr := [(z35, .inl (G.2.1, 10, .inr (.inl (tL [0, 1, 0, 1, 0, 1, 0, 1, 0, 1]))))]) (w1 := []) hP hD [] [0] rfl rfl (by decide) (by decide) hk1 hFc wP_nil wD_nil
  clear hPc hDc
  generalize H1 = H at hP hS ⊢
  have hP : va_P D vwCl [(z35, .inl (G.2.1, 10, .inr (.inl (tL [0, 1, 0, 1, 0, 1, 0, 1, 0, 1]))))] H := hP
  have hD : va_D A [(z35, .inl (G.2.1, 10, .inr (.inl (tL [0, 1, 0, 1, 0, 1, 0, 1, 0, 1]))))] := hD
  obtain rfl : r1 = 0 := by rw [hr1]; decide
  refine lv_ladd hx hb dX0_weaveBehind_31 ?_
  refine wk_l 0 (by decide) ?_
  refine lv_lload hx hb dX0_weaveBehind_32 (lv_at hl 1 rfl) ?_
  refine lv_lsub hx hb dX0_weaveBehind_34 ?_
  refine wk_l 0 (by decide) ?_
  refine lv_lload hx hb dX0_weaveBehind_35 (lv_at hl 0 rfl) ?_
  have hPc := hP.sub (ws' := []) [] rfl
  have hDc := hD.sub (ws' := []) [] (by decide) rfl
  have hFc := va_free (wc := []) hD hS hA [] rfl
  refine va_calll (va_runS (As := [.long 1]) (rest := [.long 0]) ⟨hx, hb, hml, hown, hts⟩ (kX0_plus l D G 1 H.size) (va_cwS 1 hts gX0_weaveBehind_X0_plus rfl rfl rfl (by decide +kernel) ⟨Nat.le_of_ble_eq_true rfl, Nat.le_of_ble_eq_true rfl⟩) ⟨wB_blind, wB_pre hPc hK hDc hN⟩ rfl rfl hl.1 rfl (lv_room (Nat.le_of_ble_eq_true rfl)) dX0_weaveBehind_37 ⟨Nat.le_of_ble_eq_true rfl, Nat.le_of_ble_eq_true rfl⟩) hS (fun q _ h => hFc q h) hFc (fun r2 u t H1 locs ht hvm hr2 hB hz1 hk1 hS => ?_)
  obtain ⟨hP, hD⟩ := va_join (wr := [(z35, .inl (G.2.1, 10, .inr (.inl (tL [0, 1, 0, 1, 0, 1, 0, 1, 0, 1]))))]) (w1 := []) hP hD [] [0] rfl rfl (by decide) (by decide) hk1 hFc wP_nil wD_nil
  clear hPc hDc
  generalize H1 = H at hP hS ⊢
  have hP : va_P D vwCl [(z35, .inl (G.2.1, 10, .inr (.inl (tL [0, 1, 0, 1, 0, 1, 0, 1, 0, 1]))))] H := hP
  have hD : va_D A [(z35, .inl (G.2.1, 10, .inr (.inl (tL [0, 1, 0, 1, 0, 1, 0, 1, 0, 1]))))] := hD
  obtain rfl : r2 = 1 := by rw [hr2]; decide
  refine lv_lsub hx hb dX0_weaveBehind_40 ?_
  refine wk_l (-1) (by decide) ?_
  refine lv_lstore (lv' := [(10, .long (-1)), (8, .long 1), (6, .long 0), (4, .long 1), (2, .long 0), (0, .ref z35), (1, .int 0)]) hx hb dX0_weaveBehind_41 hl (by decide) rfl (fun ls hl => ?_)
  refine lv_aload_n hx hb dX0_weaveBehind_43 rfl (lv_at hl 5 rfl) ?_
  refine lv_iload_n hx hb dX0_weaveBehind_44 rfl (lv_at hl 6 rfl) ?_
  refine lv_lload_n hx hb dX0_weaveBehind_45 rfl (lv_at hl 4 rfl) ?_
  refine lv_lload hx hb dX0_weaveBehind_46 (lv_at hl 3 rfl) ?_
  have hPc := hP.sub (ws' := []) [] rfl
  have hDc := hD.sub (ws' := []) [] (by decide) rfl
  have hFc := va_free (wc := []) hD hS hA [] rfl
  refine va_calll (va_runS (As := [.long 1]) (rest := [.long 0, .int 0, .ref z35]) ⟨hx, hb, hml, hown, hts⟩ (kX0_plus l D G 1 H.size) (va_cwS 1 hts gX0_weaveBehind_X0_plus rfl rfl rfl (by decide +kernel) ⟨Nat.le_of_ble_eq_true rfl, Nat.le_of_ble_eq_true rfl⟩) ⟨wB_blind, wB_pre hPc hK hDc hN⟩ rfl rfl hl.1 rfl (lv_room (Nat.le_of_ble_eq_true rfl)) dX0_weaveBehind_48 ⟨Nat.le_of_ble_eq_true rfl, Nat.le_of_ble_eq_true rfl⟩) hS (fun q _ h => hFc q h) hFc (fun r3 u t H1 locs ht hvm hr3 hB hz1 hk1 hS => ?_)
  obtain ⟨hP, hD⟩ := va_join (wr := [(z35, .inl (G.2.1, 10, .inr (.inl (tL [0, 1, 0, 1, 0, 1, 0, 1, 0, 1]))))]) (w1 := []) hP hD [] [0] rfl rfl (by decide) (by decide) hk1 hFc wP_nil wD_nil
  clear hPc hDc
  generalize H1 = H at hP hS ⊢
  have hP : va_P D vwCl [(z35, .inl (G.2.1, 10, .inr (.inl (tL [0, 1, 0, 1, 0, 1, 0, 1, 0, 1]))))] H := hP
  have hD : va_D A [(z35, .inl (G.2.1, 10, .inr (.inl (tL [0, 1, 0, 1, 0, 1, 0, 1, 0, 1]))))] := hD
  obtain rfl : r3 = 1 := by rw [hr3]; decide
  refine lv_lsub hx hb dX0_weaveBehind_51 ?_
  refine wk_l (-1) (by decide) ?_
  refine lv_lload hx hb dX0_weaveBehind_52 (lv_at hl 1 rfl) ?_
  have hPc := hP.sub (ws' := []) [] rfl
  have hDc := hD.sub (ws' := []) [] (by decide) rfl
  have hFc := va_free (wc := []) hD hS hA [] rfl
  refine va_calll (va_runS (As := [.long 1]) (rest := [.long (-1), .int 0, .ref z35]) ⟨hx, hb, hml, hown, hts⟩ (kX0_plus l D G 1 H.size) (va_cwS 1 hts gX0_weaveBehind_X0_plus rfl rfl rfl (by decide +kernel) ⟨Nat.le_of_ble_eq_true rfl, Nat.le_of_ble_eq_true rfl⟩) ⟨wB_blind, wB_pre hPc hK hDc hN⟩ rfl rfl hl.1 rfl (lv_room (Nat.le_of_ble_eq_true rfl)) dX0_weaveBehind_54 ⟨Nat.le_of_ble_eq_true rfl, Nat.le_of_ble_eq_true rfl⟩) hS (fun q _ h => hFc q h) hFc (fun r4 u t H1 locs ht hvm hr4 hB hz1 hk1 hS => ?_)
  obtain ⟨hP, hD⟩ := va_join (wr := [(z35, .inl (G.2.1, 10, .inr (.inl (tL [0, 1, 0, 1, 0, 1, 0, 1, 0, 1]))))]) (w1 := []) hP hD [] [0] rfl rfl (by decide) (by decide) hk1 hFc wP_nil wD_nil
  clear hPc hDc
  generalize H1 = H at hP hS ⊢
  have hP : va_P D vwCl [(z35, .inl (G.2.1, 10, .inr (.inl (tL [0, 1, 0, 1, 0, 1, 0, 1, 0, 1]))))] H := hP
  have hD : va_D A [(z35, .inl (G.2.1, 10, .inr (.inl (tL [0, 1, 0, 1, 0, 1, 0, 1, 0, 1]))))] := hD
  obtain rfl : r4 = 1 := by rw [hr4]; decide
  refine lv_lload hx hb dX0_weaveBehind_57 (lv_at hl 0 rfl) ?_
  refine lv_ladd hx hb dX0_weaveBehind_59 ?_
  refine wk_l 0 (by decide) ?_
  have hPc := hP.sub (ws' := []) [] rfl
  have hDc := hD.sub (ws' := []) [] (by decide) rfl
  have hFc := va_free (wc := []) hD hS hA [] rfl
  refine va_calll (va_runS (As := [.long 0]) (rest := [.long (-1), .int 0, .ref z35]) ⟨hx, hb, hml, hown, hts⟩ (kX0_plus l D G 0 H.size) (va_cwS 1 hts gX0_weaveBehind_X0_plus rfl rfl rfl (by decide +kernel) ⟨Nat.le_of_ble_eq_true rfl, Nat.le_of_ble_eq_true rfl⟩) ⟨wB_blind, wB_pre hPc hK hDc hN⟩ rfl rfl hl.1 rfl (lv_room (Nat.le_of_ble_eq_true rfl)) dX0_weaveBehind_60 ⟨Nat.le_of_ble_eq_true rfl, Nat.le_of_ble_eq_true rfl⟩) hS (fun q _ h => hFc q h) hFc (fun r5 u t H1 locs ht hvm hr5 hB hz1 hk1 hS => ?_)
  obtain ⟨hP, hD⟩ := va_join (wr := [(z35, .inl (G.2.1, 10, .inr (.inl (tL [0, 1, 0, 1, 0, 1, 0, 1, 0, 1]))))]) (w1 := []) hP hD [] [0] rfl rfl (by decide) (by decide) hk1 hFc wP_nil wD_nil
  clear hPc hDc
  generalize H1 = H at hP hS ⊢
  have hP : va_P D vwCl [(z35, .inl (G.2.1, 10, .inr (.inl (tL [0, 1, 0, 1, 0, 1, 0, 1, 0, 1]))))] H := hP
  have hD : va_D A [(z35, .inl (G.2.1, 10, .inr (.inl (tL [0, 1, 0, 1, 0, 1, 0, 1, 0, 1]))))] := hD
  obtain rfl : r5 = 0 := by rw [hr5]; decide
  refine lv_lsub hx hb dX0_weaveBehind_63 ?_
  refine wk_l (-1) (by decide) ?_
  refine va_last hx hb hK hP hD hS 0 1 rfl rfl (wk_in rfl) dX0_weaveBehind_64 (fun H locs hP hD hS => ?_)
  have hP : va_P D vwCl [(z35, .inl (G.2.1, 10, .inr (.inl (vp_updL (tL [0, 1, 0, 1, 0, 1, 0, 1, 0, 1]) 0 (-1)))))] H := hP
  have hD : va_D A [(z35, .inl (G.2.1, 10, .inr (.inl (vp_updL (tL [0, 1, 0, 1, 0, 1, 0, 1, 0, 1]) 0 (-1)))))] := hD
  refine lv_aload_n hx hb dX0_weaveBehind_65 rfl (lv_at hl 5 rfl) ?_
  refine lv_iload_n hx hb dX0_weaveBehind_66 rfl (lv_at hl 6 rfl) ?_
  refine lv_iconst (v := 1) hx hb dX0_weaveBehind_67 (by decide) ?_
  refine lv_iadd hx hb dX0_weaveBehind_68 ?_
  refine wk_i 1 (by decide) ?_
  refine lv_lload hx hb dX0_weaveBehind_69 (lv_at hl 1 rfl) ?_
  refine lv_lload hx hb dX0_weaveBehind_71 (lv_at hl 0 rfl) ?_
  have hPc := hP.sub (ws' := []) [] rfl
  have hDc := hD.sub (ws' := []) [] (by decide) rfl
  have hFc := va_free (wc := []) hD hS hA [] rfl
  refine va_calll (va_runS (As := [.long (-1)]) (rest := [.long 1, .int 1, .ref z35]) ⟨hx, hb, hml, hown, hts⟩ (kX0_minus l D G (-1) H.size) (va_cwS 1 hts gX0_weaveBehind_X0_minus rfl rfl rfl (by decide +kernel) ⟨Nat.le_of_ble_eq_true rfl, Nat.le_of_ble_eq_true rfl⟩) ⟨wB_blind, wB_pre hPc hK hDc hN⟩ rfl rfl hl.1 rfl (lv_room (Nat.le_of_ble_eq_true rfl)) dX0_weaveBehind_73 ⟨Nat.le_of_ble_eq_true rfl, Nat.le_of_ble_eq_true rfl⟩) hS (fun q _ h => hFc q h) hFc (fun r6 u t H1 locs ht hvm hr6 hB hz1 hk1 hS => ?_)
  obtain ⟨hP, hD⟩ := va_join (wr := [(z35, .inl (G.2.1, 10, .inr (.inl (vp_updL (tL [0, 1, 0, 1, 0, 1, 0, 1, 0, 1]) 0 (-1)))))]) (w1 := []) hP hD [] [0] rfl rfl (by decide) (by decide) hk1 hFc wP_nil wD_nil
  clear hPc hDc
  generalize H1 = H at hP hS ⊢
  have hP : va_P D vwCl [(z35, .inl (G.2.1, 10, .inr (.inl (vp_updL (tL [0, 1, 0, 1, 0, 1, 0, 1, 0, 1]) 0 (-1)))))] H := hP
  have hD : va_D A [(z35, .inl (G.2.1, 10, .inr (.inl (vp_updL (tL [0, 1, 0, 1, 0, 1, 0, 1, 0, 1]) 0 (-1)))))] := hD
  obtain rfl : r6 = (-1) := by rw [hr6]; decide
  refine lv_ladd hx hb dX0_weaveBehind_76 ?_
  refine wk_l 0 (by decide) ?_
  refine va_last hx hb hK hP hD hS 0 1 rfl rfl (wk_in rfl) dX0_weaveBehind_77 (fun H locs hP hD hS => ?_)
  have hP : va_P D vwCl [(z35, .inl (G.2.1, 10, .inr (.inl (vp_updL (vp_updL (tL [0, 1, 0, 1, 0, 1, 0, 1, 0, 1]) 0 (-1)) 1 0))))] H := hP
  have hD : va_D A [(z35, .inl (G.2.1, 10, .inr (.inl (vp_updL (vp_updL (tL [0, 1, 0, 1, 0, 1, 0, 1, 0, 1]) 0 (-1)) 1 0))))] := hD
  refine lv_aload_n hx hb dX0_weaveBehind_78 rfl (lv_at hl 5 rfl) ?_
  refine lv_iload_n hx hb dX0_weaveBehind_79 rfl (lv_at hl 6 rfl) ?_
  refine lv_iconst (v := 2) hx hb dX0_weaveBehind_80 (by decide) ?_
  refine lv_iadd hx hb dX0_weaveBehind_81 ?_
  refine wk_i 2 (by decide) ?_
  refine lv_lload hx hb dX0_weaveBehind_82 (lv_at hl 2 rfl) ?_
  refine lv_lload hx hb dX0_weaveBehind_84 (lv_at hl 1 rfl) ?_
  have hPc := hP.sub (ws' := []) [] rfl
  have hDc := hD.sub (ws' := []) [] (by decide) rfl
  have hFc := va_free (wc := []) hD hS hA [] rfl
  refine va_calll (va_runS (As := [.long 1]) (rest := [.long 0, .int 2, .ref z35]) ⟨hx, hb, hml, hown, hts⟩ (kX0_minus l D G 1 H.size) (va_cwS 1 hts gX0_weaveBehind_X0_minus rfl rfl rfl (by decide +kernel) ⟨Nat.le_of_ble_eq_true rfl, Nat.le_of_ble_eq_true rfl⟩) ⟨wB_blind, wB_pre hPc hK hDc hN⟩ rfl rfl hl.1 rfl (lv_room (Nat.le_of_ble_eq_true rfl)) dX0_weaveBehind_86 ⟨Nat.le_of_ble_eq_true rfl, Nat.le_of_ble_eq_true rfl⟩) hS (fun q _ h => hFc q h) hFc (fun r7 u t H1 locs ht hvm hr7 hB hz1 hk1 hS => ?_)
  obtain ⟨hP, hD⟩ := va_join (wr := [(z35, .inl (G.2.1, 10, .inr (.inl (vp_updL (vp_updL (tL [0, 1, 0, 1, 0, 1, 0, 1, 0, 1]) 0 (-1)) 1 0))))]) (w1 := []) hP hD [] [0] rfl rfl (by decide) (by decide) hk1 hFc wP_nil wD_nil
  clear hPc hDc
  generalize H1 = H at hP hS ⊢
  have hP : va_P D vwCl [(z35, .inl (G.2.1, 10, .inr (.inl (vp_updL (vp_updL (tL [0, 1, 0, 1, 0, 1, 0, 1, 0, 1]) 0 (-1)) 1 0))))] H := hP
  have hD : va_D A [(z35, .inl (G.2.1, 10, .inr (.inl (vp_updL (vp_updL (tL [0, 1, 0, 1, 0, 1, 0, 1, 0, 1]) 0 (-1)) 1 0))))] := hD
  obtain rfl : r7 = 0 := by rw [hr7]; decide
  refine lv_lsub hx hb dX0_weaveBehind_89 ?_
  refine wk_l 0 (by decide) ?_
  refine lv_lload hx hb dX0_weaveBehind_90 (lv_at hl 3 rfl) ?_
  have hPc := hP.sub (ws' := []) [] rfl
  have hDc := hD.sub (ws' := []) [] (by decide) rfl
  have hFc := va_free (wc := []) hD hS hA [] rfl
  refine va_calll (va_runS (As := [.long 1]) (rest := [.long 0, .int 2, .ref z35]) ⟨hx, hb, hml, hown, hts⟩ (kX0_minus l D G 1 H.size) (va_cwS 1 hts gX0_weaveBehind_X0_minus rfl rfl rfl (by decide +kernel) ⟨Nat.le_of_ble_eq_true rfl, Nat.le_of_ble_eq_true rfl⟩) ⟨wB_blind, wB_pre hPc hK hDc hN⟩ rfl rfl hl.1 rfl (lv_room (Nat.le_of_ble_eq_true rfl)) dX0_weaveBehind_92 ⟨Nat.le_of_ble_eq_true rfl, Nat.le_of_ble_eq_true rfl⟩) hS (fun q _ h => hFc q h) hFc (fun r8 u t H1 locs ht hvm hr8 hB hz1 hk1 hS => ?_)
  obtain ⟨hP, hD⟩ := va_join (wr := [(z35, .inl (G.2.1, 10, .inr (.inl (vp_updL (vp_updL (tL [0, 1, 0, 1, 0, 1, 0, 1, 0, 1]) 0 (-1)) 1 0))))]) (w1 := []) hP hD [] [0] rfl rfl (by decide) (by decide) hk1 hFc wP_nil wD_nil
  clear hPc hDc
  generalize H1 = H at hP hS ⊢
  have hP : va_P D vwCl [(z35, .inl (G.2.1, 10, .inr (.inl (vp_updL (vp_updL (tL [0, 1, 0, 1, 0, 1, 0, 1, 0, 1]) 0 (-1)) 1 0))))] H := hP
  have hD : va_D A [(z35, .inl (G.2.1, 10, .inr (.inl (vp_updL (vp_updL (tL [0, 1, 0, 1, 0, 1, 0, 1, 0, 1]) 0 (-1)) 1 0))))] := hD
  obtain rfl : r8 = 0 := by rw [hr8]; decide
  refine lv_lload hx hb dX0_weaveBehind_95 (lv_at hl 0 rfl) ?_
  refine lv_lsub hx hb dX0_weaveBehind_97 ?_
  refine wk_l 1 (by decide) ?_
  have hPc := hP.sub (ws' := []) [] rfl
  have hDc := hD.sub (ws' := []) [] (by decide) rfl
  have hFc := va_free (wc := []) hD hS hA [] rfl
  refine va_calll (va_runS (As := [.long 1]) (rest := [.long 0, .int 2, .ref z35]) ⟨hx, hb, hml, hown, hts⟩ (kX0_minus l D G 1 H.size) (va_cwS 1 hts gX0_weaveBehind_X0_minus rfl rfl rfl (by decide +kernel) ⟨Nat.le_of_ble_eq_true rfl, Nat.le_of_ble_eq_true rfl⟩) ⟨wB_blind, wB_pre hPc hK hDc hN⟩ rfl rfl hl.1 rfl (lv_room (Nat.le_of_ble_eq_true rfl)) dX0_weaveBehind_98 ⟨Nat.le_of_ble_eq_true rfl, Nat.le_of_ble_eq_true rfl⟩) hS (fun q _ h => hFc q h) hFc (fun r9 u t H1 locs ht hvm hr9 hB hz1 hk1 hS => ?_)
  obtain ⟨hP, hD⟩ := va_join (wr := [(z35, .inl (G.2.1, 10, .inr (.inl (vp_updL (vp_updL (tL [0, 1, 0, 1, 0, 1, 0, 1, 0, 1]) 0 (-1)) 1 0))))]) (w1 := []) hP hD [] [0] rfl rfl (by decide) (by decide) hk1 hFc wP_nil wD_nil
  clear hPc hDc
  generalize H1 = H at hP hS ⊢
  have hP : va_P D vwCl [(z35, .inl (G.2.1, 10, .inr (.inl (vp_updL (vp_updL (tL [0, 1, 0, 1, 0, 1, 0, 1, 0, 1]) 0 (-1)) 1 0))))] H := hP
  have hD : va_D A [(z35, .inl (G.2.1, 10, .inr (.inl (vp_updL (vp_updL (tL [0, 1, 0, 1, 0, 1, 0, 1, 0, 1]) 0 (-1)) 1 0))))] := hD
  obtain rfl : r9 = 0 := by rw [hr9]; decide
  refine lv_lsub hx hb dX0_weaveBehind_101 ?_
  refine wk_l 0 (by decide) ?_
  refine va_last hx hb hK hP hD hS 0 1 rfl rfl (wk_in rfl) dX0_weaveBehind_102 (fun H locs hP hD hS => ?_)
  have hP : va_P D vwCl [(z35, .inl (G.2.1, 10, .inr (.inl (vp_updL (vp_updL (vp_updL (tL [0, 1, 0, 1, 0, 1, 0, 1, 0, 1]) 0 (-1)) 1 0) 2 0))))] H := hP
  have hD : va_D A [(z35, .inl (G.2.1, 10, .inr (.inl (vp_updL (vp_updL (vp_updL (tL [0, 1, 0, 1, 0, 1, 0, 1, 0, 1]) 0 (-1)) 1 0) 2 0))))] := hD
  refine lv_aload_n hx hb dX0_weaveBehind_103 rfl (lv_at hl 5 rfl) ?_
  refine lv_iload_n hx hb dX0_weaveBehind_104 rfl (lv_at hl 6 rfl) ?_
  refine lv_iconst (v := 3) hx hb dX0_weaveBehind_105 (by decide) ?_
  refine lv_iadd hx hb dX0_weaveBehind_106 ?_
  refine wk_i 3 (by decide) ?_
  refine lv_lload hx hb dX0_weaveBehind_107 (lv_at hl 3 rfl) ?_
  refine lv_lload hx hb dX0_weaveBehind_109 (lv_at hl 0 rfl) ?_
  have hPc := hP.sub (ws' := []) [] rfl
  have hDc := hD.sub (ws' := []) [] (by decide) rfl
  have hFc := va_free (wc := []) hD hS hA [] rfl
  refine va_calll (va_runS (As := [.long (-1)]) (rest := [.long 1, .int 3, .ref z35]) ⟨hx, hb, hml, hown, hts⟩ (kX0_minus l D G (-1) H.size) (va_cwS 1 hts gX0_weaveBehind_X0_minus rfl rfl rfl (by decide +kernel) ⟨Nat.le_of_ble_eq_true rfl, Nat.le_of_ble_eq_true rfl⟩) ⟨wB_blind, wB_pre hPc hK hDc hN⟩ rfl rfl hl.1 rfl (lv_room (Nat.le_of_ble_eq_true rfl)) dX0_weaveBehind_111 ⟨Nat.le_of_ble_eq_true rfl, Nat.le_of_ble_eq_true rfl⟩) hS (fun q _ h => hFc q h) hFc (fun r10 u t H1 locs ht hvm hr10 hB hz1 hk1 hS => ?_)
  obtain ⟨hP, hD⟩ := va_join (wr := [(z35, .inl (G.2.1, 10, .inr (.inl (vp_updL (vp_updL (vp_updL (tL [0, 1, 0, 1, 0, 1, 0, 1, 0, 1]) 0 (-1)) 1 0) 2 0))))]) (w1 := []) hP hD [] [0] rfl rfl (by decide) (by decide) hk1 hFc wP_nil wD_nil
  clear hPc hDc
  generalize H1 = H at hP hS ⊢
  have hP : va_P D vwCl [(z35, .inl (G.2.1, 10, .inr (.inl (vp_updL (vp_updL (vp_updL (tL [0, 1, 0, 1, 0, 1, 0, 1, 0, 1]) 0 (-1)) 1 0) 2 0))))] H := hP
  have hD : va_D A [(z35, .inl (G.2.1, 10, .inr (.inl (vp_updL (vp_updL (vp_updL (tL [0, 1, 0, 1, 0, 1, 0, 1, 0, 1]) 0 (-1)) 1 0) 2 0))))] := hD
  obtain rfl : r10 = (-1) := by rw [hr10]; decide
  refine lv_lsub hx hb dX0_weaveBehind_114 ?_
  refine wk_l 2 (by decide) ?_
  refine va_last hx hb hK hP hD hS 0 1 rfl rfl (wk_in rfl) dX0_weaveBehind_115 (fun H locs hP hD hS => ?_)
  have hP : va_P D vwCl [(z35, .inl (G.2.1, 10, .inr (.inl (vp_updL (vp_updL (vp_updL (vp_updL (tL [0, 1, 0, 1, 0, 1, 0, 1, 0, 1]) 0 (-1)) 1 0) 2 0) 3 2))))] H := hP
  have hD : va_D A [(z35, .inl (G.2.1, 10, .inr (.inl (vp_updL (vp_updL (vp_updL (vp_updL (tL [0, 1, 0, 1, 0, 1, 0, 1, 0, 1]) 0 (-1)) 1 0) 2 0) 3 2))))] := hD
  exact W.vret hx hb hr (fun t ht hW => ⟨⟨(), rfl, trivial, trivial⟩, hS.F ht⟩) hS.2.2 dX0_weaveBehind_116

theorem mX0_weave_w0 : Cond.methodLink RX0 58 Lib.Math.abs.name ∈ wsX0_weave := by decide +kernel
theorem mX0_weave_w1 : Cond.static Lib.Math.abs.name ∈ wsX0_weave := by decide +kernel
theorem mX0_weave_w2 : Cond.initialized "java/lang/Math" ∈ wsX0_weave := by decide +kernel
theorem mX0_weave_w3 : Cond.code Lib.Math.abs.name Lib.Math.abs.code 1 (some .int) ∈ wsX0_weave := by decide +kernel
set_option maxRecDepth 20000 in
theorem ggX0_weave_X0_weaveBefore : GoodIn wsX0_weave wsX0_weaveBefore := goodIn_r _ [8, 9, 10, 7, 11, 12, 13, 3, 14, 15, 16, 17, 18, 19, 20] (by decide +kernel) (by decide +kernel)
set_option maxRecDepth 20000 in
theorem gX0_weave_X0_weaveBefore : GoodIn wsX0_weave (va_wsS RX0 94 yX0_weaveBefore wsX0_weaveBefore) := goodIn_app (goodIn_of _ (by decide +kernel)) ggX0_weave_X0_weaveBefore
theorem dX0_weave_0 : decode cX0_weave 0 = .ok (.iconst 2, 1) := by decide +kernel
theorem dX0_weave_1 : decode cX0_weave 1 = .ok (.iload_n 1, 1) := by decide +kernel
theorem dX0_weave_2 : decode cX0_weave 2 = .ok (.invokestatic 58, 3) := by decide +kernel
theorem dX0_weave_5 : decode cX0_weave 5 = .ok (.iconst 1, 1) := by decide +kernel
theorem dX0_weave_6 : decode cX0_weave 6 = .ok (.isub, 1) := by decide +kernel
theorem dX0_weave_7 : decode cX0_weave 7 = .ok (.imul, 1) := by decide +kernel
theorem dX0_weave_8 : decode cX0_weave 8 = .ok (.istore_n 2, 1) := by decide +kernel
theorem dX0_weave_9 : decode cX0_weave 9 = .ok (.iload_n 2, 1) := by decide +kernel
theorem dX0_weave_10 : decode cX0_weave 10 = .ok (.ifCond .lt 11, 3) := by decide +kernel
theorem dX0_weave_13 : decode cX0_weave 13 = .ok (.iload_n 2, 1) := by decide +kernel
theorem dX0_weave_14 : decode cX0_weave 14 = .ok (.iconst 3, 1) := by decide +kernel
theorem dX0_weave_15 : decode cX0_weave 15 = .ok (.iadd, 1) := by decide +kernel
theorem dX0_weave_16 : decode cX0_weave 16 = .ok (.aload_n 0, 1) := by decide +kernel
theorem dX0_weave_17 : decode cX0_weave 17 = .ok (.arraylength, 1) := by decide +kernel
theorem dX0_weave_18 : decode cX0_weave 18 = .ok (.if_icmp .lt 4, 3) := by decide +kernel
theorem dX0_weave_22 : decode cX0_weave 22 = .ok (.iload_n 1, 1) := by decide +kernel
theorem dX0_weave_23 : decode cX0_weave 23 = .ok (.ifCond .le 11, 3) := by decide +kernel
theorem dX0_weave_26 : decode cX0_weave 26 = .ok (.aload_n 0, 1) := by decide +kernel
theorem dX0_weave_27 : decode cX0_weave 27 = .ok (.iload_n 2, 1) := by decide +kernel
theorem dX0_weave_28 : decode cX0_weave 28 = .ok (.invokestatic 94, 3) := by decide +kernel
theorem dX0_weave_31 : decode cX0_weave 31 = .ok (.goto 8, 3) := by decide +kernel
theorem dX0_weave_39 : decode cX0_weave 39 = .ok (.return_, 1) := by decide +kernel
set_option maxHeartbeats 4000000 in
set_option maxRecDepth 100000 in
/-- X0_weave -/
theorem kX0_weave_1 (l : Launch) (D : va_G) (G : tyG) (z35 : Nat) (sz : Nat) : Met l yX0_weave wsX0_weave ({ frames := 3, cells := 0, slots := 0, locals := 84 }) (va_Pc [.ref z35, .int 1] (wB D G sz [(z35, .inl (G.2.1, 10, .inr (.inl (tL [0, 1, 0, 1, 0, 1, 0, 1, 0, 1]))))])) (va_Qv (fun _ : Unit => True) (fun _ _ => True) (va_A [(z35, .inl (G.2.1, 10, .inr (.inl (tL [0, 1, 0, 1, 0, 1, 0, 1, 0, 1]))))] sz)) 0 0 (va_A [(z35, .inl (G.2.1, 10, .inr (.inl (tL [0, 1, 0, 1, 0, 1, 0, 1, 0, 1]))))] sz) := by
  refine Met.ofW (cc := cX0_weave) (maxL := 3) (ret := none) (by decide) rfl ?_
  intro p e s m args below meth c s₁ B hml hv
  obtain ⟨rfl, hsz, hP, hK, hD0, hN⟩ := hv
  have hx := B.exec
  have hb := B.bytes
  have hr := B.returns
  have hts := atoms_spec (ws := wsX0_weave) B.pre
  have hown : s.vm.findClass RX0 = some m.cls := findClass_of_methodNamed B.named
  have hlocks := B.notSynchronized
  subst hsz
  have hD := hD0.self (sz := s.heap.size)
  generalize hAe : va_A [(z35, .inl (G.2.1, 10, .inr (.inl (tL [0, 1, 0, 1, 0, 1, 0, 1, 0, 1]))))] s.heap.size = A at hD ⊢
  have hA : ∀ q : Nat, s.heap.size ≤ q → A q := fun q h => by rw [← hAe]; exact Or.inr h
  have hS : va_S A s.heap s.heap [] := va_S.rf
  have hP : va_P D vwCl [(z35, .inl (G.2.1, 10, .inr (.inl (tL [0, 1, 0, 1, 0, 1, 0, 1, 0, 1]))))] s.heap := hP
  have hl := lv_entry ([.ref z35, .int 1]) (n := 3) (Nat.le_of_ble_eq_true rfl)
  rw [lg_entry_eq]
  generalize (lg_sl ([.ref z35, .int 1]) ++ List.replicate (3 - (lg_sl ([.ref z35, .int 1])).length) Slot.unset).toArray = ls at hl ⊢
  have hl : lv_has ls 3 [(0, .ref z35), (1, .int 1)] := hl
  refine lv_iconst (v := 2) hx hb dX0_weave_0 (by decide) ?_
  refine lv_iload_n hx hb dX0_weave_1 rfl (lv_at hl 1 rfl) ?_
  refine va_mabs hx hb (by rw [hml]; exact hl.1.symm) hown (hts (.methodLink RX0 58 Lib.Math.abs.name) mX0_weave_w0) (hts (.static Lib.Math.abs.name) mX0_weave_w1) (hts (.initialized "java/lang/Math") mX0_weave_w2) (hts (.code Lib.Math.abs.name Lib.Math.abs.code 1 (some .int)) mX0_weave_w3) (Nat.le_of_ble_eq_true rfl) (Nat.le_of_ble_eq_true rfl) (Nat.le_of_ble_eq_true rfl) (Nat.le_of_ble_eq_true rfl) dX0_weave_2 ?_
  refine wk_i 1 (by decide) ?_
  refine lv_iconst (v := 1) hx hb dX0_weave_5 (by decide) ?_
  refine lv_isub hx hb dX0_weave_6 ?_
  refine wk_i 0 (by decide) ?_
  refine lv_imul hx hb dX0_weave_7 ?_
  refine wk_i 0 (by decide) ?_
  refine lv_istore_n (lv' := [(2, .int 0), (0, .ref z35), (1, .int 1)]) hx hb dX0_weave_8 rfl hl (by decide) rfl (fun ls hl => ?_)
  refine lv_iload_n hx hb dX0_weave_9 rfl (lv_at hl 0 rfl) ?_
  refine lv_if_lt (tgt := 21) hx hb dX0_weave_10 (by decide) (fun h9 => absurd h9 (by decide)) (fun _ => ?_)
  refine lv_iload_n hx hb dX0_weave_13 rfl (lv_at hl 0 rfl) ?_
  refine lv_iconst (v := 3) hx hb dX0_weave_14 (by decide) ?_
  refine lv_iadd hx hb dX0_weave_15 ?_
  refine wk_i 3 (by decide) ?_
  refine lv_aload_n hx hb dX0_weave_16 rfl (lv_at hl 1 rfl) ?_
  refine va_alen (v := 10) hx hb hK hP 0 1 rfl rfl rfl dX0_weave_17 ?_
  refine lv_icmp_lt (tgt := 22) hx hb dX0_weave_18 (by decide) (fun _ => ?_) (fun h9 => absurd h9 (by decide))
  refine lv_iload_n hx hb dX0_weave_22 rfl (lv_at hl 2 rfl) ?_
  refine lv_if_le (tgt := 34) hx hb dX0_weave_23 (by decide) (fun h9 => absurd h9 (by decide)) (fun _ => ?_)
  refine lv_aload_n hx hb dX0_weave_26 rfl (lv_at hl 1 rfl) ?_
  refine lv_iload_n hx hb dX0_weave_27 rfl (lv_at hl 0 rfl) ?_
  have hPc := hP.sub (ws' := [(z35, .inl (G.2.1, 10, .inr (.inl (tL [0, 1, 0, 1, 0, 1, 0, 1, 0, 1]))))]) [0] rfl
  have hDc := hD.sub (ws' := [(z35, .inl (G.2.1, 10, .inr (.inl (tL [0, 1, 0, 1, 0, 1, 0, 1, 0, 1]))))]) [0] (by decide) rfl
  have hFc := va_free (wc := [(z35, .inl (G.2.1, 10, .inr (.inl (tL [0, 1, 0, 1, 0, 1, 0, 1, 0, 1]))))]) hD hS hA [0] rfl
  refine va_callv (va_runS (As := [.ref z35, .int 0]) (rest := []) ⟨hx, hb, hml, hown, hts⟩ (kX0_weaveBefore l D G z35 s.heap.size) (va_cwS 2 hts gX0_weave_X0_weaveBefore rfl rfl rfl (by decide +kernel) ⟨Nat.le_of_ble_eq_true rfl, Nat.le_of_ble_eq_true rfl⟩) ⟨wB_blind, wB_pre hPc hK hDc hN⟩ rfl rfl hl.1 rfl (lv_room (Nat.le_of_ble_eq_true rfl)) dX0_weave_28 ⟨Nat.le_of_ble_eq_true rfl, Nat.le_of_ble_eq_true rfl⟩) hS (fun q _ h => hFc q h) hFc (fun u t H1 locs ht hvm hr1 hB hz1 hk1 hS => ?_)
  obtain ⟨hP, hD⟩ := va_join (wr := []) (w1 := []) hP hD [0] [] rfl rfl (by decide) (by decide) hk1 hFc wP_nil wD_nil
  clear hPc hDc
  generalize H1 = H at hP hS ⊢
  have hP : va_P D vwCl [] H := hP
  have hD : va_D A [] := hD
  refine lv_goto (tgt := 39) hx hb dX0_weave_31 (by decide) ?_
  exact W.vret hx hb hr (fun t ht hW => ⟨⟨(), rfl, trivial, trivial⟩, hS.F ht⟩) hS.2.2 dX0_weave_39

theorem mX0_swap_w0 : Cond.methodLink RX0 58 Lib.Math.abs.name ∈ wsX0_swap := by decide +kernel
theorem mX0_swap_w1 : Cond.static Lib.Math.abs.name ∈ wsX0_swap := by decide +kernel
theorem mX0_swap_w2 : Cond.initialized "java/lang/Math" ∈ wsX0_swap := by decide +kernel
theorem mX0_swap_w3 : Cond.code Lib.Math.abs.name Lib.Math.abs.code 1 (some .int) ∈ wsX0_swap := by decide +kernel
theorem mX0_swap_w4 : Cond.fieldLink RX0 35 "PuppetBridge$Bridge" "bars" "I" ∈ wsX0_swap := by decide +kernel
theorem mX0_swap_w5 : Cond.fieldLink RX0 15 "PuppetBridge$Bridge" "spots" "[I" ∈ wsX0_swap := by decide +kernel
theorem mX0_swap_w6 : Cond.fieldLink RX0 42 "PuppetBridge$Bridge" "tangle" "I" ∈ wsX0_swap := by decide +kernel
theorem mX0_swap_w7 : Cond.fieldLink RX0 18 "PuppetBridge$Bridge" "turns" "[I" ∈ wsX0_swap := by decide +kernel
theorem mX0_swap_w8 : Cond.fieldLink RX0 21 "PuppetBridge$Bridge" "curve" "[J" ∈ wsX0_swap := by decide +kernel
theorem iX0_swap_X0 : ∀ w ∈ wsX00, w ∈ wsX0_swap := fun _ h => List.mem_cons_of_mem _ (List.mem_append_right _ h)
set_option maxRecDepth 20000 in
theorem ggX0_swap_X0_pairOf : GoodIn wsX0_swap wsX0_pairOf := goodIn_r _ [13, 14, 15, 3, 16, 17, 18, 19] (by decide +kernel) (by decide +kernel)
set_option maxRecDepth 20000 in
theorem gX0_swap_X0_pairOf : GoodIn wsX0_swap (va_wsS RX0 62 yX0_pairOf wsX0_pairOf) := goodIn_app (goodIn_of _ (by decide +kernel)) ggX0_swap_X0_pairOf
set_option maxRecDepth 20000 in
theorem ggX0_swap_X0_weave : GoodIn wsX0_swap wsX0_weave := goodIn_r _ [22, 1, 2, 3, 4, 23, 24, 12, 25, 26, 27, 28, 29, 30, 31, 32, 33, 34, 35, 36, 37, 38, 39, 40] (by decide +kernel) (by decide +kernel)
set_option maxRecDepth 20000 in
theorem gX0_swap_X0_weave : GoodIn wsX0_swap (va_wsS RX0 65 yX0_weave wsX0_weave) := goodIn_app (goodIn_of _ (by decide +kernel)) ggX0_swap_X0_weave
theorem dX0_swap_0 : decode cX0_swap 0 = .ok (.iload_n 1, 1) := by decide +kernel
theorem dX0_swap_1 : decode cX0_swap 1 = .ok (.invokestatic 58, 3) := by decide +kernel
theorem dX0_swap_4 : decode cX0_swap 4 = .ok (.istore_n 2, 1) := by decide +kernel
theorem dX0_swap_5 : decode cX0_swap 5 = .ok (.iload_n 2, 1) := by decide +kernel
theorem dX0_swap_6 : decode cX0_swap 6 = .ok (.iconst 1, 1) := by decide +kernel
theorem dX0_swap_7 : decode cX0_swap 7 = .ok (.if_icmp .lt 11, 3) := by decide +kernel
theorem dX0_swap_10 : decode cX0_swap 10 = .ok (.iload_n 2, 1) := by decide +kernel
theorem dX0_swap_11 : decode cX0_swap 11 = .ok (.aload_n 0, 1) := by decide +kernel
theorem dX0_swap_12 : decode cX0_swap 12 = .ok (.getfield 35, 3) := by decide +kernel
theorem dX0_swap_15 : decode cX0_swap 15 = .ok (.if_icmp .lt 4, 3) := by decide +kernel
theorem dX0_swap_19 : decode cX0_swap 19 = .ok (.aload_n 0, 1) := by decide +kernel
theorem dX0_swap_20 : decode cX0_swap 20 = .ok (.getfield 15, 3) := by decide +kernel
theorem dX0_swap_23 : decode cX0_swap 23 = .ok (.iload_n 2, 1) := by decide +kernel
theorem dX0_swap_24 : decode cX0_swap 24 = .ok (.iconst 1, 1) := by decide +kernel
theorem dX0_swap_25 : decode cX0_swap 25 = .ok (.isub, 1) := by decide +kernel
theorem dX0_swap_26 : decode cX0_swap 26 = .ok (.iaload, 1) := by decide +kernel
theorem dX0_swap_27 : decode cX0_swap 27 = .ok (.istore_n 3, 1) := by decide +kernel
theorem dX0_swap_28 : decode cX0_swap 28 = .ok (.aload_n 0, 1) := by decide +kernel
theorem dX0_swap_29 : decode cX0_swap 29 = .ok (.getfield 15, 3) := by decide +kernel
theorem dX0_swap_32 : decode cX0_swap 32 = .ok (.iload_n 2, 1) := by decide +kernel
theorem dX0_swap_33 : decode cX0_swap 33 = .ok (.iconst 1, 1) := by decide +kernel
theorem dX0_swap_34 : decode cX0_swap 34 = .ok (.isub, 1) := by decide +kernel
theorem dX0_swap_35 : decode cX0_swap 35 = .ok (.aload_n 0, 1) := by decide +kernel
theorem dX0_swap_36 : decode cX0_swap 36 = .ok (.getfield 15, 3) := by decide +kernel
theorem dX0_swap_39 : decode cX0_swap 39 = .ok (.iload_n 2, 1) := by decide +kernel
theorem dX0_swap_40 : decode cX0_swap 40 = .ok (.iaload, 1) := by decide +kernel
theorem dX0_swap_41 : decode cX0_swap 41 = .ok (.iastore, 1) := by decide +kernel
theorem dX0_swap_42 : decode cX0_swap 42 = .ok (.aload_n 0, 1) := by decide +kernel
theorem dX0_swap_43 : decode cX0_swap 43 = .ok (.getfield 15, 3) := by decide +kernel
theorem dX0_swap_46 : decode cX0_swap 46 = .ok (.iload_n 2, 1) := by decide +kernel
theorem dX0_swap_47 : decode cX0_swap 47 = .ok (.iload_n 3, 1) := by decide +kernel
theorem dX0_swap_48 : decode cX0_swap 48 = .ok (.iastore, 1) := by decide +kernel
theorem dX0_swap_49 : decode cX0_swap 49 = .ok (.aload_n 0, 1) := by decide +kernel
theorem dX0_swap_50 : decode cX0_swap 50 = .ok (.getfield 15, 3) := by decide +kernel
theorem dX0_swap_53 : decode cX0_swap 53 = .ok (.iload_n 2, 1) := by decide +kernel
theorem dX0_swap_54 : decode cX0_swap 54 = .ok (.iconst 1, 1) := by decide +kernel
theorem dX0_swap_55 : decode cX0_swap 55 = .ok (.isub, 1) := by decide +kernel
theorem dX0_swap_56 : decode cX0_swap 56 = .ok (.iaload, 1) := by decide +kernel
theorem dX0_swap_57 : decode cX0_swap 57 = .ok (.aload_n 0, 1) := by decide +kernel
theorem dX0_swap_58 : decode cX0_swap 58 = .ok (.getfield 15, 3) := by decide +kernel
theorem dX0_swap_61 : decode cX0_swap 61 = .ok (.iload_n 2, 1) := by decide +kernel
theorem dX0_swap_62 : decode cX0_swap 62 = .ok (.iaload, 1) := by decide +kernel
theorem dX0_swap_63 : decode cX0_swap 63 = .ok (.invokestatic 62, 3) := by decide +kernel
theorem dX0_swap_66 : decode cX0_swap 66 = .ok (.istore 4, 2) := by decide +kernel
theorem dX0_swap_68 : decode cX0_swap 68 = .ok (.aload_n 0, 1) := by decide +kernel
theorem dX0_swap_69 : decode cX0_swap 69 = .ok (.dup, 1) := by decide +kernel
theorem dX0_swap_70 : decode cX0_swap 70 = .ok (.getfield 42, 3) := by decide +kernel
theorem dX0_swap_73 : decode cX0_swap 73 = .ok (.aload_n 0, 1) := by decide +kernel
theorem dX0_swap_74 : decode cX0_swap 74 = .ok (.getfield 18, 3) := by decide +kernel
theorem dX0_swap_77 : decode cX0_swap 77 = .ok (.iload 4, 2) := by decide +kernel
theorem dX0_swap_79 : decode cX0_swap 79 = .ok (.iaload, 1) := by decide +kernel
theorem dX0_swap_80 : decode cX0_swap 80 = .ok (.invokestatic 58, 3) := by decide +kernel
theorem dX0_swap_83 : decode cX0_swap 83 = .ok (.isub, 1) := by decide +kernel
theorem dX0_swap_84 : decode cX0_swap 84 = .ok (.putfield 42, 3) := by decide +kernel
theorem dX0_swap_87 : decode cX0_swap 87 = .ok (.aload_n 0, 1) := by decide +kernel
theorem dX0_swap_88 : decode cX0_swap 88 = .ok (.getfield 18, 3) := by decide +kernel
theorem dX0_swap_91 : decode cX0_swap 91 = .ok (.iload 4, 2) := by decide +kernel
theorem dX0_swap_93 : decode cX0_swap 93 = .ok (.dup2, 1) := by decide +kernel
theorem dX0_swap_94 : decode cX0_swap 94 = .ok (.iaload, 1) := by decide +kernel
theorem dX0_swap_95 : decode cX0_swap 95 = .ok (.iload_n 1, 1) := by decide +kernel
theorem dX0_swap_96 : decode cX0_swap 96 = .ok (.ifCond .le 7, 3) := by decide +kernel
theorem dX0_swap_99 : decode cX0_swap 99 = .ok (.iconst 1, 1) := by decide +kernel
theorem dX0_swap_100 : decode cX0_swap 100 = .ok (.goto 4, 3) := by decide +kernel
theorem dX0_swap_104 : decode cX0_swap 104 = .ok (.iadd, 1) := by decide +kernel
theorem dX0_swap_105 : decode cX0_swap 105 = .ok (.iastore, 1) := by decide +kernel
theorem dX0_swap_106 : decode cX0_swap 106 = .ok (.aload_n 0, 1) := by decide +kernel
theorem dX0_swap_107 : decode cX0_swap 107 = .ok (.dup, 1) := by decide +kernel
theorem dX0_swap_108 : decode cX0_swap 108 = .ok (.getfield 42, 3) := by decide +kernel
theorem dX0_swap_111 : decode cX0_swap 111 = .ok (.aload_n 0, 1) := by decide +kernel
theorem dX0_swap_112 : decode cX0_swap 112 = .ok (.getfield 18, 3) := by decide +kernel
theorem dX0_swap_115 : decode cX0_swap 115 = .ok (.iload 4, 2) := by decide +kernel
theorem dX0_swap_117 : decode cX0_swap 117 = .ok (.iaload, 1) := by decide +kernel
theorem dX0_swap_118 : decode cX0_swap 118 = .ok (.invokestatic 58, 3) := by decide +kernel
theorem dX0_swap_121 : decode cX0_swap 121 = .ok (.iadd, 1) := by decide +kernel
theorem dX0_swap_122 : decode cX0_swap 122 = .ok (.putfield 42, 3) := by decide +kernel
theorem dX0_swap_125 : decode cX0_swap 125 = .ok (.aload_n 0, 1) := by decide +kernel
theorem dX0_swap_126 : decode cX0_swap 126 = .ok (.getfield 21, 3) := by decide +kernel
theorem dX0_swap_129 : decode cX0_swap 129 = .ok (.iload_n 1, 1) := by decide +kernel
theorem dX0_swap_130 : decode cX0_swap 130 = .ok (.invokestatic 65, 3) := by decide +kernel
theorem dX0_swap_133 : decode cX0_swap 133 = .ok (.return_, 1) := by decide +kernel
set_option maxHeartbeats 4000000 in
set_option maxRecDepth 100000 in
/-- X0_swap -/
theorem kX0_swap_1 (l : Launch) (D : va_G) (G : tyG) (z32 : Nat) (z29 : Nat) (z33 : Nat) (z34 : Nat) (z35 : Nat) (z30 : Nat) (z31 : Nat) (cn : Int32) (sz : Nat) : Met l yX0_swap wsX0_swap ({ frames := 4, cells := 0, slots := 0, locals := 106 }) (va_Pc [.ref z32, .int 1] (wB D G sz [(z32, .inr (0, [.ref z29, .ref z33, .ref z34, .ref z35, .ref z30, .ref z31, .int 2, .int cn, .int 0])), (z33, .inl (G.1, 5, .inl (tI [0, 1, 2, 3, 4]))), (z34, .inl (G.1, 25, .inl (tI [0, 0, 0, 0, 0, 0, 0, 0, 0, 0, 0, 0, 0, 0, 0, 0, 0, 0, 0, 0, 0, 0, 0, 0, 0]))), (z35, .inl (G.2.1, 10, .inr (.inl (tL [0, 1, 0, 1, 0, 1, 0, 1, 0, 1]))))])) (va_Qv (fun _ : Unit => True) (fun _ t => wS D G (va_A [(z32, .inr (0, [.ref z29, .ref z33, .ref z34, .ref z35, .ref z30, .ref z31, .int 2, .int cn, .int 0])), (z33, .inl (G.1, 5, .inl (tI [0, 1, 2, 3, 4]))), (z34, .inl (G.1, 25, .inl (tI [0, 0, 0, 0, 0, 0, 0, 0, 0, 0, 0, 0, 0, 0, 0, 0, 0, 0, 0, 0, 0, 0, 0, 0, 0]))), (z35, .inl (G.2.1, 10, .inr (.inl (tL [0, 1, 0, 1, 0, 1, 0, 1, 0, 1]))))] sz) [(z32, .inr (0, [.ref z29, .ref z33, .ref z34, .ref z35, .ref z30, .ref z31, .int 2, .int cn, .int 1]))] t) (va_A [(z32, .inr (0, [.ref z29, .ref z33, .ref z34, .ref z35, .ref z30, .ref z31, .int 2, .int cn, .int 0])), (z33, .inl (G.1, 5, .inl (tI [0, 1, 2, 3, 4]))), (z34, .inl (G.1, 25, .inl (tI [0, 0, 0, 0, 0, 0, 0, 0, 0, 0, 0, 0, 0, 0, 0, 0, 0, 0, 0, 0, 0, 0, 0, 0, 0]))), (z35, .inl (G.2.1, 10, .inr (.inl (tL [0, 1, 0, 1, 0, 1, 0, 1, 0, 1]))))] sz)) 0 0 (va_A [(z32, .inr (0, [.ref z29, .ref z33, .ref z34, .ref z35, .ref z30, .ref z31, .int 2, .int cn, .int 0])), (z33, .inl (G.1, 5, .inl (tI [0, 1, 2, 3, 4]))), (z34, .inl (G.1, 25, .inl (tI [0, 0, 0, 0, 0, 0, 0, 0, 0, 0, 0, 0, 0, 0, 0, 0, 0, 0, 0, 0, 0, 0, 0, 0, 0]))), (z35, .inl (G.2.1, 10, .inr (.inl (tL [0, 1, 0, 1, 0, 1, 0, 1, 0, 1]))))] sz) := by
  refine Met.ofW (cc := cX0_swap) (maxL := 5) (ret := none) (by decide) rfl ?_
  intro p e s m args below meth c s₁ B hml hv
  obtain ⟨rfl, hsz, hP, hK, hD0, hN⟩ := hv
  have hx := B.exec
  have hb := B.bytes
  have hr := B.returns
  have hts := atoms_spec (ws := wsX0_swap) B.pre
  have hown : s.vm.findClass RX0 = some m.cls := findClass_of_methodNamed B.named
  have hlocks := B.notSynchronized
  subst hsz
  have hD := hD0.self (sz := s.heap.size)
  generalize hAe : va_A [(z32, .inr (0, [.ref z29, .ref z33, .ref z34, .ref z35, .ref z30, .ref z31, .int 2, .int cn, .int 0])), (z33, .inl (G.1, 5, .inl (tI [0, 1, 2, 3, 4]))), (z34, .inl (G.1, 25, .inl (tI [0, 0, 0, 0, 0, 0, 0, 0, 0, 0, 0, 0, 0, 0, 0, 0, 0, 0, 0, 0, 0, 0, 0, 0, 0]))), (z35, .inl (G.2.1, 10, .inr (.inl (tL [0, 1, 0, 1, 0, 1, 0, 1, 0, 1]))))] s.heap.size = A at hD ⊢
  have hA : ∀ q : Nat, s.heap.size ≤ q → A q := fun q h => by rw [← hAe]; exact Or.inr h
  have hS : va_S A s.heap s.heap [] := va_S.rf
  have hP : va_P D vwCl [(z32, .inr (0, [.ref z29, .ref z33, .ref z34, .ref z35, .ref z30, .ref z31, .int 2, .int cn, .int 0])), (z33, .inl (G.1, 5, .inl (tI [0, 1, 2, 3, 4]))), (z34, .inl (G.1, 25, .inl (tI [0, 0, 0, 0, 0, 0, 0, 0, 0, 0, 0, 0, 0, 0, 0, 0, 0, 0, 0, 0, 0, 0, 0, 0, 0]))), (z35, .inl (G.2.1, 10, .inr (.inl (tL [0, 1, 0, 1, 0, 1, 0, 1, 0, 1]))))] s.heap := hP
  have hl := lv_entry ([.ref z32, .int 1]) (n := 5) (Nat.le_of_ble_eq_true rfl)
  rw [lg_entry_eq]
  generalize (lg_sl ([.ref z32, .int 1]) ++ List.replicate (5 - (lg_sl ([.ref z32, .int 1])).length) Slot.unset).toArray = ls at hl ⊢
  have hl : lv_has ls 5 [(0, .ref z32), (1, .int 1)] := hl
  refine lv_iload_n hx hb dX0_swap_0 rfl (lv_at hl 1 rfl) ?_
  refine va_mabs hx hb (by rw [hml]; exact hl.1.symm) hown (hts (.methodLink RX0 58 Lib.Math.abs.name) mX0_swap_w0) (hts (.static Lib.Math.abs.name) mX0_swap_w1) (hts (.initialized "java/lang/Math") mX0_swap_w2) (hts (.code Lib.Math.abs.name Lib.Math.abs.code 1 (some .int)) mX0_swap_w3) (Nat.le_of_ble_eq_true rfl) (Nat.le_of_ble_eq_true rfl) (Nat.le_of_ble_eq_true rfl) (Nat.le_of_ble_eq_true rfl) dX0_swap_1 ?_
  refine wk_i 1 (by decide) ?_
  refine lv_istore_n (lv' := [(2, .int 1), (0, .ref z32), (1, .int 1)]) hx hb dX0_swap_4 rfl hl (by decide) rfl (fun ls hl => ?_)
  refine lv_iload_n hx hb dX0_swap_5 rfl (lv_at hl 0 rfl) ?_
  refine lv_iconst (v := 1) hx hb dX0_swap_6 (by decide) ?_
  refine lv_icmp_lt (tgt := 18) hx hb dX0_swap_7 (by decide) (fun h9 => absurd h9 (by decide)) (fun _ => ?_)
  refine lv_iload_n hx hb dX0_swap_10 rfl (lv_at hl 0 rfl) ?_
  refine lv_aload_n hx hb dX0_swap_11 rfl (lv_at hl 1 rfl) ?_
  refine va_get (D := D) (ci := 0) (v := .int 2) (C := RX0) (T := TX0) (N := 9) hx hb hts iX0_swap_X0 hown hK hP 0 rfl rfl 6 (by decide) (hts (.fieldLink RX0 35 "PuppetBridge$Bridge" "bars" "I") mX0_swap_w4) (fun _ h9 => h9) rfl dX0_swap_12 ?_
  refine lv_icmp_lt (tgt := 19) hx hb dX0_swap_15 (by decide) (fun _ => ?_) (fun h9 => absurd h9 (by decide))
  refine lv_aload_n hx hb dX0_swap_19 rfl (lv_at hl 1 rfl) ?_
  refine va_get (D := D) (ci := 0) (v := .ref z33) (C := RX0) (T := TX0) (N := 9) hx hb hts iX0_swap_X0 hown hK hP 0 rfl rfl 1 (by decide) (hts (.fieldLink RX0 15 "PuppetBridge$Bridge" "spots" "[I") mX0_swap_w5) (fun _ h9 => h9) rfl dX0_swap_20 ?_
  refine lv_iload_n hx hb dX0_swap_23 rfl (lv_at hl 0 rfl) ?_
  refine lv_iconst (v := 1) hx hb dX0_swap_24 (by decide) ?_
  refine lv_isub hx hb dX0_swap_25 ?_
  refine wk_i 0 (by decide) ?_
  refine va_iald hx hb hK hP 1 0 rfl rfl (wk_in rfl) dX0_swap_26 ?_
  refine wk_i 0 rfl ?_
  refine lv_istore_n (lv' := [(3, .int 0), (2, .int 1), (0, .ref z32), (1, .int 1)]) hx hb dX0_swap_27 rfl hl (by decide) rfl (fun ls hl => ?_)
  refine lv_aload_n hx hb dX0_swap_28 rfl (lv_at hl 2 rfl) ?_
  refine va_get (D := D) (ci := 0) (v := .ref z33) (C := RX0) (T := TX0) (N := 9) hx hb hts iX0_swap_X0 hown hK hP 0 rfl rfl 1 (by decide) (hts (.fieldLink RX0 15 "PuppetBridge$Bridge" "spots" "[I") mX0_swap_w5) (fun _ h9 => h9) rfl dX0_swap_29 ?_
  refine lv_iload_n hx hb dX0_swap_32 rfl (lv_at hl 1 rfl) ?_
  refine lv_iconst (v := 1) hx hb dX0_swap_33 (by decide) ?_
  refine lv_isub hx hb dX0_swap_34 ?_
  refine wk_i 0 (by decide) ?_
  refine lv_aload_n hx hb dX0_swap_35 rfl (lv_at hl 2 rfl) ?_
  refine va_get (D := D) (ci := 0) (v := .ref z33) (C := RX0) (T := TX0) (N := 9) hx hb hts iX0_swap_X0 hown hK hP 0 rfl rfl 1 (by decide) (hts (.fieldLink RX0 15 "PuppetBridge$Bridge" "spots" "[I") mX0_swap_w5) (fun _ h9 => h9) rfl dX0_swap_36 ?_
  refine lv_iload_n hx hb dX0_swap_39 rfl (lv_at hl 1 rfl) ?_
  refine va_iald hx hb hK hP 1 0 rfl rfl (wk_in rfl) dX0_swap_40 ?_
  refine wk_i 1 rfl ?_
  refine va_iast hx hb hK hP hD hS 1 0 rfl rfl (wk_in rfl) dX0_swap_41 (fun H locs hP hD hS => ?_)
  have hP : va_P D vwCl [(z32, .inr (0, [.ref z29, .ref z33, .ref z34, .ref z35, .ref z30, .ref z31, .int 2, .int cn, .int 0])), (z33, .inl (G.1, 5, .inl (upd (tI [0, 1, 2, 3, 4]) 0 1))), (z34, .inl (G.1, 25, .inl (tI [0, 0, 0, 0, 0, 0, 0, 0, 0, 0, 0, 0, 0, 0, 0, 0, 0, 0, 0, 0, 0, 0, 0, 0, 0]))), (z35, .inl (G.2.1, 10, .inr (.inl (tL [0, 1, 0, 1, 0, 1, 0, 1, 0, 1]))))] H := hP
  have hD : va_D A [(z32, .inr (0, [.ref z29, .ref z33, .ref z34, .ref z35, .ref z30, .ref z31, .int 2, .int cn, .int 0])), (z33, .inl (G.1, 5, .inl (upd (tI [0, 1, 2, 3, 4]) 0 1))), (z34, .inl (G.1, 25, .inl (tI [0, 0, 0, 0, 0, 0, 0, 0, 0, 0, 0, 0, 0, 0, 0, 0, 0, 0, 0, 0, 0, 0, 0, 0, 0]))), (z35, .inl (G.2.1, 10, .inr (.inl (tL [0, 1, 0, 1, 0, 1, 0, 1, 0, 1]))))] := hD
  refine lv_aload_n hx hb dX0_swap_42 rfl (lv_at hl 2 rfl) ?_
  refine va_get (D := D) (ci := 0) (v := .ref z33) (C := RX0) (T := TX0) (N := 9) hx hb hts iX0_swap_X0 hown hK hP 0 rfl rfl 1 (by decide) (hts (.fieldLink RX0 15 "PuppetBridge$Bridge" "spots" "[I") mX0_swap_w5) (fun _ h9 => h9) rfl dX0_swap_43 ?_
  refine lv_iload_n hx hb dX0_swap_46 rfl (lv_at hl 1 rfl) ?_
  refine lv_iload_n hx hb dX0_swap_47 rfl (lv_at hl 0 rfl) ?_
  refine va_iast hx hb hK hP hD hS 1 0 rfl rfl (wk_in rfl) dX0_swap_48 (fun H locs hP hD hS => ?_)
  have hP : va_P D vwCl [(z32, .inr (0, [.ref z29, .ref z33, .ref z34, .ref z35, .ref z30, .ref z31, .int 2, .int cn, .int 0])), (z33, .inl (G.1, 5, .inl (upd (upd (tI [0, 1, 2, 3, 4]) 0 1) 1 0))), (z34, .inl (G.1, 25, .inl (tI [0, 0, 0, 0, 0, 0, 0, 0, 0, 0, 0, 0, 0, 0, 0, 0, 0, 0, 0, 0, 0, 0, 0, 0, 0]))), (z35, .inl (G.2.1, 10, .inr (.inl (tL [0, 1, 0, 1, 0, 1, 0, 1, 0, 1]))))] H := hP
  have hD : va_D A [(z32, .inr (0, [.ref z29, .ref z33, .ref z34, .ref z35, .ref z30, .ref z31, .int 2, .int cn, .int 0])), (z33, .inl (G.1, 5, .inl (upd (upd (tI [0, 1, 2, 3, 4]) 0 1) 1 0))), (z34, .inl (G.1, 25, .inl (tI [0, 0, 0, 0, 0, 0, 0, 0, 0, 0, 0, 0, 0, 0, 0, 0, 0, 0, 0, 0, 0, 0, 0, 0, 0]))), (z35, .inl (G.2.1, 10, .inr (.inl (tL [0, 1, 0, 1, 0, 1, 0, 1, 0, 1]))))] := hD
  refine lv_aload_n hx hb dX0_swap_49 rfl (lv_at hl 2 rfl) ?_
  refine va_get (D := D) (ci := 0) (v := .ref z33) (C := RX0) (T := TX0) (N := 9) hx hb hts iX0_swap_X0 hown hK hP 0 rfl rfl 1 (by decide) (hts (.fieldLink RX0 15 "PuppetBridge$Bridge" "spots" "[I") mX0_swap_w5) (fun _ h9 => h9) rfl dX0_swap_50 ?_
  refine lv_iload_n hx hb dX0_swap_53 rfl (lv_at hl 1 rfl) ?_
  refine lv_iconst (v := 1) hx hb dX0_swap_54 (by decide) ?_
  refine lv_isub hx hb dX0_swap_55 ?_
  refine wk_i 0 (by decide) ?_
  refine va_iald hx hb hK hP 1 0 rfl rfl (wk_in rfl) dX0_swap_56 ?_
  refine wk_i 1 rfl ?_
  refine lv_aload_n hx hb dX0_swap_57 rfl (lv_at hl 2 rfl) ?_
  refine va_get (D := D) (ci := 0) (v := .ref z33) (C := RX0) (T := TX0) (N := 9) hx hb hts iX0_swap_X0 hown hK hP 0 rfl rfl 1 (by decide) (hts (.fieldLink RX0 15 "PuppetBridge$Bridge" "spots" "[I") mX0_swap_w5) (fun _ h9 => h9) rfl dX0_swap_58 ?_
  refine lv_iload_n hx hb dX0_swap_61 rfl (lv_at hl 1 rfl) ?_
  refine va_iald hx hb hK hP 1 0 rfl rfl (wk_in rfl) dX0_swap_62 ?_
  refine wk_i 0 rfl ?_
  have hPc := hP.sub (ws' := []) [] rfl
  have hDc := hD.sub (ws' := []) [] (by decide) rfl
  have hFc := va_free (wc := []) hD hS hA [] rfl
  refine va_calli (va_runS (As := [.int 1, .int 0]) (rest := []) ⟨hx, hb, hml, hown, hts⟩ (kX0_pairOf l D G 1 0 H.size) (va_cwS 2 hts gX0_swap_X0_pairOf rfl rfl rfl (by decide +kernel) ⟨Nat.le_of_ble_eq_true rfl, Nat.le_of_ble_eq_true rfl⟩) ⟨wB_blind, wB_pre hPc hK hDc hN⟩ rfl rfl hl.1 rfl (lv_room (Nat.le_of_ble_eq_true rfl)) dX0_swap_63 ⟨Nat.le_of_ble_eq_true rfl, Nat.le_of_ble_eq_true rfl⟩) hS (fun q _ h => hFc q h) hFc (fun r1 u t H1 locs ht hvm hr1 hB hz1 hk1 hS => ?_)
  obtain ⟨hP, hD⟩ := va_join (wr := [(z32, .inr (0, [.ref z29, .ref z33, .ref z34, .ref z35, .ref z30, .ref z31, .int 2, .int cn, .int 0])), (z33, .inl (G.1, 5, .inl (upd (upd (tI [0, 1, 2, 3, 4]) 0 1) 1 0))), (z34, .inl (G.1, 25, .inl (tI [0, 0, 0, 0, 0, 0, 0, 0, 0, 0, 0, 0, 0, 0, 0, 0, 0, 0, 0, 0, 0, 0, 0, 0, 0]))), (z35, .inl (G.2.1, 10, .inr (.inl (tL [0, 1, 0, 1, 0, 1, 0, 1, 0, 1]))))]) (w1 := []) hP hD [] [0, 1, 2, 3] rfl rfl (by decide) (by decide) hk1 hFc wP_nil wD_nil
  clear hPc hDc
  generalize H1 = H at hP hS ⊢
  have hP : va_P D vwCl [(z32, .inr (0, [.ref z29, .ref z33, .ref z34, .ref z35, .ref z30, .ref z31, .int 2, .int cn, .int 0])), (z33, .inl (G.1, 5, .inl (upd (upd (tI [0, 1, 2, 3, 4]) 0 1) 1 0))), (z34, .inl (G.1, 25, .inl (tI [0, 0, 0, 0, 0, 0, 0, 0, 0, 0, 0, 0, 0, 0, 0, 0, 0, 0, 0, 0, 0, 0, 0, 0, 0]))), (z35, .inl (G.2.1, 10, .inr (.inl (tL [0, 1, 0, 1, 0, 1, 0, 1, 0, 1]))))] H := hP
  have hD : va_D A [(z32, .inr (0, [.ref z29, .ref z33, .ref z34, .ref z35, .ref z30, .ref z31, .int 2, .int cn, .int 0])), (z33, .inl (G.1, 5, .inl (upd (upd (tI [0, 1, 2, 3, 4]) 0 1) 1 0))), (z34, .inl (G.1, 25, .inl (tI [0, 0, 0, 0, 0, 0, 0, 0, 0, 0, 0, 0, 0, 0, 0, 0, 0, 0, 0, 0, 0, 0, 0, 0, 0]))), (z35, .inl (G.2.1, 10, .inr (.inl (tL [0, 1, 0, 1, 0, 1, 0, 1, 0, 1]))))] := hD
  obtain rfl : r1 = 1 := by rw [hr1]; decide
  refine lv_istore (lv' := [(4, .int 1), (3, .int 0), (2, .int 1), (0, .ref z32), (1, .int 1)]) hx hb dX0_swap_66 hl (by decide) rfl (fun ls hl => ?_)
  refine lv_aload_n hx hb dX0_swap_68 rfl (lv_at hl 3 rfl) ?_
  refine lv_dup hx hb dX0_swap_69 rfl ?_
  refine va_get (D := D) (ci := 0) (v := .int 0) (C := RX0) (T := TX0) (N := 9) hx hb hts iX0_swap_X0 hown hK hP 0 rfl rfl 8 (by decide) (hts (.fieldLink RX0 42 "PuppetBridge$Bridge" "tangle" "I") mX0_swap_w6) (fun _ h9 => h9) rfl dX0_swap_70 ?_
  refine lv_aload_n hx hb dX0_swap_73 rfl (lv_at hl 3 rfl) ?_
  refine va_get (D := D) (ci := 0) (v := .ref z34) (C := RX0) (T := TX0) (N := 9) hx hb hts iX0_swap_X0 hown hK hP 0 rfl rfl 2 (by decide) (hts (.fieldLink RX0 18 "PuppetBridge$Bridge" "turns" "[I") mX0_swap_w7) (fun _ h9 => h9) rfl dX0_swap_74 ?_
  refine lv_iload hx hb dX0_swap_77 (lv_at hl 0 rfl) ?_
  refine va_iald hx hb hK hP 2 0 rfl rfl (wk_in rfl) dX0_swap_79 ?_
  refine wk_i 0 rfl ?_
  refine va_mabs hx hb (by rw [hml]; exact hl.1.symm) hown (hts (.methodLink RX0 58 Lib.Math.abs.name) mX0_swap_w0) (hts (.static Lib.Math.abs.name) mX0_swap_w1) (hts (.initialized "java/lang/Math") mX0_swap_w2) (hts (.code Lib.Math.abs.name Lib.Math.abs.code 1 (some .int)) mX0_swap_w3) (Nat.le_of_ble_eq_true rfl) (Nat.le_of_ble_eq_true rfl) (Nat.le_of_ble_eq_true rfl) (Nat.le_of_ble_eq_true rfl) dX0_swap_80 ?_
  refine wk_i 0 (by decide) ?_
  refine lv_isub hx hb dX0_swap_83 ?_
  refine wk_i 0 (by decide) ?_
  refine va_put (D := D) (ci := 0) (v := .int 0) (ty := (tyX0 8)) (C := RX0) (T := TX0) (N := 9) hx hb hts iX0_swap_X0 tyX0 tyX0_ok nmX0 hown hK hP hD hS 0 rfl rfl 8 (by decide) (hts (.fieldLink RX0 42 "PuppetBridge$Bridge" "tangle" "I") mX0_swap_w6) (fun _ h9 => h9) rfl (tyX0_ok 8 (by decide)) rfl rfl (Nat.le_of_ble_eq_true rfl) dX0_swap_84 (fun H locs hP hD hS => ?_)
  have hP : va_P D vwCl [(z32, .inr (0, [.ref z29, .ref z33, .ref z34, .ref z35, .ref z30, .ref z31, .int 2, .int cn, .int 0])), (z33, .inl (G.1, 5, .inl (upd (upd (tI [0, 1, 2, 3, 4]) 0 1) 1 0))), (z34, .inl (G.1, 25, .inl (tI [0, 0, 0, 0, 0, 0, 0, 0, 0, 0, 0, 0, 0, 0, 0, 0, 0, 0, 0, 0, 0, 0, 0, 0, 0]))), (z35, .inl (G.2.1, 10, .inr (.inl (tL [0, 1, 0, 1, 0, 1, 0, 1, 0, 1]))))] H := hP
  have hD : va_D A [(z32, .inr (0, [.ref z29, .ref z33, .ref z34, .ref z35, .ref z30, .ref z31, .int 2, .int cn, .int 0])), (z33, .inl (G.1, 5, .inl (upd (upd (tI [0, 1, 2, 3, 4]) 0 1) 1 0))), (z34, .inl (G.1, 25, .inl (tI [0, 0, 0, 0, 0, 0, 0, 0, 0, 0, 0, 0, 0, 0, 0, 0, 0, 0, 0, 0, 0, 0, 0, 0, 0]))), (z35, .inl (G.2.1, 10, .inr (.inl (tL [0, 1, 0, 1, 0, 1, 0, 1, 0, 1]))))] := hD
  refine lv_aload_n hx hb dX0_swap_87 rfl (lv_at hl 3 rfl) ?_
  refine va_get (D := D) (ci := 0) (v := .ref z34) (C := RX0) (T := TX0) (N := 9) hx hb hts iX0_swap_X0 hown hK hP 0 rfl rfl 2 (by decide) (hts (.fieldLink RX0 18 "PuppetBridge$Bridge" "turns" "[I") mX0_swap_w7) (fun _ h9 => h9) rfl dX0_swap_88 ?_
  refine lv_iload hx hb dX0_swap_91 (lv_at hl 0 rfl) ?_
  refine lv_dup2_11 hx hb dX0_swap_93 rfl rfl ?_
  refine va_iald hx hb hK hP 2 0 rfl rfl (wk_in rfl) dX0_swap_94 ?_
  refine wk_i 0 rfl ?_
  refine lv_iload_n hx hb dX0_swap_95 rfl (lv_at hl 4 rfl) ?_
  refine lv_if_le (tgt := 103) hx hb dX0_swap_96 (by decide) (fun h9 => absurd h9 (by decide)) (fun _ => ?_)
  refine lv_iconst (v := 1) hx hb dX0_swap_99 (by decide) ?_
  refine lv_goto (tgt := 104) hx hb dX0_swap_100 (by decide) ?_
  refine lv_iadd hx hb dX0_swap_104 ?_
  refine wk_i 1 (by decide) ?_
  refine va_iast hx hb hK hP hD hS 2 0 rfl rfl (wk_in rfl) dX0_swap_105 (fun H locs hP hD hS => ?_)
  have hP : va_P D vwCl [(z32, .inr (0, [.ref z29, .ref z33, .ref z34, .ref z35, .ref z30, .ref z31, .int 2, .int cn, .int 0])), (z33, .inl (G.1, 5, .inl (upd (upd (tI [0, 1, 2, 3, 4]) 0 1) 1 0))), (z34, .inl (G.1, 25, .inl (upd (tI [0, 0, 0, 0, 0, 0, 0, 0, 0, 0, 0, 0, 0, 0, 0, 0, 0, 0, 0, 0, 0, 0, 0, 0, 0]) 1 1))), (z35, .inl (G.2.1, 10, .inr (.inl (tL [0, 1, 0, 1, 0, 1, 0, 1, 0, 1]))))] H := hP
  have hD : va_D A [(z32, .inr (0, [.ref z29, .ref z33, .ref z34, .ref z35, .ref z30, .ref z31, .int 2, .int cn, .int 0])), (z33, .inl (G.1, 5, .inl (upd (upd (tI [0, 1, 2, 3, 4]) 0 1) 1 0))), (z34, .inl (G.1, 25, .inl (upd (tI [0, 0, 0, 0, 0, 0, 0, 0, 0, 0, 0, 0, 0, 0, 0, 0, 0, 0, 0, 0, 0, 0, 0, 0, 0]) 1 1))), (z35, .inl (G.2.1, 10, .inr (.inl (tL [0, 1, 0, 1, 0, 1, 0, 1, 0, 1]))))] := hD
  refine lv_aload_n hx hb dX0_swap_106 rfl (lv_at hl 3 rfl) ?_
  refine lv_dup hx hb dX0_swap_107 rfl ?_
  refine va_get (D := D) (ci := 0) (v := .int 0) (C := RX0) (T := TX0) (N := 9) hx hb hts iX0_swap_X0 hown hK hP 0 rfl rfl 8 (by decide) (hts (.fieldLink RX0 42 "PuppetBridge$Bridge" "tangle" "I") mX0_swap_w6) (fun _ h9 => h9) rfl dX0_swap_108 ?_
  refine lv_aload_n hx hb dX0_swap_111 rfl (lv_at hl 3 rfl) ?_
  refine va_get (D := D) (ci := 0) (v := .ref z34) (C := RX0) (T := TX0) (N := 9) hx hb hts iX0_swap_X0 hown hK hP 0 rfl rfl 2 (by decide) (hts (.fieldLink RX0 18 "PuppetBridge$Bridge" "turns" "[I") mX0_swap_w7) (fun _ h9 => h9) rfl dX0_swap_112 ?_
  refine lv_iload hx hb dX0_swap_115 (lv_at hl 0 rfl) ?_
  refine va_iald hx hb hK hP 2 0 rfl rfl (wk_in rfl) dX0_swap_117 ?_
  refine wk_i 1 rfl ?_
  refine va_mabs hx hb (by rw [hml]; exact hl.1.symm) hown (hts (.methodLink RX0 58 Lib.Math.abs.name) mX0_swap_w0) (hts (.static Lib.Math.abs.name) mX0_swap_w1) (hts (.initialized "java/lang/Math") mX0_swap_w2) (hts (.code Lib.Math.abs.name Lib.Math.abs.code 1 (some .int)) mX0_swap_w3) (Nat.le_of_ble_eq_true rfl) (Nat.le_of_ble_eq_true rfl) (Nat.le_of_ble_eq_true rfl) (Nat.le_of_ble_eq_true rfl) dX0_swap_118 ?_
  refine wk_i 1 (by decide) ?_
  refine lv_iadd hx hb dX0_swap_121 ?_
  refine wk_i 1 (by decide) ?_
  refine va_put (D := D) (ci := 0) (v := .int 1) (ty := (tyX0 8)) (C := RX0) (T := TX0) (N := 9) hx hb hts iX0_swap_X0 tyX0 tyX0_ok nmX0 hown hK hP hD hS 0 rfl rfl 8 (by decide) (hts (.fieldLink RX0 42 "PuppetBridge$Bridge" "tangle" "I") mX0_swap_w6) (fun _ h9 => h9) rfl (tyX0_ok 8 (by decide)) rfl rfl (Nat.le_of_ble_eq_true rfl) dX0_swap_122 (fun H locs hP hD hS => ?_)
  have hP : va_P D vwCl [(z32, .inr (0, [.ref z29, .ref z33, .ref z34, .ref z35, .ref z30, .ref z31, .int 2, .int cn, .int 1])), (z33, .inl (G.1, 5, .inl (upd (upd (tI [0, 1, 2, 3, 4]) 0 1) 1 0))), (z34, .inl (G.1, 25, .inl (upd (tI [0, 0, 0, 0, 0, 0, 0, 0, 0, 0, 0, 0, 0, 0, 0, 0, 0, 0, 0, 0, 0, 0, 0, 0, 0]) 1 1))), (z35, .inl (G.2.1, 10, .inr (.inl (tL [0, 1, 0, 1, 0, 1, 0, 1, 0, 1]))))] H := hP
  have hD : va_D A [(z32, .inr (0, [.ref z29, .ref z33, .ref z34, .ref z35, .ref z30, .ref z31, .int 2, .int cn, .int 1])), (z33, .inl (G.1, 5, .inl (upd (upd (tI [0, 1, 2, 3, 4]) 0 1) 1 0))), (z34, .inl (G.1, 25, .inl (upd (tI [0, 0, 0, 0, 0, 0, 0, 0, 0, 0, 0, 0, 0, 0, 0, 0, 0, 0, 0, 0, 0, 0, 0, 0, 0]) 1 1))), (z35, .inl (G.2.1, 10, .inr (.inl (tL [0, 1, 0, 1, 0, 1, 0, 1, 0, 1]))))] := hD
  refine lv_aload_n hx hb dX0_swap_125 rfl (lv_at hl 3 rfl) ?_
  refine va_get (D := D) (ci := 0) (v := .ref z35) (C := RX0) (T := TX0) (N := 9) hx hb hts iX0_swap_X0 hown hK hP 0 rfl rfl 3 (by decide) (hts (.fieldLink RX0 21 "PuppetBridge$Bridge" "curve" "[J") mX0_swap_w8) (fun _ h9 => h9) rfl dX0_swap_126 ?_
  refine lv_iload_n hx hb dX0_swap_129 rfl (lv_at hl 4 rfl) ?_
  have hPc := hP.sub (ws' := [(z35, .inl (G.2.1, 10, .inr (.inl (tL [0, 1, 0, 1, 0, 1, 0, 1, 0, 1]))))]) [3] rfl
  have hDc := hD.sub (ws' := [(z35, .inl (G.2.1, 10, .inr (.inl (tL [0, 1, 0, 1, 0, 1, 0, 1, 0, 1]))))]) [3] (by decide) rfl
  have hFc := va_free (wc := [(z35, .inl (G.2.1, 10, .inr (.inl (tL [0, 1, 0, 1, 0, 1, 0, 1, 0, 1]))))]) hD hS hA [3] rfl
  refine va_callv (va_runS (As := [.ref z35, .int 1]) (rest := []) ⟨hx, hb, hml, hown, hts⟩ (kX0_weave_1 l D G z35 H.size) (va_cwS 2 hts gX0_swap_X0_weave rfl rfl rfl (by decide +kernel) ⟨Nat.le_of_ble_eq_true rfl, Nat.le_of_ble_eq_true rfl⟩) ⟨wB_blind, wB_pre hPc hK hDc hN⟩ rfl rfl hl.1 rfl (lv_room (Nat.le_of_ble_eq_true rfl)) dX0_swap_130 ⟨Nat.le_of_ble_eq_true rfl, Nat.le_of_ble_eq_true rfl⟩) hS (fun q _ h => hFc q h) hFc (fun u t H1 locs ht hvm hr2 hB hz1 hk1 hS => ?_)
  obtain ⟨hP, hD⟩ := va_join (wr := [(z32, .inr (0, [.ref z29, .ref z33, .ref z34, .ref z35, .ref z30, .ref z31, .int 2, .int cn, .int 1])), (z33, .inl (G.1, 5, .inl (upd (upd (tI [0, 1, 2, 3, 4]) 0 1) 1 0))), (z34, .inl (G.1, 25, .inl (upd (tI [0, 0, 0, 0, 0, 0, 0, 0, 0, 0, 0, 0, 0, 0, 0, 0, 0, 0, 0, 0, 0, 0, 0, 0, 0]) 1 1)))]) (w1 := []) hP hD [3] [0, 1, 2] rfl rfl (by decide) (by decide) hk1 hFc wP_nil wD_nil
  clear hPc hDc
  generalize H1 = H at hP hS ⊢
  have hP : va_P D vwCl [(z32, .inr (0, [.ref z29, .ref z33, .ref z34, .ref z35, .ref z30, .ref z31, .int 2, .int cn, .int 1])), (z33, .inl (G.1, 5, .inl (upd (upd (tI [0, 1, 2, 3, 4]) 0 1) 1 0))), (z34, .inl (G.1, 25, .inl (upd (tI [0, 0, 0, 0, 0, 0, 0, 0, 0, 0, 0, 0, 0, 0, 0, 0, 0, 0, 0, 0, 0, 0, 0, 0, 0]) 1 1)))] H := hP
  have hD : va_D A [(z32, .inr (0, [.ref z29, .ref z33, .ref z34, .ref z35, .ref z30, .ref z31, .int 2, .int cn, .int 1])), (z33, .inl (G.1, 5, .inl (upd (upd (tI [0, 1, 2, 3, 4]) 0 1) 1 0))), (z34, .inl (G.1, 25, .inl (upd (tI [0, 0, 0, 0, 0, 0, 0, 0, 0, 0, 0, 0, 0, 0, 0, 0, 0, 0, 0, 0, 0, 0, 0, 0, 0]) 1 1)))] := hD
  have hP9 := hP.sub (ws' := [(z32, .inr (0, [.ref z29, .ref z33, .ref z34, .ref z35, .ref z30, .ref z31, .int 2, .int cn, .int 1]))]) [0] rfl
  have hD9 := hD.sub (ws' := [(z32, .inr (0, [.ref z29, .ref z33, .ref z34, .ref z35, .ref z30, .ref z31, .int 2, .int cn, .int 1]))]) [0] (by decide) rfl
  exact W.vret hx hb hr (fun t ht hW => ⟨⟨(), rfl, trivial, ⟨by rw [ht]; exact hP9, va_K.moved hW.alike hK, hD9⟩⟩, hS.F ht⟩) hS.2.2 dX0_swap_133

set_option maxRecDepth 20000 in
theorem ggX0_weave_X0_weaveBehind : GoodIn wsX0_weave wsX0_weaveBehind := goodIn_r _ [23, 9, 10, 7, 11, 12, 13, 3, 14, 15, 16, 17, 18, 19, 20] (by decide +kernel) (by decide +kernel)
set_option maxRecDepth 20000 in
theorem gX0_weave_X0_weaveBehind : GoodIn wsX0_weave (va_wsS RX0 97 yX0_weaveBehind wsX0_weaveBehind) := goodIn_app (goodIn_of _ (by decide +kernel)) ggX0_weave_X0_weaveBehind
theorem dX0_weave_34 : decode cX0_weave 34 = .ok (.aload_n 0, 1) := by decide +kernel
theorem dX0_weave_35 : decode cX0_weave 35 = .ok (.iload_n 2, 1) := by decide +kernel
theorem dX0_weave_36 : decode cX0_weave 36 = .ok (.invokestatic 97, 3) := by decide +kernel
set_option maxHeartbeats 4000000 in
set_option maxRecDepth 100000 in
/-- X0_weave -/
theorem kX0_weave_m (l : Launch) (D : va_G) (G : tyG) (z35 : Nat) (sz : Nat) : Met l yX0_weave wsX0_weave ({ frames := 3, cells := 0, slots := 0, locals := 84 }) (va_Pc [.ref z35, .int (-1)] (wB D G sz [(z35, .inl (G.2.1, 10, .inr (.inl (tL [0, 1, 0, 1, 0, 1, 0, 1, 0, 1]))))])) (va_Qv (fun _ : Unit => True) (fun _ _ => True) (va_A [(z35, .inl (G.2.1, 10, .inr (.inl (tL [0, 1, 0, 1, 0, 1, 0, 1, 0, 1]))))] sz)) 0 0 (va_A [(z35, .inl (G.2.1, 10, .inr (.inl (tL [0, 1, 0, 1, 0, 1, 0, 1, 0, 1]))))] sz) := by
  refine Met.ofW (cc := cX0_weave) (maxL := 3) (ret := none) (by decide) rfl ?_
  intro p e s m args below meth c s₁ B hml hv
  obtain ⟨rfl, hsz, hP, hK, hD0, hN⟩ := hv
  have hx := B.exec
  have hb := B.bytes
  have hr := B.returns
  have hts := atoms_spec (ws := wsX0_weave) B.pre
  have hown : s.vm.findClass RX0 = some m.cls := findClass_of_methodNamed B.named
  have hlocks := B.notSynchronized
  subst hsz
  have hD := hD0.self (sz := s.heap.size)
  generalize hAe : va_A [(z35, .inl (G.2.1, 10, .inr (.inl (tL [0, 1, 0, 1, 0, 1, 0, 1, 0, 1]))))] s.heap.size = A at hD ⊢
  have hA : ∀ q : Nat, s.heap.size ≤ q → A q := fun q h => by rw [← hAe]; exact Or.inr h
  have hS : va_S A s.heap s.heap [] := va_S.rf
  have hP : va_P D vwCl [(z35, .inl (G.2.1, 10, .inr (.inl (tL [0, 1, 0, 1, 0, 1, 0, 1, 0, 1]))))] s.heap := hP
  have hl := lv_entry ([.ref z35, .int (-1)]) (n := 3) (Nat.le_of_ble_eq_true rfl)
  rw [lg_entry_eq]
  generalize (lg_sl ([.ref z35, .int (-1)]) ++ List.replicate (3 - (lg_sl ([.ref z35, .int (-1)])).length) Slot.unset).toArray = ls at hl ⊢
  have hl : lv_has ls 3 [(0, .ref z35), (1, .int (-1))] := hl
  refine lv_iconst (v := 2) hx hb dX0_weave_0 (by decide) ?_
  refine lv_iload_n hx hb dX0_weave_1 rfl (lv_at hl 1 rfl) ?_
  refine va_mabs hx hb (by rw [hml]; exact hl.1.symm) hown (hts (.methodLink RX0 58 Lib.Math.abs.name) mX0_weave_w0) (hts (.static Lib.Math.abs.name) mX0_weave_w1) (hts (.initialized "java/lang/Math") mX0_weave_w2) (hts (.code Lib.Math.abs.name Lib.Math.abs.code 1 (some .int)) mX0_weave_w3) (Nat.le_of_ble_eq_true rfl) (Nat.le_of_ble_eq_true rfl) (Nat.le_of_ble_eq_true rfl) (Nat.le_of_ble_eq_true rfl) dX0_weave_2 ?_
  refine wk_i 1 (by decide) ?_
  refine lv_iconst (v := 1) hx hb dX0_weave_5 (by decide) ?_
  refine lv_isub hx hb dX0_weave_6 ?_
  refine wk_i 0 (by decide) ?_
  refine lv_imul hx hb dX0_weave_7 ?_
  refine wk_i 0 (by decide) ?_
  refine lv_istore_n (lv' := [(2, .int 0), (0, .ref z35), (1, .int (-1))]) hx hb dX0_weave_8 rfl hl (by decide) rfl (fun ls hl => ?_)
  refine lv_iload_n hx hb dX0_weave_9 rfl (lv_at hl 0 rfl) ?_
  refine lv_if_lt (tgt := 21) hx hb dX0_weave_10 (by decide) (fun h9 => absurd h9 (by decide)) (fun _ => ?_)
  refine lv_iload_n hx hb dX0_weave_13 rfl (lv_at hl 0 rfl) ?_
  refine lv_iconst (v := 3) hx hb dX0_weave_14 (by decide) ?_
  refine lv_iadd hx hb dX0_weave_15 ?_
  refine wk_i 3 (by decide) ?_
  refine lv_aload_n hx hb dX0_weave_16 rfl (lv_at hl 1 rfl) ?_
  refine va_alen (v := 10) hx hb hK hP 0 1 rfl rfl rfl dX0_weave_17 ?_
  refine lv_icmp_lt (tgt := 22) hx hb dX0_weave_18 (by decide) (fun _ => ?_) (fun h9 => absurd h9 (by decide))
  refine lv_iload_n hx hb dX0_weave_22 rfl (lv_at hl 2 rfl) ?_
  refine lv_if_le (tgt := 34) hx hb dX0_weave_23 (by decide) (fun _ => ?_) (fun h9 => absurd h9 (by decide))
  refine lv_aload_n hx hb dX0_weave_34 rfl (lv_at hl 1 rfl) ?_
  refine lv_iload_n hx hb dX0_weave_35 rfl (lv_at hl 0 rfl) ?_
  have hPc := hP.sub (ws' := [(z35, .inl (G.2.1, 10, .inr (.inl (tL [0, 1, 0, 1, 0, 1, 0, 1, 0, 1]))))]) [0] rfl
  have hDc := hD.sub (ws' := [(z35, .inl (G.2.1, 10, .inr (.inl (tL [0, 1, 0, 1, 0, 1, 0, 1, 0, 1]))))]) [0] (by decide) rfl
  have hFc := va_free (wc := [(z35, .inl (G.2.1, 10, .inr (.inl (tL [0, 1, 0, 1, 0, 1, 0, 1, 0, 1]))))]) hD hS hA [0] rfl
  refine va_callv (va_runS (As := [.ref z35, .int 0]) (rest := []) ⟨hx, hb, hml, hown, hts⟩ (kX0_weaveBehind l D G z35 s.heap.size) (va_cwS 2 hts gX0_weave_X0_weaveBehind rfl rfl rfl (by decide +kernel) ⟨Nat.le_of_ble_eq_true rfl, Nat.le_of_ble_eq_true rfl⟩) ⟨wB_blind, wB_pre hPc hK hDc hN⟩ rfl rfl hl.1 rfl (lv_room (Nat.le_of_ble_eq_true rfl)) dX0_weave_36 ⟨Nat.le_of_ble_eq_true rfl, Nat.le_of_ble_eq_true rfl⟩) hS (fun q _ h => hFc q h) hFc (fun u t H1 locs ht hvm hr1 hB hz1 hk1 hS => ?_)
  obtain ⟨hP, hD⟩ := va_join (wr := []) (w1 := []) hP hD [0] [] rfl rfl (by decide) (by decide) hk1 hFc wP_nil wD_nil
  clear hPc hDc
  generalize H1 = H at hP hS ⊢
  have hP : va_P D vwCl [] H := hP
  have hD : va_D A [] := hD
  exact W.vret hx hb hr (fun t ht hW => ⟨⟨(), rfl, trivial, trivial⟩, hS.F ht⟩) hS.2.2 dX0_weave_39

theorem dX0_swap_103 : decode cX0_swap 103 = .ok (.iconst (-1), 1) := by decide +kernel
set_option maxHeartbeats 4000000 in
set_option maxRecDepth 100000 in
/-- X0_swap -/
theorem kX0_swap_m (l : Launch) (D : va_G) (G : tyG) (z32 : Nat) (z29 : Nat) (z33 : Nat) (z34 : Nat) (z35 : Nat) (z30 : Nat) (z31 : Nat) (cn : Int32) (sz : Nat) : Met l yX0_swap wsX0_swap ({ frames := 4, cells := 0, slots := 0, locals := 106 }) (va_Pc [.ref z32, .int (-1)] (wB D G sz [(z32, .inr (0, [.ref z29, .ref z33, .ref z34, .ref z35, .ref z30, .ref z31, .int 2, .int cn, .int 0])), (z33, .inl (G.1, 5, .inl (tI [0, 1, 2, 3, 4]))), (z34, .inl (G.1, 25, .inl (tI [0, 0, 0, 0, 0, 0, 0, 0, 0, 0, 0, 0, 0, 0, 0, 0, 0, 0, 0, 0, 0, 0, 0, 0, 0]))), (z35, .inl (G.2.1, 10, .inr (.inl (tL [0, 1, 0, 1, 0, 1, 0, 1, 0, 1]))))])) (va_Qv (fun _ : Unit => True) (fun _ t => wS D G (va_A [(z32, .inr (0, [.ref z29, .ref z33, .ref z34, .ref z35, .ref z30, .ref z31, .int 2, .int cn, .int 0])), (z33, .inl (G.1, 5, .inl (tI [0, 1, 2, 3, 4]))), (z34, .inl (G.1, 25, .inl (tI [0, 0, 0, 0, 0, 0, 0, 0, 0, 0, 0, 0, 0, 0, 0, 0, 0, 0, 0, 0, 0, 0, 0, 0, 0]))), (z35, .inl (G.2.1, 10, .inr (.inl (tL [0, 1, 0, 1, 0, 1, 0, 1, 0, 1]))))] sz) [(z32, .inr (0, [.ref z29, .ref z33, .ref z34, .ref z35, .ref z30, .ref z31, .int 2, .int cn, .int 1]))] t) (va_A [(z32, .inr (0, [.ref z29, .ref z33, .ref z34, .ref z35, .ref z30, .ref z31, .int 2, .int cn, .int 0])), (z33, .inl (G.1, 5, .inl (tI [0, 1, 2, 3, 4]))), (z34, .inl (G.1, 25, .inl (tI [0, 0, 0, 0, 0, 0, 0, 0, 0, 0, 0, 0, 0, 0, 0, 0, 0, 0, 0, 0, 0, 0, 0, 0, 0]))), (z35, .inl (G.2.1, 10, .inr (.inl (tL [0, 1, 0, 1, 0, 1, 0, 1, 0, 1]))))] sz)) 0 0 (va_A [(z32, .inr (0, [.ref z29, .ref z33, .ref z34, .ref z35, .ref z30, .ref z31, .int 2, .int cn, .int 0])), (z33, .inl (G.1, 5, .inl (tI [0, 1, 2, 3, 4]))), (z34, .inl (G.1, 25, .inl (tI [0, 0, 0, 0, 0, 0, 0, 0, 0, 0, 0, 0, 0, 0, 0, 0, 0, 0, 0, 0, 0, 0, 0, 0, 0]))), (z35, .inl (G.2.1, 10, .inr (.inl (tL [0, 1, 0, 1, 0, 1, 0, 1, 0, 1]))))] sz) := by
  refine Met.ofW (cc := cX0_swap) (maxL := 5) (ret := none) (by decide) rfl ?_
  intro p e s m args below meth c s₁ B hml hv
  obtain ⟨rfl, hsz, hP, hK, hD0, hN⟩ := hv
  have hx := B.exec
  have hb := B.bytes
  have hr := B.returns
  have hts := atoms_spec (ws := wsX0_swap) B.pre
  have hown : s.vm.findClass RX0 = some m.cls := findClass_of_methodNamed B.named
  have hlocks := B.notSynchronized
  subst hsz
  have hD := hD0.self (sz := s.heap.size)
  generalize hAe : va_A [(z32, .inr (0, [.ref z29, .ref z33, .ref z34, .ref z35, .ref z30, .ref z31, .int 2, .int cn, .int 0])), (z33, .inl (G.1, 5, .inl (tI [0, 1, 2, 3, 4]))), (z34, .inl (G.1, 25, .inl (tI [0, 0, 0, 0, 0, 0, 0, 0, 0, 0, 0, 0, 0, 0, 0, 0, 0, 0, 0, 0, 0, 0, 0, 0, 0]))), (z35, .inl (G.2.1, 10, .inr (.inl (tL [0, 1, 0, 1, 0, 1, 0, 1, 0, 1]))))] s.heap.size = A at hD ⊢
  have hA : ∀ q : Nat, s.heap.size ≤ q → A q := fun q h => by rw [← hAe]; exact Or.inr h
  have hS : va_S A s.heap s.heap [] := va_S.rf
  have hP : va_P D vwCl [(z32, .inr (0, [.ref z29, .ref z33, .ref z34, .ref z35, .ref z30, .ref z31, .int 2, .int cn, .int 0])), (z33, .inl (G.1, 5, .inl (tI [0, 1, 2, 3, 4]))), (z34, .inl (G.1, 25, .inl (tI [0, 0, 0, 0, 0, 0, 0, 0, 0, 0, 0, 0, 0, 0, 0, 0, 0, 0, 0, 0, 0, 0, 0, 0, 0]))), (z35, .inl (G.2.1, 10, .inr (.inl (tL [0, 1, 0, 1, 0, 1, 0, 1, 0, 1]))))] s.heap := hP
  have hl := lv_entry ([.ref z32, .int (-1)]) (n := 5) (Nat.le_of_ble_eq_true rfl)
  rw [lg_entry_eq]
  generalize (lg_sl ([.ref z32, .int (-1)]) ++ List.replicate (5 - (lg_sl ([.ref z32, .int (-1)])).length) Slot.unset).toArray = ls at hl ⊢
  have hl : lv_has ls 5 [(0, .ref z32), (1, .int (-1))] := hl
  refine lv_iload_n hx hb dX0_swap_0 rfl (lv_at hl 1 rfl) ?_
  refine va_mabs hx hb (by rw [hml]; exact hl.1.symm) hown (hts (.methodLink RX0 58 Lib.Math.abs.name) mX0_swap_w0) (hts (.static Lib.Math.abs.name) mX0_swap_w1) (hts (.initialized "java/lang/Math") mX0_swap_w2) (hts (.code Lib.Math.abs.name Lib.Math.abs.code 1 (some .int)) mX0_swap_w3) (Nat.le_of_ble_eq_true rfl) (Nat.le_of_ble_eq_true rfl) (Nat.le_of_ble_eq_true rfl) (Nat.le_of_ble_eq_true rfl) dX0_swap_1 ?_
  refine wk_i 1 (by decide) ?_
  refine lv_istore_n (lv' := [(2, .int 1), (0, .ref z32), (1, .int (-1))]) hx hb dX0_swap_4 rfl hl (by decide) rfl (fun ls hl => ?_)
  refine lv_iload_n hx hb dX0_swap_5 rfl (lv_at hl 0 rfl) ?_
  refine lv_iconst (v := 1) hx hb dX0_swap_6 (by decide) ?_
  refine lv_icmp_lt (tgt := 18) hx hb dX0_swap_7 (by decide) (fun h9 => absurd h9 (by decide)) (fun _ => ?_)
  refine lv_iload_n hx hb dX0_swap_10 rfl (lv_at hl 0 rfl) ?_
  refine lv_aload_n hx hb dX0_swap_11 rfl (lv_at hl 1 rfl) ?_
  refine va_get (D := D) (ci := 0) (v := .int 2) (C := RX0) (T := TX0) (N := 9) hx hb hts iX0_swap_X0 hown hK hP 0 rfl rfl 6 (by decide) (hts (.fieldLink RX0 35 "PuppetBridge$Bridge" "bars" "I") mX0_swap_w4) (fun _ h9 => h9) rfl dX0_swap_12 ?_
  refine lv_icmp_lt (tgt := 19) hx hb dX0_swap_15 (by decide) (fun _ => ?_) (fun h9 => absurd h9 (by decide))
  refine lv_aload_n hx hb dX0_swap_19 rfl (lv_at hl 1 rfl) ?_
  refine va_get (D := D) (ci := 0) (v := .ref z33) (C := RX0) (T := TX0) (N := 9) hx hb hts iX0_swap_X0 hown hK hP 0 rfl rfl 1 (by decide) (hts (.fieldLink RX0 15 "PuppetBridge$Bridge" "spots" "[I") mX0_swap_w5) (fun _ h9 => h9) rfl dX0_swap_20 ?_
  refine lv_iload_n hx hb dX0_swap_23 rfl (lv_at hl 0 rfl) ?_
  refine lv_iconst (v := 1) hx hb dX0_swap_24 (by decide) ?_
  refine lv_isub hx hb dX0_swap_25 ?_
  refine wk_i 0 (by decide) ?_
  refine va_iald hx hb hK hP 1 0 rfl rfl (wk_in rfl) dX0_swap_26 ?_
  refine wk_i 0 rfl ?_
  refine lv_istore_n (lv' := [(3, .int 0), (2, .int 1), (0, .ref z32), (1, .int (-1))]) hx hb dX0_swap_27 rfl hl (by decide) rfl (fun ls hl => ?_)
  refine lv_aload_n hx hb dX0_swap_28 rfl (lv_at hl 2 rfl) ?_
  refine va_get (D := D) (ci := 0) (v := .ref z33) (C := RX0) (T := TX0) (N := 9) hx hb hts iX0_swap_X0 hown hK hP 0 rfl rfl 1 (by decide) (hts (.fieldLink RX0 15 "PuppetBridge$Bridge" "spots" "[I") mX0_swap_w5) (fun _ h9 => h9) rfl dX0_swap_29 ?_
  refine lv_iload_n hx hb dX0_swap_32 rfl (lv_at hl 1 rfl) ?_
  refine lv_iconst (v := 1) hx hb dX0_swap_33 (by decide) ?_
  refine lv_isub hx hb dX0_swap_34 ?_
  refine wk_i 0 (by decide) ?_
  refine lv_aload_n hx hb dX0_swap_35 rfl (lv_at hl 2 rfl) ?_
  refine va_get (D := D) (ci := 0) (v := .ref z33) (C := RX0) (T := TX0) (N := 9) hx hb hts iX0_swap_X0 hown hK hP 0 rfl rfl 1 (by decide) (hts (.fieldLink RX0 15 "PuppetBridge$Bridge" "spots" "[I") mX0_swap_w5) (fun _ h9 => h9) rfl dX0_swap_36 ?_
  refine lv_iload_n hx hb dX0_swap_39 rfl (lv_at hl 1 rfl) ?_
  refine va_iald hx hb hK hP 1 0 rfl rfl (wk_in rfl) dX0_swap_40 ?_
  refine wk_i 1 rfl ?_
  refine va_iast hx hb hK hP hD hS 1 0 rfl rfl (wk_in rfl) dX0_swap_41 (fun H locs hP hD hS => ?_)
  have hP : va_P D vwCl [(z32, .inr (0, [.ref z29, .ref z33, .ref z34, .ref z35, .ref z30, .ref z31, .int 2, .int cn, .int 0])), (z33, .inl (G.1, 5, .inl (upd (tI [0, 1, 2, 3, 4]) 0 1))), (z34, .inl (G.1, 25, .inl (tI [0, 0, 0, 0, 0, 0, 0, 0, 0, 0, 0, 0, 0, 0, 0, 0, 0, 0, 0, 0, 0, 0, 0, 0, 0]))), (z35, .inl (G.2.1, 10, .inr (.inl (tL [0, 1, 0, 1, 0, 1, 0, 1, 0, 1]))))] H := hP
  have hD : va_D A [(z32, .inr (0, [.ref z29, .ref z33, .ref z34, .ref z35, .ref z30, .ref z31, .int 2, .int cn, .int 0])), (z33, .inl (G.1, 5, .inl (upd (tI [0, 1, 2, 3, 4]) 0 1))), (z34, .inl (G.1, 25, .inl (tI [0, 0, 0, 0, 0, 0, 0, 0, 0, 0, 0, 0, 0, 0, 0, 0, 0, 0, 0, 0, 0, 0, 0, 0, 0]))), (z35, .inl (G.2.1, 10, .inr (.inl (tL [0, 1, 0, 1, 0, 1, 0, 1, 0, 1]))))] := hD
  refine lv_aload_n hx hb dX0_swap_42 rfl (lv_at hl 2 rfl) ?_
  refine va_get (D := D) (ci := 0) (v := .ref z33) (C := RX0) (T := TX0) (N := 9) hx hb hts iX0_swap_X0 hown hK hP 0 rfl rfl 1 (by decide) (hts (.fieldLink RX0 15 "PuppetBridge$Bridge" "spots" "[I") mX0_swap_w5) (fun _ h9 => h9) rfl dX0_swap_43 ?_
  refine lv_iload_n hx hb dX0_swap_46 rfl (lv_at hl 1 rfl) ?_
  refine lv_iload_n hx hb dX0_swap_47 rfl (lv_at hl 0 rfl) ?_
  refine va_iast hx hb hK hP hD hS 1 0 rfl rfl (wk_in rfl) dX0_swap_48 (fun H locs hP hD hS => ?_)
  have hP : va_P D vwCl [(z32, .inr (0, [.ref z29, .ref z33, .ref z34, .ref z35, .ref z30, .ref z31, .int 2, .int cn, .int 0])), (z33, .inl (G.1, 5, .inl (upd (upd (tI [0, 1, 2, 3, 4]) 0 1) 1 0))), (z34, .inl (G.1, 25, .inl (tI [0, 0, 0, 0, 0, 0, 0, 0, 0, 0, 0, 0, 0, 0, 0, 0, 0, 0, 0, 0, 0, 0, 0, 0, 0]))), (z35, .inl (G.2.1, 10, .inr (.inl (tL [0, 1, 0, 1, 0, 1, 0, 1, 0, 1]))))] H := hP
  have hD : va_D A [(z32, .inr (0, [.ref z29, .ref z33, .ref z34, .ref z35, .ref z30, .ref z31, .int 2, .int cn, .int 0])), (z33, .inl (G.1, 5, .inl (upd (upd (tI [0, 1, 2, 3, 4]) 0 1) 1 0))), (z34, .inl (G.1, 25, .inl (tI [0, 0, 0, 0, 0, 0, 0, 0, 0, 0, 0, 0, 0, 0, 0, 0, 0, 0, 0, 0, 0, 0, 0, 0, 0]))), (z35, .inl (G.2.1, 10, .inr (.inl (tL [0, 1, 0, 1, 0, 1, 0, 1, 0, 1]))))] := hD
  refine lv_aload_n hx hb dX0_swap_49 rfl (lv_at hl 2 rfl) ?_
  refine va_get (D := D) (ci := 0) (v := .ref z33) (C := RX0) (T := TX0) (N := 9) hx hb hts iX0_swap_X0 hown hK hP 0 rfl rfl 1 (by decide) (hts (.fieldLink RX0 15 "PuppetBridge$Bridge" "spots" "[I") mX0_swap_w5) (fun _ h9 => h9) rfl dX0_swap_50 ?_
  refine lv_iload_n hx hb dX0_swap_53 rfl (lv_at hl 1 rfl) ?_
  refine lv_iconst (v := 1) hx hb dX0_swap_54 (by decide) ?_
  refine lv_isub hx hb dX0_swap_55 ?_
  refine wk_i 0 (by decide) ?_
  refine va_iald hx hb hK hP 1 0 rfl rfl (wk_in rfl) dX0_swap_56 ?_
  refine wk_i 1 rfl ?_
  refine lv_aload_n hx hb dX0_swap_57 rfl (lv_at hl 2 rfl) ?_
  refine va_get (D := D) (ci := 0) (v := .ref z33) (C := RX0) (T := TX0) (N := 9) hx hb hts iX0_swap_X0 hown hK hP 0 rfl rfl 1 (by decide) (hts (.fieldLink RX0 15 "PuppetBridge$Bridge" "spots" "[I") mX0_swap_w5) (fun _ h9 => h9) rfl dX0_swap_58 ?_
  refine lv_iload_n hx hb dX0_swap_61 rfl (lv_at hl 1 rfl) ?_
  refine va_iald hx hb hK hP 1 0 rfl rfl (wk_in rfl) dX0_swap_62 ?_
  refine wk_i 0 rfl ?_
  have hPc := hP.sub (ws' := []) [] rfl
  have hDc := hD.sub (ws' := []) [] (by decide) rfl
  have hFc := va_free (wc := []) hD hS hA [] rfl
  refine va_calli (va_runS (As := [.int 1, .int 0]) (rest := []) ⟨hx, hb, hml, hown, hts⟩ (kX0_pairOf l D G 1 0 H.size) (va_cwS 2 hts gX0_swap_X0_pairOf rfl rfl rfl (by decide +kernel) ⟨Nat.le_of_ble_eq_true rfl, Nat.le_of_ble_eq_true rfl⟩) ⟨wB_blind, wB_pre hPc hK hDc hN⟩ rfl rfl hl.1 rfl (lv_room (Nat.le_of_ble_eq_true rfl)) dX0_swap_63 ⟨Nat.le_of_ble_eq_true rfl, Nat.le_of_ble_eq_true rfl⟩) hS (fun q _ h => hFc q h) hFc (fun r1 u t H1 locs ht hvm hr1 hB hz1 hk1 hS => ?_)
  obtain ⟨hP, hD⟩ := va_join (wr := [(z32, .inr (0, [.ref z29, .ref z33, .ref z34, .ref z35, .ref z30, .ref z31, .int 2, .int cn, .int 0])), (z33, .inl (G.1, 5, .inl (upd (upd (tI [0, 1, 2, 3, 4]) 0 1) 1 0))), (z34, .inl (G.1, 25, .inl (tI [0, 0, 0, 0, 0, 0, 0, 0, 0, 0, 0, 0, 0, 0, 0, 0, 0, 0, 0, 0, 0, 0, 0, 0, 0]))), (z35, .inl (G.2.1, 10, .inr (.inl (tL [0, 1, 0, 1, 0, 1, 0, 1, 0, 1]))))]) (w1 := []) hP hD [] [0, 1, 2, 3] rfl rfl (by decide) (by decide) hk1 hFc wP_nil wD_nil
  clear hPc hDc
  generalize H1 = H at hP hS ⊢
  have hP : va_P D vwCl [(z32, .inr (0, [.ref z29, .ref z33, .ref z34, .ref z35, .ref z30, .ref z31, .int 2, .int cn, .int 0])), (z33, .inl (G.1, 5, .inl (upd (upd (tI [0, 1, 2, 3, 4]) 0 1) 1 0))), (z34, .inl (G.1, 25, .inl (tI [0, 0, 0, 0, 0, 0, 0, 0, 0, 0, 0, 0, 0, 0, 0, 0, 0, 0, 0, 0, 0, 0, 0, 0, 0]))), (z35, .inl (G.2.1, 10, .inr (.inl (tL [0, 1, 0, 1, 0, 1, 0, 1, 0, 1]))))] H := hP
  have hD : va_D A [(z32, .inr (0, [.ref z29, .ref z33, .ref z34, .ref z35, .ref z30, .ref z31, .int 2, .int cn, .int 0])), (z33, .inl (G.1, 5, .inl (upd (upd (tI [0, 1, 2, 3, 4]) 0 1) 1 0))), (z34, .inl (G.1, 25, .inl (tI [0, 0, 0, 0, 0, 0, 0, 0, 0, 0, 0, 0, 0, 0, 0, 0, 0, 0, 0, 0, 0, 0, 0, 0, 0]))), (z35, .inl (G.2.1, 10, .inr (.inl (tL [0, 1, 0, 1, 0, 1, 0, 1, 0, 1]))))] := hD
  obtain rfl : r1 = 1 := by rw [hr1]; decide
  refine lv_istore (lv' := [(4, .int 1), (3, .int 0), (2, .int 1), (0, .ref z32), (1, .int (-1))]) hx hb dX0_swap_66 hl (by decide) rfl (fun ls hl => ?_)
  refine lv_aload_n hx hb dX0_swap_68 rfl (lv_at hl 3 rfl) ?_
  refine lv_dup hx hb dX0_swap_69 rfl ?_
  refine va_get (D := D) (ci := 0) (v := .int 0) (C := RX0) (T := TX0) (N := 9) hx hb hts iX0_swap_X0 hown hK hP 0 rfl rfl 8 (by decide) (hts (.fieldLink RX0 42 "PuppetBridge$Bridge" "tangle" "I") mX0_swap_w6) (fun _ h9 => h9) rfl dX0_swap_70 ?_
  refine lv_aload_n hx hb dX0_swap_73 rfl (lv_at hl 3 rfl) ?_
  refine va_get (D := D) (ci := 0) (v := .ref z34) (C := RX0) (T := TX0) (N := 9) hx hb hts iX0_swap_X0 hown hK hP 0 rfl rfl 2 (by decide) (hts (.fieldLink RX0 18 "PuppetBridge$Bridge" "turns" "[I") mX0_swap_w7) (fun _ h9 => h9) rfl dX0_swap_74 ?_
  refine lv_iload hx hb dX0_swap_77 (lv_at hl 0 rfl) ?_
  refine va_iald hx hb hK hP 2 0 rfl rfl (wk_in rfl) dX0_swap_79 ?_
  refine wk_i 0 rfl ?_
  refine va_mabs hx hb (by rw [hml]; exact hl.1.symm) hown (hts (.methodLink RX0 58 Lib.Math.abs.name) mX0_swap_w0) (hts (.static Lib.Math.abs.name) mX0_swap_w1) (hts (.initialized "java/lang/Math") mX0_swap_w2) (hts (.code Lib.Math.abs.name Lib.Math.abs.code 1 (some .int)) mX0_swap_w3) (Nat.le_of_ble_eq_true rfl) (Nat.le_of_ble_eq_true rfl) (Nat.le_of_ble_eq_true rfl) (Nat.le_of_ble_eq_true rfl) dX0_swap_80 ?_
  refine wk_i 0 (by decide) ?_
  refine lv_isub hx hb dX0_swap_83 ?_
  refine wk_i 0 (by decide) ?_
  refine va_put (D := D) (ci := 0) (v := .int 0) (ty := (tyX0 8)) (C := RX0) (T := TX0) (N := 9) hx hb hts iX0_swap_X0 tyX0 tyX0_ok nmX0 hown hK hP hD hS 0 rfl rfl 8 (by decide) (hts (.fieldLink RX0 42 "PuppetBridge$Bridge" "tangle" "I") mX0_swap_w6) (fun _ h9 => h9) rfl (tyX0_ok 8 (by decide)) rfl rfl (Nat.le_of_ble_eq_true rfl) dX0_swap_84 (fun H locs hP hD hS => ?_)
  have hP : va_P D vwCl [(z32, .inr (0, [.ref z29, .ref z33, .ref z34, .ref z35, .ref z30, .ref z31, .int 2, .int cn, .int 0])), (z33, .inl (G.1, 5, .inl (upd (upd (tI [0, 1, 2, 3, 4]) 0 1) 1 0))), (z34, .inl (G.1, 25, .inl (tI [0, 0, 0, 0, 0, 0, 0, 0, 0, 0, 0, 0, 0, 0, 0, 0, 0, 0, 0, 0, 0, 0, 0, 0, 0]))), (z35, .inl (G.2.1, 10, .inr (.inl (tL [0, 1, 0, 1, 0, 1, 0, 1, 0, 1]))))] H := hP
  have hD : va_D A [(z32, .inr (0, [.ref z29, .ref z33, .ref z34, .ref z35, .ref z30, .ref z31, .int 2, .int cn, .int 0])), (z33, .inl (G.1, 5, .inl (upd (upd (tI [0, 1, 2, 3, 4]) 0 1) 1 0))), (z34, .inl (G.1, 25, .inl (tI [0, 0, 0, 0, 0, 0, 0, 0, 0, 0, 0, 0, 0, 0, 0, 0, 0, 0, 0, 0, 0, 0, 0, 0, 0]))), (z35, .inl (G.2.1, 10, .inr (.inl (tL [0, 1, 0, 1, 0, 1, 0, 1, 0, 1]))))] := hD
  refine lv_aload_n hx hb dX0_swap_87 rfl (lv_at hl 3 rfl) ?_
  refine va_get (D := D) (ci := 0) (v := .ref z34) (C := RX0) (T := TX0) (N := 9) hx hb hts iX0_swap_X0 hown hK hP 0 rfl rfl 2 (by decide) (hts (.fieldLink RX0 18 "PuppetBridge$Bridge" "turns" "[I") mX0_swap_w7) (fun _ h9 => h9) rfl dX0_swap_88 ?_
  refine lv_iload hx hb dX0_swap_91 (lv_at hl 0 rfl) ?_
  refine lv_dup2_11 hx hb dX0_swap_93 rfl rfl ?_
  refine va_iald hx hb hK hP 2 0 rfl rfl (wk_in rfl) dX0_swap_94 ?_
  refine wk_i 0 rfl ?_
  refine lv_iload_n hx hb dX0_swap_95 rfl (lv_at hl 4 rfl) ?_
  refine lv_if_le (tgt := 103) hx hb dX0_swap_96 (by decide) (fun _ => ?_) (fun h9 => absurd h9 (by decide))
  refine lv_iconst (v := (-1)) hx hb dX0_swap_103 (by decide) ?_
  refine lv_iadd hx hb dX0_swap_104 ?_
  refine wk_i (-1) (by decide) ?_
  refine va_iast hx hb hK hP hD hS 2 0 rfl rfl (wk_in rfl) dX0_swap_105 (fun H locs hP hD hS => ?_)
  have hP : va_P D vwCl [(z32, .inr (0, [.ref z29, .ref z33, .ref z34, .ref z35, .ref z30, .ref z31, .int 2, .int cn, .int 0])), (z33, .inl (G.1, 5, .inl (upd (upd (tI [0, 1, 2, 3, 4]) 0 1) 1 0))), (z34, .inl (G.1, 25, .inl (upd (tI [0, 0, 0, 0, 0, 0, 0, 0, 0, 0, 0, 0, 0, 0, 0, 0, 0, 0, 0, 0, 0, 0, 0, 0, 0]) 1 (-1)))), (z35, .inl (G.2.1, 10, .inr (.inl (tL [0, 1, 0, 1, 0, 1, 0, 1, 0, 1]))))] H := hP
  have hD : va_D A [(z32, .inr (0, [.ref z29, .ref z33, .ref z34, .ref z35, .ref z30, .ref z31, .int 2, .int cn, .int 0])), (z33, .inl (G.1, 5, .inl (upd (upd (tI [0, 1, 2, 3, 4]) 0 1) 1 0))), (z34, .inl (G.1, 25, .inl (upd (tI [0, 0, 0, 0, 0, 0, 0, 0, 0, 0, 0, 0, 0, 0, 0, 0, 0, 0, 0, 0, 0, 0, 0, 0, 0]) 1 (-1)))), (z35, .inl (G.2.1, 10, .inr (.inl (tL [0, 1, 0, 1, 0, 1, 0, 1, 0, 1]))))] := hD
  refine lv_aload_n hx hb dX0_swap_106 rfl (lv_at hl 3 rfl) ?_
  refine lv_dup hx hb dX0_swap_107 rfl ?_
  refine va_get (D := D) (ci := 0) (v := .int 0) (C := RX0) (T := TX0) (N := 9) hx hb hts iX0_swap_X0 hown hK hP 0 rfl rfl 8 (by decide) (hts (.fieldLink RX0 42 "PuppetBridge$Bridge" "tangle" "I") mX0_swap_w6) (fun _ h9 => h9) rfl dX0_swap_108 ?_
  refine lv_aload_n hx hb dX0_swap_111 rfl (lv_at hl 3 rfl) ?_
  refine va_get (D := D) (ci := 0) (v := .ref z34) (C := RX0) (T := TX0) (N := 9) hx hb hts iX0_swap_X0 hown hK hP 0 rfl rfl 2 (by decide) (hts (.fieldLink RX0 18 "PuppetBridge$Bridge" "turns" "[I") mX0_swap_w7) (fun _ h9 => h9) rfl dX0_swap_112 ?_
  refine lv_iload hx hb dX0_swap_115 (lv_at hl 0 rfl) ?_
  refine va_iald hx hb hK hP 2 0 rfl rfl (wk_in rfl) dX0_swap_117 ?_
  refine wk_i (-1) rfl ?_
  refine va_mabs hx hb (by rw [hml]; exact hl.1.symm) hown (hts (.methodLink RX0 58 Lib.Math.abs.name) mX0_swap_w0) (hts (.static Lib.Math.abs.name) mX0_swap_w1) (hts (.initialized "java/lang/Math") mX0_swap_w2) (hts (.code Lib.Math.abs.name Lib.Math.abs.code 1 (some .int)) mX0_swap_w3) (Nat.le_of_ble_eq_true rfl) (Nat.le_of_ble_eq_true rfl) (Nat.le_of_ble_eq_true rfl) (Nat.le_of_ble_eq_true rfl) dX0_swap_118 ?_
  refine wk_i 1 (by decide) ?_
  refine lv_iadd hx hb dX0_swap_121 ?_
  refine wk_i 1 (by decide) ?_
  refine va_put (D := D) (ci := 0) (v := .int 1) (ty := (tyX0 8)) (C := RX0) (T := TX0) (N := 9) hx hb hts iX0_swap_X0 tyX0 tyX0_ok nmX0 hown hK hP hD hS 0 rfl rfl 8 (by decide) (hts (.fieldLink RX0 42 "PuppetBridge$Bridge" "tangle" "I") mX0_swap_w6) (fun _ h9 => h9) rfl (tyX0_ok 8 (by decide)) rfl rfl (Nat.le_of_ble_eq_true rfl) dX0_swap_122 (fun H locs hP hD hS => ?_)
  have hP : va_P D vwCl [(z32, .inr (0, [.ref z29, .ref z33, .ref z34, .ref z35, .ref z30, .ref z31, .int 2, .int cn, .int 1])), (z33, .inl (G.1, 5, .inl (upd (upd (tI [0, 1, 2, 3, 4]) 0 1) 1 0))), (z34, .inl (G.1, 25, .inl (upd (tI [0, 0, 0, 0, 0, 0, 0, 0, 0, 0, 0, 0, 0, 0, 0, 0, 0, 0, 0, 0, 0, 0, 0, 0, 0]) 1 (-1)))), (z35, .inl (G.2.1, 10, .inr (.inl (tL [0, 1, 0, 1, 0, 1, 0, 1, 0, 1]))))] H := hP
  have hD : va_D A [(z32, .inr (0, [.ref z29, .ref z33, .ref z34, .ref z35, .ref z30, .ref z31, .int 2, .int cn, .int 1])), (z33, .inl (G.1, 5, .inl (upd (upd (tI [0, 1, 2, 3, 4]) 0 1) 1 0))), (z34, .inl (G.1, 25, .inl (upd (tI [0, 0, 0, 0, 0, 0, 0, 0, 0, 0, 0, 0, 0, 0, 0, 0, 0, 0, 0, 0, 0, 0, 0, 0, 0]) 1 (-1)))), (z35, .inl (G.2.1, 10, .inr (.inl (tL [0, 1, 0, 1, 0, 1, 0, 1, 0, 1]))))] := hD
  refine lv_aload_n hx hb dX0_swap_125 rfl (lv_at hl 3 rfl) ?_
  refine va_get (D := D) (ci := 0) (v := .ref z35) (C := RX0) (T := TX0) (N := 9) hx hb hts iX0_swap_X0 hown hK hP 0 rfl rfl 3 (by decide) (hts (.fieldLink RX0 21 "PuppetBridge$Bridge" "curve" "[J") mX0_swap_w8) (fun _ h9 => h9) rfl dX0_swap_126 ?_
  refine lv_iload_n hx hb dX0_swap_129 rfl (lv_at hl 4 rfl) ?_
  have hPc := hP.sub (ws' := [(z35, .inl (G.2.1, 10, .inr (.inl (tL [0, 1, 0, 1, 0, 1, 0, 1, 0, 1]))))]) [3] rfl
  have hDc := hD.sub (ws' := [(z35, .inl (G.2.1, 10, .inr (.inl (tL [0, 1, 0, 1, 0, 1, 0, 1, 0, 1]))))]) [3] (by decide) rfl
  have hFc := va_free (wc := [(z35, .inl (G.2.1, 10, .inr (.inl (tL [0, 1, 0, 1, 0, 1, 0, 1, 0, 1]))))]) hD hS hA [3] rfl
  refine va_callv (va_runS (As := [.ref z35, .int (-1)]) (rest := []) ⟨hx, hb, hml, hown, hts⟩ (kX0_weave_m l D G z35 H.size) (va_cwS 2 hts gX0_swap_X0_weave rfl rfl rfl (by decide +kernel) ⟨Nat.le_of_ble_eq_true rfl, Nat.le_of_ble_eq_true rfl⟩) ⟨wB_blind, wB_pre hPc hK hDc hN⟩ rfl rfl hl.1 rfl (lv_room (Nat.le_of_ble_eq_true rfl)) dX0_swap_130 ⟨Nat.le_of_ble_eq_true rfl, Nat.le_of_ble_eq_true rfl⟩) hS (fun q _ h => hFc q h) hFc (fun u t H1 locs ht hvm hr2 hB hz1 hk1 hS => ?_)
  obtain ⟨hP, hD⟩ := va_join (wr := [(z32, .inr (0, [.ref z29, .ref z33, .ref z34, .ref z35, .ref z30, .ref z31, .int 2, .int cn, .int 1])), (z33, .inl (G.1, 5, .inl (upd (upd (tI [0, 1, 2, 3, 4]) 0 1) 1 0))), (z34, .inl (G.1, 25, .inl (upd (tI [0, 0, 0, 0, 0, 0, 0, 0, 0, 0, 0, 0, 0, 0, 0, 0, 0, 0, 0, 0, 0, 0, 0, 0, 0]) 1 (-1))))]) (w1 := []) hP hD [3] [0, 1, 2] rfl rfl (by decide) (by decide) hk1 hFc wP_nil wD_nil
  clear hPc hDc
  generalize H1 = H at hP hS ⊢
  have hP : va_P D vwCl [(z32, .inr (0, [.ref z29, .ref z33, .ref z34, .ref z35, .ref z30, .ref z31, .int 2, .int cn, .int 1])), (z33, .inl (G.1, 5, .inl (upd (upd (tI [0, 1, 2, 3, 4]) 0 1) 1 0))), (z34, .inl (G.1, 25, .inl (upd (tI [0, 0, 0, 0, 0, 0, 0, 0, 0, 0, 0, 0, 0, 0, 0, 0, 0, 0, 0, 0, 0, 0, 0, 0, 0]) 1 (-1))))] H := hP
  have hD : va_D A [(z32, .inr (0, [.ref z29, .ref z33, .ref z34, .ref z35, .ref z30, .ref z31, .int 2, .int cn, .int 1])), (z33, .inl (G.1, 5, .inl (upd (upd (tI [0, 1, 2, 3, 4]) 0 1) 1 0))), (z34, .inl (G.1, 25, .inl (upd (tI [0, 0, 0, 0, 0, 0, 0, 0, 0, 0, 0, 0, 0, 0, 0, 0, 0, 0, 0, 0, 0, 0, 0, 0, 0]) 1 (-1))))] := hD
  have hP9 := hP.sub (ws' := [(z32, .inr (0, [.ref z29, .ref z33, .ref z34, .ref z35, .ref z30, .ref z31, .int 2, .int cn, .int 1]))]) [0] rfl
  have hD9 := hD.sub (ws' := [(z32, .inr (0, [.ref z29, .ref z33, .ref z34, .ref z35, .ref z30, .ref z31, .int 2, .int cn, .int 1]))]) [0] (by decide) rfl
  exact W.vret hx hb hr (fun t ht hW => ⟨⟨(), rfl, trivial, ⟨by rw [ht]; exact hP9, va_K.moved hW.alike hK, hD9⟩⟩, hS.F ht⟩) hS.2.2 dX0_swap_133

theorem mX11_pass_w0 : Cond.fieldLink RX11 33 "PuppetBridge" "bridge" "LPuppetBridge$Bridge;" ∈ wsX11_pass := by decide +kernel
theorem mX11_pass_w1 : Cond.fieldLink RX11 229 "PuppetBridge$Bridge" "bars" "I" ∈ wsX11_pass := by decide +kernel
theorem mX11_pass_w2 : Cond.fieldLink RX11 232 "PuppetBridge$Bridge" "count" "I" ∈ wsX11_pass := by decide +kernel
theorem mX11_pass_w3 : Cond.fieldLink RX11 241 "PuppetBridge$Bridge" "passes" "[I" ∈ wsX11_pass := by decide +kernel
theorem iX11_pass_X0 : ∀ w ∈ wsX00, w ∈ wsX11_pass := fun _ h => List.mem_cons_of_mem _ (List.mem_append_right _ h)
theorem iX11_pass_X11 : ∀ w ∈ wsX110, w ∈ wsX11_pass := fun _ h => List.mem_cons_of_mem _ (List.mem_append_left _ (List.mem_append_right _ h))
set_option maxRecDepth 20000 in
theorem ggX11_pass_X11_within : GoodIn wsX11_pass wsX11_within := goodIn_r _ [8] (by decide +kernel) (by decide +kernel)
set_option maxRecDepth 20000 in
theorem gX11_pass_X11_within : GoodIn wsX11_pass (va_wsS RX11 94 yX11_within wsX11_within) := goodIn_app (goodIn_of _ (by decide +kernel)) ggX11_pass_X11_within
set_option maxRecDepth 20000 in
theorem ggX11_pass_X0_swap : GoodIn wsX11_pass wsX0_swap := goodIn_r _ [13, 14, 15, 16, 17, 18, 19, 20, 21, 22, 23, 24, 12, 25, 26, 27, 28, 29, 30, 31, 32, 33, 34, 35, 36, 37, 38, 39, 40, 41, 42, 43, 44, 45, 46, 47, 48, 49, 50, 51, 52, 61, 62, 63, 64, 65, 66, 67, 68, 69] (by decide +kernel) (by decide +kernel)
set_option maxRecDepth 20000 in
theorem gX11_pass_X0_swap : GoodIn wsX11_pass (wsV RX11 244 RX0 yX0_swap wsX0_swap) := goodIn_app (goodIn_of _ (by decide +kernel)) ggX11_pass_X0_swap
theorem dX11_pass_0 : decode cX11_pass 0 = .ok (.iload_n 1, 1) := by decide +kernel
theorem dX11_pass_1 : decode cX11_pass 1 = .ok (.iconst 1, 1) := by decide +kernel
theorem dX11_pass_2 : decode cX11_pass 2 = .ok (.aload_n 0, 1) := by decide +kernel
theorem dX11_pass_3 : decode cX11_pass 3 = .ok (.getfield 33, 3) := by decide +kernel
theorem dX11_pass_6 : decode cX11_pass 6 = .ok (.getfield 229, 3) := by decide +kernel
theorem dX11_pass_9 : decode cX11_pass 9 = .ok (.iconst 1, 1) := by decide +kernel
theorem dX11_pass_10 : decode cX11_pass 10 = .ok (.isub, 1) := by decide +kernel
theorem dX11_pass_11 : decode cX11_pass 11 = .ok (.invokestatic 94, 3) := by decide +kernel
theorem dX11_pass_14 : decode cX11_pass 14 = .ok (.ifCond .ne 20, 3) := by decide +kernel
theorem dX11_pass_17 : decode cX11_pass 17 = .ok (.iload_n 1, 1) := by decide +kernel
theorem dX11_pass_18 : decode cX11_pass 18 = .ok (.iconst 1, 1) := by decide +kernel
theorem dX11_pass_19 : decode cX11_pass 19 = .ok (.aload_n 0, 1) := by decide +kernel
theorem dX11_pass_20 : decode cX11_pass 20 = .ok (.getfield 33, 3) := by decide +kernel
theorem dX11_pass_23 : decode cX11_pass 23 = .ok (.getfield 229, 3) := by decide +kernel
theorem dX11_pass_26 : decode cX11_pass 26 = .ok (.isub, 1) := by decide +kernel
theorem dX11_pass_27 : decode cX11_pass 27 = .ok (.iconst (-1), 1) := by decide +kernel
theorem dX11_pass_28 : decode cX11_pass 28 = .ok (.invokestatic 94, 3) := by decide +kernel
theorem dX11_pass_31 : decode cX11_pass 31 = .ok (.ifCond .eq 7, 3) := by decide +kernel
theorem dX11_pass_34 : decode cX11_pass 34 = .ok (.iconst 1, 1) := by decide +kernel
theorem dX11_pass_35 : decode cX11_pass 35 = .ok (.goto 4, 3) := by decide +kernel
theorem dX11_pass_38 : decode cX11_pass 38 = .ok (.iconst 0, 1) := by decide +kernel
theorem dX11_pass_39 : decode cX11_pass 39 = .ok (.istore_n 2, 1) := by decide +kernel
theorem dX11_pass_40 : decode cX11_pass 40 = .ok (.iload_n 2, 1) := by decide +kernel
theorem dX11_pass_41 : decode cX11_pass 41 = .ok (.ifCond .eq 15, 3) := by decide +kernel
theorem dX11_pass_44 : decode cX11_pass 44 = .ok (.aload_n 0, 1) := by decide +kernel
theorem dX11_pass_45 : decode cX11_pass 45 = .ok (.getfield 33, 3) := by decide +kernel
theorem dX11_pass_48 : decode cX11_pass 48 = .ok (.getfield 232, 3) := by decide +kernel
theorem dX11_pass_51 : decode cX11_pass 51 = .ok (.bipush 40, 2) := by decide +kernel
theorem dX11_pass_53 : decode cX11_pass 53 = .ok (.if_icmp .lt 5, 3) := by decide +kernel
theorem dX11_pass_56 : decode cX11_pass 56 = .ok (.iconst (-1), 1) := by decide +kernel
theorem dX11_pass_57 : decode cX11_pass 57 = .ok (.ireturn, 1) := by decide +kernel
theorem dX11_pass_58 : decode cX11_pass 58 = .ok (.aload_n 0, 1) := by decide +kernel
theorem dX11_pass_59 : decode cX11_pass 59 = .ok (.getfield 33, 3) := by decide +kernel
theorem dX11_pass_62 : decode cX11_pass 62 = .ok (.getfield 241, 3) := by decide +kernel
theorem dX11_pass_65 : decode cX11_pass 65 = .ok (.aload_n 0, 1) := by decide +kernel
theorem dX11_pass_66 : decode cX11_pass 66 = .ok (.getfield 33, 3) := by decide +kernel
theorem dX11_pass_69 : decode cX11_pass 69 = .ok (.getfield 232, 3) := by decide +kernel
theorem dX11_pass_72 : decode cX11_pass 72 = .ok (.iload_n 1, 1) := by decide +kernel
theorem dX11_pass_73 : decode cX11_pass 73 = .ok (.iastore, 1) := by decide +kernel
theorem dX11_pass_74 : decode cX11_pass 74 = .ok (.aload_n 0, 1) := by decide +kernel
theorem dX11_pass_75 : decode cX11_pass 75 = .ok (.getfield 33, 3) := by decide +kernel
theorem dX11_pass_78 : decode cX11_pass 78 = .ok (.dup, 1) := by decide +kernel
theorem dX11_pass_79 : decode cX11_pass 79 = .ok (.getfield 232, 3) := by decide +kernel
theorem dX11_pass_82 : decode cX11_pass 82 = .ok (.iconst 1, 1) := by decide +kernel
theorem dX11_pass_83 : decode cX11_pass 83 = .ok (.iadd, 1) := by decide +kernel
theorem dX11_pass_84 : decode cX11_pass 84 = .ok (.putfield 232, 3) := by decide +kernel
theorem dX11_pass_87 : decode cX11_pass 87 = .ok (.aload_n 0, 1) := by decide +kernel
theorem dX11_pass_88 : decode cX11_pass 88 = .ok (.getfield 33, 3) := by decide +kernel
theorem dX11_pass_91 : decode cX11_pass 91 = .ok (.iload_n 1, 1) := by decide +kernel
theorem dX11_pass_92 : decode cX11_pass 92 = .ok (.invokevirtual 244, 3) := by decide +kernel
theorem dX11_pass_95 : decode cX11_pass 95 = .ok (.aload_n 0, 1) := by decide +kernel
theorem dX11_pass_96 : decode cX11_pass 96 = .ok (.getfield 33, 3) := by decide +kernel
theorem dX11_pass_99 : decode cX11_pass 99 = .ok (.getfield 232, 3) := by decide +kernel
theorem dX11_pass_102 : decode cX11_pass 102 = .ok (.ireturn, 1) := by decide +kernel
set_option maxHeartbeats 4000000 in
set_option maxRecDepth 100000 in
/-- X11_pass -/
theorem kX11_pass (l : Launch) (D : va_G) (G : tyG) (h0 : Nat) (x1 : Int32) (z0 : Nat) (z23 : Nat) (z25 : Nat) (z32 : Nat) (z36 : Nat) (z40 : Nat) (z43 : Nat) (z49 : Nat) (z29 : Nat) (z33 : Nat) (z34 : Nat) (z35 : Nat) (z30 : Nat) (z31 : Nat) (sz : Nat) : Met l yX11_pass wsX11_pass ({ frames := 5, cells := 0, slots := 0, locals := 130 }) (va_Pc [.ref h0, .int x1] (wB D G sz [(h0, .inr (11, [.ref z0, .ref z23, .ref z25, .ref z32, .ref z36, .ref z40, .ref z43, .ref z49])), (z32, .inr (0, [.ref z29, .ref z33, .ref z34, .ref z35, .ref z30, .ref z31, .int 2, .int 0, .int 0])), (z29, .inl (G.1, 40, .inl (fun _ => 0))), (z33, .inl (G.1, 5, .inl (tI [0, 1, 2, 3, 4]))), (z34, .inl (G.1, 25, .inl (tI [0, 0, 0, 0, 0, 0, 0, 0, 0, 0, 0, 0, 0, 0, 0, 0, 0, 0, 0, 0, 0, 0, 0, 0, 0]))), (z35, .inl (G.2.1, 10, .inr (.inl (tL [0, 1, 0, 1, 0, 1, 0, 1, 0, 1]))))])) (va_Qi (fun (r : Int32) (_ : Unit) => r = sPass x1) (fun _ _ => True) (va_A [(h0, .inr (11, [.ref z0, .ref z23, .ref z25, .ref z32, .ref z36, .ref z40, .ref z43, .ref z49])), (z32, .inr (0, [.ref z29, .ref z33, .ref z34, .ref z35, .ref z30, .ref z31, .int 2, .int 0, .int 0])), (z29, .inl (G.1, 40, .inl (fun _ => 0))), (z33, .inl (G.1, 5, .inl (tI [0, 1, 2, 3, 4]))), (z34, .inl (G.1, 25, .inl (tI [0, 0, 0, 0, 0, 0, 0, 0, 0, 0, 0, 0, 0, 0, 0, 0, 0, 0, 0, 0, 0, 0, 0, 0, 0]))), (z35, .inl (G.2.1, 10, .inr (.inl (tL [0, 1, 0, 1, 0, 1, 0, 1, 0, 1]))))] sz)) 0 0 (va_A [(h0, .inr (11, [.ref z0, .ref z23, .ref z25, .ref z32, .ref z36, .ref z40, .ref z43, .ref z49])), (z32, .inr (0, [.ref z29, .ref z33, .ref z34, .ref z35, .ref z30, .ref z31, .int 2, .int 0, .int 0])), (z29, .inl (G.1, 40, .inl (fun _ => 0))), (z33, .inl (G.1, 5, .inl (tI [0, 1, 2, 3, 4]))), (z34, .inl (G.1, 25, .inl (tI [0, 0, 0, 0, 0, 0, 0, 0, 0, 0, 0, 0, 0, 0, 0, 0, 0, 0, 0, 0, 0, 0, 0, 0, 0]))), (z35, .inl (G.2.1, 10, .inr (.inl (tL [0, 1, 0, 1, 0, 1, 0, 1, 0, 1]))))] sz) := by
  refine Met.ofW (cc := cX11_pass) (maxL := 3) (ret := (some .int)) (by decide) rfl ?_
  intro p e s m args below meth c s₁ B hml hv
  obtain ⟨rfl, hsz, hP, hK, hD0, hN⟩ := hv
  have hx := B.exec
  have hb := B.bytes
  have hr := B.returns
  have hts := atoms_spec (ws := wsX11_pass) B.pre
  have hown : s.vm.findClass RX11 = some m.cls := findClass_of_methodNamed B.named
  have hlocks := B.notSynchronized
  subst hsz
  have hD := hD0.self (sz := s.heap.size)
  generalize hAe : va_A [(h0, .inr (11, [.ref z0, .ref z23, .ref z25, .ref z32, .ref z36, .ref z40, .ref z43, .ref z49])), (z32, .inr (0, [.ref z29, .ref z33, .ref z34, .ref z35, .ref z30, .ref z31, .int 2, .int 0, .int 0])), (z29, .inl (G.1, 40, .inl (fun _ => 0))), (z33, .inl (G.1, 5, .inl (tI [0, 1, 2, 3, 4]))), (z34, .inl (G.1, 25, .inl (tI [0, 0, 0, 0, 0, 0, 0, 0, 0, 0, 0, 0, 0, 0, 0, 0, 0, 0, 0, 0, 0, 0, 0, 0, 0]))), (z35, .inl (G.2.1, 10, .inr (.inl (tL [0, 1, 0, 1, 0, 1, 0, 1, 0, 1]))))] s.heap.size = A at hD ⊢
  have hA : ∀ q : Nat, s.heap.size ≤ q → A q := fun q h => by rw [← hAe]; exact Or.inr h
  have hS : va_S A s.heap s.heap [] := va_S.rf
  have hP : va_P D vwCl [(h0, .inr (11, [.ref z0, .ref z23, .ref z25, .ref z32, .ref z36, .ref z40, .ref z43, .ref z49])), (z32, .inr (0, [.ref z29, .ref z33, .ref z34, .ref z35, .ref z30, .ref z31, .int 2, .int 0, .int 0])), (z29, .inl (G.1, 40, .inl (fun _ => 0))), (z33, .inl (G.1, 5, .inl (tI [0, 1, 2, 3, 4]))), (z34, .inl (G.1, 25, .inl (tI [0, 0, 0, 0, 0, 0, 0, 0, 0, 0, 0, 0, 0, 0, 0, 0, 0, 0, 0, 0, 0, 0, 0, 0, 0]))), (z35, .inl (G.2.1, 10, .inr (.inl (tL [0, 1, 0, 1, 0, 1, 0, 1, 0, 1]))))] s.heap := hP
  have hl := lv_entry ([.ref h0, .int x1]) (n := 3) (Nat.le_of_ble_eq_true rfl)
  rw [lg_entry_eq]
  generalize (lg_sl ([.ref h0, .int x1]) ++ List.replicate (3 - (lg_sl ([.ref h0, .int x1])).length) Slot.unset).toArray = ls at hl ⊢
  have hl : lv_has ls 3 [(0, .ref h0), (1, .int x1)] := hl
  refine lv_iload_n hx hb dX11_pass_0 rfl (lv_at hl 1 rfl) ?_
  refine lv_iconst (v := 1) hx hb dX11_pass_1 (by decide) ?_
  refine lv_aload_n hx hb dX11_pass_2 rfl (lv_at hl 0 rfl) ?_
  refine va_get (D := D) (ci := 11) (v := .ref z32) (C := RX11) (T := TX11) (N := 8) hx hb hts iX11_pass_X11 hown hK hP 0 rfl rfl 3 (by decide) (hts (.fieldLink RX11 33 "PuppetBridge" "bridge" "LPuppetBridge$Bridge;") mX11_pass_w0) (fun _ h9 => h9) rfl dX11_pass_3 ?_
  refine va_get (D := D) (ci := 0) (v := .int 2) (C := RX0) (T := TX0) (N := 9) hx hb hts iX11_pass_X0 hown hK hP 1 rfl rfl 6 (by decide) (hts (.fieldLink RX11 229 "PuppetBridge$Bridge" "bars" "I") mX11_pass_w1) (fun _ h9 => h9) rfl dX11_pass_6 ?_
  refine lv_iconst (v := 1) hx hb dX11_pass_9 (by decide) ?_
  refine lv_isub hx hb dX11_pass_10 ?_
  refine wk_i 1 (by decide) ?_
  have hPc := hP.sub (ws' := []) [] rfl
  have hDc := hD.sub (ws' := []) [] (by decide) rfl
  have hFc := va_free (wc := []) hD hS hA [] rfl
  refine va_calli (va_runS (As := [.int x1, .int 1, .int 1]) (rest := []) ⟨hx, hb, hml, hown, hts⟩ (kX11_within l D G x1 1 1 s.heap.size) (va_cwS 3 hts gX11_pass_X11_within rfl rfl rfl (by decide +kernel) ⟨Nat.le_of_ble_eq_true rfl, Nat.le_of_ble_eq_true rfl⟩) ⟨wB_blind, wB_pre hPc hK hDc hN⟩ rfl rfl hl.1 rfl (lv_room (Nat.le_of_ble_eq_true rfl)) dX11_pass_11 ⟨Nat.le_of_ble_eq_true rfl, Nat.le_of_ble_eq_true rfl⟩) hS (fun q _ h => hFc q h) hFc (fun r1 u t H1 locs ht hvm hr1 hB hz1 hk1 hS => ?_)
  obtain ⟨hP, hD⟩ := va_join (wr := [(h0, .inr (11, [.ref z0, .ref z23, .ref z25, .ref z32, .ref z36, .ref z40, .ref z43, .ref z49])), (z32, .inr (0, [.ref z29, .ref z33, .ref z34, .ref z35, .ref z30, .ref z31, .int 2, .int 0, .int 0])), (z29, .inl (G.1, 40, .inl (fun _ => 0))), (z33, .inl (G.1, 5, .inl (tI [0, 1, 2, 3, 4]))), (z34, .inl (G.1, 25, .inl (tI [0, 0, 0, 0, 0, 0, 0, 0, 0, 0, 0, 0, 0, 0, 0, 0, 0, 0, 0, 0, 0, 0, 0, 0, 0]))), (z35, .inl (G.2.1, 10, .inr (.inl (tL [0, 1, 0, 1, 0, 1, 0, 1, 0, 1]))))]) (w1 := []) hP hD [] [0, 1, 2, 3, 4, 5] rfl rfl (by decide) (by decide) hk1 hFc wP_nil wD_nil
  clear hPc hDc
  generalize H1 = H at hP hS ⊢
  have hP : va_P D vwCl [(h0, .inr (11, [.ref z0, .ref z23, .ref z25, .ref z32, .ref z36, .ref z40, .ref z43, .ref z49])), (z32, .inr (0, [.ref z29, .ref z33, .ref z34, .ref z35, .ref z30, .ref z31, .int 2, .int 0, .int 0])), (z29, .inl (G.1, 40, .inl (fun _ => 0))), (z33, .inl (G.1, 5, .inl (tI [0, 1, 2, 3, 4]))), (z34, .inl (G.1, 25, .inl (tI [0, 0, 0, 0, 0, 0, 0, 0, 0, 0, 0, 0, 0, 0, 0, 0, 0, 0, 0, 0, 0, 0, 0, 0, 0]))), (z35, .inl (G.2.1, 10, .inr (.inl (tL [0, 1, 0, 1, 0, 1, 0, 1, 0, 1]))))] H := hP
  have hD : va_D A [(h0, .inr (11, [.ref z0, .ref z23, .ref z25, .ref z32, .ref z36, .ref z40, .ref z43, .ref z49])), (z32, .inr (0, [.ref z29, .ref z33, .ref z34, .ref z35, .ref z30, .ref z31, .int 2, .int 0, .int 0])), (z29, .inl (G.1, 40, .inl (fun _ => 0))), (z33, .inl (G.1, 5, .inl (tI [0, 1, 2, 3, 4]))), (z34, .inl (G.1, 25, .inl (tI [0, 0, 0, 0, 0, 0, 0, 0, 0, 0, 0, 0, 0, 0, 0, 0, 0, 0, 0, 0, 0, 0, 0, 0, 0]))), (z35, .inl (G.2.1, 10, .inr (.inl (tL [0, 1, 0, 1, 0, 1, 0, 1, 0, 1]))))] := hD
  refine lv_if_ne (tgt := 34) hx hb dX11_pass_14 (by decide) (fun c2 => ?_) (fun c2 => ?_)
  · have kc2 : (inB x1 1 1) = true := wk_b1 hr1 c2
    obtain rfl := inB_eq kc2
    refine lv_iconst (v := 1) hx hb dX11_pass_34 (by decide) ?_
    refine lv_goto (tgt := 39) hx hb dX11_pass_35 (by decide) ?_
    refine lv_istore_n (lv' := [(2, .int 1), (0, .ref h0), (1, .int 1)]) hx hb dX11_pass_39 rfl hl (by decide) rfl (fun ls hl => ?_)
    refine lv_iload_n hx hb dX11_pass_40 rfl (lv_at hl 0 rfl) ?_
    refine lv_if_eq (tgt := 56) hx hb dX11_pass_41 (by decide) (fun h9 => absurd h9 (by decide)) (fun _ => ?_)
    refine lv_aload_n hx hb dX11_pass_44 rfl (lv_at hl 1 rfl) ?_
    refine va_get (D := D) (ci := 11) (v := .ref z32) (C := RX11) (T := TX11) (N := 8) hx hb hts iX11_pass_X11 hown hK hP 0 rfl rfl 3 (by decide) (hts (.fieldLink RX11 33 "PuppetBridge" "bridge" "LPuppetBridge$Bridge;") mX11_pass_w0) (fun _ h9 => h9) rfl dX11_pass_45 ?_
    refine va_get (D := D) (ci := 0) (v := .int 0) (C := RX0) (T := TX0) (N := 9) hx hb hts iX11_pass_X0 hown hK hP 1 rfl rfl 7 (by decide) (hts (.fieldLink RX11 232 "PuppetBridge$Bridge" "count" "I") mX11_pass_w2) (fun _ h9 => h9) rfl dX11_pass_48 ?_
    refine lv_bipush (v := 40) hx hb dX11_pass_51 (by decide) ?_
    refine lv_icmp_lt (tgt := 58) hx hb dX11_pass_53 (by decide) (fun _ => ?_) (fun h9 => absurd h9 (by decide))
    refine lv_aload_n hx hb dX11_pass_58 rfl (lv_at hl 1 rfl) ?_
    refine va_get (D := D) (ci := 11) (v := .ref z32) (C := RX11) (T := TX11) (N := 8) hx hb hts iX11_pass_X11 hown hK hP 0 rfl rfl 3 (by decide) (hts (.fieldLink RX11 33 "PuppetBridge" "bridge" "LPuppetBridge$Bridge;") mX11_pass_w0) (fun _ h9 => h9) rfl dX11_pass_59 ?_
    refine va_get (D := D) (ci := 0) (v := .ref z29) (C := RX0) (T := TX0) (N := 9) hx hb hts iX11_pass_X0 hown hK hP 1 rfl rfl 0 (by decide) (hts (.fieldLink RX11 241 "PuppetBridge$Bridge" "passes" "[I") mX11_pass_w3) (fun _ h9 => h9) rfl dX11_pass_62 ?_
    refine lv_aload_n hx hb dX11_pass_65 rfl (lv_at hl 1 rfl) ?_
    refine va_get (D := D) (ci := 11) (v := .ref z32) (C := RX11) (T := TX11) (N := 8) hx hb hts iX11_pass_X11 hown hK hP 0 rfl rfl 3 (by decide) (hts (.fieldLink RX11 33 "PuppetBridge" "bridge" "LPuppetBridge$Bridge;") mX11_pass_w0) (fun _ h9 => h9) rfl dX11_pass_66 ?_
    refine va_get (D := D) (ci := 0) (v := .int 0) (C := RX0) (T := TX0) (N := 9) hx hb hts iX11_pass_X0 hown hK hP 1 rfl rfl 7 (by decide) (hts (.fieldLink RX11 232 "PuppetBridge$Bridge" "count" "I") mX11_pass_w2) (fun _ h9 => h9) rfl dX11_pass_69 ?_
    refine lv_iload_n hx hb dX11_pass_72 rfl (lv_at hl 2 rfl) ?_
    refine va_iast hx hb hK hP hD hS 2 0 rfl rfl (wk_in rfl) dX11_pass_73 (fun H locs hP hD hS => ?_)
    have hP : va_P D vwCl [(h0, .inr (11, [.ref z0, .ref z23, .ref z25, .ref z32, .ref z36, .ref z40, .ref z43, .ref z49])), (z32, .inr (0, [.ref z29, .ref z33, .ref z34, .ref z35, .ref z30, .ref z31, .int 2, .int 0, .int 0])), (z29, .inl (G.1, 40, .inl (upd (fun _ => 0) 0 1))), (z33, .inl (G.1, 5, .inl (tI [0, 1, 2, 3, 4]))), (z34, .inl (G.1, 25, .inl (tI [0, 0, 0, 0, 0, 0, 0, 0, 0, 0, 0, 0, 0, 0, 0, 0, 0, 0, 0, 0, 0, 0, 0, 0, 0]))), (z35, .inl (G.2.1, 10, .inr (.inl (tL [0, 1, 0, 1, 0, 1, 0, 1, 0, 1]))))] H := hP
    have hD : va_D A [(h0, .inr (11, [.ref z0, .ref z23, .ref z25, .ref z32, .ref z36, .ref z40, .ref z43, .ref z49])), (z32, .inr (0, [.ref z29, .ref z33, .ref z34, .ref z35, .ref z30, .ref z31, .int 2, .int 0, .int 0])), (z29, .inl (G.1, 40, .inl (upd (fun _ => 0) 0 1))), (z33, .inl (G.1, 5, .inl (tI [0, 1, 2, 3, 4]))), (z34, .inl (G.1, 25, .inl (tI [0, 0, 0, 0, 0, 0, 0, 0, 0, 0, 0, 0, 0, 0, 0, 0, 0, 0, 0, 0, 0, 0, 0, 0, 0]))), (z35, .inl (G.2.1, 10, .inr (.inl (tL [0, 1, 0, 1, 0, 1, 0, 1, 0, 1]))))] := hD
    refine lv_aload_n hx hb dX11_pass_74 rfl (lv_at hl 1 rfl) ?_
    refine va_get (D := D) (ci := 11) (v := .ref z32) (C := RX11) (T := TX11) (N := 8) hx hb hts iX11_pass_X11 hown hK hP 0 rfl rfl 3 (by decide) (hts (.fieldLink RX11 33 "PuppetBridge" "bridge" "LPuppetBridge$Bridge;") mX11_pass_w0) (fun _ h9 => h9) rfl dX11_pass_75 ?_
    refine lv_dup hx hb dX11_pass_78 rfl ?_
    refine va_get (D := D) (ci := 0) (v := .int 0) (C := RX0) (T := TX0) (N := 9) hx hb hts iX11_pass_X0 hown hK hP 1 rfl rfl 7 (by decide) (hts (.fieldLink RX11 232 "PuppetBridge$Bridge" "count" "I") mX11_pass_w2) (fun _ h9 => h9) rfl dX11_pass_79 ?_
    refine lv_iconst (v := 1) hx hb dX11_pass_82 (by decide) ?_
    refine lv_iadd hx hb dX11_pass_83 ?_
    refine wk_i 1 (by decide) ?_
    refine va_put (D := D) (ci := 0) (v := .int 1) (ty := (tyX0 7)) (C := RX0) (T := TX0) (N := 9) hx hb hts iX11_pass_X0 tyX0 tyX0_ok nmX0 hown hK hP hD hS 1 rfl rfl 7 (by decide) (hts (.fieldLink RX11 232 "PuppetBridge$Bridge" "count" "I") mX11_pass_w2) (fun _ h9 => h9) rfl (tyX0_ok 7 (by decide)) rfl rfl (Nat.le_of_ble_eq_true rfl) dX11_pass_84 (fun H locs hP hD hS => ?_)
    have hP : va_P D vwCl [(h0, .inr (11, [.ref z0, .ref z23, .ref z25, .ref z32, .ref z36, .ref z40, .ref z43, .ref z49])), (z32, .inr (0, [.ref z29, .ref z33, .ref z34, .ref z35, .ref z30, .ref z31, .int 2, .int 1, .int 0])), (z29, .inl (G.1, 40, .inl (upd (fun _ => 0) 0 1))), (z33, .inl (G.1, 5, .inl (tI [0, 1, 2, 3, 4]))), (z34, .inl (G.1, 25, .inl (tI [0, 0, 0, 0, 0, 0, 0, 0, 0, 0, 0, 0, 0, 0, 0, 0, 0, 0, 0, 0, 0, 0, 0, 0, 0]))), (z35, .inl (G.2.1, 10, .inr (.inl (tL [0, 1, 0, 1, 0, 1, 0, 1, 0, 1]))))] H := hP
    have hD : va_D A [(h0, .inr (11, [.ref z0, .ref z23, .ref z25, .ref z32, .ref z36, .ref z40, .ref z43, .ref z49])), (z32, .inr (0, [.ref z29, .ref z33, .ref z34, .ref z35, .ref z30, .ref z31, .int 2, .int 1, .int 0])), (z29, .inl (G.1, 40, .inl (upd (fun _ => 0) 0 1))), (z33, .inl (G.1, 5, .inl (tI [0, 1, 2, 3, 4]))), (z34, .inl (G.1, 25, .inl (tI [0, 0, 0, 0, 0, 0, 0, 0, 0, 0, 0, 0, 0, 0, 0, 0, 0, 0, 0, 0, 0, 0, 0, 0, 0]))), (z35, .inl (G.2.1, 10, .inr (.inl (tL [0, 1, 0, 1, 0, 1, 0, 1, 0, 1]))))] := hD
    refine lv_aload_n hx hb dX11_pass_87 rfl (lv_at hl 1 rfl) ?_
    refine va_get (D := D) (ci := 11) (v := .ref z32) (C := RX11) (T := TX11) (N := 8) hx hb hts iX11_pass_X11 hown hK hP 0 rfl rfl 3 (by decide) (hts (.fieldLink RX11 33 "PuppetBridge" "bridge" "LPuppetBridge$Bridge;") mX11_pass_w0) (fun _ h9 => h9) rfl dX11_pass_88 ?_
    refine lv_iload_n hx hb dX11_pass_91 rfl (lv_at hl 2 rfl) ?_
    have hPc := hP.sub (ws' := [(z32, .inr (0, [.ref z29, .ref z33, .ref z34, .ref z35, .ref z30, .ref z31, .int 2, .int 1, .int 0])), (z33, .inl (G.1, 5, .inl (tI [0, 1, 2, 3, 4]))), (z34, .inl (G.1, 25, .inl (tI [0, 0, 0, 0, 0, 0, 0, 0, 0, 0, 0, 0, 0, 0, 0, 0, 0, 0, 0, 0, 0, 0, 0, 0, 0]))), (z35, .inl (G.2.1, 10, .inr (.inl (tL [0, 1, 0, 1, 0, 1, 0, 1, 0, 1]))))]) [1, 3, 4, 5] rfl
    have hDc := hD.sub (ws' := [(z32, .inr (0, [.ref z29, .ref z33, .ref z34, .ref z35, .ref z30, .ref z31, .int 2, .int 1, .int 0])), (z33, .inl (G.1, 5, .inl (tI [0, 1, 2, 3, 4]))), (z34, .inl (G.1, 25, .inl (tI [0, 0, 0, 0, 0, 0, 0, 0, 0, 0, 0, 0, 0, 0, 0, 0, 0, 0, 0, 0, 0, 0, 0, 0, 0]))), (z35, .inl (G.2.1, 10, .inr (.inl (tL [0, 1, 0, 1, 0, 1, 0, 1, 0, 1]))))]) [1, 3, 4, 5] (by decide) rfl
    have hFc := va_free (wc := [(z32, .inr (0, [.ref z29, .ref z33, .ref z34, .ref z35, .ref z30, .ref z31, .int 2, .int 1, .int 0])), (z33, .inl (G.1, 5, .inl (tI [0, 1, 2, 3, 4]))), (z34, .inl (G.1, 25, .inl (tI [0, 0, 0, 0, 0, 0, 0, 0, 0, 0, 0, 0, 0, 0, 0, 0, 0, 0, 0, 0, 0, 0, 0, 0, 0]))), (z35, .inl (G.2.1, 10, .inr (.inl (tL [0, 1, 0, 1, 0, 1, 0, 1, 0, 1]))))]) hD hS hA [1, 3, 4, 5] rfl
    refine va_callv (va_runV (As := [.int 1]) (rest := []) ⟨hx, hb, hml, hown, hts⟩ (kX0_swap_1 l D G z32 z29 z33 z34 z35 z30 z31 1 H.size) (cwV 1 hts gX11_pass_X0_swap rfl rfl rfl (by decide +kernel) ⟨Nat.le_of_ble_eq_true rfl, Nat.le_of_ble_eq_true rfl⟩) ⟨wB_blind, va_recv hK hPc (ci := 0) (q0 := 0) rfl rfl, wB_pre hPc hK hDc hN⟩ rfl rfl hl.1 rfl (lv_room (Nat.le_of_ble_eq_true rfl)) dX11_pass_92 ⟨Nat.le_of_ble_eq_true rfl, Nat.le_of_ble_eq_true rfl⟩) hS (fun q _ h => hFc q h) hFc (fun u t H1 locs ht hvm hr3 hB hz1 hk1 hS => ?_)
    obtain ⟨hP1, hK1, hD1⟩ := hB
    rw [ht] at hP1
    obtain ⟨hP, hD⟩ := va_join (wr := [(h0, .inr (11, [.ref z0, .ref z23, .ref z25, .ref z32, .ref z36, .ref z40, .ref z43, .ref z49])), (z29, .inl (G.1, 40, .inl (upd (fun _ => 0) 0 1)))]) (w1 := [(z32, .inr (0, [.ref z29, .ref z33, .ref z34, .ref z35, .ref z30, .ref z31, .int 2, .int 1, .int 1]))]) hP hD [1, 3, 4, 5] [0, 2] rfl rfl (by decide) (by decide) hk1 hFc hP1 hD1
    clear hPc hDc
    generalize H1 = H at hP hS ⊢
    have hP : va_P D vwCl [(h0, .inr (11, [.ref z0, .ref z23, .ref z25, .ref z32, .ref z36, .ref z40, .ref z43, .ref z49])), (z29, .inl (G.1, 40, .inl (upd (fun _ => 0) 0 1))), (z32, .inr (0, [.ref z29, .ref z33, .ref z34, .ref z35, .ref z30, .ref z31, .int 2, .int 1, .int 1]))] H := hP
    have hD : va_D A [(h0, .inr (11, [.ref z0, .ref z23, .ref z25, .ref z32, .ref z36, .ref z40, .ref z43, .ref z49])), (z29, .inl (G.1, 40, .inl (upd (fun _ => 0) 0 1))), (z32, .inr (0, [.ref z29, .ref z33, .ref z34, .ref z35, .ref z30, .ref z31, .int 2, .int 1, .int 1]))] := hD
    refine lv_aload_n hx hb dX11_pass_95 rfl (lv_at hl 1 rfl) ?_
    refine va_get (D := D) (ci := 11) (v := .ref z32) (C := RX11) (T := TX11) (N := 8) hx hb hts iX11_pass_X11 hown hK hP 0 rfl rfl 3 (by decide) (hts (.fieldLink RX11 33 "PuppetBridge" "bridge" "LPuppetBridge$Bridge;") mX11_pass_w0) (fun _ h9 => h9) rfl dX11_pass_96 ?_
    refine va_get (D := D) (ci := 0) (v := .int 1) (C := RX0) (T := TX0) (N := 9) hx hb hts iX11_pass_X0 hown hK hP 2 rfl rfl 7 (by decide) (hts (.fieldLink RX11 232 "PuppetBridge$Bridge" "count" "I") mX11_pass_w2) (fun _ h9 => h9) rfl dX11_pass_99 ?_
    exact W.iret (v := 1) hx hb hr (fun t ht hW => ⟨⟨1, (), rfl, by decide, trivial⟩, hS.F ht⟩) hS.2.2 dX11_pass_102
  · have kc2 : (inB x1 1 1) = false := wk_b0 hr1 c2
    refine lv_iload_n hx hb dX11_pass_17 rfl (lv_at hl 1 rfl) ?_
    refine lv_iconst (v := 1) hx hb dX11_pass_18 (by decide) ?_
    refine lv_aload_n hx hb dX11_pass_19 rfl (lv_at hl 0 rfl) ?_
    refine va_get (D := D) (ci := 11) (v := .ref z32) (C := RX11) (T := TX11) (N := 8) hx hb hts iX11_pass_X11 hown hK hP 0 rfl rfl 3 (by decide) (hts (.fieldLink RX11 33 "PuppetBridge" "bridge" "LPuppetBridge$Bridge;") mX11_pass_w0) (fun _ h9 => h9) rfl dX11_pass_20 ?_
    refine va_get (D := D) (ci := 0) (v := .int 2) (C := RX0) (T := TX0) (N := 9) hx hb hts iX11_pass_X0 hown hK hP 1 rfl rfl 6 (by decide) (hts (.fieldLink RX11 229 "PuppetBridge$Bridge" "bars" "I") mX11_pass_w1) (fun _ h9 => h9) rfl dX11_pass_23 ?_
    refine lv_isub hx hb dX11_pass_26 ?_
    refine wk_i (-1) (by decide) ?_
    refine lv_iconst (v := (-1)) hx hb dX11_pass_27 (by decide) ?_
    have hPc := hP.sub (ws' := []) [] rfl
    have hDc := hD.sub (ws' := []) [] (by decide) rfl
    have hFc := va_free (wc := []) hD hS hA [] rfl
    refine va_calli (va_runS (As := [.int x1, .int (-1), .int (-1)]) (rest := []) ⟨hx, hb, hml, hown, hts⟩ (kX11_within l D G x1 (-1) (-1) H.size) (va_cwS 3 hts gX11_pass_X11_within rfl rfl rfl (by decide +kernel) ⟨Nat.le_of_ble_eq_true rfl, Nat.le_of_ble_eq_true rfl⟩) ⟨wB_blind, wB_pre hPc hK hDc hN⟩ rfl rfl hl.1 rfl (lv_room (Nat.le_of_ble_eq_true rfl)) dX11_pass_28 ⟨Nat.le_of_ble_eq_true rfl, Nat.le_of_ble_eq_true rfl⟩) hS (fun q _ h => hFc q h) hFc (fun r4 u t H1 locs ht hvm hr4 hB hz1 hk1 hS => ?_)
    obtain ⟨hP, hD⟩ := va_join (wr := [(h0, .inr (11, [.ref z0, .ref z23, .ref z25, .ref z32, .ref z36, .ref z40, .ref z43, .ref z49])), (z32, .inr (0, [.ref z29, .ref z33, .ref z34, .ref z35, .ref z30, .ref z31, .int 2, .int 0, .int 0])), (z29, .inl (G.1, 40, .inl (fun _ => 0))), (z33, .inl (G.1, 5, .inl (tI [0, 1, 2, 3, 4]))), (z34, .inl (G.1, 25, .inl (tI [0, 0, 0, 0, 0, 0, 0, 0, 0, 0, 0, 0, 0, 0, 0, 0, 0, 0, 0, 0, 0, 0, 0, 0, 0]))), (z35, .inl (G.2.1, 10, .inr (.inl (tL [0, 1, 0, 1, 0, 1, 0, 1, 0, 1]))))]) (w1 := []) hP hD [] [0, 1, 2, 3, 4, 5] rfl rfl (by decide) (by decide) hk1 hFc wP_nil wD_nil
    clear hPc hDc
    generalize H1 = H at hP hS ⊢
    have hP : va_P D vwCl [(h0, .inr (11, [.ref z0, .ref z23, .ref z25, .ref z32, .ref z36, .ref z40, .ref z43, .ref z49])), (z32, .inr (0, [.ref z29, .ref z33, .ref z34, .ref z35, .ref z30, .ref z31, .int 2, .int 0, .int 0])), (z29, .inl (G.1, 40, .inl (fun _ => 0))), (z33, .inl (G.1, 5, .inl (tI [0, 1, 2, 3, 4]))), (z34, .inl (G.1, 25, .inl (tI [0, 0, 0, 0, 0, 0, 0, 0, 0, 0, 0, 0, 0, 0, 0, 0, 0, 0, 0, 0, 0, 0, 0, 0, 0]))), (z35, .inl (G.2.1, 10, .inr (.inl (tL [0, 1, 0, 1, 0, 1, 0, 1, 0, 1]))))] H := hP
    have hD : va_D A [(h0, .inr (11, [.ref z0, .ref z23, .ref z25, .ref z32, .ref z36, .ref z40, .ref z43, .ref z49])), (z32, .inr (0, [.ref z29, .ref z33, .ref z34, .ref z35, .ref z30, .ref z31, .int 2, .int 0, .int 0])), (z29, .inl (G.1, 40, .inl (fun _ => 0))), (z33, .inl (G.1, 5, .inl (tI [0, 1, 2, 3, 4]))), (z34, .inl (G.1, 25, .inl (tI [0, 0, 0, 0, 0, 0, 0, 0, 0, 0, 0, 0, 0, 0, 0, 0, 0, 0, 0, 0, 0, 0, 0, 0, 0]))), (z35, .inl (G.2.1, 10, .inr (.inl (tL [0, 1, 0, 1, 0, 1, 0, 1, 0, 1]))))] := hD
    refine lv_if_eq (tgt := 38) hx hb dX11_pass_31 (by decide) (fun c5 => ?_) (fun c5 => ?_)
    · have kc5 : (inB x1 (-1) (-1)) = false := wk_b0 hr4 c5
      refine lv_iconst (v := 0) hx hb dX11_pass_38 (by decide) ?_
      refine lv_istore_n (lv' := [(2, .int 0), (0, .ref h0), (1, .int x1)]) hx hb dX11_pass_39 rfl hl (by decide) rfl (fun ls hl => ?_)
      refine lv_iload_n hx hb dX11_pass_40 rfl (lv_at hl 0 rfl) ?_
      refine lv_if_eq (tgt := 56) hx hb dX11_pass_41 (by decide) (fun _ => ?_) (fun h9 => absurd h9 (by decide))
      refine lv_iconst (v := (-1)) hx hb dX11_pass_56 (by decide) ?_
      exact W.iret (v := (-1)) hx hb hr (fun t ht hW => ⟨⟨(-1), (), rfl, by first | (simp [sPass, kc2, kc5]; done) | (simp [sPass, kc2]; done) | rfl, trivial⟩, hS.F ht⟩) hS.2.2 dX11_pass_57
    · have kc5 : (inB x1 (-1) (-1)) = true := wk_b1 hr4 c5
      obtain rfl := inB_eq kc5
      refine lv_iconst (v := 1) hx hb dX11_pass_34 (by decide) ?_
      refine lv_goto (tgt := 39) hx hb dX11_pass_35 (by decide) ?_
      refine lv_istore_n (lv' := [(2, .int 1), (0, .ref h0), (1, .int (-1))]) hx hb dX11_pass_39 rfl hl (by decide) rfl (fun ls hl => ?_)
      refine lv_iload_n hx hb dX11_pass_40 rfl (lv_at hl 0 rfl) ?_
      refine lv_if_eq (tgt := 56) hx hb dX11_pass_41 (by decide) (fun h9 => absurd h9 (by decide)) (fun _ => ?_)
      refine lv_aload_n hx hb dX11_pass_44 rfl (lv_at hl 1 rfl) ?_
      refine va_get (D := D) (ci := 11) (v := .ref z32) (C := RX11) (T := TX11) (N := 8) hx hb hts iX11_pass_X11 hown hK hP 0 rfl rfl 3 (by decide) (hts (.fieldLink RX11 33 "PuppetBridge" "bridge" "LPuppetBridge$Bridge;") mX11_pass_w0) (fun _ h9 => h9) rfl dX11_pass_45 ?_
      refine va_get (D := D) (ci := 0) (v := .int 0) (C := RX0) (T := TX0) (N := 9) hx hb hts iX11_pass_X0 hown hK hP 1 rfl rfl 7 (by decide) (hts (.fieldLink RX11 232 "PuppetBridge$Bridge" "count" "I") mX11_pass_w2) (fun _ h9 => h9) rfl dX11_pass_48 ?_
      refine lv_bipush (v := 40) hx hb dX11_pass_51 (by decide) ?_
      refine lv_icmp_lt (tgt := 58) hx hb dX11_pass_53 (by decide) (fun _ => ?_) (fun h9 => absurd h9 (by decide))
      refine lv_aload_n hx hb dX11_pass_58 rfl (lv_at hl 1 rfl) ?_
      refine va_get (D := D) (ci := 11) (v := .ref z32) (C := RX11) (T := TX11) (N := 8) hx hb hts iX11_pass_X11 hown hK hP 0 rfl rfl 3 (by decide) (hts (.fieldLink RX11 33 "PuppetBridge" "bridge" "LPuppetBridge$Bridge;") mX11_pass_w0) (fun _ h9 => h9) rfl dX11_pass_59 ?_
      refine va_get (D := D) (ci := 0) (v := .ref z29) (C := RX0) (T := TX0) (N := 9) hx hb hts iX11_pass_X0 hown hK hP 1 rfl rfl 0 (by decide) (hts (.fieldLink RX11 241 "PuppetBridge$Bridge" "passes" "[I") mX11_pass_w3) (fun _ h9 => h9) rfl dX11_pass_62 ?_
      refine lv_aload_n hx hb dX11_pass_65 rfl (lv_at hl 1 rfl) ?_
      refine va_get (D := D) (ci := 11) (v := .ref z32) (C := RX11) (T := TX11) (N := 8) hx hb hts iX11_pass_X11 hown hK hP 0 rfl rfl 3 (by decide) (hts (.fieldLink RX11 33 "PuppetBridge" "bridge" "LPuppetBridge$Bridge;") mX11_pass_w0) (fun _ h9 => h9) rfl dX11_pass_66 ?_
      refine va_get (D := D) (ci := 0) (v := .int 0) (C := RX0) (T := TX0) (N := 9) hx hb hts iX11_pass_X0 hown hK hP 1 rfl rfl 7 (by decide) (hts (.fieldLink RX11 232 "PuppetBridge$Bridge" "count" "I") mX11_pass_w2) (fun _ h9 => h9) rfl dX11_pass_69 ?_
      refine lv_iload_n hx hb dX11_pass_72 rfl (lv_at hl 2 rfl) ?_
      refine va_iast hx hb hK hP hD hS 2 0 rfl rfl (wk_in rfl) dX11_pass_73 (fun H locs hP hD hS => ?_)
      have hP : va_P D vwCl [(h0, .inr (11, [.ref z0, .ref z23, .ref z25, .ref z32, .ref z36, .ref z40, .ref z43, .ref z49])), (z32, .inr (0, [.ref z29, .ref z33, .ref z34, .ref z35, .ref z30, .ref z31, .int 2, .int 0, .int 0])), (z29, .inl (G.1, 40, .inl (upd (fun _ => 0) 0 (-1)))), (z33, .inl (G.1, 5, .inl (tI [0, 1, 2, 3, 4]))), (z34, .inl (G.1, 25, .inl (tI [0, 0, 0, 0, 0, 0, 0, 0, 0, 0, 0, 0, 0, 0, 0, 0, 0, 0, 0, 0, 0, 0, 0, 0, 0]))), (z35, .inl (G.2.1, 10, .inr (.inl (tL [0, 1, 0, 1, 0, 1, 0, 1, 0, 1]))))] H := hP
      have hD : va_D A [(h0, .inr (11, [.ref z0, .ref z23, .ref z25, .ref z32, .ref z36, .ref z40, .ref z43, .ref z49])), (z32, .inr (0, [.ref z29, .ref z33, .ref z34, .ref z35, .ref z30, .ref z31, .int 2, .int 0, .int 0])), (z29, .inl (G.1, 40, .inl (upd (fun _ => 0) 0 (-1)))), (z33, .inl (G.1, 5, .inl (tI [0, 1, 2, 3, 4]))), (z34, .inl (G.1, 25, .inl (tI [0, 0, 0, 0, 0, 0, 0, 0, 0, 0, 0, 0, 0, 0, 0, 0, 0, 0, 0, 0, 0, 0, 0, 0, 0]))), (z35, .inl (G.2.1, 10, .inr (.inl (tL [0, 1, 0, 1, 0, 1, 0, 1, 0, 1]))))] := hD
      refine lv_aload_n hx hb dX11_pass_74 rfl (lv_at hl 1 rfl) ?_
      refine va_get (D := D) (ci := 11) (v := .ref z32) (C := RX11) (T := TX11) (N := 8) hx hb hts iX11_pass_X11 hown hK hP 0 rfl rfl 3 (by decide) (hts (.fieldLink RX11 33 "PuppetBridge" "bridge" "LPuppetBridge$Bridge;") mX11_pass_w0) (fun _ h9 => h9) rfl dX11_pass_75 ?_
      refine lv_dup hx hb dX11_pass_78 rfl ?_
      refine va_get (D := D) (ci := 0) (v := .int 0) (C := RX0) (T := TX0) (N := 9) hx hb hts iX11_pass_X0 hown hK hP 1 rfl rfl 7 (by decide) (hts (.fieldLink RX11 232 "PuppetBridge$Bridge" "count" "I") mX11_pass_w2) (fun _ h9 => h9) rfl dX11_pass_79 ?_
      refine lv_iconst (v := 1) hx hb dX11_pass_82 (by decide) ?_
      refine lv_iadd hx hb dX11_pass_83 ?_
      refine wk_i 1 (by decide) ?_
      refine va_put (D := D) (ci := 0) (v := .int 1) (ty := (tyX0 7)) (C := RX0) (T := TX0) (N := 9) hx hb hts iX11_pass_X0 tyX0 tyX0_ok nmX0 hown hK hP hD hS 1 rfl rfl 7 (by decide) (hts (.fieldLink RX11 232 "PuppetBridge$Bridge" "count" "I") mX11_pass_w2) (fun _ h9 => h9) rfl (tyX0_ok 7 (by decide)) rfl rfl (Nat.le_of_ble_eq_true rfl) dX11_pass_84 (fun H locs hP hD hS => ?_)
      have hP : va_P D vwCl [(h0, .inr (11, [.ref z0, .ref z23, .ref z25, .ref z32, .ref z36, .ref z40, .ref z43, .ref z49])), (z32, .inr (0, [.ref z29, .ref z33, .ref z34, .ref z35, .ref z30, .ref z31, .int 2, .int 1, .int 0])), (z29, .inl (G.1, 40, .inl (upd (fun _ => 0) 0 (-1)))), (z33, .inl (G.1, 5, .inl (tI [0, 1, 2, 3, 4]))), (z34, .inl (G.1, 25, .inl (tI [0, 0, 0, 0, 0, 0, 0, 0, 0, 0, 0, 0, 0, 0, 0, 0, 0, 0, 0, 0, 0, 0, 0, 0, 0]))), (z35, .inl (G.2.1, 10, .inr (.inl (tL [0, 1, 0, 1, 0, 1, 0, 1, 0, 1]))))] H := hP
      have hD : va_D A [(h0, .inr (11, [.ref z0, .ref z23, .ref z25, .ref z32, .ref z36, .ref z40, .ref z43, .ref z49])), (z32, .inr (0, [.ref z29, .ref z33, .ref z34, .ref z35, .ref z30, .ref z31, .int 2, .int 1, .int 0])), (z29, .inl (G.1, 40, .inl (upd (fun _ => 0) 0 (-1)))), (z33, .inl (G.1, 5, .inl (tI [0, 1, 2, 3, 4]))), (z34, .inl (G.1, 25, .inl (tI [0, 0, 0, 0, 0, 0, 0, 0, 0, 0, 0, 0, 0, 0, 0, 0, 0, 0, 0, 0, 0, 0, 0, 0, 0]))), (z35, .inl (G.2.1, 10, .inr (.inl (tL [0, 1, 0, 1, 0, 1, 0, 1, 0, 1]))))] := hD
      refine lv_aload_n hx hb dX11_pass_87 rfl (lv_at hl 1 rfl) ?_
      refine va_get (D := D) (ci := 11) (v := .ref z32) (C := RX11) (T := TX11) (N := 8) hx hb hts iX11_pass_X11 hown hK hP 0 rfl rfl 3 (by decide) (hts (.fieldLink RX11 33 "PuppetBridge" "bridge" "LPuppetBridge$Bridge;") mX11_pass_w0) (fun _ h9 => h9) rfl dX11_pass_88 ?_
      refine lv_iload_n hx hb dX11_pass_91 rfl (lv_at hl 2 rfl) ?_
      have hPc := hP.sub (ws' := [(z32, .inr (0, [.ref z29, .ref z33, .ref z34, .ref z35, .ref z30, .ref z31, .int 2, .int 1, .int 0])), (z33, .inl (G.1, 5, .inl (tI [0, 1, 2, 3, 4]))), (z34, .inl (G.1, 25, .inl (tI [0, 0, 0, 0, 0, 0, 0, 0, 0, 0, 0, 0, 0, 0, 0, 0, 0, 0, 0, 0, 0, 0, 0, 0, 0]))), (z35, .inl (G.2.1, 10, .inr (.inl (tL [0, 1, 0, 1, 0, 1, 0, 1, 0, 1]))))]) [1, 3, 4, 5] rfl
      have hDc := hD.sub (ws' := [(z32, .inr (0, [.ref z29, .ref z33, .ref z34, .ref z35, .ref z30, .ref z31, .int 2, .int 1, .int 0])), (z33, .inl (G.1, 5, .inl (tI [0, 1, 2, 3, 4]))), (z34, .inl (G.1, 25, .inl (tI [0, 0, 0, 0, 0, 0, 0, 0, 0, 0, 0, 0, 0, 0, 0, 0, 0, 0, 0, 0, 0, 0, 0, 0, 0]))), (z35, .inl (G.2.1, 10, .inr (.inl (tL [0, 1, 0, 1, 0, 1, 0, 1, 0, 1]))))]) [1, 3, 4, 5] (by decide) rfl
      have hFc := va_free (wc := [(z32, .inr (0, [.ref z29, .ref z33, .ref z34, .ref z35, .ref z30, .ref z31, .int 2, .int 1, .int 0])), (z33, .inl (G.1, 5, .inl (tI [0, 1, 2, 3, 4]))), (z34, .inl (G.1, 25, .inl (tI [0, 0, 0, 0, 0, 0, 0, 0, 0, 0, 0, 0, 0, 0, 0, 0, 0, 0, 0, 0, 0, 0, 0, 0, 0]))), (z35, .inl (G.2.1, 10, .inr (.inl (tL [0, 1, 0, 1, 0, 1, 0, 1, 0, 1]))))]) hD hS hA [1, 3, 4, 5] rfl
      refine va_callv (va_runV (As := [.int (-1)]) (rest := []) ⟨hx, hb, hml, hown, hts⟩ (kX0_swap_m l D G z32 z29 z33 z34 z35 z30 z31 1 H.size) (cwV 1 hts gX11_pass_X0_swap rfl rfl rfl (by decide +kernel) ⟨Nat.le_of_ble_eq_true rfl, Nat.le_of_ble_eq_true rfl⟩) ⟨wB_blind, va_recv hK hPc (ci := 0) (q0 := 0) rfl rfl, wB_pre hPc hK hDc hN⟩ rfl rfl hl.1 rfl (lv_room (Nat.le_of_ble_eq_true rfl)) dX11_pass_92 ⟨Nat.le_of_ble_eq_true rfl, Nat.le_of_ble_eq_true rfl⟩) hS (fun q _ h => hFc q h) hFc (fun u t H1 locs ht hvm hr6 hB hz1 hk1 hS => ?_)
      obtain ⟨hP1, hK1, hD1⟩ := hB
      rw [ht] at hP1
      obtain ⟨hP, hD⟩ := va_join (wr := [(h0, .inr (11, [.ref z0, .ref z23, .ref z25, .ref z32, .ref z36, .ref z40, .ref z43, .ref z49])), (z29, .inl (G.1, 40, .inl (upd (fun _ => 0) 0 (-1))))]) (w1 := [(z32, .inr (0, [.ref z29, .ref z33, .ref z34, .ref z35, .ref z30, .ref z31, .int 2, .int 1, .int 1]))]) hP hD [1, 3, 4, 5] [0, 2] rfl rfl (by decide) (by decide) hk1 hFc hP1 hD1
      clear hPc hDc
      generalize H1 = H at hP hS ⊢
      have hP : va_P D vwCl [(h0, .inr (11, [.ref z0, .ref z23, .ref z25, .ref z32, .ref z36, .ref z40, .ref z43, .ref z49])), (z29, .inl (G.1, 40, .inl (upd (fun _ => 0) 0 (-1)))), (z32, .inr (0, [.ref z29, .ref z33, .ref z34, .ref z35, .ref z30, .ref z31, .int 2, .int 1, .int 1]))] H := hP
      have hD : va_D A [(h0, .inr (11, [.ref z0, .ref z23, .ref z25, .ref z32, .ref z36, .ref z40, .ref z43, .ref z49])), (z29, .inl (G.1, 40, .inl (upd (fun _ => 0) 0 (-1)))), (z32, .inr (0, [.ref z29, .ref z33, .ref z34, .ref z35, .ref z30, .ref z31, .int 2, .int 1, .int 1]))] := hD
      refine lv_aload_n hx hb dX11_pass_95 rfl (lv_at hl 1 rfl) ?_
      refine va_get (D := D) (ci := 11) (v := .ref z32) (C := RX11) (T := TX11) (N := 8) hx hb hts iX11_pass_X11 hown hK hP 0 rfl rfl 3 (by decide) (hts (.fieldLink RX11 33 "PuppetBridge" "bridge" "LPuppetBridge$Bridge;") mX11_pass_w0) (fun _ h9 => h9) rfl dX11_pass_96 ?_
      refine va_get (D := D) (ci := 0) (v := .int 1) (C := RX0) (T := TX0) (N := 9) hx hb hts iX11_pass_X0 hown hK hP 2 rfl rfl 7 (by decide) (hts (.fieldLink RX11 232 "PuppetBridge$Bridge" "count" "I") mX11_pass_w2) (fun _ h9 => h9) rfl dX11_pass_99 ?_
      exact W.iret (v := 1) hx hb hr (fun t ht hW => ⟨⟨1, (), rfl, by decide, trivial⟩, hS.F ht⟩) hS.2.2 dX11_pass_102
