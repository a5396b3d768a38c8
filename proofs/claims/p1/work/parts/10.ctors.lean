theorem mX6_init_w0 : Cond.methodLink RX6 3 objectInit ∈ wsX6_init := by decide +kernel
theorem mX6_init_w1 : Cond.instanceMethod objectInit ∈ wsX6_init := by decide +kernel
theorem mX6_init_w2 : Cond.code objectInit ⟨#[0xb1]⟩ 1 none ∈ wsX6_init := by decide +kernel
theorem mX6_init_w3 : Cond.arrayClass .int ∈ wsX6_init := by decide +kernel
theorem mX6_init_w4 : Cond.fieldLink RX6 9 "PuppetBridge$Score" "signs" "[I" ∈ wsX6_init := by decide +kernel
theorem mX6_init_w5 : Cond.fieldLink RX6 15 "PuppetBridge$Score" "starts" "[I" ∈ wsX6_init := by decide +kernel
theorem iX6_init_X6 : ∀ w ∈ wsX60, w ∈ wsX6_init := fun _ h => List.mem_cons_of_mem _ (List.mem_append_right _ h)
theorem dX6_init_0 : decode cX6_init 0 = .ok (.aload_n 0, 1) := by decide +kernel
theorem dX6_init_1 : decode cX6_init 1 = .ok (.invokespecial 3, 3) := by decide +kernel
theorem dX6_init_4 : decode cX6_init 4 = .ok (.aload_n 0, 1) := by decide +kernel
theorem dX6_init_5 : decode cX6_init 5 = .ok (.bipush 60, 2) := by decide +kernel
theorem dX6_init_7 : decode cX6_init 7 = .ok (.newarray .int, 2) := by decide +kernel
theorem dX6_init_9 : decode cX6_init 9 = .ok (.putfield 9, 3) := by decide +kernel
theorem dX6_init_12 : decode cX6_init 12 = .ok (.aload_n 0, 1) := by decide +kernel
theorem dX6_init_13 : decode cX6_init 13 = .ok (.bipush 80, 2) := by decide +kernel
theorem dX6_init_15 : decode cX6_init 15 = .ok (.newarray .int, 2) := by decide +kernel
theorem dX6_init_17 : decode cX6_init 17 = .ok (.putfield 15, 3) := by decide +kernel
theorem dX6_init_20 : decode cX6_init 20 = .ok (.return_, 1) := by decide +kernel
set_option maxHeartbeats 4000000 in
set_option maxRecDepth 100000 in
/-- X6_init -/
theorem kX6_init (l : Launch) (D : va_G) (G : tyG) (h0 : Nat) (sz : Nat) : Met l yX6_init wsX6_init ({ frames := 1, cells := 2, slots := 140, locals := 24 }) (va_Pc [.ref h0] (wB D G sz [(h0, .inr (6, [.null, .null, .int 0, .int 0]))])) (va_Qv (fun _ : Unit => True) (fun _ t => ∃ (z0 : Nat) (z1 : Nat), wS D G (va_A [(h0, .inr (6, [.null, .null, .int 0, .int 0]))] sz) [(h0, .inr (6, [.ref z0, .ref z1, .int 0, .int 0])), (z0, .inl (G.1, 60, .inl (fun _ => 0))), (z1, .inl (G.1, 80, .inl (fun _ => 0)))] t) (va_A [(h0, .inr (6, [.null, .null, .int 0, .int 0]))] sz)) 2 140 (va_A [(h0, .inr (6, [.null, .null, .int 0, .int 0]))] sz) := by
  refine Met.ofW (cc := cX6_init) (maxL := 1) (ret := none) (by decide) rfl ?_
  intro p e s m args below meth c s₁ B hml hv
  obtain ⟨rfl, hsz, hP, hK, hD0, hN⟩ := hv
  have hx := B.exec
  have hb := B.bytes
  have hr := B.returns
  have hts := atoms_spec (ws := wsX6_init) B.pre
  have hown : s.vm.findClass RX6 = some m.cls := findClass_of_methodNamed B.named
  have hlocks := B.notSynchronized
  have hin : meth.name = "<init>" := (name_of_methodNamed B.named B.method).1
  subst hsz
  have hD := hD0.self (sz := s.heap.size)
  generalize hAe : va_A [(h0, .inr (6, [.null, .null, .int 0, .int 0]))] s.heap.size = A at hD ⊢
  have hA : ∀ q : Nat, s.heap.size ≤ q → A q := fun q h => by rw [← hAe]; exact Or.inr h
  have hS : va_S A s.heap s.heap [] := va_S.rf
  have hP : va_P D vwCl [(h0, .inr (6, [.null, .null, .int 0, .int 0]))] s.heap := hP
  have hl := lv_entry ([.ref h0]) (n := 1) (Nat.le_of_ble_eq_true rfl)
  rw [lg_entry_eq]
  generalize (lg_sl ([.ref h0]) ++ List.replicate (1 - (lg_sl ([.ref h0])).length) Slot.unset).toArray = ls at hl ⊢
  have hl : lv_has ls 1 [(0, .ref h0)] := hl
  refine lv_aload_n hx hb dX6_init_0 rfl (lv_at hl 0 rfl) ?_
  refine W.objInit hx hb hown (hts (.methodLink RX6 3 objectInit) mX6_init_w0) (hts (.instanceMethod objectInit) mX6_init_w1) (hts (.code objectInit ⟨#[0xb1]⟩ 1 none) mX6_init_w2) rfl (by rw [hml]; exact hl.1) rfl dX6_init_1 (Nat.le_of_ble_eq_true rfl) (Nat.le_of_ble_eq_true rfl) ?_
  refine W.eq (g2 := F0 m 4 ls []) rfl ?_
  refine lv_aload_n hx hb dX6_init_4 rfl (lv_at hl 0 rfl) ?_
  refine lv_bipush (v := 60) hx hb dX6_init_5 (by decide) ?_
  refine wk_newI hx hb (hts (.arrayClass .int) mX6_init_w3) hK hP hD hS hA 0 rfl 60 (by decide) (by decide) (by decide) (Nat.le_of_ble_eq_true rfl) (Nat.le_of_ble_eq_true rfl) dX6_init_7 (fun q1 H hP hD hS => ?_)
  have hP : va_P D vwCl [(h0, .inr (6, [.null, .null, .int 0, .int 0])), (q1, .inl (G.1, 60, .inl (fun _ => 0)))] H := hP
  have hD : va_D A [(h0, .inr (6, [.null, .null, .int 0, .int 0])), (q1, .inl (G.1, 60, .inl (fun _ => 0)))] := hD
  refine W.widen (k := 1) (n := 60) (by omega) (by omega) ?_
  refine va_putF (D := D) (ci := 6) (v := .ref q1) (ty := (tyX6 0)) (C := RX6) (T := TX6) (N := 4) hx hb hts iX6_init_X6 tyX6 tyX6_ok nmX6 hown hK hP hD hS 0 rfl rfl 0 (by decide) (hts (.fieldLink RX6 9 "PuppetBridge$Score" "signs" "[I") mX6_init_w4) (fun _ h9 => h9) rfl hin rfl (tyX6_ok 0 (by decide)) rfl rfl (Nat.le_of_ble_eq_true rfl) dX6_init_9 (fun H locs hP hD hS => ?_)
  have hP : va_P D vwCl [(h0, .inr (6, [.ref q1, .null, .int 0, .int 0])), (q1, .inl (G.1, 60, .inl (fun _ => 0)))] H := hP
  have hD : va_D A [(h0, .inr (6, [.ref q1, .null, .int 0, .int 0])), (q1, .inl (G.1, 60, .inl (fun _ => 0)))] := hD
  refine lv_aload_n hx hb dX6_init_12 rfl (lv_at hl 0 rfl) ?_
  refine lv_bipush (v := 80) hx hb dX6_init_13 (by decide) ?_
  refine wk_newI hx hb (hts (.arrayClass .int) mX6_init_w3) hK hP hD hS hA 0 rfl 80 (by decide) (by decide) (by decide) (Nat.le_of_ble_eq_true rfl) (Nat.le_of_ble_eq_true rfl) dX6_init_15 (fun q2 H hP hD hS => ?_)
  have hP : va_P D vwCl [(h0, .inr (6, [.ref q1, .null, .int 0, .int 0])), (q1, .inl (G.1, 60, .inl (fun _ => 0))), (q2, .inl (G.1, 80, .inl (fun _ => 0)))] H := hP
  have hD : va_D A [(h0, .inr (6, [.ref q1, .null, .int 0, .int 0])), (q1, .inl (G.1, 60, .inl (fun _ => 0))), (q2, .inl (G.1, 80, .inl (fun _ => 0)))] := hD
  refine W.widen (k := 2) (n := 140) (by omega) (by omega) ?_
  refine va_putF (D := D) (ci := 6) (v := .ref q2) (ty := (tyX6 1)) (C := RX6) (T := TX6) (N := 4) hx hb hts iX6_init_X6 tyX6 tyX6_ok nmX6 hown hK hP hD hS 0 rfl rfl 1 (by decide) (hts (.fieldLink RX6 15 "PuppetBridge$Score" "starts" "[I") mX6_init_w5) (fun _ h9 => h9) rfl hin rfl (tyX6_ok 1 (by decide)) rfl rfl (Nat.le_of_ble_eq_true rfl) dX6_init_17 (fun H locs hP hD hS => ?_)
  have hP : va_P D vwCl [(h0, .inr (6, [.ref q1, .ref q2, .int 0, .int 0])), (q1, .inl (G.1, 60, .inl (fun _ => 0))), (q2, .inl (G.1, 80, .inl (fun _ => 0)))] H := hP
  have hD : va_D A [(h0, .inr (6, [.ref q1, .ref q2, .int 0, .int 0])), (q1, .inl (G.1, 60, .inl (fun _ => 0))), (q2, .inl (G.1, 80, .inl (fun _ => 0)))] := hD
  have hP9 := hP.sub (ws' := [(h0, .inr (6, [.ref q1, .ref q2, .int 0, .int 0])), (q1, .inl (G.1, 60, .inl (fun _ => 0))), (q2, .inl (G.1, 80, .inl (fun _ => 0)))]) [0, 1, 2] rfl
  have hD9 := hD.sub (ws' := [(h0, .inr (6, [.ref q1, .ref q2, .int 0, .int 0])), (q1, .inl (G.1, 60, .inl (fun _ => 0))), (q2, .inl (G.1, 80, .inl (fun _ => 0)))]) [0, 1, 2] (by decide) rfl
  exact W.vret hx hb hr (fun t ht hW => ⟨⟨(), rfl, trivial, ⟨q1, q2, by rw [ht]; exact hP9, va_K.moved hW.alike hK, hD9⟩⟩, hS.F ht⟩) hS.2.2 dX6_init_20

theorem mX5_init_w0 : Cond.methodLink RX5 1 objectInit ∈ wsX5_init := by decide +kernel
theorem mX5_init_w1 : Cond.instanceMethod objectInit ∈ wsX5_init := by decide +kernel
theorem mX5_init_w2 : Cond.code objectInit ⟨#[0xb1]⟩ 1 none ∈ wsX5_init := by decide +kernel
theorem mX5_init_w3 : Cond.arrayClass .int ∈ wsX5_init := by decide +kernel
theorem mX5_init_w4 : Cond.fieldLink RX5 9 "PuppetBridge$Row" "numbers" "[I" ∈ wsX5_init := by decide +kernel
theorem iX5_init_X5 : ∀ w ∈ wsX50, w ∈ wsX5_init := fun _ h => List.mem_cons_of_mem _ (List.mem_append_right _ h)
theorem dX5_init_0 : decode cX5_init 0 = .ok (.aload_n 0, 1) := by decide +kernel
theorem dX5_init_1 : decode cX5_init 1 = .ok (.invokespecial 1, 3) := by decide +kernel
theorem dX5_init_4 : decode cX5_init 4 = .ok (.aload_n 0, 1) := by decide +kernel
theorem dX5_init_5 : decode cX5_init 5 = .ok (.bipush 32, 2) := by decide +kernel
theorem dX5_init_7 : decode cX5_init 7 = .ok (.newarray .int, 2) := by decide +kernel
theorem dX5_init_9 : decode cX5_init 9 = .ok (.putfield 9, 3) := by decide +kernel
theorem dX5_init_12 : decode cX5_init 12 = .ok (.return_, 1) := by decide +kernel
set_option maxHeartbeats 4000000 in
set_option maxRecDepth 100000 in
/-- X5_init -/
theorem kX5_init (l : Launch) (D : va_G) (G : tyG) (h0 : Nat) (sz : Nat) : Met l yX5_init wsX5_init ({ frames := 1, cells := 1, slots := 32, locals := 24 }) (va_Pc [.ref h0] (wB D G sz [(h0, .inr (5, [.null, .int 0]))])) (va_Qv (fun _ : Unit => True) (fun _ t => ∃ (z0 : Nat), wS D G (va_A [(h0, .inr (5, [.null, .int 0]))] sz) [(h0, .inr (5, [.ref z0, .int 0])), (z0, .inl (G.1, 32, .inl (fun _ => 0)))] t) (va_A [(h0, .inr (5, [.null, .int 0]))] sz)) 1 32 (va_A [(h0, .inr (5, [.null, .int 0]))] sz) := by
  refine Met.ofW (cc := cX5_init) (maxL := 1) (ret := none) (by decide) rfl ?_
  intro p e s m args below meth c s₁ B hml hv
  obtain ⟨rfl, hsz, hP, hK, hD0, hN⟩ := hv
  have hx := B.exec
  have hb := B.bytes
  have hr := B.returns
  have hts := atoms_spec (ws := wsX5_init) B.pre
  have hown : s.vm.findClass RX5 = some m.cls := findClass_of_methodNamed B.named
  have hlocks := B.notSynchronized
  have hin : meth.name = "<init>" := (name_of_methodNamed B.named B.method).1
  subst hsz
  have hD := hD0.self (sz := s.heap.size)
  generalize hAe : va_A [(h0, .inr (5, [.null, .int 0]))] s.heap.size = A at hD ⊢
  have hA : ∀ q : Nat, s.heap.size ≤ q → A q := fun q h => by rw [← hAe]; exact Or.inr h
  have hS : va_S A s.heap s.heap [] := va_S.rf
  have hP : va_P D vwCl [(h0, .inr (5, [.null, .int 0]))] s.heap := hP
  have hl := lv_entry ([.ref h0]) (n := 1) (Nat.le_of_ble_eq_true rfl)
  rw [lg_entry_eq]
  generalize (lg_sl ([.ref h0]) ++ List.replicate (1 - (lg_sl ([.ref h0])).length) Slot.unset).toArray = ls at hl ⊢
  have hl : lv_has ls 1 [(0, .ref h0)] := hl
  refine lv_aload_n hx hb dX5_init_0 rfl (lv_at hl 0 rfl) ?_
  refine W.objInit hx hb hown (hts (.methodLink RX5 1 objectInit) mX5_init_w0) (hts (.instanceMethod objectInit) mX5_init_w1) (hts (.code objectInit ⟨#[0xb1]⟩ 1 none) mX5_init_w2) rfl (by rw [hml]; exact hl.1) rfl dX5_init_1 (Nat.le_of_ble_eq_true rfl) (Nat.le_of_ble_eq_true rfl) ?_
  refine W.eq (g2 := F0 m 4 ls []) rfl ?_
  refine lv_aload_n hx hb dX5_init_4 rfl (lv_at hl 0 rfl) ?_
  refine lv_bipush (v := 32) hx hb dX5_init_5 (by decide) ?_
  refine wk_newI hx hb (hts (.arrayClass .int) mX5_init_w3) hK hP hD hS hA 0 rfl 32 (by decide) (by decide) (by decide) (Nat.le_of_ble_eq_true rfl) (Nat.le_of_ble_eq_true rfl) dX5_init_7 (fun q1 H hP hD hS => ?_)
  have hP : va_P D vwCl [(h0, .inr (5, [.null, .int 0])), (q1, .inl (G.1, 32, .inl (fun _ => 0)))] H := hP
  have hD : va_D A [(h0, .inr (5, [.null, .int 0])), (q1, .inl (G.1, 32, .inl (fun _ => 0)))] := hD
  refine W.widen (k := 1) (n := 32) (by omega) (by omega) ?_
  refine va_putF (D := D) (ci := 5) (v := .ref q1) (ty := (tyX5 0)) (C := RX5) (T := TX5) (N := 2) hx hb hts iX5_init_X5 tyX5 tyX5_ok nmX5 hown hK hP hD hS 0 rfl rfl 0 (by decide) (hts (.fieldLink RX5 9 "PuppetBridge$Row" "numbers" "[I") mX5_init_w4) (fun _ h9 => h9) rfl hin rfl (tyX5_ok 0 (by decide)) rfl rfl (Nat.le_of_ble_eq_true rfl) dX5_init_9 (fun H locs hP hD hS => ?_)
  have hP : va_P D vwCl [(h0, .inr (5, [.ref q1, .int 0])), (q1, .inl (G.1, 32, .inl (fun _ => 0)))] H := hP
  have hD : va_D A [(h0, .inr (5, [.ref q1, .int 0])), (q1, .inl (G.1, 32, .inl (fun _ => 0)))] := hD
  have hP9 := hP.sub (ws' := [(h0, .inr (5, [.ref q1, .int 0])), (q1, .inl (G.1, 32, .inl (fun _ => 0)))]) [0, 1] rfl
  have hD9 := hD.sub (ws' := [(h0, .inr (5, [.ref q1, .int 0])), (q1, .inl (G.1, 32, .inl (fun _ => 0)))]) [0, 1] (by decide) rfl
  exact W.vret hx hb hr (fun t ht hW => ⟨⟨(), rfl, trivial, ⟨q1, by rw [ht]; exact hP9, va_K.moved hW.alike hK, hD9⟩⟩, hS.F ht⟩) hS.2.2 dX5_init_12

theorem mX10_init_w0 : Cond.methodLink RX10 3 objectInit ∈ wsX10_init := by decide +kernel
theorem mX10_init_w1 : Cond.instanceMethod objectInit ∈ wsX10_init := by decide +kernel
theorem mX10_init_w2 : Cond.code objectInit ⟨#[0xb1]⟩ 1 none ∈ wsX10_init := by decide +kernel
theorem mX10_init_w3 : Cond.arrayClass .int ∈ wsX10_init := by decide +kernel
theorem mX10_init_w4 : Cond.fieldLink RX10 9 "PuppetBridge$Text" "signs" "[I" ∈ wsX10_init := by decide +kernel
theorem iX10_init_X10 : ∀ w ∈ wsX100, w ∈ wsX10_init := fun _ h => List.mem_cons_of_mem _ (List.mem_append_right _ h)
theorem dX10_init_0 : decode cX10_init 0 = .ok (.aload_n 0, 1) := by decide +kernel
theorem dX10_init_1 : decode cX10_init 1 = .ok (.invokespecial 3, 3) := by decide +kernel
theorem dX10_init_4 : decode cX10_init 4 = .ok (.aload_n 0, 1) := by decide +kernel
theorem dX10_init_5 : decode cX10_init 5 = .ok (.bipush 100, 2) := by decide +kernel
theorem dX10_init_7 : decode cX10_init 7 = .ok (.newarray .int, 2) := by decide +kernel
theorem dX10_init_9 : decode cX10_init 9 = .ok (.putfield 9, 3) := by decide +kernel
theorem dX10_init_12 : decode cX10_init 12 = .ok (.return_, 1) := by decide +kernel
set_option maxHeartbeats 4000000 in
set_option maxRecDepth 100000 in
/-- X10_init -/
theorem kX10_init (l : Launch) (D : va_G) (G : tyG) (h0 : Nat) (sz : Nat) : Met l yX10_init wsX10_init ({ frames := 1, cells := 1, slots := 100, locals := 24 }) (va_Pc [.ref h0] (wB D G sz [(h0, .inr (10, [.null, .int 0]))])) (va_Qv (fun _ : Unit => True) (fun _ t => ∃ (z0 : Nat), wS D G (va_A [(h0, .inr (10, [.null, .int 0]))] sz) [(h0, .inr (10, [.ref z0, .int 0])), (z0, .inl (G.1, 100, .inl (fun _ => 0)))] t) (va_A [(h0, .inr (10, [.null, .int 0]))] sz)) 1 100 (va_A [(h0, .inr (10, [.null, .int 0]))] sz) := by
  refine Met.ofW (cc := cX10_init) (maxL := 1) (ret := none) (by decide) rfl ?_
  intro p e s m args below meth c s₁ B hml hv
  obtain ⟨rfl, hsz, hP, hK, hD0, hN⟩ := hv
  have hx := B.exec
  have hb := B.bytes
  have hr := B.returns
  have hts := atoms_spec (ws := wsX10_init) B.pre
  have hown : s.vm.findClass RX10 = some m.cls := findClass_of_methodNamed B.named
  have hlocks := B.notSynchronized
  have hin : meth.name = "<init>" := (name_of_methodNamed B.named B.method).1
  subst hsz
  have hD := hD0.self (sz := s.heap.size)
  generalize hAe : va_A [(h0, .inr (10, [.null, .int 0]))] s.heap.size = A at hD ⊢
  have hA : ∀ q : Nat, s.heap.size ≤ q → A q := fun q h => by rw [← hAe]; exact Or.inr h
  have hS : va_S A s.heap s.heap [] := va_S.rf
  have hP : va_P D vwCl [(h0, .inr (10, [.null, .int 0]))] s.heap := hP
  have hl := lv_entry ([.ref h0]) (n := 1) (Nat.le_of_ble_eq_true rfl)
  rw [lg_entry_eq]
  generalize (lg_sl ([.ref h0]) ++ List.replicate (1 - (lg_sl ([.ref h0])).length) Slot.unset).toArray = ls at hl ⊢
  have hl : lv_has ls 1 [(0, .ref h0)] := hl
  refine lv_aload_n hx hb dX10_init_0 rfl (lv_at hl 0 rfl) ?_
  refine W.objInit hx hb hown (hts (.methodLink RX10 3 objectInit) mX10_init_w0) (hts (.instanceMethod objectInit) mX10_init_w1) (hts (.code objectInit ⟨#[0xb1]⟩ 1 none) mX10_init_w2) rfl (by rw [hml]; exact hl.1) rfl dX10_init_1 (Nat.le_of_ble_eq_true rfl) (Nat.le_of_ble_eq_true rfl) ?_
  refine W.eq (g2 := F0 m 4 ls []) rfl ?_
  refine lv_aload_n hx hb dX10_init_4 rfl (lv_at hl 0 rfl) ?_
  refine lv_bipush (v := 100) hx hb dX10_init_5 (by decide) ?_
  refine wk_newI hx hb (hts (.arrayClass .int) mX10_init_w3) hK hP hD hS hA 0 rfl 100 (by decide) (by decide) (by decide) (Nat.le_of_ble_eq_true rfl) (Nat.le_of_ble_eq_true rfl) dX10_init_7 (fun q1 H hP hD hS => ?_)
  have hP : va_P D vwCl [(h0, .inr (10, [.null, .int 0])), (q1, .inl (G.1, 100, .inl (fun _ => 0)))] H := hP
  have hD : va_D A [(h0, .inr (10, [.null, .int 0])), (q1, .inl (G.1, 100, .inl (fun _ => 0)))] := hD
  refine W.widen (k := 1) (n := 100) (by omega) (by omega) ?_
  refine va_putF (D := D) (ci := 10) (v := .ref q1) (ty := (tyX10 0)) (C := RX10) (T := TX10) (N := 2) hx hb hts iX10_init_X10 tyX10 tyX10_ok nmX10 hown hK hP hD hS 0 rfl rfl 0 (by decide) (hts (.fieldLink RX10 9 "PuppetBridge$Text" "signs" "[I") mX10_init_w4) (fun _ h9 => h9) rfl hin rfl (tyX10_ok 0 (by decide)) rfl rfl (Nat.le_of_ble_eq_true rfl) dX10_init_9 (fun H locs hP hD hS => ?_)
  have hP : va_P D vwCl [(h0, .inr (10, [.ref q1, .int 0])), (q1, .inl (G.1, 100, .inl (fun _ => 0)))] H := hP
  have hD : va_D A [(h0, .inr (10, [.ref q1, .int 0])), (q1, .inl (G.1, 100, .inl (fun _ => 0)))] := hD
  have hP9 := hP.sub (ws' := [(h0, .inr (10, [.ref q1, .int 0])), (q1, .inl (G.1, 100, .inl (fun _ => 0)))]) [0, 1] rfl
  have hD9 := hD.sub (ws' := [(h0, .inr (10, [.ref q1, .int 0])), (q1, .inl (G.1, 100, .inl (fun _ => 0)))]) [0, 1] (by decide) rfl
  exact W.vret hx hb hr (fun t ht hW => ⟨⟨(), rfl, trivial, ⟨q1, by rw [ht]; exact hP9, va_K.moved hW.alike hK, hD9⟩⟩, hS.F ht⟩) hS.2.2 dX10_init_12

theorem mX1_init_w0 : Cond.methodLink RX1 3 objectInit ∈ wsX1_init := by decide +kernel
theorem mX1_init_w1 : Cond.instanceMethod objectInit ∈ wsX1_init := by decide +kernel
theorem mX1_init_w2 : Cond.code objectInit ⟨#[0xb1]⟩ 1 none ∈ wsX1_init := by decide +kernel
theorem mX1_init_w3 : Cond.arrayClass .int ∈ wsX1_init := by decide +kernel
theorem mX1_init_w4 : Cond.fieldLink RX1 9 "PuppetBridge$Cords" "limb" "[I" ∈ wsX1_init := by decide +kernel
theorem mX1_init_w5 : Cond.fieldLink RX1 15 "PuppetBridge$Cords" "side" "[I" ∈ wsX1_init := by decide +kernel
theorem mX1_init_w6 : Cond.fieldLink RX1 18 "PuppetBridge$Cords" "strength" "[I" ∈ wsX1_init := by decide +kernel
theorem mX1_init_w7 : Cond.fieldLink RX1 21 "PuppetBridge$Cords" "pull" "[I" ∈ wsX1_init := by decide +kernel
theorem mX1_init_w8 : Cond.fieldLink RX1 24 "PuppetBridge$Cords" "wish" "[I" ∈ wsX1_init := by decide +kernel
theorem mX1_init_w9 : Cond.fieldLink RX1 27 "PuppetBridge$Cords" "wear" "[I" ∈ wsX1_init := by decide +kernel
theorem mX1_init_w10 : Cond.arrayClass .boolean ∈ wsX1_init := by decide +kernel
theorem mX1_init_w11 : Cond.fieldLink RX1 30 "PuppetBridge$Cords" "snapped" "[Z" ∈ wsX1_init := by decide +kernel
theorem iX1_init_X1 : ∀ w ∈ wsX10, w ∈ wsX1_init := fun _ h => List.mem_cons_of_mem _ (List.mem_append_right _ h)
theorem dX1_init_0 : decode cX1_init 0 = .ok (.aload_n 0, 1) := by decide +kernel
theorem dX1_init_1 : decode cX1_init 1 = .ok (.invokespecial 3, 3) := by decide +kernel
theorem dX1_init_4 : decode cX1_init 4 = .ok (.aload_n 0, 1) := by decide +kernel
theorem dX1_init_5 : decode cX1_init 5 = .ok (.bipush 8, 2) := by decide +kernel
theorem dX1_init_7 : decode cX1_init 7 = .ok (.newarray .int, 2) := by decide +kernel
theorem dX1_init_9 : decode cX1_init 9 = .ok (.putfield 9, 3) := by decide +kernel
theorem dX1_init_12 : decode cX1_init 12 = .ok (.aload_n 0, 1) := by decide +kernel
theorem dX1_init_13 : decode cX1_init 13 = .ok (.bipush 8, 2) := by decide +kernel
theorem dX1_init_15 : decode cX1_init 15 = .ok (.newarray .int, 2) := by decide +kernel
theorem dX1_init_17 : decode cX1_init 17 = .ok (.putfield 15, 3) := by decide +kernel
theorem dX1_init_20 : decode cX1_init 20 = .ok (.aload_n 0, 1) := by decide +kernel
theorem dX1_init_21 : decode cX1_init 21 = .ok (.bipush 8, 2) := by decide +kernel
theorem dX1_init_23 : decode cX1_init 23 = .ok (.newarray .int, 2) := by decide +kernel
theorem dX1_init_25 : decode cX1_init 25 = .ok (.putfield 18, 3) := by decide +kernel
theorem dX1_init_28 : decode cX1_init 28 = .ok (.aload_n 0, 1) := by decide +kernel
theorem dX1_init_29 : decode cX1_init 29 = .ok (.bipush 8, 2) := by decide +kernel
theorem dX1_init_31 : decode cX1_init 31 = .ok (.newarray .int, 2) := by decide +kernel
theorem dX1_init_33 : decode cX1_init 33 = .ok (.putfield 21, 3) := by decide +kernel
theorem dX1_init_36 : decode cX1_init 36 = .ok (.aload_n 0, 1) := by decide +kernel
theorem dX1_init_37 : decode cX1_init 37 = .ok (.bipush 8, 2) := by decide +kernel
theorem dX1_init_39 : decode cX1_init 39 = .ok (.newarray .int, 2) := by decide +kernel
theorem dX1_init_41 : decode cX1_init 41 = .ok (.putfield 24, 3) := by decide +kernel
theorem dX1_init_44 : decode cX1_init 44 = .ok (.aload_n 0, 1) := by decide +kernel
theorem dX1_init_45 : decode cX1_init 45 = .ok (.bipush 8, 2) := by decide +kernel
theorem dX1_init_47 : decode cX1_init 47 = .ok (.newarray .int, 2) := by decide +kernel
theorem dX1_init_49 : decode cX1_init 49 = .ok (.putfield 27, 3) := by decide +kernel
theorem dX1_init_52 : decode cX1_init 52 = .ok (.aload_n 0, 1) := by decide +kernel
theorem dX1_init_53 : decode cX1_init 53 = .ok (.bipush 8, 2) := by decide +kernel
theorem dX1_init_55 : decode cX1_init 55 = .ok (.newarray .boolean, 2) := by decide +kernel
theorem dX1_init_57 : decode cX1_init 57 = .ok (.putfield 30, 3) := by decide +kernel
theorem dX1_init_60 : decode cX1_init 60 = .ok (.return_, 1) := by decide +kernel
set_option maxHeartbeats 4000000 in
set_option maxRecDepth 100000 in
/-- X1_init -/
theorem kX1_init (l : Launch) (D : va_G) (G : tyG) (h0 : Nat) (sz : Nat) : Met l yX1_init wsX1_init ({ frames := 1, cells := 7, slots := 56, locals := 24 }) (va_Pc [.ref h0] (wB D G sz [(h0, .inr (1, [.null, .null, .null, .null, .null, .null, .null, .int 0]))])) (va_Qv (fun _ : Unit => True) (fun _ t => ∃ (z0 : Nat) (z1 : Nat) (z2 : Nat) (z3 : Nat) (z4 : Nat) (z5 : Nat) (z6 : Nat), wS D G (va_A [(h0, .inr (1, [.null, .null, .null, .null, .null, .null, .null, .int 0]))] sz) [(h0, .inr (1, [.ref z0, .ref z1, .ref z2, .ref z3, .ref z4, .ref z5, .ref z6, .int 0])), (z0, .inl (G.1, 8, .inl (fun _ => 0))), (z1, .inl (G.1, 8, .inl (fun _ => 0))), (z2, .inl (G.1, 8, .inl (fun _ => 0))), (z3, .inl (G.1, 8, .inl (fun _ => 0))), (z4, .inl (G.1, 8, .inl (fun _ => 0))), (z5, .inl (G.1, 8, .inl (fun _ => 0))), (z6, .inl (G.2.2.2.1, 8, .inl (fun _ => 0)))] t) (va_A [(h0, .inr (1, [.null, .null, .null, .null, .null, .null, .null, .int 0]))] sz)) 7 56 (va_A [(h0, .inr (1, [.null, .null, .null, .null, .null, .null, .null, .int 0]))] sz) := by
  refine Met.ofW (cc := cX1_init) (maxL := 1) (ret := none) (by decide) rfl ?_
  intro p e s m args below meth c s₁ B hml hv
  obtain ⟨rfl, hsz, hP, hK, hD0, hN⟩ := hv
  have hx := B.exec
  have hb := B.bytes
  have hr := B.returns
  have hts := atoms_spec (ws := wsX1_init) B.pre
  have hown : s.vm.findClass RX1 = some m.cls := findClass_of_methodNamed B.named
  have hlocks := B.notSynchronized
  have hin : meth.name = "<init>" := (name_of_methodNamed B.named B.method).1
  subst hsz
  have hD := hD0.self (sz := s.heap.size)
  generalize hAe : va_A [(h0, .inr (1, [.null, .null, .null, .null, .null, .null, .null, .int 0]))] s.heap.size = A at hD ⊢
  have hA : ∀ q : Nat, s.heap.size ≤ q → A q := fun q h => by rw [← hAe]; exact Or.inr h
  have hS : va_S A s.heap s.heap [] := va_S.rf
  have hP : va_P D vwCl [(h0, .inr (1, [.null, .null, .null, .null, .null, .null, .null, .int 0]))] s.heap := hP
  have hl := lv_entry ([.ref h0]) (n := 1) (Nat.le_of_ble_eq_true rfl)
  rw [lg_entry_eq]
  generalize (lg_sl ([.ref h0]) ++ List.replicate (1 - (lg_sl ([.ref h0])).length) Slot.unset).toArray = ls at hl ⊢
  have hl : lv_has ls 1 [(0, .ref h0)] := hl
  refine lv_aload_n hx hb dX1_init_0 rfl (lv_at hl 0 rfl) ?_
  refine W.objInit hx hb hown (hts (.methodLink RX1 3 objectInit) mX1_init_w0) (hts (.instanceMethod objectInit) mX1_init_w1) (hts (.code objectInit ⟨#[0xb1]⟩ 1 none) mX1_init_w2) rfl (by rw [hml]; exact hl.1) rfl dX1_init_1 (Nat.le_of_ble_eq_true rfl) (Nat.le_of_ble_eq_true rfl) ?_
  refine W.eq (g2 := F0 m 4 ls []) rfl ?_
  refine lv_aload_n hx hb dX1_init_4 rfl (lv_at hl 0 rfl) ?_
  refine lv_bipush (v := 8) hx hb dX1_init_5 (by decide) ?_
  refine wk_newI hx hb (hts (.arrayClass .int) mX1_init_w3) hK hP hD hS hA 0 rfl 8 (by decide) (by decide) (by decide) (Nat.le_of_ble_eq_true rfl) (Nat.le_of_ble_eq_true rfl) dX1_init_7 (fun q1 H hP hD hS => ?_)
  have hP : va_P D vwCl [(h0, .inr (1, [.null, .null, .null, .null, .null, .null, .null, .int 0])), (q1, .inl (G.1, 8, .inl (fun _ => 0)))] H := hP
  have hD : va_D A [(h0, .inr (1, [.null, .null, .null, .null, .null, .null, .null, .int 0])), (q1, .inl (G.1, 8, .inl (fun _ => 0)))] := hD
  refine W.widen (k := 1) (n := 8) (by omega) (by omega) ?_
  refine va_putF (D := D) (ci := 1) (v := .ref q1) (ty := (tyX1 0)) (C := RX1) (T := TX1) (N := 8) hx hb hts iX1_init_X1 tyX1 tyX1_ok nmX1 hown hK hP hD hS 0 rfl rfl 0 (by decide) (hts (.fieldLink RX1 9 "PuppetBridge$Cords" "limb" "[I") mX1_init_w4) (fun _ h9 => h9) rfl hin rfl (tyX1_ok 0 (by decide)) rfl rfl (Nat.le_of_ble_eq_true rfl) dX1_init_9 (fun H locs hP hD hS => ?_)
  have hP : va_P D vwCl [(h0, .inr (1, [.ref q1, .null, .null, .null, .null, .null, .null, .int 0])), (q1, .inl (G.1, 8, .inl (fun _ => 0)))] H := hP
  have hD : va_D A [(h0, .inr (1, [.ref q1, .null, .null, .null, .null, .null, .null, .int 0])), (q1, .inl (G.1, 8, .inl (fun _ => 0)))] := hD
  refine lv_aload_n hx hb dX1_init_12 rfl (lv_at hl 0 rfl) ?_
  refine lv_bipush (v := 8) hx hb dX1_init_13 (by decide) ?_
  refine wk_newI hx hb (hts (.arrayClass .int) mX1_init_w3) hK hP hD hS hA 0 rfl 8 (by decide) (by decide) (by decide) (Nat.le_of_ble_eq_true rfl) (Nat.le_of_ble_eq_true rfl) dX1_init_15 (fun q2 H hP hD hS => ?_)
  have hP : va_P D vwCl [(h0, .inr (1, [.ref q1, .null, .null, .null, .null, .null, .null, .int 0])), (q1, .inl (G.1, 8, .inl (fun _ => 0))), (q2, .inl (G.1, 8, .inl (fun _ => 0)))] H := hP
  have hD : va_D A [(h0, .inr (1, [.ref q1, .null, .null, .null, .null, .null, .null, .int 0])), (q1, .inl (G.1, 8, .inl (fun _ => 0))), (q2, .inl (G.1, 8, .inl (fun _ => 0)))] := hD
  refine W.widen (k := 2) (n := 16) (by omega) (by omega) ?_
  refine va_putF (D := D) (ci := 1) (v := .ref q2) (ty := (tyX1 1)) (C := RX1) (T := TX1) (N := 8) hx hb hts iX1_init_X1 tyX1 tyX1_ok nmX1 hown hK hP hD hS 0 rfl rfl 1 (by decide) (hts (.fieldLink RX1 15 "PuppetBridge$Cords" "side" "[I") mX1_init_w5) (fun _ h9 => h9) rfl hin rfl (tyX1_ok 1 (by decide)) rfl rfl (Nat.le_of_ble_eq_true rfl) dX1_init_17 (fun H locs hP hD hS => ?_)
  have hP : va_P D vwCl [(h0, .inr (1, [.ref q1, .ref q2, .null, .null, .null, .null, .null, .int 0])), (q1, .inl (G.1, 8, .inl (fun _ => 0))), (q2, .inl (G.1, 8, .inl (fun _ => 0)))] H := hP
  have hD : va_D A [(h0, .inr (1, [.ref q1, .ref q2, .null, .null, .null, .null, .null, .int 0])), (q1, .inl (G.1, 8, .inl (fun _ => 0))), (q2, .inl (G.1, 8, .inl (fun _ => 0)))] := hD
  refine lv_aload_n hx hb dX1_init_20 rfl (lv_at hl 0 rfl) ?_
  refine lv_bipush (v := 8) hx hb dX1_init_21 (by decide) ?_
  refine wk_newI hx hb (hts (.arrayClass .int) mX1_init_w3) hK hP hD hS hA 0 rfl 8 (by decide) (by decide) (by decide) (Nat.le_of_ble_eq_true rfl) (Nat.le_of_ble_eq_true rfl) dX1_init_23 (fun q3 H hP hD hS => ?_)
  have hP : va_P D vwCl [(h0, .inr (1, [.ref q1, .ref q2, .null, .null, .null, .null, .null, .int 0])), (q1, .inl (G.1, 8, .inl (fun _ => 0))), (q2, .inl (G.1, 8, .inl (fun _ => 0))), (q3, .inl (G.1, 8, .inl (fun _ => 0)))] H := hP
  have hD : va_D A [(h0, .inr (1, [.ref q1, .ref q2, .null, .null, .null, .null, .null, .int 0])), (q1, .inl (G.1, 8, .inl (fun _ => 0))), (q2, .inl (G.1, 8, .inl (fun _ => 0))), (q3, .inl (G.1, 8, .inl (fun _ => 0)))] := hD
  refine W.widen (k := 3) (n := 24) (by omega) (by omega) ?_
  refine va_putF (D := D) (ci := 1) (v := .ref q3) (ty := (tyX1 2)) (C := RX1) (T := TX1) (N := 8) hx hb hts iX1_init_X1 tyX1 tyX1_ok nmX1 hown hK hP hD hS 0 rfl rfl 2 (by decide) (hts (.fieldLink RX1 18 "PuppetBridge$Cords" "strength" "[I") mX1_init_w6) (fun _ h9 => h9) rfl hin rfl (tyX1_ok 2 (by decide)) rfl rfl (Nat.le_of_ble_eq_true rfl) dX1_init_25 (fun H locs hP hD hS => ?_)
  have hP : va_P D vwCl [(h0, .inr (1, [.ref q1, .ref q2, .ref q3, .null, .null, .null, .null, .int 0])), (q1, .inl (G.1, 8, .inl (fun _ => 0))), (q2, .inl (G.1, 8, .inl (fun _ => 0))), (q3, .inl (G.1, 8, .inl (fun _ => 0)))] H := hP
  have hD : va_D A [(h0, .inr (1, [.ref q1, .ref q2, .ref q3, .null, .null, .null, .null, .int 0])), (q1, .inl (G.1, 8, .inl (fun _ => 0))), (q2, .inl (G.1, 8, .inl (fun _ => 0))), (q3, .inl (G.1, 8, .inl (fun _ => 0)))] := hD
  refine lv_aload_n hx hb dX1_init_28 rfl (lv_at hl 0 rfl) ?_
  refine lv_bipush (v := 8) hx hb dX1_init_29 (by decide) ?_
  refine wk_newI hx hb (hts (.arrayClass .int) mX1_init_w3) hK hP hD hS hA 0 rfl 8 (by decide) (by decide) (by decide) (Nat.le_of_ble_eq_true rfl) (Nat.le_of_ble_eq_true rfl) dX1_init_31 (fun q4 H hP hD hS => ?_)
  have hP : va_P D vwCl [(h0, .inr (1, [.ref q1, .ref q2, .ref q3, .null, .null, .null, .null, .int 0])), (q1, .inl (G.1, 8, .inl (fun _ => 0))), (q2, .inl (G.1, 8, .inl (fun _ => 0))), (q3, .inl (G.1, 8, .inl (fun _ => 0))), (q4, .inl (G.1, 8, .inl (fun _ => 0)))] H := hP
  have hD : va_D A [(h0, .inr (1, [.ref q1, .ref q2, .ref q3, .null, .null, .null, .null, .int 0])), (q1, .inl (G.1, 8, .inl (fun _ => 0))), (q2, .inl (G.1, 8, .inl (fun _ => 0))), (q3, .inl (G.1, 8, .inl (fun _ => 0))), (q4, .inl (G.1, 8, .inl (fun _ => 0)))] := hD
  refine W.widen (k := 4) (n := 32) (by omega) (by omega) ?_
  refine va_putF (D := D) (ci := 1) (v := .ref q4) (ty := (tyX1 3)) (C := RX1) (T := TX1) (N := 8) hx hb hts iX1_init_X1 tyX1 tyX1_ok nmX1 hown hK hP hD hS 0 rfl rfl 3 (by decide) (hts (.fieldLink RX1 21 "PuppetBridge$Cords" "pull" "[I") mX1_init_w7) (fun _ h9 => h9) rfl hin rfl (tyX1_ok 3 (by decide)) rfl rfl (Nat.le_of_ble_eq_true rfl) dX1_init_33 (fun H locs hP hD hS => ?_)
  have hP : va_P D vwCl [(h0, .inr (1, [.ref q1, .ref q2, .ref q3, .ref q4, .null, .null, .null, .int 0])), (q1, .inl (G.1, 8, .inl (fun _ => 0))), (q2, .inl (G.1, 8, .inl (fun _ => 0))), (q3, .inl (G.1, 8, .inl (fun _ => 0))), (q4, .inl (G.1, 8, .inl (fun _ => 0)))] H := hP
  have hD : va_D A [(h0, .inr (1, [.ref q1, .ref q2, .ref q3, .ref q4, .null, .null, .null, .int 0])), (q1, .inl (G.1, 8, .inl (fun _ => 0))), (q2, .inl (G.1, 8, .inl (fun _ => 0))), (q3, .inl (G.1, 8, .inl (fun _ => 0))), (q4, .inl (G.1, 8, .inl (fun _ => 0)))] := hD
  refine lv_aload_n hx hb dX1_init_36 rfl (lv_at hl 0 rfl) ?_
  refine lv_bipush (v := 8) hx hb dX1_init_37 (by decide) ?_
  refine wk_newI hx hb (hts (.arrayClass .int) mX1_init_w3) hK hP hD hS hA 0 rfl 8 (by decide) (by decide) (by decide) (Nat.le_of_ble_eq_true rfl) (Nat.le_of_ble_eq_true rfl) dX1_init_39 (fun q5 H hP hD hS => ?_)
  have hP : va_P D vwCl [(h0, .inr (1, [.ref q1, .ref q2, .ref q3, .ref q4, .null, .null, .null, .int 0])), (q1, .inl (G.1, 8, .inl (fun _ => 0))), (q2, .inl (G.1, 8, .inl (fun _ => 0))), (q3, .inl (G.1, 8, .inl (fun _ => 0))), (q4, .inl (G.1, 8, .inl (fun _ => 0))), (q5, .inl (G.1, 8, .inl (fun _ => 0)))] H := hP
  have hD : va_D A [(h0, .inr (1, [.ref q1, .ref q2, .ref q3, .ref q4, .null, .null, .null, .int 0])), (q1, .inl (G.1, 8, .inl (fun _ => 0))), (q2, .inl (G.1, 8, .inl (fun _ => 0))), (q3, .inl (G.1, 8, .inl (fun _ => 0))), (q4, .inl (G.1, 8, .inl (fun _ => 0))), (q5, .inl (G.1, 8, .inl (fun _ => 0)))] := hD
  refine W.widen (k := 5) (n := 40) (by omega) (by omega) ?_
  refine va_putF (D := D) (ci := 1) (v := .ref q5) (ty := (tyX1 4)) (C := RX1) (T := TX1) (N := 8) hx hb hts iX1_init_X1 tyX1 tyX1_ok nmX1 hown hK hP hD hS 0 rfl rfl 4 (by decide) (hts (.fieldLink RX1 24 "PuppetBridge$Cords" "wish" "[I") mX1_init_w8) (fun _ h9 => h9) rfl hin rfl (tyX1_ok 4 (by decide)) rfl rfl (Nat.le_of_ble_eq_true rfl) dX1_init_41 (fun H locs hP hD hS => ?_)
  have hP : va_P D vwCl [(h0, .inr (1, [.ref q1, .ref q2, .ref q3, .ref q4, .ref q5, .null, .null, .int 0])), (q1, .inl (G.1, 8, .inl (fun _ => 0))), (q2, .inl (G.1, 8, .inl (fun _ => 0))), (q3, .inl (G.1, 8, .inl (fun _ => 0))), (q4, .inl (G.1, 8, .inl (fun _ => 0))), (q5, .inl (G.1, 8, .inl (fun _ => 0)))] H := hP
  have hD : va_D A [(h0, .inr (1, [.ref q1, .ref q2, .ref q3, .ref q4, .ref q5, .null, .null, .int 0])), (q1, .inl (G.1, 8, .inl (fun _ => 0))), (q2, .inl (G.1, 8, .inl (fun _ => 0))), (q3, .inl (G.1, 8, .inl (fun _ => 0))), (q4, .inl (G.1, 8, .inl (fun _ => 0))), (q5, .inl (G.1, 8, .inl (fun _ => 0)))] := hD
  refine lv_aload_n hx hb dX1_init_44 rfl (lv_at hl 0 rfl) ?_
  refine lv_bipush (v := 8) hx hb dX1_init_45 (by decide) ?_
  refine wk_newI hx hb (hts (.arrayClass .int) mX1_init_w3) hK hP hD hS hA 0 rfl 8 (by decide) (by decide) (by decide) (Nat.le_of_ble_eq_true rfl) (Nat.le_of_ble_eq_true rfl) dX1_init_47 (fun q6 H hP hD hS => ?_)
  have hP : va_P D vwCl [(h0, .inr (1, [.ref q1, .ref q2, .ref q3, .ref q4, .ref q5, .null, .null, .int 0])), (q1, .inl (G.1, 8, .inl (fun _ => 0))), (q2, .inl (G.1, 8, .inl (fun _ => 0))), (q3, .inl (G.1, 8, .inl (fun _ => 0))), (q4, .inl (G.1, 8, .inl (fun _ => 0))), (q5, .inl (G.1, 8, .inl (fun _ => 0))), (q6, .inl (G.1, 8, .inl (fun _ => 0)))] H := hP
  have hD : va_D A [(h0, .inr (1, [.ref q1, .ref q2, .ref q3, .ref q4, .ref q5, .null, .null, .int 0])), (q1, .inl (G.1, 8, .inl (fun _ => 0))), (q2, .inl (G.1, 8, .inl (fun _ => 0))), (q3, .inl (G.1, 8, .inl (fun _ => 0))), (q4, .inl (G.1, 8, .inl (fun _ => 0))), (q5, .inl (G.1, 8, .inl (fun _ => 0))), (q6, .inl (G.1, 8, .inl (fun _ => 0)))] := hD
  refine W.widen (k := 6) (n := 48) (by omega) (by omega) ?_
  refine va_putF (D := D) (ci := 1) (v := .ref q6) (ty := (tyX1 5)) (C := RX1) (T := TX1) (N := 8) hx hb hts iX1_init_X1 tyX1 tyX1_ok nmX1 hown hK hP hD hS 0 rfl rfl 5 (by decide) (hts (.fieldLink RX1 27 "PuppetBridge$Cords" "wear" "[I") mX1_init_w9) (fun _ h9 => h9) rfl hin rfl (tyX1_ok 5 (by decide)) rfl rfl (Nat.le_of_ble_eq_true rfl) dX1_init_49 (fun H locs hP hD hS => ?_)
  have hP : va_P D vwCl [(h0, .inr (1, [.ref q1, .ref q2, .ref q3, .ref q4, .ref q5, .ref q6, .null, .int 0])), (q1, .inl (G.1, 8, .inl (fun _ => 0))), (q2, .inl (G.1, 8, .inl (fun _ => 0))), (q3, .inl (G.1, 8, .inl (fun _ => 0))), (q4, .inl (G.1, 8, .inl (fun _ => 0))), (q5, .inl (G.1, 8, .inl (fun _ => 0))), (q6, .inl (G.1, 8, .inl (fun _ => 0)))] H := hP
  have hD : va_D A [(h0, .inr (1, [.ref q1, .ref q2, .ref q3, .ref q4, .ref q5, .ref q6, .null, .int 0])), (q1, .inl (G.1, 8, .inl (fun _ => 0))), (q2, .inl (G.1, 8, .inl (fun _ => 0))), (q3, .inl (G.1, 8, .inl (fun _ => 0))), (q4, .inl (G.1, 8, .inl (fun _ => 0))), (q5, .inl (G.1, 8, .inl (fun _ => 0))), (q6, .inl (G.1, 8, .inl (fun _ => 0)))] := hD
  refine lv_aload_n hx hb dX1_init_52 rfl (lv_at hl 0 rfl) ?_
  refine lv_bipush (v := 8) hx hb dX1_init_53 (by decide) ?_
  refine wk_newZ hx hb (hts (.arrayClass .boolean) mX1_init_w10) hK hP hD hS hA 3 rfl 8 (by decide) (by decide) (by decide) (Nat.le_of_ble_eq_true rfl) (Nat.le_of_ble_eq_true rfl) dX1_init_55 (fun q7 H hP hD hS => ?_)
  have hP : va_P D vwCl [(h0, .inr (1, [.ref q1, .ref q2, .ref q3, .ref q4, .ref q5, .ref q6, .null, .int 0])), (q1, .inl (G.1, 8, .inl (fun _ => 0))), (q2, .inl (G.1, 8, .inl (fun _ => 0))), (q3, .inl (G.1, 8, .inl (fun _ => 0))), (q4, .inl (G.1, 8, .inl (fun _ => 0))), (q5, .inl (G.1, 8, .inl (fun _ => 0))), (q6, .inl (G.1, 8, .inl (fun _ => 0))), (q7, .inl (G.2.2.2.1, 8, .inl (fun _ => 0)))] H := hP
  have hD : va_D A [(h0, .inr (1, [.ref q1, .ref q2, .ref q3, .ref q4, .ref q5, .ref q6, .null, .int 0])), (q1, .inl (G.1, 8, .inl (fun _ => 0))), (q2, .inl (G.1, 8, .inl (fun _ => 0))), (q3, .inl (G.1, 8, .inl (fun _ => 0))), (q4, .inl (G.1, 8, .inl (fun _ => 0))), (q5, .inl (G.1, 8, .inl (fun _ => 0))), (q6, .inl (G.1, 8, .inl (fun _ => 0))), (q7, .inl (G.2.2.2.1, 8, .inl (fun _ => 0)))] := hD
  refine W.widen (k := 7) (n := 56) (by omega) (by omega) ?_
  refine va_putF (D := D) (ci := 1) (v := .ref q7) (ty := (tyX1 6)) (C := RX1) (T := TX1) (N := 8) hx hb hts iX1_init_X1 tyX1 tyX1_ok nmX1 hown hK hP hD hS 0 rfl rfl 6 (by decide) (hts (.fieldLink RX1 30 "PuppetBridge$Cords" "snapped" "[Z") mX1_init_w11) (fun _ h9 => h9) rfl hin rfl (tyX1_ok 6 (by decide)) rfl rfl (Nat.le_of_ble_eq_true rfl) dX1_init_57 (fun H locs hP hD hS => ?_)
  have hP : va_P D vwCl [(h0, .inr (1, [.ref q1, .ref q2, .ref q3, .ref q4, .ref q5, .ref q6, .ref q7, .int 0])), (q1, .inl (G.1, 8, .inl (fun _ => 0))), (q2, .inl (G.1, 8, .inl (fun _ => 0))), (q3, .inl (G.1, 8, .inl (fun _ => 0))), (q4, .inl (G.1, 8, .inl (fun _ => 0))), (q5, .inl (G.1, 8, .inl (fun _ => 0))), (q6, .inl (G.1, 8, .inl (fun _ => 0))), (q7, .inl (G.2.2.2.1, 8, .inl (fun _ => 0)))] H := hP
  have hD : va_D A [(h0, .inr (1, [.ref q1, .ref q2, .ref q3, .ref q4, .ref q5, .ref q6, .ref q7, .int 0])), (q1, .inl (G.1, 8, .inl (fun _ => 0))), (q2, .inl (G.1, 8, .inl (fun _ => 0))), (q3, .inl (G.1, 8, .inl (fun _ => 0))), (q4, .inl (G.1, 8, .inl (fun _ => 0))), (q5, .inl (G.1, 8, .inl (fun _ => 0))), (q6, .inl (G.1, 8, .inl (fun _ => 0))), (q7, .inl (G.2.2.2.1, 8, .inl (fun _ => 0)))] := hD
  have hP9 := hP.sub (ws' := [(h0, .inr (1, [.ref q1, .ref q2, .ref q3, .ref q4, .ref q5, .ref q6, .ref q7, .int 0])), (q1, .inl (G.1, 8, .inl (fun _ => 0))), (q2, .inl (G.1, 8, .inl (fun _ => 0))), (q3, .inl (G.1, 8, .inl (fun _ => 0))), (q4, .inl (G.1, 8, .inl (fun _ => 0))), (q5, .inl (G.1, 8, .inl (fun _ => 0))), (q6, .inl (G.1, 8, .inl (fun _ => 0))), (q7, .inl (G.2.2.2.1, 8, .inl (fun _ => 0)))]) [0, 1, 2, 3, 4, 5, 6, 7] rfl
  have hD9 := hD.sub (ws' := [(h0, .inr (1, [.ref q1, .ref q2, .ref q3, .ref q4, .ref q5, .ref q6, .ref q7, .int 0])), (q1, .inl (G.1, 8, .inl (fun _ => 0))), (q2, .inl (G.1, 8, .inl (fun _ => 0))), (q3, .inl (G.1, 8, .inl (fun _ => 0))), (q4, .inl (G.1, 8, .inl (fun _ => 0))), (q5, .inl (G.1, 8, .inl (fun _ => 0))), (q6, .inl (G.1, 8, .inl (fun _ => 0))), (q7, .inl (G.2.2.2.1, 8, .inl (fun _ => 0)))]) [0, 1, 2, 3, 4, 5, 6, 7] (by decide) rfl
  exact W.vret hx hb hr (fun t ht hW => ⟨⟨(), rfl, trivial, ⟨q1, q2, q3, q4, q5, q6, q7, by rw [ht]; exact hP9, va_K.moved hW.alike hK, hD9⟩⟩, hS.F ht⟩) hS.2.2 dX1_init_60

theorem mX3_init_w0 : Cond.methodLink RX3 3 objectInit ∈ wsX3_init := by decide +kernel
theorem mX3_init_w1 : Cond.instanceMethod objectInit ∈ wsX3_init := by decide +kernel
theorem mX3_init_w2 : Cond.code objectInit ⟨#[0xb1]⟩ 1 none ∈ wsX3_init := by decide +kernel
theorem mX3_init_w3 : Cond.arrayClass .int ∈ wsX3_init := by decide +kernel
theorem mX3_init_w4 : Cond.fieldLink RX3 11 "PuppetBridge$Hands" "scenes" "[I" ∈ wsX3_init := by decide +kernel
theorem mX3_init_w5 : Cond.fieldLink RX3 15 "PuppetBridge$Hands" "holder" "[I" ∈ wsX3_init := by decide +kernel
theorem mX3_init_w6 : Cond.fieldLink RX3 18 "PuppetBridge$Hands" "held" "[I" ∈ wsX3_init := by decide +kernel
theorem iX3_init_X3 : ∀ w ∈ wsX30, w ∈ wsX3_init := fun _ h => List.mem_cons_of_mem _ (List.mem_append_right _ h)
theorem dX3_init_0 : decode cX3_init 0 = .ok (.aload_n 0, 1) := by decide +kernel
theorem dX3_init_1 : decode cX3_init 1 = .ok (.invokespecial 3, 3) := by decide +kernel
theorem dX3_init_4 : decode cX3_init 4 = .ok (.aload_n 0, 1) := by decide +kernel
theorem dX3_init_5 : decode cX3_init 5 = .ok (.bipush 8, 2) := by decide +kernel
theorem dX3_init_7 : decode cX3_init 7 = .ok (.newarray .int, 2) := by decide +kernel
theorem dX3_init_9 : decode cX3_init 9 = .ok (.putfield 11, 3) := by decide +kernel
theorem dX3_init_12 : decode cX3_init 12 = .ok (.aload_n 0, 1) := by decide +kernel
theorem dX3_init_13 : decode cX3_init 13 = .ok (.iconst 4, 1) := by decide +kernel
theorem dX3_init_14 : decode cX3_init 14 = .ok (.newarray .int, 2) := by decide +kernel
theorem dX3_init_16 : decode cX3_init 16 = .ok (.putfield 15, 3) := by decide +kernel
theorem dX3_init_19 : decode cX3_init 19 = .ok (.aload_n 0, 1) := by decide +kernel
theorem dX3_init_20 : decode cX3_init 20 = .ok (.iconst 3, 1) := by decide +kernel
theorem dX3_init_21 : decode cX3_init 21 = .ok (.newarray .int, 2) := by decide +kernel
theorem dX3_init_23 : decode cX3_init 23 = .ok (.putfield 18, 3) := by decide +kernel
theorem dX3_init_26 : decode cX3_init 26 = .ok (.return_, 1) := by decide +kernel
set_option maxHeartbeats 4000000 in
set_option maxRecDepth 100000 in
/-- X3_init -/
theorem kX3_init (l : Launch) (D : va_G) (G : tyG) (h0 : Nat) (sz : Nat) : Met l yX3_init wsX3_init ({ frames := 1, cells := 3, slots := 15, locals := 24 }) (va_Pc [.ref h0] (wB D G sz [(h0, .inr (3, [.null, .null, .null, .int 0]))])) (va_Qv (fun _ : Unit => True) (fun _ t => ∃ (z0 : Nat) (z1 : Nat) (z2 : Nat), wS D G (va_A [(h0, .inr (3, [.null, .null, .null, .int 0]))] sz) [(h0, .inr (3, [.ref z0, .ref z1, .ref z2, .int 0])), (z0, .inl (G.1, 8, .inl (fun _ => 0))), (z1, .inl (G.1, 4, .inl (fun _ => 0))), (z2, .inl (G.1, 3, .inl (fun _ => 0)))] t) (va_A [(h0, .inr (3, [.null, .null, .null, .int 0]))] sz)) 3 15 (va_A [(h0, .inr (3, [.null, .null, .null, .int 0]))] sz) := by
  refine Met.ofW (cc := cX3_init) (maxL := 1) (ret := none) (by decide) rfl ?_
  intro p e s m args below meth c s₁ B hml hv
  obtain ⟨rfl, hsz, hP, hK, hD0, hN⟩ := hv
  have hx := B.exec
  have hb := B.bytes
  have hr := B.returns
  have hts := atoms_spec (ws := wsX3_init) B.pre
  have hown : s.vm.findClass RX3 = some m.cls := findClass_of_methodNamed B.named
  have hlocks := B.notSynchronized
  have hin : meth.name = "<init>" := (name_of_methodNamed B.named B.method).1
  subst hsz
  have hD := hD0.self (sz := s.heap.size)
  generalize hAe : va_A [(h0, .inr (3, [.null, .null, .null, .int 0]))] s.heap.size = A at hD ⊢
  have hA : ∀ q : Nat, s.heap.size ≤ q → A q := fun q h => by rw [← hAe]; exact Or.inr h
  have hS : va_S A s.heap s.heap [] := va_S.rf
  have hP : va_P D vwCl [(h0, .inr (3, [.null, .null, .null, .int 0]))] s.heap := hP
  have hl := lv_entry ([.ref h0]) (n := 1) (Nat.le_of_ble_eq_true rfl)
  rw [lg_entry_eq]
  generalize (lg_sl ([.ref h0]) ++ List.replicate (1 - (lg_sl ([.ref h0])).length) Slot.unset).toArray = ls at hl ⊢
  have hl : lv_has ls 1 [(0, .ref h0)] := hl
  refine lv_aload_n hx hb dX3_init_0 rfl (lv_at hl 0 rfl) ?_
  refine W.objInit hx hb hown (hts (.methodLink RX3 3 objectInit) mX3_init_w0) (hts (.instanceMethod objectInit) mX3_init_w1) (hts (.code objectInit ⟨#[0xb1]⟩ 1 none) mX3_init_w2) rfl (by rw [hml]; exact hl.1) rfl dX3_init_1 (Nat.le_of_ble_eq_true rfl) (Nat.le_of_ble_eq_true rfl) ?_
  refine W.eq (g2 := F0 m 4 ls []) rfl ?_
  refine lv_aload_n hx hb dX3_init_4 rfl (lv_at hl 0 rfl) ?_
  refine lv_bipush (v := 8) hx hb dX3_init_5 (by decide) ?_
  refine wk_newI hx hb (hts (.arrayClass .int) mX3_init_w3) hK hP hD hS hA 0 rfl 8 (by decide) (by decide) (by decide) (Nat.le_of_ble_eq_true rfl) (Nat.le_of_ble_eq_true rfl) dX3_init_7 (fun q1 H hP hD hS => ?_)
  have hP : va_P D vwCl [(h0, .inr (3, [.null, .null, .null, .int 0])), (q1, .inl (G.1, 8, .inl (fun _ => 0)))] H := hP
  have hD : va_D A [(h0, .inr (3, [.null, .null, .null, .int 0])), (q1, .inl (G.1, 8, .inl (fun _ => 0)))] := hD
  refine W.widen (k := 1) (n := 8) (by omega) (by omega) ?_
  refine va_putF (D := D) (ci := 3) (v := .ref q1) (ty := (tyX3 0)) (C := RX3) (T := TX3) (N := 4) hx hb hts iX3_init_X3 tyX3 tyX3_ok nmX3 hown hK hP hD hS 0 rfl rfl 0 (by decide) (hts (.fieldLink RX3 11 "PuppetBridge$Hands" "scenes" "[I") mX3_init_w4) (fun _ h9 => h9) rfl hin rfl (tyX3_ok 0 (by decide)) rfl rfl (Nat.le_of_ble_eq_true rfl) dX3_init_9 (fun H locs hP hD hS => ?_)
  have hP : va_P D vwCl [(h0, .inr (3, [.ref q1, .null, .null, .int 0])), (q1, .inl (G.1, 8, .inl (fun _ => 0)))] H := hP
  have hD : va_D A [(h0, .inr (3, [.ref q1, .null, .null, .int 0])), (q1, .inl (G.1, 8, .inl (fun _ => 0)))] := hD
  refine lv_aload_n hx hb dX3_init_12 rfl (lv_at hl 0 rfl) ?_
  refine lv_iconst (v := 4) hx hb dX3_init_13 (by decide) ?_
  refine wk_newI hx hb (hts (.arrayClass .int) mX3_init_w3) hK hP hD hS hA 0 rfl 4 (by decide) (by decide) (by decide) (Nat.le_of_ble_eq_true rfl) (Nat.le_of_ble_eq_true rfl) dX3_init_14 (fun q2 H hP hD hS => ?_)
  have hP : va_P D vwCl [(h0, .inr (3, [.ref q1, .null, .null, .int 0])), (q1, .inl (G.1, 8, .inl (fun _ => 0))), (q2, .inl (G.1, 4, .inl (fun _ => 0)))] H := hP
  have hD : va_D A [(h0, .inr (3, [.ref q1, .null, .null, .int 0])), (q1, .inl (G.1, 8, .inl (fun _ => 0))), (q2, .inl (G.1, 4, .inl (fun _ => 0)))] := hD
  refine W.widen (k := 2) (n := 12) (by omega) (by omega) ?_
  refine va_putF (D := D) (ci := 3) (v := .ref q2) (ty := (tyX3 1)) (C := RX3) (T := TX3) (N := 4) hx hb hts iX3_init_X3 tyX3 tyX3_ok nmX3 hown hK hP hD hS 0 rfl rfl 1 (by decide) (hts (.fieldLink RX3 15 "PuppetBridge$Hands" "holder" "[I") mX3_init_w5) (fun _ h9 => h9) rfl hin rfl (tyX3_ok 1 (by decide)) rfl rfl (Nat.le_of_ble_eq_true rfl) dX3_init_16 (fun H locs hP hD hS => ?_)
  have hP : va_P D vwCl [(h0, .inr (3, [.ref q1, .ref q2, .null, .int 0])), (q1, .inl (G.1, 8, .inl (fun _ => 0))), (q2, .inl (G.1, 4, .inl (fun _ => 0)))] H := hP
  have hD : va_D A [(h0, .inr (3, [.ref q1, .ref q2, .null, .int 0])), (q1, .inl (G.1, 8, .inl (fun _ => 0))), (q2, .inl (G.1, 4, .inl (fun _ => 0)))] := hD
  refine lv_aload_n hx hb dX3_init_19 rfl (lv_at hl 0 rfl) ?_
  refine lv_iconst (v := 3) hx hb dX3_init_20 (by decide) ?_
  refine wk_newI hx hb (hts (.arrayClass .int) mX3_init_w3) hK hP hD hS hA 0 rfl 3 (by decide) (by decide) (by decide) (Nat.le_of_ble_eq_true rfl) (Nat.le_of_ble_eq_true rfl) dX3_init_21 (fun q3 H hP hD hS => ?_)
  have hP : va_P D vwCl [(h0, .inr (3, [.ref q1, .ref q2, .null, .int 0])), (q1, .inl (G.1, 8, .inl (fun _ => 0))), (q2, .inl (G.1, 4, .inl (fun _ => 0))), (q3, .inl (G.1, 3, .inl (fun _ => 0)))] H := hP
  have hD : va_D A [(h0, .inr (3, [.ref q1, .ref q2, .null, .int 0])), (q1, .inl (G.1, 8, .inl (fun _ => 0))), (q2, .inl (G.1, 4, .inl (fun _ => 0))), (q3, .inl (G.1, 3, .inl (fun _ => 0)))] := hD
  refine W.widen (k := 3) (n := 15) (by omega) (by omega) ?_
  refine va_putF (D := D) (ci := 3) (v := .ref q3) (ty := (tyX3 2)) (C := RX3) (T := TX3) (N := 4) hx hb hts iX3_init_X3 tyX3 tyX3_ok nmX3 hown hK hP hD hS 0 rfl rfl 2 (by decide) (hts (.fieldLink RX3 18 "PuppetBridge$Hands" "held" "[I") mX3_init_w6) (fun _ h9 => h9) rfl hin rfl (tyX3_ok 2 (by decide)) rfl rfl (Nat.le_of_ble_eq_true rfl) dX3_init_23 (fun H locs hP hD hS => ?_)
  have hP : va_P D vwCl [(h0, .inr (3, [.ref q1, .ref q2, .ref q3, .int 0])), (q1, .inl (G.1, 8, .inl (fun _ => 0))), (q2, .inl (G.1, 4, .inl (fun _ => 0))), (q3, .inl (G.1, 3, .inl (fun _ => 0)))] H := hP
  have hD : va_D A [(h0, .inr (3, [.ref q1, .ref q2, .ref q3, .int 0])), (q1, .inl (G.1, 8, .inl (fun _ => 0))), (q2, .inl (G.1, 4, .inl (fun _ => 0))), (q3, .inl (G.1, 3, .inl (fun _ => 0)))] := hD
  have hP9 := hP.sub (ws' := [(h0, .inr (3, [.ref q1, .ref q2, .ref q3, .int 0])), (q1, .inl (G.1, 8, .inl (fun _ => 0))), (q2, .inl (G.1, 4, .inl (fun _ => 0))), (q3, .inl (G.1, 3, .inl (fun _ => 0)))]) [0, 1, 2, 3] rfl
  have hD9 := hD.sub (ws' := [(h0, .inr (3, [.ref q1, .ref q2, .ref q3, .int 0])), (q1, .inl (G.1, 8, .inl (fun _ => 0))), (q2, .inl (G.1, 4, .inl (fun _ => 0))), (q3, .inl (G.1, 3, .inl (fun _ => 0)))]) [0, 1, 2, 3] (by decide) rfl
  exact W.vret hx hb hr (fun t ht hW => ⟨⟨(), rfl, trivial, ⟨q1, q2, q3, by rw [ht]; exact hP9, va_K.moved hW.alike hK, hD9⟩⟩, hS.F ht⟩) hS.2.2 dX3_init_26

theorem mX4_init_w0 : Cond.methodLink RX4 3 objectInit ∈ wsX4_init := by decide +kernel
theorem mX4_init_w1 : Cond.instanceMethod objectInit ∈ wsX4_init := by decide +kernel
theorem mX4_init_w2 : Cond.code objectInit ⟨#[0xb1]⟩ 1 none ∈ wsX4_init := by decide +kernel
theorem mX4_init_w3 : Cond.arrayClass .int ∈ wsX4_init := by decide +kernel
theorem mX4_init_w4 : Cond.fieldLink RX4 11 "PuppetBridge$Reach" "chosen" "[I" ∈ wsX4_init := by decide +kernel
theorem mX4_init_w5 : Cond.fieldLink RX4 15 "PuppetBridge$Reach" "best" "[I" ∈ wsX4_init := by decide +kernel
theorem iX4_init_X4 : ∀ w ∈ wsX40, w ∈ wsX4_init := fun _ h => List.mem_cons_of_mem _ (List.mem_append_right _ h)
theorem dX4_init_0 : decode cX4_init 0 = .ok (.aload_n 0, 1) := by decide +kernel
theorem dX4_init_1 : decode cX4_init 1 = .ok (.invokespecial 3, 3) := by decide +kernel
theorem dX4_init_4 : decode cX4_init 4 = .ok (.aload_n 0, 1) := by decide +kernel
theorem dX4_init_5 : decode cX4_init 5 = .ok (.iconst 3, 1) := by decide +kernel
theorem dX4_init_6 : decode cX4_init 6 = .ok (.newarray .int, 2) := by decide +kernel
theorem dX4_init_8 : decode cX4_init 8 = .ok (.putfield 11, 3) := by decide +kernel
theorem dX4_init_11 : decode cX4_init 11 = .ok (.aload_n 0, 1) := by decide +kernel
theorem dX4_init_12 : decode cX4_init 12 = .ok (.iconst 3, 1) := by decide +kernel
theorem dX4_init_13 : decode cX4_init 13 = .ok (.newarray .int, 2) := by decide +kernel
theorem dX4_init_15 : decode cX4_init 15 = .ok (.putfield 15, 3) := by decide +kernel
theorem dX4_init_18 : decode cX4_init 18 = .ok (.return_, 1) := by decide +kernel
set_option maxHeartbeats 4000000 in
set_option maxRecDepth 100000 in
/-- X4_init -/
theorem kX4_init (l : Launch) (D : va_G) (G : tyG) (h0 : Nat) (sz : Nat) : Met l yX4_init wsX4_init ({ frames := 1, cells := 2, slots := 6, locals := 24 }) (va_Pc [.ref h0] (wB D G sz [(h0, .inr (4, [.null, .null, .int 0]))])) (va_Qv (fun _ : Unit => True) (fun _ t => ∃ (z0 : Nat) (z1 : Nat), wS D G (va_A [(h0, .inr (4, [.null, .null, .int 0]))] sz) [(h0, .inr (4, [.ref z0, .ref z1, .int 0])), (z0, .inl (G.1, 3, .inl (fun _ => 0))), (z1, .inl (G.1, 3, .inl (fun _ => 0)))] t) (va_A [(h0, .inr (4, [.null, .null, .int 0]))] sz)) 2 6 (va_A [(h0, .inr (4, [.null, .null, .int 0]))] sz) := by
  refine Met.ofW (cc := cX4_init) (maxL := 1) (ret := none) (by decide) rfl ?_
  intro p e s m args below meth c s₁ B hml hv
  obtain ⟨rfl, hsz, hP, hK, hD0, hN⟩ := hv
  have hx := B.exec
  have hb := B.bytes
  have hr := B.returns
  have hts := atoms_spec (ws := wsX4_init) B.pre
  have hown : s.vm.findClass RX4 = some m.cls := findClass_of_methodNamed B.named
  have hlocks := B.notSynchronized
  have hin : meth.name = "<init>" := (name_of_methodNamed B.named B.method).1
  subst hsz
  have hD := hD0.self (sz := s.heap.size)
  generalize hAe : va_A [(h0, .inr (4, [.null, .null, .int 0]))] s.heap.size = A at hD ⊢
  have hA : ∀ q : Nat, s.heap.size ≤ q → A q := fun q h => by rw [← hAe]; exact Or.inr h
  have hS : va_S A s.heap s.heap [] := va_S.rf
  have hP : va_P D vwCl [(h0, .inr (4, [.null, .null, .int 0]))] s.heap := hP
  have hl := lv_entry ([.ref h0]) (n := 1) (Nat.le_of_ble_eq_true rfl)
  rw [lg_entry_eq]
  generalize (lg_sl ([.ref h0]) ++ List.replicate (1 - (lg_sl ([.ref h0])).length) Slot.unset).toArray = ls at hl ⊢
  have hl : lv_has ls 1 [(0, .ref h0)] := hl
  refine lv_aload_n hx hb dX4_init_0 rfl (lv_at hl 0 rfl) ?_
  refine W.objInit hx hb hown (hts (.methodLink RX4 3 objectInit) mX4_init_w0) (hts (.instanceMethod objectInit) mX4_init_w1) (hts (.code objectInit ⟨#[0xb1]⟩ 1 none) mX4_init_w2) rfl (by rw [hml]; exact hl.1) rfl dX4_init_1 (Nat.le_of_ble_eq_true rfl) (Nat.le_of_ble_eq_true rfl) ?_
  refine W.eq (g2 := F0 m 4 ls []) rfl ?_
  refine lv_aload_n hx hb dX4_init_4 rfl (lv_at hl 0 rfl) ?_
  refine lv_iconst (v := 3) hx hb dX4_init_5 (by decide) ?_
  refine wk_newI hx hb (hts (.arrayClass .int) mX4_init_w3) hK hP hD hS hA 0 rfl 3 (by decide) (by decide) (by decide) (Nat.le_of_ble_eq_true rfl) (Nat.le_of_ble_eq_true rfl) dX4_init_6 (fun q1 H hP hD hS => ?_)
  have hP : va_P D vwCl [(h0, .inr (4, [.null, .null, .int 0])), (q1, .inl (G.1, 3, .inl (fun _ => 0)))] H := hP
  have hD : va_D A [(h0, .inr (4, [.null, .null, .int 0])), (q1, .inl (G.1, 3, .inl (fun _ => 0)))] := hD
  refine W.widen (k := 1) (n := 3) (by omega) (by omega) ?_
  refine va_putF (D := D) (ci := 4) (v := .ref q1) (ty := (tyX4 0)) (C := RX4) (T := TX4) (N := 3) hx hb hts iX4_init_X4 tyX4 tyX4_ok nmX4 hown hK hP hD hS 0 rfl rfl 0 (by decide) (hts (.fieldLink RX4 11 "PuppetBridge$Reach" "chosen" "[I") mX4_init_w4) (fun _ h9 => h9) rfl hin rfl (tyX4_ok 0 (by decide)) rfl rfl (Nat.le_of_ble_eq_true rfl) dX4_init_8 (fun H locs hP hD hS => ?_)
  have hP : va_P D vwCl [(h0, .inr (4, [.ref q1, .null, .int 0])), (q1, .inl (G.1, 3, .inl (fun _ => 0)))] H := hP
  have hD : va_D A [(h0, .inr (4, [.ref q1, .null, .int 0])), (q1, .inl (G.1, 3, .inl (fun _ => 0)))] := hD
  refine lv_aload_n hx hb dX4_init_11 rfl (lv_at hl 0 rfl) ?_
  refine lv_iconst (v := 3) hx hb dX4_init_12 (by decide) ?_
  refine wk_newI hx hb (hts (.arrayClass .int) mX4_init_w3) hK hP hD hS hA 0 rfl 3 (by decide) (by decide) (by decide) (Nat.le_of_ble_eq_true rfl) (Nat.le_of_ble_eq_true rfl) dX4_init_13 (fun q2 H hP hD hS => ?_)
  have hP : va_P D vwCl [(h0, .inr (4, [.ref q1, .null, .int 0])), (q1, .inl (G.1, 3, .inl (fun _ => 0))), (q2, .inl (G.1, 3, .inl (fun _ => 0)))] H := hP
  have hD : va_D A [(h0, .inr (4, [.ref q1, .null, .int 0])), (q1, .inl (G.1, 3, .inl (fun _ => 0))), (q2, .inl (G.1, 3, .inl (fun _ => 0)))] := hD
  refine W.widen (k := 2) (n := 6) (by omega) (by omega) ?_
  refine va_putF (D := D) (ci := 4) (v := .ref q2) (ty := (tyX4 1)) (C := RX4) (T := TX4) (N := 3) hx hb hts iX4_init_X4 tyX4 tyX4_ok nmX4 hown hK hP hD hS 0 rfl rfl 1 (by decide) (hts (.fieldLink RX4 15 "PuppetBridge$Reach" "best" "[I") mX4_init_w5) (fun _ h9 => h9) rfl hin rfl (tyX4_ok 1 (by decide)) rfl rfl (Nat.le_of_ble_eq_true rfl) dX4_init_15 (fun H locs hP hD hS => ?_)
  have hP : va_P D vwCl [(h0, .inr (4, [.ref q1, .ref q2, .int 0])), (q1, .inl (G.1, 3, .inl (fun _ => 0))), (q2, .inl (G.1, 3, .inl (fun _ => 0)))] H := hP
  have hD : va_D A [(h0, .inr (4, [.ref q1, .ref q2, .int 0])), (q1, .inl (G.1, 3, .inl (fun _ => 0))), (q2, .inl (G.1, 3, .inl (fun _ => 0)))] := hD
  have hP9 := hP.sub (ws' := [(h0, .inr (4, [.ref q1, .ref q2, .int 0])), (q1, .inl (G.1, 3, .inl (fun _ => 0))), (q2, .inl (G.1, 3, .inl (fun _ => 0)))]) [0, 1, 2] rfl
  have hD9 := hD.sub (ws' := [(h0, .inr (4, [.ref q1, .ref q2, .int 0])), (q1, .inl (G.1, 3, .inl (fun _ => 0))), (q2, .inl (G.1, 3, .inl (fun _ => 0)))]) [0, 1, 2] (by decide) rfl
  exact W.vret hx hb hr (fun t ht hW => ⟨⟨(), rfl, trivial, ⟨q1, q2, by rw [ht]; exact hP9, va_K.moved hW.alike hK, hD9⟩⟩, hS.F ht⟩) hS.2.2 dX4_init_18

theorem mX7_init_w0 : Cond.methodLink RX7 3 objectInit ∈ wsX7_init := by decide +kernel
theorem mX7_init_w1 : Cond.instanceMethod objectInit ∈ wsX7_init := by decide +kernel
theorem mX7_init_w2 : Cond.code objectInit ⟨#[0xb1]⟩ 1 none ∈ wsX7_init := by decide +kernel
theorem mX7_init_w3 : Cond.arrayClass .int ∈ wsX7_init := by decide +kernel
theorem mX7_init_w4 : Cond.fieldLink RX7 9 "PuppetBridge$ScoreReader" "starts" "[I" ∈ wsX7_init := by decide +kernel
theorem mX7_init_w5 : Cond.fieldLink RX7 15 "PuppetBridge$ScoreReader" "opened" "[I" ∈ wsX7_init := by decide +kernel
theorem mX7_init_w6 : Cond.fieldLink RX7 18 "PuppetBridge$ScoreReader" "rounds" "[I" ∈ wsX7_init := by decide +kernel
theorem iX7_init_X7 : ∀ w ∈ wsX70, w ∈ wsX7_init := fun _ h => List.mem_cons_of_mem _ (List.mem_append_right _ h)
theorem dX7_init_0 : decode cX7_init 0 = .ok (.aload_n 0, 1) := by decide +kernel
theorem dX7_init_1 : decode cX7_init 1 = .ok (.invokespecial 3, 3) := by decide +kernel
theorem dX7_init_4 : decode cX7_init 4 = .ok (.aload_n 0, 1) := by decide +kernel
theorem dX7_init_5 : decode cX7_init 5 = .ok (.bipush 80, 2) := by decide +kernel
theorem dX7_init_7 : decode cX7_init 7 = .ok (.newarray .int, 2) := by decide +kernel
theorem dX7_init_9 : decode cX7_init 9 = .ok (.putfield 9, 3) := by decide +kernel
theorem dX7_init_12 : decode cX7_init 12 = .ok (.aload_n 0, 1) := by decide +kernel
theorem dX7_init_13 : decode cX7_init 13 = .ok (.iconst 3, 1) := by decide +kernel
theorem dX7_init_14 : decode cX7_init 14 = .ok (.newarray .int, 2) := by decide +kernel
theorem dX7_init_16 : decode cX7_init 16 = .ok (.putfield 15, 3) := by decide +kernel
theorem dX7_init_19 : decode cX7_init 19 = .ok (.aload_n 0, 1) := by decide +kernel
theorem dX7_init_20 : decode cX7_init 20 = .ok (.iconst 3, 1) := by decide +kernel
theorem dX7_init_21 : decode cX7_init 21 = .ok (.newarray .int, 2) := by decide +kernel
theorem dX7_init_23 : decode cX7_init 23 = .ok (.putfield 18, 3) := by decide +kernel
theorem dX7_init_26 : decode cX7_init 26 = .ok (.return_, 1) := by decide +kernel
set_option maxHeartbeats 4000000 in
set_option maxRecDepth 100000 in
/-- X7_init -/
theorem kX7_init (l : Launch) (D : va_G) (G : tyG) (h0 : Nat) (sz : Nat) : Met l yX7_init wsX7_init ({ frames := 1, cells := 3, slots := 86, locals := 24 }) (va_Pc [.ref h0] (wB D G sz [(h0, .inr (7, [.null, .null, .null, .int 0]))])) (va_Qv (fun _ : Unit => True) (fun _ t => ∃ (z0 : Nat) (z1 : Nat) (z2 : Nat), wS D G (va_A [(h0, .inr (7, [.null, .null, .null, .int 0]))] sz) [(h0, .inr (7, [.ref z0, .ref z1, .ref z2, .int 0])), (z0, .inl (G.1, 80, .inl (fun _ => 0))), (z1, .inl (G.1, 3, .inl (fun _ => 0))), (z2, .inl (G.1, 3, .inl (fun _ => 0)))] t) (va_A [(h0, .inr (7, [.null, .null, .null, .int 0]))] sz)) 3 86 (va_A [(h0, .inr (7, [.null, .null, .null, .int 0]))] sz) := by
  refine Met.ofW (cc := cX7_init) (maxL := 1) (ret := none) (by decide) rfl ?_
  intro p e s m args below meth c s₁ B hml hv
  obtain ⟨rfl, hsz, hP, hK, hD0, hN⟩ := hv
  have hx := B.exec
  have hb := B.bytes
  have hr := B.returns
  have hts := atoms_spec (ws := wsX7_init) B.pre
  have hown : s.vm.findClass RX7 = some m.cls := findClass_of_methodNamed B.named
  have hlocks := B.notSynchronized
  have hin : meth.name = "<init>" := (name_of_methodNamed B.named B.method).1
  subst hsz
  have hD := hD0.self (sz := s.heap.size)
  generalize hAe : va_A [(h0, .inr (7, [.null, .null, .null, .int 0]))] s.heap.size = A at hD ⊢
  have hA : ∀ q : Nat, s.heap.size ≤ q → A q := fun q h => by rw [← hAe]; exact Or.inr h
  have hS : va_S A s.heap s.heap [] := va_S.rf
  have hP : va_P D vwCl [(h0, .inr (7, [.null, .null, .null, .int 0]))] s.heap := hP
  have hl := lv_entry ([.ref h0]) (n := 1) (Nat.le_of_ble_eq_true rfl)
  rw [lg_entry_eq]
  generalize (lg_sl ([.ref h0]) ++ List.replicate (1 - (lg_sl ([.ref h0])).length) Slot.unset).toArray = ls at hl ⊢
  have hl : lv_has ls 1 [(0, .ref h0)] := hl
  refine lv_aload_n hx hb dX7_init_0 rfl (lv_at hl 0 rfl) ?_
  refine W.objInit hx hb hown (hts (.methodLink RX7 3 objectInit) mX7_init_w0) (hts (.instanceMethod objectInit) mX7_init_w1) (hts (.code objectInit ⟨#[0xb1]⟩ 1 none) mX7_init_w2) rfl (by rw [hml]; exact hl.1) rfl dX7_init_1 (Nat.le_of_ble_eq_true rfl) (Nat.le_of_ble_eq_true rfl) ?_
  refine W.eq (g2 := F0 m 4 ls []) rfl ?_
  refine lv_aload_n hx hb dX7_init_4 rfl (lv_at hl 0 rfl) ?_
  refine lv_bipush (v := 80) hx hb dX7_init_5 (by decide) ?_
  refine wk_newI hx hb (hts (.arrayClass .int) mX7_init_w3) hK hP hD hS hA 0 rfl 80 (by decide) (by decide) (by decide) (Nat.le_of_ble_eq_true rfl) (Nat.le_of_ble_eq_true rfl) dX7_init_7 (fun q1 H hP hD hS => ?_)
  have hP : va_P D vwCl [(h0, .inr (7, [.null, .null, .null, .int 0])), (q1, .inl (G.1, 80, .inl (fun _ => 0)))] H := hP
  have hD : va_D A [(h0, .inr (7, [.null, .null, .null, .int 0])), (q1, .inl (G.1, 80, .inl (fun _ => 0)))] := hD
  refine W.widen (k := 1) (n := 80) (by omega) (by omega) ?_
  refine va_putF (D := D) (ci := 7) (v := .ref q1) (ty := (tyX7 0)) (C := RX7) (T := TX7) (N := 4) hx hb hts iX7_init_X7 tyX7 tyX7_ok nmX7 hown hK hP hD hS 0 rfl rfl 0 (by decide) (hts (.fieldLink RX7 9 "PuppetBridge$ScoreReader" "starts" "[I") mX7_init_w4) (fun _ h9 => h9) rfl hin rfl (tyX7_ok 0 (by decide)) rfl rfl (Nat.le_of_ble_eq_true rfl) dX7_init_9 (fun H locs hP hD hS => ?_)
  have hP : va_P D vwCl [(h0, .inr (7, [.ref q1, .null, .null, .int 0])), (q1, .inl (G.1, 80, .inl (fun _ => 0)))] H := hP
  have hD : va_D A [(h0, .inr (7, [.ref q1, .null, .null, .int 0])), (q1, .inl (G.1, 80, .inl (fun _ => 0)))] := hD
  refine lv_aload_n hx hb dX7_init_12 rfl (lv_at hl 0 rfl) ?_
  refine lv_iconst (v := 3) hx hb dX7_init_13 (by decide) ?_
  refine wk_newI hx hb (hts (.arrayClass .int) mX7_init_w3) hK hP hD hS hA 0 rfl 3 (by decide) (by decide) (by decide) (Nat.le_of_ble_eq_true rfl) (Nat.le_of_ble_eq_true rfl) dX7_init_14 (fun q2 H hP hD hS => ?_)
  have hP : va_P D vwCl [(h0, .inr (7, [.ref q1, .null, .null, .int 0])), (q1, .inl (G.1, 80, .inl (fun _ => 0))), (q2, .inl (G.1, 3, .inl (fun _ => 0)))] H := hP
  have hD : va_D A [(h0, .inr (7, [.ref q1, .null, .null, .int 0])), (q1, .inl (G.1, 80, .inl (fun _ => 0))), (q2, .inl (G.1, 3, .inl (fun _ => 0)))] := hD
  refine W.widen (k := 2) (n := 83) (by omega) (by omega) ?_
  refine va_putF (D := D) (ci := 7) (v := .ref q2) (ty := (tyX7 1)) (C := RX7) (T := TX7) (N := 4) hx hb hts iX7_init_X7 tyX7 tyX7_ok nmX7 hown hK hP hD hS 0 rfl rfl 1 (by decide) (hts (.fieldLink RX7 15 "PuppetBridge$ScoreReader" "opened" "[I") mX7_init_w5) (fun _ h9 => h9) rfl hin rfl (tyX7_ok 1 (by decide)) rfl rfl (Nat.le_of_ble_eq_true rfl) dX7_init_16 (fun H locs hP hD hS => ?_)
  have hP : va_P D vwCl [(h0, .inr (7, [.ref q1, .ref q2, .null, .int 0])), (q1, .inl (G.1, 80, .inl (fun _ => 0))), (q2, .inl (G.1, 3, .inl (fun _ => 0)))] H := hP
  have hD : va_D A [(h0, .inr (7, [.ref q1, .ref q2, .null, .int 0])), (q1, .inl (G.1, 80, .inl (fun _ => 0))), (q2, .inl (G.1, 3, .inl (fun _ => 0)))] := hD
  refine lv_aload_n hx hb dX7_init_19 rfl (lv_at hl 0 rfl) ?_
  refine lv_iconst (v := 3) hx hb dX7_init_20 (by decide) ?_
  refine wk_newI hx hb (hts (.arrayClass .int) mX7_init_w3) hK hP hD hS hA 0 rfl 3 (by decide) (by decide) (by decide) (Nat.le_of_ble_eq_true rfl) (Nat.le_of_ble_eq_true rfl) dX7_init_21 (fun q3 H hP hD hS => ?_)
  have hP : va_P D vwCl [(h0, .inr (7, [.ref q1, .ref q2, .null, .int 0])), (q1, .inl (G.1, 80, .inl (fun _ => 0))), (q2, .inl (G.1, 3, .inl (fun _ => 0))), (q3, .inl (G.1, 3, .inl (fun _ => 0)))] H := hP
  have hD : va_D A [(h0, .inr (7, [.ref q1, .ref q2, .null, .int 0])), (q1, .inl (G.1, 80, .inl (fun _ => 0))), (q2, .inl (G.1, 3, .inl (fun _ => 0))), (q3, .inl (G.1, 3, .inl (fun _ => 0)))] := hD
  refine W.widen (k := 3) (n := 86) (by omega) (by omega) ?_
  refine va_putF (D := D) (ci := 7) (v := .ref q3) (ty := (tyX7 2)) (C := RX7) (T := TX7) (N := 4) hx hb hts iX7_init_X7 tyX7 tyX7_ok nmX7 hown hK hP hD hS 0 rfl rfl 2 (by decide) (hts (.fieldLink RX7 18 "PuppetBridge$ScoreReader" "rounds" "[I") mX7_init_w6) (fun _ h9 => h9) rfl hin rfl (tyX7_ok 2 (by decide)) rfl rfl (Nat.le_of_ble_eq_true rfl) dX7_init_23 (fun H locs hP hD hS => ?_)
  have hP : va_P D vwCl [(h0, .inr (7, [.ref q1, .ref q2, .ref q3, .int 0])), (q1, .inl (G.1, 80, .inl (fun _ => 0))), (q2, .inl (G.1, 3, .inl (fun _ => 0))), (q3, .inl (G.1, 3, .inl (fun _ => 0)))] H := hP
  have hD : va_D A [(h0, .inr (7, [.ref q1, .ref q2, .ref q3, .int 0])), (q1, .inl (G.1, 80, .inl (fun _ => 0))), (q2, .inl (G.1, 3, .inl (fun _ => 0))), (q3, .inl (G.1, 3, .inl (fun _ => 0)))] := hD
  have hP9 := hP.sub (ws' := [(h0, .inr (7, [.ref q1, .ref q2, .ref q3, .int 0])), (q1, .inl (G.1, 80, .inl (fun _ => 0))), (q2, .inl (G.1, 3, .inl (fun _ => 0))), (q3, .inl (G.1, 3, .inl (fun _ => 0)))]) [0, 1, 2, 3] rfl
  have hD9 := hD.sub (ws' := [(h0, .inr (7, [.ref q1, .ref q2, .ref q3, .int 0])), (q1, .inl (G.1, 80, .inl (fun _ => 0))), (q2, .inl (G.1, 3, .inl (fun _ => 0))), (q3, .inl (G.1, 3, .inl (fun _ => 0)))]) [0, 1, 2, 3] (by decide) rfl
  exact W.vret hx hb hr (fun t ht hW => ⟨⟨(), rfl, trivial, ⟨q1, q2, q3, by rw [ht]; exact hP9, va_K.moved hW.alike hK, hD9⟩⟩, hS.F ht⟩) hS.2.2 dX7_init_26

theorem mX9_init_w0 : Cond.methodLink RX9 3 objectInit ∈ wsX9_init := by decide +kernel
theorem mX9_init_w1 : Cond.instanceMethod objectInit ∈ wsX9_init := by decide +kernel
theorem mX9_init_w2 : Cond.code objectInit ⟨#[0xb1]⟩ 1 none ∈ wsX9_init := by decide +kernel
theorem mX9_init_w3 : Cond.arrayClass .int ∈ wsX9_init := by decide +kernel
theorem mX9_init_w4 : Cond.fieldLink RX9 11 "PuppetBridge$Tales" "figures" "[I" ∈ wsX9_init := by decide +kernel
theorem mX9_init_w5 : Cond.fieldLink RX9 15 "PuppetBridge$Tales" "beats" "[I" ∈ wsX9_init := by decide +kernel
theorem mX9_init_w6 : Cond.fieldLink RX9 18 "PuppetBridge$Tales" "limbs" "[I" ∈ wsX9_init := by decide +kernel
theorem mX9_init_w7 : Cond.fieldLink RX9 21 "PuppetBridge$Tales" "headings" "[I" ∈ wsX9_init := by decide +kernel
theorem mX9_init_w8 : Cond.fieldLink RX9 24 "PuppetBridge$Tales" "pulls" "[I" ∈ wsX9_init := by decide +kernel
theorem iX9_init_X9 : ∀ w ∈ wsX90, w ∈ wsX9_init := fun _ h => List.mem_cons_of_mem _ (List.mem_append_right _ h)
theorem dX9_init_0 : decode cX9_init 0 = .ok (.aload_n 0, 1) := by decide +kernel
theorem dX9_init_1 : decode cX9_init 1 = .ok (.invokespecial 3, 3) := by decide +kernel
theorem dX9_init_4 : decode cX9_init 4 = .ok (.aload_n 0, 1) := by decide +kernel
theorem dX9_init_5 : decode cX9_init 5 = .ok (.bipush 20, 2) := by decide +kernel
theorem dX9_init_7 : decode cX9_init 7 = .ok (.newarray .int, 2) := by decide +kernel
theorem dX9_init_9 : decode cX9_init 9 = .ok (.putfield 11, 3) := by decide +kernel
theorem dX9_init_12 : decode cX9_init 12 = .ok (.aload_n 0, 1) := by decide +kernel
theorem dX9_init_13 : decode cX9_init 13 = .ok (.bipush 20, 2) := by decide +kernel
theorem dX9_init_15 : decode cX9_init 15 = .ok (.newarray .int, 2) := by decide +kernel
theorem dX9_init_17 : decode cX9_init 17 = .ok (.putfield 15, 3) := by decide +kernel
theorem dX9_init_20 : decode cX9_init 20 = .ok (.aload_n 0, 1) := by decide +kernel
theorem dX9_init_21 : decode cX9_init 21 = .ok (.bipush 20, 2) := by decide +kernel
theorem dX9_init_23 : decode cX9_init 23 = .ok (.newarray .int, 2) := by decide +kernel
theorem dX9_init_25 : decode cX9_init 25 = .ok (.putfield 18, 3) := by decide +kernel
theorem dX9_init_28 : decode cX9_init 28 = .ok (.aload_n 0, 1) := by decide +kernel
theorem dX9_init_29 : decode cX9_init 29 = .ok (.bipush 20, 2) := by decide +kernel
theorem dX9_init_31 : decode cX9_init 31 = .ok (.newarray .int, 2) := by decide +kernel
theorem dX9_init_33 : decode cX9_init 33 = .ok (.putfield 21, 3) := by decide +kernel
theorem dX9_init_36 : decode cX9_init 36 = .ok (.aload_n 0, 1) := by decide +kernel
theorem dX9_init_37 : decode cX9_init 37 = .ok (.sipush 160, 3) := by decide +kernel
theorem dX9_init_40 : decode cX9_init 40 = .ok (.newarray .int, 2) := by decide +kernel
theorem dX9_init_42 : decode cX9_init 42 = .ok (.putfield 24, 3) := by decide +kernel
theorem dX9_init_45 : decode cX9_init 45 = .ok (.return_, 1) := by decide +kernel
set_option maxHeartbeats 4000000 in
set_option maxRecDepth 100000 in
/-- X9_init -/
theorem kX9_init (l : Launch) (D : va_G) (G : tyG) (h0 : Nat) (sz : Nat) : Met l yX9_init wsX9_init ({ frames := 1, cells := 5, slots := 240, locals := 24 }) (va_Pc [.ref h0] (wB D G sz [(h0, .inr (9, [.null, .null, .null, .null, .null, .int 0]))])) (va_Qv (fun _ : Unit => True) (fun _ t => ∃ (z0 : Nat) (z1 : Nat) (z2 : Nat) (z3 : Nat) (z4 : Nat), wS D G (va_A [(h0, .inr (9, [.null, .null, .null, .null, .null, .int 0]))] sz) [(h0, .inr (9, [.ref z0, .ref z1, .ref z2, .ref z3, .ref z4, .int 0])), (z0, .inl (G.1, 20, .inl (fun _ => 0))), (z1, .inl (G.1, 20, .inl (fun _ => 0))), (z2, .inl (G.1, 20, .inl (fun _ => 0))), (z3, .inl (G.1, 20, .inl (fun _ => 0))), (z4, .inl (G.1, 160, .inl (fun _ => 0)))] t) (va_A [(h0, .inr (9, [.null, .null, .null, .null, .null, .int 0]))] sz)) 5 240 (va_A [(h0, .inr (9, [.null, .null, .null, .null, .null, .int 0]))] sz) := by
  refine Met.ofW (cc := cX9_init) (maxL := 1) (ret := none) (by decide) rfl ?_
  intro p e s m args below meth c s₁ B hml hv
  obtain ⟨rfl, hsz, hP, hK, hD0, hN⟩ := hv
  have hx := B.exec
  have hb := B.bytes
  have hr := B.returns
  have hts := atoms_spec (ws := wsX9_init) B.pre
  have hown : s.vm.findClass RX9 = some m.cls := findClass_of_methodNamed B.named
  have hlocks := B.notSynchronized
  have hin : meth.name = "<init>" := (name_of_methodNamed B.named B.method).1
  subst hsz
  have hD := hD0.self (sz := s.heap.size)
  generalize hAe : va_A [(h0, .inr (9, [.null, .null, .null, .null, .null, .int 0]))] s.heap.size = A at hD ⊢
  have hA : ∀ q : Nat, s.heap.size ≤ q → A q := fun q h => by rw [← hAe]; exact Or.inr h
  have hS : va_S A s.heap s.heap [] := va_S.rf
  have hP : va_P D vwCl [(h0, .inr (9, [.null, .null, .null, .null, .null, .int 0]))] s.heap := hP
  have hl := lv_entry ([.ref h0]) (n := 1) (Nat.le_of_ble_eq_true rfl)
  rw [lg_entry_eq]
  generalize (lg_sl ([.ref h0]) ++ List.replicate (1 - (lg_sl ([.ref h0])).length) Slot.unset).toArray = ls at hl ⊢
  have hl : lv_has ls 1 [(0, .ref h0)] := hl
  refine lv_aload_n hx hb dX9_init_0 rfl (lv_at hl 0 rfl) ?_
  refine W.objInit hx hb hown (hts (.methodLink RX9 3 objectInit) mX9_init_w0) (hts (.instanceMethod objectInit) mX9_init_w1) (hts (.code objectInit ⟨#[0xb1]⟩ 1 none) mX9_init_w2) rfl (by rw [hml]; exact hl.1) rfl dX9_init_1 (Nat.le_of_ble_eq_true rfl) (Nat.le_of_ble_eq_true rfl) ?_
  refine W.eq (g2 := F0 m 4 ls []) rfl ?_
  refine lv_aload_n hx hb dX9_init_4 rfl (lv_at hl 0 rfl) ?_
  refine lv_bipush (v := 20) hx hb dX9_init_5 (by decide) ?_
  refine wk_newI hx hb (hts (.arrayClass .int) mX9_init_w3) hK hP hD hS hA 0 rfl 20 (by decide) (by decide) (by decide) (Nat.le_of_ble_eq_true rfl) (Nat.le_of_ble_eq_true rfl) dX9_init_7 (fun q1 H hP hD hS => ?_)
  have hP : va_P D vwCl [(h0, .inr (9, [.null, .null, .null, .null, .null, .int 0])), (q1, .inl (G.1, 20, .inl (fun _ => 0)))] H := hP
  have hD : va_D A [(h0, .inr (9, [.null, .null, .null, .null, .null, .int 0])), (q1, .inl (G.1, 20, .inl (fun _ => 0)))] := hD
  refine W.widen (k := 1) (n := 20) (by omega) (by omega) ?_
  refine va_putF (D := D) (ci := 9) (v := .ref q1) (ty := (tyX9 0)) (C := RX9) (T := TX9) (N := 6) hx hb hts iX9_init_X9 tyX9 tyX9_ok nmX9 hown hK hP hD hS 0 rfl rfl 0 (by decide) (hts (.fieldLink RX9 11 "PuppetBridge$Tales" "figures" "[I") mX9_init_w4) (fun _ h9 => h9) rfl hin rfl (tyX9_ok 0 (by decide)) rfl rfl (Nat.le_of_ble_eq_true rfl) dX9_init_9 (fun H locs hP hD hS => ?_)
  have hP : va_P D vwCl [(h0, .inr (9, [.ref q1, .null, .null, .null, .null, .int 0])), (q1, .inl (G.1, 20, .inl (fun _ => 0)))] H := hP
  have hD : va_D A [(h0, .inr (9, [.ref q1, .null, .null, .null, .null, .int 0])), (q1, .inl (G.1, 20, .inl (fun _ => 0)))] := hD
  refine lv_aload_n hx hb dX9_init_12 rfl (lv_at hl 0 rfl) ?_
  refine lv_bipush (v := 20) hx hb dX9_init_13 (by decide) ?_
  refine wk_newI hx hb (hts (.arrayClass .int) mX9_init_w3) hK hP hD hS hA 0 rfl 20 (by decide) (by decide) (by decide) (Nat.le_of_ble_eq_true rfl) (Nat.le_of_ble_eq_true rfl) dX9_init_15 (fun q2 H hP hD hS => ?_)
  have hP : va_P D vwCl [(h0, .inr (9, [.ref q1, .null, .null, .null, .null, .int 0])), (q1, .inl (G.1, 20, .inl (fun _ => 0))), (q2, .inl (G.1, 20, .inl (fun _ => 0)))] H := hP
  have hD : va_D A [(h0, .inr (9, [.ref q1, .null, .null, .null, .null, .int 0])), (q1, .inl (G.1, 20, .inl (fun _ => 0))), (q2, .inl (G.1, 20, .inl (fun _ => 0)))] := hD
  refine W.widen (k := 2) (n := 40) (by omega) (by omega) ?_
  refine va_putF (D := D) (ci := 9) (v := .ref q2) (ty := (tyX9 1)) (C := RX9) (T := TX9) (N := 6) hx hb hts iX9_init_X9 tyX9 tyX9_ok nmX9 hown hK hP hD hS 0 rfl rfl 1 (by decide) (hts (.fieldLink RX9 15 "PuppetBridge$Tales" "beats" "[I") mX9_init_w5) (fun _ h9 => h9) rfl hin rfl (tyX9_ok 1 (by decide)) rfl rfl (Nat.le_of_ble_eq_true rfl) dX9_init_17 (fun H locs hP hD hS => ?_)
  have hP : va_P D vwCl [(h0, .inr (9, [.ref q1, .ref q2, .null, .null, .null, .int 0])), (q1, .inl (G.1, 20, .inl (fun _ => 0))), (q2, .inl (G.1, 20, .inl (fun _ => 0)))] H := hP
  have hD : va_D A [(h0, .inr (9, [.ref q1, .ref q2, .null, .null, .null, .int 0])), (q1, .inl (G.1, 20, .inl (fun _ => 0))), (q2, .inl (G.1, 20, .inl (fun _ => 0)))] := hD
  refine lv_aload_n hx hb dX9_init_20 rfl (lv_at hl 0 rfl) ?_
  refine lv_bipush (v := 20) hx hb dX9_init_21 (by decide) ?_
  refine wk_newI hx hb (hts (.arrayClass .int) mX9_init_w3) hK hP hD hS hA 0 rfl 20 (by decide) (by decide) (by decide) (Nat.le_of_ble_eq_true rfl) (Nat.le_of_ble_eq_true rfl) dX9_init_23 (fun q3 H hP hD hS => ?_)
  have hP : va_P D vwCl [(h0, .inr (9, [.ref q1, .ref q2, .null, .null, .null, .int 0])), (q1, .inl (G.1, 20, .inl (fun _ => 0))), (q2, .inl (G.1, 20, .inl (fun _ => 0))), (q3, .inl (G.1, 20, .inl (fun _ => 0)))] H := hP
  have hD : va_D A [(h0, .inr (9, [.ref q1, .ref q2, .null, .null, .null, .int 0])), (q1, .inl (G.1, 20, .inl (fun _ => 0))), (q2, .inl (G.1, 20, .inl (fun _ => 0))), (q3, .inl (G.1, 20, .inl (fun _ => 0)))] := hD
  refine W.widen (k := 3) (n := 60) (by omega) (by omega) ?_
  refine va_putF (D := D) (ci := 9) (v := .ref q3) (ty := (tyX9 2)) (C := RX9) (T := TX9) (N := 6) hx hb hts iX9_init_X9 tyX9 tyX9_ok nmX9 hown hK hP hD hS 0 rfl rfl 2 (by decide) (hts (.fieldLink RX9 18 "PuppetBridge$Tales" "limbs" "[I") mX9_init_w6) (fun _ h9 => h9) rfl hin rfl (tyX9_ok 2 (by decide)) rfl rfl (Nat.le_of_ble_eq_true rfl) dX9_init_25 (fun H locs hP hD hS => ?_)
  have hP : va_P D vwCl [(h0, .inr (9, [.ref q1, .ref q2, .ref q3, .null, .null, .int 0])), (q1, .inl (G.1, 20, .inl (fun _ => 0))), (q2, .inl (G.1, 20, .inl (fun _ => 0))), (q3, .inl (G.1, 20, .inl (fun _ => 0)))] H := hP
  have hD : va_D A [(h0, .inr (9, [.ref q1, .ref q2, .ref q3, .null, .null, .int 0])), (q1, .inl (G.1, 20, .inl (fun _ => 0))), (q2, .inl (G.1, 20, .inl (fun _ => 0))), (q3, .inl (G.1, 20, .inl (fun _ => 0)))] := hD
  refine lv_aload_n hx hb dX9_init_28 rfl (lv_at hl 0 rfl) ?_
  refine lv_bipush (v := 20) hx hb dX9_init_29 (by decide) ?_
  refine wk_newI hx hb (hts (.arrayClass .int) mX9_init_w3) hK hP hD hS hA 0 rfl 20 (by decide) (by decide) (by decide) (Nat.le_of_ble_eq_true rfl) (Nat.le_of_ble_eq_true rfl) dX9_init_31 (fun q4 H hP hD hS => ?_)
  have hP : va_P D vwCl [(h0, .inr (9, [.ref q1, .ref q2, .ref q3, .null, .null, .int 0])), (q1, .inl (G.1, 20, .inl (fun _ => 0))), (q2, .inl (G.1, 20, .inl (fun _ => 0))), (q3, .inl (G.1, 20, .inl (fun _ => 0))), (q4, .inl (G.1, 20, .inl (fun _ => 0)))] H := hP
  have hD : va_D A [(h0, .inr (9, [.ref q1, .ref q2, .ref q3, .null, .null, .int 0])), (q1, .inl (G.1, 20, .inl (fun _ => 0))), (q2, .inl (G.1, 20, .inl (fun _ => 0))), (q3, .inl (G.1, 20, .inl (fun _ => 0))), (q4, .inl (G.1, 20, .inl (fun _ => 0)))] := hD
  refine W.widen (k := 4) (n := 80) (by omega) (by omega) ?_
  refine va_putF (D := D) (ci := 9) (v := .ref q4) (ty := (tyX9 3)) (C := RX9) (T := TX9) (N := 6) hx hb hts iX9_init_X9 tyX9 tyX9_ok nmX9 hown hK hP hD hS 0 rfl rfl 3 (by decide) (hts (.fieldLink RX9 21 "PuppetBridge$Tales" "headings" "[I") mX9_init_w7) (fun _ h9 => h9) rfl hin rfl (tyX9_ok 3 (by decide)) rfl rfl (Nat.le_of_ble_eq_true rfl) dX9_init_33 (fun H locs hP hD hS => ?_)
  have hP : va_P D vwCl [(h0, .inr (9, [.ref q1, .ref q2, .ref q3, .ref q4, .null, .int 0])), (q1, .inl (G.1, 20, .inl (fun _ => 0))), (q2, .inl (G.1, 20, .inl (fun _ => 0))), (q3, .inl (G.1, 20, .inl (fun _ => 0))), (q4, .inl (G.1, 20, .inl (fun _ => 0)))] H := hP
  have hD : va_D A [(h0, .inr (9, [.ref q1, .ref q2, .ref q3, .ref q4, .null, .int 0])), (q1, .inl (G.1, 20, .inl (fun _ => 0))), (q2, .inl (G.1, 20, .inl (fun _ => 0))), (q3, .inl (G.1, 20, .inl (fun _ => 0))), (q4, .inl (G.1, 20, .inl (fun _ => 0)))] := hD
  refine lv_aload_n hx hb dX9_init_36 rfl (lv_at hl 0 rfl) ?_
  refine lv_sipush (v := 160) hx hb dX9_init_37 (by decide) ?_
  refine wk_newI hx hb (hts (.arrayClass .int) mX9_init_w3) hK hP hD hS hA 0 rfl 160 (by decide) (by decide) (by decide) (Nat.le_of_ble_eq_true rfl) (Nat.le_of_ble_eq_true rfl) dX9_init_40 (fun q5 H hP hD hS => ?_)
  have hP : va_P D vwCl [(h0, .inr (9, [.ref q1, .ref q2, .ref q3, .ref q4, .null, .int 0])), (q1, .inl (G.1, 20, .inl (fun _ => 0))), (q2, .inl (G.1, 20, .inl (fun _ => 0))), (q3, .inl (G.1, 20, .inl (fun _ => 0))), (q4, .inl (G.1, 20, .inl (fun _ => 0))), (q5, .inl (G.1, 160, .inl (fun _ => 0)))] H := hP
  have hD : va_D A [(h0, .inr (9, [.ref q1, .ref q2, .ref q3, .ref q4, .null, .int 0])), (q1, .inl (G.1, 20, .inl (fun _ => 0))), (q2, .inl (G.1, 20, .inl (fun _ => 0))), (q3, .inl (G.1, 20, .inl (fun _ => 0))), (q4, .inl (G.1, 20, .inl (fun _ => 0))), (q5, .inl (G.1, 160, .inl (fun _ => 0)))] := hD
  refine W.widen (k := 5) (n := 240) (by omega) (by omega) ?_
  refine va_putF (D := D) (ci := 9) (v := .ref q5) (ty := (tyX9 4)) (C := RX9) (T := TX9) (N := 6) hx hb hts iX9_init_X9 tyX9 tyX9_ok nmX9 hown hK hP hD hS 0 rfl rfl 4 (by decide) (hts (.fieldLink RX9 24 "PuppetBridge$Tales" "pulls" "[I") mX9_init_w8) (fun _ h9 => h9) rfl hin rfl (tyX9_ok 4 (by decide)) rfl rfl (Nat.le_of_ble_eq_true rfl) dX9_init_42 (fun H locs hP hD hS => ?_)
  have hP : va_P D vwCl [(h0, .inr (9, [.ref q1, .ref q2, .ref q3, .ref q4, .ref q5, .int 0])), (q1, .inl (G.1, 20, .inl (fun _ => 0))), (q2, .inl (G.1, 20, .inl (fun _ => 0))), (q3, .inl (G.1, 20, .inl (fun _ => 0))), (q4, .inl (G.1, 20, .inl (fun _ => 0))), (q5, .inl (G.1, 160, .inl (fun _ => 0)))] H := hP
  have hD : va_D A [(h0, .inr (9, [.ref q1, .ref q2, .ref q3, .ref q4, .ref q5, .int 0])), (q1, .inl (G.1, 20, .inl (fun _ => 0))), (q2, .inl (G.1, 20, .inl (fun _ => 0))), (q3, .inl (G.1, 20, .inl (fun _ => 0))), (q4, .inl (G.1, 20, .inl (fun _ => 0))), (q5, .inl (G.1, 160, .inl (fun _ => 0)))] := hD
  have hP9 := hP.sub (ws' := [(h0, .inr (9, [.ref q1, .ref q2, .ref q3, .ref q4, .ref q5, .int 0])), (q1, .inl (G.1, 20, .inl (fun _ => 0))), (q2, .inl (G.1, 20, .inl (fun _ => 0))), (q3, .inl (G.1, 20, .inl (fun _ => 0))), (q4, .inl (G.1, 20, .inl (fun _ => 0))), (q5, .inl (G.1, 160, .inl (fun _ => 0)))]) [0, 1, 2, 3, 4, 5] rfl
  have hD9 := hD.sub (ws' := [(h0, .inr (9, [.ref q1, .ref q2, .ref q3, .ref q4, .ref q5, .int 0])), (q1, .inl (G.1, 20, .inl (fun _ => 0))), (q2, .inl (G.1, 20, .inl (fun _ => 0))), (q3, .inl (G.1, 20, .inl (fun _ => 0))), (q4, .inl (G.1, 20, .inl (fun _ => 0))), (q5, .inl (G.1, 160, .inl (fun _ => 0)))]) [0, 1, 2, 3, 4, 5] (by decide) rfl
  exact W.vret hx hb hr (fun t ht hW => ⟨⟨(), rfl, trivial, ⟨q1, q2, q3, q4, q5, by rw [ht]; exact hP9, va_K.moved hW.alike hK, hD9⟩⟩, hS.F ht⟩) hS.2.2 dX9_init_45
