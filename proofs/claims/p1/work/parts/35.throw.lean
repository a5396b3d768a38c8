theorem mX11_of_w0 : Cond.classLink RX11 148 "java/util/NoSuchElementException" ∈ wsX11_of := by decide +kernel
theorem mX11_of_w1 : Cond.initialized "java/util/NoSuchElementException" ∈ wsX11_of := by decide +kernel
theorem xX11_of : ∀ w ∈ (vx_at0 RX11 150 nsE nsN).filter goodWord, w ∈ wsX11_of := fun _ h => List.mem_cons_of_mem _ (List.mem_append_right _ h)
set_option maxRecDepth 20000 in
theorem ggX11_of_X11_hasFigure : GoodIn wsX11_of wsX11_hasFigure := goodIn_r _ [18, 3, 19, 20, 21, 17, 22, 30, 31, 32, 33, 34, 35, 36, 37, 38, 39, 40, 41, 42, 43, 44, 45, 46, 47] (by decide +kernel) (by decide +kernel)
set_option maxRecDepth 20000 in
theorem gX11_of_X11_hasFigure : GoodIn wsX11_of (wsV RX11 108 RX11 yX11_hasFigure wsX11_hasFigure) := goodIn_app (goodIn_of _ (by decide +kernel)) ggX11_of_X11_hasFigure
theorem dX11_of_0 : decode cX11_of 0 = .ok (.aload_n 0, 1) := by decide +kernel
theorem dX11_of_1 : decode cX11_of 1 = .ok (.iload_n 1, 1) := by decide +kernel
theorem dX11_of_2 : decode cX11_of 2 = .ok (.invokevirtual 108, 3) := by decide +kernel
theorem dX11_of_5 : decode cX11_of 5 = .ok (.ifCond .ne 11, 3) := by decide +kernel
theorem dX11_of_8 : decode cX11_of 8 = .ok (.new 148, 3) := by decide +kernel
theorem dX11_of_11 : decode cX11_of 11 = .ok (.dup, 1) := by decide +kernel
theorem dX11_of_12 : decode cX11_of 12 = .ok (.invokespecial 150, 3) := by decide +kernel
theorem dX11_of_15 : decode cX11_of 15 = .ok (.athrow, 1) := by decide +kernel
set_option maxHeartbeats 4000000 in
set_option maxRecDepth 100000 in
/-- X11_of: it throws -/
theorem kX11_of (l : Launch) (D : va_G) (G : tyG) (h0 : Nat) (x1 : Int32) (x2 : Int32) (z0 : Nat) (z23 : Nat) (z25 : Nat) (z32 : Nat) (z36 : Nat) (z40 : Nat) (z43 : Nat) (z49 : Nat) (z1 : Nat) (z51 : Nat) (z52 : Nat) (z2 : Nat) (z3 : Nat) (hlt : l.stackTraces = false) (sz : Nat) : vx_Met l yX11_of wsX11_of ({ frames := 6, cells := 1, slots := 6, locals := 96 }) (va_Pc [.ref h0, .int x1, .int x2] (fun U => wB D G sz [(h0, .inr (11, [.ref z0, .ref z23, .ref z25, .ref z32, .ref z36, .ref z40, .ref z43, .ref z49])), (z0, .inr (8, [.ref z1, .ref z51, .ref z52, .ref z2, .ref z3, .int 0, .int 0, .int 9, .int 0, .int 0]))] U ∧ wX (va_A [(h0, .inr (11, [.ref z0, .ref z23, .ref z25, .ref z32, .ref z36, .ref z40, .ref z43, .ref z49])), (z0, .inr (8, [.ref z1, .ref z51, .ref z52, .ref z2, .ref z3, .int 0, .int 0, .int 9, .int 0, .int 0]))] sz) U)) (va_Qi (fun (_ : Int32) (_ : Unit) => False) (fun _ _ => True) (va_A [(h0, .inr (11, [.ref z0, .ref z23, .ref z25, .ref z32, .ref z36, .ref z40, .ref z43, .ref z49])), (z0, .inr (8, [.ref z1, .ref z51, .ref z52, .ref z2, .ref z3, .int 0, .int 0, .int 9, .int 0, .int 0]))] sz)) (vx_X (fun _ : Unit => True) (fun E _ _ => E = nsE) (va_A [(h0, .inr (11, [.ref z0, .ref z23, .ref z25, .ref z32, .ref z36, .ref z40, .ref z43, .ref z49])), (z0, .inr (8, [.ref z1, .ref z51, .ref z52, .ref z2, .ref z3, .int 0, .int 0, .int 9, .int 0, .int 0]))] sz)) 1 6 (va_A [(h0, .inr (11, [.ref z0, .ref z23, .ref z25, .ref z32, .ref z36, .ref z40, .ref z43, .ref z49])), (z0, .inr (8, [.ref z1, .ref z51, .ref z52, .ref z2, .ref z3, .int 0, .int 0, .int 9, .int 0, .int 0]))] sz) := by
  refine vx_ofW (cc := cX11_of) (maxL := 4) (ret := (some .int)) (by decide) rfl ?_
  intro p e s m args below meth c s₁ B hml hnt hv
  obtain ⟨rfl, ⟨hsz, hP, hK, hD0, hN⟩, hZ⟩ := hv
  have hx := B.exec
  have hb := B.bytes
  have hr := B.returns
  have hts := atoms_spec (ws := wsX11_of) B.pre
  have hown : s.vm.findClass RX11 = some m.cls := findClass_of_methodNamed B.named
  have hlocks := B.notSynchronized
  subst hsz
  have hD := hD0.self (sz := s.heap.size)
  generalize hAe : va_A [(h0, .inr (11, [.ref z0, .ref z23, .ref z25, .ref z32, .ref z36, .ref z40, .ref z43, .ref z49])), (z0, .inr (8, [.ref z1, .ref z51, .ref z52, .ref z2, .ref z3, .int 0, .int 0, .int 9, .int 0, .int 0]))] s.heap.size = A at hD hZ ⊢
  have hA : ∀ q : Nat, s.heap.size ≤ q → A q := fun q h => by rw [← hAe]; exact Or.inr h
  have hS : va_S A s.heap s.heap [] := va_S.rf
  have hP : va_P D vwCl [(h0, .inr (11, [.ref z0, .ref z23, .ref z25, .ref z32, .ref z36, .ref z40, .ref z43, .ref z49])), (z0, .inr (8, [.ref z1, .ref z51, .ref z52, .ref z2, .ref z3, .int 0, .int 0, .int 9, .int 0, .int 0]))] s.heap := hP
  have hl := lv_entry ([.ref h0, .int x1, .int x2]) (n := 4) (Nat.le_of_ble_eq_true rfl)
  rw [lg_entry_eq]
  generalize (lg_sl ([.ref h0, .int x1, .int x2]) ++ List.replicate (4 - (lg_sl ([.ref h0, .int x1, .int x2])).length) Slot.unset).toArray = ls at hl ⊢
  have hl : lv_has ls 4 [(0, .ref h0), (1, .int x1), (2, .int x2)] := hl
  refine lv_aload_n hx hb dX11_of_0 rfl (lv_at hl 0 rfl) ?_
  refine lv_iload_n hx hb dX11_of_1 rfl (lv_at hl 1 rfl) ?_
  have hPc := hP.sub (ws' := [(h0, .inr (11, [.ref z0, .ref z23, .ref z25, .ref z32, .ref z36, .ref z40, .ref z43, .ref z49])), (z0, .inr (8, [.ref z1, .ref z51, .ref z52, .ref z2, .ref z3, .int 0, .int 0, .int 9, .int 0, .int 0]))]) [0, 1] rfl
  have hDc := hD.sub (ws' := [(h0, .inr (11, [.ref z0, .ref z23, .ref z25, .ref z32, .ref z36, .ref z40, .ref z43, .ref z49])), (z0, .inr (8, [.ref z1, .ref z51, .ref z52, .ref z2, .ref z3, .int 0, .int 0, .int 9, .int 0, .int 0]))]) [0, 1] (by decide) rfl
  have hFc := va_free (wc := [(h0, .inr (11, [.ref z0, .ref z23, .ref z25, .ref z32, .ref z36, .ref z40, .ref z43, .ref z49])), (z0, .inr (8, [.ref z1, .ref z51, .ref z52, .ref z2, .ref z3, .int 0, .int 0, .int 9, .int 0, .int 0]))]) hD hS hA [0, 1] rfl
  refine va_calli (va_runV (As := [.int x1]) (rest := []) ⟨hx, hb, hml, hown, hts⟩ (kX11_hasFigure l D G h0 x1 z0 z23 z25 z32 z36 z40 z43 z49 z1 z51 z52 z2 z3 s.heap.size) (cwV 1 hts gX11_of_X11_hasFigure rfl rfl rfl (by decide +kernel) ⟨Nat.le_of_ble_eq_true rfl, Nat.le_of_ble_eq_true rfl⟩) ⟨wB_blind, va_recv hK hPc (ci := 11) (q0 := 0) rfl rfl, wB_pre hPc hK hDc hN⟩ rfl rfl hl.1 rfl (lv_room (Nat.le_of_ble_eq_true rfl)) dX11_of_2 ⟨Nat.le_of_ble_eq_true rfl, Nat.le_of_ble_eq_true rfl⟩) hS (fun q _ h => hFc q h) hFc (fun r1 u t H1 locs ht hvm hr1 hB hz1 hk1 hS => ?_)
  obtain ⟨hP1, hK1, hD1⟩ := hB
  rw [ht] at hP1
  obtain ⟨hP, hD⟩ := va_join (wr := []) (w1 := [(h0, .inr (11, [.ref z0, .ref z23, .ref z25, .ref z32, .ref z36, .ref z40, .ref z43, .ref z49])), (z0, .inr (8, [.ref z1, .ref z51, .ref z52, .ref z2, .ref z3, .int 0, .int 0, .int 9, .int 0, .int 0]))]) hP hD [0, 1] [] rfl rfl (by decide) (by decide) hk1 hFc hP1 hD1
  clear hPc hDc
  generalize H1 = H at hP hS ⊢
  have hP : va_P D vwCl [(h0, .inr (11, [.ref z0, .ref z23, .ref z25, .ref z32, .ref z36, .ref z40, .ref z43, .ref z49])), (z0, .inr (8, [.ref z1, .ref z51, .ref z52, .ref z2, .ref z3, .int 0, .int 0, .int 9, .int 0, .int 0]))] H := hP
  have hD : va_D A [(h0, .inr (11, [.ref z0, .ref z23, .ref z25, .ref z32, .ref z36, .ref z40, .ref z43, .ref z49])), (z0, .inr (8, [.ref z1, .ref z51, .ref z52, .ref z2, .ref z3, .int 0, .int 0, .int 9, .int 0, .int 0]))] := hD
  subst hr1
  refine lv_if_ne (tgt := 16) hx hb dX11_of_5 (by decide) (fun h9 => absurd h9 (by decide)) (fun _ => ?_)
  exact vx_throw0 hx hb hlt hown (by decide +kernel) (by decide +kernel) (hts (.classLink RX11 148 "java/util/NoSuchElementException") mX11_of_w0) (hts (.initialized "java/util/NoSuchElementException") mX11_of_w1) (vx_hat (fun w hw => hts w (xX11_of w hw)) nsB hZ.at) nsO hZ.2.1 hZ.2.2 hS (by rw [hml]; exact hl.1) dX11_of_8 dX11_of_11 dX11_of_12 dX11_of_15 (fun x hx => (hnt x hx).elim) (Nat.le_of_ble_eq_true rfl) (Nat.le_of_ble_eq_true rfl) (Nat.le_of_ble_eq_true rfl) (Nat.le_of_ble_eq_true rfl) hlocks (fun t ha h1 h2 => ⟨(), trivial, rfl, ⟨Nat.le_trans hS.1 h1, fun q hq hn => (h2 q (Nat.lt_of_lt_of_le hq hS.1)).trans (hS.2.1 q hq hn)⟩⟩) hS.2.2 (by decide) (by decide)

theorem mL_of_w0 : Cond.classLink RL 13 "java/util/NoSuchElementException" ∈ wsL_of := by decide +kernel
set_option maxRecDepth 20000 in
theorem ggL_of_X11_of : GoodIn wsL_of wsX11_of := goodIn_ca (goodIn_r _ [6, 7, 8, 9, 10, 11, 12, 13, 14, 15, 16, 17, 18, 19, 20, 21, 22, 5, 23, 24, 25, 26, 27, 28, 29, 30, 31, 32, 33, 34, 35, 36, 37, 38, 39, 40, 41, 42, 43, 44, 45, 46, 47, 48, 49, 50, 51, 52, 53, 54, 55, 56, 57, 58, 59, 60, 61, 62, 63, 64, 65, 66, 67, 68, 69, 70, 71, 72, 73, 74, 75, 76, 77, 78, 79, 80] (by decide +kernel) (by decide +kernel)) (goodIn_sub (fun _ h => List.mem_cons_of_mem _ (List.mem_append_right _ h)) (by decide +kernel))
set_option maxRecDepth 20000 in
theorem gL_of_X11_of : GoodIn wsL_of (wsV RL 7 RX11 yX11_of wsX11_of) := goodIn_app (goodIn_of _ (by decide +kernel)) ggL_of_X11_of
theorem dL_of_0 : decode cL_of 0 = .ok (.aload_n 3, 1) := by decide +kernel
theorem dL_of_1 : decode cL_of 1 = .ok (.iconst 0, 1) := by decide +kernel
theorem dL_of_2 : decode cL_of 2 = .ok (.aload_n 0, 1) := by decide +kernel
theorem dL_of_3 : decode cL_of 3 = .ok (.iload_n 1, 1) := by decide +kernel
theorem dL_of_4 : decode cL_of 4 = .ok (.iload_n 2, 1) := by decide +kernel
theorem dL_of_5 : decode cL_of 5 = .ok (.invokevirtual 7, 3) := by decide +kernel
theorem dL_of_13 : decode cL_of 13 = .ok (.astore 4, 2) := by decide +kernel
theorem dL_of_15 : decode cL_of 15 = .ok (.iconst 1, 1) := by decide +kernel
theorem dL_of_16 : decode cL_of 16 = .ok (.ireturn, 1) := by decide +kernel
set_option maxHeartbeats 4000000 in
set_option maxRecDepth 100000 in
/-- L_of -/
theorem kL_of (l : Launch) (D : va_G) (G : tyG) (h0 : Nat) (x1 : Int32) (x2 : Int32) (o : Nat) (z0 : Nat) (z23 : Nat) (z25 : Nat) (z32 : Nat) (z36 : Nat) (z40 : Nat) (z43 : Nat) (z49 : Nat) (z1 : Nat) (z51 : Nat) (z52 : Nat) (z2 : Nat) (z3 : Nat) (hlt : l.stackTraces = false) (sz : Nat) : Met l yL_of wsL_of ({ frames := 7, cells := 1, slots := 6, locals := 119 }) (va_Pc [.ref h0, .int x1, .int x2, .ref o] (fun U => wB D G sz [(h0, .inr (11, [.ref z0, .ref z23, .ref z25, .ref z32, .ref z36, .ref z40, .ref z43, .ref z49])), (z0, .inr (8, [.ref z1, .ref z51, .ref z52, .ref z2, .ref z3, .int 0, .int 0, .int 9, .int 0, .int 0]))] U ∧ wX (va_A [(h0, .inr (11, [.ref z0, .ref z23, .ref z25, .ref z32, .ref z36, .ref z40, .ref z43, .ref z49])), (z0, .inr (8, [.ref z1, .ref z51, .ref z52, .ref z2, .ref z3, .int 0, .int 0, .int 9, .int 0, .int 0]))] sz) U)) (va_Qi (fun (r : Int32) (_ : Unit) => r = 1) (fun _ _ => True) (va_A [(h0, .inr (11, [.ref z0, .ref z23, .ref z25, .ref z32, .ref z36, .ref z40, .ref z43, .ref z49])), (z0, .inr (8, [.ref z1, .ref z51, .ref z52, .ref z2, .ref z3, .int 0, .int 0, .int 9, .int 0, .int 0]))] sz)) 1 6 (va_A [(h0, .inr (11, [.ref z0, .ref z23, .ref z25, .ref z32, .ref z36, .ref z40, .ref z43, .ref z49])), (z0, .inr (8, [.ref z1, .ref z51, .ref z52, .ref z2, .ref z3, .int 0, .int 0, .int 9, .int 0, .int 0]))] sz) := by
  refine va_MetW (cc := cL_of) (maxL := 5) (ret := (some .int)) (hh := [(0, 10, 13, 13)]) (by decide) rfl ?_
  intro p e s m args below meth c s₁ B hml hv
  obtain ⟨rfl, ⟨hsz, hP, hK, hD0, hN⟩, hZ⟩ := hv
  have hx := B.exec
  have hb := B.bytes
  have hr := B.returns
  have hts := atoms_spec (ws := wsL_of) B.pre
  have hown : s.vm.findClass RL = some m.cls := findClass_of_methodNamed B.named
  have hlocks := B.notSynchronized
  subst hsz
  have hD := hD0.self (sz := s.heap.size)
  generalize hAe : va_A [(h0, .inr (11, [.ref z0, .ref z23, .ref z25, .ref z32, .ref z36, .ref z40, .ref z43, .ref z49])), (z0, .inr (8, [.ref z1, .ref z51, .ref z52, .ref z2, .ref z3, .int 0, .int 0, .int 9, .int 0, .int 0]))] s.heap.size = A at hD hZ ⊢
  have hA : ∀ q : Nat, s.heap.size ≤ q → A q := fun q h => by rw [← hAe]; exact Or.inr h
  have hS : va_S A s.heap s.heap [] := va_S.rf
  have hP : va_P D vwCl [(h0, .inr (11, [.ref z0, .ref z23, .ref z25, .ref z32, .ref z36, .ref z40, .ref z43, .ref z49])), (z0, .inr (8, [.ref z1, .ref z51, .ref z52, .ref z2, .ref z3, .int 0, .int 0, .int 9, .int 0, .int 0]))] s.heap := hP
  have hl := lv_entry ([.ref h0, .int x1, .int x2, .ref o]) (n := 5) (Nat.le_of_ble_eq_true rfl)
  rw [lg_entry_eq]
  generalize (lg_sl ([.ref h0, .int x1, .int x2, .ref o]) ++ List.replicate (5 - (lg_sl ([.ref h0, .int x1, .int x2, .ref o])).length) Slot.unset).toArray = ls at hl ⊢
  have hl : lv_has ls 5 [(0, .ref h0), (1, .int x1), (2, .int x2), (3, .ref o)] := hl
  refine lv_aload_n hx hb dL_of_0 rfl (lv_at hl 3 rfl) ?_
  refine lv_iconst (v := 0) hx hb dL_of_1 (by decide) ?_
  refine lv_aload_n hx hb dL_of_2 rfl (lv_at hl 0 rfl) ?_
  refine lv_iload_n hx hb dL_of_3 rfl (lv_at hl 1 rfl) ?_
  refine lv_iload_n hx hb dL_of_4 rfl (lv_at hl 2 rfl) ?_
  have hPc := hP.sub (ws' := [(h0, .inr (11, [.ref z0, .ref z23, .ref z25, .ref z32, .ref z36, .ref z40, .ref z43, .ref z49])), (z0, .inr (8, [.ref z1, .ref z51, .ref z52, .ref z2, .ref z3, .int 0, .int 0, .int 9, .int 0, .int 0]))]) [0, 1] rfl
  have hDc := hD.sub (ws' := [(h0, .inr (11, [.ref z0, .ref z23, .ref z25, .ref z32, .ref z36, .ref z40, .ref z43, .ref z49])), (z0, .inr (8, [.ref z1, .ref z51, .ref z52, .ref z2, .ref z3, .int 0, .int 0, .int 9, .int 0, .int 0]))]) [0, 1] (by decide) rfl
  have hFc := va_free (wc := [(h0, .inr (11, [.ref z0, .ref z23, .ref z25, .ref z32, .ref z36, .ref z40, .ref z43, .ref z49])), (z0, .inr (8, [.ref z1, .ref z51, .ref z52, .ref z2, .ref z3, .int 0, .int 0, .int 9, .int 0, .int 0]))]) hD hS hA [0, 1] rfl
  refine vx_calli (vx_runV (As := [.int x1, .int x2]) (rest := [.int 0, .ref o]) ⟨hx, hb, hml, hown, hts⟩ (kX11_of l D G h0 x1 x2 z0 z23 z25 z32 z36 z40 z43 z49 z1 z51 z52 z2 z3 hlt s.heap.size) (cwV 2 hts gL_of_X11_of rfl rfl rfl (by decide +kernel) ⟨Nat.le_of_ble_eq_true rfl, Nat.le_of_ble_eq_true rfl⟩) ⟨wBX_blind, va_recv hK hPc (ci := 11) (q0 := 0) rfl rfl, wBX_pre hPc hK hDc hN hZ hS hFc⟩ rfl rfl hl.1 rfl (lv_room (Nat.le_of_ble_eq_true rfl)) dL_of_5 ⟨Nat.le_of_ble_eq_true rfl, Nat.le_of_ble_eq_true rfl⟩) hS (fun q _ h => hFc q h) hFc (fun q _ h => hFc q h) (fun E ce q9 u t H1 locs ht hvm hw hB hz1 hk1 hS hq9 hce hcl => ?_) (fun r u t H1 locs ht hvm hw hB hz1 hk1 hS => False.elim hw)
  have hB : E = nsE := hB
  subst hB
  refine vx_catch hown [] ⟨0, 10, 13, 13⟩ [] ((vx_table (x := yL_of) B (hts (.codeWith yL_of cL_of 5 (some .int) [(0, 10, 13, 13)]) List.mem_cons_self)).trans rfl) (fun z hz => nomatch hz) (by decide) (by decide) (hts (.classLink RL 13 "java/util/NoSuchElementException") mL_of_w0) (va_Nw.use rfl hZ.1.1) hq9 hce hcl ?_
  refine W.widen (k := 1) (n := 6) (by omega) (by omega) ?_
  refine lv_astore (lv' := [(4, .ref q9), (0, .ref h0), (1, .int x1), (2, .int x2), (3, .ref o)]) hx hb dL_of_13 hl (by decide) rfl (fun ls hl => ?_)
  refine lv_iconst (v := 1) hx hb dL_of_15 (by decide) ?_
  exact W.iret (v := 1) hx hb hr (fun t ht hW => ⟨⟨1, (), rfl, rfl, trivial⟩, hS.F ht⟩) hS.2.2 dL_of_16

theorem mX11_at_w0 : Cond.classLink RX11 148 "java/util/NoSuchElementException" ∈ wsX11_at := by decide +kernel
theorem mX11_at_w1 : Cond.initialized "java/util/NoSuchElementException" ∈ wsX11_at := by decide +kernel
theorem xX11_at : ∀ w ∈ (vx_at0 RX11 150 nsE nsN).filter goodWord, w ∈ wsX11_at := fun _ h => List.mem_cons_of_mem _ (List.mem_append_right _ h)
set_option maxRecDepth 20000 in
theorem ggX11_at_X11_hasLimb : GoodIn wsX11_at wsX11_hasLimb := goodIn_r _ [14, 3, 4, 15, 16, 17, 18, 13, 19, 20, 21, 22, 23, 24, 25, 26, 27, 28, 29, 30, 31, 32, 33, 34, 35, 36, 37, 38, 39, 40, 41, 42, 43, 44, 45, 46, 47, 48, 49, 50, 51, 52, 53, 54, 55, 56, 57] (by decide +kernel) (by decide +kernel)
set_option maxRecDepth 20000 in
theorem gX11_at_X11_hasLimb : GoodIn wsX11_at (wsV RX11 83 RX11 yX11_hasLimb wsX11_hasLimb) := goodIn_app (goodIn_of _ (by decide +kernel)) ggX11_at_X11_hasLimb
theorem dX11_at_0 : decode cX11_at 0 = .ok (.aload_n 0, 1) := by decide +kernel
theorem dX11_at_1 : decode cX11_at 1 = .ok (.iload_n 1, 1) := by decide +kernel
theorem dX11_at_2 : decode cX11_at 2 = .ok (.iload_n 2, 1) := by decide +kernel
theorem dX11_at_3 : decode cX11_at 3 = .ok (.invokevirtual 83, 3) := by decide +kernel
theorem dX11_at_6 : decode cX11_at 6 = .ok (.ifCond .ne 11, 3) := by decide +kernel
theorem dX11_at_9 : decode cX11_at 9 = .ok (.new 148, 3) := by decide +kernel
theorem dX11_at_12 : decode cX11_at 12 = .ok (.dup, 1) := by decide +kernel
theorem dX11_at_13 : decode cX11_at 13 = .ok (.invokespecial 150, 3) := by decide +kernel
theorem dX11_at_16 : decode cX11_at 16 = .ok (.athrow, 1) := by decide +kernel
set_option maxHeartbeats 4000000 in
set_option maxRecDepth 100000 in
/-- X11_at: it throws -/
theorem kX11_at (l : Launch) (D : va_G) (G : tyG) (h0 : Nat) (x1 : Int32) (x2 : Int32) (x3 : Int32) (z0 : Nat) (z23 : Nat) (z25 : Nat) (z32 : Nat) (z36 : Nat) (z40 : Nat) (z43 : Nat) (z49 : Nat) (z1 : Nat) (z51 : Nat) (z52 : Nat) (z2 : Nat) (z3 : Nat) (hlt : l.stackTraces = false) (sz : Nat) : vx_Met l yX11_at wsX11_at ({ frames := 6, cells := 1, slots := 6, locals := 96 }) (va_Pc [.ref h0, .int x1, .int x2, .int x3] (fun U => wB D G sz [(h0, .inr (11, [.ref z0, .ref z23, .ref z25, .ref z32, .ref z36, .ref z40, .ref z43, .ref z49])), (z0, .inr (8, [.ref z1, .ref z51, .ref z52, .ref z2, .ref z3, .int 0, .int 0, .int 9, .int 0, .int 0]))] U ∧ wX (va_A [(h0, .inr (11, [.ref z0, .ref z23, .ref z25, .ref z32, .ref z36, .ref z40, .ref z43, .ref z49])), (z0, .inr (8, [.ref z1, .ref z51, .ref z52, .ref z2, .ref z3, .int 0, .int 0, .int 9, .int 0, .int 0]))] sz) U)) (va_Qi (fun (_ : Int32) (_ : Unit) => False) (fun _ _ => True) (va_A [(h0, .inr (11, [.ref z0, .ref z23, .ref z25, .ref z32, .ref z36, .ref z40, .ref z43, .ref z49])), (z0, .inr (8, [.ref z1, .ref z51, .ref z52, .ref z2, .ref z3, .int 0, .int 0, .int 9, .int 0, .int 0]))] sz)) (vx_X (fun _ : Unit => True) (fun E _ _ => E = nsE) (va_A [(h0, .inr (11, [.ref z0, .ref z23, .ref z25, .ref z32, .ref z36, .ref z40, .ref z43, .ref z49])), (z0, .inr (8, [.ref z1, .ref z51, .ref z52, .ref z2, .ref z3, .int 0, .int 0, .int 9, .int 0, .int 0]))] sz)) 1 6 (va_A [(h0, .inr (11, [.ref z0, .ref z23, .ref z25, .ref z32, .ref z36, .ref z40, .ref z43, .ref z49])), (z0, .inr (8, [.ref z1, .ref z51, .ref z52, .ref z2, .ref z3, .int 0, .int 0, .int 9, .int 0, .int 0]))] sz) := by
  refine vx_ofW (cc := cX11_at) (maxL := 5) (ret := (some .int)) (by decide) rfl ?_
  intro p e s m args below meth c s₁ B hml hnt hv
  obtain ⟨rfl, ⟨hsz, hP, hK, hD0, hN⟩, hZ⟩ := hv
  have hx := B.exec
  have hb := B.bytes
  have hr := B.returns
  have hts := atoms_spec (ws := wsX11_at) B.pre
  have hown : s.vm.findClass RX11 = some m.cls := findClass_of_methodNamed B.named
  have hlocks := B.notSynchronized
  subst hsz
  have hD := hD0.self (sz := s.heap.size)
  generalize hAe : va_A [(h0, .inr (11, [.ref z0, .ref z23, .ref z25, .ref z32, .ref z36, .ref z40, .ref z43, .ref z49])), (z0, .inr (8, [.ref z1, .ref z51, .ref z52, .ref z2, .ref z3, .int 0, .int 0, .int 9, .int 0, .int 0]))] s.heap.size = A at hD hZ ⊢
  have hA : ∀ q : Nat, s.heap.size ≤ q → A q := fun q h => by rw [← hAe]; exact Or.inr h
  have hS : va_S A s.heap s.heap [] := va_S.rf
  have hP : va_P D vwCl [(h0, .inr (11, [.ref z0, .ref z23, .ref z25, .ref z32, .ref z36, .ref z40, .ref z43, .ref z49])), (z0, .inr (8, [.ref z1, .ref z51, .ref z52, .ref z2, .ref z3, .int 0, .int 0, .int 9, .int 0, .int 0]))] s.heap := hP
  have hl := lv_entry ([.ref h0, .int x1, .int x2, .int x3]) (n := 5) (Nat.le_of_ble_eq_true rfl)
  rw [lg_entry_eq]
  generalize (lg_sl ([.ref h0, .int x1, .int x2, .int x3]) ++ List.replicate (5 - (lg_sl ([.ref h0, .int x1, .int x2, .int x3])).length) Slot.unset).toArray = ls at hl ⊢
  have hl : lv_has ls 5 [(0, .ref h0), (1, .int x1), (2, .int x2), (3, .int x3)] := hl
  refine lv_aload_n hx hb dX11_at_0 rfl (lv_at hl 0 rfl) ?_
  refine lv_iload_n hx hb dX11_at_1 rfl (lv_at hl 1 rfl) ?_
  refine lv_iload_n hx hb dX11_at_2 rfl (lv_at hl 2 rfl) ?_
  have hPc := hP.sub (ws' := [(h0, .inr (11, [.ref z0, .ref z23, .ref z25, .ref z32, .ref z36, .ref z40, .ref z43, .ref z49])), (z0, .inr (8, [.ref z1, .ref z51, .ref z52, .ref z2, .ref z3, .int 0, .int 0, .int 9, .int 0, .int 0]))]) [0, 1] rfl
  have hDc := hD.sub (ws' := [(h0, .inr (11, [.ref z0, .ref z23, .ref z25, .ref z32, .ref z36, .ref z40, .ref z43, .ref z49])), (z0, .inr (8, [.ref z1, .ref z51, .ref z52, .ref z2, .ref z3, .int 0, .int 0, .int 9, .int 0, .int 0]))]) [0, 1] (by decide) rfl
  have hFc := va_free (wc := [(h0, .inr (11, [.ref z0, .ref z23, .ref z25, .ref z32, .ref z36, .ref z40, .ref z43, .ref z49])), (z0, .inr (8, [.ref z1, .ref z51, .ref z52, .ref z2, .ref z3, .int 0, .int 0, .int 9, .int 0, .int 0]))]) hD hS hA [0, 1] rfl
  refine va_calli (va_runV (As := [.int x1, .int x2]) (rest := []) ⟨hx, hb, hml, hown, hts⟩ (kX11_hasLimb l D G h0 x1 x2 z0 z23 z25 z32 z36 z40 z43 z49 z1 z51 z52 z2 z3 s.heap.size) (cwV 2 hts gX11_at_X11_hasLimb rfl rfl rfl (by decide +kernel) ⟨Nat.le_of_ble_eq_true rfl, Nat.le_of_ble_eq_true rfl⟩) ⟨wB_blind, va_recv hK hPc (ci := 11) (q0 := 0) rfl rfl, wB_pre hPc hK hDc hN⟩ rfl rfl hl.1 rfl (lv_room (Nat.le_of_ble_eq_true rfl)) dX11_at_3 ⟨Nat.le_of_ble_eq_true rfl, Nat.le_of_ble_eq_true rfl⟩) hS (fun q _ h => hFc q h) hFc (fun r1 u t H1 locs ht hvm hr1 hB hz1 hk1 hS => ?_)
  obtain ⟨hP1, hK1, hD1⟩ := hB
  rw [ht] at hP1
  obtain ⟨hP, hD⟩ := va_join (wr := []) (w1 := [(h0, .inr (11, [.ref z0, .ref z23, .ref z25, .ref z32, .ref z36, .ref z40, .ref z43, .ref z49])), (z0, .inr (8, [.ref z1, .ref z51, .ref z52, .ref z2, .ref z3, .int 0, .int 0, .int 9, .int 0, .int 0]))]) hP hD [0, 1] [] rfl rfl (by decide) (by decide) hk1 hFc hP1 hD1
  clear hPc hDc
  generalize H1 = H at hP hS ⊢
  have hP : va_P D vwCl [(h0, .inr (11, [.ref z0, .ref z23, .ref z25, .ref z32, .ref z36, .ref z40, .ref z43, .ref z49])), (z0, .inr (8, [.ref z1, .ref z51, .ref z52, .ref z2, .ref z3, .int 0, .int 0, .int 9, .int 0, .int 0]))] H := hP
  have hD : va_D A [(h0, .inr (11, [.ref z0, .ref z23, .ref z25, .ref z32, .ref z36, .ref z40, .ref z43, .ref z49])), (z0, .inr (8, [.ref z1, .ref z51, .ref z52, .ref z2, .ref z3, .int 0, .int 0, .int 9, .int 0, .int 0]))] := hD
  subst hr1
  refine lv_if_ne (tgt := 17) hx hb dX11_at_6 (by decide) (fun h9 => absurd h9 (by decide)) (fun _ => ?_)
  exact vx_throw0 hx hb hlt hown (by decide +kernel) (by decide +kernel) (hts (.classLink RX11 148 "java/util/NoSuchElementException") mX11_at_w0) (hts (.initialized "java/util/NoSuchElementException") mX11_at_w1) (vx_hat (fun w hw => hts w (xX11_at w hw)) nsB hZ.at) nsO hZ.2.1 hZ.2.2 hS (by rw [hml]; exact hl.1) dX11_at_9 dX11_at_12 dX11_at_13 dX11_at_16 (fun x hx => (hnt x hx).elim) (Nat.le_of_ble_eq_true rfl) (Nat.le_of_ble_eq_true rfl) (Nat.le_of_ble_eq_true rfl) (Nat.le_of_ble_eq_true rfl) hlocks (fun t ha h1 h2 => ⟨(), trivial, rfl, ⟨Nat.le_trans hS.1 h1, fun q hq hn => (h2 q (Nat.lt_of_lt_of_le hq hS.1)).trans (hS.2.1 q hq hn)⟩⟩) hS.2.2 (by decide) (by decide)

theorem mL_at_w0 : Cond.classLink RL 13 "java/util/NoSuchElementException" ∈ wsL_at := by decide +kernel
set_option maxRecDepth 20000 in
theorem ggL_at_X11_at : GoodIn wsL_at wsX11_at := goodIn_ca (goodIn_r _ [6, 7, 8, 9, 10, 11, 12, 13, 14, 15, 16, 17, 18, 5, 19, 20, 21, 22, 23, 24, 25, 26, 27, 28, 29, 30, 31, 32, 33, 34, 35, 36, 37, 38, 39, 40, 41, 42, 43, 44, 45, 46, 47, 48, 49, 50, 51, 52, 53, 54, 55, 56, 57, 58, 59, 60, 61, 62] (by decide +kernel) (by decide +kernel)) (goodIn_sub (fun _ h => List.mem_cons_of_mem _ (List.mem_append_right _ h)) (by decide +kernel))
set_option maxRecDepth 20000 in
theorem gL_at_X11_at : GoodIn wsL_at (wsV RL 15 RX11 yX11_at wsX11_at) := goodIn_app (goodIn_of _ (by decide +kernel)) ggL_at_X11_at
theorem dL_at_0 : decode cL_at 0 = .ok (.aload 4, 2) := by decide +kernel
theorem dL_at_2 : decode cL_at 2 = .ok (.iconst 0, 1) := by decide +kernel
theorem dL_at_3 : decode cL_at 3 = .ok (.aload_n 0, 1) := by decide +kernel
theorem dL_at_4 : decode cL_at 4 = .ok (.iload_n 1, 1) := by decide +kernel
theorem dL_at_5 : decode cL_at 5 = .ok (.iload_n 2, 1) := by decide +kernel
theorem dL_at_6 : decode cL_at 6 = .ok (.iload_n 3, 1) := by decide +kernel
theorem dL_at_7 : decode cL_at 7 = .ok (.invokevirtual 15, 3) := by decide +kernel
theorem dL_at_15 : decode cL_at 15 = .ok (.astore 5, 2) := by decide +kernel
theorem dL_at_17 : decode cL_at 17 = .ok (.iconst 1, 1) := by decide +kernel
theorem dL_at_18 : decode cL_at 18 = .ok (.ireturn, 1) := by decide +kernel
set_option maxHeartbeats 4000000 in
set_option maxRecDepth 100000 in
/-- L_at -/
theorem kL_at (l : Launch) (D : va_G) (G : tyG) (h0 : Nat) (x1 : Int32) (x2 : Int32) (x3 : Int32) (o : Nat) (z0 : Nat) (z23 : Nat) (z25 : Nat) (z32 : Nat) (z36 : Nat) (z40 : Nat) (z43 : Nat) (z49 : Nat) (z1 : Nat) (z51 : Nat) (z52 : Nat) (z2 : Nat) (z3 : Nat) (hlt : l.stackTraces = false) (sz : Nat) : Met l yL_at wsL_at ({ frames := 7, cells := 1, slots := 6, locals := 120 }) (va_Pc [.ref h0, .int x1, .int x2, .int x3, .ref o] (fun U => wB D G sz [(h0, .inr (11, [.ref z0, .ref z23, .ref z25, .ref z32, .ref z36, .ref z40, .ref z43, .ref z49])), (z0, .inr (8, [.ref z1, .ref z51, .ref z52, .ref z2, .ref z3, .int 0, .int 0, .int 9, .int 0, .int 0]))] U ∧ wX (va_A [(h0, .inr (11, [.ref z0, .ref z23, .ref z25, .ref z32, .ref z36, .ref z40, .ref z43, .ref z49])), (z0, .inr (8, [.ref z1, .ref z51, .ref z52, .ref z2, .ref z3, .int 0, .int 0, .int 9, .int 0, .int 0]))] sz) U)) (va_Qi (fun (r : Int32) (_ : Unit) => r = 1) (fun _ _ => True) (va_A [(h0, .inr (11, [.ref z0, .ref z23, .ref z25, .ref z32, .ref z36, .ref z40, .ref z43, .ref z49])), (z0, .inr (8, [.ref z1, .ref z51, .ref z52, .ref z2, .ref z3, .int 0, .int 0, .int 9, .int 0, .int 0]))] sz)) 1 6 (va_A [(h0, .inr (11, [.ref z0, .ref z23, .ref z25, .ref z32, .ref z36, .ref z40, .ref z43, .ref z49])), (z0, .inr (8, [.ref z1, .ref z51, .ref z52, .ref z2, .ref z3, .int 0, .int 0, .int 9, .int 0, .int 0]))] sz) := by
  refine va_MetW (cc := cL_at) (maxL := 6) (ret := (some .int)) (hh := [(0, 12, 15, 13)]) (by decide) rfl ?_
  intro p e s m args below meth c s₁ B hml hv
  obtain ⟨rfl, ⟨hsz, hP, hK, hD0, hN⟩, hZ⟩ := hv
  have hx := B.exec
  have hb := B.bytes
  have hr := B.returns
  have hts := atoms_spec (ws := wsL_at) B.pre
  have hown : s.vm.findClass RL = some m.cls := findClass_of_methodNamed B.named
  have hlocks := B.notSynchronized
  subst hsz
  have hD := hD0.self (sz := s.heap.size)
  generalize hAe : va_A [(h0, .inr (11, [.ref z0, .ref z23, .ref z25, .ref z32, .ref z36, .ref z40, .ref z43, .ref z49])), (z0, .inr (8, [.ref z1, .ref z51, .ref z52, .ref z2, .ref z3, .int 0, .int 0, .int 9, .int 0, .int 0]))] s.heap.size = A at hD hZ ⊢
  have hA : ∀ q : Nat, s.heap.size ≤ q → A q := fun q h => by rw [← hAe]; exact Or.inr h
  have hS : va_S A s.heap s.heap [] := va_S.rf
  have hP : va_P D vwCl [(h0, .inr (11, [.ref z0, .ref z23, .ref z25, .ref z32, .ref z36, .ref z40, .ref z43, .ref z49])), (z0, .inr (8, [.ref z1, .ref z51, .ref z52, .ref z2, .ref z3, .int 0, .int 0, .int 9, .int 0, .int 0]))] s.heap := hP
  have hl := lv_entry ([.ref h0, .int x1, .int x2, .int x3, .ref o]) (n := 6) (Nat.le_of_ble_eq_true rfl)
  rw [lg_entry_eq]
  generalize (lg_sl ([.ref h0, .int x1, .int x2, .int x3, .ref o]) ++ List.replicate (6 - (lg_sl ([.ref h0, .int x1, .int x2, .int x3, .ref o])).length) Slot.unset).toArray = ls at hl ⊢
  have hl : lv_has ls 6 [(0, .ref h0), (1, .int x1), (2, .int x2), (3, .int x3), (4, .ref o)] := hl
  refine lv_aload hx hb dL_at_0 (lv_at hl 4 rfl) ?_
  refine lv_iconst (v := 0) hx hb dL_at_2 (by decide) ?_
  refine lv_aload_n hx hb dL_at_3 rfl (lv_at hl 0 rfl) ?_
  refine lv_iload_n hx hb dL_at_4 rfl (lv_at hl 1 rfl) ?_
  refine lv_iload_n hx hb dL_at_5 rfl (lv_at hl 2 rfl) ?_
  refine lv_iload_n hx hb dL_at_6 rfl (lv_at hl 3 rfl) ?_
  have hPc := hP.sub (ws' := [(h0, .inr (11, [.ref z0, .ref z23, .ref z25, .ref z32, .ref z36, .ref z40, .ref z43, .ref z49])), (z0, .inr (8, [.ref z1, .ref z51, .ref z52, .ref z2, .ref z3, .int 0, .int 0, .int 9, .int 0, .int 0]))]) [0, 1] rfl
  have hDc := hD.sub (ws' := [(h0, .inr (11, [.ref z0, .ref z23, .ref z25, .ref z32, .ref z36, .ref z40, .ref z43, .ref z49])), (z0, .inr (8, [.ref z1, .ref z51, .ref z52, .ref z2, .ref z3, .int 0, .int 0, .int 9, .int 0, .int 0]))]) [0, 1] (by decide) rfl
  have hFc := va_free (wc := [(h0, .inr (11, [.ref z0, .ref z23, .ref z25, .ref z32, .ref z36, .ref z40, .ref z43, .ref z49])), (z0, .inr (8, [.ref z1, .ref z51, .ref z52, .ref z2, .ref z3, .int 0, .int 0, .int 9, .int 0, .int 0]))]) hD hS hA [0, 1] rfl
  refine vx_calli (vx_runV (As := [.int x1, .int x2, .int x3]) (rest := [.int 0, .ref o]) ⟨hx, hb, hml, hown, hts⟩ (kX11_at l D G h0 x1 x2 x3 z0 z23 z25 z32 z36 z40 z43 z49 z1 z51 z52 z2 z3 hlt s.heap.size) (cwV 3 hts gL_at_X11_at rfl rfl rfl (by decide +kernel) ⟨Nat.le_of_ble_eq_true rfl, Nat.le_of_ble_eq_true rfl⟩) ⟨wBX_blind, va_recv hK hPc (ci := 11) (q0 := 0) rfl rfl, wBX_pre hPc hK hDc hN hZ hS hFc⟩ rfl rfl hl.1 rfl (lv_room (Nat.le_of_ble_eq_true rfl)) dL_at_7 ⟨Nat.le_of_ble_eq_true rfl, Nat.le_of_ble_eq_true rfl⟩) hS (fun q _ h => hFc q h) hFc (fun q _ h => hFc q h) (fun E ce q9 u t H1 locs ht hvm hw hB hz1 hk1 hS hq9 hce hcl => ?_) (fun r u t H1 locs ht hvm hw hB hz1 hk1 hS => False.elim hw)
  have hB : E = nsE := hB
  subst hB
  refine vx_catch hown [] ⟨0, 12, 15, 13⟩ [] ((vx_table (x := yL_at) B (hts (.codeWith yL_at cL_at 6 (some .int) [(0, 12, 15, 13)]) List.mem_cons_self)).trans rfl) (fun z hz => nomatch hz) (by decide) (by decide) (hts (.classLink RL 13 "java/util/NoSuchElementException") mL_at_w0) (va_Nw.use rfl hZ.1.1) hq9 hce hcl ?_
  refine W.widen (k := 1) (n := 6) (by omega) (by omega) ?_
  refine lv_astore (lv' := [(5, .ref q9), (0, .ref h0), (1, .int x1), (2, .int x2), (3, .int x3), (4, .ref o)]) hx hb dL_at_15 hl (by decide) rfl (fun ls hl => ?_)
  refine lv_iconst (v := 1) hx hb dL_at_17 (by decide) ?_
  exact W.iret (v := 1) hx hb hr (fun t ht hW => ⟨⟨1, (), rfl, rfl, trivial⟩, hS.F ht⟩) hS.2.2 dL_at_18

theorem mX11_reach_w0 : Cond.classLink RX11 148 "java/util/NoSuchElementException" ∈ wsX11_reach := by decide +kernel
theorem mX11_reach_w1 : Cond.initialized "java/util/NoSuchElementException" ∈ wsX11_reach := by decide +kernel
theorem xX11_reach : ∀ w ∈ (vx_at0 RX11 150 nsE nsN).filter goodWord, w ∈ wsX11_reach := fun _ h => List.mem_cons_of_mem _ (List.mem_append_right _ h)
set_option maxRecDepth 20000 in
theorem ggX11_reach_X11_hasLimb : GoodIn wsX11_reach wsX11_hasLimb := goodIn_r _ [14, 3, 4, 15, 16, 17, 18, 13, 19, 20, 21, 22, 23, 145, 146, 147, 148, 149, 150, 151, 152, 153, 154, 155, 156, 157, 158, 159, 160, 161, 162, 163, 164, 165, 166, 167, 168, 169, 170, 171, 172, 173, 174, 175, 176, 177, 178] (by decide +kernel) (by decide +kernel)
set_option maxRecDepth 20000 in
theorem gX11_reach_X11_hasLimb : GoodIn wsX11_reach (wsV RX11 83 RX11 yX11_hasLimb wsX11_hasLimb) := goodIn_app (goodIn_of _ (by decide +kernel)) ggX11_reach_X11_hasLimb
theorem dX11_reach_0 : decode cX11_reach 0 = .ok (.aload_n 0, 1) := by decide +kernel
theorem dX11_reach_1 : decode cX11_reach 1 = .ok (.iload_n 1, 1) := by decide +kernel
theorem dX11_reach_2 : decode cX11_reach 2 = .ok (.iload_n 2, 1) := by decide +kernel
theorem dX11_reach_3 : decode cX11_reach 3 = .ok (.invokevirtual 83, 3) := by decide +kernel
theorem dX11_reach_6 : decode cX11_reach 6 = .ok (.ifCond .eq 19, 3) := by decide +kernel
theorem dX11_reach_25 : decode cX11_reach 25 = .ok (.new 148, 3) := by decide +kernel
theorem dX11_reach_28 : decode cX11_reach 28 = .ok (.dup, 1) := by decide +kernel
theorem dX11_reach_29 : decode cX11_reach 29 = .ok (.invokespecial 150, 3) := by decide +kernel
theorem dX11_reach_32 : decode cX11_reach 32 = .ok (.athrow, 1) := by decide +kernel
set_option maxHeartbeats 4000000 in
set_option maxRecDepth 100000 in
/-- X11_reach: it throws -/
theorem kX11_reach (l : Launch) (D : va_G) (G : tyG) (h0 : Nat) (x1 : Int32) (x2 : Int32) (x3 : Int32) (x4 : Int32) (x5 : Int32) (z0 : Nat) (z23 : Nat) (z25 : Nat) (z32 : Nat) (z36 : Nat) (z40 : Nat) (z43 : Nat) (z49 : Nat) (z1 : Nat) (z51 : Nat) (z52 : Nat) (z2 : Nat) (z3 : Nat) (hlt : l.stackTraces = false) (sz : Nat) : vx_Met l yX11_reach wsX11_reach ({ frames := 6, cells := 1, slots := 6, locals := 96 }) (va_Pc [.ref h0, .int x1, .int x2, .int x3, .int x4, .int x5] (fun U => wB D G sz [(h0, .inr (11, [.ref z0, .ref z23, .ref z25, .ref z32, .ref z36, .ref z40, .ref z43, .ref z49])), (z0, .inr (8, [.ref z1, .ref z51, .ref z52, .ref z2, .ref z3, .int 0, .int 0, .int 9, .int 0, .int 0]))] U ∧ wX (va_A [(h0, .inr (11, [.ref z0, .ref z23, .ref z25, .ref z32, .ref z36, .ref z40, .ref z43, .ref z49])), (z0, .inr (8, [.ref z1, .ref z51, .ref z52, .ref z2, .ref z3, .int 0, .int 0, .int 9, .int 0, .int 0]))] sz) U)) (va_Ql (fun (_ : Int64) (_ : Unit) => False) (fun _ _ => True) (va_A [(h0, .inr (11, [.ref z0, .ref z23, .ref z25, .ref z32, .ref z36, .ref z40, .ref z43, .ref z49])), (z0, .inr (8, [.ref z1, .ref z51, .ref z52, .ref z2, .ref z3, .int 0, .int 0, .int 9, .int 0, .int 0]))] sz)) (vx_X (fun _ : Unit => True) (fun E _ _ => E = nsE) (va_A [(h0, .inr (11, [.ref z0, .ref z23, .ref z25, .ref z32, .ref z36, .ref z40, .ref z43, .ref z49])), (z0, .inr (8, [.ref z1, .ref z51, .ref z52, .ref z2, .ref z3, .int 0, .int 0, .int 9, .int 0, .int 0]))] sz)) 1 6 (va_A [(h0, .inr (11, [.ref z0, .ref z23, .ref z25, .ref z32, .ref z36, .ref z40, .ref z43, .ref z49])), (z0, .inr (8, [.ref z1, .ref z51, .ref z52, .ref z2, .ref z3, .int 0, .int 0, .int 9, .int 0, .int 0]))] sz) := by
  refine vx_ofW (cc := cX11_reach) (maxL := 7) (ret := (some .long)) (by decide) rfl ?_
  intro p e s m args below meth c s₁ B hml hnt hv
  obtain ⟨rfl, ⟨hsz, hP, hK, hD0, hN⟩, hZ⟩ := hv
  have hx := B.exec
  have hb := B.bytes
  have hr := B.returns
  have hts := atoms_spec (ws := wsX11_reach) B.pre
  have hown : s.vm.findClass RX11 = some m.cls := findClass_of_methodNamed B.named
  have hlocks := B.notSynchronized
  subst hsz
  have hD := hD0.self (sz := s.heap.size)
  generalize hAe : va_A [(h0, .inr (11, [.ref z0, .ref z23, .ref z25, .ref z32, .ref z36, .ref z40, .ref z43, .ref z49])), (z0, .inr (8, [.ref z1, .ref z51, .ref z52, .ref z2, .ref z3, .int 0, .int 0, .int 9, .int 0, .int 0]))] s.heap.size = A at hD hZ ⊢
  have hA : ∀ q : Nat, s.heap.size ≤ q → A q := fun q h => by rw [← hAe]; exact Or.inr h
  have hS : va_S A s.heap s.heap [] := va_S.rf
  have hP : va_P D vwCl [(h0, .inr (11, [.ref z0, .ref z23, .ref z25, .ref z32, .ref z36, .ref z40, .ref z43, .ref z49])), (z0, .inr (8, [.ref z1, .ref z51, .ref z52, .ref z2, .ref z3, .int 0, .int 0, .int 9, .int 0, .int 0]))] s.heap := hP
  have hl := lv_entry ([.ref h0, .int x1, .int x2, .int x3, .int x4, .int x5]) (n := 7) (Nat.le_of_ble_eq_true rfl)
  rw [lg_entry_eq]
  generalize (lg_sl ([.ref h0, .int x1, .int x2, .int x3, .int x4, .int x5]) ++ List.replicate (7 - (lg_sl ([.ref h0, .int x1, .int x2, .int x3, .int x4, .int x5])).length) Slot.unset).toArray = ls at hl ⊢
  have hl : lv_has ls 7 [(0, .ref h0), (1, .int x1), (2, .int x2), (3, .int x3), (4, .int x4), (5, .int x5)] := hl
  refine lv_aload_n hx hb dX11_reach_0 rfl (lv_at hl 0 rfl) ?_
  refine lv_iload_n hx hb dX11_reach_1 rfl (lv_at hl 1 rfl) ?_
  refine lv_iload_n hx hb dX11_reach_2 rfl (lv_at hl 2 rfl) ?_
  have hPc := hP.sub (ws' := [(h0, .inr (11, [.ref z0, .ref z23, .ref z25, .ref z32, .ref z36, .ref z40, .ref z43, .ref z49])), (z0, .inr (8, [.ref z1, .ref z51, .ref z52, .ref z2, .ref z3, .int 0, .int 0, .int 9, .int 0, .int 0]))]) [0, 1] rfl
  have hDc := hD.sub (ws' := [(h0, .inr (11, [.ref z0, .ref z23, .ref z25, .ref z32, .ref z36, .ref z40, .ref z43, .ref z49])), (z0, .inr (8, [.ref z1, .ref z51, .ref z52, .ref z2, .ref z3, .int 0, .int 0, .int 9, .int 0, .int 0]))]) [0, 1] (by decide) rfl
  have hFc := va_free (wc := [(h0, .inr (11, [.ref z0, .ref z23, .ref z25, .ref z32, .ref z36, .ref z40, .ref z43, .ref z49])), (z0, .inr (8, [.ref z1, .ref z51, .ref z52, .ref z2, .ref z3, .int 0, .int 0, .int 9, .int 0, .int 0]))]) hD hS hA [0, 1] rfl
  refine va_calli (va_runV (As := [.int x1, .int x2]) (rest := []) ⟨hx, hb, hml, hown, hts⟩ (kX11_hasLimb l D G h0 x1 x2 z0 z23 z25 z32 z36 z40 z43 z49 z1 z51 z52 z2 z3 s.heap.size) (cwV 2 hts gX11_reach_X11_hasLimb rfl rfl rfl (by decide +kernel) ⟨Nat.le_of_ble_eq_true rfl, Nat.le_of_ble_eq_true rfl⟩) ⟨wB_blind, va_recv hK hPc (ci := 11) (q0 := 0) rfl rfl, wB_pre hPc hK hDc hN⟩ rfl rfl hl.1 rfl (lv_room (Nat.le_of_ble_eq_true rfl)) dX11_reach_3 ⟨Nat.le_of_ble_eq_true rfl, Nat.le_of_ble_eq_true rfl⟩) hS (fun q _ h => hFc q h) hFc (fun r1 u t H1 locs ht hvm hr1 hB hz1 hk1 hS => ?_)
  obtain ⟨hP1, hK1, hD1⟩ := hB
  rw [ht] at hP1
  obtain ⟨hP, hD⟩ := va_join (wr := []) (w1 := [(h0, .inr (11, [.ref z0, .ref z23, .ref z25, .ref z32, .ref z36, .ref z40, .ref z43, .ref z49])), (z0, .inr (8, [.ref z1, .ref z51, .ref z52, .ref z2, .ref z3, .int 0, .int 0, .int 9, .int 0, .int 0]))]) hP hD [0, 1] [] rfl rfl (by decide) (by decide) hk1 hFc hP1 hD1
  clear hPc hDc
  generalize H1 = H at hP hS ⊢
  have hP : va_P D vwCl [(h0, .inr (11, [.ref z0, .ref z23, .ref z25, .ref z32, .ref z36, .ref z40, .ref z43, .ref z49])), (z0, .inr (8, [.ref z1, .ref z51, .ref z52, .ref z2, .ref z3, .int 0, .int 0, .int 9, .int 0, .int 0]))] H := hP
  have hD : va_D A [(h0, .inr (11, [.ref z0, .ref z23, .ref z25, .ref z32, .ref z36, .ref z40, .ref z43, .ref z49])), (z0, .inr (8, [.ref z1, .ref z51, .ref z52, .ref z2, .ref z3, .int 0, .int 0, .int 9, .int 0, .int 0]))] := hD
  subst hr1
  refine lv_if_eq (tgt := 25) hx hb dX11_reach_6 (by decide) (fun _ => ?_) (fun h9 => absurd h9 (by decide))
  exact vx_throw0 hx hb hlt hown (by decide +kernel) (by decide +kernel) (hts (.classLink RX11 148 "java/util/NoSuchElementException") mX11_reach_w0) (hts (.initialized "java/util/NoSuchElementException") mX11_reach_w1) (vx_hat (fun w hw => hts w (xX11_reach w hw)) nsB hZ.at) nsO hZ.2.1 hZ.2.2 hS (by rw [hml]; exact hl.1) dX11_reach_25 dX11_reach_28 dX11_reach_29 dX11_reach_32 (fun x hx => (hnt x hx).elim) (Nat.le_of_ble_eq_true rfl) (Nat.le_of_ble_eq_true rfl) (Nat.le_of_ble_eq_true rfl) (Nat.le_of_ble_eq_true rfl) hlocks (fun t ha h1 h2 => ⟨(), trivial, rfl, ⟨Nat.le_trans hS.1 h1, fun q hq hn => (h2 q (Nat.lt_of_lt_of_le hq hS.1)).trans (hS.2.1 q hq hn)⟩⟩) hS.2.2 (by decide) (by decide)

theorem mL_reach_w0 : Cond.classLink RL 13 "java/util/NoSuchElementException" ∈ wsL_reach := by decide +kernel
set_option maxRecDepth 20000 in
theorem ggL_reach_X11_reach : GoodIn wsL_reach wsX11_reach := goodIn_ca (goodIn_r _ [6, 7, 8, 9, 10, 11, 12, 13, 14, 15, 16, 17, 18, 5, 19, 20, 21, 22, 23, 24, 25, 26, 27, 28, 29, 30, 31, 32, 33, 34, 35, 36, 37, 38, 39, 40, 41, 42, 43, 44, 45, 46, 47, 48, 49, 50, 51, 52, 53, 54, 55, 56, 57, 58, 59, 60, 61, 62, 63, 64, 65, 66, 67, 68, 69, 70, 71, 72, 73, 74, 75, 76, 77, 78, 79, 80, 81, 82, 83, 84, 85, 86, 87, 88, 89, 90, 91, 92, 93, 94, 95, 96, 97, 98, 99, 100, 101, 102, 103, 104, 105, 106, 107, 108, 109, 110, 111, 112, 113, 114, 115, 116, 117, 118, 119, 120, 121, 122, 123, 124, 125, 126, 127, 128, 129, 130, 131, 132, 133, 134, 135, 136, 137, 138, 139, 140, 141, 142, 143, 144, 145, 146, 147, 148, 149, 150, 151, 152, 153, 154, 155, 156, 157, 158, 159, 160, 161, 162, 163, 164, 165, 166, 167, 168, 169, 170, 171, 172, 173, 174, 175, 176, 177, 178, 179, 180, 181, 182, 183, 184, 185, 186, 187, 188, 189, 190, 191, 192, 193, 194, 195, 196] (by decide +kernel) (by decide +kernel)) (goodIn_sub (fun _ h => List.mem_cons_of_mem _ (List.mem_append_right _ h)) (by decide +kernel))
set_option maxRecDepth 20000 in
theorem gL_reach_X11_reach : GoodIn wsL_reach (wsV RL 19 RX11 yX11_reach wsX11_reach) := goodIn_app (goodIn_of _ (by decide +kernel)) ggL_reach_X11_reach
theorem dL_reach_0 : decode cL_reach 0 = .ok (.aload 6, 2) := by decide +kernel
theorem dL_reach_2 : decode cL_reach 2 = .ok (.iconst 0, 1) := by decide +kernel
theorem dL_reach_3 : decode cL_reach 3 = .ok (.aload_n 0, 1) := by decide +kernel
theorem dL_reach_4 : decode cL_reach 4 = .ok (.iload_n 1, 1) := by decide +kernel
theorem dL_reach_5 : decode cL_reach 5 = .ok (.iload_n 2, 1) := by decide +kernel
theorem dL_reach_6 : decode cL_reach 6 = .ok (.iload_n 3, 1) := by decide +kernel
theorem dL_reach_7 : decode cL_reach 7 = .ok (.iload 4, 2) := by decide +kernel
theorem dL_reach_9 : decode cL_reach 9 = .ok (.iload 5, 2) := by decide +kernel
theorem dL_reach_11 : decode cL_reach 11 = .ok (.invokevirtual 19, 3) := by decide +kernel
theorem dL_reach_18 : decode cL_reach 18 = .ok (.astore 7, 2) := by decide +kernel
theorem dL_reach_20 : decode cL_reach 20 = .ok (.iconst 1, 1) := by decide +kernel
theorem dL_reach_21 : decode cL_reach 21 = .ok (.ireturn, 1) := by decide +kernel
set_option maxHeartbeats 4000000 in
set_option maxRecDepth 100000 in
/-- L_reach -/
theorem kL_reach (l : Launch) (D : va_G) (G : tyG) (h0 : Nat) (x1 : Int32) (x2 : Int32) (x3 : Int32) (x4 : Int32) (x5 : Int32) (o : Nat) (z0 : Nat) (z23 : Nat) (z25 : Nat) (z32 : Nat) (z36 : Nat) (z40 : Nat) (z43 : Nat) (z49 : Nat) (z1 : Nat) (z51 : Nat) (z52 : Nat) (z2 : Nat) (z3 : Nat) (hlt : l.stackTraces = false) (sz : Nat) : Met l yL_reach wsL_reach ({ frames := 7, cells := 1, slots := 6, locals := 122 }) (va_Pc [.ref h0, .int x1, .int x2, .int x3, .int x4, .int x5, .ref o] (fun U => wB D G sz [(h0, .inr (11, [.ref z0, .ref z23, .ref z25, .ref z32, .ref z36, .ref z40, .ref z43, .ref z49])), (z0, .inr (8, [.ref z1, .ref z51, .ref z52, .ref z2, .ref z3, .int 0, .int 0, .int 9, .int 0, .int 0]))] U ∧ wX (va_A [(h0, .inr (11, [.ref z0, .ref z23, .ref z25, .ref z32, .ref z36, .ref z40, .ref z43, .ref z49])), (z0, .inr (8, [.ref z1, .ref z51, .ref z52, .ref z2, .ref z3, .int 0, .int 0, .int 9, .int 0, .int 0]))] sz) U)) (va_Qi (fun (r : Int32) (_ : Unit) => r = 1) (fun _ _ => True) (va_A [(h0, .inr (11, [.ref z0, .ref z23, .ref z25, .ref z32, .ref z36, .ref z40, .ref z43, .ref z49])), (z0, .inr (8, [.ref z1, .ref z51, .ref z52, .ref z2, .ref z3, .int 0, .int 0, .int 9, .int 0, .int 0]))] sz)) 1 6 (va_A [(h0, .inr (11, [.ref z0, .ref z23, .ref z25, .ref z32, .ref z36, .ref z40, .ref z43, .ref z49])), (z0, .inr (8, [.ref z1, .ref z51, .ref z52, .ref z2, .ref z3, .int 0, .int 0, .int 9, .int 0, .int 0]))] sz) := by
  refine va_MetW (cc := cL_reach) (maxL := 8) (ret := (some .int)) (hh := [(0, 15, 18, 13)]) (by decide) rfl ?_
  intro p e s m args below meth c s₁ B hml hv
  obtain ⟨rfl, ⟨hsz, hP, hK, hD0, hN⟩, hZ⟩ := hv
  have hx := B.exec
  have hb := B.bytes
  have hr := B.returns
  have hts := atoms_spec (ws := wsL_reach) B.pre
  have hown : s.vm.findClass RL = some m.cls := findClass_of_methodNamed B.named
  have hlocks := B.notSynchronized
  subst hsz
  have hD := hD0.self (sz := s.heap.size)
  generalize hAe : va_A [(h0, .inr (11, [.ref z0, .ref z23, .ref z25, .ref z32, .ref z36, .ref z40, .ref z43, .ref z49])), (z0, .inr (8, [.ref z1, .ref z51, .ref z52, .ref z2, .ref z3, .int 0, .int 0, .int 9, .int 0, .int 0]))] s.heap.size = A at hD hZ ⊢
  have hA : ∀ q : Nat, s.heap.size ≤ q → A q := fun q h => by rw [← hAe]; exact Or.inr h
  have hS : va_S A s.heap s.heap [] := va_S.rf
  have hP : va_P D vwCl [(h0, .inr (11, [.ref z0, .ref z23, .ref z25, .ref z32, .ref z36, .ref z40, .ref z43, .ref z49])), (z0, .inr (8, [.ref z1, .ref z51, .ref z52, .ref z2, .ref z3, .int 0, .int 0, .int 9, .int 0, .int 0]))] s.heap := hP
  have hl := lv_entry ([.ref h0, .int x1, .int x2, .int x3, .int x4, .int x5, .ref o]) (n := 8) (Nat.le_of_ble_eq_true rfl)
  rw [lg_entry_eq]
  generalize (lg_sl ([.ref h0, .int x1, .int x2, .int x3, .int x4, .int x5, .ref o]) ++ List.replicate (8 - (lg_sl ([.ref h0, .int x1, .int x2, .int x3, .int x4, .int x5, .ref o])).length) Slot.unset).toArray = ls at hl ⊢
  have hl : lv_has ls 8 [(0, .ref h0), (1, .int x1), (2, .int x2), (3, .int x3), (4, .int x4), (5, .int x5), (6, .ref o)] := hl
  refine lv_aload hx hb dL_reach_0 (lv_at hl 6 rfl) ?_
  refine lv_iconst (v := 0) hx hb dL_reach_2 (by decide) ?_
  refine lv_aload_n hx hb dL_reach_3 rfl (lv_at hl 0 rfl) ?_
  refine lv_iload_n hx hb dL_reach_4 rfl (lv_at hl 1 rfl) ?_
  refine lv_iload_n hx hb dL_reach_5 rfl (lv_at hl 2 rfl) ?_
  refine lv_iload_n hx hb dL_reach_6 rfl (lv_at hl 3 rfl) ?_
  refine lv_iload hx hb dL_reach_7 (lv_at hl 4 rfl) ?_
  refine lv_iload hx hb dL_reach_9 (lv_at hl 5 rfl) ?_
  have hPc := hP.sub (ws' := [(h0, .inr (11, [.ref z0, .ref z23, .ref z25, .ref z32, .ref z36, .ref z40, .ref z43, .ref z49])), (z0, .inr (8, [.ref z1, .ref z51, .ref z52, .ref z2, .ref z3, .int 0, .int 0, .int 9, .int 0, .int 0]))]) [0, 1] rfl
  have hDc := hD.sub (ws' := [(h0, .inr (11, [.ref z0, .ref z23, .ref z25, .ref z32, .ref z36, .ref z40, .ref z43, .ref z49])), (z0, .inr (8, [.ref z1, .ref z51, .ref z52, .ref z2, .ref z3, .int 0, .int 0, .int 9, .int 0, .int 0]))]) [0, 1] (by decide) rfl
  have hFc := va_free (wc := [(h0, .inr (11, [.ref z0, .ref z23, .ref z25, .ref z32, .ref z36, .ref z40, .ref z43, .ref z49])), (z0, .inr (8, [.ref z1, .ref z51, .ref z52, .ref z2, .ref z3, .int 0, .int 0, .int 9, .int 0, .int 0]))]) hD hS hA [0, 1] rfl
  refine vx_calll (vx_runV (As := [.int x1, .int x2, .int x3, .int x4, .int x5]) (rest := [.int 0, .ref o]) ⟨hx, hb, hml, hown, hts⟩ (kX11_reach l D G h0 x1 x2 x3 x4 x5 z0 z23 z25 z32 z36 z40 z43 z49 z1 z51 z52 z2 z3 hlt s.heap.size) (cwV 5 hts gL_reach_X11_reach rfl rfl rfl (by decide +kernel) ⟨Nat.le_of_ble_eq_true rfl, Nat.le_of_ble_eq_true rfl⟩) ⟨wBX_blind, va_recv hK hPc (ci := 11) (q0 := 0) rfl rfl, wBX_pre hPc hK hDc hN hZ hS hFc⟩ rfl rfl hl.1 rfl (lv_room (Nat.le_of_ble_eq_true rfl)) dL_reach_11 ⟨Nat.le_of_ble_eq_true rfl, Nat.le_of_ble_eq_true rfl⟩) hS (fun q _ h => hFc q h) hFc (fun q _ h => hFc q h) (fun E ce q9 u t H1 locs ht hvm hw hB hz1 hk1 hS hq9 hce hcl => ?_) (fun r u t H1 locs ht hvm hw hB hz1 hk1 hS => False.elim hw)
  have hB : E = nsE := hB
  subst hB
  refine vx_catch hown [] ⟨0, 15, 18, 13⟩ [] ((vx_table (x := yL_reach) B (hts (.codeWith yL_reach cL_reach 8 (some .int) [(0, 15, 18, 13)]) List.mem_cons_self)).trans rfl) (fun z hz => nomatch hz) (by decide) (by decide) (hts (.classLink RL 13 "java/util/NoSuchElementException") mL_reach_w0) (va_Nw.use rfl hZ.1.1) hq9 hce hcl ?_
  refine W.widen (k := 1) (n := 6) (by omega) (by omega) ?_
  refine lv_astore (lv' := [(7, .ref q9), (0, .ref h0), (1, .int x1), (2, .int x2), (3, .int x3), (4, .int x4), (5, .int x5), (6, .ref o)]) hx hb dL_reach_18 hl (by decide) rfl (fun ls hl => ?_)
  refine lv_iconst (v := 1) hx hb dL_reach_20 (by decide) ?_
  exact W.iret (v := 1) hx hb hr (fun t ht hW => ⟨⟨1, (), rfl, rfl, trivial⟩, hS.F ht⟩) hS.2.2 dL_reach_21

theorem mX11_row_w2 : Cond.fieldLink RX11 61 "PuppetBridge" "told" "LPuppetBridge$Row;" ∈ wsX11_row := by decide +kernel
theorem mX11_row_w3 : Cond.fieldLink RX11 235 "PuppetBridge$Row" "size" "I" ∈ wsX11_row := by decide +kernel
theorem mX11_row_w0 : Cond.classLink RX11 148 "java/util/NoSuchElementException" ∈ wsX11_row := by decide +kernel
theorem mX11_row_w1 : Cond.initialized "java/util/NoSuchElementException" ∈ wsX11_row := by decide +kernel
theorem iX11_row_X11 : ∀ w ∈ wsX110, w ∈ wsX11_row := fun _ h => List.mem_cons_of_mem _ (List.mem_append_left _ (List.mem_append_left _ (List.mem_append_right _ h)))
theorem iX11_row_X5 : ∀ w ∈ wsX50, w ∈ wsX11_row := fun _ h => List.mem_cons_of_mem _ (List.mem_append_left _ (List.mem_append_right _ h))
theorem xX11_row : ∀ w ∈ (vx_at0 RX11 150 nsE nsN).filter goodWord, w ∈ wsX11_row := fun _ h => List.mem_cons_of_mem _ (List.mem_append_right _ h)
set_option maxRecDepth 20000 in
theorem ggX11_row_X11_within : GoodIn wsX11_row wsX11_within := goodIn_r _ [9] (by decide +kernel) (by decide +kernel)
set_option maxRecDepth 20000 in
theorem gX11_row_X11_within : GoodIn wsX11_row (va_wsS RX11 94 yX11_within wsX11_within) := goodIn_app (goodIn_of _ (by decide +kernel)) ggX11_row_X11_within
theorem dX11_row_0 : decode cX11_row 0 = .ok (.iload_n 1, 1) := by decide +kernel
theorem dX11_row_1 : decode cX11_row 1 = .ok (.iconst 0, 1) := by decide +kernel
theorem dX11_row_2 : decode cX11_row 2 = .ok (.aload_n 0, 1) := by decide +kernel
theorem dX11_row_3 : decode cX11_row 3 = .ok (.getfield 61, 3) := by decide +kernel
theorem dX11_row_6 : decode cX11_row 6 = .ok (.getfield 235, 3) := by decide +kernel
theorem dX11_row_9 : decode cX11_row 9 = .ok (.iconst 1, 1) := by decide +kernel
theorem dX11_row_10 : decode cX11_row 10 = .ok (.isub, 1) := by decide +kernel
theorem dX11_row_11 : decode cX11_row 11 = .ok (.invokestatic 94, 3) := by decide +kernel
theorem dX11_row_14 : decode cX11_row 14 = .ok (.ifCond .ne 11, 3) := by decide +kernel
theorem dX11_row_17 : decode cX11_row 17 = .ok (.new 148, 3) := by decide +kernel
theorem dX11_row_20 : decode cX11_row 20 = .ok (.dup, 1) := by decide +kernel
theorem dX11_row_21 : decode cX11_row 21 = .ok (.invokespecial 150, 3) := by decide +kernel
theorem dX11_row_24 : decode cX11_row 24 = .ok (.athrow, 1) := by decide +kernel
set_option maxHeartbeats 4000000 in
set_option maxRecDepth 100000 in
/-- X11_row: it throws -/
theorem kX11_row (l : Launch) (D : va_G) (G : tyG) (h0 : Nat) (x1 : Int32) (z0 : Nat) (z23 : Nat) (z25 : Nat) (z32 : Nat) (z36 : Nat) (z40 : Nat) (z43 : Nat) (z49 : Nat) (z50 : Nat) (hlt : l.stackTraces = false) (sz : Nat) : vx_Met l yX11_row wsX11_row ({ frames := 6, cells := 1, slots := 6, locals := 96 }) (va_Pc [.ref h0, .int x1] (fun U => wB D G sz [(h0, .inr (11, [.ref z0, .ref z23, .ref z25, .ref z32, .ref z36, .ref z40, .ref z43, .ref z49])), (z49, .inr (5, [.ref z50, .int 0]))] U ∧ wX (va_A [(h0, .inr (11, [.ref z0, .ref z23, .ref z25, .ref z32, .ref z36, .ref z40, .ref z43, .ref z49])), (z49, .inr (5, [.ref z50, .int 0]))] sz) U)) (va_Qi (fun (_ : Int32) (_ : Unit) => False) (fun _ _ => True) (va_A [(h0, .inr (11, [.ref z0, .ref z23, .ref z25, .ref z32, .ref z36, .ref z40, .ref z43, .ref z49])), (z49, .inr (5, [.ref z50, .int 0]))] sz)) (vx_X (fun _ : Unit => True) (fun E _ _ => E = nsE) (va_A [(h0, .inr (11, [.ref z0, .ref z23, .ref z25, .ref z32, .ref z36, .ref z40, .ref z43, .ref z49])), (z49, .inr (5, [.ref z50, .int 0]))] sz)) 1 6 (va_A [(h0, .inr (11, [.ref z0, .ref z23, .ref z25, .ref z32, .ref z36, .ref z40, .ref z43, .ref z49])), (z49, .inr (5, [.ref z50, .int 0]))] sz) := by
  refine vx_ofW (cc := cX11_row) (maxL := 2) (ret := (some .int)) (by decide) rfl ?_
  intro p e s m args below meth c s₁ B hml hnt hv
  obtain ⟨rfl, ⟨hsz, hP, hK, hD0, hN⟩, hZ⟩ := hv
  have hx := B.exec
  have hb := B.bytes
  have hr := B.returns
  have hts := atoms_spec (ws := wsX11_row) B.pre
  have hown : s.vm.findClass RX11 = some m.cls := findClass_of_methodNamed B.named
  have hlocks := B.notSynchronized
  subst hsz
  have hD := hD0.self (sz := s.heap.size)
  generalize hAe : va_A [(h0, .inr (11, [.ref z0, .ref z23, .ref z25, .ref z32, .ref z36, .ref z40, .ref z43, .ref z49])), (z49, .inr (5, [.ref z50, .int 0]))] s.heap.size = A at hD hZ ⊢
  have hA : ∀ q : Nat, s.heap.size ≤ q → A q := fun q h => by rw [← hAe]; exact Or.inr h
  have hS : va_S A s.heap s.heap [] := va_S.rf
  have hP : va_P D vwCl [(h0, .inr (11, [.ref z0, .ref z23, .ref z25, .ref z32, .ref z36, .ref z40, .ref z43, .ref z49])), (z49, .inr (5, [.ref z50, .int 0]))] s.heap := hP
  have hl := lv_entry ([.ref h0, .int x1]) (n := 2) (Nat.le_of_ble_eq_true rfl)
  rw [lg_entry_eq]
  generalize (lg_sl ([.ref h0, .int x1]) ++ List.replicate (2 - (lg_sl ([.ref h0, .int x1])).length) Slot.unset).toArray = ls at hl ⊢
  have hl : lv_has ls 2 [(0, .ref h0), (1, .int x1)] := hl
  refine lv_iload_n hx hb dX11_row_0 rfl (lv_at hl 1 rfl) ?_
  refine lv_iconst (v := 0) hx hb dX11_row_1 (by decide) ?_
  refine lv_aload_n hx hb dX11_row_2 rfl (lv_at hl 0 rfl) ?_
  refine va_get (D := D) (ci := 11) (v := .ref z49) (C := RX11) (T := TX11) (N := 8) hx hb hts iX11_row_X11 hown hK hP 0 rfl rfl 7 (by decide) (hts (.fieldLink RX11 61 "PuppetBridge" "told" "LPuppetBridge$Row;") mX11_row_w2) (fun _ h9 => h9) rfl dX11_row_3 ?_
  refine va_get (D := D) (ci := 5) (v := .int 0) (C := RX5) (T := TX5) (N := 2) hx hb hts iX11_row_X5 hown hK hP 1 rfl rfl 1 (by decide) (hts (.fieldLink RX11 235 "PuppetBridge$Row" "size" "I") mX11_row_w3) (fun _ h9 => h9) rfl dX11_row_6 ?_
  refine lv_iconst (v := 1) hx hb dX11_row_9 (by decide) ?_
  refine lv_isub hx hb dX11_row_10 ?_
  refine wk_i (-1) (by decide) ?_
  have hPc := hP.sub (ws' := []) [] rfl
  have hDc := hD.sub (ws' := []) [] (by decide) rfl
  have hFc := va_free (wc := []) hD hS hA [] rfl
  refine va_calli (va_runS (As := [.int x1, .int 0, .int (-1)]) (rest := []) ⟨hx, hb, hml, hown, hts⟩ (kX11_within l D G x1 0 (-1) s.heap.size) (va_cwS 3 hts gX11_row_X11_within rfl rfl rfl (by decide +kernel) ⟨Nat.le_of_ble_eq_true rfl, Nat.le_of_ble_eq_true rfl⟩) ⟨wB_blind, wB_pre hPc hK hDc hN⟩ rfl rfl hl.1 rfl (lv_room (Nat.le_of_ble_eq_true rfl)) dX11_row_11 ⟨Nat.le_of_ble_eq_true rfl, Nat.le_of_ble_eq_true rfl⟩) hS (fun q _ h => hFc q h) hFc (fun r1 u t H1 locs ht hvm hr1 hB hz1 hk1 hS => ?_)
  obtain ⟨hP, hD⟩ := va_join (wr := [(h0, .inr (11, [.ref z0, .ref z23, .ref z25, .ref z32, .ref z36, .ref z40, .ref z43, .ref z49])), (z49, .inr (5, [.ref z50, .int 0]))]) (w1 := []) hP hD [] [0, 1] rfl rfl (by decide) (by decide) hk1 hFc wP_nil wD_nil
  clear hPc hDc
  generalize H1 = H at hP hS ⊢
  have hP : va_P D vwCl [(h0, .inr (11, [.ref z0, .ref z23, .ref z25, .ref z32, .ref z36, .ref z40, .ref z43, .ref z49])), (z49, .inr (5, [.ref z50, .int 0]))] H := hP
  have hD : va_D A [(h0, .inr (11, [.ref z0, .ref z23, .ref z25, .ref z32, .ref z36, .ref z40, .ref z43, .ref z49])), (z49, .inr (5, [.ref z50, .int 0]))] := hD
  obtain rfl : r1 = 0 := by rw [hr1, inB_none]; rfl
  refine lv_if_ne (tgt := 25) hx hb dX11_row_14 (by decide) (fun h9 => absurd h9 (by decide)) (fun _ => ?_)
  exact vx_throw0 hx hb hlt hown (by decide +kernel) (by decide +kernel) (hts (.classLink RX11 148 "java/util/NoSuchElementException") mX11_row_w0) (hts (.initialized "java/util/NoSuchElementException") mX11_row_w1) (vx_hat (fun w hw => hts w (xX11_row w hw)) nsB hZ.at) nsO hZ.2.1 hZ.2.2 hS (by rw [hml]; exact hl.1) dX11_row_17 dX11_row_20 dX11_row_21 dX11_row_24 (fun x hx => (hnt x hx).elim) (Nat.le_of_ble_eq_true rfl) (Nat.le_of_ble_eq_true rfl) (Nat.le_of_ble_eq_true rfl) (Nat.le_of_ble_eq_true rfl) hlocks (fun t ha h1 h2 => ⟨(), trivial, rfl, ⟨Nat.le_trans hS.1 h1, fun q hq hn => (h2 q (Nat.lt_of_lt_of_le hq hS.1)).trans (hS.2.1 q hq hn)⟩⟩) hS.2.2 (by decide) (by decide)

theorem mL_row_w0 : Cond.classLink RL 13 "java/util/NoSuchElementException" ∈ wsL_row := by decide +kernel
set_option maxRecDepth 20000 in
theorem ggL_row_X11_row : GoodIn wsL_row wsX11_row := goodIn_ca (goodIn_r _ [6, 7, 8, 9, 10, 11, 12, 13, 5, 14, 15, 16, 17, 18, 19, 20, 21, 22, 23, 24] (by decide +kernel) (by decide +kernel)) (goodIn_sub (fun _ h => List.mem_cons_of_mem _ (List.mem_append_right _ h)) (by decide +kernel))
set_option maxRecDepth 20000 in
theorem gL_row_X11_row : GoodIn wsL_row (wsV RL 23 RX11 yX11_row wsX11_row) := goodIn_app (goodIn_of _ (by decide +kernel)) ggL_row_X11_row
theorem dL_row_0 : decode cL_row 0 = .ok (.aload_n 2, 1) := by decide +kernel
theorem dL_row_1 : decode cL_row 1 = .ok (.iconst 0, 1) := by decide +kernel
theorem dL_row_2 : decode cL_row 2 = .ok (.aload_n 0, 1) := by decide +kernel
theorem dL_row_3 : decode cL_row 3 = .ok (.iload_n 1, 1) := by decide +kernel
theorem dL_row_4 : decode cL_row 4 = .ok (.invokevirtual 23, 3) := by decide +kernel
theorem dL_row_12 : decode cL_row 12 = .ok (.astore_n 3, 1) := by decide +kernel
theorem dL_row_13 : decode cL_row 13 = .ok (.iconst 1, 1) := by decide +kernel
theorem dL_row_14 : decode cL_row 14 = .ok (.ireturn, 1) := by decide +kernel
set_option maxHeartbeats 4000000 in
set_option maxRecDepth 100000 in
/-- L_row -/
theorem kL_row (l : Launch) (D : va_G) (G : tyG) (h0 : Nat) (x1 : Int32) (o : Nat) (z0 : Nat) (z23 : Nat) (z25 : Nat) (z32 : Nat) (z36 : Nat) (z40 : Nat) (z43 : Nat) (z49 : Nat) (z50 : Nat) (hlt : l.stackTraces = false) (sz : Nat) : Met l yL_row wsL_row ({ frames := 7, cells := 1, slots := 6, locals := 117 }) (va_Pc [.ref h0, .int x1, .ref o] (fun U => wB D G sz [(h0, .inr (11, [.ref z0, .ref z23, .ref z25, .ref z32, .ref z36, .ref z40, .ref z43, .ref z49])), (z49, .inr (5, [.ref z50, .int 0]))] U ∧ wX (va_A [(h0, .inr (11, [.ref z0, .ref z23, .ref z25, .ref z32, .ref z36, .ref z40, .ref z43, .ref z49])), (z49, .inr (5, [.ref z50, .int 0]))] sz) U)) (va_Qi (fun (r : Int32) (_ : Unit) => r = 1) (fun _ _ => True) (va_A [(h0, .inr (11, [.ref z0, .ref z23, .ref z25, .ref z32, .ref z36, .ref z40, .ref z43, .ref z49])), (z49, .inr (5, [.ref z50, .int 0]))] sz)) 1 6 (va_A [(h0, .inr (11, [.ref z0, .ref z23, .ref z25, .ref z32, .ref z36, .ref z40, .ref z43, .ref z49])), (z49, .inr (5, [.ref z50, .int 0]))] sz) := by
  refine va_MetW (cc := cL_row) (maxL := 4) (ret := (some .int)) (hh := [(0, 9, 12, 13)]) (by decide) rfl ?_
  intro p e s m args below meth c s₁ B hml hv
  obtain ⟨rfl, ⟨hsz, hP, hK, hD0, hN⟩, hZ⟩ := hv
  have hx := B.exec
  have hb := B.bytes
  have hr := B.returns
  have hts := atoms_spec (ws := wsL_row) B.pre
  have hown : s.vm.findClass RL = some m.cls := findClass_of_methodNamed B.named
  have hlocks := B.notSynchronized
  subst hsz
  have hD := hD0.self (sz := s.heap.size)
  generalize hAe : va_A [(h0, .inr (11, [.ref z0, .ref z23, .ref z25, .ref z32, .ref z36, .ref z40, .ref z43, .ref z49])), (z49, .inr (5, [.ref z50, .int 0]))] s.heap.size = A at hD hZ ⊢
  have hA : ∀ q : Nat, s.heap.size ≤ q → A q := fun q h => by rw [← hAe]; exact Or.inr h
  have hS : va_S A s.heap s.heap [] := va_S.rf
  have hP : va_P D vwCl [(h0, .inr (11, [.ref z0, .ref z23, .ref z25, .ref z32, .ref z36, .ref z40, .ref z43, .ref z49])), (z49, .inr (5, [.ref z50, .int 0]))] s.heap := hP
  have hl := lv_entry ([.ref h0, .int x1, .ref o]) (n := 4) (Nat.le_of_ble_eq_true rfl)
  rw [lg_entry_eq]
  generalize (lg_sl ([.ref h0, .int x1, .ref o]) ++ List.replicate (4 - (lg_sl ([.ref h0, .int x1, .ref o])).length) Slot.unset).toArray = ls at hl ⊢
  have hl : lv_has ls 4 [(0, .ref h0), (1, .int x1), (2, .ref o)] := hl
  refine lv_aload_n hx hb dL_row_0 rfl (lv_at hl 2 rfl) ?_
  refine lv_iconst (v := 0) hx hb dL_row_1 (by decide) ?_
  refine lv_aload_n hx hb dL_row_2 rfl (lv_at hl 0 rfl) ?_
  refine lv_iload_n hx hb dL_row_3 rfl (lv_at hl 1 rfl) ?_
  have hPc := hP.sub (ws' := [(h0, .inr (11, [.ref z0, .ref z23, .ref z25, .ref z32, .ref z36, .ref z40, .ref z43, .ref z49])), (z49, .inr (5, [.ref z50, .int 0]))]) [0, 1] rfl
  have hDc := hD.sub (ws' := [(h0, .inr (11, [.ref z0, .ref z23, .ref z25, .ref z32, .ref z36, .ref z40, .ref z43, .ref z49])), (z49, .inr (5, [.ref z50, .int 0]))]) [0, 1] (by decide) rfl
  have hFc := va_free (wc := [(h0, .inr (11, [.ref z0, .ref z23, .ref z25, .ref z32, .ref z36, .ref z40, .ref z43, .ref z49])), (z49, .inr (5, [.ref z50, .int 0]))]) hD hS hA [0, 1] rfl
  refine vx_calli (vx_runV (As := [.int x1]) (rest := [.int 0, .ref o]) ⟨hx, hb, hml, hown, hts⟩ (kX11_row l D G h0 x1 z0 z23 z25 z32 z36 z40 z43 z49 z50 hlt s.heap.size) (cwV 1 hts gL_row_X11_row rfl rfl rfl (by decide +kernel) ⟨Nat.le_of_ble_eq_true rfl, Nat.le_of_ble_eq_true rfl⟩) ⟨wBX_blind, va_recv hK hPc (ci := 11) (q0 := 0) rfl rfl, wBX_pre hPc hK hDc hN hZ hS hFc⟩ rfl rfl hl.1 rfl (lv_room (Nat.le_of_ble_eq_true rfl)) dL_row_4 ⟨Nat.le_of_ble_eq_true rfl, Nat.le_of_ble_eq_true rfl⟩) hS (fun q _ h => hFc q h) hFc (fun q _ h => hFc q h) (fun E ce q9 u t H1 locs ht hvm hw hB hz1 hk1 hS hq9 hce hcl => ?_) (fun r u t H1 locs ht hvm hw hB hz1 hk1 hS => False.elim hw)
  have hB : E = nsE := hB
  subst hB
  refine vx_catch hown [] ⟨0, 9, 12, 13⟩ [] ((vx_table (x := yL_row) B (hts (.codeWith yL_row cL_row 4 (some .int) [(0, 9, 12, 13)]) List.mem_cons_self)).trans rfl) (fun z hz => nomatch hz) (by decide) (by decide) (hts (.classLink RL 13 "java/util/NoSuchElementException") mL_row_w0) (va_Nw.use rfl hZ.1.1) hq9 hce hcl ?_
  refine W.widen (k := 1) (n := 6) (by omega) (by omega) ?_
  refine lv_astore_n (lv' := [(3, .ref q9), (0, .ref h0), (1, .int x1), (2, .ref o)]) hx hb dL_row_12 rfl hl (by decide) rfl (fun ls hl => ?_)
  refine lv_iconst (v := 1) hx hb dL_row_13 (by decide) ?_
  exact W.iret (v := 1) hx hb hr (fun t ht hW => ⟨⟨1, (), rfl, rfl, trivial⟩, hS.F ht⟩) hS.2.2 dL_row_14
