set_option maxHeartbeats 40000000 in
set_option maxRecDepth 100000 in
/-- THE LAW, from its entry, for one call at most -/
theorem first_start {p : Program} {e : Env} {s : State} {m : MethodId} {below : List Frame} {meth : Method} {c : Code} (l : Launch) (hlt : l.stackTraces = false) {b L : Nat} {xs : Nat → Int32} (hL : L ≤ 7) (C0 : lw_At p s m meth c b L xs) : W p l e room_1 s m #[Value.ref b] below meth c s.heap [] 0 0 (lw_Z below #[Value.ref b] s) (entryFrame m ([Value.ref b] : List Value).toArray 8) := by
  obtain ⟨hx, hb, hr, hml, hown, hts0, hX, hbl, hlocks, hgv⟩ := id C0
  have hts : ∀ w ∈ wsL_law, w.before #[Value.ref b] s = true := fun w h => hts0 w (wsL_law_in w h)
  obtain ⟨A, hAe⟩ : ∃ A : Nat → Prop, A = (fun q : Nat => s.heap.size ≤ q) := ⟨_, rfl⟩
  have hA : ∀ q : Nat, s.heap.size ≤ q → A q := fun q h => by rw [hAe]; exact h
  have hnA : ∀ q : Nat, q < s.heap.size → ¬ A q := fun q h => by rw [hAe]; exact Nat.not_le.mpr h
  have hbA : ¬ A b := hnA b hbl
  obtain ⟨D, G, hK⟩ := law_K hts0
  have hN := law_N hts0
  obtain ⟨tx, ty, gx, gy, hZZ⟩ := law_Z hts0 hgv hnA
  obtain ⟨tf, hZF⟩ := law_F hts0 hgv hnA
  have hZX := law_X hts0 hgv hnA
  have hS : va_S A s.heap s.heap [] := va_S.rf
  have hP : va_P D vwCl [] s.heap := wP_nil
  have hD : va_D A [] := wD_nil
  have hl := lv_entry ([.ref b]) (n := 8) (Nat.le_of_ble_eq_true rfl)
  rw [lg_entry_eq]
  generalize (lg_sl ([.ref b]) ++ List.replicate (8 - (lg_sl ([.ref b])).length) Slot.unset).toArray = ls at hl ⊢
  have hl : lv_has ls 8 [(0, .ref b)] := hl
  refine va_new (ci := 11) (fs := [.null, .null, .null, .null, .null, .null, .null, .null]) (C := RX11) (T := TX11) (N := 8) hx hb hts inlX11 tyX11 tyX11_ok hown (hts (.classLink RL 8 RX11) mL_law_w0) (hts (.instantiable RX11 8) mL_law_w1) (hts (.initialized RX11) mL_law_w2) hK hP hD hS hA rfl (fun j hj => by rcases (show j = 0 ∨ j = 1 ∨ j = 2 ∨ j = 3 ∨ j = 4 ∨ j = 5 ∨ j = 6 ∨ j = 7 by omega) with rfl | rfl | rfl | rfl | rfl | rfl | rfl | rfl <;> rfl) (Nat.le_of_ble_eq_true rfl) (Nat.le_of_ble_eq_true rfl) dL_law_0 (fun q1 H hP hD hS => ?_)
  have hP : va_P D vwCl [(q1, .inr (11, [.null, .null, .null, .null, .null, .null, .null, .null]))] H := hP
  have hD : va_D A [(q1, .inr (11, [.null, .null, .null, .null, .null, .null, .null, .null]))] := hD
  refine W.widen (k := 1) (n := 8) (by omega) (by omega) ?_
  refine lv_dup hx hb dL_law_3 rfl ?_
  have hPc := hP.sub (ws' := [(q1, .inr (11, [.null, .null, .null, .null, .null, .null, .null, .null]))]) [0] rfl
  have hDc := hD.sub (ws' := [(q1, .inr (11, [.null, .null, .null, .null, .null, .null, .null, .null]))]) [0] (by decide) rfl
  have hFc := va_free (wc := [(q1, .inr (11, [.null, .null, .null, .null, .null, .null, .null, .null]))]) hD hS hA [0] rfl
  refine va_callv (va_runI (As := []) (rest := [.ref q1]) ⟨hx, hb, hml, hown, hts⟩ (kX11_init l D G q1 H.size) (cwI 0 hts gL_law_X11_init rfl rfl rfl (hts (.initialized RX11) mL_law_w2) (hts (.methodLink RL 27 yX11_init) mL_law_w7) (hts (.instanceMethod yX11_init) mL_law_w8) rfl (by decide +kernel) ⟨Nat.le_of_ble_eq_true rfl, Nat.le_of_ble_eq_true rfl⟩) ⟨wB_blind, wB_pre hPc hK hDc hN⟩ rfl rfl hl.1 rfl (lv_room (Nat.le_of_ble_eq_true rfl)) dL_law_4 ⟨Nat.le_of_ble_eq_true rfl, Nat.le_of_ble_eq_true rfl⟩) hS (fun q _ h => hFc q h) hFc (fun u t H1 locs ht hvm hr2 hB hz1 hk1 hS => ?_)
  obtain ⟨q3, q4, q5, q6, q7, q8, q9, q10, q11, q12, q13, q14, q15, q16, q17, q18, q19, q20, q21, q22, q23, q24, q25, q26, q27, q28, q29, q30, q31, q32, q33, q34, q35, q36, q37, q38, q39, q40, q41, q42, q43, q44, q45, q46, q47, q48, q49, q50, q51, q52, q53, q54, q55, q56, q57, q58, hP1, hK1, hD1⟩ := hB
  rw [ht] at hP1
  obtain ⟨hP, hD⟩ := va_join (wr := []) (w1 := [(q1, .inr (11, [.ref q3, .ref q26, .ref q28, .ref q35, .ref q39, .ref q43, .ref q46, .ref q52])), (q3, .inr (8, [.ref q4, .ref q54, .ref q55, .ref q5, .ref q6, .int 0, .int 0, .int 9, .int 0, .int 0])), (q4, .inl (G.2.2.2.2, 4, .inr (.inr (.inr (.inr (va_up (va_up (va_up (va_up (fun _ => none) 0 (some q7)) 1 (some q56)) 2 (some q57)) 3 (some q58))))))), (q5, .inl (G.1, 16, .inl (fun _ => 0))), (q6, .inl (G.2.2.2.1, 16, .inl (fun _ => 0))), (q7, .inr (2, [.ref q8, .ref q9, .ref q10, .ref q11, .ref q12, .ref q13, .ref q14, .ref q15, .ref q23, .int 0, .int 0, .int 0, .int 0, .int 0, .int 0, .int 0])), (q8, .inl (G.1, 8, .inl (fun _ => 0))), (q9, .inl (G.1, 8, .inl (fun _ => 0))), (q10, .inl (G.1, 8, .inl (fun _ => 0))), (q11, .inl (G.1, 8, .inl (fun _ => 0))), (q12, .inl (G.1, 8, .inl (fun _ => 0))), (q13, .inl (G.1, 9, .inl (fun _ => 0))), (q14, .inl (G.1, 9, .inl (fun _ => 0))), (q15, .inr (1, [.ref q16, .ref q17, .ref q18, .ref q19, .ref q20, .ref q21, .ref q22, .int 0])), (q16, .inl (G.1, 8, .inl (fun _ => 0))), (q17, .inl (G.1, 8, .inl (fun _ => 0))), (q18, .inl (G.1, 8, .inl (fun _ => 0))), (q19, .inl (G.1, 8, .inl (fun _ => 0))), (q20, .inl (G.1, 8, .inl (fun _ => 0))), (q21, .inl (G.1, 8, .inl (fun _ => 0))), (q22, .inl (G.2.2.2.1, 8, .inl (fun _ => 0))), (q23, .inr (6, [.ref q24, .ref q25, .int 0, .int 0])), (q24, .inl (G.1, 60, .inl (fun _ => 0))), (q25, .inl (G.1, 80, .inl (fun _ => 0))), (q26, .inr (10, [.ref q27, .int 0])), (q27, .inl (G.1, 100, .inl (fun _ => 0))), (q28, .inr (7, [.ref q29, .ref q30, .ref q31, .int 0])), (q29, .inl (G.1, 80, .inl (fun _ => 0))), (q30, .inl (G.1, 3, .inl (fun _ => 0))), (q31, .inl (G.1, 3, .inl (fun _ => 0))), (q32, .inl (G.1, 40, .inl (fun _ => 0))), (q33, .inl (G.2.1, 10, .inr (.inl (fun _ => 0)))), (q34, .inl (G.1, 6, .inl (fun _ => 0))), (q35, .inr (0, [.ref q32, .ref q36, .ref q37, .ref q38, .ref q33, .ref q34, .int 2, .int 0, .int 0])), (q36, .inl (G.1, 5, .inl (tI [0, 1, 2, 3, 4]))), (q37, .inl (G.1, 25, .inl (tI [0, 0, 0, 0, 0, 0, 0, 0, 0, 0, 0, 0, 0, 0, 0, 0, 0, 0, 0, 0, 0, 0, 0, 0, 0]))), (q38, .inl (G.2.1, 10, .inr (.inl (tL [0, 1, 0, 1, 0, 1, 0, 1, 0, 1])))), (q39, .inr (3, [.ref q40, .ref q41, .ref q42, .int 0])), (q40, .inl (G.1, 8, .inl (fun _ => 0))), (q41, .inl (G.1, 4, .inl (fun _ => 0))), (q42, .inl (G.1, 3, .inl (fun _ => 0))), (q43, .inr (4, [.ref q44, .ref q45, .int 0])), (q44, .inl (G.1, 3, .inl (fun _ => 0))), (q45, .inl (G.1, 3, .inl (fun _ => 0))), (q46, .inr (9, [.ref q47, .ref q48, .ref q49, .ref q50, .ref q51, .int 0])), (q47, .inl (G.1, 20, .inl (fun _ => 0))), (q48, .inl (G.1, 20, .inl (fun _ => 0))), (q49, .inl (G.1, 20, .inl (fun _ => 0))), (q50, .inl (G.1, 20, .inl (fun _ => 0))), (q51, .inl (G.1, 160, .inl (fun _ => 0))), (q52, .inr (5, [.ref q53, .int 0])), (q53, .inl (G.1, 32, .inl (fun _ => 0)))]) hP hD [0] [] rfl rfl (by decide) (by decide) hk1 hFc hP1 hD1
  clear hPc hDc
  generalize H1 = H at hP hS ⊢
  have hP : va_P D vwCl [(q1, .inr (11, [.ref q3, .ref q26, .ref q28, .ref q35, .ref q39, .ref q43, .ref q46, .ref q52])), (q3, .inr (8, [.ref q4, .ref q54, .ref q55, .ref q5, .ref q6, .int 0, .int 0, .int 9, .int 0, .int 0])), (q4, .inl (G.2.2.2.2, 4, .inr (.inr (.inr (.inr (va_up (va_up (va_up (va_up (fun _ => none) 0 (some q7)) 1 (some q56)) 2 (some q57)) 3 (some q58))))))), (q5, .inl (G.1, 16, .inl (fun _ => 0))), (q6, .inl (G.2.2.2.1, 16, .inl (fun _ => 0))), (q7, .inr (2, [.ref q8, .ref q9, .ref q10, .ref q11, .ref q12, .ref q13, .ref q14, .ref q15, .ref q23, .int 0, .int 0, .int 0, .int 0, .int 0, .int 0, .int 0])), (q8, .inl (G.1, 8, .inl (fun _ => 0))), (q9, .inl (G.1, 8, .inl (fun _ => 0))), (q10, .inl (G.1, 8, .inl (fun _ => 0))), (q11, .inl (G.1, 8, .inl (fun _ => 0))), (q12, .inl (G.1, 8, .inl (fun _ => 0))), (q13, .inl (G.1, 9, .inl (fun _ => 0))), (q14, .inl (G.1, 9, .inl (fun _ => 0))), (q15, .inr (1, [.ref q16, .ref q17, .ref q18, .ref q19, .ref q20, .ref q21, .ref q22, .int 0])), (q16, .inl (G.1, 8, .inl (fun _ => 0))), (q17, .inl (G.1, 8, .inl (fun _ => 0))), (q18, .inl (G.1, 8, .inl (fun _ => 0))), (q19, .inl (G.1, 8, .inl (fun _ => 0))), (q20, .inl (G.1, 8, .inl (fun _ => 0))), (q21, .inl (G.1, 8, .inl (fun _ => 0))), (q22, .inl (G.2.2.2.1, 8, .inl (fun _ => 0))), (q23, .inr (6, [.ref q24, .ref q25, .int 0, .int 0])), (q24, .inl (G.1, 60, .inl (fun _ => 0))), (q25, .inl (G.1, 80, .inl (fun _ => 0))), (q26, .inr (10, [.ref q27, .int 0])), (q27, .inl (G.1, 100, .inl (fun _ => 0))), (q28, .inr (7, [.ref q29, .ref q30, .ref q31, .int 0])), (q29, .inl (G.1, 80, .inl (fun _ => 0))), (q30, .inl (G.1, 3, .inl (fun _ => 0))), (q31, .inl (G.1, 3, .inl (fun _ => 0))), (q32, .inl (G.1, 40, .inl (fun _ => 0))), (q33, .inl (G.2.1, 10, .inr (.inl (fun _ => 0)))), (q34, .inl (G.1, 6, .inl (fun _ => 0))), (q35, .inr (0, [.ref q32, .ref q36, .ref q37, .ref q38, .ref q33, .ref q34, .int 2, .int 0, .int 0])), (q36, .inl (G.1, 5, .inl (tI [0, 1, 2, 3, 4]))), (q37, .inl (G.1, 25, .inl (tI [0, 0, 0, 0, 0, 0, 0, 0, 0, 0, 0, 0, 0, 0, 0, 0, 0, 0, 0, 0, 0, 0, 0, 0, 0]))), (q38, .inl (G.2.1, 10, .inr (.inl (tL [0, 1, 0, 1, 0, 1, 0, 1, 0, 1])))), (q39, .inr (3, [.ref q40, .ref q41, .ref q42, .int 0])), (q40, .inl (G.1, 8, .inl (fun _ => 0))), (q41, .inl (G.1, 4, .inl (fun _ => 0))), (q42, .inl (G.1, 3, .inl (fun _ => 0))), (q43, .inr (4, [.ref q44, .ref q45, .int 0])), (q44, .inl (G.1, 3, .inl (fun _ => 0))), (q45, .inl (G.1, 3, .inl (fun _ => 0))), (q46, .inr (9, [.ref q47, .ref q48, .ref q49, .ref q50, .ref q51, .int 0])), (q47, .inl (G.1, 20, .inl (fun _ => 0))), (q48, .inl (G.1, 20, .inl (fun _ => 0))), (q49, .inl (G.1, 20, .inl (fun _ => 0))), (q50, .inl (G.1, 20, .inl (fun _ => 0))), (q51, .inl (G.1, 160, .inl (fun _ => 0))), (q52, .inr (5, [.ref q53, .int 0])), (q53, .inl (G.1, 32, .inl (fun _ => 0)))] H := hP
  have hD : va_D A [(q1, .inr (11, [.ref q3, .ref q26, .ref q28, .ref q35, .ref q39, .ref q43, .ref q46, .ref q52])), (q3, .inr (8, [.ref q4, .ref q54, .ref q55, .ref q5, .ref q6, .int 0, .int 0, .int 9, .int 0, .int 0])), (q4, .inl (G.2.2.2.2, 4, .inr (.inr (.inr (.inr (va_up (va_up (va_up (va_up (fun _ => none) 0 (some q7)) 1 (some q56)) 2 (some q57)) 3 (some q58))))))), (q5, .inl (G.1, 16, .inl (fun _ => 0))), (q6, .inl (G.2.2.2.1, 16, .inl (fun _ => 0))), (q7, .inr (2, [.ref q8, .ref q9, .ref q10, .ref q11, .ref q12, .ref q13, .ref q14, .ref q15, .ref q23, .int 0, .int 0, .int 0, .int 0, .int 0, .int 0, .int 0])), (q8, .inl (G.1, 8, .inl (fun _ => 0))), (q9, .inl (G.1, 8, .inl (fun _ => 0))), (q10, .inl (G.1, 8, .inl (fun _ => 0))), (q11, .inl (G.1, 8, .inl (fun _ => 0))), (q12, .inl (G.1, 8, .inl (fun _ => 0))), (q13, .inl (G.1, 9, .inl (fun _ => 0))), (q14, .inl (G.1, 9, .inl (fun _ => 0))), (q15, .inr (1, [.ref q16, .ref q17, .ref q18, .ref q19, .ref q20, .ref q21, .ref q22, .int 0])), (q16, .inl (G.1, 8, .inl (fun _ => 0))), (q17, .inl (G.1, 8, .inl (fun _ => 0))), (q18, .inl (G.1, 8, .inl (fun _ => 0))), (q19, .inl (G.1, 8, .inl (fun _ => 0))), (q20, .inl (G.1, 8, .inl (fun _ => 0))), (q21, .inl (G.1, 8, .inl (fun _ => 0))), (q22, .inl (G.2.2.2.1, 8, .inl (fun _ => 0))), (q23, .inr (6, [.ref q24, .ref q25, .int 0, .int 0])), (q24, .inl (G.1, 60, .inl (fun _ => 0))), (q25, .inl (G.1, 80, .inl (fun _ => 0))), (q26, .inr (10, [.ref q27, .int 0])), (q27, .inl (G.1, 100, .inl (fun _ => 0))), (q28, .inr (7, [.ref q29, .ref q30, .ref q31, .int 0])), (q29, .inl (G.1, 80, .inl (fun _ => 0))), (q30, .inl (G.1, 3, .inl (fun _ => 0))), (q31, .inl (G.1, 3, .inl (fun _ => 0))), (q32, .inl (G.1, 40, .inl (fun _ => 0))), (q33, .inl (G.2.1, 10, .inr (.inl (fun _ => 0)))), (q34, .inl (G.1, 6, .inl (fun _ => 0))), (q35, .inr (0, [.ref q32, .ref q36, .ref q37, .ref q38, .ref q33, .ref q34, .int 2, .int 0, .int 0])), (q36, .inl (G.1, 5, .inl (tI [0, 1, 2, 3, 4]))), (q37, .inl (G.1, 25, .inl (tI [0, 0, 0, 0, 0, 0, 0, 0, 0, 0, 0, 0, 0, 0, 0, 0, 0, 0, 0, 0, 0, 0, 0, 0, 0]))), (q38, .inl (G.2.1, 10, .inr (.inl (tL [0, 1, 0, 1, 0, 1, 0, 1, 0, 1])))), (q39, .inr (3, [.ref q40, .ref q41, .ref q42, .int 0])), (q40, .inl (G.1, 8, .inl (fun _ => 0))), (q41, .inl (G.1, 4, .inl (fun _ => 0))), (q42, .inl (G.1, 3, .inl (fun _ => 0))), (q43, .inr (4, [.ref q44, .ref q45, .int 0])), (q44, .inl (G.1, 3, .inl (fun _ => 0))), (q45, .inl (G.1, 3, .inl (fun _ => 0))), (q46, .inr (9, [.ref q47, .ref q48, .ref q49, .ref q50, .ref q51, .int 0])), (q47, .inl (G.1, 20, .inl (fun _ => 0))), (q48, .inl (G.1, 20, .inl (fun _ => 0))), (q49, .inl (G.1, 20, .inl (fun _ => 0))), (q50, .inl (G.1, 20, .inl (fun _ => 0))), (q51, .inl (G.1, 160, .inl (fun _ => 0))), (q52, .inr (5, [.ref q53, .int 0])), (q53, .inl (G.1, 32, .inl (fun _ => 0)))] := hD
  refine W.widen (k := 147) (n := 2351) (by omega) (by omega) ?_
  refine lv_astore_n (lv' := [(1, .ref q1), (0, .ref b)]) hx hb dL_law_7 rfl hl (by decide) rfl (fun ls hl => ?_)
  refine va_new (ci := 12) (fs := [.null, .null, .null, .null, .null, .null, .null, .null, .null, .null, .null, .null, .int 0, .null, .null, .null, .int 0, .int 0, .int 0, .null, .null, .null, .int 0, .int 0, .null, .null, .null, .null, .int 0, .null, .int 0, .null, .null, .null, .null, .int 0, .null, .int 0, .int 0, .null, .null, .null, .null, .int 0, .int 0, .int 0, .int 0, .null, .int 0, .null, .null, .null, .null, .int 0, .null, .null, .null, .null, .int 0, .null, .null, .null]) (C := RX12) (T := TX12) (N := 62) hx hb hts inlX12 tyX12 tyX12_ok hown (hts (.classLink RL 28 RX12) mL_law_w3) (hts (.instantiable RX12 62) mL_law_w4) (hts (.initialized RX12) mL_law_w5) hK hP hD hS hA rfl (fun j hj => by rcases (show j = 0 ∨ j = 1 ∨ j = 2 ∨ j = 3 ∨ j = 4 ∨ j = 5 ∨ j = 6 ∨ j = 7 ∨ j = 8 ∨ j = 9 ∨ j = 10 ∨ j = 11 ∨ j = 12 ∨ j = 13 ∨ j = 14 ∨ j = 15 ∨ j = 16 ∨ j = 17 ∨ j = 18 ∨ j = 19 ∨ j = 20 ∨ j = 21 ∨ j = 22 ∨ j = 23 ∨ j = 24 ∨ j = 25 ∨ j = 26 ∨ j = 27 ∨ j = 28 ∨ j = 29 ∨ j = 30 ∨ j = 31 ∨ j = 32 ∨ j = 33 ∨ j = 34 ∨ j = 35 ∨ j = 36 ∨ j = 37 ∨ j = 38 ∨ j = 39 ∨ j = 40 ∨ j = 41 ∨ j = 42 ∨ j = 43 ∨ j = 44 ∨ j = 45 ∨ j = 46 ∨ j = 47 ∨ j = 48 ∨ j = 49 ∨ j = 50 ∨ j = 51 ∨ j = 52 ∨ j = 53 ∨ j = 54 ∨ j = 55 ∨ j = 56 ∨ j = 57 ∨ j = 58 ∨ j = 59 ∨ j = 60 ∨ j = 61 by omega) with rfl | rfl | rfl | rfl | rfl | rfl | rfl | rfl | rfl | rfl | rfl | rfl | rfl | rfl | rfl | rfl | rfl | rfl | rfl | rfl | rfl | rfl | rfl | rfl | rfl | rfl | rfl | rfl | rfl | rfl | rfl | rfl | rfl | rfl | rfl | rfl | rfl | rfl | rfl | rfl | rfl | rfl | rfl | rfl | rfl | rfl | rfl | rfl | rfl | rfl | rfl | rfl | rfl | rfl | rfl | rfl | rfl | rfl | rfl | rfl | rfl | rfl <;> rfl) (Nat.le_of_ble_eq_true rfl) (Nat.le_of_ble_eq_true rfl) dL_law_8 (fun q59 H hP hD hS => ?_)
  have hP : va_P D vwCl [(q1, .inr (11, [.ref q3, .ref q26, .ref q28, .ref q35, .ref q39, .ref q43, .ref q46, .ref q52])), (q3, .inr (8, [.ref q4, .ref q54, .ref q55, .ref q5, .ref q6, .int 0, .int 0, .int 9, .int 0, .int 0])), (q4, .inl (G.2.2.2.2, 4, .inr (.inr (.inr (.inr (va_up (va_up (va_up (va_up (fun _ => none) 0 (some q7)) 1 (some q56)) 2 (some q57)) 3 (some q58))))))), (q5, .inl (G.1, 16, .inl (fun _ => 0))), (q6, .inl (G.2.2.2.1, 16, .inl (fun _ => 0))), (q7, .inr (2, [.ref q8, .ref q9, .ref q10, .ref q11, .ref q12, .ref q13, .ref q14, .ref q15, .ref q23, .int 0, .int 0, .int 0, .int 0, .int 0, .int 0, .int 0])), (q8, .inl (G.1, 8, .inl (fun _ => 0))), (q9, .inl (G.1, 8, .inl (fun _ => 0))), (q10, .inl (G.1, 8, .inl (fun _ => 0))), (q11, .inl (G.1, 8, .inl (fun _ => 0))), (q12, .inl (G.1, 8, .inl (fun _ => 0))), (q13, .inl (G.1, 9, .inl (fun _ => 0))), (q14, .inl (G.1, 9, .inl (fun _ => 0))), (q15, .inr (1, [.ref q16, .ref q17, .ref q18, .ref q19, .ref q20, .ref q21, .ref q22, .int 0])), (q16, .inl (G.1, 8, .inl (fun _ => 0))), (q17, .inl (G.1, 8, .inl (fun _ => 0))), (q18, .inl (G.1, 8, .inl (fun _ => 0))), (q19, .inl (G.1, 8, .inl (fun _ => 0))), (q20, .inl (G.1, 8, .inl (fun _ => 0))), (q21, .inl (G.1, 8, .inl (fun _ => 0))), (q22, .inl (G.2.2.2.1, 8, .inl (fun _ => 0))), (q23, .inr (6, [.ref q24, .ref q25, .int 0, .int 0])), (q24, .inl (G.1, 60, .inl (fun _ => 0))), (q25, .inl (G.1, 80, .inl (fun _ => 0))), (q26, .inr (10, [.ref q27, .int 0])), (q27, .inl (G.1, 100, .inl (fun _ => 0))), (q28, .inr (7, [.ref q29, .ref q30, .ref q31, .int 0])), (q29, .inl (G.1, 80, .inl (fun _ => 0))), (q30, .inl (G.1, 3, .inl (fun _ => 0))), (q31, .inl (G.1, 3, .inl (fun _ => 0))), (q32, .inl (G.1, 40, .inl (fun _ => 0))), (q33, .inl (G.2.1, 10, .inr (.inl (fun _ => 0)))), (q34, .inl (G.1, 6, .inl (fun _ => 0))), (q35, .inr (0, [.ref q32, .ref q36, .ref q37, .ref q38, .ref q33, .ref q34, .int 2, .int 0, .int 0])), (q36, .inl (G.1, 5, .inl (tI [0, 1, 2, 3, 4]))), (q37, .inl (G.1, 25, .inl (tI [0, 0, 0, 0, 0, 0, 0, 0, 0, 0, 0, 0, 0, 0, 0, 0, 0, 0, 0, 0, 0, 0, 0, 0, 0]))), (q38, .inl (G.2.1, 10, .inr (.inl (tL [0, 1, 0, 1, 0, 1, 0, 1, 0, 1])))), (q39, .inr (3, [.ref q40, .ref q41, .ref q42, .int 0])), (q40, .inl (G.1, 8, .inl (fun _ => 0))), (q41, .inl (G.1, 4, .inl (fun _ => 0))), (q42, .inl (G.1, 3, .inl (fun _ => 0))), (q43, .inr (4, [.ref q44, .ref q45, .int 0])), (q44, .inl (G.1, 3, .inl (fun _ => 0))), (q45, .inl (G.1, 3, .inl (fun _ => 0))), (q46, .inr (9, [.ref q47, .ref q48, .ref q49, .ref q50, .ref q51, .int 0])), (q47, .inl (G.1, 20, .inl (fun _ => 0))), (q48, .inl (G.1, 20, .inl (fun _ => 0))), (q49, .inl (G.1, 20, .inl (fun _ => 0))), (q50, .inl (G.1, 20, .inl (fun _ => 0))), (q51, .inl (G.1, 160, .inl (fun _ => 0))), (q52, .inr (5, [.ref q53, .int 0])), (q53, .inl (G.1, 32, .inl (fun _ => 0))), (q59, .inr (12, [.null, .null, .null, .null, .null, .null, .null, .null, .null, .null, .null, .null, .int 0, .null, .null, .null, .int 0, .int 0, .int 0, .null, .null, .null, .int 0, .int 0, .null, .null, .null, .null, .int 0, .null, .int 0, .null, .null, .null, .null, .int 0, .null, .int 0, .int 0, .null, .null, .null, .null, .int 0, .int 0, .int 0, .int 0, .null, .int 0, .null, .null, .null, .null, .int 0, .null, .null, .null, .null, .int 0, .null, .null, .null]))] H := hP
  have hD : va_D A [(q1, .inr (11, [.ref q3, .ref q26, .ref q28, .ref q35, .ref q39, .ref q43, .ref q46, .ref q52])), (q3, .inr (8, [.ref q4, .ref q54, .ref q55, .ref q5, .ref q6, .int 0, .int 0, .int 9, .int 0, .int 0])), (q4, .inl (G.2.2.2.2, 4, .inr (.inr (.inr (.inr (va_up (va_up (va_up (va_up (fun _ => none) 0 (some q7)) 1 (some q56)) 2 (some q57)) 3 (some q58))))))), (q5, .inl (G.1, 16, .inl (fun _ => 0))), (q6, .inl (G.2.2.2.1, 16, .inl (fun _ => 0))), (q7, .inr (2, [.ref q8, .ref q9, .ref q10, .ref q11, .ref q12, .ref q13, .ref q14, .ref q15, .ref q23, .int 0, .int 0, .int 0, .int 0, .int 0, .int 0, .int 0])), (q8, .inl (G.1, 8, .inl (fun _ => 0))), (q9, .inl (G.1, 8, .inl (fun _ => 0))), (q10, .inl (G.1, 8, .inl (fun _ => 0))), (q11, .inl (G.1, 8, .inl (fun _ => 0))), (q12, .inl (G.1, 8, .inl (fun _ => 0))), (q13, .inl (G.1, 9, .inl (fun _ => 0))), (q14, .inl (G.1, 9, .inl (fun _ => 0))), (q15, .inr (1, [.ref q16, .ref q17, .ref q18, .ref q19, .ref q20, .ref q21, .ref q22, .int 0])), (q16, .inl (G.1, 8, .inl (fun _ => 0))), (q17, .inl (G.1, 8, .inl (fun _ => 0))), (q18, .inl (G.1, 8, .inl (fun _ => 0))), (q19, .inl (G.1, 8, .inl (fun _ => 0))), (q20, .inl (G.1, 8, .inl (fun _ => 0))), (q21, .inl (G.1, 8, .inl (fun _ => 0))), (q22, .inl (G.2.2.2.1, 8, .inl (fun _ => 0))), (q23, .inr (6, [.ref q24, .ref q25, .int 0, .int 0])), (q24, .inl (G.1, 60, .inl (fun _ => 0))), (q25, .inl (G.1, 80, .inl (fun _ => 0))), (q26, .inr (10, [.ref q27, .int 0])), (q27, .inl (G.1, 100, .inl (fun _ => 0))), (q28, .inr (7, [.ref q29, .ref q30, .ref q31, .int 0])), (q29, .inl (G.1, 80, .inl (fun _ => 0))), (q30, .inl (G.1, 3, .inl (fun _ => 0))), (q31, .inl (G.1, 3, .inl (fun _ => 0))), (q32, .inl (G.1, 40, .inl (fun _ => 0))), (q33, .inl (G.2.1, 10, .inr (.inl (fun _ => 0)))), (q34, .inl (G.1, 6, .inl (fun _ => 0))), (q35, .inr (0, [.ref q32, .ref q36, .ref q37, .ref q38, .ref q33, .ref q34, .int 2, .int 0, .int 0])), (q36, .inl (G.1, 5, .inl (tI [0, 1, 2, 3, 4]))), (q37, .inl (G.1, 25, .inl (tI [0, 0, 0, 0, 0, 0, 0, 0, 0, 0, 0, 0, 0, 0, 0, 0, 0, 0, 0, 0, 0, 0, 0, 0, 0]))), (q38, .inl (G.2.1, 10, .inr (.inl (tL [0, 1, 0, 1, 0, 1, 0, 1, 0, 1])))), (q39, .inr (3, [.ref q40, .ref q41, .ref q42, .int 0])), (q40, .inl (G.1, 8, .inl (fun _ => 0))), (q41, .inl (G.1, 4, .inl (fun _ => 0))), (q42, .inl (G.1, 3, .inl (fun _ => 0))), (q43, .inr (4, [.ref q44, .ref q45, .int 0])), (q44, .inl (G.1, 3, .inl (fun _ => 0))), (q45, .inl (G.1, 3, .inl (fun _ => 0))), (q46, .inr (9, [.ref q47, .ref q48, .ref q49, .ref q50, .ref q51, .int 0])), (q47, .inl (G.1, 20, .inl (fun _ => 0))), (q48, .inl (G.1, 20, .inl (fun _ => 0))), (q49, .inl (G.1, 20, .inl (fun _ => 0))), (q50, .inl (G.1, 20, .inl (fun _ => 0))), (q51, .inl (G.1, 160, .inl (fun _ => 0))), (q52, .inr (5, [.ref q53, .int 0])), (q53, .inl (G.1, 32, .inl (fun _ => 0))), (q59, .inr (12, [.null, .null, .null, .null, .null, .null, .null, .null, .null, .null, .null, .null, .int 0, .null, .null, .null, .int 0, .int 0, .int 0, .null, .null, .null, .int 0, .int 0, .null, .null, .null, .null, .int 0, .null, .int 0, .null, .null, .null, .null, .int 0, .null, .int 0, .int 0, .null, .null, .null, .null, .int 0, .int 0, .int 0, .int 0, .null, .int 0, .null, .null, .null, .null, .int 0, .null, .null, .null, .null, .int 0, .null, .null, .null]))] := hD
  refine W.widen (k := 148) (n := 2413) (by omega) (by omega) ?_
  refine lv_dup hx hb dL_law_11 rfl ?_
  have hPc := hP.sub (ws' := [(q59, .inr (12, [.null, .null, .null, .null, .null, .null, .null, .null, .null, .null, .null, .null, .int 0, .null, .null, .null, .int 0, .int 0, .int 0, .null, .null, .null, .int 0, .int 0, .null, .null, .null, .null, .int 0, .null, .int 0, .null, .null, .null, .null, .int 0, .null, .int 0, .int 0, .null, .null, .null, .null, .int 0, .int 0, .int 0, .int 0, .null, .int 0, .null, .null, .null, .null, .int 0, .null, .null, .null, .null, .int 0, .null, .null, .null]))]) [52] rfl
  have hDc := hD.sub (ws' := [(q59, .inr (12, [.null, .null, .null, .null, .null, .null, .null, .null, .null, .null, .null, .null, .int 0, .null, .null, .null, .int 0, .int 0, .int 0, .null, .null, .null, .int 0, .int 0, .null, .null, .null, .null, .int 0, .null, .int 0, .null, .null, .null, .null, .int 0, .null, .int 0, .int 0, .null, .null, .null, .null, .int 0, .int 0, .int 0, .int 0, .null, .int 0, .null, .null, .null, .null, .int 0, .null, .null, .null, .null, .int 0, .null, .null, .null]))]) [52] (by decide) rfl
  have hFc := va_free (wc := [(q59, .inr (12, [.null, .null, .null, .null, .null, .null, .null, .null, .null, .null, .null, .null, .int 0, .null, .null, .null, .int 0, .int 0, .int 0, .null, .null, .null, .int 0, .int 0, .null, .null, .null, .null, .int 0, .null, .int 0, .null, .null, .null, .null, .int 0, .null, .int 0, .int 0, .null, .null, .null, .null, .int 0, .int 0, .int 0, .int 0, .null, .int 0, .null, .null, .null, .null, .int 0, .null, .null, .null, .null, .int 0, .null, .null, .null]))]) hD hS hA [52] rfl
  refine va_callv (va_runI (As := []) (rest := [.ref q59]) ⟨hx, hb, hml, hown, hts⟩ (kX12_init l D G q59 H.size) (cwI 0 hts gL_law_X12_init rfl rfl rfl (hts (.initialized RX12) mL_law_w5) (hts (.methodLink RL 30 yX12_init) mL_law_w146) (hts (.instanceMethod yX12_init) mL_law_w147) rfl (by decide +kernel) ⟨Nat.le_of_ble_eq_true rfl, Nat.le_of_ble_eq_true rfl⟩) ⟨wB_blind, wB_pre hPc hK hDc hN⟩ rfl rfl hl.1 rfl (lv_room (Nat.le_of_ble_eq_true rfl)) dL_law_12 ⟨Nat.le_of_ble_eq_true rfl, Nat.le_of_ble_eq_true rfl⟩) hS (fun q _ h => hFc q h) hFc (fun u t H1 locs ht hvm hr60 hB hz1 hk1 hS => ?_)
  obtain ⟨q61, q62, q63, q64, q65, q66, q67, q68, q69, q70, q71, q72, q73, q74, q75, q76, q77, q78, q79, q80, q81, q82, q83, q84, q85, q86, q87, q88, q89, q90, q91, q92, q93, q94, q95, q96, q97, q98, q99, q100, q101, q102, q103, q104, hP1, hK1, hD1⟩ := hB
  rw [ht] at hP1
  obtain ⟨hP, hD⟩ := va_join (wr := [(q1, .inr (11, [.ref q3, .ref q26, .ref q28, .ref q35, .ref q39, .ref q43, .ref q46, .ref q52])), (q3, .inr (8, [.ref q4, .ref q54, .ref q55, .ref q5, .ref q6, .int 0, .int 0, .int 9, .int 0, .int 0])), (q4, .inl (G.2.2.2.2, 4, .inr (.inr (.inr (.inr (va_up (va_up (va_up (va_up (fun _ => none) 0 (some q7)) 1 (some q56)) 2 (some q57)) 3 (some q58))))))), (q5, .inl (G.1, 16, .inl (fun _ => 0))), (q6, .inl (G.2.2.2.1, 16, .inl (fun _ => 0))), (q7, .inr (2, [.ref q8, .ref q9, .ref q10, .ref q11, .ref q12, .ref q13, .ref q14, .ref q15, .ref q23, .int 0, .int 0, .int 0, .int 0, .int 0, .int 0, .int 0])), (q8, .inl (G.1, 8, .inl (fun _ => 0))), (q9, .inl (G.1, 8, .inl (fun _ => 0))), (q10, .inl (G.1, 8, .inl (fun _ => 0))), (q11, .inl (G.1, 8, .inl (fun _ => 0))), (q12, .inl (G.1, 8, .inl (fun _ => 0))), (q13, .inl (G.1, 9, .inl (fun _ => 0))), (q14, .inl (G.1, 9, .inl (fun _ => 0))), (q15, .inr (1, [.ref q16, .ref q17, .ref q18, .ref q19, .ref q20, .ref q21, .ref q22, .int 0])), (q16, .inl (G.1, 8, .inl (fun _ => 0))), (q17, .inl (G.1, 8, .inl (fun _ => 0))), (q18, .inl (G.1, 8, .inl (fun _ => 0))), (q19, .inl (G.1, 8, .inl (fun _ => 0))), (q20, .inl (G.1, 8, .inl (fun _ => 0))), (q21, .inl (G.1, 8, .inl (fun _ => 0))), (q22, .inl (G.2.2.2.1, 8, .inl (fun _ => 0))), (q23, .inr (6, [.ref q24, .ref q25, .int 0, .int 0])), (q24, .inl (G.1, 60, .inl (fun _ => 0))), (q25, .inl (G.1, 80, .inl (fun _ => 0))), (q26, .inr (10, [.ref q27, .int 0])), (q27, .inl (G.1, 100, .inl (fun _ => 0))), (q28, .inr (7, [.ref q29, .ref q30, .ref q31, .int 0])), (q29, .inl (G.1, 80, .inl (fun _ => 0))), (q30, .inl (G.1, 3, .inl (fun _ => 0))), (q31, .inl (G.1, 3, .inl (fun _ => 0))), (q32, .inl (G.1, 40, .inl (fun _ => 0))), (q33, .inl (G.2.1, 10, .inr (.inl (fun _ => 0)))), (q34, .inl (G.1, 6, .inl (fun _ => 0))), (q35, .inr (0, [.ref q32, .ref q36, .ref q37, .ref q38, .ref q33, .ref q34, .int 2, .int 0, .int 0])), (q36, .inl (G.1, 5, .inl (tI [0, 1, 2, 3, 4]))), (q37, .inl (G.1, 25, .inl (tI [0, 0, 0, 0, 0, 0, 0, 0, 0, 0, 0, 0, 0, 0, 0, 0, 0, 0, 0, 0, 0, 0, 0, 0, 0]))), (q38, .inl (G.2.1, 10, .inr (.inl (tL [0, 1, 0, 1, 0, 1, 0, 1, 0, 1])))), (q39, .inr (3, [.ref q40, .ref q41, .ref q42, .int 0])), (q40, .inl (G.1, 8, .inl (fun _ => 0))), (q41, .inl (G.1, 4, .inl (fun _ => 0))), (q42, .inl (G.1, 3, .inl (fun _ => 0))), (q43, .inr (4, [.ref q44, .ref q45, .int 0])), (q44, .inl (G.1, 3, .inl (fun _ => 0))), (q45, .inl (G.1, 3, .inl (fun _ => 0))), (q46, .inr (9, [.ref q47, .ref q48, .ref q49, .ref q50, .ref q51, .int 0])), (q47, .inl (G.1, 20, .inl (fun _ => 0))), (q48, .inl (G.1, 20, .inl (fun _ => 0))), (q49, .inl (G.1, 20, .inl (fun _ => 0))), (q50, .inl (G.1, 20, .inl (fun _ => 0))), (q51, .inl (G.1, 160, .inl (fun _ => 0))), (q52, .inr (5, [.ref q53, .int 0])), (q53, .inl (G.1, 32, .inl (fun _ => 0)))]) (w1 := [(q61, .inl (G.1, 4, .inl (fun _ => 0))), (q62, .inl (G.1, 32, .inl (fun _ => 0))), (q63, .inl (G.1, 32, .inl (fun _ => 0))), (q64, .inl (G.1, 32, .inl (fun _ => 0))), (q65, .inl (G.1, 32, .inl (fun _ => 0))), (q66, .inl (G.1, 32, .inl (fun _ => 0))), (q67, .inl (G.1, 169, .inl (fun _ => 0))), (q68, .inl (G.2.2.1, 100, .inl (fun _ => 0))), (q69, .inl (G.1, 40, .inl (fun _ => 0))), (q70, .inl (G.1, 40, .inl (fun _ => 0))), (q71, .inl (G.1, 40, .inl (fun _ => 0))), (q72, .inl (G.1, 8, .inl (fun _ => 0))), (q73, .inl (G.1, 64, .inl (fun _ => 0))), (q74, .inl (G.1, 6, .inl (fun _ => 0))), (q75, .inl (G.2.1, 25, .inr (.inl (fun _ => 0)))), (q76, .inl (G.2.1, 25, .inr (.inl (fun _ => 0)))), (q77, .inl (G.2.1, 51200, .inr (.inl (fun _ => 0)))), (q78, .inl (G.1, 2304, .inl (fun _ => 0))), (q79, .inl (G.1, 4, .inl (fun _ => 0))), (q59, .inr (12, [.ref q61, .ref q62, .ref q63, .ref q64, .ref q65, .ref q66, .ref q81, .ref q82, .ref q83, .ref q84, .ref q85, .ref q86, .int 0, .ref q87, .ref q88, .ref q89, .int 9, .int 0, .int 0, .ref q67, .ref q90, .ref q68, .int 0, .int 2, .ref q80, .ref q69, .ref q70, .ref q71, .int 0, .ref q72, .int 0, .ref q91, .ref q92, .ref q93, .ref q94, .int 0, .ref q73, .int 0, .int 0, .ref q95, .ref q96, .ref q97, .ref q98, .int 0, .int 0, .int 0, .int 0, .ref q99, .int 0, .ref q100, .ref q101, .ref q102, .ref q103, .int 0, .ref q74, .ref q75, .ref q76, .ref q77, .int 0, .ref q78, .ref q79, .ref q104])), (q80, .inl (G.1, 5, .inl (tI [0, 1, 2, 3, 4])))]) hP hD [52] [0, 1, 2, 3, 4, 5, 6, 7, 8, 9, 10, 11, 12, 13, 14, 15, 16, 17, 18, 19, 20, 21, 22, 23, 24, 25, 26, 27, 28, 29, 30, 31, 32, 33, 34, 35, 36, 37, 38, 39, 40, 41, 42, 43, 44, 45, 46, 47, 48, 49, 50, 51] rfl rfl (by decide) (by decide) hk1 hFc hP1 hD1
  clear hPc hDc
  generalize H1 = H at hP hS ⊢
  have hP : va_P D vwCl [(q1, .inr (11, [.ref q3, .ref q26, .ref q28, .ref q35, .ref q39, .ref q43, .ref q46, .ref q52])), (q3, .inr (8, [.ref q4, .ref q54, .ref q55, .ref q5, .ref q6, .int 0, .int 0, .int 9, .int 0, .int 0])), (q4, .inl (G.2.2.2.2, 4, .inr (.inr (.inr (.inr (va_up (va_up (va_up (va_up (fun _ => none) 0 (some q7)) 1 (some q56)) 2 (some q57)) 3 (some q58))))))), (q5, .inl (G.1, 16, .inl (fun _ => 0))), (q6, .inl (G.2.2.2.1, 16, .inl (fun _ => 0))), (q7, .inr (2, [.ref q8, .ref q9, .ref q10, .ref q11, .ref q12, .ref q13, .ref q14, .ref q15, .ref q23, .int 0, .int 0, .int 0, .int 0, .int 0, .int 0, .int 0])), (q8, .inl (G.1, 8, .inl (fun _ => 0))), (q9, .inl (G.1, 8, .inl (fun _ => 0))), (q10, .inl (G.1, 8, .inl (fun _ => 0))), (q11, .inl (G.1, 8, .inl (fun _ => 0))), (q12, .inl (G.1, 8, .inl (fun _ => 0))), (q13, .inl (G.1, 9, .inl (fun _ => 0))), (q14, .inl (G.1, 9, .inl (fun _ => 0))), (q15, .inr (1, [.ref q16, .ref q17, .ref q18, .ref q19, .ref q20, .ref q21, .ref q22, .int 0])), (q16, .inl (G.1, 8, .inl (fun _ => 0))), (q17, .inl (G.1, 8, .inl (fun _ => 0))), (q18, .inl (G.1, 8, .inl (fun _ => 0))), (q19, .inl (G.1, 8, .inl (fun _ => 0))), (q20, .inl (G.1, 8, .inl (fun _ => 0))), (q21, .inl (G.1, 8, .inl (fun _ => 0))), (q22, .inl (G.2.2.2.1, 8, .inl (fun _ => 0))), (q23, .inr (6, [.ref q24, .ref q25, .int 0, .int 0])), (q24, .inl (G.1, 60, .inl (fun _ => 0))), (q25, .inl (G.1, 80, .inl (fun _ => 0))), (q26, .inr (10, [.ref q27, .int 0])), (q27, .inl (G.1, 100, .inl (fun _ => 0))), (q28, .inr (7, [.ref q29, .ref q30, .ref q31, .int 0])), (q29, .inl (G.1, 80, .inl (fun _ => 0))), (q30, .inl (G.1, 3, .inl (fun _ => 0))), (q31, .inl (G.1, 3, .inl (fun _ => 0))), (q32, .inl (G.1, 40, .inl (fun _ => 0))), (q33, .inl (G.2.1, 10, .inr (.inl (fun _ => 0)))), (q34, .inl (G.1, 6, .inl (fun _ => 0))), (q35, .inr (0, [.ref q32, .ref q36, .ref q37, .ref q38, .ref q33, .ref q34, .int 2, .int 0, .int 0])), (q36, .inl (G.1, 5, .inl (tI [0, 1, 2, 3, 4]))), (q37, .inl (G.1, 25, .inl (tI [0, 0, 0, 0, 0, 0, 0, 0, 0, 0, 0, 0, 0, 0, 0, 0, 0, 0, 0, 0, 0, 0, 0, 0, 0]))), (q38, .inl (G.2.1, 10, .inr (.inl (tL [0, 1, 0, 1, 0, 1, 0, 1, 0, 1])))), (q39, .inr (3, [.ref q40, .ref q41, .ref q42, .int 0])), (q40, .inl (G.1, 8, .inl (fun _ => 0))), (q41, .inl (G.1, 4, .inl (fun _ => 0))), (q42, .inl (G.1, 3, .inl (fun _ => 0))), (q43, .inr (4, [.ref q44, .ref q45, .int 0])), (q44, .inl (G.1, 3, .inl (fun _ => 0))), (q45, .inl (G.1, 3, .inl (fun _ => 0))), (q46, .inr (9, [.ref q47, .ref q48, .ref q49, .ref q50, .ref q51, .int 0])), (q47, .inl (G.1, 20, .inl (fun _ => 0))), (q48, .inl (G.1, 20, .inl (fun _ => 0))), (q49, .inl (G.1, 20, .inl (fun _ => 0))), (q50, .inl (G.1, 20, .inl (fun _ => 0))), (q51, .inl (G.1, 160, .inl (fun _ => 0))), (q52, .inr (5, [.ref q53, .int 0])), (q53, .inl (G.1, 32, .inl (fun _ => 0))), (q61, .inl (G.1, 4, .inl (fun _ => 0))), (q62, .inl (G.1, 32, .inl (fun _ => 0))), (q63, .inl (G.1, 32, .inl (fun _ => 0))), (q64, .inl (G.1, 32, .inl (fun _ => 0))), (q65, .inl (G.1, 32, .inl (fun _ => 0))), (q66, .inl (G.1, 32, .inl (fun _ => 0))), (q67, .inl (G.1, 169, .inl (fun _ => 0))), (q68, .inl (G.2.2.1, 100, .inl (fun _ => 0))), (q69, .inl (G.1, 40, .inl (fun _ => 0))), (q70, .inl (G.1, 40, .inl (fun _ => 0))), (q71, .inl (G.1, 40, .inl (fun _ => 0))), (q72, .inl (G.1, 8, .inl (fun _ => 0))), (q73, .inl (G.1, 64, .inl (fun _ => 0))), (q74, .inl (G.1, 6, .inl (fun _ => 0))), (q75, .inl (G.2.1, 25, .inr (.inl (fun _ => 0)))), (q76, .inl (G.2.1, 25, .inr (.inl (fun _ => 0)))), (q77, .inl (G.2.1, 51200, .inr (.inl (fun _ => 0)))), (q78, .inl (G.1, 2304, .inl (fun _ => 0))), (q79, .inl (G.1, 4, .inl (fun _ => 0))), (q59, .inr (12, [.ref q61, .ref q62, .ref q63, .ref q64, .ref q65, .ref q66, .ref q81, .ref q82, .ref q83, .ref q84, .ref q85, .ref q86, .int 0, .ref q87, .ref q88, .ref q89, .int 9, .int 0, .int 0, .ref q67, .ref q90, .ref q68, .int 0, .int 2, .ref q80, .ref q69, .ref q70, .ref q71, .int 0, .ref q72, .int 0, .ref q91, .ref q92, .ref q93, .ref q94, .int 0, .ref q73, .int 0, .int 0, .ref q95, .ref q96, .ref q97, .ref q98, .int 0, .int 0, .int 0, .int 0, .ref q99, .int 0, .ref q100, .ref q101, .ref q102, .ref q103, .int 0, .ref q74, .ref q75, .ref q76, .ref q77, .int 0, .ref q78, .ref q79, .ref q104])), (q80, .inl (G.1, 5, .inl (tI [0, 1, 2, 3, 4])))] H := hP
  have hD : va_D A [(q1, .inr (11, [.ref q3, .ref q26, .ref q28, .ref q35, .ref q39, .ref q43, .ref q46, .ref q52])), (q3, .inr (8, [.ref q4, .ref q54, .ref q55, .ref q5, .ref q6, .int 0, .int 0, .int 9, .int 0, .int 0])), (q4, .inl (G.2.2.2.2, 4, .inr (.inr (.inr (.inr (va_up (va_up (va_up (va_up (fun _ => none) 0 (some q7)) 1 (some q56)) 2 (some q57)) 3 (some q58))))))), (q5, .inl (G.1, 16, .inl (fun _ => 0))), (q6, .inl (G.2.2.2.1, 16, .inl (fun _ => 0))), (q7, .inr (2, [.ref q8, .ref q9, .ref q10, .ref q11, .ref q12, .ref q13, .ref q14, .ref q15, .ref q23, .int 0, .int 0, .int 0, .int 0, .int 0, .int 0, .int 0])), (q8, .inl (G.1, 8, .inl (fun _ => 0))), (q9, .inl (G.1, 8, .inl (fun _ => 0))), (q10, .inl (G.1, 8, .inl (fun _ => 0))), (q11, .inl (G.1, 8, .inl (fun _ => 0))), (q12, .inl (G.1, 8, .inl (fun _ => 0))), (q13, .inl (G.1, 9, .inl (fun _ => 0))), (q14, .inl (G.1, 9, .inl (fun _ => 0))), (q15, .inr (1, [.ref q16, .ref q17, .ref q18, .ref q19, .ref q20, .ref q21, .ref q22, .int 0])), (q16, .inl (G.1, 8, .inl (fun _ => 0))), (q17, .inl (G.1, 8, .inl (fun _ => 0))), (q18, .inl (G.1, 8, .inl (fun _ => 0))), (q19, .inl (G.1, 8, .inl (fun _ => 0))), (q20, .inl (G.1, 8, .inl (fun _ => 0))), (q21, .inl (G.1, 8, .inl (fun _ => 0))), (q22, .inl (G.2.2.2.1, 8, .inl (fun _ => 0))), (q23, .inr (6, [.ref q24, .ref q25, .int 0, .int 0])), (q24, .inl (G.1, 60, .inl (fun _ => 0))), (q25, .inl (G.1, 80, .inl (fun _ => 0))), (q26, .inr (10, [.ref q27, .int 0])), (q27, .inl (G.1, 100, .inl (fun _ => 0))), (q28, .inr (7, [.ref q29, .ref q30, .ref q31, .int 0])), (q29, .inl (G.1, 80, .inl (fun _ => 0))), (q30, .inl (G.1, 3, .inl (fun _ => 0))), (q31, .inl (G.1, 3, .inl (fun _ => 0))), (q32, .inl (G.1, 40, .inl (fun _ => 0))), (q33, .inl (G.2.1, 10, .inr (.inl (fun _ => 0)))), (q34, .inl (G.1, 6, .inl (fun _ => 0))), (q35, .inr (0, [.ref q32, .ref q36, .ref q37, .ref q38, .ref q33, .ref q34, .int 2, .int 0, .int 0])), (q36, .inl (G.1, 5, .inl (tI [0, 1, 2, 3, 4]))), (q37, .inl (G.1, 25, .inl (tI [0, 0, 0, 0, 0, 0, 0, 0, 0, 0, 0, 0, 0, 0, 0, 0, 0, 0, 0, 0, 0, 0, 0, 0, 0]))), (q38, .inl (G.2.1, 10, .inr (.inl (tL [0, 1, 0, 1, 0, 1, 0, 1, 0, 1])))), (q39, .inr (3, [.ref q40, .ref q41, .ref q42, .int 0])), (q40, .inl (G.1, 8, .inl (fun _ => 0))), (q41, .inl (G.1, 4, .inl (fun _ => 0))), (q42, .inl (G.1, 3, .inl (fun _ => 0))), (q43, .inr (4, [.ref q44, .ref q45, .int 0])), (q44, .inl (G.1, 3, .inl (fun _ => 0))), (q45, .inl (G.1, 3, .inl (fun _ => 0))), (q46, .inr (9, [.ref q47, .ref q48, .ref q49, .ref q50, .ref q51, .int 0])), (q47, .inl (G.1, 20, .inl (fun _ => 0))), (q48, .inl (G.1, 20, .inl (fun _ => 0))), (q49, .inl (G.1, 20, .inl (fun _ => 0))), (q50, .inl (G.1, 20, .inl (fun _ => 0))), (q51, .inl (G.1, 160, .inl (fun _ => 0))), (q52, .inr (5, [.ref q53, .int 0])), (q53, .inl (G.1, 32, .inl (fun _ => 0))), (q61, .inl (G.1, 4, .inl (fun _ => 0))), (q62, .inl (G.1, 32, .inl (fun _ => 0))), (q63, .inl (G.1, 32, .inl (fun _ => 0))), (q64, .inl (G.1, 32, .inl (fun _ => 0))), (q65, .inl (G.1, 32, .inl (fun _ => 0))), (q66, .inl (G.1, 32, .inl (fun _ => 0))), (q67, .inl (G.1, 169, .inl (fun _ => 0))), (q68, .inl (G.2.2.1, 100, .inl (fun _ => 0))), (q69, .inl (G.1, 40, .inl (fun _ => 0))), (q70, .inl (G.1, 40, .inl (fun _ => 0))), (q71, .inl (G.1, 40, .inl (fun _ => 0))), (q72, .inl (G.1, 8, .inl (fun _ => 0))), (q73, .inl (G.1, 64, .inl (fun _ => 0))), (q74, .inl (G.1, 6, .inl (fun _ => 0))), (q75, .inl (G.2.1, 25, .inr (.inl (fun _ => 0)))), (q76, .inl (G.2.1, 25, .inr (.inl (fun _ => 0)))), (q77, .inl (G.2.1, 51200, .inr (.inl (fun _ => 0)))), (q78, .inl (G.1, 2304, .inl (fun _ => 0))), (q79, .inl (G.1, 4, .inl (fun _ => 0))), (q59, .inr (12, [.ref q61, .ref q62, .ref q63, .ref q64, .ref q65, .ref q66, .ref q81, .ref q82, .ref q83, .ref q84, .ref q85, .ref q86, .int 0, .ref q87, .ref q88, .ref q89, .int 9, .int 0, .int 0, .ref q67, .ref q90, .ref q68, .int 0, .int 2, .ref q80, .ref q69, .ref q70, .ref q71, .int 0, .ref q72, .int 0, .ref q91, .ref q92, .ref q93, .ref q94, .int 0, .ref q73, .int 0, .int 0, .ref q95, .ref q96, .ref q97, .ref q98, .int 0, .int 0, .int 0, .int 0, .ref q99, .int 0, .ref q100, .ref q101, .ref q102, .ref q103, .int 0, .ref q74, .ref q75, .ref q76, .ref q77, .int 0, .ref q78, .ref q79, .ref q104])), (q80, .inl (G.1, 5, .inl (tI [0, 1, 2, 3, 4])))] := hD
  refine W.widen (k := 192) (n := 177661) (by omega) (by omega) ?_
  refine lv_astore_n (lv' := [(2, .ref q59), (1, .ref q1), (0, .ref b)]) hx hb dL_law_15 rfl hl (by decide) rfl (fun ls hl => ?_)
  refine lv_iconst (v := 1) hx hb dL_law_16 (by decide) ?_
  refine wk_newL hx hb (hts (.arrayClass .long) mL_law_w6) hK hP hD hS hA 1 rfl 1 (by decide) (by decide) (by decide) (Nat.le_of_ble_eq_true rfl) (Nat.le_of_ble_eq_true rfl) dL_law_17 (fun q105 H hP hD hS => ?_)
  have hP : va_P D vwCl [(q1, .inr (11, [.ref q3, .ref q26, .ref q28, .ref q35, .ref q39, .ref q43, .ref q46, .ref q52])), (q3, .inr (8, [.ref q4, .ref q54, .ref q55, .ref q5, .ref q6, .int 0, .int 0, .int 9, .int 0, .int 0])), (q4, .inl (G.2.2.2.2, 4, .inr (.inr (.inr (.inr (va_up (va_up (va_up (va_up (fun _ => none) 0 (some q7)) 1 (some q56)) 2 (some q57)) 3 (some q58))))))), (q5, .inl (G.1, 16, .inl (fun _ => 0))), (q6, .inl (G.2.2.2.1, 16, .inl (fun _ => 0))), (q7, .inr (2, [.ref q8, .ref q9, .ref q10, .ref q11, .ref q12, .ref q13, .ref q14, .ref q15, .ref q23, .int 0, .int 0, .int 0, .int 0, .int 0, .int 0, .int 0])), (q8, .inl (G.1, 8, .inl (fun _ => 0))), (q9, .inl (G.1, 8, .inl (fun _ => 0))), (q10, .inl (G.1, 8, .inl (fun _ => 0))), (q11, .inl (G.1, 8, .inl (fun _ => 0))), (q12, .inl (G.1, 8, .inl (fun _ => 0))), (q13, .inl (G.1, 9, .inl (fun _ => 0))), (q14, .inl (G.1, 9, .inl (fun _ => 0))), (q15, .inr (1, [.ref q16, .ref q17, .ref q18, .ref q19, .ref q20, .ref q21, .ref q22, .int 0])), (q16, .inl (G.1, 8, .inl (fun _ => 0))), (q17, .inl (G.1, 8, .inl (fun _ => 0))), (q18, .inl (G.1, 8, .inl (fun _ => 0))), (q19, .inl (G.1, 8, .inl (fun _ => 0))), (q20, .inl (G.1, 8, .inl (fun _ => 0))), (q21, .inl (G.1, 8, .inl (fun _ => 0))), (q22, .inl (G.2.2.2.1, 8, .inl (fun _ => 0))), (q23, .inr (6, [.ref q24, .ref q25, .int 0, .int 0])), (q24, .inl (G.1, 60, .inl (fun _ => 0))), (q25, .inl (G.1, 80, .inl (fun _ => 0))), (q26, .inr (10, [.ref q27, .int 0])), (q27, .inl (G.1, 100, .inl (fun _ => 0))), (q28, .inr (7, [.ref q29, .ref q30, .ref q31, .int 0])), (q29, .inl (G.1, 80, .inl (fun _ => 0))), (q30, .inl (G.1, 3, .inl (fun _ => 0))), (q31, .inl (G.1, 3, .inl (fun _ => 0))), (q32, .inl (G.1, 40, .inl (fun _ => 0))), (q33, .inl (G.2.1, 10, .inr (.inl (fun _ => 0)))), (q34, .inl (G.1, 6, .inl (fun _ => 0))), (q35, .inr (0, [.ref q32, .ref q36, .ref q37, .ref q38, .ref q33, .ref q34, .int 2, .int 0, .int 0])), (q36, .inl (G.1, 5, .inl (tI [0, 1, 2, 3, 4]))), (q37, .inl (G.1, 25, .inl (tI [0, 0, 0, 0, 0, 0, 0, 0, 0, 0, 0, 0, 0, 0, 0, 0, 0, 0, 0, 0, 0, 0, 0, 0, 0]))), (q38, .inl (G.2.1, 10, .inr (.inl (tL [0, 1, 0, 1, 0, 1, 0, 1, 0, 1])))), (q39, .inr (3, [.ref q40, .ref q41, .ref q42, .int 0])), (q40, .inl (G.1, 8, .inl (fun _ => 0))), (q41, .inl (G.1, 4, .inl (fun _ => 0))), (q42, .inl (G.1, 3, .inl (fun _ => 0))), (q43, .inr (4, [.ref q44, .ref q45, .int 0])), (q44, .inl (G.1, 3, .inl (fun _ => 0))), (q45, .inl (G.1, 3, .inl (fun _ => 0))), (q46, .inr (9, [.ref q47, .ref q48, .ref q49, .ref q50, .ref q51, .int 0])), (q47, .inl (G.1, 20, .inl (fun _ => 0))), (q48, .inl (G.1, 20, .inl (fun _ => 0))), (q49, .inl (G.1, 20, .inl (fun _ => 0))), (q50, .inl (G.1, 20, .inl (fun _ => 0))), (q51, .inl (G.1, 160, .inl (fun _ => 0))), (q52, .inr (5, [.ref q53, .int 0])), (q53, .inl (G.1, 32, .inl (fun _ => 0))), (q61, .inl (G.1, 4, .inl (fun _ => 0))), (q62, .inl (G.1, 32, .inl (fun _ => 0))), (q63, .inl (G.1, 32, .inl (fun _ => 0))), (q64, .inl (G.1, 32, .inl (fun _ => 0))), (q65, .inl (G.1, 32, .inl (fun _ => 0))), (q66, .inl (G.1, 32, .inl (fun _ => 0))), (q67, .inl (G.1, 169, .inl (fun _ => 0))), (q68, .inl (G.2.2.1, 100, .inl (fun _ => 0))), (q69, .inl (G.1, 40, .inl (fun _ => 0))), (q70, .inl (G.1, 40, .inl (fun _ => 0))), (q71, .inl (G.1, 40, .inl (fun _ => 0))), (q72, .inl (G.1, 8, .inl (fun _ => 0))), (q73, .inl (G.1, 64, .inl (fun _ => 0))), (q74, .inl (G.1, 6, .inl (fun _ => 0))), (q75, .inl (G.2.1, 25, .inr (.inl (fun _ => 0)))), (q76, .inl (G.2.1, 25, .inr (.inl (fun _ => 0)))), (q77, .inl (G.2.1, 51200, .inr (.inl (fun _ => 0)))), (q78, .inl (G.1, 2304, .inl (fun _ => 0))), (q79, .inl (G.1, 4, .inl (fun _ => 0))), (q59, .inr (12, [.ref q61, .ref q62, .ref q63, .ref q64, .ref q65, .ref q66, .ref q81, .ref q82, .ref q83, .ref q84, .ref q85, .ref q86, .int 0, .ref q87, .ref q88, .ref q89, .int 9, .int 0, .int 0, .ref q67, .ref q90, .ref q68, .int 0, .int 2, .ref q80, .ref q69, .ref q70, .ref q71, .int 0, .ref q72, .int 0, .ref q91, .ref q92, .ref q93, .ref q94, .int 0, .ref q73, .int 0, .int 0, .ref q95, .ref q96, .ref q97, .ref q98, .int 0, .int 0, .int 0, .int 0, .ref q99, .int 0, .ref q100, .ref q101, .ref q102, .ref q103, .int 0, .ref q74, .ref q75, .ref q76, .ref q77, .int 0, .ref q78, .ref q79, .ref q104])), (q80, .inl (G.1, 5, .inl (tI [0, 1, 2, 3, 4]))), (q105, .inl (G.2.1, 1, .inr (.inl (fun _ => 0))))] H := hP
  have hD : va_D A [(q1, .inr (11, [.ref q3, .ref q26, .ref q28, .ref q35, .ref q39, .ref q43, .ref q46, .ref q52])), (q3, .inr (8, [.ref q4, .ref q54, .ref q55, .ref q5, .ref q6, .int 0, .int 0, .int 9, .int 0, .int 0])), (q4, .inl (G.2.2.2.2, 4, .inr (.inr (.inr (.inr (va_up (va_up (va_up (va_up (fun _ => none) 0 (some q7)) 1 (some q56)) 2 (some q57)) 3 (some q58))))))), (q5, .inl (G.1, 16, .inl (fun _ => 0))), (q6, .inl (G.2.2.2.1, 16, .inl (fun _ => 0))), (q7, .inr (2, [.ref q8, .ref q9, .ref q10, .ref q11, .ref q12, .ref q13, .ref q14, .ref q15, .ref q23, .int 0, .int 0, .int 0, .int 0, .int 0, .int 0, .int 0])), (q8, .inl (G.1, 8, .inl (fun _ => 0))), (q9, .inl (G.1, 8, .inl (fun _ => 0))), (q10, .inl (G.1, 8, .inl (fun _ => 0))), (q11, .inl (G.1, 8, .inl (fun _ => 0))), (q12, .inl (G.1, 8, .inl (fun _ => 0))), (q13, .inl (G.1, 9, .inl (fun _ => 0))), (q14, .inl (G.1, 9, .inl (fun _ => 0))), (q15, .inr (1, [.ref q16, .ref q17, .ref q18, .ref q19, .ref q20, .ref q21, .ref q22, .int 0])), (q16, .inl (G.1, 8, .inl (fun _ => 0))), (q17, .inl (G.1, 8, .inl (fun _ => 0))), (q18, .inl (G.1, 8, .inl (fun _ => 0))), (q19, .inl (G.1, 8, .inl (fun _ => 0))), (q20, .inl (G.1, 8, .inl (fun _ => 0))), (q21, .inl (G.1, 8, .inl (fun _ => 0))), (q22, .inl (G.2.2.2.1, 8, .inl (fun _ => 0))), (q23, .inr (6, [.ref q24, .ref q25, .int 0, .int 0])), (q24, .inl (G.1, 60, .inl (fun _ => 0))), (q25, .inl (G.1, 80, .inl (fun _ => 0))), (q26, .inr (10, [.ref q27, .int 0])), (q27, .inl (G.1, 100, .inl (fun _ => 0))), (q28, .inr (7, [.ref q29, .ref q30, .ref q31, .int 0])), (q29, .inl (G.1, 80, .inl (fun _ => 0))), (q30, .inl (G.1, 3, .inl (fun _ => 0))), (q31, .inl (G.1, 3, .inl (fun _ => 0))), (q32, .inl (G.1, 40, .inl (fun _ => 0))), (q33, .inl (G.2.1, 10, .inr (.inl (fun _ => 0)))), (q34, .inl (G.1, 6, .inl (fun _ => 0))), (q35, .inr (0, [.ref q32, .ref q36, .ref q37, .ref q38, .ref q33, .ref q34, .int 2, .int 0, .int 0])), (q36, .inl (G.1, 5, .inl (tI [0, 1, 2, 3, 4]))), (q37, .inl (G.1, 25, .inl (tI [0, 0, 0, 0, 0, 0, 0, 0, 0, 0, 0, 0, 0, 0, 0, 0, 0, 0, 0, 0, 0, 0, 0, 0, 0]))), (q38, .inl (G.2.1, 10, .inr (.inl (tL [0, 1, 0, 1, 0, 1, 0, 1, 0, 1])))), (q39, .inr (3, [.ref q40, .ref q41, .ref q42, .int 0])), (q40, .inl (G.1, 8, .inl (fun _ => 0))), (q41, .inl (G.1, 4, .inl (fun _ => 0))), (q42, .inl (G.1, 3, .inl (fun _ => 0))), (q43, .inr (4, [.ref q44, .ref q45, .int 0])), (q44, .inl (G.1, 3, .inl (fun _ => 0))), (q45, .inl (G.1, 3, .inl (fun _ => 0))), (q46, .inr (9, [.ref q47, .ref q48, .ref q49, .ref q50, .ref q51, .int 0])), (q47, .inl (G.1, 20, .inl (fun _ => 0))), (q48, .inl (G.1, 20, .inl (fun _ => 0))), (q49, .inl (G.1, 20, .inl (fun _ => 0))), (q50, .inl (G.1, 20, .inl (fun _ => 0))), (q51, .inl (G.1, 160, .inl (fun _ => 0))), (q52, .inr (5, [.ref q53, .int 0])), (q53, .inl (G.1, 32, .inl (fun _ => 0))), (q61, .inl (G.1, 4, .inl (fun _ => 0))), (q62, .inl (G.1, 32, .inl (fun _ => 0))), (q63, .inl (G.1, 32, .inl (fun _ => 0))), (q64, .inl (G.1, 32, .inl (fun _ => 0))), (q65, .inl (G.1, 32, .inl (fun _ => 0))), (q66, .inl (G.1, 32, .inl (fun _ => 0))), (q67, .inl (G.1, 169, .inl (fun _ => 0))), (q68, .inl (G.2.2.1, 100, .inl (fun _ => 0))), (q69, .inl (G.1, 40, .inl (fun _ => 0))), (q70, .inl (G.1, 40, .inl (fun _ => 0))), (q71, .inl (G.1, 40, .inl (fun _ => 0))), (q72, .inl (G.1, 8, .inl (fun _ => 0))), (q73, .inl (G.1, 64, .inl (fun _ => 0))), (q74, .inl (G.1, 6, .inl (fun _ => 0))), (q75, .inl (G.2.1, 25, .inr (.inl (fun _ => 0)))), (q76, .inl (G.2.1, 25, .inr (.inl (fun _ => 0)))), (q77, .inl (G.2.1, 51200, .inr (.inl (fun _ => 0)))), (q78, .inl (G.1, 2304, .inl (fun _ => 0))), (q79, .inl (G.1, 4, .inl (fun _ => 0))), (q59, .inr (12, [.ref q61, .ref q62, .ref q63, .ref q64, .ref q65, .ref q66, .ref q81, .ref q82, .ref q83, .ref q84, .ref q85, .ref q86, .int 0, .ref q87, .ref q88, .ref q89, .int 9, .int 0, .int 0, .ref q67, .ref q90, .ref q68, .int 0, .int 2, .ref q80, .ref q69, .ref q70, .ref q71, .int 0, .ref q72, .int 0, .ref q91, .ref q92, .ref q93, .ref q94, .int 0, .ref q73, .int 0, .int 0, .ref q95, .ref q96, .ref q97, .ref q98, .int 0, .int 0, .int 0, .int 0, .ref q99, .int 0, .ref q100, .ref q101, .ref q102, .ref q103, .int 0, .ref q74, .ref q75, .ref q76, .ref q77, .int 0, .ref q78, .ref q79, .ref q104])), (q80, .inl (G.1, 5, .inl (tI [0, 1, 2, 3, 4]))), (q105, .inl (G.2.1, 1, .inr (.inl (fun _ => 0))))] := hD
  refine W.widen (k := 193) (n := 177662) (by omega) (by omega) ?_
  refine lv_astore_n (lv' := [(3, .ref q105), (2, .ref q59), (1, .ref q1), (0, .ref b)]) hx hb dL_law_19 rfl hl (by decide) rfl (fun ls hl => ?_)
  refine lv_iconst (v := 0) hx hb dL_law_20 (by decide) ?_
  refine lv_istore (lv' := [(4, .int 0), (3, .ref q105), (2, .ref q59), (1, .ref q1), (0, .ref b)]) hx hb dL_law_21 hl (by decide) rfl (fun ls hl => ?_)
  refine lv_iload hx hb dL_law_23 (lv_at hl 0 rfl) ?_
  refine lv_aload_n hx hb dL_law_25 rfl (lv_at hl 4 rfl) ?_
  refine va_slen hx hb hX hbl hbA hS dL_law_26 ?_
  refine lv_topi (fun vL evL => ?_)
  refine lv_bipush (v := 7) hx hb dL_law_27 (by decide) ?_
  refine lv_isub hx hb dL_law_29 ?_
  refine lv_topi (fun vM evM => ?_)
  refine lv_icmp_gt (tgt := 1537) hx hb dL_law_30 (by decide) (fun c106 => ?_) (fun c106 => ?_)
  · refine lv_iconst (v := 1) hx hb dL_law_1537 (by decide) ?_
    refine va_forget (fun q hq => by have h9 := hS.2.2 q hq; rw [hAe] at h9; exact h9) ?_
    refine W.widen (k := 600002) (n := 7302232) (by omega) (by omega) ?_
    exact lw_ret hx hb hr hlocks dL_law_1538
  · obtain rfl : L = 7 := wk_L7 hL evL evM c106
    refine lv_aload_n hx hb dL_law_33 rfl (lv_at hl 4 rfl) ?_
    refine lv_iload hx hb dL_law_34 (lv_at hl 0 rfl) ?_
    refine va_sld hx hb hX hbl hbA hS (wk_in rfl) dL_law_36 ?_
    refine wk_i (xs 0) rfl ?_
    refine lv_bipush (v := 63) hx hb dL_law_37 (by decide) ?_
    refine lv_iand hx hb dL_law_39 ?_
    refine lv_topi (fun vs evs => ?_)
    by_cases s107 : vs = 0
    · subst s107
      refine lv_tableIn (off := 152) (tgt := 192) hx hb dL_law_40 (by decide) (by decide) (by decide) (by decide) ?_
      have hP := hP.sub (ws' := [(q1, .inr (11, [.ref q3, .ref q26, .ref q28, .ref q35, .ref q39, .ref q43, .ref q46, .ref q52])), (q3, .inr (8, [.ref q4, .ref q54, .ref q55, .ref q5, .ref q6, .int 0, .int 0, .int 9, .int 0, .int 0])), (q4, .inl (G.2.2.2.2, 4, .inr (.inr (.inr (.inr (va_up (va_up (va_up (va_up (fun _ => none) 0 (some q7)) 1 (some q56)) 2 (some q57)) 3 (some q58))))))), (q7, .inr (2, [.ref q8, .ref q9, .ref q10, .ref q11, .ref q12, .ref q13, .ref q14, .ref q15, .ref q23, .int 0, .int 0, .int 0, .int 0, .int 0, .int 0, .int 0])), (q8, .inl (G.1, 8, .inl (fun _ => 0))), (q9, .inl (G.1, 8, .inl (fun _ => 0))), (q10, .inl (G.1, 8, .inl (fun _ => 0))), (q11, .inl (G.1, 8, .inl (fun _ => 0))), (q12, .inl (G.1, 8, .inl (fun _ => 0))), (q13, .inl (G.1, 9, .inl (fun _ => 0))), (q14, .inl (G.1, 9, .inl (fun _ => 0))), (q15, .inr (1, [.ref q16, .ref q17, .ref q18, .ref q19, .ref q20, .ref q21, .ref q22, .int 0])), (q61, .inl (G.1, 4, .inl (fun _ => 0))), (q62, .inl (G.1, 32, .inl (fun _ => 0))), (q63, .inl (G.1, 32, .inl (fun _ => 0))), (q64, .inl (G.1, 32, .inl (fun _ => 0))), (q65, .inl (G.1, 32, .inl (fun _ => 0))), (q66, .inl (G.1, 32, .inl (fun _ => 0))), (q59, .inr (12, [.ref q61, .ref q62, .ref q63, .ref q64, .ref q65, .ref q66, .ref q81, .ref q82, .ref q83, .ref q84, .ref q85, .ref q86, .int 0, .ref q87, .ref q88, .ref q89, .int 9, .int 0, .int 0, .ref q67, .ref q90, .ref q68, .int 0, .int 2, .ref q80, .ref q69, .ref q70, .ref q71, .int 0, .ref q72, .int 0, .ref q91, .ref q92, .ref q93, .ref q94, .int 0, .ref q73, .int 0, .int 0, .ref q95, .ref q96, .ref q97, .ref q98, .int 0, .int 0, .int 0, .int 0, .ref q99, .int 0, .ref q100, .ref q101, .ref q102, .ref q103, .int 0, .ref q74, .ref q75, .ref q76, .ref q77, .int 0, .ref q78, .ref q79, .ref q104]))]) [0, 1, 2, 5, 6, 7, 8, 9, 10, 11, 12, 13, 52, 53, 54, 55, 56, 57, 71] rfl
      have hD := hD.sub (ws' := [(q1, .inr (11, [.ref q3, .ref q26, .ref q28, .ref q35, .ref q39, .ref q43, .ref q46, .ref q52])), (q3, .inr (8, [.ref q4, .ref q54, .ref q55, .ref q5, .ref q6, .int 0, .int 0, .int 9, .int 0, .int 0])), (q4, .inl (G.2.2.2.2, 4, .inr (.inr (.inr (.inr (va_up (va_up (va_up (va_up (fun _ => none) 0 (some q7)) 1 (some q56)) 2 (some q57)) 3 (some q58))))))), (q7, .inr (2, [.ref q8, .ref q9, .ref q10, .ref q11, .ref q12, .ref q13, .ref q14, .ref q15, .ref q23, .int 0, .int 0, .int 0, .int 0, .int 0, .int 0, .int 0])), (q8, .inl (G.1, 8, .inl (fun _ => 0))), (q9, .inl (G.1, 8, .inl (fun _ => 0))), (q10, .inl (G.1, 8, .inl (fun _ => 0))), (q11, .inl (G.1, 8, .inl (fun _ => 0))), (q12, .inl (G.1, 8, .inl (fun _ => 0))), (q13, .inl (G.1, 9, .inl (fun _ => 0))), (q14, .inl (G.1, 9, .inl (fun _ => 0))), (q15, .inr (1, [.ref q16, .ref q17, .ref q18, .ref q19, .ref q20, .ref q21, .ref q22, .int 0])), (q61, .inl (G.1, 4, .inl (fun _ => 0))), (q62, .inl (G.1, 32, .inl (fun _ => 0))), (q63, .inl (G.1, 32, .inl (fun _ => 0))), (q64, .inl (G.1, 32, .inl (fun _ => 0))), (q65, .inl (G.1, 32, .inl (fun _ => 0))), (q66, .inl (G.1, 32, .inl (fun _ => 0))), (q59, .inr (12, [.ref q61, .ref q62, .ref q63, .ref q64, .ref q65, .ref q66, .ref q81, .ref q82, .ref q83, .ref q84, .ref q85, .ref q86, .int 0, .ref q87, .ref q88, .ref q89, .int 9, .int 0, .int 0, .ref q67, .ref q90, .ref q68, .int 0, .int 2, .ref q80, .ref q69, .ref q70, .ref q71, .int 0, .ref q72, .int 0, .ref q91, .ref q92, .ref q93, .ref q94, .int 0, .ref q73, .int 0, .int 0, .ref q95, .ref q96, .ref q97, .ref q98, .int 0, .int 0, .int 0, .int 0, .ref q99, .int 0, .ref q100, .ref q101, .ref q102, .ref q103, .int 0, .ref q74, .ref q75, .ref q76, .ref q77, .int 0, .ref q78, .ref q79, .ref q104]))]) [0, 1, 2, 5, 6, 7, 8, 9, 10, 11, 12, 13, 52, 53, 54, 55, 56, 57, 71] (by decide) rfl
      refine lv_aload_n hx hb dL_law_192 rfl (lv_at hl 3 rfl) ?_
      refine lv_aload_n hx hb dL_law_193 rfl (lv_at hl 4 rfl) ?_
      refine lv_iload hx hb dL_law_194 (lv_at hl 0 rfl) ?_
      refine lv_iconst (v := 1) hx hb dL_law_196 (by decide) ?_
      refine lv_iadd hx hb dL_law_197 ?_
      refine wk_i 1 (by decide) ?_
      refine va_sld hx hb hX hbl hbA hS (wk_in rfl) dL_law_198 ?_
      refine wk_i (xs 1) rfl ?_
      refine lv_aload_n hx hb dL_law_199 rfl (lv_at hl 4 rfl) ?_
      refine lv_iload hx hb dL_law_200 (lv_at hl 0 rfl) ?_
      refine lv_iconst (v := 2) hx hb dL_law_202 (by decide) ?_
      refine lv_iadd hx hb dL_law_203 ?_
      refine wk_i 2 (by decide) ?_
      refine va_sld hx hb hX hbl hbA hS (wk_in rfl) dL_law_204 ?_
      refine wk_i (xs 2) rfl ?_
      refine lv_aload_n hx hb dL_law_205 rfl (lv_at hl 4 rfl) ?_
      refine lv_iload hx hb dL_law_206 (lv_at hl 0 rfl) ?_
      refine lv_iconst (v := 3) hx hb dL_law_208 (by decide) ?_
      refine lv_iadd hx hb dL_law_209 ?_
      refine wk_i 3 (by decide) ?_
      refine va_sld hx hb hX hbl hbA hS (wk_in rfl) dL_law_210 ?_
      refine wk_i (xs 3) rfl ?_
      have hPc := hP.sub (ws' := [(q1, .inr (11, [.ref q3, .ref q26, .ref q28, .ref q35, .ref q39, .ref q43, .ref q46, .ref q52])), (q3, .inr (8, [.ref q4, .ref q54, .ref q55, .ref q5, .ref q6, .int 0, .int 0, .int 9, .int 0, .int 0])), (q4, .inl (G.2.2.2.2, 4, .inr (.inr (.inr (.inr (va_up (va_up (va_up (va_up (fun _ => none) 0 (some q7)) 1 (some q56)) 2 (some q57)) 3 (some q58))))))), (q7, .inr (2, [.ref q8, .ref q9, .ref q10, .ref q11, .ref q12, .ref q13, .ref q14, .ref q15, .ref q23, .int 0, .int 0, .int 0, .int 0, .int 0, .int 0, .int 0])), (q8, .inl (G.1, 8, .inl (fun _ => 0))), (q9, .inl (G.1, 8, .inl (fun _ => 0))), (q10, .inl (G.1, 8, .inl (fun _ => 0))), (q11, .inl (G.1, 8, .inl (fun _ => 0))), (q12, .inl (G.1, 8, .inl (fun _ => 0))), (q13, .inl (G.1, 9, .inl (fun _ => 0))), (q14, .inl (G.1, 9, .inl (fun _ => 0))), (q15, .inr (1, [.ref q16, .ref q17, .ref q18, .ref q19, .ref q20, .ref q21, .ref q22, .int 0]))]) [0, 1, 2, 3, 4, 5, 6, 7, 8, 9, 10, 11] rfl
      have hDc := hD.sub (ws' := [(q1, .inr (11, [.ref q3, .ref q26, .ref q28, .ref q35, .ref q39, .ref q43, .ref q46, .ref q52])), (q3, .inr (8, [.ref q4, .ref q54, .ref q55, .ref q5, .ref q6, .int 0, .int 0, .int 9, .int 0, .int 0])), (q4, .inl (G.2.2.2.2, 4, .inr (.inr (.inr (.inr (va_up (va_up (va_up (va_up (fun _ => none) 0 (some q7)) 1 (some q56)) 2 (some q57)) 3 (some q58))))))), (q7, .inr (2, [.ref q8, .ref q9, .ref q10, .ref q11, .ref q12, .ref q13, .ref q14, .ref q15, .ref q23, .int 0, .int 0, .int 0, .int 0, .int 0, .int 0, .int 0])), (q8, .inl (G.1, 8, .inl (fun _ => 0))), (q9, .inl (G.1, 8, .inl (fun _ => 0))), (q10, .inl (G.1, 8, .inl (fun _ => 0))), (q11, .inl (G.1, 8, .inl (fun _ => 0))), (q12, .inl (G.1, 8, .inl (fun _ => 0))), (q13, .inl (G.1, 9, .inl (fun _ => 0))), (q14, .inl (G.1, 9, .inl (fun _ => 0))), (q15, .inr (1, [.ref q16, .ref q17, .ref q18, .ref q19, .ref q20, .ref q21, .ref q22, .int 0]))]) [0, 1, 2, 3, 4, 5, 6, 7, 8, 9, 10, 11] (by decide) rfl
      have hFc := va_free (wc := [(q1, .inr (11, [.ref q3, .ref q26, .ref q28, .ref q35, .ref q39, .ref q43, .ref q46, .ref q52])), (q3, .inr (8, [.ref q4, .ref q54, .ref q55, .ref q5, .ref q6, .int 0, .int 0, .int 9, .int 0, .int 0])), (q4, .inl (G.2.2.2.2, 4, .inr (.inr (.inr (.inr (va_up (va_up (va_up (va_up (fun _ => none) 0 (some q7)) 1 (some q56)) 2 (some q57)) 3 (some q58))))))), (q7, .inr (2, [.ref q8, .ref q9, .ref q10, .ref q11, .ref q12, .ref q13, .ref q14, .ref q15, .ref q23, .int 0, .int 0, .int 0, .int 0, .int 0, .int 0, .int 0])), (q8, .inl (G.1, 8, .inl (fun _ => 0))), (q9, .inl (G.1, 8, .inl (fun _ => 0))), (q10, .inl (G.1, 8, .inl (fun _ => 0))), (q11, .inl (G.1, 8, .inl (fun _ => 0))), (q12, .inl (G.1, 8, .inl (fun _ => 0))), (q13, .inl (G.1, 9, .inl (fun _ => 0))), (q14, .inl (G.1, 9, .inl (fun _ => 0))), (q15, .inr (1, [.ref q16, .ref q17, .ref q18, .ref q19, .ref q20, .ref q21, .ref q22, .int 0]))]) hD hS hA [0, 1, 2, 3, 4, 5, 6, 7, 8, 9, 10, 11] rfl
      have hZ := hZZ
      refine va_calli (va_runV (As := [.int (xs 1), .int (xs 2), .int (xs 3)]) (rest := []) ⟨hx, hb, hml, hown, hts⟩ (kX11_figure l D G q1 (xs 1) (xs 2) (xs 3) q3 q26 q28 q35 q39 q43 q46 q52 q4 q54 q55 q5 q6 q7 q56 q57 q58 q8 q9 q10 q11 q12 q13 q14 q15 q23 q16 q17 q18 q19 q20 q21 q22 tx ty gx gy H.size) (cwV 3 hts gL_law_X11_figure rfl rfl rfl (by decide +kernel) ⟨Nat.le_of_ble_eq_true rfl, Nat.le_of_ble_eq_true rfl⟩) ⟨wBZ_blind, va_recv hK hPc (ci := 11) (q0 := 0) rfl rfl, wBZ_pre hPc hK hDc hN hZ hS hFc⟩ rfl rfl hl.1 rfl (lv_room (Nat.le_of_ble_eq_true rfl)) dL_law_211 ⟨Nat.le_of_ble_eq_true rfl, Nat.le_of_ble_eq_true rfl⟩) hS (fun q _ h => hFc q h) hFc (fun r108 u t H1 locs ht hvm hr108 hB hz1 hk1 hS => ?_)
      obtain ⟨hP, hD⟩ := va_join (wr := [(q61, .inl (G.1, 4, .inl (fun _ => 0))), (q62, .inl (G.1, 32, .inl (fun _ => 0))), (q63, .inl (G.1, 32, .inl (fun _ => 0))), (q64, .inl (G.1, 32, .inl (fun _ => 0))), (q65, .inl (G.1, 32, .inl (fun _ => 0))), (q66, .inl (G.1, 32, .inl (fun _ => 0))), (q59, .inr (12, [.ref q61, .ref q62, .ref q63, .ref q64, .ref q65, .ref q66, .ref q81, .ref q82, .ref q83, .ref q84, .ref q85, .ref q86, .int 0, .ref q87, .ref q88, .ref q89, .int 9, .int 0, .int 0, .ref q67, .ref q90, .ref q68, .int 0, .int 2, .ref q80, .ref q69, .ref q70, .ref q71, .int 0, .ref q72, .int 0, .ref q91, .ref q92, .ref q93, .ref q94, .int 0, .ref q73, .int 0, .int 0, .ref q95, .ref q96, .ref q97, .ref q98, .int 0, .int 0, .int 0, .int 0, .ref q99, .int 0, .ref q100, .ref q101, .ref q102, .ref q103, .int 0, .ref q74, .ref q75, .ref q76, .ref q77, .int 0, .ref q78, .ref q79, .ref q104]))]) (w1 := []) hP hD [0, 1, 2, 3, 4, 5, 6, 7, 8, 9, 10, 11] [12, 13, 14, 15, 16, 17, 18] rfl rfl (by decide) (by decide) hk1 hFc wP_nil wD_nil
      clear hPc hDc
      generalize H1 = H at hP hS ⊢
      have hP : va_P D vwCl [(q61, .inl (G.1, 4, .inl (fun _ => 0))), (q62, .inl (G.1, 32, .inl (fun _ => 0))), (q63, .inl (G.1, 32, .inl (fun _ => 0))), (q64, .inl (G.1, 32, .inl (fun _ => 0))), (q65, .inl (G.1, 32, .inl (fun _ => 0))), (q66, .inl (G.1, 32, .inl (fun _ => 0))), (q59, .inr (12, [.ref q61, .ref q62, .ref q63, .ref q64, .ref q65, .ref q66, .ref q81, .ref q82, .ref q83, .ref q84, .ref q85, .ref q86, .int 0, .ref q87, .ref q88, .ref q89, .int 9, .int 0, .int 0, .ref q67, .ref q90, .ref q68, .int 0, .int 2, .ref q80, .ref q69, .ref q70, .ref q71, .int 0, .ref q72, .int 0, .ref q91, .ref q92, .ref q93, .ref q94, .int 0, .ref q73, .int 0, .int 0, .ref q95, .ref q96, .ref q97, .ref q98, .int 0, .int 0, .int 0, .int 0, .ref q99, .int 0, .ref q100, .ref q101, .ref q102, .ref q103, .int 0, .ref q74, .ref q75, .ref q76, .ref q77, .int 0, .ref q78, .ref q79, .ref q104]))] H := hP
      have hD : va_D A [(q61, .inl (G.1, 4, .inl (fun _ => 0))), (q62, .inl (G.1, 32, .inl (fun _ => 0))), (q63, .inl (G.1, 32, .inl (fun _ => 0))), (q64, .inl (G.1, 32, .inl (fun _ => 0))), (q65, .inl (G.1, 32, .inl (fun _ => 0))), (q66, .inl (G.1, 32, .inl (fun _ => 0))), (q59, .inr (12, [.ref q61, .ref q62, .ref q63, .ref q64, .ref q65, .ref q66, .ref q81, .ref q82, .ref q83, .ref q84, .ref q85, .ref q86, .int 0, .ref q87, .ref q88, .ref q89, .int 9, .int 0, .int 0, .ref q67, .ref q90, .ref q68, .int 0, .int 2, .ref q80, .ref q69, .ref q70, .ref q71, .int 0, .ref q72, .int 0, .ref q91, .ref q92, .ref q93, .ref q94, .int 0, .ref q73, .int 0, .int 0, .ref q95, .ref q96, .ref q97, .ref q98, .int 0, .int 0, .int 0, .int 0, .ref q99, .int 0, .ref q100, .ref q101, .ref q102, .ref q103, .int 0, .ref q74, .ref q75, .ref q76, .ref q77, .int 0, .ref q78, .ref q79, .ref q104]))] := hD
      refine lv_aload_n hx hb dL_law_214 rfl (lv_at hl 2 rfl) ?_
      refine lv_aload_n hx hb dL_law_215 rfl (lv_at hl 4 rfl) ?_
      refine lv_iload hx hb dL_law_216 (lv_at hl 0 rfl) ?_
      refine lv_iconst (v := 1) hx hb dL_law_218 (by decide) ?_
      refine lv_iadd hx hb dL_law_219 ?_
      refine wk_i 1 (by decide) ?_
      refine va_sld hx hb hX hbl hbA hS (wk_in rfl) dL_law_220 ?_
      refine wk_i (xs 1) rfl ?_
      refine lv_aload_n hx hb dL_law_221 rfl (lv_at hl 4 rfl) ?_
      refine lv_iload hx hb dL_law_222 (lv_at hl 0 rfl) ?_
      refine lv_iconst (v := 2) hx hb dL_law_224 (by decide) ?_
      refine lv_iadd hx hb dL_law_225 ?_
      refine wk_i 2 (by decide) ?_
      refine va_sld hx hb hX hbl hbA hS (wk_in rfl) dL_law_226 ?_
      refine wk_i (xs 2) rfl ?_
      refine lv_aload_n hx hb dL_law_227 rfl (lv_at hl 4 rfl) ?_
      refine lv_iload hx hb dL_law_228 (lv_at hl 0 rfl) ?_
      refine lv_iconst (v := 3) hx hb dL_law_230 (by decide) ?_
      refine lv_iadd hx hb dL_law_231 ?_
      refine wk_i 3 (by decide) ?_
      refine va_sld hx hb hX hbl hbA hS (wk_in rfl) dL_law_232 ?_
      refine wk_i (xs 3) rfl ?_
      have hPc := hP.sub (ws' := [(q59, .inr (12, [.ref q61, .ref q62, .ref q63, .ref q64, .ref q65, .ref q66, .ref q81, .ref q82, .ref q83, .ref q84, .ref q85, .ref q86, .int 0, .ref q87, .ref q88, .ref q89, .int 9, .int 0, .int 0, .ref q67, .ref q90, .ref q68, .int 0, .int 2, .ref q80, .ref q69, .ref q70, .ref q71, .int 0, .ref q72, .int 0, .ref q91, .ref q92, .ref q93, .ref q94, .int 0, .ref q73, .int 0, .int 0, .ref q95, .ref q96, .ref q97, .ref q98, .int 0, .int 0, .int 0, .int 0, .ref q99, .int 0, .ref q100, .ref q101, .ref q102, .ref q103, .int 0, .ref q74, .ref q75, .ref q76, .ref q77, .int 0, .ref q78, .ref q79, .ref q104])), (q61, .inl (G.1, 4, .inl (fun _ => 0))), (q62, .inl (G.1, 32, .inl (fun _ => 0))), (q63, .inl (G.1, 32, .inl (fun _ => 0))), (q64, .inl (G.1, 32, .inl (fun _ => 0))), (q65, .inl (G.1, 32, .inl (fun _ => 0))), (q66, .inl (G.1, 32, .inl (fun _ => 0)))]) [6, 0, 1, 2, 3, 4, 5] rfl
      have hDc := hD.sub (ws' := [(q59, .inr (12, [.ref q61, .ref q62, .ref q63, .ref q64, .ref q65, .ref q66, .ref q81, .ref q82, .ref q83, .ref q84, .ref q85, .ref q86, .int 0, .ref q87, .ref q88, .ref q89, .int 9, .int 0, .int 0, .ref q67, .ref q90, .ref q68, .int 0, .int 2, .ref q80, .ref q69, .ref q70, .ref q71, .int 0, .ref q72, .int 0, .ref q91, .ref q92, .ref q93, .ref q94, .int 0, .ref q73, .int 0, .int 0, .ref q95, .ref q96, .ref q97, .ref q98, .int 0, .int 0, .int 0, .int 0, .ref q99, .int 0, .ref q100, .ref q101, .ref q102, .ref q103, .int 0, .ref q74, .ref q75, .ref q76, .ref q77, .int 0, .ref q78, .ref q79, .ref q104])), (q61, .inl (G.1, 4, .inl (fun _ => 0))), (q62, .inl (G.1, 32, .inl (fun _ => 0))), (q63, .inl (G.1, 32, .inl (fun _ => 0))), (q64, .inl (G.1, 32, .inl (fun _ => 0))), (q65, .inl (G.1, 32, .inl (fun _ => 0))), (q66, .inl (G.1, 32, .inl (fun _ => 0)))]) [6, 0, 1, 2, 3, 4, 5] (by decide) rfl
      have hFc := va_free (wc := [(q59, .inr (12, [.ref q61, .ref q62, .ref q63, .ref q64, .ref q65, .ref q66, .ref q81, .ref q82, .ref q83, .ref q84, .ref q85, .ref q86, .int 0, .ref q87, .ref q88, .ref q89, .int 9, .int 0, .int 0, .ref q67, .ref q90, .ref q68, .int 0, .int 2, .ref q80, .ref q69, .ref q70, .ref q71, .int 0, .ref q72, .int 0, .ref q91, .ref q92, .ref q93, .ref q94, .int 0, .ref q73, .int 0, .int 0, .ref q95, .ref q96, .ref q97, .ref q98, .int 0, .int 0, .int 0, .int 0, .ref q99, .int 0, .ref q100, .ref q101, .ref q102, .ref q103, .int 0, .ref q74, .ref q75, .ref q76, .ref q77, .int 0, .ref q78, .ref q79, .ref q104])), (q61, .inl (G.1, 4, .inl (fun _ => 0))), (q62, .inl (G.1, 32, .inl (fun _ => 0))), (q63, .inl (G.1, 32, .inl (fun _ => 0))), (q64, .inl (G.1, 32, .inl (fun _ => 0))), (q65, .inl (G.1, 32, .inl (fun _ => 0))), (q66, .inl (G.1, 32, .inl (fun _ => 0)))]) hD hS hA [6, 0, 1, 2, 3, 4, 5] rfl
      refine va_calli (va_runV (As := [.int (xs 1), .int (xs 2), .int (xs 3)]) (rest := [.int r108]) ⟨hx, hb, hml, hown, hts⟩ (kX12_figure l D G q59 (xs 1) (xs 2) (xs 3) q61 q62 q63 q64 q65 q66 q81 q82 q83 q84 q85 q86 q87 q88 q89 q67 q90 q68 q80 q69 q70 q71 q72 q91 q92 q93 q94 q73 q95 q96 q97 q98 q99 q100 q101 q102 q103 q74 q75 q76 q77 q78 q79 q104 H.size) (cwV 3 hts gL_law_X12_figure rfl rfl rfl (by decide +kernel) ⟨Nat.le_of_ble_eq_true rfl, Nat.le_of_ble_eq_true rfl⟩) ⟨wB_blind, va_recv hK hPc (ci := 12) (q0 := 0) rfl rfl, wB_pre hPc hK hDc hN⟩ rfl rfl hl.1 rfl (lv_room (Nat.le_of_ble_eq_true rfl)) dL_law_233 ⟨Nat.le_of_ble_eq_true rfl, Nat.le_of_ble_eq_true rfl⟩) hS (fun q _ h => hFc q h) hFc (fun r109 u t H1 locs ht hvm hr109 hB hz1 hk1 hS => ?_)
      obtain ⟨hP, hD⟩ := va_join (wr := []) (w1 := []) hP hD [6, 0, 1, 2, 3, 4, 5] [] rfl rfl (by decide) (by decide) hk1 hFc wP_nil wD_nil
      clear hPc hDc
      generalize H1 = H at hP hS ⊢
      have hP : va_P D vwCl [] H := hP
      have hD : va_D A [] := hD
      refine lv_icmp_eq (tgt := 1531) hx hb dL_law_236 (by decide) (fun _ => ?_) (fun h9 => absurd (Eq.trans hr108 (Eq.symm hr109)) h9)
      refine lv_iinc (v := 7) (lv' := [(4, .int 7), (3, .ref q105), (2, .ref q59), (1, .ref q1), (0, .ref b)]) hx hb dL_law_1531 hl (k := 0) rfl (by decide) (by decide) rfl (fun ls hl => ?_)
      refine lv_goto (tgt := 23) hx hb dL_law_1534 (by decide) ?_
      refine lv_iload hx hb dL_law_23 (lv_at hl 0 rfl) ?_
      refine lv_aload_n hx hb dL_law_25 rfl (lv_at hl 4 rfl) ?_
      refine va_slen hx hb hX hbl hbA hS dL_law_26 ?_
      refine wk_i 7 rfl ?_
      refine lv_bipush (v := 7) hx hb dL_law_27 (by decide) ?_
      refine lv_isub hx hb dL_law_29 ?_
      refine wk_i 0 (by decide) ?_
      refine lv_icmp_gt (tgt := 1537) hx hb dL_law_30 (by decide) (fun _ => ?_) (fun h9 => absurd h9 (by decide))
      refine lv_iconst (v := 1) hx hb dL_law_1537 (by decide) ?_
      refine va_forget (fun q hq => by have h9 := hS.2.2 q hq; rw [hAe] at h9; exact h9) ?_
      refine W.widen (k := 600002) (n := 7302232) (by omega) (by omega) ?_
      exact lw_ret hx hb hr hlocks dL_law_1538
    by_cases s110 : vs = 1
    · subst s110
      refine lv_tableIn (off := 201) (tgt := 241) hx hb dL_law_40 (by decide) (by decide) (by decide) (by decide) ?_
      have hP := hP.sub (ws' := [(q1, .inr (11, [.ref q3, .ref q26, .ref q28, .ref q35, .ref q39, .ref q43, .ref q46, .ref q52])), (q3, .inr (8, [.ref q4, .ref q54, .ref q55, .ref q5, .ref q6, .int 0, .int 0, .int 9, .int 0, .int 0])), (q59, .inr (12, [.ref q61, .ref q62, .ref q63, .ref q64, .ref q65, .ref q66, .ref q81, .ref q82, .ref q83, .ref q84, .ref q85, .ref q86, .int 0, .ref q87, .ref q88, .ref q89, .int 9, .int 0, .int 0, .ref q67, .ref q90, .ref q68, .int 0, .int 2, .ref q80, .ref q69, .ref q70, .ref q71, .int 0, .ref q72, .int 0, .ref q91, .ref q92, .ref q93, .ref q94, .int 0, .ref q73, .int 0, .int 0, .ref q95, .ref q96, .ref q97, .ref q98, .int 0, .int 0, .int 0, .int 0, .ref q99, .int 0, .ref q100, .ref q101, .ref q102, .ref q103, .int 0, .ref q74, .ref q75, .ref q76, .ref q77, .int 0, .ref q78, .ref q79, .ref q104]))]) [0, 1, 71] rfl
      have hD := hD.sub (ws' := [(q1, .inr (11, [.ref q3, .ref q26, .ref q28, .ref q35, .ref q39, .ref q43, .ref q46, .ref q52])), (q3, .inr (8, [.ref q4, .ref q54, .ref q55, .ref q5, .ref q6, .int 0, .int 0, .int 9, .int 0, .int 0])), (q59, .inr (12, [.ref q61, .ref q62, .ref q63, .ref q64, .ref q65, .ref q66, .ref q81, .ref q82, .ref q83, .ref q84, .ref q85, .ref q86, .int 0, .ref q87, .ref q88, .ref q89, .int 9, .int 0, .int 0, .ref q67, .ref q90, .ref q68, .int 0, .int 2, .ref q80, .ref q69, .ref q70, .ref q71, .int 0, .ref q72, .int 0, .ref q91, .ref q92, .ref q93, .ref q94, .int 0, .ref q73, .int 0, .int 0, .ref q95, .ref q96, .ref q97, .ref q98, .int 0, .int 0, .int 0, .int 0, .ref q99, .int 0, .ref q100, .ref q101, .ref q102, .ref q103, .int 0, .ref q74, .ref q75, .ref q76, .ref q77, .int 0, .ref q78, .ref q79, .ref q104]))]) [0, 1, 71] (by decide) rfl
      refine lv_aload_n hx hb dL_law_241 rfl (lv_at hl 3 rfl) ?_
      refine lv_aload_n hx hb dL_law_242 rfl (lv_at hl 4 rfl) ?_
      refine lv_iload hx hb dL_law_243 (lv_at hl 0 rfl) ?_
      refine lv_iconst (v := 1) hx hb dL_law_245 (by decide) ?_
      refine lv_iadd hx hb dL_law_246 ?_
      refine wk_i 1 (by decide) ?_
      refine va_sld hx hb hX hbl hbA hS (wk_in rfl) dL_law_247 ?_
      refine wk_i (xs 1) rfl ?_
      refine lv_aload_n hx hb dL_law_248 rfl (lv_at hl 4 rfl) ?_
      refine lv_iload hx hb dL_law_249 (lv_at hl 0 rfl) ?_
      refine lv_iconst (v := 2) hx hb dL_law_251 (by decide) ?_
      refine lv_iadd hx hb dL_law_252 ?_
      refine wk_i 2 (by decide) ?_
      refine va_sld hx hb hX hbl hbA hS (wk_in rfl) dL_law_253 ?_
      refine wk_i (xs 2) rfl ?_
      refine lv_aload_n hx hb dL_law_254 rfl (lv_at hl 4 rfl) ?_
      refine lv_iload hx hb dL_law_255 (lv_at hl 0 rfl) ?_
      refine lv_iconst (v := 3) hx hb dL_law_257 (by decide) ?_
      refine lv_iadd hx hb dL_law_258 ?_
      refine wk_i 3 (by decide) ?_
      refine va_sld hx hb hX hbl hbA hS (wk_in rfl) dL_law_259 ?_
      refine wk_i (xs 3) rfl ?_
      refine lv_aload_n hx hb dL_law_260 rfl (lv_at hl 4 rfl) ?_
      refine lv_iload hx hb dL_law_261 (lv_at hl 0 rfl) ?_
      refine lv_iconst (v := 4) hx hb dL_law_263 (by decide) ?_
      refine lv_iadd hx hb dL_law_264 ?_
      refine wk_i 4 (by decide) ?_
      refine va_sld hx hb hX hbl hbA hS (wk_in rfl) dL_law_265 ?_
      refine wk_i (xs 4) rfl ?_
      refine lv_aload_n hx hb dL_law_266 rfl (lv_at hl 4 rfl) ?_
      refine lv_iload hx hb dL_law_267 (lv_at hl 0 rfl) ?_
      refine lv_iconst (v := 5) hx hb dL_law_269 (by decide) ?_
      refine lv_iadd hx hb dL_law_270 ?_
      refine wk_i 5 (by decide) ?_
      refine va_sld hx hb hX hbl hbA hS (wk_in rfl) dL_law_271 ?_
      refine wk_i (xs 5) rfl ?_
      refine lv_aload_n hx hb dL_law_272 rfl (lv_at hl 4 rfl) ?_
      refine lv_iload hx hb dL_law_273 (lv_at hl 0 rfl) ?_
      refine lv_bipush (v := 6) hx hb dL_law_275 (by decide) ?_
      refine lv_iadd hx hb dL_law_277 ?_
      refine wk_i 6 (by decide) ?_
      refine va_sld hx hb hX hbl hbA hS (wk_in rfl) dL_law_278 ?_
      refine wk_i (xs 6) rfl ?_
      have hPc := hP.sub (ws' := [(q1, .inr (11, [.ref q3, .ref q26, .ref q28, .ref q35, .ref q39, .ref q43, .ref q46, .ref q52])), (q3, .inr (8, [.ref q4, .ref q54, .ref q55, .ref q5, .ref q6, .int 0, .int 0, .int 9, .int 0, .int 0]))]) [0, 1] rfl
      have hDc := hD.sub (ws' := [(q1, .inr (11, [.ref q3, .ref q26, .ref q28, .ref q35, .ref q39, .ref q43, .ref q46, .ref q52])), (q3, .inr (8, [.ref q4, .ref q54, .ref q55, .ref q5, .ref q6, .int 0, .int 0, .int 9, .int 0, .int 0]))]) [0, 1] (by decide) rfl
      have hFc := va_free (wc := [(q1, .inr (11, [.ref q3, .ref q26, .ref q28, .ref q35, .ref q39, .ref q43, .ref q46, .ref q52])), (q3, .inr (8, [.ref q4, .ref q54, .ref q55, .ref q5, .ref q6, .int 0, .int 0, .int 9, .int 0, .int 0]))]) hD hS hA [0, 1] rfl
      refine va_calli (va_runV (As := [.int (xs 1), .int (xs 2), .int (xs 3), .int (xs 4), .int (xs 5), .int (xs 6)]) (rest := []) ⟨hx, hb, hml, hown, hts⟩ (kX11_limb l D G q1 (xs 1) (xs 2) (xs 3) (xs 4) (xs 5) (xs 6) q3 q26 q28 q35 q39 q43 q46 q52 q4 q54 q55 q5 q6 H.size) (cwV 6 hts gL_law_X11_limb rfl rfl rfl (by decide +kernel) ⟨Nat.le_of_ble_eq_true rfl, Nat.le_of_ble_eq_true rfl⟩) ⟨wB_blind, va_recv hK hPc (ci := 11) (q0 := 0) rfl rfl, wB_pre hPc hK hDc hN⟩ rfl rfl hl.1 rfl (lv_room (Nat.le_of_ble_eq_true rfl)) dL_law_279 ⟨Nat.le_of_ble_eq_true rfl, Nat.le_of_ble_eq_true rfl⟩) hS (fun q _ h => hFc q h) hFc (fun r111 u t H1 locs ht hvm hr111 hB hz1 hk1 hS => ?_)
      obtain ⟨hP, hD⟩ := va_join (wr := [(q59, .inr (12, [.ref q61, .ref q62, .ref q63, .ref q64, .ref q65, .ref q66, .ref q81, .ref q82, .ref q83, .ref q84, .ref q85, .ref q86, .int 0, .ref q87, .ref q88, .ref q89, .int 9, .int 0, .int 0, .ref q67, .ref q90, .ref q68, .int 0, .int 2, .ref q80, .ref q69, .ref q70, .ref q71, .int 0, .ref q72, .int 0, .ref q91, .ref q92, .ref q93, .ref q94, .int 0, .ref q73, .int 0, .int 0, .ref q95, .ref q96, .ref q97, .ref q98, .int 0, .int 0, .int 0, .int 0, .ref q99, .int 0, .ref q100, .ref q101, .ref q102, .ref q103, .int 0, .ref q74, .ref q75, .ref q76, .ref q77, .int 0, .ref q78, .ref q79, .ref q104]))]) (w1 := []) hP hD [0, 1] [2] rfl rfl (by decide) (by decide) hk1 hFc wP_nil wD_nil
      clear hPc hDc
      generalize H1 = H at hP hS ⊢
      have hP : va_P D vwCl [(q59, .inr (12, [.ref q61, .ref q62, .ref q63, .ref q64, .ref q65, .ref q66, .ref q81, .ref q82, .ref q83, .ref q84, .ref q85, .ref q86, .int 0, .ref q87, .ref q88, .ref q89, .int 9, .int 0, .int 0, .ref q67, .ref q90, .ref q68, .int 0, .int 2, .ref q80, .ref q69, .ref q70, .ref q71, .int 0, .ref q72, .int 0, .ref q91, .ref q92, .ref q93, .ref q94, .int 0, .ref q73, .int 0, .int 0, .ref q95, .ref q96, .ref q97, .ref q98, .int 0, .int 0, .int 0, .int 0, .ref q99, .int 0, .ref q100, .ref q101, .ref q102, .ref q103, .int 0, .ref q74, .ref q75, .ref q76, .ref q77, .int 0, .ref q78, .ref q79, .ref q104]))] H := hP
      have hD : va_D A [(q59, .inr (12, [.ref q61, .ref q62, .ref q63, .ref q64, .ref q65, .ref q66, .ref q81, .ref q82, .ref q83, .ref q84, .ref q85, .ref q86, .int 0, .ref q87, .ref q88, .ref q89, .int 9, .int 0, .int 0, .ref q67, .ref q90, .ref q68, .int 0, .int 2, .ref q80, .ref q69, .ref q70, .ref q71, .int 0, .ref q72, .int 0, .ref q91, .ref q92, .ref q93, .ref q94, .int 0, .ref q73, .int 0, .int 0, .ref q95, .ref q96, .ref q97, .ref q98, .int 0, .int 0, .int 0, .int 0, .ref q99, .int 0, .ref q100, .ref q101, .ref q102, .ref q103, .int 0, .ref q74, .ref q75, .ref q76, .ref q77, .int 0, .ref q78, .ref q79, .ref q104]))] := hD
      subst hr111
      refine lv_aload_n hx hb dL_law_282 rfl (lv_at hl 2 rfl) ?_
      refine lv_aload_n hx hb dL_law_283 rfl (lv_at hl 4 rfl) ?_
      refine lv_iload hx hb dL_law_284 (lv_at hl 0 rfl) ?_
      refine lv_iconst (v := 1) hx hb dL_law_286 (by decide) ?_
      refine lv_iadd hx hb dL_law_287 ?_
      refine wk_i 1 (by decide) ?_
      refine va_sld hx hb hX hbl hbA hS (wk_in rfl) dL_law_288 ?_
      refine wk_i (xs 1) rfl ?_
      refine lv_aload_n hx hb dL_law_289 rfl (lv_at hl 4 rfl) ?_
      refine lv_iload hx hb dL_law_290 (lv_at hl 0 rfl) ?_
      refine lv_iconst (v := 2) hx hb dL_law_292 (by decide) ?_
      refine lv_iadd hx hb dL_law_293 ?_
      refine wk_i 2 (by decide) ?_
      refine va_sld hx hb hX hbl hbA hS (wk_in rfl) dL_law_294 ?_
      refine wk_i (xs 2) rfl ?_
      refine lv_aload_n hx hb dL_law_295 rfl (lv_at hl 4 rfl) ?_
      refine lv_iload hx hb dL_law_296 (lv_at hl 0 rfl) ?_
      refine lv_iconst (v := 3) hx hb dL_law_298 (by decide) ?_
      refine lv_iadd hx hb dL_law_299 ?_
      refine wk_i 3 (by decide) ?_
      refine va_sld hx hb hX hbl hbA hS (wk_in rfl) dL_law_300 ?_
      refine wk_i (xs 3) rfl ?_
      refine lv_aload_n hx hb dL_law_301 rfl (lv_at hl 4 rfl) ?_
      refine lv_iload hx hb dL_law_302 (lv_at hl 0 rfl) ?_
      refine lv_iconst (v := 4) hx hb dL_law_304 (by decide) ?_
      refine lv_iadd hx hb dL_law_305 ?_
      refine wk_i 4 (by decide) ?_
      refine va_sld hx hb hX hbl hbA hS (wk_in rfl) dL_law_306 ?_
      refine wk_i (xs 4) rfl ?_
      refine lv_aload_n hx hb dL_law_307 rfl (lv_at hl 4 rfl) ?_
      refine lv_iload hx hb dL_law_308 (lv_at hl 0 rfl) ?_
      refine lv_iconst (v := 5) hx hb dL_law_310 (by decide) ?_
      refine lv_iadd hx hb dL_law_311 ?_
      refine wk_i 5 (by decide) ?_
      refine va_sld hx hb hX hbl hbA hS (wk_in rfl) dL_law_312 ?_
      refine wk_i (xs 5) rfl ?_
      refine lv_aload_n hx hb dL_law_313 rfl (lv_at hl 4 rfl) ?_
      refine lv_iload hx hb dL_law_314 (lv_at hl 0 rfl) ?_
      refine lv_bipush (v := 6) hx hb dL_law_316 (by decide) ?_
      refine lv_iadd hx hb dL_law_318 ?_
      refine wk_i 6 (by decide) ?_
      refine va_sld hx hb hX hbl hbA hS (wk_in rfl) dL_law_319 ?_
      refine wk_i (xs 6) rfl ?_
      have hPc := hP.sub (ws' := [(q59, .inr (12, [.ref q61, .ref q62, .ref q63, .ref q64, .ref q65, .ref q66, .ref q81, .ref q82, .ref q83, .ref q84, .ref q85, .ref q86, .int 0, .ref q87, .ref q88, .ref q89, .int 9, .int 0, .int 0, .ref q67, .ref q90, .ref q68, .int 0, .int 2, .ref q80, .ref q69, .ref q70, .ref q71, .int 0, .ref q72, .int 0, .ref q91, .ref q92, .ref q93, .ref q94, .int 0, .ref q73, .int 0, .int 0, .ref q95, .ref q96, .ref q97, .ref q98, .int 0, .int 0, .int 0, .int 0, .ref q99, .int 0, .ref q100, .ref q101, .ref q102, .ref q103, .int 0, .ref q74, .ref q75, .ref q76, .ref q77, .int 0, .ref q78, .ref q79, .ref q104]))]) [0] rfl
      have hDc := hD.sub (ws' := [(q59, .inr (12, [.ref q61, .ref q62, .ref q63, .ref q64, .ref q65, .ref q66, .ref q81, .ref q82, .ref q83, .ref q84, .ref q85, .ref q86, .int 0, .ref q87, .ref q88, .ref q89, .int 9, .int 0, .int 0, .ref q67, .ref q90, .ref q68, .int 0, .int 2, .ref q80, .ref q69, .ref q70, .ref q71, .int 0, .ref q72, .int 0, .ref q91, .ref q92, .ref q93, .ref q94, .int 0, .ref q73, .int 0, .int 0, .ref q95, .ref q96, .ref q97, .ref q98, .int 0, .int 0, .int 0, .int 0, .ref q99, .int 0, .ref q100, .ref q101, .ref q102, .ref q103, .int 0, .ref q74, .ref q75, .ref q76, .ref q77, .int 0, .ref q78, .ref q79, .ref q104]))]) [0] (by decide) rfl
      have hFc := va_free (wc := [(q59, .inr (12, [.ref q61, .ref q62, .ref q63, .ref q64, .ref q65, .ref q66, .ref q81, .ref q82, .ref q83, .ref q84, .ref q85, .ref q86, .int 0, .ref q87, .ref q88, .ref q89, .int 9, .int 0, .int 0, .ref q67, .ref q90, .ref q68, .int 0, .int 2, .ref q80, .ref q69, .ref q70, .ref q71, .int 0, .ref q72, .int 0, .ref q91, .ref q92, .ref q93, .ref q94, .int 0, .ref q73, .int 0, .int 0, .ref q95, .ref q96, .ref q97, .ref q98, .int 0, .int 0, .int 0, .int 0, .ref q99, .int 0, .ref q100, .ref q101, .ref q102, .ref q103, .int 0, .ref q74, .ref q75, .ref q76, .ref q77, .int 0, .ref q78, .ref q79, .ref q104]))]) hD hS hA [0] rfl
      refine va_calli (va_runV (As := [.int (xs 1), .int (xs 2), .int (xs 3), .int (xs 4), .int (xs 5), .int (xs 6)]) (rest := [.int (-1)]) ⟨hx, hb, hml, hown, hts⟩ (kX12_limb l D G q59 (xs 1) (xs 2) (xs 3) (xs 4) (xs 5) (xs 6) q61 q62 q63 q64 q65 q66 q81 q82 q83 q84 q85 q86 q87 q88 q89 q67 q90 q68 q80 q69 q70 q71 q72 q91 q92 q93 q94 q73 q95 q96 q97 q98 q99 q100 q101 q102 q103 q74 q75 q76 q77 q78 q79 q104 H.size) (cwV 6 hts gL_law_X12_limb rfl rfl rfl (by decide +kernel) ⟨Nat.le_of_ble_eq_true rfl, Nat.le_of_ble_eq_true rfl⟩) ⟨wB_blind, va_recv hK hPc (ci := 12) (q0 := 0) rfl rfl, wB_pre hPc hK hDc hN⟩ rfl rfl hl.1 rfl (lv_room (Nat.le_of_ble_eq_true rfl)) dL_law_320 ⟨Nat.le_of_ble_eq_true rfl, Nat.le_of_ble_eq_true rfl⟩) hS (fun q _ h => hFc q h) hFc (fun r112 u t H1 locs ht hvm hr112 hB hz1 hk1 hS => ?_)
      obtain ⟨hP, hD⟩ := va_join (wr := []) (w1 := []) hP hD [0] [] rfl rfl (by decide) (by decide) hk1 hFc wP_nil wD_nil
      clear hPc hDc
      generalize H1 = H at hP hS ⊢
      have hP : va_P D vwCl [] H := hP
      have hD : va_D A [] := hD
      subst hr112
      refine lv_icmp_eq (tgt := 1531) hx hb dL_law_323 (by decide) (fun _ => ?_) (fun h9 => absurd h9 (by decide))
      refine lv_iinc (v := 7) (lv' := [(4, .int 7), (3, .ref q105), (2, .ref q59), (1, .ref q1), (0, .ref b)]) hx hb dL_law_1531 hl (k := 0) rfl (by decide) (by decide) rfl (fun ls hl => ?_)
      refine lv_goto (tgt := 23) hx hb dL_law_1534 (by decide) ?_
      refine lv_iload hx hb dL_law_23 (lv_at hl 0 rfl) ?_
      refine lv_aload_n hx hb dL_law_25 rfl (lv_at hl 4 rfl) ?_
      refine va_slen hx hb hX hbl hbA hS dL_law_26 ?_
      refine wk_i 7 rfl ?_
      refine lv_bipush (v := 7) hx hb dL_law_27 (by decide) ?_
      refine lv_isub hx hb dL_law_29 ?_
      refine wk_i 0 (by decide) ?_
      refine lv_icmp_gt (tgt := 1537) hx hb dL_law_30 (by decide) (fun _ => ?_) (fun h9 => absurd h9 (by decide))
      refine lv_iconst (v := 1) hx hb dL_law_1537 (by decide) ?_
      refine va_forget (fun q hq => by have h9 := hS.2.2 q hq; rw [hAe] at h9; exact h9) ?_
      refine W.widen (k := 600002) (n := 7302232) (by omega) (by omega) ?_
      exact lw_ret hx hb hr hlocks dL_law_1538
    by_cases s113 : vs = 2
    · subst s113
      refine lv_tableIn (off := 288) (tgt := 328) hx hb dL_law_40 (by decide) (by decide) (by decide) (by decide) ?_
      have hP := hP.sub (ws' := [(q1, .inr (11, [.ref q3, .ref q26, .ref q28, .ref q35, .ref q39, .ref q43, .ref q46, .ref q52])), (q3, .inr (8, [.ref q4, .ref q54, .ref q55, .ref q5, .ref q6, .int 0, .int 0, .int 9, .int 0, .int 0])), (q59, .inr (12, [.ref q61, .ref q62, .ref q63, .ref q64, .ref q65, .ref q66, .ref q81, .ref q82, .ref q83, .ref q84, .ref q85, .ref q86, .int 0, .ref q87, .ref q88, .ref q89, .int 9, .int 0, .int 0, .ref q67, .ref q90, .ref q68, .int 0, .int 2, .ref q80, .ref q69, .ref q70, .ref q71, .int 0, .ref q72, .int 0, .ref q91, .ref q92, .ref q93, .ref q94, .int 0, .ref q73, .int 0, .int 0, .ref q95, .ref q96, .ref q97, .ref q98, .int 0, .int 0, .int 0, .int 0, .ref q99, .int 0, .ref q100, .ref q101, .ref q102, .ref q103, .int 0, .ref q74, .ref q75, .ref q76, .ref q77, .int 0, .ref q78, .ref q79, .ref q104]))]) [0, 1, 71] rfl
      have hD := hD.sub (ws' := [(q1, .inr (11, [.ref q3, .ref q26, .ref q28, .ref q35, .ref q39, .ref q43, .ref q46, .ref q52])), (q3, .inr (8, [.ref q4, .ref q54, .ref q55, .ref q5, .ref q6, .int 0, .int 0, .int 9, .int 0, .int 0])), (q59, .inr (12, [.ref q61, .ref q62, .ref q63, .ref q64, .ref q65, .ref q66, .ref q81, .ref q82, .ref q83, .ref q84, .ref q85, .ref q86, .int 0, .ref q87, .ref q88, .ref q89, .int 9, .int 0, .int 0, .ref q67, .ref q90, .ref q68, .int 0, .int 2, .ref q80, .ref q69, .ref q70, .ref q71, .int 0, .ref q72, .int 0, .ref q91, .ref q92, .ref q93, .ref q94, .int 0, .ref q73, .int 0, .int 0, .ref q95, .ref q96, .ref q97, .ref q98, .int 0, .int 0, .int 0, .int 0, .ref q99, .int 0, .ref q100, .ref q101, .ref q102, .ref q103, .int 0, .ref q74, .ref q75, .ref q76, .ref q77, .int 0, .ref q78, .ref q79, .ref q104]))]) [0, 1, 71] (by decide) rfl
      refine lv_aload_n hx hb dL_law_328 rfl (lv_at hl 3 rfl) ?_
      refine lv_aload_n hx hb dL_law_329 rfl (lv_at hl 4 rfl) ?_
      refine lv_iload hx hb dL_law_330 (lv_at hl 0 rfl) ?_
      refine lv_iconst (v := 1) hx hb dL_law_332 (by decide) ?_
      refine lv_iadd hx hb dL_law_333 ?_
      refine wk_i 1 (by decide) ?_
      refine va_sld hx hb hX hbl hbA hS (wk_in rfl) dL_law_334 ?_
      refine wk_i (xs 1) rfl ?_
      refine lv_aload_n hx hb dL_law_335 rfl (lv_at hl 4 rfl) ?_
      refine lv_iload hx hb dL_law_336 (lv_at hl 0 rfl) ?_
      refine lv_iconst (v := 2) hx hb dL_law_338 (by decide) ?_
      refine lv_iadd hx hb dL_law_339 ?_
      refine wk_i 2 (by decide) ?_
      refine va_sld hx hb hX hbl hbA hS (wk_in rfl) dL_law_340 ?_
      refine wk_i (xs 2) rfl ?_
      refine lv_aload_n hx hb dL_law_341 rfl (lv_at hl 4 rfl) ?_
      refine lv_iload hx hb dL_law_342 (lv_at hl 0 rfl) ?_
      refine lv_iconst (v := 3) hx hb dL_law_344 (by decide) ?_
      refine lv_iadd hx hb dL_law_345 ?_
      refine wk_i 3 (by decide) ?_
      refine va_sld hx hb hX hbl hbA hS (wk_in rfl) dL_law_346 ?_
      refine wk_i (xs 3) rfl ?_
      refine lv_aload_n hx hb dL_law_347 rfl (lv_at hl 4 rfl) ?_
      refine lv_iload hx hb dL_law_348 (lv_at hl 0 rfl) ?_
      refine lv_iconst (v := 4) hx hb dL_law_350 (by decide) ?_
      refine lv_iadd hx hb dL_law_351 ?_
      refine wk_i 4 (by decide) ?_
      refine va_sld hx hb hX hbl hbA hS (wk_in rfl) dL_law_352 ?_
      refine wk_i (xs 4) rfl ?_
      have hPc := hP.sub (ws' := [(q1, .inr (11, [.ref q3, .ref q26, .ref q28, .ref q35, .ref q39, .ref q43, .ref q46, .ref q52])), (q3, .inr (8, [.ref q4, .ref q54, .ref q55, .ref q5, .ref q6, .int 0, .int 0, .int 9, .int 0, .int 0]))]) [0, 1] rfl
      have hDc := hD.sub (ws' := [(q1, .inr (11, [.ref q3, .ref q26, .ref q28, .ref q35, .ref q39, .ref q43, .ref q46, .ref q52])), (q3, .inr (8, [.ref q4, .ref q54, .ref q55, .ref q5, .ref q6, .int 0, .int 0, .int 9, .int 0, .int 0]))]) [0, 1] (by decide) rfl
      have hFc := va_free (wc := [(q1, .inr (11, [.ref q3, .ref q26, .ref q28, .ref q35, .ref q39, .ref q43, .ref q46, .ref q52])), (q3, .inr (8, [.ref q4, .ref q54, .ref q55, .ref q5, .ref q6, .int 0, .int 0, .int 9, .int 0, .int 0]))]) hD hS hA [0, 1] rfl
      refine va_calli (va_runV (As := [.int (xs 1), .int (xs 2), .int (xs 3), .int (xs 4)]) (rest := []) ⟨hx, hb, hml, hown, hts⟩ (kX11_string l D G q1 (xs 1) (xs 2) (xs 3) (xs 4) q3 q26 q28 q35 q39 q43 q46 q52 q4 q54 q55 q5 q6 H.size) (cwV 4 hts gL_law_X11_string rfl rfl rfl (by decide +kernel) ⟨Nat.le_of_ble_eq_true rfl, Nat.le_of_ble_eq_true rfl⟩) ⟨wB_blind, va_recv hK hPc (ci := 11) (q0 := 0) rfl rfl, wB_pre hPc hK hDc hN⟩ rfl rfl hl.1 rfl (lv_room (Nat.le_of_ble_eq_true rfl)) dL_law_353 ⟨Nat.le_of_ble_eq_true rfl, Nat.le_of_ble_eq_true rfl⟩) hS (fun q _ h => hFc q h) hFc (fun r114 u t H1 locs ht hvm hr114 hB hz1 hk1 hS => ?_)
      obtain ⟨hP, hD⟩ := va_join (wr := [(q59, .inr (12, [.ref q61, .ref q62, .ref q63, .ref q64, .ref q65, .ref q66, .ref q81, .ref q82, .ref q83, .ref q84, .ref q85, .ref q86, .int 0, .ref q87, .ref q88, .ref q89, .int 9, .int 0, .int 0, .ref q67, .ref q90, .ref q68, .int 0, .int 2, .ref q80, .ref q69, .ref q70, .ref q71, .int 0, .ref q72, .int 0, .ref q91, .ref q92, .ref q93, .ref q94, .int 0, .ref q73, .int 0, .int 0, .ref q95, .ref q96, .ref q97, .ref q98, .int 0, .int 0, .int 0, .int 0, .ref q99, .int 0, .ref q100, .ref q101, .ref q102, .ref q103, .int 0, .ref q74, .ref q75, .ref q76, .ref q77, .int 0, .ref q78, .ref q79, .ref q104]))]) (w1 := []) hP hD [0, 1] [2] rfl rfl (by decide) (by decide) hk1 hFc wP_nil wD_nil
      clear hPc hDc
      generalize H1 = H at hP hS ⊢
      have hP : va_P D vwCl [(q59, .inr (12, [.ref q61, .ref q62, .ref q63, .ref q64, .ref q65, .ref q66, .ref q81, .ref q82, .ref q83, .ref q84, .ref q85, .ref q86, .int 0, .ref q87, .ref q88, .ref q89, .int 9, .int 0, .int 0, .ref q67, .ref q90, .ref q68, .int 0, .int 2, .ref q80, .ref q69, .ref q70, .ref q71, .int 0, .ref q72, .int 0, .ref q91, .ref q92, .ref q93, .ref q94, .int 0, .ref q73, .int 0, .int 0, .ref q95, .ref q96, .ref q97, .ref q98, .int 0, .int 0, .int 0, .int 0, .ref q99, .int 0, .ref q100, .ref q101, .ref q102, .ref q103, .int 0, .ref q74, .ref q75, .ref q76, .ref q77, .int 0, .ref q78, .ref q79, .ref q104]))] H := hP
      have hD : va_D A [(q59, .inr (12, [.ref q61, .ref q62, .ref q63, .ref q64, .ref q65, .ref q66, .ref q81, .ref q82, .ref q83, .ref q84, .ref q85, .ref q86, .int 0, .ref q87, .ref q88, .ref q89, .int 9, .int 0, .int 0, .ref q67, .ref q90, .ref q68, .int 0, .int 2, .ref q80, .ref q69, .ref q70, .ref q71, .int 0, .ref q72, .int 0, .ref q91, .ref q92, .ref q93, .ref q94, .int 0, .ref q73, .int 0, .int 0, .ref q95, .ref q96, .ref q97, .ref q98, .int 0, .int 0, .int 0, .int 0, .ref q99, .int 0, .ref q100, .ref q101, .ref q102, .ref q103, .int 0, .ref q74, .ref q75, .ref q76, .ref q77, .int 0, .ref q78, .ref q79, .ref q104]))] := hD
      subst hr114
      refine lv_aload_n hx hb dL_law_356 rfl (lv_at hl 2 rfl) ?_
      refine lv_aload_n hx hb dL_law_357 rfl (lv_at hl 4 rfl) ?_
      refine lv_iload hx hb dL_law_358 (lv_at hl 0 rfl) ?_
      refine lv_iconst (v := 1) hx hb dL_law_360 (by decide) ?_
      refine lv_iadd hx hb dL_law_361 ?_
      refine wk_i 1 (by decide) ?_
      refine va_sld hx hb hX hbl hbA hS (wk_in rfl) dL_law_362 ?_
      refine wk_i (xs 1) rfl ?_
      refine lv_aload_n hx hb dL_law_363 rfl (lv_at hl 4 rfl) ?_
      refine lv_iload hx hb dL_law_364 (lv_at hl 0 rfl) ?_
      refine lv_iconst (v := 2) hx hb dL_law_366 (by decide) ?_
      refine lv_iadd hx hb dL_law_367 ?_
      refine wk_i 2 (by decide) ?_
      refine va_sld hx hb hX hbl hbA hS (wk_in rfl) dL_law_368 ?_
      refine wk_i (xs 2) rfl ?_
      refine lv_aload_n hx hb dL_law_369 rfl (lv_at hl 4 rfl) ?_
      refine lv_iload hx hb dL_law_370 (lv_at hl 0 rfl) ?_
      refine lv_iconst (v := 3) hx hb dL_law_372 (by decide) ?_
      refine lv_iadd hx hb dL_law_373 ?_
      refine wk_i 3 (by decide) ?_
      refine va_sld hx hb hX hbl hbA hS (wk_in rfl) dL_law_374 ?_
      refine wk_i (xs 3) rfl ?_
      refine lv_aload_n hx hb dL_law_375 rfl (lv_at hl 4 rfl) ?_
      refine lv_iload hx hb dL_law_376 (lv_at hl 0 rfl) ?_
      refine lv_iconst (v := 4) hx hb dL_law_378 (by decide) ?_
      refine lv_iadd hx hb dL_law_379 ?_
      refine wk_i 4 (by decide) ?_
      refine va_sld hx hb hX hbl hbA hS (wk_in rfl) dL_law_380 ?_
      refine wk_i (xs 4) rfl ?_
      have hPc := hP.sub (ws' := [(q59, .inr (12, [.ref q61, .ref q62, .ref q63, .ref q64, .ref q65, .ref q66, .ref q81, .ref q82, .ref q83, .ref q84, .ref q85, .ref q86, .int 0, .ref q87, .ref q88, .ref q89, .int 9, .int 0, .int 0, .ref q67, .ref q90, .ref q68, .int 0, .int 2, .ref q80, .ref q69, .ref q70, .ref q71, .int 0, .ref q72, .int 0, .ref q91, .ref q92, .ref q93, .ref q94, .int 0, .ref q73, .int 0, .int 0, .ref q95, .ref q96, .ref q97, .ref q98, .int 0, .int 0, .int 0, .int 0, .ref q99, .int 0, .ref q100, .ref q101, .ref q102, .ref q103, .int 0, .ref q74, .ref q75, .ref q76, .ref q77, .int 0, .ref q78, .ref q79, .ref q104]))]) [0] rfl
      have hDc := hD.sub (ws' := [(q59, .inr (12, [.ref q61, .ref q62, .ref q63, .ref q64, .ref q65, .ref q66, .ref q81, .ref q82, .ref q83, .ref q84, .ref q85, .ref q86, .int 0, .ref q87, .ref q88, .ref q89, .int 9, .int 0, .int 0, .ref q67, .ref q90, .ref q68, .int 0, .int 2, .ref q80, .ref q69, .ref q70, .ref q71, .int 0, .ref q72, .int 0, .ref q91, .ref q92, .ref q93, .ref q94, .int 0, .ref q73, .int 0, .int 0, .ref q95, .ref q96, .ref q97, .ref q98, .int 0, .int 0, .int 0, .int 0, .ref q99, .int 0, .ref q100, .ref q101, .ref q102, .ref q103, .int 0, .ref q74, .ref q75, .ref q76, .ref q77, .int 0, .ref q78, .ref q79, .ref q104]))]) [0] (by decide) rfl
      have hFc := va_free (wc := [(q59, .inr (12, [.ref q61, .ref q62, .ref q63, .ref q64, .ref q65, .ref q66, .ref q81, .ref q82, .ref q83, .ref q84, .ref q85, .ref q86, .int 0, .ref q87, .ref q88, .ref q89, .int 9, .int 0, .int 0, .ref q67, .ref q90, .ref q68, .int 0, .int 2, .ref q80, .ref q69, .ref q70, .ref q71, .int 0, .ref q72, .int 0, .ref q91, .ref q92, .ref q93, .ref q94, .int 0, .ref q73, .int 0, .int 0, .ref q95, .ref q96, .ref q97, .ref q98, .int 0, .int 0, .int 0, .int 0, .ref q99, .int 0, .ref q100, .ref q101, .ref q102, .ref q103, .int 0, .ref q74, .ref q75, .ref q76, .ref q77, .int 0, .ref q78, .ref q79, .ref q104]))]) hD hS hA [0] rfl
      refine va_calli (va_runV (As := [.int (xs 1), .int (xs 2), .int (xs 3), .int (xs 4)]) (rest := [.int (-1)]) ⟨hx, hb, hml, hown, hts⟩ (kX12_string l D G q59 (xs 1) (xs 2) (xs 3) (xs 4) q61 q62 q63 q64 q65 q66 q81 q82 q83 q84 q85 q86 q87 q88 q89 q67 q90 q68 q80 q69 q70 q71 q72 q91 q92 q93 q94 q73 q95 q96 q97 q98 q99 q100 q101 q102 q103 q74 q75 q76 q77 q78 q79 q104 H.size) (cwV 4 hts gL_law_X12_string rfl rfl rfl (by decide +kernel) ⟨Nat.le_of_ble_eq_true rfl, Nat.le_of_ble_eq_true rfl⟩) ⟨wB_blind, va_recv hK hPc (ci := 12) (q0 := 0) rfl rfl, wB_pre hPc hK hDc hN⟩ rfl rfl hl.1 rfl (lv_room (Nat.le_of_ble_eq_true rfl)) dL_law_381 ⟨Nat.le_of_ble_eq_true rfl, Nat.le_of_ble_eq_true rfl⟩) hS (fun q _ h => hFc q h) hFc (fun r115 u t H1 locs ht hvm hr115 hB hz1 hk1 hS => ?_)
      obtain ⟨hP, hD⟩ := va_join (wr := []) (w1 := []) hP hD [0] [] rfl rfl (by decide) (by decide) hk1 hFc wP_nil wD_nil
      clear hPc hDc
      generalize H1 = H at hP hS ⊢
      have hP : va_P D vwCl [] H := hP
      have hD : va_D A [] := hD
      subst hr115
      refine lv_icmp_eq (tgt := 1531) hx hb dL_law_384 (by decide) (fun _ => ?_) (fun h9 => absurd h9 (by decide))
      refine lv_iinc (v := 7) (lv' := [(4, .int 7), (3, .ref q105), (2, .ref q59), (1, .ref q1), (0, .ref b)]) hx hb dL_law_1531 hl (k := 0) rfl (by decide) (by decide) rfl (fun ls hl => ?_)
      refine lv_goto (tgt := 23) hx hb dL_law_1534 (by decide) ?_
      refine lv_iload hx hb dL_law_23 (lv_at hl 0 rfl) ?_
      refine lv_aload_n hx hb dL_law_25 rfl (lv_at hl 4 rfl) ?_
      refine va_slen hx hb hX hbl hbA hS dL_law_26 ?_
      refine wk_i 7 rfl ?_
      refine lv_bipush (v := 7) hx hb dL_law_27 (by decide) ?_
      refine lv_isub hx hb dL_law_29 ?_
      refine wk_i 0 (by decide) ?_
      refine lv_icmp_gt (tgt := 1537) hx hb dL_law_30 (by decide) (fun _ => ?_) (fun h9 => absurd h9 (by decide))
      refine lv_iconst (v := 1) hx hb dL_law_1537 (by decide) ?_
      refine va_forget (fun q hq => by have h9 := hS.2.2 q hq; rw [hAe] at h9; exact h9) ?_
      refine W.widen (k := 600002) (n := 7302232) (by omega) (by omega) ?_
      exact lw_ret hx hb hr hlocks dL_law_1538
    by_cases s116 : vs = 3
    · subst s116
      refine lv_tableIn (off := 349) (tgt := 389) hx hb dL_law_40 (by decide) (by decide) (by decide) (by decide) ?_
      have hP := hP.sub (ws' := [(q1, .inr (11, [.ref q3, .ref q26, .ref q28, .ref q35, .ref q39, .ref q43, .ref q46, .ref q52])), (q3, .inr (8, [.ref q4, .ref q54, .ref q55, .ref q5, .ref q6, .int 0, .int 0, .int 9, .int 0, .int 0])), (q59, .inr (12, [.ref q61, .ref q62, .ref q63, .ref q64, .ref q65, .ref q66, .ref q81, .ref q82, .ref q83, .ref q84, .ref q85, .ref q86, .int 0, .ref q87, .ref q88, .ref q89, .int 9, .int 0, .int 0, .ref q67, .ref q90, .ref q68, .int 0, .int 2, .ref q80, .ref q69, .ref q70, .ref q71, .int 0, .ref q72, .int 0, .ref q91, .ref q92, .ref q93, .ref q94, .int 0, .ref q73, .int 0, .int 0, .ref q95, .ref q96, .ref q97, .ref q98, .int 0, .int 0, .int 0, .int 0, .ref q99, .int 0, .ref q100, .ref q101, .ref q102, .ref q103, .int 0, .ref q74, .ref q75, .ref q76, .ref q77, .int 0, .ref q78, .ref q79, .ref q104]))]) [0, 1, 71] rfl
      have hD := hD.sub (ws' := [(q1, .inr (11, [.ref q3, .ref q26, .ref q28, .ref q35, .ref q39, .ref q43, .ref q46, .ref q52])), (q3, .inr (8, [.ref q4, .ref q54, .ref q55, .ref q5, .ref q6, .int 0, .int 0, .int 9, .int 0, .int 0])), (q59, .inr (12, [.ref q61, .ref q62, .ref q63, .ref q64, .ref q65, .ref q66, .ref q81, .ref q82, .ref q83, .ref q84, .ref q85, .ref q86, .int 0, .ref q87, .ref q88, .ref q89, .int 9, .int 0, .int 0, .ref q67, .ref q90, .ref q68, .int 0, .int 2, .ref q80, .ref q69, .ref q70, .ref q71, .int 0, .ref q72, .int 0, .ref q91, .ref q92, .ref q93, .ref q94, .int 0, .ref q73, .int 0, .int 0, .ref q95, .ref q96, .ref q97, .ref q98, .int 0, .int 0, .int 0, .int 0, .ref q99, .int 0, .ref q100, .ref q101, .ref q102, .ref q103, .int 0, .ref q74, .ref q75, .ref q76, .ref q77, .int 0, .ref q78, .ref q79, .ref q104]))]) [0, 1, 71] (by decide) rfl
      refine lv_aload_n hx hb dL_law_389 rfl (lv_at hl 3 rfl) ?_
      refine lv_aload_n hx hb dL_law_390 rfl (lv_at hl 4 rfl) ?_
      refine lv_iload hx hb dL_law_391 (lv_at hl 0 rfl) ?_
      refine lv_iconst (v := 1) hx hb dL_law_393 (by decide) ?_
      refine lv_iadd hx hb dL_law_394 ?_
      refine wk_i 1 (by decide) ?_
      refine va_sld hx hb hX hbl hbA hS (wk_in rfl) dL_law_395 ?_
      refine wk_i (xs 1) rfl ?_
      refine lv_aload_n hx hb dL_law_396 rfl (lv_at hl 4 rfl) ?_
      refine lv_iload hx hb dL_law_397 (lv_at hl 0 rfl) ?_
      refine lv_iconst (v := 2) hx hb dL_law_399 (by decide) ?_
      refine lv_iadd hx hb dL_law_400 ?_
      refine wk_i 2 (by decide) ?_
      refine va_sld hx hb hX hbl hbA hS (wk_in rfl) dL_law_401 ?_
      refine wk_i (xs 2) rfl ?_
      refine lv_aload_n hx hb dL_law_402 rfl (lv_at hl 4 rfl) ?_
      refine lv_iload hx hb dL_law_403 (lv_at hl 0 rfl) ?_
      refine lv_iconst (v := 3) hx hb dL_law_405 (by decide) ?_
      refine lv_iadd hx hb dL_law_406 ?_
      refine wk_i 3 (by decide) ?_
      refine va_sld hx hb hX hbl hbA hS (wk_in rfl) dL_law_407 ?_
      refine wk_i (xs 3) rfl ?_
      have hPc := hP.sub (ws' := [(q1, .inr (11, [.ref q3, .ref q26, .ref q28, .ref q35, .ref q39, .ref q43, .ref q46, .ref q52])), (q3, .inr (8, [.ref q4, .ref q54, .ref q55, .ref q5, .ref q6, .int 0, .int 0, .int 9, .int 0, .int 0]))]) [0, 1] rfl
      have hDc := hD.sub (ws' := [(q1, .inr (11, [.ref q3, .ref q26, .ref q28, .ref q35, .ref q39, .ref q43, .ref q46, .ref q52])), (q3, .inr (8, [.ref q4, .ref q54, .ref q55, .ref q5, .ref q6, .int 0, .int 0, .int 9, .int 0, .int 0]))]) [0, 1] (by decide) rfl
      have hFc := va_free (wc := [(q1, .inr (11, [.ref q3, .ref q26, .ref q28, .ref q35, .ref q39, .ref q43, .ref q46, .ref q52])), (q3, .inr (8, [.ref q4, .ref q54, .ref q55, .ref q5, .ref q6, .int 0, .int 0, .int 9, .int 0, .int 0]))]) hD hS hA [0, 1] rfl
      refine va_calli (va_runV (As := [.int (xs 1), .int (xs 2), .int (xs 3)]) (rest := []) ⟨hx, hb, hml, hown, hts⟩ (kX11_place l D G q1 (xs 1) (xs 2) (xs 3) q3 q26 q28 q35 q39 q43 q46 q52 q4 q54 q55 q5 q6 H.size) (cwV 3 hts gL_law_X11_place rfl rfl rfl (by decide +kernel) ⟨Nat.le_of_ble_eq_true rfl, Nat.le_of_ble_eq_true rfl⟩) ⟨wB_blind, va_recv hK hPc (ci := 11) (q0 := 0) rfl rfl, wB_pre hPc hK hDc hN⟩ rfl rfl hl.1 rfl (lv_room (Nat.le_of_ble_eq_true rfl)) dL_law_408 ⟨Nat.le_of_ble_eq_true rfl, Nat.le_of_ble_eq_true rfl⟩) hS (fun q _ h => hFc q h) hFc (fun r117 u t H1 locs ht hvm hr117 hB hz1 hk1 hS => ?_)
      obtain ⟨hP, hD⟩ := va_join (wr := [(q59, .inr (12, [.ref q61, .ref q62, .ref q63, .ref q64, .ref q65, .ref q66, .ref q81, .ref q82, .ref q83, .ref q84, .ref q85, .ref q86, .int 0, .ref q87, .ref q88, .ref q89, .int 9, .int 0, .int 0, .ref q67, .ref q90, .ref q68, .int 0, .int 2, .ref q80, .ref q69, .ref q70, .ref q71, .int 0, .ref q72, .int 0, .ref q91, .ref q92, .ref q93, .ref q94, .int 0, .ref q73, .int 0, .int 0, .ref q95, .ref q96, .ref q97, .ref q98, .int 0, .int 0, .int 0, .int 0, .ref q99, .int 0, .ref q100, .ref q101, .ref q102, .ref q103, .int 0, .ref q74, .ref q75, .ref q76, .ref q77, .int 0, .ref q78, .ref q79, .ref q104]))]) (w1 := []) hP hD [0, 1] [2] rfl rfl (by decide) (by decide) hk1 hFc wP_nil wD_nil
      clear hPc hDc
      generalize H1 = H at hP hS ⊢
      have hP : va_P D vwCl [(q59, .inr (12, [.ref q61, .ref q62, .ref q63, .ref q64, .ref q65, .ref q66, .ref q81, .ref q82, .ref q83, .ref q84, .ref q85, .ref q86, .int 0, .ref q87, .ref q88, .ref q89, .int 9, .int 0, .int 0, .ref q67, .ref q90, .ref q68, .int 0, .int 2, .ref q80, .ref q69, .ref q70, .ref q71, .int 0, .ref q72, .int 0, .ref q91, .ref q92, .ref q93, .ref q94, .int 0, .ref q73, .int 0, .int 0, .ref q95, .ref q96, .ref q97, .ref q98, .int 0, .int 0, .int 0, .int 0, .ref q99, .int 0, .ref q100, .ref q101, .ref q102, .ref q103, .int 0, .ref q74, .ref q75, .ref q76, .ref q77, .int 0, .ref q78, .ref q79, .ref q104]))] H := hP
      have hD : va_D A [(q59, .inr (12, [.ref q61, .ref q62, .ref q63, .ref q64, .ref q65, .ref q66, .ref q81, .ref q82, .ref q83, .ref q84, .ref q85, .ref q86, .int 0, .ref q87, .ref q88, .ref q89, .int 9, .int 0, .int 0, .ref q67, .ref q90, .ref q68, .int 0, .int 2, .ref q80, .ref q69, .ref q70, .ref q71, .int 0, .ref q72, .int 0, .ref q91, .ref q92, .ref q93, .ref q94, .int 0, .ref q73, .int 0, .int 0, .ref q95, .ref q96, .ref q97, .ref q98, .int 0, .int 0, .int 0, .int 0, .ref q99, .int 0, .ref q100, .ref q101, .ref q102, .ref q103, .int 0, .ref q74, .ref q75, .ref q76, .ref q77, .int 0, .ref q78, .ref q79, .ref q104]))] := hD
      subst hr117
      refine lv_aload_n hx hb dL_law_411 rfl (lv_at hl 2 rfl) ?_
      refine lv_aload_n hx hb dL_law_412 rfl (lv_at hl 4 rfl) ?_
      refine lv_iload hx hb dL_law_413 (lv_at hl 0 rfl) ?_
      refine lv_iconst (v := 1) hx hb dL_law_415 (by decide) ?_
      refine lv_iadd hx hb dL_law_416 ?_
      refine wk_i 1 (by decide) ?_
      refine va_sld hx hb hX hbl hbA hS (wk_in rfl) dL_law_417 ?_
      refine wk_i (xs 1) rfl ?_
      refine lv_aload_n hx hb dL_law_418 rfl (lv_at hl 4 rfl) ?_
      refine lv_iload hx hb dL_law_419 (lv_at hl 0 rfl) ?_
      refine lv_iconst (v := 2) hx hb dL_law_421 (by decide) ?_
      refine lv_iadd hx hb dL_law_422 ?_
      refine wk_i 2 (by decide) ?_
      refine va_sld hx hb hX hbl hbA hS (wk_in rfl) dL_law_423 ?_
      refine wk_i (xs 2) rfl ?_
      refine lv_aload_n hx hb dL_law_424 rfl (lv_at hl 4 rfl) ?_
      refine lv_iload hx hb dL_law_425 (lv_at hl 0 rfl) ?_
      refine lv_iconst (v := 3) hx hb dL_law_427 (by decide) ?_
      refine lv_iadd hx hb dL_law_428 ?_
      refine wk_i 3 (by decide) ?_
      refine va_sld hx hb hX hbl hbA hS (wk_in rfl) dL_law_429 ?_
      refine wk_i (xs 3) rfl ?_
      have hPc := hP.sub (ws' := [(q59, .inr (12, [.ref q61, .ref q62, .ref q63, .ref q64, .ref q65, .ref q66, .ref q81, .ref q82, .ref q83, .ref q84, .ref q85, .ref q86, .int 0, .ref q87, .ref q88, .ref q89, .int 9, .int 0, .int 0, .ref q67, .ref q90, .ref q68, .int 0, .int 2, .ref q80, .ref q69, .ref q70, .ref q71, .int 0, .ref q72, .int 0, .ref q91, .ref q92, .ref q93, .ref q94, .int 0, .ref q73, .int 0, .int 0, .ref q95, .ref q96, .ref q97, .ref q98, .int 0, .int 0, .int 0, .int 0, .ref q99, .int 0, .ref q100, .ref q101, .ref q102, .ref q103, .int 0, .ref q74, .ref q75, .ref q76, .ref q77, .int 0, .ref q78, .ref q79, .ref q104]))]) [0] rfl
      have hDc := hD.sub (ws' := [(q59, .inr (12, [.ref q61, .ref q62, .ref q63, .ref q64, .ref q65, .ref q66, .ref q81, .ref q82, .ref q83, .ref q84, .ref q85, .ref q86, .int 0, .ref q87, .ref q88, .ref q89, .int 9, .int 0, .int 0, .ref q67, .ref q90, .ref q68, .int 0, .int 2, .ref q80, .ref q69, .ref q70, .ref q71, .int 0, .ref q72, .int 0, .ref q91, .ref q92, .ref q93, .ref q94, .int 0, .ref q73, .int 0, .int 0, .ref q95, .ref q96, .ref q97, .ref q98, .int 0, .int 0, .int 0, .int 0, .ref q99, .int 0, .ref q100, .ref q101, .ref q102, .ref q103, .int 0, .ref q74, .ref q75, .ref q76, .ref q77, .int 0, .ref q78, .ref q79, .ref q104]))]) [0] (by decide) rfl
      have hFc := va_free (wc := [(q59, .inr (12, [.ref q61, .ref q62, .ref q63, .ref q64, .ref q65, .ref q66, .ref q81, .ref q82, .ref q83, .ref q84, .ref q85, .ref q86, .int 0, .ref q87, .ref q88, .ref q89, .int 9, .int 0, .int 0, .ref q67, .ref q90, .ref q68, .int 0, .int 2, .ref q80, .ref q69, .ref q70, .ref q71, .int 0, .ref q72, .int 0, .ref q91, .ref q92, .ref q93, .ref q94, .int 0, .ref q73, .int 0, .int 0, .ref q95, .ref q96, .ref q97, .ref q98, .int 0, .int 0, .int 0, .int 0, .ref q99, .int 0, .ref q100, .ref q101, .ref q102, .ref q103, .int 0, .ref q74, .ref q75, .ref q76, .ref q77, .int 0, .ref q78, .ref q79, .ref q104]))]) hD hS hA [0] rfl
      refine va_calli (va_runV (As := [.int (xs 1), .int (xs 2), .int (xs 3)]) (rest := [.int 0]) ⟨hx, hb, hml, hown, hts⟩ (kX12_place l D G q59 (xs 1) (xs 2) (xs 3) q61 q62 q63 q64 q65 q66 q81 q82 q83 q84 q85 q86 q87 q88 q89 q67 q90 q68 q80 q69 q70 q71 q72 q91 q92 q93 q94 q73 q95 q96 q97 q98 q99 q100 q101 q102 q103 q74 q75 q76 q77 q78 q79 q104 H.size) (cwV 3 hts gL_law_X12_place rfl rfl rfl (by decide +kernel) ⟨Nat.le_of_ble_eq_true rfl, Nat.le_of_ble_eq_true rfl⟩) ⟨wB_blind, va_recv hK hPc (ci := 12) (q0 := 0) rfl rfl, wB_pre hPc hK hDc hN⟩ rfl rfl hl.1 rfl (lv_room (Nat.le_of_ble_eq_true rfl)) dL_law_430 ⟨Nat.le_of_ble_eq_true rfl, Nat.le_of_ble_eq_true rfl⟩) hS (fun q _ h => hFc q h) hFc (fun r118 u t H1 locs ht hvm hr118 hB hz1 hk1 hS => ?_)
      obtain ⟨hP, hD⟩ := va_join (wr := []) (w1 := []) hP hD [0] [] rfl rfl (by decide) (by decide) hk1 hFc wP_nil wD_nil
      clear hPc hDc
      generalize H1 = H at hP hS ⊢
      have hP : va_P D vwCl [] H := hP
      have hD : va_D A [] := hD
      subst hr118
      refine lv_icmp_eq (tgt := 1531) hx hb dL_law_433 (by decide) (fun _ => ?_) (fun h9 => absurd h9 (by decide))
      refine lv_iinc (v := 7) (lv' := [(4, .int 7), (3, .ref q105), (2, .ref q59), (1, .ref q1), (0, .ref b)]) hx hb dL_law_1531 hl (k := 0) rfl (by decide) (by decide) rfl (fun ls hl => ?_)
      refine lv_goto (tgt := 23) hx hb dL_law_1534 (by decide) ?_
      refine lv_iload hx hb dL_law_23 (lv_at hl 0 rfl) ?_
      refine lv_aload_n hx hb dL_law_25 rfl (lv_at hl 4 rfl) ?_
      refine va_slen hx hb hX hbl hbA hS dL_law_26 ?_
      refine wk_i 7 rfl ?_
      refine lv_bipush (v := 7) hx hb dL_law_27 (by decide) ?_
      refine lv_isub hx hb dL_law_29 ?_
      refine wk_i 0 (by decide) ?_
      refine lv_icmp_gt (tgt := 1537) hx hb dL_law_30 (by decide) (fun _ => ?_) (fun h9 => absurd h9 (by decide))
      refine lv_iconst (v := 1) hx hb dL_law_1537 (by decide) ?_
      refine va_forget (fun q hq => by have h9 := hS.2.2 q hq; rw [hAe] at h9; exact h9) ?_
      refine W.widen (k := 600002) (n := 7302232) (by omega) (by omega) ?_
      exact lw_ret hx hb hr hlocks dL_law_1538
    by_cases s119 : vs = 4
    · subst s119
      refine lv_tableIn (off := 398) (tgt := 438) hx hb dL_law_40 (by decide) (by decide) (by decide) (by decide) ?_
      have hP := hP.sub (ws' := [(q1, .inr (11, [.ref q3, .ref q26, .ref q28, .ref q35, .ref q39, .ref q43, .ref q46, .ref q52])), (q3, .inr (8, [.ref q4, .ref q54, .ref q55, .ref q5, .ref q6, .int 0, .int 0, .int 9, .int 0, .int 0])), (q59, .inr (12, [.ref q61, .ref q62, .ref q63, .ref q64, .ref q65, .ref q66, .ref q81, .ref q82, .ref q83, .ref q84, .ref q85, .ref q86, .int 0, .ref q87, .ref q88, .ref q89, .int 9, .int 0, .int 0, .ref q67, .ref q90, .ref q68, .int 0, .int 2, .ref q80, .ref q69, .ref q70, .ref q71, .int 0, .ref q72, .int 0, .ref q91, .ref q92, .ref q93, .ref q94, .int 0, .ref q73, .int 0, .int 0, .ref q95, .ref q96, .ref q97, .ref q98, .int 0, .int 0, .int 0, .int 0, .ref q99, .int 0, .ref q100, .ref q101, .ref q102, .ref q103, .int 0, .ref q74, .ref q75, .ref q76, .ref q77, .int 0, .ref q78, .ref q79, .ref q104]))]) [0, 1, 71] rfl
      have hD := hD.sub (ws' := [(q1, .inr (11, [.ref q3, .ref q26, .ref q28, .ref q35, .ref q39, .ref q43, .ref q46, .ref q52])), (q3, .inr (8, [.ref q4, .ref q54, .ref q55, .ref q5, .ref q6, .int 0, .int 0, .int 9, .int 0, .int 0])), (q59, .inr (12, [.ref q61, .ref q62, .ref q63, .ref q64, .ref q65, .ref q66, .ref q81, .ref q82, .ref q83, .ref q84, .ref q85, .ref q86, .int 0, .ref q87, .ref q88, .ref q89, .int 9, .int 0, .int 0, .ref q67, .ref q90, .ref q68, .int 0, .int 2, .ref q80, .ref q69, .ref q70, .ref q71, .int 0, .ref q72, .int 0, .ref q91, .ref q92, .ref q93, .ref q94, .int 0, .ref q73, .int 0, .int 0, .ref q95, .ref q96, .ref q97, .ref q98, .int 0, .int 0, .int 0, .int 0, .ref q99, .int 0, .ref q100, .ref q101, .ref q102, .ref q103, .int 0, .ref q74, .ref q75, .ref q76, .ref q77, .int 0, .ref q78, .ref q79, .ref q104]))]) [0, 1, 71] (by decide) rfl
      refine lv_aload_n hx hb dL_law_438 rfl (lv_at hl 3 rfl) ?_
      refine lv_aload_n hx hb dL_law_439 rfl (lv_at hl 4 rfl) ?_
      refine lv_iload hx hb dL_law_440 (lv_at hl 0 rfl) ?_
      refine lv_iconst (v := 1) hx hb dL_law_442 (by decide) ?_
      refine lv_iadd hx hb dL_law_443 ?_
      refine wk_i 1 (by decide) ?_
      refine va_sld hx hb hX hbl hbA hS (wk_in rfl) dL_law_444 ?_
      refine wk_i (xs 1) rfl ?_
      refine lv_aload_n hx hb dL_law_445 rfl (lv_at hl 4 rfl) ?_
      refine lv_iload hx hb dL_law_446 (lv_at hl 0 rfl) ?_
      refine lv_iconst (v := 2) hx hb dL_law_448 (by decide) ?_
      refine lv_iadd hx hb dL_law_449 ?_
      refine wk_i 2 (by decide) ?_
      refine va_sld hx hb hX hbl hbA hS (wk_in rfl) dL_law_450 ?_
      refine wk_i (xs 2) rfl ?_
      refine lv_aload_n hx hb dL_law_451 rfl (lv_at hl 4 rfl) ?_
      refine lv_iload hx hb dL_law_452 (lv_at hl 0 rfl) ?_
      refine lv_iconst (v := 3) hx hb dL_law_454 (by decide) ?_
      refine lv_iadd hx hb dL_law_455 ?_
      refine wk_i 3 (by decide) ?_
      refine va_sld hx hb hX hbl hbA hS (wk_in rfl) dL_law_456 ?_
      refine wk_i (xs 3) rfl ?_
      have hPc := hP.sub (ws' := [(q1, .inr (11, [.ref q3, .ref q26, .ref q28, .ref q35, .ref q39, .ref q43, .ref q46, .ref q52])), (q3, .inr (8, [.ref q4, .ref q54, .ref q55, .ref q5, .ref q6, .int 0, .int 0, .int 9, .int 0, .int 0]))]) [0, 1] rfl
      have hDc := hD.sub (ws' := [(q1, .inr (11, [.ref q3, .ref q26, .ref q28, .ref q35, .ref q39, .ref q43, .ref q46, .ref q52])), (q3, .inr (8, [.ref q4, .ref q54, .ref q55, .ref q5, .ref q6, .int 0, .int 0, .int 9, .int 0, .int 0]))]) [0, 1] (by decide) rfl
      have hFc := va_free (wc := [(q1, .inr (11, [.ref q3, .ref q26, .ref q28, .ref q35, .ref q39, .ref q43, .ref q46, .ref q52])), (q3, .inr (8, [.ref q4, .ref q54, .ref q55, .ref q5, .ref q6, .int 0, .int 0, .int 9, .int 0, .int 0]))]) hD hS hA [0, 1] rfl
      refine va_calli (va_runV (As := [.int (xs 1), .int (xs 2), .int (xs 3)]) (rest := []) ⟨hx, hb, hml, hown, hts⟩ (kX11_pull l D G q1 (xs 1) (xs 2) (xs 3) q3 q26 q28 q35 q39 q43 q46 q52 q4 q54 q55 q5 q6 H.size) (cwV 3 hts gL_law_X11_pull rfl rfl rfl (by decide +kernel) ⟨Nat.le_of_ble_eq_true rfl, Nat.le_of_ble_eq_true rfl⟩) ⟨wB_blind, va_recv hK hPc (ci := 11) (q0 := 0) rfl rfl, wB_pre hPc hK hDc hN⟩ rfl rfl hl.1 rfl (lv_room (Nat.le_of_ble_eq_true rfl)) dL_law_457 ⟨Nat.le_of_ble_eq_true rfl, Nat.le_of_ble_eq_true rfl⟩) hS (fun q _ h => hFc q h) hFc (fun r120 u t H1 locs ht hvm hr120 hB hz1 hk1 hS => ?_)
      obtain ⟨hP, hD⟩ := va_join (wr := [(q59, .inr (12, [.ref q61, .ref q62, .ref q63, .ref q64, .ref q65, .ref q66, .ref q81, .ref q82, .ref q83, .ref q84, .ref q85, .ref q86, .int 0, .ref q87, .ref q88, .ref q89, .int 9, .int 0, .int 0, .ref q67, .ref q90, .ref q68, .int 0, .int 2, .ref q80, .ref q69, .ref q70, .ref q71, .int 0, .ref q72, .int 0, .ref q91, .ref q92, .ref q93, .ref q94, .int 0, .ref q73, .int 0, .int 0, .ref q95, .ref q96, .ref q97, .ref q98, .int 0, .int 0, .int 0, .int 0, .ref q99, .int 0, .ref q100, .ref q101, .ref q102, .ref q103, .int 0, .ref q74, .ref q75, .ref q76, .ref q77, .int 0, .ref q78, .ref q79, .ref q104]))]) (w1 := []) hP hD [0, 1] [2] rfl rfl (by decide) (by decide) hk1 hFc wP_nil wD_nil
      clear hPc hDc
      generalize H1 = H at hP hS ⊢
      have hP : va_P D vwCl [(q59, .inr (12, [.ref q61, .ref q62, .ref q63, .ref q64, .ref q65, .ref q66, .ref q81, .ref q82, .ref q83, .ref q84, .ref q85, .ref q86, .int 0, .ref q87, .ref q88, .ref q89, .int 9, .int 0, .int 0, .ref q67, .ref q90, .ref q68, .int 0, .int 2, .ref q80, .ref q69, .ref q70, .ref q71, .int 0, .ref q72, .int 0, .ref q91, .ref q92, .ref q93, .ref q94, .int 0, .ref q73, .int 0, .int 0, .ref q95, .ref q96, .ref q97, .ref q98, .int 0, .int 0, .int 0, .int 0, .ref q99, .int 0, .ref q100, .ref q101, .ref q102, .ref q103, .int 0, .ref q74, .ref q75, .ref q76, .ref q77, .int 0, .ref q78, .ref q79, .ref q104]))] H := hP
      have hD : va_D A [(q59, .inr (12, [.ref q61, .ref q62, .ref q63, .ref q64, .ref q65, .ref q66, .ref q81, .ref q82, .ref q83, .ref q84, .ref q85, .ref q86, .int 0, .ref q87, .ref q88, .ref q89, .int 9, .int 0, .int 0, .ref q67, .ref q90, .ref q68, .int 0, .int 2, .ref q80, .ref q69, .ref q70, .ref q71, .int 0, .ref q72, .int 0, .ref q91, .ref q92, .ref q93, .ref q94, .int 0, .ref q73, .int 0, .int 0, .ref q95, .ref q96, .ref q97, .ref q98, .int 0, .int 0, .int 0, .int 0, .ref q99, .int 0, .ref q100, .ref q101, .ref q102, .ref q103, .int 0, .ref q74, .ref q75, .ref q76, .ref q77, .int 0, .ref q78, .ref q79, .ref q104]))] := hD
      subst hr120
      refine lv_aload_n hx hb dL_law_460 rfl (lv_at hl 2 rfl) ?_
      refine lv_aload_n hx hb dL_law_461 rfl (lv_at hl 4 rfl) ?_
      refine lv_iload hx hb dL_law_462 (lv_at hl 0 rfl) ?_
      refine lv_iconst (v := 1) hx hb dL_law_464 (by decide) ?_
      refine lv_iadd hx hb dL_law_465 ?_
      refine wk_i 1 (by decide) ?_
      refine va_sld hx hb hX hbl hbA hS (wk_in rfl) dL_law_466 ?_
      refine wk_i (xs 1) rfl ?_
      refine lv_aload_n hx hb dL_law_467 rfl (lv_at hl 4 rfl) ?_
      refine lv_iload hx hb dL_law_468 (lv_at hl 0 rfl) ?_
      refine lv_iconst (v := 2) hx hb dL_law_470 (by decide) ?_
      refine lv_iadd hx hb dL_law_471 ?_
      refine wk_i 2 (by decide) ?_
      refine va_sld hx hb hX hbl hbA hS (wk_in rfl) dL_law_472 ?_
      refine wk_i (xs 2) rfl ?_
      refine lv_aload_n hx hb dL_law_473 rfl (lv_at hl 4 rfl) ?_
      refine lv_iload hx hb dL_law_474 (lv_at hl 0 rfl) ?_
      refine lv_iconst (v := 3) hx hb dL_law_476 (by decide) ?_
      refine lv_iadd hx hb dL_law_477 ?_
      refine wk_i 3 (by decide) ?_
      refine va_sld hx hb hX hbl hbA hS (wk_in rfl) dL_law_478 ?_
      refine wk_i (xs 3) rfl ?_
      have hPc := hP.sub (ws' := [(q59, .inr (12, [.ref q61, .ref q62, .ref q63, .ref q64, .ref q65, .ref q66, .ref q81, .ref q82, .ref q83, .ref q84, .ref q85, .ref q86, .int 0, .ref q87, .ref q88, .ref q89, .int 9, .int 0, .int 0, .ref q67, .ref q90, .ref q68, .int 0, .int 2, .ref q80, .ref q69, .ref q70, .ref q71, .int 0, .ref q72, .int 0, .ref q91, .ref q92, .ref q93, .ref q94, .int 0, .ref q73, .int 0, .int 0, .ref q95, .ref q96, .ref q97, .ref q98, .int 0, .int 0, .int 0, .int 0, .ref q99, .int 0, .ref q100, .ref q101, .ref q102, .ref q103, .int 0, .ref q74, .ref q75, .ref q76, .ref q77, .int 0, .ref q78, .ref q79, .ref q104]))]) [0] rfl
      have hDc := hD.sub (ws' := [(q59, .inr (12, [.ref q61, .ref q62, .ref q63, .ref q64, .ref q65, .ref q66, .ref q81, .ref q82, .ref q83, .ref q84, .ref q85, .ref q86, .int 0, .ref q87, .ref q88, .ref q89, .int 9, .int 0, .int 0, .ref q67, .ref q90, .ref q68, .int 0, .int 2, .ref q80, .ref q69, .ref q70, .ref q71, .int 0, .ref q72, .int 0, .ref q91, .ref q92, .ref q93, .ref q94, .int 0, .ref q73, .int 0, .int 0, .ref q95, .ref q96, .ref q97, .ref q98, .int 0, .int 0, .int 0, .int 0, .ref q99, .int 0, .ref q100, .ref q101, .ref q102, .ref q103, .int 0, .ref q74, .ref q75, .ref q76, .ref q77, .int 0, .ref q78, .ref q79, .ref q104]))]) [0] (by decide) rfl
      have hFc := va_free (wc := [(q59, .inr (12, [.ref q61, .ref q62, .ref q63, .ref q64, .ref q65, .ref q66, .ref q81, .ref q82, .ref q83, .ref q84, .ref q85, .ref q86, .int 0, .ref q87, .ref q88, .ref q89, .int 9, .int 0, .int 0, .ref q67, .ref q90, .ref q68, .int 0, .int 2, .ref q80, .ref q69, .ref q70, .ref q71, .int 0, .ref q72, .int 0, .ref q91, .ref q92, .ref q93, .ref q94, .int 0, .ref q73, .int 0, .int 0, .ref q95, .ref q96, .ref q97, .ref q98, .int 0, .int 0, .int 0, .int 0, .ref q99, .int 0, .ref q100, .ref q101, .ref q102, .ref q103, .int 0, .ref q74, .ref q75, .ref q76, .ref q77, .int 0, .ref q78, .ref q79, .ref q104]))]) hD hS hA [0] rfl
      refine va_calli (va_runV (As := [.int (xs 1), .int (xs 2), .int (xs 3)]) (rest := [.int 0]) ⟨hx, hb, hml, hown, hts⟩ (kX12_pull l D G q59 (xs 1) (xs 2) (xs 3) q61 q62 q63 q64 q65 q66 q81 q82 q83 q84 q85 q86 q87 q88 q89 q67 q90 q68 q80 q69 q70 q71 q72 q91 q92 q93 q94 q73 q95 q96 q97 q98 q99 q100 q101 q102 q103 q74 q75 q76 q77 q78 q79 q104 H.size) (cwV 3 hts gL_law_X12_pull rfl rfl rfl (by decide +kernel) ⟨Nat.le_of_ble_eq_true rfl, Nat.le_of_ble_eq_true rfl⟩) ⟨wB_blind, va_recv hK hPc (ci := 12) (q0 := 0) rfl rfl, wB_pre hPc hK hDc hN⟩ rfl rfl hl.1 rfl (lv_room (Nat.le_of_ble_eq_true rfl)) dL_law_479 ⟨Nat.le_of_ble_eq_true rfl, Nat.le_of_ble_eq_true rfl⟩) hS (fun q _ h => hFc q h) hFc (fun r121 u t H1 locs ht hvm hr121 hB hz1 hk1 hS => ?_)
      obtain ⟨hP, hD⟩ := va_join (wr := []) (w1 := []) hP hD [0] [] rfl rfl (by decide) (by decide) hk1 hFc wP_nil wD_nil
      clear hPc hDc
      generalize H1 = H at hP hS ⊢
      have hP : va_P D vwCl [] H := hP
      have hD : va_D A [] := hD
      subst hr121
      refine lv_icmp_eq (tgt := 1531) hx hb dL_law_482 (by decide) (fun _ => ?_) (fun h9 => absurd h9 (by decide))
      refine lv_iinc (v := 7) (lv' := [(4, .int 7), (3, .ref q105), (2, .ref q59), (1, .ref q1), (0, .ref b)]) hx hb dL_law_1531 hl (k := 0) rfl (by decide) (by decide) rfl (fun ls hl => ?_)
      refine lv_goto (tgt := 23) hx hb dL_law_1534 (by decide) ?_
      refine lv_iload hx hb dL_law_23 (lv_at hl 0 rfl) ?_
      refine lv_aload_n hx hb dL_law_25 rfl (lv_at hl 4 rfl) ?_
      refine va_slen hx hb hX hbl hbA hS dL_law_26 ?_
      refine wk_i 7 rfl ?_
      refine lv_bipush (v := 7) hx hb dL_law_27 (by decide) ?_
      refine lv_isub hx hb dL_law_29 ?_
      refine wk_i 0 (by decide) ?_
      refine lv_icmp_gt (tgt := 1537) hx hb dL_law_30 (by decide) (fun _ => ?_) (fun h9 => absurd h9 (by decide))
      refine lv_iconst (v := 1) hx hb dL_law_1537 (by decide) ?_
      refine va_forget (fun q hq => by have h9 := hS.2.2 q hq; rw [hAe] at h9; exact h9) ?_
      refine W.widen (k := 600002) (n := 7302232) (by omega) (by omega) ?_
      exact lw_ret hx hb hr hlocks dL_law_1538
    by_cases s122 : vs = 5
    · subst s122
      refine lv_tableIn (off := 447) (tgt := 487) hx hb dL_law_40 (by decide) (by decide) (by decide) (by decide) ?_
      have hP := hP.sub (ws' := [(q1, .inr (11, [.ref q3, .ref q26, .ref q28, .ref q35, .ref q39, .ref q43, .ref q46, .ref q52])), (q3, .inr (8, [.ref q4, .ref q54, .ref q55, .ref q5, .ref q6, .int 0, .int 0, .int 9, .int 0, .int 0])), (q59, .inr (12, [.ref q61, .ref q62, .ref q63, .ref q64, .ref q65, .ref q66, .ref q81, .ref q82, .ref q83, .ref q84, .ref q85, .ref q86, .int 0, .ref q87, .ref q88, .ref q89, .int 9, .int 0, .int 0, .ref q67, .ref q90, .ref q68, .int 0, .int 2, .ref q80, .ref q69, .ref q70, .ref q71, .int 0, .ref q72, .int 0, .ref q91, .ref q92, .ref q93, .ref q94, .int 0, .ref q73, .int 0, .int 0, .ref q95, .ref q96, .ref q97, .ref q98, .int 0, .int 0, .int 0, .int 0, .ref q99, .int 0, .ref q100, .ref q101, .ref q102, .ref q103, .int 0, .ref q74, .ref q75, .ref q76, .ref q77, .int 0, .ref q78, .ref q79, .ref q104]))]) [0, 1, 71] rfl
      have hD := hD.sub (ws' := [(q1, .inr (11, [.ref q3, .ref q26, .ref q28, .ref q35, .ref q39, .ref q43, .ref q46, .ref q52])), (q3, .inr (8, [.ref q4, .ref q54, .ref q55, .ref q5, .ref q6, .int 0, .int 0, .int 9, .int 0, .int 0])), (q59, .inr (12, [.ref q61, .ref q62, .ref q63, .ref q64, .ref q65, .ref q66, .ref q81, .ref q82, .ref q83, .ref q84, .ref q85, .ref q86, .int 0, .ref q87, .ref q88, .ref q89, .int 9, .int 0, .int 0, .ref q67, .ref q90, .ref q68, .int 0, .int 2, .ref q80, .ref q69, .ref q70, .ref q71, .int 0, .ref q72, .int 0, .ref q91, .ref q92, .ref q93, .ref q94, .int 0, .ref q73, .int 0, .int 0, .ref q95, .ref q96, .ref q97, .ref q98, .int 0, .int 0, .int 0, .int 0, .ref q99, .int 0, .ref q100, .ref q101, .ref q102, .ref q103, .int 0, .ref q74, .ref q75, .ref q76, .ref q77, .int 0, .ref q78, .ref q79, .ref q104]))]) [0, 1, 71] (by decide) rfl
      refine lv_aload_n hx hb dL_law_487 rfl (lv_at hl 3 rfl) ?_
      refine lv_aload_n hx hb dL_law_488 rfl (lv_at hl 4 rfl) ?_
      refine lv_iload hx hb dL_law_489 (lv_at hl 0 rfl) ?_
      refine lv_iconst (v := 1) hx hb dL_law_491 (by decide) ?_
      refine lv_iadd hx hb dL_law_492 ?_
      refine wk_i 1 (by decide) ?_
      refine va_sld hx hb hX hbl hbA hS (wk_in rfl) dL_law_493 ?_
      refine wk_i (xs 1) rfl ?_
      refine lv_aload_n hx hb dL_law_494 rfl (lv_at hl 4 rfl) ?_
      refine lv_iload hx hb dL_law_495 (lv_at hl 0 rfl) ?_
      refine lv_iconst (v := 2) hx hb dL_law_497 (by decide) ?_
      refine lv_iadd hx hb dL_law_498 ?_
      refine wk_i 2 (by decide) ?_
      refine va_sld hx hb hX hbl hbA hS (wk_in rfl) dL_law_499 ?_
      refine wk_i (xs 2) rfl ?_
      refine lv_aload_n hx hb dL_law_500 rfl (lv_at hl 4 rfl) ?_
      refine lv_iload hx hb dL_law_501 (lv_at hl 0 rfl) ?_
      refine lv_iconst (v := 3) hx hb dL_law_503 (by decide) ?_
      refine lv_iadd hx hb dL_law_504 ?_
      refine wk_i 3 (by decide) ?_
      refine va_sld hx hb hX hbl hbA hS (wk_in rfl) dL_law_505 ?_
      refine wk_i (xs 3) rfl ?_
      refine lv_if_eq (tgt := 513) hx hb dL_law_506 (by decide) (fun c123 => ?_) (fun c123 => ?_)
      · refine lv_iconst (v := 0) hx hb dL_law_513 (by decide) ?_
        have hPc := hP.sub (ws' := [(q1, .inr (11, [.ref q3, .ref q26, .ref q28, .ref q35, .ref q39, .ref q43, .ref q46, .ref q52])), (q3, .inr (8, [.ref q4, .ref q54, .ref q55, .ref q5, .ref q6, .int 0, .int 0, .int 9, .int 0, .int 0]))]) [0, 1] rfl
        have hDc := hD.sub (ws' := [(q1, .inr (11, [.ref q3, .ref q26, .ref q28, .ref q35, .ref q39, .ref q43, .ref q46, .ref q52])), (q3, .inr (8, [.ref q4, .ref q54, .ref q55, .ref q5, .ref q6, .int 0, .int 0, .int 9, .int 0, .int 0]))]) [0, 1] (by decide) rfl
        have hFc := va_free (wc := [(q1, .inr (11, [.ref q3, .ref q26, .ref q28, .ref q35, .ref q39, .ref q43, .ref q46, .ref q52])), (q3, .inr (8, [.ref q4, .ref q54, .ref q55, .ref q5, .ref q6, .int 0, .int 0, .int 9, .int 0, .int 0]))]) hD hS hA [0, 1] rfl
        refine va_calli (va_runV (As := [.int (xs 1), .int (xs 2), .int 0]) (rest := []) ⟨hx, hb, hml, hown, hts⟩ (kX11_mend l D G q1 (xs 1) (xs 2) 0 q3 q26 q28 q35 q39 q43 q46 q52 q4 q54 q55 q5 q6 H.size) (cwV 3 hts gL_law_X11_mend rfl rfl rfl (by decide +kernel) ⟨Nat.le_of_ble_eq_true rfl, Nat.le_of_ble_eq_true rfl⟩) ⟨wB_blind, va_recv hK hPc (ci := 11) (q0 := 0) rfl rfl, wB_pre hPc hK hDc hN⟩ rfl rfl hl.1 rfl (lv_room (Nat.le_of_ble_eq_true rfl)) dL_law_514 ⟨Nat.le_of_ble_eq_true rfl, Nat.le_of_ble_eq_true rfl⟩) hS (fun q _ h => hFc q h) hFc (fun r124 u t H1 locs ht hvm hr124 hB hz1 hk1 hS => ?_)
        obtain ⟨hP, hD⟩ := va_join (wr := [(q59, .inr (12, [.ref q61, .ref q62, .ref q63, .ref q64, .ref q65, .ref q66, .ref q81, .ref q82, .ref q83, .ref q84, .ref q85, .ref q86, .int 0, .ref q87, .ref q88, .ref q89, .int 9, .int 0, .int 0, .ref q67, .ref q90, .ref q68, .int 0, .int 2, .ref q80, .ref q69, .ref q70, .ref q71, .int 0, .ref q72, .int 0, .ref q91, .ref q92, .ref q93, .ref q94, .int 0, .ref q73, .int 0, .int 0, .ref q95, .ref q96, .ref q97, .ref q98, .int 0, .int 0, .int 0, .int 0, .ref q99, .int 0, .ref q100, .ref q101, .ref q102, .ref q103, .int 0, .ref q74, .ref q75, .ref q76, .ref q77, .int 0, .ref q78, .ref q79, .ref q104]))]) (w1 := []) hP hD [0, 1] [2] rfl rfl (by decide) (by decide) hk1 hFc wP_nil wD_nil
        clear hPc hDc
        generalize H1 = H at hP hS ⊢
        have hP : va_P D vwCl [(q59, .inr (12, [.ref q61, .ref q62, .ref q63, .ref q64, .ref q65, .ref q66, .ref q81, .ref q82, .ref q83, .ref q84, .ref q85, .ref q86, .int 0, .ref q87, .ref q88, .ref q89, .int 9, .int 0, .int 0, .ref q67, .ref q90, .ref q68, .int 0, .int 2, .ref q80, .ref q69, .ref q70, .ref q71, .int 0, .ref q72, .int 0, .ref q91, .ref q92, .ref q93, .ref q94, .int 0, .ref q73, .int 0, .int 0, .ref q95, .ref q96, .ref q97, .ref q98, .int 0, .int 0, .int 0, .int 0, .ref q99, .int 0, .ref q100, .ref q101, .ref q102, .ref q103, .int 0, .ref q74, .ref q75, .ref q76, .ref q77, .int 0, .ref q78, .ref q79, .ref q104]))] H := hP
        have hD : va_D A [(q59, .inr (12, [.ref q61, .ref q62, .ref q63, .ref q64, .ref q65, .ref q66, .ref q81, .ref q82, .ref q83, .ref q84, .ref q85, .ref q86, .int 0, .ref q87, .ref q88, .ref q89, .int 9, .int 0, .int 0, .ref q67, .ref q90, .ref q68, .int 0, .int 2, .ref q80, .ref q69, .ref q70, .ref q71, .int 0, .ref q72, .int 0, .ref q91, .ref q92, .ref q93, .ref q94, .int 0, .ref q73, .int 0, .int 0, .ref q95, .ref q96, .ref q97, .ref q98, .int 0, .int 0, .int 0, .int 0, .ref q99, .int 0, .ref q100, .ref q101, .ref q102, .ref q103, .int 0, .ref q74, .ref q75, .ref q76, .ref q77, .int 0, .ref q78, .ref q79, .ref q104]))] := hD
        subst hr124
        refine lv_aload_n hx hb dL_law_517 rfl (lv_at hl 2 rfl) ?_
        refine lv_aload_n hx hb dL_law_518 rfl (lv_at hl 4 rfl) ?_
        refine lv_iload hx hb dL_law_519 (lv_at hl 0 rfl) ?_
        refine lv_iconst (v := 1) hx hb dL_law_521 (by decide) ?_
        refine lv_iadd hx hb dL_law_522 ?_
        refine wk_i 1 (by decide) ?_
        refine va_sld hx hb hX hbl hbA hS (wk_in rfl) dL_law_523 ?_
        refine wk_i (xs 1) rfl ?_
        refine lv_aload_n hx hb dL_law_524 rfl (lv_at hl 4 rfl) ?_
        refine lv_iload hx hb dL_law_525 (lv_at hl 0 rfl) ?_
        refine lv_iconst (v := 2) hx hb dL_law_527 (by decide) ?_
        refine lv_iadd hx hb dL_law_528 ?_
        refine wk_i 2 (by decide) ?_
        refine va_sld hx hb hX hbl hbA hS (wk_in rfl) dL_law_529 ?_
        refine wk_i (xs 2) rfl ?_
        refine lv_aload_n hx hb dL_law_530 rfl (lv_at hl 4 rfl) ?_
        refine lv_iload hx hb dL_law_531 (lv_at hl 0 rfl) ?_
        refine lv_iconst (v := 3) hx hb dL_law_533 (by decide) ?_
        refine lv_iadd hx hb dL_law_534 ?_
        refine wk_i 3 (by decide) ?_
        refine va_sld hx hb hX hbl hbA hS (wk_in rfl) dL_law_535 ?_
        refine wk_i (xs 3) rfl ?_
        refine lv_if_eq (tgt := 543) hx hb dL_law_536 (by decide) (fun _ => ?_) (fun h9 => absurd h9 (by rw [c123]; decide))
        refine lv_iconst (v := 0) hx hb dL_law_543 (by decide) ?_
        have hPc := hP.sub (ws' := [(q59, .inr (12, [.ref q61, .ref q62, .ref q63, .ref q64, .ref q65, .ref q66, .ref q81, .ref q82, .ref q83, .ref q84, .ref q85, .ref q86, .int 0, .ref q87, .ref q88, .ref q89, .int 9, .int 0, .int 0, .ref q67, .ref q90, .ref q68, .int 0, .int 2, .ref q80, .ref q69, .ref q70, .ref q71, .int 0, .ref q72, .int 0, .ref q91, .ref q92, .ref q93, .ref q94, .int 0, .ref q73, .int 0, .int 0, .ref q95, .ref q96, .ref q97, .ref q98, .int 0, .int 0, .int 0, .int 0, .ref q99, .int 0, .ref q100, .ref q101, .ref q102, .ref q103, .int 0, .ref q74, .ref q75, .ref q76, .ref q77, .int 0, .ref q78, .ref q79, .ref q104]))]) [0] rfl
        have hDc := hD.sub (ws' := [(q59, .inr (12, [.ref q61, .ref q62, .ref q63, .ref q64, .ref q65, .ref q66, .ref q81, .ref q82, .ref q83, .ref q84, .ref q85, .ref q86, .int 0, .ref q87, .ref q88, .ref q89, .int 9, .int 0, .int 0, .ref q67, .ref q90, .ref q68, .int 0, .int 2, .ref q80, .ref q69, .ref q70, .ref q71, .int 0, .ref q72, .int 0, .ref q91, .ref q92, .ref q93, .ref q94, .int 0, .ref q73, .int 0, .int 0, .ref q95, .ref q96, .ref q97, .ref q98, .int 0, .int 0, .int 0, .int 0, .ref q99, .int 0, .ref q100, .ref q101, .ref q102, .ref q103, .int 0, .ref q74, .ref q75, .ref q76, .ref q77, .int 0, .ref q78, .ref q79, .ref q104]))]) [0] (by decide) rfl
        have hFc := va_free (wc := [(q59, .inr (12, [.ref q61, .ref q62, .ref q63, .ref q64, .ref q65, .ref q66, .ref q81, .ref q82, .ref q83, .ref q84, .ref q85, .ref q86, .int 0, .ref q87, .ref q88, .ref q89, .int 9, .int 0, .int 0, .ref q67, .ref q90, .ref q68, .int 0, .int 2, .ref q80, .ref q69, .ref q70, .ref q71, .int 0, .ref q72, .int 0, .ref q91, .ref q92, .ref q93, .ref q94, .int 0, .ref q73, .int 0, .int 0, .ref q95, .ref q96, .ref q97, .ref q98, .int 0, .int 0, .int 0, .int 0, .ref q99, .int 0, .ref q100, .ref q101, .ref q102, .ref q103, .int 0, .ref q74, .ref q75, .ref q76, .ref q77, .int 0, .ref q78, .ref q79, .ref q104]))]) hD hS hA [0] rfl
        refine va_calli (va_runV (As := [.int (xs 1), .int (xs 2), .int 0]) (rest := [.int 0]) ⟨hx, hb, hml, hown, hts⟩ (kX12_mend l D G q59 (xs 1) (xs 2) 0 q61 q62 q63 q64 q65 q66 q81 q82 q83 q84 q85 q86 q87 q88 q89 q67 q90 q68 q80 q69 q70 q71 q72 q91 q92 q93 q94 q73 q95 q96 q97 q98 q99 q100 q101 q102 q103 q74 q75 q76 q77 q78 q79 q104 H.size) (cwV 3 hts gL_law_X12_mend rfl rfl rfl (by decide +kernel) ⟨Nat.le_of_ble_eq_true rfl, Nat.le_of_ble_eq_true rfl⟩) ⟨wB_blind, va_recv hK hPc (ci := 12) (q0 := 0) rfl rfl, wB_pre hPc hK hDc hN⟩ rfl rfl hl.1 rfl (lv_room (Nat.le_of_ble_eq_true rfl)) dL_law_544 ⟨Nat.le_of_ble_eq_true rfl, Nat.le_of_ble_eq_true rfl⟩) hS (fun q _ h => hFc q h) hFc (fun r125 u t H1 locs ht hvm hr125 hB hz1 hk1 hS => ?_)
        obtain ⟨hP, hD⟩ := va_join (wr := []) (w1 := []) hP hD [0] [] rfl rfl (by decide) (by decide) hk1 hFc wP_nil wD_nil
        clear hPc hDc
        generalize H1 = H at hP hS ⊢
        have hP : va_P D vwCl [] H := hP
        have hD : va_D A [] := hD
        subst hr125
        refine lv_icmp_eq (tgt := 1531) hx hb dL_law_547 (by decide) (fun _ => ?_) (fun h9 => absurd h9 (by decide))
        refine lv_iinc (v := 7) (lv' := [(4, .int 7), (3, .ref q105), (2, .ref q59), (1, .ref q1), (0, .ref b)]) hx hb dL_law_1531 hl (k := 0) rfl (by decide) (by decide) rfl (fun ls hl => ?_)
        refine lv_goto (tgt := 23) hx hb dL_law_1534 (by decide) ?_
        refine lv_iload hx hb dL_law_23 (lv_at hl 0 rfl) ?_
        refine lv_aload_n hx hb dL_law_25 rfl (lv_at hl 4 rfl) ?_
        refine va_slen hx hb hX hbl hbA hS dL_law_26 ?_
        refine wk_i 7 rfl ?_
        refine lv_bipush (v := 7) hx hb dL_law_27 (by decide) ?_
        refine lv_isub hx hb dL_law_29 ?_
        refine wk_i 0 (by decide) ?_
        refine lv_icmp_gt (tgt := 1537) hx hb dL_law_30 (by decide) (fun _ => ?_) (fun h9 => absurd h9 (by decide))
        refine lv_iconst (v := 1) hx hb dL_law_1537 (by decide) ?_
        refine va_forget (fun q hq => by have h9 := hS.2.2 q hq; rw [hAe] at h9; exact h9) ?_
        refine W.widen (k := 600002) (n := 7302232) (by omega) (by omega) ?_
        exact lw_ret hx hb hr hlocks dL_law_1538
      · refine lv_iconst (v := 1) hx hb dL_law_509 (by decide) ?_
        refine lv_goto (tgt := 514) hx hb dL_law_510 (by decide) ?_
        have hPc := hP.sub (ws' := [(q1, .inr (11, [.ref q3, .ref q26, .ref q28, .ref q35, .ref q39, .ref q43, .ref q46, .ref q52])), (q3, .inr (8, [.ref q4, .ref q54, .ref q55, .ref q5, .ref q6, .int 0, .int 0, .int 9, .int 0, .int 0]))]) [0, 1] rfl
        have hDc := hD.sub (ws' := [(q1, .inr (11, [.ref q3, .ref q26, .ref q28, .ref q35, .ref q39, .ref q43, .ref q46, .ref q52])), (q3, .inr (8, [.ref q4, .ref q54, .ref q55, .ref q5, .ref q6, .int 0, .int 0, .int 9, .int 0, .int 0]))]) [0, 1] (by decide) rfl
        have hFc := va_free (wc := [(q1, .inr (11, [.ref q3, .ref q26, .ref q28, .ref q35, .ref q39, .ref q43, .ref q46, .ref q52])), (q3, .inr (8, [.ref q4, .ref q54, .ref q55, .ref q5, .ref q6, .int 0, .int 0, .int 9, .int 0, .int 0]))]) hD hS hA [0, 1] rfl
        refine va_calli (va_runV (As := [.int (xs 1), .int (xs 2), .int 1]) (rest := []) ⟨hx, hb, hml, hown, hts⟩ (kX11_mend l D G q1 (xs 1) (xs 2) 1 q3 q26 q28 q35 q39 q43 q46 q52 q4 q54 q55 q5 q6 H.size) (cwV 3 hts gL_law_X11_mend rfl rfl rfl (by decide +kernel) ⟨Nat.le_of_ble_eq_true rfl, Nat.le_of_ble_eq_true rfl⟩) ⟨wB_blind, va_recv hK hPc (ci := 11) (q0 := 0) rfl rfl, wB_pre hPc hK hDc hN⟩ rfl rfl hl.1 rfl (lv_room (Nat.le_of_ble_eq_true rfl)) dL_law_514 ⟨Nat.le_of_ble_eq_true rfl, Nat.le_of_ble_eq_true rfl⟩) hS (fun q _ h => hFc q h) hFc (fun r126 u t H1 locs ht hvm hr126 hB hz1 hk1 hS => ?_)
        obtain ⟨hP, hD⟩ := va_join (wr := [(q59, .inr (12, [.ref q61, .ref q62, .ref q63, .ref q64, .ref q65, .ref q66, .ref q81, .ref q82, .ref q83, .ref q84, .ref q85, .ref q86, .int 0, .ref q87, .ref q88, .ref q89, .int 9, .int 0, .int 0, .ref q67, .ref q90, .ref q68, .int 0, .int 2, .ref q80, .ref q69, .ref q70, .ref q71, .int 0, .ref q72, .int 0, .ref q91, .ref q92, .ref q93, .ref q94, .int 0, .ref q73, .int 0, .int 0, .ref q95, .ref q96, .ref q97, .ref q98, .int 0, .int 0, .int 0, .int 0, .ref q99, .int 0, .ref q100, .ref q101, .ref q102, .ref q103, .int 0, .ref q74, .ref q75, .ref q76, .ref q77, .int 0, .ref q78, .ref q79, .ref q104]))]) (w1 := []) hP hD [0, 1] [2] rfl rfl (by decide) (by decide) hk1 hFc wP_nil wD_nil
        clear hPc hDc
        generalize H1 = H at hP hS ⊢
        have hP : va_P D vwCl [(q59, .inr (12, [.ref q61, .ref q62, .ref q63, .ref q64, .ref q65, .ref q66, .ref q81, .ref q82, .ref q83, .ref q84, .ref q85, .ref q86, .int 0, .ref q87, .ref q88, .ref q89, .int 9, .int 0, .int 0, .ref q67, .ref q90, .ref q68, .int 0, .int 2, .ref q80, .ref q69, .ref q70, .ref q71, .int 0, .ref q72, .int 0, .ref q91, .ref q92, .ref q93, .ref q94, .int 0, .ref q73, .int 0, .int 0, .ref q95, .ref q96, .ref q97, .ref q98, .int 0, .int 0, .int 0, .int 0, .ref q99, .int 0, .ref q100, .ref q101, .ref q102, .ref q103, .int 0, .ref q74, .ref q75, .ref q76, .ref q77, .int 0, .ref q78, .ref q79, .ref q104]))] H := hP
        have hD : va_D A [(q59, .inr (12, [.ref q61, .ref q62, .ref q63, .ref q64, .ref q65, .ref q66, .ref q81, .ref q82, .ref q83, .ref q84, .ref q85, .ref q86, .int 0, .ref q87, .ref q88, .ref q89, .int 9, .int 0, .int 0, .ref q67, .ref q90, .ref q68, .int 0, .int 2, .ref q80, .ref q69, .ref q70, .ref q71, .int 0, .ref q72, .int 0, .ref q91, .ref q92, .ref q93, .ref q94, .int 0, .ref q73, .int 0, .int 0, .ref q95, .ref q96, .ref q97, .ref q98, .int 0, .int 0, .int 0, .int 0, .ref q99, .int 0, .ref q100, .ref q101, .ref q102, .ref q103, .int 0, .ref q74, .ref q75, .ref q76, .ref q77, .int 0, .ref q78, .ref q79, .ref q104]))] := hD
        subst hr126
        refine lv_aload_n hx hb dL_law_517 rfl (lv_at hl 2 rfl) ?_
        refine lv_aload_n hx hb dL_law_518 rfl (lv_at hl 4 rfl) ?_
        refine lv_iload hx hb dL_law_519 (lv_at hl 0 rfl) ?_
        refine lv_iconst (v := 1) hx hb dL_law_521 (by decide) ?_
        refine lv_iadd hx hb dL_law_522 ?_
        refine wk_i 1 (by decide) ?_
        refine va_sld hx hb hX hbl hbA hS (wk_in rfl) dL_law_523 ?_
        refine wk_i (xs 1) rfl ?_
        refine lv_aload_n hx hb dL_law_524 rfl (lv_at hl 4 rfl) ?_
        refine lv_iload hx hb dL_law_525 (lv_at hl 0 rfl) ?_
        refine lv_iconst (v := 2) hx hb dL_law_527 (by decide) ?_
        refine lv_iadd hx hb dL_law_528 ?_
        refine wk_i 2 (by decide) ?_
        refine va_sld hx hb hX hbl hbA hS (wk_in rfl) dL_law_529 ?_
        refine wk_i (xs 2) rfl ?_
        refine lv_aload_n hx hb dL_law_530 rfl (lv_at hl 4 rfl) ?_
        refine lv_iload hx hb dL_law_531 (lv_at hl 0 rfl) ?_
        refine lv_iconst (v := 3) hx hb dL_law_533 (by decide) ?_
        refine lv_iadd hx hb dL_law_534 ?_
        refine wk_i 3 (by decide) ?_
        refine va_sld hx hb hX hbl hbA hS (wk_in rfl) dL_law_535 ?_
        refine wk_i (xs 3) rfl ?_
        refine lv_if_eq (tgt := 543) hx hb dL_law_536 (by decide) (fun c127 => ?_) (fun c127 => ?_)
        · refine lv_iconst (v := 0) hx hb dL_law_543 (by decide) ?_
          have hPc := hP.sub (ws' := [(q59, .inr (12, [.ref q61, .ref q62, .ref q63, .ref q64, .ref q65, .ref q66, .ref q81, .ref q82, .ref q83, .ref q84, .ref q85, .ref q86, .int 0, .ref q87, .ref q88, .ref q89, .int 9, .int 0, .int 0, .ref q67, .ref q90, .ref q68, .int 0, .int 2, .ref q80, .ref q69, .ref q70, .ref q71, .int 0, .ref q72, .int 0, .ref q91, .ref q92, .ref q93, .ref q94, .int 0, .ref q73, .int 0, .int 0, .ref q95, .ref q96, .ref q97, .ref q98, .int 0, .int 0, .int 0, .int 0, .ref q99, .int 0, .ref q100, .ref q101, .ref q102, .ref q103, .int 0, .ref q74, .ref q75, .ref q76, .ref q77, .int 0, .ref q78, .ref q79, .ref q104]))]) [0] rfl
          have hDc := hD.sub (ws' := [(q59, .inr (12, [.ref q61, .ref q62, .ref q63, .ref q64, .ref q65, .ref q66, .ref q81, .ref q82, .ref q83, .ref q84, .ref q85, .ref q86, .int 0, .ref q87, .ref q88, .ref q89, .int 9, .int 0, .int 0, .ref q67, .ref q90, .ref q68, .int 0, .int 2, .ref q80, .ref q69, .ref q70, .ref q71, .int 0, .ref q72, .int 0, .ref q91, .ref q92, .ref q93, .ref q94, .int 0, .ref q73, .int 0, .int 0, .ref q95, .ref q96, .ref q97, .ref q98, .int 0, .int 0, .int 0, .int 0, .ref q99, .int 0, .ref q100, .ref q101, .ref q102, .ref q103, .int 0, .ref q74, .ref q75, .ref q76, .ref q77, .int 0, .ref q78, .ref q79, .ref q104]))]) [0] (by decide) rfl
          have hFc := va_free (wc := [(q59, .inr (12, [.ref q61, .ref q62, .ref q63, .ref q64, .ref q65, .ref q66, .ref q81, .ref q82, .ref q83, .ref q84, .ref q85, .ref q86, .int 0, .ref q87, .ref q88, .ref q89, .int 9, .int 0, .int 0, .ref q67, .ref q90, .ref q68, .int 0, .int 2, .ref q80, .ref q69, .ref q70, .ref q71, .int 0, .ref q72, .int 0, .ref q91, .ref q92, .ref q93, .ref q94, .int 0, .ref q73, .int 0, .int 0, .ref q95, .ref q96, .ref q97, .ref q98, .int 0, .int 0, .int 0, .int 0, .ref q99, .int 0, .ref q100, .ref q101, .ref q102, .ref q103, .int 0, .ref q74, .ref q75, .ref q76, .ref q77, .int 0, .ref q78, .ref q79, .ref q104]))]) hD hS hA [0] rfl
          refine va_calli (va_runV (As := [.int (xs 1), .int (xs 2), .int 0]) (rest := [.int 0]) ⟨hx, hb, hml, hown, hts⟩ (kX12_mend l D G q59 (xs 1) (xs 2) 0 q61 q62 q63 q64 q65 q66 q81 q82 q83 q84 q85 q86 q87 q88 q89 q67 q90 q68 q80 q69 q70 q71 q72 q91 q92 q93 q94 q73 q95 q96 q97 q98 q99 q100 q101 q102 q103 q74 q75 q76 q77 q78 q79 q104 H.size) (cwV 3 hts gL_law_X12_mend rfl rfl rfl (by decide +kernel) ⟨Nat.le_of_ble_eq_true rfl, Nat.le_of_ble_eq_true rfl⟩) ⟨wB_blind, va_recv hK hPc (ci := 12) (q0 := 0) rfl rfl, wB_pre hPc hK hDc hN⟩ rfl rfl hl.1 rfl (lv_room (Nat.le_of_ble_eq_true rfl)) dL_law_544 ⟨Nat.le_of_ble_eq_true rfl, Nat.le_of_ble_eq_true rfl⟩) hS (fun q _ h => hFc q h) hFc (fun r128 u t H1 locs ht hvm hr128 hB hz1 hk1 hS => ?_)
          obtain ⟨hP, hD⟩ := va_join (wr := []) (w1 := []) hP hD [0] [] rfl rfl (by decide) (by decide) hk1 hFc wP_nil wD_nil
          clear hPc hDc
          generalize H1 = H at hP hS ⊢
          have hP : va_P D vwCl [] H := hP
          have hD : va_D A [] := hD
          subst hr128
          refine lv_icmp_eq (tgt := 1531) hx hb dL_law_547 (by decide) (fun _ => ?_) (fun h9 => absurd h9 (by decide))
          refine lv_iinc (v := 7) (lv' := [(4, .int 7), (3, .ref q105), (2, .ref q59), (1, .ref q1), (0, .ref b)]) hx hb dL_law_1531 hl (k := 0) rfl (by decide) (by decide) rfl (fun ls hl => ?_)
          refine lv_goto (tgt := 23) hx hb dL_law_1534 (by decide) ?_
          refine lv_iload hx hb dL_law_23 (lv_at hl 0 rfl) ?_
          refine lv_aload_n hx hb dL_law_25 rfl (lv_at hl 4 rfl) ?_
          refine va_slen hx hb hX hbl hbA hS dL_law_26 ?_
          refine wk_i 7 rfl ?_
          refine lv_bipush (v := 7) hx hb dL_law_27 (by decide) ?_
          refine lv_isub hx hb dL_law_29 ?_
          refine wk_i 0 (by decide) ?_
          refine lv_icmp_gt (tgt := 1537) hx hb dL_law_30 (by decide) (fun _ => ?_) (fun h9 => absurd h9 (by decide))
          refine lv_iconst (v := 1) hx hb dL_law_1537 (by decide) ?_
          refine va_forget (fun q hq => by have h9 := hS.2.2 q hq; rw [hAe] at h9; exact h9) ?_
          refine W.widen (k := 600002) (n := 7302232) (by omega) (by omega) ?_
          exact lw_ret hx hb hr hlocks dL_law_1538
        · refine lv_iconst (v := 1) hx hb dL_law_539 (by decide) ?_
          refine lv_goto (tgt := 544) hx hb dL_law_540 (by decide) ?_
          have hPc := hP.sub (ws' := [(q59, .inr (12, [.ref q61, .ref q62, .ref q63, .ref q64, .ref q65, .ref q66, .ref q81, .ref q82, .ref q83, .ref q84, .ref q85, .ref q86, .int 0, .ref q87, .ref q88, .ref q89, .int 9, .int 0, .int 0, .ref q67, .ref q90, .ref q68, .int 0, .int 2, .ref q80, .ref q69, .ref q70, .ref q71, .int 0, .ref q72, .int 0, .ref q91, .ref q92, .ref q93, .ref q94, .int 0, .ref q73, .int 0, .int 0, .ref q95, .ref q96, .ref q97, .ref q98, .int 0, .int 0, .int 0, .int 0, .ref q99, .int 0, .ref q100, .ref q101, .ref q102, .ref q103, .int 0, .ref q74, .ref q75, .ref q76, .ref q77, .int 0, .ref q78, .ref q79, .ref q104]))]) [0] rfl
          have hDc := hD.sub (ws' := [(q59, .inr (12, [.ref q61, .ref q62, .ref q63, .ref q64, .ref q65, .ref q66, .ref q81, .ref q82, .ref q83, .ref q84, .ref q85, .ref q86, .int 0, .ref q87, .ref q88, .ref q89, .int 9, .int 0, .int 0, .ref q67, .ref q90, .ref q68, .int 0, .int 2, .ref q80, .ref q69, .ref q70, .ref q71, .int 0, .ref q72, .int 0, .ref q91, .ref q92, .ref q93, .ref q94, .int 0, .ref q73, .int 0, .int 0, .ref q95, .ref q96, .ref q97, .ref q98, .int 0, .int 0, .int 0, .int 0, .ref q99, .int 0, .ref q100, .ref q101, .ref q102, .ref q103, .int 0, .ref q74, .ref q75, .ref q76, .ref q77, .int 0, .ref q78, .ref q79, .ref q104]))]) [0] (by decide) rfl
          have hFc := va_free (wc := [(q59, .inr (12, [.ref q61, .ref q62, .ref q63, .ref q64, .ref q65, .ref q66, .ref q81, .ref q82, .ref q83, .ref q84, .ref q85, .ref q86, .int 0, .ref q87, .ref q88, .ref q89, .int 9, .int 0, .int 0, .ref q67, .ref q90, .ref q68, .int 0, .int 2, .ref q80, .ref q69, .ref q70, .ref q71, .int 0, .ref q72, .int 0, .ref q91, .ref q92, .ref q93, .ref q94, .int 0, .ref q73, .int 0, .int 0, .ref q95, .ref q96, .ref q97, .ref q98, .int 0, .int 0, .int 0, .int 0, .ref q99, .int 0, .ref q100, .ref q101, .ref q102, .ref q103, .int 0, .ref q74, .ref q75, .ref q76, .ref q77, .int 0, .ref q78, .ref q79, .ref q104]))]) hD hS hA [0] rfl
          refine va_calli (va_runV (As := [.int (xs 1), .int (xs 2), .int 1]) (rest := [.int 0]) ⟨hx, hb, hml, hown, hts⟩ (kX12_mend l D G q59 (xs 1) (xs 2) 1 q61 q62 q63 q64 q65 q66 q81 q82 q83 q84 q85 q86 q87 q88 q89 q67 q90 q68 q80 q69 q70 q71 q72 q91 q92 q93 q94 q73 q95 q96 q97 q98 q99 q100 q101 q102 q103 q74 q75 q76 q77 q78 q79 q104 H.size) (cwV 3 hts gL_law_X12_mend rfl rfl rfl (by decide +kernel) ⟨Nat.le_of_ble_eq_true rfl, Nat.le_of_ble_eq_true rfl⟩) ⟨wB_blind, va_recv hK hPc (ci := 12) (q0 := 0) rfl rfl, wB_pre hPc hK hDc hN⟩ rfl rfl hl.1 rfl (lv_room (Nat.le_of_ble_eq_true rfl)) dL_law_544 ⟨Nat.le_of_ble_eq_true rfl, Nat.le_of_ble_eq_true rfl⟩) hS (fun q _ h => hFc q h) hFc (fun r129 u t H1 locs ht hvm hr129 hB hz1 hk1 hS => ?_)
          obtain ⟨hP, hD⟩ := va_join (wr := []) (w1 := []) hP hD [0] [] rfl rfl (by decide) (by decide) hk1 hFc wP_nil wD_nil
          clear hPc hDc
          generalize H1 = H at hP hS ⊢
          have hP : va_P D vwCl [] H := hP
          have hD : va_D A [] := hD
          subst hr129
          refine lv_icmp_eq (tgt := 1531) hx hb dL_law_547 (by decide) (fun _ => ?_) (fun h9 => absurd h9 (by decide))
          refine lv_iinc (v := 7) (lv' := [(4, .int 7), (3, .ref q105), (2, .ref q59), (1, .ref q1), (0, .ref b)]) hx hb dL_law_1531 hl (k := 0) rfl (by decide) (by decide) rfl (fun ls hl => ?_)
          refine lv_goto (tgt := 23) hx hb dL_law_1534 (by decide) ?_
          refine lv_iload hx hb dL_law_23 (lv_at hl 0 rfl) ?_
          refine lv_aload_n hx hb dL_law_25 rfl (lv_at hl 4 rfl) ?_
          refine va_slen hx hb hX hbl hbA hS dL_law_26 ?_
          refine wk_i 7 rfl ?_
          refine lv_bipush (v := 7) hx hb dL_law_27 (by decide) ?_
          refine lv_isub hx hb dL_law_29 ?_
          refine wk_i 0 (by decide) ?_
          refine lv_icmp_gt (tgt := 1537) hx hb dL_law_30 (by decide) (fun _ => ?_) (fun h9 => absurd h9 (by decide))
          refine lv_iconst (v := 1) hx hb dL_law_1537 (by decide) ?_
          refine va_forget (fun q hq => by have h9 := hS.2.2 q hq; rw [hAe] at h9; exact h9) ?_
          refine W.widen (k := 600002) (n := 7302232) (by omega) (by omega) ?_
          exact lw_ret hx hb hr hlocks dL_law_1538
    by_cases s130 : vs = 6
    · subst s130
      refine lv_tableIn (off := 512) (tgt := 552) hx hb dL_law_40 (by decide) (by decide) (by decide) (by decide) ?_
      have hP := hP.sub (ws' := [(q1, .inr (11, [.ref q3, .ref q26, .ref q28, .ref q35, .ref q39, .ref q43, .ref q46, .ref q52])), (q3, .inr (8, [.ref q4, .ref q54, .ref q55, .ref q5, .ref q6, .int 0, .int 0, .int 9, .int 0, .int 0])), (q59, .inr (12, [.ref q61, .ref q62, .ref q63, .ref q64, .ref q65, .ref q66, .ref q81, .ref q82, .ref q83, .ref q84, .ref q85, .ref q86, .int 0, .ref q87, .ref q88, .ref q89, .int 9, .int 0, .int 0, .ref q67, .ref q90, .ref q68, .int 0, .int 2, .ref q80, .ref q69, .ref q70, .ref q71, .int 0, .ref q72, .int 0, .ref q91, .ref q92, .ref q93, .ref q94, .int 0, .ref q73, .int 0, .int 0, .ref q95, .ref q96, .ref q97, .ref q98, .int 0, .int 0, .int 0, .int 0, .ref q99, .int 0, .ref q100, .ref q101, .ref q102, .ref q103, .int 0, .ref q74, .ref q75, .ref q76, .ref q77, .int 0, .ref q78, .ref q79, .ref q104]))]) [0, 1, 71] rfl
      have hD := hD.sub (ws' := [(q1, .inr (11, [.ref q3, .ref q26, .ref q28, .ref q35, .ref q39, .ref q43, .ref q46, .ref q52])), (q3, .inr (8, [.ref q4, .ref q54, .ref q55, .ref q5, .ref q6, .int 0, .int 0, .int 9, .int 0, .int 0])), (q59, .inr (12, [.ref q61, .ref q62, .ref q63, .ref q64, .ref q65, .ref q66, .ref q81, .ref q82, .ref q83, .ref q84, .ref q85, .ref q86, .int 0, .ref q87, .ref q88, .ref q89, .int 9, .int 0, .int 0, .ref q67, .ref q90, .ref q68, .int 0, .int 2, .ref q80, .ref q69, .ref q70, .ref q71, .int 0, .ref q72, .int 0, .ref q91, .ref q92, .ref q93, .ref q94, .int 0, .ref q73, .int 0, .int 0, .ref q95, .ref q96, .ref q97, .ref q98, .int 0, .int 0, .int 0, .int 0, .ref q99, .int 0, .ref q100, .ref q101, .ref q102, .ref q103, .int 0, .ref q74, .ref q75, .ref q76, .ref q77, .int 0, .ref q78, .ref q79, .ref q104]))]) [0, 1, 71] (by decide) rfl
      refine lv_aload_n hx hb dL_law_552 rfl (lv_at hl 3 rfl) ?_
      refine lv_aload_n hx hb dL_law_553 rfl (lv_at hl 4 rfl) ?_
      refine lv_iload hx hb dL_law_554 (lv_at hl 0 rfl) ?_
      refine lv_iconst (v := 1) hx hb dL_law_556 (by decide) ?_
      refine lv_iadd hx hb dL_law_557 ?_
      refine wk_i 1 (by decide) ?_
      refine va_sld hx hb hX hbl hbA hS (wk_in rfl) dL_law_558 ?_
      refine wk_i (xs 1) rfl ?_
      refine lv_aload_n hx hb dL_law_559 rfl (lv_at hl 4 rfl) ?_
      refine lv_iload hx hb dL_law_560 (lv_at hl 0 rfl) ?_
      refine lv_iconst (v := 2) hx hb dL_law_562 (by decide) ?_
      refine lv_iadd hx hb dL_law_563 ?_
      refine wk_i 2 (by decide) ?_
      refine va_sld hx hb hX hbl hbA hS (wk_in rfl) dL_law_564 ?_
      refine wk_i (xs 2) rfl ?_
      have hPc := hP.sub (ws' := [(q1, .inr (11, [.ref q3, .ref q26, .ref q28, .ref q35, .ref q39, .ref q43, .ref q46, .ref q52])), (q3, .inr (8, [.ref q4, .ref q54, .ref q55, .ref q5, .ref q6, .int 0, .int 0, .int 9, .int 0, .int 0]))]) [0, 1] rfl
      have hDc := hD.sub (ws' := [(q1, .inr (11, [.ref q3, .ref q26, .ref q28, .ref q35, .ref q39, .ref q43, .ref q46, .ref q52])), (q3, .inr (8, [.ref q4, .ref q54, .ref q55, .ref q5, .ref q6, .int 0, .int 0, .int 9, .int 0, .int 0]))]) [0, 1] (by decide) rfl
      have hFc := va_free (wc := [(q1, .inr (11, [.ref q3, .ref q26, .ref q28, .ref q35, .ref q39, .ref q43, .ref q46, .ref q52])), (q3, .inr (8, [.ref q4, .ref q54, .ref q55, .ref q5, .ref q6, .int 0, .int 0, .int 9, .int 0, .int 0]))]) hD hS hA [0, 1] rfl
      refine va_calli (va_runV (As := [.int (xs 1), .int (xs 2)]) (rest := []) ⟨hx, hb, hml, hown, hts⟩ (kX11_set l D G q1 (xs 1) (xs 2) q3 q26 q28 q35 q39 q43 q46 q52 q4 q54 q55 q5 q6 H.size) (cwV 2 hts gL_law_X11_set rfl rfl rfl (by decide +kernel) ⟨Nat.le_of_ble_eq_true rfl, Nat.le_of_ble_eq_true rfl⟩) ⟨wB_blind, va_recv hK hPc (ci := 11) (q0 := 0) rfl rfl, wB_pre hPc hK hDc hN⟩ rfl rfl hl.1 rfl (lv_room (Nat.le_of_ble_eq_true rfl)) dL_law_565 ⟨Nat.le_of_ble_eq_true rfl, Nat.le_of_ble_eq_true rfl⟩) hS (fun q _ h => hFc q h) hFc (fun r131 u t H1 locs ht hvm hr131 hB hz1 hk1 hS => ?_)
      obtain ⟨hP, hD⟩ := va_join (wr := [(q59, .inr (12, [.ref q61, .ref q62, .ref q63, .ref q64, .ref q65, .ref q66, .ref q81, .ref q82, .ref q83, .ref q84, .ref q85, .ref q86, .int 0, .ref q87, .ref q88, .ref q89, .int 9, .int 0, .int 0, .ref q67, .ref q90, .ref q68, .int 0, .int 2, .ref q80, .ref q69, .ref q70, .ref q71, .int 0, .ref q72, .int 0, .ref q91, .ref q92, .ref q93, .ref q94, .int 0, .ref q73, .int 0, .int 0, .ref q95, .ref q96, .ref q97, .ref q98, .int 0, .int 0, .int 0, .int 0, .ref q99, .int 0, .ref q100, .ref q101, .ref q102, .ref q103, .int 0, .ref q74, .ref q75, .ref q76, .ref q77, .int 0, .ref q78, .ref q79, .ref q104]))]) (w1 := []) hP hD [0, 1] [2] rfl rfl (by decide) (by decide) hk1 hFc wP_nil wD_nil
      clear hPc hDc
      generalize H1 = H at hP hS ⊢
      have hP : va_P D vwCl [(q59, .inr (12, [.ref q61, .ref q62, .ref q63, .ref q64, .ref q65, .ref q66, .ref q81, .ref q82, .ref q83, .ref q84, .ref q85, .ref q86, .int 0, .ref q87, .ref q88, .ref q89, .int 9, .int 0, .int 0, .ref q67, .ref q90, .ref q68, .int 0, .int 2, .ref q80, .ref q69, .ref q70, .ref q71, .int 0, .ref q72, .int 0, .ref q91, .ref q92, .ref q93, .ref q94, .int 0, .ref q73, .int 0, .int 0, .ref q95, .ref q96, .ref q97, .ref q98, .int 0, .int 0, .int 0, .int 0, .ref q99, .int 0, .ref q100, .ref q101, .ref q102, .ref q103, .int 0, .ref q74, .ref q75, .ref q76, .ref q77, .int 0, .ref q78, .ref q79, .ref q104]))] H := hP
      have hD : va_D A [(q59, .inr (12, [.ref q61, .ref q62, .ref q63, .ref q64, .ref q65, .ref q66, .ref q81, .ref q82, .ref q83, .ref q84, .ref q85, .ref q86, .int 0, .ref q87, .ref q88, .ref q89, .int 9, .int 0, .int 0, .ref q67, .ref q90, .ref q68, .int 0, .int 2, .ref q80, .ref q69, .ref q70, .ref q71, .int 0, .ref q72, .int 0, .ref q91, .ref q92, .ref q93, .ref q94, .int 0, .ref q73, .int 0, .int 0, .ref q95, .ref q96, .ref q97, .ref q98, .int 0, .int 0, .int 0, .int 0, .ref q99, .int 0, .ref q100, .ref q101, .ref q102, .ref q103, .int 0, .ref q74, .ref q75, .ref q76, .ref q77, .int 0, .ref q78, .ref q79, .ref q104]))] := hD
      refine lv_aload_n hx hb dL_law_568 rfl (lv_at hl 2 rfl) ?_
      refine lv_aload_n hx hb dL_law_569 rfl (lv_at hl 4 rfl) ?_
      refine lv_iload hx hb dL_law_570 (lv_at hl 0 rfl) ?_
      refine lv_iconst (v := 1) hx hb dL_law_572 (by decide) ?_
      refine lv_iadd hx hb dL_law_573 ?_
      refine wk_i 1 (by decide) ?_
      refine va_sld hx hb hX hbl hbA hS (wk_in rfl) dL_law_574 ?_
      refine wk_i (xs 1) rfl ?_
      refine lv_aload_n hx hb dL_law_575 rfl (lv_at hl 4 rfl) ?_
      refine lv_iload hx hb dL_law_576 (lv_at hl 0 rfl) ?_
      refine lv_iconst (v := 2) hx hb dL_law_578 (by decide) ?_
      refine lv_iadd hx hb dL_law_579 ?_
      refine wk_i 2 (by decide) ?_
      refine va_sld hx hb hX hbl hbA hS (wk_in rfl) dL_law_580 ?_
      refine wk_i (xs 2) rfl ?_
      have hPc := hP.sub (ws' := [(q59, .inr (12, [.ref q61, .ref q62, .ref q63, .ref q64, .ref q65, .ref q66, .ref q81, .ref q82, .ref q83, .ref q84, .ref q85, .ref q86, .int 0, .ref q87, .ref q88, .ref q89, .int 9, .int 0, .int 0, .ref q67, .ref q90, .ref q68, .int 0, .int 2, .ref q80, .ref q69, .ref q70, .ref q71, .int 0, .ref q72, .int 0, .ref q91, .ref q92, .ref q93, .ref q94, .int 0, .ref q73, .int 0, .int 0, .ref q95, .ref q96, .ref q97, .ref q98, .int 0, .int 0, .int 0, .int 0, .ref q99, .int 0, .ref q100, .ref q101, .ref q102, .ref q103, .int 0, .ref q74, .ref q75, .ref q76, .ref q77, .int 0, .ref q78, .ref q79, .ref q104]))]) [0] rfl
      have hDc := hD.sub (ws' := [(q59, .inr (12, [.ref q61, .ref q62, .ref q63, .ref q64, .ref q65, .ref q66, .ref q81, .ref q82, .ref q83, .ref q84, .ref q85, .ref q86, .int 0, .ref q87, .ref q88, .ref q89, .int 9, .int 0, .int 0, .ref q67, .ref q90, .ref q68, .int 0, .int 2, .ref q80, .ref q69, .ref q70, .ref q71, .int 0, .ref q72, .int 0, .ref q91, .ref q92, .ref q93, .ref q94, .int 0, .ref q73, .int 0, .int 0, .ref q95, .ref q96, .ref q97, .ref q98, .int 0, .int 0, .int 0, .int 0, .ref q99, .int 0, .ref q100, .ref q101, .ref q102, .ref q103, .int 0, .ref q74, .ref q75, .ref q76, .ref q77, .int 0, .ref q78, .ref q79, .ref q104]))]) [0] (by decide) rfl
      have hFc := va_free (wc := [(q59, .inr (12, [.ref q61, .ref q62, .ref q63, .ref q64, .ref q65, .ref q66, .ref q81, .ref q82, .ref q83, .ref q84, .ref q85, .ref q86, .int 0, .ref q87, .ref q88, .ref q89, .int 9, .int 0, .int 0, .ref q67, .ref q90, .ref q68, .int 0, .int 2, .ref q80, .ref q69, .ref q70, .ref q71, .int 0, .ref q72, .int 0, .ref q91, .ref q92, .ref q93, .ref q94, .int 0, .ref q73, .int 0, .int 0, .ref q95, .ref q96, .ref q97, .ref q98, .int 0, .int 0, .int 0, .int 0, .ref q99, .int 0, .ref q100, .ref q101, .ref q102, .ref q103, .int 0, .ref q74, .ref q75, .ref q76, .ref q77, .int 0, .ref q78, .ref q79, .ref q104]))]) hD hS hA [0] rfl
      refine va_calli (va_runV (As := [.int (xs 1), .int (xs 2)]) (rest := [.int r131]) ⟨hx, hb, hml, hown, hts⟩ (kX12_set l D G q59 (xs 1) (xs 2) q61 q62 q63 q64 q65 q66 q81 q82 q83 q84 q85 q86 q87 q88 q89 q67 q90 q68 q80 q69 q70 q71 q72 q91 q92 q93 q94 q73 q95 q96 q97 q98 q99 q100 q101 q102 q103 q74 q75 q76 q77 q78 q79 q104 H.size) (cwV 2 hts gL_law_X12_set rfl rfl rfl (by decide +kernel) ⟨Nat.le_of_ble_eq_true rfl, Nat.le_of_ble_eq_true rfl⟩) ⟨wB_blind, va_recv hK hPc (ci := 12) (q0 := 0) rfl rfl, wB_pre hPc hK hDc hN⟩ rfl rfl hl.1 rfl (lv_room (Nat.le_of_ble_eq_true rfl)) dL_law_581 ⟨Nat.le_of_ble_eq_true rfl, Nat.le_of_ble_eq_true rfl⟩) hS (fun q _ h => hFc q h) hFc (fun r132 u t H1 locs ht hvm hr132 hB hz1 hk1 hS => ?_)
      obtain ⟨hP, hD⟩ := va_join (wr := []) (w1 := []) hP hD [0] [] rfl rfl (by decide) (by decide) hk1 hFc wP_nil wD_nil
      clear hPc hDc
      generalize H1 = H at hP hS ⊢
      have hP : va_P D vwCl [] H := hP
      have hD : va_D A [] := hD
      refine lv_icmp_eq (tgt := 1531) hx hb dL_law_584 (by decide) (fun _ => ?_) (fun h9 => absurd (Eq.trans hr131 (Eq.symm hr132)) h9)
      refine lv_iinc (v := 7) (lv' := [(4, .int 7), (3, .ref q105), (2, .ref q59), (1, .ref q1), (0, .ref b)]) hx hb dL_law_1531 hl (k := 0) rfl (by decide) (by decide) rfl (fun ls hl => ?_)
      refine lv_goto (tgt := 23) hx hb dL_law_1534 (by decide) ?_
      refine lv_iload hx hb dL_law_23 (lv_at hl 0 rfl) ?_
      refine lv_aload_n hx hb dL_law_25 rfl (lv_at hl 4 rfl) ?_
      refine va_slen hx hb hX hbl hbA hS dL_law_26 ?_
      refine wk_i 7 rfl ?_
      refine lv_bipush (v := 7) hx hb dL_law_27 (by decide) ?_
      refine lv_isub hx hb dL_law_29 ?_
      refine wk_i 0 (by decide) ?_
      refine lv_icmp_gt (tgt := 1537) hx hb dL_law_30 (by decide) (fun _ => ?_) (fun h9 => absurd h9 (by decide))
      refine lv_iconst (v := 1) hx hb dL_law_1537 (by decide) ?_
      refine va_forget (fun q hq => by have h9 := hS.2.2 q hq; rw [hAe] at h9; exact h9) ?_
      refine W.widen (k := 600002) (n := 7302232) (by omega) (by omega) ?_
      exact lw_ret hx hb hr hlocks dL_law_1538
    by_cases s133 : vs = 7
    · subst s133
      refine lv_tableIn (off := 549) (tgt := 589) hx hb dL_law_40 (by decide) (by decide) (by decide) (by decide) ?_
      have hP := hP.sub (ws' := [(q1, .inr (11, [.ref q3, .ref q26, .ref q28, .ref q35, .ref q39, .ref q43, .ref q46, .ref q52])), (q3, .inr (8, [.ref q4, .ref q54, .ref q55, .ref q5, .ref q6, .int 0, .int 0, .int 9, .int 0, .int 0])), (q59, .inr (12, [.ref q61, .ref q62, .ref q63, .ref q64, .ref q65, .ref q66, .ref q81, .ref q82, .ref q83, .ref q84, .ref q85, .ref q86, .int 0, .ref q87, .ref q88, .ref q89, .int 9, .int 0, .int 0, .ref q67, .ref q90, .ref q68, .int 0, .int 2, .ref q80, .ref q69, .ref q70, .ref q71, .int 0, .ref q72, .int 0, .ref q91, .ref q92, .ref q93, .ref q94, .int 0, .ref q73, .int 0, .int 0, .ref q95, .ref q96, .ref q97, .ref q98, .int 0, .int 0, .int 0, .int 0, .ref q99, .int 0, .ref q100, .ref q101, .ref q102, .ref q103, .int 0, .ref q74, .ref q75, .ref q76, .ref q77, .int 0, .ref q78, .ref q79, .ref q104]))]) [0, 1, 71] rfl
      have hD := hD.sub (ws' := [(q1, .inr (11, [.ref q3, .ref q26, .ref q28, .ref q35, .ref q39, .ref q43, .ref q46, .ref q52])), (q3, .inr (8, [.ref q4, .ref q54, .ref q55, .ref q5, .ref q6, .int 0, .int 0, .int 9, .int 0, .int 0])), (q59, .inr (12, [.ref q61, .ref q62, .ref q63, .ref q64, .ref q65, .ref q66, .ref q81, .ref q82, .ref q83, .ref q84, .ref q85, .ref q86, .int 0, .ref q87, .ref q88, .ref q89, .int 9, .int 0, .int 0, .ref q67, .ref q90, .ref q68, .int 0, .int 2, .ref q80, .ref q69, .ref q70, .ref q71, .int 0, .ref q72, .int 0, .ref q91, .ref q92, .ref q93, .ref q94, .int 0, .ref q73, .int 0, .int 0, .ref q95, .ref q96, .ref q97, .ref q98, .int 0, .int 0, .int 0, .int 0, .ref q99, .int 0, .ref q100, .ref q101, .ref q102, .ref q103, .int 0, .ref q74, .ref q75, .ref q76, .ref q77, .int 0, .ref q78, .ref q79, .ref q104]))]) [0, 1, 71] (by decide) rfl
      refine lv_aload_n hx hb dL_law_589 rfl (lv_at hl 3 rfl) ?_
      refine lv_aload_n hx hb dL_law_590 rfl (lv_at hl 4 rfl) ?_
      refine lv_iload hx hb dL_law_591 (lv_at hl 0 rfl) ?_
      refine lv_iconst (v := 1) hx hb dL_law_593 (by decide) ?_
      refine lv_iadd hx hb dL_law_594 ?_
      refine wk_i 1 (by decide) ?_
      refine va_sld hx hb hX hbl hbA hS (wk_in rfl) dL_law_595 ?_
      refine wk_i (xs 1) rfl ?_
      refine lv_aload_n hx hb dL_law_596 rfl (lv_at hl 4 rfl) ?_
      refine lv_iload hx hb dL_law_597 (lv_at hl 0 rfl) ?_
      refine lv_iconst (v := 2) hx hb dL_law_599 (by decide) ?_
      refine lv_iadd hx hb dL_law_600 ?_
      refine wk_i 2 (by decide) ?_
      refine va_sld hx hb hX hbl hbA hS (wk_in rfl) dL_law_601 ?_
      refine wk_i (xs 2) rfl ?_
      refine lv_aload_n hx hb dL_law_602 rfl (lv_at hl 1 rfl) ?_
      have hPc := hP.sub (ws' := [(q1, .inr (11, [.ref q3, .ref q26, .ref q28, .ref q35, .ref q39, .ref q43, .ref q46, .ref q52])), (q3, .inr (8, [.ref q4, .ref q54, .ref q55, .ref q5, .ref q6, .int 0, .int 0, .int 9, .int 0, .int 0]))]) [0, 1] rfl
      have hDc := hD.sub (ws' := [(q1, .inr (11, [.ref q3, .ref q26, .ref q28, .ref q35, .ref q39, .ref q43, .ref q46, .ref q52])), (q3, .inr (8, [.ref q4, .ref q54, .ref q55, .ref q5, .ref q6, .int 0, .int 0, .int 9, .int 0, .int 0]))]) [0, 1] (by decide) rfl
      have hFc := va_free (wc := [(q1, .inr (11, [.ref q3, .ref q26, .ref q28, .ref q35, .ref q39, .ref q43, .ref q46, .ref q52])), (q3, .inr (8, [.ref q4, .ref q54, .ref q55, .ref q5, .ref q6, .int 0, .int 0, .int 9, .int 0, .int 0]))]) hD hS hA [0, 1] rfl
      have hZ := hZX
      refine va_calli (vx_runSW (As := [.ref q1, .int (xs 1), .int (xs 2), .ref q105]) (rest := []) ⟨hx, hb, hml, hown, hts⟩ (kL_of l D G q1 (xs 1) (xs 2) q105 q3 q26 q28 q35 q39 q43 q46 q52 q4 q54 q55 q5 q6 hlt H.size) (vx_cwSW 4 hts gL_law_L_of rfl rfl rfl (by decide +kernel) ⟨Nat.le_of_ble_eq_true rfl, Nat.le_of_ble_eq_true rfl⟩) ⟨wBX_blind, wBX_pre hPc hK hDc hN hZ hS hFc⟩ rfl rfl hl.1 rfl (lv_room (Nat.le_of_ble_eq_true rfl)) dL_law_603 ⟨Nat.le_of_ble_eq_true rfl, Nat.le_of_ble_eq_true rfl⟩) hS (fun q _ h => hFc q h) hFc (fun r134 u t H1 locs ht hvm hr134 hB hz1 hk1 hS => ?_)
      obtain ⟨hP, hD⟩ := va_join (wr := [(q59, .inr (12, [.ref q61, .ref q62, .ref q63, .ref q64, .ref q65, .ref q66, .ref q81, .ref q82, .ref q83, .ref q84, .ref q85, .ref q86, .int 0, .ref q87, .ref q88, .ref q89, .int 9, .int 0, .int 0, .ref q67, .ref q90, .ref q68, .int 0, .int 2, .ref q80, .ref q69, .ref q70, .ref q71, .int 0, .ref q72, .int 0, .ref q91, .ref q92, .ref q93, .ref q94, .int 0, .ref q73, .int 0, .int 0, .ref q95, .ref q96, .ref q97, .ref q98, .int 0, .int 0, .int 0, .int 0, .ref q99, .int 0, .ref q100, .ref q101, .ref q102, .ref q103, .int 0, .ref q74, .ref q75, .ref q76, .ref q77, .int 0, .ref q78, .ref q79, .ref q104]))]) (w1 := []) hP hD [0, 1] [2] rfl rfl (by decide) (by decide) hk1 hFc wP_nil wD_nil
      clear hPc hDc
      generalize H1 = H at hP hS ⊢
      have hP : va_P D vwCl [(q59, .inr (12, [.ref q61, .ref q62, .ref q63, .ref q64, .ref q65, .ref q66, .ref q81, .ref q82, .ref q83, .ref q84, .ref q85, .ref q86, .int 0, .ref q87, .ref q88, .ref q89, .int 9, .int 0, .int 0, .ref q67, .ref q90, .ref q68, .int 0, .int 2, .ref q80, .ref q69, .ref q70, .ref q71, .int 0, .ref q72, .int 0, .ref q91, .ref q92, .ref q93, .ref q94, .int 0, .ref q73, .int 0, .int 0, .ref q95, .ref q96, .ref q97, .ref q98, .int 0, .int 0, .int 0, .int 0, .ref q99, .int 0, .ref q100, .ref q101, .ref q102, .ref q103, .int 0, .ref q74, .ref q75, .ref q76, .ref q77, .int 0, .ref q78, .ref q79, .ref q104]))] H := hP
      have hD : va_D A [(q59, .inr (12, [.ref q61, .ref q62, .ref q63, .ref q64, .ref q65, .ref q66, .ref q81, .ref q82, .ref q83, .ref q84, .ref q85, .ref q86, .int 0, .ref q87, .ref q88, .ref q89, .int 9, .int 0, .int 0, .ref q67, .ref q90, .ref q68, .int 0, .int 2, .ref q80, .ref q69, .ref q70, .ref q71, .int 0, .ref q72, .int 0, .ref q91, .ref q92, .ref q93, .ref q94, .int 0, .ref q73, .int 0, .int 0, .ref q95, .ref q96, .ref q97, .ref q98, .int 0, .int 0, .int 0, .int 0, .ref q99, .int 0, .ref q100, .ref q101, .ref q102, .ref q103, .int 0, .ref q74, .ref q75, .ref q76, .ref q77, .int 0, .ref q78, .ref q79, .ref q104]))] := hD
      refine W.widen (k := 194) (n := 177668) (by omega) (by omega) ?_
      subst hr134
      refine lv_istore (lv' := [(5, .int 1), (4, .int 0), (3, .ref q105), (2, .ref q59), (1, .ref q1), (0, .ref b)]) hx hb dL_law_606 hl (by decide) rfl (fun ls hl => ?_)
      refine lv_aload_n hx hb dL_law_608 rfl (lv_at hl 3 rfl) ?_
      refine lv_aload_n hx hb dL_law_609 rfl (lv_at hl 5 rfl) ?_
      refine lv_iload hx hb dL_law_610 (lv_at hl 1 rfl) ?_
      refine lv_iconst (v := 1) hx hb dL_law_612 (by decide) ?_
      refine lv_iadd hx hb dL_law_613 ?_
      refine wk_i 1 (by decide) ?_
      refine va_sld hx hb hX hbl hbA hS (wk_in rfl) dL_law_614 ?_
      refine wk_i (xs 1) rfl ?_
      refine lv_aload_n hx hb dL_law_615 rfl (lv_at hl 5 rfl) ?_
      refine lv_iload hx hb dL_law_616 (lv_at hl 1 rfl) ?_
      refine lv_iconst (v := 2) hx hb dL_law_618 (by decide) ?_
      refine lv_iadd hx hb dL_law_619 ?_
      refine wk_i 2 (by decide) ?_
      refine va_sld hx hb hX hbl hbA hS (wk_in rfl) dL_law_620 ?_
      refine wk_i (xs 2) rfl ?_
      have hPc := hP.sub (ws' := [(q59, .inr (12, [.ref q61, .ref q62, .ref q63, .ref q64, .ref q65, .ref q66, .ref q81, .ref q82, .ref q83, .ref q84, .ref q85, .ref q86, .int 0, .ref q87, .ref q88, .ref q89, .int 9, .int 0, .int 0, .ref q67, .ref q90, .ref q68, .int 0, .int 2, .ref q80, .ref q69, .ref q70, .ref q71, .int 0, .ref q72, .int 0, .ref q91, .ref q92, .ref q93, .ref q94, .int 0, .ref q73, .int 0, .int 0, .ref q95, .ref q96, .ref q97, .ref q98, .int 0, .int 0, .int 0, .int 0, .ref q99, .int 0, .ref q100, .ref q101, .ref q102, .ref q103, .int 0, .ref q74, .ref q75, .ref q76, .ref q77, .int 0, .ref q78, .ref q79, .ref q104]))]) [0] rfl
      have hDc := hD.sub (ws' := [(q59, .inr (12, [.ref q61, .ref q62, .ref q63, .ref q64, .ref q65, .ref q66, .ref q81, .ref q82, .ref q83, .ref q84, .ref q85, .ref q86, .int 0, .ref q87, .ref q88, .ref q89, .int 9, .int 0, .int 0, .ref q67, .ref q90, .ref q68, .int 0, .int 2, .ref q80, .ref q69, .ref q70, .ref q71, .int 0, .ref q72, .int 0, .ref q91, .ref q92, .ref q93, .ref q94, .int 0, .ref q73, .int 0, .int 0, .ref q95, .ref q96, .ref q97, .ref q98, .int 0, .int 0, .int 0, .int 0, .ref q99, .int 0, .ref q100, .ref q101, .ref q102, .ref q103, .int 0, .ref q74, .ref q75, .ref q76, .ref q77, .int 0, .ref q78, .ref q79, .ref q104]))]) [0] (by decide) rfl
      have hFc := va_free (wc := [(q59, .inr (12, [.ref q61, .ref q62, .ref q63, .ref q64, .ref q65, .ref q66, .ref q81, .ref q82, .ref q83, .ref q84, .ref q85, .ref q86, .int 0, .ref q87, .ref q88, .ref q89, .int 9, .int 0, .int 0, .ref q67, .ref q90, .ref q68, .int 0, .int 2, .ref q80, .ref q69, .ref q70, .ref q71, .int 0, .ref q72, .int 0, .ref q91, .ref q92, .ref q93, .ref q94, .int 0, .ref q73, .int 0, .int 0, .ref q95, .ref q96, .ref q97, .ref q98, .int 0, .int 0, .int 0, .int 0, .ref q99, .int 0, .ref q100, .ref q101, .ref q102, .ref q103, .int 0, .ref q74, .ref q75, .ref q76, .ref q77, .int 0, .ref q78, .ref q79, .ref q104]))]) hD hS hA [0] rfl
      refine va_calli (va_runV (As := [.int (xs 1), .int (xs 2)]) (rest := []) ⟨hx, hb, hml, hown, hts⟩ (kX12_of l D G q59 (xs 1) (xs 2) q61 q62 q63 q64 q65 q66 q81 q82 q83 q84 q85 q86 q87 q88 q89 q67 q90 q68 q80 q69 q70 q71 q72 q91 q92 q93 q94 q73 q95 q96 q97 q98 q99 q100 q101 q102 q103 q74 q75 q76 q77 q78 q79 q104 H.size) (cwV 2 hts gL_law_X12_of rfl rfl rfl (by decide +kernel) ⟨Nat.le_of_ble_eq_true rfl, Nat.le_of_ble_eq_true rfl⟩) ⟨wB_blind, va_recv hK hPc (ci := 12) (q0 := 0) rfl rfl, wB_pre hPc hK hDc hN⟩ rfl rfl hl.1 rfl (lv_room (Nat.le_of_ble_eq_true rfl)) dL_law_621 ⟨Nat.le_of_ble_eq_true rfl, Nat.le_of_ble_eq_true rfl⟩) hS (fun q _ h => hFc q h) hFc (fun r135 u t H1 locs ht hvm hr135 hB hz1 hk1 hS => ?_)
      obtain ⟨hP1, hK1, hD1⟩ := hB
      rw [ht] at hP1
      obtain ⟨hP, hD⟩ := va_join (wr := []) (w1 := [(q59, .inr (12, [.ref q61, .ref q62, .ref q63, .ref q64, .ref q65, .ref q66, .ref q81, .ref q82, .ref q83, .ref q84, .ref q85, .ref q86, .int 0, .ref q87, .ref q88, .ref q89, .int 9, .int 0, .int 0, .ref q67, .ref q90, .ref q68, .int 0, .int 2, .ref q80, .ref q69, .ref q70, .ref q71, .int 0, .ref q72, .int 0, .ref q91, .ref q92, .ref q93, .ref q94, .int 0, .ref q73, .int 0, .int 1, .ref q95, .ref q96, .ref q97, .ref q98, .int 0, .int 0, .int 0, .int 0, .ref q99, .int 0, .ref q100, .ref q101, .ref q102, .ref q103, .int 0, .ref q74, .ref q75, .ref q76, .ref q77, .int 0, .ref q78, .ref q79, .ref q104]))]) hP hD [0] [] rfl rfl (by decide) (by decide) hk1 hFc hP1 hD1
      clear hPc hDc
      generalize H1 = H at hP hS ⊢
      have hP : va_P D vwCl [(q59, .inr (12, [.ref q61, .ref q62, .ref q63, .ref q64, .ref q65, .ref q66, .ref q81, .ref q82, .ref q83, .ref q84, .ref q85, .ref q86, .int 0, .ref q87, .ref q88, .ref q89, .int 9, .int 0, .int 0, .ref q67, .ref q90, .ref q68, .int 0, .int 2, .ref q80, .ref q69, .ref q70, .ref q71, .int 0, .ref q72, .int 0, .ref q91, .ref q92, .ref q93, .ref q94, .int 0, .ref q73, .int 0, .int 1, .ref q95, .ref q96, .ref q97, .ref q98, .int 0, .int 0, .int 0, .int 0, .ref q99, .int 0, .ref q100, .ref q101, .ref q102, .ref q103, .int 0, .ref q74, .ref q75, .ref q76, .ref q77, .int 0, .ref q78, .ref q79, .ref q104]))] H := hP
      have hD : va_D A [(q59, .inr (12, [.ref q61, .ref q62, .ref q63, .ref q64, .ref q65, .ref q66, .ref q81, .ref q82, .ref q83, .ref q84, .ref q85, .ref q86, .int 0, .ref q87, .ref q88, .ref q89, .int 9, .int 0, .int 0, .ref q67, .ref q90, .ref q68, .int 0, .int 2, .ref q80, .ref q69, .ref q70, .ref q71, .int 0, .ref q72, .int 0, .ref q91, .ref q92, .ref q93, .ref q94, .int 0, .ref q73, .int 0, .int 1, .ref q95, .ref q96, .ref q97, .ref q98, .int 0, .int 0, .int 0, .int 0, .ref q99, .int 0, .ref q100, .ref q101, .ref q102, .ref q103, .int 0, .ref q74, .ref q75, .ref q76, .ref q77, .int 0, .ref q78, .ref q79, .ref q104]))] := hD
      subst hr135
      refine lv_istore (lv' := [(6, .int 0), (5, .int 1), (4, .int 0), (3, .ref q105), (2, .ref q59), (1, .ref q1), (0, .ref b)]) hx hb dL_law_624 hl (by decide) rfl (fun ls hl => ?_)
      refine lv_aload_n hx hb dL_law_626 rfl (lv_at hl 4 rfl) ?_
      have hPc := hP.sub (ws' := [(q59, .inr (12, [.ref q61, .ref q62, .ref q63, .ref q64, .ref q65, .ref q66, .ref q81, .ref q82, .ref q83, .ref q84, .ref q85, .ref q86, .int 0, .ref q87, .ref q88, .ref q89, .int 9, .int 0, .int 0, .ref q67, .ref q90, .ref q68, .int 0, .int 2, .ref q80, .ref q69, .ref q70, .ref q71, .int 0, .ref q72, .int 0, .ref q91, .ref q92, .ref q93, .ref q94, .int 0, .ref q73, .int 0, .int 1, .ref q95, .ref q96, .ref q97, .ref q98, .int 0, .int 0, .int 0, .int 0, .ref q99, .int 0, .ref q100, .ref q101, .ref q102, .ref q103, .int 0, .ref q74, .ref q75, .ref q76, .ref q77, .int 0, .ref q78, .ref q79, .ref q104]))]) [0] rfl
      have hDc := hD.sub (ws' := [(q59, .inr (12, [.ref q61, .ref q62, .ref q63, .ref q64, .ref q65, .ref q66, .ref q81, .ref q82, .ref q83, .ref q84, .ref q85, .ref q86, .int 0, .ref q87, .ref q88, .ref q89, .int 9, .int 0, .int 0, .ref q67, .ref q90, .ref q68, .int 0, .int 2, .ref q80, .ref q69, .ref q70, .ref q71, .int 0, .ref q72, .int 0, .ref q91, .ref q92, .ref q93, .ref q94, .int 0, .ref q73, .int 0, .int 1, .ref q95, .ref q96, .ref q97, .ref q98, .int 0, .int 0, .int 0, .int 0, .ref q99, .int 0, .ref q100, .ref q101, .ref q102, .ref q103, .int 0, .ref q74, .ref q75, .ref q76, .ref q77, .int 0, .ref q78, .ref q79, .ref q104]))]) [0] (by decide) rfl
      have hFc := va_free (wc := [(q59, .inr (12, [.ref q61, .ref q62, .ref q63, .ref q64, .ref q65, .ref q66, .ref q81, .ref q82, .ref q83, .ref q84, .ref q85, .ref q86, .int 0, .ref q87, .ref q88, .ref q89, .int 9, .int 0, .int 0, .ref q67, .ref q90, .ref q68, .int 0, .int 2, .ref q80, .ref q69, .ref q70, .ref q71, .int 0, .ref q72, .int 0, .ref q91, .ref q92, .ref q93, .ref q94, .int 0, .ref q73, .int 0, .int 1, .ref q95, .ref q96, .ref q97, .ref q98, .int 0, .int 0, .int 0, .int 0, .ref q99, .int 0, .ref q100, .ref q101, .ref q102, .ref q103, .int 0, .ref q74, .ref q75, .ref q76, .ref q77, .int 0, .ref q78, .ref q79, .ref q104]))]) hD hS hA [0] rfl
      refine va_calli (va_runV (As := []) (rest := []) ⟨hx, hb, hml, hown, hts⟩ (kX12_thrown l D G q59 q61 q62 q63 q64 q65 q66 q81 q82 q83 q84 q85 q86 q87 q88 q89 q67 q90 q68 q80 q69 q70 q71 q72 q91 q92 q93 q94 q73 q95 q96 q97 q98 q99 q100 q101 q102 q103 q74 q75 q76 q77 q78 q79 q104 H.size) (cwV 0 hts gL_law_X12_thrown rfl rfl rfl (by decide +kernel) ⟨Nat.le_of_ble_eq_true rfl, Nat.le_of_ble_eq_true rfl⟩) ⟨wB_blind, va_recv hK hPc (ci := 12) (q0 := 0) rfl rfl, wB_pre hPc hK hDc hN⟩ rfl rfl hl.1 rfl (lv_room (Nat.le_of_ble_eq_true rfl)) dL_law_627 ⟨Nat.le_of_ble_eq_true rfl, Nat.le_of_ble_eq_true rfl⟩) hS (fun q _ h => hFc q h) hFc (fun r136 u t H1 locs ht hvm hr136 hB hz1 hk1 hS => ?_)
      obtain ⟨hP, hD⟩ := va_join (wr := []) (w1 := []) hP hD [0] [] rfl rfl (by decide) (by decide) hk1 hFc wP_nil wD_nil
      clear hPc hDc
      generalize H1 = H at hP hS ⊢
      have hP : va_P D vwCl [] H := hP
      have hD : va_D A [] := hD
      subst hr136
      refine lv_iload hx hb dL_law_630 (lv_at hl 1 rfl) ?_
      refine lv_icmp_eq (tgt := 637) hx hb dL_law_632 (by decide) (fun _ => ?_) (fun h9 => absurd h9 (by decide))
      refine lv_iload hx hb dL_law_637 (lv_at hl 1 rfl) ?_
      refine lv_if_ne (tgt := 654) hx hb dL_law_639 (by decide) (fun _ => ?_) (fun h9 => absurd h9 (by decide))
      refine lv_goto (tgt := 1531) hx hb dL_law_654 (by decide) ?_
      refine lv_iinc (v := 7) (lv' := [(4, .int 7), (6, .int 0), (5, .int 1), (3, .ref q105), (2, .ref q59), (1, .ref q1), (0, .ref b)]) hx hb dL_law_1531 hl (k := 2) rfl (by decide) (by decide) rfl (fun ls hl => ?_)
      refine lv_goto (tgt := 23) hx hb dL_law_1534 (by decide) ?_
      refine lv_iload hx hb dL_law_23 (lv_at hl 0 rfl) ?_
      refine lv_aload_n hx hb dL_law_25 rfl (lv_at hl 6 rfl) ?_
      refine va_slen hx hb hX hbl hbA hS dL_law_26 ?_
      refine wk_i 7 rfl ?_
      refine lv_bipush (v := 7) hx hb dL_law_27 (by decide) ?_
      refine lv_isub hx hb dL_law_29 ?_
      refine wk_i 0 (by decide) ?_
      refine lv_icmp_gt (tgt := 1537) hx hb dL_law_30 (by decide) (fun _ => ?_) (fun h9 => absurd h9 (by decide))
      refine lv_iconst (v := 1) hx hb dL_law_1537 (by decide) ?_
      refine va_forget (fun q hq => by have h9 := hS.2.2 q hq; rw [hAe] at h9; exact h9) ?_
      refine W.widen (k := 600002) (n := 7302232) (by omega) (by omega) ?_
      exact lw_ret hx hb hr hlocks dL_law_1538
    by_cases s137 : vs = 8
    · subst s137
      refine lv_tableIn (off := 617) (tgt := 657) hx hb dL_law_40 (by decide) (by decide) (by decide) (by decide) ?_
      have hP := hP.sub (ws' := [(q1, .inr (11, [.ref q3, .ref q26, .ref q28, .ref q35, .ref q39, .ref q43, .ref q46, .ref q52])), (q3, .inr (8, [.ref q4, .ref q54, .ref q55, .ref q5, .ref q6, .int 0, .int 0, .int 9, .int 0, .int 0])), (q59, .inr (12, [.ref q61, .ref q62, .ref q63, .ref q64, .ref q65, .ref q66, .ref q81, .ref q82, .ref q83, .ref q84, .ref q85, .ref q86, .int 0, .ref q87, .ref q88, .ref q89, .int 9, .int 0, .int 0, .ref q67, .ref q90, .ref q68, .int 0, .int 2, .ref q80, .ref q69, .ref q70, .ref q71, .int 0, .ref q72, .int 0, .ref q91, .ref q92, .ref q93, .ref q94, .int 0, .ref q73, .int 0, .int 0, .ref q95, .ref q96, .ref q97, .ref q98, .int 0, .int 0, .int 0, .int 0, .ref q99, .int 0, .ref q100, .ref q101, .ref q102, .ref q103, .int 0, .ref q74, .ref q75, .ref q76, .ref q77, .int 0, .ref q78, .ref q79, .ref q104]))]) [0, 1, 71] rfl
      have hD := hD.sub (ws' := [(q1, .inr (11, [.ref q3, .ref q26, .ref q28, .ref q35, .ref q39, .ref q43, .ref q46, .ref q52])), (q3, .inr (8, [.ref q4, .ref q54, .ref q55, .ref q5, .ref q6, .int 0, .int 0, .int 9, .int 0, .int 0])), (q59, .inr (12, [.ref q61, .ref q62, .ref q63, .ref q64, .ref q65, .ref q66, .ref q81, .ref q82, .ref q83, .ref q84, .ref q85, .ref q86, .int 0, .ref q87, .ref q88, .ref q89, .int 9, .int 0, .int 0, .ref q67, .ref q90, .ref q68, .int 0, .int 2, .ref q80, .ref q69, .ref q70, .ref q71, .int 0, .ref q72, .int 0, .ref q91, .ref q92, .ref q93, .ref q94, .int 0, .ref q73, .int 0, .int 0, .ref q95, .ref q96, .ref q97, .ref q98, .int 0, .int 0, .int 0, .int 0, .ref q99, .int 0, .ref q100, .ref q101, .ref q102, .ref q103, .int 0, .ref q74, .ref q75, .ref q76, .ref q77, .int 0, .ref q78, .ref q79, .ref q104]))]) [0, 1, 71] (by decide) rfl
      refine lv_aload_n hx hb dL_law_657 rfl (lv_at hl 3 rfl) ?_
      refine lv_aload_n hx hb dL_law_658 rfl (lv_at hl 4 rfl) ?_
      refine lv_iload hx hb dL_law_659 (lv_at hl 0 rfl) ?_
      refine lv_iconst (v := 1) hx hb dL_law_661 (by decide) ?_
      refine lv_iadd hx hb dL_law_662 ?_
      refine wk_i 1 (by decide) ?_
      refine va_sld hx hb hX hbl hbA hS (wk_in rfl) dL_law_663 ?_
      refine wk_i (xs 1) rfl ?_
      refine lv_aload_n hx hb dL_law_664 rfl (lv_at hl 4 rfl) ?_
      refine lv_iload hx hb dL_law_665 (lv_at hl 0 rfl) ?_
      refine lv_iconst (v := 2) hx hb dL_law_667 (by decide) ?_
      refine lv_iadd hx hb dL_law_668 ?_
      refine wk_i 2 (by decide) ?_
      refine va_sld hx hb hX hbl hbA hS (wk_in rfl) dL_law_669 ?_
      refine wk_i (xs 2) rfl ?_
      refine lv_aload_n hx hb dL_law_670 rfl (lv_at hl 4 rfl) ?_
      refine lv_iload hx hb dL_law_671 (lv_at hl 0 rfl) ?_
      refine lv_iconst (v := 3) hx hb dL_law_673 (by decide) ?_
      refine lv_iadd hx hb dL_law_674 ?_
      refine wk_i 3 (by decide) ?_
      refine va_sld hx hb hX hbl hbA hS (wk_in rfl) dL_law_675 ?_
      refine wk_i (xs 3) rfl ?_
      refine lv_aload_n hx hb dL_law_676 rfl (lv_at hl 1 rfl) ?_
      have hPc := hP.sub (ws' := [(q1, .inr (11, [.ref q3, .ref q26, .ref q28, .ref q35, .ref q39, .ref q43, .ref q46, .ref q52])), (q3, .inr (8, [.ref q4, .ref q54, .ref q55, .ref q5, .ref q6, .int 0, .int 0, .int 9, .int 0, .int 0]))]) [0, 1] rfl
      have hDc := hD.sub (ws' := [(q1, .inr (11, [.ref q3, .ref q26, .ref q28, .ref q35, .ref q39, .ref q43, .ref q46, .ref q52])), (q3, .inr (8, [.ref q4, .ref q54, .ref q55, .ref q5, .ref q6, .int 0, .int 0, .int 9, .int 0, .int 0]))]) [0, 1] (by decide) rfl
      have hFc := va_free (wc := [(q1, .inr (11, [.ref q3, .ref q26, .ref q28, .ref q35, .ref q39, .ref q43, .ref q46, .ref q52])), (q3, .inr (8, [.ref q4, .ref q54, .ref q55, .ref q5, .ref q6, .int 0, .int 0, .int 9, .int 0, .int 0]))]) hD hS hA [0, 1] rfl
      have hZ := hZX
      refine va_calli (vx_runSW (As := [.ref q1, .int (xs 1), .int (xs 2), .int (xs 3), .ref q105]) (rest := []) ⟨hx, hb, hml, hown, hts⟩ (kL_at l D G q1 (xs 1) (xs 2) (xs 3) q105 q3 q26 q28 q35 q39 q43 q46 q52 q4 q54 q55 q5 q6 hlt H.size) (vx_cwSW 5 hts gL_law_L_at rfl rfl rfl (by decide +kernel) ⟨Nat.le_of_ble_eq_true rfl, Nat.le_of_ble_eq_true rfl⟩) ⟨wBX_blind, wBX_pre hPc hK hDc hN hZ hS hFc⟩ rfl rfl hl.1 rfl (lv_room (Nat.le_of_ble_eq_true rfl)) dL_law_677 ⟨Nat.le_of_ble_eq_true rfl, Nat.le_of_ble_eq_true rfl⟩) hS (fun q _ h => hFc q h) hFc (fun r138 u t H1 locs ht hvm hr138 hB hz1 hk1 hS => ?_)
      obtain ⟨hP, hD⟩ := va_join (wr := [(q59, .inr (12, [.ref q61, .ref q62, .ref q63, .ref q64, .ref q65, .ref q66, .ref q81, .ref q82, .ref q83, .ref q84, .ref q85, .ref q86, .int 0, .ref q87, .ref q88, .ref q89, .int 9, .int 0, .int 0, .ref q67, .ref q90, .ref q68, .int 0, .int 2, .ref q80, .ref q69, .ref q70, .ref q71, .int 0, .ref q72, .int 0, .ref q91, .ref q92, .ref q93, .ref q94, .int 0, .ref q73, .int 0, .int 0, .ref q95, .ref q96, .ref q97, .ref q98, .int 0, .int 0, .int 0, .int 0, .ref q99, .int 0, .ref q100, .ref q101, .ref q102, .ref q103, .int 0, .ref q74, .ref q75, .ref q76, .ref q77, .int 0, .ref q78, .ref q79, .ref q104]))]) (w1 := []) hP hD [0, 1] [2] rfl rfl (by decide) (by decide) hk1 hFc wP_nil wD_nil
      clear hPc hDc
      generalize H1 = H at hP hS ⊢
      have hP : va_P D vwCl [(q59, .inr (12, [.ref q61, .ref q62, .ref q63, .ref q64, .ref q65, .ref q66, .ref q81, .ref q82, .ref q83, .ref q84, .ref q85, .ref q86, .int 0, .ref q87, .ref q88, .ref q89, .int 9, .int 0, .int 0, .ref q67, .ref q90, .ref q68, .int 0, .int 2, .ref q80, .ref q69, .ref q70, .ref q71, .int 0, .ref q72, .int 0, .ref q91, .ref q92, .ref q93, .ref q94, .int 0, .ref q73, .int 0, .int 0, .ref q95, .ref q96, .ref q97, .ref q98, .int 0, .int 0, .int 0, .int 0, .ref q99, .int 0, .ref q100, .ref q101, .ref q102, .ref q103, .int 0, .ref q74, .ref q75, .ref q76, .ref q77, .int 0, .ref q78, .ref q79, .ref q104]))] H := hP
      have hD : va_D A [(q59, .inr (12, [.ref q61, .ref q62, .ref q63, .ref q64, .ref q65, .ref q66, .ref q81, .ref q82, .ref q83, .ref q84, .ref q85, .ref q86, .int 0, .ref q87, .ref q88, .ref q89, .int 9, .int 0, .int 0, .ref q67, .ref q90, .ref q68, .int 0, .int 2, .ref q80, .ref q69, .ref q70, .ref q71, .int 0, .ref q72, .int 0, .ref q91, .ref q92, .ref q93, .ref q94, .int 0, .ref q73, .int 0, .int 0, .ref q95, .ref q96, .ref q97, .ref q98, .int 0, .int 0, .int 0, .int 0, .ref q99, .int 0, .ref q100, .ref q101, .ref q102, .ref q103, .int 0, .ref q74, .ref q75, .ref q76, .ref q77, .int 0, .ref q78, .ref q79, .ref q104]))] := hD
      refine W.widen (k := 194) (n := 177668) (by omega) (by omega) ?_
      subst hr138
      refine lv_istore (lv' := [(5, .int 1), (4, .int 0), (3, .ref q105), (2, .ref q59), (1, .ref q1), (0, .ref b)]) hx hb dL_law_680 hl (by decide) rfl (fun ls hl => ?_)
      refine lv_aload_n hx hb dL_law_682 rfl (lv_at hl 3 rfl) ?_
      refine lv_aload_n hx hb dL_law_683 rfl (lv_at hl 5 rfl) ?_
      refine lv_iload hx hb dL_law_684 (lv_at hl 1 rfl) ?_
      refine lv_iconst (v := 1) hx hb dL_law_686 (by decide) ?_
      refine lv_iadd hx hb dL_law_687 ?_
      refine wk_i 1 (by decide) ?_
      refine va_sld hx hb hX hbl hbA hS (wk_in rfl) dL_law_688 ?_
      refine wk_i (xs 1) rfl ?_
      refine lv_aload_n hx hb dL_law_689 rfl (lv_at hl 5 rfl) ?_
      refine lv_iload hx hb dL_law_690 (lv_at hl 1 rfl) ?_
      refine lv_iconst (v := 2) hx hb dL_law_692 (by decide) ?_
      refine lv_iadd hx hb dL_law_693 ?_
      refine wk_i 2 (by decide) ?_
      refine va_sld hx hb hX hbl hbA hS (wk_in rfl) dL_law_694 ?_
      refine wk_i (xs 2) rfl ?_
      refine lv_aload_n hx hb dL_law_695 rfl (lv_at hl 5 rfl) ?_
      refine lv_iload hx hb dL_law_696 (lv_at hl 1 rfl) ?_
      refine lv_iconst (v := 3) hx hb dL_law_698 (by decide) ?_
      refine lv_iadd hx hb dL_law_699 ?_
      refine wk_i 3 (by decide) ?_
      refine va_sld hx hb hX hbl hbA hS (wk_in rfl) dL_law_700 ?_
      refine wk_i (xs 3) rfl ?_
      have hPc := hP.sub (ws' := [(q59, .inr (12, [.ref q61, .ref q62, .ref q63, .ref q64, .ref q65, .ref q66, .ref q81, .ref q82, .ref q83, .ref q84, .ref q85, .ref q86, .int 0, .ref q87, .ref q88, .ref q89, .int 9, .int 0, .int 0, .ref q67, .ref q90, .ref q68, .int 0, .int 2, .ref q80, .ref q69, .ref q70, .ref q71, .int 0, .ref q72, .int 0, .ref q91, .ref q92, .ref q93, .ref q94, .int 0, .ref q73, .int 0, .int 0, .ref q95, .ref q96, .ref q97, .ref q98, .int 0, .int 0, .int 0, .int 0, .ref q99, .int 0, .ref q100, .ref q101, .ref q102, .ref q103, .int 0, .ref q74, .ref q75, .ref q76, .ref q77, .int 0, .ref q78, .ref q79, .ref q104]))]) [0] rfl
      have hDc := hD.sub (ws' := [(q59, .inr (12, [.ref q61, .ref q62, .ref q63, .ref q64, .ref q65, .ref q66, .ref q81, .ref q82, .ref q83, .ref q84, .ref q85, .ref q86, .int 0, .ref q87, .ref q88, .ref q89, .int 9, .int 0, .int 0, .ref q67, .ref q90, .ref q68, .int 0, .int 2, .ref q80, .ref q69, .ref q70, .ref q71, .int 0, .ref q72, .int 0, .ref q91, .ref q92, .ref q93, .ref q94, .int 0, .ref q73, .int 0, .int 0, .ref q95, .ref q96, .ref q97, .ref q98, .int 0, .int 0, .int 0, .int 0, .ref q99, .int 0, .ref q100, .ref q101, .ref q102, .ref q103, .int 0, .ref q74, .ref q75, .ref q76, .ref q77, .int 0, .ref q78, .ref q79, .ref q104]))]) [0] (by decide) rfl
      have hFc := va_free (wc := [(q59, .inr (12, [.ref q61, .ref q62, .ref q63, .ref q64, .ref q65, .ref q66, .ref q81, .ref q82, .ref q83, .ref q84, .ref q85, .ref q86, .int 0, .ref q87, .ref q88, .ref q89, .int 9, .int 0, .int 0, .ref q67, .ref q90, .ref q68, .int 0, .int 2, .ref q80, .ref q69, .ref q70, .ref q71, .int 0, .ref q72, .int 0, .ref q91, .ref q92, .ref q93, .ref q94, .int 0, .ref q73, .int 0, .int 0, .ref q95, .ref q96, .ref q97, .ref q98, .int 0, .int 0, .int 0, .int 0, .ref q99, .int 0, .ref q100, .ref q101, .ref q102, .ref q103, .int 0, .ref q74, .ref q75, .ref q76, .ref q77, .int 0, .ref q78, .ref q79, .ref q104]))]) hD hS hA [0] rfl
      refine va_calli (va_runV (As := [.int (xs 1), .int (xs 2), .int (xs 3)]) (rest := []) ⟨hx, hb, hml, hown, hts⟩ (kX12_at l D G q59 (xs 1) (xs 2) (xs 3) q61 q62 q63 q64 q65 q66 q81 q82 q83 q84 q85 q86 q87 q88 q89 q67 q90 q68 q80 q69 q70 q71 q72 q91 q92 q93 q94 q73 q95 q96 q97 q98 q99 q100 q101 q102 q103 q74 q75 q76 q77 q78 q79 q104 H.size) (cwV 3 hts gL_law_X12_at rfl rfl rfl (by decide +kernel) ⟨Nat.le_of_ble_eq_true rfl, Nat.le_of_ble_eq_true rfl⟩) ⟨wB_blind, va_recv hK hPc (ci := 12) (q0 := 0) rfl rfl, wB_pre hPc hK hDc hN⟩ rfl rfl hl.1 rfl (lv_room (Nat.le_of_ble_eq_true rfl)) dL_law_701 ⟨Nat.le_of_ble_eq_true rfl, Nat.le_of_ble_eq_true rfl⟩) hS (fun q _ h => hFc q h) hFc (fun r139 u t H1 locs ht hvm hr139 hB hz1 hk1 hS => ?_)
      obtain ⟨hP1, hK1, hD1⟩ := hB
      rw [ht] at hP1
      obtain ⟨hP, hD⟩ := va_join (wr := []) (w1 := [(q59, .inr (12, [.ref q61, .ref q62, .ref q63, .ref q64, .ref q65, .ref q66, .ref q81, .ref q82, .ref q83, .ref q84, .ref q85, .ref q86, .int 0, .ref q87, .ref q88, .ref q89, .int 9, .int 0, .int 0, .ref q67, .ref q90, .ref q68, .int 0, .int 2, .ref q80, .ref q69, .ref q70, .ref q71, .int 0, .ref q72, .int 0, .ref q91, .ref q92, .ref q93, .ref q94, .int 0, .ref q73, .int 0, .int 1, .ref q95, .ref q96, .ref q97, .ref q98, .int 0, .int 0, .int 0, .int 0, .ref q99, .int 0, .ref q100, .ref q101, .ref q102, .ref q103, .int 0, .ref q74, .ref q75, .ref q76, .ref q77, .int 0, .ref q78, .ref q79, .ref q104]))]) hP hD [0] [] rfl rfl (by decide) (by decide) hk1 hFc hP1 hD1
      clear hPc hDc
      generalize H1 = H at hP hS ⊢
      have hP : va_P D vwCl [(q59, .inr (12, [.ref q61, .ref q62, .ref q63, .ref q64, .ref q65, .ref q66, .ref q81, .ref q82, .ref q83, .ref q84, .ref q85, .ref q86, .int 0, .ref q87, .ref q88, .ref q89, .int 9, .int 0, .int 0, .ref q67, .ref q90, .ref q68, .int 0, .int 2, .ref q80, .ref q69, .ref q70, .ref q71, .int 0, .ref q72, .int 0, .ref q91, .ref q92, .ref q93, .ref q94, .int 0, .ref q73, .int 0, .int 1, .ref q95, .ref q96, .ref q97, .ref q98, .int 0, .int 0, .int 0, .int 0, .ref q99, .int 0, .ref q100, .ref q101, .ref q102, .ref q103, .int 0, .ref q74, .ref q75, .ref q76, .ref q77, .int 0, .ref q78, .ref q79, .ref q104]))] H := hP
      have hD : va_D A [(q59, .inr (12, [.ref q61, .ref q62, .ref q63, .ref q64, .ref q65, .ref q66, .ref q81, .ref q82, .ref q83, .ref q84, .ref q85, .ref q86, .int 0, .ref q87, .ref q88, .ref q89, .int 9, .int 0, .int 0, .ref q67, .ref q90, .ref q68, .int 0, .int 2, .ref q80, .ref q69, .ref q70, .ref q71, .int 0, .ref q72, .int 0, .ref q91, .ref q92, .ref q93, .ref q94, .int 0, .ref q73, .int 0, .int 1, .ref q95, .ref q96, .ref q97, .ref q98, .int 0, .int 0, .int 0, .int 0, .ref q99, .int 0, .ref q100, .ref q101, .ref q102, .ref q103, .int 0, .ref q74, .ref q75, .ref q76, .ref q77, .int 0, .ref q78, .ref q79, .ref q104]))] := hD
      subst hr139
      refine lv_istore (lv' := [(6, .int 0), (5, .int 1), (4, .int 0), (3, .ref q105), (2, .ref q59), (1, .ref q1), (0, .ref b)]) hx hb dL_law_704 hl (by decide) rfl (fun ls hl => ?_)
      refine lv_aload_n hx hb dL_law_706 rfl (lv_at hl 4 rfl) ?_
      have hPc := hP.sub (ws' := [(q59, .inr (12, [.ref q61, .ref q62, .ref q63, .ref q64, .ref q65, .ref q66, .ref q81, .ref q82, .ref q83, .ref q84, .ref q85, .ref q86, .int 0, .ref q87, .ref q88, .ref q89, .int 9, .int 0, .int 0, .ref q67, .ref q90, .ref q68, .int 0, .int 2, .ref q80, .ref q69, .ref q70, .ref q71, .int 0, .ref q72, .int 0, .ref q91, .ref q92, .ref q93, .ref q94, .int 0, .ref q73, .int 0, .int 1, .ref q95, .ref q96, .ref q97, .ref q98, .int 0, .int 0, .int 0, .int 0, .ref q99, .int 0, .ref q100, .ref q101, .ref q102, .ref q103, .int 0, .ref q74, .ref q75, .ref q76, .ref q77, .int 0, .ref q78, .ref q79, .ref q104]))]) [0] rfl
      have hDc := hD.sub (ws' := [(q59, .inr (12, [.ref q61, .ref q62, .ref q63, .ref q64, .ref q65, .ref q66, .ref q81, .ref q82, .ref q83, .ref q84, .ref q85, .ref q86, .int 0, .ref q87, .ref q88, .ref q89, .int 9, .int 0, .int 0, .ref q67, .ref q90, .ref q68, .int 0, .int 2, .ref q80, .ref q69, .ref q70, .ref q71, .int 0, .ref q72, .int 0, .ref q91, .ref q92, .ref q93, .ref q94, .int 0, .ref q73, .int 0, .int 1, .ref q95, .ref q96, .ref q97, .ref q98, .int 0, .int 0, .int 0, .int 0, .ref q99, .int 0, .ref q100, .ref q101, .ref q102, .ref q103, .int 0, .ref q74, .ref q75, .ref q76, .ref q77, .int 0, .ref q78, .ref q79, .ref q104]))]) [0] (by decide) rfl
      have hFc := va_free (wc := [(q59, .inr (12, [.ref q61, .ref q62, .ref q63, .ref q64, .ref q65, .ref q66, .ref q81, .ref q82, .ref q83, .ref q84, .ref q85, .ref q86, .int 0, .ref q87, .ref q88, .ref q89, .int 9, .int 0, .int 0, .ref q67, .ref q90, .ref q68, .int 0, .int 2, .ref q80, .ref q69, .ref q70, .ref q71, .int 0, .ref q72, .int 0, .ref q91, .ref q92, .ref q93, .ref q94, .int 0, .ref q73, .int 0, .int 1, .ref q95, .ref q96, .ref q97, .ref q98, .int 0, .int 0, .int 0, .int 0, .ref q99, .int 0, .ref q100, .ref q101, .ref q102, .ref q103, .int 0, .ref q74, .ref q75, .ref q76, .ref q77, .int 0, .ref q78, .ref q79, .ref q104]))]) hD hS hA [0] rfl
      refine va_calli (va_runV (As := []) (rest := []) ⟨hx, hb, hml, hown, hts⟩ (kX12_thrown l D G q59 q61 q62 q63 q64 q65 q66 q81 q82 q83 q84 q85 q86 q87 q88 q89 q67 q90 q68 q80 q69 q70 q71 q72 q91 q92 q93 q94 q73 q95 q96 q97 q98 q99 q100 q101 q102 q103 q74 q75 q76 q77 q78 q79 q104 H.size) (cwV 0 hts gL_law_X12_thrown rfl rfl rfl (by decide +kernel) ⟨Nat.le_of_ble_eq_true rfl, Nat.le_of_ble_eq_true rfl⟩) ⟨wB_blind, va_recv hK hPc (ci := 12) (q0 := 0) rfl rfl, wB_pre hPc hK hDc hN⟩ rfl rfl hl.1 rfl (lv_room (Nat.le_of_ble_eq_true rfl)) dL_law_707 ⟨Nat.le_of_ble_eq_true rfl, Nat.le_of_ble_eq_true rfl⟩) hS (fun q _ h => hFc q h) hFc (fun r140 u t H1 locs ht hvm hr140 hB hz1 hk1 hS => ?_)
      obtain ⟨hP, hD⟩ := va_join (wr := []) (w1 := []) hP hD [0] [] rfl rfl (by decide) (by decide) hk1 hFc wP_nil wD_nil
      clear hPc hDc
      generalize H1 = H at hP hS ⊢
      have hP : va_P D vwCl [] H := hP
      have hD : va_D A [] := hD
      subst hr140
      refine lv_iload hx hb dL_law_710 (lv_at hl 1 rfl) ?_
      refine lv_icmp_eq (tgt := 717) hx hb dL_law_712 (by decide) (fun _ => ?_) (fun h9 => absurd h9 (by decide))
      refine lv_iload hx hb dL_law_717 (lv_at hl 1 rfl) ?_
      refine lv_if_ne (tgt := 734) hx hb dL_law_719 (by decide) (fun _ => ?_) (fun h9 => absurd h9 (by decide))
      refine lv_goto (tgt := 1531) hx hb dL_law_734 (by decide) ?_
      refine lv_iinc (v := 7) (lv' := [(4, .int 7), (6, .int 0), (5, .int 1), (3, .ref q105), (2, .ref q59), (1, .ref q1), (0, .ref b)]) hx hb dL_law_1531 hl (k := 2) rfl (by decide) (by decide) rfl (fun ls hl => ?_)
      refine lv_goto (tgt := 23) hx hb dL_law_1534 (by decide) ?_
      refine lv_iload hx hb dL_law_23 (lv_at hl 0 rfl) ?_
      refine lv_aload_n hx hb dL_law_25 rfl (lv_at hl 6 rfl) ?_
      refine va_slen hx hb hX hbl hbA hS dL_law_26 ?_
      refine wk_i 7 rfl ?_
      refine lv_bipush (v := 7) hx hb dL_law_27 (by decide) ?_
      refine lv_isub hx hb dL_law_29 ?_
      refine wk_i 0 (by decide) ?_
      refine lv_icmp_gt (tgt := 1537) hx hb dL_law_30 (by decide) (fun _ => ?_) (fun h9 => absurd h9 (by decide))
      refine lv_iconst (v := 1) hx hb dL_law_1537 (by decide) ?_
      refine va_forget (fun q hq => by have h9 := hS.2.2 q hq; rw [hAe] at h9; exact h9) ?_
      refine W.widen (k := 600002) (n := 7302232) (by omega) (by omega) ?_
      exact lw_ret hx hb hr hlocks dL_law_1538
    by_cases s141 : vs = 9
    · subst s141
      refine lv_tableIn (off := 697) (tgt := 737) hx hb dL_law_40 (by decide) (by decide) (by decide) (by decide) ?_
      have hP := hP.sub (ws' := [(q1, .inr (11, [.ref q3, .ref q26, .ref q28, .ref q35, .ref q39, .ref q43, .ref q46, .ref q52])), (q3, .inr (8, [.ref q4, .ref q54, .ref q55, .ref q5, .ref q6, .int 0, .int 0, .int 9, .int 0, .int 0])), (q59, .inr (12, [.ref q61, .ref q62, .ref q63, .ref q64, .ref q65, .ref q66, .ref q81, .ref q82, .ref q83, .ref q84, .ref q85, .ref q86, .int 0, .ref q87, .ref q88, .ref q89, .int 9, .int 0, .int 0, .ref q67, .ref q90, .ref q68, .int 0, .int 2, .ref q80, .ref q69, .ref q70, .ref q71, .int 0, .ref q72, .int 0, .ref q91, .ref q92, .ref q93, .ref q94, .int 0, .ref q73, .int 0, .int 0, .ref q95, .ref q96, .ref q97, .ref q98, .int 0, .int 0, .int 0, .int 0, .ref q99, .int 0, .ref q100, .ref q101, .ref q102, .ref q103, .int 0, .ref q74, .ref q75, .ref q76, .ref q77, .int 0, .ref q78, .ref q79, .ref q104]))]) [0, 1, 71] rfl
      have hD := hD.sub (ws' := [(q1, .inr (11, [.ref q3, .ref q26, .ref q28, .ref q35, .ref q39, .ref q43, .ref q46, .ref q52])), (q3, .inr (8, [.ref q4, .ref q54, .ref q55, .ref q5, .ref q6, .int 0, .int 0, .int 9, .int 0, .int 0])), (q59, .inr (12, [.ref q61, .ref q62, .ref q63, .ref q64, .ref q65, .ref q66, .ref q81, .ref q82, .ref q83, .ref q84, .ref q85, .ref q86, .int 0, .ref q87, .ref q88, .ref q89, .int 9, .int 0, .int 0, .ref q67, .ref q90, .ref q68, .int 0, .int 2, .ref q80, .ref q69, .ref q70, .ref q71, .int 0, .ref q72, .int 0, .ref q91, .ref q92, .ref q93, .ref q94, .int 0, .ref q73, .int 0, .int 0, .ref q95, .ref q96, .ref q97, .ref q98, .int 0, .int 0, .int 0, .int 0, .ref q99, .int 0, .ref q100, .ref q101, .ref q102, .ref q103, .int 0, .ref q74, .ref q75, .ref q76, .ref q77, .int 0, .ref q78, .ref q79, .ref q104]))]) [0, 1, 71] (by decide) rfl
      refine lv_aload_n hx hb dL_law_737 rfl (lv_at hl 3 rfl) ?_
      refine lv_aload_n hx hb dL_law_738 rfl (lv_at hl 4 rfl) ?_
      refine lv_iload hx hb dL_law_739 (lv_at hl 0 rfl) ?_
      refine lv_iconst (v := 1) hx hb dL_law_741 (by decide) ?_
      refine lv_iadd hx hb dL_law_742 ?_
      refine wk_i 1 (by decide) ?_
      refine va_sld hx hb hX hbl hbA hS (wk_in rfl) dL_law_743 ?_
      refine wk_i (xs 1) rfl ?_
      refine lv_aload_n hx hb dL_law_744 rfl (lv_at hl 4 rfl) ?_
      refine lv_iload hx hb dL_law_745 (lv_at hl 0 rfl) ?_
      refine lv_iconst (v := 2) hx hb dL_law_747 (by decide) ?_
      refine lv_iadd hx hb dL_law_748 ?_
      refine wk_i 2 (by decide) ?_
      refine va_sld hx hb hX hbl hbA hS (wk_in rfl) dL_law_749 ?_
      refine wk_i (xs 2) rfl ?_
      refine lv_aload_n hx hb dL_law_750 rfl (lv_at hl 4 rfl) ?_
      refine lv_iload hx hb dL_law_751 (lv_at hl 0 rfl) ?_
      refine lv_iconst (v := 3) hx hb dL_law_753 (by decide) ?_
      refine lv_iadd hx hb dL_law_754 ?_
      refine wk_i 3 (by decide) ?_
      refine va_sld hx hb hX hbl hbA hS (wk_in rfl) dL_law_755 ?_
      refine wk_i (xs 3) rfl ?_
      have hPc := hP.sub (ws' := [(q1, .inr (11, [.ref q3, .ref q26, .ref q28, .ref q35, .ref q39, .ref q43, .ref q46, .ref q52])), (q3, .inr (8, [.ref q4, .ref q54, .ref q55, .ref q5, .ref q6, .int 0, .int 0, .int 9, .int 0, .int 0]))]) [0, 1] rfl
      have hDc := hD.sub (ws' := [(q1, .inr (11, [.ref q3, .ref q26, .ref q28, .ref q35, .ref q39, .ref q43, .ref q46, .ref q52])), (q3, .inr (8, [.ref q4, .ref q54, .ref q55, .ref q5, .ref q6, .int 0, .int 0, .int 9, .int 0, .int 0]))]) [0, 1] (by decide) rfl
      have hFc := va_free (wc := [(q1, .inr (11, [.ref q3, .ref q26, .ref q28, .ref q35, .ref q39, .ref q43, .ref q46, .ref q52])), (q3, .inr (8, [.ref q4, .ref q54, .ref q55, .ref q5, .ref q6, .int 0, .int 0, .int 9, .int 0, .int 0]))]) hD hS hA [0, 1] rfl
      refine va_calli (va_runV (As := [.int (xs 1), .int (xs 2), .int (xs 3)]) (rest := []) ⟨hx, hb, hml, hown, hts⟩ (kX11_pulled l D G q1 (xs 1) (xs 2) (xs 3) q3 q26 q28 q35 q39 q43 q46 q52 q4 q54 q55 q5 q6 H.size) (cwV 3 hts gL_law_X11_pulled rfl rfl rfl (by decide +kernel) ⟨Nat.le_of_ble_eq_true rfl, Nat.le_of_ble_eq_true rfl⟩) ⟨wB_blind, va_recv hK hPc (ci := 11) (q0 := 0) rfl rfl, wB_pre hPc hK hDc hN⟩ rfl rfl hl.1 rfl (lv_room (Nat.le_of_ble_eq_true rfl)) dL_law_756 ⟨Nat.le_of_ble_eq_true rfl, Nat.le_of_ble_eq_true rfl⟩) hS (fun q _ h => hFc q h) hFc (fun r142 u t H1 locs ht hvm hr142 hB hz1 hk1 hS => ?_)
      obtain ⟨hP, hD⟩ := va_join (wr := [(q59, .inr (12, [.ref q61, .ref q62, .ref q63, .ref q64, .ref q65, .ref q66, .ref q81, .ref q82, .ref q83, .ref q84, .ref q85, .ref q86, .int 0, .ref q87, .ref q88, .ref q89, .int 9, .int 0, .int 0, .ref q67, .ref q90, .ref q68, .int 0, .int 2, .ref q80, .ref q69, .ref q70, .ref q71, .int 0, .ref q72, .int 0, .ref q91, .ref q92, .ref q93, .ref q94, .int 0, .ref q73, .int 0, .int 0, .ref q95, .ref q96, .ref q97, .ref q98, .int 0, .int 0, .int 0, .int 0, .ref q99, .int 0, .ref q100, .ref q101, .ref q102, .ref q103, .int 0, .ref q74, .ref q75, .ref q76, .ref q77, .int 0, .ref q78, .ref q79, .ref q104]))]) (w1 := []) hP hD [0, 1] [2] rfl rfl (by decide) (by decide) hk1 hFc wP_nil wD_nil
      clear hPc hDc
      generalize H1 = H at hP hS ⊢
      have hP : va_P D vwCl [(q59, .inr (12, [.ref q61, .ref q62, .ref q63, .ref q64, .ref q65, .ref q66, .ref q81, .ref q82, .ref q83, .ref q84, .ref q85, .ref q86, .int 0, .ref q87, .ref q88, .ref q89, .int 9, .int 0, .int 0, .ref q67, .ref q90, .ref q68, .int 0, .int 2, .ref q80, .ref q69, .ref q70, .ref q71, .int 0, .ref q72, .int 0, .ref q91, .ref q92, .ref q93, .ref q94, .int 0, .ref q73, .int 0, .int 0, .ref q95, .ref q96, .ref q97, .ref q98, .int 0, .int 0, .int 0, .int 0, .ref q99, .int 0, .ref q100, .ref q101, .ref q102, .ref q103, .int 0, .ref q74, .ref q75, .ref q76, .ref q77, .int 0, .ref q78, .ref q79, .ref q104]))] H := hP
      have hD : va_D A [(q59, .inr (12, [.ref q61, .ref q62, .ref q63, .ref q64, .ref q65, .ref q66, .ref q81, .ref q82, .ref q83, .ref q84, .ref q85, .ref q86, .int 0, .ref q87, .ref q88, .ref q89, .int 9, .int 0, .int 0, .ref q67, .ref q90, .ref q68, .int 0, .int 2, .ref q80, .ref q69, .ref q70, .ref q71, .int 0, .ref q72, .int 0, .ref q91, .ref q92, .ref q93, .ref q94, .int 0, .ref q73, .int 0, .int 0, .ref q95, .ref q96, .ref q97, .ref q98, .int 0, .int 0, .int 0, .int 0, .ref q99, .int 0, .ref q100, .ref q101, .ref q102, .ref q103, .int 0, .ref q74, .ref q75, .ref q76, .ref q77, .int 0, .ref q78, .ref q79, .ref q104]))] := hD
      subst hr142
      refine lv_aload_n hx hb dL_law_759 rfl (lv_at hl 2 rfl) ?_
      refine lv_aload_n hx hb dL_law_760 rfl (lv_at hl 4 rfl) ?_
      refine lv_iload hx hb dL_law_761 (lv_at hl 0 rfl) ?_
      refine lv_iconst (v := 1) hx hb dL_law_763 (by decide) ?_
      refine lv_iadd hx hb dL_law_764 ?_
      refine wk_i 1 (by decide) ?_
      refine va_sld hx hb hX hbl hbA hS (wk_in rfl) dL_law_765 ?_
      refine wk_i (xs 1) rfl ?_
      refine lv_aload_n hx hb dL_law_766 rfl (lv_at hl 4 rfl) ?_
      refine lv_iload hx hb dL_law_767 (lv_at hl 0 rfl) ?_
      refine lv_iconst (v := 2) hx hb dL_law_769 (by decide) ?_
      refine lv_iadd hx hb dL_law_770 ?_
      refine wk_i 2 (by decide) ?_
      refine va_sld hx hb hX hbl hbA hS (wk_in rfl) dL_law_771 ?_
      refine wk_i (xs 2) rfl ?_
      refine lv_aload_n hx hb dL_law_772 rfl (lv_at hl 4 rfl) ?_
      refine lv_iload hx hb dL_law_773 (lv_at hl 0 rfl) ?_
      refine lv_iconst (v := 3) hx hb dL_law_775 (by decide) ?_
      refine lv_iadd hx hb dL_law_776 ?_
      refine wk_i 3 (by decide) ?_
      refine va_sld hx hb hX hbl hbA hS (wk_in rfl) dL_law_777 ?_
      refine wk_i (xs 3) rfl ?_
      have hPc := hP.sub (ws' := [(q59, .inr (12, [.ref q61, .ref q62, .ref q63, .ref q64, .ref q65, .ref q66, .ref q81, .ref q82, .ref q83, .ref q84, .ref q85, .ref q86, .int 0, .ref q87, .ref q88, .ref q89, .int 9, .int 0, .int 0, .ref q67, .ref q90, .ref q68, .int 0, .int 2, .ref q80, .ref q69, .ref q70, .ref q71, .int 0, .ref q72, .int 0, .ref q91, .ref q92, .ref q93, .ref q94, .int 0, .ref q73, .int 0, .int 0, .ref q95, .ref q96, .ref q97, .ref q98, .int 0, .int 0, .int 0, .int 0, .ref q99, .int 0, .ref q100, .ref q101, .ref q102, .ref q103, .int 0, .ref q74, .ref q75, .ref q76, .ref q77, .int 0, .ref q78, .ref q79, .ref q104]))]) [0] rfl
      have hDc := hD.sub (ws' := [(q59, .inr (12, [.ref q61, .ref q62, .ref q63, .ref q64, .ref q65, .ref q66, .ref q81, .ref q82, .ref q83, .ref q84, .ref q85, .ref q86, .int 0, .ref q87, .ref q88, .ref q89, .int 9, .int 0, .int 0, .ref q67, .ref q90, .ref q68, .int 0, .int 2, .ref q80, .ref q69, .ref q70, .ref q71, .int 0, .ref q72, .int 0, .ref q91, .ref q92, .ref q93, .ref q94, .int 0, .ref q73, .int 0, .int 0, .ref q95, .ref q96, .ref q97, .ref q98, .int 0, .int 0, .int 0, .int 0, .ref q99, .int 0, .ref q100, .ref q101, .ref q102, .ref q103, .int 0, .ref q74, .ref q75, .ref q76, .ref q77, .int 0, .ref q78, .ref q79, .ref q104]))]) [0] (by decide) rfl
      have hFc := va_free (wc := [(q59, .inr (12, [.ref q61, .ref q62, .ref q63, .ref q64, .ref q65, .ref q66, .ref q81, .ref q82, .ref q83, .ref q84, .ref q85, .ref q86, .int 0, .ref q87, .ref q88, .ref q89, .int 9, .int 0, .int 0, .ref q67, .ref q90, .ref q68, .int 0, .int 2, .ref q80, .ref q69, .ref q70, .ref q71, .int 0, .ref q72, .int 0, .ref q91, .ref q92, .ref q93, .ref q94, .int 0, .ref q73, .int 0, .int 0, .ref q95, .ref q96, .ref q97, .ref q98, .int 0, .int 0, .int 0, .int 0, .ref q99, .int 0, .ref q100, .ref q101, .ref q102, .ref q103, .int 0, .ref q74, .ref q75, .ref q76, .ref q77, .int 0, .ref q78, .ref q79, .ref q104]))]) hD hS hA [0] rfl
      refine va_calli (va_runV (As := [.int (xs 1), .int (xs 2), .int (xs 3)]) (rest := [.int (-1)]) ⟨hx, hb, hml, hown, hts⟩ (kX12_pulled l D G q59 (xs 1) (xs 2) (xs 3) q61 q62 q63 q64 q65 q66 q81 q82 q83 q84 q85 q86 q87 q88 q89 q67 q90 q68 q80 q69 q70 q71 q72 q91 q92 q93 q94 q73 q95 q96 q97 q98 q99 q100 q101 q102 q103 q74 q75 q76 q77 q78 q79 q104 H.size) (cwV 3 hts gL_law_X12_pulled rfl rfl rfl (by decide +kernel) ⟨Nat.le_of_ble_eq_true rfl, Nat.le_of_ble_eq_true rfl⟩) ⟨wB_blind, va_recv hK hPc (ci := 12) (q0 := 0) rfl rfl, wB_pre hPc hK hDc hN⟩ rfl rfl hl.1 rfl (lv_room (Nat.le_of_ble_eq_true rfl)) dL_law_778 ⟨Nat.le_of_ble_eq_true rfl, Nat.le_of_ble_eq_true rfl⟩) hS (fun q _ h => hFc q h) hFc (fun r143 u t H1 locs ht hvm hr143 hB hz1 hk1 hS => ?_)
      obtain ⟨hP, hD⟩ := va_join (wr := []) (w1 := []) hP hD [0] [] rfl rfl (by decide) (by decide) hk1 hFc wP_nil wD_nil
      clear hPc hDc
      generalize H1 = H at hP hS ⊢
      have hP : va_P D vwCl [] H := hP
      have hD : va_D A [] := hD
      subst hr143
      refine lv_icmp_eq (tgt := 1531) hx hb dL_law_781 (by decide) (fun _ => ?_) (fun h9 => absurd h9 (by decide))
      refine lv_iinc (v := 7) (lv' := [(4, .int 7), (3, .ref q105), (2, .ref q59), (1, .ref q1), (0, .ref b)]) hx hb dL_law_1531 hl (k := 0) rfl (by decide) (by decide) rfl (fun ls hl => ?_)
      refine lv_goto (tgt := 23) hx hb dL_law_1534 (by decide) ?_
      refine lv_iload hx hb dL_law_23 (lv_at hl 0 rfl) ?_
      refine lv_aload_n hx hb dL_law_25 rfl (lv_at hl 4 rfl) ?_
      refine va_slen hx hb hX hbl hbA hS dL_law_26 ?_
      refine wk_i 7 rfl ?_
      refine lv_bipush (v := 7) hx hb dL_law_27 (by decide) ?_
      refine lv_isub hx hb dL_law_29 ?_
      refine wk_i 0 (by decide) ?_
      refine lv_icmp_gt (tgt := 1537) hx hb dL_law_30 (by decide) (fun _ => ?_) (fun h9 => absurd h9 (by decide))
      refine lv_iconst (v := 1) hx hb dL_law_1537 (by decide) ?_
      refine va_forget (fun q hq => by have h9 := hS.2.2 q hq; rw [hAe] at h9; exact h9) ?_
      refine W.widen (k := 600002) (n := 7302232) (by omega) (by omega) ?_
      exact lw_ret hx hb hr hlocks dL_law_1538
    by_cases s144 : vs = 10
    · subst s144
      refine lv_tableIn (off := 746) (tgt := 786) hx hb dL_law_40 (by decide) (by decide) (by decide) (by decide) ?_
      have hP := hP.sub (ws' := [(q1, .inr (11, [.ref q3, .ref q26, .ref q28, .ref q35, .ref q39, .ref q43, .ref q46, .ref q52])), (q26, .inr (10, [.ref q27, .int 0])), (q27, .inl (G.1, 100, .inl (fun _ => 0))), (q68, .inl (G.2.2.1, 100, .inl (fun _ => 0))), (q59, .inr (12, [.ref q61, .ref q62, .ref q63, .ref q64, .ref q65, .ref q66, .ref q81, .ref q82, .ref q83, .ref q84, .ref q85, .ref q86, .int 0, .ref q87, .ref q88, .ref q89, .int 9, .int 0, .int 0, .ref q67, .ref q90, .ref q68, .int 0, .int 2, .ref q80, .ref q69, .ref q70, .ref q71, .int 0, .ref q72, .int 0, .ref q91, .ref q92, .ref q93, .ref q94, .int 0, .ref q73, .int 0, .int 0, .ref q95, .ref q96, .ref q97, .ref q98, .int 0, .int 0, .int 0, .int 0, .ref q99, .int 0, .ref q100, .ref q101, .ref q102, .ref q103, .int 0, .ref q74, .ref q75, .ref q76, .ref q77, .int 0, .ref q78, .ref q79, .ref q104]))]) [0, 24, 25, 59, 71] rfl
      have hD := hD.sub (ws' := [(q1, .inr (11, [.ref q3, .ref q26, .ref q28, .ref q35, .ref q39, .ref q43, .ref q46, .ref q52])), (q26, .inr (10, [.ref q27, .int 0])), (q27, .inl (G.1, 100, .inl (fun _ => 0))), (q68, .inl (G.2.2.1, 100, .inl (fun _ => 0))), (q59, .inr (12, [.ref q61, .ref q62, .ref q63, .ref q64, .ref q65, .ref q66, .ref q81, .ref q82, .ref q83, .ref q84, .ref q85, .ref q86, .int 0, .ref q87, .ref q88, .ref q89, .int 9, .int 0, .int 0, .ref q67, .ref q90, .ref q68, .int 0, .int 2, .ref q80, .ref q69, .ref q70, .ref q71, .int 0, .ref q72, .int 0, .ref q91, .ref q92, .ref q93, .ref q94, .int 0, .ref q73, .int 0, .int 0, .ref q95, .ref q96, .ref q97, .ref q98, .int 0, .int 0, .int 0, .int 0, .ref q99, .int 0, .ref q100, .ref q101, .ref q102, .ref q103, .int 0, .ref q74, .ref q75, .ref q76, .ref q77, .int 0, .ref q78, .ref q79, .ref q104]))]) [0, 24, 25, 59, 71] (by decide) rfl
      refine lv_aload_n hx hb dL_law_786 rfl (lv_at hl 3 rfl) ?_
      refine lv_aload_n hx hb dL_law_787 rfl (lv_at hl 4 rfl) ?_
      refine lv_iload hx hb dL_law_788 (lv_at hl 0 rfl) ?_
      refine lv_iconst (v := 1) hx hb dL_law_790 (by decide) ?_
      refine lv_iadd hx hb dL_law_791 ?_
      refine wk_i 1 (by decide) ?_
      refine va_sld hx hb hX hbl hbA hS (wk_in rfl) dL_law_792 ?_
      refine wk_i (xs 1) rfl ?_
      have hPc := hP.sub (ws' := [(q1, .inr (11, [.ref q3, .ref q26, .ref q28, .ref q35, .ref q39, .ref q43, .ref q46, .ref q52])), (q26, .inr (10, [.ref q27, .int 0])), (q27, .inl (G.1, 100, .inl (fun _ => 0)))]) [0, 1, 2] rfl
      have hDc := hD.sub (ws' := [(q1, .inr (11, [.ref q3, .ref q26, .ref q28, .ref q35, .ref q39, .ref q43, .ref q46, .ref q52])), (q26, .inr (10, [.ref q27, .int 0])), (q27, .inl (G.1, 100, .inl (fun _ => 0)))]) [0, 1, 2] (by decide) rfl
      have hFc := va_free (wc := [(q1, .inr (11, [.ref q3, .ref q26, .ref q28, .ref q35, .ref q39, .ref q43, .ref q46, .ref q52])), (q26, .inr (10, [.ref q27, .int 0])), (q27, .inl (G.1, 100, .inl (fun _ => 0)))]) hD hS hA [0, 1, 2] rfl
      refine va_calli (va_runV (As := [.int (xs 1)]) (rest := []) ⟨hx, hb, hml, hown, hts⟩ (kX11_sign l D G q1 (xs 1) q3 q26 q28 q35 q39 q43 q46 q52 q27 H.size) (cwV 1 hts gL_law_X11_sign rfl rfl rfl (by decide +kernel) ⟨Nat.le_of_ble_eq_true rfl, Nat.le_of_ble_eq_true rfl⟩) ⟨wB_blind, va_recv hK hPc (ci := 11) (q0 := 0) rfl rfl, wB_pre hPc hK hDc hN⟩ rfl rfl hl.1 rfl (lv_room (Nat.le_of_ble_eq_true rfl)) dL_law_793 ⟨Nat.le_of_ble_eq_true rfl, Nat.le_of_ble_eq_true rfl⟩) hS (fun q _ h => hFc q h) hFc (fun r145 u t H1 locs ht hvm hr145 hB hz1 hk1 hS => ?_)
      obtain ⟨hP, hD⟩ := va_join (wr := [(q68, .inl (G.2.2.1, 100, .inl (fun _ => 0))), (q59, .inr (12, [.ref q61, .ref q62, .ref q63, .ref q64, .ref q65, .ref q66, .ref q81, .ref q82, .ref q83, .ref q84, .ref q85, .ref q86, .int 0, .ref q87, .ref q88, .ref q89, .int 9, .int 0, .int 0, .ref q67, .ref q90, .ref q68, .int 0, .int 2, .ref q80, .ref q69, .ref q70, .ref q71, .int 0, .ref q72, .int 0, .ref q91, .ref q92, .ref q93, .ref q94, .int 0, .ref q73, .int 0, .int 0, .ref q95, .ref q96, .ref q97, .ref q98, .int 0, .int 0, .int 0, .int 0, .ref q99, .int 0, .ref q100, .ref q101, .ref q102, .ref q103, .int 0, .ref q74, .ref q75, .ref q76, .ref q77, .int 0, .ref q78, .ref q79, .ref q104]))]) (w1 := []) hP hD [0, 1, 2] [3, 4] rfl rfl (by decide) (by decide) hk1 hFc wP_nil wD_nil
      clear hPc hDc
      generalize H1 = H at hP hS ⊢
      have hP : va_P D vwCl [(q68, .inl (G.2.2.1, 100, .inl (fun _ => 0))), (q59, .inr (12, [.ref q61, .ref q62, .ref q63, .ref q64, .ref q65, .ref q66, .ref q81, .ref q82, .ref q83, .ref q84, .ref q85, .ref q86, .int 0, .ref q87, .ref q88, .ref q89, .int 9, .int 0, .int 0, .ref q67, .ref q90, .ref q68, .int 0, .int 2, .ref q80, .ref q69, .ref q70, .ref q71, .int 0, .ref q72, .int 0, .ref q91, .ref q92, .ref q93, .ref q94, .int 0, .ref q73, .int 0, .int 0, .ref q95, .ref q96, .ref q97, .ref q98, .int 0, .int 0, .int 0, .int 0, .ref q99, .int 0, .ref q100, .ref q101, .ref q102, .ref q103, .int 0, .ref q74, .ref q75, .ref q76, .ref q77, .int 0, .ref q78, .ref q79, .ref q104]))] H := hP
      have hD : va_D A [(q68, .inl (G.2.2.1, 100, .inl (fun _ => 0))), (q59, .inr (12, [.ref q61, .ref q62, .ref q63, .ref q64, .ref q65, .ref q66, .ref q81, .ref q82, .ref q83, .ref q84, .ref q85, .ref q86, .int 0, .ref q87, .ref q88, .ref q89, .int 9, .int 0, .int 0, .ref q67, .ref q90, .ref q68, .int 0, .int 2, .ref q80, .ref q69, .ref q70, .ref q71, .int 0, .ref q72, .int 0, .ref q91, .ref q92, .ref q93, .ref q94, .int 0, .ref q73, .int 0, .int 0, .ref q95, .ref q96, .ref q97, .ref q98, .int 0, .int 0, .int 0, .int 0, .ref q99, .int 0, .ref q100, .ref q101, .ref q102, .ref q103, .int 0, .ref q74, .ref q75, .ref q76, .ref q77, .int 0, .ref q78, .ref q79, .ref q104]))] := hD
      subst hr145
      refine lv_aload_n hx hb dL_law_796 rfl (lv_at hl 2 rfl) ?_
      refine lv_aload_n hx hb dL_law_797 rfl (lv_at hl 4 rfl) ?_
      refine lv_iload hx hb dL_law_798 (lv_at hl 0 rfl) ?_
      refine lv_iconst (v := 1) hx hb dL_law_800 (by decide) ?_
      refine lv_iadd hx hb dL_law_801 ?_
      refine wk_i 1 (by decide) ?_
      refine va_sld hx hb hX hbl hbA hS (wk_in rfl) dL_law_802 ?_
      refine wk_i (xs 1) rfl ?_
      have hPc := hP.sub (ws' := [(q59, .inr (12, [.ref q61, .ref q62, .ref q63, .ref q64, .ref q65, .ref q66, .ref q81, .ref q82, .ref q83, .ref q84, .ref q85, .ref q86, .int 0, .ref q87, .ref q88, .ref q89, .int 9, .int 0, .int 0, .ref q67, .ref q90, .ref q68, .int 0, .int 2, .ref q80, .ref q69, .ref q70, .ref q71, .int 0, .ref q72, .int 0, .ref q91, .ref q92, .ref q93, .ref q94, .int 0, .ref q73, .int 0, .int 0, .ref q95, .ref q96, .ref q97, .ref q98, .int 0, .int 0, .int 0, .int 0, .ref q99, .int 0, .ref q100, .ref q101, .ref q102, .ref q103, .int 0, .ref q74, .ref q75, .ref q76, .ref q77, .int 0, .ref q78, .ref q79, .ref q104])), (q68, .inl (G.2.2.1, 100, .inl (fun _ => 0)))]) [1, 0] rfl
      have hDc := hD.sub (ws' := [(q59, .inr (12, [.ref q61, .ref q62, .ref q63, .ref q64, .ref q65, .ref q66, .ref q81, .ref q82, .ref q83, .ref q84, .ref q85, .ref q86, .int 0, .ref q87, .ref q88, .ref q89, .int 9, .int 0, .int 0, .ref q67, .ref q90, .ref q68, .int 0, .int 2, .ref q80, .ref q69, .ref q70, .ref q71, .int 0, .ref q72, .int 0, .ref q91, .ref q92, .ref q93, .ref q94, .int 0, .ref q73, .int 0, .int 0, .ref q95, .ref q96, .ref q97, .ref q98, .int 0, .int 0, .int 0, .int 0, .ref q99, .int 0, .ref q100, .ref q101, .ref q102, .ref q103, .int 0, .ref q74, .ref q75, .ref q76, .ref q77, .int 0, .ref q78, .ref q79, .ref q104])), (q68, .inl (G.2.2.1, 100, .inl (fun _ => 0)))]) [1, 0] (by decide) rfl
      have hFc := va_free (wc := [(q59, .inr (12, [.ref q61, .ref q62, .ref q63, .ref q64, .ref q65, .ref q66, .ref q81, .ref q82, .ref q83, .ref q84, .ref q85, .ref q86, .int 0, .ref q87, .ref q88, .ref q89, .int 9, .int 0, .int 0, .ref q67, .ref q90, .ref q68, .int 0, .int 2, .ref q80, .ref q69, .ref q70, .ref q71, .int 0, .ref q72, .int 0, .ref q91, .ref q92, .ref q93, .ref q94, .int 0, .ref q73, .int 0, .int 0, .ref q95, .ref q96, .ref q97, .ref q98, .int 0, .int 0, .int 0, .int 0, .ref q99, .int 0, .ref q100, .ref q101, .ref q102, .ref q103, .int 0, .ref q74, .ref q75, .ref q76, .ref q77, .int 0, .ref q78, .ref q79, .ref q104])), (q68, .inl (G.2.2.1, 100, .inl (fun _ => 0)))]) hD hS hA [1, 0] rfl
      refine va_calli (va_runV (As := [.int (xs 1)]) (rest := [.int 4]) ⟨hx, hb, hml, hown, hts⟩ (kX12_sign l D G q59 (xs 1) q61 q62 q63 q64 q65 q66 q81 q82 q83 q84 q85 q86 q87 q88 q89 q67 q90 q68 q80 q69 q70 q71 q72 q91 q92 q93 q94 q73 q95 q96 q97 q98 q99 q100 q101 q102 q103 q74 q75 q76 q77 q78 q79 q104 H.size) (cwV 1 hts gL_law_X12_sign rfl rfl rfl (by decide +kernel) ⟨Nat.le_of_ble_eq_true rfl, Nat.le_of_ble_eq_true rfl⟩) ⟨wB_blind, va_recv hK hPc (ci := 12) (q0 := 0) rfl rfl, wB_pre hPc hK hDc hN⟩ rfl rfl hl.1 rfl (lv_room (Nat.le_of_ble_eq_true rfl)) dL_law_803 ⟨Nat.le_of_ble_eq_true rfl, Nat.le_of_ble_eq_true rfl⟩) hS (fun q _ h => hFc q h) hFc (fun r146 u t H1 locs ht hvm hr146 hB hz1 hk1 hS => ?_)
      obtain ⟨hP, hD⟩ := va_join (wr := []) (w1 := []) hP hD [1, 0] [] rfl rfl (by decide) (by decide) hk1 hFc wP_nil wD_nil
      clear hPc hDc
      generalize H1 = H at hP hS ⊢
      have hP : va_P D vwCl [] H := hP
      have hD : va_D A [] := hD
      subst hr146
      refine lv_icmp_eq (tgt := 1531) hx hb dL_law_806 (by decide) (fun _ => ?_) (fun h9 => absurd h9 (by decide))
      refine lv_iinc (v := 7) (lv' := [(4, .int 7), (3, .ref q105), (2, .ref q59), (1, .ref q1), (0, .ref b)]) hx hb dL_law_1531 hl (k := 0) rfl (by decide) (by decide) rfl (fun ls hl => ?_)
      refine lv_goto (tgt := 23) hx hb dL_law_1534 (by decide) ?_
      refine lv_iload hx hb dL_law_23 (lv_at hl 0 rfl) ?_
      refine lv_aload_n hx hb dL_law_25 rfl (lv_at hl 4 rfl) ?_
      refine va_slen hx hb hX hbl hbA hS dL_law_26 ?_
      refine wk_i 7 rfl ?_
      refine lv_bipush (v := 7) hx hb dL_law_27 (by decide) ?_
      refine lv_isub hx hb dL_law_29 ?_
      refine wk_i 0 (by decide) ?_
      refine lv_icmp_gt (tgt := 1537) hx hb dL_law_30 (by decide) (fun _ => ?_) (fun h9 => absurd h9 (by decide))
      refine lv_iconst (v := 1) hx hb dL_law_1537 (by decide) ?_
      refine va_forget (fun q hq => by have h9 := hS.2.2 q hq; rw [hAe] at h9; exact h9) ?_
      refine W.widen (k := 600002) (n := 7302232) (by omega) (by omega) ?_
      exact lw_ret hx hb hr hlocks dL_law_1538
    by_cases s147 : vs = 11
    · subst s147
      refine lv_tableIn (off := 771) (tgt := 811) hx hb dL_law_40 (by decide) (by decide) (by decide) (by decide) ?_
      have hP := hP.sub (ws' := [(q1, .inr (11, [.ref q3, .ref q26, .ref q28, .ref q35, .ref q39, .ref q43, .ref q46, .ref q52])), (q26, .inr (10, [.ref q27, .int 0])), (q59, .inr (12, [.ref q61, .ref q62, .ref q63, .ref q64, .ref q65, .ref q66, .ref q81, .ref q82, .ref q83, .ref q84, .ref q85, .ref q86, .int 0, .ref q87, .ref q88, .ref q89, .int 9, .int 0, .int 0, .ref q67, .ref q90, .ref q68, .int 0, .int 2, .ref q80, .ref q69, .ref q70, .ref q71, .int 0, .ref q72, .int 0, .ref q91, .ref q92, .ref q93, .ref q94, .int 0, .ref q73, .int 0, .int 0, .ref q95, .ref q96, .ref q97, .ref q98, .int 0, .int 0, .int 0, .int 0, .ref q99, .int 0, .ref q100, .ref q101, .ref q102, .ref q103, .int 0, .ref q74, .ref q75, .ref q76, .ref q77, .int 0, .ref q78, .ref q79, .ref q104]))]) [0, 24, 71] rfl
      have hD := hD.sub (ws' := [(q1, .inr (11, [.ref q3, .ref q26, .ref q28, .ref q35, .ref q39, .ref q43, .ref q46, .ref q52])), (q26, .inr (10, [.ref q27, .int 0])), (q59, .inr (12, [.ref q61, .ref q62, .ref q63, .ref q64, .ref q65, .ref q66, .ref q81, .ref q82, .ref q83, .ref q84, .ref q85, .ref q86, .int 0, .ref q87, .ref q88, .ref q89, .int 9, .int 0, .int 0, .ref q67, .ref q90, .ref q68, .int 0, .int 2, .ref q80, .ref q69, .ref q70, .ref q71, .int 0, .ref q72, .int 0, .ref q91, .ref q92, .ref q93, .ref q94, .int 0, .ref q73, .int 0, .int 0, .ref q95, .ref q96, .ref q97, .ref q98, .int 0, .int 0, .int 0, .int 0, .ref q99, .int 0, .ref q100, .ref q101, .ref q102, .ref q103, .int 0, .ref q74, .ref q75, .ref q76, .ref q77, .int 0, .ref q78, .ref q79, .ref q104]))]) [0, 24, 71] (by decide) rfl
      refine lv_aload_n hx hb dL_law_811 rfl (lv_at hl 3 rfl) ?_
      refine lv_aload_n hx hb dL_law_812 rfl (lv_at hl 4 rfl) ?_
      refine lv_iload hx hb dL_law_813 (lv_at hl 0 rfl) ?_
      refine lv_iconst (v := 1) hx hb dL_law_815 (by decide) ?_
      refine lv_iadd hx hb dL_law_816 ?_
      refine wk_i 1 (by decide) ?_
      refine va_sld hx hb hX hbl hbA hS (wk_in rfl) dL_law_817 ?_
      refine wk_i (xs 1) rfl ?_
      have hPc := hP.sub (ws' := [(q1, .inr (11, [.ref q3, .ref q26, .ref q28, .ref q35, .ref q39, .ref q43, .ref q46, .ref q52])), (q26, .inr (10, [.ref q27, .int 0]))]) [0, 1] rfl
      have hDc := hD.sub (ws' := [(q1, .inr (11, [.ref q3, .ref q26, .ref q28, .ref q35, .ref q39, .ref q43, .ref q46, .ref q52])), (q26, .inr (10, [.ref q27, .int 0]))]) [0, 1] (by decide) rfl
      have hFc := va_free (wc := [(q1, .inr (11, [.ref q3, .ref q26, .ref q28, .ref q35, .ref q39, .ref q43, .ref q46, .ref q52])), (q26, .inr (10, [.ref q27, .int 0]))]) hD hS hA [0, 1] rfl
      refine va_calli (va_runV (As := [.int (xs 1)]) (rest := []) ⟨hx, hb, hml, hown, hts⟩ (kX11_end l D G q1 (xs 1) q3 q26 q28 q35 q39 q43 q46 q52 q27 H.size) (cwV 1 hts gL_law_X11_end rfl rfl rfl (by decide +kernel) ⟨Nat.le_of_ble_eq_true rfl, Nat.le_of_ble_eq_true rfl⟩) ⟨wB_blind, va_recv hK hPc (ci := 11) (q0 := 0) rfl rfl, wB_pre hPc hK hDc hN⟩ rfl rfl hl.1 rfl (lv_room (Nat.le_of_ble_eq_true rfl)) dL_law_818 ⟨Nat.le_of_ble_eq_true rfl, Nat.le_of_ble_eq_true rfl⟩) hS (fun q _ h => hFc q h) hFc (fun r148 u t H1 locs ht hvm hr148 hB hz1 hk1 hS => ?_)
      obtain ⟨hP, hD⟩ := va_join (wr := [(q59, .inr (12, [.ref q61, .ref q62, .ref q63, .ref q64, .ref q65, .ref q66, .ref q81, .ref q82, .ref q83, .ref q84, .ref q85, .ref q86, .int 0, .ref q87, .ref q88, .ref q89, .int 9, .int 0, .int 0, .ref q67, .ref q90, .ref q68, .int 0, .int 2, .ref q80, .ref q69, .ref q70, .ref q71, .int 0, .ref q72, .int 0, .ref q91, .ref q92, .ref q93, .ref q94, .int 0, .ref q73, .int 0, .int 0, .ref q95, .ref q96, .ref q97, .ref q98, .int 0, .int 0, .int 0, .int 0, .ref q99, .int 0, .ref q100, .ref q101, .ref q102, .ref q103, .int 0, .ref q74, .ref q75, .ref q76, .ref q77, .int 0, .ref q78, .ref q79, .ref q104]))]) (w1 := []) hP hD [0, 1] [2] rfl rfl (by decide) (by decide) hk1 hFc wP_nil wD_nil
      clear hPc hDc
      generalize H1 = H at hP hS ⊢
      have hP : va_P D vwCl [(q59, .inr (12, [.ref q61, .ref q62, .ref q63, .ref q64, .ref q65, .ref q66, .ref q81, .ref q82, .ref q83, .ref q84, .ref q85, .ref q86, .int 0, .ref q87, .ref q88, .ref q89, .int 9, .int 0, .int 0, .ref q67, .ref q90, .ref q68, .int 0, .int 2, .ref q80, .ref q69, .ref q70, .ref q71, .int 0, .ref q72, .int 0, .ref q91, .ref q92, .ref q93, .ref q94, .int 0, .ref q73, .int 0, .int 0, .ref q95, .ref q96, .ref q97, .ref q98, .int 0, .int 0, .int 0, .int 0, .ref q99, .int 0, .ref q100, .ref q101, .ref q102, .ref q103, .int 0, .ref q74, .ref q75, .ref q76, .ref q77, .int 0, .ref q78, .ref q79, .ref q104]))] H := hP
      have hD : va_D A [(q59, .inr (12, [.ref q61, .ref q62, .ref q63, .ref q64, .ref q65, .ref q66, .ref q81, .ref q82, .ref q83, .ref q84, .ref q85, .ref q86, .int 0, .ref q87, .ref q88, .ref q89, .int 9, .int 0, .int 0, .ref q67, .ref q90, .ref q68, .int 0, .int 2, .ref q80, .ref q69, .ref q70, .ref q71, .int 0, .ref q72, .int 0, .ref q91, .ref q92, .ref q93, .ref q94, .int 0, .ref q73, .int 0, .int 0, .ref q95, .ref q96, .ref q97, .ref q98, .int 0, .int 0, .int 0, .int 0, .ref q99, .int 0, .ref q100, .ref q101, .ref q102, .ref q103, .int 0, .ref q74, .ref q75, .ref q76, .ref q77, .int 0, .ref q78, .ref q79, .ref q104]))] := hD
      refine lv_aload_n hx hb dL_law_821 rfl (lv_at hl 2 rfl) ?_
      refine lv_aload_n hx hb dL_law_822 rfl (lv_at hl 4 rfl) ?_
      refine lv_iload hx hb dL_law_823 (lv_at hl 0 rfl) ?_
      refine lv_iconst (v := 1) hx hb dL_law_825 (by decide) ?_
      refine lv_iadd hx hb dL_law_826 ?_
      refine wk_i 1 (by decide) ?_
      refine va_sld hx hb hX hbl hbA hS (wk_in rfl) dL_law_827 ?_
      refine wk_i (xs 1) rfl ?_
      have hPc := hP.sub (ws' := [(q59, .inr (12, [.ref q61, .ref q62, .ref q63, .ref q64, .ref q65, .ref q66, .ref q81, .ref q82, .ref q83, .ref q84, .ref q85, .ref q86, .int 0, .ref q87, .ref q88, .ref q89, .int 9, .int 0, .int 0, .ref q67, .ref q90, .ref q68, .int 0, .int 2, .ref q80, .ref q69, .ref q70, .ref q71, .int 0, .ref q72, .int 0, .ref q91, .ref q92, .ref q93, .ref q94, .int 0, .ref q73, .int 0, .int 0, .ref q95, .ref q96, .ref q97, .ref q98, .int 0, .int 0, .int 0, .int 0, .ref q99, .int 0, .ref q100, .ref q101, .ref q102, .ref q103, .int 0, .ref q74, .ref q75, .ref q76, .ref q77, .int 0, .ref q78, .ref q79, .ref q104]))]) [0] rfl
      have hDc := hD.sub (ws' := [(q59, .inr (12, [.ref q61, .ref q62, .ref q63, .ref q64, .ref q65, .ref q66, .ref q81, .ref q82, .ref q83, .ref q84, .ref q85, .ref q86, .int 0, .ref q87, .ref q88, .ref q89, .int 9, .int 0, .int 0, .ref q67, .ref q90, .ref q68, .int 0, .int 2, .ref q80, .ref q69, .ref q70, .ref q71, .int 0, .ref q72, .int 0, .ref q91, .ref q92, .ref q93, .ref q94, .int 0, .ref q73, .int 0, .int 0, .ref q95, .ref q96, .ref q97, .ref q98, .int 0, .int 0, .int 0, .int 0, .ref q99, .int 0, .ref q100, .ref q101, .ref q102, .ref q103, .int 0, .ref q74, .ref q75, .ref q76, .ref q77, .int 0, .ref q78, .ref q79, .ref q104]))]) [0] (by decide) rfl
      have hFc := va_free (wc := [(q59, .inr (12, [.ref q61, .ref q62, .ref q63, .ref q64, .ref q65, .ref q66, .ref q81, .ref q82, .ref q83, .ref q84, .ref q85, .ref q86, .int 0, .ref q87, .ref q88, .ref q89, .int 9, .int 0, .int 0, .ref q67, .ref q90, .ref q68, .int 0, .int 2, .ref q80, .ref q69, .ref q70, .ref q71, .int 0, .ref q72, .int 0, .ref q91, .ref q92, .ref q93, .ref q94, .int 0, .ref q73, .int 0, .int 0, .ref q95, .ref q96, .ref q97, .ref q98, .int 0, .int 0, .int 0, .int 0, .ref q99, .int 0, .ref q100, .ref q101, .ref q102, .ref q103, .int 0, .ref q74, .ref q75, .ref q76, .ref q77, .int 0, .ref q78, .ref q79, .ref q104]))]) hD hS hA [0] rfl
      refine va_calli (va_runV (As := [.int (xs 1)]) (rest := [.int r148]) ⟨hx, hb, hml, hown, hts⟩ (kX12_end l D G q59 (xs 1) q61 q62 q63 q64 q65 q66 q81 q82 q83 q84 q85 q86 q87 q88 q89 q67 q90 q68 q80 q69 q70 q71 q72 q91 q92 q93 q94 q73 q95 q96 q97 q98 q99 q100 q101 q102 q103 q74 q75 q76 q77 q78 q79 q104 H.size) (cwV 1 hts gL_law_X12_end rfl rfl rfl (by decide +kernel) ⟨Nat.le_of_ble_eq_true rfl, Nat.le_of_ble_eq_true rfl⟩) ⟨wB_blind, va_recv hK hPc (ci := 12) (q0 := 0) rfl rfl, wB_pre hPc hK hDc hN⟩ rfl rfl hl.1 rfl (lv_room (Nat.le_of_ble_eq_true rfl)) dL_law_828 ⟨Nat.le_of_ble_eq_true rfl, Nat.le_of_ble_eq_true rfl⟩) hS (fun q _ h => hFc q h) hFc (fun r149 u t H1 locs ht hvm hr149 hB hz1 hk1 hS => ?_)
      obtain ⟨hP, hD⟩ := va_join (wr := []) (w1 := []) hP hD [0] [] rfl rfl (by decide) (by decide) hk1 hFc wP_nil wD_nil
      clear hPc hDc
      generalize H1 = H at hP hS ⊢
      have hP : va_P D vwCl [] H := hP
      have hD : va_D A [] := hD
      refine lv_icmp_eq (tgt := 1531) hx hb dL_law_831 (by decide) (fun _ => ?_) (fun h9 => absurd (Eq.trans hr148 (Eq.symm hr149)) h9)
      refine lv_iinc (v := 7) (lv' := [(4, .int 7), (3, .ref q105), (2, .ref q59), (1, .ref q1), (0, .ref b)]) hx hb dL_law_1531 hl (k := 0) rfl (by decide) (by decide) rfl (fun ls hl => ?_)
      refine lv_goto (tgt := 23) hx hb dL_law_1534 (by decide) ?_
      refine lv_iload hx hb dL_law_23 (lv_at hl 0 rfl) ?_
      refine lv_aload_n hx hb dL_law_25 rfl (lv_at hl 4 rfl) ?_
      refine va_slen hx hb hX hbl hbA hS dL_law_26 ?_
      refine wk_i 7 rfl ?_
      refine lv_bipush (v := 7) hx hb dL_law_27 (by decide) ?_
      refine lv_isub hx hb dL_law_29 ?_
      refine wk_i 0 (by decide) ?_
      refine lv_icmp_gt (tgt := 1537) hx hb dL_law_30 (by decide) (fun _ => ?_) (fun h9 => absurd h9 (by decide))
      refine lv_iconst (v := 1) hx hb dL_law_1537 (by decide) ?_
      refine va_forget (fun q hq => by have h9 := hS.2.2 q hq; rw [hAe] at h9; exact h9) ?_
      refine W.widen (k := 600002) (n := 7302232) (by omega) (by omega) ?_
      exact lw_ret hx hb hr hlocks dL_law_1538
    by_cases s150 : vs = 12
    · subst s150
      refine lv_tableIn (off := 796) (tgt := 836) hx hb dL_law_40 (by decide) (by decide) (by decide) (by decide) ?_
      have hP := hP.sub (ws' := [(q1, .inr (11, [.ref q3, .ref q26, .ref q28, .ref q35, .ref q39, .ref q43, .ref q46, .ref q52])), (q3, .inr (8, [.ref q4, .ref q54, .ref q55, .ref q5, .ref q6, .int 0, .int 0, .int 9, .int 0, .int 0])), (q26, .inr (10, [.ref q27, .int 0])), (q59, .inr (12, [.ref q61, .ref q62, .ref q63, .ref q64, .ref q65, .ref q66, .ref q81, .ref q82, .ref q83, .ref q84, .ref q85, .ref q86, .int 0, .ref q87, .ref q88, .ref q89, .int 9, .int 0, .int 0, .ref q67, .ref q90, .ref q68, .int 0, .int 2, .ref q80, .ref q69, .ref q70, .ref q71, .int 0, .ref q72, .int 0, .ref q91, .ref q92, .ref q93, .ref q94, .int 0, .ref q73, .int 0, .int 0, .ref q95, .ref q96, .ref q97, .ref q98, .int 0, .int 0, .int 0, .int 0, .ref q99, .int 0, .ref q100, .ref q101, .ref q102, .ref q103, .int 0, .ref q74, .ref q75, .ref q76, .ref q77, .int 0, .ref q78, .ref q79, .ref q104]))]) [0, 1, 24, 71] rfl
      have hD := hD.sub (ws' := [(q1, .inr (11, [.ref q3, .ref q26, .ref q28, .ref q35, .ref q39, .ref q43, .ref q46, .ref q52])), (q3, .inr (8, [.ref q4, .ref q54, .ref q55, .ref q5, .ref q6, .int 0, .int 0, .int 9, .int 0, .int 0])), (q26, .inr (10, [.ref q27, .int 0])), (q59, .inr (12, [.ref q61, .ref q62, .ref q63, .ref q64, .ref q65, .ref q66, .ref q81, .ref q82, .ref q83, .ref q84, .ref q85, .ref q86, .int 0, .ref q87, .ref q88, .ref q89, .int 9, .int 0, .int 0, .ref q67, .ref q90, .ref q68, .int 0, .int 2, .ref q80, .ref q69, .ref q70, .ref q71, .int 0, .ref q72, .int 0, .ref q91, .ref q92, .ref q93, .ref q94, .int 0, .ref q73, .int 0, .int 0, .ref q95, .ref q96, .ref q97, .ref q98, .int 0, .int 0, .int 0, .int 0, .ref q99, .int 0, .ref q100, .ref q101, .ref q102, .ref q103, .int 0, .ref q74, .ref q75, .ref q76, .ref q77, .int 0, .ref q78, .ref q79, .ref q104]))]) [0, 1, 24, 71] (by decide) rfl
      refine lv_aload_n hx hb dL_law_836 rfl (lv_at hl 3 rfl) ?_
      refine lv_aload_n hx hb dL_law_837 rfl (lv_at hl 4 rfl) ?_
      refine lv_iload hx hb dL_law_838 (lv_at hl 0 rfl) ?_
      refine lv_iconst (v := 1) hx hb dL_law_840 (by decide) ?_
      refine lv_iadd hx hb dL_law_841 ?_
      refine wk_i 1 (by decide) ?_
      refine va_sld hx hb hX hbl hbA hS (wk_in rfl) dL_law_842 ?_
      refine wk_i (xs 1) rfl ?_
      have hPc := hP.sub (ws' := [(q1, .inr (11, [.ref q3, .ref q26, .ref q28, .ref q35, .ref q39, .ref q43, .ref q46, .ref q52])), (q3, .inr (8, [.ref q4, .ref q54, .ref q55, .ref q5, .ref q6, .int 0, .int 0, .int 9, .int 0, .int 0])), (q26, .inr (10, [.ref q27, .int 0]))]) [0, 1, 2] rfl
      have hDc := hD.sub (ws' := [(q1, .inr (11, [.ref q3, .ref q26, .ref q28, .ref q35, .ref q39, .ref q43, .ref q46, .ref q52])), (q3, .inr (8, [.ref q4, .ref q54, .ref q55, .ref q5, .ref q6, .int 0, .int 0, .int 9, .int 0, .int 0])), (q26, .inr (10, [.ref q27, .int 0]))]) [0, 1, 2] (by decide) rfl
      have hFc := va_free (wc := [(q1, .inr (11, [.ref q3, .ref q26, .ref q28, .ref q35, .ref q39, .ref q43, .ref q46, .ref q52])), (q3, .inr (8, [.ref q4, .ref q54, .ref q55, .ref q5, .ref q6, .int 0, .int 0, .int 9, .int 0, .int 0])), (q26, .inr (10, [.ref q27, .int 0]))]) hD hS hA [0, 1, 2] rfl
      refine va_calli (va_runV (As := [.int (xs 1)]) (rest := []) ⟨hx, hb, hml, hown, hts⟩ (kX11_score l D G q1 (xs 1) q3 q26 q28 q35 q39 q43 q46 q52 q4 q54 q55 q5 q6 q27 H.size) (cwV 1 hts gL_law_X11_score rfl rfl rfl (by decide +kernel) ⟨Nat.le_of_ble_eq_true rfl, Nat.le_of_ble_eq_true rfl⟩) ⟨wB_blind, va_recv hK hPc (ci := 11) (q0 := 0) rfl rfl, wB_pre hPc hK hDc hN⟩ rfl rfl hl.1 rfl (lv_room (Nat.le_of_ble_eq_true rfl)) dL_law_843 ⟨Nat.le_of_ble_eq_true rfl, Nat.le_of_ble_eq_true rfl⟩) hS (fun q _ h => hFc q h) hFc (fun r151 u t H1 locs ht hvm hr151 hB hz1 hk1 hS => ?_)
      obtain ⟨hP, hD⟩ := va_join (wr := [(q59, .inr (12, [.ref q61, .ref q62, .ref q63, .ref q64, .ref q65, .ref q66, .ref q81, .ref q82, .ref q83, .ref q84, .ref q85, .ref q86, .int 0, .ref q87, .ref q88, .ref q89, .int 9, .int 0, .int 0, .ref q67, .ref q90, .ref q68, .int 0, .int 2, .ref q80, .ref q69, .ref q70, .ref q71, .int 0, .ref q72, .int 0, .ref q91, .ref q92, .ref q93, .ref q94, .int 0, .ref q73, .int 0, .int 0, .ref q95, .ref q96, .ref q97, .ref q98, .int 0, .int 0, .int 0, .int 0, .ref q99, .int 0, .ref q100, .ref q101, .ref q102, .ref q103, .int 0, .ref q74, .ref q75, .ref q76, .ref q77, .int 0, .ref q78, .ref q79, .ref q104]))]) (w1 := []) hP hD [0, 1, 2] [3] rfl rfl (by decide) (by decide) hk1 hFc wP_nil wD_nil
      clear hPc hDc
      generalize H1 = H at hP hS ⊢
      have hP : va_P D vwCl [(q59, .inr (12, [.ref q61, .ref q62, .ref q63, .ref q64, .ref q65, .ref q66, .ref q81, .ref q82, .ref q83, .ref q84, .ref q85, .ref q86, .int 0, .ref q87, .ref q88, .ref q89, .int 9, .int 0, .int 0, .ref q67, .ref q90, .ref q68, .int 0, .int 2, .ref q80, .ref q69, .ref q70, .ref q71, .int 0, .ref q72, .int 0, .ref q91, .ref q92, .ref q93, .ref q94, .int 0, .ref q73, .int 0, .int 0, .ref q95, .ref q96, .ref q97, .ref q98, .int 0, .int 0, .int 0, .int 0, .ref q99, .int 0, .ref q100, .ref q101, .ref q102, .ref q103, .int 0, .ref q74, .ref q75, .ref q76, .ref q77, .int 0, .ref q78, .ref q79, .ref q104]))] H := hP
      have hD : va_D A [(q59, .inr (12, [.ref q61, .ref q62, .ref q63, .ref q64, .ref q65, .ref q66, .ref q81, .ref q82, .ref q83, .ref q84, .ref q85, .ref q86, .int 0, .ref q87, .ref q88, .ref q89, .int 9, .int 0, .int 0, .ref q67, .ref q90, .ref q68, .int 0, .int 2, .ref q80, .ref q69, .ref q70, .ref q71, .int 0, .ref q72, .int 0, .ref q91, .ref q92, .ref q93, .ref q94, .int 0, .ref q73, .int 0, .int 0, .ref q95, .ref q96, .ref q97, .ref q98, .int 0, .int 0, .int 0, .int 0, .ref q99, .int 0, .ref q100, .ref q101, .ref q102, .ref q103, .int 0, .ref q74, .ref q75, .ref q76, .ref q77, .int 0, .ref q78, .ref q79, .ref q104]))] := hD
      subst hr151
      refine lv_aload_n hx hb dL_law_846 rfl (lv_at hl 2 rfl) ?_
      refine lv_aload_n hx hb dL_law_847 rfl (lv_at hl 4 rfl) ?_
      refine lv_iload hx hb dL_law_848 (lv_at hl 0 rfl) ?_
      refine lv_iconst (v := 1) hx hb dL_law_850 (by decide) ?_
      refine lv_iadd hx hb dL_law_851 ?_
      refine wk_i 1 (by decide) ?_
      refine va_sld hx hb hX hbl hbA hS (wk_in rfl) dL_law_852 ?_
      refine wk_i (xs 1) rfl ?_
      have hPc := hP.sub (ws' := [(q59, .inr (12, [.ref q61, .ref q62, .ref q63, .ref q64, .ref q65, .ref q66, .ref q81, .ref q82, .ref q83, .ref q84, .ref q85, .ref q86, .int 0, .ref q87, .ref q88, .ref q89, .int 9, .int 0, .int 0, .ref q67, .ref q90, .ref q68, .int 0, .int 2, .ref q80, .ref q69, .ref q70, .ref q71, .int 0, .ref q72, .int 0, .ref q91, .ref q92, .ref q93, .ref q94, .int 0, .ref q73, .int 0, .int 0, .ref q95, .ref q96, .ref q97, .ref q98, .int 0, .int 0, .int 0, .int 0, .ref q99, .int 0, .ref q100, .ref q101, .ref q102, .ref q103, .int 0, .ref q74, .ref q75, .ref q76, .ref q77, .int 0, .ref q78, .ref q79, .ref q104]))]) [0] rfl
      have hDc := hD.sub (ws' := [(q59, .inr (12, [.ref q61, .ref q62, .ref q63, .ref q64, .ref q65, .ref q66, .ref q81, .ref q82, .ref q83, .ref q84, .ref q85, .ref q86, .int 0, .ref q87, .ref q88, .ref q89, .int 9, .int 0, .int 0, .ref q67, .ref q90, .ref q68, .int 0, .int 2, .ref q80, .ref q69, .ref q70, .ref q71, .int 0, .ref q72, .int 0, .ref q91, .ref q92, .ref q93, .ref q94, .int 0, .ref q73, .int 0, .int 0, .ref q95, .ref q96, .ref q97, .ref q98, .int 0, .int 0, .int 0, .int 0, .ref q99, .int 0, .ref q100, .ref q101, .ref q102, .ref q103, .int 0, .ref q74, .ref q75, .ref q76, .ref q77, .int 0, .ref q78, .ref q79, .ref q104]))]) [0] (by decide) rfl
      have hFc := va_free (wc := [(q59, .inr (12, [.ref q61, .ref q62, .ref q63, .ref q64, .ref q65, .ref q66, .ref q81, .ref q82, .ref q83, .ref q84, .ref q85, .ref q86, .int 0, .ref q87, .ref q88, .ref q89, .int 9, .int 0, .int 0, .ref q67, .ref q90, .ref q68, .int 0, .int 2, .ref q80, .ref q69, .ref q70, .ref q71, .int 0, .ref q72, .int 0, .ref q91, .ref q92, .ref q93, .ref q94, .int 0, .ref q73, .int 0, .int 0, .ref q95, .ref q96, .ref q97, .ref q98, .int 0, .int 0, .int 0, .int 0, .ref q99, .int 0, .ref q100, .ref q101, .ref q102, .ref q103, .int 0, .ref q74, .ref q75, .ref q76, .ref q77, .int 0, .ref q78, .ref q79, .ref q104]))]) hD hS hA [0] rfl
      refine va_calli (va_runV (As := [.int (xs 1)]) (rest := [.int (-101)]) ⟨hx, hb, hml, hown, hts⟩ (kX12_score l D G q59 (xs 1) q61 q62 q63 q64 q65 q66 q81 q82 q83 q84 q85 q86 q87 q88 q89 q67 q90 q68 q80 q69 q70 q71 q72 q91 q92 q93 q94 q73 q95 q96 q97 q98 q99 q100 q101 q102 q103 q74 q75 q76 q77 q78 q79 q104 H.size) (cwV 1 hts gL_law_X12_score rfl rfl rfl (by decide +kernel) ⟨Nat.le_of_ble_eq_true rfl, Nat.le_of_ble_eq_true rfl⟩) ⟨wB_blind, va_recv hK hPc (ci := 12) (q0 := 0) rfl rfl, wB_pre hPc hK hDc hN⟩ rfl rfl hl.1 rfl (lv_room (Nat.le_of_ble_eq_true rfl)) dL_law_853 ⟨Nat.le_of_ble_eq_true rfl, Nat.le_of_ble_eq_true rfl⟩) hS (fun q _ h => hFc q h) hFc (fun r152 u t H1 locs ht hvm hr152 hB hz1 hk1 hS => ?_)
      obtain ⟨hP, hD⟩ := va_join (wr := []) (w1 := []) hP hD [0] [] rfl rfl (by decide) (by decide) hk1 hFc wP_nil wD_nil
      clear hPc hDc
      generalize H1 = H at hP hS ⊢
      have hP : va_P D vwCl [] H := hP
      have hD : va_D A [] := hD
      subst hr152
      refine lv_icmp_eq (tgt := 1531) hx hb dL_law_856 (by decide) (fun _ => ?_) (fun h9 => absurd h9 (by decide))
      refine lv_iinc (v := 7) (lv' := [(4, .int 7), (3, .ref q105), (2, .ref q59), (1, .ref q1), (0, .ref b)]) hx hb dL_law_1531 hl (k := 0) rfl (by decide) (by decide) rfl (fun ls hl => ?_)
      refine lv_goto (tgt := 23) hx hb dL_law_1534 (by decide) ?_
      refine lv_iload hx hb dL_law_23 (lv_at hl 0 rfl) ?_
      refine lv_aload_n hx hb dL_law_25 rfl (lv_at hl 4 rfl) ?_
      refine va_slen hx hb hX hbl hbA hS dL_law_26 ?_
      refine wk_i 7 rfl ?_
      refine lv_bipush (v := 7) hx hb dL_law_27 (by decide) ?_
      refine lv_isub hx hb dL_law_29 ?_
      refine wk_i 0 (by decide) ?_
      refine lv_icmp_gt (tgt := 1537) hx hb dL_law_30 (by decide) (fun _ => ?_) (fun h9 => absurd h9 (by decide))
      refine lv_iconst (v := 1) hx hb dL_law_1537 (by decide) ?_
      refine va_forget (fun q hq => by have h9 := hS.2.2 q hq; rw [hAe] at h9; exact h9) ?_
      refine W.widen (k := 600002) (n := 7302232) (by omega) (by omega) ?_
      exact lw_ret hx hb hr hlocks dL_law_1538
    by_cases s153 : vs = 13
    · subst s153
      refine lv_tableIn (off := 821) (tgt := 861) hx hb dL_law_40 (by decide) (by decide) (by decide) (by decide) ?_
      have hP := hP.sub (ws' := [(q1, .inr (11, [.ref q3, .ref q26, .ref q28, .ref q35, .ref q39, .ref q43, .ref q46, .ref q52])), (q3, .inr (8, [.ref q4, .ref q54, .ref q55, .ref q5, .ref q6, .int 0, .int 0, .int 9, .int 0, .int 0])), (q67, .inl (G.1, 169, .inl (fun _ => 0))), (q59, .inr (12, [.ref q61, .ref q62, .ref q63, .ref q64, .ref q65, .ref q66, .ref q81, .ref q82, .ref q83, .ref q84, .ref q85, .ref q86, .int 0, .ref q87, .ref q88, .ref q89, .int 9, .int 0, .int 0, .ref q67, .ref q90, .ref q68, .int 0, .int 2, .ref q80, .ref q69, .ref q70, .ref q71, .int 0, .ref q72, .int 0, .ref q91, .ref q92, .ref q93, .ref q94, .int 0, .ref q73, .int 0, .int 0, .ref q95, .ref q96, .ref q97, .ref q98, .int 0, .int 0, .int 0, .int 0, .ref q99, .int 0, .ref q100, .ref q101, .ref q102, .ref q103, .int 0, .ref q74, .ref q75, .ref q76, .ref q77, .int 0, .ref q78, .ref q79, .ref q104]))]) [0, 1, 58, 71] rfl
      have hD := hD.sub (ws' := [(q1, .inr (11, [.ref q3, .ref q26, .ref q28, .ref q35, .ref q39, .ref q43, .ref q46, .ref q52])), (q3, .inr (8, [.ref q4, .ref q54, .ref q55, .ref q5, .ref q6, .int 0, .int 0, .int 9, .int 0, .int 0])), (q67, .inl (G.1, 169, .inl (fun _ => 0))), (q59, .inr (12, [.ref q61, .ref q62, .ref q63, .ref q64, .ref q65, .ref q66, .ref q81, .ref q82, .ref q83, .ref q84, .ref q85, .ref q86, .int 0, .ref q87, .ref q88, .ref q89, .int 9, .int 0, .int 0, .ref q67, .ref q90, .ref q68, .int 0, .int 2, .ref q80, .ref q69, .ref q70, .ref q71, .int 0, .ref q72, .int 0, .ref q91, .ref q92, .ref q93, .ref q94, .int 0, .ref q73, .int 0, .int 0, .ref q95, .ref q96, .ref q97, .ref q98, .int 0, .int 0, .int 0, .int 0, .ref q99, .int 0, .ref q100, .ref q101, .ref q102, .ref q103, .int 0, .ref q74, .ref q75, .ref q76, .ref q77, .int 0, .ref q78, .ref q79, .ref q104]))]) [0, 1, 58, 71] (by decide) rfl
      refine lv_aload_n hx hb dL_law_861 rfl (lv_at hl 3 rfl) ?_
      refine lv_aload_n hx hb dL_law_862 rfl (lv_at hl 4 rfl) ?_
      refine lv_iload hx hb dL_law_863 (lv_at hl 0 rfl) ?_
      refine lv_iconst (v := 1) hx hb dL_law_865 (by decide) ?_
      refine lv_iadd hx hb dL_law_866 ?_
      refine wk_i 1 (by decide) ?_
      refine va_sld hx hb hX hbl hbA hS (wk_in rfl) dL_law_867 ?_
      refine wk_i (xs 1) rfl ?_
      have hPc := hP.sub (ws' := [(q1, .inr (11, [.ref q3, .ref q26, .ref q28, .ref q35, .ref q39, .ref q43, .ref q46, .ref q52])), (q3, .inr (8, [.ref q4, .ref q54, .ref q55, .ref q5, .ref q6, .int 0, .int 0, .int 9, .int 0, .int 0]))]) [0, 1] rfl
      have hDc := hD.sub (ws' := [(q1, .inr (11, [.ref q3, .ref q26, .ref q28, .ref q35, .ref q39, .ref q43, .ref q46, .ref q52])), (q3, .inr (8, [.ref q4, .ref q54, .ref q55, .ref q5, .ref q6, .int 0, .int 0, .int 9, .int 0, .int 0]))]) [0, 1] (by decide) rfl
      have hFc := va_free (wc := [(q1, .inr (11, [.ref q3, .ref q26, .ref q28, .ref q35, .ref q39, .ref q43, .ref q46, .ref q52])), (q3, .inr (8, [.ref q4, .ref q54, .ref q55, .ref q5, .ref q6, .int 0, .int 0, .int 9, .int 0, .int 0]))]) hD hS hA [0, 1] rfl
      refine va_calli (va_runV (As := [.int (xs 1)]) (rest := []) ⟨hx, hb, hml, hown, hts⟩ (kX11_play l D G q1 (xs 1) q3 q26 q28 q35 q39 q43 q46 q52 q4 q54 q55 q5 q6 H.size) (cwV 1 hts gL_law_X11_play rfl rfl rfl (by decide +kernel) ⟨Nat.le_of_ble_eq_true rfl, Nat.le_of_ble_eq_true rfl⟩) ⟨wB_blind, va_recv hK hPc (ci := 11) (q0 := 0) rfl rfl, wB_pre hPc hK hDc hN⟩ rfl rfl hl.1 rfl (lv_room (Nat.le_of_ble_eq_true rfl)) dL_law_868 ⟨Nat.le_of_ble_eq_true rfl, Nat.le_of_ble_eq_true rfl⟩) hS (fun q _ h => hFc q h) hFc (fun r154 u t H1 locs ht hvm hr154 hB hz1 hk1 hS => ?_)
      obtain ⟨hP, hD⟩ := va_join (wr := [(q67, .inl (G.1, 169, .inl (fun _ => 0))), (q59, .inr (12, [.ref q61, .ref q62, .ref q63, .ref q64, .ref q65, .ref q66, .ref q81, .ref q82, .ref q83, .ref q84, .ref q85, .ref q86, .int 0, .ref q87, .ref q88, .ref q89, .int 9, .int 0, .int 0, .ref q67, .ref q90, .ref q68, .int 0, .int 2, .ref q80, .ref q69, .ref q70, .ref q71, .int 0, .ref q72, .int 0, .ref q91, .ref q92, .ref q93, .ref q94, .int 0, .ref q73, .int 0, .int 0, .ref q95, .ref q96, .ref q97, .ref q98, .int 0, .int 0, .int 0, .int 0, .ref q99, .int 0, .ref q100, .ref q101, .ref q102, .ref q103, .int 0, .ref q74, .ref q75, .ref q76, .ref q77, .int 0, .ref q78, .ref q79, .ref q104]))]) (w1 := []) hP hD [0, 1] [2, 3] rfl rfl (by decide) (by decide) hk1 hFc wP_nil wD_nil
      clear hPc hDc
      generalize H1 = H at hP hS ⊢
      have hP : va_P D vwCl [(q67, .inl (G.1, 169, .inl (fun _ => 0))), (q59, .inr (12, [.ref q61, .ref q62, .ref q63, .ref q64, .ref q65, .ref q66, .ref q81, .ref q82, .ref q83, .ref q84, .ref q85, .ref q86, .int 0, .ref q87, .ref q88, .ref q89, .int 9, .int 0, .int 0, .ref q67, .ref q90, .ref q68, .int 0, .int 2, .ref q80, .ref q69, .ref q70, .ref q71, .int 0, .ref q72, .int 0, .ref q91, .ref q92, .ref q93, .ref q94, .int 0, .ref q73, .int 0, .int 0, .ref q95, .ref q96, .ref q97, .ref q98, .int 0, .int 0, .int 0, .int 0, .ref q99, .int 0, .ref q100, .ref q101, .ref q102, .ref q103, .int 0, .ref q74, .ref q75, .ref q76, .ref q77, .int 0, .ref q78, .ref q79, .ref q104]))] H := hP
      have hD : va_D A [(q67, .inl (G.1, 169, .inl (fun _ => 0))), (q59, .inr (12, [.ref q61, .ref q62, .ref q63, .ref q64, .ref q65, .ref q66, .ref q81, .ref q82, .ref q83, .ref q84, .ref q85, .ref q86, .int 0, .ref q87, .ref q88, .ref q89, .int 9, .int 0, .int 0, .ref q67, .ref q90, .ref q68, .int 0, .int 2, .ref q80, .ref q69, .ref q70, .ref q71, .int 0, .ref q72, .int 0, .ref q91, .ref q92, .ref q93, .ref q94, .int 0, .ref q73, .int 0, .int 0, .ref q95, .ref q96, .ref q97, .ref q98, .int 0, .int 0, .int 0, .int 0, .ref q99, .int 0, .ref q100, .ref q101, .ref q102, .ref q103, .int 0, .ref q74, .ref q75, .ref q76, .ref q77, .int 0, .ref q78, .ref q79, .ref q104]))] := hD
      refine lv_aload_n hx hb dL_law_871 rfl (lv_at hl 2 rfl) ?_
      refine lv_aload_n hx hb dL_law_872 rfl (lv_at hl 4 rfl) ?_
      refine lv_iload hx hb dL_law_873 (lv_at hl 0 rfl) ?_
      refine lv_iconst (v := 1) hx hb dL_law_875 (by decide) ?_
      refine lv_iadd hx hb dL_law_876 ?_
      refine wk_i 1 (by decide) ?_
      refine va_sld hx hb hX hbl hbA hS (wk_in rfl) dL_law_877 ?_
      refine wk_i (xs 1) rfl ?_
      have hPc := hP.sub (ws' := [(q59, .inr (12, [.ref q61, .ref q62, .ref q63, .ref q64, .ref q65, .ref q66, .ref q81, .ref q82, .ref q83, .ref q84, .ref q85, .ref q86, .int 0, .ref q87, .ref q88, .ref q89, .int 9, .int 0, .int 0, .ref q67, .ref q90, .ref q68, .int 0, .int 2, .ref q80, .ref q69, .ref q70, .ref q71, .int 0, .ref q72, .int 0, .ref q91, .ref q92, .ref q93, .ref q94, .int 0, .ref q73, .int 0, .int 0, .ref q95, .ref q96, .ref q97, .ref q98, .int 0, .int 0, .int 0, .int 0, .ref q99, .int 0, .ref q100, .ref q101, .ref q102, .ref q103, .int 0, .ref q74, .ref q75, .ref q76, .ref q77, .int 0, .ref q78, .ref q79, .ref q104])), (q67, .inl (G.1, 169, .inl (fun _ => 0)))]) [1, 0] rfl
      have hDc := hD.sub (ws' := [(q59, .inr (12, [.ref q61, .ref q62, .ref q63, .ref q64, .ref q65, .ref q66, .ref q81, .ref q82, .ref q83, .ref q84, .ref q85, .ref q86, .int 0, .ref q87, .ref q88, .ref q89, .int 9, .int 0, .int 0, .ref q67, .ref q90, .ref q68, .int 0, .int 2, .ref q80, .ref q69, .ref q70, .ref q71, .int 0, .ref q72, .int 0, .ref q91, .ref q92, .ref q93, .ref q94, .int 0, .ref q73, .int 0, .int 0, .ref q95, .ref q96, .ref q97, .ref q98, .int 0, .int 0, .int 0, .int 0, .ref q99, .int 0, .ref q100, .ref q101, .ref q102, .ref q103, .int 0, .ref q74, .ref q75, .ref q76, .ref q77, .int 0, .ref q78, .ref q79, .ref q104])), (q67, .inl (G.1, 169, .inl (fun _ => 0)))]) [1, 0] (by decide) rfl
      have hFc := va_free (wc := [(q59, .inr (12, [.ref q61, .ref q62, .ref q63, .ref q64, .ref q65, .ref q66, .ref q81, .ref q82, .ref q83, .ref q84, .ref q85, .ref q86, .int 0, .ref q87, .ref q88, .ref q89, .int 9, .int 0, .int 0, .ref q67, .ref q90, .ref q68, .int 0, .int 2, .ref q80, .ref q69, .ref q70, .ref q71, .int 0, .ref q72, .int 0, .ref q91, .ref q92, .ref q93, .ref q94, .int 0, .ref q73, .int 0, .int 0, .ref q95, .ref q96, .ref q97, .ref q98, .int 0, .int 0, .int 0, .int 0, .ref q99, .int 0, .ref q100, .ref q101, .ref q102, .ref q103, .int 0, .ref q74, .ref q75, .ref q76, .ref q77, .int 0, .ref q78, .ref q79, .ref q104])), (q67, .inl (G.1, 169, .inl (fun _ => 0)))]) hD hS hA [1, 0] rfl
      refine va_calli (va_runV (As := [.int (xs 1)]) (rest := [.int r154]) ⟨hx, hb, hml, hown, hts⟩ (kX12_play l D G q59 (xs 1) q61 q62 q63 q64 q65 q66 q81 q82 q83 q84 q85 q86 q87 q88 q89 q67 q90 q68 q80 q69 q70 q71 q72 q91 q92 q93 q94 q73 q95 q96 q97 q98 q99 q100 q101 q102 q103 q74 q75 q76 q77 q78 q79 q104 H.size) (cwV 1 hts gL_law_X12_play rfl rfl rfl (by decide +kernel) ⟨Nat.le_of_ble_eq_true rfl, Nat.le_of_ble_eq_true rfl⟩) ⟨wB_blind, va_recv hK hPc (ci := 12) (q0 := 0) rfl rfl, wB_pre hPc hK hDc hN⟩ rfl rfl hl.1 rfl (lv_room (Nat.le_of_ble_eq_true rfl)) dL_law_878 ⟨Nat.le_of_ble_eq_true rfl, Nat.le_of_ble_eq_true rfl⟩) hS (fun q _ h => hFc q h) hFc (fun r155 u t H1 locs ht hvm hr155 hB hz1 hk1 hS => ?_)
      obtain ⟨hP, hD⟩ := va_join (wr := []) (w1 := []) hP hD [1, 0] [] rfl rfl (by decide) (by decide) hk1 hFc wP_nil wD_nil
      clear hPc hDc
      generalize H1 = H at hP hS ⊢
      have hP : va_P D vwCl [] H := hP
      have hD : va_D A [] := hD
      refine lv_icmp_eq (tgt := 1531) hx hb dL_law_881 (by decide) (fun _ => ?_) (fun h9 => absurd (Eq.trans hr154 (Eq.symm hr155)) h9)
      refine lv_iinc (v := 7) (lv' := [(4, .int 7), (3, .ref q105), (2, .ref q59), (1, .ref q1), (0, .ref b)]) hx hb dL_law_1531 hl (k := 0) rfl (by decide) (by decide) rfl (fun ls hl => ?_)
      refine lv_goto (tgt := 23) hx hb dL_law_1534 (by decide) ?_
      refine lv_iload hx hb dL_law_23 (lv_at hl 0 rfl) ?_
      refine lv_aload_n hx hb dL_law_25 rfl (lv_at hl 4 rfl) ?_
      refine va_slen hx hb hX hbl hbA hS dL_law_26 ?_
      refine wk_i 7 rfl ?_
      refine lv_bipush (v := 7) hx hb dL_law_27 (by decide) ?_
      refine lv_isub hx hb dL_law_29 ?_
      refine wk_i 0 (by decide) ?_
      refine lv_icmp_gt (tgt := 1537) hx hb dL_law_30 (by decide) (fun _ => ?_) (fun h9 => absurd h9 (by decide))
      refine lv_iconst (v := 1) hx hb dL_law_1537 (by decide) ?_
      refine va_forget (fun q hq => by have h9 := hS.2.2 q hq; rw [hAe] at h9; exact h9) ?_
      refine W.widen (k := 600002) (n := 7302232) (by omega) (by omega) ?_
      exact lw_ret hx hb hr hlocks dL_law_1538
    by_cases s156 : vs = 14
    · subst s156
      refine lv_tableIn (off := 846) (tgt := 886) hx hb dL_law_40 (by decide) (by decide) (by decide) (by decide) ?_
      have hP := hP.sub (ws' := [(q1, .inr (11, [.ref q3, .ref q26, .ref q28, .ref q35, .ref q39, .ref q43, .ref q46, .ref q52])), (q3, .inr (8, [.ref q4, .ref q54, .ref q55, .ref q5, .ref q6, .int 0, .int 0, .int 9, .int 0, .int 0])), (q5, .inl (G.1, 16, .inl (fun _ => 0))), (q6, .inl (G.2.2.2.1, 16, .inl (fun _ => 0))), (q67, .inl (G.1, 169, .inl (fun _ => 0))), (q59, .inr (12, [.ref q61, .ref q62, .ref q63, .ref q64, .ref q65, .ref q66, .ref q81, .ref q82, .ref q83, .ref q84, .ref q85, .ref q86, .int 0, .ref q87, .ref q88, .ref q89, .int 9, .int 0, .int 0, .ref q67, .ref q90, .ref q68, .int 0, .int 2, .ref q80, .ref q69, .ref q70, .ref q71, .int 0, .ref q72, .int 0, .ref q91, .ref q92, .ref q93, .ref q94, .int 0, .ref q73, .int 0, .int 0, .ref q95, .ref q96, .ref q97, .ref q98, .int 0, .int 0, .int 0, .int 0, .ref q99, .int 0, .ref q100, .ref q101, .ref q102, .ref q103, .int 0, .ref q74, .ref q75, .ref q76, .ref q77, .int 0, .ref q78, .ref q79, .ref q104]))]) [0, 1, 3, 4, 58, 71] rfl
      have hD := hD.sub (ws' := [(q1, .inr (11, [.ref q3, .ref q26, .ref q28, .ref q35, .ref q39, .ref q43, .ref q46, .ref q52])), (q3, .inr (8, [.ref q4, .ref q54, .ref q55, .ref q5, .ref q6, .int 0, .int 0, .int 9, .int 0, .int 0])), (q5, .inl (G.1, 16, .inl (fun _ => 0))), (q6, .inl (G.2.2.2.1, 16, .inl (fun _ => 0))), (q67, .inl (G.1, 169, .inl (fun _ => 0))), (q59, .inr (12, [.ref q61, .ref q62, .ref q63, .ref q64, .ref q65, .ref q66, .ref q81, .ref q82, .ref q83, .ref q84, .ref q85, .ref q86, .int 0, .ref q87, .ref q88, .ref q89, .int 9, .int 0, .int 0, .ref q67, .ref q90, .ref q68, .int 0, .int 2, .ref q80, .ref q69, .ref q70, .ref q71, .int 0, .ref q72, .int 0, .ref q91, .ref q92, .ref q93, .ref q94, .int 0, .ref q73, .int 0, .int 0, .ref q95, .ref q96, .ref q97, .ref q98, .int 0, .int 0, .int 0, .int 0, .ref q99, .int 0, .ref q100, .ref q101, .ref q102, .ref q103, .int 0, .ref q74, .ref q75, .ref q76, .ref q77, .int 0, .ref q78, .ref q79, .ref q104]))]) [0, 1, 3, 4, 58, 71] (by decide) rfl
      refine lv_aload_n hx hb dL_law_886 rfl (lv_at hl 3 rfl) ?_
      have hPc := hP.sub (ws' := [(q1, .inr (11, [.ref q3, .ref q26, .ref q28, .ref q35, .ref q39, .ref q43, .ref q46, .ref q52])), (q3, .inr (8, [.ref q4, .ref q54, .ref q55, .ref q5, .ref q6, .int 0, .int 0, .int 9, .int 0, .int 0])), (q5, .inl (G.1, 16, .inl (fun _ => 0))), (q6, .inl (G.2.2.2.1, 16, .inl (fun _ => 0)))]) [0, 1, 2, 3] rfl
      have hDc := hD.sub (ws' := [(q1, .inr (11, [.ref q3, .ref q26, .ref q28, .ref q35, .ref q39, .ref q43, .ref q46, .ref q52])), (q3, .inr (8, [.ref q4, .ref q54, .ref q55, .ref q5, .ref q6, .int 0, .int 0, .int 9, .int 0, .int 0])), (q5, .inl (G.1, 16, .inl (fun _ => 0))), (q6, .inl (G.2.2.2.1, 16, .inl (fun _ => 0)))]) [0, 1, 2, 3] (by decide) rfl
      have hFc := va_free (wc := [(q1, .inr (11, [.ref q3, .ref q26, .ref q28, .ref q35, .ref q39, .ref q43, .ref q46, .ref q52])), (q3, .inr (8, [.ref q4, .ref q54, .ref q55, .ref q5, .ref q6, .int 0, .int 0, .int 9, .int 0, .int 0])), (q5, .inl (G.1, 16, .inl (fun _ => 0))), (q6, .inl (G.2.2.2.1, 16, .inl (fun _ => 0)))]) hD hS hA [0, 1, 2, 3] rfl
      refine va_calli (va_runV (As := []) (rest := []) ⟨hx, hb, hml, hown, hts⟩ (kX11_again l D G q1 q3 q26 q28 q35 q39 q43 q46 q52 q4 q54 q55 q5 q6 H.size) (cwV 0 hts gL_law_X11_again rfl rfl rfl (by decide +kernel) ⟨Nat.le_of_ble_eq_true rfl, Nat.le_of_ble_eq_true rfl⟩) ⟨wB_blind, va_recv hK hPc (ci := 11) (q0 := 0) rfl rfl, wB_pre hPc hK hDc hN⟩ rfl rfl hl.1 rfl (lv_room (Nat.le_of_ble_eq_true rfl)) dL_law_887 ⟨Nat.le_of_ble_eq_true rfl, Nat.le_of_ble_eq_true rfl⟩) hS (fun q _ h => hFc q h) hFc (fun r157 u t H1 locs ht hvm hr157 hB hz1 hk1 hS => ?_)
      obtain ⟨hP, hD⟩ := va_join (wr := [(q67, .inl (G.1, 169, .inl (fun _ => 0))), (q59, .inr (12, [.ref q61, .ref q62, .ref q63, .ref q64, .ref q65, .ref q66, .ref q81, .ref q82, .ref q83, .ref q84, .ref q85, .ref q86, .int 0, .ref q87, .ref q88, .ref q89, .int 9, .int 0, .int 0, .ref q67, .ref q90, .ref q68, .int 0, .int 2, .ref q80, .ref q69, .ref q70, .ref q71, .int 0, .ref q72, .int 0, .ref q91, .ref q92, .ref q93, .ref q94, .int 0, .ref q73, .int 0, .int 0, .ref q95, .ref q96, .ref q97, .ref q98, .int 0, .int 0, .int 0, .int 0, .ref q99, .int 0, .ref q100, .ref q101, .ref q102, .ref q103, .int 0, .ref q74, .ref q75, .ref q76, .ref q77, .int 0, .ref q78, .ref q79, .ref q104]))]) (w1 := []) hP hD [0, 1, 2, 3] [4, 5] rfl rfl (by decide) (by decide) hk1 hFc wP_nil wD_nil
      clear hPc hDc
      generalize H1 = H at hP hS ⊢
      have hP : va_P D vwCl [(q67, .inl (G.1, 169, .inl (fun _ => 0))), (q59, .inr (12, [.ref q61, .ref q62, .ref q63, .ref q64, .ref q65, .ref q66, .ref q81, .ref q82, .ref q83, .ref q84, .ref q85, .ref q86, .int 0, .ref q87, .ref q88, .ref q89, .int 9, .int 0, .int 0, .ref q67, .ref q90, .ref q68, .int 0, .int 2, .ref q80, .ref q69, .ref q70, .ref q71, .int 0, .ref q72, .int 0, .ref q91, .ref q92, .ref q93, .ref q94, .int 0, .ref q73, .int 0, .int 0, .ref q95, .ref q96, .ref q97, .ref q98, .int 0, .int 0, .int 0, .int 0, .ref q99, .int 0, .ref q100, .ref q101, .ref q102, .ref q103, .int 0, .ref q74, .ref q75, .ref q76, .ref q77, .int 0, .ref q78, .ref q79, .ref q104]))] H := hP
      have hD : va_D A [(q67, .inl (G.1, 169, .inl (fun _ => 0))), (q59, .inr (12, [.ref q61, .ref q62, .ref q63, .ref q64, .ref q65, .ref q66, .ref q81, .ref q82, .ref q83, .ref q84, .ref q85, .ref q86, .int 0, .ref q87, .ref q88, .ref q89, .int 9, .int 0, .int 0, .ref q67, .ref q90, .ref q68, .int 0, .int 2, .ref q80, .ref q69, .ref q70, .ref q71, .int 0, .ref q72, .int 0, .ref q91, .ref q92, .ref q93, .ref q94, .int 0, .ref q73, .int 0, .int 0, .ref q95, .ref q96, .ref q97, .ref q98, .int 0, .int 0, .int 0, .int 0, .ref q99, .int 0, .ref q100, .ref q101, .ref q102, .ref q103, .int 0, .ref q74, .ref q75, .ref q76, .ref q77, .int 0, .ref q78, .ref q79, .ref q104]))] := hD
      subst hr157
      refine lv_aload_n hx hb dL_law_890 rfl (lv_at hl 2 rfl) ?_
      have hPc := hP.sub (ws' := [(q59, .inr (12, [.ref q61, .ref q62, .ref q63, .ref q64, .ref q65, .ref q66, .ref q81, .ref q82, .ref q83, .ref q84, .ref q85, .ref q86, .int 0, .ref q87, .ref q88, .ref q89, .int 9, .int 0, .int 0, .ref q67, .ref q90, .ref q68, .int 0, .int 2, .ref q80, .ref q69, .ref q70, .ref q71, .int 0, .ref q72, .int 0, .ref q91, .ref q92, .ref q93, .ref q94, .int 0, .ref q73, .int 0, .int 0, .ref q95, .ref q96, .ref q97, .ref q98, .int 0, .int 0, .int 0, .int 0, .ref q99, .int 0, .ref q100, .ref q101, .ref q102, .ref q103, .int 0, .ref q74, .ref q75, .ref q76, .ref q77, .int 0, .ref q78, .ref q79, .ref q104])), (q67, .inl (G.1, 169, .inl (fun _ => 0)))]) [1, 0] rfl
      have hDc := hD.sub (ws' := [(q59, .inr (12, [.ref q61, .ref q62, .ref q63, .ref q64, .ref q65, .ref q66, .ref q81, .ref q82, .ref q83, .ref q84, .ref q85, .ref q86, .int 0, .ref q87, .ref q88, .ref q89, .int 9, .int 0, .int 0, .ref q67, .ref q90, .ref q68, .int 0, .int 2, .ref q80, .ref q69, .ref q70, .ref q71, .int 0, .ref q72, .int 0, .ref q91, .ref q92, .ref q93, .ref q94, .int 0, .ref q73, .int 0, .int 0, .ref q95, .ref q96, .ref q97, .ref q98, .int 0, .int 0, .int 0, .int 0, .ref q99, .int 0, .ref q100, .ref q101, .ref q102, .ref q103, .int 0, .ref q74, .ref q75, .ref q76, .ref q77, .int 0, .ref q78, .ref q79, .ref q104])), (q67, .inl (G.1, 169, .inl (fun _ => 0)))]) [1, 0] (by decide) rfl
      have hFc := va_free (wc := [(q59, .inr (12, [.ref q61, .ref q62, .ref q63, .ref q64, .ref q65, .ref q66, .ref q81, .ref q82, .ref q83, .ref q84, .ref q85, .ref q86, .int 0, .ref q87, .ref q88, .ref q89, .int 9, .int 0, .int 0, .ref q67, .ref q90, .ref q68, .int 0, .int 2, .ref q80, .ref q69, .ref q70, .ref q71, .int 0, .ref q72, .int 0, .ref q91, .ref q92, .ref q93, .ref q94, .int 0, .ref q73, .int 0, .int 0, .ref q95, .ref q96, .ref q97, .ref q98, .int 0, .int 0, .int 0, .int 0, .ref q99, .int 0, .ref q100, .ref q101, .ref q102, .ref q103, .int 0, .ref q74, .ref q75, .ref q76, .ref q77, .int 0, .ref q78, .ref q79, .ref q104])), (q67, .inl (G.1, 169, .inl (fun _ => 0)))]) hD hS hA [1, 0] rfl
      refine va_calli (va_runV (As := []) (rest := [.int 0]) ⟨hx, hb, hml, hown, hts⟩ (kX12_again l D G q59 q61 q62 q63 q64 q65 q66 q81 q82 q83 q84 q85 q86 q87 q88 q89 q67 q90 q68 q80 q69 q70 q71 q72 q91 q92 q93 q94 q73 q95 q96 q97 q98 q99 q100 q101 q102 q103 q74 q75 q76 q77 q78 q79 q104 H.size) (cwV 0 hts gL_law_X12_again rfl rfl rfl (by decide +kernel) ⟨Nat.le_of_ble_eq_true rfl, Nat.le_of_ble_eq_true rfl⟩) ⟨wB_blind, va_recv hK hPc (ci := 12) (q0 := 0) rfl rfl, wB_pre hPc hK hDc hN⟩ rfl rfl hl.1 rfl (lv_room (Nat.le_of_ble_eq_true rfl)) dL_law_891 ⟨Nat.le_of_ble_eq_true rfl, Nat.le_of_ble_eq_true rfl⟩) hS (fun q _ h => hFc q h) hFc (fun r158 u t H1 locs ht hvm hr158 hB hz1 hk1 hS => ?_)
      obtain ⟨hP, hD⟩ := va_join (wr := []) (w1 := []) hP hD [1, 0] [] rfl rfl (by decide) (by decide) hk1 hFc wP_nil wD_nil
      clear hPc hDc
      generalize H1 = H at hP hS ⊢
      have hP : va_P D vwCl [] H := hP
      have hD : va_D A [] := hD
      subst hr158
      refine lv_icmp_eq (tgt := 1531) hx hb dL_law_894 (by decide) (fun _ => ?_) (fun h9 => absurd h9 (by decide))
      refine lv_iinc (v := 7) (lv' := [(4, .int 7), (3, .ref q105), (2, .ref q59), (1, .ref q1), (0, .ref b)]) hx hb dL_law_1531 hl (k := 0) rfl (by decide) (by decide) rfl (fun ls hl => ?_)
      refine lv_goto (tgt := 23) hx hb dL_law_1534 (by decide) ?_
      refine lv_iload hx hb dL_law_23 (lv_at hl 0 rfl) ?_
      refine lv_aload_n hx hb dL_law_25 rfl (lv_at hl 4 rfl) ?_
      refine va_slen hx hb hX hbl hbA hS dL_law_26 ?_
      refine wk_i 7 rfl ?_
      refine lv_bipush (v := 7) hx hb dL_law_27 (by decide) ?_
      refine lv_isub hx hb dL_law_29 ?_
      refine wk_i 0 (by decide) ?_
      refine lv_icmp_gt (tgt := 1537) hx hb dL_law_30 (by decide) (fun _ => ?_) (fun h9 => absurd h9 (by decide))
      refine lv_iconst (v := 1) hx hb dL_law_1537 (by decide) ?_
      refine va_forget (fun q hq => by have h9 := hS.2.2 q hq; rw [hAe] at h9; exact h9) ?_
      refine W.widen (k := 600002) (n := 7302232) (by omega) (by omega) ?_
      exact lw_ret hx hb hr hlocks dL_law_1538
    by_cases s159 : vs = 15
    · subst s159
      refine lv_tableIn (off := 859) (tgt := 899) hx hb dL_law_40 (by decide) (by decide) (by decide) (by decide) ?_
      have hP := hP.sub (ws' := [(q1, .inr (11, [.ref q3, .ref q26, .ref q28, .ref q35, .ref q39, .ref q43, .ref q46, .ref q52])), (q3, .inr (8, [.ref q4, .ref q54, .ref q55, .ref q5, .ref q6, .int 0, .int 0, .int 9, .int 0, .int 0])), (q59, .inr (12, [.ref q61, .ref q62, .ref q63, .ref q64, .ref q65, .ref q66, .ref q81, .ref q82, .ref q83, .ref q84, .ref q85, .ref q86, .int 0, .ref q87, .ref q88, .ref q89, .int 9, .int 0, .int 0, .ref q67, .ref q90, .ref q68, .int 0, .int 2, .ref q80, .ref q69, .ref q70, .ref q71, .int 0, .ref q72, .int 0, .ref q91, .ref q92, .ref q93, .ref q94, .int 0, .ref q73, .int 0, .int 0, .ref q95, .ref q96, .ref q97, .ref q98, .int 0, .int 0, .int 0, .int 0, .ref q99, .int 0, .ref q100, .ref q101, .ref q102, .ref q103, .int 0, .ref q74, .ref q75, .ref q76, .ref q77, .int 0, .ref q78, .ref q79, .ref q104]))]) [0, 1, 71] rfl
      have hD := hD.sub (ws' := [(q1, .inr (11, [.ref q3, .ref q26, .ref q28, .ref q35, .ref q39, .ref q43, .ref q46, .ref q52])), (q3, .inr (8, [.ref q4, .ref q54, .ref q55, .ref q5, .ref q6, .int 0, .int 0, .int 9, .int 0, .int 0])), (q59, .inr (12, [.ref q61, .ref q62, .ref q63, .ref q64, .ref q65, .ref q66, .ref q81, .ref q82, .ref q83, .ref q84, .ref q85, .ref q86, .int 0, .ref q87, .ref q88, .ref q89, .int 9, .int 0, .int 0, .ref q67, .ref q90, .ref q68, .int 0, .int 2, .ref q80, .ref q69, .ref q70, .ref q71, .int 0, .ref q72, .int 0, .ref q91, .ref q92, .ref q93, .ref q94, .int 0, .ref q73, .int 0, .int 0, .ref q95, .ref q96, .ref q97, .ref q98, .int 0, .int 0, .int 0, .int 0, .ref q99, .int 0, .ref q100, .ref q101, .ref q102, .ref q103, .int 0, .ref q74, .ref q75, .ref q76, .ref q77, .int 0, .ref q78, .ref q79, .ref q104]))]) [0, 1, 71] (by decide) rfl
      refine lv_aload_n hx hb dL_law_899 rfl (lv_at hl 3 rfl) ?_
      refine lv_aload_n hx hb dL_law_900 rfl (lv_at hl 4 rfl) ?_
      refine lv_iload hx hb dL_law_901 (lv_at hl 0 rfl) ?_
      refine lv_iconst (v := 1) hx hb dL_law_903 (by decide) ?_
      refine lv_iadd hx hb dL_law_904 ?_
      refine wk_i 1 (by decide) ?_
      refine va_sld hx hb hX hbl hbA hS (wk_in rfl) dL_law_905 ?_
      refine wk_i (xs 1) rfl ?_
      refine lv_aload_n hx hb dL_law_906 rfl (lv_at hl 4 rfl) ?_
      refine lv_iload hx hb dL_law_907 (lv_at hl 0 rfl) ?_
      refine lv_iconst (v := 2) hx hb dL_law_909 (by decide) ?_
      refine lv_iadd hx hb dL_law_910 ?_
      refine wk_i 2 (by decide) ?_
      refine va_sld hx hb hX hbl hbA hS (wk_in rfl) dL_law_911 ?_
      refine wk_i (xs 2) rfl ?_
      have hPc := hP.sub (ws' := [(q1, .inr (11, [.ref q3, .ref q26, .ref q28, .ref q35, .ref q39, .ref q43, .ref q46, .ref q52])), (q3, .inr (8, [.ref q4, .ref q54, .ref q55, .ref q5, .ref q6, .int 0, .int 0, .int 9, .int 0, .int 0]))]) [0, 1] rfl
      have hDc := hD.sub (ws' := [(q1, .inr (11, [.ref q3, .ref q26, .ref q28, .ref q35, .ref q39, .ref q43, .ref q46, .ref q52])), (q3, .inr (8, [.ref q4, .ref q54, .ref q55, .ref q5, .ref q6, .int 0, .int 0, .int 9, .int 0, .int 0]))]) [0, 1] (by decide) rfl
      have hFc := va_free (wc := [(q1, .inr (11, [.ref q3, .ref q26, .ref q28, .ref q35, .ref q39, .ref q43, .ref q46, .ref q52])), (q3, .inr (8, [.ref q4, .ref q54, .ref q55, .ref q5, .ref q6, .int 0, .int 0, .int 9, .int 0, .int 0]))]) hD hS hA [0, 1] rfl
      refine va_calli (va_runV (As := [.int (xs 1), .int (xs 2)]) (rest := []) ⟨hx, hb, hml, hown, hts⟩ (kX11_met l D G q1 (xs 1) (xs 2) q3 q26 q28 q35 q39 q43 q46 q52 q4 q54 q55 q5 q6 H.size) (cwV 2 hts gL_law_X11_met rfl rfl rfl (by decide +kernel) ⟨Nat.le_of_ble_eq_true rfl, Nat.le_of_ble_eq_true rfl⟩) ⟨wB_blind, va_recv hK hPc (ci := 11) (q0 := 0) rfl rfl, wB_pre hPc hK hDc hN⟩ rfl rfl hl.1 rfl (lv_room (Nat.le_of_ble_eq_true rfl)) dL_law_912 ⟨Nat.le_of_ble_eq_true rfl, Nat.le_of_ble_eq_true rfl⟩) hS (fun q _ h => hFc q h) hFc (fun r160 u t H1 locs ht hvm hr160 hB hz1 hk1 hS => ?_)
      obtain ⟨hP, hD⟩ := va_join (wr := [(q59, .inr (12, [.ref q61, .ref q62, .ref q63, .ref q64, .ref q65, .ref q66, .ref q81, .ref q82, .ref q83, .ref q84, .ref q85, .ref q86, .int 0, .ref q87, .ref q88, .ref q89, .int 9, .int 0, .int 0, .ref q67, .ref q90, .ref q68, .int 0, .int 2, .ref q80, .ref q69, .ref q70, .ref q71, .int 0, .ref q72, .int 0, .ref q91, .ref q92, .ref q93, .ref q94, .int 0, .ref q73, .int 0, .int 0, .ref q95, .ref q96, .ref q97, .ref q98, .int 0, .int 0, .int 0, .int 0, .ref q99, .int 0, .ref q100, .ref q101, .ref q102, .ref q103, .int 0, .ref q74, .ref q75, .ref q76, .ref q77, .int 0, .ref q78, .ref q79, .ref q104]))]) (w1 := []) hP hD [0, 1] [2] rfl rfl (by decide) (by decide) hk1 hFc wP_nil wD_nil
      clear hPc hDc
      generalize H1 = H at hP hS ⊢
      have hP : va_P D vwCl [(q59, .inr (12, [.ref q61, .ref q62, .ref q63, .ref q64, .ref q65, .ref q66, .ref q81, .ref q82, .ref q83, .ref q84, .ref q85, .ref q86, .int 0, .ref q87, .ref q88, .ref q89, .int 9, .int 0, .int 0, .ref q67, .ref q90, .ref q68, .int 0, .int 2, .ref q80, .ref q69, .ref q70, .ref q71, .int 0, .ref q72, .int 0, .ref q91, .ref q92, .ref q93, .ref q94, .int 0, .ref q73, .int 0, .int 0, .ref q95, .ref q96, .ref q97, .ref q98, .int 0, .int 0, .int 0, .int 0, .ref q99, .int 0, .ref q100, .ref q101, .ref q102, .ref q103, .int 0, .ref q74, .ref q75, .ref q76, .ref q77, .int 0, .ref q78, .ref q79, .ref q104]))] H := hP
      have hD : va_D A [(q59, .inr (12, [.ref q61, .ref q62, .ref q63, .ref q64, .ref q65, .ref q66, .ref q81, .ref q82, .ref q83, .ref q84, .ref q85, .ref q86, .int 0, .ref q87, .ref q88, .ref q89, .int 9, .int 0, .int 0, .ref q67, .ref q90, .ref q68, .int 0, .int 2, .ref q80, .ref q69, .ref q70, .ref q71, .int 0, .ref q72, .int 0, .ref q91, .ref q92, .ref q93, .ref q94, .int 0, .ref q73, .int 0, .int 0, .ref q95, .ref q96, .ref q97, .ref q98, .int 0, .int 0, .int 0, .int 0, .ref q99, .int 0, .ref q100, .ref q101, .ref q102, .ref q103, .int 0, .ref q74, .ref q75, .ref q76, .ref q77, .int 0, .ref q78, .ref q79, .ref q104]))] := hD
      subst hr160
      refine lv_aload_n hx hb dL_law_915 rfl (lv_at hl 2 rfl) ?_
      refine lv_aload_n hx hb dL_law_916 rfl (lv_at hl 4 rfl) ?_
      refine lv_iload hx hb dL_law_917 (lv_at hl 0 rfl) ?_
      refine lv_iconst (v := 1) hx hb dL_law_919 (by decide) ?_
      refine lv_iadd hx hb dL_law_920 ?_
      refine wk_i 1 (by decide) ?_
      refine va_sld hx hb hX hbl hbA hS (wk_in rfl) dL_law_921 ?_
      refine wk_i (xs 1) rfl ?_
      refine lv_aload_n hx hb dL_law_922 rfl (lv_at hl 4 rfl) ?_
      refine lv_iload hx hb dL_law_923 (lv_at hl 0 rfl) ?_
      refine lv_iconst (v := 2) hx hb dL_law_925 (by decide) ?_
      refine lv_iadd hx hb dL_law_926 ?_
      refine wk_i 2 (by decide) ?_
      refine va_sld hx hb hX hbl hbA hS (wk_in rfl) dL_law_927 ?_
      refine wk_i (xs 2) rfl ?_
      have hPc := hP.sub (ws' := [(q59, .inr (12, [.ref q61, .ref q62, .ref q63, .ref q64, .ref q65, .ref q66, .ref q81, .ref q82, .ref q83, .ref q84, .ref q85, .ref q86, .int 0, .ref q87, .ref q88, .ref q89, .int 9, .int 0, .int 0, .ref q67, .ref q90, .ref q68, .int 0, .int 2, .ref q80, .ref q69, .ref q70, .ref q71, .int 0, .ref q72, .int 0, .ref q91, .ref q92, .ref q93, .ref q94, .int 0, .ref q73, .int 0, .int 0, .ref q95, .ref q96, .ref q97, .ref q98, .int 0, .int 0, .int 0, .int 0, .ref q99, .int 0, .ref q100, .ref q101, .ref q102, .ref q103, .int 0, .ref q74, .ref q75, .ref q76, .ref q77, .int 0, .ref q78, .ref q79, .ref q104]))]) [0] rfl
      have hDc := hD.sub (ws' := [(q59, .inr (12, [.ref q61, .ref q62, .ref q63, .ref q64, .ref q65, .ref q66, .ref q81, .ref q82, .ref q83, .ref q84, .ref q85, .ref q86, .int 0, .ref q87, .ref q88, .ref q89, .int 9, .int 0, .int 0, .ref q67, .ref q90, .ref q68, .int 0, .int 2, .ref q80, .ref q69, .ref q70, .ref q71, .int 0, .ref q72, .int 0, .ref q91, .ref q92, .ref q93, .ref q94, .int 0, .ref q73, .int 0, .int 0, .ref q95, .ref q96, .ref q97, .ref q98, .int 0, .int 0, .int 0, .int 0, .ref q99, .int 0, .ref q100, .ref q101, .ref q102, .ref q103, .int 0, .ref q74, .ref q75, .ref q76, .ref q77, .int 0, .ref q78, .ref q79, .ref q104]))]) [0] (by decide) rfl
      have hFc := va_free (wc := [(q59, .inr (12, [.ref q61, .ref q62, .ref q63, .ref q64, .ref q65, .ref q66, .ref q81, .ref q82, .ref q83, .ref q84, .ref q85, .ref q86, .int 0, .ref q87, .ref q88, .ref q89, .int 9, .int 0, .int 0, .ref q67, .ref q90, .ref q68, .int 0, .int 2, .ref q80, .ref q69, .ref q70, .ref q71, .int 0, .ref q72, .int 0, .ref q91, .ref q92, .ref q93, .ref q94, .int 0, .ref q73, .int 0, .int 0, .ref q95, .ref q96, .ref q97, .ref q98, .int 0, .int 0, .int 0, .int 0, .ref q99, .int 0, .ref q100, .ref q101, .ref q102, .ref q103, .int 0, .ref q74, .ref q75, .ref q76, .ref q77, .int 0, .ref q78, .ref q79, .ref q104]))]) hD hS hA [0] rfl
      refine va_calli (va_runV (As := [.int (xs 1), .int (xs 2)]) (rest := [.int (-1)]) ⟨hx, hb, hml, hown, hts⟩ (kX12_met l D G q59 (xs 1) (xs 2) q61 q62 q63 q64 q65 q66 q81 q82 q83 q84 q85 q86 q87 q88 q89 q67 q90 q68 q80 q69 q70 q71 q72 q91 q92 q93 q94 q73 q95 q96 q97 q98 q99 q100 q101 q102 q103 q74 q75 q76 q77 q78 q79 q104 H.size) (cwV 2 hts gL_law_X12_met rfl rfl rfl (by decide +kernel) ⟨Nat.le_of_ble_eq_true rfl, Nat.le_of_ble_eq_true rfl⟩) ⟨wB_blind, va_recv hK hPc (ci := 12) (q0 := 0) rfl rfl, wB_pre hPc hK hDc hN⟩ rfl rfl hl.1 rfl (lv_room (Nat.le_of_ble_eq_true rfl)) dL_law_928 ⟨Nat.le_of_ble_eq_true rfl, Nat.le_of_ble_eq_true rfl⟩) hS (fun q _ h => hFc q h) hFc (fun r161 u t H1 locs ht hvm hr161 hB hz1 hk1 hS => ?_)
      obtain ⟨hP, hD⟩ := va_join (wr := []) (w1 := []) hP hD [0] [] rfl rfl (by decide) (by decide) hk1 hFc wP_nil wD_nil
      clear hPc hDc
      generalize H1 = H at hP hS ⊢
      have hP : va_P D vwCl [] H := hP
      have hD : va_D A [] := hD
      subst hr161
      refine lv_icmp_eq (tgt := 1531) hx hb dL_law_931 (by decide) (fun _ => ?_) (fun h9 => absurd h9 (by decide))
      refine lv_iinc (v := 7) (lv' := [(4, .int 7), (3, .ref q105), (2, .ref q59), (1, .ref q1), (0, .ref b)]) hx hb dL_law_1531 hl (k := 0) rfl (by decide) (by decide) rfl (fun ls hl => ?_)
      refine lv_goto (tgt := 23) hx hb dL_law_1534 (by decide) ?_
      refine lv_iload hx hb dL_law_23 (lv_at hl 0 rfl) ?_
      refine lv_aload_n hx hb dL_law_25 rfl (lv_at hl 4 rfl) ?_
      refine va_slen hx hb hX hbl hbA hS dL_law_26 ?_
      refine wk_i 7 rfl ?_
      refine lv_bipush (v := 7) hx hb dL_law_27 (by decide) ?_
      refine lv_isub hx hb dL_law_29 ?_
      refine wk_i 0 (by decide) ?_
      refine lv_icmp_gt (tgt := 1537) hx hb dL_law_30 (by decide) (fun _ => ?_) (fun h9 => absurd h9 (by decide))
      refine lv_iconst (v := 1) hx hb dL_law_1537 (by decide) ?_
      refine va_forget (fun q hq => by have h9 := hS.2.2 q hq; rw [hAe] at h9; exact h9) ?_
      refine W.widen (k := 600002) (n := 7302232) (by omega) (by omega) ?_
      exact lw_ret hx hb hr hlocks dL_law_1538
    by_cases s162 : vs = 16
    · subst s162
      refine lv_tableIn (off := 896) (tgt := 936) hx hb dL_law_40 (by decide) (by decide) (by decide) (by decide) ?_
      have hP := hP.sub (ws' := [(q1, .inr (11, [.ref q3, .ref q26, .ref q28, .ref q35, .ref q39, .ref q43, .ref q46, .ref q52])), (q3, .inr (8, [.ref q4, .ref q54, .ref q55, .ref q5, .ref q6, .int 0, .int 0, .int 9, .int 0, .int 0])), (q59, .inr (12, [.ref q61, .ref q62, .ref q63, .ref q64, .ref q65, .ref q66, .ref q81, .ref q82, .ref q83, .ref q84, .ref q85, .ref q86, .int 0, .ref q87, .ref q88, .ref q89, .int 9, .int 0, .int 0, .ref q67, .ref q90, .ref q68, .int 0, .int 2, .ref q80, .ref q69, .ref q70, .ref q71, .int 0, .ref q72, .int 0, .ref q91, .ref q92, .ref q93, .ref q94, .int 0, .ref q73, .int 0, .int 0, .ref q95, .ref q96, .ref q97, .ref q98, .int 0, .int 0, .int 0, .int 0, .ref q99, .int 0, .ref q100, .ref q101, .ref q102, .ref q103, .int 0, .ref q74, .ref q75, .ref q76, .ref q77, .int 0, .ref q78, .ref q79, .ref q104]))]) [0, 1, 71] rfl
      have hD := hD.sub (ws' := [(q1, .inr (11, [.ref q3, .ref q26, .ref q28, .ref q35, .ref q39, .ref q43, .ref q46, .ref q52])), (q3, .inr (8, [.ref q4, .ref q54, .ref q55, .ref q5, .ref q6, .int 0, .int 0, .int 9, .int 0, .int 0])), (q59, .inr (12, [.ref q61, .ref q62, .ref q63, .ref q64, .ref q65, .ref q66, .ref q81, .ref q82, .ref q83, .ref q84, .ref q85, .ref q86, .int 0, .ref q87, .ref q88, .ref q89, .int 9, .int 0, .int 0, .ref q67, .ref q90, .ref q68, .int 0, .int 2, .ref q80, .ref q69, .ref q70, .ref q71, .int 0, .ref q72, .int 0, .ref q91, .ref q92, .ref q93, .ref q94, .int 0, .ref q73, .int 0, .int 0, .ref q95, .ref q96, .ref q97, .ref q98, .int 0, .int 0, .int 0, .int 0, .ref q99, .int 0, .ref q100, .ref q101, .ref q102, .ref q103, .int 0, .ref q74, .ref q75, .ref q76, .ref q77, .int 0, .ref q78, .ref q79, .ref q104]))]) [0, 1, 71] (by decide) rfl
      refine lv_aload_n hx hb dL_law_936 rfl (lv_at hl 3 rfl) ?_
      refine lv_aload_n hx hb dL_law_937 rfl (lv_at hl 4 rfl) ?_
      refine lv_iload hx hb dL_law_938 (lv_at hl 0 rfl) ?_
      refine lv_iconst (v := 1) hx hb dL_law_940 (by decide) ?_
      refine lv_iadd hx hb dL_law_941 ?_
      refine wk_i 1 (by decide) ?_
      refine va_sld hx hb hX hbl hbA hS (wk_in rfl) dL_law_942 ?_
      refine wk_i (xs 1) rfl ?_
      refine lv_aload_n hx hb dL_law_943 rfl (lv_at hl 4 rfl) ?_
      refine lv_iload hx hb dL_law_944 (lv_at hl 0 rfl) ?_
      refine lv_iconst (v := 2) hx hb dL_law_946 (by decide) ?_
      refine lv_iadd hx hb dL_law_947 ?_
      refine wk_i 2 (by decide) ?_
      refine va_sld hx hb hX hbl hbA hS (wk_in rfl) dL_law_948 ?_
      refine wk_i (xs 2) rfl ?_
      have hPc := hP.sub (ws' := [(q1, .inr (11, [.ref q3, .ref q26, .ref q28, .ref q35, .ref q39, .ref q43, .ref q46, .ref q52])), (q3, .inr (8, [.ref q4, .ref q54, .ref q55, .ref q5, .ref q6, .int 0, .int 0, .int 9, .int 0, .int 0]))]) [0, 1] rfl
      have hDc := hD.sub (ws' := [(q1, .inr (11, [.ref q3, .ref q26, .ref q28, .ref q35, .ref q39, .ref q43, .ref q46, .ref q52])), (q3, .inr (8, [.ref q4, .ref q54, .ref q55, .ref q5, .ref q6, .int 0, .int 0, .int 9, .int 0, .int 0]))]) [0, 1] (by decide) rfl
      have hFc := va_free (wc := [(q1, .inr (11, [.ref q3, .ref q26, .ref q28, .ref q35, .ref q39, .ref q43, .ref q46, .ref q52])), (q3, .inr (8, [.ref q4, .ref q54, .ref q55, .ref q5, .ref q6, .int 0, .int 0, .int 9, .int 0, .int 0]))]) hD hS hA [0, 1] rfl
      refine va_calli (va_runV (As := [.int (xs 1), .int (xs 2)]) (rest := []) ⟨hx, hb, hml, hown, hts⟩ (kX11_touch l D G q1 (xs 1) (xs 2) q3 q26 q28 q35 q39 q43 q46 q52 q4 q54 q55 q5 q6 H.size) (cwV 2 hts gL_law_X11_touch rfl rfl rfl (by decide +kernel) ⟨Nat.le_of_ble_eq_true rfl, Nat.le_of_ble_eq_true rfl⟩) ⟨wB_blind, va_recv hK hPc (ci := 11) (q0 := 0) rfl rfl, wB_pre hPc hK hDc hN⟩ rfl rfl hl.1 rfl (lv_room (Nat.le_of_ble_eq_true rfl)) dL_law_949 ⟨Nat.le_of_ble_eq_true rfl, Nat.le_of_ble_eq_true rfl⟩) hS (fun q _ h => hFc q h) hFc (fun r163 u t H1 locs ht hvm hr163 hB hz1 hk1 hS => ?_)
      obtain ⟨hP, hD⟩ := va_join (wr := [(q59, .inr (12, [.ref q61, .ref q62, .ref q63, .ref q64, .ref q65, .ref q66, .ref q81, .ref q82, .ref q83, .ref q84, .ref q85, .ref q86, .int 0, .ref q87, .ref q88, .ref q89, .int 9, .int 0, .int 0, .ref q67, .ref q90, .ref q68, .int 0, .int 2, .ref q80, .ref q69, .ref q70, .ref q71, .int 0, .ref q72, .int 0, .ref q91, .ref q92, .ref q93, .ref q94, .int 0, .ref q73, .int 0, .int 0, .ref q95, .ref q96, .ref q97, .ref q98, .int 0, .int 0, .int 0, .int 0, .ref q99, .int 0, .ref q100, .ref q101, .ref q102, .ref q103, .int 0, .ref q74, .ref q75, .ref q76, .ref q77, .int 0, .ref q78, .ref q79, .ref q104]))]) (w1 := []) hP hD [0, 1] [2] rfl rfl (by decide) (by decide) hk1 hFc wP_nil wD_nil
      clear hPc hDc
      generalize H1 = H at hP hS ⊢
      have hP : va_P D vwCl [(q59, .inr (12, [.ref q61, .ref q62, .ref q63, .ref q64, .ref q65, .ref q66, .ref q81, .ref q82, .ref q83, .ref q84, .ref q85, .ref q86, .int 0, .ref q87, .ref q88, .ref q89, .int 9, .int 0, .int 0, .ref q67, .ref q90, .ref q68, .int 0, .int 2, .ref q80, .ref q69, .ref q70, .ref q71, .int 0, .ref q72, .int 0, .ref q91, .ref q92, .ref q93, .ref q94, .int 0, .ref q73, .int 0, .int 0, .ref q95, .ref q96, .ref q97, .ref q98, .int 0, .int 0, .int 0, .int 0, .ref q99, .int 0, .ref q100, .ref q101, .ref q102, .ref q103, .int 0, .ref q74, .ref q75, .ref q76, .ref q77, .int 0, .ref q78, .ref q79, .ref q104]))] H := hP
      have hD : va_D A [(q59, .inr (12, [.ref q61, .ref q62, .ref q63, .ref q64, .ref q65, .ref q66, .ref q81, .ref q82, .ref q83, .ref q84, .ref q85, .ref q86, .int 0, .ref q87, .ref q88, .ref q89, .int 9, .int 0, .int 0, .ref q67, .ref q90, .ref q68, .int 0, .int 2, .ref q80, .ref q69, .ref q70, .ref q71, .int 0, .ref q72, .int 0, .ref q91, .ref q92, .ref q93, .ref q94, .int 0, .ref q73, .int 0, .int 0, .ref q95, .ref q96, .ref q97, .ref q98, .int 0, .int 0, .int 0, .int 0, .ref q99, .int 0, .ref q100, .ref q101, .ref q102, .ref q103, .int 0, .ref q74, .ref q75, .ref q76, .ref q77, .int 0, .ref q78, .ref q79, .ref q104]))] := hD
      subst hr163
      refine lv_aload_n hx hb dL_law_952 rfl (lv_at hl 2 rfl) ?_
      refine lv_aload_n hx hb dL_law_953 rfl (lv_at hl 4 rfl) ?_
      refine lv_iload hx hb dL_law_954 (lv_at hl 0 rfl) ?_
      refine lv_iconst (v := 1) hx hb dL_law_956 (by decide) ?_
      refine lv_iadd hx hb dL_law_957 ?_
      refine wk_i 1 (by decide) ?_
      refine va_sld hx hb hX hbl hbA hS (wk_in rfl) dL_law_958 ?_
      refine wk_i (xs 1) rfl ?_
      refine lv_aload_n hx hb dL_law_959 rfl (lv_at hl 4 rfl) ?_
      refine lv_iload hx hb dL_law_960 (lv_at hl 0 rfl) ?_
      refine lv_iconst (v := 2) hx hb dL_law_962 (by decide) ?_
      refine lv_iadd hx hb dL_law_963 ?_
      refine wk_i 2 (by decide) ?_
      refine va_sld hx hb hX hbl hbA hS (wk_in rfl) dL_law_964 ?_
      refine wk_i (xs 2) rfl ?_
      have hPc := hP.sub (ws' := [(q59, .inr (12, [.ref q61, .ref q62, .ref q63, .ref q64, .ref q65, .ref q66, .ref q81, .ref q82, .ref q83, .ref q84, .ref q85, .ref q86, .int 0, .ref q87, .ref q88, .ref q89, .int 9, .int 0, .int 0, .ref q67, .ref q90, .ref q68, .int 0, .int 2, .ref q80, .ref q69, .ref q70, .ref q71, .int 0, .ref q72, .int 0, .ref q91, .ref q92, .ref q93, .ref q94, .int 0, .ref q73, .int 0, .int 0, .ref q95, .ref q96, .ref q97, .ref q98, .int 0, .int 0, .int 0, .int 0, .ref q99, .int 0, .ref q100, .ref q101, .ref q102, .ref q103, .int 0, .ref q74, .ref q75, .ref q76, .ref q77, .int 0, .ref q78, .ref q79, .ref q104]))]) [0] rfl
      have hDc := hD.sub (ws' := [(q59, .inr (12, [.ref q61, .ref q62, .ref q63, .ref q64, .ref q65, .ref q66, .ref q81, .ref q82, .ref q83, .ref q84, .ref q85, .ref q86, .int 0, .ref q87, .ref q88, .ref q89, .int 9, .int 0, .int 0, .ref q67, .ref q90, .ref q68, .int 0, .int 2, .ref q80, .ref q69, .ref q70, .ref q71, .int 0, .ref q72, .int 0, .ref q91, .ref q92, .ref q93, .ref q94, .int 0, .ref q73, .int 0, .int 0, .ref q95, .ref q96, .ref q97, .ref q98, .int 0, .int 0, .int 0, .int 0, .ref q99, .int 0, .ref q100, .ref q101, .ref q102, .ref q103, .int 0, .ref q74, .ref q75, .ref q76, .ref q77, .int 0, .ref q78, .ref q79, .ref q104]))]) [0] (by decide) rfl
      have hFc := va_free (wc := [(q59, .inr (12, [.ref q61, .ref q62, .ref q63, .ref q64, .ref q65, .ref q66, .ref q81, .ref q82, .ref q83, .ref q84, .ref q85, .ref q86, .int 0, .ref q87, .ref q88, .ref q89, .int 9, .int 0, .int 0, .ref q67, .ref q90, .ref q68, .int 0, .int 2, .ref q80, .ref q69, .ref q70, .ref q71, .int 0, .ref q72, .int 0, .ref q91, .ref q92, .ref q93, .ref q94, .int 0, .ref q73, .int 0, .int 0, .ref q95, .ref q96, .ref q97, .ref q98, .int 0, .int 0, .int 0, .int 0, .ref q99, .int 0, .ref q100, .ref q101, .ref q102, .ref q103, .int 0, .ref q74, .ref q75, .ref q76, .ref q77, .int 0, .ref q78, .ref q79, .ref q104]))]) hD hS hA [0] rfl
      refine va_calli (va_runV (As := [.int (xs 1), .int (xs 2)]) (rest := [.int (-1)]) ⟨hx, hb, hml, hown, hts⟩ (kX12_touch l D G q59 (xs 1) (xs 2) q61 q62 q63 q64 q65 q66 q81 q82 q83 q84 q85 q86 q87 q88 q89 q67 q90 q68 q80 q69 q70 q71 q72 q91 q92 q93 q94 q73 q95 q96 q97 q98 q99 q100 q101 q102 q103 q74 q75 q76 q77 q78 q79 q104 H.size) (cwV 2 hts gL_law_X12_touch rfl rfl rfl (by decide +kernel) ⟨Nat.le_of_ble_eq_true rfl, Nat.le_of_ble_eq_true rfl⟩) ⟨wB_blind, va_recv hK hPc (ci := 12) (q0 := 0) rfl rfl, wB_pre hPc hK hDc hN⟩ rfl rfl hl.1 rfl (lv_room (Nat.le_of_ble_eq_true rfl)) dL_law_965 ⟨Nat.le_of_ble_eq_true rfl, Nat.le_of_ble_eq_true rfl⟩) hS (fun q _ h => hFc q h) hFc (fun r164 u t H1 locs ht hvm hr164 hB hz1 hk1 hS => ?_)
      obtain ⟨hP, hD⟩ := va_join (wr := []) (w1 := []) hP hD [0] [] rfl rfl (by decide) (by decide) hk1 hFc wP_nil wD_nil
      clear hPc hDc
      generalize H1 = H at hP hS ⊢
      have hP : va_P D vwCl [] H := hP
      have hD : va_D A [] := hD
      subst hr164
      refine lv_icmp_eq (tgt := 1531) hx hb dL_law_968 (by decide) (fun _ => ?_) (fun h9 => absurd h9 (by decide))
      refine lv_iinc (v := 7) (lv' := [(4, .int 7), (3, .ref q105), (2, .ref q59), (1, .ref q1), (0, .ref b)]) hx hb dL_law_1531 hl (k := 0) rfl (by decide) (by decide) rfl (fun ls hl => ?_)
      refine lv_goto (tgt := 23) hx hb dL_law_1534 (by decide) ?_
      refine lv_iload hx hb dL_law_23 (lv_at hl 0 rfl) ?_
      refine lv_aload_n hx hb dL_law_25 rfl (lv_at hl 4 rfl) ?_
      refine va_slen hx hb hX hbl hbA hS dL_law_26 ?_
      refine wk_i 7 rfl ?_
      refine lv_bipush (v := 7) hx hb dL_law_27 (by decide) ?_
      refine lv_isub hx hb dL_law_29 ?_
      refine wk_i 0 (by decide) ?_
      refine lv_icmp_gt (tgt := 1537) hx hb dL_law_30 (by decide) (fun _ => ?_) (fun h9 => absurd h9 (by decide))
      refine lv_iconst (v := 1) hx hb dL_law_1537 (by decide) ?_
      refine va_forget (fun q hq => by have h9 := hS.2.2 q hq; rw [hAe] at h9; exact h9) ?_
      refine W.widen (k := 600002) (n := 7302232) (by omega) (by omega) ?_
      exact lw_ret hx hb hr hlocks dL_law_1538
    by_cases s165 : vs = 17
    · subst s165
      refine lv_tableIn (off := 933) (tgt := 973) hx hb dL_law_40 (by decide) (by decide) (by decide) (by decide) ?_
      have hP := hP.sub (ws' := [(q1, .inr (11, [.ref q3, .ref q26, .ref q28, .ref q35, .ref q39, .ref q43, .ref q46, .ref q52])), (q3, .inr (8, [.ref q4, .ref q54, .ref q55, .ref q5, .ref q6, .int 0, .int 0, .int 9, .int 0, .int 0])), (q59, .inr (12, [.ref q61, .ref q62, .ref q63, .ref q64, .ref q65, .ref q66, .ref q81, .ref q82, .ref q83, .ref q84, .ref q85, .ref q86, .int 0, .ref q87, .ref q88, .ref q89, .int 9, .int 0, .int 0, .ref q67, .ref q90, .ref q68, .int 0, .int 2, .ref q80, .ref q69, .ref q70, .ref q71, .int 0, .ref q72, .int 0, .ref q91, .ref q92, .ref q93, .ref q94, .int 0, .ref q73, .int 0, .int 0, .ref q95, .ref q96, .ref q97, .ref q98, .int 0, .int 0, .int 0, .int 0, .ref q99, .int 0, .ref q100, .ref q101, .ref q102, .ref q103, .int 0, .ref q74, .ref q75, .ref q76, .ref q77, .int 0, .ref q78, .ref q79, .ref q104]))]) [0, 1, 71] rfl
      have hD := hD.sub (ws' := [(q1, .inr (11, [.ref q3, .ref q26, .ref q28, .ref q35, .ref q39, .ref q43, .ref q46, .ref q52])), (q3, .inr (8, [.ref q4, .ref q54, .ref q55, .ref q5, .ref q6, .int 0, .int 0, .int 9, .int 0, .int 0])), (q59, .inr (12, [.ref q61, .ref q62, .ref q63, .ref q64, .ref q65, .ref q66, .ref q81, .ref q82, .ref q83, .ref q84, .ref q85, .ref q86, .int 0, .ref q87, .ref q88, .ref q89, .int 9, .int 0, .int 0, .ref q67, .ref q90, .ref q68, .int 0, .int 2, .ref q80, .ref q69, .ref q70, .ref q71, .int 0, .ref q72, .int 0, .ref q91, .ref q92, .ref q93, .ref q94, .int 0, .ref q73, .int 0, .int 0, .ref q95, .ref q96, .ref q97, .ref q98, .int 0, .int 0, .int 0, .int 0, .ref q99, .int 0, .ref q100, .ref q101, .ref q102, .ref q103, .int 0, .ref q74, .ref q75, .ref q76, .ref q77, .int 0, .ref q78, .ref q79, .ref q104]))]) [0, 1, 71] (by decide) rfl
      refine lv_aload_n hx hb dL_law_973 rfl (lv_at hl 3 rfl) ?_
      refine lv_aload_n hx hb dL_law_974 rfl (lv_at hl 4 rfl) ?_
      refine lv_iload hx hb dL_law_975 (lv_at hl 0 rfl) ?_
      refine lv_iconst (v := 1) hx hb dL_law_977 (by decide) ?_
      refine lv_iadd hx hb dL_law_978 ?_
      refine wk_i 1 (by decide) ?_
      refine va_sld hx hb hX hbl hbA hS (wk_in rfl) dL_law_979 ?_
      refine wk_i (xs 1) rfl ?_
      refine lv_aload_n hx hb dL_law_980 rfl (lv_at hl 4 rfl) ?_
      refine lv_iload hx hb dL_law_981 (lv_at hl 0 rfl) ?_
      refine lv_iconst (v := 2) hx hb dL_law_983 (by decide) ?_
      refine lv_iadd hx hb dL_law_984 ?_
      refine wk_i 2 (by decide) ?_
      refine va_sld hx hb hX hbl hbA hS (wk_in rfl) dL_law_985 ?_
      refine wk_i (xs 2) rfl ?_
      refine lv_aload_n hx hb dL_law_986 rfl (lv_at hl 4 rfl) ?_
      refine lv_iload hx hb dL_law_987 (lv_at hl 0 rfl) ?_
      refine lv_iconst (v := 3) hx hb dL_law_989 (by decide) ?_
      refine lv_iadd hx hb dL_law_990 ?_
      refine wk_i 3 (by decide) ?_
      refine va_sld hx hb hX hbl hbA hS (wk_in rfl) dL_law_991 ?_
      refine wk_i (xs 3) rfl ?_
      have hPc := hP.sub (ws' := [(q1, .inr (11, [.ref q3, .ref q26, .ref q28, .ref q35, .ref q39, .ref q43, .ref q46, .ref q52])), (q3, .inr (8, [.ref q4, .ref q54, .ref q55, .ref q5, .ref q6, .int 0, .int 0, .int 9, .int 0, .int 0]))]) [0, 1] rfl
      have hDc := hD.sub (ws' := [(q1, .inr (11, [.ref q3, .ref q26, .ref q28, .ref q35, .ref q39, .ref q43, .ref q46, .ref q52])), (q3, .inr (8, [.ref q4, .ref q54, .ref q55, .ref q5, .ref q6, .int 0, .int 0, .int 9, .int 0, .int 0]))]) [0, 1] (by decide) rfl
      have hFc := va_free (wc := [(q1, .inr (11, [.ref q3, .ref q26, .ref q28, .ref q35, .ref q39, .ref q43, .ref q46, .ref q52])), (q3, .inr (8, [.ref q4, .ref q54, .ref q55, .ref q5, .ref q6, .int 0, .int 0, .int 9, .int 0, .int 0]))]) hD hS hA [0, 1] rfl
      refine va_calli (va_runV (As := [.int (xs 1), .int (xs 2), .int (xs 3)]) (rest := []) ⟨hx, hb, hml, hown, hts⟩ (kX11_meeting l D G q1 (xs 1) (xs 2) (xs 3) q3 q26 q28 q35 q39 q43 q46 q52 q4 q54 q55 q5 q6 H.size) (cwV 3 hts gL_law_X11_meeting rfl rfl rfl (by decide +kernel) ⟨Nat.le_of_ble_eq_true rfl, Nat.le_of_ble_eq_true rfl⟩) ⟨wB_blind, va_recv hK hPc (ci := 11) (q0 := 0) rfl rfl, wB_pre hPc hK hDc hN⟩ rfl rfl hl.1 rfl (lv_room (Nat.le_of_ble_eq_true rfl)) dL_law_992 ⟨Nat.le_of_ble_eq_true rfl, Nat.le_of_ble_eq_true rfl⟩) hS (fun q _ h => hFc q h) hFc (fun r166 u t H1 locs ht hvm hr166 hB hz1 hk1 hS => ?_)
      obtain ⟨hP, hD⟩ := va_join (wr := [(q59, .inr (12, [.ref q61, .ref q62, .ref q63, .ref q64, .ref q65, .ref q66, .ref q81, .ref q82, .ref q83, .ref q84, .ref q85, .ref q86, .int 0, .ref q87, .ref q88, .ref q89, .int 9, .int 0, .int 0, .ref q67, .ref q90, .ref q68, .int 0, .int 2, .ref q80, .ref q69, .ref q70, .ref q71, .int 0, .ref q72, .int 0, .ref q91, .ref q92, .ref q93, .ref q94, .int 0, .ref q73, .int 0, .int 0, .ref q95, .ref q96, .ref q97, .ref q98, .int 0, .int 0, .int 0, .int 0, .ref q99, .int 0, .ref q100, .ref q101, .ref q102, .ref q103, .int 0, .ref q74, .ref q75, .ref q76, .ref q77, .int 0, .ref q78, .ref q79, .ref q104]))]) (w1 := []) hP hD [0, 1] [2] rfl rfl (by decide) (by decide) hk1 hFc wP_nil wD_nil
      clear hPc hDc
      generalize H1 = H at hP hS ⊢
      have hP : va_P D vwCl [(q59, .inr (12, [.ref q61, .ref q62, .ref q63, .ref q64, .ref q65, .ref q66, .ref q81, .ref q82, .ref q83, .ref q84, .ref q85, .ref q86, .int 0, .ref q87, .ref q88, .ref q89, .int 9, .int 0, .int 0, .ref q67, .ref q90, .ref q68, .int 0, .int 2, .ref q80, .ref q69, .ref q70, .ref q71, .int 0, .ref q72, .int 0, .ref q91, .ref q92, .ref q93, .ref q94, .int 0, .ref q73, .int 0, .int 0, .ref q95, .ref q96, .ref q97, .ref q98, .int 0, .int 0, .int 0, .int 0, .ref q99, .int 0, .ref q100, .ref q101, .ref q102, .ref q103, .int 0, .ref q74, .ref q75, .ref q76, .ref q77, .int 0, .ref q78, .ref q79, .ref q104]))] H := hP
      have hD : va_D A [(q59, .inr (12, [.ref q61, .ref q62, .ref q63, .ref q64, .ref q65, .ref q66, .ref q81, .ref q82, .ref q83, .ref q84, .ref q85, .ref q86, .int 0, .ref q87, .ref q88, .ref q89, .int 9, .int 0, .int 0, .ref q67, .ref q90, .ref q68, .int 0, .int 2, .ref q80, .ref q69, .ref q70, .ref q71, .int 0, .ref q72, .int 0, .ref q91, .ref q92, .ref q93, .ref q94, .int 0, .ref q73, .int 0, .int 0, .ref q95, .ref q96, .ref q97, .ref q98, .int 0, .int 0, .int 0, .int 0, .ref q99, .int 0, .ref q100, .ref q101, .ref q102, .ref q103, .int 0, .ref q74, .ref q75, .ref q76, .ref q77, .int 0, .ref q78, .ref q79, .ref q104]))] := hD
      subst hr166
      refine lv_aload_n hx hb dL_law_995 rfl (lv_at hl 2 rfl) ?_
      refine lv_aload_n hx hb dL_law_996 rfl (lv_at hl 4 rfl) ?_
      refine lv_iload hx hb dL_law_997 (lv_at hl 0 rfl) ?_
      refine lv_iconst (v := 1) hx hb dL_law_999 (by decide) ?_
      refine lv_iadd hx hb dL_law_1000 ?_
      refine wk_i 1 (by decide) ?_
      refine va_sld hx hb hX hbl hbA hS (wk_in rfl) dL_law_1001 ?_
      refine wk_i (xs 1) rfl ?_
      refine lv_aload_n hx hb dL_law_1002 rfl (lv_at hl 4 rfl) ?_
      refine lv_iload hx hb dL_law_1003 (lv_at hl 0 rfl) ?_
      refine lv_iconst (v := 2) hx hb dL_law_1005 (by decide) ?_
      refine lv_iadd hx hb dL_law_1006 ?_
      refine wk_i 2 (by decide) ?_
      refine va_sld hx hb hX hbl hbA hS (wk_in rfl) dL_law_1007 ?_
      refine wk_i (xs 2) rfl ?_
      refine lv_aload_n hx hb dL_law_1008 rfl (lv_at hl 4 rfl) ?_
      refine lv_iload hx hb dL_law_1009 (lv_at hl 0 rfl) ?_
      refine lv_iconst (v := 3) hx hb dL_law_1011 (by decide) ?_
      refine lv_iadd hx hb dL_law_1012 ?_
      refine wk_i 3 (by decide) ?_
      refine va_sld hx hb hX hbl hbA hS (wk_in rfl) dL_law_1013 ?_
      refine wk_i (xs 3) rfl ?_
      have hPc := hP.sub (ws' := [(q59, .inr (12, [.ref q61, .ref q62, .ref q63, .ref q64, .ref q65, .ref q66, .ref q81, .ref q82, .ref q83, .ref q84, .ref q85, .ref q86, .int 0, .ref q87, .ref q88, .ref q89, .int 9, .int 0, .int 0, .ref q67, .ref q90, .ref q68, .int 0, .int 2, .ref q80, .ref q69, .ref q70, .ref q71, .int 0, .ref q72, .int 0, .ref q91, .ref q92, .ref q93, .ref q94, .int 0, .ref q73, .int 0, .int 0, .ref q95, .ref q96, .ref q97, .ref q98, .int 0, .int 0, .int 0, .int 0, .ref q99, .int 0, .ref q100, .ref q101, .ref q102, .ref q103, .int 0, .ref q74, .ref q75, .ref q76, .ref q77, .int 0, .ref q78, .ref q79, .ref q104]))]) [0] rfl
      have hDc := hD.sub (ws' := [(q59, .inr (12, [.ref q61, .ref q62, .ref q63, .ref q64, .ref q65, .ref q66, .ref q81, .ref q82, .ref q83, .ref q84, .ref q85, .ref q86, .int 0, .ref q87, .ref q88, .ref q89, .int 9, .int 0, .int 0, .ref q67, .ref q90, .ref q68, .int 0, .int 2, .ref q80, .ref q69, .ref q70, .ref q71, .int 0, .ref q72, .int 0, .ref q91, .ref q92, .ref q93, .ref q94, .int 0, .ref q73, .int 0, .int 0, .ref q95, .ref q96, .ref q97, .ref q98, .int 0, .int 0, .int 0, .int 0, .ref q99, .int 0, .ref q100, .ref q101, .ref q102, .ref q103, .int 0, .ref q74, .ref q75, .ref q76, .ref q77, .int 0, .ref q78, .ref q79, .ref q104]))]) [0] (by decide) rfl
      have hFc := va_free (wc := [(q59, .inr (12, [.ref q61, .ref q62, .ref q63, .ref q64, .ref q65, .ref q66, .ref q81, .ref q82, .ref q83, .ref q84, .ref q85, .ref q86, .int 0, .ref q87, .ref q88, .ref q89, .int 9, .int 0, .int 0, .ref q67, .ref q90, .ref q68, .int 0, .int 2, .ref q80, .ref q69, .ref q70, .ref q71, .int 0, .ref q72, .int 0, .ref q91, .ref q92, .ref q93, .ref q94, .int 0, .ref q73, .int 0, .int 0, .ref q95, .ref q96, .ref q97, .ref q98, .int 0, .int 0, .int 0, .int 0, .ref q99, .int 0, .ref q100, .ref q101, .ref q102, .ref q103, .int 0, .ref q74, .ref q75, .ref q76, .ref q77, .int 0, .ref q78, .ref q79, .ref q104]))]) hD hS hA [0] rfl
      refine va_calli (va_runV (As := [.int (xs 1), .int (xs 2), .int (xs 3)]) (rest := [.int (-1)]) ⟨hx, hb, hml, hown, hts⟩ (kX12_meeting l D G q59 (xs 1) (xs 2) (xs 3) q61 q62 q63 q64 q65 q66 q81 q82 q83 q84 q85 q86 q87 q88 q89 q67 q90 q68 q80 q69 q70 q71 q72 q91 q92 q93 q94 q73 q95 q96 q97 q98 q99 q100 q101 q102 q103 q74 q75 q76 q77 q78 q79 q104 H.size) (cwV 3 hts gL_law_X12_meeting rfl rfl rfl (by decide +kernel) ⟨Nat.le_of_ble_eq_true rfl, Nat.le_of_ble_eq_true rfl⟩) ⟨wB_blind, va_recv hK hPc (ci := 12) (q0 := 0) rfl rfl, wB_pre hPc hK hDc hN⟩ rfl rfl hl.1 rfl (lv_room (Nat.le_of_ble_eq_true rfl)) dL_law_1014 ⟨Nat.le_of_ble_eq_true rfl, Nat.le_of_ble_eq_true rfl⟩) hS (fun q _ h => hFc q h) hFc (fun r167 u t H1 locs ht hvm hr167 hB hz1 hk1 hS => ?_)
      obtain ⟨hP, hD⟩ := va_join (wr := []) (w1 := []) hP hD [0] [] rfl rfl (by decide) (by decide) hk1 hFc wP_nil wD_nil
      clear hPc hDc
      generalize H1 = H at hP hS ⊢
      have hP : va_P D vwCl [] H := hP
      have hD : va_D A [] := hD
      subst hr167
      refine lv_icmp_eq (tgt := 1531) hx hb dL_law_1017 (by decide) (fun _ => ?_) (fun h9 => absurd h9 (by decide))
      refine lv_iinc (v := 7) (lv' := [(4, .int 7), (3, .ref q105), (2, .ref q59), (1, .ref q1), (0, .ref b)]) hx hb dL_law_1531 hl (k := 0) rfl (by decide) (by decide) rfl (fun ls hl => ?_)
      refine lv_goto (tgt := 23) hx hb dL_law_1534 (by decide) ?_
      refine lv_iload hx hb dL_law_23 (lv_at hl 0 rfl) ?_
      refine lv_aload_n hx hb dL_law_25 rfl (lv_at hl 4 rfl) ?_
      refine va_slen hx hb hX hbl hbA hS dL_law_26 ?_
      refine wk_i 7 rfl ?_
      refine lv_bipush (v := 7) hx hb dL_law_27 (by decide) ?_
      refine lv_isub hx hb dL_law_29 ?_
      refine wk_i 0 (by decide) ?_
      refine lv_icmp_gt (tgt := 1537) hx hb dL_law_30 (by decide) (fun _ => ?_) (fun h9 => absurd h9 (by decide))
      refine lv_iconst (v := 1) hx hb dL_law_1537 (by decide) ?_
      refine va_forget (fun q hq => by have h9 := hS.2.2 q hq; rw [hAe] at h9; exact h9) ?_
      refine W.widen (k := 600002) (n := 7302232) (by omega) (by omega) ?_
      exact lw_ret hx hb hr hlocks dL_law_1538
    by_cases s168 : vs = 18
    · subst s168
      refine lv_tableIn (off := 982) (tgt := 1022) hx hb dL_law_40 (by decide) (by decide) (by decide) (by decide) ?_
      have hP := hP.sub (ws' := [(q1, .inr (11, [.ref q3, .ref q26, .ref q28, .ref q35, .ref q39, .ref q43, .ref q46, .ref q52])), (q3, .inr (8, [.ref q4, .ref q54, .ref q55, .ref q5, .ref q6, .int 0, .int 0, .int 9, .int 0, .int 0])), (q26, .inr (10, [.ref q27, .int 0])), (q35, .inr (0, [.ref q32, .ref q36, .ref q37, .ref q38, .ref q33, .ref q34, .int 2, .int 0, .int 0])), (q39, .inr (3, [.ref q40, .ref q41, .ref q42, .int 0])), (q46, .inr (9, [.ref q47, .ref q48, .ref q49, .ref q50, .ref q51, .int 0])), (q52, .inr (5, [.ref q53, .int 0])), (q67, .inl (G.1, 169, .inl (fun _ => 0))), (q59, .inr (12, [.ref q61, .ref q62, .ref q63, .ref q64, .ref q65, .ref q66, .ref q81, .ref q82, .ref q83, .ref q84, .ref q85, .ref q86, .int 0, .ref q87, .ref q88, .ref q89, .int 9, .int 0, .int 0, .ref q67, .ref q90, .ref q68, .int 0, .int 2, .ref q80, .ref q69, .ref q70, .ref q71, .int 0, .ref q72, .int 0, .ref q91, .ref q92, .ref q93, .ref q94, .int 0, .ref q73, .int 0, .int 0, .ref q95, .ref q96, .ref q97, .ref q98, .int 0, .int 0, .int 0, .int 0, .ref q99, .int 0, .ref q100, .ref q101, .ref q102, .ref q103, .int 0, .ref q74, .ref q75, .ref q76, .ref q77, .int 0, .ref q78, .ref q79, .ref q104]))]) [0, 1, 24, 33, 37, 44, 50, 58, 71] rfl
      have hD := hD.sub (ws' := [(q1, .inr (11, [.ref q3, .ref q26, .ref q28, .ref q35, .ref q39, .ref q43, .ref q46, .ref q52])), (q3, .inr (8, [.ref q4, .ref q54, .ref q55, .ref q5, .ref q6, .int 0, .int 0, .int 9, .int 0, .int 0])), (q26, .inr (10, [.ref q27, .int 0])), (q35, .inr (0, [.ref q32, .ref q36, .ref q37, .ref q38, .ref q33, .ref q34, .int 2, .int 0, .int 0])), (q39, .inr (3, [.ref q40, .ref q41, .ref q42, .int 0])), (q46, .inr (9, [.ref q47, .ref q48, .ref q49, .ref q50, .ref q51, .int 0])), (q52, .inr (5, [.ref q53, .int 0])), (q67, .inl (G.1, 169, .inl (fun _ => 0))), (q59, .inr (12, [.ref q61, .ref q62, .ref q63, .ref q64, .ref q65, .ref q66, .ref q81, .ref q82, .ref q83, .ref q84, .ref q85, .ref q86, .int 0, .ref q87, .ref q88, .ref q89, .int 9, .int 0, .int 0, .ref q67, .ref q90, .ref q68, .int 0, .int 2, .ref q80, .ref q69, .ref q70, .ref q71, .int 0, .ref q72, .int 0, .ref q91, .ref q92, .ref q93, .ref q94, .int 0, .ref q73, .int 0, .int 0, .ref q95, .ref q96, .ref q97, .ref q98, .int 0, .int 0, .int 0, .int 0, .ref q99, .int 0, .ref q100, .ref q101, .ref q102, .ref q103, .int 0, .ref q74, .ref q75, .ref q76, .ref q77, .int 0, .ref q78, .ref q79, .ref q104]))]) [0, 1, 24, 33, 37, 44, 50, 58, 71] (by decide) rfl
      refine lv_aload_n hx hb dL_law_1022 rfl (lv_at hl 3 rfl) ?_
      refine lv_aload_n hx hb dL_law_1023 rfl (lv_at hl 4 rfl) ?_
      refine lv_iload hx hb dL_law_1024 (lv_at hl 0 rfl) ?_
      refine lv_iconst (v := 1) hx hb dL_law_1026 (by decide) ?_
      refine lv_iadd hx hb dL_law_1027 ?_
      refine wk_i 1 (by decide) ?_
      refine va_sld hx hb hX hbl hbA hS (wk_in rfl) dL_law_1028 ?_
      refine wk_i (xs 1) rfl ?_
      have hPc := hP.sub (ws' := [(q1, .inr (11, [.ref q3, .ref q26, .ref q28, .ref q35, .ref q39, .ref q43, .ref q46, .ref q52])), (q3, .inr (8, [.ref q4, .ref q54, .ref q55, .ref q5, .ref q6, .int 0, .int 0, .int 9, .int 0, .int 0])), (q26, .inr (10, [.ref q27, .int 0])), (q35, .inr (0, [.ref q32, .ref q36, .ref q37, .ref q38, .ref q33, .ref q34, .int 2, .int 0, .int 0])), (q39, .inr (3, [.ref q40, .ref q41, .ref q42, .int 0])), (q46, .inr (9, [.ref q47, .ref q48, .ref q49, .ref q50, .ref q51, .int 0])), (q52, .inr (5, [.ref q53, .int 0]))]) [0, 1, 2, 3, 4, 5, 6] rfl
      have hDc := hD.sub (ws' := [(q1, .inr (11, [.ref q3, .ref q26, .ref q28, .ref q35, .ref q39, .ref q43, .ref q46, .ref q52])), (q3, .inr (8, [.ref q4, .ref q54, .ref q55, .ref q5, .ref q6, .int 0, .int 0, .int 9, .int 0, .int 0])), (q26, .inr (10, [.ref q27, .int 0])), (q35, .inr (0, [.ref q32, .ref q36, .ref q37, .ref q38, .ref q33, .ref q34, .int 2, .int 0, .int 0])), (q39, .inr (3, [.ref q40, .ref q41, .ref q42, .int 0])), (q46, .inr (9, [.ref q47, .ref q48, .ref q49, .ref q50, .ref q51, .int 0])), (q52, .inr (5, [.ref q53, .int 0]))]) [0, 1, 2, 3, 4, 5, 6] (by decide) rfl
      have hFc := va_free (wc := [(q1, .inr (11, [.ref q3, .ref q26, .ref q28, .ref q35, .ref q39, .ref q43, .ref q46, .ref q52])), (q3, .inr (8, [.ref q4, .ref q54, .ref q55, .ref q5, .ref q6, .int 0, .int 0, .int 9, .int 0, .int 0])), (q26, .inr (10, [.ref q27, .int 0])), (q35, .inr (0, [.ref q32, .ref q36, .ref q37, .ref q38, .ref q33, .ref q34, .int 2, .int 0, .int 0])), (q39, .inr (3, [.ref q40, .ref q41, .ref q42, .int 0])), (q46, .inr (9, [.ref q47, .ref q48, .ref q49, .ref q50, .ref q51, .int 0])), (q52, .inr (5, [.ref q53, .int 0]))]) hD hS hA [0, 1, 2, 3, 4, 5, 6] rfl
      refine va_calli (va_runV (As := [.int (xs 1)]) (rest := []) ⟨hx, hb, hml, hown, hts⟩ (kX11_count l D G q1 (xs 1) q3 q26 q28 q35 q39 q43 q46 q52 q4 q54 q55 q5 q6 q27 q32 q36 q37 q38 q33 q34 q40 q41 q42 q47 q48 q49 q50 q51 q53 H.size) (cwV 1 hts gL_law_X11_count rfl rfl rfl (by decide +kernel) ⟨Nat.le_of_ble_eq_true rfl, Nat.le_of_ble_eq_true rfl⟩) ⟨wB_blind, va_recv hK hPc (ci := 11) (q0 := 0) rfl rfl, wB_pre hPc hK hDc hN⟩ rfl rfl hl.1 rfl (lv_room (Nat.le_of_ble_eq_true rfl)) dL_law_1029 ⟨Nat.le_of_ble_eq_true rfl, Nat.le_of_ble_eq_true rfl⟩) hS (fun q _ h => hFc q h) hFc (fun r169 u t H1 locs ht hvm hr169 hB hz1 hk1 hS => ?_)
      obtain ⟨hP, hD⟩ := va_join (wr := [(q67, .inl (G.1, 169, .inl (fun _ => 0))), (q59, .inr (12, [.ref q61, .ref q62, .ref q63, .ref q64, .ref q65, .ref q66, .ref q81, .ref q82, .ref q83, .ref q84, .ref q85, .ref q86, .int 0, .ref q87, .ref q88, .ref q89, .int 9, .int 0, .int 0, .ref q67, .ref q90, .ref q68, .int 0, .int 2, .ref q80, .ref q69, .ref q70, .ref q71, .int 0, .ref q72, .int 0, .ref q91, .ref q92, .ref q93, .ref q94, .int 0, .ref q73, .int 0, .int 0, .ref q95, .ref q96, .ref q97, .ref q98, .int 0, .int 0, .int 0, .int 0, .ref q99, .int 0, .ref q100, .ref q101, .ref q102, .ref q103, .int 0, .ref q74, .ref q75, .ref q76, .ref q77, .int 0, .ref q78, .ref q79, .ref q104]))]) (w1 := []) hP hD [0, 1, 2, 3, 4, 5, 6] [7, 8] rfl rfl (by decide) (by decide) hk1 hFc wP_nil wD_nil
      clear hPc hDc
      generalize H1 = H at hP hS ⊢
      have hP : va_P D vwCl [(q67, .inl (G.1, 169, .inl (fun _ => 0))), (q59, .inr (12, [.ref q61, .ref q62, .ref q63, .ref q64, .ref q65, .ref q66, .ref q81, .ref q82, .ref q83, .ref q84, .ref q85, .ref q86, .int 0, .ref q87, .ref q88, .ref q89, .int 9, .int 0, .int 0, .ref q67, .ref q90, .ref q68, .int 0, .int 2, .ref q80, .ref q69, .ref q70, .ref q71, .int 0, .ref q72, .int 0, .ref q91, .ref q92, .ref q93, .ref q94, .int 0, .ref q73, .int 0, .int 0, .ref q95, .ref q96, .ref q97, .ref q98, .int 0, .int 0, .int 0, .int 0, .ref q99, .int 0, .ref q100, .ref q101, .ref q102, .ref q103, .int 0, .ref q74, .ref q75, .ref q76, .ref q77, .int 0, .ref q78, .ref q79, .ref q104]))] H := hP
      have hD : va_D A [(q67, .inl (G.1, 169, .inl (fun _ => 0))), (q59, .inr (12, [.ref q61, .ref q62, .ref q63, .ref q64, .ref q65, .ref q66, .ref q81, .ref q82, .ref q83, .ref q84, .ref q85, .ref q86, .int 0, .ref q87, .ref q88, .ref q89, .int 9, .int 0, .int 0, .ref q67, .ref q90, .ref q68, .int 0, .int 2, .ref q80, .ref q69, .ref q70, .ref q71, .int 0, .ref q72, .int 0, .ref q91, .ref q92, .ref q93, .ref q94, .int 0, .ref q73, .int 0, .int 0, .ref q95, .ref q96, .ref q97, .ref q98, .int 0, .int 0, .int 0, .int 0, .ref q99, .int 0, .ref q100, .ref q101, .ref q102, .ref q103, .int 0, .ref q74, .ref q75, .ref q76, .ref q77, .int 0, .ref q78, .ref q79, .ref q104]))] := hD
      refine lv_aload_n hx hb dL_law_1032 rfl (lv_at hl 2 rfl) ?_
      refine lv_aload_n hx hb dL_law_1033 rfl (lv_at hl 4 rfl) ?_
      refine lv_iload hx hb dL_law_1034 (lv_at hl 0 rfl) ?_
      refine lv_iconst (v := 1) hx hb dL_law_1036 (by decide) ?_
      refine lv_iadd hx hb dL_law_1037 ?_
      refine wk_i 1 (by decide) ?_
      refine va_sld hx hb hX hbl hbA hS (wk_in rfl) dL_law_1038 ?_
      refine wk_i (xs 1) rfl ?_
      have hPc := hP.sub (ws' := [(q59, .inr (12, [.ref q61, .ref q62, .ref q63, .ref q64, .ref q65, .ref q66, .ref q81, .ref q82, .ref q83, .ref q84, .ref q85, .ref q86, .int 0, .ref q87, .ref q88, .ref q89, .int 9, .int 0, .int 0, .ref q67, .ref q90, .ref q68, .int 0, .int 2, .ref q80, .ref q69, .ref q70, .ref q71, .int 0, .ref q72, .int 0, .ref q91, .ref q92, .ref q93, .ref q94, .int 0, .ref q73, .int 0, .int 0, .ref q95, .ref q96, .ref q97, .ref q98, .int 0, .int 0, .int 0, .int 0, .ref q99, .int 0, .ref q100, .ref q101, .ref q102, .ref q103, .int 0, .ref q74, .ref q75, .ref q76, .ref q77, .int 0, .ref q78, .ref q79, .ref q104])), (q67, .inl (G.1, 169, .inl (fun _ => 0)))]) [1, 0] rfl
      have hDc := hD.sub (ws' := [(q59, .inr (12, [.ref q61, .ref q62, .ref q63, .ref q64, .ref q65, .ref q66, .ref q81, .ref q82, .ref q83, .ref q84, .ref q85, .ref q86, .int 0, .ref q87, .ref q88, .ref q89, .int 9, .int 0, .int 0, .ref q67, .ref q90, .ref q68, .int 0, .int 2, .ref q80, .ref q69, .ref q70, .ref q71, .int 0, .ref q72, .int 0, .ref q91, .ref q92, .ref q93, .ref q94, .int 0, .ref q73, .int 0, .int 0, .ref q95, .ref q96, .ref q97, .ref q98, .int 0, .int 0, .int 0, .int 0, .ref q99, .int 0, .ref q100, .ref q101, .ref q102, .ref q103, .int 0, .ref q74, .ref q75, .ref q76, .ref q77, .int 0, .ref q78, .ref q79, .ref q104])), (q67, .inl (G.1, 169, .inl (fun _ => 0)))]) [1, 0] (by decide) rfl
      have hFc := va_free (wc := [(q59, .inr (12, [.ref q61, .ref q62, .ref q63, .ref q64, .ref q65, .ref q66, .ref q81, .ref q82, .ref q83, .ref q84, .ref q85, .ref q86, .int 0, .ref q87, .ref q88, .ref q89, .int 9, .int 0, .int 0, .ref q67, .ref q90, .ref q68, .int 0, .int 2, .ref q80, .ref q69, .ref q70, .ref q71, .int 0, .ref q72, .int 0, .ref q91, .ref q92, .ref q93, .ref q94, .int 0, .ref q73, .int 0, .int 0, .ref q95, .ref q96, .ref q97, .ref q98, .int 0, .int 0, .int 0, .int 0, .ref q99, .int 0, .ref q100, .ref q101, .ref q102, .ref q103, .int 0, .ref q74, .ref q75, .ref q76, .ref q77, .int 0, .ref q78, .ref q79, .ref q104])), (q67, .inl (G.1, 169, .inl (fun _ => 0)))]) hD hS hA [1, 0] rfl
      refine va_calli (va_runV (As := [.int (xs 1)]) (rest := [.int r169]) ⟨hx, hb, hml, hown, hts⟩ (kX12_count l D G q59 (xs 1) q61 q62 q63 q64 q65 q66 q81 q82 q83 q84 q85 q86 q87 q88 q89 q67 q90 q68 q80 q69 q70 q71 q72 q91 q92 q93 q94 q73 q95 q96 q97 q98 q99 q100 q101 q102 q103 q74 q75 q76 q77 q78 q79 q104 H.size) (cwV 1 hts gL_law_X12_count rfl rfl rfl (by decide +kernel) ⟨Nat.le_of_ble_eq_true rfl, Nat.le_of_ble_eq_true rfl⟩) ⟨wB_blind, va_recv hK hPc (ci := 12) (q0 := 0) rfl rfl, wB_pre hPc hK hDc hN⟩ rfl rfl hl.1 rfl (lv_room (Nat.le_of_ble_eq_true rfl)) dL_law_1039 ⟨Nat.le_of_ble_eq_true rfl, Nat.le_of_ble_eq_true rfl⟩) hS (fun q _ h => hFc q h) hFc (fun r170 u t H1 locs ht hvm hr170 hB hz1 hk1 hS => ?_)
      obtain ⟨hP, hD⟩ := va_join (wr := []) (w1 := []) hP hD [1, 0] [] rfl rfl (by decide) (by decide) hk1 hFc wP_nil wD_nil
      clear hPc hDc
      generalize H1 = H at hP hS ⊢
      have hP : va_P D vwCl [] H := hP
      have hD : va_D A [] := hD
      refine lv_icmp_eq (tgt := 1531) hx hb dL_law_1042 (by decide) (fun _ => ?_) (fun h9 => absurd (Eq.trans hr169 (Eq.symm hr170)) h9)
      refine lv_iinc (v := 7) (lv' := [(4, .int 7), (3, .ref q105), (2, .ref q59), (1, .ref q1), (0, .ref b)]) hx hb dL_law_1531 hl (k := 0) rfl (by decide) (by decide) rfl (fun ls hl => ?_)
      refine lv_goto (tgt := 23) hx hb dL_law_1534 (by decide) ?_
      refine lv_iload hx hb dL_law_23 (lv_at hl 0 rfl) ?_
      refine lv_aload_n hx hb dL_law_25 rfl (lv_at hl 4 rfl) ?_
      refine va_slen hx hb hX hbl hbA hS dL_law_26 ?_
      refine wk_i 7 rfl ?_
      refine lv_bipush (v := 7) hx hb dL_law_27 (by decide) ?_
      refine lv_isub hx hb dL_law_29 ?_
      refine wk_i 0 (by decide) ?_
      refine lv_icmp_gt (tgt := 1537) hx hb dL_law_30 (by decide) (fun _ => ?_) (fun h9 => absurd h9 (by decide))
      refine lv_iconst (v := 1) hx hb dL_law_1537 (by decide) ?_
      refine va_forget (fun q hq => by have h9 := hS.2.2 q hq; rw [hAe] at h9; exact h9) ?_
      refine W.widen (k := 600002) (n := 7302232) (by omega) (by omega) ?_
      exact lw_ret hx hb hr hlocks dL_law_1538
    by_cases s171 : vs = 19
    · subst s171
      refine lv_tableIn (off := 1007) (tgt := 1047) hx hb dL_law_40 (by decide) (by decide) (by decide) (by decide) ?_
      have hP := hP.sub (ws' := [(q1, .inr (11, [.ref q3, .ref q26, .ref q28, .ref q35, .ref q39, .ref q43, .ref q46, .ref q52])), (q35, .inr (0, [.ref q32, .ref q36, .ref q37, .ref q38, .ref q33, .ref q34, .int 2, .int 0, .int 0])), (q36, .inl (G.1, 5, .inl (tI [0, 1, 2, 3, 4]))), (q37, .inl (G.1, 25, .inl (tI [0, 0, 0, 0, 0, 0, 0, 0, 0, 0, 0, 0, 0, 0, 0, 0, 0, 0, 0, 0, 0, 0, 0, 0, 0]))), (q38, .inl (G.2.1, 10, .inr (.inl (tL [0, 1, 0, 1, 0, 1, 0, 1, 0, 1])))), (q59, .inr (12, [.ref q61, .ref q62, .ref q63, .ref q64, .ref q65, .ref q66, .ref q81, .ref q82, .ref q83, .ref q84, .ref q85, .ref q86, .int 0, .ref q87, .ref q88, .ref q89, .int 9, .int 0, .int 0, .ref q67, .ref q90, .ref q68, .int 0, .int 2, .ref q80, .ref q69, .ref q70, .ref q71, .int 0, .ref q72, .int 0, .ref q91, .ref q92, .ref q93, .ref q94, .int 0, .ref q73, .int 0, .int 0, .ref q95, .ref q96, .ref q97, .ref q98, .int 0, .int 0, .int 0, .int 0, .ref q99, .int 0, .ref q100, .ref q101, .ref q102, .ref q103, .int 0, .ref q74, .ref q75, .ref q76, .ref q77, .int 0, .ref q78, .ref q79, .ref q104])), (q80, .inl (G.1, 5, .inl (tI [0, 1, 2, 3, 4])))]) [0, 33, 34, 35, 36, 71, 72] rfl
      have hD := hD.sub (ws' := [(q1, .inr (11, [.ref q3, .ref q26, .ref q28, .ref q35, .ref q39, .ref q43, .ref q46, .ref q52])), (q35, .inr (0, [.ref q32, .ref q36, .ref q37, .ref q38, .ref q33, .ref q34, .int 2, .int 0, .int 0])), (q36, .inl (G.1, 5, .inl (tI [0, 1, 2, 3, 4]))), (q37, .inl (G.1, 25, .inl (tI [0, 0, 0, 0, 0, 0, 0, 0, 0, 0, 0, 0, 0, 0, 0, 0, 0, 0, 0, 0, 0, 0, 0, 0, 0]))), (q38, .inl (G.2.1, 10, .inr (.inl (tL [0, 1, 0, 1, 0, 1, 0, 1, 0, 1])))), (q59, .inr (12, [.ref q61, .ref q62, .ref q63, .ref q64, .ref q65, .ref q66, .ref q81, .ref q82, .ref q83, .ref q84, .ref q85, .ref q86, .int 0, .ref q87, .ref q88, .ref q89, .int 9, .int 0, .int 0, .ref q67, .ref q90, .ref q68, .int 0, .int 2, .ref q80, .ref q69, .ref q70, .ref q71, .int 0, .ref q72, .int 0, .ref q91, .ref q92, .ref q93, .ref q94, .int 0, .ref q73, .int 0, .int 0, .ref q95, .ref q96, .ref q97, .ref q98, .int 0, .int 0, .int 0, .int 0, .ref q99, .int 0, .ref q100, .ref q101, .ref q102, .ref q103, .int 0, .ref q74, .ref q75, .ref q76, .ref q77, .int 0, .ref q78, .ref q79, .ref q104])), (q80, .inl (G.1, 5, .inl (tI [0, 1, 2, 3, 4])))]) [0, 33, 34, 35, 36, 71, 72] (by decide) rfl
      refine lv_aload_n hx hb dL_law_1047 rfl (lv_at hl 3 rfl) ?_
      refine lv_aload_n hx hb dL_law_1048 rfl (lv_at hl 4 rfl) ?_
      refine lv_iload hx hb dL_law_1049 (lv_at hl 0 rfl) ?_
      refine lv_iconst (v := 1) hx hb dL_law_1051 (by decide) ?_
      refine lv_iadd hx hb dL_law_1052 ?_
      refine wk_i 1 (by decide) ?_
      refine va_sld hx hb hX hbl hbA hS (wk_in rfl) dL_law_1053 ?_
      refine wk_i (xs 1) rfl ?_
      have hPc := hP.sub (ws' := [(q1, .inr (11, [.ref q3, .ref q26, .ref q28, .ref q35, .ref q39, .ref q43, .ref q46, .ref q52])), (q35, .inr (0, [.ref q32, .ref q36, .ref q37, .ref q38, .ref q33, .ref q34, .int 2, .int 0, .int 0])), (q36, .inl (G.1, 5, .inl (tI [0, 1, 2, 3, 4]))), (q37, .inl (G.1, 25, .inl (tI [0, 0, 0, 0, 0, 0, 0, 0, 0, 0, 0, 0, 0, 0, 0, 0, 0, 0, 0, 0, 0, 0, 0, 0, 0]))), (q38, .inl (G.2.1, 10, .inr (.inl (tL [0, 1, 0, 1, 0, 1, 0, 1, 0, 1]))))]) [0, 1, 2, 3, 4] rfl
      have hDc := hD.sub (ws' := [(q1, .inr (11, [.ref q3, .ref q26, .ref q28, .ref q35, .ref q39, .ref q43, .ref q46, .ref q52])), (q35, .inr (0, [.ref q32, .ref q36, .ref q37, .ref q38, .ref q33, .ref q34, .int 2, .int 0, .int 0])), (q36, .inl (G.1, 5, .inl (tI [0, 1, 2, 3, 4]))), (q37, .inl (G.1, 25, .inl (tI [0, 0, 0, 0, 0, 0, 0, 0, 0, 0, 0, 0, 0, 0, 0, 0, 0, 0, 0, 0, 0, 0, 0, 0, 0]))), (q38, .inl (G.2.1, 10, .inr (.inl (tL [0, 1, 0, 1, 0, 1, 0, 1, 0, 1]))))]) [0, 1, 2, 3, 4] (by decide) rfl
      have hFc := va_free (wc := [(q1, .inr (11, [.ref q3, .ref q26, .ref q28, .ref q35, .ref q39, .ref q43, .ref q46, .ref q52])), (q35, .inr (0, [.ref q32, .ref q36, .ref q37, .ref q38, .ref q33, .ref q34, .int 2, .int 0, .int 0])), (q36, .inl (G.1, 5, .inl (tI [0, 1, 2, 3, 4]))), (q37, .inl (G.1, 25, .inl (tI [0, 0, 0, 0, 0, 0, 0, 0, 0, 0, 0, 0, 0, 0, 0, 0, 0, 0, 0, 0, 0, 0, 0, 0, 0]))), (q38, .inl (G.2.1, 10, .inr (.inl (tL [0, 1, 0, 1, 0, 1, 0, 1, 0, 1]))))]) hD hS hA [0, 1, 2, 3, 4] rfl
      refine va_calli (va_runV (As := [.int (xs 1)]) (rest := []) ⟨hx, hb, hml, hown, hts⟩ (kX11_bars l D G q1 (xs 1) q3 q26 q28 q35 q39 q43 q46 q52 q32 q36 q37 q38 q33 q34 H.size) (cwV 1 hts gL_law_X11_bars rfl rfl rfl (by decide +kernel) ⟨Nat.le_of_ble_eq_true rfl, Nat.le_of_ble_eq_true rfl⟩) ⟨wB_blind, va_recv hK hPc (ci := 11) (q0 := 0) rfl rfl, wB_pre hPc hK hDc hN⟩ rfl rfl hl.1 rfl (lv_room (Nat.le_of_ble_eq_true rfl)) dL_law_1054 ⟨Nat.le_of_ble_eq_true rfl, Nat.le_of_ble_eq_true rfl⟩) hS (fun q _ h => hFc q h) hFc (fun r172 u t H1 locs ht hvm hr172 hB hz1 hk1 hS => ?_)
      obtain ⟨hP, hD⟩ := va_join (wr := [(q59, .inr (12, [.ref q61, .ref q62, .ref q63, .ref q64, .ref q65, .ref q66, .ref q81, .ref q82, .ref q83, .ref q84, .ref q85, .ref q86, .int 0, .ref q87, .ref q88, .ref q89, .int 9, .int 0, .int 0, .ref q67, .ref q90, .ref q68, .int 0, .int 2, .ref q80, .ref q69, .ref q70, .ref q71, .int 0, .ref q72, .int 0, .ref q91, .ref q92, .ref q93, .ref q94, .int 0, .ref q73, .int 0, .int 0, .ref q95, .ref q96, .ref q97, .ref q98, .int 0, .int 0, .int 0, .int 0, .ref q99, .int 0, .ref q100, .ref q101, .ref q102, .ref q103, .int 0, .ref q74, .ref q75, .ref q76, .ref q77, .int 0, .ref q78, .ref q79, .ref q104])), (q80, .inl (G.1, 5, .inl (tI [0, 1, 2, 3, 4])))]) (w1 := []) hP hD [0, 1, 2, 3, 4] [5, 6] rfl rfl (by decide) (by decide) hk1 hFc wP_nil wD_nil
      clear hPc hDc
      generalize H1 = H at hP hS ⊢
      have hP : va_P D vwCl [(q59, .inr (12, [.ref q61, .ref q62, .ref q63, .ref q64, .ref q65, .ref q66, .ref q81, .ref q82, .ref q83, .ref q84, .ref q85, .ref q86, .int 0, .ref q87, .ref q88, .ref q89, .int 9, .int 0, .int 0, .ref q67, .ref q90, .ref q68, .int 0, .int 2, .ref q80, .ref q69, .ref q70, .ref q71, .int 0, .ref q72, .int 0, .ref q91, .ref q92, .ref q93, .ref q94, .int 0, .ref q73, .int 0, .int 0, .ref q95, .ref q96, .ref q97, .ref q98, .int 0, .int 0, .int 0, .int 0, .ref q99, .int 0, .ref q100, .ref q101, .ref q102, .ref q103, .int 0, .ref q74, .ref q75, .ref q76, .ref q77, .int 0, .ref q78, .ref q79, .ref q104])), (q80, .inl (G.1, 5, .inl (tI [0, 1, 2, 3, 4])))] H := hP
      have hD : va_D A [(q59, .inr (12, [.ref q61, .ref q62, .ref q63, .ref q64, .ref q65, .ref q66, .ref q81, .ref q82, .ref q83, .ref q84, .ref q85, .ref q86, .int 0, .ref q87, .ref q88, .ref q89, .int 9, .int 0, .int 0, .ref q67, .ref q90, .ref q68, .int 0, .int 2, .ref q80, .ref q69, .ref q70, .ref q71, .int 0, .ref q72, .int 0, .ref q91, .ref q92, .ref q93, .ref q94, .int 0, .ref q73, .int 0, .int 0, .ref q95, .ref q96, .ref q97, .ref q98, .int 0, .int 0, .int 0, .int 0, .ref q99, .int 0, .ref q100, .ref q101, .ref q102, .ref q103, .int 0, .ref q74, .ref q75, .ref q76, .ref q77, .int 0, .ref q78, .ref q79, .ref q104])), (q80, .inl (G.1, 5, .inl (tI [0, 1, 2, 3, 4])))] := hD
      refine lv_aload_n hx hb dL_law_1057 rfl (lv_at hl 2 rfl) ?_
      refine lv_aload_n hx hb dL_law_1058 rfl (lv_at hl 4 rfl) ?_
      refine lv_iload hx hb dL_law_1059 (lv_at hl 0 rfl) ?_
      refine lv_iconst (v := 1) hx hb dL_law_1061 (by decide) ?_
      refine lv_iadd hx hb dL_law_1062 ?_
      refine wk_i 1 (by decide) ?_
      refine va_sld hx hb hX hbl hbA hS (wk_in rfl) dL_law_1063 ?_
      refine wk_i (xs 1) rfl ?_
      have hPc := hP.sub (ws' := [(q59, .inr (12, [.ref q61, .ref q62, .ref q63, .ref q64, .ref q65, .ref q66, .ref q81, .ref q82, .ref q83, .ref q84, .ref q85, .ref q86, .int 0, .ref q87, .ref q88, .ref q89, .int 9, .int 0, .int 0, .ref q67, .ref q90, .ref q68, .int 0, .int 2, .ref q80, .ref q69, .ref q70, .ref q71, .int 0, .ref q72, .int 0, .ref q91, .ref q92, .ref q93, .ref q94, .int 0, .ref q73, .int 0, .int 0, .ref q95, .ref q96, .ref q97, .ref q98, .int 0, .int 0, .int 0, .int 0, .ref q99, .int 0, .ref q100, .ref q101, .ref q102, .ref q103, .int 0, .ref q74, .ref q75, .ref q76, .ref q77, .int 0, .ref q78, .ref q79, .ref q104])), (q80, .inl (G.1, 5, .inl (tI [0, 1, 2, 3, 4])))]) [0, 1] rfl
      have hDc := hD.sub (ws' := [(q59, .inr (12, [.ref q61, .ref q62, .ref q63, .ref q64, .ref q65, .ref q66, .ref q81, .ref q82, .ref q83, .ref q84, .ref q85, .ref q86, .int 0, .ref q87, .ref q88, .ref q89, .int 9, .int 0, .int 0, .ref q67, .ref q90, .ref q68, .int 0, .int 2, .ref q80, .ref q69, .ref q70, .ref q71, .int 0, .ref q72, .int 0, .ref q91, .ref q92, .ref q93, .ref q94, .int 0, .ref q73, .int 0, .int 0, .ref q95, .ref q96, .ref q97, .ref q98, .int 0, .int 0, .int 0, .int 0, .ref q99, .int 0, .ref q100, .ref q101, .ref q102, .ref q103, .int 0, .ref q74, .ref q75, .ref q76, .ref q77, .int 0, .ref q78, .ref q79, .ref q104])), (q80, .inl (G.1, 5, .inl (tI [0, 1, 2, 3, 4])))]) [0, 1] (by decide) rfl
      have hFc := va_free (wc := [(q59, .inr (12, [.ref q61, .ref q62, .ref q63, .ref q64, .ref q65, .ref q66, .ref q81, .ref q82, .ref q83, .ref q84, .ref q85, .ref q86, .int 0, .ref q87, .ref q88, .ref q89, .int 9, .int 0, .int 0, .ref q67, .ref q90, .ref q68, .int 0, .int 2, .ref q80, .ref q69, .ref q70, .ref q71, .int 0, .ref q72, .int 0, .ref q91, .ref q92, .ref q93, .ref q94, .int 0, .ref q73, .int 0, .int 0, .ref q95, .ref q96, .ref q97, .ref q98, .int 0, .int 0, .int 0, .int 0, .ref q99, .int 0, .ref q100, .ref q101, .ref q102, .ref q103, .int 0, .ref q74, .ref q75, .ref q76, .ref q77, .int 0, .ref q78, .ref q79, .ref q104])), (q80, .inl (G.1, 5, .inl (tI [0, 1, 2, 3, 4])))]) hD hS hA [0, 1] rfl
      refine va_calli (va_runV (As := [.int (xs 1)]) (rest := [.int r172]) ⟨hx, hb, hml, hown, hts⟩ (kX12_bars l D G q59 (xs 1) q61 q62 q63 q64 q65 q66 q81 q82 q83 q84 q85 q86 q87 q88 q89 q67 q90 q68 q80 q69 q70 q71 q72 q91 q92 q93 q94 q73 q95 q96 q97 q98 q99 q100 q101 q102 q103 q74 q75 q76 q77 q78 q79 q104 H.size) (cwV 1 hts gL_law_X12_bars rfl rfl rfl (by decide +kernel) ⟨Nat.le_of_ble_eq_true rfl, Nat.le_of_ble_eq_true rfl⟩) ⟨wB_blind, va_recv hK hPc (ci := 12) (q0 := 0) rfl rfl, wB_pre hPc hK hDc hN⟩ rfl rfl hl.1 rfl (lv_room (Nat.le_of_ble_eq_true rfl)) dL_law_1064 ⟨Nat.le_of_ble_eq_true rfl, Nat.le_of_ble_eq_true rfl⟩) hS (fun q _ h => hFc q h) hFc (fun r173 u t H1 locs ht hvm hr173 hB hz1 hk1 hS => ?_)
      obtain ⟨hP, hD⟩ := va_join (wr := []) (w1 := []) hP hD [0, 1] [] rfl rfl (by decide) (by decide) hk1 hFc wP_nil wD_nil
      clear hPc hDc
      generalize H1 = H at hP hS ⊢
      have hP : va_P D vwCl [] H := hP
      have hD : va_D A [] := hD
      refine lv_icmp_eq (tgt := 1531) hx hb dL_law_1067 (by decide) (fun _ => ?_) (fun h9 => absurd (Eq.trans hr172 (Eq.symm hr173)) h9)
      refine lv_iinc (v := 7) (lv' := [(4, .int 7), (3, .ref q105), (2, .ref q59), (1, .ref q1), (0, .ref b)]) hx hb dL_law_1531 hl (k := 0) rfl (by decide) (by decide) rfl (fun ls hl => ?_)
      refine lv_goto (tgt := 23) hx hb dL_law_1534 (by decide) ?_
      refine lv_iload hx hb dL_law_23 (lv_at hl 0 rfl) ?_
      refine lv_aload_n hx hb dL_law_25 rfl (lv_at hl 4 rfl) ?_
      refine va_slen hx hb hX hbl hbA hS dL_law_26 ?_
      refine wk_i 7 rfl ?_
      refine lv_bipush (v := 7) hx hb dL_law_27 (by decide) ?_
      refine lv_isub hx hb dL_law_29 ?_
      refine wk_i 0 (by decide) ?_
      refine lv_icmp_gt (tgt := 1537) hx hb dL_law_30 (by decide) (fun _ => ?_) (fun h9 => absurd h9 (by decide))
      refine lv_iconst (v := 1) hx hb dL_law_1537 (by decide) ?_
      refine va_forget (fun q hq => by have h9 := hS.2.2 q hq; rw [hAe] at h9; exact h9) ?_
      refine W.widen (k := 600002) (n := 7302232) (by omega) (by omega) ?_
      exact lw_ret hx hb hr hlocks dL_law_1538
    by_cases s174 : vs = 20
    · subst s174
      refine lv_tableIn (off := 1032) (tgt := 1072) hx hb dL_law_40 (by decide) (by decide) (by decide) (by decide) ?_
      have hP := hP.sub (ws' := [(q1, .inr (11, [.ref q3, .ref q26, .ref q28, .ref q35, .ref q39, .ref q43, .ref q46, .ref q52])), (q32, .inl (G.1, 40, .inl (fun _ => 0))), (q35, .inr (0, [.ref q32, .ref q36, .ref q37, .ref q38, .ref q33, .ref q34, .int 2, .int 0, .int 0])), (q36, .inl (G.1, 5, .inl (tI [0, 1, 2, 3, 4]))), (q37, .inl (G.1, 25, .inl (tI [0, 0, 0, 0, 0, 0, 0, 0, 0, 0, 0, 0, 0, 0, 0, 0, 0, 0, 0, 0, 0, 0, 0, 0, 0]))), (q38, .inl (G.2.1, 10, .inr (.inl (tL [0, 1, 0, 1, 0, 1, 0, 1, 0, 1])))), (q69, .inl (G.1, 40, .inl (fun _ => 0))), (q70, .inl (G.1, 40, .inl (fun _ => 0))), (q71, .inl (G.1, 40, .inl (fun _ => 0))), (q59, .inr (12, [.ref q61, .ref q62, .ref q63, .ref q64, .ref q65, .ref q66, .ref q81, .ref q82, .ref q83, .ref q84, .ref q85, .ref q86, .int 0, .ref q87, .ref q88, .ref q89, .int 9, .int 0, .int 0, .ref q67, .ref q90, .ref q68, .int 0, .int 2, .ref q80, .ref q69, .ref q70, .ref q71, .int 0, .ref q72, .int 0, .ref q91, .ref q92, .ref q93, .ref q94, .int 0, .ref q73, .int 0, .int 0, .ref q95, .ref q96, .ref q97, .ref q98, .int 0, .int 0, .int 0, .int 0, .ref q99, .int 0, .ref q100, .ref q101, .ref q102, .ref q103, .int 0, .ref q74, .ref q75, .ref q76, .ref q77, .int 0, .ref q78, .ref q79, .ref q104])), (q80, .inl (G.1, 5, .inl (tI [0, 1, 2, 3, 4])))]) [0, 30, 33, 34, 35, 36, 60, 61, 62, 71, 72] rfl
      have hD := hD.sub (ws' := [(q1, .inr (11, [.ref q3, .ref q26, .ref q28, .ref q35, .ref q39, .ref q43, .ref q46, .ref q52])), (q32, .inl (G.1, 40, .inl (fun _ => 0))), (q35, .inr (0, [.ref q32, .ref q36, .ref q37, .ref q38, .ref q33, .ref q34, .int 2, .int 0, .int 0])), (q36, .inl (G.1, 5, .inl (tI [0, 1, 2, 3, 4]))), (q37, .inl (G.1, 25, .inl (tI [0, 0, 0, 0, 0, 0, 0, 0, 0, 0, 0, 0, 0, 0, 0, 0, 0, 0, 0, 0, 0, 0, 0, 0, 0]))), (q38, .inl (G.2.1, 10, .inr (.inl (tL [0, 1, 0, 1, 0, 1, 0, 1, 0, 1])))), (q69, .inl (G.1, 40, .inl (fun _ => 0))), (q70, .inl (G.1, 40, .inl (fun _ => 0))), (q71, .inl (G.1, 40, .inl (fun _ => 0))), (q59, .inr (12, [.ref q61, .ref q62, .ref q63, .ref q64, .ref q65, .ref q66, .ref q81, .ref q82, .ref q83, .ref q84, .ref q85, .ref q86, .int 0, .ref q87, .ref q88, .ref q89, .int 9, .int 0, .int 0, .ref q67, .ref q90, .ref q68, .int 0, .int 2, .ref q80, .ref q69, .ref q70, .ref q71, .int 0, .ref q72, .int 0, .ref q91, .ref q92, .ref q93, .ref q94, .int 0, .ref q73, .int 0, .int 0, .ref q95, .ref q96, .ref q97, .ref q98, .int 0, .int 0, .int 0, .int 0, .ref q99, .int 0, .ref q100, .ref q101, .ref q102, .ref q103, .int 0, .ref q74, .ref q75, .ref q76, .ref q77, .int 0, .ref q78, .ref q79, .ref q104])), (q80, .inl (G.1, 5, .inl (tI [0, 1, 2, 3, 4])))]) [0, 30, 33, 34, 35, 36, 60, 61, 62, 71, 72] (by decide) rfl
      refine lv_aload_n hx hb dL_law_1072 rfl (lv_at hl 3 rfl) ?_
      refine lv_aload_n hx hb dL_law_1073 rfl (lv_at hl 4 rfl) ?_
      refine lv_iload hx hb dL_law_1074 (lv_at hl 0 rfl) ?_
      refine lv_iconst (v := 1) hx hb dL_law_1076 (by decide) ?_
      refine lv_iadd hx hb dL_law_1077 ?_
      refine wk_i 1 (by decide) ?_
      refine va_sld hx hb hX hbl hbA hS (wk_in rfl) dL_law_1078 ?_
      refine wk_i (xs 1) rfl ?_
      have hPc := hP.sub (ws' := [(q1, .inr (11, [.ref q3, .ref q26, .ref q28, .ref q35, .ref q39, .ref q43, .ref q46, .ref q52])), (q35, .inr (0, [.ref q32, .ref q36, .ref q37, .ref q38, .ref q33, .ref q34, .int 2, .int 0, .int 0])), (q32, .inl (G.1, 40, .inl (fun _ => 0))), (q36, .inl (G.1, 5, .inl (tI [0, 1, 2, 3, 4]))), (q37, .inl (G.1, 25, .inl (tI [0, 0, 0, 0, 0, 0, 0, 0, 0, 0, 0, 0, 0, 0, 0, 0, 0, 0, 0, 0, 0, 0, 0, 0, 0]))), (q38, .inl (G.2.1, 10, .inr (.inl (tL [0, 1, 0, 1, 0, 1, 0, 1, 0, 1]))))]) [0, 2, 1, 3, 4, 5] rfl
      have hDc := hD.sub (ws' := [(q1, .inr (11, [.ref q3, .ref q26, .ref q28, .ref q35, .ref q39, .ref q43, .ref q46, .ref q52])), (q35, .inr (0, [.ref q32, .ref q36, .ref q37, .ref q38, .ref q33, .ref q34, .int 2, .int 0, .int 0])), (q32, .inl (G.1, 40, .inl (fun _ => 0))), (q36, .inl (G.1, 5, .inl (tI [0, 1, 2, 3, 4]))), (q37, .inl (G.1, 25, .inl (tI [0, 0, 0, 0, 0, 0, 0, 0, 0, 0, 0, 0, 0, 0, 0, 0, 0, 0, 0, 0, 0, 0, 0, 0, 0]))), (q38, .inl (G.2.1, 10, .inr (.inl (tL [0, 1, 0, 1, 0, 1, 0, 1, 0, 1]))))]) [0, 2, 1, 3, 4, 5] (by decide) rfl
      have hFc := va_free (wc := [(q1, .inr (11, [.ref q3, .ref q26, .ref q28, .ref q35, .ref q39, .ref q43, .ref q46, .ref q52])), (q35, .inr (0, [.ref q32, .ref q36, .ref q37, .ref q38, .ref q33, .ref q34, .int 2, .int 0, .int 0])), (q32, .inl (G.1, 40, .inl (fun _ => 0))), (q36, .inl (G.1, 5, .inl (tI [0, 1, 2, 3, 4]))), (q37, .inl (G.1, 25, .inl (tI [0, 0, 0, 0, 0, 0, 0, 0, 0, 0, 0, 0, 0, 0, 0, 0, 0, 0, 0, 0, 0, 0, 0, 0, 0]))), (q38, .inl (G.2.1, 10, .inr (.inl (tL [0, 1, 0, 1, 0, 1, 0, 1, 0, 1]))))]) hD hS hA [0, 2, 1, 3, 4, 5] rfl
      refine va_calli (va_runV (As := [.int (xs 1)]) (rest := []) ⟨hx, hb, hml, hown, hts⟩ (kX11_pass l D G q1 (xs 1) q3 q26 q28 q35 q39 q43 q46 q52 q32 q36 q37 q38 q33 q34 H.size) (cwV 1 hts gL_law_X11_pass rfl rfl rfl (by decide +kernel) ⟨Nat.le_of_ble_eq_true rfl, Nat.le_of_ble_eq_true rfl⟩) ⟨wB_blind, va_recv hK hPc (ci := 11) (q0 := 0) rfl rfl, wB_pre hPc hK hDc hN⟩ rfl rfl hl.1 rfl (lv_room (Nat.le_of_ble_eq_true rfl)) dL_law_1079 ⟨Nat.le_of_ble_eq_true rfl, Nat.le_of_ble_eq_true rfl⟩) hS (fun q _ h => hFc q h) hFc (fun r175 u t H1 locs ht hvm hr175 hB hz1 hk1 hS => ?_)
      obtain ⟨hP, hD⟩ := va_join (wr := [(q69, .inl (G.1, 40, .inl (fun _ => 0))), (q70, .inl (G.1, 40, .inl (fun _ => 0))), (q71, .inl (G.1, 40, .inl (fun _ => 0))), (q59, .inr (12, [.ref q61, .ref q62, .ref q63, .ref q64, .ref q65, .ref q66, .ref q81, .ref q82, .ref q83, .ref q84, .ref q85, .ref q86, .int 0, .ref q87, .ref q88, .ref q89, .int 9, .int 0, .int 0, .ref q67, .ref q90, .ref q68, .int 0, .int 2, .ref q80, .ref q69, .ref q70, .ref q71, .int 0, .ref q72, .int 0, .ref q91, .ref q92, .ref q93, .ref q94, .int 0, .ref q73, .int 0, .int 0, .ref q95, .ref q96, .ref q97, .ref q98, .int 0, .int 0, .int 0, .int 0, .ref q99, .int 0, .ref q100, .ref q101, .ref q102, .ref q103, .int 0, .ref q74, .ref q75, .ref q76, .ref q77, .int 0, .ref q78, .ref q79, .ref q104])), (q80, .inl (G.1, 5, .inl (tI [0, 1, 2, 3, 4])))]) (w1 := []) hP hD [0, 2, 1, 3, 4, 5] [6, 7, 8, 9, 10] rfl rfl (by decide) (by decide) hk1 hFc wP_nil wD_nil
      clear hPc hDc
      generalize H1 = H at hP hS ⊢
      have hP : va_P D vwCl [(q69, .inl (G.1, 40, .inl (fun _ => 0))), (q70, .inl (G.1, 40, .inl (fun _ => 0))), (q71, .inl (G.1, 40, .inl (fun _ => 0))), (q59, .inr (12, [.ref q61, .ref q62, .ref q63, .ref q64, .ref q65, .ref q66, .ref q81, .ref q82, .ref q83, .ref q84, .ref q85, .ref q86, .int 0, .ref q87, .ref q88, .ref q89, .int 9, .int 0, .int 0, .ref q67, .ref q90, .ref q68, .int 0, .int 2, .ref q80, .ref q69, .ref q70, .ref q71, .int 0, .ref q72, .int 0, .ref q91, .ref q92, .ref q93, .ref q94, .int 0, .ref q73, .int 0, .int 0, .ref q95, .ref q96, .ref q97, .ref q98, .int 0, .int 0, .int 0, .int 0, .ref q99, .int 0, .ref q100, .ref q101, .ref q102, .ref q103, .int 0, .ref q74, .ref q75, .ref q76, .ref q77, .int 0, .ref q78, .ref q79, .ref q104])), (q80, .inl (G.1, 5, .inl (tI [0, 1, 2, 3, 4])))] H := hP
      have hD : va_D A [(q69, .inl (G.1, 40, .inl (fun _ => 0))), (q70, .inl (G.1, 40, .inl (fun _ => 0))), (q71, .inl (G.1, 40, .inl (fun _ => 0))), (q59, .inr (12, [.ref q61, .ref q62, .ref q63, .ref q64, .ref q65, .ref q66, .ref q81, .ref q82, .ref q83, .ref q84, .ref q85, .ref q86, .int 0, .ref q87, .ref q88, .ref q89, .int 9, .int 0, .int 0, .ref q67, .ref q90, .ref q68, .int 0, .int 2, .ref q80, .ref q69, .ref q70, .ref q71, .int 0, .ref q72, .int 0, .ref q91, .ref q92, .ref q93, .ref q94, .int 0, .ref q73, .int 0, .int 0, .ref q95, .ref q96, .ref q97, .ref q98, .int 0, .int 0, .int 0, .int 0, .ref q99, .int 0, .ref q100, .ref q101, .ref q102, .ref q103, .int 0, .ref q74, .ref q75, .ref q76, .ref q77, .int 0, .ref q78, .ref q79, .ref q104])), (q80, .inl (G.1, 5, .inl (tI [0, 1, 2, 3, 4])))] := hD
      refine lv_aload_n hx hb dL_law_1082 rfl (lv_at hl 2 rfl) ?_
      refine lv_aload_n hx hb dL_law_1083 rfl (lv_at hl 4 rfl) ?_
      refine lv_iload hx hb dL_law_1084 (lv_at hl 0 rfl) ?_
      refine lv_iconst (v := 1) hx hb dL_law_1086 (by decide) ?_
      refine lv_iadd hx hb dL_law_1087 ?_
      refine wk_i 1 (by decide) ?_
      refine va_sld hx hb hX hbl hbA hS (wk_in rfl) dL_law_1088 ?_
      refine wk_i (xs 1) rfl ?_
      have hPc := hP.sub (ws' := [(q59, .inr (12, [.ref q61, .ref q62, .ref q63, .ref q64, .ref q65, .ref q66, .ref q81, .ref q82, .ref q83, .ref q84, .ref q85, .ref q86, .int 0, .ref q87, .ref q88, .ref q89, .int 9, .int 0, .int 0, .ref q67, .ref q90, .ref q68, .int 0, .int 2, .ref q80, .ref q69, .ref q70, .ref q71, .int 0, .ref q72, .int 0, .ref q91, .ref q92, .ref q93, .ref q94, .int 0, .ref q73, .int 0, .int 0, .ref q95, .ref q96, .ref q97, .ref q98, .int 0, .int 0, .int 0, .int 0, .ref q99, .int 0, .ref q100, .ref q101, .ref q102, .ref q103, .int 0, .ref q74, .ref q75, .ref q76, .ref q77, .int 0, .ref q78, .ref q79, .ref q104])), (q80, .inl (G.1, 5, .inl (tI [0, 1, 2, 3, 4]))), (q69, .inl (G.1, 40, .inl (fun _ => 0))), (q70, .inl (G.1, 40, .inl (fun _ => 0))), (q71, .inl (G.1, 40, .inl (fun _ => 0)))]) [3, 4, 0, 1, 2] rfl
      have hDc := hD.sub (ws' := [(q59, .inr (12, [.ref q61, .ref q62, .ref q63, .ref q64, .ref q65, .ref q66, .ref q81, .ref q82, .ref q83, .ref q84, .ref q85, .ref q86, .int 0, .ref q87, .ref q88, .ref q89, .int 9, .int 0, .int 0, .ref q67, .ref q90, .ref q68, .int 0, .int 2, .ref q80, .ref q69, .ref q70, .ref q71, .int 0, .ref q72, .int 0, .ref q91, .ref q92, .ref q93, .ref q94, .int 0, .ref q73, .int 0, .int 0, .ref q95, .ref q96, .ref q97, .ref q98, .int 0, .int 0, .int 0, .int 0, .ref q99, .int 0, .ref q100, .ref q101, .ref q102, .ref q103, .int 0, .ref q74, .ref q75, .ref q76, .ref q77, .int 0, .ref q78, .ref q79, .ref q104])), (q80, .inl (G.1, 5, .inl (tI [0, 1, 2, 3, 4]))), (q69, .inl (G.1, 40, .inl (fun _ => 0))), (q70, .inl (G.1, 40, .inl (fun _ => 0))), (q71, .inl (G.1, 40, .inl (fun _ => 0)))]) [3, 4, 0, 1, 2] (by decide) rfl
      have hFc := va_free (wc := [(q59, .inr (12, [.ref q61, .ref q62, .ref q63, .ref q64, .ref q65, .ref q66, .ref q81, .ref q82, .ref q83, .ref q84, .ref q85, .ref q86, .int 0, .ref q87, .ref q88, .ref q89, .int 9, .int 0, .int 0, .ref q67, .ref q90, .ref q68, .int 0, .int 2, .ref q80, .ref q69, .ref q70, .ref q71, .int 0, .ref q72, .int 0, .ref q91, .ref q92, .ref q93, .ref q94, .int 0, .ref q73, .int 0, .int 0, .ref q95, .ref q96, .ref q97, .ref q98, .int 0, .int 0, .int 0, .int 0, .ref q99, .int 0, .ref q100, .ref q101, .ref q102, .ref q103, .int 0, .ref q74, .ref q75, .ref q76, .ref q77, .int 0, .ref q78, .ref q79, .ref q104])), (q80, .inl (G.1, 5, .inl (tI [0, 1, 2, 3, 4]))), (q69, .inl (G.1, 40, .inl (fun _ => 0))), (q70, .inl (G.1, 40, .inl (fun _ => 0))), (q71, .inl (G.1, 40, .inl (fun _ => 0)))]) hD hS hA [3, 4, 0, 1, 2] rfl
      refine va_calli (va_runV (As := [.int (xs 1)]) (rest := [.int r175]) ⟨hx, hb, hml, hown, hts⟩ (kX12_pass l D G q59 (xs 1) q61 q62 q63 q64 q65 q66 q81 q82 q83 q84 q85 q86 q87 q88 q89 q67 q90 q68 q80 q69 q70 q71 q72 q91 q92 q93 q94 q73 q95 q96 q97 q98 q99 q100 q101 q102 q103 q74 q75 q76 q77 q78 q79 q104 H.size) (cwV 1 hts gL_law_X12_pass rfl rfl rfl (by decide +kernel) ⟨Nat.le_of_ble_eq_true rfl, Nat.le_of_ble_eq_true rfl⟩) ⟨wB_blind, va_recv hK hPc (ci := 12) (q0 := 0) rfl rfl, wB_pre hPc hK hDc hN⟩ rfl rfl hl.1 rfl (lv_room (Nat.le_of_ble_eq_true rfl)) dL_law_1089 ⟨Nat.le_of_ble_eq_true rfl, Nat.le_of_ble_eq_true rfl⟩) hS (fun q _ h => hFc q h) hFc (fun r176 u t H1 locs ht hvm hr176 hB hz1 hk1 hS => ?_)
      obtain ⟨hP, hD⟩ := va_join (wr := []) (w1 := []) hP hD [3, 4, 0, 1, 2] [] rfl rfl (by decide) (by decide) hk1 hFc wP_nil wD_nil
      clear hPc hDc
      generalize H1 = H at hP hS ⊢
      have hP : va_P D vwCl [] H := hP
      have hD : va_D A [] := hD
      refine lv_icmp_eq (tgt := 1531) hx hb dL_law_1092 (by decide) (fun _ => ?_) (fun h9 => absurd (Eq.trans hr175 (Eq.symm hr176)) h9)
      refine lv_iinc (v := 7) (lv' := [(4, .int 7), (3, .ref q105), (2, .ref q59), (1, .ref q1), (0, .ref b)]) hx hb dL_law_1531 hl (k := 0) rfl (by decide) (by decide) rfl (fun ls hl => ?_)
      refine lv_goto (tgt := 23) hx hb dL_law_1534 (by decide) ?_
      refine lv_iload hx hb dL_law_23 (lv_at hl 0 rfl) ?_
      refine lv_aload_n hx hb dL_law_25 rfl (lv_at hl 4 rfl) ?_
      refine va_slen hx hb hX hbl hbA hS dL_law_26 ?_
      refine wk_i 7 rfl ?_
      refine lv_bipush (v := 7) hx hb dL_law_27 (by decide) ?_
      refine lv_isub hx hb dL_law_29 ?_
      refine wk_i 0 (by decide) ?_
      refine lv_icmp_gt (tgt := 1537) hx hb dL_law_30 (by decide) (fun _ => ?_) (fun h9 => absurd h9 (by decide))
      refine lv_iconst (v := 1) hx hb dL_law_1537 (by decide) ?_
      refine va_forget (fun q hq => by have h9 := hS.2.2 q hq; rw [hAe] at h9; exact h9) ?_
      refine W.widen (k := 600002) (n := 7302232) (by omega) (by omega) ?_
      exact lw_ret hx hb hr hlocks dL_law_1538
    by_cases s177 : vs = 21
    · subst s177
      refine lv_tableIn (off := 1057) (tgt := 1097) hx hb dL_law_40 (by decide) (by decide) (by decide) (by decide) ?_
      have hP := hP.sub (ws' := [(q1, .inr (11, [.ref q3, .ref q26, .ref q28, .ref q35, .ref q39, .ref q43, .ref q46, .ref q52])), (q35, .inr (0, [.ref q32, .ref q36, .ref q37, .ref q38, .ref q33, .ref q34, .int 2, .int 0, .int 0])), (q59, .inr (12, [.ref q61, .ref q62, .ref q63, .ref q64, .ref q65, .ref q66, .ref q81, .ref q82, .ref q83, .ref q84, .ref q85, .ref q86, .int 0, .ref q87, .ref q88, .ref q89, .int 9, .int 0, .int 0, .ref q67, .ref q90, .ref q68, .int 0, .int 2, .ref q80, .ref q69, .ref q70, .ref q71, .int 0, .ref q72, .int 0, .ref q91, .ref q92, .ref q93, .ref q94, .int 0, .ref q73, .int 0, .int 0, .ref q95, .ref q96, .ref q97, .ref q98, .int 0, .int 0, .int 0, .int 0, .ref q99, .int 0, .ref q100, .ref q101, .ref q102, .ref q103, .int 0, .ref q74, .ref q75, .ref q76, .ref q77, .int 0, .ref q78, .ref q79, .ref q104]))]) [0, 33, 71] rfl
      have hD := hD.sub (ws' := [(q1, .inr (11, [.ref q3, .ref q26, .ref q28, .ref q35, .ref q39, .ref q43, .ref q46, .ref q52])), (q35, .inr (0, [.ref q32, .ref q36, .ref q37, .ref q38, .ref q33, .ref q34, .int 2, .int 0, .int 0])), (q59, .inr (12, [.ref q61, .ref q62, .ref q63, .ref q64, .ref q65, .ref q66, .ref q81, .ref q82, .ref q83, .ref q84, .ref q85, .ref q86, .int 0, .ref q87, .ref q88, .ref q89, .int 9, .int 0, .int 0, .ref q67, .ref q90, .ref q68, .int 0, .int 2, .ref q80, .ref q69, .ref q70, .ref q71, .int 0, .ref q72, .int 0, .ref q91, .ref q92, .ref q93, .ref q94, .int 0, .ref q73, .int 0, .int 0, .ref q95, .ref q96, .ref q97, .ref q98, .int 0, .int 0, .int 0, .int 0, .ref q99, .int 0, .ref q100, .ref q101, .ref q102, .ref q103, .int 0, .ref q74, .ref q75, .ref q76, .ref q77, .int 0, .ref q78, .ref q79, .ref q104]))]) [0, 33, 71] (by decide) rfl
      refine lv_aload_n hx hb dL_law_1097 rfl (lv_at hl 3 rfl) ?_
      have hPc := hP.sub (ws' := [(q1, .inr (11, [.ref q3, .ref q26, .ref q28, .ref q35, .ref q39, .ref q43, .ref q46, .ref q52])), (q35, .inr (0, [.ref q32, .ref q36, .ref q37, .ref q38, .ref q33, .ref q34, .int 2, .int 0, .int 0]))]) [0, 1] rfl
      have hDc := hD.sub (ws' := [(q1, .inr (11, [.ref q3, .ref q26, .ref q28, .ref q35, .ref q39, .ref q43, .ref q46, .ref q52])), (q35, .inr (0, [.ref q32, .ref q36, .ref q37, .ref q38, .ref q33, .ref q34, .int 2, .int 0, .int 0]))]) [0, 1] (by decide) rfl
      have hFc := va_free (wc := [(q1, .inr (11, [.ref q3, .ref q26, .ref q28, .ref q35, .ref q39, .ref q43, .ref q46, .ref q52])), (q35, .inr (0, [.ref q32, .ref q36, .ref q37, .ref q38, .ref q33, .ref q34, .int 2, .int 0, .int 0]))]) hD hS hA [0, 1] rfl
      refine va_calli (va_runV (As := []) (rest := []) ⟨hx, hb, hml, hown, hts⟩ (kX11_back l D G q1 q3 q26 q28 q35 q39 q43 q46 q52 q32 q36 q37 q38 q33 q34 H.size) (cwV 0 hts gL_law_X11_back rfl rfl rfl (by decide +kernel) ⟨Nat.le_of_ble_eq_true rfl, Nat.le_of_ble_eq_true rfl⟩) ⟨wB_blind, va_recv hK hPc (ci := 11) (q0 := 0) rfl rfl, wB_pre hPc hK hDc hN⟩ rfl rfl hl.1 rfl (lv_room (Nat.le_of_ble_eq_true rfl)) dL_law_1098 ⟨Nat.le_of_ble_eq_true rfl, Nat.le_of_ble_eq_true rfl⟩) hS (fun q _ h => hFc q h) hFc (fun r178 u t H1 locs ht hvm hr178 hB hz1 hk1 hS => ?_)
      obtain ⟨hP, hD⟩ := va_join (wr := [(q59, .inr (12, [.ref q61, .ref q62, .ref q63, .ref q64, .ref q65, .ref q66, .ref q81, .ref q82, .ref q83, .ref q84, .ref q85, .ref q86, .int 0, .ref q87, .ref q88, .ref q89, .int 9, .int 0, .int 0, .ref q67, .ref q90, .ref q68, .int 0, .int 2, .ref q80, .ref q69, .ref q70, .ref q71, .int 0, .ref q72, .int 0, .ref q91, .ref q92, .ref q93, .ref q94, .int 0, .ref q73, .int 0, .int 0, .ref q95, .ref q96, .ref q97, .ref q98, .int 0, .int 0, .int 0, .int 0, .ref q99, .int 0, .ref q100, .ref q101, .ref q102, .ref q103, .int 0, .ref q74, .ref q75, .ref q76, .ref q77, .int 0, .ref q78, .ref q79, .ref q104]))]) (w1 := []) hP hD [0, 1] [2] rfl rfl (by decide) (by decide) hk1 hFc wP_nil wD_nil
      clear hPc hDc
      generalize H1 = H at hP hS ⊢
      have hP : va_P D vwCl [(q59, .inr (12, [.ref q61, .ref q62, .ref q63, .ref q64, .ref q65, .ref q66, .ref q81, .ref q82, .ref q83, .ref q84, .ref q85, .ref q86, .int 0, .ref q87, .ref q88, .ref q89, .int 9, .int 0, .int 0, .ref q67, .ref q90, .ref q68, .int 0, .int 2, .ref q80, .ref q69, .ref q70, .ref q71, .int 0, .ref q72, .int 0, .ref q91, .ref q92, .ref q93, .ref q94, .int 0, .ref q73, .int 0, .int 0, .ref q95, .ref q96, .ref q97, .ref q98, .int 0, .int 0, .int 0, .int 0, .ref q99, .int 0, .ref q100, .ref q101, .ref q102, .ref q103, .int 0, .ref q74, .ref q75, .ref q76, .ref q77, .int 0, .ref q78, .ref q79, .ref q104]))] H := hP
      have hD : va_D A [(q59, .inr (12, [.ref q61, .ref q62, .ref q63, .ref q64, .ref q65, .ref q66, .ref q81, .ref q82, .ref q83, .ref q84, .ref q85, .ref q86, .int 0, .ref q87, .ref q88, .ref q89, .int 9, .int 0, .int 0, .ref q67, .ref q90, .ref q68, .int 0, .int 2, .ref q80, .ref q69, .ref q70, .ref q71, .int 0, .ref q72, .int 0, .ref q91, .ref q92, .ref q93, .ref q94, .int 0, .ref q73, .int 0, .int 0, .ref q95, .ref q96, .ref q97, .ref q98, .int 0, .int 0, .int 0, .int 0, .ref q99, .int 0, .ref q100, .ref q101, .ref q102, .ref q103, .int 0, .ref q74, .ref q75, .ref q76, .ref q77, .int 0, .ref q78, .ref q79, .ref q104]))] := hD
      subst hr178
      refine lv_aload_n hx hb dL_law_1101 rfl (lv_at hl 2 rfl) ?_
      have hPc := hP.sub (ws' := [(q59, .inr (12, [.ref q61, .ref q62, .ref q63, .ref q64, .ref q65, .ref q66, .ref q81, .ref q82, .ref q83, .ref q84, .ref q85, .ref q86, .int 0, .ref q87, .ref q88, .ref q89, .int 9, .int 0, .int 0, .ref q67, .ref q90, .ref q68, .int 0, .int 2, .ref q80, .ref q69, .ref q70, .ref q71, .int 0, .ref q72, .int 0, .ref q91, .ref q92, .ref q93, .ref q94, .int 0, .ref q73, .int 0, .int 0, .ref q95, .ref q96, .ref q97, .ref q98, .int 0, .int 0, .int 0, .int 0, .ref q99, .int 0, .ref q100, .ref q101, .ref q102, .ref q103, .int 0, .ref q74, .ref q75, .ref q76, .ref q77, .int 0, .ref q78, .ref q79, .ref q104]))]) [0] rfl
      have hDc := hD.sub (ws' := [(q59, .inr (12, [.ref q61, .ref q62, .ref q63, .ref q64, .ref q65, .ref q66, .ref q81, .ref q82, .ref q83, .ref q84, .ref q85, .ref q86, .int 0, .ref q87, .ref q88, .ref q89, .int 9, .int 0, .int 0, .ref q67, .ref q90, .ref q68, .int 0, .int 2, .ref q80, .ref q69, .ref q70, .ref q71, .int 0, .ref q72, .int 0, .ref q91, .ref q92, .ref q93, .ref q94, .int 0, .ref q73, .int 0, .int 0, .ref q95, .ref q96, .ref q97, .ref q98, .int 0, .int 0, .int 0, .int 0, .ref q99, .int 0, .ref q100, .ref q101, .ref q102, .ref q103, .int 0, .ref q74, .ref q75, .ref q76, .ref q77, .int 0, .ref q78, .ref q79, .ref q104]))]) [0] (by decide) rfl
      have hFc := va_free (wc := [(q59, .inr (12, [.ref q61, .ref q62, .ref q63, .ref q64, .ref q65, .ref q66, .ref q81, .ref q82, .ref q83, .ref q84, .ref q85, .ref q86, .int 0, .ref q87, .ref q88, .ref q89, .int 9, .int 0, .int 0, .ref q67, .ref q90, .ref q68, .int 0, .int 2, .ref q80, .ref q69, .ref q70, .ref q71, .int 0, .ref q72, .int 0, .ref q91, .ref q92, .ref q93, .ref q94, .int 0, .ref q73, .int 0, .int 0, .ref q95, .ref q96, .ref q97, .ref q98, .int 0, .int 0, .int 0, .int 0, .ref q99, .int 0, .ref q100, .ref q101, .ref q102, .ref q103, .int 0, .ref q74, .ref q75, .ref q76, .ref q77, .int 0, .ref q78, .ref q79, .ref q104]))]) hD hS hA [0] rfl
      refine va_calli (va_runV (As := []) (rest := [.int 0]) ⟨hx, hb, hml, hown, hts⟩ (kX12_back l D G q59 q61 q62 q63 q64 q65 q66 q81 q82 q83 q84 q85 q86 q87 q88 q89 q67 q90 q68 q80 q69 q70 q71 q72 q91 q92 q93 q94 q73 q95 q96 q97 q98 q99 q100 q101 q102 q103 q74 q75 q76 q77 q78 q79 q104 H.size) (cwV 0 hts gL_law_X12_back rfl rfl rfl (by decide +kernel) ⟨Nat.le_of_ble_eq_true rfl, Nat.le_of_ble_eq_true rfl⟩) ⟨wB_blind, va_recv hK hPc (ci := 12) (q0 := 0) rfl rfl, wB_pre hPc hK hDc hN⟩ rfl rfl hl.1 rfl (lv_room (Nat.le_of_ble_eq_true rfl)) dL_law_1102 ⟨Nat.le_of_ble_eq_true rfl, Nat.le_of_ble_eq_true rfl⟩) hS (fun q _ h => hFc q h) hFc (fun r179 u t H1 locs ht hvm hr179 hB hz1 hk1 hS => ?_)
      obtain ⟨hP, hD⟩ := va_join (wr := []) (w1 := []) hP hD [0] [] rfl rfl (by decide) (by decide) hk1 hFc wP_nil wD_nil
      clear hPc hDc
      generalize H1 = H at hP hS ⊢
      have hP : va_P D vwCl [] H := hP
      have hD : va_D A [] := hD
      subst hr179
      refine lv_icmp_eq (tgt := 1531) hx hb dL_law_1105 (by decide) (fun _ => ?_) (fun h9 => absurd h9 (by decide))
      refine lv_iinc (v := 7) (lv' := [(4, .int 7), (3, .ref q105), (2, .ref q59), (1, .ref q1), (0, .ref b)]) hx hb dL_law_1531 hl (k := 0) rfl (by decide) (by decide) rfl (fun ls hl => ?_)
      refine lv_goto (tgt := 23) hx hb dL_law_1534 (by decide) ?_
      refine lv_iload hx hb dL_law_23 (lv_at hl 0 rfl) ?_
      refine lv_aload_n hx hb dL_law_25 rfl (lv_at hl 4 rfl) ?_
      refine va_slen hx hb hX hbl hbA hS dL_law_26 ?_
      refine wk_i 7 rfl ?_
      refine lv_bipush (v := 7) hx hb dL_law_27 (by decide) ?_
      refine lv_isub hx hb dL_law_29 ?_
      refine wk_i 0 (by decide) ?_
      refine lv_icmp_gt (tgt := 1537) hx hb dL_law_30 (by decide) (fun _ => ?_) (fun h9 => absurd h9 (by decide))
      refine lv_iconst (v := 1) hx hb dL_law_1537 (by decide) ?_
      refine va_forget (fun q hq => by have h9 := hS.2.2 q hq; rw [hAe] at h9; exact h9) ?_
      refine W.widen (k := 600002) (n := 7302232) (by omega) (by omega) ?_
      exact lw_ret hx hb hr hlocks dL_law_1538
    by_cases s180 : vs = 22
    · subst s180
      refine lv_tableIn (off := 1070) (tgt := 1110) hx hb dL_law_40 (by decide) (by decide) (by decide) (by decide) ?_
      have hP := hP.sub (ws' := [(q1, .inr (11, [.ref q3, .ref q26, .ref q28, .ref q35, .ref q39, .ref q43, .ref q46, .ref q52])), (q35, .inr (0, [.ref q32, .ref q36, .ref q37, .ref q38, .ref q33, .ref q34, .int 2, .int 0, .int 0])), (q36, .inl (G.1, 5, .inl (tI [0, 1, 2, 3, 4]))), (q59, .inr (12, [.ref q61, .ref q62, .ref q63, .ref q64, .ref q65, .ref q66, .ref q81, .ref q82, .ref q83, .ref q84, .ref q85, .ref q86, .int 0, .ref q87, .ref q88, .ref q89, .int 9, .int 0, .int 0, .ref q67, .ref q90, .ref q68, .int 0, .int 2, .ref q80, .ref q69, .ref q70, .ref q71, .int 0, .ref q72, .int 0, .ref q91, .ref q92, .ref q93, .ref q94, .int 0, .ref q73, .int 0, .int 0, .ref q95, .ref q96, .ref q97, .ref q98, .int 0, .int 0, .int 0, .int 0, .ref q99, .int 0, .ref q100, .ref q101, .ref q102, .ref q103, .int 0, .ref q74, .ref q75, .ref q76, .ref q77, .int 0, .ref q78, .ref q79, .ref q104])), (q80, .inl (G.1, 5, .inl (tI [0, 1, 2, 3, 4])))]) [0, 33, 34, 71, 72] rfl
      have hD := hD.sub (ws' := [(q1, .inr (11, [.ref q3, .ref q26, .ref q28, .ref q35, .ref q39, .ref q43, .ref q46, .ref q52])), (q35, .inr (0, [.ref q32, .ref q36, .ref q37, .ref q38, .ref q33, .ref q34, .int 2, .int 0, .int 0])), (q36, .inl (G.1, 5, .inl (tI [0, 1, 2, 3, 4]))), (q59, .inr (12, [.ref q61, .ref q62, .ref q63, .ref q64, .ref q65, .ref q66, .ref q81, .ref q82, .ref q83, .ref q84, .ref q85, .ref q86, .int 0, .ref q87, .ref q88, .ref q89, .int 9, .int 0, .int 0, .ref q67, .ref q90, .ref q68, .int 0, .int 2, .ref q80, .ref q69, .ref q70, .ref q71, .int 0, .ref q72, .int 0, .ref q91, .ref q92, .ref q93, .ref q94, .int 0, .ref q73, .int 0, .int 0, .ref q95, .ref q96, .ref q97, .ref q98, .int 0, .int 0, .int 0, .int 0, .ref q99, .int 0, .ref q100, .ref q101, .ref q102, .ref q103, .int 0, .ref q74, .ref q75, .ref q76, .ref q77, .int 0, .ref q78, .ref q79, .ref q104])), (q80, .inl (G.1, 5, .inl (tI [0, 1, 2, 3, 4])))]) [0, 33, 34, 71, 72] (by decide) rfl
      refine lv_aload_n hx hb dL_law_1110 rfl (lv_at hl 3 rfl) ?_
      refine lv_aload_n hx hb dL_law_1111 rfl (lv_at hl 4 rfl) ?_
      refine lv_iload hx hb dL_law_1112 (lv_at hl 0 rfl) ?_
      refine lv_iconst (v := 1) hx hb dL_law_1114 (by decide) ?_
      refine lv_iadd hx hb dL_law_1115 ?_
      refine wk_i 1 (by decide) ?_
      refine va_sld hx hb hX hbl hbA hS (wk_in rfl) dL_law_1116 ?_
      refine wk_i (xs 1) rfl ?_
      have hPc := hP.sub (ws' := [(q1, .inr (11, [.ref q3, .ref q26, .ref q28, .ref q35, .ref q39, .ref q43, .ref q46, .ref q52])), (q35, .inr (0, [.ref q32, .ref q36, .ref q37, .ref q38, .ref q33, .ref q34, .int 2, .int 0, .int 0])), (q36, .inl (G.1, 5, .inl (tI [0, 1, 2, 3, 4])))]) [0, 1, 2] rfl
      have hDc := hD.sub (ws' := [(q1, .inr (11, [.ref q3, .ref q26, .ref q28, .ref q35, .ref q39, .ref q43, .ref q46, .ref q52])), (q35, .inr (0, [.ref q32, .ref q36, .ref q37, .ref q38, .ref q33, .ref q34, .int 2, .int 0, .int 0])), (q36, .inl (G.1, 5, .inl (tI [0, 1, 2, 3, 4])))]) [0, 1, 2] (by decide) rfl
      have hFc := va_free (wc := [(q1, .inr (11, [.ref q3, .ref q26, .ref q28, .ref q35, .ref q39, .ref q43, .ref q46, .ref q52])), (q35, .inr (0, [.ref q32, .ref q36, .ref q37, .ref q38, .ref q33, .ref q34, .int 2, .int 0, .int 0])), (q36, .inl (G.1, 5, .inl (tI [0, 1, 2, 3, 4])))]) hD hS hA [0, 1, 2] rfl
      refine va_calli (va_runV (As := [.int (xs 1)]) (rest := []) ⟨hx, hb, hml, hown, hts⟩ (kX11_bar l D G q1 (xs 1) q3 q26 q28 q35 q39 q43 q46 q52 q32 q36 q37 q38 q33 q34 H.size) (cwV 1 hts gL_law_X11_bar rfl rfl rfl (by decide +kernel) ⟨Nat.le_of_ble_eq_true rfl, Nat.le_of_ble_eq_true rfl⟩) ⟨wB_blind, va_recv hK hPc (ci := 11) (q0 := 0) rfl rfl, wB_pre hPc hK hDc hN⟩ rfl rfl hl.1 rfl (lv_room (Nat.le_of_ble_eq_true rfl)) dL_law_1117 ⟨Nat.le_of_ble_eq_true rfl, Nat.le_of_ble_eq_true rfl⟩) hS (fun q _ h => hFc q h) hFc (fun r181 u t H1 locs ht hvm hr181 hB hz1 hk1 hS => ?_)
      obtain ⟨hP, hD⟩ := va_join (wr := [(q59, .inr (12, [.ref q61, .ref q62, .ref q63, .ref q64, .ref q65, .ref q66, .ref q81, .ref q82, .ref q83, .ref q84, .ref q85, .ref q86, .int 0, .ref q87, .ref q88, .ref q89, .int 9, .int 0, .int 0, .ref q67, .ref q90, .ref q68, .int 0, .int 2, .ref q80, .ref q69, .ref q70, .ref q71, .int 0, .ref q72, .int 0, .ref q91, .ref q92, .ref q93, .ref q94, .int 0, .ref q73, .int 0, .int 0, .ref q95, .ref q96, .ref q97, .ref q98, .int 0, .int 0, .int 0, .int 0, .ref q99, .int 0, .ref q100, .ref q101, .ref q102, .ref q103, .int 0, .ref q74, .ref q75, .ref q76, .ref q77, .int 0, .ref q78, .ref q79, .ref q104])), (q80, .inl (G.1, 5, .inl (tI [0, 1, 2, 3, 4])))]) (w1 := []) hP hD [0, 1, 2] [3, 4] rfl rfl (by decide) (by decide) hk1 hFc wP_nil wD_nil
      clear hPc hDc
      generalize H1 = H at hP hS ⊢
      have hP : va_P D vwCl [(q59, .inr (12, [.ref q61, .ref q62, .ref q63, .ref q64, .ref q65, .ref q66, .ref q81, .ref q82, .ref q83, .ref q84, .ref q85, .ref q86, .int 0, .ref q87, .ref q88, .ref q89, .int 9, .int 0, .int 0, .ref q67, .ref q90, .ref q68, .int 0, .int 2, .ref q80, .ref q69, .ref q70, .ref q71, .int 0, .ref q72, .int 0, .ref q91, .ref q92, .ref q93, .ref q94, .int 0, .ref q73, .int 0, .int 0, .ref q95, .ref q96, .ref q97, .ref q98, .int 0, .int 0, .int 0, .int 0, .ref q99, .int 0, .ref q100, .ref q101, .ref q102, .ref q103, .int 0, .ref q74, .ref q75, .ref q76, .ref q77, .int 0, .ref q78, .ref q79, .ref q104])), (q80, .inl (G.1, 5, .inl (tI [0, 1, 2, 3, 4])))] H := hP
      have hD : va_D A [(q59, .inr (12, [.ref q61, .ref q62, .ref q63, .ref q64, .ref q65, .ref q66, .ref q81, .ref q82, .ref q83, .ref q84, .ref q85, .ref q86, .int 0, .ref q87, .ref q88, .ref q89, .int 9, .int 0, .int 0, .ref q67, .ref q90, .ref q68, .int 0, .int 2, .ref q80, .ref q69, .ref q70, .ref q71, .int 0, .ref q72, .int 0, .ref q91, .ref q92, .ref q93, .ref q94, .int 0, .ref q73, .int 0, .int 0, .ref q95, .ref q96, .ref q97, .ref q98, .int 0, .int 0, .int 0, .int 0, .ref q99, .int 0, .ref q100, .ref q101, .ref q102, .ref q103, .int 0, .ref q74, .ref q75, .ref q76, .ref q77, .int 0, .ref q78, .ref q79, .ref q104])), (q80, .inl (G.1, 5, .inl (tI [0, 1, 2, 3, 4])))] := hD
      refine lv_aload_n hx hb dL_law_1120 rfl (lv_at hl 2 rfl) ?_
      refine lv_aload_n hx hb dL_law_1121 rfl (lv_at hl 4 rfl) ?_
      refine lv_iload hx hb dL_law_1122 (lv_at hl 0 rfl) ?_
      refine lv_iconst (v := 1) hx hb dL_law_1124 (by decide) ?_
      refine lv_iadd hx hb dL_law_1125 ?_
      refine wk_i 1 (by decide) ?_
      refine va_sld hx hb hX hbl hbA hS (wk_in rfl) dL_law_1126 ?_
      refine wk_i (xs 1) rfl ?_
      have hPc := hP.sub (ws' := [(q59, .inr (12, [.ref q61, .ref q62, .ref q63, .ref q64, .ref q65, .ref q66, .ref q81, .ref q82, .ref q83, .ref q84, .ref q85, .ref q86, .int 0, .ref q87, .ref q88, .ref q89, .int 9, .int 0, .int 0, .ref q67, .ref q90, .ref q68, .int 0, .int 2, .ref q80, .ref q69, .ref q70, .ref q71, .int 0, .ref q72, .int 0, .ref q91, .ref q92, .ref q93, .ref q94, .int 0, .ref q73, .int 0, .int 0, .ref q95, .ref q96, .ref q97, .ref q98, .int 0, .int 0, .int 0, .int 0, .ref q99, .int 0, .ref q100, .ref q101, .ref q102, .ref q103, .int 0, .ref q74, .ref q75, .ref q76, .ref q77, .int 0, .ref q78, .ref q79, .ref q104])), (q80, .inl (G.1, 5, .inl (tI [0, 1, 2, 3, 4])))]) [0, 1] rfl
      have hDc := hD.sub (ws' := [(q59, .inr (12, [.ref q61, .ref q62, .ref q63, .ref q64, .ref q65, .ref q66, .ref q81, .ref q82, .ref q83, .ref q84, .ref q85, .ref q86, .int 0, .ref q87, .ref q88, .ref q89, .int 9, .int 0, .int 0, .ref q67, .ref q90, .ref q68, .int 0, .int 2, .ref q80, .ref q69, .ref q70, .ref q71, .int 0, .ref q72, .int 0, .ref q91, .ref q92, .ref q93, .ref q94, .int 0, .ref q73, .int 0, .int 0, .ref q95, .ref q96, .ref q97, .ref q98, .int 0, .int 0, .int 0, .int 0, .ref q99, .int 0, .ref q100, .ref q101, .ref q102, .ref q103, .int 0, .ref q74, .ref q75, .ref q76, .ref q77, .int 0, .ref q78, .ref q79, .ref q104])), (q80, .inl (G.1, 5, .inl (tI [0, 1, 2, 3, 4])))]) [0, 1] (by decide) rfl
      have hFc := va_free (wc := [(q59, .inr (12, [.ref q61, .ref q62, .ref q63, .ref q64, .ref q65, .ref q66, .ref q81, .ref q82, .ref q83, .ref q84, .ref q85, .ref q86, .int 0, .ref q87, .ref q88, .ref q89, .int 9, .int 0, .int 0, .ref q67, .ref q90, .ref q68, .int 0, .int 2, .ref q80, .ref q69, .ref q70, .ref q71, .int 0, .ref q72, .int 0, .ref q91, .ref q92, .ref q93, .ref q94, .int 0, .ref q73, .int 0, .int 0, .ref q95, .ref q96, .ref q97, .ref q98, .int 0, .int 0, .int 0, .int 0, .ref q99, .int 0, .ref q100, .ref q101, .ref q102, .ref q103, .int 0, .ref q74, .ref q75, .ref q76, .ref q77, .int 0, .ref q78, .ref q79, .ref q104])), (q80, .inl (G.1, 5, .inl (tI [0, 1, 2, 3, 4])))]) hD hS hA [0, 1] rfl
      refine va_calli (va_runV (As := [.int (xs 1)]) (rest := [.int r181]) ⟨hx, hb, hml, hown, hts⟩ (kX12_bar l D G q59 (xs 1) q61 q62 q63 q64 q65 q66 q81 q82 q83 q84 q85 q86 q87 q88 q89 q67 q90 q68 q80 q69 q70 q71 q72 q91 q92 q93 q94 q73 q95 q96 q97 q98 q99 q100 q101 q102 q103 q74 q75 q76 q77 q78 q79 q104 H.size) (cwV 1 hts gL_law_X12_bar rfl rfl rfl (by decide +kernel) ⟨Nat.le_of_ble_eq_true rfl, Nat.le_of_ble_eq_true rfl⟩) ⟨wB_blind, va_recv hK hPc (ci := 12) (q0 := 0) rfl rfl, wB_pre hPc hK hDc hN⟩ rfl rfl hl.1 rfl (lv_room (Nat.le_of_ble_eq_true rfl)) dL_law_1127 ⟨Nat.le_of_ble_eq_true rfl, Nat.le_of_ble_eq_true rfl⟩) hS (fun q _ h => hFc q h) hFc (fun r182 u t H1 locs ht hvm hr182 hB hz1 hk1 hS => ?_)
      obtain ⟨hP, hD⟩ := va_join (wr := []) (w1 := []) hP hD [0, 1] [] rfl rfl (by decide) (by decide) hk1 hFc wP_nil wD_nil
      clear hPc hDc
      generalize H1 = H at hP hS ⊢
      have hP : va_P D vwCl [] H := hP
      have hD : va_D A [] := hD
      refine lv_icmp_eq (tgt := 1531) hx hb dL_law_1130 (by decide) (fun _ => ?_) (fun h9 => absurd (Eq.trans hr181 (Eq.symm hr182)) h9)
      refine lv_iinc (v := 7) (lv' := [(4, .int 7), (3, .ref q105), (2, .ref q59), (1, .ref q1), (0, .ref b)]) hx hb dL_law_1531 hl (k := 0) rfl (by decide) (by decide) rfl (fun ls hl => ?_)
      refine lv_goto (tgt := 23) hx hb dL_law_1534 (by decide) ?_
      refine lv_iload hx hb dL_law_23 (lv_at hl 0 rfl) ?_
      refine lv_aload_n hx hb dL_law_25 rfl (lv_at hl 4 rfl) ?_
      refine va_slen hx hb hX hbl hbA hS dL_law_26 ?_
      refine wk_i 7 rfl ?_
      refine lv_bipush (v := 7) hx hb dL_law_27 (by decide) ?_
      refine lv_isub hx hb dL_law_29 ?_
      refine wk_i 0 (by decide) ?_
      refine lv_icmp_gt (tgt := 1537) hx hb dL_law_30 (by decide) (fun _ => ?_) (fun h9 => absurd h9 (by decide))
      refine lv_iconst (v := 1) hx hb dL_law_1537 (by decide) ?_
      refine va_forget (fun q hq => by have h9 := hS.2.2 q hq; rw [hAe] at h9; exact h9) ?_
      refine W.widen (k := 600002) (n := 7302232) (by omega) (by omega) ?_
      exact lw_ret hx hb hr hlocks dL_law_1538
    by_cases s183 : vs = 23
    · subst s183
      refine lv_tableIn (off := 1095) (tgt := 1135) hx hb dL_law_40 (by decide) (by decide) (by decide) (by decide) ?_
      have hP := hP.sub (ws' := [(q1, .inr (11, [.ref q3, .ref q26, .ref q28, .ref q35, .ref q39, .ref q43, .ref q46, .ref q52])), (q35, .inr (0, [.ref q32, .ref q36, .ref q37, .ref q38, .ref q33, .ref q34, .int 2, .int 0, .int 0])), (q37, .inl (G.1, 25, .inl (tI [0, 0, 0, 0, 0, 0, 0, 0, 0, 0, 0, 0, 0, 0, 0, 0, 0, 0, 0, 0, 0, 0, 0, 0, 0]))), (q59, .inr (12, [.ref q61, .ref q62, .ref q63, .ref q64, .ref q65, .ref q66, .ref q81, .ref q82, .ref q83, .ref q84, .ref q85, .ref q86, .int 0, .ref q87, .ref q88, .ref q89, .int 9, .int 0, .int 0, .ref q67, .ref q90, .ref q68, .int 0, .int 2, .ref q80, .ref q69, .ref q70, .ref q71, .int 0, .ref q72, .int 0, .ref q91, .ref q92, .ref q93, .ref q94, .int 0, .ref q73, .int 0, .int 0, .ref q95, .ref q96, .ref q97, .ref q98, .int 0, .int 0, .int 0, .int 0, .ref q99, .int 0, .ref q100, .ref q101, .ref q102, .ref q103, .int 0, .ref q74, .ref q75, .ref q76, .ref q77, .int 0, .ref q78, .ref q79, .ref q104]))]) [0, 33, 35, 71] rfl
      have hD := hD.sub (ws' := [(q1, .inr (11, [.ref q3, .ref q26, .ref q28, .ref q35, .ref q39, .ref q43, .ref q46, .ref q52])), (q35, .inr (0, [.ref q32, .ref q36, .ref q37, .ref q38, .ref q33, .ref q34, .int 2, .int 0, .int 0])), (q37, .inl (G.1, 25, .inl (tI [0, 0, 0, 0, 0, 0, 0, 0, 0, 0, 0, 0, 0, 0, 0, 0, 0, 0, 0, 0, 0, 0, 0, 0, 0]))), (q59, .inr (12, [.ref q61, .ref q62, .ref q63, .ref q64, .ref q65, .ref q66, .ref q81, .ref q82, .ref q83, .ref q84, .ref q85, .ref q86, .int 0, .ref q87, .ref q88, .ref q89, .int 9, .int 0, .int 0, .ref q67, .ref q90, .ref q68, .int 0, .int 2, .ref q80, .ref q69, .ref q70, .ref q71, .int 0, .ref q72, .int 0, .ref q91, .ref q92, .ref q93, .ref q94, .int 0, .ref q73, .int 0, .int 0, .ref q95, .ref q96, .ref q97, .ref q98, .int 0, .int 0, .int 0, .int 0, .ref q99, .int 0, .ref q100, .ref q101, .ref q102, .ref q103, .int 0, .ref q74, .ref q75, .ref q76, .ref q77, .int 0, .ref q78, .ref q79, .ref q104]))]) [0, 33, 35, 71] (by decide) rfl
      refine lv_aload_n hx hb dL_law_1135 rfl (lv_at hl 3 rfl) ?_
      refine lv_aload_n hx hb dL_law_1136 rfl (lv_at hl 4 rfl) ?_
      refine lv_iload hx hb dL_law_1137 (lv_at hl 0 rfl) ?_
      refine lv_iconst (v := 1) hx hb dL_law_1139 (by decide) ?_
      refine lv_iadd hx hb dL_law_1140 ?_
      refine wk_i 1 (by decide) ?_
      refine va_sld hx hb hX hbl hbA hS (wk_in rfl) dL_law_1141 ?_
      refine wk_i (xs 1) rfl ?_
      refine lv_aload_n hx hb dL_law_1142 rfl (lv_at hl 4 rfl) ?_
      refine lv_iload hx hb dL_law_1143 (lv_at hl 0 rfl) ?_
      refine lv_iconst (v := 2) hx hb dL_law_1145 (by decide) ?_
      refine lv_iadd hx hb dL_law_1146 ?_
      refine wk_i 2 (by decide) ?_
      refine va_sld hx hb hX hbl hbA hS (wk_in rfl) dL_law_1147 ?_
      refine wk_i (xs 2) rfl ?_
      have hPc := hP.sub (ws' := [(q1, .inr (11, [.ref q3, .ref q26, .ref q28, .ref q35, .ref q39, .ref q43, .ref q46, .ref q52])), (q35, .inr (0, [.ref q32, .ref q36, .ref q37, .ref q38, .ref q33, .ref q34, .int 2, .int 0, .int 0])), (q37, .inl (G.1, 25, .inl (tI [0, 0, 0, 0, 0, 0, 0, 0, 0, 0, 0, 0, 0, 0, 0, 0, 0, 0, 0, 0, 0, 0, 0, 0, 0])))]) [0, 1, 2] rfl
      have hDc := hD.sub (ws' := [(q1, .inr (11, [.ref q3, .ref q26, .ref q28, .ref q35, .ref q39, .ref q43, .ref q46, .ref q52])), (q35, .inr (0, [.ref q32, .ref q36, .ref q37, .ref q38, .ref q33, .ref q34, .int 2, .int 0, .int 0])), (q37, .inl (G.1, 25, .inl (tI [0, 0, 0, 0, 0, 0, 0, 0, 0, 0, 0, 0, 0, 0, 0, 0, 0, 0, 0, 0, 0, 0, 0, 0, 0])))]) [0, 1, 2] (by decide) rfl
      have hFc := va_free (wc := [(q1, .inr (11, [.ref q3, .ref q26, .ref q28, .ref q35, .ref q39, .ref q43, .ref q46, .ref q52])), (q35, .inr (0, [.ref q32, .ref q36, .ref q37, .ref q38, .ref q33, .ref q34, .int 2, .int 0, .int 0])), (q37, .inl (G.1, 25, .inl (tI [0, 0, 0, 0, 0, 0, 0, 0, 0, 0, 0, 0, 0, 0, 0, 0, 0, 0, 0, 0, 0, 0, 0, 0, 0])))]) hD hS hA [0, 1, 2] rfl
      refine va_calli (va_runV (As := [.int (xs 1), .int (xs 2)]) (rest := []) ⟨hx, hb, hml, hown, hts⟩ (kX11_wound l D G q1 (xs 1) (xs 2) q3 q26 q28 q35 q39 q43 q46 q52 q32 q36 q37 q38 q33 q34 H.size) (cwV 2 hts gL_law_X11_wound rfl rfl rfl (by decide +kernel) ⟨Nat.le_of_ble_eq_true rfl, Nat.le_of_ble_eq_true rfl⟩) ⟨wB_blind, va_recv hK hPc (ci := 11) (q0 := 0) rfl rfl, wB_pre hPc hK hDc hN⟩ rfl rfl hl.1 rfl (lv_room (Nat.le_of_ble_eq_true rfl)) dL_law_1148 ⟨Nat.le_of_ble_eq_true rfl, Nat.le_of_ble_eq_true rfl⟩) hS (fun q _ h => hFc q h) hFc (fun r184 u t H1 locs ht hvm hr184 hB hz1 hk1 hS => ?_)
      obtain ⟨hP, hD⟩ := va_join (wr := [(q59, .inr (12, [.ref q61, .ref q62, .ref q63, .ref q64, .ref q65, .ref q66, .ref q81, .ref q82, .ref q83, .ref q84, .ref q85, .ref q86, .int 0, .ref q87, .ref q88, .ref q89, .int 9, .int 0, .int 0, .ref q67, .ref q90, .ref q68, .int 0, .int 2, .ref q80, .ref q69, .ref q70, .ref q71, .int 0, .ref q72, .int 0, .ref q91, .ref q92, .ref q93, .ref q94, .int 0, .ref q73, .int 0, .int 0, .ref q95, .ref q96, .ref q97, .ref q98, .int 0, .int 0, .int 0, .int 0, .ref q99, .int 0, .ref q100, .ref q101, .ref q102, .ref q103, .int 0, .ref q74, .ref q75, .ref q76, .ref q77, .int 0, .ref q78, .ref q79, .ref q104]))]) (w1 := []) hP hD [0, 1, 2] [3] rfl rfl (by decide) (by decide) hk1 hFc wP_nil wD_nil
      clear hPc hDc
      generalize H1 = H at hP hS ⊢
      have hP : va_P D vwCl [(q59, .inr (12, [.ref q61, .ref q62, .ref q63, .ref q64, .ref q65, .ref q66, .ref q81, .ref q82, .ref q83, .ref q84, .ref q85, .ref q86, .int 0, .ref q87, .ref q88, .ref q89, .int 9, .int 0, .int 0, .ref q67, .ref q90, .ref q68, .int 0, .int 2, .ref q80, .ref q69, .ref q70, .ref q71, .int 0, .ref q72, .int 0, .ref q91, .ref q92, .ref q93, .ref q94, .int 0, .ref q73, .int 0, .int 0, .ref q95, .ref q96, .ref q97, .ref q98, .int 0, .int 0, .int 0, .int 0, .ref q99, .int 0, .ref q100, .ref q101, .ref q102, .ref q103, .int 0, .ref q74, .ref q75, .ref q76, .ref q77, .int 0, .ref q78, .ref q79, .ref q104]))] H := hP
      have hD : va_D A [(q59, .inr (12, [.ref q61, .ref q62, .ref q63, .ref q64, .ref q65, .ref q66, .ref q81, .ref q82, .ref q83, .ref q84, .ref q85, .ref q86, .int 0, .ref q87, .ref q88, .ref q89, .int 9, .int 0, .int 0, .ref q67, .ref q90, .ref q68, .int 0, .int 2, .ref q80, .ref q69, .ref q70, .ref q71, .int 0, .ref q72, .int 0, .ref q91, .ref q92, .ref q93, .ref q94, .int 0, .ref q73, .int 0, .int 0, .ref q95, .ref q96, .ref q97, .ref q98, .int 0, .int 0, .int 0, .int 0, .ref q99, .int 0, .ref q100, .ref q101, .ref q102, .ref q103, .int 0, .ref q74, .ref q75, .ref q76, .ref q77, .int 0, .ref q78, .ref q79, .ref q104]))] := hD
      refine lv_aload_n hx hb dL_law_1151 rfl (lv_at hl 2 rfl) ?_
      refine lv_aload_n hx hb dL_law_1152 rfl (lv_at hl 4 rfl) ?_
      refine lv_iload hx hb dL_law_1153 (lv_at hl 0 rfl) ?_
      refine lv_iconst (v := 1) hx hb dL_law_1155 (by decide) ?_
      refine lv_iadd hx hb dL_law_1156 ?_
      refine wk_i 1 (by decide) ?_
      refine va_sld hx hb hX hbl hbA hS (wk_in rfl) dL_law_1157 ?_
      refine wk_i (xs 1) rfl ?_
      refine lv_aload_n hx hb dL_law_1158 rfl (lv_at hl 4 rfl) ?_
      refine lv_iload hx hb dL_law_1159 (lv_at hl 0 rfl) ?_
      refine lv_iconst (v := 2) hx hb dL_law_1161 (by decide) ?_
      refine lv_iadd hx hb dL_law_1162 ?_
      refine wk_i 2 (by decide) ?_
      refine va_sld hx hb hX hbl hbA hS (wk_in rfl) dL_law_1163 ?_
      refine wk_i (xs 2) rfl ?_
      have hPc := hP.sub (ws' := [(q59, .inr (12, [.ref q61, .ref q62, .ref q63, .ref q64, .ref q65, .ref q66, .ref q81, .ref q82, .ref q83, .ref q84, .ref q85, .ref q86, .int 0, .ref q87, .ref q88, .ref q89, .int 9, .int 0, .int 0, .ref q67, .ref q90, .ref q68, .int 0, .int 2, .ref q80, .ref q69, .ref q70, .ref q71, .int 0, .ref q72, .int 0, .ref q91, .ref q92, .ref q93, .ref q94, .int 0, .ref q73, .int 0, .int 0, .ref q95, .ref q96, .ref q97, .ref q98, .int 0, .int 0, .int 0, .int 0, .ref q99, .int 0, .ref q100, .ref q101, .ref q102, .ref q103, .int 0, .ref q74, .ref q75, .ref q76, .ref q77, .int 0, .ref q78, .ref q79, .ref q104]))]) [0] rfl
      have hDc := hD.sub (ws' := [(q59, .inr (12, [.ref q61, .ref q62, .ref q63, .ref q64, .ref q65, .ref q66, .ref q81, .ref q82, .ref q83, .ref q84, .ref q85, .ref q86, .int 0, .ref q87, .ref q88, .ref q89, .int 9, .int 0, .int 0, .ref q67, .ref q90, .ref q68, .int 0, .int 2, .ref q80, .ref q69, .ref q70, .ref q71, .int 0, .ref q72, .int 0, .ref q91, .ref q92, .ref q93, .ref q94, .int 0, .ref q73, .int 0, .int 0, .ref q95, .ref q96, .ref q97, .ref q98, .int 0, .int 0, .int 0, .int 0, .ref q99, .int 0, .ref q100, .ref q101, .ref q102, .ref q103, .int 0, .ref q74, .ref q75, .ref q76, .ref q77, .int 0, .ref q78, .ref q79, .ref q104]))]) [0] (by decide) rfl
      have hFc := va_free (wc := [(q59, .inr (12, [.ref q61, .ref q62, .ref q63, .ref q64, .ref q65, .ref q66, .ref q81, .ref q82, .ref q83, .ref q84, .ref q85, .ref q86, .int 0, .ref q87, .ref q88, .ref q89, .int 9, .int 0, .int 0, .ref q67, .ref q90, .ref q68, .int 0, .int 2, .ref q80, .ref q69, .ref q70, .ref q71, .int 0, .ref q72, .int 0, .ref q91, .ref q92, .ref q93, .ref q94, .int 0, .ref q73, .int 0, .int 0, .ref q95, .ref q96, .ref q97, .ref q98, .int 0, .int 0, .int 0, .int 0, .ref q99, .int 0, .ref q100, .ref q101, .ref q102, .ref q103, .int 0, .ref q74, .ref q75, .ref q76, .ref q77, .int 0, .ref q78, .ref q79, .ref q104]))]) hD hS hA [0] rfl
      refine va_calli (va_runV (As := [.int (xs 1), .int (xs 2)]) (rest := [.int r184]) ⟨hx, hb, hml, hown, hts⟩ (kX12_wound l D G q59 (xs 1) (xs 2) q61 q62 q63 q64 q65 q66 q81 q82 q83 q84 q85 q86 q87 q88 q89 q67 q90 q68 q80 q69 q70 q71 q72 q91 q92 q93 q94 q73 q95 q96 q97 q98 q99 q100 q101 q102 q103 q74 q75 q76 q77 q78 q79 q104 H.size) (cwV 2 hts gL_law_X12_wound rfl rfl rfl (by decide +kernel) ⟨Nat.le_of_ble_eq_true rfl, Nat.le_of_ble_eq_true rfl⟩) ⟨wB_blind, va_recv hK hPc (ci := 12) (q0 := 0) rfl rfl, wB_pre hPc hK hDc hN⟩ rfl rfl hl.1 rfl (lv_room (Nat.le_of_ble_eq_true rfl)) dL_law_1164 ⟨Nat.le_of_ble_eq_true rfl, Nat.le_of_ble_eq_true rfl⟩) hS (fun q _ h => hFc q h) hFc (fun r185 u t H1 locs ht hvm hr185 hB hz1 hk1 hS => ?_)
      obtain ⟨hP, hD⟩ := va_join (wr := []) (w1 := []) hP hD [0] [] rfl rfl (by decide) (by decide) hk1 hFc wP_nil wD_nil
      clear hPc hDc
      generalize H1 = H at hP hS ⊢
      have hP : va_P D vwCl [] H := hP
      have hD : va_D A [] := hD
      refine lv_icmp_eq (tgt := 1531) hx hb dL_law_1167 (by decide) (fun _ => ?_) (fun h9 => absurd (Eq.trans hr184 (Eq.symm hr185)) h9)
      refine lv_iinc (v := 7) (lv' := [(4, .int 7), (3, .ref q105), (2, .ref q59), (1, .ref q1), (0, .ref b)]) hx hb dL_law_1531 hl (k := 0) rfl (by decide) (by decide) rfl (fun ls hl => ?_)
      refine lv_goto (tgt := 23) hx hb dL_law_1534 (by decide) ?_
      refine lv_iload hx hb dL_law_23 (lv_at hl 0 rfl) ?_
      refine lv_aload_n hx hb dL_law_25 rfl (lv_at hl 4 rfl) ?_
      refine va_slen hx hb hX hbl hbA hS dL_law_26 ?_
      refine wk_i 7 rfl ?_
      refine lv_bipush (v := 7) hx hb dL_law_27 (by decide) ?_
      refine lv_isub hx hb dL_law_29 ?_
      refine wk_i 0 (by decide) ?_
      refine lv_icmp_gt (tgt := 1537) hx hb dL_law_30 (by decide) (fun _ => ?_) (fun h9 => absurd h9 (by decide))
      refine lv_iconst (v := 1) hx hb dL_law_1537 (by decide) ?_
      refine va_forget (fun q hq => by have h9 := hS.2.2 q hq; rw [hAe] at h9; exact h9) ?_
      refine W.widen (k := 600002) (n := 7302232) (by omega) (by omega) ?_
      exact lw_ret hx hb hr hlocks dL_law_1538
    by_cases s186 : vs = 24
    · subst s186
      refine lv_tableIn (off := 1132) (tgt := 1172) hx hb dL_law_40 (by decide) (by decide) (by decide) (by decide) ?_
      have hP := hP.sub (ws' := [(q1, .inr (11, [.ref q3, .ref q26, .ref q28, .ref q35, .ref q39, .ref q43, .ref q46, .ref q52])), (q35, .inr (0, [.ref q32, .ref q36, .ref q37, .ref q38, .ref q33, .ref q34, .int 2, .int 0, .int 0])), (q38, .inl (G.2.1, 10, .inr (.inl (tL [0, 1, 0, 1, 0, 1, 0, 1, 0, 1])))), (q59, .inr (12, [.ref q61, .ref q62, .ref q63, .ref q64, .ref q65, .ref q66, .ref q81, .ref q82, .ref q83, .ref q84, .ref q85, .ref q86, .int 0, .ref q87, .ref q88, .ref q89, .int 9, .int 0, .int 0, .ref q67, .ref q90, .ref q68, .int 0, .int 2, .ref q80, .ref q69, .ref q70, .ref q71, .int 0, .ref q72, .int 0, .ref q91, .ref q92, .ref q93, .ref q94, .int 0, .ref q73, .int 0, .int 0, .ref q95, .ref q96, .ref q97, .ref q98, .int 0, .int 0, .int 0, .int 0, .ref q99, .int 0, .ref q100, .ref q101, .ref q102, .ref q103, .int 0, .ref q74, .ref q75, .ref q76, .ref q77, .int 0, .ref q78, .ref q79, .ref q104]))]) [0, 33, 36, 71] rfl
      have hD := hD.sub (ws' := [(q1, .inr (11, [.ref q3, .ref q26, .ref q28, .ref q35, .ref q39, .ref q43, .ref q46, .ref q52])), (q35, .inr (0, [.ref q32, .ref q36, .ref q37, .ref q38, .ref q33, .ref q34, .int 2, .int 0, .int 0])), (q38, .inl (G.2.1, 10, .inr (.inl (tL [0, 1, 0, 1, 0, 1, 0, 1, 0, 1])))), (q59, .inr (12, [.ref q61, .ref q62, .ref q63, .ref q64, .ref q65, .ref q66, .ref q81, .ref q82, .ref q83, .ref q84, .ref q85, .ref q86, .int 0, .ref q87, .ref q88, .ref q89, .int 9, .int 0, .int 0, .ref q67, .ref q90, .ref q68, .int 0, .int 2, .ref q80, .ref q69, .ref q70, .ref q71, .int 0, .ref q72, .int 0, .ref q91, .ref q92, .ref q93, .ref q94, .int 0, .ref q73, .int 0, .int 0, .ref q95, .ref q96, .ref q97, .ref q98, .int 0, .int 0, .int 0, .int 0, .ref q99, .int 0, .ref q100, .ref q101, .ref q102, .ref q103, .int 0, .ref q74, .ref q75, .ref q76, .ref q77, .int 0, .ref q78, .ref q79, .ref q104]))]) [0, 33, 36, 71] (by decide) rfl
      refine lv_aload_n hx hb dL_law_1172 rfl (lv_at hl 3 rfl) ?_
      have hPc := hP.sub (ws' := [(q1, .inr (11, [.ref q3, .ref q26, .ref q28, .ref q35, .ref q39, .ref q43, .ref q46, .ref q52])), (q35, .inr (0, [.ref q32, .ref q36, .ref q37, .ref q38, .ref q33, .ref q34, .int 2, .int 0, .int 0])), (q38, .inl (G.2.1, 10, .inr (.inl (tL [0, 1, 0, 1, 0, 1, 0, 1, 0, 1]))))]) [0, 1, 2] rfl
      have hDc := hD.sub (ws' := [(q1, .inr (11, [.ref q3, .ref q26, .ref q28, .ref q35, .ref q39, .ref q43, .ref q46, .ref q52])), (q35, .inr (0, [.ref q32, .ref q36, .ref q37, .ref q38, .ref q33, .ref q34, .int 2, .int 0, .int 0])), (q38, .inl (G.2.1, 10, .inr (.inl (tL [0, 1, 0, 1, 0, 1, 0, 1, 0, 1]))))]) [0, 1, 2] (by decide) rfl
      have hFc := va_free (wc := [(q1, .inr (11, [.ref q3, .ref q26, .ref q28, .ref q35, .ref q39, .ref q43, .ref q46, .ref q52])), (q35, .inr (0, [.ref q32, .ref q36, .ref q37, .ref q38, .ref q33, .ref q34, .int 2, .int 0, .int 0])), (q38, .inl (G.2.1, 10, .inr (.inl (tL [0, 1, 0, 1, 0, 1, 0, 1, 0, 1]))))]) hD hS hA [0, 1, 2] rfl
      refine va_calli (va_runV (As := []) (rest := []) ⟨hx, hb, hml, hown, hts⟩ (kX11_free l D G q1 q3 q26 q28 q35 q39 q43 q46 q52 q32 q36 q37 q38 q33 q34 H.size) (cwV 0 hts gL_law_X11_free rfl rfl rfl (by decide +kernel) ⟨Nat.le_of_ble_eq_true rfl, Nat.le_of_ble_eq_true rfl⟩) ⟨wB_blind, va_recv hK hPc (ci := 11) (q0 := 0) rfl rfl, wB_pre hPc hK hDc hN⟩ rfl rfl hl.1 rfl (lv_room (Nat.le_of_ble_eq_true rfl)) dL_law_1173 ⟨Nat.le_of_ble_eq_true rfl, Nat.le_of_ble_eq_true rfl⟩) hS (fun q _ h => hFc q h) hFc (fun r187 u t H1 locs ht hvm hr187 hB hz1 hk1 hS => ?_)
      obtain ⟨hP, hD⟩ := va_join (wr := [(q59, .inr (12, [.ref q61, .ref q62, .ref q63, .ref q64, .ref q65, .ref q66, .ref q81, .ref q82, .ref q83, .ref q84, .ref q85, .ref q86, .int 0, .ref q87, .ref q88, .ref q89, .int 9, .int 0, .int 0, .ref q67, .ref q90, .ref q68, .int 0, .int 2, .ref q80, .ref q69, .ref q70, .ref q71, .int 0, .ref q72, .int 0, .ref q91, .ref q92, .ref q93, .ref q94, .int 0, .ref q73, .int 0, .int 0, .ref q95, .ref q96, .ref q97, .ref q98, .int 0, .int 0, .int 0, .int 0, .ref q99, .int 0, .ref q100, .ref q101, .ref q102, .ref q103, .int 0, .ref q74, .ref q75, .ref q76, .ref q77, .int 0, .ref q78, .ref q79, .ref q104]))]) (w1 := []) hP hD [0, 1, 2] [3] rfl rfl (by decide) (by decide) hk1 hFc wP_nil wD_nil
      clear hPc hDc
      generalize H1 = H at hP hS ⊢
      have hP : va_P D vwCl [(q59, .inr (12, [.ref q61, .ref q62, .ref q63, .ref q64, .ref q65, .ref q66, .ref q81, .ref q82, .ref q83, .ref q84, .ref q85, .ref q86, .int 0, .ref q87, .ref q88, .ref q89, .int 9, .int 0, .int 0, .ref q67, .ref q90, .ref q68, .int 0, .int 2, .ref q80, .ref q69, .ref q70, .ref q71, .int 0, .ref q72, .int 0, .ref q91, .ref q92, .ref q93, .ref q94, .int 0, .ref q73, .int 0, .int 0, .ref q95, .ref q96, .ref q97, .ref q98, .int 0, .int 0, .int 0, .int 0, .ref q99, .int 0, .ref q100, .ref q101, .ref q102, .ref q103, .int 0, .ref q74, .ref q75, .ref q76, .ref q77, .int 0, .ref q78, .ref q79, .ref q104]))] H := hP
      have hD : va_D A [(q59, .inr (12, [.ref q61, .ref q62, .ref q63, .ref q64, .ref q65, .ref q66, .ref q81, .ref q82, .ref q83, .ref q84, .ref q85, .ref q86, .int 0, .ref q87, .ref q88, .ref q89, .int 9, .int 0, .int 0, .ref q67, .ref q90, .ref q68, .int 0, .int 2, .ref q80, .ref q69, .ref q70, .ref q71, .int 0, .ref q72, .int 0, .ref q91, .ref q92, .ref q93, .ref q94, .int 0, .ref q73, .int 0, .int 0, .ref q95, .ref q96, .ref q97, .ref q98, .int 0, .int 0, .int 0, .int 0, .ref q99, .int 0, .ref q100, .ref q101, .ref q102, .ref q103, .int 0, .ref q74, .ref q75, .ref q76, .ref q77, .int 0, .ref q78, .ref q79, .ref q104]))] := hD
      subst hr187
      refine lv_aload_n hx hb dL_law_1176 rfl (lv_at hl 2 rfl) ?_
      have hPc := hP.sub (ws' := [(q59, .inr (12, [.ref q61, .ref q62, .ref q63, .ref q64, .ref q65, .ref q66, .ref q81, .ref q82, .ref q83, .ref q84, .ref q85, .ref q86, .int 0, .ref q87, .ref q88, .ref q89, .int 9, .int 0, .int 0, .ref q67, .ref q90, .ref q68, .int 0, .int 2, .ref q80, .ref q69, .ref q70, .ref q71, .int 0, .ref q72, .int 0, .ref q91, .ref q92, .ref q93, .ref q94, .int 0, .ref q73, .int 0, .int 0, .ref q95, .ref q96, .ref q97, .ref q98, .int 0, .int 0, .int 0, .int 0, .ref q99, .int 0, .ref q100, .ref q101, .ref q102, .ref q103, .int 0, .ref q74, .ref q75, .ref q76, .ref q77, .int 0, .ref q78, .ref q79, .ref q104]))]) [0] rfl
      have hDc := hD.sub (ws' := [(q59, .inr (12, [.ref q61, .ref q62, .ref q63, .ref q64, .ref q65, .ref q66, .ref q81, .ref q82, .ref q83, .ref q84, .ref q85, .ref q86, .int 0, .ref q87, .ref q88, .ref q89, .int 9, .int 0, .int 0, .ref q67, .ref q90, .ref q68, .int 0, .int 2, .ref q80, .ref q69, .ref q70, .ref q71, .int 0, .ref q72, .int 0, .ref q91, .ref q92, .ref q93, .ref q94, .int 0, .ref q73, .int 0, .int 0, .ref q95, .ref q96, .ref q97, .ref q98, .int 0, .int 0, .int 0, .int 0, .ref q99, .int 0, .ref q100, .ref q101, .ref q102, .ref q103, .int 0, .ref q74, .ref q75, .ref q76, .ref q77, .int 0, .ref q78, .ref q79, .ref q104]))]) [0] (by decide) rfl
      have hFc := va_free (wc := [(q59, .inr (12, [.ref q61, .ref q62, .ref q63, .ref q64, .ref q65, .ref q66, .ref q81, .ref q82, .ref q83, .ref q84, .ref q85, .ref q86, .int 0, .ref q87, .ref q88, .ref q89, .int 9, .int 0, .int 0, .ref q67, .ref q90, .ref q68, .int 0, .int 2, .ref q80, .ref q69, .ref q70, .ref q71, .int 0, .ref q72, .int 0, .ref q91, .ref q92, .ref q93, .ref q94, .int 0, .ref q73, .int 0, .int 0, .ref q95, .ref q96, .ref q97, .ref q98, .int 0, .int 0, .int 0, .int 0, .ref q99, .int 0, .ref q100, .ref q101, .ref q102, .ref q103, .int 0, .ref q74, .ref q75, .ref q76, .ref q77, .int 0, .ref q78, .ref q79, .ref q104]))]) hD hS hA [0] rfl
      refine va_calli (va_runV (As := []) (rest := [.int 1]) ⟨hx, hb, hml, hown, hts⟩ (kX12_free l D G q59 q61 q62 q63 q64 q65 q66 q81 q82 q83 q84 q85 q86 q87 q88 q89 q67 q90 q68 q80 q69 q70 q71 q72 q91 q92 q93 q94 q73 q95 q96 q97 q98 q99 q100 q101 q102 q103 q74 q75 q76 q77 q78 q79 q104 H.size) (cwV 0 hts gL_law_X12_free rfl rfl rfl (by decide +kernel) ⟨Nat.le_of_ble_eq_true rfl, Nat.le_of_ble_eq_true rfl⟩) ⟨wB_blind, va_recv hK hPc (ci := 12) (q0 := 0) rfl rfl, wB_pre hPc hK hDc hN⟩ rfl rfl hl.1 rfl (lv_room (Nat.le_of_ble_eq_true rfl)) dL_law_1177 ⟨Nat.le_of_ble_eq_true rfl, Nat.le_of_ble_eq_true rfl⟩) hS (fun q _ h => hFc q h) hFc (fun r188 u t H1 locs ht hvm hr188 hB hz1 hk1 hS => ?_)
      obtain ⟨hP, hD⟩ := va_join (wr := []) (w1 := []) hP hD [0] [] rfl rfl (by decide) (by decide) hk1 hFc wP_nil wD_nil
      clear hPc hDc
      generalize H1 = H at hP hS ⊢
      have hP : va_P D vwCl [] H := hP
      have hD : va_D A [] := hD
      subst hr188
      refine lv_icmp_eq (tgt := 1531) hx hb dL_law_1180 (by decide) (fun _ => ?_) (fun h9 => absurd h9 (by decide))
      refine lv_iinc (v := 7) (lv' := [(4, .int 7), (3, .ref q105), (2, .ref q59), (1, .ref q1), (0, .ref b)]) hx hb dL_law_1531 hl (k := 0) rfl (by decide) (by decide) rfl (fun ls hl => ?_)
      refine lv_goto (tgt := 23) hx hb dL_law_1534 (by decide) ?_
      refine lv_iload hx hb dL_law_23 (lv_at hl 0 rfl) ?_
      refine lv_aload_n hx hb dL_law_25 rfl (lv_at hl 4 rfl) ?_
      refine va_slen hx hb hX hbl hbA hS dL_law_26 ?_
      refine wk_i 7 rfl ?_
      refine lv_bipush (v := 7) hx hb dL_law_27 (by decide) ?_
      refine lv_isub hx hb dL_law_29 ?_
      refine wk_i 0 (by decide) ?_
      refine lv_icmp_gt (tgt := 1537) hx hb dL_law_30 (by decide) (fun _ => ?_) (fun h9 => absurd h9 (by decide))
      refine lv_iconst (v := 1) hx hb dL_law_1537 (by decide) ?_
      refine va_forget (fun q hq => by have h9 := hS.2.2 q hq; rw [hAe] at h9; exact h9) ?_
      refine W.widen (k := 600002) (n := 7302232) (by omega) (by omega) ?_
      exact lw_ret hx hb hr hlocks dL_law_1538
    by_cases s189 : vs = 25
    · subst s189
      refine lv_tableIn (off := 1145) (tgt := 1185) hx hb dL_law_40 (by decide) (by decide) (by decide) (by decide) ?_
      have hP := hP.sub (ws' := [(q1, .inr (11, [.ref q3, .ref q26, .ref q28, .ref q35, .ref q39, .ref q43, .ref q46, .ref q52])), (q33, .inl (G.2.1, 10, .inr (.inl (fun _ => 0)))), (q35, .inr (0, [.ref q32, .ref q36, .ref q37, .ref q38, .ref q33, .ref q34, .int 2, .int 0, .int 0])), (q59, .inr (12, [.ref q61, .ref q62, .ref q63, .ref q64, .ref q65, .ref q66, .ref q81, .ref q82, .ref q83, .ref q84, .ref q85, .ref q86, .int 0, .ref q87, .ref q88, .ref q89, .int 9, .int 0, .int 0, .ref q67, .ref q90, .ref q68, .int 0, .int 2, .ref q80, .ref q69, .ref q70, .ref q71, .int 0, .ref q72, .int 0, .ref q91, .ref q92, .ref q93, .ref q94, .int 0, .ref q73, .int 0, .int 0, .ref q95, .ref q96, .ref q97, .ref q98, .int 0, .int 0, .int 0, .int 0, .ref q99, .int 0, .ref q100, .ref q101, .ref q102, .ref q103, .int 0, .ref q74, .ref q75, .ref q76, .ref q77, .int 0, .ref q78, .ref q79, .ref q104]))]) [0, 31, 33, 71] rfl
      have hD := hD.sub (ws' := [(q1, .inr (11, [.ref q3, .ref q26, .ref q28, .ref q35, .ref q39, .ref q43, .ref q46, .ref q52])), (q33, .inl (G.2.1, 10, .inr (.inl (fun _ => 0)))), (q35, .inr (0, [.ref q32, .ref q36, .ref q37, .ref q38, .ref q33, .ref q34, .int 2, .int 0, .int 0])), (q59, .inr (12, [.ref q61, .ref q62, .ref q63, .ref q64, .ref q65, .ref q66, .ref q81, .ref q82, .ref q83, .ref q84, .ref q85, .ref q86, .int 0, .ref q87, .ref q88, .ref q89, .int 9, .int 0, .int 0, .ref q67, .ref q90, .ref q68, .int 0, .int 2, .ref q80, .ref q69, .ref q70, .ref q71, .int 0, .ref q72, .int 0, .ref q91, .ref q92, .ref q93, .ref q94, .int 0, .ref q73, .int 0, .int 0, .ref q95, .ref q96, .ref q97, .ref q98, .int 0, .int 0, .int 0, .int 0, .ref q99, .int 0, .ref q100, .ref q101, .ref q102, .ref q103, .int 0, .ref q74, .ref q75, .ref q76, .ref q77, .int 0, .ref q78, .ref q79, .ref q104]))]) [0, 31, 33, 71] (by decide) rfl
      refine lv_aload_n hx hb dL_law_1185 rfl (lv_at hl 3 rfl) ?_
      refine lv_aload_n hx hb dL_law_1186 rfl (lv_at hl 4 rfl) ?_
      refine lv_iload hx hb dL_law_1187 (lv_at hl 0 rfl) ?_
      refine lv_iconst (v := 1) hx hb dL_law_1189 (by decide) ?_
      refine lv_iadd hx hb dL_law_1190 ?_
      refine wk_i 1 (by decide) ?_
      refine va_sld hx hb hX hbl hbA hS (wk_in rfl) dL_law_1191 ?_
      refine wk_i (xs 1) rfl ?_
      have hPc := hP.sub (ws' := [(q1, .inr (11, [.ref q3, .ref q26, .ref q28, .ref q35, .ref q39, .ref q43, .ref q46, .ref q52])), (q35, .inr (0, [.ref q32, .ref q36, .ref q37, .ref q38, .ref q33, .ref q34, .int 2, .int 0, .int 0])), (q33, .inl (G.2.1, 10, .inr (.inl (fun _ => 0))))]) [0, 2, 1] rfl
      have hDc := hD.sub (ws' := [(q1, .inr (11, [.ref q3, .ref q26, .ref q28, .ref q35, .ref q39, .ref q43, .ref q46, .ref q52])), (q35, .inr (0, [.ref q32, .ref q36, .ref q37, .ref q38, .ref q33, .ref q34, .int 2, .int 0, .int 0])), (q33, .inl (G.2.1, 10, .inr (.inl (fun _ => 0))))]) [0, 2, 1] (by decide) rfl
      have hFc := va_free (wc := [(q1, .inr (11, [.ref q3, .ref q26, .ref q28, .ref q35, .ref q39, .ref q43, .ref q46, .ref q52])), (q35, .inr (0, [.ref q32, .ref q36, .ref q37, .ref q38, .ref q33, .ref q34, .int 2, .int 0, .int 0])), (q33, .inl (G.2.1, 10, .inr (.inl (fun _ => 0))))]) hD hS hA [0, 2, 1] rfl
      refine va_calli (va_runV (As := [.int (xs 1)]) (rest := []) ⟨hx, hb, hml, hown, hts⟩ (kX11_alike l D G q1 (xs 1) q3 q26 q28 q35 q39 q43 q46 q52 q32 q36 q37 q38 q33 q34 H.size) (cwV 1 hts gL_law_X11_alike rfl rfl rfl (by decide +kernel) ⟨Nat.le_of_ble_eq_true rfl, Nat.le_of_ble_eq_true rfl⟩) ⟨wB_blind, va_recv hK hPc (ci := 11) (q0 := 0) rfl rfl, wB_pre hPc hK hDc hN⟩ rfl rfl hl.1 rfl (lv_room (Nat.le_of_ble_eq_true rfl)) dL_law_1192 ⟨Nat.le_of_ble_eq_true rfl, Nat.le_of_ble_eq_true rfl⟩) hS (fun q _ h => hFc q h) hFc (fun r190 u t H1 locs ht hvm hr190 hB hz1 hk1 hS => ?_)
      obtain ⟨hP, hD⟩ := va_join (wr := [(q59, .inr (12, [.ref q61, .ref q62, .ref q63, .ref q64, .ref q65, .ref q66, .ref q81, .ref q82, .ref q83, .ref q84, .ref q85, .ref q86, .int 0, .ref q87, .ref q88, .ref q89, .int 9, .int 0, .int 0, .ref q67, .ref q90, .ref q68, .int 0, .int 2, .ref q80, .ref q69, .ref q70, .ref q71, .int 0, .ref q72, .int 0, .ref q91, .ref q92, .ref q93, .ref q94, .int 0, .ref q73, .int 0, .int 0, .ref q95, .ref q96, .ref q97, .ref q98, .int 0, .int 0, .int 0, .int 0, .ref q99, .int 0, .ref q100, .ref q101, .ref q102, .ref q103, .int 0, .ref q74, .ref q75, .ref q76, .ref q77, .int 0, .ref q78, .ref q79, .ref q104]))]) (w1 := []) hP hD [0, 2, 1] [3] rfl rfl (by decide) (by decide) hk1 hFc wP_nil wD_nil
      clear hPc hDc
      generalize H1 = H at hP hS ⊢
      have hP : va_P D vwCl [(q59, .inr (12, [.ref q61, .ref q62, .ref q63, .ref q64, .ref q65, .ref q66, .ref q81, .ref q82, .ref q83, .ref q84, .ref q85, .ref q86, .int 0, .ref q87, .ref q88, .ref q89, .int 9, .int 0, .int 0, .ref q67, .ref q90, .ref q68, .int 0, .int 2, .ref q80, .ref q69, .ref q70, .ref q71, .int 0, .ref q72, .int 0, .ref q91, .ref q92, .ref q93, .ref q94, .int 0, .ref q73, .int 0, .int 0, .ref q95, .ref q96, .ref q97, .ref q98, .int 0, .int 0, .int 0, .int 0, .ref q99, .int 0, .ref q100, .ref q101, .ref q102, .ref q103, .int 0, .ref q74, .ref q75, .ref q76, .ref q77, .int 0, .ref q78, .ref q79, .ref q104]))] H := hP
      have hD : va_D A [(q59, .inr (12, [.ref q61, .ref q62, .ref q63, .ref q64, .ref q65, .ref q66, .ref q81, .ref q82, .ref q83, .ref q84, .ref q85, .ref q86, .int 0, .ref q87, .ref q88, .ref q89, .int 9, .int 0, .int 0, .ref q67, .ref q90, .ref q68, .int 0, .int 2, .ref q80, .ref q69, .ref q70, .ref q71, .int 0, .ref q72, .int 0, .ref q91, .ref q92, .ref q93, .ref q94, .int 0, .ref q73, .int 0, .int 0, .ref q95, .ref q96, .ref q97, .ref q98, .int 0, .int 0, .int 0, .int 0, .ref q99, .int 0, .ref q100, .ref q101, .ref q102, .ref q103, .int 0, .ref q74, .ref q75, .ref q76, .ref q77, .int 0, .ref q78, .ref q79, .ref q104]))] := hD
      refine lv_aload_n hx hb dL_law_1195 rfl (lv_at hl 2 rfl) ?_
      refine lv_aload_n hx hb dL_law_1196 rfl (lv_at hl 4 rfl) ?_
      refine lv_iload hx hb dL_law_1197 (lv_at hl 0 rfl) ?_
      refine lv_iconst (v := 1) hx hb dL_law_1199 (by decide) ?_
      refine lv_iadd hx hb dL_law_1200 ?_
      refine wk_i 1 (by decide) ?_
      refine va_sld hx hb hX hbl hbA hS (wk_in rfl) dL_law_1201 ?_
      refine wk_i (xs 1) rfl ?_
      have hPc := hP.sub (ws' := [(q59, .inr (12, [.ref q61, .ref q62, .ref q63, .ref q64, .ref q65, .ref q66, .ref q81, .ref q82, .ref q83, .ref q84, .ref q85, .ref q86, .int 0, .ref q87, .ref q88, .ref q89, .int 9, .int 0, .int 0, .ref q67, .ref q90, .ref q68, .int 0, .int 2, .ref q80, .ref q69, .ref q70, .ref q71, .int 0, .ref q72, .int 0, .ref q91, .ref q92, .ref q93, .ref q94, .int 0, .ref q73, .int 0, .int 0, .ref q95, .ref q96, .ref q97, .ref q98, .int 0, .int 0, .int 0, .int 0, .ref q99, .int 0, .ref q100, .ref q101, .ref q102, .ref q103, .int 0, .ref q74, .ref q75, .ref q76, .ref q77, .int 0, .ref q78, .ref q79, .ref q104]))]) [0] rfl
      have hDc := hD.sub (ws' := [(q59, .inr (12, [.ref q61, .ref q62, .ref q63, .ref q64, .ref q65, .ref q66, .ref q81, .ref q82, .ref q83, .ref q84, .ref q85, .ref q86, .int 0, .ref q87, .ref q88, .ref q89, .int 9, .int 0, .int 0, .ref q67, .ref q90, .ref q68, .int 0, .int 2, .ref q80, .ref q69, .ref q70, .ref q71, .int 0, .ref q72, .int 0, .ref q91, .ref q92, .ref q93, .ref q94, .int 0, .ref q73, .int 0, .int 0, .ref q95, .ref q96, .ref q97, .ref q98, .int 0, .int 0, .int 0, .int 0, .ref q99, .int 0, .ref q100, .ref q101, .ref q102, .ref q103, .int 0, .ref q74, .ref q75, .ref q76, .ref q77, .int 0, .ref q78, .ref q79, .ref q104]))]) [0] (by decide) rfl
      have hFc := va_free (wc := [(q59, .inr (12, [.ref q61, .ref q62, .ref q63, .ref q64, .ref q65, .ref q66, .ref q81, .ref q82, .ref q83, .ref q84, .ref q85, .ref q86, .int 0, .ref q87, .ref q88, .ref q89, .int 9, .int 0, .int 0, .ref q67, .ref q90, .ref q68, .int 0, .int 2, .ref q80, .ref q69, .ref q70, .ref q71, .int 0, .ref q72, .int 0, .ref q91, .ref q92, .ref q93, .ref q94, .int 0, .ref q73, .int 0, .int 0, .ref q95, .ref q96, .ref q97, .ref q98, .int 0, .int 0, .int 0, .int 0, .ref q99, .int 0, .ref q100, .ref q101, .ref q102, .ref q103, .int 0, .ref q74, .ref q75, .ref q76, .ref q77, .int 0, .ref q78, .ref q79, .ref q104]))]) hD hS hA [0] rfl
      refine va_calli (va_runV (As := [.int (xs 1)]) (rest := [.int r190]) ⟨hx, hb, hml, hown, hts⟩ (kX12_alike l D G q59 (xs 1) q61 q62 q63 q64 q65 q66 q81 q82 q83 q84 q85 q86 q87 q88 q89 q67 q90 q68 q80 q69 q70 q71 q72 q91 q92 q93 q94 q73 q95 q96 q97 q98 q99 q100 q101 q102 q103 q74 q75 q76 q77 q78 q79 q104 H.size) (cwV 1 hts gL_law_X12_alike rfl rfl rfl (by decide +kernel) ⟨Nat.le_of_ble_eq_true rfl, Nat.le_of_ble_eq_true rfl⟩) ⟨wB_blind, va_recv hK hPc (ci := 12) (q0 := 0) rfl rfl, wB_pre hPc hK hDc hN⟩ rfl rfl hl.1 rfl (lv_room (Nat.le_of_ble_eq_true rfl)) dL_law_1202 ⟨Nat.le_of_ble_eq_true rfl, Nat.le_of_ble_eq_true rfl⟩) hS (fun q _ h => hFc q h) hFc (fun r191 u t H1 locs ht hvm hr191 hB hz1 hk1 hS => ?_)
      obtain ⟨hP, hD⟩ := va_join (wr := []) (w1 := []) hP hD [0] [] rfl rfl (by decide) (by decide) hk1 hFc wP_nil wD_nil
      clear hPc hDc
      generalize H1 = H at hP hS ⊢
      have hP : va_P D vwCl [] H := hP
      have hD : va_D A [] := hD
      refine lv_icmp_eq (tgt := 1531) hx hb dL_law_1205 (by decide) (fun _ => ?_) (fun h9 => absurd (Eq.trans hr190 (Eq.symm hr191)) h9)
      refine lv_iinc (v := 7) (lv' := [(4, .int 7), (3, .ref q105), (2, .ref q59), (1, .ref q1), (0, .ref b)]) hx hb dL_law_1531 hl (k := 0) rfl (by decide) (by decide) rfl (fun ls hl => ?_)
      refine lv_goto (tgt := 23) hx hb dL_law_1534 (by decide) ?_
      refine lv_iload hx hb dL_law_23 (lv_at hl 0 rfl) ?_
      refine lv_aload_n hx hb dL_law_25 rfl (lv_at hl 4 rfl) ?_
      refine va_slen hx hb hX hbl hbA hS dL_law_26 ?_
      refine wk_i 7 rfl ?_
      refine lv_bipush (v := 7) hx hb dL_law_27 (by decide) ?_
      refine lv_isub hx hb dL_law_29 ?_
      refine wk_i 0 (by decide) ?_
      refine lv_icmp_gt (tgt := 1537) hx hb dL_law_30 (by decide) (fun _ => ?_) (fun h9 => absurd h9 (by decide))
      refine lv_iconst (v := 1) hx hb dL_law_1537 (by decide) ?_
      refine va_forget (fun q hq => by have h9 := hS.2.2 q hq; rw [hAe] at h9; exact h9) ?_
      refine W.widen (k := 600002) (n := 7302232) (by omega) (by omega) ?_
      exact lw_ret hx hb hr hlocks dL_law_1538
    by_cases s192 : vs = 26
    · subst s192
      refine lv_tableIn (off := 1170) (tgt := 1210) hx hb dL_law_40 (by decide) (by decide) (by decide) (by decide) ?_
      have hP := hP.sub (ws' := [(q1, .inr (11, [.ref q3, .ref q26, .ref q28, .ref q35, .ref q39, .ref q43, .ref q46, .ref q52])), (q35, .inr (0, [.ref q32, .ref q36, .ref q37, .ref q38, .ref q33, .ref q34, .int 2, .int 0, .int 0])), (q38, .inl (G.2.1, 10, .inr (.inl (tL [0, 1, 0, 1, 0, 1, 0, 1, 0, 1])))), (q52, .inr (5, [.ref q53, .int 0])), (q75, .inl (G.2.1, 25, .inr (.inl (fun _ => 0)))), (q76, .inl (G.2.1, 25, .inr (.inl (fun _ => 0)))), (q77, .inl (G.2.1, 51200, .inr (.inl (fun _ => 0)))), (q59, .inr (12, [.ref q61, .ref q62, .ref q63, .ref q64, .ref q65, .ref q66, .ref q81, .ref q82, .ref q83, .ref q84, .ref q85, .ref q86, .int 0, .ref q87, .ref q88, .ref q89, .int 9, .int 0, .int 0, .ref q67, .ref q90, .ref q68, .int 0, .int 2, .ref q80, .ref q69, .ref q70, .ref q71, .int 0, .ref q72, .int 0, .ref q91, .ref q92, .ref q93, .ref q94, .int 0, .ref q73, .int 0, .int 0, .ref q95, .ref q96, .ref q97, .ref q98, .int 0, .int 0, .int 0, .int 0, .ref q99, .int 0, .ref q100, .ref q101, .ref q102, .ref q103, .int 0, .ref q74, .ref q75, .ref q76, .ref q77, .int 0, .ref q78, .ref q79, .ref q104]))]) [0, 33, 36, 50, 66, 67, 68, 71] rfl
      have hD := hD.sub (ws' := [(q1, .inr (11, [.ref q3, .ref q26, .ref q28, .ref q35, .ref q39, .ref q43, .ref q46, .ref q52])), (q35, .inr (0, [.ref q32, .ref q36, .ref q37, .ref q38, .ref q33, .ref q34, .int 2, .int 0, .int 0])), (q38, .inl (G.2.1, 10, .inr (.inl (tL [0, 1, 0, 1, 0, 1, 0, 1, 0, 1])))), (q52, .inr (5, [.ref q53, .int 0])), (q75, .inl (G.2.1, 25, .inr (.inl (fun _ => 0)))), (q76, .inl (G.2.1, 25, .inr (.inl (fun _ => 0)))), (q77, .inl (G.2.1, 51200, .inr (.inl (fun _ => 0)))), (q59, .inr (12, [.ref q61, .ref q62, .ref q63, .ref q64, .ref q65, .ref q66, .ref q81, .ref q82, .ref q83, .ref q84, .ref q85, .ref q86, .int 0, .ref q87, .ref q88, .ref q89, .int 9, .int 0, .int 0, .ref q67, .ref q90, .ref q68, .int 0, .int 2, .ref q80, .ref q69, .ref q70, .ref q71, .int 0, .ref q72, .int 0, .ref q91, .ref q92, .ref q93, .ref q94, .int 0, .ref q73, .int 0, .int 0, .ref q95, .ref q96, .ref q97, .ref q98, .int 0, .int 0, .int 0, .int 0, .ref q99, .int 0, .ref q100, .ref q101, .ref q102, .ref q103, .int 0, .ref q74, .ref q75, .ref q76, .ref q77, .int 0, .ref q78, .ref q79, .ref q104]))]) [0, 33, 36, 50, 66, 67, 68, 71] (by decide) rfl
      refine lv_aload_n hx hb dL_law_1210 rfl (lv_at hl 3 rfl) ?_
      have hPc := hP.sub (ws' := [(q1, .inr (11, [.ref q3, .ref q26, .ref q28, .ref q35, .ref q39, .ref q43, .ref q46, .ref q52])), (q35, .inr (0, [.ref q32, .ref q36, .ref q37, .ref q38, .ref q33, .ref q34, .int 2, .int 0, .int 0])), (q52, .inr (5, [.ref q53, .int 0])), (q38, .inl (G.2.1, 10, .inr (.inl (tL [0, 1, 0, 1, 0, 1, 0, 1, 0, 1]))))]) [0, 1, 3, 2] rfl
      have hDc := hD.sub (ws' := [(q1, .inr (11, [.ref q3, .ref q26, .ref q28, .ref q35, .ref q39, .ref q43, .ref q46, .ref q52])), (q35, .inr (0, [.ref q32, .ref q36, .ref q37, .ref q38, .ref q33, .ref q34, .int 2, .int 0, .int 0])), (q52, .inr (5, [.ref q53, .int 0])), (q38, .inl (G.2.1, 10, .inr (.inl (tL [0, 1, 0, 1, 0, 1, 0, 1, 0, 1]))))]) [0, 1, 3, 2] (by decide) rfl
      have hFc := va_free (wc := [(q1, .inr (11, [.ref q3, .ref q26, .ref q28, .ref q35, .ref q39, .ref q43, .ref q46, .ref q52])), (q35, .inr (0, [.ref q32, .ref q36, .ref q37, .ref q38, .ref q33, .ref q34, .int 2, .int 0, .int 0])), (q52, .inr (5, [.ref q53, .int 0])), (q38, .inl (G.2.1, 10, .inr (.inl (tL [0, 1, 0, 1, 0, 1, 0, 1, 0, 1]))))]) hD hS hA [0, 1, 3, 2] rfl
      have hZ := hZF
      refine va_calli (va_runV (As := []) (rest := []) ⟨hx, hb, hml, hown, hts⟩ (kX11_undo l D G q1 q3 q26 q28 q35 q39 q43 q46 q52 q32 q36 q37 q38 q33 q34 q53 tf H.size) (cwV 0 hts gL_law_X11_undo rfl rfl rfl (by decide +kernel) ⟨Nat.le_of_ble_eq_true rfl, Nat.le_of_ble_eq_true rfl⟩) ⟨wBF_blind, va_recv hK hPc (ci := 11) (q0 := 0) rfl rfl, wBF_pre hPc hK hDc hN hZ hS hFc⟩ rfl rfl hl.1 rfl (lv_room (Nat.le_of_ble_eq_true rfl)) dL_law_1211 ⟨Nat.le_of_ble_eq_true rfl, Nat.le_of_ble_eq_true rfl⟩) hS (fun q _ h => hFc q h) hFc (fun r193 u t H1 locs ht hvm hr193 hB hz1 hk1 hS => ?_)
      obtain ⟨hP, hD⟩ := va_join (wr := [(q75, .inl (G.2.1, 25, .inr (.inl (fun _ => 0)))), (q76, .inl (G.2.1, 25, .inr (.inl (fun _ => 0)))), (q77, .inl (G.2.1, 51200, .inr (.inl (fun _ => 0)))), (q59, .inr (12, [.ref q61, .ref q62, .ref q63, .ref q64, .ref q65, .ref q66, .ref q81, .ref q82, .ref q83, .ref q84, .ref q85, .ref q86, .int 0, .ref q87, .ref q88, .ref q89, .int 9, .int 0, .int 0, .ref q67, .ref q90, .ref q68, .int 0, .int 2, .ref q80, .ref q69, .ref q70, .ref q71, .int 0, .ref q72, .int 0, .ref q91, .ref q92, .ref q93, .ref q94, .int 0, .ref q73, .int 0, .int 0, .ref q95, .ref q96, .ref q97, .ref q98, .int 0, .int 0, .int 0, .int 0, .ref q99, .int 0, .ref q100, .ref q101, .ref q102, .ref q103, .int 0, .ref q74, .ref q75, .ref q76, .ref q77, .int 0, .ref q78, .ref q79, .ref q104]))]) (w1 := []) hP hD [0, 1, 3, 2] [4, 5, 6, 7] rfl rfl (by decide) (by decide) hk1 hFc wP_nil wD_nil
      clear hPc hDc
      generalize H1 = H at hP hS ⊢
      have hP : va_P D vwCl [(q75, .inl (G.2.1, 25, .inr (.inl (fun _ => 0)))), (q76, .inl (G.2.1, 25, .inr (.inl (fun _ => 0)))), (q77, .inl (G.2.1, 51200, .inr (.inl (fun _ => 0)))), (q59, .inr (12, [.ref q61, .ref q62, .ref q63, .ref q64, .ref q65, .ref q66, .ref q81, .ref q82, .ref q83, .ref q84, .ref q85, .ref q86, .int 0, .ref q87, .ref q88, .ref q89, .int 9, .int 0, .int 0, .ref q67, .ref q90, .ref q68, .int 0, .int 2, .ref q80, .ref q69, .ref q70, .ref q71, .int 0, .ref q72, .int 0, .ref q91, .ref q92, .ref q93, .ref q94, .int 0, .ref q73, .int 0, .int 0, .ref q95, .ref q96, .ref q97, .ref q98, .int 0, .int 0, .int 0, .int 0, .ref q99, .int 0, .ref q100, .ref q101, .ref q102, .ref q103, .int 0, .ref q74, .ref q75, .ref q76, .ref q77, .int 0, .ref q78, .ref q79, .ref q104]))] H := hP
      have hD : va_D A [(q75, .inl (G.2.1, 25, .inr (.inl (fun _ => 0)))), (q76, .inl (G.2.1, 25, .inr (.inl (fun _ => 0)))), (q77, .inl (G.2.1, 51200, .inr (.inl (fun _ => 0)))), (q59, .inr (12, [.ref q61, .ref q62, .ref q63, .ref q64, .ref q65, .ref q66, .ref q81, .ref q82, .ref q83, .ref q84, .ref q85, .ref q86, .int 0, .ref q87, .ref q88, .ref q89, .int 9, .int 0, .int 0, .ref q67, .ref q90, .ref q68, .int 0, .int 2, .ref q80, .ref q69, .ref q70, .ref q71, .int 0, .ref q72, .int 0, .ref q91, .ref q92, .ref q93, .ref q94, .int 0, .ref q73, .int 0, .int 0, .ref q95, .ref q96, .ref q97, .ref q98, .int 0, .int 0, .int 0, .int 0, .ref q99, .int 0, .ref q100, .ref q101, .ref q102, .ref q103, .int 0, .ref q74, .ref q75, .ref q76, .ref q77, .int 0, .ref q78, .ref q79, .ref q104]))] := hD
      subst hr193
      refine lv_aload_n hx hb dL_law_1214 rfl (lv_at hl 2 rfl) ?_
      have hPc := hP.sub (ws' := [(q59, .inr (12, [.ref q61, .ref q62, .ref q63, .ref q64, .ref q65, .ref q66, .ref q81, .ref q82, .ref q83, .ref q84, .ref q85, .ref q86, .int 0, .ref q87, .ref q88, .ref q89, .int 9, .int 0, .int 0, .ref q67, .ref q90, .ref q68, .int 0, .int 2, .ref q80, .ref q69, .ref q70, .ref q71, .int 0, .ref q72, .int 0, .ref q91, .ref q92, .ref q93, .ref q94, .int 0, .ref q73, .int 0, .int 0, .ref q95, .ref q96, .ref q97, .ref q98, .int 0, .int 0, .int 0, .int 0, .ref q99, .int 0, .ref q100, .ref q101, .ref q102, .ref q103, .int 0, .ref q74, .ref q75, .ref q76, .ref q77, .int 0, .ref q78, .ref q79, .ref q104])), (q75, .inl (G.2.1, 25, .inr (.inl (fun _ => 0)))), (q76, .inl (G.2.1, 25, .inr (.inl (fun _ => 0)))), (q77, .inl (G.2.1, 51200, .inr (.inl (fun _ => 0))))]) [3, 0, 1, 2] rfl
      have hDc := hD.sub (ws' := [(q59, .inr (12, [.ref q61, .ref q62, .ref q63, .ref q64, .ref q65, .ref q66, .ref q81, .ref q82, .ref q83, .ref q84, .ref q85, .ref q86, .int 0, .ref q87, .ref q88, .ref q89, .int 9, .int 0, .int 0, .ref q67, .ref q90, .ref q68, .int 0, .int 2, .ref q80, .ref q69, .ref q70, .ref q71, .int 0, .ref q72, .int 0, .ref q91, .ref q92, .ref q93, .ref q94, .int 0, .ref q73, .int 0, .int 0, .ref q95, .ref q96, .ref q97, .ref q98, .int 0, .int 0, .int 0, .int 0, .ref q99, .int 0, .ref q100, .ref q101, .ref q102, .ref q103, .int 0, .ref q74, .ref q75, .ref q76, .ref q77, .int 0, .ref q78, .ref q79, .ref q104])), (q75, .inl (G.2.1, 25, .inr (.inl (fun _ => 0)))), (q76, .inl (G.2.1, 25, .inr (.inl (fun _ => 0)))), (q77, .inl (G.2.1, 51200, .inr (.inl (fun _ => 0))))]) [3, 0, 1, 2] (by decide) rfl
      have hFc := va_free (wc := [(q59, .inr (12, [.ref q61, .ref q62, .ref q63, .ref q64, .ref q65, .ref q66, .ref q81, .ref q82, .ref q83, .ref q84, .ref q85, .ref q86, .int 0, .ref q87, .ref q88, .ref q89, .int 9, .int 0, .int 0, .ref q67, .ref q90, .ref q68, .int 0, .int 2, .ref q80, .ref q69, .ref q70, .ref q71, .int 0, .ref q72, .int 0, .ref q91, .ref q92, .ref q93, .ref q94, .int 0, .ref q73, .int 0, .int 0, .ref q95, .ref q96, .ref q97, .ref q98, .int 0, .int 0, .int 0, .int 0, .ref q99, .int 0, .ref q100, .ref q101, .ref q102, .ref q103, .int 0, .ref q74, .ref q75, .ref q76, .ref q77, .int 0, .ref q78, .ref q79, .ref q104])), (q75, .inl (G.2.1, 25, .inr (.inl (fun _ => 0)))), (q76, .inl (G.2.1, 25, .inr (.inl (fun _ => 0)))), (q77, .inl (G.2.1, 51200, .inr (.inl (fun _ => 0))))]) hD hS hA [3, 0, 1, 2] rfl
      refine va_calli (va_runV (As := []) (rest := [.int 0]) ⟨hx, hb, hml, hown, hts⟩ (kX12_undo l D G q59 q61 q62 q63 q64 q65 q66 q81 q82 q83 q84 q85 q86 q87 q88 q89 q67 q90 q68 q80 q69 q70 q71 q72 q91 q92 q93 q94 q73 q95 q96 q97 q98 q99 q100 q101 q102 q103 q74 q75 q76 q77 q78 q79 q104 H.size) (cwV 0 hts gL_law_X12_undo rfl rfl rfl (by decide +kernel) ⟨Nat.le_of_ble_eq_true rfl, Nat.le_of_ble_eq_true rfl⟩) ⟨wB_blind, va_recv hK hPc (ci := 12) (q0 := 0) rfl rfl, wB_pre hPc hK hDc hN⟩ rfl rfl hl.1 rfl (lv_room (Nat.le_of_ble_eq_true rfl)) dL_law_1215 ⟨Nat.le_of_ble_eq_true rfl, Nat.le_of_ble_eq_true rfl⟩) hS (fun q _ h => hFc q h) hFc (fun r194 u t H1 locs ht hvm hr194 hB hz1 hk1 hS => ?_)
      obtain ⟨hP, hD⟩ := va_join (wr := []) (w1 := []) hP hD [3, 0, 1, 2] [] rfl rfl (by decide) (by decide) hk1 hFc wP_nil wD_nil
      clear hPc hDc
      generalize H1 = H at hP hS ⊢
      have hP : va_P D vwCl [] H := hP
      have hD : va_D A [] := hD
      subst hr194
      refine lv_icmp_eq (tgt := 1531) hx hb dL_law_1218 (by decide) (fun _ => ?_) (fun h9 => absurd h9 (by decide))
      refine lv_iinc (v := 7) (lv' := [(4, .int 7), (3, .ref q105), (2, .ref q59), (1, .ref q1), (0, .ref b)]) hx hb dL_law_1531 hl (k := 0) rfl (by decide) (by decide) rfl (fun ls hl => ?_)
      refine lv_goto (tgt := 23) hx hb dL_law_1534 (by decide) ?_
      refine lv_iload hx hb dL_law_23 (lv_at hl 0 rfl) ?_
      refine lv_aload_n hx hb dL_law_25 rfl (lv_at hl 4 rfl) ?_
      refine va_slen hx hb hX hbl hbA hS dL_law_26 ?_
      refine wk_i 7 rfl ?_
      refine lv_bipush (v := 7) hx hb dL_law_27 (by decide) ?_
      refine lv_isub hx hb dL_law_29 ?_
      refine wk_i 0 (by decide) ?_
      refine lv_icmp_gt (tgt := 1537) hx hb dL_law_30 (by decide) (fun _ => ?_) (fun h9 => absurd h9 (by decide))
      refine lv_iconst (v := 1) hx hb dL_law_1537 (by decide) ?_
      refine va_forget (fun q hq => by have h9 := hS.2.2 q hq; rw [hAe] at h9; exact h9) ?_
      refine W.widen (k := 600002) (n := 7302232) (by omega) (by omega) ?_
      exact lw_ret hx hb hr hlocks dL_law_1538
    by_cases s195 : vs = 27
    · subst s195
      refine lv_tableIn (off := 1183) (tgt := 1223) hx hb dL_law_40 (by decide) (by decide) (by decide) (by decide) ?_
      have hP := hP.sub (ws' := [(q1, .inr (11, [.ref q3, .ref q26, .ref q28, .ref q35, .ref q39, .ref q43, .ref q46, .ref q52])), (q39, .inr (3, [.ref q40, .ref q41, .ref q42, .int 0])), (q40, .inl (G.1, 8, .inl (fun _ => 0))), (q72, .inl (G.1, 8, .inl (fun _ => 0))), (q59, .inr (12, [.ref q61, .ref q62, .ref q63, .ref q64, .ref q65, .ref q66, .ref q81, .ref q82, .ref q83, .ref q84, .ref q85, .ref q86, .int 0, .ref q87, .ref q88, .ref q89, .int 9, .int 0, .int 0, .ref q67, .ref q90, .ref q68, .int 0, .int 2, .ref q80, .ref q69, .ref q70, .ref q71, .int 0, .ref q72, .int 0, .ref q91, .ref q92, .ref q93, .ref q94, .int 0, .ref q73, .int 0, .int 0, .ref q95, .ref q96, .ref q97, .ref q98, .int 0, .int 0, .int 0, .int 0, .ref q99, .int 0, .ref q100, .ref q101, .ref q102, .ref q103, .int 0, .ref q74, .ref q75, .ref q76, .ref q77, .int 0, .ref q78, .ref q79, .ref q104]))]) [0, 37, 38, 63, 71] rfl
      have hD := hD.sub (ws' := [(q1, .inr (11, [.ref q3, .ref q26, .ref q28, .ref q35, .ref q39, .ref q43, .ref q46, .ref q52])), (q39, .inr (3, [.ref q40, .ref q41, .ref q42, .int 0])), (q40, .inl (G.1, 8, .inl (fun _ => 0))), (q72, .inl (G.1, 8, .inl (fun _ => 0))), (q59, .inr (12, [.ref q61, .ref q62, .ref q63, .ref q64, .ref q65, .ref q66, .ref q81, .ref q82, .ref q83, .ref q84, .ref q85, .ref q86, .int 0, .ref q87, .ref q88, .ref q89, .int 9, .int 0, .int 0, .ref q67, .ref q90, .ref q68, .int 0, .int 2, .ref q80, .ref q69, .ref q70, .ref q71, .int 0, .ref q72, .int 0, .ref q91, .ref q92, .ref q93, .ref q94, .int 0, .ref q73, .int 0, .int 0, .ref q95, .ref q96, .ref q97, .ref q98, .int 0, .int 0, .int 0, .int 0, .ref q99, .int 0, .ref q100, .ref q101, .ref q102, .ref q103, .int 0, .ref q74, .ref q75, .ref q76, .ref q77, .int 0, .ref q78, .ref q79, .ref q104]))]) [0, 37, 38, 63, 71] (by decide) rfl
      refine lv_aload_n hx hb dL_law_1223 rfl (lv_at hl 3 rfl) ?_
      refine lv_aload_n hx hb dL_law_1224 rfl (lv_at hl 4 rfl) ?_
      refine lv_iload hx hb dL_law_1225 (lv_at hl 0 rfl) ?_
      refine lv_iconst (v := 1) hx hb dL_law_1227 (by decide) ?_
      refine lv_iadd hx hb dL_law_1228 ?_
      refine wk_i 1 (by decide) ?_
      refine va_sld hx hb hX hbl hbA hS (wk_in rfl) dL_law_1229 ?_
      refine wk_i (xs 1) rfl ?_
      have hPc := hP.sub (ws' := [(q1, .inr (11, [.ref q3, .ref q26, .ref q28, .ref q35, .ref q39, .ref q43, .ref q46, .ref q52])), (q39, .inr (3, [.ref q40, .ref q41, .ref q42, .int 0])), (q40, .inl (G.1, 8, .inl (fun _ => 0)))]) [0, 1, 2] rfl
      have hDc := hD.sub (ws' := [(q1, .inr (11, [.ref q3, .ref q26, .ref q28, .ref q35, .ref q39, .ref q43, .ref q46, .ref q52])), (q39, .inr (3, [.ref q40, .ref q41, .ref q42, .int 0])), (q40, .inl (G.1, 8, .inl (fun _ => 0)))]) [0, 1, 2] (by decide) rfl
      have hFc := va_free (wc := [(q1, .inr (11, [.ref q3, .ref q26, .ref q28, .ref q35, .ref q39, .ref q43, .ref q46, .ref q52])), (q39, .inr (3, [.ref q40, .ref q41, .ref q42, .int 0])), (q40, .inl (G.1, 8, .inl (fun _ => 0)))]) hD hS hA [0, 1, 2] rfl
      refine va_calli (va_runV (As := [.int (xs 1)]) (rest := []) ⟨hx, hb, hml, hown, hts⟩ (kX11_scene l D G q1 (xs 1) q3 q26 q28 q35 q39 q43 q46 q52 q40 q41 q42 H.size) (cwV 1 hts gL_law_X11_scene rfl rfl rfl (by decide +kernel) ⟨Nat.le_of_ble_eq_true rfl, Nat.le_of_ble_eq_true rfl⟩) ⟨wB_blind, va_recv hK hPc (ci := 11) (q0 := 0) rfl rfl, wB_pre hPc hK hDc hN⟩ rfl rfl hl.1 rfl (lv_room (Nat.le_of_ble_eq_true rfl)) dL_law_1230 ⟨Nat.le_of_ble_eq_true rfl, Nat.le_of_ble_eq_true rfl⟩) hS (fun q _ h => hFc q h) hFc (fun r196 u t H1 locs ht hvm hr196 hB hz1 hk1 hS => ?_)
      obtain ⟨hP, hD⟩ := va_join (wr := [(q72, .inl (G.1, 8, .inl (fun _ => 0))), (q59, .inr (12, [.ref q61, .ref q62, .ref q63, .ref q64, .ref q65, .ref q66, .ref q81, .ref q82, .ref q83, .ref q84, .ref q85, .ref q86, .int 0, .ref q87, .ref q88, .ref q89, .int 9, .int 0, .int 0, .ref q67, .ref q90, .ref q68, .int 0, .int 2, .ref q80, .ref q69, .ref q70, .ref q71, .int 0, .ref q72, .int 0, .ref q91, .ref q92, .ref q93, .ref q94, .int 0, .ref q73, .int 0, .int 0, .ref q95, .ref q96, .ref q97, .ref q98, .int 0, .int 0, .int 0, .int 0, .ref q99, .int 0, .ref q100, .ref q101, .ref q102, .ref q103, .int 0, .ref q74, .ref q75, .ref q76, .ref q77, .int 0, .ref q78, .ref q79, .ref q104]))]) (w1 := []) hP hD [0, 1, 2] [3, 4] rfl rfl (by decide) (by decide) hk1 hFc wP_nil wD_nil
      clear hPc hDc
      generalize H1 = H at hP hS ⊢
      have hP : va_P D vwCl [(q72, .inl (G.1, 8, .inl (fun _ => 0))), (q59, .inr (12, [.ref q61, .ref q62, .ref q63, .ref q64, .ref q65, .ref q66, .ref q81, .ref q82, .ref q83, .ref q84, .ref q85, .ref q86, .int 0, .ref q87, .ref q88, .ref q89, .int 9, .int 0, .int 0, .ref q67, .ref q90, .ref q68, .int 0, .int 2, .ref q80, .ref q69, .ref q70, .ref q71, .int 0, .ref q72, .int 0, .ref q91, .ref q92, .ref q93, .ref q94, .int 0, .ref q73, .int 0, .int 0, .ref q95, .ref q96, .ref q97, .ref q98, .int 0, .int 0, .int 0, .int 0, .ref q99, .int 0, .ref q100, .ref q101, .ref q102, .ref q103, .int 0, .ref q74, .ref q75, .ref q76, .ref q77, .int 0, .ref q78, .ref q79, .ref q104]))] H := hP
      have hD : va_D A [(q72, .inl (G.1, 8, .inl (fun _ => 0))), (q59, .inr (12, [.ref q61, .ref q62, .ref q63, .ref q64, .ref q65, .ref q66, .ref q81, .ref q82, .ref q83, .ref q84, .ref q85, .ref q86, .int 0, .ref q87, .ref q88, .ref q89, .int 9, .int 0, .int 0, .ref q67, .ref q90, .ref q68, .int 0, .int 2, .ref q80, .ref q69, .ref q70, .ref q71, .int 0, .ref q72, .int 0, .ref q91, .ref q92, .ref q93, .ref q94, .int 0, .ref q73, .int 0, .int 0, .ref q95, .ref q96, .ref q97, .ref q98, .int 0, .int 0, .int 0, .int 0, .ref q99, .int 0, .ref q100, .ref q101, .ref q102, .ref q103, .int 0, .ref q74, .ref q75, .ref q76, .ref q77, .int 0, .ref q78, .ref q79, .ref q104]))] := hD
      refine lv_aload_n hx hb dL_law_1233 rfl (lv_at hl 2 rfl) ?_
      refine lv_aload_n hx hb dL_law_1234 rfl (lv_at hl 4 rfl) ?_
      refine lv_iload hx hb dL_law_1235 (lv_at hl 0 rfl) ?_
      refine lv_iconst (v := 1) hx hb dL_law_1237 (by decide) ?_
      refine lv_iadd hx hb dL_law_1238 ?_
      refine wk_i 1 (by decide) ?_
      refine va_sld hx hb hX hbl hbA hS (wk_in rfl) dL_law_1239 ?_
      refine wk_i (xs 1) rfl ?_
      have hPc := hP.sub (ws' := [(q59, .inr (12, [.ref q61, .ref q62, .ref q63, .ref q64, .ref q65, .ref q66, .ref q81, .ref q82, .ref q83, .ref q84, .ref q85, .ref q86, .int 0, .ref q87, .ref q88, .ref q89, .int 9, .int 0, .int 0, .ref q67, .ref q90, .ref q68, .int 0, .int 2, .ref q80, .ref q69, .ref q70, .ref q71, .int 0, .ref q72, .int 0, .ref q91, .ref q92, .ref q93, .ref q94, .int 0, .ref q73, .int 0, .int 0, .ref q95, .ref q96, .ref q97, .ref q98, .int 0, .int 0, .int 0, .int 0, .ref q99, .int 0, .ref q100, .ref q101, .ref q102, .ref q103, .int 0, .ref q74, .ref q75, .ref q76, .ref q77, .int 0, .ref q78, .ref q79, .ref q104])), (q72, .inl (G.1, 8, .inl (fun _ => 0)))]) [1, 0] rfl
      have hDc := hD.sub (ws' := [(q59, .inr (12, [.ref q61, .ref q62, .ref q63, .ref q64, .ref q65, .ref q66, .ref q81, .ref q82, .ref q83, .ref q84, .ref q85, .ref q86, .int 0, .ref q87, .ref q88, .ref q89, .int 9, .int 0, .int 0, .ref q67, .ref q90, .ref q68, .int 0, .int 2, .ref q80, .ref q69, .ref q70, .ref q71, .int 0, .ref q72, .int 0, .ref q91, .ref q92, .ref q93, .ref q94, .int 0, .ref q73, .int 0, .int 0, .ref q95, .ref q96, .ref q97, .ref q98, .int 0, .int 0, .int 0, .int 0, .ref q99, .int 0, .ref q100, .ref q101, .ref q102, .ref q103, .int 0, .ref q74, .ref q75, .ref q76, .ref q77, .int 0, .ref q78, .ref q79, .ref q104])), (q72, .inl (G.1, 8, .inl (fun _ => 0)))]) [1, 0] (by decide) rfl
      have hFc := va_free (wc := [(q59, .inr (12, [.ref q61, .ref q62, .ref q63, .ref q64, .ref q65, .ref q66, .ref q81, .ref q82, .ref q83, .ref q84, .ref q85, .ref q86, .int 0, .ref q87, .ref q88, .ref q89, .int 9, .int 0, .int 0, .ref q67, .ref q90, .ref q68, .int 0, .int 2, .ref q80, .ref q69, .ref q70, .ref q71, .int 0, .ref q72, .int 0, .ref q91, .ref q92, .ref q93, .ref q94, .int 0, .ref q73, .int 0, .int 0, .ref q95, .ref q96, .ref q97, .ref q98, .int 0, .int 0, .int 0, .int 0, .ref q99, .int 0, .ref q100, .ref q101, .ref q102, .ref q103, .int 0, .ref q74, .ref q75, .ref q76, .ref q77, .int 0, .ref q78, .ref q79, .ref q104])), (q72, .inl (G.1, 8, .inl (fun _ => 0)))]) hD hS hA [1, 0] rfl
      refine va_calli (va_runV (As := [.int (xs 1)]) (rest := [.int r196]) ⟨hx, hb, hml, hown, hts⟩ (kX12_scene l D G q59 (xs 1) q61 q62 q63 q64 q65 q66 q81 q82 q83 q84 q85 q86 q87 q88 q89 q67 q90 q68 q80 q69 q70 q71 q72 q91 q92 q93 q94 q73 q95 q96 q97 q98 q99 q100 q101 q102 q103 q74 q75 q76 q77 q78 q79 q104 H.size) (cwV 1 hts gL_law_X12_scene rfl rfl rfl (by decide +kernel) ⟨Nat.le_of_ble_eq_true rfl, Nat.le_of_ble_eq_true rfl⟩) ⟨wB_blind, va_recv hK hPc (ci := 12) (q0 := 0) rfl rfl, wB_pre hPc hK hDc hN⟩ rfl rfl hl.1 rfl (lv_room (Nat.le_of_ble_eq_true rfl)) dL_law_1240 ⟨Nat.le_of_ble_eq_true rfl, Nat.le_of_ble_eq_true rfl⟩) hS (fun q _ h => hFc q h) hFc (fun r197 u t H1 locs ht hvm hr197 hB hz1 hk1 hS => ?_)
      obtain ⟨hP, hD⟩ := va_join (wr := []) (w1 := []) hP hD [1, 0] [] rfl rfl (by decide) (by decide) hk1 hFc wP_nil wD_nil
      clear hPc hDc
      generalize H1 = H at hP hS ⊢
      have hP : va_P D vwCl [] H := hP
      have hD : va_D A [] := hD
      refine lv_icmp_eq (tgt := 1531) hx hb dL_law_1243 (by decide) (fun _ => ?_) (fun h9 => absurd (Eq.trans hr196 (Eq.symm hr197)) h9)
      refine lv_iinc (v := 7) (lv' := [(4, .int 7), (3, .ref q105), (2, .ref q59), (1, .ref q1), (0, .ref b)]) hx hb dL_law_1531 hl (k := 0) rfl (by decide) (by decide) rfl (fun ls hl => ?_)
      refine lv_goto (tgt := 23) hx hb dL_law_1534 (by decide) ?_
      refine lv_iload hx hb dL_law_23 (lv_at hl 0 rfl) ?_
      refine lv_aload_n hx hb dL_law_25 rfl (lv_at hl 4 rfl) ?_
      refine va_slen hx hb hX hbl hbA hS dL_law_26 ?_
      refine wk_i 7 rfl ?_
      refine lv_bipush (v := 7) hx hb dL_law_27 (by decide) ?_
      refine lv_isub hx hb dL_law_29 ?_
      refine wk_i 0 (by decide) ?_
      refine lv_icmp_gt (tgt := 1537) hx hb dL_law_30 (by decide) (fun _ => ?_) (fun h9 => absurd h9 (by decide))
      refine lv_iconst (v := 1) hx hb dL_law_1537 (by decide) ?_
      refine va_forget (fun q hq => by have h9 := hS.2.2 q hq; rw [hAe] at h9; exact h9) ?_
      refine W.widen (k := 600002) (n := 7302232) (by omega) (by omega) ?_
      exact lw_ret hx hb hr hlocks dL_law_1538
    by_cases s198 : vs = 28
    · subst s198
      refine lv_tableIn (off := 1208) (tgt := 1248) hx hb dL_law_40 (by decide) (by decide) (by decide) (by decide) ?_
      have hP := hP.sub (ws' := [(q1, .inr (11, [.ref q3, .ref q26, .ref q28, .ref q35, .ref q39, .ref q43, .ref q46, .ref q52])), (q39, .inr (3, [.ref q40, .ref q41, .ref q42, .int 0])), (q46, .inr (9, [.ref q47, .ref q48, .ref q49, .ref q50, .ref q51, .int 0])), (q59, .inr (12, [.ref q61, .ref q62, .ref q63, .ref q64, .ref q65, .ref q66, .ref q81, .ref q82, .ref q83, .ref q84, .ref q85, .ref q86, .int 0, .ref q87, .ref q88, .ref q89, .int 9, .int 0, .int 0, .ref q67, .ref q90, .ref q68, .int 0, .int 2, .ref q80, .ref q69, .ref q70, .ref q71, .int 0, .ref q72, .int 0, .ref q91, .ref q92, .ref q93, .ref q94, .int 0, .ref q73, .int 0, .int 0, .ref q95, .ref q96, .ref q97, .ref q98, .int 0, .int 0, .int 0, .int 0, .ref q99, .int 0, .ref q100, .ref q101, .ref q102, .ref q103, .int 0, .ref q74, .ref q75, .ref q76, .ref q77, .int 0, .ref q78, .ref q79, .ref q104]))]) [0, 37, 44, 71] rfl
      have hD := hD.sub (ws' := [(q1, .inr (11, [.ref q3, .ref q26, .ref q28, .ref q35, .ref q39, .ref q43, .ref q46, .ref q52])), (q39, .inr (3, [.ref q40, .ref q41, .ref q42, .int 0])), (q46, .inr (9, [.ref q47, .ref q48, .ref q49, .ref q50, .ref q51, .int 0])), (q59, .inr (12, [.ref q61, .ref q62, .ref q63, .ref q64, .ref q65, .ref q66, .ref q81, .ref q82, .ref q83, .ref q84, .ref q85, .ref q86, .int 0, .ref q87, .ref q88, .ref q89, .int 9, .int 0, .int 0, .ref q67, .ref q90, .ref q68, .int 0, .int 2, .ref q80, .ref q69, .ref q70, .ref q71, .int 0, .ref q72, .int 0, .ref q91, .ref q92, .ref q93, .ref q94, .int 0, .ref q73, .int 0, .int 0, .ref q95, .ref q96, .ref q97, .ref q98, .int 0, .int 0, .int 0, .int 0, .ref q99, .int 0, .ref q100, .ref q101, .ref q102, .ref q103, .int 0, .ref q74, .ref q75, .ref q76, .ref q77, .int 0, .ref q78, .ref q79, .ref q104]))]) [0, 37, 44, 71] (by decide) rfl
      refine lv_aload_n hx hb dL_law_1248 rfl (lv_at hl 3 rfl) ?_
      have hPc := hP.sub (ws' := [(q1, .inr (11, [.ref q3, .ref q26, .ref q28, .ref q35, .ref q39, .ref q43, .ref q46, .ref q52])), (q39, .inr (3, [.ref q40, .ref q41, .ref q42, .int 0])), (q46, .inr (9, [.ref q47, .ref q48, .ref q49, .ref q50, .ref q51, .int 0]))]) [0, 1, 2] rfl
      have hDc := hD.sub (ws' := [(q1, .inr (11, [.ref q3, .ref q26, .ref q28, .ref q35, .ref q39, .ref q43, .ref q46, .ref q52])), (q39, .inr (3, [.ref q40, .ref q41, .ref q42, .int 0])), (q46, .inr (9, [.ref q47, .ref q48, .ref q49, .ref q50, .ref q51, .int 0]))]) [0, 1, 2] (by decide) rfl
      have hFc := va_free (wc := [(q1, .inr (11, [.ref q3, .ref q26, .ref q28, .ref q35, .ref q39, .ref q43, .ref q46, .ref q52])), (q39, .inr (3, [.ref q40, .ref q41, .ref q42, .int 0])), (q46, .inr (9, [.ref q47, .ref q48, .ref q49, .ref q50, .ref q51, .int 0]))]) hD hS hA [0, 1, 2] rfl
      refine va_calli (va_runV (As := []) (rest := []) ⟨hx, hb, hml, hown, hts⟩ (kX11_clear l D G q1 q3 q26 q28 q35 q39 q43 q46 q52 q40 q41 q42 q47 q48 q49 q50 q51 H.size) (cwV 0 hts gL_law_X11_clear rfl rfl rfl (by decide +kernel) ⟨Nat.le_of_ble_eq_true rfl, Nat.le_of_ble_eq_true rfl⟩) ⟨wB_blind, va_recv hK hPc (ci := 11) (q0 := 0) rfl rfl, wB_pre hPc hK hDc hN⟩ rfl rfl hl.1 rfl (lv_room (Nat.le_of_ble_eq_true rfl)) dL_law_1249 ⟨Nat.le_of_ble_eq_true rfl, Nat.le_of_ble_eq_true rfl⟩) hS (fun q _ h => hFc q h) hFc (fun r199 u t H1 locs ht hvm hr199 hB hz1 hk1 hS => ?_)
      obtain ⟨hP, hD⟩ := va_join (wr := [(q59, .inr (12, [.ref q61, .ref q62, .ref q63, .ref q64, .ref q65, .ref q66, .ref q81, .ref q82, .ref q83, .ref q84, .ref q85, .ref q86, .int 0, .ref q87, .ref q88, .ref q89, .int 9, .int 0, .int 0, .ref q67, .ref q90, .ref q68, .int 0, .int 2, .ref q80, .ref q69, .ref q70, .ref q71, .int 0, .ref q72, .int 0, .ref q91, .ref q92, .ref q93, .ref q94, .int 0, .ref q73, .int 0, .int 0, .ref q95, .ref q96, .ref q97, .ref q98, .int 0, .int 0, .int 0, .int 0, .ref q99, .int 0, .ref q100, .ref q101, .ref q102, .ref q103, .int 0, .ref q74, .ref q75, .ref q76, .ref q77, .int 0, .ref q78, .ref q79, .ref q104]))]) (w1 := []) hP hD [0, 1, 2] [3] rfl rfl (by decide) (by decide) hk1 hFc wP_nil wD_nil
      clear hPc hDc
      generalize H1 = H at hP hS ⊢
      have hP : va_P D vwCl [(q59, .inr (12, [.ref q61, .ref q62, .ref q63, .ref q64, .ref q65, .ref q66, .ref q81, .ref q82, .ref q83, .ref q84, .ref q85, .ref q86, .int 0, .ref q87, .ref q88, .ref q89, .int 9, .int 0, .int 0, .ref q67, .ref q90, .ref q68, .int 0, .int 2, .ref q80, .ref q69, .ref q70, .ref q71, .int 0, .ref q72, .int 0, .ref q91, .ref q92, .ref q93, .ref q94, .int 0, .ref q73, .int 0, .int 0, .ref q95, .ref q96, .ref q97, .ref q98, .int 0, .int 0, .int 0, .int 0, .ref q99, .int 0, .ref q100, .ref q101, .ref q102, .ref q103, .int 0, .ref q74, .ref q75, .ref q76, .ref q77, .int 0, .ref q78, .ref q79, .ref q104]))] H := hP
      have hD : va_D A [(q59, .inr (12, [.ref q61, .ref q62, .ref q63, .ref q64, .ref q65, .ref q66, .ref q81, .ref q82, .ref q83, .ref q84, .ref q85, .ref q86, .int 0, .ref q87, .ref q88, .ref q89, .int 9, .int 0, .int 0, .ref q67, .ref q90, .ref q68, .int 0, .int 2, .ref q80, .ref q69, .ref q70, .ref q71, .int 0, .ref q72, .int 0, .ref q91, .ref q92, .ref q93, .ref q94, .int 0, .ref q73, .int 0, .int 0, .ref q95, .ref q96, .ref q97, .ref q98, .int 0, .int 0, .int 0, .int 0, .ref q99, .int 0, .ref q100, .ref q101, .ref q102, .ref q103, .int 0, .ref q74, .ref q75, .ref q76, .ref q77, .int 0, .ref q78, .ref q79, .ref q104]))] := hD
      subst hr199
      refine lv_aload_n hx hb dL_law_1252 rfl (lv_at hl 2 rfl) ?_
      have hPc := hP.sub (ws' := [(q59, .inr (12, [.ref q61, .ref q62, .ref q63, .ref q64, .ref q65, .ref q66, .ref q81, .ref q82, .ref q83, .ref q84, .ref q85, .ref q86, .int 0, .ref q87, .ref q88, .ref q89, .int 9, .int 0, .int 0, .ref q67, .ref q90, .ref q68, .int 0, .int 2, .ref q80, .ref q69, .ref q70, .ref q71, .int 0, .ref q72, .int 0, .ref q91, .ref q92, .ref q93, .ref q94, .int 0, .ref q73, .int 0, .int 0, .ref q95, .ref q96, .ref q97, .ref q98, .int 0, .int 0, .int 0, .int 0, .ref q99, .int 0, .ref q100, .ref q101, .ref q102, .ref q103, .int 0, .ref q74, .ref q75, .ref q76, .ref q77, .int 0, .ref q78, .ref q79, .ref q104]))]) [0] rfl
      have hDc := hD.sub (ws' := [(q59, .inr (12, [.ref q61, .ref q62, .ref q63, .ref q64, .ref q65, .ref q66, .ref q81, .ref q82, .ref q83, .ref q84, .ref q85, .ref q86, .int 0, .ref q87, .ref q88, .ref q89, .int 9, .int 0, .int 0, .ref q67, .ref q90, .ref q68, .int 0, .int 2, .ref q80, .ref q69, .ref q70, .ref q71, .int 0, .ref q72, .int 0, .ref q91, .ref q92, .ref q93, .ref q94, .int 0, .ref q73, .int 0, .int 0, .ref q95, .ref q96, .ref q97, .ref q98, .int 0, .int 0, .int 0, .int 0, .ref q99, .int 0, .ref q100, .ref q101, .ref q102, .ref q103, .int 0, .ref q74, .ref q75, .ref q76, .ref q77, .int 0, .ref q78, .ref q79, .ref q104]))]) [0] (by decide) rfl
      have hFc := va_free (wc := [(q59, .inr (12, [.ref q61, .ref q62, .ref q63, .ref q64, .ref q65, .ref q66, .ref q81, .ref q82, .ref q83, .ref q84, .ref q85, .ref q86, .int 0, .ref q87, .ref q88, .ref q89, .int 9, .int 0, .int 0, .ref q67, .ref q90, .ref q68, .int 0, .int 2, .ref q80, .ref q69, .ref q70, .ref q71, .int 0, .ref q72, .int 0, .ref q91, .ref q92, .ref q93, .ref q94, .int 0, .ref q73, .int 0, .int 0, .ref q95, .ref q96, .ref q97, .ref q98, .int 0, .int 0, .int 0, .int 0, .ref q99, .int 0, .ref q100, .ref q101, .ref q102, .ref q103, .int 0, .ref q74, .ref q75, .ref q76, .ref q77, .int 0, .ref q78, .ref q79, .ref q104]))]) hD hS hA [0] rfl
      refine va_calli (va_runV (As := []) (rest := [.int 0]) ⟨hx, hb, hml, hown, hts⟩ (kX12_clear l D G q59 q61 q62 q63 q64 q65 q66 q81 q82 q83 q84 q85 q86 q87 q88 q89 q67 q90 q68 q80 q69 q70 q71 q72 q91 q92 q93 q94 q73 q95 q96 q97 q98 q99 q100 q101 q102 q103 q74 q75 q76 q77 q78 q79 q104 H.size) (cwV 0 hts gL_law_X12_clear rfl rfl rfl (by decide +kernel) ⟨Nat.le_of_ble_eq_true rfl, Nat.le_of_ble_eq_true rfl⟩) ⟨wB_blind, va_recv hK hPc (ci := 12) (q0 := 0) rfl rfl, wB_pre hPc hK hDc hN⟩ rfl rfl hl.1 rfl (lv_room (Nat.le_of_ble_eq_true rfl)) dL_law_1253 ⟨Nat.le_of_ble_eq_true rfl, Nat.le_of_ble_eq_true rfl⟩) hS (fun q _ h => hFc q h) hFc (fun r200 u t H1 locs ht hvm hr200 hB hz1 hk1 hS => ?_)
      obtain ⟨hP, hD⟩ := va_join (wr := []) (w1 := []) hP hD [0] [] rfl rfl (by decide) (by decide) hk1 hFc wP_nil wD_nil
      clear hPc hDc
      generalize H1 = H at hP hS ⊢
      have hP : va_P D vwCl [] H := hP
      have hD : va_D A [] := hD
      subst hr200
      refine lv_icmp_eq (tgt := 1531) hx hb dL_law_1256 (by decide) (fun _ => ?_) (fun h9 => absurd h9 (by decide))
      refine lv_iinc (v := 7) (lv' := [(4, .int 7), (3, .ref q105), (2, .ref q59), (1, .ref q1), (0, .ref b)]) hx hb dL_law_1531 hl (k := 0) rfl (by decide) (by decide) rfl (fun ls hl => ?_)
      refine lv_goto (tgt := 23) hx hb dL_law_1534 (by decide) ?_
      refine lv_iload hx hb dL_law_23 (lv_at hl 0 rfl) ?_
      refine lv_aload_n hx hb dL_law_25 rfl (lv_at hl 4 rfl) ?_
      refine va_slen hx hb hX hbl hbA hS dL_law_26 ?_
      refine wk_i 7 rfl ?_
      refine lv_bipush (v := 7) hx hb dL_law_27 (by decide) ?_
      refine lv_isub hx hb dL_law_29 ?_
      refine wk_i 0 (by decide) ?_
      refine lv_icmp_gt (tgt := 1537) hx hb dL_law_30 (by decide) (fun _ => ?_) (fun h9 => absurd h9 (by decide))
      refine lv_iconst (v := 1) hx hb dL_law_1537 (by decide) ?_
      refine va_forget (fun q hq => by have h9 := hS.2.2 q hq; rw [hAe] at h9; exact h9) ?_
      refine W.widen (k := 600002) (n := 7302232) (by omega) (by omega) ?_
      exact lw_ret hx hb hr hlocks dL_law_1538
    by_cases s201 : vs = 29
    · subst s201
      refine lv_tableIn (off := 1221) (tgt := 1261) hx hb dL_law_40 (by decide) (by decide) (by decide) (by decide) ?_
      have hP := hP.sub (ws' := [(q1, .inr (11, [.ref q3, .ref q26, .ref q28, .ref q35, .ref q39, .ref q43, .ref q46, .ref q52])), (q39, .inr (3, [.ref q40, .ref q41, .ref q42, .int 0])), (q41, .inl (G.1, 4, .inl (fun _ => 0))), (q52, .inr (5, [.ref q53, .int 0])), (q78, .inl (G.1, 2304, .inl (fun _ => 0))), (q59, .inr (12, [.ref q61, .ref q62, .ref q63, .ref q64, .ref q65, .ref q66, .ref q81, .ref q82, .ref q83, .ref q84, .ref q85, .ref q86, .int 0, .ref q87, .ref q88, .ref q89, .int 9, .int 0, .int 0, .ref q67, .ref q90, .ref q68, .int 0, .int 2, .ref q80, .ref q69, .ref q70, .ref q71, .int 0, .ref q72, .int 0, .ref q91, .ref q92, .ref q93, .ref q94, .int 0, .ref q73, .int 0, .int 0, .ref q95, .ref q96, .ref q97, .ref q98, .int 0, .int 0, .int 0, .int 0, .ref q99, .int 0, .ref q100, .ref q101, .ref q102, .ref q103, .int 0, .ref q74, .ref q75, .ref q76, .ref q77, .int 0, .ref q78, .ref q79, .ref q104]))]) [0, 37, 39, 50, 69, 71] rfl
      have hD := hD.sub (ws' := [(q1, .inr (11, [.ref q3, .ref q26, .ref q28, .ref q35, .ref q39, .ref q43, .ref q46, .ref q52])), (q39, .inr (3, [.ref q40, .ref q41, .ref q42, .int 0])), (q41, .inl (G.1, 4, .inl (fun _ => 0))), (q52, .inr (5, [.ref q53, .int 0])), (q78, .inl (G.1, 2304, .inl (fun _ => 0))), (q59, .inr (12, [.ref q61, .ref q62, .ref q63, .ref q64, .ref q65, .ref q66, .ref q81, .ref q82, .ref q83, .ref q84, .ref q85, .ref q86, .int 0, .ref q87, .ref q88, .ref q89, .int 9, .int 0, .int 0, .ref q67, .ref q90, .ref q68, .int 0, .int 2, .ref q80, .ref q69, .ref q70, .ref q71, .int 0, .ref q72, .int 0, .ref q91, .ref q92, .ref q93, .ref q94, .int 0, .ref q73, .int 0, .int 0, .ref q95, .ref q96, .ref q97, .ref q98, .int 0, .int 0, .int 0, .int 0, .ref q99, .int 0, .ref q100, .ref q101, .ref q102, .ref q103, .int 0, .ref q74, .ref q75, .ref q76, .ref q77, .int 0, .ref q78, .ref q79, .ref q104]))]) [0, 37, 39, 50, 69, 71] (by decide) rfl
      refine lv_aload_n hx hb dL_law_1261 rfl (lv_at hl 3 rfl) ?_
      refine lv_aload_n hx hb dL_law_1262 rfl (lv_at hl 4 rfl) ?_
      refine lv_iload hx hb dL_law_1263 (lv_at hl 0 rfl) ?_
      refine lv_iconst (v := 1) hx hb dL_law_1265 (by decide) ?_
      refine lv_iadd hx hb dL_law_1266 ?_
      refine wk_i 1 (by decide) ?_
      refine va_sld hx hb hX hbl hbA hS (wk_in rfl) dL_law_1267 ?_
      refine wk_i (xs 1) rfl ?_
      have hPc := hP.sub (ws' := [(q1, .inr (11, [.ref q3, .ref q26, .ref q28, .ref q35, .ref q39, .ref q43, .ref q46, .ref q52])), (q39, .inr (3, [.ref q40, .ref q41, .ref q42, .int 0])), (q52, .inr (5, [.ref q53, .int 0])), (q41, .inl (G.1, 4, .inl (fun _ => 0)))]) [0, 1, 3, 2] rfl
      have hDc := hD.sub (ws' := [(q1, .inr (11, [.ref q3, .ref q26, .ref q28, .ref q35, .ref q39, .ref q43, .ref q46, .ref q52])), (q39, .inr (3, [.ref q40, .ref q41, .ref q42, .int 0])), (q52, .inr (5, [.ref q53, .int 0])), (q41, .inl (G.1, 4, .inl (fun _ => 0)))]) [0, 1, 3, 2] (by decide) rfl
      have hFc := va_free (wc := [(q1, .inr (11, [.ref q3, .ref q26, .ref q28, .ref q35, .ref q39, .ref q43, .ref q46, .ref q52])), (q39, .inr (3, [.ref q40, .ref q41, .ref q42, .int 0])), (q52, .inr (5, [.ref q53, .int 0])), (q41, .inl (G.1, 4, .inl (fun _ => 0)))]) hD hS hA [0, 1, 3, 2] rfl
      refine va_calli (va_runV (As := [.int (xs 1)]) (rest := []) ⟨hx, hb, hml, hown, hts⟩ (kX11_cast l D G q1 (xs 1) q3 q26 q28 q35 q39 q43 q46 q52 q40 q41 q42 q53 H.size) (cwV 1 hts gL_law_X11_cast rfl rfl rfl (by decide +kernel) ⟨Nat.le_of_ble_eq_true rfl, Nat.le_of_ble_eq_true rfl⟩) ⟨wB_blind, va_recv hK hPc (ci := 11) (q0 := 0) rfl rfl, wB_pre hPc hK hDc hN⟩ rfl rfl hl.1 rfl (lv_room (Nat.le_of_ble_eq_true rfl)) dL_law_1268 ⟨Nat.le_of_ble_eq_true rfl, Nat.le_of_ble_eq_true rfl⟩) hS (fun q _ h => hFc q h) hFc (fun r202 u t H1 locs ht hvm hr202 hB hz1 hk1 hS => ?_)
      obtain ⟨hP, hD⟩ := va_join (wr := [(q78, .inl (G.1, 2304, .inl (fun _ => 0))), (q59, .inr (12, [.ref q61, .ref q62, .ref q63, .ref q64, .ref q65, .ref q66, .ref q81, .ref q82, .ref q83, .ref q84, .ref q85, .ref q86, .int 0, .ref q87, .ref q88, .ref q89, .int 9, .int 0, .int 0, .ref q67, .ref q90, .ref q68, .int 0, .int 2, .ref q80, .ref q69, .ref q70, .ref q71, .int 0, .ref q72, .int 0, .ref q91, .ref q92, .ref q93, .ref q94, .int 0, .ref q73, .int 0, .int 0, .ref q95, .ref q96, .ref q97, .ref q98, .int 0, .int 0, .int 0, .int 0, .ref q99, .int 0, .ref q100, .ref q101, .ref q102, .ref q103, .int 0, .ref q74, .ref q75, .ref q76, .ref q77, .int 0, .ref q78, .ref q79, .ref q104]))]) (w1 := []) hP hD [0, 1, 3, 2] [4, 5] rfl rfl (by decide) (by decide) hk1 hFc wP_nil wD_nil
      clear hPc hDc
      generalize H1 = H at hP hS ⊢
      have hP : va_P D vwCl [(q78, .inl (G.1, 2304, .inl (fun _ => 0))), (q59, .inr (12, [.ref q61, .ref q62, .ref q63, .ref q64, .ref q65, .ref q66, .ref q81, .ref q82, .ref q83, .ref q84, .ref q85, .ref q86, .int 0, .ref q87, .ref q88, .ref q89, .int 9, .int 0, .int 0, .ref q67, .ref q90, .ref q68, .int 0, .int 2, .ref q80, .ref q69, .ref q70, .ref q71, .int 0, .ref q72, .int 0, .ref q91, .ref q92, .ref q93, .ref q94, .int 0, .ref q73, .int 0, .int 0, .ref q95, .ref q96, .ref q97, .ref q98, .int 0, .int 0, .int 0, .int 0, .ref q99, .int 0, .ref q100, .ref q101, .ref q102, .ref q103, .int 0, .ref q74, .ref q75, .ref q76, .ref q77, .int 0, .ref q78, .ref q79, .ref q104]))] H := hP
      have hD : va_D A [(q78, .inl (G.1, 2304, .inl (fun _ => 0))), (q59, .inr (12, [.ref q61, .ref q62, .ref q63, .ref q64, .ref q65, .ref q66, .ref q81, .ref q82, .ref q83, .ref q84, .ref q85, .ref q86, .int 0, .ref q87, .ref q88, .ref q89, .int 9, .int 0, .int 0, .ref q67, .ref q90, .ref q68, .int 0, .int 2, .ref q80, .ref q69, .ref q70, .ref q71, .int 0, .ref q72, .int 0, .ref q91, .ref q92, .ref q93, .ref q94, .int 0, .ref q73, .int 0, .int 0, .ref q95, .ref q96, .ref q97, .ref q98, .int 0, .int 0, .int 0, .int 0, .ref q99, .int 0, .ref q100, .ref q101, .ref q102, .ref q103, .int 0, .ref q74, .ref q75, .ref q76, .ref q77, .int 0, .ref q78, .ref q79, .ref q104]))] := hD
      refine lv_aload_n hx hb dL_law_1271 rfl (lv_at hl 2 rfl) ?_
      refine lv_aload_n hx hb dL_law_1272 rfl (lv_at hl 4 rfl) ?_
      refine lv_iload hx hb dL_law_1273 (lv_at hl 0 rfl) ?_
      refine lv_iconst (v := 1) hx hb dL_law_1275 (by decide) ?_
      refine lv_iadd hx hb dL_law_1276 ?_
      refine wk_i 1 (by decide) ?_
      refine va_sld hx hb hX hbl hbA hS (wk_in rfl) dL_law_1277 ?_
      refine wk_i (xs 1) rfl ?_
      have hPc := hP.sub (ws' := [(q59, .inr (12, [.ref q61, .ref q62, .ref q63, .ref q64, .ref q65, .ref q66, .ref q81, .ref q82, .ref q83, .ref q84, .ref q85, .ref q86, .int 0, .ref q87, .ref q88, .ref q89, .int 9, .int 0, .int 0, .ref q67, .ref q90, .ref q68, .int 0, .int 2, .ref q80, .ref q69, .ref q70, .ref q71, .int 0, .ref q72, .int 0, .ref q91, .ref q92, .ref q93, .ref q94, .int 0, .ref q73, .int 0, .int 0, .ref q95, .ref q96, .ref q97, .ref q98, .int 0, .int 0, .int 0, .int 0, .ref q99, .int 0, .ref q100, .ref q101, .ref q102, .ref q103, .int 0, .ref q74, .ref q75, .ref q76, .ref q77, .int 0, .ref q78, .ref q79, .ref q104])), (q78, .inl (G.1, 2304, .inl (fun _ => 0)))]) [1, 0] rfl
      have hDc := hD.sub (ws' := [(q59, .inr (12, [.ref q61, .ref q62, .ref q63, .ref q64, .ref q65, .ref q66, .ref q81, .ref q82, .ref q83, .ref q84, .ref q85, .ref q86, .int 0, .ref q87, .ref q88, .ref q89, .int 9, .int 0, .int 0, .ref q67, .ref q90, .ref q68, .int 0, .int 2, .ref q80, .ref q69, .ref q70, .ref q71, .int 0, .ref q72, .int 0, .ref q91, .ref q92, .ref q93, .ref q94, .int 0, .ref q73, .int 0, .int 0, .ref q95, .ref q96, .ref q97, .ref q98, .int 0, .int 0, .int 0, .int 0, .ref q99, .int 0, .ref q100, .ref q101, .ref q102, .ref q103, .int 0, .ref q74, .ref q75, .ref q76, .ref q77, .int 0, .ref q78, .ref q79, .ref q104])), (q78, .inl (G.1, 2304, .inl (fun _ => 0)))]) [1, 0] (by decide) rfl
      have hFc := va_free (wc := [(q59, .inr (12, [.ref q61, .ref q62, .ref q63, .ref q64, .ref q65, .ref q66, .ref q81, .ref q82, .ref q83, .ref q84, .ref q85, .ref q86, .int 0, .ref q87, .ref q88, .ref q89, .int 9, .int 0, .int 0, .ref q67, .ref q90, .ref q68, .int 0, .int 2, .ref q80, .ref q69, .ref q70, .ref q71, .int 0, .ref q72, .int 0, .ref q91, .ref q92, .ref q93, .ref q94, .int 0, .ref q73, .int 0, .int 0, .ref q95, .ref q96, .ref q97, .ref q98, .int 0, .int 0, .int 0, .int 0, .ref q99, .int 0, .ref q100, .ref q101, .ref q102, .ref q103, .int 0, .ref q74, .ref q75, .ref q76, .ref q77, .int 0, .ref q78, .ref q79, .ref q104])), (q78, .inl (G.1, 2304, .inl (fun _ => 0)))]) hD hS hA [1, 0] rfl
      refine va_calli (va_runV (As := [.int (xs 1)]) (rest := [.int r202]) ⟨hx, hb, hml, hown, hts⟩ (kX12_cast l D G q59 (xs 1) q61 q62 q63 q64 q65 q66 q81 q82 q83 q84 q85 q86 q87 q88 q89 q67 q90 q68 q80 q69 q70 q71 q72 q91 q92 q93 q94 q73 q95 q96 q97 q98 q99 q100 q101 q102 q103 q74 q75 q76 q77 q78 q79 q104 H.size) (cwV 1 hts gL_law_X12_cast rfl rfl rfl (by decide +kernel) ⟨Nat.le_of_ble_eq_true rfl, Nat.le_of_ble_eq_true rfl⟩) ⟨wB_blind, va_recv hK hPc (ci := 12) (q0 := 0) rfl rfl, wB_pre hPc hK hDc hN⟩ rfl rfl hl.1 rfl (lv_room (Nat.le_of_ble_eq_true rfl)) dL_law_1278 ⟨Nat.le_of_ble_eq_true rfl, Nat.le_of_ble_eq_true rfl⟩) hS (fun q _ h => hFc q h) hFc (fun r203 u t H1 locs ht hvm hr203 hB hz1 hk1 hS => ?_)
      obtain ⟨hP, hD⟩ := va_join (wr := []) (w1 := []) hP hD [1, 0] [] rfl rfl (by decide) (by decide) hk1 hFc wP_nil wD_nil
      clear hPc hDc
      generalize H1 = H at hP hS ⊢
      have hP : va_P D vwCl [] H := hP
      have hD : va_D A [] := hD
      refine lv_icmp_eq (tgt := 1531) hx hb dL_law_1281 (by decide) (fun _ => ?_) (fun h9 => absurd (Eq.trans hr202 (Eq.symm hr203)) h9)
      refine lv_iinc (v := 7) (lv' := [(4, .int 7), (3, .ref q105), (2, .ref q59), (1, .ref q1), (0, .ref b)]) hx hb dL_law_1531 hl (k := 0) rfl (by decide) (by decide) rfl (fun ls hl => ?_)
      refine lv_goto (tgt := 23) hx hb dL_law_1534 (by decide) ?_
      refine lv_iload hx hb dL_law_23 (lv_at hl 0 rfl) ?_
      refine lv_aload_n hx hb dL_law_25 rfl (lv_at hl 4 rfl) ?_
      refine va_slen hx hb hX hbl hbA hS dL_law_26 ?_
      refine wk_i 7 rfl ?_
      refine lv_bipush (v := 7) hx hb dL_law_27 (by decide) ?_
      refine lv_isub hx hb dL_law_29 ?_
      refine wk_i 0 (by decide) ?_
      refine lv_icmp_gt (tgt := 1537) hx hb dL_law_30 (by decide) (fun _ => ?_) (fun h9 => absurd h9 (by decide))
      refine lv_iconst (v := 1) hx hb dL_law_1537 (by decide) ?_
      refine va_forget (fun q hq => by have h9 := hS.2.2 q hq; rw [hAe] at h9; exact h9) ?_
      refine W.widen (k := 600002) (n := 7302232) (by omega) (by omega) ?_
      exact lw_ret hx hb hr hlocks dL_law_1538
    by_cases s204 : vs = 30
    · subst s204
      refine lv_tableIn (off := 1246) (tgt := 1286) hx hb dL_law_40 (by decide) (by decide) (by decide) (by decide) ?_
      have hP := hP.sub (ws' := [(q1, .inr (11, [.ref q3, .ref q26, .ref q28, .ref q35, .ref q39, .ref q43, .ref q46, .ref q52])), (q3, .inr (8, [.ref q4, .ref q54, .ref q55, .ref q5, .ref q6, .int 0, .int 0, .int 9, .int 0, .int 0])), (q59, .inr (12, [.ref q61, .ref q62, .ref q63, .ref q64, .ref q65, .ref q66, .ref q81, .ref q82, .ref q83, .ref q84, .ref q85, .ref q86, .int 0, .ref q87, .ref q88, .ref q89, .int 9, .int 0, .int 0, .ref q67, .ref q90, .ref q68, .int 0, .int 2, .ref q80, .ref q69, .ref q70, .ref q71, .int 0, .ref q72, .int 0, .ref q91, .ref q92, .ref q93, .ref q94, .int 0, .ref q73, .int 0, .int 0, .ref q95, .ref q96, .ref q97, .ref q98, .int 0, .int 0, .int 0, .int 0, .ref q99, .int 0, .ref q100, .ref q101, .ref q102, .ref q103, .int 0, .ref q74, .ref q75, .ref q76, .ref q77, .int 0, .ref q78, .ref q79, .ref q104]))]) [0, 1, 71] rfl
      have hD := hD.sub (ws' := [(q1, .inr (11, [.ref q3, .ref q26, .ref q28, .ref q35, .ref q39, .ref q43, .ref q46, .ref q52])), (q3, .inr (8, [.ref q4, .ref q54, .ref q55, .ref q5, .ref q6, .int 0, .int 0, .int 9, .int 0, .int 0])), (q59, .inr (12, [.ref q61, .ref q62, .ref q63, .ref q64, .ref q65, .ref q66, .ref q81, .ref q82, .ref q83, .ref q84, .ref q85, .ref q86, .int 0, .ref q87, .ref q88, .ref q89, .int 9, .int 0, .int 0, .ref q67, .ref q90, .ref q68, .int 0, .int 2, .ref q80, .ref q69, .ref q70, .ref q71, .int 0, .ref q72, .int 0, .ref q91, .ref q92, .ref q93, .ref q94, .int 0, .ref q73, .int 0, .int 0, .ref q95, .ref q96, .ref q97, .ref q98, .int 0, .int 0, .int 0, .int 0, .ref q99, .int 0, .ref q100, .ref q101, .ref q102, .ref q103, .int 0, .ref q74, .ref q75, .ref q76, .ref q77, .int 0, .ref q78, .ref q79, .ref q104]))]) [0, 1, 71] (by decide) rfl
      refine lv_aload_n hx hb dL_law_1286 rfl (lv_at hl 3 rfl) ?_
      refine lv_aload_n hx hb dL_law_1287 rfl (lv_at hl 4 rfl) ?_
      refine lv_iload hx hb dL_law_1288 (lv_at hl 0 rfl) ?_
      refine lv_iconst (v := 1) hx hb dL_law_1290 (by decide) ?_
      refine lv_iadd hx hb dL_law_1291 ?_
      refine wk_i 1 (by decide) ?_
      refine va_sld hx hb hX hbl hbA hS (wk_in rfl) dL_law_1292 ?_
      refine wk_i (xs 1) rfl ?_
      refine lv_aload_n hx hb dL_law_1293 rfl (lv_at hl 4 rfl) ?_
      refine lv_iload hx hb dL_law_1294 (lv_at hl 0 rfl) ?_
      refine lv_iconst (v := 2) hx hb dL_law_1296 (by decide) ?_
      refine lv_iadd hx hb dL_law_1297 ?_
      refine wk_i 2 (by decide) ?_
      refine va_sld hx hb hX hbl hbA hS (wk_in rfl) dL_law_1298 ?_
      refine wk_i (xs 2) rfl ?_
      refine lv_aload_n hx hb dL_law_1299 rfl (lv_at hl 4 rfl) ?_
      refine lv_iload hx hb dL_law_1300 (lv_at hl 0 rfl) ?_
      refine lv_iconst (v := 3) hx hb dL_law_1302 (by decide) ?_
      refine lv_iadd hx hb dL_law_1303 ?_
      refine wk_i 3 (by decide) ?_
      refine va_sld hx hb hX hbl hbA hS (wk_in rfl) dL_law_1304 ?_
      refine wk_i (xs 3) rfl ?_
      refine lv_aload_n hx hb dL_law_1305 rfl (lv_at hl 4 rfl) ?_
      refine lv_iload hx hb dL_law_1306 (lv_at hl 0 rfl) ?_
      refine lv_iconst (v := 4) hx hb dL_law_1308 (by decide) ?_
      refine lv_iadd hx hb dL_law_1309 ?_
      refine wk_i 4 (by decide) ?_
      refine va_sld hx hb hX hbl hbA hS (wk_in rfl) dL_law_1310 ?_
      refine wk_i (xs 4) rfl ?_
      refine lv_aload_n hx hb dL_law_1311 rfl (lv_at hl 4 rfl) ?_
      refine lv_iload hx hb dL_law_1312 (lv_at hl 0 rfl) ?_
      refine lv_iconst (v := 5) hx hb dL_law_1314 (by decide) ?_
      refine lv_iadd hx hb dL_law_1315 ?_
      refine wk_i 5 (by decide) ?_
      refine va_sld hx hb hX hbl hbA hS (wk_in rfl) dL_law_1316 ?_
      refine wk_i (xs 5) rfl ?_
      refine lv_aload_n hx hb dL_law_1317 rfl (lv_at hl 1 rfl) ?_
      have hPc := hP.sub (ws' := [(q1, .inr (11, [.ref q3, .ref q26, .ref q28, .ref q35, .ref q39, .ref q43, .ref q46, .ref q52])), (q3, .inr (8, [.ref q4, .ref q54, .ref q55, .ref q5, .ref q6, .int 0, .int 0, .int 9, .int 0, .int 0]))]) [0, 1] rfl
      have hDc := hD.sub (ws' := [(q1, .inr (11, [.ref q3, .ref q26, .ref q28, .ref q35, .ref q39, .ref q43, .ref q46, .ref q52])), (q3, .inr (8, [.ref q4, .ref q54, .ref q55, .ref q5, .ref q6, .int 0, .int 0, .int 9, .int 0, .int 0]))]) [0, 1] (by decide) rfl
      have hFc := va_free (wc := [(q1, .inr (11, [.ref q3, .ref q26, .ref q28, .ref q35, .ref q39, .ref q43, .ref q46, .ref q52])), (q3, .inr (8, [.ref q4, .ref q54, .ref q55, .ref q5, .ref q6, .int 0, .int 0, .int 9, .int 0, .int 0]))]) hD hS hA [0, 1] rfl
      have hZ := hZX
      refine va_calli (vx_runSW (As := [.ref q1, .int (xs 1), .int (xs 2), .int (xs 3), .int (xs 4), .int (xs 5), .ref q105]) (rest := []) ⟨hx, hb, hml, hown, hts⟩ (kL_reach l D G q1 (xs 1) (xs 2) (xs 3) (xs 4) (xs 5) q105 q3 q26 q28 q35 q39 q43 q46 q52 q4 q54 q55 q5 q6 hlt H.size) (vx_cwSW 7 hts gL_law_L_reach rfl rfl rfl (by decide +kernel) ⟨Nat.le_of_ble_eq_true rfl, Nat.le_of_ble_eq_true rfl⟩) ⟨wBX_blind, wBX_pre hPc hK hDc hN hZ hS hFc⟩ rfl rfl hl.1 rfl (lv_room (Nat.le_of_ble_eq_true rfl)) dL_law_1318 ⟨Nat.le_of_ble_eq_true rfl, Nat.le_of_ble_eq_true rfl⟩) hS (fun q _ h => hFc q h) hFc (fun r205 u t H1 locs ht hvm hr205 hB hz1 hk1 hS => ?_)
      obtain ⟨hP, hD⟩ := va_join (wr := [(q59, .inr (12, [.ref q61, .ref q62, .ref q63, .ref q64, .ref q65, .ref q66, .ref q81, .ref q82, .ref q83, .ref q84, .ref q85, .ref q86, .int 0, .ref q87, .ref q88, .ref q89, .int 9, .int 0, .int 0, .ref q67, .ref q90, .ref q68, .int 0, .int 2, .ref q80, .ref q69, .ref q70, .ref q71, .int 0, .ref q72, .int 0, .ref q91, .ref q92, .ref q93, .ref q94, .int 0, .ref q73, .int 0, .int 0, .ref q95, .ref q96, .ref q97, .ref q98, .int 0, .int 0, .int 0, .int 0, .ref q99, .int 0, .ref q100, .ref q101, .ref q102, .ref q103, .int 0, .ref q74, .ref q75, .ref q76, .ref q77, .int 0, .ref q78, .ref q79, .ref q104]))]) (w1 := []) hP hD [0, 1] [2] rfl rfl (by decide) (by decide) hk1 hFc wP_nil wD_nil
      clear hPc hDc
      generalize H1 = H at hP hS ⊢
      have hP : va_P D vwCl [(q59, .inr (12, [.ref q61, .ref q62, .ref q63, .ref q64, .ref q65, .ref q66, .ref q81, .ref q82, .ref q83, .ref q84, .ref q85, .ref q86, .int 0, .ref q87, .ref q88, .ref q89, .int 9, .int 0, .int 0, .ref q67, .ref q90, .ref q68, .int 0, .int 2, .ref q80, .ref q69, .ref q70, .ref q71, .int 0, .ref q72, .int 0, .ref q91, .ref q92, .ref q93, .ref q94, .int 0, .ref q73, .int 0, .int 0, .ref q95, .ref q96, .ref q97, .ref q98, .int 0, .int 0, .int 0, .int 0, .ref q99, .int 0, .ref q100, .ref q101, .ref q102, .ref q103, .int 0, .ref q74, .ref q75, .ref q76, .ref q77, .int 0, .ref q78, .ref q79, .ref q104]))] H := hP
      have hD : va_D A [(q59, .inr (12, [.ref q61, .ref q62, .ref q63, .ref q64, .ref q65, .ref q66, .ref q81, .ref q82, .ref q83, .ref q84, .ref q85, .ref q86, .int 0, .ref q87, .ref q88, .ref q89, .int 9, .int 0, .int 0, .ref q67, .ref q90, .ref q68, .int 0, .int 2, .ref q80, .ref q69, .ref q70, .ref q71, .int 0, .ref q72, .int 0, .ref q91, .ref q92, .ref q93, .ref q94, .int 0, .ref q73, .int 0, .int 0, .ref q95, .ref q96, .ref q97, .ref q98, .int 0, .int 0, .int 0, .int 0, .ref q99, .int 0, .ref q100, .ref q101, .ref q102, .ref q103, .int 0, .ref q74, .ref q75, .ref q76, .ref q77, .int 0, .ref q78, .ref q79, .ref q104]))] := hD
      refine W.widen (k := 194) (n := 177668) (by omega) (by omega) ?_
      subst hr205
      refine lv_istore (lv' := [(5, .int 1), (4, .int 0), (3, .ref q105), (2, .ref q59), (1, .ref q1), (0, .ref b)]) hx hb dL_law_1321 hl (by decide) rfl (fun ls hl => ?_)
      refine lv_aload_n hx hb dL_law_1323 rfl (lv_at hl 3 rfl) ?_
      refine lv_aload_n hx hb dL_law_1324 rfl (lv_at hl 5 rfl) ?_
      refine lv_iload hx hb dL_law_1325 (lv_at hl 1 rfl) ?_
      refine lv_iconst (v := 1) hx hb dL_law_1327 (by decide) ?_
      refine lv_iadd hx hb dL_law_1328 ?_
      refine wk_i 1 (by decide) ?_
      refine va_sld hx hb hX hbl hbA hS (wk_in rfl) dL_law_1329 ?_
      refine wk_i (xs 1) rfl ?_
      refine lv_aload_n hx hb dL_law_1330 rfl (lv_at hl 5 rfl) ?_
      refine lv_iload hx hb dL_law_1331 (lv_at hl 1 rfl) ?_
      refine lv_iconst (v := 2) hx hb dL_law_1333 (by decide) ?_
      refine lv_iadd hx hb dL_law_1334 ?_
      refine wk_i 2 (by decide) ?_
      refine va_sld hx hb hX hbl hbA hS (wk_in rfl) dL_law_1335 ?_
      refine wk_i (xs 2) rfl ?_
      refine lv_aload_n hx hb dL_law_1336 rfl (lv_at hl 5 rfl) ?_
      refine lv_iload hx hb dL_law_1337 (lv_at hl 1 rfl) ?_
      refine lv_iconst (v := 3) hx hb dL_law_1339 (by decide) ?_
      refine lv_iadd hx hb dL_law_1340 ?_
      refine wk_i 3 (by decide) ?_
      refine va_sld hx hb hX hbl hbA hS (wk_in rfl) dL_law_1341 ?_
      refine wk_i (xs 3) rfl ?_
      refine lv_aload_n hx hb dL_law_1342 rfl (lv_at hl 5 rfl) ?_
      refine lv_iload hx hb dL_law_1343 (lv_at hl 1 rfl) ?_
      refine lv_iconst (v := 4) hx hb dL_law_1345 (by decide) ?_
      refine lv_iadd hx hb dL_law_1346 ?_
      refine wk_i 4 (by decide) ?_
      refine va_sld hx hb hX hbl hbA hS (wk_in rfl) dL_law_1347 ?_
      refine wk_i (xs 4) rfl ?_
      refine lv_aload_n hx hb dL_law_1348 rfl (lv_at hl 5 rfl) ?_
      refine lv_iload hx hb dL_law_1349 (lv_at hl 1 rfl) ?_
      refine lv_iconst (v := 5) hx hb dL_law_1351 (by decide) ?_
      refine lv_iadd hx hb dL_law_1352 ?_
      refine wk_i 5 (by decide) ?_
      refine va_sld hx hb hX hbl hbA hS (wk_in rfl) dL_law_1353 ?_
      refine wk_i (xs 5) rfl ?_
      have hPc := hP.sub (ws' := [(q59, .inr (12, [.ref q61, .ref q62, .ref q63, .ref q64, .ref q65, .ref q66, .ref q81, .ref q82, .ref q83, .ref q84, .ref q85, .ref q86, .int 0, .ref q87, .ref q88, .ref q89, .int 9, .int 0, .int 0, .ref q67, .ref q90, .ref q68, .int 0, .int 2, .ref q80, .ref q69, .ref q70, .ref q71, .int 0, .ref q72, .int 0, .ref q91, .ref q92, .ref q93, .ref q94, .int 0, .ref q73, .int 0, .int 0, .ref q95, .ref q96, .ref q97, .ref q98, .int 0, .int 0, .int 0, .int 0, .ref q99, .int 0, .ref q100, .ref q101, .ref q102, .ref q103, .int 0, .ref q74, .ref q75, .ref q76, .ref q77, .int 0, .ref q78, .ref q79, .ref q104]))]) [0] rfl
      have hDc := hD.sub (ws' := [(q59, .inr (12, [.ref q61, .ref q62, .ref q63, .ref q64, .ref q65, .ref q66, .ref q81, .ref q82, .ref q83, .ref q84, .ref q85, .ref q86, .int 0, .ref q87, .ref q88, .ref q89, .int 9, .int 0, .int 0, .ref q67, .ref q90, .ref q68, .int 0, .int 2, .ref q80, .ref q69, .ref q70, .ref q71, .int 0, .ref q72, .int 0, .ref q91, .ref q92, .ref q93, .ref q94, .int 0, .ref q73, .int 0, .int 0, .ref q95, .ref q96, .ref q97, .ref q98, .int 0, .int 0, .int 0, .int 0, .ref q99, .int 0, .ref q100, .ref q101, .ref q102, .ref q103, .int 0, .ref q74, .ref q75, .ref q76, .ref q77, .int 0, .ref q78, .ref q79, .ref q104]))]) [0] (by decide) rfl
      have hFc := va_free (wc := [(q59, .inr (12, [.ref q61, .ref q62, .ref q63, .ref q64, .ref q65, .ref q66, .ref q81, .ref q82, .ref q83, .ref q84, .ref q85, .ref q86, .int 0, .ref q87, .ref q88, .ref q89, .int 9, .int 0, .int 0, .ref q67, .ref q90, .ref q68, .int 0, .int 2, .ref q80, .ref q69, .ref q70, .ref q71, .int 0, .ref q72, .int 0, .ref q91, .ref q92, .ref q93, .ref q94, .int 0, .ref q73, .int 0, .int 0, .ref q95, .ref q96, .ref q97, .ref q98, .int 0, .int 0, .int 0, .int 0, .ref q99, .int 0, .ref q100, .ref q101, .ref q102, .ref q103, .int 0, .ref q74, .ref q75, .ref q76, .ref q77, .int 0, .ref q78, .ref q79, .ref q104]))]) hD hS hA [0] rfl
      refine va_calll (va_runV (As := [.int (xs 1), .int (xs 2), .int (xs 3), .int (xs 4), .int (xs 5)]) (rest := []) ⟨hx, hb, hml, hown, hts⟩ (kX12_reach l D G q59 (xs 1) (xs 2) (xs 3) (xs 4) (xs 5) q61 q62 q63 q64 q65 q66 q81 q82 q83 q84 q85 q86 q87 q88 q89 q67 q90 q68 q80 q69 q70 q71 q72 q91 q92 q93 q94 q73 q95 q96 q97 q98 q99 q100 q101 q102 q103 q74 q75 q76 q77 q78 q79 q104 H.size) (cwV 5 hts gL_law_X12_reach rfl rfl rfl (by decide +kernel) ⟨Nat.le_of_ble_eq_true rfl, Nat.le_of_ble_eq_true rfl⟩) ⟨wB_blind, va_recv hK hPc (ci := 12) (q0 := 0) rfl rfl, wB_pre hPc hK hDc hN⟩ rfl rfl hl.1 rfl (lv_room (Nat.le_of_ble_eq_true rfl)) dL_law_1354 ⟨Nat.le_of_ble_eq_true rfl, Nat.le_of_ble_eq_true rfl⟩) hS (fun q _ h => hFc q h) hFc (fun r206 u t H1 locs ht hvm hr206 hB hz1 hk1 hS => ?_)
      obtain ⟨hP1, hK1, hD1⟩ := hB
      rw [ht] at hP1
      obtain ⟨hP, hD⟩ := va_join (wr := []) (w1 := [(q59, .inr (12, [.ref q61, .ref q62, .ref q63, .ref q64, .ref q65, .ref q66, .ref q81, .ref q82, .ref q83, .ref q84, .ref q85, .ref q86, .int 0, .ref q87, .ref q88, .ref q89, .int 9, .int 0, .int 0, .ref q67, .ref q90, .ref q68, .int 0, .int 2, .ref q80, .ref q69, .ref q70, .ref q71, .int 0, .ref q72, .int 0, .ref q91, .ref q92, .ref q93, .ref q94, .int 0, .ref q73, .int 0, .int 1, .ref q95, .ref q96, .ref q97, .ref q98, .int 0, .int 0, .int 0, .int 0, .ref q99, .int 0, .ref q100, .ref q101, .ref q102, .ref q103, .int 0, .ref q74, .ref q75, .ref q76, .ref q77, .int 0, .ref q78, .ref q79, .ref q104]))]) hP hD [0] [] rfl rfl (by decide) (by decide) hk1 hFc hP1 hD1
      clear hPc hDc
      generalize H1 = H at hP hS ⊢
      have hP : va_P D vwCl [(q59, .inr (12, [.ref q61, .ref q62, .ref q63, .ref q64, .ref q65, .ref q66, .ref q81, .ref q82, .ref q83, .ref q84, .ref q85, .ref q86, .int 0, .ref q87, .ref q88, .ref q89, .int 9, .int 0, .int 0, .ref q67, .ref q90, .ref q68, .int 0, .int 2, .ref q80, .ref q69, .ref q70, .ref q71, .int 0, .ref q72, .int 0, .ref q91, .ref q92, .ref q93, .ref q94, .int 0, .ref q73, .int 0, .int 1, .ref q95, .ref q96, .ref q97, .ref q98, .int 0, .int 0, .int 0, .int 0, .ref q99, .int 0, .ref q100, .ref q101, .ref q102, .ref q103, .int 0, .ref q74, .ref q75, .ref q76, .ref q77, .int 0, .ref q78, .ref q79, .ref q104]))] H := hP
      have hD : va_D A [(q59, .inr (12, [.ref q61, .ref q62, .ref q63, .ref q64, .ref q65, .ref q66, .ref q81, .ref q82, .ref q83, .ref q84, .ref q85, .ref q86, .int 0, .ref q87, .ref q88, .ref q89, .int 9, .int 0, .int 0, .ref q67, .ref q90, .ref q68, .int 0, .int 2, .ref q80, .ref q69, .ref q70, .ref q71, .int 0, .ref q72, .int 0, .ref q91, .ref q92, .ref q93, .ref q94, .int 0, .ref q73, .int 0, .int 1, .ref q95, .ref q96, .ref q97, .ref q98, .int 0, .int 0, .int 0, .int 0, .ref q99, .int 0, .ref q100, .ref q101, .ref q102, .ref q103, .int 0, .ref q74, .ref q75, .ref q76, .ref q77, .int 0, .ref q78, .ref q79, .ref q104]))] := hD
      subst hr206
      refine lv_lstore (lv' := [(6, .long 0), (5, .int 1), (4, .int 0), (3, .ref q105), (2, .ref q59), (1, .ref q1), (0, .ref b)]) hx hb dL_law_1357 hl (by decide) rfl (fun ls hl => ?_)
      refine lv_aload_n hx hb dL_law_1359 rfl (lv_at hl 4 rfl) ?_
      have hPc := hP.sub (ws' := [(q59, .inr (12, [.ref q61, .ref q62, .ref q63, .ref q64, .ref q65, .ref q66, .ref q81, .ref q82, .ref q83, .ref q84, .ref q85, .ref q86, .int 0, .ref q87, .ref q88, .ref q89, .int 9, .int 0, .int 0, .ref q67, .ref q90, .ref q68, .int 0, .int 2, .ref q80, .ref q69, .ref q70, .ref q71, .int 0, .ref q72, .int 0, .ref q91, .ref q92, .ref q93, .ref q94, .int 0, .ref q73, .int 0, .int 1, .ref q95, .ref q96, .ref q97, .ref q98, .int 0, .int 0, .int 0, .int 0, .ref q99, .int 0, .ref q100, .ref q101, .ref q102, .ref q103, .int 0, .ref q74, .ref q75, .ref q76, .ref q77, .int 0, .ref q78, .ref q79, .ref q104]))]) [0] rfl
      have hDc := hD.sub (ws' := [(q59, .inr (12, [.ref q61, .ref q62, .ref q63, .ref q64, .ref q65, .ref q66, .ref q81, .ref q82, .ref q83, .ref q84, .ref q85, .ref q86, .int 0, .ref q87, .ref q88, .ref q89, .int 9, .int 0, .int 0, .ref q67, .ref q90, .ref q68, .int 0, .int 2, .ref q80, .ref q69, .ref q70, .ref q71, .int 0, .ref q72, .int 0, .ref q91, .ref q92, .ref q93, .ref q94, .int 0, .ref q73, .int 0, .int 1, .ref q95, .ref q96, .ref q97, .ref q98, .int 0, .int 0, .int 0, .int 0, .ref q99, .int 0, .ref q100, .ref q101, .ref q102, .ref q103, .int 0, .ref q74, .ref q75, .ref q76, .ref q77, .int 0, .ref q78, .ref q79, .ref q104]))]) [0] (by decide) rfl
      have hFc := va_free (wc := [(q59, .inr (12, [.ref q61, .ref q62, .ref q63, .ref q64, .ref q65, .ref q66, .ref q81, .ref q82, .ref q83, .ref q84, .ref q85, .ref q86, .int 0, .ref q87, .ref q88, .ref q89, .int 9, .int 0, .int 0, .ref q67, .ref q90, .ref q68, .int 0, .int 2, .ref q80, .ref q69, .ref q70, .ref q71, .int 0, .ref q72, .int 0, .ref q91, .ref q92, .ref q93, .ref q94, .int 0, .ref q73, .int 0, .int 1, .ref q95, .ref q96, .ref q97, .ref q98, .int 0, .int 0, .int 0, .int 0, .ref q99, .int 0, .ref q100, .ref q101, .ref q102, .ref q103, .int 0, .ref q74, .ref q75, .ref q76, .ref q77, .int 0, .ref q78, .ref q79, .ref q104]))]) hD hS hA [0] rfl
      refine va_calli (va_runV (As := []) (rest := []) ⟨hx, hb, hml, hown, hts⟩ (kX12_thrown l D G q59 q61 q62 q63 q64 q65 q66 q81 q82 q83 q84 q85 q86 q87 q88 q89 q67 q90 q68 q80 q69 q70 q71 q72 q91 q92 q93 q94 q73 q95 q96 q97 q98 q99 q100 q101 q102 q103 q74 q75 q76 q77 q78 q79 q104 H.size) (cwV 0 hts gL_law_X12_thrown rfl rfl rfl (by decide +kernel) ⟨Nat.le_of_ble_eq_true rfl, Nat.le_of_ble_eq_true rfl⟩) ⟨wB_blind, va_recv hK hPc (ci := 12) (q0 := 0) rfl rfl, wB_pre hPc hK hDc hN⟩ rfl rfl hl.1 rfl (lv_room (Nat.le_of_ble_eq_true rfl)) dL_law_1360 ⟨Nat.le_of_ble_eq_true rfl, Nat.le_of_ble_eq_true rfl⟩) hS (fun q _ h => hFc q h) hFc (fun r207 u t H1 locs ht hvm hr207 hB hz1 hk1 hS => ?_)
      obtain ⟨hP, hD⟩ := va_join (wr := []) (w1 := []) hP hD [0] [] rfl rfl (by decide) (by decide) hk1 hFc wP_nil wD_nil
      clear hPc hDc
      generalize H1 = H at hP hS ⊢
      have hP : va_P D vwCl [] H := hP
      have hD : va_D A [] := hD
      subst hr207
      refine lv_iload hx hb dL_law_1363 (lv_at hl 1 rfl) ?_
      refine lv_icmp_eq (tgt := 1370) hx hb dL_law_1365 (by decide) (fun _ => ?_) (fun h9 => absurd h9 (by decide))
      refine lv_iload hx hb dL_law_1370 (lv_at hl 1 rfl) ?_
      refine lv_if_ne (tgt := 1386) hx hb dL_law_1372 (by decide) (fun _ => ?_) (fun h9 => absurd h9 (by decide))
      refine lv_goto (tgt := 1531) hx hb dL_law_1386 (by decide) ?_
      refine lv_iinc (v := 7) (lv' := [(4, .int 7), (6, .long 0), (5, .int 1), (3, .ref q105), (2, .ref q59), (1, .ref q1), (0, .ref b)]) hx hb dL_law_1531 hl (k := 2) rfl (by decide) (by decide) rfl (fun ls hl => ?_)
      refine lv_goto (tgt := 23) hx hb dL_law_1534 (by decide) ?_
      refine lv_iload hx hb dL_law_23 (lv_at hl 0 rfl) ?_
      refine lv_aload_n hx hb dL_law_25 rfl (lv_at hl 6 rfl) ?_
      refine va_slen hx hb hX hbl hbA hS dL_law_26 ?_
      refine wk_i 7 rfl ?_
      refine lv_bipush (v := 7) hx hb dL_law_27 (by decide) ?_
      refine lv_isub hx hb dL_law_29 ?_
      refine wk_i 0 (by decide) ?_
      refine lv_icmp_gt (tgt := 1537) hx hb dL_law_30 (by decide) (fun _ => ?_) (fun h9 => absurd h9 (by decide))
      refine lv_iconst (v := 1) hx hb dL_law_1537 (by decide) ?_
      refine va_forget (fun q hq => by have h9 := hS.2.2 q hq; rw [hAe] at h9; exact h9) ?_
      refine W.widen (k := 600002) (n := 7302232) (by omega) (by omega) ?_
      exact lw_ret hx hb hr hlocks dL_law_1538
    by_cases s208 : vs = 31
    · subst s208
      refine lv_tableIn (off := 1349) (tgt := 1389) hx hb dL_law_40 (by decide) (by decide) (by decide) (by decide) ?_
      have hP := hP.sub (ws' := [(q1, .inr (11, [.ref q3, .ref q26, .ref q28, .ref q35, .ref q39, .ref q43, .ref q46, .ref q52])), (q3, .inr (8, [.ref q4, .ref q54, .ref q55, .ref q5, .ref q6, .int 0, .int 0, .int 9, .int 0, .int 0])), (q59, .inr (12, [.ref q61, .ref q62, .ref q63, .ref q64, .ref q65, .ref q66, .ref q81, .ref q82, .ref q83, .ref q84, .ref q85, .ref q86, .int 0, .ref q87, .ref q88, .ref q89, .int 9, .int 0, .int 0, .ref q67, .ref q90, .ref q68, .int 0, .int 2, .ref q80, .ref q69, .ref q70, .ref q71, .int 0, .ref q72, .int 0, .ref q91, .ref q92, .ref q93, .ref q94, .int 0, .ref q73, .int 0, .int 0, .ref q95, .ref q96, .ref q97, .ref q98, .int 0, .int 0, .int 0, .int 0, .ref q99, .int 0, .ref q100, .ref q101, .ref q102, .ref q103, .int 0, .ref q74, .ref q75, .ref q76, .ref q77, .int 0, .ref q78, .ref q79, .ref q104]))]) [0, 1, 71] rfl
      have hD := hD.sub (ws' := [(q1, .inr (11, [.ref q3, .ref q26, .ref q28, .ref q35, .ref q39, .ref q43, .ref q46, .ref q52])), (q3, .inr (8, [.ref q4, .ref q54, .ref q55, .ref q5, .ref q6, .int 0, .int 0, .int 9, .int 0, .int 0])), (q59, .inr (12, [.ref q61, .ref q62, .ref q63, .ref q64, .ref q65, .ref q66, .ref q81, .ref q82, .ref q83, .ref q84, .ref q85, .ref q86, .int 0, .ref q87, .ref q88, .ref q89, .int 9, .int 0, .int 0, .ref q67, .ref q90, .ref q68, .int 0, .int 2, .ref q80, .ref q69, .ref q70, .ref q71, .int 0, .ref q72, .int 0, .ref q91, .ref q92, .ref q93, .ref q94, .int 0, .ref q73, .int 0, .int 0, .ref q95, .ref q96, .ref q97, .ref q98, .int 0, .int 0, .int 0, .int 0, .ref q99, .int 0, .ref q100, .ref q101, .ref q102, .ref q103, .int 0, .ref q74, .ref q75, .ref q76, .ref q77, .int 0, .ref q78, .ref q79, .ref q104]))]) [0, 1, 71] (by decide) rfl
      refine lv_aload_n hx hb dL_law_1389 rfl (lv_at hl 3 rfl) ?_
      refine lv_aload_n hx hb dL_law_1390 rfl (lv_at hl 4 rfl) ?_
      refine lv_iload hx hb dL_law_1391 (lv_at hl 0 rfl) ?_
      refine lv_iconst (v := 1) hx hb dL_law_1393 (by decide) ?_
      refine lv_iadd hx hb dL_law_1394 ?_
      refine wk_i 1 (by decide) ?_
      refine va_sld hx hb hX hbl hbA hS (wk_in rfl) dL_law_1395 ?_
      refine wk_i (xs 1) rfl ?_
      refine lv_aload_n hx hb dL_law_1396 rfl (lv_at hl 4 rfl) ?_
      refine lv_iload hx hb dL_law_1397 (lv_at hl 0 rfl) ?_
      refine lv_iconst (v := 2) hx hb dL_law_1399 (by decide) ?_
      refine lv_iadd hx hb dL_law_1400 ?_
      refine wk_i 2 (by decide) ?_
      refine va_sld hx hb hX hbl hbA hS (wk_in rfl) dL_law_1401 ?_
      refine wk_i (xs 2) rfl ?_
      refine lv_aload_n hx hb dL_law_1402 rfl (lv_at hl 4 rfl) ?_
      refine lv_iload hx hb dL_law_1403 (lv_at hl 0 rfl) ?_
      refine lv_iconst (v := 3) hx hb dL_law_1405 (by decide) ?_
      refine lv_iadd hx hb dL_law_1406 ?_
      refine wk_i 3 (by decide) ?_
      refine va_sld hx hb hX hbl hbA hS (wk_in rfl) dL_law_1407 ?_
      refine wk_i (xs 3) rfl ?_
      refine lv_aload_n hx hb dL_law_1408 rfl (lv_at hl 4 rfl) ?_
      refine lv_iload hx hb dL_law_1409 (lv_at hl 0 rfl) ?_
      refine lv_iconst (v := 4) hx hb dL_law_1411 (by decide) ?_
      refine lv_iadd hx hb dL_law_1412 ?_
      refine wk_i 4 (by decide) ?_
      refine va_sld hx hb hX hbl hbA hS (wk_in rfl) dL_law_1413 ?_
      refine wk_i (xs 4) rfl ?_
      have hPc := hP.sub (ws' := [(q1, .inr (11, [.ref q3, .ref q26, .ref q28, .ref q35, .ref q39, .ref q43, .ref q46, .ref q52])), (q3, .inr (8, [.ref q4, .ref q54, .ref q55, .ref q5, .ref q6, .int 0, .int 0, .int 9, .int 0, .int 0]))]) [0, 1] rfl
      have hDc := hD.sub (ws' := [(q1, .inr (11, [.ref q3, .ref q26, .ref q28, .ref q35, .ref q39, .ref q43, .ref q46, .ref q52])), (q3, .inr (8, [.ref q4, .ref q54, .ref q55, .ref q5, .ref q6, .int 0, .int 0, .int 9, .int 0, .int 0]))]) [0, 1] (by decide) rfl
      have hFc := va_free (wc := [(q1, .inr (11, [.ref q3, .ref q26, .ref q28, .ref q35, .ref q39, .ref q43, .ref q46, .ref q52])), (q3, .inr (8, [.ref q4, .ref q54, .ref q55, .ref q5, .ref q6, .int 0, .int 0, .int 9, .int 0, .int 0]))]) hD hS hA [0, 1] rfl
      refine va_calli (va_runV (As := [.int (xs 1), .int (xs 2), .int (xs 3), .int (xs 4)]) (rest := []) ⟨hx, hb, hml, hown, hts⟩ (kX11_seen l D G q1 (xs 1) (xs 2) (xs 3) (xs 4) q3 q26 q28 q35 q39 q43 q46 q52 q4 q54 q55 q5 q6 H.size) (cwV 4 hts gL_law_X11_seen rfl rfl rfl (by decide +kernel) ⟨Nat.le_of_ble_eq_true rfl, Nat.le_of_ble_eq_true rfl⟩) ⟨wB_blind, va_recv hK hPc (ci := 11) (q0 := 0) rfl rfl, wB_pre hPc hK hDc hN⟩ rfl rfl hl.1 rfl (lv_room (Nat.le_of_ble_eq_true rfl)) dL_law_1414 ⟨Nat.le_of_ble_eq_true rfl, Nat.le_of_ble_eq_true rfl⟩) hS (fun q _ h => hFc q h) hFc (fun r209 u t H1 locs ht hvm hr209 hB hz1 hk1 hS => ?_)
      obtain ⟨hP, hD⟩ := va_join (wr := [(q59, .inr (12, [.ref q61, .ref q62, .ref q63, .ref q64, .ref q65, .ref q66, .ref q81, .ref q82, .ref q83, .ref q84, .ref q85, .ref q86, .int 0, .ref q87, .ref q88, .ref q89, .int 9, .int 0, .int 0, .ref q67, .ref q90, .ref q68, .int 0, .int 2, .ref q80, .ref q69, .ref q70, .ref q71, .int 0, .ref q72, .int 0, .ref q91, .ref q92, .ref q93, .ref q94, .int 0, .ref q73, .int 0, .int 0, .ref q95, .ref q96, .ref q97, .ref q98, .int 0, .int 0, .int 0, .int 0, .ref q99, .int 0, .ref q100, .ref q101, .ref q102, .ref q103, .int 0, .ref q74, .ref q75, .ref q76, .ref q77, .int 0, .ref q78, .ref q79, .ref q104]))]) (w1 := []) hP hD [0, 1] [2] rfl rfl (by decide) (by decide) hk1 hFc wP_nil wD_nil
      clear hPc hDc
      generalize H1 = H at hP hS ⊢
      have hP : va_P D vwCl [(q59, .inr (12, [.ref q61, .ref q62, .ref q63, .ref q64, .ref q65, .ref q66, .ref q81, .ref q82, .ref q83, .ref q84, .ref q85, .ref q86, .int 0, .ref q87, .ref q88, .ref q89, .int 9, .int 0, .int 0, .ref q67, .ref q90, .ref q68, .int 0, .int 2, .ref q80, .ref q69, .ref q70, .ref q71, .int 0, .ref q72, .int 0, .ref q91, .ref q92, .ref q93, .ref q94, .int 0, .ref q73, .int 0, .int 0, .ref q95, .ref q96, .ref q97, .ref q98, .int 0, .int 0, .int 0, .int 0, .ref q99, .int 0, .ref q100, .ref q101, .ref q102, .ref q103, .int 0, .ref q74, .ref q75, .ref q76, .ref q77, .int 0, .ref q78, .ref q79, .ref q104]))] H := hP
      have hD : va_D A [(q59, .inr (12, [.ref q61, .ref q62, .ref q63, .ref q64, .ref q65, .ref q66, .ref q81, .ref q82, .ref q83, .ref q84, .ref q85, .ref q86, .int 0, .ref q87, .ref q88, .ref q89, .int 9, .int 0, .int 0, .ref q67, .ref q90, .ref q68, .int 0, .int 2, .ref q80, .ref q69, .ref q70, .ref q71, .int 0, .ref q72, .int 0, .ref q91, .ref q92, .ref q93, .ref q94, .int 0, .ref q73, .int 0, .int 0, .ref q95, .ref q96, .ref q97, .ref q98, .int 0, .int 0, .int 0, .int 0, .ref q99, .int 0, .ref q100, .ref q101, .ref q102, .ref q103, .int 0, .ref q74, .ref q75, .ref q76, .ref q77, .int 0, .ref q78, .ref q79, .ref q104]))] := hD
      subst hr209
      refine lv_aload_n hx hb dL_law_1417 rfl (lv_at hl 2 rfl) ?_
      refine lv_aload_n hx hb dL_law_1418 rfl (lv_at hl 4 rfl) ?_
      refine lv_iload hx hb dL_law_1419 (lv_at hl 0 rfl) ?_
      refine lv_iconst (v := 1) hx hb dL_law_1421 (by decide) ?_
      refine lv_iadd hx hb dL_law_1422 ?_
      refine wk_i 1 (by decide) ?_
      refine va_sld hx hb hX hbl hbA hS (wk_in rfl) dL_law_1423 ?_
      refine wk_i (xs 1) rfl ?_
      refine lv_aload_n hx hb dL_law_1424 rfl (lv_at hl 4 rfl) ?_
      refine lv_iload hx hb dL_law_1425 (lv_at hl 0 rfl) ?_
      refine lv_iconst (v := 2) hx hb dL_law_1427 (by decide) ?_
      refine lv_iadd hx hb dL_law_1428 ?_
      refine wk_i 2 (by decide) ?_
      refine va_sld hx hb hX hbl hbA hS (wk_in rfl) dL_law_1429 ?_
      refine wk_i (xs 2) rfl ?_
      refine lv_aload_n hx hb dL_law_1430 rfl (lv_at hl 4 rfl) ?_
      refine lv_iload hx hb dL_law_1431 (lv_at hl 0 rfl) ?_
      refine lv_iconst (v := 3) hx hb dL_law_1433 (by decide) ?_
      refine lv_iadd hx hb dL_law_1434 ?_
      refine wk_i 3 (by decide) ?_
      refine va_sld hx hb hX hbl hbA hS (wk_in rfl) dL_law_1435 ?_
      refine wk_i (xs 3) rfl ?_
      refine lv_aload_n hx hb dL_law_1436 rfl (lv_at hl 4 rfl) ?_
      refine lv_iload hx hb dL_law_1437 (lv_at hl 0 rfl) ?_
      refine lv_iconst (v := 4) hx hb dL_law_1439 (by decide) ?_
      refine lv_iadd hx hb dL_law_1440 ?_
      refine wk_i 4 (by decide) ?_
      refine va_sld hx hb hX hbl hbA hS (wk_in rfl) dL_law_1441 ?_
      refine wk_i (xs 4) rfl ?_
      have hPc := hP.sub (ws' := [(q59, .inr (12, [.ref q61, .ref q62, .ref q63, .ref q64, .ref q65, .ref q66, .ref q81, .ref q82, .ref q83, .ref q84, .ref q85, .ref q86, .int 0, .ref q87, .ref q88, .ref q89, .int 9, .int 0, .int 0, .ref q67, .ref q90, .ref q68, .int 0, .int 2, .ref q80, .ref q69, .ref q70, .ref q71, .int 0, .ref q72, .int 0, .ref q91, .ref q92, .ref q93, .ref q94, .int 0, .ref q73, .int 0, .int 0, .ref q95, .ref q96, .ref q97, .ref q98, .int 0, .int 0, .int 0, .int 0, .ref q99, .int 0, .ref q100, .ref q101, .ref q102, .ref q103, .int 0, .ref q74, .ref q75, .ref q76, .ref q77, .int 0, .ref q78, .ref q79, .ref q104]))]) [0] rfl
      have hDc := hD.sub (ws' := [(q59, .inr (12, [.ref q61, .ref q62, .ref q63, .ref q64, .ref q65, .ref q66, .ref q81, .ref q82, .ref q83, .ref q84, .ref q85, .ref q86, .int 0, .ref q87, .ref q88, .ref q89, .int 9, .int 0, .int 0, .ref q67, .ref q90, .ref q68, .int 0, .int 2, .ref q80, .ref q69, .ref q70, .ref q71, .int 0, .ref q72, .int 0, .ref q91, .ref q92, .ref q93, .ref q94, .int 0, .ref q73, .int 0, .int 0, .ref q95, .ref q96, .ref q97, .ref q98, .int 0, .int 0, .int 0, .int 0, .ref q99, .int 0, .ref q100, .ref q101, .ref q102, .ref q103, .int 0, .ref q74, .ref q75, .ref q76, .ref q77, .int 0, .ref q78, .ref q79, .ref q104]))]) [0] (by decide) rfl
      have hFc := va_free (wc := [(q59, .inr (12, [.ref q61, .ref q62, .ref q63, .ref q64, .ref q65, .ref q66, .ref q81, .ref q82, .ref q83, .ref q84, .ref q85, .ref q86, .int 0, .ref q87, .ref q88, .ref q89, .int 9, .int 0, .int 0, .ref q67, .ref q90, .ref q68, .int 0, .int 2, .ref q80, .ref q69, .ref q70, .ref q71, .int 0, .ref q72, .int 0, .ref q91, .ref q92, .ref q93, .ref q94, .int 0, .ref q73, .int 0, .int 0, .ref q95, .ref q96, .ref q97, .ref q98, .int 0, .int 0, .int 0, .int 0, .ref q99, .int 0, .ref q100, .ref q101, .ref q102, .ref q103, .int 0, .ref q74, .ref q75, .ref q76, .ref q77, .int 0, .ref q78, .ref q79, .ref q104]))]) hD hS hA [0] rfl
      refine va_calli (va_runV (As := [.int (xs 1), .int (xs 2), .int (xs 3), .int (xs 4)]) (rest := [.int (-1)]) ⟨hx, hb, hml, hown, hts⟩ (kX12_seen l D G q59 (xs 1) (xs 2) (xs 3) (xs 4) q61 q62 q63 q64 q65 q66 q81 q82 q83 q84 q85 q86 q87 q88 q89 q67 q90 q68 q80 q69 q70 q71 q72 q91 q92 q93 q94 q73 q95 q96 q97 q98 q99 q100 q101 q102 q103 q74 q75 q76 q77 q78 q79 q104 H.size) (cwV 4 hts gL_law_X12_seen rfl rfl rfl (by decide +kernel) ⟨Nat.le_of_ble_eq_true rfl, Nat.le_of_ble_eq_true rfl⟩) ⟨wB_blind, va_recv hK hPc (ci := 12) (q0 := 0) rfl rfl, wB_pre hPc hK hDc hN⟩ rfl rfl hl.1 rfl (lv_room (Nat.le_of_ble_eq_true rfl)) dL_law_1442 ⟨Nat.le_of_ble_eq_true rfl, Nat.le_of_ble_eq_true rfl⟩) hS (fun q _ h => hFc q h) hFc (fun r210 u t H1 locs ht hvm hr210 hB hz1 hk1 hS => ?_)
      obtain ⟨hP, hD⟩ := va_join (wr := []) (w1 := []) hP hD [0] [] rfl rfl (by decide) (by decide) hk1 hFc wP_nil wD_nil
      clear hPc hDc
      generalize H1 = H at hP hS ⊢
      have hP : va_P D vwCl [] H := hP
      have hD : va_D A [] := hD
      subst hr210
      refine lv_icmp_eq (tgt := 1531) hx hb dL_law_1445 (by decide) (fun _ => ?_) (fun h9 => absurd h9 (by decide))
      refine lv_iinc (v := 7) (lv' := [(4, .int 7), (3, .ref q105), (2, .ref q59), (1, .ref q1), (0, .ref b)]) hx hb dL_law_1531 hl (k := 0) rfl (by decide) (by decide) rfl (fun ls hl => ?_)
      refine lv_goto (tgt := 23) hx hb dL_law_1534 (by decide) ?_
      refine lv_iload hx hb dL_law_23 (lv_at hl 0 rfl) ?_
      refine lv_aload_n hx hb dL_law_25 rfl (lv_at hl 4 rfl) ?_
      refine va_slen hx hb hX hbl hbA hS dL_law_26 ?_
      refine wk_i 7 rfl ?_
      refine lv_bipush (v := 7) hx hb dL_law_27 (by decide) ?_
      refine lv_isub hx hb dL_law_29 ?_
      refine wk_i 0 (by decide) ?_
      refine lv_icmp_gt (tgt := 1537) hx hb dL_law_30 (by decide) (fun _ => ?_) (fun h9 => absurd h9 (by decide))
      refine lv_iconst (v := 1) hx hb dL_law_1537 (by decide) ?_
      refine va_forget (fun q hq => by have h9 := hS.2.2 q hq; rw [hAe] at h9; exact h9) ?_
      refine W.widen (k := 600002) (n := 7302232) (by omega) (by omega) ?_
      exact lw_ret hx hb hr hlocks dL_law_1538
    by_cases s211 : vs = 32
    · subst s211
      refine lv_tableIn (off := 1410) (tgt := 1450) hx hb dL_law_40 (by decide) (by decide) (by decide) (by decide) ?_
      have hP := hP.sub (ws' := [(q1, .inr (11, [.ref q3, .ref q26, .ref q28, .ref q35, .ref q39, .ref q43, .ref q46, .ref q52])), (q3, .inr (8, [.ref q4, .ref q54, .ref q55, .ref q5, .ref q6, .int 0, .int 0, .int 9, .int 0, .int 0])), (q59, .inr (12, [.ref q61, .ref q62, .ref q63, .ref q64, .ref q65, .ref q66, .ref q81, .ref q82, .ref q83, .ref q84, .ref q85, .ref q86, .int 0, .ref q87, .ref q88, .ref q89, .int 9, .int 0, .int 0, .ref q67, .ref q90, .ref q68, .int 0, .int 2, .ref q80, .ref q69, .ref q70, .ref q71, .int 0, .ref q72, .int 0, .ref q91, .ref q92, .ref q93, .ref q94, .int 0, .ref q73, .int 0, .int 0, .ref q95, .ref q96, .ref q97, .ref q98, .int 0, .int 0, .int 0, .int 0, .ref q99, .int 0, .ref q100, .ref q101, .ref q102, .ref q103, .int 0, .ref q74, .ref q75, .ref q76, .ref q77, .int 0, .ref q78, .ref q79, .ref q104]))]) [0, 1, 71] rfl
      have hD := hD.sub (ws' := [(q1, .inr (11, [.ref q3, .ref q26, .ref q28, .ref q35, .ref q39, .ref q43, .ref q46, .ref q52])), (q3, .inr (8, [.ref q4, .ref q54, .ref q55, .ref q5, .ref q6, .int 0, .int 0, .int 9, .int 0, .int 0])), (q59, .inr (12, [.ref q61, .ref q62, .ref q63, .ref q64, .ref q65, .ref q66, .ref q81, .ref q82, .ref q83, .ref q84, .ref q85, .ref q86, .int 0, .ref q87, .ref q88, .ref q89, .int 9, .int 0, .int 0, .ref q67, .ref q90, .ref q68, .int 0, .int 2, .ref q80, .ref q69, .ref q70, .ref q71, .int 0, .ref q72, .int 0, .ref q91, .ref q92, .ref q93, .ref q94, .int 0, .ref q73, .int 0, .int 0, .ref q95, .ref q96, .ref q97, .ref q98, .int 0, .int 0, .int 0, .int 0, .ref q99, .int 0, .ref q100, .ref q101, .ref q102, .ref q103, .int 0, .ref q74, .ref q75, .ref q76, .ref q77, .int 0, .ref q78, .ref q79, .ref q104]))]) [0, 1, 71] (by decide) rfl
      refine lv_aload_n hx hb dL_law_1450 rfl (lv_at hl 3 rfl) ?_
      refine lv_aload_n hx hb dL_law_1451 rfl (lv_at hl 4 rfl) ?_
      refine lv_iload hx hb dL_law_1452 (lv_at hl 0 rfl) ?_
      refine lv_iconst (v := 1) hx hb dL_law_1454 (by decide) ?_
      refine lv_iadd hx hb dL_law_1455 ?_
      refine wk_i 1 (by decide) ?_
      refine va_sld hx hb hX hbl hbA hS (wk_in rfl) dL_law_1456 ?_
      refine wk_i (xs 1) rfl ?_
      have hPc := hP.sub (ws' := [(q1, .inr (11, [.ref q3, .ref q26, .ref q28, .ref q35, .ref q39, .ref q43, .ref q46, .ref q52])), (q3, .inr (8, [.ref q4, .ref q54, .ref q55, .ref q5, .ref q6, .int 0, .int 0, .int 9, .int 0, .int 0]))]) [0, 1] rfl
      have hDc := hD.sub (ws' := [(q1, .inr (11, [.ref q3, .ref q26, .ref q28, .ref q35, .ref q39, .ref q43, .ref q46, .ref q52])), (q3, .inr (8, [.ref q4, .ref q54, .ref q55, .ref q5, .ref q6, .int 0, .int 0, .int 9, .int 0, .int 0]))]) [0, 1] (by decide) rfl
      have hFc := va_free (wc := [(q1, .inr (11, [.ref q3, .ref q26, .ref q28, .ref q35, .ref q39, .ref q43, .ref q46, .ref q52])), (q3, .inr (8, [.ref q4, .ref q54, .ref q55, .ref q5, .ref q6, .int 0, .int 0, .int 9, .int 0, .int 0]))]) hD hS hA [0, 1] rfl
      refine va_calli (va_runV (As := [.int (xs 1)]) (rest := []) ⟨hx, hb, hml, hown, hts⟩ (kX11_broken l D G q1 (xs 1) q3 q26 q28 q35 q39 q43 q46 q52 q4 q54 q55 q5 q6 H.size) (cwV 1 hts gL_law_X11_broken rfl rfl rfl (by decide +kernel) ⟨Nat.le_of_ble_eq_true rfl, Nat.le_of_ble_eq_true rfl⟩) ⟨wB_blind, va_recv hK hPc (ci := 11) (q0 := 0) rfl rfl, wB_pre hPc hK hDc hN⟩ rfl rfl hl.1 rfl (lv_room (Nat.le_of_ble_eq_true rfl)) dL_law_1457 ⟨Nat.le_of_ble_eq_true rfl, Nat.le_of_ble_eq_true rfl⟩) hS (fun q _ h => hFc q h) hFc (fun r212 u t H1 locs ht hvm hr212 hB hz1 hk1 hS => ?_)
      obtain ⟨hP, hD⟩ := va_join (wr := [(q59, .inr (12, [.ref q61, .ref q62, .ref q63, .ref q64, .ref q65, .ref q66, .ref q81, .ref q82, .ref q83, .ref q84, .ref q85, .ref q86, .int 0, .ref q87, .ref q88, .ref q89, .int 9, .int 0, .int 0, .ref q67, .ref q90, .ref q68, .int 0, .int 2, .ref q80, .ref q69, .ref q70, .ref q71, .int 0, .ref q72, .int 0, .ref q91, .ref q92, .ref q93, .ref q94, .int 0, .ref q73, .int 0, .int 0, .ref q95, .ref q96, .ref q97, .ref q98, .int 0, .int 0, .int 0, .int 0, .ref q99, .int 0, .ref q100, .ref q101, .ref q102, .ref q103, .int 0, .ref q74, .ref q75, .ref q76, .ref q77, .int 0, .ref q78, .ref q79, .ref q104]))]) (w1 := []) hP hD [0, 1] [2] rfl rfl (by decide) (by decide) hk1 hFc wP_nil wD_nil
      clear hPc hDc
      generalize H1 = H at hP hS ⊢
      have hP : va_P D vwCl [(q59, .inr (12, [.ref q61, .ref q62, .ref q63, .ref q64, .ref q65, .ref q66, .ref q81, .ref q82, .ref q83, .ref q84, .ref q85, .ref q86, .int 0, .ref q87, .ref q88, .ref q89, .int 9, .int 0, .int 0, .ref q67, .ref q90, .ref q68, .int 0, .int 2, .ref q80, .ref q69, .ref q70, .ref q71, .int 0, .ref q72, .int 0, .ref q91, .ref q92, .ref q93, .ref q94, .int 0, .ref q73, .int 0, .int 0, .ref q95, .ref q96, .ref q97, .ref q98, .int 0, .int 0, .int 0, .int 0, .ref q99, .int 0, .ref q100, .ref q101, .ref q102, .ref q103, .int 0, .ref q74, .ref q75, .ref q76, .ref q77, .int 0, .ref q78, .ref q79, .ref q104]))] H := hP
      have hD : va_D A [(q59, .inr (12, [.ref q61, .ref q62, .ref q63, .ref q64, .ref q65, .ref q66, .ref q81, .ref q82, .ref q83, .ref q84, .ref q85, .ref q86, .int 0, .ref q87, .ref q88, .ref q89, .int 9, .int 0, .int 0, .ref q67, .ref q90, .ref q68, .int 0, .int 2, .ref q80, .ref q69, .ref q70, .ref q71, .int 0, .ref q72, .int 0, .ref q91, .ref q92, .ref q93, .ref q94, .int 0, .ref q73, .int 0, .int 0, .ref q95, .ref q96, .ref q97, .ref q98, .int 0, .int 0, .int 0, .int 0, .ref q99, .int 0, .ref q100, .ref q101, .ref q102, .ref q103, .int 0, .ref q74, .ref q75, .ref q76, .ref q77, .int 0, .ref q78, .ref q79, .ref q104]))] := hD
      subst hr212
      refine lv_aload_n hx hb dL_law_1460 rfl (lv_at hl 2 rfl) ?_
      refine lv_aload_n hx hb dL_law_1461 rfl (lv_at hl 4 rfl) ?_
      refine lv_iload hx hb dL_law_1462 (lv_at hl 0 rfl) ?_
      refine lv_iconst (v := 1) hx hb dL_law_1464 (by decide) ?_
      refine lv_iadd hx hb dL_law_1465 ?_
      refine wk_i 1 (by decide) ?_
      refine va_sld hx hb hX hbl hbA hS (wk_in rfl) dL_law_1466 ?_
      refine wk_i (xs 1) rfl ?_
      have hPc := hP.sub (ws' := [(q59, .inr (12, [.ref q61, .ref q62, .ref q63, .ref q64, .ref q65, .ref q66, .ref q81, .ref q82, .ref q83, .ref q84, .ref q85, .ref q86, .int 0, .ref q87, .ref q88, .ref q89, .int 9, .int 0, .int 0, .ref q67, .ref q90, .ref q68, .int 0, .int 2, .ref q80, .ref q69, .ref q70, .ref q71, .int 0, .ref q72, .int 0, .ref q91, .ref q92, .ref q93, .ref q94, .int 0, .ref q73, .int 0, .int 0, .ref q95, .ref q96, .ref q97, .ref q98, .int 0, .int 0, .int 0, .int 0, .ref q99, .int 0, .ref q100, .ref q101, .ref q102, .ref q103, .int 0, .ref q74, .ref q75, .ref q76, .ref q77, .int 0, .ref q78, .ref q79, .ref q104]))]) [0] rfl
      have hDc := hD.sub (ws' := [(q59, .inr (12, [.ref q61, .ref q62, .ref q63, .ref q64, .ref q65, .ref q66, .ref q81, .ref q82, .ref q83, .ref q84, .ref q85, .ref q86, .int 0, .ref q87, .ref q88, .ref q89, .int 9, .int 0, .int 0, .ref q67, .ref q90, .ref q68, .int 0, .int 2, .ref q80, .ref q69, .ref q70, .ref q71, .int 0, .ref q72, .int 0, .ref q91, .ref q92, .ref q93, .ref q94, .int 0, .ref q73, .int 0, .int 0, .ref q95, .ref q96, .ref q97, .ref q98, .int 0, .int 0, .int 0, .int 0, .ref q99, .int 0, .ref q100, .ref q101, .ref q102, .ref q103, .int 0, .ref q74, .ref q75, .ref q76, .ref q77, .int 0, .ref q78, .ref q79, .ref q104]))]) [0] (by decide) rfl
      have hFc := va_free (wc := [(q59, .inr (12, [.ref q61, .ref q62, .ref q63, .ref q64, .ref q65, .ref q66, .ref q81, .ref q82, .ref q83, .ref q84, .ref q85, .ref q86, .int 0, .ref q87, .ref q88, .ref q89, .int 9, .int 0, .int 0, .ref q67, .ref q90, .ref q68, .int 0, .int 2, .ref q80, .ref q69, .ref q70, .ref q71, .int 0, .ref q72, .int 0, .ref q91, .ref q92, .ref q93, .ref q94, .int 0, .ref q73, .int 0, .int 0, .ref q95, .ref q96, .ref q97, .ref q98, .int 0, .int 0, .int 0, .int 0, .ref q99, .int 0, .ref q100, .ref q101, .ref q102, .ref q103, .int 0, .ref q74, .ref q75, .ref q76, .ref q77, .int 0, .ref q78, .ref q79, .ref q104]))]) hD hS hA [0] rfl
      refine va_calli (va_runV (As := [.int (xs 1)]) (rest := [.int (-1)]) ⟨hx, hb, hml, hown, hts⟩ (kX12_broken l D G q59 (xs 1) q61 q62 q63 q64 q65 q66 q81 q82 q83 q84 q85 q86 q87 q88 q89 q67 q90 q68 q80 q69 q70 q71 q72 q91 q92 q93 q94 q73 q95 q96 q97 q98 q99 q100 q101 q102 q103 q74 q75 q76 q77 q78 q79 q104 H.size) (cwV 1 hts gL_law_X12_broken rfl rfl rfl (by decide +kernel) ⟨Nat.le_of_ble_eq_true rfl, Nat.le_of_ble_eq_true rfl⟩) ⟨wB_blind, va_recv hK hPc (ci := 12) (q0 := 0) rfl rfl, wB_pre hPc hK hDc hN⟩ rfl rfl hl.1 rfl (lv_room (Nat.le_of_ble_eq_true rfl)) dL_law_1467 ⟨Nat.le_of_ble_eq_true rfl, Nat.le_of_ble_eq_true rfl⟩) hS (fun q _ h => hFc q h) hFc (fun r213 u t H1 locs ht hvm hr213 hB hz1 hk1 hS => ?_)
      obtain ⟨hP, hD⟩ := va_join (wr := []) (w1 := []) hP hD [0] [] rfl rfl (by decide) (by decide) hk1 hFc wP_nil wD_nil
      clear hPc hDc
      generalize H1 = H at hP hS ⊢
      have hP : va_P D vwCl [] H := hP
      have hD : va_D A [] := hD
      subst hr213
      refine lv_icmp_eq (tgt := 1531) hx hb dL_law_1470 (by decide) (fun _ => ?_) (fun h9 => absurd h9 (by decide))
      refine lv_iinc (v := 7) (lv' := [(4, .int 7), (3, .ref q105), (2, .ref q59), (1, .ref q1), (0, .ref b)]) hx hb dL_law_1531 hl (k := 0) rfl (by decide) (by decide) rfl (fun ls hl => ?_)
      refine lv_goto (tgt := 23) hx hb dL_law_1534 (by decide) ?_
      refine lv_iload hx hb dL_law_23 (lv_at hl 0 rfl) ?_
      refine lv_aload_n hx hb dL_law_25 rfl (lv_at hl 4 rfl) ?_
      refine va_slen hx hb hX hbl hbA hS dL_law_26 ?_
      refine wk_i 7 rfl ?_
      refine lv_bipush (v := 7) hx hb dL_law_27 (by decide) ?_
      refine lv_isub hx hb dL_law_29 ?_
      refine wk_i 0 (by decide) ?_
      refine lv_icmp_gt (tgt := 1537) hx hb dL_law_30 (by decide) (fun _ => ?_) (fun h9 => absurd h9 (by decide))
      refine lv_iconst (v := 1) hx hb dL_law_1537 (by decide) ?_
      refine va_forget (fun q hq => by have h9 := hS.2.2 q hq; rw [hAe] at h9; exact h9) ?_
      refine W.widen (k := 600002) (n := 7302232) (by omega) (by omega) ?_
      exact lw_ret hx hb hr hlocks dL_law_1538
    by_cases s214 : vs = 33
    · subst s214
      refine lv_tableIn (off := 1435) (tgt := 1475) hx hb dL_law_40 (by decide) (by decide) (by decide) (by decide) ?_
      have hP := hP.sub (ws' := [(q1, .inr (11, [.ref q3, .ref q26, .ref q28, .ref q35, .ref q39, .ref q43, .ref q46, .ref q52])), (q52, .inr (5, [.ref q53, .int 0])), (q59, .inr (12, [.ref q61, .ref q62, .ref q63, .ref q64, .ref q65, .ref q66, .ref q81, .ref q82, .ref q83, .ref q84, .ref q85, .ref q86, .int 0, .ref q87, .ref q88, .ref q89, .int 9, .int 0, .int 0, .ref q67, .ref q90, .ref q68, .int 0, .int 2, .ref q80, .ref q69, .ref q70, .ref q71, .int 0, .ref q72, .int 0, .ref q91, .ref q92, .ref q93, .ref q94, .int 0, .ref q73, .int 0, .int 0, .ref q95, .ref q96, .ref q97, .ref q98, .int 0, .int 0, .int 0, .int 0, .ref q99, .int 0, .ref q100, .ref q101, .ref q102, .ref q103, .int 0, .ref q74, .ref q75, .ref q76, .ref q77, .int 0, .ref q78, .ref q79, .ref q104]))]) [0, 50, 71] rfl
      have hD := hD.sub (ws' := [(q1, .inr (11, [.ref q3, .ref q26, .ref q28, .ref q35, .ref q39, .ref q43, .ref q46, .ref q52])), (q52, .inr (5, [.ref q53, .int 0])), (q59, .inr (12, [.ref q61, .ref q62, .ref q63, .ref q64, .ref q65, .ref q66, .ref q81, .ref q82, .ref q83, .ref q84, .ref q85, .ref q86, .int 0, .ref q87, .ref q88, .ref q89, .int 9, .int 0, .int 0, .ref q67, .ref q90, .ref q68, .int 0, .int 2, .ref q80, .ref q69, .ref q70, .ref q71, .int 0, .ref q72, .int 0, .ref q91, .ref q92, .ref q93, .ref q94, .int 0, .ref q73, .int 0, .int 0, .ref q95, .ref q96, .ref q97, .ref q98, .int 0, .int 0, .int 0, .int 0, .ref q99, .int 0, .ref q100, .ref q101, .ref q102, .ref q103, .int 0, .ref q74, .ref q75, .ref q76, .ref q77, .int 0, .ref q78, .ref q79, .ref q104]))]) [0, 50, 71] (by decide) rfl
      refine lv_aload_n hx hb dL_law_1475 rfl (lv_at hl 3 rfl) ?_
      refine lv_aload_n hx hb dL_law_1476 rfl (lv_at hl 4 rfl) ?_
      refine lv_iload hx hb dL_law_1477 (lv_at hl 0 rfl) ?_
      refine lv_iconst (v := 1) hx hb dL_law_1479 (by decide) ?_
      refine lv_iadd hx hb dL_law_1480 ?_
      refine wk_i 1 (by decide) ?_
      refine va_sld hx hb hX hbl hbA hS (wk_in rfl) dL_law_1481 ?_
      refine wk_i (xs 1) rfl ?_
      refine lv_aload_n hx hb dL_law_1482 rfl (lv_at hl 1 rfl) ?_
      have hPc := hP.sub (ws' := [(q1, .inr (11, [.ref q3, .ref q26, .ref q28, .ref q35, .ref q39, .ref q43, .ref q46, .ref q52])), (q52, .inr (5, [.ref q53, .int 0]))]) [0, 1] rfl
      have hDc := hD.sub (ws' := [(q1, .inr (11, [.ref q3, .ref q26, .ref q28, .ref q35, .ref q39, .ref q43, .ref q46, .ref q52])), (q52, .inr (5, [.ref q53, .int 0]))]) [0, 1] (by decide) rfl
      have hFc := va_free (wc := [(q1, .inr (11, [.ref q3, .ref q26, .ref q28, .ref q35, .ref q39, .ref q43, .ref q46, .ref q52])), (q52, .inr (5, [.ref q53, .int 0]))]) hD hS hA [0, 1] rfl
      have hZ := hZX
      refine va_calli (vx_runSW (As := [.ref q1, .int (xs 1), .ref q105]) (rest := []) ⟨hx, hb, hml, hown, hts⟩ (kL_row l D G q1 (xs 1) q105 q3 q26 q28 q35 q39 q43 q46 q52 q53 hlt H.size) (vx_cwSW 3 hts gL_law_L_row rfl rfl rfl (by decide +kernel) ⟨Nat.le_of_ble_eq_true rfl, Nat.le_of_ble_eq_true rfl⟩) ⟨wBX_blind, wBX_pre hPc hK hDc hN hZ hS hFc⟩ rfl rfl hl.1 rfl (lv_room (Nat.le_of_ble_eq_true rfl)) dL_law_1483 ⟨Nat.le_of_ble_eq_true rfl, Nat.le_of_ble_eq_true rfl⟩) hS (fun q _ h => hFc q h) hFc (fun r215 u t H1 locs ht hvm hr215 hB hz1 hk1 hS => ?_)
      obtain ⟨hP, hD⟩ := va_join (wr := [(q59, .inr (12, [.ref q61, .ref q62, .ref q63, .ref q64, .ref q65, .ref q66, .ref q81, .ref q82, .ref q83, .ref q84, .ref q85, .ref q86, .int 0, .ref q87, .ref q88, .ref q89, .int 9, .int 0, .int 0, .ref q67, .ref q90, .ref q68, .int 0, .int 2, .ref q80, .ref q69, .ref q70, .ref q71, .int 0, .ref q72, .int 0, .ref q91, .ref q92, .ref q93, .ref q94, .int 0, .ref q73, .int 0, .int 0, .ref q95, .ref q96, .ref q97, .ref q98, .int 0, .int 0, .int 0, .int 0, .ref q99, .int 0, .ref q100, .ref q101, .ref q102, .ref q103, .int 0, .ref q74, .ref q75, .ref q76, .ref q77, .int 0, .ref q78, .ref q79, .ref q104]))]) (w1 := []) hP hD [0, 1] [2] rfl rfl (by decide) (by decide) hk1 hFc wP_nil wD_nil
      clear hPc hDc
      generalize H1 = H at hP hS ⊢
      have hP : va_P D vwCl [(q59, .inr (12, [.ref q61, .ref q62, .ref q63, .ref q64, .ref q65, .ref q66, .ref q81, .ref q82, .ref q83, .ref q84, .ref q85, .ref q86, .int 0, .ref q87, .ref q88, .ref q89, .int 9, .int 0, .int 0, .ref q67, .ref q90, .ref q68, .int 0, .int 2, .ref q80, .ref q69, .ref q70, .ref q71, .int 0, .ref q72, .int 0, .ref q91, .ref q92, .ref q93, .ref q94, .int 0, .ref q73, .int 0, .int 0, .ref q95, .ref q96, .ref q97, .ref q98, .int 0, .int 0, .int 0, .int 0, .ref q99, .int 0, .ref q100, .ref q101, .ref q102, .ref q103, .int 0, .ref q74, .ref q75, .ref q76, .ref q77, .int 0, .ref q78, .ref q79, .ref q104]))] H := hP
      have hD : va_D A [(q59, .inr (12, [.ref q61, .ref q62, .ref q63, .ref q64, .ref q65, .ref q66, .ref q81, .ref q82, .ref q83, .ref q84, .ref q85, .ref q86, .int 0, .ref q87, .ref q88, .ref q89, .int 9, .int 0, .int 0, .ref q67, .ref q90, .ref q68, .int 0, .int 2, .ref q80, .ref q69, .ref q70, .ref q71, .int 0, .ref q72, .int 0, .ref q91, .ref q92, .ref q93, .ref q94, .int 0, .ref q73, .int 0, .int 0, .ref q95, .ref q96, .ref q97, .ref q98, .int 0, .int 0, .int 0, .int 0, .ref q99, .int 0, .ref q100, .ref q101, .ref q102, .ref q103, .int 0, .ref q74, .ref q75, .ref q76, .ref q77, .int 0, .ref q78, .ref q79, .ref q104]))] := hD
      refine W.widen (k := 194) (n := 177668) (by omega) (by omega) ?_
      subst hr215
      refine lv_istore (lv' := [(5, .int 1), (4, .int 0), (3, .ref q105), (2, .ref q59), (1, .ref q1), (0, .ref b)]) hx hb dL_law_1486 hl (by decide) rfl (fun ls hl => ?_)
      refine lv_aload_n hx hb dL_law_1488 rfl (lv_at hl 3 rfl) ?_
      refine lv_aload_n hx hb dL_law_1489 rfl (lv_at hl 5 rfl) ?_
      refine lv_iload hx hb dL_law_1490 (lv_at hl 1 rfl) ?_
      refine lv_iconst (v := 1) hx hb dL_law_1492 (by decide) ?_
      refine lv_iadd hx hb dL_law_1493 ?_
      refine wk_i 1 (by decide) ?_
      refine va_sld hx hb hX hbl hbA hS (wk_in rfl) dL_law_1494 ?_
      refine wk_i (xs 1) rfl ?_
      have hPc := hP.sub (ws' := [(q59, .inr (12, [.ref q61, .ref q62, .ref q63, .ref q64, .ref q65, .ref q66, .ref q81, .ref q82, .ref q83, .ref q84, .ref q85, .ref q86, .int 0, .ref q87, .ref q88, .ref q89, .int 9, .int 0, .int 0, .ref q67, .ref q90, .ref q68, .int 0, .int 2, .ref q80, .ref q69, .ref q70, .ref q71, .int 0, .ref q72, .int 0, .ref q91, .ref q92, .ref q93, .ref q94, .int 0, .ref q73, .int 0, .int 0, .ref q95, .ref q96, .ref q97, .ref q98, .int 0, .int 0, .int 0, .int 0, .ref q99, .int 0, .ref q100, .ref q101, .ref q102, .ref q103, .int 0, .ref q74, .ref q75, .ref q76, .ref q77, .int 0, .ref q78, .ref q79, .ref q104]))]) [0] rfl
      have hDc := hD.sub (ws' := [(q59, .inr (12, [.ref q61, .ref q62, .ref q63, .ref q64, .ref q65, .ref q66, .ref q81, .ref q82, .ref q83, .ref q84, .ref q85, .ref q86, .int 0, .ref q87, .ref q88, .ref q89, .int 9, .int 0, .int 0, .ref q67, .ref q90, .ref q68, .int 0, .int 2, .ref q80, .ref q69, .ref q70, .ref q71, .int 0, .ref q72, .int 0, .ref q91, .ref q92, .ref q93, .ref q94, .int 0, .ref q73, .int 0, .int 0, .ref q95, .ref q96, .ref q97, .ref q98, .int 0, .int 0, .int 0, .int 0, .ref q99, .int 0, .ref q100, .ref q101, .ref q102, .ref q103, .int 0, .ref q74, .ref q75, .ref q76, .ref q77, .int 0, .ref q78, .ref q79, .ref q104]))]) [0] (by decide) rfl
      have hFc := va_free (wc := [(q59, .inr (12, [.ref q61, .ref q62, .ref q63, .ref q64, .ref q65, .ref q66, .ref q81, .ref q82, .ref q83, .ref q84, .ref q85, .ref q86, .int 0, .ref q87, .ref q88, .ref q89, .int 9, .int 0, .int 0, .ref q67, .ref q90, .ref q68, .int 0, .int 2, .ref q80, .ref q69, .ref q70, .ref q71, .int 0, .ref q72, .int 0, .ref q91, .ref q92, .ref q93, .ref q94, .int 0, .ref q73, .int 0, .int 0, .ref q95, .ref q96, .ref q97, .ref q98, .int 0, .int 0, .int 0, .int 0, .ref q99, .int 0, .ref q100, .ref q101, .ref q102, .ref q103, .int 0, .ref q74, .ref q75, .ref q76, .ref q77, .int 0, .ref q78, .ref q79, .ref q104]))]) hD hS hA [0] rfl
      refine va_calli (va_runV (As := [.int (xs 1)]) (rest := []) ⟨hx, hb, hml, hown, hts⟩ (kX12_row l D G q59 (xs 1) q61 q62 q63 q64 q65 q66 q81 q82 q83 q84 q85 q86 q87 q88 q89 q67 q90 q68 q80 q69 q70 q71 q72 q91 q92 q93 q94 q73 q95 q96 q97 q98 q99 q100 q101 q102 q103 q74 q75 q76 q77 q78 q79 q104 H.size) (cwV 1 hts gL_law_X12_row rfl rfl rfl (by decide +kernel) ⟨Nat.le_of_ble_eq_true rfl, Nat.le_of_ble_eq_true rfl⟩) ⟨wB_blind, va_recv hK hPc (ci := 12) (q0 := 0) rfl rfl, wB_pre hPc hK hDc hN⟩ rfl rfl hl.1 rfl (lv_room (Nat.le_of_ble_eq_true rfl)) dL_law_1495 ⟨Nat.le_of_ble_eq_true rfl, Nat.le_of_ble_eq_true rfl⟩) hS (fun q _ h => hFc q h) hFc (fun r216 u t H1 locs ht hvm hr216 hB hz1 hk1 hS => ?_)
      obtain ⟨hP1, hK1, hD1⟩ := hB
      rw [ht] at hP1
      obtain ⟨hP, hD⟩ := va_join (wr := []) (w1 := [(q59, .inr (12, [.ref q61, .ref q62, .ref q63, .ref q64, .ref q65, .ref q66, .ref q81, .ref q82, .ref q83, .ref q84, .ref q85, .ref q86, .int 0, .ref q87, .ref q88, .ref q89, .int 9, .int 0, .int 0, .ref q67, .ref q90, .ref q68, .int 0, .int 2, .ref q80, .ref q69, .ref q70, .ref q71, .int 0, .ref q72, .int 0, .ref q91, .ref q92, .ref q93, .ref q94, .int 0, .ref q73, .int 0, .int 1, .ref q95, .ref q96, .ref q97, .ref q98, .int 0, .int 0, .int 0, .int 0, .ref q99, .int 0, .ref q100, .ref q101, .ref q102, .ref q103, .int 0, .ref q74, .ref q75, .ref q76, .ref q77, .int 0, .ref q78, .ref q79, .ref q104]))]) hP hD [0] [] rfl rfl (by decide) (by decide) hk1 hFc hP1 hD1
      clear hPc hDc
      generalize H1 = H at hP hS ⊢
      have hP : va_P D vwCl [(q59, .inr (12, [.ref q61, .ref q62, .ref q63, .ref q64, .ref q65, .ref q66, .ref q81, .ref q82, .ref q83, .ref q84, .ref q85, .ref q86, .int 0, .ref q87, .ref q88, .ref q89, .int 9, .int 0, .int 0, .ref q67, .ref q90, .ref q68, .int 0, .int 2, .ref q80, .ref q69, .ref q70, .ref q71, .int 0, .ref q72, .int 0, .ref q91, .ref q92, .ref q93, .ref q94, .int 0, .ref q73, .int 0, .int 1, .ref q95, .ref q96, .ref q97, .ref q98, .int 0, .int 0, .int 0, .int 0, .ref q99, .int 0, .ref q100, .ref q101, .ref q102, .ref q103, .int 0, .ref q74, .ref q75, .ref q76, .ref q77, .int 0, .ref q78, .ref q79, .ref q104]))] H := hP
      have hD : va_D A [(q59, .inr (12, [.ref q61, .ref q62, .ref q63, .ref q64, .ref q65, .ref q66, .ref q81, .ref q82, .ref q83, .ref q84, .ref q85, .ref q86, .int 0, .ref q87, .ref q88, .ref q89, .int 9, .int 0, .int 0, .ref q67, .ref q90, .ref q68, .int 0, .int 2, .ref q80, .ref q69, .ref q70, .ref q71, .int 0, .ref q72, .int 0, .ref q91, .ref q92, .ref q93, .ref q94, .int 0, .ref q73, .int 0, .int 1, .ref q95, .ref q96, .ref q97, .ref q98, .int 0, .int 0, .int 0, .int 0, .ref q99, .int 0, .ref q100, .ref q101, .ref q102, .ref q103, .int 0, .ref q74, .ref q75, .ref q76, .ref q77, .int 0, .ref q78, .ref q79, .ref q104]))] := hD
      subst hr216
      refine lv_istore (lv' := [(6, .int 0), (5, .int 1), (4, .int 0), (3, .ref q105), (2, .ref q59), (1, .ref q1), (0, .ref b)]) hx hb dL_law_1498 hl (by decide) rfl (fun ls hl => ?_)
      refine lv_aload_n hx hb dL_law_1500 rfl (lv_at hl 4 rfl) ?_
      have hPc := hP.sub (ws' := [(q59, .inr (12, [.ref q61, .ref q62, .ref q63, .ref q64, .ref q65, .ref q66, .ref q81, .ref q82, .ref q83, .ref q84, .ref q85, .ref q86, .int 0, .ref q87, .ref q88, .ref q89, .int 9, .int 0, .int 0, .ref q67, .ref q90, .ref q68, .int 0, .int 2, .ref q80, .ref q69, .ref q70, .ref q71, .int 0, .ref q72, .int 0, .ref q91, .ref q92, .ref q93, .ref q94, .int 0, .ref q73, .int 0, .int 1, .ref q95, .ref q96, .ref q97, .ref q98, .int 0, .int 0, .int 0, .int 0, .ref q99, .int 0, .ref q100, .ref q101, .ref q102, .ref q103, .int 0, .ref q74, .ref q75, .ref q76, .ref q77, .int 0, .ref q78, .ref q79, .ref q104]))]) [0] rfl
      have hDc := hD.sub (ws' := [(q59, .inr (12, [.ref q61, .ref q62, .ref q63, .ref q64, .ref q65, .ref q66, .ref q81, .ref q82, .ref q83, .ref q84, .ref q85, .ref q86, .int 0, .ref q87, .ref q88, .ref q89, .int 9, .int 0, .int 0, .ref q67, .ref q90, .ref q68, .int 0, .int 2, .ref q80, .ref q69, .ref q70, .ref q71, .int 0, .ref q72, .int 0, .ref q91, .ref q92, .ref q93, .ref q94, .int 0, .ref q73, .int 0, .int 1, .ref q95, .ref q96, .ref q97, .ref q98, .int 0, .int 0, .int 0, .int 0, .ref q99, .int 0, .ref q100, .ref q101, .ref q102, .ref q103, .int 0, .ref q74, .ref q75, .ref q76, .ref q77, .int 0, .ref q78, .ref q79, .ref q104]))]) [0] (by decide) rfl
      have hFc := va_free (wc := [(q59, .inr (12, [.ref q61, .ref q62, .ref q63, .ref q64, .ref q65, .ref q66, .ref q81, .ref q82, .ref q83, .ref q84, .ref q85, .ref q86, .int 0, .ref q87, .ref q88, .ref q89, .int 9, .int 0, .int 0, .ref q67, .ref q90, .ref q68, .int 0, .int 2, .ref q80, .ref q69, .ref q70, .ref q71, .int 0, .ref q72, .int 0, .ref q91, .ref q92, .ref q93, .ref q94, .int 0, .ref q73, .int 0, .int 1, .ref q95, .ref q96, .ref q97, .ref q98, .int 0, .int 0, .int 0, .int 0, .ref q99, .int 0, .ref q100, .ref q101, .ref q102, .ref q103, .int 0, .ref q74, .ref q75, .ref q76, .ref q77, .int 0, .ref q78, .ref q79, .ref q104]))]) hD hS hA [0] rfl
      refine va_calli (va_runV (As := []) (rest := []) ⟨hx, hb, hml, hown, hts⟩ (kX12_thrown l D G q59 q61 q62 q63 q64 q65 q66 q81 q82 q83 q84 q85 q86 q87 q88 q89 q67 q90 q68 q80 q69 q70 q71 q72 q91 q92 q93 q94 q73 q95 q96 q97 q98 q99 q100 q101 q102 q103 q74 q75 q76 q77 q78 q79 q104 H.size) (cwV 0 hts gL_law_X12_thrown rfl rfl rfl (by decide +kernel) ⟨Nat.le_of_ble_eq_true rfl, Nat.le_of_ble_eq_true rfl⟩) ⟨wB_blind, va_recv hK hPc (ci := 12) (q0 := 0) rfl rfl, wB_pre hPc hK hDc hN⟩ rfl rfl hl.1 rfl (lv_room (Nat.le_of_ble_eq_true rfl)) dL_law_1501 ⟨Nat.le_of_ble_eq_true rfl, Nat.le_of_ble_eq_true rfl⟩) hS (fun q _ h => hFc q h) hFc (fun r217 u t H1 locs ht hvm hr217 hB hz1 hk1 hS => ?_)
      obtain ⟨hP, hD⟩ := va_join (wr := []) (w1 := []) hP hD [0] [] rfl rfl (by decide) (by decide) hk1 hFc wP_nil wD_nil
      clear hPc hDc
      generalize H1 = H at hP hS ⊢
      have hP : va_P D vwCl [] H := hP
      have hD : va_D A [] := hD
      subst hr217
      refine lv_iload hx hb dL_law_1504 (lv_at hl 1 rfl) ?_
      refine lv_icmp_eq (tgt := 1511) hx hb dL_law_1506 (by decide) (fun _ => ?_) (fun h9 => absurd h9 (by decide))
      refine lv_iload hx hb dL_law_1511 (lv_at hl 1 rfl) ?_
      refine lv_if_ne (tgt := 1528) hx hb dL_law_1513 (by decide) (fun _ => ?_) (fun h9 => absurd h9 (by decide))
      refine lv_goto (tgt := 1531) hx hb dL_law_1528 (by decide) ?_
      refine lv_iinc (v := 7) (lv' := [(4, .int 7), (6, .int 0), (5, .int 1), (3, .ref q105), (2, .ref q59), (1, .ref q1), (0, .ref b)]) hx hb dL_law_1531 hl (k := 2) rfl (by decide) (by decide) rfl (fun ls hl => ?_)
      refine lv_goto (tgt := 23) hx hb dL_law_1534 (by decide) ?_
      refine lv_iload hx hb dL_law_23 (lv_at hl 0 rfl) ?_
      refine lv_aload_n hx hb dL_law_25 rfl (lv_at hl 6 rfl) ?_
      refine va_slen hx hb hX hbl hbA hS dL_law_26 ?_
      refine wk_i 7 rfl ?_
      refine lv_bipush (v := 7) hx hb dL_law_27 (by decide) ?_
      refine lv_isub hx hb dL_law_29 ?_
      refine wk_i 0 (by decide) ?_
      refine lv_icmp_gt (tgt := 1537) hx hb dL_law_30 (by decide) (fun _ => ?_) (fun h9 => absurd h9 (by decide))
      refine lv_iconst (v := 1) hx hb dL_law_1537 (by decide) ?_
      refine va_forget (fun q hq => by have h9 := hS.2.2 q hq; rw [hAe] at h9; exact h9) ?_
      refine W.widen (k := 600002) (n := 7302232) (by omega) (by omega) ?_
      exact lw_ret hx hb hr hlocks dL_law_1538
    · refine lv_tableOut (tgt := 1531) hx hb dL_law_40 (by have bs107 : vs.toInt ≠ 0 := fun h9 => s107 (wk_eq (by rw [h9]; decide)); have bs110 : vs.toInt ≠ 1 := fun h9 => s110 (wk_eq (by rw [h9]; decide)); have bs113 : vs.toInt ≠ 2 := fun h9 => s113 (wk_eq (by rw [h9]; decide)); have bs116 : vs.toInt ≠ 3 := fun h9 => s116 (wk_eq (by rw [h9]; decide)); have bs119 : vs.toInt ≠ 4 := fun h9 => s119 (wk_eq (by rw [h9]; decide)); have bs122 : vs.toInt ≠ 5 := fun h9 => s122 (wk_eq (by rw [h9]; decide)); have bs130 : vs.toInt ≠ 6 := fun h9 => s130 (wk_eq (by rw [h9]; decide)); have bs133 : vs.toInt ≠ 7 := fun h9 => s133 (wk_eq (by rw [h9]; decide)); have bs137 : vs.toInt ≠ 8 := fun h9 => s137 (wk_eq (by rw [h9]; decide)); have bs141 : vs.toInt ≠ 9 := fun h9 => s141 (wk_eq (by rw [h9]; decide)); have bs144 : vs.toInt ≠ 10 := fun h9 => s144 (wk_eq (by rw [h9]; decide)); have bs147 : vs.toInt ≠ 11 := fun h9 => s147 (wk_eq (by rw [h9]; decide)); have bs150 : vs.toInt ≠ 12 := fun h9 => s150 (wk_eq (by rw [h9]; decide)); have bs153 : vs.toInt ≠ 13 := fun h9 => s153 (wk_eq (by rw [h9]; decide)); have bs156 : vs.toInt ≠ 14 := fun h9 => s156 (wk_eq (by rw [h9]; decide)); have bs159 : vs.toInt ≠ 15 := fun h9 => s159 (wk_eq (by rw [h9]; decide)); have bs162 : vs.toInt ≠ 16 := fun h9 => s162 (wk_eq (by rw [h9]; decide)); have bs165 : vs.toInt ≠ 17 := fun h9 => s165 (wk_eq (by rw [h9]; decide)); have bs168 : vs.toInt ≠ 18 := fun h9 => s168 (wk_eq (by rw [h9]; decide)); have bs171 : vs.toInt ≠ 19 := fun h9 => s171 (wk_eq (by rw [h9]; decide)); have bs174 : vs.toInt ≠ 20 := fun h9 => s174 (wk_eq (by rw [h9]; decide)); have bs177 : vs.toInt ≠ 21 := fun h9 => s177 (wk_eq (by rw [h9]; decide)); have bs180 : vs.toInt ≠ 22 := fun h9 => s180 (wk_eq (by rw [h9]; decide)); have bs183 : vs.toInt ≠ 23 := fun h9 => s183 (wk_eq (by rw [h9]; decide)); have bs186 : vs.toInt ≠ 24 := fun h9 => s186 (wk_eq (by rw [h9]; decide)); have bs189 : vs.toInt ≠ 25 := fun h9 => s189 (wk_eq (by rw [h9]; decide)); have bs192 : vs.toInt ≠ 26 := fun h9 => s192 (wk_eq (by rw [h9]; decide)); have bs195 : vs.toInt ≠ 27 := fun h9 => s195 (wk_eq (by rw [h9]; decide)); have bs198 : vs.toInt ≠ 28 := fun h9 => s198 (wk_eq (by rw [h9]; decide)); have bs201 : vs.toInt ≠ 29 := fun h9 => s201 (wk_eq (by rw [h9]; decide)); have bs204 : vs.toInt ≠ 30 := fun h9 => s204 (wk_eq (by rw [h9]; decide)); have bs208 : vs.toInt ≠ 31 := fun h9 => s208 (wk_eq (by rw [h9]; decide)); have bs211 : vs.toInt ≠ 32 := fun h9 => s211 (wk_eq (by rw [h9]; decide)); have bs214 : vs.toInt ≠ 33 := fun h9 => s214 (wk_eq (by rw [h9]; decide)); omega) (by decide) ?_
      refine lv_iinc (v := 7) (lv' := [(4, .int 7), (3, .ref q105), (2, .ref q59), (1, .ref q1), (0, .ref b)]) hx hb dL_law_1531 hl (k := 0) rfl (by decide) (by decide) rfl (fun ls hl => ?_)
      refine lv_goto (tgt := 23) hx hb dL_law_1534 (by decide) ?_
      refine lv_iload hx hb dL_law_23 (lv_at hl 0 rfl) ?_
      refine lv_aload_n hx hb dL_law_25 rfl (lv_at hl 4 rfl) ?_
      refine va_slen hx hb hX hbl hbA hS dL_law_26 ?_
      refine wk_i 7 rfl ?_
      refine lv_bipush (v := 7) hx hb dL_law_27 (by decide) ?_
      refine lv_isub hx hb dL_law_29 ?_
      refine wk_i 0 (by decide) ?_
      refine lv_icmp_gt (tgt := 1537) hx hb dL_law_30 (by decide) (fun _ => ?_) (fun h9 => absurd h9 (by decide))
      refine lv_iconst (v := 1) hx hb dL_law_1537 (by decide) ?_
      refine va_forget (fun q hq => by have h9 := hS.2.2 q hq; rw [hAe] at h9; exact h9) ?_
      refine W.widen (k := 600002) (n := 7302232) (by omega) (by omega) ?_
      exact lw_ret hx hb hr hlocks dL_law_1538
