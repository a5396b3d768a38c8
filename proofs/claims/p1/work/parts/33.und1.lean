/-- no pass at all -/
def tIdn : Nat → Int64 := tL [1, 0, 0, 0, 0, 0, 1, 0, 0, 0, 0, 0, 1, 0, 0, 0, 0, 0, 1, 0, 0, 0, 0, 0, 1]
theorem mX12_contrary_w0 : Cond.constantLong RX12 335 (1000001) ∈ wsX12_contrary := by decide +kernel
theorem mX12_contrary_w1 : Cond.constantLong RX12 337 (2) ∈ wsX12_contrary := by decide +kernel
theorem mX12_contrary_w2 : Cond.constantLong RX12 339 (1000003) ∈ wsX12_contrary := by decide +kernel
theorem dX12_contrary_0 : decode cX12_contrary 0 = .ok (.lconst 1, 1) := by decide +kernel
theorem dX12_contrary_1 : decode cX12_contrary 1 = .ok (.lstore_n 2, 1) := by decide +kernel
theorem dX12_contrary_2 : decode cX12_contrary 2 = .ok (.lload_n 0, 1) := by decide +kernel
theorem dX12_contrary_3 : decode cX12_contrary 3 = .ok (.lstore 4, 2) := by decide +kernel
theorem dX12_contrary_5 : decode cX12_contrary 5 = .ok (.ldc2_w 335, 3) := by decide +kernel
theorem dX12_contrary_8 : decode cX12_contrary 8 = .ok (.lstore 6, 2) := by decide +kernel
theorem dX12_contrary_10 : decode cX12_contrary 10 = .ok (.lload 6, 2) := by decide +kernel
theorem dX12_contrary_12 : decode cX12_contrary 12 = .ok (.lconst 0, 1) := by decide +kernel
theorem dX12_contrary_13 : decode cX12_contrary 13 = .ok (.lcmp, 1) := by decide +kernel
theorem dX12_contrary_14 : decode cX12_contrary 14 = .ok (.ifCond .le 45, 3) := by decide +kernel
theorem dX12_contrary_17 : decode cX12_contrary 17 = .ok (.lload 6, 2) := by decide +kernel
theorem dX12_contrary_19 : decode cX12_contrary 19 = .ok (.ldc2_w 337, 3) := by decide +kernel
theorem dX12_contrary_22 : decode cX12_contrary 22 = .ok (.lrem, 1) := by decide +kernel
theorem dX12_contrary_23 : decode cX12_contrary 23 = .ok (.lconst 1, 1) := by decide +kernel
theorem dX12_contrary_24 : decode cX12_contrary 24 = .ok (.lcmp, 1) := by decide +kernel
theorem dX12_contrary_25 : decode cX12_contrary 25 = .ok (.ifCond .ne 12, 3) := by decide +kernel
theorem dX12_contrary_28 : decode cX12_contrary 28 = .ok (.lload_n 2, 1) := by decide +kernel
theorem dX12_contrary_29 : decode cX12_contrary 29 = .ok (.lload 4, 2) := by decide +kernel
theorem dX12_contrary_31 : decode cX12_contrary 31 = .ok (.lmul, 1) := by decide +kernel
theorem dX12_contrary_32 : decode cX12_contrary 32 = .ok (.ldc2_w 339, 3) := by decide +kernel
theorem dX12_contrary_35 : decode cX12_contrary 35 = .ok (.lrem, 1) := by decide +kernel
theorem dX12_contrary_36 : decode cX12_contrary 36 = .ok (.lstore_n 2, 1) := by decide +kernel
theorem dX12_contrary_37 : decode cX12_contrary 37 = .ok (.lload 4, 2) := by decide +kernel
theorem dX12_contrary_39 : decode cX12_contrary 39 = .ok (.lload 4, 2) := by decide +kernel
theorem dX12_contrary_41 : decode cX12_contrary 41 = .ok (.lmul, 1) := by decide +kernel
theorem dX12_contrary_42 : decode cX12_contrary 42 = .ok (.ldc2_w 339, 3) := by decide +kernel
theorem dX12_contrary_45 : decode cX12_contrary 45 = .ok (.lrem, 1) := by decide +kernel
theorem dX12_contrary_46 : decode cX12_contrary 46 = .ok (.lstore 4, 2) := by decide +kernel
theorem dX12_contrary_48 : decode cX12_contrary 48 = .ok (.lload 6, 2) := by decide +kernel
theorem dX12_contrary_50 : decode cX12_contrary 50 = .ok (.ldc2_w 337, 3) := by decide +kernel
theorem dX12_contrary_53 : decode cX12_contrary 53 = .ok (.ldiv, 1) := by decide +kernel
theorem dX12_contrary_54 : decode cX12_contrary 54 = .ok (.lstore 6, 2) := by decide +kernel
theorem dX12_contrary_56 : decode cX12_contrary 56 = .ok (.goto (-46), 3) := by decide +kernel
theorem dX12_contrary_59 : decode cX12_contrary 59 = .ok (.lload_n 2, 1) := by decide +kernel
theorem dX12_contrary_60 : decode cX12_contrary 60 = .ok (.lreturn, 1) := by decide +kernel
set_option maxHeartbeats 4000000 in
set_option maxRecDepth 100000 in
/-- X12_contrary -/
theorem kX12_contrary (l : Launch) (D : va_G) (G : tyG) (sz : Nat) : Met l yX12_contrary wsX12_contrary ({ frames := 0, cells := 0, slots := 0, locals := 0 }) (va_Pc [.long 7] (wB D G sz [])) (va_Ql (fun (r : Int64) (_ : Unit) => r = 714288) (fun _ _ => True) (va_A [] sz)) 0 0 (va_A [] sz) := by
  refine Met.ofW (cc := cX12_contrary) (maxL := 8) (ret := (some .long)) (by decide) rfl ?_
  intro p e s m args below meth c s₁ B hml hv
  obtain ⟨rfl, hsz, hP, hK, hD0, hN⟩ := hv
  have hx := B.exec
  have hb := B.bytes
  have hr := B.returns
  have hts := atoms_spec (ws := wsX12_contrary) B.pre
  have hown : s.vm.findClass RX12 = some m.cls := findClass_of_methodNamed B.named
  have hlocks := B.notSynchronized
  subst hsz
  have hD := hD0.self (sz := s.heap.size)
  generalize hAe : va_A [] s.heap.size = A at hD ⊢
  have hA : ∀ q : Nat, s.heap.size ≤ q → A q := fun q h => by rw [← hAe]; exact Or.inr h
  have hS : va_S A s.heap s.heap [] := va_S.rf
  have hP : va_P D vwCl [] s.heap := hP
  have hl := lv_entry ([.long 7]) (n := 8) (Nat.le_of_ble_eq_true rfl)
  rw [lg_entry_eq]
  generalize (lg_sl ([.long 7]) ++ List.replicate (8 - (lg_sl ([.long 7])).length) Slot.unset).toArray = ls at hl ⊢
  have hl : lv_has ls 8 [(0, .long 7)] := hl
  refine lv_lconst (v := 1) hx hb dX12_contrary_0 (by decide) ?_
  refine lv_lstore_n (lv' := [(2, .long 1), (0, .long 7)]) hx hb dX12_contrary_1 rfl hl (by decide) rfl (fun ls hl => ?_)
  refine lv_lload_n hx hb dX12_contrary_2 rfl (lv_at hl 1 rfl) ?_
  refine lv_lstore (lv' := [(4, .long 7), (2, .long 1), (0, .long 7)]) hx hb dX12_contrary_3 hl (by decide) rfl (fun ls hl => ?_)
  refine lv_ldc2 (v := 1000001) hx hb hown (hts (.constantLong RX12 335 (1000001)) mX12_contrary_w0) dX12_contrary_5 ?_
  refine lv_lstore (lv' := [(6, .long 1000001), (4, .long 7), (2, .long 1), (0, .long 7)]) hx hb dX12_contrary_8 hl (by decide) rfl (fun ls hl => ?_)
  refine lv_lload hx hb dX12_contrary_10 (lv_at hl 0 rfl) ?_
  refine lv_lconst (v := 0) hx hb dX12_contrary_12 (by decide) ?_
  refine W.lcmp hx hb dX12_contrary_13 ?_
  refine wk_i 1 (by decide) ?_
  refine lv_if_le (tgt := 59) hx hb dX12_contrary_14 (by decide) (fun h9 => absurd h9 (by decide)) (fun _ => ?_)
  refine lv_lload hx hb dX12_contrary_17 (lv_at hl 0 rfl) ?_
  refine lv_ldc2 (v := 2) hx hb hown (hts (.constantLong RX12 337 (2)) mX12_contrary_w1) dX12_contrary_19 ?_
  refine lv_lrem hx hb dX12_contrary_22 (by decide) ?_
  refine wk_l 1 (by decide) ?_
  refine lv_lconst (v := 1) hx hb dX12_contrary_23 (by decide) ?_
  refine W.lcmp hx hb dX12_contrary_24 ?_
  refine wk_i 0 (by decide) ?_
  refine lv_if_ne (tgt := 37) hx hb dX12_contrary_25 (by decide) (fun h9 => absurd h9 (by decide)) (fun _ => ?_)
  refine lv_lload_n hx hb dX12_contrary_28 rfl (lv_at hl 2 rfl) ?_
  refine lv_lload hx hb dX12_contrary_29 (lv_at hl 1 rfl) ?_
  refine lv_lmul hx hb dX12_contrary_31 ?_
  refine wk_l 7 (by decide) ?_
  refine lv_ldc2 (v := 1000003) hx hb hown (hts (.constantLong RX12 339 (1000003)) mX12_contrary_w2) dX12_contrary_32 ?_
  refine lv_lrem hx hb dX12_contrary_35 (by decide) ?_
  refine wk_l 7 (by decide) ?_
  refine lv_lstore_n (lv' := [(2, .long 7), (6, .long 1000001), (4, .long 7), (0, .long 7)]) hx hb dX12_contrary_36 rfl hl (by decide) rfl (fun ls hl => ?_)
  refine lv_lload hx hb dX12_contrary_37 (lv_at hl 2 rfl) ?_
  refine lv_lload hx hb dX12_contrary_39 (lv_at hl 2 rfl) ?_
  refine lv_lmul hx hb dX12_contrary_41 ?_
  refine wk_l 49 (by decide) ?_
  refine lv_ldc2 (v := 1000003) hx hb hown (hts (.constantLong RX12 339 (1000003)) mX12_contrary_w2) dX12_contrary_42 ?_
  refine lv_lrem hx hb dX12_contrary_45 (by decide) ?_
  refine wk_l 49 (by decide) ?_
  refine lv_lstore (lv' := [(4, .long 49), (2, .long 7), (6, .long 1000001), (0, .long 7)]) hx hb dX12_contrary_46 hl (by decide) rfl (fun ls hl => ?_)
  refine lv_lload hx hb dX12_contrary_48 (lv_at hl 2 rfl) ?_
  refine lv_ldc2 (v := 2) hx hb hown (hts (.constantLong RX12 337 (2)) mX12_contrary_w1) dX12_contrary_50 ?_
  refine lv_ldiv hx hb dX12_contrary_53 (by decide) ?_
  refine wk_l 500000 (by decide) ?_
  refine lv_lstore (lv' := [(6, .long 500000), (4, .long 49), (2, .long 7), (0, .long 7)]) hx hb dX12_contrary_54 hl (by decide) rfl (fun ls hl => ?_)
  refine lv_goto (tgt := 10) hx hb dX12_contrary_56 (by decide) ?_
  refine lv_lload hx hb dX12_contrary_10 (lv_at hl 0 rfl) ?_
  refine lv_lconst (v := 0) hx hb dX12_contrary_12 (by decide) ?_
  refine W.lcmp hx hb dX12_contrary_13 ?_
  refine wk_i 1 (by decide) ?_
  refine lv_if_le (tgt := 59) hx hb dX12_contrary_14 (by decide) (fun h9 => absurd h9 (by decide)) (fun _ => ?_)
  refine lv_lload hx hb dX12_contrary_17 (lv_at hl 0 rfl) ?_
  refine lv_ldc2 (v := 2) hx hb hown (hts (.constantLong RX12 337 (2)) mX12_contrary_w1) dX12_contrary_19 ?_
  refine lv_lrem hx hb dX12_contrary_22 (by decide) ?_
  refine wk_l 0 (by decide) ?_
  refine lv_lconst (v := 1) hx hb dX12_contrary_23 (by decide) ?_
  refine W.lcmp hx hb dX12_contrary_24 ?_
  refine wk_i (-1) (by decide) ?_
  refine lv_if_ne (tgt := 37) hx hb dX12_contrary_25 (by decide) (fun _ => ?_) (fun h9 => absurd h9 (by decide))
  refine lv_lload hx hb dX12_contrary_37 (lv_at hl 1 rfl) ?_
  refine lv_lload hx hb dX12_contrary_39 (lv_at hl 1 rfl) ?_
  refine lv_lmul hx hb dX12_contrary_41 ?_
  refine wk_l 2401 (by decide) ?_
  refine lv_ldc2 (v := 1000003) hx hb hown (hts (.constantLong RX12 339 (1000003)) mX12_contrary_w2) dX12_contrary_42 ?_
  refine lv_lrem hx hb dX12_contrary_45 (by decide) ?_
  refine wk_l 2401 (by decide) ?_
  refine lv_lstore (lv' := [(4, .long 2401), (6, .long 500000), (2, .long 7), (0, .long 7)]) hx hb dX12_contrary_46 hl (by decide) rfl (fun ls hl => ?_)
  refine lv_lload hx hb dX12_contrary_48 (lv_at hl 1 rfl) ?_
  refine lv_ldc2 (v := 2) hx hb hown (hts (.constantLong RX12 337 (2)) mX12_contrary_w1) dX12_contrary_50 ?_
  refine lv_ldiv hx hb dX12_contrary_53 (by decide) ?_
  refine wk_l 250000 (by decide) ?_
  refine lv_lstore (lv' := [(6, .long 250000), (4, .long 2401), (2, .long 7), (0, .long 7)]) hx hb dX12_contrary_54 hl (by decide) rfl (fun ls hl => ?_)
  refine lv_goto (tgt := 10) hx hb dX12_contrary_56 (by decide) ?_
  refine lv_lload hx hb dX12_contrary_10 (lv_at hl 0 rfl) ?_
  refine lv_lconst (v := 0) hx hb dX12_contrary_12 (by decide) ?_
  refine W.lcmp hx hb dX12_contrary_13 ?_
  refine wk_i 1 (by decide) ?_
  refine lv_if_le (tgt := 59) hx hb dX12_contrary_14 (by decide) (fun h9 => absurd h9 (by decide)) (fun _ => ?_)
  refine lv_lload hx hb dX12_contrary_17 (lv_at hl 0 rfl) ?_
  refine lv_ldc2 (v := 2) hx hb hown (hts (.constantLong RX12 337 (2)) mX12_contrary_w1) dX12_contrary_19 ?_
  refine lv_lrem hx hb dX12_contrary_22 (by decide) ?_
  refine wk_l 0 (by decide) ?_
  refine lv_lconst (v := 1) hx hb dX12_contrary_23 (by decide) ?_
  refine W.lcmp hx hb dX12_contrary_24 ?_
  refine wk_i (-1) (by decide) ?_
  refine lv_if_ne (tgt := 37) hx hb dX12_contrary_25 (by decide) (fun _ => ?_) (fun h9 => absurd h9 (by decide))
  refine lv_lload hx hb dX12_contrary_37 (lv_at hl 1 rfl) ?_
  refine lv_lload hx hb dX12_contrary_39 (lv_at hl 1 rfl) ?_
  refine lv_lmul hx hb dX12_contrary_41 ?_
  refine wk_l 5764801 (by decide) ?_
  refine lv_ldc2 (v := 1000003) hx hb hown (hts (.constantLong RX12 339 (1000003)) mX12_contrary_w2) dX12_contrary_42 ?_
  refine lv_lrem hx hb dX12_contrary_45 (by decide) ?_
  refine wk_l 764786 (by decide) ?_
  refine lv_lstore (lv' := [(4, .long 764786), (6, .long 250000), (2, .long 7), (0, .long 7)]) hx hb dX12_contrary_46 hl (by decide) rfl (fun ls hl => ?_)
  refine lv_lload hx hb dX12_contrary_48 (lv_at hl 1 rfl) ?_
  refine lv_ldc2 (v := 2) hx hb hown (hts (.constantLong RX12 337 (2)) mX12_contrary_w1) dX12_contrary_50 ?_
  refine lv_ldiv hx hb dX12_contrary_53 (by decide) ?_
  refine wk_l 125000 (by decide) ?_
  refine lv_lstore (lv' := [(6, .long 125000), (4, .long 764786), (2, .long 7), (0, .long 7)]) hx hb dX12_contrary_54 hl (by decide) rfl (fun ls hl => ?_)
  refine lv_goto (tgt := 10) hx hb dX12_contrary_56 (by decide) ?_
  refine lv_lload hx hb dX12_contrary_10 (lv_at hl 0 rfl) ?_
  refine lv_lconst (v := 0) hx hb dX12_contrary_12 (by decide) ?_
  refine W.lcmp hx hb dX12_contrary_13 ?_
  refine wk_i 1 (by decide) ?_
  refine lv_if_le (tgt := 59) hx hb dX12_contrary_14 (by decide) (fun h9 => absurd h9 (by decide)) (fun _ => ?_)
  refine lv_lload hx hb dX12_contrary_17 (lv_at hl 0 rfl) ?_
  refine lv_ldc2 (v := 2) hx hb hown (hts (.constantLong RX12 337 (2)) mX12_contrary_w1) dX12_contrary_19 ?_
  refine lv_lrem hx hb dX12_contrary_22 (by decide) ?_
  refine wk_l 0 (by decide) ?_
  refine lv_lconst (v := 1) hx hb dX12_contrary_23 (by decide) ?_
  refine W.lcmp hx hb dX12_contrary_24 ?_
  refine wk_i (-1) (by decide) ?_
  refine lv_if_ne (tgt := 37) hx hb dX12_contrary_25 (by decide) (fun _ => ?_) (fun h9 => absurd h9 (by decide))
  refine lv_lload hx hb dX12_contrary_37 (lv_at hl 1 rfl) ?_
  refine lv_lload hx hb dX12_contrary_39 (lv_at hl 1 rfl) ?_
  refine lv_lmul hx hb dX12_contrary_41 ?_
  refine wk_l 584897625796 (by decide) ?_
  refine lv_ldc2 (v := 1000003) hx hb hown (hts (.constantLong RX12 339 (1000003)) mX12_contrary_w2) dX12_contrary_42 ?_
  refine lv_lrem hx hb dX12_contrary_45 (by decide) ?_
  refine wk_l 871111 (by decide) ?_
  refine lv_lstore (lv' := [(4, .long 871111), (6, .long 125000), (2, .long 7), (0, .long 7)]) hx hb dX12_contrary_46 hl (by decide) rfl (fun ls hl => ?_)
  refine lv_lload hx hb dX12_contrary_48 (lv_at hl 1 rfl) ?_
  refine lv_ldc2 (v := 2) hx hb hown (hts (.constantLong RX12 337 (2)) mX12_contrary_w1) dX12_contrary_50 ?_
  refine lv_ldiv hx hb dX12_contrary_53 (by decide) ?_
  refine wk_l 62500 (by decide) ?_
  refine lv_lstore (lv' := [(6, .long 62500), (4, .long 871111), (2, .long 7), (0, .long 7)]) hx hb dX12_contrary_54 hl (by decide) rfl (fun ls hl => ?_)
  refine lv_goto (tgt := 10) hx hb dX12_contrary_56 (by decide) ?_
  refine lv_lload hx hb dX12_contrary_10 (lv_at hl 0 rfl) ?_
  refine lv_lconst (v := 0) hx hb dX12_contrary_12 (by decide) ?_
  refine W.lcmp hx hb dX12_contrary_13 ?_
  refine wk_i 1 (by decide) ?_
  refine lv_if_le (tgt := 59) hx hb dX12_contrary_14 (by decide) (fun h9 => absurd h9 (by decide)) (fun _ => ?_)
  refine lv_lload hx hb dX12_contrary_17 (lv_at hl 0 rfl) ?_
  refine lv_ldc2 (v := 2) hx hb hown (hts (.constantLong RX12 337 (2)) mX12_contrary_w1) dX12_contrary_19 ?_
  refine lv_lrem hx hb dX12_contrary_22 (by decide) ?_
  refine wk_l 0 (by decide) ?_
  refine lv_lconst (v := 1) hx hb dX12_contrary_23 (by decide) ?_
  refine W.lcmp hx hb dX12_contrary_24 ?_
  refine wk_i (-1) (by decide) ?_
  refine lv_if_ne (tgt := 37) hx hb dX12_contrary_25 (by decide) (fun _ => ?_) (fun h9 => absurd h9 (by decide))
  refine lv_lload hx hb dX12_contrary_37 (lv_at hl 1 rfl) ?_
  refine lv_lload hx hb dX12_contrary_39 (lv_at hl 1 rfl) ?_
  refine lv_lmul hx hb dX12_contrary_41 ?_
  refine wk_l 758834374321 (by decide) ?_
  refine lv_ldc2 (v := 1000003) hx hb hown (hts (.constantLong RX12 339 (1000003)) mX12_contrary_w2) dX12_contrary_42 ?_
  refine lv_lrem hx hb dX12_contrary_45 (by decide) ?_
  refine wk_l 97825 (by decide) ?_
  refine lv_lstore (lv' := [(4, .long 97825), (6, .long 62500), (2, .long 7), (0, .long 7)]) hx hb dX12_contrary_46 hl (by decide) rfl (fun ls hl => ?_)
  refine lv_lload hx hb dX12_contrary_48 (lv_at hl 1 rfl) ?_
  refine lv_ldc2 (v := 2) hx hb hown (hts (.constantLong RX12 337 (2)) mX12_contrary_w1) dX12_contrary_50 ?_
  refine lv_ldiv hx hb dX12_contrary_53 (by decide) ?_
  refine wk_l 31250 (by decide) ?_
  refine lv_lstore (lv' := [(6, .long 31250), (4, .long 97825), (2, .long 7), (0, .long 7)]) hx hb dX12_contrary_54 hl (by decide) rfl (fun ls hl => ?_)
  refine lv_goto (tgt := 10) hx hb dX12_contrary_56 (by decide) ?_
  refine lv_lload hx hb dX12_contrary_10 (lv_at hl 0 rfl) ?_
  refine lv_lconst (v := 0) hx hb dX12_contrary_12 (by decide) ?_
  refine W.lcmp hx hb dX12_contrary_13 ?_
  refine wk_i 1 (by decide) ?_
  refine lv_if_le (tgt := 59) hx hb dX12_contrary_14 (by decide) (fun h9 => absurd h9 (by decide)) (fun _ => ?_)
  refine lv_lload hx hb dX12_contrary_17 (lv_at hl 0 rfl) ?_
  refine lv_ldc2 (v := 2) hx hb hown (hts (.constantLong RX12 337 (2)) mX12_contrary_w1) dX12_contrary_19 ?_
  refine lv_lrem hx hb dX12_contrary_22 (by decide) ?_
  refine wk_l 0 (by decide) ?_
  refine lv_lconst (v := 1) hx hb dX12_contrary_23 (by decide) ?_
  refine W.lcmp hx hb dX12_contrary_24 ?_
  refine wk_i (-1) (by decide) ?_
  refine lv_if_ne (tgt := 37) hx hb dX12_contrary_25 (by decide) (fun _ => ?_) (fun h9 => absurd h9 (by decide))
  refine lv_lload hx hb dX12_contrary_37 (lv_at hl 1 rfl) ?_
  refine lv_lload hx hb dX12_contrary_39 (lv_at hl 1 rfl) ?_
  refine lv_lmul hx hb dX12_contrary_41 ?_
  refine wk_l 9569730625 (by decide) ?_
  refine lv_ldc2 (v := 1000003) hx hb hown (hts (.constantLong RX12 339 (1000003)) mX12_contrary_w2) dX12_contrary_42 ?_
  refine lv_lrem hx hb dX12_contrary_45 (by decide) ?_
  refine wk_l 701918 (by decide) ?_
  refine lv_lstore (lv' := [(4, .long 701918), (6, .long 31250), (2, .long 7), (0, .long 7)]) hx hb dX12_contrary_46 hl (by decide) rfl (fun ls hl => ?_)
  refine lv_lload hx hb dX12_contrary_48 (lv_at hl 1 rfl) ?_
  refine lv_ldc2 (v := 2) hx hb hown (hts (.constantLong RX12 337 (2)) mX12_contrary_w1) dX12_contrary_50 ?_
  refine lv_ldiv hx hb dX12_contrary_53 (by decide) ?_
  refine wk_l 15625 (by decide) ?_
  refine lv_lstore (lv' := [(6, .long 15625), (4, .long 701918), (2, .long 7), (0, .long 7)]) hx hb dX12_contrary_54 hl (by decide) rfl (fun ls hl => ?_)
  refine lv_goto (tgt := 10) hx hb dX12_contrary_56 (by decide) ?_
  refine lv_lload hx hb dX12_contrary_10 (lv_at hl 0 rfl) ?_
  refine lv_lconst (v := 0) hx hb dX12_contrary_12 (by decide) ?_
  refine W.lcmp hx hb dX12_contrary_13 ?_
  refine wk_i 1 (by decide) ?_
  refine lv_if_le (tgt := 59) hx hb dX12_contrary_14 (by decide) (fun h9 => absurd h9 (by decide)) (fun _ => ?_)
  refine lv_lload hx hb dX12_contrary_17 (lv_at hl 0 rfl) ?_
  refine lv_ldc2 (v := 2) hx hb hown (hts (.constantLong RX12 337 (2)) mX12_contrary_w1) dX12_contrary_19 ?_
  refine lv_lrem hx hb dX12_contrary_22 (by decide) ?_
  refine wk_l 1 (by decide) ?_
  refine lv_lconst (v := 1) hx hb dX12_contrary_23 (by decide) ?_
  refine W.lcmp hx hb dX12_contrary_24 ?_
  refine wk_i 0 (by decide) ?_
  refine lv_if_ne (tgt := 37) hx hb dX12_contrary_25 (by decide) (fun h9 => absurd h9 (by decide)) (fun _ => ?_)
  refine lv_lload_n hx hb dX12_contrary_28 rfl (lv_at hl 2 rfl) ?_
  refine lv_lload hx hb dX12_contrary_29 (lv_at hl 1 rfl) ?_
  refine lv_lmul hx hb dX12_contrary_31 ?_
  refine wk_l 4913426 (by decide) ?_
  refine lv_ldc2 (v := 1000003) hx hb hown (hts (.constantLong RX12 339 (1000003)) mX12_contrary_w2) dX12_contrary_32 ?_
  refine lv_lrem hx hb dX12_contrary_35 (by decide) ?_
  refine wk_l 913414 (by decide) ?_
  refine lv_lstore_n (lv' := [(2, .long 913414), (6, .long 15625), (4, .long 701918), (0, .long 7)]) hx hb dX12_contrary_36 rfl hl (by decide) rfl (fun ls hl => ?_)
  refine lv_lload hx hb dX12_contrary_37 (lv_at hl 2 rfl) ?_
  refine lv_lload hx hb dX12_contrary_39 (lv_at hl 2 rfl) ?_
  refine lv_lmul hx hb dX12_contrary_41 ?_
  refine wk_l 492688878724 (by decide) ?_
  refine lv_ldc2 (v := 1000003) hx hb hown (hts (.constantLong RX12 339 (1000003)) mX12_contrary_w2) dX12_contrary_42 ?_
  refine lv_lrem hx hb dX12_contrary_45 (by decide) ?_
  refine wk_l 400663 (by decide) ?_
  refine lv_lstore (lv' := [(4, .long 400663), (2, .long 913414), (6, .long 15625), (0, .long 7)]) hx hb dX12_contrary_46 hl (by decide) rfl (fun ls hl => ?_)
  refine lv_lload hx hb dX12_contrary_48 (lv_at hl 2 rfl) ?_
  refine lv_ldc2 (v := 2) hx hb hown (hts (.constantLong RX12 337 (2)) mX12_contrary_w1) dX12_contrary_50 ?_
  refine lv_ldiv hx hb dX12_contrary_53 (by decide) ?_
  refine wk_l 7812 (by decide) ?_
  refine lv_lstore (lv' := [(6, .long 7812), (4, .long 400663), (2, .long 913414), (0, .long 7)]) hx hb dX12_contrary_54 hl (by decide) rfl (fun ls hl => ?_)
  refine lv_goto (tgt := 10) hx hb dX12_contrary_56 (by decide) ?_
  refine lv_lload hx hb dX12_contrary_10 (lv_at hl 0 rfl) ?_
  refine lv_lconst (v := 0) hx hb dX12_contrary_12 (by decide) ?_
  refine W.lcmp hx hb dX12_contrary_13 ?_
  refine wk_i 1 (by decide) ?_
  refine lv_if_le (tgt := 59) hx hb dX12_contrary_14 (by decide) (fun h9 => absurd h9 (by decide)) (fun _ => ?_)
  refine lv_lload hx hb dX12_contrary_17 (lv_at hl 0 rfl) ?_
  refine lv_ldc2 (v := 2) hx hb hown (hts (.constantLong RX12 337 (2)) mX12_contrary_w1) dX12_contrary_19 ?_
  refine lv_lrem hx hb dX12_contrary_22 (by decide) ?_
  refine wk_l 0 (by decide) ?_
  refine lv_lconst (v := 1) hx hb dX12_contrary_23 (by decide) ?_
  refine W.lcmp hx hb dX12_contrary_24 ?_
  refine wk_i (-1) (by decide) ?_
  refine lv_if_ne (tgt := 37) hx hb dX12_contrary_25 (by decide) (fun _ => ?_) (fun h9 => absurd h9 (by decide))
  refine lv_lload hx hb dX12_contrary_37 (lv_at hl 1 rfl) ?_
  refine lv_lload hx hb dX12_contrary_39 (lv_at hl 1 rfl) ?_
  refine lv_lmul hx hb dX12_contrary_41 ?_
  refine wk_l 160530839569 (by decide) ?_
  refine lv_ldc2 (v := 1000003) hx hb hown (hts (.constantLong RX12 339 (1000003)) mX12_contrary_w2) dX12_contrary_42 ?_
  refine lv_lrem hx hb dX12_contrary_45 (by decide) ?_
  refine wk_l 357979 (by decide) ?_
  refine lv_lstore (lv' := [(4, .long 357979), (6, .long 7812), (2, .long 913414), (0, .long 7)]) hx hb dX12_contrary_46 hl (by decide) rfl (fun ls hl => ?_)
  refine lv_lload hx hb dX12_contrary_48 (lv_at hl 1 rfl) ?_
  refine lv_ldc2 (v := 2) hx hb hown (hts (.constantLong RX12 337 (2)) mX12_contrary_w1) dX12_contrary_50 ?_
  refine lv_ldiv hx hb dX12_contrary_53 (by decide) ?_
  refine wk_l 3906 (by decide) ?_
  refine lv_lstore (lv' := [(6, .long 3906), (4, .long 357979), (2, .long 913414), (0, .long 7)]) hx hb dX12_contrary_54 hl (by decide) rfl (fun ls hl => ?_)
  refine lv_goto (tgt := 10) hx hb dX12_contrary_56 (by decide) ?_
  refine lv_lload hx hb dX12_contrary_10 (lv_at hl 0 rfl) ?_
  refine lv_lconst (v := 0) hx hb dX12_contrary_12 (by decide) ?_
  refine W.lcmp hx hb dX12_contrary_13 ?_
  refine wk_i 1 (by decide) ?_
  refine lv_if_le (tgt := 59) hx hb dX12_contrary_14 (by decide) (fun h9 => absurd h9 (by decide)) (fun _ => ?_)
  refine lv_lload hx hb dX12_contrary_17 (lv_at hl 0 rfl) ?_
  refine lv_ldc2 (v := 2) hx hb hown (hts (.constantLong RX12 337 (2)) mX12_contrary_w1) dX12_contrary_19 ?_
  refine lv_lrem hx hb dX12_contrary_22 (by decide) ?_
  refine wk_l 0 (by decide) ?_
  refine lv_lconst (v := 1) hx hb dX12_contrary_23 (by decide) ?_
  refine W.lcmp hx hb dX12_contrary_24 ?_
  refine wk_i (-1) (by decide) ?_
  refine lv_if_ne (tgt := 37) hx hb dX12_contrary_25 (by decide) (fun _ => ?_) (fun h9 => absurd h9 (by decide))
  refine lv_lload hx hb dX12_contrary_37 (lv_at hl 1 rfl) ?_
  refine lv_lload hx hb dX12_contrary_39 (lv_at hl 1 rfl) ?_
  refine lv_lmul hx hb dX12_contrary_41 ?_
  refine wk_l 128148964441 (by decide) ?_
  refine lv_ldc2 (v := 1000003) hx hb hown (hts (.constantLong RX12 339 (1000003)) mX12_contrary_w2) dX12_contrary_42 ?_
  refine lv_lrem hx hb dX12_contrary_45 (by decide) ?_
  refine wk_l 579997 (by decide) ?_
  refine lv_lstore (lv' := [(4, .long 579997), (6, .long 3906), (2, .long 913414), (0, .long 7)]) hx hb dX12_contrary_46 hl (by decide) rfl (fun ls hl => ?_)
  refine lv_lload hx hb dX12_contrary_48 (lv_at hl 1 rfl) ?_
  refine lv_ldc2 (v := 2) hx hb hown (hts (.constantLong RX12 337 (2)) mX12_contrary_w1) dX12_contrary_50 ?_
  refine lv_ldiv hx hb dX12_contrary_53 (by decide) ?_
  refine wk_l 1953 (by decide) ?_
  refine lv_lstore (lv' := [(6, .long 1953), (4, .long 579997), (2, .long 913414), (0, .long 7)]) hx hb dX12_contrary_54 hl (by decide) rfl (fun ls hl => ?_)
  refine lv_goto (tgt := 10) hx hb dX12_contrary_56 (by decide) ?_
  refine lv_lload hx hb dX12_contrary_10 (lv_at hl 0 rfl) ?_
  refine lv_lconst (v := 0) hx hb dX12_contrary_12 (by decide) ?_
  refine W.lcmp hx hb dX12_contrary_13 ?_
  refine wk_i 1 (by decide) ?_
  refine lv_if_le (tgt := 59) hx hb dX12_contrary_14 (by decide) (fun h9 => absurd h9 (by decide)) (fun _ => ?_)
  refine lv_lload hx hb dX12_contrary_17 (lv_at hl 0 rfl) ?_
  refine lv_ldc2 (v := 2) hx hb hown (hts (.constantLong RX12 337 (2)) mX12_contrary_w1) dX12_contrary_19 ?_
  refine lv_lrem hx hb dX12_contrary_22 (by decide) ?_
  refine wk_l 1 (by decide) ?_
  refine lv_lconst (v := 1) hx hb dX12_contrary_23 (by decide) ?_
  refine W.lcmp hx hb dX12_contrary_24 ?_
  refine wk_i 0 (by decide) ?_
  refine lv_if_ne (tgt := 37) hx hb dX12_contrary_25 (by decide) (fun h9 => absurd h9 (by decide)) (fun _ => ?_)
  refine lv_lload_n hx hb dX12_contrary_28 rfl (lv_at hl 2 rfl) ?_
  refine lv_lload hx hb dX12_contrary_29 (lv_at hl 1 rfl) ?_
  refine lv_lmul hx hb dX12_contrary_31 ?_
  refine wk_l 529777379758 (by decide) ?_
  refine lv_ldc2 (v := 1000003) hx hb hown (hts (.constantLong RX12 339 (1000003)) mX12_contrary_w2) dX12_contrary_32 ?_
  refine lv_lrem hx hb dX12_contrary_35 (by decide) ?_
  refine wk_l 790433 (by decide) ?_
  refine lv_lstore_n (lv' := [(2, .long 790433), (6, .long 1953), (4, .long 579997), (0, .long 7)]) hx hb dX12_contrary_36 rfl hl (by decide) rfl (fun ls hl => ?_)
  refine lv_lload hx hb dX12_contrary_37 (lv_at hl 2 rfl) ?_
  refine lv_lload hx hb dX12_contrary_39 (lv_at hl 2 rfl) ?_
  refine lv_lmul hx hb dX12_contrary_41 ?_
  refine wk_l 336396520009 (by decide) ?_
  refine lv_ldc2 (v := 1000003) hx hb hown (hts (.constantLong RX12 339 (1000003)) mX12_contrary_w2) dX12_contrary_42 ?_
  refine lv_lrem hx hb dX12_contrary_45 (by decide) ?_
  refine wk_l 510824 (by decide) ?_
  refine lv_lstore (lv' := [(4, .long 510824), (2, .long 790433), (6, .long 1953), (0, .long 7)]) hx hb dX12_contrary_46 hl (by decide) rfl (fun ls hl => ?_)
  refine lv_lload hx hb dX12_contrary_48 (lv_at hl 2 rfl) ?_
  refine lv_ldc2 (v := 2) hx hb hown (hts (.constantLong RX12 337 (2)) mX12_contrary_w1) dX12_contrary_50 ?_
  refine lv_ldiv hx hb dX12_contrary_53 (by decide) ?_
  refine wk_l 976 (by decide) ?_
  refine lv_lstore (lv' := [(6, .long 976), (4, .long 510824), (2, .long 790433), (0, .long 7)]) hx hb dX12_contrary_54 hl (by decide) rfl (fun ls hl => ?_)
  refine lv_goto (tgt := 10) hx hb dX12_contrary_56 (by decide) ?_
  refine lv_lload hx hb dX12_contrary_10 (lv_at hl 0 rfl) ?_
  refine lv_lconst (v := 0) hx hb dX12_contrary_12 (by decide) ?_
  refine W.lcmp hx hb dX12_contrary_13 ?_
  refine wk_i 1 (by decide) ?_
  refine lv_if_le (tgt := 59) hx hb dX12_contrary_14 (by decide) (fun h9 => absurd h9 (by decide)) (fun _ => ?_)
  refine lv_lload hx hb dX12_contrary_17 (lv_at hl 0 rfl) ?_
  refine lv_ldc2 (v := 2) hx hb hown (hts (.constantLong RX12 337 (2)) mX12_contrary_w1) dX12_contrary_19 ?_
  refine lv_lrem hx hb dX12_contrary_22 (by decide) ?_
  refine wk_l 0 (by decide) ?_
  refine lv_lconst (v := 1) hx hb dX12_contrary_23 (by decide) ?_
  refine W.lcmp hx hb dX12_contrary_24 ?_
  refine wk_i (-1) (by decide) ?_
  refine lv_if_ne (tgt := 37) hx hb dX12_contrary_25 (by decide) (fun _ => ?_) (fun h9 => absurd h9 (by decide))
  refine lv_lload hx hb dX12_contrary_37 (lv_at hl 1 rfl) ?_
  refine lv_lload hx hb dX12_contrary_39 (lv_at hl 1 rfl) ?_
  refine lv_lmul hx hb dX12_contrary_41 ?_
  refine wk_l 260941158976 (by decide) ?_
  refine lv_ldc2 (v := 1000003) hx hb hown (hts (.constantLong RX12 339 (1000003)) mX12_contrary_w2) dX12_contrary_42 ?_
  refine lv_lrem hx hb dX12_contrary_45 (by decide) ?_
  refine wk_l 376156 (by decide) ?_
  refine lv_lstore (lv' := [(4, .long 376156), (6, .long 976), (2, .long 790433), (0, .long 7)]) hx hb dX12_contrary_46 hl (by decide) rfl (fun ls hl => ?_)
  refine lv_lload hx hb dX12_contrary_48 (lv_at hl 1 rfl) ?_
  refine lv_ldc2 (v := 2) hx hb hown (hts (.constantLong RX12 337 (2)) mX12_contrary_w1) dX12_contrary_50 ?_
  refine lv_ldiv hx hb dX12_contrary_53 (by decide) ?_
  refine wk_l 488 (by decide) ?_
  refine lv_lstore (lv' := [(6, .long 488), (4, .long 376156), (2, .long 790433), (0, .long 7)]) hx hb dX12_contrary_54 hl (by decide) rfl (fun ls hl => ?_)
  refine lv_goto (tgt := 10) hx hb dX12_contrary_56 (by decide) ?_
  refine lv_lload hx hb dX12_contrary_10 (lv_at hl 0 rfl) ?_
  refine lv_lconst (v := 0) hx hb dX12_contrary_12 (by decide) ?_
  refine W.lcmp hx hb dX12_contrary_13 ?_
  refine wk_i 1 (by decide) ?_
  refine lv_if_le (tgt := 59) hx hb dX12_contrary_14 (by decide) (fun h9 => absurd h9 (by decide)) (fun _ => ?_)
  refine lv_lload hx hb dX12_contrary_17 (lv_at hl 0 rfl) ?_
  refine lv_ldc2 (v := 2) hx hb hown (hts (.constantLong RX12 337 (2)) mX12_contrary_w1) dX12_contrary_19 ?_
  refine lv_lrem hx hb dX12_contrary_22 (by decide) ?_
  refine wk_l 0 (by decide) ?_
  refine lv_lconst (v := 1) hx hb dX12_contrary_23 (by decide) ?_
  refine W.lcmp hx hb dX12_contrary_24 ?_
  refine wk_i (-1) (by decide) ?_
  refine lv_if_ne (tgt := 37) hx hb dX12_contrary_25 (by decide) (fun _ => ?_) (fun h9 => absurd h9 (by decide))
  refine lv_lload hx hb dX12_contrary_37 (lv_at hl 1 rfl) ?_
  refine lv_lload hx hb dX12_contrary_39 (lv_at hl 1 rfl) ?_
  refine lv_lmul hx hb dX12_contrary_41 ?_
  refine wk_l 141493336336 (by decide) ?_
  refine lv_ldc2 (v := 1000003) hx hb hown (hts (.constantLong RX12 339 (1000003)) mX12_contrary_w2) dX12_contrary_42 ?_
  refine lv_lrem hx hb dX12_contrary_45 (by decide) ?_
  refine wk_l 911860 (by decide) ?_
  refine lv_lstore (lv' := [(4, .long 911860), (6, .long 488), (2, .long 790433), (0, .long 7)]) hx hb dX12_contrary_46 hl (by decide) rfl (fun ls hl => ?_)
  refine lv_lload hx hb dX12_contrary_48 (lv_at hl 1 rfl) ?_
  refine lv_ldc2 (v := 2) hx hb hown (hts (.constantLong RX12 337 (2)) mX12_contrary_w1) dX12_contrary_50 ?_
  refine lv_ldiv hx hb dX12_contrary_53 (by decide) ?_
  refine wk_l 244 (by decide) ?_
  refine lv_lstore (lv' := [(6, .long 244), (4, .long 911860), (2, .long 790433), (0, .long 7)]) hx hb dX12_contrary_54 hl (by decide) rfl (fun ls hl => ?_)
  refine lv_goto (tgt := 10) hx hb dX12_contrary_56 (by decide) ?_
  refine lv_lload hx hb dX12_contrary_10 (lv_at hl 0 rfl) ?_
  refine lv_lconst (v := 0) hx hb dX12_contrary_12 (by decide) ?_
  refine W.lcmp hx hb dX12_contrary_13 ?_
  refine wk_i 1 (by decide) ?_
  refine lv_if_le (tgt := 59) hx hb dX12_contrary_14 (by decide) (fun h9 => absurd h9 (by decide)) (fun _ => ?_)
  refine lv_lload hx hb dX12_contrary_17 (lv_at hl 0 rfl) ?_
  refine lv_ldc2 (v := 2) hx hb hown (hts (.constantLong RX12 337 (2)) mX12_contrary_w1) dX12_contrary_19 ?_
  refine lv_lrem hx hb dX12_contrary_22 (by decide) ?_
  refine wk_l 0 (by decide) ?_
  refine lv_lconst (v := 1) hx hb dX12_contrary_23 (by decide) ?_
  refine W.lcmp hx hb dX12_contrary_24 ?_
  refine wk_i (-1) (by decide) ?_
  refine lv_if_ne (tgt := 37) hx hb dX12_contrary_25 (by decide) (fun _ => ?_) (fun h9 => absurd h9 (by decide))
  refine lv_lload hx hb dX12_contrary_37 (lv_at hl 1 rfl) ?_
  refine lv_lload hx hb dX12_contrary_39 (lv_at hl 1 rfl) ?_
  refine lv_lmul hx hb dX12_contrary_41 ?_
  refine wk_l 831488659600 (by decide) ?_
  refine lv_ldc2 (v := 1000003) hx hb hown (hts (.constantLong RX12 339 (1000003)) mX12_contrary_w2) dX12_contrary_42 ?_
  refine lv_lrem hx hb dX12_contrary_45 (by decide) ?_
  refine wk_l 165142 (by decide) ?_
  refine lv_lstore (lv' := [(4, .long 165142), (6, .long 244), (2, .long 790433), (0, .long 7)]) hx hb dX12_contrary_46 hl (by decide) rfl (fun ls hl => ?_)
  refine lv_lload hx hb dX12_contrary_48 (lv_at hl 1 rfl) ?_
  refine lv_ldc2 (v := 2) hx hb hown (hts (.constantLong RX12 337 (2)) mX12_contrary_w1) dX12_contrary_50 ?_
  refine lv_ldiv hx hb dX12_contrary_53 (by decide) ?_
  refine wk_l 122 (by decide) ?_
  refine lv_lstore (lv' := [(6, .long 122), (4, .long 165142), (2, .long 790433), (0, .long 7)]) hx hb dX12_contrary_54 hl (by decide) rfl (fun ls hl => ?_)
  refine lv_goto (tgt := 10) hx hb dX12_contrary_56 (by decide) ?_
  refine lv_lload hx hb dX12_contrary_10 (lv_at hl 0 rfl) ?_
  refine lv_lconst (v := 0) hx hb dX12_contrary_12 (by decide) ?_
  refine W.lcmp hx hb dX12_contrary_13 ?_
  refine wk_i 1 (by decide) ?_
  refine lv_if_le (tgt := 59) hx hb dX12_contrary_14 (by decide) (fun h9 => absurd h9 (by decide)) (fun _ => ?_)
  refine lv_lload hx hb dX12_contrary_17 (lv_at hl 0 rfl) ?_
  refine lv_ldc2 (v := 2) hx hb hown (hts (.constantLong RX12 337 (2)) mX12_contrary_w1) dX12_contrary_19 ?_
  refine lv_lrem hx hb dX12_contrary_22 (by decide) ?_
  refine wk_l 0 (by decide) ?_
  refine lv_lconst (v := 1) hx hb dX12_contrary_23 (by decide) ?_
  refine W.lcmp hx hb dX12_contrary_24 ?_
  refine wk_i (-1) (by decide) ?_
  refine lv_if_ne (tgt := 37) hx hb dX12_contrary_25 (by decide) (fun _ => ?_) (fun h9 => absurd h9 (by decide))
  refine lv_lload hx hb dX12_contrary_37 (lv_at hl 1 rfl) ?_
  refine lv_lload hx hb dX12_contrary_39 (lv_at hl 1 rfl) ?_
  refine lv_lmul hx hb dX12_contrary_41 ?_
  refine wk_l 27271880164 (by decide) ?_
  refine lv_ldc2 (v := 1000003) hx hb hown (hts (.constantLong RX12 339 (1000003)) mX12_contrary_w2) dX12_contrary_42 ?_
  refine lv_lrem hx hb dX12_contrary_45 (by decide) ?_
  refine wk_l 798351 (by decide) ?_
  refine lv_lstore (lv' := [(4, .long 798351), (6, .long 122), (2, .long 790433), (0, .long 7)]) hx hb dX12_contrary_46 hl (by decide) rfl (fun ls hl => ?_)
  refine lv_lload hx hb dX12_contrary_48 (lv_at hl 1 rfl) ?_
  refine lv_ldc2 (v := 2) hx hb hown (hts (.constantLong RX12 337 (2)) mX12_contrary_w1) dX12_contrary_50 ?_
  refine lv_ldiv hx hb dX12_contrary_53 (by decide) ?_
  refine wk_l 61 (by decide) ?_
  refine lv_lstore (lv' := [(6, .long 61), (4, .long 798351), (2, .long 790433), (0, .long 7)]) hx hb dX12_contrary_54 hl (by decide) rfl (fun ls hl => ?_)
  refine lv_goto (tgt := 10) hx hb dX12_contrary_56 (by decide) ?_
  refine lv_lload hx hb dX12_contrary_10 (lv_at hl 0 rfl) ?_
  refine lv_lconst (v := 0) hx hb dX12_contrary_12 (by decide) ?_
  refine W.lcmp hx hb dX12_contrary_13 ?_
  refine wk_i 1 (by decide) ?_
  refine lv_if_le (tgt := 59) hx hb dX12_contrary_14 (by decide) (fun h9 => absurd h9 (by decide)) (fun _ => ?_)
  refine lv_lload hx hb dX12_contrary_17 (lv_at hl 0 rfl) ?_
  refine lv_ldc2 (v := 2) hx hb hown (hts (.constantLong RX12 337 (2)) mX12_contrary_w1) dX12_contrary_19 ?_
  refine lv_lrem hx hb dX12_contrary_22 (by decide) ?_
  refine wk_l 1 (by decide) ?_
  refine lv_lconst (v := 1) hx hb dX12_contrary_23 (by decide) ?_
  refine W.lcmp hx hb dX12_contrary_24 ?_
  refine wk_i 0 (by decide) ?_
  refine lv_if_ne (tgt := 37) hx hb dX12_contrary_25 (by decide) (fun h9 => absurd h9 (by decide)) (fun _ => ?_)
  refine lv_lload_n hx hb dX12_contrary_28 rfl (lv_at hl 2 rfl) ?_
  refine lv_lload hx hb dX12_contrary_29 (lv_at hl 1 rfl) ?_
  refine lv_lmul hx hb dX12_contrary_31 ?_
  refine wk_l 631042975983 (by decide) ?_
  refine lv_ldc2 (v := 1000003) hx hb hown (hts (.constantLong RX12 339 (1000003)) mX12_contrary_w2) dX12_contrary_32 ?_
  refine lv_lrem hx hb dX12_contrary_35 (by decide) ?_
  refine wk_l 82860 (by decide) ?_
  refine lv_lstore_n (lv' := [(2, .long 82860), (6, .long 61), (4, .long 798351), (0, .long 7)]) hx hb dX12_contrary_36 rfl hl (by decide) rfl (fun ls hl => ?_)
  refine lv_lload hx hb dX12_contrary_37 (lv_at hl 2 rfl) ?_
  refine lv_lload hx hb dX12_contrary_39 (lv_at hl 2 rfl) ?_
  refine lv_lmul hx hb dX12_contrary_41 ?_
  refine wk_l 637364319201 (by decide) ?_
  refine lv_ldc2 (v := 1000003) hx hb hown (hts (.constantLong RX12 339 (1000003)) mX12_contrary_w2) dX12_contrary_42 ?_
  refine lv_lrem hx hb dX12_contrary_45 (by decide) ?_
  refine wk_l 407115 (by decide) ?_
  refine lv_lstore (lv' := [(4, .long 407115), (2, .long 82860), (6, .long 61), (0, .long 7)]) hx hb dX12_contrary_46 hl (by decide) rfl (fun ls hl => ?_)
  refine lv_lload hx hb dX12_contrary_48 (lv_at hl 2 rfl) ?_
  refine lv_ldc2 (v := 2) hx hb hown (hts (.constantLong RX12 337 (2)) mX12_contrary_w1) dX12_contrary_50 ?_
  refine lv_ldiv hx hb dX12_contrary_53 (by decide) ?_
  refine wk_l 30 (by decide) ?_
  refine lv_lstore (lv' := [(6, .long 30), (4, .long 407115), (2, .long 82860), (0, .long 7)]) hx hb dX12_contrary_54 hl (by decide) rfl (fun ls hl => ?_)
  refine lv_goto (tgt := 10) hx hb dX12_contrary_56 (by decide) ?_
  refine lv_lload hx hb dX12_contrary_10 (lv_at hl 0 rfl) ?_
  refine lv_lconst (v := 0) hx hb dX12_contrary_12 (by decide) ?_
  refine W.lcmp hx hb dX12_contrary_13 ?_
  refine wk_i 1 (by decide) ?_
  refine lv_if_le (tgt := 59) hx hb dX12_contrary_14 (by decide) (fun h9 => absurd h9 (by decide)) (fun _ => ?_)
  refine lv_lload hx hb dX12_contrary_17 (lv_at hl 0 rfl) ?_
  refine lv_ldc2 (v := 2) hx hb hown (hts (.constantLong RX12 337 (2)) mX12_contrary_w1) dX12_contrary_19 ?_
  refine lv_lrem hx hb dX12_contrary_22 (by decide) ?_
  refine wk_l 0 (by decide) ?_
  refine lv_lconst (v := 1) hx hb dX12_contrary_23 (by decide) ?_
  refine W.lcmp hx hb dX12_contrary_24 ?_
  refine wk_i (-1) (by decide) ?_
  refine lv_if_ne (tgt := 37) hx hb dX12_contrary_25 (by decide) (fun _ => ?_) (fun h9 => absurd h9 (by decide))
  refine lv_lload hx hb dX12_contrary_37 (lv_at hl 1 rfl) ?_
  refine lv_lload hx hb dX12_contrary_39 (lv_at hl 1 rfl) ?_
  refine lv_lmul hx hb dX12_contrary_41 ?_
  refine wk_l 165742623225 (by decide) ?_
  refine lv_ldc2 (v := 1000003) hx hb hown (hts (.constantLong RX12 339 (1000003)) mX12_contrary_w2) dX12_contrary_42 ?_
  refine lv_lrem hx hb dX12_contrary_45 (by decide) ?_
  refine wk_l 125999 (by decide) ?_
  refine lv_lstore (lv' := [(4, .long 125999), (6, .long 30), (2, .long 82860), (0, .long 7)]) hx hb dX12_contrary_46 hl (by decide) rfl (fun ls hl => ?_)
  refine lv_lload hx hb dX12_contrary_48 (lv_at hl 1 rfl) ?_
  refine lv_ldc2 (v := 2) hx hb hown (hts (.constantLong RX12 337 (2)) mX12_contrary_w1) dX12_contrary_50 ?_
  refine lv_ldiv hx hb dX12_contrary_53 (by decide) ?_
  refine wk_l 15 (by decide) ?_
  refine lv_lstore (lv' := [(6, .long 15), (4, .long 125999), (2, .long 82860), (0, .long 7)]) hx hb dX12_contrary_54 hl (by decide) rfl (fun ls hl => ?_)
  refine lv_goto (tgt := 10) hx hb dX12_contrary_56 (by decide) ?_
  refine lv_lload hx hb dX12_contrary_10 (lv_at hl 0 rfl) ?_
  refine lv_lconst (v := 0) hx hb dX12_contrary_12 (by decide) ?_
  refine W.lcmp hx hb dX12_contrary_13 ?_
  refine wk_i 1 (by decide) ?_
  refine lv_if_le (tgt := 59) hx hb dX12_contrary_14 (by decide) (fun h9 => absurd h9 (by decide)) (fun _ => ?_)
  refine lv_lload hx hb dX12_contrary_17 (lv_at hl 0 rfl) ?_
  refine lv_ldc2 (v := 2) hx hb hown (hts (.constantLong RX12 337 (2)) mX12_contrary_w1) dX12_contrary_19 ?_
  refine lv_lrem hx hb dX12_contrary_22 (by decide) ?_
  refine wk_l 1 (by decide) ?_
  refine lv_lconst (v := 1) hx hb dX12_contrary_23 (by decide) ?_
  refine W.lcmp hx hb dX12_contrary_24 ?_
  refine wk_i 0 (by decide) ?_
  refine lv_if_ne (tgt := 37) hx hb dX12_contrary_25 (by decide) (fun h9 => absurd h9 (by decide)) (fun _ => ?_)
  refine lv_lload_n hx hb dX12_contrary_28 rfl (lv_at hl 2 rfl) ?_
  refine lv_lload hx hb dX12_contrary_29 (lv_at hl 1 rfl) ?_
  refine lv_lmul hx hb dX12_contrary_31 ?_
  refine wk_l 10440277140 (by decide) ?_
  refine lv_ldc2 (v := 1000003) hx hb hown (hts (.constantLong RX12 339 (1000003)) mX12_contrary_w2) dX12_contrary_32 ?_
  refine lv_lrem hx hb dX12_contrary_35 (by decide) ?_
  refine wk_l 245820 (by decide) ?_
  refine lv_lstore_n (lv' := [(2, .long 245820), (6, .long 15), (4, .long 125999), (0, .long 7)]) hx hb dX12_contrary_36 rfl hl (by decide) rfl (fun ls hl => ?_)
  refine lv_lload hx hb dX12_contrary_37 (lv_at hl 2 rfl) ?_
  refine lv_lload hx hb dX12_contrary_39 (lv_at hl 2 rfl) ?_
  refine lv_lmul hx hb dX12_contrary_41 ?_
  refine wk_l 15875748001 (by decide) ?_
  refine lv_ldc2 (v := 1000003) hx hb hown (hts (.constantLong RX12 339 (1000003)) mX12_contrary_w2) dX12_contrary_42 ?_
  refine lv_lrem hx hb dX12_contrary_45 (by decide) ?_
  refine wk_l 700376 (by decide) ?_
  refine lv_lstore (lv' := [(4, .long 700376), (2, .long 245820), (6, .long 15), (0, .long 7)]) hx hb dX12_contrary_46 hl (by decide) rfl (fun ls hl => ?_)
  refine lv_lload hx hb dX12_contrary_48 (lv_at hl 2 rfl) ?_
  refine lv_ldc2 (v := 2) hx hb hown (hts (.constantLong RX12 337 (2)) mX12_contrary_w1) dX12_contrary_50 ?_
  refine lv_ldiv hx hb dX12_contrary_53 (by decide) ?_
  refine wk_l 7 (by decide) ?_
  refine lv_lstore (lv' := [(6, .long 7), (4, .long 700376), (2, .long 245820), (0, .long 7)]) hx hb dX12_contrary_54 hl (by decide) rfl (fun ls hl => ?_)
  refine lv_goto (tgt := 10) hx hb dX12_contrary_56 (by decide) ?_
  refine lv_lload hx hb dX12_contrary_10 (lv_at hl 0 rfl) ?_
  refine lv_lconst (v := 0) hx hb dX12_contrary_12 (by decide) ?_
  refine W.lcmp hx hb dX12_contrary_13 ?_
  refine wk_i 1 (by decide) ?_
  refine lv_if_le (tgt := 59) hx hb dX12_contrary_14 (by decide) (fun h9 => absurd h9 (by decide)) (fun _ => ?_)
  refine lv_lload hx hb dX12_contrary_17 (lv_at hl 0 rfl) ?_
  refine lv_ldc2 (v := 2) hx hb hown (hts (.constantLong RX12 337 (2)) mX12_contrary_w1) dX12_contrary_19 ?_
  refine lv_lrem hx hb dX12_contrary_22 (by decide) ?_
  refine wk_l 1 (by decide) ?_
  refine lv_lconst (v := 1) hx hb dX12_contrary_23 (by decide) ?_
  refine W.lcmp hx hb dX12_contrary_24 ?_
  refine wk_i 0 (by decide) ?_
  refine lv_if_ne (tgt := 37) hx hb dX12_contrary_25 (by decide) (fun h9 => absurd h9 (by decide)) (fun _ => ?_)
  refine lv_lload_n hx hb dX12_contrary_28 rfl (lv_at hl 2 rfl) ?_
  refine lv_lload hx hb dX12_contrary_29 (lv_at hl 1 rfl) ?_
  refine lv_lmul hx hb dX12_contrary_31 ?_
  refine wk_l 172166428320 (by decide) ?_
  refine lv_ldc2 (v := 1000003) hx hb hown (hts (.constantLong RX12 339 (1000003)) mX12_contrary_w2) dX12_contrary_32 ?_
  refine lv_lrem hx hb dX12_contrary_35 (by decide) ?_
  refine wk_l 911825 (by decide) ?_
  refine lv_lstore_n (lv' := [(2, .long 911825), (6, .long 7), (4, .long 700376), (0, .long 7)]) hx hb dX12_contrary_36 rfl hl (by decide) rfl (fun ls hl => ?_)
  refine lv_lload hx hb dX12_contrary_37 (lv_at hl 2 rfl) ?_
  refine lv_lload hx hb dX12_contrary_39 (lv_at hl 2 rfl) ?_
  refine lv_lmul hx hb dX12_contrary_41 ?_
  refine wk_l 490526541376 (by decide) ?_
  refine lv_ldc2 (v := 1000003) hx hb hown (hts (.constantLong RX12 339 (1000003)) mX12_contrary_w2) dX12_contrary_42 ?_
  refine lv_lrem hx hb dX12_contrary_45 (by decide) ?_
  refine wk_l 69801 (by decide) ?_
  refine lv_lstore (lv' := [(4, .long 69801), (2, .long 911825), (6, .long 7), (0, .long 7)]) hx hb dX12_contrary_46 hl (by decide) rfl (fun ls hl => ?_)
  refine lv_lload hx hb dX12_contrary_48 (lv_at hl 2 rfl) ?_
  refine lv_ldc2 (v := 2) hx hb hown (hts (.constantLong RX12 337 (2)) mX12_contrary_w1) dX12_contrary_50 ?_
  refine lv_ldiv hx hb dX12_contrary_53 (by decide) ?_
  refine wk_l 3 (by decide) ?_
  refine lv_lstore (lv' := [(6, .long 3), (4, .long 69801), (2, .long 911825), (0, .long 7)]) hx hb dX12_contrary_54 hl (by decide) rfl (fun ls hl => ?_)
  refine lv_goto (tgt := 10) hx hb dX12_contrary_56 (by decide) ?_
  refine lv_lload hx hb dX12_contrary_10 (lv_at hl 0 rfl) ?_
  refine lv_lconst (v := 0) hx hb dX12_contrary_12 (by decide) ?_
  refine W.lcmp hx hb dX12_contrary_13 ?_
  refine wk_i 1 (by decide) ?_
  refine lv_if_le (tgt := 59) hx hb dX12_contrary_14 (by decide) (fun h9 => absurd h9 (by decide)) (fun _ => ?_)
  refine lv_lload hx hb dX12_contrary_17 (lv_at hl 0 rfl) ?_
  refine lv_ldc2 (v := 2) hx hb hown (hts (.constantLong RX12 337 (2)) mX12_contrary_w1) dX12_contrary_19 ?_
  refine lv_lrem hx hb dX12_contrary_22 (by decide) ?_
  refine wk_l 1 (by decide) ?_
  refine lv_lconst (v := 1) hx hb dX12_contrary_23 (by decide) ?_
  refine W.lcmp hx hb dX12_contrary_24 ?_
  refine wk_i 0 (by decide) ?_
  refine lv_if_ne (tgt := 37) hx hb dX12_contrary_25 (by decide) (fun h9 => absurd h9 (by decide)) (fun _ => ?_)
  refine lv_lload_n hx hb dX12_contrary_28 rfl (lv_at hl 2 rfl) ?_
  refine lv_lload hx hb dX12_contrary_29 (lv_at hl 1 rfl) ?_
  refine lv_lmul hx hb dX12_contrary_31 ?_
  refine wk_l 63646296825 (by decide) ?_
  refine lv_ldc2 (v := 1000003) hx hb hown (hts (.constantLong RX12 339 (1000003)) mX12_contrary_w2) dX12_contrary_32 ?_
  refine lv_lrem hx hb dX12_contrary_35 (by decide) ?_
  refine wk_l 105887 (by decide) ?_
  refine lv_lstore_n (lv' := [(2, .long 105887), (6, .long 3), (4, .long 69801), (0, .long 7)]) hx hb dX12_contrary_36 rfl hl (by decide) rfl (fun ls hl => ?_)
  refine lv_lload hx hb dX12_contrary_37 (lv_at hl 2 rfl) ?_
  refine lv_lload hx hb dX12_contrary_39 (lv_at hl 2 rfl) ?_
  refine lv_lmul hx hb dX12_contrary_41 ?_
  refine wk_l 4872179601 (by decide) ?_
  refine lv_ldc2 (v := 1000003) hx hb hown (hts (.constantLong RX12 339 (1000003)) mX12_contrary_w2) dX12_contrary_42 ?_
  refine lv_lrem hx hb dX12_contrary_45 (by decide) ?_
  refine wk_l 164985 (by decide) ?_
  refine lv_lstore (lv' := [(4, .long 164985), (2, .long 105887), (6, .long 3), (0, .long 7)]) hx hb dX12_contrary_46 hl (by decide) rfl (fun ls hl => ?_)
  refine lv_lload hx hb dX12_contrary_48 (lv_at hl 2 rfl) ?_
  refine lv_ldc2 (v := 2) hx hb hown (hts (.constantLong RX12 337 (2)) mX12_contrary_w1) dX12_contrary_50 ?_
  refine lv_ldiv hx hb dX12_contrary_53 (by decide) ?_
  refine wk_l 1 (by decide) ?_
  refine lv_lstore (lv' := [(6, .long 1), (4, .long 164985), (2, .long 105887), (0, .long 7)]) hx hb dX12_contrary_54 hl (by decide) rfl (fun ls hl => ?_)
  refine lv_goto (tgt := 10) hx hb dX12_contrary_56 (by decide) ?_
  refine lv_lload hx hb dX12_contrary_10 (lv_at hl 0 rfl) ?_
  refine lv_lconst (v := 0) hx hb dX12_contrary_12 (by decide) ?_
  refine W.lcmp hx hb dX12_contrary_13 ?_
  refine wk_i 1 (by decide) ?_
  refine lv_if_le (tgt := 59) hx hb dX12_contrary_14 (by decide) (fun h9 => absurd h9 (by decide)) (fun _ => ?_)
  refine lv_lload hx hb dX12_contrary_17 (lv_at hl 0 rfl) ?_
  refine lv_ldc2 (v := 2) hx hb hown (hts (.constantLong RX12 337 (2)) mX12_contrary_w1) dX12_contrary_19 ?_
  refine lv_lrem hx hb dX12_contrary_22 (by decide) ?_
  refine wk_l 1 (by decide) ?_
  refine lv_lconst (v := 1) hx hb dX12_contrary_23 (by decide) ?_
  refine W.lcmp hx hb dX12_contrary_24 ?_
  refine wk_i 0 (by decide) ?_
  refine lv_if_ne (tgt := 37) hx hb dX12_contrary_25 (by decide) (fun h9 => absurd h9 (by decide)) (fun _ => ?_)
  refine lv_lload_n hx hb dX12_contrary_28 rfl (lv_at hl 2 rfl) ?_
  refine lv_lload hx hb dX12_contrary_29 (lv_at hl 1 rfl) ?_
  refine lv_lmul hx hb dX12_contrary_31 ?_
  refine wk_l 17469766695 (by decide) ?_
  refine lv_ldc2 (v := 1000003) hx hb hown (hts (.constantLong RX12 339 (1000003)) mX12_contrary_w2) dX12_contrary_32 ?_
  refine lv_lrem hx hb dX12_contrary_35 (by decide) ?_
  refine wk_l 714288 (by decide) ?_
  refine lv_lstore_n (lv' := [(2, .long 714288), (6, .long 1), (4, .long 164985), (0, .long 7)]) hx hb dX12_contrary_36 rfl hl (by decide) rfl (fun ls hl => ?_)
  refine lv_lload hx hb dX12_contrary_37 (lv_at hl 2 rfl) ?_
  refine lv_lload hx hb dX12_contrary_39 (lv_at hl 2 rfl) ?_
  refine lv_lmul hx hb dX12_contrary_41 ?_
  refine wk_l 27220050225 (by decide) ?_
  refine lv_ldc2 (v := 1000003) hx hb hown (hts (.constantLong RX12 339 (1000003)) mX12_contrary_w2) dX12_contrary_42 ?_
  refine lv_lrem hx hb dX12_contrary_45 (by decide) ?_
  refine wk_l 968568 (by decide) ?_
  refine lv_lstore (lv' := [(4, .long 968568), (2, .long 714288), (6, .long 1), (0, .long 7)]) hx hb dX12_contrary_46 hl (by decide) rfl (fun ls hl => ?_)
  refine lv_lload hx hb dX12_contrary_48 (lv_at hl 2 rfl) ?_
  refine lv_ldc2 (v := 2) hx hb hown (hts (.constantLong RX12 337 (2)) mX12_contrary_w1) dX12_contrary_50 ?_
  refine lv_ldiv hx hb dX12_contrary_53 (by decide) ?_
  refine wk_l 0 (by decide) ?_
  refine lv_lstore (lv' := [(6, .long 0), (4, .long 968568), (2, .long 714288), (0, .long 7)]) hx hb dX12_contrary_54 hl (by decide) rfl (fun ls hl => ?_)
  refine lv_goto (tgt := 10) hx hb dX12_contrary_56 (by decide) ?_
  refine lv_lload hx hb dX12_contrary_10 (lv_at hl 0 rfl) ?_
  refine lv_lconst (v := 0) hx hb dX12_contrary_12 (by decide) ?_
  refine W.lcmp hx hb dX12_contrary_13 ?_
  refine wk_i 0 (by decide) ?_
  refine lv_if_le (tgt := 59) hx hb dX12_contrary_14 (by decide) (fun _ => ?_) (fun h9 => absurd h9 (by decide))
  refine lv_lload_n hx hb dX12_contrary_59 rfl (lv_at hl 2 rfl) ?_
  exact W.lret (v := 714288) hx hb hr (fun t ht hW => ⟨⟨714288, (), rfl, rfl, trivial⟩, hS.F ht⟩) hS.2.2 dX12_contrary_60

theorem dX12_nothing_0 : decode cX12_nothing 0 = .ok (.iconst 0, 1) := by decide +kernel
theorem dX12_nothing_1 : decode cX12_nothing 1 = .ok (.istore_n 1, 1) := by decide +kernel
theorem dX12_nothing_2 : decode cX12_nothing 2 = .ok (.iload_n 1, 1) := by decide +kernel
theorem dX12_nothing_3 : decode cX12_nothing 3 = .ok (.bipush 25, 2) := by decide +kernel
theorem dX12_nothing_5 : decode cX12_nothing 5 = .ok (.if_icmp .ge 24, 3) := by decide +kernel
theorem dX12_nothing_8 : decode cX12_nothing 8 = .ok (.aload_n 0, 1) := by decide +kernel
theorem dX12_nothing_9 : decode cX12_nothing 9 = .ok (.iload_n 1, 1) := by decide +kernel
theorem dX12_nothing_10 : decode cX12_nothing 10 = .ok (.iload_n 1, 1) := by decide +kernel
theorem dX12_nothing_11 : decode cX12_nothing 11 = .ok (.bipush 6, 2) := by decide +kernel
theorem dX12_nothing_13 : decode cX12_nothing 13 = .ok (.irem, 1) := by decide +kernel
theorem dX12_nothing_14 : decode cX12_nothing 14 = .ok (.ifCond .ne 7, 3) := by decide +kernel
theorem dX12_nothing_17 : decode cX12_nothing 17 = .ok (.lconst 1, 1) := by decide +kernel
theorem dX12_nothing_18 : decode cX12_nothing 18 = .ok (.goto 4, 3) := by decide +kernel
theorem dX12_nothing_21 : decode cX12_nothing 21 = .ok (.lconst 0, 1) := by decide +kernel
theorem dX12_nothing_22 : decode cX12_nothing 22 = .ok (.lastore, 1) := by decide +kernel
theorem dX12_nothing_23 : decode cX12_nothing 23 = .ok (.iinc 1 1, 3) := by decide +kernel
theorem dX12_nothing_26 : decode cX12_nothing 26 = .ok (.goto (-24), 3) := by decide +kernel
theorem dX12_nothing_29 : decode cX12_nothing 29 = .ok (.return_, 1) := by decide +kernel
set_option maxHeartbeats 4000000 in
set_option maxRecDepth 100000 in
/-- X12_nothing -/
theorem kX12_nothing (l : Launch) (D : va_G) (G : tyG) (a : Nat) (f : Nat → Int64) (sz : Nat) : Met l yX12_nothing wsX12_nothing ({ frames := 0, cells := 0, slots := 0, locals := 0 }) (va_Pc [.ref a] (wB D G sz [(a, .inl (G.2.1, 25, .inr (.inl f)))])) (va_Qv (fun _ : Unit => True) (fun _ t => wS D G (va_A [(a, .inl (G.2.1, 25, .inr (.inl f)))] sz) [(a, .inl (G.2.1, 25, .inr (.inl tIdn)))] t) (va_A [(a, .inl (G.2.1, 25, .inr (.inl f)))] sz)) 0 0 (va_A [(a, .inl (G.2.1, 25, .inr (.inl f)))] sz) := by
  refine Met.ofW (cc := cX12_nothing) (maxL := 2) (ret := none) (by decide) rfl ?_
  intro p e s m args below meth c s₁ B hml hv
  obtain ⟨rfl, hsz, hP, hK, hD0, hN⟩ := hv
  have hx := B.exec
  have hb := B.bytes
  have hr := B.returns
  have hts := atoms_spec (ws := wsX12_nothing) B.pre
  have hown : s.vm.findClass RX12 = some m.cls := findClass_of_methodNamed B.named
  have hlocks := B.notSynchronized
  subst hsz
  have hD := hD0.self (sz := s.heap.size)
  generalize hAe : va_A [(a, .inl (G.2.1, 25, .inr (.inl f)))] s.heap.size = A at hD ⊢
  have hA : ∀ q : Nat, s.heap.size ≤ q → A q := fun q h => by rw [← hAe]; exact Or.inr h
  have hS : va_S A s.heap s.heap [] := va_S.rf
  have hP : va_P D vwCl [(a, .inl (G.2.1, 25, .inr (.inl f)))] s.heap := hP
  have hl := lv_entry ([.ref a]) (n := 2) (Nat.le_of_ble_eq_true rfl)
  rw [lg_entry_eq]
  generalize (lg_sl ([.ref a]) ++ List.replicate (2 - (lg_sl ([.ref a])).length) Slot.unset).toArray = ls at hl ⊢
  have hl : lv_has ls 2 [(0, .ref a)] := hl
  refine lv_iconst (v := 0) hx hb dX12_nothing_0 (by decide) ?_
  refine lv_istore_n (lv' := [(1, .int 0), (0, .ref a)]) hx hb dX12_nothing_1 rfl hl (by decide) rfl (fun ls hl => ?_)
  refine lv_iload_n hx hb dX12_nothing_2 rfl (lv_at hl 0 rfl) ?_
  refine lv_bipush (v := 25) hx hb dX12_nothing_3 (by decide) ?_
  refine lv_icmp_ge (tgt := 29) hx hb dX12_nothing_5 (by decide) (fun h9 => absurd h9 (by decide)) (fun _ => ?_)
  refine lv_aload_n hx hb dX12_nothing_8 rfl (lv_at hl 1 rfl) ?_
  refine lv_iload_n hx hb dX12_nothing_9 rfl (lv_at hl 0 rfl) ?_
  refine lv_iload_n hx hb dX12_nothing_10 rfl (lv_at hl 0 rfl) ?_
  refine lv_bipush (v := 6) hx hb dX12_nothing_11 (by decide) ?_
  refine lv_irem hx hb dX12_nothing_13 (by decide) ?_
  refine wk_i 0 (by decide) ?_
  refine lv_if_ne (tgt := 21) hx hb dX12_nothing_14 (by decide) (fun h9 => absurd h9 (by decide)) (fun _ => ?_)
  refine lv_lconst (v := 1) hx hb dX12_nothing_17 (by decide) ?_
  refine lv_goto (tgt := 22) hx hb dX12_nothing_18 (by decide) ?_
  refine va_last hx hb hK hP hD hS 0 1 rfl rfl (wk_in rfl) dX12_nothing_22 (fun H locs hP hD hS => ?_)
  have hP : va_P D vwCl [(a, .inl (G.2.1, 25, .inr (.inl (vp_updL f 0 1))))] H := hP
  have hD : va_D A [(a, .inl (G.2.1, 25, .inr (.inl (vp_updL f 0 1))))] := hD
  refine lv_iinc (v := 1) (lv' := [(1, .int 1), (0, .ref a)]) hx hb dX12_nothing_23 hl (k := 0) rfl (by decide) (by decide) rfl (fun ls hl => ?_)
  refine lv_goto (tgt := 2) hx hb dX12_nothing_26 (by decide) ?_
  refine lv_iload_n hx hb dX12_nothing_2 rfl (lv_at hl 0 rfl) ?_
  refine lv_bipush (v := 25) hx hb dX12_nothing_3 (by decide) ?_
  refine lv_icmp_ge (tgt := 29) hx hb dX12_nothing_5 (by decide) (fun h9 => absurd h9 (by decide)) (fun _ => ?_)
  refine lv_aload_n hx hb dX12_nothing_8 rfl (lv_at hl 1 rfl) ?_
  refine lv_iload_n hx hb dX12_nothing_9 rfl (lv_at hl 0 rfl) ?_
  refine lv_iload_n hx hb dX12_nothing_10 rfl (lv_at hl 0 rfl) ?_
  refine lv_bipush (v := 6) hx hb dX12_nothing_11 (by decide) ?_
  refine lv_irem hx hb dX12_nothing_13 (by decide) ?_
  refine wk_i 1 (by decide) ?_
  refine lv_if_ne (tgt := 21) hx hb dX12_nothing_14 (by decide) (fun _ => ?_) (fun h9 => absurd h9 (by decide))
  refine lv_lconst (v := 0) hx hb dX12_nothing_21 (by decide) ?_
  refine va_last hx hb hK hP hD hS 0 1 rfl rfl (wk_in rfl) dX12_nothing_22 (fun H locs hP hD hS => ?_)
  have hP : va_P D vwCl [(a, .inl (G.2.1, 25, .inr (.inl (vp_updL (vp_updL f 0 1) 1 0))))] H := hP
  have hD : va_D A [(a, .inl (G.2.1, 25, .inr (.inl (vp_updL (vp_updL f 0 1) 1 0))))] := hD
  refine lv_iinc (v := 2) (lv' := [(1, .int 2), (0, .ref a)]) hx hb dX12_nothing_23 hl (k := 0) rfl (by decide) (by decide) rfl (fun ls hl => ?_)
  refine lv_goto (tgt := 2) hx hb dX12_nothing_26 (by decide) ?_
  refine lv_iload_n hx hb dX12_nothing_2 rfl (lv_at hl 0 rfl) ?_
  refine lv_bipush (v := 25) hx hb dX12_nothing_3 (by decide) ?_
  refine lv_icmp_ge (tgt := 29) hx hb dX12_nothing_5 (by decide) (fun h9 => absurd h9 (by decide)) (fun _ => ?_)
  refine lv_aload_n hx hb dX12_nothing_8 rfl (lv_at hl 1 rfl) ?_
  refine lv_iload_n hx hb dX12_nothing_9 rfl (lv_at hl 0 rfl) ?_
  refine lv_iload_n hx hb dX12_nothing_10 rfl (lv_at hl 0 rfl) ?_
  refine lv_bipush (v := 6) hx hb dX12_nothing_11 (by decide) ?_
  refine lv_irem hx hb dX12_nothing_13 (by decide) ?_
  refine wk_i 2 (by decide) ?_
  refine lv_if_ne (tgt := 21) hx hb dX12_nothing_14 (by decide) (fun _ => ?_) (fun h9 => absurd h9 (by decide))
  refine lv_lconst (v := 0) hx hb dX12_nothing_21 (by decide) ?_
  refine va_last hx hb hK hP hD hS 0 1 rfl rfl (wk_in rfl) dX12_nothing_22 (fun H locs hP hD hS => ?_)
  have hP : va_P D vwCl [(a, .inl (G.2.1, 25, .inr (.inl (vp_updL (vp_updL (vp_updL f 0 1) 1 0) 2 0))))] H := hP
  have hD : va_D A [(a, .inl (G.2.1, 25, .inr (.inl (vp_updL (vp_updL (vp_updL f 0 1) 1 0) 2 0))))] := hD
  refine lv_iinc (v := 3) (lv' := [(1, .int 3), (0, .ref a)]) hx hb dX12_nothing_23 hl (k := 0) rfl (by decide) (by decide) rfl (fun ls hl => ?_)
  refine lv_goto (tgt := 2) hx hb dX12_nothing_26 (by decide) ?_
  refine lv_iload_n hx hb dX12_nothing_2 rfl (lv_at hl 0 rfl) ?_
  refine lv_bipush (v := 25) hx hb dX12_nothing_3 (by decide) ?_
  refine lv_icmp_ge (tgt := 29) hx hb dX12_nothing_5 (by decide) (fun h9 => absurd h9 (by decide)) (fun _ => ?_)
  refine lv_aload_n hx hb dX12_nothing_8 rfl (lv_at hl 1 rfl) ?_
  refine lv_iload_n hx hb dX12_nothing_9 rfl (lv_at hl 0 rfl) ?_
  refine lv_iload_n hx hb dX12_nothing_10 rfl (lv_at hl 0 rfl) ?_
  refine lv_bipush (v := 6) hx hb dX12_nothing_11 (by decide) ?_
  refine lv_irem hx hb dX12_nothing_13 (by decide) ?_
  refine wk_i 3 (by decide) ?_
  refine lv_if_ne (tgt := 21) hx hb dX12_nothing_14 (by decide) (fun _ => ?_) (fun h9 => absurd h9 (by decide))
  refine lv_lconst (v := 0) hx hb dX12_nothing_21 (by decide) ?_
  refine va_last hx hb hK hP hD hS 0 1 rfl rfl (wk_in rfl) dX12_nothing_22 (fun H locs hP hD hS => ?_)
  have hP : va_P D vwCl [(a, .inl (G.2.1, 25, .inr (.inl (vp_updL (vp_updL (vp_updL (vp_updL f 0 1) 1 0) 2 0) 3 0))))] H := hP
  have hD : va_D A [(a, .inl (G.2.1, 25, .inr (.inl (vp_updL (vp_updL (vp_updL (vp_updL f 0 1) 1 0) 2 0) 3 0))))] := hD
  refine lv_iinc (v := 4) (lv' := [(1, .int 4), (0, .ref a)]) hx hb dX12_nothing_23 hl (k := 0) rfl (by decide) (by decide) rfl (fun ls hl => ?_)
  refine lv_goto (tgt := 2) hx hb dX12_nothing_26 (by decide) ?_
  refine lv_iload_n hx hb dX12_nothing_2 rfl (lv_at hl 0 rfl) ?_
  refine lv_bipush (v := 25) hx hb dX12_nothing_3 (by decide) ?_
  refine lv_icmp_ge (tgt := 29) hx hb dX12_nothing_5 (by decide) (fun h9 => absurd h9 (by decide)) (fun _ => ?_)
  refine lv_aload_n hx hb dX12_nothing_8 rfl (lv_at hl 1 rfl) ?_
  refine lv_iload_n hx hb dX12_nothing_9 rfl (lv_at hl 0 rfl) ?_
  refine lv_iload_n hx hb dX12_nothing_10 rfl (lv_at hl 0 rfl) ?_
  refine lv_bipush (v := 6) hx hb dX12_nothing_11 (by decide) ?_
  refine lv_irem hx hb dX12_nothing_13 (by decide) ?_
  refine wk_i 4 (by decide) ?_
  refine lv_if_ne (tgt := 21) hx hb dX12_nothing_14 (by decide) (fun _ => ?_) (fun h9 => absurd h9 (by decide))
  refine lv_lconst (v := 0) hx hb dX12_nothing_21 (by decide) ?_
  refine va_last hx hb hK hP hD hS 0 1 rfl rfl (wk_in rfl) dX12_nothing_22 (fun H locs hP hD hS => ?_)
  have hP : va_P D vwCl [(a, .inl (G.2.1, 25, .inr (.inl (vp_updL (vp_updL (vp_updL (vp_updL (vp_updL f 0 1) 1 0) 2 0) 3 0) 4 0))))] H := hP
  have hD : va_D A [(a, .inl (G.2.1, 25, .inr (.inl (vp_updL (vp_updL (vp_updL (vp_updL (vp_updL f 0 1) 1 0) 2 0) 3 0) 4 0))))] := hD
  refine lv_iinc (v := 5) (lv' := [(1, .int 5), (0, .ref a)]) hx hb dX12_nothing_23 hl (k := 0) rfl (by decide) (by decide) rfl (fun ls hl => ?_)
  refine lv_goto (tgt := 2) hx hb dX12_nothing_26 (by decide) ?_
  refine lv_iload_n hx hb dX12_nothing_2 rfl (lv_at hl 0 rfl) ?_
  refine lv_bipush (v := 25) hx hb dX12_nothing_3 (by decide) ?_
  refine lv_icmp_ge (tgt := 29) hx hb dX12_nothing_5 (by decide) (fun h9 => absurd h9 (by decide)) (fun _ => ?_)
  refine lv_aload_n hx hb dX12_nothing_8 rfl (lv_at hl 1 rfl) ?_
  refine lv_iload_n hx hb dX12_nothing_9 rfl (lv_at hl 0 rfl) ?_
  refine lv_iload_n hx hb dX12_nothing_10 rfl (lv_at hl 0 rfl) ?_
  refine lv_bipush (v := 6) hx hb dX12_nothing_11 (by decide) ?_
  refine lv_irem hx hb dX12_nothing_13 (by decide) ?_
  refine wk_i 5 (by decide) ?_
  refine lv_if_ne (tgt := 21) hx hb dX12_nothing_14 (by decide) (fun _ => ?_) (fun h9 => absurd h9 (by decide))
  refine lv_lconst (v := 0) hx hb dX12_nothing_21 (by decide) ?_
  refine va_last hx hb hK hP hD hS 0 1 rfl rfl (wk_in rfl) dX12_nothing_22 (fun H locs hP hD hS => ?_)
  have hP : va_P D vwCl [(a, .inl (G.2.1, 25, .inr (.inl (vp_updL (vp_updL (vp_updL (vp_updL (vp_updL (vp_updL f 0 1) 1 0) 2 0) 3 0) 4 0) 5 0))))] H := hP
  have hD : va_D A [(a, .inl (G.2.1, 25, .inr (.inl (vp_updL (vp_updL (vp_updL (vp_updL (vp_updL (vp_updL f 0 1) 1 0) 2 0) 3 0) 4 0) 5 0))))] := hD
  refine lv_iinc (v := 6) (lv' := [(1, .int 6), (0, .ref a)]) hx hb dX12_nothing_23 hl (k := 0) rfl (by decide) (by decide) rfl (fun ls hl => ?_)
  refine lv_goto (tgt := 2) hx hb dX12_nothing_26 (by decide) ?_
  refine lv_iload_n hx hb dX12_nothing_2 rfl (lv_at hl 0 rfl) ?_
  refine lv_bipush (v := 25) hx hb dX12_nothing_3 (by decide) ?_
  refine lv_icmp_ge (tgt := 29) hx hb dX12_nothing_5 (by decide) (fun h9 => absurd h9 (by decide)) (fun _ => ?_)
  refine lv_aload_n hx hb dX12_nothing_8 rfl (lv_at hl 1 rfl) ?_
  refine lv_iload_n hx hb dX12_nothing_9 rfl (lv_at hl 0 rfl) ?_
  refine lv_iload_n hx hb dX12_nothing_10 rfl (lv_at hl 0 rfl) ?_
  refine lv_bipush (v := 6) hx hb dX12_nothing_11 (by decide) ?_
  refine lv_irem hx hb dX12_nothing_13 (by decide) ?_
  refine wk_i 0 (by decide) ?_
  refine lv_if_ne (tgt := 21) hx hb dX12_nothing_14 (by decide) (fun h9 => absurd h9 (by decide)) (fun _ => ?_)
  refine lv_lconst (v := 1) hx hb dX12_nothing_17 (by decide) ?_
  refine lv_goto (tgt := 22) hx hb dX12_nothing_18 (by decide) ?_
  refine va_last hx hb hK hP hD hS 0 1 rfl rfl (wk_in rfl) dX12_nothing_22 (fun H locs hP hD hS => ?_)
  have hP : va_P D vwCl [(a, .inl (G.2.1, 25, .inr (.inl (vp_updL (vp_updL (vp_updL (vp_updL (vp_updL (vp_updL (vp_updL f 0 1) 1 0) 2 0) 3 0) 4 0) 5 0) 6 1))))] H := hP
  have hD : va_D A [(a, .inl (G.2.1, 25, .inr (.inl (vp_updL (vp_updL (vp_updL (vp_updL (vp_updL (vp_updL (vp_updL f 0 1) 1 0) 2 0) 3 0) 4 0) 5 0) 6 1))))] := hD
  refine lv_iinc (v := 7) (lv' := [(1, .int 7), (0, .ref a)]) hx hb dX12_nothing_23 hl (k := 0) rfl (by decide) (by decide) rfl (fun ls hl => ?_)
  refine lv_goto (tgt := 2) hx hb dX12_nothing_26 (by decide) ?_
  refine lv_iload_n hx hb dX12_nothing_2 rfl (lv_at hl 0 rfl) ?_
  refine lv_bipush (v := 25) hx hb dX12_nothing_3 (by decide) ?_
  refine lv_icmp_ge (tgt := 29) hx hb dX12_nothing_5 (by decide) (fun h9 => absurd h9 (by decide)) (fun _ => ?_)
  refine lv_aload_n hx hb dX12_nothing_8 rfl (lv_at hl 1 rfl) ?_
  refine lv_iload_n hx hb dX12_nothing_9 rfl (lv_at hl 0 rfl) ?_
  refine lv_iload_n hx hb dX12_nothing_10 rfl (lv_at hl 0 rfl) ?_
  refine lv_bipush (v := 6) hx hb dX12_nothing_11 (by decide) ?_
  refine lv_irem hx hb dX12_nothing_13 (by decide) ?_
  refine wk_i 1 (by decide) ?_
  refine lv_if_ne (tgt := 21) hx hb dX12_nothing_14 (by decide) (fun _ => ?_) (fun h9 => absurd h9 (by decide))
  refine lv_lconst (v := 0) hx hb dX12_nothing_21 (by decide) ?_
  refine va_last hx hb hK hP hD hS 0 1 rfl rfl (wk_in rfl) dX12_nothing_22 (fun H locs hP hD hS => ?_)
  have hP : va_P D vwCl [(a, .inl (G.2.1, 25, .inr (.inl (vp_updL (vp_updL (vp_updL (vp_updL (vp_updL (vp_updL (vp_updL (vp_updL f 0 1) 1 0) 2 0) 3 0) 4 0) 5 0) 6 1) 7 0))))] H := hP
  have hD : va_D A [(a, .inl (G.2.1, 25, .inr (.inl (vp_updL (vp_updL (vp_updL (vp_updL (vp_updL (vp_updL (vp_updL (vp_updL f 0 1) 1 0) 2 0) 3 0) 4 0) 5 0) 6 1) 7 0))))] := hD
  refine lv_iinc (v := 8) (lv' := [(1, .int 8), (0, .ref a)]) hx hb dX12_nothing_23 hl (k := 0) rfl (by decide) (by decide) rfl (fun ls hl => ?_)
  refine lv_goto (tgt := 2) hx hb dX12_nothing_26 (by decide) ?_
  refine lv_iload_n hx hb dX12_nothing_2 rfl (lv_at hl 0 rfl) ?_
  refine lv_bipush (v := 25) hx hb dX12_nothing_3 (by decide) ?_
  refine lv_icmp_ge (tgt := 29) hx hb dX12_nothing_5 (by decide) (fun h9 => absurd h9 (by decide)) (fun _ => ?_)
  refine lv_aload_n hx hb dX12_nothing_8 rfl (lv_at hl 1 rfl) ?_
  refine lv_iload_n hx hb dX12_nothing_9 rfl (lv_at hl 0 rfl) ?_
  refine lv_iload_n hx hb dX12_nothing_10 rfl (lv_at hl 0 rfl) ?_
  refine lv_bipush (v := 6) hx hb dX12_nothing_11 (by decide) ?_
  refine lv_irem hx hb dX12_nothing_13 (by decide) ?_
  refine wk_i 2 (by decide) ?_
  refine lv_if_ne (tgt := 21) hx hb dX12_nothing_14 (by decide) (fun _ => ?_) (fun h9 => absurd h9 (by decide))
  refine lv_lconst (v := 0) hx hb dX12_nothing_21 (by decide) ?_
  refine va_last hx hb hK hP hD hS 0 1 rfl rfl (wk_in rfl) dX12_nothing_22 (fun H locs hP hD hS => ?_)
  have hP : va_P D vwCl [(a, .inl (G.2.1, 25, .inr (.inl (vp_updL (vp_updL (vp_updL (vp_updL (vp_updL (vp_updL (vp_updL (vp_updL (vp_updL f 0 1) 1 0) 2 0) 3 0) 4 0) 5 0) 6 1) 7 0) 8 0))))] H := hP
  have hD : va_D A [(a, .inl (G.2.1, 25, .inr (.inl (vp_updL (vp_updL (vp_updL (vp_updL (vp_updL (vp_updL (vp_updL (vp_updL (vp_updL f 0 1) 1 0) 2 0) 3 0) 4 0) 5 0) 6 1) 7 0) 8 0))))] := hD
  refine lv_iinc (v := 9) (lv' := [(1, .int 9), (0, .ref a)]) hx hb dX12_nothing_23 hl (k := 0) rfl (by decide) (by decide) rfl (fun ls hl => ?_)
  refine lv_goto (tgt := 2) hx hb dX12_nothing_26 (by decide) ?_
  refine lv_iload_n hx hb dX12_nothing_2 rfl (lv_at hl 0 rfl) ?_
  refine lv_bipush (v := 25) hx hb dX12_nothing_3 (by decide) ?_
  refine lv_icmp_ge (tgt := 29) hx hb dX12_nothing_5 (by decide) (fun h9 => absurd h9 (by decide)) (fun _ => ?_)
  refine lv_aload_n hx hb dX12_nothing_8 rfl (lv_at hl 1 rfl) ?_
  refine lv_iload_n hx hb dX12_nothing_9 rfl (lv_at hl 0 rfl) ?_
  refine lv_iload_n hx hb dX12_nothing_10 rfl (lv_at hl 0 rfl) ?_
  refine lv_bipush (v := 6) hx hb dX12_nothing_11 (by decide) ?_
  refine lv_irem hx hb dX12_nothing_13 (by decide) ?_
  refine wk_i 3 (by decide) ?_
  refine lv_if_ne (tgt := 21) hx hb dX12_nothing_14 (by decide) (fun _ => ?_) (fun h9 => absurd h9 (by decide))
  refine lv_lconst (v := 0) hx hb dX12_nothing_21 (by decide) ?_
  refine va_last hx hb hK hP hD hS 0 1 rfl rfl (wk_in rfl) dX12_nothing_22 (fun H locs hP hD hS => ?_)
  have hP : va_P D vwCl [(a, .inl (G.2.1, 25, .inr (.inl (vp_updL (vp_updL (vp_updL (vp_updL (vp_updL (vp_updL (vp_updL (vp_updL (vp_updL (vp_updL f 0 1) 1 0) 2 0) 3 0) 4 0) 5 0) 6 1) 7 0) 8 0) 9 0))))] H := hP
  have hD : va_D A [(a, .inl (G.2.1, 25, .inr (.inl (vp_updL (vp_updL (vp_updL (vp_updL (vp_updL (vp_updL (vp_updL (vp_updL (vp_updL (vp_updL f 0 1) 1 0) 2 0) 3 0) 4 0) 5 0) 6 1) 7 0) 8 0) 9 0))))] := hD
  refine lv_iinc (v := 10) (lv' := [(1, .int 10), (0, .ref a)]) hx hb dX12_nothing_23 hl (k := 0) rfl (by decide) (by decide) rfl (fun ls hl => ?_)
  refine lv_goto (tgt := 2) hx hb dX12_nothing_26 (by decide) ?_
  refine lv_iload_n hx hb dX12_nothing_2 rfl (lv_at hl 0 rfl) ?_
  refine lv_bipush (v := 25) hx hb dX12_nothing_3 (by decide) ?_
  refine lv_icmp_ge (tgt := 29) hx hb dX12_nothing_5 (by decide) (fun h9 => absurd h9 (by decide)) (fun _ => ?_)
  refine lv_aload_n hx hb dX12_nothing_8 rfl (lv_at hl 1 rfl) ?_
  refine lv_iload_n hx hb dX12_nothing_9 rfl (lv_at hl 0 rfl) ?_
  refine lv_iload_n hx hb dX12_nothing_10 rfl (lv_at hl 0 rfl) ?_
  refine lv_bipush (v := 6) hx hb dX12_nothing_11 (by decide) ?_
  refine lv_irem hx hb dX12_nothing_13 (by decide) ?_
  refine wk_i 4 (by decide) ?_
  refine lv_if_ne (tgt := 21) hx hb dX12_nothing_14 (by decide) (fun _ => ?_) (fun h9 => absurd h9 (by decide))
  refine lv_lconst (v := 0) hx hb dX12_nothing_21 (by decide) ?_
  refine va_last hx hb hK hP hD hS 0 1 rfl rfl (wk_in rfl) dX12_nothing_22 (fun H locs hP hD hS => ?_)
  have hP : va_P D vwCl [(a, .inl (G.2.1, 25, .inr (.inl (vp_updL (vp_updL (vp_updL (vp_updL (vp_updL (vp_updL (vp_updL (vp_updL (vp_updL (vp_updL (vp_updL f 0 1) 1 0) 2 0) 3 0) 4 0) 5 0) 6 1) 7 0) 8 0) 9 0) 10 0))))] H := hP
  have hD : va_D A [(a, .inl (G.2.1, 25, .inr (.inl (vp_updL (vp_updL (vp_updL (vp_updL (vp_updL (vp_updL (vp_updL (vp_updL (vp_updL (vp_updL (vp_updL f 0 1) 1 0) 2 0) 3 0) 4 0) 5 0) 6 1) 7 0) 8 0) 9 0) 10 0))))] := hD
  refine lv_iinc (v := 11) (lv' := [(1, .int 11), (0, .ref a)]) hx hb dX12_nothing_23 hl (k := 0) rfl (by decide) (by decide) rfl (fun ls hl => ?_)
  refine lv_goto (tgt := 2) hx hb dX12_nothing_26 (by decide) ?_
  refine lv_iload_n hx hb dX12_nothing_2 rfl (lv_at hl 0 rfl) ?_
  refine lv_bipush (v := 25) hx hb dX12_nothing_3 (by decide) ?_
  refine lv_icmp_ge (tgt := 29) hx hb dX12_nothing_5 (by decide) (fun h9 => absurd h9 (by decide)) (fun _ => ?_)
  refine lv_aload_n hx hb dX12_nothing_8 rfl (lv_at hl 1 rfl) ?_
  refine lv_iload_n hx hb dX12_nothing_9 rfl (lv_at hl 0 rfl) ?_
  refine lv_iload_n hx hb dX12_nothing_10 rfl (lv_at hl 0 rfl) ?_
  refine lv_bipush (v := 6) hx hb dX12_nothing_11 (by decide) ?_
  refine lv_irem hx hb dX12_nothing_13 (by decide) ?_
  refine wk_i 5 (by decide) ?_
  refine lv_if_ne (tgt := 21) hx hb dX12_nothing_14 (by decide) (fun _ => ?_) (fun h9 => absurd h9 (by decide))
  refine lv_lconst (v := 0) hx hb dX12_nothing_21 (by decide) ?_
  refine va_last hx hb hK hP hD hS 0 1 rfl rfl (wk_in rfl) dX12_nothing_22 (fun H locs hP hD hS => ?_)
  have hP : va_P D vwCl [(a, .inl (G.2.1, 25, .inr (.inl (vp_updL (vp_updL (vp_updL (vp_updL (vp_updL (vp_updL (vp_updL (vp_updL (vp_updL (vp_updL (vp_updL (vp_updL f 0 1) 1 0) 2 0) 3 0) 4 0) 5 0) 6 1) 7 0) 8 0) 9 0) 10 0) 11 0))))] H := hP
  have hD : va_D A [(a, .inl (G.2.1, 25, .inr (.inl (vp_updL (vp_updL (vp_updL (vp_updL (vp_updL (vp_updL (vp_updL (vp_updL (vp_updL (vp_updL (vp_updL (vp_updL f 0 1) 1 0) 2 0) 3 0) 4 0) 5 0) 6 1) 7 0) 8 0) 9 0) 10 0) 11 0))))] := hD
  refine lv_iinc (v := 12) (lv' := [(1, .int 12), (0, .ref a)]) hx hb dX12_nothing_23 hl (k := 0) rfl (by decide) (by decide) rfl (fun ls hl => ?_)
  refine lv_goto (tgt := 2) hx hb dX12_nothing_26 (by decide) ?_
  refine lv_iload_n hx hb dX12_nothing_2 rfl (lv_at hl 0 rfl) ?_
  refine lv_bipush (v := 25) hx hb dX12_nothing_3 (by decide) ?_
  refine lv_icmp_ge (tgt := 29) hx hb dX12_nothing_5 (by decide) (fun h9 => absurd h9 (by decide)) (fun _ => ?_)
  refine lv_aload_n hx hb dX12_nothing_8 rfl (lv_at hl 1 rfl) ?_
  refine lv_iload_n hx hb dX12_nothing_9 rfl (lv_at hl 0 rfl) ?_
  refine lv_iload_n hx hb dX12_nothing_10 rfl (lv_at hl 0 rfl) ?_
  refine lv_bipush (v := 6) hx hb dX12_nothing_11 (by decide) ?_
  refine lv_irem hx hb dX12_nothing_13 (by decide) ?_
  refine wk_i 0 (by decide) ?_
  refine lv_if_ne (tgt := 21) hx hb dX12_nothing_14 (by decide) (fun h9 => absurd h9 (by decide)) (fun _ => ?_)
  refine lv_lconst (v := 1) hx hb dX12_nothing_17 (by decide) ?_
  refine lv_goto (tgt := 22) hx hb dX12_nothing_18 (by decide) ?_
  refine va_last hx hb hK hP hD hS 0 1 rfl rfl (wk_in rfl) dX12_nothing_22 (fun H locs hP hD hS => ?_)
  have hP : va_P D vwCl [(a, .inl (G.2.1, 25, .inr (.inl (vp_updL (vp_updL (vp_updL (vp_updL (vp_updL (vp_updL (vp_updL (vp_updL (vp_updL (vp_updL (vp_updL (vp_updL (vp_updL f 0 1) 1 0) 2 0) 3 0) 4 0) 5 0) 6 1) 7 0) 8 0) 9 0) 10 0) 11 0) 12 1))))] H := hP
  have hD : va_D A [(a, .inl (G.2.1, 25, .inr (.inl (vp_updL (vp_updL (vp_updL (vp_updL (vp_updL (vp_updL (vp_updL (vp_updL (vp_updL (vp_updL (vp_updL (vp_updL (vp_updL f 0 1) 1 0) 2 0) 3 0) 4 0) 5 0) 6 1) 7 0) 8 0) 9 0) 10 0) 11 0) 12 1))))] := hD
  refine lv_iinc (v := 13) (lv' := [(1, .int 13), (0, .ref a)]) hx hb dX12_nothing_23 hl (k := 0) rfl (by decide) (by decide) rfl (fun ls hl => ?_)
  refine lv_goto (tgt := 2) hx hb dX12_nothing_26 (by decide) ?_
  refine lv_iload_n hx hb dX12_nothing_2 rfl (lv_at hl 0 rfl) ?_
  refine lv_bipush (v := 25) hx hb dX12_nothing_3 (by decide) ?_
  refine lv_icmp_ge (tgt := 29) hx hb dX12_nothing_5 (by decide) (fun h9 => absurd h9 (by decide)) (fun _ => ?_)
  refine lv_aload_n hx hb dX12_nothing_8 rfl (lv_at hl 1 rfl) ?_
  refine lv_iload_n hx hb dX12_nothing_9 rfl (lv_at hl 0 rfl) ?_
  refine lv_iload_n hx hb dX12_nothing_10 rfl (lv_at hl 0 rfl) ?_
  refine lv_bipush (v := 6) hx hb dX12_nothing_11 (by decide) ?_
  refine lv_irem hx hb dX12_nothing_13 (by decide) ?_
  refine wk_i 1 (by decide) ?_
  refine lv_if_ne (tgt := 21) hx hb dX12_nothing_14 (by decide) (fun _ => ?_) (fun h9 => absurd h9 (by decide))
  refine lv_lconst (v := 0) hx hb dX12_nothing_21 (by decide) ?_
  refine va_last hx hb hK hP hD hS 0 1 rfl rfl (wk_in rfl) dX12_nothing_22 (fun H locs hP hD hS => ?_)
  have hP : va_P D vwCl [(a, .inl (G.2.1, 25, .inr (.inl (vp_updL (vp_updL (vp_updL (vp_updL (vp_updL (vp_updL (vp_updL (vp_updL (vp_updL (vp_updL (vp_updL (vp_updL (vp_updL (vp_updL f 0 1) 1 0) 2 0) 3 0) 4 0) 5 0) 6 1) 7 0) 8 0) 9 0) 10 0) 11 0) 12 1) 13 0))))] H := hP
  have hD : va_D A [(a, .inl (G.2.1, 25, .inr (.inl (vp_updL (vp_updL (vp_updL (vp_updL (vp_updL (vp_updL (vp_updL (vp_updL (vp_updL (vp_updL (vp_updL (vp_updL (vp_updL (vp_updL f 0 1) 1 0) 2 0) 3 0) 4 0) 5 0) 6 1) 7 0) 8 0) 9 0) 10 0) 11 0) 12 1) 13 0))))] := hD
  refine lv_iinc (v := 14) (lv' := [(1, .int 14), (0, .ref a)]) hx hb dX12_nothing_23 hl (k := 0) rfl (by decide) (by decide) rfl (fun ls hl => ?_)
  refine lv_goto (tgt := 2) hx hb dX12_nothing_26 (by decide) ?_
  refine lv_iload_n hx hb dX12_nothing_2 rfl (lv_at hl 0 rfl) ?_
  refine lv_bipush (v := 25) hx hb dX12_nothing_3 (by decide) ?_
  refine lv_icmp_ge (tgt := 29) hx hb dX12_nothing_5 (by decide) (fun h9 => absurd h9 (by decide)) (fun _ => ?_)
  refine lv_aload_n hx hb dX12_nothing_8 rfl (lv_at hl 1 rfl) ?_
  refine lv_iload_n hx hb dX12_nothing_9 rfl (lv_at hl 0 rfl) ?_
  refine lv_iload_n hx hb dX12_nothing_10 rfl (lv_at hl 0 rfl) ?_
  refine lv_bipush (v := 6) hx hb dX12_nothing_11 (by decide) ?_
  refine lv_irem hx hb dX12_nothing_13 (by decide) ?_
  refine wk_i 2 (by decide) ?_
  refine lv_if_ne (tgt := 21) hx hb dX12_nothing_14 (by decide) (fun _ => ?_) (fun h9 => absurd h9 (by decide))
  refine lv_lconst (v := 0) hx hb dX12_nothing_21 (by decide) ?_
  refine va_last hx hb hK hP hD hS 0 1 rfl rfl (wk_in rfl) dX12_nothing_22 (fun H locs hP hD hS => ?_)
  have hP : va_P D vwCl [(a, .inl (G.2.1, 25, .inr (.inl (vp_updL (vp_updL (vp_updL (vp_updL (vp_updL (vp_updL (vp_updL (vp_updL (vp_updL (vp_updL (vp_updL (vp_updL (vp_updL (vp_updL (vp_updL f 0 1) 1 0) 2 0) 3 0) 4 0) 5 0) 6 1) 7 0) 8 0) 9 0) 10 0) 11 0) 12 1) 13 0) 14 0))))] H := hP
  have hD : va_D A [(a, .inl (G.2.1, 25, .inr (.inl (vp_updL (vp_updL (vp_updL (vp_updL (vp_updL (vp_updL (vp_updL (vp_updL (vp_updL (vp_updL (vp_updL (vp_updL (vp_updL (vp_updL (vp_updL f 0 1) 1 0) 2 0) 3 0) 4 0) 5 0) 6 1) 7 0) 8 0) 9 0) 10 0) 11 0) 12 1) 13 0) 14 0))))] := hD
  refine lv_iinc (v := 15) (lv' := [(1, .int 15), (0, .ref a)]) hx hb dX12_nothing_23 hl (k := 0) rfl (by decide) (by decide) rfl (fun ls hl => ?_)
  refine lv_goto (tgt := 2) hx hb dX12_nothing_26 (by decide) ?_
  refine lv_iload_n hx hb dX12_nothing_2 rfl (lv_at hl 0 rfl) ?_
  refine lv_bipush (v := 25) hx hb dX12_nothing_3 (by decide) ?_
  refine lv_icmp_ge (tgt := 29) hx hb dX12_nothing_5 (by decide) (fun h9 => absurd h9 (by decide)) (fun _ => ?_)
  refine lv_aload_n hx hb dX12_nothing_8 rfl (lv_at hl 1 rfl) ?_
  refine lv_iload_n hx hb dX12_nothing_9 rfl (lv_at hl 0 rfl) ?_
  refine lv_iload_n hx hb dX12_nothing_10 rfl (lv_at hl 0 rfl) ?_
  refine lv_bipush (v := 6) hx hb dX12_nothing_11 (by decide) ?_
  refine lv_irem hx hb dX12_nothing_13 (by decide) ?_
  refine wk_i 3 (by decide) ?_
  refine lv_if_ne (tgt := 21) hx hb dX12_nothing_14 (by decide) (fun _ => ?_) (fun h9 => absurd h9 (by decide))
  refine lv_lconst (v := 0) hx hb dX12_nothing_21 (by decide) ?_
  refine va_last hx hb hK hP hD hS 0 1 rfl rfl (wk_in rfl) dX12_nothing_22 (fun H locs hP hD hS => ?_)
  have hP : va_P D vwCl [(a, .inl (G.2.1, 25, .inr (.inl (vp_updL (vp_updL (vp_updL (vp_updL (vp_updL (vp_updL (vp_updL (vp_updL (vp_updL (vp_updL (vp_updL (vp_updL (vp_updL (vp_updL (vp_updL (vp_updL f 0 1) 1 0) 2 0) 3 0) 4 0) 5 0) 6 1) 7 0) 8 0) 9 0) 10 0) 11 0) 12 1) 13 0) 14 0) 15 0))))] H := hP
  have hD : va_D A [(a, .inl (G.2.1, 25, .inr (.inl (vp_updL (vp_updL (vp_updL (vp_updL (vp_updL (vp_updL (vp_updL (vp_updL (vp_updL (vp_updL (vp_updL (vp_updL (vp_updL (vp_updL (vp_updL (vp_updL f 0 1) 1 0) 2 0) 3 0) 4 0) 5 0) 6 1) 7 0) 8 0) 9 0) 10 0) 11 0) 12 1) 13 0) 14 0) 15 0))))] := hD
  refine lv_iinc (v := 16) (lv' := [(1, .int 16), (0, .ref a)]) hx hb dX12_nothing_23 hl (k := 0) rfl (by decide) (by decide) rfl (fun ls hl => ?_)
  refine lv_goto (tgt := 2) hx hb dX12_nothing_26 (by decide) ?_
  refine lv_iload_n hx hb dX12_nothing_2 rfl (lv_at hl 0 rfl) ?_
  refine lv_bipush (v := 25) hx hb dX12_nothing_3 (by decide) ?_
  refine lv_icmp_ge (tgt := 29) hx hb dX12_nothing_5 (by decide) (fun h9 => absurd h9 (by decide)) (fun _ => ?_)
  refine lv_aload_n hx hb dX12_nothing_8 rfl (lv_at hl 1 rfl) ?_
  refine lv_iload_n hx hb dX12_nothing_9 rfl (lv_at hl 0 rfl) ?_
  refine lv_iload_n hx hb dX12_nothing_10 rfl (lv_at hl 0 rfl) ?_
  refine lv_bipush (v := 6) hx hb dX12_nothing_11 (by decide) ?_
  refine lv_irem hx hb dX12_nothing_13 (by decide) ?_
  refine wk_i 4 (by decide) ?_
  refine lv_if_ne (tgt := 21) hx hb dX12_nothing_14 (by decide) (fun _ => ?_) (fun h9 => absurd h9 (by decide))
  refine lv_lconst (v := 0) hx hb dX12_nothing_21 (by decide) ?_
  refine va_last hx hb hK hP hD hS 0 1 rfl rfl (wk_in rfl) dX12_nothing_22 (fun H locs hP hD hS => ?_)
  have hP : va_P D vwCl [(a, .inl (G.2.1, 25, .inr (.inl (vp_updL (vp_updL (vp_updL (vp_updL (vp_updL (vp_updL (vp_updL (vp_updL (vp_updL (vp_updL (vp_updL (vp_updL (vp_updL (vp_updL (vp_updL (vp_updL (vp_updL f 0 1) 1 0) 2 0) 3 0) 4 0) 5 0) 6 1) 7 0) 8 0) 9 0) 10 0) 11 0) 12 1) 13 0) 14 0) 15 0) 16 0))))] H := hP
  have hD : va_D A [(a, .inl (G.2.1, 25, .inr (.inl (vp_updL (vp_updL (vp_updL (vp_updL (vp_updL (vp_updL (vp_updL (vp_updL (vp_updL (vp_updL (vp_updL (vp_updL (vp_updL (vp_updL (vp_updL (vp_updL (vp_updL f 0 1) 1 0) 2 0) 3 0) 4 0) 5 0) 6 1) 7 0) 8 0) 9 0) 10 0) 11 0) 12 1) 13 0) 14 0) 15 0) 16 0))))] := hD
  refine lv_iinc (v := 17) (lv' := [(1, .int 17), (0, .ref a)]) hx hb dX12_nothing_23 hl (k := 0) rfl (by decide) (by decide) rfl (fun ls hl => ?_)
  refine lv_goto (tgt := 2) hx hb dX12_nothing_26 (by decide) ?_
  refine lv_iload_n hx hb dX12_nothing_2 rfl (lv_at hl 0 rfl) ?_
  refine lv_bipush (v := 25) hx hb dX12_nothing_3 (by decide) ?_
  refine lv_icmp_ge (tgt := 29) hx hb dX12_nothing_5 (by decide) (fun h9 => absurd h9 (by decide)) (fun _ => ?_)
  refine lv_aload_n hx hb dX12_nothing_8 rfl (lv_at hl 1 rfl) ?_
  refine lv_iload_n hx hb dX12_nothing_9 rfl (lv_at hl 0 rfl) ?_
  refine lv_iload_n hx hb dX12_nothing_10 rfl (lv_at hl 0 rfl) ?_
  refine lv_bipush (v := 6) hx hb dX12_nothing_11 (by decide) ?_
  refine lv_irem hx hb dX12_nothing_13 (by decide) ?_
  refine wk_i 5 (by decide) ?_
  refine lv_if_ne (tgt := 21) hx hb dX12_nothing_14 (by decide) (fun _ => ?_) (fun h9 => absurd h9 (by decide))
  refine lv_lconst (v := 0) hx hb dX12_nothing_21 (by decide) ?_
  refine va_last hx hb hK hP hD hS 0 1 rfl rfl (wk_in rfl) dX12_nothing_22 (fun H locs hP hD hS => ?_)
  have hP : va_P D vwCl [(a, .inl (G.2.1, 25, .inr (.inl (vp_updL (vp_updL (vp_updL (vp_updL (vp_updL (vp_updL (vp_updL (vp_updL (vp_updL (vp_updL (vp_updL (vp_updL (vp_updL (vp_updL (vp_updL (vp_updL (vp_updL (vp_updL f 0 1) 1 0) 2 0) 3 0) 4 0) 5 0) 6 1) 7 0) 8 0) 9 0) 10 0) 11 0) 12 1) 13 0) 14 0) 15 0) 16 0) 17 0))))] H := hP
  have hD : va_D A [(a, .inl (G.2.1, 25, .inr (.inl (vp_updL (vp_updL (vp_updL (vp_updL (vp_updL (vp_updL (vp_updL (vp_updL (vp_updL (vp_updL (vp_updL (vp_updL (vp_updL (vp_updL (vp_updL (vp_updL (vp_updL (vp_updL f 0 1) 1 0) 2 0) 3 0) 4 0) 5 0) 6 1) 7 0) 8 0) 9 0) 10 0) 11 0) 12 1) 13 0) 14 0) 15 0) 16 0) 17 0))))] := hD
  refine lv_iinc (v := 18) (lv' := [(1, .int 18), (0, .ref a)]) hx hb dX12_nothing_23 hl (k := 0) rfl (by decide) (by decide) rfl (fun ls hl => ?_)
  refine lv_goto (tgt := 2) hx hb dX12_nothing_26 (by decide) ?_
  refine lv_iload_n hx hb dX12_nothing_2 rfl (lv_at hl 0 rfl) ?_
  refine lv_bipush (v := 25) hx hb dX12_nothing_3 (by decide) ?_
  refine lv_icmp_ge (tgt := 29) hx hb dX12_nothing_5 (by decide) (fun h9 => absurd h9 (by decide)) (fun _ => ?_)
  refine lv_aload_n hx hb dX12_nothing_8 rfl (lv_at hl 1 rfl) ?_
  refine lv_iload_n hx hb dX12_nothing_9 rfl (lv_at hl 0 rfl) ?_
  refine lv_iload_n hx hb dX12_nothing_10 rfl (lv_at hl 0 rfl) ?_
  refine lv_bipush (v := 6) hx hb dX12_nothing_11 (by decide) ?_
  refine lv_irem hx hb dX12_nothing_13 (by decide) ?_
  refine wk_i 0 (by decide) ?_
  refine lv_if_ne (tgt := 21) hx hb dX12_nothing_14 (by decide) (fun h9 => absurd h9 (by decide)) (fun _ => ?_)
  refine lv_lconst (v := 1) hx hb dX12_nothing_17 (by decide) ?_
  refine lv_goto (tgt := 22) hx hb dX12_nothing_18 (by decide) ?_
  refine va_last hx hb hK hP hD hS 0 1 rfl rfl (wk_in rfl) dX12_nothing_22 (fun H locs hP hD hS => ?_)
  have hP : va_P D vwCl [(a, .inl (G.2.1, 25, .inr (.inl (vp_updL (vp_updL (vp_updL (vp_updL (vp_updL (vp_updL (vp_updL (vp_updL (vp_updL (vp_updL (vp_updL (vp_updL (vp_updL (vp_updL (vp_updL (vp_updL (vp_updL (vp_updL (vp_updL f 0 1) 1 0) 2 0) 3 0) 4 0) 5 0) 6 1) 7 0) 8 0) 9 0) 10 0) 11 0) 12 1) 13 0) 14 0) 15 0) 16 0) 17 0) 18 1))))] H := hP
  have hD : va_D A [(a, .inl (G.2.1, 25, .inr (.inl (vp_updL (vp_updL (vp_updL (vp_updL (vp_updL (vp_updL (vp_updL (vp_updL (vp_updL (vp_updL (vp_updL (vp_updL (vp_updL (vp_updL (vp_updL (vp_updL (vp_updL (vp_updL (vp_updL f 0 1) 1 0) 2 0) 3 0) 4 0) 5 0) 6 1) 7 0) 8 0) 9 0) 10 0) 11 0) 12 1) 13 0) 14 0) 15 0) 16 0) 17 0) 18 1))))] := hD
  refine lv_iinc (v := 19) (lv' := [(1, .int 19), (0, .ref a)]) hx hb dX12_nothing_23 hl (k := 0) rfl (by decide) (by decide) rfl (fun ls hl => ?_)
  refine lv_goto (tgt := 2) hx hb dX12_nothing_26 (by decide) ?_
  refine lv_iload_n hx hb dX12_nothing_2 rfl (lv_at hl 0 rfl) ?_
  refine lv_bipush (v := 25) hx hb dX12_nothing_3 (by decide) ?_
  refine lv_icmp_ge (tgt := 29) hx hb dX12_nothing_5 (by decide) (fun h9 => absurd h9 (by decide)) (fun _ => ?_)
  refine lv_aload_n hx hb dX12_nothing_8 rfl (lv_at hl 1 rfl) ?_
  refine lv_iload_n hx hb dX12_nothing_9 rfl (lv_at hl 0 rfl) ?_
  refine lv_iload_n hx hb dX12_nothing_10 rfl (lv_at hl 0 rfl) ?_
  refine lv_bipush (v := 6) hx hb dX12_nothing_11 (by decide) ?_
  refine lv_irem hx hb dX12_nothing_13 (by decide) ?_
  refine wk_i 1 (by decide) ?_
  refine lv_if_ne (tgt := 21) hx hb dX12_nothing_14 (by decide) (fun _ => ?_) (fun h9 => absurd h9 (by decide))
  refine lv_lconst (v := 0) hx hb dX12_nothing_21 (by decide) ?_
  refine va_last hx hb hK hP hD hS 0 1 rfl rfl (wk_in rfl) dX12_nothing_22 (fun H locs hP hD hS => ?_)
  have hP : va_P D vwCl [(a, .inl (G.2.1, 25, .inr (.inl (vp_updL (vp_updL (vp_updL (vp_updL (vp_updL (vp_updL (vp_updL (vp_updL (vp_updL (vp_updL (vp_updL (vp_updL (vp_updL (vp_updL (vp_updL (vp_updL (vp_updL (vp_updL (vp_updL (vp_updL f 0 1) 1 0) 2 0) 3 0) 4 0) 5 0) 6 1) 7 0) 8 0) 9 0) 10 0) 11 0) 12 1) 13 0) 14 0) 15 0) 16 0) 17 0) 18 1) 19 0))))] H := hP
  have hD : va_D A [(a, .inl (G.2.1, 25, .inr (.inl (vp_updL (vp_updL (vp_updL (vp_updL (vp_updL (vp_updL (vp_updL (vp_updL (vp_updL (vp_updL (vp_updL (vp_updL (vp_updL (vp_updL (vp_updL (vp_updL (vp_updL (vp_updL (vp_updL (vp_updL f 0 1) 1 0) 2 0) 3 0) 4 0) 5 0) 6 1) 7 0) 8 0) 9 0) 10 0) 11 0) 12 1) 13 0) 14 0) 15 0) 16 0) 17 0) 18 1) 19 0))))] := hD
  refine lv_iinc (v := 20) (lv' := [(1, .int 20), (0, .ref a)]) hx hb dX12_nothing_23 hl (k := 0) rfl (by decide) (by decide) rfl (fun ls hl => ?_)
  refine lv_goto (tgt := 2) hx hb dX12_nothing_26 (by decide) ?_
  refine lv_iload_n hx hb dX12_nothing_2 rfl (lv_at hl 0 rfl) ?_
  refine lv_bipush (v := 25) hx hb dX12_nothing_3 (by decide) ?_
  refine lv_icmp_ge (tgt := 29) hx hb dX12_nothing_5 (by decide) (fun h9 => absurd h9 (by decide)) (fun _ => ?_)
  refine lv_aload_n hx hb dX12_nothing_8 rfl (lv_at hl 1 rfl) ?_
  refine lv_iload_n hx hb dX12_nothing_9 rfl (lv_at hl 0 rfl) ?_
  refine lv_iload_n hx hb dX12_nothing_10 rfl (lv_at hl 0 rfl) ?_
  refine lv_bipush (v := 6) hx hb dX12_nothing_11 (by decide) ?_
  refine lv_irem hx hb dX12_nothing_13 (by decide) ?_
  refine wk_i 2 (by decide) ?_
  refine lv_if_ne (tgt := 21) hx hb dX12_nothing_14 (by decide) (fun _ => ?_) (fun h9 => absurd h9 (by decide))
  refine lv_lconst (v := 0) hx hb dX12_nothing_21 (by decide) ?_
  refine va_last hx hb hK hP hD hS 0 1 rfl rfl (wk_in rfl) dX12_nothing_22 (fun H locs hP hD hS => ?_)
  have hP : va_P D vwCl [(a, .inl (G.2.1, 25, .inr (.inl (vp_updL (vp_updL (vp_updL (vp_updL (vp_updL (vp_updL (vp_updL (vp_updL (vp_updL (vp_updL (vp_updL (vp_updL (vp_updL (vp_updL (vp_updL (vp_updL (vp_updL (vp_updL (vp_updL (vp_updL (vp_updL f 0 1) 1 0) 2 0) 3 0) 4 0) 5 0) 6 1) 7 0) 8 0) 9 0) 10 0) 11 0) 12 1) 13 0) 14 0) 15 0) 16 0) 17 0) 18 1) 19 0) 20 0))))] H := hP
  have hD : va_D A [(a, .inl (G.2.1, 25, .inr (.inl (vp_updL (vp_updL (vp_updL (vp_updL (vp_updL (vp_updL (vp_updL (vp_updL (vp_updL (vp_updL (vp_updL (vp_updL (vp_updL (vp_updL (vp_updL (vp_updL (vp_updL (vp_updL (vp_updL (vp_updL (vp_updL f 0 1) 1 0) 2 0) 3 0) 4 0) 5 0) 6 1) 7 0) 8 0) 9 0) 10 0) 11 0) 12 1) 13 0) 14 0) 15 0) 16 0) 17 0) 18 1) 19 0) 20 0))))] := hD
  refine lv_iinc (v := 21) (lv' := [(1, .int 21), (0, .ref a)]) hx hb dX12_nothing_23 hl (k := 0) rfl (by decide) (by decide) rfl (fun ls hl => ?_)
  refine lv_goto (tgt := 2) hx hb dX12_nothing_26 (by decide) ?_
  refine lv_iload_n hx hb dX12_nothing_2 rfl (lv_at hl 0 rfl) ?_
  refine lv_bipush (v := 25) hx hb dX12_nothing_3 (by decide) ?_
  refine lv_icmp_ge (tgt := 29) hx hb dX12_nothing_5 (by decide) (fun h9 => absurd h9 (by decide)) (fun _ => ?_)
  refine lv_aload_n hx hb dX12_nothing_8 rfl (lv_at hl 1 rfl) ?_
  refine lv_iload_n hx hb dX12_nothing_9 rfl (lv_at hl 0 rfl) ?_
  refine lv_iload_n hx hb dX12_nothing_10 rfl (lv_at hl 0 rfl) ?_
  refine lv_bipush (v := 6) hx hb dX12_nothing_11 (by decide) ?_
  refine lv_irem hx hb dX12_nothing_13 (by decide) ?_
  refine wk_i 3 (by decide) ?_
  refine lv_if_ne (tgt := 21) hx hb dX12_nothing_14 (by decide) (fun _ => ?_) (fun h9 => absurd h9 (by decide))
  refine lv_lconst (v := 0) hx hb dX12_nothing_21 (by decide) ?_
  refine va_last hx hb hK hP hD hS 0 1 rfl rfl (wk_in rfl) dX12_nothing_22 (fun H locs hP hD hS => ?_)
  have hP : va_P D vwCl [(a, .inl (G.2.1, 25, .inr (.inl (vp_updL (vp_updL (vp_updL (vp_updL (vp_updL (vp_updL (vp_updL (vp_updL (vp_updL (vp_updL (vp_updL (vp_updL (vp_updL (vp_updL (vp_updL (vp_updL (vp_updL (vp_updL (vp_updL (vp_updL (vp_updL (vp_updL f 0 1) 1 0) 2 0) 3 0) 4 0) 5 0) 6 1) 7 0) 8 0) 9 0) 10 0) 11 0) 12 1) 13 0) 14 0) 15 0) 16 0) 17 0) 18 1) 19 0) 20 0) 21 0))))] H := hP
  have hD : va_D A [(a, .inl (G.2.1, 25, .inr (.inl (vp_updL (vp_updL (vp_updL (vp_updL (vp_updL (vp_updL (vp_updL (vp_updL (vp_updL (vp_updL (vp_updL (vp_updL (vp_updL (vp_updL (vp_updL (vp_updL (vp_updL (vp_updL (vp_updL (vp_updL (vp_updL (vp_updL f 0 1) 1 0) 2 0) 3 0) 4 0) 5 0) 6 1) 7 0) 8 0) 9 0) 10 0) 11 0) 12 1) 13 0) 14 0) 15 0) 16 0) 17 0) 18 1) 19 0) 20 0) 21 0))))] := hD
  refine lv_iinc (v := 22) (lv' := [(1, .int 22), (0, .ref a)]) hx hb dX12_nothing_23 hl (k := 0) rfl (by decide) (by decide) rfl (fun ls hl => ?_)
  refine lv_goto (tgt := 2) hx hb dX12_nothing_26 (by decide) ?_
  refine lv_iload_n hx hb dX12_nothing_2 rfl (lv_at hl 0 rfl) ?_
  refine lv_bipush (v := 25) hx hb dX12_nothing_3 (by decide) ?_
  refine lv_icmp_ge (tgt := 29) hx hb dX12_nothing_5 (by decide) (fun h9 => absurd h9 (by decide)) (fun _ => ?_)
  refine lv_aload_n hx hb dX12_nothing_8 rfl (lv_at hl 1 rfl) ?_
  refine lv_iload_n hx hb dX12_nothing_9 rfl (lv_at hl 0 rfl) ?_
  refine lv_iload_n hx hb dX12_nothing_10 rfl (lv_at hl 0 rfl) ?_
  refine lv_bipush (v := 6) hx hb dX12_nothing_11 (by decide) ?_
  refine lv_irem hx hb dX12_nothing_13 (by decide) ?_
  refine wk_i 4 (by decide) ?_
  refine lv_if_ne (tgt := 21) hx hb dX12_nothing_14 (by decide) (fun _ => ?_) (fun h9 => absurd h9 (by decide))
  refine lv_lconst (v := 0) hx hb dX12_nothing_21 (by decide) ?_
  refine va_last hx hb hK hP hD hS 0 1 rfl rfl (wk_in rfl) dX12_nothing_22 (fun H locs hP hD hS => ?_)
  have hP : va_P D vwCl [(a, .inl (G.2.1, 25, .inr (.inl (vp_updL (vp_updL (vp_updL (vp_updL (vp_updL (vp_updL (vp_updL (vp_updL (vp_updL (vp_updL (vp_updL (vp_updL (vp_updL (vp_updL (vp_updL (vp_updL (vp_updL (vp_updL (vp_updL (vp_updL (vp_updL (vp_updL (vp_updL f 0 1) 1 0) 2 0) 3 0) 4 0) 5 0) 6 1) 7 0) 8 0) 9 0) 10 0) 11 0) 12 1) 13 0) 14 0) 15 0) 16 0) 17 0) 18 1) 19 0) 20 0) 21 0) 22 0))))] H := hP
  have hD : va_D A [(a, .inl (G.2.1, 25, .inr (.inl (vp_updL (vp_updL (vp_updL (vp_updL (vp_updL (vp_updL (vp_updL (vp_updL (vp_updL (vp_updL (vp_updL (vp_updL (vp_updL (vp_updL (vp_updL (vp_updL (vp_updL (vp_updL (vp_updL (vp_updL (vp_updL (vp_updL (vp_updL f 0 1) 1 0) 2 0) 3 0) 4 0) 5 0) 6 1) 7 0) 8 0) 9 0) 10 0) 11 0) 12 1) 13 0) 14 0) 15 0) 16 0) 17 0) 18 1) 19 0) 20 0) 21 0) 22 0))))] := hD
  refine lv_iinc (v := 23) (lv' := [(1, .int 23), (0, .ref a)]) hx hb dX12_nothing_23 hl (k := 0) rfl (by decide) (by decide) rfl (fun ls hl => ?_)
  refine lv_goto (tgt := 2) hx hb dX12_nothing_26 (by decide) ?_
  refine lv_iload_n hx hb dX12_nothing_2 rfl (lv_at hl 0 rfl) ?_
  refine lv_bipush (v := 25) hx hb dX12_nothing_3 (by decide) ?_
  refine lv_icmp_ge (tgt := 29) hx hb dX12_nothing_5 (by decide) (fun h9 => absurd h9 (by decide)) (fun _ => ?_)
  refine lv_aload_n hx hb dX12_nothing_8 rfl (lv_at hl 1 rfl) ?_
  refine lv_iload_n hx hb dX12_nothing_9 rfl (lv_at hl 0 rfl) ?_
  refine lv_iload_n hx hb dX12_nothing_10 rfl (lv_at hl 0 rfl) ?_
  refine lv_bipush (v := 6) hx hb dX12_nothing_11 (by decide) ?_
  refine lv_irem hx hb dX12_nothing_13 (by decide) ?_
  refine wk_i 5 (by decide) ?_
  refine lv_if_ne (tgt := 21) hx hb dX12_nothing_14 (by decide) (fun _ => ?_) (fun h9 => absurd h9 (by decide))
  refine lv_lconst (v := 0) hx hb dX12_nothing_21 (by decide) ?_
  refine va_last hx hb hK hP hD hS 0 1 rfl rfl (wk_in rfl) dX12_nothing_22 (fun H locs hP hD hS => ?_)
  have hP : va_P D vwCl [(a, .inl (G.2.1, 25, .inr (.inl (vp_updL (vp_updL (vp_updL (vp_updL (vp_updL (vp_updL (vp_updL (vp_updL (vp_updL (vp_updL (vp_updL (vp_updL (vp_updL (vp_updL (vp_updL (vp_updL (vp_updL (vp_updL (vp_updL (vp_updL (vp_updL (vp_updL (vp_updL (vp_updL f 0 1) 1 0) 2 0) 3 0) 4 0) 5 0) 6 1) 7 0) 8 0) 9 0) 10 0) 11 0) 12 1) 13 0) 14 0) 15 0) 16 0) 17 0) 18 1) 19 0) 20 0) 21 0) 22 0) 23 0))))] H := hP
  have hD : va_D A [(a, .inl (G.2.1, 25, .inr (.inl (vp_updL (vp_updL (vp_updL (vp_updL (vp_updL (vp_updL (vp_updL (vp_updL (vp_updL (vp_updL (vp_updL (vp_updL (vp_updL (vp_updL (vp_updL (vp_updL (vp_updL (vp_updL (vp_updL (vp_updL (vp_updL (vp_updL (vp_updL (vp_updL f 0 1) 1 0) 2 0) 3 0) 4 0) 5 0) 6 1) 7 0) 8 0) 9 0) 10 0) 11 0) 12 1) 13 0) 14 0) 15 0) 16 0) 17 0) 18 1) 19 0) 20 0) 21 0) 22 0) 23 0))))] := hD
  refine lv_iinc (v := 24) (lv' := [(1, .int 24), (0, .ref a)]) hx hb dX12_nothing_23 hl (k := 0) rfl (by decide) (by decide) rfl (fun ls hl => ?_)
  refine lv_goto (tgt := 2) hx hb dX12_nothing_26 (by decide) ?_
  refine lv_iload_n hx hb dX12_nothing_2 rfl (lv_at hl 0 rfl) ?_
  refine lv_bipush (v := 25) hx hb dX12_nothing_3 (by decide) ?_
  refine lv_icmp_ge (tgt := 29) hx hb dX12_nothing_5 (by decide) (fun h9 => absurd h9 (by decide)) (fun _ => ?_)
  refine lv_aload_n hx hb dX12_nothing_8 rfl (lv_at hl 1 rfl) ?_
  refine lv_iload_n hx hb dX12_nothing_9 rfl (lv_at hl 0 rfl) ?_
  refine lv_iload_n hx hb dX12_nothing_10 rfl (lv_at hl 0 rfl) ?_
  refine lv_bipush (v := 6) hx hb dX12_nothing_11 (by decide) ?_
  refine lv_irem hx hb dX12_nothing_13 (by decide) ?_
  refine wk_i 0 (by decide) ?_
  refine lv_if_ne (tgt := 21) hx hb dX12_nothing_14 (by decide) (fun h9 => absurd h9 (by decide)) (fun _ => ?_)
  refine lv_lconst (v := 1) hx hb dX12_nothing_17 (by decide) ?_
  refine lv_goto (tgt := 22) hx hb dX12_nothing_18 (by decide) ?_
  refine va_last hx hb hK hP hD hS 0 1 rfl rfl (wk_in rfl) dX12_nothing_22 (fun H locs hP hD hS => ?_)
  have hP : va_P D vwCl [(a, .inl (G.2.1, 25, .inr (.inl (vp_updL (vp_updL (vp_updL (vp_updL (vp_updL (vp_updL (vp_updL (vp_updL (vp_updL (vp_updL (vp_updL (vp_updL (vp_updL (vp_updL (vp_updL (vp_updL (vp_updL (vp_updL (vp_updL (vp_updL (vp_updL (vp_updL (vp_updL (vp_updL (vp_updL f 0 1) 1 0) 2 0) 3 0) 4 0) 5 0) 6 1) 7 0) 8 0) 9 0) 10 0) 11 0) 12 1) 13 0) 14 0) 15 0) 16 0) 17 0) 18 1) 19 0) 20 0) 21 0) 22 0) 23 0) 24 1))))] H := hP
  have hD : va_D A [(a, .inl (G.2.1, 25, .inr (.inl (vp_updL (vp_updL (vp_updL (vp_updL (vp_updL (vp_updL (vp_updL (vp_updL (vp_updL (vp_updL (vp_updL (vp_updL (vp_updL (vp_updL (vp_updL (vp_updL (vp_updL (vp_updL (vp_updL (vp_updL (vp_updL (vp_updL (vp_updL (vp_updL (vp_updL f 0 1) 1 0) 2 0) 3 0) 4 0) 5 0) 6 1) 7 0) 8 0) 9 0) 10 0) 11 0) 12 1) 13 0) 14 0) 15 0) 16 0) 17 0) 18 1) 19 0) 20 0) 21 0) 22 0) 23 0) 24 1))))] := hD
  refine lv_iinc (v := 25) (lv' := [(1, .int 25), (0, .ref a)]) hx hb dX12_nothing_23 hl (k := 0) rfl (by decide) (by decide) rfl (fun ls hl => ?_)
  refine lv_goto (tgt := 2) hx hb dX12_nothing_26 (by decide) ?_
  refine lv_iload_n hx hb dX12_nothing_2 rfl (lv_at hl 0 rfl) ?_
  refine lv_bipush (v := 25) hx hb dX12_nothing_3 (by decide) ?_
  refine lv_icmp_ge (tgt := 29) hx hb dX12_nothing_5 (by decide) (fun _ => ?_) (fun h9 => absurd h9 (by decide))
  have hPn : va_P D vwCl [(a, .inl (G.2.1, 25, .inr (.inl tIdn)))] H := wk_P hP (k := 0) rfl (wk_congL (fun j hj => by rcases (show j = 0 ∨ j = 1 ∨ j = 2 ∨ j = 3 ∨ j = 4 ∨ j = 5 ∨ j = 6 ∨ j = 7 ∨ j = 8 ∨ j = 9 ∨ j = 10 ∨ j = 11 ∨ j = 12 ∨ j = 13 ∨ j = 14 ∨ j = 15 ∨ j = 16 ∨ j = 17 ∨ j = 18 ∨ j = 19 ∨ j = 20 ∨ j = 21 ∨ j = 22 ∨ j = 23 ∨ j = 24 by omega) with rfl | rfl | rfl | rfl | rfl | rfl | rfl | rfl | rfl | rfl | rfl | rfl | rfl | rfl | rfl | rfl | rfl | rfl | rfl | rfl | rfl | rfl | rfl | rfl | rfl <;> rfl))
  have hDn : va_D A [(a, .inl (G.2.1, 25, .inr (.inl tIdn)))] := wk_D hD (k := 0) rfl
  clear hP hD
  have hP := hPn
  have hD := hDn
  clear hPn hDn
  have hP9 := hP.sub (ws' := [(a, .inl (G.2.1, 25, .inr (.inl tIdn)))]) [0] rfl
  have hD9 := hD.sub (ws' := [(a, .inl (G.2.1, 25, .inr (.inl tIdn)))]) [0] (by decide) rfl
  exact W.vret hx hb hr (fun t ht hW => ⟨⟨(), rfl, trivial, ⟨by rw [ht]; exact hP9, va_K.moved hW.alike hK, hD9⟩⟩, hS.F ht⟩) hS.2.2 dX12_nothing_29

theorem mX12_times_w0 : Cond.methodLink RX12 228 Lib.Math.abs.name ∈ wsX12_times := by decide +kernel
theorem mX12_times_w1 : Cond.static Lib.Math.abs.name ∈ wsX12_times := by decide +kernel
theorem mX12_times_w2 : Cond.initialized "java/lang/Math" ∈ wsX12_times := by decide +kernel
theorem mX12_times_w3 : Cond.code Lib.Math.abs.name Lib.Math.abs.code 1 (some .int) ∈ wsX12_times := by decide +kernel
theorem mX12_times_w4 : Cond.constantLong RX12 341 (999997) ∈ wsX12_times := by decide +kernel
theorem mX12_times_w5 : Cond.constantLong RX12 343 (7) ∈ wsX12_times := by decide +kernel
theorem mX12_times_w6 : Cond.constantLong RX12 339 (1000003) ∈ wsX12_times := by decide +kernel
theorem dX12_times_0 : decode cX12_times 0 = .ok (.iload_n 1, 1) := by decide +kernel
theorem dX12_times_1 : decode cX12_times 1 = .ok (.invokestatic 228, 3) := by decide +kernel
theorem dX12_times_4 : decode cX12_times 4 = .ok (.iconst 1, 1) := by decide +kernel
theorem dX12_times_5 : decode cX12_times 5 = .ok (.isub, 1) := by decide +kernel
theorem dX12_times_6 : decode cX12_times 6 = .ok (.istore 4, 2) := by decide +kernel
theorem dX12_times_8 : decode cX12_times 8 = .ok (.iconst 0, 1) := by decide +kernel
theorem dX12_times_9 : decode cX12_times 9 = .ok (.istore 5, 2) := by decide +kernel
theorem dX12_times_11 : decode cX12_times 11 = .ok (.iload 5, 2) := by decide +kernel
theorem dX12_times_13 : decode cX12_times 13 = .ok (.iconst 5, 1) := by decide +kernel
theorem dX12_times_14 : decode cX12_times 14 = .ok (.if_icmp .ge 115, 3) := by decide +kernel
theorem dX12_times_17 : decode cX12_times 17 = .ok (.aload_n 0, 1) := by decide +kernel
theorem dX12_times_18 : decode cX12_times 18 = .ok (.iconst 5, 1) := by decide +kernel
theorem dX12_times_19 : decode cX12_times 19 = .ok (.iload 5, 2) := by decide +kernel
theorem dX12_times_21 : decode cX12_times 21 = .ok (.imul, 1) := by decide +kernel
theorem dX12_times_22 : decode cX12_times 22 = .ok (.iload 4, 2) := by decide +kernel
theorem dX12_times_24 : decode cX12_times 24 = .ok (.iadd, 1) := by decide +kernel
theorem dX12_times_25 : decode cX12_times 25 = .ok (.laload, 1) := by decide +kernel
theorem dX12_times_26 : decode cX12_times 26 = .ok (.lstore 6, 2) := by decide +kernel
theorem dX12_times_28 : decode cX12_times 28 = .ok (.aload_n 0, 1) := by decide +kernel
theorem dX12_times_29 : decode cX12_times 29 = .ok (.iconst 5, 1) := by decide +kernel
theorem dX12_times_30 : decode cX12_times 30 = .ok (.iload 5, 2) := by decide +kernel
theorem dX12_times_32 : decode cX12_times 32 = .ok (.imul, 1) := by decide +kernel
theorem dX12_times_33 : decode cX12_times 33 = .ok (.iload 4, 2) := by decide +kernel
theorem dX12_times_35 : decode cX12_times 35 = .ok (.iadd, 1) := by decide +kernel
theorem dX12_times_36 : decode cX12_times 36 = .ok (.iconst 1, 1) := by decide +kernel
theorem dX12_times_37 : decode cX12_times 37 = .ok (.iadd, 1) := by decide +kernel
theorem dX12_times_38 : decode cX12_times 38 = .ok (.laload, 1) := by decide +kernel
theorem dX12_times_39 : decode cX12_times 39 = .ok (.lstore 8, 2) := by decide +kernel
theorem dX12_times_41 : decode cX12_times 41 = .ok (.iload_n 1, 1) := by decide +kernel
theorem dX12_times_42 : decode cX12_times 42 = .ok (.ifCond .le 15, 3) := by decide +kernel
theorem dX12_times_45 : decode cX12_times 45 = .ok (.lload 6, 2) := by decide +kernel
theorem dX12_times_47 : decode cX12_times 47 = .ok (.ldc2_w 341, 3) := by decide +kernel
theorem dX12_times_50 : decode cX12_times 50 = .ok (.lmul, 1) := by decide +kernel
theorem dX12_times_51 : decode cX12_times 51 = .ok (.lload 8, 2) := by decide +kernel
theorem dX12_times_53 : decode cX12_times 53 = .ok (.ladd, 1) := by decide +kernel
theorem dX12_times_54 : decode cX12_times 54 = .ok (.goto 7, 3) := by decide +kernel
theorem dX12_times_61 : decode cX12_times 61 = .ok (.lstore 10, 2) := by decide +kernel
theorem dX12_times_63 : decode cX12_times 63 = .ok (.iload_n 1, 1) := by decide +kernel
theorem dX12_times_64 : decode cX12_times 64 = .ok (.ifCond .le 12, 3) := by decide +kernel
theorem dX12_times_67 : decode cX12_times 67 = .ok (.lload 6, 2) := by decide +kernel
theorem dX12_times_69 : decode cX12_times 69 = .ok (.ldc2_w 343, 3) := by decide +kernel
theorem dX12_times_72 : decode cX12_times 72 = .ok (.lmul, 1) := by decide +kernel
theorem dX12_times_73 : decode cX12_times 73 = .ok (.goto 16, 3) := by decide +kernel
theorem dX12_times_89 : decode cX12_times 89 = .ok (.lstore 12, 2) := by decide +kernel
theorem dX12_times_91 : decode cX12_times 91 = .ok (.aload_n 0, 1) := by decide +kernel
theorem dX12_times_92 : decode cX12_times 92 = .ok (.iconst 5, 1) := by decide +kernel
theorem dX12_times_93 : decode cX12_times 93 = .ok (.iload 5, 2) := by decide +kernel
theorem dX12_times_95 : decode cX12_times 95 = .ok (.imul, 1) := by decide +kernel
theorem dX12_times_96 : decode cX12_times 96 = .ok (.iload 4, 2) := by decide +kernel
theorem dX12_times_98 : decode cX12_times 98 = .ok (.iadd, 1) := by decide +kernel
theorem dX12_times_99 : decode cX12_times 99 = .ok (.lload 10, 2) := by decide +kernel
theorem dX12_times_101 : decode cX12_times 101 = .ok (.ldc2_w 339, 3) := by decide +kernel
theorem dX12_times_104 : decode cX12_times 104 = .ok (.lrem, 1) := by decide +kernel
theorem dX12_times_105 : decode cX12_times 105 = .ok (.lastore, 1) := by decide +kernel
theorem dX12_times_106 : decode cX12_times 106 = .ok (.aload_n 0, 1) := by decide +kernel
theorem dX12_times_107 : decode cX12_times 107 = .ok (.iconst 5, 1) := by decide +kernel
theorem dX12_times_108 : decode cX12_times 108 = .ok (.iload 5, 2) := by decide +kernel
theorem dX12_times_110 : decode cX12_times 110 = .ok (.imul, 1) := by decide +kernel
theorem dX12_times_111 : decode cX12_times 111 = .ok (.iload 4, 2) := by decide +kernel
theorem dX12_times_113 : decode cX12_times 113 = .ok (.iadd, 1) := by decide +kernel
theorem dX12_times_114 : decode cX12_times 114 = .ok (.iconst 1, 1) := by decide +kernel
theorem dX12_times_115 : decode cX12_times 115 = .ok (.iadd, 1) := by decide +kernel
theorem dX12_times_116 : decode cX12_times 116 = .ok (.lload 12, 2) := by decide +kernel
theorem dX12_times_118 : decode cX12_times 118 = .ok (.ldc2_w 339, 3) := by decide +kernel
theorem dX12_times_121 : decode cX12_times 121 = .ok (.lrem, 1) := by decide +kernel
theorem dX12_times_122 : decode cX12_times 122 = .ok (.lastore, 1) := by decide +kernel
theorem dX12_times_123 : decode cX12_times 123 = .ok (.iinc 5 1, 3) := by decide +kernel
theorem dX12_times_126 : decode cX12_times 126 = .ok (.goto (-115), 3) := by decide +kernel
theorem dX12_times_129 : decode cX12_times 129 = .ok (.return_, 1) := by decide +kernel
set_option maxHeartbeats 4000000 in
set_option maxRecDepth 100000 in
/-- X12_times -/
theorem kX12_times_1 (l : Launch) (D : va_G) (G : tyG) (a : Nat) (f : Nat → Int64) (sz : Nat) : Met l yX12_times wsX12_times ({ frames := 1, cells := 0, slots := 0, locals := 32 }) (va_Pc [.ref a, .int 1, .long 714288] (wB D G sz [(a, .inl (G.2.1, 25, .inr (.inl f)))])) (va_Qv (fun _ : Unit => True) (fun _ t => ∃ (g9 : Nat → Int64), wS D G (va_A [(a, .inl (G.2.1, 25, .inr (.inl f)))] sz) [(a, .inl (G.2.1, 25, .inr (.inl g9)))] t) (va_A [(a, .inl (G.2.1, 25, .inr (.inl f)))] sz)) 0 0 (va_A [(a, .inl (G.2.1, 25, .inr (.inl f)))] sz) := by
  refine Met.ofW (cc := cX12_times) (maxL := 14) (ret := none) (by decide) rfl ?_
  intro p e s m args below meth c s₁ B hml hv
  obtain ⟨rfl, hsz, hP, hK, hD0, hN⟩ := hv
  have hx := B.exec
  have hb := B.bytes
  have hr := B.returns
  have hts := atoms_spec (ws := wsX12_times) B.pre
  have hown : s.vm.findClass RX12 = some m.cls := findClass_of_methodNamed B.named
  have hlocks := B.notSynchronized
  subst hsz
  have hD := hD0.self (sz := s.heap.size)
  generalize hAe : va_A [(a, .inl (G.2.1, 25, .inr (.inl f)))] s.heap.size = A at hD ⊢
  have hA : ∀ q : Nat, s.heap.size ≤ q → A q := fun q h => by rw [← hAe]; exact Or.inr h
  have hS : va_S A s.heap s.heap [] := va_S.rf
  have hP : va_P D vwCl [(a, .inl (G.2.1, 25, .inr (.inl f)))] s.heap := hP
  have hl := lv_entry ([.ref a, .int 1, .long 714288]) (n := 14) (Nat.le_of_ble_eq_true rfl)
  rw [lg_entry_eq]
  generalize (lg_sl ([.ref a, .int 1, .long 714288]) ++ List.replicate (14 - (lg_sl ([.ref a, .int 1, .long 714288])).length) Slot.unset).toArray = ls at hl ⊢
  have hl : lv_has ls 14 [(0, .ref a), (1, .int 1), (2, .long 714288)] := hl
  refine lv_iload_n hx hb dX12_times_0 rfl (lv_at hl 1 rfl) ?_
  refine va_mabs hx hb (by rw [hml]; exact hl.1.symm) hown (hts (.methodLink RX12 228 Lib.Math.abs.name) mX12_times_w0) (hts (.static Lib.Math.abs.name) mX12_times_w1) (hts (.initialized "java/lang/Math") mX12_times_w2) (hts (.code Lib.Math.abs.name Lib.Math.abs.code 1 (some .int)) mX12_times_w3) (Nat.le_of_ble_eq_true rfl) (Nat.le_of_ble_eq_true rfl) (Nat.le_of_ble_eq_true rfl) (Nat.le_of_ble_eq_true rfl) dX12_times_1 ?_
  refine wk_i 1 (by decide) ?_
  refine lv_iconst (v := 1) hx hb dX12_times_4 (by decide) ?_
  refine lv_isub hx hb dX12_times_5 ?_
  refine wk_i 0 (by decide) ?_
  refine lv_istore (lv' := [(4, .int 0), (0, .ref a), (1, .int 1), (2, .long 714288)]) hx hb dX12_times_6 hl (by decide) rfl (fun ls hl => ?_)
  refine lv_iconst (v := 0) hx hb dX12_times_8 (by decide) ?_
  refine lv_istore (lv' := [(5, .int 0), (4, .int 0), (0, .ref a), (1, .int 1), (2, .long 714288)]) hx hb dX12_times_9 hl (by decide) rfl (fun ls hl => ?_)
  refine lv_iload hx hb dX12_times_11 (lv_at hl 0 rfl) ?_
  refine lv_iconst (v := 5) hx hb dX12_times_13 (by decide) ?_
  refine lv_icmp_ge (tgt := 129) hx hb dX12_times_14 (by decide) (fun h9 => absurd h9 (by decide)) (fun _ => ?_)
  refine lv_aload_n hx hb dX12_times_17 rfl (lv_at hl 2 rfl) ?_
  refine lv_iconst (v := 5) hx hb dX12_times_18 (by decide) ?_
  refine lv_iload hx hb dX12_times_19 (lv_at hl 0 rfl) ?_
  refine lv_imul hx hb dX12_times_21 ?_
  refine wk_i 0 (by decide) ?_
  refine lv_iload hx hb dX12_times_22 (lv_at hl 1 rfl) ?_
  refine lv_iadd hx hb dX12_times_24 ?_
  refine wk_i 0 (by decide) ?_
  refine va_lald hx hb hK hP 0 1 rfl rfl (wk_in rfl) dX12_times_25 ?_
  refine lv_topl (fun w1 ew1 => ?_)
  refine lv_lstore (lv' := [(6, .long w1), (5, .int 0), (4, .int 0), (0, .ref a), (1, .int 1), (2, .long 714288)]) hx hb dX12_times_26 hl (by decide) rfl (fun ls hl => ?_)
  refine lv_aload_n hx hb dX12_times_28 rfl (lv_at hl 3 rfl) ?_
  refine lv_iconst (v := 5) hx hb dX12_times_29 (by decide) ?_
  refine lv_iload hx hb dX12_times_30 (lv_at hl 1 rfl) ?_
  refine lv_imul hx hb dX12_times_32 ?_
  refine wk_i 0 (by decide) ?_
  refine lv_iload hx hb dX12_times_33 (lv_at hl 2 rfl) ?_
  refine lv_iadd hx hb dX12_times_35 ?_
  refine wk_i 0 (by decide) ?_
  refine lv_iconst (v := 1) hx hb dX12_times_36 (by decide) ?_
  refine lv_iadd hx hb dX12_times_37 ?_
  refine wk_i 1 (by decide) ?_
  refine va_lald hx hb hK hP 0 1 rfl rfl (wk_in rfl) dX12_times_38 ?_
  refine lv_topl (fun w2 ew2 => ?_)
  refine lv_lstore (lv' := [(8, .long w2), (6, .long w1), (5, .int 0), (4, .int 0), (0, .ref a), (1, .int 1), (2, .long 714288)]) hx hb dX12_times_39 hl (by decide) rfl (fun ls hl => ?_)
  refine lv_iload_n hx hb dX12_times_41 rfl (lv_at hl 5 rfl) ?_
  refine lv_if_le (tgt := 57) hx hb dX12_times_42 (by decide) (fun h9 => absurd h9 (by decide)) (fun _ => ?_)
  refine lv_lload hx hb dX12_times_45 (lv_at hl 1 rfl) ?_
  refine lv_ldc2 (v := 999997) hx hb hown (hts (.constantLong RX12 341 (999997)) mX12_times_w4) dX12_times_47 ?_
  refine lv_lmul hx hb dX12_times_50 ?_
  refine lv_topl (fun w3 ew3 => ?_)
  refine lv_lload hx hb dX12_times_51 (lv_at hl 0 rfl) ?_
  refine lv_ladd hx hb dX12_times_53 ?_
  refine lv_topl (fun w4 ew4 => ?_)
  refine lv_goto (tgt := 61) hx hb dX12_times_54 (by decide) ?_
  refine lv_lstore (lv' := [(10, .long w4), (8, .long w2), (6, .long w1), (5, .int 0), (4, .int 0), (0, .ref a), (1, .int 1), (2, .long 714288)]) hx hb dX12_times_61 hl (by decide) rfl (fun ls hl => ?_)
  refine lv_iload_n hx hb dX12_times_63 rfl (lv_at hl 6 rfl) ?_
  refine lv_if_le (tgt := 76) hx hb dX12_times_64 (by decide) (fun h9 => absurd h9 (by decide)) (fun _ => ?_)
  refine lv_lload hx hb dX12_times_67 (lv_at hl 2 rfl) ?_
  refine lv_ldc2 (v := 7) hx hb hown (hts (.constantLong RX12 343 (7)) mX12_times_w5) dX12_times_69 ?_
  refine lv_lmul hx hb dX12_times_72 ?_
  refine lv_topl (fun w5 ew5 => ?_)
  refine lv_goto (tgt := 89) hx hb dX12_times_73 (by decide) ?_
  refine lv_lstore (lv' := [(12, .long w5), (10, .long w4), (8, .long w2), (6, .long w1), (5, .int 0), (4, .int 0), (0, .ref a), (1, .int 1), (2, .long 714288)]) hx hb dX12_times_89 hl (by decide) rfl (fun ls hl => ?_)
  refine lv_aload_n hx hb dX12_times_91 rfl (lv_at hl 6 rfl) ?_
  refine lv_iconst (v := 5) hx hb dX12_times_92 (by decide) ?_
  refine lv_iload hx hb dX12_times_93 (lv_at hl 4 rfl) ?_
  refine lv_imul hx hb dX12_times_95 ?_
  refine wk_i 0 (by decide) ?_
  refine lv_iload hx hb dX12_times_96 (lv_at hl 5 rfl) ?_
  refine lv_iadd hx hb dX12_times_98 ?_
  refine wk_i 0 (by decide) ?_
  refine lv_lload hx hb dX12_times_99 (lv_at hl 1 rfl) ?_
  refine lv_ldc2 (v := 1000003) hx hb hown (hts (.constantLong RX12 339 (1000003)) mX12_times_w6) dX12_times_101 ?_
  refine lv_lrem hx hb dX12_times_104 (by decide) ?_
  refine lv_topl (fun w6 ew6 => ?_)
  refine va_last hx hb hK hP hD hS 0 1 rfl rfl (wk_in rfl) dX12_times_105 (fun H locs hP hD hS => ?_)
  have hP : va_P D vwCl [(a, .inl (G.2.1, 25, .inr (.inl (vp_updL f 0 w6))))] H := hP
  have hD : va_D A [(a, .inl (G.2.1, 25, .inr (.inl (vp_updL f 0 w6))))] := hD
  refine lv_aload_n hx hb dX12_times_106 rfl (lv_at hl 6 rfl) ?_
  refine lv_iconst (v := 5) hx hb dX12_times_107 (by decide) ?_
  refine lv_iload hx hb dX12_times_108 (lv_at hl 4 rfl) ?_
  refine lv_imul hx hb dX12_times_110 ?_
  refine wk_i 0 (by decide) ?_
  refine lv_iload hx hb dX12_times_111 (lv_at hl 5 rfl) ?_
  refine lv_iadd hx hb dX12_times_113 ?_
  refine wk_i 0 (by decide) ?_
  refine lv_iconst (v := 1) hx hb dX12_times_114 (by decide) ?_
  refine lv_iadd hx hb dX12_times_115 ?_
  refine wk_i 1 (by decide) ?_
  refine lv_lload hx hb dX12_times_116 (lv_at hl 0 rfl) ?_
  refine lv_ldc2 (v := 1000003) hx hb hown (hts (.constantLong RX12 339 (1000003)) mX12_times_w6) dX12_times_118 ?_
  refine lv_lrem hx hb dX12_times_121 (by decide) ?_
  refine lv_topl (fun w7 ew7 => ?_)
  refine va_last hx hb hK hP hD hS 0 1 rfl rfl (wk_in rfl) dX12_times_122 (fun H locs hP hD hS => ?_)
  have hP : va_P D vwCl [(a, .inl (G.2.1, 25, .inr (.inl (vp_updL (vp_updL f 0 w6) 1 w7))))] H := hP
  have hD : va_D A [(a, .inl (G.2.1, 25, .inr (.inl (vp_updL (vp_updL f 0 w6) 1 w7))))] := hD
  refine lv_iinc (v := 1) (lv' := [(5, .int 1), (12, .long w5), (10, .long w4), (8, .long w2), (6, .long w1), (4, .int 0), (0, .ref a), (1, .int 1), (2, .long 714288)]) hx hb dX12_times_123 hl (k := 4) rfl (by decide) (by decide) rfl (fun ls hl => ?_)
  refine lv_goto (tgt := 11) hx hb dX12_times_126 (by decide) ?_
  refine lv_iload hx hb dX12_times_11 (lv_at hl 0 rfl) ?_
  refine lv_iconst (v := 5) hx hb dX12_times_13 (by decide) ?_
  refine lv_icmp_ge (tgt := 129) hx hb dX12_times_14 (by decide) (fun h9 => absurd h9 (by decide)) (fun _ => ?_)
  refine lv_aload_n hx hb dX12_times_17 rfl (lv_at hl 6 rfl) ?_
  refine lv_iconst (v := 5) hx hb dX12_times_18 (by decide) ?_
  refine lv_iload hx hb dX12_times_19 (lv_at hl 0 rfl) ?_
  refine lv_imul hx hb dX12_times_21 ?_
  refine wk_i 5 (by decide) ?_
  refine lv_iload hx hb dX12_times_22 (lv_at hl 5 rfl) ?_
  refine lv_iadd hx hb dX12_times_24 ?_
  refine wk_i 5 (by decide) ?_
  refine va_lald hx hb hK hP 0 1 rfl rfl (wk_in rfl) dX12_times_25 ?_
  refine lv_topl (fun w8 ew8 => ?_)
  refine lv_lstore (lv' := [(6, .long w8), (5, .int 1), (12, .long w5), (10, .long w4), (8, .long w2), (4, .int 0), (0, .ref a), (1, .int 1), (2, .long 714288)]) hx hb dX12_times_26 hl (by decide) rfl (fun ls hl => ?_)
  refine lv_aload_n hx hb dX12_times_28 rfl (lv_at hl 6 rfl) ?_
  refine lv_iconst (v := 5) hx hb dX12_times_29 (by decide) ?_
  refine lv_iload hx hb dX12_times_30 (lv_at hl 1 rfl) ?_
  refine lv_imul hx hb dX12_times_32 ?_
  refine wk_i 5 (by decide) ?_
  refine lv_iload hx hb dX12_times_33 (lv_at hl 5 rfl) ?_
  refine lv_iadd hx hb dX12_times_35 ?_
  refine wk_i 5 (by decide) ?_
  refine lv_iconst (v := 1) hx hb dX12_times_36 (by decide) ?_
  refine lv_iadd hx hb dX12_times_37 ?_
  refine wk_i 6 (by decide) ?_
  refine va_lald hx hb hK hP 0 1 rfl rfl (wk_in rfl) dX12_times_38 ?_
  refine lv_topl (fun w9 ew9 => ?_)
  refine lv_lstore (lv' := [(8, .long w9), (6, .long w8), (5, .int 1), (12, .long w5), (10, .long w4), (4, .int 0), (0, .ref a), (1, .int 1), (2, .long 714288)]) hx hb dX12_times_39 hl (by decide) rfl (fun ls hl => ?_)
  refine lv_iload_n hx hb dX12_times_41 rfl (lv_at hl 7 rfl) ?_
  refine lv_if_le (tgt := 57) hx hb dX12_times_42 (by decide) (fun h9 => absurd h9 (by decide)) (fun _ => ?_)
  refine lv_lload hx hb dX12_times_45 (lv_at hl 1 rfl) ?_
  refine lv_ldc2 (v := 999997) hx hb hown (hts (.constantLong RX12 341 (999997)) mX12_times_w4) dX12_times_47 ?_
  refine lv_lmul hx hb dX12_times_50 ?_
  refine lv_topl (fun w10 ew10 => ?_)
  refine lv_lload hx hb dX12_times_51 (lv_at hl 0 rfl) ?_
  refine lv_ladd hx hb dX12_times_53 ?_
  refine lv_topl (fun w11 ew11 => ?_)
  refine lv_goto (tgt := 61) hx hb dX12_times_54 (by decide) ?_
  refine lv_lstore (lv' := [(10, .long w11), (8, .long w9), (6, .long w8), (5, .int 1), (12, .long w5), (4, .int 0), (0, .ref a), (1, .int 1), (2, .long 714288)]) hx hb dX12_times_61 hl (by decide) rfl (fun ls hl => ?_)
  refine lv_iload_n hx hb dX12_times_63 rfl (lv_at hl 7 rfl) ?_
  refine lv_if_le (tgt := 76) hx hb dX12_times_64 (by decide) (fun h9 => absurd h9 (by decide)) (fun _ => ?_)
  refine lv_lload hx hb dX12_times_67 (lv_at hl 2 rfl) ?_
  refine lv_ldc2 (v := 7) hx hb hown (hts (.constantLong RX12 343 (7)) mX12_times_w5) dX12_times_69 ?_
  refine lv_lmul hx hb dX12_times_72 ?_
  refine lv_topl (fun w12 ew12 => ?_)
  refine lv_goto (tgt := 89) hx hb dX12_times_73 (by decide) ?_
  refine lv_lstore (lv' := [(12, .long w12), (10, .long w11), (8, .long w9), (6, .long w8), (5, .int 1), (4, .int 0), (0, .ref a), (1, .int 1), (2, .long 714288)]) hx hb dX12_times_89 hl (by decide) rfl (fun ls hl => ?_)
  refine lv_aload_n hx hb dX12_times_91 rfl (lv_at hl 6 rfl) ?_
  refine lv_iconst (v := 5) hx hb dX12_times_92 (by decide) ?_
  refine lv_iload hx hb dX12_times_93 (lv_at hl 4 rfl) ?_
  refine lv_imul hx hb dX12_times_95 ?_
  refine wk_i 5 (by decide) ?_
  refine lv_iload hx hb dX12_times_96 (lv_at hl 5 rfl) ?_
  refine lv_iadd hx hb dX12_times_98 ?_
  refine wk_i 5 (by decide) ?_
  refine lv_lload hx hb dX12_times_99 (lv_at hl 1 rfl) ?_
  refine lv_ldc2 (v := 1000003) hx hb hown (hts (.constantLong RX12 339 (1000003)) mX12_times_w6) dX12_times_101 ?_
  refine lv_lrem hx hb dX12_times_104 (by decide) ?_
  refine lv_topl (fun w13 ew13 => ?_)
  refine va_last hx hb hK hP hD hS 0 1 rfl rfl (wk_in rfl) dX12_times_105 (fun H locs hP hD hS => ?_)
  have hP : va_P D vwCl [(a, .inl (G.2.1, 25, .inr (.inl (vp_updL (vp_updL (vp_updL f 0 w6) 1 w7) 5 w13))))] H := hP
  have hD : va_D A [(a, .inl (G.2.1, 25, .inr (.inl (vp_updL (vp_updL (vp_updL f 0 w6) 1 w7) 5 w13))))] := hD
  refine lv_aload_n hx hb dX12_times_106 rfl (lv_at hl 6 rfl) ?_
  refine lv_iconst (v := 5) hx hb dX12_times_107 (by decide) ?_
  refine lv_iload hx hb dX12_times_108 (lv_at hl 4 rfl) ?_
  refine lv_imul hx hb dX12_times_110 ?_
  refine wk_i 5 (by decide) ?_
  refine lv_iload hx hb dX12_times_111 (lv_at hl 5 rfl) ?_
  refine lv_iadd hx hb dX12_times_113 ?_
  refine wk_i 5 (by decide) ?_
  refine lv_iconst (v := 1) hx hb dX12_times_114 (by decide) ?_
  refine lv_iadd hx hb dX12_times_115 ?_
  refine wk_i 6 (by decide) ?_
  refine lv_lload hx hb dX12_times_116 (lv_at hl 0 rfl) ?_
  refine lv_ldc2 (v := 1000003) hx hb hown (hts (.constantLong RX12 339 (1000003)) mX12_times_w6) dX12_times_118 ?_
  refine lv_lrem hx hb dX12_times_121 (by decide) ?_
  refine lv_topl (fun w14 ew14 => ?_)
  refine va_last hx hb hK hP hD hS 0 1 rfl rfl (wk_in rfl) dX12_times_122 (fun H locs hP hD hS => ?_)
  have hP : va_P D vwCl [(a, .inl (G.2.1, 25, .inr (.inl (vp_updL (vp_updL (vp_updL (vp_updL f 0 w6) 1 w7) 5 w13) 6 w14))))] H := hP
  have hD : va_D A [(a, .inl (G.2.1, 25, .inr (.inl (vp_updL (vp_updL (vp_updL (vp_updL f 0 w6) 1 w7) 5 w13) 6 w14))))] := hD
  refine lv_iinc (v := 2) (lv' := [(5, .int 2), (12, .long w12), (10, .long w11), (8, .long w9), (6, .long w8), (4, .int 0), (0, .ref a), (1, .int 1), (2, .long 714288)]) hx hb dX12_times_123 hl (k := 4) rfl (by decide) (by decide) rfl (fun ls hl => ?_)
  refine lv_goto (tgt := 11) hx hb dX12_times_126 (by decide) ?_
  refine lv_iload hx hb dX12_times_11 (lv_at hl 0 rfl) ?_
  refine lv_iconst (v := 5) hx hb dX12_times_13 (by decide) ?_
  refine lv_icmp_ge (tgt := 129) hx hb dX12_times_14 (by decide) (fun h9 => absurd h9 (by decide)) (fun _ => ?_)
  refine lv_aload_n hx hb dX12_times_17 rfl (lv_at hl 6 rfl) ?_
  refine lv_iconst (v := 5) hx hb dX12_times_18 (by decide) ?_
  refine lv_iload hx hb dX12_times_19 (lv_at hl 0 rfl) ?_
  refine lv_imul hx hb dX12_times_21 ?_
  refine wk_i 10 (by decide) ?_
  refine lv_iload hx hb dX12_times_22 (lv_at hl 5 rfl) ?_
  refine lv_iadd hx hb dX12_times_24 ?_
  refine wk_i 10 (by decide) ?_
  refine va_lald hx hb hK hP 0 1 rfl rfl (wk_in rfl) dX12_times_25 ?_
  refine lv_topl (fun w15 ew15 => ?_)
  refine lv_lstore (lv' := [(6, .long w15), (5, .int 2), (12, .long w12), (10, .long w11), (8, .long w9), (4, .int 0), (0, .ref a), (1, .int 1), (2, .long 714288)]) hx hb dX12_times_26 hl (by decide) rfl (fun ls hl => ?_)
  refine lv_aload_n hx hb dX12_times_28 rfl (lv_at hl 6 rfl) ?_
  refine lv_iconst (v := 5) hx hb dX12_times_29 (by decide) ?_
  refine lv_iload hx hb dX12_times_30 (lv_at hl 1 rfl) ?_
  refine lv_imul hx hb dX12_times_32 ?_
  refine wk_i 10 (by decide) ?_
  refine lv_iload hx hb dX12_times_33 (lv_at hl 5 rfl) ?_
  refine lv_iadd hx hb dX12_times_35 ?_
  refine wk_i 10 (by decide) ?_
  refine lv_iconst (v := 1) hx hb dX12_times_36 (by decide) ?_
  refine lv_iadd hx hb dX12_times_37 ?_
  refine wk_i 11 (by decide) ?_
  refine va_lald hx hb hK hP 0 1 rfl rfl (wk_in rfl) dX12_times_38 ?_
  refine lv_topl (fun w16 ew16 => ?_)
  refine lv_lstore (lv' := [(8, .long w16), (6, .long w15), (5, .int 2), (12, .long w12), (10, .long w11), (4, .int 0), (0, .ref a), (1, .int 1), (2, .long 714288)]) hx hb dX12_times_39 hl (by decide) rfl (fun ls hl => ?_)
  refine lv_iload_n hx hb dX12_times_41 rfl (lv_at hl 7 rfl) ?_
  refine lv_if_le (tgt := 57) hx hb dX12_times_42 (by decide) (fun h9 => absurd h9 (by decide)) (fun _ => ?_)
  refine lv_lload hx hb dX12_times_45 (lv_at hl 1 rfl) ?_
  refine lv_ldc2 (v := 999997) hx hb hown (hts (.constantLong RX12 341 (999997)) mX12_times_w4) dX12_times_47 ?_
  refine lv_lmul hx hb dX12_times_50 ?_
  refine lv_topl (fun w17 ew17 => ?_)
  refine lv_lload hx hb dX12_times_51 (lv_at hl 0 rfl) ?_
  refine lv_ladd hx hb dX12_times_53 ?_
  refine lv_topl (fun w18 ew18 => ?_)
  refine lv_goto (tgt := 61) hx hb dX12_times_54 (by decide) ?_
  refine lv_lstore (lv' := [(10, .long w18), (8, .long w16), (6, .long w15), (5, .int 2), (12, .long w12), (4, .int 0), (0, .ref a), (1, .int 1), (2, .long 714288)]) hx hb dX12_times_61 hl (by decide) rfl (fun ls hl => ?_)
  refine lv_iload_n hx hb dX12_times_63 rfl (lv_at hl 7 rfl) ?_
  refine lv_if_le (tgt := 76) hx hb dX12_times_64 (by decide) (fun h9 => absurd h9 (by decide)) (fun _ => ?_)
  refine lv_lload hx hb dX12_times_67 (lv_at hl 2 rfl) ?_
  refine lv_ldc2 (v := 7) hx hb hown (hts (.constantLong RX12 343 (7)) mX12_times_w5) dX12_times_69 ?_
  refine lv_lmul hx hb dX12_times_72 ?_
  refine lv_topl (fun w19 ew19 => ?_)
  refine lv_goto (tgt := 89) hx hb dX12_times_73 (by decide) ?_
  refine lv_lstore (lv' := [(12, .long w19), (10, .long w18), (8, .long w16), (6, .long w15), (5, .int 2), (4, .int 0), (0, .ref a), (1, .int 1), (2, .long 714288)]) hx hb dX12_times_89 hl (by decide) rfl (fun ls hl => ?_)
  refine lv_aload_n hx hb dX12_times_91 rfl (lv_at hl 6 rfl) ?_
  refine lv_iconst (v := 5) hx hb dX12_times_92 (by decide) ?_
  refine lv_iload hx hb dX12_times_93 (lv_at hl 4 rfl) ?_
  refine lv_imul hx hb dX12_times_95 ?_
  refine wk_i 10 (by decide) ?_
  refine lv_iload hx hb dX12_times_96 (lv_at hl 5 rfl) ?_
  refine lv_iadd hx hb dX12_times_98 ?_
  refine wk_i 10 (by decide) ?_
  refine lv_lload hx hb dX12_times_99 (lv_at hl 1 rfl) ?_
  refine lv_ldc2 (v := 1000003) hx hb hown (hts (.constantLong RX12 339 (1000003)) mX12_times_w6) dX12_times_101 ?_
  refine lv_lrem hx hb dX12_times_104 (by decide) ?_
  refine lv_topl (fun w20 ew20 => ?_)
  refine va_last hx hb hK hP hD hS 0 1 rfl rfl (wk_in rfl) dX12_times_105 (fun H locs hP hD hS => ?_)
  have hP : va_P D vwCl [(a, .inl (G.2.1, 25, .inr (.inl (vp_updL (vp_updL (vp_updL (vp_updL (vp_updL f 0 w6) 1 w7) 5 w13) 6 w14) 10 w20))))] H := hP
  have hD : va_D A [(a, .inl (G.2.1, 25, .inr (.inl (vp_updL (vp_updL (vp_updL (vp_updL (vp_updL f 0 w6) 1 w7) 5 w13) 6 w14) 10 w20))))] := hD
  refine lv_aload_n hx hb dX12_times_106 rfl (lv_at hl 6 rfl) ?_
  refine lv_iconst (v := 5) hx hb dX12_times_107 (by decide) ?_
  refine lv_iload hx hb dX12_times_108 (lv_at hl 4 rfl) ?_
  refine lv_imul hx hb dX12_times_110 ?_
  refine wk_i 10 (by decide) ?_
  refine lv_iload hx hb dX12_times_111 (lv_at hl 5 rfl) ?_
  refine lv_iadd hx hb dX12_times_113 ?_
  refine wk_i 10 (by decide) ?_
  refine lv_iconst (v := 1) hx hb dX12_times_114 (by decide) ?_
  refine lv_iadd hx hb dX12_times_115 ?_
  refine wk_i 11 (by decide) ?_
  refine lv_lload hx hb dX12_times_116 (lv_at hl 0 rfl) ?_
  refine lv_ldc2 (v := 1000003) hx hb hown (hts (.constantLong RX12 339 (1000003)) mX12_times_w6) dX12_times_118 ?_
  refine lv_lrem hx hb dX12_times_121 (by decide) ?_
  refine lv_topl (fun w21 ew21 => ?_)
  refine va_last hx hb hK hP hD hS 0 1 rfl rfl (wk_in rfl) dX12_times_122 (fun H locs hP hD hS => ?_)
  have hP : va_P D vwCl [(a, .inl (G.2.1, 25, .inr (.inl (vp_updL (vp_updL (vp_updL (vp_updL (vp_updL (vp_updL f 0 w6) 1 w7) 5 w13) 6 w14) 10 w20) 11 w21))))] H := hP
  have hD : va_D A [(a, .inl (G.2.1, 25, .inr (.inl (vp_updL (vp_updL (vp_updL (vp_updL (vp_updL (vp_updL f 0 w6) 1 w7) 5 w13) 6 w14) 10 w20) 11 w21))))] := hD
  refine lv_iinc (v := 3) (lv' := [(5, .int 3), (12, .long w19), (10, .long w18), (8, .long w16), (6, .long w15), (4, .int 0), (0, .ref a), (1, .int 1), (2, .long 714288)]) hx hb dX12_times_123 hl (k := 4) rfl (by decide) (by decide) rfl (fun ls hl => ?_)
  refine lv_goto (tgt := 11) hx hb dX12_times_126 (by decide) ?_
  refine lv_iload hx hb dX12_times_11 (lv_at hl 0 rfl) ?_
  refine lv_iconst (v := 5) hx hb dX12_times_13 (by decide) ?_
  refine lv_icmp_ge (tgt := 129) hx hb dX12_times_14 (by decide) (fun h9 => absurd h9 (by decide)) (fun _ => ?_)
  refine lv_aload_n hx hb dX12_times_17 rfl (lv_at hl 6 rfl) ?_
  refine lv_iconst (v := 5) hx hb dX12_times_18 (by decide) ?_
  refine lv_iload hx hb dX12_times_19 (lv_at hl 0 rfl) ?_
  refine lv_imul hx hb dX12_times_21 ?_
  refine wk_i 15 (by decide) ?_
  refine lv_iload hx hb dX12_times_22 (lv_at hl 5 rfl) ?_
  refine lv_iadd hx hb dX12_times_24 ?_
  refine wk_i 15 (by decide) ?_
  refine va_lald hx hb hK hP 0 1 rfl rfl (wk_in rfl) dX12_times_25 ?_
  refine lv_topl (fun w22 ew22 => ?_)
  refine lv_lstore (lv' := [(6, .long w22), (5, .int 3), (12, .long w19), (10, .long w18), (8, .long w16), (4, .int 0), (0, .ref a), (1, .int 1), (2, .long 714288)]) hx hb dX12_times_26 hl (by decide) rfl (fun ls hl => ?_)
  refine lv_aload_n hx hb dX12_times_28 rfl (lv_at hl 6 rfl) ?_
  refine lv_iconst (v := 5) hx hb dX12_times_29 (by decide) ?_
  refine lv_iload hx hb dX12_times_30 (lv_at hl 1 rfl) ?_
  refine lv_imul hx hb dX12_times_32 ?_
  refine wk_i 15 (by decide) ?_
  refine lv_iload hx hb dX12_times_33 (lv_at hl 5 rfl) ?_
  refine lv_iadd hx hb dX12_times_35 ?_
  refine wk_i 15 (by decide) ?_
  refine lv_iconst (v := 1) hx hb dX12_times_36 (by decide) ?_
  refine lv_iadd hx hb dX12_times_37 ?_
  refine wk_i 16 (by decide) ?_
  refine va_lald hx hb hK hP 0 1 rfl rfl (wk_in rfl) dX12_times_38 ?_
  refine lv_topl (fun w23 ew23 => ?_)
  refine lv_lstore (lv' := [(8, .long w23), (6, .long w22), (5, .int 3), (12, .long w19), (10, .long w18), (4, .int 0), (0, .ref a), (1, .int 1), (2, .long 714288)]) hx hb dX12_times_39 hl (by decide) rfl (fun ls hl => ?_)
  refine lv_iload_n hx hb dX12_times_41 rfl (lv_at hl 7 rfl) ?_
  refine lv_if_le (tgt := 57) hx hb dX12_times_42 (by decide) (fun h9 => absurd h9 (by decide)) (fun _ => ?_)
  refine lv_lload hx hb dX12_times_45 (lv_at hl 1 rfl) ?_
  refine lv_ldc2 (v := 999997) hx hb hown (hts (.constantLong RX12 341 (999997)) mX12_times_w4) dX12_times_47 ?_
  refine lv_lmul hx hb dX12_times_50 ?_
  refine lv_topl (fun w24 ew24 => ?_)
  refine lv_lload hx hb dX12_times_51 (lv_at hl 0 rfl) ?_
  refine lv_ladd hx hb dX12_times_53 ?_
  refine lv_topl (fun w25 ew25 => ?_)
  refine lv_goto (tgt := 61) hx hb dX12_times_54 (by decide) ?_
  refine lv_lstore (lv' := [(10, .long w25), (8, .long w23), (6, .long w22), (5, .int 3), (12, .long w19), (4, .int 0), (0, .ref a), (1, .int 1), (2, .long 714288)]) hx hb dX12_times_61 hl (by decide) rfl (fun ls hl => ?_)
  refine lv_iload_n hx hb dX12_times_63 rfl (lv_at hl 7 rfl) ?_
  refine lv_if_le (tgt := 76) hx hb dX12_times_64 (by decide) (fun h9 => absurd h9 (by decide)) (fun _ => ?_)
  refine lv_lload hx hb dX12_times_67 (lv_at hl 2 rfl) ?_
  refine lv_ldc2 (v := 7) hx hb hown (hts (.constantLong RX12 343 (7)) mX12_times_w5) dX12_times_69 ?_
  refine lv_lmul hx hb dX12_times_72 ?_
  refine lv_topl (fun w26 ew26 => ?_)
  refine lv_goto (tgt := 89) hx hb dX12_times_73 (by decide) ?_
  refine lv_lstore (lv' := [(12, .long w26), (10, .long w25), (8, .long w23), (6, .long w22), (5, .int 3), (4, .int 0), (0, .ref a), (1, .int 1), (2, .long 714288)]) hx hb dX12_times_89 hl (by decide) rfl (fun ls hl => ?_)
  refine lv_aload_n hx hb dX12_times_91 rfl (lv_at hl 6 rfl) ?_
  refine lv_iconst (v := 5) hx hb dX12_times_92 (by decide) ?_
  refine lv_iload hx hb dX12_times_93 (lv_at hl 4 rfl) ?_
  refine lv_imul hx hb dX12_times_95 ?_
  refine wk_i 15 (by decide) ?_
  refine lv_iload hx hb dX12_times_96 (lv_at hl 5 rfl) ?_
  refine lv_iadd hx hb dX12_times_98 ?_
  refine wk_i 15 (by decide) ?_
  refine lv_lload hx hb dX12_times_99 (lv_at hl 1 rfl) ?_
  refine lv_ldc2 (v := 1000003) hx hb hown (hts (.constantLong RX12 339 (1000003)) mX12_times_w6) dX12_times_101 ?_
  refine lv_lrem hx hb dX12_times_104 (by decide) ?_
  refine lv_topl (fun w27 ew27 => ?_)
  refine va_last hx hb hK hP hD hS 0 1 rfl rfl (wk_in rfl) dX12_times_105 (fun H locs hP hD hS => ?_)
  have hP : va_P D vwCl [(a, .inl (G.2.1, 25, .inr (.inl (vp_updL (vp_updL (vp_updL (vp_updL (vp_updL (vp_updL (vp_updL f 0 w6) 1 w7) 5 w13) 6 w14) 10 w20) 11 w21) 15 w27))))] H := hP
  have hD : va_D A [(a, .inl (G.2.1, 25, .inr (.inl (vp_updL (vp_updL (vp_updL (vp_updL (vp_updL (vp_updL (vp_updL f 0 w6) 1 w7) 5 w13) 6 w14) 10 w20) 11 w21) 15 w27))))] := hD
  refine lv_aload_n hx hb dX12_times_106 rfl (lv_at hl 6 rfl) ?_
  refine lv_iconst (v := 5) hx hb dX12_times_107 (by decide) ?_
  refine lv_iload hx hb dX12_times_108 (lv_at hl 4 rfl) ?_
  refine lv_imul hx hb dX12_times_110 ?_
  refine wk_i 15 (by decide) ?_
  refine lv_iload hx hb dX12_times_111 (lv_at hl 5 rfl) ?_
  refine lv_iadd hx hb dX12_times_113 ?_
  refine wk_i 15 (by decide) ?_
  refine lv_iconst (v := 1) hx hb dX12_times_114 (by decide) ?_
  refine lv_iadd hx hb dX12_times_115 ?_
  refine wk_i 16 (by decide) ?_
  refine lv_lload hx hb dX12_times_116 (lv_at hl 0 rfl) ?_
  refine lv_ldc2 (v := 1000003) hx hb hown (hts (.constantLong RX12 339 (1000003)) mX12_times_w6) dX12_times_118 ?_
  refine lv_lrem hx hb dX12_times_121 (by decide) ?_
  refine lv_topl (fun w28 ew28 => ?_)
  refine va_last hx hb hK hP hD hS 0 1 rfl rfl (wk_in rfl) dX12_times_122 (fun H locs hP hD hS => ?_)
  have hP : va_P D vwCl [(a, .inl (G.2.1, 25, .inr (.inl (vp_updL (vp_updL (vp_updL (vp_updL (vp_updL (vp_updL (vp_updL (vp_updL f 0 w6) 1 w7) 5 w13) 6 w14) 10 w20) 11 w21) 15 w27) 16 w28))))] H := hP
  have hD : va_D A [(a, .inl (G.2.1, 25, .inr (.inl (vp_updL (vp_updL (vp_updL (vp_updL (vp_updL (vp_updL (vp_updL (vp_updL f 0 w6) 1 w7) 5 w13) 6 w14) 10 w20) 11 w21) 15 w27) 16 w28))))] := hD
  refine lv_iinc (v := 4) (lv' := [(5, .int 4), (12, .long w26), (10, .long w25), (8, .long w23), (6, .long w22), (4, .int 0), (0, .ref a), (1, .int 1), (2, .long 714288)]) hx hb dX12_times_123 hl (k := 4) rfl (by decide) (by decide) rfl (fun ls hl => ?_)
  refine lv_goto (tgt := 11) hx hb dX12_times_126 (by decide) ?_
  refine lv_iload hx hb dX12_times_11 (lv_at hl 0 rfl) ?_
  refine lv_iconst (v := 5) hx hb dX12_times_13 (by decide) ?_
  refine lv_icmp_ge (tgt := 129) hx hb dX12_times_14 (by decide) (fun h9 => absurd h9 (by decide)) (fun _ => ?_)
  refine lv_aload_n hx hb dX12_times_17 rfl (lv_at hl 6 rfl) ?_
  refine lv_iconst (v := 5) hx hb dX12_times_18 (by decide) ?_
  refine lv_iload hx hb dX12_times_19 (lv_at hl 0 rfl) ?_
  refine lv_imul hx hb dX12_times_21 ?_
  refine wk_i 20 (by decide) ?_
  refine lv_iload hx hb dX12_times_22 (lv_at hl 5 rfl) ?_
  refine lv_iadd hx hb dX12_times_24 ?_
  refine wk_i 20 (by decide) ?_
  refine va_lald hx hb hK hP 0 1 rfl rfl (wk_in rfl) dX12_times_25 ?_
  refine lv_topl (fun w29 ew29 => ?_)
  refine lv_lstore (lv' := [(6, .long w29), (5, .int 4), (12, .long w26), (10, .long w25), (8, .long w23), (4, .int 0), (0, .ref a), (1, .int 1), (2, .long 714288)]) hx hb dX12_times_26 hl (by decide) rfl (fun ls hl => ?_)
  refine lv_aload_n hx hb dX12_times_28 rfl (lv_at hl 6 rfl) ?_
  refine lv_iconst (v := 5) hx hb dX12_times_29 (by decide) ?_
  refine lv_iload hx hb dX12_times_30 (lv_at hl 1 rfl) ?_
  refine lv_imul hx hb dX12_times_32 ?_
  refine wk_i 20 (by decide) ?_
  refine lv_iload hx hb dX12_times_33 (lv_at hl 5 rfl) ?_
  refine lv_iadd hx hb dX12_times_35 ?_
  refine wk_i 20 (by decide) ?_
  refine lv_iconst (v := 1) hx hb dX12_times_36 (by decide) ?_
  refine lv_iadd hx hb dX12_times_37 ?_
  refine wk_i 21 (by decide) ?_
  refine va_lald hx hb hK hP 0 1 rfl rfl (wk_in rfl) dX12_times_38 ?_
  refine lv_topl (fun w30 ew30 => ?_)
  refine lv_lstore (lv' := [(8, .long w30), (6, .long w29), (5, .int 4), (12, .long w26), (10, .long w25), (4, .int 0), (0, .ref a), (1, .int 1), (2, .long 714288)]) hx hb dX12_times_39 hl (by decide) rfl (fun ls hl => ?_)
  refine lv_iload_n hx hb dX12_times_41 rfl (lv_at hl 7 rfl) ?_
  refine lv_if_le (tgt := 57) hx hb dX12_times_42 (by decide) (fun h9 => absurd h9 (by decide)) (fun _ => ?_)
  refine lv_lload hx hb dX12_times_45 (lv_at hl 1 rfl) ?_
  refine lv_ldc2 (v := 999997) hx hb hown (hts (.constantLong RX12 341 (999997)) mX12_times_w4) dX12_times_47 ?_
  refine lv_lmul hx hb dX12_times_50 ?_
  refine lv_topl (fun w31 ew31 => ?_)
  refine lv_lload hx hb dX12_times_51 (lv_at hl 0 rfl) ?_
  refine lv_ladd hx hb dX12_times_53 ?_
  refine lv_topl (fun w32 ew32 => ?_)
  refine lv_goto (tgt := 61) hx hb dX12_times_54 (by decide) ?_
  refine lv_lstore (lv' := [(10, .long w32), (8, .long w30), (6, .long w29), (5, .int 4), (12, .long w26), (4, .int 0), (0, .ref a), (1, .int 1), (2, .long 714288)]) hx hb dX12_times_61 hl (by decide) rfl (fun ls hl => ?_)
  refine lv_iload_n hx hb dX12_times_63 rfl (lv_at hl 7 rfl) ?_
  refine lv_if_le (tgt := 76) hx hb dX12_times_64 (by decide) (fun h9 => absurd h9 (by decide)) (fun _ => ?_)
  refine lv_lload hx hb dX12_times_67 (lv_at hl 2 rfl) ?_
  refine lv_ldc2 (v := 7) hx hb hown (hts (.constantLong RX12 343 (7)) mX12_times_w5) dX12_times_69 ?_
  refine lv_lmul hx hb dX12_times_72 ?_
  refine lv_topl (fun w33 ew33 => ?_)
  refine lv_goto (tgt := 89) hx hb dX12_times_73 (by decide) ?_
  refine lv_lstore (lv' := [(12, .long w33), (10, .long w32), (8, .long w30), (6, .long w29), (5, .int 4), (4, .int 0), (0, .ref a), (1, .int 1), (2, .long 714288)]) hx hb dX12_times_89 hl (by decide) rfl (fun ls hl => ?_)
  refine lv_aload_n hx hb dX12_times_91 rfl (lv_at hl 6 rfl) ?_
  refine lv_iconst (v := 5) hx hb dX12_times_92 (by decide) ?_
  refine lv_iload hx hb dX12_times_93 (lv_at hl 4 rfl) ?_
  refine lv_imul hx hb dX12_times_95 ?_
  refine wk_i 20 (by decide) ?_
  refine lv_iload hx hb dX12_times_96 (lv_at hl 5 rfl) ?_
  refine lv_iadd hx hb dX12_times_98 ?_
  refine wk_i 20 (by decide) ?_
  refine lv_lload hx hb dX12_times_99 (lv_at hl 1 rfl) ?_
  refine lv_ldc2 (v := 1000003) hx hb hown (hts (.constantLong RX12 339 (1000003)) mX12_times_w6) dX12_times_101 ?_
  refine lv_lrem hx hb dX12_times_104 (by decide) ?_
  refine lv_topl (fun w34 ew34 => ?_)
  refine va_last hx hb hK hP hD hS 0 1 rfl rfl (wk_in rfl) dX12_times_105 (fun H locs hP hD hS => ?_)
  have hP : va_P D vwCl [(a, .inl (G.2.1, 25, .inr (.inl (vp_updL (vp_updL (vp_updL (vp_updL (vp_updL (vp_updL (vp_updL (vp_updL (vp_updL f 0 w6) 1 w7) 5 w13) 6 w14) 10 w20) 11 w21) 15 w27) 16 w28) 20 w34))))] H := hP
  have hD : va_D A [(a, .inl (G.2.1, 25, .inr (.inl (vp_updL (vp_updL (vp_updL (vp_updL (vp_updL (vp_updL (vp_updL (vp_updL (vp_updL f 0 w6) 1 w7) 5 w13) 6 w14) 10 w20) 11 w21) 15 w27) 16 w28) 20 w34))))] := hD
  refine lv_aload_n hx hb dX12_times_106 rfl (lv_at hl 6 rfl) ?_
  refine lv_iconst (v := 5) hx hb dX12_times_107 (by decide) ?_
  refine lv_iload hx hb dX12_times_108 (lv_at hl 4 rfl) ?_
  refine lv_imul hx hb dX12_times_110 ?_
  refine wk_i 20 (by decide) ?_
  refine lv_iload hx hb dX12_times_111 (lv_at hl 5 rfl) ?_
  refine lv_iadd hx hb dX12_times_113 ?_
  refine wk_i 20 (by decide) ?_
  refine lv_iconst (v := 1) hx hb dX12_times_114 (by decide) ?_
  refine lv_iadd hx hb dX12_times_115 ?_
  refine wk_i 21 (by decide) ?_
  refine lv_lload hx hb dX12_times_116 (lv_at hl 0 rfl) ?_
  refine lv_ldc2 (v := 1000003) hx hb hown (hts (.constantLong RX12 339 (1000003)) mX12_times_w6) dX12_times_118 ?_
  refine lv_lrem hx hb dX12_times_121 (by decide) ?_
  refine lv_topl (fun w35 ew35 => ?_)
  refine va_last hx hb hK hP hD hS 0 1 rfl rfl (wk_in rfl) dX12_times_122 (fun H locs hP hD hS => ?_)
  have hP : va_P D vwCl [(a, .inl (G.2.1, 25, .inr (.inl (vp_updL (vp_updL (vp_updL (vp_updL (vp_updL (vp_updL (vp_updL (vp_updL (vp_updL (vp_updL f 0 w6) 1 w7) 5 w13) 6 w14) 10 w20) 11 w21) 15 w27) 16 w28) 20 w34) 21 w35))))] H := hP
  have hD : va_D A [(a, .inl (G.2.1, 25, .inr (.inl (vp_updL (vp_updL (vp_updL (vp_updL (vp_updL (vp_updL (vp_updL (vp_updL (vp_updL (vp_updL f 0 w6) 1 w7) 5 w13) 6 w14) 10 w20) 11 w21) 15 w27) 16 w28) 20 w34) 21 w35))))] := hD
  refine lv_iinc (v := 5) (lv' := [(5, .int 5), (12, .long w33), (10, .long w32), (8, .long w30), (6, .long w29), (4, .int 0), (0, .ref a), (1, .int 1), (2, .long 714288)]) hx hb dX12_times_123 hl (k := 4) rfl (by decide) (by decide) rfl (fun ls hl => ?_)
  refine lv_goto (tgt := 11) hx hb dX12_times_126 (by decide) ?_
  refine lv_iload hx hb dX12_times_11 (lv_at hl 0 rfl) ?_
  refine lv_iconst (v := 5) hx hb dX12_times_13 (by decide) ?_
  refine lv_icmp_ge (tgt := 129) hx hb dX12_times_14 (by decide) (fun _ => ?_) (fun h9 => absurd h9 (by decide))
  have hP9 := hP.sub (ws' := [(a, .inl (G.2.1, 25, .inr (.inl ((vp_updL (vp_updL (vp_updL (vp_updL (vp_updL (vp_updL (vp_updL (vp_updL (vp_updL (vp_updL f 0 w6) 1 w7) 5 w13) 6 w14) 10 w20) 11 w21) 15 w27) 16 w28) 20 w34) 21 w35)))))]) [0] rfl
  have hD9 := hD.sub (ws' := [(a, .inl (G.2.1, 25, .inr (.inl ((vp_updL (vp_updL (vp_updL (vp_updL (vp_updL (vp_updL (vp_updL (vp_updL (vp_updL (vp_updL f 0 w6) 1 w7) 5 w13) 6 w14) 10 w20) 11 w21) 15 w27) 16 w28) 20 w34) 21 w35)))))]) [0] (by decide) rfl
  exact W.vret hx hb hr (fun t ht hW => ⟨⟨(), rfl, trivial, ⟨(vp_updL (vp_updL (vp_updL (vp_updL (vp_updL (vp_updL (vp_updL (vp_updL (vp_updL (vp_updL f 0 w6) 1 w7) 5 w13) 6 w14) 10 w20) 11 w21) 15 w27) 16 w28) 20 w34) 21 w35), by rw [ht]; exact hP9, va_K.moved hW.alike hK, hD9⟩⟩, hS.F ht⟩) hS.2.2 dX12_times_129

theorem dX12_times_57 : decode cX12_times 57 = .ok (.lload 8, 2) := by decide +kernel
theorem dX12_times_59 : decode cX12_times 59 = .ok (.lload_n 2, 1) := by decide +kernel
theorem dX12_times_60 : decode cX12_times 60 = .ok (.lmul, 1) := by decide +kernel
theorem dX12_times_76 : decode cX12_times 76 = .ok (.lload 6, 2) := by decide +kernel
theorem dX12_times_78 : decode cX12_times 78 = .ok (.lload 8, 2) := by decide +kernel
theorem dX12_times_80 : decode cX12_times 80 = .ok (.lconst 1, 1) := by decide +kernel
theorem dX12_times_81 : decode cX12_times 81 = .ok (.lload_n 2, 1) := by decide +kernel
theorem dX12_times_82 : decode cX12_times 82 = .ok (.lsub, 1) := by decide +kernel
theorem dX12_times_83 : decode cX12_times 83 = .ok (.ldc2_w 339, 3) := by decide +kernel
theorem dX12_times_86 : decode cX12_times 86 = .ok (.ladd, 1) := by decide +kernel
theorem dX12_times_87 : decode cX12_times 87 = .ok (.lmul, 1) := by decide +kernel
theorem dX12_times_88 : decode cX12_times 88 = .ok (.ladd, 1) := by decide +kernel
set_option maxHeartbeats 4000000 in
set_option maxRecDepth 100000 in
/-- X12_times -/
theorem kX12_times_m (l : Launch) (D : va_G) (G : tyG) (a : Nat) (f : Nat → Int64) (sz : Nat) : Met l yX12_times wsX12_times ({ frames := 1, cells := 0, slots := 0, locals := 32 }) (va_Pc [.ref a, .int (-1), .long 714288] (wB D G sz [(a, .inl (G.2.1, 25, .inr (.inl f)))])) (va_Qv (fun _ : Unit => True) (fun _ t => ∃ (g9 : Nat → Int64), wS D G (va_A [(a, .inl (G.2.1, 25, .inr (.inl f)))] sz) [(a, .inl (G.2.1, 25, .inr (.inl g9)))] t) (va_A [(a, .inl (G.2.1, 25, .inr (.inl f)))] sz)) 0 0 (va_A [(a, .inl (G.2.1, 25, .inr (.inl f)))] sz) := by
  refine Met.ofW (cc := cX12_times) (maxL := 14) (ret := none) (by decide) rfl ?_
  intro p e s m args below meth c s₁ B hml hv
  obtain ⟨rfl, hsz, hP, hK, hD0, hN⟩ := hv
  have hx := B.exec
  have hb := B.bytes
  have hr := B.returns
  have hts := atoms_spec (ws := wsX12_times) B.pre
  have hown : s.vm.findClass RX12 = some m.cls := findClass_of_methodNamed B.named
  have hlocks := B.notSynchronized
  subst hsz
  have hD := hD0.self (sz := s.heap.size)
  generalize hAe : va_A [(a, .inl (G.2.1, 25, .inr (.inl f)))] s.heap.size = A at hD ⊢
  have hA : ∀ q : Nat, s.heap.size ≤ q → A q := fun q h => by rw [← hAe]; exact Or.inr h
  have hS : va_S A s.heap s.heap [] := va_S.rf
  have hP : va_P D vwCl [(a, .inl (G.2.1, 25, .inr (.inl f)))] s.heap := hP
  have hl := lv_entry ([.ref a, .int (-1), .long 714288]) (n := 14) (Nat.le_of_ble_eq_true rfl)
  rw [lg_entry_eq]
  generalize (lg_sl ([.ref a, .int (-1), .long 714288]) ++ List.replicate (14 - (lg_sl ([.ref a, .int (-1), .long 714288])).length) Slot.unset).toArray = ls at hl ⊢
  have hl : lv_has ls 14 [(0, .ref a), (1, .int (-1)), (2, .long 714288)] := hl
  refine lv_iload_n hx hb dX12_times_0 rfl (lv_at hl 1 rfl) ?_
  refine va_mabs hx hb (by rw [hml]; exact hl.1.symm) hown (hts (.methodLink RX12 228 Lib.Math.abs.name) mX12_times_w0) (hts (.static Lib.Math.abs.name) mX12_times_w1) (hts (.initialized "java/lang/Math") mX12_times_w2) (hts (.code Lib.Math.abs.name Lib.Math.abs.code 1 (some .int)) mX12_times_w3) (Nat.le_of_ble_eq_true rfl) (Nat.le_of_ble_eq_true rfl) (Nat.le_of_ble_eq_true rfl) (Nat.le_of_ble_eq_true rfl) dX12_times_1 ?_
  refine wk_i 1 (by decide) ?_
  refine lv_iconst (v := 1) hx hb dX12_times_4 (by decide) ?_
  refine lv_isub hx hb dX12_times_5 ?_
  refine wk_i 0 (by decide) ?_
  refine lv_istore (lv' := [(4, .int 0), (0, .ref a), (1, .int (-1)), (2, .long 714288)]) hx hb dX12_times_6 hl (by decide) rfl (fun ls hl => ?_)
  refine lv_iconst (v := 0) hx hb dX12_times_8 (by decide) ?_
  refine lv_istore (lv' := [(5, .int 0), (4, .int 0), (0, .ref a), (1, .int (-1)), (2, .long 714288)]) hx hb dX12_times_9 hl (by decide) rfl (fun ls hl => ?_)
  refine lv_iload hx hb dX12_times_11 (lv_at hl 0 rfl) ?_
  refine lv_iconst (v := 5) hx hb dX12_times_13 (by decide) ?_
  refine lv_icmp_ge (tgt := 129) hx hb dX12_times_14 (by decide) (fun h9 => absurd h9 (by decide)) (fun _ => ?_)
  refine lv_aload_n hx hb dX12_times_17 rfl (lv_at hl 2 rfl) ?_
  refine lv_iconst (v := 5) hx hb dX12_times_18 (by decide) ?_
  refine lv_iload hx hb dX12_times_19 (lv_at hl 0 rfl) ?_
  refine lv_imul hx hb dX12_times_21 ?_
  refine wk_i 0 (by decide) ?_
  refine lv_iload hx hb dX12_times_22 (lv_at hl 1 rfl) ?_
  refine lv_iadd hx hb dX12_times_24 ?_
  refine wk_i 0 (by decide) ?_
  refine va_lald hx hb hK hP 0 1 rfl rfl (wk_in rfl) dX12_times_25 ?_
  refine lv_topl (fun w1 ew1 => ?_)
  refine lv_lstore (lv' := [(6, .long w1), (5, .int 0), (4, .int 0), (0, .ref a), (1, .int (-1)), (2, .long 714288)]) hx hb dX12_times_26 hl (by decide) rfl (fun ls hl => ?_)
  refine lv_aload_n hx hb dX12_times_28 rfl (lv_at hl 3 rfl) ?_
  refine lv_iconst (v := 5) hx hb dX12_times_29 (by decide) ?_
  refine lv_iload hx hb dX12_times_30 (lv_at hl 1 rfl) ?_
  refine lv_imul hx hb dX12_times_32 ?_
  refine wk_i 0 (by decide) ?_
  refine lv_iload hx hb dX12_times_33 (lv_at hl 2 rfl) ?_
  refine lv_iadd hx hb dX12_times_35 ?_
  refine wk_i 0 (by decide) ?_
  refine lv_iconst (v := 1) hx hb dX12_times_36 (by decide) ?_
  refine lv_iadd hx hb dX12_times_37 ?_
  refine wk_i 1 (by decide) ?_
  refine va_lald hx hb hK hP 0 1 rfl rfl (wk_in rfl) dX12_times_38 ?_
  refine lv_topl (fun w2 ew2 => ?_)
  refine lv_lstore (lv' := [(8, .long w2), (6, .long w1), (5, .int 0), (4, .int 0), (0, .ref a), (1, .int (-1)), (2, .long 714288)]) hx hb dX12_times_39 hl (by decide) rfl (fun ls hl => ?_)
  refine lv_iload_n hx hb dX12_times_41 rfl (lv_at hl 5 rfl) ?_
  refine lv_if_le (tgt := 57) hx hb dX12_times_42 (by decide) (fun _ => ?_) (fun h9 => absurd h9 (by decide))
  refine lv_lload hx hb dX12_times_57 (lv_at hl 0 rfl) ?_
  refine lv_lload_n hx hb dX12_times_59 rfl (lv_at hl 6 rfl) ?_
  refine lv_lmul hx hb dX12_times_60 ?_
  refine lv_topl (fun w3 ew3 => ?_)
  refine lv_lstore (lv' := [(10, .long w3), (8, .long w2), (6, .long w1), (5, .int 0), (4, .int 0), (0, .ref a), (1, .int (-1)), (2, .long 714288)]) hx hb dX12_times_61 hl (by decide) rfl (fun ls hl => ?_)
  refine lv_iload_n hx hb dX12_times_63 rfl (lv_at hl 6 rfl) ?_
  refine lv_if_le (tgt := 76) hx hb dX12_times_64 (by decide) (fun _ => ?_) (fun h9 => absurd h9 (by decide))
  refine lv_lload hx hb dX12_times_76 (lv_at hl 2 rfl) ?_
  refine lv_lload hx hb dX12_times_78 (lv_at hl 1 rfl) ?_
  refine lv_lconst (v := 1) hx hb dX12_times_80 (by decide) ?_
  refine lv_lload_n hx hb dX12_times_81 rfl (lv_at hl 7 rfl) ?_
  refine lv_lsub hx hb dX12_times_82 ?_
  refine wk_l (-714287) (by decide) ?_
  refine lv_ldc2 (v := 1000003) hx hb hown (hts (.constantLong RX12 339 (1000003)) mX12_times_w6) dX12_times_83 ?_
  refine lv_ladd hx hb dX12_times_86 ?_
  refine wk_l 285716 (by decide) ?_
  refine lv_lmul hx hb dX12_times_87 ?_
  refine lv_topl (fun w4 ew4 => ?_)
  refine lv_ladd hx hb dX12_times_88 ?_
  refine lv_topl (fun w5 ew5 => ?_)
  refine lv_lstore (lv' := [(12, .long w5), (10, .long w3), (8, .long w2), (6, .long w1), (5, .int 0), (4, .int 0), (0, .ref a), (1, .int (-1)), (2, .long 714288)]) hx hb dX12_times_89 hl (by decide) rfl (fun ls hl => ?_)
  refine lv_aload_n hx hb dX12_times_91 rfl (lv_at hl 6 rfl) ?_
  refine lv_iconst (v := 5) hx hb dX12_times_92 (by decide) ?_
  refine lv_iload hx hb dX12_times_93 (lv_at hl 4 rfl) ?_
  refine lv_imul hx hb dX12_times_95 ?_
  refine wk_i 0 (by decide) ?_
  refine lv_iload hx hb dX12_times_96 (lv_at hl 5 rfl) ?_
  refine lv_iadd hx hb dX12_times_98 ?_
  refine wk_i 0 (by decide) ?_
  refine lv_lload hx hb dX12_times_99 (lv_at hl 1 rfl) ?_
  refine lv_ldc2 (v := 1000003) hx hb hown (hts (.constantLong RX12 339 (1000003)) mX12_times_w6) dX12_times_101 ?_
  refine lv_lrem hx hb dX12_times_104 (by decide) ?_
  refine lv_topl (fun w6 ew6 => ?_)
  refine va_last hx hb hK hP hD hS 0 1 rfl rfl (wk_in rfl) dX12_times_105 (fun H locs hP hD hS => ?_)
  have hP : va_P D vwCl [(a, .inl (G.2.1, 25, .inr (.inl (vp_updL f 0 w6))))] H := hP
  have hD : va_D A [(a, .inl (G.2.1, 25, .inr (.inl (vp_updL f 0 w6))))] := hD
  refine lv_aload_n hx hb dX12_times_106 rfl (lv_at hl 6 rfl) ?_
  refine lv_iconst (v := 5) hx hb dX12_times_107 (by decide) ?_
  refine lv_iload hx hb dX12_times_108 (lv_at hl 4 rfl) ?_
  refine lv_imul hx hb dX12_times_110 ?_
  refine wk_i 0 (by decide) ?_
  refine lv_iload hx hb dX12_times_111 (lv_at hl 5 rfl) ?_
  refine lv_iadd hx hb dX12_times_113 ?_
  refine wk_i 0 (by decide) ?_
  refine lv_iconst (v := 1) hx hb dX12_times_114 (by decide) ?_
  refine lv_iadd hx hb dX12_times_115 ?_
  refine wk_i 1 (by decide) ?_
  refine lv_lload hx hb dX12_times_116 (lv_at hl 0 rfl) ?_
  refine lv_ldc2 (v := 1000003) hx hb hown (hts (.constantLong RX12 339 (1000003)) mX12_times_w6) dX12_times_118 ?_
  refine lv_lrem hx hb dX12_times_121 (by decide) ?_
  refine lv_topl (fun w7 ew7 => ?_)
  refine va_last hx hb hK hP hD hS 0 1 rfl rfl (wk_in rfl) dX12_times_122 (fun H locs hP hD hS => ?_)
  have hP : va_P D vwCl [(a, .inl (G.2.1, 25, .inr (.inl (vp_updL (vp_updL f 0 w6) 1 w7))))] H := hP
  have hD : va_D A [(a, .inl (G.2.1, 25, .inr (.inl (vp_updL (vp_updL f 0 w6) 1 w7))))] := hD
  refine lv_iinc (v := 1) (lv' := [(5, .int 1), (12, .long w5), (10, .long w3), (8, .long w2), (6, .long w1), (4, .int 0), (0, .ref a), (1, .int (-1)), (2, .long 714288)]) hx hb dX12_times_123 hl (k := 4) rfl (by decide) (by decide) rfl (fun ls hl => ?_)
  refine lv_goto (tgt := 11) hx hb dX12_times_126 (by decide) ?_
  refine lv_iload hx hb dX12_times_11 (lv_at hl 0 rfl) ?_
  refine lv_iconst (v := 5) hx hb dX12_times_13 (by decide) ?_
  refine lv_icmp_ge (tgt := 129) hx hb dX12_times_14 (by decide) (fun h9 => absurd h9 (by decide)) (fun _ => ?_)
  refine lv_aload_n hx hb dX12_times_17 rfl (lv_at hl 6 rfl) ?_
  refine lv_iconst (v := 5) hx hb dX12_times_18 (by decide) ?_
  refine lv_iload hx hb dX12_times_19 (lv_at hl 0 rfl) ?_
  refine lv_imul hx hb dX12_times_21 ?_
  refine wk_i 5 (by decide) ?_
  refine lv_iload hx hb dX12_times_22 (lv_at hl 5 rfl) ?_
  refine lv_iadd hx hb dX12_times_24 ?_
  refine wk_i 5 (by decide) ?_
  refine va_lald hx hb hK hP 0 1 rfl rfl (wk_in rfl) dX12_times_25 ?_
  refine lv_topl (fun w8 ew8 => ?_)
  refine lv_lstore (lv' := [(6, .long w8), (5, .int 1), (12, .long w5), (10, .long w3), (8, .long w2), (4, .int 0), (0, .ref a), (1, .int (-1)), (2, .long 714288)]) hx hb dX12_times_26 hl (by decide) rfl (fun ls hl => ?_)
  refine lv_aload_n hx hb dX12_times_28 rfl (lv_at hl 6 rfl) ?_
  refine lv_iconst (v := 5) hx hb dX12_times_29 (by decide) ?_
  refine lv_iload hx hb dX12_times_30 (lv_at hl 1 rfl) ?_
  refine lv_imul hx hb dX12_times_32 ?_
  refine wk_i 5 (by decide) ?_
  refine lv_iload hx hb dX12_times_33 (lv_at hl 5 rfl) ?_
  refine lv_iadd hx hb dX12_times_35 ?_
  refine wk_i 5 (by decide) ?_
  refine lv_iconst (v := 1) hx hb dX12_times_36 (by decide) ?_
  refine lv_iadd hx hb dX12_times_37 ?_
  refine wk_i 6 (by decide) ?_
  refine va_lald hx hb hK hP 0 1 rfl rfl (wk_in rfl) dX12_times_38 ?_
  refine lv_topl (fun w9 ew9 => ?_)
  refine lv_lstore (lv' := [(8, .long w9), (6, .long w8), (5, .int 1), (12, .long w5), (10, .long w3), (4, .int 0), (0, .ref a), (1, .int (-1)), (2, .long 714288)]) hx hb dX12_times_39 hl (by decide) rfl (fun ls hl => ?_)
  refine lv_iload_n hx hb dX12_times_41 rfl (lv_at hl 7 rfl) ?_
  refine lv_if_le (tgt := 57) hx hb dX12_times_42 (by decide) (fun _ => ?_) (fun h9 => absurd h9 (by decide))
  refine lv_lload hx hb dX12_times_57 (lv_at hl 0 rfl) ?_
  refine lv_lload_n hx hb dX12_times_59 rfl (lv_at hl 8 rfl) ?_
  refine lv_lmul hx hb dX12_times_60 ?_
  refine lv_topl (fun w10 ew10 => ?_)
  refine lv_lstore (lv' := [(10, .long w10), (8, .long w9), (6, .long w8), (5, .int 1), (12, .long w5), (4, .int 0), (0, .ref a), (1, .int (-1)), (2, .long 714288)]) hx hb dX12_times_61 hl (by decide) rfl (fun ls hl => ?_)
  refine lv_iload_n hx hb dX12_times_63 rfl (lv_at hl 7 rfl) ?_
  refine lv_if_le (tgt := 76) hx hb dX12_times_64 (by decide) (fun _ => ?_) (fun h9 => absurd h9 (by decide))
  refine lv_lload hx hb dX12_times_76 (lv_at hl 2 rfl) ?_
  refine lv_lload hx hb dX12_times_78 (lv_at hl 1 rfl) ?_
  refine lv_lconst (v := 1) hx hb dX12_times_80 (by decide) ?_
  refine lv_lload_n hx hb dX12_times_81 rfl (lv_at hl 8 rfl) ?_
  refine lv_lsub hx hb dX12_times_82 ?_
  refine wk_l (-714287) (by decide) ?_
  refine lv_ldc2 (v := 1000003) hx hb hown (hts (.constantLong RX12 339 (1000003)) mX12_times_w6) dX12_times_83 ?_
  refine lv_ladd hx hb dX12_times_86 ?_
  refine wk_l 285716 (by decide) ?_
  refine lv_lmul hx hb dX12_times_87 ?_
  refine lv_topl (fun w11 ew11 => ?_)
  refine lv_ladd hx hb dX12_times_88 ?_
  refine lv_topl (fun w12 ew12 => ?_)
  refine lv_lstore (lv' := [(12, .long w12), (10, .long w10), (8, .long w9), (6, .long w8), (5, .int 1), (4, .int 0), (0, .ref a), (1, .int (-1)), (2, .long 714288)]) hx hb dX12_times_89 hl (by decide) rfl (fun ls hl => ?_)
  refine lv_aload_n hx hb dX12_times_91 rfl (lv_at hl 6 rfl) ?_
  refine lv_iconst (v := 5) hx hb dX12_times_92 (by decide) ?_
  refine lv_iload hx hb dX12_times_93 (lv_at hl 4 rfl) ?_
  refine lv_imul hx hb dX12_times_95 ?_
  refine wk_i 5 (by decide) ?_
  refine lv_iload hx hb dX12_times_96 (lv_at hl 5 rfl) ?_
  refine lv_iadd hx hb dX12_times_98 ?_
  refine wk_i 5 (by decide) ?_
  refine lv_lload hx hb dX12_times_99 (lv_at hl 1 rfl) ?_
  refine lv_ldc2 (v := 1000003) hx hb hown (hts (.constantLong RX12 339 (1000003)) mX12_times_w6) dX12_times_101 ?_
  refine lv_lrem hx hb dX12_times_104 (by decide) ?_
  refine lv_topl (fun w13 ew13 => ?_)
  refine va_last hx hb hK hP hD hS 0 1 rfl rfl (wk_in rfl) dX12_times_105 (fun H locs hP hD hS => ?_)
  have hP : va_P D vwCl [(a, .inl (G.2.1, 25, .inr (.inl (vp_updL (vp_updL (vp_updL f 0 w6) 1 w7) 5 w13))))] H := hP
  have hD : va_D A [(a, .inl (G.2.1, 25, .inr (.inl (vp_updL (vp_updL (vp_updL f 0 w6) 1 w7) 5 w13))))] := hD
  refine lv_aload_n hx hb dX12_times_106 rfl (lv_at hl 6 rfl) ?_
  refine lv_iconst (v := 5) hx hb dX12_times_107 (by decide) ?_
  refine lv_iload hx hb dX12_times_108 (lv_at hl 4 rfl) ?_
  refine lv_imul hx hb dX12_times_110 ?_
  refine wk_i 5 (by decide) ?_
  refine lv_iload hx hb dX12_times_111 (lv_at hl 5 rfl) ?_
  refine lv_iadd hx hb dX12_times_113 ?_
  refine wk_i 5 (by decide) ?_
  refine lv_iconst (v := 1) hx hb dX12_times_114 (by decide) ?_
  refine lv_iadd hx hb dX12_times_115 ?_
  refine wk_i 6 (by decide) ?_
  refine lv_lload hx hb dX12_times_116 (lv_at hl 0 rfl) ?_
  refine lv_ldc2 (v := 1000003) hx hb hown (hts (.constantLong RX12 339 (1000003)) mX12_times_w6) dX12_times_118 ?_
  refine lv_lrem hx hb dX12_times_121 (by decide) ?_
  refine lv_topl (fun w14 ew14 => ?_)
  refine va_last hx hb hK hP hD hS 0 1 rfl rfl (wk_in rfl) dX12_times_122 (fun H locs hP hD hS => ?_)
  have hP : va_P D vwCl [(a, .inl (G.2.1, 25, .inr (.inl (vp_updL (vp_updL (vp_updL (vp_updL f 0 w6) 1 w7) 5 w13) 6 w14))))] H := hP
  have hD : va_D A [(a, .inl (G.2.1, 25, .inr (.inl (vp_updL (vp_updL (vp_updL (vp_updL f 0 w6) 1 w7) 5 w13) 6 w14))))] := hD
  refine lv_iinc (v := 2) (lv' := [(5, .int 2), (12, .long w12), (10, .long w10), (8, .long w9), (6, .long w8), (4, .int 0), (0, .ref a), (1, .int (-1)), (2, .long 714288)]) hx hb dX12_times_123 hl (k := 4) rfl (by decide) (by decide) rfl (fun ls hl => ?_)
  refine lv_goto (tgt := 11) hx hb dX12_times_126 (by decide) ?_
  refine lv_iload hx hb dX12_times_11 (lv_at hl 0 rfl) ?_
  refine lv_iconst (v := 5) hx hb dX12_times_13 (by decide) ?_
  refine lv_icmp_ge (tgt := 129) hx hb dX12_times_14 (by decide) (fun h9 => absurd h9 (by decide)) (fun _ => ?_)
  refine lv_aload_n hx hb dX12_times_17 rfl (lv_at hl 6 rfl) ?_
  refine lv_iconst (v := 5) hx hb dX12_times_18 (by decide) ?_
  refine lv_iload hx hb dX12_times_19 (lv_at hl 0 rfl) ?_
  refine lv_imul hx hb dX12_times_21 ?_
  refine wk_i 10 (by decide) ?_
  refine lv_iload hx hb dX12_times_22 (lv_at hl 5 rfl) ?_
  refine lv_iadd hx hb dX12_times_24 ?_
  refine wk_i 10 (by decide) ?_
  refine va_lald hx hb hK hP 0 1 rfl rfl (wk_in rfl) dX12_times_25 ?_
  refine lv_topl (fun w15 ew15 => ?_)
  refine lv_lstore (lv' := [(6, .long w15), (5, .int 2), (12, .long w12), (10, .long w10), (8, .long w9), (4, .int 0), (0, .ref a), (1, .int (-1)), (2, .long 714288)]) hx hb dX12_times_26 hl (by decide) rfl (fun ls hl => ?_)
  refine lv_aload_n hx hb dX12_times_28 rfl (lv_at hl 6 rfl) ?_
  refine lv_iconst (v := 5) hx hb dX12_times_29 (by decide) ?_
  refine lv_iload hx hb dX12_times_30 (lv_at hl 1 rfl) ?_
  refine lv_imul hx hb dX12_times_32 ?_
  refine wk_i 10 (by decide) ?_
  refine lv_iload hx hb dX12_times_33 (lv_at hl 5 rfl) ?_
  refine lv_iadd hx hb dX12_times_35 ?_
  refine wk_i 10 (by decide) ?_
  refine lv_iconst (v := 1) hx hb dX12_times_36 (by decide) ?_
  refine lv_iadd hx hb dX12_times_37 ?_
  refine wk_i 11 (by decide) ?_
  refine va_lald hx hb hK hP 0 1 rfl rfl (wk_in rfl) dX12_times_38 ?_
  refine lv_topl (fun w16 ew16 => ?_)
  refine lv_lstore (lv' := [(8, .long w16), (6, .long w15), (5, .int 2), (12, .long w12), (10, .long w10), (4, .int 0), (0, .ref a), (1, .int (-1)), (2, .long 714288)]) hx hb dX12_times_39 hl (by decide) rfl (fun ls hl => ?_)
  refine lv_iload_n hx hb dX12_times_41 rfl (lv_at hl 7 rfl) ?_
  refine lv_if_le (tgt := 57) hx hb dX12_times_42 (by decide) (fun _ => ?_) (fun h9 => absurd h9 (by decide))
  refine lv_lload hx hb dX12_times_57 (lv_at hl 0 rfl) ?_
  refine lv_lload_n hx hb dX12_times_59 rfl (lv_at hl 8 rfl) ?_
  refine lv_lmul hx hb dX12_times_60 ?_
  refine lv_topl (fun w17 ew17 => ?_)
  refine lv_lstore (lv' := [(10, .long w17), (8, .long w16), (6, .long w15), (5, .int 2), (12, .long w12), (4, .int 0), (0, .ref a), (1, .int (-1)), (2, .long 714288)]) hx hb dX12_times_61 hl (by decide) rfl (fun ls hl => ?_)
  refine lv_iload_n hx hb dX12_times_63 rfl (lv_at hl 7 rfl) ?_
  refine lv_if_le (tgt := 76) hx hb dX12_times_64 (by decide) (fun _ => ?_) (fun h9 => absurd h9 (by decide))
  refine lv_lload hx hb dX12_times_76 (lv_at hl 2 rfl) ?_
  refine lv_lload hx hb dX12_times_78 (lv_at hl 1 rfl) ?_
  refine lv_lconst (v := 1) hx hb dX12_times_80 (by decide) ?_
  refine lv_lload_n hx hb dX12_times_81 rfl (lv_at hl 8 rfl) ?_
  refine lv_lsub hx hb dX12_times_82 ?_
  refine wk_l (-714287) (by decide) ?_
  refine lv_ldc2 (v := 1000003) hx hb hown (hts (.constantLong RX12 339 (1000003)) mX12_times_w6) dX12_times_83 ?_
  refine lv_ladd hx hb dX12_times_86 ?_
  refine wk_l 285716 (by decide) ?_
  refine lv_lmul hx hb dX12_times_87 ?_
  refine lv_topl (fun w18 ew18 => ?_)
  refine lv_ladd hx hb dX12_times_88 ?_
  refine lv_topl (fun w19 ew19 => ?_)
  refine lv_lstore (lv' := [(12, .long w19), (10, .long w17), (8, .long w16), (6, .long w15), (5, .int 2), (4, .int 0), (0, .ref a), (1, .int (-1)), (2, .long 714288)]) hx hb dX12_times_89 hl (by decide) rfl (fun ls hl => ?_)
  refine lv_aload_n hx hb dX12_times_91 rfl (lv_at hl 6 rfl) ?_
  refine lv_iconst (v := 5) hx hb dX12_times_92 (by decide) ?_
  refine lv_iload hx hb dX12_times_93 (lv_at hl 4 rfl) ?_
  refine lv_imul hx hb dX12_times_95 ?_
  refine wk_i 10 (by decide) ?_
  refine lv_iload hx hb dX12_times_96 (lv_at hl 5 rfl) ?_
  refine lv_iadd hx hb dX12_times_98 ?_
  refine wk_i 10 (by decide) ?_
  refine lv_lload hx hb dX12_times_99 (lv_at hl 1 rfl) ?_
  refine lv_ldc2 (v := 1000003) hx hb hown (hts (.constantLong RX12 339 (1000003)) mX12_times_w6) dX12_times_101 ?_
  refine lv_lrem hx hb dX12_times_104 (by decide) ?_
  refine lv_topl (fun w20 ew20 => ?_)
  refine va_last hx hb hK hP hD hS 0 1 rfl rfl (wk_in rfl) dX12_times_105 (fun H locs hP hD hS => ?_)
  have hP : va_P D vwCl [(a, .inl (G.2.1, 25, .inr (.inl (vp_updL (vp_updL (vp_updL (vp_updL (vp_updL f 0 w6) 1 w7) 5 w13) 6 w14) 10 w20))))] H := hP
  have hD : va_D A [(a, .inl (G.2.1, 25, .inr (.inl (vp_updL (vp_updL (vp_updL (vp_updL (vp_updL f 0 w6) 1 w7) 5 w13) 6 w14) 10 w20))))] := hD
  refine lv_aload_n hx hb dX12_times_106 rfl (lv_at hl 6 rfl) ?_
  refine lv_iconst (v := 5) hx hb dX12_times_107 (by decide) ?_
  refine lv_iload hx hb dX12_times_108 (lv_at hl 4 rfl) ?_
  refine lv_imul hx hb dX12_times_110 ?_
  refine wk_i 10 (by decide) ?_
  refine lv_iload hx hb dX12_times_111 (lv_at hl 5 rfl) ?_
  refine lv_iadd hx hb dX12_times_113 ?_
  refine wk_i 10 (by decide) ?_
  refine lv_iconst (v := 1) hx hb dX12_times_114 (by decide) ?_
  refine lv_iadd hx hb dX12_times_115 ?_
  refine wk_i 11 (by decide) ?_
  refine lv_lload hx hb dX12_times_116 (lv_at hl 0 rfl) ?_
  refine lv_ldc2 (v := 1000003) hx hb hown (hts (.constantLong RX12 339 (1000003)) mX12_times_w6) dX12_times_118 ?_
  refine lv_lrem hx hb dX12_times_121 (by decide) ?_
  refine lv_topl (fun w21 ew21 => ?_)
  refine va_last hx hb hK hP hD hS 0 1 rfl rfl (wk_in rfl) dX12_times_122 (fun H locs hP hD hS => ?_)
  have hP : va_P D vwCl [(a, .inl (G.2.1, 25, .inr (.inl (vp_updL (vp_updL (vp_updL (vp_updL (vp_updL (vp_updL f 0 w6) 1 w7) 5 w13) 6 w14) 10 w20) 11 w21))))] H := hP
  have hD : va_D A [(a, .inl (G.2.1, 25, .inr (.inl (vp_updL (vp_updL (vp_updL (vp_updL (vp_updL (vp_updL f 0 w6) 1 w7) 5 w13) 6 w14) 10 w20) 11 w21))))] := hD
  refine lv_iinc (v := 3) (lv' := [(5, .int 3), (12, .long w19), (10, .long w17), (8, .long w16), (6, .long w15), (4, .int 0), (0, .ref a), (1, .int (-1)), (2, .long 714288)]) hx hb dX12_times_123 hl (k := 4) rfl (by decide) (by decide) rfl (fun ls hl => ?_)
  refine lv_goto (tgt := 11) hx hb dX12_times_126 (by decide) ?_
  refine lv_iload hx hb dX12_times_11 (lv_at hl 0 rfl) ?_
  refine lv_iconst (v := 5) hx hb dX12_times_13 (by decide) ?_
  refine lv_icmp_ge (tgt := 129) hx hb dX12_times_14 (by decide) (fun h9 => absurd h9 (by decide)) (fun _ => ?_)
  refine lv_aload_n hx hb dX12_times_17 rfl (lv_at hl 6 rfl) ?_
  refine lv_iconst (v := 5) hx hb dX12_times_18 (by decide) ?_
  refine lv_iload hx hb dX12_times_19 (lv_at hl 0 rfl) ?_
  refine lv_imul hx hb dX12_times_21 ?_
  refine wk_i 15 (by decide) ?_
  refine lv_iload hx hb dX12_times_22 (lv_at hl 5 rfl) ?_
  refine lv_iadd hx hb dX12_times_24 ?_
  refine wk_i 15 (by decide) ?_
  refine va_lald hx hb hK hP 0 1 rfl rfl (wk_in rfl) dX12_times_25 ?_
  refine lv_topl (fun w22 ew22 => ?_)
  refine lv_lstore (lv' := [(6, .long w22), (5, .int 3), (12, .long w19), (10, .long w17), (8, .long w16), (4, .int 0), (0, .ref a), (1, .int (-1)), (2, .long 714288)]) hx hb dX12_times_26 hl (by decide) rfl (fun ls hl => ?_)
  refine lv_aload_n hx hb dX12_times_28 rfl (lv_at hl 6 rfl) ?_
  refine lv_iconst (v := 5) hx hb dX12_times_29 (by decide) ?_
  refine lv_iload hx hb dX12_times_30 (lv_at hl 1 rfl) ?_
  refine lv_imul hx hb dX12_times_32 ?_
  refine wk_i 15 (by decide) ?_
  refine lv_iload hx hb dX12_times_33 (lv_at hl 5 rfl) ?_
  refine lv_iadd hx hb dX12_times_35 ?_
  refine wk_i 15 (by decide) ?_
  refine lv_iconst (v := 1) hx hb dX12_times_36 (by decide) ?_
  refine lv_iadd hx hb dX12_times_37 ?_
  refine wk_i 16 (by decide) ?_
  refine va_lald hx hb hK hP 0 1 rfl rfl (wk_in rfl) dX12_times_38 ?_
  refine lv_topl (fun w23 ew23 => ?_)
  refine lv_lstore (lv' := [(8, .long w23), (6, .long w22), (5, .int 3), (12, .long w19), (10, .long w17), (4, .int 0), (0, .ref a), (1, .int (-1)), (2, .long 714288)]) hx hb dX12_times_39 hl (by decide) rfl (fun ls hl => ?_)
  refine lv_iload_n hx hb dX12_times_41 rfl (lv_at hl 7 rfl) ?_
  refine lv_if_le (tgt := 57) hx hb dX12_times_42 (by decide) (fun _ => ?_) (fun h9 => absurd h9 (by decide))
  refine lv_lload hx hb dX12_times_57 (lv_at hl 0 rfl) ?_
  refine lv_lload_n hx hb dX12_times_59 rfl (lv_at hl 8 rfl) ?_
  refine lv_lmul hx hb dX12_times_60 ?_
  refine lv_topl (fun w24 ew24 => ?_)
  refine lv_lstore (lv' := [(10, .long w24), (8, .long w23), (6, .long w22), (5, .int 3), (12, .long w19), (4, .int 0), (0, .ref a), (1, .int (-1)), (2, .long 714288)]) hx hb dX12_times_61 hl (by decide) rfl (fun ls hl => ?_)
  refine lv_iload_n hx hb dX12_times_63 rfl (lv_at hl 7 rfl) ?_
  refine lv_if_le (tgt := 76) hx hb dX12_times_64 (by decide) (fun _ => ?_) (fun h9 => absurd h9 (by decide))
  refine lv_lload hx hb dX12_times_76 (lv_at hl 2 rfl) ?_
  refine lv_lload hx hb dX12_times_78 (lv_at hl 1 rfl) ?_
  refine lv_lconst (v := 1) hx hb dX12_times_80 (by decide) ?_
  refine lv_lload_n hx hb dX12_times_81 rfl (lv_at hl 8 rfl) ?_
  refine lv_lsub hx hb dX12_times_82 ?_
  refine wk_l (-714287) (by decide) ?_
  refine lv_ldc2 (v := 1000003) hx hb hown (hts (.constantLong RX12 339 (1000003)) mX12_times_w6) dX12_times_83 ?_
  refine lv_ladd hx hb dX12_times_86 ?_
  refine wk_l 285716 (by decide) ?_
  refine lv_lmul hx hb dX12_times_87 ?_
  refine lv_topl (fun w25 ew25 => ?_)
  refine lv_ladd hx hb dX12_times_88 ?_
  refine lv_topl (fun w26 ew26 => ?_)
  refine lv_lstore (lv' := [(12, .long w26), (10, .long w24), (8, .long w23), (6, .long w22), (5, .int 3), (4, .int 0), (0, .ref a), (1, .int (-1)), (2, .long 714288)]) hx hb dX12_times_89 hl (by decide) rfl (fun ls hl => ?_)
  refine lv_aload_n hx hb dX12_times_91 rfl (lv_at hl 6 rfl) ?_
  refine lv_iconst (v := 5) hx hb dX12_times_92 (by decide) ?_
  refine lv_iload hx hb dX12_times_93 (lv_at hl 4 rfl) ?_
  refine lv_imul hx hb dX12_times_95 ?_
  refine wk_i 15 (by decide) ?_
  refine lv_iload hx hb dX12_times_96 (lv_at hl 5 rfl) ?_
  refine lv_iadd hx hb dX12_times_98 ?_
  refine wk_i 15 (by decide) ?_
  refine lv_lload hx hb dX12_times_99 (lv_at hl 1 rfl) ?_
  refine lv_ldc2 (v := 1000003) hx hb hown (hts (.constantLong RX12 339 (1000003)) mX12_times_w6) dX12_times_101 ?_
  refine lv_lrem hx hb dX12_times_104 (by decide) ?_
  refine lv_topl (fun w27 ew27 => ?_)
  refine va_last hx hb hK hP hD hS 0 1 rfl rfl (wk_in rfl) dX12_times_105 (fun H locs hP hD hS => ?_)
  have hP : va_P D vwCl [(a, .inl (G.2.1, 25, .inr (.inl (vp_updL (vp_updL (vp_updL (vp_updL (vp_updL (vp_updL (vp_updL f 0 w6) 1 w7) 5 w13) 6 w14) 10 w20) 11 w21) 15 w27))))] H := hP
  have hD : va_D A [(a, .inl (G.2.1, 25, .inr (.inl (vp_updL (vp_updL (vp_updL (vp_updL (vp_updL (vp_updL (vp_updL f 0 w6) 1 w7) 5 w13) 6 w14) 10 w20) 11 w21) 15 w27))))] := hD
  refine lv_aload_n hx hb dX12_times_106 rfl (lv_at hl 6 rfl) ?_
  refine lv_iconst (v := 5) hx hb dX12_times_107 (by decide) ?_
  refine lv_iload hx hb dX12_times_108 (lv_at hl 4 rfl) ?_
  refine lv_imul hx hb dX12_times_110 ?_
  refine wk_i 15 (by decide) ?_
  refine lv_iload hx hb dX12_times_111 (lv_at hl 5 rfl) ?_
  refine lv_iadd hx hb dX12_times_113 ?_
  refine wk_i 15 (by decide) ?_
  refine lv_iconst (v := 1) hx hb dX12_times_114 (by decide) ?_
  refine lv_iadd hx hb dX12_times_115 ?_
  refine wk_i 16 (by decide) ?_
  refine lv_lload hx hb dX12_times_116 (lv_at hl 0 rfl) ?_
  refine lv_ldc2 (v := 1000003) hx hb hown (hts (.constantLong RX12 339 (1000003)) mX12_times_w6) dX12_times_118 ?_
  refine lv_lrem hx hb dX12_times_121 (by decide) ?_
  refine lv_topl (fun w28 ew28 => ?_)
  refine va_last hx hb hK hP hD hS 0 1 rfl rfl (wk_in rfl) dX12_times_122 (fun H locs hP hD hS => ?_)
  have hP : va_P D vwCl [(a, .inl (G.2.1, 25, .inr (.inl (vp_updL (vp_updL (vp_updL (vp_updL (vp_updL (vp_updL (vp_updL (vp_updL f 0 w6) 1 w7) 5 w13) 6 w14) 10 w20) 11 w21) 15 w27) 16 w28))))] H := hP
  have hD : va_D A [(a, .inl (G.2.1, 25, .inr (.inl (vp_updL (vp_updL (vp_updL (vp_updL (vp_updL (vp_updL (vp_updL (vp_updL f 0 w6) 1 w7) 5 w13) 6 w14) 10 w20) 11 w21) 15 w27) 16 w28))))] := hD
  refine lv_iinc (v := 4) (lv' := [(5, .int 4), (12, .long w26), (10, .long w24), (8, .long w23), (6, .long w22), (4, .int 0), (0, .ref a), (1, .int (-1)), (2, .long 714288)]) hx hb dX12_times_123 hl (k := 4) rfl (by decide) (by decide) rfl (fun ls hl => ?_)
  refine lv_goto (tgt := 11) hx hb dX12_times_126 (by decide) ?_
  refine lv_iload hx hb dX12_times_11 (lv_at hl 0 rfl) ?_
  refine lv_iconst (v := 5) hx hb dX12_times_13 (by decide) ?_
  refine lv_icmp_ge (tgt := 129) hx hb dX12_times_14 (by decide) (fun h9 => absurd h9 (by decide)) (fun _ => ?_)
  refine lv_aload_n hx hb dX12_times_17 rfl (lv_at hl 6 rfl) ?_
  refine lv_iconst (v := 5) hx hb dX12_times_18 (by decide) ?_
  refine lv_iload hx hb dX12_times_19 (lv_at hl 0 rfl) ?_
  refine lv_imul hx hb dX12_times_21 ?_
  refine wk_i 20 (by decide) ?_
  refine lv_iload hx hb dX12_times_22 (lv_at hl 5 rfl) ?_
  refine lv_iadd hx hb dX12_times_24 ?_
  refine wk_i 20 (by decide) ?_
  refine va_lald hx hb hK hP 0 1 rfl rfl (wk_in rfl) dX12_times_25 ?_
  refine lv_topl (fun w29 ew29 => ?_)
  refine lv_lstore (lv' := [(6, .long w29), (5, .int 4), (12, .long w26), (10, .long w24), (8, .long w23), (4, .int 0), (0, .ref a), (1, .int (-1)), (2, .long 714288)]) hx hb dX12_times_26 hl (by decide) rfl (fun ls hl => ?_)
  refine lv_aload_n hx hb dX12_times_28 rfl (lv_at hl 6 rfl) ?_
  refine lv_iconst (v := 5) hx hb dX12_times_29 (by decide) ?_
  refine lv_iload hx hb dX12_times_30 (lv_at hl 1 rfl) ?_
  refine lv_imul hx hb dX12_times_32 ?_
  refine wk_i 20 (by decide) ?_
  refine lv_iload hx hb dX12_times_33 (lv_at hl 5 rfl) ?_
  refine lv_iadd hx hb dX12_times_35 ?_
  refine wk_i 20 (by decide) ?_
  refine lv_iconst (v := 1) hx hb dX12_times_36 (by decide) ?_
  refine lv_iadd hx hb dX12_times_37 ?_
  refine wk_i 21 (by decide) ?_
  refine va_lald hx hb hK hP 0 1 rfl rfl (wk_in rfl) dX12_times_38 ?_
  refine lv_topl (fun w30 ew30 => ?_)
  refine lv_lstore (lv' := [(8, .long w30), (6, .long w29), (5, .int 4), (12, .long w26), (10, .long w24), (4, .int 0), (0, .ref a), (1, .int (-1)), (2, .long 714288)]) hx hb dX12_times_39 hl (by decide) rfl (fun ls hl => ?_)
  refine lv_iload_n hx hb dX12_times_41 rfl (lv_at hl 7 rfl) ?_
  refine lv_if_le (tgt := 57) hx hb dX12_times_42 (by decide) (fun _ => ?_) (fun h9 => absurd h9 (by decide))
  refine lv_lload hx hb dX12_times_57 (lv_at hl 0 rfl) ?_
  refine lv_lload_n hx hb dX12_times_59 rfl (lv_at hl 8 rfl) ?_
  refine lv_lmul hx hb dX12_times_60 ?_
  refine lv_topl (fun w31 ew31 => ?_)
  refine lv_lstore (lv' := [(10, .long w31), (8, .long w30), (6, .long w29), (5, .int 4), (12, .long w26), (4, .int 0), (0, .ref a), (1, .int (-1)), (2, .long 714288)]) hx hb dX12_times_61 hl (by decide) rfl (fun ls hl => ?_)
  refine lv_iload_n hx hb dX12_times_63 rfl (lv_at hl 7 rfl) ?_
  refine lv_if_le (tgt := 76) hx hb dX12_times_64 (by decide) (fun _ => ?_) (fun h9 => absurd h9 (by decide))
  refine lv_lload hx hb dX12_times_76 (lv_at hl 2 rfl) ?_
  refine lv_lload hx hb dX12_times_78 (lv_at hl 1 rfl) ?_
  refine lv_lconst (v := 1) hx hb dX12_times_80 (by decide) ?_
  refine lv_lload_n hx hb dX12_times_81 rfl (lv_at hl 8 rfl) ?_
  refine lv_lsub hx hb dX12_times_82 ?_
  refine wk_l (-714287) (by decide) ?_
  refine lv_ldc2 (v := 1000003) hx hb hown (hts (.constantLong RX12 339 (1000003)) mX12_times_w6) dX12_times_83 ?_
  refine lv_ladd hx hb dX12_times_86 ?_
  refine wk_l 285716 (by decide) ?_
  refine lv_lmul hx hb dX12_times_87 ?_
  refine lv_topl (fun w32 ew32 => ?_)
  refine lv_ladd hx hb dX12_times_88 ?_
  refine lv_topl (fun w33 ew33 => ?_)
  refine lv_lstore (lv' := [(12, .long w33), (10, .long w31), (8, .long w30), (6, .long w29), (5, .int 4), (4, .int 0), (0, .ref a), (1, .int (-1)), (2, .long 714288)]) hx hb dX12_times_89 hl (by decide) rfl (fun ls hl => ?_)
  refine lv_aload_n hx hb dX12_times_91 rfl (lv_at hl 6 rfl) ?_
  refine lv_iconst (v := 5) hx hb dX12_times_92 (by decide) ?_
  refine lv_iload hx hb dX12_times_93 (lv_at hl 4 rfl) ?_
  refine lv_imul hx hb dX12_times_95 ?_
  refine wk_i 20 (by decide) ?_
  refine lv_iload hx hb dX12_times_96 (lv_at hl 5 rfl) ?_
  refine lv_iadd hx hb dX12_times_98 ?_
  refine wk_i 20 (by decide) ?_
  refine lv_lload hx hb dX12_times_99 (lv_at hl 1 rfl) ?_
  refine lv_ldc2 (v := 1000003) hx hb hown (hts (.constantLong RX12 339 (1000003)) mX12_times_w6) dX12_times_101 ?_
  refine lv_lrem hx hb dX12_times_104 (by decide) ?_
  refine lv_topl (fun w34 ew34 => ?_)
  refine va_last hx hb hK hP hD hS 0 1 rfl rfl (wk_in rfl) dX12_times_105 (fun H locs hP hD hS => ?_)
  have hP : va_P D vwCl [(a, .inl (G.2.1, 25, .inr (.inl (vp_updL (vp_updL (vp_updL (vp_updL (vp_updL (vp_updL (vp_updL (vp_updL (vp_updL f 0 w6) 1 w7) 5 w13) 6 w14) 10 w20) 11 w21) 15 w27) 16 w28) 20 w34))))] H := hP
  have hD : va_D A [(a, .inl (G.2.1, 25, .inr (.inl (vp_updL (vp_updL (vp_updL (vp_updL (vp_updL (vp_updL (vp_updL (vp_updL (vp_updL f 0 w6) 1 w7) 5 w13) 6 w14) 10 w20) 11 w21) 15 w27) 16 w28) 20 w34))))] := hD
  refine lv_aload_n hx hb dX12_times_106 rfl (lv_at hl 6 rfl) ?_
  refine lv_iconst (v := 5) hx hb dX12_times_107 (by decide) ?_
  refine lv_iload hx hb dX12_times_108 (lv_at hl 4 rfl) ?_
  refine lv_imul hx hb dX12_times_110 ?_
  refine wk_i 20 (by decide) ?_
  refine lv_iload hx hb dX12_times_111 (lv_at hl 5 rfl) ?_
  refine lv_iadd hx hb dX12_times_113 ?_
  refine wk_i 20 (by decide) ?_
  refine lv_iconst (v := 1) hx hb dX12_times_114 (by decide) ?_
  refine lv_iadd hx hb dX12_times_115 ?_
  refine wk_i 21 (by decide) ?_
  refine lv_lload hx hb dX12_times_116 (lv_at hl 0 rfl) ?_
  refine lv_ldc2 (v := 1000003) hx hb hown (hts (.constantLong RX12 339 (1000003)) mX12_times_w6) dX12_times_118 ?_
  refine lv_lrem hx hb dX12_times_121 (by decide) ?_
  refine lv_topl (fun w35 ew35 => ?_)
  refine va_last hx hb hK hP hD hS 0 1 rfl rfl (wk_in rfl) dX12_times_122 (fun H locs hP hD hS => ?_)
  have hP : va_P D vwCl [(a, .inl (G.2.1, 25, .inr (.inl (vp_updL (vp_updL (vp_updL (vp_updL (vp_updL (vp_updL (vp_updL (vp_updL (vp_updL (vp_updL f 0 w6) 1 w7) 5 w13) 6 w14) 10 w20) 11 w21) 15 w27) 16 w28) 20 w34) 21 w35))))] H := hP
  have hD : va_D A [(a, .inl (G.2.1, 25, .inr (.inl (vp_updL (vp_updL (vp_updL (vp_updL (vp_updL (vp_updL (vp_updL (vp_updL (vp_updL (vp_updL f 0 w6) 1 w7) 5 w13) 6 w14) 10 w20) 11 w21) 15 w27) 16 w28) 20 w34) 21 w35))))] := hD
  refine lv_iinc (v := 5) (lv' := [(5, .int 5), (12, .long w33), (10, .long w31), (8, .long w30), (6, .long w29), (4, .int 0), (0, .ref a), (1, .int (-1)), (2, .long 714288)]) hx hb dX12_times_123 hl (k := 4) rfl (by decide) (by decide) rfl (fun ls hl => ?_)
  refine lv_goto (tgt := 11) hx hb dX12_times_126 (by decide) ?_
  refine lv_iload hx hb dX12_times_11 (lv_at hl 0 rfl) ?_
  refine lv_iconst (v := 5) hx hb dX12_times_13 (by decide) ?_
  refine lv_icmp_ge (tgt := 129) hx hb dX12_times_14 (by decide) (fun _ => ?_) (fun h9 => absurd h9 (by decide))
  have hP9 := hP.sub (ws' := [(a, .inl (G.2.1, 25, .inr (.inl ((vp_updL (vp_updL (vp_updL (vp_updL (vp_updL (vp_updL (vp_updL (vp_updL (vp_updL (vp_updL f 0 w6) 1 w7) 5 w13) 6 w14) 10 w20) 11 w21) 15 w27) 16 w28) 20 w34) 21 w35)))))]) [0] rfl
  have hD9 := hD.sub (ws' := [(a, .inl (G.2.1, 25, .inr (.inl ((vp_updL (vp_updL (vp_updL (vp_updL (vp_updL (vp_updL (vp_updL (vp_updL (vp_updL (vp_updL f 0 w6) 1 w7) 5 w13) 6 w14) 10 w20) 11 w21) 15 w27) 16 w28) 20 w34) 21 w35)))))]) [0] (by decide) rfl
  exact W.vret hx hb hr (fun t ht hW => ⟨⟨(), rfl, trivial, ⟨(vp_updL (vp_updL (vp_updL (vp_updL (vp_updL (vp_updL (vp_updL (vp_updL (vp_updL (vp_updL f 0 w6) 1 w7) 5 w13) 6 w14) 10 w20) 11 w21) 15 w27) 16 w28) 20 w34) 21 w35), by rw [ht]; exact hP9, va_K.moved hW.alike hK, hD9⟩⟩, hS.F ht⟩) hS.2.2 dX12_times_129

theorem mX12_gens_w0 : Cond.fieldLink RX12 69 "PuppetBridgeModel" "bars" "I" ∈ wsX12_gens := by decide +kernel
theorem iX12_gens_X12 : ∀ w ∈ wsX120, w ∈ wsX12_gens := fun _ h => List.mem_cons_of_mem _ (List.mem_append_right _ h)
theorem dX12_gens_0 : decode cX12_gens 0 = .ok (.iconst 2, 1) := by decide +kernel
theorem dX12_gens_1 : decode cX12_gens 1 = .ok (.aload_n 0, 1) := by decide +kernel
theorem dX12_gens_2 : decode cX12_gens 2 = .ok (.getfield 69, 3) := by decide +kernel
theorem dX12_gens_5 : decode cX12_gens 5 = .ok (.iconst 1, 1) := by decide +kernel
theorem dX12_gens_6 : decode cX12_gens 6 = .ok (.isub, 1) := by decide +kernel
theorem dX12_gens_7 : decode cX12_gens 7 = .ok (.imul, 1) := by decide +kernel
theorem dX12_gens_8 : decode cX12_gens 8 = .ok (.ireturn, 1) := by decide +kernel
set_option maxHeartbeats 4000000 in
set_option maxRecDepth 100000 in
/-- X12_gens -/
theorem kX12_gens (l : Launch) (D : va_G) (G : tyG) (h0 : Nat) (z0 : Nat) (z1 : Nat) (z2 : Nat) (z3 : Nat) (z4 : Nat) (z5 : Nat) (z20 : Nat) (z21 : Nat) (z22 : Nat) (z23 : Nat) (z24 : Nat) (z25 : Nat) (z26 : Nat) (z27 : Nat) (z28 : Nat) (z6 : Nat) (z29 : Nat) (z7 : Nat) (z19 : Nat) (z8 : Nat) (z9 : Nat) (z10 : Nat) (z11 : Nat) (z30 : Nat) (z31 : Nat) (z32 : Nat) (z33 : Nat) (z12 : Nat) (z34 : Nat) (z35 : Nat) (z36 : Nat) (z37 : Nat) (z38 : Nat) (z39 : Nat) (z40 : Nat) (z41 : Nat) (z42 : Nat) (z13 : Nat) (z14 : Nat) (z15 : Nat) (z16 : Nat) (z17 : Nat) (z18 : Nat) (z43 : Nat) (eo : Int32) (sz : Nat) : Met l yX12_gens wsX12_gens ({ frames := 0, cells := 0, slots := 0, locals := 0 }) (va_Pc [.ref h0] (wB D G sz [(h0, .inr (12, [.ref z0, .ref z1, .ref z2, .ref z3, .ref z4, .ref z5, .ref z20, .ref z21, .ref z22, .ref z23, .ref z24, .ref z25, .int 0, .ref z26, .ref z27, .ref z28, .int 9, .int 0, .int 0, .ref z6, .ref z29, .ref z7, .int 0, .int 2, .ref z19, .ref z8, .ref z9, .ref z10, .int 0, .ref z11, .int 0, .ref z30, .ref z31, .ref z32, .ref z33, .int 0, .ref z12, .int 0, .int 0, .ref z34, .ref z35, .ref z36, .ref z37, .int 0, .int 0, .int 0, .int 0, .ref z38, .int 0, .ref z39, .ref z40, .ref z41, .ref z42, .int 0, .ref z13, .ref z14, .ref z15, .ref z16, .int eo, .ref z17, .ref z18, .ref z43]))])) (va_Qi (fun (r : Int32) (_ : Unit) => r = 2) (fun _ t => wS D G (va_A [(h0, .inr (12, [.ref z0, .ref z1, .ref z2, .ref z3, .ref z4, .ref z5, .ref z20, .ref z21, .ref z22, .ref z23, .ref z24, .ref z25, .int 0, .ref z26, .ref z27, .ref z28, .int 9, .int 0, .int 0, .ref z6, .ref z29, .ref z7, .int 0, .int 2, .ref z19, .ref z8, .ref z9, .ref z10, .int 0, .ref z11, .int 0, .ref z30, .ref z31, .ref z32, .ref z33, .int 0, .ref z12, .int 0, .int 0, .ref z34, .ref z35, .ref z36, .ref z37, .int 0, .int 0, .int 0, .int 0, .ref z38, .int 0, .ref z39, .ref z40, .ref z41, .ref z42, .int 0, .ref z13, .ref z14, .ref z15, .ref z16, .int eo, .ref z17, .ref z18, .ref z43]))] sz) [(h0, .inr (12, [.ref z0, .ref z1, .ref z2, .ref z3, .ref z4, .ref z5, .ref z20, .ref z21, .ref z22, .ref z23, .ref z24, .ref z25, .int 0, .ref z26, .ref z27, .ref z28, .int 9, .int 0, .int 0, .ref z6, .ref z29, .ref z7, .int 0, .int 2, .ref z19, .ref z8, .ref z9, .ref z10, .int 0, .ref z11, .int 0, .ref z30, .ref z31, .ref z32, .ref z33, .int 0, .ref z12, .int 0, .int 0, .ref z34, .ref z35, .ref z36, .ref z37, .int 0, .int 0, .int 0, .int 0, .ref z38, .int 0, .ref z39, .ref z40, .ref z41, .ref z42, .int 0, .ref z13, .ref z14, .ref z15, .ref z16, .int eo, .ref z17, .ref z18, .ref z43]))] t) (va_A [(h0, .inr (12, [.ref z0, .ref z1, .ref z2, .ref z3, .ref z4, .ref z5, .ref z20, .ref z21, .ref z22, .ref z23, .ref z24, .ref z25, .int 0, .ref z26, .ref z27, .ref z28, .int 9, .int 0, .int 0, .ref z6, .ref z29, .ref z7, .int 0, .int 2, .ref z19, .ref z8, .ref z9, .ref z10, .int 0, .ref z11, .int 0, .ref z30, .ref z31, .ref z32, .ref z33, .int 0, .ref z12, .int 0, .int 0, .ref z34, .ref z35, .ref z36, .ref z37, .int 0, .int 0, .int 0, .int 0, .ref z38, .int 0, .ref z39, .ref z40, .ref z41, .ref z42, .int 0, .ref z13, .ref z14, .ref z15, .ref z16, .int eo, .ref z17, .ref z18, .ref z43]))] sz)) 0 0 (va_A [(h0, .inr (12, [.ref z0, .ref z1, .ref z2, .ref z3, .ref z4, .ref z5, .ref z20, .ref z21, .ref z22, .ref z23, .ref z24, .ref z25, .int 0, .ref z26, .ref z27, .ref z28, .int 9, .int 0, .int 0, .ref z6, .ref z29, .ref z7, .int 0, .int 2, .ref z19, .ref z8, .ref z9, .ref z10, .int 0, .ref z11, .int 0, .ref z30, .ref z31, .ref z32, .ref z33, .int 0, .ref z12, .int 0, .int 0, .ref z34, .ref z35, .ref z36, .ref z37, .int 0, .int 0, .int 0, .int 0, .ref z38, .int 0, .ref z39, .ref z40, .ref z41, .ref z42, .int 0, .ref z13, .ref z14, .ref z15, .ref z16, .int eo, .ref z17, .ref z18, .ref z43]))] sz) := by
  refine Met.ofW (cc := cX12_gens) (maxL := 1) (ret := (some .int)) (by decide) rfl ?_
  intro p e s m args below meth c s₁ B hml hv
  obtain ⟨rfl, hsz, hP, hK, hD0, hN⟩ := hv
  have hx := B.exec
  have hb := B.bytes
  have hr := B.returns
  have hts := atoms_spec (ws := wsX12_gens) B.pre
  have hown : s.vm.findClass RX12 = some m.cls := findClass_of_methodNamed B.named
  have hlocks := B.notSynchronized
  subst hsz
  have hD := hD0.self (sz := s.heap.size)
  generalize hAe : va_A [(h0, .inr (12, [.ref z0, .ref z1, .ref z2, .ref z3, .ref z4, .ref z5, .ref z20, .ref z21, .ref z22, .ref z23, .ref z24, .ref z25, .int 0, .ref z26, .ref z27, .ref z28, .int 9, .int 0, .int 0, .ref z6, .ref z29, .ref z7, .int 0, .int 2, .ref z19, .ref z8, .ref z9, .ref z10, .int 0, .ref z11, .int 0, .ref z30, .ref z31, .ref z32, .ref z33, .int 0, .ref z12, .int 0, .int 0, .ref z34, .ref z35, .ref z36, .ref z37, .int 0, .int 0, .int 0, .int 0, .ref z38, .int 0, .ref z39, .ref z40, .ref z41, .ref z42, .int 0, .ref z13, .ref z14, .ref z15, .ref z16, .int eo, .ref z17, .ref z18, .ref z43]))] s.heap.size = A at hD ⊢
  have hA : ∀ q : Nat, s.heap.size ≤ q → A q := fun q h => by rw [← hAe]; exact Or.inr h
  have hS : va_S A s.heap s.heap [] := va_S.rf
  have hP : va_P D vwCl [(h0, .inr (12, [.ref z0, .ref z1, .ref z2, .ref z3, .ref z4, .ref z5, .ref z20, .ref z21, .ref z22, .ref z23, .ref z24, .ref z25, .int 0, .ref z26, .ref z27, .ref z28, .int 9, .int 0, .int 0, .ref z6, .ref z29, .ref z7, .int 0, .int 2, .ref z19, .ref z8, .ref z9, .ref z10, .int 0, .ref z11, .int 0, .ref z30, .ref z31, .ref z32, .ref z33, .int 0, .ref z12, .int 0, .int 0, .ref z34, .ref z35, .ref z36, .ref z37, .int 0, .int 0, .int 0, .int 0, .ref z38, .int 0, .ref z39, .ref z40, .ref z41, .ref z42, .int 0, .ref z13, .ref z14, .ref z15, .ref z16, .int eo, .ref z17, .ref z18, .ref z43]))] s.heap := hP
  have hl := lv_entry ([.ref h0]) (n := 1) (Nat.le_of_ble_eq_true rfl)
  rw [lg_entry_eq]
  generalize (lg_sl ([.ref h0]) ++ List.replicate (1 - (lg_sl ([.ref h0])).length) Slot.unset).toArray = ls at hl ⊢
  have hl : lv_has ls 1 [(0, .ref h0)] := hl
  refine lv_iconst (v := 2) hx hb dX12_gens_0 (by decide) ?_
  refine lv_aload_n hx hb dX12_gens_1 rfl (lv_at hl 0 rfl) ?_
  refine va_get (D := D) (ci := 12) (v := .int 2) (C := RX12) (T := TX12) (N := 62) hx hb hts iX12_gens_X12 hown hK hP 0 rfl rfl 23 (by decide) (hts (.fieldLink RX12 69 "PuppetBridgeModel" "bars" "I") mX12_gens_w0) (fun _ h9 => h9) rfl dX12_gens_2 ?_
  refine lv_iconst (v := 1) hx hb dX12_gens_5 (by decide) ?_
  refine lv_isub hx hb dX12_gens_6 ?_
  refine wk_i 1 (by decide) ?_
  refine lv_imul hx hb dX12_gens_7 ?_
  refine wk_i 2 (by decide) ?_
  have hP9 := hP.sub (ws' := [(h0, .inr (12, [.ref z0, .ref z1, .ref z2, .ref z3, .ref z4, .ref z5, .ref z20, .ref z21, .ref z22, .ref z23, .ref z24, .ref z25, .int 0, .ref z26, .ref z27, .ref z28, .int 9, .int 0, .int 0, .ref z6, .ref z29, .ref z7, .int 0, .int 2, .ref z19, .ref z8, .ref z9, .ref z10, .int 0, .ref z11, .int 0, .ref z30, .ref z31, .ref z32, .ref z33, .int 0, .ref z12, .int 0, .int 0, .ref z34, .ref z35, .ref z36, .ref z37, .int 0, .int 0, .int 0, .int 0, .ref z38, .int 0, .ref z39, .ref z40, .ref z41, .ref z42, .int 0, .ref z13, .ref z14, .ref z15, .ref z16, .int eo, .ref z17, .ref z18, .ref z43]))]) [0] rfl
  have hD9 := hD.sub (ws' := [(h0, .inr (12, [.ref z0, .ref z1, .ref z2, .ref z3, .ref z4, .ref z5, .ref z20, .ref z21, .ref z22, .ref z23, .ref z24, .ref z25, .int 0, .ref z26, .ref z27, .ref z28, .int 9, .int 0, .int 0, .ref z6, .ref z29, .ref z7, .int 0, .int 2, .ref z19, .ref z8, .ref z9, .ref z10, .int 0, .ref z11, .int 0, .ref z30, .ref z31, .ref z32, .ref z33, .int 0, .ref z12, .int 0, .int 0, .ref z34, .ref z35, .ref z36, .ref z37, .int 0, .int 0, .int 0, .int 0, .ref z38, .int 0, .ref z39, .ref z40, .ref z41, .ref z42, .int 0, .ref z13, .ref z14, .ref z15, .ref z16, .int eo, .ref z17, .ref z18, .ref z43]))]) [0] (by decide) rfl
  exact W.iret (v := 2) hx hb hr (fun t ht hW => ⟨⟨2, (), rfl, rfl, ⟨by rw [ht]; exact hP9, va_K.moved hW.alike hK, hD9⟩⟩, hS.F ht⟩) hS.2.2 dX12_gens_8

theorem dX12_power_0 : decode cX12_power 0 = .ok (.iconst 1, 1) := by decide +kernel
theorem dX12_power_1 : decode cX12_power 1 = .ok (.istore_n 2, 1) := by decide +kernel
theorem dX12_power_2 : decode cX12_power 2 = .ok (.iconst 0, 1) := by decide +kernel
theorem dX12_power_3 : decode cX12_power 3 = .ok (.istore_n 3, 1) := by decide +kernel
theorem dX12_power_4 : decode cX12_power 4 = .ok (.iload_n 3, 1) := by decide +kernel
theorem dX12_power_5 : decode cX12_power 5 = .ok (.iload_n 1, 1) := by decide +kernel
theorem dX12_power_6 : decode cX12_power 6 = .ok (.if_icmp .ge 13, 3) := by decide +kernel
theorem dX12_power_19 : decode cX12_power 19 = .ok (.iload_n 2, 1) := by decide +kernel
theorem dX12_power_20 : decode cX12_power 20 = .ok (.ireturn, 1) := by decide +kernel
set_option maxHeartbeats 4000000 in
set_option maxRecDepth 100000 in
/-- X12_power -/
theorem kX12_power_0 (l : Launch) (D : va_G) (G : tyG) (sz : Nat) : Met l yX12_power wsX12_power ({ frames := 0, cells := 0, slots := 0, locals := 0 }) (va_Pc [.int 2, .int 0] (wB D G sz [])) (va_Qi (fun (r : Int32) (_ : Unit) => r = 1) (fun _ _ => True) (va_A [] sz)) 0 0 (va_A [] sz) := by
  refine Met.ofW (cc := cX12_power) (maxL := 4) (ret := (some .int)) (by decide) rfl ?_
  intro p e s m args below meth c s₁ B hml hv
  obtain ⟨rfl, hsz, hP, hK, hD0, hN⟩ := hv
  have hx := B.exec
  have hb := B.bytes
  have hr := B.returns
  have hts := atoms_spec (ws := wsX12_power) B.pre
  have hown : s.vm.findClass RX12 = some m.cls := findClass_of_methodNamed B.named
  have hlocks := B.notSynchronized
  subst hsz
  have hD := hD0.self (sz := s.heap.size)
  generalize hAe : va_A [] s.heap.size = A at hD ⊢
  have hA : ∀ q : Nat, s.heap.size ≤ q → A q := fun q h => by rw [← hAe]; exact Or.inr h
  have hS : va_S A s.heap s.heap [] := va_S.rf
  have hP : va_P D vwCl [] s.heap := hP
  have hl := lv_entry ([.int 2, .int 0]) (n := 4) (Nat.le_of_ble_eq_true rfl)
  rw [lg_entry_eq]
  generalize (lg_sl ([.int 2, .int 0]) ++ List.replicate (4 - (lg_sl ([.int 2, .int 0])).length) Slot.unset).toArray = ls at hl ⊢
  have hl : lv_has ls 4 [(0, .int 2), (1, .int 0)] := hl
  refine lv_iconst (v := 1) hx hb dX12_power_0 (by decide) ?_
  refine lv_istore_n (lv' := [(2, .int 1), (0, .int 2), (1, .int 0)]) hx hb dX12_power_1 rfl hl (by decide) rfl (fun ls hl => ?_)
  refine lv_iconst (v := 0) hx hb dX12_power_2 (by decide) ?_
  refine lv_istore_n (lv' := [(3, .int 0), (2, .int 1), (0, .int 2), (1, .int 0)]) hx hb dX12_power_3 rfl hl (by decide) rfl (fun ls hl => ?_)
  refine lv_iload_n hx hb dX12_power_4 rfl (lv_at hl 0 rfl) ?_
  refine lv_iload_n hx hb dX12_power_5 rfl (lv_at hl 3 rfl) ?_
  refine lv_icmp_ge (tgt := 19) hx hb dX12_power_6 (by decide) (fun _ => ?_) (fun h9 => absurd h9 (by decide))
  refine lv_iload_n hx hb dX12_power_19 rfl (lv_at hl 1 rfl) ?_
  exact W.iret (v := 1) hx hb hr (fun t ht hW => ⟨⟨1, (), rfl, rfl, trivial⟩, hS.F ht⟩) hS.2.2 dX12_power_20

theorem dX12_power_9 : decode cX12_power 9 = .ok (.iload_n 2, 1) := by decide +kernel
theorem dX12_power_10 : decode cX12_power 10 = .ok (.iload_n 0, 1) := by decide +kernel
theorem dX12_power_11 : decode cX12_power 11 = .ok (.imul, 1) := by decide +kernel
theorem dX12_power_12 : decode cX12_power 12 = .ok (.istore_n 2, 1) := by decide +kernel
theorem dX12_power_13 : decode cX12_power 13 = .ok (.iinc 3 1, 3) := by decide +kernel
theorem dX12_power_16 : decode cX12_power 16 = .ok (.goto (-12), 3) := by decide +kernel
set_option maxHeartbeats 4000000 in
set_option maxRecDepth 100000 in
/-- X12_power -/
theorem kX12_power_1 (l : Launch) (D : va_G) (G : tyG) (sz : Nat) : Met l yX12_power wsX12_power ({ frames := 0, cells := 0, slots := 0, locals := 0 }) (va_Pc [.int 2, .int 1] (wB D G sz [])) (va_Qi (fun (r : Int32) (_ : Unit) => r = 2) (fun _ _ => True) (va_A [] sz)) 0 0 (va_A [] sz) := by
  refine Met.ofW (cc := cX12_power) (maxL := 4) (ret := (some .int)) (by decide) rfl ?_
  intro p e s m args below meth c s₁ B hml hv
  obtain ⟨rfl, hsz, hP, hK, hD0, hN⟩ := hv
  have hx := B.exec
  have hb := B.bytes
  have hr := B.returns
  have hts := atoms_spec (ws := wsX12_power) B.pre
  have hown : s.vm.findClass RX12 = some m.cls := findClass_of_methodNamed B.named
  have hlocks := B.notSynchronized
  subst hsz
  have hD := hD0.self (sz := s.heap.size)
  generalize hAe : va_A [] s.heap.size = A at hD ⊢
  have hA : ∀ q : Nat, s.heap.size ≤ q → A q := fun q h => by rw [← hAe]; exact Or.inr h
  have hS : va_S A s.heap s.heap [] := va_S.rf
  have hP : va_P D vwCl [] s.heap := hP
  have hl := lv_entry ([.int 2, .int 1]) (n := 4) (Nat.le_of_ble_eq_true rfl)
  rw [lg_entry_eq]
  generalize (lg_sl ([.int 2, .int 1]) ++ List.replicate (4 - (lg_sl ([.int 2, .int 1])).length) Slot.unset).toArray = ls at hl ⊢
  have hl : lv_has ls 4 [(0, .int 2), (1, .int 1)] := hl
  refine lv_iconst (v := 1) hx hb dX12_power_0 (by decide) ?_
  refine lv_istore_n (lv' := [(2, .int 1), (0, .int 2), (1, .int 1)]) hx hb dX12_power_1 rfl hl (by decide) rfl (fun ls hl => ?_)
  refine lv_iconst (v := 0) hx hb dX12_power_2 (by decide) ?_
  refine lv_istore_n (lv' := [(3, .int 0), (2, .int 1), (0, .int 2), (1, .int 1)]) hx hb dX12_power_3 rfl hl (by decide) rfl (fun ls hl => ?_)
  refine lv_iload_n hx hb dX12_power_4 rfl (lv_at hl 0 rfl) ?_
  refine lv_iload_n hx hb dX12_power_5 rfl (lv_at hl 3 rfl) ?_
  refine lv_icmp_ge (tgt := 19) hx hb dX12_power_6 (by decide) (fun h9 => absurd h9 (by decide)) (fun _ => ?_)
  refine lv_iload_n hx hb dX12_power_9 rfl (lv_at hl 1 rfl) ?_
  refine lv_iload_n hx hb dX12_power_10 rfl (lv_at hl 2 rfl) ?_
  refine lv_imul hx hb dX12_power_11 ?_
  refine wk_i 2 (by decide) ?_
  refine lv_istore_n (lv' := [(2, .int 2), (3, .int 0), (0, .int 2), (1, .int 1)]) hx hb dX12_power_12 rfl hl (by decide) rfl (fun ls hl => ?_)
  refine lv_iinc (v := 1) (lv' := [(3, .int 1), (2, .int 2), (0, .int 2), (1, .int 1)]) hx hb dX12_power_13 hl (k := 1) rfl (by decide) (by decide) rfl (fun ls hl => ?_)
  refine lv_goto (tgt := 4) hx hb dX12_power_16 (by decide) ?_
  refine lv_iload_n hx hb dX12_power_4 rfl (lv_at hl 0 rfl) ?_
  refine lv_iload_n hx hb dX12_power_5 rfl (lv_at hl 3 rfl) ?_
  refine lv_icmp_ge (tgt := 19) hx hb dX12_power_6 (by decide) (fun _ => ?_) (fun h9 => absurd h9 (by decide))
  refine lv_iload_n hx hb dX12_power_19 rfl (lv_at hl 1 rfl) ?_
  exact W.iret (v := 2) hx hb hr (fun t ht hW => ⟨⟨2, (), rfl, rfl, trivial⟩, hS.F ht⟩) hS.2.2 dX12_power_20

set_option maxHeartbeats 4000000 in
set_option maxRecDepth 100000 in
/-- X12_power -/
theorem kX12_power_2 (l : Launch) (D : va_G) (G : tyG) (sz : Nat) : Met l yX12_power wsX12_power ({ frames := 0, cells := 0, slots := 0, locals := 0 }) (va_Pc [.int 2, .int 2] (wB D G sz [])) (va_Qi (fun (r : Int32) (_ : Unit) => r = 4) (fun _ _ => True) (va_A [] sz)) 0 0 (va_A [] sz) := by
  refine Met.ofW (cc := cX12_power) (maxL := 4) (ret := (some .int)) (by decide) rfl ?_
  intro p e s m args below meth c s₁ B hml hv
  obtain ⟨rfl, hsz, hP, hK, hD0, hN⟩ := hv
  have hx := B.exec
  have hb := B.bytes
  have hr := B.returns
  have hts := atoms_spec (ws := wsX12_power) B.pre
  have hown : s.vm.findClass RX12 = some m.cls := findClass_of_methodNamed B.named
  have hlocks := B.notSynchronized
  subst hsz
  have hD := hD0.self (sz := s.heap.size)
  generalize hAe : va_A [] s.heap.size = A at hD ⊢
  have hA : ∀ q : Nat, s.heap.size ≤ q → A q := fun q h => by rw [← hAe]; exact Or.inr h
  have hS : va_S A s.heap s.heap [] := va_S.rf
  have hP : va_P D vwCl [] s.heap := hP
  have hl := lv_entry ([.int 2, .int 2]) (n := 4) (Nat.le_of_ble_eq_true rfl)
  rw [lg_entry_eq]
  generalize (lg_sl ([.int 2, .int 2]) ++ List.replicate (4 - (lg_sl ([.int 2, .int 2])).length) Slot.unset).toArray = ls at hl ⊢
  have hl : lv_has ls 4 [(0, .int 2), (1, .int 2)] := hl
  refine lv_iconst (v := 1) hx hb dX12_power_0 (by decide) ?_
  refine lv_istore_n (lv' := [(2, .int 1), (0, .int 2), (1, .int 2)]) hx hb dX12_power_1 rfl hl (by decide) rfl (fun ls hl => ?_)
  refine lv_iconst (v := 0) hx hb dX12_power_2 (by decide) ?_
  refine lv_istore_n (lv' := [(3, .int 0), (2, .int 1), (0, .int 2), (1, .int 2)]) hx hb dX12_power_3 rfl hl (by decide) rfl (fun ls hl => ?_)
  refine lv_iload_n hx hb dX12_power_4 rfl (lv_at hl 0 rfl) ?_
  refine lv_iload_n hx hb dX12_power_5 rfl (lv_at hl 3 rfl) ?_
  refine lv_icmp_ge (tgt := 19) hx hb dX12_power_6 (by decide) (fun h9 => absurd h9 (by decide)) (fun _ => ?_)
  refine lv_iload_n hx hb dX12_power_9 rfl (lv_at hl 1 rfl) ?_
  refine lv_iload_n hx hb dX12_power_10 rfl (lv_at hl 2 rfl) ?_
  refine lv_imul hx hb dX12_power_11 ?_
  refine wk_i 2 (by decide) ?_
  refine lv_istore_n (lv' := [(2, .int 2), (3, .int 0), (0, .int 2), (1, .int 2)]) hx hb dX12_power_12 rfl hl (by decide) rfl (fun ls hl => ?_)
  refine lv_iinc (v := 1) (lv' := [(3, .int 1), (2, .int 2), (0, .int 2), (1, .int 2)]) hx hb dX12_power_13 hl (k := 1) rfl (by decide) (by decide) rfl (fun ls hl => ?_)
  refine lv_goto (tgt := 4) hx hb dX12_power_16 (by decide) ?_
  refine lv_iload_n hx hb dX12_power_4 rfl (lv_at hl 0 rfl) ?_
  refine lv_iload_n hx hb dX12_power_5 rfl (lv_at hl 3 rfl) ?_
  refine lv_icmp_ge (tgt := 19) hx hb dX12_power_6 (by decide) (fun h9 => absurd h9 (by decide)) (fun _ => ?_)
  refine lv_iload_n hx hb dX12_power_9 rfl (lv_at hl 1 rfl) ?_
  refine lv_iload_n hx hb dX12_power_10 rfl (lv_at hl 2 rfl) ?_
  refine lv_imul hx hb dX12_power_11 ?_
  refine wk_i 4 (by decide) ?_
  refine lv_istore_n (lv' := [(2, .int 4), (3, .int 1), (0, .int 2), (1, .int 2)]) hx hb dX12_power_12 rfl hl (by decide) rfl (fun ls hl => ?_)
  refine lv_iinc (v := 2) (lv' := [(3, .int 2), (2, .int 4), (0, .int 2), (1, .int 2)]) hx hb dX12_power_13 hl (k := 1) rfl (by decide) (by decide) rfl (fun ls hl => ?_)
  refine lv_goto (tgt := 4) hx hb dX12_power_16 (by decide) ?_
  refine lv_iload_n hx hb dX12_power_4 rfl (lv_at hl 0 rfl) ?_
  refine lv_iload_n hx hb dX12_power_5 rfl (lv_at hl 3 rfl) ?_
  refine lv_icmp_ge (tgt := 19) hx hb dX12_power_6 (by decide) (fun _ => ?_) (fun h9 => absurd h9 (by decide))
  refine lv_iload_n hx hb dX12_power_19 rfl (lv_at hl 1 rfl) ?_
  exact W.iret (v := 4) hx hb hr (fun t ht hW => ⟨⟨4, (), rfl, rfl, trivial⟩, hS.F ht⟩) hS.2.2 dX12_power_20

set_option maxHeartbeats 4000000 in
set_option maxRecDepth 100000 in
/-- X12_power -/
theorem kX12_power_3 (l : Launch) (D : va_G) (G : tyG) (sz : Nat) : Met l yX12_power wsX12_power ({ frames := 0, cells := 0, slots := 0, locals := 0 }) (va_Pc [.int 2, .int 3] (wB D G sz [])) (va_Qi (fun (r : Int32) (_ : Unit) => r = 8) (fun _ _ => True) (va_A [] sz)) 0 0 (va_A [] sz) := by
  refine Met.ofW (cc := cX12_power) (maxL := 4) (ret := (some .int)) (by decide) rfl ?_
  intro p e s m args below meth c s₁ B hml hv
  obtain ⟨rfl, hsz, hP, hK, hD0, hN⟩ := hv
  have hx := B.exec
  have hb := B.bytes
  have hr := B.returns
  have hts := atoms_spec (ws := wsX12_power) B.pre
  have hown : s.vm.findClass RX12 = some m.cls := findClass_of_methodNamed B.named
  have hlocks := B.notSynchronized
  subst hsz
  have hD := hD0.self (sz := s.heap.size)
  generalize hAe : va_A [] s.heap.size = A at hD ⊢
  have hA : ∀ q : Nat, s.heap.size ≤ q → A q := fun q h => by rw [← hAe]; exact Or.inr h
  have hS : va_S A s.heap s.heap [] := va_S.rf
  have hP : va_P D vwCl [] s.heap := hP
  have hl := lv_entry ([.int 2, .int 3]) (n := 4) (Nat.le_of_ble_eq_true rfl)
  rw [lg_entry_eq]
  generalize (lg_sl ([.int 2, .int 3]) ++ List.replicate (4 - (lg_sl ([.int 2, .int 3])).length) Slot.unset).toArray = ls at hl ⊢
  have hl : lv_has ls 4 [(0, .int 2), (1, .int 3)] := hl
  refine lv_iconst (v := 1) hx hb dX12_power_0 (by decide) ?_
  refine lv_istore_n (lv' := [(2, .int 1), (0, .int 2), (1, .int 3)]) hx hb dX12_power_1 rfl hl (by decide) rfl (fun ls hl => ?_)
  refine lv_iconst (v := 0) hx hb dX12_power_2 (by decide) ?_
  refine lv_istore_n (lv' := [(3, .int 0), (2, .int 1), (0, .int 2), (1, .int 3)]) hx hb dX12_power_3 rfl hl (by decide) rfl (fun ls hl => ?_)
  refine lv_iload_n hx hb dX12_power_4 rfl (lv_at hl 0 rfl) ?_
  refine lv_iload_n hx hb dX12_power_5 rfl (lv_at hl 3 rfl) ?_
  refine lv_icmp_ge (tgt := 19) hx hb dX12_power_6 (by decide) (fun h9 => absurd h9 (by decide)) (fun _ => ?_)
  refine lv_iload_n hx hb dX12_power_9 rfl (lv_at hl 1 rfl) ?_
  refine lv_iload_n hx hb dX12_power_10 rfl (lv_at hl 2 rfl) ?_
  refine lv_imul hx hb dX12_power_11 ?_
  refine wk_i 2 (by decide) ?_
  refine lv_istore_n (lv' := [(2, .int 2), (3, .int 0), (0, .int 2), (1, .int 3)]) hx hb dX12_power_12 rfl hl (by decide) rfl (fun ls hl => ?_)
  refine lv_iinc (v := 1) (lv' := [(3, .int 1), (2, .int 2), (0, .int 2), (1, .int 3)]) hx hb dX12_power_13 hl (k := 1) rfl (by decide) (by decide) rfl (fun ls hl => ?_)
  refine lv_goto (tgt := 4) hx hb dX12_power_16 (by decide) ?_
  refine lv_iload_n hx hb dX12_power_4 rfl (lv_at hl 0 rfl) ?_
  refine lv_iload_n hx hb dX12_power_5 rfl (lv_at hl 3 rfl) ?_
  refine lv_icmp_ge (tgt := 19) hx hb dX12_power_6 (by decide) (fun h9 => absurd h9 (by decide)) (fun _ => ?_)
  refine lv_iload_n hx hb dX12_power_9 rfl (lv_at hl 1 rfl) ?_
  refine lv_iload_n hx hb dX12_power_10 rfl (lv_at hl 2 rfl) ?_
  refine lv_imul hx hb dX12_power_11 ?_
  refine wk_i 4 (by decide) ?_
  refine lv_istore_n (lv' := [(2, .int 4), (3, .int 1), (0, .int 2), (1, .int 3)]) hx hb dX12_power_12 rfl hl (by decide) rfl (fun ls hl => ?_)
  refine lv_iinc (v := 2) (lv' := [(3, .int 2), (2, .int 4), (0, .int 2), (1, .int 3)]) hx hb dX12_power_13 hl (k := 1) rfl (by decide) (by decide) rfl (fun ls hl => ?_)
  refine lv_goto (tgt := 4) hx hb dX12_power_16 (by decide) ?_
  refine lv_iload_n hx hb dX12_power_4 rfl (lv_at hl 0 rfl) ?_
  refine lv_iload_n hx hb dX12_power_5 rfl (lv_at hl 3 rfl) ?_
  refine lv_icmp_ge (tgt := 19) hx hb dX12_power_6 (by decide) (fun h9 => absurd h9 (by decide)) (fun _ => ?_)
  refine lv_iload_n hx hb dX12_power_9 rfl (lv_at hl 1 rfl) ?_
  refine lv_iload_n hx hb dX12_power_10 rfl (lv_at hl 2 rfl) ?_
  refine lv_imul hx hb dX12_power_11 ?_
  refine wk_i 8 (by decide) ?_
  refine lv_istore_n (lv' := [(2, .int 8), (3, .int 2), (0, .int 2), (1, .int 3)]) hx hb dX12_power_12 rfl hl (by decide) rfl (fun ls hl => ?_)
  refine lv_iinc (v := 3) (lv' := [(3, .int 3), (2, .int 8), (0, .int 2), (1, .int 3)]) hx hb dX12_power_13 hl (k := 1) rfl (by decide) (by decide) rfl (fun ls hl => ?_)
  refine lv_goto (tgt := 4) hx hb dX12_power_16 (by decide) ?_
  refine lv_iload_n hx hb dX12_power_4 rfl (lv_at hl 0 rfl) ?_
  refine lv_iload_n hx hb dX12_power_5 rfl (lv_at hl 3 rfl) ?_
  refine lv_icmp_ge (tgt := 19) hx hb dX12_power_6 (by decide) (fun _ => ?_) (fun h9 => absurd h9 (by decide))
  refine lv_iload_n hx hb dX12_power_19 rfl (lv_at hl 1 rfl) ?_
  exact W.iret (v := 8) hx hb hr (fun t ht hW => ⟨⟨8, (), rfl, rfl, trivial⟩, hS.F ht⟩) hS.2.2 dX12_power_20

theorem dX12_passOf_0 : decode cX12_passOf 0 = .ok (.iload_n 0, 1) := by decide +kernel
theorem dX12_passOf_1 : decode cX12_passOf 1 = .ok (.iconst 2, 1) := by decide +kernel
theorem dX12_passOf_2 : decode cX12_passOf 2 = .ok (.irem, 1) := by decide +kernel
theorem dX12_passOf_3 : decode cX12_passOf 3 = .ok (.ifCond .ne 11, 3) := by decide +kernel
theorem dX12_passOf_6 : decode cX12_passOf 6 = .ok (.iload_n 0, 1) := by decide +kernel
theorem dX12_passOf_7 : decode cX12_passOf 7 = .ok (.iconst 2, 1) := by decide +kernel
theorem dX12_passOf_8 : decode cX12_passOf 8 = .ok (.idiv, 1) := by decide +kernel
theorem dX12_passOf_9 : decode cX12_passOf 9 = .ok (.iconst 1, 1) := by decide +kernel
theorem dX12_passOf_10 : decode cX12_passOf 10 = .ok (.iadd, 1) := by decide +kernel
theorem dX12_passOf_11 : decode cX12_passOf 11 = .ok (.goto 9, 3) := by decide +kernel
theorem dX12_passOf_20 : decode cX12_passOf 20 = .ok (.ireturn, 1) := by decide +kernel
set_option maxHeartbeats 4000000 in
set_option maxRecDepth 100000 in
/-- X12_passOf -/
theorem kX12_passOf_0 (l : Launch) (D : va_G) (G : tyG) (sz : Nat) : Met l yX12_passOf wsX12_passOf ({ frames := 0, cells := 0, slots := 0, locals := 0 }) (va_Pc [.int 0] (wB D G sz [])) (va_Qi (fun (r : Int32) (_ : Unit) => r = 1) (fun _ _ => True) (va_A [] sz)) 0 0 (va_A [] sz) := by
  refine Met.ofW (cc := cX12_passOf) (maxL := 1) (ret := (some .int)) (by decide) rfl ?_
  intro p e s m args below meth c s₁ B hml hv
  obtain ⟨rfl, hsz, hP, hK, hD0, hN⟩ := hv
  have hx := B.exec
  have hb := B.bytes
  have hr := B.returns
  have hts := atoms_spec (ws := wsX12_passOf) B.pre
  have hown : s.vm.findClass RX12 = some m.cls := findClass_of_methodNamed B.named
  have hlocks := B.notSynchronized
  subst hsz
  have hD := hD0.self (sz := s.heap.size)
  generalize hAe : va_A [] s.heap.size = A at hD ⊢
  have hA : ∀ q : Nat, s.heap.size ≤ q → A q := fun q h => by rw [← hAe]; exact Or.inr h
  have hS : va_S A s.heap s.heap [] := va_S.rf
  have hP : va_P D vwCl [] s.heap := hP
  have hl := lv_entry ([.int 0]) (n := 1) (Nat.le_of_ble_eq_true rfl)
  rw [lg_entry_eq]
  generalize (lg_sl ([.int 0]) ++ List.replicate (1 - (lg_sl ([.int 0])).length) Slot.unset).toArray = ls at hl ⊢
  have hl : lv_has ls 1 [(0, .int 0)] := hl
  refine lv_iload_n hx hb dX12_passOf_0 rfl (lv_at hl 0 rfl) ?_
  refine lv_iconst (v := 2) hx hb dX12_passOf_1 (by decide) ?_
  refine lv_irem hx hb dX12_passOf_2 (by decide) ?_
  refine wk_i 0 (by decide) ?_
  refine lv_if_ne (tgt := 14) hx hb dX12_passOf_3 (by decide) (fun h9 => absurd h9 (by decide)) (fun _ => ?_)
  refine lv_iload_n hx hb dX12_passOf_6 rfl (lv_at hl 0 rfl) ?_
  refine lv_iconst (v := 2) hx hb dX12_passOf_7 (by decide) ?_
  refine lv_idiv hx hb dX12_passOf_8 (by decide) ?_
  refine wk_i 0 (by decide) ?_
  refine lv_iconst (v := 1) hx hb dX12_passOf_9 (by decide) ?_
  refine lv_iadd hx hb dX12_passOf_10 ?_
  refine wk_i 1 (by decide) ?_
  refine lv_goto (tgt := 20) hx hb dX12_passOf_11 (by decide) ?_
  exact W.iret (v := 1) hx hb hr (fun t ht hW => ⟨⟨1, (), rfl, rfl, trivial⟩, hS.F ht⟩) hS.2.2 dX12_passOf_20

theorem dX12_passOf_14 : decode cX12_passOf 14 = .ok (.iload_n 0, 1) := by decide +kernel
theorem dX12_passOf_15 : decode cX12_passOf 15 = .ok (.iconst 2, 1) := by decide +kernel
theorem dX12_passOf_16 : decode cX12_passOf 16 = .ok (.idiv, 1) := by decide +kernel
theorem dX12_passOf_17 : decode cX12_passOf 17 = .ok (.iconst 1, 1) := by decide +kernel
theorem dX12_passOf_18 : decode cX12_passOf 18 = .ok (.iadd, 1) := by decide +kernel
theorem dX12_passOf_19 : decode cX12_passOf 19 = .ok (.ineg, 1) := by decide +kernel
set_option maxHeartbeats 4000000 in
set_option maxRecDepth 100000 in
/-- X12_passOf -/
theorem kX12_passOf_1 (l : Launch) (D : va_G) (G : tyG) (sz : Nat) : Met l yX12_passOf wsX12_passOf ({ frames := 0, cells := 0, slots := 0, locals := 0 }) (va_Pc [.int 1] (wB D G sz [])) (va_Qi (fun (r : Int32) (_ : Unit) => r = (-1)) (fun _ _ => True) (va_A [] sz)) 0 0 (va_A [] sz) := by
  refine Met.ofW (cc := cX12_passOf) (maxL := 1) (ret := (some .int)) (by decide) rfl ?_
  intro p e s m args below meth c s₁ B hml hv
  obtain ⟨rfl, hsz, hP, hK, hD0, hN⟩ := hv
  have hx := B.exec
  have hb := B.bytes
  have hr := B.returns
  have hts := atoms_spec (ws := wsX12_passOf) B.pre
  have hown : s.vm.findClass RX12 = some m.cls := findClass_of_methodNamed B.named
  have hlocks := B.notSynchronized
  subst hsz
  have hD := hD0.self (sz := s.heap.size)
  generalize hAe : va_A [] s.heap.size = A at hD ⊢
  have hA : ∀ q : Nat, s.heap.size ≤ q → A q := fun q h => by rw [← hAe]; exact Or.inr h
  have hS : va_S A s.heap s.heap [] := va_S.rf
  have hP : va_P D vwCl [] s.heap := hP
  have hl := lv_entry ([.int 1]) (n := 1) (Nat.le_of_ble_eq_true rfl)
  rw [lg_entry_eq]
  generalize (lg_sl ([.int 1]) ++ List.replicate (1 - (lg_sl ([.int 1])).length) Slot.unset).toArray = ls at hl ⊢
  have hl : lv_has ls 1 [(0, .int 1)] := hl
  refine lv_iload_n hx hb dX12_passOf_0 rfl (lv_at hl 0 rfl) ?_
  refine lv_iconst (v := 2) hx hb dX12_passOf_1 (by decide) ?_
  refine lv_irem hx hb dX12_passOf_2 (by decide) ?_
  refine wk_i 1 (by decide) ?_
  refine lv_if_ne (tgt := 14) hx hb dX12_passOf_3 (by decide) (fun _ => ?_) (fun h9 => absurd h9 (by decide))
  refine lv_iload_n hx hb dX12_passOf_14 rfl (lv_at hl 0 rfl) ?_
  refine lv_iconst (v := 2) hx hb dX12_passOf_15 (by decide) ?_
  refine lv_idiv hx hb dX12_passOf_16 (by decide) ?_
  refine wk_i 0 (by decide) ?_
  refine lv_iconst (v := 1) hx hb dX12_passOf_17 (by decide) ?_
  refine lv_iadd hx hb dX12_passOf_18 ?_
  refine wk_i 1 (by decide) ?_
  refine lv_ineg hx hb dX12_passOf_19 ?_
  refine wk_i (-1) (by decide) ?_
  exact W.iret (v := (-1)) hx hb hr (fun t ht hW => ⟨⟨(-1), (), rfl, rfl, trivial⟩, hS.F ht⟩) hS.2.2 dX12_passOf_20

set_option maxRecDepth 20000 in
theorem ggX12_passAt_X12_gens : GoodIn wsX12_passAt wsX12_gens := goodIn_r _ [5, 6, 13, 14, 15, 16, 17, 18, 19, 20, 21, 22, 23, 24, 25, 26, 27, 28, 29, 30, 31, 32, 33, 34, 35, 36, 37, 38, 39, 40, 41, 42, 43, 44, 45, 46, 47, 48, 49, 50, 51, 52, 53, 54, 55, 56, 57, 58, 59, 60, 61, 62, 63, 64, 65, 66, 67, 68, 69, 70, 71, 72, 73, 74] (by decide +kernel) (by decide +kernel)
set_option maxRecDepth 20000 in
theorem gX12_passAt_X12_gens : GoodIn wsX12_passAt (wsV RX12 345 RX12 yX12_gens wsX12_gens) := goodIn_app (goodIn_of _ (by decide +kernel)) ggX12_passAt_X12_gens
set_option maxRecDepth 20000 in
theorem ggX12_passAt_X12_power : GoodIn wsX12_passAt wsX12_power := goodIn_r _ [9] (by decide +kernel) (by decide +kernel)
set_option maxRecDepth 20000 in
theorem gX12_passAt_X12_power : GoodIn wsX12_passAt (va_wsS RX12 348 yX12_power wsX12_power) := goodIn_app (goodIn_of _ (by decide +kernel)) ggX12_passAt_X12_power
set_option maxRecDepth 20000 in
theorem ggX12_passAt_X12_passOf : GoodIn wsX12_passAt wsX12_passOf := goodIn_r _ [12] (by decide +kernel) (by decide +kernel)
set_option maxRecDepth 20000 in
theorem gX12_passAt_X12_passOf : GoodIn wsX12_passAt (va_wsS RX12 351 yX12_passOf wsX12_passOf) := goodIn_app (goodIn_of _ (by decide +kernel)) ggX12_passAt_X12_passOf
theorem dX12_passAt_0 : decode cX12_passAt 0 = .ok (.iload_n 1, 1) := by decide +kernel
theorem dX12_passAt_1 : decode cX12_passAt 1 = .ok (.aload_n 0, 1) := by decide +kernel
theorem dX12_passAt_2 : decode cX12_passAt 2 = .ok (.invokevirtual 345, 3) := by decide +kernel
theorem dX12_passAt_5 : decode cX12_passAt 5 = .ok (.iload_n 2, 1) := by decide +kernel
theorem dX12_passAt_6 : decode cX12_passAt 6 = .ok (.iconst 1, 1) := by decide +kernel
theorem dX12_passAt_7 : decode cX12_passAt 7 = .ok (.isub, 1) := by decide +kernel
theorem dX12_passAt_8 : decode cX12_passAt 8 = .ok (.iload_n 3, 1) := by decide +kernel
theorem dX12_passAt_9 : decode cX12_passAt 9 = .ok (.isub, 1) := by decide +kernel
theorem dX12_passAt_10 : decode cX12_passAt 10 = .ok (.invokestatic 348, 3) := by decide +kernel
theorem dX12_passAt_13 : decode cX12_passAt 13 = .ok (.idiv, 1) := by decide +kernel
theorem dX12_passAt_14 : decode cX12_passAt 14 = .ok (.aload_n 0, 1) := by decide +kernel
theorem dX12_passAt_15 : decode cX12_passAt 15 = .ok (.invokevirtual 345, 3) := by decide +kernel
theorem dX12_passAt_18 : decode cX12_passAt 18 = .ok (.irem, 1) := by decide +kernel
theorem dX12_passAt_19 : decode cX12_passAt 19 = .ok (.invokestatic 351, 3) := by decide +kernel
theorem dX12_passAt_22 : decode cX12_passAt 22 = .ok (.ireturn, 1) := by decide +kernel
set_option maxHeartbeats 4000000 in
set_option maxRecDepth 100000 in
/-- X12_passAt -/
theorem kX12_passAt_1_0_0 (l : Launch) (D : va_G) (G : tyG) (h0 : Nat) (z0 : Nat) (z1 : Nat) (z2 : Nat) (z3 : Nat) (z4 : Nat) (z5 : Nat) (z20 : Nat) (z21 : Nat) (z22 : Nat) (z23 : Nat) (z24 : Nat) (z25 : Nat) (z26 : Nat) (z27 : Nat) (z28 : Nat) (z6 : Nat) (z29 : Nat) (z7 : Nat) (z19 : Nat) (z8 : Nat) (z9 : Nat) (z10 : Nat) (z11 : Nat) (z30 : Nat) (z31 : Nat) (z32 : Nat) (z33 : Nat) (z12 : Nat) (z34 : Nat) (z35 : Nat) (z36 : Nat) (z37 : Nat) (z38 : Nat) (z39 : Nat) (z40 : Nat) (z41 : Nat) (z42 : Nat) (z13 : Nat) (z14 : Nat) (z15 : Nat) (z16 : Nat) (z17 : Nat) (z18 : Nat) (z43 : Nat) (sz : Nat) : Met l yX12_passAt wsX12_passAt ({ frames := 1, cells := 0, slots := 0, locals := 23 }) (va_Pc [.ref h0, .int 0, .int 1, .int 0] (wB D G sz [(h0, .inr (12, [.ref z0, .ref z1, .ref z2, .ref z3, .ref z4, .ref z5, .ref z20, .ref z21, .ref z22, .ref z23, .ref z24, .ref z25, .int 0, .ref z26, .ref z27, .ref z28, .int 9, .int 0, .int 0, .ref z6, .ref z29, .ref z7, .int 0, .int 2, .ref z19, .ref z8, .ref z9, .ref z10, .int 0, .ref z11, .int 0, .ref z30, .ref z31, .ref z32, .ref z33, .int 0, .ref z12, .int 0, .int 0, .ref z34, .ref z35, .ref z36, .ref z37, .int 0, .int 0, .int 0, .int 0, .ref z38, .int 0, .ref z39, .ref z40, .ref z41, .ref z42, .int 0, .ref z13, .ref z14, .ref z15, .ref z16, .int 0, .ref z17, .ref z18, .ref z43]))])) (va_Qi (fun (r : Int32) (_ : Unit) => r = 1) (fun _ t => wS D G (va_A [(h0, .inr (12, [.ref z0, .ref z1, .ref z2, .ref z3, .ref z4, .ref z5, .ref z20, .ref z21, .ref z22, .ref z23, .ref z24, .ref z25, .int 0, .ref z26, .ref z27, .ref z28, .int 9, .int 0, .int 0, .ref z6, .ref z29, .ref z7, .int 0, .int 2, .ref z19, .ref z8, .ref z9, .ref z10, .int 0, .ref z11, .int 0, .ref z30, .ref z31, .ref z32, .ref z33, .int 0, .ref z12, .int 0, .int 0, .ref z34, .ref z35, .ref z36, .ref z37, .int 0, .int 0, .int 0, .int 0, .ref z38, .int 0, .ref z39, .ref z40, .ref z41, .ref z42, .int 0, .ref z13, .ref z14, .ref z15, .ref z16, .int 0, .ref z17, .ref z18, .ref z43]))] sz) [(h0, .inr (12, [.ref z0, .ref z1, .ref z2, .ref z3, .ref z4, .ref z5, .ref z20, .ref z21, .ref z22, .ref z23, .ref z24, .ref z25, .int 0, .ref z26, .ref z27, .ref z28, .int 9, .int 0, .int 0, .ref z6, .ref z29, .ref z7, .int 0, .int 2, .ref z19, .ref z8, .ref z9, .ref z10, .int 0, .ref z11, .int 0, .ref z30, .ref z31, .ref z32, .ref z33, .int 0, .ref z12, .int 0, .int 0, .ref z34, .ref z35, .ref z36, .ref z37, .int 0, .int 0, .int 0, .int 0, .ref z38, .int 0, .ref z39, .ref z40, .ref z41, .ref z42, .int 0, .ref z13, .ref z14, .ref z15, .ref z16, .int 0, .ref z17, .ref z18, .ref z43]))] t) (va_A [(h0, .inr (12, [.ref z0, .ref z1, .ref z2, .ref z3, .ref z4, .ref z5, .ref z20, .ref z21, .ref z22, .ref z23, .ref z24, .ref z25, .int 0, .ref z26, .ref z27, .ref z28, .int 9, .int 0, .int 0, .ref z6, .ref z29, .ref z7, .int 0, .int 2, .ref z19, .ref z8, .ref z9, .ref z10, .int 0, .ref z11, .int 0, .ref z30, .ref z31, .ref z32, .ref z33, .int 0, .ref z12, .int 0, .int 0, .ref z34, .ref z35, .ref z36, .ref z37, .int 0, .int 0, .int 0, .int 0, .ref z38, .int 0, .ref z39, .ref z40, .ref z41, .ref z42, .int 0, .ref z13, .ref z14, .ref z15, .ref z16, .int 0, .ref z17, .ref z18, .ref z43]))] sz)) 0 0 (va_A [(h0, .inr (12, [.ref z0, .ref z1, .ref z2, .ref z3, .ref z4, .ref z5, .ref z20, .ref z21, .ref z22, .ref z23, .ref z24, .ref z25, .int 0, .ref z26, .ref z27, .ref z28, .int 9, .int 0, .int 0, .ref z6, .ref z29, .ref z7, .int 0, .int 2, .ref z19, .ref z8, .ref z9, .ref z10, .int 0, .ref z11, .int 0, .ref z30, .ref z31, .ref z32, .ref z33, .int 0, .ref z12, .int 0, .int 0, .ref z34, .ref z35, .ref z36, .ref z37, .int 0, .int 0, .int 0, .int 0, .ref z38, .int 0, .ref z39, .ref z40, .ref z41, .ref z42, .int 0, .ref z13, .ref z14, .ref z15, .ref z16, .int 0, .ref z17, .ref z18, .ref z43]))] sz) := by
  refine Met.ofW (cc := cX12_passAt) (maxL := 4) (ret := (some .int)) (by decide) rfl ?_
  intro p e s m args below meth c s₁ B hml hv
  obtain ⟨rfl, hsz, hP, hK, hD0, hN⟩ := hv
  have hx := B.exec
  have hb := B.bytes
  have hr := B.returns
  have hts := atoms_spec (ws := wsX12_passAt) B.pre
  have hown : s.vm.findClass RX12 = some m.cls := findClass_of_methodNamed B.named
  have hlocks := B.notSynchronized
  subst hsz
  have hD := hD0.self (sz := s.heap.size)
  generalize hAe : va_A [(h0, .inr (12, [.ref z0, .ref z1, .ref z2, .ref z3, .ref z4, .ref z5, .ref z20, .ref z21, .ref z22, .ref z23, .ref z24, .ref z25, .int 0, .ref z26, .ref z27, .ref z28, .int 9, .int 0, .int 0, .ref z6, .ref z29, .ref z7, .int 0, .int 2, .ref z19, .ref z8, .ref z9, .ref z10, .int 0, .ref z11, .int 0, .ref z30, .ref z31, .ref z32, .ref z33, .int 0, .ref z12, .int 0, .int 0, .ref z34, .ref z35, .ref z36, .ref z37, .int 0, .int 0, .int 0, .int 0, .ref z38, .int 0, .ref z39, .ref z40, .ref z41, .ref z42, .int 0, .ref z13, .ref z14, .ref z15, .ref z16, .int 0, .ref z17, .ref z18, .ref z43]))] s.heap.size = A at hD ⊢
  have hA : ∀ q : Nat, s.heap.size ≤ q → A q := fun q h => by rw [← hAe]; exact Or.inr h
  have hS : va_S A s.heap s.heap [] := va_S.rf
  have hP : va_P D vwCl [(h0, .inr (12, [.ref z0, .ref z1, .ref z2, .ref z3, .ref z4, .ref z5, .ref z20, .ref z21, .ref z22, .ref z23, .ref z24, .ref z25, .int 0, .ref z26, .ref z27, .ref z28, .int 9, .int 0, .int 0, .ref z6, .ref z29, .ref z7, .int 0, .int 2, .ref z19, .ref z8, .ref z9, .ref z10, .int 0, .ref z11, .int 0, .ref z30, .ref z31, .ref z32, .ref z33, .int 0, .ref z12, .int 0, .int 0, .ref z34, .ref z35, .ref z36, .ref z37, .int 0, .int 0, .int 0, .int 0, .ref z38, .int 0, .ref z39, .ref z40, .ref z41, .ref z42, .int 0, .ref z13, .ref z14, .ref z15, .ref z16, .int 0, .ref z17, .ref z18, .ref z43]))] s.heap := hP
  have hl := lv_entry ([.ref h0, .int 0, .int 1, .int 0]) (n := 4) (Nat.le_of_ble_eq_true rfl)
  rw [lg_entry_eq]
  generalize (lg_sl ([.ref h0, .int 0, .int 1, .int 0]) ++ List.replicate (4 - (lg_sl ([.ref h0, .int 0, .int 1, .int 0])).length) Slot.unset).toArray = ls at hl ⊢
  have hl : lv_has ls 4 [(0, .ref h0), (1, .int 0), (2, .int 1), (3, .int 0)] := hl
  refine lv_iload_n hx hb dX12_passAt_0 rfl (lv_at hl 1 rfl) ?_
  refine lv_aload_n hx hb dX12_passAt_1 rfl (lv_at hl 0 rfl) ?_
  have hPc := hP.sub (ws' := [(h0, .inr (12, [.ref z0, .ref z1, .ref z2, .ref z3, .ref z4, .ref z5, .ref z20, .ref z21, .ref z22, .ref z23, .ref z24, .ref z25, .int 0, .ref z26, .ref z27, .ref z28, .int 9, .int 0, .int 0, .ref z6, .ref z29, .ref z7, .int 0, .int 2, .ref z19, .ref z8, .ref z9, .ref z10, .int 0, .ref z11, .int 0, .ref z30, .ref z31, .ref z32, .ref z33, .int 0, .ref z12, .int 0, .int 0, .ref z34, .ref z35, .ref z36, .ref z37, .int 0, .int 0, .int 0, .int 0, .ref z38, .int 0, .ref z39, .ref z40, .ref z41, .ref z42, .int 0, .ref z13, .ref z14, .ref z15, .ref z16, .int 0, .ref z17, .ref z18, .ref z43]))]) [0] rfl
  have hDc := hD.sub (ws' := [(h0, .inr (12, [.ref z0, .ref z1, .ref z2, .ref z3, .ref z4, .ref z5, .ref z20, .ref z21, .ref z22, .ref z23, .ref z24, .ref z25, .int 0, .ref z26, .ref z27, .ref z28, .int 9, .int 0, .int 0, .ref z6, .ref z29, .ref z7, .int 0, .int 2, .ref z19, .ref z8, .ref z9, .ref z10, .int 0, .ref z11, .int 0, .ref z30, .ref z31, .ref z32, .ref z33, .int 0, .ref z12, .int 0, .int 0, .ref z34, .ref z35, .ref z36, .ref z37, .int 0, .int 0, .int 0, .int 0, .ref z38, .int 0, .ref z39, .ref z40, .ref z41, .ref z42, .int 0, .ref z13, .ref z14, .ref z15, .ref z16, .int 0, .ref z17, .ref z18, .ref z43]))]) [0] (by decide) rfl
  have hFc := va_free (wc := [(h0, .inr (12, [.ref z0, .ref z1, .ref z2, .ref z3, .ref z4, .ref z5, .ref z20, .ref z21, .ref z22, .ref z23, .ref z24, .ref z25, .int 0, .ref z26, .ref z27, .ref z28, .int 9, .int 0, .int 0, .ref z6, .ref z29, .ref z7, .int 0, .int 2, .ref z19, .ref z8, .ref z9, .ref z10, .int 0, .ref z11, .int 0, .ref z30, .ref z31, .ref z32, .ref z33, .int 0, .ref z12, .int 0, .int 0, .ref z34, .ref z35, .ref z36, .ref z37, .int 0, .int 0, .int 0, .int 0, .ref z38, .int 0, .ref z39, .ref z40, .ref z41, .ref z42, .int 0, .ref z13, .ref z14, .ref z15, .ref z16, .int 0, .ref z17, .ref z18, .ref z43]))]) hD hS hA [0] rfl
  refine va_calli (va_runV (As := []) (rest := [.int 0]) ⟨hx, hb, hml, hown, hts⟩ (kX12_gens l D G h0 z0 z1 z2 z3 z4 z5 z20 z21 z22 z23 z24 z25 z26 z27 z28 z6 z29 z7 z19 z8 z9 z10 z11 z30 z31 z32 z33 z12 z34 z35 z36 z37 z38 z39 z40 z41 z42 z13 z14 z15 z16 z17 z18 z43 0 s.heap.size) (cwV 0 hts gX12_passAt_X12_gens rfl rfl rfl (by decide +kernel) ⟨Nat.le_of_ble_eq_true rfl, Nat.le_of_ble_eq_true rfl⟩) ⟨wB_blind, va_recv hK hPc (ci := 12) (q0 := 0) rfl rfl, wB_pre hPc hK hDc hN⟩ rfl rfl hl.1 rfl (lv_room (Nat.le_of_ble_eq_true rfl)) dX12_passAt_2 ⟨Nat.le_of_ble_eq_true rfl, Nat.le_of_ble_eq_true rfl⟩) hS (fun q _ h => hFc q h) hFc (fun r1 u t H1 locs ht hvm hr1 hB hz1 hk1 hS => ?_)
  obtain ⟨hP1, hK1, hD1⟩ := hB
  rw [ht] at hP1
  obtain ⟨hP, hD⟩ := va_join (wr := []) (w1 := [(h0, .inr (12, [.ref z0, .ref z1, .ref z2, .ref z3, .ref z4, .ref z5, .ref z20, .ref z21, .ref z22, .ref z23, .ref z24, .ref z25, .int 0, .ref z26, .ref z27, .ref z28, .int 9, .int 0, .int 0, .ref z6, .ref z29, .ref z7, .int 0, .int 2, .ref z19, .ref z8, .ref z9, .ref z10, .int 0, .ref z11, .int 0, .ref z30, .ref z31, .ref z32, .ref z33, .int 0, .ref z12, .int 0, .int 0, .ref z34, .ref z35, .ref z36, .ref z37, .int 0, .int 0, .int 0, .int 0, .ref z38, .int 0, .ref z39, .ref z40, .ref z41, .ref z42, .int 0, .ref z13, .ref z14, .ref z15, .ref z16, .int 0, .ref z17, .ref z18, .ref z43]))]) hP hD [0] [] rfl rfl (by decide) (by decide) hk1 hFc hP1 hD1
  clear hPc hDc
  generalize H1 = H at hP hS ⊢
  have hP : va_P D vwCl [(h0, .inr (12, [.ref z0, .ref z1, .ref z2, .ref z3, .ref z4, .ref z5, .ref z20, .ref z21, .ref z22, .ref z23, .ref z24, .ref z25, .int 0, .ref z26, .ref z27, .ref z28, .int 9, .int 0, .int 0, .ref z6, .ref z29, .ref z7, .int 0, .int 2, .ref z19, .ref z8, .ref z9, .ref z10, .int 0, .ref z11, .int 0, .ref z30, .ref z31, .ref z32, .ref z33, .int 0, .ref z12, .int 0, .int 0, .ref z34, .ref z35, .ref z36, .ref z37, .int 0, .int 0, .int 0, .int 0, .ref z38, .int 0, .ref z39, .ref z40, .ref z41, .ref z42, .int 0, .ref z13, .ref z14, .ref z15, .ref z16, .int 0, .ref z17, .ref z18, .ref z43]))] H := hP
  have hD : va_D A [(h0, .inr (12, [.ref z0, .ref z1, .ref z2, .ref z3, .ref z4, .ref z5, .ref z20, .ref z21, .ref z22, .ref z23, .ref z24, .ref z25, .int 0, .ref z26, .ref z27, .ref z28, .int 9, .int 0, .int 0, .ref z6, .ref z29, .ref z7, .int 0, .int 2, .ref z19, .ref z8, .ref z9, .ref z10, .int 0, .ref z11, .int 0, .ref z30, .ref z31, .ref z32, .ref z33, .int 0, .ref z12, .int 0, .int 0, .ref z34, .ref z35, .ref z36, .ref z37, .int 0, .int 0, .int 0, .int 0, .ref z38, .int 0, .ref z39, .ref z40, .ref z41, .ref z42, .int 0, .ref z13, .ref z14, .ref z15, .ref z16, .int 0, .ref z17, .ref z18, .ref z43]))] := hD
  subst hr1
  refine lv_iload_n hx hb dX12_passAt_5 rfl (lv_at hl 2 rfl) ?_
  refine lv_iconst (v := 1) hx hb dX12_passAt_6 (by decide) ?_
  refine lv_isub hx hb dX12_passAt_7 ?_
  refine wk_i 0 (by decide) ?_
  refine lv_iload_n hx hb dX12_passAt_8 rfl (lv_at hl 3 rfl) ?_
  refine lv_isub hx hb dX12_passAt_9 ?_
  refine wk_i 0 (by decide) ?_
  have hPc := hP.sub (ws' := []) [] rfl
  have hDc := hD.sub (ws' := []) [] (by decide) rfl
  have hFc := va_free (wc := []) hD hS hA [] rfl
  refine va_calli (va_runS (As := [.int 2, .int 0]) (rest := [.int 0]) ⟨hx, hb, hml, hown, hts⟩ (kX12_power_0 l D G  H.size) (va_cwS 2 hts gX12_passAt_X12_power rfl rfl rfl (by decide +kernel) ⟨Nat.le_of_ble_eq_true rfl, Nat.le_of_ble_eq_true rfl⟩) ⟨wB_blind, wB_pre hPc hK hDc hN⟩ rfl rfl hl.1 rfl (lv_room (Nat.le_of_ble_eq_true rfl)) dX12_passAt_10 ⟨Nat.le_of_ble_eq_true rfl, Nat.le_of_ble_eq_true rfl⟩) hS (fun q _ h => hFc q h) hFc (fun r2 u t H1 locs ht hvm hr2 hB hz1 hk1 hS => ?_)
  obtain ⟨hP, hD⟩ := va_join (wr := [(h0, .inr (12, [.ref z0, .ref z1, .ref z2, .ref z3, .ref z4, .ref z5, .ref z20, .ref z21, .ref z22, .ref z23, .ref z24, .ref z25, .int 0, .ref z26, .ref z27, .ref z28, .int 9, .int 0, .int 0, .ref z6, .ref z29, .ref z7, .int 0, .int 2, .ref z19, .ref z8, .ref z9, .ref z10, .int 0, .ref z11, .int 0, .ref z30, .ref z31, .ref z32, .ref z33, .int 0, .ref z12, .int 0, .int 0, .ref z34, .ref z35, .ref z36, .ref z37, .int 0, .int 0, .int 0, .int 0, .ref z38, .int 0, .ref z39, .ref z40, .ref z41, .ref z42, .int 0, .ref z13, .ref z14, .ref z15, .ref z16, .int 0, .ref z17, .ref z18, .ref z43]))]) (w1 := []) hP hD [] [0] rfl rfl (by decide) (by decide) hk1 hFc wP_nil wD_nil
  clear hPc hDc
  generalize H1 = H at hP hS ⊢
  have hP : va_P D vwCl [(h0, .inr (12, [.ref z0, .ref z1, .ref z2, .ref z3, .ref z4, .ref z5, .ref z20, .ref z21, .ref z22, .ref z23, .ref z24, .ref z25, .int 0, .ref z26, .ref z27, .ref z28, .int 9, .int 0, .int 0, .ref z6, .ref z29, .ref z7, .int 0, .int 2, .ref z19, .ref z8, .ref z9, .ref z10, .int 0, .ref z11, .int 0, .ref z30, .ref z31, .ref z32, .ref z33, .int 0, .ref z12, .int 0, .int 0, .ref z34, .ref z35, .ref z36, .ref z37, .int 0, .int 0, .int 0, .int 0, .ref z38, .int 0, .ref z39, .ref z40, .ref z41, .ref z42, .int 0, .ref z13, .ref z14, .ref z15, .ref z16, .int 0, .ref z17, .ref z18, .ref z43]))] H := hP
  have hD : va_D A [(h0, .inr (12, [.ref z0, .ref z1, .ref z2, .ref z3, .ref z4, .ref z5, .ref z20, .ref z21, .ref z22, .ref z23, .ref z24, .ref z25, .int 0, .ref z26, .ref z27, .ref z28, .int 9, .int 0, .int 0, .ref z6, .ref z29, .ref z7, .int 0, .int 2, .ref z19, .ref z8, .ref z9, .ref z10, .int 0, .ref z11, .int 0, .ref z30, .ref z31, .ref z32, .ref z33, .int 0, .ref z12, .int 0, .int 0, .ref z34, .ref z35, .ref z36, .ref z37, .int 0, .int 0, .int 0, .int 0, .ref z38, .int 0, .ref z39, .ref z40, .ref z41, .ref z42, .int 0, .ref z13, .ref z14, .ref z15, .ref z16, .int 0, .ref z17, .ref z18, .ref z43]))] := hD
  subst hr2
  refine lv_idiv hx hb dX12_passAt_13 (by decide) ?_
  refine wk_i 0 (by decide) ?_
  refine lv_aload_n hx hb dX12_passAt_14 rfl (lv_at hl 0 rfl) ?_
  have hPc := hP.sub (ws' := [(h0, .inr (12, [.ref z0, .ref z1, .ref z2, .ref z3, .ref z4, .ref z5, .ref z20, .ref z21, .ref z22, .ref z23, .ref z24, .ref z25, .int 0, .ref z26, .ref z27, .ref z28, .int 9, .int 0, .int 0, .ref z6, .ref z29, .ref z7, .int 0, .int 2, .ref z19, .ref z8, .ref z9, .ref z10, .int 0, .ref z11, .int 0, .ref z30, .ref z31, .ref z32, .ref z33, .int 0, .ref z12, .int 0, .int 0, .ref z34, .ref z35, .ref z36, .ref z37, .int 0, .int 0, .int 0, .int 0, .ref z38, .int 0, .ref z39, .ref z40, .ref z41, .ref z42, .int 0, .ref z13, .ref z14, .ref z15, .ref z16, .int 0, .ref z17, .ref z18, .ref z43]))]) [0] rfl
  have hDc := hD.sub (ws' := [(h0, .inr (12, [.ref z0, .ref z1, .ref z2, .ref z3, .ref z4, .ref z5, .ref z20, .ref z21, .ref z22, .ref z23, .ref z24, .ref z25, .int 0, .ref z26, .ref z27, .ref z28, .int 9, .int 0, .int 0, .ref z6, .ref z29, .ref z7, .int 0, .int 2, .ref z19, .ref z8, .ref z9, .ref z10, .int 0, .ref z11, .int 0, .ref z30, .ref z31, .ref z32, .ref z33, .int 0, .ref z12, .int 0, .int 0, .ref z34, .ref z35, .ref z36, .ref z37, .int 0, .int 0, .int 0, .int 0, .ref z38, .int 0, .ref z39, .ref z40, .ref z41, .ref z42, .int 0, .ref z13, .ref z14, .ref z15, .ref z16, .int 0, .ref z17, .ref z18, .ref z43]))]) [0] (by decide) rfl
  have hFc := va_free (wc := [(h0, .inr (12, [.ref z0, .ref z1, .ref z2, .ref z3, .ref z4, .ref z5, .ref z20, .ref z21, .ref z22, .ref z23, .ref z24, .ref z25, .int 0, .ref z26, .ref z27, .ref z28, .int 9, .int 0, .int 0, .ref z6, .ref z29, .ref z7, .int 0, .int 2, .ref z19, .ref z8, .ref z9, .ref z10, .int 0, .ref z11, .int 0, .ref z30, .ref z31, .ref z32, .ref z33, .int 0, .ref z12, .int 0, .int 0, .ref z34, .ref z35, .ref z36, .ref z37, .int 0, .int 0, .int 0, .int 0, .ref z38, .int 0, .ref z39, .ref z40, .ref z41, .ref z42, .int 0, .ref z13, .ref z14, .ref z15, .ref z16, .int 0, .ref z17, .ref z18, .ref z43]))]) hD hS hA [0] rfl
  refine va_calli (va_runV (As := []) (rest := [.int 0]) ⟨hx, hb, hml, hown, hts⟩ (kX12_gens l D G h0 z0 z1 z2 z3 z4 z5 z20 z21 z22 z23 z24 z25 z26 z27 z28 z6 z29 z7 z19 z8 z9 z10 z11 z30 z31 z32 z33 z12 z34 z35 z36 z37 z38 z39 z40 z41 z42 z13 z14 z15 z16 z17 z18 z43 0 H.size) (cwV 0 hts gX12_passAt_X12_gens rfl rfl rfl (by decide +kernel) ⟨Nat.le_of_ble_eq_true rfl, Nat.le_of_ble_eq_true rfl⟩) ⟨wB_blind, va_recv hK hPc (ci := 12) (q0 := 0) rfl rfl, wB_pre hPc hK hDc hN⟩ rfl rfl hl.1 rfl (lv_room (Nat.le_of_ble_eq_true rfl)) dX12_passAt_15 ⟨Nat.le_of_ble_eq_true rfl, Nat.le_of_ble_eq_true rfl⟩) hS (fun q _ h => hFc q h) hFc (fun r3 u t H1 locs ht hvm hr3 hB hz1 hk1 hS => ?_)
  obtain ⟨hP1, hK1, hD1⟩ := hB
  rw [ht] at hP1
  obtain ⟨hP, hD⟩ := va_join (wr := []) (w1 := [(h0, .inr (12, [.ref z0, .ref z1, .ref z2, .ref z3, .ref z4, .ref z5, .ref z20, .ref z21, .ref z22, .ref z23, .ref z24, .ref z25, .int 0, .ref z26, .ref z27, .ref z28, .int 9, .int 0, .int 0, .ref z6, .ref z29, .ref z7, .int 0, .int 2, .ref z19, .ref z8, .ref z9, .ref z10, .int 0, .ref z11, .int 0, .ref z30, .ref z31, .ref z32, .ref z33, .int 0, .ref z12, .int 0, .int 0, .ref z34, .ref z35, .ref z36, .ref z37, .int 0, .int 0, .int 0, .int 0, .ref z38, .int 0, .ref z39, .ref z40, .ref z41, .ref z42, .int 0, .ref z13, .ref z14, .ref z15, .ref z16, .int 0, .ref z17, .ref z18, .ref z43]))]) hP hD [0] [] rfl rfl (by decide) (by decide) hk1 hFc hP1 hD1
  clear hPc hDc
  generalize H1 = H at hP hS ⊢
  have hP : va_P D vwCl [(h0, .inr (12, [.ref z0, .ref z1, .ref z2, .ref z3, .ref z4, .ref z5, .ref z20, .ref z21, .ref z22, .ref z23, .ref z24, .ref z25, .int 0, .ref z26, .ref z27, .ref z28, .int 9, .int 0, .int 0, .ref z6, .ref z29, .ref z7, .int 0, .int 2, .ref z19, .ref z8, .ref z9, .ref z10, .int 0, .ref z11, .int 0, .ref z30, .ref z31, .ref z32, .ref z33, .int 0, .ref z12, .int 0, .int 0, .ref z34, .ref z35, .ref z36, .ref z37, .int 0, .int 0, .int 0, .int 0, .ref z38, .int 0, .ref z39, .ref z40, .ref z41, .ref z42, .int 0, .ref z13, .ref z14, .ref z15, .ref z16, .int 0, .ref z17, .ref z18, .ref z43]))] H := hP
  have hD : va_D A [(h0, .inr (12, [.ref z0, .ref z1, .ref z2, .ref z3, .ref z4, .ref z5, .ref z20, .ref z21, .ref z22, .ref z23, .ref z24, .ref z25, .int 0, .ref z26, .ref z27, .ref z28, .int 9, .int 0, .int 0, .ref z6, .ref z29, .ref z7, .int 0, .int 2, .ref z19, .ref z8, .ref z9, .ref z10, .int 0, .ref z11, .int 0, .ref z30, .ref z31, .ref z32, .ref z33, .int 0, .ref z12, .int 0, .int 0, .ref z34, .ref z35, .ref z36, .ref z37, .int 0, .int 0, .int 0, .int 0, .ref z38, .int 0, .ref z39, .ref z40, .ref z41, .ref z42, .int 0, .ref z13, .ref z14, .ref z15, .ref z16, .int 0, .ref z17, .ref z18, .ref z43]))] := hD
  subst hr3
  refine lv_irem hx hb dX12_passAt_18 (by decide) ?_
  refine wk_i 0 (by decide) ?_
  have hPc := hP.sub (ws' := []) [] rfl
  have hDc := hD.sub (ws' := []) [] (by decide) rfl
  have hFc := va_free (wc := []) hD hS hA [] rfl
  refine va_calli (va_runS (As := [.int 0]) (rest := []) ⟨hx, hb, hml, hown, hts⟩ (kX12_passOf_0 l D G  H.size) (va_cwS 1 hts gX12_passAt_X12_passOf rfl rfl rfl (by decide +kernel) ⟨Nat.le_of_ble_eq_true rfl, Nat.le_of_ble_eq_true rfl⟩) ⟨wB_blind, wB_pre hPc hK hDc hN⟩ rfl rfl hl.1 rfl (lv_room (Nat.le_of_ble_eq_true rfl)) dX12_passAt_19 ⟨Nat.le_of_ble_eq_true rfl, Nat.le_of_ble_eq_true rfl⟩) hS (fun q _ h => hFc q h) hFc (fun r4 u t H1 locs ht hvm hr4 hB hz1 hk1 hS => ?_)
  obtain ⟨hP, hD⟩ := va_join (wr := [(h0, .inr (12, [.ref z0, .ref z1, .ref z2, .ref z3, .ref z4, .ref z5, .ref z20, .ref z21, .ref z22, .ref z23, .ref z24, .ref z25, .int 0, .ref z26, .ref z27, .ref z28, .int 9, .int 0, .int 0, .ref z6, .ref z29, .ref z7, .int 0, .int 2, .ref z19, .ref z8, .ref z9, .ref z10, .int 0, .ref z11, .int 0, .ref z30, .ref z31, .ref z32, .ref z33, .int 0, .ref z12, .int 0, .int 0, .ref z34, .ref z35, .ref z36, .ref z37, .int 0, .int 0, .int 0, .int 0, .ref z38, .int 0, .ref z39, .ref z40, .ref z41, .ref z42, .int 0, .ref z13, .ref z14, .ref z15, .ref z16, .int 0, .ref z17, .ref z18, .ref z43]))]) (w1 := []) hP hD [] [0] rfl rfl (by decide) (by decide) hk1 hFc wP_nil wD_nil
  clear hPc hDc
  generalize H1 = H at hP hS ⊢
  have hP : va_P D vwCl [(h0, .inr (12, [.ref z0, .ref z1, .ref z2, .ref z3, .ref z4, .ref z5, .ref z20, .ref z21, .ref z22, .ref z23, .ref z24, .ref z25, .int 0, .ref z26, .ref z27, .ref z28, .int 9, .int 0, .int 0, .ref z6, .ref z29, .ref z7, .int 0, .int 2, .ref z19, .ref z8, .ref z9, .ref z10, .int 0, .ref z11, .int 0, .ref z30, .ref z31, .ref z32, .ref z33, .int 0, .ref z12, .int 0, .int 0, .ref z34, .ref z35, .ref z36, .ref z37, .int 0, .int 0, .int 0, .int 0, .ref z38, .int 0, .ref z39, .ref z40, .ref z41, .ref z42, .int 0, .ref z13, .ref z14, .ref z15, .ref z16, .int 0, .ref z17, .ref z18, .ref z43]))] H := hP
  have hD : va_D A [(h0, .inr (12, [.ref z0, .ref z1, .ref z2, .ref z3, .ref z4, .ref z5, .ref z20, .ref z21, .ref z22, .ref z23, .ref z24, .ref z25, .int 0, .ref z26, .ref z27, .ref z28, .int 9, .int 0, .int 0, .ref z6, .ref z29, .ref z7, .int 0, .int 2, .ref z19, .ref z8, .ref z9, .ref z10, .int 0, .ref z11, .int 0, .ref z30, .ref z31, .ref z32, .ref z33, .int 0, .ref z12, .int 0, .int 0, .ref z34, .ref z35, .ref z36, .ref z37, .int 0, .int 0, .int 0, .int 0, .ref z38, .int 0, .ref z39, .ref z40, .ref z41, .ref z42, .int 0, .ref z13, .ref z14, .ref z15, .ref z16, .int 0, .ref z17, .ref z18, .ref z43]))] := hD
  subst hr4
  have hP9 := hP.sub (ws' := [(h0, .inr (12, [.ref z0, .ref z1, .ref z2, .ref z3, .ref z4, .ref z5, .ref z20, .ref z21, .ref z22, .ref z23, .ref z24, .ref z25, .int 0, .ref z26, .ref z27, .ref z28, .int 9, .int 0, .int 0, .ref z6, .ref z29, .ref z7, .int 0, .int 2, .ref z19, .ref z8, .ref z9, .ref z10, .int 0, .ref z11, .int 0, .ref z30, .ref z31, .ref z32, .ref z33, .int 0, .ref z12, .int 0, .int 0, .ref z34, .ref z35, .ref z36, .ref z37, .int 0, .int 0, .int 0, .int 0, .ref z38, .int 0, .ref z39, .ref z40, .ref z41, .ref z42, .int 0, .ref z13, .ref z14, .ref z15, .ref z16, .int 0, .ref z17, .ref z18, .ref z43]))]) [0] rfl
  have hD9 := hD.sub (ws' := [(h0, .inr (12, [.ref z0, .ref z1, .ref z2, .ref z3, .ref z4, .ref z5, .ref z20, .ref z21, .ref z22, .ref z23, .ref z24, .ref z25, .int 0, .ref z26, .ref z27, .ref z28, .int 9, .int 0, .int 0, .ref z6, .ref z29, .ref z7, .int 0, .int 2, .ref z19, .ref z8, .ref z9, .ref z10, .int 0, .ref z11, .int 0, .ref z30, .ref z31, .ref z32, .ref z33, .int 0, .ref z12, .int 0, .int 0, .ref z34, .ref z35, .ref z36, .ref z37, .int 0, .int 0, .int 0, .int 0, .ref z38, .int 0, .ref z39, .ref z40, .ref z41, .ref z42, .int 0, .ref z13, .ref z14, .ref z15, .ref z16, .int 0, .ref z17, .ref z18, .ref z43]))]) [0] (by decide) rfl
  exact W.iret (v := 1) hx hb hr (fun t ht hW => ⟨⟨1, (), rfl, rfl, ⟨by rw [ht]; exact hP9, va_K.moved hW.alike hK, hD9⟩⟩, hS.F ht⟩) hS.2.2 dX12_passAt_22

set_option maxHeartbeats 4000000 in
set_option maxRecDepth 100000 in
/-- X12_passAt -/
theorem kX12_passAt_1_1_0 (l : Launch) (D : va_G) (G : tyG) (h0 : Nat) (z0 : Nat) (z1 : Nat) (z2 : Nat) (z3 : Nat) (z4 : Nat) (z5 : Nat) (z20 : Nat) (z21 : Nat) (z22 : Nat) (z23 : Nat) (z24 : Nat) (z25 : Nat) (z26 : Nat) (z27 : Nat) (z28 : Nat) (z6 : Nat) (z29 : Nat) (z7 : Nat) (z19 : Nat) (z8 : Nat) (z9 : Nat) (z10 : Nat) (z11 : Nat) (z30 : Nat) (z31 : Nat) (z32 : Nat) (z33 : Nat) (z12 : Nat) (z34 : Nat) (z35 : Nat) (z36 : Nat) (z37 : Nat) (z38 : Nat) (z39 : Nat) (z40 : Nat) (z41 : Nat) (z42 : Nat) (z13 : Nat) (z14 : Nat) (z15 : Nat) (z16 : Nat) (z17 : Nat) (z18 : Nat) (z43 : Nat) (sz : Nat) : Met l yX12_passAt wsX12_passAt ({ frames := 1, cells := 0, slots := 0, locals := 23 }) (va_Pc [.ref h0, .int 1, .int 1, .int 0] (wB D G sz [(h0, .inr (12, [.ref z0, .ref z1, .ref z2, .ref z3, .ref z4, .ref z5, .ref z20, .ref z21, .ref z22, .ref z23, .ref z24, .ref z25, .int 0, .ref z26, .ref z27, .ref z28, .int 9, .int 0, .int 0, .ref z6, .ref z29, .ref z7, .int 0, .int 2, .ref z19, .ref z8, .ref z9, .ref z10, .int 0, .ref z11, .int 0, .ref z30, .ref z31, .ref z32, .ref z33, .int 0, .ref z12, .int 0, .int 0, .ref z34, .ref z35, .ref z36, .ref z37, .int 0, .int 0, .int 0, .int 0, .ref z38, .int 0, .ref z39, .ref z40, .ref z41, .ref z42, .int 0, .ref z13, .ref z14, .ref z15, .ref z16, .int 0, .ref z17, .ref z18, .ref z43]))])) (va_Qi (fun (r : Int32) (_ : Unit) => r = (-1)) (fun _ t => wS D G (va_A [(h0, .inr (12, [.ref z0, .ref z1, .ref z2, .ref z3, .ref z4, .ref z5, .ref z20, .ref z21, .ref z22, .ref z23, .ref z24, .ref z25, .int 0, .ref z26, .ref z27, .ref z28, .int 9, .int 0, .int 0, .ref z6, .ref z29, .ref z7, .int 0, .int 2, .ref z19, .ref z8, .ref z9, .ref z10, .int 0, .ref z11, .int 0, .ref z30, .ref z31, .ref z32, .ref z33, .int 0, .ref z12, .int 0, .int 0, .ref z34, .ref z35, .ref z36, .ref z37, .int 0, .int 0, .int 0, .int 0, .ref z38, .int 0, .ref z39, .ref z40, .ref z41, .ref z42, .int 0, .ref z13, .ref z14, .ref z15, .ref z16, .int 0, .ref z17, .ref z18, .ref z43]))] sz) [(h0, .inr (12, [.ref z0, .ref z1, .ref z2, .ref z3, .ref z4, .ref z5, .ref z20, .ref z21, .ref z22, .ref z23, .ref z24, .ref z25, .int 0, .ref z26, .ref z27, .ref z28, .int 9, .int 0, .int 0, .ref z6, .ref z29, .ref z7, .int 0, .int 2, .ref z19, .ref z8, .ref z9, .ref z10, .int 0, .ref z11, .int 0, .ref z30, .ref z31, .ref z32, .ref z33, .int 0, .ref z12, .int 0, .int 0, .ref z34, .ref z35, .ref z36, .ref z37, .int 0, .int 0, .int 0, .int 0, .ref z38, .int 0, .ref z39, .ref z40, .ref z41, .ref z42, .int 0, .ref z13, .ref z14, .ref z15, .ref z16, .int 0, .ref z17, .ref z18, .ref z43]))] t) (va_A [(h0, .inr (12, [.ref z0, .ref z1, .ref z2, .ref z3, .ref z4, .ref z5, .ref z20, .ref z21, .ref z22, .ref z23, .ref z24, .ref z25, .int 0, .ref z26, .ref z27, .ref z28, .int 9, .int 0, .int 0, .ref z6, .ref z29, .ref z7, .int 0, .int 2, .ref z19, .ref z8, .ref z9, .ref z10, .int 0, .ref z11, .int 0, .ref z30, .ref z31, .ref z32, .ref z33, .int 0, .ref z12, .int 0, .int 0, .ref z34, .ref z35, .ref z36, .ref z37, .int 0, .int 0, .int 0, .int 0, .ref z38, .int 0, .ref z39, .ref z40, .ref z41, .ref z42, .int 0, .ref z13, .ref z14, .ref z15, .ref z16, .int 0, .ref z17, .ref z18, .ref z43]))] sz)) 0 0 (va_A [(h0, .inr (12, [.ref z0, .ref z1, .ref z2, .ref z3, .ref z4, .ref z5, .ref z20, .ref z21, .ref z22, .ref z23, .ref z24, .ref z25, .int 0, .ref z26, .ref z27, .ref z28, .int 9, .int 0, .int 0, .ref z6, .ref z29, .ref z7, .int 0, .int 2, .ref z19, .ref z8, .ref z9, .ref z10, .int 0, .ref z11, .int 0, .ref z30, .ref z31, .ref z32, .ref z33, .int 0, .ref z12, .int 0, .int 0, .ref z34, .ref z35, .ref z36, .ref z37, .int 0, .int 0, .int 0, .int 0, .ref z38, .int 0, .ref z39, .ref z40, .ref z41, .ref z42, .int 0, .ref z13, .ref z14, .ref z15, .ref z16, .int 0, .ref z17, .ref z18, .ref z43]))] sz) := by
  refine Met.ofW (cc := cX12_passAt) (maxL := 4) (ret := (some .int)) (by decide) rfl ?_
  intro p e s m args below meth c s₁ B hml hv
  obtain ⟨rfl, hsz, hP, hK, hD0, hN⟩ := hv
  have hx := B.exec
  have hb := B.bytes
  have hr := B.returns
  have hts := atoms_spec (ws := wsX12_passAt) B.pre
  have hown : s.vm.findClass RX12 = some m.cls := findClass_of_methodNamed B.named
  have hlocks := B.notSynchronized
  subst hsz
  have hD := hD0.self (sz := s.heap.size)
  generalize hAe : va_A [(h0, .inr (12, [.ref z0, .ref z1, .ref z2, .ref z3, .ref z4, .ref z5, .ref z20, .ref z21, .ref z22, .ref z23, .ref z24, .ref z25, .int 0, .ref z26, .ref z27, .ref z28, .int 9, .int 0, .int 0, .ref z6, .ref z29, .ref z7, .int 0, .int 2, .ref z19, .ref z8, .ref z9, .ref z10, .int 0, .ref z11, .int 0, .ref z30, .ref z31, .ref z32, .ref z33, .int 0, .ref z12, .int 0, .int 0, .ref z34, .ref z35, .ref z36, .ref z37, .int 0, .int 0, .int 0, .int 0, .ref z38, .int 0, .ref z39, .ref z40, .ref z41, .ref z42, .int 0, .ref z13, .ref z14, .ref z15, .ref z16, .int 0, .ref z17, .ref z18, .ref z43]))] s.heap.size = A at hD ⊢
  have hA : ∀ q : Nat, s.heap.size ≤ q → A q := fun q h => by rw [← hAe]; exact Or.inr h
  have hS : va_S A s.heap s.heap [] := va_S.rf
  have hP : va_P D vwCl [(h0, .inr (12, [.ref z0, .ref z1, .ref z2, .ref z3, .ref z4, .ref z5, .ref z20, .ref z21, .ref z22, .ref z23, .ref z24, .ref z25, .int 0, .ref z26, .ref z27, .ref z28, .int 9, .int 0, .int 0, .ref z6, .ref z29, .ref z7, .int 0, .int 2, .ref z19, .ref z8, .ref z9, .ref z10, .int 0, .ref z11, .int 0, .ref z30, .ref z31, .ref z32, .ref z33, .int 0, .ref z12, .int 0, .int 0, .ref z34, .ref z35, .ref z36, .ref z37, .int 0, .int 0, .int 0, .int 0, .ref z38, .int 0, .ref z39, .ref z40, .ref z41, .ref z42, .int 0, .ref z13, .ref z14, .ref z15, .ref z16, .int 0, .ref z17, .ref z18, .ref z43]))] s.heap := hP
  have hl := lv_entry ([.ref h0, .int 1, .int 1, .int 0]) (n := 4) (Nat.le_of_ble_eq_true rfl)
  rw [lg_entry_eq]
  generalize (lg_sl ([.ref h0, .int 1, .int 1, .int 0]) ++ List.replicate (4 - (lg_sl ([.ref h0, .int 1, .int 1, .int 0])).length) Slot.unset).toArray = ls at hl ⊢
  have hl : lv_has ls 4 [(0, .ref h0), (1, .int 1), (2, .int 1), (3, .int 0)] := hl
  refine lv_iload_n hx hb dX12_passAt_0 rfl (lv_at hl 1 rfl) ?_
  refine lv_aload_n hx hb dX12_passAt_1 rfl (lv_at hl 0 rfl) ?_
  have hPc := hP.sub (ws' := [(h0, .inr (12, [.ref z0, .ref z1, .ref z2, .ref z3, .ref z4, .ref z5, .ref z20, .ref z21, .ref z22, .ref z23, .ref z24, .ref z25, .int 0, .ref z26, .ref z27, .ref z28, .int 9, .int 0, .int 0, .ref z6, .ref z29, .ref z7, .int 0, .int 2, .ref z19, .ref z8, .ref z9, .ref z10, .int 0, .ref z11, .int 0, .ref z30, .ref z31, .ref z32, .ref z33, .int 0, .ref z12, .int 0, .int 0, .ref z34, .ref z35, .ref z36, .ref z37, .int 0, .int 0, .int 0, .int 0, .ref z38, .int 0, .ref z39, .ref z40, .ref z41, .ref z42, .int 0, .ref z13, .ref z14, .ref z15, .ref z16, .int 0, .ref z17, .ref z18, .ref z43]))]) [0] rfl
  have hDc := hD.sub (ws' := [(h0, .inr (12, [.ref z0, .ref z1, .ref z2, .ref z3, .ref z4, .ref z5, .ref z20, .ref z21, .ref z22, .ref z23, .ref z24, .ref z25, .int 0, .ref z26, .ref z27, .ref z28, .int 9, .int 0, .int 0, .ref z6, .ref z29, .ref z7, .int 0, .int 2, .ref z19, .ref z8, .ref z9, .ref z10, .int 0, .ref z11, .int 0, .ref z30, .ref z31, .ref z32, .ref z33, .int 0, .ref z12, .int 0, .int 0, .ref z34, .ref z35, .ref z36, .ref z37, .int 0, .int 0, .int 0, .int 0, .ref z38, .int 0, .ref z39, .ref z40, .ref z41, .ref z42, .int 0, .ref z13, .ref z14, .ref z15, .ref z16, .int 0, .ref z17, .ref z18, .ref z43]))]) [0] (by decide) rfl
  have hFc := va_free (wc := [(h0, .inr (12, [.ref z0, .ref z1, .ref z2, .ref z3, .ref z4, .ref z5, .ref z20, .ref z21, .ref z22, .ref z23, .ref z24, .ref z25, .int 0, .ref z26, .ref z27, .ref z28, .int 9, .int 0, .int 0, .ref z6, .ref z29, .ref z7, .int 0, .int 2, .ref z19, .ref z8, .ref z9, .ref z10, .int 0, .ref z11, .int 0, .ref z30, .ref z31, .ref z32, .ref z33, .int 0, .ref z12, .int 0, .int 0, .ref z34, .ref z35, .ref z36, .ref z37, .int 0, .int 0, .int 0, .int 0, .ref z38, .int 0, .ref z39, .ref z40, .ref z41, .ref z42, .int 0, .ref z13, .ref z14, .ref z15, .ref z16, .int 0, .ref z17, .ref z18, .ref z43]))]) hD hS hA [0] rfl
  refine va_calli (va_runV (As := []) (rest := [.int 1]) ⟨hx, hb, hml, hown, hts⟩ (kX12_gens l D G h0 z0 z1 z2 z3 z4 z5 z20 z21 z22 z23 z24 z25 z26 z27 z28 z6 z29 z7 z19 z8 z9 z10 z11 z30 z31 z32 z33 z12 z34 z35 z36 z37 z38 z39 z40 z41 z42 z13 z14 z15 z16 z17 z18 z43 0 s.heap.size) (cwV 0 hts gX12_passAt_X12_gens rfl rfl rfl (by decide +kernel) ⟨Nat.le_of_ble_eq_true rfl, Nat.le_of_ble_eq_true rfl⟩) ⟨wB_blind, va_recv hK hPc (ci := 12) (q0 := 0) rfl rfl, wB_pre hPc hK hDc hN⟩ rfl rfl hl.1 rfl (lv_room (Nat.le_of_ble_eq_true rfl)) dX12_passAt_2 ⟨Nat.le_of_ble_eq_true rfl, Nat.le_of_ble_eq_true rfl⟩) hS (fun q _ h => hFc q h) hFc (fun r1 u t H1 locs ht hvm hr1 hB hz1 hk1 hS => ?_)
  obtain ⟨hP1, hK1, hD1⟩ := hB
  rw [ht] at hP1
  obtain ⟨hP, hD⟩ := va_join (wr := []) (w1 := [(h0, .inr (12, [.ref z0, .ref z1, .ref z2, .ref z3, .ref z4, .ref z5, .ref z20, .ref z21, .ref z22, .ref z23, .ref z24, .ref z25, .int 0, .ref z26, .ref z27, .ref z28, .int 9, .int 0, .int 0, .ref z6, .ref z29, .ref z7, .int 0, .int 2, .ref z19, .ref z8, .ref z9, .ref z10, .int 0, .ref z11, .int 0, .ref z30, .ref z31, .ref z32, .ref z33, .int 0, .ref z12, .int 0, .int 0, .ref z34, .ref z35, .ref z36, .ref z37, .int 0, .int 0, .int 0, .int 0, .ref z38, .int 0, .ref z39, .ref z40, .ref z41, .ref z42, .int 0, .ref z13, .ref z14, .ref z15, .ref z16, .int 0, .ref z17, .ref z18, .ref z43]))]) hP hD [0] [] rfl rfl (by decide) (by decide) hk1 hFc hP1 hD1
  clear hPc hDc
  generalize H1 = H at hP hS ⊢
  have hP : va_P D vwCl [(h0, .inr (12, [.ref z0, .ref z1, .ref z2, .ref z3, .ref z4, .ref z5, .ref z20, .ref z21, .ref z22, .ref z23, .ref z24, .ref z25, .int 0, .ref z26, .ref z27, .ref z28, .int 9, .int 0, .int 0, .ref z6, .ref z29, .ref z7, .int 0, .int 2, .ref z19, .ref z8, .ref z9, .ref z10, .int 0, .ref z11, .int 0, .ref z30, .ref z31, .ref z32, .ref z33, .int 0, .ref z12, .int 0, .int 0, .ref z34, .ref z35, .ref z36, .ref z37, .int 0, .int 0, .int 0, .int 0, .ref z38, .int 0, .ref z39, .ref z40, .ref z41, .ref z42, .int 0, .ref z13, .ref z14, .ref z15, .ref z16, .int 0, .ref z17, .ref z18, .ref z43]))] H := hP
  have hD : va_D A [(h0, .inr (12, [.ref z0, .ref z1, .ref z2, .ref z3, .ref z4, .ref z5, .ref z20, .ref z21, .ref z22, .ref z23, .ref z24, .ref z25, .int 0, .ref z26, .ref z27, .ref z28, .int 9, .int 0, .int 0, .ref z6, .ref z29, .ref z7, .int 0, .int 2, .ref z19, .ref z8, .ref z9, .ref z10, .int 0, .ref z11, .int 0, .ref z30, .ref z31, .ref z32, .ref z33, .int 0, .ref z12, .int 0, .int 0, .ref z34, .ref z35, .ref z36, .ref z37, .int 0, .int 0, .int 0, .int 0, .ref z38, .int 0, .ref z39, .ref z40, .ref z41, .ref z42, .int 0, .ref z13, .ref z14, .ref z15, .ref z16, .int 0, .ref z17, .ref z18, .ref z43]))] := hD
  subst hr1
  refine lv_iload_n hx hb dX12_passAt_5 rfl (lv_at hl 2 rfl) ?_
  refine lv_iconst (v := 1) hx hb dX12_passAt_6 (by decide) ?_
  refine lv_isub hx hb dX12_passAt_7 ?_
  refine wk_i 0 (by decide) ?_
  refine lv_iload_n hx hb dX12_passAt_8 rfl (lv_at hl 3 rfl) ?_
  refine lv_isub hx hb dX12_passAt_9 ?_
  refine wk_i 0 (by decide) ?_
  have hPc := hP.sub (ws' := []) [] rfl
  have hDc := hD.sub (ws' := []) [] (by decide) rfl
  have hFc := va_free (wc := []) hD hS hA [] rfl
  refine va_calli (va_runS (As := [.int 2, .int 0]) (rest := [.int 1]) ⟨hx, hb, hml, hown, hts⟩ (kX12_power_0 l D G  H.size) (va_cwS 2 hts gX12_passAt_X12_power rfl rfl rfl (by decide +kernel) ⟨Nat.le_of_ble_eq_true rfl, Nat.le_of_ble_eq_true rfl⟩) ⟨wB_blind, wB_pre hPc hK hDc hN⟩ rfl rfl hl.1 rfl (lv_room (Nat.le_of_ble_eq_true rfl)) dX12_passAt_10 ⟨Nat.le_of_ble_eq_true rfl, Nat.le_of_ble_eq_true rfl⟩) hS (fun q _ h => hFc q h) hFc (fun r2 u t H1 locs ht hvm hr2 hB hz1 hk1 hS => ?_)
  obtain ⟨hP, hD⟩ := va_join (wr := [(h0, .inr (12, [.ref z0, .ref z1, .ref z2, .ref z3, .ref z4, .ref z5, .ref z20, .ref z21, .ref z22, .ref z23, .ref z24, .ref z25, .int 0, .ref z26, .ref z27, .ref z28, .int 9, .int 0, .int 0, .ref z6, .ref z29, .ref z7, .int 0, .int 2, .ref z19, .ref z8, .ref z9, .ref z10, .int 0, .ref z11, .int 0, .ref z30, .ref z31, .ref z32, .ref z33, .int 0, .ref z12, .int 0, .int 0, .ref z34, .ref z35, .ref z36, .ref z37, .int 0, .int 0, .int 0, .int 0, .ref z38, .int 0, .ref z39, .ref z40, .ref z41, .ref z42, .int 0, .ref z13, .ref z14, .ref z15, .ref z16, .int 0, .ref z17, .ref z18, .ref z43]))]) (w1 := []) hP hD [] [0] rfl rfl (by decide) (by decide) hk1 hFc wP_nil wD_nil
  clear hPc hDc
  generalize H1 = H at hP hS ⊢
  have hP : va_P D vwCl [(h0, .inr (12, [.ref z0, .ref z1, .ref z2, .ref z3, .ref z4, .ref z5, .ref z20, .ref z21, .ref z22, .ref z23, .ref z24, .ref z25, .int 0, .ref z26, .ref z27, .ref z28, .int 9, .int 0, .int 0, .ref z6, .ref z29, .ref z7, .int 0, .int 2, .ref z19, .ref z8, .ref z9, .ref z10, .int 0, .ref z11, .int 0, .ref z30, .ref z31, .ref z32, .ref z33, .int 0, .ref z12, .int 0, .int 0, .ref z34, .ref z35, .ref z36, .ref z37, .int 0, .int 0, .int 0, .int 0, .ref z38, .int 0, .ref z39, .ref z40, .ref z41, .ref z42, .int 0, .ref z13, .ref z14, .ref z15, .ref z16, .int 0, .ref z17, .ref z18, .ref z43]))] H := hP
  have hD : va_D A [(h0, .inr (12, [.ref z0, .ref z1, .ref z2, .ref z3, .ref z4, .ref z5, .ref z20, .ref z21, .ref z22, .ref z23, .ref z24, .ref z25, .int 0, .ref z26, .ref z27, .ref z28, .int 9, .int 0, .int 0, .ref z6, .ref z29, .ref z7, .int 0, .int 2, .ref z19, .ref z8, .ref z9, .ref z10, .int 0, .ref z11, .int 0, .ref z30, .ref z31, .ref z32, .ref z33, .int 0, .ref z12, .int 0, .int 0, .ref z34, .ref z35, .ref z36, .ref z37, .int 0, .int 0, .int 0, .int 0, .ref z38, .int 0, .ref z39, .ref z40, .ref z41, .ref z42, .int 0, .ref z13, .ref z14, .ref z15, .ref z16, .int 0, .ref z17, .ref z18, .ref z43]))] := hD
  subst hr2
  refine lv_idiv hx hb dX12_passAt_13 (by decide) ?_
  refine wk_i 1 (by decide) ?_
  refine lv_aload_n hx hb dX12_passAt_14 rfl (lv_at hl 0 rfl) ?_
  have hPc := hP.sub (ws' := [(h0, .inr (12, [.ref z0, .ref z1, .ref z2, .ref z3, .ref z4, .ref z5, .ref z20, .ref z21, .ref z22, .ref z23, .ref z24, .ref z25, .int 0, .ref z26, .ref z27, .ref z28, .int 9, .int 0, .int 0, .ref z6, .ref z29, .ref z7, .int 0, .int 2, .ref z19, .ref z8, .ref z9, .ref z10, .int 0, .ref z11, .int 0, .ref z30, .ref z31, .ref z32, .ref z33, .int 0, .ref z12, .int 0, .int 0, .ref z34, .ref z35, .ref z36, .ref z37, .int 0, .int 0, .int 0, .int 0, .ref z38, .int 0, .ref z39, .ref z40, .ref z41, .ref z42, .int 0, .ref z13, .ref z14, .ref z15, .ref z16, .int 0, .ref z17, .ref z18, .ref z43]))]) [0] rfl
  have hDc := hD.sub (ws' := [(h0, .inr (12, [.ref z0, .ref z1, .ref z2, .ref z3, .ref z4, .ref z5, .ref z20, .ref z21, .ref z22, .ref z23, .ref z24, .ref z25, .int 0, .ref z26, .ref z27, .ref z28, .int 9, .int 0, .int 0, .ref z6, .ref z29, .ref z7, .int 0, .int 2, .ref z19, .ref z8, .ref z9, .ref z10, .int 0, .ref z11, .int 0, .ref z30, .ref z31, .ref z32, .ref z33, .int 0, .ref z12, .int 0, .int 0, .ref z34, .ref z35, .ref z36, .ref z37, .int 0, .int 0, .int 0, .int 0, .ref z38, .int 0, .ref z39, .ref z40, .ref z41, .ref z42, .int 0, .ref z13, .ref z14, .ref z15, .ref z16, .int 0, .ref z17, .ref z18, .ref z43]))]) [0] (by decide) rfl
  have hFc := va_free (wc := [(h0, .inr (12, [.ref z0, .ref z1, .ref z2, .ref z3, .ref z4, .ref z5, .ref z20, .ref z21, .ref z22, .ref z23, .ref z24, .ref z25, .int 0, .ref z26, .ref z27, .ref z28, .int 9, .int 0, .int 0, .ref z6, .ref z29, .ref z7, .int 0, .int 2, .ref z19, .ref z8, .ref z9, .ref z10, .int 0, .ref z11, .int 0, .ref z30, .ref z31, .ref z32, .ref z33, .int 0, .ref z12, .int 0, .int 0, .ref z34, .ref z35, .ref z36, .ref z37, .int 0, .int 0, .int 0, .int 0, .ref z38, .int 0, .ref z39, .ref z40, .ref z41, .ref z42, .int 0, .ref z13, .ref z14, .ref z15, .ref z16, .int 0, .ref z17, .ref z18, .ref z43]))]) hD hS hA [0] rfl
  refine va_calli (va_runV (As := []) (rest := [.int 1]) ⟨hx, hb, hml, hown, hts⟩ (kX12_gens l D G h0 z0 z1 z2 z3 z4 z5 z20 z21 z22 z23 z24 z25 z26 z27 z28 z6 z29 z7 z19 z8 z9 z10 z11 z30 z31 z32 z33 z12 z34 z35 z36 z37 z38 z39 z40 z41 z42 z13 z14 z15 z16 z17 z18 z43 0 H.size) (cwV 0 hts gX12_passAt_X12_gens rfl rfl rfl (by decide +kernel) ⟨Nat.le_of_ble_eq_true rfl, Nat.le_of_ble_eq_true rfl⟩) ⟨wB_blind, va_recv hK hPc (ci := 12) (q0 := 0) rfl rfl, wB_pre hPc hK hDc hN⟩ rfl rfl hl.1 rfl (lv_room (Nat.le_of_ble_eq_true rfl)) dX12_passAt_15 ⟨Nat.le_of_ble_eq_true rfl, Nat.le_of_ble_eq_true rfl⟩) hS (fun q _ h => hFc q h) hFc (fun r3 u t H1 locs ht hvm hr3 hB hz1 hk1 hS => ?_)
  obtain ⟨hP1, hK1, hD1⟩ := hB
  rw [ht] at hP1
  obtain ⟨hP, hD⟩ := va_join (wr := []) (w1 := [(h0, .inr (12, [.ref z0, .ref z1, .ref z2, .ref z3, .ref z4, .ref z5, .ref z20, .ref z21, .ref z22, .ref z23, .ref z24, .ref z25, .int 0, .ref z26, .ref z27, .ref z28, .int 9, .int 0, .int 0, .ref z6, .ref z29, .ref z7, .int 0, .int 2, .ref z19, .ref z8, .ref z9, .ref z10, .int 0, .ref z11, .int 0, .ref z30, .ref z31, .ref z32, .ref z33, .int 0, .ref z12, .int 0, .int 0, .ref z34, .ref z35, .ref z36, .ref z37, .int 0, .int 0, .int 0, .int 0, .ref z38, .int 0, .ref z39, .ref z40, .ref z41, .ref z42, .int 0, .ref z13, .ref z14, .ref z15, .ref z16, .int 0, .ref z17, .ref z18, .ref z43]))]) hP hD [0] [] rfl rfl (by decide) (by decide) hk1 hFc hP1 hD1
  clear hPc hDc
  generalize H1 = H at hP hS ⊢
  have hP : va_P D vwCl [(h0, .inr (12, [.ref z0, .ref z1, .ref z2, .ref z3, .ref z4, .ref z5, .ref z20, .ref z21, .ref z22, .ref z23, .ref z24, .ref z25, .int 0, .ref z26, .ref z27, .ref z28, .int 9, .int 0, .int 0, .ref z6, .ref z29, .ref z7, .int 0, .int 2, .ref z19, .ref z8, .ref z9, .ref z10, .int 0, .ref z11, .int 0, .ref z30, .ref z31, .ref z32, .ref z33, .int 0, .ref z12, .int 0, .int 0, .ref z34, .ref z35, .ref z36, .ref z37, .int 0, .int 0, .int 0, .int 0, .ref z38, .int 0, .ref z39, .ref z40, .ref z41, .ref z42, .int 0, .ref z13, .ref z14, .ref z15, .ref z16, .int 0, .ref z17, .ref z18, .ref z43]))] H := hP
  have hD : va_D A [(h0, .inr (12, [.ref z0, .ref z1, .ref z2, .ref z3, .ref z4, .ref z5, .ref z20, .ref z21, .ref z22, .ref z23, .ref z24, .ref z25, .int 0, .ref z26, .ref z27, .ref z28, .int 9, .int 0, .int 0, .ref z6, .ref z29, .ref z7, .int 0, .int 2, .ref z19, .ref z8, .ref z9, .ref z10, .int 0, .ref z11, .int 0, .ref z30, .ref z31, .ref z32, .ref z33, .int 0, .ref z12, .int 0, .int 0, .ref z34, .ref z35, .ref z36, .ref z37, .int 0, .int 0, .int 0, .int 0, .ref z38, .int 0, .ref z39, .ref z40, .ref z41, .ref z42, .int 0, .ref z13, .ref z14, .ref z15, .ref z16, .int 0, .ref z17, .ref z18, .ref z43]))] := hD
  subst hr3
  refine lv_irem hx hb dX12_passAt_18 (by decide) ?_
  refine wk_i 1 (by decide) ?_
  have hPc := hP.sub (ws' := []) [] rfl
  have hDc := hD.sub (ws' := []) [] (by decide) rfl
  have hFc := va_free (wc := []) hD hS hA [] rfl
  refine va_calli (va_runS (As := [.int 1]) (rest := []) ⟨hx, hb, hml, hown, hts⟩ (kX12_passOf_1 l D G  H.size) (va_cwS 1 hts gX12_passAt_X12_passOf rfl rfl rfl (by decide +kernel) ⟨Nat.le_of_ble_eq_true rfl, Nat.le_of_ble_eq_true rfl⟩) ⟨wB_blind, wB_pre hPc hK hDc hN⟩ rfl rfl hl.1 rfl (lv_room (Nat.le_of_ble_eq_true rfl)) dX12_passAt_19 ⟨Nat.le_of_ble_eq_true rfl, Nat.le_of_ble_eq_true rfl⟩) hS (fun q _ h => hFc q h) hFc (fun r4 u t H1 locs ht hvm hr4 hB hz1 hk1 hS => ?_)
  obtain ⟨hP, hD⟩ := va_join (wr := [(h0, .inr (12, [.ref z0, .ref z1, .ref z2, .ref z3, .ref z4, .ref z5, .ref z20, .ref z21, .ref z22, .ref z23, .ref z24, .ref z25, .int 0, .ref z26, .ref z27, .ref z28, .int 9, .int 0, .int 0, .ref z6, .ref z29, .ref z7, .int 0, .int 2, .ref z19, .ref z8, .ref z9, .ref z10, .int 0, .ref z11, .int 0, .ref z30, .ref z31, .ref z32, .ref z33, .int 0, .ref z12, .int 0, .int 0, .ref z34, .ref z35, .ref z36, .ref z37, .int 0, .int 0, .int 0, .int 0, .ref z38, .int 0, .ref z39, .ref z40, .ref z41, .ref z42, .int 0, .ref z13, .ref z14, .ref z15, .ref z16, .int 0, .ref z17, .ref z18, .ref z43]))]) (w1 := []) hP hD [] [0] rfl rfl (by decide) (by decide) hk1 hFc wP_nil wD_nil
  clear hPc hDc
  generalize H1 = H at hP hS ⊢
  have hP : va_P D vwCl [(h0, .inr (12, [.ref z0, .ref z1, .ref z2, .ref z3, .ref z4, .ref z5, .ref z20, .ref z21, .ref z22, .ref z23, .ref z24, .ref z25, .int 0, .ref z26, .ref z27, .ref z28, .int 9, .int 0, .int 0, .ref z6, .ref z29, .ref z7, .int 0, .int 2, .ref z19, .ref z8, .ref z9, .ref z10, .int 0, .ref z11, .int 0, .ref z30, .ref z31, .ref z32, .ref z33, .int 0, .ref z12, .int 0, .int 0, .ref z34, .ref z35, .ref z36, .ref z37, .int 0, .int 0, .int 0, .int 0, .ref z38, .int 0, .ref z39, .ref z40, .ref z41, .ref z42, .int 0, .ref z13, .ref z14, .ref z15, .ref z16, .int 0, .ref z17, .ref z18, .ref z43]))] H := hP
  have hD : va_D A [(h0, .inr (12, [.ref z0, .ref z1, .ref z2, .ref z3, .ref z4, .ref z5, .ref z20, .ref z21, .ref z22, .ref z23, .ref z24, .ref z25, .int 0, .ref z26, .ref z27, .ref z28, .int 9, .int 0, .int 0, .ref z6, .ref z29, .ref z7, .int 0, .int 2, .ref z19, .ref z8, .ref z9, .ref z10, .int 0, .ref z11, .int 0, .ref z30, .ref z31, .ref z32, .ref z33, .int 0, .ref z12, .int 0, .int 0, .ref z34, .ref z35, .ref z36, .ref z37, .int 0, .int 0, .int 0, .int 0, .ref z38, .int 0, .ref z39, .ref z40, .ref z41, .ref z42, .int 0, .ref z13, .ref z14, .ref z15, .ref z16, .int 0, .ref z17, .ref z18, .ref z43]))] := hD
  subst hr4
  have hP9 := hP.sub (ws' := [(h0, .inr (12, [.ref z0, .ref z1, .ref z2, .ref z3, .ref z4, .ref z5, .ref z20, .ref z21, .ref z22, .ref z23, .ref z24, .ref z25, .int 0, .ref z26, .ref z27, .ref z28, .int 9, .int 0, .int 0, .ref z6, .ref z29, .ref z7, .int 0, .int 2, .ref z19, .ref z8, .ref z9, .ref z10, .int 0, .ref z11, .int 0, .ref z30, .ref z31, .ref z32, .ref z33, .int 0, .ref z12, .int 0, .int 0, .ref z34, .ref z35, .ref z36, .ref z37, .int 0, .int 0, .int 0, .int 0, .ref z38, .int 0, .ref z39, .ref z40, .ref z41, .ref z42, .int 0, .ref z13, .ref z14, .ref z15, .ref z16, .int 0, .ref z17, .ref z18, .ref z43]))]) [0] rfl
  have hD9 := hD.sub (ws' := [(h0, .inr (12, [.ref z0, .ref z1, .ref z2, .ref z3, .ref z4, .ref z5, .ref z20, .ref z21, .ref z22, .ref z23, .ref z24, .ref z25, .int 0, .ref z26, .ref z27, .ref z28, .int 9, .int 0, .int 0, .ref z6, .ref z29, .ref z7, .int 0, .int 2, .ref z19, .ref z8, .ref z9, .ref z10, .int 0, .ref z11, .int 0, .ref z30, .ref z31, .ref z32, .ref z33, .int 0, .ref z12, .int 0, .int 0, .ref z34, .ref z35, .ref z36, .ref z37, .int 0, .int 0, .int 0, .int 0, .ref z38, .int 0, .ref z39, .ref z40, .ref z41, .ref z42, .int 0, .ref z13, .ref z14, .ref z15, .ref z16, .int 0, .ref z17, .ref z18, .ref z43]))]) [0] (by decide) rfl
  exact W.iret (v := (-1)) hx hb hr (fun t ht hW => ⟨⟨(-1), (), rfl, rfl, ⟨by rw [ht]; exact hP9, va_K.moved hW.alike hK, hD9⟩⟩, hS.F ht⟩) hS.2.2 dX12_passAt_22

set_option maxHeartbeats 4000000 in
set_option maxRecDepth 100000 in
/-- X12_passAt -/
theorem kX12_passAt_2_0_0 (l : Launch) (D : va_G) (G : tyG) (h0 : Nat) (z0 : Nat) (z1 : Nat) (z2 : Nat) (z3 : Nat) (z4 : Nat) (z5 : Nat) (z20 : Nat) (z21 : Nat) (z22 : Nat) (z23 : Nat) (z24 : Nat) (z25 : Nat) (z26 : Nat) (z27 : Nat) (z28 : Nat) (z6 : Nat) (z29 : Nat) (z7 : Nat) (z19 : Nat) (z8 : Nat) (z9 : Nat) (z10 : Nat) (z11 : Nat) (z30 : Nat) (z31 : Nat) (z32 : Nat) (z33 : Nat) (z12 : Nat) (z34 : Nat) (z35 : Nat) (z36 : Nat) (z37 : Nat) (z38 : Nat) (z39 : Nat) (z40 : Nat) (z41 : Nat) (z42 : Nat) (z13 : Nat) (z14 : Nat) (z15 : Nat) (z16 : Nat) (z17 : Nat) (z18 : Nat) (z43 : Nat) (sz : Nat) : Met l yX12_passAt wsX12_passAt ({ frames := 1, cells := 0, slots := 0, locals := 23 }) (va_Pc [.ref h0, .int 0, .int 2, .int 0] (wB D G sz [(h0, .inr (12, [.ref z0, .ref z1, .ref z2, .ref z3, .ref z4, .ref z5, .ref z20, .ref z21, .ref z22, .ref z23, .ref z24, .ref z25, .int 0, .ref z26, .ref z27, .ref z28, .int 9, .int 0, .int 0, .ref z6, .ref z29, .ref z7, .int 0, .int 2, .ref z19, .ref z8, .ref z9, .ref z10, .int 0, .ref z11, .int 0, .ref z30, .ref z31, .ref z32, .ref z33, .int 0, .ref z12, .int 0, .int 0, .ref z34, .ref z35, .ref z36, .ref z37, .int 0, .int 0, .int 0, .int 0, .ref z38, .int 0, .ref z39, .ref z40, .ref z41, .ref z42, .int 0, .ref z13, .ref z14, .ref z15, .ref z16, .int 0, .ref z17, .ref z18, .ref z43]))])) (va_Qi (fun (r : Int32) (_ : Unit) => r = 1) (fun _ t => wS D G (va_A [(h0, .inr (12, [.ref z0, .ref z1, .ref z2, .ref z3, .ref z4, .ref z5, .ref z20, .ref z21, .ref z22, .ref z23, .ref z24, .ref z25, .int 0, .ref z26, .ref z27, .ref z28, .int 9, .int 0, .int 0, .ref z6, .ref z29, .ref z7, .int 0, .int 2, .ref z19, .ref z8, .ref z9, .ref z10, .int 0, .ref z11, .int 0, .ref z30, .ref z31, .ref z32, .ref z33, .int 0, .ref z12, .int 0, .int 0, .ref z34, .ref z35, .ref z36, .ref z37, .int 0, .int 0, .int 0, .int 0, .ref z38, .int 0, .ref z39, .ref z40, .ref z41, .ref z42, .int 0, .ref z13, .ref z14, .ref z15, .ref z16, .int 0, .ref z17, .ref z18, .ref z43]))] sz) [(h0, .inr (12, [.ref z0, .ref z1, .ref z2, .ref z3, .ref z4, .ref z5, .ref z20, .ref z21, .ref z22, .ref z23, .ref z24, .ref z25, .int 0, .ref z26, .ref z27, .ref z28, .int 9, .int 0, .int 0, .ref z6, .ref z29, .ref z7, .int 0, .int 2, .ref z19, .ref z8, .ref z9, .ref z10, .int 0, .ref z11, .int 0, .ref z30, .ref z31, .ref z32, .ref z33, .int 0, .ref z12, .int 0, .int 0, .ref z34, .ref z35, .ref z36, .ref z37, .int 0, .int 0, .int 0, .int 0, .ref z38, .int 0, .ref z39, .ref z40, .ref z41, .ref z42, .int 0, .ref z13, .ref z14, .ref z15, .ref z16, .int 0, .ref z17, .ref z18, .ref z43]))] t) (va_A [(h0, .inr (12, [.ref z0, .ref z1, .ref z2, .ref z3, .ref z4, .ref z5, .ref z20, .ref z21, .ref z22, .ref z23, .ref z24, .ref z25, .int 0, .ref z26, .ref z27, .ref z28, .int 9, .int 0, .int 0, .ref z6, .ref z29, .ref z7, .int 0, .int 2, .ref z19, .ref z8, .ref z9, .ref z10, .int 0, .ref z11, .int 0, .ref z30, .ref z31, .ref z32, .ref z33, .int 0, .ref z12, .int 0, .int 0, .ref z34, .ref z35, .ref z36, .ref z37, .int 0, .int 0, .int 0, .int 0, .ref z38, .int 0, .ref z39, .ref z40, .ref z41, .ref z42, .int 0, .ref z13, .ref z14, .ref z15, .ref z16, .int 0, .ref z17, .ref z18, .ref z43]))] sz)) 0 0 (va_A [(h0, .inr (12, [.ref z0, .ref z1, .ref z2, .ref z3, .ref z4, .ref z5, .ref z20, .ref z21, .ref z22, .ref z23, .ref z24, .ref z25, .int 0, .ref z26, .ref z27, .ref z28, .int 9, .int 0, .int 0, .ref z6, .ref z29, .ref z7, .int 0, .int 2, .ref z19, .ref z8, .ref z9, .ref z10, .int 0, .ref z11, .int 0, .ref z30, .ref z31, .ref z32, .ref z33, .int 0, .ref z12, .int 0, .int 0, .ref z34, .ref z35, .ref z36, .ref z37, .int 0, .int 0, .int 0, .int 0, .ref z38, .int 0, .ref z39, .ref z40, .ref z41, .ref z42, .int 0, .ref z13, .ref z14, .ref z15, .ref z16, .int 0, .ref z17, .ref z18, .ref z43]))] sz) := by
  refine Met.ofW (cc := cX12_passAt) (maxL := 4) (ret := (some .int)) (by decide) rfl ?_
  intro p e s m args below meth c s₁ B hml hv
  obtain ⟨rfl, hsz, hP, hK, hD0, hN⟩ := hv
  have hx := B.exec
  have hb := B.bytes
  have hr := B.returns
  have hts := atoms_spec (ws := wsX12_passAt) B.pre
  have hown : s.vm.findClass RX12 = some m.cls := findClass_of_methodNamed B.named
  have hlocks := B.notSynchronized
  subst hsz
  have hD := hD0.self (sz := s.heap.size)
  generalize hAe : va_A [(h0, .inr (12, [.ref z0, .ref z1, .ref z2, .ref z3, .ref z4, .ref z5, .ref z20, .ref z21, .ref z22, .ref z23, .ref z24, .ref z25, .int 0, .ref z26, .ref z27, .ref z28, .int 9, .int 0, .int 0, .ref z6, .ref z29, .ref z7, .int 0, .int 2, .ref z19, .ref z8, .ref z9, .ref z10, .int 0, .ref z11, .int 0, .ref z30, .ref z31, .ref z32, .ref z33, .int 0, .ref z12, .int 0, .int 0, .ref z34, .ref z35, .ref z36, .ref z37, .int 0, .int 0, .int 0, .int 0, .ref z38, .int 0, .ref z39, .ref z40, .ref z41, .ref z42, .int 0, .ref z13, .ref z14, .ref z15, .ref z16, .int 0, .ref z17, .ref z18, .ref z43]))] s.heap.size = A at hD ⊢
  have hA : ∀ q : Nat, s.heap.size ≤ q → A q := fun q h => by rw [← hAe]; exact Or.inr h
  have hS : va_S A s.heap s.heap [] := va_S.rf
  have hP : va_P D vwCl [(h0, .inr (12, [.ref z0, .ref z1, .ref z2, .ref z3, .ref z4, .ref z5, .ref z20, .ref z21, .ref z22, .ref z23, .ref z24, .ref z25, .int 0, .ref z26, .ref z27, .ref z28, .int 9, .int 0, .int 0, .ref z6, .ref z29, .ref z7, .int 0, .int 2, .ref z19, .ref z8, .ref z9, .ref z10, .int 0, .ref z11, .int 0, .ref z30, .ref z31, .ref z32, .ref z33, .int 0, .ref z12, .int 0, .int 0, .ref z34, .ref z35, .ref z36, .ref z37, .int 0, .int 0, .int 0, .int 0, .ref z38, .int 0, .ref z39, .ref z40, .ref z41, .ref z42, .int 0, .ref z13, .ref z14, .ref z15, .ref z16, .int 0, .ref z17, .ref z18, .ref z43]))] s.heap := hP
  have hl := lv_entry ([.ref h0, .int 0, .int 2, .int 0]) (n := 4) (Nat.le_of_ble_eq_true rfl)
  rw [lg_entry_eq]
  generalize (lg_sl ([.ref h0, .int 0, .int 2, .int 0]) ++ List.replicate (4 - (lg_sl ([.ref h0, .int 0, .int 2, .int 0])).length) Slot.unset).toArray = ls at hl ⊢
  have hl : lv_has ls 4 [(0, .ref h0), (1, .int 0), (2, .int 2), (3, .int 0)] := hl
  refine lv_iload_n hx hb dX12_passAt_0 rfl (lv_at hl 1 rfl) ?_
  refine lv_aload_n hx hb dX12_passAt_1 rfl (lv_at hl 0 rfl) ?_
  have hPc := hP.sub (ws' := [(h0, .inr (12, [.ref z0, .ref z1, .ref z2, .ref z3, .ref z4, .ref z5, .ref z20, .ref z21, .ref z22, .ref z23, .ref z24, .ref z25, .int 0, .ref z26, .ref z27, .ref z28, .int 9, .int 0, .int 0, .ref z6, .ref z29, .ref z7, .int 0, .int 2, .ref z19, .ref z8, .ref z9, .ref z10, .int 0, .ref z11, .int 0, .ref z30, .ref z31, .ref z32, .ref z33, .int 0, .ref z12, .int 0, .int 0, .ref z34, .ref z35, .ref z36, .ref z37, .int 0, .int 0, .int 0, .int 0, .ref z38, .int 0, .ref z39, .ref z40, .ref z41, .ref z42, .int 0, .ref z13, .ref z14, .ref z15, .ref z16, .int 0, .ref z17, .ref z18, .ref z43]))]) [0] rfl
  have hDc := hD.sub (ws' := [(h0, .inr (12, [.ref z0, .ref z1, .ref z2, .ref z3, .ref z4, .ref z5, .ref z20, .ref z21, .ref z22, .ref z23, .ref z24, .ref z25, .int 0, .ref z26, .ref z27, .ref z28, .int 9, .int 0, .int 0, .ref z6, .ref z29, .ref z7, .int 0, .int 2, .ref z19, .ref z8, .ref z9, .ref z10, .int 0, .ref z11, .int 0, .ref z30, .ref z31, .ref z32, .ref z33, .int 0, .ref z12, .int 0, .int 0, .ref z34, .ref z35, .ref z36, .ref z37, .int 0, .int 0, .int 0, .int 0, .ref z38, .int 0, .ref z39, .ref z40, .ref z41, .ref z42, .int 0, .ref z13, .ref z14, .ref z15, .ref z16, .int 0, .ref z17, .ref z18, .ref z43]))]) [0] (by decide) rfl
  have hFc := va_free (wc := [(h0, .inr (12, [.ref z0, .ref z1, .ref z2, .ref z3, .ref z4, .ref z5, .ref z20, .ref z21, .ref z22, .ref z23, .ref z24, .ref z25, .int 0, .ref z26, .ref z27, .ref z28, .int 9, .int 0, .int 0, .ref z6, .ref z29, .ref z7, .int 0, .int 2, .ref z19, .ref z8, .ref z9, .ref z10, .int 0, .ref z11, .int 0, .ref z30, .ref z31, .ref z32, .ref z33, .int 0, .ref z12, .int 0, .int 0, .ref z34, .ref z35, .ref z36, .ref z37, .int 0, .int 0, .int 0, .int 0, .ref z38, .int 0, .ref z39, .ref z40, .ref z41, .ref z42, .int 0, .ref z13, .ref z14, .ref z15, .ref z16, .int 0, .ref z17, .ref z18, .ref z43]))]) hD hS hA [0] rfl
  refine va_calli (va_runV (As := []) (rest := [.int 0]) ⟨hx, hb, hml, hown, hts⟩ (kX12_gens l D G h0 z0 z1 z2 z3 z4 z5 z20 z21 z22 z23 z24 z25 z26 z27 z28 z6 z29 z7 z19 z8 z9 z10 z11 z30 z31 z32 z33 z12 z34 z35 z36 z37 z38 z39 z40 z41 z42 z13 z14 z15 z16 z17 z18 z43 0 s.heap.size) (cwV 0 hts gX12_passAt_X12_gens rfl rfl rfl (by decide +kernel) ⟨Nat.le_of_ble_eq_true rfl, Nat.le_of_ble_eq_true rfl⟩) ⟨wB_blind, va_recv hK hPc (ci := 12) (q0 := 0) rfl rfl, wB_pre hPc hK hDc hN⟩ rfl rfl hl.1 rfl (lv_room (Nat.le_of_ble_eq_true rfl)) dX12_passAt_2 ⟨Nat.le_of_ble_eq_true rfl, Nat.le_of_ble_eq_true rfl⟩) hS (fun q _ h => hFc q h) hFc (fun r1 u t H1 locs ht hvm hr1 hB hz1 hk1 hS => ?_)
  obtain ⟨hP1, hK1, hD1⟩ := hB
  rw [ht] at hP1
  obtain ⟨hP, hD⟩ := va_join (wr := []) (w1 := [(h0, .inr (12, [.ref z0, .ref z1, .ref z2, .ref z3, .ref z4, .ref z5, .ref z20, .ref z21, .ref z22, .ref z23, .ref z24, .ref z25, .int 0, .ref z26, .ref z27, .ref z28, .int 9, .int 0, .int 0, .ref z6, .ref z29, .ref z7, .int 0, .int 2, .ref z19, .ref z8, .ref z9, .ref z10, .int 0, .ref z11, .int 0, .ref z30, .ref z31, .ref z32, .ref z33, .int 0, .ref z12, .int 0, .int 0, .ref z34, .ref z35, .ref z36, .ref z37, .int 0, .int 0, .int 0, .int 0, .ref z38, .int 0, .ref z39, .ref z40, .ref z41, .ref z42, .int 0, .ref z13, .ref z14, .ref z15, .ref z16, .int 0, .ref z17, .ref z18, .ref z43]))]) hP hD [0] [] rfl rfl (by decide) (by decide) hk1 hFc hP1 hD1
  clear hPc hDc
  generalize H1 = H at hP hS ⊢
  have hP : va_P D vwCl [(h0, .inr (12, [.ref z0, .ref z1, .ref z2, .ref z3, .ref z4, .ref z5, .ref z20, .ref z21, .ref z22, .ref z23, .ref z24, .ref z25, .int 0, .ref z26, .ref z27, .ref z28, .int 9, .int 0, .int 0, .ref z6, .ref z29, .ref z7, .int 0, .int 2, .ref z19, .ref z8, .ref z9, .ref z10, .int 0, .ref z11, .int 0, .ref z30, .ref z31, .ref z32, .ref z33, .int 0, .ref z12, .int 0, .int 0, .ref z34, .ref z35, .ref z36, .ref z37, .int 0, .int 0, .int 0, .int 0, .ref z38, .int 0, .ref z39, .ref z40, .ref z41, .ref z42, .int 0, .ref z13, .ref z14, .ref z15, .ref z16, .int 0, .ref z17, .ref z18, .ref z43]))] H := hP
  have hD : va_D A [(h0, .inr (12, [.ref z0, .ref z1, .ref z2, .ref z3, .ref z4, .ref z5, .ref z20, .ref z21, .ref z22, .ref z23, .ref z24, .ref z25, .int 0, .ref z26, .ref z27, .ref z28, .int 9, .int 0, .int 0, .ref z6, .ref z29, .ref z7, .int 0, .int 2, .ref z19, .ref z8, .ref z9, .ref z10, .int 0, .ref z11, .int 0, .ref z30, .ref z31, .ref z32, .ref z33, .int 0, .ref z12, .int 0, .int 0, .ref z34, .ref z35, .ref z36, .ref z37, .int 0, .int 0, .int 0, .int 0, .ref z38, .int 0, .ref z39, .ref z40, .ref z41, .ref z42, .int 0, .ref z13, .ref z14, .ref z15, .ref z16, .int 0, .ref z17, .ref z18, .ref z43]))] := hD
  subst hr1
  refine lv_iload_n hx hb dX12_passAt_5 rfl (lv_at hl 2 rfl) ?_
  refine lv_iconst (v := 1) hx hb dX12_passAt_6 (by decide) ?_
  refine lv_isub hx hb dX12_passAt_7 ?_
  refine wk_i 1 (by decide) ?_
  refine lv_iload_n hx hb dX12_passAt_8 rfl (lv_at hl 3 rfl) ?_
  refine lv_isub hx hb dX12_passAt_9 ?_
  refine wk_i 1 (by decide) ?_
  have hPc := hP.sub (ws' := []) [] rfl
  have hDc := hD.sub (ws' := []) [] (by decide) rfl
  have hFc := va_free (wc := []) hD hS hA [] rfl
  refine va_calli (va_runS (As := [.int 2, .int 1]) (rest := [.int 0]) ⟨hx, hb, hml, hown, hts⟩ (kX12_power_1 l D G  H.size) (va_cwS 2 hts gX12_passAt_X12_power rfl rfl rfl (by decide +kernel) ⟨Nat.le_of_ble_eq_true rfl, Nat.le_of_ble_eq_true rfl⟩) ⟨wB_blind, wB_pre hPc hK hDc hN⟩ rfl rfl hl.1 rfl (lv_room (Nat.le_of_ble_eq_true rfl)) dX12_passAt_10 ⟨Nat.le_of_ble_eq_true rfl, Nat.le_of_ble_eq_true rfl⟩) hS (fun q _ h => hFc q h) hFc (fun r2 u t H1 locs ht hvm hr2 hB hz1 hk1 hS => ?_)
  obtain ⟨hP, hD⟩ := va_join (wr := [(h0, .inr (12, [.ref z0, .ref z1, .ref z2, .ref z3, .ref z4, .ref z5, .ref z20, .ref z21, .ref z22, .ref z23, .ref z24, .ref z25, .int 0, .ref z26, .ref z27, .ref z28, .int 9, .int 0, .int 0, .ref z6, .ref z29, .ref z7, .int 0, .int 2, .ref z19, .ref z8, .ref z9, .ref z10, .int 0, .ref z11, .int 0, .ref z30, .ref z31, .ref z32, .ref z33, .int 0, .ref z12, .int 0, .int 0, .ref z34, .ref z35, .ref z36, .ref z37, .int 0, .int 0, .int 0, .int 0, .ref z38, .int 0, .ref z39, .ref z40, .ref z41, .ref z42, .int 0, .ref z13, .ref z14, .ref z15, .ref z16, .int 0, .ref z17, .ref z18, .ref z43]))]) (w1 := []) hP hD [] [0] rfl rfl (by decide) (by decide) hk1 hFc wP_nil wD_nil
  clear hPc hDc
  generalize H1 = H at hP hS ⊢
  have hP : va_P D vwCl [(h0, .inr (12, [.ref z0, .ref z1, .ref z2, .ref z3, .ref z4, .ref z5, .ref z20, .ref z21, .ref z22, .ref z23, .ref z24, .ref z25, .int 0, .ref z26, .ref z27, .ref z28, .int 9, .int 0, .int 0, .ref z6, .ref z29, .ref z7, .int 0, .int 2, .ref z19, .ref z8, .ref z9, .ref z10, .int 0, .ref z11, .int 0, .ref z30, .ref z31, .ref z32, .ref z33, .int 0, .ref z12, .int 0, .int 0, .ref z34, .ref z35, .ref z36, .ref z37, .int 0, .int 0, .int 0, .int 0, .ref z38, .int 0, .ref z39, .ref z40, .ref z41, .ref z42, .int 0, .ref z13, .ref z14, .ref z15, .ref z16, .int 0, .ref z17, .ref z18, .ref z43]))] H := hP
  have hD : va_D A [(h0, .inr (12, [.ref z0, .ref z1, .ref z2, .ref z3, .ref z4, .ref z5, .ref z20, .ref z21, .ref z22, .ref z23, .ref z24, .ref z25, .int 0, .ref z26, .ref z27, .ref z28, .int 9, .int 0, .int 0, .ref z6, .ref z29, .ref z7, .int 0, .int 2, .ref z19, .ref z8, .ref z9, .ref z10, .int 0, .ref z11, .int 0, .ref z30, .ref z31, .ref z32, .ref z33, .int 0, .ref z12, .int 0, .int 0, .ref z34, .ref z35, .ref z36, .ref z37, .int 0, .int 0, .int 0, .int 0, .ref z38, .int 0, .ref z39, .ref z40, .ref z41, .ref z42, .int 0, .ref z13, .ref z14, .ref z15, .ref z16, .int 0, .ref z17, .ref z18, .ref z43]))] := hD
  subst hr2
  refine lv_idiv hx hb dX12_passAt_13 (by decide) ?_
  refine wk_i 0 (by decide) ?_
  refine lv_aload_n hx hb dX12_passAt_14 rfl (lv_at hl 0 rfl) ?_
  have hPc := hP.sub (ws' := [(h0, .inr (12, [.ref z0, .ref z1, .ref z2, .ref z3, .ref z4, .ref z5, .ref z20, .ref z21, .ref z22, .ref z23, .ref z24, .ref z25, .int 0, .ref z26, .ref z27, .ref z28, .int 9, .int 0, .int 0, .ref z6, .ref z29, .ref z7, .int 0, .int 2, .ref z19, .ref z8, .ref z9, .ref z10, .int 0, .ref z11, .int 0, .ref z30, .ref z31, .ref z32, .ref z33, .int 0, .ref z12, .int 0, .int 0, .ref z34, .ref z35, .ref z36, .ref z37, .int 0, .int 0, .int 0, .int 0, .ref z38, .int 0, .ref z39, .ref z40, .ref z41, .ref z42, .int 0, .ref z13, .ref z14, .ref z15, .ref z16, .int 0, .ref z17, .ref z18, .ref z43]))]) [0] rfl
  have hDc := hD.sub (ws' := [(h0, .inr (12, [.ref z0, .ref z1, .ref z2, .ref z3, .ref z4, .ref z5, .ref z20, .ref z21, .ref z22, .ref z23, .ref z24, .ref z25, .int 0, .ref z26, .ref z27, .ref z28, .int 9, .int 0, .int 0, .ref z6, .ref z29, .ref z7, .int 0, .int 2, .ref z19, .ref z8, .ref z9, .ref z10, .int 0, .ref z11, .int 0, .ref z30, .ref z31, .ref z32, .ref z33, .int 0, .ref z12, .int 0, .int 0, .ref z34, .ref z35, .ref z36, .ref z37, .int 0, .int 0, .int 0, .int 0, .ref z38, .int 0, .ref z39, .ref z40, .ref z41, .ref z42, .int 0, .ref z13, .ref z14, .ref z15, .ref z16, .int 0, .ref z17, .ref z18, .ref z43]))]) [0] (by decide) rfl
  have hFc := va_free (wc := [(h0, .inr (12, [.ref z0, .ref z1, .ref z2, .ref z3, .ref z4, .ref z5, .ref z20, .ref z21, .ref z22, .ref z23, .ref z24, .ref z25, .int 0, .ref z26, .ref z27, .ref z28, .int 9, .int 0, .int 0, .ref z6, .ref z29, .ref z7, .int 0, .int 2, .ref z19, .ref z8, .ref z9, .ref z10, .int 0, .ref z11, .int 0, .ref z30, .ref z31, .ref z32, .ref z33, .int 0, .ref z12, .int 0, .int 0, .ref z34, .ref z35, .ref z36, .ref z37, .int 0, .int 0, .int 0, .int 0, .ref z38, .int 0, .ref z39, .ref z40, .ref z41, .ref z42, .int 0, .ref z13, .ref z14, .ref z15, .ref z16, .int 0, .ref z17, .ref z18, .ref z43]))]) hD hS hA [0] rfl
  refine va_calli (va_runV (As := []) (rest := [.int 0]) ⟨hx, hb, hml, hown, hts⟩ (kX12_gens l D G h0 z0 z1 z2 z3 z4 z5 z20 z21 z22 z23 z24 z25 z26 z27 z28 z6 z29 z7 z19 z8 z9 z10 z11 z30 z31 z32 z33 z12 z34 z35 z36 z37 z38 z39 z40 z41 z42 z13 z14 z15 z16 z17 z18 z43 0 H.size) (cwV 0 hts gX12_passAt_X12_gens rfl rfl rfl (by decide +kernel) ⟨Nat.le_of_ble_eq_true rfl, Nat.le_of_ble_eq_true rfl⟩) ⟨wB_blind, va_recv hK hPc (ci := 12) (q0 := 0) rfl rfl, wB_pre hPc hK hDc hN⟩ rfl rfl hl.1 rfl (lv_room (Nat.le_of_ble_eq_true rfl)) dX12_passAt_15 ⟨Nat.le_of_ble_eq_true rfl, Nat.le_of_ble_eq_true rfl⟩) hS (fun q _ h => hFc q h) hFc (fun r3 u t H1 locs ht hvm hr3 hB hz1 hk1 hS => ?_)
  obtain ⟨hP1, hK1, hD1⟩ := hB
  rw [ht] at hP1
  obtain ⟨hP, hD⟩ := va_join (wr := []) (w1 := [(h0, .inr (12, [.ref z0, .ref z1, .ref z2, .ref z3, .ref z4, .ref z5, .ref z20, .ref z21, .ref z22, .ref z23, .ref z24, .ref z25, .int 0, .ref z26, .ref z27, .ref z28, .int 9, .int 0, .int 0, .ref z6, .ref z29, .ref z7, .int 0, .int 2, .ref z19, .ref z8, .ref z9, .ref z10, .int 0, .ref z11, .int 0, .ref z30, .ref z31, .ref z32, .ref z33, .int 0, .ref z12, .int 0, .int 0, .ref z34, .ref z35, .ref z36, .ref z37, .int 0, .int 0, .int 0, .int 0, .ref z38, .int 0, .ref z39, .ref z40, .ref z41, .ref z42, .int 0, .ref z13, .ref z14, .ref z15, .ref z16, .int 0, .ref z17, .ref z18, .ref z43]))]) hP hD [0] [] rfl rfl (by decide) (by decide) hk1 hFc hP1 hD1
  clear hPc hDc
  generalize H1 = H at hP hS ⊢
  have hP : va_P D vwCl [(h0, .inr (12, [.ref z0, .ref z1, .ref z2, .ref z3, .ref z4, .ref z5, .ref z20, .ref z21, .ref z22, .ref z23, .ref z24, .ref z25, .int 0, .ref z26, .ref z27, .ref z28, .int 9, .int 0, .int 0, .ref z6, .ref z29, .ref z7, .int 0, .int 2, .ref z19, .ref z8, .ref z9, .ref z10, .int 0, .ref z11, .int 0, .ref z30, .ref z31, .ref z32, .ref z33, .int 0, .ref z12, .int 0, .int 0, .ref z34, .ref z35, .ref z36, .ref z37, .int 0, .int 0, .int 0, .int 0, .ref z38, .int 0, .ref z39, .ref z40, .ref z41, .ref z42, .int 0, .ref z13, .ref z14, .ref z15, .ref z16, .int 0, .ref z17, .ref z18, .ref z43]))] H := hP
  have hD : va_D A [(h0, .inr (12, [.ref z0, .ref z1, .ref z2, .ref z3, .ref z4, .ref z5, .ref z20, .ref z21, .ref z22, .ref z23, .ref z24, .ref z25, .int 0, .ref z26, .ref z27, .ref z28, .int 9, .int 0, .int 0, .ref z6, .ref z29, .ref z7, .int 0, .int 2, .ref z19, .ref z8, .ref z9, .ref z10, .int 0, .ref z11, .int 0, .ref z30, .ref z31, .ref z32, .ref z33, .int 0, .ref z12, .int 0, .int 0, .ref z34, .ref z35, .ref z36, .ref z37, .int 0, .int 0, .int 0, .int 0, .ref z38, .int 0, .ref z39, .ref z40, .ref z41, .ref z42, .int 0, .ref z13, .ref z14, .ref z15, .ref z16, .int 0, .ref z17, .ref z18, .ref z43]))] := hD
  subst hr3
  refine lv_irem hx hb dX12_passAt_18 (by decide) ?_
  refine wk_i 0 (by decide) ?_
  have hPc := hP.sub (ws' := []) [] rfl
  have hDc := hD.sub (ws' := []) [] (by decide) rfl
  have hFc := va_free (wc := []) hD hS hA [] rfl
  refine va_calli (va_runS (As := [.int 0]) (rest := []) ⟨hx, hb, hml, hown, hts⟩ (kX12_passOf_0 l D G  H.size) (va_cwS 1 hts gX12_passAt_X12_passOf rfl rfl rfl (by decide +kernel) ⟨Nat.le_of_ble_eq_true rfl, Nat.le_of_ble_eq_true rfl⟩) ⟨wB_blind, wB_pre hPc hK hDc hN⟩ rfl rfl hl.1 rfl (lv_room (Nat.le_of_ble_eq_true rfl)) dX12_passAt_19 ⟨Nat.le_of_ble_eq_true rfl, Nat.le_of_ble_eq_true rfl⟩) hS (fun q _ h => hFc q h) hFc (fun r4 u t H1 locs ht hvm hr4 hB hz1 hk1 hS => ?_)
  obtain ⟨hP, hD⟩ := va_join (wr := [(h0, .inr (12, [.ref z0, .ref z1, .ref z2, .ref z3, .ref z4, .ref z5, .ref z20, .ref z21, .ref z22, .ref z23, .ref z24, .ref z25, .int 0, .ref z26, .ref z27, .ref z28, .int 9, .int 0, .int 0, .ref z6, .ref z29, .ref z7, .int 0, .int 2, .ref z19, .ref z8, .ref z9, .ref z10, .int 0, .ref z11, .int 0, .ref z30, .ref z31, .ref z32, .ref z33, .int 0, .ref z12, .int 0, .int 0, .ref z34, .ref z35, .ref z36, .ref z37, .int 0, .int 0, .int 0, .int 0, .ref z38, .int 0, .ref z39, .ref z40, .ref z41, .ref z42, .int 0, .ref z13, .ref z14, .ref z15, .ref z16, .int 0, .ref z17, .ref z18, .ref z43]))]) (w1 := []) hP hD [] [0] rfl rfl (by decide) (by decide) hk1 hFc wP_nil wD_nil
  clear hPc hDc
  generalize H1 = H at hP hS ⊢
  have hP : va_P D vwCl [(h0, .inr (12, [.ref z0, .ref z1, .ref z2, .ref z3, .ref z4, .ref z5, .ref z20, .ref z21, .ref z22, .ref z23, .ref z24, .ref z25, .int 0, .ref z26, .ref z27, .ref z28, .int 9, .int 0, .int 0, .ref z6, .ref z29, .ref z7, .int 0, .int 2, .ref z19, .ref z8, .ref z9, .ref z10, .int 0, .ref z11, .int 0, .ref z30, .ref z31, .ref z32, .ref z33, .int 0, .ref z12, .int 0, .int 0, .ref z34, .ref z35, .ref z36, .ref z37, .int 0, .int 0, .int 0, .int 0, .ref z38, .int 0, .ref z39, .ref z40, .ref z41, .ref z42, .int 0, .ref z13, .ref z14, .ref z15, .ref z16, .int 0, .ref z17, .ref z18, .ref z43]))] H := hP
  have hD : va_D A [(h0, .inr (12, [.ref z0, .ref z1, .ref z2, .ref z3, .ref z4, .ref z5, .ref z20, .ref z21, .ref z22, .ref z23, .ref z24, .ref z25, .int 0, .ref z26, .ref z27, .ref z28, .int 9, .int 0, .int 0, .ref z6, .ref z29, .ref z7, .int 0, .int 2, .ref z19, .ref z8, .ref z9, .ref z10, .int 0, .ref z11, .int 0, .ref z30, .ref z31, .ref z32, .ref z33, .int 0, .ref z12, .int 0, .int 0, .ref z34, .ref z35, .ref z36, .ref z37, .int 0, .int 0, .int 0, .int 0, .ref z38, .int 0, .ref z39, .ref z40, .ref z41, .ref z42, .int 0, .ref z13, .ref z14, .ref z15, .ref z16, .int 0, .ref z17, .ref z18, .ref z43]))] := hD
  subst hr4
  have hP9 := hP.sub (ws' := [(h0, .inr (12, [.ref z0, .ref z1, .ref z2, .ref z3, .ref z4, .ref z5, .ref z20, .ref z21, .ref z22, .ref z23, .ref z24, .ref z25, .int 0, .ref z26, .ref z27, .ref z28, .int 9, .int 0, .int 0, .ref z6, .ref z29, .ref z7, .int 0, .int 2, .ref z19, .ref z8, .ref z9, .ref z10, .int 0, .ref z11, .int 0, .ref z30, .ref z31, .ref z32, .ref z33, .int 0, .ref z12, .int 0, .int 0, .ref z34, .ref z35, .ref z36, .ref z37, .int 0, .int 0, .int 0, .int 0, .ref z38, .int 0, .ref z39, .ref z40, .ref z41, .ref z42, .int 0, .ref z13, .ref z14, .ref z15, .ref z16, .int 0, .ref z17, .ref z18, .ref z43]))]) [0] rfl
  have hD9 := hD.sub (ws' := [(h0, .inr (12, [.ref z0, .ref z1, .ref z2, .ref z3, .ref z4, .ref z5, .ref z20, .ref z21, .ref z22, .ref z23, .ref z24, .ref z25, .int 0, .ref z26, .ref z27, .ref z28, .int 9, .int 0, .int 0, .ref z6, .ref z29, .ref z7, .int 0, .int 2, .ref z19, .ref z8, .ref z9, .ref z10, .int 0, .ref z11, .int 0, .ref z30, .ref z31, .ref z32, .ref z33, .int 0, .ref z12, .int 0, .int 0, .ref z34, .ref z35, .ref z36, .ref z37, .int 0, .int 0, .int 0, .int 0, .ref z38, .int 0, .ref z39, .ref z40, .ref z41, .ref z42, .int 0, .ref z13, .ref z14, .ref z15, .ref z16, .int 0, .ref z17, .ref z18, .ref z43]))]) [0] (by decide) rfl
  exact W.iret (v := 1) hx hb hr (fun t ht hW => ⟨⟨1, (), rfl, rfl, ⟨by rw [ht]; exact hP9, va_K.moved hW.alike hK, hD9⟩⟩, hS.F ht⟩) hS.2.2 dX12_passAt_22

set_option maxHeartbeats 4000000 in
set_option maxRecDepth 100000 in
/-- X12_passAt -/
theorem kX12_passAt_2_0_1 (l : Launch) (D : va_G) (G : tyG) (h0 : Nat) (z0 : Nat) (z1 : Nat) (z2 : Nat) (z3 : Nat) (z4 : Nat) (z5 : Nat) (z20 : Nat) (z21 : Nat) (z22 : Nat) (z23 : Nat) (z24 : Nat) (z25 : Nat) (z26 : Nat) (z27 : Nat) (z28 : Nat) (z6 : Nat) (z29 : Nat) (z7 : Nat) (z19 : Nat) (z8 : Nat) (z9 : Nat) (z10 : Nat) (z11 : Nat) (z30 : Nat) (z31 : Nat) (z32 : Nat) (z33 : Nat) (z12 : Nat) (z34 : Nat) (z35 : Nat) (z36 : Nat) (z37 : Nat) (z38 : Nat) (z39 : Nat) (z40 : Nat) (z41 : Nat) (z42 : Nat) (z13 : Nat) (z14 : Nat) (z15 : Nat) (z16 : Nat) (z17 : Nat) (z18 : Nat) (z43 : Nat) (sz : Nat) : Met l yX12_passAt wsX12_passAt ({ frames := 1, cells := 0, slots := 0, locals := 23 }) (va_Pc [.ref h0, .int 0, .int 2, .int 1] (wB D G sz [(h0, .inr (12, [.ref z0, .ref z1, .ref z2, .ref z3, .ref z4, .ref z5, .ref z20, .ref z21, .ref z22, .ref z23, .ref z24, .ref z25, .int 0, .ref z26, .ref z27, .ref z28, .int 9, .int 0, .int 0, .ref z6, .ref z29, .ref z7, .int 0, .int 2, .ref z19, .ref z8, .ref z9, .ref z10, .int 0, .ref z11, .int 0, .ref z30, .ref z31, .ref z32, .ref z33, .int 0, .ref z12, .int 0, .int 0, .ref z34, .ref z35, .ref z36, .ref z37, .int 0, .int 0, .int 0, .int 0, .ref z38, .int 0, .ref z39, .ref z40, .ref z41, .ref z42, .int 0, .ref z13, .ref z14, .ref z15, .ref z16, .int 0, .ref z17, .ref z18, .ref z43]))])) (va_Qi (fun (r : Int32) (_ : Unit) => r = 1) (fun _ t => wS D G (va_A [(h0, .inr (12, [.ref z0, .ref z1, .ref z2, .ref z3, .ref z4, .ref z5, .ref z20, .ref z21, .ref z22, .ref z23, .ref z24, .ref z25, .int 0, .ref z26, .ref z27, .ref z28, .int 9, .int 0, .int 0, .ref z6, .ref z29, .ref z7, .int 0, .int 2, .ref z19, .ref z8, .ref z9, .ref z10, .int 0, .ref z11, .int 0, .ref z30, .ref z31, .ref z32, .ref z33, .int 0, .ref z12, .int 0, .int 0, .ref z34, .ref z35, .ref z36, .ref z37, .int 0, .int 0, .int 0, .int 0, .ref z38, .int 0, .ref z39, .ref z40, .ref z41, .ref z42, .int 0, .ref z13, .ref z14, .ref z15, .ref z16, .int 0, .ref z17, .ref z18, .ref z43]))] sz) [(h0, .inr (12, [.ref z0, .ref z1, .ref z2, .ref z3, .ref z4, .ref z5, .ref z20, .ref z21, .ref z22, .ref z23, .ref z24, .ref z25, .int 0, .ref z26, .ref z27, .ref z28, .int 9, .int 0, .int 0, .ref z6, .ref z29, .ref z7, .int 0, .int 2, .ref z19, .ref z8, .ref z9, .ref z10, .int 0, .ref z11, .int 0, .ref z30, .ref z31, .ref z32, .ref z33, .int 0, .ref z12, .int 0, .int 0, .ref z34, .ref z35, .ref z36, .ref z37, .int 0, .int 0, .int 0, .int 0, .ref z38, .int 0, .ref z39, .ref z40, .ref z41, .ref z42, .int 0, .ref z13, .ref z14, .ref z15, .ref z16, .int 0, .ref z17, .ref z18, .ref z43]))] t) (va_A [(h0, .inr (12, [.ref z0, .ref z1, .ref z2, .ref z3, .ref z4, .ref z5, .ref z20, .ref z21, .ref z22, .ref z23, .ref z24, .ref z25, .int 0, .ref z26, .ref z27, .ref z28, .int 9, .int 0, .int 0, .ref z6, .ref z29, .ref z7, .int 0, .int 2, .ref z19, .ref z8, .ref z9, .ref z10, .int 0, .ref z11, .int 0, .ref z30, .ref z31, .ref z32, .ref z33, .int 0, .ref z12, .int 0, .int 0, .ref z34, .ref z35, .ref z36, .ref z37, .int 0, .int 0, .int 0, .int 0, .ref z38, .int 0, .ref z39, .ref z40, .ref z41, .ref z42, .int 0, .ref z13, .ref z14, .ref z15, .ref z16, .int 0, .ref z17, .ref z18, .ref z43]))] sz)) 0 0 (va_A [(h0, .inr (12, [.ref z0, .ref z1, .ref z2, .ref z3, .ref z4, .ref z5, .ref z20, .ref z21, .ref z22, .ref z23, .ref z24, .ref z25, .int 0, .ref z26, .ref z27, .ref z28, .int 9, .int 0, .int 0, .ref z6, .ref z29, .ref z7, .int 0, .int 2, .ref z19, .ref z8, .ref z9, .ref z10, .int 0, .ref z11, .int 0, .ref z30, .ref z31, .ref z32, .ref z33, .int 0, .ref z12, .int 0, .int 0, .ref z34, .ref z35, .ref z36, .ref z37, .int 0, .int 0, .int 0, .int 0, .ref z38, .int 0, .ref z39, .ref z40, .ref z41, .ref z42, .int 0, .ref z13, .ref z14, .ref z15, .ref z16, .int 0, .ref z17, .ref z18, .ref z43]))] sz) := by
  refine Met.ofW (cc := cX12_passAt) (maxL := 4) (ret := (some .int)) (by decide) rfl ?_
  intro p e s m args below meth c s₁ B hml hv
  obtain ⟨rfl, hsz, hP, hK, hD0, hN⟩ := hv
  have hx := B.exec
  have hb := B.bytes
  have hr := B.returns
  have hts := atoms_spec (ws := wsX12_passAt) B.pre
  have hown : s.vm.findClass RX12 = some m.cls := findClass_of_methodNamed B.named
  have hlocks := B.notSynchronized
  subst hsz
  have hD := hD0.self (sz := s.heap.size)
  generalize hAe : va_A [(h0, .inr (12, [.ref z0, .ref z1, .ref z2, .ref z3, .ref z4, .ref z5, .ref z20, .ref z21, .ref z22, .ref z23, .ref z24, .ref z25, .int 0, .ref z26, .ref z27, .ref z28, .int 9, .int 0, .int 0, .ref z6, .ref z29, .ref z7, .int 0, .int 2, .ref z19, .ref z8, .ref z9, .ref z10, .int 0, .ref z11, .int 0, .ref z30, .ref z31, .ref z32, .ref z33, .int 0, .ref z12, .int 0, .int 0, .ref z34, .ref z35, .ref z36, .ref z37, .int 0, .int 0, .int 0, .int 0, .ref z38, .int 0, .ref z39, .ref z40, .ref z41, .ref z42, .int 0, .ref z13, .ref z14, .ref z15, .ref z16, .int 0, .ref z17, .ref z18, .ref z43]))] s.heap.size = A at hD ⊢
  have hA : ∀ q : Nat, s.heap.size ≤ q → A q := fun q h => by rw [← hAe]; exact Or.inr h
  have hS : va_S A s.heap s.heap [] := va_S.rf
  have hP : va_P D vwCl [(h0, .inr (12, [.ref z0, .ref z1, .ref z2, .ref z3, .ref z4, .ref z5, .ref z20, .ref z21, .ref z22, .ref z23, .ref z24, .ref z25, .int 0, .ref z26, .ref z27, .ref z28, .int 9, .int 0, .int 0, .ref z6, .ref z29, .ref z7, .int 0, .int 2, .ref z19, .ref z8, .ref z9, .ref z10, .int 0, .ref z11, .int 0, .ref z30, .ref z31, .ref z32, .ref z33, .int 0, .ref z12, .int 0, .int 0, .ref z34, .ref z35, .ref z36, .ref z37, .int 0, .int 0, .int 0, .int 0, .ref z38, .int 0, .ref z39, .ref z40, .ref z41, .ref z42, .int 0, .ref z13, .ref z14, .ref z15, .ref z16, .int 0, .ref z17, .ref z18, .ref z43]))] s.heap := hP
  have hl := lv_entry ([.ref h0, .int 0, .int 2, .int 1]) (n := 4) (Nat.le_of_ble_eq_true rfl)
  rw [lg_entry_eq]
  generalize (lg_sl ([.ref h0, .int 0, .int 2, .int 1]) ++ List.replicate (4 - (lg_sl ([.ref h0, .int 0, .int 2, .int 1])).length) Slot.unset).toArray = ls at hl ⊢
  have hl : lv_has ls 4 [(0, .ref h0), (1, .int 0), (2, .int 2), (3, .int 1)] := hl
  refine lv_iload_n hx hb dX12_passAt_0 rfl (lv_at hl 1 rfl) ?_
  refine lv_aload_n hx hb dX12_passAt_1 rfl (lv_at hl 0 rfl) ?_
  have hPc := hP.sub (ws' := [(h0, .inr (12, [.ref z0, .ref z1, .ref z2, .ref z3, .ref z4, .ref z5, .ref z20, .ref z21, .ref z22, .ref z23, .ref z24, .ref z25, .int 0, .ref z26, .ref z27, .ref z28, .int 9, .int 0, .int 0, .ref z6, .ref z29, .ref z7, .int 0, .int 2, .ref z19, .ref z8, .ref z9, .ref z10, .int 0, .ref z11, .int 0, .ref z30, .ref z31, .ref z32, .ref z33, .int 0, .ref z12, .int 0, .int 0, .ref z34, .ref z35, .ref z36, .ref z37, .int 0, .int 0, .int 0, .int 0, .ref z38, .int 0, .ref z39, .ref z40, .ref z41, .ref z42, .int 0, .ref z13, .ref z14, .ref z15, .ref z16, .int 0, .ref z17, .ref z18, .ref z43]))]) [0] rfl
  have hDc := hD.sub (ws' := [(h0, .inr (12, [.ref z0, .ref z1, .ref z2, .ref z3, .ref z4, .ref z5, .ref z20, .ref z21, .ref z22, .ref z23, .ref z24, .ref z25, .int 0, .ref z26, .ref z27, .ref z28, .int 9, .int 0, .int 0, .ref z6, .ref z29, .ref z7, .int 0, .int 2, .ref z19, .ref z8, .ref z9, .ref z10, .int 0, .ref z11, .int 0, .ref z30, .ref z31, .ref z32, .ref z33, .int 0, .ref z12, .int 0, .int 0, .ref z34, .ref z35, .ref z36, .ref z37, .int 0, .int 0, .int 0, .int 0, .ref z38, .int 0, .ref z39, .ref z40, .ref z41, .ref z42, .int 0, .ref z13, .ref z14, .ref z15, .ref z16, .int 0, .ref z17, .ref z18, .ref z43]))]) [0] (by decide) rfl
  have hFc := va_free (wc := [(h0, .inr (12, [.ref z0, .ref z1, .ref z2, .ref z3, .ref z4, .ref z5, .ref z20, .ref z21, .ref z22, .ref z23, .ref z24, .ref z25, .int 0, .ref z26, .ref z27, .ref z28, .int 9, .int 0, .int 0, .ref z6, .ref z29, .ref z7, .int 0, .int 2, .ref z19, .ref z8, .ref z9, .ref z10, .int 0, .ref z11, .int 0, .ref z30, .ref z31, .ref z32, .ref z33, .int 0, .ref z12, .int 0, .int 0, .ref z34, .ref z35, .ref z36, .ref z37, .int 0, .int 0, .int 0, .int 0, .ref z38, .int 0, .ref z39, .ref z40, .ref z41, .ref z42, .int 0, .ref z13, .ref z14, .ref z15, .ref z16, .int 0, .ref z17, .ref z18, .ref z43]))]) hD hS hA [0] rfl
  refine va_calli (va_runV (As := []) (rest := [.int 0]) ⟨hx, hb, hml, hown, hts⟩ (kX12_gens l D G h0 z0 z1 z2 z3 z4 z5 z20 z21 z22 z23 z24 z25 z26 z27 z28 z6 z29 z7 z19 z8 z9 z10 z11 z30 z31 z32 z33 z12 z34 z35 z36 z37 z38 z39 z40 z41 z42 z13 z14 z15 z16 z17 z18 z43 0 s.heap.size) (cwV 0 hts gX12_passAt_X12_gens rfl rfl rfl (by decide +kernel) ⟨Nat.le_of_ble_eq_true rfl, Nat.le_of_ble_eq_true rfl⟩) ⟨wB_blind, va_recv hK hPc (ci := 12) (q0 := 0) rfl rfl, wB_pre hPc hK hDc hN⟩ rfl rfl hl.1 rfl (lv_room (Nat.le_of_ble_eq_true rfl)) dX12_passAt_2 ⟨Nat.le_of_ble_eq_true rfl, Nat.le_of_ble_eq_true rfl⟩) hS (fun q _ h => hFc q h) hFc (fun r1 u t H1 locs ht hvm hr1 hB hz1 hk1 hS => ?_)
  obtain ⟨hP1, hK1, hD1⟩ := hB
  rw [ht] at hP1
  obtain ⟨hP, hD⟩ := va_join (wr := []) (w1 := [(h0, .inr (12, [.ref z0, .ref z1, .ref z2, .ref z3, .ref z4, .ref z5, .ref z20, .ref z21, .ref z22, .ref z23, .ref z24, .ref z25, .int 0, .ref z26, .ref z27, .ref z28, .int 9, .int 0, .int 0, .ref z6, .ref z29, .ref z7, .int 0, .int 2, .ref z19, .ref z8, .ref z9, .ref z10, .int 0, .ref z11, .int 0, .ref z30, .ref z31, .ref z32, .ref z33, .int 0, .ref z12, .int 0, .int 0, .ref z34, .ref z35, .ref z36, .ref z37, .int 0, .int 0, .int 0, .int 0, .ref z38, .int 0, .ref z39, .ref z40, .ref z41, .ref z42, .int 0, .ref z13, .ref z14, .ref z15, .ref z16, .int 0, .ref z17, .ref z18, .ref z43]))]) hP hD [0] [] rfl rfl (by decide) (by decide) hk1 hFc hP1 hD1
  clear hPc hDc
  generalize H1 = H at hP hS ⊢
  have hP : va_P D vwCl [(h0, .inr (12, [.ref z0, .ref z1, .ref z2, .ref z3, .ref z4, .ref z5, .ref z20, .ref z21, .ref z22, .ref z23, .ref z24, .ref z25, .int 0, .ref z26, .ref z27, .ref z28, .int 9, .int 0, .int 0, .ref z6, .ref z29, .ref z7, .int 0, .int 2, .ref z19, .ref z8, .ref z9, .ref z10, .int 0, .ref z11, .int 0, .ref z30, .ref z31, .ref z32, .ref z33, .int 0, .ref z12, .int 0, .int 0, .ref z34, .ref z35, .ref z36, .ref z37, .int 0, .int 0, .int 0, .int 0, .ref z38, .int 0, .ref z39, .ref z40, .ref z41, .ref z42, .int 0, .ref z13, .ref z14, .ref z15, .ref z16, .int 0, .ref z17, .ref z18, .ref z43]))] H := hP
  have hD : va_D A [(h0, .inr (12, [.ref z0, .ref z1, .ref z2, .ref z3, .ref z4, .ref z5, .ref z20, .ref z21, .ref z22, .ref z23, .ref z24, .ref z25, .int 0, .ref z26, .ref z27, .ref z28, .int 9, .int 0, .int 0, .ref z6, .ref z29, .ref z7, .int 0, .int 2, .ref z19, .ref z8, .ref z9, .ref z10, .int 0, .ref z11, .int 0, .ref z30, .ref z31, .ref z32, .ref z33, .int 0, .ref z12, .int 0, .int 0, .ref z34, .ref z35, .ref z36, .ref z37, .int 0, .int 0, .int 0, .int 0, .ref z38, .int 0, .ref z39, .ref z40, .ref z41, .ref z42, .int 0, .ref z13, .ref z14, .ref z15, .ref z16, .int 0, .ref z17, .ref z18, .ref z43]))] := hD
  subst hr1
  refine lv_iload_n hx hb dX12_passAt_5 rfl (lv_at hl 2 rfl) ?_
  refine lv_iconst (v := 1) hx hb dX12_passAt_6 (by decide) ?_
  refine lv_isub hx hb dX12_passAt_7 ?_
  refine wk_i 1 (by decide) ?_
  refine lv_iload_n hx hb dX12_passAt_8 rfl (lv_at hl 3 rfl) ?_
  refine lv_isub hx hb dX12_passAt_9 ?_
  refine wk_i 0 (by decide) ?_
  have hPc := hP.sub (ws' := []) [] rfl
  have hDc := hD.sub (ws' := []) [] (by decide) rfl
  have hFc := va_free (wc := []) hD hS hA [] rfl
  refine va_calli (va_runS (As := [.int 2, .int 0]) (rest := [.int 0]) ⟨hx, hb, hml, hown, hts⟩ (kX12_power_0 l D G  H.size) (va_cwS 2 hts gX12_passAt_X12_power rfl rfl rfl (by decide +kernel) ⟨Nat.le_of_ble_eq_true rfl, Nat.le_of_ble_eq_true rfl⟩) ⟨wB_blind, wB_pre hPc hK hDc hN⟩ rfl rfl hl.1 rfl (lv_room (Nat.le_of_ble_eq_true rfl)) dX12_passAt_10 ⟨Nat.le_of_ble_eq_true rfl, Nat.le_of_ble_eq_true rfl⟩) hS (fun q _ h => hFc q h) hFc (fun r2 u t H1 locs ht hvm hr2 hB hz1 hk1 hS => ?_)
  obtain ⟨hP, hD⟩ := va_join (wr := [(h0, .inr (12, [.ref z0, .ref z1, .ref z2, .ref z3, .ref z4, .ref z5, .ref z20, .ref z21, .ref z22, .ref z23, .ref z24, .ref z25, .int 0, .ref z26, .ref z27, .ref z28, .int 9, .int 0, .int 0, .ref z6, .ref z29, .ref z7, .int 0, .int 2, .ref z19, .ref z8, .ref z9, .ref z10, .int 0, .ref z11, .int 0, .ref z30, .ref z31, .ref z32, .ref z33, .int 0, .ref z12, .int 0, .int 0, .ref z34, .ref z35, .ref z36, .ref z37, .int 0, .int 0, .int 0, .int 0, .ref z38, .int 0, .ref z39, .ref z40, .ref z41, .ref z42, .int 0, .ref z13, .ref z14, .ref z15, .ref z16, .int 0, .ref z17, .ref z18, .ref z43]))]) (w1 := []) hP hD [] [0] rfl rfl (by decide) (by decide) hk1 hFc wP_nil wD_nil
  clear hPc hDc
  generalize H1 = H at hP hS ⊢
  have hP : va_P D vwCl [(h0, .inr (12, [.ref z0, .ref z1, .ref z2, .ref z3, .ref z4, .ref z5, .ref z20, .ref z21, .ref z22, .ref z23, .ref z24, .ref z25, .int 0, .ref z26, .ref z27, .ref z28, .int 9, .int 0, .int 0, .ref z6, .ref z29, .ref z7, .int 0, .int 2, .ref z19, .ref z8, .ref z9, .ref z10, .int 0, .ref z11, .int 0, .ref z30, .ref z31, .ref z32, .ref z33, .int 0, .ref z12, .int 0, .int 0, .ref z34, .ref z35, .ref z36, .ref z37, .int 0, .int 0, .int 0, .int 0, .ref z38, .int 0, .ref z39, .ref z40, .ref z41, .ref z42, .int 0, .ref z13, .ref z14, .ref z15, .ref z16, .int 0, .ref z17, .ref z18, .ref z43]))] H := hP
  have hD : va_D A [(h0, .inr (12, [.ref z0, .ref z1, .ref z2, .ref z3, .ref z4, .ref z5, .ref z20, .ref z21, .ref z22, .ref z23, .ref z24, .ref z25, .int 0, .ref z26, .ref z27, .ref z28, .int 9, .int 0, .int 0, .ref z6, .ref z29, .ref z7, .int 0, .int 2, .ref z19, .ref z8, .ref z9, .ref z10, .int 0, .ref z11, .int 0, .ref z30, .ref z31, .ref z32, .ref z33, .int 0, .ref z12, .int 0, .int 0, .ref z34, .ref z35, .ref z36, .ref z37, .int 0, .int 0, .int 0, .int 0, .ref z38, .int 0, .ref z39, .ref z40, .ref z41, .ref z42, .int 0, .ref z13, .ref z14, .ref z15, .ref z16, .int 0, .ref z17, .ref z18, .ref z43]))] := hD
  subst hr2
  refine lv_idiv hx hb dX12_passAt_13 (by decide) ?_
  refine wk_i 0 (by decide) ?_
  refine lv_aload_n hx hb dX12_passAt_14 rfl (lv_at hl 0 rfl) ?_
  have hPc := hP.sub (ws' := [(h0, .inr (12, [.ref z0, .ref z1, .ref z2, .ref z3, .ref z4, .ref z5, .ref z20, .ref z21, .ref z22, .ref z23, .ref z24, .ref z25, .int 0, .ref z26, .ref z27, .ref z28, .int 9, .int 0, .int 0, .ref z6, .ref z29, .ref z7, .int 0, .int 2, .ref z19, .ref z8, .ref z9, .ref z10, .int 0, .ref z11, .int 0, .ref z30, .ref z31, .ref z32, .ref z33, .int 0, .ref z12, .int 0, .int 0, .ref z34, .ref z35, .ref z36, .ref z37, .int 0, .int 0, .int 0, .int 0, .ref z38, .int 0, .ref z39, .ref z40, .ref z41, .ref z42, .int 0, .ref z13, .ref z14, .ref z15, .ref z16, .int 0, .ref z17, .ref z18, .ref z43]))]) [0] rfl
  have hDc := hD.sub (ws' := [(h0, .inr (12, [.ref z0, .ref z1, .ref z2, .ref z3, .ref z4, .ref z5, .ref z20, .ref z21, .ref z22, .ref z23, .ref z24, .ref z25, .int 0, .ref z26, .ref z27, .ref z28, .int 9, .int 0, .int 0, .ref z6, .ref z29, .ref z7, .int 0, .int 2, .ref z19, .ref z8, .ref z9, .ref z10, .int 0, .ref z11, .int 0, .ref z30, .ref z31, .ref z32, .ref z33, .int 0, .ref z12, .int 0, .int 0, .ref z34, .ref z35, .ref z36, .ref z37, .int 0, .int 0, .int 0, .int 0, .ref z38, .int 0, .ref z39, .ref z40, .ref z41, .ref z42, .int 0, .ref z13, .ref z14, .ref z15, .ref z16, .int 0, .ref z17, .ref z18, .ref z43]))]) [0] (by decide) rfl
  have hFc := va_free (wc := [(h0, .inr (12, [.ref z0, .ref z1, .ref z2, .ref z3, .ref z4, .ref z5, .ref z20, .ref z21, .ref z22, .ref z23, .ref z24, .ref z25, .int 0, .ref z26, .ref z27, .ref z28, .int 9, .int 0, .int 0, .ref z6, .ref z29, .ref z7, .int 0, .int 2, .ref z19, .ref z8, .ref z9, .ref z10, .int 0, .ref z11, .int 0, .ref z30, .ref z31, .ref z32, .ref z33, .int 0, .ref z12, .int 0, .int 0, .ref z34, .ref z35, .ref z36, .ref z37, .int 0, .int 0, .int 0, .int 0, .ref z38, .int 0, .ref z39, .ref z40, .ref z41, .ref z42, .int 0, .ref z13, .ref z14, .ref z15, .ref z16, .int 0, .ref z17, .ref z18, .ref z43]))]) hD hS hA [0] rfl
  refine va_calli (va_runV (As := []) (rest := [.int 0]) ⟨hx, hb, hml, hown, hts⟩ (kX12_gens l D G h0 z0 z1 z2 z3 z4 z5 z20 z21 z22 z23 z24 z25 z26 z27 z28 z6 z29 z7 z19 z8 z9 z10 z11 z30 z31 z32 z33 z12 z34 z35 z36 z37 z38 z39 z40 z41 z42 z13 z14 z15 z16 z17 z18 z43 0 H.size) (cwV 0 hts gX12_passAt_X12_gens rfl rfl rfl (by decide +kernel) ⟨Nat.le_of_ble_eq_true rfl, Nat.le_of_ble_eq_true rfl⟩) ⟨wB_blind, va_recv hK hPc (ci := 12) (q0 := 0) rfl rfl, wB_pre hPc hK hDc hN⟩ rfl rfl hl.1 rfl (lv_room (Nat.le_of_ble_eq_true rfl)) dX12_passAt_15 ⟨Nat.le_of_ble_eq_true rfl, Nat.le_of_ble_eq_true rfl⟩) hS (fun q _ h => hFc q h) hFc (fun r3 u t H1 locs ht hvm hr3 hB hz1 hk1 hS => ?_)
  obtain ⟨hP1, hK1, hD1⟩ := hB
  rw [ht] at hP1
  obtain ⟨hP, hD⟩ := va_join (wr := []) (w1 := [(h0, .inr (12, [.ref z0, .ref z1, .ref z2, .ref z3, .ref z4, .ref z5, .ref z20, .ref z21, .ref z22, .ref z23, .ref z24, .ref z25, .int 0, .ref z26, .ref z27, .ref z28, .int 9, .int 0, .int 0, .ref z6, .ref z29, .ref z7, .int 0, .int 2, .ref z19, .ref z8, .ref z9, .ref z10, .int 0, .ref z11, .int 0, .ref z30, .ref z31, .ref z32, .ref z33, .int 0, .ref z12, .int 0, .int 0, .ref z34, .ref z35, .ref z36, .ref z37, .int 0, .int 0, .int 0, .int 0, .ref z38, .int 0, .ref z39, .ref z40, .ref z41, .ref z42, .int 0, .ref z13, .ref z14, .ref z15, .ref z16, .int 0, .ref z17, .ref z18, .ref z43]))]) hP hD [0] [] rfl rfl (by decide) (by decide) hk1 hFc hP1 hD1
  clear hPc hDc
  generalize H1 = H at hP hS ⊢
  have hP : va_P D vwCl [(h0, .inr (12, [.ref z0, .ref z1, .ref z2, .ref z3, .ref z4, .ref z5, .ref z20, .ref z21, .ref z22, .ref z23, .ref z24, .ref z25, .int 0, .ref z26, .ref z27, .ref z28, .int 9, .int 0, .int 0, .ref z6, .ref z29, .ref z7, .int 0, .int 2, .ref z19, .ref z8, .ref z9, .ref z10, .int 0, .ref z11, .int 0, .ref z30, .ref z31, .ref z32, .ref z33, .int 0, .ref z12, .int 0, .int 0, .ref z34, .ref z35, .ref z36, .ref z37, .int 0, .int 0, .int 0, .int 0, .ref z38, .int 0, .ref z39, .ref z40, .ref z41, .ref z42, .int 0, .ref z13, .ref z14, .ref z15, .ref z16, .int 0, .ref z17, .ref z18, .ref z43]))] H := hP
  have hD : va_D A [(h0, .inr (12, [.ref z0, .ref z1, .ref z2, .ref z3, .ref z4, .ref z5, .ref z20, .ref z21, .ref z22, .ref z23, .ref z24, .ref z25, .int 0, .ref z26, .ref z27, .ref z28, .int 9, .int 0, .int 0, .ref z6, .ref z29, .ref z7, .int 0, .int 2, .ref z19, .ref z8, .ref z9, .ref z10, .int 0, .ref z11, .int 0, .ref z30, .ref z31, .ref z32, .ref z33, .int 0, .ref z12, .int 0, .int 0, .ref z34, .ref z35, .ref z36, .ref z37, .int 0, .int 0, .int 0, .int 0, .ref z38, .int 0, .ref z39, .ref z40, .ref z41, .ref z42, .int 0, .ref z13, .ref z14, .ref z15, .ref z16, .int 0, .ref z17, .ref z18, .ref z43]))] := hD
  subst hr3
  refine lv_irem hx hb dX12_passAt_18 (by decide) ?_
  refine wk_i 0 (by decide) ?_
  have hPc := hP.sub (ws' := []) [] rfl
  have hDc := hD.sub (ws' := []) [] (by decide) rfl
  have hFc := va_free (wc := []) hD hS hA [] rfl
  refine va_calli (va_runS (As := [.int 0]) (rest := []) ⟨hx, hb, hml, hown, hts⟩ (kX12_passOf_0 l D G  H.size) (va_cwS 1 hts gX12_passAt_X12_passOf rfl rfl rfl (by decide +kernel) ⟨Nat.le_of_ble_eq_true rfl, Nat.le_of_ble_eq_true rfl⟩) ⟨wB_blind, wB_pre hPc hK hDc hN⟩ rfl rfl hl.1 rfl (lv_room (Nat.le_of_ble_eq_true rfl)) dX12_passAt_19 ⟨Nat.le_of_ble_eq_true rfl, Nat.le_of_ble_eq_true rfl⟩) hS (fun q _ h => hFc q h) hFc (fun r4 u t H1 locs ht hvm hr4 hB hz1 hk1 hS => ?_)
  obtain ⟨hP, hD⟩ := va_join (wr := [(h0, .inr (12, [.ref z0, .ref z1, .ref z2, .ref z3, .ref z4, .ref z5, .ref z20, .ref z21, .ref z22, .ref z23, .ref z24, .ref z25, .int 0, .ref z26, .ref z27, .ref z28, .int 9, .int 0, .int 0, .ref z6, .ref z29, .ref z7, .int 0, .int 2, .ref z19, .ref z8, .ref z9, .ref z10, .int 0, .ref z11, .int 0, .ref z30, .ref z31, .ref z32, .ref z33, .int 0, .ref z12, .int 0, .int 0, .ref z34, .ref z35, .ref z36, .ref z37, .int 0, .int 0, .int 0, .int 0, .ref z38, .int 0, .ref z39, .ref z40, .ref z41, .ref z42, .int 0, .ref z13, .ref z14, .ref z15, .ref z16, .int 0, .ref z17, .ref z18, .ref z43]))]) (w1 := []) hP hD [] [0] rfl rfl (by decide) (by decide) hk1 hFc wP_nil wD_nil
  clear hPc hDc
  generalize H1 = H at hP hS ⊢
  have hP : va_P D vwCl [(h0, .inr (12, [.ref z0, .ref z1, .ref z2, .ref z3, .ref z4, .ref z5, .ref z20, .ref z21, .ref z22, .ref z23, .ref z24, .ref z25, .int 0, .ref z26, .ref z27, .ref z28, .int 9, .int 0, .int 0, .ref z6, .ref z29, .ref z7, .int 0, .int 2, .ref z19, .ref z8, .ref z9, .ref z10, .int 0, .ref z11, .int 0, .ref z30, .ref z31, .ref z32, .ref z33, .int 0, .ref z12, .int 0, .int 0, .ref z34, .ref z35, .ref z36, .ref z37, .int 0, .int 0, .int 0, .int 0, .ref z38, .int 0, .ref z39, .ref z40, .ref z41, .ref z42, .int 0, .ref z13, .ref z14, .ref z15, .ref z16, .int 0, .ref z17, .ref z18, .ref z43]))] H := hP
  have hD : va_D A [(h0, .inr (12, [.ref z0, .ref z1, .ref z2, .ref z3, .ref z4, .ref z5, .ref z20, .ref z21, .ref z22, .ref z23, .ref z24, .ref z25, .int 0, .ref z26, .ref z27, .ref z28, .int 9, .int 0, .int 0, .ref z6, .ref z29, .ref z7, .int 0, .int 2, .ref z19, .ref z8, .ref z9, .ref z10, .int 0, .ref z11, .int 0, .ref z30, .ref z31, .ref z32, .ref z33, .int 0, .ref z12, .int 0, .int 0, .ref z34, .ref z35, .ref z36, .ref z37, .int 0, .int 0, .int 0, .int 0, .ref z38, .int 0, .ref z39, .ref z40, .ref z41, .ref z42, .int 0, .ref z13, .ref z14, .ref z15, .ref z16, .int 0, .ref z17, .ref z18, .ref z43]))] := hD
  subst hr4
  have hP9 := hP.sub (ws' := [(h0, .inr (12, [.ref z0, .ref z1, .ref z2, .ref z3, .ref z4, .ref z5, .ref z20, .ref z21, .ref z22, .ref z23, .ref z24, .ref z25, .int 0, .ref z26, .ref z27, .ref z28, .int 9, .int 0, .int 0, .ref z6, .ref z29, .ref z7, .int 0, .int 2, .ref z19, .ref z8, .ref z9, .ref z10, .int 0, .ref z11, .int 0, .ref z30, .ref z31, .ref z32, .ref z33, .int 0, .ref z12, .int 0, .int 0, .ref z34, .ref z35, .ref z36, .ref z37, .int 0, .int 0, .int 0, .int 0, .ref z38, .int 0, .ref z39, .ref z40, .ref z41, .ref z42, .int 0, .ref z13, .ref z14, .ref z15, .ref z16, .int 0, .ref z17, .ref z18, .ref z43]))]) [0] rfl
  have hD9 := hD.sub (ws' := [(h0, .inr (12, [.ref z0, .ref z1, .ref z2, .ref z3, .ref z4, .ref z5, .ref z20, .ref z21, .ref z22, .ref z23, .ref z24, .ref z25, .int 0, .ref z26, .ref z27, .ref z28, .int 9, .int 0, .int 0, .ref z6, .ref z29, .ref z7, .int 0, .int 2, .ref z19, .ref z8, .ref z9, .ref z10, .int 0, .ref z11, .int 0, .ref z30, .ref z31, .ref z32, .ref z33, .int 0, .ref z12, .int 0, .int 0, .ref z34, .ref z35, .ref z36, .ref z37, .int 0, .int 0, .int 0, .int 0, .ref z38, .int 0, .ref z39, .ref z40, .ref z41, .ref z42, .int 0, .ref z13, .ref z14, .ref z15, .ref z16, .int 0, .ref z17, .ref z18, .ref z43]))]) [0] (by decide) rfl
  exact W.iret (v := 1) hx hb hr (fun t ht hW => ⟨⟨1, (), rfl, rfl, ⟨by rw [ht]; exact hP9, va_K.moved hW.alike hK, hD9⟩⟩, hS.F ht⟩) hS.2.2 dX12_passAt_22

set_option maxHeartbeats 4000000 in
set_option maxRecDepth 100000 in
/-- X12_passAt -/
theorem kX12_passAt_2_1_0 (l : Launch) (D : va_G) (G : tyG) (h0 : Nat) (z0 : Nat) (z1 : Nat) (z2 : Nat) (z3 : Nat) (z4 : Nat) (z5 : Nat) (z20 : Nat) (z21 : Nat) (z22 : Nat) (z23 : Nat) (z24 : Nat) (z25 : Nat) (z26 : Nat) (z27 : Nat) (z28 : Nat) (z6 : Nat) (z29 : Nat) (z7 : Nat) (z19 : Nat) (z8 : Nat) (z9 : Nat) (z10 : Nat) (z11 : Nat) (z30 : Nat) (z31 : Nat) (z32 : Nat) (z33 : Nat) (z12 : Nat) (z34 : Nat) (z35 : Nat) (z36 : Nat) (z37 : Nat) (z38 : Nat) (z39 : Nat) (z40 : Nat) (z41 : Nat) (z42 : Nat) (z13 : Nat) (z14 : Nat) (z15 : Nat) (z16 : Nat) (z17 : Nat) (z18 : Nat) (z43 : Nat) (sz : Nat) : Met l yX12_passAt wsX12_passAt ({ frames := 1, cells := 0, slots := 0, locals := 23 }) (va_Pc [.ref h0, .int 1, .int 2, .int 0] (wB D G sz [(h0, .inr (12, [.ref z0, .ref z1, .ref z2, .ref z3, .ref z4, .ref z5, .ref z20, .ref z21, .ref z22, .ref z23, .ref z24, .ref z25, .int 0, .ref z26, .ref z27, .ref z28, .int 9, .int 0, .int 0, .ref z6, .ref z29, .ref z7, .int 0, .int 2, .ref z19, .ref z8, .ref z9, .ref z10, .int 0, .ref z11, .int 0, .ref z30, .ref z31, .ref z32, .ref z33, .int 0, .ref z12, .int 0, .int 0, .ref z34, .ref z35, .ref z36, .ref z37, .int 0, .int 0, .int 0, .int 0, .ref z38, .int 0, .ref z39, .ref z40, .ref z41, .ref z42, .int 0, .ref z13, .ref z14, .ref z15, .ref z16, .int 0, .ref z17, .ref z18, .ref z43]))])) (va_Qi (fun (r : Int32) (_ : Unit) => r = 1) (fun _ t => wS D G (va_A [(h0, .inr (12, [.ref z0, .ref z1, .ref z2, .ref z3, .ref z4, .ref z5, .ref z20, .ref z21, .ref z22, .ref z23, .ref z24, .ref z25, .int 0, .ref z26, .ref z27, .ref z28, .int 9, .int 0, .int 0, .ref z6, .ref z29, .ref z7, .int 0, .int 2, .ref z19, .ref z8, .ref z9, .ref z10, .int 0, .ref z11, .int 0, .ref z30, .ref z31, .ref z32, .ref z33, .int 0, .ref z12, .int 0, .int 0, .ref z34, .ref z35, .ref z36, .ref z37, .int 0, .int 0, .int 0, .int 0, .ref z38, .int 0, .ref z39, .ref z40, .ref z41, .ref z42, .int 0, .ref z13, .ref z14, .ref z15, .ref z16, .int 0, .ref z17, .ref z18, .ref z43]))] sz) [(h0, .inr (12, [.ref z0, .ref z1, .ref z2, .ref z3, .ref z4, .ref z5, .ref z20, .ref z21, .ref z22, .ref z23, .ref z24, .ref z25, .int 0, .ref z26, .ref z27, .ref z28, .int 9, .int 0, .int 0, .ref z6, .ref z29, .ref z7, .int 0, .int 2, .ref z19, .ref z8, .ref z9, .ref z10, .int 0, .ref z11, .int 0, .ref z30, .ref z31, .ref z32, .ref z33, .int 0, .ref z12, .int 0, .int 0, .ref z34, .ref z35, .ref z36, .ref z37, .int 0, .int 0, .int 0, .int 0, .ref z38, .int 0, .ref z39, .ref z40, .ref z41, .ref z42, .int 0, .ref z13, .ref z14, .ref z15, .ref z16, .int 0, .ref z17, .ref z18, .ref z43]))] t) (va_A [(h0, .inr (12, [.ref z0, .ref z1, .ref z2, .ref z3, .ref z4, .ref z5, .ref z20, .ref z21, .ref z22, .ref z23, .ref z24, .ref z25, .int 0, .ref z26, .ref z27, .ref z28, .int 9, .int 0, .int 0, .ref z6, .ref z29, .ref z7, .int 0, .int 2, .ref z19, .ref z8, .ref z9, .ref z10, .int 0, .ref z11, .int 0, .ref z30, .ref z31, .ref z32, .ref z33, .int 0, .ref z12, .int 0, .int 0, .ref z34, .ref z35, .ref z36, .ref z37, .int 0, .int 0, .int 0, .int 0, .ref z38, .int 0, .ref z39, .ref z40, .ref z41, .ref z42, .int 0, .ref z13, .ref z14, .ref z15, .ref z16, .int 0, .ref z17, .ref z18, .ref z43]))] sz)) 0 0 (va_A [(h0, .inr (12, [.ref z0, .ref z1, .ref z2, .ref z3, .ref z4, .ref z5, .ref z20, .ref z21, .ref z22, .ref z23, .ref z24, .ref z25, .int 0, .ref z26, .ref z27, .ref z28, .int 9, .int 0, .int 0, .ref z6, .ref z29, .ref z7, .int 0, .int 2, .ref z19, .ref z8, .ref z9, .ref z10, .int 0, .ref z11, .int 0, .ref z30, .ref z31, .ref z32, .ref z33, .int 0, .ref z12, .int 0, .int 0, .ref z34, .ref z35, .ref z36, .ref z37, .int 0, .int 0, .int 0, .int 0, .ref z38, .int 0, .ref z39, .ref z40, .ref z41, .ref z42, .int 0, .ref z13, .ref z14, .ref z15, .ref z16, .int 0, .ref z17, .ref z18, .ref z43]))] sz) := by
  refine Met.ofW (cc := cX12_passAt) (maxL := 4) (ret := (some .int)) (by decide) rfl ?_
  intro p e s m args below meth c s₁ B hml hv
  obtain ⟨rfl, hsz, hP, hK, hD0, hN⟩ := hv
  have hx := B.exec
  have hb := B.bytes
  have hr := B.returns
  have hts := atoms_spec (ws := wsX12_passAt) B.pre
  have hown : s.vm.findClass RX12 = some m.cls := findClass_of_methodNamed B.named
  have hlocks := B.notSynchronized
  subst hsz
  have hD := hD0.self (sz := s.heap.size)
  generalize hAe : va_A [(h0, .inr (12, [.ref z0, .ref z1, .ref z2, .ref z3, .ref z4, .ref z5, .ref z20, .ref z21, .ref z22, .ref z23, .ref z24, .ref z25, .int 0, .ref z26, .ref z27, .ref z28, .int 9, .int 0, .int 0, .ref z6, .ref z29, .ref z7, .int 0, .int 2, .ref z19, .ref z8, .ref z9, .ref z10, .int 0, .ref z11, .int 0, .ref z30, .ref z31, .ref z32, .ref z33, .int 0, .ref z12, .int 0, .int 0, .ref z34, .ref z35, .ref z36, .ref z37, .int 0, .int 0, .int 0, .int 0, .ref z38, .int 0, .ref z39, .ref z40, .ref z41, .ref z42, .int 0, .ref z13, .ref z14, .ref z15, .ref z16, .int 0, .ref z17, .ref z18, .ref z43]))] s.heap.size = A at hD ⊢
  have hA : ∀ q : Nat, s.heap.size ≤ q → A q := fun q h => by rw [← hAe]; exact Or.inr h
  have hS : va_S A s.heap s.heap [] := va_S.rf
  have hP : va_P D vwCl [(h0, .inr (12, [.ref z0, .ref z1, .ref z2, .ref z3, .ref z4, .ref z5, .ref z20, .ref z21, .ref z22, .ref z23, .ref z24, .ref z25, .int 0, .ref z26, .ref z27, .ref z28, .int 9, .int 0, .int 0, .ref z6, .ref z29, .ref z7, .int 0, .int 2, .ref z19, .ref z8, .ref z9, .ref z10, .int 0, .ref z11, .int 0, .ref z30, .ref z31, .ref z32, .ref z33, .int 0, .ref z12, .int 0, .int 0, .ref z34, .ref z35, .ref z36, .ref z37, .int 0, .int 0, .int 0, .int 0, .ref z38, .int 0, .ref z39, .ref z40, .ref z41, .ref z42, .int 0, .ref z13, .ref z14, .ref z15, .ref z16, .int 0, .ref z17, .ref z18, .ref z43]))] s.heap := hP
  have hl := lv_entry ([.ref h0, .int 1, .int 2, .int 0]) (n := 4) (Nat.le_of_ble_eq_true rfl)
  rw [lg_entry_eq]
  generalize (lg_sl ([.ref h0, .int 1, .int 2, .int 0]) ++ List.replicate (4 - (lg_sl ([.ref h0, .int 1, .int 2, .int 0])).length) Slot.unset).toArray = ls at hl ⊢
  have hl : lv_has ls 4 [(0, .ref h0), (1, .int 1), (2, .int 2), (3, .int 0)] := hl
  refine lv_iload_n hx hb dX12_passAt_0 rfl (lv_at hl 1 rfl) ?_
  refine lv_aload_n hx hb dX12_passAt_1 rfl (lv_at hl 0 rfl) ?_
  have hPc := hP.sub (ws' := [(h0, .inr (12, [.ref z0, .ref z1, .ref z2, .ref z3, .ref z4, .ref z5, .ref z20, .ref z21, .ref z22, .ref z23, .ref z24, .ref z25, .int 0, .ref z26, .ref z27, .ref z28, .int 9, .int 0, .int 0, .ref z6, .ref z29, .ref z7, .int 0, .int 2, .ref z19, .ref z8, .ref z9, .ref z10, .int 0, .ref z11, .int 0, .ref z30, .ref z31, .ref z32, .ref z33, .int 0, .ref z12, .int 0, .int 0, .ref z34, .ref z35, .ref z36, .ref z37, .int 0, .int 0, .int 0, .int 0, .ref z38, .int 0, .ref z39, .ref z40, .ref z41, .ref z42, .int 0, .ref z13, .ref z14, .ref z15, .ref z16, .int 0, .ref z17, .ref z18, .ref z43]))]) [0] rfl
  have hDc := hD.sub (ws' := [(h0, .inr (12, [.ref z0, .ref z1, .ref z2, .ref z3, .ref z4, .ref z5, .ref z20, .ref z21, .ref z22, .ref z23, .ref z24, .ref z25, .int 0, .ref z26, .ref z27, .ref z28, .int 9, .int 0, .int 0, .ref z6, .ref z29, .ref z7, .int 0, .int 2, .ref z19, .ref z8, .ref z9, .ref z10, .int 0, .ref z11, .int 0, .ref z30, .ref z31, .ref z32, .ref z33, .int 0, .ref z12, .int 0, .int 0, .ref z34, .ref z35, .ref z36, .ref z37, .int 0, .int 0, .int 0, .int 0, .ref z38, .int 0, .ref z39, .ref z40, .ref z41, .ref z42, .int 0, .ref z13, .ref z14, .ref z15, .ref z16, .int 0, .ref z17, .ref z18, .ref z43]))]) [0] (by decide) rfl
  have hFc := va_free (wc := [(h0, .inr (12, [.ref z0, .ref z1, .ref z2, .ref z3, .ref z4, .ref z5, .ref z20, .ref z21, .ref z22, .ref z23, .ref z24, .ref z25, .int 0, .ref z26, .ref z27, .ref z28, .int 9, .int 0, .int 0, .ref z6, .ref z29, .ref z7, .int 0, .int 2, .ref z19, .ref z8, .ref z9, .ref z10, .int 0, .ref z11, .int 0, .ref z30, .ref z31, .ref z32, .ref z33, .int 0, .ref z12, .int 0, .int 0, .ref z34, .ref z35, .ref z36, .ref z37, .int 0, .int 0, .int 0, .int 0, .ref z38, .int 0, .ref z39, .ref z40, .ref z41, .ref z42, .int 0, .ref z13, .ref z14, .ref z15, .ref z16, .int 0, .ref z17, .ref z18, .ref z43]))]) hD hS hA [0] rfl
  refine va_calli (va_runV (As := []) (rest := [.int 1]) ⟨hx, hb, hml, hown, hts⟩ (kX12_gens l D G h0 z0 z1 z2 z3 z4 z5 z20 z21 z22 z23 z24 z25 z26 z27 z28 z6 z29 z7 z19 z8 z9 z10 z11 z30 z31 z32 z33 z12 z34 z35 z36 z37 z38 z39 z40 z41 z42 z13 z14 z15 z16 z17 z18 z43 0 s.heap.size) (cwV 0 hts gX12_passAt_X12_gens rfl rfl rfl (by decide +kernel) ⟨Nat.le_of_ble_eq_true rfl, Nat.le_of_ble_eq_true rfl⟩) ⟨wB_blind, va_recv hK hPc (ci := 12) (q0 := 0) rfl rfl, wB_pre hPc hK hDc hN⟩ rfl rfl hl.1 rfl (lv_room (Nat.le_of_ble_eq_true rfl)) dX12_passAt_2 ⟨Nat.le_of_ble_eq_true rfl, Nat.le_of_ble_eq_true rfl⟩) hS (fun q _ h => hFc q h) hFc (fun r1 u t H1 locs ht hvm hr1 hB hz1 hk1 hS => ?_)
  obtain ⟨hP1, hK1, hD1⟩ := hB
  rw [ht] at hP1
  obtain ⟨hP, hD⟩ := va_join (wr := []) (w1 := [(h0, .inr (12, [.ref z0, .ref z1, .ref z2, .ref z3, .ref z4, .ref z5, .ref z20, .ref z21, .ref z22, .ref z23, .ref z24, .ref z25, .int 0, .ref z26, .ref z27, .ref z28, .int 9, .int 0, .int 0, .ref z6, .ref z29, .ref z7, .int 0, .int 2, .ref z19, .ref z8, .ref z9, .ref z10, .int 0, .ref z11, .int 0, .ref z30, .ref z31, .ref z32, .ref z33, .int 0, .ref z12, .int 0, .int 0, .ref z34, .ref z35, .ref z36, .ref z37, .int 0, .int 0, .int 0, .int 0, .ref z38, .int 0, .ref z39, .ref z40, .ref z41, .ref z42, .int 0, .ref z13, .ref z14, .ref z15, .ref z16, .int 0, .ref z17, .ref z18, .ref z43]))]) hP hD [0] [] rfl rfl (by decide) (by decide) hk1 hFc hP1 hD1
  clear hPc hDc
  generalize H1 = H at hP hS ⊢
  have hP : va_P D vwCl [(h0, .inr (12, [.ref z0, .ref z1, .ref z2, .ref z3, .ref z4, .ref z5, .ref z20, .ref z21, .ref z22, .ref z23, .ref z24, .ref z25, .int 0, .ref z26, .ref z27, .ref z28, .int 9, .int 0, .int 0, .ref z6, .ref z29, .ref z7, .int 0, .int 2, .ref z19, .ref z8, .ref z9, .ref z10, .int 0, .ref z11, .int 0, .ref z30, .ref z31, .ref z32, .ref z33, .int 0, .ref z12, .int 0, .int 0, .ref z34, .ref z35, .ref z36, .ref z37, .int 0, .int 0, .int 0, .int 0, .ref z38, .int 0, .ref z39, .ref z40, .ref z41, .ref z42, .int 0, .ref z13, .ref z14, .ref z15, .ref z16, .int 0, .ref z17, .ref z18, .ref z43]))] H := hP
  have hD : va_D A [(h0, .inr (12, [.ref z0, .ref z1, .ref z2, .ref z3, .ref z4, .ref z5, .ref z20, .ref z21, .ref z22, .ref z23, .ref z24, .ref z25, .int 0, .ref z26, .ref z27, .ref z28, .int 9, .int 0, .int 0, .ref z6, .ref z29, .ref z7, .int 0, .int 2, .ref z19, .ref z8, .ref z9, .ref z10, .int 0, .ref z11, .int 0, .ref z30, .ref z31, .ref z32, .ref z33, .int 0, .ref z12, .int 0, .int 0, .ref z34, .ref z35, .ref z36, .ref z37, .int 0, .int 0, .int 0, .int 0, .ref z38, .int 0, .ref z39, .ref z40, .ref z41, .ref z42, .int 0, .ref z13, .ref z14, .ref z15, .ref z16, .int 0, .ref z17, .ref z18, .ref z43]))] := hD
  subst hr1
  refine lv_iload_n hx hb dX12_passAt_5 rfl (lv_at hl 2 rfl) ?_
  refine lv_iconst (v := 1) hx hb dX12_passAt_6 (by decide) ?_
  refine lv_isub hx hb dX12_passAt_7 ?_
  refine wk_i 1 (by decide) ?_
  refine lv_iload_n hx hb dX12_passAt_8 rfl (lv_at hl 3 rfl) ?_
  refine lv_isub hx hb dX12_passAt_9 ?_
  refine wk_i 1 (by decide) ?_
  have hPc := hP.sub (ws' := []) [] rfl
  have hDc := hD.sub (ws' := []) [] (by decide) rfl
  have hFc := va_free (wc := []) hD hS hA [] rfl
  refine va_calli (va_runS (As := [.int 2, .int 1]) (rest := [.int 1]) ⟨hx, hb, hml, hown, hts⟩ (kX12_power_1 l D G  H.size) (va_cwS 2 hts gX12_passAt_X12_power rfl rfl rfl (by decide +kernel) ⟨Nat.le_of_ble_eq_true rfl, Nat.le_of_ble_eq_true rfl⟩) ⟨wB_blind, wB_pre hPc hK hDc hN⟩ rfl rfl hl.1 rfl (lv_room (Nat.le_of_ble_eq_true rfl)) dX12_passAt_10 ⟨Nat.le_of_ble_eq_true rfl, Nat.le_of_ble_eq_true rfl⟩) hS (fun q _ h => hFc q h) hFc (fun r2 u t H1 locs ht hvm hr2 hB hz1 hk1 hS => ?_)
  obtain ⟨hP, hD⟩ := va_join (wr := [(h0, .inr (12, [.ref z0, .ref z1, .ref z2, .ref z3, .ref z4, .ref z5, .ref z20, .ref z21, .ref z22, .ref z23, .ref z24, .ref z25, .int 0, .ref z26, .ref z27, .ref z28, .int 9, .int 0, .int 0, .ref z6, .ref z29, .ref z7, .int 0, .int 2, .ref z19, .ref z8, .ref z9, .ref z10, .int 0, .ref z11, .int 0, .ref z30, .ref z31, .ref z32, .ref z33, .int 0, .ref z12, .int 0, .int 0, .ref z34, .ref z35, .ref z36, .ref z37, .int 0, .int 0, .int 0, .int 0, .ref z38, .int 0, .ref z39, .ref z40, .ref z41, .ref z42, .int 0, .ref z13, .ref z14, .ref z15, .ref z16, .int 0, .ref z17, .ref z18, .ref z43]))]) (w1 := []) hP hD [] [0] rfl rfl (by decide) (by decide) hk1 hFc wP_nil wD_nil
  clear hPc hDc
  generalize H1 = H at hP hS ⊢
  have hP : va_P D vwCl [(h0, .inr (12, [.ref z0, .ref z1, .ref z2, .ref z3, .ref z4, .ref z5, .ref z20, .ref z21, .ref z22, .ref z23, .ref z24, .ref z25, .int 0, .ref z26, .ref z27, .ref z28, .int 9, .int 0, .int 0, .ref z6, .ref z29, .ref z7, .int 0, .int 2, .ref z19, .ref z8, .ref z9, .ref z10, .int 0, .ref z11, .int 0, .ref z30, .ref z31, .ref z32, .ref z33, .int 0, .ref z12, .int 0, .int 0, .ref z34, .ref z35, .ref z36, .ref z37, .int 0, .int 0, .int 0, .int 0, .ref z38, .int 0, .ref z39, .ref z40, .ref z41, .ref z42, .int 0, .ref z13, .ref z14, .ref z15, .ref z16, .int 0, .ref z17, .ref z18, .ref z43]))] H := hP
  have hD : va_D A [(h0, .inr (12, [.ref z0, .ref z1, .ref z2, .ref z3, .ref z4, .ref z5, .ref z20, .ref z21, .ref z22, .ref z23, .ref z24, .ref z25, .int 0, .ref z26, .ref z27, .ref z28, .int 9, .int 0, .int 0, .ref z6, .ref z29, .ref z7, .int 0, .int 2, .ref z19, .ref z8, .ref z9, .ref z10, .int 0, .ref z11, .int 0, .ref z30, .ref z31, .ref z32, .ref z33, .int 0, .ref z12, .int 0, .int 0, .ref z34, .ref z35, .ref z36, .ref z37, .int 0, .int 0, .int 0, .int 0, .ref z38, .int 0, .ref z39, .ref z40, .ref z41, .ref z42, .int 0, .ref z13, .ref z14, .ref z15, .ref z16, .int 0, .ref z17, .ref z18, .ref z43]))] := hD
  subst hr2
  refine lv_idiv hx hb dX12_passAt_13 (by decide) ?_
  refine wk_i 0 (by decide) ?_
  refine lv_aload_n hx hb dX12_passAt_14 rfl (lv_at hl 0 rfl) ?_
  have hPc := hP.sub (ws' := [(h0, .inr (12, [.ref z0, .ref z1, .ref z2, .ref z3, .ref z4, .ref z5, .ref z20, .ref z21, .ref z22, .ref z23, .ref z24, .ref z25, .int 0, .ref z26, .ref z27, .ref z28, .int 9, .int 0, .int 0, .ref z6, .ref z29, .ref z7, .int 0, .int 2, .ref z19, .ref z8, .ref z9, .ref z10, .int 0, .ref z11, .int 0, .ref z30, .ref z31, .ref z32, .ref z33, .int 0, .ref z12, .int 0, .int 0, .ref z34, .ref z35, .ref z36, .ref z37, .int 0, .int 0, .int 0, .int 0, .ref z38, .int 0, .ref z39, .ref z40, .ref z41, .ref z42, .int 0, .ref z13, .ref z14, .ref z15, .ref z16, .int 0, .ref z17, .ref z18, .ref z43]))]) [0] rfl
  have hDc := hD.sub (ws' := [(h0, .inr (12, [.ref z0, .ref z1, .ref z2, .ref z3, .ref z4, .ref z5, .ref z20, .ref z21, .ref z22, .ref z23, .ref z24, .ref z25, .int 0, .ref z26, .ref z27, .ref z28, .int 9, .int 0, .int 0, .ref z6, .ref z29, .ref z7, .int 0, .int 2, .ref z19, .ref z8, .ref z9, .ref z10, .int 0, .ref z11, .int 0, .ref z30, .ref z31, .ref z32, .ref z33, .int 0, .ref z12, .int 0, .int 0, .ref z34, .ref z35, .ref z36, .ref z37, .int 0, .int 0, .int 0, .int 0, .ref z38, .int 0, .ref z39, .ref z40, .ref z41, .ref z42, .int 0, .ref z13, .ref z14, .ref z15, .ref z16, .int 0, .ref z17, .ref z18, .ref z43]))]) [0] (by decide) rfl
  have hFc := va_free (wc := [(h0, .inr (12, [.ref z0, .ref z1, .ref z2, .ref z3, .ref z4, .ref z5, .ref z20, .ref z21, .ref z22, .ref z23, .ref z24, .ref z25, .int 0, .ref z26, .ref z27, .ref z28, .int 9, .int 0, .int 0, .ref z6, .ref z29, .ref z7, .int 0, .int 2, .ref z19, .ref z8, .ref z9, .ref z10, .int 0, .ref z11, .int 0, .ref z30, .ref z31, .ref z32, .ref z33, .int 0, .ref z12, .int 0, .int 0, .ref z34, .ref z35, .ref z36, .ref z37, .int 0, .int 0, .int 0, .int 0, .ref z38, .int 0, .ref z39, .ref z40, .ref z41, .ref z42, .int 0, .ref z13, .ref z14, .ref z15, .ref z16, .int 0, .ref z17, .ref z18, .ref z43]))]) hD hS hA [0] rfl
  refine va_calli (va_runV (As := []) (rest := [.int 0]) ⟨hx, hb, hml, hown, hts⟩ (kX12_gens l D G h0 z0 z1 z2 z3 z4 z5 z20 z21 z22 z23 z24 z25 z26 z27 z28 z6 z29 z7 z19 z8 z9 z10 z11 z30 z31 z32 z33 z12 z34 z35 z36 z37 z38 z39 z40 z41 z42 z13 z14 z15 z16 z17 z18 z43 0 H.size) (cwV 0 hts gX12_passAt_X12_gens rfl rfl rfl (by decide +kernel) ⟨Nat.le_of_ble_eq_true rfl, Nat.le_of_ble_eq_true rfl⟩) ⟨wB_blind, va_recv hK hPc (ci := 12) (q0 := 0) rfl rfl, wB_pre hPc hK hDc hN⟩ rfl rfl hl.1 rfl (lv_room (Nat.le_of_ble_eq_true rfl)) dX12_passAt_15 ⟨Nat.le_of_ble_eq_true rfl, Nat.le_of_ble_eq_true rfl⟩) hS (fun q _ h => hFc q h) hFc (fun r3 u t H1 locs ht hvm hr3 hB hz1 hk1 hS => ?_)
  obtain ⟨hP1, hK1, hD1⟩ := hB
  rw [ht] at hP1
  obtain ⟨hP, hD⟩ := va_join (wr := []) (w1 := [(h0, .inr (12, [.ref z0, .ref z1, .ref z2, .ref z3, .ref z4, .ref z5, .ref z20, .ref z21, .ref z22, .ref z23, .ref z24, .ref z25, .int 0, .ref z26, .ref z27, .ref z28, .int 9, .int 0, .int 0, .ref z6, .ref z29, .ref z7, .int 0, .int 2, .ref z19, .ref z8, .ref z9, .ref z10, .int 0, .ref z11, .int 0, .ref z30, .ref z31, .ref z32, .ref z33, .int 0, .ref z12, .int 0, .int 0, .ref z34, .ref z35, .ref z36, .ref z37, .int 0, .int 0, .int 0, .int 0, .ref z38, .int 0, .ref z39, .ref z40, .ref z41, .ref z42, .int 0, .ref z13, .ref z14, .ref z15, .ref z16, .int 0, .ref z17, .ref z18, .ref z43]))]) hP hD [0] [] rfl rfl (by decide) (by decide) hk1 hFc hP1 hD1
  clear hPc hDc
  generalize H1 = H at hP hS ⊢
  have hP : va_P D vwCl [(h0, .inr (12, [.ref z0, .ref z1, .ref z2, .ref z3, .ref z4, .ref z5, .ref z20, .ref z21, .ref z22, .ref z23, .ref z24, .ref z25, .int 0, .ref z26, .ref z27, .ref z28, .int 9, .int 0, .int 0, .ref z6, .ref z29, .ref z7, .int 0, .int 2, .ref z19, .ref z8, .ref z9, .ref z10, .int 0, .ref z11, .int 0, .ref z30, .ref z31, .ref z32, .ref z33, .int 0, .ref z12, .int 0, .int 0, .ref z34, .ref z35, .ref z36, .ref z37, .int 0, .int 0, .int 0, .int 0, .ref z38, .int 0, .ref z39, .ref z40, .ref z41, .ref z42, .int 0, .ref z13, .ref z14, .ref z15, .ref z16, .int 0, .ref z17, .ref z18, .ref z43]))] H := hP
  have hD : va_D A [(h0, .inr (12, [.ref z0, .ref z1, .ref z2, .ref z3, .ref z4, .ref z5, .ref z20, .ref z21, .ref z22, .ref z23, .ref z24, .ref z25, .int 0, .ref z26, .ref z27, .ref z28, .int 9, .int 0, .int 0, .ref z6, .ref z29, .ref z7, .int 0, .int 2, .ref z19, .ref z8, .ref z9, .ref z10, .int 0, .ref z11, .int 0, .ref z30, .ref z31, .ref z32, .ref z33, .int 0, .ref z12, .int 0, .int 0, .ref z34, .ref z35, .ref z36, .ref z37, .int 0, .int 0, .int 0, .int 0, .ref z38, .int 0, .ref z39, .ref z40, .ref z41, .ref z42, .int 0, .ref z13, .ref z14, .ref z15, .ref z16, .int 0, .ref z17, .ref z18, .ref z43]))] := hD
  subst hr3
  refine lv_irem hx hb dX12_passAt_18 (by decide) ?_
  refine wk_i 0 (by decide) ?_
  have hPc := hP.sub (ws' := []) [] rfl
  have hDc := hD.sub (ws' := []) [] (by decide) rfl
  have hFc := va_free (wc := []) hD hS hA [] rfl
  refine va_calli (va_runS (As := [.int 0]) (rest := []) ⟨hx, hb, hml, hown, hts⟩ (kX12_passOf_0 l D G  H.size) (va_cwS 1 hts gX12_passAt_X12_passOf rfl rfl rfl (by decide +kernel) ⟨Nat.le_of_ble_eq_true rfl, Nat.le_of_ble_eq_true rfl⟩) ⟨wB_blind, wB_pre hPc hK hDc hN⟩ rfl rfl hl.1 rfl (lv_room (Nat.le_of_ble_eq_true rfl)) dX12_passAt_19 ⟨Nat.le_of_ble_eq_true rfl, Nat.le_of_ble_eq_true rfl⟩) hS (fun q _ h => hFc q h) hFc (fun r4 u t H1 locs ht hvm hr4 hB hz1 hk1 hS => ?_)
  obtain ⟨hP, hD⟩ := va_join (wr := [(h0, .inr (12, [.ref z0, .ref z1, .ref z2, .ref z3, .ref z4, .ref z5, .ref z20, .ref z21, .ref z22, .ref z23, .ref z24, .ref z25, .int 0, .ref z26, .ref z27, .ref z28, .int 9, .int 0, .int 0, .ref z6, .ref z29, .ref z7, .int 0, .int 2, .ref z19, .ref z8, .ref z9, .ref z10, .int 0, .ref z11, .int 0, .ref z30, .ref z31, .ref z32, .ref z33, .int 0, .ref z12, .int 0, .int 0, .ref z34, .ref z35, .ref z36, .ref z37, .int 0, .int 0, .int 0, .int 0, .ref z38, .int 0, .ref z39, .ref z40, .ref z41, .ref z42, .int 0, .ref z13, .ref z14, .ref z15, .ref z16, .int 0, .ref z17, .ref z18, .ref z43]))]) (w1 := []) hP hD [] [0] rfl rfl (by decide) (by decide) hk1 hFc wP_nil wD_nil
  clear hPc hDc
  generalize H1 = H at hP hS ⊢
  have hP : va_P D vwCl [(h0, .inr (12, [.ref z0, .ref z1, .ref z2, .ref z3, .ref z4, .ref z5, .ref z20, .ref z21, .ref z22, .ref z23, .ref z24, .ref z25, .int 0, .ref z26, .ref z27, .ref z28, .int 9, .int 0, .int 0, .ref z6, .ref z29, .ref z7, .int 0, .int 2, .ref z19, .ref z8, .ref z9, .ref z10, .int 0, .ref z11, .int 0, .ref z30, .ref z31, .ref z32, .ref z33, .int 0, .ref z12, .int 0, .int 0, .ref z34, .ref z35, .ref z36, .ref z37, .int 0, .int 0, .int 0, .int 0, .ref z38, .int 0, .ref z39, .ref z40, .ref z41, .ref z42, .int 0, .ref z13, .ref z14, .ref z15, .ref z16, .int 0, .ref z17, .ref z18, .ref z43]))] H := hP
  have hD : va_D A [(h0, .inr (12, [.ref z0, .ref z1, .ref z2, .ref z3, .ref z4, .ref z5, .ref z20, .ref z21, .ref z22, .ref z23, .ref z24, .ref z25, .int 0, .ref z26, .ref z27, .ref z28, .int 9, .int 0, .int 0, .ref z6, .ref z29, .ref z7, .int 0, .int 2, .ref z19, .ref z8, .ref z9, .ref z10, .int 0, .ref z11, .int 0, .ref z30, .ref z31, .ref z32, .ref z33, .int 0, .ref z12, .int 0, .int 0, .ref z34, .ref z35, .ref z36, .ref z37, .int 0, .int 0, .int 0, .int 0, .ref z38, .int 0, .ref z39, .ref z40, .ref z41, .ref z42, .int 0, .ref z13, .ref z14, .ref z15, .ref z16, .int 0, .ref z17, .ref z18, .ref z43]))] := hD
  subst hr4
  have hP9 := hP.sub (ws' := [(h0, .inr (12, [.ref z0, .ref z1, .ref z2, .ref z3, .ref z4, .ref z5, .ref z20, .ref z21, .ref z22, .ref z23, .ref z24, .ref z25, .int 0, .ref z26, .ref z27, .ref z28, .int 9, .int 0, .int 0, .ref z6, .ref z29, .ref z7, .int 0, .int 2, .ref z19, .ref z8, .ref z9, .ref z10, .int 0, .ref z11, .int 0, .ref z30, .ref z31, .ref z32, .ref z33, .int 0, .ref z12, .int 0, .int 0, .ref z34, .ref z35, .ref z36, .ref z37, .int 0, .int 0, .int 0, .int 0, .ref z38, .int 0, .ref z39, .ref z40, .ref z41, .ref z42, .int 0, .ref z13, .ref z14, .ref z15, .ref z16, .int 0, .ref z17, .ref z18, .ref z43]))]) [0] rfl
  have hD9 := hD.sub (ws' := [(h0, .inr (12, [.ref z0, .ref z1, .ref z2, .ref z3, .ref z4, .ref z5, .ref z20, .ref z21, .ref z22, .ref z23, .ref z24, .ref z25, .int 0, .ref z26, .ref z27, .ref z28, .int 9, .int 0, .int 0, .ref z6, .ref z29, .ref z7, .int 0, .int 2, .ref z19, .ref z8, .ref z9, .ref z10, .int 0, .ref z11, .int 0, .ref z30, .ref z31, .ref z32, .ref z33, .int 0, .ref z12, .int 0, .int 0, .ref z34, .ref z35, .ref z36, .ref z37, .int 0, .int 0, .int 0, .int 0, .ref z38, .int 0, .ref z39, .ref z40, .ref z41, .ref z42, .int 0, .ref z13, .ref z14, .ref z15, .ref z16, .int 0, .ref z17, .ref z18, .ref z43]))]) [0] (by decide) rfl
  exact W.iret (v := 1) hx hb hr (fun t ht hW => ⟨⟨1, (), rfl, rfl, ⟨by rw [ht]; exact hP9, va_K.moved hW.alike hK, hD9⟩⟩, hS.F ht⟩) hS.2.2 dX12_passAt_22

set_option maxHeartbeats 4000000 in
set_option maxRecDepth 100000 in
/-- X12_passAt -/
theorem kX12_passAt_2_1_1 (l : Launch) (D : va_G) (G : tyG) (h0 : Nat) (z0 : Nat) (z1 : Nat) (z2 : Nat) (z3 : Nat) (z4 : Nat) (z5 : Nat) (z20 : Nat) (z21 : Nat) (z22 : Nat) (z23 : Nat) (z24 : Nat) (z25 : Nat) (z26 : Nat) (z27 : Nat) (z28 : Nat) (z6 : Nat) (z29 : Nat) (z7 : Nat) (z19 : Nat) (z8 : Nat) (z9 : Nat) (z10 : Nat) (z11 : Nat) (z30 : Nat) (z31 : Nat) (z32 : Nat) (z33 : Nat) (z12 : Nat) (z34 : Nat) (z35 : Nat) (z36 : Nat) (z37 : Nat) (z38 : Nat) (z39 : Nat) (z40 : Nat) (z41 : Nat) (z42 : Nat) (z13 : Nat) (z14 : Nat) (z15 : Nat) (z16 : Nat) (z17 : Nat) (z18 : Nat) (z43 : Nat) (sz : Nat) : Met l yX12_passAt wsX12_passAt ({ frames := 1, cells := 0, slots := 0, locals := 23 }) (va_Pc [.ref h0, .int 1, .int 2, .int 1] (wB D G sz [(h0, .inr (12, [.ref z0, .ref z1, .ref z2, .ref z3, .ref z4, .ref z5, .ref z20, .ref z21, .ref z22, .ref z23, .ref z24, .ref z25, .int 0, .ref z26, .ref z27, .ref z28, .int 9, .int 0, .int 0, .ref z6, .ref z29, .ref z7, .int 0, .int 2, .ref z19, .ref z8, .ref z9, .ref z10, .int 0, .ref z11, .int 0, .ref z30, .ref z31, .ref z32, .ref z33, .int 0, .ref z12, .int 0, .int 0, .ref z34, .ref z35, .ref z36, .ref z37, .int 0, .int 0, .int 0, .int 0, .ref z38, .int 0, .ref z39, .ref z40, .ref z41, .ref z42, .int 0, .ref z13, .ref z14, .ref z15, .ref z16, .int 0, .ref z17, .ref z18, .ref z43]))])) (va_Qi (fun (r : Int32) (_ : Unit) => r = (-1)) (fun _ t => wS D G (va_A [(h0, .inr (12, [.ref z0, .ref z1, .ref z2, .ref z3, .ref z4, .ref z5, .ref z20, .ref z21, .ref z22, .ref z23, .ref z24, .ref z25, .int 0, .ref z26, .ref z27, .ref z28, .int 9, .int 0, .int 0, .ref z6, .ref z29, .ref z7, .int 0, .int 2, .ref z19, .ref z8, .ref z9, .ref z10, .int 0, .ref z11, .int 0, .ref z30, .ref z31, .ref z32, .ref z33, .int 0, .ref z12, .int 0, .int 0, .ref z34, .ref z35, .ref z36, .ref z37, .int 0, .int 0, .int 0, .int 0, .ref z38, .int 0, .ref z39, .ref z40, .ref z41, .ref z42, .int 0, .ref z13, .ref z14, .ref z15, .ref z16, .int 0, .ref z17, .ref z18, .ref z43]))] sz) [(h0, .inr (12, [.ref z0, .ref z1, .ref z2, .ref z3, .ref z4, .ref z5, .ref z20, .ref z21, .ref z22, .ref z23, .ref z24, .ref z25, .int 0, .ref z26, .ref z27, .ref z28, .int 9, .int 0, .int 0, .ref z6, .ref z29, .ref z7, .int 0, .int 2, .ref z19, .ref z8, .ref z9, .ref z10, .int 0, .ref z11, .int 0, .ref z30, .ref z31, .ref z32, .ref z33, .int 0, .ref z12, .int 0, .int 0, .ref z34, .ref z35, .ref z36, .ref z37, .int 0, .int 0, .int 0, .int 0, .ref z38, .int 0, .ref z39, .ref z40, .ref z41, .ref z42, .int 0, .ref z13, .ref z14, .ref z15, .ref z16, .int 0, .ref z17, .ref z18, .ref z43]))] t) (va_A [(h0, .inr (12, [.ref z0, .ref z1, .ref z2, .ref z3, .ref z4, .ref z5, .ref z20, .ref z21, .ref z22, .ref z23, .ref z24, .ref z25, .int 0, .ref z26, .ref z27, .ref z28, .int 9, .int 0, .int 0, .ref z6, .ref z29, .ref z7, .int 0, .int 2, .ref z19, .ref z8, .ref z9, .ref z10, .int 0, .ref z11, .int 0, .ref z30, .ref z31, .ref z32, .ref z33, .int 0, .ref z12, .int 0, .int 0, .ref z34, .ref z35, .ref z36, .ref z37, .int 0, .int 0, .int 0, .int 0, .ref z38, .int 0, .ref z39, .ref z40, .ref z41, .ref z42, .int 0, .ref z13, .ref z14, .ref z15, .ref z16, .int 0, .ref z17, .ref z18, .ref z43]))] sz)) 0 0 (va_A [(h0, .inr (12, [.ref z0, .ref z1, .ref z2, .ref z3, .ref z4, .ref z5, .ref z20, .ref z21, .ref z22, .ref z23, .ref z24, .ref z25, .int 0, .ref z26, .ref z27, .ref z28, .int 9, .int 0, .int 0, .ref z6, .ref z29, .ref z7, .int 0, .int 2, .ref z19, .ref z8, .ref z9, .ref z10, .int 0, .ref z11, .int 0, .ref z30, .ref z31, .ref z32, .ref z33, .int 0, .ref z12, .int 0, .int 0, .ref z34, .ref z35, .ref z36, .ref z37, .int 0, .int 0, .int 0, .int 0, .ref z38, .int 0, .ref z39, .ref z40, .ref z41, .ref z42, .int 0, .ref z13, .ref z14, .ref z15, .ref z16, .int 0, .ref z17, .ref z18, .ref z43]))] sz) := by
  refine Met.ofW (cc := cX12_passAt) (maxL := 4) (ret := (some .int)) (by decide) rfl ?_
  intro p e s m args below meth c s₁ B hml hv
  obtain ⟨rfl, hsz, hP, hK, hD0, hN⟩ := hv
  have hx := B.exec
  have hb := B.bytes
  have hr := B.returns
  have hts := atoms_spec (ws := wsX12_passAt) B.pre
  have hown : s.vm.findClass RX12 = some m.cls := findClass_of_methodNamed B.named
  have hlocks := B.notSynchronized
  subst hsz
  have hD := hD0.self (sz := s.heap.size)
  generalize hAe : va_A [(h0, .inr (12, [.ref z0, .ref z1, .ref z2, .ref z3, .ref z4, .ref z5, .ref z20, .ref z21, .ref z22, .ref z23, .ref z24, .ref z25, .int 0, .ref z26, .ref z27, .ref z28, .int 9, .int 0, .int 0, .ref z6, .ref z29, .ref z7, .int 0, .int 2, .ref z19, .ref z8, .ref z9, .ref z10, .int 0, .ref z11, .int 0, .ref z30, .ref z31, .ref z32, .ref z33, .int 0, .ref z12, .int 0, .int 0, .ref z34, .ref z35, .ref z36, .ref z37, .int 0, .int 0, .int 0, .int 0, .ref z38, .int 0, .ref z39, .ref z40, .ref z41, .ref z42, .int 0, .ref z13, .ref z14, .ref z15, .ref z16, .int 0, .ref z17, .ref z18, .ref z43]))] s.heap.size = A at hD ⊢
  have hA : ∀ q : Nat, s.heap.size ≤ q → A q := fun q h => by rw [← hAe]; exact Or.inr h
  have hS : va_S A s.heap s.heap [] := va_S.rf
  have hP : va_P D vwCl [(h0, .inr (12, [.ref z0, .ref z1, .ref z2, .ref z3, .ref z4, .ref z5, .ref z20, .ref z21, .ref z22, .ref z23, .ref z24, .ref z25, .int 0, .ref z26, .ref z27, .ref z28, .int 9, .int 0, .int 0, .ref z6, .ref z29, .ref z7, .int 0, .int 2, .ref z19, .ref z8, .ref z9, .ref z10, .int 0, .ref z11, .int 0, .ref z30, .ref z31, .ref z32, .ref z33, .int 0, .ref z12, .int 0, .int 0, .ref z34, .ref z35, .ref z36, .ref z37, .int 0, .int 0, .int 0, .int 0, .ref z38, .int 0, .ref z39, .ref z40, .ref z41, .ref z42, .int 0, .ref z13, .ref z14, .ref z15, .ref z16, .int 0, .ref z17, .ref z18, .ref z43]))] s.heap := hP
  have hl := lv_entry ([.ref h0, .int 1, .int 2, .int 1]) (n := 4) (Nat.le_of_ble_eq_true rfl)
  rw [lg_entry_eq]
  generalize (lg_sl ([.ref h0, .int 1, .int 2, .int 1]) ++ List.replicate (4 - (lg_sl ([.ref h0, .int 1, .int 2, .int 1])).length) Slot.unset).toArray = ls at hl ⊢
  have hl : lv_has ls 4 [(0, .ref h0), (1, .int 1), (2, .int 2), (3, .int 1)] := hl
  refine lv_iload_n hx hb dX12_passAt_0 rfl (lv_at hl 1 rfl) ?_
  refine lv_aload_n hx hb dX12_passAt_1 rfl (lv_at hl 0 rfl) ?_
  have hPc := hP.sub (ws' := [(h0, .inr (12, [.ref z0, .ref z1, .ref z2, .ref z3, .ref z4, .ref z5, .ref z20, .ref z21, .ref z22, .ref z23, .ref z24, .ref z25, .int 0, .ref z26, .ref z27, .ref z28, .int 9, .int 0, .int 0, .ref z6, .ref z29, .ref z7, .int 0, .int 2, .ref z19, .ref z8, .ref z9, .ref z10, .int 0, .ref z11, .int 0, .ref z30, .ref z31, .ref z32, .ref z33, .int 0, .ref z12, .int 0, .int 0, .ref z34, .ref z35, .ref z36, .ref z37, .int 0, .int 0, .int 0, .int 0, .ref z38, .int 0, .ref z39, .ref z40, .ref z41, .ref z42, .int 0, .ref z13, .ref z14, .ref z15, .ref z16, .int 0, .ref z17, .ref z18, .ref z43]))]) [0] rfl
  have hDc := hD.sub (ws' := [(h0, .inr (12, [.ref z0, .ref z1, .ref z2, .ref z3, .ref z4, .ref z5, .ref z20, .ref z21, .ref z22, .ref z23, .ref z24, .ref z25, .int 0, .ref z26, .ref z27, .ref z28, .int 9, .int 0, .int 0, .ref z6, .ref z29, .ref z7, .int 0, .int 2, .ref z19, .ref z8, .ref z9, .ref z10, .int 0, .ref z11, .int 0, .ref z30, .ref z31, .ref z32, .ref z33, .int 0, .ref z12, .int 0, .int 0, .ref z34, .ref z35, .ref z36, .ref z37, .int 0, .int 0, .int 0, .int 0, .ref z38, .int 0, .ref z39, .ref z40, .ref z41, .ref z42, .int 0, .ref z13, .ref z14, .ref z15, .ref z16, .int 0, .ref z17, .ref z18, .ref z43]))]) [0] (by decide) rfl
  have hFc := va_free (wc := [(h0, .inr (12, [.ref z0, .ref z1, .ref z2, .ref z3, .ref z4, .ref z5, .ref z20, .ref z21, .ref z22, .ref z23, .ref z24, .ref z25, .int 0, .ref z26, .ref z27, .ref z28, .int 9, .int 0, .int 0, .ref z6, .ref z29, .ref z7, .int 0, .int 2, .ref z19, .ref z8, .ref z9, .ref z10, .int 0, .ref z11, .int 0, .ref z30, .ref z31, .ref z32, .ref z33, .int 0, .ref z12, .int 0, .int 0, .ref z34, .ref z35, .ref z36, .ref z37, .int 0, .int 0, .int 0, .int 0, .ref z38, .int 0, .ref z39, .ref z40, .ref z41, .ref z42, .int 0, .ref z13, .ref z14, .ref z15, .ref z16, .int 0, .ref z17, .ref z18, .ref z43]))]) hD hS hA [0] rfl
  refine va_calli (va_runV (As := []) (rest := [.int 1]) ⟨hx, hb, hml, hown, hts⟩ (kX12_gens l D G h0 z0 z1 z2 z3 z4 z5 z20 z21 z22 z23 z24 z25 z26 z27 z28 z6 z29 z7 z19 z8 z9 z10 z11 z30 z31 z32 z33 z12 z34 z35 z36 z37 z38 z39 z40 z41 z42 z13 z14 z15 z16 z17 z18 z43 0 s.heap.size) (cwV 0 hts gX12_passAt_X12_gens rfl rfl rfl (by decide +kernel) ⟨Nat.le_of_ble_eq_true rfl, Nat.le_of_ble_eq_true rfl⟩) ⟨wB_blind, va_recv hK hPc (ci := 12) (q0 := 0) rfl rfl, wB_pre hPc hK hDc hN⟩ rfl rfl hl.1 rfl (lv_room (Nat.le_of_ble_eq_true rfl)) dX12_passAt_2 ⟨Nat.le_of_ble_eq_true rfl, Nat.le_of_ble_eq_true rfl⟩) hS (fun q _ h => hFc q h) hFc (fun r1 u t H1 locs ht hvm hr1 hB hz1 hk1 hS => ?_)
  obtain ⟨hP1, hK1, hD1⟩ := hB
  rw [ht] at hP1
  obtain ⟨hP, hD⟩ := va_join (wr := []) (w1 := [(h0, .inr (12, [.ref z0, .ref z1, .ref z2, .ref z3, .ref z4, .ref z5, .ref z20, .ref z21, .ref z22, .ref z23, .ref z24, .ref z25, .int 0, .ref z26, .ref z27, .ref z28, .int 9, .int 0, .int 0, .ref z6, .ref z29, .ref z7, .int 0, .int 2, .ref z19, .ref z8, .ref z9, .ref z10, .int 0, .ref z11, .int 0, .ref z30, .ref z31, .ref z32, .ref z33, .int 0, .ref z12, .int 0, .int 0, .ref z34, .ref z35, .ref z36, .ref z37, .int 0, .int 0, .int 0, .int 0, .ref z38, .int 0, .ref z39, .ref z40, .ref z41, .ref z42, .int 0, .ref z13, .ref z14, .ref z15, .ref z16, .int 0, .ref z17, .ref z18, .ref z43]))]) hP hD [0] [] rfl rfl (by decide) (by decide) hk1 hFc hP1 hD1
  clear hPc hDc
  generalize H1 = H at hP hS ⊢
  have hP : va_P D vwCl [(h0, .inr (12, [.ref z0, .ref z1, .ref z2, .ref z3, .ref z4, .ref z5, .ref z20, .ref z21, .ref z22, .ref z23, .ref z24, .ref z25, .int 0, .ref z26, .ref z27, .ref z28, .int 9, .int 0, .int 0, .ref z6, .ref z29, .ref z7, .int 0, .int 2, .ref z19, .ref z8, .ref z9, .ref z10, .int 0, .ref z11, .int 0, .ref z30, .ref z31, .ref z32, .ref z33, .int 0, .ref z12, .int 0, .int 0, .ref z34, .ref z35, .ref z36, .ref z37, .int 0, .int 0, .int 0, .int 0, .ref z38, .int 0, .ref z39, .ref z40, .ref z41, .ref z42, .int 0, .ref z13, .ref z14, .ref z15, .ref z16, .int 0, .ref z17, .ref z18, .ref z43]))] H := hP
  have hD : va_D A [(h0, .inr (12, [.ref z0, .ref z1, .ref z2, .ref z3, .ref z4, .ref z5, .ref z20, .ref z21, .ref z22, .ref z23, .ref z24, .ref z25, .int 0, .ref z26, .ref z27, .ref z28, .int 9, .int 0, .int 0, .ref z6, .ref z29, .ref z7, .int 0, .int 2, .ref z19, .ref z8, .ref z9, .ref z10, .int 0, .ref z11, .int 0, .ref z30, .ref z31, .ref z32, .ref z33, .int 0, .ref z12, .int 0, .int 0, .ref z34, .ref z35, .ref z36, .ref z37, .int 0, .int 0, .int 0, .int 0, .ref z38, .int 0, .ref z39, .ref z40, .ref z41, .ref z42, .int 0, .ref z13, .ref z14, .ref z15, .ref z16, .int 0, .ref z17, .ref z18, .ref z43]))] := hD
  subst hr1
  refine lv_iload_n hx hb dX12_passAt_5 rfl (lv_at hl 2 rfl) ?_
  refine lv_iconst (v := 1) hx hb dX12_passAt_6 (by decide) ?_
  refine lv_isub hx hb dX12_passAt_7 ?_
  refine wk_i 1 (by decide) ?_
  refine lv_iload_n hx hb dX12_passAt_8 rfl (lv_at hl 3 rfl) ?_
  refine lv_isub hx hb dX12_passAt_9 ?_
  refine wk_i 0 (by decide) ?_
  have hPc := hP.sub (ws' := []) [] rfl
  have hDc := hD.sub (ws' := []) [] (by decide) rfl
  have hFc := va_free (wc := []) hD hS hA [] rfl
  refine va_calli (va_runS (As := [.int 2, .int 0]) (rest := [.int 1]) ⟨hx, hb, hml, hown, hts⟩ (kX12_power_0 l D G  H.size) (va_cwS 2 hts gX12_passAt_X12_power rfl rfl rfl (by decide +kernel) ⟨Nat.le_of_ble_eq_true rfl, Nat.le_of_ble_eq_true rfl⟩) ⟨wB_blind, wB_pre hPc hK hDc hN⟩ rfl rfl hl.1 rfl (lv_room (Nat.le_of_ble_eq_true rfl)) dX12_passAt_10 ⟨Nat.le_of_ble_eq_true rfl, Nat.le_of_ble_eq_true rfl⟩) hS (fun q _ h => hFc q h) hFc (fun r2 u t H1 locs ht hvm hr2 hB hz1 hk1 hS => ?_)
  obtain ⟨hP, hD⟩ := va_join (wr := [(h0, .inr (12, [.ref z0, .ref z1, .ref z2, .ref z3, .ref z4, .ref z5, .ref z20, .ref z21, .ref z22, .ref z23, .ref z24, .ref z25, .int 0, .ref z26, .ref z27, .ref z28, .int 9, .int 0, .int 0, .ref z6, .ref z29, .ref z7, .int 0, .int 2, .ref z19, .ref z8, .ref z9, .ref z10, .int 0, .ref z11, .int 0, .ref z30, .ref z31, .ref z32, .ref z33, .int 0, .ref z12, .int 0, .int 0, .ref z34, .ref z35, .ref z36, .ref z37, .int 0, .int 0, .int 0, .int 0, .ref z38, .int 0, .ref z39, .ref z40, .ref z41, .ref z42, .int 0, .ref z13, .ref z14, .ref z15, .ref z16, .int 0, .ref z17, .ref z18, .ref z43]))]) (w1 := []) hP hD [] [0] rfl rfl (by decide) (by decide) hk1 hFc wP_nil wD_nil
  clear hPc hDc
  generalize H1 = H at hP hS ⊢
  have hP : va_P D vwCl [(h0, .inr (12, [.ref z0, .ref z1, .ref z2, .ref z3, .ref z4, .ref z5, .ref z20, .ref z21, .ref z22, .ref z23, .ref z24, .ref z25, .int 0, .ref z26, .ref z27, .ref z28, .int 9, .int 0, .int 0, .ref z6, .ref z29, .ref z7, .int 0, .int 2, .ref z19, .ref z8, .ref z9, .ref z10, .int 0, .ref z11, .int 0, .ref z30, .ref z31, .ref z32, .ref z33, .int 0, .ref z12, .int 0, .int 0, .ref z34, .ref z35, .ref z36, .ref z37, .int 0, .int 0, .int 0, .int 0, .ref z38, .int 0, .ref z39, .ref z40, .ref z41, .ref z42, .int 0, .ref z13, .ref z14, .ref z15, .ref z16, .int 0, .ref z17, .ref z18, .ref z43]))] H := hP
  have hD : va_D A [(h0, .inr (12, [.ref z0, .ref z1, .ref z2, .ref z3, .ref z4, .ref z5, .ref z20, .ref z21, .ref z22, .ref z23, .ref z24, .ref z25, .int 0, .ref z26, .ref z27, .ref z28, .int 9, .int 0, .int 0, .ref z6, .ref z29, .ref z7, .int 0, .int 2, .ref z19, .ref z8, .ref z9, .ref z10, .int 0, .ref z11, .int 0, .ref z30, .ref z31, .ref z32, .ref z33, .int 0, .ref z12, .int 0, .int 0, .ref z34, .ref z35, .ref z36, .ref z37, .int 0, .int 0, .int 0, .int 0, .ref z38, .int 0, .ref z39, .ref z40, .ref z41, .ref z42, .int 0, .ref z13, .ref z14, .ref z15, .ref z16, .int 0, .ref z17, .ref z18, .ref z43]))] := hD
  subst hr2
  refine lv_idiv hx hb dX12_passAt_13 (by decide) ?_
  refine wk_i 1 (by decide) ?_
  refine lv_aload_n hx hb dX12_passAt_14 rfl (lv_at hl 0 rfl) ?_
  have hPc := hP.sub (ws' := [(h0, .inr (12, [.ref z0, .ref z1, .ref z2, .ref z3, .ref z4, .ref z5, .ref z20, .ref z21, .ref z22, .ref z23, .ref z24, .ref z25, .int 0, .ref z26, .ref z27, .ref z28, .int 9, .int 0, .int 0, .ref z6, .ref z29, .ref z7, .int 0, .int 2, .ref z19, .ref z8, .ref z9, .ref z10, .int 0, .ref z11, .int 0, .ref z30, .ref z31, .ref z32, .ref z33, .int 0, .ref z12, .int 0, .int 0, .ref z34, .ref z35, .ref z36, .ref z37, .int 0, .int 0, .int 0, .int 0, .ref z38, .int 0, .ref z39, .ref z40, .ref z41, .ref z42, .int 0, .ref z13, .ref z14, .ref z15, .ref z16, .int 0, .ref z17, .ref z18, .ref z43]))]) [0] rfl
  have hDc := hD.sub (ws' := [(h0, .inr (12, [.ref z0, .ref z1, .ref z2, .ref z3, .ref z4, .ref z5, .ref z20, .ref z21, .ref z22, .ref z23, .ref z24, .ref z25, .int 0, .ref z26, .ref z27, .ref z28, .int 9, .int 0, .int 0, .ref z6, .ref z29, .ref z7, .int 0, .int 2, .ref z19, .ref z8, .ref z9, .ref z10, .int 0, .ref z11, .int 0, .ref z30, .ref z31, .ref z32, .ref z33, .int 0, .ref z12, .int 0, .int 0, .ref z34, .ref z35, .ref z36, .ref z37, .int 0, .int 0, .int 0, .int 0, .ref z38, .int 0, .ref z39, .ref z40, .ref z41, .ref z42, .int 0, .ref z13, .ref z14, .ref z15, .ref z16, .int 0, .ref z17, .ref z18, .ref z43]))]) [0] (by decide) rfl
  have hFc := va_free (wc := [(h0, .inr (12, [.ref z0, .ref z1, .ref z2, .ref z3, .ref z4, .ref z5, .ref z20, .ref z21, .ref z22, .ref z23, .ref z24, .ref z25, .int 0, .ref z26, .ref z27, .ref z28, .int 9, .int 0, .int 0, .ref z6, .ref z29, .ref z7, .int 0, .int 2, .ref z19, .ref z8, .ref z9, .ref z10, .int 0, .ref z11, .int 0, .ref z30, .ref z31, .ref z32, .ref z33, .int 0, .ref z12, .int 0, .int 0, .ref z34, .ref z35, .ref z36, .ref z37, .int 0, .int 0, .int 0, .int 0, .ref z38, .int 0, .ref z39, .ref z40, .ref z41, .ref z42, .int 0, .ref z13, .ref z14, .ref z15, .ref z16, .int 0, .ref z17, .ref z18, .ref z43]))]) hD hS hA [0] rfl
  refine va_calli (va_runV (As := []) (rest := [.int 1]) ⟨hx, hb, hml, hown, hts⟩ (kX12_gens l D G h0 z0 z1 z2 z3 z4 z5 z20 z21 z22 z23 z24 z25 z26 z27 z28 z6 z29 z7 z19 z8 z9 z10 z11 z30 z31 z32 z33 z12 z34 z35 z36 z37 z38 z39 z40 z41 z42 z13 z14 z15 z16 z17 z18 z43 0 H.size) (cwV 0 hts gX12_passAt_X12_gens rfl rfl rfl (by decide +kernel) ⟨Nat.le_of_ble_eq_true rfl, Nat.le_of_ble_eq_true rfl⟩) ⟨wB_blind, va_recv hK hPc (ci := 12) (q0 := 0) rfl rfl, wB_pre hPc hK hDc hN⟩ rfl rfl hl.1 rfl (lv_room (Nat.le_of_ble_eq_true rfl)) dX12_passAt_15 ⟨Nat.le_of_ble_eq_true rfl, Nat.le_of_ble_eq_true rfl⟩) hS (fun q _ h => hFc q h) hFc (fun r3 u t H1 locs ht hvm hr3 hB hz1 hk1 hS => ?_)
  obtain ⟨hP1, hK1, hD1⟩ := hB
  rw [ht] at hP1
  obtain ⟨hP, hD⟩ := va_join (wr := []) (w1 := [(h0, .inr (12, [.ref z0, .ref z1, .ref z2, .ref z3, .ref z4, .ref z5, .ref z20, .ref z21, .ref z22, .ref z23, .ref z24, .ref z25, .int 0, .ref z26, .ref z27, .ref z28, .int 9, .int 0, .int 0, .ref z6, .ref z29, .ref z7, .int 0, .int 2, .ref z19, .ref z8, .ref z9, .ref z10, .int 0, .ref z11, .int 0, .ref z30, .ref z31, .ref z32, .ref z33, .int 0, .ref z12, .int 0, .int 0, .ref z34, .ref z35, .ref z36, .ref z37, .int 0, .int 0, .int 0, .int 0, .ref z38, .int 0, .ref z39, .ref z40, .ref z41, .ref z42, .int 0, .ref z13, .ref z14, .ref z15, .ref z16, .int 0, .ref z17, .ref z18, .ref z43]))]) hP hD [0] [] rfl rfl (by decide) (by decide) hk1 hFc hP1 hD1
  clear hPc hDc
  generalize H1 = H at hP hS ⊢
  have hP : va_P D vwCl [(h0, .inr (12, [.ref z0, .ref z1, .ref z2, .ref z3, .ref z4, .ref z5, .ref z20, .ref z21, .ref z22, .ref z23, .ref z24, .ref z25, .int 0, .ref z26, .ref z27, .ref z28, .int 9, .int 0, .int 0, .ref z6, .ref z29, .ref z7, .int 0, .int 2, .ref z19, .ref z8, .ref z9, .ref z10, .int 0, .ref z11, .int 0, .ref z30, .ref z31, .ref z32, .ref z33, .int 0, .ref z12, .int 0, .int 0, .ref z34, .ref z35, .ref z36, .ref z37, .int 0, .int 0, .int 0, .int 0, .ref z38, .int 0, .ref z39, .ref z40, .ref z41, .ref z42, .int 0, .ref z13, .ref z14, .ref z15, .ref z16, .int 0, .ref z17, .ref z18, .ref z43]))] H := hP
  have hD : va_D A [(h0, .inr (12, [.ref z0, .ref z1, .ref z2, .ref z3, .ref z4, .ref z5, .ref z20, .ref z21, .ref z22, .ref z23, .ref z24, .ref z25, .int 0, .ref z26, .ref z27, .ref z28, .int 9, .int 0, .int 0, .ref z6, .ref z29, .ref z7, .int 0, .int 2, .ref z19, .ref z8, .ref z9, .ref z10, .int 0, .ref z11, .int 0, .ref z30, .ref z31, .ref z32, .ref z33, .int 0, .ref z12, .int 0, .int 0, .ref z34, .ref z35, .ref z36, .ref z37, .int 0, .int 0, .int 0, .int 0, .ref z38, .int 0, .ref z39, .ref z40, .ref z41, .ref z42, .int 0, .ref z13, .ref z14, .ref z15, .ref z16, .int 0, .ref z17, .ref z18, .ref z43]))] := hD
  subst hr3
  refine lv_irem hx hb dX12_passAt_18 (by decide) ?_
  refine wk_i 1 (by decide) ?_
  have hPc := hP.sub (ws' := []) [] rfl
  have hDc := hD.sub (ws' := []) [] (by decide) rfl
  have hFc := va_free (wc := []) hD hS hA [] rfl
  refine va_calli (va_runS (As := [.int 1]) (rest := []) ⟨hx, hb, hml, hown, hts⟩ (kX12_passOf_1 l D G  H.size) (va_cwS 1 hts gX12_passAt_X12_passOf rfl rfl rfl (by decide +kernel) ⟨Nat.le_of_ble_eq_true rfl, Nat.le_of_ble_eq_true rfl⟩) ⟨wB_blind, wB_pre hPc hK hDc hN⟩ rfl rfl hl.1 rfl (lv_room (Nat.le_of_ble_eq_true rfl)) dX12_passAt_19 ⟨Nat.le_of_ble_eq_true rfl, Nat.le_of_ble_eq_true rfl⟩) hS (fun q _ h => hFc q h) hFc (fun r4 u t H1 locs ht hvm hr4 hB hz1 hk1 hS => ?_)
  obtain ⟨hP, hD⟩ := va_join (wr := [(h0, .inr (12, [.ref z0, .ref z1, .ref z2, .ref z3, .ref z4, .ref z5, .ref z20, .ref z21, .ref z22, .ref z23, .ref z24, .ref z25, .int 0, .ref z26, .ref z27, .ref z28, .int 9, .int 0, .int 0, .ref z6, .ref z29, .ref z7, .int 0, .int 2, .ref z19, .ref z8, .ref z9, .ref z10, .int 0, .ref z11, .int 0, .ref z30, .ref z31, .ref z32, .ref z33, .int 0, .ref z12, .int 0, .int 0, .ref z34, .ref z35, .ref z36, .ref z37, .int 0, .int 0, .int 0, .int 0, .ref z38, .int 0, .ref z39, .ref z40, .ref z41, .ref z42, .int 0, .ref z13, .ref z14, .ref z15, .ref z16, .int 0, .ref z17, .ref z18, .ref z43]))]) (w1 := []) hP hD [] [0] rfl rfl (by decide) (by decide) hk1 hFc wP_nil wD_nil
  clear hPc hDc
  generalize H1 = H at hP hS ⊢
  have hP : va_P D vwCl [(h0, .inr (12, [.ref z0, .ref z1, .ref z2, .ref z3, .ref z4, .ref z5, .ref z20, .ref z21, .ref z22, .ref z23, .ref z24, .ref z25, .int 0, .ref z26, .ref z27, .ref z28, .int 9, .int 0, .int 0, .ref z6, .ref z29, .ref z7, .int 0, .int 2, .ref z19, .ref z8, .ref z9, .ref z10, .int 0, .ref z11, .int 0, .ref z30, .ref z31, .ref z32, .ref z33, .int 0, .ref z12, .int 0, .int 0, .ref z34, .ref z35, .ref z36, .ref z37, .int 0, .int 0, .int 0, .int 0, .ref z38, .int 0, .ref z39, .ref z40, .ref z41, .ref z42, .int 0, .ref z13, .ref z14, .ref z15, .ref z16, .int 0, .ref z17, .ref z18, .ref z43]))] H := hP
  have hD : va_D A [(h0, .inr (12, [.ref z0, .ref z1, .ref z2, .ref z3, .ref z4, .ref z5, .ref z20, .ref z21, .ref z22, .ref z23, .ref z24, .ref z25, .int 0, .ref z26, .ref z27, .ref z28, .int 9, .int 0, .int 0, .ref z6, .ref z29, .ref z7, .int 0, .int 2, .ref z19, .ref z8, .ref z9, .ref z10, .int 0, .ref z11, .int 0, .ref z30, .ref z31, .ref z32, .ref z33, .int 0, .ref z12, .int 0, .int 0, .ref z34, .ref z35, .ref z36, .ref z37, .int 0, .int 0, .int 0, .int 0, .ref z38, .int 0, .ref z39, .ref z40, .ref z41, .ref z42, .int 0, .ref z13, .ref z14, .ref z15, .ref z16, .int 0, .ref z17, .ref z18, .ref z43]))] := hD
  subst hr4
  have hP9 := hP.sub (ws' := [(h0, .inr (12, [.ref z0, .ref z1, .ref z2, .ref z3, .ref z4, .ref z5, .ref z20, .ref z21, .ref z22, .ref z23, .ref z24, .ref z25, .int 0, .ref z26, .ref z27, .ref z28, .int 9, .int 0, .int 0, .ref z6, .ref z29, .ref z7, .int 0, .int 2, .ref z19, .ref z8, .ref z9, .ref z10, .int 0, .ref z11, .int 0, .ref z30, .ref z31, .ref z32, .ref z33, .int 0, .ref z12, .int 0, .int 0, .ref z34, .ref z35, .ref z36, .ref z37, .int 0, .int 0, .int 0, .int 0, .ref z38, .int 0, .ref z39, .ref z40, .ref z41, .ref z42, .int 0, .ref z13, .ref z14, .ref z15, .ref z16, .int 0, .ref z17, .ref z18, .ref z43]))]) [0] rfl
  have hD9 := hD.sub (ws' := [(h0, .inr (12, [.ref z0, .ref z1, .ref z2, .ref z3, .ref z4, .ref z5, .ref z20, .ref z21, .ref z22, .ref z23, .ref z24, .ref z25, .int 0, .ref z26, .ref z27, .ref z28, .int 9, .int 0, .int 0, .ref z6, .ref z29, .ref z7, .int 0, .int 2, .ref z19, .ref z8, .ref z9, .ref z10, .int 0, .ref z11, .int 0, .ref z30, .ref z31, .ref z32, .ref z33, .int 0, .ref z12, .int 0, .int 0, .ref z34, .ref z35, .ref z36, .ref z37, .int 0, .int 0, .int 0, .int 0, .ref z38, .int 0, .ref z39, .ref z40, .ref z41, .ref z42, .int 0, .ref z13, .ref z14, .ref z15, .ref z16, .int 0, .ref z17, .ref z18, .ref z43]))]) [0] (by decide) rfl
  exact W.iret (v := (-1)) hx hb hr (fun t ht hW => ⟨⟨(-1), (), rfl, rfl, ⟨by rw [ht]; exact hP9, va_K.moved hW.alike hK, hD9⟩⟩, hS.F ht⟩) hS.2.2 dX12_passAt_22

set_option maxHeartbeats 4000000 in
set_option maxRecDepth 100000 in
/-- X12_passAt -/
theorem kX12_passAt_2_2_0 (l : Launch) (D : va_G) (G : tyG) (h0 : Nat) (z0 : Nat) (z1 : Nat) (z2 : Nat) (z3 : Nat) (z4 : Nat) (z5 : Nat) (z20 : Nat) (z21 : Nat) (z22 : Nat) (z23 : Nat) (z24 : Nat) (z25 : Nat) (z26 : Nat) (z27 : Nat) (z28 : Nat) (z6 : Nat) (z29 : Nat) (z7 : Nat) (z19 : Nat) (z8 : Nat) (z9 : Nat) (z10 : Nat) (z11 : Nat) (z30 : Nat) (z31 : Nat) (z32 : Nat) (z33 : Nat) (z12 : Nat) (z34 : Nat) (z35 : Nat) (z36 : Nat) (z37 : Nat) (z38 : Nat) (z39 : Nat) (z40 : Nat) (z41 : Nat) (z42 : Nat) (z13 : Nat) (z14 : Nat) (z15 : Nat) (z16 : Nat) (z17 : Nat) (z18 : Nat) (z43 : Nat) (sz : Nat) : Met l yX12_passAt wsX12_passAt ({ frames := 1, cells := 0, slots := 0, locals := 23 }) (va_Pc [.ref h0, .int 2, .int 2, .int 0] (wB D G sz [(h0, .inr (12, [.ref z0, .ref z1, .ref z2, .ref z3, .ref z4, .ref z5, .ref z20, .ref z21, .ref z22, .ref z23, .ref z24, .ref z25, .int 0, .ref z26, .ref z27, .ref z28, .int 9, .int 0, .int 0, .ref z6, .ref z29, .ref z7, .int 0, .int 2, .ref z19, .ref z8, .ref z9, .ref z10, .int 0, .ref z11, .int 0, .ref z30, .ref z31, .ref z32, .ref z33, .int 0, .ref z12, .int 0, .int 0, .ref z34, .ref z35, .ref z36, .ref z37, .int 0, .int 0, .int 0, .int 0, .ref z38, .int 0, .ref z39, .ref z40, .ref z41, .ref z42, .int 0, .ref z13, .ref z14, .ref z15, .ref z16, .int 0, .ref z17, .ref z18, .ref z43]))])) (va_Qi (fun (r : Int32) (_ : Unit) => r = (-1)) (fun _ t => wS D G (va_A [(h0, .inr (12, [.ref z0, .ref z1, .ref z2, .ref z3, .ref z4, .ref z5, .ref z20, .ref z21, .ref z22, .ref z23, .ref z24, .ref z25, .int 0, .ref z26, .ref z27, .ref z28, .int 9, .int 0, .int 0, .ref z6, .ref z29, .ref z7, .int 0, .int 2, .ref z19, .ref z8, .ref z9, .ref z10, .int 0, .ref z11, .int 0, .ref z30, .ref z31, .ref z32, .ref z33, .int 0, .ref z12, .int 0, .int 0, .ref z34, .ref z35, .ref z36, .ref z37, .int 0, .int 0, .int 0, .int 0, .ref z38, .int 0, .ref z39, .ref z40, .ref z41, .ref z42, .int 0, .ref z13, .ref z14, .ref z15, .ref z16, .int 0, .ref z17, .ref z18, .ref z43]))] sz) [(h0, .inr (12, [.ref z0, .ref z1, .ref z2, .ref z3, .ref z4, .ref z5, .ref z20, .ref z21, .ref z22, .ref z23, .ref z24, .ref z25, .int 0, .ref z26, .ref z27, .ref z28, .int 9, .int 0, .int 0, .ref z6, .ref z29, .ref z7, .int 0, .int 2, .ref z19, .ref z8, .ref z9, .ref z10, .int 0, .ref z11, .int 0, .ref z30, .ref z31, .ref z32, .ref z33, .int 0, .ref z12, .int 0, .int 0, .ref z34, .ref z35, .ref z36, .ref z37, .int 0, .int 0, .int 0, .int 0, .ref z38, .int 0, .ref z39, .ref z40, .ref z41, .ref z42, .int 0, .ref z13, .ref z14, .ref z15, .ref z16, .int 0, .ref z17, .ref z18, .ref z43]))] t) (va_A [(h0, .inr (12, [.ref z0, .ref z1, .ref z2, .ref z3, .ref z4, .ref z5, .ref z20, .ref z21, .ref z22, .ref z23, .ref z24, .ref z25, .int 0, .ref z26, .ref z27, .ref z28, .int 9, .int 0, .int 0, .ref z6, .ref z29, .ref z7, .int 0, .int 2, .ref z19, .ref z8, .ref z9, .ref z10, .int 0, .ref z11, .int 0, .ref z30, .ref z31, .ref z32, .ref z33, .int 0, .ref z12, .int 0, .int 0, .ref z34, .ref z35, .ref z36, .ref z37, .int 0, .int 0, .int 0, .int 0, .ref z38, .int 0, .ref z39, .ref z40, .ref z41, .ref z42, .int 0, .ref z13, .ref z14, .ref z15, .ref z16, .int 0, .ref z17, .ref z18, .ref z43]))] sz)) 0 0 (va_A [(h0, .inr (12, [.ref z0, .ref z1, .ref z2, .ref z3, .ref z4, .ref z5, .ref z20, .ref z21, .ref z22, .ref z23, .ref z24, .ref z25, .int 0, .ref z26, .ref z27, .ref z28, .int 9, .int 0, .int 0, .ref z6, .ref z29, .ref z7, .int 0, .int 2, .ref z19, .ref z8, .ref z9, .ref z10, .int 0, .ref z11, .int 0, .ref z30, .ref z31, .ref z32, .ref z33, .int 0, .ref z12, .int 0, .int 0, .ref z34, .ref z35, .ref z36, .ref z37, .int 0, .int 0, .int 0, .int 0, .ref z38, .int 0, .ref z39, .ref z40, .ref z41, .ref z42, .int 0, .ref z13, .ref z14, .ref z15, .ref z16, .int 0, .ref z17, .ref z18, .ref z43]))] sz) := by
  refine Met.ofW (cc := cX12_passAt) (maxL := 4) (ret := (some .int)) (by decide) rfl ?_
  intro p e s m args below meth c s₁ B hml hv
  obtain ⟨rfl, hsz, hP, hK, hD0, hN⟩ := hv
  have hx := B.exec
  have hb := B.bytes
  have hr := B.returns
  have hts := atoms_spec (ws := wsX12_passAt) B.pre
  have hown : s.vm.findClass RX12 = some m.cls := findClass_of_methodNamed B.named
  have hlocks := B.notSynchronized
  subst hsz
  have hD := hD0.self (sz := s.heap.size)
  generalize hAe : va_A [(h0, .inr (12, [.ref z0, .ref z1, .ref z2, .ref z3, .ref z4, .ref z5, .ref z20, .ref z21, .ref z22, .ref z23, .ref z24, .ref z25, .int 0, .ref z26, .ref z27, .ref z28, .int 9, .int 0, .int 0, .ref z6, .ref z29, .ref z7, .int 0, .int 2, .ref z19, .ref z8, .ref z9, .ref z10, .int 0, .ref z11, .int 0, .ref z30, .ref z31, .ref z32, .ref z33, .int 0, .ref z12, .int 0, .int 0, .ref z34, .ref z35, .ref z36, .ref z37, .int 0, .int 0, .int 0, .int 0, .ref z38, .int 0, .ref z39, .ref z40, .ref z41, .ref z42, .int 0, .ref z13, .ref z14, .ref z15, .ref z16, .int 0, .ref z17, .ref z18, .ref z43]))] s.heap.size = A at hD ⊢
  have hA : ∀ q : Nat, s.heap.size ≤ q → A q := fun q h => by rw [← hAe]; exact Or.inr h
  have hS : va_S A s.heap s.heap [] := va_S.rf
  have hP : va_P D vwCl [(h0, .inr (12, [.ref z0, .ref z1, .ref z2, .ref z3, .ref z4, .ref z5, .ref z20, .ref z21, .ref z22, .ref z23, .ref z24, .ref z25, .int 0, .ref z26, .ref z27, .ref z28, .int 9, .int 0, .int 0, .ref z6, .ref z29, .ref z7, .int 0, .int 2, .ref z19, .ref z8, .ref z9, .ref z10, .int 0, .ref z11, .int 0, .ref z30, .ref z31, .ref z32, .ref z33, .int 0, .ref z12, .int 0, .int 0, .ref z34, .ref z35, .ref z36, .ref z37, .int 0, .int 0, .int 0, .int 0, .ref z38, .int 0, .ref z39, .ref z40, .ref z41, .ref z42, .int 0, .ref z13, .ref z14, .ref z15, .ref z16, .int 0, .ref z17, .ref z18, .ref z43]))] s.heap := hP
  have hl := lv_entry ([.ref h0, .int 2, .int 2, .int 0]) (n := 4) (Nat.le_of_ble_eq_true rfl)
  rw [lg_entry_eq]
  generalize (lg_sl ([.ref h0, .int 2, .int 2, .int 0]) ++ List.replicate (4 - (lg_sl ([.ref h0, .int 2, .int 2, .int 0])).length) Slot.unset).toArray = ls at hl ⊢
  have hl : lv_has ls 4 [(0, .ref h0), (1, .int 2), (2, .int 2), (3, .int 0)] := hl
  refine lv_iload_n hx hb dX12_passAt_0 rfl (lv_at hl 1 rfl) ?_
  refine lv_aload_n hx hb dX12_passAt_1 rfl (lv_at hl 0 rfl) ?_
  have hPc := hP.sub (ws' := [(h0, .inr (12, [.ref z0, .ref z1, .ref z2, .ref z3, .ref z4, .ref z5, .ref z20, .ref z21, .ref z22, .ref z23, .ref z24, .ref z25, .int 0, .ref z26, .ref z27, .ref z28, .int 9, .int 0, .int 0, .ref z6, .ref z29, .ref z7, .int 0, .int 2, .ref z19, .ref z8, .ref z9, .ref z10, .int 0, .ref z11, .int 0, .ref z30, .ref z31, .ref z32, .ref z33, .int 0, .ref z12, .int 0, .int 0, .ref z34, .ref z35, .ref z36, .ref z37, .int 0, .int 0, .int 0, .int 0, .ref z38, .int 0, .ref z39, .ref z40, .ref z41, .ref z42, .int 0, .ref z13, .ref z14, .ref z15, .ref z16, .int 0, .ref z17, .ref z18, .ref z43]))]) [0] rfl
  have hDc := hD.sub (ws' := [(h0, .inr (12, [.ref z0, .ref z1, .ref z2, .ref z3, .ref z4, .ref z5, .ref z20, .ref z21, .ref z22, .ref z23, .ref z24, .ref z25, .int 0, .ref z26, .ref z27, .ref z28, .int 9, .int 0, .int 0, .ref z6, .ref z29, .ref z7, .int 0, .int 2, .ref z19, .ref z8, .ref z9, .ref z10, .int 0, .ref z11, .int 0, .ref z30, .ref z31, .ref z32, .ref z33, .int 0, .ref z12, .int 0, .int 0, .ref z34, .ref z35, .ref z36, .ref z37, .int 0, .int 0, .int 0, .int 0, .ref z38, .int 0, .ref z39, .ref z40, .ref z41, .ref z42, .int 0, .ref z13, .ref z14, .ref z15, .ref z16, .int 0, .ref z17, .ref z18, .ref z43]))]) [0] (by decide) rfl
  have hFc := va_free (wc := [(h0, .inr (12, [.ref z0, .ref z1, .ref z2, .ref z3, .ref z4, .ref z5, .ref z20, .ref z21, .ref z22, .ref z23, .ref z24, .ref z25, .int 0, .ref z26, .ref z27, .ref z28, .int 9, .int 0, .int 0, .ref z6, .ref z29, .ref z7, .int 0, .int 2, .ref z19, .ref z8, .ref z9, .ref z10, .int 0, .ref z11, .int 0, .ref z30, .ref z31, .ref z32, .ref z33, .int 0, .ref z12, .int 0, .int 0, .ref z34, .ref z35, .ref z36, .ref z37, .int 0, .int 0, .int 0, .int 0, .ref z38, .int 0, .ref z39, .ref z40, .ref z41, .ref z42, .int 0, .ref z13, .ref z14, .ref z15, .ref z16, .int 0, .ref z17, .ref z18, .ref z43]))]) hD hS hA [0] rfl
  refine va_calli (va_runV (As := []) (rest := [.int 2]) ⟨hx, hb, hml, hown, hts⟩ (kX12_gens l D G h0 z0 z1 z2 z3 z4 z5 z20 z21 z22 z23 z24 z25 z26 z27 z28 z6 z29 z7 z19 z8 z9 z10 z11 z30 z31 z32 z33 z12 z34 z35 z36 z37 z38 z39 z40 z41 z42 z13 z14 z15 z16 z17 z18 z43 0 s.heap.size) (cwV 0 hts gX12_passAt_X12_gens rfl rfl rfl (by decide +kernel) ⟨Nat.le_of_ble_eq_true rfl, Nat.le_of_ble_eq_true rfl⟩) ⟨wB_blind, va_recv hK hPc (ci := 12) (q0 := 0) rfl rfl, wB_pre hPc hK hDc hN⟩ rfl rfl hl.1 rfl (lv_room (Nat.le_of_ble_eq_true rfl)) dX12_passAt_2 ⟨Nat.le_of_ble_eq_true rfl, Nat.le_of_ble_eq_true rfl⟩) hS (fun q _ h => hFc q h) hFc (fun r1 u t H1 locs ht hvm hr1 hB hz1 hk1 hS => ?_)
  obtain ⟨hP1, hK1, hD1⟩ := hB
  rw [ht] at hP1
  obtain ⟨hP, hD⟩ := va_join (wr := []) (w1 := [(h0, .inr (12, [.ref z0, .ref z1, .ref z2, .ref z3, .ref z4, .ref z5, .ref z20, .ref z21, .ref z22, .ref z23, .ref z24, .ref z25, .int 0, .ref z26, .ref z27, .ref z28, .int 9, .int 0, .int 0, .ref z6, .ref z29, .ref z7, .int 0, .int 2, .ref z19, .ref z8, .ref z9, .ref z10, .int 0, .ref z11, .int 0, .ref z30, .ref z31, .ref z32, .ref z33, .int 0, .ref z12, .int 0, .int 0, .ref z34, .ref z35, .ref z36, .ref z37, .int 0, .int 0, .int 0, .int 0, .ref z38, .int 0, .ref z39, .ref z40, .ref z41, .ref z42, .int 0, .ref z13, .ref z14, .ref z15, .ref z16, .int 0, .ref z17, .ref z18, .ref z43]))]) hP hD [0] [] rfl rfl (by decide) (by decide) hk1 hFc hP1 hD1
  clear hPc hDc
  generalize H1 = H at hP hS ⊢
  have hP : va_P D vwCl [(h0, .inr (12, [.ref z0, .ref z1, .ref z2, .ref z3, .ref z4, .ref z5, .ref z20, .ref z21, .ref z22, .ref z23, .ref z24, .ref z25, .int 0, .ref z26, .ref z27, .ref z28, .int 9, .int 0, .int 0, .ref z6, .ref z29, .ref z7, .int 0, .int 2, .ref z19, .ref z8, .ref z9, .ref z10, .int 0, .ref z11, .int 0, .ref z30, .ref z31, .ref z32, .ref z33, .int 0, .ref z12, .int 0, .int 0, .ref z34, .ref z35, .ref z36, .ref z37, .int 0, .int 0, .int 0, .int 0, .ref z38, .int 0, .ref z39, .ref z40, .ref z41, .ref z42, .int 0, .ref z13, .ref z14, .ref z15, .ref z16, .int 0, .ref z17, .ref z18, .ref z43]))] H := hP
  have hD : va_D A [(h0, .inr (12, [.ref z0, .ref z1, .ref z2, .ref z3, .ref z4, .ref z5, .ref z20, .ref z21, .ref z22, .ref z23, .ref z24, .ref z25, .int 0, .ref z26, .ref z27, .ref z28, .int 9, .int 0, .int 0, .ref z6, .ref z29, .ref z7, .int 0, .int 2, .ref z19, .ref z8, .ref z9, .ref z10, .int 0, .ref z11, .int 0, .ref z30, .ref z31, .ref z32, .ref z33, .int 0, .ref z12, .int 0, .int 0, .ref z34, .ref z35, .ref z36, .ref z37, .int 0, .int 0, .int 0, .int 0, .ref z38, .int 0, .ref z39, .ref z40, .ref z41, .ref z42, .int 0, .ref z13, .ref z14, .ref z15, .ref z16, .int 0, .ref z17, .ref z18, .ref z43]))] := hD
  subst hr1
  refine lv_iload_n hx hb dX12_passAt_5 rfl (lv_at hl 2 rfl) ?_
  refine lv_iconst (v := 1) hx hb dX12_passAt_6 (by decide) ?_
  refine lv_isub hx hb dX12_passAt_7 ?_
  refine wk_i 1 (by decide) ?_
  refine lv_iload_n hx hb dX12_passAt_8 rfl (lv_at hl 3 rfl) ?_
  refine lv_isub hx hb dX12_passAt_9 ?_
  refine wk_i 1 (by decide) ?_
  have hPc := hP.sub (ws' := []) [] rfl
  have hDc := hD.sub (ws' := []) [] (by decide) rfl
  have hFc := va_free (wc := []) hD hS hA [] rfl
  refine va_calli (va_runS (As := [.int 2, .int 1]) (rest := [.int 2]) ⟨hx, hb, hml, hown, hts⟩ (kX12_power_1 l D G  H.size) (va_cwS 2 hts gX12_passAt_X12_power rfl rfl rfl (by decide +kernel) ⟨Nat.le_of_ble_eq_true rfl, Nat.le_of_ble_eq_true rfl⟩) ⟨wB_blind, wB_pre hPc hK hDc hN⟩ rfl rfl hl.1 rfl (lv_room (Nat.le_of_ble_eq_true rfl)) dX12_passAt_10 ⟨Nat.le_of_ble_eq_true rfl, Nat.le_of_ble_eq_true rfl⟩) hS (fun q _ h => hFc q h) hFc (fun r2 u t H1 locs ht hvm hr2 hB hz1 hk1 hS => ?_)
  obtain ⟨hP, hD⟩ := va_join (wr := [(h0, .inr (12, [.ref z0, .ref z1, .ref z2, .ref z3, .ref z4, .ref z5, .ref z20, .ref z21, .ref z22, .ref z23, .ref z24, .ref z25, .int 0, .ref z26, .ref z27, .ref z28, .int 9, .int 0, .int 0, .ref z6, .ref z29, .ref z7, .int 0, .int 2, .ref z19, .ref z8, .ref z9, .ref z10, .int 0, .ref z11, .int 0, .ref z30, .ref z31, .ref z32, .ref z33, .int 0, .ref z12, .int 0, .int 0, .ref z34, .ref z35, .ref z36, .ref z37, .int 0, .int 0, .int 0, .int 0, .ref z38, .int 0, .ref z39, .ref z40, .ref z41, .ref z42, .int 0, .ref z13, .ref z14, .ref z15, .ref z16, .int 0, .ref z17, .ref z18, .ref z43]))]) (w1 := []) hP hD [] [0] rfl rfl (by decide) (by decide) hk1 hFc wP_nil wD_nil
  clear hPc hDc
  generalize H1 = H at hP hS ⊢
  have hP : va_P D vwCl [(h0, .inr (12, [.ref z0, .ref z1, .ref z2, .ref z3, .ref z4, .ref z5, .ref z20, .ref z21, .ref z22, .ref z23, .ref z24, .ref z25, .int 0, .ref z26, .ref z27, .ref z28, .int 9, .int 0, .int 0, .ref z6, .ref z29, .ref z7, .int 0, .int 2, .ref z19, .ref z8, .ref z9, .ref z10, .int 0, .ref z11, .int 0, .ref z30, .ref z31, .ref z32, .ref z33, .int 0, .ref z12, .int 0, .int 0, .ref z34, .ref z35, .ref z36, .ref z37, .int 0, .int 0, .int 0, .int 0, .ref z38, .int 0, .ref z39, .ref z40, .ref z41, .ref z42, .int 0, .ref z13, .ref z14, .ref z15, .ref z16, .int 0, .ref z17, .ref z18, .ref z43]))] H := hP
  have hD : va_D A [(h0, .inr (12, [.ref z0, .ref z1, .ref z2, .ref z3, .ref z4, .ref z5, .ref z20, .ref z21, .ref z22, .ref z23, .ref z24, .ref z25, .int 0, .ref z26, .ref z27, .ref z28, .int 9, .int 0, .int 0, .ref z6, .ref z29, .ref z7, .int 0, .int 2, .ref z19, .ref z8, .ref z9, .ref z10, .int 0, .ref z11, .int 0, .ref z30, .ref z31, .ref z32, .ref z33, .int 0, .ref z12, .int 0, .int 0, .ref z34, .ref z35, .ref z36, .ref z37, .int 0, .int 0, .int 0, .int 0, .ref z38, .int 0, .ref z39, .ref z40, .ref z41, .ref z42, .int 0, .ref z13, .ref z14, .ref z15, .ref z16, .int 0, .ref z17, .ref z18, .ref z43]))] := hD
  subst hr2
  refine lv_idiv hx hb dX12_passAt_13 (by decide) ?_
  refine wk_i 1 (by decide) ?_
  refine lv_aload_n hx hb dX12_passAt_14 rfl (lv_at hl 0 rfl) ?_
  have hPc := hP.sub (ws' := [(h0, .inr (12, [.ref z0, .ref z1, .ref z2, .ref z3, .ref z4, .ref z5, .ref z20, .ref z21, .ref z22, .ref z23, .ref z24, .ref z25, .int 0, .ref z26, .ref z27, .ref z28, .int 9, .int 0, .int 0, .ref z6, .ref z29, .ref z7, .int 0, .int 2, .ref z19, .ref z8, .ref z9, .ref z10, .int 0, .ref z11, .int 0, .ref z30, .ref z31, .ref z32, .ref z33, .int 0, .ref z12, .int 0, .int 0, .ref z34, .ref z35, .ref z36, .ref z37, .int 0, .int 0, .int 0, .int 0, .ref z38, .int 0, .ref z39, .ref z40, .ref z41, .ref z42, .int 0, .ref z13, .ref z14, .ref z15, .ref z16, .int 0, .ref z17, .ref z18, .ref z43]))]) [0] rfl
  have hDc := hD.sub (ws' := [(h0, .inr (12, [.ref z0, .ref z1, .ref z2, .ref z3, .ref z4, .ref z5, .ref z20, .ref z21, .ref z22, .ref z23, .ref z24, .ref z25, .int 0, .ref z26, .ref z27, .ref z28, .int 9, .int 0, .int 0, .ref z6, .ref z29, .ref z7, .int 0, .int 2, .ref z19, .ref z8, .ref z9, .ref z10, .int 0, .ref z11, .int 0, .ref z30, .ref z31, .ref z32, .ref z33, .int 0, .ref z12, .int 0, .int 0, .ref z34, .ref z35, .ref z36, .ref z37, .int 0, .int 0, .int 0, .int 0, .ref z38, .int 0, .ref z39, .ref z40, .ref z41, .ref z42, .int 0, .ref z13, .ref z14, .ref z15, .ref z16, .int 0, .ref z17, .ref z18, .ref z43]))]) [0] (by decide) rfl
  have hFc := va_free (wc := [(h0, .inr (12, [.ref z0, .ref z1, .ref z2, .ref z3, .ref z4, .ref z5, .ref z20, .ref z21, .ref z22, .ref z23, .ref z24, .ref z25, .int 0, .ref z26, .ref z27, .ref z28, .int 9, .int 0, .int 0, .ref z6, .ref z29, .ref z7, .int 0, .int 2, .ref z19, .ref z8, .ref z9, .ref z10, .int 0, .ref z11, .int 0, .ref z30, .ref z31, .ref z32, .ref z33, .int 0, .ref z12, .int 0, .int 0, .ref z34, .ref z35, .ref z36, .ref z37, .int 0, .int 0, .int 0, .int 0, .ref z38, .int 0, .ref z39, .ref z40, .ref z41, .ref z42, .int 0, .ref z13, .ref z14, .ref z15, .ref z16, .int 0, .ref z17, .ref z18, .ref z43]))]) hD hS hA [0] rfl
  refine va_calli (va_runV (As := []) (rest := [.int 1]) ⟨hx, hb, hml, hown, hts⟩ (kX12_gens l D G h0 z0 z1 z2 z3 z4 z5 z20 z21 z22 z23 z24 z25 z26 z27 z28 z6 z29 z7 z19 z8 z9 z10 z11 z30 z31 z32 z33 z12 z34 z35 z36 z37 z38 z39 z40 z41 z42 z13 z14 z15 z16 z17 z18 z43 0 H.size) (cwV 0 hts gX12_passAt_X12_gens rfl rfl rfl (by decide +kernel) ⟨Nat.le_of_ble_eq_true rfl, Nat.le_of_ble_eq_true rfl⟩) ⟨wB_blind, va_recv hK hPc (ci := 12) (q0 := 0) rfl rfl, wB_pre hPc hK hDc hN⟩ rfl rfl hl.1 rfl (lv_room (Nat.le_of_ble_eq_true rfl)) dX12_passAt_15 ⟨Nat.le_of_ble_eq_true rfl, Nat.le_of_ble_eq_true rfl⟩) hS (fun q _ h => hFc q h) hFc (fun r3 u t H1 locs ht hvm hr3 hB hz1 hk1 hS => ?_)
  obtain ⟨hP1, hK1, hD1⟩ := hB
  rw [ht] at hP1
  obtain ⟨hP, hD⟩ := va_join (wr := []) (w1 := [(h0, .inr (12, [.ref z0, .ref z1, .ref z2, .ref z3, .ref z4, .ref z5, .ref z20, .ref z21, .ref z22, .ref z23, .ref z24, .ref z25, .int 0, .ref z26, .ref z27, .ref z28, .int 9, .int 0, .int 0, .ref z6, .ref z29, .ref z7, .int 0, .int 2, .ref z19, .ref z8, .ref z9, .ref z10, .int 0, .ref z11, .int 0, .ref z30, .ref z31, .ref z32, .ref z33, .int 0, .ref z12, .int 0, .int 0, .ref z34, .ref z35, .ref z36, .ref z37, .int 0, .int 0, .int 0, .int 0, .ref z38, .int 0, .ref z39, .ref z40, .ref z41, .ref z42, .int 0, .ref z13, .ref z14, .ref z15, .ref z16, .int 0, .ref z17, .ref z18, .ref z43]))]) hP hD [0] [] rfl rfl (by decide) (by decide) hk1 hFc hP1 hD1
  clear hPc hDc
  generalize H1 = H at hP hS ⊢
  have hP : va_P D vwCl [(h0, .inr (12, [.ref z0, .ref z1, .ref z2, .ref z3, .ref z4, .ref z5, .ref z20, .ref z21, .ref z22, .ref z23, .ref z24, .ref z25, .int 0, .ref z26, .ref z27, .ref z28, .int 9, .int 0, .int 0, .ref z6, .ref z29, .ref z7, .int 0, .int 2, .ref z19, .ref z8, .ref z9, .ref z10, .int 0, .ref z11, .int 0, .ref z30, .ref z31, .ref z32, .ref z33, .int 0, .ref z12, .int 0, .int 0, .ref z34, .ref z35, .ref z36, .ref z37, .int 0, .int 0, .int 0, .int 0, .ref z38, .int 0, .ref z39, .ref z40, .ref z41, .ref z42, .int 0, .ref z13, .ref z14, .ref z15, .ref z16, .int 0, .ref z17, .ref z18, .ref z43]))] H := hP
  have hD : va_D A [(h0, .inr (12, [.ref z0, .ref z1, .ref z2, .ref z3, .ref z4, .ref z5, .ref z20, .ref z21, .ref z22, .ref z23, .ref z24, .ref z25, .int 0, .ref z26, .ref z27, .ref z28, .int 9, .int 0, .int 0, .ref z6, .ref z29, .ref z7, .int 0, .int 2, .ref z19, .ref z8, .ref z9, .ref z10, .int 0, .ref z11, .int 0, .ref z30, .ref z31, .ref z32, .ref z33, .int 0, .ref z12, .int 0, .int 0, .ref z34, .ref z35, .ref z36, .ref z37, .int 0, .int 0, .int 0, .int 0, .ref z38, .int 0, .ref z39, .ref z40, .ref z41, .ref z42, .int 0, .ref z13, .ref z14, .ref z15, .ref z16, .int 0, .ref z17, .ref z18, .ref z43]))] := hD
  subst hr3
  refine lv_irem hx hb dX12_passAt_18 (by decide) ?_
  refine wk_i 1 (by decide) ?_
  have hPc := hP.sub (ws' := []) [] rfl
  have hDc := hD.sub (ws' := []) [] (by decide) rfl
  have hFc := va_free (wc := []) hD hS hA [] rfl
  refine va_calli (va_runS (As := [.int 1]) (rest := []) ⟨hx, hb, hml, hown, hts⟩ (kX12_passOf_1 l D G  H.size) (va_cwS 1 hts gX12_passAt_X12_passOf rfl rfl rfl (by decide +kernel) ⟨Nat.le_of_ble_eq_true rfl, Nat.le_of_ble_eq_true rfl⟩) ⟨wB_blind, wB_pre hPc hK hDc hN⟩ rfl rfl hl.1 rfl (lv_room (Nat.le_of_ble_eq_true rfl)) dX12_passAt_19 ⟨Nat.le_of_ble_eq_true rfl, Nat.le_of_ble_eq_true rfl⟩) hS (fun q _ h => hFc q h) hFc (fun r4 u t H1 locs ht hvm hr4 hB hz1 hk1 hS => ?_)
  obtain ⟨hP, hD⟩ := va_join (wr := [(h0, .inr (12, [.ref z0, .ref z1, .ref z2, .ref z3, .ref z4, .ref z5, .ref z20, .ref z21, .ref z22, .ref z23, .ref z24, .ref z25, .int 0, .ref z26, .ref z27, .ref z28, .int 9, .int 0, .int 0, .ref z6, .ref z29, .ref z7, .int 0, .int 2, .ref z19, .ref z8, .ref z9, .ref z10, .int 0, .ref z11, .int 0, .ref z30, .ref z31, .ref z32, .ref z33, .int 0, .ref z12, .int 0, .int 0, .ref z34, .ref z35, .ref z36, .ref z37, .int 0, .int 0, .int 0, .int 0, .ref z38, .int 0, .ref z39, .ref z40, .ref z41, .ref z42, .int 0, .ref z13, .ref z14, .ref z15, .ref z16, .int 0, .ref z17, .ref z18, .ref z43]))]) (w1 := []) hP hD [] [0] rfl rfl (by decide) (by decide) hk1 hFc wP_nil wD_nil
  clear hPc hDc
  generalize H1 = H at hP hS ⊢
  have hP : va_P D vwCl [(h0, .inr (12, [.ref z0, .ref z1, .ref z2, .ref z3, .ref z4, .ref z5, .ref z20, .ref z21, .ref z22, .ref z23, .ref z24, .ref z25, .int 0, .ref z26, .ref z27, .ref z28, .int 9, .int 0, .int 0, .ref z6, .ref z29, .ref z7, .int 0, .int 2, .ref z19, .ref z8, .ref z9, .ref z10, .int 0, .ref z11, .int 0, .ref z30, .ref z31, .ref z32, .ref z33, .int 0, .ref z12, .int 0, .int 0, .ref z34, .ref z35, .ref z36, .ref z37, .int 0, .int 0, .int 0, .int 0, .ref z38, .int 0, .ref z39, .ref z40, .ref z41, .ref z42, .int 0, .ref z13, .ref z14, .ref z15, .ref z16, .int 0, .ref z17, .ref z18, .ref z43]))] H := hP
  have hD : va_D A [(h0, .inr (12, [.ref z0, .ref z1, .ref z2, .ref z3, .ref z4, .ref z5, .ref z20, .ref z21, .ref z22, .ref z23, .ref z24, .ref z25, .int 0, .ref z26, .ref z27, .ref z28, .int 9, .int 0, .int 0, .ref z6, .ref z29, .ref z7, .int 0, .int 2, .ref z19, .ref z8, .ref z9, .ref z10, .int 0, .ref z11, .int 0, .ref z30, .ref z31, .ref z32, .ref z33, .int 0, .ref z12, .int 0, .int 0, .ref z34, .ref z35, .ref z36, .ref z37, .int 0, .int 0, .int 0, .int 0, .ref z38, .int 0, .ref z39, .ref z40, .ref z41, .ref z42, .int 0, .ref z13, .ref z14, .ref z15, .ref z16, .int 0, .ref z17, .ref z18, .ref z43]))] := hD
  subst hr4
  have hP9 := hP.sub (ws' := [(h0, .inr (12, [.ref z0, .ref z1, .ref z2, .ref z3, .ref z4, .ref z5, .ref z20, .ref z21, .ref z22, .ref z23, .ref z24, .ref z25, .int 0, .ref z26, .ref z27, .ref z28, .int 9, .int 0, .int 0, .ref z6, .ref z29, .ref z7, .int 0, .int 2, .ref z19, .ref z8, .ref z9, .ref z10, .int 0, .ref z11, .int 0, .ref z30, .ref z31, .ref z32, .ref z33, .int 0, .ref z12, .int 0, .int 0, .ref z34, .ref z35, .ref z36, .ref z37, .int 0, .int 0, .int 0, .int 0, .ref z38, .int 0, .ref z39, .ref z40, .ref z41, .ref z42, .int 0, .ref z13, .ref z14, .ref z15, .ref z16, .int 0, .ref z17, .ref z18, .ref z43]))]) [0] rfl
  have hD9 := hD.sub (ws' := [(h0, .inr (12, [.ref z0, .ref z1, .ref z2, .ref z3, .ref z4, .ref z5, .ref z20, .ref z21, .ref z22, .ref z23, .ref z24, .ref z25, .int 0, .ref z26, .ref z27, .ref z28, .int 9, .int 0, .int 0, .ref z6, .ref z29, .ref z7, .int 0, .int 2, .ref z19, .ref z8, .ref z9, .ref z10, .int 0, .ref z11, .int 0, .ref z30, .ref z31, .ref z32, .ref z33, .int 0, .ref z12, .int 0, .int 0, .ref z34, .ref z35, .ref z36, .ref z37, .int 0, .int 0, .int 0, .int 0, .ref z38, .int 0, .ref z39, .ref z40, .ref z41, .ref z42, .int 0, .ref z13, .ref z14, .ref z15, .ref z16, .int 0, .ref z17, .ref z18, .ref z43]))]) [0] (by decide) rfl
  exact W.iret (v := (-1)) hx hb hr (fun t ht hW => ⟨⟨(-1), (), rfl, rfl, ⟨by rw [ht]; exact hP9, va_K.moved hW.alike hK, hD9⟩⟩, hS.F ht⟩) hS.2.2 dX12_passAt_22

set_option maxHeartbeats 4000000 in
set_option maxRecDepth 100000 in
/-- X12_passAt -/
theorem kX12_passAt_2_2_1 (l : Launch) (D : va_G) (G : tyG) (h0 : Nat) (z0 : Nat) (z1 : Nat) (z2 : Nat) (z3 : Nat) (z4 : Nat) (z5 : Nat) (z20 : Nat) (z21 : Nat) (z22 : Nat) (z23 : Nat) (z24 : Nat) (z25 : Nat) (z26 : Nat) (z27 : Nat) (z28 : Nat) (z6 : Nat) (z29 : Nat) (z7 : Nat) (z19 : Nat) (z8 : Nat) (z9 : Nat) (z10 : Nat) (z11 : Nat) (z30 : Nat) (z31 : Nat) (z32 : Nat) (z33 : Nat) (z12 : Nat) (z34 : Nat) (z35 : Nat) (z36 : Nat) (z37 : Nat) (z38 : Nat) (z39 : Nat) (z40 : Nat) (z41 : Nat) (z42 : Nat) (z13 : Nat) (z14 : Nat) (z15 : Nat) (z16 : Nat) (z17 : Nat) (z18 : Nat) (z43 : Nat) (sz : Nat) : Met l yX12_passAt wsX12_passAt ({ frames := 1, cells := 0, slots := 0, locals := 23 }) (va_Pc [.ref h0, .int 2, .int 2, .int 1] (wB D G sz [(h0, .inr (12, [.ref z0, .ref z1, .ref z2, .ref z3, .ref z4, .ref z5, .ref z20, .ref z21, .ref z22, .ref z23, .ref z24, .ref z25, .int 0, .ref z26, .ref z27, .ref z28, .int 9, .int 0, .int 0, .ref z6, .ref z29, .ref z7, .int 0, .int 2, .ref z19, .ref z8, .ref z9, .ref z10, .int 0, .ref z11, .int 0, .ref z30, .ref z31, .ref z32, .ref z33, .int 0, .ref z12, .int 0, .int 0, .ref z34, .ref z35, .ref z36, .ref z37, .int 0, .int 0, .int 0, .int 0, .ref z38, .int 0, .ref z39, .ref z40, .ref z41, .ref z42, .int 0, .ref z13, .ref z14, .ref z15, .ref z16, .int 0, .ref z17, .ref z18, .ref z43]))])) (va_Qi (fun (r : Int32) (_ : Unit) => r = 1) (fun _ t => wS D G (va_A [(h0, .inr (12, [.ref z0, .ref z1, .ref z2, .ref z3, .ref z4, .ref z5, .ref z20, .ref z21, .ref z22, .ref z23, .ref z24, .ref z25, .int 0, .ref z26, .ref z27, .ref z28, .int 9, .int 0, .int 0, .ref z6, .ref z29, .ref z7, .int 0, .int 2, .ref z19, .ref z8, .ref z9, .ref z10, .int 0, .ref z11, .int 0, .ref z30, .ref z31, .ref z32, .ref z33, .int 0, .ref z12, .int 0, .int 0, .ref z34, .ref z35, .ref z36, .ref z37, .int 0, .int 0, .int 0, .int 0, .ref z38, .int 0, .ref z39, .ref z40, .ref z41, .ref z42, .int 0, .ref z13, .ref z14, .ref z15, .ref z16, .int 0, .ref z17, .ref z18, .ref z43]))] sz) [(h0, .inr (12, [.ref z0, .ref z1, .ref z2, .ref z3, .ref z4, .ref z5, .ref z20, .ref z21, .ref z22, .ref z23, .ref z24, .ref z25, .int 0, .ref z26, .ref z27, .ref z28, .int 9, .int 0, .int 0, .ref z6, .ref z29, .ref z7, .int 0, .int 2, .ref z19, .ref z8, .ref z9, .ref z10, .int 0, .ref z11, .int 0, .ref z30, .ref z31, .ref z32, .ref z33, .int 0, .ref z12, .int 0, .int 0, .ref z34, .ref z35, .ref z36, .ref z37, .int 0, .int 0, .int 0, .int 0, .ref z38, .int 0, .ref z39, .ref z40, .ref z41, .ref z42, .int 0, .ref z13, .ref z14, .ref z15, .ref z16, .int 0, .ref z17, .ref z18, .ref z43]))] t) (va_A [(h0, .inr (12, [.ref z0, .ref z1, .ref z2, .ref z3, .ref z4, .ref z5, .ref z20, .ref z21, .ref z22, .ref z23, .ref z24, .ref z25, .int 0, .ref z26, .ref z27, .ref z28, .int 9, .int 0, .int 0, .ref z6, .ref z29, .ref z7, .int 0, .int 2, .ref z19, .ref z8, .ref z9, .ref z10, .int 0, .ref z11, .int 0, .ref z30, .ref z31, .ref z32, .ref z33, .int 0, .ref z12, .int 0, .int 0, .ref z34, .ref z35, .ref z36, .ref z37, .int 0, .int 0, .int 0, .int 0, .ref z38, .int 0, .ref z39, .ref z40, .ref z41, .ref z42, .int 0, .ref z13, .ref z14, .ref z15, .ref z16, .int 0, .ref z17, .ref z18, .ref z43]))] sz)) 0 0 (va_A [(h0, .inr (12, [.ref z0, .ref z1, .ref z2, .ref z3, .ref z4, .ref z5, .ref z20, .ref z21, .ref z22, .ref z23, .ref z24, .ref z25, .int 0, .ref z26, .ref z27, .ref z28, .int 9, .int 0, .int 0, .ref z6, .ref z29, .ref z7, .int 0, .int 2, .ref z19, .ref z8, .ref z9, .ref z10, .int 0, .ref z11, .int 0, .ref z30, .ref z31, .ref z32, .ref z33, .int 0, .ref z12, .int 0, .int 0, .ref z34, .ref z35, .ref z36, .ref z37, .int 0, .int 0, .int 0, .int 0, .ref z38, .int 0, .ref z39, .ref z40, .ref z41, .ref z42, .int 0, .ref z13, .ref z14, .ref z15, .ref z16, .int 0, .ref z17, .ref z18, .ref z43]))] sz) := by
  refine Met.ofW (cc := cX12_passAt) (maxL := 4) (ret := (some .int)) (by decide) rfl ?_
  intro p e s m args below meth c s₁ B hml hv
  obtain ⟨rfl, hsz, hP, hK, hD0, hN⟩ := hv
  have hx := B.exec
  have hb := B.bytes
  have hr := B.returns
  have hts := atoms_spec (ws := wsX12_passAt) B.pre
  have hown : s.vm.findClass RX12 = some m.cls := findClass_of_methodNamed B.named
  have hlocks := B.notSynchronized
  subst hsz
  have hD := hD0.self (sz := s.heap.size)
  generalize hAe : va_A [(h0, .inr (12, [.ref z0, .ref z1, .ref z2, .ref z3, .ref z4, .ref z5, .ref z20, .ref z21, .ref z22, .ref z23, .ref z24, .ref z25, .int 0, .ref z26, .ref z27, .ref z28, .int 9, .int 0, .int 0, .ref z6, .ref z29, .ref z7, .int 0, .int 2, .ref z19, .ref z8, .ref z9, .ref z10, .int 0, .ref z11, .int 0, .ref z30, .ref z31, .ref z32, .ref z33, .int 0, .ref z12, .int 0, .int 0, .ref z34, .ref z35, .ref z36, .ref z37, .int 0, .int 0, .int 0, .int 0, .ref z38, .int 0, .ref z39, .ref z40, .ref z41, .ref z42, .int 0, .ref z13, .ref z14, .ref z15, .ref z16, .int 0, .ref z17, .ref z18, .ref z43]))] s.heap.size = A at hD ⊢
  have hA : ∀ q : Nat, s.heap.size ≤ q → A q := fun q h => by rw [← hAe]; exact Or.inr h
  have hS : va_S A s.heap s.heap [] := va_S.rf
  have hP : va_P D vwCl [(h0, .inr (12, [.ref z0, .ref z1, .ref z2, .ref z3, .ref z4, .ref z5, .ref z20, .ref z21, .ref z22, .ref z23, .ref z24, .ref z25, .int 0, .ref z26, .ref z27, .ref z28, .int 9, .int 0, .int 0, .ref z6, .ref z29, .ref z7, .int 0, .int 2, .ref z19, .ref z8, .ref z9, .ref z10, .int 0, .ref z11, .int 0, .ref z30, .ref z31, .ref z32, .ref z33, .int 0, .ref z12, .int 0, .int 0, .ref z34, .ref z35, .ref z36, .ref z37, .int 0, .int 0, .int 0, .int 0, .ref z38, .int 0, .ref z39, .ref z40, .ref z41, .ref z42, .int 0, .ref z13, .ref z14, .ref z15, .ref z16, .int 0, .ref z17, .ref z18, .ref z43]))] s.heap := hP
  have hl := lv_entry ([.ref h0, .int 2, .int 2, .int 1]) (n := 4) (Nat.le_of_ble_eq_true rfl)
  rw [lg_entry_eq]
  generalize (lg_sl ([.ref h0, .int 2, .int 2, .int 1]) ++ List.replicate (4 - (lg_sl ([.ref h0, .int 2, .int 2, .int 1])).length) Slot.unset).toArray = ls at hl ⊢
  have hl : lv_has ls 4 [(0, .ref h0), (1, .int 2), (2, .int 2), (3, .int 1)] := hl
  refine lv_iload_n hx hb dX12_passAt_0 rfl (lv_at hl 1 rfl) ?_
  refine lv_aload_n hx hb dX12_passAt_1 rfl (lv_at hl 0 rfl) ?_
  have hPc := hP.sub (ws' := [(h0, .inr (12, [.ref z0, .ref z1, .ref z2, .ref z3, .ref z4, .ref z5, .ref z20, .ref z21, .ref z22, .ref z23, .ref z24, .ref z25, .int 0, .ref z26, .ref z27, .ref z28, .int 9, .int 0, .int 0, .ref z6, .ref z29, .ref z7, .int 0, .int 2, .ref z19, .ref z8, .ref z9, .ref z10, .int 0, .ref z11, .int 0, .ref z30, .ref z31, .ref z32, .ref z33, .int 0, .ref z12, .int 0, .int 0, .ref z34, .ref z35, .ref z36, .ref z37, .int 0, .int 0, .int 0, .int 0, .ref z38, .int 0, .ref z39, .ref z40, .ref z41, .ref z42, .int 0, .ref z13, .ref z14, .ref z15, .ref z16, .int 0, .ref z17, .ref z18, .ref z43]))]) [0] rfl
  have hDc := hD.sub (ws' := [(h0, .inr (12, [.ref z0, .ref z1, .ref z2, .ref z3, .ref z4, .ref z5, .ref z20, .ref z21, .ref z22, .ref z23, .ref z24, .ref z25, .int 0, .ref z26, .ref z27, .ref z28, .int 9, .int 0, .int 0, .ref z6, .ref z29, .ref z7, .int 0, .int 2, .ref z19, .ref z8, .ref z9, .ref z10, .int 0, .ref z11, .int 0, .ref z30, .ref z31, .ref z32, .ref z33, .int 0, .ref z12, .int 0, .int 0, .ref z34, .ref z35, .ref z36, .ref z37, .int 0, .int 0, .int 0, .int 0, .ref z38, .int 0, .ref z39, .ref z40, .ref z41, .ref z42, .int 0, .ref z13, .ref z14, .ref z15, .ref z16, .int 0, .ref z17, .ref z18, .ref z43]))]) [0] (by decide) rfl
  have hFc := va_free (wc := [(h0, .inr (12, [.ref z0, .ref z1, .ref z2, .ref z3, .ref z4, .ref z5, .ref z20, .ref z21, .ref z22, .ref z23, .ref z24, .ref z25, .int 0, .ref z26, .ref z27, .ref z28, .int 9, .int 0, .int 0, .ref z6, .ref z29, .ref z7, .int 0, .int 2, .ref z19, .ref z8, .ref z9, .ref z10, .int 0, .ref z11, .int 0, .ref z30, .ref z31, .ref z32, .ref z33, .int 0, .ref z12, .int 0, .int 0, .ref z34, .ref z35, .ref z36, .ref z37, .int 0, .int 0, .int 0, .int 0, .ref z38, .int 0, .ref z39, .ref z40, .ref z41, .ref z42, .int 0, .ref z13, .ref z14, .ref z15, .ref z16, .int 0, .ref z17, .ref z18, .ref z43]))]) hD hS hA [0] rfl
  refine va_calli (va_runV (As := []) (rest := [.int 2]) ⟨hx, hb, hml, hown, hts⟩ (kX12_gens l D G h0 z0 z1 z2 z3 z4 z5 z20 z21 z22 z23 z24 z25 z26 z27 z28 z6 z29 z7 z19 z8 z9 z10 z11 z30 z31 z32 z33 z12 z34 z35 z36 z37 z38 z39 z40 z41 z42 z13 z14 z15 z16 z17 z18 z43 0 s.heap.size) (cwV 0 hts gX12_passAt_X12_gens rfl rfl rfl (by decide +kernel) ⟨Nat.le_of_ble_eq_true rfl, Nat.le_of_ble_eq_true rfl⟩) ⟨wB_blind, va_recv hK hPc (ci := 12) (q0 := 0) rfl rfl, wB_pre hPc hK hDc hN⟩ rfl rfl hl.1 rfl (lv_room (Nat.le_of_ble_eq_true rfl)) dX12_passAt_2 ⟨Nat.le_of_ble_eq_true rfl, Nat.le_of_ble_eq_true rfl⟩) hS (fun q _ h => hFc q h) hFc (fun r1 u t H1 locs ht hvm hr1 hB hz1 hk1 hS => ?_)
  obtain ⟨hP1, hK1, hD1⟩ := hB
  rw [ht] at hP1
  obtain ⟨hP, hD⟩ := va_join (wr := []) (w1 := [(h0, .inr (12, [.ref z0, .ref z1, .ref z2, .ref z3, .ref z4, .ref z5, .ref z20, .ref z21, .ref z22, .ref z23, .ref z24, .ref z25, .int 0, .ref z26, .ref z27, .ref z28, .int 9, .int 0, .int 0, .ref z6, .ref z29, .ref z7, .int 0, .int 2, .ref z19, .ref z8, .ref z9, .ref z10, .int 0, .ref z11, .int 0, .ref z30, .ref z31, .ref z32, .ref z33, .int 0, .ref z12, .int 0, .int 0, .ref z34, .ref z35, .ref z36, .ref z37, .int 0, .int 0, .int 0, .int 0, .ref z38, .int 0, .ref z39, .ref z40, .ref z41, .ref z42, .int 0, .ref z13, .ref z14, .ref z15, .ref z16, .int 0, .ref z17, .ref z18, .ref z43]))]) hP hD [0] [] rfl rfl (by decide) (by decide) hk1 hFc hP1 hD1
  clear hPc hDc
  generalize H1 = H at hP hS ⊢
  have hP : va_P D vwCl [(h0, .inr (12, [.ref z0, .ref z1, .ref z2, .ref z3, .ref z4, .ref z5, .ref z20, .ref z21, .ref z22, .ref z23, .ref z24, .ref z25, .int 0, .ref z26, .ref z27, .ref z28, .int 9, .int 0, .int 0, .ref z6, .ref z29, .ref z7, .int 0, .int 2, .ref z19, .ref z8, .ref z9, .ref z10, .int 0, .ref z11, .int 0, .ref z30, .ref z31, .ref z32, .ref z33, .int 0, .ref z12, .int 0, .int 0, .ref z34, .ref z35, .ref z36, .ref z37, .int 0, .int 0, .int 0, .int 0, .ref z38, .int 0, .ref z39, .ref z40, .ref z41, .ref z42, .int 0, .ref z13, .ref z14, .ref z15, .ref z16, .int 0, .ref z17, .ref z18, .ref z43]))] H := hP
  have hD : va_D A [(h0, .inr (12, [.ref z0, .ref z1, .ref z2, .ref z3, .ref z4, .ref z5, .ref z20, .ref z21, .ref z22, .ref z23, .ref z24, .ref z25, .int 0, .ref z26, .ref z27, .ref z28, .int 9, .int 0, .int 0, .ref z6, .ref z29, .ref z7, .int 0, .int 2, .ref z19, .ref z8, .ref z9, .ref z10, .int 0, .ref z11, .int 0, .ref z30, .ref z31, .ref z32, .ref z33, .int 0, .ref z12, .int 0, .int 0, .ref z34, .ref z35, .ref z36, .ref z37, .int 0, .int 0, .int 0, .int 0, .ref z38, .int 0, .ref z39, .ref z40, .ref z41, .ref z42, .int 0, .ref z13, .ref z14, .ref z15, .ref z16, .int 0, .ref z17, .ref z18, .ref z43]))] := hD
  subst hr1
  refine lv_iload_n hx hb dX12_passAt_5 rfl (lv_at hl 2 rfl) ?_
  refine lv_iconst (v := 1) hx hb dX12_passAt_6 (by decide) ?_
  refine lv_isub hx hb dX12_passAt_7 ?_
  refine wk_i 1 (by decide) ?_
  refine lv_iload_n hx hb dX12_passAt_8 rfl (lv_at hl 3 rfl) ?_
  refine lv_isub hx hb dX12_passAt_9 ?_
  refine wk_i 0 (by decide) ?_
  have hPc := hP.sub (ws' := []) [] rfl
  have hDc := hD.sub (ws' := []) [] (by decide) rfl
  have hFc := va_free (wc := []) hD hS hA [] rfl
  refine va_calli (va_runS (As := [.int 2, .int 0]) (rest := [.int 2]) ⟨hx, hb, hml, hown, hts⟩ (kX12_power_0 l D G  H.size) (va_cwS 2 hts gX12_passAt_X12_power rfl rfl rfl (by decide +kernel) ⟨Nat.le_of_ble_eq_true rfl, Nat.le_of_ble_eq_true rfl⟩) ⟨wB_blind, wB_pre hPc hK hDc hN⟩ rfl rfl hl.1 rfl (lv_room (Nat.le_of_ble_eq_true rfl)) dX12_passAt_10 ⟨Nat.le_of_ble_eq_true rfl, Nat.le_of_ble_eq_true rfl⟩) hS (fun q _ h => hFc q h) hFc (fun r2 u t H1 locs ht hvm hr2 hB hz1 hk1 hS => ?_)
  obtain ⟨hP, hD⟩ := va_join (wr := [(h0, .inr (12, [.ref z0, .ref z1, .ref z2, .ref z3, .ref z4, .ref z5, .ref z20, .ref z21, .ref z22, .ref z23, .ref z24, .ref z25, .int 0, .ref z26, .ref z27, .ref z28, .int 9, .int 0, .int 0, .ref z6, .ref z29, .ref z7, .int 0, .int 2, .ref z19, .ref z8, .ref z9, .ref z10, .int 0, .ref z11, .int 0, .ref z30, .ref z31, .ref z32, .ref z33, .int 0, .ref z12, .int 0, .int 0, .ref z34, .ref z35, .ref z36, .ref z37, .int 0, .int 0, .int 0, .int 0, .ref z38, .int 0, .ref z39, .ref z40, .ref z41, .ref z42, .int 0, .ref z13, .ref z14, .ref z15, .ref z16, .int 0, .ref z17, .ref z18, .ref z43]))]) (w1 := []) hP hD [] [0] rfl rfl (by decide) (by decide) hk1 hFc wP_nil wD_nil
  clear hPc hDc
  generalize H1 = H at hP hS ⊢
  have hP : va_P D vwCl [(h0, .inr (12, [.ref z0, .ref z1, .ref z2, .ref z3, .ref z4, .ref z5, .ref z20, .ref z21, .ref z22, .ref z23, .ref z24, .ref z25, .int 0, .ref z26, .ref z27, .ref z28, .int 9, .int 0, .int 0, .ref z6, .ref z29, .ref z7, .int 0, .int 2, .ref z19, .ref z8, .ref z9, .ref z10, .int 0, .ref z11, .int 0, .ref z30, .ref z31, .ref z32, .ref z33, .int 0, .ref z12, .int 0, .int 0, .ref z34, .ref z35, .ref z36, .ref z37, .int 0, .int 0, .int 0, .int 0, .ref z38, .int 0, .ref z39, .ref z40, .ref z41, .ref z42, .int 0, .ref z13, .ref z14, .ref z15, .ref z16, .int 0, .ref z17, .ref z18, .ref z43]))] H := hP
  have hD : va_D A [(h0, .inr (12, [.ref z0, .ref z1, .ref z2, .ref z3, .ref z4, .ref z5, .ref z20, .ref z21, .ref z22, .ref z23, .ref z24, .ref z25, .int 0, .ref z26, .ref z27, .ref z28, .int 9, .int 0, .int 0, .ref z6, .ref z29, .ref z7, .int 0, .int 2, .ref z19, .ref z8, .ref z9, .ref z10, .int 0, .ref z11, .int 0, .ref z30, .ref z31, .ref z32, .ref z33, .int 0, .ref z12, .int 0, .int 0, .ref z34, .ref z35, .ref z36, .ref z37, .int 0, .int 0, .int 0, .int 0, .ref z38, .int 0, .ref z39, .ref z40, .ref z41, .ref z42, .int 0, .ref z13, .ref z14, .ref z15, .ref z16, .int 0, .ref z17, .ref z18, .ref z43]))] := hD
  subst hr2
  refine lv_idiv hx hb dX12_passAt_13 (by decide) ?_
  refine wk_i 2 (by decide) ?_
  refine lv_aload_n hx hb dX12_passAt_14 rfl (lv_at hl 0 rfl) ?_
  have hPc := hP.sub (ws' := [(h0, .inr (12, [.ref z0, .ref z1, .ref z2, .ref z3, .ref z4, .ref z5, .ref z20, .ref z21, .ref z22, .ref z23, .ref z24, .ref z25, .int 0, .ref z26, .ref z27, .ref z28, .int 9, .int 0, .int 0, .ref z6, .ref z29, .ref z7, .int 0, .int 2, .ref z19, .ref z8, .ref z9, .ref z10, .int 0, .ref z11, .int 0, .ref z30, .ref z31, .ref z32, .ref z33, .int 0, .ref z12, .int 0, .int 0, .ref z34, .ref z35, .ref z36, .ref z37, .int 0, .int 0, .int 0, .int 0, .ref z38, .int 0, .ref z39, .ref z40, .ref z41, .ref z42, .int 0, .ref z13, .ref z14, .ref z15, .ref z16, .int 0, .ref z17, .ref z18, .ref z43]))]) [0] rfl
  have hDc := hD.sub (ws' := [(h0, .inr (12, [.ref z0, .ref z1, .ref z2, .ref z3, .ref z4, .ref z5, .ref z20, .ref z21, .ref z22, .ref z23, .ref z24, .ref z25, .int 0, .ref z26, .ref z27, .ref z28, .int 9, .int 0, .int 0, .ref z6, .ref z29, .ref z7, .int 0, .int 2, .ref z19, .ref z8, .ref z9, .ref z10, .int 0, .ref z11, .int 0, .ref z30, .ref z31, .ref z32, .ref z33, .int 0, .ref z12, .int 0, .int 0, .ref z34, .ref z35, .ref z36, .ref z37, .int 0, .int 0, .int 0, .int 0, .ref z38, .int 0, .ref z39, .ref z40, .ref z41, .ref z42, .int 0, .ref z13, .ref z14, .ref z15, .ref z16, .int 0, .ref z17, .ref z18, .ref z43]))]) [0] (by decide) rfl
  have hFc := va_free (wc := [(h0, .inr (12, [.ref z0, .ref z1, .ref z2, .ref z3, .ref z4, .ref z5, .ref z20, .ref z21, .ref z22, .ref z23, .ref z24, .ref z25, .int 0, .ref z26, .ref z27, .ref z28, .int 9, .int 0, .int 0, .ref z6, .ref z29, .ref z7, .int 0, .int 2, .ref z19, .ref z8, .ref z9, .ref z10, .int 0, .ref z11, .int 0, .ref z30, .ref z31, .ref z32, .ref z33, .int 0, .ref z12, .int 0, .int 0, .ref z34, .ref z35, .ref z36, .ref z37, .int 0, .int 0, .int 0, .int 0, .ref z38, .int 0, .ref z39, .ref z40, .ref z41, .ref z42, .int 0, .ref z13, .ref z14, .ref z15, .ref z16, .int 0, .ref z17, .ref z18, .ref z43]))]) hD hS hA [0] rfl
  refine va_calli (va_runV (As := []) (rest := [.int 2]) ⟨hx, hb, hml, hown, hts⟩ (kX12_gens l D G h0 z0 z1 z2 z3 z4 z5 z20 z21 z22 z23 z24 z25 z26 z27 z28 z6 z29 z7 z19 z8 z9 z10 z11 z30 z31 z32 z33 z12 z34 z35 z36 z37 z38 z39 z40 z41 z42 z13 z14 z15 z16 z17 z18 z43 0 H.size) (cwV 0 hts gX12_passAt_X12_gens rfl rfl rfl (by decide +kernel) ⟨Nat.le_of_ble_eq_true rfl, Nat.le_of_ble_eq_true rfl⟩) ⟨wB_blind, va_recv hK hPc (ci := 12) (q0 := 0) rfl rfl, wB_pre hPc hK hDc hN⟩ rfl rfl hl.1 rfl (lv_room (Nat.le_of_ble_eq_true rfl)) dX12_passAt_15 ⟨Nat.le_of_ble_eq_true rfl, Nat.le_of_ble_eq_true rfl⟩) hS (fun q _ h => hFc q h) hFc (fun r3 u t H1 locs ht hvm hr3 hB hz1 hk1 hS => ?_)
  obtain ⟨hP1, hK1, hD1⟩ := hB
  rw [ht] at hP1
  obtain ⟨hP, hD⟩ := va_join (wr := []) (w1 := [(h0, .inr (12, [.ref z0, .ref z1, .ref z2, .ref z3, .ref z4, .ref z5, .ref z20, .ref z21, .ref z22, .ref z23, .ref z24, .ref z25, .int 0, .ref z26, .ref z27, .ref z28, .int 9, .int 0, .int 0, .ref z6, .ref z29, .ref z7, .int 0, .int 2, .ref z19, .ref z8, .ref z9, .ref z10, .int 0, .ref z11, .int 0, .ref z30, .ref z31, .ref z32, .ref z33, .int 0, .ref z12, .int 0, .int 0, .ref z34, .ref z35, .ref z36, .ref z37, .int 0, .int 0, .int 0, .int 0, .ref z38, .int 0, .ref z39, .ref z40, .ref z41, .ref z42, .int 0, .ref z13, .ref z14, .ref z15, .ref z16, .int 0, .ref z17, .ref z18, .ref z43]))]) hP hD [0] [] rfl rfl (by decide) (by decide) hk1 hFc hP1 hD1
  clear hPc hDc
  generalize H1 = H at hP hS ⊢
  have hP : va_P D vwCl [(h0, .inr (12, [.ref z0, .ref z1, .ref z2, .ref z3, .ref z4, .ref z5, .ref z20, .ref z21, .ref z22, .ref z23, .ref z24, .ref z25, .int 0, .ref z26, .ref z27, .ref z28, .int 9, .int 0, .int 0, .ref z6, .ref z29, .ref z7, .int 0, .int 2, .ref z19, .ref z8, .ref z9, .ref z10, .int 0, .ref z11, .int 0, .ref z30, .ref z31, .ref z32, .ref z33, .int 0, .ref z12, .int 0, .int 0, .ref z34, .ref z35, .ref z36, .ref z37, .int 0, .int 0, .int 0, .int 0, .ref z38, .int 0, .ref z39, .ref z40, .ref z41, .ref z42, .int 0, .ref z13, .ref z14, .ref z15, .ref z16, .int 0, .ref z17, .ref z18, .ref z43]))] H := hP
  have hD : va_D A [(h0, .inr (12, [.ref z0, .ref z1, .ref z2, .ref z3, .ref z4, .ref z5, .ref z20, .ref z21, .ref z22, .ref z23, .ref z24, .ref z25, .int 0, .ref z26, .ref z27, .ref z28, .int 9, .int 0, .int 0, .ref z6, .ref z29, .ref z7, .int 0, .int 2, .ref z19, .ref z8, .ref z9, .ref z10, .int 0, .ref z11, .int 0, .ref z30, .ref z31, .ref z32, .ref z33, .int 0, .ref z12, .int 0, .int 0, .ref z34, .ref z35, .ref z36, .ref z37, .int 0, .int 0, .int 0, .int 0, .ref z38, .int 0, .ref z39, .ref z40, .ref z41, .ref z42, .int 0, .ref z13, .ref z14, .ref z15, .ref z16, .int 0, .ref z17, .ref z18, .ref z43]))] := hD
  subst hr3
  refine lv_irem hx hb dX12_passAt_18 (by decide) ?_
  refine wk_i 0 (by decide) ?_
  have hPc := hP.sub (ws' := []) [] rfl
  have hDc := hD.sub (ws' := []) [] (by decide) rfl
  have hFc := va_free (wc := []) hD hS hA [] rfl
  refine va_calli (va_runS (As := [.int 0]) (rest := []) ⟨hx, hb, hml, hown, hts⟩ (kX12_passOf_0 l D G  H.size) (va_cwS 1 hts gX12_passAt_X12_passOf rfl rfl rfl (by decide +kernel) ⟨Nat.le_of_ble_eq_true rfl, Nat.le_of_ble_eq_true rfl⟩) ⟨wB_blind, wB_pre hPc hK hDc hN⟩ rfl rfl hl.1 rfl (lv_room (Nat.le_of_ble_eq_true rfl)) dX12_passAt_19 ⟨Nat.le_of_ble_eq_true rfl, Nat.le_of_ble_eq_true rfl⟩) hS (fun q _ h => hFc q h) hFc (fun r4 u t H1 locs ht hvm hr4 hB hz1 hk1 hS => ?_)
  obtain ⟨hP, hD⟩ := va_join (wr := [(h0, .inr (12, [.ref z0, .ref z1, .ref z2, .ref z3, .ref z4, .ref z5, .ref z20, .ref z21, .ref z22, .ref z23, .ref z24, .ref z25, .int 0, .ref z26, .ref z27, .ref z28, .int 9, .int 0, .int 0, .ref z6, .ref z29, .ref z7, .int 0, .int 2, .ref z19, .ref z8, .ref z9, .ref z10, .int 0, .ref z11, .int 0, .ref z30, .ref z31, .ref z32, .ref z33, .int 0, .ref z12, .int 0, .int 0, .ref z34, .ref z35, .ref z36, .ref z37, .int 0, .int 0, .int 0, .int 0, .ref z38, .int 0, .ref z39, .ref z40, .ref z41, .ref z42, .int 0, .ref z13, .ref z14, .ref z15, .ref z16, .int 0, .ref z17, .ref z18, .ref z43]))]) (w1 := []) hP hD [] [0] rfl rfl (by decide) (by decide) hk1 hFc wP_nil wD_nil
  clear hPc hDc
  generalize H1 = H at hP hS ⊢
  have hP : va_P D vwCl [(h0, .inr (12, [.ref z0, .ref z1, .ref z2, .ref z3, .ref z4, .ref z5, .ref z20, .ref z21, .ref z22, .ref z23, .ref z24, .ref z25, .int 0, .ref z26, .ref z27, .ref z28, .int 9, .int 0, .int 0, .ref z6, .ref z29, .ref z7, .int 0, .int 2, .ref z19, .ref z8, .ref z9, .ref z10, .int 0, .ref z11, .int 0, .ref z30, .ref z31, .ref z32, .ref z33, .int 0, .ref z12, .int 0, .int 0, .ref z34, .ref z35, .ref z36, .ref z37, .int 0, .int 0, .int 0, .int 0, .ref z38, .int 0, .ref z39, .ref z40, .ref z41, .ref z42, .int 0, .ref z13, .ref z14, .ref z15, .ref z16, .int 0, .ref z17, .ref z18, .ref z43]))] H := hP
  have hD : va_D A [(h0, .inr (12, [.ref z0, .ref z1, .ref z2, .ref z3, .ref z4, .ref z5, .ref z20, .ref z21, .ref z22, .ref z23, .ref z24, .ref z25, .int 0, .ref z26, .ref z27, .ref z28, .int 9, .int 0, .int 0, .ref z6, .ref z29, .ref z7, .int 0, .int 2, .ref z19, .ref z8, .ref z9, .ref z10, .int 0, .ref z11, .int 0, .ref z30, .ref z31, .ref z32, .ref z33, .int 0, .ref z12, .int 0, .int 0, .ref z34, .ref z35, .ref z36, .ref z37, .int 0, .int 0, .int 0, .int 0, .ref z38, .int 0, .ref z39, .ref z40, .ref z41, .ref z42, .int 0, .ref z13, .ref z14, .ref z15, .ref z16, .int 0, .ref z17, .ref z18, .ref z43]))] := hD
  subst hr4
  have hP9 := hP.sub (ws' := [(h0, .inr (12, [.ref z0, .ref z1, .ref z2, .ref z3, .ref z4, .ref z5, .ref z20, .ref z21, .ref z22, .ref z23, .ref z24, .ref z25, .int 0, .ref z26, .ref z27, .ref z28, .int 9, .int 0, .int 0, .ref z6, .ref z29, .ref z7, .int 0, .int 2, .ref z19, .ref z8, .ref z9, .ref z10, .int 0, .ref z11, .int 0, .ref z30, .ref z31, .ref z32, .ref z33, .int 0, .ref z12, .int 0, .int 0, .ref z34, .ref z35, .ref z36, .ref z37, .int 0, .int 0, .int 0, .int 0, .ref z38, .int 0, .ref z39, .ref z40, .ref z41, .ref z42, .int 0, .ref z13, .ref z14, .ref z15, .ref z16, .int 0, .ref z17, .ref z18, .ref z43]))]) [0] rfl
  have hD9 := hD.sub (ws' := [(h0, .inr (12, [.ref z0, .ref z1, .ref z2, .ref z3, .ref z4, .ref z5, .ref z20, .ref z21, .ref z22, .ref z23, .ref z24, .ref z25, .int 0, .ref z26, .ref z27, .ref z28, .int 9, .int 0, .int 0, .ref z6, .ref z29, .ref z7, .int 0, .int 2, .ref z19, .ref z8, .ref z9, .ref z10, .int 0, .ref z11, .int 0, .ref z30, .ref z31, .ref z32, .ref z33, .int 0, .ref z12, .int 0, .int 0, .ref z34, .ref z35, .ref z36, .ref z37, .int 0, .int 0, .int 0, .int 0, .ref z38, .int 0, .ref z39, .ref z40, .ref z41, .ref z42, .int 0, .ref z13, .ref z14, .ref z15, .ref z16, .int 0, .ref z17, .ref z18, .ref z43]))]) [0] (by decide) rfl
  exact W.iret (v := 1) hx hb hr (fun t ht hW => ⟨⟨1, (), rfl, rfl, ⟨by rw [ht]; exact hP9, va_K.moved hW.alike hK, hD9⟩⟩, hS.F ht⟩) hS.2.2 dX12_passAt_22

set_option maxHeartbeats 4000000 in
set_option maxRecDepth 100000 in
/-- X12_passAt -/
theorem kX12_passAt_2_3_0 (l : Launch) (D : va_G) (G : tyG) (h0 : Nat) (z0 : Nat) (z1 : Nat) (z2 : Nat) (z3 : Nat) (z4 : Nat) (z5 : Nat) (z20 : Nat) (z21 : Nat) (z22 : Nat) (z23 : Nat) (z24 : Nat) (z25 : Nat) (z26 : Nat) (z27 : Nat) (z28 : Nat) (z6 : Nat) (z29 : Nat) (z7 : Nat) (z19 : Nat) (z8 : Nat) (z9 : Nat) (z10 : Nat) (z11 : Nat) (z30 : Nat) (z31 : Nat) (z32 : Nat) (z33 : Nat) (z12 : Nat) (z34 : Nat) (z35 : Nat) (z36 : Nat) (z37 : Nat) (z38 : Nat) (z39 : Nat) (z40 : Nat) (z41 : Nat) (z42 : Nat) (z13 : Nat) (z14 : Nat) (z15 : Nat) (z16 : Nat) (z17 : Nat) (z18 : Nat) (z43 : Nat) (sz : Nat) : Met l yX12_passAt wsX12_passAt ({ frames := 1, cells := 0, slots := 0, locals := 23 }) (va_Pc [.ref h0, .int 3, .int 2, .int 0] (wB D G sz [(h0, .inr (12, [.ref z0, .ref z1, .ref z2, .ref z3, .ref z4, .ref z5, .ref z20, .ref z21, .ref z22, .ref z23, .ref z24, .ref z25, .int 0, .ref z26, .ref z27, .ref z28, .int 9, .int 0, .int 0, .ref z6, .ref z29, .ref z7, .int 0, .int 2, .ref z19, .ref z8, .ref z9, .ref z10, .int 0, .ref z11, .int 0, .ref z30, .ref z31, .ref z32, .ref z33, .int 0, .ref z12, .int 0, .int 0, .ref z34, .ref z35, .ref z36, .ref z37, .int 0, .int 0, .int 0, .int 0, .ref z38, .int 0, .ref z39, .ref z40, .ref z41, .ref z42, .int 0, .ref z13, .ref z14, .ref z15, .ref z16, .int 0, .ref z17, .ref z18, .ref z43]))])) (va_Qi (fun (r : Int32) (_ : Unit) => r = (-1)) (fun _ t => wS D G (va_A [(h0, .inr (12, [.ref z0, .ref z1, .ref z2, .ref z3, .ref z4, .ref z5, .ref z20, .ref z21, .ref z22, .ref z23, .ref z24, .ref z25, .int 0, .ref z26, .ref z27, .ref z28, .int 9, .int 0, .int 0, .ref z6, .ref z29, .ref z7, .int 0, .int 2, .ref z19, .ref z8, .ref z9, .ref z10, .int 0, .ref z11, .int 0, .ref z30, .ref z31, .ref z32, .ref z33, .int 0, .ref z12, .int 0, .int 0, .ref z34, .ref z35, .ref z36, .ref z37, .int 0, .int 0, .int 0, .int 0, .ref z38, .int 0, .ref z39, .ref z40, .ref z41, .ref z42, .int 0, .ref z13, .ref z14, .ref z15, .ref z16, .int 0, .ref z17, .ref z18, .ref z43]))] sz) [(h0, .inr (12, [.ref z0, .ref z1, .ref z2, .ref z3, .ref z4, .ref z5, .ref z20, .ref z21, .ref z22, .ref z23, .ref z24, .ref z25, .int 0, .ref z26, .ref z27, .ref z28, .int 9, .int 0, .int 0, .ref z6, .ref z29, .ref z7, .int 0, .int 2, .ref z19, .ref z8, .ref z9, .ref z10, .int 0, .ref z11, .int 0, .ref z30, .ref z31, .ref z32, .ref z33, .int 0, .ref z12, .int 0, .int 0, .ref z34, .ref z35, .ref z36, .ref z37, .int 0, .int 0, .int 0, .int 0, .ref z38, .int 0, .ref z39, .ref z40, .ref z41, .ref z42, .int 0, .ref z13, .ref z14, .ref z15, .ref z16, .int 0, .ref z17, .ref z18, .ref z43]))] t) (va_A [(h0, .inr (12, [.ref z0, .ref z1, .ref z2, .ref z3, .ref z4, .ref z5, .ref z20, .ref z21, .ref z22, .ref z23, .ref z24, .ref z25, .int 0, .ref z26, .ref z27, .ref z28, .int 9, .int 0, .int 0, .ref z6, .ref z29, .ref z7, .int 0, .int 2, .ref z19, .ref z8, .ref z9, .ref z10, .int 0, .ref z11, .int 0, .ref z30, .ref z31, .ref z32, .ref z33, .int 0, .ref z12, .int 0, .int 0, .ref z34, .ref z35, .ref z36, .ref z37, .int 0, .int 0, .int 0, .int 0, .ref z38, .int 0, .ref z39, .ref z40, .ref z41, .ref z42, .int 0, .ref z13, .ref z14, .ref z15, .ref z16, .int 0, .ref z17, .ref z18, .ref z43]))] sz)) 0 0 (va_A [(h0, .inr (12, [.ref z0, .ref z1, .ref z2, .ref z3, .ref z4, .ref z5, .ref z20, .ref z21, .ref z22, .ref z23, .ref z24, .ref z25, .int 0, .ref z26, .ref z27, .ref z28, .int 9, .int 0, .int 0, .ref z6, .ref z29, .ref z7, .int 0, .int 2, .ref z19, .ref z8, .ref z9, .ref z10, .int 0, .ref z11, .int 0, .ref z30, .ref z31, .ref z32, .ref z33, .int 0, .ref z12, .int 0, .int 0, .ref z34, .ref z35, .ref z36, .ref z37, .int 0, .int 0, .int 0, .int 0, .ref z38, .int 0, .ref z39, .ref z40, .ref z41, .ref z42, .int 0, .ref z13, .ref z14, .ref z15, .ref z16, .int 0, .ref z17, .ref z18, .ref z43]))] sz) := by
  refine Met.ofW (cc := cX12_passAt) (maxL := 4) (ret := (some .int)) (by decide) rfl ?_
  intro p e s m args below meth c s₁ B hml hv
  obtain ⟨rfl, hsz, hP, hK, hD0, hN⟩ := hv
  have hx := B.exec
  have hb := B.bytes
  have hr := B.returns
  have hts := atoms_spec (ws := wsX12_passAt) B.pre
  have hown : s.vm.findClass RX12 = some m.cls := findClass_of_methodNamed B.named
  have hlocks := B.notSynchronized
  subst hsz
  have hD := hD0.self (sz := s.heap.size)
  generalize hAe : va_A [(h0, .inr (12, [.ref z0, .ref z1, .ref z2, .ref z3, .ref z4, .ref z5, .ref z20, .ref z21, .ref z22, .ref z23, .ref z24, .ref z25, .int 0, .ref z26, .ref z27, .ref z28, .int 9, .int 0, .int 0, .ref z6, .ref z29, .ref z7, .int 0, .int 2, .ref z19, .ref z8, .ref z9, .ref z10, .int 0, .ref z11, .int 0, .ref z30, .ref z31, .ref z32, .ref z33, .int 0, .ref z12, .int 0, .int 0, .ref z34, .ref z35, .ref z36, .ref z37, .int 0, .int 0, .int 0, .int 0, .ref z38, .int 0, .ref z39, .ref z40, .ref z41, .ref z42, .int 0, .ref z13, .ref z14, .ref z15, .ref z16, .int 0, .ref z17, .ref z18, .ref z43]))] s.heap.size = A at hD ⊢
  have hA : ∀ q : Nat, s.heap.size ≤ q → A q := fun q h => by rw [← hAe]; exact Or.inr h
  have hS : va_S A s.heap s.heap [] := va_S.rf
  have hP : va_P D vwCl [(h0, .inr (12, [.ref z0, .ref z1, .ref z2, .ref z3, .ref z4, .ref z5, .ref z20, .ref z21, .ref z22, .ref z23, .ref z24, .ref z25, .int 0, .ref z26, .ref z27, .ref z28, .int 9, .int 0, .int 0, .ref z6, .ref z29, .ref z7, .int 0, .int 2, .ref z19, .ref z8, .ref z9, .ref z10, .int 0, .ref z11, .int 0, .ref z30, .ref z31, .ref z32, .ref z33, .int 0, .ref z12, .int 0, .int 0, .ref z34, .ref z35, .ref z36, .ref z37, .int 0, .int 0, .int 0, .int 0, .ref z38, .int 0, .ref z39, .ref z40, .ref z41, .ref z42, .int 0, .ref z13, .ref z14, .ref z15, .ref z16, .int 0, .ref z17, .ref z18, .ref z43]))] s.heap := hP
  have hl := lv_entry ([.ref h0, .int 3, .int 2, .int 0]) (n := 4) (Nat.le_of_ble_eq_true rfl)
  rw [lg_entry_eq]
  generalize (lg_sl ([.ref h0, .int 3, .int 2, .int 0]) ++ List.replicate (4 - (lg_sl ([.ref h0, .int 3, .int 2, .int 0])).length) Slot.unset).toArray = ls at hl ⊢
  have hl : lv_has ls 4 [(0, .ref h0), (1, .int 3), (2, .int 2), (3, .int 0)] := hl
  refine lv_iload_n hx hb dX12_passAt_0 rfl (lv_at hl 1 rfl) ?_
  refine lv_aload_n hx hb dX12_passAt_1 rfl (lv_at hl 0 rfl) ?_
  have hPc := hP.sub (ws' := [(h0, .inr (12, [.ref z0, .ref z1, .ref z2, .ref z3, .ref z4, .ref z5, .ref z20, .ref z21, .ref z22, .ref z23, .ref z24, .ref z25, .int 0, .ref z26, .ref z27, .ref z28, .int 9, .int 0, .int 0, .ref z6, .ref z29, .ref z7, .int 0, .int 2, .ref z19, .ref z8, .ref z9, .ref z10, .int 0, .ref z11, .int 0, .ref z30, .ref z31, .ref z32, .ref z33, .int 0, .ref z12, .int 0, .int 0, .ref z34, .ref z35, .ref z36, .ref z37, .int 0, .int 0, .int 0, .int 0, .ref z38, .int 0, .ref z39, .ref z40, .ref z41, .ref z42, .int 0, .ref z13, .ref z14, .ref z15, .ref z16, .int 0, .ref z17, .ref z18, .ref z43]))]) [0] rfl
  have hDc := hD.sub (ws' := [(h0, .inr (12, [.ref z0, .ref z1, .ref z2, .ref z3, .ref z4, .ref z5, .ref z20, .ref z21, .ref z22, .ref z23, .ref z24, .ref z25, .int 0, .ref z26, .ref z27, .ref z28, .int 9, .int 0, .int 0, .ref z6, .ref z29, .ref z7, .int 0, .int 2, .ref z19, .ref z8, .ref z9, .ref z10, .int 0, .ref z11, .int 0, .ref z30, .ref z31, .ref z32, .ref z33, .int 0, .ref z12, .int 0, .int 0, .ref z34, .ref z35, .ref z36, .ref z37, .int 0, .int 0, .int 0, .int 0, .ref z38, .int 0, .ref z39, .ref z40, .ref z41, .ref z42, .int 0, .ref z13, .ref z14, .ref z15, .ref z16, .int 0, .ref z17, .ref z18, .ref z43]))]) [0] (by decide) rfl
  have hFc := va_free (wc := [(h0, .inr (12, [.ref z0, .ref z1, .ref z2, .ref z3, .ref z4, .ref z5, .ref z20, .ref z21, .ref z22, .ref z23, .ref z24, .ref z25, .int 0, .ref z26, .ref z27, .ref z28, .int 9, .int 0, .int 0, .ref z6, .ref z29, .ref z7, .int 0, .int 2, .ref z19, .ref z8, .ref z9, .ref z10, .int 0, .ref z11, .int 0, .ref z30, .ref z31, .ref z32, .ref z33, .int 0, .ref z12, .int 0, .int 0, .ref z34, .ref z35, .ref z36, .ref z37, .int 0, .int 0, .int 0, .int 0, .ref z38, .int 0, .ref z39, .ref z40, .ref z41, .ref z42, .int 0, .ref z13, .ref z14, .ref z15, .ref z16, .int 0, .ref z17, .ref z18, .ref z43]))]) hD hS hA [0] rfl
  refine va_calli (va_runV (As := []) (rest := [.int 3]) ⟨hx, hb, hml, hown, hts⟩ (kX12_gens l D G h0 z0 z1 z2 z3 z4 z5 z20 z21 z22 z23 z24 z25 z26 z27 z28 z6 z29 z7 z19 z8 z9 z10 z11 z30 z31 z32 z33 z12 z34 z35 z36 z37 z38 z39 z40 z41 z42 z13 z14 z15 z16 z17 z18 z43 0 s.heap.size) (cwV 0 hts gX12_passAt_X12_gens rfl rfl rfl (by decide +kernel) ⟨Nat.le_of_ble_eq_true rfl, Nat.le_of_ble_eq_true rfl⟩) ⟨wB_blind, va_recv hK hPc (ci := 12) (q0 := 0) rfl rfl, wB_pre hPc hK hDc hN⟩ rfl rfl hl.1 rfl (lv_room (Nat.le_of_ble_eq_true rfl)) dX12_passAt_2 ⟨Nat.le_of_ble_eq_true rfl, Nat.le_of_ble_eq_true rfl⟩) hS (fun q _ h => hFc q h) hFc (fun r1 u t H1 locs ht hvm hr1 hB hz1 hk1 hS => ?_)
  obtain ⟨hP1, hK1, hD1⟩ := hB
  rw [ht] at hP1
  obtain ⟨hP, hD⟩ := va_join (wr := []) (w1 := [(h0, .inr (12, [.ref z0, .ref z1, .ref z2, .ref z3, .ref z4, .ref z5, .ref z20, .ref z21, .ref z22, .ref z23, .ref z24, .ref z25, .int 0, .ref z26, .ref z27, .ref z28, .int 9, .int 0, .int 0, .ref z6, .ref z29, .ref z7, .int 0, .int 2, .ref z19, .ref z8, .ref z9, .ref z10, .int 0, .ref z11, .int 0, .ref z30, .ref z31, .ref z32, .ref z33, .int 0, .ref z12, .int 0, .int 0, .ref z34, .ref z35, .ref z36, .ref z37, .int 0, .int 0, .int 0, .int 0, .ref z38, .int 0, .ref z39, .ref z40, .ref z41, .ref z42, .int 0, .ref z13, .ref z14, .ref z15, .ref z16, .int 0, .ref z17, .ref z18, .ref z43]))]) hP hD [0] [] rfl rfl (by decide) (by decide) hk1 hFc hP1 hD1
  clear hPc hDc
  generalize H1 = H at hP hS ⊢
  have hP : va_P D vwCl [(h0, .inr (12, [.ref z0, .ref z1, .ref z2, .ref z3, .ref z4, .ref z5, .ref z20, .ref z21, .ref z22, .ref z23, .ref z24, .ref z25, .int 0, .ref z26, .ref z27, .ref z28, .int 9, .int 0, .int 0, .ref z6, .ref z29, .ref z7, .int 0, .int 2, .ref z19, .ref z8, .ref z9, .ref z10, .int 0, .ref z11, .int 0, .ref z30, .ref z31, .ref z32, .ref z33, .int 0, .ref z12, .int 0, .int 0, .ref z34, .ref z35, .ref z36, .ref z37, .int 0, .int 0, .int 0, .int 0, .ref z38, .int 0, .ref z39, .ref z40, .ref z41, .ref z42, .int 0, .ref z13, .ref z14, .ref z15, .ref z16, .int 0, .ref z17, .ref z18, .ref z43]))] H := hP
  have hD : va_D A [(h0, .inr (12, [.ref z0, .ref z1, .ref z2, .ref z3, .ref z4, .ref z5, .ref z20, .ref z21, .ref z22, .ref z23, .ref z24, .ref z25, .int 0, .ref z26, .ref z27, .ref z28, .int 9, .int 0, .int 0, .ref z6, .ref z29, .ref z7, .int 0, .int 2, .ref z19, .ref z8, .ref z9, .ref z10, .int 0, .ref z11, .int 0, .ref z30, .ref z31, .ref z32, .ref z33, .int 0, .ref z12, .int 0, .int 0, .ref z34, .ref z35, .ref z36, .ref z37, .int 0, .int 0, .int 0, .int 0, .ref z38, .int 0, .ref z39, .ref z40, .ref z41, .ref z42, .int 0, .ref z13, .ref z14, .ref z15, .ref z16, .int 0, .ref z17, .ref z18, .ref z43]))] := hD
  subst hr1
  refine lv_iload_n hx hb dX12_passAt_5 rfl (lv_at hl 2 rfl) ?_
  refine lv_iconst (v := 1) hx hb dX12_passAt_6 (by decide) ?_
  refine lv_isub hx hb dX12_passAt_7 ?_
  refine wk_i 1 (by decide) ?_
  refine lv_iload_n hx hb dX12_passAt_8 rfl (lv_at hl 3 rfl) ?_
  refine lv_isub hx hb dX12_passAt_9 ?_
  refine wk_i 1 (by decide) ?_
  have hPc := hP.sub (ws' := []) [] rfl
  have hDc := hD.sub (ws' := []) [] (by decide) rfl
  have hFc := va_free (wc := []) hD hS hA [] rfl
  refine va_calli (va_runS (As := [.int 2, .int 1]) (rest := [.int 3]) ⟨hx, hb, hml, hown, hts⟩ (kX12_power_1 l D G  H.size) (va_cwS 2 hts gX12_passAt_X12_power rfl rfl rfl (by decide +kernel) ⟨Nat.le_of_ble_eq_true rfl, Nat.le_of_ble_eq_true rfl⟩) ⟨wB_blind, wB_pre hPc hK hDc hN⟩ rfl rfl hl.1 rfl (lv_room (Nat.le_of_ble_eq_true rfl)) dX12_passAt_10 ⟨Nat.le_of_ble_eq_true rfl, Nat.le_of_ble_eq_true rfl⟩) hS (fun q _ h => hFc q h) hFc (fun r2 u t H1 locs ht hvm hr2 hB hz1 hk1 hS => ?_)
  obtain ⟨hP, hD⟩ := va_join (wr := [(h0, .inr (12, [.ref z0, .ref z1, .ref z2, .ref z3, .ref z4, .ref z5, .ref z20, .ref z21, .ref z22, .ref z23, .ref z24, .ref z25, .int 0, .ref z26, .ref z27, .ref z28, .int 9, .int 0, .int 0, .ref z6, .ref z29, .ref z7, .int 0, .int 2, .ref z19, .ref z8, .ref z9, .ref z10, .int 0, .ref z11, .int 0, .ref z30, .ref z31, .ref z32, .ref z33, .int 0, .ref z12, .int 0, .int 0, .ref z34, .ref z35, .ref z36, .ref z37, .int 0, .int 0, .int 0, .int 0, .ref z38, .int 0, .ref z39, .ref z40, .ref z41, .ref z42, .int 0, .ref z13, .ref z14, .ref z15, .ref z16, .int 0, .ref z17, .ref z18, .ref z43]))]) (w1 := []) hP hD [] [0] rfl rfl (by decide) (by decide) hk1 hFc wP_nil wD_nil
  clear hPc hDc
  generalize H1 = H at hP hS ⊢
  have hP : va_P D vwCl [(h0, .inr (12, [.ref z0, .ref z1, .ref z2, .ref z3, .ref z4, .ref z5, .ref z20, .ref z21, .ref z22, .ref z23, .ref z24, .ref z25, .int 0, .ref z26, .ref z27, .ref z28, .int 9, .int 0, .int 0, .ref z6, .ref z29, .ref z7, .int 0, .int 2, .ref z19, .ref z8, .ref z9, .ref z10, .int 0, .ref z11, .int 0, .ref z30, .ref z31, .ref z32, .ref z33, .int 0, .ref z12, .int 0, .int 0, .ref z34, .ref z35, .ref z36, .ref z37, .int 0, .int 0, .int 0, .int 0, .ref z38, .int 0, .ref z39, .ref z40, .ref z41, .ref z42, .int 0, .ref z13, .ref z14, .ref z15, .ref z16, .int 0, .ref z17, .ref z18, .ref z43]))] H := hP
  have hD : va_D A [(h0, .inr (12, [.ref z0, .ref z1, .ref z2, .ref z3, .ref z4, .ref z5, .ref z20, .ref z21, .ref z22, .ref z23, .ref z24, .ref z25, .int 0, .ref z26, .ref z27, .ref z28, .int 9, .int 0, .int 0, .ref z6, .ref z29, .ref z7, .int 0, .int 2, .ref z19, .ref z8, .ref z9, .ref z10, .int 0, .ref z11, .int 0, .ref z30, .ref z31, .ref z32, .ref z33, .int 0, .ref z12, .int 0, .int 0, .ref z34, .ref z35, .ref z36, .ref z37, .int 0, .int 0, .int 0, .int 0, .ref z38, .int 0, .ref z39, .ref z40, .ref z41, .ref z42, .int 0, .ref z13, .ref z14, .ref z15, .ref z16, .int 0, .ref z17, .ref z18, .ref z43]))] := hD
  subst hr2
  refine lv_idiv hx hb dX12_passAt_13 (by decide) ?_
  refine wk_i 1 (by decide) ?_
  refine lv_aload_n hx hb dX12_passAt_14 rfl (lv_at hl 0 rfl) ?_
  have hPc := hP.sub (ws' := [(h0, .inr (12, [.ref z0, .ref z1, .ref z2, .ref z3, .ref z4, .ref z5, .ref z20, .ref z21, .ref z22, .ref z23, .ref z24, .ref z25, .int 0, .ref z26, .ref z27, .ref z28, .int 9, .int 0, .int 0, .ref z6, .ref z29, .ref z7, .int 0, .int 2, .ref z19, .ref z8, .ref z9, .ref z10, .int 0, .ref z11, .int 0, .ref z30, .ref z31, .ref z32, .ref z33, .int 0, .ref z12, .int 0, .int 0, .ref z34, .ref z35, .ref z36, .ref z37, .int 0, .int 0, .int 0, .int 0, .ref z38, .int 0, .ref z39, .ref z40, .ref z41, .ref z42, .int 0, .ref z13, .ref z14, .ref z15, .ref z16, .int 0, .ref z17, .ref z18, .ref z43]))]) [0] rfl
  have hDc := hD.sub (ws' := [(h0, .inr (12, [.ref z0, .ref z1, .ref z2, .ref z3, .ref z4, .ref z5, .ref z20, .ref z21, .ref z22, .ref z23, .ref z24, .ref z25, .int 0, .ref z26, .ref z27, .ref z28, .int 9, .int 0, .int 0, .ref z6, .ref z29, .ref z7, .int 0, .int 2, .ref z19, .ref z8, .ref z9, .ref z10, .int 0, .ref z11, .int 0, .ref z30, .ref z31, .ref z32, .ref z33, .int 0, .ref z12, .int 0, .int 0, .ref z34, .ref z35, .ref z36, .ref z37, .int 0, .int 0, .int 0, .int 0, .ref z38, .int 0, .ref z39, .ref z40, .ref z41, .ref z42, .int 0, .ref z13, .ref z14, .ref z15, .ref z16, .int 0, .ref z17, .ref z18, .ref z43]))]) [0] (by decide) rfl
  have hFc := va_free (wc := [(h0, .inr (12, [.ref z0, .ref z1, .ref z2, .ref z3, .ref z4, .ref z5, .ref z20, .ref z21, .ref z22, .ref z23, .ref z24, .ref z25, .int 0, .ref z26, .ref z27, .ref z28, .int 9, .int 0, .int 0, .ref z6, .ref z29, .ref z7, .int 0, .int 2, .ref z19, .ref z8, .ref z9, .ref z10, .int 0, .ref z11, .int 0, .ref z30, .ref z31, .ref z32, .ref z33, .int 0, .ref z12, .int 0, .int 0, .ref z34, .ref z35, .ref z36, .ref z37, .int 0, .int 0, .int 0, .int 0, .ref z38, .int 0, .ref z39, .ref z40, .ref z41, .ref z42, .int 0, .ref z13, .ref z14, .ref z15, .ref z16, .int 0, .ref z17, .ref z18, .ref z43]))]) hD hS hA [0] rfl
  refine va_calli (va_runV (As := []) (rest := [.int 1]) ⟨hx, hb, hml, hown, hts⟩ (kX12_gens l D G h0 z0 z1 z2 z3 z4 z5 z20 z21 z22 z23 z24 z25 z26 z27 z28 z6 z29 z7 z19 z8 z9 z10 z11 z30 z31 z32 z33 z12 z34 z35 z36 z37 z38 z39 z40 z41 z42 z13 z14 z15 z16 z17 z18 z43 0 H.size) (cwV 0 hts gX12_passAt_X12_gens rfl rfl rfl (by decide +kernel) ⟨Nat.le_of_ble_eq_true rfl, Nat.le_of_ble_eq_true rfl⟩) ⟨wB_blind, va_recv hK hPc (ci := 12) (q0 := 0) rfl rfl, wB_pre hPc hK hDc hN⟩ rfl rfl hl.1 rfl (lv_room (Nat.le_of_ble_eq_true rfl)) dX12_passAt_15 ⟨Nat.le_of_ble_eq_true rfl, Nat.le_of_ble_eq_true rfl⟩) hS (fun q _ h => hFc q h) hFc (fun r3 u t H1 locs ht hvm hr3 hB hz1 hk1 hS => ?_)
  obtain ⟨hP1, hK1, hD1⟩ := hB
  rw [ht] at hP1
  obtain ⟨hP, hD⟩ := va_join (wr := []) (w1 := [(h0, .inr (12, [.ref z0, .ref z1, .ref z2, .ref z3, .ref z4, .ref z5, .ref z20, .ref z21, .ref z22, .ref z23, .ref z24, .ref z25, .int 0, .ref z26, .ref z27, .ref z28, .int 9, .int 0, .int 0, .ref z6, .ref z29, .ref z7, .int 0, .int 2, .ref z19, .ref z8, .ref z9, .ref z10, .int 0, .ref z11, .int 0, .ref z30, .ref z31, .ref z32, .ref z33, .int 0, .ref z12, .int 0, .int 0, .ref z34, .ref z35, .ref z36, .ref z37, .int 0, .int 0, .int 0, .int 0, .ref z38, .int 0, .ref z39, .ref z40, .ref z41, .ref z42, .int 0, .ref z13, .ref z14, .ref z15, .ref z16, .int 0, .ref z17, .ref z18, .ref z43]))]) hP hD [0] [] rfl rfl (by decide) (by decide) hk1 hFc hP1 hD1
  clear hPc hDc
  generalize H1 = H at hP hS ⊢
  have hP : va_P D vwCl [(h0, .inr (12, [.ref z0, .ref z1, .ref z2, .ref z3, .ref z4, .ref z5, .ref z20, .ref z21, .ref z22, .ref z23, .ref z24, .ref z25, .int 0, .ref z26, .ref z27, .ref z28, .int 9, .int 0, .int 0, .ref z6, .ref z29, .ref z7, .int 0, .int 2, .ref z19, .ref z8, .ref z9, .ref z10, .int 0, .ref z11, .int 0, .ref z30, .ref z31, .ref z32, .ref z33, .int 0, .ref z12, .int 0, .int 0, .ref z34, .ref z35, .ref z36, .ref z37, .int 0, .int 0, .int 0, .int 0, .ref z38, .int 0, .ref z39, .ref z40, .ref z41, .ref z42, .int 0, .ref z13, .ref z14, .ref z15, .ref z16, .int 0, .ref z17, .ref z18, .ref z43]))] H := hP
  have hD : va_D A [(h0, .inr (12, [.ref z0, .ref z1, .ref z2, .ref z3, .ref z4, .ref z5, .ref z20, .ref z21, .ref z22, .ref z23, .ref z24, .ref z25, .int 0, .ref z26, .ref z27, .ref z28, .int 9, .int 0, .int 0, .ref z6, .ref z29, .ref z7, .int 0, .int 2, .ref z19, .ref z8, .ref z9, .ref z10, .int 0, .ref z11, .int 0, .ref z30, .ref z31, .ref z32, .ref z33, .int 0, .ref z12, .int 0, .int 0, .ref z34, .ref z35, .ref z36, .ref z37, .int 0, .int 0, .int 0, .int 0, .ref z38, .int 0, .ref z39, .ref z40, .ref z41, .ref z42, .int 0, .ref z13, .ref z14, .ref z15, .ref z16, .int 0, .ref z17, .ref z18, .ref z43]))] := hD
  subst hr3
  refine lv_irem hx hb dX12_passAt_18 (by decide) ?_
  refine wk_i 1 (by decide) ?_
  have hPc := hP.sub (ws' := []) [] rfl
  have hDc := hD.sub (ws' := []) [] (by decide) rfl
  have hFc := va_free (wc := []) hD hS hA [] rfl
  refine va_calli (va_runS (As := [.int 1]) (rest := []) ⟨hx, hb, hml, hown, hts⟩ (kX12_passOf_1 l D G  H.size) (va_cwS 1 hts gX12_passAt_X12_passOf rfl rfl rfl (by decide +kernel) ⟨Nat.le_of_ble_eq_true rfl, Nat.le_of_ble_eq_true rfl⟩) ⟨wB_blind, wB_pre hPc hK hDc hN⟩ rfl rfl hl.1 rfl (lv_room (Nat.le_of_ble_eq_true rfl)) dX12_passAt_19 ⟨Nat.le_of_ble_eq_true rfl, Nat.le_of_ble_eq_true rfl⟩) hS (fun q _ h => hFc q h) hFc (fun r4 u t H1 locs ht hvm hr4 hB hz1 hk1 hS => ?_)
  obtain ⟨hP, hD⟩ := va_join (wr := [(h0, .inr (12, [.ref z0, .ref z1, .ref z2, .ref z3, .ref z4, .ref z5, .ref z20, .ref z21, .ref z22, .ref z23, .ref z24, .ref z25, .int 0, .ref z26, .ref z27, .ref z28, .int 9, .int 0, .int 0, .ref z6, .ref z29, .ref z7, .int 0, .int 2, .ref z19, .ref z8, .ref z9, .ref z10, .int 0, .ref z11, .int 0, .ref z30, .ref z31, .ref z32, .ref z33, .int 0, .ref z12, .int 0, .int 0, .ref z34, .ref z35, .ref z36, .ref z37, .int 0, .int 0, .int 0, .int 0, .ref z38, .int 0, .ref z39, .ref z40, .ref z41, .ref z42, .int 0, .ref z13, .ref z14, .ref z15, .ref z16, .int 0, .ref z17, .ref z18, .ref z43]))]) (w1 := []) hP hD [] [0] rfl rfl (by decide) (by decide) hk1 hFc wP_nil wD_nil
  clear hPc hDc
  generalize H1 = H at hP hS ⊢
  have hP : va_P D vwCl [(h0, .inr (12, [.ref z0, .ref z1, .ref z2, .ref z3, .ref z4, .ref z5, .ref z20, .ref z21, .ref z22, .ref z23, .ref z24, .ref z25, .int 0, .ref z26, .ref z27, .ref z28, .int 9, .int 0, .int 0, .ref z6, .ref z29, .ref z7, .int 0, .int 2, .ref z19, .ref z8, .ref z9, .ref z10, .int 0, .ref z11, .int 0, .ref z30, .ref z31, .ref z32, .ref z33, .int 0, .ref z12, .int 0, .int 0, .ref z34, .ref z35, .ref z36, .ref z37, .int 0, .int 0, .int 0, .int 0, .ref z38, .int 0, .ref z39, .ref z40, .ref z41, .ref z42, .int 0, .ref z13, .ref z14, .ref z15, .ref z16, .int 0, .ref z17, .ref z18, .ref z43]))] H := hP
  have hD : va_D A [(h0, .inr (12, [.ref z0, .ref z1, .ref z2, .ref z3, .ref z4, .ref z5, .ref z20, .ref z21, .ref z22, .ref z23, .ref z24, .ref z25, .int 0, .ref z26, .ref z27, .ref z28, .int 9, .int 0, .int 0, .ref z6, .ref z29, .ref z7, .int 0, .int 2, .ref z19, .ref z8, .ref z9, .ref z10, .int 0, .ref z11, .int 0, .ref z30, .ref z31, .ref z32, .ref z33, .int 0, .ref z12, .int 0, .int 0, .ref z34, .ref z35, .ref z36, .ref z37, .int 0, .int 0, .int 0, .int 0, .ref z38, .int 0, .ref z39, .ref z40, .ref z41, .ref z42, .int 0, .ref z13, .ref z14, .ref z15, .ref z16, .int 0, .ref z17, .ref z18, .ref z43]))] := hD
  subst hr4
  have hP9 := hP.sub (ws' := [(h0, .inr (12, [.ref z0, .ref z1, .ref z2, .ref z3, .ref z4, .ref z5, .ref z20, .ref z21, .ref z22, .ref z23, .ref z24, .ref z25, .int 0, .ref z26, .ref z27, .ref z28, .int 9, .int 0, .int 0, .ref z6, .ref z29, .ref z7, .int 0, .int 2, .ref z19, .ref z8, .ref z9, .ref z10, .int 0, .ref z11, .int 0, .ref z30, .ref z31, .ref z32, .ref z33, .int 0, .ref z12, .int 0, .int 0, .ref z34, .ref z35, .ref z36, .ref z37, .int 0, .int 0, .int 0, .int 0, .ref z38, .int 0, .ref z39, .ref z40, .ref z41, .ref z42, .int 0, .ref z13, .ref z14, .ref z15, .ref z16, .int 0, .ref z17, .ref z18, .ref z43]))]) [0] rfl
  have hD9 := hD.sub (ws' := [(h0, .inr (12, [.ref z0, .ref z1, .ref z2, .ref z3, .ref z4, .ref z5, .ref z20, .ref z21, .ref z22, .ref z23, .ref z24, .ref z25, .int 0, .ref z26, .ref z27, .ref z28, .int 9, .int 0, .int 0, .ref z6, .ref z29, .ref z7, .int 0, .int 2, .ref z19, .ref z8, .ref z9, .ref z10, .int 0, .ref z11, .int 0, .ref z30, .ref z31, .ref z32, .ref z33, .int 0, .ref z12, .int 0, .int 0, .ref z34, .ref z35, .ref z36, .ref z37, .int 0, .int 0, .int 0, .int 0, .ref z38, .int 0, .ref z39, .ref z40, .ref z41, .ref z42, .int 0, .ref z13, .ref z14, .ref z15, .ref z16, .int 0, .ref z17, .ref z18, .ref z43]))]) [0] (by decide) rfl
  exact W.iret (v := (-1)) hx hb hr (fun t ht hW => ⟨⟨(-1), (), rfl, rfl, ⟨by rw [ht]; exact hP9, va_K.moved hW.alike hK, hD9⟩⟩, hS.F ht⟩) hS.2.2 dX12_passAt_22

set_option maxHeartbeats 4000000 in
set_option maxRecDepth 100000 in
/-- X12_passAt -/
theorem kX12_passAt_2_3_1 (l : Launch) (D : va_G) (G : tyG) (h0 : Nat) (z0 : Nat) (z1 : Nat) (z2 : Nat) (z3 : Nat) (z4 : Nat) (z5 : Nat) (z20 : Nat) (z21 : Nat) (z22 : Nat) (z23 : Nat) (z24 : Nat) (z25 : Nat) (z26 : Nat) (z27 : Nat) (z28 : Nat) (z6 : Nat) (z29 : Nat) (z7 : Nat) (z19 : Nat) (z8 : Nat) (z9 : Nat) (z10 : Nat) (z11 : Nat) (z30 : Nat) (z31 : Nat) (z32 : Nat) (z33 : Nat) (z12 : Nat) (z34 : Nat) (z35 : Nat) (z36 : Nat) (z37 : Nat) (z38 : Nat) (z39 : Nat) (z40 : Nat) (z41 : Nat) (z42 : Nat) (z13 : Nat) (z14 : Nat) (z15 : Nat) (z16 : Nat) (z17 : Nat) (z18 : Nat) (z43 : Nat) (sz : Nat) : Met l yX12_passAt wsX12_passAt ({ frames := 1, cells := 0, slots := 0, locals := 23 }) (va_Pc [.ref h0, .int 3, .int 2, .int 1] (wB D G sz [(h0, .inr (12, [.ref z0, .ref z1, .ref z2, .ref z3, .ref z4, .ref z5, .ref z20, .ref z21, .ref z22, .ref z23, .ref z24, .ref z25, .int 0, .ref z26, .ref z27, .ref z28, .int 9, .int 0, .int 0, .ref z6, .ref z29, .ref z7, .int 0, .int 2, .ref z19, .ref z8, .ref z9, .ref z10, .int 0, .ref z11, .int 0, .ref z30, .ref z31, .ref z32, .ref z33, .int 0, .ref z12, .int 0, .int 0, .ref z34, .ref z35, .ref z36, .ref z37, .int 0, .int 0, .int 0, .int 0, .ref z38, .int 0, .ref z39, .ref z40, .ref z41, .ref z42, .int 0, .ref z13, .ref z14, .ref z15, .ref z16, .int 0, .ref z17, .ref z18, .ref z43]))])) (va_Qi (fun (r : Int32) (_ : Unit) => r = (-1)) (fun _ t => wS D G (va_A [(h0, .inr (12, [.ref z0, .ref z1, .ref z2, .ref z3, .ref z4, .ref z5, .ref z20, .ref z21, .ref z22, .ref z23, .ref z24, .ref z25, .int 0, .ref z26, .ref z27, .ref z28, .int 9, .int 0, .int 0, .ref z6, .ref z29, .ref z7, .int 0, .int 2, .ref z19, .ref z8, .ref z9, .ref z10, .int 0, .ref z11, .int 0, .ref z30, .ref z31, .ref z32, .ref z33, .int 0, .ref z12, .int 0, .int 0, .ref z34, .ref z35, .ref z36, .ref z37, .int 0, .int 0, .int 0, .int 0, .ref z38, .int 0, .ref z39, .ref z40, .ref z41, .ref z42, .int 0, .ref z13, .ref z14, .ref z15, .ref z16, .int 0, .ref z17, .ref z18, .ref z43]))] sz) [(h0, .inr (12, [.ref z0, .ref z1, .ref z2, .ref z3, .ref z4, .ref z5, .ref z20, .ref z21, .ref z22, .ref z23, .ref z24, .ref z25, .int 0, .ref z26, .ref z27, .ref z28, .int 9, .int 0, .int 0, .ref z6, .ref z29, .ref z7, .int 0, .int 2, .ref z19, .ref z8, .ref z9, .ref z10, .int 0, .ref z11, .int 0, .ref z30, .ref z31, .ref z32, .ref z33, .int 0, .ref z12, .int 0, .int 0, .ref z34, .ref z35, .ref z36, .ref z37, .int 0, .int 0, .int 0, .int 0, .ref z38, .int 0, .ref z39, .ref z40, .ref z41, .ref z42, .int 0, .ref z13, .ref z14, .ref z15, .ref z16, .int 0, .ref z17, .ref z18, .ref z43]))] t) (va_A [(h0, .inr (12, [.ref z0, .ref z1, .ref z2, .ref z3, .ref z4, .ref z5, .ref z20, .ref z21, .ref z22, .ref z23, .ref z24, .ref z25, .int 0, .ref z26, .ref z27, .ref z28, .int 9, .int 0, .int 0, .ref z6, .ref z29, .ref z7, .int 0, .int 2, .ref z19, .ref z8, .ref z9, .ref z10, .int 0, .ref z11, .int 0, .ref z30, .ref z31, .ref z32, .ref z33, .int 0, .ref z12, .int 0, .int 0, .ref z34, .ref z35, .ref z36, .ref z37, .int 0, .int 0, .int 0, .int 0, .ref z38, .int 0, .ref z39, .ref z40, .ref z41, .ref z42, .int 0, .ref z13, .ref z14, .ref z15, .ref z16, .int 0, .ref z17, .ref z18, .ref z43]))] sz)) 0 0 (va_A [(h0, .inr (12, [.ref z0, .ref z1, .ref z2, .ref z3, .ref z4, .ref z5, .ref z20, .ref z21, .ref z22, .ref z23, .ref z24, .ref z25, .int 0, .ref z26, .ref z27, .ref z28, .int 9, .int 0, .int 0, .ref z6, .ref z29, .ref z7, .int 0, .int 2, .ref z19, .ref z8, .ref z9, .ref z10, .int 0, .ref z11, .int 0, .ref z30, .ref z31, .ref z32, .ref z33, .int 0, .ref z12, .int 0, .int 0, .ref z34, .ref z35, .ref z36, .ref z37, .int 0, .int 0, .int 0, .int 0, .ref z38, .int 0, .ref z39, .ref z40, .ref z41, .ref z42, .int 0, .ref z13, .ref z14, .ref z15, .ref z16, .int 0, .ref z17, .ref z18, .ref z43]))] sz) := by
  refine Met.ofW (cc := cX12_passAt) (maxL := 4) (ret := (some .int)) (by decide) rfl ?_
  intro p e s m args below meth c s₁ B hml hv
  obtain ⟨rfl, hsz, hP, hK, hD0, hN⟩ := hv
  have hx := B.exec
  have hb := B.bytes
  have hr := B.returns
  have hts := atoms_spec (ws := wsX12_passAt) B.pre
  have hown : s.vm.findClass RX12 = some m.cls := findClass_of_methodNamed B.named
  have hlocks := B.notSynchronized
  subst hsz
  have hD := hD0.self (sz := s.heap.size)
  generalize hAe : va_A [(h0, .inr (12, [.ref z0, .ref z1, .ref z2, .ref z3, .ref z4, .ref z5, .ref z20, .ref z21, .ref z22, .ref z23, .ref z24, .ref z25, .int 0, .ref z26, .ref z27, .ref z28, .int 9, .int 0, .int 0, .ref z6, .ref z29, .ref z7, .int 0, .int 2, .ref z19, .ref z8, .ref z9, .ref z10, .int 0, .ref z11, .int 0, .ref z30, .ref z31, .ref z32, .ref z33, .int 0, .ref z12, .int 0, .int 0, .ref z34, .ref z35, .ref z36, .ref z37, .int 0, .int 0, .int 0, .int 0, .ref z38, .int 0, .ref z39, .ref z40, .ref z41, .ref z42, .int 0, .ref z13, .ref z14, .ref z15, .ref z16, .int 0, .ref z17, .ref z18, .ref z43]))] s.heap.size = A at hD ⊢
  have hA : ∀ q : Nat, s.heap.size ≤ q → A q := fun q h => by rw [← hAe]; exact Or.inr h
  have hS : va_S A s.heap s.heap [] := va_S.rf
  have hP : va_P D vwCl [(h0, .inr (12, [.ref z0, .ref z1, .ref z2, .ref z3, .ref z4, .ref z5, .ref z20, .ref z21, .ref z22, .ref z23, .ref z24, .ref z25, .int 0, .ref z26, .ref z27, .ref z28, .int 9, .int 0, .int 0, .ref z6, .ref z29, .ref z7, .int 0, .int 2, .ref z19, .ref z8, .ref z9, .ref z10, .int 0, .ref z11, .int 0, .ref z30, .ref z31, .ref z32, .ref z33, .int 0, .ref z12, .int 0, .int 0, .ref z34, .ref z35, .ref z36, .ref z37, .int 0, .int 0, .int 0, .int 0, .ref z38, .int 0, .ref z39, .ref z40, .ref z41, .ref z42, .int 0, .ref z13, .ref z14, .ref z15, .ref z16, .int 0, .ref z17, .ref z18, .ref z43]))] s.heap := hP
  have hl := lv_entry ([.ref h0, .int 3, .int 2, .int 1]) (n := 4) (Nat.le_of_ble_eq_true rfl)
  rw [lg_entry_eq]
  generalize (lg_sl ([.ref h0, .int 3, .int 2, .int 1]) ++ List.replicate (4 - (lg_sl ([.ref h0, .int 3, .int 2, .int 1])).length) Slot.unset).toArray = ls at hl ⊢
  have hl : lv_has ls 4 [(0, .ref h0), (1, .int 3), (2, .int 2), (3, .int 1)] := hl
  refine lv_iload_n hx hb dX12_passAt_0 rfl (lv_at hl 1 rfl) ?_
  refine lv_aload_n hx hb dX12_passAt_1 rfl (lv_at hl 0 rfl) ?_
  have hPc := hP.sub (ws' := [(h0, .inr (12, [.ref z0, .ref z1, .ref z2, .ref z3, .ref z4, .ref z5, .ref z20, .ref z21, .ref z22, .ref z23, .ref z24, .ref z25, .int 0, .ref z26, .ref z27, .ref z28, .int 9, .int 0, .int 0, .ref z6, .ref z29, .ref z7, .int 0, .int 2, .ref z19, .ref z8, .ref z9, .ref z10, .int 0, .ref z11, .int 0, .ref z30, .ref z31, .ref z32, .ref z33, .int 0, .ref z12, .int 0, .int 0, .ref z34, .ref z35, .ref z36, .ref z37, .int 0, .int 0, .int 0, .int 0, .ref z38, .int 0, .ref z39, .ref z40, .ref z41, .ref z42, .int 0, .ref z13, .ref z14, .ref z15, .ref z16, .int 0, .ref z17, .ref z18, .ref z43]))]) [0] rfl
  have hDc := hD.sub (ws' := [(h0, .inr (12, [.ref z0, .ref z1, .ref z2, .ref z3, .ref z4, .ref z5, .ref z20, .ref z21, .ref z22, .ref z23, .ref z24, .ref z25, .int 0, .ref z26, .ref z27, .ref z28, .int 9, .int 0, .int 0, .ref z6, .ref z29, .ref z7, .int 0, .int 2, .ref z19, .ref z8, .ref z9, .ref z10, .int 0, .ref z11, .int 0, .ref z30, .ref z31, .ref z32, .ref z33, .int 0, .ref z12, .int 0, .int 0, .ref z34, .ref z35, .ref z36, .ref z37, .int 0, .int 0, .int 0, .int 0, .ref z38, .int 0, .ref z39, .ref z40, .ref z41, .ref z42, .int 0, .ref z13, .ref z14, .ref z15, .ref z16, .int 0, .ref z17, .ref z18, .ref z43]))]) [0] (by decide) rfl
  have hFc := va_free (wc := [(h0, .inr (12, [.ref z0, .ref z1, .ref z2, .ref z3, .ref z4, .ref z5, .ref z20, .ref z21, .ref z22, .ref z23, .ref z24, .ref z25, .int 0, .ref z26, .ref z27, .ref z28, .int 9, .int 0, .int 0, .ref z6, .ref z29, .ref z7, .int 0, .int 2, .ref z19, .ref z8, .ref z9, .ref z10, .int 0, .ref z11, .int 0, .ref z30, .ref z31, .ref z32, .ref z33, .int 0, .ref z12, .int 0, .int 0, .ref z34, .ref z35, .ref z36, .ref z37, .int 0, .int 0, .int 0, .int 0, .ref z38, .int 0, .ref z39, .ref z40, .ref z41, .ref z42, .int 0, .ref z13, .ref z14, .ref z15, .ref z16, .int 0, .ref z17, .ref z18, .ref z43]))]) hD hS hA [0] rfl
  refine va_calli (va_runV (As := []) (rest := [.int 3]) ⟨hx, hb, hml, hown, hts⟩ (kX12_gens l D G h0 z0 z1 z2 z3 z4 z5 z20 z21 z22 z23 z24 z25 z26 z27 z28 z6 z29 z7 z19 z8 z9 z10 z11 z30 z31 z32 z33 z12 z34 z35 z36 z37 z38 z39 z40 z41 z42 z13 z14 z15 z16 z17 z18 z43 0 s.heap.size) (cwV 0 hts gX12_passAt_X12_gens rfl rfl rfl (by decide +kernel) ⟨Nat.le_of_ble_eq_true rfl, Nat.le_of_ble_eq_true rfl⟩) ⟨wB_blind, va_recv hK hPc (ci := 12) (q0 := 0) rfl rfl, wB_pre hPc hK hDc hN⟩ rfl rfl hl.1 rfl (lv_room (Nat.le_of_ble_eq_true rfl)) dX12_passAt_2 ⟨Nat.le_of_ble_eq_true rfl, Nat.le_of_ble_eq_true rfl⟩) hS (fun q _ h => hFc q h) hFc (fun r1 u t H1 locs ht hvm hr1 hB hz1 hk1 hS => ?_)
  obtain ⟨hP1, hK1, hD1⟩ := hB
  rw [ht] at hP1
  obtain ⟨hP, hD⟩ := va_join (wr := []) (w1 := [(h0, .inr (12, [.ref z0, .ref z1, .ref z2, .ref z3, .ref z4, .ref z5, .ref z20, .ref z21, .ref z22, .ref z23, .ref z24, .ref z25, .int 0, .ref z26, .ref z27, .ref z28, .int 9, .int 0, .int 0, .ref z6, .ref z29, .ref z7, .int 0, .int 2, .ref z19, .ref z8, .ref z9, .ref z10, .int 0, .ref z11, .int 0, .ref z30, .ref z31, .ref z32, .ref z33, .int 0, .ref z12, .int 0, .int 0, .ref z34, .ref z35, .ref z36, .ref z37, .int 0, .int 0, .int 0, .int 0, .ref z38, .int 0, .ref z39, .ref z40, .ref z41, .ref z42, .int 0, .ref z13, .ref z14, .ref z15, .ref z16, .int 0, .ref z17, .ref z18, .ref z43]))]) hP hD [0] [] rfl rfl (by decide) (by decide) hk1 hFc hP1 hD1
  clear hPc hDc
  generalize H1 = H at hP hS ⊢
  have hP : va_P D vwCl [(h0, .inr (12, [.ref z0, .ref z1, .ref z2, .ref z3, .ref z4, .ref z5, .ref z20, .ref z21, .ref z22, .ref z23, .ref z24, .ref z25, .int 0, .ref z26, .ref z27, .ref z28, .int 9, .int 0, .int 0, .ref z6, .ref z29, .ref z7, .int 0, .int 2, .ref z19, .ref z8, .ref z9, .ref z10, .int 0, .ref z11, .int 0, .ref z30, .ref z31, .ref z32, .ref z33, .int 0, .ref z12, .int 0, .int 0, .ref z34, .ref z35, .ref z36, .ref z37, .int 0, .int 0, .int 0, .int 0, .ref z38, .int 0, .ref z39, .ref z40, .ref z41, .ref z42, .int 0, .ref z13, .ref z14, .ref z15, .ref z16, .int 0, .ref z17, .ref z18, .ref z43]))] H := hP
  have hD : va_D A [(h0, .inr (12, [.ref z0, .ref z1, .ref z2, .ref z3, .ref z4, .ref z5, .ref z20, .ref z21, .ref z22, .ref z23, .ref z24, .ref z25, .int 0, .ref z26, .ref z27, .ref z28, .int 9, .int 0, .int 0, .ref z6, .ref z29, .ref z7, .int 0, .int 2, .ref z19, .ref z8, .ref z9, .ref z10, .int 0, .ref z11, .int 0, .ref z30, .ref z31, .ref z32, .ref z33, .int 0, .ref z12, .int 0, .int 0, .ref z34, .ref z35, .ref z36, .ref z37, .int 0, .int 0, .int 0, .int 0, .ref z38, .int 0, .ref z39, .ref z40, .ref z41, .ref z42, .int 0, .ref z13, .ref z14, .ref z15, .ref z16, .int 0, .ref z17, .ref z18, .ref z43]))] := hD
  subst hr1
  refine lv_iload_n hx hb dX12_passAt_5 rfl (lv_at hl 2 rfl) ?_
  refine lv_iconst (v := 1) hx hb dX12_passAt_6 (by decide) ?_
  refine lv_isub hx hb dX12_passAt_7 ?_
  refine wk_i 1 (by decide) ?_
  refine lv_iload_n hx hb dX12_passAt_8 rfl (lv_at hl 3 rfl) ?_
  refine lv_isub hx hb dX12_passAt_9 ?_
  refine wk_i 0 (by decide) ?_
  have hPc := hP.sub (ws' := []) [] rfl
  have hDc := hD.sub (ws' := []) [] (by decide) rfl
  have hFc := va_free (wc := []) hD hS hA [] rfl
  refine va_calli (va_runS (As := [.int 2, .int 0]) (rest := [.int 3]) ⟨hx, hb, hml, hown, hts⟩ (kX12_power_0 l D G  H.size) (va_cwS 2 hts gX12_passAt_X12_power rfl rfl rfl (by decide +kernel) ⟨Nat.le_of_ble_eq_true rfl, Nat.le_of_ble_eq_true rfl⟩) ⟨wB_blind, wB_pre hPc hK hDc hN⟩ rfl rfl hl.1 rfl (lv_room (Nat.le_of_ble_eq_true rfl)) dX12_passAt_10 ⟨Nat.le_of_ble_eq_true rfl, Nat.le_of_ble_eq_true rfl⟩) hS (fun q _ h => hFc q h) hFc (fun r2 u t H1 locs ht hvm hr2 hB hz1 hk1 hS => ?_)
  obtain ⟨hP, hD⟩ := va_join (wr := [(h0, .inr (12, [.ref z0, .ref z1, .ref z2, .ref z3, .ref z4, .ref z5, .ref z20, .ref z21, .ref z22, .ref z23, .ref z24, .ref z25, .int 0, .ref z26, .ref z27, .ref z28, .int 9, .int 0, .int 0, .ref z6, .ref z29, .ref z7, .int 0, .int 2, .ref z19, .ref z8, .ref z9, .ref z10, .int 0, .ref z11, .int 0, .ref z30, .ref z31, .ref z32, .ref z33, .int 0, .ref z12, .int 0, .int 0, .ref z34, .ref z35, .ref z36, .ref z37, .int 0, .int 0, .int 0, .int 0, .ref z38, .int 0, .ref z39, .ref z40, .ref z41, .ref z42, .int 0, .ref z13, .ref z14, .ref z15, .ref z16, .int 0, .ref z17, .ref z18, .ref z43]))]) (w1 := []) hP hD [] [0] rfl rfl (by decide) (by decide) hk1 hFc wP_nil wD_nil
  clear hPc hDc
  generalize H1 = H at hP hS ⊢
  have hP : va_P D vwCl [(h0, .inr (12, [.ref z0, .ref z1, .ref z2, .ref z3, .ref z4, .ref z5, .ref z20, .ref z21, .ref z22, .ref z23, .ref z24, .ref z25, .int 0, .ref z26, .ref z27, .ref z28, .int 9, .int 0, .int 0, .ref z6, .ref z29, .ref z7, .int 0, .int 2, .ref z19, .ref z8, .ref z9, .ref z10, .int 0, .ref z11, .int 0, .ref z30, .ref z31, .ref z32, .ref z33, .int 0, .ref z12, .int 0, .int 0, .ref z34, .ref z35, .ref z36, .ref z37, .int 0, .int 0, .int 0, .int 0, .ref z38, .int 0, .ref z39, .ref z40, .ref z41, .ref z42, .int 0, .ref z13, .ref z14, .ref z15, .ref z16, .int 0, .ref z17, .ref z18, .ref z43]))] H := hP
  have hD : va_D A [(h0, .inr (12, [.ref z0, .ref z1, .ref z2, .ref z3, .ref z4, .ref z5, .ref z20, .ref z21, .ref z22, .ref z23, .ref z24, .ref z25, .int 0, .ref z26, .ref z27, .ref z28, .int 9, .int 0, .int 0, .ref z6, .ref z29, .ref z7, .int 0, .int 2, .ref z19, .ref z8, .ref z9, .ref z10, .int 0, .ref z11, .int 0, .ref z30, .ref z31, .ref z32, .ref z33, .int 0, .ref z12, .int 0, .int 0, .ref z34, .ref z35, .ref z36, .ref z37, .int 0, .int 0, .int 0, .int 0, .ref z38, .int 0, .ref z39, .ref z40, .ref z41, .ref z42, .int 0, .ref z13, .ref z14, .ref z15, .ref z16, .int 0, .ref z17, .ref z18, .ref z43]))] := hD
  subst hr2
  refine lv_idiv hx hb dX12_passAt_13 (by decide) ?_
  refine wk_i 3 (by decide) ?_
  refine lv_aload_n hx hb dX12_passAt_14 rfl (lv_at hl 0 rfl) ?_
  have hPc := hP.sub (ws' := [(h0, .inr (12, [.ref z0, .ref z1, .ref z2, .ref z3, .ref z4, .ref z5, .ref z20, .ref z21, .ref z22, .ref z23, .ref z24, .ref z25, .int 0, .ref z26, .ref z27, .ref z28, .int 9, .int 0, .int 0, .ref z6, .ref z29, .ref z7, .int 0, .int 2, .ref z19, .ref z8, .ref z9, .ref z10, .int 0, .ref z11, .int 0, .ref z30, .ref z31, .ref z32, .ref z33, .int 0, .ref z12, .int 0, .int 0, .ref z34, .ref z35, .ref z36, .ref z37, .int 0, .int 0, .int 0, .int 0, .ref z38, .int 0, .ref z39, .ref z40, .ref z41, .ref z42, .int 0, .ref z13, .ref z14, .ref z15, .ref z16, .int 0, .ref z17, .ref z18, .ref z43]))]) [0] rfl
  have hDc := hD.sub (ws' := [(h0, .inr (12, [.ref z0, .ref z1, .ref z2, .ref z3, .ref z4, .ref z5, .ref z20, .ref z21, .ref z22, .ref z23, .ref z24, .ref z25, .int 0, .ref z26, .ref z27, .ref z28, .int 9, .int 0, .int 0, .ref z6, .ref z29, .ref z7, .int 0, .int 2, .ref z19, .ref z8, .ref z9, .ref z10, .int 0, .ref z11, .int 0, .ref z30, .ref z31, .ref z32, .ref z33, .int 0, .ref z12, .int 0, .int 0, .ref z34, .ref z35, .ref z36, .ref z37, .int 0, .int 0, .int 0, .int 0, .ref z38, .int 0, .ref z39, .ref z40, .ref z41, .ref z42, .int 0, .ref z13, .ref z14, .ref z15, .ref z16, .int 0, .ref z17, .ref z18, .ref z43]))]) [0] (by decide) rfl
  have hFc := va_free (wc := [(h0, .inr (12, [.ref z0, .ref z1, .ref z2, .ref z3, .ref z4, .ref z5, .ref z20, .ref z21, .ref z22, .ref z23, .ref z24, .ref z25, .int 0, .ref z26, .ref z27, .ref z28, .int 9, .int 0, .int 0, .ref z6, .ref z29, .ref z7, .int 0, .int 2, .ref z19, .ref z8, .ref z9, .ref z10, .int 0, .ref z11, .int 0, .ref z30, .ref z31, .ref z32, .ref z33, .int 0, .ref z12, .int 0, .int 0, .ref z34, .ref z35, .ref z36, .ref z37, .int 0, .int 0, .int 0, .int 0, .ref z38, .int 0, .ref z39, .ref z40, .ref z41, .ref z42, .int 0, .ref z13, .ref z14, .ref z15, .ref z16, .int 0, .ref z17, .ref z18, .ref z43]))]) hD hS hA [0] rfl
  refine va_calli (va_runV (As := []) (rest := [.int 3]) ⟨hx, hb, hml, hown, hts⟩ (kX12_gens l D G h0 z0 z1 z2 z3 z4 z5 z20 z21 z22 z23 z24 z25 z26 z27 z28 z6 z29 z7 z19 z8 z9 z10 z11 z30 z31 z32 z33 z12 z34 z35 z36 z37 z38 z39 z40 z41 z42 z13 z14 z15 z16 z17 z18 z43 0 H.size) (cwV 0 hts gX12_passAt_X12_gens rfl rfl rfl (by decide +kernel) ⟨Nat.le_of_ble_eq_true rfl, Nat.le_of_ble_eq_true rfl⟩) ⟨wB_blind, va_recv hK hPc (ci := 12) (q0 := 0) rfl rfl, wB_pre hPc hK hDc hN⟩ rfl rfl hl.1 rfl (lv_room (Nat.le_of_ble_eq_true rfl)) dX12_passAt_15 ⟨Nat.le_of_ble_eq_true rfl, Nat.le_of_ble_eq_true rfl⟩) hS (fun q _ h => hFc q h) hFc (fun r3 u t H1 locs ht hvm hr3 hB hz1 hk1 hS => ?_)
  obtain ⟨hP1, hK1, hD1⟩ := hB
  rw [ht] at hP1
  obtain ⟨hP, hD⟩ := va_join (wr := []) (w1 := [(h0, .inr (12, [.ref z0, .ref z1, .ref z2, .ref z3, .ref z4, .ref z5, .ref z20, .ref z21, .ref z22, .ref z23, .ref z24, .ref z25, .int 0, .ref z26, .ref z27, .ref z28, .int 9, .int 0, .int 0, .ref z6, .ref z29, .ref z7, .int 0, .int 2, .ref z19, .ref z8, .ref z9, .ref z10, .int 0, .ref z11, .int 0, .ref z30, .ref z31, .ref z32, .ref z33, .int 0, .ref z12, .int 0, .int 0, .ref z34, .ref z35, .ref z36, .ref z37, .int 0, .int 0, .int 0, .int 0, .ref z38, .int 0, .ref z39, .ref z40, .ref z41, .ref z42, .int 0, .ref z13, .ref z14, .ref z15, .ref z16, .int 0, .ref z17, .ref z18, .ref z43]))]) hP hD [0] [] rfl rfl (by decide) (by decide) hk1 hFc hP1 hD1
  clear hPc hDc
  generalize H1 = H at hP hS ⊢
  have hP : va_P D vwCl [(h0, .inr (12, [.ref z0, .ref z1, .ref z2, .ref z3, .ref z4, .ref z5, .ref z20, .ref z21, .ref z22, .ref z23, .ref z24, .ref z25, .int 0, .ref z26, .ref z27, .ref z28, .int 9, .int 0, .int 0, .ref z6, .ref z29, .ref z7, .int 0, .int 2, .ref z19, .ref z8, .ref z9, .ref z10, .int 0, .ref z11, .int 0, .ref z30, .ref z31, .ref z32, .ref z33, .int 0, .ref z12, .int 0, .int 0, .ref z34, .ref z35, .ref z36, .ref z37, .int 0, .int 0, .int 0, .int 0, .ref z38, .int 0, .ref z39, .ref z40, .ref z41, .ref z42, .int 0, .ref z13, .ref z14, .ref z15, .ref z16, .int 0, .ref z17, .ref z18, .ref z43]))] H := hP
  have hD : va_D A [(h0, .inr (12, [.ref z0, .ref z1, .ref z2, .ref z3, .ref z4, .ref z5, .ref z20, .ref z21, .ref z22, .ref z23, .ref z24, .ref z25, .int 0, .ref z26, .ref z27, .ref z28, .int 9, .int 0, .int 0, .ref z6, .ref z29, .ref z7, .int 0, .int 2, .ref z19, .ref z8, .ref z9, .ref z10, .int 0, .ref z11, .int 0, .ref z30, .ref z31, .ref z32, .ref z33, .int 0, .ref z12, .int 0, .int 0, .ref z34, .ref z35, .ref z36, .ref z37, .int 0, .int 0, .int 0, .int 0, .ref z38, .int 0, .ref z39, .ref z40, .ref z41, .ref z42, .int 0, .ref z13, .ref z14, .ref z15, .ref z16, .int 0, .ref z17, .ref z18, .ref z43]))] := hD
  subst hr3
  refine lv_irem hx hb dX12_passAt_18 (by decide) ?_
  refine wk_i 1 (by decide) ?_
  have hPc := hP.sub (ws' := []) [] rfl
  have hDc := hD.sub (ws' := []) [] (by decide) rfl
  have hFc := va_free (wc := []) hD hS hA [] rfl
  refine va_calli (va_runS (As := [.int 1]) (rest := []) ⟨hx, hb, hml, hown, hts⟩ (kX12_passOf_1 l D G  H.size) (va_cwS 1 hts gX12_passAt_X12_passOf rfl rfl rfl (by decide +kernel) ⟨Nat.le_of_ble_eq_true rfl, Nat.le_of_ble_eq_true rfl⟩) ⟨wB_blind, wB_pre hPc hK hDc hN⟩ rfl rfl hl.1 rfl (lv_room (Nat.le_of_ble_eq_true rfl)) dX12_passAt_19 ⟨Nat.le_of_ble_eq_true rfl, Nat.le_of_ble_eq_true rfl⟩) hS (fun q _ h => hFc q h) hFc (fun r4 u t H1 locs ht hvm hr4 hB hz1 hk1 hS => ?_)
  obtain ⟨hP, hD⟩ := va_join (wr := [(h0, .inr (12, [.ref z0, .ref z1, .ref z2, .ref z3, .ref z4, .ref z5, .ref z20, .ref z21, .ref z22, .ref z23, .ref z24, .ref z25, .int 0, .ref z26, .ref z27, .ref z28, .int 9, .int 0, .int 0, .ref z6, .ref z29, .ref z7, .int 0, .int 2, .ref z19, .ref z8, .ref z9, .ref z10, .int 0, .ref z11, .int 0, .ref z30, .ref z31, .ref z32, .ref z33, .int 0, .ref z12, .int 0, .int 0, .ref z34, .ref z35, .ref z36, .ref z37, .int 0, .int 0, .int 0, .int 0, .ref z38, .int 0, .ref z39, .ref z40, .ref z41, .ref z42, .int 0, .ref z13, .ref z14, .ref z15, .ref z16, .int 0, .ref z17, .ref z18, .ref z43]))]) (w1 := []) hP hD [] [0] rfl rfl (by decide) (by decide) hk1 hFc wP_nil wD_nil
  clear hPc hDc
  generalize H1 = H at hP hS ⊢
  have hP : va_P D vwCl [(h0, .inr (12, [.ref z0, .ref z1, .ref z2, .ref z3, .ref z4, .ref z5, .ref z20, .ref z21, .ref z22, .ref z23, .ref z24, .ref z25, .int 0, .ref z26, .ref z27, .ref z28, .int 9, .int 0, .int 0, .ref z6, .ref z29, .ref z7, .int 0, .int 2, .ref z19, .ref z8, .ref z9, .ref z10, .int 0, .ref z11, .int 0, .ref z30, .ref z31, .ref z32, .ref z33, .int 0, .ref z12, .int 0, .int 0, .ref z34, .ref z35, .ref z36, .ref z37, .int 0, .int 0, .int 0, .int 0, .ref z38, .int 0, .ref z39, .ref z40, .ref z41, .ref z42, .int 0, .ref z13, .ref z14, .ref z15, .ref z16, .int 0, .ref z17, .ref z18, .ref z43]))] H := hP
  have hD : va_D A [(h0, .inr (12, [.ref z0, .ref z1, .ref z2, .ref z3, .ref z4, .ref z5, .ref z20, .ref z21, .ref z22, .ref z23, .ref z24, .ref z25, .int 0, .ref z26, .ref z27, .ref z28, .int 9, .int 0, .int 0, .ref z6, .ref z29, .ref z7, .int 0, .int 2, .ref z19, .ref z8, .ref z9, .ref z10, .int 0, .ref z11, .int 0, .ref z30, .ref z31, .ref z32, .ref z33, .int 0, .ref z12, .int 0, .int 0, .ref z34, .ref z35, .ref z36, .ref z37, .int 0, .int 0, .int 0, .int 0, .ref z38, .int 0, .ref z39, .ref z40, .ref z41, .ref z42, .int 0, .ref z13, .ref z14, .ref z15, .ref z16, .int 0, .ref z17, .ref z18, .ref z43]))] := hD
  subst hr4
  have hP9 := hP.sub (ws' := [(h0, .inr (12, [.ref z0, .ref z1, .ref z2, .ref z3, .ref z4, .ref z5, .ref z20, .ref z21, .ref z22, .ref z23, .ref z24, .ref z25, .int 0, .ref z26, .ref z27, .ref z28, .int 9, .int 0, .int 0, .ref z6, .ref z29, .ref z7, .int 0, .int 2, .ref z19, .ref z8, .ref z9, .ref z10, .int 0, .ref z11, .int 0, .ref z30, .ref z31, .ref z32, .ref z33, .int 0, .ref z12, .int 0, .int 0, .ref z34, .ref z35, .ref z36, .ref z37, .int 0, .int 0, .int 0, .int 0, .ref z38, .int 0, .ref z39, .ref z40, .ref z41, .ref z42, .int 0, .ref z13, .ref z14, .ref z15, .ref z16, .int 0, .ref z17, .ref z18, .ref z43]))]) [0] rfl
  have hD9 := hD.sub (ws' := [(h0, .inr (12, [.ref z0, .ref z1, .ref z2, .ref z3, .ref z4, .ref z5, .ref z20, .ref z21, .ref z22, .ref z23, .ref z24, .ref z25, .int 0, .ref z26, .ref z27, .ref z28, .int 9, .int 0, .int 0, .ref z6, .ref z29, .ref z7, .int 0, .int 2, .ref z19, .ref z8, .ref z9, .ref z10, .int 0, .ref z11, .int 0, .ref z30, .ref z31, .ref z32, .ref z33, .int 0, .ref z12, .int 0, .int 0, .ref z34, .ref z35, .ref z36, .ref z37, .int 0, .int 0, .int 0, .int 0, .ref z38, .int 0, .ref z39, .ref z40, .ref z41, .ref z42, .int 0, .ref z13, .ref z14, .ref z15, .ref z16, .int 0, .ref z17, .ref z18, .ref z43]))]) [0] (by decide) rfl
  exact W.iret (v := (-1)) hx hb hr (fun t ht hW => ⟨⟨(-1), (), rfl, rfl, ⟨by rw [ht]; exact hP9, va_K.moved hW.alike hK, hD9⟩⟩, hS.F ht⟩) hS.2.2 dX12_passAt_22

set_option maxHeartbeats 4000000 in
set_option maxRecDepth 100000 in
/-- X12_passAt -/
theorem kX12_passAt_3_0_0 (l : Launch) (D : va_G) (G : tyG) (h0 : Nat) (z0 : Nat) (z1 : Nat) (z2 : Nat) (z3 : Nat) (z4 : Nat) (z5 : Nat) (z20 : Nat) (z21 : Nat) (z22 : Nat) (z23 : Nat) (z24 : Nat) (z25 : Nat) (z26 : Nat) (z27 : Nat) (z28 : Nat) (z6 : Nat) (z29 : Nat) (z7 : Nat) (z19 : Nat) (z8 : Nat) (z9 : Nat) (z10 : Nat) (z11 : Nat) (z30 : Nat) (z31 : Nat) (z32 : Nat) (z33 : Nat) (z12 : Nat) (z34 : Nat) (z35 : Nat) (z36 : Nat) (z37 : Nat) (z38 : Nat) (z39 : Nat) (z40 : Nat) (z41 : Nat) (z42 : Nat) (z13 : Nat) (z14 : Nat) (z15 : Nat) (z16 : Nat) (z17 : Nat) (z18 : Nat) (z43 : Nat) (sz : Nat) : Met l yX12_passAt wsX12_passAt ({ frames := 1, cells := 0, slots := 0, locals := 23 }) (va_Pc [.ref h0, .int 0, .int 3, .int 0] (wB D G sz [(h0, .inr (12, [.ref z0, .ref z1, .ref z2, .ref z3, .ref z4, .ref z5, .ref z20, .ref z21, .ref z22, .ref z23, .ref z24, .ref z25, .int 0, .ref z26, .ref z27, .ref z28, .int 9, .int 0, .int 0, .ref z6, .ref z29, .ref z7, .int 0, .int 2, .ref z19, .ref z8, .ref z9, .ref z10, .int 0, .ref z11, .int 0, .ref z30, .ref z31, .ref z32, .ref z33, .int 0, .ref z12, .int 0, .int 0, .ref z34, .ref z35, .ref z36, .ref z37, .int 0, .int 0, .int 0, .int 0, .ref z38, .int 0, .ref z39, .ref z40, .ref z41, .ref z42, .int 0, .ref z13, .ref z14, .ref z15, .ref z16, .int 0, .ref z17, .ref z18, .ref z43]))])) (va_Qi (fun (r : Int32) (_ : Unit) => r = 1) (fun _ t => wS D G (va_A [(h0, .inr (12, [.ref z0, .ref z1, .ref z2, .ref z3, .ref z4, .ref z5, .ref z20, .ref z21, .ref z22, .ref z23, .ref z24, .ref z25, .int 0, .ref z26, .ref z27, .ref z28, .int 9, .int 0, .int 0, .ref z6, .ref z29, .ref z7, .int 0, .int 2, .ref z19, .ref z8, .ref z9, .ref z10, .int 0, .ref z11, .int 0, .ref z30, .ref z31, .ref z32, .ref z33, .int 0, .ref z12, .int 0, .int 0, .ref z34, .ref z35, .ref z36, .ref z37, .int 0, .int 0, .int 0, .int 0, .ref z38, .int 0, .ref z39, .ref z40, .ref z41, .ref z42, .int 0, .ref z13, .ref z14, .ref z15, .ref z16, .int 0, .ref z17, .ref z18, .ref z43]))] sz) [(h0, .inr (12, [.ref z0, .ref z1, .ref z2, .ref z3, .ref z4, .ref z5, .ref z20, .ref z21, .ref z22, .ref z23, .ref z24, .ref z25, .int 0, .ref z26, .ref z27, .ref z28, .int 9, .int 0, .int 0, .ref z6, .ref z29, .ref z7, .int 0, .int 2, .ref z19, .ref z8, .ref z9, .ref z10, .int 0, .ref z11, .int 0, .ref z30, .ref z31, .ref z32, .ref z33, .int 0, .ref z12, .int 0, .int 0, .ref z34, .ref z35, .ref z36, .ref z37, .int 0, .int 0, .int 0, .int 0, .ref z38, .int 0, .ref z39, .ref z40, .ref z41, .ref z42, .int 0, .ref z13, .ref z14, .ref z15, .ref z16, .int 0, .ref z17, .ref z18, .ref z43]))] t) (va_A [(h0, .inr (12, [.ref z0, .ref z1, .ref z2, .ref z3, .ref z4, .ref z5, .ref z20, .ref z21, .ref z22, .ref z23, .ref z24, .ref z25, .int 0, .ref z26, .ref z27, .ref z28, .int 9, .int 0, .int 0, .ref z6, .ref z29, .ref z7, .int 0, .int 2, .ref z19, .ref z8, .ref z9, .ref z10, .int 0, .ref z11, .int 0, .ref z30, .ref z31, .ref z32, .ref z33, .int 0, .ref z12, .int 0, .int 0, .ref z34, .ref z35, .ref z36, .ref z37, .int 0, .int 0, .int 0, .int 0, .ref z38, .int 0, .ref z39, .ref z40, .ref z41, .ref z42, .int 0, .ref z13, .ref z14, .ref z15, .ref z16, .int 0, .ref z17, .ref z18, .ref z43]))] sz)) 0 0 (va_A [(h0, .inr (12, [.ref z0, .ref z1, .ref z2, .ref z3, .ref z4, .ref z5, .ref z20, .ref z21, .ref z22, .ref z23, .ref z24, .ref z25, .int 0, .ref z26, .ref z27, .ref z28, .int 9, .int 0, .int 0, .ref z6, .ref z29, .ref z7, .int 0, .int 2, .ref z19, .ref z8, .ref z9, .ref z10, .int 0, .ref z11, .int 0, .ref z30, .ref z31, .ref z32, .ref z33, .int 0, .ref z12, .int 0, .int 0, .ref z34, .ref z35, .ref z36, .ref z37, .int 0, .int 0, .int 0, .int 0, .ref z38, .int 0, .ref z39, .ref z40, .ref z41, .ref z42, .int 0, .ref z13, .ref z14, .ref z15, .ref z16, .int 0, .ref z17, .ref z18, .ref z43]))] sz) := by
  refine Met.ofW (cc := cX12_passAt) (maxL := 4) (ret := (some .int)) (by decide) rfl ?_
  intro p e s m args below meth c s₁ B hml hv
  obtain ⟨rfl, hsz, hP, hK, hD0, hN⟩ := hv
  have hx := B.exec
  have hb := B.bytes
  have hr := B.returns
  have hts := atoms_spec (ws := wsX12_passAt) B.pre
  have hown : s.vm.findClass RX12 = some m.cls := findClass_of_methodNamed B.named
  have hlocks := B.notSynchronized
  subst hsz
  have hD := hD0.self (sz := s.heap.size)
  generalize hAe : va_A [(h0, .inr (12, [.ref z0, .ref z1, .ref z2, .ref z3, .ref z4, .ref z5, .ref z20, .ref z21, .ref z22, .ref z23, .ref z24, .ref z25, .int 0, .ref z26, .ref z27, .ref z28, .int 9, .int 0, .int 0, .ref z6, .ref z29, .ref z7, .int 0, .int 2, .ref z19, .ref z8, .ref z9, .ref z10, .int 0, .ref z11, .int 0, .ref z30, .ref z31, .ref z32, .ref z33, .int 0, .ref z12, .int 0, .int 0, .ref z34, .ref z35, .ref z36, .ref z37, .int 0, .int 0, .int 0, .int 0, .ref z38, .int 0, .ref z39, .ref z40, .ref z41, .ref z42, .int 0, .ref z13, .ref z14, .ref z15, .ref z16, .int 0, .ref z17, .ref z18, .ref z43]))] s.heap.size = A at hD ⊢
  have hA : ∀ q : Nat, s.heap.size ≤ q → A q := fun q h => by rw [← hAe]; exact Or.inr h
  have hS : va_S A s.heap s.heap [] := va_S.rf
  have hP : va_P D vwCl [(h0, .inr (12, [.ref z0, .ref z1, .ref z2, .ref z3, .ref z4, .ref z5, .ref z20, .ref z21, .ref z22, .ref z23, .ref z24, .ref z25, .int 0, .ref z26, .ref z27, .ref z28, .int 9, .int 0, .int 0, .ref z6, .ref z29, .ref z7, .int 0, .int 2, .ref z19, .ref z8, .ref z9, .ref z10, .int 0, .ref z11, .int 0, .ref z30, .ref z31, .ref z32, .ref z33, .int 0, .ref z12, .int 0, .int 0, .ref z34, .ref z35, .ref z36, .ref z37, .int 0, .int 0, .int 0, .int 0, .ref z38, .int 0, .ref z39, .ref z40, .ref z41, .ref z42, .int 0, .ref z13, .ref z14, .ref z15, .ref z16, .int 0, .ref z17, .ref z18, .ref z43]))] s.heap := hP
  have hl := lv_entry ([.ref h0, .int 0, .int 3, .int 0]) (n := 4) (Nat.le_of_ble_eq_true rfl)
  rw [lg_entry_eq]
  generalize (lg_sl ([.ref h0, .int 0, .int 3, .int 0]) ++ List.replicate (4 - (lg_sl ([.ref h0, .int 0, .int 3, .int 0])).length) Slot.unset).toArray = ls at hl ⊢
  have hl : lv_has ls 4 [(0, .ref h0), (1, .int 0), (2, .int 3), (3, .int 0)] := hl
  refine lv_iload_n hx hb dX12_passAt_0 rfl (lv_at hl 1 rfl) ?_
  refine lv_aload_n hx hb dX12_passAt_1 rfl (lv_at hl 0 rfl) ?_
  have hPc := hP.sub (ws' := [(h0, .inr (12, [.ref z0, .ref z1, .ref z2, .ref z3, .ref z4, .ref z5, .ref z20, .ref z21, .ref z22, .ref z23, .ref z24, .ref z25, .int 0, .ref z26, .ref z27, .ref z28, .int 9, .int 0, .int 0, .ref z6, .ref z29, .ref z7, .int 0, .int 2, .ref z19, .ref z8, .ref z9, .ref z10, .int 0, .ref z11, .int 0, .ref z30, .ref z31, .ref z32, .ref z33, .int 0, .ref z12, .int 0, .int 0, .ref z34, .ref z35, .ref z36, .ref z37, .int 0, .int 0, .int 0, .int 0, .ref z38, .int 0, .ref z39, .ref z40, .ref z41, .ref z42, .int 0, .ref z13, .ref z14, .ref z15, .ref z16, .int 0, .ref z17, .ref z18, .ref z43]))]) [0] rfl
  have hDc := hD.sub (ws' := [(h0, .inr (12, [.ref z0, .ref z1, .ref z2, .ref z3, .ref z4, .ref z5, .ref z20, .ref z21, .ref z22, .ref z23, .ref z24, .ref z25, .int 0, .ref z26, .ref z27, .ref z28, .int 9, .int 0, .int 0, .ref z6, .ref z29, .ref z7, .int 0, .int 2, .ref z19, .ref z8, .ref z9, .ref z10, .int 0, .ref z11, .int 0, .ref z30, .ref z31, .ref z32, .ref z33, .int 0, .ref z12, .int 0, .int 0, .ref z34, .ref z35, .ref z36, .ref z37, .int 0, .int 0, .int 0, .int 0, .ref z38, .int 0, .ref z39, .ref z40, .ref z41, .ref z42, .int 0, .ref z13, .ref z14, .ref z15, .ref z16, .int 0, .ref z17, .ref z18, .ref z43]))]) [0] (by decide) rfl
  have hFc := va_free (wc := [(h0, .inr (12, [.ref z0, .ref z1, .ref z2, .ref z3, .ref z4, .ref z5, .ref z20, .ref z21, .ref z22, .ref z23, .ref z24, .ref z25, .int 0, .ref z26, .ref z27, .ref z28, .int 9, .int 0, .int 0, .ref z6, .ref z29, .ref z7, .int 0, .int 2, .ref z19, .ref z8, .ref z9, .ref z10, .int 0, .ref z11, .int 0, .ref z30, .ref z31, .ref z32, .ref z33, .int 0, .ref z12, .int 0, .int 0, .ref z34, .ref z35, .ref z36, .ref z37, .int 0, .int 0, .int 0, .int 0, .ref z38, .int 0, .ref z39, .ref z40, .ref z41, .ref z42, .int 0, .ref z13, .ref z14, .ref z15, .ref z16, .int 0, .ref z17, .ref z18, .ref z43]))]) hD hS hA [0] rfl
  refine va_calli (va_runV (As := []) (rest := [.int 0]) ⟨hx, hb, hml, hown, hts⟩ (kX12_gens l D G h0 z0 z1 z2 z3 z4 z5 z20 z21 z22 z23 z24 z25 z26 z27 z28 z6 z29 z7 z19 z8 z9 z10 z11 z30 z31 z32 z33 z12 z34 z35 z36 z37 z38 z39 z40 z41 z42 z13 z14 z15 z16 z17 z18 z43 0 s.heap.size) (cwV 0 hts gX12_passAt_X12_gens rfl rfl rfl (by decide +kernel) ⟨Nat.le_of_ble_eq_true rfl, Nat.le_of_ble_eq_true rfl⟩) ⟨wB_blind, va_recv hK hPc (ci := 12) (q0 := 0) rfl rfl, wB_pre hPc hK hDc hN⟩ rfl rfl hl.1 rfl (lv_room (Nat.le_of_ble_eq_true rfl)) dX12_passAt_2 ⟨Nat.le_of_ble_eq_true rfl, Nat.le_of_ble_eq_true rfl⟩) hS (fun q _ h => hFc q h) hFc (fun r1 u t H1 locs ht hvm hr1 hB hz1 hk1 hS => ?_)
  obtain ⟨hP1, hK1, hD1⟩ := hB
  rw [ht] at hP1
  obtain ⟨hP, hD⟩ := va_join (wr := []) (w1 := [(h0, .inr (12, [.ref z0, .ref z1, .ref z2, .ref z3, .ref z4, .ref z5, .ref z20, .ref z21, .ref z22, .ref z23, .ref z24, .ref z25, .int 0, .ref z26, .ref z27, .ref z28, .int 9, .int 0, .int 0, .ref z6, .ref z29, .ref z7, .int 0, .int 2, .ref z19, .ref z8, .ref z9, .ref z10, .int 0, .ref z11, .int 0, .ref z30, .ref z31, .ref z32, .ref z33, .int 0, .ref z12, .int 0, .int 0, .ref z34, .ref z35, .ref z36, .ref z37, .int 0, .int 0, .int 0, .int 0, .ref z38, .int 0, .ref z39, .ref z40, .ref z41, .ref z42, .int 0, .ref z13, .ref z14, .ref z15, .ref z16, .int 0, .ref z17, .ref z18, .ref z43]))]) hP hD [0] [] rfl rfl (by decide) (by decide) hk1 hFc hP1 hD1
  clear hPc hDc
  generalize H1 = H at hP hS ⊢
  have hP : va_P D vwCl [(h0, .inr (12, [.ref z0, .ref z1, .ref z2, .ref z3, .ref z4, .ref z5, .ref z20, .ref z21, .ref z22, .ref z23, .ref z24, .ref z25, .int 0, .ref z26, .ref z27, .ref z28, .int 9, .int 0, .int 0, .ref z6, .ref z29, .ref z7, .int 0, .int 2, .ref z19, .ref z8, .ref z9, .ref z10, .int 0, .ref z11, .int 0, .ref z30, .ref z31, .ref z32, .ref z33, .int 0, .ref z12, .int 0, .int 0, .ref z34, .ref z35, .ref z36, .ref z37, .int 0, .int 0, .int 0, .int 0, .ref z38, .int 0, .ref z39, .ref z40, .ref z41, .ref z42, .int 0, .ref z13, .ref z14, .ref z15, .ref z16, .int 0, .ref z17, .ref z18, .ref z43]))] H := hP
  have hD : va_D A [(h0, .inr (12, [.ref z0, .ref z1, .ref z2, .ref z3, .ref z4, .ref z5, .ref z20, .ref z21, .ref z22, .ref z23, .ref z24, .ref z25, .int 0, .ref z26, .ref z27, .ref z28, .int 9, .int 0, .int 0, .ref z6, .ref z29, .ref z7, .int 0, .int 2, .ref z19, .ref z8, .ref z9, .ref z10, .int 0, .ref z11, .int 0, .ref z30, .ref z31, .ref z32, .ref z33, .int 0, .ref z12, .int 0, .int 0, .ref z34, .ref z35, .ref z36, .ref z37, .int 0, .int 0, .int 0, .int 0, .ref z38, .int 0, .ref z39, .ref z40, .ref z41, .ref z42, .int 0, .ref z13, .ref z14, .ref z15, .ref z16, .int 0, .ref z17, .ref z18, .ref z43]))] := hD
  subst hr1
  refine lv_iload_n hx hb dX12_passAt_5 rfl (lv_at hl 2 rfl) ?_
  refine lv_iconst (v := 1) hx hb dX12_passAt_6 (by decide) ?_
  refine lv_isub hx hb dX12_passAt_7 ?_
  refine wk_i 2 (by decide) ?_
  refine lv_iload_n hx hb dX12_passAt_8 rfl (lv_at hl 3 rfl) ?_
  refine lv_isub hx hb dX12_passAt_9 ?_
  refine wk_i 2 (by decide) ?_
  have hPc := hP.sub (ws' := []) [] rfl
  have hDc := hD.sub (ws' := []) [] (by decide) rfl
  have hFc := va_free (wc := []) hD hS hA [] rfl
  refine va_calli (va_runS (As := [.int 2, .int 2]) (rest := [.int 0]) ⟨hx, hb, hml, hown, hts⟩ (kX12_power_2 l D G  H.size) (va_cwS 2 hts gX12_passAt_X12_power rfl rfl rfl (by decide +kernel) ⟨Nat.le_of_ble_eq_true rfl, Nat.le_of_ble_eq_true rfl⟩) ⟨wB_blind, wB_pre hPc hK hDc hN⟩ rfl rfl hl.1 rfl (lv_room (Nat.le_of_ble_eq_true rfl)) dX12_passAt_10 ⟨Nat.le_of_ble_eq_true rfl, Nat.le_of_ble_eq_true rfl⟩) hS (fun q _ h => hFc q h) hFc (fun r2 u t H1 locs ht hvm hr2 hB hz1 hk1 hS => ?_)
  obtain ⟨hP, hD⟩ := va_join (wr := [(h0, .inr (12, [.ref z0, .ref z1, .ref z2, .ref z3, .ref z4, .ref z5, .ref z20, .ref z21, .ref z22, .ref z23, .ref z24, .ref z25, .int 0, .ref z26, .ref z27, .ref z28, .int 9, .int 0, .int 0, .ref z6, .ref z29, .ref z7, .int 0, .int 2, .ref z19, .ref z8, .ref z9, .ref z10, .int 0, .ref z11, .int 0, .ref z30, .ref z31, .ref z32, .ref z33, .int 0, .ref z12, .int 0, .int 0, .ref z34, .ref z35, .ref z36, .ref z37, .int 0, .int 0, .int 0, .int 0, .ref z38, .int 0, .ref z39, .ref z40, .ref z41, .ref z42, .int 0, .ref z13, .ref z14, .ref z15, .ref z16, .int 0, .ref z17, .ref z18, .ref z43]))]) (w1 := []) hP hD [] [0] rfl rfl (by decide) (by decide) hk1 hFc wP_nil wD_nil
  clear hPc hDc
  generalize H1 = H at hP hS ⊢
  have hP : va_P D vwCl [(h0, .inr (12, [.ref z0, .ref z1, .ref z2, .ref z3, .ref z4, .ref z5, .ref z20, .ref z21, .ref z22, .ref z23, .ref z24, .ref z25, .int 0, .ref z26, .ref z27, .ref z28, .int 9, .int 0, .int 0, .ref z6, .ref z29, .ref z7, .int 0, .int 2, .ref z19, .ref z8, .ref z9, .ref z10, .int 0, .ref z11, .int 0, .ref z30, .ref z31, .ref z32, .ref z33, .int 0, .ref z12, .int 0, .int 0, .ref z34, .ref z35, .ref z36, .ref z37, .int 0, .int 0, .int 0, .int 0, .ref z38, .int 0, .ref z39, .ref z40, .ref z41, .ref z42, .int 0, .ref z13, .ref z14, .ref z15, .ref z16, .int 0, .ref z17, .ref z18, .ref z43]))] H := hP
  have hD : va_D A [(h0, .inr (12, [.ref z0, .ref z1, .ref z2, .ref z3, .ref z4, .ref z5, .ref z20, .ref z21, .ref z22, .ref z23, .ref z24, .ref z25, .int 0, .ref z26, .ref z27, .ref z28, .int 9, .int 0, .int 0, .ref z6, .ref z29, .ref z7, .int 0, .int 2, .ref z19, .ref z8, .ref z9, .ref z10, .int 0, .ref z11, .int 0, .ref z30, .ref z31, .ref z32, .ref z33, .int 0, .ref z12, .int 0, .int 0, .ref z34, .ref z35, .ref z36, .ref z37, .int 0, .int 0, .int 0, .int 0, .ref z38, .int 0, .ref z39, .ref z40, .ref z41, .ref z42, .int 0, .ref z13, .ref z14, .ref z15, .ref z16, .int 0, .ref z17, .ref z18, .ref z43]))] := hD
  subst hr2
  refine lv_idiv hx hb dX12_passAt_13 (by decide) ?_
  refine wk_i 0 (by decide) ?_
  refine lv_aload_n hx hb dX12_passAt_14 rfl (lv_at hl 0 rfl) ?_
  have hPc := hP.sub (ws' := [(h0, .inr (12, [.ref z0, .ref z1, .ref z2, .ref z3, .ref z4, .ref z5, .ref z20, .ref z21, .ref z22, .ref z23, .ref z24, .ref z25, .int 0, .ref z26, .ref z27, .ref z28, .int 9, .int 0, .int 0, .ref z6, .ref z29, .ref z7, .int 0, .int 2, .ref z19, .ref z8, .ref z9, .ref z10, .int 0, .ref z11, .int 0, .ref z30, .ref z31, .ref z32, .ref z33, .int 0, .ref z12, .int 0, .int 0, .ref z34, .ref z35, .ref z36, .ref z37, .int 0, .int 0, .int 0, .int 0, .ref z38, .int 0, .ref z39, .ref z40, .ref z41, .ref z42, .int 0, .ref z13, .ref z14, .ref z15, .ref z16, .int 0, .ref z17, .ref z18, .ref z43]))]) [0] rfl
  have hDc := hD.sub (ws' := [(h0, .inr (12, [.ref z0, .ref z1, .ref z2, .ref z3, .ref z4, .ref z5, .ref z20, .ref z21, .ref z22, .ref z23, .ref z24, .ref z25, .int 0, .ref z26, .ref z27, .ref z28, .int 9, .int 0, .int 0, .ref z6, .ref z29, .ref z7, .int 0, .int 2, .ref z19, .ref z8, .ref z9, .ref z10, .int 0, .ref z11, .int 0, .ref z30, .ref z31, .ref z32, .ref z33, .int 0, .ref z12, .int 0, .int 0, .ref z34, .ref z35, .ref z36, .ref z37, .int 0, .int 0, .int 0, .int 0, .ref z38, .int 0, .ref z39, .ref z40, .ref z41, .ref z42, .int 0, .ref z13, .ref z14, .ref z15, .ref z16, .int 0, .ref z17, .ref z18, .ref z43]))]) [0] (by decide) rfl
  have hFc := va_free (wc := [(h0, .inr (12, [.ref z0, .ref z1, .ref z2, .ref z3, .ref z4, .ref z5, .ref z20, .ref z21, .ref z22, .ref z23, .ref z24, .ref z25, .int 0, .ref z26, .ref z27, .ref z28, .int 9, .int 0, .int 0, .ref z6, .ref z29, .ref z7, .int 0, .int 2, .ref z19, .ref z8, .ref z9, .ref z10, .int 0, .ref z11, .int 0, .ref z30, .ref z31, .ref z32, .ref z33, .int 0, .ref z12, .int 0, .int 0, .ref z34, .ref z35, .ref z36, .ref z37, .int 0, .int 0, .int 0, .int 0, .ref z38, .int 0, .ref z39, .ref z40, .ref z41, .ref z42, .int 0, .ref z13, .ref z14, .ref z15, .ref z16, .int 0, .ref z17, .ref z18, .ref z43]))]) hD hS hA [0] rfl
  refine va_calli (va_runV (As := []) (rest := [.int 0]) ⟨hx, hb, hml, hown, hts⟩ (kX12_gens l D G h0 z0 z1 z2 z3 z4 z5 z20 z21 z22 z23 z24 z25 z26 z27 z28 z6 z29 z7 z19 z8 z9 z10 z11 z30 z31 z32 z33 z12 z34 z35 z36 z37 z38 z39 z40 z41 z42 z13 z14 z15 z16 z17 z18 z43 0 H.size) (cwV 0 hts gX12_passAt_X12_gens rfl rfl rfl (by decide +kernel) ⟨Nat.le_of_ble_eq_true rfl, Nat.le_of_ble_eq_true rfl⟩) ⟨wB_blind, va_recv hK hPc (ci := 12) (q0 := 0) rfl rfl, wB_pre hPc hK hDc hN⟩ rfl rfl hl.1 rfl (lv_room (Nat.le_of_ble_eq_true rfl)) dX12_passAt_15 ⟨Nat.le_of_ble_eq_true rfl, Nat.le_of_ble_eq_true rfl⟩) hS (fun q _ h => hFc q h) hFc (fun r3 u t H1 locs ht hvm hr3 hB hz1 hk1 hS => ?_)
  obtain ⟨hP1, hK1, hD1⟩ := hB
  rw [ht] at hP1
  obtain ⟨hP, hD⟩ := va_join (wr := []) (w1 := [(h0, .inr (12, [.ref z0, .ref z1, .ref z2, .ref z3, .ref z4, .ref z5, .ref z20, .ref z21, .ref z22, .ref z23, .ref z24, .ref z25, .int 0, .ref z26, .ref z27, .ref z28, .int 9, .int 0, .int 0, .ref z6, .ref z29, .ref z7, .int 0, .int 2, .ref z19, .ref z8, .ref z9, .ref z10, .int 0, .ref z11, .int 0, .ref z30, .ref z31, .ref z32, .ref z33, .int 0, .ref z12, .int 0, .int 0, .ref z34, .ref z35, .ref z36, .ref z37, .int 0, .int 0, .int 0, .int 0, .ref z38, .int 0, .ref z39, .ref z40, .ref z41, .ref z42, .int 0, .ref z13, .ref z14, .ref z15, .ref z16, .int 0, .ref z17, .ref z18, .ref z43]))]) hP hD [0] [] rfl rfl (by decide) (by decide) hk1 hFc hP1 hD1
  clear hPc hDc
  generalize H1 = H at hP hS ⊢
  have hP : va_P D vwCl [(h0, .inr (12, [.ref z0, .ref z1, .ref z2, .ref z3, .ref z4, .ref z5, .ref z20, .ref z21, .ref z22, .ref z23, .ref z24, .ref z25, .int 0, .ref z26, .ref z27, .ref z28, .int 9, .int 0, .int 0, .ref z6, .ref z29, .ref z7, .int 0, .int 2, .ref z19, .ref z8, .ref z9, .ref z10, .int 0, .ref z11, .int 0, .ref z30, .ref z31, .ref z32, .ref z33, .int 0, .ref z12, .int 0, .int 0, .ref z34, .ref z35, .ref z36, .ref z37, .int 0, .int 0, .int 0, .int 0, .ref z38, .int 0, .ref z39, .ref z40, .ref z41, .ref z42, .int 0, .ref z13, .ref z14, .ref z15, .ref z16, .int 0, .ref z17, .ref z18, .ref z43]))] H := hP
  have hD : va_D A [(h0, .inr (12, [.ref z0, .ref z1, .ref z2, .ref z3, .ref z4, .ref z5, .ref z20, .ref z21, .ref z22, .ref z23, .ref z24, .ref z25, .int 0, .ref z26, .ref z27, .ref z28, .int 9, .int 0, .int 0, .ref z6, .ref z29, .ref z7, .int 0, .int 2, .ref z19, .ref z8, .ref z9, .ref z10, .int 0, .ref z11, .int 0, .ref z30, .ref z31, .ref z32, .ref z33, .int 0, .ref z12, .int 0, .int 0, .ref z34, .ref z35, .ref z36, .ref z37, .int 0, .int 0, .int 0, .int 0, .ref z38, .int 0, .ref z39, .ref z40, .ref z41, .ref z42, .int 0, .ref z13, .ref z14, .ref z15, .ref z16, .int 0, .ref z17, .ref z18, .ref z43]))] := hD
  subst hr3
  refine lv_irem hx hb dX12_passAt_18 (by decide) ?_
  refine wk_i 0 (by decide) ?_
  have hPc := hP.sub (ws' := []) [] rfl
  have hDc := hD.sub (ws' := []) [] (by decide) rfl
  have hFc := va_free (wc := []) hD hS hA [] rfl
  refine va_calli (va_runS (As := [.int 0]) (rest := []) ⟨hx, hb, hml, hown, hts⟩ (kX12_passOf_0 l D G  H.size) (va_cwS 1 hts gX12_passAt_X12_passOf rfl rfl rfl (by decide +kernel) ⟨Nat.le_of_ble_eq_true rfl, Nat.le_of_ble_eq_true rfl⟩) ⟨wB_blind, wB_pre hPc hK hDc hN⟩ rfl rfl hl.1 rfl (lv_room (Nat.le_of_ble_eq_true rfl)) dX12_passAt_19 ⟨Nat.le_of_ble_eq_true rfl, Nat.le_of_ble_eq_true rfl⟩) hS (fun q _ h => hFc q h) hFc (fun r4 u t H1 locs ht hvm hr4 hB hz1 hk1 hS => ?_)
  obtain ⟨hP, hD⟩ := va_join (wr := [(h0, .inr (12, [.ref z0, .ref z1, .ref z2, .ref z3, .ref z4, .ref z5, .ref z20, .ref z21, .ref z22, .ref z23, .ref z24, .ref z25, .int 0, .ref z26, .ref z27, .ref z28, .int 9, .int 0, .int 0, .ref z6, .ref z29, .ref z7, .int 0, .int 2, .ref z19, .ref z8, .ref z9, .ref z10, .int 0, .ref z11, .int 0, .ref z30, .ref z31, .ref z32, .ref z33, .int 0, .ref z12, .int 0, .int 0, .ref z34, .ref z35, .ref z36, .ref z37, .int 0, .int 0, .int 0, .int 0, .ref z38, .int 0, .ref z39, .ref z40, .ref z41, .ref z42, .int 0, .ref z13, .ref z14, .ref z15, .ref z16, .int 0, .ref z17, .ref z18, .ref z43]))]) (w1 := []) hP hD [] [0] rfl rfl (by decide) (by decide) hk1 hFc wP_nil wD_nil
  clear hPc hDc
  generalize H1 = H at hP hS ⊢
  have hP : va_P D vwCl [(h0, .inr (12, [.ref z0, .ref z1, .ref z2, .ref z3, .ref z4, .ref z5, .ref z20, .ref z21, .ref z22, .ref z23, .ref z24, .ref z25, .int 0, .ref z26, .ref z27, .ref z28, .int 9, .int 0, .int 0, .ref z6, .ref z29, .ref z7, .int 0, .int 2, .ref z19, .ref z8, .ref z9, .ref z10, .int 0, .ref z11, .int 0, .ref z30, .ref z31, .ref z32, .ref z33, .int 0, .ref z12, .int 0, .int 0, .ref z34, .ref z35, .ref z36, .ref z37, .int 0, .int 0, .int 0, .int 0, .ref z38, .int 0, .ref z39, .ref z40, .ref z41, .ref z42, .int 0, .ref z13, .ref z14, .ref z15, .ref z16, .int 0, .ref z17, .ref z18, .ref z43]))] H := hP
  have hD : va_D A [(h0, .inr (12, [.ref z0, .ref z1, .ref z2, .ref z3, .ref z4, .ref z5, .ref z20, .ref z21, .ref z22, .ref z23, .ref z24, .ref z25, .int 0, .ref z26, .ref z27, .ref z28, .int 9, .int 0, .int 0, .ref z6, .ref z29, .ref z7, .int 0, .int 2, .ref z19, .ref z8, .ref z9, .ref z10, .int 0, .ref z11, .int 0, .ref z30, .ref z31, .ref z32, .ref z33, .int 0, .ref z12, .int 0, .int 0, .ref z34, .ref z35, .ref z36, .ref z37, .int 0, .int 0, .int 0, .int 0, .ref z38, .int 0, .ref z39, .ref z40, .ref z41, .ref z42, .int 0, .ref z13, .ref z14, .ref z15, .ref z16, .int 0, .ref z17, .ref z18, .ref z43]))] := hD
  subst hr4
  have hP9 := hP.sub (ws' := [(h0, .inr (12, [.ref z0, .ref z1, .ref z2, .ref z3, .ref z4, .ref z5, .ref z20, .ref z21, .ref z22, .ref z23, .ref z24, .ref z25, .int 0, .ref z26, .ref z27, .ref z28, .int 9, .int 0, .int 0, .ref z6, .ref z29, .ref z7, .int 0, .int 2, .ref z19, .ref z8, .ref z9, .ref z10, .int 0, .ref z11, .int 0, .ref z30, .ref z31, .ref z32, .ref z33, .int 0, .ref z12, .int 0, .int 0, .ref z34, .ref z35, .ref z36, .ref z37, .int 0, .int 0, .int 0, .int 0, .ref z38, .int 0, .ref z39, .ref z40, .ref z41, .ref z42, .int 0, .ref z13, .ref z14, .ref z15, .ref z16, .int 0, .ref z17, .ref z18, .ref z43]))]) [0] rfl
  have hD9 := hD.sub (ws' := [(h0, .inr (12, [.ref z0, .ref z1, .ref z2, .ref z3, .ref z4, .ref z5, .ref z20, .ref z21, .ref z22, .ref z23, .ref z24, .ref z25, .int 0, .ref z26, .ref z27, .ref z28, .int 9, .int 0, .int 0, .ref z6, .ref z29, .ref z7, .int 0, .int 2, .ref z19, .ref z8, .ref z9, .ref z10, .int 0, .ref z11, .int 0, .ref z30, .ref z31, .ref z32, .ref z33, .int 0, .ref z12, .int 0, .int 0, .ref z34, .ref z35, .ref z36, .ref z37, .int 0, .int 0, .int 0, .int 0, .ref z38, .int 0, .ref z39, .ref z40, .ref z41, .ref z42, .int 0, .ref z13, .ref z14, .ref z15, .ref z16, .int 0, .ref z17, .ref z18, .ref z43]))]) [0] (by decide) rfl
  exact W.iret (v := 1) hx hb hr (fun t ht hW => ⟨⟨1, (), rfl, rfl, ⟨by rw [ht]; exact hP9, va_K.moved hW.alike hK, hD9⟩⟩, hS.F ht⟩) hS.2.2 dX12_passAt_22

set_option maxHeartbeats 4000000 in
set_option maxRecDepth 100000 in
/-- X12_passAt -/
theorem kX12_passAt_3_0_1 (l : Launch) (D : va_G) (G : tyG) (h0 : Nat) (z0 : Nat) (z1 : Nat) (z2 : Nat) (z3 : Nat) (z4 : Nat) (z5 : Nat) (z20 : Nat) (z21 : Nat) (z22 : Nat) (z23 : Nat) (z24 : Nat) (z25 : Nat) (z26 : Nat) (z27 : Nat) (z28 : Nat) (z6 : Nat) (z29 : Nat) (z7 : Nat) (z19 : Nat) (z8 : Nat) (z9 : Nat) (z10 : Nat) (z11 : Nat) (z30 : Nat) (z31 : Nat) (z32 : Nat) (z33 : Nat) (z12 : Nat) (z34 : Nat) (z35 : Nat) (z36 : Nat) (z37 : Nat) (z38 : Nat) (z39 : Nat) (z40 : Nat) (z41 : Nat) (z42 : Nat) (z13 : Nat) (z14 : Nat) (z15 : Nat) (z16 : Nat) (z17 : Nat) (z18 : Nat) (z43 : Nat) (sz : Nat) : Met l yX12_passAt wsX12_passAt ({ frames := 1, cells := 0, slots := 0, locals := 23 }) (va_Pc [.ref h0, .int 0, .int 3, .int 1] (wB D G sz [(h0, .inr (12, [.ref z0, .ref z1, .ref z2, .ref z3, .ref z4, .ref z5, .ref z20, .ref z21, .ref z22, .ref z23, .ref z24, .ref z25, .int 0, .ref z26, .ref z27, .ref z28, .int 9, .int 0, .int 0, .ref z6, .ref z29, .ref z7, .int 0, .int 2, .ref z19, .ref z8, .ref z9, .ref z10, .int 0, .ref z11, .int 0, .ref z30, .ref z31, .ref z32, .ref z33, .int 0, .ref z12, .int 0, .int 0, .ref z34, .ref z35, .ref z36, .ref z37, .int 0, .int 0, .int 0, .int 0, .ref z38, .int 0, .ref z39, .ref z40, .ref z41, .ref z42, .int 0, .ref z13, .ref z14, .ref z15, .ref z16, .int 0, .ref z17, .ref z18, .ref z43]))])) (va_Qi (fun (r : Int32) (_ : Unit) => r = 1) (fun _ t => wS D G (va_A [(h0, .inr (12, [.ref z0, .ref z1, .ref z2, .ref z3, .ref z4, .ref z5, .ref z20, .ref z21, .ref z22, .ref z23, .ref z24, .ref z25, .int 0, .ref z26, .ref z27, .ref z28, .int 9, .int 0, .int 0, .ref z6, .ref z29, .ref z7, .int 0, .int 2, .ref z19, .ref z8, .ref z9, .ref z10, .int 0, .ref z11, .int 0, .ref z30, .ref z31, .ref z32, .ref z33, .int 0, .ref z12, .int 0, .int 0, .ref z34, .ref z35, .ref z36, .ref z37, .int 0, .int 0, .int 0, .int 0, .ref z38, .int 0, .ref z39, .ref z40, .ref z41, .ref z42, .int 0, .ref z13, .ref z14, .ref z15, .ref z16, .int 0, .ref z17, .ref z18, .ref z43]))] sz) [(h0, .inr (12, [.ref z0, .ref z1, .ref z2, .ref z3, .ref z4, .ref z5, .ref z20, .ref z21, .ref z22, .ref z23, .ref z24, .ref z25, .int 0, .ref z26, .ref z27, .ref z28, .int 9, .int 0, .int 0, .ref z6, .ref z29, .ref z7, .int 0, .int 2, .ref z19, .ref z8, .ref z9, .ref z10, .int 0, .ref z11, .int 0, .ref z30, .ref z31, .ref z32, .ref z33, .int 0, .ref z12, .int 0, .int 0, .ref z34, .ref z35, .ref z36, .ref z37, .int 0, .int 0, .int 0, .int 0, .ref z38, .int 0, .ref z39, .ref z40, .ref z41, .ref z42, .int 0, .ref z13, .ref z14, .ref z15, .ref z16, .int 0, .ref z17, .ref z18, .ref z43]))] t) (va_A [(h0, .inr (12, [.ref z0, .ref z1, .ref z2, .ref z3, .ref z4, .ref z5, .ref z20, .ref z21, .ref z22, .ref z23, .ref z24, .ref z25, .int 0, .ref z26, .ref z27, .ref z28, .int 9, .int 0, .int 0, .ref z6, .ref z29, .ref z7, .int 0, .int 2, .ref z19, .ref z8, .ref z9, .ref z10, .int 0, .ref z11, .int 0, .ref z30, .ref z31, .ref z32, .ref z33, .int 0, .ref z12, .int 0, .int 0, .ref z34, .ref z35, .ref z36, .ref z37, .int 0, .int 0, .int 0, .int 0, .ref z38, .int 0, .ref z39, .ref z40, .ref z41, .ref z42, .int 0, .ref z13, .ref z14, .ref z15, .ref z16, .int 0, .ref z17, .ref z18, .ref z43]))] sz)) 0 0 (va_A [(h0, .inr (12, [.ref z0, .ref z1, .ref z2, .ref z3, .ref z4, .ref z5, .ref z20, .ref z21, .ref z22, .ref z23, .ref z24, .ref z25, .int 0, .ref z26, .ref z27, .ref z28, .int 9, .int 0, .int 0, .ref z6, .ref z29, .ref z7, .int 0, .int 2, .ref z19, .ref z8, .ref z9, .ref z10, .int 0, .ref z11, .int 0, .ref z30, .ref z31, .ref z32, .ref z33, .int 0, .ref z12, .int 0, .int 0, .ref z34, .ref z35, .ref z36, .ref z37, .int 0, .int 0, .int 0, .int 0, .ref z38, .int 0, .ref z39, .ref z40, .ref z41, .ref z42, .int 0, .ref z13, .ref z14, .ref z15, .ref z16, .int 0, .ref z17, .ref z18, .ref z43]))] sz) := by
  refine Met.ofW (cc := cX12_passAt) (maxL := 4) (ret := (some .int)) (by decide) rfl ?_
  intro p e s m args below meth c s₁ B hml hv
  obtain ⟨rfl, hsz, hP, hK, hD0, hN⟩ := hv
  have hx := B.exec
  have hb := B.bytes
  have hr := B.returns
  have hts := atoms_spec (ws := wsX12_passAt) B.pre
  have hown : s.vm.findClass RX12 = some m.cls := findClass_of_methodNamed B.named
  have hlocks := B.notSynchronized
  subst hsz
  have hD := hD0.self (sz := s.heap.size)
  generalize hAe : va_A [(h0, .inr (12, [.ref z0, .ref z1, .ref z2, .ref z3, .ref z4, .ref z5, .ref z20, .ref z21, .ref z22, .ref z23, .ref z24, .ref z25, .int 0, .ref z26, .ref z27, .ref z28, .int 9, .int 0, .int 0, .ref z6, .ref z29, .ref z7, .int 0, .int 2, .ref z19, .ref z8, .ref z9, .ref z10, .int 0, .ref z11, .int 0, .ref z30, .ref z31, .ref z32, .ref z33, .int 0, .ref z12, .int 0, .int 0, .ref z34, .ref z35, .ref z36, .ref z37, .int 0, .int 0, .int 0, .int 0, .ref z38, .int 0, .ref z39, .ref z40, .ref z41, .ref z42, .int 0, .ref z13, .ref z14, .ref z15, .ref z16, .int 0, .ref z17, .ref z18, .ref z43]))] s.heap.size = A at hD ⊢
  have hA : ∀ q : Nat, s.heap.size ≤ q → A q := fun q h => by rw [← hAe]; exact Or.inr h
  have hS : va_S A s.heap s.heap [] := va_S.rf
  have hP : va_P D vwCl [(h0, .inr (12, [.ref z0, .ref z1, .ref z2, .ref z3, .ref z4, .ref z5, .ref z20, .ref z21, .ref z22, .ref z23, .ref z24, .ref z25, .int 0, .ref z26, .ref z27, .ref z28, .int 9, .int 0, .int 0, .ref z6, .ref z29, .ref z7, .int 0, .int 2, .ref z19, .ref z8, .ref z9, .ref z10, .int 0, .ref z11, .int 0, .ref z30, .ref z31, .ref z32, .ref z33, .int 0, .ref z12, .int 0, .int 0, .ref z34, .ref z35, .ref z36, .ref z37, .int 0, .int 0, .int 0, .int 0, .ref z38, .int 0, .ref z39, .ref z40, .ref z41, .ref z42, .int 0, .ref z13, .ref z14, .ref z15, .ref z16, .int 0, .ref z17, .ref z18, .ref z43]))] s.heap := hP
  have hl := lv_entry ([.ref h0, .int 0, .int 3, .int 1]) (n := 4) (Nat.le_of_ble_eq_true rfl)
  rw [lg_entry_eq]
  generalize (lg_sl ([.ref h0, .int 0, .int 3, .int 1]) ++ List.replicate (4 - (lg_sl ([.ref h0, .int 0, .int 3, .int 1])).length) Slot.unset).toArray = ls at hl ⊢
  have hl : lv_has ls 4 [(0, .ref h0), (1, .int 0), (2, .int 3), (3, .int 1)] := hl
  refine lv_iload_n hx hb dX12_passAt_0 rfl (lv_at hl 1 rfl) ?_
  refine lv_aload_n hx hb dX12_passAt_1 rfl (lv_at hl 0 rfl) ?_
  have hPc := hP.sub (ws' := [(h0, .inr (12, [.ref z0, .ref z1, .ref z2, .ref z3, .ref z4, .ref z5, .ref z20, .ref z21, .ref z22, .ref z23, .ref z24, .ref z25, .int 0, .ref z26, .ref z27, .ref z28, .int 9, .int 0, .int 0, .ref z6, .ref z29, .ref z7, .int 0, .int 2, .ref z19, .ref z8, .ref z9, .ref z10, .int 0, .ref z11, .int 0, .ref z30, .ref z31, .ref z32, .ref z33, .int 0, .ref z12, .int 0, .int 0, .ref z34, .ref z35, .ref z36, .ref z37, .int 0, .int 0, .int 0, .int 0, .ref z38, .int 0, .ref z39, .ref z40, .ref z41, .ref z42, .int 0, .ref z13, .ref z14, .ref z15, .ref z16, .int 0, .ref z17, .ref z18, .ref z43]))]) [0] rfl
  have hDc := hD.sub (ws' := [(h0, .inr (12, [.ref z0, .ref z1, .ref z2, .ref z3, .ref z4, .ref z5, .ref z20, .ref z21, .ref z22, .ref z23, .ref z24, .ref z25, .int 0, .ref z26, .ref z27, .ref z28, .int 9, .int 0, .int 0, .ref z6, .ref z29, .ref z7, .int 0, .int 2, .ref z19, .ref z8, .ref z9, .ref z10, .int 0, .ref z11, .int 0, .ref z30, .ref z31, .ref z32, .ref z33, .int 0, .ref z12, .int 0, .int 0, .ref z34, .ref z35, .ref z36, .ref z37, .int 0, .int 0, .int 0, .int 0, .ref z38, .int 0, .ref z39, .ref z40, .ref z41, .ref z42, .int 0, .ref z13, .ref z14, .ref z15, .ref z16, .int 0, .ref z17, .ref z18, .ref z43]))]) [0] (by decide) rfl
  have hFc := va_free (wc := [(h0, .inr (12, [.ref z0, .ref z1, .ref z2, .ref z3, .ref z4, .ref z5, .ref z20, .ref z21, .ref z22, .ref z23, .ref z24, .ref z25, .int 0, .ref z26, .ref z27, .ref z28, .int 9, .int 0, .int 0, .ref z6, .ref z29, .ref z7, .int 0, .int 2, .ref z19, .ref z8, .ref z9, .ref z10, .int 0, .ref z11, .int 0, .ref z30, .ref z31, .ref z32, .ref z33, .int 0, .ref z12, .int 0, .int 0, .ref z34, .ref z35, .ref z36, .ref z37, .int 0, .int 0, .int 0, .int 0, .ref z38, .int 0, .ref z39, .ref z40, .ref z41, .ref z42, .int 0, .ref z13, .ref z14, .ref z15, .ref z16, .int 0, .ref z17, .ref z18, .ref z43]))]) hD hS hA [0] rfl
  refine va_calli (va_runV (As := []) (rest := [.int 0]) ⟨hx, hb, hml, hown, hts⟩ (kX12_gens l D G h0 z0 z1 z2 z3 z4 z5 z20 z21 z22 z23 z24 z25 z26 z27 z28 z6 z29 z7 z19 z8 z9 z10 z11 z30 z31 z32 z33 z12 z34 z35 z36 z37 z38 z39 z40 z41 z42 z13 z14 z15 z16 z17 z18 z43 0 s.heap.size) (cwV 0 hts gX12_passAt_X12_gens rfl rfl rfl (by decide +kernel) ⟨Nat.le_of_ble_eq_true rfl, Nat.le_of_ble_eq_true rfl⟩) ⟨wB_blind, va_recv hK hPc (ci := 12) (q0 := 0) rfl rfl, wB_pre hPc hK hDc hN⟩ rfl rfl hl.1 rfl (lv_room (Nat.le_of_ble_eq_true rfl)) dX12_passAt_2 ⟨Nat.le_of_ble_eq_true rfl, Nat.le_of_ble_eq_true rfl⟩) hS (fun q _ h => hFc q h) hFc (fun r1 u t H1 locs ht hvm hr1 hB hz1 hk1 hS => ?_)
  obtain ⟨hP1, hK1, hD1⟩ := hB
  rw [ht] at hP1
  obtain ⟨hP, hD⟩ := va_join (wr := []) (w1 := [(h0, .inr (12, [.ref z0, .ref z1, .ref z2, .ref z3, .ref z4, .ref z5, .ref z20, .ref z21, .ref z22, .ref z23, .ref z24, .ref z25, .int 0, .ref z26, .ref z27, .ref z28, .int 9, .int 0, .int 0, .ref z6, .ref z29, .ref z7, .int 0, .int 2, .ref z19, .ref z8, .ref z9, .ref z10, .int 0, .ref z11, .int 0, .ref z30, .ref z31, .ref z32, .ref z33, .int 0, .ref z12, .int 0, .int 0, .ref z34, .ref z35, .ref z36, .ref z37, .int 0, .int 0, .int 0, .int 0, .ref z38, .int 0, .ref z39, .ref z40, .ref z41, .ref z42, .int 0, .ref z13, .ref z14, .ref z15, .ref z16, .int 0, .ref z17, .ref z18, .ref z43]))]) hP hD [0] [] rfl rfl (by decide) (by decide) hk1 hFc hP1 hD1
  clear hPc hDc
  generalize H1 = H at hP hS ⊢
  have hP : va_P D vwCl [(h0, .inr (12, [.ref z0, .ref z1, .ref z2, .ref z3, .ref z4, .ref z5, .ref z20, .ref z21, .ref z22, .ref z23, .ref z24, .ref z25, .int 0, .ref z26, .ref z27, .ref z28, .int 9, .int 0, .int 0, .ref z6, .ref z29, .ref z7, .int 0, .int 2, .ref z19, .ref z8, .ref z9, .ref z10, .int 0, .ref z11, .int 0, .ref z30, .ref z31, .ref z32, .ref z33, .int 0, .ref z12, .int 0, .int 0, .ref z34, .ref z35, .ref z36, .ref z37, .int 0, .int 0, .int 0, .int 0, .ref z38, .int 0, .ref z39, .ref z40, .ref z41, .ref z42, .int 0, .ref z13, .ref z14, .ref z15, .ref z16, .int 0, .ref z17, .ref z18, .ref z43]))] H := hP
  have hD : va_D A [(h0, .inr (12, [.ref z0, .ref z1, .ref z2, .ref z3, .ref z4, .ref z5, .ref z20, .ref z21, .ref z22, .ref z23, .ref z24, .ref z25, .int 0, .ref z26, .ref z27, .ref z28, .int 9, .int 0, .int 0, .ref z6, .ref z29, .ref z7, .int 0, .int 2, .ref z19, .ref z8, .ref z9, .ref z10, .int 0, .ref z11, .int 0, .ref z30, .ref z31, .ref z32, .ref z33, .int 0, .ref z12, .int 0, .int 0, .ref z34, .ref z35, .ref z36, .ref z37, .int 0, .int 0, .int 0, .int 0, .ref z38, .int 0, .ref z39, .ref z40, .ref z41, .ref z42, .int 0, .ref z13, .ref z14, .ref z15, .ref z16, .int 0, .ref z17, .ref z18, .ref z43]))] := hD
  subst hr1
  refine lv_iload_n hx hb dX12_passAt_5 rfl (lv_at hl 2 rfl) ?_
  refine lv_iconst (v := 1) hx hb dX12_passAt_6 (by decide) ?_
  refine lv_isub hx hb dX12_passAt_7 ?_
  refine wk_i 2 (by decide) ?_
  refine lv_iload_n hx hb dX12_passAt_8 rfl (lv_at hl 3 rfl) ?_
  refine lv_isub hx hb dX12_passAt_9 ?_
  refine wk_i 1 (by decide) ?_
  have hPc := hP.sub (ws' := []) [] rfl
  have hDc := hD.sub (ws' := []) [] (by decide) rfl
  have hFc := va_free (wc := []) hD hS hA [] rfl
  refine va_calli (va_runS (As := [.int 2, .int 1]) (rest := [.int 0]) ⟨hx, hb, hml, hown, hts⟩ (kX12_power_1 l D G  H.size) (va_cwS 2 hts gX12_passAt_X12_power rfl rfl rfl (by decide +kernel) ⟨Nat.le_of_ble_eq_true rfl, Nat.le_of_ble_eq_true rfl⟩) ⟨wB_blind, wB_pre hPc hK hDc hN⟩ rfl rfl hl.1 rfl (lv_room (Nat.le_of_ble_eq_true rfl)) dX12_passAt_10 ⟨Nat.le_of_ble_eq_true rfl, Nat.le_of_ble_eq_true rfl⟩) hS (fun q _ h => hFc q h) hFc (fun r2 u t H1 locs ht hvm hr2 hB hz1 hk1 hS => ?_)
  obtain ⟨hP, hD⟩ := va_join (wr := [(h0, .inr (12, [.ref z0, .ref z1, .ref z2, .ref z3, .ref z4, .ref z5, .ref z20, .ref z21, .ref z22, .ref z23, .ref z24, .ref z25, .int 0, .ref z26, .ref z27, .ref z28, .int 9, .int 0, .int 0, .ref z6, .ref z29, .ref z7, .int 0, .int 2, .ref z19, .ref z8, .ref z9, .ref z10, .int 0, .ref z11, .int 0, .ref z30, .ref z31, .ref z32, .ref z33, .int 0, .ref z12, .int 0, .int 0, .ref z34, .ref z35, .ref z36, .ref z37, .int 0, .int 0, .int 0, .int 0, .ref z38, .int 0, .ref z39, .ref z40, .ref z41, .ref z42, .int 0, .ref z13, .ref z14, .ref z15, .ref z16, .int 0, .ref z17, .ref z18, .ref z43]))]) (w1 := []) hP hD [] [0] rfl rfl (by decide) (by decide) hk1 hFc wP_nil wD_nil
  clear hPc hDc
  generalize H1 = H at hP hS ⊢
  have hP : va_P D vwCl [(h0, .inr (12, [.ref z0, .ref z1, .ref z2, .ref z3, .ref z4, .ref z5, .ref z20, .ref z21, .ref z22, .ref z23, .ref z24, .ref z25, .int 0, .ref z26, .ref z27, .ref z28, .int 9, .int 0, .int 0, .ref z6, .ref z29, .ref z7, .int 0, .int 2, .ref z19, .ref z8, .ref z9, .ref z10, .int 0, .ref z11, .int 0, .ref z30, .ref z31, .ref z32, .ref z33, .int 0, .ref z12, .int 0, .int 0, .ref z34, .ref z35, .ref z36, .ref z37, .int 0, .int 0, .int 0, .int 0, .ref z38, .int 0, .ref z39, .ref z40, .ref z41, .ref z42, .int 0, .ref z13, .ref z14, .ref z15, .ref z16, .int 0, .ref z17, .ref z18, .ref z43]))] H := hP
  have hD : va_D A [(h0, .inr (12, [.ref z0, .ref z1, .ref z2, .ref z3, .ref z4, .ref z5, .ref z20, .ref z21, .ref z22, .ref z23, .ref z24, .ref z25, .int 0, .ref z26, .ref z27, .ref z28, .int 9, .int 0, .int 0, .ref z6, .ref z29, .ref z7, .int 0, .int 2, .ref z19, .ref z8, .ref z9, .ref z10, .int 0, .ref z11, .int 0, .ref z30, .ref z31, .ref z32, .ref z33, .int 0, .ref z12, .int 0, .int 0, .ref z34, .ref z35, .ref z36, .ref z37, .int 0, .int 0, .int 0, .int 0, .ref z38, .int 0, .ref z39, .ref z40, .ref z41, .ref z42, .int 0, .ref z13, .ref z14, .ref z15, .ref z16, .int 0, .ref z17, .ref z18, .ref z43]))] := hD
  subst hr2
  refine lv_idiv hx hb dX12_passAt_13 (by decide) ?_
  refine wk_i 0 (by decide) ?_
  refine lv_aload_n hx hb dX12_passAt_14 rfl (lv_at hl 0 rfl) ?_
  have hPc := hP.sub (ws' := [(h0, .inr (12, [.ref z0, .ref z1, .ref z2, .ref z3, .ref z4, .ref z5, .ref z20, .ref z21, .ref z22, .ref z23, .ref z24, .ref z25, .int 0, .ref z26, .ref z27, .ref z28, .int 9, .int 0, .int 0, .ref z6, .ref z29, .ref z7, .int 0, .int 2, .ref z19, .ref z8, .ref z9, .ref z10, .int 0, .ref z11, .int 0, .ref z30, .ref z31, .ref z32, .ref z33, .int 0, .ref z12, .int 0, .int 0, .ref z34, .ref z35, .ref z36, .ref z37, .int 0, .int 0, .int 0, .int 0, .ref z38, .int 0, .ref z39, .ref z40, .ref z41, .ref z42, .int 0, .ref z13, .ref z14, .ref z15, .ref z16, .int 0, .ref z17, .ref z18, .ref z43]))]) [0] rfl
  have hDc := hD.sub (ws' := [(h0, .inr (12, [.ref z0, .ref z1, .ref z2, .ref z3, .ref z4, .ref z5, .ref z20, .ref z21, .ref z22, .ref z23, .ref z24, .ref z25, .int 0, .ref z26, .ref z27, .ref z28, .int 9, .int 0, .int 0, .ref z6, .ref z29, .ref z7, .int 0, .int 2, .ref z19, .ref z8, .ref z9, .ref z10, .int 0, .ref z11, .int 0, .ref z30, .ref z31, .ref z32, .ref z33, .int 0, .ref z12, .int 0, .int 0, .ref z34, .ref z35, .ref z36, .ref z37, .int 0, .int 0, .int 0, .int 0, .ref z38, .int 0, .ref z39, .ref z40, .ref z41, .ref z42, .int 0, .ref z13, .ref z14, .ref z15, .ref z16, .int 0, .ref z17, .ref z18, .ref z43]))]) [0] (by decide) rfl
  have hFc := va_free (wc := [(h0, .inr (12, [.ref z0, .ref z1, .ref z2, .ref z3, .ref z4, .ref z5, .ref z20, .ref z21, .ref z22, .ref z23, .ref z24, .ref z25, .int 0, .ref z26, .ref z27, .ref z28, .int 9, .int 0, .int 0, .ref z6, .ref z29, .ref z7, .int 0, .int 2, .ref z19, .ref z8, .ref z9, .ref z10, .int 0, .ref z11, .int 0, .ref z30, .ref z31, .ref z32, .ref z33, .int 0, .ref z12, .int 0, .int 0, .ref z34, .ref z35, .ref z36, .ref z37, .int 0, .int 0, .int 0, .int 0, .ref z38, .int 0, .ref z39, .ref z40, .ref z41, .ref z42, .int 0, .ref z13, .ref z14, .ref z15, .ref z16, .int 0, .ref z17, .ref z18, .ref z43]))]) hD hS hA [0] rfl
  refine va_calli (va_runV (As := []) (rest := [.int 0]) ⟨hx, hb, hml, hown, hts⟩ (kX12_gens l D G h0 z0 z1 z2 z3 z4 z5 z20 z21 z22 z23 z24 z25 z26 z27 z28 z6 z29 z7 z19 z8 z9 z10 z11 z30 z31 z32 z33 z12 z34 z35 z36 z37 z38 z39 z40 z41 z42 z13 z14 z15 z16 z17 z18 z43 0 H.size) (cwV 0 hts gX12_passAt_X12_gens rfl rfl rfl (by decide +kernel) ⟨Nat.le_of_ble_eq_true rfl, Nat.le_of_ble_eq_true rfl⟩) ⟨wB_blind, va_recv hK hPc (ci := 12) (q0 := 0) rfl rfl, wB_pre hPc hK hDc hN⟩ rfl rfl hl.1 rfl (lv_room (Nat.le_of_ble_eq_true rfl)) dX12_passAt_15 ⟨Nat.le_of_ble_eq_true rfl, Nat.le_of_ble_eq_true rfl⟩) hS (fun q _ h => hFc q h) hFc (fun r3 u t H1 locs ht hvm hr3 hB hz1 hk1 hS => ?_)
  obtain ⟨hP1, hK1, hD1⟩ := hB
  rw [ht] at hP1
  obtain ⟨hP, hD⟩ := va_join (wr := []) (w1 := [(h0, .inr (12, [.ref z0, .ref z1, .ref z2, .ref z3, .ref z4, .ref z5, .ref z20, .ref z21, .ref z22, .ref z23, .ref z24, .ref z25, .int 0, .ref z26, .ref z27, .ref z28, .int 9, .int 0, .int 0, .ref z6, .ref z29, .ref z7, .int 0, .int 2, .ref z19, .ref z8, .ref z9, .ref z10, .int 0, .ref z11, .int 0, .ref z30, .ref z31, .ref z32, .ref z33, .int 0, .ref z12, .int 0, .int 0, .ref z34, .ref z35, .ref z36, .ref z37, .int 0, .int 0, .int 0, .int 0, .ref z38, .int 0, .ref z39, .ref z40, .ref z41, .ref z42, .int 0, .ref z13, .ref z14, .ref z15, .ref z16, .int 0, .ref z17, .ref z18, .ref z43]))]) hP hD [0] [] rfl rfl (by decide) (by decide) hk1 hFc hP1 hD1
  clear hPc hDc
  generalize H1 = H at hP hS ⊢
  have hP : va_P D vwCl [(h0, .inr (12, [.ref z0, .ref z1, .ref z2, .ref z3, .ref z4, .ref z5, .ref z20, .ref z21, .ref z22, .ref z23, .ref z24, .ref z25, .int 0, .ref z26, .ref z27, .ref z28, .int 9, .int 0, .int 0, .ref z6, .ref z29, .ref z7, .int 0, .int 2, .ref z19, .ref z8, .ref z9, .ref z10, .int 0, .ref z11, .int 0, .ref z30, .ref z31, .ref z32, .ref z33, .int 0, .ref z12, .int 0, .int 0, .ref z34, .ref z35, .ref z36, .ref z37, .int 0, .int 0, .int 0, .int 0, .ref z38, .int 0, .ref z39, .ref z40, .ref z41, .ref z42, .int 0, .ref z13, .ref z14, .ref z15, .ref z16, .int 0, .ref z17, .ref z18, .ref z43]))] H := hP
  have hD : va_D A [(h0, .inr (12, [.ref z0, .ref z1, .ref z2, .ref z3, .ref z4, .ref z5, .ref z20, .ref z21, .ref z22, .ref z23, .ref z24, .ref z25, .int 0, .ref z26, .ref z27, .ref z28, .int 9, .int 0, .int 0, .ref z6, .ref z29, .ref z7, .int 0, .int 2, .ref z19, .ref z8, .ref z9, .ref z10, .int 0, .ref z11, .int 0, .ref z30, .ref z31, .ref z32, .ref z33, .int 0, .ref z12, .int 0, .int 0, .ref z34, .ref z35, .ref z36, .ref z37, .int 0, .int 0, .int 0, .int 0, .ref z38, .int 0, .ref z39, .ref z40, .ref z41, .ref z42, .int 0, .ref z13, .ref z14, .ref z15, .ref z16, .int 0, .ref z17, .ref z18, .ref z43]))] := hD
  subst hr3
  refine lv_irem hx hb dX12_passAt_18 (by decide) ?_
  refine wk_i 0 (by decide) ?_
  have hPc := hP.sub (ws' := []) [] rfl
  have hDc := hD.sub (ws' := []) [] (by decide) rfl
  have hFc := va_free (wc := []) hD hS hA [] rfl
  refine va_calli (va_runS (As := [.int 0]) (rest := []) ⟨hx, hb, hml, hown, hts⟩ (kX12_passOf_0 l D G  H.size) (va_cwS 1 hts gX12_passAt_X12_passOf rfl rfl rfl (by decide +kernel) ⟨Nat.le_of_ble_eq_true rfl, Nat.le_of_ble_eq_true rfl⟩) ⟨wB_blind, wB_pre hPc hK hDc hN⟩ rfl rfl hl.1 rfl (lv_room (Nat.le_of_ble_eq_true rfl)) dX12_passAt_19 ⟨Nat.le_of_ble_eq_true rfl, Nat.le_of_ble_eq_true rfl⟩) hS (fun q _ h => hFc q h) hFc (fun r4 u t H1 locs ht hvm hr4 hB hz1 hk1 hS => ?_)
  obtain ⟨hP, hD⟩ := va_join (wr := [(h0, .inr (12, [.ref z0, .ref z1, .ref z2, .ref z3, .ref z4, .ref z5, .ref z20, .ref z21, .ref z22, .ref z23, .ref z24, .ref z25, .int 0, .ref z26, .ref z27, .ref z28, .int 9, .int 0, .int 0, .ref z6, .ref z29, .ref z7, .int 0, .int 2, .ref z19, .ref z8, .ref z9, .ref z10, .int 0, .ref z11, .int 0, .ref z30, .ref z31, .ref z32, .ref z33, .int 0, .ref z12, .int 0, .int 0, .ref z34, .ref z35, .ref z36, .ref z37, .int 0, .int 0, .int 0, .int 0, .ref z38, .int 0, .ref z39, .ref z40, .ref z41, .ref z42, .int 0, .ref z13, .ref z14, .ref z15, .ref z16, .int 0, .ref z17, .ref z18, .ref z43]))]) (w1 := []) hP hD [] [0] rfl rfl (by decide) (by decide) hk1 hFc wP_nil wD_nil
  clear hPc hDc
  generalize H1 = H at hP hS ⊢
  have hP : va_P D vwCl [(h0, .inr (12, [.ref z0, .ref z1, .ref z2, .ref z3, .ref z4, .ref z5, .ref z20, .ref z21, .ref z22, .ref z23, .ref z24, .ref z25, .int 0, .ref z26, .ref z27, .ref z28, .int 9, .int 0, .int 0, .ref z6, .ref z29, .ref z7, .int 0, .int 2, .ref z19, .ref z8, .ref z9, .ref z10, .int 0, .ref z11, .int 0, .ref z30, .ref z31, .ref z32, .ref z33, .int 0, .ref z12, .int 0, .int 0, .ref z34, .ref z35, .ref z36, .ref z37, .int 0, .int 0, .int 0, .int 0, .ref z38, .int 0, .ref z39, .ref z40, .ref z41, .ref z42, .int 0, .ref z13, .ref z14, .ref z15, .ref z16, .int 0, .ref z17, .ref z18, .ref z43]))] H := hP
  have hD : va_D A [(h0, .inr (12, [.ref z0, .ref z1, .ref z2, .ref z3, .ref z4, .ref z5, .ref z20, .ref z21, .ref z22, .ref z23, .ref z24, .ref z25, .int 0, .ref z26, .ref z27, .ref z28, .int 9, .int 0, .int 0, .ref z6, .ref z29, .ref z7, .int 0, .int 2, .ref z19, .ref z8, .ref z9, .ref z10, .int 0, .ref z11, .int 0, .ref z30, .ref z31, .ref z32, .ref z33, .int 0, .ref z12, .int 0, .int 0, .ref z34, .ref z35, .ref z36, .ref z37, .int 0, .int 0, .int 0, .int 0, .ref z38, .int 0, .ref z39, .ref z40, .ref z41, .ref z42, .int 0, .ref z13, .ref z14, .ref z15, .ref z16, .int 0, .ref z17, .ref z18, .ref z43]))] := hD
  subst hr4
  have hP9 := hP.sub (ws' := [(h0, .inr (12, [.ref z0, .ref z1, .ref z2, .ref z3, .ref z4, .ref z5, .ref z20, .ref z21, .ref z22, .ref z23, .ref z24, .ref z25, .int 0, .ref z26, .ref z27, .ref z28, .int 9, .int 0, .int 0, .ref z6, .ref z29, .ref z7, .int 0, .int 2, .ref z19, .ref z8, .ref z9, .ref z10, .int 0, .ref z11, .int 0, .ref z30, .ref z31, .ref z32, .ref z33, .int 0, .ref z12, .int 0, .int 0, .ref z34, .ref z35, .ref z36, .ref z37, .int 0, .int 0, .int 0, .int 0, .ref z38, .int 0, .ref z39, .ref z40, .ref z41, .ref z42, .int 0, .ref z13, .ref z14, .ref z15, .ref z16, .int 0, .ref z17, .ref z18, .ref z43]))]) [0] rfl
  have hD9 := hD.sub (ws' := [(h0, .inr (12, [.ref z0, .ref z1, .ref z2, .ref z3, .ref z4, .ref z5, .ref z20, .ref z21, .ref z22, .ref z23, .ref z24, .ref z25, .int 0, .ref z26, .ref z27, .ref z28, .int 9, .int 0, .int 0, .ref z6, .ref z29, .ref z7, .int 0, .int 2, .ref z19, .ref z8, .ref z9, .ref z10, .int 0, .ref z11, .int 0, .ref z30, .ref z31, .ref z32, .ref z33, .int 0, .ref z12, .int 0, .int 0, .ref z34, .ref z35, .ref z36, .ref z37, .int 0, .int 0, .int 0, .int 0, .ref z38, .int 0, .ref z39, .ref z40, .ref z41, .ref z42, .int 0, .ref z13, .ref z14, .ref z15, .ref z16, .int 0, .ref z17, .ref z18, .ref z43]))]) [0] (by decide) rfl
  exact W.iret (v := 1) hx hb hr (fun t ht hW => ⟨⟨1, (), rfl, rfl, ⟨by rw [ht]; exact hP9, va_K.moved hW.alike hK, hD9⟩⟩, hS.F ht⟩) hS.2.2 dX12_passAt_22

set_option maxHeartbeats 4000000 in
set_option maxRecDepth 100000 in
/-- X12_passAt -/
theorem kX12_passAt_3_0_2 (l : Launch) (D : va_G) (G : tyG) (h0 : Nat) (z0 : Nat) (z1 : Nat) (z2 : Nat) (z3 : Nat) (z4 : Nat) (z5 : Nat) (z20 : Nat) (z21 : Nat) (z22 : Nat) (z23 : Nat) (z24 : Nat) (z25 : Nat) (z26 : Nat) (z27 : Nat) (z28 : Nat) (z6 : Nat) (z29 : Nat) (z7 : Nat) (z19 : Nat) (z8 : Nat) (z9 : Nat) (z10 : Nat) (z11 : Nat) (z30 : Nat) (z31 : Nat) (z32 : Nat) (z33 : Nat) (z12 : Nat) (z34 : Nat) (z35 : Nat) (z36 : Nat) (z37 : Nat) (z38 : Nat) (z39 : Nat) (z40 : Nat) (z41 : Nat) (z42 : Nat) (z13 : Nat) (z14 : Nat) (z15 : Nat) (z16 : Nat) (z17 : Nat) (z18 : Nat) (z43 : Nat) (sz : Nat) : Met l yX12_passAt wsX12_passAt ({ frames := 1, cells := 0, slots := 0, locals := 23 }) (va_Pc [.ref h0, .int 0, .int 3, .int 2] (wB D G sz [(h0, .inr (12, [.ref z0, .ref z1, .ref z2, .ref z3, .ref z4, .ref z5, .ref z20, .ref z21, .ref z22, .ref z23, .ref z24, .ref z25, .int 0, .ref z26, .ref z27, .ref z28, .int 9, .int 0, .int 0, .ref z6, .ref z29, .ref z7, .int 0, .int 2, .ref z19, .ref z8, .ref z9, .ref z10, .int 0, .ref z11, .int 0, .ref z30, .ref z31, .ref z32, .ref z33, .int 0, .ref z12, .int 0, .int 0, .ref z34, .ref z35, .ref z36, .ref z37, .int 0, .int 0, .int 0, .int 0, .ref z38, .int 0, .ref z39, .ref z40, .ref z41, .ref z42, .int 0, .ref z13, .ref z14, .ref z15, .ref z16, .int 0, .ref z17, .ref z18, .ref z43]))])) (va_Qi (fun (r : Int32) (_ : Unit) => r = 1) (fun _ t => wS D G (va_A [(h0, .inr (12, [.ref z0, .ref z1, .ref z2, .ref z3, .ref z4, .ref z5, .ref z20, .ref z21, .ref z22, .ref z23, .ref z24, .ref z25, .int 0, .ref z26, .ref z27, .ref z28, .int 9, .int 0, .int 0, .ref z6, .ref z29, .ref z7, .int 0, .int 2, .ref z19, .ref z8, .ref z9, .ref z10, .int 0, .ref z11, .int 0, .ref z30, .ref z31, .ref z32, .ref z33, .int 0, .ref z12, .int 0, .int 0, .ref z34, .ref z35, .ref z36, .ref z37, .int 0, .int 0, .int 0, .int 0, .ref z38, .int 0, .ref z39, .ref z40, .ref z41, .ref z42, .int 0, .ref z13, .ref z14, .ref z15, .ref z16, .int 0, .ref z17, .ref z18, .ref z43]))] sz) [(h0, .inr (12, [.ref z0, .ref z1, .ref z2, .ref z3, .ref z4, .ref z5, .ref z20, .ref z21, .ref z22, .ref z23, .ref z24, .ref z25, .int 0, .ref z26, .ref z27, .ref z28, .int 9, .int 0, .int 0, .ref z6, .ref z29, .ref z7, .int 0, .int 2, .ref z19, .ref z8, .ref z9, .ref z10, .int 0, .ref z11, .int 0, .ref z30, .ref z31, .ref z32, .ref z33, .int 0, .ref z12, .int 0, .int 0, .ref z34, .ref z35, .ref z36, .ref z37, .int 0, .int 0, .int 0, .int 0, .ref z38, .int 0, .ref z39, .ref z40, .ref z41, .ref z42, .int 0, .ref z13, .ref z14, .ref z15, .ref z16, .int 0, .ref z17, .ref z18, .ref z43]))] t) (va_A [(h0, .inr (12, [.ref z0, .ref z1, .ref z2, .ref z3, .ref z4, .ref z5, .ref z20, .ref z21, .ref z22, .ref z23, .ref z24, .ref z25, .int 0, .ref z26, .ref z27, .ref z28, .int 9, .int 0, .int 0, .ref z6, .ref z29, .ref z7, .int 0, .int 2, .ref z19, .ref z8, .ref z9, .ref z10, .int 0, .ref z11, .int 0, .ref z30, .ref z31, .ref z32, .ref z33, .int 0, .ref z12, .int 0, .int 0, .ref z34, .ref z35, .ref z36, .ref z37, .int 0, .int 0, .int 0, .int 0, .ref z38, .int 0, .ref z39, .ref z40, .ref z41, .ref z42, .int 0, .ref z13, .ref z14, .ref z15, .ref z16, .int 0, .ref z17, .ref z18, .ref z43]))] sz)) 0 0 (va_A [(h0, .inr (12, [.ref z0, .ref z1, .ref z2, .ref z3, .ref z4, .ref z5, .ref z20, .ref z21, .ref z22, .ref z23, .ref z24, .ref z25, .int 0, .ref z26, .ref z27, .ref z28, .int 9, .int 0, .int 0, .ref z6, .ref z29, .ref z7, .int 0, .int 2, .ref z19, .ref z8, .ref z9, .ref z10, .int 0, .ref z11, .int 0, .ref z30, .ref z31, .ref z32, .ref z33, .int 0, .ref z12, .int 0, .int 0, .ref z34, .ref z35, .ref z36, .ref z37, .int 0, .int 0, .int 0, .int 0, .ref z38, .int 0, .ref z39, .ref z40, .ref z41, .ref z42, .int 0, .ref z13, .ref z14, .ref z15, .ref z16, .int 0, .ref z17, .ref z18, .ref z43]))] sz) := by
  refine Met.ofW (cc := cX12_passAt) (maxL := 4) (ret := (some .int)) (by decide) rfl ?_
  intro p e s m args below meth c s₁ B hml hv
  obtain ⟨rfl, hsz, hP, hK, hD0, hN⟩ := hv
  have hx := B.exec
  have hb := B.bytes
  have hr := B.returns
  have hts := atoms_spec (ws := wsX12_passAt) B.pre
  have hown : s.vm.findClass RX12 = some m.cls := findClass_of_methodNamed B.named
  have hlocks := B.notSynchronized
  subst hsz
  have hD := hD0.self (sz := s.heap.size)
  generalize hAe : va_A [(h0, .inr (12, [.ref z0, .ref z1, .ref z2, .ref z3, .ref z4, .ref z5, .ref z20, .ref z21, .ref z22, .ref z23, .ref z24, .ref z25, .int 0, .ref z26, .ref z27, .ref z28, .int 9, .int 0, .int 0, .ref z6, .ref z29, .ref z7, .int 0, .int 2, .ref z19, .ref z8, .ref z9, .ref z10, .int 0, .ref z11, .int 0, .ref z30, .ref z31, .ref z32, .ref z33, .int 0, .ref z12, .int 0, .int 0, .ref z34, .ref z35, .ref z36, .ref z37, .int 0, .int 0, .int 0, .int 0, .ref z38, .int 0, .ref z39, .ref z40, .ref z41, .ref z42, .int 0, .ref z13, .ref z14, .ref z15, .ref z16, .int 0, .ref z17, .ref z18, .ref z43]))] s.heap.size = A at hD ⊢
  have hA : ∀ q : Nat, s.heap.size ≤ q → A q := fun q h => by rw [← hAe]; exact Or.inr h
  have hS : va_S A s.heap s.heap [] := va_S.rf
  have hP : va_P D vwCl [(h0, .inr (12, [.ref z0, .ref z1, .ref z2, .ref z3, .ref z4, .ref z5, .ref z20, .ref z21, .ref z22, .ref z23, .ref z24, .ref z25, .int 0, .ref z26, .ref z27, .ref z28, .int 9, .int 0, .int 0, .ref z6, .ref z29, .ref z7, .int 0, .int 2, .ref z19, .ref z8, .ref z9, .ref z10, .int 0, .ref z11, .int 0, .ref z30, .ref z31, .ref z32, .ref z33, .int 0, .ref z12, .int 0, .int 0, .ref z34, .ref z35, .ref z36, .ref z37, .int 0, .int 0, .int 0, .int 0, .ref z38, .int 0, .ref z39, .ref z40, .ref z41, .ref z42, .int 0, .ref z13, .ref z14, .ref z15, .ref z16, .int 0, .ref z17, .ref z18, .ref z43]))] s.heap := hP
  have hl := lv_entry ([.ref h0, .int 0, .int 3, .int 2]) (n := 4) (Nat.le_of_ble_eq_true rfl)
  rw [lg_entry_eq]
  generalize (lg_sl ([.ref h0, .int 0, .int 3, .int 2]) ++ List.replicate (4 - (lg_sl ([.ref h0, .int 0, .int 3, .int 2])).length) Slot.unset).toArray = ls at hl ⊢
  have hl : lv_has ls 4 [(0, .ref h0), (1, .int 0), (2, .int 3), (3, .int 2)] := hl
  refine lv_iload_n hx hb dX12_passAt_0 rfl (lv_at hl 1 rfl) ?_
  refine lv_aload_n hx hb dX12_passAt_1 rfl (lv_at hl 0 rfl) ?_
  have hPc := hP.sub (ws' := [(h0, .inr (12, [.ref z0, .ref z1, .ref z2, .ref z3, .ref z4, .ref z5, .ref z20, .ref z21, .ref z22, .ref z23, .ref z24, .ref z25, .int 0, .ref z26, .ref z27, .ref z28, .int 9, .int 0, .int 0, .ref z6, .ref z29, .ref z7, .int 0, .int 2, .ref z19, .ref z8, .ref z9, .ref z10, .int 0, .ref z11, .int 0, .ref z30, .ref z31, .ref z32, .ref z33, .int 0, .ref z12, .int 0, .int 0, .ref z34, .ref z35, .ref z36, .ref z37, .int 0, .int 0, .int 0, .int 0, .ref z38, .int 0, .ref z39, .ref z40, .ref z41, .ref z42, .int 0, .ref z13, .ref z14, .ref z15, .ref z16, .int 0, .ref z17, .ref z18, .ref z43]))]) [0] rfl
  have hDc := hD.sub (ws' := [(h0, .inr (12, [.ref z0, .ref z1, .ref z2, .ref z3, .ref z4, .ref z5, .ref z20, .ref z21, .ref z22, .ref z23, .ref z24, .ref z25, .int 0, .ref z26, .ref z27, .ref z28, .int 9, .int 0, .int 0, .ref z6, .ref z29, .ref z7, .int 0, .int 2, .ref z19, .ref z8, .ref z9, .ref z10, .int 0, .ref z11, .int 0, .ref z30, .ref z31, .ref z32, .ref z33, .int 0, .ref z12, .int 0, .int 0, .ref z34, .ref z35, .ref z36, .ref z37, .int 0, .int 0, .int 0, .int 0, .ref z38, .int 0, .ref z39, .ref z40, .ref z41, .ref z42, .int 0, .ref z13, .ref z14, .ref z15, .ref z16, .int 0, .ref z17, .ref z18, .ref z43]))]) [0] (by decide) rfl
  have hFc := va_free (wc := [(h0, .inr (12, [.ref z0, .ref z1, .ref z2, .ref z3, .ref z4, .ref z5, .ref z20, .ref z21, .ref z22, .ref z23, .ref z24, .ref z25, .int 0, .ref z26, .ref z27, .ref z28, .int 9, .int 0, .int 0, .ref z6, .ref z29, .ref z7, .int 0, .int 2, .ref z19, .ref z8, .ref z9, .ref z10, .int 0, .ref z11, .int 0, .ref z30, .ref z31, .ref z32, .ref z33, .int 0, .ref z12, .int 0, .int 0, .ref z34, .ref z35, .ref z36, .ref z37, .int 0, .int 0, .int 0, .int 0, .ref z38, .int 0, .ref z39, .ref z40, .ref z41, .ref z42, .int 0, .ref z13, .ref z14, .ref z15, .ref z16, .int 0, .ref z17, .ref z18, .ref z43]))]) hD hS hA [0] rfl
  refine va_calli (va_runV (As := []) (rest := [.int 0]) ⟨hx, hb, hml, hown, hts⟩ (kX12_gens l D G h0 z0 z1 z2 z3 z4 z5 z20 z21 z22 z23 z24 z25 z26 z27 z28 z6 z29 z7 z19 z8 z9 z10 z11 z30 z31 z32 z33 z12 z34 z35 z36 z37 z38 z39 z40 z41 z42 z13 z14 z15 z16 z17 z18 z43 0 s.heap.size) (cwV 0 hts gX12_passAt_X12_gens rfl rfl rfl (by decide +kernel) ⟨Nat.le_of_ble_eq_true rfl, Nat.le_of_ble_eq_true rfl⟩) ⟨wB_blind, va_recv hK hPc (ci := 12) (q0 := 0) rfl rfl, wB_pre hPc hK hDc hN⟩ rfl rfl hl.1 rfl (lv_room (Nat.le_of_ble_eq_true rfl)) dX12_passAt_2 ⟨Nat.le_of_ble_eq_true rfl, Nat.le_of_ble_eq_true rfl⟩) hS (fun q _ h => hFc q h) hFc (fun r1 u t H1 locs ht hvm hr1 hB hz1 hk1 hS => ?_)
  obtain ⟨hP1, hK1, hD1⟩ := hB
  rw [ht] at hP1
  obtain ⟨hP, hD⟩ := va_join (wr := []) (w1 := [(h0, .inr (12, [.ref z0, .ref z1, .ref z2, .ref z3, .ref z4, .ref z5, .ref z20, .ref z21, .ref z22, .ref z23, .ref z24, .ref z25, .int 0, .ref z26, .ref z27, .ref z28, .int 9, .int 0, .int 0, .ref z6, .ref z29, .ref z7, .int 0, .int 2, .ref z19, .ref z8, .ref z9, .ref z10, .int 0, .ref z11, .int 0, .ref z30, .ref z31, .ref z32, .ref z33, .int 0, .ref z12, .int 0, .int 0, .ref z34, .ref z35, .ref z36, .ref z37, .int 0, .int 0, .int 0, .int 0, .ref z38, .int 0, .ref z39, .ref z40, .ref z41, .ref z42, .int 0, .ref z13, .ref z14, .ref z15, .ref z16, .int 0, .ref z17, .ref z18, .ref z43]))]) hP hD [0] [] rfl rfl (by decide) (by decide) hk1 hFc hP1 hD1
  clear hPc hDc
  generalize H1 = H at hP hS ⊢
  have hP : va_P D vwCl [(h0, .inr (12, [.ref z0, .ref z1, .ref z2, .ref z3, .ref z4, .ref z5, .ref z20, .ref z21, .ref z22, .ref z23, .ref z24, .ref z25, .int 0, .ref z26, .ref z27, .ref z28, .int 9, .int 0, .int 0, .ref z6, .ref z29, .ref z7, .int 0, .int 2, .ref z19, .ref z8, .ref z9, .ref z10, .int 0, .ref z11, .int 0, .ref z30, .ref z31, .ref z32, .ref z33, .int 0, .ref z12, .int 0, .int 0, .ref z34, .ref z35, .ref z36, .ref z37, .int 0, .int 0, .int 0, .int 0, .ref z38, .int 0, .ref z39, .ref z40, .ref z41, .ref z42, .int 0, .ref z13, .ref z14, .ref z15, .ref z16, .int 0, .ref z17, .ref z18, .ref z43]))] H := hP
  have hD : va_D A [(h0, .inr (12, [.ref z0, .ref z1, .ref z2, .ref z3, .ref z4, .ref z5, .ref z20, .ref z21, .ref z22, .ref z23, .ref z24, .ref z25, .int 0, .ref z26, .ref z27, .ref z28, .int 9, .int 0, .int 0, .ref z6, .ref z29, .ref z7, .int 0, .int 2, .ref z19, .ref z8, .ref z9, .ref z10, .int 0, .ref z11, .int 0, .ref z30, .ref z31, .ref z32, .ref z33, .int 0, .ref z12, .int 0, .int 0, .ref z34, .ref z35, .ref z36, .ref z37, .int 0, .int 0, .int 0, .int 0, .ref z38, .int 0, .ref z39, .ref z40, .ref z41, .ref z42, .int 0, .ref z13, .ref z14, .ref z15, .ref z16, .int 0, .ref z17, .ref z18, .ref z43]))] := hD
  subst hr1
  refine lv_iload_n hx hb dX12_passAt_5 rfl (lv_at hl 2 rfl) ?_
  refine lv_iconst (v := 1) hx hb dX12_passAt_6 (by decide) ?_
  refine lv_isub hx hb dX12_passAt_7 ?_
  refine wk_i 2 (by decide) ?_
  refine lv_iload_n hx hb dX12_passAt_8 rfl (lv_at hl 3 rfl) ?_
  refine lv_isub hx hb dX12_passAt_9 ?_
  refine wk_i 0 (by decide) ?_
  have hPc := hP.sub (ws' := []) [] rfl
  have hDc := hD.sub (ws' := []) [] (by decide) rfl
  have hFc := va_free (wc := []) hD hS hA [] rfl
  refine va_calli (va_runS (As := [.int 2, .int 0]) (rest := [.int 0]) ⟨hx, hb, hml, hown, hts⟩ (kX12_power_0 l D G  H.size) (va_cwS 2 hts gX12_passAt_X12_power rfl rfl rfl (by decide +kernel) ⟨Nat.le_of_ble_eq_true rfl, Nat.le_of_ble_eq_true rfl⟩) ⟨wB_blind, wB_pre hPc hK hDc hN⟩ rfl rfl hl.1 rfl (lv_room (Nat.le_of_ble_eq_true rfl)) dX12_passAt_10 ⟨Nat.le_of_ble_eq_true rfl, Nat.le_of_ble_eq_true rfl⟩) hS (fun q _ h => hFc q h) hFc (fun r2 u t H1 locs ht hvm hr2 hB hz1 hk1 hS => ?_)
  obtain ⟨hP, hD⟩ := va_join (wr := [(h0, .inr (12, [.ref z0, .ref z1, .ref z2, .ref z3, .ref z4, .ref z5, .ref z20, .ref z21, .ref z22, .ref z23, .ref z24, .ref z25, .int 0, .ref z26, .ref z27, .ref z28, .int 9, .int 0, .int 0, .ref z6, .ref z29, .ref z7, .int 0, .int 2, .ref z19, .ref z8, .ref z9, .ref z10, .int 0, .ref z11, .int 0, .ref z30, .ref z31, .ref z32, .ref z33, .int 0, .ref z12, .int 0, .int 0, .ref z34, .ref z35, .ref z36, .ref z37, .int 0, .int 0, .int 0, .int 0, .ref z38, .int 0, .ref z39, .ref z40, .ref z41, .ref z42, .int 0, .ref z13, .ref z14, .ref z15, .ref z16, .int 0, .ref z17, .ref z18, .ref z43]))]) (w1 := []) hP hD [] [0] rfl rfl (by decide) (by decide) hk1 hFc wP_nil wD_nil
  clear hPc hDc
  generalize H1 = H at hP hS ⊢
  have hP : va_P D vwCl [(h0, .inr (12, [.ref z0, .ref z1, .ref z2, .ref z3, .ref z4, .ref z5, .ref z20, .ref z21, .ref z22, .ref z23, .ref z24, .ref z25, .int 0, .ref z26, .ref z27, .ref z28, .int 9, .int 0, .int 0, .ref z6, .ref z29, .ref z7, .int 0, .int 2, .ref z19, .ref z8, .ref z9, .ref z10, .int 0, .ref z11, .int 0, .ref z30, .ref z31, .ref z32, .ref z33, .int 0, .ref z12, .int 0, .int 0, .ref z34, .ref z35, .ref z36, .ref z37, .int 0, .int 0, .int 0, .int 0, .ref z38, .int 0, .ref z39, .ref z40, .ref z41, .ref z42, .int 0, .ref z13, .ref z14, .ref z15, .ref z16, .int 0, .ref z17, .ref z18, .ref z43]))] H := hP
  have hD : va_D A [(h0, .inr (12, [.ref z0, .ref z1, .ref z2, .ref z3, .ref z4, .ref z5, .ref z20, .ref z21, .ref z22, .ref z23, .ref z24, .ref z25, .int 0, .ref z26, .ref z27, .ref z28, .int 9, .int 0, .int 0, .ref z6, .ref z29, .ref z7, .int 0, .int 2, .ref z19, .ref z8, .ref z9, .ref z10, .int 0, .ref z11, .int 0, .ref z30, .ref z31, .ref z32, .ref z33, .int 0, .ref z12, .int 0, .int 0, .ref z34, .ref z35, .ref z36, .ref z37, .int 0, .int 0, .int 0, .int 0, .ref z38, .int 0, .ref z39, .ref z40, .ref z41, .ref z42, .int 0, .ref z13, .ref z14, .ref z15, .ref z16, .int 0, .ref z17, .ref z18, .ref z43]))] := hD
  subst hr2
  refine lv_idiv hx hb dX12_passAt_13 (by decide) ?_
  refine wk_i 0 (by decide) ?_
  refine lv_aload_n hx hb dX12_passAt_14 rfl (lv_at hl 0 rfl) ?_
  have hPc := hP.sub (ws' := [(h0, .inr (12, [.ref z0, .ref z1, .ref z2, .ref z3, .ref z4, .ref z5, .ref z20, .ref z21, .ref z22, .ref z23, .ref z24, .ref z25, .int 0, .ref z26, .ref z27, .ref z28, .int 9, .int 0, .int 0, .ref z6, .ref z29, .ref z7, .int 0, .int 2, .ref z19, .ref z8, .ref z9, .ref z10, .int 0, .ref z11, .int 0, .ref z30, .ref z31, .ref z32, .ref z33, .int 0, .ref z12, .int 0, .int 0, .ref z34, .ref z35, .ref z36, .ref z37, .int 0, .int 0, .int 0, .int 0, .ref z38, .int 0, .ref z39, .ref z40, .ref z41, .ref z42, .int 0, .ref z13, .ref z14, .ref z15, .ref z16, .int 0, .ref z17, .ref z18, .ref z43]))]) [0] rfl
  have hDc := hD.sub (ws' := [(h0, .inr (12, [.ref z0, .ref z1, .ref z2, .ref z3, .ref z4, .ref z5, .ref z20, .ref z21, .ref z22, .ref z23, .ref z24, .ref z25, .int 0, .ref z26, .ref z27, .ref z28, .int 9, .int 0, .int 0, .ref z6, .ref z29, .ref z7, .int 0, .int 2, .ref z19, .ref z8, .ref z9, .ref z10, .int 0, .ref z11, .int 0, .ref z30, .ref z31, .ref z32, .ref z33, .int 0, .ref z12, .int 0, .int 0, .ref z34, .ref z35, .ref z36, .ref z37, .int 0, .int 0, .int 0, .int 0, .ref z38, .int 0, .ref z39, .ref z40, .ref z41, .ref z42, .int 0, .ref z13, .ref z14, .ref z15, .ref z16, .int 0, .ref z17, .ref z18, .ref z43]))]) [0] (by decide) rfl
  have hFc := va_free (wc := [(h0, .inr (12, [.ref z0, .ref z1, .ref z2, .ref z3, .ref z4, .ref z5, .ref z20, .ref z21, .ref z22, .ref z23, .ref z24, .ref z25, .int 0, .ref z26, .ref z27, .ref z28, .int 9, .int 0, .int 0, .ref z6, .ref z29, .ref z7, .int 0, .int 2, .ref z19, .ref z8, .ref z9, .ref z10, .int 0, .ref z11, .int 0, .ref z30, .ref z31, .ref z32, .ref z33, .int 0, .ref z12, .int 0, .int 0, .ref z34, .ref z35, .ref z36, .ref z37, .int 0, .int 0, .int 0, .int 0, .ref z38, .int 0, .ref z39, .ref z40, .ref z41, .ref z42, .int 0, .ref z13, .ref z14, .ref z15, .ref z16, .int 0, .ref z17, .ref z18, .ref z43]))]) hD hS hA [0] rfl
  refine va_calli (va_runV (As := []) (rest := [.int 0]) ⟨hx, hb, hml, hown, hts⟩ (kX12_gens l D G h0 z0 z1 z2 z3 z4 z5 z20 z21 z22 z23 z24 z25 z26 z27 z28 z6 z29 z7 z19 z8 z9 z10 z11 z30 z31 z32 z33 z12 z34 z35 z36 z37 z38 z39 z40 z41 z42 z13 z14 z15 z16 z17 z18 z43 0 H.size) (cwV 0 hts gX12_passAt_X12_gens rfl rfl rfl (by decide +kernel) ⟨Nat.le_of_ble_eq_true rfl, Nat.le_of_ble_eq_true rfl⟩) ⟨wB_blind, va_recv hK hPc (ci := 12) (q0 := 0) rfl rfl, wB_pre hPc hK hDc hN⟩ rfl rfl hl.1 rfl (lv_room (Nat.le_of_ble_eq_true rfl)) dX12_passAt_15 ⟨Nat.le_of_ble_eq_true rfl, Nat.le_of_ble_eq_true rfl⟩) hS (fun q _ h => hFc q h) hFc (fun r3 u t H1 locs ht hvm hr3 hB hz1 hk1 hS => ?_)
  obtain ⟨hP1, hK1, hD1⟩ := hB
  rw [ht] at hP1
  obtain ⟨hP, hD⟩ := va_join (wr := []) (w1 := [(h0, .inr (12, [.ref z0, .ref z1, .ref z2, .ref z3, .ref z4, .ref z5, .ref z20, .ref z21, .ref z22, .ref z23, .ref z24, .ref z25, .int 0, .ref z26, .ref z27, .ref z28, .int 9, .int 0, .int 0, .ref z6, .ref z29, .ref z7, .int 0, .int 2, .ref z19, .ref z8, .ref z9, .ref z10, .int 0, .ref z11, .int 0, .ref z30, .ref z31, .ref z32, .ref z33, .int 0, .ref z12, .int 0, .int 0, .ref z34, .ref z35, .ref z36, .ref z37, .int 0, .int 0, .int 0, .int 0, .ref z38, .int 0, .ref z39, .ref z40, .ref z41, .ref z42, .int 0, .ref z13, .ref z14, .ref z15, .ref z16, .int 0, .ref z17, .ref z18, .ref z43]))]) hP hD [0] [] rfl rfl (by decide) (by decide) hk1 hFc hP1 hD1
  clear hPc hDc
  generalize H1 = H at hP hS ⊢
  have hP : va_P D vwCl [(h0, .inr (12, [.ref z0, .ref z1, .ref z2, .ref z3, .ref z4, .ref z5, .ref z20, .ref z21, .ref z22, .ref z23, .ref z24, .ref z25, .int 0, .ref z26, .ref z27, .ref z28, .int 9, .int 0, .int 0, .ref z6, .ref z29, .ref z7, .int 0, .int 2, .ref z19, .ref z8, .ref z9, .ref z10, .int 0, .ref z11, .int 0, .ref z30, .ref z31, .ref z32, .ref z33, .int 0, .ref z12, .int 0, .int 0, .ref z34, .ref z35, .ref z36, .ref z37, .int 0, .int 0, .int 0, .int 0, .ref z38, .int 0, .ref z39, .ref z40, .ref z41, .ref z42, .int 0, .ref z13, .ref z14, .ref z15, .ref z16, .int 0, .ref z17, .ref z18, .ref z43]))] H := hP
  have hD : va_D A [(h0, .inr (12, [.ref z0, .ref z1, .ref z2, .ref z3, .ref z4, .ref z5, .ref z20, .ref z21, .ref z22, .ref z23, .ref z24, .ref z25, .int 0, .ref z26, .ref z27, .ref z28, .int 9, .int 0, .int 0, .ref z6, .ref z29, .ref z7, .int 0, .int 2, .ref z19, .ref z8, .ref z9, .ref z10, .int 0, .ref z11, .int 0, .ref z30, .ref z31, .ref z32, .ref z33, .int 0, .ref z12, .int 0, .int 0, .ref z34, .ref z35, .ref z36, .ref z37, .int 0, .int 0, .int 0, .int 0, .ref z38, .int 0, .ref z39, .ref z40, .ref z41, .ref z42, .int 0, .ref z13, .ref z14, .ref z15, .ref z16, .int 0, .ref z17, .ref z18, .ref z43]))] := hD
  subst hr3
  refine lv_irem hx hb dX12_passAt_18 (by decide) ?_
  refine wk_i 0 (by decide) ?_
  have hPc := hP.sub (ws' := []) [] rfl
  have hDc := hD.sub (ws' := []) [] (by decide) rfl
  have hFc := va_free (wc := []) hD hS hA [] rfl
  refine va_calli (va_runS (As := [.int 0]) (rest := []) ⟨hx, hb, hml, hown, hts⟩ (kX12_passOf_0 l D G  H.size) (va_cwS 1 hts gX12_passAt_X12_passOf rfl rfl rfl (by decide +kernel) ⟨Nat.le_of_ble_eq_true rfl, Nat.le_of_ble_eq_true rfl⟩) ⟨wB_blind, wB_pre hPc hK hDc hN⟩ rfl rfl hl.1 rfl (lv_room (Nat.le_of_ble_eq_true rfl)) dX12_passAt_19 ⟨Nat.le_of_ble_eq_true rfl, Nat.le_of_ble_eq_true rfl⟩) hS (fun q _ h => hFc q h) hFc (fun r4 u t H1 locs ht hvm hr4 hB hz1 hk1 hS => ?_)
  obtain ⟨hP, hD⟩ := va_join (wr := [(h0, .inr (12, [.ref z0, .ref z1, .ref z2, .ref z3, .ref z4, .ref z5, .ref z20, .ref z21, .ref z22, .ref z23, .ref z24, .ref z25, .int 0, .ref z26, .ref z27, .ref z28, .int 9, .int 0, .int 0, .ref z6, .ref z29, .ref z7, .int 0, .int 2, .ref z19, .ref z8, .ref z9, .ref z10, .int 0, .ref z11, .int 0, .ref z30, .ref z31, .ref z32, .ref z33, .int 0, .ref z12, .int 0, .int 0, .ref z34, .ref z35, .ref z36, .ref z37, .int 0, .int 0, .int 0, .int 0, .ref z38, .int 0, .ref z39, .ref z40, .ref z41, .ref z42, .int 0, .ref z13, .ref z14, .ref z15, .ref z16, .int 0, .ref z17, .ref z18, .ref z43]))]) (w1 := []) hP hD [] [0] rfl rfl (by decide) (by decide) hk1 hFc wP_nil wD_nil
  clear hPc hDc
  generalize H1 = H at hP hS ⊢
  have hP : va_P D vwCl [(h0, .inr (12, [.ref z0, .ref z1, .ref z2, .ref z3, .ref z4, .ref z5, .ref z20, .ref z21, .ref z22, .ref z23, .ref z24, .ref z25, .int 0, .ref z26, .ref z27, .ref z28, .int 9, .int 0, .int 0, .ref z6, .ref z29, .ref z7, .int 0, .int 2, .ref z19, .ref z8, .ref z9, .ref z10, .int 0, .ref z11, .int 0, .ref z30, .ref z31, .ref z32, .ref z33, .int 0, .ref z12, .int 0, .int 0, .ref z34, .ref z35, .ref z36, .ref z37, .int 0, .int 0, .int 0, .int 0, .ref z38, .int 0, .ref z39, .ref z40, .ref z41, .ref z42, .int 0, .ref z13, .ref z14, .ref z15, .ref z16, .int 0, .ref z17, .ref z18, .ref z43]))] H := hP
  have hD : va_D A [(h0, .inr (12, [.ref z0, .ref z1, .ref z2, .ref z3, .ref z4, .ref z5, .ref z20, .ref z21, .ref z22, .ref z23, .ref z24, .ref z25, .int 0, .ref z26, .ref z27, .ref z28, .int 9, .int 0, .int 0, .ref z6, .ref z29, .ref z7, .int 0, .int 2, .ref z19, .ref z8, .ref z9, .ref z10, .int 0, .ref z11, .int 0, .ref z30, .ref z31, .ref z32, .ref z33, .int 0, .ref z12, .int 0, .int 0, .ref z34, .ref z35, .ref z36, .ref z37, .int 0, .int 0, .int 0, .int 0, .ref z38, .int 0, .ref z39, .ref z40, .ref z41, .ref z42, .int 0, .ref z13, .ref z14, .ref z15, .ref z16, .int 0, .ref z17, .ref z18, .ref z43]))] := hD
  subst hr4
  have hP9 := hP.sub (ws' := [(h0, .inr (12, [.ref z0, .ref z1, .ref z2, .ref z3, .ref z4, .ref z5, .ref z20, .ref z21, .ref z22, .ref z23, .ref z24, .ref z25, .int 0, .ref z26, .ref z27, .ref z28, .int 9, .int 0, .int 0, .ref z6, .ref z29, .ref z7, .int 0, .int 2, .ref z19, .ref z8, .ref z9, .ref z10, .int 0, .ref z11, .int 0, .ref z30, .ref z31, .ref z32, .ref z33, .int 0, .ref z12, .int 0, .int 0, .ref z34, .ref z35, .ref z36, .ref z37, .int 0, .int 0, .int 0, .int 0, .ref z38, .int 0, .ref z39, .ref z40, .ref z41, .ref z42, .int 0, .ref z13, .ref z14, .ref z15, .ref z16, .int 0, .ref z17, .ref z18, .ref z43]))]) [0] rfl
  have hD9 := hD.sub (ws' := [(h0, .inr (12, [.ref z0, .ref z1, .ref z2, .ref z3, .ref z4, .ref z5, .ref z20, .ref z21, .ref z22, .ref z23, .ref z24, .ref z25, .int 0, .ref z26, .ref z27, .ref z28, .int 9, .int 0, .int 0, .ref z6, .ref z29, .ref z7, .int 0, .int 2, .ref z19, .ref z8, .ref z9, .ref z10, .int 0, .ref z11, .int 0, .ref z30, .ref z31, .ref z32, .ref z33, .int 0, .ref z12, .int 0, .int 0, .ref z34, .ref z35, .ref z36, .ref z37, .int 0, .int 0, .int 0, .int 0, .ref z38, .int 0, .ref z39, .ref z40, .ref z41, .ref z42, .int 0, .ref z13, .ref z14, .ref z15, .ref z16, .int 0, .ref z17, .ref z18, .ref z43]))]) [0] (by decide) rfl
  exact W.iret (v := 1) hx hb hr (fun t ht hW => ⟨⟨1, (), rfl, rfl, ⟨by rw [ht]; exact hP9, va_K.moved hW.alike hK, hD9⟩⟩, hS.F ht⟩) hS.2.2 dX12_passAt_22

set_option maxHeartbeats 4000000 in
set_option maxRecDepth 100000 in
/-- X12_passAt -/
theorem kX12_passAt_3_1_0 (l : Launch) (D : va_G) (G : tyG) (h0 : Nat) (z0 : Nat) (z1 : Nat) (z2 : Nat) (z3 : Nat) (z4 : Nat) (z5 : Nat) (z20 : Nat) (z21 : Nat) (z22 : Nat) (z23 : Nat) (z24 : Nat) (z25 : Nat) (z26 : Nat) (z27 : Nat) (z28 : Nat) (z6 : Nat) (z29 : Nat) (z7 : Nat) (z19 : Nat) (z8 : Nat) (z9 : Nat) (z10 : Nat) (z11 : Nat) (z30 : Nat) (z31 : Nat) (z32 : Nat) (z33 : Nat) (z12 : Nat) (z34 : Nat) (z35 : Nat) (z36 : Nat) (z37 : Nat) (z38 : Nat) (z39 : Nat) (z40 : Nat) (z41 : Nat) (z42 : Nat) (z13 : Nat) (z14 : Nat) (z15 : Nat) (z16 : Nat) (z17 : Nat) (z18 : Nat) (z43 : Nat) (sz : Nat) : Met l yX12_passAt wsX12_passAt ({ frames := 1, cells := 0, slots := 0, locals := 23 }) (va_Pc [.ref h0, .int 1, .int 3, .int 0] (wB D G sz [(h0, .inr (12, [.ref z0, .ref z1, .ref z2, .ref z3, .ref z4, .ref z5, .ref z20, .ref z21, .ref z22, .ref z23, .ref z24, .ref z25, .int 0, .ref z26, .ref z27, .ref z28, .int 9, .int 0, .int 0, .ref z6, .ref z29, .ref z7, .int 0, .int 2, .ref z19, .ref z8, .ref z9, .ref z10, .int 0, .ref z11, .int 0, .ref z30, .ref z31, .ref z32, .ref z33, .int 0, .ref z12, .int 0, .int 0, .ref z34, .ref z35, .ref z36, .ref z37, .int 0, .int 0, .int 0, .int 0, .ref z38, .int 0, .ref z39, .ref z40, .ref z41, .ref z42, .int 0, .ref z13, .ref z14, .ref z15, .ref z16, .int 0, .ref z17, .ref z18, .ref z43]))])) (va_Qi (fun (r : Int32) (_ : Unit) => r = 1) (fun _ t => wS D G (va_A [(h0, .inr (12, [.ref z0, .ref z1, .ref z2, .ref z3, .ref z4, .ref z5, .ref z20, .ref z21, .ref z22, .ref z23, .ref z24, .ref z25, .int 0, .ref z26, .ref z27, .ref z28, .int 9, .int 0, .int 0, .ref z6, .ref z29, .ref z7, .int 0, .int 2, .ref z19, .ref z8, .ref z9, .ref z10, .int 0, .ref z11, .int 0, .ref z30, .ref z31, .ref z32, .ref z33, .int 0, .ref z12, .int 0, .int 0, .ref z34, .ref z35, .ref z36, .ref z37, .int 0, .int 0, .int 0, .int 0, .ref z38, .int 0, .ref z39, .ref z40, .ref z41, .ref z42, .int 0, .ref z13, .ref z14, .ref z15, .ref z16, .int 0, .ref z17, .ref z18, .ref z43]))] sz) [(h0, .inr (12, [.ref z0, .ref z1, .ref z2, .ref z3, .ref z4, .ref z5, .ref z20, .ref z21, .ref z22, .ref z23, .ref z24, .ref z25, .int 0, .ref z26, .ref z27, .ref z28, .int 9, .int 0, .int 0, .ref z6, .ref z29, .ref z7, .int 0, .int 2, .ref z19, .ref z8, .ref z9, .ref z10, .int 0, .ref z11, .int 0, .ref z30, .ref z31, .ref z32, .ref z33, .int 0, .ref z12, .int 0, .int 0, .ref z34, .ref z35, .ref z36, .ref z37, .int 0, .int 0, .int 0, .int 0, .ref z38, .int 0, .ref z39, .ref z40, .ref z41, .ref z42, .int 0, .ref z13, .ref z14, .ref z15, .ref z16, .int 0, .ref z17, .ref z18, .ref z43]))] t) (va_A [(h0, .inr (12, [.ref z0, .ref z1, .ref z2, .ref z3, .ref z4, .ref z5, .ref z20, .ref z21, .ref z22, .ref z23, .ref z24, .ref z25, .int 0, .ref z26, .ref z27, .ref z28, .int 9, .int 0, .int 0, .ref z6, .ref z29, .ref z7, .int 0, .int 2, .ref z19, .ref z8, .ref z9, .ref z10, .int 0, .ref z11, .int 0, .ref z30, .ref z31, .ref z32, .ref z33, .int 0, .ref z12, .int 0, .int 0, .ref z34, .ref z35, .ref z36, .ref z37, .int 0, .int 0, .int 0, .int 0, .ref z38, .int 0, .ref z39, .ref z40, .ref z41, .ref z42, .int 0, .ref z13, .ref z14, .ref z15, .ref z16, .int 0, .ref z17, .ref z18, .ref z43]))] sz)) 0 0 (va_A [(h0, .inr (12, [.ref z0, .ref z1, .ref z2, .ref z3, .ref z4, .ref z5, .ref z20, .ref z21, .ref z22, .ref z23, .ref z24, .ref z25, .int 0, .ref z26, .ref z27, .ref z28, .int 9, .int 0, .int 0, .ref z6, .ref z29, .ref z7, .int 0, .int 2, .ref z19, .ref z8, .ref z9, .ref z10, .int 0, .ref z11, .int 0, .ref z30, .ref z31, .ref z32, .ref z33, .int 0, .ref z12, .int 0, .int 0, .ref z34, .ref z35, .ref z36, .ref z37, .int 0, .int 0, .int 0, .int 0, .ref z38, .int 0, .ref z39, .ref z40, .ref z41, .ref z42, .int 0, .ref z13, .ref z14, .ref z15, .ref z16, .int 0, .ref z17, .ref z18, .ref z43]))] sz) := by
  refine Met.ofW (cc := cX12_passAt) (maxL := 4) (ret := (some .int)) (by decide) rfl ?_
  intro p e s m args below meth c s₁ B hml hv
  obtain ⟨rfl, hsz, hP, hK, hD0, hN⟩ := hv
  have hx := B.exec
  have hb := B.bytes
  have hr := B.returns
  have hts := atoms_spec (ws := wsX12_passAt) B.pre
  have hown : s.vm.findClass RX12 = some m.cls := findClass_of_methodNamed B.named
  have hlocks := B.notSynchronized
  subst hsz
  have hD := hD0.self (sz := s.heap.size)
  generalize hAe : va_A [(h0, .inr (12, [.ref z0, .ref z1, .ref z2, .ref z3, .ref z4, .ref z5, .ref z20, .ref z21, .ref z22, .ref z23, .ref z24, .ref z25, .int 0, .ref z26, .ref z27, .ref z28, .int 9, .int 0, .int 0, .ref z6, .ref z29, .ref z7, .int 0, .int 2, .ref z19, .ref z8, .ref z9, .ref z10, .int 0, .ref z11, .int 0, .ref z30, .ref z31, .ref z32, .ref z33, .int 0, .ref z12, .int 0, .int 0, .ref z34, .ref z35, .ref z36, .ref z37, .int 0, .int 0, .int 0, .int 0, .ref z38, .int 0, .ref z39, .ref z40, .ref z41, .ref z42, .int 0, .ref z13, .ref z14, .ref z15, .ref z16, .int 0, .ref z17, .ref z18, .ref z43]))] s.heap.size = A at hD ⊢
  have hA : ∀ q : Nat, s.heap.size ≤ q → A q := fun q h => by rw [← hAe]; exact Or.inr h
  have hS : va_S A s.heap s.heap [] := va_S.rf
  have hP : va_P D vwCl [(h0, .inr (12, [.ref z0, .ref z1, .ref z2, .ref z3, .ref z4, .ref z5, .ref z20, .ref z21, .ref z22, .ref z23, .ref z24, .ref z25, .int 0, .ref z26, .ref z27, .ref z28, .int 9, .int 0, .int 0, .ref z6, .ref z29, .ref z7, .int 0, .int 2, .ref z19, .ref z8, .ref z9, .ref z10, .int 0, .ref z11, .int 0, .ref z30, .ref z31, .ref z32, .ref z33, .int 0, .ref z12, .int 0, .int 0, .ref z34, .ref z35, .ref z36, .ref z37, .int 0, .int 0, .int 0, .int 0, .ref z38, .int 0, .ref z39, .ref z40, .ref z41, .ref z42, .int 0, .ref z13, .ref z14, .ref z15, .ref z16, .int 0, .ref z17, .ref z18, .ref z43]))] s.heap := hP
  have hl := lv_entry ([.ref h0, .int 1, .int 3, .int 0]) (n := 4) (Nat.le_of_ble_eq_true rfl)
  rw [lg_entry_eq]
  generalize (lg_sl ([.ref h0, .int 1, .int 3, .int 0]) ++ List.replicate (4 - (lg_sl ([.ref h0, .int 1, .int 3, .int 0])).length) Slot.unset).toArray = ls at hl ⊢
  have hl : lv_has ls 4 [(0, .ref h0), (1, .int 1), (2, .int 3), (3, .int 0)] := hl
  refine lv_iload_n hx hb dX12_passAt_0 rfl (lv_at hl 1 rfl) ?_
  refine lv_aload_n hx hb dX12_passAt_1 rfl (lv_at hl 0 rfl) ?_
  have hPc := hP.sub (ws' := [(h0, .inr (12, [.ref z0, .ref z1, .ref z2, .ref z3, .ref z4, .ref z5, .ref z20, .ref z21, .ref z22, .ref z23, .ref z24, .ref z25, .int 0, .ref z26, .ref z27, .ref z28, .int 9, .int 0, .int 0, .ref z6, .ref z29, .ref z7, .int 0, .int 2, .ref z19, .ref z8, .ref z9, .ref z10, .int 0, .ref z11, .int 0, .ref z30, .ref z31, .ref z32, .ref z33, .int 0, .ref z12, .int 0, .int 0, .ref z34, .ref z35, .ref z36, .ref z37, .int 0, .int 0, .int 0, .int 0, .ref z38, .int 0, .ref z39, .ref z40, .ref z41, .ref z42, .int 0, .ref z13, .ref z14, .ref z15, .ref z16, .int 0, .ref z17, .ref z18, .ref z43]))]) [0] rfl
  have hDc := hD.sub (ws' := [(h0, .inr (12, [.ref z0, .ref z1, .ref z2, .ref z3, .ref z4, .ref z5, .ref z20, .ref z21, .ref z22, .ref z23, .ref z24, .ref z25, .int 0, .ref z26, .ref z27, .ref z28, .int 9, .int 0, .int 0, .ref z6, .ref z29, .ref z7, .int 0, .int 2, .ref z19, .ref z8, .ref z9, .ref z10, .int 0, .ref z11, .int 0, .ref z30, .ref z31, .ref z32, .ref z33, .int 0, .ref z12, .int 0, .int 0, .ref z34, .ref z35, .ref z36, .ref z37, .int 0, .int 0, .int 0, .int 0, .ref z38, .int 0, .ref z39, .ref z40, .ref z41, .ref z42, .int 0, .ref z13, .ref z14, .ref z15, .ref z16, .int 0, .ref z17, .ref z18, .ref z43]))]) [0] (by decide) rfl
  have hFc := va_free (wc := [(h0, .inr (12, [.ref z0, .ref z1, .ref z2, .ref z3, .ref z4, .ref z5, .ref z20, .ref z21, .ref z22, .ref z23, .ref z24, .ref z25, .int 0, .ref z26, .ref z27, .ref z28, .int 9, .int 0, .int 0, .ref z6, .ref z29, .ref z7, .int 0, .int 2, .ref z19, .ref z8, .ref z9, .ref z10, .int 0, .ref z11, .int 0, .ref z30, .ref z31, .ref z32, .ref z33, .int 0, .ref z12, .int 0, .int 0, .ref z34, .ref z35, .ref z36, .ref z37, .int 0, .int 0, .int 0, .int 0, .ref z38, .int 0, .ref z39, .ref z40, .ref z41, .ref z42, .int 0, .ref z13, .ref z14, .ref z15, .ref z16, .int 0, .ref z17, .ref z18, .ref z43]))]) hD hS hA [0] rfl
  refine va_calli (va_runV (As := []) (rest := [.int 1]) ⟨hx, hb, hml, hown, hts⟩ (kX12_gens l D G h0 z0 z1 z2 z3 z4 z5 z20 z21 z22 z23 z24 z25 z26 z27 z28 z6 z29 z7 z19 z8 z9 z10 z11 z30 z31 z32 z33 z12 z34 z35 z36 z37 z38 z39 z40 z41 z42 z13 z14 z15 z16 z17 z18 z43 0 s.heap.size) (cwV 0 hts gX12_passAt_X12_gens rfl rfl rfl (by decide +kernel) ⟨Nat.le_of_ble_eq_true rfl, Nat.le_of_ble_eq_true rfl⟩) ⟨wB_blind, va_recv hK hPc (ci := 12) (q0 := 0) rfl rfl, wB_pre hPc hK hDc hN⟩ rfl rfl hl.1 rfl (lv_room (Nat.le_of_ble_eq_true rfl)) dX12_passAt_2 ⟨Nat.le_of_ble_eq_true rfl, Nat.le_of_ble_eq_true rfl⟩) hS (fun q _ h => hFc q h) hFc (fun r1 u t H1 locs ht hvm hr1 hB hz1 hk1 hS => ?_)
  obtain ⟨hP1, hK1, hD1⟩ := hB
  rw [ht] at hP1
  obtain ⟨hP, hD⟩ := va_join (wr := []) (w1 := [(h0, .inr (12, [.ref z0, .ref z1, .ref z2, .ref z3, .ref z4, .ref z5, .ref z20, .ref z21, .ref z22, .ref z23, .ref z24, .ref z25, .int 0, .ref z26, .ref z27, .ref z28, .int 9, .int 0, .int 0, .ref z6, .ref z29, .ref z7, .int 0, .int 2, .ref z19, .ref z8, .ref z9, .ref z10, .int 0, .ref z11, .int 0, .ref z30, .ref z31, .ref z32, .ref z33, .int 0, .ref z12, .int 0, .int 0, .ref z34, .ref z35, .ref z36, .ref z37, .int 0, .int 0, .int 0, .int 0, .ref z38, .int 0, .ref z39, .ref z40, .ref z41, .ref z42, .int 0, .ref z13, .ref z14, .ref z15, .ref z16, .int 0, .ref z17, .ref z18, .ref z43]))]) hP hD [0] [] rfl rfl (by decide) (by decide) hk1 hFc hP1 hD1
  clear hPc hDc
  generalize H1 = H at hP hS ⊢
  have hP : va_P D vwCl [(h0, .inr (12, [.ref z0, .ref z1, .ref z2, .ref z3, .ref z4, .ref z5, .ref z20, .ref z21, .ref z22, .ref z23, .ref z24, .ref z25, .int 0, .ref z26, .ref z27, .ref z28, .int 9, .int 0, .int 0, .ref z6, .ref z29, .ref z7, .int 0, .int 2, .ref z19, .ref z8, .ref z9, .ref z10, .int 0, .ref z11, .int 0, .ref z30, .ref z31, .ref z32, .ref z33, .int 0, .ref z12, .int 0, .int 0, .ref z34, .ref z35, .ref z36, .ref z37, .int 0, .int 0, .int 0, .int 0, .ref z38, .int 0, .ref z39, .ref z40, .ref z41, .ref z42, .int 0, .ref z13, .ref z14, .ref z15, .ref z16, .int 0, .ref z17, .ref z18, .ref z43]))] H := hP
  have hD : va_D A [(h0, .inr (12, [.ref z0, .ref z1, .ref z2, .ref z3, .ref z4, .ref z5, .ref z20, .ref z21, .ref z22, .ref z23, .ref z24, .ref z25, .int 0, .ref z26, .ref z27, .ref z28, .int 9, .int 0, .int 0, .ref z6, .ref z29, .ref z7, .int 0, .int 2, .ref z19, .ref z8, .ref z9, .ref z10, .int 0, .ref z11, .int 0, .ref z30, .ref z31, .ref z32, .ref z33, .int 0, .ref z12, .int 0, .int 0, .ref z34, .ref z35, .ref z36, .ref z37, .int 0, .int 0, .int 0, .int 0, .ref z38, .int 0, .ref z39, .ref z40, .ref z41, .ref z42, .int 0, .ref z13, .ref z14, .ref z15, .ref z16, .int 0, .ref z17, .ref z18, .ref z43]))] := hD
  subst hr1
  refine lv_iload_n hx hb dX12_passAt_5 rfl (lv_at hl 2 rfl) ?_
  refine lv_iconst (v := 1) hx hb dX12_passAt_6 (by decide) ?_
  refine lv_isub hx hb dX12_passAt_7 ?_
  refine wk_i 2 (by decide) ?_
  refine lv_iload_n hx hb dX12_passAt_8 rfl (lv_at hl 3 rfl) ?_
  refine lv_isub hx hb dX12_passAt_9 ?_
  refine wk_i 2 (by decide) ?_
  have hPc := hP.sub (ws' := []) [] rfl
  have hDc := hD.sub (ws' := []) [] (by decide) rfl
  have hFc := va_free (wc := []) hD hS hA [] rfl
  refine va_calli (va_runS (As := [.int 2, .int 2]) (rest := [.int 1]) ⟨hx, hb, hml, hown, hts⟩ (kX12_power_2 l D G  H.size) (va_cwS 2 hts gX12_passAt_X12_power rfl rfl rfl (by decide +kernel) ⟨Nat.le_of_ble_eq_true rfl, Nat.le_of_ble_eq_true rfl⟩) ⟨wB_blind, wB_pre hPc hK hDc hN⟩ rfl rfl hl.1 rfl (lv_room (Nat.le_of_ble_eq_true rfl)) dX12_passAt_10 ⟨Nat.le_of_ble_eq_true rfl, Nat.le_of_ble_eq_true rfl⟩) hS (fun q _ h => hFc q h) hFc (fun r2 u t H1 locs ht hvm hr2 hB hz1 hk1 hS => ?_)
  obtain ⟨hP, hD⟩ := va_join (wr := [(h0, .inr (12, [.ref z0, .ref z1, .ref z2, .ref z3, .ref z4, .ref z5, .ref z20, .ref z21, .ref z22, .ref z23, .ref z24, .ref z25, .int 0, .ref z26, .ref z27, .ref z28, .int 9, .int 0, .int 0, .ref z6, .ref z29, .ref z7, .int 0, .int 2, .ref z19, .ref z8, .ref z9, .ref z10, .int 0, .ref z11, .int 0, .ref z30, .ref z31, .ref z32, .ref z33, .int 0, .ref z12, .int 0, .int 0, .ref z34, .ref z35, .ref z36, .ref z37, .int 0, .int 0, .int 0, .int 0, .ref z38, .int 0, .ref z39, .ref z40, .ref z41, .ref z42, .int 0, .ref z13, .ref z14, .ref z15, .ref z16, .int 0, .ref z17, .ref z18, .ref z43]))]) (w1 := []) hP hD [] [0] rfl rfl (by decide) (by decide) hk1 hFc wP_nil wD_nil
  clear hPc hDc
  generalize H1 = H at hP hS ⊢
  have hP : va_P D vwCl [(h0, .inr (12, [.ref z0, .ref z1, .ref z2, .ref z3, .ref z4, .ref z5, .ref z20, .ref z21, .ref z22, .ref z23, .ref z24, .ref z25, .int 0, .ref z26, .ref z27, .ref z28, .int 9, .int 0, .int 0, .ref z6, .ref z29, .ref z7, .int 0, .int 2, .ref z19, .ref z8, .ref z9, .ref z10, .int 0, .ref z11, .int 0, .ref z30, .ref z31, .ref z32, .ref z33, .int 0, .ref z12, .int 0, .int 0, .ref z34, .ref z35, .ref z36, .ref z37, .int 0, .int 0, .int 0, .int 0, .ref z38, .int 0, .ref z39, .ref z40, .ref z41, .ref z42, .int 0, .ref z13, .ref z14, .ref z15, .ref z16, .int 0, .ref z17, .ref z18, .ref z43]))] H := hP
  have hD : va_D A [(h0, .inr (12, [.ref z0, .ref z1, .ref z2, .ref z3, .ref z4, .ref z5, .ref z20, .ref z21, .ref z22, .ref z23, .ref z24, .ref z25, .int 0, .ref z26, .ref z27, .ref z28, .int 9, .int 0, .int 0, .ref z6, .ref z29, .ref z7, .int 0, .int 2, .ref z19, .ref z8, .ref z9, .ref z10, .int 0, .ref z11, .int 0, .ref z30, .ref z31, .ref z32, .ref z33, .int 0, .ref z12, .int 0, .int 0, .ref z34, .ref z35, .ref z36, .ref z37, .int 0, .int 0, .int 0, .int 0, .ref z38, .int 0, .ref z39, .ref z40, .ref z41, .ref z42, .int 0, .ref z13, .ref z14, .ref z15, .ref z16, .int 0, .ref z17, .ref z18, .ref z43]))] := hD
  subst hr2
  refine lv_idiv hx hb dX12_passAt_13 (by decide) ?_
  refine wk_i 0 (by decide) ?_
  refine lv_aload_n hx hb dX12_passAt_14 rfl (lv_at hl 0 rfl) ?_
  have hPc := hP.sub (ws' := [(h0, .inr (12, [.ref z0, .ref z1, .ref z2, .ref z3, .ref z4, .ref z5, .ref z20, .ref z21, .ref z22, .ref z23, .ref z24, .ref z25, .int 0, .ref z26, .ref z27, .ref z28, .int 9, .int 0, .int 0, .ref z6, .ref z29, .ref z7, .int 0, .int 2, .ref z19, .ref z8, .ref z9, .ref z10, .int 0, .ref z11, .int 0, .ref z30, .ref z31, .ref z32, .ref z33, .int 0, .ref z12, .int 0, .int 0, .ref z34, .ref z35, .ref z36, .ref z37, .int 0, .int 0, .int 0, .int 0, .ref z38, .int 0, .ref z39, .ref z40, .ref z41, .ref z42, .int 0, .ref z13, .ref z14, .ref z15, .ref z16, .int 0, .ref z17, .ref z18, .ref z43]))]) [0] rfl
  have hDc := hD.sub (ws' := [(h0, .inr (12, [.ref z0, .ref z1, .ref z2, .ref z3, .ref z4, .ref z5, .ref z20, .ref z21, .ref z22, .ref z23, .ref z24, .ref z25, .int 0, .ref z26, .ref z27, .ref z28, .int 9, .int 0, .int 0, .ref z6, .ref z29, .ref z7, .int 0, .int 2, .ref z19, .ref z8, .ref z9, .ref z10, .int 0, .ref z11, .int 0, .ref z30, .ref z31, .ref z32, .ref z33, .int 0, .ref z12, .int 0, .int 0, .ref z34, .ref z35, .ref z36, .ref z37, .int 0, .int 0, .int 0, .int 0, .ref z38, .int 0, .ref z39, .ref z40, .ref z41, .ref z42, .int 0, .ref z13, .ref z14, .ref z15, .ref z16, .int 0, .ref z17, .ref z18, .ref z43]))]) [0] (by decide) rfl
  have hFc := va_free (wc := [(h0, .inr (12, [.ref z0, .ref z1, .ref z2, .ref z3, .ref z4, .ref z5, .ref z20, .ref z21, .ref z22, .ref z23, .ref z24, .ref z25, .int 0, .ref z26, .ref z27, .ref z28, .int 9, .int 0, .int 0, .ref z6, .ref z29, .ref z7, .int 0, .int 2, .ref z19, .ref z8, .ref z9, .ref z10, .int 0, .ref z11, .int 0, .ref z30, .ref z31, .ref z32, .ref z33, .int 0, .ref z12, .int 0, .int 0, .ref z34, .ref z35, .ref z36, .ref z37, .int 0, .int 0, .int 0, .int 0, .ref z38, .int 0, .ref z39, .ref z40, .ref z41, .ref z42, .int 0, .ref z13, .ref z14, .ref z15, .ref z16, .int 0, .ref z17, .ref z18, .ref z43]))]) hD hS hA [0] rfl
  refine va_calli (va_runV (As := []) (rest := [.int 0]) ⟨hx, hb, hml, hown, hts⟩ (kX12_gens l D G h0 z0 z1 z2 z3 z4 z5 z20 z21 z22 z23 z24 z25 z26 z27 z28 z6 z29 z7 z19 z8 z9 z10 z11 z30 z31 z32 z33 z12 z34 z35 z36 z37 z38 z39 z40 z41 z42 z13 z14 z15 z16 z17 z18 z43 0 H.size) (cwV 0 hts gX12_passAt_X12_gens rfl rfl rfl (by decide +kernel) ⟨Nat.le_of_ble_eq_true rfl, Nat.le_of_ble_eq_true rfl⟩) ⟨wB_blind, va_recv hK hPc (ci := 12) (q0 := 0) rfl rfl, wB_pre hPc hK hDc hN⟩ rfl rfl hl.1 rfl (lv_room (Nat.le_of_ble_eq_true rfl)) dX12_passAt_15 ⟨Nat.le_of_ble_eq_true rfl, Nat.le_of_ble_eq_true rfl⟩) hS (fun q _ h => hFc q h) hFc (fun r3 u t H1 locs ht hvm hr3 hB hz1 hk1 hS => ?_)
  obtain ⟨hP1, hK1, hD1⟩ := hB
  rw [ht] at hP1
  obtain ⟨hP, hD⟩ := va_join (wr := []) (w1 := [(h0, .inr (12, [.ref z0, .ref z1, .ref z2, .ref z3, .ref z4, .ref z5, .ref z20, .ref z21, .ref z22, .ref z23, .ref z24, .ref z25, .int 0, .ref z26, .ref z27, .ref z28, .int 9, .int 0, .int 0, .ref z6, .ref z29, .ref z7, .int 0, .int 2, .ref z19, .ref z8, .ref z9, .ref z10, .int 0, .ref z11, .int 0, .ref z30, .ref z31, .ref z32, .ref z33, .int 0, .ref z12, .int 0, .int 0, .ref z34, .ref z35, .ref z36, .ref z37, .int 0, .int 0, .int 0, .int 0, .ref z38, .int 0, .ref z39, .ref z40, .ref z41, .ref z42, .int 0, .ref z13, .ref z14, .ref z15, .ref z16, .int 0, .ref z17, .ref z18, .ref z43]))]) hP hD [0] [] rfl rfl (by decide) (by decide) hk1 hFc hP1 hD1
  clear hPc hDc
  generalize H1 = H at hP hS ⊢
  have hP : va_P D vwCl [(h0, .inr (12, [.ref z0, .ref z1, .ref z2, .ref z3, .ref z4, .ref z5, .ref z20, .ref z21, .ref z22, .ref z23, .ref z24, .ref z25, .int 0, .ref z26, .ref z27, .ref z28, .int 9, .int 0, .int 0, .ref z6, .ref z29, .ref z7, .int 0, .int 2, .ref z19, .ref z8, .ref z9, .ref z10, .int 0, .ref z11, .int 0, .ref z30, .ref z31, .ref z32, .ref z33, .int 0, .ref z12, .int 0, .int 0, .ref z34, .ref z35, .ref z36, .ref z37, .int 0, .int 0, .int 0, .int 0, .ref z38, .int 0, .ref z39, .ref z40, .ref z41, .ref z42, .int 0, .ref z13, .ref z14, .ref z15, .ref z16, .int 0, .ref z17, .ref z18, .ref z43]))] H := hP
  have hD : va_D A [(h0, .inr (12, [.ref z0, .ref z1, .ref z2, .ref z3, .ref z4, .ref z5, .ref z20, .ref z21, .ref z22, .ref z23, .ref z24, .ref z25, .int 0, .ref z26, .ref z27, .ref z28, .int 9, .int 0, .int 0, .ref z6, .ref z29, .ref z7, .int 0, .int 2, .ref z19, .ref z8, .ref z9, .ref z10, .int 0, .ref z11, .int 0, .ref z30, .ref z31, .ref z32, .ref z33, .int 0, .ref z12, .int 0, .int 0, .ref z34, .ref z35, .ref z36, .ref z37, .int 0, .int 0, .int 0, .int 0, .ref z38, .int 0, .ref z39, .ref z40, .ref z41, .ref z42, .int 0, .ref z13, .ref z14, .ref z15, .ref z16, .int 0, .ref z17, .ref z18, .ref z43]))] := hD
  subst hr3
  refine lv_irem hx hb dX12_passAt_18 (by decide) ?_
  refine wk_i 0 (by decide) ?_
  have hPc := hP.sub (ws' := []) [] rfl
  have hDc := hD.sub (ws' := []) [] (by decide) rfl
  have hFc := va_free (wc := []) hD hS hA [] rfl
  refine va_calli (va_runS (As := [.int 0]) (rest := []) ⟨hx, hb, hml, hown, hts⟩ (kX12_passOf_0 l D G  H.size) (va_cwS 1 hts gX12_passAt_X12_passOf rfl rfl rfl (by decide +kernel) ⟨Nat.le_of_ble_eq_true rfl, Nat.le_of_ble_eq_true rfl⟩) ⟨wB_blind, wB_pre hPc hK hDc hN⟩ rfl rfl hl.1 rfl (lv_room (Nat.le_of_ble_eq_true rfl)) dX12_passAt_19 ⟨Nat.le_of_ble_eq_true rfl, Nat.le_of_ble_eq_true rfl⟩) hS (fun q _ h => hFc q h) hFc (fun r4 u t H1 locs ht hvm hr4 hB hz1 hk1 hS => ?_)
  obtain ⟨hP, hD⟩ := va_join (wr := [(h0, .inr (12, [.ref z0, .ref z1, .ref z2, .ref z3, .ref z4, .ref z5, .ref z20, .ref z21, .ref z22, .ref z23, .ref z24, .ref z25, .int 0, .ref z26, .ref z27, .ref z28, .int 9, .int 0, .int 0, .ref z6, .ref z29, .ref z7, .int 0, .int 2, .ref z19, .ref z8, .ref z9, .ref z10, .int 0, .ref z11, .int 0, .ref z30, .ref z31, .ref z32, .ref z33, .int 0, .ref z12, .int 0, .int 0, .ref z34, .ref z35, .ref z36, .ref z37, .int 0, .int 0, .int 0, .int 0, .ref z38, .int 0, .ref z39, .ref z40, .ref z41, .ref z42, .int 0, .ref z13, .ref z14, .ref z15, .ref z16, .int 0, .ref z17, .ref z18, .ref z43]))]) (w1 := []) hP hD [] [0] rfl rfl (by decide) (by decide) hk1 hFc wP_nil wD_nil
  clear hPc hDc
  generalize H1 = H at hP hS ⊢
  have hP : va_P D vwCl [(h0, .inr (12, [.ref z0, .ref z1, .ref z2, .ref z3, .ref z4, .ref z5, .ref z20, .ref z21, .ref z22, .ref z23, .ref z24, .ref z25, .int 0, .ref z26, .ref z27, .ref z28, .int 9, .int 0, .int 0, .ref z6, .ref z29, .ref z7, .int 0, .int 2, .ref z19, .ref z8, .ref z9, .ref z10, .int 0, .ref z11, .int 0, .ref z30, .ref z31, .ref z32, .ref z33, .int 0, .ref z12, .int 0, .int 0, .ref z34, .ref z35, .ref z36, .ref z37, .int 0, .int 0, .int 0, .int 0, .ref z38, .int 0, .ref z39, .ref z40, .ref z41, .ref z42, .int 0, .ref z13, .ref z14, .ref z15, .ref z16, .int 0, .ref z17, .ref z18, .ref z43]))] H := hP
  have hD : va_D A [(h0, .inr (12, [.ref z0, .ref z1, .ref z2, .ref z3, .ref z4, .ref z5, .ref z20, .ref z21, .ref z22, .ref z23, .ref z24, .ref z25, .int 0, .ref z26, .ref z27, .ref z28, .int 9, .int 0, .int 0, .ref z6, .ref z29, .ref z7, .int 0, .int 2, .ref z19, .ref z8, .ref z9, .ref z10, .int 0, .ref z11, .int 0, .ref z30, .ref z31, .ref z32, .ref z33, .int 0, .ref z12, .int 0, .int 0, .ref z34, .ref z35, .ref z36, .ref z37, .int 0, .int 0, .int 0, .int 0, .ref z38, .int 0, .ref z39, .ref z40, .ref z41, .ref z42, .int 0, .ref z13, .ref z14, .ref z15, .ref z16, .int 0, .ref z17, .ref z18, .ref z43]))] := hD
  subst hr4
  have hP9 := hP.sub (ws' := [(h0, .inr (12, [.ref z0, .ref z1, .ref z2, .ref z3, .ref z4, .ref z5, .ref z20, .ref z21, .ref z22, .ref z23, .ref z24, .ref z25, .int 0, .ref z26, .ref z27, .ref z28, .int 9, .int 0, .int 0, .ref z6, .ref z29, .ref z7, .int 0, .int 2, .ref z19, .ref z8, .ref z9, .ref z10, .int 0, .ref z11, .int 0, .ref z30, .ref z31, .ref z32, .ref z33, .int 0, .ref z12, .int 0, .int 0, .ref z34, .ref z35, .ref z36, .ref z37, .int 0, .int 0, .int 0, .int 0, .ref z38, .int 0, .ref z39, .ref z40, .ref z41, .ref z42, .int 0, .ref z13, .ref z14, .ref z15, .ref z16, .int 0, .ref z17, .ref z18, .ref z43]))]) [0] rfl
  have hD9 := hD.sub (ws' := [(h0, .inr (12, [.ref z0, .ref z1, .ref z2, .ref z3, .ref z4, .ref z5, .ref z20, .ref z21, .ref z22, .ref z23, .ref z24, .ref z25, .int 0, .ref z26, .ref z27, .ref z28, .int 9, .int 0, .int 0, .ref z6, .ref z29, .ref z7, .int 0, .int 2, .ref z19, .ref z8, .ref z9, .ref z10, .int 0, .ref z11, .int 0, .ref z30, .ref z31, .ref z32, .ref z33, .int 0, .ref z12, .int 0, .int 0, .ref z34, .ref z35, .ref z36, .ref z37, .int 0, .int 0, .int 0, .int 0, .ref z38, .int 0, .ref z39, .ref z40, .ref z41, .ref z42, .int 0, .ref z13, .ref z14, .ref z15, .ref z16, .int 0, .ref z17, .ref z18, .ref z43]))]) [0] (by decide) rfl
  exact W.iret (v := 1) hx hb hr (fun t ht hW => ⟨⟨1, (), rfl, rfl, ⟨by rw [ht]; exact hP9, va_K.moved hW.alike hK, hD9⟩⟩, hS.F ht⟩) hS.2.2 dX12_passAt_22

set_option maxHeartbeats 4000000 in
set_option maxRecDepth 100000 in
/-- X12_passAt -/
theorem kX12_passAt_3_1_1 (l : Launch) (D : va_G) (G : tyG) (h0 : Nat) (z0 : Nat) (z1 : Nat) (z2 : Nat) (z3 : Nat) (z4 : Nat) (z5 : Nat) (z20 : Nat) (z21 : Nat) (z22 : Nat) (z23 : Nat) (z24 : Nat) (z25 : Nat) (z26 : Nat) (z27 : Nat) (z28 : Nat) (z6 : Nat) (z29 : Nat) (z7 : Nat) (z19 : Nat) (z8 : Nat) (z9 : Nat) (z10 : Nat) (z11 : Nat) (z30 : Nat) (z31 : Nat) (z32 : Nat) (z33 : Nat) (z12 : Nat) (z34 : Nat) (z35 : Nat) (z36 : Nat) (z37 : Nat) (z38 : Nat) (z39 : Nat) (z40 : Nat) (z41 : Nat) (z42 : Nat) (z13 : Nat) (z14 : Nat) (z15 : Nat) (z16 : Nat) (z17 : Nat) (z18 : Nat) (z43 : Nat) (sz : Nat) : Met l yX12_passAt wsX12_passAt ({ frames := 1, cells := 0, slots := 0, locals := 23 }) (va_Pc [.ref h0, .int 1, .int 3, .int 1] (wB D G sz [(h0, .inr (12, [.ref z0, .ref z1, .ref z2, .ref z3, .ref z4, .ref z5, .ref z20, .ref z21, .ref z22, .ref z23, .ref z24, .ref z25, .int 0, .ref z26, .ref z27, .ref z28, .int 9, .int 0, .int 0, .ref z6, .ref z29, .ref z7, .int 0, .int 2, .ref z19, .ref z8, .ref z9, .ref z10, .int 0, .ref z11, .int 0, .ref z30, .ref z31, .ref z32, .ref z33, .int 0, .ref z12, .int 0, .int 0, .ref z34, .ref z35, .ref z36, .ref z37, .int 0, .int 0, .int 0, .int 0, .ref z38, .int 0, .ref z39, .ref z40, .ref z41, .ref z42, .int 0, .ref z13, .ref z14, .ref z15, .ref z16, .int 0, .ref z17, .ref z18, .ref z43]))])) (va_Qi (fun (r : Int32) (_ : Unit) => r = 1) (fun _ t => wS D G (va_A [(h0, .inr (12, [.ref z0, .ref z1, .ref z2, .ref z3, .ref z4, .ref z5, .ref z20, .ref z21, .ref z22, .ref z23, .ref z24, .ref z25, .int 0, .ref z26, .ref z27, .ref z28, .int 9, .int 0, .int 0, .ref z6, .ref z29, .ref z7, .int 0, .int 2, .ref z19, .ref z8, .ref z9, .ref z10, .int 0, .ref z11, .int 0, .ref z30, .ref z31, .ref z32, .ref z33, .int 0, .ref z12, .int 0, .int 0, .ref z34, .ref z35, .ref z36, .ref z37, .int 0, .int 0, .int 0, .int 0, .ref z38, .int 0, .ref z39, .ref z40, .ref z41, .ref z42, .int 0, .ref z13, .ref z14, .ref z15, .ref z16, .int 0, .ref z17, .ref z18, .ref z43]))] sz) [(h0, .inr (12, [.ref z0, .ref z1, .ref z2, .ref z3, .ref z4, .ref z5, .ref z20, .ref z21, .ref z22, .ref z23, .ref z24, .ref z25, .int 0, .ref z26, .ref z27, .ref z28, .int 9, .int 0, .int 0, .ref z6, .ref z29, .ref z7, .int 0, .int 2, .ref z19, .ref z8, .ref z9, .ref z10, .int 0, .ref z11, .int 0, .ref z30, .ref z31, .ref z32, .ref z33, .int 0, .ref z12, .int 0, .int 0, .ref z34, .ref z35, .ref z36, .ref z37, .int 0, .int 0, .int 0, .int 0, .ref z38, .int 0, .ref z39, .ref z40, .ref z41, .ref z42, .int 0, .ref z13, .ref z14, .ref z15, .ref z16, .int 0, .ref z17, .ref z18, .ref z43]))] t) (va_A [(h0, .inr (12, [.ref z0, .ref z1, .ref z2, .ref z3, .ref z4, .ref z5, .ref z20, .ref z21, .ref z22, .ref z23, .ref z24, .ref z25, .int 0, .ref z26, .ref z27, .ref z28, .int 9, .int 0, .int 0, .ref z6, .ref z29, .ref z7, .int 0, .int 2, .ref z19, .ref z8, .ref z9, .ref z10, .int 0, .ref z11, .int 0, .ref z30, .ref z31, .ref z32, .ref z33, .int 0, .ref z12, .int 0, .int 0, .ref z34, .ref z35, .ref z36, .ref z37, .int 0, .int 0, .int 0, .int 0, .ref z38, .int 0, .ref z39, .ref z40, .ref z41, .ref z42, .int 0, .ref z13, .ref z14, .ref z15, .ref z16, .int 0, .ref z17, .ref z18, .ref z43]))] sz)) 0 0 (va_A [(h0, .inr (12, [.ref z0, .ref z1, .ref z2, .ref z3, .ref z4, .ref z5, .ref z20, .ref z21, .ref z22, .ref z23, .ref z24, .ref z25, .int 0, .ref z26, .ref z27, .ref z28, .int 9, .int 0, .int 0, .ref z6, .ref z29, .ref z7, .int 0, .int 2, .ref z19, .ref z8, .ref z9, .ref z10, .int 0, .ref z11, .int 0, .ref z30, .ref z31, .ref z32, .ref z33, .int 0, .ref z12, .int 0, .int 0, .ref z34, .ref z35, .ref z36, .ref z37, .int 0, .int 0, .int 0, .int 0, .ref z38, .int 0, .ref z39, .ref z40, .ref z41, .ref z42, .int 0, .ref z13, .ref z14, .ref z15, .ref z16, .int 0, .ref z17, .ref z18, .ref z43]))] sz) := by
  refine Met.ofW (cc := cX12_passAt) (maxL := 4) (ret := (some .int)) (by decide) rfl ?_
  intro p e s m args below meth c s₁ B hml hv
  obtain ⟨rfl, hsz, hP, hK, hD0, hN⟩ := hv
  have hx := B.exec
  have hb := B.bytes
  have hr := B.returns
  have hts := atoms_spec (ws := wsX12_passAt) B.pre
  have hown : s.vm.findClass RX12 = some m.cls := findClass_of_methodNamed B.named
  have hlocks := B.notSynchronized
  subst hsz
  have hD := hD0.self (sz := s.heap.size)
  generalize hAe : va_A [(h0, .inr (12, [.ref z0, .ref z1, .ref z2, .ref z3, .ref z4, .ref z5, .ref z20, .ref z21, .ref z22, .ref z23, .ref z24, .ref z25, .int 0, .ref z26, .ref z27, .ref z28, .int 9, .int 0, .int 0, .ref z6, .ref z29, .ref z7, .int 0, .int 2, .ref z19, .ref z8, .ref z9, .ref z10, .int 0, .ref z11, .int 0, .ref z30, .ref z31, .ref z32, .ref z33, .int 0, .ref z12, .int 0, .int 0, .ref z34, .ref z35, .ref z36, .ref z37, .int 0, .int 0, .int 0, .int 0, .ref z38, .int 0, .ref z39, .ref z40, .ref z41, .ref z42, .int 0, .ref z13, .ref z14, .ref z15, .ref z16, .int 0, .ref z17, .ref z18, .ref z43]))] s.heap.size = A at hD ⊢
  have hA : ∀ q : Nat, s.heap.size ≤ q → A q := fun q h => by rw [← hAe]; exact Or.inr h
  have hS : va_S A s.heap s.heap [] := va_S.rf
  have hP : va_P D vwCl [(h0, .inr (12, [.ref z0, .ref z1, .ref z2, .ref z3, .ref z4, .ref z5, .ref z20, .ref z21, .ref z22, .ref z23, .ref z24, .ref z25, .int 0, .ref z26, .ref z27, .ref z28, .int 9, .int 0, .int 0, .ref z6, .ref z29, .ref z7, .int 0, .int 2, .ref z19, .ref z8, .ref z9, .ref z10, .int 0, .ref z11, .int 0, .ref z30, .ref z31, .ref z32, .ref z33, .int 0, .ref z12, .int 0, .int 0, .ref z34, .ref z35, .ref z36, .ref z37, .int 0, .int 0, .int 0, .int 0, .ref z38, .int 0, .ref z39, .ref z40, .ref z41, .ref z42, .int 0, .ref z13, .ref z14, .ref z15, .ref z16, .int 0, .ref z17, .ref z18, .ref z43]))] s.heap := hP
  have hl := lv_entry ([.ref h0, .int 1, .int 3, .int 1]) (n := 4) (Nat.le_of_ble_eq_true rfl)
  rw [lg_entry_eq]
  generalize (lg_sl ([.ref h0, .int 1, .int 3, .int 1]) ++ List.replicate (4 - (lg_sl ([.ref h0, .int 1, .int 3, .int 1])).length) Slot.unset).toArray = ls at hl ⊢
  have hl : lv_has ls 4 [(0, .ref h0), (1, .int 1), (2, .int 3), (3, .int 1)] := hl
  refine lv_iload_n hx hb dX12_passAt_0 rfl (lv_at hl 1 rfl) ?_
  refine lv_aload_n hx hb dX12_passAt_1 rfl (lv_at hl 0 rfl) ?_
  have hPc := hP.sub (ws' := [(h0, .inr (12, [.ref z0, .ref z1, .ref z2, .ref z3, .ref z4, .ref z5, .ref z20, .ref z21, .ref z22, .ref z23, .ref z24, .ref z25, .int 0, .ref z26, .ref z27, .ref z28, .int 9, .int 0, .int 0, .ref z6, .ref z29, .ref z7, .int 0, .int 2, .ref z19, .ref z8, .ref z9, .ref z10, .int 0, .ref z11, .int 0, .ref z30, .ref z31, .ref z32, .ref z33, .int 0, .ref z12, .int 0, .int 0, .ref z34, .ref z35, .ref z36, .ref z37, .int 0, .int 0, .int 0, .int 0, .ref z38, .int 0, .ref z39, .ref z40, .ref z41, .ref z42, .int 0, .ref z13, .ref z14, .ref z15, .ref z16, .int 0, .ref z17, .ref z18, .ref z43]))]) [0] rfl
  have hDc := hD.sub (ws' := [(h0, .inr (12, [.ref z0, .ref z1, .ref z2, .ref z3, .ref z4, .ref z5, .ref z20, .ref z21, .ref z22, .ref z23, .ref z24, .ref z25, .int 0, .ref z26, .ref z27, .ref z28, .int 9, .int 0, .int 0, .ref z6, .ref z29, .ref z7, .int 0, .int 2, .ref z19, .ref z8, .ref z9, .ref z10, .int 0, .ref z11, .int 0, .ref z30, .ref z31, .ref z32, .ref z33, .int 0, .ref z12, .int 0, .int 0, .ref z34, .ref z35, .ref z36, .ref z37, .int 0, .int 0, .int 0, .int 0, .ref z38, .int 0, .ref z39, .ref z40, .ref z41, .ref z42, .int 0, .ref z13, .ref z14, .ref z15, .ref z16, .int 0, .ref z17, .ref z18, .ref z43]))]) [0] (by decide) rfl
  have hFc := va_free (wc := [(h0, .inr (12, [.ref z0, .ref z1, .ref z2, .ref z3, .ref z4, .ref z5, .ref z20, .ref z21, .ref z22, .ref z23, .ref z24, .ref z25, .int 0, .ref z26, .ref z27, .ref z28, .int 9, .int 0, .int 0, .ref z6, .ref z29, .ref z7, .int 0, .int 2, .ref z19, .ref z8, .ref z9, .ref z10, .int 0, .ref z11, .int 0, .ref z30, .ref z31, .ref z32, .ref z33, .int 0, .ref z12, .int 0, .int 0, .ref z34, .ref z35, .ref z36, .ref z37, .int 0, .int 0, .int 0, .int 0, .ref z38, .int 0, .ref z39, .ref z40, .ref z41, .ref z42, .int 0, .ref z13, .ref z14, .ref z15, .ref z16, .int 0, .ref z17, .ref z18, .ref z43]))]) hD hS hA [0] rfl
  refine va_calli (va_runV (As := []) (rest := [.int 1]) ⟨hx, hb, hml, hown, hts⟩ (kX12_gens l D G h0 z0 z1 z2 z3 z4 z5 z20 z21 z22 z23 z24 z25 z26 z27 z28 z6 z29 z7 z19 z8 z9 z10 z11 z30 z31 z32 z33 z12 z34 z35 z36 z37 z38 z39 z40 z41 z42 z13 z14 z15 z16 z17 z18 z43 0 s.heap.size) (cwV 0 hts gX12_passAt_X12_gens rfl rfl rfl (by decide +kernel) ⟨Nat.le_of_ble_eq_true rfl, Nat.le_of_ble_eq_true rfl⟩) ⟨wB_blind, va_recv hK hPc (ci := 12) (q0 := 0) rfl rfl, wB_pre hPc hK hDc hN⟩ rfl rfl hl.1 rfl (lv_room (Nat.le_of_ble_eq_true rfl)) dX12_passAt_2 ⟨Nat.le_of_ble_eq_true rfl, Nat.le_of_ble_eq_true rfl⟩) hS (fun q _ h => hFc q h) hFc (fun r1 u t H1 locs ht hvm hr1 hB hz1 hk1 hS => ?_)
  obtain ⟨hP1, hK1, hD1⟩ := hB
  rw [ht] at hP1
  obtain ⟨hP, hD⟩ := va_join (wr := []) (w1 := [(h0, .inr (12, [.ref z0, .ref z1, .ref z2, .ref z3, .ref z4, .ref z5, .ref z20, .ref z21, .ref z22, .ref z23, .ref z24, .ref z25, .int 0, .ref z26, .ref z27, .ref z28, .int 9, .int 0, .int 0, .ref z6, .ref z29, .ref z7, .int 0, .int 2, .ref z19, .ref z8, .ref z9, .ref z10, .int 0, .ref z11, .int 0, .ref z30, .ref z31, .ref z32, .ref z33, .int 0, .ref z12, .int 0, .int 0, .ref z34, .ref z35, .ref z36, .ref z37, .int 0, .int 0, .int 0, .int 0, .ref z38, .int 0, .ref z39, .ref z40, .ref z41, .ref z42, .int 0, .ref z13, .ref z14, .ref z15, .ref z16, .int 0, .ref z17, .ref z18, .ref z43]))]) hP hD [0] [] rfl rfl (by decide) (by decide) hk1 hFc hP1 hD1
  clear hPc hDc
  generalize H1 = H at hP hS ⊢
  have hP : va_P D vwCl [(h0, .inr (12, [.ref z0, .ref z1, .ref z2, .ref z3, .ref z4, .ref z5, .ref z20, .ref z21, .ref z22, .ref z23, .ref z24, .ref z25, .int 0, .ref z26, .ref z27, .ref z28, .int 9, .int 0, .int 0, .ref z6, .ref z29, .ref z7, .int 0, .int 2, .ref z19, .ref z8, .ref z9, .ref z10, .int 0, .ref z11, .int 0, .ref z30, .ref z31, .ref z32, .ref z33, .int 0, .ref z12, .int 0, .int 0, .ref z34, .ref z35, .ref z36, .ref z37, .int 0, .int 0, .int 0, .int 0, .ref z38, .int 0, .ref z39, .ref z40, .ref z41, .ref z42, .int 0, .ref z13, .ref z14, .ref z15, .ref z16, .int 0, .ref z17, .ref z18, .ref z43]))] H := hP
  have hD : va_D A [(h0, .inr (12, [.ref z0, .ref z1, .ref z2, .ref z3, .ref z4, .ref z5, .ref z20, .ref z21, .ref z22, .ref z23, .ref z24, .ref z25, .int 0, .ref z26, .ref z27, .ref z28, .int 9, .int 0, .int 0, .ref z6, .ref z29, .ref z7, .int 0, .int 2, .ref z19, .ref z8, .ref z9, .ref z10, .int 0, .ref z11, .int 0, .ref z30, .ref z31, .ref z32, .ref z33, .int 0, .ref z12, .int 0, .int 0, .ref z34, .ref z35, .ref z36, .ref z37, .int 0, .int 0, .int 0, .int 0, .ref z38, .int 0, .ref z39, .ref z40, .ref z41, .ref z42, .int 0, .ref z13, .ref z14, .ref z15, .ref z16, .int 0, .ref z17, .ref z18, .ref z43]))] := hD
  subst hr1
  refine lv_iload_n hx hb dX12_passAt_5 rfl (lv_at hl 2 rfl) ?_
  refine lv_iconst (v := 1) hx hb dX12_passAt_6 (by decide) ?_
  refine lv_isub hx hb dX12_passAt_7 ?_
  refine wk_i 2 (by decide) ?_
  refine lv_iload_n hx hb dX12_passAt_8 rfl (lv_at hl 3 rfl) ?_
  refine lv_isub hx hb dX12_passAt_9 ?_
  refine wk_i 1 (by decide) ?_
  have hPc := hP.sub (ws' := []) [] rfl
  have hDc := hD.sub (ws' := []) [] (by decide) rfl
  have hFc := va_free (wc := []) hD hS hA [] rfl
  refine va_calli (va_runS (As := [.int 2, .int 1]) (rest := [.int 1]) ⟨hx, hb, hml, hown, hts⟩ (kX12_power_1 l D G  H.size) (va_cwS 2 hts gX12_passAt_X12_power rfl rfl rfl (by decide +kernel) ⟨Nat.le_of_ble_eq_true rfl, Nat.le_of_ble_eq_true rfl⟩) ⟨wB_blind, wB_pre hPc hK hDc hN⟩ rfl rfl hl.1 rfl (lv_room (Nat.le_of_ble_eq_true rfl)) dX12_passAt_10 ⟨Nat.le_of_ble_eq_true rfl, Nat.le_of_ble_eq_true rfl⟩) hS (fun q _ h => hFc q h) hFc (fun r2 u t H1 locs ht hvm hr2 hB hz1 hk1 hS => ?_)
  obtain ⟨hP, hD⟩ := va_join (wr := [(h0, .inr (12, [.ref z0, .ref z1, .ref z2, .ref z3, .ref z4, .ref z5, .ref z20, .ref z21, .ref z22, .ref z23, .ref z24, .ref z25, .int 0, .ref z26, .ref z27, .ref z28, .int 9, .int 0, .int 0, .ref z6, .ref z29, .ref z7, .int 0, .int 2, .ref z19, .ref z8, .ref z9, .ref z10, .int 0, .ref z11, .int 0, .ref z30, .ref z31, .ref z32, .ref z33, .int 0, .ref z12, .int 0, .int 0, .ref z34, .ref z35, .ref z36, .ref z37, .int 0, .int 0, .int 0, .int 0, .ref z38, .int 0, .ref z39, .ref z40, .ref z41, .ref z42, .int 0, .ref z13, .ref z14, .ref z15, .ref z16, .int 0, .ref z17, .ref z18, .ref z43]))]) (w1 := []) hP hD [] [0] rfl rfl (by decide) (by decide) hk1 hFc wP_nil wD_nil
  clear hPc hDc
  generalize H1 = H at hP hS ⊢
  have hP : va_P D vwCl [(h0, .inr (12, [.ref z0, .ref z1, .ref z2, .ref z3, .ref z4, .ref z5, .ref z20, .ref z21, .ref z22, .ref z23, .ref z24, .ref z25, .int 0, .ref z26, .ref z27, .ref z28, .int 9, .int 0, .int 0, .ref z6, .ref z29, .ref z7, .int 0, .int 2, .ref z19, .ref z8, .ref z9, .ref z10, .int 0, .ref z11, .int 0, .ref z30, .ref z31, .ref z32, .ref z33, .int 0, .ref z12, .int 0, .int 0, .ref z34, .ref z35, .ref z36, .ref z37, .int 0, .int 0, .int 0, .int 0, .ref z38, .int 0, .ref z39, .ref z40, .ref z41, .ref z42, .int 0, .ref z13, .ref z14, .ref z15, .ref z16, .int 0, .ref z17, .ref z18, .ref z43]))] H := hP
  have hD : va_D A [(h0, .inr (12, [.ref z0, .ref z1, .ref z2, .ref z3, .ref z4, .ref z5, .ref z20, .ref z21, .ref z22, .ref z23, .ref z24, .ref z25, .int 0, .ref z26, .ref z27, .ref z28, .int 9, .int 0, .int 0, .ref z6, .ref z29, .ref z7, .int 0, .int 2, .ref z19, .ref z8, .ref z9, .ref z10, .int 0, .ref z11, .int 0, .ref z30, .ref z31, .ref z32, .ref z33, .int 0, .ref z12, .int 0, .int 0, .ref z34, .ref z35, .ref z36, .ref z37, .int 0, .int 0, .int 0, .int 0, .ref z38, .int 0, .ref z39, .ref z40, .ref z41, .ref z42, .int 0, .ref z13, .ref z14, .ref z15, .ref z16, .int 0, .ref z17, .ref z18, .ref z43]))] := hD
  subst hr2
  refine lv_idiv hx hb dX12_passAt_13 (by decide) ?_
  refine wk_i 0 (by decide) ?_
  refine lv_aload_n hx hb dX12_passAt_14 rfl (lv_at hl 0 rfl) ?_
  have hPc := hP.sub (ws' := [(h0, .inr (12, [.ref z0, .ref z1, .ref z2, .ref z3, .ref z4, .ref z5, .ref z20, .ref z21, .ref z22, .ref z23, .ref z24, .ref z25, .int 0, .ref z26, .ref z27, .ref z28, .int 9, .int 0, .int 0, .ref z6, .ref z29, .ref z7, .int 0, .int 2, .ref z19, .ref z8, .ref z9, .ref z10, .int 0, .ref z11, .int 0, .ref z30, .ref z31, .ref z32, .ref z33, .int 0, .ref z12, .int 0, .int 0, .ref z34, .ref z35, .ref z36, .ref z37, .int 0, .int 0, .int 0, .int 0, .ref z38, .int 0, .ref z39, .ref z40, .ref z41, .ref z42, .int 0, .ref z13, .ref z14, .ref z15, .ref z16, .int 0, .ref z17, .ref z18, .ref z43]))]) [0] rfl
  have hDc := hD.sub (ws' := [(h0, .inr (12, [.ref z0, .ref z1, .ref z2, .ref z3, .ref z4, .ref z5, .ref z20, .ref z21, .ref z22, .ref z23, .ref z24, .ref z25, .int 0, .ref z26, .ref z27, .ref z28, .int 9, .int 0, .int 0, .ref z6, .ref z29, .ref z7, .int 0, .int 2, .ref z19, .ref z8, .ref z9, .ref z10, .int 0, .ref z11, .int 0, .ref z30, .ref z31, .ref z32, .ref z33, .int 0, .ref z12, .int 0, .int 0, .ref z34, .ref z35, .ref z36, .ref z37, .int 0, .int 0, .int 0, .int 0, .ref z38, .int 0, .ref z39, .ref z40, .ref z41, .ref z42, .int 0, .ref z13, .ref z14, .ref z15, .ref z16, .int 0, .ref z17, .ref z18, .ref z43]))]) [0] (by decide) rfl
  have hFc := va_free (wc := [(h0, .inr (12, [.ref z0, .ref z1, .ref z2, .ref z3, .ref z4, .ref z5, .ref z20, .ref z21, .ref z22, .ref z23, .ref z24, .ref z25, .int 0, .ref z26, .ref z27, .ref z28, .int 9, .int 0, .int 0, .ref z6, .ref z29, .ref z7, .int 0, .int 2, .ref z19, .ref z8, .ref z9, .ref z10, .int 0, .ref z11, .int 0, .ref z30, .ref z31, .ref z32, .ref z33, .int 0, .ref z12, .int 0, .int 0, .ref z34, .ref z35, .ref z36, .ref z37, .int 0, .int 0, .int 0, .int 0, .ref z38, .int 0, .ref z39, .ref z40, .ref z41, .ref z42, .int 0, .ref z13, .ref z14, .ref z15, .ref z16, .int 0, .ref z17, .ref z18, .ref z43]))]) hD hS hA [0] rfl
  refine va_calli (va_runV (As := []) (rest := [.int 0]) ⟨hx, hb, hml, hown, hts⟩ (kX12_gens l D G h0 z0 z1 z2 z3 z4 z5 z20 z21 z22 z23 z24 z25 z26 z27 z28 z6 z29 z7 z19 z8 z9 z10 z11 z30 z31 z32 z33 z12 z34 z35 z36 z37 z38 z39 z40 z41 z42 z13 z14 z15 z16 z17 z18 z43 0 H.size) (cwV 0 hts gX12_passAt_X12_gens rfl rfl rfl (by decide +kernel) ⟨Nat.le_of_ble_eq_true rfl, Nat.le_of_ble_eq_true rfl⟩) ⟨wB_blind, va_recv hK hPc (ci := 12) (q0 := 0) rfl rfl, wB_pre hPc hK hDc hN⟩ rfl rfl hl.1 rfl (lv_room (Nat.le_of_ble_eq_true rfl)) dX12_passAt_15 ⟨Nat.le_of_ble_eq_true rfl, Nat.le_of_ble_eq_true rfl⟩) hS (fun q _ h => hFc q h) hFc (fun r3 u t H1 locs ht hvm hr3 hB hz1 hk1 hS => ?_)
  obtain ⟨hP1, hK1, hD1⟩ := hB
  rw [ht] at hP1
  obtain ⟨hP, hD⟩ := va_join (wr := []) (w1 := [(h0, .inr (12, [.ref z0, .ref z1, .ref z2, .ref z3, .ref z4, .ref z5, .ref z20, .ref z21, .ref z22, .ref z23, .ref z24, .ref z25, .int 0, .ref z26, .ref z27, .ref z28, .int 9, .int 0, .int 0, .ref z6, .ref z29, .ref z7, .int 0, .int 2, .ref z19, .ref z8, .ref z9, .ref z10, .int 0, .ref z11, .int 0, .ref z30, .ref z31, .ref z32, .ref z33, .int 0, .ref z12, .int 0, .int 0, .ref z34, .ref z35, .ref z36, .ref z37, .int 0, .int 0, .int 0, .int 0, .ref z38, .int 0, .ref z39, .ref z40, .ref z41, .ref z42, .int 0, .ref z13, .ref z14, .ref z15, .ref z16, .int 0, .ref z17, .ref z18, .ref z43]))]) hP hD [0] [] rfl rfl (by decide) (by decide) hk1 hFc hP1 hD1
  clear hPc hDc
  generalize H1 = H at hP hS ⊢
  have hP : va_P D vwCl [(h0, .inr (12, [.ref z0, .ref z1, .ref z2, .ref z3, .ref z4, .ref z5, .ref z20, .ref z21, .ref z22, .ref z23, .ref z24, .ref z25, .int 0, .ref z26, .ref z27, .ref z28, .int 9, .int 0, .int 0, .ref z6, .ref z29, .ref z7, .int 0, .int 2, .ref z19, .ref z8, .ref z9, .ref z10, .int 0, .ref z11, .int 0, .ref z30, .ref z31, .ref z32, .ref z33, .int 0, .ref z12, .int 0, .int 0, .ref z34, .ref z35, .ref z36, .ref z37, .int 0, .int 0, .int 0, .int 0, .ref z38, .int 0, .ref z39, .ref z40, .ref z41, .ref z42, .int 0, .ref z13, .ref z14, .ref z15, .ref z16, .int 0, .ref z17, .ref z18, .ref z43]))] H := hP
  have hD : va_D A [(h0, .inr (12, [.ref z0, .ref z1, .ref z2, .ref z3, .ref z4, .ref z5, .ref z20, .ref z21, .ref z22, .ref z23, .ref z24, .ref z25, .int 0, .ref z26, .ref z27, .ref z28, .int 9, .int 0, .int 0, .ref z6, .ref z29, .ref z7, .int 0, .int 2, .ref z19, .ref z8, .ref z9, .ref z10, .int 0, .ref z11, .int 0, .ref z30, .ref z31, .ref z32, .ref z33, .int 0, .ref z12, .int 0, .int 0, .ref z34, .ref z35, .ref z36, .ref z37, .int 0, .int 0, .int 0, .int 0, .ref z38, .int 0, .ref z39, .ref z40, .ref z41, .ref z42, .int 0, .ref z13, .ref z14, .ref z15, .ref z16, .int 0, .ref z17, .ref z18, .ref z43]))] := hD
  subst hr3
  refine lv_irem hx hb dX12_passAt_18 (by decide) ?_
  refine wk_i 0 (by decide) ?_
  have hPc := hP.sub (ws' := []) [] rfl
  have hDc := hD.sub (ws' := []) [] (by decide) rfl
  have hFc := va_free (wc := []) hD hS hA [] rfl
  refine va_calli (va_runS (As := [.int 0]) (rest := []) ⟨hx, hb, hml, hown, hts⟩ (kX12_passOf_0 l D G  H.size) (va_cwS 1 hts gX12_passAt_X12_passOf rfl rfl rfl (by decide +kernel) ⟨Nat.le_of_ble_eq_true rfl, Nat.le_of_ble_eq_true rfl⟩) ⟨wB_blind, wB_pre hPc hK hDc hN⟩ rfl rfl hl.1 rfl (lv_room (Nat.le_of_ble_eq_true rfl)) dX12_passAt_19 ⟨Nat.le_of_ble_eq_true rfl, Nat.le_of_ble_eq_true rfl⟩) hS (fun q _ h => hFc q h) hFc (fun r4 u t H1 locs ht hvm hr4 hB hz1 hk1 hS => ?_)
  obtain ⟨hP, hD⟩ := va_join (wr := [(h0, .inr (12, [.ref z0, .ref z1, .ref z2, .ref z3, .ref z4, .ref z5, .ref z20, .ref z21, .ref z22, .ref z23, .ref z24, .ref z25, .int 0, .ref z26, .ref z27, .ref z28, .int 9, .int 0, .int 0, .ref z6, .ref z29, .ref z7, .int 0, .int 2, .ref z19, .ref z8, .ref z9, .ref z10, .int 0, .ref z11, .int 0, .ref z30, .ref z31, .ref z32, .ref z33, .int 0, .ref z12, .int 0, .int 0, .ref z34, .ref z35, .ref z36, .ref z37, .int 0, .int 0, .int 0, .int 0, .ref z38, .int 0, .ref z39, .ref z40, .ref z41, .ref z42, .int 0, .ref z13, .ref z14, .ref z15, .ref z16, .int 0, .ref z17, .ref z18, .ref z43]))]) (w1 := []) hP hD [] [0] rfl rfl (by decide) (by decide) hk1 hFc wP_nil wD_nil
  clear hPc hDc
  generalize H1 = H at hP hS ⊢
  have hP : va_P D vwCl [(h0, .inr (12, [.ref z0, .ref z1, .ref z2, .ref z3, .ref z4, .ref z5, .ref z20, .ref z21, .ref z22, .ref z23, .ref z24, .ref z25, .int 0, .ref z26, .ref z27, .ref z28, .int 9, .int 0, .int 0, .ref z6, .ref z29, .ref z7, .int 0, .int 2, .ref z19, .ref z8, .ref z9, .ref z10, .int 0, .ref z11, .int 0, .ref z30, .ref z31, .ref z32, .ref z33, .int 0, .ref z12, .int 0, .int 0, .ref z34, .ref z35, .ref z36, .ref z37, .int 0, .int 0, .int 0, .int 0, .ref z38, .int 0, .ref z39, .ref z40, .ref z41, .ref z42, .int 0, .ref z13, .ref z14, .ref z15, .ref z16, .int 0, .ref z17, .ref z18, .ref z43]))] H := hP
  have hD : va_D A [(h0, .inr (12, [.ref z0, .ref z1, .ref z2, .ref z3, .ref z4, .ref z5, .ref z20, .ref z21, .ref z22, .ref z23, .ref z24, .ref z25, .int 0, .ref z26, .ref z27, .ref z28, .int 9, .int 0, .int 0, .ref z6, .ref z29, .ref z7, .int 0, .int 2, .ref z19, .ref z8, .ref z9, .ref z10, .int 0, .ref z11, .int 0, .ref z30, .ref z31, .ref z32, .ref z33, .int 0, .ref z12, .int 0, .int 0, .ref z34, .ref z35, .ref z36, .ref z37, .int 0, .int 0, .int 0, .int 0, .ref z38, .int 0, .ref z39, .ref z40, .ref z41, .ref z42, .int 0, .ref z13, .ref z14, .ref z15, .ref z16, .int 0, .ref z17, .ref z18, .ref z43]))] := hD
  subst hr4
  have hP9 := hP.sub (ws' := [(h0, .inr (12, [.ref z0, .ref z1, .ref z2, .ref z3, .ref z4, .ref z5, .ref z20, .ref z21, .ref z22, .ref z23, .ref z24, .ref z25, .int 0, .ref z26, .ref z27, .ref z28, .int 9, .int 0, .int 0, .ref z6, .ref z29, .ref z7, .int 0, .int 2, .ref z19, .ref z8, .ref z9, .ref z10, .int 0, .ref z11, .int 0, .ref z30, .ref z31, .ref z32, .ref z33, .int 0, .ref z12, .int 0, .int 0, .ref z34, .ref z35, .ref z36, .ref z37, .int 0, .int 0, .int 0, .int 0, .ref z38, .int 0, .ref z39, .ref z40, .ref z41, .ref z42, .int 0, .ref z13, .ref z14, .ref z15, .ref z16, .int 0, .ref z17, .ref z18, .ref z43]))]) [0] rfl
  have hD9 := hD.sub (ws' := [(h0, .inr (12, [.ref z0, .ref z1, .ref z2, .ref z3, .ref z4, .ref z5, .ref z20, .ref z21, .ref z22, .ref z23, .ref z24, .ref z25, .int 0, .ref z26, .ref z27, .ref z28, .int 9, .int 0, .int 0, .ref z6, .ref z29, .ref z7, .int 0, .int 2, .ref z19, .ref z8, .ref z9, .ref z10, .int 0, .ref z11, .int 0, .ref z30, .ref z31, .ref z32, .ref z33, .int 0, .ref z12, .int 0, .int 0, .ref z34, .ref z35, .ref z36, .ref z37, .int 0, .int 0, .int 0, .int 0, .ref z38, .int 0, .ref z39, .ref z40, .ref z41, .ref z42, .int 0, .ref z13, .ref z14, .ref z15, .ref z16, .int 0, .ref z17, .ref z18, .ref z43]))]) [0] (by decide) rfl
  exact W.iret (v := 1) hx hb hr (fun t ht hW => ⟨⟨1, (), rfl, rfl, ⟨by rw [ht]; exact hP9, va_K.moved hW.alike hK, hD9⟩⟩, hS.F ht⟩) hS.2.2 dX12_passAt_22

set_option maxHeartbeats 4000000 in
set_option maxRecDepth 100000 in
/-- X12_passAt -/
theorem kX12_passAt_3_1_2 (l : Launch) (D : va_G) (G : tyG) (h0 : Nat) (z0 : Nat) (z1 : Nat) (z2 : Nat) (z3 : Nat) (z4 : Nat) (z5 : Nat) (z20 : Nat) (z21 : Nat) (z22 : Nat) (z23 : Nat) (z24 : Nat) (z25 : Nat) (z26 : Nat) (z27 : Nat) (z28 : Nat) (z6 : Nat) (z29 : Nat) (z7 : Nat) (z19 : Nat) (z8 : Nat) (z9 : Nat) (z10 : Nat) (z11 : Nat) (z30 : Nat) (z31 : Nat) (z32 : Nat) (z33 : Nat) (z12 : Nat) (z34 : Nat) (z35 : Nat) (z36 : Nat) (z37 : Nat) (z38 : Nat) (z39 : Nat) (z40 : Nat) (z41 : Nat) (z42 : Nat) (z13 : Nat) (z14 : Nat) (z15 : Nat) (z16 : Nat) (z17 : Nat) (z18 : Nat) (z43 : Nat) (sz : Nat) : Met l yX12_passAt wsX12_passAt ({ frames := 1, cells := 0, slots := 0, locals := 23 }) (va_Pc [.ref h0, .int 1, .int 3, .int 2] (wB D G sz [(h0, .inr (12, [.ref z0, .ref z1, .ref z2, .ref z3, .ref z4, .ref z5, .ref z20, .ref z21, .ref z22, .ref z23, .ref z24, .ref z25, .int 0, .ref z26, .ref z27, .ref z28, .int 9, .int 0, .int 0, .ref z6, .ref z29, .ref z7, .int 0, .int 2, .ref z19, .ref z8, .ref z9, .ref z10, .int 0, .ref z11, .int 0, .ref z30, .ref z31, .ref z32, .ref z33, .int 0, .ref z12, .int 0, .int 0, .ref z34, .ref z35, .ref z36, .ref z37, .int 0, .int 0, .int 0, .int 0, .ref z38, .int 0, .ref z39, .ref z40, .ref z41, .ref z42, .int 0, .ref z13, .ref z14, .ref z15, .ref z16, .int 0, .ref z17, .ref z18, .ref z43]))])) (va_Qi (fun (r : Int32) (_ : Unit) => r = (-1)) (fun _ t => wS D G (va_A [(h0, .inr (12, [.ref z0, .ref z1, .ref z2, .ref z3, .ref z4, .ref z5, .ref z20, .ref z21, .ref z22, .ref z23, .ref z24, .ref z25, .int 0, .ref z26, .ref z27, .ref z28, .int 9, .int 0, .int 0, .ref z6, .ref z29, .ref z7, .int 0, .int 2, .ref z19, .ref z8, .ref z9, .ref z10, .int 0, .ref z11, .int 0, .ref z30, .ref z31, .ref z32, .ref z33, .int 0, .ref z12, .int 0, .int 0, .ref z34, .ref z35, .ref z36, .ref z37, .int 0, .int 0, .int 0, .int 0, .ref z38, .int 0, .ref z39, .ref z40, .ref z41, .ref z42, .int 0, .ref z13, .ref z14, .ref z15, .ref z16, .int 0, .ref z17, .ref z18, .ref z43]))] sz) [(h0, .inr (12, [.ref z0, .ref z1, .ref z2, .ref z3, .ref z4, .ref z5, .ref z20, .ref z21, .ref z22, .ref z23, .ref z24, .ref z25, .int 0, .ref z26, .ref z27, .ref z28, .int 9, .int 0, .int 0, .ref z6, .ref z29, .ref z7, .int 0, .int 2, .ref z19, .ref z8, .ref z9, .ref z10, .int 0, .ref z11, .int 0, .ref z30, .ref z31, .ref z32, .ref z33, .int 0, .ref z12, .int 0, .int 0, .ref z34, .ref z35, .ref z36, .ref z37, .int 0, .int 0, .int 0, .int 0, .ref z38, .int 0, .ref z39, .ref z40, .ref z41, .ref z42, .int 0, .ref z13, .ref z14, .ref z15, .ref z16, .int 0, .ref z17, .ref z18, .ref z43]))] t) (va_A [(h0, .inr (12, [.ref z0, .ref z1, .ref z2, .ref z3, .ref z4, .ref z5, .ref z20, .ref z21, .ref z22, .ref z23, .ref z24, .ref z25, .int 0, .ref z26, .ref z27, .ref z28, .int 9, .int 0, .int 0, .ref z6, .ref z29, .ref z7, .int 0, .int 2, .ref z19, .ref z8, .ref z9, .ref z10, .int 0, .ref z11, .int 0, .ref z30, .ref z31, .ref z32, .ref z33, .int 0, .ref z12, .int 0, .int 0, .ref z34, .ref z35, .ref z36, .ref z37, .int 0, .int 0, .int 0, .int 0, .ref z38, .int 0, .ref z39, .ref z40, .ref z41, .ref z42, .int 0, .ref z13, .ref z14, .ref z15, .ref z16, .int 0, .ref z17, .ref z18, .ref z43]))] sz)) 0 0 (va_A [(h0, .inr (12, [.ref z0, .ref z1, .ref z2, .ref z3, .ref z4, .ref z5, .ref z20, .ref z21, .ref z22, .ref z23, .ref z24, .ref z25, .int 0, .ref z26, .ref z27, .ref z28, .int 9, .int 0, .int 0, .ref z6, .ref z29, .ref z7, .int 0, .int 2, .ref z19, .ref z8, .ref z9, .ref z10, .int 0, .ref z11, .int 0, .ref z30, .ref z31, .ref z32, .ref z33, .int 0, .ref z12, .int 0, .int 0, .ref z34, .ref z35, .ref z36, .ref z37, .int 0, .int 0, .int 0, .int 0, .ref z38, .int 0, .ref z39, .ref z40, .ref z41, .ref z42, .int 0, .ref z13, .ref z14, .ref z15, .ref z16, .int 0, .ref z17, .ref z18, .ref z43]))] sz) := by
  refine Met.ofW (cc := cX12_passAt) (maxL := 4) (ret := (some .int)) (by decide) rfl ?_
  intro p e s m args below meth c s₁ B hml hv
  obtain ⟨rfl, hsz, hP, hK, hD0, hN⟩ := hv
  have hx := B.exec
  have hb := B.bytes
  have hr := B.returns
  have hts := atoms_spec (ws := wsX12_passAt) B.pre
  have hown : s.vm.findClass RX12 = some m.cls := findClass_of_methodNamed B.named
  have hlocks := B.notSynchronized
  subst hsz
  have hD := hD0.self (sz := s.heap.size)
  generalize hAe : va_A [(h0, .inr (12, [.ref z0, .ref z1, .ref z2, .ref z3, .ref z4, .ref z5, .ref z20, .ref z21, .ref z22, .ref z23, .ref z24, .ref z25, .int 0, .ref z26, .ref z27, .ref z28, .int 9, .int 0, .int 0, .ref z6, .ref z29, .ref z7, .int 0, .int 2, .ref z19, .ref z8, .ref z9, .ref z10, .int 0, .ref z11, .int 0, .ref z30, .ref z31, .ref z32, .ref z33, .int 0, .ref z12, .int 0, .int 0, .ref z34, .ref z35, .ref z36, .ref z37, .int 0, .int 0, .int 0, .int 0, .ref z38, .int 0, .ref z39, .ref z40, .ref z41, .ref z42, .int 0, .ref z13, .ref z14, .ref z15, .ref z16, .int 0, .ref z17, .ref z18, .ref z43]))] s.heap.size = A at hD ⊢
  have hA : ∀ q : Nat, s.heap.size ≤ q → A q := fun q h => by rw [← hAe]; exact Or.inr h
  have hS : va_S A s.heap s.heap [] := va_S.rf
  have hP : va_P D vwCl [(h0, .inr (12, [.ref z0, .ref z1, .ref z2, .ref z3, .ref z4, .ref z5, .ref z20, .ref z21, .ref z22, .ref z23, .ref z24, .ref z25, .int 0, .ref z26, .ref z27, .ref z28, .int 9, .int 0, .int 0, .ref z6, .ref z29, .ref z7, .int 0, .int 2, .ref z19, .ref z8, .ref z9, .ref z10, .int 0, .ref z11, .int 0, .ref z30, .ref z31, .ref z32, .ref z33, .int 0, .ref z12, .int 0, .int 0, .ref z34, .ref z35, .ref z36, .ref z37, .int 0, .int 0, .int 0, .int 0, .ref z38, .int 0, .ref z39, .ref z40, .ref z41, .ref z42, .int 0, .ref z13, .ref z14, .ref z15, .ref z16, .int 0, .ref z17, .ref z18, .ref z43]))] s.heap := hP
  have hl := lv_entry ([.ref h0, .int 1, .int 3, .int 2]) (n := 4) (Nat.le_of_ble_eq_true rfl)
  rw [lg_entry_eq]
  generalize (lg_sl ([.ref h0, .int 1, .int 3, .int 2]) ++ List.replicate (4 - (lg_sl ([.ref h0, .int 1, .int 3, .int 2])).length) Slot.unset).toArray = ls at hl ⊢
  have hl : lv_has ls 4 [(0, .ref h0), (1, .int 1), (2, .int 3), (3, .int 2)] := hl
  refine lv_iload_n hx hb dX12_passAt_0 rfl (lv_at hl 1 rfl) ?_
  refine lv_aload_n hx hb dX12_passAt_1 rfl (lv_at hl 0 rfl) ?_
  have hPc := hP.sub (ws' := [(h0, .inr (12, [.ref z0, .ref z1, .ref z2, .ref z3, .ref z4, .ref z5, .ref z20, .ref z21, .ref z22, .ref z23, .ref z24, .ref z25, .int 0, .ref z26, .ref z27, .ref z28, .int 9, .int 0, .int 0, .ref z6, .ref z29, .ref z7, .int 0, .int 2, .ref z19, .ref z8, .ref z9, .ref z10, .int 0, .ref z11, .int 0, .ref z30, .ref z31, .ref z32, .ref z33, .int 0, .ref z12, .int 0, .int 0, .ref z34, .ref z35, .ref z36, .ref z37, .int 0, .int 0, .int 0, .int 0, .ref z38, .int 0, .ref z39, .ref z40, .ref z41, .ref z42, .int 0, .ref z13, .ref z14, .ref z15, .ref z16, .int 0, .ref z17, .ref z18, .ref z43]))]) [0] rfl
  have hDc := hD.sub (ws' := [(h0, .inr (12, [.ref z0, .ref z1, .ref z2, .ref z3, .ref z4, .ref z5, .ref z20, .ref z21, .ref z22, .ref z23, .ref z24, .ref z25, .int 0, .ref z26, .ref z27, .ref z28, .int 9, .int 0, .int 0, .ref z6, .ref z29, .ref z7, .int 0, .int 2, .ref z19, .ref z8, .ref z9, .ref z10, .int 0, .ref z11, .int 0, .ref z30, .ref z31, .ref z32, .ref z33, .int 0, .ref z12, .int 0, .int 0, .ref z34, .ref z35, .ref z36, .ref z37, .int 0, .int 0, .int 0, .int 0, .ref z38, .int 0, .ref z39, .ref z40, .ref z41, .ref z42, .int 0, .ref z13, .ref z14, .ref z15, .ref z16, .int 0, .ref z17, .ref z18, .ref z43]))]) [0] (by decide) rfl
  have hFc := va_free (wc := [(h0, .inr (12, [.ref z0, .ref z1, .ref z2, .ref z3, .ref z4, .ref z5, .ref z20, .ref z21, .ref z22, .ref z23, .ref z24, .ref z25, .int 0, .ref z26, .ref z27, .ref z28, .int 9, .int 0, .int 0, .ref z6, .ref z29, .ref z7, .int 0, .int 2, .ref z19, .ref z8, .ref z9, .ref z10, .int 0, .ref z11, .int 0, .ref z30, .ref z31, .ref z32, .ref z33, .int 0, .ref z12, .int 0, .int 0, .ref z34, .ref z35, .ref z36, .ref z37, .int 0, .int 0, .int 0, .int 0, .ref z38, .int 0, .ref z39, .ref z40, .ref z41, .ref z42, .int 0, .ref z13, .ref z14, .ref z15, .ref z16, .int 0, .ref z17, .ref z18, .ref z43]))]) hD hS hA [0] rfl
  refine va_calli (va_runV (As := []) (rest := [.int 1]) ⟨hx, hb, hml, hown, hts⟩ (kX12_gens l D G h0 z0 z1 z2 z3 z4 z5 z20 z21 z22 z23 z24 z25 z26 z27 z28 z6 z29 z7 z19 z8 z9 z10 z11 z30 z31 z32 z33 z12 z34 z35 z36 z37 z38 z39 z40 z41 z42 z13 z14 z15 z16 z17 z18 z43 0 s.heap.size) (cwV 0 hts gX12_passAt_X12_gens rfl rfl rfl (by decide +kernel) ⟨Nat.le_of_ble_eq_true rfl, Nat.le_of_ble_eq_true rfl⟩) ⟨wB_blind, va_recv hK hPc (ci := 12) (q0 := 0) rfl rfl, wB_pre hPc hK hDc hN⟩ rfl rfl hl.1 rfl (lv_room (Nat.le_of_ble_eq_true rfl)) dX12_passAt_2 ⟨Nat.le_of_ble_eq_true rfl, Nat.le_of_ble_eq_true rfl⟩) hS (fun q _ h => hFc q h) hFc (fun r1 u t H1 locs ht hvm hr1 hB hz1 hk1 hS => ?_)
  obtain ⟨hP1, hK1, hD1⟩ := hB
  rw [ht] at hP1
  obtain ⟨hP, hD⟩ := va_join (wr := []) (w1 := [(h0, .inr (12, [.ref z0, .ref z1, .ref z2, .ref z3, .ref z4, .ref z5, .ref z20, .ref z21, .ref z22, .ref z23, .ref z24, .ref z25, .int 0, .ref z26, .ref z27, .ref z28, .int 9, .int 0, .int 0, .ref z6, .ref z29, .ref z7, .int 0, .int 2, .ref z19, .ref z8, .ref z9, .ref z10, .int 0, .ref z11, .int 0, .ref z30, .ref z31, .ref z32, .ref z33, .int 0, .ref z12, .int 0, .int 0, .ref z34, .ref z35, .ref z36, .ref z37, .int 0, .int 0, .int 0, .int 0, .ref z38, .int 0, .ref z39, .ref z40, .ref z41, .ref z42, .int 0, .ref z13, .ref z14, .ref z15, .ref z16, .int 0, .ref z17, .ref z18, .ref z43]))]) hP hD [0] [] rfl rfl (by decide) (by decide) hk1 hFc hP1 hD1
  clear hPc hDc
  generalize H1 = H at hP hS ⊢
  have hP : va_P D vwCl [(h0, .inr (12, [.ref z0, .ref z1, .ref z2, .ref z3, .ref z4, .ref z5, .ref z20, .ref z21, .ref z22, .ref z23, .ref z24, .ref z25, .int 0, .ref z26, .ref z27, .ref z28, .int 9, .int 0, .int 0, .ref z6, .ref z29, .ref z7, .int 0, .int 2, .ref z19, .ref z8, .ref z9, .ref z10, .int 0, .ref z11, .int 0, .ref z30, .ref z31, .ref z32, .ref z33, .int 0, .ref z12, .int 0, .int 0, .ref z34, .ref z35, .ref z36, .ref z37, .int 0, .int 0, .int 0, .int 0, .ref z38, .int 0, .ref z39, .ref z40, .ref z41, .ref z42, .int 0, .ref z13, .ref z14, .ref z15, .ref z16, .int 0, .ref z17, .ref z18, .ref z43]))] H := hP
  have hD : va_D A [(h0, .inr (12, [.ref z0, .ref z1, .ref z2, .ref z3, .ref z4, .ref z5, .ref z20, .ref z21, .ref z22, .ref z23, .ref z24, .ref z25, .int 0, .ref z26, .ref z27, .ref z28, .int 9, .int 0, .int 0, .ref z6, .ref z29, .ref z7, .int 0, .int 2, .ref z19, .ref z8, .ref z9, .ref z10, .int 0, .ref z11, .int 0, .ref z30, .ref z31, .ref z32, .ref z33, .int 0, .ref z12, .int 0, .int 0, .ref z34, .ref z35, .ref z36, .ref z37, .int 0, .int 0, .int 0, .int 0, .ref z38, .int 0, .ref z39, .ref z40, .ref z41, .ref z42, .int 0, .ref z13, .ref z14, .ref z15, .ref z16, .int 0, .ref z17, .ref z18, .ref z43]))] := hD
  subst hr1
  refine lv_iload_n hx hb dX12_passAt_5 rfl (lv_at hl 2 rfl) ?_
  refine lv_iconst (v := 1) hx hb dX12_passAt_6 (by decide) ?_
  refine lv_isub hx hb dX12_passAt_7 ?_
  refine wk_i 2 (by decide) ?_
  refine lv_iload_n hx hb dX12_passAt_8 rfl (lv_at hl 3 rfl) ?_
  refine lv_isub hx hb dX12_passAt_9 ?_
  refine wk_i 0 (by decide) ?_
  have hPc := hP.sub (ws' := []) [] rfl
  have hDc := hD.sub (ws' := []) [] (by decide) rfl
  have hFc := va_free (wc := []) hD hS hA [] rfl
  refine va_calli (va_runS (As := [.int 2, .int 0]) (rest := [.int 1]) ⟨hx, hb, hml, hown, hts⟩ (kX12_power_0 l D G  H.size) (va_cwS 2 hts gX12_passAt_X12_power rfl rfl rfl (by decide +kernel) ⟨Nat.le_of_ble_eq_true rfl, Nat.le_of_ble_eq_true rfl⟩) ⟨wB_blind, wB_pre hPc hK hDc hN⟩ rfl rfl hl.1 rfl (lv_room (Nat.le_of_ble_eq_true rfl)) dX12_passAt_10 ⟨Nat.le_of_ble_eq_true rfl, Nat.le_of_ble_eq_true rfl⟩) hS (fun q _ h => hFc q h) hFc (fun r2 u t H1 locs ht hvm hr2 hB hz1 hk1 hS => ?_)
  obtain ⟨hP, hD⟩ := va_join (wr := [(h0, .inr (12, [.ref z0, .ref z1, .ref z2, .ref z3, .ref z4, .ref z5, .ref z20, .ref z21, .ref z22, .ref z23, .ref z24, .ref z25, .int 0, .ref z26, .ref z27, .ref z28, .int 9, .int 0, .int 0, .ref z6, .ref z29, .ref z7, .int 0, .int 2, .ref z19, .ref z8, .ref z9, .ref z10, .int 0, .ref z11, .int 0, .ref z30, .ref z31, .ref z32, .ref z33, .int 0, .ref z12, .int 0, .int 0, .ref z34, .ref z35, .ref z36, .ref z37, .int 0, .int 0, .int 0, .int 0, .ref z38, .int 0, .ref z39, .ref z40, .ref z41, .ref z42, .int 0, .ref z13, .ref z14, .ref z15, .ref z16, .int 0, .ref z17, .ref z18, .ref z43]))]) (w1 := []) hP hD [] [0] rfl rfl (by decide) (by decide) hk1 hFc wP_nil wD_nil
  clear hPc hDc
  generalize H1 = H at hP hS ⊢
  have hP : va_P D vwCl [(h0, .inr (12, [.ref z0, .ref z1, .ref z2, .ref z3, .ref z4, .ref z5, .ref z20, .ref z21, .ref z22, .ref z23, .ref z24, .ref z25, .int 0, .ref z26, .ref z27, .ref z28, .int 9, .int 0, .int 0, .ref z6, .ref z29, .ref z7, .int 0, .int 2, .ref z19, .ref z8, .ref z9, .ref z10, .int 0, .ref z11, .int 0, .ref z30, .ref z31, .ref z32, .ref z33, .int 0, .ref z12, .int 0, .int 0, .ref z34, .ref z35, .ref z36, .ref z37, .int 0, .int 0, .int 0, .int 0, .ref z38, .int 0, .ref z39, .ref z40, .ref z41, .ref z42, .int 0, .ref z13, .ref z14, .ref z15, .ref z16, .int 0, .ref z17, .ref z18, .ref z43]))] H := hP
  have hD : va_D A [(h0, .inr (12, [.ref z0, .ref z1, .ref z2, .ref z3, .ref z4, .ref z5, .ref z20, .ref z21, .ref z22, .ref z23, .ref z24, .ref z25, .int 0, .ref z26, .ref z27, .ref z28, .int 9, .int 0, .int 0, .ref z6, .ref z29, .ref z7, .int 0, .int 2, .ref z19, .ref z8, .ref z9, .ref z10, .int 0, .ref z11, .int 0, .ref z30, .ref z31, .ref z32, .ref z33, .int 0, .ref z12, .int 0, .int 0, .ref z34, .ref z35, .ref z36, .ref z37, .int 0, .int 0, .int 0, .int 0, .ref z38, .int 0, .ref z39, .ref z40, .ref z41, .ref z42, .int 0, .ref z13, .ref z14, .ref z15, .ref z16, .int 0, .ref z17, .ref z18, .ref z43]))] := hD
  subst hr2
  refine lv_idiv hx hb dX12_passAt_13 (by decide) ?_
  refine wk_i 1 (by decide) ?_
  refine lv_aload_n hx hb dX12_passAt_14 rfl (lv_at hl 0 rfl) ?_
  have hPc := hP.sub (ws' := [(h0, .inr (12, [.ref z0, .ref z1, .ref z2, .ref z3, .ref z4, .ref z5, .ref z20, .ref z21, .ref z22, .ref z23, .ref z24, .ref z25, .int 0, .ref z26, .ref z27, .ref z28, .int 9, .int 0, .int 0, .ref z6, .ref z29, .ref z7, .int 0, .int 2, .ref z19, .ref z8, .ref z9, .ref z10, .int 0, .ref z11, .int 0, .ref z30, .ref z31, .ref z32, .ref z33, .int 0, .ref z12, .int 0, .int 0, .ref z34, .ref z35, .ref z36, .ref z37, .int 0, .int 0, .int 0, .int 0, .ref z38, .int 0, .ref z39, .ref z40, .ref z41, .ref z42, .int 0, .ref z13, .ref z14, .ref z15, .ref z16, .int 0, .ref z17, .ref z18, .ref z43]))]) [0] rfl
  have hDc := hD.sub (ws' := [(h0, .inr (12, [.ref z0, .ref z1, .ref z2, .ref z3, .ref z4, .ref z5, .ref z20, .ref z21, .ref z22, .ref z23, .ref z24, .ref z25, .int 0, .ref z26, .ref z27, .ref z28, .int 9, .int 0, .int 0, .ref z6, .ref z29, .ref z7, .int 0, .int 2, .ref z19, .ref z8, .ref z9, .ref z10, .int 0, .ref z11, .int 0, .ref z30, .ref z31, .ref z32, .ref z33, .int 0, .ref z12, .int 0, .int 0, .ref z34, .ref z35, .ref z36, .ref z37, .int 0, .int 0, .int 0, .int 0, .ref z38, .int 0, .ref z39, .ref z40, .ref z41, .ref z42, .int 0, .ref z13, .ref z14, .ref z15, .ref z16, .int 0, .ref z17, .ref z18, .ref z43]))]) [0] (by decide) rfl
  have hFc := va_free (wc := [(h0, .inr (12, [.ref z0, .ref z1, .ref z2, .ref z3, .ref z4, .ref z5, .ref z20, .ref z21, .ref z22, .ref z23, .ref z24, .ref z25, .int 0, .ref z26, .ref z27, .ref z28, .int 9, .int 0, .int 0, .ref z6, .ref z29, .ref z7, .int 0, .int 2, .ref z19, .ref z8, .ref z9, .ref z10, .int 0, .ref z11, .int 0, .ref z30, .ref z31, .ref z32, .ref z33, .int 0, .ref z12, .int 0, .int 0, .ref z34, .ref z35, .ref z36, .ref z37, .int 0, .int 0, .int 0, .int 0, .ref z38, .int 0, .ref z39, .ref z40, .ref z41, .ref z42, .int 0, .ref z13, .ref z14, .ref z15, .ref z16, .int 0, .ref z17, .ref z18, .ref z43]))]) hD hS hA [0] rfl
  refine va_calli (va_runV (As := []) (rest := [.int 1]) ⟨hx, hb, hml, hown, hts⟩ (kX12_gens l D G h0 z0 z1 z2 z3 z4 z5 z20 z21 z22 z23 z24 z25 z26 z27 z28 z6 z29 z7 z19 z8 z9 z10 z11 z30 z31 z32 z33 z12 z34 z35 z36 z37 z38 z39 z40 z41 z42 z13 z14 z15 z16 z17 z18 z43 0 H.size) (cwV 0 hts gX12_passAt_X12_gens rfl rfl rfl (by decide +kernel) ⟨Nat.le_of_ble_eq_true rfl, Nat.le_of_ble_eq_true rfl⟩) ⟨wB_blind, va_recv hK hPc (ci := 12) (q0 := 0) rfl rfl, wB_pre hPc hK hDc hN⟩ rfl rfl hl.1 rfl (lv_room (Nat.le_of_ble_eq_true rfl)) dX12_passAt_15 ⟨Nat.le_of_ble_eq_true rfl, Nat.le_of_ble_eq_true rfl⟩) hS (fun q _ h => hFc q h) hFc (fun r3 u t H1 locs ht hvm hr3 hB hz1 hk1 hS => ?_)
  obtain ⟨hP1, hK1, hD1⟩ := hB
  rw [ht] at hP1
  obtain ⟨hP, hD⟩ := va_join (wr := []) (w1 := [(h0, .inr (12, [.ref z0, .ref z1, .ref z2, .ref z3, .ref z4, .ref z5, .ref z20, .ref z21, .ref z22, .ref z23, .ref z24, .ref z25, .int 0, .ref z26, .ref z27, .ref z28, .int 9, .int 0, .int 0, .ref z6, .ref z29, .ref z7, .int 0, .int 2, .ref z19, .ref z8, .ref z9, .ref z10, .int 0, .ref z11, .int 0, .ref z30, .ref z31, .ref z32, .ref z33, .int 0, .ref z12, .int 0, .int 0, .ref z34, .ref z35, .ref z36, .ref z37, .int 0, .int 0, .int 0, .int 0, .ref z38, .int 0, .ref z39, .ref z40, .ref z41, .ref z42, .int 0, .ref z13, .ref z14, .ref z15, .ref z16, .int 0, .ref z17, .ref z18, .ref z43]))]) hP hD [0] [] rfl rfl (by decide) (by decide) hk1 hFc hP1 hD1
  clear hPc hDc
  generalize H1 = H at hP hS ⊢
  have hP : va_P D vwCl [(h0, .inr (12, [.ref z0, .ref z1, .ref z2, .ref z3, .ref z4, .ref z5, .ref z20, .ref z21, .ref z22, .ref z23, .ref z24, .ref z25, .int 0, .ref z26, .ref z27, .ref z28, .int 9, .int 0, .int 0, .ref z6, .ref z29, .ref z7, .int 0, .int 2, .ref z19, .ref z8, .ref z9, .ref z10, .int 0, .ref z11, .int 0, .ref z30, .ref z31, .ref z32, .ref z33, .int 0, .ref z12, .int 0, .int 0, .ref z34, .ref z35, .ref z36, .ref z37, .int 0, .int 0, .int 0, .int 0, .ref z38, .int 0, .ref z39, .ref z40, .ref z41, .ref z42, .int 0, .ref z13, .ref z14, .ref z15, .ref z16, .int 0, .ref z17, .ref z18, .ref z43]))] H := hP
  have hD : va_D A [(h0, .inr (12, [.ref z0, .ref z1, .ref z2, .ref z3, .ref z4, .ref z5, .ref z20, .ref z21, .ref z22, .ref z23, .ref z24, .ref z25, .int 0, .ref z26, .ref z27, .ref z28, .int 9, .int 0, .int 0, .ref z6, .ref z29, .ref z7, .int 0, .int 2, .ref z19, .ref z8, .ref z9, .ref z10, .int 0, .ref z11, .int 0, .ref z30, .ref z31, .ref z32, .ref z33, .int 0, .ref z12, .int 0, .int 0, .ref z34, .ref z35, .ref z36, .ref z37, .int 0, .int 0, .int 0, .int 0, .ref z38, .int 0, .ref z39, .ref z40, .ref z41, .ref z42, .int 0, .ref z13, .ref z14, .ref z15, .ref z16, .int 0, .ref z17, .ref z18, .ref z43]))] := hD
  subst hr3
  refine lv_irem hx hb dX12_passAt_18 (by decide) ?_
  refine wk_i 1 (by decide) ?_
  have hPc := hP.sub (ws' := []) [] rfl
  have hDc := hD.sub (ws' := []) [] (by decide) rfl
  have hFc := va_free (wc := []) hD hS hA [] rfl
  refine va_calli (va_runS (As := [.int 1]) (rest := []) ⟨hx, hb, hml, hown, hts⟩ (kX12_passOf_1 l D G  H.size) (va_cwS 1 hts gX12_passAt_X12_passOf rfl rfl rfl (by decide +kernel) ⟨Nat.le_of_ble_eq_true rfl, Nat.le_of_ble_eq_true rfl⟩) ⟨wB_blind, wB_pre hPc hK hDc hN⟩ rfl rfl hl.1 rfl (lv_room (Nat.le_of_ble_eq_true rfl)) dX12_passAt_19 ⟨Nat.le_of_ble_eq_true rfl, Nat.le_of_ble_eq_true rfl⟩) hS (fun q _ h => hFc q h) hFc (fun r4 u t H1 locs ht hvm hr4 hB hz1 hk1 hS => ?_)
  obtain ⟨hP, hD⟩ := va_join (wr := [(h0, .inr (12, [.ref z0, .ref z1, .ref z2, .ref z3, .ref z4, .ref z5, .ref z20, .ref z21, .ref z22, .ref z23, .ref z24, .ref z25, .int 0, .ref z26, .ref z27, .ref z28, .int 9, .int 0, .int 0, .ref z6, .ref z29, .ref z7, .int 0, .int 2, .ref z19, .ref z8, .ref z9, .ref z10, .int 0, .ref z11, .int 0, .ref z30, .ref z31, .ref z32, .ref z33, .int 0, .ref z12, .int 0, .int 0, .ref z34, .ref z35, .ref z36, .ref z37, .int 0, .int 0, .int 0, .int 0, .ref z38, .int 0, .ref z39, .ref z40, .ref z41, .ref z42, .int 0, .ref z13, .ref z14, .ref z15, .ref z16, .int 0, .ref z17, .ref z18, .ref z43]))]) (w1 := []) hP hD [] [0] rfl rfl (by decide) (by decide) hk1 hFc wP_nil wD_nil
  clear hPc hDc
  generalize H1 = H at hP hS ⊢
  have hP : va_P D vwCl [(h0, .inr (12, [.ref z0, .ref z1, .ref z2, .ref z3, .ref z4, .ref z5, .ref z20, .ref z21, .ref z22, .ref z23, .ref z24, .ref z25, .int 0, .ref z26, .ref z27, .ref z28, .int 9, .int 0, .int 0, .ref z6, .ref z29, .ref z7, .int 0, .int 2, .ref z19, .ref z8, .ref z9, .ref z10, .int 0, .ref z11, .int 0, .ref z30, .ref z31, .ref z32, .ref z33, .int 0, .ref z12, .int 0, .int 0, .ref z34, .ref z35, .ref z36, .ref z37, .int 0, .int 0, .int 0, .int 0, .ref z38, .int 0, .ref z39, .ref z40, .ref z41, .ref z42, .int 0, .ref z13, .ref z14, .ref z15, .ref z16, .int 0, .ref z17, .ref z18, .ref z43]))] H := hP
  have hD : va_D A [(h0, .inr (12, [.ref z0, .ref z1, .ref z2, .ref z3, .ref z4, .ref z5, .ref z20, .ref z21, .ref z22, .ref z23, .ref z24, .ref z25, .int 0, .ref z26, .ref z27, .ref z28, .int 9, .int 0, .int 0, .ref z6, .ref z29, .ref z7, .int 0, .int 2, .ref z19, .ref z8, .ref z9, .ref z10, .int 0, .ref z11, .int 0, .ref z30, .ref z31, .ref z32, .ref z33, .int 0, .ref z12, .int 0, .int 0, .ref z34, .ref z35, .ref z36, .ref z37, .int 0, .int 0, .int 0, .int 0, .ref z38, .int 0, .ref z39, .ref z40, .ref z41, .ref z42, .int 0, .ref z13, .ref z14, .ref z15, .ref z16, .int 0, .ref z17, .ref z18, .ref z43]))] := hD
  subst hr4
  have hP9 := hP.sub (ws' := [(h0, .inr (12, [.ref z0, .ref z1, .ref z2, .ref z3, .ref z4, .ref z5, .ref z20, .ref z21, .ref z22, .ref z23, .ref z24, .ref z25, .int 0, .ref z26, .ref z27, .ref z28, .int 9, .int 0, .int 0, .ref z6, .ref z29, .ref z7, .int 0, .int 2, .ref z19, .ref z8, .ref z9, .ref z10, .int 0, .ref z11, .int 0, .ref z30, .ref z31, .ref z32, .ref z33, .int 0, .ref z12, .int 0, .int 0, .ref z34, .ref z35, .ref z36, .ref z37, .int 0, .int 0, .int 0, .int 0, .ref z38, .int 0, .ref z39, .ref z40, .ref z41, .ref z42, .int 0, .ref z13, .ref z14, .ref z15, .ref z16, .int 0, .ref z17, .ref z18, .ref z43]))]) [0] rfl
  have hD9 := hD.sub (ws' := [(h0, .inr (12, [.ref z0, .ref z1, .ref z2, .ref z3, .ref z4, .ref z5, .ref z20, .ref z21, .ref z22, .ref z23, .ref z24, .ref z25, .int 0, .ref z26, .ref z27, .ref z28, .int 9, .int 0, .int 0, .ref z6, .ref z29, .ref z7, .int 0, .int 2, .ref z19, .ref z8, .ref z9, .ref z10, .int 0, .ref z11, .int 0, .ref z30, .ref z31, .ref z32, .ref z33, .int 0, .ref z12, .int 0, .int 0, .ref z34, .ref z35, .ref z36, .ref z37, .int 0, .int 0, .int 0, .int 0, .ref z38, .int 0, .ref z39, .ref z40, .ref z41, .ref z42, .int 0, .ref z13, .ref z14, .ref z15, .ref z16, .int 0, .ref z17, .ref z18, .ref z43]))]) [0] (by decide) rfl
  exact W.iret (v := (-1)) hx hb hr (fun t ht hW => ⟨⟨(-1), (), rfl, rfl, ⟨by rw [ht]; exact hP9, va_K.moved hW.alike hK, hD9⟩⟩, hS.F ht⟩) hS.2.2 dX12_passAt_22

set_option maxHeartbeats 4000000 in
set_option maxRecDepth 100000 in
/-- X12_passAt -/
theorem kX12_passAt_3_2_0 (l : Launch) (D : va_G) (G : tyG) (h0 : Nat) (z0 : Nat) (z1 : Nat) (z2 : Nat) (z3 : Nat) (z4 : Nat) (z5 : Nat) (z20 : Nat) (z21 : Nat) (z22 : Nat) (z23 : Nat) (z24 : Nat) (z25 : Nat) (z26 : Nat) (z27 : Nat) (z28 : Nat) (z6 : Nat) (z29 : Nat) (z7 : Nat) (z19 : Nat) (z8 : Nat) (z9 : Nat) (z10 : Nat) (z11 : Nat) (z30 : Nat) (z31 : Nat) (z32 : Nat) (z33 : Nat) (z12 : Nat) (z34 : Nat) (z35 : Nat) (z36 : Nat) (z37 : Nat) (z38 : Nat) (z39 : Nat) (z40 : Nat) (z41 : Nat) (z42 : Nat) (z13 : Nat) (z14 : Nat) (z15 : Nat) (z16 : Nat) (z17 : Nat) (z18 : Nat) (z43 : Nat) (sz : Nat) : Met l yX12_passAt wsX12_passAt ({ frames := 1, cells := 0, slots := 0, locals := 23 }) (va_Pc [.ref h0, .int 2, .int 3, .int 0] (wB D G sz [(h0, .inr (12, [.ref z0, .ref z1, .ref z2, .ref z3, .ref z4, .ref z5, .ref z20, .ref z21, .ref z22, .ref z23, .ref z24, .ref z25, .int 0, .ref z26, .ref z27, .ref z28, .int 9, .int 0, .int 0, .ref z6, .ref z29, .ref z7, .int 0, .int 2, .ref z19, .ref z8, .ref z9, .ref z10, .int 0, .ref z11, .int 0, .ref z30, .ref z31, .ref z32, .ref z33, .int 0, .ref z12, .int 0, .int 0, .ref z34, .ref z35, .ref z36, .ref z37, .int 0, .int 0, .int 0, .int 0, .ref z38, .int 0, .ref z39, .ref z40, .ref z41, .ref z42, .int 0, .ref z13, .ref z14, .ref z15, .ref z16, .int 0, .ref z17, .ref z18, .ref z43]))])) (va_Qi (fun (r : Int32) (_ : Unit) => r = 1) (fun _ t => wS D G (va_A [(h0, .inr (12, [.ref z0, .ref z1, .ref z2, .ref z3, .ref z4, .ref z5, .ref z20, .ref z21, .ref z22, .ref z23, .ref z24, .ref z25, .int 0, .ref z26, .ref z27, .ref z28, .int 9, .int 0, .int 0, .ref z6, .ref z29, .ref z7, .int 0, .int 2, .ref z19, .ref z8, .ref z9, .ref z10, .int 0, .ref z11, .int 0, .ref z30, .ref z31, .ref z32, .ref z33, .int 0, .ref z12, .int 0, .int 0, .ref z34, .ref z35, .ref z36, .ref z37, .int 0, .int 0, .int 0, .int 0, .ref z38, .int 0, .ref z39, .ref z40, .ref z41, .ref z42, .int 0, .ref z13, .ref z14, .ref z15, .ref z16, .int 0, .ref z17, .ref z18, .ref z43]))] sz) [(h0, .inr (12, [.ref z0, .ref z1, .ref z2, .ref z3, .ref z4, .ref z5, .ref z20, .ref z21, .ref z22, .ref z23, .ref z24, .ref z25, .int 0, .ref z26, .ref z27, .ref z28, .int 9, .int 0, .int 0, .ref z6, .ref z29, .ref z7, .int 0, .int 2, .ref z19, .ref z8, .ref z9, .ref z10, .int 0, .ref z11, .int 0, .ref z30, .ref z31, .ref z32, .ref z33, .int 0, .ref z12, .int 0, .int 0, .ref z34, .ref z35, .ref z36, .ref z37, .int 0, .int 0, .int 0, .int 0, .ref z38, .int 0, .ref z39, .ref z40, .ref z41, .ref z42, .int 0, .ref z13, .ref z14, .ref z15, .ref z16, .int 0, .ref z17, .ref z18, .ref z43]))] t) (va_A [(h0, .inr (12, [.ref z0, .ref z1, .ref z2, .ref z3, .ref z4, .ref z5, .ref z20, .ref z21, .ref z22, .ref z23, .ref z24, .ref z25, .int 0, .ref z26, .ref z27, .ref z28, .int 9, .int 0, .int 0, .ref z6, .ref z29, .ref z7, .int 0, .int 2, .ref z19, .ref z8, .ref z9, .ref z10, .int 0, .ref z11, .int 0, .ref z30, .ref z31, .ref z32, .ref z33, .int 0, .ref z12, .int 0, .int 0, .ref z34, .ref z35, .ref z36, .ref z37, .int 0, .int 0, .int 0, .int 0, .ref z38, .int 0, .ref z39, .ref z40, .ref z41, .ref z42, .int 0, .ref z13, .ref z14, .ref z15, .ref z16, .int 0, .ref z17, .ref z18, .ref z43]))] sz)) 0 0 (va_A [(h0, .inr (12, [.ref z0, .ref z1, .ref z2, .ref z3, .ref z4, .ref z5, .ref z20, .ref z21, .ref z22, .ref z23, .ref z24, .ref z25, .int 0, .ref z26, .ref z27, .ref z28, .int 9, .int 0, .int 0, .ref z6, .ref z29, .ref z7, .int 0, .int 2, .ref z19, .ref z8, .ref z9, .ref z10, .int 0, .ref z11, .int 0, .ref z30, .ref z31, .ref z32, .ref z33, .int 0, .ref z12, .int 0, .int 0, .ref z34, .ref z35, .ref z36, .ref z37, .int 0, .int 0, .int 0, .int 0, .ref z38, .int 0, .ref z39, .ref z40, .ref z41, .ref z42, .int 0, .ref z13, .ref z14, .ref z15, .ref z16, .int 0, .ref z17, .ref z18, .ref z43]))] sz) := by
  refine Met.ofW (cc := cX12_passAt) (maxL := 4) (ret := (some .int)) (by decide) rfl ?_
  intro p e s m args below meth c s₁ B hml hv
  obtain ⟨rfl, hsz, hP, hK, hD0, hN⟩ := hv
  have hx := B.exec
  have hb := B.bytes
  have hr := B.returns
  have hts := atoms_spec (ws := wsX12_passAt) B.pre
  have hown : s.vm.findClass RX12 = some m.cls := findClass_of_methodNamed B.named
  have hlocks := B.notSynchronized
  subst hsz
  have hD := hD0.self (sz := s.heap.size)
  generalize hAe : va_A [(h0, .inr (12, [.ref z0, .ref z1, .ref z2, .ref z3, .ref z4, .ref z5, .ref z20, .ref z21, .ref z22, .ref z23, .ref z24, .ref z25, .int 0, .ref z26, .ref z27, .ref z28, .int 9, .int 0, .int 0, .ref z6, .ref z29, .ref z7, .int 0, .int 2, .ref z19, .ref z8, .ref z9, .ref z10, .int 0, .ref z11, .int 0, .ref z30, .ref z31, .ref z32, .ref z33, .int 0, .ref z12, .int 0, .int 0, .ref z34, .ref z35, .ref z36, .ref z37, .int 0, .int 0, .int 0, .int 0, .ref z38, .int 0, .ref z39, .ref z40, .ref z41, .ref z42, .int 0, .ref z13, .ref z14, .ref z15, .ref z16, .int 0, .ref z17, .ref z18, .ref z43]))] s.heap.size = A at hD ⊢
  have hA : ∀ q : Nat, s.heap.size ≤ q → A q := fun q h => by rw [← hAe]; exact Or.inr h
  have hS : va_S A s.heap s.heap [] := va_S.rf
  have hP : va_P D vwCl [(h0, .inr (12, [.ref z0, .ref z1, .ref z2, .ref z3, .ref z4, .ref z5, .ref z20, .ref z21, .ref z22, .ref z23, .ref z24, .ref z25, .int 0, .ref z26, .ref z27, .ref z28, .int 9, .int 0, .int 0, .ref z6, .ref z29, .ref z7, .int 0, .int 2, .ref z19, .ref z8, .ref z9, .ref z10, .int 0, .ref z11, .int 0, .ref z30, .ref z31, .ref z32, .ref z33, .int 0, .ref z12, .int 0, .int 0, .ref z34, .ref z35, .ref z36, .ref z37, .int 0, .int 0, .int 0, .int 0, .ref z38, .int 0, .ref z39, .ref z40, .ref z41, .ref z42, .int 0, .ref z13, .ref z14, .ref z15, .ref z16, .int 0, .ref z17, .ref z18, .ref z43]))] s.heap := hP
  have hl := lv_entry ([.ref h0, .int 2, .int 3, .int 0]) (n := 4) (Nat.le_of_ble_eq_true rfl)
  rw [lg_entry_eq]
  generalize (lg_sl ([.ref h0, .int 2, .int 3, .int 0]) ++ List.replicate (4 - (lg_sl ([.ref h0, .int 2, .int 3, .int 0])).length) Slot.unset).toArray = ls at hl ⊢
  have hl : lv_has ls 4 [(0, .ref h0), (1, .int 2), (2, .int 3), (3, .int 0)] := hl
  refine lv_iload_n hx hb dX12_passAt_0 rfl (lv_at hl 1 rfl) ?_
  refine lv_aload_n hx hb dX12_passAt_1 rfl (lv_at hl 0 rfl) ?_
  have hPc := hP.sub (ws' := [(h0, .inr (12, [.ref z0, .ref z1, .ref z2, .ref z3, .ref z4, .ref z5, .ref z20, .ref z21, .ref z22, .ref z23, .ref z24, .ref z25, .int 0, .ref z26, .ref z27, .ref z28, .int 9, .int 0, .int 0, .ref z6, .ref z29, .ref z7, .int 0, .int 2, .ref z19, .ref z8, .ref z9, .ref z10, .int 0, .ref z11, .int 0, .ref z30, .ref z31, .ref z32, .ref z33, .int 0, .ref z12, .int 0, .int 0, .ref z34, .ref z35, .ref z36, .ref z37, .int 0, .int 0, .int 0, .int 0, .ref z38, .int 0, .ref z39, .ref z40, .ref z41, .ref z42, .int 0, .ref z13, .ref z14, .ref z15, .ref z16, .int 0, .ref z17, .ref z18, .ref z43]))]) [0] rfl
  have hDc := hD.sub (ws' := [(h0, .inr (12, [.ref z0, .ref z1, .ref z2, .ref z3, .ref z4, .ref z5, .ref z20, .ref z21, .ref z22, .ref z23, .ref z24, .ref z25, .int 0, .ref z26, .ref z27, .ref z28, .int 9, .int 0, .int 0, .ref z6, .ref z29, .ref z7, .int 0, .int 2, .ref z19, .ref z8, .ref z9, .ref z10, .int 0, .ref z11, .int 0, .ref z30, .ref z31, .ref z32, .ref z33, .int 0, .ref z12, .int 0, .int 0, .ref z34, .ref z35, .ref z36, .ref z37, .int 0, .int 0, .int 0, .int 0, .ref z38, .int 0, .ref z39, .ref z40, .ref z41, .ref z42, .int 0, .ref z13, .ref z14, .ref z15, .ref z16, .int 0, .ref z17, .ref z18, .ref z43]))]) [0] (by decide) rfl
  have hFc := va_free (wc := [(h0, .inr (12, [.ref z0, .ref z1, .ref z2, .ref z3, .ref z4, .ref z5, .ref z20, .ref z21, .ref z22, .ref z23, .ref z24, .ref z25, .int 0, .ref z26, .ref z27, .ref z28, .int 9, .int 0, .int 0, .ref z6, .ref z29, .ref z7, .int 0, .int 2, .ref z19, .ref z8, .ref z9, .ref z10, .int 0, .ref z11, .int 0, .ref z30, .ref z31, .ref z32, .ref z33, .int 0, .ref z12, .int 0, .int 0, .ref z34, .ref z35, .ref z36, .ref z37, .int 0, .int 0, .int 0, .int 0, .ref z38, .int 0, .ref z39, .ref z40, .ref z41, .ref z42, .int 0, .ref z13, .ref z14, .ref z15, .ref z16, .int 0, .ref z17, .ref z18, .ref z43]))]) hD hS hA [0] rfl
  refine va_calli (va_runV (As := []) (rest := [.int 2]) ⟨hx, hb, hml, hown, hts⟩ (kX12_gens l D G h0 z0 z1 z2 z3 z4 z5 z20 z21 z22 z23 z24 z25 z26 z27 z28 z6 z29 z7 z19 z8 z9 z10 z11 z30 z31 z32 z33 z12 z34 z35 z36 z37 z38 z39 z40 z41 z42 z13 z14 z15 z16 z17 z18 z43 0 s.heap.size) (cwV 0 hts gX12_passAt_X12_gens rfl rfl rfl (by decide +kernel) ⟨Nat.le_of_ble_eq_true rfl, Nat.le_of_ble_eq_true rfl⟩) ⟨wB_blind, va_recv hK hPc (ci := 12) (q0 := 0) rfl rfl, wB_pre hPc hK hDc hN⟩ rfl rfl hl.1 rfl (lv_room (Nat.le_of_ble_eq_true rfl)) dX12_passAt_2 ⟨Nat.le_of_ble_eq_true rfl, Nat.le_of_ble_eq_true rfl⟩) hS (fun q _ h => hFc q h) hFc (fun r1 u t H1 locs ht hvm hr1 hB hz1 hk1 hS => ?_)
  obtain ⟨hP1, hK1, hD1⟩ := hB
  rw [ht] at hP1
  obtain ⟨hP, hD⟩ := va_join (wr := []) (w1 := [(h0, .inr (12, [.ref z0, .ref z1, .ref z2, .ref z3, .ref z4, .ref z5, .ref z20, .ref z21, .ref z22, .ref z23, .ref z24, .ref z25, .int 0, .ref z26, .ref z27, .ref z28, .int 9, .int 0, .int 0, .ref z6, .ref z29, .ref z7, .int 0, .int 2, .ref z19, .ref z8, .ref z9, .ref z10, .int 0, .ref z11, .int 0, .ref z30, .ref z31, .ref z32, .ref z33, .int 0, .ref z12, .int 0, .int 0, .ref z34, .ref z35, .ref z36, .ref z37, .int 0, .int 0, .int 0, .int 0, .ref z38, .int 0, .ref z39, .ref z40, .ref z41, .ref z42, .int 0, .ref z13, .ref z14, .ref z15, .ref z16, .int 0, .ref z17, .ref z18, .ref z43]))]) hP hD [0] [] rfl rfl (by decide) (by decide) hk1 hFc hP1 hD1
  clear hPc hDc
  generalize H1 = H at hP hS ⊢
  have hP : va_P D vwCl [(h0, .inr (12, [.ref z0, .ref z1, .ref z2, .ref z3, .ref z4, .ref z5, .ref z20, .ref z21, .ref z22, .ref z23, .ref z24, .ref z25, .int 0, .ref z26, .ref z27, .ref z28, .int 9, .int 0, .int 0, .ref z6, .ref z29, .ref z7, .int 0, .int 2, .ref z19, .ref z8, .ref z9, .ref z10, .int 0, .ref z11, .int 0, .ref z30, .ref z31, .ref z32, .ref z33, .int 0, .ref z12, .int 0, .int 0, .ref z34, .ref z35, .ref z36, .ref z37, .int 0, .int 0, .int 0, .int 0, .ref z38, .int 0, .ref z39, .ref z40, .ref z41, .ref z42, .int 0, .ref z13, .ref z14, .ref z15, .ref z16, .int 0, .ref z17, .ref z18, .ref z43]))] H := hP
  have hD : va_D A [(h0, .inr (12, [.ref z0, .ref z1, .ref z2, .ref z3, .ref z4, .ref z5, .ref z20, .ref z21, .ref z22, .ref z23, .ref z24, .ref z25, .int 0, .ref z26, .ref z27, .ref z28, .int 9, .int 0, .int 0, .ref z6, .ref z29, .ref z7, .int 0, .int 2, .ref z19, .ref z8, .ref z9, .ref z10, .int 0, .ref z11, .int 0, .ref z30, .ref z31, .ref z32, .ref z33, .int 0, .ref z12, .int 0, .int 0, .ref z34, .ref z35, .ref z36, .ref z37, .int 0, .int 0, .int 0, .int 0, .ref z38, .int 0, .ref z39, .ref z40, .ref z41, .ref z42, .int 0, .ref z13, .ref z14, .ref z15, .ref z16, .int 0, .ref z17, .ref z18, .ref z43]))] := hD
  subst hr1
  refine lv_iload_n hx hb dX12_passAt_5 rfl (lv_at hl 2 rfl) ?_
  refine lv_iconst (v := 1) hx hb dX12_passAt_6 (by decide) ?_
  refine lv_isub hx hb dX12_passAt_7 ?_
  refine wk_i 2 (by decide) ?_
  refine lv_iload_n hx hb dX12_passAt_8 rfl (lv_at hl 3 rfl) ?_
  refine lv_isub hx hb dX12_passAt_9 ?_
  refine wk_i 2 (by decide) ?_
  have hPc := hP.sub (ws' := []) [] rfl
  have hDc := hD.sub (ws' := []) [] (by decide) rfl
  have hFc := va_free (wc := []) hD hS hA [] rfl
  refine va_calli (va_runS (As := [.int 2, .int 2]) (rest := [.int 2]) ⟨hx, hb, hml, hown, hts⟩ (kX12_power_2 l D G  H.size) (va_cwS 2 hts gX12_passAt_X12_power rfl rfl rfl (by decide +kernel) ⟨Nat.le_of_ble_eq_true rfl, Nat.le_of_ble_eq_true rfl⟩) ⟨wB_blind, wB_pre hPc hK hDc hN⟩ rfl rfl hl.1 rfl (lv_room (Nat.le_of_ble_eq_true rfl)) dX12_passAt_10 ⟨Nat.le_of_ble_eq_true rfl, Nat.le_of_ble_eq_true rfl⟩) hS (fun q _ h => hFc q h) hFc (fun r2 u t H1 locs ht hvm hr2 hB hz1 hk1 hS => ?_)
  obtain ⟨hP, hD⟩ := va_join (wr := [(h0, .inr (12, [.ref z0, .ref z1, .ref z2, .ref z3, .ref z4, .ref z5, .ref z20, .ref z21, .ref z22, .ref z23, .ref z24, .ref z25, .int 0, .ref z26, .ref z27, .ref z28, .int 9, .int 0, .int 0, .ref z6, .ref z29, .ref z7, .int 0, .int 2, .ref z19, .ref z8, .ref z9, .ref z10, .int 0, .ref z11, .int 0, .ref z30, .ref z31, .ref z32, .ref z33, .int 0, .ref z12, .int 0, .int 0, .ref z34, .ref z35, .ref z36, .ref z37, .int 0, .int 0, .int 0, .int 0, .ref z38, .int 0, .ref z39, .ref z40, .ref z41, .ref z42, .int 0, .ref z13, .ref z14, .ref z15, .ref z16, .int 0, .ref z17, .ref z18, .ref z43]))]) (w1 := []) hP hD [] [0] rfl rfl (by decide) (by decide) hk1 hFc wP_nil wD_nil
  clear hPc hDc
  generalize H1 = H at hP hS ⊢
  have hP : va_P D vwCl [(h0, .inr (12, [.ref z0, .ref z1, .ref z2, .ref z3, .ref z4, .ref z5, .ref z20, .ref z21, .ref z22, .ref z23, .ref z24, .ref z25, .int 0, .ref z26, .ref z27, .ref z28, .int 9, .int 0, .int 0, .ref z6, .ref z29, .ref z7, .int 0, .int 2, .ref z19, .ref z8, .ref z9, .ref z10, .int 0, .ref z11, .int 0, .ref z30, .ref z31, .ref z32, .ref z33, .int 0, .ref z12, .int 0, .int 0, .ref z34, .ref z35, .ref z36, .ref z37, .int 0, .int 0, .int 0, .int 0, .ref z38, .int 0, .ref z39, .ref z40, .ref z41, .ref z42, .int 0, .ref z13, .ref z14, .ref z15, .ref z16, .int 0, .ref z17, .ref z18, .ref z43]))] H := hP
  have hD : va_D A [(h0, .inr (12, [.ref z0, .ref z1, .ref z2, .ref z3, .ref z4, .ref z5, .ref z20, .ref z21, .ref z22, .ref z23, .ref z24, .ref z25, .int 0, .ref z26, .ref z27, .ref z28, .int 9, .int 0, .int 0, .ref z6, .ref z29, .ref z7, .int 0, .int 2, .ref z19, .ref z8, .ref z9, .ref z10, .int 0, .ref z11, .int 0, .ref z30, .ref z31, .ref z32, .ref z33, .int 0, .ref z12, .int 0, .int 0, .ref z34, .ref z35, .ref z36, .ref z37, .int 0, .int 0, .int 0, .int 0, .ref z38, .int 0, .ref z39, .ref z40, .ref z41, .ref z42, .int 0, .ref z13, .ref z14, .ref z15, .ref z16, .int 0, .ref z17, .ref z18, .ref z43]))] := hD
  subst hr2
  refine lv_idiv hx hb dX12_passAt_13 (by decide) ?_
  refine wk_i 0 (by decide) ?_
  refine lv_aload_n hx hb dX12_passAt_14 rfl (lv_at hl 0 rfl) ?_
  have hPc := hP.sub (ws' := [(h0, .inr (12, [.ref z0, .ref z1, .ref z2, .ref z3, .ref z4, .ref z5, .ref z20, .ref z21, .ref z22, .ref z23, .ref z24, .ref z25, .int 0, .ref z26, .ref z27, .ref z28, .int 9, .int 0, .int 0, .ref z6, .ref z29, .ref z7, .int 0, .int 2, .ref z19, .ref z8, .ref z9, .ref z10, .int 0, .ref z11, .int 0, .ref z30, .ref z31, .ref z32, .ref z33, .int 0, .ref z12, .int 0, .int 0, .ref z34, .ref z35, .ref z36, .ref z37, .int 0, .int 0, .int 0, .int 0, .ref z38, .int 0, .ref z39, .ref z40, .ref z41, .ref z42, .int 0, .ref z13, .ref z14, .ref z15, .ref z16, .int 0, .ref z17, .ref z18, .ref z43]))]) [0] rfl
  have hDc := hD.sub (ws' := [(h0, .inr (12, [.ref z0, .ref z1, .ref z2, .ref z3, .ref z4, .ref z5, .ref z20, .ref z21, .ref z22, .ref z23, .ref z24, .ref z25, .int 0, .ref z26, .ref z27, .ref z28, .int 9, .int 0, .int 0, .ref z6, .ref z29, .ref z7, .int 0, .int 2, .ref z19, .ref z8, .ref z9, .ref z10, .int 0, .ref z11, .int 0, .ref z30, .ref z31, .ref z32, .ref z33, .int 0, .ref z12, .int 0, .int 0, .ref z34, .ref z35, .ref z36, .ref z37, .int 0, .int 0, .int 0, .int 0, .ref z38, .int 0, .ref z39, .ref z40, .ref z41, .ref z42, .int 0, .ref z13, .ref z14, .ref z15, .ref z16, .int 0, .ref z17, .ref z18, .ref z43]))]) [0] (by decide) rfl
  have hFc := va_free (wc := [(h0, .inr (12, [.ref z0, .ref z1, .ref z2, .ref z3, .ref z4, .ref z5, .ref z20, .ref z21, .ref z22, .ref z23, .ref z24, .ref z25, .int 0, .ref z26, .ref z27, .ref z28, .int 9, .int 0, .int 0, .ref z6, .ref z29, .ref z7, .int 0, .int 2, .ref z19, .ref z8, .ref z9, .ref z10, .int 0, .ref z11, .int 0, .ref z30, .ref z31, .ref z32, .ref z33, .int 0, .ref z12, .int 0, .int 0, .ref z34, .ref z35, .ref z36, .ref z37, .int 0, .int 0, .int 0, .int 0, .ref z38, .int 0, .ref z39, .ref z40, .ref z41, .ref z42, .int 0, .ref z13, .ref z14, .ref z15, .ref z16, .int 0, .ref z17, .ref z18, .ref z43]))]) hD hS hA [0] rfl
  refine va_calli (va_runV (As := []) (rest := [.int 0]) ⟨hx, hb, hml, hown, hts⟩ (kX12_gens l D G h0 z0 z1 z2 z3 z4 z5 z20 z21 z22 z23 z24 z25 z26 z27 z28 z6 z29 z7 z19 z8 z9 z10 z11 z30 z31 z32 z33 z12 z34 z35 z36 z37 z38 z39 z40 z41 z42 z13 z14 z15 z16 z17 z18 z43 0 H.size) (cwV 0 hts gX12_passAt_X12_gens rfl rfl rfl (by decide +kernel) ⟨Nat.le_of_ble_eq_true rfl, Nat.le_of_ble_eq_true rfl⟩) ⟨wB_blind, va_recv hK hPc (ci := 12) (q0 := 0) rfl rfl, wB_pre hPc hK hDc hN⟩ rfl rfl hl.1 rfl (lv_room (Nat.le_of_ble_eq_true rfl)) dX12_passAt_15 ⟨Nat.le_of_ble_eq_true rfl, Nat.le_of_ble_eq_true rfl⟩) hS (fun q _ h => hFc q h) hFc (fun r3 u t H1 locs ht hvm hr3 hB hz1 hk1 hS => ?_)
  obtain ⟨hP1, hK1, hD1⟩ := hB
  rw [ht] at hP1
  obtain ⟨hP, hD⟩ := va_join (wr := []) (w1 := [(h0, .inr (12, [.ref z0, .ref z1, .ref z2, .ref z3, .ref z4, .ref z5, .ref z20, .ref z21, .ref z22, .ref z23, .ref z24, .ref z25, .int 0, .ref z26, .ref z27, .ref z28, .int 9, .int 0, .int 0, .ref z6, .ref z29, .ref z7, .int 0, .int 2, .ref z19, .ref z8, .ref z9, .ref z10, .int 0, .ref z11, .int 0, .ref z30, .ref z31, .ref z32, .ref z33, .int 0, .ref z12, .int 0, .int 0, .ref z34, .ref z35, .ref z36, .ref z37, .int 0, .int 0, .int 0, .int 0, .ref z38, .int 0, .ref z39, .ref z40, .ref z41, .ref z42, .int 0, .ref z13, .ref z14, .ref z15, .ref z16, .int 0, .ref z17, .ref z18, .ref z43]))]) hP hD [0] [] rfl rfl (by decide) (by decide) hk1 hFc hP1 hD1
  clear hPc hDc
  generalize H1 = H at hP hS ⊢
  have hP : va_P D vwCl [(h0, .inr (12, [.ref z0, .ref z1, .ref z2, .ref z3, .ref z4, .ref z5, .ref z20, .ref z21, .ref z22, .ref z23, .ref z24, .ref z25, .int 0, .ref z26, .ref z27, .ref z28, .int 9, .int 0, .int 0, .ref z6, .ref z29, .ref z7, .int 0, .int 2, .ref z19, .ref z8, .ref z9, .ref z10, .int 0, .ref z11, .int 0, .ref z30, .ref z31, .ref z32, .ref z33, .int 0, .ref z12, .int 0, .int 0, .ref z34, .ref z35, .ref z36, .ref z37, .int 0, .int 0, .int 0, .int 0, .ref z38, .int 0, .ref z39, .ref z40, .ref z41, .ref z42, .int 0, .ref z13, .ref z14, .ref z15, .ref z16, .int 0, .ref z17, .ref z18, .ref z43]))] H := hP
  have hD : va_D A [(h0, .inr (12, [.ref z0, .ref z1, .ref z2, .ref z3, .ref z4, .ref z5, .ref z20, .ref z21, .ref z22, .ref z23, .ref z24, .ref z25, .int 0, .ref z26, .ref z27, .ref z28, .int 9, .int 0, .int 0, .ref z6, .ref z29, .ref z7, .int 0, .int 2, .ref z19, .ref z8, .ref z9, .ref z10, .int 0, .ref z11, .int 0, .ref z30, .ref z31, .ref z32, .ref z33, .int 0, .ref z12, .int 0, .int 0, .ref z34, .ref z35, .ref z36, .ref z37, .int 0, .int 0, .int 0, .int 0, .ref z38, .int 0, .ref z39, .ref z40, .ref z41, .ref z42, .int 0, .ref z13, .ref z14, .ref z15, .ref z16, .int 0, .ref z17, .ref z18, .ref z43]))] := hD
  subst hr3
  refine lv_irem hx hb dX12_passAt_18 (by decide) ?_
  refine wk_i 0 (by decide) ?_
  have hPc := hP.sub (ws' := []) [] rfl
  have hDc := hD.sub (ws' := []) [] (by decide) rfl
  have hFc := va_free (wc := []) hD hS hA [] rfl
  refine va_calli (va_runS (As := [.int 0]) (rest := []) ⟨hx, hb, hml, hown, hts⟩ (kX12_passOf_0 l D G  H.size) (va_cwS 1 hts gX12_passAt_X12_passOf rfl rfl rfl (by decide +kernel) ⟨Nat.le_of_ble_eq_true rfl, Nat.le_of_ble_eq_true rfl⟩) ⟨wB_blind, wB_pre hPc hK hDc hN⟩ rfl rfl hl.1 rfl (lv_room (Nat.le_of_ble_eq_true rfl)) dX12_passAt_19 ⟨Nat.le_of_ble_eq_true rfl, Nat.le_of_ble_eq_true rfl⟩) hS (fun q _ h => hFc q h) hFc (fun r4 u t H1 locs ht hvm hr4 hB hz1 hk1 hS => ?_)
  obtain ⟨hP, hD⟩ := va_join (wr := [(h0, .inr (12, [.ref z0, .ref z1, .ref z2, .ref z3, .ref z4, .ref z5, .ref z20, .ref z21, .ref z22, .ref z23, .ref z24, .ref z25, .int 0, .ref z26, .ref z27, .ref z28, .int 9, .int 0, .int 0, .ref z6, .ref z29, .ref z7, .int 0, .int 2, .ref z19, .ref z8, .ref z9, .ref z10, .int 0, .ref z11, .int 0, .ref z30, .ref z31, .ref z32, .ref z33, .int 0, .ref z12, .int 0, .int 0, .ref z34, .ref z35, .ref z36, .ref z37, .int 0, .int 0, .int 0, .int 0, .ref z38, .int 0, .ref z39, .ref z40, .ref z41, .ref z42, .int 0, .ref z13, .ref z14, .ref z15, .ref z16, .int 0, .ref z17, .ref z18, .ref z43]))]) (w1 := []) hP hD [] [0] rfl rfl (by decide) (by decide) hk1 hFc wP_nil wD_nil
  clear hPc hDc
  generalize H1 = H at hP hS ⊢
  have hP : va_P D vwCl [(h0, .inr (12, [.ref z0, .ref z1, .ref z2, .ref z3, .ref z4, .ref z5, .ref z20, .ref z21, .ref z22, .ref z23, .ref z24, .ref z25, .int 0, .ref z26, .ref z27, .ref z28, .int 9, .int 0, .int 0, .ref z6, .ref z29, .ref z7, .int 0, .int 2, .ref z19, .ref z8, .ref z9, .ref z10, .int 0, .ref z11, .int 0, .ref z30, .ref z31, .ref z32, .ref z33, .int 0, .ref z12, .int 0, .int 0, .ref z34, .ref z35, .ref z36, .ref z37, .int 0, .int 0, .int 0, .int 0, .ref z38, .int 0, .ref z39, .ref z40, .ref z41, .ref z42, .int 0, .ref z13, .ref z14, .ref z15, .ref z16, .int 0, .ref z17, .ref z18, .ref z43]))] H := hP
  have hD : va_D A [(h0, .inr (12, [.ref z0, .ref z1, .ref z2, .ref z3, .ref z4, .ref z5, .ref z20, .ref z21, .ref z22, .ref z23, .ref z24, .ref z25, .int 0, .ref z26, .ref z27, .ref z28, .int 9, .int 0, .int 0, .ref z6, .ref z29, .ref z7, .int 0, .int 2, .ref z19, .ref z8, .ref z9, .ref z10, .int 0, .ref z11, .int 0, .ref z30, .ref z31, .ref z32, .ref z33, .int 0, .ref z12, .int 0, .int 0, .ref z34, .ref z35, .ref z36, .ref z37, .int 0, .int 0, .int 0, .int 0, .ref z38, .int 0, .ref z39, .ref z40, .ref z41, .ref z42, .int 0, .ref z13, .ref z14, .ref z15, .ref z16, .int 0, .ref z17, .ref z18, .ref z43]))] := hD
  subst hr4
  have hP9 := hP.sub (ws' := [(h0, .inr (12, [.ref z0, .ref z1, .ref z2, .ref z3, .ref z4, .ref z5, .ref z20, .ref z21, .ref z22, .ref z23, .ref z24, .ref z25, .int 0, .ref z26, .ref z27, .ref z28, .int 9, .int 0, .int 0, .ref z6, .ref z29, .ref z7, .int 0, .int 2, .ref z19, .ref z8, .ref z9, .ref z10, .int 0, .ref z11, .int 0, .ref z30, .ref z31, .ref z32, .ref z33, .int 0, .ref z12, .int 0, .int 0, .ref z34, .ref z35, .ref z36, .ref z37, .int 0, .int 0, .int 0, .int 0, .ref z38, .int 0, .ref z39, .ref z40, .ref z41, .ref z42, .int 0, .ref z13, .ref z14, .ref z15, .ref z16, .int 0, .ref z17, .ref z18, .ref z43]))]) [0] rfl
  have hD9 := hD.sub (ws' := [(h0, .inr (12, [.ref z0, .ref z1, .ref z2, .ref z3, .ref z4, .ref z5, .ref z20, .ref z21, .ref z22, .ref z23, .ref z24, .ref z25, .int 0, .ref z26, .ref z27, .ref z28, .int 9, .int 0, .int 0, .ref z6, .ref z29, .ref z7, .int 0, .int 2, .ref z19, .ref z8, .ref z9, .ref z10, .int 0, .ref z11, .int 0, .ref z30, .ref z31, .ref z32, .ref z33, .int 0, .ref z12, .int 0, .int 0, .ref z34, .ref z35, .ref z36, .ref z37, .int 0, .int 0, .int 0, .int 0, .ref z38, .int 0, .ref z39, .ref z40, .ref z41, .ref z42, .int 0, .ref z13, .ref z14, .ref z15, .ref z16, .int 0, .ref z17, .ref z18, .ref z43]))]) [0] (by decide) rfl
  exact W.iret (v := 1) hx hb hr (fun t ht hW => ⟨⟨1, (), rfl, rfl, ⟨by rw [ht]; exact hP9, va_K.moved hW.alike hK, hD9⟩⟩, hS.F ht⟩) hS.2.2 dX12_passAt_22

set_option maxHeartbeats 4000000 in
set_option maxRecDepth 100000 in
/-- X12_passAt -/
theorem kX12_passAt_3_2_1 (l : Launch) (D : va_G) (G : tyG) (h0 : Nat) (z0 : Nat) (z1 : Nat) (z2 : Nat) (z3 : Nat) (z4 : Nat) (z5 : Nat) (z20 : Nat) (z21 : Nat) (z22 : Nat) (z23 : Nat) (z24 : Nat) (z25 : Nat) (z26 : Nat) (z27 : Nat) (z28 : Nat) (z6 : Nat) (z29 : Nat) (z7 : Nat) (z19 : Nat) (z8 : Nat) (z9 : Nat) (z10 : Nat) (z11 : Nat) (z30 : Nat) (z31 : Nat) (z32 : Nat) (z33 : Nat) (z12 : Nat) (z34 : Nat) (z35 : Nat) (z36 : Nat) (z37 : Nat) (z38 : Nat) (z39 : Nat) (z40 : Nat) (z41 : Nat) (z42 : Nat) (z13 : Nat) (z14 : Nat) (z15 : Nat) (z16 : Nat) (z17 : Nat) (z18 : Nat) (z43 : Nat) (sz : Nat) : Met l yX12_passAt wsX12_passAt ({ frames := 1, cells := 0, slots := 0, locals := 23 }) (va_Pc [.ref h0, .int 2, .int 3, .int 1] (wB D G sz [(h0, .inr (12, [.ref z0, .ref z1, .ref z2, .ref z3, .ref z4, .ref z5, .ref z20, .ref z21, .ref z22, .ref z23, .ref z24, .ref z25, .int 0, .ref z26, .ref z27, .ref z28, .int 9, .int 0, .int 0, .ref z6, .ref z29, .ref z7, .int 0, .int 2, .ref z19, .ref z8, .ref z9, .ref z10, .int 0, .ref z11, .int 0, .ref z30, .ref z31, .ref z32, .ref z33, .int 0, .ref z12, .int 0, .int 0, .ref z34, .ref z35, .ref z36, .ref z37, .int 0, .int 0, .int 0, .int 0, .ref z38, .int 0, .ref z39, .ref z40, .ref z41, .ref z42, .int 0, .ref z13, .ref z14, .ref z15, .ref z16, .int 0, .ref z17, .ref z18, .ref z43]))])) (va_Qi (fun (r : Int32) (_ : Unit) => r = (-1)) (fun _ t => wS D G (va_A [(h0, .inr (12, [.ref z0, .ref z1, .ref z2, .ref z3, .ref z4, .ref z5, .ref z20, .ref z21, .ref z22, .ref z23, .ref z24, .ref z25, .int 0, .ref z26, .ref z27, .ref z28, .int 9, .int 0, .int 0, .ref z6, .ref z29, .ref z7, .int 0, .int 2, .ref z19, .ref z8, .ref z9, .ref z10, .int 0, .ref z11, .int 0, .ref z30, .ref z31, .ref z32, .ref z33, .int 0, .ref z12, .int 0, .int 0, .ref z34, .ref z35, .ref z36, .ref z37, .int 0, .int 0, .int 0, .int 0, .ref z38, .int 0, .ref z39, .ref z40, .ref z41, .ref z42, .int 0, .ref z13, .ref z14, .ref z15, .ref z16, .int 0, .ref z17, .ref z18, .ref z43]))] sz) [(h0, .inr (12, [.ref z0, .ref z1, .ref z2, .ref z3, .ref z4, .ref z5, .ref z20, .ref z21, .ref z22, .ref z23, .ref z24, .ref z25, .int 0, .ref z26, .ref z27, .ref z28, .int 9, .int 0, .int 0, .ref z6, .ref z29, .ref z7, .int 0, .int 2, .ref z19, .ref z8, .ref z9, .ref z10, .int 0, .ref z11, .int 0, .ref z30, .ref z31, .ref z32, .ref z33, .int 0, .ref z12, .int 0, .int 0, .ref z34, .ref z35, .ref z36, .ref z37, .int 0, .int 0, .int 0, .int 0, .ref z38, .int 0, .ref z39, .ref z40, .ref z41, .ref z42, .int 0, .ref z13, .ref z14, .ref z15, .ref z16, .int 0, .ref z17, .ref z18, .ref z43]))] t) (va_A [(h0, .inr (12, [.ref z0, .ref z1, .ref z2, .ref z3, .ref z4, .ref z5, .ref z20, .ref z21, .ref z22, .ref z23, .ref z24, .ref z25, .int 0, .ref z26, .ref z27, .ref z28, .int 9, .int 0, .int 0, .ref z6, .ref z29, .ref z7, .int 0, .int 2, .ref z19, .ref z8, .ref z9, .ref z10, .int 0, .ref z11, .int 0, .ref z30, .ref z31, .ref z32, .ref z33, .int 0, .ref z12, .int 0, .int 0, .ref z34, .ref z35, .ref z36, .ref z37, .int 0, .int 0, .int 0, .int 0, .ref z38, .int 0, .ref z39, .ref z40, .ref z41, .ref z42, .int 0, .ref z13, .ref z14, .ref z15, .ref z16, .int 0, .ref z17, .ref z18, .ref z43]))] sz)) 0 0 (va_A [(h0, .inr (12, [.ref z0, .ref z1, .ref z2, .ref z3, .ref z4, .ref z5, .ref z20, .ref z21, .ref z22, .ref z23, .ref z24, .ref z25, .int 0, .ref z26, .ref z27, .ref z28, .int 9, .int 0, .int 0, .ref z6, .ref z29, .ref z7, .int 0, .int 2, .ref z19, .ref z8, .ref z9, .ref z10, .int 0, .ref z11, .int 0, .ref z30, .ref z31, .ref z32, .ref z33, .int 0, .ref z12, .int 0, .int 0, .ref z34, .ref z35, .ref z36, .ref z37, .int 0, .int 0, .int 0, .int 0, .ref z38, .int 0, .ref z39, .ref z40, .ref z41, .ref z42, .int 0, .ref z13, .ref z14, .ref z15, .ref z16, .int 0, .ref z17, .ref z18, .ref z43]))] sz) := by
  refine Met.ofW (cc := cX12_passAt) (maxL := 4) (ret := (some .int)) (by decide) rfl ?_
  intro p e s m args below meth c s₁ B hml hv
  obtain ⟨rfl, hsz, hP, hK, hD0, hN⟩ := hv
  have hx := B.exec
  have hb := B.bytes
  have hr := B.returns
  have hts := atoms_spec (ws := wsX12_passAt) B.pre
  have hown : s.vm.findClass RX12 = some m.cls := findClass_of_methodNamed B.named
  have hlocks := B.notSynchronized
  subst hsz
  have hD := hD0.self (sz := s.heap.size)
  generalize hAe : va_A [(h0, .inr (12, [.ref z0, .ref z1, .ref z2, .ref z3, .ref z4, .ref z5, .ref z20, .ref z21, .ref z22, .ref z23, .ref z24, .ref z25, .int 0, .ref z26, .ref z27, .ref z28, .int 9, .int 0, .int 0, .ref z6, .ref z29, .ref z7, .int 0, .int 2, .ref z19, .ref z8, .ref z9, .ref z10, .int 0, .ref z11, .int 0, .ref z30, .ref z31, .ref z32, .ref z33, .int 0, .ref z12, .int 0, .int 0, .ref z34, .ref z35, .ref z36, .ref z37, .int 0, .int 0, .int 0, .int 0, .ref z38, .int 0, .ref z39, .ref z40, .ref z41, .ref z42, .int 0, .ref z13, .ref z14, .ref z15, .ref z16, .int 0, .ref z17, .ref z18, .ref z43]))] s.heap.size = A at hD ⊢
  have hA : ∀ q : Nat, s.heap.size ≤ q → A q := fun q h => by rw [← hAe]; exact Or.inr h
  have hS : va_S A s.heap s.heap [] := va_S.rf
  have hP : va_P D vwCl [(h0, .inr (12, [.ref z0, .ref z1, .ref z2, .ref z3, .ref z4, .ref z5, .ref z20, .ref z21, .ref z22, .ref z23, .ref z24, .ref z25, .int 0, .ref z26, .ref z27, .ref z28, .int 9, .int 0, .int 0, .ref z6, .ref z29, .ref z7, .int 0, .int 2, .ref z19, .ref z8, .ref z9, .ref z10, .int 0, .ref z11, .int 0, .ref z30, .ref z31, .ref z32, .ref z33, .int 0, .ref z12, .int 0, .int 0, .ref z34, .ref z35, .ref z36, .ref z37, .int 0, .int 0, .int 0, .int 0, .ref z38, .int 0, .ref z39, .ref z40, .ref z41, .ref z42, .int 0, .ref z13, .ref z14, .ref z15, .ref z16, .int 0, .ref z17, .ref z18, .ref z43]))] s.heap := hP
  have hl := lv_entry ([.ref h0, .int 2, .int 3, .int 1]) (n := 4) (Nat.le_of_ble_eq_true rfl)
  rw [lg_entry_eq]
  generalize (lg_sl ([.ref h0, .int 2, .int 3, .int 1]) ++ List.replicate (4 - (lg_sl ([.ref h0, .int 2, .int 3, .int 1])).length) Slot.unset).toArray = ls at hl ⊢
  have hl : lv_has ls 4 [(0, .ref h0), (1, .int 2), (2, .int 3), (3, .int 1)] := hl
  refine lv_iload_n hx hb dX12_passAt_0 rfl (lv_at hl 1 rfl) ?_
  refine lv_aload_n hx hb dX12_passAt_1 rfl (lv_at hl 0 rfl) ?_
  have hPc := hP.sub (ws' := [(h0, .inr (12, [.ref z0, .ref z1, .ref z2, .ref z3, .ref z4, .ref z5, .ref z20, .ref z21, .ref z22, .ref z23, .ref z24, .ref z25, .int 0, .ref z26, .ref z27, .ref z28, .int 9, .int 0, .int 0, .ref z6, .ref z29, .ref z7, .int 0, .int 2, .ref z19, .ref z8, .ref z9, .ref z10, .int 0, .ref z11, .int 0, .ref z30, .ref z31, .ref z32, .ref z33, .int 0, .ref z12, .int 0, .int 0, .ref z34, .ref z35, .ref z36, .ref z37, .int 0, .int 0, .int 0, .int 0, .ref z38, .int 0, .ref z39, .ref z40, .ref z41, .ref z42, .int 0, .ref z13, .ref z14, .ref z15, .ref z16, .int 0, .ref z17, .ref z18, .ref z43]))]) [0] rfl
  have hDc := hD.sub (ws' := [(h0, .inr (12, [.ref z0, .ref z1, .ref z2, .ref z3, .ref z4, .ref z5, .ref z20, .ref z21, .ref z22, .ref z23, .ref z24, .ref z25, .int 0, .ref z26, .ref z27, .ref z28, .int 9, .int 0, .int 0, .ref z6, .ref z29, .ref z7, .int 0, .int 2, .ref z19, .ref z8, .ref z9, .ref z10, .int 0, .ref z11, .int 0, .ref z30, .ref z31, .ref z32, .ref z33, .int 0, .ref z12, .int 0, .int 0, .ref z34, .ref z35, .ref z36, .ref z37, .int 0, .int 0, .int 0, .int 0, .ref z38, .int 0, .ref z39, .ref z40, .ref z41, .ref z42, .int 0, .ref z13, .ref z14, .ref z15, .ref z16, .int 0, .ref z17, .ref z18, .ref z43]))]) [0] (by decide) rfl
  have hFc := va_free (wc := [(h0, .inr (12, [.ref z0, .ref z1, .ref z2, .ref z3, .ref z4, .ref z5, .ref z20, .ref z21, .ref z22, .ref z23, .ref z24, .ref z25, .int 0, .ref z26, .ref z27, .ref z28, .int 9, .int 0, .int 0, .ref z6, .ref z29, .ref z7, .int 0, .int 2, .ref z19, .ref z8, .ref z9, .ref z10, .int 0, .ref z11, .int 0, .ref z30, .ref z31, .ref z32, .ref z33, .int 0, .ref z12, .int 0, .int 0, .ref z34, .ref z35, .ref z36, .ref z37, .int 0, .int 0, .int 0, .int 0, .ref z38, .int 0, .ref z39, .ref z40, .ref z41, .ref z42, .int 0, .ref z13, .ref z14, .ref z15, .ref z16, .int 0, .ref z17, .ref z18, .ref z43]))]) hD hS hA [0] rfl
  refine va_calli (va_runV (As := []) (rest := [.int 2]) ⟨hx, hb, hml, hown, hts⟩ (kX12_gens l D G h0 z0 z1 z2 z3 z4 z5 z20 z21 z22 z23 z24 z25 z26 z27 z28 z6 z29 z7 z19 z8 z9 z10 z11 z30 z31 z32 z33 z12 z34 z35 z36 z37 z38 z39 z40 z41 z42 z13 z14 z15 z16 z17 z18 z43 0 s.heap.size) (cwV 0 hts gX12_passAt_X12_gens rfl rfl rfl (by decide +kernel) ⟨Nat.le_of_ble_eq_true rfl, Nat.le_of_ble_eq_true rfl⟩) ⟨wB_blind, va_recv hK hPc (ci := 12) (q0 := 0) rfl rfl, wB_pre hPc hK hDc hN⟩ rfl rfl hl.1 rfl (lv_room (Nat.le_of_ble_eq_true rfl)) dX12_passAt_2 ⟨Nat.le_of_ble_eq_true rfl, Nat.le_of_ble_eq_true rfl⟩) hS (fun q _ h => hFc q h) hFc (fun r1 u t H1 locs ht hvm hr1 hB hz1 hk1 hS => ?_)
  obtain ⟨hP1, hK1, hD1⟩ := hB
  rw [ht] at hP1
  obtain ⟨hP, hD⟩ := va_join (wr := []) (w1 := [(h0, .inr (12, [.ref z0, .ref z1, .ref z2, .ref z3, .ref z4, .ref z5, .ref z20, .ref z21, .ref z22, .ref z23, .ref z24, .ref z25, .int 0, .ref z26, .ref z27, .ref z28, .int 9, .int 0, .int 0, .ref z6, .ref z29, .ref z7, .int 0, .int 2, .ref z19, .ref z8, .ref z9, .ref z10, .int 0, .ref z11, .int 0, .ref z30, .ref z31, .ref z32, .ref z33, .int 0, .ref z12, .int 0, .int 0, .ref z34, .ref z35, .ref z36, .ref z37, .int 0, .int 0, .int 0, .int 0, .ref z38, .int 0, .ref z39, .ref z40, .ref z41, .ref z42, .int 0, .ref z13, .ref z14, .ref z15, .ref z16, .int 0, .ref z17, .ref z18, .ref z43]))]) hP hD [0] [] rfl rfl (by decide) (by decide) hk1 hFc hP1 hD1
  clear hPc hDc
  generalize H1 = H at hP hS ⊢
  have hP : va_P D vwCl [(h0, .inr (12, [.ref z0, .ref z1, .ref z2, .ref z3, .ref z4, .ref z5, .ref z20, .ref z21, .ref z22, .ref z23, .ref z24, .ref z25, .int 0, .ref z26, .ref z27, .ref z28, .int 9, .int 0, .int 0, .ref z6, .ref z29, .ref z7, .int 0, .int 2, .ref z19, .ref z8, .ref z9, .ref z10, .int 0, .ref z11, .int 0, .ref z30, .ref z31, .ref z32, .ref z33, .int 0, .ref z12, .int 0, .int 0, .ref z34, .ref z35, .ref z36, .ref z37, .int 0, .int 0, .int 0, .int 0, .ref z38, .int 0, .ref z39, .ref z40, .ref z41, .ref z42, .int 0, .ref z13, .ref z14, .ref z15, .ref z16, .int 0, .ref z17, .ref z18, .ref z43]))] H := hP
  have hD : va_D A [(h0, .inr (12, [.ref z0, .ref z1, .ref z2, .ref z3, .ref z4, .ref z5, .ref z20, .ref z21, .ref z22, .ref z23, .ref z24, .ref z25, .int 0, .ref z26, .ref z27, .ref z28, .int 9, .int 0, .int 0, .ref z6, .ref z29, .ref z7, .int 0, .int 2, .ref z19, .ref z8, .ref z9, .ref z10, .int 0, .ref z11, .int 0, .ref z30, .ref z31, .ref z32, .ref z33, .int 0, .ref z12, .int 0, .int 0, .ref z34, .ref z35, .ref z36, .ref z37, .int 0, .int 0, .int 0, .int 0, .ref z38, .int 0, .ref z39, .ref z40, .ref z41, .ref z42, .int 0, .ref z13, .ref z14, .ref z15, .ref z16, .int 0, .ref z17, .ref z18, .ref z43]))] := hD
  subst hr1
  refine lv_iload_n hx hb dX12_passAt_5 rfl (lv_at hl 2 rfl) ?_
  refine lv_iconst (v := 1) hx hb dX12_passAt_6 (by decide) ?_
  refine lv_isub hx hb dX12_passAt_7 ?_
  refine wk_i 2 (by decide) ?_
  refine lv_iload_n hx hb dX12_passAt_8 rfl (lv_at hl 3 rfl) ?_
  refine lv_isub hx hb dX12_passAt_9 ?_
  refine wk_i 1 (by decide) ?_
  have hPc := hP.sub (ws' := []) [] rfl
  have hDc := hD.sub (ws' := []) [] (by decide) rfl
  have hFc := va_free (wc := []) hD hS hA [] rfl
  refine va_calli (va_runS (As := [.int 2, .int 1]) (rest := [.int 2]) ⟨hx, hb, hml, hown, hts⟩ (kX12_power_1 l D G  H.size) (va_cwS 2 hts gX12_passAt_X12_power rfl rfl rfl (by decide +kernel) ⟨Nat.le_of_ble_eq_true rfl, Nat.le_of_ble_eq_true rfl⟩) ⟨wB_blind, wB_pre hPc hK hDc hN⟩ rfl rfl hl.1 rfl (lv_room (Nat.le_of_ble_eq_true rfl)) dX12_passAt_10 ⟨Nat.le_of_ble_eq_true rfl, Nat.le_of_ble_eq_true rfl⟩) hS (fun q _ h => hFc q h) hFc (fun r2 u t H1 locs ht hvm hr2 hB hz1 hk1 hS => ?_)
  obtain ⟨hP, hD⟩ := va_join (wr := [(h0, .inr (12, [.ref z0, .ref z1, .ref z2, .ref z3, .ref z4, .ref z5, .ref z20, .ref z21, .ref z22, .ref z23, .ref z24, .ref z25, .int 0, .ref z26, .ref z27, .ref z28, .int 9, .int 0, .int 0, .ref z6, .ref z29, .ref z7, .int 0, .int 2, .ref z19, .ref z8, .ref z9, .ref z10, .int 0, .ref z11, .int 0, .ref z30, .ref z31, .ref z32, .ref z33, .int 0, .ref z12, .int 0, .int 0, .ref z34, .ref z35, .ref z36, .ref z37, .int 0, .int 0, .int 0, .int 0, .ref z38, .int 0, .ref z39, .ref z40, .ref z41, .ref z42, .int 0, .ref z13, .ref z14, .ref z15, .ref z16, .int 0, .ref z17, .ref z18, .ref z43]))]) (w1 := []) hP hD [] [0] rfl rfl (by decide) (by decide) hk1 hFc wP_nil wD_nil
  clear hPc hDc
  generalize H1 = H at hP hS ⊢
  have hP : va_P D vwCl [(h0, .inr (12, [.ref z0, .ref z1, .ref z2, .ref z3, .ref z4, .ref z5, .ref z20, .ref z21, .ref z22, .ref z23, .ref z24, .ref z25, .int 0, .ref z26, .ref z27, .ref z28, .int 9, .int 0, .int 0, .ref z6, .ref z29, .ref z7, .int 0, .int 2, .ref z19, .ref z8, .ref z9, .ref z10, .int 0, .ref z11, .int 0, .ref z30, .ref z31, .ref z32, .ref z33, .int 0, .ref z12, .int 0, .int 0, .ref z34, .ref z35, .ref z36, .ref z37, .int 0, .int 0, .int 0, .int 0, .ref z38, .int 0, .ref z39, .ref z40, .ref z41, .ref z42, .int 0, .ref z13, .ref z14, .ref z15, .ref z16, .int 0, .ref z17, .ref z18, .ref z43]))] H := hP
  have hD : va_D A [(h0, .inr (12, [.ref z0, .ref z1, .ref z2, .ref z3, .ref z4, .ref z5, .ref z20, .ref z21, .ref z22, .ref z23, .ref z24, .ref z25, .int 0, .ref z26, .ref z27, .ref z28, .int 9, .int 0, .int 0, .ref z6, .ref z29, .ref z7, .int 0, .int 2, .ref z19, .ref z8, .ref z9, .ref z10, .int 0, .ref z11, .int 0, .ref z30, .ref z31, .ref z32, .ref z33, .int 0, .ref z12, .int 0, .int 0, .ref z34, .ref z35, .ref z36, .ref z37, .int 0, .int 0, .int 0, .int 0, .ref z38, .int 0, .ref z39, .ref z40, .ref z41, .ref z42, .int 0, .ref z13, .ref z14, .ref z15, .ref z16, .int 0, .ref z17, .ref z18, .ref z43]))] := hD
  subst hr2
  refine lv_idiv hx hb dX12_passAt_13 (by decide) ?_
  refine wk_i 1 (by decide) ?_
  refine lv_aload_n hx hb dX12_passAt_14 rfl (lv_at hl 0 rfl) ?_
  have hPc := hP.sub (ws' := [(h0, .inr (12, [.ref z0, .ref z1, .ref z2, .ref z3, .ref z4, .ref z5, .ref z20, .ref z21, .ref z22, .ref z23, .ref z24, .ref z25, .int 0, .ref z26, .ref z27, .ref z28, .int 9, .int 0, .int 0, .ref z6, .ref z29, .ref z7, .int 0, .int 2, .ref z19, .ref z8, .ref z9, .ref z10, .int 0, .ref z11, .int 0, .ref z30, .ref z31, .ref z32, .ref z33, .int 0, .ref z12, .int 0, .int 0, .ref z34, .ref z35, .ref z36, .ref z37, .int 0, .int 0, .int 0, .int 0, .ref z38, .int 0, .ref z39, .ref z40, .ref z41, .ref z42, .int 0, .ref z13, .ref z14, .ref z15, .ref z16, .int 0, .ref z17, .ref z18, .ref z43]))]) [0] rfl
  have hDc := hD.sub (ws' := [(h0, .inr (12, [.ref z0, .ref z1, .ref z2, .ref z3, .ref z4, .ref z5, .ref z20, .ref z21, .ref z22, .ref z23, .ref z24, .ref z25, .int 0, .ref z26, .ref z27, .ref z28, .int 9, .int 0, .int 0, .ref z6, .ref z29, .ref z7, .int 0, .int 2, .ref z19, .ref z8, .ref z9, .ref z10, .int 0, .ref z11, .int 0, .ref z30, .ref z31, .ref z32, .ref z33, .int 0, .ref z12, .int 0, .int 0, .ref z34, .ref z35, .ref z36, .ref z37, .int 0, .int 0, .int 0, .int 0, .ref z38, .int 0, .ref z39, .ref z40, .ref z41, .ref z42, .int 0, .ref z13, .ref z14, .ref z15, .ref z16, .int 0, .ref z17, .ref z18, .ref z43]))]) [0] (by decide) rfl
  have hFc := va_free (wc := [(h0, .inr (12, [.ref z0, .ref z1, .ref z2, .ref z3, .ref z4, .ref z5, .ref z20, .ref z21, .ref z22, .ref z23, .ref z24, .ref z25, .int 0, .ref z26, .ref z27, .ref z28, .int 9, .int 0, .int 0, .ref z6, .ref z29, .ref z7, .int 0, .int 2, .ref z19, .ref z8, .ref z9, .ref z10, .int 0, .ref z11, .int 0, .ref z30, .ref z31, .ref z32, .ref z33, .int 0, .ref z12, .int 0, .int 0, .ref z34, .ref z35, .ref z36, .ref z37, .int 0, .int 0, .int 0, .int 0, .ref z38, .int 0, .ref z39, .ref z40, .ref z41, .ref z42, .int 0, .ref z13, .ref z14, .ref z15, .ref z16, .int 0, .ref z17, .ref z18, .ref z43]))]) hD hS hA [0] rfl
  refine va_calli (va_runV (As := []) (rest := [.int 1]) ⟨hx, hb, hml, hown, hts⟩ (kX12_gens l D G h0 z0 z1 z2 z3 z4 z5 z20 z21 z22 z23 z24 z25 z26 z27 z28 z6 z29 z7 z19 z8 z9 z10 z11 z30 z31 z32 z33 z12 z34 z35 z36 z37 z38 z39 z40 z41 z42 z13 z14 z15 z16 z17 z18 z43 0 H.size) (cwV 0 hts gX12_passAt_X12_gens rfl rfl rfl (by decide +kernel) ⟨Nat.le_of_ble_eq_true rfl, Nat.le_of_ble_eq_true rfl⟩) ⟨wB_blind, va_recv hK hPc (ci := 12) (q0 := 0) rfl rfl, wB_pre hPc hK hDc hN⟩ rfl rfl hl.1 rfl (lv_room (Nat.le_of_ble_eq_true rfl)) dX12_passAt_15 ⟨Nat.le_of_ble_eq_true rfl, Nat.le_of_ble_eq_true rfl⟩) hS (fun q _ h => hFc q h) hFc (fun r3 u t H1 locs ht hvm hr3 hB hz1 hk1 hS => ?_)
  obtain ⟨hP1, hK1, hD1⟩ := hB
  rw [ht] at hP1
  obtain ⟨hP, hD⟩ := va_join (wr := []) (w1 := [(h0, .inr (12, [.ref z0, .ref z1, .ref z2, .ref z3, .ref z4, .ref z5, .ref z20, .ref z21, .ref z22, .ref z23, .ref z24, .ref z25, .int 0, .ref z26, .ref z27, .ref z28, .int 9, .int 0, .int 0, .ref z6, .ref z29, .ref z7, .int 0, .int 2, .ref z19, .ref z8, .ref z9, .ref z10, .int 0, .ref z11, .int 0, .ref z30, .ref z31, .ref z32, .ref z33, .int 0, .ref z12, .int 0, .int 0, .ref z34, .ref z35, .ref z36, .ref z37, .int 0, .int 0, .int 0, .int 0, .ref z38, .int 0, .ref z39, .ref z40, .ref z41, .ref z42, .int 0, .ref z13, .ref z14, .ref z15, .ref z16, .int 0, .ref z17, .ref z18, .ref z43]))]) hP hD [0] [] rfl rfl (by decide) (by decide) hk1 hFc hP1 hD1
  clear hPc hDc
  generalize H1 = H at hP hS ⊢
  have hP : va_P D vwCl [(h0, .inr (12, [.ref z0, .ref z1, .ref z2, .ref z3, .ref z4, .ref z5, .ref z20, .ref z21, .ref z22, .ref z23, .ref z24, .ref z25, .int 0, .ref z26, .ref z27, .ref z28, .int 9, .int 0, .int 0, .ref z6, .ref z29, .ref z7, .int 0, .int 2, .ref z19, .ref z8, .ref z9, .ref z10, .int 0, .ref z11, .int 0, .ref z30, .ref z31, .ref z32, .ref z33, .int 0, .ref z12, .int 0, .int 0, .ref z34, .ref z35, .ref z36, .ref z37, .int 0, .int 0, .int 0, .int 0, .ref z38, .int 0, .ref z39, .ref z40, .ref z41, .ref z42, .int 0, .ref z13, .ref z14, .ref z15, .ref z16, .int 0, .ref z17, .ref z18, .ref z43]))] H := hP
  have hD : va_D A [(h0, .inr (12, [.ref z0, .ref z1, .ref z2, .ref z3, .ref z4, .ref z5, .ref z20, .ref z21, .ref z22, .ref z23, .ref z24, .ref z25, .int 0, .ref z26, .ref z27, .ref z28, .int 9, .int 0, .int 0, .ref z6, .ref z29, .ref z7, .int 0, .int 2, .ref z19, .ref z8, .ref z9, .ref z10, .int 0, .ref z11, .int 0, .ref z30, .ref z31, .ref z32, .ref z33, .int 0, .ref z12, .int 0, .int 0, .ref z34, .ref z35, .ref z36, .ref z37, .int 0, .int 0, .int 0, .int 0, .ref z38, .int 0, .ref z39, .ref z40, .ref z41, .ref z42, .int 0, .ref z13, .ref z14, .ref z15, .ref z16, .int 0, .ref z17, .ref z18, .ref z43]))] := hD
  subst hr3
  refine lv_irem hx hb dX12_passAt_18 (by decide) ?_
  refine wk_i 1 (by decide) ?_
  have hPc := hP.sub (ws' := []) [] rfl
  have hDc := hD.sub (ws' := []) [] (by decide) rfl
  have hFc := va_free (wc := []) hD hS hA [] rfl
  refine va_calli (va_runS (As := [.int 1]) (rest := []) ⟨hx, hb, hml, hown, hts⟩ (kX12_passOf_1 l D G  H.size) (va_cwS 1 hts gX12_passAt_X12_passOf rfl rfl rfl (by decide +kernel) ⟨Nat.le_of_ble_eq_true rfl, Nat.le_of_ble_eq_true rfl⟩) ⟨wB_blind, wB_pre hPc hK hDc hN⟩ rfl rfl hl.1 rfl (lv_room (Nat.le_of_ble_eq_true rfl)) dX12_passAt_19 ⟨Nat.le_of_ble_eq_true rfl, Nat.le_of_ble_eq_true rfl⟩) hS (fun q _ h => hFc q h) hFc (fun r4 u t H1 locs ht hvm hr4 hB hz1 hk1 hS => ?_)
  obtain ⟨hP, hD⟩ := va_join (wr := [(h0, .inr (12, [.ref z0, .ref z1, .ref z2, .ref z3, .ref z4, .ref z5, .ref z20, .ref z21, .ref z22, .ref z23, .ref z24, .ref z25, .int 0, .ref z26, .ref z27, .ref z28, .int 9, .int 0, .int 0, .ref z6, .ref z29, .ref z7, .int 0, .int 2, .ref z19, .ref z8, .ref z9, .ref z10, .int 0, .ref z11, .int 0, .ref z30, .ref z31, .ref z32, .ref z33, .int 0, .ref z12, .int 0, .int 0, .ref z34, .ref z35, .ref z36, .ref z37, .int 0, .int 0, .int 0, .int 0, .ref z38, .int 0, .ref z39, .ref z40, .ref z41, .ref z42, .int 0, .ref z13, .ref z14, .ref z15, .ref z16, .int 0, .ref z17, .ref z18, .ref z43]))]) (w1 := []) hP hD [] [0] rfl rfl (by decide) (by decide) hk1 hFc wP_nil wD_nil
  clear hPc hDc
  generalize H1 = H at hP hS ⊢
  have hP : va_P D vwCl [(h0, .inr (12, [.ref z0, .ref z1, .ref z2, .ref z3, .ref z4, .ref z5, .ref z20, .ref z21, .ref z22, .ref z23, .ref z24, .ref z25, .int 0, .ref z26, .ref z27, .ref z28, .int 9, .int 0, .int 0, .ref z6, .ref z29, .ref z7, .int 0, .int 2, .ref z19, .ref z8, .ref z9, .ref z10, .int 0, .ref z11, .int 0, .ref z30, .ref z31, .ref z32, .ref z33, .int 0, .ref z12, .int 0, .int 0, .ref z34, .ref z35, .ref z36, .ref z37, .int 0, .int 0, .int 0, .int 0, .ref z38, .int 0, .ref z39, .ref z40, .ref z41, .ref z42, .int 0, .ref z13, .ref z14, .ref z15, .ref z16, .int 0, .ref z17, .ref z18, .ref z43]))] H := hP
  have hD : va_D A [(h0, .inr (12, [.ref z0, .ref z1, .ref z2, .ref z3, .ref z4, .ref z5, .ref z20, .ref z21, .ref z22, .ref z23, .ref z24, .ref z25, .int 0, .ref z26, .ref z27, .ref z28, .int 9, .int 0, .int 0, .ref z6, .ref z29, .ref z7, .int 0, .int 2, .ref z19, .ref z8, .ref z9, .ref z10, .int 0, .ref z11, .int 0, .ref z30, .ref z31, .ref z32, .ref z33, .int 0, .ref z12, .int 0, .int 0, .ref z34, .ref z35, .ref z36, .ref z37, .int 0, .int 0, .int 0, .int 0, .ref z38, .int 0, .ref z39, .ref z40, .ref z41, .ref z42, .int 0, .ref z13, .ref z14, .ref z15, .ref z16, .int 0, .ref z17, .ref z18, .ref z43]))] := hD
  subst hr4
  have hP9 := hP.sub (ws' := [(h0, .inr (12, [.ref z0, .ref z1, .ref z2, .ref z3, .ref z4, .ref z5, .ref z20, .ref z21, .ref z22, .ref z23, .ref z24, .ref z25, .int 0, .ref z26, .ref z27, .ref z28, .int 9, .int 0, .int 0, .ref z6, .ref z29, .ref z7, .int 0, .int 2, .ref z19, .ref z8, .ref z9, .ref z10, .int 0, .ref z11, .int 0, .ref z30, .ref z31, .ref z32, .ref z33, .int 0, .ref z12, .int 0, .int 0, .ref z34, .ref z35, .ref z36, .ref z37, .int 0, .int 0, .int 0, .int 0, .ref z38, .int 0, .ref z39, .ref z40, .ref z41, .ref z42, .int 0, .ref z13, .ref z14, .ref z15, .ref z16, .int 0, .ref z17, .ref z18, .ref z43]))]) [0] rfl
  have hD9 := hD.sub (ws' := [(h0, .inr (12, [.ref z0, .ref z1, .ref z2, .ref z3, .ref z4, .ref z5, .ref z20, .ref z21, .ref z22, .ref z23, .ref z24, .ref z25, .int 0, .ref z26, .ref z27, .ref z28, .int 9, .int 0, .int 0, .ref z6, .ref z29, .ref z7, .int 0, .int 2, .ref z19, .ref z8, .ref z9, .ref z10, .int 0, .ref z11, .int 0, .ref z30, .ref z31, .ref z32, .ref z33, .int 0, .ref z12, .int 0, .int 0, .ref z34, .ref z35, .ref z36, .ref z37, .int 0, .int 0, .int 0, .int 0, .ref z38, .int 0, .ref z39, .ref z40, .ref z41, .ref z42, .int 0, .ref z13, .ref z14, .ref z15, .ref z16, .int 0, .ref z17, .ref z18, .ref z43]))]) [0] (by decide) rfl
  exact W.iret (v := (-1)) hx hb hr (fun t ht hW => ⟨⟨(-1), (), rfl, rfl, ⟨by rw [ht]; exact hP9, va_K.moved hW.alike hK, hD9⟩⟩, hS.F ht⟩) hS.2.2 dX12_passAt_22

set_option maxHeartbeats 4000000 in
set_option maxRecDepth 100000 in
/-- X12_passAt -/
theorem kX12_passAt_3_2_2 (l : Launch) (D : va_G) (G : tyG) (h0 : Nat) (z0 : Nat) (z1 : Nat) (z2 : Nat) (z3 : Nat) (z4 : Nat) (z5 : Nat) (z20 : Nat) (z21 : Nat) (z22 : Nat) (z23 : Nat) (z24 : Nat) (z25 : Nat) (z26 : Nat) (z27 : Nat) (z28 : Nat) (z6 : Nat) (z29 : Nat) (z7 : Nat) (z19 : Nat) (z8 : Nat) (z9 : Nat) (z10 : Nat) (z11 : Nat) (z30 : Nat) (z31 : Nat) (z32 : Nat) (z33 : Nat) (z12 : Nat) (z34 : Nat) (z35 : Nat) (z36 : Nat) (z37 : Nat) (z38 : Nat) (z39 : Nat) (z40 : Nat) (z41 : Nat) (z42 : Nat) (z13 : Nat) (z14 : Nat) (z15 : Nat) (z16 : Nat) (z17 : Nat) (z18 : Nat) (z43 : Nat) (sz : Nat) : Met l yX12_passAt wsX12_passAt ({ frames := 1, cells := 0, slots := 0, locals := 23 }) (va_Pc [.ref h0, .int 2, .int 3, .int 2] (wB D G sz [(h0, .inr (12, [.ref z0, .ref z1, .ref z2, .ref z3, .ref z4, .ref z5, .ref z20, .ref z21, .ref z22, .ref z23, .ref z24, .ref z25, .int 0, .ref z26, .ref z27, .ref z28, .int 9, .int 0, .int 0, .ref z6, .ref z29, .ref z7, .int 0, .int 2, .ref z19, .ref z8, .ref z9, .ref z10, .int 0, .ref z11, .int 0, .ref z30, .ref z31, .ref z32, .ref z33, .int 0, .ref z12, .int 0, .int 0, .ref z34, .ref z35, .ref z36, .ref z37, .int 0, .int 0, .int 0, .int 0, .ref z38, .int 0, .ref z39, .ref z40, .ref z41, .ref z42, .int 0, .ref z13, .ref z14, .ref z15, .ref z16, .int 0, .ref z17, .ref z18, .ref z43]))])) (va_Qi (fun (r : Int32) (_ : Unit) => r = 1) (fun _ t => wS D G (va_A [(h0, .inr (12, [.ref z0, .ref z1, .ref z2, .ref z3, .ref z4, .ref z5, .ref z20, .ref z21, .ref z22, .ref z23, .ref z24, .ref z25, .int 0, .ref z26, .ref z27, .ref z28, .int 9, .int 0, .int 0, .ref z6, .ref z29, .ref z7, .int 0, .int 2, .ref z19, .ref z8, .ref z9, .ref z10, .int 0, .ref z11, .int 0, .ref z30, .ref z31, .ref z32, .ref z33, .int 0, .ref z12, .int 0, .int 0, .ref z34, .ref z35, .ref z36, .ref z37, .int 0, .int 0, .int 0, .int 0, .ref z38, .int 0, .ref z39, .ref z40, .ref z41, .ref z42, .int 0, .ref z13, .ref z14, .ref z15, .ref z16, .int 0, .ref z17, .ref z18, .ref z43]))] sz) [(h0, .inr (12, [.ref z0, .ref z1, .ref z2, .ref z3, .ref z4, .ref z5, .ref z20, .ref z21, .ref z22, .ref z23, .ref z24, .ref z25, .int 0, .ref z26, .ref z27, .ref z28, .int 9, .int 0, .int 0, .ref z6, .ref z29, .ref z7, .int 0, .int 2, .ref z19, .ref z8, .ref z9, .ref z10, .int 0, .ref z11, .int 0, .ref z30, .ref z31, .ref z32, .ref z33, .int 0, .ref z12, .int 0, .int 0, .ref z34, .ref z35, .ref z36, .ref z37, .int 0, .int 0, .int 0, .int 0, .ref z38, .int 0, .ref z39, .ref z40, .ref z41, .ref z42, .int 0, .ref z13, .ref z14, .ref z15, .ref z16, .int 0, .ref z17, .ref z18, .ref z43]))] t) (va_A [(h0, .inr (12, [.ref z0, .ref z1, .ref z2, .ref z3, .ref z4, .ref z5, .ref z20, .ref z21, .ref z22, .ref z23, .ref z24, .ref z25, .int 0, .ref z26, .ref z27, .ref z28, .int 9, .int 0, .int 0, .ref z6, .ref z29, .ref z7, .int 0, .int 2, .ref z19, .ref z8, .ref z9, .ref z10, .int 0, .ref z11, .int 0, .ref z30, .ref z31, .ref z32, .ref z33, .int 0, .ref z12, .int 0, .int 0, .ref z34, .ref z35, .ref z36, .ref z37, .int 0, .int 0, .int 0, .int 0, .ref z38, .int 0, .ref z39, .ref z40, .ref z41, .ref z42, .int 0, .ref z13, .ref z14, .ref z15, .ref z16, .int 0, .ref z17, .ref z18, .ref z43]))] sz)) 0 0 (va_A [(h0, .inr (12, [.ref z0, .ref z1, .ref z2, .ref z3, .ref z4, .ref z5, .ref z20, .ref z21, .ref z22, .ref z23, .ref z24, .ref z25, .int 0, .ref z26, .ref z27, .ref z28, .int 9, .int 0, .int 0, .ref z6, .ref z29, .ref z7, .int 0, .int 2, .ref z19, .ref z8, .ref z9, .ref z10, .int 0, .ref z11, .int 0, .ref z30, .ref z31, .ref z32, .ref z33, .int 0, .ref z12, .int 0, .int 0, .ref z34, .ref z35, .ref z36, .ref z37, .int 0, .int 0, .int 0, .int 0, .ref z38, .int 0, .ref z39, .ref z40, .ref z41, .ref z42, .int 0, .ref z13, .ref z14, .ref z15, .ref z16, .int 0, .ref z17, .ref z18, .ref z43]))] sz) := by
  refine Met.ofW (cc := cX12_passAt) (maxL := 4) (ret := (some .int)) (by decide) rfl ?_
  intro p e s m args below meth c s₁ B hml hv
  obtain ⟨rfl, hsz, hP, hK, hD0, hN⟩ := hv
  have hx := B.exec
  have hb := B.bytes
  have hr := B.returns
  have hts := atoms_spec (ws := wsX12_passAt) B.pre
  have hown : s.vm.findClass RX12 = some m.cls := findClass_of_methodNamed B.named
  have hlocks := B.notSynchronized
  subst hsz
  have hD := hD0.self (sz := s.heap.size)
  generalize hAe : va_A [(h0, .inr (12, [.ref z0, .ref z1, .ref z2, .ref z3, .ref z4, .ref z5, .ref z20, .ref z21, .ref z22, .ref z23, .ref z24, .ref z25, .int 0, .ref z26, .ref z27, .ref z28, .int 9, .int 0, .int 0, .ref z6, .ref z29, .ref z7, .int 0, .int 2, .ref z19, .ref z8, .ref z9, .ref z10, .int 0, .ref z11, .int 0, .ref z30, .ref z31, .ref z32, .ref z33, .int 0, .ref z12, .int 0, .int 0, .ref z34, .ref z35, .ref z36, .ref z37, .int 0, .int 0, .int 0, .int 0, .ref z38, .int 0, .ref z39, .ref z40, .ref z41, .ref z42, .int 0, .ref z13, .ref z14, .ref z15, .ref z16, .int 0, .ref z17, .ref z18, .ref z43]))] s.heap.size = A at hD ⊢
  have hA : ∀ q : Nat, s.heap.size ≤ q → A q := fun q h => by rw [← hAe]; exact Or.inr h
  have hS : va_S A s.heap s.heap [] := va_S.rf
  have hP : va_P D vwCl [(h0, .inr (12, [.ref z0, .ref z1, .ref z2, .ref z3, .ref z4, .ref z5, .ref z20, .ref z21, .ref z22, .ref z23, .ref z24, .ref z25, .int 0, .ref z26, .ref z27, .ref z28, .int 9, .int 0, .int 0, .ref z6, .ref z29, .ref z7, .int 0, .int 2, .ref z19, .ref z8, .ref z9, .ref z10, .int 0, .ref z11, .int 0, .ref z30, .ref z31, .ref z32, .ref z33, .int 0, .ref z12, .int 0, .int 0, .ref z34, .ref z35, .ref z36, .ref z37, .int 0, .int 0, .int 0, .int 0, .ref z38, .int 0, .ref z39, .ref z40, .ref z41, .ref z42, .int 0, .ref z13, .ref z14, .ref z15, .ref z16, .int 0, .ref z17, .ref z18, .ref z43]))] s.heap := hP
  have hl := lv_entry ([.ref h0, .int 2, .int 3, .int 2]) (n := 4) (Nat.le_of_ble_eq_true rfl)
  rw [lg_entry_eq]
  generalize (lg_sl ([.ref h0, .int 2, .int 3, .int 2]) ++ List.replicate (4 - (lg_sl ([.ref h0, .int 2, .int 3, .int 2])).length) Slot.unset).toArray = ls at hl ⊢
  have hl : lv_has ls 4 [(0, .ref h0), (1, .int 2), (2, .int 3), (3, .int 2)] := hl
  refine lv_iload_n hx hb dX12_passAt_0 rfl (lv_at hl 1 rfl) ?_
  refine lv_aload_n hx hb dX12_passAt_1 rfl (lv_at hl 0 rfl) ?_
  have hPc := hP.sub (ws' := [(h0, .inr (12, [.ref z0, .ref z1, .ref z2, .ref z3, .ref z4, .ref z5, .ref z20, .ref z21, .ref z22, .ref z23, .ref z24, .ref z25, .int 0, .ref z26, .ref z27, .ref z28, .int 9, .int 0, .int 0, .ref z6, .ref z29, .ref z7, .int 0, .int 2, .ref z19, .ref z8, .ref z9, .ref z10, .int 0, .ref z11, .int 0, .ref z30, .ref z31, .ref z32, .ref z33, .int 0, .ref z12, .int 0, .int 0, .ref z34, .ref z35, .ref z36, .ref z37, .int 0, .int 0, .int 0, .int 0, .ref z38, .int 0, .ref z39, .ref z40, .ref z41, .ref z42, .int 0, .ref z13, .ref z14, .ref z15, .ref z16, .int 0, .ref z17, .ref z18, .ref z43]))]) [0] rfl
  have hDc := hD.sub (ws' := [(h0, .inr (12, [.ref z0, .ref z1, .ref z2, .ref z3, .ref z4, .ref z5, .ref z20, .ref z21, .ref z22, .ref z23, .ref z24, .ref z25, .int 0, .ref z26, .ref z27, .ref z28, .int 9, .int 0, .int 0, .ref z6, .ref z29, .ref z7, .int 0, .int 2, .ref z19, .ref z8, .ref z9, .ref z10, .int 0, .ref z11, .int 0, .ref z30, .ref z31, .ref z32, .ref z33, .int 0, .ref z12, .int 0, .int 0, .ref z34, .ref z35, .ref z36, .ref z37, .int 0, .int 0, .int 0, .int 0, .ref z38, .int 0, .ref z39, .ref z40, .ref z41, .ref z42, .int 0, .ref z13, .ref z14, .ref z15, .ref z16, .int 0, .ref z17, .ref z18, .ref z43]))]) [0] (by decide) rfl
  have hFc := va_free (wc := [(h0, .inr (12, [.ref z0, .ref z1, .ref z2, .ref z3, .ref z4, .ref z5, .ref z20, .ref z21, .ref z22, .ref z23, .ref z24, .ref z25, .int 0, .ref z26, .ref z27, .ref z28, .int 9, .int 0, .int 0, .ref z6, .ref z29, .ref z7, .int 0, .int 2, .ref z19, .ref z8, .ref z9, .ref z10, .int 0, .ref z11, .int 0, .ref z30, .ref z31, .ref z32, .ref z33, .int 0, .ref z12, .int 0, .int 0, .ref z34, .ref z35, .ref z36, .ref z37, .int 0, .int 0, .int 0, .int 0, .ref z38, .int 0, .ref z39, .ref z40, .ref z41, .ref z42, .int 0, .ref z13, .ref z14, .ref z15, .ref z16, .int 0, .ref z17, .ref z18, .ref z43]))]) hD hS hA [0] rfl
  refine va_calli (va_runV (As := []) (rest := [.int 2]) ⟨hx, hb, hml, hown, hts⟩ (kX12_gens l D G h0 z0 z1 z2 z3 z4 z5 z20 z21 z22 z23 z24 z25 z26 z27 z28 z6 z29 z7 z19 z8 z9 z10 z11 z30 z31 z32 z33 z12 z34 z35 z36 z37 z38 z39 z40 z41 z42 z13 z14 z15 z16 z17 z18 z43 0 s.heap.size) (cwV 0 hts gX12_passAt_X12_gens rfl rfl rfl (by decide +kernel) ⟨Nat.le_of_ble_eq_true rfl, Nat.le_of_ble_eq_true rfl⟩) ⟨wB_blind, va_recv hK hPc (ci := 12) (q0 := 0) rfl rfl, wB_pre hPc hK hDc hN⟩ rfl rfl hl.1 rfl (lv_room (Nat.le_of_ble_eq_true rfl)) dX12_passAt_2 ⟨Nat.le_of_ble_eq_true rfl, Nat.le_of_ble_eq_true rfl⟩) hS (fun q _ h => hFc q h) hFc (fun r1 u t H1 locs ht hvm hr1 hB hz1 hk1 hS => ?_)
  obtain ⟨hP1, hK1, hD1⟩ := hB
  rw [ht] at hP1
  obtain ⟨hP, hD⟩ := va_join (wr := []) (w1 := [(h0, .inr (12, [.ref z0, .ref z1, .ref z2, .ref z3, .ref z4, .ref z5, .ref z20, .ref z21, .ref z22, .ref z23, .ref z24, .ref z25, .int 0, .ref z26, .ref z27, .ref z28, .int 9, .int 0, .int 0, .ref z6, .ref z29, .ref z7, .int 0, .int 2, .ref z19, .ref z8, .ref z9, .ref z10, .int 0, .ref z11, .int 0, .ref z30, .ref z31, .ref z32, .ref z33, .int 0, .ref z12, .int 0, .int 0, .ref z34, .ref z35, .ref z36, .ref z37, .int 0, .int 0, .int 0, .int 0, .ref z38, .int 0, .ref z39, .ref z40, .ref z41, .ref z42, .int 0, .ref z13, .ref z14, .ref z15, .ref z16, .int 0, .ref z17, .ref z18, .ref z43]))]) hP hD [0] [] rfl rfl (by decide) (by decide) hk1 hFc hP1 hD1
  clear hPc hDc
  generalize H1 = H at hP hS ⊢
  have hP : va_P D vwCl [(h0, .inr (12, [.ref z0, .ref z1, .ref z2, .ref z3, .ref z4, .ref z5, .ref z20, .ref z21, .ref z22, .ref z23, .ref z24, .ref z25, .int 0, .ref z26, .ref z27, .ref z28, .int 9, .int 0, .int 0, .ref z6, .ref z29, .ref z7, .int 0, .int 2, .ref z19, .ref z8, .ref z9, .ref z10, .int 0, .ref z11, .int 0, .ref z30, .ref z31, .ref z32, .ref z33, .int 0, .ref z12, .int 0, .int 0, .ref z34, .ref z35, .ref z36, .ref z37, .int 0, .int 0, .int 0, .int 0, .ref z38, .int 0, .ref z39, .ref z40, .ref z41, .ref z42, .int 0, .ref z13, .ref z14, .ref z15, .ref z16, .int 0, .ref z17, .ref z18, .ref z43]))] H := hP
  have hD : va_D A [(h0, .inr (12, [.ref z0, .ref z1, .ref z2, .ref z3, .ref z4, .ref z5, .ref z20, .ref z21, .ref z22, .ref z23, .ref z24, .ref z25, .int 0, .ref z26, .ref z27, .ref z28, .int 9, .int 0, .int 0, .ref z6, .ref z29, .ref z7, .int 0, .int 2, .ref z19, .ref z8, .ref z9, .ref z10, .int 0, .ref z11, .int 0, .ref z30, .ref z31, .ref z32, .ref z33, .int 0, .ref z12, .int 0, .int 0, .ref z34, .ref z35, .ref z36, .ref z37, .int 0, .int 0, .int 0, .int 0, .ref z38, .int 0, .ref z39, .ref z40, .ref z41, .ref z42, .int 0, .ref z13, .ref z14, .ref z15, .ref z16, .int 0, .ref z17, .ref z18, .ref z43]))] := hD
  subst hr1
  refine lv_iload_n hx hb dX12_passAt_5 rfl (lv_at hl 2 rfl) ?_
  refine lv_iconst (v := 1) hx hb dX12_passAt_6 (by decide) ?_
  refine lv_isub hx hb dX12_passAt_7 ?_
  refine wk_i 2 (by decide) ?_
  refine lv_iload_n hx hb dX12_passAt_8 rfl (lv_at hl 3 rfl) ?_
  refine lv_isub hx hb dX12_passAt_9 ?_
  refine wk_i 0 (by decide) ?_
  have hPc := hP.sub (ws' := []) [] rfl
  have hDc := hD.sub (ws' := []) [] (by decide) rfl
  have hFc := va_free (wc := []) hD hS hA [] rfl
  refine va_calli (va_runS (As := [.int 2, .int 0]) (rest := [.int 2]) ⟨hx, hb, hml, hown, hts⟩ (kX12_power_0 l D G  H.size) (va_cwS 2 hts gX12_passAt_X12_power rfl rfl rfl (by decide +kernel) ⟨Nat.le_of_ble_eq_true rfl, Nat.le_of_ble_eq_true rfl⟩) ⟨wB_blind, wB_pre hPc hK hDc hN⟩ rfl rfl hl.1 rfl (lv_room (Nat.le_of_ble_eq_true rfl)) dX12_passAt_10 ⟨Nat.le_of_ble_eq_true rfl, Nat.le_of_ble_eq_true rfl⟩) hS (fun q _ h => hFc q h) hFc (fun r2 u t H1 locs ht hvm hr2 hB hz1 hk1 hS => ?_)
  obtain ⟨hP, hD⟩ := va_join (wr := [(h0, .inr (12, [.ref z0, .ref z1, .ref z2, .ref z3, .ref z4, .ref z5, .ref z20, .ref z21, .ref z22, .ref z23, .ref z24, .ref z25, .int 0, .ref z26, .ref z27, .ref z28, .int 9, .int 0, .int 0, .ref z6, .ref z29, .ref z7, .int 0, .int 2, .ref z19, .ref z8, .ref z9, .ref z10, .int 0, .ref z11, .int 0, .ref z30, .ref z31, .ref z32, .ref z33, .int 0, .ref z12, .int 0, .int 0, .ref z34, .ref z35, .ref z36, .ref z37, .int 0, .int 0, .int 0, .int 0, .ref z38, .int 0, .ref z39, .ref z40, .ref z41, .ref z42, .int 0, .ref z13, .ref z14, .ref z15, .ref z16, .int 0, .ref z17, .ref z18, .ref z43]))]) (w1 := []) hP hD [] [0] rfl rfl (by decide) (by decide) hk1 hFc wP_nil wD_nil
  clear hPc hDc
  generalize H1 = H at hP hS ⊢
  have hP : va_P D vwCl [(h0, .inr (12, [.ref z0, .ref z1, .ref z2, .ref z3, .ref z4, .ref z5, .ref z20, .ref z21, .ref z22, .ref z23, .ref z24, .ref z25, .int 0, .ref z26, .ref z27, .ref z28, .int 9, .int 0, .int 0, .ref z6, .ref z29, .ref z7, .int 0, .int 2, .ref z19, .ref z8, .ref z9, .ref z10, .int 0, .ref z11, .int 0, .ref z30, .ref z31, .ref z32, .ref z33, .int 0, .ref z12, .int 0, .int 0, .ref z34, .ref z35, .ref z36, .ref z37, .int 0, .int 0, .int 0, .int 0, .ref z38, .int 0, .ref z39, .ref z40, .ref z41, .ref z42, .int 0, .ref z13, .ref z14, .ref z15, .ref z16, .int 0, .ref z17, .ref z18, .ref z43]))] H := hP
  have hD : va_D A [(h0, .inr (12, [.ref z0, .ref z1, .ref z2, .ref z3, .ref z4, .ref z5, .ref z20, .ref z21, .ref z22, .ref z23, .ref z24, .ref z25, .int 0, .ref z26, .ref z27, .ref z28, .int 9, .int 0, .int 0, .ref z6, .ref z29, .ref z7, .int 0, .int 2, .ref z19, .ref z8, .ref z9, .ref z10, .int 0, .ref z11, .int 0, .ref z30, .ref z31, .ref z32, .ref z33, .int 0, .ref z12, .int 0, .int 0, .ref z34, .ref z35, .ref z36, .ref z37, .int 0, .int 0, .int 0, .int 0, .ref z38, .int 0, .ref z39, .ref z40, .ref z41, .ref z42, .int 0, .ref z13, .ref z14, .ref z15, .ref z16, .int 0, .ref z17, .ref z18, .ref z43]))] := hD
  subst hr2
  refine lv_idiv hx hb dX12_passAt_13 (by decide) ?_
  refine wk_i 2 (by decide) ?_
  refine lv_aload_n hx hb dX12_passAt_14 rfl (lv_at hl 0 rfl) ?_
  have hPc := hP.sub (ws' := [(h0, .inr (12, [.ref z0, .ref z1, .ref z2, .ref z3, .ref z4, .ref z5, .ref z20, .ref z21, .ref z22, .ref z23, .ref z24, .ref z25, .int 0, .ref z26, .ref z27, .ref z28, .int 9, .int 0, .int 0, .ref z6, .ref z29, .ref z7, .int 0, .int 2, .ref z19, .ref z8, .ref z9, .ref z10, .int 0, .ref z11, .int 0, .ref z30, .ref z31, .ref z32, .ref z33, .int 0, .ref z12, .int 0, .int 0, .ref z34, .ref z35, .ref z36, .ref z37, .int 0, .int 0, .int 0, .int 0, .ref z38, .int 0, .ref z39, .ref z40, .ref z41, .ref z42, .int 0, .ref z13, .ref z14, .ref z15, .ref z16, .int 0, .ref z17, .ref z18, .ref z43]))]) [0] rfl
  have hDc := hD.sub (ws' := [(h0, .inr (12, [.ref z0, .ref z1, .ref z2, .ref z3, .ref z4, .ref z5, .ref z20, .ref z21, .ref z22, .ref z23, .ref z24, .ref z25, .int 0, .ref z26, .ref z27, .ref z28, .int 9, .int 0, .int 0, .ref z6, .ref z29, .ref z7, .int 0, .int 2, .ref z19, .ref z8, .ref z9, .ref z10, .int 0, .ref z11, .int 0, .ref z30, .ref z31, .ref z32, .ref z33, .int 0, .ref z12, .int 0, .int 0, .ref z34, .ref z35, .ref z36, .ref z37, .int 0, .int 0, .int 0, .int 0, .ref z38, .int 0, .ref z39, .ref z40, .ref z41, .ref z42, .int 0, .ref z13, .ref z14, .ref z15, .ref z16, .int 0, .ref z17, .ref z18, .ref z43]))]) [0] (by decide) rfl
  have hFc := va_free (wc := [(h0, .inr (12, [.ref z0, .ref z1, .ref z2, .ref z3, .ref z4, .ref z5, .ref z20, .ref z21, .ref z22, .ref z23, .ref z24, .ref z25, .int 0, .ref z26, .ref z27, .ref z28, .int 9, .int 0, .int 0, .ref z6, .ref z29, .ref z7, .int 0, .int 2, .ref z19, .ref z8, .ref z9, .ref z10, .int 0, .ref z11, .int 0, .ref z30, .ref z31, .ref z32, .ref z33, .int 0, .ref z12, .int 0, .int 0, .ref z34, .ref z35, .ref z36, .ref z37, .int 0, .int 0, .int 0, .int 0, .ref z38, .int 0, .ref z39, .ref z40, .ref z41, .ref z42, .int 0, .ref z13, .ref z14, .ref z15, .ref z16, .int 0, .ref z17, .ref z18, .ref z43]))]) hD hS hA [0] rfl
  refine va_calli (va_runV (As := []) (rest := [.int 2]) ⟨hx, hb, hml, hown, hts⟩ (kX12_gens l D G h0 z0 z1 z2 z3 z4 z5 z20 z21 z22 z23 z24 z25 z26 z27 z28 z6 z29 z7 z19 z8 z9 z10 z11 z30 z31 z32 z33 z12 z34 z35 z36 z37 z38 z39 z40 z41 z42 z13 z14 z15 z16 z17 z18 z43 0 H.size) (cwV 0 hts gX12_passAt_X12_gens rfl rfl rfl (by decide +kernel) ⟨Nat.le_of_ble_eq_true rfl, Nat.le_of_ble_eq_true rfl⟩) ⟨wB_blind, va_recv hK hPc (ci := 12) (q0 := 0) rfl rfl, wB_pre hPc hK hDc hN⟩ rfl rfl hl.1 rfl (lv_room (Nat.le_of_ble_eq_true rfl)) dX12_passAt_15 ⟨Nat.le_of_ble_eq_true rfl, Nat.le_of_ble_eq_true rfl⟩) hS (fun q _ h => hFc q h) hFc (fun r3 u t H1 locs ht hvm hr3 hB hz1 hk1 hS => ?_)
  obtain ⟨hP1, hK1, hD1⟩ := hB
  rw [ht] at hP1
  obtain ⟨hP, hD⟩ := va_join (wr := []) (w1 := [(h0, .inr (12, [.ref z0, .ref z1, .ref z2, .ref z3, .ref z4, .ref z5, .ref z20, .ref z21, .ref z22, .ref z23, .ref z24, .ref z25, .int 0, .ref z26, .ref z27, .ref z28, .int 9, .int 0, .int 0, .ref z6, .ref z29, .ref z7, .int 0, .int 2, .ref z19, .ref z8, .ref z9, .ref z10, .int 0, .ref z11, .int 0, .ref z30, .ref z31, .ref z32, .ref z33, .int 0, .ref z12, .int 0, .int 0, .ref z34, .ref z35, .ref z36, .ref z37, .int 0, .int 0, .int 0, .int 0, .ref z38, .int 0, .ref z39, .ref z40, .ref z41, .ref z42, .int 0, .ref z13, .ref z14, .ref z15, .ref z16, .int 0, .ref z17, .ref z18, .ref z43]))]) hP hD [0] [] rfl rfl (by decide) (by decide) hk1 hFc hP1 hD1
  clear hPc hDc
  generalize H1 = H at hP hS ⊢
  have hP : va_P D vwCl [(h0, .inr (12, [.ref z0, .ref z1, .ref z2, .ref z3, .ref z4, .ref z5, .ref z20, .ref z21, .ref z22, .ref z23, .ref z24, .ref z25, .int 0, .ref z26, .ref z27, .ref z28, .int 9, .int 0, .int 0, .ref z6, .ref z29, .ref z7, .int 0, .int 2, .ref z19, .ref z8, .ref z9, .ref z10, .int 0, .ref z11, .int 0, .ref z30, .ref z31, .ref z32, .ref z33, .int 0, .ref z12, .int 0, .int 0, .ref z34, .ref z35, .ref z36, .ref z37, .int 0, .int 0, .int 0, .int 0, .ref z38, .int 0, .ref z39, .ref z40, .ref z41, .ref z42, .int 0, .ref z13, .ref z14, .ref z15, .ref z16, .int 0, .ref z17, .ref z18, .ref z43]))] H := hP
  have hD : va_D A [(h0, .inr (12, [.ref z0, .ref z1, .ref z2, .ref z3, .ref z4, .ref z5, .ref z20, .ref z21, .ref z22, .ref z23, .ref z24, .ref z25, .int 0, .ref z26, .ref z27, .ref z28, .int 9, .int 0, .int 0, .ref z6, .ref z29, .ref z7, .int 0, .int 2, .ref z19, .ref z8, .ref z9, .ref z10, .int 0, .ref z11, .int 0, .ref z30, .ref z31, .ref z32, .ref z33, .int 0, .ref z12, .int 0, .int 0, .ref z34, .ref z35, .ref z36, .ref z37, .int 0, .int 0, .int 0, .int 0, .ref z38, .int 0, .ref z39, .ref z40, .ref z41, .ref z42, .int 0, .ref z13, .ref z14, .ref z15, .ref z16, .int 0, .ref z17, .ref z18, .ref z43]))] := hD
  subst hr3
  refine lv_irem hx hb dX12_passAt_18 (by decide) ?_
  refine wk_i 0 (by decide) ?_
  have hPc := hP.sub (ws' := []) [] rfl
  have hDc := hD.sub (ws' := []) [] (by decide) rfl
  have hFc := va_free (wc := []) hD hS hA [] rfl
  refine va_calli (va_runS (As := [.int 0]) (rest := []) ⟨hx, hb, hml, hown, hts⟩ (kX12_passOf_0 l D G  H.size) (va_cwS 1 hts gX12_passAt_X12_passOf rfl rfl rfl (by decide +kernel) ⟨Nat.le_of_ble_eq_true rfl, Nat.le_of_ble_eq_true rfl⟩) ⟨wB_blind, wB_pre hPc hK hDc hN⟩ rfl rfl hl.1 rfl (lv_room (Nat.le_of_ble_eq_true rfl)) dX12_passAt_19 ⟨Nat.le_of_ble_eq_true rfl, Nat.le_of_ble_eq_true rfl⟩) hS (fun q _ h => hFc q h) hFc (fun r4 u t H1 locs ht hvm hr4 hB hz1 hk1 hS => ?_)
  obtain ⟨hP, hD⟩ := va_join (wr := [(h0, .inr (12, [.ref z0, .ref z1, .ref z2, .ref z3, .ref z4, .ref z5, .ref z20, .ref z21, .ref z22, .ref z23, .ref z24, .ref z25, .int 0, .ref z26, .ref z27, .ref z28, .int 9, .int 0, .int 0, .ref z6, .ref z29, .ref z7, .int 0, .int 2, .ref z19, .ref z8, .ref z9, .ref z10, .int 0, .ref z11, .int 0, .ref z30, .ref z31, .ref z32, .ref z33, .int 0, .ref z12, .int 0, .int 0, .ref z34, .ref z35, .ref z36, .ref z37, .int 0, .int 0, .int 0, .int 0, .ref z38, .int 0, .ref z39, .ref z40, .ref z41, .ref z42, .int 0, .ref z13, .ref z14, .ref z15, .ref z16, .int 0, .ref z17, .ref z18, .ref z43]))]) (w1 := []) hP hD [] [0] rfl rfl (by decide) (by decide) hk1 hFc wP_nil wD_nil
  clear hPc hDc
  generalize H1 = H at hP hS ⊢
  have hP : va_P D vwCl [(h0, .inr (12, [.ref z0, .ref z1, .ref z2, .ref z3, .ref z4, .ref z5, .ref z20, .ref z21, .ref z22, .ref z23, .ref z24, .ref z25, .int 0, .ref z26, .ref z27, .ref z28, .int 9, .int 0, .int 0, .ref z6, .ref z29, .ref z7, .int 0, .int 2, .ref z19, .ref z8, .ref z9, .ref z10, .int 0, .ref z11, .int 0, .ref z30, .ref z31, .ref z32, .ref z33, .int 0, .ref z12, .int 0, .int 0, .ref z34, .ref z35, .ref z36, .ref z37, .int 0, .int 0, .int 0, .int 0, .ref z38, .int 0, .ref z39, .ref z40, .ref z41, .ref z42, .int 0, .ref z13, .ref z14, .ref z15, .ref z16, .int 0, .ref z17, .ref z18, .ref z43]))] H := hP
  have hD : va_D A [(h0, .inr (12, [.ref z0, .ref z1, .ref z2, .ref z3, .ref z4, .ref z5, .ref z20, .ref z21, .ref z22, .ref z23, .ref z24, .ref z25, .int 0, .ref z26, .ref z27, .ref z28, .int 9, .int 0, .int 0, .ref z6, .ref z29, .ref z7, .int 0, .int 2, .ref z19, .ref z8, .ref z9, .ref z10, .int 0, .ref z11, .int 0, .ref z30, .ref z31, .ref z32, .ref z33, .int 0, .ref z12, .int 0, .int 0, .ref z34, .ref z35, .ref z36, .ref z37, .int 0, .int 0, .int 0, .int 0, .ref z38, .int 0, .ref z39, .ref z40, .ref z41, .ref z42, .int 0, .ref z13, .ref z14, .ref z15, .ref z16, .int 0, .ref z17, .ref z18, .ref z43]))] := hD
  subst hr4
  have hP9 := hP.sub (ws' := [(h0, .inr (12, [.ref z0, .ref z1, .ref z2, .ref z3, .ref z4, .ref z5, .ref z20, .ref z21, .ref z22, .ref z23, .ref z24, .ref z25, .int 0, .ref z26, .ref z27, .ref z28, .int 9, .int 0, .int 0, .ref z6, .ref z29, .ref z7, .int 0, .int 2, .ref z19, .ref z8, .ref z9, .ref z10, .int 0, .ref z11, .int 0, .ref z30, .ref z31, .ref z32, .ref z33, .int 0, .ref z12, .int 0, .int 0, .ref z34, .ref z35, .ref z36, .ref z37, .int 0, .int 0, .int 0, .int 0, .ref z38, .int 0, .ref z39, .ref z40, .ref z41, .ref z42, .int 0, .ref z13, .ref z14, .ref z15, .ref z16, .int 0, .ref z17, .ref z18, .ref z43]))]) [0] rfl
  have hD9 := hD.sub (ws' := [(h0, .inr (12, [.ref z0, .ref z1, .ref z2, .ref z3, .ref z4, .ref z5, .ref z20, .ref z21, .ref z22, .ref z23, .ref z24, .ref z25, .int 0, .ref z26, .ref z27, .ref z28, .int 9, .int 0, .int 0, .ref z6, .ref z29, .ref z7, .int 0, .int 2, .ref z19, .ref z8, .ref z9, .ref z10, .int 0, .ref z11, .int 0, .ref z30, .ref z31, .ref z32, .ref z33, .int 0, .ref z12, .int 0, .int 0, .ref z34, .ref z35, .ref z36, .ref z37, .int 0, .int 0, .int 0, .int 0, .ref z38, .int 0, .ref z39, .ref z40, .ref z41, .ref z42, .int 0, .ref z13, .ref z14, .ref z15, .ref z16, .int 0, .ref z17, .ref z18, .ref z43]))]) [0] (by decide) rfl
  exact W.iret (v := 1) hx hb hr (fun t ht hW => ⟨⟨1, (), rfl, rfl, ⟨by rw [ht]; exact hP9, va_K.moved hW.alike hK, hD9⟩⟩, hS.F ht⟩) hS.2.2 dX12_passAt_22

set_option maxHeartbeats 4000000 in
set_option maxRecDepth 100000 in
/-- X12_passAt -/
theorem kX12_passAt_3_3_0 (l : Launch) (D : va_G) (G : tyG) (h0 : Nat) (z0 : Nat) (z1 : Nat) (z2 : Nat) (z3 : Nat) (z4 : Nat) (z5 : Nat) (z20 : Nat) (z21 : Nat) (z22 : Nat) (z23 : Nat) (z24 : Nat) (z25 : Nat) (z26 : Nat) (z27 : Nat) (z28 : Nat) (z6 : Nat) (z29 : Nat) (z7 : Nat) (z19 : Nat) (z8 : Nat) (z9 : Nat) (z10 : Nat) (z11 : Nat) (z30 : Nat) (z31 : Nat) (z32 : Nat) (z33 : Nat) (z12 : Nat) (z34 : Nat) (z35 : Nat) (z36 : Nat) (z37 : Nat) (z38 : Nat) (z39 : Nat) (z40 : Nat) (z41 : Nat) (z42 : Nat) (z13 : Nat) (z14 : Nat) (z15 : Nat) (z16 : Nat) (z17 : Nat) (z18 : Nat) (z43 : Nat) (sz : Nat) : Met l yX12_passAt wsX12_passAt ({ frames := 1, cells := 0, slots := 0, locals := 23 }) (va_Pc [.ref h0, .int 3, .int 3, .int 0] (wB D G sz [(h0, .inr (12, [.ref z0, .ref z1, .ref z2, .ref z3, .ref z4, .ref z5, .ref z20, .ref z21, .ref z22, .ref z23, .ref z24, .ref z25, .int 0, .ref z26, .ref z27, .ref z28, .int 9, .int 0, .int 0, .ref z6, .ref z29, .ref z7, .int 0, .int 2, .ref z19, .ref z8, .ref z9, .ref z10, .int 0, .ref z11, .int 0, .ref z30, .ref z31, .ref z32, .ref z33, .int 0, .ref z12, .int 0, .int 0, .ref z34, .ref z35, .ref z36, .ref z37, .int 0, .int 0, .int 0, .int 0, .ref z38, .int 0, .ref z39, .ref z40, .ref z41, .ref z42, .int 0, .ref z13, .ref z14, .ref z15, .ref z16, .int 0, .ref z17, .ref z18, .ref z43]))])) (va_Qi (fun (r : Int32) (_ : Unit) => r = 1) (fun _ t => wS D G (va_A [(h0, .inr (12, [.ref z0, .ref z1, .ref z2, .ref z3, .ref z4, .ref z5, .ref z20, .ref z21, .ref z22, .ref z23, .ref z24, .ref z25, .int 0, .ref z26, .ref z27, .ref z28, .int 9, .int 0, .int 0, .ref z6, .ref z29, .ref z7, .int 0, .int 2, .ref z19, .ref z8, .ref z9, .ref z10, .int 0, .ref z11, .int 0, .ref z30, .ref z31, .ref z32, .ref z33, .int 0, .ref z12, .int 0, .int 0, .ref z34, .ref z35, .ref z36, .ref z37, .int 0, .int 0, .int 0, .int 0, .ref z38, .int 0, .ref z39, .ref z40, .ref z41, .ref z42, .int 0, .ref z13, .ref z14, .ref z15, .ref z16, .int 0, .ref z17, .ref z18, .ref z43]))] sz) [(h0, .inr (12, [.ref z0, .ref z1, .ref z2, .ref z3, .ref z4, .ref z5, .ref z20, .ref z21, .ref z22, .ref z23, .ref z24, .ref z25, .int 0, .ref z26, .ref z27, .ref z28, .int 9, .int 0, .int 0, .ref z6, .ref z29, .ref z7, .int 0, .int 2, .ref z19, .ref z8, .ref z9, .ref z10, .int 0, .ref z11, .int 0, .ref z30, .ref z31, .ref z32, .ref z33, .int 0, .ref z12, .int 0, .int 0, .ref z34, .ref z35, .ref z36, .ref z37, .int 0, .int 0, .int 0, .int 0, .ref z38, .int 0, .ref z39, .ref z40, .ref z41, .ref z42, .int 0, .ref z13, .ref z14, .ref z15, .ref z16, .int 0, .ref z17, .ref z18, .ref z43]))] t) (va_A [(h0, .inr (12, [.ref z0, .ref z1, .ref z2, .ref z3, .ref z4, .ref z5, .ref z20, .ref z21, .ref z22, .ref z23, .ref z24, .ref z25, .int 0, .ref z26, .ref z27, .ref z28, .int 9, .int 0, .int 0, .ref z6, .ref z29, .ref z7, .int 0, .int 2, .ref z19, .ref z8, .ref z9, .ref z10, .int 0, .ref z11, .int 0, .ref z30, .ref z31, .ref z32, .ref z33, .int 0, .ref z12, .int 0, .int 0, .ref z34, .ref z35, .ref z36, .ref z37, .int 0, .int 0, .int 0, .int 0, .ref z38, .int 0, .ref z39, .ref z40, .ref z41, .ref z42, .int 0, .ref z13, .ref z14, .ref z15, .ref z16, .int 0, .ref z17, .ref z18, .ref z43]))] sz)) 0 0 (va_A [(h0, .inr (12, [.ref z0, .ref z1, .ref z2, .ref z3, .ref z4, .ref z5, .ref z20, .ref z21, .ref z22, .ref z23, .ref z24, .ref z25, .int 0, .ref z26, .ref z27, .ref z28, .int 9, .int 0, .int 0, .ref z6, .ref z29, .ref z7, .int 0, .int 2, .ref z19, .ref z8, .ref z9, .ref z10, .int 0, .ref z11, .int 0, .ref z30, .ref z31, .ref z32, .ref z33, .int 0, .ref z12, .int 0, .int 0, .ref z34, .ref z35, .ref z36, .ref z37, .int 0, .int 0, .int 0, .int 0, .ref z38, .int 0, .ref z39, .ref z40, .ref z41, .ref z42, .int 0, .ref z13, .ref z14, .ref z15, .ref z16, .int 0, .ref z17, .ref z18, .ref z43]))] sz) := by
  refine Met.ofW (cc := cX12_passAt) (maxL := 4) (ret := (some .int)) (by decide) rfl ?_
  intro p e s m args below meth c s₁ B hml hv
  obtain ⟨rfl, hsz, hP, hK, hD0, hN⟩ := hv
  have hx := B.exec
  have hb := B.bytes
  have hr := B.returns
  have hts := atoms_spec (ws := wsX12_passAt) B.pre
  have hown : s.vm.findClass RX12 = some m.cls := findClass_of_methodNamed B.named
  have hlocks := B.notSynchronized
  subst hsz
  have hD := hD0.self (sz := s.heap.size)
  generalize hAe : va_A [(h0, .inr (12, [.ref z0, .ref z1, .ref z2, .ref z3, .ref z4, .ref z5, .ref z20, .ref z21, .ref z22, .ref z23, .ref z24, .ref z25, .int 0, .ref z26, .ref z27, .ref z28, .int 9, .int 0, .int 0, .ref z6, .ref z29, .ref z7, .int 0, .int 2, .ref z19, .ref z8, .ref z9, .ref z10, .int 0, .ref z11, .int 0, .ref z30, .ref z31, .ref z32, .ref z33, .int 0, .ref z12, .int 0, .int 0, .ref z34, .ref z35, .ref z36, .ref z37, .int 0, .int 0, .int 0, .int 0, .ref z38, .int 0, .ref z39, .ref z40, .ref z41, .ref z42, .int 0, .ref z13, .ref z14, .ref z15, .ref z16, .int 0, .ref z17, .ref z18, .ref z43]))] s.heap.size = A at hD ⊢
  have hA : ∀ q : Nat, s.heap.size ≤ q → A q := fun q h => by rw [← hAe]; exact Or.inr h
  have hS : va_S A s.heap s.heap [] := va_S.rf
  have hP : va_P D vwCl [(h0, .inr (12, [.ref z0, .ref z1, .ref z2, .ref z3, .ref z4, .ref z5, .ref z20, .ref z21, .ref z22, .ref z23, .ref z24, .ref z25, .int 0, .ref z26, .ref z27, .ref z28, .int 9, .int 0, .int 0, .ref z6, .ref z29, .ref z7, .int 0, .int 2, .ref z19, .ref z8, .ref z9, .ref z10, .int 0, .ref z11, .int 0, .ref z30, .ref z31, .ref z32, .ref z33, .int 0, .ref z12, .int 0, .int 0, .ref z34, .ref z35, .ref z36, .ref z37, .int 0, .int 0, .int 0, .int 0, .ref z38, .int 0, .ref z39, .ref z40, .ref z41, .ref z42, .int 0, .ref z13, .ref z14, .ref z15, .ref z16, .int 0, .ref z17, .ref z18, .ref z43]))] s.heap := hP
  have hl := lv_entry ([.ref h0, .int 3, .int 3, .int 0]) (n := 4) (Nat.le_of_ble_eq_true rfl)
  rw [lg_entry_eq]
  generalize (lg_sl ([.ref h0, .int 3, .int 3, .int 0]) ++ List.replicate (4 - (lg_sl ([.ref h0, .int 3, .int 3, .int 0])).length) Slot.unset).toArray = ls at hl ⊢
  have hl : lv_has ls 4 [(0, .ref h0), (1, .int 3), (2, .int 3), (3, .int 0)] := hl
  refine lv_iload_n hx hb dX12_passAt_0 rfl (lv_at hl 1 rfl) ?_
  refine lv_aload_n hx hb dX12_passAt_1 rfl (lv_at hl 0 rfl) ?_
  have hPc := hP.sub (ws' := [(h0, .inr (12, [.ref z0, .ref z1, .ref z2, .ref z3, .ref z4, .ref z5, .ref z20, .ref z21, .ref z22, .ref z23, .ref z24, .ref z25, .int 0, .ref z26, .ref z27, .ref z28, .int 9, .int 0, .int 0, .ref z6, .ref z29, .ref z7, .int 0, .int 2, .ref z19, .ref z8, .ref z9, .ref z10, .int 0, .ref z11, .int 0, .ref z30, .ref z31, .ref z32, .ref z33, .int 0, .ref z12, .int 0, .int 0, .ref z34, .ref z35, .ref z36, .ref z37, .int 0, .int 0, .int 0, .int 0, .ref z38, .int 0, .ref z39, .ref z40, .ref z41, .ref z42, .int 0, .ref z13, .ref z14, .ref z15, .ref z16, .int 0, .ref z17, .ref z18, .ref z43]))]) [0] rfl
  have hDc := hD.sub (ws' := [(h0, .inr (12, [.ref z0, .ref z1, .ref z2, .ref z3, .ref z4, .ref z5, .ref z20, .ref z21, .ref z22, .ref z23, .ref z24, .ref z25, .int 0, .ref z26, .ref z27, .ref z28, .int 9, .int 0, .int 0, .ref z6, .ref z29, .ref z7, .int 0, .int 2, .ref z19, .ref z8, .ref z9, .ref z10, .int 0, .ref z11, .int 0, .ref z30, .ref z31, .ref z32, .ref z33, .int 0, .ref z12, .int 0, .int 0, .ref z34, .ref z35, .ref z36, .ref z37, .int 0, .int 0, .int 0, .int 0, .ref z38, .int 0, .ref z39, .ref z40, .ref z41, .ref z42, .int 0, .ref z13, .ref z14, .ref z15, .ref z16, .int 0, .ref z17, .ref z18, .ref z43]))]) [0] (by decide) rfl
  have hFc := va_free (wc := [(h0, .inr (12, [.ref z0, .ref z1, .ref z2, .ref z3, .ref z4, .ref z5, .ref z20, .ref z21, .ref z22, .ref z23, .ref z24, .ref z25, .int 0, .ref z26, .ref z27, .ref z28, .int 9, .int 0, .int 0, .ref z6, .ref z29, .ref z7, .int 0, .int 2, .ref z19, .ref z8, .ref z9, .ref z10, .int 0, .ref z11, .int 0, .ref z30, .ref z31, .ref z32, .ref z33, .int 0, .ref z12, .int 0, .int 0, .ref z34, .ref z35, .ref z36, .ref z37, .int 0, .int 0, .int 0, .int 0, .ref z38, .int 0, .ref z39, .ref z40, .ref z41, .ref z42, .int 0, .ref z13, .ref z14, .ref z15, .ref z16, .int 0, .ref z17, .ref z18, .ref z43]))]) hD hS hA [0] rfl
  refine va_calli (va_runV (As := []) (rest := [.int 3]) ⟨hx, hb, hml, hown, hts⟩ (kX12_gens l D G h0 z0 z1 z2 z3 z4 z5 z20 z21 z22 z23 z24 z25 z26 z27 z28 z6 z29 z7 z19 z8 z9 z10 z11 z30 z31 z32 z33 z12 z34 z35 z36 z37 z38 z39 z40 z41 z42 z13 z14 z15 z16 z17 z18 z43 0 s.heap.size) (cwV 0 hts gX12_passAt_X12_gens rfl rfl rfl (by decide +kernel) ⟨Nat.le_of_ble_eq_true rfl, Nat.le_of_ble_eq_true rfl⟩) ⟨wB_blind, va_recv hK hPc (ci := 12) (q0 := 0) rfl rfl, wB_pre hPc hK hDc hN⟩ rfl rfl hl.1 rfl (lv_room (Nat.le_of_ble_eq_true rfl)) dX12_passAt_2 ⟨Nat.le_of_ble_eq_true rfl, Nat.le_of_ble_eq_true rfl⟩) hS (fun q _ h => hFc q h) hFc (fun r1 u t H1 locs ht hvm hr1 hB hz1 hk1 hS => ?_)
  obtain ⟨hP1, hK1, hD1⟩ := hB
  rw [ht] at hP1
  obtain ⟨hP, hD⟩ := va_join (wr := []) (w1 := [(h0, .inr (12, [.ref z0, .ref z1, .ref z2, .ref z3, .ref z4, .ref z5, .ref z20, .ref z21, .ref z22, .ref z23, .ref z24, .ref z25, .int 0, .ref z26, .ref z27, .ref z28, .int 9, .int 0, .int 0, .ref z6, .ref z29, .ref z7, .int 0, .int 2, .ref z19, .ref z8, .ref z9, .ref z10, .int 0, .ref z11, .int 0, .ref z30, .ref z31, .ref z32, .ref z33, .int 0, .ref z12, .int 0, .int 0, .ref z34, .ref z35, .ref z36, .ref z37, .int 0, .int 0, .int 0, .int 0, .ref z38, .int 0, .ref z39, .ref z40, .ref z41, .ref z42, .int 0, .ref z13, .ref z14, .ref z15, .ref z16, .int 0, .ref z17, .ref z18, .ref z43]))]) hP hD [0] [] rfl rfl (by decide) (by decide) hk1 hFc hP1 hD1
  clear hPc hDc
  generalize H1 = H at hP hS ⊢
  have hP : va_P D vwCl [(h0, .inr (12, [.ref z0, .ref z1, .ref z2, .ref z3, .ref z4, .ref z5, .ref z20, .ref z21, .ref z22, .ref z23, .ref z24, .ref z25, .int 0, .ref z26, .ref z27, .ref z28, .int 9, .int 0, .int 0, .ref z6, .ref z29, .ref z7, .int 0, .int 2, .ref z19, .ref z8, .ref z9, .ref z10, .int 0, .ref z11, .int 0, .ref z30, .ref z31, .ref z32, .ref z33, .int 0, .ref z12, .int 0, .int 0, .ref z34, .ref z35, .ref z36, .ref z37, .int 0, .int 0, .int 0, .int 0, .ref z38, .int 0, .ref z39, .ref z40, .ref z41, .ref z42, .int 0, .ref z13, .ref z14, .ref z15, .ref z16, .int 0, .ref z17, .ref z18, .ref z43]))] H := hP
  have hD : va_D A [(h0, .inr (12, [.ref z0, .ref z1, .ref z2, .ref z3, .ref z4, .ref z5, .ref z20, .ref z21, .ref z22, .ref z23, .ref z24, .ref z25, .int 0, .ref z26, .ref z27, .ref z28, .int 9, .int 0, .int 0, .ref z6, .ref z29, .ref z7, .int 0, .int 2, .ref z19, .ref z8, .ref z9, .ref z10, .int 0, .ref z11, .int 0, .ref z30, .ref z31, .ref z32, .ref z33, .int 0, .ref z12, .int 0, .int 0, .ref z34, .ref z35, .ref z36, .ref z37, .int 0, .int 0, .int 0, .int 0, .ref z38, .int 0, .ref z39, .ref z40, .ref z41, .ref z42, .int 0, .ref z13, .ref z14, .ref z15, .ref z16, .int 0, .ref z17, .ref z18, .ref z43]))] := hD
  subst hr1
  refine lv_iload_n hx hb dX12_passAt_5 rfl (lv_at hl 2 rfl) ?_
  refine lv_iconst (v := 1) hx hb dX12_passAt_6 (by decide) ?_
  refine lv_isub hx hb dX12_passAt_7 ?_
  refine wk_i 2 (by decide) ?_
  refine lv_iload_n hx hb dX12_passAt_8 rfl (lv_at hl 3 rfl) ?_
  refine lv_isub hx hb dX12_passAt_9 ?_
  refine wk_i 2 (by decide) ?_
  have hPc := hP.sub (ws' := []) [] rfl
  have hDc := hD.sub (ws' := []) [] (by decide) rfl
  have hFc := va_free (wc := []) hD hS hA [] rfl
  refine va_calli (va_runS (As := [.int 2, .int 2]) (rest := [.int 3]) ⟨hx, hb, hml, hown, hts⟩ (kX12_power_2 l D G  H.size) (va_cwS 2 hts gX12_passAt_X12_power rfl rfl rfl (by decide +kernel) ⟨Nat.le_of_ble_eq_true rfl, Nat.le_of_ble_eq_true rfl⟩) ⟨wB_blind, wB_pre hPc hK hDc hN⟩ rfl rfl hl.1 rfl (lv_room (Nat.le_of_ble_eq_true rfl)) dX12_passAt_10 ⟨Nat.le_of_ble_eq_true rfl, Nat.le_of_ble_eq_true rfl⟩) hS (fun q _ h => hFc q h) hFc (fun r2 u t H1 locs ht hvm hr2 hB hz1 hk1 hS => ?_)
  obtain ⟨hP, hD⟩ := va_join (wr := [(h0, .inr (12, [.ref z0, .ref z1, .ref z2, .ref z3, .ref z4, .ref z5, .ref z20, .ref z21, .ref z22, .ref z23, .ref z24, .ref z25, .int 0, .ref z26, .ref z27, .ref z28, .int 9, .int 0, .int 0, .ref z6, .ref z29, .ref z7, .int 0, .int 2, .ref z19, .ref z8, .ref z9, .ref z10, .int 0, .ref z11, .int 0, .ref z30, .ref z31, .ref z32, .ref z33, .int 0, .ref z12, .int 0, .int 0, .ref z34, .ref z35, .ref z36, .ref z37, .int 0, .int 0, .int 0, .int 0, .ref z38, .int 0, .ref z39, .ref z40, .ref z41, .ref z42, .int 0, .ref z13, .ref z14, .ref z15, .ref z16, .int 0, .ref z17, .ref z18, .ref z43]))]) (w1 := []) hP hD [] [0] rfl rfl (by decide) (by decide) hk1 hFc wP_nil wD_nil
  clear hPc hDc
  generalize H1 = H at hP hS ⊢
  have hP : va_P D vwCl [(h0, .inr (12, [.ref z0, .ref z1, .ref z2, .ref z3, .ref z4, .ref z5, .ref z20, .ref z21, .ref z22, .ref z23, .ref z24, .ref z25, .int 0, .ref z26, .ref z27, .ref z28, .int 9, .int 0, .int 0, .ref z6, .ref z29, .ref z7, .int 0, .int 2, .ref z19, .ref z8, .ref z9, .ref z10, .int 0, .ref z11, .int 0, .ref z30, .ref z31, .ref z32, .ref z33, .int 0, .ref z12, .int 0, .int 0, .ref z34, .ref z35, .ref z36, .ref z37, .int 0, .int 0, .int 0, .int 0, .ref z38, .int 0, .ref z39, .ref z40, .ref z41, .ref z42, .int 0, .ref z13, .ref z14, .ref z15, .ref z16, .int 0, .ref z17, .ref z18, .ref z43]))] H := hP
  have hD : va_D A [(h0, .inr (12, [.ref z0, .ref z1, .ref z2, .ref z3, .ref z4, .ref z5, .ref z20, .ref z21, .ref z22, .ref z23, .ref z24, .ref z25, .int 0, .ref z26, .ref z27, .ref z28, .int 9, .int 0, .int 0, .ref z6, .ref z29, .ref z7, .int 0, .int 2, .ref z19, .ref z8, .ref z9, .ref z10, .int 0, .ref z11, .int 0, .ref z30, .ref z31, .ref z32, .ref z33, .int 0, .ref z12, .int 0, .int 0, .ref z34, .ref z35, .ref z36, .ref z37, .int 0, .int 0, .int 0, .int 0, .ref z38, .int 0, .ref z39, .ref z40, .ref z41, .ref z42, .int 0, .ref z13, .ref z14, .ref z15, .ref z16, .int 0, .ref z17, .ref z18, .ref z43]))] := hD
  subst hr2
  refine lv_idiv hx hb dX12_passAt_13 (by decide) ?_
  refine wk_i 0 (by decide) ?_
  refine lv_aload_n hx hb dX12_passAt_14 rfl (lv_at hl 0 rfl) ?_
  have hPc := hP.sub (ws' := [(h0, .inr (12, [.ref z0, .ref z1, .ref z2, .ref z3, .ref z4, .ref z5, .ref z20, .ref z21, .ref z22, .ref z23, .ref z24, .ref z25, .int 0, .ref z26, .ref z27, .ref z28, .int 9, .int 0, .int 0, .ref z6, .ref z29, .ref z7, .int 0, .int 2, .ref z19, .ref z8, .ref z9, .ref z10, .int 0, .ref z11, .int 0, .ref z30, .ref z31, .ref z32, .ref z33, .int 0, .ref z12, .int 0, .int 0, .ref z34, .ref z35, .ref z36, .ref z37, .int 0, .int 0, .int 0, .int 0, .ref z38, .int 0, .ref z39, .ref z40, .ref z41, .ref z42, .int 0, .ref z13, .ref z14, .ref z15, .ref z16, .int 0, .ref z17, .ref z18, .ref z43]))]) [0] rfl
  have hDc := hD.sub (ws' := [(h0, .inr (12, [.ref z0, .ref z1, .ref z2, .ref z3, .ref z4, .ref z5, .ref z20, .ref z21, .ref z22, .ref z23, .ref z24, .ref z25, .int 0, .ref z26, .ref z27, .ref z28, .int 9, .int 0, .int 0, .ref z6, .ref z29, .ref z7, .int 0, .int 2, .ref z19, .ref z8, .ref z9, .ref z10, .int 0, .ref z11, .int 0, .ref z30, .ref z31, .ref z32, .ref z33, .int 0, .ref z12, .int 0, .int 0, .ref z34, .ref z35, .ref z36, .ref z37, .int 0, .int 0, .int 0, .int 0, .ref z38, .int 0, .ref z39, .ref z40, .ref z41, .ref z42, .int 0, .ref z13, .ref z14, .ref z15, .ref z16, .int 0, .ref z17, .ref z18, .ref z43]))]) [0] (by decide) rfl
  have hFc := va_free (wc := [(h0, .inr (12, [.ref z0, .ref z1, .ref z2, .ref z3, .ref z4, .ref z5, .ref z20, .ref z21, .ref z22, .ref z23, .ref z24, .ref z25, .int 0, .ref z26, .ref z27, .ref z28, .int 9, .int 0, .int 0, .ref z6, .ref z29, .ref z7, .int 0, .int 2, .ref z19, .ref z8, .ref z9, .ref z10, .int 0, .ref z11, .int 0, .ref z30, .ref z31, .ref z32, .ref z33, .int 0, .ref z12, .int 0, .int 0, .ref z34, .ref z35, .ref z36, .ref z37, .int 0, .int 0, .int 0, .int 0, .ref z38, .int 0, .ref z39, .ref z40, .ref z41, .ref z42, .int 0, .ref z13, .ref z14, .ref z15, .ref z16, .int 0, .ref z17, .ref z18, .ref z43]))]) hD hS hA [0] rfl
  refine va_calli (va_runV (As := []) (rest := [.int 0]) ⟨hx, hb, hml, hown, hts⟩ (kX12_gens l D G h0 z0 z1 z2 z3 z4 z5 z20 z21 z22 z23 z24 z25 z26 z27 z28 z6 z29 z7 z19 z8 z9 z10 z11 z30 z31 z32 z33 z12 z34 z35 z36 z37 z38 z39 z40 z41 z42 z13 z14 z15 z16 z17 z18 z43 0 H.size) (cwV 0 hts gX12_passAt_X12_gens rfl rfl rfl (by decide +kernel) ⟨Nat.le_of_ble_eq_true rfl, Nat.le_of_ble_eq_true rfl⟩) ⟨wB_blind, va_recv hK hPc (ci := 12) (q0 := 0) rfl rfl, wB_pre hPc hK hDc hN⟩ rfl rfl hl.1 rfl (lv_room (Nat.le_of_ble_eq_true rfl)) dX12_passAt_15 ⟨Nat.le_of_ble_eq_true rfl, Nat.le_of_ble_eq_true rfl⟩) hS (fun q _ h => hFc q h) hFc (fun r3 u t H1 locs ht hvm hr3 hB hz1 hk1 hS => ?_)
  obtain ⟨hP1, hK1, hD1⟩ := hB
  rw [ht] at hP1
  obtain ⟨hP, hD⟩ := va_join (wr := []) (w1 := [(h0, .inr (12, [.ref z0, .ref z1, .ref z2, .ref z3, .ref z4, .ref z5, .ref z20, .ref z21, .ref z22, .ref z23, .ref z24, .ref z25, .int 0, .ref z26, .ref z27, .ref z28, .int 9, .int 0, .int 0, .ref z6, .ref z29, .ref z7, .int 0, .int 2, .ref z19, .ref z8, .ref z9, .ref z10, .int 0, .ref z11, .int 0, .ref z30, .ref z31, .ref z32, .ref z33, .int 0, .ref z12, .int 0, .int 0, .ref z34, .ref z35, .ref z36, .ref z37, .int 0, .int 0, .int 0, .int 0, .ref z38, .int 0, .ref z39, .ref z40, .ref z41, .ref z42, .int 0, .ref z13, .ref z14, .ref z15, .ref z16, .int 0, .ref z17, .ref z18, .ref z43]))]) hP hD [0] [] rfl rfl (by decide) (by decide) hk1 hFc hP1 hD1
  clear hPc hDc
  generalize H1 = H at hP hS ⊢
  have hP : va_P D vwCl [(h0, .inr (12, [.ref z0, .ref z1, .ref z2, .ref z3, .ref z4, .ref z5, .ref z20, .ref z21, .ref z22, .ref z23, .ref z24, .ref z25, .int 0, .ref z26, .ref z27, .ref z28, .int 9, .int 0, .int 0, .ref z6, .ref z29, .ref z7, .int 0, .int 2, .ref z19, .ref z8, .ref z9, .ref z10, .int 0, .ref z11, .int 0, .ref z30, .ref z31, .ref z32, .ref z33, .int 0, .ref z12, .int 0, .int 0, .ref z34, .ref z35, .ref z36, .ref z37, .int 0, .int 0, .int 0, .int 0, .ref z38, .int 0, .ref z39, .ref z40, .ref z41, .ref z42, .int 0, .ref z13, .ref z14, .ref z15, .ref z16, .int 0, .ref z17, .ref z18, .ref z43]))] H := hP
  have hD : va_D A [(h0, .inr (12, [.ref z0, .ref z1, .ref z2, .ref z3, .ref z4, .ref z5, .ref z20, .ref z21, .ref z22, .ref z23, .ref z24, .ref z25, .int 0, .ref z26, .ref z27, .ref z28, .int 9, .int 0, .int 0, .ref z6, .ref z29, .ref z7, .int 0, .int 2, .ref z19, .ref z8, .ref z9, .ref z10, .int 0, .ref z11, .int 0, .ref z30, .ref z31, .ref z32, .ref z33, .int 0, .ref z12, .int 0, .int 0, .ref z34, .ref z35, .ref z36, .ref z37, .int 0, .int 0, .int 0, .int 0, .ref z38, .int 0, .ref z39, .ref z40, .ref z41, .ref z42, .int 0, .ref z13, .ref z14, .ref z15, .ref z16, .int 0, .ref z17, .ref z18, .ref z43]))] := hD
  subst hr3
  refine lv_irem hx hb dX12_passAt_18 (by decide) ?_
  refine wk_i 0 (by decide) ?_
  have hPc := hP.sub (ws' := []) [] rfl
  have hDc := hD.sub (ws' := []) [] (by decide) rfl
  have hFc := va_free (wc := []) hD hS hA [] rfl
  refine va_calli (va_runS (As := [.int 0]) (rest := []) ⟨hx, hb, hml, hown, hts⟩ (kX12_passOf_0 l D G  H.size) (va_cwS 1 hts gX12_passAt_X12_passOf rfl rfl rfl (by decide +kernel) ⟨Nat.le_of_ble_eq_true rfl, Nat.le_of_ble_eq_true rfl⟩) ⟨wB_blind, wB_pre hPc hK hDc hN⟩ rfl rfl hl.1 rfl (lv_room (Nat.le_of_ble_eq_true rfl)) dX12_passAt_19 ⟨Nat.le_of_ble_eq_true rfl, Nat.le_of_ble_eq_true rfl⟩) hS (fun q _ h => hFc q h) hFc (fun r4 u t H1 locs ht hvm hr4 hB hz1 hk1 hS => ?_)
  obtain ⟨hP, hD⟩ := va_join (wr := [(h0, .inr (12, [.ref z0, .ref z1, .ref z2, .ref z3, .ref z4, .ref z5, .ref z20, .ref z21, .ref z22, .ref z23, .ref z24, .ref z25, .int 0, .ref z26, .ref z27, .ref z28, .int 9, .int 0, .int 0, .ref z6, .ref z29, .ref z7, .int 0, .int 2, .ref z19, .ref z8, .ref z9, .ref z10, .int 0, .ref z11, .int 0, .ref z30, .ref z31, .ref z32, .ref z33, .int 0, .ref z12, .int 0, .int 0, .ref z34, .ref z35, .ref z36, .ref z37, .int 0, .int 0, .int 0, .int 0, .ref z38, .int 0, .ref z39, .ref z40, .ref z41, .ref z42, .int 0, .ref z13, .ref z14, .ref z15, .ref z16, .int 0, .ref z17, .ref z18, .ref z43]))]) (w1 := []) hP hD [] [0] rfl rfl (by decide) (by decide) hk1 hFc wP_nil wD_nil
  clear hPc hDc
  generalize H1 = H at hP hS ⊢
  have hP : va_P D vwCl [(h0, .inr (12, [.ref z0, .ref z1, .ref z2, .ref z3, .ref z4, .ref z5, .ref z20, .ref z21, .ref z22, .ref z23, .ref z24, .ref z25, .int 0, .ref z26, .ref z27, .ref z28, .int 9, .int 0, .int 0, .ref z6, .ref z29, .ref z7, .int 0, .int 2, .ref z19, .ref z8, .ref z9, .ref z10, .int 0, .ref z11, .int 0, .ref z30, .ref z31, .ref z32, .ref z33, .int 0, .ref z12, .int 0, .int 0, .ref z34, .ref z35, .ref z36, .ref z37, .int 0, .int 0, .int 0, .int 0, .ref z38, .int 0, .ref z39, .ref z40, .ref z41, .ref z42, .int 0, .ref z13, .ref z14, .ref z15, .ref z16, .int 0, .ref z17, .ref z18, .ref z43]))] H := hP
  have hD : va_D A [(h0, .inr (12, [.ref z0, .ref z1, .ref z2, .ref z3, .ref z4, .ref z5, .ref z20, .ref z21, .ref z22, .ref z23, .ref z24, .ref z25, .int 0, .ref z26, .ref z27, .ref z28, .int 9, .int 0, .int 0, .ref z6, .ref z29, .ref z7, .int 0, .int 2, .ref z19, .ref z8, .ref z9, .ref z10, .int 0, .ref z11, .int 0, .ref z30, .ref z31, .ref z32, .ref z33, .int 0, .ref z12, .int 0, .int 0, .ref z34, .ref z35, .ref z36, .ref z37, .int 0, .int 0, .int 0, .int 0, .ref z38, .int 0, .ref z39, .ref z40, .ref z41, .ref z42, .int 0, .ref z13, .ref z14, .ref z15, .ref z16, .int 0, .ref z17, .ref z18, .ref z43]))] := hD
  subst hr4
  have hP9 := hP.sub (ws' := [(h0, .inr (12, [.ref z0, .ref z1, .ref z2, .ref z3, .ref z4, .ref z5, .ref z20, .ref z21, .ref z22, .ref z23, .ref z24, .ref z25, .int 0, .ref z26, .ref z27, .ref z28, .int 9, .int 0, .int 0, .ref z6, .ref z29, .ref z7, .int 0, .int 2, .ref z19, .ref z8, .ref z9, .ref z10, .int 0, .ref z11, .int 0, .ref z30, .ref z31, .ref z32, .ref z33, .int 0, .ref z12, .int 0, .int 0, .ref z34, .ref z35, .ref z36, .ref z37, .int 0, .int 0, .int 0, .int 0, .ref z38, .int 0, .ref z39, .ref z40, .ref z41, .ref z42, .int 0, .ref z13, .ref z14, .ref z15, .ref z16, .int 0, .ref z17, .ref z18, .ref z43]))]) [0] rfl
  have hD9 := hD.sub (ws' := [(h0, .inr (12, [.ref z0, .ref z1, .ref z2, .ref z3, .ref z4, .ref z5, .ref z20, .ref z21, .ref z22, .ref z23, .ref z24, .ref z25, .int 0, .ref z26, .ref z27, .ref z28, .int 9, .int 0, .int 0, .ref z6, .ref z29, .ref z7, .int 0, .int 2, .ref z19, .ref z8, .ref z9, .ref z10, .int 0, .ref z11, .int 0, .ref z30, .ref z31, .ref z32, .ref z33, .int 0, .ref z12, .int 0, .int 0, .ref z34, .ref z35, .ref z36, .ref z37, .int 0, .int 0, .int 0, .int 0, .ref z38, .int 0, .ref z39, .ref z40, .ref z41, .ref z42, .int 0, .ref z13, .ref z14, .ref z15, .ref z16, .int 0, .ref z17, .ref z18, .ref z43]))]) [0] (by decide) rfl
  exact W.iret (v := 1) hx hb hr (fun t ht hW => ⟨⟨1, (), rfl, rfl, ⟨by rw [ht]; exact hP9, va_K.moved hW.alike hK, hD9⟩⟩, hS.F ht⟩) hS.2.2 dX12_passAt_22

set_option maxHeartbeats 4000000 in
set_option maxRecDepth 100000 in
/-- X12_passAt -/
theorem kX12_passAt_3_3_1 (l : Launch) (D : va_G) (G : tyG) (h0 : Nat) (z0 : Nat) (z1 : Nat) (z2 : Nat) (z3 : Nat) (z4 : Nat) (z5 : Nat) (z20 : Nat) (z21 : Nat) (z22 : Nat) (z23 : Nat) (z24 : Nat) (z25 : Nat) (z26 : Nat) (z27 : Nat) (z28 : Nat) (z6 : Nat) (z29 : Nat) (z7 : Nat) (z19 : Nat) (z8 : Nat) (z9 : Nat) (z10 : Nat) (z11 : Nat) (z30 : Nat) (z31 : Nat) (z32 : Nat) (z33 : Nat) (z12 : Nat) (z34 : Nat) (z35 : Nat) (z36 : Nat) (z37 : Nat) (z38 : Nat) (z39 : Nat) (z40 : Nat) (z41 : Nat) (z42 : Nat) (z13 : Nat) (z14 : Nat) (z15 : Nat) (z16 : Nat) (z17 : Nat) (z18 : Nat) (z43 : Nat) (sz : Nat) : Met l yX12_passAt wsX12_passAt ({ frames := 1, cells := 0, slots := 0, locals := 23 }) (va_Pc [.ref h0, .int 3, .int 3, .int 1] (wB D G sz [(h0, .inr (12, [.ref z0, .ref z1, .ref z2, .ref z3, .ref z4, .ref z5, .ref z20, .ref z21, .ref z22, .ref z23, .ref z24, .ref z25, .int 0, .ref z26, .ref z27, .ref z28, .int 9, .int 0, .int 0, .ref z6, .ref z29, .ref z7, .int 0, .int 2, .ref z19, .ref z8, .ref z9, .ref z10, .int 0, .ref z11, .int 0, .ref z30, .ref z31, .ref z32, .ref z33, .int 0, .ref z12, .int 0, .int 0, .ref z34, .ref z35, .ref z36, .ref z37, .int 0, .int 0, .int 0, .int 0, .ref z38, .int 0, .ref z39, .ref z40, .ref z41, .ref z42, .int 0, .ref z13, .ref z14, .ref z15, .ref z16, .int 0, .ref z17, .ref z18, .ref z43]))])) (va_Qi (fun (r : Int32) (_ : Unit) => r = (-1)) (fun _ t => wS D G (va_A [(h0, .inr (12, [.ref z0, .ref z1, .ref z2, .ref z3, .ref z4, .ref z5, .ref z20, .ref z21, .ref z22, .ref z23, .ref z24, .ref z25, .int 0, .ref z26, .ref z27, .ref z28, .int 9, .int 0, .int 0, .ref z6, .ref z29, .ref z7, .int 0, .int 2, .ref z19, .ref z8, .ref z9, .ref z10, .int 0, .ref z11, .int 0, .ref z30, .ref z31, .ref z32, .ref z33, .int 0, .ref z12, .int 0, .int 0, .ref z34, .ref z35, .ref z36, .ref z37, .int 0, .int 0, .int 0, .int 0, .ref z38, .int 0, .ref z39, .ref z40, .ref z41, .ref z42, .int 0, .ref z13, .ref z14, .ref z15, .ref z16, .int 0, .ref z17, .ref z18, .ref z43]))] sz) [(h0, .inr (12, [.ref z0, .ref z1, .ref z2, .ref z3, .ref z4, .ref z5, .ref z20, .ref z21, .ref z22, .ref z23, .ref z24, .ref z25, .int 0, .ref z26, .ref z27, .ref z28, .int 9, .int 0, .int 0, .ref z6, .ref z29, .ref z7, .int 0, .int 2, .ref z19, .ref z8, .ref z9, .ref z10, .int 0, .ref z11, .int 0, .ref z30, .ref z31, .ref z32, .ref z33, .int 0, .ref z12, .int 0, .int 0, .ref z34, .ref z35, .ref z36, .ref z37, .int 0, .int 0, .int 0, .int 0, .ref z38, .int 0, .ref z39, .ref z40, .ref z41, .ref z42, .int 0, .ref z13, .ref z14, .ref z15, .ref z16, .int 0, .ref z17, .ref z18, .ref z43]))] t) (va_A [(h0, .inr (12, [.ref z0, .ref z1, .ref z2, .ref z3, .ref z4, .ref z5, .ref z20, .ref z21, .ref z22, .ref z23, .ref z24, .ref z25, .int 0, .ref z26, .ref z27, .ref z28, .int 9, .int 0, .int 0, .ref z6, .ref z29, .ref z7, .int 0, .int 2, .ref z19, .ref z8, .ref z9, .ref z10, .int 0, .ref z11, .int 0, .ref z30, .ref z31, .ref z32, .ref z33, .int 0, .ref z12, .int 0, .int 0, .ref z34, .ref z35, .ref z36, .ref z37, .int 0, .int 0, .int 0, .int 0, .ref z38, .int 0, .ref z39, .ref z40, .ref z41, .ref z42, .int 0, .ref z13, .ref z14, .ref z15, .ref z16, .int 0, .ref z17, .ref z18, .ref z43]))] sz)) 0 0 (va_A [(h0, .inr (12, [.ref z0, .ref z1, .ref z2, .ref z3, .ref z4, .ref z5, .ref z20, .ref z21, .ref z22, .ref z23, .ref z24, .ref z25, .int 0, .ref z26, .ref z27, .ref z28, .int 9, .int 0, .int 0, .ref z6, .ref z29, .ref z7, .int 0, .int 2, .ref z19, .ref z8, .ref z9, .ref z10, .int 0, .ref z11, .int 0, .ref z30, .ref z31, .ref z32, .ref z33, .int 0, .ref z12, .int 0, .int 0, .ref z34, .ref z35, .ref z36, .ref z37, .int 0, .int 0, .int 0, .int 0, .ref z38, .int 0, .ref z39, .ref z40, .ref z41, .ref z42, .int 0, .ref z13, .ref z14, .ref z15, .ref z16, .int 0, .ref z17, .ref z18, .ref z43]))] sz) := by
  refine Met.ofW (cc := cX12_passAt) (maxL := 4) (ret := (some .int)) (by decide) rfl ?_
  intro p e s m args below meth c s₁ B hml hv
  obtain ⟨rfl, hsz, hP, hK, hD0, hN⟩ := hv
  have hx := B.exec
  have hb := B.bytes
  have hr := B.returns
  have hts := atoms_spec (ws := wsX12_passAt) B.pre
  have hown : s.vm.findClass RX12 = some m.cls := findClass_of_methodNamed B.named
  have hlocks := B.notSynchronized
  subst hsz
  have hD := hD0.self (sz := s.heap.size)
  generalize hAe : va_A [(h0, .inr (12, [.ref z0, .ref z1, .ref z2, .ref z3, .ref z4, .ref z5, .ref z20, .ref z21, .ref z22, .ref z23, .ref z24, .ref z25, .int 0, .ref z26, .ref z27, .ref z28, .int 9, .int 0, .int 0, .ref z6, .ref z29, .ref z7, .int 0, .int 2, .ref z19, .ref z8, .ref z9, .ref z10, .int 0, .ref z11, .int 0, .ref z30, .ref z31, .ref z32, .ref z33, .int 0, .ref z12, .int 0, .int 0, .ref z34, .ref z35, .ref z36, .ref z37, .int 0, .int 0, .int 0, .int 0, .ref z38, .int 0, .ref z39, .ref z40, .ref z41, .ref z42, .int 0, .ref z13, .ref z14, .ref z15, .ref z16, .int 0, .ref z17, .ref z18, .ref z43]))] s.heap.size = A at hD ⊢
  have hA : ∀ q : Nat, s.heap.size ≤ q → A q := fun q h => by rw [← hAe]; exact Or.inr h
  have hS : va_S A s.heap s.heap [] := va_S.rf
  have hP : va_P D vwCl [(h0, .inr (12, [.ref z0, .ref z1, .ref z2, .ref z3, .ref z4, .ref z5, .ref z20, .ref z21, .ref z22, .ref z23, .ref z24, .ref z25, .int 0, .ref z26, .ref z27, .ref z28, .int 9, .int 0, .int 0, .ref z6, .ref z29, .ref z7, .int 0, .int 2, .ref z19, .ref z8, .ref z9, .ref z10, .int 0, .ref z11, .int 0, .ref z30, .ref z31, .ref z32, .ref z33, .int 0, .ref z12, .int 0, .int 0, .ref z34, .ref z35, .ref z36, .ref z37, .int 0, .int 0, .int 0, .int 0, .ref z38, .int 0, .ref z39, .ref z40, .ref z41, .ref z42, .int 0, .ref z13, .ref z14, .ref z15, .ref z16, .int 0, .ref z17, .ref z18, .ref z43]))] s.heap := hP
  have hl := lv_entry ([.ref h0, .int 3, .int 3, .int 1]) (n := 4) (Nat.le_of_ble_eq_true rfl)
  rw [lg_entry_eq]
  generalize (lg_sl ([.ref h0, .int 3, .int 3, .int 1]) ++ List.replicate (4 - (lg_sl ([.ref h0, .int 3, .int 3, .int 1])).length) Slot.unset).toArray = ls at hl ⊢
  have hl : lv_has ls 4 [(0, .ref h0), (1, .int 3), (2, .int 3), (3, .int 1)] := hl
  refine lv_iload_n hx hb dX12_passAt_0 rfl (lv_at hl 1 rfl) ?_
  refine lv_aload_n hx hb dX12_passAt_1 rfl (lv_at hl 0 rfl) ?_
  have hPc := hP.sub (ws' := [(h0, .inr (12, [.ref z0, .ref z1, .ref z2, .ref z3, .ref z4, .ref z5, .ref z20, .ref z21, .ref z22, .ref z23, .ref z24, .ref z25, .int 0, .ref z26, .ref z27, .ref z28, .int 9, .int 0, .int 0, .ref z6, .ref z29, .ref z7, .int 0, .int 2, .ref z19, .ref z8, .ref z9, .ref z10, .int 0, .ref z11, .int 0, .ref z30, .ref z31, .ref z32, .ref z33, .int 0, .ref z12, .int 0, .int 0, .ref z34, .ref z35, .ref z36, .ref z37, .int 0, .int 0, .int 0, .int 0, .ref z38, .int 0, .ref z39, .ref z40, .ref z41, .ref z42, .int 0, .ref z13, .ref z14, .ref z15, .ref z16, .int 0, .ref z17, .ref z18, .ref z43]))]) [0] rfl
  have hDc := hD.sub (ws' := [(h0, .inr (12, [.ref z0, .ref z1, .ref z2, .ref z3, .ref z4, .ref z5, .ref z20, .ref z21, .ref z22, .ref z23, .ref z24, .ref z25, .int 0, .ref z26, .ref z27, .ref z28, .int 9, .int 0, .int 0, .ref z6, .ref z29, .ref z7, .int 0, .int 2, .ref z19, .ref z8, .ref z9, .ref z10, .int 0, .ref z11, .int 0, .ref z30, .ref z31, .ref z32, .ref z33, .int 0, .ref z12, .int 0, .int 0, .ref z34, .ref z35, .ref z36, .ref z37, .int 0, .int 0, .int 0, .int 0, .ref z38, .int 0, .ref z39, .ref z40, .ref z41, .ref z42, .int 0, .ref z13, .ref z14, .ref z15, .ref z16, .int 0, .ref z17, .ref z18, .ref z43]))]) [0] (by decide) rfl
  have hFc := va_free (wc := [(h0, .inr (12, [.ref z0, .ref z1, .ref z2, .ref z3, .ref z4, .ref z5, .ref z20, .ref z21, .ref z22, .ref z23, .ref z24, .ref z25, .int 0, .ref z26, .ref z27, .ref z28, .int 9, .int 0, .int 0, .ref z6, .ref z29, .ref z7, .int 0, .int 2, .ref z19, .ref z8, .ref z9, .ref z10, .int 0, .ref z11, .int 0, .ref z30, .ref z31, .ref z32, .ref z33, .int 0, .ref z12, .int 0, .int 0, .ref z34, .ref z35, .ref z36, .ref z37, .int 0, .int 0, .int 0, .int 0, .ref z38, .int 0, .ref z39, .ref z40, .ref z41, .ref z42, .int 0, .ref z13, .ref z14, .ref z15, .ref z16, .int 0, .ref z17, .ref z18, .ref z43]))]) hD hS hA [0] rfl
  refine va_calli (va_runV (As := []) (rest := [.int 3]) ⟨hx, hb, hml, hown, hts⟩ (kX12_gens l D G h0 z0 z1 z2 z3 z4 z5 z20 z21 z22 z23 z24 z25 z26 z27 z28 z6 z29 z7 z19 z8 z9 z10 z11 z30 z31 z32 z33 z12 z34 z35 z36 z37 z38 z39 z40 z41 z42 z13 z14 z15 z16 z17 z18 z43 0 s.heap.size) (cwV 0 hts gX12_passAt_X12_gens rfl rfl rfl (by decide +kernel) ⟨Nat.le_of_ble_eq_true rfl, Nat.le_of_ble_eq_true rfl⟩) ⟨wB_blind, va_recv hK hPc (ci := 12) (q0 := 0) rfl rfl, wB_pre hPc hK hDc hN⟩ rfl rfl hl.1 rfl (lv_room (Nat.le_of_ble_eq_true rfl)) dX12_passAt_2 ⟨Nat.le_of_ble_eq_true rfl, Nat.le_of_ble_eq_true rfl⟩) hS (fun q _ h => hFc q h) hFc (fun r1 u t H1 locs ht hvm hr1 hB hz1 hk1 hS => ?_)
  obtain ⟨hP1, hK1, hD1⟩ := hB
  rw [ht] at hP1
  obtain ⟨hP, hD⟩ := va_join (wr := []) (w1 := [(h0, .inr (12, [.ref z0, .ref z1, .ref z2, .ref z3, .ref z4, .ref z5, .ref z20, .ref z21, .ref z22, .ref z23, .ref z24, .ref z25, .int 0, .ref z26, .ref z27, .ref z28, .int 9, .int 0, .int 0, .ref z6, .ref z29, .ref z7, .int 0, .int 2, .ref z19, .ref z8, .ref z9, .ref z10, .int 0, .ref z11, .int 0, .ref z30, .ref z31, .ref z32, .ref z33, .int 0, .ref z12, .int 0, .int 0, .ref z34, .ref z35, .ref z36, .ref z37, .int 0, .int 0, .int 0, .int 0, .ref z38, .int 0, .ref z39, .ref z40, .ref z41, .ref z42, .int 0, .ref z13, .ref z14, .ref z15, .ref z16, .int 0, .ref z17, .ref z18, .ref z43]))]) hP hD [0] [] rfl rfl (by decide) (by decide) hk1 hFc hP1 hD1
  clear hPc hDc
  generalize H1 = H at hP hS ⊢
  have hP : va_P D vwCl [(h0, .inr (12, [.ref z0, .ref z1, .ref z2, .ref z3, .ref z4, .ref z5, .ref z20, .ref z21, .ref z22, .ref z23, .ref z24, .ref z25, .int 0, .ref z26, .ref z27, .ref z28, .int 9, .int 0, .int 0, .ref z6, .ref z29, .ref z7, .int 0, .int 2, .ref z19, .ref z8, .ref z9, .ref z10, .int 0, .ref z11, .int 0, .ref z30, .ref z31, .ref z32, .ref z33, .int 0, .ref z12, .int 0, .int 0, .ref z34, .ref z35, .ref z36, .ref z37, .int 0, .int 0, .int 0, .int 0, .ref z38, .int 0, .ref z39, .ref z40, .ref z41, .ref z42, .int 0, .ref z13, .ref z14, .ref z15, .ref z16, .int 0, .ref z17, .ref z18, .ref z43]))] H := hP
  have hD : va_D A [(h0, .inr (12, [.ref z0, .ref z1, .ref z2, .ref z3, .ref z4, .ref z5, .ref z20, .ref z21, .ref z22, .ref z23, .ref z24, .ref z25, .int 0, .ref z26, .ref z27, .ref z28, .int 9, .int 0, .int 0, .ref z6, .ref z29, .ref z7, .int 0, .int 2, .ref z19, .ref z8, .ref z9, .ref z10, .int 0, .ref z11, .int 0, .ref z30, .ref z31, .ref z32, .ref z33, .int 0, .ref z12, .int 0, .int 0, .ref z34, .ref z35, .ref z36, .ref z37, .int 0, .int 0, .int 0, .int 0, .ref z38, .int 0, .ref z39, .ref z40, .ref z41, .ref z42, .int 0, .ref z13, .ref z14, .ref z15, .ref z16, .int 0, .ref z17, .ref z18, .ref z43]))] := hD
  subst hr1
  refine lv_iload_n hx hb dX12_passAt_5 rfl (lv_at hl 2 rfl) ?_
  refine lv_iconst (v := 1) hx hb dX12_passAt_6 (by decide) ?_
  refine lv_isub hx hb dX12_passAt_7 ?_
  refine wk_i 2 (by decide) ?_
  refine lv_iload_n hx hb dX12_passAt_8 rfl (lv_at hl 3 rfl) ?_
  refine lv_isub hx hb dX12_passAt_9 ?_
  refine wk_i 1 (by decide) ?_
  have hPc := hP.sub (ws' := []) [] rfl
  have hDc := hD.sub (ws' := []) [] (by decide) rfl
  have hFc := va_free (wc := []) hD hS hA [] rfl
  refine va_calli (va_runS (As := [.int 2, .int 1]) (rest := [.int 3]) ⟨hx, hb, hml, hown, hts⟩ (kX12_power_1 l D G  H.size) (va_cwS 2 hts gX12_passAt_X12_power rfl rfl rfl (by decide +kernel) ⟨Nat.le_of_ble_eq_true rfl, Nat.le_of_ble_eq_true rfl⟩) ⟨wB_blind, wB_pre hPc hK hDc hN⟩ rfl rfl hl.1 rfl (lv_room (Nat.le_of_ble_eq_true rfl)) dX12_passAt_10 ⟨Nat.le_of_ble_eq_true rfl, Nat.le_of_ble_eq_true rfl⟩) hS (fun q _ h => hFc q h) hFc (fun r2 u t H1 locs ht hvm hr2 hB hz1 hk1 hS => ?_)
  obtain ⟨hP, hD⟩ := va_join (wr := [(h0, .inr (12, [.ref z0, .ref z1, .ref z2, .ref z3, .ref z4, .ref z5, .ref z20, .ref z21, .ref z22, .ref z23, .ref z24, .ref z25, .int 0, .ref z26, .ref z27, .ref z28, .int 9, .int 0, .int 0, .ref z6, .ref z29, .ref z7, .int 0, .int 2, .ref z19, .ref z8, .ref z9, .ref z10, .int 0, .ref z11, .int 0, .ref z30, .ref z31, .ref z32, .ref z33, .int 0, .ref z12, .int 0, .int 0, .ref z34, .ref z35, .ref z36, .ref z37, .int 0, .int 0, .int 0, .int 0, .ref z38, .int 0, .ref z39, .ref z40, .ref z41, .ref z42, .int 0, .ref z13, .ref z14, .ref z15, .ref z16, .int 0, .ref z17, .ref z18, .ref z43]))]) (w1 := []) hP hD [] [0] rfl rfl (by decide) (by decide) hk1 hFc wP_nil wD_nil
  clear hPc hDc
  generalize H1 = H at hP hS ⊢
  have hP : va_P D vwCl [(h0, .inr (12, [.ref z0, .ref z1, .ref z2, .ref z3, .ref z4, .ref z5, .ref z20, .ref z21, .ref z22, .ref z23, .ref z24, .ref z25, .int 0, .ref z26, .ref z27, .ref z28, .int 9, .int 0, .int 0, .ref z6, .ref z29, .ref z7, .int 0, .int 2, .ref z19, .ref z8, .ref z9, .ref z10, .int 0, .ref z11, .int 0, .ref z30, .ref z31, .ref z32, .ref z33, .int 0, .ref z12, .int 0, .int 0, .ref z34, .ref z35, .ref z36, .ref z37, .int 0, .int 0, .int 0, .int 0, .ref z38, .int 0, .ref z39, .ref z40, .ref z41, .ref z42, .int 0, .ref z13, .ref z14, .ref z15, .ref z16, .int 0, .ref z17, .ref z18, .ref z43]))] H := hP
  have hD : va_D A [(h0, .inr (12, [.ref z0, .ref z1, .ref z2, .ref z3, .ref z4, .ref z5, .ref z20, .ref z21, .ref z22, .ref z23, .ref z24, .ref z25, .int 0, .ref z26, .ref z27, .ref z28, .int 9, .int 0, .int 0, .ref z6, .ref z29, .ref z7, .int 0, .int 2, .ref z19, .ref z8, .ref z9, .ref z10, .int 0, .ref z11, .int 0, .ref z30, .ref z31, .ref z32, .ref z33, .int 0, .ref z12, .int 0, .int 0, .ref z34, .ref z35, .ref z36, .ref z37, .int 0, .int 0, .int 0, .int 0, .ref z38, .int 0, .ref z39, .ref z40, .ref z41, .ref z42, .int 0, .ref z13, .ref z14, .ref z15, .ref z16, .int 0, .ref z17, .ref z18, .ref z43]))] := hD
  subst hr2
  refine lv_idiv hx hb dX12_passAt_13 (by decide) ?_
  refine wk_i 1 (by decide) ?_
  refine lv_aload_n hx hb dX12_passAt_14 rfl (lv_at hl 0 rfl) ?_
  have hPc := hP.sub (ws' := [(h0, .inr (12, [.ref z0, .ref z1, .ref z2, .ref z3, .ref z4, .ref z5, .ref z20, .ref z21, .ref z22, .ref z23, .ref z24, .ref z25, .int 0, .ref z26, .ref z27, .ref z28, .int 9, .int 0, .int 0, .ref z6, .ref z29, .ref z7, .int 0, .int 2, .ref z19, .ref z8, .ref z9, .ref z10, .int 0, .ref z11, .int 0, .ref z30, .ref z31, .ref z32, .ref z33, .int 0, .ref z12, .int 0, .int 0, .ref z34, .ref z35, .ref z36, .ref z37, .int 0, .int 0, .int 0, .int 0, .ref z38, .int 0, .ref z39, .ref z40, .ref z41, .ref z42, .int 0, .ref z13, .ref z14, .ref z15, .ref z16, .int 0, .ref z17, .ref z18, .ref z43]))]) [0] rfl
  have hDc := hD.sub (ws' := [(h0, .inr (12, [.ref z0, .ref z1, .ref z2, .ref z3, .ref z4, .ref z5, .ref z20, .ref z21, .ref z22, .ref z23, .ref z24, .ref z25, .int 0, .ref z26, .ref z27, .ref z28, .int 9, .int 0, .int 0, .ref z6, .ref z29, .ref z7, .int 0, .int 2, .ref z19, .ref z8, .ref z9, .ref z10, .int 0, .ref z11, .int 0, .ref z30, .ref z31, .ref z32, .ref z33, .int 0, .ref z12, .int 0, .int 0, .ref z34, .ref z35, .ref z36, .ref z37, .int 0, .int 0, .int 0, .int 0, .ref z38, .int 0, .ref z39, .ref z40, .ref z41, .ref z42, .int 0, .ref z13, .ref z14, .ref z15, .ref z16, .int 0, .ref z17, .ref z18, .ref z43]))]) [0] (by decide) rfl
  have hFc := va_free (wc := [(h0, .inr (12, [.ref z0, .ref z1, .ref z2, .ref z3, .ref z4, .ref z5, .ref z20, .ref z21, .ref z22, .ref z23, .ref z24, .ref z25, .int 0, .ref z26, .ref z27, .ref z28, .int 9, .int 0, .int 0, .ref z6, .ref z29, .ref z7, .int 0, .int 2, .ref z19, .ref z8, .ref z9, .ref z10, .int 0, .ref z11, .int 0, .ref z30, .ref z31, .ref z32, .ref z33, .int 0, .ref z12, .int 0, .int 0, .ref z34, .ref z35, .ref z36, .ref z37, .int 0, .int 0, .int 0, .int 0, .ref z38, .int 0, .ref z39, .ref z40, .ref z41, .ref z42, .int 0, .ref z13, .ref z14, .ref z15, .ref z16, .int 0, .ref z17, .ref z18, .ref z43]))]) hD hS hA [0] rfl
  refine va_calli (va_runV (As := []) (rest := [.int 1]) ⟨hx, hb, hml, hown, hts⟩ (kX12_gens l D G h0 z0 z1 z2 z3 z4 z5 z20 z21 z22 z23 z24 z25 z26 z27 z28 z6 z29 z7 z19 z8 z9 z10 z11 z30 z31 z32 z33 z12 z34 z35 z36 z37 z38 z39 z40 z41 z42 z13 z14 z15 z16 z17 z18 z43 0 H.size) (cwV 0 hts gX12_passAt_X12_gens rfl rfl rfl (by decide +kernel) ⟨Nat.le_of_ble_eq_true rfl, Nat.le_of_ble_eq_true rfl⟩) ⟨wB_blind, va_recv hK hPc (ci := 12) (q0 := 0) rfl rfl, wB_pre hPc hK hDc hN⟩ rfl rfl hl.1 rfl (lv_room (Nat.le_of_ble_eq_true rfl)) dX12_passAt_15 ⟨Nat.le_of_ble_eq_true rfl, Nat.le_of_ble_eq_true rfl⟩) hS (fun q _ h => hFc q h) hFc (fun r3 u t H1 locs ht hvm hr3 hB hz1 hk1 hS => ?_)
  obtain ⟨hP1, hK1, hD1⟩ := hB
  rw [ht] at hP1
  obtain ⟨hP, hD⟩ := va_join (wr := []) (w1 := [(h0, .inr (12, [.ref z0, .ref z1, .ref z2, .ref z3, .ref z4, .ref z5, .ref z20, .ref z21, .ref z22, .ref z23, .ref z24, .ref z25, .int 0, .ref z26, .ref z27, .ref z28, .int 9, .int 0, .int 0, .ref z6, .ref z29, .ref z7, .int 0, .int 2, .ref z19, .ref z8, .ref z9, .ref z10, .int 0, .ref z11, .int 0, .ref z30, .ref z31, .ref z32, .ref z33, .int 0, .ref z12, .int 0, .int 0, .ref z34, .ref z35, .ref z36, .ref z37, .int 0, .int 0, .int 0, .int 0, .ref z38, .int 0, .ref z39, .ref z40, .ref z41, .ref z42, .int 0, .ref z13, .ref z14, .ref z15, .ref z16, .int 0, .ref z17, .ref z18, .ref z43]))]) hP hD [0] [] rfl rfl (by decide) (by decide) hk1 hFc hP1 hD1
  clear hPc hDc
  generalize H1 = H at hP hS ⊢
  have hP : va_P D vwCl [(h0, .inr (12, [.ref z0, .ref z1, .ref z2, .ref z3, .ref z4, .ref z5, .ref z20, .ref z21, .ref z22, .ref z23, .ref z24, .ref z25, .int 0, .ref z26, .ref z27, .ref z28, .int 9, .int 0, .int 0, .ref z6, .ref z29, .ref z7, .int 0, .int 2, .ref z19, .ref z8, .ref z9, .ref z10, .int 0, .ref z11, .int 0, .ref z30, .ref z31, .ref z32, .ref z33, .int 0, .ref z12, .int 0, .int 0, .ref z34, .ref z35, .ref z36, .ref z37, .int 0, .int 0, .int 0, .int 0, .ref z38, .int 0, .ref z39, .ref z40, .ref z41, .ref z42, .int 0, .ref z13, .ref z14, .ref z15, .ref z16, .int 0, .ref z17, .ref z18, .ref z43]))] H := hP
  have hD : va_D A [(h0, .inr (12, [.ref z0, .ref z1, .ref z2, .ref z3, .ref z4, .ref z5, .ref z20, .ref z21, .ref z22, .ref z23, .ref z24, .ref z25, .int 0, .ref z26, .ref z27, .ref z28, .int 9, .int 0, .int 0, .ref z6, .ref z29, .ref z7, .int 0, .int 2, .ref z19, .ref z8, .ref z9, .ref z10, .int 0, .ref z11, .int 0, .ref z30, .ref z31, .ref z32, .ref z33, .int 0, .ref z12, .int 0, .int 0, .ref z34, .ref z35, .ref z36, .ref z37, .int 0, .int 0, .int 0, .int 0, .ref z38, .int 0, .ref z39, .ref z40, .ref z41, .ref z42, .int 0, .ref z13, .ref z14, .ref z15, .ref z16, .int 0, .ref z17, .ref z18, .ref z43]))] := hD
  subst hr3
  refine lv_irem hx hb dX12_passAt_18 (by decide) ?_
  refine wk_i 1 (by decide) ?_
  have hPc := hP.sub (ws' := []) [] rfl
  have hDc := hD.sub (ws' := []) [] (by decide) rfl
  have hFc := va_free (wc := []) hD hS hA [] rfl
  refine va_calli (va_runS (As := [.int 1]) (rest := []) ⟨hx, hb, hml, hown, hts⟩ (kX12_passOf_1 l D G  H.size) (va_cwS 1 hts gX12_passAt_X12_passOf rfl rfl rfl (by decide +kernel) ⟨Nat.le_of_ble_eq_true rfl, Nat.le_of_ble_eq_true rfl⟩) ⟨wB_blind, wB_pre hPc hK hDc hN⟩ rfl rfl hl.1 rfl (lv_room (Nat.le_of_ble_eq_true rfl)) dX12_passAt_19 ⟨Nat.le_of_ble_eq_true rfl, Nat.le_of_ble_eq_true rfl⟩) hS (fun q _ h => hFc q h) hFc (fun r4 u t H1 locs ht hvm hr4 hB hz1 hk1 hS => ?_)
  obtain ⟨hP, hD⟩ := va_join (wr := [(h0, .inr (12, [.ref z0, .ref z1, .ref z2, .ref z3, .ref z4, .ref z5, .ref z20, .ref z21, .ref z22, .ref z23, .ref z24, .ref z25, .int 0, .ref z26, .ref z27, .ref z28, .int 9, .int 0, .int 0, .ref z6, .ref z29, .ref z7, .int 0, .int 2, .ref z19, .ref z8, .ref z9, .ref z10, .int 0, .ref z11, .int 0, .ref z30, .ref z31, .ref z32, .ref z33, .int 0, .ref z12, .int 0, .int 0, .ref z34, .ref z35, .ref z36, .ref z37, .int 0, .int 0, .int 0, .int 0, .ref z38, .int 0, .ref z39, .ref z40, .ref z41, .ref z42, .int 0, .ref z13, .ref z14, .ref z15, .ref z16, .int 0, .ref z17, .ref z18, .ref z43]))]) (w1 := []) hP hD [] [0] rfl rfl (by decide) (by decide) hk1 hFc wP_nil wD_nil
  clear hPc hDc
  generalize H1 = H at hP hS ⊢
  have hP : va_P D vwCl [(h0, .inr (12, [.ref z0, .ref z1, .ref z2, .ref z3, .ref z4, .ref z5, .ref z20, .ref z21, .ref z22, .ref z23, .ref z24, .ref z25, .int 0, .ref z26, .ref z27, .ref z28, .int 9, .int 0, .int 0, .ref z6, .ref z29, .ref z7, .int 0, .int 2, .ref z19, .ref z8, .ref z9, .ref z10, .int 0, .ref z11, .int 0, .ref z30, .ref z31, .ref z32, .ref z33, .int 0, .ref z12, .int 0, .int 0, .ref z34, .ref z35, .ref z36, .ref z37, .int 0, .int 0, .int 0, .int 0, .ref z38, .int 0, .ref z39, .ref z40, .ref z41, .ref z42, .int 0, .ref z13, .ref z14, .ref z15, .ref z16, .int 0, .ref z17, .ref z18, .ref z43]))] H := hP
  have hD : va_D A [(h0, .inr (12, [.ref z0, .ref z1, .ref z2, .ref z3, .ref z4, .ref z5, .ref z20, .ref z21, .ref z22, .ref z23, .ref z24, .ref z25, .int 0, .ref z26, .ref z27, .ref z28, .int 9, .int 0, .int 0, .ref z6, .ref z29, .ref z7, .int 0, .int 2, .ref z19, .ref z8, .ref z9, .ref z10, .int 0, .ref z11, .int 0, .ref z30, .ref z31, .ref z32, .ref z33, .int 0, .ref z12, .int 0, .int 0, .ref z34, .ref z35, .ref z36, .ref z37, .int 0, .int 0, .int 0, .int 0, .ref z38, .int 0, .ref z39, .ref z40, .ref z41, .ref z42, .int 0, .ref z13, .ref z14, .ref z15, .ref z16, .int 0, .ref z17, .ref z18, .ref z43]))] := hD
  subst hr4
  have hP9 := hP.sub (ws' := [(h0, .inr (12, [.ref z0, .ref z1, .ref z2, .ref z3, .ref z4, .ref z5, .ref z20, .ref z21, .ref z22, .ref z23, .ref z24, .ref z25, .int 0, .ref z26, .ref z27, .ref z28, .int 9, .int 0, .int 0, .ref z6, .ref z29, .ref z7, .int 0, .int 2, .ref z19, .ref z8, .ref z9, .ref z10, .int 0, .ref z11, .int 0, .ref z30, .ref z31, .ref z32, .ref z33, .int 0, .ref z12, .int 0, .int 0, .ref z34, .ref z35, .ref z36, .ref z37, .int 0, .int 0, .int 0, .int 0, .ref z38, .int 0, .ref z39, .ref z40, .ref z41, .ref z42, .int 0, .ref z13, .ref z14, .ref z15, .ref z16, .int 0, .ref z17, .ref z18, .ref z43]))]) [0] rfl
  have hD9 := hD.sub (ws' := [(h0, .inr (12, [.ref z0, .ref z1, .ref z2, .ref z3, .ref z4, .ref z5, .ref z20, .ref z21, .ref z22, .ref z23, .ref z24, .ref z25, .int 0, .ref z26, .ref z27, .ref z28, .int 9, .int 0, .int 0, .ref z6, .ref z29, .ref z7, .int 0, .int 2, .ref z19, .ref z8, .ref z9, .ref z10, .int 0, .ref z11, .int 0, .ref z30, .ref z31, .ref z32, .ref z33, .int 0, .ref z12, .int 0, .int 0, .ref z34, .ref z35, .ref z36, .ref z37, .int 0, .int 0, .int 0, .int 0, .ref z38, .int 0, .ref z39, .ref z40, .ref z41, .ref z42, .int 0, .ref z13, .ref z14, .ref z15, .ref z16, .int 0, .ref z17, .ref z18, .ref z43]))]) [0] (by decide) rfl
  exact W.iret (v := (-1)) hx hb hr (fun t ht hW => ⟨⟨(-1), (), rfl, rfl, ⟨by rw [ht]; exact hP9, va_K.moved hW.alike hK, hD9⟩⟩, hS.F ht⟩) hS.2.2 dX12_passAt_22

set_option maxHeartbeats 4000000 in
set_option maxRecDepth 100000 in
/-- X12_passAt -/
theorem kX12_passAt_3_3_2 (l : Launch) (D : va_G) (G : tyG) (h0 : Nat) (z0 : Nat) (z1 : Nat) (z2 : Nat) (z3 : Nat) (z4 : Nat) (z5 : Nat) (z20 : Nat) (z21 : Nat) (z22 : Nat) (z23 : Nat) (z24 : Nat) (z25 : Nat) (z26 : Nat) (z27 : Nat) (z28 : Nat) (z6 : Nat) (z29 : Nat) (z7 : Nat) (z19 : Nat) (z8 : Nat) (z9 : Nat) (z10 : Nat) (z11 : Nat) (z30 : Nat) (z31 : Nat) (z32 : Nat) (z33 : Nat) (z12 : Nat) (z34 : Nat) (z35 : Nat) (z36 : Nat) (z37 : Nat) (z38 : Nat) (z39 : Nat) (z40 : Nat) (z41 : Nat) (z42 : Nat) (z13 : Nat) (z14 : Nat) (z15 : Nat) (z16 : Nat) (z17 : Nat) (z18 : Nat) (z43 : Nat) (sz : Nat) : Met l yX12_passAt wsX12_passAt ({ frames := 1, cells := 0, slots := 0, locals := 23 }) (va_Pc [.ref h0, .int 3, .int 3, .int 2] (wB D G sz [(h0, .inr (12, [.ref z0, .ref z1, .ref z2, .ref z3, .ref z4, .ref z5, .ref z20, .ref z21, .ref z22, .ref z23, .ref z24, .ref z25, .int 0, .ref z26, .ref z27, .ref z28, .int 9, .int 0, .int 0, .ref z6, .ref z29, .ref z7, .int 0, .int 2, .ref z19, .ref z8, .ref z9, .ref z10, .int 0, .ref z11, .int 0, .ref z30, .ref z31, .ref z32, .ref z33, .int 0, .ref z12, .int 0, .int 0, .ref z34, .ref z35, .ref z36, .ref z37, .int 0, .int 0, .int 0, .int 0, .ref z38, .int 0, .ref z39, .ref z40, .ref z41, .ref z42, .int 0, .ref z13, .ref z14, .ref z15, .ref z16, .int 0, .ref z17, .ref z18, .ref z43]))])) (va_Qi (fun (r : Int32) (_ : Unit) => r = (-1)) (fun _ t => wS D G (va_A [(h0, .inr (12, [.ref z0, .ref z1, .ref z2, .ref z3, .ref z4, .ref z5, .ref z20, .ref z21, .ref z22, .ref z23, .ref z24, .ref z25, .int 0, .ref z26, .ref z27, .ref z28, .int 9, .int 0, .int 0, .ref z6, .ref z29, .ref z7, .int 0, .int 2, .ref z19, .ref z8, .ref z9, .ref z10, .int 0, .ref z11, .int 0, .ref z30, .ref z31, .ref z32, .ref z33, .int 0, .ref z12, .int 0, .int 0, .ref z34, .ref z35, .ref z36, .ref z37, .int 0, .int 0, .int 0, .int 0, .ref z38, .int 0, .ref z39, .ref z40, .ref z41, .ref z42, .int 0, .ref z13, .ref z14, .ref z15, .ref z16, .int 0, .ref z17, .ref z18, .ref z43]))] sz) [(h0, .inr (12, [.ref z0, .ref z1, .ref z2, .ref z3, .ref z4, .ref z5, .ref z20, .ref z21, .ref z22, .ref z23, .ref z24, .ref z25, .int 0, .ref z26, .ref z27, .ref z28, .int 9, .int 0, .int 0, .ref z6, .ref z29, .ref z7, .int 0, .int 2, .ref z19, .ref z8, .ref z9, .ref z10, .int 0, .ref z11, .int 0, .ref z30, .ref z31, .ref z32, .ref z33, .int 0, .ref z12, .int 0, .int 0, .ref z34, .ref z35, .ref z36, .ref z37, .int 0, .int 0, .int 0, .int 0, .ref z38, .int 0, .ref z39, .ref z40, .ref z41, .ref z42, .int 0, .ref z13, .ref z14, .ref z15, .ref z16, .int 0, .ref z17, .ref z18, .ref z43]))] t) (va_A [(h0, .inr (12, [.ref z0, .ref z1, .ref z2, .ref z3, .ref z4, .ref z5, .ref z20, .ref z21, .ref z22, .ref z23, .ref z24, .ref z25, .int 0, .ref z26, .ref z27, .ref z28, .int 9, .int 0, .int 0, .ref z6, .ref z29, .ref z7, .int 0, .int 2, .ref z19, .ref z8, .ref z9, .ref z10, .int 0, .ref z11, .int 0, .ref z30, .ref z31, .ref z32, .ref z33, .int 0, .ref z12, .int 0, .int 0, .ref z34, .ref z35, .ref z36, .ref z37, .int 0, .int 0, .int 0, .int 0, .ref z38, .int 0, .ref z39, .ref z40, .ref z41, .ref z42, .int 0, .ref z13, .ref z14, .ref z15, .ref z16, .int 0, .ref z17, .ref z18, .ref z43]))] sz)) 0 0 (va_A [(h0, .inr (12, [.ref z0, .ref z1, .ref z2, .ref z3, .ref z4, .ref z5, .ref z20, .ref z21, .ref z22, .ref z23, .ref z24, .ref z25, .int 0, .ref z26, .ref z27, .ref z28, .int 9, .int 0, .int 0, .ref z6, .ref z29, .ref z7, .int 0, .int 2, .ref z19, .ref z8, .ref z9, .ref z10, .int 0, .ref z11, .int 0, .ref z30, .ref z31, .ref z32, .ref z33, .int 0, .ref z12, .int 0, .int 0, .ref z34, .ref z35, .ref z36, .ref z37, .int 0, .int 0, .int 0, .int 0, .ref z38, .int 0, .ref z39, .ref z40, .ref z41, .ref z42, .int 0, .ref z13, .ref z14, .ref z15, .ref z16, .int 0, .ref z17, .ref z18, .ref z43]))] sz) := by
  refine Met.ofW (cc := cX12_passAt) (maxL := 4) (ret := (some .int)) (by decide) rfl ?_
  intro p e s m args below meth c s₁ B hml hv
  obtain ⟨rfl, hsz, hP, hK, hD0, hN⟩ := hv
  have hx := B.exec
  have hb := B.bytes
  have hr := B.returns
  have hts := atoms_spec (ws := wsX12_passAt) B.pre
  have hown : s.vm.findClass RX12 = some m.cls := findClass_of_methodNamed B.named
  have hlocks := B.notSynchronized
  subst hsz
  have hD := hD0.self (sz := s.heap.size)
  generalize hAe : va_A [(h0, .inr (12, [.ref z0, .ref z1, .ref z2, .ref z3, .ref z4, .ref z5, .ref z20, .ref z21, .ref z22, .ref z23, .ref z24, .ref z25, .int 0, .ref z26, .ref z27, .ref z28, .int 9, .int 0, .int 0, .ref z6, .ref z29, .ref z7, .int 0, .int 2, .ref z19, .ref z8, .ref z9, .ref z10, .int 0, .ref z11, .int 0, .ref z30, .ref z31, .ref z32, .ref z33, .int 0, .ref z12, .int 0, .int 0, .ref z34, .ref z35, .ref z36, .ref z37, .int 0, .int 0, .int 0, .int 0, .ref z38, .int 0, .ref z39, .ref z40, .ref z41, .ref z42, .int 0, .ref z13, .ref z14, .ref z15, .ref z16, .int 0, .ref z17, .ref z18, .ref z43]))] s.heap.size = A at hD ⊢
  have hA : ∀ q : Nat, s.heap.size ≤ q → A q := fun q h => by rw [← hAe]; exact Or.inr h
  have hS : va_S A s.heap s.heap [] := va_S.rf
  have hP : va_P D vwCl [(h0, .inr (12, [.ref z0, .ref z1, .ref z2, .ref z3, .ref z4, .ref z5, .ref z20, .ref z21, .ref z22, .ref z23, .ref z24, .ref z25, .int 0, .ref z26, .ref z27, .ref z28, .int 9, .int 0, .int 0, .ref z6, .ref z29, .ref z7, .int 0, .int 2, .ref z19, .ref z8, .ref z9, .ref z10, .int 0, .ref z11, .int 0, .ref z30, .ref z31, .ref z32, .ref z33, .int 0, .ref z12, .int 0, .int 0, .ref z34, .ref z35, .ref z36, .ref z37, .int 0, .int 0, .int 0, .int 0, .ref z38, .int 0, .ref z39, .ref z40, .ref z41, .ref z42, .int 0, .ref z13, .ref z14, .ref z15, .ref z16, .int 0, .ref z17, .ref z18, .ref z43]))] s.heap := hP
  have hl := lv_entry ([.ref h0, .int 3, .int 3, .int 2]) (n := 4) (Nat.le_of_ble_eq_true rfl)
  rw [lg_entry_eq]
  generalize (lg_sl ([.ref h0, .int 3, .int 3, .int 2]) ++ List.replicate (4 - (lg_sl ([.ref h0, .int 3, .int 3, .int 2])).length) Slot.unset).toArray = ls at hl ⊢
  have hl : lv_has ls 4 [(0, .ref h0), (1, .int 3), (2, .int 3), (3, .int 2)] := hl
  refine lv_iload_n hx hb dX12_passAt_0 rfl (lv_at hl 1 rfl) ?_
  refine lv_aload_n hx hb dX12_passAt_1 rfl (lv_at hl 0 rfl) ?_
  have hPc := hP.sub (ws' := [(h0, .inr (12, [.ref z0, .ref z1, .ref z2, .ref z3, .ref z4, .ref z5, .ref z20, .ref z21, .ref z22, .ref z23, .ref z24, .ref z25, .int 0, .ref z26, .ref z27, .ref z28, .int 9, .int 0, .int 0, .ref z6, .ref z29, .ref z7, .int 0, .int 2, .ref z19, .ref z8, .ref z9, .ref z10, .int 0, .ref z11, .int 0, .ref z30, .ref z31, .ref z32, .ref z33, .int 0, .ref z12, .int 0, .int 0, .ref z34, .ref z35, .ref z36, .ref z37, .int 0, .int 0, .int 0, .int 0, .ref z38, .int 0, .ref z39, .ref z40, .ref z41, .ref z42, .int 0, .ref z13, .ref z14, .ref z15, .ref z16, .int 0, .ref z17, .ref z18, .ref z43]))]) [0] rfl
  have hDc := hD.sub (ws' := [(h0, .inr (12, [.ref z0, .ref z1, .ref z2, .ref z3, .ref z4, .ref z5, .ref z20, .ref z21, .ref z22, .ref z23, .ref z24, .ref z25, .int 0, .ref z26, .ref z27, .ref z28, .int 9, .int 0, .int 0, .ref z6, .ref z29, .ref z7, .int 0, .int 2, .ref z19, .ref z8, .ref z9, .ref z10, .int 0, .ref z11, .int 0, .ref z30, .ref z31, .ref z32, .ref z33, .int 0, .ref z12, .int 0, .int 0, .ref z34, .ref z35, .ref z36, .ref z37, .int 0, .int 0, .int 0, .int 0, .ref z38, .int 0, .ref z39, .ref z40, .ref z41, .ref z42, .int 0, .ref z13, .ref z14, .ref z15, .ref z16, .int 0, .ref z17, .ref z18, .ref z43]))]) [0] (by decide) rfl
  have hFc := va_free (wc := [(h0, .inr (12, [.ref z0, .ref z1, .ref z2, .ref z3, .ref z4, .ref z5, .ref z20, .ref z21, .ref z22, .ref z23, .ref z24, .ref z25, .int 0, .ref z26, .ref z27, .ref z28, .int 9, .int 0, .int 0, .ref z6, .ref z29, .ref z7, .int 0, .int 2, .ref z19, .ref z8, .ref z9, .ref z10, .int 0, .ref z11, .int 0, .ref z30, .ref z31, .ref z32, .ref z33, .int 0, .ref z12, .int 0, .int 0, .ref z34, .ref z35, .ref z36, .ref z37, .int 0, .int 0, .int 0, .int 0, .ref z38, .int 0, .ref z39, .ref z40, .ref z41, .ref z42, .int 0, .ref z13, .ref z14, .ref z15, .ref z16, .int 0, .ref z17, .ref z18, .ref z43]))]) hD hS hA [0] rfl
  refine va_calli (va_runV (As := []) (rest := [.int 3]) ⟨hx, hb, hml, hown, hts⟩ (kX12_gens l D G h0 z0 z1 z2 z3 z4 z5 z20 z21 z22 z23 z24 z25 z26 z27 z28 z6 z29 z7 z19 z8 z9 z10 z11 z30 z31 z32 z33 z12 z34 z35 z36 z37 z38 z39 z40 z41 z42 z13 z14 z15 z16 z17 z18 z43 0 s.heap.size) (cwV 0 hts gX12_passAt_X12_gens rfl rfl rfl (by decide +kernel) ⟨Nat.le_of_ble_eq_true rfl, Nat.le_of_ble_eq_true rfl⟩) ⟨wB_blind, va_recv hK hPc (ci := 12) (q0 := 0) rfl rfl, wB_pre hPc hK hDc hN⟩ rfl rfl hl.1 rfl (lv_room (Nat.le_of_ble_eq_true rfl)) dX12_passAt_2 ⟨Nat.le_of_ble_eq_true rfl, Nat.le_of_ble_eq_true rfl⟩) hS (fun q _ h => hFc q h) hFc (fun r1 u t H1 locs ht hvm hr1 hB hz1 hk1 hS => ?_)
  obtain ⟨hP1, hK1, hD1⟩ := hB
  rw [ht] at hP1
  obtain ⟨hP, hD⟩ := va_join (wr := []) (w1 := [(h0, .inr (12, [.ref z0, .ref z1, .ref z2, .ref z3, .ref z4, .ref z5, .ref z20, .ref z21, .ref z22, .ref z23, .ref z24, .ref z25, .int 0, .ref z26, .ref z27, .ref z28, .int 9, .int 0, .int 0, .ref z6, .ref z29, .ref z7, .int 0, .int 2, .ref z19, .ref z8, .ref z9, .ref z10, .int 0, .ref z11, .int 0, .ref z30, .ref z31, .ref z32, .ref z33, .int 0, .ref z12, .int 0, .int 0, .ref z34, .ref z35, .ref z36, .ref z37, .int 0, .int 0, .int 0, .int 0, .ref z38, .int 0, .ref z39, .ref z40, .ref z41, .ref z42, .int 0, .ref z13, .ref z14, .ref z15, .ref z16, .int 0, .ref z17, .ref z18, .ref z43]))]) hP hD [0] [] rfl rfl (by decide) (by decide) hk1 hFc hP1 hD1
  clear hPc hDc
  generalize H1 = H at hP hS ⊢
  have hP : va_P D vwCl [(h0, .inr (12, [.ref z0, .ref z1, .ref z2, .ref z3, .ref z4, .ref z5, .ref z20, .ref z21, .ref z22, .ref z23, .ref z24, .ref z25, .int 0, .ref z26, .ref z27, .ref z28, .int 9, .int 0, .int 0, .ref z6, .ref z29, .ref z7, .int 0, .int 2, .ref z19, .ref z8, .ref z9, .ref z10, .int 0, .ref z11, .int 0, .ref z30, .ref z31, .ref z32, .ref z33, .int 0, .ref z12, .int 0, .int 0, .ref z34, .ref z35, .ref z36, .ref z37, .int 0, .int 0, .int 0, .int 0, .ref z38, .int 0, .ref z39, .ref z40, .ref z41, .ref z42, .int 0, .ref z13, .ref z14, .ref z15, .ref z16, .int 0, .ref z17, .ref z18, .ref z43]))] H := hP
  have hD : va_D A [(h0, .inr (12, [.ref z0, .ref z1, .ref z2, .ref z3, .ref z4, .ref z5, .ref z20, .ref z21, .ref z22, .ref z23, .ref z24, .ref z25, .int 0, .ref z26, .ref z27, .ref z28, .int 9, .int 0, .int 0, .ref z6, .ref z29, .ref z7, .int 0, .int 2, .ref z19, .ref z8, .ref z9, .ref z10, .int 0, .ref z11, .int 0, .ref z30, .ref z31, .ref z32, .ref z33, .int 0, .ref z12, .int 0, .int 0, .ref z34, .ref z35, .ref z36, .ref z37, .int 0, .int 0, .int 0, .int 0, .ref z38, .int 0, .ref z39, .ref z40, .ref z41, .ref z42, .int 0, .ref z13, .ref z14, .ref z15, .ref z16, .int 0, .ref z17, .ref z18, .ref z43]))] := hD
  subst hr1
  refine lv_iload_n hx hb dX12_passAt_5 rfl (lv_at hl 2 rfl) ?_
  refine lv_iconst (v := 1) hx hb dX12_passAt_6 (by decide) ?_
  refine lv_isub hx hb dX12_passAt_7 ?_
  refine wk_i 2 (by decide) ?_
  refine lv_iload_n hx hb dX12_passAt_8 rfl (lv_at hl 3 rfl) ?_
  refine lv_isub hx hb dX12_passAt_9 ?_
  refine wk_i 0 (by decide) ?_
  have hPc := hP.sub (ws' := []) [] rfl
  have hDc := hD.sub (ws' := []) [] (by decide) rfl
  have hFc := va_free (wc := []) hD hS hA [] rfl
  refine va_calli (va_runS (As := [.int 2, .int 0]) (rest := [.int 3]) ⟨hx, hb, hml, hown, hts⟩ (kX12_power_0 l D G  H.size) (va_cwS 2 hts gX12_passAt_X12_power rfl rfl rfl (by decide +kernel) ⟨Nat.le_of_ble_eq_true rfl, Nat.le_of_ble_eq_true rfl⟩) ⟨wB_blind, wB_pre hPc hK hDc hN⟩ rfl rfl hl.1 rfl (lv_room (Nat.le_of_ble_eq_true rfl)) dX12_passAt_10 ⟨Nat.le_of_ble_eq_true rfl, Nat.le_of_ble_eq_true rfl⟩) hS (fun q _ h => hFc q h) hFc (fun r2 u t H1 locs ht hvm hr2 hB hz1 hk1 hS => ?_)
  obtain ⟨hP, hD⟩ := va_join (wr := [(h0, .inr (12, [.ref z0, .ref z1, .ref z2, .ref z3, .ref z4, .ref z5, .ref z20, .ref z21, .ref z22, .ref z23, .ref z24, .ref z25, .int 0, .ref z26, .ref z27, .ref z28, .int 9, .int 0, .int 0, .ref z6, .ref z29, .ref z7, .int 0, .int 2, .ref z19, .ref z8, .ref z9, .ref z10, .int 0, .ref z11, .int 0, .ref z30, .ref z31, .ref z32, .ref z33, .int 0, .ref z12, .int 0, .int 0, .ref z34, .ref z35, .ref z36, .ref z37, .int 0, .int 0, .int 0, .int 0, .ref z38, .int 0, .ref z39, .ref z40, .ref z41, .ref z42, .int 0, .ref z13, .ref z14, .ref z15, .ref z16, .int 0, .ref z17, .ref z18, .ref z43]))]) (w1 := []) hP hD [] [0] rfl rfl (by decide) (by decide) hk1 hFc wP_nil wD_nil
  clear hPc hDc
  generalize H1 = H at hP hS ⊢
  have hP : va_P D vwCl [(h0, .inr (12, [.ref z0, .ref z1, .ref z2, .ref z3, .ref z4, .ref z5, .ref z20, .ref z21, .ref z22, .ref z23, .ref z24, .ref z25, .int 0, .ref z26, .ref z27, .ref z28, .int 9, .int 0, .int 0, .ref z6, .ref z29, .ref z7, .int 0, .int 2, .ref z19, .ref z8, .ref z9, .ref z10, .int 0, .ref z11, .int 0, .ref z30, .ref z31, .ref z32, .ref z33, .int 0, .ref z12, .int 0, .int 0, .ref z34, .ref z35, .ref z36, .ref z37, .int 0, .int 0, .int 0, .int 0, .ref z38, .int 0, .ref z39, .ref z40, .ref z41, .ref z42, .int 0, .ref z13, .ref z14, .ref z15, .ref z16, .int 0, .ref z17, .ref z18, .ref z43]))] H := hP
  have hD : va_D A [(h0, .inr (12, [.ref z0, .ref z1, .ref z2, .ref z3, .ref z4, .ref z5, .ref z20, .ref z21, .ref z22, .ref z23, .ref z24, .ref z25, .int 0, .ref z26, .ref z27, .ref z28, .int 9, .int 0, .int 0, .ref z6, .ref z29, .ref z7, .int 0, .int 2, .ref z19, .ref z8, .ref z9, .ref z10, .int 0, .ref z11, .int 0, .ref z30, .ref z31, .ref z32, .ref z33, .int 0, .ref z12, .int 0, .int 0, .ref z34, .ref z35, .ref z36, .ref z37, .int 0, .int 0, .int 0, .int 0, .ref z38, .int 0, .ref z39, .ref z40, .ref z41, .ref z42, .int 0, .ref z13, .ref z14, .ref z15, .ref z16, .int 0, .ref z17, .ref z18, .ref z43]))] := hD
  subst hr2
  refine lv_idiv hx hb dX12_passAt_13 (by decide) ?_
  refine wk_i 3 (by decide) ?_
  refine lv_aload_n hx hb dX12_passAt_14 rfl (lv_at hl 0 rfl) ?_
  have hPc := hP.sub (ws' := [(h0, .inr (12, [.ref z0, .ref z1, .ref z2, .ref z3, .ref z4, .ref z5, .ref z20, .ref z21, .ref z22, .ref z23, .ref z24, .ref z25, .int 0, .ref z26, .ref z27, .ref z28, .int 9, .int 0, .int 0, .ref z6, .ref z29, .ref z7, .int 0, .int 2, .ref z19, .ref z8, .ref z9, .ref z10, .int 0, .ref z11, .int 0, .ref z30, .ref z31, .ref z32, .ref z33, .int 0, .ref z12, .int 0, .int 0, .ref z34, .ref z35, .ref z36, .ref z37, .int 0, .int 0, .int 0, .int 0, .ref z38, .int 0, .ref z39, .ref z40, .ref z41, .ref z42, .int 0, .ref z13, .ref z14, .ref z15, .ref z16, .int 0, .ref z17, .ref z18, .ref z43]))]) [0] rfl
  have hDc := hD.sub (ws' := [(h0, .inr (12, [.ref z0, .ref z1, .ref z2, .ref z3, .ref z4, .ref z5, .ref z20, .ref z21, .ref z22, .ref z23, .ref z24, .ref z25, .int 0, .ref z26, .ref z27, .ref z28, .int 9, .int 0, .int 0, .ref z6, .ref z29, .ref z7, .int 0, .int 2, .ref z19, .ref z8, .ref z9, .ref z10, .int 0, .ref z11, .int 0, .ref z30, .ref z31, .ref z32, .ref z33, .int 0, .ref z12, .int 0, .int 0, .ref z34, .ref z35, .ref z36, .ref z37, .int 0, .int 0, .int 0, .int 0, .ref z38, .int 0, .ref z39, .ref z40, .ref z41, .ref z42, .int 0, .ref z13, .ref z14, .ref z15, .ref z16, .int 0, .ref z17, .ref z18, .ref z43]))]) [0] (by decide) rfl
  have hFc := va_free (wc := [(h0, .inr (12, [.ref z0, .ref z1, .ref z2, .ref z3, .ref z4, .ref z5, .ref z20, .ref z21, .ref z22, .ref z23, .ref z24, .ref z25, .int 0, .ref z26, .ref z27, .ref z28, .int 9, .int 0, .int 0, .ref z6, .ref z29, .ref z7, .int 0, .int 2, .ref z19, .ref z8, .ref z9, .ref z10, .int 0, .ref z11, .int 0, .ref z30, .ref z31, .ref z32, .ref z33, .int 0, .ref z12, .int 0, .int 0, .ref z34, .ref z35, .ref z36, .ref z37, .int 0, .int 0, .int 0, .int 0, .ref z38, .int 0, .ref z39, .ref z40, .ref z41, .ref z42, .int 0, .ref z13, .ref z14, .ref z15, .ref z16, .int 0, .ref z17, .ref z18, .ref z43]))]) hD hS hA [0] rfl
  refine va_calli (va_runV (As := []) (rest := [.int 3]) ⟨hx, hb, hml, hown, hts⟩ (kX12_gens l D G h0 z0 z1 z2 z3 z4 z5 z20 z21 z22 z23 z24 z25 z26 z27 z28 z6 z29 z7 z19 z8 z9 z10 z11 z30 z31 z32 z33 z12 z34 z35 z36 z37 z38 z39 z40 z41 z42 z13 z14 z15 z16 z17 z18 z43 0 H.size) (cwV 0 hts gX12_passAt_X12_gens rfl rfl rfl (by decide +kernel) ⟨Nat.le_of_ble_eq_true rfl, Nat.le_of_ble_eq_true rfl⟩) ⟨wB_blind, va_recv hK hPc (ci := 12) (q0 := 0) rfl rfl, wB_pre hPc hK hDc hN⟩ rfl rfl hl.1 rfl (lv_room (Nat.le_of_ble_eq_true rfl)) dX12_passAt_15 ⟨Nat.le_of_ble_eq_true rfl, Nat.le_of_ble_eq_true rfl⟩) hS (fun q _ h => hFc q h) hFc (fun r3 u t H1 locs ht hvm hr3 hB hz1 hk1 hS => ?_)
  obtain ⟨hP1, hK1, hD1⟩ := hB
  rw [ht] at hP1
  obtain ⟨hP, hD⟩ := va_join (wr := []) (w1 := [(h0, .inr (12, [.ref z0, .ref z1, .ref z2, .ref z3, .ref z4, .ref z5, .ref z20, .ref z21, .ref z22, .ref z23, .ref z24, .ref z25, .int 0, .ref z26, .ref z27, .ref z28, .int 9, .int 0, .int 0, .ref z6, .ref z29, .ref z7, .int 0, .int 2, .ref z19, .ref z8, .ref z9, .ref z10, .int 0, .ref z11, .int 0, .ref z30, .ref z31, .ref z32, .ref z33, .int 0, .ref z12, .int 0, .int 0, .ref z34, .ref z35, .ref z36, .ref z37, .int 0, .int 0, .int 0, .int 0, .ref z38, .int 0, .ref z39, .ref z40, .ref z41, .ref z42, .int 0, .ref z13, .ref z14, .ref z15, .ref z16, .int 0, .ref z17, .ref z18, .ref z43]))]) hP hD [0] [] rfl rfl (by decide) (by decide) hk1 hFc hP1 hD1
  clear hPc hDc
  generalize H1 = H at hP hS ⊢
  have hP : va_P D vwCl [(h0, .inr (12, [.ref z0, .ref z1, .ref z2, .ref z3, .ref z4, .ref z5, .ref z20, .ref z21, .ref z22, .ref z23, .ref z24, .ref z25, .int 0, .ref z26, .ref z27, .ref z28, .int 9, .int 0, .int 0, .ref z6, .ref z29, .ref z7, .int 0, .int 2, .ref z19, .ref z8, .ref z9, .ref z10, .int 0, .ref z11, .int 0, .ref z30, .ref z31, .ref z32, .ref z33, .int 0, .ref z12, .int 0, .int 0, .ref z34, .ref z35, .ref z36, .ref z37, .int 0, .int 0, .int 0, .int 0, .ref z38, .int 0, .ref z39, .ref z40, .ref z41, .ref z42, .int 0, .ref z13, .ref z14, .ref z15, .ref z16, .int 0, .ref z17, .ref z18, .ref z43]))] H := hP
  have hD : va_D A [(h0, .inr (12, [.ref z0, .ref z1, .ref z2, .ref z3, .ref z4, .ref z5, .ref z20, .ref z21, .ref z22, .ref z23, .ref z24, .ref z25, .int 0, .ref z26, .ref z27, .ref z28, .int 9, .int 0, .int 0, .ref z6, .ref z29, .ref z7, .int 0, .int 2, .ref z19, .ref z8, .ref z9, .ref z10, .int 0, .ref z11, .int 0, .ref z30, .ref z31, .ref z32, .ref z33, .int 0, .ref z12, .int 0, .int 0, .ref z34, .ref z35, .ref z36, .ref z37, .int 0, .int 0, .int 0, .int 0, .ref z38, .int 0, .ref z39, .ref z40, .ref z41, .ref z42, .int 0, .ref z13, .ref z14, .ref z15, .ref z16, .int 0, .ref z17, .ref z18, .ref z43]))] := hD
  subst hr3
  refine lv_irem hx hb dX12_passAt_18 (by decide) ?_
  refine wk_i 1 (by decide) ?_
  have hPc := hP.sub (ws' := []) [] rfl
  have hDc := hD.sub (ws' := []) [] (by decide) rfl
  have hFc := va_free (wc := []) hD hS hA [] rfl
  refine va_calli (va_runS (As := [.int 1]) (rest := []) ⟨hx, hb, hml, hown, hts⟩ (kX12_passOf_1 l D G  H.size) (va_cwS 1 hts gX12_passAt_X12_passOf rfl rfl rfl (by decide +kernel) ⟨Nat.le_of_ble_eq_true rfl, Nat.le_of_ble_eq_true rfl⟩) ⟨wB_blind, wB_pre hPc hK hDc hN⟩ rfl rfl hl.1 rfl (lv_room (Nat.le_of_ble_eq_true rfl)) dX12_passAt_19 ⟨Nat.le_of_ble_eq_true rfl, Nat.le_of_ble_eq_true rfl⟩) hS (fun q _ h => hFc q h) hFc (fun r4 u t H1 locs ht hvm hr4 hB hz1 hk1 hS => ?_)
  obtain ⟨hP, hD⟩ := va_join (wr := [(h0, .inr (12, [.ref z0, .ref z1, .ref z2, .ref z3, .ref z4, .ref z5, .ref z20, .ref z21, .ref z22, .ref z23, .ref z24, .ref z25, .int 0, .ref z26, .ref z27, .ref z28, .int 9, .int 0, .int 0, .ref z6, .ref z29, .ref z7, .int 0, .int 2, .ref z19, .ref z8, .ref z9, .ref z10, .int 0, .ref z11, .int 0, .ref z30, .ref z31, .ref z32, .ref z33, .int 0, .ref z12, .int 0, .int 0, .ref z34, .ref z35, .ref z36, .ref z37, .int 0, .int 0, .int 0, .int 0, .ref z38, .int 0, .ref z39, .ref z40, .ref z41, .ref z42, .int 0, .ref z13, .ref z14, .ref z15, .ref z16, .int 0, .ref z17, .ref z18, .ref z43]))]) (w1 := []) hP hD [] [0] rfl rfl (by decide) (by decide) hk1 hFc wP_nil wD_nil
  clear hPc hDc
  generalize H1 = H at hP hS ⊢
  have hP : va_P D vwCl [(h0, .inr (12, [.ref z0, .ref z1, .ref z2, .ref z3, .ref z4, .ref z5, .ref z20, .ref z21, .ref z22, .ref z23, .ref z24, .ref z25, .int 0, .ref z26, .ref z27, .ref z28, .int 9, .int 0, .int 0, .ref z6, .ref z29, .ref z7, .int 0, .int 2, .ref z19, .ref z8, .ref z9, .ref z10, .int 0, .ref z11, .int 0, .ref z30, .ref z31, .ref z32, .ref z33, .int 0, .ref z12, .int 0, .int 0, .ref z34, .ref z35, .ref z36, .ref z37, .int 0, .int 0, .int 0, .int 0, .ref z38, .int 0, .ref z39, .ref z40, .ref z41, .ref z42, .int 0, .ref z13, .ref z14, .ref z15, .ref z16, .int 0, .ref z17, .ref z18, .ref z43]))] H := hP
  have hD : va_D A [(h0, .inr (12, [.ref z0, .ref z1, .ref z2, .ref z3, .ref z4, .ref z5, .ref z20, .ref z21, .ref z22, .ref z23, .ref z24, .ref z25, .int 0, .ref z26, .ref z27, .ref z28, .int 9, .int 0, .int 0, .ref z6, .ref z29, .ref z7, .int 0, .int 2, .ref z19, .ref z8, .ref z9, .ref z10, .int 0, .ref z11, .int 0, .ref z30, .ref z31, .ref z32, .ref z33, .int 0, .ref z12, .int 0, .int 0, .ref z34, .ref z35, .ref z36, .ref z37, .int 0, .int 0, .int 0, .int 0, .ref z38, .int 0, .ref z39, .ref z40, .ref z41, .ref z42, .int 0, .ref z13, .ref z14, .ref z15, .ref z16, .int 0, .ref z17, .ref z18, .ref z43]))] := hD
  subst hr4
  have hP9 := hP.sub (ws' := [(h0, .inr (12, [.ref z0, .ref z1, .ref z2, .ref z3, .ref z4, .ref z5, .ref z20, .ref z21, .ref z22, .ref z23, .ref z24, .ref z25, .int 0, .ref z26, .ref z27, .ref z28, .int 9, .int 0, .int 0, .ref z6, .ref z29, .ref z7, .int 0, .int 2, .ref z19, .ref z8, .ref z9, .ref z10, .int 0, .ref z11, .int 0, .ref z30, .ref z31, .ref z32, .ref z33, .int 0, .ref z12, .int 0, .int 0, .ref z34, .ref z35, .ref z36, .ref z37, .int 0, .int 0, .int 0, .int 0, .ref z38, .int 0, .ref z39, .ref z40, .ref z41, .ref z42, .int 0, .ref z13, .ref z14, .ref z15, .ref z16, .int 0, .ref z17, .ref z18, .ref z43]))]) [0] rfl
  have hD9 := hD.sub (ws' := [(h0, .inr (12, [.ref z0, .ref z1, .ref z2, .ref z3, .ref z4, .ref z5, .ref z20, .ref z21, .ref z22, .ref z23, .ref z24, .ref z25, .int 0, .ref z26, .ref z27, .ref z28, .int 9, .int 0, .int 0, .ref z6, .ref z29, .ref z7, .int 0, .int 2, .ref z19, .ref z8, .ref z9, .ref z10, .int 0, .ref z11, .int 0, .ref z30, .ref z31, .ref z32, .ref z33, .int 0, .ref z12, .int 0, .int 0, .ref z34, .ref z35, .ref z36, .ref z37, .int 0, .int 0, .int 0, .int 0, .ref z38, .int 0, .ref z39, .ref z40, .ref z41, .ref z42, .int 0, .ref z13, .ref z14, .ref z15, .ref z16, .int 0, .ref z17, .ref z18, .ref z43]))]) [0] (by decide) rfl
  exact W.iret (v := (-1)) hx hb hr (fun t ht hW => ⟨⟨(-1), (), rfl, rfl, ⟨by rw [ht]; exact hP9, va_K.moved hW.alike hK, hD9⟩⟩, hS.F ht⟩) hS.2.2 dX12_passAt_22

set_option maxHeartbeats 4000000 in
set_option maxRecDepth 100000 in
/-- X12_passAt -/
theorem kX12_passAt_3_4_0 (l : Launch) (D : va_G) (G : tyG) (h0 : Nat) (z0 : Nat) (z1 : Nat) (z2 : Nat) (z3 : Nat) (z4 : Nat) (z5 : Nat) (z20 : Nat) (z21 : Nat) (z22 : Nat) (z23 : Nat) (z24 : Nat) (z25 : Nat) (z26 : Nat) (z27 : Nat) (z28 : Nat) (z6 : Nat) (z29 : Nat) (z7 : Nat) (z19 : Nat) (z8 : Nat) (z9 : Nat) (z10 : Nat) (z11 : Nat) (z30 : Nat) (z31 : Nat) (z32 : Nat) (z33 : Nat) (z12 : Nat) (z34 : Nat) (z35 : Nat) (z36 : Nat) (z37 : Nat) (z38 : Nat) (z39 : Nat) (z40 : Nat) (z41 : Nat) (z42 : Nat) (z13 : Nat) (z14 : Nat) (z15 : Nat) (z16 : Nat) (z17 : Nat) (z18 : Nat) (z43 : Nat) (sz : Nat) : Met l yX12_passAt wsX12_passAt ({ frames := 1, cells := 0, slots := 0, locals := 23 }) (va_Pc [.ref h0, .int 4, .int 3, .int 0] (wB D G sz [(h0, .inr (12, [.ref z0, .ref z1, .ref z2, .ref z3, .ref z4, .ref z5, .ref z20, .ref z21, .ref z22, .ref z23, .ref z24, .ref z25, .int 0, .ref z26, .ref z27, .ref z28, .int 9, .int 0, .int 0, .ref z6, .ref z29, .ref z7, .int 0, .int 2, .ref z19, .ref z8, .ref z9, .ref z10, .int 0, .ref z11, .int 0, .ref z30, .ref z31, .ref z32, .ref z33, .int 0, .ref z12, .int 0, .int 0, .ref z34, .ref z35, .ref z36, .ref z37, .int 0, .int 0, .int 0, .int 0, .ref z38, .int 0, .ref z39, .ref z40, .ref z41, .ref z42, .int 0, .ref z13, .ref z14, .ref z15, .ref z16, .int 0, .ref z17, .ref z18, .ref z43]))])) (va_Qi (fun (r : Int32) (_ : Unit) => r = (-1)) (fun _ t => wS D G (va_A [(h0, .inr (12, [.ref z0, .ref z1, .ref z2, .ref z3, .ref z4, .ref z5, .ref z20, .ref z21, .ref z22, .ref z23, .ref z24, .ref z25, .int 0, .ref z26, .ref z27, .ref z28, .int 9, .int 0, .int 0, .ref z6, .ref z29, .ref z7, .int 0, .int 2, .ref z19, .ref z8, .ref z9, .ref z10, .int 0, .ref z11, .int 0, .ref z30, .ref z31, .ref z32, .ref z33, .int 0, .ref z12, .int 0, .int 0, .ref z34, .ref z35, .ref z36, .ref z37, .int 0, .int 0, .int 0, .int 0, .ref z38, .int 0, .ref z39, .ref z40, .ref z41, .ref z42, .int 0, .ref z13, .ref z14, .ref z15, .ref z16, .int 0, .ref z17, .ref z18, .ref z43]))] sz) [(h0, .inr (12, [.ref z0, .ref z1, .ref z2, .ref z3, .ref z4, .ref z5, .ref z20, .ref z21, .ref z22, .ref z23, .ref z24, .ref z25, .int 0, .ref z26, .ref z27, .ref z28, .int 9, .int 0, .int 0, .ref z6, .ref z29, .ref z7, .int 0, .int 2, .ref z19, .ref z8, .ref z9, .ref z10, .int 0, .ref z11, .int 0, .ref z30, .ref z31, .ref z32, .ref z33, .int 0, .ref z12, .int 0, .int 0, .ref z34, .ref z35, .ref z36, .ref z37, .int 0, .int 0, .int 0, .int 0, .ref z38, .int 0, .ref z39, .ref z40, .ref z41, .ref z42, .int 0, .ref z13, .ref z14, .ref z15, .ref z16, .int 0, .ref z17, .ref z18, .ref z43]))] t) (va_A [(h0, .inr (12, [.ref z0, .ref z1, .ref z2, .ref z3, .ref z4, .ref z5, .ref z20, .ref z21, .ref z22, .ref z23, .ref z24, .ref z25, .int 0, .ref z26, .ref z27, .ref z28, .int 9, .int 0, .int 0, .ref z6, .ref z29, .ref z7, .int 0, .int 2, .ref z19, .ref z8, .ref z9, .ref z10, .int 0, .ref z11, .int 0, .ref z30, .ref z31, .ref z32, .ref z33, .int 0, .ref z12, .int 0, .int 0, .ref z34, .ref z35, .ref z36, .ref z37, .int 0, .int 0, .int 0, .int 0, .ref z38, .int 0, .ref z39, .ref z40, .ref z41, .ref z42, .int 0, .ref z13, .ref z14, .ref z15, .ref z16, .int 0, .ref z17, .ref z18, .ref z43]))] sz)) 0 0 (va_A [(h0, .inr (12, [.ref z0, .ref z1, .ref z2, .ref z3, .ref z4, .ref z5, .ref z20, .ref z21, .ref z22, .ref z23, .ref z24, .ref z25, .int 0, .ref z26, .ref z27, .ref z28, .int 9, .int 0, .int 0, .ref z6, .ref z29, .ref z7, .int 0, .int 2, .ref z19, .ref z8, .ref z9, .ref z10, .int 0, .ref z11, .int 0, .ref z30, .ref z31, .ref z32, .ref z33, .int 0, .ref z12, .int 0, .int 0, .ref z34, .ref z35, .ref z36, .ref z37, .int 0, .int 0, .int 0, .int 0, .ref z38, .int 0, .ref z39, .ref z40, .ref z41, .ref z42, .int 0, .ref z13, .ref z14, .ref z15, .ref z16, .int 0, .ref z17, .ref z18, .ref z43]))] sz) := by
  refine Met.ofW (cc := cX12_passAt) (maxL := 4) (ret := (some .int)) (by decide) rfl ?_
  intro p e s m args below meth c s₁ B hml hv
  obtain ⟨rfl, hsz, hP, hK, hD0, hN⟩ := hv
  have hx := B.exec
  have hb := B.bytes
  have hr := B.returns
  have hts := atoms_spec (ws := wsX12_passAt) B.pre
  have hown : s.vm.findClass RX12 = some m.cls := findClass_of_methodNamed B.named
  have hlocks := B.notSynchronized
  subst hsz
  have hD := hD0.self (sz := s.heap.size)
  generalize hAe : va_A [(h0, .inr (12, [.ref z0, .ref z1, .ref z2, .ref z3, .ref z4, .ref z5, .ref z20, .ref z21, .ref z22, .ref z23, .ref z24, .ref z25, .int 0, .ref z26, .ref z27, .ref z28, .int 9, .int 0, .int 0, .ref z6, .ref z29, .ref z7, .int 0, .int 2, .ref z19, .ref z8, .ref z9, .ref z10, .int 0, .ref z11, .int 0, .ref z30, .ref z31, .ref z32, .ref z33, .int 0, .ref z12, .int 0, .int 0, .ref z34, .ref z35, .ref z36, .ref z37, .int 0, .int 0, .int 0, .int 0, .ref z38, .int 0, .ref z39, .ref z40, .ref z41, .ref z42, .int 0, .ref z13, .ref z14, .ref z15, .ref z16, .int 0, .ref z17, .ref z18, .ref z43]))] s.heap.size = A at hD ⊢
  have hA : ∀ q : Nat, s.heap.size ≤ q → A q := fun q h => by rw [← hAe]; exact Or.inr h
  have hS : va_S A s.heap s.heap [] := va_S.rf
  have hP : va_P D vwCl [(h0, .inr (12, [.ref z0, .ref z1, .ref z2, .ref z3, .ref z4, .ref z5, .ref z20, .ref z21, .ref z22, .ref z23, .ref z24, .ref z25, .int 0, .ref z26, .ref z27, .ref z28, .int 9, .int 0, .int 0, .ref z6, .ref z29, .ref z7, .int 0, .int 2, .ref z19, .ref z8, .ref z9, .ref z10, .int 0, .ref z11, .int 0, .ref z30, .ref z31, .ref z32, .ref z33, .int 0, .ref z12, .int 0, .int 0, .ref z34, .ref z35, .ref z36, .ref z37, .int 0, .int 0, .int 0, .int 0, .ref z38, .int 0, .ref z39, .ref z40, .ref z41, .ref z42, .int 0, .ref z13, .ref z14, .ref z15, .ref z16, .int 0, .ref z17, .ref z18, .ref z43]))] s.heap := hP
  have hl := lv_entry ([.ref h0, .int 4, .int 3, .int 0]) (n := 4) (Nat.le_of_ble_eq_true rfl)
  rw [lg_entry_eq]
  generalize (lg_sl ([.ref h0, .int 4, .int 3, .int 0]) ++ List.replicate (4 - (lg_sl ([.ref h0, .int 4, .int 3, .int 0])).length) Slot.unset).toArray = ls at hl ⊢
  have hl : lv_has ls 4 [(0, .ref h0), (1, .int 4), (2, .int 3), (3, .int 0)] := hl
  refine lv_iload_n hx hb dX12_passAt_0 rfl (lv_at hl 1 rfl) ?_
  refine lv_aload_n hx hb dX12_passAt_1 rfl (lv_at hl 0 rfl) ?_
  have hPc := hP.sub (ws' := [(h0, .inr (12, [.ref z0, .ref z1, .ref z2, .ref z3, .ref z4, .ref z5, .ref z20, .ref z21, .ref z22, .ref z23, .ref z24, .ref z25, .int 0, .ref z26, .ref z27, .ref z28, .int 9, .int 0, .int 0, .ref z6, .ref z29, .ref z7, .int 0, .int 2, .ref z19, .ref z8, .ref z9, .ref z10, .int 0, .ref z11, .int 0, .ref z30, .ref z31, .ref z32, .ref z33, .int 0, .ref z12, .int 0, .int 0, .ref z34, .ref z35, .ref z36, .ref z37, .int 0, .int 0, .int 0, .int 0, .ref z38, .int 0, .ref z39, .ref z40, .ref z41, .ref z42, .int 0, .ref z13, .ref z14, .ref z15, .ref z16, .int 0, .ref z17, .ref z18, .ref z43]))]) [0] rfl
  have hDc := hD.sub (ws' := [(h0, .inr (12, [.ref z0, .ref z1, .ref z2, .ref z3, .ref z4, .ref z5, .ref z20, .ref z21, .ref z22, .ref z23, .ref z24, .ref z25, .int 0, .ref z26, .ref z27, .ref z28, .int 9, .int 0, .int 0, .ref z6, .ref z29, .ref z7, .int 0, .int 2, .ref z19, .ref z8, .ref z9, .ref z10, .int 0, .ref z11, .int 0, .ref z30, .ref z31, .ref z32, .ref z33, .int 0, .ref z12, .int 0, .int 0, .ref z34, .ref z35, .ref z36, .ref z37, .int 0, .int 0, .int 0, .int 0, .ref z38, .int 0, .ref z39, .ref z40, .ref z41, .ref z42, .int 0, .ref z13, .ref z14, .ref z15, .ref z16, .int 0, .ref z17, .ref z18, .ref z43]))]) [0] (by decide) rfl
  have hFc := va_free (wc := [(h0, .inr (12, [.ref z0, .ref z1, .ref z2, .ref z3, .ref z4, .ref z5, .ref z20, .ref z21, .ref z22, .ref z23, .ref z24, .ref z25, .int 0, .ref z26, .ref z27, .ref z28, .int 9, .int 0, .int 0, .ref z6, .ref z29, .ref z7, .int 0, .int 2, .ref z19, .ref z8, .ref z9, .ref z10, .int 0, .ref z11, .int 0, .ref z30, .ref z31, .ref z32, .ref z33, .int 0, .ref z12, .int 0, .int 0, .ref z34, .ref z35, .ref z36, .ref z37, .int 0, .int 0, .int 0, .int 0, .ref z38, .int 0, .ref z39, .ref z40, .ref z41, .ref z42, .int 0, .ref z13, .ref z14, .ref z15, .ref z16, .int 0, .ref z17, .ref z18, .ref z43]))]) hD hS hA [0] rfl
  refine va_calli (va_runV (As := []) (rest := [.int 4]) ⟨hx, hb, hml, hown, hts⟩ (kX12_gens l D G h0 z0 z1 z2 z3 z4 z5 z20 z21 z22 z23 z24 z25 z26 z27 z28 z6 z29 z7 z19 z8 z9 z10 z11 z30 z31 z32 z33 z12 z34 z35 z36 z37 z38 z39 z40 z41 z42 z13 z14 z15 z16 z17 z18 z43 0 s.heap.size) (cwV 0 hts gX12_passAt_X12_gens rfl rfl rfl (by decide +kernel) ⟨Nat.le_of_ble_eq_true rfl, Nat.le_of_ble_eq_true rfl⟩) ⟨wB_blind, va_recv hK hPc (ci := 12) (q0 := 0) rfl rfl, wB_pre hPc hK hDc hN⟩ rfl rfl hl.1 rfl (lv_room (Nat.le_of_ble_eq_true rfl)) dX12_passAt_2 ⟨Nat.le_of_ble_eq_true rfl, Nat.le_of_ble_eq_true rfl⟩) hS (fun q _ h => hFc q h) hFc (fun r1 u t H1 locs ht hvm hr1 hB hz1 hk1 hS => ?_)
  obtain ⟨hP1, hK1, hD1⟩ := hB
  rw [ht] at hP1
  obtain ⟨hP, hD⟩ := va_join (wr := []) (w1 := [(h0, .inr (12, [.ref z0, .ref z1, .ref z2, .ref z3, .ref z4, .ref z5, .ref z20, .ref z21, .ref z22, .ref z23, .ref z24, .ref z25, .int 0, .ref z26, .ref z27, .ref z28, .int 9, .int 0, .int 0, .ref z6, .ref z29, .ref z7, .int 0, .int 2, .ref z19, .ref z8, .ref z9, .ref z10, .int 0, .ref z11, .int 0, .ref z30, .ref z31, .ref z32, .ref z33, .int 0, .ref z12, .int 0, .int 0, .ref z34, .ref z35, .ref z36, .ref z37, .int 0, .int 0, .int 0, .int 0, .ref z38, .int 0, .ref z39, .ref z40, .ref z41, .ref z42, .int 0, .ref z13, .ref z14, .ref z15, .ref z16, .int 0, .ref z17, .ref z18, .ref z43]))]) hP hD [0] [] rfl rfl (by decide) (by decide) hk1 hFc hP1 hD1
  clear hPc hDc
  generalize H1 = H at hP hS ⊢
  have hP : va_P D vwCl [(h0, .inr (12, [.ref z0, .ref z1, .ref z2, .ref z3, .ref z4, .ref z5, .ref z20, .ref z21, .ref z22, .ref z23, .ref z24, .ref z25, .int 0, .ref z26, .ref z27, .ref z28, .int 9, .int 0, .int 0, .ref z6, .ref z29, .ref z7, .int 0, .int 2, .ref z19, .ref z8, .ref z9, .ref z10, .int 0, .ref z11, .int 0, .ref z30, .ref z31, .ref z32, .ref z33, .int 0, .ref z12, .int 0, .int 0, .ref z34, .ref z35, .ref z36, .ref z37, .int 0, .int 0, .int 0, .int 0, .ref z38, .int 0, .ref z39, .ref z40, .ref z41, .ref z42, .int 0, .ref z13, .ref z14, .ref z15, .ref z16, .int 0, .ref z17, .ref z18, .ref z43]))] H := hP
  have hD : va_D A [(h0, .inr (12, [.ref z0, .ref z1, .ref z2, .ref z3, .ref z4, .ref z5, .ref z20, .ref z21, .ref z22, .ref z23, .ref z24, .ref z25, .int 0, .ref z26, .ref z27, .ref z28, .int 9, .int 0, .int 0, .ref z6, .ref z29, .ref z7, .int 0, .int 2, .ref z19, .ref z8, .ref z9, .ref z10, .int 0, .ref z11, .int 0, .ref z30, .ref z31, .ref z32, .ref z33, .int 0, .ref z12, .int 0, .int 0, .ref z34, .ref z35, .ref z36, .ref z37, .int 0, .int 0, .int 0, .int 0, .ref z38, .int 0, .ref z39, .ref z40, .ref z41, .ref z42, .int 0, .ref z13, .ref z14, .ref z15, .ref z16, .int 0, .ref z17, .ref z18, .ref z43]))] := hD
  subst hr1
  refine lv_iload_n hx hb dX12_passAt_5 rfl (lv_at hl 2 rfl) ?_
  refine lv_iconst (v := 1) hx hb dX12_passAt_6 (by decide) ?_
  refine lv_isub hx hb dX12_passAt_7 ?_
  refine wk_i 2 (by decide) ?_
  refine lv_iload_n hx hb dX12_passAt_8 rfl (lv_at hl 3 rfl) ?_
  refine lv_isub hx hb dX12_passAt_9 ?_
  refine wk_i 2 (by decide) ?_
  have hPc := hP.sub (ws' := []) [] rfl
  have hDc := hD.sub (ws' := []) [] (by decide) rfl
  have hFc := va_free (wc := []) hD hS hA [] rfl
  refine va_calli (va_runS (As := [.int 2, .int 2]) (rest := [.int 4]) ⟨hx, hb, hml, hown, hts⟩ (kX12_power_2 l D G  H.size) (va_cwS 2 hts gX12_passAt_X12_power rfl rfl rfl (by decide +kernel) ⟨Nat.le_of_ble_eq_true rfl, Nat.le_of_ble_eq_true rfl⟩) ⟨wB_blind, wB_pre hPc hK hDc hN⟩ rfl rfl hl.1 rfl (lv_room (Nat.le_of_ble_eq_true rfl)) dX12_passAt_10 ⟨Nat.le_of_ble_eq_true rfl, Nat.le_of_ble_eq_true rfl⟩) hS (fun q _ h => hFc q h) hFc (fun r2 u t H1 locs ht hvm hr2 hB hz1 hk1 hS => ?_)
  obtain ⟨hP, hD⟩ := va_join (wr := [(h0, .inr (12, [.ref z0, .ref z1, .ref z2, .ref z3, .ref z4, .ref z5, .ref z20, .ref z21, .ref z22, .ref z23, .ref z24, .ref z25, .int 0, .ref z26, .ref z27, .ref z28, .int 9, .int 0, .int 0, .ref z6, .ref z29, .ref z7, .int 0, .int 2, .ref z19, .ref z8, .ref z9, .ref z10, .int 0, .ref z11, .int 0, .ref z30, .ref z31, .ref z32, .ref z33, .int 0, .ref z12, .int 0, .int 0, .ref z34, .ref z35, .ref z36, .ref z37, .int 0, .int 0, .int 0, .int 0, .ref z38, .int 0, .ref z39, .ref z40, .ref z41, .ref z42, .int 0, .ref z13, .ref z14, .ref z15, .ref z16, .int 0, .ref z17, .ref z18, .ref z43]))]) (w1 := []) hP hD [] [0] rfl rfl (by decide) (by decide) hk1 hFc wP_nil wD_nil
  clear hPc hDc
  generalize H1 = H at hP hS ⊢
  have hP : va_P D vwCl [(h0, .inr (12, [.ref z0, .ref z1, .ref z2, .ref z3, .ref z4, .ref z5, .ref z20, .ref z21, .ref z22, .ref z23, .ref z24, .ref z25, .int 0, .ref z26, .ref z27, .ref z28, .int 9, .int 0, .int 0, .ref z6, .ref z29, .ref z7, .int 0, .int 2, .ref z19, .ref z8, .ref z9, .ref z10, .int 0, .ref z11, .int 0, .ref z30, .ref z31, .ref z32, .ref z33, .int 0, .ref z12, .int 0, .int 0, .ref z34, .ref z35, .ref z36, .ref z37, .int 0, .int 0, .int 0, .int 0, .ref z38, .int 0, .ref z39, .ref z40, .ref z41, .ref z42, .int 0, .ref z13, .ref z14, .ref z15, .ref z16, .int 0, .ref z17, .ref z18, .ref z43]))] H := hP
  have hD : va_D A [(h0, .inr (12, [.ref z0, .ref z1, .ref z2, .ref z3, .ref z4, .ref z5, .ref z20, .ref z21, .ref z22, .ref z23, .ref z24, .ref z25, .int 0, .ref z26, .ref z27, .ref z28, .int 9, .int 0, .int 0, .ref z6, .ref z29, .ref z7, .int 0, .int 2, .ref z19, .ref z8, .ref z9, .ref z10, .int 0, .ref z11, .int 0, .ref z30, .ref z31, .ref z32, .ref z33, .int 0, .ref z12, .int 0, .int 0, .ref z34, .ref z35, .ref z36, .ref z37, .int 0, .int 0, .int 0, .int 0, .ref z38, .int 0, .ref z39, .ref z40, .ref z41, .ref z42, .int 0, .ref z13, .ref z14, .ref z15, .ref z16, .int 0, .ref z17, .ref z18, .ref z43]))] := hD
  subst hr2
  refine lv_idiv hx hb dX12_passAt_13 (by decide) ?_
  refine wk_i 1 (by decide) ?_
  refine lv_aload_n hx hb dX12_passAt_14 rfl (lv_at hl 0 rfl) ?_
  have hPc := hP.sub (ws' := [(h0, .inr (12, [.ref z0, .ref z1, .ref z2, .ref z3, .ref z4, .ref z5, .ref z20, .ref z21, .ref z22, .ref z23, .ref z24, .ref z25, .int 0, .ref z26, .ref z27, .ref z28, .int 9, .int 0, .int 0, .ref z6, .ref z29, .ref z7, .int 0, .int 2, .ref z19, .ref z8, .ref z9, .ref z10, .int 0, .ref z11, .int 0, .ref z30, .ref z31, .ref z32, .ref z33, .int 0, .ref z12, .int 0, .int 0, .ref z34, .ref z35, .ref z36, .ref z37, .int 0, .int 0, .int 0, .int 0, .ref z38, .int 0, .ref z39, .ref z40, .ref z41, .ref z42, .int 0, .ref z13, .ref z14, .ref z15, .ref z16, .int 0, .ref z17, .ref z18, .ref z43]))]) [0] rfl
  have hDc := hD.sub (ws' := [(h0, .inr (12, [.ref z0, .ref z1, .ref z2, .ref z3, .ref z4, .ref z5, .ref z20, .ref z21, .ref z22, .ref z23, .ref z24, .ref z25, .int 0, .ref z26, .ref z27, .ref z28, .int 9, .int 0, .int 0, .ref z6, .ref z29, .ref z7, .int 0, .int 2, .ref z19, .ref z8, .ref z9, .ref z10, .int 0, .ref z11, .int 0, .ref z30, .ref z31, .ref z32, .ref z33, .int 0, .ref z12, .int 0, .int 0, .ref z34, .ref z35, .ref z36, .ref z37, .int 0, .int 0, .int 0, .int 0, .ref z38, .int 0, .ref z39, .ref z40, .ref z41, .ref z42, .int 0, .ref z13, .ref z14, .ref z15, .ref z16, .int 0, .ref z17, .ref z18, .ref z43]))]) [0] (by decide) rfl
  have hFc := va_free (wc := [(h0, .inr (12, [.ref z0, .ref z1, .ref z2, .ref z3, .ref z4, .ref z5, .ref z20, .ref z21, .ref z22, .ref z23, .ref z24, .ref z25, .int 0, .ref z26, .ref z27, .ref z28, .int 9, .int 0, .int 0, .ref z6, .ref z29, .ref z7, .int 0, .int 2, .ref z19, .ref z8, .ref z9, .ref z10, .int 0, .ref z11, .int 0, .ref z30, .ref z31, .ref z32, .ref z33, .int 0, .ref z12, .int 0, .int 0, .ref z34, .ref z35, .ref z36, .ref z37, .int 0, .int 0, .int 0, .int 0, .ref z38, .int 0, .ref z39, .ref z40, .ref z41, .ref z42, .int 0, .ref z13, .ref z14, .ref z15, .ref z16, .int 0, .ref z17, .ref z18, .ref z43]))]) hD hS hA [0] rfl
  refine va_calli (va_runV (As := []) (rest := [.int 1]) ⟨hx, hb, hml, hown, hts⟩ (kX12_gens l D G h0 z0 z1 z2 z3 z4 z5 z20 z21 z22 z23 z24 z25 z26 z27 z28 z6 z29 z7 z19 z8 z9 z10 z11 z30 z31 z32 z33 z12 z34 z35 z36 z37 z38 z39 z40 z41 z42 z13 z14 z15 z16 z17 z18 z43 0 H.size) (cwV 0 hts gX12_passAt_X12_gens rfl rfl rfl (by decide +kernel) ⟨Nat.le_of_ble_eq_true rfl, Nat.le_of_ble_eq_true rfl⟩) ⟨wB_blind, va_recv hK hPc (ci := 12) (q0 := 0) rfl rfl, wB_pre hPc hK hDc hN⟩ rfl rfl hl.1 rfl (lv_room (Nat.le_of_ble_eq_true rfl)) dX12_passAt_15 ⟨Nat.le_of_ble_eq_true rfl, Nat.le_of_ble_eq_true rfl⟩) hS (fun q _ h => hFc q h) hFc (fun r3 u t H1 locs ht hvm hr3 hB hz1 hk1 hS => ?_)
  obtain ⟨hP1, hK1, hD1⟩ := hB
  rw [ht] at hP1
  obtain ⟨hP, hD⟩ := va_join (wr := []) (w1 := [(h0, .inr (12, [.ref z0, .ref z1, .ref z2, .ref z3, .ref z4, .ref z5, .ref z20, .ref z21, .ref z22, .ref z23, .ref z24, .ref z25, .int 0, .ref z26, .ref z27, .ref z28, .int 9, .int 0, .int 0, .ref z6, .ref z29, .ref z7, .int 0, .int 2, .ref z19, .ref z8, .ref z9, .ref z10, .int 0, .ref z11, .int 0, .ref z30, .ref z31, .ref z32, .ref z33, .int 0, .ref z12, .int 0, .int 0, .ref z34, .ref z35, .ref z36, .ref z37, .int 0, .int 0, .int 0, .int 0, .ref z38, .int 0, .ref z39, .ref z40, .ref z41, .ref z42, .int 0, .ref z13, .ref z14, .ref z15, .ref z16, .int 0, .ref z17, .ref z18, .ref z43]))]) hP hD [0] [] rfl rfl (by decide) (by decide) hk1 hFc hP1 hD1
  clear hPc hDc
  generalize H1 = H at hP hS ⊢
  have hP : va_P D vwCl [(h0, .inr (12, [.ref z0, .ref z1, .ref z2, .ref z3, .ref z4, .ref z5, .ref z20, .ref z21, .ref z22, .ref z23, .ref z24, .ref z25, .int 0, .ref z26, .ref z27, .ref z28, .int 9, .int 0, .int 0, .ref z6, .ref z29, .ref z7, .int 0, .int 2, .ref z19, .ref z8, .ref z9, .ref z10, .int 0, .ref z11, .int 0, .ref z30, .ref z31, .ref z32, .ref z33, .int 0, .ref z12, .int 0, .int 0, .ref z34, .ref z35, .ref z36, .ref z37, .int 0, .int 0, .int 0, .int 0, .ref z38, .int 0, .ref z39, .ref z40, .ref z41, .ref z42, .int 0, .ref z13, .ref z14, .ref z15, .ref z16, .int 0, .ref z17, .ref z18, .ref z43]))] H := hP
  have hD : va_D A [(h0, .inr (12, [.ref z0, .ref z1, .ref z2, .ref z3, .ref z4, .ref z5, .ref z20, .ref z21, .ref z22, .ref z23, .ref z24, .ref z25, .int 0, .ref z26, .ref z27, .ref z28, .int 9, .int 0, .int 0, .ref z6, .ref z29, .ref z7, .int 0, .int 2, .ref z19, .ref z8, .ref z9, .ref z10, .int 0, .ref z11, .int 0, .ref z30, .ref z31, .ref z32, .ref z33, .int 0, .ref z12, .int 0, .int 0, .ref z34, .ref z35, .ref z36, .ref z37, .int 0, .int 0, .int 0, .int 0, .ref z38, .int 0, .ref z39, .ref z40, .ref z41, .ref z42, .int 0, .ref z13, .ref z14, .ref z15, .ref z16, .int 0, .ref z17, .ref z18, .ref z43]))] := hD
  subst hr3
  refine lv_irem hx hb dX12_passAt_18 (by decide) ?_
  refine wk_i 1 (by decide) ?_
  have hPc := hP.sub (ws' := []) [] rfl
  have hDc := hD.sub (ws' := []) [] (by decide) rfl
  have hFc := va_free (wc := []) hD hS hA [] rfl
  refine va_calli (va_runS (As := [.int 1]) (rest := []) ⟨hx, hb, hml, hown, hts⟩ (kX12_passOf_1 l D G  H.size) (va_cwS 1 hts gX12_passAt_X12_passOf rfl rfl rfl (by decide +kernel) ⟨Nat.le_of_ble_eq_true rfl, Nat.le_of_ble_eq_true rfl⟩) ⟨wB_blind, wB_pre hPc hK hDc hN⟩ rfl rfl hl.1 rfl (lv_room (Nat.le_of_ble_eq_true rfl)) dX12_passAt_19 ⟨Nat.le_of_ble_eq_true rfl, Nat.le_of_ble_eq_true rfl⟩) hS (fun q _ h => hFc q h) hFc (fun r4 u t H1 locs ht hvm hr4 hB hz1 hk1 hS => ?_)
  obtain ⟨hP, hD⟩ := va_join (wr := [(h0, .inr (12, [.ref z0, .ref z1, .ref z2, .ref z3, .ref z4, .ref z5, .ref z20, .ref z21, .ref z22, .ref z23, .ref z24, .ref z25, .int 0, .ref z26, .ref z27, .ref z28, .int 9, .int 0, .int 0, .ref z6, .ref z29, .ref z7, .int 0, .int 2, .ref z19, .ref z8, .ref z9, .ref z10, .int 0, .ref z11, .int 0, .ref z30, .ref z31, .ref z32, .ref z33, .int 0, .ref z12, .int 0, .int 0, .ref z34, .ref z35, .ref z36, .ref z37, .int 0, .int 0, .int 0, .int 0, .ref z38, .int 0, .ref z39, .ref z40, .ref z41, .ref z42, .int 0, .ref z13, .ref z14, .ref z15, .ref z16, .int 0, .ref z17, .ref z18, .ref z43]))]) (w1 := []) hP hD [] [0] rfl rfl (by decide) (by decide) hk1 hFc wP_nil wD_nil
  clear hPc hDc
  generalize H1 = H at hP hS ⊢
  have hP : va_P D vwCl [(h0, .inr (12, [.ref z0, .ref z1, .ref z2, .ref z3, .ref z4, .ref z5, .ref z20, .ref z21, .ref z22, .ref z23, .ref z24, .ref z25, .int 0, .ref z26, .ref z27, .ref z28, .int 9, .int 0, .int 0, .ref z6, .ref z29, .ref z7, .int 0, .int 2, .ref z19, .ref z8, .ref z9, .ref z10, .int 0, .ref z11, .int 0, .ref z30, .ref z31, .ref z32, .ref z33, .int 0, .ref z12, .int 0, .int 0, .ref z34, .ref z35, .ref z36, .ref z37, .int 0, .int 0, .int 0, .int 0, .ref z38, .int 0, .ref z39, .ref z40, .ref z41, .ref z42, .int 0, .ref z13, .ref z14, .ref z15, .ref z16, .int 0, .ref z17, .ref z18, .ref z43]))] H := hP
  have hD : va_D A [(h0, .inr (12, [.ref z0, .ref z1, .ref z2, .ref z3, .ref z4, .ref z5, .ref z20, .ref z21, .ref z22, .ref z23, .ref z24, .ref z25, .int 0, .ref z26, .ref z27, .ref z28, .int 9, .int 0, .int 0, .ref z6, .ref z29, .ref z7, .int 0, .int 2, .ref z19, .ref z8, .ref z9, .ref z10, .int 0, .ref z11, .int 0, .ref z30, .ref z31, .ref z32, .ref z33, .int 0, .ref z12, .int 0, .int 0, .ref z34, .ref z35, .ref z36, .ref z37, .int 0, .int 0, .int 0, .int 0, .ref z38, .int 0, .ref z39, .ref z40, .ref z41, .ref z42, .int 0, .ref z13, .ref z14, .ref z15, .ref z16, .int 0, .ref z17, .ref z18, .ref z43]))] := hD
  subst hr4
  have hP9 := hP.sub (ws' := [(h0, .inr (12, [.ref z0, .ref z1, .ref z2, .ref z3, .ref z4, .ref z5, .ref z20, .ref z21, .ref z22, .ref z23, .ref z24, .ref z25, .int 0, .ref z26, .ref z27, .ref z28, .int 9, .int 0, .int 0, .ref z6, .ref z29, .ref z7, .int 0, .int 2, .ref z19, .ref z8, .ref z9, .ref z10, .int 0, .ref z11, .int 0, .ref z30, .ref z31, .ref z32, .ref z33, .int 0, .ref z12, .int 0, .int 0, .ref z34, .ref z35, .ref z36, .ref z37, .int 0, .int 0, .int 0, .int 0, .ref z38, .int 0, .ref z39, .ref z40, .ref z41, .ref z42, .int 0, .ref z13, .ref z14, .ref z15, .ref z16, .int 0, .ref z17, .ref z18, .ref z43]))]) [0] rfl
  have hD9 := hD.sub (ws' := [(h0, .inr (12, [.ref z0, .ref z1, .ref z2, .ref z3, .ref z4, .ref z5, .ref z20, .ref z21, .ref z22, .ref z23, .ref z24, .ref z25, .int 0, .ref z26, .ref z27, .ref z28, .int 9, .int 0, .int 0, .ref z6, .ref z29, .ref z7, .int 0, .int 2, .ref z19, .ref z8, .ref z9, .ref z10, .int 0, .ref z11, .int 0, .ref z30, .ref z31, .ref z32, .ref z33, .int 0, .ref z12, .int 0, .int 0, .ref z34, .ref z35, .ref z36, .ref z37, .int 0, .int 0, .int 0, .int 0, .ref z38, .int 0, .ref z39, .ref z40, .ref z41, .ref z42, .int 0, .ref z13, .ref z14, .ref z15, .ref z16, .int 0, .ref z17, .ref z18, .ref z43]))]) [0] (by decide) rfl
  exact W.iret (v := (-1)) hx hb hr (fun t ht hW => ⟨⟨(-1), (), rfl, rfl, ⟨by rw [ht]; exact hP9, va_K.moved hW.alike hK, hD9⟩⟩, hS.F ht⟩) hS.2.2 dX12_passAt_22

set_option maxHeartbeats 4000000 in
set_option maxRecDepth 100000 in
/-- X12_passAt -/
theorem kX12_passAt_3_4_1 (l : Launch) (D : va_G) (G : tyG) (h0 : Nat) (z0 : Nat) (z1 : Nat) (z2 : Nat) (z3 : Nat) (z4 : Nat) (z5 : Nat) (z20 : Nat) (z21 : Nat) (z22 : Nat) (z23 : Nat) (z24 : Nat) (z25 : Nat) (z26 : Nat) (z27 : Nat) (z28 : Nat) (z6 : Nat) (z29 : Nat) (z7 : Nat) (z19 : Nat) (z8 : Nat) (z9 : Nat) (z10 : Nat) (z11 : Nat) (z30 : Nat) (z31 : Nat) (z32 : Nat) (z33 : Nat) (z12 : Nat) (z34 : Nat) (z35 : Nat) (z36 : Nat) (z37 : Nat) (z38 : Nat) (z39 : Nat) (z40 : Nat) (z41 : Nat) (z42 : Nat) (z13 : Nat) (z14 : Nat) (z15 : Nat) (z16 : Nat) (z17 : Nat) (z18 : Nat) (z43 : Nat) (sz : Nat) : Met l yX12_passAt wsX12_passAt ({ frames := 1, cells := 0, slots := 0, locals := 23 }) (va_Pc [.ref h0, .int 4, .int 3, .int 1] (wB D G sz [(h0, .inr (12, [.ref z0, .ref z1, .ref z2, .ref z3, .ref z4, .ref z5, .ref z20, .ref z21, .ref z22, .ref z23, .ref z24, .ref z25, .int 0, .ref z26, .ref z27, .ref z28, .int 9, .int 0, .int 0, .ref z6, .ref z29, .ref z7, .int 0, .int 2, .ref z19, .ref z8, .ref z9, .ref z10, .int 0, .ref z11, .int 0, .ref z30, .ref z31, .ref z32, .ref z33, .int 0, .ref z12, .int 0, .int 0, .ref z34, .ref z35, .ref z36, .ref z37, .int 0, .int 0, .int 0, .int 0, .ref z38, .int 0, .ref z39, .ref z40, .ref z41, .ref z42, .int 0, .ref z13, .ref z14, .ref z15, .ref z16, .int 0, .ref z17, .ref z18, .ref z43]))])) (va_Qi (fun (r : Int32) (_ : Unit) => r = 1) (fun _ t => wS D G (va_A [(h0, .inr (12, [.ref z0, .ref z1, .ref z2, .ref z3, .ref z4, .ref z5, .ref z20, .ref z21, .ref z22, .ref z23, .ref z24, .ref z25, .int 0, .ref z26, .ref z27, .ref z28, .int 9, .int 0, .int 0, .ref z6, .ref z29, .ref z7, .int 0, .int 2, .ref z19, .ref z8, .ref z9, .ref z10, .int 0, .ref z11, .int 0, .ref z30, .ref z31, .ref z32, .ref z33, .int 0, .ref z12, .int 0, .int 0, .ref z34, .ref z35, .ref z36, .ref z37, .int 0, .int 0, .int 0, .int 0, .ref z38, .int 0, .ref z39, .ref z40, .ref z41, .ref z42, .int 0, .ref z13, .ref z14, .ref z15, .ref z16, .int 0, .ref z17, .ref z18, .ref z43]))] sz) [(h0, .inr (12, [.ref z0, .ref z1, .ref z2, .ref z3, .ref z4, .ref z5, .ref z20, .ref z21, .ref z22, .ref z23, .ref z24, .ref z25, .int 0, .ref z26, .ref z27, .ref z28, .int 9, .int 0, .int 0, .ref z6, .ref z29, .ref z7, .int 0, .int 2, .ref z19, .ref z8, .ref z9, .ref z10, .int 0, .ref z11, .int 0, .ref z30, .ref z31, .ref z32, .ref z33, .int 0, .ref z12, .int 0, .int 0, .ref z34, .ref z35, .ref z36, .ref z37, .int 0, .int 0, .int 0, .int 0, .ref z38, .int 0, .ref z39, .ref z40, .ref z41, .ref z42, .int 0, .ref z13, .ref z14, .ref z15, .ref z16, .int 0, .ref z17, .ref z18, .ref z43]))] t) (va_A [(h0, .inr (12, [.ref z0, .ref z1, .ref z2, .ref z3, .ref z4, .ref z5, .ref z20, .ref z21, .ref z22, .ref z23, .ref z24, .ref z25, .int 0, .ref z26, .ref z27, .ref z28, .int 9, .int 0, .int 0, .ref z6, .ref z29, .ref z7, .int 0, .int 2, .ref z19, .ref z8, .ref z9, .ref z10, .int 0, .ref z11, .int 0, .ref z30, .ref z31, .ref z32, .ref z33, .int 0, .ref z12, .int 0, .int 0, .ref z34, .ref z35, .ref z36, .ref z37, .int 0, .int 0, .int 0, .int 0, .ref z38, .int 0, .ref z39, .ref z40, .ref z41, .ref z42, .int 0, .ref z13, .ref z14, .ref z15, .ref z16, .int 0, .ref z17, .ref z18, .ref z43]))] sz)) 0 0 (va_A [(h0, .inr (12, [.ref z0, .ref z1, .ref z2, .ref z3, .ref z4, .ref z5, .ref z20, .ref z21, .ref z22, .ref z23, .ref z24, .ref z25, .int 0, .ref z26, .ref z27, .ref z28, .int 9, .int 0, .int 0, .ref z6, .ref z29, .ref z7, .int 0, .int 2, .ref z19, .ref z8, .ref z9, .ref z10, .int 0, .ref z11, .int 0, .ref z30, .ref z31, .ref z32, .ref z33, .int 0, .ref z12, .int 0, .int 0, .ref z34, .ref z35, .ref z36, .ref z37, .int 0, .int 0, .int 0, .int 0, .ref z38, .int 0, .ref z39, .ref z40, .ref z41, .ref z42, .int 0, .ref z13, .ref z14, .ref z15, .ref z16, .int 0, .ref z17, .ref z18, .ref z43]))] sz) := by
  refine Met.ofW (cc := cX12_passAt) (maxL := 4) (ret := (some .int)) (by decide) rfl ?_
  intro p e s m args below meth c s₁ B hml hv
  obtain ⟨rfl, hsz, hP, hK, hD0, hN⟩ := hv
  have hx := B.exec
  have hb := B.bytes
  have hr := B.returns
  have hts := atoms_spec (ws := wsX12_passAt) B.pre
  have hown : s.vm.findClass RX12 = some m.cls := findClass_of_methodNamed B.named
  have hlocks := B.notSynchronized
  subst hsz
  have hD := hD0.self (sz := s.heap.size)
  generalize hAe : va_A [(h0, .inr (12, [.ref z0, .ref z1, .ref z2, .ref z3, .ref z4, .ref z5, .ref z20, .ref z21, .ref z22, .ref z23, .ref z24, .ref z25, .int 0, .ref z26, .ref z27, .ref z28, .int 9, .int 0, .int 0, .ref z6, .ref z29, .ref z7, .int 0, .int 2, .ref z19, .ref z8, .ref z9, .ref z10, .int 0, .ref z11, .int 0, .ref z30, .ref z31, .ref z32, .ref z33, .int 0, .ref z12, .int 0, .int 0, .ref z34, .ref z35, .ref z36, .ref z37, .int 0, .int 0, .int 0, .int 0, .ref z38, .int 0, .ref z39, .ref z40, .ref z41, .ref z42, .int 0, .ref z13, .ref z14, .ref z15, .ref z16, .int 0, .ref z17, .ref z18, .ref z43]))] s.heap.size = A at hD ⊢
  have hA : ∀ q : Nat, s.heap.size ≤ q → A q := fun q h => by rw [← hAe]; exact Or.inr h
  have hS : va_S A s.heap s.heap [] := va_S.rf
  have hP : va_P D vwCl [(h0, .inr (12, [.ref z0, .ref z1, .ref z2, .ref z3, .ref z4, .ref z5, .ref z20, .ref z21, .ref z22, .ref z23, .ref z24, .ref z25, .int 0, .ref z26, .ref z27, .ref z28, .int 9, .int 0, .int 0, .ref z6, .ref z29, .ref z7, .int 0, .int 2, .ref z19, .ref z8, .ref z9, .ref z10, .int 0, .ref z11, .int 0, .ref z30, .ref z31, .ref z32, .ref z33, .int 0, .ref z12, .int 0, .int 0, .ref z34, .ref z35, .ref z36, .ref z37, .int 0, .int 0, .int 0, .int 0, .ref z38, .int 0, .ref z39, .ref z40, .ref z41, .ref z42, .int 0, .ref z13, .ref z14, .ref z15, .ref z16, .int 0, .ref z17, .ref z18, .ref z43]))] s.heap := hP
  have hl := lv_entry ([.ref h0, .int 4, .int 3, .int 1]) (n := 4) (Nat.le_of_ble_eq_true rfl)
  rw [lg_entry_eq]
  generalize (lg_sl ([.ref h0, .int 4, .int 3, .int 1]) ++ List.replicate (4 - (lg_sl ([.ref h0, .int 4, .int 3, .int 1])).length) Slot.unset).toArray = ls at hl ⊢
  have hl : lv_has ls 4 [(0, .ref h0), (1, .int 4), (2, .int 3), (3, .int 1)] := hl
  refine lv_iload_n hx hb dX12_passAt_0 rfl (lv_at hl 1 rfl) ?_
  refine lv_aload_n hx hb dX12_passAt_1 rfl (lv_at hl 0 rfl) ?_
  have hPc := hP.sub (ws' := [(h0, .inr (12, [.ref z0, .ref z1, .ref z2, .ref z3, .ref z4, .ref z5, .ref z20, .ref z21, .ref z22, .ref z23, .ref z24, .ref z25, .int 0, .ref z26, .ref z27, .ref z28, .int 9, .int 0, .int 0, .ref z6, .ref z29, .ref z7, .int 0, .int 2, .ref z19, .ref z8, .ref z9, .ref z10, .int 0, .ref z11, .int 0, .ref z30, .ref z31, .ref z32, .ref z33, .int 0, .ref z12, .int 0, .int 0, .ref z34, .ref z35, .ref z36, .ref z37, .int 0, .int 0, .int 0, .int 0, .ref z38, .int 0, .ref z39, .ref z40, .ref z41, .ref z42, .int 0, .ref z13, .ref z14, .ref z15, .ref z16, .int 0, .ref z17, .ref z18, .ref z43]))]) [0] rfl
  have hDc := hD.sub (ws' := [(h0, .inr (12, [.ref z0, .ref z1, .ref z2, .ref z3, .ref z4, .ref z5, .ref z20, .ref z21, .ref z22, .ref z23, .ref z24, .ref z25, .int 0, .ref z26, .ref z27, .ref z28, .int 9, .int 0, .int 0, .ref z6, .ref z29, .ref z7, .int 0, .int 2, .ref z19, .ref z8, .ref z9, .ref z10, .int 0, .ref z11, .int 0, .ref z30, .ref z31, .ref z32, .ref z33, .int 0, .ref z12, .int 0, .int 0, .ref z34, .ref z35, .ref z36, .ref z37, .int 0, .int 0, .int 0, .int 0, .ref z38, .int 0, .ref z39, .ref z40, .ref z41, .ref z42, .int 0, .ref z13, .ref z14, .ref z15, .ref z16, .int 0, .ref z17, .ref z18, .ref z43]))]) [0] (by decide) rfl
  have hFc := va_free (wc := [(h0, .inr (12, [.ref z0, .ref z1, .ref z2, .ref z3, .ref z4, .ref z5, .ref z20, .ref z21, .ref z22, .ref z23, .ref z24, .ref z25, .int 0, .ref z26, .ref z27, .ref z28, .int 9, .int 0, .int 0, .ref z6, .ref z29, .ref z7, .int 0, .int 2, .ref z19, .ref z8, .ref z9, .ref z10, .int 0, .ref z11, .int 0, .ref z30, .ref z31, .ref z32, .ref z33, .int 0, .ref z12, .int 0, .int 0, .ref z34, .ref z35, .ref z36, .ref z37, .int 0, .int 0, .int 0, .int 0, .ref z38, .int 0, .ref z39, .ref z40, .ref z41, .ref z42, .int 0, .ref z13, .ref z14, .ref z15, .ref z16, .int 0, .ref z17, .ref z18, .ref z43]))]) hD hS hA [0] rfl
  refine va_calli (va_runV (As := []) (rest := [.int 4]) ⟨hx, hb, hml, hown, hts⟩ (kX12_gens l D G h0 z0 z1 z2 z3 z4 z5 z20 z21 z22 z23 z24 z25 z26 z27 z28 z6 z29 z7 z19 z8 z9 z10 z11 z30 z31 z32 z33 z12 z34 z35 z36 z37 z38 z39 z40 z41 z42 z13 z14 z15 z16 z17 z18 z43 0 s.heap.size) (cwV 0 hts gX12_passAt_X12_gens rfl rfl rfl (by decide +kernel) ⟨Nat.le_of_ble_eq_true rfl, Nat.le_of_ble_eq_true rfl⟩) ⟨wB_blind, va_recv hK hPc (ci := 12) (q0 := 0) rfl rfl, wB_pre hPc hK hDc hN⟩ rfl rfl hl.1 rfl (lv_room (Nat.le_of_ble_eq_true rfl)) dX12_passAt_2 ⟨Nat.le_of_ble_eq_true rfl, Nat.le_of_ble_eq_true rfl⟩) hS (fun q _ h => hFc q h) hFc (fun r1 u t H1 locs ht hvm hr1 hB hz1 hk1 hS => ?_)
  obtain ⟨hP1, hK1, hD1⟩ := hB
  rw [ht] at hP1
  obtain ⟨hP, hD⟩ := va_join (wr := []) (w1 := [(h0, .inr (12, [.ref z0, .ref z1, .ref z2, .ref z3, .ref z4, .ref z5, .ref z20, .ref z21, .ref z22, .ref z23, .ref z24, .ref z25, .int 0, .ref z26, .ref z27, .ref z28, .int 9, .int 0, .int 0, .ref z6, .ref z29, .ref z7, .int 0, .int 2, .ref z19, .ref z8, .ref z9, .ref z10, .int 0, .ref z11, .int 0, .ref z30, .ref z31, .ref z32, .ref z33, .int 0, .ref z12, .int 0, .int 0, .ref z34, .ref z35, .ref z36, .ref z37, .int 0, .int 0, .int 0, .int 0, .ref z38, .int 0, .ref z39, .ref z40, .ref z41, .ref z42, .int 0, .ref z13, .ref z14, .ref z15, .ref z16, .int 0, .ref z17, .ref z18, .ref z43]))]) hP hD [0] [] rfl rfl (by decide) (by decide) hk1 hFc hP1 hD1
  clear hPc hDc
  generalize H1 = H at hP hS ⊢
  have hP : va_P D vwCl [(h0, .inr (12, [.ref z0, .ref z1, .ref z2, .ref z3, .ref z4, .ref z5, .ref z20, .ref z21, .ref z22, .ref z23, .ref z24, .ref z25, .int 0, .ref z26, .ref z27, .ref z28, .int 9, .int 0, .int 0, .ref z6, .ref z29, .ref z7, .int 0, .int 2, .ref z19, .ref z8, .ref z9, .ref z10, .int 0, .ref z11, .int 0, .ref z30, .ref z31, .ref z32, .ref z33, .int 0, .ref z12, .int 0, .int 0, .ref z34, .ref z35, .ref z36, .ref z37, .int 0, .int 0, .int 0, .int 0, .ref z38, .int 0, .ref z39, .ref z40, .ref z41, .ref z42, .int 0, .ref z13, .ref z14, .ref z15, .ref z16, .int 0, .ref z17, .ref z18, .ref z43]))] H := hP
  have hD : va_D A [(h0, .inr (12, [.ref z0, .ref z1, .ref z2, .ref z3, .ref z4, .ref z5, .ref z20, .ref z21, .ref z22, .ref z23, .ref z24, .ref z25, .int 0, .ref z26, .ref z27, .ref z28, .int 9, .int 0, .int 0, .ref z6, .ref z29, .ref z7, .int 0, .int 2, .ref z19, .ref z8, .ref z9, .ref z10, .int 0, .ref z11, .int 0, .ref z30, .ref z31, .ref z32, .ref z33, .int 0, .ref z12, .int 0, .int 0, .ref z34, .ref z35, .ref z36, .ref z37, .int 0, .int 0, .int 0, .int 0, .ref z38, .int 0, .ref z39, .ref z40, .ref z41, .ref z42, .int 0, .ref z13, .ref z14, .ref z15, .ref z16, .int 0, .ref z17, .ref z18, .ref z43]))] := hD
  subst hr1
  refine lv_iload_n hx hb dX12_passAt_5 rfl (lv_at hl 2 rfl) ?_
  refine lv_iconst (v := 1) hx hb dX12_passAt_6 (by decide) ?_
  refine lv_isub hx hb dX12_passAt_7 ?_
  refine wk_i 2 (by decide) ?_
  refine lv_iload_n hx hb dX12_passAt_8 rfl (lv_at hl 3 rfl) ?_
  refine lv_isub hx hb dX12_passAt_9 ?_
  refine wk_i 1 (by decide) ?_
  have hPc := hP.sub (ws' := []) [] rfl
  have hDc := hD.sub (ws' := []) [] (by decide) rfl
  have hFc := va_free (wc := []) hD hS hA [] rfl
  refine va_calli (va_runS (As := [.int 2, .int 1]) (rest := [.int 4]) ⟨hx, hb, hml, hown, hts⟩ (kX12_power_1 l D G  H.size) (va_cwS 2 hts gX12_passAt_X12_power rfl rfl rfl (by decide +kernel) ⟨Nat.le_of_ble_eq_true rfl, Nat.le_of_ble_eq_true rfl⟩) ⟨wB_blind, wB_pre hPc hK hDc hN⟩ rfl rfl hl.1 rfl (lv_room (Nat.le_of_ble_eq_true rfl)) dX12_passAt_10 ⟨Nat.le_of_ble_eq_true rfl, Nat.le_of_ble_eq_true rfl⟩) hS (fun q _ h => hFc q h) hFc (fun r2 u t H1 locs ht hvm hr2 hB hz1 hk1 hS => ?_)
  obtain ⟨hP, hD⟩ := va_join (wr := [(h0, .inr (12, [.ref z0, .ref z1, .ref z2, .ref z3, .ref z4, .ref z5, .ref z20, .ref z21, .ref z22, .ref z23, .ref z24, .ref z25, .int 0, .ref z26, .ref z27, .ref z28, .int 9, .int 0, .int 0, .ref z6, .ref z29, .ref z7, .int 0, .int 2, .ref z19, .ref z8, .ref z9, .ref z10, .int 0, .ref z11, .int 0, .ref z30, .ref z31, .ref z32, .ref z33, .int 0, .ref z12, .int 0, .int 0, .ref z34, .ref z35, .ref z36, .ref z37, .int 0, .int 0, .int 0, .int 0, .ref z38, .int 0, .ref z39, .ref z40, .ref z41, .ref z42, .int 0, .ref z13, .ref z14, .ref z15, .ref z16, .int 0, .ref z17, .ref z18, .ref z43]))]) (w1 := []) hP hD [] [0] rfl rfl (by decide) (by decide) hk1 hFc wP_nil wD_nil
  clear hPc hDc
  generalize H1 = H at hP hS ⊢
  have hP : va_P D vwCl [(h0, .inr (12, [.ref z0, .ref z1, .ref z2, .ref z3, .ref z4, .ref z5, .ref z20, .ref z21, .ref z22, .ref z23, .ref z24, .ref z25, .int 0, .ref z26, .ref z27, .ref z28, .int 9, .int 0, .int 0, .ref z6, .ref z29, .ref z7, .int 0, .int 2, .ref z19, .ref z8, .ref z9, .ref z10, .int 0, .ref z11, .int 0, .ref z30, .ref z31, .ref z32, .ref z33, .int 0, .ref z12, .int 0, .int 0, .ref z34, .ref z35, .ref z36, .ref z37, .int 0, .int 0, .int 0, .int 0, .ref z38, .int 0, .ref z39, .ref z40, .ref z41, .ref z42, .int 0, .ref z13, .ref z14, .ref z15, .ref z16, .int 0, .ref z17, .ref z18, .ref z43]))] H := hP
  have hD : va_D A [(h0, .inr (12, [.ref z0, .ref z1, .ref z2, .ref z3, .ref z4, .ref z5, .ref z20, .ref z21, .ref z22, .ref z23, .ref z24, .ref z25, .int 0, .ref z26, .ref z27, .ref z28, .int 9, .int 0, .int 0, .ref z6, .ref z29, .ref z7, .int 0, .int 2, .ref z19, .ref z8, .ref z9, .ref z10, .int 0, .ref z11, .int 0, .ref z30, .ref z31, .ref z32, .ref z33, .int 0, .ref z12, .int 0, .int 0, .ref z34, .ref z35, .ref z36, .ref z37, .int 0, .int 0, .int 0, .int 0, .ref z38, .int 0, .ref z39, .ref z40, .ref z41, .ref z42, .int 0, .ref z13, .ref z14, .ref z15, .ref z16, .int 0, .ref z17, .ref z18, .ref z43]))] := hD
  subst hr2
  refine lv_idiv hx hb dX12_passAt_13 (by decide) ?_
  refine wk_i 2 (by decide) ?_
  refine lv_aload_n hx hb dX12_passAt_14 rfl (lv_at hl 0 rfl) ?_
  have hPc := hP.sub (ws' := [(h0, .inr (12, [.ref z0, .ref z1, .ref z2, .ref z3, .ref z4, .ref z5, .ref z20, .ref z21, .ref z22, .ref z23, .ref z24, .ref z25, .int 0, .ref z26, .ref z27, .ref z28, .int 9, .int 0, .int 0, .ref z6, .ref z29, .ref z7, .int 0, .int 2, .ref z19, .ref z8, .ref z9, .ref z10, .int 0, .ref z11, .int 0, .ref z30, .ref z31, .ref z32, .ref z33, .int 0, .ref z12, .int 0, .int 0, .ref z34, .ref z35, .ref z36, .ref z37, .int 0, .int 0, .int 0, .int 0, .ref z38, .int 0, .ref z39, .ref z40, .ref z41, .ref z42, .int 0, .ref z13, .ref z14, .ref z15, .ref z16, .int 0, .ref z17, .ref z18, .ref z43]))]) [0] rfl
  have hDc := hD.sub (ws' := [(h0, .inr (12, [.ref z0, .ref z1, .ref z2, .ref z3, .ref z4, .ref z5, .ref z20, .ref z21, .ref z22, .ref z23, .ref z24, .ref z25, .int 0, .ref z26, .ref z27, .ref z28, .int 9, .int 0, .int 0, .ref z6, .ref z29, .ref z7, .int 0, .int 2, .ref z19, .ref z8, .ref z9, .ref z10, .int 0, .ref z11, .int 0, .ref z30, .ref z31, .ref z32, .ref z33, .int 0, .ref z12, .int 0, .int 0, .ref z34, .ref z35, .ref z36, .ref z37, .int 0, .int 0, .int 0, .int 0, .ref z38, .int 0, .ref z39, .ref z40, .ref z41, .ref z42, .int 0, .ref z13, .ref z14, .ref z15, .ref z16, .int 0, .ref z17, .ref z18, .ref z43]))]) [0] (by decide) rfl
  have hFc := va_free (wc := [(h0, .inr (12, [.ref z0, .ref z1, .ref z2, .ref z3, .ref z4, .ref z5, .ref z20, .ref z21, .ref z22, .ref z23, .ref z24, .ref z25, .int 0, .ref z26, .ref z27, .ref z28, .int 9, .int 0, .int 0, .ref z6, .ref z29, .ref z7, .int 0, .int 2, .ref z19, .ref z8, .ref z9, .ref z10, .int 0, .ref z11, .int 0, .ref z30, .ref z31, .ref z32, .ref z33, .int 0, .ref z12, .int 0, .int 0, .ref z34, .ref z35, .ref z36, .ref z37, .int 0, .int 0, .int 0, .int 0, .ref z38, .int 0, .ref z39, .ref z40, .ref z41, .ref z42, .int 0, .ref z13, .ref z14, .ref z15, .ref z16, .int 0, .ref z17, .ref z18, .ref z43]))]) hD hS hA [0] rfl
  refine va_calli (va_runV (As := []) (rest := [.int 2]) ⟨hx, hb, hml, hown, hts⟩ (kX12_gens l D G h0 z0 z1 z2 z3 z4 z5 z20 z21 z22 z23 z24 z25 z26 z27 z28 z6 z29 z7 z19 z8 z9 z10 z11 z30 z31 z32 z33 z12 z34 z35 z36 z37 z38 z39 z40 z41 z42 z13 z14 z15 z16 z17 z18 z43 0 H.size) (cwV 0 hts gX12_passAt_X12_gens rfl rfl rfl (by decide +kernel) ⟨Nat.le_of_ble_eq_true rfl, Nat.le_of_ble_eq_true rfl⟩) ⟨wB_blind, va_recv hK hPc (ci := 12) (q0 := 0) rfl rfl, wB_pre hPc hK hDc hN⟩ rfl rfl hl.1 rfl (lv_room (Nat.le_of_ble_eq_true rfl)) dX12_passAt_15 ⟨Nat.le_of_ble_eq_true rfl, Nat.le_of_ble_eq_true rfl⟩) hS (fun q _ h => hFc q h) hFc (fun r3 u t H1 locs ht hvm hr3 hB hz1 hk1 hS => ?_)
  obtain ⟨hP1, hK1, hD1⟩ := hB
  rw [ht] at hP1
  obtain ⟨hP, hD⟩ := va_join (wr := []) (w1 := [(h0, .inr (12, [.ref z0, .ref z1, .ref z2, .ref z3, .ref z4, .ref z5, .ref z20, .ref z21, .ref z22, .ref z23, .ref z24, .ref z25, .int 0, .ref z26, .ref z27, .ref z28, .int 9, .int 0, .int 0, .ref z6, .ref z29, .ref z7, .int 0, .int 2, .ref z19, .ref z8, .ref z9, .ref z10, .int 0, .ref z11, .int 0, .ref z30, .ref z31, .ref z32, .ref z33, .int 0, .ref z12, .int 0, .int 0, .ref z34, .ref z35, .ref z36, .ref z37, .int 0, .int 0, .int 0, .int 0, .ref z38, .int 0, .ref z39, .ref z40, .ref z41, .ref z42, .int 0, .ref z13, .ref z14, .ref z15, .ref z16, .int 0, .ref z17, .ref z18, .ref z43]))]) hP hD [0] [] rfl rfl (by decide) (by decide) hk1 hFc hP1 hD1
  clear hPc hDc
  generalize H1 = H at hP hS ⊢
  have hP : va_P D vwCl [(h0, .inr (12, [.ref z0, .ref z1, .ref z2, .ref z3, .ref z4, .ref z5, .ref z20, .ref z21, .ref z22, .ref z23, .ref z24, .ref z25, .int 0, .ref z26, .ref z27, .ref z28, .int 9, .int 0, .int 0, .ref z6, .ref z29, .ref z7, .int 0, .int 2, .ref z19, .ref z8, .ref z9, .ref z10, .int 0, .ref z11, .int 0, .ref z30, .ref z31, .ref z32, .ref z33, .int 0, .ref z12, .int 0, .int 0, .ref z34, .ref z35, .ref z36, .ref z37, .int 0, .int 0, .int 0, .int 0, .ref z38, .int 0, .ref z39, .ref z40, .ref z41, .ref z42, .int 0, .ref z13, .ref z14, .ref z15, .ref z16, .int 0, .ref z17, .ref z18, .ref z43]))] H := hP
  have hD : va_D A [(h0, .inr (12, [.ref z0, .ref z1, .ref z2, .ref z3, .ref z4, .ref z5, .ref z20, .ref z21, .ref z22, .ref z23, .ref z24, .ref z25, .int 0, .ref z26, .ref z27, .ref z28, .int 9, .int 0, .int 0, .ref z6, .ref z29, .ref z7, .int 0, .int 2, .ref z19, .ref z8, .ref z9, .ref z10, .int 0, .ref z11, .int 0, .ref z30, .ref z31, .ref z32, .ref z33, .int 0, .ref z12, .int 0, .int 0, .ref z34, .ref z35, .ref z36, .ref z37, .int 0, .int 0, .int 0, .int 0, .ref z38, .int 0, .ref z39, .ref z40, .ref z41, .ref z42, .int 0, .ref z13, .ref z14, .ref z15, .ref z16, .int 0, .ref z17, .ref z18, .ref z43]))] := hD
  subst hr3
  refine lv_irem hx hb dX12_passAt_18 (by decide) ?_
  refine wk_i 0 (by decide) ?_
  have hPc := hP.sub (ws' := []) [] rfl
  have hDc := hD.sub (ws' := []) [] (by decide) rfl
  have hFc := va_free (wc := []) hD hS hA [] rfl
  refine va_calli (va_runS (As := [.int 0]) (rest := []) ⟨hx, hb, hml, hown, hts⟩ (kX12_passOf_0 l D G  H.size) (va_cwS 1 hts gX12_passAt_X12_passOf rfl rfl rfl (by decide +kernel) ⟨Nat.le_of_ble_eq_true rfl, Nat.le_of_ble_eq_true rfl⟩) ⟨wB_blind, wB_pre hPc hK hDc hN⟩ rfl rfl hl.1 rfl (lv_room (Nat.le_of_ble_eq_true rfl)) dX12_passAt_19 ⟨Nat.le_of_ble_eq_true rfl, Nat.le_of_ble_eq_true rfl⟩) hS (fun q _ h => hFc q h) hFc (fun r4 u t H1 locs ht hvm hr4 hB hz1 hk1 hS => ?_)
  obtain ⟨hP, hD⟩ := va_join (wr := [(h0, .inr (12, [.ref z0, .ref z1, .ref z2, .ref z3, .ref z4, .ref z5, .ref z20, .ref z21, .ref z22, .ref z23, .ref z24, .ref z25, .int 0, .ref z26, .ref z27, .ref z28, .int 9, .int 0, .int 0, .ref z6, .ref z29, .ref z7, .int 0, .int 2, .ref z19, .ref z8, .ref z9, .ref z10, .int 0, .ref z11, .int 0, .ref z30, .ref z31, .ref z32, .ref z33, .int 0, .ref z12, .int 0, .int 0, .ref z34, .ref z35, .ref z36, .ref z37, .int 0, .int 0, .int 0, .int 0, .ref z38, .int 0, .ref z39, .ref z40, .ref z41, .ref z42, .int 0, .ref z13, .ref z14, .ref z15, .ref z16, .int 0, .ref z17, .ref z18, .ref z43]))]) (w1 := []) hP hD [] [0] rfl rfl (by decide) (by decide) hk1 hFc wP_nil wD_nil
  clear hPc hDc
  generalize H1 = H at hP hS ⊢
  have hP : va_P D vwCl [(h0, .inr (12, [.ref z0, .ref z1, .ref z2, .ref z3, .ref z4, .ref z5, .ref z20, .ref z21, .ref z22, .ref z23, .ref z24, .ref z25, .int 0, .ref z26, .ref z27, .ref z28, .int 9, .int 0, .int 0, .ref z6, .ref z29, .ref z7, .int 0, .int 2, .ref z19, .ref z8, .ref z9, .ref z10, .int 0, .ref z11, .int 0, .ref z30, .ref z31, .ref z32, .ref z33, .int 0, .ref z12, .int 0, .int 0, .ref z34, .ref z35, .ref z36, .ref z37, .int 0, .int 0, .int 0, .int 0, .ref z38, .int 0, .ref z39, .ref z40, .ref z41, .ref z42, .int 0, .ref z13, .ref z14, .ref z15, .ref z16, .int 0, .ref z17, .ref z18, .ref z43]))] H := hP
  have hD : va_D A [(h0, .inr (12, [.ref z0, .ref z1, .ref z2, .ref z3, .ref z4, .ref z5, .ref z20, .ref z21, .ref z22, .ref z23, .ref z24, .ref z25, .int 0, .ref z26, .ref z27, .ref z28, .int 9, .int 0, .int 0, .ref z6, .ref z29, .ref z7, .int 0, .int 2, .ref z19, .ref z8, .ref z9, .ref z10, .int 0, .ref z11, .int 0, .ref z30, .ref z31, .ref z32, .ref z33, .int 0, .ref z12, .int 0, .int 0, .ref z34, .ref z35, .ref z36, .ref z37, .int 0, .int 0, .int 0, .int 0, .ref z38, .int 0, .ref z39, .ref z40, .ref z41, .ref z42, .int 0, .ref z13, .ref z14, .ref z15, .ref z16, .int 0, .ref z17, .ref z18, .ref z43]))] := hD
  subst hr4
  have hP9 := hP.sub (ws' := [(h0, .inr (12, [.ref z0, .ref z1, .ref z2, .ref z3, .ref z4, .ref z5, .ref z20, .ref z21, .ref z22, .ref z23, .ref z24, .ref z25, .int 0, .ref z26, .ref z27, .ref z28, .int 9, .int 0, .int 0, .ref z6, .ref z29, .ref z7, .int 0, .int 2, .ref z19, .ref z8, .ref z9, .ref z10, .int 0, .ref z11, .int 0, .ref z30, .ref z31, .ref z32, .ref z33, .int 0, .ref z12, .int 0, .int 0, .ref z34, .ref z35, .ref z36, .ref z37, .int 0, .int 0, .int 0, .int 0, .ref z38, .int 0, .ref z39, .ref z40, .ref z41, .ref z42, .int 0, .ref z13, .ref z14, .ref z15, .ref z16, .int 0, .ref z17, .ref z18, .ref z43]))]) [0] rfl
  have hD9 := hD.sub (ws' := [(h0, .inr (12, [.ref z0, .ref z1, .ref z2, .ref z3, .ref z4, .ref z5, .ref z20, .ref z21, .ref z22, .ref z23, .ref z24, .ref z25, .int 0, .ref z26, .ref z27, .ref z28, .int 9, .int 0, .int 0, .ref z6, .ref z29, .ref z7, .int 0, .int 2, .ref z19, .ref z8, .ref z9, .ref z10, .int 0, .ref z11, .int 0, .ref z30, .ref z31, .ref z32, .ref z33, .int 0, .ref z12, .int 0, .int 0, .ref z34, .ref z35, .ref z36, .ref z37, .int 0, .int 0, .int 0, .int 0, .ref z38, .int 0, .ref z39, .ref z40, .ref z41, .ref z42, .int 0, .ref z13, .ref z14, .ref z15, .ref z16, .int 0, .ref z17, .ref z18, .ref z43]))]) [0] (by decide) rfl
  exact W.iret (v := 1) hx hb hr (fun t ht hW => ⟨⟨1, (), rfl, rfl, ⟨by rw [ht]; exact hP9, va_K.moved hW.alike hK, hD9⟩⟩, hS.F ht⟩) hS.2.2 dX12_passAt_22

set_option maxHeartbeats 4000000 in
set_option maxRecDepth 100000 in
/-- X12_passAt -/
theorem kX12_passAt_3_4_2 (l : Launch) (D : va_G) (G : tyG) (h0 : Nat) (z0 : Nat) (z1 : Nat) (z2 : Nat) (z3 : Nat) (z4 : Nat) (z5 : Nat) (z20 : Nat) (z21 : Nat) (z22 : Nat) (z23 : Nat) (z24 : Nat) (z25 : Nat) (z26 : Nat) (z27 : Nat) (z28 : Nat) (z6 : Nat) (z29 : Nat) (z7 : Nat) (z19 : Nat) (z8 : Nat) (z9 : Nat) (z10 : Nat) (z11 : Nat) (z30 : Nat) (z31 : Nat) (z32 : Nat) (z33 : Nat) (z12 : Nat) (z34 : Nat) (z35 : Nat) (z36 : Nat) (z37 : Nat) (z38 : Nat) (z39 : Nat) (z40 : Nat) (z41 : Nat) (z42 : Nat) (z13 : Nat) (z14 : Nat) (z15 : Nat) (z16 : Nat) (z17 : Nat) (z18 : Nat) (z43 : Nat) (sz : Nat) : Met l yX12_passAt wsX12_passAt ({ frames := 1, cells := 0, slots := 0, locals := 23 }) (va_Pc [.ref h0, .int 4, .int 3, .int 2] (wB D G sz [(h0, .inr (12, [.ref z0, .ref z1, .ref z2, .ref z3, .ref z4, .ref z5, .ref z20, .ref z21, .ref z22, .ref z23, .ref z24, .ref z25, .int 0, .ref z26, .ref z27, .ref z28, .int 9, .int 0, .int 0, .ref z6, .ref z29, .ref z7, .int 0, .int 2, .ref z19, .ref z8, .ref z9, .ref z10, .int 0, .ref z11, .int 0, .ref z30, .ref z31, .ref z32, .ref z33, .int 0, .ref z12, .int 0, .int 0, .ref z34, .ref z35, .ref z36, .ref z37, .int 0, .int 0, .int 0, .int 0, .ref z38, .int 0, .ref z39, .ref z40, .ref z41, .ref z42, .int 0, .ref z13, .ref z14, .ref z15, .ref z16, .int 0, .ref z17, .ref z18, .ref z43]))])) (va_Qi (fun (r : Int32) (_ : Unit) => r = 1) (fun _ t => wS D G (va_A [(h0, .inr (12, [.ref z0, .ref z1, .ref z2, .ref z3, .ref z4, .ref z5, .ref z20, .ref z21, .ref z22, .ref z23, .ref z24, .ref z25, .int 0, .ref z26, .ref z27, .ref z28, .int 9, .int 0, .int 0, .ref z6, .ref z29, .ref z7, .int 0, .int 2, .ref z19, .ref z8, .ref z9, .ref z10, .int 0, .ref z11, .int 0, .ref z30, .ref z31, .ref z32, .ref z33, .int 0, .ref z12, .int 0, .int 0, .ref z34, .ref z35, .ref z36, .ref z37, .int 0, .int 0, .int 0, .int 0, .ref z38, .int 0, .ref z39, .ref z40, .ref z41, .ref z42, .int 0, .ref z13, .ref z14, .ref z15, .ref z16, .int 0, .ref z17, .ref z18, .ref z43]))] sz) [(h0, .inr (12, [.ref z0, .ref z1, .ref z2, .ref z3, .ref z4, .ref z5, .ref z20, .ref z21, .ref z22, .ref z23, .ref z24, .ref z25, .int 0, .ref z26, .ref z27, .ref z28, .int 9, .int 0, .int 0, .ref z6, .ref z29, .ref z7, .int 0, .int 2, .ref z19, .ref z8, .ref z9, .ref z10, .int 0, .ref z11, .int 0, .ref z30, .ref z31, .ref z32, .ref z33, .int 0, .ref z12, .int 0, .int 0, .ref z34, .ref z35, .ref z36, .ref z37, .int 0, .int 0, .int 0, .int 0, .ref z38, .int 0, .ref z39, .ref z40, .ref z41, .ref z42, .int 0, .ref z13, .ref z14, .ref z15, .ref z16, .int 0, .ref z17, .ref z18, .ref z43]))] t) (va_A [(h0, .inr (12, [.ref z0, .ref z1, .ref z2, .ref z3, .ref z4, .ref z5, .ref z20, .ref z21, .ref z22, .ref z23, .ref z24, .ref z25, .int 0, .ref z26, .ref z27, .ref z28, .int 9, .int 0, .int 0, .ref z6, .ref z29, .ref z7, .int 0, .int 2, .ref z19, .ref z8, .ref z9, .ref z10, .int 0, .ref z11, .int 0, .ref z30, .ref z31, .ref z32, .ref z33, .int 0, .ref z12, .int 0, .int 0, .ref z34, .ref z35, .ref z36, .ref z37, .int 0, .int 0, .int 0, .int 0, .ref z38, .int 0, .ref z39, .ref z40, .ref z41, .ref z42, .int 0, .ref z13, .ref z14, .ref z15, .ref z16, .int 0, .ref z17, .ref z18, .ref z43]))] sz)) 0 0 (va_A [(h0, .inr (12, [.ref z0, .ref z1, .ref z2, .ref z3, .ref z4, .ref z5, .ref z20, .ref z21, .ref z22, .ref z23, .ref z24, .ref z25, .int 0, .ref z26, .ref z27, .ref z28, .int 9, .int 0, .int 0, .ref z6, .ref z29, .ref z7, .int 0, .int 2, .ref z19, .ref z8, .ref z9, .ref z10, .int 0, .ref z11, .int 0, .ref z30, .ref z31, .ref z32, .ref z33, .int 0, .ref z12, .int 0, .int 0, .ref z34, .ref z35, .ref z36, .ref z37, .int 0, .int 0, .int 0, .int 0, .ref z38, .int 0, .ref z39, .ref z40, .ref z41, .ref z42, .int 0, .ref z13, .ref z14, .ref z15, .ref z16, .int 0, .ref z17, .ref z18, .ref z43]))] sz) := by
  refine Met.ofW (cc := cX12_passAt) (maxL := 4) (ret := (some .int)) (by decide) rfl ?_
  intro p e s m args below meth c s₁ B hml hv
  obtain ⟨rfl, hsz, hP, hK, hD0, hN⟩ := hv
  have hx := B.exec
  have hb := B.bytes
  have hr := B.returns
  have hts := atoms_spec (ws := wsX12_passAt) B.pre
  have hown : s.vm.findClass RX12 = some m.cls := findClass_of_methodNamed B.named
  have hlocks := B.notSynchronized
  subst hsz
  have hD := hD0.self (sz := s.heap.size)
  generalize hAe : va_A [(h0, .inr (12, [.ref z0, .ref z1, .ref z2, .ref z3, .ref z4, .ref z5, .ref z20, .ref z21, .ref z22, .ref z23, .ref z24, .ref z25, .int 0, .ref z26, .ref z27, .ref z28, .int 9, .int 0, .int 0, .ref z6, .ref z29, .ref z7, .int 0, .int 2, .ref z19, .ref z8, .ref z9, .ref z10, .int 0, .ref z11, .int 0, .ref z30, .ref z31, .ref z32, .ref z33, .int 0, .ref z12, .int 0, .int 0, .ref z34, .ref z35, .ref z36, .ref z37, .int 0, .int 0, .int 0, .int 0, .ref z38, .int 0, .ref z39, .ref z40, .ref z41, .ref z42, .int 0, .ref z13, .ref z14, .ref z15, .ref z16, .int 0, .ref z17, .ref z18, .ref z43]))] s.heap.size = A at hD ⊢
  have hA : ∀ q : Nat, s.heap.size ≤ q → A q := fun q h => by rw [← hAe]; exact Or.inr h
  have hS : va_S A s.heap s.heap [] := va_S.rf
  have hP : va_P D vwCl [(h0, .inr (12, [.ref z0, .ref z1, .ref z2, .ref z3, .ref z4, .ref z5, .ref z20, .ref z21, .ref z22, .ref z23, .ref z24, .ref z25, .int 0, .ref z26, .ref z27, .ref z28, .int 9, .int 0, .int 0, .ref z6, .ref z29, .ref z7, .int 0, .int 2, .ref z19, .ref z8, .ref z9, .ref z10, .int 0, .ref z11, .int 0, .ref z30, .ref z31, .ref z32, .ref z33, .int 0, .ref z12, .int 0, .int 0, .ref z34, .ref z35, .ref z36, .ref z37, .int 0, .int 0, .int 0, .int 0, .ref z38, .int 0, .ref z39, .ref z40, .ref z41, .ref z42, .int 0, .ref z13, .ref z14, .ref z15, .ref z16, .int 0, .ref z17, .ref z18, .ref z43]))] s.heap := hP
  have hl := lv_entry ([.ref h0, .int 4, .int 3, .int 2]) (n := 4) (Nat.le_of_ble_eq_true rfl)
  rw [lg_entry_eq]
  generalize (lg_sl ([.ref h0, .int 4, .int 3, .int 2]) ++ List.replicate (4 - (lg_sl ([.ref h0, .int 4, .int 3, .int 2])).length) Slot.unset).toArray = ls at hl ⊢
  have hl : lv_has ls 4 [(0, .ref h0), (1, .int 4), (2, .int 3), (3, .int 2)] := hl
  refine lv_iload_n hx hb dX12_passAt_0 rfl (lv_at hl 1 rfl) ?_
  refine lv_aload_n hx hb dX12_passAt_1 rfl (lv_at hl 0 rfl) ?_
  have hPc := hP.sub (ws' := [(h0, .inr (12, [.ref z0, .ref z1, .ref z2, .ref z3, .ref z4, .ref z5, .ref z20, .ref z21, .ref z22, .ref z23, .ref z24, .ref z25, .int 0, .ref z26, .ref z27, .ref z28, .int 9, .int 0, .int 0, .ref z6, .ref z29, .ref z7, .int 0, .int 2, .ref z19, .ref z8, .ref z9, .ref z10, .int 0, .ref z11, .int 0, .ref z30, .ref z31, .ref z32, .ref z33, .int 0, .ref z12, .int 0, .int 0, .ref z34, .ref z35, .ref z36, .ref z37, .int 0, .int 0, .int 0, .int 0, .ref z38, .int 0, .ref z39, .ref z40, .ref z41, .ref z42, .int 0, .ref z13, .ref z14, .ref z15, .ref z16, .int 0, .ref z17, .ref z18, .ref z43]))]) [0] rfl
  have hDc := hD.sub (ws' := [(h0, .inr (12, [.ref z0, .ref z1, .ref z2, .ref z3, .ref z4, .ref z5, .ref z20, .ref z21, .ref z22, .ref z23, .ref z24, .ref z25, .int 0, .ref z26, .ref z27, .ref z28, .int 9, .int 0, .int 0, .ref z6, .ref z29, .ref z7, .int 0, .int 2, .ref z19, .ref z8, .ref z9, .ref z10, .int 0, .ref z11, .int 0, .ref z30, .ref z31, .ref z32, .ref z33, .int 0, .ref z12, .int 0, .int 0, .ref z34, .ref z35, .ref z36, .ref z37, .int 0, .int 0, .int 0, .int 0, .ref z38, .int 0, .ref z39, .ref z40, .ref z41, .ref z42, .int 0, .ref z13, .ref z14, .ref z15, .ref z16, .int 0, .ref z17, .ref z18, .ref z43]))]) [0] (by decide) rfl
  have hFc := va_free (wc := [(h0, .inr (12, [.ref z0, .ref z1, .ref z2, .ref z3, .ref z4, .ref z5, .ref z20, .ref z21, .ref z22, .ref z23, .ref z24, .ref z25, .int 0, .ref z26, .ref z27, .ref z28, .int 9, .int 0, .int 0, .ref z6, .ref z29, .ref z7, .int 0, .int 2, .ref z19, .ref z8, .ref z9, .ref z10, .int 0, .ref z11, .int 0, .ref z30, .ref z31, .ref z32, .ref z33, .int 0, .ref z12, .int 0, .int 0, .ref z34, .ref z35, .ref z36, .ref z37, .int 0, .int 0, .int 0, .int 0, .ref z38, .int 0, .ref z39, .ref z40, .ref z41, .ref z42, .int 0, .ref z13, .ref z14, .ref z15, .ref z16, .int 0, .ref z17, .ref z18, .ref z43]))]) hD hS hA [0] rfl
  refine va_calli (va_runV (As := []) (rest := [.int 4]) ⟨hx, hb, hml, hown, hts⟩ (kX12_gens l D G h0 z0 z1 z2 z3 z4 z5 z20 z21 z22 z23 z24 z25 z26 z27 z28 z6 z29 z7 z19 z8 z9 z10 z11 z30 z31 z32 z33 z12 z34 z35 z36 z37 z38 z39 z40 z41 z42 z13 z14 z15 z16 z17 z18 z43 0 s.heap.size) (cwV 0 hts gX12_passAt_X12_gens rfl rfl rfl (by decide +kernel) ⟨Nat.le_of_ble_eq_true rfl, Nat.le_of_ble_eq_true rfl⟩) ⟨wB_blind, va_recv hK hPc (ci := 12) (q0 := 0) rfl rfl, wB_pre hPc hK hDc hN⟩ rfl rfl hl.1 rfl (lv_room (Nat.le_of_ble_eq_true rfl)) dX12_passAt_2 ⟨Nat.le_of_ble_eq_true rfl, Nat.le_of_ble_eq_true rfl⟩) hS (fun q _ h => hFc q h) hFc (fun r1 u t H1 locs ht hvm hr1 hB hz1 hk1 hS => ?_)
  obtain ⟨hP1, hK1, hD1⟩ := hB
  rw [ht] at hP1
  obtain ⟨hP, hD⟩ := va_join (wr := []) (w1 := [(h0, .inr (12, [.ref z0, .ref z1, .ref z2, .ref z3, .ref z4, .ref z5, .ref z20, .ref z21, .ref z22, .ref z23, .ref z24, .ref z25, .int 0, .ref z26, .ref z27, .ref z28, .int 9, .int 0, .int 0, .ref z6, .ref z29, .ref z7, .int 0, .int 2, .ref z19, .ref z8, .ref z9, .ref z10, .int 0, .ref z11, .int 0, .ref z30, .ref z31, .ref z32, .ref z33, .int 0, .ref z12, .int 0, .int 0, .ref z34, .ref z35, .ref z36, .ref z37, .int 0, .int 0, .int 0, .int 0, .ref z38, .int 0, .ref z39, .ref z40, .ref z41, .ref z42, .int 0, .ref z13, .ref z14, .ref z15, .ref z16, .int 0, .ref z17, .ref z18, .ref z43]))]) hP hD [0] [] rfl rfl (by decide) (by decide) hk1 hFc hP1 hD1
  clear hPc hDc
  generalize H1 = H at hP hS ⊢
  have hP : va_P D vwCl [(h0, .inr (12, [.ref z0, .ref z1, .ref z2, .ref z3, .ref z4, .ref z5, .ref z20, .ref z21, .ref z22, .ref z23, .ref z24, .ref z25, .int 0, .ref z26, .ref z27, .ref z28, .int 9, .int 0, .int 0, .ref z6, .ref z29, .ref z7, .int 0, .int 2, .ref z19, .ref z8, .ref z9, .ref z10, .int 0, .ref z11, .int 0, .ref z30, .ref z31, .ref z32, .ref z33, .int 0, .ref z12, .int 0, .int 0, .ref z34, .ref z35, .ref z36, .ref z37, .int 0, .int 0, .int 0, .int 0, .ref z38, .int 0, .ref z39, .ref z40, .ref z41, .ref z42, .int 0, .ref z13, .ref z14, .ref z15, .ref z16, .int 0, .ref z17, .ref z18, .ref z43]))] H := hP
  have hD : va_D A [(h0, .inr (12, [.ref z0, .ref z1, .ref z2, .ref z3, .ref z4, .ref z5, .ref z20, .ref z21, .ref z22, .ref z23, .ref z24, .ref z25, .int 0, .ref z26, .ref z27, .ref z28, .int 9, .int 0, .int 0, .ref z6, .ref z29, .ref z7, .int 0, .int 2, .ref z19, .ref z8, .ref z9, .ref z10, .int 0, .ref z11, .int 0, .ref z30, .ref z31, .ref z32, .ref z33, .int 0, .ref z12, .int 0, .int 0, .ref z34, .ref z35, .ref z36, .ref z37, .int 0, .int 0, .int 0, .int 0, .ref z38, .int 0, .ref z39, .ref z40, .ref z41, .ref z42, .int 0, .ref z13, .ref z14, .ref z15, .ref z16, .int 0, .ref z17, .ref z18, .ref z43]))] := hD
  subst hr1
  refine lv_iload_n hx hb dX12_passAt_5 rfl (lv_at hl 2 rfl) ?_
  refine lv_iconst (v := 1) hx hb dX12_passAt_6 (by decide) ?_
  refine lv_isub hx hb dX12_passAt_7 ?_
  refine wk_i 2 (by decide) ?_
  refine lv_iload_n hx hb dX12_passAt_8 rfl (lv_at hl 3 rfl) ?_
  refine lv_isub hx hb dX12_passAt_9 ?_
  refine wk_i 0 (by decide) ?_
  have hPc := hP.sub (ws' := []) [] rfl
  have hDc := hD.sub (ws' := []) [] (by decide) rfl
  have hFc := va_free (wc := []) hD hS hA [] rfl
  refine va_calli (va_runS (As := [.int 2, .int 0]) (rest := [.int 4]) ⟨hx, hb, hml, hown, hts⟩ (kX12_power_0 l D G  H.size) (va_cwS 2 hts gX12_passAt_X12_power rfl rfl rfl (by decide +kernel) ⟨Nat.le_of_ble_eq_true rfl, Nat.le_of_ble_eq_true rfl⟩) ⟨wB_blind, wB_pre hPc hK hDc hN⟩ rfl rfl hl.1 rfl (lv_room (Nat.le_of_ble_eq_true rfl)) dX12_passAt_10 ⟨Nat.le_of_ble_eq_true rfl, Nat.le_of_ble_eq_true rfl⟩) hS (fun q _ h => hFc q h) hFc (fun r2 u t H1 locs ht hvm hr2 hB hz1 hk1 hS => ?_)
  obtain ⟨hP, hD⟩ := va_join (wr := [(h0, .inr (12, [.ref z0, .ref z1, .ref z2, .ref z3, .ref z4, .ref z5, .ref z20, .ref z21, .ref z22, .ref z23, .ref z24, .ref z25, .int 0, .ref z26, .ref z27, .ref z28, .int 9, .int 0, .int 0, .ref z6, .ref z29, .ref z7, .int 0, .int 2, .ref z19, .ref z8, .ref z9, .ref z10, .int 0, .ref z11, .int 0, .ref z30, .ref z31, .ref z32, .ref z33, .int 0, .ref z12, .int 0, .int 0, .ref z34, .ref z35, .ref z36, .ref z37, .int 0, .int 0, .int 0, .int 0, .ref z38, .int 0, .ref z39, .ref z40, .ref z41, .ref z42, .int 0, .ref z13, .ref z14, .ref z15, .ref z16, .int 0, .ref z17, .ref z18, .ref z43]))]) (w1 := []) hP hD [] [0] rfl rfl (by decide) (by decide) hk1 hFc wP_nil wD_nil
  clear hPc hDc
  generalize H1 = H at hP hS ⊢
  have hP : va_P D vwCl [(h0, .inr (12, [.ref z0, .ref z1, .ref z2, .ref z3, .ref z4, .ref z5, .ref z20, .ref z21, .ref z22, .ref z23, .ref z24, .ref z25, .int 0, .ref z26, .ref z27, .ref z28, .int 9, .int 0, .int 0, .ref z6, .ref z29, .ref z7, .int 0, .int 2, .ref z19, .ref z8, .ref z9, .ref z10, .int 0, .ref z11, .int 0, .ref z30, .ref z31, .ref z32, .ref z33, .int 0, .ref z12, .int 0, .int 0, .ref z34, .ref z35, .ref z36, .ref z37, .int 0, .int 0, .int 0, .int 0, .ref z38, .int 0, .ref z39, .ref z40, .ref z41, .ref z42, .int 0, .ref z13, .ref z14, .ref z15, .ref z16, .int 0, .ref z17, .ref z18, .ref z43]))] H := hP
  have hD : va_D A [(h0, .inr (12, [.ref z0, .ref z1, .ref z2, .ref z3, .ref z4, .ref z5, .ref z20, .ref z21, .ref z22, .ref z23, .ref z24, .ref z25, .int 0, .ref z26, .ref z27, .ref z28, .int 9, .int 0, .int 0, .ref z6, .ref z29, .ref z7, .int 0, .int 2, .ref z19, .ref z8, .ref z9, .ref z10, .int 0, .ref z11, .int 0, .ref z30, .ref z31, .ref z32, .ref z33, .int 0, .ref z12, .int 0, .int 0, .ref z34, .ref z35, .ref z36, .ref z37, .int 0, .int 0, .int 0, .int 0, .ref z38, .int 0, .ref z39, .ref z40, .ref z41, .ref z42, .int 0, .ref z13, .ref z14, .ref z15, .ref z16, .int 0, .ref z17, .ref z18, .ref z43]))] := hD
  subst hr2
  refine lv_idiv hx hb dX12_passAt_13 (by decide) ?_
  refine wk_i 4 (by decide) ?_
  refine lv_aload_n hx hb dX12_passAt_14 rfl (lv_at hl 0 rfl) ?_
  have hPc := hP.sub (ws' := [(h0, .inr (12, [.ref z0, .ref z1, .ref z2, .ref z3, .ref z4, .ref z5, .ref z20, .ref z21, .ref z22, .ref z23, .ref z24, .ref z25, .int 0, .ref z26, .ref z27, .ref z28, .int 9, .int 0, .int 0, .ref z6, .ref z29, .ref z7, .int 0, .int 2, .ref z19, .ref z8, .ref z9, .ref z10, .int 0, .ref z11, .int 0, .ref z30, .ref z31, .ref z32, .ref z33, .int 0, .ref z12, .int 0, .int 0, .ref z34, .ref z35, .ref z36, .ref z37, .int 0, .int 0, .int 0, .int 0, .ref z38, .int 0, .ref z39, .ref z40, .ref z41, .ref z42, .int 0, .ref z13, .ref z14, .ref z15, .ref z16, .int 0, .ref z17, .ref z18, .ref z43]))]) [0] rfl
  have hDc := hD.sub (ws' := [(h0, .inr (12, [.ref z0, .ref z1, .ref z2, .ref z3, .ref z4, .ref z5, .ref z20, .ref z21, .ref z22, .ref z23, .ref z24, .ref z25, .int 0, .ref z26, .ref z27, .ref z28, .int 9, .int 0, .int 0, .ref z6, .ref z29, .ref z7, .int 0, .int 2, .ref z19, .ref z8, .ref z9, .ref z10, .int 0, .ref z11, .int 0, .ref z30, .ref z31, .ref z32, .ref z33, .int 0, .ref z12, .int 0, .int 0, .ref z34, .ref z35, .ref z36, .ref z37, .int 0, .int 0, .int 0, .int 0, .ref z38, .int 0, .ref z39, .ref z40, .ref z41, .ref z42, .int 0, .ref z13, .ref z14, .ref z15, .ref z16, .int 0, .ref z17, .ref z18, .ref z43]))]) [0] (by decide) rfl
  have hFc := va_free (wc := [(h0, .inr (12, [.ref z0, .ref z1, .ref z2, .ref z3, .ref z4, .ref z5, .ref z20, .ref z21, .ref z22, .ref z23, .ref z24, .ref z25, .int 0, .ref z26, .ref z27, .ref z28, .int 9, .int 0, .int 0, .ref z6, .ref z29, .ref z7, .int 0, .int 2, .ref z19, .ref z8, .ref z9, .ref z10, .int 0, .ref z11, .int 0, .ref z30, .ref z31, .ref z32, .ref z33, .int 0, .ref z12, .int 0, .int 0, .ref z34, .ref z35, .ref z36, .ref z37, .int 0, .int 0, .int 0, .int 0, .ref z38, .int 0, .ref z39, .ref z40, .ref z41, .ref z42, .int 0, .ref z13, .ref z14, .ref z15, .ref z16, .int 0, .ref z17, .ref z18, .ref z43]))]) hD hS hA [0] rfl
  refine va_calli (va_runV (As := []) (rest := [.int 4]) ⟨hx, hb, hml, hown, hts⟩ (kX12_gens l D G h0 z0 z1 z2 z3 z4 z5 z20 z21 z22 z23 z24 z25 z26 z27 z28 z6 z29 z7 z19 z8 z9 z10 z11 z30 z31 z32 z33 z12 z34 z35 z36 z37 z38 z39 z40 z41 z42 z13 z14 z15 z16 z17 z18 z43 0 H.size) (cwV 0 hts gX12_passAt_X12_gens rfl rfl rfl (by decide +kernel) ⟨Nat.le_of_ble_eq_true rfl, Nat.le_of_ble_eq_true rfl⟩) ⟨wB_blind, va_recv hK hPc (ci := 12) (q0 := 0) rfl rfl, wB_pre hPc hK hDc hN⟩ rfl rfl hl.1 rfl (lv_room (Nat.le_of_ble_eq_true rfl)) dX12_passAt_15 ⟨Nat.le_of_ble_eq_true rfl, Nat.le_of_ble_eq_true rfl⟩) hS (fun q _ h => hFc q h) hFc (fun r3 u t H1 locs ht hvm hr3 hB hz1 hk1 hS => ?_)
  obtain ⟨hP1, hK1, hD1⟩ := hB
  rw [ht] at hP1
  obtain ⟨hP, hD⟩ := va_join (wr := []) (w1 := [(h0, .inr (12, [.ref z0, .ref z1, .ref z2, .ref z3, .ref z4, .ref z5, .ref z20, .ref z21, .ref z22, .ref z23, .ref z24, .ref z25, .int 0, .ref z26, .ref z27, .ref z28, .int 9, .int 0, .int 0, .ref z6, .ref z29, .ref z7, .int 0, .int 2, .ref z19, .ref z8, .ref z9, .ref z10, .int 0, .ref z11, .int 0, .ref z30, .ref z31, .ref z32, .ref z33, .int 0, .ref z12, .int 0, .int 0, .ref z34, .ref z35, .ref z36, .ref z37, .int 0, .int 0, .int 0, .int 0, .ref z38, .int 0, .ref z39, .ref z40, .ref z41, .ref z42, .int 0, .ref z13, .ref z14, .ref z15, .ref z16, .int 0, .ref z17, .ref z18, .ref z43]))]) hP hD [0] [] rfl rfl (by decide) (by decide) hk1 hFc hP1 hD1
  clear hPc hDc
  generalize H1 = H at hP hS ⊢
  have hP : va_P D vwCl [(h0, .inr (12, [.ref z0, .ref z1, .ref z2, .ref z3, .ref z4, .ref z5, .ref z20, .ref z21, .ref z22, .ref z23, .ref z24, .ref z25, .int 0, .ref z26, .ref z27, .ref z28, .int 9, .int 0, .int 0, .ref z6, .ref z29, .ref z7, .int 0, .int 2, .ref z19, .ref z8, .ref z9, .ref z10, .int 0, .ref z11, .int 0, .ref z30, .ref z31, .ref z32, .ref z33, .int 0, .ref z12, .int 0, .int 0, .ref z34, .ref z35, .ref z36, .ref z37, .int 0, .int 0, .int 0, .int 0, .ref z38, .int 0, .ref z39, .ref z40, .ref z41, .ref z42, .int 0, .ref z13, .ref z14, .ref z15, .ref z16, .int 0, .ref z17, .ref z18, .ref z43]))] H := hP
  have hD : va_D A [(h0, .inr (12, [.ref z0, .ref z1, .ref z2, .ref z3, .ref z4, .ref z5, .ref z20, .ref z21, .ref z22, .ref z23, .ref z24, .ref z25, .int 0, .ref z26, .ref z27, .ref z28, .int 9, .int 0, .int 0, .ref z6, .ref z29, .ref z7, .int 0, .int 2, .ref z19, .ref z8, .ref z9, .ref z10, .int 0, .ref z11, .int 0, .ref z30, .ref z31, .ref z32, .ref z33, .int 0, .ref z12, .int 0, .int 0, .ref z34, .ref z35, .ref z36, .ref z37, .int 0, .int 0, .int 0, .int 0, .ref z38, .int 0, .ref z39, .ref z40, .ref z41, .ref z42, .int 0, .ref z13, .ref z14, .ref z15, .ref z16, .int 0, .ref z17, .ref z18, .ref z43]))] := hD
  subst hr3
  refine lv_irem hx hb dX12_passAt_18 (by decide) ?_
  refine wk_i 0 (by decide) ?_
  have hPc := hP.sub (ws' := []) [] rfl
  have hDc := hD.sub (ws' := []) [] (by decide) rfl
  have hFc := va_free (wc := []) hD hS hA [] rfl
  refine va_calli (va_runS (As := [.int 0]) (rest := []) ⟨hx, hb, hml, hown, hts⟩ (kX12_passOf_0 l D G  H.size) (va_cwS 1 hts gX12_passAt_X12_passOf rfl rfl rfl (by decide +kernel) ⟨Nat.le_of_ble_eq_true rfl, Nat.le_of_ble_eq_true rfl⟩) ⟨wB_blind, wB_pre hPc hK hDc hN⟩ rfl rfl hl.1 rfl (lv_room (Nat.le_of_ble_eq_true rfl)) dX12_passAt_19 ⟨Nat.le_of_ble_eq_true rfl, Nat.le_of_ble_eq_true rfl⟩) hS (fun q _ h => hFc q h) hFc (fun r4 u t H1 locs ht hvm hr4 hB hz1 hk1 hS => ?_)
  obtain ⟨hP, hD⟩ := va_join (wr := [(h0, .inr (12, [.ref z0, .ref z1, .ref z2, .ref z3, .ref z4, .ref z5, .ref z20, .ref z21, .ref z22, .ref z23, .ref z24, .ref z25, .int 0, .ref z26, .ref z27, .ref z28, .int 9, .int 0, .int 0, .ref z6, .ref z29, .ref z7, .int 0, .int 2, .ref z19, .ref z8, .ref z9, .ref z10, .int 0, .ref z11, .int 0, .ref z30, .ref z31, .ref z32, .ref z33, .int 0, .ref z12, .int 0, .int 0, .ref z34, .ref z35, .ref z36, .ref z37, .int 0, .int 0, .int 0, .int 0, .ref z38, .int 0, .ref z39, .ref z40, .ref z41, .ref z42, .int 0, .ref z13, .ref z14, .ref z15, .ref z16, .int 0, .ref z17, .ref z18, .ref z43]))]) (w1 := []) hP hD [] [0] rfl rfl (by decide) (by decide) hk1 hFc wP_nil wD_nil
  clear hPc hDc
  generalize H1 = H at hP hS ⊢
  have hP : va_P D vwCl [(h0, .inr (12, [.ref z0, .ref z1, .ref z2, .ref z3, .ref z4, .ref z5, .ref z20, .ref z21, .ref z22, .ref z23, .ref z24, .ref z25, .int 0, .ref z26, .ref z27, .ref z28, .int 9, .int 0, .int 0, .ref z6, .ref z29, .ref z7, .int 0, .int 2, .ref z19, .ref z8, .ref z9, .ref z10, .int 0, .ref z11, .int 0, .ref z30, .ref z31, .ref z32, .ref z33, .int 0, .ref z12, .int 0, .int 0, .ref z34, .ref z35, .ref z36, .ref z37, .int 0, .int 0, .int 0, .int 0, .ref z38, .int 0, .ref z39, .ref z40, .ref z41, .ref z42, .int 0, .ref z13, .ref z14, .ref z15, .ref z16, .int 0, .ref z17, .ref z18, .ref z43]))] H := hP
  have hD : va_D A [(h0, .inr (12, [.ref z0, .ref z1, .ref z2, .ref z3, .ref z4, .ref z5, .ref z20, .ref z21, .ref z22, .ref z23, .ref z24, .ref z25, .int 0, .ref z26, .ref z27, .ref z28, .int 9, .int 0, .int 0, .ref z6, .ref z29, .ref z7, .int 0, .int 2, .ref z19, .ref z8, .ref z9, .ref z10, .int 0, .ref z11, .int 0, .ref z30, .ref z31, .ref z32, .ref z33, .int 0, .ref z12, .int 0, .int 0, .ref z34, .ref z35, .ref z36, .ref z37, .int 0, .int 0, .int 0, .int 0, .ref z38, .int 0, .ref z39, .ref z40, .ref z41, .ref z42, .int 0, .ref z13, .ref z14, .ref z15, .ref z16, .int 0, .ref z17, .ref z18, .ref z43]))] := hD
  subst hr4
  have hP9 := hP.sub (ws' := [(h0, .inr (12, [.ref z0, .ref z1, .ref z2, .ref z3, .ref z4, .ref z5, .ref z20, .ref z21, .ref z22, .ref z23, .ref z24, .ref z25, .int 0, .ref z26, .ref z27, .ref z28, .int 9, .int 0, .int 0, .ref z6, .ref z29, .ref z7, .int 0, .int 2, .ref z19, .ref z8, .ref z9, .ref z10, .int 0, .ref z11, .int 0, .ref z30, .ref z31, .ref z32, .ref z33, .int 0, .ref z12, .int 0, .int 0, .ref z34, .ref z35, .ref z36, .ref z37, .int 0, .int 0, .int 0, .int 0, .ref z38, .int 0, .ref z39, .ref z40, .ref z41, .ref z42, .int 0, .ref z13, .ref z14, .ref z15, .ref z16, .int 0, .ref z17, .ref z18, .ref z43]))]) [0] rfl
  have hD9 := hD.sub (ws' := [(h0, .inr (12, [.ref z0, .ref z1, .ref z2, .ref z3, .ref z4, .ref z5, .ref z20, .ref z21, .ref z22, .ref z23, .ref z24, .ref z25, .int 0, .ref z26, .ref z27, .ref z28, .int 9, .int 0, .int 0, .ref z6, .ref z29, .ref z7, .int 0, .int 2, .ref z19, .ref z8, .ref z9, .ref z10, .int 0, .ref z11, .int 0, .ref z30, .ref z31, .ref z32, .ref z33, .int 0, .ref z12, .int 0, .int 0, .ref z34, .ref z35, .ref z36, .ref z37, .int 0, .int 0, .int 0, .int 0, .ref z38, .int 0, .ref z39, .ref z40, .ref z41, .ref z42, .int 0, .ref z13, .ref z14, .ref z15, .ref z16, .int 0, .ref z17, .ref z18, .ref z43]))]) [0] (by decide) rfl
  exact W.iret (v := 1) hx hb hr (fun t ht hW => ⟨⟨1, (), rfl, rfl, ⟨by rw [ht]; exact hP9, va_K.moved hW.alike hK, hD9⟩⟩, hS.F ht⟩) hS.2.2 dX12_passAt_22

set_option maxHeartbeats 4000000 in
set_option maxRecDepth 100000 in
/-- X12_passAt -/
theorem kX12_passAt_3_5_0 (l : Launch) (D : va_G) (G : tyG) (h0 : Nat) (z0 : Nat) (z1 : Nat) (z2 : Nat) (z3 : Nat) (z4 : Nat) (z5 : Nat) (z20 : Nat) (z21 : Nat) (z22 : Nat) (z23 : Nat) (z24 : Nat) (z25 : Nat) (z26 : Nat) (z27 : Nat) (z28 : Nat) (z6 : Nat) (z29 : Nat) (z7 : Nat) (z19 : Nat) (z8 : Nat) (z9 : Nat) (z10 : Nat) (z11 : Nat) (z30 : Nat) (z31 : Nat) (z32 : Nat) (z33 : Nat) (z12 : Nat) (z34 : Nat) (z35 : Nat) (z36 : Nat) (z37 : Nat) (z38 : Nat) (z39 : Nat) (z40 : Nat) (z41 : Nat) (z42 : Nat) (z13 : Nat) (z14 : Nat) (z15 : Nat) (z16 : Nat) (z17 : Nat) (z18 : Nat) (z43 : Nat) (sz : Nat) : Met l yX12_passAt wsX12_passAt ({ frames := 1, cells := 0, slots := 0, locals := 23 }) (va_Pc [.ref h0, .int 5, .int 3, .int 0] (wB D G sz [(h0, .inr (12, [.ref z0, .ref z1, .ref z2, .ref z3, .ref z4, .ref z5, .ref z20, .ref z21, .ref z22, .ref z23, .ref z24, .ref z25, .int 0, .ref z26, .ref z27, .ref z28, .int 9, .int 0, .int 0, .ref z6, .ref z29, .ref z7, .int 0, .int 2, .ref z19, .ref z8, .ref z9, .ref z10, .int 0, .ref z11, .int 0, .ref z30, .ref z31, .ref z32, .ref z33, .int 0, .ref z12, .int 0, .int 0, .ref z34, .ref z35, .ref z36, .ref z37, .int 0, .int 0, .int 0, .int 0, .ref z38, .int 0, .ref z39, .ref z40, .ref z41, .ref z42, .int 0, .ref z13, .ref z14, .ref z15, .ref z16, .int 0, .ref z17, .ref z18, .ref z43]))])) (va_Qi (fun (r : Int32) (_ : Unit) => r = (-1)) (fun _ t => wS D G (va_A [(h0, .inr (12, [.ref z0, .ref z1, .ref z2, .ref z3, .ref z4, .ref z5, .ref z20, .ref z21, .ref z22, .ref z23, .ref z24, .ref z25, .int 0, .ref z26, .ref z27, .ref z28, .int 9, .int 0, .int 0, .ref z6, .ref z29, .ref z7, .int 0, .int 2, .ref z19, .ref z8, .ref z9, .ref z10, .int 0, .ref z11, .int 0, .ref z30, .ref z31, .ref z32, .ref z33, .int 0, .ref z12, .int 0, .int 0, .ref z34, .ref z35, .ref z36, .ref z37, .int 0, .int 0, .int 0, .int 0, .ref z38, .int 0, .ref z39, .ref z40, .ref z41, .ref z42, .int 0, .ref z13, .ref z14, .ref z15, .ref z16, .int 0, .ref z17, .ref z18, .ref z43]))] sz) [(h0, .inr (12, [.ref z0, .ref z1, .ref z2, .ref z3, .ref z4, .ref z5, .ref z20, .ref z21, .ref z22, .ref z23, .ref z24, .ref z25, .int 0, .ref z26, .ref z27, .ref z28, .int 9, .int 0, .int 0, .ref z6, .ref z29, .ref z7, .int 0, .int 2, .ref z19, .ref z8, .ref z9, .ref z10, .int 0, .ref z11, .int 0, .ref z30, .ref z31, .ref z32, .ref z33, .int 0, .ref z12, .int 0, .int 0, .ref z34, .ref z35, .ref z36, .ref z37, .int 0, .int 0, .int 0, .int 0, .ref z38, .int 0, .ref z39, .ref z40, .ref z41, .ref z42, .int 0, .ref z13, .ref z14, .ref z15, .ref z16, .int 0, .ref z17, .ref z18, .ref z43]))] t) (va_A [(h0, .inr (12, [.ref z0, .ref z1, .ref z2, .ref z3, .ref z4, .ref z5, .ref z20, .ref z21, .ref z22, .ref z23, .ref z24, .ref z25, .int 0, .ref z26, .ref z27, .ref z28, .int 9, .int 0, .int 0, .ref z6, .ref z29, .ref z7, .int 0, .int 2, .ref z19, .ref z8, .ref z9, .ref z10, .int 0, .ref z11, .int 0, .ref z30, .ref z31, .ref z32, .ref z33, .int 0, .ref z12, .int 0, .int 0, .ref z34, .ref z35, .ref z36, .ref z37, .int 0, .int 0, .int 0, .int 0, .ref z38, .int 0, .ref z39, .ref z40, .ref z41, .ref z42, .int 0, .ref z13, .ref z14, .ref z15, .ref z16, .int 0, .ref z17, .ref z18, .ref z43]))] sz)) 0 0 (va_A [(h0, .inr (12, [.ref z0, .ref z1, .ref z2, .ref z3, .ref z4, .ref z5, .ref z20, .ref z21, .ref z22, .ref z23, .ref z24, .ref z25, .int 0, .ref z26, .ref z27, .ref z28, .int 9, .int 0, .int 0, .ref z6, .ref z29, .ref z7, .int 0, .int 2, .ref z19, .ref z8, .ref z9, .ref z10, .int 0, .ref z11, .int 0, .ref z30, .ref z31, .ref z32, .ref z33, .int 0, .ref z12, .int 0, .int 0, .ref z34, .ref z35, .ref z36, .ref z37, .int 0, .int 0, .int 0, .int 0, .ref z38, .int 0, .ref z39, .ref z40, .ref z41, .ref z42, .int 0, .ref z13, .ref z14, .ref z15, .ref z16, .int 0, .ref z17, .ref z18, .ref z43]))] sz) := by
  refine Met.ofW (cc := cX12_passAt) (maxL := 4) (ret := (some .int)) (by decide) rfl ?_
  intro p e s m args below meth c s₁ B hml hv
  obtain ⟨rfl, hsz, hP, hK, hD0, hN⟩ := hv
  have hx := B.exec
  have hb := B.bytes
  have hr := B.returns
  have hts := atoms_spec (ws := wsX12_passAt) B.pre
  have hown : s.vm.findClass RX12 = some m.cls := findClass_of_methodNamed B.named
  have hlocks := B.notSynchronized
  subst hsz
  have hD := hD0.self (sz := s.heap.size)
  generalize hAe : va_A [(h0, .inr (12, [.ref z0, .ref z1, .ref z2, .ref z3, .ref z4, .ref z5, .ref z20, .ref z21, .ref z22, .ref z23, .ref z24, .ref z25, .int 0, .ref z26, .ref z27, .ref z28, .int 9, .int 0, .int 0, .ref z6, .ref z29, .ref z7, .int 0, .int 2, .ref z19, .ref z8, .ref z9, .ref z10, .int 0, .ref z11, .int 0, .ref z30, .ref z31, .ref z32, .ref z33, .int 0, .ref z12, .int 0, .int 0, .ref z34, .ref z35, .ref z36, .ref z37, .int 0, .int 0, .int 0, .int 0, .ref z38, .int 0, .ref z39, .ref z40, .ref z41, .ref z42, .int 0, .ref z13, .ref z14, .ref z15, .ref z16, .int 0, .ref z17, .ref z18, .ref z43]))] s.heap.size = A at hD ⊢
  have hA : ∀ q : Nat, s.heap.size ≤ q → A q := fun q h => by rw [← hAe]; exact Or.inr h
  have hS : va_S A s.heap s.heap [] := va_S.rf
  have hP : va_P D vwCl [(h0, .inr (12, [.ref z0, .ref z1, .ref z2, .ref z3, .ref z4, .ref z5, .ref z20, .ref z21, .ref z22, .ref z23, .ref z24, .ref z25, .int 0, .ref z26, .ref z27, .ref z28, .int 9, .int 0, .int 0, .ref z6, .ref z29, .ref z7, .int 0, .int 2, .ref z19, .ref z8, .ref z9, .ref z10, .int 0, .ref z11, .int 0, .ref z30, .ref z31, .ref z32, .ref z33, .int 0, .ref z12, .int 0, .int 0, .ref z34, .ref z35, .ref z36, .ref z37, .int 0, .int 0, .int 0, .int 0, .ref z38, .int 0, .ref z39, .ref z40, .ref z41, .ref z42, .int 0, .ref z13, .ref z14, .ref z15, .ref z16, .int 0, .ref z17, .ref z18, .ref z43]))] s.heap := hP
  have hl := lv_entry ([.ref h0, .int 5, .int 3, .int 0]) (n := 4) (Nat.le_of_ble_eq_true rfl)
  rw [lg_entry_eq]
  generalize (lg_sl ([.ref h0, .int 5, .int 3, .int 0]) ++ List.replicate (4 - (lg_sl ([.ref h0, .int 5, .int 3, .int 0])).length) Slot.unset).toArray = ls at hl ⊢
  have hl : lv_has ls 4 [(0, .ref h0), (1, .int 5), (2, .int 3), (3, .int 0)] := hl
  refine lv_iload_n hx hb dX12_passAt_0 rfl (lv_at hl 1 rfl) ?_
  refine lv_aload_n hx hb dX12_passAt_1 rfl (lv_at hl 0 rfl) ?_
  have hPc := hP.sub (ws' := [(h0, .inr (12, [.ref z0, .ref z1, .ref z2, .ref z3, .ref z4, .ref z5, .ref z20, .ref z21, .ref z22, .ref z23, .ref z24, .ref z25, .int 0, .ref z26, .ref z27, .ref z28, .int 9, .int 0, .int 0, .ref z6, .ref z29, .ref z7, .int 0, .int 2, .ref z19, .ref z8, .ref z9, .ref z10, .int 0, .ref z11, .int 0, .ref z30, .ref z31, .ref z32, .ref z33, .int 0, .ref z12, .int 0, .int 0, .ref z34, .ref z35, .ref z36, .ref z37, .int 0, .int 0, .int 0, .int 0, .ref z38, .int 0, .ref z39, .ref z40, .ref z41, .ref z42, .int 0, .ref z13, .ref z14, .ref z15, .ref z16, .int 0, .ref z17, .ref z18, .ref z43]))]) [0] rfl
  have hDc := hD.sub (ws' := [(h0, .inr (12, [.ref z0, .ref z1, .ref z2, .ref z3, .ref z4, .ref z5, .ref z20, .ref z21, .ref z22, .ref z23, .ref z24, .ref z25, .int 0, .ref z26, .ref z27, .ref z28, .int 9, .int 0, .int 0, .ref z6, .ref z29, .ref z7, .int 0, .int 2, .ref z19, .ref z8, .ref z9, .ref z10, .int 0, .ref z11, .int 0, .ref z30, .ref z31, .ref z32, .ref z33, .int 0, .ref z12, .int 0, .int 0, .ref z34, .ref z35, .ref z36, .ref z37, .int 0, .int 0, .int 0, .int 0, .ref z38, .int 0, .ref z39, .ref z40, .ref z41, .ref z42, .int 0, .ref z13, .ref z14, .ref z15, .ref z16, .int 0, .ref z17, .ref z18, .ref z43]))]) [0] (by decide) rfl
  have hFc := va_free (wc := [(h0, .inr (12, [.ref z0, .ref z1, .ref z2, .ref z3, .ref z4, .ref z5, .ref z20, .ref z21, .ref z22, .ref z23, .ref z24, .ref z25, .int 0, .ref z26, .ref z27, .ref z28, .int 9, .int 0, .int 0, .ref z6, .ref z29, .ref z7, .int 0, .int 2, .ref z19, .ref z8, .ref z9, .ref z10, .int 0, .ref z11, .int 0, .ref z30, .ref z31, .ref z32, .ref z33, .int 0, .ref z12, .int 0, .int 0, .ref z34, .ref z35, .ref z36, .ref z37, .int 0, .int 0, .int 0, .int 0, .ref z38, .int 0, .ref z39, .ref z40, .ref z41, .ref z42, .int 0, .ref z13, .ref z14, .ref z15, .ref z16, .int 0, .ref z17, .ref z18, .ref z43]))]) hD hS hA [0] rfl
  refine va_calli (va_runV (As := []) (rest := [.int 5]) ⟨hx, hb, hml, hown, hts⟩ (kX12_gens l D G h0 z0 z1 z2 z3 z4 z5 z20 z21 z22 z23 z24 z25 z26 z27 z28 z6 z29 z7 z19 z8 z9 z10 z11 z30 z31 z32 z33 z12 z34 z35 z36 z37 z38 z39 z40 z41 z42 z13 z14 z15 z16 z17 z18 z43 0 s.heap.size) (cwV 0 hts gX12_passAt_X12_gens rfl rfl rfl (by decide +kernel) ⟨Nat.le_of_ble_eq_true rfl, Nat.le_of_ble_eq_true rfl⟩) ⟨wB_blind, va_recv hK hPc (ci := 12) (q0 := 0) rfl rfl, wB_pre hPc hK hDc hN⟩ rfl rfl hl.1 rfl (lv_room (Nat.le_of_ble_eq_true rfl)) dX12_passAt_2 ⟨Nat.le_of_ble_eq_true rfl, Nat.le_of_ble_eq_true rfl⟩) hS (fun q _ h => hFc q h) hFc (fun r1 u t H1 locs ht hvm hr1 hB hz1 hk1 hS => ?_)
  obtain ⟨hP1, hK1, hD1⟩ := hB
  rw [ht] at hP1
  obtain ⟨hP, hD⟩ := va_join (wr := []) (w1 := [(h0, .inr (12, [.ref z0, .ref z1, .ref z2, .ref z3, .ref z4, .ref z5, .ref z20, .ref z21, .ref z22, .ref z23, .ref z24, .ref z25, .int 0, .ref z26, .ref z27, .ref z28, .int 9, .int 0, .int 0, .ref z6, .ref z29, .ref z7, .int 0, .int 2, .ref z19, .ref z8, .ref z9, .ref z10, .int 0, .ref z11, .int 0, .ref z30, .ref z31, .ref z32, .ref z33, .int 0, .ref z12, .int 0, .int 0, .ref z34, .ref z35, .ref z36, .ref z37, .int 0, .int 0, .int 0, .int 0, .ref z38, .int 0, .ref z39, .ref z40, .ref z41, .ref z42, .int 0, .ref z13, .ref z14, .ref z15, .ref z16, .int 0, .ref z17, .ref z18, .ref z43]))]) hP hD [0] [] rfl rfl (by decide) (by decide) hk1 hFc hP1 hD1
  clear hPc hDc
  generalize H1 = H at hP hS ⊢
  have hP : va_P D vwCl [(h0, .inr (12, [.ref z0, .ref z1, .ref z2, .ref z3, .ref z4, .ref z5, .ref z20, .ref z21, .ref z22, .ref z23, .ref z24, .ref z25, .int 0, .ref z26, .ref z27, .ref z28, .int 9, .int 0, .int 0, .ref z6, .ref z29, .ref z7, .int 0, .int 2, .ref z19, .ref z8, .ref z9, .ref z10, .int 0, .ref z11, .int 0, .ref z30, .ref z31, .ref z32, .ref z33, .int 0, .ref z12, .int 0, .int 0, .ref z34, .ref z35, .ref z36, .ref z37, .int 0, .int 0, .int 0, .int 0, .ref z38, .int 0, .ref z39, .ref z40, .ref z41, .ref z42, .int 0, .ref z13, .ref z14, .ref z15, .ref z16, .int 0, .ref z17, .ref z18, .ref z43]))] H := hP
  have hD : va_D A [(h0, .inr (12, [.ref z0, .ref z1, .ref z2, .ref z3, .ref z4, .ref z5, .ref z20, .ref z21, .ref z22, .ref z23, .ref z24, .ref z25, .int 0, .ref z26, .ref z27, .ref z28, .int 9, .int 0, .int 0, .ref z6, .ref z29, .ref z7, .int 0, .int 2, .ref z19, .ref z8, .ref z9, .ref z10, .int 0, .ref z11, .int 0, .ref z30, .ref z31, .ref z32, .ref z33, .int 0, .ref z12, .int 0, .int 0, .ref z34, .ref z35, .ref z36, .ref z37, .int 0, .int 0, .int 0, .int 0, .ref z38, .int 0, .ref z39, .ref z40, .ref z41, .ref z42, .int 0, .ref z13, .ref z14, .ref z15, .ref z16, .int 0, .ref z17, .ref z18, .ref z43]))] := hD
  subst hr1
  refine lv_iload_n hx hb dX12_passAt_5 rfl (lv_at hl 2 rfl) ?_
  refine lv_iconst (v := 1) hx hb dX12_passAt_6 (by decide) ?_
  refine lv_isub hx hb dX12_passAt_7 ?_
  refine wk_i 2 (by decide) ?_
  refine lv_iload_n hx hb dX12_passAt_8 rfl (lv_at hl 3 rfl) ?_
  refine lv_isub hx hb dX12_passAt_9 ?_
  refine wk_i 2 (by decide) ?_
  have hPc := hP.sub (ws' := []) [] rfl
  have hDc := hD.sub (ws' := []) [] (by decide) rfl
  have hFc := va_free (wc := []) hD hS hA [] rfl
  refine va_calli (va_runS (As := [.int 2, .int 2]) (rest := [.int 5]) ⟨hx, hb, hml, hown, hts⟩ (kX12_power_2 l D G  H.size) (va_cwS 2 hts gX12_passAt_X12_power rfl rfl rfl (by decide +kernel) ⟨Nat.le_of_ble_eq_true rfl, Nat.le_of_ble_eq_true rfl⟩) ⟨wB_blind, wB_pre hPc hK hDc hN⟩ rfl rfl hl.1 rfl (lv_room (Nat.le_of_ble_eq_true rfl)) dX12_passAt_10 ⟨Nat.le_of_ble_eq_true rfl, Nat.le_of_ble_eq_true rfl⟩) hS (fun q _ h => hFc q h) hFc (fun r2 u t H1 locs ht hvm hr2 hB hz1 hk1 hS => ?_)
  obtain ⟨hP, hD⟩ := va_join (wr := [(h0, .inr (12, [.ref z0, .ref z1, .ref z2, .ref z3, .ref z4, .ref z5, .ref z20, .ref z21, .ref z22, .ref z23, .ref z24, .ref z25, .int 0, .ref z26, .ref z27, .ref z28, .int 9, .int 0, .int 0, .ref z6, .ref z29, .ref z7, .int 0, .int 2, .ref z19, .ref z8, .ref z9, .ref z10, .int 0, .ref z11, .int 0, .ref z30, .ref z31, .ref z32, .ref z33, .int 0, .ref z12, .int 0, .int 0, .ref z34, .ref z35, .ref z36, .ref z37, .int 0, .int 0, .int 0, .int 0, .ref z38, .int 0, .ref z39, .ref z40, .ref z41, .ref z42, .int 0, .ref z13, .ref z14, .ref z15, .ref z16, .int 0, .ref z17, .ref z18, .ref z43]))]) (w1 := []) hP hD [] [0] rfl rfl (by decide) (by decide) hk1 hFc wP_nil wD_nil
  clear hPc hDc
  generalize H1 = H at hP hS ⊢
  have hP : va_P D vwCl [(h0, .inr (12, [.ref z0, .ref z1, .ref z2, .ref z3, .ref z4, .ref z5, .ref z20, .ref z21, .ref z22, .ref z23, .ref z24, .ref z25, .int 0, .ref z26, .ref z27, .ref z28, .int 9, .int 0, .int 0, .ref z6, .ref z29, .ref z7, .int 0, .int 2, .ref z19, .ref z8, .ref z9, .ref z10, .int 0, .ref z11, .int 0, .ref z30, .ref z31, .ref z32, .ref z33, .int 0, .ref z12, .int 0, .int 0, .ref z34, .ref z35, .ref z36, .ref z37, .int 0, .int 0, .int 0, .int 0, .ref z38, .int 0, .ref z39, .ref z40, .ref z41, .ref z42, .int 0, .ref z13, .ref z14, .ref z15, .ref z16, .int 0, .ref z17, .ref z18, .ref z43]))] H := hP
  have hD : va_D A [(h0, .inr (12, [.ref z0, .ref z1, .ref z2, .ref z3, .ref z4, .ref z5, .ref z20, .ref z21, .ref z22, .ref z23, .ref z24, .ref z25, .int 0, .ref z26, .ref z27, .ref z28, .int 9, .int 0, .int 0, .ref z6, .ref z29, .ref z7, .int 0, .int 2, .ref z19, .ref z8, .ref z9, .ref z10, .int 0, .ref z11, .int 0, .ref z30, .ref z31, .ref z32, .ref z33, .int 0, .ref z12, .int 0, .int 0, .ref z34, .ref z35, .ref z36, .ref z37, .int 0, .int 0, .int 0, .int 0, .ref z38, .int 0, .ref z39, .ref z40, .ref z41, .ref z42, .int 0, .ref z13, .ref z14, .ref z15, .ref z16, .int 0, .ref z17, .ref z18, .ref z43]))] := hD
  subst hr2
  refine lv_idiv hx hb dX12_passAt_13 (by decide) ?_
  refine wk_i 1 (by decide) ?_
  refine lv_aload_n hx hb dX12_passAt_14 rfl (lv_at hl 0 rfl) ?_
  have hPc := hP.sub (ws' := [(h0, .inr (12, [.ref z0, .ref z1, .ref z2, .ref z3, .ref z4, .ref z5, .ref z20, .ref z21, .ref z22, .ref z23, .ref z24, .ref z25, .int 0, .ref z26, .ref z27, .ref z28, .int 9, .int 0, .int 0, .ref z6, .ref z29, .ref z7, .int 0, .int 2, .ref z19, .ref z8, .ref z9, .ref z10, .int 0, .ref z11, .int 0, .ref z30, .ref z31, .ref z32, .ref z33, .int 0, .ref z12, .int 0, .int 0, .ref z34, .ref z35, .ref z36, .ref z37, .int 0, .int 0, .int 0, .int 0, .ref z38, .int 0, .ref z39, .ref z40, .ref z41, .ref z42, .int 0, .ref z13, .ref z14, .ref z15, .ref z16, .int 0, .ref z17, .ref z18, .ref z43]))]) [0] rfl
  have hDc := hD.sub (ws' := [(h0, .inr (12, [.ref z0, .ref z1, .ref z2, .ref z3, .ref z4, .ref z5, .ref z20, .ref z21, .ref z22, .ref z23, .ref z24, .ref z25, .int 0, .ref z26, .ref z27, .ref z28, .int 9, .int 0, .int 0, .ref z6, .ref z29, .ref z7, .int 0, .int 2, .ref z19, .ref z8, .ref z9, .ref z10, .int 0, .ref z11, .int 0, .ref z30, .ref z31, .ref z32, .ref z33, .int 0, .ref z12, .int 0, .int 0, .ref z34, .ref z35, .ref z36, .ref z37, .int 0, .int 0, .int 0, .int 0, .ref z38, .int 0, .ref z39, .ref z40, .ref z41, .ref z42, .int 0, .ref z13, .ref z14, .ref z15, .ref z16, .int 0, .ref z17, .ref z18, .ref z43]))]) [0] (by decide) rfl
  have hFc := va_free (wc := [(h0, .inr (12, [.ref z0, .ref z1, .ref z2, .ref z3, .ref z4, .ref z5, .ref z20, .ref z21, .ref z22, .ref z23, .ref z24, .ref z25, .int 0, .ref z26, .ref z27, .ref z28, .int 9, .int 0, .int 0, .ref z6, .ref z29, .ref z7, .int 0, .int 2, .ref z19, .ref z8, .ref z9, .ref z10, .int 0, .ref z11, .int 0, .ref z30, .ref z31, .ref z32, .ref z33, .int 0, .ref z12, .int 0, .int 0, .ref z34, .ref z35, .ref z36, .ref z37, .int 0, .int 0, .int 0, .int 0, .ref z38, .int 0, .ref z39, .ref z40, .ref z41, .ref z42, .int 0, .ref z13, .ref z14, .ref z15, .ref z16, .int 0, .ref z17, .ref z18, .ref z43]))]) hD hS hA [0] rfl
  refine va_calli (va_runV (As := []) (rest := [.int 1]) ⟨hx, hb, hml, hown, hts⟩ (kX12_gens l D G h0 z0 z1 z2 z3 z4 z5 z20 z21 z22 z23 z24 z25 z26 z27 z28 z6 z29 z7 z19 z8 z9 z10 z11 z30 z31 z32 z33 z12 z34 z35 z36 z37 z38 z39 z40 z41 z42 z13 z14 z15 z16 z17 z18 z43 0 H.size) (cwV 0 hts gX12_passAt_X12_gens rfl rfl rfl (by decide +kernel) ⟨Nat.le_of_ble_eq_true rfl, Nat.le_of_ble_eq_true rfl⟩) ⟨wB_blind, va_recv hK hPc (ci := 12) (q0 := 0) rfl rfl, wB_pre hPc hK hDc hN⟩ rfl rfl hl.1 rfl (lv_room (Nat.le_of_ble_eq_true rfl)) dX12_passAt_15 ⟨Nat.le_of_ble_eq_true rfl, Nat.le_of_ble_eq_true rfl⟩) hS (fun q _ h => hFc q h) hFc (fun r3 u t H1 locs ht hvm hr3 hB hz1 hk1 hS => ?_)
  obtain ⟨hP1, hK1, hD1⟩ := hB
  rw [ht] at hP1
  obtain ⟨hP, hD⟩ := va_join (wr := []) (w1 := [(h0, .inr (12, [.ref z0, .ref z1, .ref z2, .ref z3, .ref z4, .ref z5, .ref z20, .ref z21, .ref z22, .ref z23, .ref z24, .ref z25, .int 0, .ref z26, .ref z27, .ref z28, .int 9, .int 0, .int 0, .ref z6, .ref z29, .ref z7, .int 0, .int 2, .ref z19, .ref z8, .ref z9, .ref z10, .int 0, .ref z11, .int 0, .ref z30, .ref z31, .ref z32, .ref z33, .int 0, .ref z12, .int 0, .int 0, .ref z34, .ref z35, .ref z36, .ref z37, .int 0, .int 0, .int 0, .int 0, .ref z38, .int 0, .ref z39, .ref z40, .ref z41, .ref z42, .int 0, .ref z13, .ref z14, .ref z15, .ref z16, .int 0, .ref z17, .ref z18, .ref z43]))]) hP hD [0] [] rfl rfl (by decide) (by decide) hk1 hFc hP1 hD1
  clear hPc hDc
  generalize H1 = H at hP hS ⊢
  have hP : va_P D vwCl [(h0, .inr (12, [.ref z0, .ref z1, .ref z2, .ref z3, .ref z4, .ref z5, .ref z20, .ref z21, .ref z22, .ref z23, .ref z24, .ref z25, .int 0, .ref z26, .ref z27, .ref z28, .int 9, .int 0, .int 0, .ref z6, .ref z29, .ref z7, .int 0, .int 2, .ref z19, .ref z8, .ref z9, .ref z10, .int 0, .ref z11, .int 0, .ref z30, .ref z31, .ref z32, .ref z33, .int 0, .ref z12, .int 0, .int 0, .ref z34, .ref z35, .ref z36, .ref z37, .int 0, .int 0, .int 0, .int 0, .ref z38, .int 0, .ref z39, .ref z40, .ref z41, .ref z42, .int 0, .ref z13, .ref z14, .ref z15, .ref z16, .int 0, .ref z17, .ref z18, .ref z43]))] H := hP
  have hD : va_D A [(h0, .inr (12, [.ref z0, .ref z1, .ref z2, .ref z3, .ref z4, .ref z5, .ref z20, .ref z21, .ref z22, .ref z23, .ref z24, .ref z25, .int 0, .ref z26, .ref z27, .ref z28, .int 9, .int 0, .int 0, .ref z6, .ref z29, .ref z7, .int 0, .int 2, .ref z19, .ref z8, .ref z9, .ref z10, .int 0, .ref z11, .int 0, .ref z30, .ref z31, .ref z32, .ref z33, .int 0, .ref z12, .int 0, .int 0, .ref z34, .ref z35, .ref z36, .ref z37, .int 0, .int 0, .int 0, .int 0, .ref z38, .int 0, .ref z39, .ref z40, .ref z41, .ref z42, .int 0, .ref z13, .ref z14, .ref z15, .ref z16, .int 0, .ref z17, .ref z18, .ref z43]))] := hD
  subst hr3
  refine lv_irem hx hb dX12_passAt_18 (by decide) ?_
  refine wk_i 1 (by decide) ?_
  have hPc := hP.sub (ws' := []) [] rfl
  have hDc := hD.sub (ws' := []) [] (by decide) rfl
  have hFc := va_free (wc := []) hD hS hA [] rfl
  refine va_calli (va_runS (As := [.int 1]) (rest := []) ⟨hx, hb, hml, hown, hts⟩ (kX12_passOf_1 l D G  H.size) (va_cwS 1 hts gX12_passAt_X12_passOf rfl rfl rfl (by decide +kernel) ⟨Nat.le_of_ble_eq_true rfl, Nat.le_of_ble_eq_true rfl⟩) ⟨wB_blind, wB_pre hPc hK hDc hN⟩ rfl rfl hl.1 rfl (lv_room (Nat.le_of_ble_eq_true rfl)) dX12_passAt_19 ⟨Nat.le_of_ble_eq_true rfl, Nat.le_of_ble_eq_true rfl⟩) hS (fun q _ h => hFc q h) hFc (fun r4 u t H1 locs ht hvm hr4 hB hz1 hk1 hS => ?_)
  obtain ⟨hP, hD⟩ := va_join (wr := [(h0, .inr (12, [.ref z0, .ref z1, .ref z2, .ref z3, .ref z4, .ref z5, .ref z20, .ref z21, .ref z22, .ref z23, .ref z24, .ref z25, .int 0, .ref z26, .ref z27, .ref z28, .int 9, .int 0, .int 0, .ref z6, .ref z29, .ref z7, .int 0, .int 2, .ref z19, .ref z8, .ref z9, .ref z10, .int 0, .ref z11, .int 0, .ref z30, .ref z31, .ref z32, .ref z33, .int 0, .ref z12, .int 0, .int 0, .ref z34, .ref z35, .ref z36, .ref z37, .int 0, .int 0, .int 0, .int 0, .ref z38, .int 0, .ref z39, .ref z40, .ref z41, .ref z42, .int 0, .ref z13, .ref z14, .ref z15, .ref z16, .int 0, .ref z17, .ref z18, .ref z43]))]) (w1 := []) hP hD [] [0] rfl rfl (by decide) (by decide) hk1 hFc wP_nil wD_nil
  clear hPc hDc
  generalize H1 = H at hP hS ⊢
  have hP : va_P D vwCl [(h0, .inr (12, [.ref z0, .ref z1, .ref z2, .ref z3, .ref z4, .ref z5, .ref z20, .ref z21, .ref z22, .ref z23, .ref z24, .ref z25, .int 0, .ref z26, .ref z27, .ref z28, .int 9, .int 0, .int 0, .ref z6, .ref z29, .ref z7, .int 0, .int 2, .ref z19, .ref z8, .ref z9, .ref z10, .int 0, .ref z11, .int 0, .ref z30, .ref z31, .ref z32, .ref z33, .int 0, .ref z12, .int 0, .int 0, .ref z34, .ref z35, .ref z36, .ref z37, .int 0, .int 0, .int 0, .int 0, .ref z38, .int 0, .ref z39, .ref z40, .ref z41, .ref z42, .int 0, .ref z13, .ref z14, .ref z15, .ref z16, .int 0, .ref z17, .ref z18, .ref z43]))] H := hP
  have hD : va_D A [(h0, .inr (12, [.ref z0, .ref z1, .ref z2, .ref z3, .ref z4, .ref z5, .ref z20, .ref z21, .ref z22, .ref z23, .ref z24, .ref z25, .int 0, .ref z26, .ref z27, .ref z28, .int 9, .int 0, .int 0, .ref z6, .ref z29, .ref z7, .int 0, .int 2, .ref z19, .ref z8, .ref z9, .ref z10, .int 0, .ref z11, .int 0, .ref z30, .ref z31, .ref z32, .ref z33, .int 0, .ref z12, .int 0, .int 0, .ref z34, .ref z35, .ref z36, .ref z37, .int 0, .int 0, .int 0, .int 0, .ref z38, .int 0, .ref z39, .ref z40, .ref z41, .ref z42, .int 0, .ref z13, .ref z14, .ref z15, .ref z16, .int 0, .ref z17, .ref z18, .ref z43]))] := hD
  subst hr4
  have hP9 := hP.sub (ws' := [(h0, .inr (12, [.ref z0, .ref z1, .ref z2, .ref z3, .ref z4, .ref z5, .ref z20, .ref z21, .ref z22, .ref z23, .ref z24, .ref z25, .int 0, .ref z26, .ref z27, .ref z28, .int 9, .int 0, .int 0, .ref z6, .ref z29, .ref z7, .int 0, .int 2, .ref z19, .ref z8, .ref z9, .ref z10, .int 0, .ref z11, .int 0, .ref z30, .ref z31, .ref z32, .ref z33, .int 0, .ref z12, .int 0, .int 0, .ref z34, .ref z35, .ref z36, .ref z37, .int 0, .int 0, .int 0, .int 0, .ref z38, .int 0, .ref z39, .ref z40, .ref z41, .ref z42, .int 0, .ref z13, .ref z14, .ref z15, .ref z16, .int 0, .ref z17, .ref z18, .ref z43]))]) [0] rfl
  have hD9 := hD.sub (ws' := [(h0, .inr (12, [.ref z0, .ref z1, .ref z2, .ref z3, .ref z4, .ref z5, .ref z20, .ref z21, .ref z22, .ref z23, .ref z24, .ref z25, .int 0, .ref z26, .ref z27, .ref z28, .int 9, .int 0, .int 0, .ref z6, .ref z29, .ref z7, .int 0, .int 2, .ref z19, .ref z8, .ref z9, .ref z10, .int 0, .ref z11, .int 0, .ref z30, .ref z31, .ref z32, .ref z33, .int 0, .ref z12, .int 0, .int 0, .ref z34, .ref z35, .ref z36, .ref z37, .int 0, .int 0, .int 0, .int 0, .ref z38, .int 0, .ref z39, .ref z40, .ref z41, .ref z42, .int 0, .ref z13, .ref z14, .ref z15, .ref z16, .int 0, .ref z17, .ref z18, .ref z43]))]) [0] (by decide) rfl
  exact W.iret (v := (-1)) hx hb hr (fun t ht hW => ⟨⟨(-1), (), rfl, rfl, ⟨by rw [ht]; exact hP9, va_K.moved hW.alike hK, hD9⟩⟩, hS.F ht⟩) hS.2.2 dX12_passAt_22

set_option maxHeartbeats 4000000 in
set_option maxRecDepth 100000 in
/-- X12_passAt -/
theorem kX12_passAt_3_5_1 (l : Launch) (D : va_G) (G : tyG) (h0 : Nat) (z0 : Nat) (z1 : Nat) (z2 : Nat) (z3 : Nat) (z4 : Nat) (z5 : Nat) (z20 : Nat) (z21 : Nat) (z22 : Nat) (z23 : Nat) (z24 : Nat) (z25 : Nat) (z26 : Nat) (z27 : Nat) (z28 : Nat) (z6 : Nat) (z29 : Nat) (z7 : Nat) (z19 : Nat) (z8 : Nat) (z9 : Nat) (z10 : Nat) (z11 : Nat) (z30 : Nat) (z31 : Nat) (z32 : Nat) (z33 : Nat) (z12 : Nat) (z34 : Nat) (z35 : Nat) (z36 : Nat) (z37 : Nat) (z38 : Nat) (z39 : Nat) (z40 : Nat) (z41 : Nat) (z42 : Nat) (z13 : Nat) (z14 : Nat) (z15 : Nat) (z16 : Nat) (z17 : Nat) (z18 : Nat) (z43 : Nat) (sz : Nat) : Met l yX12_passAt wsX12_passAt ({ frames := 1, cells := 0, slots := 0, locals := 23 }) (va_Pc [.ref h0, .int 5, .int 3, .int 1] (wB D G sz [(h0, .inr (12, [.ref z0, .ref z1, .ref z2, .ref z3, .ref z4, .ref z5, .ref z20, .ref z21, .ref z22, .ref z23, .ref z24, .ref z25, .int 0, .ref z26, .ref z27, .ref z28, .int 9, .int 0, .int 0, .ref z6, .ref z29, .ref z7, .int 0, .int 2, .ref z19, .ref z8, .ref z9, .ref z10, .int 0, .ref z11, .int 0, .ref z30, .ref z31, .ref z32, .ref z33, .int 0, .ref z12, .int 0, .int 0, .ref z34, .ref z35, .ref z36, .ref z37, .int 0, .int 0, .int 0, .int 0, .ref z38, .int 0, .ref z39, .ref z40, .ref z41, .ref z42, .int 0, .ref z13, .ref z14, .ref z15, .ref z16, .int 0, .ref z17, .ref z18, .ref z43]))])) (va_Qi (fun (r : Int32) (_ : Unit) => r = 1) (fun _ t => wS D G (va_A [(h0, .inr (12, [.ref z0, .ref z1, .ref z2, .ref z3, .ref z4, .ref z5, .ref z20, .ref z21, .ref z22, .ref z23, .ref z24, .ref z25, .int 0, .ref z26, .ref z27, .ref z28, .int 9, .int 0, .int 0, .ref z6, .ref z29, .ref z7, .int 0, .int 2, .ref z19, .ref z8, .ref z9, .ref z10, .int 0, .ref z11, .int 0, .ref z30, .ref z31, .ref z32, .ref z33, .int 0, .ref z12, .int 0, .int 0, .ref z34, .ref z35, .ref z36, .ref z37, .int 0, .int 0, .int 0, .int 0, .ref z38, .int 0, .ref z39, .ref z40, .ref z41, .ref z42, .int 0, .ref z13, .ref z14, .ref z15, .ref z16, .int 0, .ref z17, .ref z18, .ref z43]))] sz) [(h0, .inr (12, [.ref z0, .ref z1, .ref z2, .ref z3, .ref z4, .ref z5, .ref z20, .ref z21, .ref z22, .ref z23, .ref z24, .ref z25, .int 0, .ref z26, .ref z27, .ref z28, .int 9, .int 0, .int 0, .ref z6, .ref z29, .ref z7, .int 0, .int 2, .ref z19, .ref z8, .ref z9, .ref z10, .int 0, .ref z11, .int 0, .ref z30, .ref z31, .ref z32, .ref z33, .int 0, .ref z12, .int 0, .int 0, .ref z34, .ref z35, .ref z36, .ref z37, .int 0, .int 0, .int 0, .int 0, .ref z38, .int 0, .ref z39, .ref z40, .ref z41, .ref z42, .int 0, .ref z13, .ref z14, .ref z15, .ref z16, .int 0, .ref z17, .ref z18, .ref z43]))] t) (va_A [(h0, .inr (12, [.ref z0, .ref z1, .ref z2, .ref z3, .ref z4, .ref z5, .ref z20, .ref z21, .ref z22, .ref z23, .ref z24, .ref z25, .int 0, .ref z26, .ref z27, .ref z28, .int 9, .int 0, .int 0, .ref z6, .ref z29, .ref z7, .int 0, .int 2, .ref z19, .ref z8, .ref z9, .ref z10, .int 0, .ref z11, .int 0, .ref z30, .ref z31, .ref z32, .ref z33, .int 0, .ref z12, .int 0, .int 0, .ref z34, .ref z35, .ref z36, .ref z37, .int 0, .int 0, .int 0, .int 0, .ref z38, .int 0, .ref z39, .ref z40, .ref z41, .ref z42, .int 0, .ref z13, .ref z14, .ref z15, .ref z16, .int 0, .ref z17, .ref z18, .ref z43]))] sz)) 0 0 (va_A [(h0, .inr (12, [.ref z0, .ref z1, .ref z2, .ref z3, .ref z4, .ref z5, .ref z20, .ref z21, .ref z22, .ref z23, .ref z24, .ref z25, .int 0, .ref z26, .ref z27, .ref z28, .int 9, .int 0, .int 0, .ref z6, .ref z29, .ref z7, .int 0, .int 2, .ref z19, .ref z8, .ref z9, .ref z10, .int 0, .ref z11, .int 0, .ref z30, .ref z31, .ref z32, .ref z33, .int 0, .ref z12, .int 0, .int 0, .ref z34, .ref z35, .ref z36, .ref z37, .int 0, .int 0, .int 0, .int 0, .ref z38, .int 0, .ref z39, .ref z40, .ref z41, .ref z42, .int 0, .ref z13, .ref z14, .ref z15, .ref z16, .int 0, .ref z17, .ref z18, .ref z43]))] sz) := by
  refine Met.ofW (cc := cX12_passAt) (maxL := 4) (ret := (some .int)) (by decide) rfl ?_
  intro p e s m args below meth c s₁ B hml hv
  obtain ⟨rfl, hsz, hP, hK, hD0, hN⟩ := hv
  have hx := B.exec
  have hb := B.bytes
  have hr := B.returns
  have hts := atoms_spec (ws := wsX12_passAt) B.pre
  have hown : s.vm.findClass RX12 = some m.cls := findClass_of_methodNamed B.named
  have hlocks := B.notSynchronized
  subst hsz
  have hD := hD0.self (sz := s.heap.size)
  generalize hAe : va_A [(h0, .inr (12, [.ref z0, .ref z1, .ref z2, .ref z3, .ref z4, .ref z5, .ref z20, .ref z21, .ref z22, .ref z23, .ref z24, .ref z25, .int 0, .ref z26, .ref z27, .ref z28, .int 9, .int 0, .int 0, .ref z6, .ref z29, .ref z7, .int 0, .int 2, .ref z19, .ref z8, .ref z9, .ref z10, .int 0, .ref z11, .int 0, .ref z30, .ref z31, .ref z32, .ref z33, .int 0, .ref z12, .int 0, .int 0, .ref z34, .ref z35, .ref z36, .ref z37, .int 0, .int 0, .int 0, .int 0, .ref z38, .int 0, .ref z39, .ref z40, .ref z41, .ref z42, .int 0, .ref z13, .ref z14, .ref z15, .ref z16, .int 0, .ref z17, .ref z18, .ref z43]))] s.heap.size = A at hD ⊢
  have hA : ∀ q : Nat, s.heap.size ≤ q → A q := fun q h => by rw [← hAe]; exact Or.inr h
  have hS : va_S A s.heap s.heap [] := va_S.rf
  have hP : va_P D vwCl [(h0, .inr (12, [.ref z0, .ref z1, .ref z2, .ref z3, .ref z4, .ref z5, .ref z20, .ref z21, .ref z22, .ref z23, .ref z24, .ref z25, .int 0, .ref z26, .ref z27, .ref z28, .int 9, .int 0, .int 0, .ref z6, .ref z29, .ref z7, .int 0, .int 2, .ref z19, .ref z8, .ref z9, .ref z10, .int 0, .ref z11, .int 0, .ref z30, .ref z31, .ref z32, .ref z33, .int 0, .ref z12, .int 0, .int 0, .ref z34, .ref z35, .ref z36, .ref z37, .int 0, .int 0, .int 0, .int 0, .ref z38, .int 0, .ref z39, .ref z40, .ref z41, .ref z42, .int 0, .ref z13, .ref z14, .ref z15, .ref z16, .int 0, .ref z17, .ref z18, .ref z43]))] s.heap := hP
  have hl := lv_entry ([.ref h0, .int 5, .int 3, .int 1]) (n := 4) (Nat.le_of_ble_eq_true rfl)
  rw [lg_entry_eq]
  generalize (lg_sl ([.ref h0, .int 5, .int 3, .int 1]) ++ List.replicate (4 - (lg_sl ([.ref h0, .int 5, .int 3, .int 1])).length) Slot.unset).toArray = ls at hl ⊢
  have hl : lv_has ls 4 [(0, .ref h0), (1, .int 5), (2, .int 3), (3, .int 1)] := hl
  refine lv_iload_n hx hb dX12_passAt_0 rfl (lv_at hl 1 rfl) ?_
  refine lv_aload_n hx hb dX12_passAt_1 rfl (lv_at hl 0 rfl) ?_
  have hPc := hP.sub (ws' := [(h0, .inr (12, [.ref z0, .ref z1, .ref z2, .ref z3, .ref z4, .ref z5, .ref z20, .ref z21, .ref z22, .ref z23, .ref z24, .ref z25, .int 0, .ref z26, .ref z27, .ref z28, .int 9, .int 0, .int 0, .ref z6, .ref z29, .ref z7, .int 0, .int 2, .ref z19, .ref z8, .ref z9, .ref z10, .int 0, .ref z11, .int 0, .ref z30, .ref z31, .ref z32, .ref z33, .int 0, .ref z12, .int 0, .int 0, .ref z34, .ref z35, .ref z36, .ref z37, .int 0, .int 0, .int 0, .int 0, .ref z38, .int 0, .ref z39, .ref z40, .ref z41, .ref z42, .int 0, .ref z13, .ref z14, .ref z15, .ref z16, .int 0, .ref z17, .ref z18, .ref z43]))]) [0] rfl
  have hDc := hD.sub (ws' := [(h0, .inr (12, [.ref z0, .ref z1, .ref z2, .ref z3, .ref z4, .ref z5, .ref z20, .ref z21, .ref z22, .ref z23, .ref z24, .ref z25, .int 0, .ref z26, .ref z27, .ref z28, .int 9, .int 0, .int 0, .ref z6, .ref z29, .ref z7, .int 0, .int 2, .ref z19, .ref z8, .ref z9, .ref z10, .int 0, .ref z11, .int 0, .ref z30, .ref z31, .ref z32, .ref z33, .int 0, .ref z12, .int 0, .int 0, .ref z34, .ref z35, .ref z36, .ref z37, .int 0, .int 0, .int 0, .int 0, .ref z38, .int 0, .ref z39, .ref z40, .ref z41, .ref z42, .int 0, .ref z13, .ref z14, .ref z15, .ref z16, .int 0, .ref z17, .ref z18, .ref z43]))]) [0] (by decide) rfl
  have hFc := va_free (wc := [(h0, .inr (12, [.ref z0, .ref z1, .ref z2, .ref z3, .ref z4, .ref z5, .ref z20, .ref z21, .ref z22, .ref z23, .ref z24, .ref z25, .int 0, .ref z26, .ref z27, .ref z28, .int 9, .int 0, .int 0, .ref z6, .ref z29, .ref z7, .int 0, .int 2, .ref z19, .ref z8, .ref z9, .ref z10, .int 0, .ref z11, .int 0, .ref z30, .ref z31, .ref z32, .ref z33, .int 0, .ref z12, .int 0, .int 0, .ref z34, .ref z35, .ref z36, .ref z37, .int 0, .int 0, .int 0, .int 0, .ref z38, .int 0, .ref z39, .ref z40, .ref z41, .ref z42, .int 0, .ref z13, .ref z14, .ref z15, .ref z16, .int 0, .ref z17, .ref z18, .ref z43]))]) hD hS hA [0] rfl
  refine va_calli (va_runV (As := []) (rest := [.int 5]) ⟨hx, hb, hml, hown, hts⟩ (kX12_gens l D G h0 z0 z1 z2 z3 z4 z5 z20 z21 z22 z23 z24 z25 z26 z27 z28 z6 z29 z7 z19 z8 z9 z10 z11 z30 z31 z32 z33 z12 z34 z35 z36 z37 z38 z39 z40 z41 z42 z13 z14 z15 z16 z17 z18 z43 0 s.heap.size) (cwV 0 hts gX12_passAt_X12_gens rfl rfl rfl (by decide +kernel) ⟨Nat.le_of_ble_eq_true rfl, Nat.le_of_ble_eq_true rfl⟩) ⟨wB_blind, va_recv hK hPc (ci := 12) (q0 := 0) rfl rfl, wB_pre hPc hK hDc hN⟩ rfl rfl hl.1 rfl (lv_room (Nat.le_of_ble_eq_true rfl)) dX12_passAt_2 ⟨Nat.le_of_ble_eq_true rfl, Nat.le_of_ble_eq_true rfl⟩) hS (fun q _ h => hFc q h) hFc (fun r1 u t H1 locs ht hvm hr1 hB hz1 hk1 hS => ?_)
  obtain ⟨hP1, hK1, hD1⟩ := hB
  rw [ht] at hP1
  obtain ⟨hP, hD⟩ := va_join (wr := []) (w1 := [(h0, .inr (12, [.ref z0, .ref z1, .ref z2, .ref z3, .ref z4, .ref z5, .ref z20, .ref z21, .ref z22, .ref z23, .ref z24, .ref z25, .int 0, .ref z26, .ref z27, .ref z28, .int 9, .int 0, .int 0, .ref z6, .ref z29, .ref z7, .int 0, .int 2, .ref z19, .ref z8, .ref z9, .ref z10, .int 0, .ref z11, .int 0, .ref z30, .ref z31, .ref z32, .ref z33, .int 0, .ref z12, .int 0, .int 0, .ref z34, .ref z35, .ref z36, .ref z37, .int 0, .int 0, .int 0, .int 0, .ref z38, .int 0, .ref z39, .ref z40, .ref z41, .ref z42, .int 0, .ref z13, .ref z14, .ref z15, .ref z16, .int 0, .ref z17, .ref z18, .ref z43]))]) hP hD [0] [] rfl rfl (by decide) (by decide) hk1 hFc hP1 hD1
  clear hPc hDc
  generalize H1 = H at hP hS ⊢
  have hP : va_P D vwCl [(h0, .inr (12, [.ref z0, .ref z1, .ref z2, .ref z3, .ref z4, .ref z5, .ref z20, .ref z21, .ref z22, .ref z23, .ref z24, .ref z25, .int 0, .ref z26, .ref z27, .ref z28, .int 9, .int 0, .int 0, .ref z6, .ref z29, .ref z7, .int 0, .int 2, .ref z19, .ref z8, .ref z9, .ref z10, .int 0, .ref z11, .int 0, .ref z30, .ref z31, .ref z32, .ref z33, .int 0, .ref z12, .int 0, .int 0, .ref z34, .ref z35, .ref z36, .ref z37, .int 0, .int 0, .int 0, .int 0, .ref z38, .int 0, .ref z39, .ref z40, .ref z41, .ref z42, .int 0, .ref z13, .ref z14, .ref z15, .ref z16, .int 0, .ref z17, .ref z18, .ref z43]))] H := hP
  have hD : va_D A [(h0, .inr (12, [.ref z0, .ref z1, .ref z2, .ref z3, .ref z4, .ref z5, .ref z20, .ref z21, .ref z22, .ref z23, .ref z24, .ref z25, .int 0, .ref z26, .ref z27, .ref z28, .int 9, .int 0, .int 0, .ref z6, .ref z29, .ref z7, .int 0, .int 2, .ref z19, .ref z8, .ref z9, .ref z10, .int 0, .ref z11, .int 0, .ref z30, .ref z31, .ref z32, .ref z33, .int 0, .ref z12, .int 0, .int 0, .ref z34, .ref z35, .ref z36, .ref z37, .int 0, .int 0, .int 0, .int 0, .ref z38, .int 0, .ref z39, .ref z40, .ref z41, .ref z42, .int 0, .ref z13, .ref z14, .ref z15, .ref z16, .int 0, .ref z17, .ref z18, .ref z43]))] := hD
  subst hr1
  refine lv_iload_n hx hb dX12_passAt_5 rfl (lv_at hl 2 rfl) ?_
  refine lv_iconst (v := 1) hx hb dX12_passAt_6 (by decide) ?_
  refine lv_isub hx hb dX12_passAt_7 ?_
  refine wk_i 2 (by decide) ?_
  refine lv_iload_n hx hb dX12_passAt_8 rfl (lv_at hl 3 rfl) ?_
  refine lv_isub hx hb dX12_passAt_9 ?_
  refine wk_i 1 (by decide) ?_
  have hPc := hP.sub (ws' := []) [] rfl
  have hDc := hD.sub (ws' := []) [] (by decide) rfl
  have hFc := va_free (wc := []) hD hS hA [] rfl
  refine va_calli (va_runS (As := [.int 2, .int 1]) (rest := [.int 5]) ⟨hx, hb, hml, hown, hts⟩ (kX12_power_1 l D G  H.size) (va_cwS 2 hts gX12_passAt_X12_power rfl rfl rfl (by decide +kernel) ⟨Nat.le_of_ble_eq_true rfl, Nat.le_of_ble_eq_true rfl⟩) ⟨wB_blind, wB_pre hPc hK hDc hN⟩ rfl rfl hl.1 rfl (lv_room (Nat.le_of_ble_eq_true rfl)) dX12_passAt_10 ⟨Nat.le_of_ble_eq_true rfl, Nat.le_of_ble_eq_true rfl⟩) hS (fun q _ h => hFc q h) hFc (fun r2 u t H1 locs ht hvm hr2 hB hz1 hk1 hS => ?_)
  obtain ⟨hP, hD⟩ := va_join (wr := [(h0, .inr (12, [.ref z0, .ref z1, .ref z2, .ref z3, .ref z4, .ref z5, .ref z20, .ref z21, .ref z22, .ref z23, .ref z24, .ref z25, .int 0, .ref z26, .ref z27, .ref z28, .int 9, .int 0, .int 0, .ref z6, .ref z29, .ref z7, .int 0, .int 2, .ref z19, .ref z8, .ref z9, .ref z10, .int 0, .ref z11, .int 0, .ref z30, .ref z31, .ref z32, .ref z33, .int 0, .ref z12, .int 0, .int 0, .ref z34, .ref z35, .ref z36, .ref z37, .int 0, .int 0, .int 0, .int 0, .ref z38, .int 0, .ref z39, .ref z40, .ref z41, .ref z42, .int 0, .ref z13, .ref z14, .ref z15, .ref z16, .int 0, .ref z17, .ref z18, .ref z43]))]) (w1 := []) hP hD [] [0] rfl rfl (by decide) (by decide) hk1 hFc wP_nil wD_nil
  clear hPc hDc
  generalize H1 = H at hP hS ⊢
  have hP : va_P D vwCl [(h0, .inr (12, [.ref z0, .ref z1, .ref z2, .ref z3, .ref z4, .ref z5, .ref z20, .ref z21, .ref z22, .ref z23, .ref z24, .ref z25, .int 0, .ref z26, .ref z27, .ref z28, .int 9, .int 0, .int 0, .ref z6, .ref z29, .ref z7, .int 0, .int 2, .ref z19, .ref z8, .ref z9, .ref z10, .int 0, .ref z11, .int 0, .ref z30, .ref z31, .ref z32, .ref z33, .int 0, .ref z12, .int 0, .int 0, .ref z34, .ref z35, .ref z36, .ref z37, .int 0, .int 0, .int 0, .int 0, .ref z38, .int 0, .ref z39, .ref z40, .ref z41, .ref z42, .int 0, .ref z13, .ref z14, .ref z15, .ref z16, .int 0, .ref z17, .ref z18, .ref z43]))] H := hP
  have hD : va_D A [(h0, .inr (12, [.ref z0, .ref z1, .ref z2, .ref z3, .ref z4, .ref z5, .ref z20, .ref z21, .ref z22, .ref z23, .ref z24, .ref z25, .int 0, .ref z26, .ref z27, .ref z28, .int 9, .int 0, .int 0, .ref z6, .ref z29, .ref z7, .int 0, .int 2, .ref z19, .ref z8, .ref z9, .ref z10, .int 0, .ref z11, .int 0, .ref z30, .ref z31, .ref z32, .ref z33, .int 0, .ref z12, .int 0, .int 0, .ref z34, .ref z35, .ref z36, .ref z37, .int 0, .int 0, .int 0, .int 0, .ref z38, .int 0, .ref z39, .ref z40, .ref z41, .ref z42, .int 0, .ref z13, .ref z14, .ref z15, .ref z16, .int 0, .ref z17, .ref z18, .ref z43]))] := hD
  subst hr2
  refine lv_idiv hx hb dX12_passAt_13 (by decide) ?_
  refine wk_i 2 (by decide) ?_
  refine lv_aload_n hx hb dX12_passAt_14 rfl (lv_at hl 0 rfl) ?_
  have hPc := hP.sub (ws' := [(h0, .inr (12, [.ref z0, .ref z1, .ref z2, .ref z3, .ref z4, .ref z5, .ref z20, .ref z21, .ref z22, .ref z23, .ref z24, .ref z25, .int 0, .ref z26, .ref z27, .ref z28, .int 9, .int 0, .int 0, .ref z6, .ref z29, .ref z7, .int 0, .int 2, .ref z19, .ref z8, .ref z9, .ref z10, .int 0, .ref z11, .int 0, .ref z30, .ref z31, .ref z32, .ref z33, .int 0, .ref z12, .int 0, .int 0, .ref z34, .ref z35, .ref z36, .ref z37, .int 0, .int 0, .int 0, .int 0, .ref z38, .int 0, .ref z39, .ref z40, .ref z41, .ref z42, .int 0, .ref z13, .ref z14, .ref z15, .ref z16, .int 0, .ref z17, .ref z18, .ref z43]))]) [0] rfl
  have hDc := hD.sub (ws' := [(h0, .inr (12, [.ref z0, .ref z1, .ref z2, .ref z3, .ref z4, .ref z5, .ref z20, .ref z21, .ref z22, .ref z23, .ref z24, .ref z25, .int 0, .ref z26, .ref z27, .ref z28, .int 9, .int 0, .int 0, .ref z6, .ref z29, .ref z7, .int 0, .int 2, .ref z19, .ref z8, .ref z9, .ref z10, .int 0, .ref z11, .int 0, .ref z30, .ref z31, .ref z32, .ref z33, .int 0, .ref z12, .int 0, .int 0, .ref z34, .ref z35, .ref z36, .ref z37, .int 0, .int 0, .int 0, .int 0, .ref z38, .int 0, .ref z39, .ref z40, .ref z41, .ref z42, .int 0, .ref z13, .ref z14, .ref z15, .ref z16, .int 0, .ref z17, .ref z18, .ref z43]))]) [0] (by decide) rfl
  have hFc := va_free (wc := [(h0, .inr (12, [.ref z0, .ref z1, .ref z2, .ref z3, .ref z4, .ref z5, .ref z20, .ref z21, .ref z22, .ref z23, .ref z24, .ref z25, .int 0, .ref z26, .ref z27, .ref z28, .int 9, .int 0, .int 0, .ref z6, .ref z29, .ref z7, .int 0, .int 2, .ref z19, .ref z8, .ref z9, .ref z10, .int 0, .ref z11, .int 0, .ref z30, .ref z31, .ref z32, .ref z33, .int 0, .ref z12, .int 0, .int 0, .ref z34, .ref z35, .ref z36, .ref z37, .int 0, .int 0, .int 0, .int 0, .ref z38, .int 0, .ref z39, .ref z40, .ref z41, .ref z42, .int 0, .ref z13, .ref z14, .ref z15, .ref z16, .int 0, .ref z17, .ref z18, .ref z43]))]) hD hS hA [0] rfl
  refine va_calli (va_runV (As := []) (rest := [.int 2]) ⟨hx, hb, hml, hown, hts⟩ (kX12_gens l D G h0 z0 z1 z2 z3 z4 z5 z20 z21 z22 z23 z24 z25 z26 z27 z28 z6 z29 z7 z19 z8 z9 z10 z11 z30 z31 z32 z33 z12 z34 z35 z36 z37 z38 z39 z40 z41 z42 z13 z14 z15 z16 z17 z18 z43 0 H.size) (cwV 0 hts gX12_passAt_X12_gens rfl rfl rfl (by decide +kernel) ⟨Nat.le_of_ble_eq_true rfl, Nat.le_of_ble_eq_true rfl⟩) ⟨wB_blind, va_recv hK hPc (ci := 12) (q0 := 0) rfl rfl, wB_pre hPc hK hDc hN⟩ rfl rfl hl.1 rfl (lv_room (Nat.le_of_ble_eq_true rfl)) dX12_passAt_15 ⟨Nat.le_of_ble_eq_true rfl, Nat.le_of_ble_eq_true rfl⟩) hS (fun q _ h => hFc q h) hFc (fun r3 u t H1 locs ht hvm hr3 hB hz1 hk1 hS => ?_)
  obtain ⟨hP1, hK1, hD1⟩ := hB
  rw [ht] at hP1
  obtain ⟨hP, hD⟩ := va_join (wr := []) (w1 := [(h0, .inr (12, [.ref z0, .ref z1, .ref z2, .ref z3, .ref z4, .ref z5, .ref z20, .ref z21, .ref z22, .ref z23, .ref z24, .ref z25, .int 0, .ref z26, .ref z27, .ref z28, .int 9, .int 0, .int 0, .ref z6, .ref z29, .ref z7, .int 0, .int 2, .ref z19, .ref z8, .ref z9, .ref z10, .int 0, .ref z11, .int 0, .ref z30, .ref z31, .ref z32, .ref z33, .int 0, .ref z12, .int 0, .int 0, .ref z34, .ref z35, .ref z36, .ref z37, .int 0, .int 0, .int 0, .int 0, .ref z38, .int 0, .ref z39, .ref z40, .ref z41, .ref z42, .int 0, .ref z13, .ref z14, .ref z15, .ref z16, .int 0, .ref z17, .ref z18, .ref z43]))]) hP hD [0] [] rfl rfl (by decide) (by decide) hk1 hFc hP1 hD1
  clear hPc hDc
  generalize H1 = H at hP hS ⊢
  have hP : va_P D vwCl [(h0, .inr (12, [.ref z0, .ref z1, .ref z2, .ref z3, .ref z4, .ref z5, .ref z20, .ref z21, .ref z22, .ref z23, .ref z24, .ref z25, .int 0, .ref z26, .ref z27, .ref z28, .int 9, .int 0, .int 0, .ref z6, .ref z29, .ref z7, .int 0, .int 2, .ref z19, .ref z8, .ref z9, .ref z10, .int 0, .ref z11, .int 0, .ref z30, .ref z31, .ref z32, .ref z33, .int 0, .ref z12, .int 0, .int 0, .ref z34, .ref z35, .ref z36, .ref z37, .int 0, .int 0, .int 0, .int 0, .ref z38, .int 0, .ref z39, .ref z40, .ref z41, .ref z42, .int 0, .ref z13, .ref z14, .ref z15, .ref z16, .int 0, .ref z17, .ref z18, .ref z43]))] H := hP
  have hD : va_D A [(h0, .inr (12, [.ref z0, .ref z1, .ref z2, .ref z3, .ref z4, .ref z5, .ref z20, .ref z21, .ref z22, .ref z23, .ref z24, .ref z25, .int 0, .ref z26, .ref z27, .ref z28, .int 9, .int 0, .int 0, .ref z6, .ref z29, .ref z7, .int 0, .int 2, .ref z19, .ref z8, .ref z9, .ref z10, .int 0, .ref z11, .int 0, .ref z30, .ref z31, .ref z32, .ref z33, .int 0, .ref z12, .int 0, .int 0, .ref z34, .ref z35, .ref z36, .ref z37, .int 0, .int 0, .int 0, .int 0, .ref z38, .int 0, .ref z39, .ref z40, .ref z41, .ref z42, .int 0, .ref z13, .ref z14, .ref z15, .ref z16, .int 0, .ref z17, .ref z18, .ref z43]))] := hD
  subst hr3
  refine lv_irem hx hb dX12_passAt_18 (by decide) ?_
  refine wk_i 0 (by decide) ?_
  have hPc := hP.sub (ws' := []) [] rfl
  have hDc := hD.sub (ws' := []) [] (by decide) rfl
  have hFc := va_free (wc := []) hD hS hA [] rfl
  refine va_calli (va_runS (As := [.int 0]) (rest := []) ⟨hx, hb, hml, hown, hts⟩ (kX12_passOf_0 l D G  H.size) (va_cwS 1 hts gX12_passAt_X12_passOf rfl rfl rfl (by decide +kernel) ⟨Nat.le_of_ble_eq_true rfl, Nat.le_of_ble_eq_true rfl⟩) ⟨wB_blind, wB_pre hPc hK hDc hN⟩ rfl rfl hl.1 rfl (lv_room (Nat.le_of_ble_eq_true rfl)) dX12_passAt_19 ⟨Nat.le_of_ble_eq_true rfl, Nat.le_of_ble_eq_true rfl⟩) hS (fun q _ h => hFc q h) hFc (fun r4 u t H1 locs ht hvm hr4 hB hz1 hk1 hS => ?_)
  obtain ⟨hP, hD⟩ := va_join (wr := [(h0, .inr (12, [.ref z0, .ref z1, .ref z2, .ref z3, .ref z4, .ref z5, .ref z20, .ref z21, .ref z22, .ref z23, .ref z24, .ref z25, .int 0, .ref z26, .ref z27, .ref z28, .int 9, .int 0, .int 0, .ref z6, .ref z29, .ref z7, .int 0, .int 2, .ref z19, .ref z8, .ref z9, .ref z10, .int 0, .ref z11, .int 0, .ref z30, .ref z31, .ref z32, .ref z33, .int 0, .ref z12, .int 0, .int 0, .ref z34, .ref z35, .ref z36, .ref z37, .int 0, .int 0, .int 0, .int 0, .ref z38, .int 0, .ref z39, .ref z40, .ref z41, .ref z42, .int 0, .ref z13, .ref z14, .ref z15, .ref z16, .int 0, .ref z17, .ref z18, .ref z43]))]) (w1 := []) hP hD [] [0] rfl rfl (by decide) (by decide) hk1 hFc wP_nil wD_nil
  clear hPc hDc
  generalize H1 = H at hP hS ⊢
  have hP : va_P D vwCl [(h0, .inr (12, [.ref z0, .ref z1, .ref z2, .ref z3, .ref z4, .ref z5, .ref z20, .ref z21, .ref z22, .ref z23, .ref z24, .ref z25, .int 0, .ref z26, .ref z27, .ref z28, .int 9, .int 0, .int 0, .ref z6, .ref z29, .ref z7, .int 0, .int 2, .ref z19, .ref z8, .ref z9, .ref z10, .int 0, .ref z11, .int 0, .ref z30, .ref z31, .ref z32, .ref z33, .int 0, .ref z12, .int 0, .int 0, .ref z34, .ref z35, .ref z36, .ref z37, .int 0, .int 0, .int 0, .int 0, .ref z38, .int 0, .ref z39, .ref z40, .ref z41, .ref z42, .int 0, .ref z13, .ref z14, .ref z15, .ref z16, .int 0, .ref z17, .ref z18, .ref z43]))] H := hP
  have hD : va_D A [(h0, .inr (12, [.ref z0, .ref z1, .ref z2, .ref z3, .ref z4, .ref z5, .ref z20, .ref z21, .ref z22, .ref z23, .ref z24, .ref z25, .int 0, .ref z26, .ref z27, .ref z28, .int 9, .int 0, .int 0, .ref z6, .ref z29, .ref z7, .int 0, .int 2, .ref z19, .ref z8, .ref z9, .ref z10, .int 0, .ref z11, .int 0, .ref z30, .ref z31, .ref z32, .ref z33, .int 0, .ref z12, .int 0, .int 0, .ref z34, .ref z35, .ref z36, .ref z37, .int 0, .int 0, .int 0, .int 0, .ref z38, .int 0, .ref z39, .ref z40, .ref z41, .ref z42, .int 0, .ref z13, .ref z14, .ref z15, .ref z16, .int 0, .ref z17, .ref z18, .ref z43]))] := hD
  subst hr4
  have hP9 := hP.sub (ws' := [(h0, .inr (12, [.ref z0, .ref z1, .ref z2, .ref z3, .ref z4, .ref z5, .ref z20, .ref z21, .ref z22, .ref z23, .ref z24, .ref z25, .int 0, .ref z26, .ref z27, .ref z28, .int 9, .int 0, .int 0, .ref z6, .ref z29, .ref z7, .int 0, .int 2, .ref z19, .ref z8, .ref z9, .ref z10, .int 0, .ref z11, .int 0, .ref z30, .ref z31, .ref z32, .ref z33, .int 0, .ref z12, .int 0, .int 0, .ref z34, .ref z35, .ref z36, .ref z37, .int 0, .int 0, .int 0, .int 0, .ref z38, .int 0, .ref z39, .ref z40, .ref z41, .ref z42, .int 0, .ref z13, .ref z14, .ref z15, .ref z16, .int 0, .ref z17, .ref z18, .ref z43]))]) [0] rfl
  have hD9 := hD.sub (ws' := [(h0, .inr (12, [.ref z0, .ref z1, .ref z2, .ref z3, .ref z4, .ref z5, .ref z20, .ref z21, .ref z22, .ref z23, .ref z24, .ref z25, .int 0, .ref z26, .ref z27, .ref z28, .int 9, .int 0, .int 0, .ref z6, .ref z29, .ref z7, .int 0, .int 2, .ref z19, .ref z8, .ref z9, .ref z10, .int 0, .ref z11, .int 0, .ref z30, .ref z31, .ref z32, .ref z33, .int 0, .ref z12, .int 0, .int 0, .ref z34, .ref z35, .ref z36, .ref z37, .int 0, .int 0, .int 0, .int 0, .ref z38, .int 0, .ref z39, .ref z40, .ref z41, .ref z42, .int 0, .ref z13, .ref z14, .ref z15, .ref z16, .int 0, .ref z17, .ref z18, .ref z43]))]) [0] (by decide) rfl
  exact W.iret (v := 1) hx hb hr (fun t ht hW => ⟨⟨1, (), rfl, rfl, ⟨by rw [ht]; exact hP9, va_K.moved hW.alike hK, hD9⟩⟩, hS.F ht⟩) hS.2.2 dX12_passAt_22

set_option maxHeartbeats 4000000 in
set_option maxRecDepth 100000 in
/-- X12_passAt -/
theorem kX12_passAt_3_5_2 (l : Launch) (D : va_G) (G : tyG) (h0 : Nat) (z0 : Nat) (z1 : Nat) (z2 : Nat) (z3 : Nat) (z4 : Nat) (z5 : Nat) (z20 : Nat) (z21 : Nat) (z22 : Nat) (z23 : Nat) (z24 : Nat) (z25 : Nat) (z26 : Nat) (z27 : Nat) (z28 : Nat) (z6 : Nat) (z29 : Nat) (z7 : Nat) (z19 : Nat) (z8 : Nat) (z9 : Nat) (z10 : Nat) (z11 : Nat) (z30 : Nat) (z31 : Nat) (z32 : Nat) (z33 : Nat) (z12 : Nat) (z34 : Nat) (z35 : Nat) (z36 : Nat) (z37 : Nat) (z38 : Nat) (z39 : Nat) (z40 : Nat) (z41 : Nat) (z42 : Nat) (z13 : Nat) (z14 : Nat) (z15 : Nat) (z16 : Nat) (z17 : Nat) (z18 : Nat) (z43 : Nat) (sz : Nat) : Met l yX12_passAt wsX12_passAt ({ frames := 1, cells := 0, slots := 0, locals := 23 }) (va_Pc [.ref h0, .int 5, .int 3, .int 2] (wB D G sz [(h0, .inr (12, [.ref z0, .ref z1, .ref z2, .ref z3, .ref z4, .ref z5, .ref z20, .ref z21, .ref z22, .ref z23, .ref z24, .ref z25, .int 0, .ref z26, .ref z27, .ref z28, .int 9, .int 0, .int 0, .ref z6, .ref z29, .ref z7, .int 0, .int 2, .ref z19, .ref z8, .ref z9, .ref z10, .int 0, .ref z11, .int 0, .ref z30, .ref z31, .ref z32, .ref z33, .int 0, .ref z12, .int 0, .int 0, .ref z34, .ref z35, .ref z36, .ref z37, .int 0, .int 0, .int 0, .int 0, .ref z38, .int 0, .ref z39, .ref z40, .ref z41, .ref z42, .int 0, .ref z13, .ref z14, .ref z15, .ref z16, .int 0, .ref z17, .ref z18, .ref z43]))])) (va_Qi (fun (r : Int32) (_ : Unit) => r = (-1)) (fun _ t => wS D G (va_A [(h0, .inr (12, [.ref z0, .ref z1, .ref z2, .ref z3, .ref z4, .ref z5, .ref z20, .ref z21, .ref z22, .ref z23, .ref z24, .ref z25, .int 0, .ref z26, .ref z27, .ref z28, .int 9, .int 0, .int 0, .ref z6, .ref z29, .ref z7, .int 0, .int 2, .ref z19, .ref z8, .ref z9, .ref z10, .int 0, .ref z11, .int 0, .ref z30, .ref z31, .ref z32, .ref z33, .int 0, .ref z12, .int 0, .int 0, .ref z34, .ref z35, .ref z36, .ref z37, .int 0, .int 0, .int 0, .int 0, .ref z38, .int 0, .ref z39, .ref z40, .ref z41, .ref z42, .int 0, .ref z13, .ref z14, .ref z15, .ref z16, .int 0, .ref z17, .ref z18, .ref z43]))] sz) [(h0, .inr (12, [.ref z0, .ref z1, .ref z2, .ref z3, .ref z4, .ref z5, .ref z20, .ref z21, .ref z22, .ref z23, .ref z24, .ref z25, .int 0, .ref z26, .ref z27, .ref z28, .int 9, .int 0, .int 0, .ref z6, .ref z29, .ref z7, .int 0, .int 2, .ref z19, .ref z8, .ref z9, .ref z10, .int 0, .ref z11, .int 0, .ref z30, .ref z31, .ref z32, .ref z33, .int 0, .ref z12, .int 0, .int 0, .ref z34, .ref z35, .ref z36, .ref z37, .int 0, .int 0, .int 0, .int 0, .ref z38, .int 0, .ref z39, .ref z40, .ref z41, .ref z42, .int 0, .ref z13, .ref z14, .ref z15, .ref z16, .int 0, .ref z17, .ref z18, .ref z43]))] t) (va_A [(h0, .inr (12, [.ref z0, .ref z1, .ref z2, .ref z3, .ref z4, .ref z5, .ref z20, .ref z21, .ref z22, .ref z23, .ref z24, .ref z25, .int 0, .ref z26, .ref z27, .ref z28, .int 9, .int 0, .int 0, .ref z6, .ref z29, .ref z7, .int 0, .int 2, .ref z19, .ref z8, .ref z9, .ref z10, .int 0, .ref z11, .int 0, .ref z30, .ref z31, .ref z32, .ref z33, .int 0, .ref z12, .int 0, .int 0, .ref z34, .ref z35, .ref z36, .ref z37, .int 0, .int 0, .int 0, .int 0, .ref z38, .int 0, .ref z39, .ref z40, .ref z41, .ref z42, .int 0, .ref z13, .ref z14, .ref z15, .ref z16, .int 0, .ref z17, .ref z18, .ref z43]))] sz)) 0 0 (va_A [(h0, .inr (12, [.ref z0, .ref z1, .ref z2, .ref z3, .ref z4, .ref z5, .ref z20, .ref z21, .ref z22, .ref z23, .ref z24, .ref z25, .int 0, .ref z26, .ref z27, .ref z28, .int 9, .int 0, .int 0, .ref z6, .ref z29, .ref z7, .int 0, .int 2, .ref z19, .ref z8, .ref z9, .ref z10, .int 0, .ref z11, .int 0, .ref z30, .ref z31, .ref z32, .ref z33, .int 0, .ref z12, .int 0, .int 0, .ref z34, .ref z35, .ref z36, .ref z37, .int 0, .int 0, .int 0, .int 0, .ref z38, .int 0, .ref z39, .ref z40, .ref z41, .ref z42, .int 0, .ref z13, .ref z14, .ref z15, .ref z16, .int 0, .ref z17, .ref z18, .ref z43]))] sz) := by
  refine Met.ofW (cc := cX12_passAt) (maxL := 4) (ret := (some .int)) (by decide) rfl ?_
  intro p e s m args below meth c s₁ B hml hv
  obtain ⟨rfl, hsz, hP, hK, hD0, hN⟩ := hv
  have hx := B.exec
  have hb := B.bytes
  have hr := B.returns
  have hts := atoms_spec (ws := wsX12_passAt) B.pre
  have hown : s.vm.findClass RX12 = some m.cls := findClass_of_methodNamed B.named
  have hlocks := B.notSynchronized
  subst hsz
  have hD := hD0.self (sz := s.heap.size)
  generalize hAe : va_A [(h0, .inr (12, [.ref z0, .ref z1, .ref z2, .ref z3, .ref z4, .ref z5, .ref z20, .ref z21, .ref z22, .ref z23, .ref z24, .ref z25, .int 0, .ref z26, .ref z27, .ref z28, .int 9, .int 0, .int 0, .ref z6, .ref z29, .ref z7, .int 0, .int 2, .ref z19, .ref z8, .ref z9, .ref z10, .int 0, .ref z11, .int 0, .ref z30, .ref z31, .ref z32, .ref z33, .int 0, .ref z12, .int 0, .int 0, .ref z34, .ref z35, .ref z36, .ref z37, .int 0, .int 0, .int 0, .int 0, .ref z38, .int 0, .ref z39, .ref z40, .ref z41, .ref z42, .int 0, .ref z13, .ref z14, .ref z15, .ref z16, .int 0, .ref z17, .ref z18, .ref z43]))] s.heap.size = A at hD ⊢
  have hA : ∀ q : Nat, s.heap.size ≤ q → A q := fun q h => by rw [← hAe]; exact Or.inr h
  have hS : va_S A s.heap s.heap [] := va_S.rf
  have hP : va_P D vwCl [(h0, .inr (12, [.ref z0, .ref z1, .ref z2, .ref z3, .ref z4, .ref z5, .ref z20, .ref z21, .ref z22, .ref z23, .ref z24, .ref z25, .int 0, .ref z26, .ref z27, .ref z28, .int 9, .int 0, .int 0, .ref z6, .ref z29, .ref z7, .int 0, .int 2, .ref z19, .ref z8, .ref z9, .ref z10, .int 0, .ref z11, .int 0, .ref z30, .ref z31, .ref z32, .ref z33, .int 0, .ref z12, .int 0, .int 0, .ref z34, .ref z35, .ref z36, .ref z37, .int 0, .int 0, .int 0, .int 0, .ref z38, .int 0, .ref z39, .ref z40, .ref z41, .ref z42, .int 0, .ref z13, .ref z14, .ref z15, .ref z16, .int 0, .ref z17, .ref z18, .ref z43]))] s.heap := hP
  have hl := lv_entry ([.ref h0, .int 5, .int 3, .int 2]) (n := 4) (Nat.le_of_ble_eq_true rfl)
  rw [lg_entry_eq]
  generalize (lg_sl ([.ref h0, .int 5, .int 3, .int 2]) ++ List.replicate (4 - (lg_sl ([.ref h0, .int 5, .int 3, .int 2])).length) Slot.unset).toArray = ls at hl ⊢
  have hl : lv_has ls 4 [(0, .ref h0), (1, .int 5), (2, .int 3), (3, .int 2)] := hl
  refine lv_iload_n hx hb dX12_passAt_0 rfl (lv_at hl 1 rfl) ?_
  refine lv_aload_n hx hb dX12_passAt_1 rfl (lv_at hl 0 rfl) ?_
  have hPc := hP.sub (ws' := [(h0, .inr (12, [.ref z0, .ref z1, .ref z2, .ref z3, .ref z4, .ref z5, .ref z20, .ref z21, .ref z22, .ref z23, .ref z24, .ref z25, .int 0, .ref z26, .ref z27, .ref z28, .int 9, .int 0, .int 0, .ref z6, .ref z29, .ref z7, .int 0, .int 2, .ref z19, .ref z8, .ref z9, .ref z10, .int 0, .ref z11, .int 0, .ref z30, .ref z31, .ref z32, .ref z33, .int 0, .ref z12, .int 0, .int 0, .ref z34, .ref z35, .ref z36, .ref z37, .int 0, .int 0, .int 0, .int 0, .ref z38, .int 0, .ref z39, .ref z40, .ref z41, .ref z42, .int 0, .ref z13, .ref z14, .ref z15, .ref z16, .int 0, .ref z17, .ref z18, .ref z43]))]) [0] rfl
  have hDc := hD.sub (ws' := [(h0, .inr (12, [.ref z0, .ref z1, .ref z2, .ref z3, .ref z4, .ref z5, .ref z20, .ref z21, .ref z22, .ref z23, .ref z24, .ref z25, .int 0, .ref z26, .ref z27, .ref z28, .int 9, .int 0, .int 0, .ref z6, .ref z29, .ref z7, .int 0, .int 2, .ref z19, .ref z8, .ref z9, .ref z10, .int 0, .ref z11, .int 0, .ref z30, .ref z31, .ref z32, .ref z33, .int 0, .ref z12, .int 0, .int 0, .ref z34, .ref z35, .ref z36, .ref z37, .int 0, .int 0, .int 0, .int 0, .ref z38, .int 0, .ref z39, .ref z40, .ref z41, .ref z42, .int 0, .ref z13, .ref z14, .ref z15, .ref z16, .int 0, .ref z17, .ref z18, .ref z43]))]) [0] (by decide) rfl
  have hFc := va_free (wc := [(h0, .inr (12, [.ref z0, .ref z1, .ref z2, .ref z3, .ref z4, .ref z5, .ref z20, .ref z21, .ref z22, .ref z23, .ref z24, .ref z25, .int 0, .ref z26, .ref z27, .ref z28, .int 9, .int 0, .int 0, .ref z6, .ref z29, .ref z7, .int 0, .int 2, .ref z19, .ref z8, .ref z9, .ref z10, .int 0, .ref z11, .int 0, .ref z30, .ref z31, .ref z32, .ref z33, .int 0, .ref z12, .int 0, .int 0, .ref z34, .ref z35, .ref z36, .ref z37, .int 0, .int 0, .int 0, .int 0, .ref z38, .int 0, .ref z39, .ref z40, .ref z41, .ref z42, .int 0, .ref z13, .ref z14, .ref z15, .ref z16, .int 0, .ref z17, .ref z18, .ref z43]))]) hD hS hA [0] rfl
  refine va_calli (va_runV (As := []) (rest := [.int 5]) ⟨hx, hb, hml, hown, hts⟩ (kX12_gens l D G h0 z0 z1 z2 z3 z4 z5 z20 z21 z22 z23 z24 z25 z26 z27 z28 z6 z29 z7 z19 z8 z9 z10 z11 z30 z31 z32 z33 z12 z34 z35 z36 z37 z38 z39 z40 z41 z42 z13 z14 z15 z16 z17 z18 z43 0 s.heap.size) (cwV 0 hts gX12_passAt_X12_gens rfl rfl rfl (by decide +kernel) ⟨Nat.le_of_ble_eq_true rfl, Nat.le_of_ble_eq_true rfl⟩) ⟨wB_blind, va_recv hK hPc (ci := 12) (q0 := 0) rfl rfl, wB_pre hPc hK hDc hN⟩ rfl rfl hl.1 rfl (lv_room (Nat.le_of_ble_eq_true rfl)) dX12_passAt_2 ⟨Nat.le_of_ble_eq_true rfl, Nat.le_of_ble_eq_true rfl⟩) hS (fun q _ h => hFc q h) hFc (fun r1 u t H1 locs ht hvm hr1 hB hz1 hk1 hS => ?_)
  obtain ⟨hP1, hK1, hD1⟩ := hB
  rw [ht] at hP1
  obtain ⟨hP, hD⟩ := va_join (wr := []) (w1 := [(h0, .inr (12, [.ref z0, .ref z1, .ref z2, .ref z3, .ref z4, .ref z5, .ref z20, .ref z21, .ref z22, .ref z23, .ref z24, .ref z25, .int 0, .ref z26, .ref z27, .ref z28, .int 9, .int 0, .int 0, .ref z6, .ref z29, .ref z7, .int 0, .int 2, .ref z19, .ref z8, .ref z9, .ref z10, .int 0, .ref z11, .int 0, .ref z30, .ref z31, .ref z32, .ref z33, .int 0, .ref z12, .int 0, .int 0, .ref z34, .ref z35, .ref z36, .ref z37, .int 0, .int 0, .int 0, .int 0, .ref z38, .int 0, .ref z39, .ref z40, .ref z41, .ref z42, .int 0, .ref z13, .ref z14, .ref z15, .ref z16, .int 0, .ref z17, .ref z18, .ref z43]))]) hP hD [0] [] rfl rfl (by decide) (by decide) hk1 hFc hP1 hD1
  clear hPc hDc
  generalize H1 = H at hP hS ⊢
  have hP : va_P D vwCl [(h0, .inr (12, [.ref z0, .ref z1, .ref z2, .ref z3, .ref z4, .ref z5, .ref z20, .ref z21, .ref z22, .ref z23, .ref z24, .ref z25, .int 0, .ref z26, .ref z27, .ref z28, .int 9, .int 0, .int 0, .ref z6, .ref z29, .ref z7, .int 0, .int 2, .ref z19, .ref z8, .ref z9, .ref z10, .int 0, .ref z11, .int 0, .ref z30, .ref z31, .ref z32, .ref z33, .int 0, .ref z12, .int 0, .int 0, .ref z34, .ref z35, .ref z36, .ref z37, .int 0, .int 0, .int 0, .int 0, .ref z38, .int 0, .ref z39, .ref z40, .ref z41, .ref z42, .int 0, .ref z13, .ref z14, .ref z15, .ref z16, .int 0, .ref z17, .ref z18, .ref z43]))] H := hP
  have hD : va_D A [(h0, .inr (12, [.ref z0, .ref z1, .ref z2, .ref z3, .ref z4, .ref z5, .ref z20, .ref z21, .ref z22, .ref z23, .ref z24, .ref z25, .int 0, .ref z26, .ref z27, .ref z28, .int 9, .int 0, .int 0, .ref z6, .ref z29, .ref z7, .int 0, .int 2, .ref z19, .ref z8, .ref z9, .ref z10, .int 0, .ref z11, .int 0, .ref z30, .ref z31, .ref z32, .ref z33, .int 0, .ref z12, .int 0, .int 0, .ref z34, .ref z35, .ref z36, .ref z37, .int 0, .int 0, .int 0, .int 0, .ref z38, .int 0, .ref z39, .ref z40, .ref z41, .ref z42, .int 0, .ref z13, .ref z14, .ref z15, .ref z16, .int 0, .ref z17, .ref z18, .ref z43]))] := hD
  subst hr1
  refine lv_iload_n hx hb dX12_passAt_5 rfl (lv_at hl 2 rfl) ?_
  refine lv_iconst (v := 1) hx hb dX12_passAt_6 (by decide) ?_
  refine lv_isub hx hb dX12_passAt_7 ?_
  refine wk_i 2 (by decide) ?_
  refine lv_iload_n hx hb dX12_passAt_8 rfl (lv_at hl 3 rfl) ?_
  refine lv_isub hx hb dX12_passAt_9 ?_
  refine wk_i 0 (by decide) ?_
  have hPc := hP.sub (ws' := []) [] rfl
  have hDc := hD.sub (ws' := []) [] (by decide) rfl
  have hFc := va_free (wc := []) hD hS hA [] rfl
  refine va_calli (va_runS (As := [.int 2, .int 0]) (rest := [.int 5]) ⟨hx, hb, hml, hown, hts⟩ (kX12_power_0 l D G  H.size) (va_cwS 2 hts gX12_passAt_X12_power rfl rfl rfl (by decide +kernel) ⟨Nat.le_of_ble_eq_true rfl, Nat.le_of_ble_eq_true rfl⟩) ⟨wB_blind, wB_pre hPc hK hDc hN⟩ rfl rfl hl.1 rfl (lv_room (Nat.le_of_ble_eq_true rfl)) dX12_passAt_10 ⟨Nat.le_of_ble_eq_true rfl, Nat.le_of_ble_eq_true rfl⟩) hS (fun q _ h => hFc q h) hFc (fun r2 u t H1 locs ht hvm hr2 hB hz1 hk1 hS => ?_)
  obtain ⟨hP, hD⟩ := va_join (wr := [(h0, .inr (12, [.ref z0, .ref z1, .ref z2, .ref z3, .ref z4, .ref z5, .ref z20, .ref z21, .ref z22, .ref z23, .ref z24, .ref z25, .int 0, .ref z26, .ref z27, .ref z28, .int 9, .int 0, .int 0, .ref z6, .ref z29, .ref z7, .int 0, .int 2, .ref z19, .ref z8, .ref z9, .ref z10, .int 0, .ref z11, .int 0, .ref z30, .ref z31, .ref z32, .ref z33, .int 0, .ref z12, .int 0, .int 0, .ref z34, .ref z35, .ref z36, .ref z37, .int 0, .int 0, .int 0, .int 0, .ref z38, .int 0, .ref z39, .ref z40, .ref z41, .ref z42, .int 0, .ref z13, .ref z14, .ref z15, .ref z16, .int 0, .ref z17, .ref z18, .ref z43]))]) (w1 := []) hP hD [] [0] rfl rfl (by decide) (by decide) hk1 hFc wP_nil wD_nil
  clear hPc hDc
  generalize H1 = H at hP hS ⊢
  have hP : va_P D vwCl [(h0, .inr (12, [.ref z0, .ref z1, .ref z2, .ref z3, .ref z4, .ref z5, .ref z20, .ref z21, .ref z22, .ref z23, .ref z24, .ref z25, .int 0, .ref z26, .ref z27, .ref z28, .int 9, .int 0, .int 0, .ref z6, .ref z29, .ref z7, .int 0, .int 2, .ref z19, .ref z8, .ref z9, .ref z10, .int 0, .ref z11, .int 0, .ref z30, .ref z31, .ref z32, .ref z33, .int 0, .ref z12, .int 0, .int 0, .ref z34, .ref z35, .ref z36, .ref z37, .int 0, .int 0, .int 0, .int 0, .ref z38, .int 0, .ref z39, .ref z40, .ref z41, .ref z42, .int 0, .ref z13, .ref z14, .ref z15, .ref z16, .int 0, .ref z17, .ref z18, .ref z43]))] H := hP
  have hD : va_D A [(h0, .inr (12, [.ref z0, .ref z1, .ref z2, .ref z3, .ref z4, .ref z5, .ref z20, .ref z21, .ref z22, .ref z23, .ref z24, .ref z25, .int 0, .ref z26, .ref z27, .ref z28, .int 9, .int 0, .int 0, .ref z6, .ref z29, .ref z7, .int 0, .int 2, .ref z19, .ref z8, .ref z9, .ref z10, .int 0, .ref z11, .int 0, .ref z30, .ref z31, .ref z32, .ref z33, .int 0, .ref z12, .int 0, .int 0, .ref z34, .ref z35, .ref z36, .ref z37, .int 0, .int 0, .int 0, .int 0, .ref z38, .int 0, .ref z39, .ref z40, .ref z41, .ref z42, .int 0, .ref z13, .ref z14, .ref z15, .ref z16, .int 0, .ref z17, .ref z18, .ref z43]))] := hD
  subst hr2
  refine lv_idiv hx hb dX12_passAt_13 (by decide) ?_
  refine wk_i 5 (by decide) ?_
  refine lv_aload_n hx hb dX12_passAt_14 rfl (lv_at hl 0 rfl) ?_
  have hPc := hP.sub (ws' := [(h0, .inr (12, [.ref z0, .ref z1, .ref z2, .ref z3, .ref z4, .ref z5, .ref z20, .ref z21, .ref z22, .ref z23, .ref z24, .ref z25, .int 0, .ref z26, .ref z27, .ref z28, .int 9, .int 0, .int 0, .ref z6, .ref z29, .ref z7, .int 0, .int 2, .ref z19, .ref z8, .ref z9, .ref z10, .int 0, .ref z11, .int 0, .ref z30, .ref z31, .ref z32, .ref z33, .int 0, .ref z12, .int 0, .int 0, .ref z34, .ref z35, .ref z36, .ref z37, .int 0, .int 0, .int 0, .int 0, .ref z38, .int 0, .ref z39, .ref z40, .ref z41, .ref z42, .int 0, .ref z13, .ref z14, .ref z15, .ref z16, .int 0, .ref z17, .ref z18, .ref z43]))]) [0] rfl
  have hDc := hD.sub (ws' := [(h0, .inr (12, [.ref z0, .ref z1, .ref z2, .ref z3, .ref z4, .ref z5, .ref z20, .ref z21, .ref z22, .ref z23, .ref z24, .ref z25, .int 0, .ref z26, .ref z27, .ref z28, .int 9, .int 0, .int 0, .ref z6, .ref z29, .ref z7, .int 0, .int 2, .ref z19, .ref z8, .ref z9, .ref z10, .int 0, .ref z11, .int 0, .ref z30, .ref z31, .ref z32, .ref z33, .int 0, .ref z12, .int 0, .int 0, .ref z34, .ref z35, .ref z36, .ref z37, .int 0, .int 0, .int 0, .int 0, .ref z38, .int 0, .ref z39, .ref z40, .ref z41, .ref z42, .int 0, .ref z13, .ref z14, .ref z15, .ref z16, .int 0, .ref z17, .ref z18, .ref z43]))]) [0] (by decide) rfl
  have hFc := va_free (wc := [(h0, .inr (12, [.ref z0, .ref z1, .ref z2, .ref z3, .ref z4, .ref z5, .ref z20, .ref z21, .ref z22, .ref z23, .ref z24, .ref z25, .int 0, .ref z26, .ref z27, .ref z28, .int 9, .int 0, .int 0, .ref z6, .ref z29, .ref z7, .int 0, .int 2, .ref z19, .ref z8, .ref z9, .ref z10, .int 0, .ref z11, .int 0, .ref z30, .ref z31, .ref z32, .ref z33, .int 0, .ref z12, .int 0, .int 0, .ref z34, .ref z35, .ref z36, .ref z37, .int 0, .int 0, .int 0, .int 0, .ref z38, .int 0, .ref z39, .ref z40, .ref z41, .ref z42, .int 0, .ref z13, .ref z14, .ref z15, .ref z16, .int 0, .ref z17, .ref z18, .ref z43]))]) hD hS hA [0] rfl
  refine va_calli (va_runV (As := []) (rest := [.int 5]) ⟨hx, hb, hml, hown, hts⟩ (kX12_gens l D G h0 z0 z1 z2 z3 z4 z5 z20 z21 z22 z23 z24 z25 z26 z27 z28 z6 z29 z7 z19 z8 z9 z10 z11 z30 z31 z32 z33 z12 z34 z35 z36 z37 z38 z39 z40 z41 z42 z13 z14 z15 z16 z17 z18 z43 0 H.size) (cwV 0 hts gX12_passAt_X12_gens rfl rfl rfl (by decide +kernel) ⟨Nat.le_of_ble_eq_true rfl, Nat.le_of_ble_eq_true rfl⟩) ⟨wB_blind, va_recv hK hPc (ci := 12) (q0 := 0) rfl rfl, wB_pre hPc hK hDc hN⟩ rfl rfl hl.1 rfl (lv_room (Nat.le_of_ble_eq_true rfl)) dX12_passAt_15 ⟨Nat.le_of_ble_eq_true rfl, Nat.le_of_ble_eq_true rfl⟩) hS (fun q _ h => hFc q h) hFc (fun r3 u t H1 locs ht hvm hr3 hB hz1 hk1 hS => ?_)
  obtain ⟨hP1, hK1, hD1⟩ := hB
  rw [ht] at hP1
  obtain ⟨hP, hD⟩ := va_join (wr := []) (w1 := [(h0, .inr (12, [.ref z0, .ref z1, .ref z2, .ref z3, .ref z4, .ref z5, .ref z20, .ref z21, .ref z22, .ref z23, .ref z24, .ref z25, .int 0, .ref z26, .ref z27, .ref z28, .int 9, .int 0, .int 0, .ref z6, .ref z29, .ref z7, .int 0, .int 2, .ref z19, .ref z8, .ref z9, .ref z10, .int 0, .ref z11, .int 0, .ref z30, .ref z31, .ref z32, .ref z33, .int 0, .ref z12, .int 0, .int 0, .ref z34, .ref z35, .ref z36, .ref z37, .int 0, .int 0, .int 0, .int 0, .ref z38, .int 0, .ref z39, .ref z40, .ref z41, .ref z42, .int 0, .ref z13, .ref z14, .ref z15, .ref z16, .int 0, .ref z17, .ref z18, .ref z43]))]) hP hD [0] [] rfl rfl (by decide) (by decide) hk1 hFc hP1 hD1
  clear hPc hDc
  generalize H1 = H at hP hS ⊢
  have hP : va_P D vwCl [(h0, .inr (12, [.ref z0, .ref z1, .ref z2, .ref z3, .ref z4, .ref z5, .ref z20, .ref z21, .ref z22, .ref z23, .ref z24, .ref z25, .int 0, .ref z26, .ref z27, .ref z28, .int 9, .int 0, .int 0, .ref z6, .ref z29, .ref z7, .int 0, .int 2, .ref z19, .ref z8, .ref z9, .ref z10, .int 0, .ref z11, .int 0, .ref z30, .ref z31, .ref z32, .ref z33, .int 0, .ref z12, .int 0, .int 0, .ref z34, .ref z35, .ref z36, .ref z37, .int 0, .int 0, .int 0, .int 0, .ref z38, .int 0, .ref z39, .ref z40, .ref z41, .ref z42, .int 0, .ref z13, .ref z14, .ref z15, .ref z16, .int 0, .ref z17, .ref z18, .ref z43]))] H := hP
  have hD : va_D A [(h0, .inr (12, [.ref z0, .ref z1, .ref z2, .ref z3, .ref z4, .ref z5, .ref z20, .ref z21, .ref z22, .ref z23, .ref z24, .ref z25, .int 0, .ref z26, .ref z27, .ref z28, .int 9, .int 0, .int 0, .ref z6, .ref z29, .ref z7, .int 0, .int 2, .ref z19, .ref z8, .ref z9, .ref z10, .int 0, .ref z11, .int 0, .ref z30, .ref z31, .ref z32, .ref z33, .int 0, .ref z12, .int 0, .int 0, .ref z34, .ref z35, .ref z36, .ref z37, .int 0, .int 0, .int 0, .int 0, .ref z38, .int 0, .ref z39, .ref z40, .ref z41, .ref z42, .int 0, .ref z13, .ref z14, .ref z15, .ref z16, .int 0, .ref z17, .ref z18, .ref z43]))] := hD
  subst hr3
  refine lv_irem hx hb dX12_passAt_18 (by decide) ?_
  refine wk_i 1 (by decide) ?_
  have hPc := hP.sub (ws' := []) [] rfl
  have hDc := hD.sub (ws' := []) [] (by decide) rfl
  have hFc := va_free (wc := []) hD hS hA [] rfl
  refine va_calli (va_runS (As := [.int 1]) (rest := []) ⟨hx, hb, hml, hown, hts⟩ (kX12_passOf_1 l D G  H.size) (va_cwS 1 hts gX12_passAt_X12_passOf rfl rfl rfl (by decide +kernel) ⟨Nat.le_of_ble_eq_true rfl, Nat.le_of_ble_eq_true rfl⟩) ⟨wB_blind, wB_pre hPc hK hDc hN⟩ rfl rfl hl.1 rfl (lv_room (Nat.le_of_ble_eq_true rfl)) dX12_passAt_19 ⟨Nat.le_of_ble_eq_true rfl, Nat.le_of_ble_eq_true rfl⟩) hS (fun q _ h => hFc q h) hFc (fun r4 u t H1 locs ht hvm hr4 hB hz1 hk1 hS => ?_)
  obtain ⟨hP, hD⟩ := va_join (wr := [(h0, .inr (12, [.ref z0, .ref z1, .ref z2, .ref z3, .ref z4, .ref z5, .ref z20, .ref z21, .ref z22, .ref z23, .ref z24, .ref z25, .int 0, .ref z26, .ref z27, .ref z28, .int 9, .int 0, .int 0, .ref z6, .ref z29, .ref z7, .int 0, .int 2, .ref z19, .ref z8, .ref z9, .ref z10, .int 0, .ref z11, .int 0, .ref z30, .ref z31, .ref z32, .ref z33, .int 0, .ref z12, .int 0, .int 0, .ref z34, .ref z35, .ref z36, .ref z37, .int 0, .int 0, .int 0, .int 0, .ref z38, .int 0, .ref z39, .ref z40, .ref z41, .ref z42, .int 0, .ref z13, .ref z14, .ref z15, .ref z16, .int 0, .ref z17, .ref z18, .ref z43]))]) (w1 := []) hP hD [] [0] rfl rfl (by decide) (by decide) hk1 hFc wP_nil wD_nil
  clear hPc hDc
  generalize H1 = H at hP hS ⊢
  have hP : va_P D vwCl [(h0, .inr (12, [.ref z0, .ref z1, .ref z2, .ref z3, .ref z4, .ref z5, .ref z20, .ref z21, .ref z22, .ref z23, .ref z24, .ref z25, .int 0, .ref z26, .ref z27, .ref z28, .int 9, .int 0, .int 0, .ref z6, .ref z29, .ref z7, .int 0, .int 2, .ref z19, .ref z8, .ref z9, .ref z10, .int 0, .ref z11, .int 0, .ref z30, .ref z31, .ref z32, .ref z33, .int 0, .ref z12, .int 0, .int 0, .ref z34, .ref z35, .ref z36, .ref z37, .int 0, .int 0, .int 0, .int 0, .ref z38, .int 0, .ref z39, .ref z40, .ref z41, .ref z42, .int 0, .ref z13, .ref z14, .ref z15, .ref z16, .int 0, .ref z17, .ref z18, .ref z43]))] H := hP
  have hD : va_D A [(h0, .inr (12, [.ref z0, .ref z1, .ref z2, .ref z3, .ref z4, .ref z5, .ref z20, .ref z21, .ref z22, .ref z23, .ref z24, .ref z25, .int 0, .ref z26, .ref z27, .ref z28, .int 9, .int 0, .int 0, .ref z6, .ref z29, .ref z7, .int 0, .int 2, .ref z19, .ref z8, .ref z9, .ref z10, .int 0, .ref z11, .int 0, .ref z30, .ref z31, .ref z32, .ref z33, .int 0, .ref z12, .int 0, .int 0, .ref z34, .ref z35, .ref z36, .ref z37, .int 0, .int 0, .int 0, .int 0, .ref z38, .int 0, .ref z39, .ref z40, .ref z41, .ref z42, .int 0, .ref z13, .ref z14, .ref z15, .ref z16, .int 0, .ref z17, .ref z18, .ref z43]))] := hD
  subst hr4
  have hP9 := hP.sub (ws' := [(h0, .inr (12, [.ref z0, .ref z1, .ref z2, .ref z3, .ref z4, .ref z5, .ref z20, .ref z21, .ref z22, .ref z23, .ref z24, .ref z25, .int 0, .ref z26, .ref z27, .ref z28, .int 9, .int 0, .int 0, .ref z6, .ref z29, .ref z7, .int 0, .int 2, .ref z19, .ref z8, .ref z9, .ref z10, .int 0, .ref z11, .int 0, .ref z30, .ref z31, .ref z32, .ref z33, .int 0, .ref z12, .int 0, .int 0, .ref z34, .ref z35, .ref z36, .ref z37, .int 0, .int 0, .int 0, .int 0, .ref z38, .int 0, .ref z39, .ref z40, .ref z41, .ref z42, .int 0, .ref z13, .ref z14, .ref z15, .ref z16, .int 0, .ref z17, .ref z18, .ref z43]))]) [0] rfl
  have hD9 := hD.sub (ws' := [(h0, .inr (12, [.ref z0, .ref z1, .ref z2, .ref z3, .ref z4, .ref z5, .ref z20, .ref z21, .ref z22, .ref z23, .ref z24, .ref z25, .int 0, .ref z26, .ref z27, .ref z28, .int 9, .int 0, .int 0, .ref z6, .ref z29, .ref z7, .int 0, .int 2, .ref z19, .ref z8, .ref z9, .ref z10, .int 0, .ref z11, .int 0, .ref z30, .ref z31, .ref z32, .ref z33, .int 0, .ref z12, .int 0, .int 0, .ref z34, .ref z35, .ref z36, .ref z37, .int 0, .int 0, .int 0, .int 0, .ref z38, .int 0, .ref z39, .ref z40, .ref z41, .ref z42, .int 0, .ref z13, .ref z14, .ref z15, .ref z16, .int 0, .ref z17, .ref z18, .ref z43]))]) [0] (by decide) rfl
  exact W.iret (v := (-1)) hx hb hr (fun t ht hW => ⟨⟨(-1), (), rfl, rfl, ⟨by rw [ht]; exact hP9, va_K.moved hW.alike hK, hD9⟩⟩, hS.F ht⟩) hS.2.2 dX12_passAt_22

set_option maxHeartbeats 4000000 in
set_option maxRecDepth 100000 in
/-- X12_passAt -/
theorem kX12_passAt_3_6_0 (l : Launch) (D : va_G) (G : tyG) (h0 : Nat) (z0 : Nat) (z1 : Nat) (z2 : Nat) (z3 : Nat) (z4 : Nat) (z5 : Nat) (z20 : Nat) (z21 : Nat) (z22 : Nat) (z23 : Nat) (z24 : Nat) (z25 : Nat) (z26 : Nat) (z27 : Nat) (z28 : Nat) (z6 : Nat) (z29 : Nat) (z7 : Nat) (z19 : Nat) (z8 : Nat) (z9 : Nat) (z10 : Nat) (z11 : Nat) (z30 : Nat) (z31 : Nat) (z32 : Nat) (z33 : Nat) (z12 : Nat) (z34 : Nat) (z35 : Nat) (z36 : Nat) (z37 : Nat) (z38 : Nat) (z39 : Nat) (z40 : Nat) (z41 : Nat) (z42 : Nat) (z13 : Nat) (z14 : Nat) (z15 : Nat) (z16 : Nat) (z17 : Nat) (z18 : Nat) (z43 : Nat) (sz : Nat) : Met l yX12_passAt wsX12_passAt ({ frames := 1, cells := 0, slots := 0, locals := 23 }) (va_Pc [.ref h0, .int 6, .int 3, .int 0] (wB D G sz [(h0, .inr (12, [.ref z0, .ref z1, .ref z2, .ref z3, .ref z4, .ref z5, .ref z20, .ref z21, .ref z22, .ref z23, .ref z24, .ref z25, .int 0, .ref z26, .ref z27, .ref z28, .int 9, .int 0, .int 0, .ref z6, .ref z29, .ref z7, .int 0, .int 2, .ref z19, .ref z8, .ref z9, .ref z10, .int 0, .ref z11, .int 0, .ref z30, .ref z31, .ref z32, .ref z33, .int 0, .ref z12, .int 0, .int 0, .ref z34, .ref z35, .ref z36, .ref z37, .int 0, .int 0, .int 0, .int 0, .ref z38, .int 0, .ref z39, .ref z40, .ref z41, .ref z42, .int 0, .ref z13, .ref z14, .ref z15, .ref z16, .int 0, .ref z17, .ref z18, .ref z43]))])) (va_Qi (fun (r : Int32) (_ : Unit) => r = (-1)) (fun _ t => wS D G (va_A [(h0, .inr (12, [.ref z0, .ref z1, .ref z2, .ref z3, .ref z4, .ref z5, .ref z20, .ref z21, .ref z22, .ref z23, .ref z24, .ref z25, .int 0, .ref z26, .ref z27, .ref z28, .int 9, .int 0, .int 0, .ref z6, .ref z29, .ref z7, .int 0, .int 2, .ref z19, .ref z8, .ref z9, .ref z10, .int 0, .ref z11, .int 0, .ref z30, .ref z31, .ref z32, .ref z33, .int 0, .ref z12, .int 0, .int 0, .ref z34, .ref z35, .ref z36, .ref z37, .int 0, .int 0, .int 0, .int 0, .ref z38, .int 0, .ref z39, .ref z40, .ref z41, .ref z42, .int 0, .ref z13, .ref z14, .ref z15, .ref z16, .int 0, .ref z17, .ref z18, .ref z43]))] sz) [(h0, .inr (12, [.ref z0, .ref z1, .ref z2, .ref z3, .ref z4, .ref z5, .ref z20, .ref z21, .ref z22, .ref z23, .ref z24, .ref z25, .int 0, .ref z26, .ref z27, .ref z28, .int 9, .int 0, .int 0, .ref z6, .ref z29, .ref z7, .int 0, .int 2, .ref z19, .ref z8, .ref z9, .ref z10, .int 0, .ref z11, .int 0, .ref z30, .ref z31, .ref z32, .ref z33, .int 0, .ref z12, .int 0, .int 0, .ref z34, .ref z35, .ref z36, .ref z37, .int 0, .int 0, .int 0, .int 0, .ref z38, .int 0, .ref z39, .ref z40, .ref z41, .ref z42, .int 0, .ref z13, .ref z14, .ref z15, .ref z16, .int 0, .ref z17, .ref z18, .ref z43]))] t) (va_A [(h0, .inr (12, [.ref z0, .ref z1, .ref z2, .ref z3, .ref z4, .ref z5, .ref z20, .ref z21, .ref z22, .ref z23, .ref z24, .ref z25, .int 0, .ref z26, .ref z27, .ref z28, .int 9, .int 0, .int 0, .ref z6, .ref z29, .ref z7, .int 0, .int 2, .ref z19, .ref z8, .ref z9, .ref z10, .int 0, .ref z11, .int 0, .ref z30, .ref z31, .ref z32, .ref z33, .int 0, .ref z12, .int 0, .int 0, .ref z34, .ref z35, .ref z36, .ref z37, .int 0, .int 0, .int 0, .int 0, .ref z38, .int 0, .ref z39, .ref z40, .ref z41, .ref z42, .int 0, .ref z13, .ref z14, .ref z15, .ref z16, .int 0, .ref z17, .ref z18, .ref z43]))] sz)) 0 0 (va_A [(h0, .inr (12, [.ref z0, .ref z1, .ref z2, .ref z3, .ref z4, .ref z5, .ref z20, .ref z21, .ref z22, .ref z23, .ref z24, .ref z25, .int 0, .ref z26, .ref z27, .ref z28, .int 9, .int 0, .int 0, .ref z6, .ref z29, .ref z7, .int 0, .int 2, .ref z19, .ref z8, .ref z9, .ref z10, .int 0, .ref z11, .int 0, .ref z30, .ref z31, .ref z32, .ref z33, .int 0, .ref z12, .int 0, .int 0, .ref z34, .ref z35, .ref z36, .ref z37, .int 0, .int 0, .int 0, .int 0, .ref z38, .int 0, .ref z39, .ref z40, .ref z41, .ref z42, .int 0, .ref z13, .ref z14, .ref z15, .ref z16, .int 0, .ref z17, .ref z18, .ref z43]))] sz) := by
  refine Met.ofW (cc := cX12_passAt) (maxL := 4) (ret := (some .int)) (by decide) rfl ?_
  intro p e s m args below meth c s₁ B hml hv
  obtain ⟨rfl, hsz, hP, hK, hD0, hN⟩ := hv
  have hx := B.exec
  have hb := B.bytes
  have hr := B.returns
  have hts := atoms_spec (ws := wsX12_passAt) B.pre
  have hown : s.vm.findClass RX12 = some m.cls := findClass_of_methodNamed B.named
  have hlocks := B.notSynchronized
  subst hsz
  have hD := hD0.self (sz := s.heap.size)
  generalize hAe : va_A [(h0, .inr (12, [.ref z0, .ref z1, .ref z2, .ref z3, .ref z4, .ref z5, .ref z20, .ref z21, .ref z22, .ref z23, .ref z24, .ref z25, .int 0, .ref z26, .ref z27, .ref z28, .int 9, .int 0, .int 0, .ref z6, .ref z29, .ref z7, .int 0, .int 2, .ref z19, .ref z8, .ref z9, .ref z10, .int 0, .ref z11, .int 0, .ref z30, .ref z31, .ref z32, .ref z33, .int 0, .ref z12, .int 0, .int 0, .ref z34, .ref z35, .ref z36, .ref z37, .int 0, .int 0, .int 0, .int 0, .ref z38, .int 0, .ref z39, .ref z40, .ref z41, .ref z42, .int 0, .ref z13, .ref z14, .ref z15, .ref z16, .int 0, .ref z17, .ref z18, .ref z43]))] s.heap.size = A at hD ⊢
  have hA : ∀ q : Nat, s.heap.size ≤ q → A q := fun q h => by rw [← hAe]; exact Or.inr h
  have hS : va_S A s.heap s.heap [] := va_S.rf
  have hP : va_P D vwCl [(h0, .inr (12, [.ref z0, .ref z1, .ref z2, .ref z3, .ref z4, .ref z5, .ref z20, .ref z21, .ref z22, .ref z23, .ref z24, .ref z25, .int 0, .ref z26, .ref z27, .ref z28, .int 9, .int 0, .int 0, .ref z6, .ref z29, .ref z7, .int 0, .int 2, .ref z19, .ref z8, .ref z9, .ref z10, .int 0, .ref z11, .int 0, .ref z30, .ref z31, .ref z32, .ref z33, .int 0, .ref z12, .int 0, .int 0, .ref z34, .ref z35, .ref z36, .ref z37, .int 0, .int 0, .int 0, .int 0, .ref z38, .int 0, .ref z39, .ref z40, .ref z41, .ref z42, .int 0, .ref z13, .ref z14, .ref z15, .ref z16, .int 0, .ref z17, .ref z18, .ref z43]))] s.heap := hP
  have hl := lv_entry ([.ref h0, .int 6, .int 3, .int 0]) (n := 4) (Nat.le_of_ble_eq_true rfl)
  rw [lg_entry_eq]
  generalize (lg_sl ([.ref h0, .int 6, .int 3, .int 0]) ++ List.replicate (4 - (lg_sl ([.ref h0, .int 6, .int 3, .int 0])).length) Slot.unset).toArray = ls at hl ⊢
  have hl : lv_has ls 4 [(0, .ref h0), (1, .int 6), (2, .int 3), (3, .int 0)] := hl
  refine lv_iload_n hx hb dX12_passAt_0 rfl (lv_at hl 1 rfl) ?_
  refine lv_aload_n hx hb dX12_passAt_1 rfl (lv_at hl 0 rfl) ?_
  have hPc := hP.sub (ws' := [(h0, .inr (12, [.ref z0, .ref z1, .ref z2, .ref z3, .ref z4, .ref z5, .ref z20, .ref z21, .ref z22, .ref z23, .ref z24, .ref z25, .int 0, .ref z26, .ref z27, .ref z28, .int 9, .int 0, .int 0, .ref z6, .ref z29, .ref z7, .int 0, .int 2, .ref z19, .ref z8, .ref z9, .ref z10, .int 0, .ref z11, .int 0, .ref z30, .ref z31, .ref z32, .ref z33, .int 0, .ref z12, .int 0, .int 0, .ref z34, .ref z35, .ref z36, .ref z37, .int 0, .int 0, .int 0, .int 0, .ref z38, .int 0, .ref z39, .ref z40, .ref z41, .ref z42, .int 0, .ref z13, .ref z14, .ref z15, .ref z16, .int 0, .ref z17, .ref z18, .ref z43]))]) [0] rfl
  have hDc := hD.sub (ws' := [(h0, .inr (12, [.ref z0, .ref z1, .ref z2, .ref z3, .ref z4, .ref z5, .ref z20, .ref z21, .ref z22, .ref z23, .ref z24, .ref z25, .int 0, .ref z26, .ref z27, .ref z28, .int 9, .int 0, .int 0, .ref z6, .ref z29, .ref z7, .int 0, .int 2, .ref z19, .ref z8, .ref z9, .ref z10, .int 0, .ref z11, .int 0, .ref z30, .ref z31, .ref z32, .ref z33, .int 0, .ref z12, .int 0, .int 0, .ref z34, .ref z35, .ref z36, .ref z37, .int 0, .int 0, .int 0, .int 0, .ref z38, .int 0, .ref z39, .ref z40, .ref z41, .ref z42, .int 0, .ref z13, .ref z14, .ref z15, .ref z16, .int 0, .ref z17, .ref z18, .ref z43]))]) [0] (by decide) rfl
  have hFc := va_free (wc := [(h0, .inr (12, [.ref z0, .ref z1, .ref z2, .ref z3, .ref z4, .ref z5, .ref z20, .ref z21, .ref z22, .ref z23, .ref z24, .ref z25, .int 0, .ref z26, .ref z27, .ref z28, .int 9, .int 0, .int 0, .ref z6, .ref z29, .ref z7, .int 0, .int 2, .ref z19, .ref z8, .ref z9, .ref z10, .int 0, .ref z11, .int 0, .ref z30, .ref z31, .ref z32, .ref z33, .int 0, .ref z12, .int 0, .int 0, .ref z34, .ref z35, .ref z36, .ref z37, .int 0, .int 0, .int 0, .int 0, .ref z38, .int 0, .ref z39, .ref z40, .ref z41, .ref z42, .int 0, .ref z13, .ref z14, .ref z15, .ref z16, .int 0, .ref z17, .ref z18, .ref z43]))]) hD hS hA [0] rfl
  refine va_calli (va_runV (As := []) (rest := [.int 6]) ⟨hx, hb, hml, hown, hts⟩ (kX12_gens l D G h0 z0 z1 z2 z3 z4 z5 z20 z21 z22 z23 z24 z25 z26 z27 z28 z6 z29 z7 z19 z8 z9 z10 z11 z30 z31 z32 z33 z12 z34 z35 z36 z37 z38 z39 z40 z41 z42 z13 z14 z15 z16 z17 z18 z43 0 s.heap.size) (cwV 0 hts gX12_passAt_X12_gens rfl rfl rfl (by decide +kernel) ⟨Nat.le_of_ble_eq_true rfl, Nat.le_of_ble_eq_true rfl⟩) ⟨wB_blind, va_recv hK hPc (ci := 12) (q0 := 0) rfl rfl, wB_pre hPc hK hDc hN⟩ rfl rfl hl.1 rfl (lv_room (Nat.le_of_ble_eq_true rfl)) dX12_passAt_2 ⟨Nat.le_of_ble_eq_true rfl, Nat.le_of_ble_eq_true rfl⟩) hS (fun q _ h => hFc q h) hFc (fun r1 u t H1 locs ht hvm hr1 hB hz1 hk1 hS => ?_)
  obtain ⟨hP1, hK1, hD1⟩ := hB
  rw [ht] at hP1
  obtain ⟨hP, hD⟩ := va_join (wr := []) (w1 := [(h0, .inr (12, [.ref z0, .ref z1, .ref z2, .ref z3, .ref z4, .ref z5, .ref z20, .ref z21, .ref z22, .ref z23, .ref z24, .ref z25, .int 0, .ref z26, .ref z27, .ref z28, .int 9, .int 0, .int 0, .ref z6, .ref z29, .ref z7, .int 0, .int 2, .ref z19, .ref z8, .ref z9, .ref z10, .int 0, .ref z11, .int 0, .ref z30, .ref z31, .ref z32, .ref z33, .int 0, .ref z12, .int 0, .int 0, .ref z34, .ref z35, .ref z36, .ref z37, .int 0, .int 0, .int 0, .int 0, .ref z38, .int 0, .ref z39, .ref z40, .ref z41, .ref z42, .int 0, .ref z13, .ref z14, .ref z15, .ref z16, .int 0, .ref z17, .ref z18, .ref z43]))]) hP hD [0] [] rfl rfl (by decide) (by decide) hk1 hFc hP1 hD1
  clear hPc hDc
  generalize H1 = H at hP hS ⊢
  have hP : va_P D vwCl [(h0, .inr (12, [.ref z0, .ref z1, .ref z2, .ref z3, .ref z4, .ref z5, .ref z20, .ref z21, .ref z22, .ref z23, .ref z24, .ref z25, .int 0, .ref z26, .ref z27, .ref z28, .int 9, .int 0, .int 0, .ref z6, .ref z29, .ref z7, .int 0, .int 2, .ref z19, .ref z8, .ref z9, .ref z10, .int 0, .ref z11, .int 0, .ref z30, .ref z31, .ref z32, .ref z33, .int 0, .ref z12, .int 0, .int 0, .ref z34, .ref z35, .ref z36, .ref z37, .int 0, .int 0, .int 0, .int 0, .ref z38, .int 0, .ref z39, .ref z40, .ref z41, .ref z42, .int 0, .ref z13, .ref z14, .ref z15, .ref z16, .int 0, .ref z17, .ref z18, .ref z43]))] H := hP
  have hD : va_D A [(h0, .inr (12, [.ref z0, .ref z1, .ref z2, .ref z3, .ref z4, .ref z5, .ref z20, .ref z21, .ref z22, .ref z23, .ref z24, .ref z25, .int 0, .ref z26, .ref z27, .ref z28, .int 9, .int 0, .int 0, .ref z6, .ref z29, .ref z7, .int 0, .int 2, .ref z19, .ref z8, .ref z9, .ref z10, .int 0, .ref z11, .int 0, .ref z30, .ref z31, .ref z32, .ref z33, .int 0, .ref z12, .int 0, .int 0, .ref z34, .ref z35, .ref z36, .ref z37, .int 0, .int 0, .int 0, .int 0, .ref z38, .int 0, .ref z39, .ref z40, .ref z41, .ref z42, .int 0, .ref z13, .ref z14, .ref z15, .ref z16, .int 0, .ref z17, .ref z18, .ref z43]))] := hD
  subst hr1
  refine lv_iload_n hx hb dX12_passAt_5 rfl (lv_at hl 2 rfl) ?_
  refine lv_iconst (v := 1) hx hb dX12_passAt_6 (by decide) ?_
  refine lv_isub hx hb dX12_passAt_7 ?_
  refine wk_i 2 (by decide) ?_
  refine lv_iload_n hx hb dX12_passAt_8 rfl (lv_at hl 3 rfl) ?_
  refine lv_isub hx hb dX12_passAt_9 ?_
  refine wk_i 2 (by decide) ?_
  have hPc := hP.sub (ws' := []) [] rfl
  have hDc := hD.sub (ws' := []) [] (by decide) rfl
  have hFc := va_free (wc := []) hD hS hA [] rfl
  refine va_calli (va_runS (As := [.int 2, .int 2]) (rest := [.int 6]) ⟨hx, hb, hml, hown, hts⟩ (kX12_power_2 l D G  H.size) (va_cwS 2 hts gX12_passAt_X12_power rfl rfl rfl (by decide +kernel) ⟨Nat.le_of_ble_eq_true rfl, Nat.le_of_ble_eq_true rfl⟩) ⟨wB_blind, wB_pre hPc hK hDc hN⟩ rfl rfl hl.1 rfl (lv_room (Nat.le_of_ble_eq_true rfl)) dX12_passAt_10 ⟨Nat.le_of_ble_eq_true rfl, Nat.le_of_ble_eq_true rfl⟩) hS (fun q _ h => hFc q h) hFc (fun r2 u t H1 locs ht hvm hr2 hB hz1 hk1 hS => ?_)
  obtain ⟨hP, hD⟩ := va_join (wr := [(h0, .inr (12, [.ref z0, .ref z1, .ref z2, .ref z3, .ref z4, .ref z5, .ref z20, .ref z21, .ref z22, .ref z23, .ref z24, .ref z25, .int 0, .ref z26, .ref z27, .ref z28, .int 9, .int 0, .int 0, .ref z6, .ref z29, .ref z7, .int 0, .int 2, .ref z19, .ref z8, .ref z9, .ref z10, .int 0, .ref z11, .int 0, .ref z30, .ref z31, .ref z32, .ref z33, .int 0, .ref z12, .int 0, .int 0, .ref z34, .ref z35, .ref z36, .ref z37, .int 0, .int 0, .int 0, .int 0, .ref z38, .int 0, .ref z39, .ref z40, .ref z41, .ref z42, .int 0, .ref z13, .ref z14, .ref z15, .ref z16, .int 0, .ref z17, .ref z18, .ref z43]))]) (w1 := []) hP hD [] [0] rfl rfl (by decide) (by decide) hk1 hFc wP_nil wD_nil
  clear hPc hDc
  generalize H1 = H at hP hS ⊢
  have hP : va_P D vwCl [(h0, .inr (12, [.ref z0, .ref z1, .ref z2, .ref z3, .ref z4, .ref z5, .ref z20, .ref z21, .ref z22, .ref z23, .ref z24, .ref z25, .int 0, .ref z26, .ref z27, .ref z28, .int 9, .int 0, .int 0, .ref z6, .ref z29, .ref z7, .int 0, .int 2, .ref z19, .ref z8, .ref z9, .ref z10, .int 0, .ref z11, .int 0, .ref z30, .ref z31, .ref z32, .ref z33, .int 0, .ref z12, .int 0, .int 0, .ref z34, .ref z35, .ref z36, .ref z37, .int 0, .int 0, .int 0, .int 0, .ref z38, .int 0, .ref z39, .ref z40, .ref z41, .ref z42, .int 0, .ref z13, .ref z14, .ref z15, .ref z16, .int 0, .ref z17, .ref z18, .ref z43]))] H := hP
  have hD : va_D A [(h0, .inr (12, [.ref z0, .ref z1, .ref z2, .ref z3, .ref z4, .ref z5, .ref z20, .ref z21, .ref z22, .ref z23, .ref z24, .ref z25, .int 0, .ref z26, .ref z27, .ref z28, .int 9, .int 0, .int 0, .ref z6, .ref z29, .ref z7, .int 0, .int 2, .ref z19, .ref z8, .ref z9, .ref z10, .int 0, .ref z11, .int 0, .ref z30, .ref z31, .ref z32, .ref z33, .int 0, .ref z12, .int 0, .int 0, .ref z34, .ref z35, .ref z36, .ref z37, .int 0, .int 0, .int 0, .int 0, .ref z38, .int 0, .ref z39, .ref z40, .ref z41, .ref z42, .int 0, .ref z13, .ref z14, .ref z15, .ref z16, .int 0, .ref z17, .ref z18, .ref z43]))] := hD
  subst hr2
  refine lv_idiv hx hb dX12_passAt_13 (by decide) ?_
  refine wk_i 1 (by decide) ?_
  refine lv_aload_n hx hb dX12_passAt_14 rfl (lv_at hl 0 rfl) ?_
  have hPc := hP.sub (ws' := [(h0, .inr (12, [.ref z0, .ref z1, .ref z2, .ref z3, .ref z4, .ref z5, .ref z20, .ref z21, .ref z22, .ref z23, .ref z24, .ref z25, .int 0, .ref z26, .ref z27, .ref z28, .int 9, .int 0, .int 0, .ref z6, .ref z29, .ref z7, .int 0, .int 2, .ref z19, .ref z8, .ref z9, .ref z10, .int 0, .ref z11, .int 0, .ref z30, .ref z31, .ref z32, .ref z33, .int 0, .ref z12, .int 0, .int 0, .ref z34, .ref z35, .ref z36, .ref z37, .int 0, .int 0, .int 0, .int 0, .ref z38, .int 0, .ref z39, .ref z40, .ref z41, .ref z42, .int 0, .ref z13, .ref z14, .ref z15, .ref z16, .int 0, .ref z17, .ref z18, .ref z43]))]) [0] rfl
  have hDc := hD.sub (ws' := [(h0, .inr (12, [.ref z0, .ref z1, .ref z2, .ref z3, .ref z4, .ref z5, .ref z20, .ref z21, .ref z22, .ref z23, .ref z24, .ref z25, .int 0, .ref z26, .ref z27, .ref z28, .int 9, .int 0, .int 0, .ref z6, .ref z29, .ref z7, .int 0, .int 2, .ref z19, .ref z8, .ref z9, .ref z10, .int 0, .ref z11, .int 0, .ref z30, .ref z31, .ref z32, .ref z33, .int 0, .ref z12, .int 0, .int 0, .ref z34, .ref z35, .ref z36, .ref z37, .int 0, .int 0, .int 0, .int 0, .ref z38, .int 0, .ref z39, .ref z40, .ref z41, .ref z42, .int 0, .ref z13, .ref z14, .ref z15, .ref z16, .int 0, .ref z17, .ref z18, .ref z43]))]) [0] (by decide) rfl
  have hFc := va_free (wc := [(h0, .inr (12, [.ref z0, .ref z1, .ref z2, .ref z3, .ref z4, .ref z5, .ref z20, .ref z21, .ref z22, .ref z23, .ref z24, .ref z25, .int 0, .ref z26, .ref z27, .ref z28, .int 9, .int 0, .int 0, .ref z6, .ref z29, .ref z7, .int 0, .int 2, .ref z19, .ref z8, .ref z9, .ref z10, .int 0, .ref z11, .int 0, .ref z30, .ref z31, .ref z32, .ref z33, .int 0, .ref z12, .int 0, .int 0, .ref z34, .ref z35, .ref z36, .ref z37, .int 0, .int 0, .int 0, .int 0, .ref z38, .int 0, .ref z39, .ref z40, .ref z41, .ref z42, .int 0, .ref z13, .ref z14, .ref z15, .ref z16, .int 0, .ref z17, .ref z18, .ref z43]))]) hD hS hA [0] rfl
  refine va_calli (va_runV (As := []) (rest := [.int 1]) ⟨hx, hb, hml, hown, hts⟩ (kX12_gens l D G h0 z0 z1 z2 z3 z4 z5 z20 z21 z22 z23 z24 z25 z26 z27 z28 z6 z29 z7 z19 z8 z9 z10 z11 z30 z31 z32 z33 z12 z34 z35 z36 z37 z38 z39 z40 z41 z42 z13 z14 z15 z16 z17 z18 z43 0 H.size) (cwV 0 hts gX12_passAt_X12_gens rfl rfl rfl (by decide +kernel) ⟨Nat.le_of_ble_eq_true rfl, Nat.le_of_ble_eq_true rfl⟩) ⟨wB_blind, va_recv hK hPc (ci := 12) (q0 := 0) rfl rfl, wB_pre hPc hK hDc hN⟩ rfl rfl hl.1 rfl (lv_room (Nat.le_of_ble_eq_true rfl)) dX12_passAt_15 ⟨Nat.le_of_ble_eq_true rfl, Nat.le_of_ble_eq_true rfl⟩) hS (fun q _ h => hFc q h) hFc (fun r3 u t H1 locs ht hvm hr3 hB hz1 hk1 hS => ?_)
  obtain ⟨hP1, hK1, hD1⟩ := hB
  rw [ht] at hP1
  obtain ⟨hP, hD⟩ := va_join (wr := []) (w1 := [(h0, .inr (12, [.ref z0, .ref z1, .ref z2, .ref z3, .ref z4, .ref z5, .ref z20, .ref z21, .ref z22, .ref z23, .ref z24, .ref z25, .int 0, .ref z26, .ref z27, .ref z28, .int 9, .int 0, .int 0, .ref z6, .ref z29, .ref z7, .int 0, .int 2, .ref z19, .ref z8, .ref z9, .ref z10, .int 0, .ref z11, .int 0, .ref z30, .ref z31, .ref z32, .ref z33, .int 0, .ref z12, .int 0, .int 0, .ref z34, .ref z35, .ref z36, .ref z37, .int 0, .int 0, .int 0, .int 0, .ref z38, .int 0, .ref z39, .ref z40, .ref z41, .ref z42, .int 0, .ref z13, .ref z14, .ref z15, .ref z16, .int 0, .ref z17, .ref z18, .ref z43]))]) hP hD [0] [] rfl rfl (by decide) (by decide) hk1 hFc hP1 hD1
  clear hPc hDc
  generalize H1 = H at hP hS ⊢
  have hP : va_P D vwCl [(h0, .inr (12, [.ref z0, .ref z1, .ref z2, .ref z3, .ref z4, .ref z5, .ref z20, .ref z21, .ref z22, .ref z23, .ref z24, .ref z25, .int 0, .ref z26, .ref z27, .ref z28, .int 9, .int 0, .int 0, .ref z6, .ref z29, .ref z7, .int 0, .int 2, .ref z19, .ref z8, .ref z9, .ref z10, .int 0, .ref z11, .int 0, .ref z30, .ref z31, .ref z32, .ref z33, .int 0, .ref z12, .int 0, .int 0, .ref z34, .ref z35, .ref z36, .ref z37, .int 0, .int 0, .int 0, .int 0, .ref z38, .int 0, .ref z39, .ref z40, .ref z41, .ref z42, .int 0, .ref z13, .ref z14, .ref z15, .ref z16, .int 0, .ref z17, .ref z18, .ref z43]))] H := hP
  have hD : va_D A [(h0, .inr (12, [.ref z0, .ref z1, .ref z2, .ref z3, .ref z4, .ref z5, .ref z20, .ref z21, .ref z22, .ref z23, .ref z24, .ref z25, .int 0, .ref z26, .ref z27, .ref z28, .int 9, .int 0, .int 0, .ref z6, .ref z29, .ref z7, .int 0, .int 2, .ref z19, .ref z8, .ref z9, .ref z10, .int 0, .ref z11, .int 0, .ref z30, .ref z31, .ref z32, .ref z33, .int 0, .ref z12, .int 0, .int 0, .ref z34, .ref z35, .ref z36, .ref z37, .int 0, .int 0, .int 0, .int 0, .ref z38, .int 0, .ref z39, .ref z40, .ref z41, .ref z42, .int 0, .ref z13, .ref z14, .ref z15, .ref z16, .int 0, .ref z17, .ref z18, .ref z43]))] := hD
  subst hr3
  refine lv_irem hx hb dX12_passAt_18 (by decide) ?_
  refine wk_i 1 (by decide) ?_
  have hPc := hP.sub (ws' := []) [] rfl
  have hDc := hD.sub (ws' := []) [] (by decide) rfl
  have hFc := va_free (wc := []) hD hS hA [] rfl
  refine va_calli (va_runS (As := [.int 1]) (rest := []) ⟨hx, hb, hml, hown, hts⟩ (kX12_passOf_1 l D G  H.size) (va_cwS 1 hts gX12_passAt_X12_passOf rfl rfl rfl (by decide +kernel) ⟨Nat.le_of_ble_eq_true rfl, Nat.le_of_ble_eq_true rfl⟩) ⟨wB_blind, wB_pre hPc hK hDc hN⟩ rfl rfl hl.1 rfl (lv_room (Nat.le_of_ble_eq_true rfl)) dX12_passAt_19 ⟨Nat.le_of_ble_eq_true rfl, Nat.le_of_ble_eq_true rfl⟩) hS (fun q _ h => hFc q h) hFc (fun r4 u t H1 locs ht hvm hr4 hB hz1 hk1 hS => ?_)
  obtain ⟨hP, hD⟩ := va_join (wr := [(h0, .inr (12, [.ref z0, .ref z1, .ref z2, .ref z3, .ref z4, .ref z5, .ref z20, .ref z21, .ref z22, .ref z23, .ref z24, .ref z25, .int 0, .ref z26, .ref z27, .ref z28, .int 9, .int 0, .int 0, .ref z6, .ref z29, .ref z7, .int 0, .int 2, .ref z19, .ref z8, .ref z9, .ref z10, .int 0, .ref z11, .int 0, .ref z30, .ref z31, .ref z32, .ref z33, .int 0, .ref z12, .int 0, .int 0, .ref z34, .ref z35, .ref z36, .ref z37, .int 0, .int 0, .int 0, .int 0, .ref z38, .int 0, .ref z39, .ref z40, .ref z41, .ref z42, .int 0, .ref z13, .ref z14, .ref z15, .ref z16, .int 0, .ref z17, .ref z18, .ref z43]))]) (w1 := []) hP hD [] [0] rfl rfl (by decide) (by decide) hk1 hFc wP_nil wD_nil
  clear hPc hDc
  generalize H1 = H at hP hS ⊢
  have hP : va_P D vwCl [(h0, .inr (12, [.ref z0, .ref z1, .ref z2, .ref z3, .ref z4, .ref z5, .ref z20, .ref z21, .ref z22, .ref z23, .ref z24, .ref z25, .int 0, .ref z26, .ref z27, .ref z28, .int 9, .int 0, .int 0, .ref z6, .ref z29, .ref z7, .int 0, .int 2, .ref z19, .ref z8, .ref z9, .ref z10, .int 0, .ref z11, .int 0, .ref z30, .ref z31, .ref z32, .ref z33, .int 0, .ref z12, .int 0, .int 0, .ref z34, .ref z35, .ref z36, .ref z37, .int 0, .int 0, .int 0, .int 0, .ref z38, .int 0, .ref z39, .ref z40, .ref z41, .ref z42, .int 0, .ref z13, .ref z14, .ref z15, .ref z16, .int 0, .ref z17, .ref z18, .ref z43]))] H := hP
  have hD : va_D A [(h0, .inr (12, [.ref z0, .ref z1, .ref z2, .ref z3, .ref z4, .ref z5, .ref z20, .ref z21, .ref z22, .ref z23, .ref z24, .ref z25, .int 0, .ref z26, .ref z27, .ref z28, .int 9, .int 0, .int 0, .ref z6, .ref z29, .ref z7, .int 0, .int 2, .ref z19, .ref z8, .ref z9, .ref z10, .int 0, .ref z11, .int 0, .ref z30, .ref z31, .ref z32, .ref z33, .int 0, .ref z12, .int 0, .int 0, .ref z34, .ref z35, .ref z36, .ref z37, .int 0, .int 0, .int 0, .int 0, .ref z38, .int 0, .ref z39, .ref z40, .ref z41, .ref z42, .int 0, .ref z13, .ref z14, .ref z15, .ref z16, .int 0, .ref z17, .ref z18, .ref z43]))] := hD
  subst hr4
  have hP9 := hP.sub (ws' := [(h0, .inr (12, [.ref z0, .ref z1, .ref z2, .ref z3, .ref z4, .ref z5, .ref z20, .ref z21, .ref z22, .ref z23, .ref z24, .ref z25, .int 0, .ref z26, .ref z27, .ref z28, .int 9, .int 0, .int 0, .ref z6, .ref z29, .ref z7, .int 0, .int 2, .ref z19, .ref z8, .ref z9, .ref z10, .int 0, .ref z11, .int 0, .ref z30, .ref z31, .ref z32, .ref z33, .int 0, .ref z12, .int 0, .int 0, .ref z34, .ref z35, .ref z36, .ref z37, .int 0, .int 0, .int 0, .int 0, .ref z38, .int 0, .ref z39, .ref z40, .ref z41, .ref z42, .int 0, .ref z13, .ref z14, .ref z15, .ref z16, .int 0, .ref z17, .ref z18, .ref z43]))]) [0] rfl
  have hD9 := hD.sub (ws' := [(h0, .inr (12, [.ref z0, .ref z1, .ref z2, .ref z3, .ref z4, .ref z5, .ref z20, .ref z21, .ref z22, .ref z23, .ref z24, .ref z25, .int 0, .ref z26, .ref z27, .ref z28, .int 9, .int 0, .int 0, .ref z6, .ref z29, .ref z7, .int 0, .int 2, .ref z19, .ref z8, .ref z9, .ref z10, .int 0, .ref z11, .int 0, .ref z30, .ref z31, .ref z32, .ref z33, .int 0, .ref z12, .int 0, .int 0, .ref z34, .ref z35, .ref z36, .ref z37, .int 0, .int 0, .int 0, .int 0, .ref z38, .int 0, .ref z39, .ref z40, .ref z41, .ref z42, .int 0, .ref z13, .ref z14, .ref z15, .ref z16, .int 0, .ref z17, .ref z18, .ref z43]))]) [0] (by decide) rfl
  exact W.iret (v := (-1)) hx hb hr (fun t ht hW => ⟨⟨(-1), (), rfl, rfl, ⟨by rw [ht]; exact hP9, va_K.moved hW.alike hK, hD9⟩⟩, hS.F ht⟩) hS.2.2 dX12_passAt_22

set_option maxHeartbeats 4000000 in
set_option maxRecDepth 100000 in
/-- X12_passAt -/
theorem kX12_passAt_3_6_1 (l : Launch) (D : va_G) (G : tyG) (h0 : Nat) (z0 : Nat) (z1 : Nat) (z2 : Nat) (z3 : Nat) (z4 : Nat) (z5 : Nat) (z20 : Nat) (z21 : Nat) (z22 : Nat) (z23 : Nat) (z24 : Nat) (z25 : Nat) (z26 : Nat) (z27 : Nat) (z28 : Nat) (z6 : Nat) (z29 : Nat) (z7 : Nat) (z19 : Nat) (z8 : Nat) (z9 : Nat) (z10 : Nat) (z11 : Nat) (z30 : Nat) (z31 : Nat) (z32 : Nat) (z33 : Nat) (z12 : Nat) (z34 : Nat) (z35 : Nat) (z36 : Nat) (z37 : Nat) (z38 : Nat) (z39 : Nat) (z40 : Nat) (z41 : Nat) (z42 : Nat) (z13 : Nat) (z14 : Nat) (z15 : Nat) (z16 : Nat) (z17 : Nat) (z18 : Nat) (z43 : Nat) (sz : Nat) : Met l yX12_passAt wsX12_passAt ({ frames := 1, cells := 0, slots := 0, locals := 23 }) (va_Pc [.ref h0, .int 6, .int 3, .int 1] (wB D G sz [(h0, .inr (12, [.ref z0, .ref z1, .ref z2, .ref z3, .ref z4, .ref z5, .ref z20, .ref z21, .ref z22, .ref z23, .ref z24, .ref z25, .int 0, .ref z26, .ref z27, .ref z28, .int 9, .int 0, .int 0, .ref z6, .ref z29, .ref z7, .int 0, .int 2, .ref z19, .ref z8, .ref z9, .ref z10, .int 0, .ref z11, .int 0, .ref z30, .ref z31, .ref z32, .ref z33, .int 0, .ref z12, .int 0, .int 0, .ref z34, .ref z35, .ref z36, .ref z37, .int 0, .int 0, .int 0, .int 0, .ref z38, .int 0, .ref z39, .ref z40, .ref z41, .ref z42, .int 0, .ref z13, .ref z14, .ref z15, .ref z16, .int 0, .ref z17, .ref z18, .ref z43]))])) (va_Qi (fun (r : Int32) (_ : Unit) => r = (-1)) (fun _ t => wS D G (va_A [(h0, .inr (12, [.ref z0, .ref z1, .ref z2, .ref z3, .ref z4, .ref z5, .ref z20, .ref z21, .ref z22, .ref z23, .ref z24, .ref z25, .int 0, .ref z26, .ref z27, .ref z28, .int 9, .int 0, .int 0, .ref z6, .ref z29, .ref z7, .int 0, .int 2, .ref z19, .ref z8, .ref z9, .ref z10, .int 0, .ref z11, .int 0, .ref z30, .ref z31, .ref z32, .ref z33, .int 0, .ref z12, .int 0, .int 0, .ref z34, .ref z35, .ref z36, .ref z37, .int 0, .int 0, .int 0, .int 0, .ref z38, .int 0, .ref z39, .ref z40, .ref z41, .ref z42, .int 0, .ref z13, .ref z14, .ref z15, .ref z16, .int 0, .ref z17, .ref z18, .ref z43]))] sz) [(h0, .inr (12, [.ref z0, .ref z1, .ref z2, .ref z3, .ref z4, .ref z5, .ref z20, .ref z21, .ref z22, .ref z23, .ref z24, .ref z25, .int 0, .ref z26, .ref z27, .ref z28, .int 9, .int 0, .int 0, .ref z6, .ref z29, .ref z7, .int 0, .int 2, .ref z19, .ref z8, .ref z9, .ref z10, .int 0, .ref z11, .int 0, .ref z30, .ref z31, .ref z32, .ref z33, .int 0, .ref z12, .int 0, .int 0, .ref z34, .ref z35, .ref z36, .ref z37, .int 0, .int 0, .int 0, .int 0, .ref z38, .int 0, .ref z39, .ref z40, .ref z41, .ref z42, .int 0, .ref z13, .ref z14, .ref z15, .ref z16, .int 0, .ref z17, .ref z18, .ref z43]))] t) (va_A [(h0, .inr (12, [.ref z0, .ref z1, .ref z2, .ref z3, .ref z4, .ref z5, .ref z20, .ref z21, .ref z22, .ref z23, .ref z24, .ref z25, .int 0, .ref z26, .ref z27, .ref z28, .int 9, .int 0, .int 0, .ref z6, .ref z29, .ref z7, .int 0, .int 2, .ref z19, .ref z8, .ref z9, .ref z10, .int 0, .ref z11, .int 0, .ref z30, .ref z31, .ref z32, .ref z33, .int 0, .ref z12, .int 0, .int 0, .ref z34, .ref z35, .ref z36, .ref z37, .int 0, .int 0, .int 0, .int 0, .ref z38, .int 0, .ref z39, .ref z40, .ref z41, .ref z42, .int 0, .ref z13, .ref z14, .ref z15, .ref z16, .int 0, .ref z17, .ref z18, .ref z43]))] sz)) 0 0 (va_A [(h0, .inr (12, [.ref z0, .ref z1, .ref z2, .ref z3, .ref z4, .ref z5, .ref z20, .ref z21, .ref z22, .ref z23, .ref z24, .ref z25, .int 0, .ref z26, .ref z27, .ref z28, .int 9, .int 0, .int 0, .ref z6, .ref z29, .ref z7, .int 0, .int 2, .ref z19, .ref z8, .ref z9, .ref z10, .int 0, .ref z11, .int 0, .ref z30, .ref z31, .ref z32, .ref z33, .int 0, .ref z12, .int 0, .int 0, .ref z34, .ref z35, .ref z36, .ref z37, .int 0, .int 0, .int 0, .int 0, .ref z38, .int 0, .ref z39, .ref z40, .ref z41, .ref z42, .int 0, .ref z13, .ref z14, .ref z15, .ref z16, .int 0, .ref z17, .ref z18, .ref z43]))] sz) := by
  refine Met.ofW (cc := cX12_passAt) (maxL := 4) (ret := (some .int)) (by decide) rfl ?_
  intro p e s m args below meth c s₁ B hml hv
  obtain ⟨rfl, hsz, hP, hK, hD0, hN⟩ := hv
  have hx := B.exec
  have hb := B.bytes
  have hr := B.returns
  have hts := atoms_spec (ws := wsX12_passAt) B.pre
  have hown : s.vm.findClass RX12 = some m.cls := findClass_of_methodNamed B.named
  have hlocks := B.notSynchronized
  subst hsz
  have hD := hD0.self (sz := s.heap.size)
  generalize hAe : va_A [(h0, .inr (12, [.ref z0, .ref z1, .ref z2, .ref z3, .ref z4, .ref z5, .ref z20, .ref z21, .ref z22, .ref z23, .ref z24, .ref z25, .int 0, .ref z26, .ref z27, .ref z28, .int 9, .int 0, .int 0, .ref z6, .ref z29, .ref z7, .int 0, .int 2, .ref z19, .ref z8, .ref z9, .ref z10, .int 0, .ref z11, .int 0, .ref z30, .ref z31, .ref z32, .ref z33, .int 0, .ref z12, .int 0, .int 0, .ref z34, .ref z35, .ref z36, .ref z37, .int 0, .int 0, .int 0, .int 0, .ref z38, .int 0, .ref z39, .ref z40, .ref z41, .ref z42, .int 0, .ref z13, .ref z14, .ref z15, .ref z16, .int 0, .ref z17, .ref z18, .ref z43]))] s.heap.size = A at hD ⊢
  have hA : ∀ q : Nat, s.heap.size ≤ q → A q := fun q h => by rw [← hAe]; exact Or.inr h
  have hS : va_S A s.heap s.heap [] := va_S.rf
  have hP : va_P D vwCl [(h0, .inr (12, [.ref z0, .ref z1, .ref z2, .ref z3, .ref z4, .ref z5, .ref z20, .ref z21, .ref z22, .ref z23, .ref z24, .ref z25, .int 0, .ref z26, .ref z27, .ref z28, .int 9, .int 0, .int 0, .ref z6, .ref z29, .ref z7, .int 0, .int 2, .ref z19, .ref z8, .ref z9, .ref z10, .int 0, .ref z11, .int 0, .ref z30, .ref z31, .ref z32, .ref z33, .int 0, .ref z12, .int 0, .int 0, .ref z34, .ref z35, .ref z36, .ref z37, .int 0, .int 0, .int 0, .int 0, .ref z38, .int 0, .ref z39, .ref z40, .ref z41, .ref z42, .int 0, .ref z13, .ref z14, .ref z15, .ref z16, .int 0, .ref z17, .ref z18, .ref z43]))] s.heap := hP
  have hl := lv_entry ([.ref h0, .int 6, .int 3, .int 1]) (n := 4) (Nat.le_of_ble_eq_true rfl)
  rw [lg_entry_eq]
  generalize (lg_sl ([.ref h0, .int 6, .int 3, .int 1]) ++ List.replicate (4 - (lg_sl ([.ref h0, .int 6, .int 3, .int 1])).length) Slot.unset).toArray = ls at hl ⊢
  have hl : lv_has ls 4 [(0, .ref h0), (1, .int 6), (2, .int 3), (3, .int 1)] := hl
  refine lv_iload_n hx hb dX12_passAt_0 rfl (lv_at hl 1 rfl) ?_
  refine lv_aload_n hx hb dX12_passAt_1 rfl (lv_at hl 0 rfl) ?_
  have hPc := hP.sub (ws' := [(h0, .inr (12, [.ref z0, .ref z1, .ref z2, .ref z3, .ref z4, .ref z5, .ref z20, .ref z21, .ref z22, .ref z23, .ref z24, .ref z25, .int 0, .ref z26, .ref z27, .ref z28, .int 9, .int 0, .int 0, .ref z6, .ref z29, .ref z7, .int 0, .int 2, .ref z19, .ref z8, .ref z9, .ref z10, .int 0, .ref z11, .int 0, .ref z30, .ref z31, .ref z32, .ref z33, .int 0, .ref z12, .int 0, .int 0, .ref z34, .ref z35, .ref z36, .ref z37, .int 0, .int 0, .int 0, .int 0, .ref z38, .int 0, .ref z39, .ref z40, .ref z41, .ref z42, .int 0, .ref z13, .ref z14, .ref z15, .ref z16, .int 0, .ref z17, .ref z18, .ref z43]))]) [0] rfl
  have hDc := hD.sub (ws' := [(h0, .inr (12, [.ref z0, .ref z1, .ref z2, .ref z3, .ref z4, .ref z5, .ref z20, .ref z21, .ref z22, .ref z23, .ref z24, .ref z25, .int 0, .ref z26, .ref z27, .ref z28, .int 9, .int 0, .int 0, .ref z6, .ref z29, .ref z7, .int 0, .int 2, .ref z19, .ref z8, .ref z9, .ref z10, .int 0, .ref z11, .int 0, .ref z30, .ref z31, .ref z32, .ref z33, .int 0, .ref z12, .int 0, .int 0, .ref z34, .ref z35, .ref z36, .ref z37, .int 0, .int 0, .int 0, .int 0, .ref z38, .int 0, .ref z39, .ref z40, .ref z41, .ref z42, .int 0, .ref z13, .ref z14, .ref z15, .ref z16, .int 0, .ref z17, .ref z18, .ref z43]))]) [0] (by decide) rfl
  have hFc := va_free (wc := [(h0, .inr (12, [.ref z0, .ref z1, .ref z2, .ref z3, .ref z4, .ref z5, .ref z20, .ref z21, .ref z22, .ref z23, .ref z24, .ref z25, .int 0, .ref z26, .ref z27, .ref z28, .int 9, .int 0, .int 0, .ref z6, .ref z29, .ref z7, .int 0, .int 2, .ref z19, .ref z8, .ref z9, .ref z10, .int 0, .ref z11, .int 0, .ref z30, .ref z31, .ref z32, .ref z33, .int 0, .ref z12, .int 0, .int 0, .ref z34, .ref z35, .ref z36, .ref z37, .int 0, .int 0, .int 0, .int 0, .ref z38, .int 0, .ref z39, .ref z40, .ref z41, .ref z42, .int 0, .ref z13, .ref z14, .ref z15, .ref z16, .int 0, .ref z17, .ref z18, .ref z43]))]) hD hS hA [0] rfl
  refine va_calli (va_runV (As := []) (rest := [.int 6]) ⟨hx, hb, hml, hown, hts⟩ (kX12_gens l D G h0 z0 z1 z2 z3 z4 z5 z20 z21 z22 z23 z24 z25 z26 z27 z28 z6 z29 z7 z19 z8 z9 z10 z11 z30 z31 z32 z33 z12 z34 z35 z36 z37 z38 z39 z40 z41 z42 z13 z14 z15 z16 z17 z18 z43 0 s.heap.size) (cwV 0 hts gX12_passAt_X12_gens rfl rfl rfl (by decide +kernel) ⟨Nat.le_of_ble_eq_true rfl, Nat.le_of_ble_eq_true rfl⟩) ⟨wB_blind, va_recv hK hPc (ci := 12) (q0 := 0) rfl rfl, wB_pre hPc hK hDc hN⟩ rfl rfl hl.1 rfl (lv_room (Nat.le_of_ble_eq_true rfl)) dX12_passAt_2 ⟨Nat.le_of_ble_eq_true rfl, Nat.le_of_ble_eq_true rfl⟩) hS (fun q _ h => hFc q h) hFc (fun r1 u t H1 locs ht hvm hr1 hB hz1 hk1 hS => ?_)
  obtain ⟨hP1, hK1, hD1⟩ := hB
  rw [ht] at hP1
  obtain ⟨hP, hD⟩ := va_join (wr := []) (w1 := [(h0, .inr (12, [.ref z0, .ref z1, .ref z2, .ref z3, .ref z4, .ref z5, .ref z20, .ref z21, .ref z22, .ref z23, .ref z24, .ref z25, .int 0, .ref z26, .ref z27, .ref z28, .int 9, .int 0, .int 0, .ref z6, .ref z29, .ref z7, .int 0, .int 2, .ref z19, .ref z8, .ref z9, .ref z10, .int 0, .ref z11, .int 0, .ref z30, .ref z31, .ref z32, .ref z33, .int 0, .ref z12, .int 0, .int 0, .ref z34, .ref z35, .ref z36, .ref z37, .int 0, .int 0, .int 0, .int 0, .ref z38, .int 0, .ref z39, .ref z40, .ref z41, .ref z42, .int 0, .ref z13, .ref z14, .ref z15, .ref z16, .int 0, .ref z17, .ref z18, .ref z43]))]) hP hD [0] [] rfl rfl (by decide) (by decide) hk1 hFc hP1 hD1
  clear hPc hDc
  generalize H1 = H at hP hS ⊢
  have hP : va_P D vwCl [(h0, .inr (12, [.ref z0, .ref z1, .ref z2, .ref z3, .ref z4, .ref z5, .ref z20, .ref z21, .ref z22, .ref z23, .ref z24, .ref z25, .int 0, .ref z26, .ref z27, .ref z28, .int 9, .int 0, .int 0, .ref z6, .ref z29, .ref z7, .int 0, .int 2, .ref z19, .ref z8, .ref z9, .ref z10, .int 0, .ref z11, .int 0, .ref z30, .ref z31, .ref z32, .ref z33, .int 0, .ref z12, .int 0, .int 0, .ref z34, .ref z35, .ref z36, .ref z37, .int 0, .int 0, .int 0, .int 0, .ref z38, .int 0, .ref z39, .ref z40, .ref z41, .ref z42, .int 0, .ref z13, .ref z14, .ref z15, .ref z16, .int 0, .ref z17, .ref z18, .ref z43]))] H := hP
  have hD : va_D A [(h0, .inr (12, [.ref z0, .ref z1, .ref z2, .ref z3, .ref z4, .ref z5, .ref z20, .ref z21, .ref z22, .ref z23, .ref z24, .ref z25, .int 0, .ref z26, .ref z27, .ref z28, .int 9, .int 0, .int 0, .ref z6, .ref z29, .ref z7, .int 0, .int 2, .ref z19, .ref z8, .ref z9, .ref z10, .int 0, .ref z11, .int 0, .ref z30, .ref z31, .ref z32, .ref z33, .int 0, .ref z12, .int 0, .int 0, .ref z34, .ref z35, .ref z36, .ref z37, .int 0, .int 0, .int 0, .int 0, .ref z38, .int 0, .ref z39, .ref z40, .ref z41, .ref z42, .int 0, .ref z13, .ref z14, .ref z15, .ref z16, .int 0, .ref z17, .ref z18, .ref z43]))] := hD
  subst hr1
  refine lv_iload_n hx hb dX12_passAt_5 rfl (lv_at hl 2 rfl) ?_
  refine lv_iconst (v := 1) hx hb dX12_passAt_6 (by decide) ?_
  refine lv_isub hx hb dX12_passAt_7 ?_
  refine wk_i 2 (by decide) ?_
  refine lv_iload_n hx hb dX12_passAt_8 rfl (lv_at hl 3 rfl) ?_
  refine lv_isub hx hb dX12_passAt_9 ?_
  refine wk_i 1 (by decide) ?_
  have hPc := hP.sub (ws' := []) [] rfl
  have hDc := hD.sub (ws' := []) [] (by decide) rfl
  have hFc := va_free (wc := []) hD hS hA [] rfl
  refine va_calli (va_runS (As := [.int 2, .int 1]) (rest := [.int 6]) ⟨hx, hb, hml, hown, hts⟩ (kX12_power_1 l D G  H.size) (va_cwS 2 hts gX12_passAt_X12_power rfl rfl rfl (by decide +kernel) ⟨Nat.le_of_ble_eq_true rfl, Nat.le_of_ble_eq_true rfl⟩) ⟨wB_blind, wB_pre hPc hK hDc hN⟩ rfl rfl hl.1 rfl (lv_room (Nat.le_of_ble_eq_true rfl)) dX12_passAt_10 ⟨Nat.le_of_ble_eq_true rfl, Nat.le_of_ble_eq_true rfl⟩) hS (fun q _ h => hFc q h) hFc (fun r2 u t H1 locs ht hvm hr2 hB hz1 hk1 hS => ?_)
  obtain ⟨hP, hD⟩ := va_join (wr := [(h0, .inr (12, [.ref z0, .ref z1, .ref z2, .ref z3, .ref z4, .ref z5, .ref z20, .ref z21, .ref z22, .ref z23, .ref z24, .ref z25, .int 0, .ref z26, .ref z27, .ref z28, .int 9, .int 0, .int 0, .ref z6, .ref z29, .ref z7, .int 0, .int 2, .ref z19, .ref z8, .ref z9, .ref z10, .int 0, .ref z11, .int 0, .ref z30, .ref z31, .ref z32, .ref z33, .int 0, .ref z12, .int 0, .int 0, .ref z34, .ref z35, .ref z36, .ref z37, .int 0, .int 0, .int 0, .int 0, .ref z38, .int 0, .ref z39, .ref z40, .ref z41, .ref z42, .int 0, .ref z13, .ref z14, .ref z15, .ref z16, .int 0, .ref z17, .ref z18, .ref z43]))]) (w1 := []) hP hD [] [0] rfl rfl (by decide) (by decide) hk1 hFc wP_nil wD_nil
  clear hPc hDc
  generalize H1 = H at hP hS ⊢
  have hP : va_P D vwCl [(h0, .inr (12, [.ref z0, .ref z1, .ref z2, .ref z3, .ref z4, .ref z5, .ref z20, .ref z21, .ref z22, .ref z23, .ref z24, .ref z25, .int 0, .ref z26, .ref z27, .ref z28, .int 9, .int 0, .int 0, .ref z6, .ref z29, .ref z7, .int 0, .int 2, .ref z19, .ref z8, .ref z9, .ref z10, .int 0, .ref z11, .int 0, .ref z30, .ref z31, .ref z32, .ref z33, .int 0, .ref z12, .int 0, .int 0, .ref z34, .ref z35, .ref z36, .ref z37, .int 0, .int 0, .int 0, .int 0, .ref z38, .int 0, .ref z39, .ref z40, .ref z41, .ref z42, .int 0, .ref z13, .ref z14, .ref z15, .ref z16, .int 0, .ref z17, .ref z18, .ref z43]))] H := hP
  have hD : va_D A [(h0, .inr (12, [.ref z0, .ref z1, .ref z2, .ref z3, .ref z4, .ref z5, .ref z20, .ref z21, .ref z22, .ref z23, .ref z24, .ref z25, .int 0, .ref z26, .ref z27, .ref z28, .int 9, .int 0, .int 0, .ref z6, .ref z29, .ref z7, .int 0, .int 2, .ref z19, .ref z8, .ref z9, .ref z10, .int 0, .ref z11, .int 0, .ref z30, .ref z31, .ref z32, .ref z33, .int 0, .ref z12, .int 0, .int 0, .ref z34, .ref z35, .ref z36, .ref z37, .int 0, .int 0, .int 0, .int 0, .ref z38, .int 0, .ref z39, .ref z40, .ref z41, .ref z42, .int 0, .ref z13, .ref z14, .ref z15, .ref z16, .int 0, .ref z17, .ref z18, .ref z43]))] := hD
  subst hr2
  refine lv_idiv hx hb dX12_passAt_13 (by decide) ?_
  refine wk_i 3 (by decide) ?_
  refine lv_aload_n hx hb dX12_passAt_14 rfl (lv_at hl 0 rfl) ?_
  have hPc := hP.sub (ws' := [(h0, .inr (12, [.ref z0, .ref z1, .ref z2, .ref z3, .ref z4, .ref z5, .ref z20, .ref z21, .ref z22, .ref z23, .ref z24, .ref z25, .int 0, .ref z26, .ref z27, .ref z28, .int 9, .int 0, .int 0, .ref z6, .ref z29, .ref z7, .int 0, .int 2, .ref z19, .ref z8, .ref z9, .ref z10, .int 0, .ref z11, .int 0, .ref z30, .ref z31, .ref z32, .ref z33, .int 0, .ref z12, .int 0, .int 0, .ref z34, .ref z35, .ref z36, .ref z37, .int 0, .int 0, .int 0, .int 0, .ref z38, .int 0, .ref z39, .ref z40, .ref z41, .ref z42, .int 0, .ref z13, .ref z14, .ref z15, .ref z16, .int 0, .ref z17, .ref z18, .ref z43]))]) [0] rfl
  have hDc := hD.sub (ws' := [(h0, .inr (12, [.ref z0, .ref z1, .ref z2, .ref z3, .ref z4, .ref z5, .ref z20, .ref z21, .ref z22, .ref z23, .ref z24, .ref z25, .int 0, .ref z26, .ref z27, .ref z28, .int 9, .int 0, .int 0, .ref z6, .ref z29, .ref z7, .int 0, .int 2, .ref z19, .ref z8, .ref z9, .ref z10, .int 0, .ref z11, .int 0, .ref z30, .ref z31, .ref z32, .ref z33, .int 0, .ref z12, .int 0, .int 0, .ref z34, .ref z35, .ref z36, .ref z37, .int 0, .int 0, .int 0, .int 0, .ref z38, .int 0, .ref z39, .ref z40, .ref z41, .ref z42, .int 0, .ref z13, .ref z14, .ref z15, .ref z16, .int 0, .ref z17, .ref z18, .ref z43]))]) [0] (by decide) rfl
  have hFc := va_free (wc := [(h0, .inr (12, [.ref z0, .ref z1, .ref z2, .ref z3, .ref z4, .ref z5, .ref z20, .ref z21, .ref z22, .ref z23, .ref z24, .ref z25, .int 0, .ref z26, .ref z27, .ref z28, .int 9, .int 0, .int 0, .ref z6, .ref z29, .ref z7, .int 0, .int 2, .ref z19, .ref z8, .ref z9, .ref z10, .int 0, .ref z11, .int 0, .ref z30, .ref z31, .ref z32, .ref z33, .int 0, .ref z12, .int 0, .int 0, .ref z34, .ref z35, .ref z36, .ref z37, .int 0, .int 0, .int 0, .int 0, .ref z38, .int 0, .ref z39, .ref z40, .ref z41, .ref z42, .int 0, .ref z13, .ref z14, .ref z15, .ref z16, .int 0, .ref z17, .ref z18, .ref z43]))]) hD hS hA [0] rfl
  refine va_calli (va_runV (As := []) (rest := [.int 3]) ⟨hx, hb, hml, hown, hts⟩ (kX12_gens l D G h0 z0 z1 z2 z3 z4 z5 z20 z21 z22 z23 z24 z25 z26 z27 z28 z6 z29 z7 z19 z8 z9 z10 z11 z30 z31 z32 z33 z12 z34 z35 z36 z37 z38 z39 z40 z41 z42 z13 z14 z15 z16 z17 z18 z43 0 H.size) (cwV 0 hts gX12_passAt_X12_gens rfl rfl rfl (by decide +kernel) ⟨Nat.le_of_ble_eq_true rfl, Nat.le_of_ble_eq_true rfl⟩) ⟨wB_blind, va_recv hK hPc (ci := 12) (q0 := 0) rfl rfl, wB_pre hPc hK hDc hN⟩ rfl rfl hl.1 rfl (lv_room (Nat.le_of_ble_eq_true rfl)) dX12_passAt_15 ⟨Nat.le_of_ble_eq_true rfl, Nat.le_of_ble_eq_true rfl⟩) hS (fun q _ h => hFc q h) hFc (fun r3 u t H1 locs ht hvm hr3 hB hz1 hk1 hS => ?_)
  obtain ⟨hP1, hK1, hD1⟩ := hB
  rw [ht] at hP1
  obtain ⟨hP, hD⟩ := va_join (wr := []) (w1 := [(h0, .inr (12, [.ref z0, .ref z1, .ref z2, .ref z3, .ref z4, .ref z5, .ref z20, .ref z21, .ref z22, .ref z23, .ref z24, .ref z25, .int 0, .ref z26, .ref z27, .ref z28, .int 9, .int 0, .int 0, .ref z6, .ref z29, .ref z7, .int 0, .int 2, .ref z19, .ref z8, .ref z9, .ref z10, .int 0, .ref z11, .int 0, .ref z30, .ref z31, .ref z32, .ref z33, .int 0, .ref z12, .int 0, .int 0, .ref z34, .ref z35, .ref z36, .ref z37, .int 0, .int 0, .int 0, .int 0, .ref z38, .int 0, .ref z39, .ref z40, .ref z41, .ref z42, .int 0, .ref z13, .ref z14, .ref z15, .ref z16, .int 0, .ref z17, .ref z18, .ref z43]))]) hP hD [0] [] rfl rfl (by decide) (by decide) hk1 hFc hP1 hD1
  clear hPc hDc
  generalize H1 = H at hP hS ⊢
  have hP : va_P D vwCl [(h0, .inr (12, [.ref z0, .ref z1, .ref z2, .ref z3, .ref z4, .ref z5, .ref z20, .ref z21, .ref z22, .ref z23, .ref z24, .ref z25, .int 0, .ref z26, .ref z27, .ref z28, .int 9, .int 0, .int 0, .ref z6, .ref z29, .ref z7, .int 0, .int 2, .ref z19, .ref z8, .ref z9, .ref z10, .int 0, .ref z11, .int 0, .ref z30, .ref z31, .ref z32, .ref z33, .int 0, .ref z12, .int 0, .int 0, .ref z34, .ref z35, .ref z36, .ref z37, .int 0, .int 0, .int 0, .int 0, .ref z38, .int 0, .ref z39, .ref z40, .ref z41, .ref z42, .int 0, .ref z13, .ref z14, .ref z15, .ref z16, .int 0, .ref z17, .ref z18, .ref z43]))] H := hP
  have hD : va_D A [(h0, .inr (12, [.ref z0, .ref z1, .ref z2, .ref z3, .ref z4, .ref z5, .ref z20, .ref z21, .ref z22, .ref z23, .ref z24, .ref z25, .int 0, .ref z26, .ref z27, .ref z28, .int 9, .int 0, .int 0, .ref z6, .ref z29, .ref z7, .int 0, .int 2, .ref z19, .ref z8, .ref z9, .ref z10, .int 0, .ref z11, .int 0, .ref z30, .ref z31, .ref z32, .ref z33, .int 0, .ref z12, .int 0, .int 0, .ref z34, .ref z35, .ref z36, .ref z37, .int 0, .int 0, .int 0, .int 0, .ref z38, .int 0, .ref z39, .ref z40, .ref z41, .ref z42, .int 0, .ref z13, .ref z14, .ref z15, .ref z16, .int 0, .ref z17, .ref z18, .ref z43]))] := hD
  subst hr3
  refine lv_irem hx hb dX12_passAt_18 (by decide) ?_
  refine wk_i 1 (by decide) ?_
  have hPc := hP.sub (ws' := []) [] rfl
  have hDc := hD.sub (ws' := []) [] (by decide) rfl
  have hFc := va_free (wc := []) hD hS hA [] rfl
  refine va_calli (va_runS (As := [.int 1]) (rest := []) ⟨hx, hb, hml, hown, hts⟩ (kX12_passOf_1 l D G  H.size) (va_cwS 1 hts gX12_passAt_X12_passOf rfl rfl rfl (by decide +kernel) ⟨Nat.le_of_ble_eq_true rfl, Nat.le_of_ble_eq_true rfl⟩) ⟨wB_blind, wB_pre hPc hK hDc hN⟩ rfl rfl hl.1 rfl (lv_room (Nat.le_of_ble_eq_true rfl)) dX12_passAt_19 ⟨Nat.le_of_ble_eq_true rfl, Nat.le_of_ble_eq_true rfl⟩) hS (fun q _ h => hFc q h) hFc (fun r4 u t H1 locs ht hvm hr4 hB hz1 hk1 hS => ?_)
  obtain ⟨hP, hD⟩ := va_join (wr := [(h0, .inr (12, [.ref z0, .ref z1, .ref z2, .ref z3, .ref z4, .ref z5, .ref z20, .ref z21, .ref z22, .ref z23, .ref z24, .ref z25, .int 0, .ref z26, .ref z27, .ref z28, .int 9, .int 0, .int 0, .ref z6, .ref z29, .ref z7, .int 0, .int 2, .ref z19, .ref z8, .ref z9, .ref z10, .int 0, .ref z11, .int 0, .ref z30, .ref z31, .ref z32, .ref z33, .int 0, .ref z12, .int 0, .int 0, .ref z34, .ref z35, .ref z36, .ref z37, .int 0, .int 0, .int 0, .int 0, .ref z38, .int 0, .ref z39, .ref z40, .ref z41, .ref z42, .int 0, .ref z13, .ref z14, .ref z15, .ref z16, .int 0, .ref z17, .ref z18, .ref z43]))]) (w1 := []) hP hD [] [0] rfl rfl (by decide) (by decide) hk1 hFc wP_nil wD_nil
  clear hPc hDc
  generalize H1 = H at hP hS ⊢
  have hP : va_P D vwCl [(h0, .inr (12, [.ref z0, .ref z1, .ref z2, .ref z3, .ref z4, .ref z5, .ref z20, .ref z21, .ref z22, .ref z23, .ref z24, .ref z25, .int 0, .ref z26, .ref z27, .ref z28, .int 9, .int 0, .int 0, .ref z6, .ref z29, .ref z7, .int 0, .int 2, .ref z19, .ref z8, .ref z9, .ref z10, .int 0, .ref z11, .int 0, .ref z30, .ref z31, .ref z32, .ref z33, .int 0, .ref z12, .int 0, .int 0, .ref z34, .ref z35, .ref z36, .ref z37, .int 0, .int 0, .int 0, .int 0, .ref z38, .int 0, .ref z39, .ref z40, .ref z41, .ref z42, .int 0, .ref z13, .ref z14, .ref z15, .ref z16, .int 0, .ref z17, .ref z18, .ref z43]))] H := hP
  have hD : va_D A [(h0, .inr (12, [.ref z0, .ref z1, .ref z2, .ref z3, .ref z4, .ref z5, .ref z20, .ref z21, .ref z22, .ref z23, .ref z24, .ref z25, .int 0, .ref z26, .ref z27, .ref z28, .int 9, .int 0, .int 0, .ref z6, .ref z29, .ref z7, .int 0, .int 2, .ref z19, .ref z8, .ref z9, .ref z10, .int 0, .ref z11, .int 0, .ref z30, .ref z31, .ref z32, .ref z33, .int 0, .ref z12, .int 0, .int 0, .ref z34, .ref z35, .ref z36, .ref z37, .int 0, .int 0, .int 0, .int 0, .ref z38, .int 0, .ref z39, .ref z40, .ref z41, .ref z42, .int 0, .ref z13, .ref z14, .ref z15, .ref z16, .int 0, .ref z17, .ref z18, .ref z43]))] := hD
  subst hr4
  have hP9 := hP.sub (ws' := [(h0, .inr (12, [.ref z0, .ref z1, .ref z2, .ref z3, .ref z4, .ref z5, .ref z20, .ref z21, .ref z22, .ref z23, .ref z24, .ref z25, .int 0, .ref z26, .ref z27, .ref z28, .int 9, .int 0, .int 0, .ref z6, .ref z29, .ref z7, .int 0, .int 2, .ref z19, .ref z8, .ref z9, .ref z10, .int 0, .ref z11, .int 0, .ref z30, .ref z31, .ref z32, .ref z33, .int 0, .ref z12, .int 0, .int 0, .ref z34, .ref z35, .ref z36, .ref z37, .int 0, .int 0, .int 0, .int 0, .ref z38, .int 0, .ref z39, .ref z40, .ref z41, .ref z42, .int 0, .ref z13, .ref z14, .ref z15, .ref z16, .int 0, .ref z17, .ref z18, .ref z43]))]) [0] rfl
  have hD9 := hD.sub (ws' := [(h0, .inr (12, [.ref z0, .ref z1, .ref z2, .ref z3, .ref z4, .ref z5, .ref z20, .ref z21, .ref z22, .ref z23, .ref z24, .ref z25, .int 0, .ref z26, .ref z27, .ref z28, .int 9, .int 0, .int 0, .ref z6, .ref z29, .ref z7, .int 0, .int 2, .ref z19, .ref z8, .ref z9, .ref z10, .int 0, .ref z11, .int 0, .ref z30, .ref z31, .ref z32, .ref z33, .int 0, .ref z12, .int 0, .int 0, .ref z34, .ref z35, .ref z36, .ref z37, .int 0, .int 0, .int 0, .int 0, .ref z38, .int 0, .ref z39, .ref z40, .ref z41, .ref z42, .int 0, .ref z13, .ref z14, .ref z15, .ref z16, .int 0, .ref z17, .ref z18, .ref z43]))]) [0] (by decide) rfl
  exact W.iret (v := (-1)) hx hb hr (fun t ht hW => ⟨⟨(-1), (), rfl, rfl, ⟨by rw [ht]; exact hP9, va_K.moved hW.alike hK, hD9⟩⟩, hS.F ht⟩) hS.2.2 dX12_passAt_22

set_option maxHeartbeats 4000000 in
set_option maxRecDepth 100000 in
/-- X12_passAt -/
theorem kX12_passAt_3_6_2 (l : Launch) (D : va_G) (G : tyG) (h0 : Nat) (z0 : Nat) (z1 : Nat) (z2 : Nat) (z3 : Nat) (z4 : Nat) (z5 : Nat) (z20 : Nat) (z21 : Nat) (z22 : Nat) (z23 : Nat) (z24 : Nat) (z25 : Nat) (z26 : Nat) (z27 : Nat) (z28 : Nat) (z6 : Nat) (z29 : Nat) (z7 : Nat) (z19 : Nat) (z8 : Nat) (z9 : Nat) (z10 : Nat) (z11 : Nat) (z30 : Nat) (z31 : Nat) (z32 : Nat) (z33 : Nat) (z12 : Nat) (z34 : Nat) (z35 : Nat) (z36 : Nat) (z37 : Nat) (z38 : Nat) (z39 : Nat) (z40 : Nat) (z41 : Nat) (z42 : Nat) (z13 : Nat) (z14 : Nat) (z15 : Nat) (z16 : Nat) (z17 : Nat) (z18 : Nat) (z43 : Nat) (sz : Nat) : Met l yX12_passAt wsX12_passAt ({ frames := 1, cells := 0, slots := 0, locals := 23 }) (va_Pc [.ref h0, .int 6, .int 3, .int 2] (wB D G sz [(h0, .inr (12, [.ref z0, .ref z1, .ref z2, .ref z3, .ref z4, .ref z5, .ref z20, .ref z21, .ref z22, .ref z23, .ref z24, .ref z25, .int 0, .ref z26, .ref z27, .ref z28, .int 9, .int 0, .int 0, .ref z6, .ref z29, .ref z7, .int 0, .int 2, .ref z19, .ref z8, .ref z9, .ref z10, .int 0, .ref z11, .int 0, .ref z30, .ref z31, .ref z32, .ref z33, .int 0, .ref z12, .int 0, .int 0, .ref z34, .ref z35, .ref z36, .ref z37, .int 0, .int 0, .int 0, .int 0, .ref z38, .int 0, .ref z39, .ref z40, .ref z41, .ref z42, .int 0, .ref z13, .ref z14, .ref z15, .ref z16, .int 0, .ref z17, .ref z18, .ref z43]))])) (va_Qi (fun (r : Int32) (_ : Unit) => r = 1) (fun _ t => wS D G (va_A [(h0, .inr (12, [.ref z0, .ref z1, .ref z2, .ref z3, .ref z4, .ref z5, .ref z20, .ref z21, .ref z22, .ref z23, .ref z24, .ref z25, .int 0, .ref z26, .ref z27, .ref z28, .int 9, .int 0, .int 0, .ref z6, .ref z29, .ref z7, .int 0, .int 2, .ref z19, .ref z8, .ref z9, .ref z10, .int 0, .ref z11, .int 0, .ref z30, .ref z31, .ref z32, .ref z33, .int 0, .ref z12, .int 0, .int 0, .ref z34, .ref z35, .ref z36, .ref z37, .int 0, .int 0, .int 0, .int 0, .ref z38, .int 0, .ref z39, .ref z40, .ref z41, .ref z42, .int 0, .ref z13, .ref z14, .ref z15, .ref z16, .int 0, .ref z17, .ref z18, .ref z43]))] sz) [(h0, .inr (12, [.ref z0, .ref z1, .ref z2, .ref z3, .ref z4, .ref z5, .ref z20, .ref z21, .ref z22, .ref z23, .ref z24, .ref z25, .int 0, .ref z26, .ref z27, .ref z28, .int 9, .int 0, .int 0, .ref z6, .ref z29, .ref z7, .int 0, .int 2, .ref z19, .ref z8, .ref z9, .ref z10, .int 0, .ref z11, .int 0, .ref z30, .ref z31, .ref z32, .ref z33, .int 0, .ref z12, .int 0, .int 0, .ref z34, .ref z35, .ref z36, .ref z37, .int 0, .int 0, .int 0, .int 0, .ref z38, .int 0, .ref z39, .ref z40, .ref z41, .ref z42, .int 0, .ref z13, .ref z14, .ref z15, .ref z16, .int 0, .ref z17, .ref z18, .ref z43]))] t) (va_A [(h0, .inr (12, [.ref z0, .ref z1, .ref z2, .ref z3, .ref z4, .ref z5, .ref z20, .ref z21, .ref z22, .ref z23, .ref z24, .ref z25, .int 0, .ref z26, .ref z27, .ref z28, .int 9, .int 0, .int 0, .ref z6, .ref z29, .ref z7, .int 0, .int 2, .ref z19, .ref z8, .ref z9, .ref z10, .int 0, .ref z11, .int 0, .ref z30, .ref z31, .ref z32, .ref z33, .int 0, .ref z12, .int 0, .int 0, .ref z34, .ref z35, .ref z36, .ref z37, .int 0, .int 0, .int 0, .int 0, .ref z38, .int 0, .ref z39, .ref z40, .ref z41, .ref z42, .int 0, .ref z13, .ref z14, .ref z15, .ref z16, .int 0, .ref z17, .ref z18, .ref z43]))] sz)) 0 0 (va_A [(h0, .inr (12, [.ref z0, .ref z1, .ref z2, .ref z3, .ref z4, .ref z5, .ref z20, .ref z21, .ref z22, .ref z23, .ref z24, .ref z25, .int 0, .ref z26, .ref z27, .ref z28, .int 9, .int 0, .int 0, .ref z6, .ref z29, .ref z7, .int 0, .int 2, .ref z19, .ref z8, .ref z9, .ref z10, .int 0, .ref z11, .int 0, .ref z30, .ref z31, .ref z32, .ref z33, .int 0, .ref z12, .int 0, .int 0, .ref z34, .ref z35, .ref z36, .ref z37, .int 0, .int 0, .int 0, .int 0, .ref z38, .int 0, .ref z39, .ref z40, .ref z41, .ref z42, .int 0, .ref z13, .ref z14, .ref z15, .ref z16, .int 0, .ref z17, .ref z18, .ref z43]))] sz) := by
  refine Met.ofW (cc := cX12_passAt) (maxL := 4) (ret := (some .int)) (by decide) rfl ?_
  intro p e s m args below meth c s₁ B hml hv
  obtain ⟨rfl, hsz, hP, hK, hD0, hN⟩ := hv
  have hx := B.exec
  have hb := B.bytes
  have hr := B.returns
  have hts := atoms_spec (ws := wsX12_passAt) B.pre
  have hown : s.vm.findClass RX12 = some m.cls := findClass_of_methodNamed B.named
  have hlocks := B.notSynchronized
  subst hsz
  have hD := hD0.self (sz := s.heap.size)
  generalize hAe : va_A [(h0, .inr (12, [.ref z0, .ref z1, .ref z2, .ref z3, .ref z4, .ref z5, .ref z20, .ref z21, .ref z22, .ref z23, .ref z24, .ref z25, .int 0, .ref z26, .ref z27, .ref z28, .int 9, .int 0, .int 0, .ref z6, .ref z29, .ref z7, .int 0, .int 2, .ref z19, .ref z8, .ref z9, .ref z10, .int 0, .ref z11, .int 0, .ref z30, .ref z31, .ref z32, .ref z33, .int 0, .ref z12, .int 0, .int 0, .ref z34, .ref z35, .ref z36, .ref z37, .int 0, .int 0, .int 0, .int 0, .ref z38, .int 0, .ref z39, .ref z40, .ref z41, .ref z42, .int 0, .ref z13, .ref z14, .ref z15, .ref z16, .int 0, .ref z17, .ref z18, .ref z43]))] s.heap.size = A at hD ⊢
  have hA : ∀ q : Nat, s.heap.size ≤ q → A q := fun q h => by rw [← hAe]; exact Or.inr h
  have hS : va_S A s.heap s.heap [] := va_S.rf
  have hP : va_P D vwCl [(h0, .inr (12, [.ref z0, .ref z1, .ref z2, .ref z3, .ref z4, .ref z5, .ref z20, .ref z21, .ref z22, .ref z23, .ref z24, .ref z25, .int 0, .ref z26, .ref z27, .ref z28, .int 9, .int 0, .int 0, .ref z6, .ref z29, .ref z7, .int 0, .int 2, .ref z19, .ref z8, .ref z9, .ref z10, .int 0, .ref z11, .int 0, .ref z30, .ref z31, .ref z32, .ref z33, .int 0, .ref z12, .int 0, .int 0, .ref z34, .ref z35, .ref z36, .ref z37, .int 0, .int 0, .int 0, .int 0, .ref z38, .int 0, .ref z39, .ref z40, .ref z41, .ref z42, .int 0, .ref z13, .ref z14, .ref z15, .ref z16, .int 0, .ref z17, .ref z18, .ref z43]))] s.heap := hP
  have hl := lv_entry ([.ref h0, .int 6, .int 3, .int 2]) (n := 4) (Nat.le_of_ble_eq_true rfl)
  rw [lg_entry_eq]
  generalize (lg_sl ([.ref h0, .int 6, .int 3, .int 2]) ++ List.replicate (4 - (lg_sl ([.ref h0, .int 6, .int 3, .int 2])).length) Slot.unset).toArray = ls at hl ⊢
  have hl : lv_has ls 4 [(0, .ref h0), (1, .int 6), (2, .int 3), (3, .int 2)] := hl
  refine lv_iload_n hx hb dX12_passAt_0 rfl (lv_at hl 1 rfl) ?_
  refine lv_aload_n hx hb dX12_passAt_1 rfl (lv_at hl 0 rfl) ?_
  have hPc := hP.sub (ws' := [(h0, .inr (12, [.ref z0, .ref z1, .ref z2, .ref z3, .ref z4, .ref z5, .ref z20, .ref z21, .ref z22, .ref z23, .ref z24, .ref z25, .int 0, .ref z26, .ref z27, .ref z28, .int 9, .int 0, .int 0, .ref z6, .ref z29, .ref z7, .int 0, .int 2, .ref z19, .ref z8, .ref z9, .ref z10, .int 0, .ref z11, .int 0, .ref z30, .ref z31, .ref z32, .ref z33, .int 0, .ref z12, .int 0, .int 0, .ref z34, .ref z35, .ref z36, .ref z37, .int 0, .int 0, .int 0, .int 0, .ref z38, .int 0, .ref z39, .ref z40, .ref z41, .ref z42, .int 0, .ref z13, .ref z14, .ref z15, .ref z16, .int 0, .ref z17, .ref z18, .ref z43]))]) [0] rfl
  have hDc := hD.sub (ws' := [(h0, .inr (12, [.ref z0, .ref z1, .ref z2, .ref z3, .ref z4, .ref z5, .ref z20, .ref z21, .ref z22, .ref z23, .ref z24, .ref z25, .int 0, .ref z26, .ref z27, .ref z28, .int 9, .int 0, .int 0, .ref z6, .ref z29, .ref z7, .int 0, .int 2, .ref z19, .ref z8, .ref z9, .ref z10, .int 0, .ref z11, .int 0, .ref z30, .ref z31, .ref z32, .ref z33, .int 0, .ref z12, .int 0, .int 0, .ref z34, .ref z35, .ref z36, .ref z37, .int 0, .int 0, .int 0, .int 0, .ref z38, .int 0, .ref z39, .ref z40, .ref z41, .ref z42, .int 0, .ref z13, .ref z14, .ref z15, .ref z16, .int 0, .ref z17, .ref z18, .ref z43]))]) [0] (by decide) rfl
  have hFc := va_free (wc := [(h0, .inr (12, [.ref z0, .ref z1, .ref z2, .ref z3, .ref z4, .ref z5, .ref z20, .ref z21, .ref z22, .ref z23, .ref z24, .ref z25, .int 0, .ref z26, .ref z27, .ref z28, .int 9, .int 0, .int 0, .ref z6, .ref z29, .ref z7, .int 0, .int 2, .ref z19, .ref z8, .ref z9, .ref z10, .int 0, .ref z11, .int 0, .ref z30, .ref z31, .ref z32, .ref z33, .int 0, .ref z12, .int 0, .int 0, .ref z34, .ref z35, .ref z36, .ref z37, .int 0, .int 0, .int 0, .int 0, .ref z38, .int 0, .ref z39, .ref z40, .ref z41, .ref z42, .int 0, .ref z13, .ref z14, .ref z15, .ref z16, .int 0, .ref z17, .ref z18, .ref z43]))]) hD hS hA [0] rfl
  refine va_calli (va_runV (As := []) (rest := [.int 6]) ⟨hx, hb, hml, hown, hts⟩ (kX12_gens l D G h0 z0 z1 z2 z3 z4 z5 z20 z21 z22 z23 z24 z25 z26 z27 z28 z6 z29 z7 z19 z8 z9 z10 z11 z30 z31 z32 z33 z12 z34 z35 z36 z37 z38 z39 z40 z41 z42 z13 z14 z15 z16 z17 z18 z43 0 s.heap.size) (cwV 0 hts gX12_passAt_X12_gens rfl rfl rfl (by decide +kernel) ⟨Nat.le_of_ble_eq_true rfl, Nat.le_of_ble_eq_true rfl⟩) ⟨wB_blind, va_recv hK hPc (ci := 12) (q0 := 0) rfl rfl, wB_pre hPc hK hDc hN⟩ rfl rfl hl.1 rfl (lv_room (Nat.le_of_ble_eq_true rfl)) dX12_passAt_2 ⟨Nat.le_of_ble_eq_true rfl, Nat.le_of_ble_eq_true rfl⟩) hS (fun q _ h => hFc q h) hFc (fun r1 u t H1 locs ht hvm hr1 hB hz1 hk1 hS => ?_)
  obtain ⟨hP1, hK1, hD1⟩ := hB
  rw [ht] at hP1
  obtain ⟨hP, hD⟩ := va_join (wr := []) (w1 := [(h0, .inr (12, [.ref z0, .ref z1, .ref z2, .ref z3, .ref z4, .ref z5, .ref z20, .ref z21, .ref z22, .ref z23, .ref z24, .ref z25, .int 0, .ref z26, .ref z27, .ref z28, .int 9, .int 0, .int 0, .ref z6, .ref z29, .ref z7, .int 0, .int 2, .ref z19, .ref z8, .ref z9, .ref z10, .int 0, .ref z11, .int 0, .ref z30, .ref z31, .ref z32, .ref z33, .int 0, .ref z12, .int 0, .int 0, .ref z34, .ref z35, .ref z36, .ref z37, .int 0, .int 0, .int 0, .int 0, .ref z38, .int 0, .ref z39, .ref z40, .ref z41, .ref z42, .int 0, .ref z13, .ref z14, .ref z15, .ref z16, .int 0, .ref z17, .ref z18, .ref z43]))]) hP hD [0] [] rfl rfl (by decide) (by decide) hk1 hFc hP1 hD1
  clear hPc hDc
  generalize H1 = H at hP hS ⊢
  have hP : va_P D vwCl [(h0, .inr (12, [.ref z0, .ref z1, .ref z2, .ref z3, .ref z4, .ref z5, .ref z20, .ref z21, .ref z22, .ref z23, .ref z24, .ref z25, .int 0, .ref z26, .ref z27, .ref z28, .int 9, .int 0, .int 0, .ref z6, .ref z29, .ref z7, .int 0, .int 2, .ref z19, .ref z8, .ref z9, .ref z10, .int 0, .ref z11, .int 0, .ref z30, .ref z31, .ref z32, .ref z33, .int 0, .ref z12, .int 0, .int 0, .ref z34, .ref z35, .ref z36, .ref z37, .int 0, .int 0, .int 0, .int 0, .ref z38, .int 0, .ref z39, .ref z40, .ref z41, .ref z42, .int 0, .ref z13, .ref z14, .ref z15, .ref z16, .int 0, .ref z17, .ref z18, .ref z43]))] H := hP
  have hD : va_D A [(h0, .inr (12, [.ref z0, .ref z1, .ref z2, .ref z3, .ref z4, .ref z5, .ref z20, .ref z21, .ref z22, .ref z23, .ref z24, .ref z25, .int 0, .ref z26, .ref z27, .ref z28, .int 9, .int 0, .int 0, .ref z6, .ref z29, .ref z7, .int 0, .int 2, .ref z19, .ref z8, .ref z9, .ref z10, .int 0, .ref z11, .int 0, .ref z30, .ref z31, .ref z32, .ref z33, .int 0, .ref z12, .int 0, .int 0, .ref z34, .ref z35, .ref z36, .ref z37, .int 0, .int 0, .int 0, .int 0, .ref z38, .int 0, .ref z39, .ref z40, .ref z41, .ref z42, .int 0, .ref z13, .ref z14, .ref z15, .ref z16, .int 0, .ref z17, .ref z18, .ref z43]))] := hD
  subst hr1
  refine lv_iload_n hx hb dX12_passAt_5 rfl (lv_at hl 2 rfl) ?_
  refine lv_iconst (v := 1) hx hb dX12_passAt_6 (by decide) ?_
  refine lv_isub hx hb dX12_passAt_7 ?_
  refine wk_i 2 (by decide) ?_
  refine lv_iload_n hx hb dX12_passAt_8 rfl (lv_at hl 3 rfl) ?_
  refine lv_isub hx hb dX12_passAt_9 ?_
  refine wk_i 0 (by decide) ?_
  have hPc := hP.sub (ws' := []) [] rfl
  have hDc := hD.sub (ws' := []) [] (by decide) rfl
  have hFc := va_free (wc := []) hD hS hA [] rfl
  refine va_calli (va_runS (As := [.int 2, .int 0]) (rest := [.int 6]) ⟨hx, hb, hml, hown, hts⟩ (kX12_power_0 l D G  H.size) (va_cwS 2 hts gX12_passAt_X12_power rfl rfl rfl (by decide +kernel) ⟨Nat.le_of_ble_eq_true rfl, Nat.le_of_ble_eq_true rfl⟩) ⟨wB_blind, wB_pre hPc hK hDc hN⟩ rfl rfl hl.1 rfl (lv_room (Nat.le_of_ble_eq_true rfl)) dX12_passAt_10 ⟨Nat.le_of_ble_eq_true rfl, Nat.le_of_ble_eq_true rfl⟩) hS (fun q _ h => hFc q h) hFc (fun r2 u t H1 locs ht hvm hr2 hB hz1 hk1 hS => ?_)
  obtain ⟨hP, hD⟩ := va_join (wr := [(h0, .inr (12, [.ref z0, .ref z1, .ref z2, .ref z3, .ref z4, .ref z5, .ref z20, .ref z21, .ref z22, .ref z23, .ref z24, .ref z25, .int 0, .ref z26, .ref z27, .ref z28, .int 9, .int 0, .int 0, .ref z6, .ref z29, .ref z7, .int 0, .int 2, .ref z19, .ref z8, .ref z9, .ref z10, .int 0, .ref z11, .int 0, .ref z30, .ref z31, .ref z32, .ref z33, .int 0, .ref z12, .int 0, .int 0, .ref z34, .ref z35, .ref z36, .ref z37, .int 0, .int 0, .int 0, .int 0, .ref z38, .int 0, .ref z39, .ref z40, .ref z41, .ref z42, .int 0, .ref z13, .ref z14, .ref z15, .ref z16, .int 0, .ref z17, .ref z18, .ref z43]))]) (w1 := []) hP hD [] [0] rfl rfl (by decide) (by decide) hk1 hFc wP_nil wD_nil
  clear hPc hDc
  generalize H1 = H at hP hS ⊢
  have hP : va_P D vwCl [(h0, .inr (12, [.ref z0, .ref z1, .ref z2, .ref z3, .ref z4, .ref z5, .ref z20, .ref z21, .ref z22, .ref z23, .ref z24, .ref z25, .int 0, .ref z26, .ref z27, .ref z28, .int 9, .int 0, .int 0, .ref z6, .ref z29, .ref z7, .int 0, .int 2, .ref z19, .ref z8, .ref z9, .ref z10, .int 0, .ref z11, .int 0, .ref z30, .ref z31, .ref z32, .ref z33, .int 0, .ref z12, .int 0, .int 0, .ref z34, .ref z35, .ref z36, .ref z37, .int 0, .int 0, .int 0, .int 0, .ref z38, .int 0, .ref z39, .ref z40, .ref z41, .ref z42, .int 0, .ref z13, .ref z14, .ref z15, .ref z16, .int 0, .ref z17, .ref z18, .ref z43]))] H := hP
  have hD : va_D A [(h0, .inr (12, [.ref z0, .ref z1, .ref z2, .ref z3, .ref z4, .ref z5, .ref z20, .ref z21, .ref z22, .ref z23, .ref z24, .ref z25, .int 0, .ref z26, .ref z27, .ref z28, .int 9, .int 0, .int 0, .ref z6, .ref z29, .ref z7, .int 0, .int 2, .ref z19, .ref z8, .ref z9, .ref z10, .int 0, .ref z11, .int 0, .ref z30, .ref z31, .ref z32, .ref z33, .int 0, .ref z12, .int 0, .int 0, .ref z34, .ref z35, .ref z36, .ref z37, .int 0, .int 0, .int 0, .int 0, .ref z38, .int 0, .ref z39, .ref z40, .ref z41, .ref z42, .int 0, .ref z13, .ref z14, .ref z15, .ref z16, .int 0, .ref z17, .ref z18, .ref z43]))] := hD
  subst hr2
  refine lv_idiv hx hb dX12_passAt_13 (by decide) ?_
  refine wk_i 6 (by decide) ?_
  refine lv_aload_n hx hb dX12_passAt_14 rfl (lv_at hl 0 rfl) ?_
  have hPc := hP.sub (ws' := [(h0, .inr (12, [.ref z0, .ref z1, .ref z2, .ref z3, .ref z4, .ref z5, .ref z20, .ref z21, .ref z22, .ref z23, .ref z24, .ref z25, .int 0, .ref z26, .ref z27, .ref z28, .int 9, .int 0, .int 0, .ref z6, .ref z29, .ref z7, .int 0, .int 2, .ref z19, .ref z8, .ref z9, .ref z10, .int 0, .ref z11, .int 0, .ref z30, .ref z31, .ref z32, .ref z33, .int 0, .ref z12, .int 0, .int 0, .ref z34, .ref z35, .ref z36, .ref z37, .int 0, .int 0, .int 0, .int 0, .ref z38, .int 0, .ref z39, .ref z40, .ref z41, .ref z42, .int 0, .ref z13, .ref z14, .ref z15, .ref z16, .int 0, .ref z17, .ref z18, .ref z43]))]) [0] rfl
  have hDc := hD.sub (ws' := [(h0, .inr (12, [.ref z0, .ref z1, .ref z2, .ref z3, .ref z4, .ref z5, .ref z20, .ref z21, .ref z22, .ref z23, .ref z24, .ref z25, .int 0, .ref z26, .ref z27, .ref z28, .int 9, .int 0, .int 0, .ref z6, .ref z29, .ref z7, .int 0, .int 2, .ref z19, .ref z8, .ref z9, .ref z10, .int 0, .ref z11, .int 0, .ref z30, .ref z31, .ref z32, .ref z33, .int 0, .ref z12, .int 0, .int 0, .ref z34, .ref z35, .ref z36, .ref z37, .int 0, .int 0, .int 0, .int 0, .ref z38, .int 0, .ref z39, .ref z40, .ref z41, .ref z42, .int 0, .ref z13, .ref z14, .ref z15, .ref z16, .int 0, .ref z17, .ref z18, .ref z43]))]) [0] (by decide) rfl
  have hFc := va_free (wc := [(h0, .inr (12, [.ref z0, .ref z1, .ref z2, .ref z3, .ref z4, .ref z5, .ref z20, .ref z21, .ref z22, .ref z23, .ref z24, .ref z25, .int 0, .ref z26, .ref z27, .ref z28, .int 9, .int 0, .int 0, .ref z6, .ref z29, .ref z7, .int 0, .int 2, .ref z19, .ref z8, .ref z9, .ref z10, .int 0, .ref z11, .int 0, .ref z30, .ref z31, .ref z32, .ref z33, .int 0, .ref z12, .int 0, .int 0, .ref z34, .ref z35, .ref z36, .ref z37, .int 0, .int 0, .int 0, .int 0, .ref z38, .int 0, .ref z39, .ref z40, .ref z41, .ref z42, .int 0, .ref z13, .ref z14, .ref z15, .ref z16, .int 0, .ref z17, .ref z18, .ref z43]))]) hD hS hA [0] rfl
  refine va_calli (va_runV (As := []) (rest := [.int 6]) ⟨hx, hb, hml, hown, hts⟩ (kX12_gens l D G h0 z0 z1 z2 z3 z4 z5 z20 z21 z22 z23 z24 z25 z26 z27 z28 z6 z29 z7 z19 z8 z9 z10 z11 z30 z31 z32 z33 z12 z34 z35 z36 z37 z38 z39 z40 z41 z42 z13 z14 z15 z16 z17 z18 z43 0 H.size) (cwV 0 hts gX12_passAt_X12_gens rfl rfl rfl (by decide +kernel) ⟨Nat.le_of_ble_eq_true rfl, Nat.le_of_ble_eq_true rfl⟩) ⟨wB_blind, va_recv hK hPc (ci := 12) (q0 := 0) rfl rfl, wB_pre hPc hK hDc hN⟩ rfl rfl hl.1 rfl (lv_room (Nat.le_of_ble_eq_true rfl)) dX12_passAt_15 ⟨Nat.le_of_ble_eq_true rfl, Nat.le_of_ble_eq_true rfl⟩) hS (fun q _ h => hFc q h) hFc (fun r3 u t H1 locs ht hvm hr3 hB hz1 hk1 hS => ?_)
  obtain ⟨hP1, hK1, hD1⟩ := hB
  rw [ht] at hP1
  obtain ⟨hP, hD⟩ := va_join (wr := []) (w1 := [(h0, .inr (12, [.ref z0, .ref z1, .ref z2, .ref z3, .ref z4, .ref z5, .ref z20, .ref z21, .ref z22, .ref z23, .ref z24, .ref z25, .int 0, .ref z26, .ref z27, .ref z28, .int 9, .int 0, .int 0, .ref z6, .ref z29, .ref z7, .int 0, .int 2, .ref z19, .ref z8, .ref z9, .ref z10, .int 0, .ref z11, .int 0, .ref z30, .ref z31, .ref z32, .ref z33, .int 0, .ref z12, .int 0, .int 0, .ref z34, .ref z35, .ref z36, .ref z37, .int 0, .int 0, .int 0, .int 0, .ref z38, .int 0, .ref z39, .ref z40, .ref z41, .ref z42, .int 0, .ref z13, .ref z14, .ref z15, .ref z16, .int 0, .ref z17, .ref z18, .ref z43]))]) hP hD [0] [] rfl rfl (by decide) (by decide) hk1 hFc hP1 hD1
  clear hPc hDc
  generalize H1 = H at hP hS ⊢
  have hP : va_P D vwCl [(h0, .inr (12, [.ref z0, .ref z1, .ref z2, .ref z3, .ref z4, .ref z5, .ref z20, .ref z21, .ref z22, .ref z23, .ref z24, .ref z25, .int 0, .ref z26, .ref z27, .ref z28, .int 9, .int 0, .int 0, .ref z6, .ref z29, .ref z7, .int 0, .int 2, .ref z19, .ref z8, .ref z9, .ref z10, .int 0, .ref z11, .int 0, .ref z30, .ref z31, .ref z32, .ref z33, .int 0, .ref z12, .int 0, .int 0, .ref z34, .ref z35, .ref z36, .ref z37, .int 0, .int 0, .int 0, .int 0, .ref z38, .int 0, .ref z39, .ref z40, .ref z41, .ref z42, .int 0, .ref z13, .ref z14, .ref z15, .ref z16, .int 0, .ref z17, .ref z18, .ref z43]))] H := hP
  have hD : va_D A [(h0, .inr (12, [.ref z0, .ref z1, .ref z2, .ref z3, .ref z4, .ref z5, .ref z20, .ref z21, .ref z22, .ref z23, .ref z24, .ref z25, .int 0, .ref z26, .ref z27, .ref z28, .int 9, .int 0, .int 0, .ref z6, .ref z29, .ref z7, .int 0, .int 2, .ref z19, .ref z8, .ref z9, .ref z10, .int 0, .ref z11, .int 0, .ref z30, .ref z31, .ref z32, .ref z33, .int 0, .ref z12, .int 0, .int 0, .ref z34, .ref z35, .ref z36, .ref z37, .int 0, .int 0, .int 0, .int 0, .ref z38, .int 0, .ref z39, .ref z40, .ref z41, .ref z42, .int 0, .ref z13, .ref z14, .ref z15, .ref z16, .int 0, .ref z17, .ref z18, .ref z43]))] := hD
  subst hr3
  refine lv_irem hx hb dX12_passAt_18 (by decide) ?_
  refine wk_i 0 (by decide) ?_
  have hPc := hP.sub (ws' := []) [] rfl
  have hDc := hD.sub (ws' := []) [] (by decide) rfl
  have hFc := va_free (wc := []) hD hS hA [] rfl
  refine va_calli (va_runS (As := [.int 0]) (rest := []) ⟨hx, hb, hml, hown, hts⟩ (kX12_passOf_0 l D G  H.size) (va_cwS 1 hts gX12_passAt_X12_passOf rfl rfl rfl (by decide +kernel) ⟨Nat.le_of_ble_eq_true rfl, Nat.le_of_ble_eq_true rfl⟩) ⟨wB_blind, wB_pre hPc hK hDc hN⟩ rfl rfl hl.1 rfl (lv_room (Nat.le_of_ble_eq_true rfl)) dX12_passAt_19 ⟨Nat.le_of_ble_eq_true rfl, Nat.le_of_ble_eq_true rfl⟩) hS (fun q _ h => hFc q h) hFc (fun r4 u t H1 locs ht hvm hr4 hB hz1 hk1 hS => ?_)
  obtain ⟨hP, hD⟩ := va_join (wr := [(h0, .inr (12, [.ref z0, .ref z1, .ref z2, .ref z3, .ref z4, .ref z5, .ref z20, .ref z21, .ref z22, .ref z23, .ref z24, .ref z25, .int 0, .ref z26, .ref z27, .ref z28, .int 9, .int 0, .int 0, .ref z6, .ref z29, .ref z7, .int 0, .int 2, .ref z19, .ref z8, .ref z9, .ref z10, .int 0, .ref z11, .int 0, .ref z30, .ref z31, .ref z32, .ref z33, .int 0, .ref z12, .int 0, .int 0, .ref z34, .ref z35, .ref z36, .ref z37, .int 0, .int 0, .int 0, .int 0, .ref z38, .int 0, .ref z39, .ref z40, .ref z41, .ref z42, .int 0, .ref z13, .ref z14, .ref z15, .ref z16, .int 0, .ref z17, .ref z18, .ref z43]))]) (w1 := []) hP hD [] [0] rfl rfl (by decide) (by decide) hk1 hFc wP_nil wD_nil
  clear hPc hDc
  generalize H1 = H at hP hS ⊢
  have hP : va_P D vwCl [(h0, .inr (12, [.ref z0, .ref z1, .ref z2, .ref z3, .ref z4, .ref z5, .ref z20, .ref z21, .ref z22, .ref z23, .ref z24, .ref z25, .int 0, .ref z26, .ref z27, .ref z28, .int 9, .int 0, .int 0, .ref z6, .ref z29, .ref z7, .int 0, .int 2, .ref z19, .ref z8, .ref z9, .ref z10, .int 0, .ref z11, .int 0, .ref z30, .ref z31, .ref z32, .ref z33, .int 0, .ref z12, .int 0, .int 0, .ref z34, .ref z35, .ref z36, .ref z37, .int 0, .int 0, .int 0, .int 0, .ref z38, .int 0, .ref z39, .ref z40, .ref z41, .ref z42, .int 0, .ref z13, .ref z14, .ref z15, .ref z16, .int 0, .ref z17, .ref z18, .ref z43]))] H := hP
  have hD : va_D A [(h0, .inr (12, [.ref z0, .ref z1, .ref z2, .ref z3, .ref z4, .ref z5, .ref z20, .ref z21, .ref z22, .ref z23, .ref z24, .ref z25, .int 0, .ref z26, .ref z27, .ref z28, .int 9, .int 0, .int 0, .ref z6, .ref z29, .ref z7, .int 0, .int 2, .ref z19, .ref z8, .ref z9, .ref z10, .int 0, .ref z11, .int 0, .ref z30, .ref z31, .ref z32, .ref z33, .int 0, .ref z12, .int 0, .int 0, .ref z34, .ref z35, .ref z36, .ref z37, .int 0, .int 0, .int 0, .int 0, .ref z38, .int 0, .ref z39, .ref z40, .ref z41, .ref z42, .int 0, .ref z13, .ref z14, .ref z15, .ref z16, .int 0, .ref z17, .ref z18, .ref z43]))] := hD
  subst hr4
  have hP9 := hP.sub (ws' := [(h0, .inr (12, [.ref z0, .ref z1, .ref z2, .ref z3, .ref z4, .ref z5, .ref z20, .ref z21, .ref z22, .ref z23, .ref z24, .ref z25, .int 0, .ref z26, .ref z27, .ref z28, .int 9, .int 0, .int 0, .ref z6, .ref z29, .ref z7, .int 0, .int 2, .ref z19, .ref z8, .ref z9, .ref z10, .int 0, .ref z11, .int 0, .ref z30, .ref z31, .ref z32, .ref z33, .int 0, .ref z12, .int 0, .int 0, .ref z34, .ref z35, .ref z36, .ref z37, .int 0, .int 0, .int 0, .int 0, .ref z38, .int 0, .ref z39, .ref z40, .ref z41, .ref z42, .int 0, .ref z13, .ref z14, .ref z15, .ref z16, .int 0, .ref z17, .ref z18, .ref z43]))]) [0] rfl
  have hD9 := hD.sub (ws' := [(h0, .inr (12, [.ref z0, .ref z1, .ref z2, .ref z3, .ref z4, .ref z5, .ref z20, .ref z21, .ref z22, .ref z23, .ref z24, .ref z25, .int 0, .ref z26, .ref z27, .ref z28, .int 9, .int 0, .int 0, .ref z6, .ref z29, .ref z7, .int 0, .int 2, .ref z19, .ref z8, .ref z9, .ref z10, .int 0, .ref z11, .int 0, .ref z30, .ref z31, .ref z32, .ref z33, .int 0, .ref z12, .int 0, .int 0, .ref z34, .ref z35, .ref z36, .ref z37, .int 0, .int 0, .int 0, .int 0, .ref z38, .int 0, .ref z39, .ref z40, .ref z41, .ref z42, .int 0, .ref z13, .ref z14, .ref z15, .ref z16, .int 0, .ref z17, .ref z18, .ref z43]))]) [0] (by decide) rfl
  exact W.iret (v := 1) hx hb hr (fun t ht hW => ⟨⟨1, (), rfl, rfl, ⟨by rw [ht]; exact hP9, va_K.moved hW.alike hK, hD9⟩⟩, hS.F ht⟩) hS.2.2 dX12_passAt_22

set_option maxHeartbeats 4000000 in
set_option maxRecDepth 100000 in
/-- X12_passAt -/
theorem kX12_passAt_3_7_0 (l : Launch) (D : va_G) (G : tyG) (h0 : Nat) (z0 : Nat) (z1 : Nat) (z2 : Nat) (z3 : Nat) (z4 : Nat) (z5 : Nat) (z20 : Nat) (z21 : Nat) (z22 : Nat) (z23 : Nat) (z24 : Nat) (z25 : Nat) (z26 : Nat) (z27 : Nat) (z28 : Nat) (z6 : Nat) (z29 : Nat) (z7 : Nat) (z19 : Nat) (z8 : Nat) (z9 : Nat) (z10 : Nat) (z11 : Nat) (z30 : Nat) (z31 : Nat) (z32 : Nat) (z33 : Nat) (z12 : Nat) (z34 : Nat) (z35 : Nat) (z36 : Nat) (z37 : Nat) (z38 : Nat) (z39 : Nat) (z40 : Nat) (z41 : Nat) (z42 : Nat) (z13 : Nat) (z14 : Nat) (z15 : Nat) (z16 : Nat) (z17 : Nat) (z18 : Nat) (z43 : Nat) (sz : Nat) : Met l yX12_passAt wsX12_passAt ({ frames := 1, cells := 0, slots := 0, locals := 23 }) (va_Pc [.ref h0, .int 7, .int 3, .int 0] (wB D G sz [(h0, .inr (12, [.ref z0, .ref z1, .ref z2, .ref z3, .ref z4, .ref z5, .ref z20, .ref z21, .ref z22, .ref z23, .ref z24, .ref z25, .int 0, .ref z26, .ref z27, .ref z28, .int 9, .int 0, .int 0, .ref z6, .ref z29, .ref z7, .int 0, .int 2, .ref z19, .ref z8, .ref z9, .ref z10, .int 0, .ref z11, .int 0, .ref z30, .ref z31, .ref z32, .ref z33, .int 0, .ref z12, .int 0, .int 0, .ref z34, .ref z35, .ref z36, .ref z37, .int 0, .int 0, .int 0, .int 0, .ref z38, .int 0, .ref z39, .ref z40, .ref z41, .ref z42, .int 0, .ref z13, .ref z14, .ref z15, .ref z16, .int 0, .ref z17, .ref z18, .ref z43]))])) (va_Qi (fun (r : Int32) (_ : Unit) => r = (-1)) (fun _ t => wS D G (va_A [(h0, .inr (12, [.ref z0, .ref z1, .ref z2, .ref z3, .ref z4, .ref z5, .ref z20, .ref z21, .ref z22, .ref z23, .ref z24, .ref z25, .int 0, .ref z26, .ref z27, .ref z28, .int 9, .int 0, .int 0, .ref z6, .ref z29, .ref z7, .int 0, .int 2, .ref z19, .ref z8, .ref z9, .ref z10, .int 0, .ref z11, .int 0, .ref z30, .ref z31, .ref z32, .ref z33, .int 0, .ref z12, .int 0, .int 0, .ref z34, .ref z35, .ref z36, .ref z37, .int 0, .int 0, .int 0, .int 0, .ref z38, .int 0, .ref z39, .ref z40, .ref z41, .ref z42, .int 0, .ref z13, .ref z14, .ref z15, .ref z16, .int 0, .ref z17, .ref z18, .ref z43]))] sz) [(h0, .inr (12, [.ref z0, .ref z1, .ref z2, .ref z3, .ref z4, .ref z5, .ref z20, .ref z21, .ref z22, .ref z23, .ref z24, .ref z25, .int 0, .ref z26, .ref z27, .ref z28, .int 9, .int 0, .int 0, .ref z6, .ref z29, .ref z7, .int 0, .int 2, .ref z19, .ref z8, .ref z9, .ref z10, .int 0, .ref z11, .int 0, .ref z30, .ref z31, .ref z32, .ref z33, .int 0, .ref z12, .int 0, .int 0, .ref z34, .ref z35, .ref z36, .ref z37, .int 0, .int 0, .int 0, .int 0, .ref z38, .int 0, .ref z39, .ref z40, .ref z41, .ref z42, .int 0, .ref z13, .ref z14, .ref z15, .ref z16, .int 0, .ref z17, .ref z18, .ref z43]))] t) (va_A [(h0, .inr (12, [.ref z0, .ref z1, .ref z2, .ref z3, .ref z4, .ref z5, .ref z20, .ref z21, .ref z22, .ref z23, .ref z24, .ref z25, .int 0, .ref z26, .ref z27, .ref z28, .int 9, .int 0, .int 0, .ref z6, .ref z29, .ref z7, .int 0, .int 2, .ref z19, .ref z8, .ref z9, .ref z10, .int 0, .ref z11, .int 0, .ref z30, .ref z31, .ref z32, .ref z33, .int 0, .ref z12, .int 0, .int 0, .ref z34, .ref z35, .ref z36, .ref z37, .int 0, .int 0, .int 0, .int 0, .ref z38, .int 0, .ref z39, .ref z40, .ref z41, .ref z42, .int 0, .ref z13, .ref z14, .ref z15, .ref z16, .int 0, .ref z17, .ref z18, .ref z43]))] sz)) 0 0 (va_A [(h0, .inr (12, [.ref z0, .ref z1, .ref z2, .ref z3, .ref z4, .ref z5, .ref z20, .ref z21, .ref z22, .ref z23, .ref z24, .ref z25, .int 0, .ref z26, .ref z27, .ref z28, .int 9, .int 0, .int 0, .ref z6, .ref z29, .ref z7, .int 0, .int 2, .ref z19, .ref z8, .ref z9, .ref z10, .int 0, .ref z11, .int 0, .ref z30, .ref z31, .ref z32, .ref z33, .int 0, .ref z12, .int 0, .int 0, .ref z34, .ref z35, .ref z36, .ref z37, .int 0, .int 0, .int 0, .int 0, .ref z38, .int 0, .ref z39, .ref z40, .ref z41, .ref z42, .int 0, .ref z13, .ref z14, .ref z15, .ref z16, .int 0, .ref z17, .ref z18, .ref z43]))] sz) := by
  refine Met.ofW (cc := cX12_passAt) (maxL := 4) (ret := (some .int)) (by decide) rfl ?_
  intro p e s m args below meth c s₁ B hml hv
  obtain ⟨rfl, hsz, hP, hK, hD0, hN⟩ := hv
  have hx := B.exec
  have hb := B.bytes
  have hr := B.returns
  have hts := atoms_spec (ws := wsX12_passAt) B.pre
  have hown : s.vm.findClass RX12 = some m.cls := findClass_of_methodNamed B.named
  have hlocks := B.notSynchronized
  subst hsz
  have hD := hD0.self (sz := s.heap.size)
  generalize hAe : va_A [(h0, .inr (12, [.ref z0, .ref z1, .ref z2, .ref z3, .ref z4, .ref z5, .ref z20, .ref z21, .ref z22, .ref z23, .ref z24, .ref z25, .int 0, .ref z26, .ref z27, .ref z28, .int 9, .int 0, .int 0, .ref z6, .ref z29, .ref z7, .int 0, .int 2, .ref z19, .ref z8, .ref z9, .ref z10, .int 0, .ref z11, .int 0, .ref z30, .ref z31, .ref z32, .ref z33, .int 0, .ref z12, .int 0, .int 0, .ref z34, .ref z35, .ref z36, .ref z37, .int 0, .int 0, .int 0, .int 0, .ref z38, .int 0, .ref z39, .ref z40, .ref z41, .ref z42, .int 0, .ref z13, .ref z14, .ref z15, .ref z16, .int 0, .ref z17, .ref z18, .ref z43]))] s.heap.size = A at hD ⊢
  have hA : ∀ q : Nat, s.heap.size ≤ q → A q := fun q h => by rw [← hAe]; exact Or.inr h
  have hS : va_S A s.heap s.heap [] := va_S.rf
  have hP : va_P D vwCl [(h0, .inr (12, [.ref z0, .ref z1, .ref z2, .ref z3, .ref z4, .ref z5, .ref z20, .ref z21, .ref z22, .ref z23, .ref z24, .ref z25, .int 0, .ref z26, .ref z27, .ref z28, .int 9, .int 0, .int 0, .ref z6, .ref z29, .ref z7, .int 0, .int 2, .ref z19, .ref z8, .ref z9, .ref z10, .int 0, .ref z11, .int 0, .ref z30, .ref z31, .ref z32, .ref z33, .int 0, .ref z12, .int 0, .int 0, .ref z34, .ref z35, .ref z36, .ref z37, .int 0, .int 0, .int 0, .int 0, .ref z38, .int 0, .ref z39, .ref z40, .ref z41, .ref z42, .int 0, .ref z13, .ref z14, .ref z15, .ref z16, .int 0, .ref z17, .ref z18, .ref z43]))] s.heap := hP
  have hl := lv_entry ([.ref h0, .int 7, .int 3, .int 0]) (n := 4) (Nat.le_of_ble_eq_true rfl)
  rw [lg_entry_eq]
  generalize (lg_sl ([.ref h0, .int 7, .int 3, .int 0]) ++ List.replicate (4 - (lg_sl ([.ref h0, .int 7, .int 3, .int 0])).length) Slot.unset).toArray = ls at hl ⊢
  have hl : lv_has ls 4 [(0, .ref h0), (1, .int 7), (2, .int 3), (3, .int 0)] := hl
  refine lv_iload_n hx hb dX12_passAt_0 rfl (lv_at hl 1 rfl) ?_
  refine lv_aload_n hx hb dX12_passAt_1 rfl (lv_at hl 0 rfl) ?_
  have hPc := hP.sub (ws' := [(h0, .inr (12, [.ref z0, .ref z1, .ref z2, .ref z3, .ref z4, .ref z5, .ref z20, .ref z21, .ref z22, .ref z23, .ref z24, .ref z25, .int 0, .ref z26, .ref z27, .ref z28, .int 9, .int 0, .int 0, .ref z6, .ref z29, .ref z7, .int 0, .int 2, .ref z19, .ref z8, .ref z9, .ref z10, .int 0, .ref z11, .int 0, .ref z30, .ref z31, .ref z32, .ref z33, .int 0, .ref z12, .int 0, .int 0, .ref z34, .ref z35, .ref z36, .ref z37, .int 0, .int 0, .int 0, .int 0, .ref z38, .int 0, .ref z39, .ref z40, .ref z41, .ref z42, .int 0, .ref z13, .ref z14, .ref z15, .ref z16, .int 0, .ref z17, .ref z18, .ref z43]))]) [0] rfl
  have hDc := hD.sub (ws' := [(h0, .inr (12, [.ref z0, .ref z1, .ref z2, .ref z3, .ref z4, .ref z5, .ref z20, .ref z21, .ref z22, .ref z23, .ref z24, .ref z25, .int 0, .ref z26, .ref z27, .ref z28, .int 9, .int 0, .int 0, .ref z6, .ref z29, .ref z7, .int 0, .int 2, .ref z19, .ref z8, .ref z9, .ref z10, .int 0, .ref z11, .int 0, .ref z30, .ref z31, .ref z32, .ref z33, .int 0, .ref z12, .int 0, .int 0, .ref z34, .ref z35, .ref z36, .ref z37, .int 0, .int 0, .int 0, .int 0, .ref z38, .int 0, .ref z39, .ref z40, .ref z41, .ref z42, .int 0, .ref z13, .ref z14, .ref z15, .ref z16, .int 0, .ref z17, .ref z18, .ref z43]))]) [0] (by decide) rfl
  have hFc := va_free (wc := [(h0, .inr (12, [.ref z0, .ref z1, .ref z2, .ref z3, .ref z4, .ref z5, .ref z20, .ref z21, .ref z22, .ref z23, .ref z24, .ref z25, .int 0, .ref z26, .ref z27, .ref z28, .int 9, .int 0, .int 0, .ref z6, .ref z29, .ref z7, .int 0, .int 2, .ref z19, .ref z8, .ref z9, .ref z10, .int 0, .ref z11, .int 0, .ref z30, .ref z31, .ref z32, .ref z33, .int 0, .ref z12, .int 0, .int 0, .ref z34, .ref z35, .ref z36, .ref z37, .int 0, .int 0, .int 0, .int 0, .ref z38, .int 0, .ref z39, .ref z40, .ref z41, .ref z42, .int 0, .ref z13, .ref z14, .ref z15, .ref z16, .int 0, .ref z17, .ref z18, .ref z43]))]) hD hS hA [0] rfl
  refine va_calli (va_runV (As := []) (rest := [.int 7]) ⟨hx, hb, hml, hown, hts⟩ (kX12_gens l D G h0 z0 z1 z2 z3 z4 z5 z20 z21 z22 z23 z24 z25 z26 z27 z28 z6 z29 z7 z19 z8 z9 z10 z11 z30 z31 z32 z33 z12 z34 z35 z36 z37 z38 z39 z40 z41 z42 z13 z14 z15 z16 z17 z18 z43 0 s.heap.size) (cwV 0 hts gX12_passAt_X12_gens rfl rfl rfl (by decide +kernel) ⟨Nat.le_of_ble_eq_true rfl, Nat.le_of_ble_eq_true rfl⟩) ⟨wB_blind, va_recv hK hPc (ci := 12) (q0 := 0) rfl rfl, wB_pre hPc hK hDc hN⟩ rfl rfl hl.1 rfl (lv_room (Nat.le_of_ble_eq_true rfl)) dX12_passAt_2 ⟨Nat.le_of_ble_eq_true rfl, Nat.le_of_ble_eq_true rfl⟩) hS (fun q _ h => hFc q h) hFc (fun r1 u t H1 locs ht hvm hr1 hB hz1 hk1 hS => ?_)
  obtain ⟨hP1, hK1, hD1⟩ := hB
  rw [ht] at hP1
  obtain ⟨hP, hD⟩ := va_join (wr := []) (w1 := [(h0, .inr (12, [.ref z0, .ref z1, .ref z2, .ref z3, .ref z4, .ref z5, .ref z20, .ref z21, .ref z22, .ref z23, .ref z24, .ref z25, .int 0, .ref z26, .ref z27, .ref z28, .int 9, .int 0, .int 0, .ref z6, .ref z29, .ref z7, .int 0, .int 2, .ref z19, .ref z8, .ref z9, .ref z10, .int 0, .ref z11, .int 0, .ref z30, .ref z31, .ref z32, .ref z33, .int 0, .ref z12, .int 0, .int 0, .ref z34, .ref z35, .ref z36, .ref z37, .int 0, .int 0, .int 0, .int 0, .ref z38, .int 0, .ref z39, .ref z40, .ref z41, .ref z42, .int 0, .ref z13, .ref z14, .ref z15, .ref z16, .int 0, .ref z17, .ref z18, .ref z43]))]) hP hD [0] [] rfl rfl (by decide) (by decide) hk1 hFc hP1 hD1
  clear hPc hDc
  generalize H1 = H at hP hS ⊢
  have hP : va_P D vwCl [(h0, .inr (12, [.ref z0, .ref z1, .ref z2, .ref z3, .ref z4, .ref z5, .ref z20, .ref z21, .ref z22, .ref z23, .ref z24, .ref z25, .int 0, .ref z26, .ref z27, .ref z28, .int 9, .int 0, .int 0, .ref z6, .ref z29, .ref z7, .int 0, .int 2, .ref z19, .ref z8, .ref z9, .ref z10, .int 0, .ref z11, .int 0, .ref z30, .ref z31, .ref z32, .ref z33, .int 0, .ref z12, .int 0, .int 0, .ref z34, .ref z35, .ref z36, .ref z37, .int 0, .int 0, .int 0, .int 0, .ref z38, .int 0, .ref z39, .ref z40, .ref z41, .ref z42, .int 0, .ref z13, .ref z14, .ref z15, .ref z16, .int 0, .ref z17, .ref z18, .ref z43]))] H := hP
  have hD : va_D A [(h0, .inr (12, [.ref z0, .ref z1, .ref z2, .ref z3, .ref z4, .ref z5, .ref z20, .ref z21, .ref z22, .ref z23, .ref z24, .ref z25, .int 0, .ref z26, .ref z27, .ref z28, .int 9, .int 0, .int 0, .ref z6, .ref z29, .ref z7, .int 0, .int 2, .ref z19, .ref z8, .ref z9, .ref z10, .int 0, .ref z11, .int 0, .ref z30, .ref z31, .ref z32, .ref z33, .int 0, .ref z12, .int 0, .int 0, .ref z34, .ref z35, .ref z36, .ref z37, .int 0, .int 0, .int 0, .int 0, .ref z38, .int 0, .ref z39, .ref z40, .ref z41, .ref z42, .int 0, .ref z13, .ref z14, .ref z15, .ref z16, .int 0, .ref z17, .ref z18, .ref z43]))] := hD
  subst hr1
  refine lv_iload_n hx hb dX12_passAt_5 rfl (lv_at hl 2 rfl) ?_
  refine lv_iconst (v := 1) hx hb dX12_passAt_6 (by decide) ?_
  refine lv_isub hx hb dX12_passAt_7 ?_
  refine wk_i 2 (by decide) ?_
  refine lv_iload_n hx hb dX12_passAt_8 rfl (lv_at hl 3 rfl) ?_
  refine lv_isub hx hb dX12_passAt_9 ?_
  refine wk_i 2 (by decide) ?_
  have hPc := hP.sub (ws' := []) [] rfl
  have hDc := hD.sub (ws' := []) [] (by decide) rfl
  have hFc := va_free (wc := []) hD hS hA [] rfl
  refine va_calli (va_runS (As := [.int 2, .int 2]) (rest := [.int 7]) ⟨hx, hb, hml, hown, hts⟩ (kX12_power_2 l D G  H.size) (va_cwS 2 hts gX12_passAt_X12_power rfl rfl rfl (by decide +kernel) ⟨Nat.le_of_ble_eq_true rfl, Nat.le_of_ble_eq_true rfl⟩) ⟨wB_blind, wB_pre hPc hK hDc hN⟩ rfl rfl hl.1 rfl (lv_room (Nat.le_of_ble_eq_true rfl)) dX12_passAt_10 ⟨Nat.le_of_ble_eq_true rfl, Nat.le_of_ble_eq_true rfl⟩) hS (fun q _ h => hFc q h) hFc (fun r2 u t H1 locs ht hvm hr2 hB hz1 hk1 hS => ?_)
  obtain ⟨hP, hD⟩ := va_join (wr := [(h0, .inr (12, [.ref z0, .ref z1, .ref z2, .ref z3, .ref z4, .ref z5, .ref z20, .ref z21, .ref z22, .ref z23, .ref z24, .ref z25, .int 0, .ref z26, .ref z27, .ref z28, .int 9, .int 0, .int 0, .ref z6, .ref z29, .ref z7, .int 0, .int 2, .ref z19, .ref z8, .ref z9, .ref z10, .int 0, .ref z11, .int 0, .ref z30, .ref z31, .ref z32, .ref z33, .int 0, .ref z12, .int 0, .int 0, .ref z34, .ref z35, .ref z36, .ref z37, .int 0, .int 0, .int 0, .int 0, .ref z38, .int 0, .ref z39, .ref z40, .ref z41, .ref z42, .int 0, .ref z13, .ref z14, .ref z15, .ref z16, .int 0, .ref z17, .ref z18, .ref z43]))]) (w1 := []) hP hD [] [0] rfl rfl (by decide) (by decide) hk1 hFc wP_nil wD_nil
  clear hPc hDc
  generalize H1 = H at hP hS ⊢
  have hP : va_P D vwCl [(h0, .inr (12, [.ref z0, .ref z1, .ref z2, .ref z3, .ref z4, .ref z5, .ref z20, .ref z21, .ref z22, .ref z23, .ref z24, .ref z25, .int 0, .ref z26, .ref z27, .ref z28, .int 9, .int 0, .int 0, .ref z6, .ref z29, .ref z7, .int 0, .int 2, .ref z19, .ref z8, .ref z9, .ref z10, .int 0, .ref z11, .int 0, .ref z30, .ref z31, .ref z32, .ref z33, .int 0, .ref z12, .int 0, .int 0, .ref z34, .ref z35, .ref z36, .ref z37, .int 0, .int 0, .int 0, .int 0, .ref z38, .int 0, .ref z39, .ref z40, .ref z41, .ref z42, .int 0, .ref z13, .ref z14, .ref z15, .ref z16, .int 0, .ref z17, .ref z18, .ref z43]))] H := hP
  have hD : va_D A [(h0, .inr (12, [.ref z0, .ref z1, .ref z2, .ref z3, .ref z4, .ref z5, .ref z20, .ref z21, .ref z22, .ref z23, .ref z24, .ref z25, .int 0, .ref z26, .ref z27, .ref z28, .int 9, .int 0, .int 0, .ref z6, .ref z29, .ref z7, .int 0, .int 2, .ref z19, .ref z8, .ref z9, .ref z10, .int 0, .ref z11, .int 0, .ref z30, .ref z31, .ref z32, .ref z33, .int 0, .ref z12, .int 0, .int 0, .ref z34, .ref z35, .ref z36, .ref z37, .int 0, .int 0, .int 0, .int 0, .ref z38, .int 0, .ref z39, .ref z40, .ref z41, .ref z42, .int 0, .ref z13, .ref z14, .ref z15, .ref z16, .int 0, .ref z17, .ref z18, .ref z43]))] := hD
  subst hr2
  refine lv_idiv hx hb dX12_passAt_13 (by decide) ?_
  refine wk_i 1 (by decide) ?_
  refine lv_aload_n hx hb dX12_passAt_14 rfl (lv_at hl 0 rfl) ?_
  have hPc := hP.sub (ws' := [(h0, .inr (12, [.ref z0, .ref z1, .ref z2, .ref z3, .ref z4, .ref z5, .ref z20, .ref z21, .ref z22, .ref z23, .ref z24, .ref z25, .int 0, .ref z26, .ref z27, .ref z28, .int 9, .int 0, .int 0, .ref z6, .ref z29, .ref z7, .int 0, .int 2, .ref z19, .ref z8, .ref z9, .ref z10, .int 0, .ref z11, .int 0, .ref z30, .ref z31, .ref z32, .ref z33, .int 0, .ref z12, .int 0, .int 0, .ref z34, .ref z35, .ref z36, .ref z37, .int 0, .int 0, .int 0, .int 0, .ref z38, .int 0, .ref z39, .ref z40, .ref z41, .ref z42, .int 0, .ref z13, .ref z14, .ref z15, .ref z16, .int 0, .ref z17, .ref z18, .ref z43]))]) [0] rfl
  have hDc := hD.sub (ws' := [(h0, .inr (12, [.ref z0, .ref z1, .ref z2, .ref z3, .ref z4, .ref z5, .ref z20, .ref z21, .ref z22, .ref z23, .ref z24, .ref z25, .int 0, .ref z26, .ref z27, .ref z28, .int 9, .int 0, .int 0, .ref z6, .ref z29, .ref z7, .int 0, .int 2, .ref z19, .ref z8, .ref z9, .ref z10, .int 0, .ref z11, .int 0, .ref z30, .ref z31, .ref z32, .ref z33, .int 0, .ref z12, .int 0, .int 0, .ref z34, .ref z35, .ref z36, .ref z37, .int 0, .int 0, .int 0, .int 0, .ref z38, .int 0, .ref z39, .ref z40, .ref z41, .ref z42, .int 0, .ref z13, .ref z14, .ref z15, .ref z16, .int 0, .ref z17, .ref z18, .ref z43]))]) [0] (by decide) rfl
  have hFc := va_free (wc := [(h0, .inr (12, [.ref z0, .ref z1, .ref z2, .ref z3, .ref z4, .ref z5, .ref z20, .ref z21, .ref z22, .ref z23, .ref z24, .ref z25, .int 0, .ref z26, .ref z27, .ref z28, .int 9, .int 0, .int 0, .ref z6, .ref z29, .ref z7, .int 0, .int 2, .ref z19, .ref z8, .ref z9, .ref z10, .int 0, .ref z11, .int 0, .ref z30, .ref z31, .ref z32, .ref z33, .int 0, .ref z12, .int 0, .int 0, .ref z34, .ref z35, .ref z36, .ref z37, .int 0, .int 0, .int 0, .int 0, .ref z38, .int 0, .ref z39, .ref z40, .ref z41, .ref z42, .int 0, .ref z13, .ref z14, .ref z15, .ref z16, .int 0, .ref z17, .ref z18, .ref z43]))]) hD hS hA [0] rfl
  refine va_calli (va_runV (As := []) (rest := [.int 1]) ⟨hx, hb, hml, hown, hts⟩ (kX12_gens l D G h0 z0 z1 z2 z3 z4 z5 z20 z21 z22 z23 z24 z25 z26 z27 z28 z6 z29 z7 z19 z8 z9 z10 z11 z30 z31 z32 z33 z12 z34 z35 z36 z37 z38 z39 z40 z41 z42 z13 z14 z15 z16 z17 z18 z43 0 H.size) (cwV 0 hts gX12_passAt_X12_gens rfl rfl rfl (by decide +kernel) ⟨Nat.le_of_ble_eq_true rfl, Nat.le_of_ble_eq_true rfl⟩) ⟨wB_blind, va_recv hK hPc (ci := 12) (q0 := 0) rfl rfl, wB_pre hPc hK hDc hN⟩ rfl rfl hl.1 rfl (lv_room (Nat.le_of_ble_eq_true rfl)) dX12_passAt_15 ⟨Nat.le_of_ble_eq_true rfl, Nat.le_of_ble_eq_true rfl⟩) hS (fun q _ h => hFc q h) hFc (fun r3 u t H1 locs ht hvm hr3 hB hz1 hk1 hS => ?_)
  obtain ⟨hP1, hK1, hD1⟩ := hB
  rw [ht] at hP1
  obtain ⟨hP, hD⟩ := va_join (wr := []) (w1 := [(h0, .inr (12, [.ref z0, .ref z1, .ref z2, .ref z3, .ref z4, .ref z5, .ref z20, .ref z21, .ref z22, .ref z23, .ref z24, .ref z25, .int 0, .ref z26, .ref z27, .ref z28, .int 9, .int 0, .int 0, .ref z6, .ref z29, .ref z7, .int 0, .int 2, .ref z19, .ref z8, .ref z9, .ref z10, .int 0, .ref z11, .int 0, .ref z30, .ref z31, .ref z32, .ref z33, .int 0, .ref z12, .int 0, .int 0, .ref z34, .ref z35, .ref z36, .ref z37, .int 0, .int 0, .int 0, .int 0, .ref z38, .int 0, .ref z39, .ref z40, .ref z41, .ref z42, .int 0, .ref z13, .ref z14, .ref z15, .ref z16, .int 0, .ref z17, .ref z18, .ref z43]))]) hP hD [0] [] rfl rfl (by decide) (by decide) hk1 hFc hP1 hD1
  clear hPc hDc
  generalize H1 = H at hP hS ⊢
  have hP : va_P D vwCl [(h0, .inr (12, [.ref z0, .ref z1, .ref z2, .ref z3, .ref z4, .ref z5, .ref z20, .ref z21, .ref z22, .ref z23, .ref z24, .ref z25, .int 0, .ref z26, .ref z27, .ref z28, .int 9, .int 0, .int 0, .ref z6, .ref z29, .ref z7, .int 0, .int 2, .ref z19, .ref z8, .ref z9, .ref z10, .int 0, .ref z11, .int 0, .ref z30, .ref z31, .ref z32, .ref z33, .int 0, .ref z12, .int 0, .int 0, .ref z34, .ref z35, .ref z36, .ref z37, .int 0, .int 0, .int 0, .int 0, .ref z38, .int 0, .ref z39, .ref z40, .ref z41, .ref z42, .int 0, .ref z13, .ref z14, .ref z15, .ref z16, .int 0, .ref z17, .ref z18, .ref z43]))] H := hP
  have hD : va_D A [(h0, .inr (12, [.ref z0, .ref z1, .ref z2, .ref z3, .ref z4, .ref z5, .ref z20, .ref z21, .ref z22, .ref z23, .ref z24, .ref z25, .int 0, .ref z26, .ref z27, .ref z28, .int 9, .int 0, .int 0, .ref z6, .ref z29, .ref z7, .int 0, .int 2, .ref z19, .ref z8, .ref z9, .ref z10, .int 0, .ref z11, .int 0, .ref z30, .ref z31, .ref z32, .ref z33, .int 0, .ref z12, .int 0, .int 0, .ref z34, .ref z35, .ref z36, .ref z37, .int 0, .int 0, .int 0, .int 0, .ref z38, .int 0, .ref z39, .ref z40, .ref z41, .ref z42, .int 0, .ref z13, .ref z14, .ref z15, .ref z16, .int 0, .ref z17, .ref z18, .ref z43]))] := hD
  subst hr3
  refine lv_irem hx hb dX12_passAt_18 (by decide) ?_
  refine wk_i 1 (by decide) ?_
  have hPc := hP.sub (ws' := []) [] rfl
  have hDc := hD.sub (ws' := []) [] (by decide) rfl
  have hFc := va_free (wc := []) hD hS hA [] rfl
  refine va_calli (va_runS (As := [.int 1]) (rest := []) ⟨hx, hb, hml, hown, hts⟩ (kX12_passOf_1 l D G  H.size) (va_cwS 1 hts gX12_passAt_X12_passOf rfl rfl rfl (by decide +kernel) ⟨Nat.le_of_ble_eq_true rfl, Nat.le_of_ble_eq_true rfl⟩) ⟨wB_blind, wB_pre hPc hK hDc hN⟩ rfl rfl hl.1 rfl (lv_room (Nat.le_of_ble_eq_true rfl)) dX12_passAt_19 ⟨Nat.le_of_ble_eq_true rfl, Nat.le_of_ble_eq_true rfl⟩) hS (fun q _ h => hFc q h) hFc (fun r4 u t H1 locs ht hvm hr4 hB hz1 hk1 hS => ?_)
  obtain ⟨hP, hD⟩ := va_join (wr := [(h0, .inr (12, [.ref z0, .ref z1, .ref z2, .ref z3, .ref z4, .ref z5, .ref z20, .ref z21, .ref z22, .ref z23, .ref z24, .ref z25, .int 0, .ref z26, .ref z27, .ref z28, .int 9, .int 0, .int 0, .ref z6, .ref z29, .ref z7, .int 0, .int 2, .ref z19, .ref z8, .ref z9, .ref z10, .int 0, .ref z11, .int 0, .ref z30, .ref z31, .ref z32, .ref z33, .int 0, .ref z12, .int 0, .int 0, .ref z34, .ref z35, .ref z36, .ref z37, .int 0, .int 0, .int 0, .int 0, .ref z38, .int 0, .ref z39, .ref z40, .ref z41, .ref z42, .int 0, .ref z13, .ref z14, .ref z15, .ref z16, .int 0, .ref z17, .ref z18, .ref z43]))]) (w1 := []) hP hD [] [0] rfl rfl (by decide) (by decide) hk1 hFc wP_nil wD_nil
  clear hPc hDc
  generalize H1 = H at hP hS ⊢
  have hP : va_P D vwCl [(h0, .inr (12, [.ref z0, .ref z1, .ref z2, .ref z3, .ref z4, .ref z5, .ref z20, .ref z21, .ref z22, .ref z23, .ref z24, .ref z25, .int 0, .ref z26, .ref z27, .ref z28, .int 9, .int 0, .int 0, .ref z6, .ref z29, .ref z7, .int 0, .int 2, .ref z19, .ref z8, .ref z9, .ref z10, .int 0, .ref z11, .int 0, .ref z30, .ref z31, .ref z32, .ref z33, .int 0, .ref z12, .int 0, .int 0, .ref z34, .ref z35, .ref z36, .ref z37, .int 0, .int 0, .int 0, .int 0, .ref z38, .int 0, .ref z39, .ref z40, .ref z41, .ref z42, .int 0, .ref z13, .ref z14, .ref z15, .ref z16, .int 0, .ref z17, .ref z18, .ref z43]))] H := hP
  have hD : va_D A [(h0, .inr (12, [.ref z0, .ref z1, .ref z2, .ref z3, .ref z4, .ref z5, .ref z20, .ref z21, .ref z22, .ref z23, .ref z24, .ref z25, .int 0, .ref z26, .ref z27, .ref z28, .int 9, .int 0, .int 0, .ref z6, .ref z29, .ref z7, .int 0, .int 2, .ref z19, .ref z8, .ref z9, .ref z10, .int 0, .ref z11, .int 0, .ref z30, .ref z31, .ref z32, .ref z33, .int 0, .ref z12, .int 0, .int 0, .ref z34, .ref z35, .ref z36, .ref z37, .int 0, .int 0, .int 0, .int 0, .ref z38, .int 0, .ref z39, .ref z40, .ref z41, .ref z42, .int 0, .ref z13, .ref z14, .ref z15, .ref z16, .int 0, .ref z17, .ref z18, .ref z43]))] := hD
  subst hr4
  have hP9 := hP.sub (ws' := [(h0, .inr (12, [.ref z0, .ref z1, .ref z2, .ref z3, .ref z4, .ref z5, .ref z20, .ref z21, .ref z22, .ref z23, .ref z24, .ref z25, .int 0, .ref z26, .ref z27, .ref z28, .int 9, .int 0, .int 0, .ref z6, .ref z29, .ref z7, .int 0, .int 2, .ref z19, .ref z8, .ref z9, .ref z10, .int 0, .ref z11, .int 0, .ref z30, .ref z31, .ref z32, .ref z33, .int 0, .ref z12, .int 0, .int 0, .ref z34, .ref z35, .ref z36, .ref z37, .int 0, .int 0, .int 0, .int 0, .ref z38, .int 0, .ref z39, .ref z40, .ref z41, .ref z42, .int 0, .ref z13, .ref z14, .ref z15, .ref z16, .int 0, .ref z17, .ref z18, .ref z43]))]) [0] rfl
  have hD9 := hD.sub (ws' := [(h0, .inr (12, [.ref z0, .ref z1, .ref z2, .ref z3, .ref z4, .ref z5, .ref z20, .ref z21, .ref z22, .ref z23, .ref z24, .ref z25, .int 0, .ref z26, .ref z27, .ref z28, .int 9, .int 0, .int 0, .ref z6, .ref z29, .ref z7, .int 0, .int 2, .ref z19, .ref z8, .ref z9, .ref z10, .int 0, .ref z11, .int 0, .ref z30, .ref z31, .ref z32, .ref z33, .int 0, .ref z12, .int 0, .int 0, .ref z34, .ref z35, .ref z36, .ref z37, .int 0, .int 0, .int 0, .int 0, .ref z38, .int 0, .ref z39, .ref z40, .ref z41, .ref z42, .int 0, .ref z13, .ref z14, .ref z15, .ref z16, .int 0, .ref z17, .ref z18, .ref z43]))]) [0] (by decide) rfl
  exact W.iret (v := (-1)) hx hb hr (fun t ht hW => ⟨⟨(-1), (), rfl, rfl, ⟨by rw [ht]; exact hP9, va_K.moved hW.alike hK, hD9⟩⟩, hS.F ht⟩) hS.2.2 dX12_passAt_22

set_option maxHeartbeats 4000000 in
set_option maxRecDepth 100000 in
/-- X12_passAt -/
theorem kX12_passAt_3_7_1 (l : Launch) (D : va_G) (G : tyG) (h0 : Nat) (z0 : Nat) (z1 : Nat) (z2 : Nat) (z3 : Nat) (z4 : Nat) (z5 : Nat) (z20 : Nat) (z21 : Nat) (z22 : Nat) (z23 : Nat) (z24 : Nat) (z25 : Nat) (z26 : Nat) (z27 : Nat) (z28 : Nat) (z6 : Nat) (z29 : Nat) (z7 : Nat) (z19 : Nat) (z8 : Nat) (z9 : Nat) (z10 : Nat) (z11 : Nat) (z30 : Nat) (z31 : Nat) (z32 : Nat) (z33 : Nat) (z12 : Nat) (z34 : Nat) (z35 : Nat) (z36 : Nat) (z37 : Nat) (z38 : Nat) (z39 : Nat) (z40 : Nat) (z41 : Nat) (z42 : Nat) (z13 : Nat) (z14 : Nat) (z15 : Nat) (z16 : Nat) (z17 : Nat) (z18 : Nat) (z43 : Nat) (sz : Nat) : Met l yX12_passAt wsX12_passAt ({ frames := 1, cells := 0, slots := 0, locals := 23 }) (va_Pc [.ref h0, .int 7, .int 3, .int 1] (wB D G sz [(h0, .inr (12, [.ref z0, .ref z1, .ref z2, .ref z3, .ref z4, .ref z5, .ref z20, .ref z21, .ref z22, .ref z23, .ref z24, .ref z25, .int 0, .ref z26, .ref z27, .ref z28, .int 9, .int 0, .int 0, .ref z6, .ref z29, .ref z7, .int 0, .int 2, .ref z19, .ref z8, .ref z9, .ref z10, .int 0, .ref z11, .int 0, .ref z30, .ref z31, .ref z32, .ref z33, .int 0, .ref z12, .int 0, .int 0, .ref z34, .ref z35, .ref z36, .ref z37, .int 0, .int 0, .int 0, .int 0, .ref z38, .int 0, .ref z39, .ref z40, .ref z41, .ref z42, .int 0, .ref z13, .ref z14, .ref z15, .ref z16, .int 0, .ref z17, .ref z18, .ref z43]))])) (va_Qi (fun (r : Int32) (_ : Unit) => r = (-1)) (fun _ t => wS D G (va_A [(h0, .inr (12, [.ref z0, .ref z1, .ref z2, .ref z3, .ref z4, .ref z5, .ref z20, .ref z21, .ref z22, .ref z23, .ref z24, .ref z25, .int 0, .ref z26, .ref z27, .ref z28, .int 9, .int 0, .int 0, .ref z6, .ref z29, .ref z7, .int 0, .int 2, .ref z19, .ref z8, .ref z9, .ref z10, .int 0, .ref z11, .int 0, .ref z30, .ref z31, .ref z32, .ref z33, .int 0, .ref z12, .int 0, .int 0, .ref z34, .ref z35, .ref z36, .ref z37, .int 0, .int 0, .int 0, .int 0, .ref z38, .int 0, .ref z39, .ref z40, .ref z41, .ref z42, .int 0, .ref z13, .ref z14, .ref z15, .ref z16, .int 0, .ref z17, .ref z18, .ref z43]))] sz) [(h0, .inr (12, [.ref z0, .ref z1, .ref z2, .ref z3, .ref z4, .ref z5, .ref z20, .ref z21, .ref z22, .ref z23, .ref z24, .ref z25, .int 0, .ref z26, .ref z27, .ref z28, .int 9, .int 0, .int 0, .ref z6, .ref z29, .ref z7, .int 0, .int 2, .ref z19, .ref z8, .ref z9, .ref z10, .int 0, .ref z11, .int 0, .ref z30, .ref z31, .ref z32, .ref z33, .int 0, .ref z12, .int 0, .int 0, .ref z34, .ref z35, .ref z36, .ref z37, .int 0, .int 0, .int 0, .int 0, .ref z38, .int 0, .ref z39, .ref z40, .ref z41, .ref z42, .int 0, .ref z13, .ref z14, .ref z15, .ref z16, .int 0, .ref z17, .ref z18, .ref z43]))] t) (va_A [(h0, .inr (12, [.ref z0, .ref z1, .ref z2, .ref z3, .ref z4, .ref z5, .ref z20, .ref z21, .ref z22, .ref z23, .ref z24, .ref z25, .int 0, .ref z26, .ref z27, .ref z28, .int 9, .int 0, .int 0, .ref z6, .ref z29, .ref z7, .int 0, .int 2, .ref z19, .ref z8, .ref z9, .ref z10, .int 0, .ref z11, .int 0, .ref z30, .ref z31, .ref z32, .ref z33, .int 0, .ref z12, .int 0, .int 0, .ref z34, .ref z35, .ref z36, .ref z37, .int 0, .int 0, .int 0, .int 0, .ref z38, .int 0, .ref z39, .ref z40, .ref z41, .ref z42, .int 0, .ref z13, .ref z14, .ref z15, .ref z16, .int 0, .ref z17, .ref z18, .ref z43]))] sz)) 0 0 (va_A [(h0, .inr (12, [.ref z0, .ref z1, .ref z2, .ref z3, .ref z4, .ref z5, .ref z20, .ref z21, .ref z22, .ref z23, .ref z24, .ref z25, .int 0, .ref z26, .ref z27, .ref z28, .int 9, .int 0, .int 0, .ref z6, .ref z29, .ref z7, .int 0, .int 2, .ref z19, .ref z8, .ref z9, .ref z10, .int 0, .ref z11, .int 0, .ref z30, .ref z31, .ref z32, .ref z33, .int 0, .ref z12, .int 0, .int 0, .ref z34, .ref z35, .ref z36, .ref z37, .int 0, .int 0, .int 0, .int 0, .ref z38, .int 0, .ref z39, .ref z40, .ref z41, .ref z42, .int 0, .ref z13, .ref z14, .ref z15, .ref z16, .int 0, .ref z17, .ref z18, .ref z43]))] sz) := by
  refine Met.ofW (cc := cX12_passAt) (maxL := 4) (ret := (some .int)) (by decide) rfl ?_
  intro p e s m args below meth c s₁ B hml hv
  obtain ⟨rfl, hsz, hP, hK, hD0, hN⟩ := hv
  have hx := B.exec
  have hb := B.bytes
  have hr := B.returns
  have hts := atoms_spec (ws := wsX12_passAt) B.pre
  have hown : s.vm.findClass RX12 = some m.cls := findClass_of_methodNamed B.named
  have hlocks := B.notSynchronized
  subst hsz
  have hD := hD0.self (sz := s.heap.size)
  generalize hAe : va_A [(h0, .inr (12, [.ref z0, .ref z1, .ref z2, .ref z3, .ref z4, .ref z5, .ref z20, .ref z21, .ref z22, .ref z23, .ref z24, .ref z25, .int 0, .ref z26, .ref z27, .ref z28, .int 9, .int 0, .int 0, .ref z6, .ref z29, .ref z7, .int 0, .int 2, .ref z19, .ref z8, .ref z9, .ref z10, .int 0, .ref z11, .int 0, .ref z30, .ref z31, .ref z32, .ref z33, .int 0, .ref z12, .int 0, .int 0, .ref z34, .ref z35, .ref z36, .ref z37, .int 0, .int 0, .int 0, .int 0, .ref z38, .int 0, .ref z39, .ref z40, .ref z41, .ref z42, .int 0, .ref z13, .ref z14, .ref z15, .ref z16, .int 0, .ref z17, .ref z18, .ref z43]))] s.heap.size = A at hD ⊢
  have hA : ∀ q : Nat, s.heap.size ≤ q → A q := fun q h => by rw [← hAe]; exact Or.inr h
  have hS : va_S A s.heap s.heap [] := va_S.rf
  have hP : va_P D vwCl [(h0, .inr (12, [.ref z0, .ref z1, .ref z2, .ref z3, .ref z4, .ref z5, .ref z20, .ref z21, .ref z22, .ref z23, .ref z24, .ref z25, .int 0, .ref z26, .ref z27, .ref z28, .int 9, .int 0, .int 0, .ref z6, .ref z29, .ref z7, .int 0, .int 2, .ref z19, .ref z8, .ref z9, .ref z10, .int 0, .ref z11, .int 0, .ref z30, .ref z31, .ref z32, .ref z33, .int 0, .ref z12, .int 0, .int 0, .ref z34, .ref z35, .ref z36, .ref z37, .int 0, .int 0, .int 0, .int 0, .ref z38, .int 0, .ref z39, .ref z40, .ref z41, .ref z42, .int 0, .ref z13, .ref z14, .ref z15, .ref z16, .int 0, .ref z17, .ref z18, .ref z43]))] s.heap := hP
  have hl := lv_entry ([.ref h0, .int 7, .int 3, .int 1]) (n := 4) (Nat.le_of_ble_eq_true rfl)
  rw [lg_entry_eq]
  generalize (lg_sl ([.ref h0, .int 7, .int 3, .int 1]) ++ List.replicate (4 - (lg_sl ([.ref h0, .int 7, .int 3, .int 1])).length) Slot.unset).toArray = ls at hl ⊢
  have hl : lv_has ls 4 [(0, .ref h0), (1, .int 7), (2, .int 3), (3, .int 1)] := hl
  refine lv_iload_n hx hb dX12_passAt_0 rfl (lv_at hl 1 rfl) ?_
  refine lv_aload_n hx hb dX12_passAt_1 rfl (lv_at hl 0 rfl) ?_
  have hPc := hP.sub (ws' := [(h0, .inr (12, [.ref z0, .ref z1, .ref z2, .ref z3, .ref z4, .ref z5, .ref z20, .ref z21, .ref z22, .ref z23, .ref z24, .ref z25, .int 0, .ref z26, .ref z27, .ref z28, .int 9, .int 0, .int 0, .ref z6, .ref z29, .ref z7, .int 0, .int 2, .ref z19, .ref z8, .ref z9, .ref z10, .int 0, .ref z11, .int 0, .ref z30, .ref z31, .ref z32, .ref z33, .int 0, .ref z12, .int 0, .int 0, .ref z34, .ref z35, .ref z36, .ref z37, .int 0, .int 0, .int 0, .int 0, .ref z38, .int 0, .ref z39, .ref z40, .ref z41, .ref z42, .int 0, .ref z13, .ref z14, .ref z15, .ref z16, .int 0, .ref z17, .ref z18, .ref z43]))]) [0] rfl
  have hDc := hD.sub (ws' := [(h0, .inr (12, [.ref z0, .ref z1, .ref z2, .ref z3, .ref z4, .ref z5, .ref z20, .ref z21, .ref z22, .ref z23, .ref z24, .ref z25, .int 0, .ref z26, .ref z27, .ref z28, .int 9, .int 0, .int 0, .ref z6, .ref z29, .ref z7, .int 0, .int 2, .ref z19, .ref z8, .ref z9, .ref z10, .int 0, .ref z11, .int 0, .ref z30, .ref z31, .ref z32, .ref z33, .int 0, .ref z12, .int 0, .int 0, .ref z34, .ref z35, .ref z36, .ref z37, .int 0, .int 0, .int 0, .int 0, .ref z38, .int 0, .ref z39, .ref z40, .ref z41, .ref z42, .int 0, .ref z13, .ref z14, .ref z15, .ref z16, .int 0, .ref z17, .ref z18, .ref z43]))]) [0] (by decide) rfl
  have hFc := va_free (wc := [(h0, .inr (12, [.ref z0, .ref z1, .ref z2, .ref z3, .ref z4, .ref z5, .ref z20, .ref z21, .ref z22, .ref z23, .ref z24, .ref z25, .int 0, .ref z26, .ref z27, .ref z28, .int 9, .int 0, .int 0, .ref z6, .ref z29, .ref z7, .int 0, .int 2, .ref z19, .ref z8, .ref z9, .ref z10, .int 0, .ref z11, .int 0, .ref z30, .ref z31, .ref z32, .ref z33, .int 0, .ref z12, .int 0, .int 0, .ref z34, .ref z35, .ref z36, .ref z37, .int 0, .int 0, .int 0, .int 0, .ref z38, .int 0, .ref z39, .ref z40, .ref z41, .ref z42, .int 0, .ref z13, .ref z14, .ref z15, .ref z16, .int 0, .ref z17, .ref z18, .ref z43]))]) hD hS hA [0] rfl
  refine va_calli (va_runV (As := []) (rest := [.int 7]) ⟨hx, hb, hml, hown, hts⟩ (kX12_gens l D G h0 z0 z1 z2 z3 z4 z5 z20 z21 z22 z23 z24 z25 z26 z27 z28 z6 z29 z7 z19 z8 z9 z10 z11 z30 z31 z32 z33 z12 z34 z35 z36 z37 z38 z39 z40 z41 z42 z13 z14 z15 z16 z17 z18 z43 0 s.heap.size) (cwV 0 hts gX12_passAt_X12_gens rfl rfl rfl (by decide +kernel) ⟨Nat.le_of_ble_eq_true rfl, Nat.le_of_ble_eq_true rfl⟩) ⟨wB_blind, va_recv hK hPc (ci := 12) (q0 := 0) rfl rfl, wB_pre hPc hK hDc hN⟩ rfl rfl hl.1 rfl (lv_room (Nat.le_of_ble_eq_true rfl)) dX12_passAt_2 ⟨Nat.le_of_ble_eq_true rfl, Nat.le_of_ble_eq_true rfl⟩) hS (fun q _ h => hFc q h) hFc (fun r1 u t H1 locs ht hvm hr1 hB hz1 hk1 hS => ?_)
  obtain ⟨hP1, hK1, hD1⟩ := hB
  rw [ht] at hP1
  obtain ⟨hP, hD⟩ := va_join (wr := []) (w1 := [(h0, .inr (12, [.ref z0, .ref z1, .ref z2, .ref z3, .ref z4, .ref z5, .ref z20, .ref z21, .ref z22, .ref z23, .ref z24, .ref z25, .int 0, .ref z26, .ref z27, .ref z28, .int 9, .int 0, .int 0, .ref z6, .ref z29, .ref z7, .int 0, .int 2, .ref z19, .ref z8, .ref z9, .ref z10, .int 0, .ref z11, .int 0, .ref z30, .ref z31, .ref z32, .ref z33, .int 0, .ref z12, .int 0, .int 0, .ref z34, .ref z35, .ref z36, .ref z37, .int 0, .int 0, .int 0, .int 0, .ref z38, .int 0, .ref z39, .ref z40, .ref z41, .ref z42, .int 0, .ref z13, .ref z14, .ref z15, .ref z16, .int 0, .ref z17, .ref z18, .ref z43]))]) hP hD [0] [] rfl rfl (by decide) (by decide) hk1 hFc hP1 hD1
  clear hPc hDc
  generalize H1 = H at hP hS ⊢
  have hP : va_P D vwCl [(h0, .inr (12, [.ref z0, .ref z1, .ref z2, .ref z3, .ref z4, .ref z5, .ref z20, .ref z21, .ref z22, .ref z23, .ref z24, .ref z25, .int 0, .ref z26, .ref z27, .ref z28, .int 9, .int 0, .int 0, .ref z6, .ref z29, .ref z7, .int 0, .int 2, .ref z19, .ref z8, .ref z9, .ref z10, .int 0, .ref z11, .int 0, .ref z30, .ref z31, .ref z32, .ref z33, .int 0, .ref z12, .int 0, .int 0, .ref z34, .ref z35, .ref z36, .ref z37, .int 0, .int 0, .int 0, .int 0, .ref z38, .int 0, .ref z39, .ref z40, .ref z41, .ref z42, .int 0, .ref z13, .ref z14, .ref z15, .ref z16, .int 0, .ref z17, .ref z18, .ref z43]))] H := hP
  have hD : va_D A [(h0, .inr (12, [.ref z0, .ref z1, .ref z2, .ref z3, .ref z4, .ref z5, .ref z20, .ref z21, .ref z22, .ref z23, .ref z24, .ref z25, .int 0, .ref z26, .ref z27, .ref z28, .int 9, .int 0, .int 0, .ref z6, .ref z29, .ref z7, .int 0, .int 2, .ref z19, .ref z8, .ref z9, .ref z10, .int 0, .ref z11, .int 0, .ref z30, .ref z31, .ref z32, .ref z33, .int 0, .ref z12, .int 0, .int 0, .ref z34, .ref z35, .ref z36, .ref z37, .int 0, .int 0, .int 0, .int 0, .ref z38, .int 0, .ref z39, .ref z40, .ref z41, .ref z42, .int 0, .ref z13, .ref z14, .ref z15, .ref z16, .int 0, .ref z17, .ref z18, .ref z43]))] := hD
  subst hr1
  refine lv_iload_n hx hb dX12_passAt_5 rfl (lv_at hl 2 rfl) ?_
  refine lv_iconst (v := 1) hx hb dX12_passAt_6 (by decide) ?_
  refine lv_isub hx hb dX12_passAt_7 ?_
  refine wk_i 2 (by decide) ?_
  refine lv_iload_n hx hb dX12_passAt_8 rfl (lv_at hl 3 rfl) ?_
  refine lv_isub hx hb dX12_passAt_9 ?_
  refine wk_i 1 (by decide) ?_
  have hPc := hP.sub (ws' := []) [] rfl
  have hDc := hD.sub (ws' := []) [] (by decide) rfl
  have hFc := va_free (wc := []) hD hS hA [] rfl
  refine va_calli (va_runS (As := [.int 2, .int 1]) (rest := [.int 7]) ⟨hx, hb, hml, hown, hts⟩ (kX12_power_1 l D G  H.size) (va_cwS 2 hts gX12_passAt_X12_power rfl rfl rfl (by decide +kernel) ⟨Nat.le_of_ble_eq_true rfl, Nat.le_of_ble_eq_true rfl⟩) ⟨wB_blind, wB_pre hPc hK hDc hN⟩ rfl rfl hl.1 rfl (lv_room (Nat.le_of_ble_eq_true rfl)) dX12_passAt_10 ⟨Nat.le_of_ble_eq_true rfl, Nat.le_of_ble_eq_true rfl⟩) hS (fun q _ h => hFc q h) hFc (fun r2 u t H1 locs ht hvm hr2 hB hz1 hk1 hS => ?_)
  obtain ⟨hP, hD⟩ := va_join (wr := [(h0, .inr (12, [.ref z0, .ref z1, .ref z2, .ref z3, .ref z4, .ref z5, .ref z20, .ref z21, .ref z22, .ref z23, .ref z24, .ref z25, .int 0, .ref z26, .ref z27, .ref z28, .int 9, .int 0, .int 0, .ref z6, .ref z29, .ref z7, .int 0, .int 2, .ref z19, .ref z8, .ref z9, .ref z10, .int 0, .ref z11, .int 0, .ref z30, .ref z31, .ref z32, .ref z33, .int 0, .ref z12, .int 0, .int 0, .ref z34, .ref z35, .ref z36, .ref z37, .int 0, .int 0, .int 0, .int 0, .ref z38, .int 0, .ref z39, .ref z40, .ref z41, .ref z42, .int 0, .ref z13, .ref z14, .ref z15, .ref z16, .int 0, .ref z17, .ref z18, .ref z43]))]) (w1 := []) hP hD [] [0] rfl rfl (by decide) (by decide) hk1 hFc wP_nil wD_nil
  clear hPc hDc
  generalize H1 = H at hP hS ⊢
  have hP : va_P D vwCl [(h0, .inr (12, [.ref z0, .ref z1, .ref z2, .ref z3, .ref z4, .ref z5, .ref z20, .ref z21, .ref z22, .ref z23, .ref z24, .ref z25, .int 0, .ref z26, .ref z27, .ref z28, .int 9, .int 0, .int 0, .ref z6, .ref z29, .ref z7, .int 0, .int 2, .ref z19, .ref z8, .ref z9, .ref z10, .int 0, .ref z11, .int 0, .ref z30, .ref z31, .ref z32, .ref z33, .int 0, .ref z12, .int 0, .int 0, .ref z34, .ref z35, .ref z36, .ref z37, .int 0, .int 0, .int 0, .int 0, .ref z38, .int 0, .ref z39, .ref z40, .ref z41, .ref z42, .int 0, .ref z13, .ref z14, .ref z15, .ref z16, .int 0, .ref z17, .ref z18, .ref z43]))] H := hP
  have hD : va_D A [(h0, .inr (12, [.ref z0, .ref z1, .ref z2, .ref z3, .ref z4, .ref z5, .ref z20, .ref z21, .ref z22, .ref z23, .ref z24, .ref z25, .int 0, .ref z26, .ref z27, .ref z28, .int 9, .int 0, .int 0, .ref z6, .ref z29, .ref z7, .int 0, .int 2, .ref z19, .ref z8, .ref z9, .ref z10, .int 0, .ref z11, .int 0, .ref z30, .ref z31, .ref z32, .ref z33, .int 0, .ref z12, .int 0, .int 0, .ref z34, .ref z35, .ref z36, .ref z37, .int 0, .int 0, .int 0, .int 0, .ref z38, .int 0, .ref z39, .ref z40, .ref z41, .ref z42, .int 0, .ref z13, .ref z14, .ref z15, .ref z16, .int 0, .ref z17, .ref z18, .ref z43]))] := hD
  subst hr2
  refine lv_idiv hx hb dX12_passAt_13 (by decide) ?_
  refine wk_i 3 (by decide) ?_
  refine lv_aload_n hx hb dX12_passAt_14 rfl (lv_at hl 0 rfl) ?_
  have hPc := hP.sub (ws' := [(h0, .inr (12, [.ref z0, .ref z1, .ref z2, .ref z3, .ref z4, .ref z5, .ref z20, .ref z21, .ref z22, .ref z23, .ref z24, .ref z25, .int 0, .ref z26, .ref z27, .ref z28, .int 9, .int 0, .int 0, .ref z6, .ref z29, .ref z7, .int 0, .int 2, .ref z19, .ref z8, .ref z9, .ref z10, .int 0, .ref z11, .int 0, .ref z30, .ref z31, .ref z32, .ref z33, .int 0, .ref z12, .int 0, .int 0, .ref z34, .ref z35, .ref z36, .ref z37, .int 0, .int 0, .int 0, .int 0, .ref z38, .int 0, .ref z39, .ref z40, .ref z41, .ref z42, .int 0, .ref z13, .ref z14, .ref z15, .ref z16, .int 0, .ref z17, .ref z18, .ref z43]))]) [0] rfl
  have hDc := hD.sub (ws' := [(h0, .inr (12, [.ref z0, .ref z1, .ref z2, .ref z3, .ref z4, .ref z5, .ref z20, .ref z21, .ref z22, .ref z23, .ref z24, .ref z25, .int 0, .ref z26, .ref z27, .ref z28, .int 9, .int 0, .int 0, .ref z6, .ref z29, .ref z7, .int 0, .int 2, .ref z19, .ref z8, .ref z9, .ref z10, .int 0, .ref z11, .int 0, .ref z30, .ref z31, .ref z32, .ref z33, .int 0, .ref z12, .int 0, .int 0, .ref z34, .ref z35, .ref z36, .ref z37, .int 0, .int 0, .int 0, .int 0, .ref z38, .int 0, .ref z39, .ref z40, .ref z41, .ref z42, .int 0, .ref z13, .ref z14, .ref z15, .ref z16, .int 0, .ref z17, .ref z18, .ref z43]))]) [0] (by decide) rfl
  have hFc := va_free (wc := [(h0, .inr (12, [.ref z0, .ref z1, .ref z2, .ref z3, .ref z4, .ref z5, .ref z20, .ref z21, .ref z22, .ref z23, .ref z24, .ref z25, .int 0, .ref z26, .ref z27, .ref z28, .int 9, .int 0, .int 0, .ref z6, .ref z29, .ref z7, .int 0, .int 2, .ref z19, .ref z8, .ref z9, .ref z10, .int 0, .ref z11, .int 0, .ref z30, .ref z31, .ref z32, .ref z33, .int 0, .ref z12, .int 0, .int 0, .ref z34, .ref z35, .ref z36, .ref z37, .int 0, .int 0, .int 0, .int 0, .ref z38, .int 0, .ref z39, .ref z40, .ref z41, .ref z42, .int 0, .ref z13, .ref z14, .ref z15, .ref z16, .int 0, .ref z17, .ref z18, .ref z43]))]) hD hS hA [0] rfl
  refine va_calli (va_runV (As := []) (rest := [.int 3]) ⟨hx, hb, hml, hown, hts⟩ (kX12_gens l D G h0 z0 z1 z2 z3 z4 z5 z20 z21 z22 z23 z24 z25 z26 z27 z28 z6 z29 z7 z19 z8 z9 z10 z11 z30 z31 z32 z33 z12 z34 z35 z36 z37 z38 z39 z40 z41 z42 z13 z14 z15 z16 z17 z18 z43 0 H.size) (cwV 0 hts gX12_passAt_X12_gens rfl rfl rfl (by decide +kernel) ⟨Nat.le_of_ble_eq_true rfl, Nat.le_of_ble_eq_true rfl⟩) ⟨wB_blind, va_recv hK hPc (ci := 12) (q0 := 0) rfl rfl, wB_pre hPc hK hDc hN⟩ rfl rfl hl.1 rfl (lv_room (Nat.le_of_ble_eq_true rfl)) dX12_passAt_15 ⟨Nat.le_of_ble_eq_true rfl, Nat.le_of_ble_eq_true rfl⟩) hS (fun q _ h => hFc q h) hFc (fun r3 u t H1 locs ht hvm hr3 hB hz1 hk1 hS => ?_)
  obtain ⟨hP1, hK1, hD1⟩ := hB
  rw [ht] at hP1
  obtain ⟨hP, hD⟩ := va_join (wr := []) (w1 := [(h0, .inr (12, [.ref z0, .ref z1, .ref z2, .ref z3, .ref z4, .ref z5, .ref z20, .ref z21, .ref z22, .ref z23, .ref z24, .ref z25, .int 0, .ref z26, .ref z27, .ref z28, .int 9, .int 0, .int 0, .ref z6, .ref z29, .ref z7, .int 0, .int 2, .ref z19, .ref z8, .ref z9, .ref z10, .int 0, .ref z11, .int 0, .ref z30, .ref z31, .ref z32, .ref z33, .int 0, .ref z12, .int 0, .int 0, .ref z34, .ref z35, .ref z36, .ref z37, .int 0, .int 0, .int 0, .int 0, .ref z38, .int 0, .ref z39, .ref z40, .ref z41, .ref z42, .int 0, .ref z13, .ref z14, .ref z15, .ref z16, .int 0, .ref z17, .ref z18, .ref z43]))]) hP hD [0] [] rfl rfl (by decide) (by decide) hk1 hFc hP1 hD1
  clear hPc hDc
  generalize H1 = H at hP hS ⊢
  have hP : va_P D vwCl [(h0, .inr (12, [.ref z0, .ref z1, .ref z2, .ref z3, .ref z4, .ref z5, .ref z20, .ref z21, .ref z22, .ref z23, .ref z24, .ref z25, .int 0, .ref z26, .ref z27, .ref z28, .int 9, .int 0, .int 0, .ref z6, .ref z29, .ref z7, .int 0, .int 2, .ref z19, .ref z8, .ref z9, .ref z10, .int 0, .ref z11, .int 0, .ref z30, .ref z31, .ref z32, .ref z33, .int 0, .ref z12, .int 0, .int 0, .ref z34, .ref z35, .ref z36, .ref z37, .int 0, .int 0, .int 0, .int 0, .ref z38, .int 0, .ref z39, .ref z40, .ref z41, .ref z42, .int 0, .ref z13, .ref z14, .ref z15, .ref z16, .int 0, .ref z17, .ref z18, .ref z43]))] H := hP
  have hD : va_D A [(h0, .inr (12, [.ref z0, .ref z1, .ref z2, .ref z3, .ref z4, .ref z5, .ref z20, .ref z21, .ref z22, .ref z23, .ref z24, .ref z25, .int 0, .ref z26, .ref z27, .ref z28, .int 9, .int 0, .int 0, .ref z6, .ref z29, .ref z7, .int 0, .int 2, .ref z19, .ref z8, .ref z9, .ref z10, .int 0, .ref z11, .int 0, .ref z30, .ref z31, .ref z32, .ref z33, .int 0, .ref z12, .int 0, .int 0, .ref z34, .ref z35, .ref z36, .ref z37, .int 0, .int 0, .int 0, .int 0, .ref z38, .int 0, .ref z39, .ref z40, .ref z41, .ref z42, .int 0, .ref z13, .ref z14, .ref z15, .ref z16, .int 0, .ref z17, .ref z18, .ref z43]))] := hD
  subst hr3
  refine lv_irem hx hb dX12_passAt_18 (by decide) ?_
  refine wk_i 1 (by decide) ?_
  have hPc := hP.sub (ws' := []) [] rfl
  have hDc := hD.sub (ws' := []) [] (by decide) rfl
  have hFc := va_free (wc := []) hD hS hA [] rfl
  refine va_calli (va_runS (As := [.int 1]) (rest := []) ⟨hx, hb, hml, hown, hts⟩ (kX12_passOf_1 l D G  H.size) (va_cwS 1 hts gX12_passAt_X12_passOf rfl rfl rfl (by decide +kernel) ⟨Nat.le_of_ble_eq_true rfl, Nat.le_of_ble_eq_true rfl⟩) ⟨wB_blind, wB_pre hPc hK hDc hN⟩ rfl rfl hl.1 rfl (lv_room (Nat.le_of_ble_eq_true rfl)) dX12_passAt_19 ⟨Nat.le_of_ble_eq_true rfl, Nat.le_of_ble_eq_true rfl⟩) hS (fun q _ h => hFc q h) hFc (fun r4 u t H1 locs ht hvm hr4 hB hz1 hk1 hS => ?_)
  obtain ⟨hP, hD⟩ := va_join (wr := [(h0, .inr (12, [.ref z0, .ref z1, .ref z2, .ref z3, .ref z4, .ref z5, .ref z20, .ref z21, .ref z22, .ref z23, .ref z24, .ref z25, .int 0, .ref z26, .ref z27, .ref z28, .int 9, .int 0, .int 0, .ref z6, .ref z29, .ref z7, .int 0, .int 2, .ref z19, .ref z8, .ref z9, .ref z10, .int 0, .ref z11, .int 0, .ref z30, .ref z31, .ref z32, .ref z33, .int 0, .ref z12, .int 0, .int 0, .ref z34, .ref z35, .ref z36, .ref z37, .int 0, .int 0, .int 0, .int 0, .ref z38, .int 0, .ref z39, .ref z40, .ref z41, .ref z42, .int 0, .ref z13, .ref z14, .ref z15, .ref z16, .int 0, .ref z17, .ref z18, .ref z43]))]) (w1 := []) hP hD [] [0] rfl rfl (by decide) (by decide) hk1 hFc wP_nil wD_nil
  clear hPc hDc
  generalize H1 = H at hP hS ⊢
  have hP : va_P D vwCl [(h0, .inr (12, [.ref z0, .ref z1, .ref z2, .ref z3, .ref z4, .ref z5, .ref z20, .ref z21, .ref z22, .ref z23, .ref z24, .ref z25, .int 0, .ref z26, .ref z27, .ref z28, .int 9, .int 0, .int 0, .ref z6, .ref z29, .ref z7, .int 0, .int 2, .ref z19, .ref z8, .ref z9, .ref z10, .int 0, .ref z11, .int 0, .ref z30, .ref z31, .ref z32, .ref z33, .int 0, .ref z12, .int 0, .int 0, .ref z34, .ref z35, .ref z36, .ref z37, .int 0, .int 0, .int 0, .int 0, .ref z38, .int 0, .ref z39, .ref z40, .ref z41, .ref z42, .int 0, .ref z13, .ref z14, .ref z15, .ref z16, .int 0, .ref z17, .ref z18, .ref z43]))] H := hP
  have hD : va_D A [(h0, .inr (12, [.ref z0, .ref z1, .ref z2, .ref z3, .ref z4, .ref z5, .ref z20, .ref z21, .ref z22, .ref z23, .ref z24, .ref z25, .int 0, .ref z26, .ref z27, .ref z28, .int 9, .int 0, .int 0, .ref z6, .ref z29, .ref z7, .int 0, .int 2, .ref z19, .ref z8, .ref z9, .ref z10, .int 0, .ref z11, .int 0, .ref z30, .ref z31, .ref z32, .ref z33, .int 0, .ref z12, .int 0, .int 0, .ref z34, .ref z35, .ref z36, .ref z37, .int 0, .int 0, .int 0, .int 0, .ref z38, .int 0, .ref z39, .ref z40, .ref z41, .ref z42, .int 0, .ref z13, .ref z14, .ref z15, .ref z16, .int 0, .ref z17, .ref z18, .ref z43]))] := hD
  subst hr4
  have hP9 := hP.sub (ws' := [(h0, .inr (12, [.ref z0, .ref z1, .ref z2, .ref z3, .ref z4, .ref z5, .ref z20, .ref z21, .ref z22, .ref z23, .ref z24, .ref z25, .int 0, .ref z26, .ref z27, .ref z28, .int 9, .int 0, .int 0, .ref z6, .ref z29, .ref z7, .int 0, .int 2, .ref z19, .ref z8, .ref z9, .ref z10, .int 0, .ref z11, .int 0, .ref z30, .ref z31, .ref z32, .ref z33, .int 0, .ref z12, .int 0, .int 0, .ref z34, .ref z35, .ref z36, .ref z37, .int 0, .int 0, .int 0, .int 0, .ref z38, .int 0, .ref z39, .ref z40, .ref z41, .ref z42, .int 0, .ref z13, .ref z14, .ref z15, .ref z16, .int 0, .ref z17, .ref z18, .ref z43]))]) [0] rfl
  have hD9 := hD.sub (ws' := [(h0, .inr (12, [.ref z0, .ref z1, .ref z2, .ref z3, .ref z4, .ref z5, .ref z20, .ref z21, .ref z22, .ref z23, .ref z24, .ref z25, .int 0, .ref z26, .ref z27, .ref z28, .int 9, .int 0, .int 0, .ref z6, .ref z29, .ref z7, .int 0, .int 2, .ref z19, .ref z8, .ref z9, .ref z10, .int 0, .ref z11, .int 0, .ref z30, .ref z31, .ref z32, .ref z33, .int 0, .ref z12, .int 0, .int 0, .ref z34, .ref z35, .ref z36, .ref z37, .int 0, .int 0, .int 0, .int 0, .ref z38, .int 0, .ref z39, .ref z40, .ref z41, .ref z42, .int 0, .ref z13, .ref z14, .ref z15, .ref z16, .int 0, .ref z17, .ref z18, .ref z43]))]) [0] (by decide) rfl
  exact W.iret (v := (-1)) hx hb hr (fun t ht hW => ⟨⟨(-1), (), rfl, rfl, ⟨by rw [ht]; exact hP9, va_K.moved hW.alike hK, hD9⟩⟩, hS.F ht⟩) hS.2.2 dX12_passAt_22

set_option maxHeartbeats 4000000 in
set_option maxRecDepth 100000 in
/-- X12_passAt -/
theorem kX12_passAt_3_7_2 (l : Launch) (D : va_G) (G : tyG) (h0 : Nat) (z0 : Nat) (z1 : Nat) (z2 : Nat) (z3 : Nat) (z4 : Nat) (z5 : Nat) (z20 : Nat) (z21 : Nat) (z22 : Nat) (z23 : Nat) (z24 : Nat) (z25 : Nat) (z26 : Nat) (z27 : Nat) (z28 : Nat) (z6 : Nat) (z29 : Nat) (z7 : Nat) (z19 : Nat) (z8 : Nat) (z9 : Nat) (z10 : Nat) (z11 : Nat) (z30 : Nat) (z31 : Nat) (z32 : Nat) (z33 : Nat) (z12 : Nat) (z34 : Nat) (z35 : Nat) (z36 : Nat) (z37 : Nat) (z38 : Nat) (z39 : Nat) (z40 : Nat) (z41 : Nat) (z42 : Nat) (z13 : Nat) (z14 : Nat) (z15 : Nat) (z16 : Nat) (z17 : Nat) (z18 : Nat) (z43 : Nat) (sz : Nat) : Met l yX12_passAt wsX12_passAt ({ frames := 1, cells := 0, slots := 0, locals := 23 }) (va_Pc [.ref h0, .int 7, .int 3, .int 2] (wB D G sz [(h0, .inr (12, [.ref z0, .ref z1, .ref z2, .ref z3, .ref z4, .ref z5, .ref z20, .ref z21, .ref z22, .ref z23, .ref z24, .ref z25, .int 0, .ref z26, .ref z27, .ref z28, .int 9, .int 0, .int 0, .ref z6, .ref z29, .ref z7, .int 0, .int 2, .ref z19, .ref z8, .ref z9, .ref z10, .int 0, .ref z11, .int 0, .ref z30, .ref z31, .ref z32, .ref z33, .int 0, .ref z12, .int 0, .int 0, .ref z34, .ref z35, .ref z36, .ref z37, .int 0, .int 0, .int 0, .int 0, .ref z38, .int 0, .ref z39, .ref z40, .ref z41, .ref z42, .int 0, .ref z13, .ref z14, .ref z15, .ref z16, .int 0, .ref z17, .ref z18, .ref z43]))])) (va_Qi (fun (r : Int32) (_ : Unit) => r = (-1)) (fun _ t => wS D G (va_A [(h0, .inr (12, [.ref z0, .ref z1, .ref z2, .ref z3, .ref z4, .ref z5, .ref z20, .ref z21, .ref z22, .ref z23, .ref z24, .ref z25, .int 0, .ref z26, .ref z27, .ref z28, .int 9, .int 0, .int 0, .ref z6, .ref z29, .ref z7, .int 0, .int 2, .ref z19, .ref z8, .ref z9, .ref z10, .int 0, .ref z11, .int 0, .ref z30, .ref z31, .ref z32, .ref z33, .int 0, .ref z12, .int 0, .int 0, .ref z34, .ref z35, .ref z36, .ref z37, .int 0, .int 0, .int 0, .int 0, .ref z38, .int 0, .ref z39, .ref z40, .ref z41, .ref z42, .int 0, .ref z13, .ref z14, .ref z15, .ref z16, .int 0, .ref z17, .ref z18, .ref z43]))] sz) [(h0, .inr (12, [.ref z0, .ref z1, .ref z2, .ref z3, .ref z4, .ref z5, .ref z20, .ref z21, .ref z22, .ref z23, .ref z24, .ref z25, .int 0, .ref z26, .ref z27, .ref z28, .int 9, .int 0, .int 0, .ref z6, .ref z29, .ref z7, .int 0, .int 2, .ref z19, .ref z8, .ref z9, .ref z10, .int 0, .ref z11, .int 0, .ref z30, .ref z31, .ref z32, .ref z33, .int 0, .ref z12, .int 0, .int 0, .ref z34, .ref z35, .ref z36, .ref z37, .int 0, .int 0, .int 0, .int 0, .ref z38, .int 0, .ref z39, .ref z40, .ref z41, .ref z42, .int 0, .ref z13, .ref z14, .ref z15, .ref z16, .int 0, .ref z17, .ref z18, .ref z43]))] t) (va_A [(h0, .inr (12, [.ref z0, .ref z1, .ref z2, .ref z3, .ref z4, .ref z5, .ref z20, .ref z21, .ref z22, .ref z23, .ref z24, .ref z25, .int 0, .ref z26, .ref z27, .ref z28, .int 9, .int 0, .int 0, .ref z6, .ref z29, .ref z7, .int 0, .int 2, .ref z19, .ref z8, .ref z9, .ref z10, .int 0, .ref z11, .int 0, .ref z30, .ref z31, .ref z32, .ref z33, .int 0, .ref z12, .int 0, .int 0, .ref z34, .ref z35, .ref z36, .ref z37, .int 0, .int 0, .int 0, .int 0, .ref z38, .int 0, .ref z39, .ref z40, .ref z41, .ref z42, .int 0, .ref z13, .ref z14, .ref z15, .ref z16, .int 0, .ref z17, .ref z18, .ref z43]))] sz)) 0 0 (va_A [(h0, .inr (12, [.ref z0, .ref z1, .ref z2, .ref z3, .ref z4, .ref z5, .ref z20, .ref z21, .ref z22, .ref z23, .ref z24, .ref z25, .int 0, .ref z26, .ref z27, .ref z28, .int 9, .int 0, .int 0, .ref z6, .ref z29, .ref z7, .int 0, .int 2, .ref z19, .ref z8, .ref z9, .ref z10, .int 0, .ref z11, .int 0, .ref z30, .ref z31, .ref z32, .ref z33, .int 0, .ref z12, .int 0, .int 0, .ref z34, .ref z35, .ref z36, .ref z37, .int 0, .int 0, .int 0, .int 0, .ref z38, .int 0, .ref z39, .ref z40, .ref z41, .ref z42, .int 0, .ref z13, .ref z14, .ref z15, .ref z16, .int 0, .ref z17, .ref z18, .ref z43]))] sz) := by
  refine Met.ofW (cc := cX12_passAt) (maxL := 4) (ret := (some .int)) (by decide) rfl ?_
  intro p e s m args below meth c s₁ B hml hv
  obtain ⟨rfl, hsz, hP, hK, hD0, hN⟩ := hv
  have hx := B.exec
  have hb := B.bytes
  have hr := B.returns
  have hts := atoms_spec (ws := wsX12_passAt) B.pre
  have hown : s.vm.findClass RX12 = some m.cls := findClass_of_methodNamed B.named
  have hlocks := B.notSynchronized
  subst hsz
  have hD := hD0.self (sz := s.heap.size)
  generalize hAe : va_A [(h0, .inr (12, [.ref z0, .ref z1, .ref z2, .ref z3, .ref z4, .ref z5, .ref z20, .ref z21, .ref z22, .ref z23, .ref z24, .ref z25, .int 0, .ref z26, .ref z27, .ref z28, .int 9, .int 0, .int 0, .ref z6, .ref z29, .ref z7, .int 0, .int 2, .ref z19, .ref z8, .ref z9, .ref z10, .int 0, .ref z11, .int 0, .ref z30, .ref z31, .ref z32, .ref z33, .int 0, .ref z12, .int 0, .int 0, .ref z34, .ref z35, .ref z36, .ref z37, .int 0, .int 0, .int 0, .int 0, .ref z38, .int 0, .ref z39, .ref z40, .ref z41, .ref z42, .int 0, .ref z13, .ref z14, .ref z15, .ref z16, .int 0, .ref z17, .ref z18, .ref z43]))] s.heap.size = A at hD ⊢
  have hA : ∀ q : Nat, s.heap.size ≤ q → A q := fun q h => by rw [← hAe]; exact Or.inr h
  have hS : va_S A s.heap s.heap [] := va_S.rf
  have hP : va_P D vwCl [(h0, .inr (12, [.ref z0, .ref z1, .ref z2, .ref z3, .ref z4, .ref z5, .ref z20, .ref z21, .ref z22, .ref z23, .ref z24, .ref z25, .int 0, .ref z26, .ref z27, .ref z28, .int 9, .int 0, .int 0, .ref z6, .ref z29, .ref z7, .int 0, .int 2, .ref z19, .ref z8, .ref z9, .ref z10, .int 0, .ref z11, .int 0, .ref z30, .ref z31, .ref z32, .ref z33, .int 0, .ref z12, .int 0, .int 0, .ref z34, .ref z35, .ref z36, .ref z37, .int 0, .int 0, .int 0, .int 0, .ref z38, .int 0, .ref z39, .ref z40, .ref z41, .ref z42, .int 0, .ref z13, .ref z14, .ref z15, .ref z16, .int 0, .ref z17, .ref z18, .ref z43]))] s.heap := hP
  have hl := lv_entry ([.ref h0, .int 7, .int 3, .int 2]) (n := 4) (Nat.le_of_ble_eq_true rfl)
  rw [lg_entry_eq]
  generalize (lg_sl ([.ref h0, .int 7, .int 3, .int 2]) ++ List.replicate (4 - (lg_sl ([.ref h0, .int 7, .int 3, .int 2])).length) Slot.unset).toArray = ls at hl ⊢
  have hl : lv_has ls 4 [(0, .ref h0), (1, .int 7), (2, .int 3), (3, .int 2)] := hl
  refine lv_iload_n hx hb dX12_passAt_0 rfl (lv_at hl 1 rfl) ?_
  refine lv_aload_n hx hb dX12_passAt_1 rfl (lv_at hl 0 rfl) ?_
  have hPc := hP.sub (ws' := [(h0, .inr (12, [.ref z0, .ref z1, .ref z2, .ref z3, .ref z4, .ref z5, .ref z20, .ref z21, .ref z22, .ref z23, .ref z24, .ref z25, .int 0, .ref z26, .ref z27, .ref z28, .int 9, .int 0, .int 0, .ref z6, .ref z29, .ref z7, .int 0, .int 2, .ref z19, .ref z8, .ref z9, .ref z10, .int 0, .ref z11, .int 0, .ref z30, .ref z31, .ref z32, .ref z33, .int 0, .ref z12, .int 0, .int 0, .ref z34, .ref z35, .ref z36, .ref z37, .int 0, .int 0, .int 0, .int 0, .ref z38, .int 0, .ref z39, .ref z40, .ref z41, .ref z42, .int 0, .ref z13, .ref z14, .ref z15, .ref z16, .int 0, .ref z17, .ref z18, .ref z43]))]) [0] rfl
  have hDc := hD.sub (ws' := [(h0, .inr (12, [.ref z0, .ref z1, .ref z2, .ref z3, .ref z4, .ref z5, .ref z20, .ref z21, .ref z22, .ref z23, .ref z24, .ref z25, .int 0, .ref z26, .ref z27, .ref z28, .int 9, .int 0, .int 0, .ref z6, .ref z29, .ref z7, .int 0, .int 2, .ref z19, .ref z8, .ref z9, .ref z10, .int 0, .ref z11, .int 0, .ref z30, .ref z31, .ref z32, .ref z33, .int 0, .ref z12, .int 0, .int 0, .ref z34, .ref z35, .ref z36, .ref z37, .int 0, .int 0, .int 0, .int 0, .ref z38, .int 0, .ref z39, .ref z40, .ref z41, .ref z42, .int 0, .ref z13, .ref z14, .ref z15, .ref z16, .int 0, .ref z17, .ref z18, .ref z43]))]) [0] (by decide) rfl
  have hFc := va_free (wc := [(h0, .inr (12, [.ref z0, .ref z1, .ref z2, .ref z3, .ref z4, .ref z5, .ref z20, .ref z21, .ref z22, .ref z23, .ref z24, .ref z25, .int 0, .ref z26, .ref z27, .ref z28, .int 9, .int 0, .int 0, .ref z6, .ref z29, .ref z7, .int 0, .int 2, .ref z19, .ref z8, .ref z9, .ref z10, .int 0, .ref z11, .int 0, .ref z30, .ref z31, .ref z32, .ref z33, .int 0, .ref z12, .int 0, .int 0, .ref z34, .ref z35, .ref z36, .ref z37, .int 0, .int 0, .int 0, .int 0, .ref z38, .int 0, .ref z39, .ref z40, .ref z41, .ref z42, .int 0, .ref z13, .ref z14, .ref z15, .ref z16, .int 0, .ref z17, .ref z18, .ref z43]))]) hD hS hA [0] rfl
  refine va_calli (va_runV (As := []) (rest := [.int 7]) ⟨hx, hb, hml, hown, hts⟩ (kX12_gens l D G h0 z0 z1 z2 z3 z4 z5 z20 z21 z22 z23 z24 z25 z26 z27 z28 z6 z29 z7 z19 z8 z9 z10 z11 z30 z31 z32 z33 z12 z34 z35 z36 z37 z38 z39 z40 z41 z42 z13 z14 z15 z16 z17 z18 z43 0 s.heap.size) (cwV 0 hts gX12_passAt_X12_gens rfl rfl rfl (by decide +kernel) ⟨Nat.le_of_ble_eq_true rfl, Nat.le_of_ble_eq_true rfl⟩) ⟨wB_blind, va_recv hK hPc (ci := 12) (q0 := 0) rfl rfl, wB_pre hPc hK hDc hN⟩ rfl rfl hl.1 rfl (lv_room (Nat.le_of_ble_eq_true rfl)) dX12_passAt_2 ⟨Nat.le_of_ble_eq_true rfl, Nat.le_of_ble_eq_true rfl⟩) hS (fun q _ h => hFc q h) hFc (fun r1 u t H1 locs ht hvm hr1 hB hz1 hk1 hS => ?_)
  obtain ⟨hP1, hK1, hD1⟩ := hB
  rw [ht] at hP1
  obtain ⟨hP, hD⟩ := va_join (wr := []) (w1 := [(h0, .inr (12, [.ref z0, .ref z1, .ref z2, .ref z3, .ref z4, .ref z5, .ref z20, .ref z21, .ref z22, .ref z23, .ref z24, .ref z25, .int 0, .ref z26, .ref z27, .ref z28, .int 9, .int 0, .int 0, .ref z6, .ref z29, .ref z7, .int 0, .int 2, .ref z19, .ref z8, .ref z9, .ref z10, .int 0, .ref z11, .int 0, .ref z30, .ref z31, .ref z32, .ref z33, .int 0, .ref z12, .int 0, .int 0, .ref z34, .ref z35, .ref z36, .ref z37, .int 0, .int 0, .int 0, .int 0, .ref z38, .int 0, .ref z39, .ref z40, .ref z41, .ref z42, .int 0, .ref z13, .ref z14, .ref z15, .ref z16, .int 0, .ref z17, .ref z18, .ref z43]))]) hP hD [0] [] rfl rfl (by decide) (by decide) hk1 hFc hP1 hD1
  clear hPc hDc
  generalize H1 = H at hP hS ⊢
  have hP : va_P D vwCl [(h0, .inr (12, [.ref z0, .ref z1, .ref z2, .ref z3, .ref z4, .ref z5, .ref z20, .ref z21, .ref z22, .ref z23, .ref z24, .ref z25, .int 0, .ref z26, .ref z27, .ref z28, .int 9, .int 0, .int 0, .ref z6, .ref z29, .ref z7, .int 0, .int 2, .ref z19, .ref z8, .ref z9, .ref z10, .int 0, .ref z11, .int 0, .ref z30, .ref z31, .ref z32, .ref z33, .int 0, .ref z12, .int 0, .int 0, .ref z34, .ref z35, .ref z36, .ref z37, .int 0, .int 0, .int 0, .int 0, .ref z38, .int 0, .ref z39, .ref z40, .ref z41, .ref z42, .int 0, .ref z13, .ref z14, .ref z15, .ref z16, .int 0, .ref z17, .ref z18, .ref z43]))] H := hP
  have hD : va_D A [(h0, .inr (12, [.ref z0, .ref z1, .ref z2, .ref z3, .ref z4, .ref z5, .ref z20, .ref z21, .ref z22, .ref z23, .ref z24, .ref z25, .int 0, .ref z26, .ref z27, .ref z28, .int 9, .int 0, .int 0, .ref z6, .ref z29, .ref z7, .int 0, .int 2, .ref z19, .ref z8, .ref z9, .ref z10, .int 0, .ref z11, .int 0, .ref z30, .ref z31, .ref z32, .ref z33, .int 0, .ref z12, .int 0, .int 0, .ref z34, .ref z35, .ref z36, .ref z37, .int 0, .int 0, .int 0, .int 0, .ref z38, .int 0, .ref z39, .ref z40, .ref z41, .ref z42, .int 0, .ref z13, .ref z14, .ref z15, .ref z16, .int 0, .ref z17, .ref z18, .ref z43]))] := hD
  subst hr1
  refine lv_iload_n hx hb dX12_passAt_5 rfl (lv_at hl 2 rfl) ?_
  refine lv_iconst (v := 1) hx hb dX12_passAt_6 (by decide) ?_
  refine lv_isub hx hb dX12_passAt_7 ?_
  refine wk_i 2 (by decide) ?_
  refine lv_iload_n hx hb dX12_passAt_8 rfl (lv_at hl 3 rfl) ?_
  refine lv_isub hx hb dX12_passAt_9 ?_
  refine wk_i 0 (by decide) ?_
  have hPc := hP.sub (ws' := []) [] rfl
  have hDc := hD.sub (ws' := []) [] (by decide) rfl
  have hFc := va_free (wc := []) hD hS hA [] rfl
  refine va_calli (va_runS (As := [.int 2, .int 0]) (rest := [.int 7]) ⟨hx, hb, hml, hown, hts⟩ (kX12_power_0 l D G  H.size) (va_cwS 2 hts gX12_passAt_X12_power rfl rfl rfl (by decide +kernel) ⟨Nat.le_of_ble_eq_true rfl, Nat.le_of_ble_eq_true rfl⟩) ⟨wB_blind, wB_pre hPc hK hDc hN⟩ rfl rfl hl.1 rfl (lv_room (Nat.le_of_ble_eq_true rfl)) dX12_passAt_10 ⟨Nat.le_of_ble_eq_true rfl, Nat.le_of_ble_eq_true rfl⟩) hS (fun q _ h => hFc q h) hFc (fun r2 u t H1 locs ht hvm hr2 hB hz1 hk1 hS => ?_)
  obtain ⟨hP, hD⟩ := va_join (wr := [(h0, .inr (12, [.ref z0, .ref z1, .ref z2, .ref z3, .ref z4, .ref z5, .ref z20, .ref z21, .ref z22, .ref z23, .ref z24, .ref z25, .int 0, .ref z26, .ref z27, .ref z28, .int 9, .int 0, .int 0, .ref z6, .ref z29, .ref z7, .int 0, .int 2, .ref z19, .ref z8, .ref z9, .ref z10, .int 0, .ref z11, .int 0, .ref z30, .ref z31, .ref z32, .ref z33, .int 0, .ref z12, .int 0, .int 0, .ref z34, .ref z35, .ref z36, .ref z37, .int 0, .int 0, .int 0, .int 0, .ref z38, .int 0, .ref z39, .ref z40, .ref z41, .ref z42, .int 0, .ref z13, .ref z14, .ref z15, .ref z16, .int 0, .ref z17, .ref z18, .ref z43]))]) (w1 := []) hP hD [] [0] rfl rfl (by decide) (by decide) hk1 hFc wP_nil wD_nil
  clear hPc hDc
  generalize H1 = H at hP hS ⊢
  have hP : va_P D vwCl [(h0, .inr (12, [.ref z0, .ref z1, .ref z2, .ref z3, .ref z4, .ref z5, .ref z20, .ref z21, .ref z22, .ref z23, .ref z24, .ref z25, .int 0, .ref z26, .ref z27, .ref z28, .int 9, .int 0, .int 0, .ref z6, .ref z29, .ref z7, .int 0, .int 2, .ref z19, .ref z8, .ref z9, .ref z10, .int 0, .ref z11, .int 0, .ref z30, .ref z31, .ref z32, .ref z33, .int 0, .ref z12, .int 0, .int 0, .ref z34, .ref z35, .ref z36, .ref z37, .int 0, .int 0, .int 0, .int 0, .ref z38, .int 0, .ref z39, .ref z40, .ref z41, .ref z42, .int 0, .ref z13, .ref z14, .ref z15, .ref z16, .int 0, .ref z17, .ref z18, .ref z43]))] H := hP
  have hD : va_D A [(h0, .inr (12, [.ref z0, .ref z1, .ref z2, .ref z3, .ref z4, .ref z5, .ref z20, .ref z21, .ref z22, .ref z23, .ref z24, .ref z25, .int 0, .ref z26, .ref z27, .ref z28, .int 9, .int 0, .int 0, .ref z6, .ref z29, .ref z7, .int 0, .int 2, .ref z19, .ref z8, .ref z9, .ref z10, .int 0, .ref z11, .int 0, .ref z30, .ref z31, .ref z32, .ref z33, .int 0, .ref z12, .int 0, .int 0, .ref z34, .ref z35, .ref z36, .ref z37, .int 0, .int 0, .int 0, .int 0, .ref z38, .int 0, .ref z39, .ref z40, .ref z41, .ref z42, .int 0, .ref z13, .ref z14, .ref z15, .ref z16, .int 0, .ref z17, .ref z18, .ref z43]))] := hD
  subst hr2
  refine lv_idiv hx hb dX12_passAt_13 (by decide) ?_
  refine wk_i 7 (by decide) ?_
  refine lv_aload_n hx hb dX12_passAt_14 rfl (lv_at hl 0 rfl) ?_
  have hPc := hP.sub (ws' := [(h0, .inr (12, [.ref z0, .ref z1, .ref z2, .ref z3, .ref z4, .ref z5, .ref z20, .ref z21, .ref z22, .ref z23, .ref z24, .ref z25, .int 0, .ref z26, .ref z27, .ref z28, .int 9, .int 0, .int 0, .ref z6, .ref z29, .ref z7, .int 0, .int 2, .ref z19, .ref z8, .ref z9, .ref z10, .int 0, .ref z11, .int 0, .ref z30, .ref z31, .ref z32, .ref z33, .int 0, .ref z12, .int 0, .int 0, .ref z34, .ref z35, .ref z36, .ref z37, .int 0, .int 0, .int 0, .int 0, .ref z38, .int 0, .ref z39, .ref z40, .ref z41, .ref z42, .int 0, .ref z13, .ref z14, .ref z15, .ref z16, .int 0, .ref z17, .ref z18, .ref z43]))]) [0] rfl
  have hDc := hD.sub (ws' := [(h0, .inr (12, [.ref z0, .ref z1, .ref z2, .ref z3, .ref z4, .ref z5, .ref z20, .ref z21, .ref z22, .ref z23, .ref z24, .ref z25, .int 0, .ref z26, .ref z27, .ref z28, .int 9, .int 0, .int 0, .ref z6, .ref z29, .ref z7, .int 0, .int 2, .ref z19, .ref z8, .ref z9, .ref z10, .int 0, .ref z11, .int 0, .ref z30, .ref z31, .ref z32, .ref z33, .int 0, .ref z12, .int 0, .int 0, .ref z34, .ref z35, .ref z36, .ref z37, .int 0, .int 0, .int 0, .int 0, .ref z38, .int 0, .ref z39, .ref z40, .ref z41, .ref z42, .int 0, .ref z13, .ref z14, .ref z15, .ref z16, .int 0, .ref z17, .ref z18, .ref z43]))]) [0] (by decide) rfl
  have hFc := va_free (wc := [(h0, .inr (12, [.ref z0, .ref z1, .ref z2, .ref z3, .ref z4, .ref z5, .ref z20, .ref z21, .ref z22, .ref z23, .ref z24, .ref z25, .int 0, .ref z26, .ref z27, .ref z28, .int 9, .int 0, .int 0, .ref z6, .ref z29, .ref z7, .int 0, .int 2, .ref z19, .ref z8, .ref z9, .ref z10, .int 0, .ref z11, .int 0, .ref z30, .ref z31, .ref z32, .ref z33, .int 0, .ref z12, .int 0, .int 0, .ref z34, .ref z35, .ref z36, .ref z37, .int 0, .int 0, .int 0, .int 0, .ref z38, .int 0, .ref z39, .ref z40, .ref z41, .ref z42, .int 0, .ref z13, .ref z14, .ref z15, .ref z16, .int 0, .ref z17, .ref z18, .ref z43]))]) hD hS hA [0] rfl
  refine va_calli (va_runV (As := []) (rest := [.int 7]) ⟨hx, hb, hml, hown, hts⟩ (kX12_gens l D G h0 z0 z1 z2 z3 z4 z5 z20 z21 z22 z23 z24 z25 z26 z27 z28 z6 z29 z7 z19 z8 z9 z10 z11 z30 z31 z32 z33 z12 z34 z35 z36 z37 z38 z39 z40 z41 z42 z13 z14 z15 z16 z17 z18 z43 0 H.size) (cwV 0 hts gX12_passAt_X12_gens rfl rfl rfl (by decide +kernel) ⟨Nat.le_of_ble_eq_true rfl, Nat.le_of_ble_eq_true rfl⟩) ⟨wB_blind, va_recv hK hPc (ci := 12) (q0 := 0) rfl rfl, wB_pre hPc hK hDc hN⟩ rfl rfl hl.1 rfl (lv_room (Nat.le_of_ble_eq_true rfl)) dX12_passAt_15 ⟨Nat.le_of_ble_eq_true rfl, Nat.le_of_ble_eq_true rfl⟩) hS (fun q _ h => hFc q h) hFc (fun r3 u t H1 locs ht hvm hr3 hB hz1 hk1 hS => ?_)
  obtain ⟨hP1, hK1, hD1⟩ := hB
  rw [ht] at hP1
  obtain ⟨hP, hD⟩ := va_join (wr := []) (w1 := [(h0, .inr (12, [.ref z0, .ref z1, .ref z2, .ref z3, .ref z4, .ref z5, .ref z20, .ref z21, .ref z22, .ref z23, .ref z24, .ref z25, .int 0, .ref z26, .ref z27, .ref z28, .int 9, .int 0, .int 0, .ref z6, .ref z29, .ref z7, .int 0, .int 2, .ref z19, .ref z8, .ref z9, .ref z10, .int 0, .ref z11, .int 0, .ref z30, .ref z31, .ref z32, .ref z33, .int 0, .ref z12, .int 0, .int 0, .ref z34, .ref z35, .ref z36, .ref z37, .int 0, .int 0, .int 0, .int 0, .ref z38, .int 0, .ref z39, .ref z40, .ref z41, .ref z42, .int 0, .ref z13, .ref z14, .ref z15, .ref z16, .int 0, .ref z17, .ref z18, .ref z43]))]) hP hD [0] [] rfl rfl (by decide) (by decide) hk1 hFc hP1 hD1
  clear hPc hDc
  generalize H1 = H at hP hS ⊢
  have hP : va_P D vwCl [(h0, .inr (12, [.ref z0, .ref z1, .ref z2, .ref z3, .ref z4, .ref z5, .ref z20, .ref z21, .ref z22, .ref z23, .ref z24, .ref z25, .int 0, .ref z26, .ref z27, .ref z28, .int 9, .int 0, .int 0, .ref z6, .ref z29, .ref z7, .int 0, .int 2, .ref z19, .ref z8, .ref z9, .ref z10, .int 0, .ref z11, .int 0, .ref z30, .ref z31, .ref z32, .ref z33, .int 0, .ref z12, .int 0, .int 0, .ref z34, .ref z35, .ref z36, .ref z37, .int 0, .int 0, .int 0, .int 0, .ref z38, .int 0, .ref z39, .ref z40, .ref z41, .ref z42, .int 0, .ref z13, .ref z14, .ref z15, .ref z16, .int 0, .ref z17, .ref z18, .ref z43]))] H := hP
  have hD : va_D A [(h0, .inr (12, [.ref z0, .ref z1, .ref z2, .ref z3, .ref z4, .ref z5, .ref z20, .ref z21, .ref z22, .ref z23, .ref z24, .ref z25, .int 0, .ref z26, .ref z27, .ref z28, .int 9, .int 0, .int 0, .ref z6, .ref z29, .ref z7, .int 0, .int 2, .ref z19, .ref z8, .ref z9, .ref z10, .int 0, .ref z11, .int 0, .ref z30, .ref z31, .ref z32, .ref z33, .int 0, .ref z12, .int 0, .int 0, .ref z34, .ref z35, .ref z36, .ref z37, .int 0, .int 0, .int 0, .int 0, .ref z38, .int 0, .ref z39, .ref z40, .ref z41, .ref z42, .int 0, .ref z13, .ref z14, .ref z15, .ref z16, .int 0, .ref z17, .ref z18, .ref z43]))] := hD
  subst hr3
  refine lv_irem hx hb dX12_passAt_18 (by decide) ?_
  refine wk_i 1 (by decide) ?_
  have hPc := hP.sub (ws' := []) [] rfl
  have hDc := hD.sub (ws' := []) [] (by decide) rfl
  have hFc := va_free (wc := []) hD hS hA [] rfl
  refine va_calli (va_runS (As := [.int 1]) (rest := []) ⟨hx, hb, hml, hown, hts⟩ (kX12_passOf_1 l D G  H.size) (va_cwS 1 hts gX12_passAt_X12_passOf rfl rfl rfl (by decide +kernel) ⟨Nat.le_of_ble_eq_true rfl, Nat.le_of_ble_eq_true rfl⟩) ⟨wB_blind, wB_pre hPc hK hDc hN⟩ rfl rfl hl.1 rfl (lv_room (Nat.le_of_ble_eq_true rfl)) dX12_passAt_19 ⟨Nat.le_of_ble_eq_true rfl, Nat.le_of_ble_eq_true rfl⟩) hS (fun q _ h => hFc q h) hFc (fun r4 u t H1 locs ht hvm hr4 hB hz1 hk1 hS => ?_)
  obtain ⟨hP, hD⟩ := va_join (wr := [(h0, .inr (12, [.ref z0, .ref z1, .ref z2, .ref z3, .ref z4, .ref z5, .ref z20, .ref z21, .ref z22, .ref z23, .ref z24, .ref z25, .int 0, .ref z26, .ref z27, .ref z28, .int 9, .int 0, .int 0, .ref z6, .ref z29, .ref z7, .int 0, .int 2, .ref z19, .ref z8, .ref z9, .ref z10, .int 0, .ref z11, .int 0, .ref z30, .ref z31, .ref z32, .ref z33, .int 0, .ref z12, .int 0, .int 0, .ref z34, .ref z35, .ref z36, .ref z37, .int 0, .int 0, .int 0, .int 0, .ref z38, .int 0, .ref z39, .ref z40, .ref z41, .ref z42, .int 0, .ref z13, .ref z14, .ref z15, .ref z16, .int 0, .ref z17, .ref z18, .ref z43]))]) (w1 := []) hP hD [] [0] rfl rfl (by decide) (by decide) hk1 hFc wP_nil wD_nil
  clear hPc hDc
  generalize H1 = H at hP hS ⊢
  have hP : va_P D vwCl [(h0, .inr (12, [.ref z0, .ref z1, .ref z2, .ref z3, .ref z4, .ref z5, .ref z20, .ref z21, .ref z22, .ref z23, .ref z24, .ref z25, .int 0, .ref z26, .ref z27, .ref z28, .int 9, .int 0, .int 0, .ref z6, .ref z29, .ref z7, .int 0, .int 2, .ref z19, .ref z8, .ref z9, .ref z10, .int 0, .ref z11, .int 0, .ref z30, .ref z31, .ref z32, .ref z33, .int 0, .ref z12, .int 0, .int 0, .ref z34, .ref z35, .ref z36, .ref z37, .int 0, .int 0, .int 0, .int 0, .ref z38, .int 0, .ref z39, .ref z40, .ref z41, .ref z42, .int 0, .ref z13, .ref z14, .ref z15, .ref z16, .int 0, .ref z17, .ref z18, .ref z43]))] H := hP
  have hD : va_D A [(h0, .inr (12, [.ref z0, .ref z1, .ref z2, .ref z3, .ref z4, .ref z5, .ref z20, .ref z21, .ref z22, .ref z23, .ref z24, .ref z25, .int 0, .ref z26, .ref z27, .ref z28, .int 9, .int 0, .int 0, .ref z6, .ref z29, .ref z7, .int 0, .int 2, .ref z19, .ref z8, .ref z9, .ref z10, .int 0, .ref z11, .int 0, .ref z30, .ref z31, .ref z32, .ref z33, .int 0, .ref z12, .int 0, .int 0, .ref z34, .ref z35, .ref z36, .ref z37, .int 0, .int 0, .int 0, .int 0, .ref z38, .int 0, .ref z39, .ref z40, .ref z41, .ref z42, .int 0, .ref z13, .ref z14, .ref z15, .ref z16, .int 0, .ref z17, .ref z18, .ref z43]))] := hD
  subst hr4
  have hP9 := hP.sub (ws' := [(h0, .inr (12, [.ref z0, .ref z1, .ref z2, .ref z3, .ref z4, .ref z5, .ref z20, .ref z21, .ref z22, .ref z23, .ref z24, .ref z25, .int 0, .ref z26, .ref z27, .ref z28, .int 9, .int 0, .int 0, .ref z6, .ref z29, .ref z7, .int 0, .int 2, .ref z19, .ref z8, .ref z9, .ref z10, .int 0, .ref z11, .int 0, .ref z30, .ref z31, .ref z32, .ref z33, .int 0, .ref z12, .int 0, .int 0, .ref z34, .ref z35, .ref z36, .ref z37, .int 0, .int 0, .int 0, .int 0, .ref z38, .int 0, .ref z39, .ref z40, .ref z41, .ref z42, .int 0, .ref z13, .ref z14, .ref z15, .ref z16, .int 0, .ref z17, .ref z18, .ref z43]))]) [0] rfl
  have hD9 := hD.sub (ws' := [(h0, .inr (12, [.ref z0, .ref z1, .ref z2, .ref z3, .ref z4, .ref z5, .ref z20, .ref z21, .ref z22, .ref z23, .ref z24, .ref z25, .int 0, .ref z26, .ref z27, .ref z28, .int 9, .int 0, .int 0, .ref z6, .ref z29, .ref z7, .int 0, .int 2, .ref z19, .ref z8, .ref z9, .ref z10, .int 0, .ref z11, .int 0, .ref z30, .ref z31, .ref z32, .ref z33, .int 0, .ref z12, .int 0, .int 0, .ref z34, .ref z35, .ref z36, .ref z37, .int 0, .int 0, .int 0, .int 0, .ref z38, .int 0, .ref z39, .ref z40, .ref z41, .ref z42, .int 0, .ref z13, .ref z14, .ref z15, .ref z16, .int 0, .ref z17, .ref z18, .ref z43]))]) [0] (by decide) rfl
  exact W.iret (v := (-1)) hx hb hr (fun t ht hW => ⟨⟨(-1), (), rfl, rfl, ⟨by rw [ht]; exact hP9, va_K.moved hW.alike hK, hD9⟩⟩, hS.F ht⟩) hS.2.2 dX12_passAt_22
