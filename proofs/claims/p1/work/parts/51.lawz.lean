def R_law : String := "PuppetBridgeLaw"
def lw_P (b : Addr) (xs : List Int32) (args : Array Value) (s : State) : Prop := args = #[.ref b] ∧ s.IntsAt b xs ∧ xs.length ≤ 7 ∧ (Jvm.Cond.and given_1 narrow_1).before args s = true
def lw_Q (_ : Array Value) (s : State) (o : Outcome) (t : State) : Prop := o = .returned (some (.int 1)) ∧ Framed s o t [] 600002 7302232
def lw_Z (below : List Frame) (a : Array Value) (s : State) : State → Prop := fun t => ∃ o, t.status = .running ∧ Ended t below o ∧ lw_Q a s o t
/-- the law's own end, with 1 on the stack, nothing written that was there before, its room as the claim has it -/
theorem lw_ret {p : Program} {l : Launch} {e : Env} {s : State} {m : MethodId} {below : List Frame} {meth : Method} {c : Code} {b : Nat} (hx : p.tables.exec = Jvm.exec) (hb : c.code = code) (hr : meth.sig.returnType = ret) (hlocks : meth.locks = false) {pc : Nat} {H : Heap} {ls : Array Slot} (hdg : decode code pc = .ok (.ireturn, 1)) : W p l e room_1 s m #[Value.ref b] below meth c H [] 600002 7302232 (lw_Z below #[Value.ref b] s) (F0 m pc ls [.int 1]) := by
  intro T hT X
  obtain ⟨fs, hret, hrun, hended, hW, hframe⟩ := X.leave (v := some (.int 1)) (hlocks := hlocks) (fun h => by rw [hr] at h; cases h)
  have hmeth' : T.vm.method? m = some meth := X.method'
  refine ⟨T.setFrames fs, ?_, .returned (some (.int 1)), hrun, hended, rfl, ⟨_, rfl⟩, hW, hframe⟩
  jvm_step X.here [X.here.top, hx, hb, hdg, hmeth', hr, ret, narrow_b1]
  (try refine ⟨rfl, ?_⟩); (try refine ⟨rfl, ?_⟩)
  first | (intro acts; rw [hret _ acts rfl rfl rfl]) | rw [hret _ _ rfl rfl rfl]
  exact Steps.refl _
/-- what holds at the law's entry: the machine, the code, the tables' words (any of lw_tbl by 'hts w (by decide +kernel)'), the script of L ints xs at the cell b, what the Statement gives of the start (any of its parts by flat_of_before) -/
def lw_At (p : Program) (s : State) (m : MethodId) (meth : Method) (c : Code) (b L : Nat) (xs : Nat → Int32) : Prop :=
  p.tables.exec = Jvm.exec ∧ c.code = code ∧ meth.sig.returnType = ret ∧ c.maxLocals = 8 ∧ s.vm.findClass R_law = some m.cls ∧ (∀ w ∈ lw_tbl, w.before #[Value.ref b] s = true) ∧ va_X b L xs s s.heap ∧ b < s.heap.size ∧ meth.locks = false ∧ (Jvm.Cond.and given_1 narrow_1).before #[Value.ref b] s = true
set_option maxRecDepth 100000 in
set_option maxHeartbeats 4000000 in
theorem law_Z {args : Array Value} {s : State} {A : Nat → Prop} (hts : ∀ w ∈ lw_tbl, w.before args s = true) (hgv : (Jvm.Cond.and given_1 narrow_1).before args s = true) (hnA : ∀ q : Nat, q < s.heap.size → ¬ A q) : ∃ (tx ty : Nat) (gx gy : Nat → Int32), wZ A tx ty gx gy s := by
  have hs := flat_of_before _ hgv
  obtain ⟨tx, ex, Tx⟩ := va_Tof (tm := .static "PuppetBridge" "WAY_X" "[I") (ty := .int) (N := 16) (f := fun j => .int (tI [0, 38, 71, 92, 100, 92, 71, 38, 0, (-38), (-71), (-92), (-100), (-92), (-71), (-38)] j)) (A := A) (by decide) (hs (.arrayOf (.static "PuppetBridge" "WAY_X" "[I") .int) (by decide +kernel)) (va_eqt (hs (.eq (.length (.static "PuppetBridge" "WAY_X" "[I")) (.int 16)) (by decide +kernel))) (fun j hj => by
    match j, hj with
    | 0, _ => exact va_eqt (hs (.eq (.elem (.static "PuppetBridge" "WAY_X" "[I") (.int 0)) (.int 0)) (by decide +kernel))
    | 1, _ => exact va_eqt (hs (.eq (.elem (.static "PuppetBridge" "WAY_X" "[I") (.int 1)) (.int 38)) (by decide +kernel))
    | 2, _ => exact va_eqt (hs (.eq (.elem (.static "PuppetBridge" "WAY_X" "[I") (.int 2)) (.int 71)) (by decide +kernel))
    | 3, _ => exact va_eqt (hs (.eq (.elem (.static "PuppetBridge" "WAY_X" "[I") (.int 3)) (.int 92)) (by decide +kernel))
    | 4, _ => exact va_eqt (hs (.eq (.elem (.static "PuppetBridge" "WAY_X" "[I") (.int 4)) (.int 100)) (by decide +kernel))
    | 5, _ => exact va_eqt (hs (.eq (.elem (.static "PuppetBridge" "WAY_X" "[I") (.int 5)) (.int 92)) (by decide +kernel))
    | 6, _ => exact va_eqt (hs (.eq (.elem (.static "PuppetBridge" "WAY_X" "[I") (.int 6)) (.int 71)) (by decide +kernel))
    | 7, _ => exact va_eqt (hs (.eq (.elem (.static "PuppetBridge" "WAY_X" "[I") (.int 7)) (.int 38)) (by decide +kernel))
    | 8, _ => exact va_eqt (hs (.eq (.elem (.static "PuppetBridge" "WAY_X" "[I") (.int 8)) (.int 0)) (by decide +kernel))
    | 9, _ => exact va_eqt (hs (.eq (.elem (.static "PuppetBridge" "WAY_X" "[I") (.int 9)) (.int (-38))) (by decide +kernel))
    | 10, _ => exact va_eqt (hs (.eq (.elem (.static "PuppetBridge" "WAY_X" "[I") (.int 10)) (.int (-71))) (by decide +kernel))
    | 11, _ => exact va_eqt (hs (.eq (.elem (.static "PuppetBridge" "WAY_X" "[I") (.int 11)) (.int (-92))) (by decide +kernel))
    | 12, _ => exact va_eqt (hs (.eq (.elem (.static "PuppetBridge" "WAY_X" "[I") (.int 12)) (.int (-100))) (by decide +kernel))
    | 13, _ => exact va_eqt (hs (.eq (.elem (.static "PuppetBridge" "WAY_X" "[I") (.int 13)) (.int (-92))) (by decide +kernel))
    | 14, _ => exact va_eqt (hs (.eq (.elem (.static "PuppetBridge" "WAY_X" "[I") (.int 14)) (.int (-71))) (by decide +kernel))
    | 15, _ => exact va_eqt (hs (.eq (.elem (.static "PuppetBridge" "WAY_X" "[I") (.int 15)) (.int (-38))) (by decide +kernel))
    | j + 16, h9 => omega) hnA
  have Zx := va_Zof (A := A) (hts (.laysStatic "PuppetBridge" "WAY_X" "[I") (by decide +kernel)) (hts (.initialized "PuppetBridge") (by decide +kernel)) ex hnA
  obtain ⟨ty, ey, Ty⟩ := va_Tof (tm := .static "PuppetBridge" "WAY_Y" "[I") (ty := .int) (N := 16) (f := fun j => .int (tI [100, 92, 71, 38, 0, (-38), (-71), (-92), (-100), (-92), (-71), (-38), 0, 38, 71, 92] j)) (A := A) (by decide) (hs (.arrayOf (.static "PuppetBridge" "WAY_Y" "[I") .int) (by decide +kernel)) (va_eqt (hs (.eq (.length (.static "PuppetBridge" "WAY_Y" "[I")) (.int 16)) (by decide +kernel))) (fun j hj => by
    match j, hj with
    | 0, _ => exact va_eqt (hs (.eq (.elem (.static "PuppetBridge" "WAY_Y" "[I") (.int 0)) (.int 100)) (by decide +kernel))
    | 1, _ => exact va_eqt (hs (.eq (.elem (.static "PuppetBridge" "WAY_Y" "[I") (.int 1)) (.int 92)) (by decide +kernel))
    | 2, _ => exact va_eqt (hs (.eq (.elem (.static "PuppetBridge" "WAY_Y" "[I") (.int 2)) (.int 71)) (by decide +kernel))
    | 3, _ => exact va_eqt (hs (.eq (.elem (.static "PuppetBridge" "WAY_Y" "[I") (.int 3)) (.int 38)) (by decide +kernel))
    | 4, _ => exact va_eqt (hs (.eq (.elem (.static "PuppetBridge" "WAY_Y" "[I") (.int 4)) (.int 0)) (by decide +kernel))
    | 5, _ => exact va_eqt (hs (.eq (.elem (.static "PuppetBridge" "WAY_Y" "[I") (.int 5)) (.int (-38))) (by decide +kernel))
    | 6, _ => exact va_eqt (hs (.eq (.elem (.static "PuppetBridge" "WAY_Y" "[I") (.int 6)) (.int (-71))) (by decide +kernel))
    | 7, _ => exact va_eqt (hs (.eq (.elem (.static "PuppetBridge" "WAY_Y" "[I") (.int 7)) (.int (-92))) (by decide +kernel))
    | 8, _ => exact va_eqt (hs (.eq (.elem (.static "PuppetBridge" "WAY_Y" "[I") (.int 8)) (.int (-100))) (by decide +kernel))
    | 9, _ => exact va_eqt (hs (.eq (.elem (.static "PuppetBridge" "WAY_Y" "[I") (.int 9)) (.int (-92))) (by decide +kernel))
    | 10, _ => exact va_eqt (hs (.eq (.elem (.static "PuppetBridge" "WAY_Y" "[I") (.int 10)) (.int (-71))) (by decide +kernel))
    | 11, _ => exact va_eqt (hs (.eq (.elem (.static "PuppetBridge" "WAY_Y" "[I") (.int 11)) (.int (-38))) (by decide +kernel))
    | 12, _ => exact va_eqt (hs (.eq (.elem (.static "PuppetBridge" "WAY_Y" "[I") (.int 12)) (.int 0)) (by decide +kernel))
    | 13, _ => exact va_eqt (hs (.eq (.elem (.static "PuppetBridge" "WAY_Y" "[I") (.int 13)) (.int 38)) (by decide +kernel))
    | 14, _ => exact va_eqt (hs (.eq (.elem (.static "PuppetBridge" "WAY_Y" "[I") (.int 14)) (.int 71)) (by decide +kernel))
    | 15, _ => exact va_eqt (hs (.eq (.elem (.static "PuppetBridge" "WAY_Y" "[I") (.int 15)) (.int 92)) (by decide +kernel))
    | j + 16, h9 => omega) hnA
  have Zy := va_Zof (A := A) (hts (.laysStatic "PuppetBridge" "WAY_Y" "[I") (by decide +kernel)) (hts (.initialized "PuppetBridge") (by decide +kernel)) ey hnA
  exact ⟨tx, ty, tI [0, 38, 71, 92, 100, 92, 71, 38, 0, (-38), (-71), (-92), (-100), (-92), (-71), (-38)], tI [100, 92, 71, 38, 0, (-38), (-71), (-92), (-100), (-92), (-71), (-38), 0, 38, 71, 92], Zx, Tx, Zy, Ty⟩
set_option maxRecDepth 100000 in
set_option maxHeartbeats 4000000 in
theorem law_F {args : Array Value} {s : State} {A : Nat → Prop} (hts : ∀ w ∈ lw_tbl, w.before args s = true) (hgv : (Jvm.Cond.and given_1 narrow_1).before args s = true) (hnA : ∀ q : Nat, q < s.heap.size → ¬ A q) : ∃ tf : Nat, wF A tf s := by
  have hs := flat_of_before _ hgv
  obtain ⟨tf, ef, Tf⟩ := va_Tof (tm := .static "PuppetBridge$Bridge" "FARTHEST" "[I") (ty := .int) (N := 7) (f := fun j => .int (tI [5, 6, 9, 14, 22, 35, 56] j)) (A := A) (by decide) (hs (.arrayOf (.static "PuppetBridge$Bridge" "FARTHEST" "[I") .int) (by decide +kernel)) (va_eqt (hs (.eq (.length (.static "PuppetBridge$Bridge" "FARTHEST" "[I")) (.int 7)) (by decide +kernel))) (fun j hj => by
    match j, hj with
    | 0, _ => exact va_eqt (hs (.eq (.elem (.static "PuppetBridge$Bridge" "FARTHEST" "[I") (.int 0)) (.int 5)) (by decide +kernel))
    | 1, _ => exact va_eqt (hs (.eq (.elem (.static "PuppetBridge$Bridge" "FARTHEST" "[I") (.int 1)) (.int 6)) (by decide +kernel))
    | 2, _ => exact va_eqt (hs (.eq (.elem (.static "PuppetBridge$Bridge" "FARTHEST" "[I") (.int 2)) (.int 9)) (by decide +kernel))
    | 3, _ => exact va_eqt (hs (.eq (.elem (.static "PuppetBridge$Bridge" "FARTHEST" "[I") (.int 3)) (.int 14)) (by decide +kernel))
    | 4, _ => exact va_eqt (hs (.eq (.elem (.static "PuppetBridge$Bridge" "FARTHEST" "[I") (.int 4)) (.int 22)) (by decide +kernel))
    | 5, _ => exact va_eqt (hs (.eq (.elem (.static "PuppetBridge$Bridge" "FARTHEST" "[I") (.int 5)) (.int 35)) (by decide +kernel))
    | 6, _ => exact va_eqt (hs (.eq (.elem (.static "PuppetBridge$Bridge" "FARTHEST" "[I") (.int 6)) (.int 56)) (by decide +kernel))
    | j + 7, h9 => omega) hnA
  have Zf := va_Zof (A := A) (hts (.laysStatic "PuppetBridge$Bridge" "FARTHEST" "[I") (by decide +kernel)) (hts (.initialized "PuppetBridge$Bridge") (by decide +kernel)) ef hnA
  exact ⟨tf, Zf, Tf⟩
set_option maxRecDepth 100000 in
set_option maxHeartbeats 4000000 in
theorem law_X {args : Array Value} {s : State} {A : Nat → Prop} (hts : ∀ w ∈ lw_tbl, w.before args s = true) (hgv : (Jvm.Cond.and given_1 narrow_1).before args s = true) (hnA : ∀ q : Nat, q < s.heap.size → ¬ A q) : wX A s := by
  have hs := flat_of_before _ hgv
  exact ⟨⟨va_Nw.of rfl (hts (.castable nsE nsE) (by decide +kernel)), va_Nw.of rfl (hts (.declares (nsI "java/lang/RuntimeException")) (by decide +kernel)), va_Nw.of rfl (hts (.declares (nsI "java/lang/Exception")) (by decide +kernel)), va_Nw.of rfl (hts (.declares (nsI "java/lang/Throwable")) (by decide +kernel))⟩, vx_Zqof (hts (.laysStatic Bundle.tN "UNASSIGNED_STACK" Bundle.steD) (by decide +kernel)) (hts (.initialized Bundle.tN) (by decide +kernel)) (hs (.isRef (.static Bundle.tN "UNASSIGNED_STACK" Bundle.steD)) (by decide +kernel)) hnA, vx_Zqof (hts (.laysStatic Bundle.tN "SUPPRESSED_SENTINEL" Bundle.listD) (by decide +kernel)) (hts (.initialized Bundle.tN) (by decide +kernel)) (hs (.isRef (.static Bundle.tN "SUPPRESSED_SENTINEL" Bundle.listD)) (by decide +kernel)) hnA⟩
theorem wk_L7 {L : Nat} {a v : Int32} (hL : L ≤ 7) (e1 : a = Int32.ofNat L) (e2 : v = a - 7) (c : ¬ v < 0) : L = 7 := by
  subst e1
  subst e2
  rcases (show L = 0 ∨ L = 1 ∨ L = 2 ∨ L = 3 ∨ L = 4 ∨ L = 5 ∨ L = 6 ∨ L = 7 by omega) with rfl | rfl | rfl | rfl | rfl | rfl | rfl | rfl
  · exact absurd (by decide) c
  · exact absurd (by decide) c
  · exact absurd (by decide) c
  · exact absurd (by decide) c
  · exact absurd (by decide) c
  · exact absurd (by decide) c
  · exact absurd (by decide) c
  · rfl
