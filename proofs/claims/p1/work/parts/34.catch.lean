section VXC
variable {p : Program} {l : Launch} {e : Env} {R : Room} {s : State} {m : MethodId} {args : Array Value} {below : List Frame} {meth : Method} {c : Code} {H : Heap} {locs : List Loc} {cells slots : Nat} {Q : State → Prop} {pc : Nat} {ls : Array Slot} {rest : List Value}
/-- caught by the row x of this method's table; the rows ahead don't take it -/
theorem vx_catch {own name : String} {E : String} {ce : Cell} {q : Addr} (hown : s.vm.findClass own = some m.cls) (pre : List ExceptionTableEntry) (x : ExceptionTableEntry) (suf : List ExceptionTableEntry) (hsplit : c.exceptionTable.toList = pre ++ x :: suf)
    (hpass : ∀ z ∈ pre, covers z pc = false ∨ (z.catchType ≠ 0 ∧ ∃ nm : String, (Cond.classLink own z.catchType nm).before args s = true ∧ va_Nc E nm s)) (hx : covers x pc = true) (h0 : x.catchType ≠ 0)
    (hlink : (Cond.classLink own x.catchType name).before args s = true) (hcast : (Cond.castable E name).before args s = true) (hcell : H[q]? = some ce) (hv : ce.vm = .none) (hcl : s.vm.findClass E = some ce.cls)
    (kk : W p l e R s m args below meth c H locs cells slots Q (F0 m x.handlerPc ls [.ref q])) : vx_W p l e R s m args below meth c H locs cells slots Q (F0 m pc ls rest) q := by
  intro T hT X
  have hpl : e.platform.magicAccessors = ({} : Platform).magicAccessors := by rw [X.admits.platform]
  obtain ⟨c3, c4, hc3, hc4, hasg⟩ := Cond.castable_spec hcast
  cases Option.some.inj (hc3.symm.trans hcl)
  obtain ⟨c5, hc5, hcl5⟩ := Cond.classLink_spec hown hlink e.platform hpl
  cases Option.some.inj (hc4.symm.trans hc5)
  obtain ⟨vm', X', st⟩ := Stand.thenCaughtThrough X q (g := F0 m pc ls rest) rfl (Steps.refl _) (by rw [hT]; exact hcell) (by rw [hv]; rfl) (by obtain ⟨k9, h9, -⟩ := Vm.findClass_spec hcl; exact ⟨k9, h9⟩) pre x suf hsplit
    (fun z hz => by
      rcases hpass z hz with h | ⟨hz0, nm, hl1, hn1⟩
      · exact Or.inl h
      · obtain ⟨c6, hc6, hcl6⟩ := Cond.classLink_spec hown hl1 e.platform hpl
        obtain ⟨a8, b8, h1, h2, h3⟩ := hn1
        cases Option.some.inj (h1.symm.trans hcl)
        cases Option.some.inj (h2.symm.trans hc6)
        exact Or.inr ⟨hz0, _, hcl6, h3⟩) hx (Or.inr ⟨h0, c4, hcl5, hasg⟩)
  obtain ⟨t, a1, b1⟩ := kk (T.setVm vm') hT X'
  exact ⟨t, st.trans a1, b1⟩
end VXC
/-! the class's own exception -/
abbrev nsE : String := "java/util/NoSuchElementException"
abbrev nsN : List String := ["java/lang/RuntimeException", "java/lang/Exception"]
def nsI (n : String) : MethodName := ⟨n, "<init>", "()V"⟩
def nsW : List Cond := [Cond.castable nsE nsE, Cond.declares (nsI "java/lang/RuntimeException"), Cond.declares (nsI "java/lang/Exception"), Cond.declares (nsI "java/lang/Throwable")]
theorem nsB : ∀ w ∈ (vx_at0 RX11 150 nsE nsN).filter (fun w => !goodWord w), w ∈ nsW := by decide +kernel
theorem nsO : ∀ w ∈ Cond.classLink RX11 148 nsE :: Cond.initialized nsE :: vx_at0 RX11 150 nsE nsN, vx_ot w = true := by decide +kernel
def wX (A : Nat → Prop) (U : State) : Prop := (va_Nw (.castable nsE nsE) U ∧ va_Nw (.declares (nsI "java/lang/RuntimeException")) U ∧ va_Nw (.declares (nsI "java/lang/Exception")) U ∧ va_Nw (.declares (nsI "java/lang/Throwable")) U) ∧ vx_Zq Bundle.tN "UNASSIGNED_STACK" Bundle.steD A U U.heap ∧ vx_Zq Bundle.tN "SUPPRESSED_SENTINEL" Bundle.listD A U U.heap
theorem wX.next {A B : Nat → Prop} {s U : State} {H : Heap} {locs : List Loc} (h : wX A s) (hS : va_S A s.heap H locs) (hU : U.heap = H) (hW : s.WarmedH U.vm) (hF : ∀ q, B q → A q) : wX B U := by
  obtain ⟨h1, h2, h3⟩ := h
  unfold wX
  rw [hU]
  exact ⟨⟨va_Nw.warmC hW h1.1, va_Nw.warmD hW h1.2.1, va_Nw.warmD hW h1.2.2.1, va_Nw.warmD hW h1.2.2.2⟩, ((h2.moved hW.alike).kept (fun a ha hn => hS.2.1 a ha hn)).narrow hF, ((h3.moved hW.alike).kept (fun a ha hn => hS.2.1 a ha hn)).narrow hF⟩
theorem wX.call {A : Nat → Prop} {U : State} {g : JFrame} {mk : MethodId} {a : Array Value} (h : wX A U) : wX A (U.calling g mk a) :=
  ⟨⟨va_Nw.same rfl rfl h.1.1, va_Nw.same rfl rfl h.1.2.1, va_Nw.same rfl rfl h.1.2.2.1, va_Nw.same rfl rfl h.1.2.2.2⟩, vx_Zq.moved (u := U) (U := U.calling g mk a) (Vm.Alike.refl U.vm) h.2.1, vx_Zq.moved (u := U) (U := U.calling g mk a) (Vm.Alike.refl U.vm) h.2.2⟩
theorem wBX_blind {D : va_G} {G : tyG} {sz : Nat} {ws : va_W} {av : List Value} {A : Nat → Prop} : FrameBlind (va_Pc av (fun U => wB D G sz ws U ∧ wX A U)) := fun a U g mk q => by
  obtain ⟨q0, q1, q2⟩ := q
  obtain ⟨q3, q4⟩ := wB_blind (D := D) (G := G) (sz := sz) (ws := ws) (av := av) a U g mk ⟨q0, q1⟩
  exact ⟨q3, q4, q2.call⟩
theorem wBX_pre {D : va_G} {G : tyG} {ws : va_W} {av : List Value} {s : State} {H : Heap} {A : Nat → Prop} {locs : List Loc} (hP : va_P D vwCl ws H) (hK : va_K D vwCl (tyF G) s) (hD : va_D A ws) (hN : wN s) (hZ : wX A s) (hS : va_S A s.heap H locs) (hF : ∀ q, va_A ws H.size q → A q) : ∀ U : State, U.heap = H → s.WarmedH U.vm → va_Pc av (fun U => wB D G H.size ws U ∧ wX (va_A ws H.size) U) av.toArray U := fun U hU hW => by
  obtain ⟨q3, q4⟩ := wB_pre (av := av) hP hK hD hN U hU hW
  exact ⟨q3, q4, hZ.next hS hU hW hF⟩
theorem wX.at {A : Nat → Prop} {U : State} {args : Array Value} (h : wX A U) : ∀ w ∈ nsW, w.before args U = true :=
  vx_c (va_Nw.use rfl h.1.1) (vx_c (va_Nw.use rfl h.1.2.1) (vx_c (va_Nw.use rfl h.1.2.2.1) (vx_c (va_Nw.use rfl h.1.2.2.2) vx_n)))
