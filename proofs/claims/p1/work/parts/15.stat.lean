/-! the class's own static tables, outside of what a call may write -/
def wZ (A : Nat → Prop) (tx ty : Nat) (gx gy : Nat → Int32) (U : State) : Prop := va_Z "PuppetBridge" "WAY_X" "[I" (.ref tx) A U U.heap ∧ va_T .int tx 16 (fun j => .int (gx j)) A U U.heap ∧ va_Z "PuppetBridge" "WAY_Y" "[I" (.ref ty) A U U.heap ∧ va_T .int ty 16 (fun j => .int (gy j)) A U U.heap
theorem wZ.next {A B : Nat → Prop} {tx ty : Nat} {gx gy : Nat → Int32} {s U : State} {H : Heap} {locs : List Loc} (h : wZ A tx ty gx gy s) (hS : va_S A s.heap H locs) (hU : U.heap = H) (hW : s.WarmedH U.vm) (hF : ∀ q, B q → A q) : wZ B tx ty gx gy U := by
  obtain ⟨h1, h2, h3, h4⟩ := h
  unfold wZ
  rw [hU]
  exact ⟨((h1.moved hW.alike).kept (fun a ha hn => hS.2.1 a ha hn)).narrow hF, ((h2.moved hW.alike).kept (fun a ha hn => hS.2.1 a ha hn)).narrow hF, ((h3.moved hW.alike).kept (fun a ha hn => hS.2.1 a ha hn)).narrow hF, ((h4.moved hW.alike).kept (fun a ha hn => hS.2.1 a ha hn)).narrow hF⟩
theorem wZ.call {A : Nat → Prop} {tx ty : Nat} {gx gy : Nat → Int32} {U : State} {g : JFrame} {mk : MethodId} {a : Array Value} (h : wZ A tx ty gx gy U) : wZ A tx ty gx gy (U.calling g mk a) :=
  ⟨va_Z.moved (u := U) (U := U.calling g mk a) (Vm.Alike.refl U.vm) h.1, va_T.moved (u := U) (U := U.calling g mk a) (Vm.Alike.refl U.vm) h.2.1, va_Z.moved (u := U) (U := U.calling g mk a) (Vm.Alike.refl U.vm) h.2.2.1, va_T.moved (u := U) (U := U.calling g mk a) (Vm.Alike.refl U.vm) h.2.2.2⟩
def wF (A : Nat → Prop) (tf : Nat) (U : State) : Prop := va_Z "PuppetBridge$Bridge" "FARTHEST" "[I" (.ref tf) A U U.heap ∧ va_T .int tf 7 (fun j => .int (tI [5, 6, 9, 14, 22, 35, 56] j)) A U U.heap
theorem wF.next {A B : Nat → Prop} {tf : Nat} {s U : State} {H : Heap} {locs : List Loc} (h : wF A tf s) (hS : va_S A s.heap H locs) (hU : U.heap = H) (hW : s.WarmedH U.vm) (hF : ∀ q, B q → A q) : wF B tf U := by
  obtain ⟨h1, h2⟩ := h
  unfold wF
  rw [hU]
  exact ⟨((h1.moved hW.alike).kept (fun a ha hn => hS.2.1 a ha hn)).narrow hF, ((h2.moved hW.alike).kept (fun a ha hn => hS.2.1 a ha hn)).narrow hF⟩
theorem wF.call {A : Nat → Prop} {tf : Nat} {U : State} {g : JFrame} {mk : MethodId} {a : Array Value} (h : wF A tf U) : wF A tf (U.calling g mk a) :=
  ⟨va_Z.moved (u := U) (U := U.calling g mk a) (Vm.Alike.refl U.vm) h.1, va_T.moved (u := U) (U := U.calling g mk a) (Vm.Alike.refl U.vm) h.2⟩
theorem wBZ_blind {D : va_G} {G : tyG} {sz : Nat} {ws : va_W} {av : List Value} {A : Nat → Prop} {tx ty : Nat} {gx gy : Nat → Int32} : FrameBlind (va_Pc av (fun U => wB D G sz ws U ∧ wZ A tx ty gx gy U)) := fun a U g mk q => by
  obtain ⟨q0, q1, q2⟩ := q
  obtain ⟨q3, q4⟩ := wB_blind (D := D) (G := G) (sz := sz) (ws := ws) (av := av) a U g mk ⟨q0, q1⟩
  exact ⟨q3, q4, q2.call⟩
theorem wBZ_pre {D : va_G} {G : tyG} {ws : va_W} {av : List Value} {s : State} {H : Heap} {A : Nat → Prop} {locs : List Loc} {tx ty : Nat} {gx gy : Nat → Int32} (hP : va_P D vwCl ws H) (hK : va_K D vwCl (tyF G) s) (hD : va_D A ws) (hN : wN s) (hZ : wZ A tx ty gx gy s) (hS : va_S A s.heap H locs) (hF : ∀ q, va_A ws H.size q → A q) : ∀ U : State, U.heap = H → s.WarmedH U.vm → va_Pc av (fun U => wB D G H.size ws U ∧ wZ (va_A ws H.size) tx ty gx gy U) av.toArray U := fun U hU hW => by
  obtain ⟨q3, q4⟩ := wB_pre (av := av) hP hK hD hN U hU hW
  exact ⟨q3, q4, hZ.next hS hU hW hF⟩
theorem wBF_blind {D : va_G} {G : tyG} {sz : Nat} {ws : va_W} {av : List Value} {A : Nat → Prop} {tf : Nat} : FrameBlind (va_Pc av (fun U => wB D G sz ws U ∧ wF A tf U)) := fun a U g mk q => by
  obtain ⟨q0, q1, q2⟩ := q
  obtain ⟨q3, q4⟩ := wB_blind (D := D) (G := G) (sz := sz) (ws := ws) (av := av) a U g mk ⟨q0, q1⟩
  exact ⟨q3, q4, q2.call⟩
theorem wBF_pre {D : va_G} {G : tyG} {ws : va_W} {av : List Value} {s : State} {H : Heap} {A : Nat → Prop} {locs : List Loc} {tf : Nat} (hP : va_P D vwCl ws H) (hK : va_K D vwCl (tyF G) s) (hD : va_D A ws) (hN : wN s) (hZ : wF A tf s) (hS : va_S A s.heap H locs) (hF : ∀ q, va_A ws H.size q → A q) : ∀ U : State, U.heap = H → s.WarmedH U.vm → va_Pc av (fun U => wB D G H.size ws U ∧ wF (va_A ws H.size) tf U) av.toArray U := fun U hU hW => by
  obtain ⟨q3, q4⟩ := wB_pre (av := av) hP hK hD hN U hU hW
  exact ⟨q3, q4, hZ.next hS hU hW hF⟩
theorem inB_eq {v a : Int32} (h : inB v a a = true) : v = a := wk_eq (by have := inB_spec.mp h; omega)
theorem inB_01 {v : Int32} (h : inB v 0 1 = true) : v = 0 ∨ v = 1 := by
  have h1 := inB_spec.mp h
  rw [show (0 : Int32).toInt = 0 by decide, show (1 : Int32).toInt = 1 by decide] at h1
  rcases (show v.toInt = 0 ∨ v.toInt = 1 by omega) with e | e
  · exact Or.inl (wk_eq (by rw [e]; decide))
  · exact Or.inr (wk_eq (by rw [e]; decide))
theorem inB_nat {v b : Int32} {N : Nat} (hb : b.toInt = N) (h : inB v 0 b = true) : ∃ n : Nat, n ≤ N ∧ v = nI n := by
  have h1 := inB_spec.mp h
  rw [show (0 : Int32).toInt = 0 by decide, hb] at h1
  have hr := wk_rng v
  refine ⟨v.toInt.toNat, by omega, wk_eq ?_⟩
  rw [nI_toInt (by omega)]
  omega
def sPass (x1 : Int32) : Int32 := if inB x1 1 1 = true then 1 else if inB x1 (-1) (-1) = true then 1 else -1
def sWound (x1 x2 : Int32) : Int32 := if x1 = x2 then -1000 else if inB x1 0 1 = true then (if inB x2 0 1 = true then 0 else -1000) else -1000
/-- as Met.ofW, for a method of a class of which other methods run otherwise -/
theorem wk_ofW {l : Launch} {y : MethodName} {ws ws' : List Cond} {rm : Room} {Pc : Array Value → State → Prop} {Qc : Array Value → State → Outcome → State → Prop} {mc ms : Nat} {free : Addr → Prop} {cc : ByteArray} {maxL : Nat} {ret : Option FieldType}
    (hy : plainFor y = true) (hw : ws = Cond.code y cc maxL ret :: ws')
    (body : ∀ p e s m args below meth c s₁, BodyLoose p l y (headSpec ws rm) cc maxL ret e s m args below meth c s₁ → c.maxLocals = maxL → Pc args s →
      W p l e (headSpec ws rm).room s m args below meth c s.heap [] 0 0 (MQ below Qc args s mc ms free) (entryFrame m args maxL)) : Met l y ws rm Pc Qc mc ms free := by
  refine MetFree.of_bodySF (code := cc) (maxLocals := maxL) (ret := ret) hy ?_ ?_
  · intro args s m h hn
    obtain ⟨meth, c, h1, h2, h3, h4, h5, h6, -, -⟩ := Cond.code_spec hn (atoms_spec (ws := ws) h _ (by rw [hw]; exact List.mem_cons_self))
    exact ⟨meth, c, h1, h2, h3, h4, h5, h6⟩
  · intro p e s m args below meth c s₁ B hml hP _
    have hh0 : s₁.heap = s.heap := by rw [B.state]; rfl
    obtain ⟨t, a1, o, b1, b2, b3⟩ := body p e s m args below meth c s₁ B hml hP s₁ hh0 (Stand.of_body B)
    exact ⟨t, o, a1, b1, b2, ⟨b3.1, b3.2⟩⟩
