/-! Own rows that every contract uses: tops of the stack by name, arrays of a known class, nest mates' words carried along. -/
section WK
variable {p : Program} {l : Launch} {e : Env} {R : Room} {s : State} {m : MethodId} {args : Array Value} {below : List Frame} {meth : Method} {c : Code} {H : Heap} {locs : List Loc} {cells slots : Nat} {Q : State → Prop} {pc : Nat} {ls : Array Slot} {rest : List Value}
theorem wk_i {x : Int32} (y : Int32) (h : x = y) (k : W p l e R s m args below meth c H locs cells slots Q (F0 m pc ls (.int y :: rest))) : W p l e R s m args below meth c H locs cells slots Q (F0 m pc ls (.int x :: rest)) := h ▸ k
theorem wk_l {x : Int64} (y : Int64) (h : x = y) (k : W p l e R s m args below meth c H locs cells slots Q (F0 m pc ls (.long y :: rest))) : W p l e R s m args below meth c H locs cells slots Q (F0 m pc ls (.long x :: rest)) := h ▸ k
theorem wk_v {x : Value} (y : Value) (h : x = y) (k : W p l e R s m args below meth c H locs cells slots Q (F0 m pc ls (y :: rest))) : W p l e R s m args below meth c H locs cells slots Q (F0 m pc ls (x :: rest)) := h ▸ k
theorem wk_in {i : Int32} {n : Nat} (h : decide (¬ (i < 0 ∨ n ≤ i.toNatClampNeg)) = true) : vp_in i n := (of_decide_eq_true h : ¬ (i < 0 ∨ n ≤ i.toNatClampNeg))
theorem wk_ra {U : State} {a b : ClassId} {ty : FieldType} (hp : ∀ c, va_RA U c ty = (U.vm.findClass ("[" ++ ty.toString) = some c)) (ha : va_RA U a ty) (hb : va_RA U b ty) : a = b := by
  rw [hp] at ha hb
  exact Option.some.inj (ha.symm.trans hb)
variable {D : va_G} {cl : List vw_C} {tys : List (ClassId × FieldType)} {ws : va_W} {A : Nat → Prop} {H0 : Heap} {cc : ByteArray}
/-- a new array of numbers, of the class that the list of types names -/
theorem wk_newa (hexec : p.tables.exec = Jvm.exec) (hb : c.code = cc) {atype : ArrayType} (harr : (Cond.arrayClass (newarray.typeOf atype)).before args s = true) {ty : FieldType} (hty : newarray.typeOf atype = ty) (hK : va_K D cl tys s) (hP : va_P D cl ws H) (hD : va_D A ws) (hS : va_S A H0 H locs) (hA : ∀ q, H0.size ≤ q → A q)
    (t0 : Nat) {cA : ClassId} (ht : tys[t0]? = some (cA, ty)) (hp : ∀ c, va_RA s c ty = (s.vm.findClass ("[" ++ ty.toString) = some c))
    {n : Int32} {N' : Nat} {a0 : vp_A} (ha : ∀ cA : ClassId, vp_cell cA a0 = arrV cA N' (fun _ => defaultValue ty)) (hn : ¬ n < 0) (hN : n.toNatClampNeg = N') (hbytes : N' * componentBytes ty ≤ 536870912) (hcells : cells + 1 ≤ R.cells) (hslots : slots + N' ≤ R.slots) (hdg : decode cc pc = .ok (.newarray atype, 2))
    (kk : ∀ (q : Nat) (H1 : Heap), va_P D cl (ws ++ [(q, .inl (cA, a0))]) H1 → va_D A (ws ++ [(q, .inl (cA, a0))]) → va_S A H0 H1 locs →
      W p l e R s m args below meth c H1 locs (cells + 1) (slots + N') Q (F0 m (pc + 2) ls (.ref q :: rest))) : W p l e R s m args below meth c H locs cells slots Q (F0 m pc ls (.int n :: rest)) := by
  refine va_newa hexec hb harr hty hK hP hD hS hA ha hn hN hbytes hcells hslots hdg (fun q cB H1 hK1 hP1 hD1 hS1 => ?_)
  have h1 : va_RA s cB ty := (hK1.2 tys.length (cB, ty) (by rw [List.getElem?_append_right (Nat.le_refl _), Nat.sub_self]; rfl)).2
  have e : cB = cA := wk_ra hp h1 (hK.2 t0 (cA, ty) ht).2
  subst e
  exact kk q H1 hP1 hD1 hS1
theorem wk_newI (hexec : p.tables.exec = Jvm.exec) (hb : c.code = cc) (harr : (Cond.arrayClass .int).before args s = true) (hK : va_K D cl tys s) (hP : va_P D cl ws H) (hD : va_D A ws) (hS : va_S A H0 H locs) (hA : ∀ q, H0.size ≤ q → A q)
    (t0 : Nat) {cA : ClassId} (ht : tys[t0]? = some (cA, .int)) {n : Int32} (N' : Nat) (hn : ¬ n < 0) (hN : n.toNatClampNeg = N') (hbytes : N' * 8 ≤ 536870912) (hcells : cells + 1 ≤ R.cells) (hslots : slots + N' ≤ R.slots) (hdg : decode cc pc = .ok (.newarray .int, 2))
    (kk : ∀ (q : Nat) (H1 : Heap), va_P D cl (ws ++ [(q, .inl (cA, N', .inl (fun _ => 0)))]) H1 → va_D A (ws ++ [(q, .inl (cA, N', .inl (fun _ => 0)))]) → va_S A H0 H1 locs →
      W p l e R s m args below meth c H1 locs (cells + 1) (slots + N') Q (F0 m (pc + 2) ls (.ref q :: rest))) : W p l e R s m args below meth c H locs cells slots Q (F0 m pc ls (.int n :: rest)) :=
  wk_newa (atype := .int) (ty := .int) (N' := N') (a0 := (N', .inl (fun _ => 0))) hexec hb harr rfl hK hP hD hS hA t0 ht (fun _ => rfl) (fun _ => rfl) hn hN (Nat.le_trans (Nat.mul_le_mul_left N' (by decide)) hbytes) hcells hslots hdg kk
theorem wk_newL (hexec : p.tables.exec = Jvm.exec) (hb : c.code = cc) (harr : (Cond.arrayClass .long).before args s = true) (hK : va_K D cl tys s) (hP : va_P D cl ws H) (hD : va_D A ws) (hS : va_S A H0 H locs) (hA : ∀ q, H0.size ≤ q → A q)
    (t0 : Nat) {cA : ClassId} (ht : tys[t0]? = some (cA, .long)) {n : Int32} (N' : Nat) (hn : ¬ n < 0) (hN : n.toNatClampNeg = N') (hbytes : N' * 8 ≤ 536870912) (hcells : cells + 1 ≤ R.cells) (hslots : slots + N' ≤ R.slots) (hdg : decode cc pc = .ok (.newarray .long, 2))
    (kk : ∀ (q : Nat) (H1 : Heap), va_P D cl (ws ++ [(q, .inl (cA, N', .inr (.inl (fun _ => 0))))]) H1 → va_D A (ws ++ [(q, .inl (cA, N', .inr (.inl (fun _ => 0))))]) → va_S A H0 H1 locs →
      W p l e R s m args below meth c H1 locs (cells + 1) (slots + N') Q (F0 m (pc + 2) ls (.ref q :: rest))) : W p l e R s m args below meth c H locs cells slots Q (F0 m pc ls (.int n :: rest)) :=
  wk_newa (atype := .long) (ty := .long) (N' := N') (a0 := (N', .inr (.inl (fun _ => 0)))) hexec hb harr rfl hK hP hD hS hA t0 ht (fun _ => rfl) (fun _ => rfl) hn hN (Nat.le_trans (Nat.mul_le_mul_left N' (by decide)) hbytes) hcells hslots hdg kk
theorem wk_newB (hexec : p.tables.exec = Jvm.exec) (hb : c.code = cc) (harr : (Cond.arrayClass .byte).before args s = true) (hK : va_K D cl tys s) (hP : va_P D cl ws H) (hD : va_D A ws) (hS : va_S A H0 H locs) (hA : ∀ q, H0.size ≤ q → A q)
    (t0 : Nat) {cA : ClassId} (ht : tys[t0]? = some (cA, .byte)) {n : Int32} (N' : Nat) (hn : ¬ n < 0) (hN : n.toNatClampNeg = N') (hbytes : N' * 8 ≤ 536870912) (hcells : cells + 1 ≤ R.cells) (hslots : slots + N' ≤ R.slots) (hdg : decode cc pc = .ok (.newarray .byte, 2))
    (kk : ∀ (q : Nat) (H1 : Heap), va_P D cl (ws ++ [(q, .inl (cA, N', .inl (fun _ => 0)))]) H1 → va_D A (ws ++ [(q, .inl (cA, N', .inl (fun _ => 0)))]) → va_S A H0 H1 locs →
      W p l e R s m args below meth c H1 locs (cells + 1) (slots + N') Q (F0 m (pc + 2) ls (.ref q :: rest))) : W p l e R s m args below meth c H locs cells slots Q (F0 m pc ls (.int n :: rest)) :=
  wk_newa (atype := .byte) (ty := .byte) (N' := N') (a0 := (N', .inl (fun _ => 0))) hexec hb harr rfl hK hP hD hS hA t0 ht (fun _ => rfl) (fun _ => rfl) hn hN (Nat.le_trans (Nat.mul_le_mul_left N' (by decide)) hbytes) hcells hslots hdg kk
theorem wk_newZ (hexec : p.tables.exec = Jvm.exec) (hb : c.code = cc) (harr : (Cond.arrayClass .boolean).before args s = true) (hK : va_K D cl tys s) (hP : va_P D cl ws H) (hD : va_D A ws) (hS : va_S A H0 H locs) (hA : ∀ q, H0.size ≤ q → A q)
    (t0 : Nat) {cA : ClassId} (ht : tys[t0]? = some (cA, .boolean)) {n : Int32} (N' : Nat) (hn : ¬ n < 0) (hN : n.toNatClampNeg = N') (hbytes : N' * 8 ≤ 536870912) (hcells : cells + 1 ≤ R.cells) (hslots : slots + N' ≤ R.slots) (hdg : decode cc pc = .ok (.newarray .boolean, 2))
    (kk : ∀ (q : Nat) (H1 : Heap), va_P D cl (ws ++ [(q, .inl (cA, N', .inl (fun _ => 0)))]) H1 → va_D A (ws ++ [(q, .inl (cA, N', .inl (fun _ => 0)))]) → va_S A H0 H1 locs →
      W p l e R s m args below meth c H1 locs (cells + 1) (slots + N') Q (F0 m (pc + 2) ls (.ref q :: rest))) : W p l e R s m args below meth c H locs cells slots Q (F0 m pc ls (.int n :: rest)) :=
  wk_newa (atype := .boolean) (ty := .boolean) (N' := N') (a0 := (N', .inl (fun _ => 0))) hexec hb harr rfl hK hP hD hS hA t0 ht (fun _ => rfl) (fun _ => rfl) hn hN (Nat.le_trans (Nat.mul_le_mul_left N' (by decide)) hbytes) hcells hslots hdg kk
/-- a new array of references, of the class that the list of types names -/
theorem wk_newq (hexec : p.tables.exec = Jvm.exec) (hb : c.code = cc) {own C : String} {index : Nat} (hown : s.vm.findClass own = some m.cls) (hclink : (Cond.classLink own index C).before args s = true) (hover : va_AO C s) (hK : va_K D cl tys s) (hP : va_P D cl ws H) (hD : va_D A ws) (hS : va_S A H0 H locs) (hA : ∀ q, H0.size ≤ q → A q)
    (t0 : Nat) {cA : ClassId} (ht : tys[t0]? = some (cA, .object C))
    {n : Int32} {N' : Nat} (hn : ¬ n < 0) (hN : n.toNatClampNeg = N') (hbytes : N' * 4 ≤ 536870912) (hcells : cells + 1 ≤ R.cells) (hslots : slots + N' ≤ R.slots) (hdg : decode cc pc = .ok (.anewarray index, 3))
    (kk : ∀ (q : Nat) (H1 : Heap), va_P D cl (ws ++ [(q, .inl (cA, N', .inr (.inr (.inr (.inr (fun _ => none))))))]) H1 → va_D A (ws ++ [(q, .inl (cA, N', .inr (.inr (.inr (.inr (fun _ => none))))))]) → va_S A H0 H1 locs →
      W p l e R s m args below meth c H1 locs (cells + 1) (slots + N') Q (F0 m (pc + 3) ls (.ref q :: rest))) : W p l e R s m args below meth c H locs cells slots Q (F0 m pc ls (.int n :: rest)) := by
  refine va_newq hexec hb hown hclink hover hK hP hD hS hA hn hN hbytes hcells hslots hdg (fun q cB H1 hK1 hP1 hD1 hS1 => ?_)
  have h1 : va_RA s cB (.object C) := (hK1.2 tys.length (cB, .object C) (by rw [List.getElem?_append_right (Nat.le_refl _), Nat.sub_self]; rfl)).2
  have h2 : va_RA s cA (.object C) := (hK.2 t0 (cA, .object C) ht).2
  obtain ⟨k1, c1, -, -, -, g1⟩ := h1
  obtain ⟨k2, c2, -, -, -, g2⟩ := h2
  have e : cB = cA := Option.some.inj (g1.symm.trans g2)
  subst e
  exact kk q H1 hP1 hD1 hS1
/-- an array's contents count in their range alone -/
theorem wk_cong {cA : ClassId} {n : Nat} {f g : Nat → Int32} (h : ∀ k, k < n → f k = g k) : vp_cell cA (n, .inl f) = vp_cell cA (n, .inl g) := by
  show arrV cA n (fun k => .int (f k)) = arrV cA n (fun k => .int (g k))
  unfold arrV
  congr 1
  apply Array.ext
  · simp
  · intro i h1 h2
    simp at h1
    simp [h i (by simpa using h1)]
end WK
/-- the types of arrays, the same for every contract -/
abbrev tyF (q : ClassId × ClassId × ClassId × ClassId × ClassId) : List (ClassId × FieldType) := [(q.1, .int), (q.2.1, .long), (q.2.2.1, .byte), (q.2.2.2.1, .boolean), (q.2.2.2.2, .object "PuppetBridge$Figure")]
abbrev tyG : Type := ClassId × ClassId × ClassId × ClassId × ClassId
def nestM : List (String × Nat × MethodName) := [(RX11, 18, yX10_init), (RX11, 25, yX7_init), (RX11, 39, yX3_init), (RX11, 46, yX4_init), (RX11, 53, yX9_init), (RX11, 60, yX5_init), (RX2, 35, yX1_init), (RX2, 42, yX6_init), (RX8, 17, yX2_init)]
def nestF : List (String × Nat × String × String × String) := [(RX2, 95, "PuppetBridge", "WAY_X", "[I"), (RX2, 98, "PuppetBridge", "WAY_Y", "[I")]
/-- nest mates' words, and the arrays of figures -/
def wN (U : State) : Prop := (∀ q ∈ nestM, va_Nw (.methodLinkNest q.1 q.2.1 q.2.2 "PuppetBridge") U) ∧ (∀ q ∈ nestF, va_Nw (.fieldLinkNest q.1 q.2.1 q.2.2.1 q.2.2.2.1 q.2.2.2.2 "PuppetBridge") U) ∧ va_AO "PuppetBridge$Figure" U
theorem wN.warm {s U : State} (hW : s.WarmedH U.vm) (h : wN s) : wN U := ⟨fun q hq => va_Nw.warmM hW (h.1 q hq), fun q hq => va_Nw.warmF hW (h.2.1 q hq), va_AO.moved hW.alike h.2.2⟩
theorem wN.call {U : State} {g : JFrame} {mk : MethodId} {a : Array Value} (h : wN U) : wN (U.calling g mk a) := ⟨fun q hq => va_Nw.same rfl rfl (h.1 q hq), fun q hq => va_Nw.same rfl rfl (h.2.1 q hq), va_AO.moved (Vm.Alike.refl U.vm) h.2.2⟩
/-- a state's cells, all in one -/
abbrev wS (D : va_G) (G : tyG) (A : Nat → Prop) (ws : va_W) (t : State) : Prop := va_P D vwCl ws t.heap ∧ va_K D vwCl (tyF G) t ∧ va_D A ws
abbrev wB (D : va_G) (G : tyG) (sz : Nat) (ws : va_W) (U : State) : Prop := U.heap.size = sz ∧ va_P D vwCl ws U.heap ∧ va_K D vwCl (tyF G) U ∧ va_D (fun _ => True) ws ∧ wN U
theorem wB_blind {D : va_G} {G : tyG} {sz : Nat} {ws : va_W} {av : List Value} : FrameBlind (va_Pc av (wB D G sz ws)) := fun a U g mk q => by
  obtain ⟨q0, q1, qP, qK, qD, qN⟩ := q
  exact ⟨q0, q1, qP, va_K.moved (u := U) (U := U.calling g mk a) (Vm.Alike.refl U.vm) qK, qD, qN.call⟩
theorem wB_pre {D : va_G} {G : tyG} {ws : va_W} {av : List Value} {s : State} {H : Heap} {A : Nat → Prop} (hP : va_P D vwCl ws H) (hK : va_K D vwCl (tyF G) s) (hD : va_D A ws) (hN : wN s) : ∀ U : State, U.heap = H → s.WarmedH U.vm → va_Pc av (wB D G H.size ws) av.toArray U := fun U hU hW =>
  ⟨rfl, by rw [hU], by rw [hU]; exact hP, va_K.moved hW.alike hK, hD.weaken (fun _ _ _ _ => trivial), hN.warm hW⟩
theorem wP_nil {D : va_G} {H : Heap} : va_P D vwCl [] H := fun k q h => by simp at h
theorem wD_nil {A : Nat → Prop} : va_D A [] := ⟨fun i j p q h => by simp at h, fun k q h => by simp at h⟩
/-- tables of numbers -/
def tI (L : List Int32) : Nat → Int32 := fun k => L.getD k 0
def tL (L : List Int64) : Nat → Int64 := fun k => L.getD k 0
theorem wk_congL {cA : ClassId} {n : Nat} {f g : Nat → Int64} (h : ∀ k, k < n → f k = g k) : vp_cell cA (n, .inr (.inl f)) = vp_cell cA (n, .inr (.inl g)) := by
  show arrV cA n (fun k => .long (f k)) = arrV cA n (fun k => .long (g k))
  unfold arrV
  congr 1
  apply Array.ext
  · simp
  · intro i h1 h2
    simp at h1
    simp [h i (by simpa using h1)]
theorem wk_P {D : va_G} {cl : List vw_C} {ws : va_W} {H : Heap} {k a : Nat} {cA : ClassId} {x y : vp_A} (hP : va_P D cl ws H) (hk : ws[k]? = some (a, .inl (cA, x))) (e : vp_cell cA x = vp_cell cA y) : va_P D cl (ws.set k (a, .inl (cA, y))) H := by
  intro j q hj
  by_cases h : k = j
  · subst h
    have hl : k < ws.length := (List.getElem?_eq_some_iff.mp hk).1
    rw [List.getElem?_set_self hl] at hj
    cases hj
    have h0 : H[a]? = some (vp_cell cA x) := hP k _ hk
    show H[a]? = some (vp_cell cA y)
    rw [h0, e]
  · rw [List.getElem?_set_ne h] at hj
    exact hP j q hj
theorem wk_D {A : Nat → Prop} {ws : va_W} {k a : Nat} {u v : va_E} (hD : va_D A ws) (hk : ws[k]? = some (a, u)) : va_D A (ws.set k (a, v)) := by
  have key : ∀ (j : Nat) (q : Nat × va_E), (ws.set k (a, v))[j]? = some q → ∃ q2, ws[j]? = some q2 ∧ q2.1 = q.1 := by
    intro j q hj
    by_cases h : k = j
    · subst h
      have hl : k < ws.length := (List.getElem?_eq_some_iff.mp hk).1
      rw [List.getElem?_set_self hl] at hj
      cases hj
      exact ⟨_, hk, rfl⟩
    · rw [List.getElem?_set_ne h] at hj
      exact ⟨q, hj, rfl⟩
  refine ⟨fun i j p q hi hj e => ?_, fun j q hj => ?_⟩
  · obtain ⟨p2, h1, e1⟩ := key i p hi
    obtain ⟨q2, h2, e2⟩ := key j q hj
    exact hD.1 i j p2 q2 h1 h2 (by rw [e1, e2, e])
  · obtain ⟨q2, h2, e2⟩ := key j q hj
    rw [← e2]
    exact hD.2 j q2 h2
