/-! ===== small helpers: numbers that are natural, worlds that keep their order, one form of contract ===== -/
/-- a row of naturals as a row of ints -/
def nF (F : Nat → Nat) : Nat → Int32 := fun k => nI (F k)
theorem nF_upd (F : Nat → Nat) (i v : Nat) : upd (nF F) i (nI v) = nF (va_up F i v) := by
  funext k
  unfold upd nF va_up
  by_cases h : k = i <;> simp [h]
theorem up_s {α : Type} (f : Nat → α) (k : Nat) (v : α) : va_up f k v k = v := if_pos rfl
theorem up_n {α : Type} (f : Nat → α) {k j : Nat} (v : α) (h : j ≠ k) : va_up f k v j = f j := if_neg h
abbrev tyB (cI cZ : ClassId) : List (ClassId × FieldType) := [(cI, .int), (cZ, .boolean)]
/-- the links to a nest mate's private members -/
def nestM : List (String × Nat × MethodName) := [(RX4, 11, yX2_init), (RX4, 18, yX3_init), (RX4, 37, yX0_init), (RX2, 38, yX4_isCell), (RX2, 45, yX4_cellOf), (RX1, 80, yX4_isCell), (RX1, 84, yX4_cellOf), (RX1, 91, yX4_wayBetween), (RX0, 29, yX4_cellOf), (RX0, 49, yX4_wayBetween)]
def stN : Nat → String := fun k => match k with
  | 0 => "APART_SQUARED"
  | 1 => "LOWEST_SETTINGS"
  | 2 => "HIGHEST_SETTINGS"
  | 3 => "WAY_X"
  | _ => "WAY_Y"
def stL : Nat → Nat := fun k => match k with
  | 0 => 8
  | _ => 4
def stV : Nat → List Int32 := fun k => match k with
  | 0 => [0, 1, 4, 9, 16, 9, 4, 1]
  | 1 => [4, 10, 1, 1]
  | 2 => [40, 100, 10, 40]
  | 3 => [1, 1, 0, -1]
  | _ => [0, 1, 1, 1]
def stO : Nat → String × Nat := fun k => match k with
  | 0 => (RX2, 42)
  | 1 => (RX3, 15)
  | 2 => (RX3, 18)
  | 3 => (RX1, 74)
  | _ => (RX1, 77)
def stF (k j : Nat) : Value := .int ((stV k).getD j 0)
def gS (tt : Nat → Nat) (A : Nat → Prop) (U : State) (H : Heap) : Prop :=
  (∀ w ∈ nestM, va_Nw (.methodLinkNest w.1 w.2.1 w.2.2 RX4) U) ∧ ∀ k, k < 5 → va_Nw (.fieldLinkNest (stO k).1 (stO k).2 RX4 (stN k) "[I" RX4) U ∧ va_Z RX4 (stN k) "[I" (.ref (tt k)) A U H ∧ va_T .int (tt k) (stL k) (stF k) A U H
theorem gS.narrow {tt : Nat → Nat} {A B : Nat → Prop} {U : State} {H : Heap} (h : gS tt A U H) (hAB : ∀ q, B q → A q) : gS tt B U H :=
  ⟨h.1, fun k hk => ⟨(h.2 k hk).1, (h.2 k hk).2.1.narrow hAB, (h.2 k hk).2.2.narrow hAB⟩⟩
theorem gS.warm {tt : Nat → Nat} {A : Nat → Prop} {s U : State} {H : Heap} (h : gS tt A s H) (hW : s.WarmedH U.vm) : gS tt A U H :=
  ⟨fun w hw => (h.1 w hw).warmM hW, fun k hk => ⟨(h.2 k hk).1.warmF hW, va_Z.moved hW.alike (h.2 k hk).2.1, va_T.moved hW.alike (h.2 k hk).2.2⟩⟩
theorem gS.same {tt : Nat → Nat} {A : Nat → Prop} {u U : State} {H : Heap} (h : gS tt A u H) (hv : u.vm = U.vm) : gS tt A U H := by
  have ha : u.vm.Alike U.vm := by rw [hv]; exact Vm.Alike.refl U.vm
  exact ⟨fun w hw => va_Nw.same rfl hv (h.1 w hw), fun k hk => ⟨va_Nw.same rfl hv (h.2 k hk).1, va_Z.moved ha (h.2 k hk).2.1, va_T.moved ha (h.2 k hk).2.2⟩⟩
theorem gS.kept {tt : Nat → Nat} {A : Nat → Prop} {s : State} {H : Heap} {locs : List Loc} (h : gS tt A s s.heap) (hS : va_S A s.heap H locs) : gS tt A s H :=
  ⟨h.1, fun k hk => ⟨(h.2 k hk).1, (h.2 k hk).2.1.kept (fun a h1 h2 => hS.2.1 a h1 h2), (h.2 k hk).2.2.kept (fun a h1 h2 => hS.2.1 a h1 h2)⟩⟩
/-- one form of start and end -/
def cP (D : va_G) (cI cZ : ClassId) (tt : Nat → Nat) (av : List Value) (ws : va_W) (sz : Nat) : Array Value → State → Prop :=
  va_Pc av (fun U => U.heap.size = sz ∧ va_P D vwCl ws U.heap ∧ va_K D vwCl (tyB cI cZ) U ∧ va_D (fun _ => True) ws ∧ gS tt (va_A ws sz) U U.heap)
def cB (D : va_G) (cI cZ : ClassId) (A : Nat → Prop) (w : va_W) (t : State) : Prop := va_P D vwCl w t.heap ∧ va_K D vwCl (tyB cI cZ) t ∧ va_D A w
theorem cP.blind (D : va_G) (cI cZ : ClassId) (tt : Nat → Nat) (av : List Value) (ws : va_W) (sz : Nat) : FrameBlind (cP D cI cZ tt av ws sz) := by
  intro a U g mk h
  obtain ⟨h1, h2, h3, h4, h5, h6⟩ := h
  exact ⟨h1, h2, h3, va_K.moved (u := U) (U := U.calling g mk a) (Vm.Alike.refl U.vm) h4, h5, h6.same rfl⟩
/-- contracts: an int, nothing, a cell of the world -/
def MI {S : Type} (l : Launch) (y : MethodName) (wy : List Cond) (rm : Room) (D : va_G) (cI cZ : ClassId) (tt : Nat → Nat) (av : List Value) (ws : va_W) (sz : Nat) (post : Int32 → S → Prop) (wf : S → va_W) : Prop :=
  Met l y wy rm (cP D cI cZ tt av ws sz) (va_Qi post (fun u t => cB D cI cZ (va_A ws sz) (wf u) t) (va_A ws sz)) 0 0 (va_A ws sz)
def MV {S : Type} (l : Launch) (y : MethodName) (wy : List Cond) (rm : Room) (D : va_G) (cI cZ : ClassId) (tt : Nat → Nat) (av : List Value) (ws : va_W) (sz : Nat) (mc ms : Nat) (post : S → Prop) (wf : S → va_W) : Prop :=
  Met l y wy rm (cP D cI cZ tt av ws sz) (va_Qv post (fun u t => cB D cI cZ (va_A ws sz) (wf u) t) (va_A ws sz)) mc ms (va_A ws sz)
def MR {S : Type} (l : Launch) (y : MethodName) (wy : List Cond) (rm : Room) (D : va_G) (cI cZ : ClassId) (tt : Nat → Nat) (av : List Value) (ws : va_W) (sz : Nat) (post : S → Prop) (wf : S → va_W) (ra : Nat) : Prop :=
  Met l y wy rm (cP D cI cZ tt av ws sz) (va_Qr post (fun u a t => a = ra ∧ cB D cI cZ (va_A ws sz) (wf u) t) (va_A ws sz)) 0 0 (va_A ws sz)
/-- a static method of ints: nothing of the heap is touched -/
def MS (l : Launch) (y : MethodName) (wy : List Cond) (rm : Room) (av : List Value) (val : Int32) : Prop :=
  Met l y wy rm (va_Pc av (fun _ => True)) (vp_Si (fun r => r = val)) 0 0 (fun _ => False)
/-! entries -/
theorem entI {S : Type} {l : Launch} {y : MethodName} {wy wy' : List Cond} {rm : Room} {D : va_G} {cI cZ : ClassId} {tt : Nat → Nat} {av : List Value} {ws : va_W} {sz : Nat} {post : Int32 → S → Prop} {wf : S → va_W} {cc : ByteArray} {ty : FieldType} (maxL : Nat)
    (hy : plainName y.cls = true) (hw : wy = Cond.code y cc maxL (some ty) :: wy') (hn : (lg_sl av).length ≤ maxL) (hty : ty = .int ∨ (ty = .boolean ∧ ∀ v u, post v u → narrow .boolean (.int v) = .int v))
    (k : ∀ (p : Program) (e : Env) (s : State) (m : MethodId) (args : Array Value) (below : List Frame) (meth : Method) (c : Code) (A : Nat → Prop) (Q : State → Prop) (H : Heap) (ls : Array Slot), p.tables.exec = Jvm.exec → c.code = cc → c.maxLocals = maxL → s.vm.findClass y.cls = some m.cls → (∀ w ∈ wy, w.before args s = true) → s.heap.size = sz → (∀ q : Nat, s.heap.size ≤ q → A q) → va_P D vwCl ws H → va_K D vwCl (tyB cI cZ) s → va_D A ws → va_S A s.heap H [] → gS tt A s s.heap →
      (∀ (v : Int32) (u : S) (H : Heap) (locs : List Loc) (pc : Nat) (ls : Array Slot), decode cc pc = .ok (.ireturn, 1) → post v u → va_P D vwCl (wf u) H → va_D A (wf u) → va_S A s.heap H locs → W p l e rm s m args below meth c H locs 0 0 Q (F0 m pc ls [.int v])) →
      lv_has ls maxL (lv_args 0 av) → W p l e rm s m args below meth c H [] 0 0 Q (F0 m 0 ls [])) : MI l y wy rm D cI cZ tt av ws sz post wf := by
  refine Met.ofW (cc := cc) (maxL := maxL) (ret := some ty) hy hw ?_
  intro p e s m args below meth c s₁ B hml hv
  obtain ⟨rfl, hsz, hP, hK, hD0, hG⟩ := hv
  have hx := B.exec
  have hb := B.bytes
  have hr := B.returns
  have hts := atoms_spec (ws := wy) B.pre
  have hown : s.vm.findClass y.cls = some m.cls := findClass_of_methodNamed B.named
  have hlocks := B.notSynchronized
  have hD := hD0.self (sz := sz)
  rw [lg_entry_eq]
  refine k p e s m _ below meth c (va_A ws sz) _ s.heap _ hx hb hml hown hts hsz (fun q h => Or.inr (by rw [← hsz]; exact h)) hP hK hD va_S.rf hG ?_ (lv_entry av hn)
  intro v u H locs pc ls hdg hp hP9 hD9 hS9
  refine W.zret (v := v) (ty := ty) hx hb hr ?_ (fun t ht hW => ⟨⟨v, u, rfl, hp, by rw [ht]; exact hP9, va_K.moved hW.alike hK, hD9⟩, hS9.F ht⟩) hS9.2.2 hdg
  rcases hty with rfl | ⟨rfl, h⟩
  · rfl
  · exact h v u hp
theorem entV {S : Type} {l : Launch} {y : MethodName} {wy wy' : List Cond} {rm : Room} {D : va_G} {cI cZ : ClassId} {tt : Nat → Nat} {av : List Value} {ws : va_W} {sz mc ms : Nat} {post : S → Prop} {wf : S → va_W} {cc : ByteArray} (maxL : Nat)
    (hy : plainName y.cls = true) (hw : wy = Cond.code y cc maxL none :: wy') (hn : (lg_sl av).length ≤ maxL)
    (k : ∀ (p : Program) (e : Env) (s : State) (m : MethodId) (args : Array Value) (below : List Frame) (meth : Method) (c : Code) (A : Nat → Prop) (Q : State → Prop) (H : Heap) (ls : Array Slot), p.tables.exec = Jvm.exec → c.code = cc → c.maxLocals = maxL → s.vm.findClass y.cls = some m.cls → (∀ w ∈ wy, w.before args s = true) → meth.name = y.name → s.heap.size = sz → (∀ q : Nat, s.heap.size ≤ q → A q) → va_P D vwCl ws H → va_K D vwCl (tyB cI cZ) s → va_D A ws → va_S A s.heap H [] → gS tt A s s.heap →
      (∀ (u : S) (H : Heap) (locs : List Loc) (pc : Nat) (ls : Array Slot), decode cc pc = .ok (.return_, 1) → post u → va_P D vwCl (wf u) H → va_D A (wf u) → va_S A s.heap H locs → W p l e rm s m args below meth c H locs mc ms Q (F0 m pc ls [])) →
      lv_has ls maxL (lv_args 0 av) → W p l e rm s m args below meth c H [] 0 0 Q (F0 m 0 ls [])) : MV l y wy rm D cI cZ tt av ws sz mc ms post wf := by
  refine Met.ofW (cc := cc) (maxL := maxL) (ret := none) hy hw ?_
  intro p e s m args below meth c s₁ B hml hv
  obtain ⟨rfl, hsz, hP, hK, hD0, hG⟩ := hv
  have hx := B.exec
  have hb := B.bytes
  have hr := B.returns
  have hts := atoms_spec (ws := wy) B.pre
  have hown : s.vm.findClass y.cls = some m.cls := findClass_of_methodNamed B.named
  have hlocks := B.notSynchronized
  have hD := hD0.self (sz := sz)
  rw [lg_entry_eq]
  refine k p e s m _ below meth c (va_A ws sz) _ s.heap _ hx hb hml hown hts (name_of_methodNamed B.named B.method).1 hsz (fun q h => Or.inr (by rw [← hsz]; exact h)) hP hK hD va_S.rf hG ?_ (lv_entry av hn)
  intro u H locs pc ls hdg hp hP9 hD9 hS9
  exact W.vret hx hb hr (fun t ht hW => ⟨⟨u, rfl, hp, by rw [ht]; exact hP9, va_K.moved hW.alike hK, hD9⟩, hS9.F ht⟩) hS9.2.2 hdg
theorem entR {S : Type} {l : Launch} {y : MethodName} {wy wy' : List Cond} {rm : Room} {D : va_G} {cI cZ : ClassId} {tt : Nat → Nat} {av : List Value} {ws : va_W} {sz : Nat} {post : S → Prop} {wf : S → va_W} {ra : Nat} {cc : ByteArray} {cn : String} (maxL : Nat)
    (hy : plainName y.cls = true) (hw : wy = Cond.code y cc maxL (some (.object cn)) :: wy') (hn : (lg_sl av).length ≤ maxL)
    (k : ∀ (p : Program) (e : Env) (s : State) (m : MethodId) (args : Array Value) (below : List Frame) (meth : Method) (c : Code) (A : Nat → Prop) (Q : State → Prop) (H : Heap) (ls : Array Slot), p.tables.exec = Jvm.exec → c.code = cc → c.maxLocals = maxL → s.vm.findClass y.cls = some m.cls → (∀ w ∈ wy, w.before args s = true) → s.heap.size = sz → (∀ q : Nat, s.heap.size ≤ q → A q) → va_P D vwCl ws H → va_K D vwCl (tyB cI cZ) s → va_D A ws → va_S A s.heap H [] → gS tt A s s.heap →
      (∀ (u : S) (H : Heap) (locs : List Loc) (pc : Nat) (ls : Array Slot), decode cc pc = .ok (.areturn, 1) → post u → va_P D vwCl (wf u) H → va_D A (wf u) → va_S A s.heap H locs → W p l e rm s m args below meth c H locs 0 0 Q (F0 m pc ls [.ref ra])) →
      lv_has ls maxL (lv_args 0 av) → W p l e rm s m args below meth c H [] 0 0 Q (F0 m 0 ls [])) : MR l y wy rm D cI cZ tt av ws sz post wf ra := by
  refine Met.ofW (cc := cc) (maxL := maxL) (ret := some (.object cn)) hy hw ?_
  intro p e s m args below meth c s₁ B hml hv
  obtain ⟨rfl, hsz, hP, hK, hD0, hG⟩ := hv
  have hx := B.exec
  have hb := B.bytes
  have hr := B.returns
  have hts := atoms_spec (ws := wy) B.pre
  have hown : s.vm.findClass y.cls = some m.cls := findClass_of_methodNamed B.named
  have hlocks := B.notSynchronized
  have hD := hD0.self (sz := sz)
  rw [lg_entry_eq]
  refine k p e s m _ below meth c (va_A ws sz) _ s.heap _ hx hb hml hown hts hsz (fun q h => Or.inr (by rw [← hsz]; exact h)) hP hK hD va_S.rf hG ?_ (lv_entry av hn)
  intro u H locs pc ls hdg hp hP9 hD9 hS9
  exact W.aret hx hb hr (Or.inl ⟨_, rfl⟩) (Or.inr ⟨_, rfl⟩) (fun t ht hW => ⟨⟨u, ra, rfl, hp, rfl, by rw [ht]; exact hP9, va_K.moved hW.alike hK, hD9⟩, hS9.F ht⟩) hS9.2.2 hdg
theorem entS {l : Launch} {y : MethodName} {wy wy' : List Cond} {rm : Room} {av : List Value} {val : Int32} {cc : ByteArray} {ty : FieldType} (maxL : Nat)
    (hy : plainName y.cls = true) (hw : wy = Cond.code y cc maxL (some ty) :: wy') (hn : (lg_sl av).length ≤ maxL) (hty : narrow ty (.int val) = .int val)
    (k : ∀ (p : Program) (e : Env) (s : State) (m : MethodId) (args : Array Value) (below : List Frame) (meth : Method) (c : Code) (Q : State → Prop) (H : Heap) (ls : Array Slot), p.tables.exec = Jvm.exec → c.code = cc → c.maxLocals = maxL → s.vm.findClass y.cls = some m.cls → (∀ w ∈ wy, w.before args s = true) →
      (∀ (v : Int32) (pc : Nat) (ls : Array Slot), decode cc pc = .ok (.ireturn, 1) → v = val → W p l e rm s m args below meth c H [] 0 0 Q (F0 m pc ls [.int v])) →
      lv_has ls maxL (lv_args 0 av) → W p l e rm s m args below meth c H [] 0 0 Q (F0 m 0 ls [])) : MS l y wy rm av val := by
  refine Met.ofW (cc := cc) (maxL := maxL) (ret := some ty) hy hw ?_
  intro p e s m args below meth c s₁ B hml hv
  obtain ⟨rfl, -⟩ := hv
  have hx := B.exec
  have hb := B.bytes
  have hr := B.returns
  have hts := atoms_spec (ws := wy) B.pre
  have hown : s.vm.findClass y.cls = some m.cls := findClass_of_methodNamed B.named
  have hlocks := B.notSynchronized
  rw [lg_entry_eq]
  refine k p e s m _ below meth c _ s.heap _ hx hb hml hown hts ?_ (lv_entry av hn)
  intro v pc ls hdg hv
  subst hv
  exact W.zret (v := v) (ty := ty) hx hb hr hty (fun t ht hW => ⟨v, rfl, rfl, ht⟩) (fun q h => by cases h) hdg
/-! calls -/
section CLS
variable {p : Program} {l : Launch} {e : Env} {R : Room} {s : State} {m : MethodId} {args : Array Value} {below : List Frame} {meth : Method} {c : Code} {H : Heap} {locs : List Loc} {cells slots : Nat} {Q : State → Prop}
variable {pc : Nat} {ls : Array Slot} {rest st0 As : List Value} {A : Nat → Prop} {D : va_G} {cI cZ : ClassId} {tt : Nat → Nat} {y : MethodName} {bytes cc : ByteArray} {maxL nL n index : Nat} {ret : Option FieldType} {wy Ts : List Cond} {rm : Room} {own C : String} {b : Nat}
theorem preV {ws wc : va_W} {q0 ci : Nat} {q : vw_C} {fs : List Value} (hP : va_P D vwCl ws H) (hK : va_K D vwCl (tyB cI cZ) s) (hD : va_D A ws) (hS : va_S A s.heap H locs) (hA : ∀ q : Nat, s.heap.size ≤ q → A q) (hG : gS tt A s s.heap) (isC : List Nat) (hnC : va_nd isC = true) (hC : isC.map (fun i => ws[i]?) = wc.map some) (hc : vwCl[ci]? = some q) (he : wc[q0]? = some (b, .inr (ci, fs))) : PreV s H q.1 b (cP D cI cZ tt (.ref b :: As) wc H.size) As := by
  have hPc : va_P D vwCl wc H := by
    intro k x hx
    have h1 : (isC.map (fun i => ws[i]?))[k]? = some (some x) := by rw [hC, List.getElem?_map, hx]; rfl
    rw [List.getElem?_map] at h1
    cases hi : isC[k]? with
    | none => rw [hi] at h1; cases h1
    | some i => rw [hi] at h1; exact hP i x (Option.some.inj h1)
  refine ⟨cP.blind _ _ _ _ _ _ _, va_recv hK hPc hc he, fun U hU hW => ⟨rfl, by rw [hU], by rw [hU]; exact hPc, va_K.moved hW.alike hK, (hD.sub isC hnC hC).weaken (fun _ _ _ _ => trivial), ?_⟩⟩
  rw [hU]
  exact ((hG.kept hS).narrow (va_free hD hS hA isC hC)).warm hW
theorem preI {ws wc : va_W} (hP : va_P D vwCl ws H) (hK : va_K D vwCl (tyB cI cZ) s) (hD : va_D A ws) (hS : va_S A s.heap H locs) (hA : ∀ q : Nat, s.heap.size ≤ q → A q) (hG : gS tt A s s.heap) (isC : List Nat) (hnC : va_nd isC = true) (hC : isC.map (fun i => ws[i]?) = wc.map some) : PreS s H (cP D cI cZ tt As wc H.size) As := by
  have hPc : va_P D vwCl wc H := by
    intro k x hx
    have h1 : (isC.map (fun i => ws[i]?))[k]? = some (some x) := by rw [hC, List.getElem?_map, hx]; rfl
    rw [List.getElem?_map] at h1
    cases hi : isC[k]? with
    | none => rw [hi] at h1; cases h1
    | some i => rw [hi] at h1; exact hP i x (Option.some.inj h1)
  refine ⟨cP.blind _ _ _ _ _ _ _, fun U hU hW => ⟨rfl, by rw [hU], by rw [hU]; exact hPc, va_K.moved hW.alike hK, (hD.sub isC hnC hC).weaken (fun _ _ _ _ => trivial), ?_⟩⟩
  rw [hU]
  exact ((hG.kept hS).narrow (va_free hD hS hA isC hC)).warm hW
theorem apartB {isR isC : List Nat} (h : isR.all (fun i => !isC.contains i) = true) : ∀ i ∈ isR, i ∉ isC := by
  intro i hi hc
  have := List.all_eq_true.mp h i hi
  simp [hc] at this
/-- what came back, in the caller's order -/
theorem backW {S : Type} {wf : S → va_W} {ws wc wr : va_W} {ws' : S → va_W} {H1 : Heap} (hP : va_P D vwCl ws H) (hD : va_D A ws) (hS : va_S A s.heap H locs) (hA : ∀ q : Nat, s.heap.size ≤ q → A q) (isC isR is : List Nat) (hC : isC.map (fun i => ws[i]?) = wc.map some) (hR : isR.map (fun i => ws[i]?) = wr.map some) (hnR : va_nd isR = true) (hdis : isR.all (fun i => !isC.contains i) = true) (hn : va_nd is = true) (hs : ∀ u, is.map (fun i => (wr ++ wf u)[i]?) = (ws' u).map some) {u : S}
    (hk : ∀ q : Nat, q < H.size → ¬ va_A wc H.size q → H1[q]? = H[q]?) (hP1 : va_P D vwCl (wf u) H1) (hD1 : va_D (va_A wc H.size) (wf u)) : va_P D vwCl (ws' u) H1 ∧ va_D A (ws' u) := by
  obtain ⟨h1, h2⟩ := va_join hP hD isC isR hC hR hnR (apartB hdis) hk (va_free hD hS hA isC hC) hP1 hD1
  refine ⟨?_, h2.sub is hn (hs u)⟩
  intro k x hx
  have h3 : (is.map (fun i => (wr ++ wf u)[i]?))[k]? = some (some x) := by rw [hs u, List.getElem?_map, hx]; rfl
  rw [List.getElem?_map] at h3
  cases hi : is[k]? with
  | none => rw [hi] at h3; cases h3
  | some i => rw [hi] at h3; exact h1 i x (Option.some.inj h3)
theorem gcVi {S : Type} {post : Int32 → S → Prop} {wf : S → va_W} {ws wc wr : va_W} {ws' : S → va_W} {q : vw_C} {fs : List Value} {q0 ci : Nat} (Sx : CallFix p m c cc nL s args Ts own) (hM : MI l y wy rm D cI cZ tt (.ref b :: As) wc H.size post wf) (cw : CallW R s args own q.1 index y bytes maxL ret wy rm 0 0 n)
    (hP : va_P D vwCl ws H) (hK : va_K D vwCl (tyB cI cZ) s) (hD : va_D A ws) (hS : va_S A s.heap H locs) (hA : ∀ q : Nat, s.heap.size ≤ q → A q) (hG : gS tt A s s.heap) (hc : vwCl[ci]? = some q) (he : wc[q0]? = some (b, .inr (ci, fs))) (isC isR is : List Nat) (hnC : va_nd isC = true) (hC : isC.map (fun i => ws[i]?) = wc.map some) (hR : isR.map (fun i => ws[i]?) = wr.map some) (hnR : va_nd isR = true) (hdis : isR.all (fun i => !isC.contains i) = true) (hn : va_nd is = true) (hs : ∀ u, is.map (fun i => (wr ++ wf u)[i]?) = (ws' u).map some)
    (hsz : ls.size = nL) (hlen : As.length = n) (hst : st0 = As.reverse ++ .ref b :: rest) (hrm : (rest.map fun v => v.category).sum ≤ 8) (hf : cells ≤ R.cells ∧ slots ≤ R.slots) (hdg : decode cc pc = .ok (.invokevirtual index, 3))
    (kk : ∀ (r : Int32) (u : S) (H1 : Heap) (locs1 : List Loc), post r u → va_P D vwCl (ws' u) H1 → va_D A (ws' u) → va_S A s.heap H1 locs1 → W p l e R s m args below meth c H1 locs1 cells slots Q (F0 m (pc + 3) ls (.int r :: rest))) : W p l e R s m args below meth c H locs cells slots Q (F0 m pc ls st0) := by
  have hF := va_free hD hS hA isC hC
  refine va_calli (va_runV (As := As) (rest := rest) Sx hM cw (preV (As := As) hP hK hD hS hA hG isC hnC hC hc he) rfl hlen hsz hst (lv_room hrm) hdg hf) hS (fun q _ h => hF q h) hF (fun r u t H1 locs1 ht hvm hp hB hz1 hk1 hS1 => ?_)
  obtain ⟨hP1, hK1, hD1⟩ := hB
  rw [ht] at hP1
  obtain ⟨h1, h2⟩ := backW (wf := wf) (ws' := ws') hP hD hS hA isC isR is hC hR hnR hdis hn hs hk1 hP1 hD1
  exact kk r u H1 locs1 hp h1 h2 hS1
theorem gcVv {S : Type} {post : S → Prop} {wf : S → va_W} {ws wc wr : va_W} {ws' : S → va_W} {q : vw_C} {fs : List Value} {q0 ci : Nat} (Sx : CallFix p m c cc nL s args Ts own) (hM : MV l y wy rm D cI cZ tt (.ref b :: As) wc H.size 0 0 post wf) (cw : CallW R s args own q.1 index y bytes maxL ret wy rm 0 0 n)
    (hP : va_P D vwCl ws H) (hK : va_K D vwCl (tyB cI cZ) s) (hD : va_D A ws) (hS : va_S A s.heap H locs) (hA : ∀ q : Nat, s.heap.size ≤ q → A q) (hG : gS tt A s s.heap) (hc : vwCl[ci]? = some q) (he : wc[q0]? = some (b, .inr (ci, fs))) (isC isR is : List Nat) (hnC : va_nd isC = true) (hC : isC.map (fun i => ws[i]?) = wc.map some) (hR : isR.map (fun i => ws[i]?) = wr.map some) (hnR : va_nd isR = true) (hdis : isR.all (fun i => !isC.contains i) = true) (hn : va_nd is = true) (hs : ∀ u, is.map (fun i => (wr ++ wf u)[i]?) = (ws' u).map some)
    (hsz : ls.size = nL) (hlen : As.length = n) (hst : st0 = As.reverse ++ .ref b :: rest) (hrm : (rest.map fun v => v.category).sum ≤ 8) (hf : cells ≤ R.cells ∧ slots ≤ R.slots) (hdg : decode cc pc = .ok (.invokevirtual index, 3))
    (kk : ∀ (u : S) (H1 : Heap) (locs1 : List Loc), post u → va_P D vwCl (ws' u) H1 → va_D A (ws' u) → va_S A s.heap H1 locs1 → W p l e R s m args below meth c H1 locs1 cells slots Q (F0 m (pc + 3) ls rest)) : W p l e R s m args below meth c H locs cells slots Q (F0 m pc ls st0) := by
  have hF := va_free hD hS hA isC hC
  refine va_callv (va_runV (As := As) (rest := rest) Sx hM cw (preV (As := As) hP hK hD hS hA hG isC hnC hC hc he) rfl hlen hsz hst (lv_room hrm) hdg hf) hS (fun q _ h => hF q h) hF (fun u t H1 locs1 ht hvm hp hB hz1 hk1 hS1 => ?_)
  obtain ⟨hP1, hK1, hD1⟩ := hB
  rw [ht] at hP1
  obtain ⟨h1, h2⟩ := backW (wf := wf) (ws' := ws') hP hD hS hA isC isR is hC hR hnR hdis hn hs hk1 hP1 hD1
  exact kk u H1 locs1 hp h1 h2 hS1
theorem gcVr {S : Type} {post : S → Prop} {wf : S → va_W} {ra : Nat} {ws wc wr : va_W} {ws' : S → va_W} {q : vw_C} {fs : List Value} {q0 ci : Nat} (Sx : CallFix p m c cc nL s args Ts own) (hM : MR l y wy rm D cI cZ tt (.ref b :: As) wc H.size post wf ra) (cw : CallW R s args own q.1 index y bytes maxL ret wy rm 0 0 n)
    (hP : va_P D vwCl ws H) (hK : va_K D vwCl (tyB cI cZ) s) (hD : va_D A ws) (hS : va_S A s.heap H locs) (hA : ∀ q : Nat, s.heap.size ≤ q → A q) (hG : gS tt A s s.heap) (hc : vwCl[ci]? = some q) (he : wc[q0]? = some (b, .inr (ci, fs))) (isC isR is : List Nat) (hnC : va_nd isC = true) (hC : isC.map (fun i => ws[i]?) = wc.map some) (hR : isR.map (fun i => ws[i]?) = wr.map some) (hnR : va_nd isR = true) (hdis : isR.all (fun i => !isC.contains i) = true) (hn : va_nd is = true) (hs : ∀ u, is.map (fun i => (wr ++ wf u)[i]?) = (ws' u).map some)
    (hsz : ls.size = nL) (hlen : As.length = n) (hst : st0 = As.reverse ++ .ref b :: rest) (hrm : (rest.map fun v => v.category).sum ≤ 8) (hf : cells ≤ R.cells ∧ slots ≤ R.slots) (hdg : decode cc pc = .ok (.invokevirtual index, 3))
    (kk : ∀ (u : S) (H1 : Heap) (locs1 : List Loc), post u → va_P D vwCl (ws' u) H1 → va_D A (ws' u) → va_S A s.heap H1 locs1 → W p l e R s m args below meth c H1 locs1 cells slots Q (F0 m (pc + 3) ls (.ref ra :: rest))) : W p l e R s m args below meth c H locs cells slots Q (F0 m pc ls st0) := by
  have hF := va_free hD hS hA isC hC
  refine va_callr (va_runV (As := As) (rest := rest) Sx hM cw (preV (As := As) hP hK hD hS hA hG isC hnC hC hc he) rfl hlen hsz hst (lv_room hrm) hdg hf) hS (fun q _ h => hF q h) hF (fun u ra1 t H1 locs1 ht hvm hp hB hz1 hk1 hS1 => ?_)
  obtain ⟨rfl, hP1, hK1, hD1⟩ := hB
  rw [ht] at hP1
  obtain ⟨h1, h2⟩ := backW (wf := wf) (ws' := ws') hP hD hS hA isC isR is hC hR hnR hdis hn hs hk1 hP1 hD1
  exact kk u H1 locs1 hp h1 h2 hS1
theorem blindT (av : List Value) : FrameBlind (va_Pc av (fun _ => True)) := fun a U g mk h => h
theorem gcS {val : Int32} (Sx : CallFix p m c cc nL s args Ts own) (hM : MS l y wy rm As val) (cw : CallB R s args own index y bytes maxL ret wy rm 0 0 n ∧ (Cond.static y).before args s = true)
    (hsz : ls.size = nL) (hlen : As.length = n) (hst : st0 = As.reverse ++ rest) (hrm : (rest.map fun v => v.category).sum ≤ 8) (hf : cells ≤ R.cells ∧ slots ≤ R.slots) (hdg : decode cc pc = .ok (.invokestatic index, 3))
    (kk : W p l e R s m args below meth c H locs cells slots Q (F0 m (pc + 3) ls (.int val :: rest))) : W p l e R s m args below meth c H locs cells slots Q (F0 m pc ls st0) :=
  vp_callSi (W.runS (As := As) (rest := rest) Sx hM cw ⟨blindT _, fun U _ _ => ⟨rfl, trivial⟩⟩ rfl hlen hsz hst (lv_room hrm) hdg hf) (fun r hr => by rw [hr]; exact kk)
theorem runTo {mc ms : Nat} {g : JFrame} {Qa : State → Outcome → State → Prop} {free : Addr → Prop} (h : va_Run p l e R s m args below meth c H locs cells slots mc ms g rest Qa free) : CallRun p l e R s m args below meth c H locs cells slots mc ms g rest Qa free := by
  intro T hT X
  obtain ⟨v, st₀, t, T', L, h0, X', hL, e1, e2, hq, st⟩ := h T hT X
  exact ⟨v, st₀, t, T', L, h0, X', hL, e1, hq, st⟩
theorem gcSN {host : String} {val : Int32} (Sx : CallFix p m c cc nL s args Ts own) (hM : MS l y wy rm As val) (cw : va_CN R s args own index y host bytes maxL ret wy rm 0 0 n) (hstat : (Cond.static y).before args s = true)
    (hsz : ls.size = nL) (hlen : As.length = n) (hst : st0 = As.reverse ++ rest) (hrm : (rest.map fun v => v.category).sum ≤ 8) (hf : cells ≤ R.cells ∧ slots ≤ R.slots) (hdg : decode cc pc = .ok (.invokestatic index, 3))
    (kk : W p l e R s m args below meth c H locs cells slots Q (F0 m (pc + 3) ls (.int val :: rest))) : W p l e R s m args below meth c H locs cells slots Q (F0 m pc ls st0) :=
  vp_callSi (runTo (va_runSN (As := As) (rest := rest) Sx hM ⟨cw, hstat, trivial⟩ ⟨blindT _, fun U _ _ => ⟨rfl, trivial⟩⟩ rfl hlen hsz hst (lv_room hrm) hdg hf)) (fun r hr => by rw [hr]; exact kk)
end CLS
