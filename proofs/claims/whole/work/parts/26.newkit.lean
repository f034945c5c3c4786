/-! ===== what is made: arrays of zeroes, objects, constructors called ===== -/
theorem nz_I (cA : ClassId) (n : Nat) : vp_cell cA (n, .inl (nF fun _ => 0)) = arrV cA n (fun _ => defaultValue .int) := by
  rw [vp_cell_i, show (fun j : Nat => Value.int (nF (fun _ => 0) j)) = fun _ => defaultValue .int from funext (fun j => by show Value.int (nI 0) = Value.int 0; rw [nI_0])]
theorem nz_Z (cA : ClassId) (n : Nat) : vp_cell cA (n, .inl (nF fun _ => 0)) = arrV cA n (fun _ => defaultValue .boolean) := by
  rw [vp_cell_i, show (fun j : Nat => Value.int (nF (fun _ => 0) j)) = fun _ => defaultValue .boolean from funext (fun j => by show Value.int (nI 0) = Value.int 0; rw [nI_0])]
theorem bytes4 {n : Nat} (hn : n < 65536) : n * componentBytes .int ≤ 536870912 := by
  have e : componentBytes .int = 4 := by decide
  rw [e]
  omega
theorem bytes1 {n : Nat} (hn : n < 65536) : n * componentBytes .boolean ≤ 536870912 := by
  have e : componentBytes .boolean = 1 := by decide
  rw [e]
  omega
section NVW
variable {p : Program} {l : Launch} {e : Env} {R : Room} {s : State} {m : MethodId} {args : Array Value} {below : List Frame} {meth : Method} {c : Code} {H : Heap} {locs : List Loc} {cells slots : Nat} {Q : State → Prop}
variable {cc : ByteArray} {pc : Nat} {ls : Array Slot} {rest : List Value} {D : va_G} {cI cZ : ClassId} {A : Nat → Prop} {ws : va_W} {tt : Nat → Nat}
theorem nv_newI (hx : p.tables.exec = Jvm.exec) (hb : c.code = cc) (harr : (Cond.arrayClass .int).before args s = true) (hK : va_K D vwCl (tyB cI cZ) s) (hP : va_P D vwCl ws H) (hD : va_D A ws) (hS : va_S A s.heap H locs) (hA : ∀ q : Nat, s.heap.size ≤ q → A q) {n : Nat} (hn : n < 65536) (hcells : cells + 1 ≤ R.cells) (hslots : slots + n ≤ R.slots) (hdg : decode cc pc = .ok (.newarray .int, 2))
    (kk : ∀ (q : Nat) (H1 : Heap), va_P D vwCl (ws ++ [(q, .inl (cI, n, .inl (nF fun _ => 0)))]) H1 → va_D A (ws ++ [(q, .inl (cI, n, .inl (nF fun _ => 0)))]) → va_S A s.heap H1 locs → W p l e R s m args below meth c H1 locs (cells + 1) (slots + n) Q (F0 m (pc + 2) ls (.ref q :: rest))) : W p l e R s m args below meth c H locs cells slots Q (F0 m pc ls (.int (nI n) :: rest)) := by
  refine va_newa (atype := .int) (ty := .int) (N' := n) (a0 := (n, .inl (nF fun _ => 0))) hx hb harr rfl hK hP hD hS hA (fun _ => nz_I _ _) (nI_pos (by omega)) (nI_clamp (by omega)) (bytes4 hn) hcells hslots hdg (fun q cA H1 hK1 hP1 hD1 hS1 => ?_)
  have e1 : va_RA s cA .int := (hK1.2 2 _ rfl).2
  have e2 : va_RA s cI .int := (hK.2 0 _ rfl).2
  have e3 : cA = cI := Option.some.inj ((show s.vm.findClass _ = some cA from e1).symm.trans (show s.vm.findClass _ = some cI from e2))
  subst e3
  exact kk q H1 hP1 hD1 hS1
theorem nv_newZ (hx : p.tables.exec = Jvm.exec) (hb : c.code = cc) (harr : (Cond.arrayClass .boolean).before args s = true) (hK : va_K D vwCl (tyB cI cZ) s) (hP : va_P D vwCl ws H) (hD : va_D A ws) (hS : va_S A s.heap H locs) (hA : ∀ q : Nat, s.heap.size ≤ q → A q) {n : Nat} (hn : n < 65536) (hcells : cells + 1 ≤ R.cells) (hslots : slots + n ≤ R.slots) (hdg : decode cc pc = .ok (.newarray .boolean, 2))
    (kk : ∀ (q : Nat) (H1 : Heap), va_P D vwCl (ws ++ [(q, .inl (cZ, n, .inl (nF fun _ => 0)))]) H1 → va_D A (ws ++ [(q, .inl (cZ, n, .inl (nF fun _ => 0)))]) → va_S A s.heap H1 locs → W p l e R s m args below meth c H1 locs (cells + 1) (slots + n) Q (F0 m (pc + 2) ls (.ref q :: rest))) : W p l e R s m args below meth c H locs cells slots Q (F0 m pc ls (.int (nI n) :: rest)) := by
  refine va_newa (atype := .boolean) (ty := .boolean) (N' := n) (a0 := (n, .inl (nF fun _ => 0))) hx hb harr rfl hK hP hD hS hA (fun _ => nz_Z _ _) (nI_pos (by omega)) (nI_clamp (by omega)) (bytes1 hn) hcells hslots hdg (fun q cA H1 hK1 hP1 hD1 hS1 => ?_)
  have e1 : va_RA s cA .boolean := (hK1.2 2 _ rfl).2
  have e2 : va_RA s cZ .boolean := (hK.2 1 _ rfl).2
  have e3 : cA = cZ := Option.some.inj ((show s.vm.findClass _ = some cA from e1).symm.trans (show s.vm.findClass _ = some cZ from e2))
  subst e3
  exact kk q H1 hP1 hD1 hS1
variable {st0 As : List Value} {y : MethodName} {bytes : ByteArray} {maxL nL n index : Nat} {wy Ts : List Cond} {rm : Room} {own : String} {b mc ms : Nat}
theorem gcI {S : Type} {post : S → Prop} {wf : S → va_W} {wc wr : va_W} {ws' : S → va_W} (Sx : CallFix p m c cc nL s args Ts own) (hM : MV l y wy rm D cI cZ tt (.ref b :: As) wc H.size mc ms post wf) (cw : CallB R s args own index y bytes maxL none wy rm mc ms n ∧ y.name = "<init>" ∧ (Cond.instanceMethod y).before args s = true)
    (hP : va_P D vwCl ws H) (hK : va_K D vwCl (tyB cI cZ) s) (hD : va_D A ws) (hS : va_S A s.heap H locs) (hA : ∀ q : Nat, s.heap.size ≤ q → A q) (hG : gS tt A s s.heap) (isC isR is : List Nat) (hnC : va_nd isC = true) (hC : isC.map (fun i => ws[i]?) = wc.map some) (hR : isR.map (fun i => ws[i]?) = wr.map some) (hnR : va_nd isR = true) (hdis : isR.all (fun i => !isC.contains i) = true) (hn : va_nd is = true) (hs : ∀ u, is.map (fun i => (wr ++ wf u)[i]?) = (ws' u).map some)
    (hsz : ls.size = nL) (hlen : As.length = n) (hst : st0 = As.reverse ++ .ref b :: rest) (hrm : (rest.map fun v => v.category).sum ≤ 8) (hf : cells + mc ≤ R.cells ∧ slots + ms ≤ R.slots) (hdg : decode cc pc = .ok (.invokespecial index, 3))
    (kk : ∀ (u : S) (H1 : Heap) (locs1 : List Loc), post u → va_P D vwCl (ws' u) H1 → va_D A (ws' u) → va_S A s.heap H1 locs1 → W p l e R s m args below meth c H1 locs1 (cells + mc) (slots + ms) Q (F0 m (pc + 3) ls rest)) : W p l e R s m args below meth c H locs cells slots Q (F0 m pc ls st0) := by
  have hF := va_free hD hS hA isC hC
  refine va_callv (va_runI (As := As) (rest := rest) Sx hM cw (preI (As := .ref b :: As) hP hK hD hS hA hG isC hnC hC) rfl hlen hsz hst (lv_room hrm) hdg hf) hS (fun q _ h => hF q h) hF (fun u t H1 locs1 ht hvm hp hB hz1 hk1 hS1 => ?_)
  obtain ⟨hP1, hK1, hD1⟩ := hB
  rw [ht] at hP1
  obtain ⟨h1, h2⟩ := backW (wf := wf) (ws' := ws') hP hD hS hA isC isR is hC hR hnR hdis hn hs hk1 hP1 hD1
  exact kk u H1 locs1 hp h1 h2 hS1
theorem gcIN {S : Type} {host : String} {post : S → Prop} {wf : S → va_W} {wc wr : va_W} {ws' : S → va_W} (Sx : CallFix p m c cc nL s args Ts own) (hM : MV l y wy rm D cI cZ tt (.ref b :: As) wc H.size mc ms post wf) (cw : va_CN R s args own index y host bytes maxL none wy rm mc ms n) (hin : (Cond.instanceMethod y).before args s = true) (hy : y.name = "<init>")
    (hP : va_P D vwCl ws H) (hK : va_K D vwCl (tyB cI cZ) s) (hD : va_D A ws) (hS : va_S A s.heap H locs) (hA : ∀ q : Nat, s.heap.size ≤ q → A q) (hG : gS tt A s s.heap) (isC isR is : List Nat) (hnC : va_nd isC = true) (hC : isC.map (fun i => ws[i]?) = wc.map some) (hR : isR.map (fun i => ws[i]?) = wr.map some) (hnR : va_nd isR = true) (hdis : isR.all (fun i => !isC.contains i) = true) (hn : va_nd is = true) (hs : ∀ u, is.map (fun i => (wr ++ wf u)[i]?) = (ws' u).map some)
    (hsz : ls.size = nL) (hlen : As.length = n) (hst : st0 = As.reverse ++ .ref b :: rest) (hrm : (rest.map fun v => v.category).sum ≤ 8) (hf : cells + mc ≤ R.cells ∧ slots + ms ≤ R.slots) (hdg : decode cc pc = .ok (.invokespecial index, 3))
    (kk : ∀ (u : S) (H1 : Heap) (locs1 : List Loc), post u → va_P D vwCl (ws' u) H1 → va_D A (ws' u) → va_S A s.heap H1 locs1 → W p l e R s m args below meth c H1 locs1 (cells + mc) (slots + ms) Q (F0 m (pc + 3) ls rest)) : W p l e R s m args below meth c H locs cells slots Q (F0 m pc ls st0) := by
  have hF := va_free hD hS hA isC hC
  refine va_callv (va_runIN (As := As) (rest := rest) Sx hM ⟨cw, hy, hin⟩ (preI (As := .ref b :: As) hP hK hD hS hA hG isC hnC hC) rfl hlen hsz hst (lv_room hrm) hdg hf) hS (fun q _ h => hF q h) hF (fun u t H1 locs1 ht hvm hp hB hz1 hk1 hS1 => ?_)
  obtain ⟨hP1, hK1, hD1⟩ := hB
  rw [ht] at hP1
  obtain ⟨h1, h2⟩ := backW (wf := wf) (ws' := ws') hP hD hS hA isC isR is hC hR hnR hdis hn hs hk1 hP1 hD1
  exact kk u H1 locs1 hp h1 h2 hS1
end NVW
