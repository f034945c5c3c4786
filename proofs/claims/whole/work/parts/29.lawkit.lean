/-! ===== the law's own rows, and its start ===== -/
section LWK
variable {p : Program} {l : Launch} {e : Env} {R : Room} {s : State} {m : MethodId} {args : Array Value} {below : List Frame} {meth : Method} {c : Code} {H : Heap} {locs : List Loc} {cells slots : Nat} {Q : State → Prop}
variable {cc : ByteArray} {pc : Nat} {ls : Array Slot} {rest : List Value} {A : Nat → Prop}
theorem nv_sld (hx : p.tables.exec = Jvm.exec) (hb : c.code = cc) {b SL : Nat} {xs : Nat → Int32} (hX : va_X b SL xs s s.heap) (hbl : b < s.heap.size) (hbA : ¬ A b) (hS : va_S A s.heap H locs) {i : Nat} (hi : i < SL) (hSL : SL ≤ 3072) (hdg : decode cc pc = .ok (.iaload, 1))
    (kk : W p l e R s m args below meth c H locs cells slots Q (F0 m (pc + 1) ls (.int (xs i) :: rest))) : W p l e R s m args below meth c H locs cells slots Q (F0 m pc ls (.int (nI i) :: .ref b :: rest)) := by
  refine va_sld hx hb hX hbl hbA hS (vp_in_nI hi (by omega)) hdg ?_
  rw [nI_clamp (by omega)]
  exact kk
end LWK
theorem law_end {SL i : Nat} (hSL : SL ≤ 3072) (hi : i ≤ 4000) (h : ¬ nI SL - nI 6 < nI i) : i + 6 ≤ SL := by
  rw [i_lt, pk_sub_toInt (by omega) (by decide), nI_T (by omega)] at h
  omega
theorem st_one {args : Array Value} {s : State} {A : Nat → Prop} {n : String} {N : Nat} {f : Nat → Value} (hN : N < 2 ^ 31) (hl : (Cond.laysStatic RX4 n "[I").before args s = true) (hi : (Cond.initialized RX4).before args s = true) (ha : (Cond.arrayOf (.static RX4 n "[I") .int).before args s = true) (hlen : (Cond.eq (.length (.static RX4 n "[I")) (.int (Int32.ofNat N))).before args s = true)
    (hel : ∀ j : Nat, j < N → ∃ v : Int32, f j = .int v ∧ (Cond.eq (.elem (.static RX4 n "[I") (.int (Int32.ofNat j))) (.int v)).before args s = true) (hA : ∀ a : Nat, a < s.heap.size → ¬ A a) : ∃ t : Nat, va_Z RX4 n "[I" (.ref t) A s s.heap ∧ va_T .int t N f A s s.heap := by
  obtain ⟨t, ht, hT⟩ := va_Tof (f := f) (tm := .static RX4 n "[I") hN ha (va_eqt hlen) (fun j hj => by obtain ⟨v, e1, e2⟩ := hel j hj; rw [e1]; exact va_eqt e2) hA
  exact ⟨t, va_Zof hl hi ht hA, hT⟩
set_option maxRecDepth 20000 in
theorem st_0 {s : State} {b : Nat} {A : Nat → Prop} (hf : ∀ w ∈ flatC (Jvm.Cond.and given_1 narrow_1), w.before #[Value.ref b] s = true) (hts : ∀ w ∈ lw_tbl, w.before #[Value.ref b] s = true) (hA : ∀ a : Nat, a < s.heap.size → ¬ A a) : ∃ t : Nat, va_Z RX4 (stN 0) "[I" (.ref t) A s s.heap ∧ va_T .int t (stL 0) (stF 0) A s s.heap :=
  st_one (by decide) (hts _ (by decide +kernel)) (hts _ (by decide +kernel)) (hf _ (by decide +kernel)) (hf _ (by decide +kernel)) (fun j hj => by
    have hj : j < 8 := hj
    rcases (show j = 0 ∨ j = 1 ∨ j = 2 ∨ j = 3 ∨ j = 4 ∨ j = 5 ∨ j = 6 ∨ j = 7 by omega) with rfl | rfl | rfl | rfl | rfl | rfl | rfl | rfl <;> exact ⟨_, rfl, hf _ (by decide +kernel)⟩) hA
set_option maxRecDepth 20000 in
theorem st_1 {s : State} {b : Nat} {A : Nat → Prop} (hf : ∀ w ∈ flatC (Jvm.Cond.and given_1 narrow_1), w.before #[Value.ref b] s = true) (hts : ∀ w ∈ lw_tbl, w.before #[Value.ref b] s = true) (hA : ∀ a : Nat, a < s.heap.size → ¬ A a) : ∃ t : Nat, va_Z RX4 (stN 1) "[I" (.ref t) A s s.heap ∧ va_T .int t (stL 1) (stF 1) A s s.heap :=
  st_one (by decide) (hts _ (by decide +kernel)) (hts _ (by decide +kernel)) (hf _ (by decide +kernel)) (hf _ (by decide +kernel)) (fun j hj => by
    have hj : j < 4 := hj
    rcases (show j = 0 ∨ j = 1 ∨ j = 2 ∨ j = 3 by omega) with rfl | rfl | rfl | rfl <;> exact ⟨_, rfl, hf _ (by decide +kernel)⟩) hA
set_option maxRecDepth 20000 in
theorem st_2 {s : State} {b : Nat} {A : Nat → Prop} (hf : ∀ w ∈ flatC (Jvm.Cond.and given_1 narrow_1), w.before #[Value.ref b] s = true) (hts : ∀ w ∈ lw_tbl, w.before #[Value.ref b] s = true) (hA : ∀ a : Nat, a < s.heap.size → ¬ A a) : ∃ t : Nat, va_Z RX4 (stN 2) "[I" (.ref t) A s s.heap ∧ va_T .int t (stL 2) (stF 2) A s s.heap :=
  st_one (by decide) (hts _ (by decide +kernel)) (hts _ (by decide +kernel)) (hf _ (by decide +kernel)) (hf _ (by decide +kernel)) (fun j hj => by
    have hj : j < 4 := hj
    rcases (show j = 0 ∨ j = 1 ∨ j = 2 ∨ j = 3 by omega) with rfl | rfl | rfl | rfl <;> exact ⟨_, rfl, hf _ (by decide +kernel)⟩) hA
set_option maxRecDepth 20000 in
theorem st_3 {s : State} {b : Nat} {A : Nat → Prop} (hf : ∀ w ∈ flatC (Jvm.Cond.and given_1 narrow_1), w.before #[Value.ref b] s = true) (hts : ∀ w ∈ lw_tbl, w.before #[Value.ref b] s = true) (hA : ∀ a : Nat, a < s.heap.size → ¬ A a) : ∃ t : Nat, va_Z RX4 (stN 3) "[I" (.ref t) A s s.heap ∧ va_T .int t (stL 3) (stF 3) A s s.heap :=
  st_one (by decide) (hts _ (by decide +kernel)) (hts _ (by decide +kernel)) (hf _ (by decide +kernel)) (hf _ (by decide +kernel)) (fun j hj => by
    have hj : j < 4 := hj
    rcases (show j = 0 ∨ j = 1 ∨ j = 2 ∨ j = 3 by omega) with rfl | rfl | rfl | rfl <;> exact ⟨_, rfl, hf _ (by decide +kernel)⟩) hA
set_option maxRecDepth 20000 in
theorem st_4 {s : State} {b : Nat} {A : Nat → Prop} (hf : ∀ w ∈ flatC (Jvm.Cond.and given_1 narrow_1), w.before #[Value.ref b] s = true) (hts : ∀ w ∈ lw_tbl, w.before #[Value.ref b] s = true) (hA : ∀ a : Nat, a < s.heap.size → ¬ A a) : ∃ t : Nat, va_Z RX4 (stN 4) "[I" (.ref t) A s s.heap ∧ va_T .int t (stL 4) (stF 4) A s s.heap :=
  st_one (by decide) (hts _ (by decide +kernel)) (hts _ (by decide +kernel)) (hf _ (by decide +kernel)) (hf _ (by decide +kernel)) (fun j hj => by
    have hj : j < 4 := hj
    rcases (show j = 0 ∨ j = 1 ∨ j = 2 ∨ j = 3 by omega) with rfl | rfl | rfl | rfl <;> exact ⟨_, rfl, hf _ (by decide +kernel)⟩) hA
theorem st_tab {s : State} {b : Nat} {A : Nat → Prop} (hf : ∀ w ∈ flatC (Jvm.Cond.and given_1 narrow_1), w.before #[Value.ref b] s = true) (hts : ∀ w ∈ lw_tbl, w.before #[Value.ref b] s = true) (hA : ∀ a : Nat, a < s.heap.size → ¬ A a) : ∃ tt : Nat → Nat, ∀ k, k < 5 → va_Z RX4 (stN k) "[I" (.ref (tt k)) A s s.heap ∧ va_T .int (tt k) (stL k) (stF k) A s s.heap := by
  obtain ⟨t0, h0⟩ := st_0 hf hts hA
  obtain ⟨t1, h1⟩ := st_1 hf hts hA
  obtain ⟨t2, h2⟩ := st_2 hf hts hA
  obtain ⟨t3, h3⟩ := st_3 hf hts hA
  obtain ⟨t4, h4⟩ := st_4 hf hts hA
  refine ⟨fun k => if k = 0 then t0 else if k = 1 then t1 else if k = 2 then t2 else if k = 3 then t3 else t4, fun k hk => ?_⟩
  rcases (show k = 0 ∨ k = 1 ∨ k = 2 ∨ k = 3 ∨ k = 4 by omega) with rfl | rfl | rfl | rfl | rfl
  · exact h0
  · exact h1
  · exact h2
  · exact h3
  · exact h4
set_option maxRecDepth 20000 in
theorem nest_in : nestM.all (fun w => decide (Cond.methodLinkNest w.1 w.2.1 w.2.2 RX4 ∈ lw_tbl)) = true := by decide +kernel
set_option maxRecDepth 20000 in
theorem nestF_in : (List.range 5).all (fun k => decide (Cond.fieldLinkNest (stO k).1 (stO k).2 RX4 (stN k) "[I" RX4 ∈ lw_tbl)) = true := by decide +kernel
theorem arr_of {args : Array Value} {s : State} {ty : FieldType} (h : (Cond.arrayClass ty).before args s = true) (hty : ty = .int ∨ ty = .boolean) : ∃ cA : ClassId, ArrOfT s cA ty ∧ va_RA s cA ty := by
  obtain ⟨cA, kA, comp, h1, h2, h3⟩ := Cond.arrayClass_spec h
  refine ⟨cA, fun n z => ⟨fun k h => (by cases h), kA, h2, comp, h3⟩, ?_⟩
  rcases hty with rfl | rfl
  · exact h1
  · exact h1
set_option maxHeartbeats 4000000 in
theorem lawEnt {p : Program} {e : Env} {s : State} {m : MethodId} {below : List Frame} {meth : Method} {c : Code} (l : Launch) {b SL : Nat} {xs : Nat → Int32} (C0 : lw_At p s m meth c b SL xs)
    (k : ∀ (args : Array Value) (A : Nat → Prop) (Q : State → Prop) (H : Heap) (ls : Array Slot) (D : va_G) (cI cZ : ClassId) (tt : Nat → Nat), p.tables.exec = Jvm.exec → c.code = code → c.maxLocals = 4 → s.vm.findClass RL = some m.cls → (∀ w ∈ wsL_law, w.before args s = true) → (∀ q : Nat, s.heap.size ≤ q → A q) → va_P D vwCl [] H → va_K D vwCl (tyB cI cZ) s → va_D A [] → va_S A s.heap H [] → gS tt A s s.heap → va_X b SL xs s s.heap → b < s.heap.size → ¬ A b →
      (∀ (H : Heap) (locs : List Loc) (pc : Nat) (ls : Array Slot), decode code pc = .ok (.ireturn, 1) → va_S A s.heap H locs → W p l e room_1 s m args below meth c H locs 38 1972 Q (F0 m pc ls [.int (nI 1)])) →
      lv_has ls 4 [(0, .ref b)] → W p l e room_1 s m args below meth c H [] 0 0 Q (F0 m 0 ls [])) :
    W p l e room_1 s m #[Value.ref b] below meth c s.heap [] 0 0 (lw_Z below #[Value.ref b] s) (entryFrame m ([Value.ref b] : List Value).toArray 4) := by
  obtain ⟨hx, hb, hr, hml, hown, hts, hX, hbl, hlocks, hgv⟩ := id C0
  have hA : ∀ a : Nat, a < s.heap.size → ¬ (fun q : Nat => s.heap.size ≤ q) a := fun a h => Nat.not_le.mpr h
  have htsL : ∀ w ∈ wsL_law, w.before #[Value.ref b] s = true := fun w h => hts w (wsL_law_in w h)
  obtain ⟨c0, i0, k0⟩ := u_known (C := RX0) (T := TX0) (N := 5) (n := 5) hts inX0 (htsL (.instantiable RX0 5) (by decide +kernel))
  obtain ⟨c1, i1, k1⟩ := u_known (C := RX1) (T := TX1) (N := 9) (n := 9) hts inX1 (htsL (.instantiable RX1 9) (by decide +kernel))
  obtain ⟨c2, i2, k2⟩ := u_known (C := RX2) (T := TX2) (N := 3) (n := 3) hts inX2 (htsL (.instantiable RX2 3) (by decide +kernel))
  obtain ⟨c3, i3, k3⟩ := u_known (C := RX3) (T := TX3) (N := 1) (n := 1) hts inX3 (htsL (.instantiable RX3 1) (by decide +kernel))
  obtain ⟨c4, i4, k4⟩ := u_known (C := RX4) (T := TX4) (N := 5) (n := 5) hts inX4 (htsL (.instantiable RX4 5) (by decide +kernel))
  obtain ⟨c5, i5, k5⟩ := u_known (C := RX5) (T := TX5) (N := 16) (n := 16) hts inX5 (htsL (.instantiable RX5 16) (by decide +kernel))
  obtain ⟨cI, aI, rI'⟩ := arr_of (htsL (.arrayClass .int) (by decide +kernel)) (Or.inl rfl)
  obtain ⟨cZ, aZ, rZ⟩ := arr_of (htsL (.arrayClass .boolean) (by decide +kernel)) (Or.inr rfl)
  obtain ⟨tt, ht⟩ := st_tab (A := fun q : Nat => s.heap.size ≤ q) (flat_of_before _ hgv) hts hA
  obtain ⟨dC, dI, hKc⟩ : ∃ (dC : Nat → ClassId) (dI : Nat → Nat → Nat), ∀ (k : Nat) (q : vw_C), vwCl[k]? = some q → u_Kn s q.1 q.2.1 q.2.2 (dC k) (dI k) := by
    refine ⟨fun k => if k = 0 then c0 else if k = 1 then c1 else if k = 2 then c2 else if k = 3 then c3 else if k = 4 then c4 else c5, fun k => if k = 0 then i0 else if k = 1 then i1 else if k = 2 then i2 else if k = 3 then i3 else if k = 4 then i4 else i5, ?_⟩
    intro k q hq
    match k, hq with
    | 0, hq => cases hq; exact k0
    | 1, hq => cases hq; exact k1
    | 2, hq => cases hq; exact k2
    | 3, hq => cases hq; exact k3
    | 4, hq => cases hq; exact k4
    | 5, hq => cases hq; exact k5
    | k + 6, hq => simp [vwCl] at hq
  have hK : va_K (dC, dI) vwCl (tyB cI cZ) s := ⟨hKc, fun k q h => by
    match k, h with
    | 0, h => cases h; exact ⟨aI, rI'⟩
    | 1, h => cases h; exact ⟨aZ, rZ⟩
    | k + 2, h => simp at h⟩
  have hG : gS tt (fun q : Nat => s.heap.size ≤ q) s s.heap := by
    refine ⟨fun w hw => ?_, fun k hk => ⟨?_, ht k hk⟩⟩
    · exact va_Nw.of rfl (hts _ (of_decide_eq_true (List.all_eq_true.mp nest_in w hw)))
    · exact va_Nw.of rfl (hts _ (of_decide_eq_true (List.all_eq_true.mp nestF_in k (List.mem_range.mpr hk))))
  rw [lg_entry_eq]
  refine k #[Value.ref b] (fun q : Nat => s.heap.size ≤ q) (lw_Z below #[Value.ref b] s) s.heap _ (dC, dI) cI cZ tt hx hb hml hown htsL (fun _ h => h) (fun k q h => by simp at h) hK ⟨fun i j p q h => by simp at h, fun k q h => by simp at h⟩ va_S.rf hG hX hbl (Nat.not_le.mpr hbl) ?_ (lv_entry ([.ref b]) (n := 4) (Nat.le_of_ble_eq_true rfl))
  intro H locs pc ls hdg hS
  refine va_forget (fun q hq => hS.2.2 q hq) ?_
  exact lw_ret hx hb hr hlocks hdg
/-! what each call keeps -/
theorem uTone_le {T : Nat → Nat} {x y v : Int32} (h : ∀ k, T k ≤ 100) : ∀ k, uTone T x y v k ≤ 100 := by
  intro k
  unfold uTone
  split
  · rename_i q
    obtain ⟨a, ha, rfl⟩ := okt_nat q.2
    rw [cl_n (by omega)]
    unfold va_up
    split
    · exact ha
    · exact h k
  · exact h k
theorem uShade_le {T : Nat → Nat} {x0 y0 x1 y1 v : Int32} (h : ∀ k, T k ≤ 100) : ∀ k, uShade T x0 y0 x1 y1 v k ≤ 100 := by
  intro k
  unfold uShade
  split
  · rename_i q
    obtain ⟨a, ha, rfl⟩ := okt_nat q.2.2.1
    rw [cl_n (a := a) (by omega)]
    exact shY_le h ha _ k
  · exact h k
theorem uTell_lt {U : Nat → Nat} {x y t : Int32} (h : ∀ k, U k < 8) : ∀ k, uTell U x y t k < 8 := by
  intro k
  unfold uTell
  split
  · rename_i q
    obtain ⟨a, ha, rfl⟩ := okT_nat q.2
    rw [cl_n (by omega)]
    unfold va_up
    split
    · exact ha
    · exact h k
  · exact h k
theorem bTell_lt {B : Nat → Nat} {x y t : Int32} (h : ∀ k, B k < 2) : ∀ k, bTell B x y t k < 2 := by
  intro k
  unfold bTell
  split
  · unfold va_up
    split
    · omega
    · exact h k
  · exact h k
theorem bFree_lt {B : Nat → Nat} {x y : Int32} (h : ∀ k, B k < 2) : ∀ k, bFree B x y k < 2 := by
  intro k
  unfold bFree
  split
  · unfold va_up
    split
    · omega
    · exact h k
  · exact h k
theorem setG_keep {G : Nat → Nat} {what v : Int32} (h : ∀ k, G k ≤ 100) (h4 : 4 ≤ G 0) : (∀ k, setG G what v k ≤ 100) ∧ 4 ≤ setG G what v 0 := by
  by_cases q : okset what v
  · obtain ⟨k, hk, rfl⟩ := up_to' (by decide) q.1 q.2.1
    have q2 := (okset_k hk).mp q
    obtain ⟨b, hb, rfl⟩ := set_nat hk q2.1 q2.2
    rw [(setG_yes hk hb q).1]
    refine ⟨fun j => ?_, ?_⟩
    · unfold va_up
      split
      · exact hb
      · exact h j
    · unfold va_up
      split
      · rename_i e
        subst e
        have z := (inr_iff (by decide) (by decide)).mp ((okset_0 _).mp q)
        rw [nI_T (by omega)] at z
        omega
      · exact h4
  · rw [(setG_no q).1]
    exact ⟨h, h4⟩
