/-! ===== ORDER and AIR ===== -/
theorem fr_le {a b : Nat} (ha : a < 64) (hb : b < 64) : fr a b ≤ 7 := by unfold fr nd; omega
def dfn (F L : Nat → Nat) (a k : Nat) : Nat := min (fr a (F k)) (fr a (L k))
/-- the first nearest one of 0 .. n - 1 that is not done, and how near; 64: none -/
def sc (d e : Nat → Nat) (big : Nat) : Nat → Nat × Nat
  | 0 => (64, big)
  | k + 1 => if e k = 0 ∧ d k < (sc d e big k).2 then (k, d k) else sc d e big k
theorem sc_cong {d d2 e e2 : Nat → Nat} {big : Nat} : ∀ {n : Nat}, (∀ k, k < n → d k = d2 k ∧ e k = e2 k) → sc d e big n = sc d2 e2 big n
  | 0, _ => rfl
  | n + 1, h => by rw [sc, sc, sc_cong (fun k hk => h k (by omega)), (h n (by omega)).1, (h n (by omega)).2]
theorem sc_spec {d e : Nat → Nat} : ∀ n, n ≤ 64 → (∀ k, k < n → d k < 8) → (sc d e 8 n = (64, 8) ∧ sc d e 100 n = (64, 100) ∧ ∀ k, k < n → ¬ e k = 0) ∨ (sc d e 8 n = sc d e 100 n ∧ (sc d e 8 n).1 < n ∧ (sc d e 8 n).2 = d (sc d e 8 n).1 ∧ e (sc d e 8 n).1 = 0 ∧ (sc d e 8 n).2 < 8)
  | 0, _, _ => Or.inl ⟨rfl, rfl, fun k hk => absurd hk (by omega)⟩
  | n + 1, hn, hd => by
    have hdn := hd n (by omega)
    rcases sc_spec (d := d) (e := e) n (by omega) (fun k hk => hd k (by omega)) with ⟨a, b, c⟩ | ⟨a, b, c, f, g⟩
    · by_cases h : e n = 0
      · right
        have e1 : sc d e 8 (n + 1) = (n, d n) := by rw [sc, a, if_pos ⟨h, hdn⟩]
        have e2 : sc d e 100 (n + 1) = (n, d n) := by rw [sc, b, if_pos ⟨h, by show d n < 100; omega⟩]
        rw [e1, e2]
        exact ⟨rfl, by show n < n + 1; omega, rfl, h, hdn⟩
      · left
        rw [sc, sc, if_neg (fun q => h q.1), if_neg (fun q => h q.1)]
        refine ⟨a, b, fun k hk => ?_⟩
        rcases Nat.lt_or_ge k n with q | q
        · exact c k q
        · rw [show k = n by omega]; exact h
    · right
      by_cases h : e n = 0 ∧ d n < (sc d e 8 n).2
      · have e1 : sc d e 8 (n + 1) = (n, d n) := by rw [sc, if_pos h]
        have e2 : sc d e 100 (n + 1) = (n, d n) := by rw [sc, ← a, if_pos h]
        rw [e1, e2]
        exact ⟨rfl, by show n < n + 1; omega, rfl, h.1, hdn⟩
      · have e1 : sc d e 8 (n + 1) = sc d e 8 n := by rw [sc, if_neg h]
        have e2 : sc d e 100 (n + 1) = sc d e 8 n := by rw [sc, ← a, if_neg h]
        rw [e1, e2]
        exact ⟨rfl, by omega, c, f, g⟩
/-- where the tool begins a PATH, and where it is then -/
def stt (F L : Nat → Nat) (a k : Nat) : Nat := if fr a (F k) ≤ fr a (L k) then F k else L k
def en (F L : Nat → Nat) (a k : Nat) : Nat := if fr a (F k) ≤ fr a (L k) then L k else F k
theorem stt_df (F L : Nat → Nat) (a k : Nat) : fr a (stt F L a k) = dfn F L a k := by
  unfold stt dfn
  split <;> omega
/-- behind i PATHS: where the tool is, which are done, how far it went -/
def os (F L : Nat → Nat) (n : Nat) : Nat → Nat × (Nat → Nat) × Nat
  | 0 => (0, fun _ => 0, 0)
  | i + 1 => (en F L (os F L n i).1 (sc (dfn F L (os F L n i).1) (os F L n i).2.1 8 n).1, va_up (os F L n i).2.1 (sc (dfn F L (os F L n i).1) (os F L n i).2.1 8 n).1 1, (os F L n i).2.2 + fr (os F L n i).1 (stt F L (os F L n i).1 (sc (dfn F L (os F L n i).1) (os F L n i).2.1 8 n).1))
def od (F L : Nat → Nat) (n i : Nat) : Nat := (sc (dfn F L (os F L n i).1) (os F L n i).2.1 8 n).1
def bgc (F L : Nat → Nat) (n i : Nat) : Nat := stt F L (os F L n i).1 (od F L n i)
theorem holes : ∀ (m n : Nat) (f : Nat → Nat), (∀ i, i < n → f i < m) → (∀ i j, i < j → j < n → f i ≠ f j) → n ≤ m
  | 0, n, f, h, _ => by
    rcases Nat.eq_zero_or_pos n with q | q
    · omega
    · exact absurd (h 0 q) (by omega)
  | m + 1, n, f, h, hi => by
    rcases Nat.eq_zero_or_pos n with q | q
    · omega
    · -- take the value of the last place out
      have key := holes m (n - 1) (fun i => if f i < f (n - 1) then f i else f i - 1) (fun i hi2 => by
          have h1 := h i (by omega)
          have h2 := h (n - 1) (by omega)
          have h3 := hi i (n - 1) (by omega) (by omega)
          show (if f i < f (n - 1) then f i else f i - 1) < m
          split <;> omega) (fun i j hij hj => by
          have h1 := hi i j hij (by omega)
          have h2 := hi i (n - 1) (by omega) (by omega)
          have h3 := hi j (n - 1) (by omega) (by omega)
          show (if f i < f (n - 1) then f i else f i - 1) ≠ (if f j < f (n - 1) then f j else f j - 1)
          split <;> split <;> omega)
      omega
theorem osI {F L : Nat → Nat} {n : Nat} (hn : n ≤ 64) (hFL : ∀ k, k < n → F k < 64 ∧ L k < 64) : ∀ i, i ≤ n → (os F L n i).1 < 64 ∧ (∀ k, (os F L n i).2.1 k < 2) ∧ (∀ k, (os F L n i).2.1 k = 0 ↔ ∀ j, j < i → od F L n j ≠ k) ∧ (∀ j, j < i → od F L n j < n) ∧ (∀ j j2, j < j2 → j2 < i → od F L n j ≠ od F L n j2)
  | 0, _ => ⟨by show 0 < 64; omega, fun k => by show 0 < 2; omega, fun k => ⟨fun _ j hj => absurd hj (by omega), fun _ => rfl⟩, fun j hj => absurd hj (by omega), fun j j2 _ hj => absurd hj (by omega)⟩
  | i + 1, hi => by
    obtain ⟨a, b, c, d, e⟩ := osI hn hFL i (by omega)
    have hd8 : ∀ k, k < n → dfn F L (os F L n i).1 k < 8 := fun k hk => by
      have h1 := fr_le a (hFL k hk).1
      unfold dfn
      omega
    have hk : od F L n i < n ∧ (os F L n i).2.1 (od F L n i) = 0 := by
      rcases sc_spec (d := dfn F L (os F L n i).1) (e := (os F L n i).2.1) n hn hd8 with ⟨z1, z2, z3⟩ | ⟨z1, z2, z3, z4, z5⟩
      · exfalso
        have hall : ∀ k, k < n → ∃ j, j < i ∧ od F L n j = k := fun k hk => by
          apply Classical.byContradiction
          intro q
          exact z3 k hk ((c k).mpr (fun j hj e => q ⟨j, hj, e⟩))
        have hex : ∀ k, ∃ j, k < n → (j < i ∧ od F L n j = k) := fun k => by
          by_cases hk : k < n
          · obtain ⟨j, hj⟩ := hall k hk; exact ⟨j, fun _ => hj⟩
          · exact ⟨0, fun q => absurd q hk⟩
        have := holes i n (fun k => (hex k).choose) (fun k hk => ((hex k).choose_spec hk).1) (fun k k2 h1 h2 q => by
          have e1 := ((hex k).choose_spec (by omega)).2
          have e2 := ((hex k2).choose_spec h2).2
          have q : (hex k).choose = (hex k2).choose := q
          rw [q, e2] at e1
          omega)
        omega
      · exact ⟨z2, z4⟩
    have hfl := hFL _ hk.1
    refine ⟨?_, fun k => ?_, fun k => ?_, fun j hj => ?_, fun j j2 h1 h2 => ?_⟩
    · show en F L (os F L n i).1 (od F L n i) < 64
      unfold en
      split <;> omega
    · show va_up (os F L n i).2.1 (od F L n i) 1 k < 2
      unfold va_up
      split
      · omega
      · exact b k
    · show va_up (os F L n i).2.1 (od F L n i) 1 k = 0 ↔ _
      unfold va_up
      split
      · rename_i q
        constructor
        · intro z; omega
        · intro z; exact absurd q.symm (z i (by omega))
      · rename_i q
        rw [c k]
        constructor
        · intro z j hj
          rcases Nat.lt_or_ge j i with r | r
          · exact z j r
          · rw [show j = i by omega]; exact fun x => q x.symm
        · intro z j hj
          exact z j (by omega)
    · rcases Nat.lt_or_ge j i with r | r
      · exact d j r
      · rw [show j = i by omega]; exact hk.1
    · rcases Nat.lt_or_ge j2 i with r | r
      · exact e j j2 h1 r
      · rw [show j2 = i by omega]
        exact (c _).mp hk.2 j (by omega)
/-- only the PATHS there are count -/
theorem os_cong {F L F2 L2 : Nat → Nat} {n : Nat} (hn : n ≤ 64) (hFL : ∀ k, k < n → F k < 64 ∧ L k < 64) (h : ∀ k, k < n → F k = F2 k ∧ L k = L2 k) : ∀ i, i ≤ n → os F L n i = os F2 L2 n i ∧ ∀ j, j < i → od F L n j = od F2 L2 n j ∧ bgc F L n j = bgc F2 L2 n j
  | 0, _ => ⟨rfl, fun j hj => absurd hj (by omega)⟩
  | i + 1, hi => by
    obtain ⟨ih, ih2⟩ := os_cong hn hFL h i (by omega)
    have hs : sc (dfn F L (os F L n i).1) (os F L n i).2.1 8 n = sc (dfn F2 L2 (os F2 L2 n i).1) (os F2 L2 n i).2.1 8 n := by
      rw [ih]
      exact sc_cong (fun k hk => ⟨by unfold dfn; rw [(h k hk).1, (h k hk).2], rfl⟩)
    have ho : od F L n i = od F2 L2 n i := by unfold od; rw [hs]
    have hlt : od F L n i < n := (osI hn hFL (i + 1) hi).2.2.2.1 i (by omega)
    have hst : ∀ a, stt F L a (od F L n i) = stt F2 L2 a (od F2 L2 n i) := fun a => by
      unfold stt
      rw [← ho, (h _ hlt).1, (h _ hlt).2]
    have hen : ∀ a, en F L a (od F L n i) = en F2 L2 a (od F2 L2 n i) := fun a => by
      unfold en
      rw [← ho, (h _ hlt).1, (h _ hlt).2]
    refine ⟨?_, fun j hj => ?_⟩
    · show (en F L (os F L n i).1 (od F L n i), va_up (os F L n i).2.1 (od F L n i) 1, (os F L n i).2.2 + fr (os F L n i).1 (stt F L (os F L n i).1 (od F L n i))) = (en F2 L2 (os F2 L2 n i).1 (od F2 L2 n i), va_up (os F2 L2 n i).2.1 (od F2 L2 n i) 1, (os F2 L2 n i).2.2 + fr (os F2 L2 n i).1 (stt F2 L2 (os F2 L2 n i).1 (od F2 L2 n i)))
      rw [hen, hst, ho, ih]
    · rcases Nat.lt_or_ge j i with q | q
      · exact ih2 j q
      · rw [show j = i by omega]
        refine ⟨ho, ?_⟩
        unfold bgc
        rw [hst, ih]

set_option maxHeartbeats 4000000 in
set_option maxRecDepth 100000 in
theorem c_X0_has (l : Launch) (D : va_G) (cI cZ : ClassId) (tt : Nat → Nat) (sz : Nat) (k0 k1 k2 k3 : Nat) (pl aw : Nat) (Oc Bc Dc : Nat → Nat) (i : Int32)  : MI l yX0_has wsX0_has ({ frames := 0, cells := 0, slots := 0, locals := 0 } : Room) D cI cZ tt [.ref k0, .int (i)] [(k0, .inr (0, [.ref k1, .ref k2, .ref k3, .int (nI pl), .int (nI aw)])), (k1, .inl (cI, 64, .inl (nF Oc))), (k2, .inl (cI, 64, .inl (nF Bc))), (k3, .inl (cZ, 64, .inl (nF Dc)))] sz (fun (r : Int32) (_ : Unit) => r = nI (if ¬ i < 0 ∧ ¬ nI pl ≤ i ∧ ¬ nI 64 ≤ i then 1 else 0)) (fun (_ : Unit) => [(k0, .inr (0, [.ref k1, .ref k2, .ref k3, .int (nI pl), .int (nI aw)])), (k1, .inl (cI, 64, .inl (nF Oc))), (k2, .inl (cI, 64, .inl (nF Bc))), (k3, .inl (cZ, 64, .inl (nF Dc)))]) := by
  refine entI (cc := cX0_has) 2 (by decide) rfl (Nat.le_of_ble_eq_true rfl) (Or.inr ⟨rfl, fun v u h => by rw [h]; split <;> rfl⟩) (fun pr e s m args below meth c0 A Q H ls hx hb hml hown hts hsz hA hP hK hD hS hG hret hl => ?_)
  have hown : s.vm.findClass RX0 = some m.cls := hown
  have lk1 := hts (.fieldLink RX0 22 "BurinLines$Cutting" "planned" "I") (by decide +kernel)
  have hinX0 : ∀ w ∈ wsX00, w ∈ wsX0_has := by decide +kernel
  have hl : lv_has ls 2 [(0, .ref k0), (1, .int (i))] := hl
  refine lv_iload_n hx hb dX0_has_0 rfl (lv_at hl 1 rfl) ?_
  refine lv_if_lt (tgt := 22) hx hb dX0_has_1 (by decide) (fun c_1 => ?_) (fun c_1 => ?_)
  · skip
    refine lv_iconst (v := nI 0) hx hb dX0_has_22 (by decide) ?_
    exact hret _ () _ _ _ _ dX0_has_23 (by rw [if_neg (fun q => by obtain ⟨q1, q2, q3⟩ := q; contradiction)]) hP hD hS
  · skip
    refine lv_iload_n hx hb dX0_has_4 rfl (lv_at hl 1 rfl) ?_
    refine lv_aload_n hx hb dX0_has_5 rfl (lv_at hl 0 rfl) ?_
    refine va_get (D := D) (ci := 0) (v := .int (nI pl)) (C := RX0) (T := TX0) (N := 5) hx hb hts hinX0 hown hK hP 0 rfl rfl 3 (by decide) lk1 (fun _ h9 => h9) rfl dX0_has_6 ?_
    refine lv_icmp_ge (tgt := 22) hx hb dX0_has_9 (by decide) (fun c_2 => ?_) (fun c_2 => ?_)
    · skip
      refine lv_iconst (v := nI 0) hx hb dX0_has_22 (by decide) ?_
      exact hret _ () _ _ _ _ dX0_has_23 (by rw [if_neg (fun q => by obtain ⟨q1, q2, q3⟩ := q; contradiction)]) hP hD hS
    · skip
      refine lv_iload_n hx hb dX0_has_12 rfl (lv_at hl 1 rfl) ?_
      refine lv_bipush (v := nI 64) hx hb dX0_has_13 (by decide) ?_
      refine lv_icmp_ge (tgt := 22) hx hb dX0_has_15 (by decide) (fun c_3 => ?_) (fun c_3 => ?_)
      · skip
        refine lv_iconst (v := nI 0) hx hb dX0_has_22 (by decide) ?_
        exact hret _ () _ _ _ _ dX0_has_23 (by rw [if_neg (fun q => by obtain ⟨q1, q2, q3⟩ := q; contradiction)]) hP hD hS
      · skip
        refine lv_iconst (v := nI 1) hx hb dX0_has_18 (by decide) ?_
        refine lv_goto (tgt := 23) hx hb dX0_has_19 (by decide) ?_
        exact hret _ () _ _ _ _ dX0_has_23 (by rw [if_pos ⟨(by assumption), (by assumption), (by assumption)⟩]) hP hD hS

set_option maxHeartbeats 4000000 in
set_option maxRecDepth 100000 in
theorem c_X0_nearestPath (l : Launch) (D : va_G) (cI cZ : ClassId) (tt : Nat → Nat) (sz : Nat) (k0 k1 k2 k3 : Nat) (pl aw : Nat) (Oc Bc Dc : Nat → Nat) (l0 l1 l2 l3 l4 l5 l6 l7 : Nat) (nm np : Nat) (P Y V F L Z X : Nat → Nat) (a : Nat) (hnp : np ≤ 64) (hFL : ∀ k, k < np → F k < 64 ∧ L k < 64) (ha : a < 64) (hDc : ∀ k, k < 64 → Dc k < 2) : MI l yX0_nearestPath wsX0_nearestPath ({ frames := 2, cells := 0, slots := 0, locals := 44 } : Room) D cI cZ tt [.ref k0, .ref l0, .int (nI a)] [(k0, .inr (0, [.ref k1, .ref k2, .ref k3, .int (nI pl), .int (nI aw)])), (k1, .inl (cI, 64, .inl (nF Oc))), (k2, .inl (cI, 64, .inl (nF Bc))), (k3, .inl (cZ, 64, .inl (nF Dc))), (l0, .inr (1, [.int (nI nm), .ref l1, .ref l2, .ref l3, .ref l4, .ref l5, .ref l6, .ref l7, .int (nI np)])), (l1, .inl (cI, 64, .inl (nF P))), (l2, .inl (cI, 64, .inl (nF Y))), (l3, .inl (cI, 64, .inl (nF V))), (l4, .inl (cI, 64, .inl (nF F))), (l5, .inl (cI, 64, .inl (nF L))), (l6, .inl (cI, 64, .inl (nF Z))), (l7, .inl (cI, 64, .inl (nF X)))] sz (fun (r : Int32) (_ : Unit) => r = rI (sc (dfn F L a) Dc 8 np).1) (fun (_ : Unit) => [(k0, .inr (0, [.ref k1, .ref k2, .ref k3, .int (nI pl), .int (nI aw)])), (k1, .inl (cI, 64, .inl (nF Oc))), (k2, .inl (cI, 64, .inl (nF Bc))), (k3, .inl (cZ, 64, .inl (nF Dc))), (l0, .inr (1, [.int (nI nm), .ref l1, .ref l2, .ref l3, .ref l4, .ref l5, .ref l6, .ref l7, .int (nI np)])), (l1, .inl (cI, 64, .inl (nF P))), (l2, .inl (cI, 64, .inl (nF Y))), (l3, .inl (cI, 64, .inl (nF V))), (l4, .inl (cI, 64, .inl (nF F))), (l5, .inl (cI, 64, .inl (nF L))), (l6, .inl (cI, 64, .inl (nF Z))), (l7, .inl (cI, 64, .inl (nF X)))]) := by
  refine entI (cc := cX0_nearestPath) 7 (by decide) rfl (Nat.le_of_ble_eq_true rfl) (Or.inl rfl) (fun pr e s m args below meth c0 A Q H ls hx hb hml hown hts hsz hA hP hK hD hS hG hret hl => ?_)
  have hown : s.vm.findClass RX0 = some m.cls := hown
  have lk1 := hts (.fieldLink RX0 33 "BurinLines$Layer" "pathCount" "I") (by decide +kernel)
  have lk2 := hts (.fieldLink RX0 18 "BurinLines$Cutting" "done" "[Z") (by decide +kernel)
  have lk3 := hts (.fieldLink RX0 46 "BurinLines$Layer" "firsts" "[I") (by decide +kernel)
  have lk4 := hts (.initialized RX4) (by decide +kernel)
  have lk5 := hts (.static yX4_wayBetween) (by decide +kernel)
  have lk6 := hts (.fieldLink RX0 52 "BurinLines$Layer" "lasts" "[I") (by decide +kernel)
  have lk7 := hts (.methodLink RX0 55 Lib.Math.min.name) (by decide +kernel)
  have lk8 := hts (.static Lib.Math.min.name) (by decide +kernel)
  have lk9 := hts (.initialized "java/lang/Math") (by decide +kernel)
  have lk10 := hts (.code Lib.Math.min.name Lib.Math.min.code 2 (some .int)) (by decide +kernel)
  have hinX0 : ∀ w ∈ wsX00, w ∈ wsX0_nearestPath := by decide +kernel
  have hinX1 : ∀ w ∈ wsX10, w ∈ wsX0_nearestPath := by decide +kernel
  have hl : lv_has ls 7 [(0, .ref k0), (1, .ref l0), (2, .int (nI a))] := hl
  refine lv_iconst (v := (-1)) hx hb dX0_nearestPath_0 (by decide) ?_
  refine lv_istore_n (lv' := [(3, .int ((-1))), (0, .ref k0), (1, .ref l0), (2, .int (nI a))]) hx hb dX0_nearestPath_1 rfl hl (by decide) rfl (fun ls hl => ?_)
  refine lv_bipush (v := nI 8) hx hb dX0_nearestPath_2 (by decide) ?_
  refine lv_istore (lv' := [(4, .int (nI 8)), (3, .int ((-1))), (0, .ref k0), (1, .ref l0), (2, .int (nI a))]) hx hb dX0_nearestPath_4 hl (by decide) rfl (fun ls hl => ?_)
  refine lv_iconst (v := nI 0) hx hb dX0_nearestPath_6 (by decide) ?_
  refine lv_istore (lv' := [(5, .int (nI 0)), (4, .int (nI 8)), (3, .int ((-1))), (0, .ref k0), (1, .ref l0), (2, .int (nI a))]) hx hb dX0_nearestPath_7 hl (by decide) rfl (fun ls hl => ?_)
  have L9 : ∀ (n : Nat) (k : Nat) (nb : Nat) (lw : Nat), np - k < n → (k ≤ np) → (sc (dfn F L a) Dc 8 k = (nb, lw)) → (lw ≤ 8) → (nb ≤ 64) → ∀ (H : Heap) (locs : List Loc) (ls : Array Slot), va_P D vwCl [(k0, .inr (0, [.ref k1, .ref k2, .ref k3, .int (nI pl), .int (nI aw)])), (k1, .inl (cI, 64, .inl (nF Oc))), (k2, .inl (cI, 64, .inl (nF Bc))), (k3, .inl (cZ, 64, .inl (nF Dc))), (l0, .inr (1, [.int (nI nm), .ref l1, .ref l2, .ref l3, .ref l4, .ref l5, .ref l6, .ref l7, .int (nI np)])), (l1, .inl (cI, 64, .inl (nF P))), (l2, .inl (cI, 64, .inl (nF Y))), (l3, .inl (cI, 64, .inl (nF V))), (l4, .inl (cI, 64, .inl (nF F))), (l5, .inl (cI, 64, .inl (nF L))), (l6, .inl (cI, 64, .inl (nF Z))), (l7, .inl (cI, 64, .inl (nF X)))] H → va_D A [(k0, .inr (0, [.ref k1, .ref k2, .ref k3, .int (nI pl), .int (nI aw)])), (k1, .inl (cI, 64, .inl (nF Oc))), (k2, .inl (cI, 64, .inl (nF Bc))), (k3, .inl (cZ, 64, .inl (nF Dc))), (l0, .inr (1, [.int (nI nm), .ref l1, .ref l2, .ref l3, .ref l4, .ref l5, .ref l6, .ref l7, .int (nI np)])), (l1, .inl (cI, 64, .inl (nF P))), (l2, .inl (cI, 64, .inl (nF Y))), (l3, .inl (cI, 64, .inl (nF V))), (l4, .inl (cI, 64, .inl (nF F))), (l5, .inl (cI, 64, .inl (nF L))), (l6, .inl (cI, 64, .inl (nF Z))), (l7, .inl (cI, 64, .inl (nF X)))] → va_S A s.heap H locs → lv_has ls 7 [(0, .ref k0), (1, .ref l0), (2, .int (nI a)), (3, .int (rI nb)), (4, .int (nI lw)), (5, .int (nI k))] → W pr l e ({ frames := 2, cells := 0, slots := 0, locals := 44 } : Room) s m args below meth c0 H locs 0 0 Q (F0 m 9 ls []) := by
    intro n
    induction n with
    | zero => intro k nb lw h0; exact absurd h0 (Nat.not_lt_zero _)
    | succ n ih9 =>
      intro k nb lw hm9 hk hs hlw hnb H locs ls hP hD hS hl
      refine lv_iload hx hb dX0_nearestPath_9 (lv_at hl 5 rfl) ?_
      refine lv_aload_n hx hb dX0_nearestPath_11 rfl (lv_at hl 1 rfl) ?_
      refine va_get (D := D) (ci := 1) (v := .int (nI np)) (C := RX1) (T := TX1) (N := 9) hx hb hts hinX1 hown hK hP 4 rfl rfl 8 (by decide) lk1 (fun _ h9 => h9) rfl dX0_nearestPath_12 ?_
      refine nv_icmp_ge (tgt := 85) hx hb dX0_nearestPath_15 (by decide) (by omega) (by omega) (fun c_1 => ?_) (fun c_1 => ?_)
      · skip
        have hkn : k = np := by omega
        refine lv_iload_n hx hb dX0_nearestPath_85 rfl (lv_at hl 3 rfl) ?_
        exact hret _ () _ _ _ _ dX0_nearestPath_86 (by rw [← hkn, hs]) hP hD hS
      · skip
        refine lv_iload hx hb dX0_nearestPath_18 (lv_at hl 5 rfl) ?_
        refine lv_bipush (v := nI 64) hx hb dX0_nearestPath_20 (by decide) ?_
        refine nv_icmp_ge (tgt := 85) hx hb dX0_nearestPath_22 (by decide) (by omega) (by omega) (fun c_2 => ?_) (fun c_2 => ?_)
        · skip
          exact absurd hnp (by omega)
        · skip
          refine lv_aload_n hx hb dX0_nearestPath_25 rfl (lv_at hl 0 rfl) ?_
          refine va_get (D := D) (ci := 0) (v := .ref k3) (C := RX0) (T := TX0) (N := 5) hx hb hts hinX0 hown hK hP 0 rfl rfl 2 (by decide) lk2 (fun _ h9 => h9) rfl dX0_nearestPath_26 ?_
          refine lv_iload hx hb dX0_nearestPath_29 (lv_at hl 5 rfl) ?_
          refine nv_zald hx hb hK hP 3 rfl (by omega) (by decide) dX0_nearestPath_31 ?_
          refine nv_if_eq (tgt := 38) hx hb dX0_nearestPath_32 (by decide) (by have := hDc k (by omega); omega) (fun c_3 => ?_) (fun c_3 => ?_)
          · skip
            have hfk := hFL k (by omega)
            have fr1 := fr_le (a := a) (b := F k) ha (by omega)
            have fr2 := fr_le (a := a) (b := L k) ha (by omega)
            refine lv_iload_n hx hb dX0_nearestPath_38 rfl (lv_at hl 2 rfl) ?_
            refine lv_aload_n hx hb dX0_nearestPath_39 rfl (lv_at hl 1 rfl) ?_
            refine va_get (D := D) (ci := 1) (v := .ref l4) (C := RX1) (T := TX1) (N := 9) hx hb hts hinX1 hown hK hP 4 rfl rfl 4 (by decide) lk3 (fun _ h9 => h9) rfl dX0_nearestPath_40 ?_
            refine lv_iload hx hb dX0_nearestPath_43 (lv_at hl 5 rfl) ?_
            refine nv_iald hx hb hK hP 8 rfl (by omega) (by decide) dX0_nearestPath_45 ?_
            refine gcSN (As := [.int (nI a), .int (nI (F k))]) (rest := []) ⟨hx, hb, hml, hown, hts⟩ (c_X4_wayBetween l a (F k) (by first | assumption | omega) (by exact hfk.1)) (va_cnB 2 hts gX0_nearestPath_X4_wayBetween_n49 rfl rfl rfl (hG.1 (RX0, 49, yX4_wayBetween) (by decide +kernel)) lk4 (by decide +kernel) ⟨Nat.le_of_ble_eq_true rfl, Nat.le_of_ble_eq_true rfl⟩) lk5 hl.1 rfl rfl (Nat.le_of_ble_eq_true rfl) ⟨Nat.zero_le _, Nat.zero_le _⟩ dX0_nearestPath_46 ?_
            refine lv_iload_n hx hb dX0_nearestPath_49 rfl (lv_at hl 2 rfl) ?_
            refine lv_aload_n hx hb dX0_nearestPath_50 rfl (lv_at hl 1 rfl) ?_
            refine va_get (D := D) (ci := 1) (v := .ref l5) (C := RX1) (T := TX1) (N := 9) hx hb hts hinX1 hown hK hP 4 rfl rfl 5 (by decide) lk6 (fun _ h9 => h9) rfl dX0_nearestPath_51 ?_
            refine lv_iload hx hb dX0_nearestPath_54 (lv_at hl 5 rfl) ?_
            refine nv_iald hx hb hK hP 9 rfl (by omega) (by decide) dX0_nearestPath_56 ?_
            refine gcSN (As := [.int (nI a), .int (nI (L k))]) (rest := [.int (nI (fr a (F k)))]) ⟨hx, hb, hml, hown, hts⟩ (c_X4_wayBetween l a (L k) (by first | assumption | omega) (by exact hfk.2)) (va_cnB 2 hts gX0_nearestPath_X4_wayBetween_n49 rfl rfl rfl (hG.1 (RX0, 49, yX4_wayBetween) (by decide +kernel)) lk4 (by decide +kernel) ⟨Nat.le_of_ble_eq_true rfl, Nat.le_of_ble_eq_true rfl⟩) lk5 hl.1 rfl rfl (Nat.le_of_ble_eq_true rfl) ⟨Nat.zero_le _, Nat.zero_le _⟩ dX0_nearestPath_57 ?_
            refine va_mmin hx hb (by rw [hml]; exact hl.1.symm) hown lk7 lk8 lk9 lk10 (Nat.le_of_ble_eq_true rfl) (Nat.le_of_ble_eq_true rfl) (Nat.zero_le _) (Nat.zero_le _) dX0_nearestPath_60 ?_
            refine top_eq (nI_min (by omega) (by omega)) ?_
            refine lv_istore (lv' := [(6, .int (nI (min (fr a (F k)) (fr a (L k))))), (0, .ref k0), (1, .ref l0), (2, .int (nI a)), (3, .int (rI nb)), (4, .int (nI lw)), (5, .int (nI k))]) hx hb dX0_nearestPath_63 hl (by decide) rfl (fun ls hl => ?_)
            refine lv_iload hx hb dX0_nearestPath_65 (lv_at hl 0 rfl) ?_
            refine lv_iload hx hb dX0_nearestPath_67 (lv_at hl 5 rfl) ?_
            refine nv_icmp_ge (tgt := 79) hx hb dX0_nearestPath_69 (by decide) (by omega) (by omega) (fun c_4 => ?_) (fun c_4 => ?_)
            · skip
              refine lv_iinc (v := nI (k + 1)) (lv' := [(5, .int (nI (k + 1))), (6, .int (nI (min (fr a (F k)) (fr a (L k))))), (0, .ref k0), (1, .ref l0), (2, .int (nI a)), (3, .int (rI nb)), (4, .int (nI lw))]) hx hb dX0_nearestPath_79 hl (k := 6) rfl (by exact nI_add _ 1) (by decide) rfl (fun ls hl => ?_)
              refine lv_goto (tgt := 9) hx hb dX0_nearestPath_82 (by decide) ?_
              exact ih9 (k + 1) nb lw (by omega) (by omega) (by rw [sc, hs, if_neg (fun q => by have := q.2; unfold dfn at this; omega)]) hlw hnb _ _ _ hP hD hS (lv_sub hl [2, 3, 4, 5, 6, 0] rfl)
            · skip
              refine lv_iload hx hb dX0_nearestPath_72 (lv_at hl 0 rfl) ?_
              refine lv_istore (lv' := [(4, .int (nI (min (fr a (F k)) (fr a (L k))))), (6, .int (nI (min (fr a (F k)) (fr a (L k))))), (0, .ref k0), (1, .ref l0), (2, .int (nI a)), (3, .int (rI nb)), (5, .int (nI k))]) hx hb dX0_nearestPath_74 hl (by decide) rfl (fun ls hl => ?_)
              refine lv_iload hx hb dX0_nearestPath_76 (lv_at hl 6 rfl) ?_
              refine lv_istore_n (lv' := [(3, .int (nI k)), (4, .int (nI (min (fr a (F k)) (fr a (L k))))), (6, .int (nI (min (fr a (F k)) (fr a (L k))))), (0, .ref k0), (1, .ref l0), (2, .int (nI a)), (5, .int (nI k))]) hx hb dX0_nearestPath_78 rfl hl (by decide) rfl (fun ls hl => ?_)
              refine lv_iinc (v := nI (k + 1)) (lv' := [(5, .int (nI (k + 1))), (3, .int (nI k)), (4, .int (nI (min (fr a (F k)) (fr a (L k))))), (6, .int (nI (min (fr a (F k)) (fr a (L k))))), (0, .ref k0), (1, .ref l0), (2, .int (nI a))]) hx hb dX0_nearestPath_79 hl (k := 6) rfl (by exact nI_add _ 1) (by decide) rfl (fun ls hl => ?_)
              refine lv_goto (tgt := 9) hx hb dX0_nearestPath_82 (by decide) ?_
              exact ih9 (k + 1) k (min (fr a (F k)) (fr a (L k))) (by omega) (by omega) (by rw [sc, hs, if_pos ⟨by assumption, by unfold dfn; omega⟩]; rfl) (by omega) (by omega) _ _ _ hP hD hS (lv_sub hl [4, 5, 6, 1, 2, 0] (by rw [rI_some (show ¬ k = 64 by omega)]; rfl))
          · skip
            refine lv_goto (tgt := 79) hx hb dX0_nearestPath_35 (by decide) ?_
            refine lv_iinc (v := nI (k + 1)) (lv' := [(5, .int (nI (k + 1))), (0, .ref k0), (1, .ref l0), (2, .int (nI a)), (3, .int (rI nb)), (4, .int (nI lw))]) hx hb dX0_nearestPath_79 hl (k := 5) rfl (by exact nI_add _ 1) (by decide) rfl (fun ls hl => ?_)
            refine lv_goto (tgt := 9) hx hb dX0_nearestPath_82 (by decide) ?_
            exact ih9 (k + 1) nb lw (by omega) (by omega) (by rw [sc, hs, if_neg (fun q => c_3 q.1)]) hlw hnb _ _ _ hP hD hS (lv_sub hl [1, 2, 3, 4, 5, 0] rfl)
  exact L9 (np + 1) 0 64 8 (by omega) (by omega) rfl (by omega) (by omega) _ _ _ hP hD hS (lv_sub hl [3, 4, 5, 2, 1, 0] rfl)

set_option maxHeartbeats 4000000 in
set_option maxRecDepth 100000 in
theorem c_X0_cutPath (l : Launch) (D : va_G) (cI cZ : ClassId) (tt : Nat → Nat) (sz : Nat) (k0 k1 k2 k3 : Nat) (pl aw : Nat) (Oc Bc Dc : Nat → Nat) (l0 l1 l2 l3 l4 l5 l6 l7 : Nat) (nm np : Nat) (P Y V F L Z X : Nat → Nat) (k a : Nat) (hnp : np ≤ 64) (hFL : ∀ k, k < np → F k < 64 ∧ L k < 64) (ha : a < 64) (hk : k < np) (hpl : pl < 64) : MI l yX0_cutPath wsX0_cutPath ({ frames := 2, cells := 0, slots := 0, locals := 44 } : Room) D cI cZ tt [.ref k0, .ref l0, .int (nI k), .int (nI a)] [(k0, .inr (0, [.ref k1, .ref k2, .ref k3, .int (nI pl), .int (nI aw)])), (k1, .inl (cI, 64, .inl (nF Oc))), (k2, .inl (cI, 64, .inl (nF Bc))), (k3, .inl (cZ, 64, .inl (nF Dc))), (l0, .inr (1, [.int (nI nm), .ref l1, .ref l2, .ref l3, .ref l4, .ref l5, .ref l6, .ref l7, .int (nI np)])), (l1, .inl (cI, 64, .inl (nF P))), (l2, .inl (cI, 64, .inl (nF Y))), (l3, .inl (cI, 64, .inl (nF V))), (l4, .inl (cI, 64, .inl (nF F))), (l5, .inl (cI, 64, .inl (nF L))), (l6, .inl (cI, 64, .inl (nF Z))), (l7, .inl (cI, 64, .inl (nF X)))] sz (fun (r : Int32) (u : (Nat → Nat) × (Nat)) => r = nI (en F L a k) ∧ (u.1 = va_up Bc pl (stt F L a k)) ∧ (u.2 = aw + fr a (stt F L a k))) (fun (u : (Nat → Nat) × (Nat)) => [(k0, .inr (0, [.ref k1, .ref k2, .ref k3, .int (nI (pl + 1)), .int (nI u.2)])), (k1, .inl (cI, 64, .inl (nF (va_up Oc pl k)))), (k2, .inl (cI, 64, .inl (nF u.1))), (k3, .inl (cZ, 64, .inl (nF (va_up Dc k 1)))), (l0, .inr (1, [.int (nI nm), .ref l1, .ref l2, .ref l3, .ref l4, .ref l5, .ref l6, .ref l7, .int (nI np)])), (l1, .inl (cI, 64, .inl (nF P))), (l2, .inl (cI, 64, .inl (nF Y))), (l3, .inl (cI, 64, .inl (nF V))), (l4, .inl (cI, 64, .inl (nF F))), (l5, .inl (cI, 64, .inl (nF L))), (l6, .inl (cI, 64, .inl (nF Z))), (l7, .inl (cI, 64, .inl (nF X)))]) := by
  refine entI (cc := cX0_cutPath) 8 (by decide) rfl (Nat.le_of_ble_eq_true rfl) (Or.inl rfl) (fun pr e s m args below meth c0 A Q H ls hx hb hml hown hts hsz hA hP hK hD hS hG hret hl => ?_)
  have hown : s.vm.findClass RX0 = some m.cls := hown
  have lk1 := hts (.fieldLink RX0 22 "BurinLines$Cutting" "planned" "I") (by decide +kernel)
  have lk2 := hts (.fieldLink RX0 46 "BurinLines$Layer" "firsts" "[I") (by decide +kernel)
  have lk3 := hts (.fieldLink RX0 52 "BurinLines$Layer" "lasts" "[I") (by decide +kernel)
  have lk4 := hts (.initialized RX4) (by decide +kernel)
  have lk5 := hts (.static yX4_wayBetween) (by decide +kernel)
  have lk6 := hts (.fieldLink RX0 9 "BurinLines$Cutting" "order" "[I") (by decide +kernel)
  have lk7 := hts (.fieldLink RX0 15 "BurinLines$Cutting" "begins" "[I") (by decide +kernel)
  have lk8 := hts (.fieldLink RX0 26 "BurinLines$Cutting" "wayInAir" "I") (by decide +kernel)
  have lk9 := hts (.fieldLink RX0 18 "BurinLines$Cutting" "done" "[Z") (by decide +kernel)
  have hinX0 : ∀ w ∈ wsX00, w ∈ wsX0_cutPath := by decide +kernel
  have hinX1 : ∀ w ∈ wsX10, w ∈ wsX0_cutPath := by decide +kernel
  have hl : lv_has ls 8 [(0, .ref k0), (1, .ref l0), (2, .int (nI k)), (3, .int (nI a))] := hl
  refine lv_aload_n hx hb dX0_cutPath_0 rfl (lv_at hl 0 rfl) ?_
  refine va_get (D := D) (ci := 0) (v := .int (nI pl)) (C := RX0) (T := TX0) (N := 5) hx hb hts hinX0 hown hK hP 0 rfl rfl 3 (by decide) lk1 (fun _ h9 => h9) rfl dX0_cutPath_1 ?_
  refine lv_bipush (v := nI 64) hx hb dX0_cutPath_4 (by decide) ?_
  refine nv_icmp_lt (tgt := 11) hx hb dX0_cutPath_6 (by decide) (by omega) (by omega) (fun c_1 => ?_) (fun c_1 => ?_)
  · skip
    have hfk := hFL k (by omega)
    have fr1 := fr_le (a := a) (b := F k) ha (by omega)
    have fr2 := fr_le (a := a) (b := L k) ha (by omega)
    refine lv_aload_n hx hb dX0_cutPath_11 rfl (lv_at hl 1 rfl) ?_
    refine va_get (D := D) (ci := 1) (v := .ref l4) (C := RX1) (T := TX1) (N := 9) hx hb hts hinX1 hown hK hP 4 rfl rfl 4 (by decide) lk2 (fun _ h9 => h9) rfl dX0_cutPath_12 ?_
    refine lv_iload_n hx hb dX0_cutPath_15 rfl (lv_at hl 2 rfl) ?_
    refine nv_iald hx hb hK hP 8 rfl (by omega) (by decide) dX0_cutPath_16 ?_
    refine lv_istore (lv' := [(4, .int (nI (F k))), (0, .ref k0), (1, .ref l0), (2, .int (nI k)), (3, .int (nI a))]) hx hb dX0_cutPath_17 hl (by decide) rfl (fun ls hl => ?_)
    refine lv_aload_n hx hb dX0_cutPath_19 rfl (lv_at hl 2 rfl) ?_
    refine va_get (D := D) (ci := 1) (v := .ref l5) (C := RX1) (T := TX1) (N := 9) hx hb hts hinX1 hown hK hP 4 rfl rfl 5 (by decide) lk3 (fun _ h9 => h9) rfl dX0_cutPath_20 ?_
    refine lv_iload_n hx hb dX0_cutPath_23 rfl (lv_at hl 3 rfl) ?_
    refine nv_iald hx hb hK hP 9 rfl (by omega) (by decide) dX0_cutPath_24 ?_
    refine lv_istore (lv' := [(5, .int (nI (L k))), (4, .int (nI (F k))), (0, .ref k0), (1, .ref l0), (2, .int (nI k)), (3, .int (nI a))]) hx hb dX0_cutPath_25 hl (by decide) rfl (fun ls hl => ?_)
    refine lv_iload_n hx hb dX0_cutPath_27 rfl (lv_at hl 5 rfl) ?_
    refine lv_iload hx hb dX0_cutPath_28 (lv_at hl 1 rfl) ?_
    refine gcSN (As := [.int (nI a), .int (nI (F k))]) (rest := []) ⟨hx, hb, hml, hown, hts⟩ (c_X4_wayBetween l a (F k) (by first | assumption | omega) (by exact hfk.1)) (va_cnB 2 hts gX0_cutPath_X4_wayBetween_n49 rfl rfl rfl (hG.1 (RX0, 49, yX4_wayBetween) (by decide +kernel)) lk4 (by decide +kernel) ⟨Nat.le_of_ble_eq_true rfl, Nat.le_of_ble_eq_true rfl⟩) lk5 hl.1 rfl rfl (Nat.le_of_ble_eq_true rfl) ⟨Nat.zero_le _, Nat.zero_le _⟩ dX0_cutPath_30 ?_
    refine lv_iload_n hx hb dX0_cutPath_33 rfl (lv_at hl 5 rfl) ?_
    refine lv_iload hx hb dX0_cutPath_34 (lv_at hl 0 rfl) ?_
    refine gcSN (As := [.int (nI a), .int (nI (L k))]) (rest := [.int (nI (fr a (F k)))]) ⟨hx, hb, hml, hown, hts⟩ (c_X4_wayBetween l a (L k) (by first | assumption | omega) (by exact hfk.2)) (va_cnB 2 hts gX0_cutPath_X4_wayBetween_n49 rfl rfl rfl (hG.1 (RX0, 49, yX4_wayBetween) (by decide +kernel)) lk4 (by decide +kernel) ⟨Nat.le_of_ble_eq_true rfl, Nat.le_of_ble_eq_true rfl⟩) lk5 hl.1 rfl rfl (Nat.le_of_ble_eq_true rfl) ⟨Nat.zero_le _, Nat.zero_le _⟩ dX0_cutPath_36 ?_
    refine nv_icmp_gt (tgt := 46) hx hb dX0_cutPath_39 (by decide) (by omega) (by omega) (fun c_2 => ?_) (fun c_2 => ?_)
    · skip
      refine lv_iconst (v := nI 0) hx hb dX0_cutPath_46 (by decide) ?_
      refine lv_istore (lv' := [(6, .int (nI 0)), (5, .int (nI (L k))), (4, .int (nI (F k))), (0, .ref k0), (1, .ref l0), (2, .int (nI k)), (3, .int (nI a))]) hx hb dX0_cutPath_47 hl (by decide) rfl (fun ls hl => ?_)
      refine lv_iload hx hb dX0_cutPath_49 (lv_at hl 0 rfl) ?_
      refine nv_if_eq (tgt := 59) hx hb dX0_cutPath_51 (by decide) (by omega) (fun c_3 => ?_) (fun c_3 => ?_)
      · skip
        refine lv_iload hx hb dX0_cutPath_59 (lv_at hl 1 rfl) ?_
        refine lv_istore (lv' := [(7, .int (nI (L k))), (6, .int (nI 0)), (5, .int (nI (L k))), (4, .int (nI (F k))), (0, .ref k0), (1, .ref l0), (2, .int (nI k)), (3, .int (nI a))]) hx hb dX0_cutPath_61 hl (by decide) rfl (fun ls hl => ?_)
        refine lv_aload_n hx hb dX0_cutPath_63 rfl (lv_at hl 4 rfl) ?_
        refine va_get (D := D) (ci := 0) (v := .ref k1) (C := RX0) (T := TX0) (N := 5) hx hb hts hinX0 hown hK hP 0 rfl rfl 0 (by decide) lk6 (fun _ h9 => h9) rfl dX0_cutPath_64 ?_
        refine lv_aload_n hx hb dX0_cutPath_67 rfl (lv_at hl 4 rfl) ?_
        refine va_get (D := D) (ci := 0) (v := .int (nI pl)) (C := RX0) (T := TX0) (N := 5) hx hb hts hinX0 hown hK hP 0 rfl rfl 3 (by decide) lk1 (fun _ h9 => h9) rfl dX0_cutPath_68 ?_
        refine lv_iload_n hx hb dX0_cutPath_71 rfl (lv_at hl 6 rfl) ?_
        refine nv_iast hx hb hK hP hD hS 1 rfl (by omega) (by decide) dX0_cutPath_72 (fun H locs hP hD hS => ?_)
        have hP : va_P D vwCl [(k0, .inr (0, [.ref k1, .ref k2, .ref k3, .int (nI pl), .int (nI aw)])), (k1, .inl (cI, 64, .inl (nF (va_up Oc pl k)))), (k2, .inl (cI, 64, .inl (nF Bc))), (k3, .inl (cZ, 64, .inl (nF Dc))), (l0, .inr (1, [.int (nI nm), .ref l1, .ref l2, .ref l3, .ref l4, .ref l5, .ref l6, .ref l7, .int (nI np)])), (l1, .inl (cI, 64, .inl (nF P))), (l2, .inl (cI, 64, .inl (nF Y))), (l3, .inl (cI, 64, .inl (nF V))), (l4, .inl (cI, 64, .inl (nF F))), (l5, .inl (cI, 64, .inl (nF L))), (l6, .inl (cI, 64, .inl (nF Z))), (l7, .inl (cI, 64, .inl (nF X)))] H := hP
        have hD : va_D A [(k0, .inr (0, [.ref k1, .ref k2, .ref k3, .int (nI pl), .int (nI aw)])), (k1, .inl (cI, 64, .inl (nF (va_up Oc pl k)))), (k2, .inl (cI, 64, .inl (nF Bc))), (k3, .inl (cZ, 64, .inl (nF Dc))), (l0, .inr (1, [.int (nI nm), .ref l1, .ref l2, .ref l3, .ref l4, .ref l5, .ref l6, .ref l7, .int (nI np)])), (l1, .inl (cI, 64, .inl (nF P))), (l2, .inl (cI, 64, .inl (nF Y))), (l3, .inl (cI, 64, .inl (nF V))), (l4, .inl (cI, 64, .inl (nF F))), (l5, .inl (cI, 64, .inl (nF L))), (l6, .inl (cI, 64, .inl (nF Z))), (l7, .inl (cI, 64, .inl (nF X)))] := hD
        refine lv_aload_n hx hb dX0_cutPath_73 rfl (lv_at hl 4 rfl) ?_
        refine va_get (D := D) (ci := 0) (v := .ref k2) (C := RX0) (T := TX0) (N := 5) hx hb hts hinX0 hown hK hP 0 rfl rfl 1 (by decide) lk7 (fun _ h9 => h9) rfl dX0_cutPath_74 ?_
        refine lv_aload_n hx hb dX0_cutPath_77 rfl (lv_at hl 4 rfl) ?_
        refine va_get (D := D) (ci := 0) (v := .int (nI pl)) (C := RX0) (T := TX0) (N := 5) hx hb hts hinX0 hown hK hP 0 rfl rfl 3 (by decide) lk1 (fun _ h9 => h9) rfl dX0_cutPath_78 ?_
        refine lv_iload hx hb dX0_cutPath_81 (lv_at hl 0 rfl) ?_
        refine nv_iast hx hb hK hP hD hS 2 rfl (by omega) (by decide) dX0_cutPath_83 (fun H locs hP hD hS => ?_)
        have hP : va_P D vwCl [(k0, .inr (0, [.ref k1, .ref k2, .ref k3, .int (nI pl), .int (nI aw)])), (k1, .inl (cI, 64, .inl (nF (va_up Oc pl k)))), (k2, .inl (cI, 64, .inl (nF (va_up Bc pl (L k))))), (k3, .inl (cZ, 64, .inl (nF Dc))), (l0, .inr (1, [.int (nI nm), .ref l1, .ref l2, .ref l3, .ref l4, .ref l5, .ref l6, .ref l7, .int (nI np)])), (l1, .inl (cI, 64, .inl (nF P))), (l2, .inl (cI, 64, .inl (nF Y))), (l3, .inl (cI, 64, .inl (nF V))), (l4, .inl (cI, 64, .inl (nF F))), (l5, .inl (cI, 64, .inl (nF L))), (l6, .inl (cI, 64, .inl (nF Z))), (l7, .inl (cI, 64, .inl (nF X)))] H := hP
        have hD : va_D A [(k0, .inr (0, [.ref k1, .ref k2, .ref k3, .int (nI pl), .int (nI aw)])), (k1, .inl (cI, 64, .inl (nF (va_up Oc pl k)))), (k2, .inl (cI, 64, .inl (nF (va_up Bc pl (L k))))), (k3, .inl (cZ, 64, .inl (nF Dc))), (l0, .inr (1, [.int (nI nm), .ref l1, .ref l2, .ref l3, .ref l4, .ref l5, .ref l6, .ref l7, .int (nI np)])), (l1, .inl (cI, 64, .inl (nF P))), (l2, .inl (cI, 64, .inl (nF Y))), (l3, .inl (cI, 64, .inl (nF V))), (l4, .inl (cI, 64, .inl (nF F))), (l5, .inl (cI, 64, .inl (nF L))), (l6, .inl (cI, 64, .inl (nF Z))), (l7, .inl (cI, 64, .inl (nF X)))] := hD
        refine lv_aload_n hx hb dX0_cutPath_84 rfl (lv_at hl 4 rfl) ?_
        refine lv_dup hx hb dX0_cutPath_85 rfl ?_
        refine va_get (D := D) (ci := 0) (v := .int (nI pl)) (C := RX0) (T := TX0) (N := 5) hx hb hts hinX0 hown hK hP 0 rfl rfl 3 (by decide) lk1 (fun _ h9 => h9) rfl dX0_cutPath_86 ?_
        refine lv_iconst (v := nI 1) hx hb dX0_cutPath_89 (by decide) ?_
        refine nv_iadd hx hb dX0_cutPath_90 ?_
        refine va_put (D := D) (ci := 0) (v := .int (nI (pl + 1))) (ty := .int) (C := RX0) (T := TX0) (N := 5) hx hb hts hinX0 tyX0 tyX0_ok nmX0 hown hK hP hD hS 0 rfl rfl 3 (by decide) lk1 (fun _ h9 => h9) rfl (by decide +kernel) rfl rfl (Nat.le_of_ble_eq_true rfl) dX0_cutPath_91 (fun H locs hP hD hS => ?_)
        have hP : va_P D vwCl [(k0, .inr (0, [.ref k1, .ref k2, .ref k3, .int (nI (pl + 1)), .int (nI aw)])), (k1, .inl (cI, 64, .inl (nF (va_up Oc pl k)))), (k2, .inl (cI, 64, .inl (nF (va_up Bc pl (L k))))), (k3, .inl (cZ, 64, .inl (nF Dc))), (l0, .inr (1, [.int (nI nm), .ref l1, .ref l2, .ref l3, .ref l4, .ref l5, .ref l6, .ref l7, .int (nI np)])), (l1, .inl (cI, 64, .inl (nF P))), (l2, .inl (cI, 64, .inl (nF Y))), (l3, .inl (cI, 64, .inl (nF V))), (l4, .inl (cI, 64, .inl (nF F))), (l5, .inl (cI, 64, .inl (nF L))), (l6, .inl (cI, 64, .inl (nF Z))), (l7, .inl (cI, 64, .inl (nF X)))] H := hP
        have hD : va_D A [(k0, .inr (0, [.ref k1, .ref k2, .ref k3, .int (nI (pl + 1)), .int (nI aw)])), (k1, .inl (cI, 64, .inl (nF (va_up Oc pl k)))), (k2, .inl (cI, 64, .inl (nF (va_up Bc pl (L k))))), (k3, .inl (cZ, 64, .inl (nF Dc))), (l0, .inr (1, [.int (nI nm), .ref l1, .ref l2, .ref l3, .ref l4, .ref l5, .ref l6, .ref l7, .int (nI np)])), (l1, .inl (cI, 64, .inl (nF P))), (l2, .inl (cI, 64, .inl (nF Y))), (l3, .inl (cI, 64, .inl (nF V))), (l4, .inl (cI, 64, .inl (nF F))), (l5, .inl (cI, 64, .inl (nF L))), (l6, .inl (cI, 64, .inl (nF Z))), (l7, .inl (cI, 64, .inl (nF X)))] := hD
        refine lv_aload_n hx hb dX0_cutPath_94 rfl (lv_at hl 4 rfl) ?_
        refine lv_dup hx hb dX0_cutPath_95 rfl ?_
        refine va_get (D := D) (ci := 0) (v := .int (nI aw)) (C := RX0) (T := TX0) (N := 5) hx hb hts hinX0 hown hK hP 0 rfl rfl 4 (by decide) lk8 (fun _ h9 => h9) rfl dX0_cutPath_96 ?_
        refine lv_iload_n hx hb dX0_cutPath_99 rfl (lv_at hl 7 rfl) ?_
        refine lv_iload hx hb dX0_cutPath_100 (lv_at hl 0 rfl) ?_
        refine gcSN (As := [.int (nI a), .int (nI (L k))]) (rest := [.int (nI aw), .ref k0]) ⟨hx, hb, hml, hown, hts⟩ (c_X4_wayBetween l a (L k) (by first | assumption | omega) (by omega)) (va_cnB 2 hts gX0_cutPath_X4_wayBetween_n49 rfl rfl rfl (hG.1 (RX0, 49, yX4_wayBetween) (by decide +kernel)) lk4 (by decide +kernel) ⟨Nat.le_of_ble_eq_true rfl, Nat.le_of_ble_eq_true rfl⟩) lk5 hl.1 rfl rfl (Nat.le_of_ble_eq_true rfl) ⟨Nat.zero_le _, Nat.zero_le _⟩ dX0_cutPath_102 ?_
        refine nv_iadd hx hb dX0_cutPath_105 ?_
        refine va_put (D := D) (ci := 0) (v := .int (nI (aw + (fr a (L k))))) (ty := .int) (C := RX0) (T := TX0) (N := 5) hx hb hts hinX0 tyX0 tyX0_ok nmX0 hown hK hP hD hS 0 rfl rfl 4 (by decide) lk8 (fun _ h9 => h9) rfl (by decide +kernel) rfl rfl (Nat.le_of_ble_eq_true rfl) dX0_cutPath_106 (fun H locs hP hD hS => ?_)
        have hP : va_P D vwCl [(k0, .inr (0, [.ref k1, .ref k2, .ref k3, .int (nI (pl + 1)), .int (nI (aw + (fr a (L k))))])), (k1, .inl (cI, 64, .inl (nF (va_up Oc pl k)))), (k2, .inl (cI, 64, .inl (nF (va_up Bc pl (L k))))), (k3, .inl (cZ, 64, .inl (nF Dc))), (l0, .inr (1, [.int (nI nm), .ref l1, .ref l2, .ref l3, .ref l4, .ref l5, .ref l6, .ref l7, .int (nI np)])), (l1, .inl (cI, 64, .inl (nF P))), (l2, .inl (cI, 64, .inl (nF Y))), (l3, .inl (cI, 64, .inl (nF V))), (l4, .inl (cI, 64, .inl (nF F))), (l5, .inl (cI, 64, .inl (nF L))), (l6, .inl (cI, 64, .inl (nF Z))), (l7, .inl (cI, 64, .inl (nF X)))] H := hP
        have hD : va_D A [(k0, .inr (0, [.ref k1, .ref k2, .ref k3, .int (nI (pl + 1)), .int (nI (aw + (fr a (L k))))])), (k1, .inl (cI, 64, .inl (nF (va_up Oc pl k)))), (k2, .inl (cI, 64, .inl (nF (va_up Bc pl (L k))))), (k3, .inl (cZ, 64, .inl (nF Dc))), (l0, .inr (1, [.int (nI nm), .ref l1, .ref l2, .ref l3, .ref l4, .ref l5, .ref l6, .ref l7, .int (nI np)])), (l1, .inl (cI, 64, .inl (nF P))), (l2, .inl (cI, 64, .inl (nF Y))), (l3, .inl (cI, 64, .inl (nF V))), (l4, .inl (cI, 64, .inl (nF F))), (l5, .inl (cI, 64, .inl (nF L))), (l6, .inl (cI, 64, .inl (nF Z))), (l7, .inl (cI, 64, .inl (nF X)))] := hD
        refine lv_aload_n hx hb dX0_cutPath_109 rfl (lv_at hl 4 rfl) ?_
        refine va_get (D := D) (ci := 0) (v := .ref k3) (C := RX0) (T := TX0) (N := 5) hx hb hts hinX0 hown hK hP 0 rfl rfl 2 (by decide) lk9 (fun _ h9 => h9) rfl dX0_cutPath_110 ?_
        refine lv_iload_n hx hb dX0_cutPath_113 rfl (lv_at hl 6 rfl) ?_
        refine lv_iconst (v := nI 1) hx hb dX0_cutPath_114 (by decide) ?_
        refine nv_zast hx hb hK hP hD hS 3 rfl (by omega) (by decide) (by omega) dX0_cutPath_115 (fun H locs hP hD hS => ?_)
        have hP : va_P D vwCl [(k0, .inr (0, [.ref k1, .ref k2, .ref k3, .int (nI (pl + 1)), .int (nI (aw + (fr a (L k))))])), (k1, .inl (cI, 64, .inl (nF (va_up Oc pl k)))), (k2, .inl (cI, 64, .inl (nF (va_up Bc pl (L k))))), (k3, .inl (cZ, 64, .inl (nF (va_up Dc k 1)))), (l0, .inr (1, [.int (nI nm), .ref l1, .ref l2, .ref l3, .ref l4, .ref l5, .ref l6, .ref l7, .int (nI np)])), (l1, .inl (cI, 64, .inl (nF P))), (l2, .inl (cI, 64, .inl (nF Y))), (l3, .inl (cI, 64, .inl (nF V))), (l4, .inl (cI, 64, .inl (nF F))), (l5, .inl (cI, 64, .inl (nF L))), (l6, .inl (cI, 64, .inl (nF Z))), (l7, .inl (cI, 64, .inl (nF X)))] H := hP
        have hD : va_D A [(k0, .inr (0, [.ref k1, .ref k2, .ref k3, .int (nI (pl + 1)), .int (nI (aw + (fr a (L k))))])), (k1, .inl (cI, 64, .inl (nF (va_up Oc pl k)))), (k2, .inl (cI, 64, .inl (nF (va_up Bc pl (L k))))), (k3, .inl (cZ, 64, .inl (nF (va_up Dc k 1)))), (l0, .inr (1, [.int (nI nm), .ref l1, .ref l2, .ref l3, .ref l4, .ref l5, .ref l6, .ref l7, .int (nI np)])), (l1, .inl (cI, 64, .inl (nF P))), (l2, .inl (cI, 64, .inl (nF Y))), (l3, .inl (cI, 64, .inl (nF V))), (l4, .inl (cI, 64, .inl (nF F))), (l5, .inl (cI, 64, .inl (nF L))), (l6, .inl (cI, 64, .inl (nF Z))), (l7, .inl (cI, 64, .inl (nF X)))] := hD
        refine lv_iload hx hb dX0_cutPath_116 (lv_at hl 1 rfl) ?_
        refine nv_if_eq (tgt := 126) hx hb dX0_cutPath_118 (by decide) (by omega) (fun c_4 => ?_) (fun c_4 => ?_)
        · skip
          refine lv_iload hx hb dX0_cutPath_126 (lv_at hl 3 rfl) ?_
          exact hret _ (va_up Bc pl (L k), aw + (fr a (L k))) _ _ _ _ dX0_cutPath_128 (⟨by unfold en; rw [if_neg (by omega)], by unfold stt; rw [if_neg (by omega)], by unfold stt; rw [if_neg (by omega)]⟩) hP hD hS
        · skip
          exact absurd c_4 (by decide)
      · skip
        exact absurd c_3 (by decide)
    · skip
      refine lv_iconst (v := nI 1) hx hb dX0_cutPath_42 (by decide) ?_
      refine lv_goto (tgt := 47) hx hb dX0_cutPath_43 (by decide) ?_
      refine lv_istore (lv' := [(6, .int (nI 1)), (5, .int (nI (L k))), (4, .int (nI (F k))), (0, .ref k0), (1, .ref l0), (2, .int (nI k)), (3, .int (nI a))]) hx hb dX0_cutPath_47 hl (by decide) rfl (fun ls hl => ?_)
      refine lv_iload hx hb dX0_cutPath_49 (lv_at hl 0 rfl) ?_
      refine nv_if_eq (tgt := 59) hx hb dX0_cutPath_51 (by decide) (by omega) (fun c_5 => ?_) (fun c_5 => ?_)
      · skip
        exact absurd c_5 (by decide)
      · skip
        refine lv_iload hx hb dX0_cutPath_54 (lv_at hl 2 rfl) ?_
        refine lv_goto (tgt := 61) hx hb dX0_cutPath_56 (by decide) ?_
        refine lv_istore (lv' := [(7, .int (nI (F k))), (6, .int (nI 1)), (5, .int (nI (L k))), (4, .int (nI (F k))), (0, .ref k0), (1, .ref l0), (2, .int (nI k)), (3, .int (nI a))]) hx hb dX0_cutPath_61 hl (by decide) rfl (fun ls hl => ?_)
        refine lv_aload_n hx hb dX0_cutPath_63 rfl (lv_at hl 4 rfl) ?_
        refine va_get (D := D) (ci := 0) (v := .ref k1) (C := RX0) (T := TX0) (N := 5) hx hb hts hinX0 hown hK hP 0 rfl rfl 0 (by decide) lk6 (fun _ h9 => h9) rfl dX0_cutPath_64 ?_
        refine lv_aload_n hx hb dX0_cutPath_67 rfl (lv_at hl 4 rfl) ?_
        refine va_get (D := D) (ci := 0) (v := .int (nI pl)) (C := RX0) (T := TX0) (N := 5) hx hb hts hinX0 hown hK hP 0 rfl rfl 3 (by decide) lk1 (fun _ h9 => h9) rfl dX0_cutPath_68 ?_
        refine lv_iload_n hx hb dX0_cutPath_71 rfl (lv_at hl 6 rfl) ?_
        refine nv_iast hx hb hK hP hD hS 1 rfl (by omega) (by decide) dX0_cutPath_72 (fun H locs hP hD hS => ?_)
        have hP : va_P D vwCl [(k0, .inr (0, [.ref k1, .ref k2, .ref k3, .int (nI pl), .int (nI aw)])), (k1, .inl (cI, 64, .inl (nF (va_up Oc pl k)))), (k2, .inl (cI, 64, .inl (nF Bc))), (k3, .inl (cZ, 64, .inl (nF Dc))), (l0, .inr (1, [.int (nI nm), .ref l1, .ref l2, .ref l3, .ref l4, .ref l5, .ref l6, .ref l7, .int (nI np)])), (l1, .inl (cI, 64, .inl (nF P))), (l2, .inl (cI, 64, .inl (nF Y))), (l3, .inl (cI, 64, .inl (nF V))), (l4, .inl (cI, 64, .inl (nF F))), (l5, .inl (cI, 64, .inl (nF L))), (l6, .inl (cI, 64, .inl (nF Z))), (l7, .inl (cI, 64, .inl (nF X)))] H := hP
        have hD : va_D A [(k0, .inr (0, [.ref k1, .ref k2, .ref k3, .int (nI pl), .int (nI aw)])), (k1, .inl (cI, 64, .inl (nF (va_up Oc pl k)))), (k2, .inl (cI, 64, .inl (nF Bc))), (k3, .inl (cZ, 64, .inl (nF Dc))), (l0, .inr (1, [.int (nI nm), .ref l1, .ref l2, .ref l3, .ref l4, .ref l5, .ref l6, .ref l7, .int (nI np)])), (l1, .inl (cI, 64, .inl (nF P))), (l2, .inl (cI, 64, .inl (nF Y))), (l3, .inl (cI, 64, .inl (nF V))), (l4, .inl (cI, 64, .inl (nF F))), (l5, .inl (cI, 64, .inl (nF L))), (l6, .inl (cI, 64, .inl (nF Z))), (l7, .inl (cI, 64, .inl (nF X)))] := hD
        refine lv_aload_n hx hb dX0_cutPath_73 rfl (lv_at hl 4 rfl) ?_
        refine va_get (D := D) (ci := 0) (v := .ref k2) (C := RX0) (T := TX0) (N := 5) hx hb hts hinX0 hown hK hP 0 rfl rfl 1 (by decide) lk7 (fun _ h9 => h9) rfl dX0_cutPath_74 ?_
        refine lv_aload_n hx hb dX0_cutPath_77 rfl (lv_at hl 4 rfl) ?_
        refine va_get (D := D) (ci := 0) (v := .int (nI pl)) (C := RX0) (T := TX0) (N := 5) hx hb hts hinX0 hown hK hP 0 rfl rfl 3 (by decide) lk1 (fun _ h9 => h9) rfl dX0_cutPath_78 ?_
        refine lv_iload hx hb dX0_cutPath_81 (lv_at hl 0 rfl) ?_
        refine nv_iast hx hb hK hP hD hS 2 rfl (by omega) (by decide) dX0_cutPath_83 (fun H locs hP hD hS => ?_)
        have hP : va_P D vwCl [(k0, .inr (0, [.ref k1, .ref k2, .ref k3, .int (nI pl), .int (nI aw)])), (k1, .inl (cI, 64, .inl (nF (va_up Oc pl k)))), (k2, .inl (cI, 64, .inl (nF (va_up Bc pl (F k))))), (k3, .inl (cZ, 64, .inl (nF Dc))), (l0, .inr (1, [.int (nI nm), .ref l1, .ref l2, .ref l3, .ref l4, .ref l5, .ref l6, .ref l7, .int (nI np)])), (l1, .inl (cI, 64, .inl (nF P))), (l2, .inl (cI, 64, .inl (nF Y))), (l3, .inl (cI, 64, .inl (nF V))), (l4, .inl (cI, 64, .inl (nF F))), (l5, .inl (cI, 64, .inl (nF L))), (l6, .inl (cI, 64, .inl (nF Z))), (l7, .inl (cI, 64, .inl (nF X)))] H := hP
        have hD : va_D A [(k0, .inr (0, [.ref k1, .ref k2, .ref k3, .int (nI pl), .int (nI aw)])), (k1, .inl (cI, 64, .inl (nF (va_up Oc pl k)))), (k2, .inl (cI, 64, .inl (nF (va_up Bc pl (F k))))), (k3, .inl (cZ, 64, .inl (nF Dc))), (l0, .inr (1, [.int (nI nm), .ref l1, .ref l2, .ref l3, .ref l4, .ref l5, .ref l6, .ref l7, .int (nI np)])), (l1, .inl (cI, 64, .inl (nF P))), (l2, .inl (cI, 64, .inl (nF Y))), (l3, .inl (cI, 64, .inl (nF V))), (l4, .inl (cI, 64, .inl (nF F))), (l5, .inl (cI, 64, .inl (nF L))), (l6, .inl (cI, 64, .inl (nF Z))), (l7, .inl (cI, 64, .inl (nF X)))] := hD
        refine lv_aload_n hx hb dX0_cutPath_84 rfl (lv_at hl 4 rfl) ?_
        refine lv_dup hx hb dX0_cutPath_85 rfl ?_
        refine va_get (D := D) (ci := 0) (v := .int (nI pl)) (C := RX0) (T := TX0) (N := 5) hx hb hts hinX0 hown hK hP 0 rfl rfl 3 (by decide) lk1 (fun _ h9 => h9) rfl dX0_cutPath_86 ?_
        refine lv_iconst (v := nI 1) hx hb dX0_cutPath_89 (by decide) ?_
        refine nv_iadd hx hb dX0_cutPath_90 ?_
        refine va_put (D := D) (ci := 0) (v := .int (nI (pl + 1))) (ty := .int) (C := RX0) (T := TX0) (N := 5) hx hb hts hinX0 tyX0 tyX0_ok nmX0 hown hK hP hD hS 0 rfl rfl 3 (by decide) lk1 (fun _ h9 => h9) rfl (by decide +kernel) rfl rfl (Nat.le_of_ble_eq_true rfl) dX0_cutPath_91 (fun H locs hP hD hS => ?_)
        have hP : va_P D vwCl [(k0, .inr (0, [.ref k1, .ref k2, .ref k3, .int (nI (pl + 1)), .int (nI aw)])), (k1, .inl (cI, 64, .inl (nF (va_up Oc pl k)))), (k2, .inl (cI, 64, .inl (nF (va_up Bc pl (F k))))), (k3, .inl (cZ, 64, .inl (nF Dc))), (l0, .inr (1, [.int (nI nm), .ref l1, .ref l2, .ref l3, .ref l4, .ref l5, .ref l6, .ref l7, .int (nI np)])), (l1, .inl (cI, 64, .inl (nF P))), (l2, .inl (cI, 64, .inl (nF Y))), (l3, .inl (cI, 64, .inl (nF V))), (l4, .inl (cI, 64, .inl (nF F))), (l5, .inl (cI, 64, .inl (nF L))), (l6, .inl (cI, 64, .inl (nF Z))), (l7, .inl (cI, 64, .inl (nF X)))] H := hP
        have hD : va_D A [(k0, .inr (0, [.ref k1, .ref k2, .ref k3, .int (nI (pl + 1)), .int (nI aw)])), (k1, .inl (cI, 64, .inl (nF (va_up Oc pl k)))), (k2, .inl (cI, 64, .inl (nF (va_up Bc pl (F k))))), (k3, .inl (cZ, 64, .inl (nF Dc))), (l0, .inr (1, [.int (nI nm), .ref l1, .ref l2, .ref l3, .ref l4, .ref l5, .ref l6, .ref l7, .int (nI np)])), (l1, .inl (cI, 64, .inl (nF P))), (l2, .inl (cI, 64, .inl (nF Y))), (l3, .inl (cI, 64, .inl (nF V))), (l4, .inl (cI, 64, .inl (nF F))), (l5, .inl (cI, 64, .inl (nF L))), (l6, .inl (cI, 64, .inl (nF Z))), (l7, .inl (cI, 64, .inl (nF X)))] := hD
        refine lv_aload_n hx hb dX0_cutPath_94 rfl (lv_at hl 4 rfl) ?_
        refine lv_dup hx hb dX0_cutPath_95 rfl ?_
        refine va_get (D := D) (ci := 0) (v := .int (nI aw)) (C := RX0) (T := TX0) (N := 5) hx hb hts hinX0 hown hK hP 0 rfl rfl 4 (by decide) lk8 (fun _ h9 => h9) rfl dX0_cutPath_96 ?_
        refine lv_iload_n hx hb dX0_cutPath_99 rfl (lv_at hl 7 rfl) ?_
        refine lv_iload hx hb dX0_cutPath_100 (lv_at hl 0 rfl) ?_
        refine gcSN (As := [.int (nI a), .int (nI (F k))]) (rest := [.int (nI aw), .ref k0]) ⟨hx, hb, hml, hown, hts⟩ (c_X4_wayBetween l a (F k) (by first | assumption | omega) (by omega)) (va_cnB 2 hts gX0_cutPath_X4_wayBetween_n49 rfl rfl rfl (hG.1 (RX0, 49, yX4_wayBetween) (by decide +kernel)) lk4 (by decide +kernel) ⟨Nat.le_of_ble_eq_true rfl, Nat.le_of_ble_eq_true rfl⟩) lk5 hl.1 rfl rfl (Nat.le_of_ble_eq_true rfl) ⟨Nat.zero_le _, Nat.zero_le _⟩ dX0_cutPath_102 ?_
        refine nv_iadd hx hb dX0_cutPath_105 ?_
        refine va_put (D := D) (ci := 0) (v := .int (nI (aw + (fr a (F k))))) (ty := .int) (C := RX0) (T := TX0) (N := 5) hx hb hts hinX0 tyX0 tyX0_ok nmX0 hown hK hP hD hS 0 rfl rfl 4 (by decide) lk8 (fun _ h9 => h9) rfl (by decide +kernel) rfl rfl (Nat.le_of_ble_eq_true rfl) dX0_cutPath_106 (fun H locs hP hD hS => ?_)
        have hP : va_P D vwCl [(k0, .inr (0, [.ref k1, .ref k2, .ref k3, .int (nI (pl + 1)), .int (nI (aw + (fr a (F k))))])), (k1, .inl (cI, 64, .inl (nF (va_up Oc pl k)))), (k2, .inl (cI, 64, .inl (nF (va_up Bc pl (F k))))), (k3, .inl (cZ, 64, .inl (nF Dc))), (l0, .inr (1, [.int (nI nm), .ref l1, .ref l2, .ref l3, .ref l4, .ref l5, .ref l6, .ref l7, .int (nI np)])), (l1, .inl (cI, 64, .inl (nF P))), (l2, .inl (cI, 64, .inl (nF Y))), (l3, .inl (cI, 64, .inl (nF V))), (l4, .inl (cI, 64, .inl (nF F))), (l5, .inl (cI, 64, .inl (nF L))), (l6, .inl (cI, 64, .inl (nF Z))), (l7, .inl (cI, 64, .inl (nF X)))] H := hP
        have hD : va_D A [(k0, .inr (0, [.ref k1, .ref k2, .ref k3, .int (nI (pl + 1)), .int (nI (aw + (fr a (F k))))])), (k1, .inl (cI, 64, .inl (nF (va_up Oc pl k)))), (k2, .inl (cI, 64, .inl (nF (va_up Bc pl (F k))))), (k3, .inl (cZ, 64, .inl (nF Dc))), (l0, .inr (1, [.int (nI nm), .ref l1, .ref l2, .ref l3, .ref l4, .ref l5, .ref l6, .ref l7, .int (nI np)])), (l1, .inl (cI, 64, .inl (nF P))), (l2, .inl (cI, 64, .inl (nF Y))), (l3, .inl (cI, 64, .inl (nF V))), (l4, .inl (cI, 64, .inl (nF F))), (l5, .inl (cI, 64, .inl (nF L))), (l6, .inl (cI, 64, .inl (nF Z))), (l7, .inl (cI, 64, .inl (nF X)))] := hD
        refine lv_aload_n hx hb dX0_cutPath_109 rfl (lv_at hl 4 rfl) ?_
        refine va_get (D := D) (ci := 0) (v := .ref k3) (C := RX0) (T := TX0) (N := 5) hx hb hts hinX0 hown hK hP 0 rfl rfl 2 (by decide) lk9 (fun _ h9 => h9) rfl dX0_cutPath_110 ?_
        refine lv_iload_n hx hb dX0_cutPath_113 rfl (lv_at hl 6 rfl) ?_
        refine lv_iconst (v := nI 1) hx hb dX0_cutPath_114 (by decide) ?_
        refine nv_zast hx hb hK hP hD hS 3 rfl (by omega) (by decide) (by omega) dX0_cutPath_115 (fun H locs hP hD hS => ?_)
        have hP : va_P D vwCl [(k0, .inr (0, [.ref k1, .ref k2, .ref k3, .int (nI (pl + 1)), .int (nI (aw + (fr a (F k))))])), (k1, .inl (cI, 64, .inl (nF (va_up Oc pl k)))), (k2, .inl (cI, 64, .inl (nF (va_up Bc pl (F k))))), (k3, .inl (cZ, 64, .inl (nF (va_up Dc k 1)))), (l0, .inr (1, [.int (nI nm), .ref l1, .ref l2, .ref l3, .ref l4, .ref l5, .ref l6, .ref l7, .int (nI np)])), (l1, .inl (cI, 64, .inl (nF P))), (l2, .inl (cI, 64, .inl (nF Y))), (l3, .inl (cI, 64, .inl (nF V))), (l4, .inl (cI, 64, .inl (nF F))), (l5, .inl (cI, 64, .inl (nF L))), (l6, .inl (cI, 64, .inl (nF Z))), (l7, .inl (cI, 64, .inl (nF X)))] H := hP
        have hD : va_D A [(k0, .inr (0, [.ref k1, .ref k2, .ref k3, .int (nI (pl + 1)), .int (nI (aw + (fr a (F k))))])), (k1, .inl (cI, 64, .inl (nF (va_up Oc pl k)))), (k2, .inl (cI, 64, .inl (nF (va_up Bc pl (F k))))), (k3, .inl (cZ, 64, .inl (nF (va_up Dc k 1)))), (l0, .inr (1, [.int (nI nm), .ref l1, .ref l2, .ref l3, .ref l4, .ref l5, .ref l6, .ref l7, .int (nI np)])), (l1, .inl (cI, 64, .inl (nF P))), (l2, .inl (cI, 64, .inl (nF Y))), (l3, .inl (cI, 64, .inl (nF V))), (l4, .inl (cI, 64, .inl (nF F))), (l5, .inl (cI, 64, .inl (nF L))), (l6, .inl (cI, 64, .inl (nF Z))), (l7, .inl (cI, 64, .inl (nF X)))] := hD
        refine lv_iload hx hb dX0_cutPath_116 (lv_at hl 1 rfl) ?_
        refine nv_if_eq (tgt := 126) hx hb dX0_cutPath_118 (by decide) (by omega) (fun c_6 => ?_) (fun c_6 => ?_)
        · skip
          exact absurd c_6 (by decide)
        · skip
          refine lv_iload hx hb dX0_cutPath_121 (lv_at hl 2 rfl) ?_
          refine lv_goto (tgt := 128) hx hb dX0_cutPath_123 (by decide) ?_
          exact hret _ (va_up Bc pl (F k), aw + (fr a (F k))) _ _ _ _ dX0_cutPath_128 (⟨by unfold en; rw [if_pos (by omega)], by unfold stt; rw [if_pos (by omega)], by unfold stt; rw [if_pos (by omega)]⟩) hP hD hS
  · skip
    exact absurd hpl c_1

set_option maxHeartbeats 4000000 in
set_option maxRecDepth 100000 in
theorem c_X0_plan (l : Launch) (D : va_G) (cI cZ : ClassId) (tt : Nat → Nat) (sz : Nat) (k0 k1 k2 k3 : Nat) (pl aw : Nat) (Oc Bc Dc : Nat → Nat) (l0 l1 l2 l3 l4 l5 l6 l7 : Nat) (nm np : Nat) (P Y V F L Z X : Nat → Nat) (hnp : np ≤ 64) (hFL : ∀ k, k < np → F k < 64 ∧ L k < 64) : MV l yX0_plan wsX0_plan ({ frames := 3, cells := 0, slots := 0, locals := 71 } : Room) D cI cZ tt [.ref k0, .ref l0] [(k0, .inr (0, [.ref k1, .ref k2, .ref k3, .int (nI pl), .int (nI aw)])), (k1, .inl (cI, 64, .inl (nF Oc))), (k2, .inl (cI, 64, .inl (nF Bc))), (k3, .inl (cZ, 64, .inl (nF Dc))), (l0, .inr (1, [.int (nI nm), .ref l1, .ref l2, .ref l3, .ref l4, .ref l5, .ref l6, .ref l7, .int (nI np)])), (l1, .inl (cI, 64, .inl (nF P))), (l2, .inl (cI, 64, .inl (nF Y))), (l3, .inl (cI, 64, .inl (nF V))), (l4, .inl (cI, 64, .inl (nF F))), (l5, .inl (cI, 64, .inl (nF L))), (l6, .inl (cI, 64, .inl (nF Z))), (l7, .inl (cI, 64, .inl (nF X)))] sz 0 0 (fun (u : (Nat → Nat) × (Nat → Nat) × (Nat → Nat) × (Nat) × (Nat)) => (∀ j, j < np → u.1 j = od F L np j) ∧ (∀ j, j < np → u.2.1 j = bgc F L np j) ∧ (u.2.2.2.1 = np) ∧ (u.2.2.2.2 = (os F L np np).2.2)) (fun (u : (Nat → Nat) × (Nat → Nat) × (Nat → Nat) × (Nat) × (Nat)) => [(k0, .inr (0, [.ref k1, .ref k2, .ref k3, .int (nI u.2.2.2.1), .int (nI u.2.2.2.2)])), (k1, .inl (cI, 64, .inl (nF u.1))), (k2, .inl (cI, 64, .inl (nF u.2.1))), (k3, .inl (cZ, 64, .inl (nF u.2.2.1))), (l0, .inr (1, [.int (nI nm), .ref l1, .ref l2, .ref l3, .ref l4, .ref l5, .ref l6, .ref l7, .int (nI np)])), (l1, .inl (cI, 64, .inl (nF P))), (l2, .inl (cI, 64, .inl (nF Y))), (l3, .inl (cI, 64, .inl (nF V))), (l4, .inl (cI, 64, .inl (nF F))), (l5, .inl (cI, 64, .inl (nF L))), (l6, .inl (cI, 64, .inl (nF Z))), (l7, .inl (cI, 64, .inl (nF X)))]) := by
  refine entV (cc := cX0_plan) 5 (by decide) rfl (Nat.le_of_ble_eq_true rfl) (fun pr e s m args below meth c0 A Q H ls hx hb hml hown hts hin hsz hA hP hK hD hS hG hret hl => ?_)
  have hown : s.vm.findClass RX0 = some m.cls := hown
  have lk1 := hts (.fieldLink RX0 22 "BurinLines$Cutting" "planned" "I") (by decide +kernel)
  have lk2 := hts (.fieldLink RX0 26 "BurinLines$Cutting" "wayInAir" "I") (by decide +kernel)
  have lk3 := hts (.initialized RX4) (by decide +kernel)
  have lk4 := hts (.static yX4_cellOf) (by decide +kernel)
  have lk5 := hts (.fieldLink RX0 33 "BurinLines$Layer" "pathCount" "I") (by decide +kernel)
  have lk6 := hts (.fieldLink RX0 18 "BurinLines$Cutting" "done" "[Z") (by decide +kernel)
  have hinX0 : ∀ w ∈ wsX00, w ∈ wsX0_plan := by decide +kernel
  have hinX1 : ∀ w ∈ wsX10, w ∈ wsX0_plan := by decide +kernel
  have hl : lv_has ls 5 [(0, .ref k0), (1, .ref l0)] := hl
  refine lv_iconst (v := nI 0) hx hb dX0_plan_0 (by decide) ?_
  refine lv_istore_n (lv' := [(2, .int (nI 0)), (0, .ref k0), (1, .ref l0)]) hx hb dX0_plan_1 rfl hl (by decide) rfl (fun ls hl => ?_)
  have L2 : ∀ (n : Nat) (i : Nat) (D1 : Nat → Nat), 64 - i < n → (i ≤ 64) → (∀ k, k < i → D1 k = 0) → ∀ (H : Heap) (locs : List Loc) (ls : Array Slot), va_P D vwCl [(k0, .inr (0, [.ref k1, .ref k2, .ref k3, .int (nI pl), .int (nI aw)])), (k1, .inl (cI, 64, .inl (nF Oc))), (k2, .inl (cI, 64, .inl (nF Bc))), (k3, .inl (cZ, 64, .inl (nF D1))), (l0, .inr (1, [.int (nI nm), .ref l1, .ref l2, .ref l3, .ref l4, .ref l5, .ref l6, .ref l7, .int (nI np)])), (l1, .inl (cI, 64, .inl (nF P))), (l2, .inl (cI, 64, .inl (nF Y))), (l3, .inl (cI, 64, .inl (nF V))), (l4, .inl (cI, 64, .inl (nF F))), (l5, .inl (cI, 64, .inl (nF L))), (l6, .inl (cI, 64, .inl (nF Z))), (l7, .inl (cI, 64, .inl (nF X)))] H → va_D A [(k0, .inr (0, [.ref k1, .ref k2, .ref k3, .int (nI pl), .int (nI aw)])), (k1, .inl (cI, 64, .inl (nF Oc))), (k2, .inl (cI, 64, .inl (nF Bc))), (k3, .inl (cZ, 64, .inl (nF D1))), (l0, .inr (1, [.int (nI nm), .ref l1, .ref l2, .ref l3, .ref l4, .ref l5, .ref l6, .ref l7, .int (nI np)])), (l1, .inl (cI, 64, .inl (nF P))), (l2, .inl (cI, 64, .inl (nF Y))), (l3, .inl (cI, 64, .inl (nF V))), (l4, .inl (cI, 64, .inl (nF F))), (l5, .inl (cI, 64, .inl (nF L))), (l6, .inl (cI, 64, .inl (nF Z))), (l7, .inl (cI, 64, .inl (nF X)))] → va_S A s.heap H locs → lv_has ls 5 [(0, .ref k0), (1, .ref l0), (2, .int (nI i))] → W pr l e ({ frames := 3, cells := 0, slots := 0, locals := 71 } : Room) s m args below meth c0 H locs 0 0 Q (F0 m 2 ls []) := by
    intro n
    induction n with
    | zero => intro i D1 h0; exact absurd h0 (Nat.not_lt_zero _)
    | succ n ih2 =>
      intro i D1 hm2 hi q1 H locs ls hP hD hS hl
      refine lv_iload_n hx hb dX0_plan_2 rfl (lv_at hl 2 rfl) ?_
      refine lv_bipush (v := nI 64) hx hb dX0_plan_3 (by decide) ?_
      refine nv_icmp_ge (tgt := 21) hx hb dX0_plan_5 (by decide) (by omega) (by omega) (fun c_1 => ?_) (fun c_1 => ?_)
      · skip
        have h64 : i = 64 := by omega
        subst h64
        refine lv_aload_n hx hb dX0_plan_21 rfl (lv_at hl 0 rfl) ?_
        refine lv_iconst (v := nI 0) hx hb dX0_plan_22 (by decide) ?_
        refine va_put (D := D) (ci := 0) (v := .int (nI 0)) (ty := .int) (C := RX0) (T := TX0) (N := 5) hx hb hts hinX0 tyX0 tyX0_ok nmX0 hown hK hP hD hS 0 rfl rfl 3 (by decide) lk1 (fun _ h9 => h9) rfl (by decide +kernel) rfl rfl (Nat.le_of_ble_eq_true rfl) dX0_plan_23 (fun H locs hP hD hS => ?_)
        have hP : va_P D vwCl [(k0, .inr (0, [.ref k1, .ref k2, .ref k3, .int (nI 0), .int (nI aw)])), (k1, .inl (cI, 64, .inl (nF Oc))), (k2, .inl (cI, 64, .inl (nF Bc))), (k3, .inl (cZ, 64, .inl (nF D1))), (l0, .inr (1, [.int (nI nm), .ref l1, .ref l2, .ref l3, .ref l4, .ref l5, .ref l6, .ref l7, .int (nI np)])), (l1, .inl (cI, 64, .inl (nF P))), (l2, .inl (cI, 64, .inl (nF Y))), (l3, .inl (cI, 64, .inl (nF V))), (l4, .inl (cI, 64, .inl (nF F))), (l5, .inl (cI, 64, .inl (nF L))), (l6, .inl (cI, 64, .inl (nF Z))), (l7, .inl (cI, 64, .inl (nF X)))] H := hP
        have hD : va_D A [(k0, .inr (0, [.ref k1, .ref k2, .ref k3, .int (nI 0), .int (nI aw)])), (k1, .inl (cI, 64, .inl (nF Oc))), (k2, .inl (cI, 64, .inl (nF Bc))), (k3, .inl (cZ, 64, .inl (nF D1))), (l0, .inr (1, [.int (nI nm), .ref l1, .ref l2, .ref l3, .ref l4, .ref l5, .ref l6, .ref l7, .int (nI np)])), (l1, .inl (cI, 64, .inl (nF P))), (l2, .inl (cI, 64, .inl (nF Y))), (l3, .inl (cI, 64, .inl (nF V))), (l4, .inl (cI, 64, .inl (nF F))), (l5, .inl (cI, 64, .inl (nF L))), (l6, .inl (cI, 64, .inl (nF Z))), (l7, .inl (cI, 64, .inl (nF X)))] := hD
        refine lv_aload_n hx hb dX0_plan_26 rfl (lv_at hl 0 rfl) ?_
        refine lv_iconst (v := nI 0) hx hb dX0_plan_27 (by decide) ?_
        refine va_put (D := D) (ci := 0) (v := .int (nI 0)) (ty := .int) (C := RX0) (T := TX0) (N := 5) hx hb hts hinX0 tyX0 tyX0_ok nmX0 hown hK hP hD hS 0 rfl rfl 4 (by decide) lk2 (fun _ h9 => h9) rfl (by decide +kernel) rfl rfl (Nat.le_of_ble_eq_true rfl) dX0_plan_28 (fun H locs hP hD hS => ?_)
        have hP : va_P D vwCl [(k0, .inr (0, [.ref k1, .ref k2, .ref k3, .int (nI 0), .int (nI 0)])), (k1, .inl (cI, 64, .inl (nF Oc))), (k2, .inl (cI, 64, .inl (nF Bc))), (k3, .inl (cZ, 64, .inl (nF D1))), (l0, .inr (1, [.int (nI nm), .ref l1, .ref l2, .ref l3, .ref l4, .ref l5, .ref l6, .ref l7, .int (nI np)])), (l1, .inl (cI, 64, .inl (nF P))), (l2, .inl (cI, 64, .inl (nF Y))), (l3, .inl (cI, 64, .inl (nF V))), (l4, .inl (cI, 64, .inl (nF F))), (l5, .inl (cI, 64, .inl (nF L))), (l6, .inl (cI, 64, .inl (nF Z))), (l7, .inl (cI, 64, .inl (nF X)))] H := hP
        have hD : va_D A [(k0, .inr (0, [.ref k1, .ref k2, .ref k3, .int (nI 0), .int (nI 0)])), (k1, .inl (cI, 64, .inl (nF Oc))), (k2, .inl (cI, 64, .inl (nF Bc))), (k3, .inl (cZ, 64, .inl (nF D1))), (l0, .inr (1, [.int (nI nm), .ref l1, .ref l2, .ref l3, .ref l4, .ref l5, .ref l6, .ref l7, .int (nI np)])), (l1, .inl (cI, 64, .inl (nF P))), (l2, .inl (cI, 64, .inl (nF Y))), (l3, .inl (cI, 64, .inl (nF V))), (l4, .inl (cI, 64, .inl (nF F))), (l5, .inl (cI, 64, .inl (nF L))), (l6, .inl (cI, 64, .inl (nF Z))), (l7, .inl (cI, 64, .inl (nF X)))] := hD
        refine lv_iconst (v := nI 0) hx hb dX0_plan_31 (by decide) ?_
        refine lv_iconst (v := nI 0) hx hb dX0_plan_32 (by decide) ?_
        refine gcSN (As := [.int (nI 0), .int (nI 0)]) (rest := []) ⟨hx, hb, hml, hown, hts⟩ (c_X4_cellOf l 0 0 ) (va_cnB 2 hts gX0_plan_X4_cellOf_n29 rfl rfl rfl (hG.1 (RX0, 29, yX4_cellOf) (by decide +kernel)) lk3 (by decide +kernel) ⟨Nat.le_of_ble_eq_true rfl, Nat.le_of_ble_eq_true rfl⟩) lk4 hl.1 rfl rfl (Nat.le_of_ble_eq_true rfl) ⟨Nat.zero_le _, Nat.zero_le _⟩ dX0_plan_33 ?_
        refine lv_istore_n (lv' := [(2, .int (nI (8 * 0 + 0))), (0, .ref k0), (1, .ref l0)]) hx hb dX0_plan_36 rfl hl (by decide) rfl (fun ls hl => ?_)
        refine lv_iconst (v := nI 0) hx hb dX0_plan_37 (by decide) ?_
        refine lv_istore_n (lv' := [(3, .int (nI 0)), (2, .int (nI (8 * 0 + 0))), (0, .ref k0), (1, .ref l0)]) hx hb dX0_plan_38 rfl hl (by decide) rfl (fun ls hl => ?_)
        have L39 : ∀ (n : Nat) (i : Nat) (O2 : Nat → Nat) (B2 : Nat → Nat) (D2 : Nat → Nat) (aw2 : Nat) (a : Nat), np - i < n → (i ≤ np) → (∀ j, j < i → O2 j = od F L np j) → (∀ j, j < i → B2 j = bgc F L np j) → (∀ k, k < 64 → D2 k = (os F L np i).2.1 k) → (aw2 = (os F L np i).2.2) → (a = (os F L np i).1) → ∀ (H : Heap) (locs : List Loc) (ls : Array Slot), va_P D vwCl [(k0, .inr (0, [.ref k1, .ref k2, .ref k3, .int (nI i), .int (nI aw2)])), (k1, .inl (cI, 64, .inl (nF O2))), (k2, .inl (cI, 64, .inl (nF B2))), (k3, .inl (cZ, 64, .inl (nF D2))), (l0, .inr (1, [.int (nI nm), .ref l1, .ref l2, .ref l3, .ref l4, .ref l5, .ref l6, .ref l7, .int (nI np)])), (l1, .inl (cI, 64, .inl (nF P))), (l2, .inl (cI, 64, .inl (nF Y))), (l3, .inl (cI, 64, .inl (nF V))), (l4, .inl (cI, 64, .inl (nF F))), (l5, .inl (cI, 64, .inl (nF L))), (l6, .inl (cI, 64, .inl (nF Z))), (l7, .inl (cI, 64, .inl (nF X)))] H → va_D A [(k0, .inr (0, [.ref k1, .ref k2, .ref k3, .int (nI i), .int (nI aw2)])), (k1, .inl (cI, 64, .inl (nF O2))), (k2, .inl (cI, 64, .inl (nF B2))), (k3, .inl (cZ, 64, .inl (nF D2))), (l0, .inr (1, [.int (nI nm), .ref l1, .ref l2, .ref l3, .ref l4, .ref l5, .ref l6, .ref l7, .int (nI np)])), (l1, .inl (cI, 64, .inl (nF P))), (l2, .inl (cI, 64, .inl (nF Y))), (l3, .inl (cI, 64, .inl (nF V))), (l4, .inl (cI, 64, .inl (nF F))), (l5, .inl (cI, 64, .inl (nF L))), (l6, .inl (cI, 64, .inl (nF Z))), (l7, .inl (cI, 64, .inl (nF X)))] → va_S A s.heap H locs → lv_has ls 5 [(0, .ref k0), (1, .ref l0), (2, .int (nI a)), (3, .int (nI i))] → W pr l e ({ frames := 3, cells := 0, slots := 0, locals := 71 } : Room) s m args below meth c0 H locs 0 0 Q (F0 m 39 ls []) := by
          intro n
          induction n with
          | zero => intro i O2 B2 D2 aw2 a h0; exact absurd h0 (Nat.not_lt_zero _)
          | succ n ih39 =>
            intro i O2 B2 D2 aw2 a hm39 hi hO2 hB2 hD2 haw hat H locs ls hP hD hS hl
            refine lv_iload_n hx hb dX0_plan_39 rfl (lv_at hl 3 rfl) ?_
            refine lv_aload_n hx hb dX0_plan_40 rfl (lv_at hl 1 rfl) ?_
            refine va_get (D := D) (ci := 1) (v := .int (nI np)) (C := RX1) (T := TX1) (N := 9) hx hb hts hinX1 hown hK hP 4 rfl rfl 8 (by decide) lk5 (fun _ h9 => h9) rfl dX0_plan_41 ?_
            refine nv_icmp_ge (tgt := 83) hx hb dX0_plan_44 (by decide) (by omega) (by omega) (fun c_2 => ?_) (fun c_2 => ?_)
            · skip
              exact hret (O2, B2, D2, i, aw2) _ _ _ _ dX0_plan_83 (⟨by intro j hj; exact hO2 j (by omega), by intro j hj; exact hB2 j (by omega), by show i = np; omega, by rw [haw, show i = np by omega]⟩) hP hD hS
            · skip
              refine lv_iload_n hx hb dX0_plan_47 rfl (lv_at hl 3 rfl) ?_
              refine lv_bipush (v := nI 64) hx hb dX0_plan_48 (by decide) ?_
              refine nv_icmp_ge (tgt := 83) hx hb dX0_plan_50 (by decide) (by omega) (by omega) (fun c_3 => ?_) (fun c_3 => ?_)
              · skip
                exact absurd hnp (by omega)
              · skip
                refine lv_aload_n hx hb dX0_plan_53 rfl (lv_at hl 0 rfl) ?_
                refine lv_aload_n hx hb dX0_plan_54 rfl (lv_at hl 1 rfl) ?_
                refine lv_iload_n hx hb dX0_plan_55 rfl (lv_at hl 2 rfl) ?_
                refine gcVi (ws' := fun _ => [(k0, .inr (0, [.ref k1, .ref k2, .ref k3, .int (nI i), .int (nI aw2)])), (k1, .inl (cI, 64, .inl (nF O2))), (k2, .inl (cI, 64, .inl (nF B2))), (k3, .inl (cZ, 64, .inl (nF D2))), (l0, .inr (1, [.int (nI nm), .ref l1, .ref l2, .ref l3, .ref l4, .ref l5, .ref l6, .ref l7, .int (nI np)])), (l1, .inl (cI, 64, .inl (nF P))), (l2, .inl (cI, 64, .inl (nF Y))), (l3, .inl (cI, 64, .inl (nF V))), (l4, .inl (cI, 64, .inl (nF F))), (l5, .inl (cI, 64, .inl (nF L))), (l6, .inl (cI, 64, .inl (nF Z))), (l7, .inl (cI, 64, .inl (nF X)))]) (wr := []) (ci := 0) (q0 := 0) (As := [.ref l0, .int (nI a)]) (rest := []) ⟨hx, hb, hml, hown, hts⟩ (c_X0_nearestPath l D cI cZ tt H.size k0 k1 k2 k3 i aw2 O2 B2 D2 l0 l1 l2 l3 l4 l5 l6 l7 nm np P Y V F L Z X a (by first | assumption | omega) (by first | assumption | omega) (by rw [hat]; exact (osI hnp hFL i (by omega)).1) (by intro k hk; rw [hD2 k hk]; exact (osI hnp hFL i (by omega)).2.1 k)) (cwV 2 hts gX0_plan_X0_nearestPath rfl rfl rfl (by decide +kernel) ⟨Nat.le_of_ble_eq_true rfl, Nat.le_of_ble_eq_true rfl⟩) hP hK hD hS hA hG rfl rfl [0, 1, 2, 3, 4, 5, 6, 7, 8, 9, 10, 11] [] [0, 1, 2, 3, 4, 5, 6, 7, 8, 9, 10, 11] (by decide) rfl rfl (by decide) (by decide) (by decide) (fun _ => rfl) hl.1 rfl rfl (Nat.le_of_ble_eq_true rfl) ⟨Nat.zero_le _, Nat.zero_le _⟩ dX0_plan_56 (fun r u H locs hp hP hD hS => ?_)
                obtain rfl := hp
                have hP : va_P D vwCl [(k0, .inr (0, [.ref k1, .ref k2, .ref k3, .int (nI i), .int (nI aw2)])), (k1, .inl (cI, 64, .inl (nF O2))), (k2, .inl (cI, 64, .inl (nF B2))), (k3, .inl (cZ, 64, .inl (nF D2))), (l0, .inr (1, [.int (nI nm), .ref l1, .ref l2, .ref l3, .ref l4, .ref l5, .ref l6, .ref l7, .int (nI np)])), (l1, .inl (cI, 64, .inl (nF P))), (l2, .inl (cI, 64, .inl (nF Y))), (l3, .inl (cI, 64, .inl (nF V))), (l4, .inl (cI, 64, .inl (nF F))), (l5, .inl (cI, 64, .inl (nF L))), (l6, .inl (cI, 64, .inl (nF Z))), (l7, .inl (cI, 64, .inl (nF X)))] H := hP
                have hD : va_D A [(k0, .inr (0, [.ref k1, .ref k2, .ref k3, .int (nI i), .int (nI aw2)])), (k1, .inl (cI, 64, .inl (nF O2))), (k2, .inl (cI, 64, .inl (nF B2))), (k3, .inl (cZ, 64, .inl (nF D2))), (l0, .inr (1, [.int (nI nm), .ref l1, .ref l2, .ref l3, .ref l4, .ref l5, .ref l6, .ref l7, .int (nI np)])), (l1, .inl (cI, 64, .inl (nF P))), (l2, .inl (cI, 64, .inl (nF Y))), (l3, .inl (cI, 64, .inl (nF V))), (l4, .inl (cI, 64, .inl (nF F))), (l5, .inl (cI, 64, .inl (nF L))), (l6, .inl (cI, 64, .inl (nF Z))), (l7, .inl (cI, 64, .inl (nF X)))] := hD
                obtain ⟨o1, o2, o3, o4, o5⟩ := osI hnp hFL i (by omega)
                have hod : od F L np i < np := (osI hnp hFL (i + 1) (by omega)).2.2.2.1 i (by omega)
                have eod : (sc (dfn F L a) D2 8 np).1 = od F L np i := by
                  rw [od, ← hat, sc_cong (d2 := dfn F L a) (e2 := (os F L np i).2.1) (fun k hk => ⟨rfl, by rw [hD2 k (by omega)]⟩)]
                refine top_eq (congrArg rI eod) ?_
                refine lv_istore (lv' := [(4, .int (rI (od F L np i))), (0, .ref k0), (1, .ref l0), (2, .int (nI a)), (3, .int (nI i))]) hx hb dX0_plan_59 hl (by decide) rfl (fun ls hl => ?_)
                refine lv_iload hx hb dX0_plan_61 (lv_at hl 0 rfl) ?_
                refine lv_iconst (v := (-1)) hx hb dX0_plan_63 (by decide) ?_
                refine nv_rne (tgt := 68) hx hb dX0_plan_64 (by decide) (by omega) (fun c_4 => ?_) (fun c_4 => ?_)
                · skip
                  rw [rI_some c_4] at hl
                  have hapl : a < 64 := by rw [hat]; exact o1
                  refine lv_aload_n hx hb dX0_plan_68 rfl (lv_at hl 1 rfl) ?_
                  refine lv_aload_n hx hb dX0_plan_69 rfl (lv_at hl 2 rfl) ?_
                  refine lv_iload hx hb dX0_plan_70 (lv_at hl 0 rfl) ?_
                  refine lv_iload_n hx hb dX0_plan_72 rfl (lv_at hl 3 rfl) ?_
                  refine gcVi (ws' := fun (u : (Nat → Nat) × (Nat)) => [(k0, .inr (0, [.ref k1, .ref k2, .ref k3, .int (nI (i + 1)), .int (nI u.2)])), (k1, .inl (cI, 64, .inl (nF (va_up O2 i (od F L np i))))), (k2, .inl (cI, 64, .inl (nF u.1))), (k3, .inl (cZ, 64, .inl (nF (va_up D2 (od F L np i) 1)))), (l0, .inr (1, [.int (nI nm), .ref l1, .ref l2, .ref l3, .ref l4, .ref l5, .ref l6, .ref l7, .int (nI np)])), (l1, .inl (cI, 64, .inl (nF P))), (l2, .inl (cI, 64, .inl (nF Y))), (l3, .inl (cI, 64, .inl (nF V))), (l4, .inl (cI, 64, .inl (nF F))), (l5, .inl (cI, 64, .inl (nF L))), (l6, .inl (cI, 64, .inl (nF Z))), (l7, .inl (cI, 64, .inl (nF X)))]) (wr := []) (ci := 0) (q0 := 0) (As := [.ref l0, .int (nI (od F L np i)), .int (nI a)]) (rest := []) ⟨hx, hb, hml, hown, hts⟩ (c_X0_cutPath l D cI cZ tt H.size k0 k1 k2 k3 i aw2 O2 B2 D2 l0 l1 l2 l3 l4 l5 l6 l7 nm np P Y V F L Z X (od F L np i) a (by first | assumption | omega) (by first | assumption | omega) (by exact hapl) (by exact hod) (by omega)) (cwV 3 hts gX0_plan_X0_cutPath rfl rfl rfl (by decide +kernel) ⟨Nat.le_of_ble_eq_true rfl, Nat.le_of_ble_eq_true rfl⟩) hP hK hD hS hA hG rfl rfl [0, 1, 2, 3, 4, 5, 6, 7, 8, 9, 10, 11] [] [0, 1, 2, 3, 4, 5, 6, 7, 8, 9, 10, 11] (by decide) rfl rfl (by decide) (by decide) (by decide) (fun _ => rfl) hl.1 rfl rfl (Nat.le_of_ble_eq_true rfl) ⟨Nat.zero_le _, Nat.zero_le _⟩ dX0_plan_73 (fun r u H locs hp hP hD hS => ?_)
                  obtain ⟨B2_5, aw2_6⟩ := u
                  obtain ⟨rfl, hB2_7, haw2_8⟩ := hp
                  have hB2_7 : B2_5 = va_up B2 i (stt F L a (od F L np i)) := hB2_7
                  have haw2_8 : aw2_6 = aw2 + fr a (stt F L a (od F L np i)) := haw2_8
                  have hP : va_P D vwCl [(k0, .inr (0, [.ref k1, .ref k2, .ref k3, .int (nI (i + 1)), .int (nI aw2_6)])), (k1, .inl (cI, 64, .inl (nF (va_up O2 i (od F L np i))))), (k2, .inl (cI, 64, .inl (nF B2_5))), (k3, .inl (cZ, 64, .inl (nF (va_up D2 (od F L np i) 1)))), (l0, .inr (1, [.int (nI nm), .ref l1, .ref l2, .ref l3, .ref l4, .ref l5, .ref l6, .ref l7, .int (nI np)])), (l1, .inl (cI, 64, .inl (nF P))), (l2, .inl (cI, 64, .inl (nF Y))), (l3, .inl (cI, 64, .inl (nF V))), (l4, .inl (cI, 64, .inl (nF F))), (l5, .inl (cI, 64, .inl (nF L))), (l6, .inl (cI, 64, .inl (nF Z))), (l7, .inl (cI, 64, .inl (nF X)))] H := hP
                  have hD : va_D A [(k0, .inr (0, [.ref k1, .ref k2, .ref k3, .int (nI (i + 1)), .int (nI aw2_6)])), (k1, .inl (cI, 64, .inl (nF (va_up O2 i (od F L np i))))), (k2, .inl (cI, 64, .inl (nF B2_5))), (k3, .inl (cZ, 64, .inl (nF (va_up D2 (od F L np i) 1)))), (l0, .inr (1, [.int (nI nm), .ref l1, .ref l2, .ref l3, .ref l4, .ref l5, .ref l6, .ref l7, .int (nI np)])), (l1, .inl (cI, 64, .inl (nF P))), (l2, .inl (cI, 64, .inl (nF Y))), (l3, .inl (cI, 64, .inl (nF V))), (l4, .inl (cI, 64, .inl (nF F))), (l5, .inl (cI, 64, .inl (nF L))), (l6, .inl (cI, 64, .inl (nF Z))), (l7, .inl (cI, 64, .inl (nF X)))] := hD
                  refine lv_istore_n (lv' := [(2, .int (nI (en F L a (od F L np i)))), (4, .int (nI (od F L np i))), (0, .ref k0), (1, .ref l0), (3, .int (nI i))]) hx hb dX0_plan_76 rfl hl (by decide) rfl (fun ls hl => ?_)
                  refine lv_iinc (v := nI (i + 1)) (lv' := [(3, .int (nI (i + 1))), (2, .int (nI (en F L a (od F L np i)))), (4, .int (nI (od F L np i))), (0, .ref k0), (1, .ref l0)]) hx hb dX0_plan_77 hl (k := 4) rfl (by exact nI_add _ 1) (by decide) rfl (fun ls hl => ?_)
                  refine lv_goto (tgt := 39) hx hb dX0_plan_80 (by decide) ?_
                  exact ih39 (i + 1) (va_up O2 i (od F L np i)) B2_5 (va_up D2 (od F L np i) 1) aw2_6 (en F L a (od F L np i)) (by omega) (by omega) (by
                    intro j hj
                    rcases Nat.lt_or_ge j i with z | z
                    · rw [up_n _ _ (by omega)]; exact hO2 j z
                    · rw [show j = i by omega, up_s]) (by
                    intro j hj
                    rw [hB2_7]
                    rcases Nat.lt_or_ge j i with z | z
                    · rw [up_n _ _ (by omega)]; exact hB2 j z
                    · rw [show j = i by omega, up_s, hat]; rfl) (by
                    intro k hk
                    show _ = va_up (os F L np i).2.1 (od F L np i) 1 k
                    unfold va_up
                    split
                    · rfl
                    · exact hD2 k hk) (by rw [haw2_8, haw, hat]; rfl) (by rw [hat]; rfl) _ _ _ hP hD hS (lv_sub hl [3, 4, 1, 0] rfl)
                · skip
                  exact absurd c_4 (by omega)
        exact L39 (np + 1) 0 Oc Bc D1 0 (8 * 0 + 0) (by omega) (by omega) (fun j hj => absurd hj (by omega)) (fun j hj => absurd hj (by omega)) (fun k hk => q1 k (by omega)) rfl rfl _ _ _ hP hD hS (lv_sub hl [2, 3, 1, 0] rfl)
      · skip
        refine lv_aload_n hx hb dX0_plan_8 rfl (lv_at hl 0 rfl) ?_
        refine va_get (D := D) (ci := 0) (v := .ref k3) (C := RX0) (T := TX0) (N := 5) hx hb hts hinX0 hown hK hP 0 rfl rfl 2 (by decide) lk6 (fun _ h9 => h9) rfl dX0_plan_9 ?_
        refine lv_iload_n hx hb dX0_plan_12 rfl (lv_at hl 2 rfl) ?_
        refine lv_iconst (v := nI 0) hx hb dX0_plan_13 (by decide) ?_
        refine nv_zast hx hb hK hP hD hS 3 rfl (by omega) (by decide) (by omega) dX0_plan_14 (fun H locs hP hD hS => ?_)
        have hP : va_P D vwCl [(k0, .inr (0, [.ref k1, .ref k2, .ref k3, .int (nI pl), .int (nI aw)])), (k1, .inl (cI, 64, .inl (nF Oc))), (k2, .inl (cI, 64, .inl (nF Bc))), (k3, .inl (cZ, 64, .inl (nF (va_up D1 i 0)))), (l0, .inr (1, [.int (nI nm), .ref l1, .ref l2, .ref l3, .ref l4, .ref l5, .ref l6, .ref l7, .int (nI np)])), (l1, .inl (cI, 64, .inl (nF P))), (l2, .inl (cI, 64, .inl (nF Y))), (l3, .inl (cI, 64, .inl (nF V))), (l4, .inl (cI, 64, .inl (nF F))), (l5, .inl (cI, 64, .inl (nF L))), (l6, .inl (cI, 64, .inl (nF Z))), (l7, .inl (cI, 64, .inl (nF X)))] H := hP
        have hD : va_D A [(k0, .inr (0, [.ref k1, .ref k2, .ref k3, .int (nI pl), .int (nI aw)])), (k1, .inl (cI, 64, .inl (nF Oc))), (k2, .inl (cI, 64, .inl (nF Bc))), (k3, .inl (cZ, 64, .inl (nF (va_up D1 i 0)))), (l0, .inr (1, [.int (nI nm), .ref l1, .ref l2, .ref l3, .ref l4, .ref l5, .ref l6, .ref l7, .int (nI np)])), (l1, .inl (cI, 64, .inl (nF P))), (l2, .inl (cI, 64, .inl (nF Y))), (l3, .inl (cI, 64, .inl (nF V))), (l4, .inl (cI, 64, .inl (nF F))), (l5, .inl (cI, 64, .inl (nF L))), (l6, .inl (cI, 64, .inl (nF Z))), (l7, .inl (cI, 64, .inl (nF X)))] := hD
        refine lv_iinc (v := nI (i + 1)) (lv' := [(2, .int (nI (i + 1))), (0, .ref k0), (1, .ref l0)]) hx hb dX0_plan_15 hl (k := 2) rfl (by exact nI_add _ 1) (by decide) rfl (fun ls hl => ?_)
        refine lv_goto (tgt := 2) hx hb dX0_plan_18 (by decide) ?_
        exact ih2 (i + 1) (va_up D1 i 0) (by omega) (by omega) (by
          intro k hk
          rcases Nat.lt_or_ge k i with z | z
          · rw [up_n _ _ (by omega)]; exact q1 k z
          · rw [show k = i by omega, up_s]) _ _ _ hP hD hS (lv_sub hl [1, 2, 0] rfl)
  exact L2 (64 + 1) 0 Dc (by omega) (by omega) (fun k hk => absurd hk (by omega)) _ _ _ hP hD hS (lv_sub hl [1, 2, 0] rfl)
