/-! ===== what a LAYER holds, cell by cell, while it is drawn ===== -/
def shr (G : Nat → Nat) (t ly : Nat) : Nat := if ly = 0 then min t (G 1) else t - min t (G 1)
/-- the WIDTH wanted for a TONE in a LAYER -/
def wd (G : Nat → Nat) (t ly : Nat) : Nat := if G 0 * shr G t ly / 100 < G 2 then 0 else G 0 * shr G t ly / 100
theorem shr_le {G : Nat → Nat} {t ly : Nat} (ht : t ≤ 100) : shr G t ly ≤ 100 := by unfold shr; split <;> omega
theorem wd_le {G : Nat → Nat} {t ly : Nat} (hG : ∀ k, G k ≤ 100) (ht : t ≤ 100) : wd G t ly ≤ 100 := by
  have := Nat.mul_le_mul (hG 0) (shr_le (G := G) (ly := ly) ht)
  unfold wd
  split <;> omega
/-- the WAY of a TURN in a LAYER -/
def wy (ly u : Nat) : Nat := (u + 4 * ly) % 8 / 2
theorem wy_lt (ly u : Nat) : wy ly u < 4 := by unfold wy; omega
def bgb (p y : Nat → Nat) (c : Nat) : Bool := decide (¬ p c = 0 ∧ tp p y c = 64)
theorem bgb_iff (p y : Nat → Nat) (c : Nat) : bgb p y c = true ↔ bgn p y c := by unfold bgb bgn; simp
theorem le1_cong {V W : Nat → Nat} {sw : Nat} {q : Nat → Nat} : ∀ {n : Nat}, (∀ i, i ≤ n → V (q i) = W (q i)) → le1 V sw q n = le1 W sw q n
  | 0, h => h 0 (by omega)
  | n + 1, h => by rw [le1, le1, le1_cong (fun i hi => h i (by omega)), h (n + 1) (by omega)]
theorem le1_bk {p y V : Nat → Nat} {sw c : Nat} (h : ∀ i, i < ln p y c → V (ch p y c i) = fw p y sw c i) : ∀ {n : Nat}, n < ln p y c → le1 V sw (fun i => ch p y c (ln p y c - 1 - i)) n = bk p y sw c n
  | 0, hn => by
    show V (ch p y c (ln p y c - 1 - 0)) = _
    rw [h _ (by omega)]
    rfl
  | n + 1, hn => by
    rw [le1, bk, le1_bk h (by omega), h _ (by omega)]
def okP (p y : Nat → Nat) (sw c : Nat) (V : Nat → Nat) : Prop := ∀ j, j < ln p y c → V (ch p y c j) = wdt p y sw c j
def okR (p y : Nat → Nat) (c : Nat) (F L Z : Nat → Nat) : Prop := F (cb (bgb p y) c) = c ∧ L (cb (bgb p y) c) = ch p y c (ln p y c - 1) ∧ Z (cb (bgb p y) c) = ln p y c
def okX (p y : Nat → Nat) (sw c : Nat) (X : Nat → Nat) : Prop := X (cb (bgb p y) c) = mxf (wdt p y sw c) (ln p y c)
/-- the PATHS that begin ahead of cell i are drawn; un: what is there else -/
def LI (p y : Nat → Nat) (sw : Nat) (un : Nat → Nat) (i : Nat) (V F L Z : Nat → Nat) : Prop :=
  (∀ d, d < 64 → (∀ c, c < i → bgn p y c → ∀ j, j < ln p y c → d ≠ ch p y c j) → V d = un d) ∧ ∀ c, c < i → bgn p y c → okP p y sw c V ∧ okR p y c F L Z
theorem LI_0 {p y : Nat → Nat} {sw : Nat} {un V F L Z : Nat → Nat} (h : ∀ d, d < 64 → V d = un d) : LI p y sw un 0 V F L Z := ⟨fun d hd _ => h d hd, fun c hc => absurd hc (by omega)⟩
theorem LI_no {p y : Nat → Nat} {sw i : Nat} {un V F L Z : Nat → Nat} (hb : ¬ bgn p y i) (h : LI p y sw un i V F L Z) : LI p y sw un (i + 1) V F L Z := by
  refine ⟨fun d hd hn => h.1 d hd (fun c hc => hn c (by omega)), fun c hc hbc => h.2 c ?_ hbc⟩
  rcases Nat.lt_or_ge c i with q | q
  · exact q
  · rw [show c = i by omega] at hbc
    exact absurd hbc hb
theorem LI_fresh {p y : Nat → Nat} {sw i : Nat} {un V F L Z : Nat → Nat} (hi : i < 64) (hb : bgn p y i) (h : LI p y sw un i V F L Z) : ∀ j, j < ln p y i → V (ch p y i j) = un (ch p y i j) := by
  intro j hj
  refine h.1 _ ((ln_spec (Y := y) hi hb.1).2.2.2 j hj).1 (fun c hc hbc k hk e => ?_)
  have := ch_apart hi (by omega) hb hbc j k hj hk e
  omega
theorem LI_yes {p y : Nat → Nat} {sw i : Nat} {un V F L Z V2 F2 L2 Z2 : Nat → Nat} (hi : i < 64) (hb : bgn p y i) (h : LI p y sw un i V F L Z) (h1 : okP p y sw i V2) (h2 : ∀ d, (∀ j, j < ln p y i → d ≠ ch p y i j) → V2 d = V d)
    (hF : F2 = va_up F (cb (bgb p y) i) i) (hL : L2 = va_up L (cb (bgb p y) i) (ch p y i (ln p y i - 1))) (hZ : Z2 = va_up Z (cb (bgb p y) i) (ln p y i)) : LI p y sw un (i + 1) V2 F2 L2 Z2 := by
  refine ⟨fun d hd hn => ?_, fun c hc hbc => ?_⟩
  · rw [h2 d (fun j hj => hn i (by omega) hb j hj)]
    exact h.1 d hd (fun c hc => hn c (by omega))
  · rcases Nat.lt_or_ge c i with q | q
    · obtain ⟨a, b1, b2, b3⟩ := h.2 c q hbc
      have hne : cb (bgb p y) c ≠ cb (bgb p y) i := by
        have := cb_lt q ((bgb_iff p y c).mpr hbc)
        omega
      refine ⟨fun j hj => ?_, ?_, ?_, ?_⟩
      · rw [h2 _ (fun k hk e => ?_)]
        · exact a j hj
        · have := ch_apart (by omega) hi hbc hb j k hj hk e
          omega
      · rw [hF, up_n _ _ hne]; exact b1
      · rw [hL, up_n _ _ hne]; exact b2
      · rw [hZ, up_n _ _ hne]; exact b3
    · rw [show c = i by omega]
      refine ⟨h1, ?_, ?_, ?_⟩
      · rw [hF, up_s]
      · rw [hL, up_s]
      · rw [hZ, up_s]
theorem X_yes {p y : Nat → Nat} {sw i : Nat} {X X2 : Nat → Nat} (h : ∀ c, c < i → bgn p y c → okX p y sw c X) (hX : X2 = va_up X (cb (bgb p y) i) (mxf (wdt p y sw i) (ln p y i))) : ∀ c, c < i + 1 → bgn p y c → okX p y sw c X2 := by
  intro c hc hbc
  unfold okX
  rcases Nat.lt_or_ge c i with q | q
  · have := cb_lt q ((bgb_iff p y c).mpr hbc)
    rw [hX, up_n _ _ (by omega)]
    exact h c q hbc
  · rw [show c = i by omega, hX, up_s]
theorem X_no {p y : Nat → Nat} {sw i : Nat} {X : Nat → Nat} (hb : ¬ bgn p y i) (h : ∀ c, c < i → bgn p y c → okX p y sw c X) : ∀ c, c < i + 1 → bgn p y c → okX p y sw c X := by
  intro c hc hbc
  rcases Nat.lt_or_ge c i with q | q
  · exact h c q hbc
  · rw [show c = i by omega] at hbc
    exact absurd hbc hb
/-- a LAYER that is drawn -/
def LD (p y : Nat → Nat) (sw : Nat) (V F L Z : Nat → Nat) : Prop := (∀ d, d < 64 → p d = 0 → V d = 0) ∧ ∀ c, c < 64 → bgn p y c → okP p y sw c V ∧ okR p y c F L Z
theorem LI_end {p y : Nat → Nat} {sw : Nat} {un V F L Z : Nat → Nat} (hu : ∀ d, d < 64 → p d = 0 → un d = 0) (h : LI p y sw un 64 V F L Z) : LD p y sw V F L Z := by
  refine ⟨fun d hd hp => ?_, h.2⟩
  rw [h.1 d hd (fun c hc hbc j hj e => ?_)]
  · exact hu d hd hp
  · have := ((ln_spec (Y := y) hc hbc.1).2.2.2 j hj).2.1
    rw [← e] at this
    exact this hp
/-- two drawings of one LAYER have the same WIDTHS -/
theorem LD_eq {p y : Nat → Nat} {sw : Nat} {V F L Z V2 F2 L2 Z2 : Nat → Nat} (h : LD p y sw V F L Z) (h2 : LD p y sw V2 F2 L2 Z2) {d : Nat} (hd : d < 64) : V d = V2 d := by
  by_cases e : p d = 0
  · rw [h.1 d hd e, h2.1 d hd e]
  · obtain ⟨c, i, c1, c2, c3, c4⟩ := cover (Y := y) hd e
    rw [← c4, (h.2 c c1 c2).1 i c3, (h2.2 c c1 c2).1 i c3]
/-- a PATH by its number -/
theorem LD_path {p y : Nat → Nat} {k : Nat} (hk : k < cb (bgb p y) 64) : ∃ c, c < 64 ∧ bgn p y c ∧ cb (bgb p y) c = k := by
  obtain ⟨i, h1, h2, h3⟩ := cb_kth hk
  exact ⟨i, h1, (bgb_iff p y i).mp h2, h3⟩
theorem fw_le {p y : Nat → Nat} {sw c i : Nat} : fw p y sw c i ≤ p (ch p y c i) := by
  unfold fw
  cases i with
  | zero => exact Nat.le_refl _
  | succ i => rw [le1]; exact Nat.min_le_left _ _
theorem le1_le {V : Nat → Nat} {sw : Nat} {q : Nat → Nat} : ∀ i, le1 V sw q i ≤ V (q i)
  | 0 => Nat.le_refl _
  | i + 1 => by rw [le1]; exact Nat.min_le_left _ _
theorem bk_le {p y : Nat → Nat} {sw c : Nat} (hp : ∀ k, p k ≤ 100) : ∀ i, bk p y sw c i ≤ 100
  | 0 => Nat.le_trans fw_le (hp _)
  | i + 1 => by rw [bk]; exact Nat.le_trans (Nat.min_le_left _ _) (Nat.le_trans fw_le (hp _))
theorem wdt_le {p y : Nat → Nat} {sw c i : Nat} (hp : ∀ k, p k ≤ 100) : wdt p y sw c i ≤ 100 := bk_le hp _
theorem LD_le {p y : Nat → Nat} {sw : Nat} {V F L Z : Nat → Nat} (hp : ∀ k, p k ≤ 100) (h : LD p y sw V F L Z) {d : Nat} (hd : d < 64) : V d ≤ 100 := by
  by_cases e : p d = 0
  · rw [h.1 d hd e]; omega
  · obtain ⟨c, i, c1, c2, c3, c4⟩ := cover (Y := y) hd e
    rw [← c4, (h.2 c c1 c2).1 i c3]
    exact wdt_le hp
theorem mxf_le {e : Nat → Nat} {b : Nat} : ∀ {n : Nat}, (∀ i, i < n → e i ≤ b) → mxf e n ≤ b
  | 0, _ => Nat.zero_le _
  | n + 1, h => by
    have h1 := mxf_le (e := e) (b := b) (n := n) (fun i hi => h i (by omega))
    have h2 := h n (by omega)
    rw [mxf]
    omega
section NVR
variable {p : Program} {l : Launch} {e : Env} {R : Room} {s : State} {m : MethodId} {args : Array Value} {below : List Frame} {meth : Method} {c : Code} {H : Heap} {locs : List Loc} {cells slots : Nat} {Q : State → Prop}
variable {cc : ByteArray} {pc : Nat} {ls : Array Slot} {rest : List Value}
theorem nv_rne (hx : p.tables.exec = Jvm.exec) (hb : c.code = cc) {d : Nat} {off : Int} {tgt : Nat} (hdg : decode cc pc = .ok (.if_icmp .ne off, 3)) (ht : (pc : Int) + off = (tgt : Int)) (hd : d ≤ 64) (kt : ¬ d = 64 → W p l e R s m args below meth c H locs cells slots Q (F0 m tgt ls rest)) (kf : d = 64 → W p l e R s m args below meth c H locs cells slots Q (F0 m (pc + 3) ls rest)) : W p l e R s m args below meth c H locs cells slots Q (F0 m pc ls (.int (-1) :: .int (rI d) :: rest)) := lv_icmp_ne hx hb hdg ht (fun h => kt (fun q => h ((rI_eq hd).mpr q))) (fun h => kf ((rI_eq hd).mp h))
theorem nv_req (hx : p.tables.exec = Jvm.exec) (hb : c.code = cc) {d : Nat} {off : Int} {tgt : Nat} (hdg : decode cc pc = .ok (.if_icmp .eq off, 3)) (ht : (pc : Int) + off = (tgt : Int)) (hd : d ≤ 64) (kt : d = 64 → W p l e R s m args below meth c H locs cells slots Q (F0 m tgt ls rest)) (kf : ¬ d = 64 → W p l e R s m args below meth c H locs cells slots Q (F0 m (pc + 3) ls rest)) : W p l e R s m args below meth c H locs cells slots Q (F0 m pc ls (.int (-1) :: .int (rI d) :: rest)) := lv_icmp_eq hx hb hdg ht (fun h => kt ((rI_eq hd).mp h)) (fun h => kf (fun q => h ((rI_eq hd).mpr q)))
end NVR
