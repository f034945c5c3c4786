/-! ===== what each call answers, and what it does to TONES T, TURNS U, TOLD B, the tool G ===== -/
def ci (x y : Int32) : Nat := 8 * y.toNatClampNeg + x.toNatClampNeg
theorem ci_n {a b : Nat} (ha : a < 8) (hb : b < 8) : ci (nI a) (nI b) = 8 * b + a := by unfold ci; rw [nI_clamp (by omega), nI_clamp (by omega)]
theorem cl_n {a : Nat} (ha : a < 2 ^ 31) : (nI a).toNatClampNeg = a := nI_clamp ha
theorem up_same {f : Nat → Nat} {k v : Nat} (h : f k = v) : va_up f k v = f := by
  funext j
  unfold va_up
  split
  · rename_i q; rw [q]; exact h.symm
  · rfl
def aTone (T : Nat → Nat) (x y v : Int32) : Int32 := if okc x y then (if okt v then nI (T (ci x y)) else -3) else -2
def uTone (T : Nat → Nat) (x y v : Int32) : Nat → Nat := if okc x y ∧ okt v then va_up T (ci x y) v.toNatClampNeg else T
def shX (T : Nat → Nat) (y v x0 : Nat) : Nat → (Nat → Nat) × Nat
  | 0 => (T, 0)
  | j + 1 => (va_up (shX T y v x0 j).1 (8 * y + (x0 + j)) v, (shX T y v x0 j).2 + if (shX T y v x0 j).1 (8 * y + (x0 + j)) = v then 0 else 1)
def shY (T : Nat → Nat) (y0 v x0 w : Nat) : Nat → (Nat → Nat) × Nat
  | 0 => (T, 0)
  | i + 1 => ((shX (shY T y0 v x0 w i).1 (y0 + i) v x0 w).1, (shY T y0 v x0 w i).2 + (shX (shY T y0 v x0 w i).1 (y0 + i) v x0 w).2)
theorem shX_le {T : Nat → Nat} {y v x0 : Nat} (hT : ∀ k, T k ≤ 100) (hv : v ≤ 100) : ∀ j, (∀ k, (shX T y v x0 j).1 k ≤ 100) ∧ (shX T y v x0 j).2 ≤ j
  | 0 => ⟨hT, Nat.le_refl 0⟩
  | j + 1 => by
    have ih := shX_le (y := y) (x0 := x0) hT hv j
    refine ⟨fun k => ?_, ?_⟩
    · show va_up (shX T y v x0 j).1 (8 * y + (x0 + j)) v k ≤ 100
      unfold va_up
      split
      · exact hv
      · exact ih.1 k
    · show (shX T y v x0 j).2 + (if (shX T y v x0 j).1 (8 * y + (x0 + j)) = v then 0 else 1) ≤ j + 1
      have := ih.2
      split <;> omega
theorem shY_le {T : Nat → Nat} {y0 v x0 w : Nat} (hT : ∀ k, T k ≤ 100) (hv : v ≤ 100) : ∀ i, (∀ k, (shY T y0 v x0 w i).1 k ≤ 100)
  | 0 => hT
  | i + 1 => (shX_le (shY_le hT hv i) hv w).1
abbrev oksh (x0 y0 x1 y1 v : Int32) : Prop := okt v ∧ ¬ x1 < x0 ∧ ¬ y1 < y0
def aShade (T : Nat → Nat) (x0 y0 x1 y1 v : Int32) : Int32 := if okc x0 y0 ∧ okc x1 y1 then (if oksh x0 y0 x1 y1 v then nI (shY T y0.toNatClampNeg v.toNatClampNeg x0.toNatClampNeg (x1.toNatClampNeg + 1 - x0.toNatClampNeg) (y1.toNatClampNeg + 1 - y0.toNatClampNeg)).2 else -3) else -2
def uShade (T : Nat → Nat) (x0 y0 x1 y1 v : Int32) : Nat → Nat := if okc x0 y0 ∧ okc x1 y1 ∧ oksh x0 y0 x1 y1 v then (shY T y0.toNatClampNeg v.toNatClampNeg x0.toNatClampNeg (x1.toNatClampNeg + 1 - x0.toNatClampNeg) (y1.toNatClampNeg + 1 - y0.toNatClampNeg)).1 else T
abbrev okT (t : Int32) : Prop := ¬ t < 0 ∧ t < nI 8
theorem okT_nat {t : Int32} (h : okT t) : ∃ a : Nat, a < 8 ∧ t = nI a := up_to (by decide) h.1 (by have := h.2; rw [i_lt] at this; rw [i_le]; omega)
theorem okT_in (t : Int32) : okT t ↔ inr t (nI 0) (nI 7) := by
  rw [inr_iff (by decide) (by decide)]
  unfold okT
  rw [i_lt, i_lt, z_T, nI_T (by decide)]
  omega
theorem okT_of {a : Nat} (ha : a < 8) : okT (nI a) := ⟨nI_pos (by omega), nI_lt ha (by decide)⟩
theorem okt_of {a : Nat} (ha : a ≤ 100) : okt (nI a) := ⟨nI_pos (by omega), nI_nlt ha (by decide)⟩
theorem okb_of {a b : Nat} (ha : a < 7) (hb : b < 7) : okb (nI a) (nI b) := ⟨nI_pos (by omega), nI_ge ha (by decide), nI_pos (by omega), nI_ge hb (by decide)⟩
def aTell (U : Nat → Nat) (x y t : Int32) : Int32 := if okc x y then (if okT t then nI (U (ci x y)) else -3) else -2
def uTell (U : Nat → Nat) (x y t : Int32) : Nat → Nat := if okc x y ∧ okT t then va_up U (ci x y) t.toNatClampNeg else U
def bTell (B : Nat → Nat) (x y t : Int32) : Nat → Nat := if okc x y ∧ okT t then va_up B (ci x y) 1 else B
def aFree (B : Nat → Nat) (x y : Int32) : Int32 := if okc x y then (if B (ci x y) = 0 then -4 else nI 1) else -2
def bFree (B : Nat → Nat) (x y : Int32) : Nat → Nat := if okc x y then va_up B (ci x y) 0 else B
def aAt (T U B : Nat → Nat) (x y w : Int32) : Int32 := if okc x y then (if w = nI 0 then nI (T (ci x y)) else if w = nI 1 then nI (U (ci x y)) else if w = nI 2 then nI (if B (ci x y) = 0 then 0 else 1) else -3) else -2
def aKnot (U : Nat → Nat) (x y : Int32) : Int32 := if okb x y then kn U (ci x y) else -2
def aWanted (G T : Nat → Nat) (x y ly : Int32) : Int32 := if okc x y ∧ okl ly then nI (wd G (T (ci x y)) ly.toNatClampNeg) else -2
/-- the WIDTH of a cell in a LAYER that is drawn -/
noncomputable def WV (p y : Nat → Nat) (sw d : Nat) : Nat := Classical.epsilon (fun n => ∃ V F L Z : Nat → Nat, LD p y sw V F L Z ∧ V d = n)
theorem WV_eq {p y : Nat → Nat} {sw d : Nat} {V F L Z : Nat → Nat} (h : LD p y sw V F L Z) (hd : d < 64) : V d = WV p y sw d := by
  obtain ⟨V2, F2, L2, Z2, h2, e⟩ := Classical.epsilon_spec (p := fun n => ∃ V F L Z : Nat → Nat, LD p y sw V F L Z ∧ V d = n) ⟨V d, V, F, L, Z, h, rfl⟩
  rw [LD_eq h h2 hd]
  exact e
/-- the first cell of a PATH, by its number -/
noncomputable def stc (p y : Nat → Nat) (k : Nat) : Nat := Classical.epsilon (fun c => c < 64 ∧ bgn p y c ∧ cb (bgb p y) c = k)
theorem stc_spec {p y : Nat → Nat} {k : Nat} (hk : k < cb (bgb p y) 64) : stc p y k < 64 ∧ bgn p y (stc p y k) ∧ cb (bgb p y) (stc p y k) = k := Classical.epsilon_spec (p := fun c => c < 64 ∧ bgn p y c ∧ cb (bgb p y) c = k) (LD_path hk)
noncomputable def lsc (p y : Nat → Nat) (k : Nat) : Nat := ch p y (stc p y k) (ln p y (stc p y k) - 1)
theorem stc_arr {p y : Nat → Nat} {sw : Nat} {V F L Z : Nat → Nat} (h : LD p y sw V F L Z) {k : Nat} (hk : k < cb (bgb p y) 64) : F k = stc p y k ∧ L k = lsc p y k ∧ Z k = ln p y (stc p y k) := by
  obtain ⟨h1, h2, h3⟩ := stc_spec hk
  obtain ⟨-, a, b, c⟩ := h.2 _ h1 h2
  rw [h3] at a b c
  exact ⟨a, b, c⟩
theorem stc_X {p y : Nat → Nat} {sw : Nat} {X : Nat → Nat} (h : ∀ c, c < 64 → bgn p y c → okX p y sw c X) {k : Nat} (hk : k < cb (bgb p y) 64) : X k = mxf (wdt p y sw (stc p y k)) (ln p y (stc p y k)) := by
  obtain ⟨h1, h2, h3⟩ := stc_spec hk
  have := h _ h1 h2
  unfold okX at this
  rw [h3] at this
  exact this
theorem lsc_lt {p y : Nat → Nat} {k : Nat} (hk : k < cb (bgb p y) 64) : lsc p y k < 64 := by
  obtain ⟨h1, h2, h3⟩ := stc_spec hk
  obtain ⟨a, b, c, d⟩ := ln_spec (Y := y) h1 h2.1
  exact (d _ (by omega)).1
noncomputable def aWidth (G T U : Nat → Nat) (x y ly : Int32) : Int32 := if okc x y ∧ okl ly then nI (WV (pW G T ly.toNatClampNeg) (pY U ly.toNatClampNeg) (G 3) (ci x y)) else -2
/-- MADE in a cell -/
noncomputable def mdf (G T U : Nat → Nat) (c : Nat) : Nat := 100 * (WV (pW G T 0) (pY U 0) (G 3) c + WV (pW G T 1) (pY U 1) (G 3) c) / G 0
noncomputable def aMade (G T U : Nat → Nat) (x y : Int32) : Int32 := if okc x y then nI (mdf G T U (ci x y)) else -2
def smf (e : Nat → Nat) : Nat → Nat
  | 0 => 0
  | n + 1 => smf e n + e n
theorem smf_cong {e g : Nat → Nat} : ∀ {n : Nat}, (∀ i, i < n → e i = g i) → smf e n = smf g n
  | 0, _ => rfl
  | n + 1, h => by rw [smf, smf, smf_cong (fun i hi => h i (by omega)), h n (by omega)]
noncomputable def erf (G T U : Nat → Nat) (c : Nat) : Nat := nd (T c) (mdf G T U c)
noncomputable def aError (G T U : Nat → Nat) (w : Int32) : Int32 := if w = 0 then nI (mxf (erf G T U) 64) else if w = nI 1 then nI (smf (erf G T U) 64) else -3
def npf (G T U : Nat → Nat) (ly : Nat) : Nat := cb (bgb (pW G T ly) (pY U ly)) 64
theorem npf_le (G T U : Nat → Nat) (ly : Nat) : npf G T U ly ≤ 64 := cb_le _ _
def aPaths (G T U : Nat → Nat) (ly : Int32) : Int32 := if okl ly then nI (npf G T U ly.toNatClampNeg) else -2
abbrev okk (k : Int32) (n : Nat) : Prop := ¬ k < 0 ∧ ¬ nI n ≤ k
noncomputable def aPath (G T U : Nat → Nat) (ly k w : Int32) : Int32 := if okl ly then (if okk k (npf G T U ly.toNatClampNeg) then
    (if w = nI 0 then nI (stc (pW G T ly.toNatClampNeg) (pY U ly.toNatClampNeg) k.toNatClampNeg) else if w = nI 1 then nI (lsc (pW G T ly.toNatClampNeg) (pY U ly.toNatClampNeg) k.toNatClampNeg) else if w = nI 2 then nI (ln (pW G T ly.toNatClampNeg) (pY U ly.toNatClampNeg) (stc (pW G T ly.toNatClampNeg) (pY U ly.toNatClampNeg) k.toNatClampNeg))
     else if w = nI 3 then nI (mxf (wdt (pW G T ly.toNatClampNeg) (pY U ly.toNatClampNeg) (G 3) (stc (pW G T ly.toNatClampNeg) (pY U ly.toNatClampNeg) k.toNatClampNeg)) (ln (pW G T ly.toNatClampNeg) (pY U ly.toNatClampNeg) (stc (pW G T ly.toNatClampNeg) (pY U ly.toNatClampNeg) k.toNatClampNeg))) else -3) else -2) else -2
noncomputable def odf (G T U : Nat → Nat) (ly i : Nat) : Nat := od (stc (pW G T ly) (pY U ly)) (lsc (pW G T ly) (pY U ly)) (npf G T U ly) i
noncomputable def bgf (G T U : Nat → Nat) (ly i : Nat) : Nat := bgc (stc (pW G T ly) (pY U ly)) (lsc (pW G T ly) (pY U ly)) (npf G T U ly) i
noncomputable def arf (G T U : Nat → Nat) (ly : Nat) : Nat := (os (stc (pW G T ly) (pY U ly)) (lsc (pW G T ly) (pY U ly)) (npf G T U ly) (npf G T U ly)).2.2
noncomputable def aCut (G T U : Nat → Nat) (ly i : Int32) : Int32 := if okl ly then (if okk i (npf G T U ly.toNatClampNeg) then nI (odf G T U ly.toNatClampNeg i.toNatClampNeg) else -3) else -2
noncomputable def aBegin (G T U : Nat → Nat) (ly i : Int32) : Int32 := if okl ly then (if okk i (npf G T U ly.toNatClampNeg) then nI (bgf G T U ly.toNatClampNeg i.toNatClampNeg) else -3) else -2
noncomputable def aAir (G T U : Nat → Nat) (ly : Int32) : Int32 := if okl ly then nI (arf G T U ly.toNatClampNeg) else -2
/-- the ORDER of a LAYER, by the rows of one drawing -/
theorem ord_arr {G T U : Nat → Nat} {ly : Nat} {V F L Z : Nat → Nat} (h : LD (pW G T ly) (pY U ly) (G 3) V F L Z) : (∀ k, k < npf G T U ly → F k < 64 ∧ L k < 64) ∧ (os F L (npf G T U ly) (npf G T U ly)).2.2 = arf G T U ly ∧ ∀ j, j < npf G T U ly → od F L (npf G T U ly) j = odf G T U ly j ∧ bgc F L (npf G T U ly) j = bgf G T U ly j := by
  have h1 : ∀ k, k < npf G T U ly → F k < 64 ∧ L k < 64 := fun k hk => by
    obtain ⟨a, b, c⟩ := stc_arr h hk
    rw [a, b]
    exact ⟨(stc_spec hk).1, lsc_lt hk⟩
  obtain ⟨e1, e2⟩ := os_cong (npf_le G T U ly) h1 (fun k hk => ⟨(stc_arr h hk).1, (stc_arr h hk).2.1⟩) (npf G T U ly) (Nat.le_refl _)
  exact ⟨h1, by rw [e1]; rfl, e2⟩
def pTn (T : Nat → Nat) (c : Nat) : Bool := decide (¬ T c = 0)
def pSt (G T : Nat → Nat) (ly c : Nat) : Bool := decide (¬ wd G (T c) ly = 0)
def pKn (U : Nat → Nat) (c : Nat) : Bool := decide (c % 8 < 7 ∧ c / 8 < 7 ∧ ¬ kn U c = 0 ∧ ¬ kn U c = nI 2)
def aCount (G T U B : Nat → Nat) (w : Int32) : Int32 := if w = nI 0 then nI (cb (pTn T) 64) else if w = nI 1 then nI (cb (pTn B) 64) else if w = nI 2 then nI (cb (pSt G T 0) 64) else if w = nI 3 then nI (cb (pSt G T 1) 64) else if w = nI 4 then nI (cb (pKn U) 64) else -3
theorem cb_skip {p : Nat → Bool} {a : Nat} : ∀ {n : Nat}, (∀ i, a ≤ i → i < a + n → ¬ p i = true) → cb p (a + n) = cb p a
  | 0, _ => rfl
  | n + 1, h => by
    show cb p ((a + n) + 1) = cb p a
    rw [cb_no (h (a + n) (by omega) (by omega)), cb_skip (fun i h1 h2 => h i h1 (by omega))]
theorem pTn_yes {T : Nat → Nat} {c : Nat} (h : ¬ T c = 0) : pTn T c = true := by unfold pTn; simp [h]
theorem pTn_no {T : Nat → Nat} {c : Nat} (h : T c = 0) : ¬ pTn T c = true := by unfold pTn; simp [h]
theorem pSt_yes {G T : Nat → Nat} {ly c : Nat} (h : ¬ wd G (T c) ly = 0) : pSt G T ly c = true := by unfold pSt; simp [h]
theorem pSt_no {G T : Nat → Nat} {ly c : Nat} (h : wd G (T c) ly = 0) : ¬ pSt G T ly c = true := by unfold pSt; simp [h]
theorem pKn_yes {U : Nat → Nat} {c : Nat} (h1 : c % 8 < 7) (h2 : c / 8 < 7) (h3 : ¬ kn U c = 0) (h4 : ¬ kn U c = nI 2) : pKn U c = true := by unfold pKn; simp [h1, h2, h3, h4]
theorem pKn_no {U : Nat → Nat} {c : Nat} (h : ¬ (c % 8 < 7 ∧ c / 8 < 7 ∧ ¬ kn U c = 0 ∧ ¬ kn U c = nI 2)) : ¬ pKn U c = true := by
  unfold pKn
  intro q
  exact h (of_decide_eq_true q)
