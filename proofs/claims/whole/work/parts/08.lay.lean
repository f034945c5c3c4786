/-! ===== STROKES, TIED ones, PATHS ===== -/
/-- NONE is kept as 64 -/
def rI (d : Nat) : Int32 := if d = 64 then (-1) else nI d
theorem rI_some {d : Nat} (h : ¬ d = 64) : rI d = nI d := if_neg h
theorem rI_none : rI 64 = -1 := rfl
theorem rI_eq {d : Nat} (h : d ≤ 64) : rI d = -1 ↔ d = 64 := by
  unfold rI
  by_cases e : d = 64
  · simp [e]
  · rw [if_neg e]
    constructor
    · intro q
      rw [i_eq, nI_T (by omega), show (-1 : Int32).toInt = -1 by decide] at q
      omega
    · intro q
      exact absurd q e
def nx (w c : Nat) : Nat := if w = 0 then (if c % 8 < 7 then c + 1 else 64) else if w = 1 then (if c % 8 < 7 ∧ c / 8 < 7 then c + 9 else 64) else if w = 2 then (if c / 8 < 7 then c + 8 else 64) else (if 0 < c % 8 ∧ c / 8 < 7 then c + 7 else 64)
def pv (w c : Nat) : Nat := if w = 0 then (if 0 < c % 8 then c - 1 else 64) else if w = 1 then (if 0 < c % 8 ∧ 0 < c / 8 then c - 9 else 64) else if w = 2 then (if 0 < c / 8 then c - 8 else 64) else (if c % 8 < 7 ∧ 0 < c / 8 then c - 7 else 64)
/-- the places that the class computes -/
def cx (c w : Nat) (d : Int32) : Int32 := nI (c % 8) + d * (stV 3).getD w 0
def cy (c w : Nat) (d : Int32) : Int32 := nI (c / 8) + d * (stV 4).getD w 0
theorem nx_tab : ∀ w : Fin 4, ∀ c : Fin 64, ((okc (cx c.val w.val (nI 1)) (cy c.val w.val (nI 1)) ↔ nx w.val c.val < 64) ∧ nx w.val c.val ≤ 64) ∧ (nx w.val c.val < 64 → cx c.val w.val (nI 1) = nI (nx w.val c.val % 8) ∧ cy c.val w.val (nI 1) = nI (nx w.val c.val / 8)) := by decide +kernel
theorem pv_tab : ∀ w : Fin 4, ∀ c : Fin 64, ((okc (cx c.val w.val (-1)) (cy c.val w.val (-1)) ↔ pv w.val c.val < 64) ∧ pv w.val c.val ≤ 64) ∧ (pv w.val c.val < 64 → cx c.val w.val (-1) = nI (pv w.val c.val % 8) ∧ cy c.val w.val (-1) = nI (pv w.val c.val / 8)) := by decide +kernel
theorem nx_of {w c : Nat} (hw : w < 4) (hc : c < 64) : ((okc (cx c w (nI 1)) (cy c w (nI 1)) ↔ nx w c < 64) ∧ nx w c ≤ 64) ∧ (nx w c < 64 → cx c w (nI 1) = nI (nx w c % 8) ∧ cy c w (nI 1) = nI (nx w c / 8)) := nx_tab ⟨w, hw⟩ ⟨c, hc⟩
theorem pv_of {w c : Nat} (hw : w < 4) (hc : c < 64) : ((okc (cx c w (-1)) (cy c w (-1)) ↔ pv w c < 64) ∧ pv w c ≤ 64) ∧ (pv w c < 64 → cx c w (-1) = nI (pv w c % 8) ∧ cy c w (-1) = nI (pv w c / 8)) := pv_tab ⟨w, hw⟩ ⟨c, hc⟩
theorem nx_cases {w c : Nat} (h : nx w c < 64) : (w = 0 ∧ c % 8 < 7 ∧ nx w c = c + 1) ∨ (w = 1 ∧ c % 8 < 7 ∧ c / 8 < 7 ∧ nx w c = c + 9) ∨ (w = 2 ∧ c / 8 < 7 ∧ nx w c = c + 8) ∨ (2 < w ∧ 0 < c % 8 ∧ c / 8 < 7 ∧ nx w c = c + 7) := by
  unfold nx at h ⊢
  by_cases w0 : w = 0
  · rw [if_pos w0] at h ⊢
    by_cases z : c % 8 < 7
    · rw [if_pos z]; exact Or.inl ⟨w0, z, rfl⟩
    · rw [if_neg z] at h; omega
  · rw [if_neg w0] at h ⊢
    by_cases w1 : w = 1
    · rw [if_pos w1] at h ⊢
      by_cases z : c % 8 < 7 ∧ c / 8 < 7
      · rw [if_pos z]; exact Or.inr (Or.inl ⟨w1, z.1, z.2, rfl⟩)
      · rw [if_neg z] at h; omega
    · rw [if_neg w1] at h ⊢
      by_cases w2 : w = 2
      · rw [if_pos w2] at h ⊢
        by_cases z : c / 8 < 7
        · rw [if_pos z]; exact Or.inr (Or.inr (Or.inl ⟨w2, z, rfl⟩))
        · rw [if_neg z] at h; omega
      · rw [if_neg w2] at h ⊢
        by_cases z : 0 < c % 8 ∧ c / 8 < 7
        · rw [if_pos z]; exact Or.inr (Or.inr (Or.inr ⟨by omega, z.1, z.2, rfl⟩))
        · rw [if_neg z] at h; omega
theorem pv_cases {w c : Nat} (h : pv w c < 64) : (w = 0 ∧ 0 < c % 8 ∧ pv w c = c - 1) ∨ (w = 1 ∧ 0 < c % 8 ∧ 0 < c / 8 ∧ pv w c = c - 9) ∨ (w = 2 ∧ 0 < c / 8 ∧ pv w c = c - 8) ∨ (2 < w ∧ c % 8 < 7 ∧ 0 < c / 8 ∧ pv w c = c - 7) := by
  unfold pv at h ⊢
  by_cases w0 : w = 0
  · rw [if_pos w0] at h ⊢
    by_cases z : 0 < c % 8
    · rw [if_pos z]; exact Or.inl ⟨w0, z, rfl⟩
    · rw [if_neg z] at h; omega
  · rw [if_neg w0] at h ⊢
    by_cases w1 : w = 1
    · rw [if_pos w1] at h ⊢
      by_cases z : 0 < c % 8 ∧ 0 < c / 8
      · rw [if_pos z]; exact Or.inr (Or.inl ⟨w1, z.1, z.2, rfl⟩)
      · rw [if_neg z] at h; omega
    · rw [if_neg w1] at h ⊢
      by_cases w2 : w = 2
      · rw [if_pos w2] at h ⊢
        by_cases z : 0 < c / 8
        · rw [if_pos z]; exact Or.inr (Or.inr (Or.inl ⟨w2, z, rfl⟩))
        · rw [if_neg z] at h; omega
      · rw [if_neg w2] at h ⊢
        by_cases z : c % 8 < 7 ∧ 0 < c / 8
        · rw [if_pos z]; exact Or.inr (Or.inr (Or.inr ⟨by omega, z.1, z.2, rfl⟩))
        · rw [if_neg z] at h; omega
theorem nx_pv {w c : Nat} (hc : c < 64) (h : nx w c < 64) : pv w (nx w c) = c := by
  rcases nx_cases h with ⟨w0, z, e⟩ | ⟨w0, z, z2, e⟩ | ⟨w0, z, e⟩ | ⟨w0, z, z2, e⟩
  · rw [e]; unfold pv; rw [if_pos w0, if_pos (by omega)]; omega
  · rw [e]; unfold pv; rw [if_neg (by omega), if_pos w0, if_pos (by omega)]; omega
  · rw [e]; unfold pv; rw [if_neg (by omega), if_neg (by omega), if_pos w0, if_pos (by omega)]; omega
  · rw [e]; unfold pv; rw [if_neg (by omega), if_neg (by omega), if_neg (by omega), if_pos (by omega)]; omega
theorem pv_nx {w c : Nat} (hc : c < 64) (h : pv w c < 64) : nx w (pv w c) = c := by
  rcases pv_cases h with ⟨w0, z, e⟩ | ⟨w0, z, z2, e⟩ | ⟨w0, z, e⟩ | ⟨w0, z, z2, e⟩
  · rw [e]; unfold nx; rw [if_pos w0, if_pos (by omega)]; omega
  · rw [e]; unfold nx; rw [if_neg (by omega), if_pos w0, if_pos (by omega)]; omega
  · rw [e]; unfold nx; rw [if_neg (by omega), if_neg (by omega), if_pos w0, if_pos (by omega)]; omega
  · rw [e]; unfold nx; rw [if_neg (by omega), if_neg (by omega), if_neg (by omega), if_pos (by omega)]; omega
/-- the STROKE that c is TIED to, on and back; 64: none -/
def tn (P Y : Nat → Nat) (c : Nat) : Nat := if nx (Y c) c < 64 ∧ ¬ P (nx (Y c) c) = 0 ∧ Y (nx (Y c) c) = Y c then nx (Y c) c else 64
def tp (P Y : Nat → Nat) (c : Nat) : Nat := if pv (Y c) c < 64 ∧ ¬ P (pv (Y c) c) = 0 ∧ Y (pv (Y c) c) = Y c then pv (Y c) c else 64
theorem tn_le (P Y : Nat → Nat) (c : Nat) : tn P Y c ≤ 64 := by unfold tn; split <;> omega
theorem tp_le (P Y : Nat → Nat) (c : Nat) : tp P Y c ≤ 64 := by unfold tp; split <;> omega
theorem tn_some {P Y : Nat → Nat} {c : Nat} (hc : c < 64) (hP : ¬ P c = 0) (h : tn P Y c < 64) : ¬ P (tn P Y c) = 0 ∧ Y (tn P Y c) = Y c ∧ tn P Y c = nx (Y c) c ∧ tp P Y (tn P Y c) = c := by
  unfold tn at h ⊢
  split at h
  · rename_i q
    rw [if_pos q]
    refine ⟨q.2.1, q.2.2, rfl, ?_⟩
    unfold tp
    rw [q.2.2, nx_pv hc q.1, if_pos ⟨hc, hP, rfl⟩]
  · omega
theorem tp_some {P Y : Nat → Nat} {c : Nat} (hc : c < 64) (hP : ¬ P c = 0) (h : tp P Y c < 64) : ¬ P (tp P Y c) = 0 ∧ Y (tp P Y c) = Y c ∧ tp P Y c = pv (Y c) c ∧ tn P Y (tp P Y c) = c := by
  unfold tp at h ⊢
  split at h
  · rename_i q
    rw [if_pos q]
    refine ⟨q.2.1, q.2.2, rfl, ?_⟩
    unfold tn
    rw [q.2.2, pv_nx hc q.1, if_pos ⟨hc, hP, rfl⟩]
  · omega
/-- how far a cell is along a WAY -/
def ps (w c : Nat) : Nat := if w = 0 then c % 8 else c / 8
theorem ps_le (w c : Nat) (hc : c < 64) : ps w c ≤ 7 := by unfold ps; split <;> omega
theorem ps_nx {w c : Nat} (hc : c < 64) (h : nx w c < 64) : ps w (nx w c) = ps w c + 1 := by
  rcases nx_cases h with ⟨w0, z, e⟩ | ⟨w0, z, z2, e⟩ | ⟨w0, z, e⟩ | ⟨w0, z, z2, e⟩
  · rw [e]; unfold ps; rw [if_pos w0, if_pos w0]; omega
  · rw [e]; unfold ps; rw [if_neg (by omega), if_neg (by omega)]; omega
  · rw [e]; unfold ps; rw [if_neg (by omega), if_neg (by omega)]; omega
  · rw [e]; unfold ps; rw [if_neg (by omega), if_neg (by omega)]; omega
/-- the i-th STROKE behind c -/
def ch (P Y : Nat → Nat) (c : Nat) : Nat → Nat
  | 0 => c
  | i + 1 => tn P Y (ch P Y c i)
theorem ch_shift (P Y : Nat → Nat) (c : Nat) : ∀ i, ch P Y c (i + 1) = ch P Y (tn P Y c) i
  | 0 => rfl
  | i + 1 => by rw [ch, ch_shift P Y c i]; rfl
/-- how many STROKES a PATH from c has -/
def lnf (P Y : Nat → Nat) : Nat → Nat → Nat
  | 0, _ => 1
  | f + 1, c => if tn P Y c = 64 then 1 else lnf P Y f (tn P Y c) + 1
def ln (P Y : Nat → Nat) (c : Nat) : Nat := lnf P Y 8 c
theorem lnf_spec (P Y : Nat → Nat) : ∀ (f c : Nat), c < 64 → ¬ P c = 0 → 7 - ps (Y c) c < f → 1 ≤ lnf P Y f c ∧ lnf P Y f c + ps (Y c) c ≤ 8 ∧ tn P Y (ch P Y c (lnf P Y f c - 1)) = 64 ∧ ∀ i, i < lnf P Y f c → ch P Y c i < 64 ∧ ¬ P (ch P Y c i) = 0 ∧ Y (ch P Y c i) = Y c ∧ ps (Y c) (ch P Y c i) = ps (Y c) c + i
  | 0, c, _, _, h => absurd h (by omega)
  | f + 1, c, hc, hP, h => by
    have hps := ps_le (Y c) c hc
    by_cases e : tn P Y c = 64
    · have e1 : lnf P Y (f + 1) c = 1 := by rw [lnf, if_pos e]
      rw [e1]
      refine ⟨by omega, by omega, e, fun i hi => ?_⟩
      rw [show i = 0 by omega]
      exact ⟨hc, hP, rfl, rfl⟩
    · have hl := tn_le P Y c
      obtain ⟨h1, h2, h3, h4⟩ := tn_some hc hP (show tn P Y c < 64 by omega)
      have h5 : ps (Y c) (tn P Y c) = ps (Y c) c + 1 := by rw [h3]; exact ps_nx hc (by omega)
      have h6 := ps_le (Y c) (tn P Y c) (by omega)
      have ih := lnf_spec P Y f (tn P Y c) (by omega) h1 (by rw [h2]; omega)
      rw [h2] at ih
      have e1 : lnf P Y (f + 1) c = lnf P Y f (tn P Y c) + 1 := by rw [lnf, if_neg e]
      rw [e1]
      obtain ⟨i1, i2, i3, i4⟩ := ih
      refine ⟨by omega, by omega, ?_, fun i hi => ?_⟩
      · rw [show lnf P Y f (tn P Y c) + 1 - 1 = (lnf P Y f (tn P Y c) - 1) + 1 by omega, ch_shift]
        exact i3
      · cases i with
        | zero => exact ⟨hc, hP, rfl, rfl⟩
        | succ i =>
          rw [ch_shift]
          obtain ⟨a, b, d, g⟩ := i4 i (by omega)
          exact ⟨a, b, d, by omega⟩
theorem ln_spec {P Y : Nat → Nat} {c : Nat} (hc : c < 64) (hP : ¬ P c = 0) : 1 ≤ ln P Y c ∧ ln P Y c ≤ 8 ∧ tn P Y (ch P Y c (ln P Y c - 1)) = 64 ∧ ∀ i, i < ln P Y c → ch P Y c i < 64 ∧ ¬ P (ch P Y c i) = 0 ∧ Y (ch P Y c i) = Y c ∧ ps (Y c) (ch P Y c i) = ps (Y c) c + i := by
  obtain ⟨h1, h2, h3, h4⟩ := lnf_spec P Y 8 c hc hP (by omega)
  exact ⟨h1, by unfold ln; omega, h3, h4⟩
/-- a PATH begins at c -/
def bgn (P Y : Nat → Nat) (c : Nat) : Prop := ¬ P c = 0 ∧ tp P Y c = 64
theorem ch_back {P Y : Nat → Nat} {c : Nat} (hc : c < 64) (hP : ¬ P c = 0) {i : Nat} (hi : i + 1 < ln P Y c) : tp P Y (ch P Y c (i + 1)) = ch P Y c i := by
  obtain ⟨h1, h2, h3, h4⟩ := ln_spec (Y := Y) hc hP
  obtain ⟨a, b, d, g⟩ := h4 i (by omega)
  obtain ⟨a2, b2, d2, g2⟩ := h4 (i + 1) hi
  exact (tn_some a b (show tn P Y (ch P Y c i) < 64 from a2)).2.2.2
theorem ch_inj {P Y : Nat → Nat} {c : Nat} (hc : c < 64) (hP : ¬ P c = 0) {i j : Nat} (hi : i < ln P Y c) (hj : j < ln P Y c) (h : ch P Y c i = ch P Y c j) : i = j := by
  obtain ⟨h1, h2, h3, h4⟩ := ln_spec (Y := Y) hc hP
  have a := (h4 i hi).2.2.2
  have b := (h4 j hj).2.2.2
  rw [h] at a
  omega
/-- two PATHS have no STROKE in common -/
theorem ch_apart {P Y : Nat → Nat} {c d : Nat} (hc : c < 64) (hd : d < 64) (hb : bgn P Y c) (hb2 : bgn P Y d) : ∀ (i j : Nat), i < ln P Y c → j < ln P Y d → ch P Y c i = ch P Y d j → c = d
  | 0, 0, _, _, h => h
  | 0, j + 1, hi, hj, h => by
    have h1 := ch_back hd hb2.1 hj
    rw [← h] at h1
    have h2 : tp P Y c = 64 := hb.2
    have h3 := ((ln_spec (Y := Y) hd hb2.1).2.2.2 j (by omega)).1
    have h4 : tp P Y (ch P Y c 0) = tp P Y c := rfl
    omega
  | i + 1, 0, hi, hj, h => by
    have h1 := ch_back hc hb.1 hi
    rw [h] at h1
    have h2 : tp P Y d = 64 := hb2.2
    have h3 := ((ln_spec (Y := Y) hc hb.1).2.2.2 i (by omega)).1
    have h4 : tp P Y (ch P Y d 0) = tp P Y d := rfl
    omega
  | i + 1, j + 1, hi, hj, h => by
    refine ch_apart hc hd hb hb2 i j (by omega) (by omega) ?_
    rw [← ch_back hc hb.1 hi, ← ch_back hd hb2.1 hj, h]
/-- every STROKE lies on a PATH -/
theorem ch_cover {P Y : Nat → Nat} : ∀ (n d : Nat), d < 64 → ¬ P d = 0 → ps (Y d) d < n → ∃ c i, c < 64 ∧ bgn P Y c ∧ i < ln P Y c ∧ ch P Y c i = d
  | 0, d, _, _, h => absurd h (by omega)
  | n + 1, d, hd, hP, h => by
    by_cases e : tp P Y d = 64
    · exact ⟨d, 0, hd, ⟨hP, e⟩, (ln_spec (Y := Y) hd hP).1, rfl⟩
    · have hl := tp_le P Y d
      obtain ⟨h1, h2, h3, h4⟩ := tp_some hd hP (show tp P Y d < 64 by omega)
      have h5 : ps (Y d) d = ps (Y d) (tp P Y d) + 1 := by
        have := ps_nx (w := Y d) (c := tp P Y d) (by omega) (by rw [h3, pv_nx hd (by omega)]; exact hd)
        rw [h3, pv_nx hd (by omega), ← h3] at this
        exact this
      obtain ⟨c, i, c1, c2, c3, c4⟩ := ch_cover (P := P) (Y := Y) n (tp P Y d) (by omega) h1 (by rw [h2]; omega)
      refine ⟨c, i + 1, c1, c2, ?_, by rw [ch, c4, h4]⟩
      obtain ⟨k1, k2, k3, k4⟩ := ln_spec (Y := Y) c1 c2.1
      rcases Nat.lt_or_ge (i + 1) (ln P Y c) with q | q
      · exact q
      · rw [show ln P Y c - 1 = i by omega, c4, h4] at k3
        omega
theorem cover {P Y : Nat → Nat} {d : Nat} (hd : d < 64) (hP : ¬ P d = 0) : ∃ c i, c < 64 ∧ bgn P Y c ∧ i < ln P Y c ∧ ch P Y c i = d := ch_cover 8 d hd hP (by have := ps_le (Y d) d hd; omega)
/-- a PATH goes straight -/
theorem ch_line {P Y : Nat → Nat} {c : Nat} (hc : c < 64) (hP : ¬ P c = 0) (hY : Y c < 4) : ∀ i, i < ln P Y c → (Y c = 0 → ch P Y c i % 8 = c % 8 + i ∧ ch P Y c i / 8 = c / 8) ∧ (Y c = 1 → ch P Y c i % 8 = c % 8 + i ∧ ch P Y c i / 8 = c / 8 + i) ∧ (Y c = 2 → ch P Y c i % 8 = c % 8 ∧ ch P Y c i / 8 = c / 8 + i) ∧ (Y c = 3 → ch P Y c i % 8 + i = c % 8 ∧ ch P Y c i / 8 = c / 8 + i)
  | 0, _ => by simp [ch]
  | i + 1, hi => by
    obtain ⟨h1, h2, h3, h4⟩ := ln_spec (Y := Y) hc hP
    have ih := ch_line hc hP hY i (by omega)
    obtain ⟨a, b, d, g⟩ := h4 i (by omega)
    obtain ⟨a2, b2, d2, g2⟩ := h4 (i + 1) hi
    have e := (tn_some a b (show tn P Y (ch P Y c i) < 64 from a2)).2.2.1
    have e2 : ch P Y c (i + 1) = nx (Y c) (ch P Y c i) := by rw [← d]; exact e
    rw [e2] at a2 ⊢
    rcases nx_cases a2 with ⟨w0, z, e3⟩ | ⟨w0, z, z2, e3⟩ | ⟨w0, z, e3⟩ | ⟨w0, z, z2, e3⟩
    · have ih := ih.1 w0
      rw [e3]
      exact ⟨fun _ => by omega, fun q => by omega, fun q => by omega, fun q => by omega⟩
    · have ih := ih.2.1 w0
      rw [e3]
      exact ⟨fun q => by omega, fun _ => by omega, fun q => by omega, fun q => by omega⟩
    · have ih := ih.2.2.1 w0
      rw [e3]
      exact ⟨fun q => by omega, fun q => by omega, fun _ => by omega, fun q => by omega⟩
    · have ih := ih.2.2.2 (by omega)
      rw [e3]
      exact ⟨fun q => by omega, fun q => by omega, fun q => by omega, fun _ => by omega⟩
theorem ch_fr {P Y : Nat → Nat} {c : Nat} (hc : c < 64) (hP : ¬ P c = 0) (hY : Y c < 4) {i : Nat} (hi : i < ln P Y c) : fr c (ch P Y c i) = i := by
  obtain ⟨l0, l1, l2, l3⟩ := ch_line hc hP hY i hi
  unfold fr nd
  rcases (show Y c = 0 ∨ Y c = 1 ∨ Y c = 2 ∨ Y c = 3 by omega) with q | q | q | q
  · have := l0 q; omega
  · have := l1 q; omega
  · have := l2 q; omega
  · have := l3 q; omega
/-- WIDTHS along a row: each within sw of the one before it -/
def le1 (V : Nat → Nat) (sw : Nat) (q : Nat → Nat) : Nat → Nat
  | 0 => V (q 0)
  | i + 1 => min (V (q (i + 1))) (le1 V sw q i + sw)
/-- WIDTHS of a PATH once gone on -/
def fw (P Y : Nat → Nat) (sw c : Nat) : Nat → Nat := le1 P sw (ch P Y c)
/-- .. and once back: the i-th from the last -/
def bk (P Y : Nat → Nat) (sw c : Nat) : Nat → Nat
  | 0 => fw P Y sw c (ln P Y c - 1)
  | i + 1 => min (fw P Y sw c (ln P Y c - 1 - (i + 1))) (bk P Y sw c i + sw)
/-- the greatest of the first n -/
def mxf (e : Nat → Nat) : Nat → Nat
  | 0 => 0
  | n + 1 => max (mxf e n) (e n)
theorem mxf_cong {e g : Nat → Nat} : ∀ {n : Nat}, (∀ i, i < n → e i = g i) → mxf e n = mxf g n
  | 0, _ => rfl
  | n + 1, h => by rw [mxf, mxf, mxf_cong (fun i hi => h i (by omega)), h n (by omega)]
/-- the WIDTH of the i-th STROKE of the PATH from c -/
def wdt (P Y : Nat → Nat) (sw c i : Nat) : Nat := bk P Y sw c (ln P Y c - 1 - i)
/-- how many of 0 .. n - 1 are so -/
def cb (p : Nat → Bool) : Nat → Nat
  | 0 => 0
  | n + 1 => cb p n + if p n then 1 else 0
theorem cb_yes {p : Nat → Bool} {n : Nat} (h : p n = true) : cb p (n + 1) = cb p n + 1 := by rw [cb, if_pos h]
theorem cb_no {p : Nat → Bool} {n : Nat} (h : ¬ p n = true) : cb p (n + 1) = cb p n := by rw [cb, if_neg h]; rfl
theorem cb_le (p : Nat → Bool) : ∀ n, cb p n ≤ n
  | 0 => Nat.le_refl 0
  | n + 1 => by
    have := cb_le p n
    rw [cb]
    split <;> omega
theorem cb_mono (p : Nat → Bool) : ∀ {a b : Nat}, a ≤ b → cb p a ≤ cb p b
  | a, 0, h => by rw [show a = 0 by omega]; exact Nat.le_refl _
  | a, b + 1, h => by
    rcases Nat.lt_or_ge a (b + 1) with q | q
    · have := cb_mono p (show a ≤ b by omega)
      rw [cb]
      omega
    · rw [show a = b + 1 by omega]; exact Nat.le_refl _
theorem cb_lt {p : Nat → Bool} {a b : Nat} (h : a < b) (hp : p a = true) : cb p a < cb p b := by
  have := cb_mono p (show a + 1 ≤ b by omega)
  rw [cb_yes hp] at this
  omega
theorem cb_one {p : Nat → Bool} {a b : Nat} (ha : p a = true) (hb : p b = true) (h : cb p a = cb p b) : a = b := by
  rcases Nat.lt_or_ge a b with q | q
  · have := cb_lt q ha; omega
  · rcases Nat.lt_or_ge b a with r | r
    · have := cb_lt r hb; omega
    · omega
theorem cb_kth {p : Nat → Bool} {k : Nat} : ∀ {n : Nat}, k < cb p n → ∃ i, i < n ∧ p i = true ∧ cb p i = k
  | 0, h => absurd h (by simp [cb])
  | n + 1, h => by
    rcases Nat.lt_or_ge k (cb p n) with q | q
    · obtain ⟨i, h1, h2⟩ := cb_kth q
      exact ⟨i, by omega, h2⟩
    · by_cases e : p n = true
      · rw [cb_yes e] at h
        exact ⟨n, by omega, e, by omega⟩
      · rw [cb_no e] at h
        omega
theorem cb_cong {p q : Nat → Bool} : ∀ {n : Nat}, (∀ i, i < n → p i = q i) → cb p n = cb q n
  | 0, _ => rfl
  | n + 1, h => by rw [cb, cb, cb_cong (fun i hi => h i (by omega)), h n (by omega)]
