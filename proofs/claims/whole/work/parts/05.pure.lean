/-! ===== the words of the document, as numbers ===== -/
abbrev okc (x y : Int32) : Prop := ¬ x < 0 ∧ ¬ nI 8 ≤ x ∧ ¬ y < 0 ∧ ¬ nI 8 ≤ y
abbrev okb (x y : Int32) : Prop := ¬ x < 0 ∧ ¬ nI 7 ≤ x ∧ ¬ y < 0 ∧ ¬ nI 7 ≤ y
abbrev okt (v : Int32) : Prop := ¬ v < 0 ∧ ¬ nI 100 < v
abbrev okl (x : Int32) : Prop := x = 0 ∨ x = nI 1
abbrev inr (v lo hi : Int32) : Prop := ¬ v < lo ∧ ¬ hi < v
theorem i_lt (a b : Int32) : a < b ↔ a.toInt < b.toInt := Int32.lt_iff_toInt_lt
theorem i_le (a b : Int32) : a ≤ b ↔ a.toInt ≤ b.toInt := Int32.le_iff_toInt_le
theorem i_eq (a b : Int32) : a = b ↔ a.toInt = b.toInt := Int32.toInt_inj.symm
theorem nI_T {n : Nat} (h : n < 2 ^ 31) : (nI n).toInt = (n : Int) := nI_toInt h
theorem z_T : (0 : Int32).toInt = 0 := by decide
theorem ne_toInt {x : Int32} {k : Nat} (h : ¬ x = nI k) (hk : k < 2 ^ 31) : x.toInt ≠ (k : Int) := fun q => h ((i_eq _ _).mpr (by rw [nI_T hk]; exact q))
theorem up_to {x : Int32} {n : Nat} (hn : n < 2 ^ 31) (h : ¬ x < 0) (h2 : ¬ nI n ≤ x) : ∃ a : Nat, a < n ∧ x = nI a := by
  rw [i_lt, z_T] at h
  rw [i_le, nI_T hn] at h2
  refine ⟨x.toInt.toNat, by omega, ?_⟩
  rw [i_eq, nI_T (by omega)]
  omega
theorem up_to' {x : Int32} {n : Nat} (hn : n < 2 ^ 31) (h : ¬ x < 0) (h2 : ¬ nI n < x) : ∃ a : Nat, a ≤ n ∧ x = nI a := by
  rw [i_lt, z_T] at h
  rw [i_lt, nI_T hn] at h2
  refine ⟨x.toInt.toNat, by omega, ?_⟩
  rw [i_eq, nI_T (by omega)]
  omega
theorem okc_nat {x y : Int32} (h : okc x y) : ∃ a b : Nat, a < 8 ∧ b < 8 ∧ x = nI a ∧ y = nI b := by
  obtain ⟨a, h1, h2⟩ := up_to (by decide) h.1 h.2.1
  obtain ⟨b, h3, h4⟩ := up_to (by decide) h.2.2.1 h.2.2.2
  exact ⟨a, b, h1, h3, h2, h4⟩
theorem okb_nat {x y : Int32} (h : okb x y) : ∃ a b : Nat, a < 7 ∧ b < 7 ∧ x = nI a ∧ y = nI b := by
  obtain ⟨a, h1, h2⟩ := up_to (by decide) h.1 h.2.1
  obtain ⟨b, h3, h4⟩ := up_to (by decide) h.2.2.1 h.2.2.2
  exact ⟨a, b, h1, h3, h2, h4⟩
theorem okt_nat {v : Int32} (h : okt v) : ∃ a : Nat, a ≤ 100 ∧ v = nI a := up_to' (by decide) h.1 h.2
theorem okc_of {a b : Nat} (ha : a < 8) (hb : b < 8) : okc (nI a) (nI b) := ⟨nI_pos (by omega), nI_ge ha (by decide), nI_pos (by omega), nI_ge hb (by decide)⟩
theorem inr_iff {v : Int32} {lo hi : Nat} (hl : lo < 2 ^ 31) (hh : hi < 2 ^ 31) : inr v (nI lo) (nI hi) ↔ ((lo : Int) ≤ v.toInt ∧ v.toInt ≤ hi) := by
  unfold inr
  rw [i_lt, i_lt, nI_T hl, nI_T hh]
  omega
theorem okc_in (x y : Int32) : okc x y ↔ (inr x (nI 0) (nI 7) ∧ inr y (nI 0) (nI 7)) := by
  rw [inr_iff (by decide) (by decide), inr_iff (by decide) (by decide)]
  unfold okc
  rw [i_lt, i_le, i_lt, i_le, z_T, nI_T (by decide)]
  omega
theorem okb_in (x y : Int32) : okb x y ↔ (inr x (nI 0) (nI 6) ∧ inr y (nI 0) (nI 6)) := by
  rw [inr_iff (by decide) (by decide), inr_iff (by decide) (by decide)]
  unfold okb
  rw [i_lt, i_le, i_lt, i_le, z_T, nI_T (by decide)]
  omega
theorem okt_in (v : Int32) : okt v ↔ inr v (nI 0) (nI 100) := by
  rw [inr_iff (by decide) (by decide)]
  unfold okt
  rw [i_lt, i_lt, z_T, nI_T (by decide)]
  omega
/-- how far the tool goes between two cells -/
def fr (f t : Nat) : Nat := max (nd (f % 8) (t % 8)) (nd (f / 8) (t / 8))
def sz32 (x : Int32) : Int32 := if 0 ≤ x then x else -x
theorem neg_sub0 (x : Int32) : -x = 0 - x := by
  apply Int32.toBitVec_inj.mp
  simp
theorem sz32_nd {a b : Nat} (ha : a < 2 ^ 30) (hb : b < 2 ^ 30) : sz32 (nI a - nI b) = nI (nd a b) := by
  rw [← nI_abs ha hb]
  unfold sz32
  rw [neg_sub0]
/-- x modulo 8, as the library has it -/
def fmo8 (x : Int32) : Int32 := if 0 ≤ x ^^^ nI 8 then x - x / nI 8 * nI 8 else if x - x / nI 8 * nI 8 = 0 then x - x / nI 8 * nI 8 else (x - x / nI 8 * nI 8) + nI 8
theorem fmo8_sub : ∀ a : Fin 8, ∀ b : Fin 8, fmo8 (nI a.val - nI b.val) = nI ((a.val + 8 - b.val) % 8) := by decide +kernel
theorem fmo8_d {a b : Nat} (ha : a < 8) (hb : b < 8) : fmo8 (nI a - nI b) = nI ((a + 8 - b) % 8) := fmo8_sub ⟨a, ha⟩ ⟨b, hb⟩
theorem fmo8_nat : ∀ a : Fin 16, fmo8 (nI a.val) = nI (a.val % 8) := by decide +kernel
theorem fmo8_n {a : Nat} (ha : a < 16) : fmo8 (nI a) = nI (a % 8) := fmo8_nat ⟨a, ha⟩
/-- by what the TURN grows from one to the next -/
def gw (f t : Nat) : Int32 := if 4 < (t + 8 - f) % 8 then nI ((t + 8 - f) % 8) - nI 8 else nI ((t + 8 - f) % 8)
/-- KNOT of the block whose first cell is c; 2: it is TORN -/
def kn (U : Nat → Nat) (c : Nat) : Int32 :=
  if gw (U c) (U (c + 1)) = nI 4 ∨ gw (U (c + 1)) (U (c + 9)) = nI 4 ∨ gw (U (c + 9)) (U (c + 8)) = nI 4 ∨ gw (U (c + 8)) (U c) = nI 4 then nI 2
  else (gw (U c) (U (c + 1)) + gw (U (c + 1)) (U (c + 9)) + gw (U (c + 9)) (U (c + 8)) + gw (U (c + 8)) (U c)) / nI 8
/-- the square of APART -/
def apS (u t : Nat) : Nat := min (nd u t) (8 - nd u t) * min (nd u t) (8 - nd u t)
theorem apS_tab0 : ∀ u : Fin 8, ∀ t : Fin 8, (stV 0).getD ((u.val + 8 - t.val) % 8) 0 = nI (apS u.val t.val) := by decide +kernel
theorem apS_tab {u t : Nat} (hu : u < 8) (ht : t < 8) : (stV 0).getD ((u + 8 - t) % 8) 0 = nI (apS u t) := apS_tab0 ⟨u, hu⟩ ⟨t, ht⟩
theorem apS_le0 : ∀ u : Fin 8, ∀ t : Fin 8, apS u.val t.val ≤ 16 := by decide +kernel
theorem apS_le {u t : Nat} (hu : u < 8) (ht : t < 8) : apS u t ≤ 16 := apS_le0 ⟨u, hu⟩ ⟨t, ht⟩
/-- the strain against the cell (x, y), if it is one -/
def sa (U : Nat → Nat) (x y : Int32) (t : Nat) : Nat := if okc x y then apS (U (8 * y.toNatClampNeg + x.toNatClampNeg)) t else 0
theorem sa_nat (U : Nat → Nat) {a b : Nat} (t : Nat) (ha : a < 8) (hb : b < 8) : sa U (nI a) (nI b) t = apS (U (8 * b + a)) t := by
  unfold sa
  rw [if_pos (okc_of ha hb), nI_clamp (by omega), nI_clamp (by omega)]
theorem sa_le (U : Nat → Nat) (x y : Int32) {t : Nat} (hU : ∀ k, U k < 8) (ht : t < 8) : sa U x y t ≤ 16 := by
  unfold sa
  split
  · exact apS_le (hU _) ht
  · exact Nat.zero_le _
/-- the strain of a TURN at a cell -/
def sn (U : Nat → Nat) (c t : Nat) : Nat := sa U (nI (c % 8) - nI 1) (nI (c / 8)) t + sa U (nI (c % 8 + 1)) (nI (c / 8)) t + sa U (nI (c % 8)) (nI (c / 8) - nI 1) t + sa U (nI (c % 8)) (nI (c / 8 + 1)) t
theorem sn_le (U : Nat → Nat) (c : Nat) {t : Nat} (hU : ∀ k, U k < 8) (ht : t < 8) : sn U c t ≤ 64 := by
  have h1 := sa_le U (nI (c % 8) - nI 1) (nI (c / 8)) hU ht
  have h2 := sa_le U (nI (c % 8 + 1)) (nI (c / 8)) hU ht
  have h3 := sa_le U (nI (c % 8)) (nI (c / 8) - nI 1) hU ht
  have h4 := sa_le U (nI (c % 8)) (nI (c / 8 + 1)) hU ht
  unfold sn
  omega
/-- the TURN found by going through 0 .. i - 1 from the one it has -/
def cm (f : Nat → Nat) (cur : Nat) : Nat → Nat
  | 0 => cur
  | i + 1 => if f i < f (cm f cur i) then i else cm f cur i
/-- the first least one of 0 .. n -/
def am (f : Nat → Nat) : Nat → Nat
  | 0 => 0
  | n + 1 => if f (n + 1) < f (am f n) then n + 1 else am f n
theorem am_le (f : Nat → Nat) : ∀ n, am f n ≤ n
  | 0 => Nat.le_refl 0
  | n + 1 => by
    have := am_le f n
    unfold am
    split <;> omega
theorem cm_lt {f : Nat → Nat} {cur : Nat} (h : cur < 8) : ∀ n, n ≤ 8 → cm f cur n < 8
  | 0, _ => h
  | n + 1, hn => by
    have := cm_lt (f := f) h n (by omega)
    unfold cm
    split <;> omega
theorem cm_am (f : Nat → Nat) (cur : Nat) : ∀ n, cm f cur (n + 1) = if f (am f n) < f cur then am f n else cur
  | 0 => rfl
  | n + 1 => by
    have ih := cm_am f cur n
    rw [cm, ih, am]
    by_cases h1 : f (am f n) < f cur
    · rw [if_pos h1]
      by_cases h2 : f (n + 1) < f (am f n)
      · rw [if_pos h2, if_pos (show f (n + 1) < f cur by omega)]
      · rw [if_neg h2, if_pos h1]
    · rw [if_neg h1]
      by_cases h2 : f (n + 1) < f cur
      · have h3 : f (n + 1) < f (am f n) := by omega
        rw [if_pos h3, if_pos h2]
      · rw [if_neg h2]
        by_cases h3 : f (n + 1) < f (am f n)
        · rw [if_pos h3, if_neg h2]
        · rw [if_neg h3, if_neg h1]
/-- the TURN that a cell gets -/
def nt (U : Nat → Nat) (c : Nat) : Nat := cm (sn U c) (U c) 8
theorem nt_lt {U : Nat → Nat} (h : ∀ k, U k < 8) (c : Nat) : nt U c < 8 := cm_lt (h c) 8 (by omega)
theorem nt_yes {U : Nat → Nat} {c : Nat} (h : sn U c (am (sn U c) 7) < sn U c (U c)) : nt U c = am (sn U c) 7 ∧ nt U c ≠ U c := by
  have e : nt U c = am (sn U c) 7 := by
    unfold nt
    rw [cm_am, if_pos h]
  refine ⟨e, fun q => ?_⟩
  rw [e] at q
  rw [q] at h
  omega
theorem nt_no {U : Nat → Nat} {c : Nat} (h : ¬ sn U c (am (sn U c) 7) < sn U c (U c)) : nt U c = U c := by
  unfold nt
  rw [cm_am, if_neg h]
/-- a going through: the TURNS, and whether one changed -/
def gtS (B U : Nat → Nat) : Nat → (Nat → Nat) × Nat
  | 0 => (U, 0)
  | c + 1 => if B c = 0 ∧ nt (gtS B U c).1 c ≠ (gtS B U c).1 c then (va_up (gtS B U c).1 c (nt (gtS B U c).1 c), 1) else gtS B U c
theorem gtS_yes {B U : Nat → Nat} {c : Nat} (h : B c = 0) (h2 : nt (gtS B U c).1 c ≠ (gtS B U c).1 c) : gtS B U (c + 1) = (va_up (gtS B U c).1 c (nt (gtS B U c).1 c), 1) := by
  rw [gtS, if_pos ⟨h, h2⟩]
theorem gtS_no {B U : Nat → Nat} {c : Nat} (h : ¬ (B c = 0 ∧ nt (gtS B U c).1 c ≠ (gtS B U c).1 c)) : gtS B U (c + 1) = gtS B U c := by
  rw [gtS, if_neg h]
theorem gtS_lt {B U : Nat → Nat} (h : ∀ k, U k < 8) : ∀ c k, (gtS B U c).1 k < 8
  | 0, k => h k
  | c + 1, k => by
    have ih := gtS_lt (B := B) h c
    rw [gtS]
    split
    · show va_up (gtS B U c).1 c (nt (gtS B U c).1 c) k < 8
      unfold va_up
      split
      · exact nt_lt ih c
      · exact ih k
    · exact ih k
theorem gtS_flag {B U : Nat → Nat} : ∀ c, (gtS B U c).2 < 2
  | 0 => by show 0 < 2; omega
  | c + 1 => by
    have ih := gtS_flag (B := B) (U := U) c
    rw [gtS]
    split
    · show 1 < 2; omega
    · exact ih
/-- the TURNS behind k goings through -/
def it (B U : Nat → Nat) : Nat → Nat → Nat
  | 0 => U
  | k + 1 => (gtS B (it B U k) 64).1
theorem it_lt {B U : Nat → Nat} (h : ∀ k, U k < 8) : ∀ n k, it B U n k < 8
  | 0, k => h k
  | n + 1, k => gtS_lt (it_lt h n) 64 k
/-- how many goings through there are: k are done, f may follow -/
def evN (B U : Nat → Nat) : Nat → Nat → Nat
  | 0, k => k
  | f + 1, k => if (gtS B (it B U k) 64).2 = 0 then k + 1 else evN B U f (k + 1)
theorem evN_yes {B U : Nat → Nat} {f k : Nat} (h : (gtS B (it B U k) 64).2 = 0) : evN B U (f + 1) k = k + 1 := by rw [evN, if_pos h]
theorem evN_no {B U : Nat → Nat} {f k : Nat} (h : ¬ (gtS B (it B U k) 64).2 = 0) : evN B U (f + 1) k = evN B U f (k + 1) := by rw [evN, if_neg h]
