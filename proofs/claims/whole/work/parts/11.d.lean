set_option maxHeartbeats 4000000 in
set_option maxRecDepth 100000 in
theorem c_X1_limitSwell_on (l : Launch) (D : va_G) (cI cZ : ClassId) (tt : Nat → Nat) (sz : Nat) (l0 l1 l2 l3 l4 l5 l6 l7 : Nat) (nm np : Nat) (P Y V F L Z X : Nat → Nat) (p y : Nat → Nat) (sw Ln : Nat) (q : Nat → Nat) (hPp : ∀ k, k < 64 → P k = p k) (hYy : ∀ k, k < 64 → Y k = y k) (hp : ∀ k, p k ≤ 100) (hy : ∀ k, y k < 4) (hV : ∀ k, k < 64 → V k ≤ 100) (hsw : sw ≤ 100) (hL1 : 1 ≤ Ln) (hL8 : Ln ≤ 8) (hq : ∀ i, i < Ln → q i < 64) (hqs : ∀ i, i + 1 < Ln → tn p y (q i) = q (i + 1)) (hqe : tn p y (q (Ln - 1)) = 64) (hqi : ∀ i j, i < Ln → j < Ln → q i = q j → i = j) : MI l yX1_limitSwell wsX1_limitSwell ({ frames := 2, cells := 0, slots := 0, locals := 47 } : Room) D cI cZ tt [.ref l0, .int (nI (q 0)), .int (nI 1), .int (nI sw)] [(l0, .inr (1, [.int (nI nm), .ref l1, .ref l2, .ref l3, .ref l4, .ref l5, .ref l6, .ref l7, .int (nI np)])), (l1, .inl (cI, 64, .inl (nF P))), (l2, .inl (cI, 64, .inl (nF Y))), (l3, .inl (cI, 64, .inl (nF V))), (l4, .inl (cI, 64, .inl (nF F))), (l5, .inl (cI, 64, .inl (nF L))), (l6, .inl (cI, 64, .inl (nF Z))), (l7, .inl (cI, 64, .inl (nF X)))] sz (fun (r : Int32) (u : (Nat → Nat)) => r = nI (q (Ln - 1)) ∧ (∀ i, i < Ln → u (q i) = le1 V sw q i) ∧ (∀ d, (∀ i, i < Ln → d ≠ q i) → u d = V d) ∧ (∀ k, k < 64 → u k ≤ 100)) (fun (u : (Nat → Nat)) => [(l0, .inr (1, [.int (nI nm), .ref l1, .ref l2, .ref l3, .ref l4, .ref l5, .ref l6, .ref l7, .int (nI np)])), (l1, .inl (cI, 64, .inl (nF P))), (l2, .inl (cI, 64, .inl (nF Y))), (l3, .inl (cI, 64, .inl (nF u))), (l4, .inl (cI, 64, .inl (nF F))), (l5, .inl (cI, 64, .inl (nF L))), (l6, .inl (cI, 64, .inl (nF Z))), (l7, .inl (cI, 64, .inl (nF X)))]) := by
  refine entI (cc := cX1_limitSwell) 7 (by decide) rfl (Nat.le_of_ble_eq_true rfl) (Or.inl rfl) (fun pr e s m args below meth c0 A Q H ls hx hb hml hown hts hsz hA hP hK hD hS hG hret hl => ?_)
  have hown : s.vm.findClass RX1 = some m.cls := hown
  have lk1 := hts (.fieldLink RX1 18 "BurinLines$Layer" "widths" "[I") (by decide +kernel)
  have lk2 := hts (.methodLink RX1 97 Lib.Math.min.name) (by decide +kernel)
  have lk3 := hts (.static Lib.Math.min.name) (by decide +kernel)
  have lk4 := hts (.initialized "java/lang/Math") (by decide +kernel)
  have lk5 := hts (.code Lib.Math.min.name Lib.Math.min.code 2 (some .int)) (by decide +kernel)
  have hinX1 : ∀ w ∈ wsX10, w ∈ wsX1_limitSwell := by decide +kernel
  have hl : lv_has ls 7 [(0, .ref l0), (1, .int (nI (q 0))), (2, .int (nI 1)), (3, .int (nI sw))] := hl
  refine lv_iload_n hx hb dX1_limitSwell_0 rfl (lv_at hl 1 rfl) ?_
  refine lv_istore (lv' := [(4, .int (nI (q 0))), (0, .ref l0), (1, .int (nI (q 0))), (2, .int (nI 1)), (3, .int (nI sw))]) hx hb dX1_limitSwell_1 hl (by decide) rfl (fun ls hl => ?_)
  refine lv_iconst (v := nI 1) hx hb dX1_limitSwell_3 (by decide) ?_
  refine lv_istore (lv' := [(5, .int (nI 1)), (4, .int (nI (q 0))), (0, .ref l0), (1, .int (nI (q 0))), (2, .int (nI 1)), (3, .int (nI sw))]) hx hb dX1_limitSwell_4 hl (by decide) rfl (fun ls hl => ?_)
  have L6 : ∀ (n : Nat) (j : Nat) (V2 : Nat → Nat), 8 - j < n → (j < Ln) → (∀ i, i ≤ j → V2 (q i) = le1 V sw q i) → (∀ d, (∀ i, i ≤ j → d ≠ q i) → V2 d = V d) → (∀ k, k < 64 → V2 k ≤ 100) → ∀ (H : Heap) (locs : List Loc) (ls : Array Slot), va_P D vwCl [(l0, .inr (1, [.int (nI nm), .ref l1, .ref l2, .ref l3, .ref l4, .ref l5, .ref l6, .ref l7, .int (nI np)])), (l1, .inl (cI, 64, .inl (nF P))), (l2, .inl (cI, 64, .inl (nF Y))), (l3, .inl (cI, 64, .inl (nF V2))), (l4, .inl (cI, 64, .inl (nF F))), (l5, .inl (cI, 64, .inl (nF L))), (l6, .inl (cI, 64, .inl (nF Z))), (l7, .inl (cI, 64, .inl (nF X)))] H → va_D A [(l0, .inr (1, [.int (nI nm), .ref l1, .ref l2, .ref l3, .ref l4, .ref l5, .ref l6, .ref l7, .int (nI np)])), (l1, .inl (cI, 64, .inl (nF P))), (l2, .inl (cI, 64, .inl (nF Y))), (l3, .inl (cI, 64, .inl (nF V2))), (l4, .inl (cI, 64, .inl (nF F))), (l5, .inl (cI, 64, .inl (nF L))), (l6, .inl (cI, 64, .inl (nF Z))), (l7, .inl (cI, 64, .inl (nF X)))] → va_S A s.heap H locs → lv_has ls 7 [(0, .ref l0), (1, .int (nI (q 0))), (2, .int (nI 1)), (3, .int (nI sw)), (4, .int (nI (q j))), (5, .int (nI (j + 1)))] → W pr l e ({ frames := 2, cells := 0, slots := 0, locals := 47 } : Room) s m args below meth c0 H locs 0 0 Q (F0 m 6 ls []) := by
    intro n
    induction n with
    | zero => intro j V2 h0; exact absurd h0 (Nat.not_lt_zero _)
    | succ n ih6 =>
      intro j V2 hm6 hj hva hvc hvb H locs ls hP hD hS hl
      refine lv_iload hx hb dX1_limitSwell_6 (lv_at hl 5 rfl) ?_
      refine lv_bipush (v := nI 8) hx hb dX1_limitSwell_8 (by decide) ?_
      refine nv_icmp_ge (tgt := 67) hx hb dX1_limitSwell_10 (by decide) (by omega) (by omega) (fun c_1 => ?_) (fun c_1 => ?_)
      · skip
        have hjL : j = Ln - 1 := by omega
        refine lv_iload hx hb dX1_limitSwell_67 (lv_at hl 4 rfl) ?_
        exact hret _ _ _ _ _ _ dX1_limitSwell_69 (⟨by rw [hjL], by intro i hi; exact hva i (by omega), by intro d hd; exact hvc d (fun i hi => hd i (by omega)), hvb⟩) hP hD hS
      · skip
        refine lv_aload_n hx hb dX1_limitSwell_13 rfl (lv_at hl 0 rfl) ?_
        refine lv_iload hx hb dX1_limitSwell_14 (lv_at hl 4 rfl) ?_
        refine lv_iload_n hx hb dX1_limitSwell_16 rfl (lv_at hl 2 rfl) ?_
        refine gcVi (ws' := fun _ => [(l0, .inr (1, [.int (nI nm), .ref l1, .ref l2, .ref l3, .ref l4, .ref l5, .ref l6, .ref l7, .int (nI np)])), (l1, .inl (cI, 64, .inl (nF P))), (l2, .inl (cI, 64, .inl (nF Y))), (l3, .inl (cI, 64, .inl (nF V2))), (l4, .inl (cI, 64, .inl (nF F))), (l5, .inl (cI, 64, .inl (nF L))), (l6, .inl (cI, 64, .inl (nF Z))), (l7, .inl (cI, 64, .inl (nF X)))]) (wr := []) (ci := 1) (q0 := 0) (As := [.int (nI (q j)), .int (nI 1)]) (rest := []) ⟨hx, hb, hml, hown, hts⟩ (c_X1_tiedTo_on l D cI cZ tt H.size l0 l1 l2 l3 l4 l5 l6 l7 nm np P Y V2 F L Z X p y (q j) (by first | assumption | omega) (by first | assumption | omega) (by first | assumption | omega) (by first | assumption | omega) (by exact hq j hj)) (cwV 2 hts gX1_limitSwell_X1_tiedTo rfl rfl rfl (by decide +kernel) ⟨Nat.le_of_ble_eq_true rfl, Nat.le_of_ble_eq_true rfl⟩) hP hK hD hS hA hG rfl rfl [0, 1, 2, 3, 4, 5, 6, 7] [] [0, 1, 2, 3, 4, 5, 6, 7] (by decide) rfl rfl (by decide) (by decide) (by decide) (fun _ => rfl) hl.1 rfl rfl (Nat.le_of_ble_eq_true rfl) ⟨Nat.zero_le _, Nat.zero_le _⟩ dX1_limitSwell_17 (fun r u H locs hp hP hD hS => ?_)
        obtain rfl := hp
        have hP : va_P D vwCl [(l0, .inr (1, [.int (nI nm), .ref l1, .ref l2, .ref l3, .ref l4, .ref l5, .ref l6, .ref l7, .int (nI np)])), (l1, .inl (cI, 64, .inl (nF P))), (l2, .inl (cI, 64, .inl (nF Y))), (l3, .inl (cI, 64, .inl (nF V2))), (l4, .inl (cI, 64, .inl (nF F))), (l5, .inl (cI, 64, .inl (nF L))), (l6, .inl (cI, 64, .inl (nF Z))), (l7, .inl (cI, 64, .inl (nF X)))] H := hP
        have hD : va_D A [(l0, .inr (1, [.int (nI nm), .ref l1, .ref l2, .ref l3, .ref l4, .ref l5, .ref l6, .ref l7, .int (nI np)])), (l1, .inl (cI, 64, .inl (nF P))), (l2, .inl (cI, 64, .inl (nF Y))), (l3, .inl (cI, 64, .inl (nF V2))), (l4, .inl (cI, 64, .inl (nF F))), (l5, .inl (cI, 64, .inl (nF L))), (l6, .inl (cI, 64, .inl (nF Z))), (l7, .inl (cI, 64, .inl (nF X)))] := hD
        refine lv_istore (lv' := [(6, .int (rI (tn p y (q j)))), (0, .ref l0), (1, .int (nI (q 0))), (2, .int (nI 1)), (3, .int (nI sw)), (4, .int (nI (q j))), (5, .int (nI (j + 1)))]) hx hb dX1_limitSwell_20 hl (by decide) rfl (fun ls hl => ?_)
        refine lv_iload hx hb dX1_limitSwell_22 (lv_at hl 0 rfl) ?_
        refine lv_iconst (v := (-1)) hx hb dX1_limitSwell_24 (by decide) ?_
        refine nv_rne (tgt := 31) hx hb dX1_limitSwell_25 (by decide) (by first | assumption | omega | exact tn_le _ _ _ | exact tp_le _ _ _) (fun c_2 => ?_) (fun c_2 => ?_)
        · skip
          rw [rI_some c_2] at hl
          have hj1 : j + 1 < Ln := by
            rcases Nat.lt_or_ge (j + 1) Ln with z | z
            · exact z
            · exact absurd (by rw [show j = Ln - 1 by omega]; exact hqe) c_2
          have hqn : tn p y (q j) = q (j + 1) := hqs j hj1
          have hq64 := hq (j + 1) hj1
          rw [hqn] at hl
          have bv1 := hvb (q (j + 1)) hq64
          have bv2 := hvb (q j) (hq j hj)
          refine lv_aload_n hx hb dX1_limitSwell_31 rfl (lv_at hl 1 rfl) ?_
          refine va_get (D := D) (ci := 1) (v := .ref l3) (C := RX1) (T := TX1) (N := 9) hx hb hts hinX1 hown hK hP 0 rfl rfl 3 (by decide) lk1 (fun _ h9 => h9) rfl dX1_limitSwell_32 ?_
          refine lv_iload hx hb dX1_limitSwell_35 (lv_at hl 0 rfl) ?_
          refine lv_aload_n hx hb dX1_limitSwell_37 rfl (lv_at hl 1 rfl) ?_
          refine va_get (D := D) (ci := 1) (v := .ref l3) (C := RX1) (T := TX1) (N := 9) hx hb hts hinX1 hown hK hP 0 rfl rfl 3 (by decide) lk1 (fun _ h9 => h9) rfl dX1_limitSwell_38 ?_
          refine lv_iload hx hb dX1_limitSwell_41 (lv_at hl 0 rfl) ?_
          refine nv_iald hx hb hK hP 3 rfl (by omega) (by decide) dX1_limitSwell_43 ?_
          refine lv_aload_n hx hb dX1_limitSwell_44 rfl (lv_at hl 1 rfl) ?_
          refine va_get (D := D) (ci := 1) (v := .ref l3) (C := RX1) (T := TX1) (N := 9) hx hb hts hinX1 hown hK hP 0 rfl rfl 3 (by decide) lk1 (fun _ h9 => h9) rfl dX1_limitSwell_45 ?_
          refine lv_iload hx hb dX1_limitSwell_48 (lv_at hl 5 rfl) ?_
          refine nv_iald hx hb hK hP 3 rfl (by exact hq j hj) (by decide) dX1_limitSwell_50 ?_
          refine lv_iload_n hx hb dX1_limitSwell_51 rfl (lv_at hl 4 rfl) ?_
          refine nv_iadd hx hb dX1_limitSwell_52 ?_
          refine va_mmin hx hb (by rw [hml]; exact hl.1.symm) hown lk2 lk3 lk4 lk5 (Nat.le_of_ble_eq_true rfl) (Nat.le_of_ble_eq_true rfl) (Nat.zero_le _) (Nat.zero_le _) dX1_limitSwell_53 ?_
          refine top_eq (nI_min (by omega) (by omega)) ?_
          refine nv_iast hx hb hK hP hD hS 3 rfl (by omega) (by decide) dX1_limitSwell_56 (fun H locs hP hD hS => ?_)
          have hP : va_P D vwCl [(l0, .inr (1, [.int (nI nm), .ref l1, .ref l2, .ref l3, .ref l4, .ref l5, .ref l6, .ref l7, .int (nI np)])), (l1, .inl (cI, 64, .inl (nF P))), (l2, .inl (cI, 64, .inl (nF Y))), (l3, .inl (cI, 64, .inl (nF (va_up V2 (q (j + 1)) (min (V2 (q (j + 1))) ((V2 (q j)) + sw)))))), (l4, .inl (cI, 64, .inl (nF F))), (l5, .inl (cI, 64, .inl (nF L))), (l6, .inl (cI, 64, .inl (nF Z))), (l7, .inl (cI, 64, .inl (nF X)))] H := hP
          have hD : va_D A [(l0, .inr (1, [.int (nI nm), .ref l1, .ref l2, .ref l3, .ref l4, .ref l5, .ref l6, .ref l7, .int (nI np)])), (l1, .inl (cI, 64, .inl (nF P))), (l2, .inl (cI, 64, .inl (nF Y))), (l3, .inl (cI, 64, .inl (nF (va_up V2 (q (j + 1)) (min (V2 (q (j + 1))) ((V2 (q j)) + sw)))))), (l4, .inl (cI, 64, .inl (nF F))), (l5, .inl (cI, 64, .inl (nF L))), (l6, .inl (cI, 64, .inl (nF Z))), (l7, .inl (cI, 64, .inl (nF X)))] := hD
          refine lv_iload hx hb dX1_limitSwell_57 (lv_at hl 0 rfl) ?_
          refine lv_istore (lv' := [(4, .int (nI (q (j + 1)))), (6, .int (nI (q (j + 1)))), (0, .ref l0), (1, .int (nI (q 0))), (2, .int (nI 1)), (3, .int (nI sw)), (5, .int (nI (j + 1)))]) hx hb dX1_limitSwell_59 hl (by decide) rfl (fun ls hl => ?_)
          refine lv_iinc (v := nI (j + 1 + 1)) (lv' := [(5, .int (nI (j + 1 + 1))), (4, .int (nI (q (j + 1)))), (6, .int (nI (q (j + 1)))), (0, .ref l0), (1, .int (nI (q 0))), (2, .int (nI 1)), (3, .int (nI sw))]) hx hb dX1_limitSwell_61 hl (k := 6) rfl (by exact nI_add _ 1) (by decide) rfl (fun ls hl => ?_)
          refine lv_goto (tgt := 6) hx hb dX1_limitSwell_64 (by decide) ?_
          exact ih6 (j + 1) (va_up V2 (q (j + 1)) (min (V2 (q (j + 1))) ((V2 (q j)) + sw))) (by omega) (by omega) (by
            intro i hi
            rcases Nat.lt_or_ge j i with z | z
            · rw [show i = j + 1 by omega, up_s, le1, hva j (by omega), hvc (q (j + 1)) (fun i hi e => by have := hqi (j + 1) i hj1 (by omega) e; omega)]
            · rw [up_n _ _ (fun e => by have := hqi i (j + 1) (by omega) hj1 e; omega)]; exact hva i z) (by
            intro d hd
            rw [up_n _ _ (hd (j + 1) (by omega))]
            exact hvc d (fun i hi => hd i (by omega))) (by
            intro k hk
            unfold va_up
            split
            · omega
            · exact hvb k hk) _ _ _ hP hD hS (lv_sub hl [3, 4, 5, 6, 1, 0] rfl)
        · skip
          have hjL : j = Ln - 1 := by
            rcases Nat.lt_or_ge (j + 1) Ln with z | z
            · have z1 := hqs j z
              have z2 := hq (j + 1) z
              omega
            · omega
          refine lv_goto (tgt := 67) hx hb dX1_limitSwell_28 (by decide) ?_
          refine lv_iload hx hb dX1_limitSwell_67 (lv_at hl 5 rfl) ?_
          exact hret _ _ _ _ _ _ dX1_limitSwell_69 (⟨by rw [hjL], by intro i hi; exact hva i (by omega), by intro d hd; exact hvc d (fun i hi => hd i (by omega)), hvb⟩) hP hD hS
  exact L6 (8 + 1) 0 V (by omega) (by omega) (by intro i hi; rw [show i = 0 by omega]; rfl) (fun _ _ => rfl) hV _ _ _ hP hD hS (lv_sub hl [2, 3, 4, 5, 1, 0] rfl)

set_option maxHeartbeats 4000000 in
set_option maxRecDepth 100000 in
theorem c_X1_limitSwell_back (l : Launch) (D : va_G) (cI cZ : ClassId) (tt : Nat → Nat) (sz : Nat) (l0 l1 l2 l3 l4 l5 l6 l7 : Nat) (nm np : Nat) (P Y V F L Z X : Nat → Nat) (p y : Nat → Nat) (sw Ln : Nat) (q : Nat → Nat) (hPp : ∀ k, k < 64 → P k = p k) (hYy : ∀ k, k < 64 → Y k = y k) (hp : ∀ k, p k ≤ 100) (hy : ∀ k, y k < 4) (hV : ∀ k, k < 64 → V k ≤ 100) (hsw : sw ≤ 100) (hL1 : 1 ≤ Ln) (hL8 : Ln ≤ 8) (hq : ∀ i, i < Ln → q i < 64) (hqs : ∀ i, i + 1 < Ln → tp p y (q i) = q (i + 1)) (hqe : tp p y (q (Ln - 1)) = 64) (hqi : ∀ i j, i < Ln → j < Ln → q i = q j → i = j) : MI l yX1_limitSwell wsX1_limitSwell ({ frames := 2, cells := 0, slots := 0, locals := 47 } : Room) D cI cZ tt [.ref l0, .int (nI (q 0)), .int ((-1)), .int (nI sw)] [(l0, .inr (1, [.int (nI nm), .ref l1, .ref l2, .ref l3, .ref l4, .ref l5, .ref l6, .ref l7, .int (nI np)])), (l1, .inl (cI, 64, .inl (nF P))), (l2, .inl (cI, 64, .inl (nF Y))), (l3, .inl (cI, 64, .inl (nF V))), (l4, .inl (cI, 64, .inl (nF F))), (l5, .inl (cI, 64, .inl (nF L))), (l6, .inl (cI, 64, .inl (nF Z))), (l7, .inl (cI, 64, .inl (nF X)))] sz (fun (r : Int32) (u : (Nat → Nat)) => r = nI (q (Ln - 1)) ∧ (∀ i, i < Ln → u (q i) = le1 V sw q i) ∧ (∀ d, (∀ i, i < Ln → d ≠ q i) → u d = V d) ∧ (∀ k, k < 64 → u k ≤ 100)) (fun (u : (Nat → Nat)) => [(l0, .inr (1, [.int (nI nm), .ref l1, .ref l2, .ref l3, .ref l4, .ref l5, .ref l6, .ref l7, .int (nI np)])), (l1, .inl (cI, 64, .inl (nF P))), (l2, .inl (cI, 64, .inl (nF Y))), (l3, .inl (cI, 64, .inl (nF u))), (l4, .inl (cI, 64, .inl (nF F))), (l5, .inl (cI, 64, .inl (nF L))), (l6, .inl (cI, 64, .inl (nF Z))), (l7, .inl (cI, 64, .inl (nF X)))]) := by
  refine entI (cc := cX1_limitSwell) 7 (by decide) rfl (Nat.le_of_ble_eq_true rfl) (Or.inl rfl) (fun pr e s m args below meth c0 A Q H ls hx hb hml hown hts hsz hA hP hK hD hS hG hret hl => ?_)
  have hown : s.vm.findClass RX1 = some m.cls := hown
  have lk1 := hts (.fieldLink RX1 18 "BurinLines$Layer" "widths" "[I") (by decide +kernel)
  have lk2 := hts (.methodLink RX1 97 Lib.Math.min.name) (by decide +kernel)
  have lk3 := hts (.static Lib.Math.min.name) (by decide +kernel)
  have lk4 := hts (.initialized "java/lang/Math") (by decide +kernel)
  have lk5 := hts (.code Lib.Math.min.name Lib.Math.min.code 2 (some .int)) (by decide +kernel)
  have hinX1 : ∀ w ∈ wsX10, w ∈ wsX1_limitSwell := by decide +kernel
  have hl : lv_has ls 7 [(0, .ref l0), (1, .int (nI (q 0))), (2, .int ((-1))), (3, .int (nI sw))] := hl
  refine lv_iload_n hx hb dX1_limitSwell_0 rfl (lv_at hl 1 rfl) ?_
  refine lv_istore (lv' := [(4, .int (nI (q 0))), (0, .ref l0), (1, .int (nI (q 0))), (2, .int ((-1))), (3, .int (nI sw))]) hx hb dX1_limitSwell_1 hl (by decide) rfl (fun ls hl => ?_)
  refine lv_iconst (v := nI 1) hx hb dX1_limitSwell_3 (by decide) ?_
  refine lv_istore (lv' := [(5, .int (nI 1)), (4, .int (nI (q 0))), (0, .ref l0), (1, .int (nI (q 0))), (2, .int ((-1))), (3, .int (nI sw))]) hx hb dX1_limitSwell_4 hl (by decide) rfl (fun ls hl => ?_)
  have L6 : ∀ (n : Nat) (j : Nat) (V2 : Nat → Nat), 8 - j < n → (j < Ln) → (∀ i, i ≤ j → V2 (q i) = le1 V sw q i) → (∀ d, (∀ i, i ≤ j → d ≠ q i) → V2 d = V d) → (∀ k, k < 64 → V2 k ≤ 100) → ∀ (H : Heap) (locs : List Loc) (ls : Array Slot), va_P D vwCl [(l0, .inr (1, [.int (nI nm), .ref l1, .ref l2, .ref l3, .ref l4, .ref l5, .ref l6, .ref l7, .int (nI np)])), (l1, .inl (cI, 64, .inl (nF P))), (l2, .inl (cI, 64, .inl (nF Y))), (l3, .inl (cI, 64, .inl (nF V2))), (l4, .inl (cI, 64, .inl (nF F))), (l5, .inl (cI, 64, .inl (nF L))), (l6, .inl (cI, 64, .inl (nF Z))), (l7, .inl (cI, 64, .inl (nF X)))] H → va_D A [(l0, .inr (1, [.int (nI nm), .ref l1, .ref l2, .ref l3, .ref l4, .ref l5, .ref l6, .ref l7, .int (nI np)])), (l1, .inl (cI, 64, .inl (nF P))), (l2, .inl (cI, 64, .inl (nF Y))), (l3, .inl (cI, 64, .inl (nF V2))), (l4, .inl (cI, 64, .inl (nF F))), (l5, .inl (cI, 64, .inl (nF L))), (l6, .inl (cI, 64, .inl (nF Z))), (l7, .inl (cI, 64, .inl (nF X)))] → va_S A s.heap H locs → lv_has ls 7 [(0, .ref l0), (1, .int (nI (q 0))), (2, .int ((-1))), (3, .int (nI sw)), (4, .int (nI (q j))), (5, .int (nI (j + 1)))] → W pr l e ({ frames := 2, cells := 0, slots := 0, locals := 47 } : Room) s m args below meth c0 H locs 0 0 Q (F0 m 6 ls []) := by
    intro n
    induction n with
    | zero => intro j V2 h0; exact absurd h0 (Nat.not_lt_zero _)
    | succ n ih6 =>
      intro j V2 hm6 hj hva hvc hvb H locs ls hP hD hS hl
      refine lv_iload hx hb dX1_limitSwell_6 (lv_at hl 5 rfl) ?_
      refine lv_bipush (v := nI 8) hx hb dX1_limitSwell_8 (by decide) ?_
      refine nv_icmp_ge (tgt := 67) hx hb dX1_limitSwell_10 (by decide) (by omega) (by omega) (fun c_1 => ?_) (fun c_1 => ?_)
      · skip
        have hjL : j = Ln - 1 := by omega
        refine lv_iload hx hb dX1_limitSwell_67 (lv_at hl 4 rfl) ?_
        exact hret _ _ _ _ _ _ dX1_limitSwell_69 (⟨by rw [hjL], by intro i hi; exact hva i (by omega), by intro d hd; exact hvc d (fun i hi => hd i (by omega)), hvb⟩) hP hD hS
      · skip
        refine lv_aload_n hx hb dX1_limitSwell_13 rfl (lv_at hl 0 rfl) ?_
        refine lv_iload hx hb dX1_limitSwell_14 (lv_at hl 4 rfl) ?_
        refine lv_iload_n hx hb dX1_limitSwell_16 rfl (lv_at hl 2 rfl) ?_
        refine gcVi (ws' := fun _ => [(l0, .inr (1, [.int (nI nm), .ref l1, .ref l2, .ref l3, .ref l4, .ref l5, .ref l6, .ref l7, .int (nI np)])), (l1, .inl (cI, 64, .inl (nF P))), (l2, .inl (cI, 64, .inl (nF Y))), (l3, .inl (cI, 64, .inl (nF V2))), (l4, .inl (cI, 64, .inl (nF F))), (l5, .inl (cI, 64, .inl (nF L))), (l6, .inl (cI, 64, .inl (nF Z))), (l7, .inl (cI, 64, .inl (nF X)))]) (wr := []) (ci := 1) (q0 := 0) (As := [.int (nI (q j)), .int ((-1))]) (rest := []) ⟨hx, hb, hml, hown, hts⟩ (c_X1_tiedTo_back l D cI cZ tt H.size l0 l1 l2 l3 l4 l5 l6 l7 nm np P Y V2 F L Z X p y (q j) (by first | assumption | omega) (by first | assumption | omega) (by first | assumption | omega) (by first | assumption | omega) (by exact hq j hj)) (cwV 2 hts gX1_limitSwell_X1_tiedTo rfl rfl rfl (by decide +kernel) ⟨Nat.le_of_ble_eq_true rfl, Nat.le_of_ble_eq_true rfl⟩) hP hK hD hS hA hG rfl rfl [0, 1, 2, 3, 4, 5, 6, 7] [] [0, 1, 2, 3, 4, 5, 6, 7] (by decide) rfl rfl (by decide) (by decide) (by decide) (fun _ => rfl) hl.1 rfl rfl (Nat.le_of_ble_eq_true rfl) ⟨Nat.zero_le _, Nat.zero_le _⟩ dX1_limitSwell_17 (fun r u H locs hp hP hD hS => ?_)
        obtain rfl := hp
        have hP : va_P D vwCl [(l0, .inr (1, [.int (nI nm), .ref l1, .ref l2, .ref l3, .ref l4, .ref l5, .ref l6, .ref l7, .int (nI np)])), (l1, .inl (cI, 64, .inl (nF P))), (l2, .inl (cI, 64, .inl (nF Y))), (l3, .inl (cI, 64, .inl (nF V2))), (l4, .inl (cI, 64, .inl (nF F))), (l5, .inl (cI, 64, .inl (nF L))), (l6, .inl (cI, 64, .inl (nF Z))), (l7, .inl (cI, 64, .inl (nF X)))] H := hP
        have hD : va_D A [(l0, .inr (1, [.int (nI nm), .ref l1, .ref l2, .ref l3, .ref l4, .ref l5, .ref l6, .ref l7, .int (nI np)])), (l1, .inl (cI, 64, .inl (nF P))), (l2, .inl (cI, 64, .inl (nF Y))), (l3, .inl (cI, 64, .inl (nF V2))), (l4, .inl (cI, 64, .inl (nF F))), (l5, .inl (cI, 64, .inl (nF L))), (l6, .inl (cI, 64, .inl (nF Z))), (l7, .inl (cI, 64, .inl (nF X)))] := hD
        refine lv_istore (lv' := [(6, .int (rI (tp p y (q j)))), (0, .ref l0), (1, .int (nI (q 0))), (2, .int ((-1))), (3, .int (nI sw)), (4, .int (nI (q j))), (5, .int (nI (j + 1)))]) hx hb dX1_limitSwell_20 hl (by decide) rfl (fun ls hl => ?_)
        refine lv_iload hx hb dX1_limitSwell_22 (lv_at hl 0 rfl) ?_
        refine lv_iconst (v := (-1)) hx hb dX1_limitSwell_24 (by decide) ?_
        refine nv_rne (tgt := 31) hx hb dX1_limitSwell_25 (by decide) (by first | assumption | omega | exact tn_le _ _ _ | exact tp_le _ _ _) (fun c_2 => ?_) (fun c_2 => ?_)
        · skip
          rw [rI_some c_2] at hl
          have hj1 : j + 1 < Ln := by
            rcases Nat.lt_or_ge (j + 1) Ln with z | z
            · exact z
            · exact absurd (by rw [show j = Ln - 1 by omega]; exact hqe) c_2
          have hqn : tp p y (q j) = q (j + 1) := hqs j hj1
          have hq64 := hq (j + 1) hj1
          rw [hqn] at hl
          have bv1 := hvb (q (j + 1)) hq64
          have bv2 := hvb (q j) (hq j hj)
          refine lv_aload_n hx hb dX1_limitSwell_31 rfl (lv_at hl 1 rfl) ?_
          refine va_get (D := D) (ci := 1) (v := .ref l3) (C := RX1) (T := TX1) (N := 9) hx hb hts hinX1 hown hK hP 0 rfl rfl 3 (by decide) lk1 (fun _ h9 => h9) rfl dX1_limitSwell_32 ?_
          refine lv_iload hx hb dX1_limitSwell_35 (lv_at hl 0 rfl) ?_
          refine lv_aload_n hx hb dX1_limitSwell_37 rfl (lv_at hl 1 rfl) ?_
          refine va_get (D := D) (ci := 1) (v := .ref l3) (C := RX1) (T := TX1) (N := 9) hx hb hts hinX1 hown hK hP 0 rfl rfl 3 (by decide) lk1 (fun _ h9 => h9) rfl dX1_limitSwell_38 ?_
          refine lv_iload hx hb dX1_limitSwell_41 (lv_at hl 0 rfl) ?_
          refine nv_iald hx hb hK hP 3 rfl (by omega) (by decide) dX1_limitSwell_43 ?_
          refine lv_aload_n hx hb dX1_limitSwell_44 rfl (lv_at hl 1 rfl) ?_
          refine va_get (D := D) (ci := 1) (v := .ref l3) (C := RX1) (T := TX1) (N := 9) hx hb hts hinX1 hown hK hP 0 rfl rfl 3 (by decide) lk1 (fun _ h9 => h9) rfl dX1_limitSwell_45 ?_
          refine lv_iload hx hb dX1_limitSwell_48 (lv_at hl 5 rfl) ?_
          refine nv_iald hx hb hK hP 3 rfl (by exact hq j hj) (by decide) dX1_limitSwell_50 ?_
          refine lv_iload_n hx hb dX1_limitSwell_51 rfl (lv_at hl 4 rfl) ?_
          refine nv_iadd hx hb dX1_limitSwell_52 ?_
          refine va_mmin hx hb (by rw [hml]; exact hl.1.symm) hown lk2 lk3 lk4 lk5 (Nat.le_of_ble_eq_true rfl) (Nat.le_of_ble_eq_true rfl) (Nat.zero_le _) (Nat.zero_le _) dX1_limitSwell_53 ?_
          refine top_eq (nI_min (by omega) (by omega)) ?_
          refine nv_iast hx hb hK hP hD hS 3 rfl (by omega) (by decide) dX1_limitSwell_56 (fun H locs hP hD hS => ?_)
          have hP : va_P D vwCl [(l0, .inr (1, [.int (nI nm), .ref l1, .ref l2, .ref l3, .ref l4, .ref l5, .ref l6, .ref l7, .int (nI np)])), (l1, .inl (cI, 64, .inl (nF P))), (l2, .inl (cI, 64, .inl (nF Y))), (l3, .inl (cI, 64, .inl (nF (va_up V2 (q (j + 1)) (min (V2 (q (j + 1))) ((V2 (q j)) + sw)))))), (l4, .inl (cI, 64, .inl (nF F))), (l5, .inl (cI, 64, .inl (nF L))), (l6, .inl (cI, 64, .inl (nF Z))), (l7, .inl (cI, 64, .inl (nF X)))] H := hP
          have hD : va_D A [(l0, .inr (1, [.int (nI nm), .ref l1, .ref l2, .ref l3, .ref l4, .ref l5, .ref l6, .ref l7, .int (nI np)])), (l1, .inl (cI, 64, .inl (nF P))), (l2, .inl (cI, 64, .inl (nF Y))), (l3, .inl (cI, 64, .inl (nF (va_up V2 (q (j + 1)) (min (V2 (q (j + 1))) ((V2 (q j)) + sw)))))), (l4, .inl (cI, 64, .inl (nF F))), (l5, .inl (cI, 64, .inl (nF L))), (l6, .inl (cI, 64, .inl (nF Z))), (l7, .inl (cI, 64, .inl (nF X)))] := hD
          refine lv_iload hx hb dX1_limitSwell_57 (lv_at hl 0 rfl) ?_
          refine lv_istore (lv' := [(4, .int (nI (q (j + 1)))), (6, .int (nI (q (j + 1)))), (0, .ref l0), (1, .int (nI (q 0))), (2, .int ((-1))), (3, .int (nI sw)), (5, .int (nI (j + 1)))]) hx hb dX1_limitSwell_59 hl (by decide) rfl (fun ls hl => ?_)
          refine lv_iinc (v := nI (j + 1 + 1)) (lv' := [(5, .int (nI (j + 1 + 1))), (4, .int (nI (q (j + 1)))), (6, .int (nI (q (j + 1)))), (0, .ref l0), (1, .int (nI (q 0))), (2, .int ((-1))), (3, .int (nI sw))]) hx hb dX1_limitSwell_61 hl (k := 6) rfl (by exact nI_add _ 1) (by decide) rfl (fun ls hl => ?_)
          refine lv_goto (tgt := 6) hx hb dX1_limitSwell_64 (by decide) ?_
          exact ih6 (j + 1) (va_up V2 (q (j + 1)) (min (V2 (q (j + 1))) ((V2 (q j)) + sw))) (by omega) (by omega) (by
            intro i hi
            rcases Nat.lt_or_ge j i with z | z
            · rw [show i = j + 1 by omega, up_s, le1, hva j (by omega), hvc (q (j + 1)) (fun i hi e => by have := hqi (j + 1) i hj1 (by omega) e; omega)]
            · rw [up_n _ _ (fun e => by have := hqi i (j + 1) (by omega) hj1 e; omega)]; exact hva i z) (by
            intro d hd
            rw [up_n _ _ (hd (j + 1) (by omega))]
            exact hvc d (fun i hi => hd i (by omega))) (by
            intro k hk
            unfold va_up
            split
            · omega
            · exact hvb k hk) _ _ _ hP hD hS (lv_sub hl [3, 4, 5, 6, 1, 0] rfl)
        · skip
          have hjL : j = Ln - 1 := by
            rcases Nat.lt_or_ge (j + 1) Ln with z | z
            · have z1 := hqs j z
              have z2 := hq (j + 1) z
              omega
            · omega
          refine lv_goto (tgt := 67) hx hb dX1_limitSwell_28 (by decide) ?_
          refine lv_iload hx hb dX1_limitSwell_67 (lv_at hl 5 rfl) ?_
          exact hret _ _ _ _ _ _ dX1_limitSwell_69 (⟨by rw [hjL], by intro i hi; exact hva i (by omega), by intro d hd; exact hvc d (fun i hi => hd i (by omega)), hvb⟩) hP hD hS
  exact L6 (8 + 1) 0 V (by omega) (by omega) (by intro i hi; rw [show i = 0 by omega]; rfl) (fun _ _ => rfl) hV _ _ _ hP hD hS (lv_sub hl [2, 3, 4, 5, 1, 0] rfl)

set_option maxHeartbeats 4000000 in
set_option maxRecDepth 100000 in
theorem c_X1_greatestWidthFrom (l : Launch) (D : va_G) (cI cZ : ClassId) (tt : Nat → Nat) (sz : Nat) (l0 l1 l2 l3 l4 l5 l6 l7 : Nat) (nm np : Nat) (P Y V F L Z X : Nat → Nat) (p y : Nat → Nat) (c : Nat) (hPp : ∀ k, k < 64 → P k = p k) (hYy : ∀ k, k < 64 → Y k = y k) (hp : ∀ k, p k ≤ 100) (hy : ∀ k, y k < 4) (hV : ∀ k, k < 64 → V k ≤ 100) (hc : c < 64) (hc0 : ¬ p c = 0) : MI l yX1_greatestWidthFrom wsX1_greatestWidthFrom ({ frames := 2, cells := 0, slots := 0, locals := 47 } : Room) D cI cZ tt [.ref l0, .int (nI c)] [(l0, .inr (1, [.int (nI nm), .ref l1, .ref l2, .ref l3, .ref l4, .ref l5, .ref l6, .ref l7, .int (nI np)])), (l1, .inl (cI, 64, .inl (nF P))), (l2, .inl (cI, 64, .inl (nF Y))), (l3, .inl (cI, 64, .inl (nF V))), (l4, .inl (cI, 64, .inl (nF F))), (l5, .inl (cI, 64, .inl (nF L))), (l6, .inl (cI, 64, .inl (nF Z))), (l7, .inl (cI, 64, .inl (nF X)))] sz (fun (r : Int32) (_ : Unit) => r = nI (mxf (fun i => V (ch p y c i)) (ln p y c))) (fun (_ : Unit) => [(l0, .inr (1, [.int (nI nm), .ref l1, .ref l2, .ref l3, .ref l4, .ref l5, .ref l6, .ref l7, .int (nI np)])), (l1, .inl (cI, 64, .inl (nF P))), (l2, .inl (cI, 64, .inl (nF Y))), (l3, .inl (cI, 64, .inl (nF V))), (l4, .inl (cI, 64, .inl (nF F))), (l5, .inl (cI, 64, .inl (nF L))), (l6, .inl (cI, 64, .inl (nF Z))), (l7, .inl (cI, 64, .inl (nF X)))]) := by
  refine entI (cc := cX1_greatestWidthFrom) 5 (by decide) rfl (Nat.le_of_ble_eq_true rfl) (Or.inl rfl) (fun pr e s m args below meth c0 A Q H ls hx hb hml hown hts hsz hA hP hK hD hS hG hret hl => ?_)
  have hown : s.vm.findClass RX1 = some m.cls := hown
  have lk1 := hts (.fieldLink RX1 18 "BurinLines$Layer" "widths" "[I") (by decide +kernel)
  have lk2 := hts (.methodLink RX1 100 Lib.Math.max.name) (by decide +kernel)
  have lk3 := hts (.static Lib.Math.max.name) (by decide +kernel)
  have lk4 := hts (.initialized "java/lang/Math") (by decide +kernel)
  have lk5 := hts (.code Lib.Math.max.name Lib.Math.max.code 2 (some .int)) (by decide +kernel)
  have hinX1 : ∀ w ∈ wsX10, w ∈ wsX1_greatestWidthFrom := by decide +kernel
  have hl : lv_has ls 5 [(0, .ref l0), (1, .int (nI c))] := hl
  have hln := ln_spec (Y := y) hc hc0
  refine lv_iconst (v := nI 0) hx hb dX1_greatestWidthFrom_0 (by decide) ?_
  refine lv_istore_n (lv' := [(2, .int (nI 0)), (0, .ref l0), (1, .int (nI c))]) hx hb dX1_greatestWidthFrom_1 rfl hl (by decide) rfl (fun ls hl => ?_)
  have hrc : rI c = nI c := rI_some (by omega)
  refine lv_iload_n hx hb dX1_greatestWidthFrom_2 rfl (lv_at hl 2 rfl) ?_
  refine lv_istore_n (lv' := [(3, .int (nI c)), (2, .int (nI 0)), (0, .ref l0), (1, .int (nI c))]) hx hb dX1_greatestWidthFrom_3 rfl hl (by decide) rfl (fun ls hl => ?_)
  refine lv_iconst (v := nI 0) hx hb dX1_greatestWidthFrom_4 (by decide) ?_
  refine lv_istore (lv' := [(4, .int (nI 0)), (3, .int (nI c)), (2, .int (nI 0)), (0, .ref l0), (1, .int (nI c))]) hx hb dX1_greatestWidthFrom_5 hl (by decide) rfl (fun ls hl => ?_)
  have L7 : ∀ (n : Nat) (j : Nat) (gm : Nat), 8 - j < n → (j ≤ ln p y c) → (gm = mxf (fun i => V (ch p y c i)) j) → (gm ≤ 100) → (ch p y c j ≤ 64) → ∀ (H : Heap) (locs : List Loc) (ls : Array Slot), va_P D vwCl [(l0, .inr (1, [.int (nI nm), .ref l1, .ref l2, .ref l3, .ref l4, .ref l5, .ref l6, .ref l7, .int (nI np)])), (l1, .inl (cI, 64, .inl (nF P))), (l2, .inl (cI, 64, .inl (nF Y))), (l3, .inl (cI, 64, .inl (nF V))), (l4, .inl (cI, 64, .inl (nF F))), (l5, .inl (cI, 64, .inl (nF L))), (l6, .inl (cI, 64, .inl (nF Z))), (l7, .inl (cI, 64, .inl (nF X)))] H → va_D A [(l0, .inr (1, [.int (nI nm), .ref l1, .ref l2, .ref l3, .ref l4, .ref l5, .ref l6, .ref l7, .int (nI np)])), (l1, .inl (cI, 64, .inl (nF P))), (l2, .inl (cI, 64, .inl (nF Y))), (l3, .inl (cI, 64, .inl (nF V))), (l4, .inl (cI, 64, .inl (nF F))), (l5, .inl (cI, 64, .inl (nF L))), (l6, .inl (cI, 64, .inl (nF Z))), (l7, .inl (cI, 64, .inl (nF X)))] → va_S A s.heap H locs → lv_has ls 5 [(0, .ref l0), (1, .int (nI c)), (2, .int (nI gm)), (3, .int (rI (ch p y c j))), (4, .int (nI j))] → W pr l e ({ frames := 2, cells := 0, slots := 0, locals := 47 } : Room) s m args below meth c0 H locs 0 0 Q (F0 m 7 ls []) := by
    intro n
    induction n with
    | zero => intro j gm h0; exact absurd h0 (Nat.not_lt_zero _)
    | succ n ih7 =>
      intro j gm hm7 hj hgm hgb hcl H locs ls hP hD hS hl
      refine lv_iload hx hb dX1_greatestWidthFrom_7 (lv_at hl 4 rfl) ?_
      refine lv_bipush (v := nI 8) hx hb dX1_greatestWidthFrom_9 (by decide) ?_
      refine nv_icmp_ge (tgt := 43) hx hb dX1_greatestWidthFrom_11 (by decide) (by omega) (by omega) (fun c_1 => ?_) (fun c_1 => ?_)
      · skip
        have hjL : j = ln p y c := by omega
        refine lv_iload_n hx hb dX1_greatestWidthFrom_43 rfl (lv_at hl 2 rfl) ?_
        exact hret _ () _ _ _ _ dX1_greatestWidthFrom_44 (by rw [hgm, hjL]) hP hD hS
      · skip
        refine lv_iload_n hx hb dX1_greatestWidthFrom_14 rfl (lv_at hl 3 rfl) ?_
        refine lv_iconst (v := (-1)) hx hb dX1_greatestWidthFrom_15 (by decide) ?_
        refine nv_req (tgt := 43) hx hb dX1_greatestWidthFrom_16 (by decide) hcl (fun c_2 => ?_) (fun c_2 => ?_)
        · skip
          have hjL : j = ln p y c := by
            rcases Nat.lt_or_ge j (ln p y c) with z | z
            · have := (hln.2.2.2 j z).1
              omega
            · omega
          refine lv_iload_n hx hb dX1_greatestWidthFrom_43 rfl (lv_at hl 2 rfl) ?_
          exact hret _ () _ _ _ _ dX1_greatestWidthFrom_44 (by rw [hgm, hjL]) hP hD hS
        · skip
          rw [rI_some c_2] at hl
          have hjl : j < ln p y c := by
            rcases Nat.lt_or_ge j (ln p y c) with z | z
            · exact z
            · refine absurd ?_ c_2
              rw [show j = (ln p y c - 1) + 1 by omega]
              exact hln.2.2.1
          have hc64 := (hln.2.2.2 j hjl).1
          have bv := hV (ch p y c j) hc64
          refine lv_iload_n hx hb dX1_greatestWidthFrom_19 rfl (lv_at hl 2 rfl) ?_
          refine lv_aload_n hx hb dX1_greatestWidthFrom_20 rfl (lv_at hl 0 rfl) ?_
          refine va_get (D := D) (ci := 1) (v := .ref l3) (C := RX1) (T := TX1) (N := 9) hx hb hts hinX1 hown hK hP 0 rfl rfl 3 (by decide) lk1 (fun _ h9 => h9) rfl dX1_greatestWidthFrom_21 ?_
          refine lv_iload_n hx hb dX1_greatestWidthFrom_24 rfl (lv_at hl 3 rfl) ?_
          refine nv_iald hx hb hK hP 3 rfl (by omega) (by decide) dX1_greatestWidthFrom_25 ?_
          refine va_mmax hx hb (by rw [hml]; exact hl.1.symm) hown lk2 lk3 lk4 lk5 (Nat.le_of_ble_eq_true rfl) (Nat.le_of_ble_eq_true rfl) (Nat.zero_le _) (Nat.zero_le _) dX1_greatestWidthFrom_26 ?_
          refine top_eq (nI_max (by omega) (by omega)) ?_
          refine lv_istore_n (lv' := [(2, .int (nI (max gm (V (ch p y c j))))), (0, .ref l0), (1, .int (nI c)), (3, .int (nI (ch p y c j))), (4, .int (nI j))]) hx hb dX1_greatestWidthFrom_29 rfl hl (by decide) rfl (fun ls hl => ?_)
          refine lv_aload_n hx hb dX1_greatestWidthFrom_30 rfl (lv_at hl 1 rfl) ?_
          refine lv_iload_n hx hb dX1_greatestWidthFrom_31 rfl (lv_at hl 3 rfl) ?_
          refine lv_iconst (v := nI 1) hx hb dX1_greatestWidthFrom_32 (by decide) ?_
          refine gcVi (ws' := fun _ => [(l0, .inr (1, [.int (nI nm), .ref l1, .ref l2, .ref l3, .ref l4, .ref l5, .ref l6, .ref l7, .int (nI np)])), (l1, .inl (cI, 64, .inl (nF P))), (l2, .inl (cI, 64, .inl (nF Y))), (l3, .inl (cI, 64, .inl (nF V))), (l4, .inl (cI, 64, .inl (nF F))), (l5, .inl (cI, 64, .inl (nF L))), (l6, .inl (cI, 64, .inl (nF Z))), (l7, .inl (cI, 64, .inl (nF X)))]) (wr := []) (ci := 1) (q0 := 0) (As := [.int (nI (ch p y c j)), .int (nI 1)]) (rest := []) ⟨hx, hb, hml, hown, hts⟩ (c_X1_tiedTo_on l D cI cZ tt H.size l0 l1 l2 l3 l4 l5 l6 l7 nm np P Y V F L Z X p y (ch p y c j) (by first | assumption | omega) (by first | assumption | omega) (by first | assumption | omega) (by first | assumption | omega) (by exact hc64)) (cwV 2 hts gX1_greatestWidthFrom_X1_tiedTo rfl rfl rfl (by decide +kernel) ⟨Nat.le_of_ble_eq_true rfl, Nat.le_of_ble_eq_true rfl⟩) hP hK hD hS hA hG rfl rfl [0, 1, 2, 3, 4, 5, 6, 7] [] [0, 1, 2, 3, 4, 5, 6, 7] (by decide) rfl rfl (by decide) (by decide) (by decide) (fun _ => rfl) hl.1 rfl rfl (Nat.le_of_ble_eq_true rfl) ⟨Nat.zero_le _, Nat.zero_le _⟩ dX1_greatestWidthFrom_33 (fun r u H locs hp hP hD hS => ?_)
          obtain rfl := hp
          have hP : va_P D vwCl [(l0, .inr (1, [.int (nI nm), .ref l1, .ref l2, .ref l3, .ref l4, .ref l5, .ref l6, .ref l7, .int (nI np)])), (l1, .inl (cI, 64, .inl (nF P))), (l2, .inl (cI, 64, .inl (nF Y))), (l3, .inl (cI, 64, .inl (nF V))), (l4, .inl (cI, 64, .inl (nF F))), (l5, .inl (cI, 64, .inl (nF L))), (l6, .inl (cI, 64, .inl (nF Z))), (l7, .inl (cI, 64, .inl (nF X)))] H := hP
          have hD : va_D A [(l0, .inr (1, [.int (nI nm), .ref l1, .ref l2, .ref l3, .ref l4, .ref l5, .ref l6, .ref l7, .int (nI np)])), (l1, .inl (cI, 64, .inl (nF P))), (l2, .inl (cI, 64, .inl (nF Y))), (l3, .inl (cI, 64, .inl (nF V))), (l4, .inl (cI, 64, .inl (nF F))), (l5, .inl (cI, 64, .inl (nF L))), (l6, .inl (cI, 64, .inl (nF Z))), (l7, .inl (cI, 64, .inl (nF X)))] := hD
          refine lv_istore_n (lv' := [(3, .int (rI (tn p y (ch p y c j)))), (2, .int (nI (max gm (V (ch p y c j))))), (0, .ref l0), (1, .int (nI c)), (4, .int (nI j))]) hx hb dX1_greatestWidthFrom_36 rfl hl (by decide) rfl (fun ls hl => ?_)
          refine lv_iinc (v := nI (j + 1)) (lv' := [(4, .int (nI (j + 1))), (3, .int (rI (tn p y (ch p y c j)))), (2, .int (nI (max gm (V (ch p y c j))))), (0, .ref l0), (1, .int (nI c))]) hx hb dX1_greatestWidthFrom_37 hl (k := 4) rfl (by exact nI_add _ 1) (by decide) rfl (fun ls hl => ?_)
          refine lv_goto (tgt := 7) hx hb dX1_greatestWidthFrom_40 (by decide) ?_
          exact ih7 (j + 1) (max gm (V (ch p y c j))) (by omega) (by omega) (by rw [mxf, hgm]) (by omega) (tn_le _ _ _) _ _ _ hP hD hS (lv_sub hl [3, 4, 2, 1, 0] rfl)
  exact L7 (8 + 1) 0 0 (by omega) (by omega) rfl (by omega) (by show c ≤ 64; omega) _ _ _ hP hD hS (lv_sub hl [3, 4, 2, 1, 0] (by rw [show rI (ch p y c 0) = nI c from hrc]; rfl))
