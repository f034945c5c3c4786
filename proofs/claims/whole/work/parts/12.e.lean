set_option maxHeartbeats 4000000 in
set_option maxRecDepth 100000 in
theorem c_X1_addPath (l : Launch) (D : va_G) (cI cZ : ClassId) (tt : Nat → Nat) (sz : Nat) (l0 l1 l2 l3 l4 l5 l6 l7 : Nat) (nm np : Nat) (P Y V F L Z X : Nat → Nat) (p y : Nat → Nat) (sw c : Nat) (hPp : ∀ k, k < 64 → P k = p k) (hYy : ∀ k, k < 64 → Y k = y k) (hp : ∀ k, p k ≤ 100) (hy : ∀ k, y k < 4) (hV : ∀ k, k < 64 → V k ≤ 100) (hsw : sw ≤ 100) (hc : c < 64) (hb2 : bgn p y c) (hnp : np < 64) (hfresh : ∀ j, j < ln p y c → V (ch p y c j) = p (ch p y c j)) : MV l yX1_addPath wsX1_addPath ({ frames := 3, cells := 0, slots := 0, locals := 73 } : Room) D cI cZ tt [.ref l0, .int (nI c), .int (nI sw)] [(l0, .inr (1, [.int (nI nm), .ref l1, .ref l2, .ref l3, .ref l4, .ref l5, .ref l6, .ref l7, .int (nI np)])), (l1, .inl (cI, 64, .inl (nF P))), (l2, .inl (cI, 64, .inl (nF Y))), (l3, .inl (cI, 64, .inl (nF V))), (l4, .inl (cI, 64, .inl (nF F))), (l5, .inl (cI, 64, .inl (nF L))), (l6, .inl (cI, 64, .inl (nF Z))), (l7, .inl (cI, 64, .inl (nF X)))] sz 0 0 (fun (u : (Nat → Nat) × (Nat → Nat) × (Nat → Nat) × (Nat → Nat) × (Nat → Nat)) => (okP p y sw c u.1) ∧ (∀ d, (∀ j, j < ln p y c → d ≠ ch p y c j) → u.1 d = V d) ∧ (∀ k, k < 64 → u.1 k ≤ 100) ∧ (u.2.1 = va_up F np c) ∧ (u.2.2.1 = va_up L np (ch p y c (ln p y c - 1))) ∧ (u.2.2.2.1 = va_up Z np (ln p y c)) ∧ (u.2.2.2.2 = va_up X np (mxf (wdt p y sw c) (ln p y c)))) (fun (u : (Nat → Nat) × (Nat → Nat) × (Nat → Nat) × (Nat → Nat) × (Nat → Nat)) => [(l0, .inr (1, [.int (nI nm), .ref l1, .ref l2, .ref l3, .ref l4, .ref l5, .ref l6, .ref l7, .int (nI (np + 1))])), (l1, .inl (cI, 64, .inl (nF P))), (l2, .inl (cI, 64, .inl (nF Y))), (l3, .inl (cI, 64, .inl (nF u.1))), (l4, .inl (cI, 64, .inl (nF u.2.1))), (l5, .inl (cI, 64, .inl (nF u.2.2.1))), (l6, .inl (cI, 64, .inl (nF u.2.2.2.1))), (l7, .inl (cI, 64, .inl (nF u.2.2.2.2)))]) := by
  refine entV (cc := cX1_addPath) 4 (by decide) rfl (Nat.le_of_ble_eq_true rfl) (fun pr e s m args below meth c0 A Q H ls hx hb hml hown hts hin hsz hA hP hK hD hS hG hret hl => ?_)
  have hown : s.vm.findClass RX1 = some m.cls := hown
  have lk1 := hts (.fieldLink RX1 55 "BurinLines$Layer" "pathCount" "I") (by decide +kernel)
  have lk2 := hts (.fieldLink RX1 21 "BurinLines$Layer" "firsts" "[I") (by decide +kernel)
  have lk3 := hts (.fieldLink RX1 24 "BurinLines$Layer" "lasts" "[I") (by decide +kernel)
  have lk4 := hts (.fieldLink RX1 27 "BurinLines$Layer" "lengths" "[I") (by decide +kernel)
  have lk5 := hts (.initialized RX4) (by decide +kernel)
  have lk6 := hts (.static yX4_wayBetween) (by decide +kernel)
  have lk7 := hts (.fieldLink RX1 30 "BurinLines$Layer" "greatestWidths" "[I") (by decide +kernel)
  have hinX1 : ∀ w ∈ wsX10, w ∈ wsX1_addPath := by decide +kernel
  have hl : lv_has ls 4 [(0, .ref l0), (1, .int (nI c)), (2, .int (nI sw))] := hl
  have hln := ln_spec (Y := y) hc hb2.1
  have hbk : ∀ i, i + 1 < ln p y c → tp p y (ch p y c (ln p y c - 1 - i)) = ch p y c (ln p y c - 1 - (i + 1)) := by
    intro i hi
    rw [show ln p y c - 1 - i = (ln p y c - 1 - (i + 1)) + 1 by omega]
    exact ch_back hc hb2.1 (by omega)
  refine lv_aload_n hx hb dX1_addPath_0 rfl (lv_at hl 0 rfl) ?_
  refine va_get (D := D) (ci := 1) (v := .int (nI np)) (C := RX1) (T := TX1) (N := 9) hx hb hts hinX1 hown hK hP 0 rfl rfl 8 (by decide) lk1 (fun _ h9 => h9) rfl dX1_addPath_1 ?_
  refine lv_bipush (v := nI 64) hx hb dX1_addPath_4 (by decide) ?_
  refine nv_icmp_lt (tgt := 10) hx hb dX1_addPath_6 (by decide) (by omega) (by omega) (fun c_1 => ?_) (fun c_1 => ?_)
  · skip
    refine lv_aload_n hx hb dX1_addPath_10 rfl (lv_at hl 0 rfl) ?_
    refine lv_iload_n hx hb dX1_addPath_11 rfl (lv_at hl 1 rfl) ?_
    refine lv_iconst (v := nI 1) hx hb dX1_addPath_12 (by decide) ?_
    refine lv_iload_n hx hb dX1_addPath_13 rfl (lv_at hl 2 rfl) ?_
    refine gcVi (ws' := fun (u : (Nat → Nat)) => [(l0, .inr (1, [.int (nI nm), .ref l1, .ref l2, .ref l3, .ref l4, .ref l5, .ref l6, .ref l7, .int (nI np)])), (l1, .inl (cI, 64, .inl (nF P))), (l2, .inl (cI, 64, .inl (nF Y))), (l3, .inl (cI, 64, .inl (nF u))), (l4, .inl (cI, 64, .inl (nF F))), (l5, .inl (cI, 64, .inl (nF L))), (l6, .inl (cI, 64, .inl (nF Z))), (l7, .inl (cI, 64, .inl (nF X)))]) (wr := []) (ci := 1) (q0 := 0) (As := [.int (nI c), .int (nI 1), .int (nI sw)]) (rest := []) ⟨hx, hb, hml, hown, hts⟩ (c_X1_limitSwell_on l D cI cZ tt H.size l0 l1 l2 l3 l4 l5 l6 l7 nm np P Y V F L Z X p y sw (ln p y c) (ch p y c) (by first | assumption | omega) (by first | assumption | omega) (by first | assumption | omega) (by first | assumption | omega) (by first | assumption | omega) (by first | assumption | omega) (by exact hln.1) (by exact hln.2.1) (by exact fun i hi => (hln.2.2.2 i hi).1) (by exact fun i hi => rfl) (by exact hln.2.2.1) (by exact fun i j hi hj e => ch_inj hc hb2.1 hi hj e)) (cwV 3 hts gX1_addPath_X1_limitSwell rfl rfl rfl (by decide +kernel) ⟨Nat.le_of_ble_eq_true rfl, Nat.le_of_ble_eq_true rfl⟩) hP hK hD hS hA hG rfl rfl [0, 1, 2, 3, 4, 5, 6, 7] [] [0, 1, 2, 3, 4, 5, 6, 7] (by decide) rfl rfl (by decide) (by decide) (by decide) (fun _ => rfl) hl.1 rfl rfl (Nat.le_of_ble_eq_true rfl) ⟨Nat.zero_le _, Nat.zero_le _⟩ dX1_addPath_14 (fun r u H locs hp hP hD hS => ?_)
    obtain ⟨V2_2, rfl⟩ : ∃ z, z = u := ⟨_, rfl⟩
    obtain ⟨rfl, hv1_3, hv2_4, hv3_5⟩ := hp
    have hv1_3 : ∀ i, i < (ln p y c) → V2_2 ((ch p y c) i) = le1 V sw (ch p y c) i := hv1_3
    have hv2_4 : ∀ d, (∀ i, i < (ln p y c) → d ≠ (ch p y c) i) → V2_2 d = V d := hv2_4
    have hv3_5 : ∀ k, k < 64 → V2_2 k ≤ 100 := hv3_5
    have hP : va_P D vwCl [(l0, .inr (1, [.int (nI nm), .ref l1, .ref l2, .ref l3, .ref l4, .ref l5, .ref l6, .ref l7, .int (nI np)])), (l1, .inl (cI, 64, .inl (nF P))), (l2, .inl (cI, 64, .inl (nF Y))), (l3, .inl (cI, 64, .inl (nF V2_2))), (l4, .inl (cI, 64, .inl (nF F))), (l5, .inl (cI, 64, .inl (nF L))), (l6, .inl (cI, 64, .inl (nF Z))), (l7, .inl (cI, 64, .inl (nF X)))] H := hP
    have hD : va_D A [(l0, .inr (1, [.int (nI nm), .ref l1, .ref l2, .ref l3, .ref l4, .ref l5, .ref l6, .ref l7, .int (nI np)])), (l1, .inl (cI, 64, .inl (nF P))), (l2, .inl (cI, 64, .inl (nF Y))), (l3, .inl (cI, 64, .inl (nF V2_2))), (l4, .inl (cI, 64, .inl (nF F))), (l5, .inl (cI, 64, .inl (nF L))), (l6, .inl (cI, 64, .inl (nF Z))), (l7, .inl (cI, 64, .inl (nF X)))] := hD
    have hfw : ∀ i, i < ln p y c → V2_2 (ch p y c i) = fw p y sw c i := by
      intro i hi
      rw [hv1_3 i hi]
      exact le1_cong (fun k hk => hfresh k (by omega))
    refine lv_istore_n (lv' := [(3, .int (nI ((ch p y c) ((ln p y c) - 1)))), (0, .ref l0), (1, .int (nI c)), (2, .int (nI sw))]) hx hb dX1_addPath_17 rfl hl (by decide) rfl (fun ls hl => ?_)
    refine lv_aload_n hx hb dX1_addPath_18 rfl (lv_at hl 1 rfl) ?_
    refine lv_iload_n hx hb dX1_addPath_19 rfl (lv_at hl 0 rfl) ?_
    refine lv_iconst (v := (-1)) hx hb dX1_addPath_20 (by decide) ?_
    refine lv_iload_n hx hb dX1_addPath_21 rfl (lv_at hl 3 rfl) ?_
    refine gcVi (ws' := fun (u : (Nat → Nat)) => [(l0, .inr (1, [.int (nI nm), .ref l1, .ref l2, .ref l3, .ref l4, .ref l5, .ref l6, .ref l7, .int (nI np)])), (l1, .inl (cI, 64, .inl (nF P))), (l2, .inl (cI, 64, .inl (nF Y))), (l3, .inl (cI, 64, .inl (nF u))), (l4, .inl (cI, 64, .inl (nF F))), (l5, .inl (cI, 64, .inl (nF L))), (l6, .inl (cI, 64, .inl (nF Z))), (l7, .inl (cI, 64, .inl (nF X)))]) (wr := []) (ci := 1) (q0 := 0) (As := [.int (nI ((ch p y c) ((ln p y c) - 1))), .int ((-1)), .int (nI sw)]) (rest := []) ⟨hx, hb, hml, hown, hts⟩ (c_X1_limitSwell_back l D cI cZ tt H.size l0 l1 l2 l3 l4 l5 l6 l7 nm np P Y V2_2 F L Z X p y sw (ln p y c) (fun i => ch p y c (ln p y c - 1 - i)) (by first | assumption | omega) (by first | assumption | omega) (by first | assumption | omega) (by first | assumption | omega) (by assumption) (by first | assumption | omega) (by exact hln.1) (by exact hln.2.1) (by exact fun i hi => (hln.2.2.2 (ln p y c - 1 - i) (by omega)).1) (by exact hbk) (by show tp p y (ch p y c (ln p y c - 1 - (ln p y c - 1))) = 64; rw [Nat.sub_self]; exact hb2.2) (by exact fun i j hi hj e => by have := ch_inj hc hb2.1 (i := ln p y c - 1 - i) (j := ln p y c - 1 - j) (by omega) (by omega) e; omega)) (cwV 3 hts gX1_addPath_X1_limitSwell rfl rfl rfl (by decide +kernel) ⟨Nat.le_of_ble_eq_true rfl, Nat.le_of_ble_eq_true rfl⟩) hP hK hD hS hA hG rfl rfl [0, 1, 2, 3, 4, 5, 6, 7] [] [0, 1, 2, 3, 4, 5, 6, 7] (by decide) rfl rfl (by decide) (by decide) (by decide) (fun _ => rfl) hl.1 rfl rfl (Nat.le_of_ble_eq_true rfl) ⟨Nat.zero_le _, Nat.zero_le _⟩ dX1_addPath_22 (fun r u H locs hp hP hD hS => ?_)
    obtain ⟨V2_6, rfl⟩ : ∃ z, z = u := ⟨_, rfl⟩
    obtain ⟨rfl, hv1_7, hv2_8, hv3_9⟩ := hp
    have hv1_7 : ∀ i, i < (ln p y c) → V2_6 ((fun i => ch p y c (ln p y c - 1 - i)) i) = le1 V2_2 sw (fun i => ch p y c (ln p y c - 1 - i)) i := hv1_7
    have hv2_8 : ∀ d, (∀ i, i < (ln p y c) → d ≠ (fun i => ch p y c (ln p y c - 1 - i)) i) → V2_6 d = V2_2 d := hv2_8
    have hv3_9 : ∀ k, k < 64 → V2_6 k ≤ 100 := hv3_9
    have hP : va_P D vwCl [(l0, .inr (1, [.int (nI nm), .ref l1, .ref l2, .ref l3, .ref l4, .ref l5, .ref l6, .ref l7, .int (nI np)])), (l1, .inl (cI, 64, .inl (nF P))), (l2, .inl (cI, 64, .inl (nF Y))), (l3, .inl (cI, 64, .inl (nF V2_6))), (l4, .inl (cI, 64, .inl (nF F))), (l5, .inl (cI, 64, .inl (nF L))), (l6, .inl (cI, 64, .inl (nF Z))), (l7, .inl (cI, 64, .inl (nF X)))] H := hP
    have hD : va_D A [(l0, .inr (1, [.int (nI nm), .ref l1, .ref l2, .ref l3, .ref l4, .ref l5, .ref l6, .ref l7, .int (nI np)])), (l1, .inl (cI, 64, .inl (nF P))), (l2, .inl (cI, 64, .inl (nF Y))), (l3, .inl (cI, 64, .inl (nF V2_6))), (l4, .inl (cI, 64, .inl (nF F))), (l5, .inl (cI, 64, .inl (nF L))), (l6, .inl (cI, 64, .inl (nF Z))), (l7, .inl (cI, 64, .inl (nF X)))] := hD
    have hok : okP p y sw c V2_6 := by
      intro j hj
      have e := hv1_7 (ln p y c - 1 - j) (by omega)
      dsimp only at e
      rw [show ln p y c - 1 - (ln p y c - 1 - j) = j by omega] at e
      rw [e, le1_bk hfw (by omega)]
      rfl
    have hoth : ∀ d, (∀ j, j < ln p y c → d ≠ ch p y c j) → V2_6 d = V d := by
      intro d hd
      rw [hv2_8 d (fun i hi => hd _ (by omega)), hv2_4 d hd]
    have hbnd := hv3_9
    refine lv_pop hx hb dX1_addPath_25 rfl ?_
    refine lv_aload_n hx hb dX1_addPath_26 rfl (lv_at hl 1 rfl) ?_
    refine va_get (D := D) (ci := 1) (v := .ref l4) (C := RX1) (T := TX1) (N := 9) hx hb hts hinX1 hown hK hP 0 rfl rfl 4 (by decide) lk2 (fun _ h9 => h9) rfl dX1_addPath_27 ?_
    refine lv_aload_n hx hb dX1_addPath_30 rfl (lv_at hl 1 rfl) ?_
    refine va_get (D := D) (ci := 1) (v := .int (nI np)) (C := RX1) (T := TX1) (N := 9) hx hb hts hinX1 hown hK hP 0 rfl rfl 8 (by decide) lk1 (fun _ h9 => h9) rfl dX1_addPath_31 ?_
    refine lv_iload_n hx hb dX1_addPath_34 rfl (lv_at hl 2 rfl) ?_
    refine nv_iast hx hb hK hP hD hS 4 rfl (by omega) (by decide) dX1_addPath_35 (fun H locs hP hD hS => ?_)
    have hP : va_P D vwCl [(l0, .inr (1, [.int (nI nm), .ref l1, .ref l2, .ref l3, .ref l4, .ref l5, .ref l6, .ref l7, .int (nI np)])), (l1, .inl (cI, 64, .inl (nF P))), (l2, .inl (cI, 64, .inl (nF Y))), (l3, .inl (cI, 64, .inl (nF V2_6))), (l4, .inl (cI, 64, .inl (nF (va_up F np c)))), (l5, .inl (cI, 64, .inl (nF L))), (l6, .inl (cI, 64, .inl (nF Z))), (l7, .inl (cI, 64, .inl (nF X)))] H := hP
    have hD : va_D A [(l0, .inr (1, [.int (nI nm), .ref l1, .ref l2, .ref l3, .ref l4, .ref l5, .ref l6, .ref l7, .int (nI np)])), (l1, .inl (cI, 64, .inl (nF P))), (l2, .inl (cI, 64, .inl (nF Y))), (l3, .inl (cI, 64, .inl (nF V2_6))), (l4, .inl (cI, 64, .inl (nF (va_up F np c)))), (l5, .inl (cI, 64, .inl (nF L))), (l6, .inl (cI, 64, .inl (nF Z))), (l7, .inl (cI, 64, .inl (nF X)))] := hD
    refine lv_aload_n hx hb dX1_addPath_36 rfl (lv_at hl 1 rfl) ?_
    refine va_get (D := D) (ci := 1) (v := .ref l5) (C := RX1) (T := TX1) (N := 9) hx hb hts hinX1 hown hK hP 0 rfl rfl 5 (by decide) lk3 (fun _ h9 => h9) rfl dX1_addPath_37 ?_
    refine lv_aload_n hx hb dX1_addPath_40 rfl (lv_at hl 1 rfl) ?_
    refine va_get (D := D) (ci := 1) (v := .int (nI np)) (C := RX1) (T := TX1) (N := 9) hx hb hts hinX1 hown hK hP 0 rfl rfl 8 (by decide) lk1 (fun _ h9 => h9) rfl dX1_addPath_41 ?_
    refine lv_iload_n hx hb dX1_addPath_44 rfl (lv_at hl 0 rfl) ?_
    refine nv_iast hx hb hK hP hD hS 5 rfl (by omega) (by decide) dX1_addPath_45 (fun H locs hP hD hS => ?_)
    have hP : va_P D vwCl [(l0, .inr (1, [.int (nI nm), .ref l1, .ref l2, .ref l3, .ref l4, .ref l5, .ref l6, .ref l7, .int (nI np)])), (l1, .inl (cI, 64, .inl (nF P))), (l2, .inl (cI, 64, .inl (nF Y))), (l3, .inl (cI, 64, .inl (nF V2_6))), (l4, .inl (cI, 64, .inl (nF (va_up F np c)))), (l5, .inl (cI, 64, .inl (nF (va_up L np ((ch p y c) ((ln p y c) - 1)))))), (l6, .inl (cI, 64, .inl (nF Z))), (l7, .inl (cI, 64, .inl (nF X)))] H := hP
    have hD : va_D A [(l0, .inr (1, [.int (nI nm), .ref l1, .ref l2, .ref l3, .ref l4, .ref l5, .ref l6, .ref l7, .int (nI np)])), (l1, .inl (cI, 64, .inl (nF P))), (l2, .inl (cI, 64, .inl (nF Y))), (l3, .inl (cI, 64, .inl (nF V2_6))), (l4, .inl (cI, 64, .inl (nF (va_up F np c)))), (l5, .inl (cI, 64, .inl (nF (va_up L np ((ch p y c) ((ln p y c) - 1)))))), (l6, .inl (cI, 64, .inl (nF Z))), (l7, .inl (cI, 64, .inl (nF X)))] := hD
    refine lv_aload_n hx hb dX1_addPath_46 rfl (lv_at hl 1 rfl) ?_
    refine va_get (D := D) (ci := 1) (v := .ref l6) (C := RX1) (T := TX1) (N := 9) hx hb hts hinX1 hown hK hP 0 rfl rfl 6 (by decide) lk4 (fun _ h9 => h9) rfl dX1_addPath_47 ?_
    refine lv_aload_n hx hb dX1_addPath_50 rfl (lv_at hl 1 rfl) ?_
    refine va_get (D := D) (ci := 1) (v := .int (nI np)) (C := RX1) (T := TX1) (N := 9) hx hb hts hinX1 hown hK hP 0 rfl rfl 8 (by decide) lk1 (fun _ h9 => h9) rfl dX1_addPath_51 ?_
    refine lv_iload_n hx hb dX1_addPath_54 rfl (lv_at hl 2 rfl) ?_
    refine lv_iload_n hx hb dX1_addPath_55 rfl (lv_at hl 0 rfl) ?_
    refine gcSN (As := [.int (nI c), .int (nI ((ch p y c) ((ln p y c) - 1)))]) (rest := [.int (nI np), .ref l6]) ⟨hx, hb, hml, hown, hts⟩ (c_X4_wayBetween l c ((ch p y c) ((ln p y c) - 1)) (by first | assumption | omega) (by exact (hln.2.2.2 _ (by omega)).1)) (va_cnB 2 hts gX1_addPath_X4_wayBetween_n91 rfl rfl rfl (hG.1 (RX1, 91, yX4_wayBetween) (by decide +kernel)) lk5 (by decide +kernel) ⟨Nat.le_of_ble_eq_true rfl, Nat.le_of_ble_eq_true rfl⟩) lk6 hl.1 rfl rfl (Nat.le_of_ble_eq_true rfl) ⟨Nat.zero_le _, Nat.zero_le _⟩ dX1_addPath_56 ?_
    refine top_eq (congrArg nI (ch_fr hc hb2.1 (hy c) (show ln p y c - 1 < ln p y c by omega))) ?_
    refine lv_iconst (v := nI 1) hx hb dX1_addPath_59 (by decide) ?_
    refine nv_iadd hx hb dX1_addPath_60 ?_
    refine nv_iast hx hb hK hP hD hS 6 rfl (by omega) (by decide) dX1_addPath_61 (fun H locs hP hD hS => ?_)
    have hP : va_P D vwCl [(l0, .inr (1, [.int (nI nm), .ref l1, .ref l2, .ref l3, .ref l4, .ref l5, .ref l6, .ref l7, .int (nI np)])), (l1, .inl (cI, 64, .inl (nF P))), (l2, .inl (cI, 64, .inl (nF Y))), (l3, .inl (cI, 64, .inl (nF V2_6))), (l4, .inl (cI, 64, .inl (nF (va_up F np c)))), (l5, .inl (cI, 64, .inl (nF (va_up L np ((ch p y c) ((ln p y c) - 1)))))), (l6, .inl (cI, 64, .inl (nF (va_up Z np ((ln p y c - 1) + 1))))), (l7, .inl (cI, 64, .inl (nF X)))] H := hP
    have hD : va_D A [(l0, .inr (1, [.int (nI nm), .ref l1, .ref l2, .ref l3, .ref l4, .ref l5, .ref l6, .ref l7, .int (nI np)])), (l1, .inl (cI, 64, .inl (nF P))), (l2, .inl (cI, 64, .inl (nF Y))), (l3, .inl (cI, 64, .inl (nF V2_6))), (l4, .inl (cI, 64, .inl (nF (va_up F np c)))), (l5, .inl (cI, 64, .inl (nF (va_up L np ((ch p y c) ((ln p y c) - 1)))))), (l6, .inl (cI, 64, .inl (nF (va_up Z np ((ln p y c - 1) + 1))))), (l7, .inl (cI, 64, .inl (nF X)))] := hD
    refine lv_aload_n hx hb dX1_addPath_62 rfl (lv_at hl 1 rfl) ?_
    refine va_get (D := D) (ci := 1) (v := .ref l7) (C := RX1) (T := TX1) (N := 9) hx hb hts hinX1 hown hK hP 0 rfl rfl 7 (by decide) lk7 (fun _ h9 => h9) rfl dX1_addPath_63 ?_
    refine lv_aload_n hx hb dX1_addPath_66 rfl (lv_at hl 1 rfl) ?_
    refine va_get (D := D) (ci := 1) (v := .int (nI np)) (C := RX1) (T := TX1) (N := 9) hx hb hts hinX1 hown hK hP 0 rfl rfl 8 (by decide) lk1 (fun _ h9 => h9) rfl dX1_addPath_67 ?_
    refine lv_aload_n hx hb dX1_addPath_70 rfl (lv_at hl 1 rfl) ?_
    refine lv_iload_n hx hb dX1_addPath_71 rfl (lv_at hl 2 rfl) ?_
    refine gcVi (ws' := fun _ => [(l0, .inr (1, [.int (nI nm), .ref l1, .ref l2, .ref l3, .ref l4, .ref l5, .ref l6, .ref l7, .int (nI np)])), (l1, .inl (cI, 64, .inl (nF P))), (l2, .inl (cI, 64, .inl (nF Y))), (l3, .inl (cI, 64, .inl (nF V2_6))), (l4, .inl (cI, 64, .inl (nF ((va_up F np c))))), (l5, .inl (cI, 64, .inl (nF ((va_up L np ((ch p y c) ((ln p y c) - 1))))))), (l6, .inl (cI, 64, .inl (nF ((va_up Z np ((ln p y c - 1) + 1)))))), (l7, .inl (cI, 64, .inl (nF X)))]) (wr := []) (ci := 1) (q0 := 0) (As := [.int (nI c)]) (rest := [.int (nI np), .ref l7]) ⟨hx, hb, hml, hown, hts⟩ (c_X1_greatestWidthFrom l D cI cZ tt H.size l0 l1 l2 l3 l4 l5 l6 l7 nm np P Y V2_6 (va_up F np c) (va_up L np ((ch p y c) ((ln p y c) - 1))) (va_up Z np ((ln p y c - 1) + 1)) X p y c (by first | assumption | omega) (by first | assumption | omega) (by first | assumption | omega) (by first | assumption | omega) (by assumption) (by first | assumption | omega) (by exact hb2.1)) (cwV 1 hts gX1_addPath_X1_greatestWidthFrom rfl rfl rfl (by decide +kernel) ⟨Nat.le_of_ble_eq_true rfl, Nat.le_of_ble_eq_true rfl⟩) hP hK hD hS hA hG rfl rfl [0, 1, 2, 3, 4, 5, 6, 7] [] [0, 1, 2, 3, 4, 5, 6, 7] (by decide) rfl rfl (by decide) (by decide) (by decide) (fun _ => rfl) hl.1 rfl rfl (Nat.le_of_ble_eq_true rfl) ⟨Nat.zero_le _, Nat.zero_le _⟩ dX1_addPath_72 (fun r u H locs hp hP hD hS => ?_)
    obtain rfl := hp
    have hP : va_P D vwCl [(l0, .inr (1, [.int (nI nm), .ref l1, .ref l2, .ref l3, .ref l4, .ref l5, .ref l6, .ref l7, .int (nI np)])), (l1, .inl (cI, 64, .inl (nF P))), (l2, .inl (cI, 64, .inl (nF Y))), (l3, .inl (cI, 64, .inl (nF V2_6))), (l4, .inl (cI, 64, .inl (nF ((va_up F np c))))), (l5, .inl (cI, 64, .inl (nF ((va_up L np ((ch p y c) ((ln p y c) - 1))))))), (l6, .inl (cI, 64, .inl (nF ((va_up Z np ((ln p y c - 1) + 1)))))), (l7, .inl (cI, 64, .inl (nF X)))] H := hP
    have hD : va_D A [(l0, .inr (1, [.int (nI nm), .ref l1, .ref l2, .ref l3, .ref l4, .ref l5, .ref l6, .ref l7, .int (nI np)])), (l1, .inl (cI, 64, .inl (nF P))), (l2, .inl (cI, 64, .inl (nF Y))), (l3, .inl (cI, 64, .inl (nF V2_6))), (l4, .inl (cI, 64, .inl (nF ((va_up F np c))))), (l5, .inl (cI, 64, .inl (nF ((va_up L np ((ch p y c) ((ln p y c) - 1))))))), (l6, .inl (cI, 64, .inl (nF ((va_up Z np ((ln p y c - 1) + 1)))))), (l7, .inl (cI, 64, .inl (nF X)))] := hD
    have hmx : mxf (fun i => V2_6 (ch p y c i)) (ln p y c) = mxf (wdt p y sw c) (ln p y c) := mxf_cong (fun i hi => hok i hi)
    refine top_eq (congrArg nI hmx) ?_
    refine nv_iast hx hb hK hP hD hS 7 rfl (by omega) (by decide) dX1_addPath_75 (fun H locs hP hD hS => ?_)
    have hP : va_P D vwCl [(l0, .inr (1, [.int (nI nm), .ref l1, .ref l2, .ref l3, .ref l4, .ref l5, .ref l6, .ref l7, .int (nI np)])), (l1, .inl (cI, 64, .inl (nF P))), (l2, .inl (cI, 64, .inl (nF Y))), (l3, .inl (cI, 64, .inl (nF V2_6))), (l4, .inl (cI, 64, .inl (nF ((va_up F np c))))), (l5, .inl (cI, 64, .inl (nF ((va_up L np ((ch p y c) ((ln p y c) - 1))))))), (l6, .inl (cI, 64, .inl (nF ((va_up Z np ((ln p y c - 1) + 1)))))), (l7, .inl (cI, 64, .inl (nF (va_up X np (mxf (wdt p y sw c) (ln p y c))))))] H := hP
    have hD : va_D A [(l0, .inr (1, [.int (nI nm), .ref l1, .ref l2, .ref l3, .ref l4, .ref l5, .ref l6, .ref l7, .int (nI np)])), (l1, .inl (cI, 64, .inl (nF P))), (l2, .inl (cI, 64, .inl (nF Y))), (l3, .inl (cI, 64, .inl (nF V2_6))), (l4, .inl (cI, 64, .inl (nF ((va_up F np c))))), (l5, .inl (cI, 64, .inl (nF ((va_up L np ((ch p y c) ((ln p y c) - 1))))))), (l6, .inl (cI, 64, .inl (nF ((va_up Z np ((ln p y c - 1) + 1)))))), (l7, .inl (cI, 64, .inl (nF (va_up X np (mxf (wdt p y sw c) (ln p y c))))))] := hD
    refine lv_aload_n hx hb dX1_addPath_76 rfl (lv_at hl 1 rfl) ?_
    refine lv_dup hx hb dX1_addPath_77 rfl ?_
    refine va_get (D := D) (ci := 1) (v := .int (nI np)) (C := RX1) (T := TX1) (N := 9) hx hb hts hinX1 hown hK hP 0 rfl rfl 8 (by decide) lk1 (fun _ h9 => h9) rfl dX1_addPath_78 ?_
    refine lv_iconst (v := nI 1) hx hb dX1_addPath_81 (by decide) ?_
    refine nv_iadd hx hb dX1_addPath_82 ?_
    refine va_put (D := D) (ci := 1) (v := .int (nI (np + 1))) (ty := .int) (C := RX1) (T := TX1) (N := 9) hx hb hts hinX1 tyX1 tyX1_ok nmX1 hown hK hP hD hS 0 rfl rfl 8 (by decide) lk1 (fun _ h9 => h9) rfl (by decide +kernel) rfl rfl (Nat.le_of_ble_eq_true rfl) dX1_addPath_83 (fun H locs hP hD hS => ?_)
    have hP : va_P D vwCl [(l0, .inr (1, [.int (nI nm), .ref l1, .ref l2, .ref l3, .ref l4, .ref l5, .ref l6, .ref l7, .int (nI (np + 1))])), (l1, .inl (cI, 64, .inl (nF P))), (l2, .inl (cI, 64, .inl (nF Y))), (l3, .inl (cI, 64, .inl (nF V2_6))), (l4, .inl (cI, 64, .inl (nF ((va_up F np c))))), (l5, .inl (cI, 64, .inl (nF ((va_up L np ((ch p y c) ((ln p y c) - 1))))))), (l6, .inl (cI, 64, .inl (nF ((va_up Z np ((ln p y c - 1) + 1)))))), (l7, .inl (cI, 64, .inl (nF (va_up X np (mxf (wdt p y sw c) (ln p y c))))))] H := hP
    have hD : va_D A [(l0, .inr (1, [.int (nI nm), .ref l1, .ref l2, .ref l3, .ref l4, .ref l5, .ref l6, .ref l7, .int (nI (np + 1))])), (l1, .inl (cI, 64, .inl (nF P))), (l2, .inl (cI, 64, .inl (nF Y))), (l3, .inl (cI, 64, .inl (nF V2_6))), (l4, .inl (cI, 64, .inl (nF ((va_up F np c))))), (l5, .inl (cI, 64, .inl (nF ((va_up L np ((ch p y c) ((ln p y c) - 1))))))), (l6, .inl (cI, 64, .inl (nF ((va_up Z np ((ln p y c - 1) + 1)))))), (l7, .inl (cI, 64, .inl (nF (va_up X np (mxf (wdt p y sw c) (ln p y c))))))] := hD
    exact hret (V2_6, (va_up F np c), (va_up L np ((ch p y c) ((ln p y c) - 1))), (va_up Z np ((ln p y c - 1) + 1)), va_up X np (mxf (wdt p y sw c) (ln p y c))) _ _ _ _ dX1_addPath_86 (⟨hok, hoth, hbnd, rfl, rfl, by rw [Nat.sub_add_cancel hln.1], rfl⟩) hP hD hS
  · skip
    exact absurd hnp c_1
