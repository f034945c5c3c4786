set_option maxHeartbeats 4000000 in
set_option maxRecDepth 100000 in
theorem c_X2_knotOf (l : Launch) (D : va_G) (cI cZ : ClassId) (tt : Nat → Nat) (sz : Nat) (h0 h1 h2 h3 : Nat) (T U B : Nat → Nat) (x y : Nat) (hU : ∀ k, U k < 8) (hx7 : x < 7) (hy7 : y < 7) : MI l yX2_knotOf wsX2_knotOf ({ frames := 2, cells := 0, slots := 0, locals := 44 } : Room) D cI cZ tt [.ref h0, .int (nI x), .int (nI y)] [(h0, .inr (2, [.ref h1, .ref h2, .ref h3])), (h1, .inl (cI, 64, .inl (nF T))), (h2, .inl (cI, 64, .inl (nF U))), (h3, .inl (cZ, 64, .inl (nF B)))] sz (fun (r : Int32) (_ : Unit) => r = kn U (8 * y + x)) (fun (_ : Unit) => [(h0, .inr (2, [.ref h1, .ref h2, .ref h3])), (h1, .inl (cI, 64, .inl (nF T))), (h2, .inl (cI, 64, .inl (nF U))), (h3, .inl (cZ, 64, .inl (nF B)))]) := by
  refine entI (cc := cX2_knotOf) 12 (by decide) rfl (Nat.le_of_ble_eq_true rfl) (Or.inl rfl) (fun pr e s m args below meth c0 A Q H ls hx hb hml hown hts hsz hA hP hK hD hS hG hret hl => ?_)
  have hown : s.vm.findClass RX2 = some m.cls := hown
  have lk1 := hts (.fieldLink RX2 15 "BurinLines$Plate" "turns" "[I") (by decide +kernel)
  have lk2 := hts (.initialized RX4) (by decide +kernel)
  have lk3 := hts (.static yX4_cellOf) (by decide +kernel)
  have hinX2 : ∀ w ∈ wsX20, w ∈ wsX2_knotOf := by decide +kernel
  have hl : lv_has ls 12 [(0, .ref h0), (1, .int (nI x)), (2, .int (nI y))] := hl
  refine lv_aload_n hx hb dX2_knotOf_0 rfl (lv_at hl 0 rfl) ?_
  refine va_get (D := D) (ci := 2) (v := .ref h2) (C := RX2) (T := TX2) (N := 3) hx hb hts hinX2 hown hK hP 0 rfl rfl 1 (by decide) lk1 (fun _ h9 => h9) rfl dX2_knotOf_1 ?_
  refine lv_iload_n hx hb dX2_knotOf_4 rfl (lv_at hl 1 rfl) ?_
  refine lv_iload_n hx hb dX2_knotOf_5 rfl (lv_at hl 2 rfl) ?_
  refine gcSN (As := [.int (nI x), .int (nI y)]) (rest := [.ref h2]) ⟨hx, hb, hml, hown, hts⟩ (c_X4_cellOf l x y ) (va_cnB 2 hts gX2_knotOf_X4_cellOf_n45 rfl rfl rfl (hG.1 (RX2, 45, yX4_cellOf) (by decide +kernel)) lk2 (by decide +kernel) ⟨Nat.le_of_ble_eq_true rfl, Nat.le_of_ble_eq_true rfl⟩) lk3 hl.1 rfl rfl (Nat.le_of_ble_eq_true rfl) ⟨Nat.zero_le _, Nat.zero_le _⟩ dX2_knotOf_6 ?_
  refine nv_iald hx hb hK hP 2 rfl (by omega) (by decide) dX2_knotOf_9 ?_
  have bd_1 := hU (8 * y + x)
  refine lv_istore_n (lv' := [(3, .int (nI (U (8 * y + x)))), (0, .ref h0), (1, .int (nI x)), (2, .int (nI y))]) hx hb dX2_knotOf_10 rfl hl (by decide) rfl (fun ls hl => ?_)
  refine lv_aload_n hx hb dX2_knotOf_11 rfl (lv_at hl 1 rfl) ?_
  refine va_get (D := D) (ci := 2) (v := .ref h2) (C := RX2) (T := TX2) (N := 3) hx hb hts hinX2 hown hK hP 0 rfl rfl 1 (by decide) lk1 (fun _ h9 => h9) rfl dX2_knotOf_12 ?_
  refine lv_iload_n hx hb dX2_knotOf_15 rfl (lv_at hl 2 rfl) ?_
  refine lv_iconst (v := nI 1) hx hb dX2_knotOf_16 (by decide) ?_
  refine nv_iadd hx hb dX2_knotOf_17 ?_
  refine lv_iload_n hx hb dX2_knotOf_18 rfl (lv_at hl 3 rfl) ?_
  refine gcSN (As := [.int (nI (x + 1)), .int (nI y)]) (rest := [.ref h2]) ⟨hx, hb, hml, hown, hts⟩ (c_X4_cellOf l (x + 1) y ) (va_cnB 2 hts gX2_knotOf_X4_cellOf_n45 rfl rfl rfl (hG.1 (RX2, 45, yX4_cellOf) (by decide +kernel)) lk2 (by decide +kernel) ⟨Nat.le_of_ble_eq_true rfl, Nat.le_of_ble_eq_true rfl⟩) lk3 hl.1 rfl rfl (Nat.le_of_ble_eq_true rfl) ⟨Nat.zero_le _, Nat.zero_le _⟩ dX2_knotOf_19 ?_
  refine top_eq (congrArg nI (show 8 * y + (x + 1) = 8 * y + x + 1 by omega)) ?_
  refine nv_iald hx hb hK hP 2 rfl (by omega) (by decide) dX2_knotOf_22 ?_
  have bd_2 := hU (8 * y + x + 1)
  refine lv_istore (lv' := [(4, .int (nI (U (8 * y + x + 1)))), (3, .int (nI (U (8 * y + x)))), (0, .ref h0), (1, .int (nI x)), (2, .int (nI y))]) hx hb dX2_knotOf_23 hl (by decide) rfl (fun ls hl => ?_)
  refine lv_aload_n hx hb dX2_knotOf_25 rfl (lv_at hl 2 rfl) ?_
  refine va_get (D := D) (ci := 2) (v := .ref h2) (C := RX2) (T := TX2) (N := 3) hx hb hts hinX2 hown hK hP 0 rfl rfl 1 (by decide) lk1 (fun _ h9 => h9) rfl dX2_knotOf_26 ?_
  refine lv_iload_n hx hb dX2_knotOf_29 rfl (lv_at hl 3 rfl) ?_
  refine lv_iconst (v := nI 1) hx hb dX2_knotOf_30 (by decide) ?_
  refine nv_iadd hx hb dX2_knotOf_31 ?_
  refine lv_iload_n hx hb dX2_knotOf_32 rfl (lv_at hl 4 rfl) ?_
  refine lv_iconst (v := nI 1) hx hb dX2_knotOf_33 (by decide) ?_
  refine nv_iadd hx hb dX2_knotOf_34 ?_
  refine gcSN (As := [.int (nI (x + 1)), .int (nI (y + 1))]) (rest := [.ref h2]) ⟨hx, hb, hml, hown, hts⟩ (c_X4_cellOf l (x + 1) (y + 1) ) (va_cnB 2 hts gX2_knotOf_X4_cellOf_n45 rfl rfl rfl (hG.1 (RX2, 45, yX4_cellOf) (by decide +kernel)) lk2 (by decide +kernel) ⟨Nat.le_of_ble_eq_true rfl, Nat.le_of_ble_eq_true rfl⟩) lk3 hl.1 rfl rfl (Nat.le_of_ble_eq_true rfl) ⟨Nat.zero_le _, Nat.zero_le _⟩ dX2_knotOf_35 ?_
  refine top_eq (congrArg nI (show 8 * (y + 1) + (x + 1) = 8 * y + x + 9 by omega)) ?_
  refine nv_iald hx hb hK hP 2 rfl (by omega) (by decide) dX2_knotOf_38 ?_
  have bd_3 := hU (8 * y + x + 9)
  refine lv_istore (lv' := [(5, .int (nI (U (8 * y + x + 9)))), (4, .int (nI (U (8 * y + x + 1)))), (3, .int (nI (U (8 * y + x)))), (0, .ref h0), (1, .int (nI x)), (2, .int (nI y))]) hx hb dX2_knotOf_39 hl (by decide) rfl (fun ls hl => ?_)
  refine lv_aload_n hx hb dX2_knotOf_41 rfl (lv_at hl 3 rfl) ?_
  refine va_get (D := D) (ci := 2) (v := .ref h2) (C := RX2) (T := TX2) (N := 3) hx hb hts hinX2 hown hK hP 0 rfl rfl 1 (by decide) lk1 (fun _ h9 => h9) rfl dX2_knotOf_42 ?_
  refine lv_iload_n hx hb dX2_knotOf_45 rfl (lv_at hl 4 rfl) ?_
  refine lv_iload_n hx hb dX2_knotOf_46 rfl (lv_at hl 5 rfl) ?_
  refine lv_iconst (v := nI 1) hx hb dX2_knotOf_47 (by decide) ?_
  refine nv_iadd hx hb dX2_knotOf_48 ?_
  refine gcSN (As := [.int (nI x), .int (nI (y + 1))]) (rest := [.ref h2]) ⟨hx, hb, hml, hown, hts⟩ (c_X4_cellOf l x (y + 1) ) (va_cnB 2 hts gX2_knotOf_X4_cellOf_n45 rfl rfl rfl (hG.1 (RX2, 45, yX4_cellOf) (by decide +kernel)) lk2 (by decide +kernel) ⟨Nat.le_of_ble_eq_true rfl, Nat.le_of_ble_eq_true rfl⟩) lk3 hl.1 rfl rfl (Nat.le_of_ble_eq_true rfl) ⟨Nat.zero_le _, Nat.zero_le _⟩ dX2_knotOf_49 ?_
  refine top_eq (congrArg nI (show 8 * (y + 1) + x = 8 * y + x + 8 by omega)) ?_
  refine nv_iald hx hb hK hP 2 rfl (by omega) (by decide) dX2_knotOf_52 ?_
  have bd_4 := hU (8 * y + x + 8)
  refine lv_istore (lv' := [(6, .int (nI (U (8 * y + x + 8)))), (5, .int (nI (U (8 * y + x + 9)))), (4, .int (nI (U (8 * y + x + 1)))), (3, .int (nI (U (8 * y + x)))), (0, .ref h0), (1, .int (nI x)), (2, .int (nI y))]) hx hb dX2_knotOf_53 hl (by decide) rfl (fun ls hl => ?_)
  refine lv_iload_n hx hb dX2_knotOf_55 rfl (lv_at hl 3 rfl) ?_
  refine lv_iload hx hb dX2_knotOf_56 (lv_at hl 2 rfl) ?_
  refine gcS (As := [.int (nI (U (8 * y + x))), .int (nI (U (8 * y + x + 1)))]) (rest := []) ⟨hx, hb, hml, hown, hts⟩ (c_X2_growth l (U (8 * y + x)) (U (8 * y + x + 1)) (by first | assumption | omega) (by first | assumption | omega)) (va_cwS 2 hts gX2_knotOf_X2_growth rfl rfl rfl (by decide +kernel) ⟨Nat.le_of_ble_eq_true rfl, Nat.le_of_ble_eq_true rfl⟩) hl.1 rfl rfl (Nat.le_of_ble_eq_true rfl) ⟨Nat.zero_le _, Nat.zero_le _⟩ dX2_knotOf_58 ?_
  refine lv_istore (lv' := [(7, .int (gw (U (8 * y + x)) (U (8 * y + x + 1)))), (6, .int (nI (U (8 * y + x + 8)))), (5, .int (nI (U (8 * y + x + 9)))), (4, .int (nI (U (8 * y + x + 1)))), (3, .int (nI (U (8 * y + x)))), (0, .ref h0), (1, .int (nI x)), (2, .int (nI y))]) hx hb dX2_knotOf_61 hl (by decide) rfl (fun ls hl => ?_)
  refine lv_iload hx hb dX2_knotOf_63 (lv_at hl 3 rfl) ?_
  refine lv_iload hx hb dX2_knotOf_65 (lv_at hl 2 rfl) ?_
  refine gcS (As := [.int (nI (U (8 * y + x + 1))), .int (nI (U (8 * y + x + 9)))]) (rest := []) ⟨hx, hb, hml, hown, hts⟩ (c_X2_growth l (U (8 * y + x + 1)) (U (8 * y + x + 9)) (by first | assumption | omega) (by first | assumption | omega)) (va_cwS 2 hts gX2_knotOf_X2_growth rfl rfl rfl (by decide +kernel) ⟨Nat.le_of_ble_eq_true rfl, Nat.le_of_ble_eq_true rfl⟩) hl.1 rfl rfl (Nat.le_of_ble_eq_true rfl) ⟨Nat.zero_le _, Nat.zero_le _⟩ dX2_knotOf_67 ?_
  refine lv_istore (lv' := [(8, .int (gw (U (8 * y + x + 1)) (U (8 * y + x + 9)))), (7, .int (gw (U (8 * y + x)) (U (8 * y + x + 1)))), (6, .int (nI (U (8 * y + x + 8)))), (5, .int (nI (U (8 * y + x + 9)))), (4, .int (nI (U (8 * y + x + 1)))), (3, .int (nI (U (8 * y + x)))), (0, .ref h0), (1, .int (nI x)), (2, .int (nI y))]) hx hb dX2_knotOf_70 hl (by decide) rfl (fun ls hl => ?_)
  refine lv_iload hx hb dX2_knotOf_72 (lv_at hl 3 rfl) ?_
  refine lv_iload hx hb dX2_knotOf_74 (lv_at hl 2 rfl) ?_
  refine gcS (As := [.int (nI (U (8 * y + x + 9))), .int (nI (U (8 * y + x + 8)))]) (rest := []) ⟨hx, hb, hml, hown, hts⟩ (c_X2_growth l (U (8 * y + x + 9)) (U (8 * y + x + 8)) (by first | assumption | omega) (by first | assumption | omega)) (va_cwS 2 hts gX2_knotOf_X2_growth rfl rfl rfl (by decide +kernel) ⟨Nat.le_of_ble_eq_true rfl, Nat.le_of_ble_eq_true rfl⟩) hl.1 rfl rfl (Nat.le_of_ble_eq_true rfl) ⟨Nat.zero_le _, Nat.zero_le _⟩ dX2_knotOf_76 ?_
  refine lv_istore (lv' := [(9, .int (gw (U (8 * y + x + 9)) (U (8 * y + x + 8)))), (8, .int (gw (U (8 * y + x + 1)) (U (8 * y + x + 9)))), (7, .int (gw (U (8 * y + x)) (U (8 * y + x + 1)))), (6, .int (nI (U (8 * y + x + 8)))), (5, .int (nI (U (8 * y + x + 9)))), (4, .int (nI (U (8 * y + x + 1)))), (3, .int (nI (U (8 * y + x)))), (0, .ref h0), (1, .int (nI x)), (2, .int (nI y))]) hx hb dX2_knotOf_79 hl (by decide) rfl (fun ls hl => ?_)
  refine lv_iload hx hb dX2_knotOf_81 (lv_at hl 3 rfl) ?_
  refine lv_iload_n hx hb dX2_knotOf_83 rfl (lv_at hl 6 rfl) ?_
  refine gcS (As := [.int (nI (U (8 * y + x + 8))), .int (nI (U (8 * y + x)))]) (rest := []) ⟨hx, hb, hml, hown, hts⟩ (c_X2_growth l (U (8 * y + x + 8)) (U (8 * y + x)) (by first | assumption | omega) (by first | assumption | omega)) (va_cwS 2 hts gX2_knotOf_X2_growth rfl rfl rfl (by decide +kernel) ⟨Nat.le_of_ble_eq_true rfl, Nat.le_of_ble_eq_true rfl⟩) hl.1 rfl rfl (Nat.le_of_ble_eq_true rfl) ⟨Nat.zero_le _, Nat.zero_le _⟩ dX2_knotOf_84 ?_
  refine lv_istore (lv' := [(10, .int (gw (U (8 * y + x + 8)) (U (8 * y + x)))), (9, .int (gw (U (8 * y + x + 9)) (U (8 * y + x + 8)))), (8, .int (gw (U (8 * y + x + 1)) (U (8 * y + x + 9)))), (7, .int (gw (U (8 * y + x)) (U (8 * y + x + 1)))), (6, .int (nI (U (8 * y + x + 8)))), (5, .int (nI (U (8 * y + x + 9)))), (4, .int (nI (U (8 * y + x + 1)))), (3, .int (nI (U (8 * y + x)))), (0, .ref h0), (1, .int (nI x)), (2, .int (nI y))]) hx hb dX2_knotOf_87 hl (by decide) rfl (fun ls hl => ?_)
  refine lv_iconst (v := nI 4) hx hb dX2_knotOf_89 (by decide) ?_
  refine lv_istore (lv' := [(11, .int (nI 4)), (10, .int (gw (U (8 * y + x + 8)) (U (8 * y + x)))), (9, .int (gw (U (8 * y + x + 9)) (U (8 * y + x + 8)))), (8, .int (gw (U (8 * y + x + 1)) (U (8 * y + x + 9)))), (7, .int (gw (U (8 * y + x)) (U (8 * y + x + 1)))), (6, .int (nI (U (8 * y + x + 8)))), (5, .int (nI (U (8 * y + x + 9)))), (4, .int (nI (U (8 * y + x + 1)))), (3, .int (nI (U (8 * y + x)))), (0, .ref h0), (1, .int (nI x)), (2, .int (nI y))]) hx hb dX2_knotOf_90 hl (by decide) rfl (fun ls hl => ?_)
  refine lv_iload hx hb dX2_knotOf_92 (lv_at hl 4 rfl) ?_
  refine lv_iload hx hb dX2_knotOf_94 (lv_at hl 0 rfl) ?_
  refine lv_icmp_eq (tgt := 120) hx hb dX2_knotOf_96 (by decide) (fun c_5 => ?_) (fun c_5 => ?_)
  · skip
    refine lv_iconst (v := nI 2) hx hb dX2_knotOf_120 (by decide) ?_
    exact hret _ () _ _ _ _ dX2_knotOf_121 (by unfold kn; rw [if_pos (Or.inl c_5)]) hP hD hS
  · skip
    refine lv_iload hx hb dX2_knotOf_99 (lv_at hl 3 rfl) ?_
    refine lv_iload hx hb dX2_knotOf_101 (lv_at hl 0 rfl) ?_
    refine lv_icmp_eq (tgt := 120) hx hb dX2_knotOf_103 (by decide) (fun c_6 => ?_) (fun c_6 => ?_)
    · skip
      refine lv_iconst (v := nI 2) hx hb dX2_knotOf_120 (by decide) ?_
      exact hret _ () _ _ _ _ dX2_knotOf_121 (by unfold kn; rw [if_pos (Or.inr (Or.inl c_6))]) hP hD hS
    · skip
      refine lv_iload hx hb dX2_knotOf_106 (lv_at hl 2 rfl) ?_
      refine lv_iload hx hb dX2_knotOf_108 (lv_at hl 0 rfl) ?_
      refine lv_icmp_eq (tgt := 120) hx hb dX2_knotOf_110 (by decide) (fun c_7 => ?_) (fun c_7 => ?_)
      · skip
        refine lv_iconst (v := nI 2) hx hb dX2_knotOf_120 (by decide) ?_
        exact hret _ () _ _ _ _ dX2_knotOf_121 (by unfold kn; rw [if_pos (Or.inr (Or.inr (Or.inl c_7)))]) hP hD hS
      · skip
        refine lv_iload hx hb dX2_knotOf_113 (lv_at hl 1 rfl) ?_
        refine lv_iload hx hb dX2_knotOf_115 (lv_at hl 0 rfl) ?_
        refine lv_icmp_ne (tgt := 122) hx hb dX2_knotOf_117 (by decide) (fun c_8 => ?_) (fun c_8 => ?_)
        · skip
          refine lv_iload hx hb dX2_knotOf_122 (lv_at hl 4 rfl) ?_
          refine lv_iload hx hb dX2_knotOf_124 (lv_at hl 3 rfl) ?_
          refine lv_iadd hx hb dX2_knotOf_126 ?_
          refine lv_iload hx hb dX2_knotOf_127 (lv_at hl 2 rfl) ?_
          refine lv_iadd hx hb dX2_knotOf_129 ?_
          refine lv_iload hx hb dX2_knotOf_130 (lv_at hl 1 rfl) ?_
          refine lv_iadd hx hb dX2_knotOf_132 ?_
          refine lv_bipush (v := nI 8) hx hb dX2_knotOf_133 (by decide) ?_
          refine lv_idiv hx hb dX2_knotOf_135 (by decide) ?_
          exact hret _ () _ _ _ _ dX2_knotOf_136 (by unfold kn; rw [if_neg (fun q => by rcases q with q | q | q | q; exact c_5 q; exact c_6 q; exact c_7 q; exact c_8 q)]) hP hD hS
        · skip
          refine lv_iconst (v := nI 2) hx hb dX2_knotOf_120 (by decide) ?_
          exact hret _ () _ _ _ _ dX2_knotOf_121 (by unfold kn; rw [if_pos (Or.inr (Or.inr (Or.inr (c_8))))]) hP hD hS

set_option maxHeartbeats 4000000 in
set_option maxRecDepth 100000 in
theorem c_X2_countToned (l : Launch) (D : va_G) (cI cZ : ClassId) (tt : Nat → Nat) (sz : Nat) (h0 h1 h2 h3 : Nat) (T U B : Nat → Nat) (hT : ∀ k, T k ≤ 100) : MI l yX2_countToned wsX2_countToned ({ frames := 0, cells := 0, slots := 0, locals := 0 } : Room) D cI cZ tt [.ref h0] [(h0, .inr (2, [.ref h1, .ref h2, .ref h3])), (h1, .inl (cI, 64, .inl (nF T))), (h2, .inl (cI, 64, .inl (nF U))), (h3, .inl (cZ, 64, .inl (nF B)))] sz (fun (r : Int32) (_ : Unit) => r = nI (cb (pTn T) 64)) (fun (_ : Unit) => [(h0, .inr (2, [.ref h1, .ref h2, .ref h3])), (h1, .inl (cI, 64, .inl (nF T))), (h2, .inl (cI, 64, .inl (nF U))), (h3, .inl (cZ, 64, .inl (nF B)))]) := by
  refine entI (cc := cX2_countToned) 3 (by decide) rfl (Nat.le_of_ble_eq_true rfl) (Or.inl rfl) (fun pr e s m args below meth c0 A Q H ls hx hb hml hown hts hsz hA hP hK hD hS hG hret hl => ?_)
  have hown : s.vm.findClass RX2 = some m.cls := hown
  have lk1 := hts (.fieldLink RX2 9 "BurinLines$Plate" "tones" "[I") (by decide +kernel)
  have hinX2 : ∀ w ∈ wsX20, w ∈ wsX2_countToned := by decide +kernel
  have hl : lv_has ls 3 [(0, .ref h0)] := hl
  refine lv_iconst (v := nI 0) hx hb dX2_countToned_0 (by decide) ?_
  refine lv_istore_n (lv' := [(1, .int (nI 0)), (0, .ref h0)]) hx hb dX2_countToned_1 rfl hl (by decide) rfl (fun ls hl => ?_)
  refine lv_iconst (v := nI 0) hx hb dX2_countToned_2 (by decide) ?_
  refine lv_istore_n (lv' := [(2, .int (nI 0)), (1, .int (nI 0)), (0, .ref h0)]) hx hb dX2_countToned_3 rfl hl (by decide) rfl (fun ls hl => ?_)
  have L4 : ∀ (n : Nat) (i : Nat) (n0 : Nat), 64 - i < n → (i ≤ 64) → (n0 = cb (pTn T) i) → ∀ (H : Heap) (locs : List Loc) (ls : Array Slot), va_P D vwCl [(h0, .inr (2, [.ref h1, .ref h2, .ref h3])), (h1, .inl (cI, 64, .inl (nF T))), (h2, .inl (cI, 64, .inl (nF U))), (h3, .inl (cZ, 64, .inl (nF B)))] H → va_D A [(h0, .inr (2, [.ref h1, .ref h2, .ref h3])), (h1, .inl (cI, 64, .inl (nF T))), (h2, .inl (cI, 64, .inl (nF U))), (h3, .inl (cZ, 64, .inl (nF B)))] → va_S A s.heap H locs → lv_has ls 3 [(0, .ref h0), (1, .int (nI n0)), (2, .int (nI i))] → W pr l e ({ frames := 0, cells := 0, slots := 0, locals := 0 } : Room) s m args below meth c0 H locs 0 0 Q (F0 m 4 ls []) := by
    intro n
    induction n with
    | zero => intro i n0 h0; exact absurd h0 (Nat.not_lt_zero _)
    | succ n ih4 =>
      intro i n0 hm4 hi hn H locs ls hP hD hS hl
      refine lv_iload_n hx hb dX2_countToned_4 rfl (lv_at hl 2 rfl) ?_
      refine lv_bipush (v := nI 64) hx hb dX2_countToned_5 (by decide) ?_
      refine nv_icmp_ge (tgt := 28) hx hb dX2_countToned_7 (by decide) (by omega) (by omega) (fun c_1 => ?_) (fun c_1 => ?_)
      · skip
        refine lv_iload_n hx hb dX2_countToned_28 rfl (lv_at hl 1 rfl) ?_
        exact hret _ () _ _ _ _ dX2_countToned_29 (by rw [hn, show i = 64 by omega]) hP hD hS
      · skip
        refine lv_aload_n hx hb dX2_countToned_10 rfl (lv_at hl 0 rfl) ?_
        refine va_get (D := D) (ci := 2) (v := .ref h1) (C := RX2) (T := TX2) (N := 3) hx hb hts hinX2 hown hK hP 0 rfl rfl 0 (by decide) lk1 (fun _ h9 => h9) rfl dX2_countToned_11 ?_
        refine lv_iload_n hx hb dX2_countToned_14 rfl (lv_at hl 2 rfl) ?_
        refine nv_iald hx hb hK hP 1 rfl (by omega) (by decide) dX2_countToned_15 ?_
        have bd_2 := hT i
        refine nv_if_le (tgt := 22) hx hb dX2_countToned_16 (by decide) (by omega) (fun c_3 => ?_) (fun c_3 => ?_)
        · skip
          refine lv_iinc (v := nI (i + 1)) (lv' := [(2, .int (nI (i + 1))), (0, .ref h0), (1, .int (nI n0))]) hx hb dX2_countToned_22 hl (k := 2) rfl (by exact nI_add _ 1) (by decide) rfl (fun ls hl => ?_)
          refine lv_goto (tgt := 4) hx hb dX2_countToned_25 (by decide) ?_
          exact ih4 (i + 1) n0 (by omega) (by omega) (by rw [hn, cb_no (pTn_no (by assumption))]) _ _ _ hP hD hS (lv_sub hl [1, 2, 0] rfl)
        · skip
          refine lv_iinc (v := nI (n0 + 1)) (lv' := [(1, .int (nI (n0 + 1))), (0, .ref h0), (2, .int (nI i))]) hx hb dX2_countToned_19 hl (k := 1) rfl (by exact nI_add _ 1) (by decide) rfl (fun ls hl => ?_)
          refine lv_iinc (v := nI (i + 1)) (lv' := [(2, .int (nI (i + 1))), (1, .int (nI (n0 + 1))), (0, .ref h0)]) hx hb dX2_countToned_22 hl (k := 2) rfl (by exact nI_add _ 1) (by decide) rfl (fun ls hl => ?_)
          refine lv_goto (tgt := 4) hx hb dX2_countToned_25 (by decide) ?_
          exact ih4 (i + 1) (n0 + 1) (by omega) (by omega) (by rw [hn, cb_yes (pTn_yes (by assumption))]) _ _ _ hP hD hS (lv_sub hl [2, 1, 0] rfl)
  exact L4 (64 + 1) 0 0 (by omega) (by omega) rfl _ _ _ hP hD hS (lv_sub hl [2, 1, 0] rfl)

set_option maxHeartbeats 4000000 in
set_option maxRecDepth 100000 in
theorem c_X2_countTold (l : Launch) (D : va_G) (cI cZ : ClassId) (tt : Nat → Nat) (sz : Nat) (h0 h1 h2 h3 : Nat) (T U B : Nat → Nat) (hB : ∀ k, B k < 2) : MI l yX2_countTold wsX2_countTold ({ frames := 0, cells := 0, slots := 0, locals := 0 } : Room) D cI cZ tt [.ref h0] [(h0, .inr (2, [.ref h1, .ref h2, .ref h3])), (h1, .inl (cI, 64, .inl (nF T))), (h2, .inl (cI, 64, .inl (nF U))), (h3, .inl (cZ, 64, .inl (nF B)))] sz (fun (r : Int32) (_ : Unit) => r = nI (cb (pTn B) 64)) (fun (_ : Unit) => [(h0, .inr (2, [.ref h1, .ref h2, .ref h3])), (h1, .inl (cI, 64, .inl (nF T))), (h2, .inl (cI, 64, .inl (nF U))), (h3, .inl (cZ, 64, .inl (nF B)))]) := by
  refine entI (cc := cX2_countTold) 3 (by decide) rfl (Nat.le_of_ble_eq_true rfl) (Or.inl rfl) (fun pr e s m args below meth c0 A Q H ls hx hb hml hown hts hsz hA hP hK hD hS hG hret hl => ?_)
  have hown : s.vm.findClass RX2 = some m.cls := hown
  have lk1 := hts (.fieldLink RX2 18 "BurinLines$Plate" "told" "[Z") (by decide +kernel)
  have hinX2 : ∀ w ∈ wsX20, w ∈ wsX2_countTold := by decide +kernel
  have hl : lv_has ls 3 [(0, .ref h0)] := hl
  refine lv_iconst (v := nI 0) hx hb dX2_countTold_0 (by decide) ?_
  refine lv_istore_n (lv' := [(1, .int (nI 0)), (0, .ref h0)]) hx hb dX2_countTold_1 rfl hl (by decide) rfl (fun ls hl => ?_)
  refine lv_iconst (v := nI 0) hx hb dX2_countTold_2 (by decide) ?_
  refine lv_istore_n (lv' := [(2, .int (nI 0)), (1, .int (nI 0)), (0, .ref h0)]) hx hb dX2_countTold_3 rfl hl (by decide) rfl (fun ls hl => ?_)
  have L4 : ∀ (n : Nat) (i : Nat) (n0 : Nat), 64 - i < n → (i ≤ 64) → (n0 = cb (pTn B) i) → ∀ (H : Heap) (locs : List Loc) (ls : Array Slot), va_P D vwCl [(h0, .inr (2, [.ref h1, .ref h2, .ref h3])), (h1, .inl (cI, 64, .inl (nF T))), (h2, .inl (cI, 64, .inl (nF U))), (h3, .inl (cZ, 64, .inl (nF B)))] H → va_D A [(h0, .inr (2, [.ref h1, .ref h2, .ref h3])), (h1, .inl (cI, 64, .inl (nF T))), (h2, .inl (cI, 64, .inl (nF U))), (h3, .inl (cZ, 64, .inl (nF B)))] → va_S A s.heap H locs → lv_has ls 3 [(0, .ref h0), (1, .int (nI n0)), (2, .int (nI i))] → W pr l e ({ frames := 0, cells := 0, slots := 0, locals := 0 } : Room) s m args below meth c0 H locs 0 0 Q (F0 m 4 ls []) := by
    intro n
    induction n with
    | zero => intro i n0 h0; exact absurd h0 (Nat.not_lt_zero _)
    | succ n ih4 =>
      intro i n0 hm4 hi hn H locs ls hP hD hS hl
      refine lv_iload_n hx hb dX2_countTold_4 rfl (lv_at hl 2 rfl) ?_
      refine lv_bipush (v := nI 64) hx hb dX2_countTold_5 (by decide) ?_
      refine nv_icmp_ge (tgt := 28) hx hb dX2_countTold_7 (by decide) (by omega) (by omega) (fun c_1 => ?_) (fun c_1 => ?_)
      · skip
        refine lv_iload_n hx hb dX2_countTold_28 rfl (lv_at hl 1 rfl) ?_
        exact hret _ () _ _ _ _ dX2_countTold_29 (by rw [hn, show i = 64 by omega]) hP hD hS
      · skip
        refine lv_aload_n hx hb dX2_countTold_10 rfl (lv_at hl 0 rfl) ?_
        refine va_get (D := D) (ci := 2) (v := .ref h3) (C := RX2) (T := TX2) (N := 3) hx hb hts hinX2 hown hK hP 0 rfl rfl 2 (by decide) lk1 (fun _ h9 => h9) rfl dX2_countTold_11 ?_
        refine lv_iload_n hx hb dX2_countTold_14 rfl (lv_at hl 2 rfl) ?_
        refine nv_zald hx hb hK hP 3 rfl (by omega) (by decide) dX2_countTold_15 ?_
        have bd_2 := hB i
        refine nv_if_eq (tgt := 22) hx hb dX2_countTold_16 (by decide) (by omega) (fun c_3 => ?_) (fun c_3 => ?_)
        · skip
          refine lv_iinc (v := nI (i + 1)) (lv' := [(2, .int (nI (i + 1))), (0, .ref h0), (1, .int (nI n0))]) hx hb dX2_countTold_22 hl (k := 2) rfl (by exact nI_add _ 1) (by decide) rfl (fun ls hl => ?_)
          refine lv_goto (tgt := 4) hx hb dX2_countTold_25 (by decide) ?_
          exact ih4 (i + 1) n0 (by omega) (by omega) (by rw [hn, cb_no (pTn_no (by assumption))]) _ _ _ hP hD hS (lv_sub hl [1, 2, 0] rfl)
        · skip
          refine lv_iinc (v := nI (n0 + 1)) (lv' := [(1, .int (nI (n0 + 1))), (0, .ref h0), (2, .int (nI i))]) hx hb dX2_countTold_19 hl (k := 1) rfl (by exact nI_add _ 1) (by decide) rfl (fun ls hl => ?_)
          refine lv_iinc (v := nI (i + 1)) (lv' := [(2, .int (nI (i + 1))), (1, .int (nI (n0 + 1))), (0, .ref h0)]) hx hb dX2_countTold_22 hl (k := 2) rfl (by exact nI_add _ 1) (by decide) rfl (fun ls hl => ?_)
          refine lv_goto (tgt := 4) hx hb dX2_countTold_25 (by decide) ?_
          exact ih4 (i + 1) (n0 + 1) (by omega) (by omega) (by rw [hn, cb_yes (pTn_yes (by assumption))]) _ _ _ hP hD hS (lv_sub hl [2, 1, 0] rfl)
  exact L4 (64 + 1) 0 0 (by omega) (by omega) rfl _ _ _ hP hD hS (lv_sub hl [2, 1, 0] rfl)

set_option maxHeartbeats 4000000 in
set_option maxRecDepth 100000 in
theorem c_X2_countKnots (l : Launch) (D : va_G) (cI cZ : ClassId) (tt : Nat → Nat) (sz : Nat) (h0 h1 h2 h3 : Nat) (T U B : Nat → Nat) (hU : ∀ k, U k < 8) : MI l yX2_countKnots wsX2_countKnots ({ frames := 3, cells := 0, slots := 0, locals := 75 } : Room) D cI cZ tt [.ref h0] [(h0, .inr (2, [.ref h1, .ref h2, .ref h3])), (h1, .inl (cI, 64, .inl (nF T))), (h2, .inl (cI, 64, .inl (nF U))), (h3, .inl (cZ, 64, .inl (nF B)))] sz (fun (r : Int32) (_ : Unit) => r = nI (cb (pKn U) 64)) (fun (_ : Unit) => [(h0, .inr (2, [.ref h1, .ref h2, .ref h3])), (h1, .inl (cI, 64, .inl (nF T))), (h2, .inl (cI, 64, .inl (nF U))), (h3, .inl (cZ, 64, .inl (nF B)))]) := by
  refine entI (cc := cX2_countKnots) 5 (by decide) rfl (Nat.le_of_ble_eq_true rfl) (Or.inl rfl) (fun pr e s m args below meth c0 A Q H ls hx hb hml hown hts hsz hA hP hK hD hS hG hret hl => ?_)
  have hown : s.vm.findClass RX2 = some m.cls := hown
  have hl : lv_has ls 5 [(0, .ref h0)] := hl
  refine lv_iconst (v := nI 0) hx hb dX2_countKnots_0 (by decide) ?_
  refine lv_istore_n (lv' := [(1, .int (nI 0)), (0, .ref h0)]) hx hb dX2_countKnots_1 rfl hl (by decide) rfl (fun ls hl => ?_)
  refine lv_iconst (v := nI 0) hx hb dX2_countKnots_2 (by decide) ?_
  refine lv_istore_n (lv' := [(2, .int (nI 0)), (1, .int (nI 0)), (0, .ref h0)]) hx hb dX2_countKnots_3 rfl hl (by decide) rfl (fun ls hl => ?_)
  have L4 : ∀ (n : Nat) (y : Nat) (n0 : Nat), 7 - y < n → (y ≤ 7) → (n0 = cb (pKn U) (8 * y)) → ∀ (H : Heap) (locs : List Loc) (ls : Array Slot), va_P D vwCl [(h0, .inr (2, [.ref h1, .ref h2, .ref h3])), (h1, .inl (cI, 64, .inl (nF T))), (h2, .inl (cI, 64, .inl (nF U))), (h3, .inl (cZ, 64, .inl (nF B)))] H → va_D A [(h0, .inr (2, [.ref h1, .ref h2, .ref h3])), (h1, .inl (cI, 64, .inl (nF T))), (h2, .inl (cI, 64, .inl (nF U))), (h3, .inl (cZ, 64, .inl (nF B)))] → va_S A s.heap H locs → lv_has ls 5 [(0, .ref h0), (1, .int (nI n0)), (2, .int (nI y))] → W pr l e ({ frames := 3, cells := 0, slots := 0, locals := 75 } : Room) s m args below meth c0 H locs 0 0 Q (F0 m 4 ls []) := by
    intro n
    induction n with
    | zero => intro y n0 h0; exact absurd h0 (Nat.not_lt_zero _)
    | succ n ih4 =>
      intro y n0 hm4 hyy hn H locs ls hP hD hS hl
      refine lv_iload_n hx hb dX2_countKnots_4 rfl (lv_at hl 2 rfl) ?_
      refine lv_bipush (v := nI 7) hx hb dX2_countKnots_5 (by decide) ?_
      refine nv_icmp_ge (tgt := 52) hx hb dX2_countKnots_7 (by decide) (by omega) (by omega) (fun c_1 => ?_) (fun c_1 => ?_)
      · skip
        refine lv_iload_n hx hb dX2_countKnots_52 rfl (lv_at hl 1 rfl) ?_
        exact hret _ () _ _ _ _ dX2_countKnots_53 (by rw [hn, show y = 7 by omega]; exact congrArg nI (cb_skip (a := 56) (n := 8) (fun i h1 h2 => pKn_no (fun q => by have := q.2.1; omega))).symm) hP hD hS
      · skip
        refine lv_iconst (v := nI 0) hx hb dX2_countKnots_10 (by decide) ?_
        refine lv_istore_n (lv' := [(3, .int (nI 0)), (0, .ref h0), (1, .int (nI n0)), (2, .int (nI y))]) hx hb dX2_countKnots_11 rfl hl (by decide) rfl (fun ls hl => ?_)
        have L12 : ∀ (n : Nat) (x : Nat) (n1 : Nat), 7 - x < n → (x ≤ 7) → (n1 = cb (pKn U) (8 * y + x)) → ∀ (H : Heap) (locs : List Loc) (ls : Array Slot), va_P D vwCl [(h0, .inr (2, [.ref h1, .ref h2, .ref h3])), (h1, .inl (cI, 64, .inl (nF T))), (h2, .inl (cI, 64, .inl (nF U))), (h3, .inl (cZ, 64, .inl (nF B)))] H → va_D A [(h0, .inr (2, [.ref h1, .ref h2, .ref h3])), (h1, .inl (cI, 64, .inl (nF T))), (h2, .inl (cI, 64, .inl (nF U))), (h3, .inl (cZ, 64, .inl (nF B)))] → va_S A s.heap H locs → lv_has ls 5 [(0, .ref h0), (1, .int (nI n1)), (2, .int (nI y)), (3, .int (nI x))] → W pr l e ({ frames := 3, cells := 0, slots := 0, locals := 75 } : Room) s m args below meth c0 H locs 0 0 Q (F0 m 12 ls []) := by
          intro n
          induction n with
          | zero => intro x n1 h0; exact absurd h0 (Nat.not_lt_zero _)
          | succ n ih12 =>
            intro x n1 hm12 hxx hn1 H locs ls hP hD hS hl
            refine lv_iload_n hx hb dX2_countKnots_12 rfl (lv_at hl 3 rfl) ?_
            refine lv_bipush (v := nI 7) hx hb dX2_countKnots_13 (by decide) ?_
            refine nv_icmp_ge (tgt := 46) hx hb dX2_countKnots_15 (by decide) (by omega) (by omega) (fun c_2 => ?_) (fun c_2 => ?_)
            · skip
              refine lv_iinc (v := nI (y + 1)) (lv' := [(2, .int (nI (y + 1))), (0, .ref h0), (1, .int (nI n1)), (3, .int (nI x))]) hx hb dX2_countKnots_46 hl (k := 2) rfl (by exact nI_add _ 1) (by decide) rfl (fun ls hl => ?_)
              refine lv_goto (tgt := 4) hx hb dX2_countKnots_49 (by decide) ?_
              exact ih4 (y + 1) n1 (by omega) (by omega) (by rw [hn1, show x = 7 by omega, show 8 * (y + 1) = (8 * y + 7) + 1 by omega, cb_no (n := 8 * y + 7) (pKn_no (fun q => by have := q.1; omega))]) _ _ _ hP hD hS (lv_sub hl [1, 2, 0] rfl)
            · skip
              refine lv_aload_n hx hb dX2_countKnots_18 rfl (lv_at hl 0 rfl) ?_
              refine lv_iload_n hx hb dX2_countKnots_19 rfl (lv_at hl 3 rfl) ?_
              refine lv_iload_n hx hb dX2_countKnots_20 rfl (lv_at hl 2 rfl) ?_
              refine gcVi (ws' := fun _ => [(h0, .inr (2, [.ref h1, .ref h2, .ref h3])), (h1, .inl (cI, 64, .inl (nF T))), (h2, .inl (cI, 64, .inl (nF U))), (h3, .inl (cZ, 64, .inl (nF B)))]) (wr := []) (ci := 2) (q0 := 0) (As := [.int (nI x), .int (nI y)]) (rest := []) ⟨hx, hb, hml, hown, hts⟩ (c_X2_knotOf l D cI cZ tt H.size h0 h1 h2 h3 T U B x y (by first | assumption | omega) (by first | assumption | omega) (by first | assumption | omega)) (cwV 2 hts gX2_countKnots_X2_knotOf rfl rfl rfl (by decide +kernel) ⟨Nat.le_of_ble_eq_true rfl, Nat.le_of_ble_eq_true rfl⟩) hP hK hD hS hA hG rfl rfl [0, 1, 2, 3] [] [0, 1, 2, 3] (by decide) rfl rfl (by decide) (by decide) (by decide) (fun _ => rfl) hl.1 rfl rfl (Nat.le_of_ble_eq_true rfl) ⟨Nat.zero_le _, Nat.zero_le _⟩ dX2_countKnots_21 (fun r u H locs hp hP hD hS => ?_)
              obtain rfl := hp
              have hP : va_P D vwCl [(h0, .inr (2, [.ref h1, .ref h2, .ref h3])), (h1, .inl (cI, 64, .inl (nF T))), (h2, .inl (cI, 64, .inl (nF U))), (h3, .inl (cZ, 64, .inl (nF B)))] H := hP
              have hD : va_D A [(h0, .inr (2, [.ref h1, .ref h2, .ref h3])), (h1, .inl (cI, 64, .inl (nF T))), (h2, .inl (cI, 64, .inl (nF U))), (h3, .inl (cZ, 64, .inl (nF B)))] := hD
              refine lv_istore (lv' := [(4, .int (kn U (8 * y + x))), (0, .ref h0), (1, .int (nI n1)), (2, .int (nI y)), (3, .int (nI x))]) hx hb dX2_countKnots_24 hl (by decide) rfl (fun ls hl => ?_)
              refine lv_iload hx hb dX2_countKnots_26 (lv_at hl 0 rfl) ?_
              refine lv_if_eq (tgt := 40) hx hb dX2_countKnots_28 (by decide) (fun c_3 => ?_) (fun c_3 => ?_)
              · skip
                refine lv_iinc (v := nI (x + 1)) (lv' := [(3, .int (nI (x + 1))), (4, .int (kn U (8 * y + x))), (0, .ref h0), (1, .int (nI n1)), (2, .int (nI y))]) hx hb dX2_countKnots_40 hl (k := 4) rfl (by exact nI_add _ 1) (by decide) rfl (fun ls hl => ?_)
                refine lv_goto (tgt := 12) hx hb dX2_countKnots_43 (by decide) ?_
                exact ih12 (x + 1) n1 (by omega) (by omega) (by rw [hn1, show 8 * y + (x + 1) = (8 * y + x) + 1 by omega, cb_no (pKn_no (fun q => q.2.2.1 c_3))]) _ _ _ hP hD hS (lv_sub hl [2, 3, 4, 0] rfl)
              · skip
                refine lv_iload hx hb dX2_countKnots_31 (lv_at hl 0 rfl) ?_
                refine lv_iconst (v := nI 2) hx hb dX2_countKnots_33 (by decide) ?_
                refine lv_icmp_eq (tgt := 40) hx hb dX2_countKnots_34 (by decide) (fun c_4 => ?_) (fun c_4 => ?_)
                · skip
                  refine lv_iinc (v := nI (x + 1)) (lv' := [(3, .int (nI (x + 1))), (4, .int (kn U (8 * y + x))), (0, .ref h0), (1, .int (nI n1)), (2, .int (nI y))]) hx hb dX2_countKnots_40 hl (k := 4) rfl (by exact nI_add _ 1) (by decide) rfl (fun ls hl => ?_)
                  refine lv_goto (tgt := 12) hx hb dX2_countKnots_43 (by decide) ?_
                  exact ih12 (x + 1) n1 (by omega) (by omega) (by rw [hn1, show 8 * y + (x + 1) = (8 * y + x) + 1 by omega, cb_no (pKn_no (fun q => q.2.2.2 c_4))]) _ _ _ hP hD hS (lv_sub hl [2, 3, 4, 0] rfl)
                · skip
                  refine lv_iinc (v := nI (n1 + 1)) (lv' := [(1, .int (nI (n1 + 1))), (4, .int (kn U (8 * y + x))), (0, .ref h0), (2, .int (nI y)), (3, .int (nI x))]) hx hb dX2_countKnots_37 hl (k := 2) rfl (by exact nI_add _ 1) (by decide) rfl (fun ls hl => ?_)
                  refine lv_iinc (v := nI (x + 1)) (lv' := [(3, .int (nI (x + 1))), (1, .int (nI (n1 + 1))), (4, .int (kn U (8 * y + x))), (0, .ref h0), (2, .int (nI y))]) hx hb dX2_countKnots_40 hl (k := 4) rfl (by exact nI_add _ 1) (by decide) rfl (fun ls hl => ?_)
                  refine lv_goto (tgt := 12) hx hb dX2_countKnots_43 (by decide) ?_
                  exact ih12 (x + 1) (n1 + 1) (by omega) (by omega) (by rw [hn1, show 8 * y + (x + 1) = (8 * y + x) + 1 by omega, cb_yes (pKn_yes (by omega) (by omega) c_3 c_4)]) _ _ _ hP hD hS (lv_sub hl [3, 1, 4, 0] rfl)
        exact L12 (7 + 1) 0 n0 (by omega) (by omega) hn _ _ _ hP hD hS (lv_sub hl [1, 2, 3, 0] rfl)
  exact L4 (7 + 1) 0 0 (by omega) (by omega) rfl _ _ _ hP hD hS (lv_sub hl [2, 1, 0] rfl)

set_option maxHeartbeats 4000000 in
set_option maxRecDepth 100000 in
theorem c_X4_tone (l : Launch) (D : va_G) (cI cZ : ClassId) (tt : Nat → Nat) (sz : Nat) (w0 g0 a0 d0 k0 : Nat) (h0 h1 h2 h3 : Nat) (T U B : Nat → Nat) (x y v : Int32)  : MI l yX4_tone wsX4_tone ({ frames := 1, cells := 0, slots := 0, locals := 21 } : Room) D cI cZ tt [.ref w0, .int (x), .int (y), .int (v)] [(w0, .inr (4, [.ref h0, .ref g0, .ref a0, .ref d0, .ref k0])), (h0, .inr (2, [.ref h1, .ref h2, .ref h3])), (h1, .inl (cI, 64, .inl (nF T))), (h2, .inl (cI, 64, .inl (nF U))), (h3, .inl (cZ, 64, .inl (nF B)))] sz (fun (r : Int32) (u : (Nat → Nat)) => r = aTone T x y v ∧ (u = uTone T x y v)) (fun (u : (Nat → Nat)) => [(w0, .inr (4, [.ref h0, .ref g0, .ref a0, .ref d0, .ref k0])), (h0, .inr (2, [.ref h1, .ref h2, .ref h3])), (h1, .inl (cI, 64, .inl (nF u))), (h2, .inl (cI, 64, .inl (nF U))), (h3, .inl (cZ, 64, .inl (nF B)))]) := by
  refine entI (cc := cX4_tone) 6 (by decide) rfl (Nat.le_of_ble_eq_true rfl) (Or.inl rfl) (fun pr e s m args below meth c0 A Q H ls hx hb hml hown hts hsz hA hP hK hD hS hG hret hl => ?_)
  have hown : s.vm.findClass RX4 = some m.cls := hown
  have lk1 := hts (.fieldLink RX4 12 "BurinLines" "plate" "LBurinLines$Plate;") (by decide +kernel)
  have lk2 := hts (.fieldLink RX4 54 "BurinLines$Plate" "tones" "[I") (by decide +kernel)
  have hinX2 : ∀ w ∈ wsX20, w ∈ wsX4_tone := by decide +kernel
  have hinX4 : ∀ w ∈ wsX40, w ∈ wsX4_tone := by decide +kernel
  have hl : lv_has ls 6 [(0, .ref w0), (1, .int (x)), (2, .int (y)), (3, .int (v))] := hl
  refine lv_iload_n hx hb dX4_tone_0 rfl (lv_at hl 1 rfl) ?_
  refine lv_iload_n hx hb dX4_tone_1 rfl (lv_at hl 2 rfl) ?_
  refine gcS (As := [.int (x), .int (y)]) (rest := []) ⟨hx, hb, hml, hown, hts⟩ (c_X4_isCell l x y ) (va_cwS 2 hts gX4_tone_X4_isCell rfl rfl rfl (by decide +kernel) ⟨Nat.le_of_ble_eq_true rfl, Nat.le_of_ble_eq_true rfl⟩) hl.1 rfl rfl (Nat.le_of_ble_eq_true rfl) ⟨Nat.zero_le _, Nat.zero_le _⟩ dX4_tone_2 ?_
  refine nv_ifb_ne (tgt := 11) hx hb dX4_tone_5 (by decide) (fun c_1 => ?_) (fun c_1 => ?_)
  · skip
    obtain ⟨a, b, ha8, hb8, rfl, rfl⟩ := okc_nat c_1
    refine lv_iload_n hx hb dX4_tone_11 rfl (lv_at hl 3 rfl) ?_
    refine gcS (As := [.int (v)]) (rest := []) ⟨hx, hb, hml, hown, hts⟩ (c_X4_isTone l v ) (va_cwS 1 hts gX4_tone_X4_isTone rfl rfl rfl (by decide +kernel) ⟨Nat.le_of_ble_eq_true rfl, Nat.le_of_ble_eq_true rfl⟩) hl.1 rfl rfl (Nat.le_of_ble_eq_true rfl) ⟨Nat.zero_le _, Nat.zero_le _⟩ dX4_tone_12 ?_
    refine nv_ifb_ne (tgt := 21) hx hb dX4_tone_15 (by decide) (fun c_2 => ?_) (fun c_2 => ?_)
    · skip
      obtain ⟨w, hw100, rfl⟩ := okt_nat c_2
      refine lv_iload_n hx hb dX4_tone_21 rfl (lv_at hl 1 rfl) ?_
      refine lv_iload_n hx hb dX4_tone_22 rfl (lv_at hl 2 rfl) ?_
      refine gcS (As := [.int (nI a), .int (nI b)]) (rest := []) ⟨hx, hb, hml, hown, hts⟩ (c_X4_cellOf l a b ) (va_cwS 2 hts gX4_tone_X4_cellOf rfl rfl rfl (by decide +kernel) ⟨Nat.le_of_ble_eq_true rfl, Nat.le_of_ble_eq_true rfl⟩) hl.1 rfl rfl (Nat.le_of_ble_eq_true rfl) ⟨Nat.zero_le _, Nat.zero_le _⟩ dX4_tone_23 ?_
      refine lv_istore (lv' := [(4, .int (nI (8 * b + a))), (0, .ref w0), (1, .int (nI a)), (2, .int (nI b)), (3, .int (nI w))]) hx hb dX4_tone_26 hl (by decide) rfl (fun ls hl => ?_)
      refine lv_aload_n hx hb dX4_tone_28 rfl (lv_at hl 1 rfl) ?_
      refine va_get (D := D) (ci := 4) (v := .ref h0) (C := RX4) (T := TX4) (N := 5) hx hb hts hinX4 hown hK hP 0 rfl rfl 0 (by decide) lk1 (fun _ h9 => h9) rfl dX4_tone_29 ?_
      refine va_get (D := D) (ci := 2) (v := .ref h1) (C := RX2) (T := TX2) (N := 3) hx hb hts hinX2 hown hK hP 1 rfl rfl 0 (by decide) lk2 (fun _ h9 => h9) rfl dX4_tone_32 ?_
      refine lv_iload hx hb dX4_tone_35 (lv_at hl 0 rfl) ?_
      refine nv_iald hx hb hK hP 2 rfl (by omega) (by decide) dX4_tone_37 ?_
      refine lv_istore (lv' := [(5, .int (nI (T (8 * b + a)))), (4, .int (nI (8 * b + a))), (0, .ref w0), (1, .int (nI a)), (2, .int (nI b)), (3, .int (nI w))]) hx hb dX4_tone_38 hl (by decide) rfl (fun ls hl => ?_)
      refine lv_aload_n hx hb dX4_tone_40 rfl (lv_at hl 2 rfl) ?_
      refine va_get (D := D) (ci := 4) (v := .ref h0) (C := RX4) (T := TX4) (N := 5) hx hb hts hinX4 hown hK hP 0 rfl rfl 0 (by decide) lk1 (fun _ h9 => h9) rfl dX4_tone_41 ?_
      refine va_get (D := D) (ci := 2) (v := .ref h1) (C := RX2) (T := TX2) (N := 3) hx hb hts hinX2 hown hK hP 1 rfl rfl 0 (by decide) lk2 (fun _ h9 => h9) rfl dX4_tone_44 ?_
      refine lv_iload hx hb dX4_tone_47 (lv_at hl 1 rfl) ?_
      refine lv_iload_n hx hb dX4_tone_49 rfl (lv_at hl 5 rfl) ?_
      refine nv_iast hx hb hK hP hD hS 2 rfl (by omega) (by decide) dX4_tone_50 (fun H locs hP hD hS => ?_)
      have hP : va_P D vwCl [(w0, .inr (4, [.ref h0, .ref g0, .ref a0, .ref d0, .ref k0])), (h0, .inr (2, [.ref h1, .ref h2, .ref h3])), (h1, .inl (cI, 64, .inl (nF (va_up T (8 * b + a) w)))), (h2, .inl (cI, 64, .inl (nF U))), (h3, .inl (cZ, 64, .inl (nF B)))] H := hP
      have hD : va_D A [(w0, .inr (4, [.ref h0, .ref g0, .ref a0, .ref d0, .ref k0])), (h0, .inr (2, [.ref h1, .ref h2, .ref h3])), (h1, .inl (cI, 64, .inl (nF (va_up T (8 * b + a) w)))), (h2, .inl (cI, 64, .inl (nF U))), (h3, .inl (cZ, 64, .inl (nF B)))] := hD
      refine lv_iload hx hb dX4_tone_51 (lv_at hl 0 rfl) ?_
      exact hret _ _ _ _ _ _ dX4_tone_53 (⟨by unfold aTone; rw [if_pos (okc_of ha8 hb8), if_pos (okt_of hw100), ci_n ha8 hb8], by unfold uTone; rw [if_pos ⟨okc_of ha8 hb8, okt_of hw100⟩, ci_n ha8 hb8, cl_n (by omega)]⟩) hP hD hS
    · skip
      have nokt := c_2
      refine lv_bipush (v := (-3)) hx hb dX4_tone_18 (by decide) ?_
      exact hret _ T _ _ _ _ dX4_tone_20 (⟨by unfold aTone; rw [if_pos (okc_of ha8 hb8), if_neg nokt], by unfold uTone; rw [if_neg (fun q => nokt q.2)]⟩) hP hD hS
  · skip
    have nokc := c_1
    refine lv_bipush (v := (-2)) hx hb dX4_tone_8 (by decide) ?_
    exact hret _ T _ _ _ _ dX4_tone_10 (⟨by unfold aTone; rw [if_neg nokc], by unfold uTone; rw [if_neg (fun q => nokc q.1)]⟩) hP hD hS

set_option maxHeartbeats 4000000 in
set_option maxRecDepth 100000 in
theorem c_X4_shade (l : Launch) (D : va_G) (cI cZ : ClassId) (tt : Nat → Nat) (sz : Nat) (w0 g0 a0 d0 k0 : Nat) (h0 h1 h2 h3 : Nat) (T U B : Nat → Nat) (x0 y0 x1 y1 v : Int32) (hT : ∀ k, T k ≤ 100) : MI l yX4_shade wsX4_shade ({ frames := 1, cells := 0, slots := 0, locals := 21 } : Room) D cI cZ tt [.ref w0, .int (x0), .int (y0), .int (x1), .int (y1), .int (v)] [(w0, .inr (4, [.ref h0, .ref g0, .ref a0, .ref d0, .ref k0])), (h0, .inr (2, [.ref h1, .ref h2, .ref h3])), (h1, .inl (cI, 64, .inl (nF T))), (h2, .inl (cI, 64, .inl (nF U))), (h3, .inl (cZ, 64, .inl (nF B)))] sz (fun (r : Int32) (u : (Nat → Nat)) => r = aShade T x0 y0 x1 y1 v ∧ (u = uShade T x0 y0 x1 y1 v)) (fun (u : (Nat → Nat)) => [(w0, .inr (4, [.ref h0, .ref g0, .ref a0, .ref d0, .ref k0])), (h0, .inr (2, [.ref h1, .ref h2, .ref h3])), (h1, .inl (cI, 64, .inl (nF u))), (h2, .inl (cI, 64, .inl (nF U))), (h3, .inl (cZ, 64, .inl (nF B)))]) := by
  refine entI (cc := cX4_shade) 10 (by decide) rfl (Nat.le_of_ble_eq_true rfl) (Or.inl rfl) (fun pr e s m args below meth c0 A Q H ls hx hb hml hown hts hsz hA hP hK hD hS hG hret hl => ?_)
  have hown : s.vm.findClass RX4 = some m.cls := hown
  have lk1 := hts (.fieldLink RX4 12 "BurinLines" "plate" "LBurinLines$Plate;") (by decide +kernel)
  have lk2 := hts (.fieldLink RX4 54 "BurinLines$Plate" "tones" "[I") (by decide +kernel)
  have hinX2 : ∀ w ∈ wsX20, w ∈ wsX4_shade := by decide +kernel
  have hinX4 : ∀ w ∈ wsX40, w ∈ wsX4_shade := by decide +kernel
  have hl : lv_has ls 10 [(0, .ref w0), (1, .int (x0)), (2, .int (y0)), (3, .int (x1)), (4, .int (y1)), (5, .int (v))] := hl
  refine lv_iload_n hx hb dX4_shade_0 rfl (lv_at hl 1 rfl) ?_
  refine lv_iload_n hx hb dX4_shade_1 rfl (lv_at hl 2 rfl) ?_
  refine gcS (As := [.int (x0), .int (y0)]) (rest := []) ⟨hx, hb, hml, hown, hts⟩ (c_X4_isCell l x0 y0 ) (va_cwS 2 hts gX4_shade_X4_isCell rfl rfl rfl (by decide +kernel) ⟨Nat.le_of_ble_eq_true rfl, Nat.le_of_ble_eq_true rfl⟩) hl.1 rfl rfl (Nat.le_of_ble_eq_true rfl) ⟨Nat.zero_le _, Nat.zero_le _⟩ dX4_shade_2 ?_
  refine nv_ifb_eq (tgt := 17) hx hb dX4_shade_5 (by decide) (fun c_1 => ?_) (fun c_1 => ?_)
  · skip
    have nokc : ¬ (okc x0 y0 ∧ okc x1 y1) := fun q => c_1 q.1
    refine lv_bipush (v := (-2)) hx hb dX4_shade_17 (by decide) ?_
    exact hret _ T _ _ _ _ dX4_shade_19 (⟨by unfold aShade; rw [if_neg nokc], by unfold uShade; rw [if_neg (fun q => nokc ⟨q.1, q.2.1⟩)]⟩) hP hD hS
  · skip
    refine lv_iload_n hx hb dX4_shade_8 rfl (lv_at hl 3 rfl) ?_
    refine lv_iload hx hb dX4_shade_9 (lv_at hl 4 rfl) ?_
    refine gcS (As := [.int (x1), .int (y1)]) (rest := []) ⟨hx, hb, hml, hown, hts⟩ (c_X4_isCell l x1 y1 ) (va_cwS 2 hts gX4_shade_X4_isCell rfl rfl rfl (by decide +kernel) ⟨Nat.le_of_ble_eq_true rfl, Nat.le_of_ble_eq_true rfl⟩) hl.1 rfl rfl (Nat.le_of_ble_eq_true rfl) ⟨Nat.zero_le _, Nat.zero_le _⟩ dX4_shade_11 ?_
    refine nv_ifb_ne (tgt := 20) hx hb dX4_shade_14 (by decide) (fun c_2 => ?_) (fun c_2 => ?_)
    · skip
      obtain ⟨a, b, ha8, hb8, rfl, rfl⟩ := okc_nat c_1
      obtain ⟨p, q, hp8, hq8, rfl, rfl⟩ := okc_nat c_2
      refine lv_iload hx hb dX4_shade_20 (lv_at hl 5 rfl) ?_
      refine gcS (As := [.int (v)]) (rest := []) ⟨hx, hb, hml, hown, hts⟩ (c_X4_isTone l v ) (va_cwS 1 hts gX4_shade_X4_isTone rfl rfl rfl (by decide +kernel) ⟨Nat.le_of_ble_eq_true rfl, Nat.le_of_ble_eq_true rfl⟩) hl.1 rfl rfl (Nat.le_of_ble_eq_true rfl) ⟨Nat.zero_le _, Nat.zero_le _⟩ dX4_shade_22 ?_
      refine nv_ifb_eq (tgt := 39) hx hb dX4_shade_25 (by decide) (fun c_3 => ?_) (fun c_3 => ?_)
      · skip
        have noksh : ¬ oksh (nI a) (nI b) (nI p) (nI q) v := fun z => c_3 z.1
        refine lv_bipush (v := (-3)) hx hb dX4_shade_39 (by decide) ?_
        exact hret _ T _ _ _ _ dX4_shade_41 (⟨by unfold aShade; rw [if_pos ⟨okc_of ha8 hb8, okc_of hp8 hq8⟩, if_neg noksh], by unfold uShade; rw [if_neg (fun q => noksh q.2.2)]⟩) hP hD hS
      · skip
        obtain ⟨w, hw100, rfl⟩ := okt_nat c_3
        refine lv_iload_n hx hb dX4_shade_28 rfl (lv_at hl 1 rfl) ?_
        refine lv_iload_n hx hb dX4_shade_29 rfl (lv_at hl 3 rfl) ?_
        refine nv_icmp_gt (tgt := 39) hx hb dX4_shade_30 (by decide) (by omega) (by omega) (fun c_4 => ?_) (fun c_4 => ?_)
        · skip
          have noksh : ¬ oksh (nI a) (nI b) (nI p) (nI q) (nI w) := fun z => z.2.1 (nI_lt c_4 (by omega))
          refine lv_bipush (v := (-3)) hx hb dX4_shade_39 (by decide) ?_
          exact hret _ T _ _ _ _ dX4_shade_41 (⟨by unfold aShade; rw [if_pos ⟨okc_of ha8 hb8, okc_of hp8 hq8⟩, if_neg noksh], by unfold uShade; rw [if_neg (fun q => noksh q.2.2)]⟩) hP hD hS
        · skip
          refine lv_iload_n hx hb dX4_shade_33 rfl (lv_at hl 2 rfl) ?_
          refine lv_iload hx hb dX4_shade_34 (lv_at hl 4 rfl) ?_
          refine nv_icmp_le (tgt := 42) hx hb dX4_shade_36 (by decide) (by omega) (by omega) (fun c_5 => ?_) (fun c_5 => ?_)
          · skip
            have hoksh : oksh (nI a) (nI b) (nI p) (nI q) (nI w) := ⟨okt_of hw100, nI_nlt (by omega) (by omega), nI_nlt (by omega) (by omega)⟩
            refine lv_iconst (v := nI 0) hx hb dX4_shade_42 (by decide) ?_
            refine lv_istore (lv' := [(6, .int (nI 0)), (0, .ref w0), (1, .int (nI a)), (2, .int (nI b)), (3, .int (nI p)), (4, .int (nI q)), (5, .int (nI w))]) hx hb dX4_shade_43 hl (by decide) rfl (fun ls hl => ?_)
            refine lv_iload_n hx hb dX4_shade_45 rfl (lv_at hl 3 rfl) ?_
            refine lv_istore (lv' := [(7, .int (nI b)), (6, .int (nI 0)), (0, .ref w0), (1, .int (nI a)), (2, .int (nI b)), (3, .int (nI p)), (4, .int (nI q)), (5, .int (nI w))]) hx hb dX4_shade_46 hl (by decide) rfl (fun ls hl => ?_)
            have L48 : ∀ (n : Nat) (i : Nat) (T2 : Nat → Nat) (n2 : Nat), q + 1 - b - i < n → (i ≤ q + 1 - b) → (T2 = (shY T b w a (p + 1 - a) i).1) → (n2 = (shY T b w a (p + 1 - a) i).2) → (∀ k, T2 k ≤ 100) → ∀ (H : Heap) (locs : List Loc) (ls : Array Slot), va_P D vwCl [(w0, .inr (4, [.ref h0, .ref g0, .ref a0, .ref d0, .ref k0])), (h0, .inr (2, [.ref h1, .ref h2, .ref h3])), (h1, .inl (cI, 64, .inl (nF T2))), (h2, .inl (cI, 64, .inl (nF U))), (h3, .inl (cZ, 64, .inl (nF B)))] H → va_D A [(w0, .inr (4, [.ref h0, .ref g0, .ref a0, .ref d0, .ref k0])), (h0, .inr (2, [.ref h1, .ref h2, .ref h3])), (h1, .inl (cI, 64, .inl (nF T2))), (h2, .inl (cI, 64, .inl (nF U))), (h3, .inl (cZ, 64, .inl (nF B)))] → va_S A s.heap H locs → lv_has ls 10 [(0, .ref w0), (1, .int (nI a)), (2, .int (nI b)), (3, .int (nI p)), (4, .int (nI q)), (5, .int (nI w)), (6, .int (nI n2)), (7, .int (nI (b + i)))] → W pr l e ({ frames := 1, cells := 0, slots := 0, locals := 21 } : Room) s m args below meth c0 H locs 0 0 Q (F0 m 48 ls []) := by
              intro n
              induction n with
              | zero => intro i T2 n2 h0; exact absurd h0 (Nat.not_lt_zero _)
              | succ n ih48 =>
                intro i T2 n2 hm48 hi hT2 hn2 hT2b H locs ls hP hD hS hl
                refine lv_iload hx hb dX4_shade_48 (lv_at hl 7 rfl) ?_
                refine lv_iload hx hb dX4_shade_50 (lv_at hl 4 rfl) ?_
                refine nv_icmp_gt (tgt := 115) hx hb dX4_shade_52 (by decide) (by omega) (by omega) (fun c_6 => ?_) (fun c_6 => ?_)
                · skip
                  refine lv_iload hx hb dX4_shade_115 (lv_at hl 6 rfl) ?_
                  exact hret _ _ _ _ _ _ dX4_shade_117 (⟨by unfold aShade; rw [if_pos ⟨okc_of ha8 hb8, okc_of hp8 hq8⟩, if_pos hoksh, cl_n (by omega), cl_n (by omega), cl_n (by omega), cl_n (by omega), cl_n (by omega), hn2, show i = q + 1 - b by omega], by unfold uShade; rw [if_pos ⟨okc_of ha8 hb8, okc_of hp8 hq8, hoksh⟩, cl_n (by omega), cl_n (by omega), cl_n (by omega), cl_n (by omega), cl_n (by omega), hT2, show i = q + 1 - b by omega]⟩) hP hD hS
                · skip
                  refine lv_iload_n hx hb dX4_shade_55 rfl (lv_at hl 1 rfl) ?_
                  refine lv_istore (lv' := [(8, .int (nI a)), (0, .ref w0), (1, .int (nI a)), (2, .int (nI b)), (3, .int (nI p)), (4, .int (nI q)), (5, .int (nI w)), (6, .int (nI n2)), (7, .int (nI (b + i)))]) hx hb dX4_shade_56 hl (by decide) rfl (fun ls hl => ?_)
                  have L58 : ∀ (n : Nat) (j : Nat) (T3 : Nat → Nat) (n3 : Nat), p + 1 - a - j < n → (j ≤ p + 1 - a) → (T3 = (shX T2 (b + i) w a j).1) → (n3 = n2 + (shX T2 (b + i) w a j).2) → (∀ k, T3 k ≤ 100) → ∀ (H : Heap) (locs : List Loc) (ls : Array Slot), va_P D vwCl [(w0, .inr (4, [.ref h0, .ref g0, .ref a0, .ref d0, .ref k0])), (h0, .inr (2, [.ref h1, .ref h2, .ref h3])), (h1, .inl (cI, 64, .inl (nF T3))), (h2, .inl (cI, 64, .inl (nF U))), (h3, .inl (cZ, 64, .inl (nF B)))] H → va_D A [(w0, .inr (4, [.ref h0, .ref g0, .ref a0, .ref d0, .ref k0])), (h0, .inr (2, [.ref h1, .ref h2, .ref h3])), (h1, .inl (cI, 64, .inl (nF T3))), (h2, .inl (cI, 64, .inl (nF U))), (h3, .inl (cZ, 64, .inl (nF B)))] → va_S A s.heap H locs → lv_has ls 10 [(0, .ref w0), (1, .int (nI a)), (2, .int (nI b)), (3, .int (nI p)), (4, .int (nI q)), (5, .int (nI w)), (6, .int (nI n3)), (7, .int (nI (b + i))), (8, .int (nI (a + j)))] → W pr l e ({ frames := 1, cells := 0, slots := 0, locals := 21 } : Room) s m args below meth c0 H locs 0 0 Q (F0 m 58 ls []) := by
                    intro n
                    induction n with
                    | zero => intro j T3 n3 h0; exact absurd h0 (Nat.not_lt_zero _)
                    | succ n ih58 =>
                      intro j T3 n3 hm58 hj hT3 hn3 hT3b H locs ls hP hD hS hl
                      refine lv_iload hx hb dX4_shade_58 (lv_at hl 8 rfl) ?_
                      refine lv_iload_n hx hb dX4_shade_60 rfl (lv_at hl 3 rfl) ?_
                      refine nv_icmp_gt (tgt := 109) hx hb dX4_shade_61 (by decide) (by omega) (by omega) (fun c_7 => ?_) (fun c_7 => ?_)
                      · skip
                        refine lv_iinc (v := nI ((b + i) + 1)) (lv' := [(7, .int (nI ((b + i) + 1))), (0, .ref w0), (1, .int (nI a)), (2, .int (nI b)), (3, .int (nI p)), (4, .int (nI q)), (5, .int (nI w)), (6, .int (nI n3)), (8, .int (nI (a + j)))]) hx hb dX4_shade_109 hl (k := 7) rfl (by exact nI_add _ 1) (by decide) rfl (fun ls hl => ?_)
                        refine lv_goto (tgt := 48) hx hb dX4_shade_112 (by decide) ?_
                        exact ih48 (i + 1) T3 n3 (by omega) (by omega) (by rw [hT3, show j = p + 1 - a by omega, hT2]; rfl) (by rw [hn3, show j = p + 1 - a by omega, hn2, hT2]; rfl) hT3b _ _ _ hP hD hS (lv_sub hl [1, 2, 3, 4, 5, 6, 7, 0] rfl)
                      · skip
                        refine lv_iload hx hb dX4_shade_64 (lv_at hl 8 rfl) ?_
                        refine lv_iload hx hb dX4_shade_66 (lv_at hl 7 rfl) ?_
                        refine gcS (As := [.int (nI (a + j)), .int (nI (b + i))]) (rest := []) ⟨hx, hb, hml, hown, hts⟩ (c_X4_cellOf l (a + j) (b + i) ) (va_cwS 2 hts gX4_shade_X4_cellOf rfl rfl rfl (by decide +kernel) ⟨Nat.le_of_ble_eq_true rfl, Nat.le_of_ble_eq_true rfl⟩) hl.1 rfl rfl (Nat.le_of_ble_eq_true rfl) ⟨Nat.zero_le _, Nat.zero_le _⟩ dX4_shade_68 ?_
                        refine lv_istore (lv' := [(9, .int (nI (8 * (b + i) + (a + j)))), (0, .ref w0), (1, .int (nI a)), (2, .int (nI b)), (3, .int (nI p)), (4, .int (nI q)), (5, .int (nI w)), (6, .int (nI n3)), (7, .int (nI (b + i))), (8, .int (nI (a + j)))]) hx hb dX4_shade_71 hl (by decide) rfl (fun ls hl => ?_)
                        refine lv_aload_n hx hb dX4_shade_73 rfl (lv_at hl 1 rfl) ?_
                        refine va_get (D := D) (ci := 4) (v := .ref h0) (C := RX4) (T := TX4) (N := 5) hx hb hts hinX4 hown hK hP 0 rfl rfl 0 (by decide) lk1 (fun _ h9 => h9) rfl dX4_shade_74 ?_
                        refine va_get (D := D) (ci := 2) (v := .ref h1) (C := RX2) (T := TX2) (N := 3) hx hb hts hinX2 hown hK hP 1 rfl rfl 0 (by decide) lk2 (fun _ h9 => h9) rfl dX4_shade_77 ?_
                        refine lv_iload hx hb dX4_shade_80 (lv_at hl 0 rfl) ?_
                        refine nv_iald hx hb hK hP 2 rfl (by omega) (by decide) dX4_shade_82 ?_
                        have bd_8 := hT3b (8 * (b + i) + (a + j))
                        refine lv_iload hx hb dX4_shade_83 (lv_at hl 6 rfl) ?_
                        refine nv_icmp_eq (tgt := 103) hx hb dX4_shade_85 (by decide) (by omega) (by omega) (fun c_9 => ?_) (fun c_9 => ?_)
                        · skip
                          refine lv_iinc (v := nI ((a + j) + 1)) (lv' := [(8, .int (nI ((a + j) + 1))), (9, .int (nI (8 * (b + i) + (a + j)))), (0, .ref w0), (1, .int (nI a)), (2, .int (nI b)), (3, .int (nI p)), (4, .int (nI q)), (5, .int (nI w)), (6, .int (nI n3)), (7, .int (nI (b + i)))]) hx hb dX4_shade_103 hl (k := 9) rfl (by exact nI_add _ 1) (by decide) rfl (fun ls hl => ?_)
                          refine lv_goto (tgt := 58) hx hb dX4_shade_106 (by decide) ?_
                          exact ih58 (j + 1) T3 n3 (by omega) (by omega) (by rw [shX, hT3, up_same (by rw [← hT3]; assumption)]) (by rw [shX, hn3, if_pos (by rw [← hT3]; assumption)]; rfl) hT3b _ _ _ hP hD hS (lv_sub hl [2, 3, 4, 5, 6, 7, 8, 9, 0] rfl)
                        · skip
                          refine lv_aload_n hx hb dX4_shade_88 rfl (lv_at hl 1 rfl) ?_
                          refine va_get (D := D) (ci := 4) (v := .ref h0) (C := RX4) (T := TX4) (N := 5) hx hb hts hinX4 hown hK hP 0 rfl rfl 0 (by decide) lk1 (fun _ h9 => h9) rfl dX4_shade_89 ?_
                          refine va_get (D := D) (ci := 2) (v := .ref h1) (C := RX2) (T := TX2) (N := 3) hx hb hts hinX2 hown hK hP 1 rfl rfl 0 (by decide) lk2 (fun _ h9 => h9) rfl dX4_shade_92 ?_
                          refine lv_iload hx hb dX4_shade_95 (lv_at hl 0 rfl) ?_
                          refine lv_iload hx hb dX4_shade_97 (lv_at hl 6 rfl) ?_
                          refine nv_iast hx hb hK hP hD hS 2 rfl (by omega) (by decide) dX4_shade_99 (fun H locs hP hD hS => ?_)
                          have hP : va_P D vwCl [(w0, .inr (4, [.ref h0, .ref g0, .ref a0, .ref d0, .ref k0])), (h0, .inr (2, [.ref h1, .ref h2, .ref h3])), (h1, .inl (cI, 64, .inl (nF (va_up T3 (8 * (b + i) + (a + j)) w)))), (h2, .inl (cI, 64, .inl (nF U))), (h3, .inl (cZ, 64, .inl (nF B)))] H := hP
                          have hD : va_D A [(w0, .inr (4, [.ref h0, .ref g0, .ref a0, .ref d0, .ref k0])), (h0, .inr (2, [.ref h1, .ref h2, .ref h3])), (h1, .inl (cI, 64, .inl (nF (va_up T3 (8 * (b + i) + (a + j)) w)))), (h2, .inl (cI, 64, .inl (nF U))), (h3, .inl (cZ, 64, .inl (nF B)))] := hD
                          refine lv_iinc (v := nI (n3 + 1)) (lv' := [(6, .int (nI (n3 + 1))), (9, .int (nI (8 * (b + i) + (a + j)))), (0, .ref w0), (1, .int (nI a)), (2, .int (nI b)), (3, .int (nI p)), (4, .int (nI q)), (5, .int (nI w)), (7, .int (nI (b + i))), (8, .int (nI (a + j)))]) hx hb dX4_shade_100 hl (k := 7) rfl (by exact nI_add _ 1) (by decide) rfl (fun ls hl => ?_)
                          refine lv_iinc (v := nI ((a + j) + 1)) (lv' := [(8, .int (nI ((a + j) + 1))), (6, .int (nI (n3 + 1))), (9, .int (nI (8 * (b + i) + (a + j)))), (0, .ref w0), (1, .int (nI a)), (2, .int (nI b)), (3, .int (nI p)), (4, .int (nI q)), (5, .int (nI w)), (7, .int (nI (b + i)))]) hx hb dX4_shade_103 hl (k := 9) rfl (by exact nI_add _ 1) (by decide) rfl (fun ls hl => ?_)
                          refine lv_goto (tgt := 58) hx hb dX4_shade_106 (by decide) ?_
                          exact ih58 (j + 1) (va_up T3 (8 * (b + i) + (a + j)) w) (n3 + 1) (by omega) (by omega) (by rw [shX, hT3]) (by rw [shX, hn3, if_neg (by rw [← hT3]; assumption)]; rfl) (by intro k; unfold va_up; split; exact hw100; exact hT3b k) _ _ _ hP hD hS (lv_sub hl [3, 4, 5, 6, 7, 8, 1, 9, 0] rfl)
                  exact L58 (p + 1 - a + 1) 0 T2 n2 (by omega) (by omega) rfl rfl hT2b _ _ _ hP hD hS (lv_sub hl [1, 2, 3, 4, 5, 6, 7, 8, 0] rfl)
            exact L48 (q + 1 - b + 1) 0 T 0 (by omega) (by omega) rfl rfl hT _ _ _ hP hD hS (lv_sub hl [2, 3, 4, 5, 6, 7, 1, 0] rfl)
          · skip
            have noksh : ¬ oksh (nI a) (nI b) (nI p) (nI q) (nI w) := fun z => z.2.2 (nI_lt (by omega) (by omega))
            refine lv_bipush (v := (-3)) hx hb dX4_shade_39 (by decide) ?_
            exact hret _ T _ _ _ _ dX4_shade_41 (⟨by unfold aShade; rw [if_pos ⟨okc_of ha8 hb8, okc_of hp8 hq8⟩, if_neg noksh], by unfold uShade; rw [if_neg (fun q => noksh q.2.2)]⟩) hP hD hS
    · skip
      have nokc : ¬ (okc x0 y0 ∧ okc x1 y1) := fun q => c_2 q.2
      refine lv_bipush (v := (-2)) hx hb dX4_shade_17 (by decide) ?_
      exact hret _ T _ _ _ _ dX4_shade_19 (⟨by unfold aShade; rw [if_neg nokc], by unfold uShade; rw [if_neg (fun q => nokc ⟨q.1, q.2.1⟩)]⟩) hP hD hS
