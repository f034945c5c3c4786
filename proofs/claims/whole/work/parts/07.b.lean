set_option maxHeartbeats 4000000 in
set_option maxRecDepth 100000 in
theorem c_X2_growth (l : Launch) (f t : Nat) (hf : f < 8) (ht : t < 8) : MS l yX2_growth wsX2_growth ({ frames := 1, cells := 0, slots := 0, locals := 22 } : Room) [.int (nI f), .int (nI t)] (gw f t) := by
  refine entS (cc := cX2_growth) 3 (by decide) rfl (Nat.le_of_ble_eq_true rfl) (rfl) (fun pr e s m args below meth c0 Q H ls hx hb hml hown hts hret hl => ?_)
  have hown : s.vm.findClass RX2 = some m.cls := hown
  have lk1 := hts (.methodLink RX2 48 yJ9_floorMod_7cf53) (by decide +kernel)
  have lk2 := hts (.static yJ9_floorMod_7cf53) (by decide +kernel)
  have lk3 := hts (.initialized RJ9) (by decide +kernel)
  have lk4 := hts (.code yJ9_floorMod_7cf53 cJ9_floorMod_7cf53 3 (some .int)) (by decide +kernel)
  have hl : lv_has ls 3 [(0, .int (nI f)), (1, .int (nI t))] := hl
  refine lv_iload_n hx hb dX2_growth_0 rfl (lv_at hl 1 rfl) ?_
  refine lv_iload_n hx hb dX2_growth_1 rfl (lv_at hl 0 rfl) ?_
  refine lv_isub hx hb dX2_growth_2 ?_
  refine lv_bipush (v := nI 8) hx hb dX2_growth_3 (by decide) ?_
  refine nv_fm hx hb (by rw [hml]; exact hl.1.symm) hown lk1 lk2 lk3 lk4 (Nat.le_of_ble_eq_true rfl) (Nat.le_of_ble_eq_true rfl) (Nat.zero_le _) (Nat.zero_le _) dX2_growth_5 ?_
  refine top_eq (fmo8_d (by first | omega | assumption) (by first | omega | assumption)) ?_
  refine lv_istore_n (lv' := [(2, .int (nI ((t + 8 - f) % 8))), (0, .int (nI f)), (1, .int (nI t))]) hx hb dX2_growth_8 rfl hl (by decide) rfl (fun ls hl => ?_)
  refine lv_iload_n hx hb dX2_growth_9 rfl (lv_at hl 0 rfl) ?_
  refine lv_iconst (v := nI 4) hx hb dX2_growth_10 (by decide) ?_
  refine nv_icmp_le (tgt := 21) hx hb dX2_growth_11 (by decide) (by omega) (by omega) (fun c_1 => ?_) (fun c_1 => ?_)
  · skip
    refine lv_iload_n hx hb dX2_growth_21 rfl (lv_at hl 0 rfl) ?_
    exact hret _ _ _ dX2_growth_22 (by unfold gw; rw [if_neg (by omega)])
  · skip
    refine lv_iload_n hx hb dX2_growth_14 rfl (lv_at hl 0 rfl) ?_
    refine lv_bipush (v := nI 8) hx hb dX2_growth_15 (by decide) ?_
    refine lv_isub hx hb dX2_growth_17 ?_
    refine lv_goto (tgt := 22) hx hb dX2_growth_18 (by decide) ?_
    exact hret _ _ _ dX2_growth_22 (by unfold gw; rw [if_pos (by omega)])

theorem gro_add {f t : Nat} (h : f < 8) : nI t - nI f + nI 8 = nI (t + 8 - f) := by
  have e : ∀ x y z : Int32, x - y + z = x + z - y := by
    intro x y z
    apply Int32.toBitVec_inj.mp
    simp
    try bv_omega
  rw [e, nI_add, pk_sub (by omega)]

set_option maxHeartbeats 4000000 in
set_option maxRecDepth 100000 in
theorem c_X5_grows (l : Launch) (f t : Nat) (hf : f < 8) (ht : t < 8) : MS l yX5_grows wsX5_grows ({ frames := 0, cells := 0, slots := 0, locals := 0 } : Room) [.int (nI f), .int (nI t)] (gw f t) := by
  refine entS (cc := cX5_grows) 3 (by decide) rfl (Nat.le_of_ble_eq_true rfl) (rfl) (fun pr e s m args below meth c0 Q H ls hx hb hml hown hts hret hl => ?_)
  have hown : s.vm.findClass RX5 = some m.cls := hown
  have hl : lv_has ls 3 [(0, .int (nI f)), (1, .int (nI t))] := hl
  refine lv_iload_n hx hb dX5_grows_0 rfl (lv_at hl 1 rfl) ?_
  refine lv_iload_n hx hb dX5_grows_1 rfl (lv_at hl 0 rfl) ?_
  refine lv_isub hx hb dX5_grows_2 ?_
  refine lv_bipush (v := nI 8) hx hb dX5_grows_3 (by decide) ?_
  refine lv_iadd hx hb dX5_grows_5 ?_
  refine top_eq (gro_add hf) ?_
  refine lv_bipush (v := nI 8) hx hb dX5_grows_6 (by decide) ?_
  refine nv_irem hx hb dX5_grows_8 (by omega) (by omega) (by omega) ?_
  refine lv_istore_n (lv' := [(2, .int (nI ((t + 8 - f) % 8))), (0, .int (nI f)), (1, .int (nI t))]) hx hb dX5_grows_9 rfl hl (by decide) rfl (fun ls hl => ?_)
  refine lv_iload_n hx hb dX5_grows_10 rfl (lv_at hl 0 rfl) ?_
  refine lv_iconst (v := nI 4) hx hb dX5_grows_11 (by decide) ?_
  refine nv_icmp_le (tgt := 22) hx hb dX5_grows_12 (by decide) (by omega) (by omega) (fun c_1 => ?_) (fun c_1 => ?_)
  · skip
    refine lv_iload_n hx hb dX5_grows_22 rfl (lv_at hl 0 rfl) ?_
    exact hret _ _ _ dX5_grows_23 (by unfold gw; rw [if_neg (by omega)])
  · skip
    refine lv_iload_n hx hb dX5_grows_15 rfl (lv_at hl 0 rfl) ?_
    refine lv_bipush (v := nI 8) hx hb dX5_grows_16 (by decide) ?_
    refine lv_isub hx hb dX5_grows_18 ?_
    refine lv_goto (tgt := 23) hx hb dX5_grows_19 (by decide) ?_
    exact hret _ _ _ dX5_grows_23 (by unfold gw; rw [if_pos (by omega)])

set_option maxHeartbeats 4000000 in
set_option maxRecDepth 100000 in
theorem c_X2_strainAgainst (l : Launch) (D : va_G) (cI cZ : ClassId) (tt : Nat → Nat) (sz : Nat) (h0 h1 h2 h3 : Nat) (T U B : Nat → Nat) (x y : Int32) (t : Nat) (hU : ∀ k, U k < 8) (ht : t < 8) : MI l yX2_strainAgainst wsX2_strainAgainst ({ frames := 1, cells := 0, slots := 0, locals := 22 } : Room) D cI cZ tt [.ref h0, .int (x), .int (y), .int (nI t)] [(h0, .inr (2, [.ref h1, .ref h2, .ref h3])), (h1, .inl (cI, 64, .inl (nF T))), (h2, .inl (cI, 64, .inl (nF U))), (h3, .inl (cZ, 64, .inl (nF B)))] sz (fun (r : Int32) (_ : Unit) => r = nI (sa U x y t)) (fun (_ : Unit) => [(h0, .inr (2, [.ref h1, .ref h2, .ref h3])), (h1, .inl (cI, 64, .inl (nF T))), (h2, .inl (cI, 64, .inl (nF U))), (h3, .inl (cZ, 64, .inl (nF B)))]) := by
  refine entI (cc := cX2_strainAgainst) 4 (by decide) rfl (Nat.le_of_ble_eq_true rfl) (Or.inl rfl) (fun pr e s m args below meth c0 A Q H ls hx hb hml hown hts hsz hA hP hK hD hS hG hret hl => ?_)
  have hown : s.vm.findClass RX2 = some m.cls := hown
  have lk1 := hts (.initialized RX4) (by decide +kernel)
  have lk2 := hts (.static yX4_isCell) (by decide +kernel)
  have lk3 := hts (.fieldLink RX2 15 "BurinLines$Plate" "turns" "[I") (by decide +kernel)
  have lk4 := hts (.static yX4_cellOf) (by decide +kernel)
  have lk5 := hts (.methodLink RX2 48 yJ9_floorMod_7cf53) (by decide +kernel)
  have lk6 := hts (.static yJ9_floorMod_7cf53) (by decide +kernel)
  have lk7 := hts (.initialized RJ9) (by decide +kernel)
  have lk8 := hts (.code yJ9_floorMod_7cf53 cJ9_floorMod_7cf53 3 (some .int)) (by decide +kernel)
  have hinX2 : ∀ w ∈ wsX20, w ∈ wsX2_strainAgainst := by decide +kernel
  have hl : lv_has ls 4 [(0, .ref h0), (1, .int (x)), (2, .int (y)), (3, .int (nI t))] := hl
  refine lv_iload_n hx hb dX2_strainAgainst_0 rfl (lv_at hl 1 rfl) ?_
  refine lv_iload_n hx hb dX2_strainAgainst_1 rfl (lv_at hl 2 rfl) ?_
  refine gcSN (As := [.int (x), .int (y)]) (rest := []) ⟨hx, hb, hml, hown, hts⟩ (c_X4_isCell l x y ) (va_cnB 2 hts gX2_strainAgainst_X4_isCell_n38 rfl rfl rfl (hG.1 (RX2, 38, yX4_isCell) (by decide +kernel)) lk1 (by decide +kernel) ⟨Nat.le_of_ble_eq_true rfl, Nat.le_of_ble_eq_true rfl⟩) lk2 hl.1 rfl rfl (Nat.le_of_ble_eq_true rfl) ⟨Nat.zero_le _, Nat.zero_le _⟩ dX2_strainAgainst_2 ?_
  refine nv_ifb_ne (tgt := 10) hx hb dX2_strainAgainst_5 (by decide) (fun c_1 => ?_) (fun c_1 => ?_)
  · skip
    obtain ⟨a, b, ha8, hb8, rfl, rfl⟩ := okc_nat c_1
    refine nv_sget hx hb hG hS hown 0 (by decide) rfl dX2_strainAgainst_10 ?_
    refine lv_aload_n hx hb dX2_strainAgainst_13 rfl (lv_at hl 0 rfl) ?_
    refine va_get (D := D) (ci := 2) (v := .ref h2) (C := RX2) (T := TX2) (N := 3) hx hb hts hinX2 hown hK hP 0 rfl rfl 1 (by decide) lk3 (fun _ h9 => h9) rfl dX2_strainAgainst_14 ?_
    refine lv_iload_n hx hb dX2_strainAgainst_17 rfl (lv_at hl 1 rfl) ?_
    refine lv_iload_n hx hb dX2_strainAgainst_18 rfl (lv_at hl 2 rfl) ?_
    refine gcSN (As := [.int (nI a), .int (nI b)]) (rest := [.ref h2, .ref ((tt 0))]) ⟨hx, hb, hml, hown, hts⟩ (c_X4_cellOf l a b ) (va_cnB 2 hts gX2_strainAgainst_X4_cellOf_n45 rfl rfl rfl (hG.1 (RX2, 45, yX4_cellOf) (by decide +kernel)) lk1 (by decide +kernel) ⟨Nat.le_of_ble_eq_true rfl, Nat.le_of_ble_eq_true rfl⟩) lk4 hl.1 rfl rfl (Nat.le_of_ble_eq_true rfl) ⟨Nat.zero_le _, Nat.zero_le _⟩ dX2_strainAgainst_19 ?_
    refine nv_iald hx hb hK hP 2 rfl (by omega) (by decide) dX2_strainAgainst_22 ?_
    have bd_2 := hU (8 * b + a)
    refine lv_iload_n hx hb dX2_strainAgainst_23 rfl (lv_at hl 3 rfl) ?_
    refine lv_isub hx hb dX2_strainAgainst_24 ?_
    refine lv_bipush (v := nI 8) hx hb dX2_strainAgainst_25 (by decide) ?_
    refine nv_fm hx hb (by rw [hml]; exact hl.1.symm) hown lk5 lk6 lk7 lk8 (Nat.le_of_ble_eq_true rfl) (Nat.le_of_ble_eq_true rfl) (Nat.zero_le _) (Nat.zero_le _) dX2_strainAgainst_27 ?_
    refine top_eq (fmo8_d (by first | omega | assumption) (by first | omega | assumption)) ?_
    refine nv_tab hx hb hG hS 0 (by decide) (i := ((U (8 * b + a) + 8 - t) % 8)) (by show (U (8 * b + a) + 8 - t) % 8 < 8; omega) dX2_strainAgainst_30 ?_
    exact hret _ () _ _ _ _ dX2_strainAgainst_31 (by rw [sa_nat U t ha8 hb8]; exact apS_tab (hU _) ht) hP hD hS
  · skip
    refine lv_iconst (v := nI 0) hx hb dX2_strainAgainst_8 (by decide) ?_
    exact hret _ () _ _ _ _ dX2_strainAgainst_9 (by unfold sa; rw [if_neg (by assumption)]) hP hD hS

set_option maxHeartbeats 4000000 in
set_option maxRecDepth 100000 in
theorem c_X2_strain (l : Launch) (D : va_G) (cI cZ : ClassId) (tt : Nat → Nat) (sz : Nat) (h0 h1 h2 h3 : Nat) (T U B : Nat → Nat) (c t : Nat) (hU : ∀ k, U k < 8) (hc : c < 64) (ht : t < 8) : MI l yX2_strain wsX2_strain ({ frames := 2, cells := 0, slots := 0, locals := 45 } : Room) D cI cZ tt [.ref h0, .int (nI c), .int (nI t)] [(h0, .inr (2, [.ref h1, .ref h2, .ref h3])), (h1, .inl (cI, 64, .inl (nF T))), (h2, .inl (cI, 64, .inl (nF U))), (h3, .inl (cZ, 64, .inl (nF B)))] sz (fun (r : Int32) (_ : Unit) => r = nI (sn U c t)) (fun (_ : Unit) => [(h0, .inr (2, [.ref h1, .ref h2, .ref h3])), (h1, .inl (cI, 64, .inl (nF T))), (h2, .inl (cI, 64, .inl (nF U))), (h3, .inl (cZ, 64, .inl (nF B)))]) := by
  refine entI (cc := cX2_strain) 5 (by decide) rfl (Nat.le_of_ble_eq_true rfl) (Or.inl rfl) (fun pr e s m args below meth c0 A Q H ls hx hb hml hown hts hsz hA hP hK hD hS hG hret hl => ?_)
  have hown : s.vm.findClass RX2 = some m.cls := hown
  have hl : lv_has ls 5 [(0, .ref h0), (1, .int (nI c)), (2, .int (nI t))] := hl
  refine lv_iload_n hx hb dX2_strain_0 rfl (lv_at hl 1 rfl) ?_
  refine lv_bipush (v := nI 8) hx hb dX2_strain_1 (by decide) ?_
  refine nv_irem hx hb dX2_strain_3 (by omega) (by omega) (by omega) ?_
  refine lv_istore_n (lv' := [(3, .int (nI (c % 8))), (0, .ref h0), (1, .int (nI c)), (2, .int (nI t))]) hx hb dX2_strain_4 rfl hl (by decide) rfl (fun ls hl => ?_)
  refine lv_iload_n hx hb dX2_strain_5 rfl (lv_at hl 2 rfl) ?_
  refine lv_bipush (v := nI 8) hx hb dX2_strain_6 (by decide) ?_
  refine nv_idiv hx hb dX2_strain_8 (by omega) (by omega) (by omega) ?_
  refine lv_istore (lv' := [(4, .int (nI (c / 8))), (3, .int (nI (c % 8))), (0, .ref h0), (1, .int (nI c)), (2, .int (nI t))]) hx hb dX2_strain_9 hl (by decide) rfl (fun ls hl => ?_)
  refine lv_aload_n hx hb dX2_strain_11 rfl (lv_at hl 2 rfl) ?_
  refine lv_iload_n hx hb dX2_strain_12 rfl (lv_at hl 1 rfl) ?_
  refine lv_iconst (v := nI 1) hx hb dX2_strain_13 (by decide) ?_
  refine lv_isub hx hb dX2_strain_14 ?_
  refine lv_iload hx hb dX2_strain_15 (lv_at hl 0 rfl) ?_
  refine lv_iload_n hx hb dX2_strain_17 rfl (lv_at hl 4 rfl) ?_
  refine gcVi (ws' := fun _ => [(h0, .inr (2, [.ref h1, .ref h2, .ref h3])), (h1, .inl (cI, 64, .inl (nF T))), (h2, .inl (cI, 64, .inl (nF U))), (h3, .inl (cZ, 64, .inl (nF B)))]) (wr := []) (ci := 2) (q0 := 0) (As := [.int ((nI (c % 8)) - (nI 1)), .int (nI (c / 8)), .int (nI t)]) (rest := []) ⟨hx, hb, hml, hown, hts⟩ (c_X2_strainAgainst l D cI cZ tt H.size h0 h1 h2 h3 T U B ((nI (c % 8)) - (nI 1)) (nI (c / 8)) t (by first | assumption | omega) (by first | assumption | omega)) (cwV 3 hts gX2_strain_X2_strainAgainst rfl rfl rfl (by decide +kernel) ⟨Nat.le_of_ble_eq_true rfl, Nat.le_of_ble_eq_true rfl⟩) hP hK hD hS hA hG rfl rfl [0, 1, 2, 3] [] [0, 1, 2, 3] (by decide) rfl rfl (by decide) (by decide) (by decide) (fun _ => rfl) hl.1 rfl rfl (Nat.le_of_ble_eq_true rfl) ⟨Nat.zero_le _, Nat.zero_le _⟩ dX2_strain_18 (fun r u H locs hp hP hD hS => ?_)
  obtain rfl := hp
  have hP : va_P D vwCl [(h0, .inr (2, [.ref h1, .ref h2, .ref h3])), (h1, .inl (cI, 64, .inl (nF T))), (h2, .inl (cI, 64, .inl (nF U))), (h3, .inl (cZ, 64, .inl (nF B)))] H := hP
  have hD : va_D A [(h0, .inr (2, [.ref h1, .ref h2, .ref h3])), (h1, .inl (cI, 64, .inl (nF T))), (h2, .inl (cI, 64, .inl (nF U))), (h3, .inl (cZ, 64, .inl (nF B)))] := hD
  refine lv_aload_n hx hb dX2_strain_21 rfl (lv_at hl 2 rfl) ?_
  refine lv_iload_n hx hb dX2_strain_22 rfl (lv_at hl 1 rfl) ?_
  refine lv_iconst (v := nI 1) hx hb dX2_strain_23 (by decide) ?_
  refine nv_iadd hx hb dX2_strain_24 ?_
  refine lv_iload hx hb dX2_strain_25 (lv_at hl 0 rfl) ?_
  refine lv_iload_n hx hb dX2_strain_27 rfl (lv_at hl 4 rfl) ?_
  refine gcVi (ws' := fun _ => [(h0, .inr (2, [.ref h1, .ref h2, .ref h3])), (h1, .inl (cI, 64, .inl (nF T))), (h2, .inl (cI, 64, .inl (nF U))), (h3, .inl (cZ, 64, .inl (nF B)))]) (wr := []) (ci := 2) (q0 := 0) (As := [.int (nI ((c % 8) + 1)), .int (nI (c / 8)), .int (nI t)]) (rest := [.int (nI (sa U ((nI (c % 8)) - (nI 1)) (nI (c / 8)) t))]) ⟨hx, hb, hml, hown, hts⟩ (c_X2_strainAgainst l D cI cZ tt H.size h0 h1 h2 h3 T U B (nI ((c % 8) + 1)) (nI (c / 8)) t (by first | assumption | omega) (by first | assumption | omega)) (cwV 3 hts gX2_strain_X2_strainAgainst rfl rfl rfl (by decide +kernel) ⟨Nat.le_of_ble_eq_true rfl, Nat.le_of_ble_eq_true rfl⟩) hP hK hD hS hA hG rfl rfl [0, 1, 2, 3] [] [0, 1, 2, 3] (by decide) rfl rfl (by decide) (by decide) (by decide) (fun _ => rfl) hl.1 rfl rfl (Nat.le_of_ble_eq_true rfl) ⟨Nat.zero_le _, Nat.zero_le _⟩ dX2_strain_28 (fun r u H locs hp hP hD hS => ?_)
  obtain rfl := hp
  have hP : va_P D vwCl [(h0, .inr (2, [.ref h1, .ref h2, .ref h3])), (h1, .inl (cI, 64, .inl (nF T))), (h2, .inl (cI, 64, .inl (nF U))), (h3, .inl (cZ, 64, .inl (nF B)))] H := hP
  have hD : va_D A [(h0, .inr (2, [.ref h1, .ref h2, .ref h3])), (h1, .inl (cI, 64, .inl (nF T))), (h2, .inl (cI, 64, .inl (nF U))), (h3, .inl (cZ, 64, .inl (nF B)))] := hD
  refine nv_iadd hx hb dX2_strain_31 ?_
  refine lv_aload_n hx hb dX2_strain_32 rfl (lv_at hl 2 rfl) ?_
  refine lv_iload_n hx hb dX2_strain_33 rfl (lv_at hl 1 rfl) ?_
  refine lv_iload hx hb dX2_strain_34 (lv_at hl 0 rfl) ?_
  refine lv_iconst (v := nI 1) hx hb dX2_strain_36 (by decide) ?_
  refine lv_isub hx hb dX2_strain_37 ?_
  refine lv_iload_n hx hb dX2_strain_38 rfl (lv_at hl 4 rfl) ?_
  refine gcVi (ws' := fun _ => [(h0, .inr (2, [.ref h1, .ref h2, .ref h3])), (h1, .inl (cI, 64, .inl (nF T))), (h2, .inl (cI, 64, .inl (nF U))), (h3, .inl (cZ, 64, .inl (nF B)))]) (wr := []) (ci := 2) (q0 := 0) (As := [.int (nI (c % 8)), .int ((nI (c / 8)) - (nI 1)), .int (nI t)]) (rest := [.int (nI ((sa U ((nI (c % 8)) - (nI 1)) (nI (c / 8)) t) + (sa U (nI ((c % 8) + 1)) (nI (c / 8)) t)))]) ⟨hx, hb, hml, hown, hts⟩ (c_X2_strainAgainst l D cI cZ tt H.size h0 h1 h2 h3 T U B (nI (c % 8)) ((nI (c / 8)) - (nI 1)) t (by first | assumption | omega) (by first | assumption | omega)) (cwV 3 hts gX2_strain_X2_strainAgainst rfl rfl rfl (by decide +kernel) ⟨Nat.le_of_ble_eq_true rfl, Nat.le_of_ble_eq_true rfl⟩) hP hK hD hS hA hG rfl rfl [0, 1, 2, 3] [] [0, 1, 2, 3] (by decide) rfl rfl (by decide) (by decide) (by decide) (fun _ => rfl) hl.1 rfl rfl (Nat.le_of_ble_eq_true rfl) ⟨Nat.zero_le _, Nat.zero_le _⟩ dX2_strain_39 (fun r u H locs hp hP hD hS => ?_)
  obtain rfl := hp
  have hP : va_P D vwCl [(h0, .inr (2, [.ref h1, .ref h2, .ref h3])), (h1, .inl (cI, 64, .inl (nF T))), (h2, .inl (cI, 64, .inl (nF U))), (h3, .inl (cZ, 64, .inl (nF B)))] H := hP
  have hD : va_D A [(h0, .inr (2, [.ref h1, .ref h2, .ref h3])), (h1, .inl (cI, 64, .inl (nF T))), (h2, .inl (cI, 64, .inl (nF U))), (h3, .inl (cZ, 64, .inl (nF B)))] := hD
  refine nv_iadd hx hb dX2_strain_42 ?_
  refine lv_aload_n hx hb dX2_strain_43 rfl (lv_at hl 2 rfl) ?_
  refine lv_iload_n hx hb dX2_strain_44 rfl (lv_at hl 1 rfl) ?_
  refine lv_iload hx hb dX2_strain_45 (lv_at hl 0 rfl) ?_
  refine lv_iconst (v := nI 1) hx hb dX2_strain_47 (by decide) ?_
  refine nv_iadd hx hb dX2_strain_48 ?_
  refine lv_iload_n hx hb dX2_strain_49 rfl (lv_at hl 4 rfl) ?_
  refine gcVi (ws' := fun _ => [(h0, .inr (2, [.ref h1, .ref h2, .ref h3])), (h1, .inl (cI, 64, .inl (nF T))), (h2, .inl (cI, 64, .inl (nF U))), (h3, .inl (cZ, 64, .inl (nF B)))]) (wr := []) (ci := 2) (q0 := 0) (As := [.int (nI (c % 8)), .int (nI ((c / 8) + 1)), .int (nI t)]) (rest := [.int (nI (((sa U ((nI (c % 8)) - (nI 1)) (nI (c / 8)) t) + (sa U (nI ((c % 8) + 1)) (nI (c / 8)) t)) + (sa U (nI (c % 8)) ((nI (c / 8)) - (nI 1)) t)))]) ⟨hx, hb, hml, hown, hts⟩ (c_X2_strainAgainst l D cI cZ tt H.size h0 h1 h2 h3 T U B (nI (c % 8)) (nI ((c / 8) + 1)) t (by first | assumption | omega) (by first | assumption | omega)) (cwV 3 hts gX2_strain_X2_strainAgainst rfl rfl rfl (by decide +kernel) ⟨Nat.le_of_ble_eq_true rfl, Nat.le_of_ble_eq_true rfl⟩) hP hK hD hS hA hG rfl rfl [0, 1, 2, 3] [] [0, 1, 2, 3] (by decide) rfl rfl (by decide) (by decide) (by decide) (fun _ => rfl) hl.1 rfl rfl (Nat.le_of_ble_eq_true rfl) ⟨Nat.zero_le _, Nat.zero_le _⟩ dX2_strain_50 (fun r u H locs hp hP hD hS => ?_)
  obtain rfl := hp
  have hP : va_P D vwCl [(h0, .inr (2, [.ref h1, .ref h2, .ref h3])), (h1, .inl (cI, 64, .inl (nF T))), (h2, .inl (cI, 64, .inl (nF U))), (h3, .inl (cZ, 64, .inl (nF B)))] H := hP
  have hD : va_D A [(h0, .inr (2, [.ref h1, .ref h2, .ref h3])), (h1, .inl (cI, 64, .inl (nF T))), (h2, .inl (cI, 64, .inl (nF U))), (h3, .inl (cZ, 64, .inl (nF B)))] := hD
  refine nv_iadd hx hb dX2_strain_53 ?_
  exact hret _ () _ _ _ _ dX2_strain_54 (rfl) hP hD hS

set_option maxHeartbeats 4000000 in
set_option maxRecDepth 100000 in
theorem c_X2_calmestTurn (l : Launch) (D : va_G) (cI cZ : ClassId) (tt : Nat → Nat) (sz : Nat) (h0 h1 h2 h3 : Nat) (T U B : Nat → Nat) (c : Nat) (hU : ∀ k, U k < 8) (hc : c < 64) : MI l yX2_calmestTurn wsX2_calmestTurn ({ frames := 3, cells := 0, slots := 0, locals := 69 } : Room) D cI cZ tt [.ref h0, .int (nI c)] [(h0, .inr (2, [.ref h1, .ref h2, .ref h3])), (h1, .inl (cI, 64, .inl (nF T))), (h2, .inl (cI, 64, .inl (nF U))), (h3, .inl (cZ, 64, .inl (nF B)))] sz (fun (r : Int32) (_ : Unit) => r = nI (nt U c)) (fun (_ : Unit) => [(h0, .inr (2, [.ref h1, .ref h2, .ref h3])), (h1, .inl (cI, 64, .inl (nF T))), (h2, .inl (cI, 64, .inl (nF U))), (h3, .inl (cZ, 64, .inl (nF B)))]) := by
  refine entI (cc := cX2_calmestTurn) 6 (by decide) rfl (Nat.le_of_ble_eq_true rfl) (Or.inl rfl) (fun pr e s m args below meth c0 A Q H ls hx hb hml hown hts hsz hA hP hK hD hS hG hret hl => ?_)
  have hown : s.vm.findClass RX2 = some m.cls := hown
  have lk1 := hts (.fieldLink RX2 15 "BurinLines$Plate" "turns" "[I") (by decide +kernel)
  have hinX2 : ∀ w ∈ wsX20, w ∈ wsX2_calmestTurn := by decide +kernel
  have hl : lv_has ls 6 [(0, .ref h0), (1, .int (nI c))] := hl
  refine lv_aload_n hx hb dX2_calmestTurn_0 rfl (lv_at hl 0 rfl) ?_
  refine va_get (D := D) (ci := 2) (v := .ref h2) (C := RX2) (T := TX2) (N := 3) hx hb hts hinX2 hown hK hP 0 rfl rfl 1 (by decide) lk1 (fun _ h9 => h9) rfl dX2_calmestTurn_1 ?_
  refine lv_iload_n hx hb dX2_calmestTurn_4 rfl (lv_at hl 1 rfl) ?_
  refine nv_iald hx hb hK hP 2 rfl (by omega) (by decide) dX2_calmestTurn_5 ?_
  have bd_1 := hU c
  refine lv_istore_n (lv' := [(2, .int (nI (U c))), (0, .ref h0), (1, .int (nI c))]) hx hb dX2_calmestTurn_6 rfl hl (by decide) rfl (fun ls hl => ?_)
  refine lv_aload_n hx hb dX2_calmestTurn_7 rfl (lv_at hl 1 rfl) ?_
  refine lv_iload_n hx hb dX2_calmestTurn_8 rfl (lv_at hl 2 rfl) ?_
  refine lv_iload_n hx hb dX2_calmestTurn_9 rfl (lv_at hl 0 rfl) ?_
  refine gcVi (ws' := fun _ => [(h0, .inr (2, [.ref h1, .ref h2, .ref h3])), (h1, .inl (cI, 64, .inl (nF T))), (h2, .inl (cI, 64, .inl (nF U))), (h3, .inl (cZ, 64, .inl (nF B)))]) (wr := []) (ci := 2) (q0 := 0) (As := [.int (nI c), .int (nI (U c))]) (rest := []) ⟨hx, hb, hml, hown, hts⟩ (c_X2_strain l D cI cZ tt H.size h0 h1 h2 h3 T U B c (U c) (by first | assumption | omega) (by first | assumption | omega) (by first | assumption | omega)) (cwV 2 hts gX2_calmestTurn_X2_strain rfl rfl rfl (by decide +kernel) ⟨Nat.le_of_ble_eq_true rfl, Nat.le_of_ble_eq_true rfl⟩) hP hK hD hS hA hG rfl rfl [0, 1, 2, 3] [] [0, 1, 2, 3] (by decide) rfl rfl (by decide) (by decide) (by decide) (fun _ => rfl) hl.1 rfl rfl (Nat.le_of_ble_eq_true rfl) ⟨Nat.zero_le _, Nat.zero_le _⟩ dX2_calmestTurn_10 (fun r u H locs hp hP hD hS => ?_)
  obtain rfl := hp
  have hP : va_P D vwCl [(h0, .inr (2, [.ref h1, .ref h2, .ref h3])), (h1, .inl (cI, 64, .inl (nF T))), (h2, .inl (cI, 64, .inl (nF U))), (h3, .inl (cZ, 64, .inl (nF B)))] H := hP
  have hD : va_D A [(h0, .inr (2, [.ref h1, .ref h2, .ref h3])), (h1, .inl (cI, 64, .inl (nF T))), (h2, .inl (cI, 64, .inl (nF U))), (h3, .inl (cZ, 64, .inl (nF B)))] := hD
  have sb_2 := sn_le U c (t := U c) hU (hU c)
  refine lv_istore_n (lv' := [(3, .int (nI (sn U c (U c)))), (2, .int (nI (U c))), (0, .ref h0), (1, .int (nI c))]) hx hb dX2_calmestTurn_13 rfl hl (by decide) rfl (fun ls hl => ?_)
  refine lv_iconst (v := nI 0) hx hb dX2_calmestTurn_14 (by decide) ?_
  refine lv_istore (lv' := [(4, .int (nI 0)), (3, .int (nI (sn U c (U c)))), (2, .int (nI (U c))), (0, .ref h0), (1, .int (nI c))]) hx hb dX2_calmestTurn_15 hl (by decide) rfl (fun ls hl => ?_)
  have L17 : ∀ (n : Nat) (i : Nat) (cal : Nat) (lst : Nat), 8 - i < n → (i ≤ 8) → (cal = cm (sn U c) (U c) i) → (lst = sn U c cal) → (cal < 8) → ∀ (H : Heap) (locs : List Loc) (ls : Array Slot), va_P D vwCl [(h0, .inr (2, [.ref h1, .ref h2, .ref h3])), (h1, .inl (cI, 64, .inl (nF T))), (h2, .inl (cI, 64, .inl (nF U))), (h3, .inl (cZ, 64, .inl (nF B)))] H → va_D A [(h0, .inr (2, [.ref h1, .ref h2, .ref h3])), (h1, .inl (cI, 64, .inl (nF T))), (h2, .inl (cI, 64, .inl (nF U))), (h3, .inl (cZ, 64, .inl (nF B)))] → va_S A s.heap H locs → lv_has ls 6 [(0, .ref h0), (1, .int (nI c)), (2, .int (nI cal)), (3, .int (nI lst)), (4, .int (nI i))] → W pr l e ({ frames := 3, cells := 0, slots := 0, locals := 69 } : Room) s m args below meth c0 H locs 0 0 Q (F0 m 17 ls []) := by
    intro n
    induction n with
    | zero => intro i cal lst h0; exact absurd h0 (Nat.not_lt_zero _)
    | succ n ih17 =>
      intro i cal lst hm17 hi hcal hlst hc8 H locs ls hP hD hS hl
      have hls := sn_le U c (t := cal) hU hc8
      refine lv_iload hx hb dX2_calmestTurn_17 (lv_at hl 4 rfl) ?_
      refine lv_bipush (v := nI 8) hx hb dX2_calmestTurn_19 (by decide) ?_
      refine nv_icmp_ge (tgt := 51) hx hb dX2_calmestTurn_21 (by decide) (by omega) (by omega) (fun c_3 => ?_) (fun c_3 => ?_)
      · skip
        refine lv_iload_n hx hb dX2_calmestTurn_51 rfl (lv_at hl 2 rfl) ?_
        exact hret _ () _ _ _ _ dX2_calmestTurn_52 (by rw [hcal, show i = 8 by omega]; rfl) hP hD hS
      · skip
        refine lv_aload_n hx hb dX2_calmestTurn_24 rfl (lv_at hl 0 rfl) ?_
        refine lv_iload_n hx hb dX2_calmestTurn_25 rfl (lv_at hl 1 rfl) ?_
        refine lv_iload hx hb dX2_calmestTurn_26 (lv_at hl 4 rfl) ?_
        refine gcVi (ws' := fun _ => [(h0, .inr (2, [.ref h1, .ref h2, .ref h3])), (h1, .inl (cI, 64, .inl (nF T))), (h2, .inl (cI, 64, .inl (nF U))), (h3, .inl (cZ, 64, .inl (nF B)))]) (wr := []) (ci := 2) (q0 := 0) (As := [.int (nI c), .int (nI i)]) (rest := []) ⟨hx, hb, hml, hown, hts⟩ (c_X2_strain l D cI cZ tt H.size h0 h1 h2 h3 T U B c i (by first | assumption | omega) (by first | assumption | omega) (by first | assumption | omega)) (cwV 2 hts gX2_calmestTurn_X2_strain rfl rfl rfl (by decide +kernel) ⟨Nat.le_of_ble_eq_true rfl, Nat.le_of_ble_eq_true rfl⟩) hP hK hD hS hA hG rfl rfl [0, 1, 2, 3] [] [0, 1, 2, 3] (by decide) rfl rfl (by decide) (by decide) (by decide) (fun _ => rfl) hl.1 rfl rfl (Nat.le_of_ble_eq_true rfl) ⟨Nat.zero_le _, Nat.zero_le _⟩ dX2_calmestTurn_28 (fun r u H locs hp hP hD hS => ?_)
        obtain rfl := hp
        have hP : va_P D vwCl [(h0, .inr (2, [.ref h1, .ref h2, .ref h3])), (h1, .inl (cI, 64, .inl (nF T))), (h2, .inl (cI, 64, .inl (nF U))), (h3, .inl (cZ, 64, .inl (nF B)))] H := hP
        have hD : va_D A [(h0, .inr (2, [.ref h1, .ref h2, .ref h3])), (h1, .inl (cI, 64, .inl (nF T))), (h2, .inl (cI, 64, .inl (nF U))), (h3, .inl (cZ, 64, .inl (nF B)))] := hD
        have sb_4 := sn_le U c (t := i) hU (by omega)
        refine lv_istore (lv' := [(5, .int (nI (sn U c i))), (0, .ref h0), (1, .int (nI c)), (2, .int (nI cal)), (3, .int (nI lst)), (4, .int (nI i))]) hx hb dX2_calmestTurn_31 hl (by decide) rfl (fun ls hl => ?_)
        refine lv_iload hx hb dX2_calmestTurn_33 (lv_at hl 0 rfl) ?_
        refine lv_iload_n hx hb dX2_calmestTurn_35 rfl (lv_at hl 4 rfl) ?_
        refine nv_icmp_ge (tgt := 45) hx hb dX2_calmestTurn_36 (by decide) (by omega) (by omega) (fun c_5 => ?_) (fun c_5 => ?_)
        · skip
          refine lv_iinc (v := nI (i + 1)) (lv' := [(4, .int (nI (i + 1))), (5, .int (nI (sn U c i))), (0, .ref h0), (1, .int (nI c)), (2, .int (nI cal)), (3, .int (nI lst))]) hx hb dX2_calmestTurn_45 hl (k := 5) rfl (by exact nI_add _ 1) (by decide) rfl (fun ls hl => ?_)
          refine lv_goto (tgt := 17) hx hb dX2_calmestTurn_48 (by decide) ?_
          exact ih17 (i + 1) cal lst (by omega) (by omega) (by rw [cm, ← hcal, if_neg (by omega)]) hlst hc8 _ _ _ hP hD hS (lv_sub hl [2, 3, 4, 5, 0] rfl)
        · skip
          refine lv_iload hx hb dX2_calmestTurn_39 (lv_at hl 0 rfl) ?_
          refine lv_istore_n (lv' := [(3, .int (nI (sn U c i))), (5, .int (nI (sn U c i))), (0, .ref h0), (1, .int (nI c)), (2, .int (nI cal)), (4, .int (nI i))]) hx hb dX2_calmestTurn_41 rfl hl (by decide) rfl (fun ls hl => ?_)
          refine lv_iload hx hb dX2_calmestTurn_42 (lv_at hl 5 rfl) ?_
          refine lv_istore_n (lv' := [(2, .int (nI i)), (3, .int (nI (sn U c i))), (5, .int (nI (sn U c i))), (0, .ref h0), (1, .int (nI c)), (4, .int (nI i))]) hx hb dX2_calmestTurn_44 rfl hl (by decide) rfl (fun ls hl => ?_)
          refine lv_iinc (v := nI (i + 1)) (lv' := [(4, .int (nI (i + 1))), (2, .int (nI i)), (3, .int (nI (sn U c i))), (5, .int (nI (sn U c i))), (0, .ref h0), (1, .int (nI c))]) hx hb dX2_calmestTurn_45 hl (k := 5) rfl (by exact nI_add _ 1) (by decide) rfl (fun ls hl => ?_)
          refine lv_goto (tgt := 17) hx hb dX2_calmestTurn_48 (by decide) ?_
          exact ih17 (i + 1) i (sn U c i) (by omega) (by omega) (by rw [cm, ← hcal, if_pos (by omega)]) rfl (by omega) _ _ _ hP hD hS (lv_sub hl [4, 5, 1, 2, 0] rfl)
  exact L17 (8 + 1) 0 (U c) (sn U c (U c)) (by omega) (by omega) rfl rfl (hU c) _ _ _ hP hD hS (lv_sub hl [3, 4, 2, 1, 0] rfl)

set_option maxHeartbeats 4000000 in
set_option maxRecDepth 100000 in
theorem c_X2_goThrough (l : Launch) (D : va_G) (cI cZ : ClassId) (tt : Nat → Nat) (sz : Nat) (h0 h1 h2 h3 : Nat) (T U B : Nat → Nat) (hU : ∀ k, U k < 8) (hB : ∀ k, B k < 2) : MI l yX2_goThrough wsX2_goThrough ({ frames := 4, cells := 0, slots := 0, locals := 94 } : Room) D cI cZ tt [.ref h0] [(h0, .inr (2, [.ref h1, .ref h2, .ref h3])), (h1, .inl (cI, 64, .inl (nF T))), (h2, .inl (cI, 64, .inl (nF U))), (h3, .inl (cZ, 64, .inl (nF B)))] sz (fun (r : Int32) (_ : Unit) => r = nI ((gtS B U 64).2)) (fun (_ : Unit) => [(h0, .inr (2, [.ref h1, .ref h2, .ref h3])), (h1, .inl (cI, 64, .inl (nF T))), (h2, .inl (cI, 64, .inl (nF ((gtS B U 64).1)))), (h3, .inl (cZ, 64, .inl (nF B)))]) := by
  refine entI (cc := cX2_goThrough) 4 (by decide) rfl (Nat.le_of_ble_eq_true rfl) (Or.inr ⟨rfl, fun v u h => by rw [h]; have z := gtS_flag (B := B) (U := U) 64; rcases (show (gtS B U 64).2 = 0 ∨ (gtS B U 64).2 = 1 by omega) with q | q <;> rw [q] <;> rfl⟩) (fun pr e s m args below meth c0 A Q H ls hx hb hml hown hts hsz hA hP hK hD hS hG hret hl => ?_)
  have hown : s.vm.findClass RX2 = some m.cls := hown
  have lk1 := hts (.fieldLink RX2 18 "BurinLines$Plate" "told" "[Z") (by decide +kernel)
  have lk2 := hts (.fieldLink RX2 15 "BurinLines$Plate" "turns" "[I") (by decide +kernel)
  have hinX2 : ∀ w ∈ wsX20, w ∈ wsX2_goThrough := by decide +kernel
  have hl : lv_has ls 4 [(0, .ref h0)] := hl
  refine lv_iconst (v := nI 0) hx hb dX2_goThrough_0 (by decide) ?_
  refine lv_istore_n (lv' := [(1, .int (nI 0)), (0, .ref h0)]) hx hb dX2_goThrough_1 rfl hl (by decide) rfl (fun ls hl => ?_)
  refine lv_iconst (v := nI 0) hx hb dX2_goThrough_2 (by decide) ?_
  refine lv_istore_n (lv' := [(2, .int (nI 0)), (1, .int (nI 0)), (0, .ref h0)]) hx hb dX2_goThrough_3 rfl hl (by decide) rfl (fun ls hl => ?_)
  have L4 : ∀ (n : Nat) (i : Nat) (U2 : Nat → Nat) (ch : Nat), 64 - i < n → (i ≤ 64) → (U2 = (gtS B U i).1) → (ch = (gtS B U i).2) → (∀ k, U2 k < 8) → ∀ (H : Heap) (locs : List Loc) (ls : Array Slot), va_P D vwCl [(h0, .inr (2, [.ref h1, .ref h2, .ref h3])), (h1, .inl (cI, 64, .inl (nF T))), (h2, .inl (cI, 64, .inl (nF U2))), (h3, .inl (cZ, 64, .inl (nF B)))] H → va_D A [(h0, .inr (2, [.ref h1, .ref h2, .ref h3])), (h1, .inl (cI, 64, .inl (nF T))), (h2, .inl (cI, 64, .inl (nF U2))), (h3, .inl (cZ, 64, .inl (nF B)))] → va_S A s.heap H locs → lv_has ls 4 [(0, .ref h0), (1, .int (nI ch)), (2, .int (nI i))] → W pr l e ({ frames := 4, cells := 0, slots := 0, locals := 94 } : Room) s m args below meth c0 H locs 0 0 Q (F0 m 4 ls []) := by
    intro n
    induction n with
    | zero => intro i U2 ch h0; exact absurd h0 (Nat.not_lt_zero _)
    | succ n ih4 =>
      intro i U2 ch hm4 hi hU2 hch hb2 H locs ls hP hD hS hl
      refine lv_iload_n hx hb dX2_goThrough_4 rfl (lv_at hl 2 rfl) ?_
      refine lv_bipush (v := nI 64) hx hb dX2_goThrough_5 (by decide) ?_
      refine nv_icmp_ge (tgt := 59) hx hb dX2_goThrough_7 (by decide) (by omega) (by omega) (fun c_1 => ?_) (fun c_1 => ?_)
      · skip
        have h64 : i = 64 := by omega
        subst h64
        subst hU2
        subst hch
        refine lv_iload_n hx hb dX2_goThrough_59 rfl (lv_at hl 1 rfl) ?_
        exact hret _ () _ _ _ _ dX2_goThrough_60 (rfl) hP hD hS
      · skip
        refine lv_aload_n hx hb dX2_goThrough_10 rfl (lv_at hl 0 rfl) ?_
        refine va_get (D := D) (ci := 2) (v := .ref h3) (C := RX2) (T := TX2) (N := 3) hx hb hts hinX2 hown hK hP 0 rfl rfl 2 (by decide) lk1 (fun _ h9 => h9) rfl dX2_goThrough_11 ?_
        refine lv_iload_n hx hb dX2_goThrough_14 rfl (lv_at hl 2 rfl) ?_
        refine nv_zald hx hb hK hP 3 rfl (by omega) (by decide) dX2_goThrough_15 ?_
        have bd_2 := hB i
        refine nv_if_eq (tgt := 28) hx hb dX2_goThrough_16 (by decide) (by omega) (fun c_3 => ?_) (fun c_3 => ?_)
        · skip
          have hnt := nt_lt hb2 i
          refine lv_aload_n hx hb dX2_goThrough_28 rfl (lv_at hl 0 rfl) ?_
          refine lv_iload_n hx hb dX2_goThrough_29 rfl (lv_at hl 2 rfl) ?_
          refine gcVi (ws' := fun _ => [(h0, .inr (2, [.ref h1, .ref h2, .ref h3])), (h1, .inl (cI, 64, .inl (nF T))), (h2, .inl (cI, 64, .inl (nF U2))), (h3, .inl (cZ, 64, .inl (nF B)))]) (wr := []) (ci := 2) (q0 := 0) (As := [.int (nI i)]) (rest := []) ⟨hx, hb, hml, hown, hts⟩ (c_X2_calmestTurn l D cI cZ tt H.size h0 h1 h2 h3 T U2 B i (by first | assumption | omega) (by first | assumption | omega)) (cwV 1 hts gX2_goThrough_X2_calmestTurn rfl rfl rfl (by decide +kernel) ⟨Nat.le_of_ble_eq_true rfl, Nat.le_of_ble_eq_true rfl⟩) hP hK hD hS hA hG rfl rfl [0, 1, 2, 3] [] [0, 1, 2, 3] (by decide) rfl rfl (by decide) (by decide) (by decide) (fun _ => rfl) hl.1 rfl rfl (Nat.le_of_ble_eq_true rfl) ⟨Nat.zero_le _, Nat.zero_le _⟩ dX2_goThrough_30 (fun r u H locs hp hP hD hS => ?_)
          obtain rfl := hp
          have hP : va_P D vwCl [(h0, .inr (2, [.ref h1, .ref h2, .ref h3])), (h1, .inl (cI, 64, .inl (nF T))), (h2, .inl (cI, 64, .inl (nF U2))), (h3, .inl (cZ, 64, .inl (nF B)))] H := hP
          have hD : va_D A [(h0, .inr (2, [.ref h1, .ref h2, .ref h3])), (h1, .inl (cI, 64, .inl (nF T))), (h2, .inl (cI, 64, .inl (nF U2))), (h3, .inl (cZ, 64, .inl (nF B)))] := hD
          refine lv_istore_n (lv' := [(3, .int (nI (nt U2 i))), (0, .ref h0), (1, .int (nI ch)), (2, .int (nI i))]) hx hb dX2_goThrough_33 rfl hl (by decide) rfl (fun ls hl => ?_)
          refine lv_iload_n hx hb dX2_goThrough_34 rfl (lv_at hl 0 rfl) ?_
          refine lv_aload_n hx hb dX2_goThrough_35 rfl (lv_at hl 1 rfl) ?_
          refine va_get (D := D) (ci := 2) (v := .ref h2) (C := RX2) (T := TX2) (N := 3) hx hb hts hinX2 hown hK hP 0 rfl rfl 1 (by decide) lk2 (fun _ h9 => h9) rfl dX2_goThrough_36 ?_
          refine lv_iload_n hx hb dX2_goThrough_39 rfl (lv_at hl 3 rfl) ?_
          refine nv_iald hx hb hK hP 2 rfl (by omega) (by decide) dX2_goThrough_40 ?_
          have bd_4 := hb2 i
          refine nv_icmp_eq (tgt := 53) hx hb dX2_goThrough_41 (by decide) (by omega) (by omega) (fun c_5 => ?_) (fun c_5 => ?_)
          · skip
            have e_6 : gtS B U (i + 1) = gtS B U i := gtS_no (fun q => q.2 (by rw [← hU2]; exact c_5))
            refine lv_iinc (v := nI (i + 1)) (lv' := [(2, .int (nI (i + 1))), (3, .int (nI (nt U2 i))), (0, .ref h0), (1, .int (nI ch))]) hx hb dX2_goThrough_53 hl (k := 3) rfl (by exact nI_add _ 1) (by decide) rfl (fun ls hl => ?_)
            refine lv_goto (tgt := 4) hx hb dX2_goThrough_56 (by decide) ?_
            exact ih4 (i + 1) U2 ch (by omega) (by omega) (by rw [e_6]; exact hU2) (by rw [e_6]; exact hch) hb2 _ _ _ hP hD hS (lv_sub hl [2, 3, 0] rfl)
          · skip
            have e_8 : gtS B U (i + 1) = (va_up U2 i (nt U2 i), 1) := by rw [hU2]; exact gtS_yes (by assumption) (by rw [← hU2]; exact c_5)
            refine lv_aload_n hx hb dX2_goThrough_44 rfl (lv_at hl 1 rfl) ?_
            refine va_get (D := D) (ci := 2) (v := .ref h2) (C := RX2) (T := TX2) (N := 3) hx hb hts hinX2 hown hK hP 0 rfl rfl 1 (by decide) lk2 (fun _ h9 => h9) rfl dX2_goThrough_45 ?_
            refine lv_iload_n hx hb dX2_goThrough_48 rfl (lv_at hl 3 rfl) ?_
            refine lv_iload_n hx hb dX2_goThrough_49 rfl (lv_at hl 0 rfl) ?_
            refine nv_iast hx hb hK hP hD hS 2 rfl (by omega) (by decide) dX2_goThrough_50 (fun H locs hP hD hS => ?_)
            have hP : va_P D vwCl [(h0, .inr (2, [.ref h1, .ref h2, .ref h3])), (h1, .inl (cI, 64, .inl (nF T))), (h2, .inl (cI, 64, .inl (nF (va_up U2 i (nt U2 i))))), (h3, .inl (cZ, 64, .inl (nF B)))] H := hP
            have hD : va_D A [(h0, .inr (2, [.ref h1, .ref h2, .ref h3])), (h1, .inl (cI, 64, .inl (nF T))), (h2, .inl (cI, 64, .inl (nF (va_up U2 i (nt U2 i))))), (h3, .inl (cZ, 64, .inl (nF B)))] := hD
            refine lv_iconst (v := nI 1) hx hb dX2_goThrough_51 (by decide) ?_
            refine lv_istore_n (lv' := [(1, .int (nI 1)), (3, .int (nI (nt U2 i))), (0, .ref h0), (2, .int (nI i))]) hx hb dX2_goThrough_52 rfl hl (by decide) rfl (fun ls hl => ?_)
            refine lv_iinc (v := nI (i + 1)) (lv' := [(2, .int (nI (i + 1))), (1, .int (nI 1)), (3, .int (nI (nt U2 i))), (0, .ref h0)]) hx hb dX2_goThrough_53 hl (k := 3) rfl (by exact nI_add _ 1) (by decide) rfl (fun ls hl => ?_)
            refine lv_goto (tgt := 4) hx hb dX2_goThrough_56 (by decide) ?_
            exact ih4 (i + 1) (va_up U2 i (nt U2 i)) 1 (by omega) (by omega) (by rw [e_8]) (by rw [e_8]) (by intro k; have z := gtS_lt (B := B) hU (i + 1) k; rw [e_8] at z; exact z) _ _ _ hP hD hS (lv_sub hl [3, 1, 0] rfl)
        · skip
          have e_9 : gtS B U (i + 1) = gtS B U i := gtS_no (fun q => absurd q.1 c_3)
          refine lv_aload_n hx hb dX2_goThrough_19 rfl (lv_at hl 0 rfl) ?_
          refine va_get (D := D) (ci := 2) (v := .ref h2) (C := RX2) (T := TX2) (N := 3) hx hb hts hinX2 hown hK hP 0 rfl rfl 1 (by decide) lk2 (fun _ h9 => h9) rfl dX2_goThrough_20 ?_
          refine lv_iload_n hx hb dX2_goThrough_23 rfl (lv_at hl 2 rfl) ?_
          refine nv_iald hx hb hK hP 2 rfl (by omega) (by decide) dX2_goThrough_24 ?_
          have bd_10 := hb2 i
          refine lv_goto (tgt := 33) hx hb dX2_goThrough_25 (by decide) ?_
          refine lv_istore_n (lv' := [(3, .int (nI (U2 i))), (0, .ref h0), (1, .int (nI ch)), (2, .int (nI i))]) hx hb dX2_goThrough_33 rfl hl (by decide) rfl (fun ls hl => ?_)
          refine lv_iload_n hx hb dX2_goThrough_34 rfl (lv_at hl 0 rfl) ?_
          refine lv_aload_n hx hb dX2_goThrough_35 rfl (lv_at hl 1 rfl) ?_
          refine va_get (D := D) (ci := 2) (v := .ref h2) (C := RX2) (T := TX2) (N := 3) hx hb hts hinX2 hown hK hP 0 rfl rfl 1 (by decide) lk2 (fun _ h9 => h9) rfl dX2_goThrough_36 ?_
          refine lv_iload_n hx hb dX2_goThrough_39 rfl (lv_at hl 3 rfl) ?_
          refine nv_iald hx hb hK hP 2 rfl (by omega) (by decide) dX2_goThrough_40 ?_
          have bd_11 := hb2 i
          refine nv_icmp_eq (tgt := 53) hx hb dX2_goThrough_41 (by decide) (by omega) (by omega) (fun c_12 => ?_) (fun c_12 => ?_)
          · skip
            refine lv_iinc (v := nI (i + 1)) (lv' := [(2, .int (nI (i + 1))), (3, .int (nI (U2 i))), (0, .ref h0), (1, .int (nI ch))]) hx hb dX2_goThrough_53 hl (k := 3) rfl (by exact nI_add _ 1) (by decide) rfl (fun ls hl => ?_)
            refine lv_goto (tgt := 4) hx hb dX2_goThrough_56 (by decide) ?_
            exact ih4 (i + 1) U2 ch (by omega) (by omega) (by rw [e_9]; exact hU2) (by rw [e_9]; exact hch) hb2 _ _ _ hP hD hS (lv_sub hl [2, 3, 0] rfl)
          · skip
            exact absurd rfl c_12
  exact L4 (64 + 1) 0 U 0 (by omega) (by omega) rfl rfl hU _ _ _ hP hD hS (lv_sub hl [2, 1, 0] rfl)

set_option maxHeartbeats 4000000 in
set_option maxRecDepth 100000 in
theorem c_X2_smooth (l : Launch) (D : va_G) (cI cZ : ClassId) (tt : Nat → Nat) (sz : Nat) (h0 h1 h2 h3 : Nat) (T U B : Nat → Nat) (hU : ∀ k, U k < 8) (hB : ∀ k, B k < 2) : MI l yX2_smooth wsX2_smooth ({ frames := 5, cells := 0, slots := 0, locals := 117 } : Room) D cI cZ tt [.ref h0] [(h0, .inr (2, [.ref h1, .ref h2, .ref h3])), (h1, .inl (cI, 64, .inl (nF T))), (h2, .inl (cI, 64, .inl (nF U))), (h3, .inl (cZ, 64, .inl (nF B)))] sz (fun (r : Int32) (_ : Unit) => r = nI (evN B U 20 0)) (fun (_ : Unit) => [(h0, .inr (2, [.ref h1, .ref h2, .ref h3])), (h1, .inl (cI, 64, .inl (nF T))), (h2, .inl (cI, 64, .inl (nF (it B U (evN B U 20 0))))), (h3, .inl (cZ, 64, .inl (nF B)))]) := by
  refine entI (cc := cX2_smooth) 3 (by decide) rfl (Nat.le_of_ble_eq_true rfl) (Or.inl rfl) (fun pr e s m args below meth c0 A Q H ls hx hb hml hown hts hsz hA hP hK hD hS hG hret hl => ?_)
  have hown : s.vm.findClass RX2 = some m.cls := hown
  have hl : lv_has ls 3 [(0, .ref h0)] := hl
  refine lv_iconst (v := nI 0) hx hb dX2_smooth_0 (by decide) ?_
  refine lv_istore_n (lv' := [(1, .int (nI 0)), (0, .ref h0)]) hx hb dX2_smooth_1 rfl hl (by decide) rfl (fun ls hl => ?_)
  refine lv_iconst (v := nI 1) hx hb dX2_smooth_2 (by decide) ?_
  refine lv_istore_n (lv' := [(2, .int (nI 1)), (1, .int (nI 0)), (0, .ref h0)]) hx hb dX2_smooth_3 rfl hl (by decide) rfl (fun ls hl => ?_)
  have L4 : ∀ (n : Nat) (g0 : Nat) (U2 : Nat → Nat) (ch : Nat), 20 - g0 < n → (g0 ≤ 20) → (U2 = it B U g0) → (ch < 2) → (¬ ch = 0 → evN B U (20 - g0) g0 = evN B U 20 0) → (ch = 0 → g0 = evN B U 20 0) → ∀ (H : Heap) (locs : List Loc) (ls : Array Slot), va_P D vwCl [(h0, .inr (2, [.ref h1, .ref h2, .ref h3])), (h1, .inl (cI, 64, .inl (nF T))), (h2, .inl (cI, 64, .inl (nF U2))), (h3, .inl (cZ, 64, .inl (nF B)))] H → va_D A [(h0, .inr (2, [.ref h1, .ref h2, .ref h3])), (h1, .inl (cI, 64, .inl (nF T))), (h2, .inl (cI, 64, .inl (nF U2))), (h3, .inl (cZ, 64, .inl (nF B)))] → va_S A s.heap H locs → lv_has ls 3 [(0, .ref h0), (1, .int (nI g0)), (2, .int (nI ch))] → W pr l e ({ frames := 5, cells := 0, slots := 0, locals := 117 } : Room) s m args below meth c0 H locs 0 0 Q (F0 m 4 ls []) := by
    intro n
    induction n with
    | zero => intro g0 U2 ch h0; exact absurd h0 (Nat.not_lt_zero _)
    | succ n ih4 =>
      intro g0 U2 ch hm4 hg hU2 hc2 hy hz H locs ls hP hD hS hl
      refine lv_iload_n hx hb dX2_smooth_4 rfl (lv_at hl 2 rfl) ?_
      refine nv_if_eq (tgt := 25) hx hb dX2_smooth_5 (by decide) (by omega) (fun c_1 => ?_) (fun c_1 => ?_)
      · skip
        have hN := hz c_1
        subst hU2
        subst hN
        refine lv_iload_n hx hb dX2_smooth_25 rfl (lv_at hl 1 rfl) ?_
        exact hret _ () _ _ _ _ dX2_smooth_26 (rfl) hP hD hS
      · skip
        refine lv_iload_n hx hb dX2_smooth_8 rfl (lv_at hl 1 rfl) ?_
        refine lv_bipush (v := nI 20) hx hb dX2_smooth_9 (by decide) ?_
        refine nv_icmp_ge (tgt := 25) hx hb dX2_smooth_11 (by decide) (by omega) (by omega) (fun c_2 => ?_) (fun c_2 => ?_)
        · skip
          have h20 : g0 = 20 := by omega
          have hN : g0 = evN B U 20 0 := by rw [← hy (by assumption), h20]; rfl
          subst hU2
          subst hN
          refine lv_iload_n hx hb dX2_smooth_25 rfl (lv_at hl 1 rfl) ?_
          exact hret _ () _ _ _ _ dX2_smooth_26 (rfl) hP hD hS
        · skip
          refine lv_aload_n hx hb dX2_smooth_14 rfl (lv_at hl 0 rfl) ?_
          refine gcVi (ws' := fun _ => [(h0, .inr (2, [.ref h1, .ref h2, .ref h3])), (h1, .inl (cI, 64, .inl (nF T))), (h2, .inl (cI, 64, .inl (nF ((gtS B U2 64).1)))), (h3, .inl (cZ, 64, .inl (nF B)))]) (wr := []) (ci := 2) (q0 := 0) (As := []) (rest := []) ⟨hx, hb, hml, hown, hts⟩ (c_X2_goThrough l D cI cZ tt H.size h0 h1 h2 h3 T U2 B (by exact fun k => by rw [hU2]; exact it_lt hU g0 k) (by first | assumption | omega)) (cwV 0 hts gX2_smooth_X2_goThrough rfl rfl rfl (by decide +kernel) ⟨Nat.le_of_ble_eq_true rfl, Nat.le_of_ble_eq_true rfl⟩) hP hK hD hS hA hG rfl rfl [0, 1, 2, 3] [] [0, 1, 2, 3] (by decide) rfl rfl (by decide) (by decide) (by decide) (fun _ => rfl) hl.1 rfl rfl (Nat.le_of_ble_eq_true rfl) ⟨Nat.zero_le _, Nat.zero_le _⟩ dX2_smooth_15 (fun r u H locs hp hP hD hS => ?_)
          obtain rfl := hp
          have hP : va_P D vwCl [(h0, .inr (2, [.ref h1, .ref h2, .ref h3])), (h1, .inl (cI, 64, .inl (nF T))), (h2, .inl (cI, 64, .inl (nF ((gtS B U2 64).1)))), (h3, .inl (cZ, 64, .inl (nF B)))] H := hP
          have hD : va_D A [(h0, .inr (2, [.ref h1, .ref h2, .ref h3])), (h1, .inl (cI, 64, .inl (nF T))), (h2, .inl (cI, 64, .inl (nF ((gtS B U2 64).1)))), (h3, .inl (cZ, 64, .inl (nF B)))] := hD
          refine lv_istore_n (lv' := [(2, .int (nI ((gtS B U2 64).2))), (0, .ref h0), (1, .int (nI g0))]) hx hb dX2_smooth_18 rfl hl (by decide) rfl (fun ls hl => ?_)
          refine lv_iinc (v := nI (g0 + 1)) (lv' := [(1, .int (nI (g0 + 1))), (2, .int (nI ((gtS B U2 64).2))), (0, .ref h0)]) hx hb dX2_smooth_19 hl (k := 2) rfl (by exact nI_add _ 1) (by decide) rfl (fun ls hl => ?_)
          refine lv_goto (tgt := 4) hx hb dX2_smooth_22 (by decide) ?_
          exact ih4 (g0 + 1) ((gtS B U2 64).1) ((gtS B U2 64).2) (by omega) (by omega) (by rw [hU2]; rfl) (gtS_flag 64) (fun q => by rw [← hy (by assumption), show 20 - g0 = (20 - (g0 + 1)) + 1 by omega, evN_no (by rw [← hU2]; exact q)]) (fun q => by rw [← hy (by assumption), show 20 - g0 = (20 - (g0 + 1)) + 1 by omega, evN_yes (by rw [← hU2]; exact q)]) _ _ _ hP hD hS (lv_sub hl [2, 0, 1] rfl)
  exact L4 (20 + 1) 0 U 1 (by omega) (by omega) rfl (by omega) (fun _ => rfl) (fun q => absurd q (by decide)) _ _ _ hP hD hS (lv_sub hl [2, 1, 0] rfl)
