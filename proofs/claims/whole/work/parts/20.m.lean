set_option maxHeartbeats 4000000 in
set_option maxRecDepth 100000 in
theorem c_X5_off (l : Launch) (D : va_G) (cI cZ : ClassId) (tt : Nat → Nat) (sz : Nat) (m0 m1 m2 m3 m4 m5 m6 m7 m8 m9 m10 : Nat) (np ai : Nat) (T U B G Wm M F L Z Om Nm : Nat → Nat) (x y : Int32) (t : Nat) (hU : ∀ k, U k < 8) (ht : t < 8) : MI l yX5_off wsX5_off ({ frames := 2, cells := 0, slots := 0, locals := 43 } : Room) D cI cZ tt [.ref m0, .int (x), .int (y), .int (nI t)] [(m0, .inr (5, [.ref m1, .ref m2, .ref m3, .int (nI (G 0)), .int (nI (G 1)), .int (nI (G 2)), .int (nI (G 3)), .ref m4, .ref m5, .int (nI np), .ref m6, .ref m7, .ref m8, .ref m9, .ref m10, .int (nI ai)])), (m1, .inl (cI, 64, .inl (nF T))), (m2, .inl (cI, 64, .inl (nF U))), (m3, .inl (cZ, 64, .inl (nF B))), (m4, .inl (cI, 64, .inl (nF Wm))), (m5, .inl (cI, 64, .inl (nF M))), (m6, .inl (cI, 64, .inl (nF F))), (m7, .inl (cI, 64, .inl (nF L))), (m8, .inl (cI, 64, .inl (nF Z))), (m9, .inl (cI, 64, .inl (nF Om))), (m10, .inl (cI, 64, .inl (nF Nm)))] sz (fun (r : Int32) (_ : Unit) => r = nI (sa U x y t)) (fun (_ : Unit) => [(m0, .inr (5, [.ref m1, .ref m2, .ref m3, .int (nI (G 0)), .int (nI (G 1)), .int (nI (G 2)), .int (nI (G 3)), .ref m4, .ref m5, .int (nI np), .ref m6, .ref m7, .ref m8, .ref m9, .ref m10, .int (nI ai)])), (m1, .inl (cI, 64, .inl (nF T))), (m2, .inl (cI, 64, .inl (nF U))), (m3, .inl (cZ, 64, .inl (nF B))), (m4, .inl (cI, 64, .inl (nF Wm))), (m5, .inl (cI, 64, .inl (nF M))), (m6, .inl (cI, 64, .inl (nF F))), (m7, .inl (cI, 64, .inl (nF L))), (m8, .inl (cI, 64, .inl (nF Z))), (m9, .inl (cI, 64, .inl (nF Om))), (m10, .inl (cI, 64, .inl (nF Nm)))]) := by
  refine entI (cc := cX5_off) 5 (by decide) rfl (Nat.le_of_ble_eq_true rfl) (Or.inl rfl) (fun pr e s m args below meth c0 A Q H ls hx hb hml hown hts hsz hA hP hK hD hS hG hret hl => ?_)
  have hown : s.vm.findClass RX5 = some m.cls := hown
  have lk1 := hts (.fieldLink RX5 13 "BurinLinesModel" "turn" "[I") (by decide +kernel)
  have hinX5 : ∀ w ∈ wsX50, w ∈ wsX5_off := by decide +kernel
  have hl : lv_has ls 5 [(0, .ref m0), (1, .int (x)), (2, .int (y)), (3, .int (nI t))] := hl
  refine lv_iload_n hx hb dX5_off_0 rfl (lv_at hl 1 rfl) ?_
  refine lv_iload_n hx hb dX5_off_1 rfl (lv_at hl 2 rfl) ?_
  refine gcS (As := [.int (x), .int (y)]) (rest := []) ⟨hx, hb, hml, hown, hts⟩ (c_X5_isCell l x y ) (va_cwS 2 hts gX5_off_X5_isCell rfl rfl rfl (by decide +kernel) ⟨Nat.le_of_ble_eq_true rfl, Nat.le_of_ble_eq_true rfl⟩) hl.1 rfl rfl (Nat.le_of_ble_eq_true rfl) ⟨Nat.zero_le _, Nat.zero_le _⟩ dX5_off_2 ?_
  refine nv_ifb_ne (tgt := 10) hx hb dX5_off_5 (by decide) (fun c_1 => ?_) (fun c_1 => ?_)
  · skip
    obtain ⟨a, b, ha8, hb8, rfl, rfl⟩ := okc_nat c_1
    refine lv_aload_n hx hb dX5_off_10 rfl (lv_at hl 0 rfl) ?_
    refine va_get (D := D) (ci := 5) (v := .ref m2) (C := RX5) (T := TX5) (N := 16) hx hb hts hinX5 hown hK hP 0 rfl rfl 1 (by decide) lk1 (fun _ h9 => h9) rfl dX5_off_11 ?_
    refine lv_bipush (v := nI 8) hx hb dX5_off_14 (by decide) ?_
    refine lv_iload_n hx hb dX5_off_16 rfl (lv_at hl 2 rfl) ?_
    refine nv_imul hx hb dX5_off_17 ?_
    refine lv_iload_n hx hb dX5_off_18 rfl (lv_at hl 1 rfl) ?_
    refine nv_iadd hx hb dX5_off_19 ?_
    refine nv_iald hx hb hK hP 2 rfl (by omega) (by decide) dX5_off_20 ?_
    have bd_2 := hU ((8 * b) + a)
    refine lv_iload_n hx hb dX5_off_21 rfl (lv_at hl 3 rfl) ?_
    refine lv_isub hx hb dX5_off_22 ?_
    refine gcS (As := [.int ((nI (U ((8 * b) + a))) - (nI t))]) (rest := []) ⟨hx, hb, hml, hown, hts⟩ (c_X5_size l ((nI (U ((8 * b) + a))) - (nI t)) ) (va_cwS 1 hts gX5_off_X5_size rfl rfl rfl (by decide +kernel) ⟨Nat.le_of_ble_eq_true rfl, Nat.le_of_ble_eq_true rfl⟩) hl.1 rfl rfl (Nat.le_of_ble_eq_true rfl) ⟨Nat.zero_le _, Nat.zero_le _⟩ dX5_off_23 ?_
    refine top_eq (sz32_nd (by omega) (by omega)) ?_
    refine lv_istore (lv' := [(4, .int (nI (nd (U ((8 * b) + a)) t))), (0, .ref m0), (1, .int (nI a)), (2, .int (nI b)), (3, .int (nI t))]) hx hb dX5_off_26 hl (by decide) rfl (fun ls hl => ?_)
    refine lv_iload hx hb dX5_off_28 (lv_at hl 0 rfl) ?_
    refine lv_bipush (v := nI 8) hx hb dX5_off_30 (by decide) ?_
    refine lv_iload hx hb dX5_off_32 (lv_at hl 0 rfl) ?_
    refine nv_isub hx hb dX5_off_34 (by unfold nd; omega) ?_
    refine gcS (As := [.int (nI (nd (U ((8 * b) + a)) t)), .int (nI (8 - (nd (U ((8 * b) + a)) t)))]) (rest := []) ⟨hx, hb, hml, hown, hts⟩ (c_X5_less l (nd (U ((8 * b) + a)) t) (8 - (nd (U ((8 * b) + a)) t)) (by unfold nd; omega) (by omega)) (va_cwS 2 hts gX5_off_X5_less rfl rfl rfl (by decide +kernel) ⟨Nat.le_of_ble_eq_true rfl, Nat.le_of_ble_eq_true rfl⟩) hl.1 rfl rfl (Nat.le_of_ble_eq_true rfl) ⟨Nat.zero_le _, Nat.zero_le _⟩ dX5_off_35 ?_
    refine lv_istore (lv' := [(4, .int (nI (min (nd (U ((8 * b) + a)) t) (8 - (nd (U ((8 * b) + a)) t))))), (0, .ref m0), (1, .int (nI a)), (2, .int (nI b)), (3, .int (nI t))]) hx hb dX5_off_38 hl (by decide) rfl (fun ls hl => ?_)
    refine lv_iload hx hb dX5_off_40 (lv_at hl 0 rfl) ?_
    refine lv_iload hx hb dX5_off_42 (lv_at hl 0 rfl) ?_
    refine nv_imul hx hb dX5_off_44 ?_
    exact hret _ () _ _ _ _ dX5_off_45 (by rw [sa_nat U t ha8 hb8]; rfl) hP hD hS
  · skip
    refine lv_iconst (v := nI 0) hx hb dX5_off_8 (by decide) ?_
    exact hret _ () _ _ _ _ dX5_off_9 (by unfold sa; rw [if_neg (by assumption)]) hP hD hS

set_option maxHeartbeats 4000000 in
set_option maxRecDepth 100000 in
theorem c_X5_offOf (l : Launch) (D : va_G) (cI cZ : ClassId) (tt : Nat → Nat) (sz : Nat) (m0 m1 m2 m3 m4 m5 m6 m7 m8 m9 m10 : Nat) (np ai : Nat) (T U B G Wm M F L Z Om Nm : Nat → Nat) (c t : Nat) (hU : ∀ k, U k < 8) (hc : c < 64) (ht : t < 8) : MI l yX5_offOf wsX5_offOf ({ frames := 3, cells := 0, slots := 0, locals := 67 } : Room) D cI cZ tt [.ref m0, .int (nI (c % 8)), .int (nI (c / 8)), .int (nI t)] [(m0, .inr (5, [.ref m1, .ref m2, .ref m3, .int (nI (G 0)), .int (nI (G 1)), .int (nI (G 2)), .int (nI (G 3)), .ref m4, .ref m5, .int (nI np), .ref m6, .ref m7, .ref m8, .ref m9, .ref m10, .int (nI ai)])), (m1, .inl (cI, 64, .inl (nF T))), (m2, .inl (cI, 64, .inl (nF U))), (m3, .inl (cZ, 64, .inl (nF B))), (m4, .inl (cI, 64, .inl (nF Wm))), (m5, .inl (cI, 64, .inl (nF M))), (m6, .inl (cI, 64, .inl (nF F))), (m7, .inl (cI, 64, .inl (nF L))), (m8, .inl (cI, 64, .inl (nF Z))), (m9, .inl (cI, 64, .inl (nF Om))), (m10, .inl (cI, 64, .inl (nF Nm)))] sz (fun (r : Int32) (_ : Unit) => r = nI (sn U c t)) (fun (_ : Unit) => [(m0, .inr (5, [.ref m1, .ref m2, .ref m3, .int (nI (G 0)), .int (nI (G 1)), .int (nI (G 2)), .int (nI (G 3)), .ref m4, .ref m5, .int (nI np), .ref m6, .ref m7, .ref m8, .ref m9, .ref m10, .int (nI ai)])), (m1, .inl (cI, 64, .inl (nF T))), (m2, .inl (cI, 64, .inl (nF U))), (m3, .inl (cZ, 64, .inl (nF B))), (m4, .inl (cI, 64, .inl (nF Wm))), (m5, .inl (cI, 64, .inl (nF M))), (m6, .inl (cI, 64, .inl (nF F))), (m7, .inl (cI, 64, .inl (nF L))), (m8, .inl (cI, 64, .inl (nF Z))), (m9, .inl (cI, 64, .inl (nF Om))), (m10, .inl (cI, 64, .inl (nF Nm)))]) := by
  refine entI (cc := cX5_offOf) 4 (by decide) rfl (Nat.le_of_ble_eq_true rfl) (Or.inl rfl) (fun pr e s m args below meth c0 A Q H ls hx hb hml hown hts hsz hA hP hK hD hS hG hret hl => ?_)
  have hown : s.vm.findClass RX5 = some m.cls := hown
  have hl : lv_has ls 4 [(0, .ref m0), (1, .int (nI (c % 8))), (2, .int (nI (c / 8))), (3, .int (nI t))] := hl
  refine lv_aload_n hx hb dX5_offOf_0 rfl (lv_at hl 0 rfl) ?_
  refine lv_iload_n hx hb dX5_offOf_1 rfl (lv_at hl 1 rfl) ?_
  refine lv_iconst (v := nI 1) hx hb dX5_offOf_2 (by decide) ?_
  refine lv_isub hx hb dX5_offOf_3 ?_
  refine lv_iload_n hx hb dX5_offOf_4 rfl (lv_at hl 2 rfl) ?_
  refine lv_iload_n hx hb dX5_offOf_5 rfl (lv_at hl 3 rfl) ?_
  refine gcVi (ws' := fun _ => [(m0, .inr (5, [.ref m1, .ref m2, .ref m3, .int (nI (G 0)), .int (nI (G 1)), .int (nI (G 2)), .int (nI (G 3)), .ref m4, .ref m5, .int (nI np), .ref m6, .ref m7, .ref m8, .ref m9, .ref m10, .int (nI ai)])), (m1, .inl (cI, 64, .inl (nF T))), (m2, .inl (cI, 64, .inl (nF U))), (m3, .inl (cZ, 64, .inl (nF B))), (m4, .inl (cI, 64, .inl (nF Wm))), (m5, .inl (cI, 64, .inl (nF M))), (m6, .inl (cI, 64, .inl (nF F))), (m7, .inl (cI, 64, .inl (nF L))), (m8, .inl (cI, 64, .inl (nF Z))), (m9, .inl (cI, 64, .inl (nF Om))), (m10, .inl (cI, 64, .inl (nF Nm)))]) (wr := []) (ci := 5) (q0 := 0) (As := [.int ((nI (c % 8)) - (nI 1)), .int (nI (c / 8)), .int (nI t)]) (rest := []) ⟨hx, hb, hml, hown, hts⟩ (c_X5_off l D cI cZ tt H.size m0 m1 m2 m3 m4 m5 m6 m7 m8 m9 m10 np ai T U B G Wm M F L Z Om Nm ((nI (c % 8)) - (nI 1)) (nI (c / 8)) t (by first | assumption | omega) (by first | assumption | omega)) (cwV 3 hts gX5_offOf_X5_off rfl rfl rfl (by decide +kernel) ⟨Nat.le_of_ble_eq_true rfl, Nat.le_of_ble_eq_true rfl⟩) hP hK hD hS hA hG rfl rfl [0, 1, 2, 3, 4, 5, 6, 7, 8, 9, 10] [] [0, 1, 2, 3, 4, 5, 6, 7, 8, 9, 10] (by decide) rfl rfl (by decide) (by decide) (by decide) (fun _ => rfl) hl.1 rfl rfl (Nat.le_of_ble_eq_true rfl) ⟨Nat.zero_le _, Nat.zero_le _⟩ dX5_offOf_6 (fun r u H locs hp hP hD hS => ?_)
  obtain rfl := hp
  have hP : va_P D vwCl [(m0, .inr (5, [.ref m1, .ref m2, .ref m3, .int (nI (G 0)), .int (nI (G 1)), .int (nI (G 2)), .int (nI (G 3)), .ref m4, .ref m5, .int (nI np), .ref m6, .ref m7, .ref m8, .ref m9, .ref m10, .int (nI ai)])), (m1, .inl (cI, 64, .inl (nF T))), (m2, .inl (cI, 64, .inl (nF U))), (m3, .inl (cZ, 64, .inl (nF B))), (m4, .inl (cI, 64, .inl (nF Wm))), (m5, .inl (cI, 64, .inl (nF M))), (m6, .inl (cI, 64, .inl (nF F))), (m7, .inl (cI, 64, .inl (nF L))), (m8, .inl (cI, 64, .inl (nF Z))), (m9, .inl (cI, 64, .inl (nF Om))), (m10, .inl (cI, 64, .inl (nF Nm)))] H := hP
  have hD : va_D A [(m0, .inr (5, [.ref m1, .ref m2, .ref m3, .int (nI (G 0)), .int (nI (G 1)), .int (nI (G 2)), .int (nI (G 3)), .ref m4, .ref m5, .int (nI np), .ref m6, .ref m7, .ref m8, .ref m9, .ref m10, .int (nI ai)])), (m1, .inl (cI, 64, .inl (nF T))), (m2, .inl (cI, 64, .inl (nF U))), (m3, .inl (cZ, 64, .inl (nF B))), (m4, .inl (cI, 64, .inl (nF Wm))), (m5, .inl (cI, 64, .inl (nF M))), (m6, .inl (cI, 64, .inl (nF F))), (m7, .inl (cI, 64, .inl (nF L))), (m8, .inl (cI, 64, .inl (nF Z))), (m9, .inl (cI, 64, .inl (nF Om))), (m10, .inl (cI, 64, .inl (nF Nm)))] := hD
  refine lv_aload_n hx hb dX5_offOf_9 rfl (lv_at hl 0 rfl) ?_
  refine lv_iload_n hx hb dX5_offOf_10 rfl (lv_at hl 1 rfl) ?_
  refine lv_iconst (v := nI 1) hx hb dX5_offOf_11 (by decide) ?_
  refine nv_iadd hx hb dX5_offOf_12 ?_
  refine lv_iload_n hx hb dX5_offOf_13 rfl (lv_at hl 2 rfl) ?_
  refine lv_iload_n hx hb dX5_offOf_14 rfl (lv_at hl 3 rfl) ?_
  refine gcVi (ws' := fun _ => [(m0, .inr (5, [.ref m1, .ref m2, .ref m3, .int (nI (G 0)), .int (nI (G 1)), .int (nI (G 2)), .int (nI (G 3)), .ref m4, .ref m5, .int (nI np), .ref m6, .ref m7, .ref m8, .ref m9, .ref m10, .int (nI ai)])), (m1, .inl (cI, 64, .inl (nF T))), (m2, .inl (cI, 64, .inl (nF U))), (m3, .inl (cZ, 64, .inl (nF B))), (m4, .inl (cI, 64, .inl (nF Wm))), (m5, .inl (cI, 64, .inl (nF M))), (m6, .inl (cI, 64, .inl (nF F))), (m7, .inl (cI, 64, .inl (nF L))), (m8, .inl (cI, 64, .inl (nF Z))), (m9, .inl (cI, 64, .inl (nF Om))), (m10, .inl (cI, 64, .inl (nF Nm)))]) (wr := []) (ci := 5) (q0 := 0) (As := [.int (nI ((c % 8) + 1)), .int (nI (c / 8)), .int (nI t)]) (rest := [.int (nI (sa U ((nI (c % 8)) - (nI 1)) (nI (c / 8)) t))]) ⟨hx, hb, hml, hown, hts⟩ (c_X5_off l D cI cZ tt H.size m0 m1 m2 m3 m4 m5 m6 m7 m8 m9 m10 np ai T U B G Wm M F L Z Om Nm (nI ((c % 8) + 1)) (nI (c / 8)) t (by first | assumption | omega) (by first | assumption | omega)) (cwV 3 hts gX5_offOf_X5_off rfl rfl rfl (by decide +kernel) ⟨Nat.le_of_ble_eq_true rfl, Nat.le_of_ble_eq_true rfl⟩) hP hK hD hS hA hG rfl rfl [0, 1, 2, 3, 4, 5, 6, 7, 8, 9, 10] [] [0, 1, 2, 3, 4, 5, 6, 7, 8, 9, 10] (by decide) rfl rfl (by decide) (by decide) (by decide) (fun _ => rfl) hl.1 rfl rfl (Nat.le_of_ble_eq_true rfl) ⟨Nat.zero_le _, Nat.zero_le _⟩ dX5_offOf_15 (fun r u H locs hp hP hD hS => ?_)
  obtain rfl := hp
  have hP : va_P D vwCl [(m0, .inr (5, [.ref m1, .ref m2, .ref m3, .int (nI (G 0)), .int (nI (G 1)), .int (nI (G 2)), .int (nI (G 3)), .ref m4, .ref m5, .int (nI np), .ref m6, .ref m7, .ref m8, .ref m9, .ref m10, .int (nI ai)])), (m1, .inl (cI, 64, .inl (nF T))), (m2, .inl (cI, 64, .inl (nF U))), (m3, .inl (cZ, 64, .inl (nF B))), (m4, .inl (cI, 64, .inl (nF Wm))), (m5, .inl (cI, 64, .inl (nF M))), (m6, .inl (cI, 64, .inl (nF F))), (m7, .inl (cI, 64, .inl (nF L))), (m8, .inl (cI, 64, .inl (nF Z))), (m9, .inl (cI, 64, .inl (nF Om))), (m10, .inl (cI, 64, .inl (nF Nm)))] H := hP
  have hD : va_D A [(m0, .inr (5, [.ref m1, .ref m2, .ref m3, .int (nI (G 0)), .int (nI (G 1)), .int (nI (G 2)), .int (nI (G 3)), .ref m4, .ref m5, .int (nI np), .ref m6, .ref m7, .ref m8, .ref m9, .ref m10, .int (nI ai)])), (m1, .inl (cI, 64, .inl (nF T))), (m2, .inl (cI, 64, .inl (nF U))), (m3, .inl (cZ, 64, .inl (nF B))), (m4, .inl (cI, 64, .inl (nF Wm))), (m5, .inl (cI, 64, .inl (nF M))), (m6, .inl (cI, 64, .inl (nF F))), (m7, .inl (cI, 64, .inl (nF L))), (m8, .inl (cI, 64, .inl (nF Z))), (m9, .inl (cI, 64, .inl (nF Om))), (m10, .inl (cI, 64, .inl (nF Nm)))] := hD
  refine nv_iadd hx hb dX5_offOf_18 ?_
  refine lv_aload_n hx hb dX5_offOf_19 rfl (lv_at hl 0 rfl) ?_
  refine lv_iload_n hx hb dX5_offOf_20 rfl (lv_at hl 1 rfl) ?_
  refine lv_iload_n hx hb dX5_offOf_21 rfl (lv_at hl 2 rfl) ?_
  refine lv_iconst (v := nI 1) hx hb dX5_offOf_22 (by decide) ?_
  refine lv_isub hx hb dX5_offOf_23 ?_
  refine lv_iload_n hx hb dX5_offOf_24 rfl (lv_at hl 3 rfl) ?_
  refine gcVi (ws' := fun _ => [(m0, .inr (5, [.ref m1, .ref m2, .ref m3, .int (nI (G 0)), .int (nI (G 1)), .int (nI (G 2)), .int (nI (G 3)), .ref m4, .ref m5, .int (nI np), .ref m6, .ref m7, .ref m8, .ref m9, .ref m10, .int (nI ai)])), (m1, .inl (cI, 64, .inl (nF T))), (m2, .inl (cI, 64, .inl (nF U))), (m3, .inl (cZ, 64, .inl (nF B))), (m4, .inl (cI, 64, .inl (nF Wm))), (m5, .inl (cI, 64, .inl (nF M))), (m6, .inl (cI, 64, .inl (nF F))), (m7, .inl (cI, 64, .inl (nF L))), (m8, .inl (cI, 64, .inl (nF Z))), (m9, .inl (cI, 64, .inl (nF Om))), (m10, .inl (cI, 64, .inl (nF Nm)))]) (wr := []) (ci := 5) (q0 := 0) (As := [.int (nI (c % 8)), .int ((nI (c / 8)) - (nI 1)), .int (nI t)]) (rest := [.int (nI ((sa U ((nI (c % 8)) - (nI 1)) (nI (c / 8)) t) + (sa U (nI ((c % 8) + 1)) (nI (c / 8)) t)))]) ⟨hx, hb, hml, hown, hts⟩ (c_X5_off l D cI cZ tt H.size m0 m1 m2 m3 m4 m5 m6 m7 m8 m9 m10 np ai T U B G Wm M F L Z Om Nm (nI (c % 8)) ((nI (c / 8)) - (nI 1)) t (by first | assumption | omega) (by first | assumption | omega)) (cwV 3 hts gX5_offOf_X5_off rfl rfl rfl (by decide +kernel) ⟨Nat.le_of_ble_eq_true rfl, Nat.le_of_ble_eq_true rfl⟩) hP hK hD hS hA hG rfl rfl [0, 1, 2, 3, 4, 5, 6, 7, 8, 9, 10] [] [0, 1, 2, 3, 4, 5, 6, 7, 8, 9, 10] (by decide) rfl rfl (by decide) (by decide) (by decide) (fun _ => rfl) hl.1 rfl rfl (Nat.le_of_ble_eq_true rfl) ⟨Nat.zero_le _, Nat.zero_le _⟩ dX5_offOf_25 (fun r u H locs hp hP hD hS => ?_)
  obtain rfl := hp
  have hP : va_P D vwCl [(m0, .inr (5, [.ref m1, .ref m2, .ref m3, .int (nI (G 0)), .int (nI (G 1)), .int (nI (G 2)), .int (nI (G 3)), .ref m4, .ref m5, .int (nI np), .ref m6, .ref m7, .ref m8, .ref m9, .ref m10, .int (nI ai)])), (m1, .inl (cI, 64, .inl (nF T))), (m2, .inl (cI, 64, .inl (nF U))), (m3, .inl (cZ, 64, .inl (nF B))), (m4, .inl (cI, 64, .inl (nF Wm))), (m5, .inl (cI, 64, .inl (nF M))), (m6, .inl (cI, 64, .inl (nF F))), (m7, .inl (cI, 64, .inl (nF L))), (m8, .inl (cI, 64, .inl (nF Z))), (m9, .inl (cI, 64, .inl (nF Om))), (m10, .inl (cI, 64, .inl (nF Nm)))] H := hP
  have hD : va_D A [(m0, .inr (5, [.ref m1, .ref m2, .ref m3, .int (nI (G 0)), .int (nI (G 1)), .int (nI (G 2)), .int (nI (G 3)), .ref m4, .ref m5, .int (nI np), .ref m6, .ref m7, .ref m8, .ref m9, .ref m10, .int (nI ai)])), (m1, .inl (cI, 64, .inl (nF T))), (m2, .inl (cI, 64, .inl (nF U))), (m3, .inl (cZ, 64, .inl (nF B))), (m4, .inl (cI, 64, .inl (nF Wm))), (m5, .inl (cI, 64, .inl (nF M))), (m6, .inl (cI, 64, .inl (nF F))), (m7, .inl (cI, 64, .inl (nF L))), (m8, .inl (cI, 64, .inl (nF Z))), (m9, .inl (cI, 64, .inl (nF Om))), (m10, .inl (cI, 64, .inl (nF Nm)))] := hD
  refine nv_iadd hx hb dX5_offOf_28 ?_
  refine lv_aload_n hx hb dX5_offOf_29 rfl (lv_at hl 0 rfl) ?_
  refine lv_iload_n hx hb dX5_offOf_30 rfl (lv_at hl 1 rfl) ?_
  refine lv_iload_n hx hb dX5_offOf_31 rfl (lv_at hl 2 rfl) ?_
  refine lv_iconst (v := nI 1) hx hb dX5_offOf_32 (by decide) ?_
  refine nv_iadd hx hb dX5_offOf_33 ?_
  refine lv_iload_n hx hb dX5_offOf_34 rfl (lv_at hl 3 rfl) ?_
  refine gcVi (ws' := fun _ => [(m0, .inr (5, [.ref m1, .ref m2, .ref m3, .int (nI (G 0)), .int (nI (G 1)), .int (nI (G 2)), .int (nI (G 3)), .ref m4, .ref m5, .int (nI np), .ref m6, .ref m7, .ref m8, .ref m9, .ref m10, .int (nI ai)])), (m1, .inl (cI, 64, .inl (nF T))), (m2, .inl (cI, 64, .inl (nF U))), (m3, .inl (cZ, 64, .inl (nF B))), (m4, .inl (cI, 64, .inl (nF Wm))), (m5, .inl (cI, 64, .inl (nF M))), (m6, .inl (cI, 64, .inl (nF F))), (m7, .inl (cI, 64, .inl (nF L))), (m8, .inl (cI, 64, .inl (nF Z))), (m9, .inl (cI, 64, .inl (nF Om))), (m10, .inl (cI, 64, .inl (nF Nm)))]) (wr := []) (ci := 5) (q0 := 0) (As := [.int (nI (c % 8)), .int (nI ((c / 8) + 1)), .int (nI t)]) (rest := [.int (nI (((sa U ((nI (c % 8)) - (nI 1)) (nI (c / 8)) t) + (sa U (nI ((c % 8) + 1)) (nI (c / 8)) t)) + (sa U (nI (c % 8)) ((nI (c / 8)) - (nI 1)) t)))]) ⟨hx, hb, hml, hown, hts⟩ (c_X5_off l D cI cZ tt H.size m0 m1 m2 m3 m4 m5 m6 m7 m8 m9 m10 np ai T U B G Wm M F L Z Om Nm (nI (c % 8)) (nI ((c / 8) + 1)) t (by first | assumption | omega) (by first | assumption | omega)) (cwV 3 hts gX5_offOf_X5_off rfl rfl rfl (by decide +kernel) ⟨Nat.le_of_ble_eq_true rfl, Nat.le_of_ble_eq_true rfl⟩) hP hK hD hS hA hG rfl rfl [0, 1, 2, 3, 4, 5, 6, 7, 8, 9, 10] [] [0, 1, 2, 3, 4, 5, 6, 7, 8, 9, 10] (by decide) rfl rfl (by decide) (by decide) (by decide) (fun _ => rfl) hl.1 rfl rfl (Nat.le_of_ble_eq_true rfl) ⟨Nat.zero_le _, Nat.zero_le _⟩ dX5_offOf_35 (fun r u H locs hp hP hD hS => ?_)
  obtain rfl := hp
  have hP : va_P D vwCl [(m0, .inr (5, [.ref m1, .ref m2, .ref m3, .int (nI (G 0)), .int (nI (G 1)), .int (nI (G 2)), .int (nI (G 3)), .ref m4, .ref m5, .int (nI np), .ref m6, .ref m7, .ref m8, .ref m9, .ref m10, .int (nI ai)])), (m1, .inl (cI, 64, .inl (nF T))), (m2, .inl (cI, 64, .inl (nF U))), (m3, .inl (cZ, 64, .inl (nF B))), (m4, .inl (cI, 64, .inl (nF Wm))), (m5, .inl (cI, 64, .inl (nF M))), (m6, .inl (cI, 64, .inl (nF F))), (m7, .inl (cI, 64, .inl (nF L))), (m8, .inl (cI, 64, .inl (nF Z))), (m9, .inl (cI, 64, .inl (nF Om))), (m10, .inl (cI, 64, .inl (nF Nm)))] H := hP
  have hD : va_D A [(m0, .inr (5, [.ref m1, .ref m2, .ref m3, .int (nI (G 0)), .int (nI (G 1)), .int (nI (G 2)), .int (nI (G 3)), .ref m4, .ref m5, .int (nI np), .ref m6, .ref m7, .ref m8, .ref m9, .ref m10, .int (nI ai)])), (m1, .inl (cI, 64, .inl (nF T))), (m2, .inl (cI, 64, .inl (nF U))), (m3, .inl (cZ, 64, .inl (nF B))), (m4, .inl (cI, 64, .inl (nF Wm))), (m5, .inl (cI, 64, .inl (nF M))), (m6, .inl (cI, 64, .inl (nF F))), (m7, .inl (cI, 64, .inl (nF L))), (m8, .inl (cI, 64, .inl (nF Z))), (m9, .inl (cI, 64, .inl (nF Om))), (m10, .inl (cI, 64, .inl (nF Nm)))] := hD
  refine nv_iadd hx hb dX5_offOf_38 ?_
  exact hret _ () _ _ _ _ dX5_offOf_39 (rfl) hP hD hS

set_option maxHeartbeats 4000000 in
set_option maxRecDepth 100000 in
theorem c_X5_goThrough (l : Launch) (D : va_G) (cI cZ : ClassId) (tt : Nat → Nat) (sz : Nat) (m0 m1 m2 m3 m4 m5 m6 m7 m8 m9 m10 : Nat) (np ai : Nat) (T U B G Wm M F L Z Om Nm : Nat → Nat) (hU : ∀ k, U k < 8) (hB : ∀ k, B k < 2) : MI l yX5_goThrough wsX5_goThrough ({ frames := 4, cells := 0, slots := 0, locals := 90 } : Room) D cI cZ tt [.ref m0] [(m0, .inr (5, [.ref m1, .ref m2, .ref m3, .int (nI (G 0)), .int (nI (G 1)), .int (nI (G 2)), .int (nI (G 3)), .ref m4, .ref m5, .int (nI np), .ref m6, .ref m7, .ref m8, .ref m9, .ref m10, .int (nI ai)])), (m1, .inl (cI, 64, .inl (nF T))), (m2, .inl (cI, 64, .inl (nF U))), (m3, .inl (cZ, 64, .inl (nF B))), (m4, .inl (cI, 64, .inl (nF Wm))), (m5, .inl (cI, 64, .inl (nF M))), (m6, .inl (cI, 64, .inl (nF F))), (m7, .inl (cI, 64, .inl (nF L))), (m8, .inl (cI, 64, .inl (nF Z))), (m9, .inl (cI, 64, .inl (nF Om))), (m10, .inl (cI, 64, .inl (nF Nm)))] sz (fun (r : Int32) (_ : Unit) => r = nI ((gtS B U 64).2)) (fun (_ : Unit) => [(m0, .inr (5, [.ref m1, .ref m2, .ref m3, .int (nI (G 0)), .int (nI (G 1)), .int (nI (G 2)), .int (nI (G 3)), .ref m4, .ref m5, .int (nI np), .ref m6, .ref m7, .ref m8, .ref m9, .ref m10, .int (nI ai)])), (m1, .inl (cI, 64, .inl (nF T))), (m2, .inl (cI, 64, .inl (nF ((gtS B U 64).1)))), (m3, .inl (cZ, 64, .inl (nF B))), (m4, .inl (cI, 64, .inl (nF Wm))), (m5, .inl (cI, 64, .inl (nF M))), (m6, .inl (cI, 64, .inl (nF F))), (m7, .inl (cI, 64, .inl (nF L))), (m8, .inl (cI, 64, .inl (nF Z))), (m9, .inl (cI, 64, .inl (nF Om))), (m10, .inl (cI, 64, .inl (nF Nm)))]) := by
  refine entI (cc := cX5_goThrough) 5 (by decide) rfl (Nat.le_of_ble_eq_true rfl) (Or.inr ⟨rfl, fun v u h => by rw [h]; have z := gtS_flag (B := B) (U := U) 64; rcases (show (gtS B U 64).2 = 0 ∨ (gtS B U 64).2 = 1 by omega) with q | q <;> rw [q] <;> rfl⟩) (fun pr e s m args below meth c0 A Q H ls hx hb hml hown hts hsz hA hP hK hD hS hG hret hl => ?_)
  have hown : s.vm.findClass RX5 = some m.cls := hown
  have lk1 := hts (.fieldLink RX5 16 "BurinLinesModel" "isTold" "[Z") (by decide +kernel)
  have lk2 := hts (.fieldLink RX5 13 "BurinLinesModel" "turn" "[I") (by decide +kernel)
  have hinX5 : ∀ w ∈ wsX50, w ∈ wsX5_goThrough := by decide +kernel
  have hl : lv_has ls 5 [(0, .ref m0)] := hl
  refine lv_iconst (v := nI 0) hx hb dX5_goThrough_0 (by decide) ?_
  refine lv_istore_n (lv' := [(1, .int (nI 0)), (0, .ref m0)]) hx hb dX5_goThrough_1 rfl hl (by decide) rfl (fun ls hl => ?_)
  refine lv_iconst (v := nI 0) hx hb dX5_goThrough_2 (by decide) ?_
  refine lv_istore_n (lv' := [(2, .int (nI 0)), (1, .int (nI 0)), (0, .ref m0)]) hx hb dX5_goThrough_3 rfl hl (by decide) rfl (fun ls hl => ?_)
  have L4 : ∀ (n : Nat) (i : Nat) (U2 : Nat → Nat) (ch : Nat), 64 - i < n → (i ≤ 64) → (U2 = (gtS B U i).1) → (ch = (gtS B U i).2) → (∀ k, U2 k < 8) → ∀ (H : Heap) (locs : List Loc) (ls : Array Slot), va_P D vwCl [(m0, .inr (5, [.ref m1, .ref m2, .ref m3, .int (nI (G 0)), .int (nI (G 1)), .int (nI (G 2)), .int (nI (G 3)), .ref m4, .ref m5, .int (nI np), .ref m6, .ref m7, .ref m8, .ref m9, .ref m10, .int (nI ai)])), (m1, .inl (cI, 64, .inl (nF T))), (m2, .inl (cI, 64, .inl (nF U2))), (m3, .inl (cZ, 64, .inl (nF B))), (m4, .inl (cI, 64, .inl (nF Wm))), (m5, .inl (cI, 64, .inl (nF M))), (m6, .inl (cI, 64, .inl (nF F))), (m7, .inl (cI, 64, .inl (nF L))), (m8, .inl (cI, 64, .inl (nF Z))), (m9, .inl (cI, 64, .inl (nF Om))), (m10, .inl (cI, 64, .inl (nF Nm)))] H → va_D A [(m0, .inr (5, [.ref m1, .ref m2, .ref m3, .int (nI (G 0)), .int (nI (G 1)), .int (nI (G 2)), .int (nI (G 3)), .ref m4, .ref m5, .int (nI np), .ref m6, .ref m7, .ref m8, .ref m9, .ref m10, .int (nI ai)])), (m1, .inl (cI, 64, .inl (nF T))), (m2, .inl (cI, 64, .inl (nF U2))), (m3, .inl (cZ, 64, .inl (nF B))), (m4, .inl (cI, 64, .inl (nF Wm))), (m5, .inl (cI, 64, .inl (nF M))), (m6, .inl (cI, 64, .inl (nF F))), (m7, .inl (cI, 64, .inl (nF L))), (m8, .inl (cI, 64, .inl (nF Z))), (m9, .inl (cI, 64, .inl (nF Om))), (m10, .inl (cI, 64, .inl (nF Nm)))] → va_S A s.heap H locs → lv_has ls 5 [(0, .ref m0), (1, .int (nI ch)), (2, .int (nI i))] → W pr l e ({ frames := 4, cells := 0, slots := 0, locals := 90 } : Room) s m args below meth c0 H locs 0 0 Q (F0 m 4 ls []) := by
    intro n
    induction n with
    | zero => intro i U2 ch h0; exact absurd h0 (Nat.not_lt_zero _)
    | succ n ih4 =>
      intro i U2 ch hm4 hi hU2 hch hb2 H locs ls hP hD hS hl
      refine lv_iload_n hx hb dX5_goThrough_4 rfl (lv_at hl 2 rfl) ?_
      refine lv_bipush (v := nI 64) hx hb dX5_goThrough_5 (by decide) ?_
      refine nv_icmp_ge (tgt := 123) hx hb dX5_goThrough_7 (by decide) (by omega) (by omega) (fun c_1 => ?_) (fun c_1 => ?_)
      · skip
        have h64 : i = 64 := by omega
        subst h64
        subst hU2
        subst hch
        refine lv_iload_n hx hb dX5_goThrough_123 rfl (lv_at hl 1 rfl) ?_
        exact hret _ () _ _ _ _ dX5_goThrough_124 (rfl) hP hD hS
      · skip
        refine lv_aload_n hx hb dX5_goThrough_10 rfl (lv_at hl 0 rfl) ?_
        refine va_get (D := D) (ci := 5) (v := .ref m3) (C := RX5) (T := TX5) (N := 16) hx hb hts hinX5 hown hK hP 0 rfl rfl 2 (by decide) lk1 (fun _ h9 => h9) rfl dX5_goThrough_11 ?_
        refine lv_iload_n hx hb dX5_goThrough_14 rfl (lv_at hl 2 rfl) ?_
        refine nv_zald hx hb hK hP 3 rfl (by omega) (by decide) dX5_goThrough_15 ?_
        have bd_2 := hB i
        refine nv_if_ne (tgt := 117) hx hb dX5_goThrough_16 (by decide) (by omega) (fun c_3 => ?_) (fun c_3 => ?_)
        · skip
          have e_4 : gtS B U (i + 1) = gtS B U i := gtS_no (fun q => absurd q.1 c_3)
          refine lv_iinc (v := nI (i + 1)) (lv' := [(2, .int (nI (i + 1))), (0, .ref m0), (1, .int (nI ch))]) hx hb dX5_goThrough_117 hl (k := 2) rfl (by exact nI_add _ 1) (by decide) rfl (fun ls hl => ?_)
          refine lv_goto (tgt := 4) hx hb dX5_goThrough_120 (by decide) ?_
          exact ih4 (i + 1) U2 ch (by omega) (by omega) (by rw [e_4]; exact hU2) (by rw [e_4]; exact hch) hb2 _ _ _ hP hD hS (lv_sub hl [1, 2, 0] rfl)
        · skip
          refine lv_iconst (v := nI 0) hx hb dX5_goThrough_19 (by decide) ?_
          refine lv_istore_n (lv' := [(3, .int (nI 0)), (0, .ref m0), (1, .int (nI ch)), (2, .int (nI i))]) hx hb dX5_goThrough_20 rfl hl (by decide) rfl (fun ls hl => ?_)
          refine lv_iconst (v := nI 1) hx hb dX5_goThrough_21 (by decide) ?_
          refine lv_istore (lv' := [(4, .int (nI 1)), (3, .int (nI 0)), (0, .ref m0), (1, .int (nI ch)), (2, .int (nI i))]) hx hb dX5_goThrough_22 hl (by decide) rfl (fun ls hl => ?_)
          have L24 : ∀ (n : Nat) (j : Nat) (bst : Nat), 8 - j < n → (1 ≤ j) → (j ≤ 8) → (bst = am (sn U2 i) (j - 1)) → (bst < 8) → ∀ (H : Heap) (locs : List Loc) (ls : Array Slot), va_P D vwCl [(m0, .inr (5, [.ref m1, .ref m2, .ref m3, .int (nI (G 0)), .int (nI (G 1)), .int (nI (G 2)), .int (nI (G 3)), .ref m4, .ref m5, .int (nI np), .ref m6, .ref m7, .ref m8, .ref m9, .ref m10, .int (nI ai)])), (m1, .inl (cI, 64, .inl (nF T))), (m2, .inl (cI, 64, .inl (nF U2))), (m3, .inl (cZ, 64, .inl (nF B))), (m4, .inl (cI, 64, .inl (nF Wm))), (m5, .inl (cI, 64, .inl (nF M))), (m6, .inl (cI, 64, .inl (nF F))), (m7, .inl (cI, 64, .inl (nF L))), (m8, .inl (cI, 64, .inl (nF Z))), (m9, .inl (cI, 64, .inl (nF Om))), (m10, .inl (cI, 64, .inl (nF Nm)))] H → va_D A [(m0, .inr (5, [.ref m1, .ref m2, .ref m3, .int (nI (G 0)), .int (nI (G 1)), .int (nI (G 2)), .int (nI (G 3)), .ref m4, .ref m5, .int (nI np), .ref m6, .ref m7, .ref m8, .ref m9, .ref m10, .int (nI ai)])), (m1, .inl (cI, 64, .inl (nF T))), (m2, .inl (cI, 64, .inl (nF U2))), (m3, .inl (cZ, 64, .inl (nF B))), (m4, .inl (cI, 64, .inl (nF Wm))), (m5, .inl (cI, 64, .inl (nF M))), (m6, .inl (cI, 64, .inl (nF F))), (m7, .inl (cI, 64, .inl (nF L))), (m8, .inl (cI, 64, .inl (nF Z))), (m9, .inl (cI, 64, .inl (nF Om))), (m10, .inl (cI, 64, .inl (nF Nm)))] → va_S A s.heap H locs → lv_has ls 5 [(0, .ref m0), (1, .int (nI ch)), (2, .int (nI i)), (3, .int (nI bst)), (4, .int (nI j))] → W pr l e ({ frames := 4, cells := 0, slots := 0, locals := 90 } : Room) s m args below meth c0 H locs 0 0 Q (F0 m 24 ls []) := by
            intro n
            induction n with
            | zero => intro j bst h0; exact absurd h0 (Nat.not_lt_zero _)
            | succ n ih24 =>
              intro j bst hm24 hj1 hj8 hbst hbs8 H locs ls hP hD hS hl
              refine lv_iload hx hb dX5_goThrough_24 (lv_at hl 4 rfl) ?_
              refine lv_bipush (v := nI 8) hx hb dX5_goThrough_26 (by decide) ?_
              refine nv_icmp_ge (tgt := 74) hx hb dX5_goThrough_28 (by decide) (by omega) (by omega) (fun c_5 => ?_) (fun c_5 => ?_)
              · skip
                refine lv_aload_n hx hb dX5_goThrough_74 rfl (lv_at hl 0 rfl) ?_
                refine lv_iload_n hx hb dX5_goThrough_75 rfl (lv_at hl 2 rfl) ?_
                refine lv_bipush (v := nI 8) hx hb dX5_goThrough_76 (by decide) ?_
                refine nv_irem hx hb dX5_goThrough_78 (by omega) (by omega) (by omega) ?_
                refine lv_iload_n hx hb dX5_goThrough_79 rfl (lv_at hl 2 rfl) ?_
                refine lv_bipush (v := nI 8) hx hb dX5_goThrough_80 (by decide) ?_
                refine nv_idiv hx hb dX5_goThrough_82 (by omega) (by omega) (by omega) ?_
                refine lv_iload_n hx hb dX5_goThrough_83 rfl (lv_at hl 3 rfl) ?_
                refine gcVi (ws' := fun _ => [(m0, .inr (5, [.ref m1, .ref m2, .ref m3, .int (nI (G 0)), .int (nI (G 1)), .int (nI (G 2)), .int (nI (G 3)), .ref m4, .ref m5, .int (nI np), .ref m6, .ref m7, .ref m8, .ref m9, .ref m10, .int (nI ai)])), (m1, .inl (cI, 64, .inl (nF T))), (m2, .inl (cI, 64, .inl (nF U2))), (m3, .inl (cZ, 64, .inl (nF B))), (m4, .inl (cI, 64, .inl (nF Wm))), (m5, .inl (cI, 64, .inl (nF M))), (m6, .inl (cI, 64, .inl (nF F))), (m7, .inl (cI, 64, .inl (nF L))), (m8, .inl (cI, 64, .inl (nF Z))), (m9, .inl (cI, 64, .inl (nF Om))), (m10, .inl (cI, 64, .inl (nF Nm)))]) (wr := []) (ci := 5) (q0 := 0) (As := [.int (nI (i % 8)), .int (nI (i / 8)), .int (nI bst)]) (rest := []) ⟨hx, hb, hml, hown, hts⟩ (c_X5_offOf l D cI cZ tt H.size m0 m1 m2 m3 m4 m5 m6 m7 m8 m9 m10 np ai T U2 B G Wm M F L Z Om Nm i bst (by first | assumption | omega) (by first | assumption | omega) (by first | assumption | omega)) (cwV 3 hts gX5_goThrough_X5_offOf rfl rfl rfl (by decide +kernel) ⟨Nat.le_of_ble_eq_true rfl, Nat.le_of_ble_eq_true rfl⟩) hP hK hD hS hA hG rfl rfl [0, 1, 2, 3, 4, 5, 6, 7, 8, 9, 10] [] [0, 1, 2, 3, 4, 5, 6, 7, 8, 9, 10] (by decide) rfl rfl (by decide) (by decide) (by decide) (fun _ => rfl) hl.1 rfl rfl (Nat.le_of_ble_eq_true rfl) ⟨Nat.zero_le _, Nat.zero_le _⟩ dX5_goThrough_84 (fun r u H locs hp hP hD hS => ?_)
                obtain rfl := hp
                have hP : va_P D vwCl [(m0, .inr (5, [.ref m1, .ref m2, .ref m3, .int (nI (G 0)), .int (nI (G 1)), .int (nI (G 2)), .int (nI (G 3)), .ref m4, .ref m5, .int (nI np), .ref m6, .ref m7, .ref m8, .ref m9, .ref m10, .int (nI ai)])), (m1, .inl (cI, 64, .inl (nF T))), (m2, .inl (cI, 64, .inl (nF U2))), (m3, .inl (cZ, 64, .inl (nF B))), (m4, .inl (cI, 64, .inl (nF Wm))), (m5, .inl (cI, 64, .inl (nF M))), (m6, .inl (cI, 64, .inl (nF F))), (m7, .inl (cI, 64, .inl (nF L))), (m8, .inl (cI, 64, .inl (nF Z))), (m9, .inl (cI, 64, .inl (nF Om))), (m10, .inl (cI, 64, .inl (nF Nm)))] H := hP
                have hD : va_D A [(m0, .inr (5, [.ref m1, .ref m2, .ref m3, .int (nI (G 0)), .int (nI (G 1)), .int (nI (G 2)), .int (nI (G 3)), .ref m4, .ref m5, .int (nI np), .ref m6, .ref m7, .ref m8, .ref m9, .ref m10, .int (nI ai)])), (m1, .inl (cI, 64, .inl (nF T))), (m2, .inl (cI, 64, .inl (nF U2))), (m3, .inl (cZ, 64, .inl (nF B))), (m4, .inl (cI, 64, .inl (nF Wm))), (m5, .inl (cI, 64, .inl (nF M))), (m6, .inl (cI, 64, .inl (nF F))), (m7, .inl (cI, 64, .inl (nF L))), (m8, .inl (cI, 64, .inl (nF Z))), (m9, .inl (cI, 64, .inl (nF Om))), (m10, .inl (cI, 64, .inl (nF Nm)))] := hD
                have sb_6 := sn_le U2 i (t := bst) hb2 (by omega)
                refine lv_aload_n hx hb dX5_goThrough_87 rfl (lv_at hl 0 rfl) ?_
                refine lv_iload_n hx hb dX5_goThrough_88 rfl (lv_at hl 2 rfl) ?_
                refine lv_bipush (v := nI 8) hx hb dX5_goThrough_89 (by decide) ?_
                refine nv_irem hx hb dX5_goThrough_91 (by omega) (by omega) (by omega) ?_
                refine lv_iload_n hx hb dX5_goThrough_92 rfl (lv_at hl 2 rfl) ?_
                refine lv_bipush (v := nI 8) hx hb dX5_goThrough_93 (by decide) ?_
                refine nv_idiv hx hb dX5_goThrough_95 (by omega) (by omega) (by omega) ?_
                refine lv_aload_n hx hb dX5_goThrough_96 rfl (lv_at hl 0 rfl) ?_
                refine va_get (D := D) (ci := 5) (v := .ref m2) (C := RX5) (T := TX5) (N := 16) hx hb hts hinX5 hown hK hP 0 rfl rfl 1 (by decide) lk2 (fun _ h9 => h9) rfl dX5_goThrough_97 ?_
                refine lv_iload_n hx hb dX5_goThrough_100 rfl (lv_at hl 2 rfl) ?_
                refine nv_iald hx hb hK hP 2 rfl (by omega) (by decide) dX5_goThrough_101 ?_
                have bd_7 := hb2 i
                refine gcVi (ws' := fun _ => [(m0, .inr (5, [.ref m1, .ref m2, .ref m3, .int (nI (G 0)), .int (nI (G 1)), .int (nI (G 2)), .int (nI (G 3)), .ref m4, .ref m5, .int (nI np), .ref m6, .ref m7, .ref m8, .ref m9, .ref m10, .int (nI ai)])), (m1, .inl (cI, 64, .inl (nF T))), (m2, .inl (cI, 64, .inl (nF U2))), (m3, .inl (cZ, 64, .inl (nF B))), (m4, .inl (cI, 64, .inl (nF Wm))), (m5, .inl (cI, 64, .inl (nF M))), (m6, .inl (cI, 64, .inl (nF F))), (m7, .inl (cI, 64, .inl (nF L))), (m8, .inl (cI, 64, .inl (nF Z))), (m9, .inl (cI, 64, .inl (nF Om))), (m10, .inl (cI, 64, .inl (nF Nm)))]) (wr := []) (ci := 5) (q0 := 0) (As := [.int (nI (i % 8)), .int (nI (i / 8)), .int (nI (U2 i))]) (rest := [.int (nI (sn U2 i bst))]) ⟨hx, hb, hml, hown, hts⟩ (c_X5_offOf l D cI cZ tt H.size m0 m1 m2 m3 m4 m5 m6 m7 m8 m9 m10 np ai T U2 B G Wm M F L Z Om Nm i (U2 i) (by first | assumption | omega) (by first | assumption | omega) (by first | assumption | omega)) (cwV 3 hts gX5_goThrough_X5_offOf rfl rfl rfl (by decide +kernel) ⟨Nat.le_of_ble_eq_true rfl, Nat.le_of_ble_eq_true rfl⟩) hP hK hD hS hA hG rfl rfl [0, 1, 2, 3, 4, 5, 6, 7, 8, 9, 10] [] [0, 1, 2, 3, 4, 5, 6, 7, 8, 9, 10] (by decide) rfl rfl (by decide) (by decide) (by decide) (fun _ => rfl) hl.1 rfl rfl (Nat.le_of_ble_eq_true rfl) ⟨Nat.zero_le _, Nat.zero_le _⟩ dX5_goThrough_102 (fun r u H locs hp hP hD hS => ?_)
                obtain rfl := hp
                have hP : va_P D vwCl [(m0, .inr (5, [.ref m1, .ref m2, .ref m3, .int (nI (G 0)), .int (nI (G 1)), .int (nI (G 2)), .int (nI (G 3)), .ref m4, .ref m5, .int (nI np), .ref m6, .ref m7, .ref m8, .ref m9, .ref m10, .int (nI ai)])), (m1, .inl (cI, 64, .inl (nF T))), (m2, .inl (cI, 64, .inl (nF U2))), (m3, .inl (cZ, 64, .inl (nF B))), (m4, .inl (cI, 64, .inl (nF Wm))), (m5, .inl (cI, 64, .inl (nF M))), (m6, .inl (cI, 64, .inl (nF F))), (m7, .inl (cI, 64, .inl (nF L))), (m8, .inl (cI, 64, .inl (nF Z))), (m9, .inl (cI, 64, .inl (nF Om))), (m10, .inl (cI, 64, .inl (nF Nm)))] H := hP
                have hD : va_D A [(m0, .inr (5, [.ref m1, .ref m2, .ref m3, .int (nI (G 0)), .int (nI (G 1)), .int (nI (G 2)), .int (nI (G 3)), .ref m4, .ref m5, .int (nI np), .ref m6, .ref m7, .ref m8, .ref m9, .ref m10, .int (nI ai)])), (m1, .inl (cI, 64, .inl (nF T))), (m2, .inl (cI, 64, .inl (nF U2))), (m3, .inl (cZ, 64, .inl (nF B))), (m4, .inl (cI, 64, .inl (nF Wm))), (m5, .inl (cI, 64, .inl (nF M))), (m6, .inl (cI, 64, .inl (nF F))), (m7, .inl (cI, 64, .inl (nF L))), (m8, .inl (cI, 64, .inl (nF Z))), (m9, .inl (cI, 64, .inl (nF Om))), (m10, .inl (cI, 64, .inl (nF Nm)))] := hD
                have sb_8 := sn_le U2 i (t := U2 i) hb2 (hb2 i)
                refine nv_icmp_ge (tgt := 117) hx hb dX5_goThrough_105 (by decide) (by omega) (by omega) (fun c_9 => ?_) (fun c_9 => ?_)
                · skip
                  have hb7 : bst = am (sn U2 i) 7 := by rw [hbst, show j - 1 = 7 by omega]
                  have e_10 : gtS B U (i + 1) = gtS B U i := gtS_no (fun q => q.2 (by rw [← hU2]; exact nt_no (by rw [← hb7]; omega)))
                  refine lv_iinc (v := nI (i + 1)) (lv' := [(2, .int (nI (i + 1))), (0, .ref m0), (1, .int (nI ch)), (3, .int (nI bst)), (4, .int (nI j))]) hx hb dX5_goThrough_117 hl (k := 2) rfl (by exact nI_add _ 1) (by decide) rfl (fun ls hl => ?_)
                  refine lv_goto (tgt := 4) hx hb dX5_goThrough_120 (by decide) ?_
                  exact ih4 (i + 1) U2 ch (by omega) (by omega) (by rw [e_10]; exact hU2) (by rw [e_10]; exact hch) hb2 _ _ _ hP hD hS (lv_sub hl [1, 2, 0] rfl)
                · skip
                  have hb7 : bst = am (sn U2 i) 7 := by rw [hbst, show j - 1 = 7 by omega]
                  have hny := nt_yes (U := U2) (c := i) (by rw [← hb7]; omega)
                  have e_11 : gtS B U (i + 1) = (va_up U2 i bst, 1) := by
                    have z := gtS_yes (B := B) (U := U) (c := i) (by assumption) (by rw [← hU2]; exact hny.2)
                    rw [← hU2, hny.1, ← hb7] at z
                    exact z
                  refine lv_aload_n hx hb dX5_goThrough_108 rfl (lv_at hl 0 rfl) ?_
                  refine va_get (D := D) (ci := 5) (v := .ref m2) (C := RX5) (T := TX5) (N := 16) hx hb hts hinX5 hown hK hP 0 rfl rfl 1 (by decide) lk2 (fun _ h9 => h9) rfl dX5_goThrough_109 ?_
                  refine lv_iload_n hx hb dX5_goThrough_112 rfl (lv_at hl 2 rfl) ?_
                  refine lv_iload_n hx hb dX5_goThrough_113 rfl (lv_at hl 3 rfl) ?_
                  refine nv_iast hx hb hK hP hD hS 2 rfl (by omega) (by decide) dX5_goThrough_114 (fun H locs hP hD hS => ?_)
                  have hP : va_P D vwCl [(m0, .inr (5, [.ref m1, .ref m2, .ref m3, .int (nI (G 0)), .int (nI (G 1)), .int (nI (G 2)), .int (nI (G 3)), .ref m4, .ref m5, .int (nI np), .ref m6, .ref m7, .ref m8, .ref m9, .ref m10, .int (nI ai)])), (m1, .inl (cI, 64, .inl (nF T))), (m2, .inl (cI, 64, .inl (nF (va_up U2 i bst)))), (m3, .inl (cZ, 64, .inl (nF B))), (m4, .inl (cI, 64, .inl (nF Wm))), (m5, .inl (cI, 64, .inl (nF M))), (m6, .inl (cI, 64, .inl (nF F))), (m7, .inl (cI, 64, .inl (nF L))), (m8, .inl (cI, 64, .inl (nF Z))), (m9, .inl (cI, 64, .inl (nF Om))), (m10, .inl (cI, 64, .inl (nF Nm)))] H := hP
                  have hD : va_D A [(m0, .inr (5, [.ref m1, .ref m2, .ref m3, .int (nI (G 0)), .int (nI (G 1)), .int (nI (G 2)), .int (nI (G 3)), .ref m4, .ref m5, .int (nI np), .ref m6, .ref m7, .ref m8, .ref m9, .ref m10, .int (nI ai)])), (m1, .inl (cI, 64, .inl (nF T))), (m2, .inl (cI, 64, .inl (nF (va_up U2 i bst)))), (m3, .inl (cZ, 64, .inl (nF B))), (m4, .inl (cI, 64, .inl (nF Wm))), (m5, .inl (cI, 64, .inl (nF M))), (m6, .inl (cI, 64, .inl (nF F))), (m7, .inl (cI, 64, .inl (nF L))), (m8, .inl (cI, 64, .inl (nF Z))), (m9, .inl (cI, 64, .inl (nF Om))), (m10, .inl (cI, 64, .inl (nF Nm)))] := hD
                  refine lv_iconst (v := nI 1) hx hb dX5_goThrough_115 (by decide) ?_
                  refine lv_istore_n (lv' := [(1, .int (nI 1)), (0, .ref m0), (2, .int (nI i)), (3, .int (nI bst)), (4, .int (nI j))]) hx hb dX5_goThrough_116 rfl hl (by decide) rfl (fun ls hl => ?_)
                  refine lv_iinc (v := nI (i + 1)) (lv' := [(2, .int (nI (i + 1))), (1, .int (nI 1)), (0, .ref m0), (3, .int (nI bst)), (4, .int (nI j))]) hx hb dX5_goThrough_117 hl (k := 2) rfl (by exact nI_add _ 1) (by decide) rfl (fun ls hl => ?_)
                  refine lv_goto (tgt := 4) hx hb dX5_goThrough_120 (by decide) ?_
                  exact ih4 (i + 1) (va_up U2 i bst) 1 (by omega) (by omega) (by rw [e_11]) (by rw [e_11]) (by intro k; have z := gtS_lt (B := B) hU (i + 1) k; rw [e_11] at z; exact z) _ _ _ hP hD hS (lv_sub hl [2, 1, 0] rfl)
              · skip
                refine lv_aload_n hx hb dX5_goThrough_31 rfl (lv_at hl 0 rfl) ?_
                refine lv_iload_n hx hb dX5_goThrough_32 rfl (lv_at hl 2 rfl) ?_
                refine lv_bipush (v := nI 8) hx hb dX5_goThrough_33 (by decide) ?_
                refine nv_irem hx hb dX5_goThrough_35 (by omega) (by omega) (by omega) ?_
                refine lv_iload_n hx hb dX5_goThrough_36 rfl (lv_at hl 2 rfl) ?_
                refine lv_bipush (v := nI 8) hx hb dX5_goThrough_37 (by decide) ?_
                refine nv_idiv hx hb dX5_goThrough_39 (by omega) (by omega) (by omega) ?_
                refine lv_iload hx hb dX5_goThrough_40 (lv_at hl 4 rfl) ?_
                refine gcVi (ws' := fun _ => [(m0, .inr (5, [.ref m1, .ref m2, .ref m3, .int (nI (G 0)), .int (nI (G 1)), .int (nI (G 2)), .int (nI (G 3)), .ref m4, .ref m5, .int (nI np), .ref m6, .ref m7, .ref m8, .ref m9, .ref m10, .int (nI ai)])), (m1, .inl (cI, 64, .inl (nF T))), (m2, .inl (cI, 64, .inl (nF U2))), (m3, .inl (cZ, 64, .inl (nF B))), (m4, .inl (cI, 64, .inl (nF Wm))), (m5, .inl (cI, 64, .inl (nF M))), (m6, .inl (cI, 64, .inl (nF F))), (m7, .inl (cI, 64, .inl (nF L))), (m8, .inl (cI, 64, .inl (nF Z))), (m9, .inl (cI, 64, .inl (nF Om))), (m10, .inl (cI, 64, .inl (nF Nm)))]) (wr := []) (ci := 5) (q0 := 0) (As := [.int (nI (i % 8)), .int (nI (i / 8)), .int (nI j)]) (rest := []) ⟨hx, hb, hml, hown, hts⟩ (c_X5_offOf l D cI cZ tt H.size m0 m1 m2 m3 m4 m5 m6 m7 m8 m9 m10 np ai T U2 B G Wm M F L Z Om Nm i j (by first | assumption | omega) (by first | assumption | omega) (by first | assumption | omega)) (cwV 3 hts gX5_goThrough_X5_offOf rfl rfl rfl (by decide +kernel) ⟨Nat.le_of_ble_eq_true rfl, Nat.le_of_ble_eq_true rfl⟩) hP hK hD hS hA hG rfl rfl [0, 1, 2, 3, 4, 5, 6, 7, 8, 9, 10] [] [0, 1, 2, 3, 4, 5, 6, 7, 8, 9, 10] (by decide) rfl rfl (by decide) (by decide) (by decide) (fun _ => rfl) hl.1 rfl rfl (Nat.le_of_ble_eq_true rfl) ⟨Nat.zero_le _, Nat.zero_le _⟩ dX5_goThrough_42 (fun r u H locs hp hP hD hS => ?_)
                obtain rfl := hp
                have hP : va_P D vwCl [(m0, .inr (5, [.ref m1, .ref m2, .ref m3, .int (nI (G 0)), .int (nI (G 1)), .int (nI (G 2)), .int (nI (G 3)), .ref m4, .ref m5, .int (nI np), .ref m6, .ref m7, .ref m8, .ref m9, .ref m10, .int (nI ai)])), (m1, .inl (cI, 64, .inl (nF T))), (m2, .inl (cI, 64, .inl (nF U2))), (m3, .inl (cZ, 64, .inl (nF B))), (m4, .inl (cI, 64, .inl (nF Wm))), (m5, .inl (cI, 64, .inl (nF M))), (m6, .inl (cI, 64, .inl (nF F))), (m7, .inl (cI, 64, .inl (nF L))), (m8, .inl (cI, 64, .inl (nF Z))), (m9, .inl (cI, 64, .inl (nF Om))), (m10, .inl (cI, 64, .inl (nF Nm)))] H := hP
                have hD : va_D A [(m0, .inr (5, [.ref m1, .ref m2, .ref m3, .int (nI (G 0)), .int (nI (G 1)), .int (nI (G 2)), .int (nI (G 3)), .ref m4, .ref m5, .int (nI np), .ref m6, .ref m7, .ref m8, .ref m9, .ref m10, .int (nI ai)])), (m1, .inl (cI, 64, .inl (nF T))), (m2, .inl (cI, 64, .inl (nF U2))), (m3, .inl (cZ, 64, .inl (nF B))), (m4, .inl (cI, 64, .inl (nF Wm))), (m5, .inl (cI, 64, .inl (nF M))), (m6, .inl (cI, 64, .inl (nF F))), (m7, .inl (cI, 64, .inl (nF L))), (m8, .inl (cI, 64, .inl (nF Z))), (m9, .inl (cI, 64, .inl (nF Om))), (m10, .inl (cI, 64, .inl (nF Nm)))] := hD
                have sb_12 := sn_le U2 i (t := j) hb2 (by omega)
                refine lv_aload_n hx hb dX5_goThrough_45 rfl (lv_at hl 0 rfl) ?_
                refine lv_iload_n hx hb dX5_goThrough_46 rfl (lv_at hl 2 rfl) ?_
                refine lv_bipush (v := nI 8) hx hb dX5_goThrough_47 (by decide) ?_
                refine nv_irem hx hb dX5_goThrough_49 (by omega) (by omega) (by omega) ?_
                refine lv_iload_n hx hb dX5_goThrough_50 rfl (lv_at hl 2 rfl) ?_
                refine lv_bipush (v := nI 8) hx hb dX5_goThrough_51 (by decide) ?_
                refine nv_idiv hx hb dX5_goThrough_53 (by omega) (by omega) (by omega) ?_
                refine lv_iload_n hx hb dX5_goThrough_54 rfl (lv_at hl 3 rfl) ?_
                refine gcVi (ws' := fun _ => [(m0, .inr (5, [.ref m1, .ref m2, .ref m3, .int (nI (G 0)), .int (nI (G 1)), .int (nI (G 2)), .int (nI (G 3)), .ref m4, .ref m5, .int (nI np), .ref m6, .ref m7, .ref m8, .ref m9, .ref m10, .int (nI ai)])), (m1, .inl (cI, 64, .inl (nF T))), (m2, .inl (cI, 64, .inl (nF U2))), (m3, .inl (cZ, 64, .inl (nF B))), (m4, .inl (cI, 64, .inl (nF Wm))), (m5, .inl (cI, 64, .inl (nF M))), (m6, .inl (cI, 64, .inl (nF F))), (m7, .inl (cI, 64, .inl (nF L))), (m8, .inl (cI, 64, .inl (nF Z))), (m9, .inl (cI, 64, .inl (nF Om))), (m10, .inl (cI, 64, .inl (nF Nm)))]) (wr := []) (ci := 5) (q0 := 0) (As := [.int (nI (i % 8)), .int (nI (i / 8)), .int (nI bst)]) (rest := [.int (nI (sn U2 i j))]) ⟨hx, hb, hml, hown, hts⟩ (c_X5_offOf l D cI cZ tt H.size m0 m1 m2 m3 m4 m5 m6 m7 m8 m9 m10 np ai T U2 B G Wm M F L Z Om Nm i bst (by first | assumption | omega) (by first | assumption | omega) (by first | assumption | omega)) (cwV 3 hts gX5_goThrough_X5_offOf rfl rfl rfl (by decide +kernel) ⟨Nat.le_of_ble_eq_true rfl, Nat.le_of_ble_eq_true rfl⟩) hP hK hD hS hA hG rfl rfl [0, 1, 2, 3, 4, 5, 6, 7, 8, 9, 10] [] [0, 1, 2, 3, 4, 5, 6, 7, 8, 9, 10] (by decide) rfl rfl (by decide) (by decide) (by decide) (fun _ => rfl) hl.1 rfl rfl (Nat.le_of_ble_eq_true rfl) ⟨Nat.zero_le _, Nat.zero_le _⟩ dX5_goThrough_55 (fun r u H locs hp hP hD hS => ?_)
                obtain rfl := hp
                have hP : va_P D vwCl [(m0, .inr (5, [.ref m1, .ref m2, .ref m3, .int (nI (G 0)), .int (nI (G 1)), .int (nI (G 2)), .int (nI (G 3)), .ref m4, .ref m5, .int (nI np), .ref m6, .ref m7, .ref m8, .ref m9, .ref m10, .int (nI ai)])), (m1, .inl (cI, 64, .inl (nF T))), (m2, .inl (cI, 64, .inl (nF U2))), (m3, .inl (cZ, 64, .inl (nF B))), (m4, .inl (cI, 64, .inl (nF Wm))), (m5, .inl (cI, 64, .inl (nF M))), (m6, .inl (cI, 64, .inl (nF F))), (m7, .inl (cI, 64, .inl (nF L))), (m8, .inl (cI, 64, .inl (nF Z))), (m9, .inl (cI, 64, .inl (nF Om))), (m10, .inl (cI, 64, .inl (nF Nm)))] H := hP
                have hD : va_D A [(m0, .inr (5, [.ref m1, .ref m2, .ref m3, .int (nI (G 0)), .int (nI (G 1)), .int (nI (G 2)), .int (nI (G 3)), .ref m4, .ref m5, .int (nI np), .ref m6, .ref m7, .ref m8, .ref m9, .ref m10, .int (nI ai)])), (m1, .inl (cI, 64, .inl (nF T))), (m2, .inl (cI, 64, .inl (nF U2))), (m3, .inl (cZ, 64, .inl (nF B))), (m4, .inl (cI, 64, .inl (nF Wm))), (m5, .inl (cI, 64, .inl (nF M))), (m6, .inl (cI, 64, .inl (nF F))), (m7, .inl (cI, 64, .inl (nF L))), (m8, .inl (cI, 64, .inl (nF Z))), (m9, .inl (cI, 64, .inl (nF Om))), (m10, .inl (cI, 64, .inl (nF Nm)))] := hD
                have sb_13 := sn_le U2 i (t := bst) hb2 (by omega)
                refine nv_icmp_ge (tgt := 66) hx hb dX5_goThrough_58 (by decide) (by omega) (by omega) (fun c_14 => ?_) (fun c_14 => ?_)
                · skip
                  refine lv_iload_n hx hb dX5_goThrough_66 rfl (lv_at hl 3 rfl) ?_
                  refine lv_istore_n (lv' := [(3, .int (nI bst)), (0, .ref m0), (1, .int (nI ch)), (2, .int (nI i)), (4, .int (nI j))]) hx hb dX5_goThrough_67 rfl hl (by decide) rfl (fun ls hl => ?_)
                  refine lv_iinc (v := nI (j + 1)) (lv' := [(4, .int (nI (j + 1))), (3, .int (nI bst)), (0, .ref m0), (1, .int (nI ch)), (2, .int (nI i))]) hx hb dX5_goThrough_68 hl (k := 4) rfl (by exact nI_add _ 1) (by decide) rfl (fun ls hl => ?_)
                  refine lv_goto (tgt := 24) hx hb dX5_goThrough_71 (by decide) ?_
                  exact ih24 (j + 1) bst (by omega) (by omega) (by omega) (by rw [show j + 1 - 1 = (j - 1) + 1 by omega, am, ← hbst, show j - 1 + 1 = j by omega, if_neg (by omega)]) (by omega) _ _ _ hP hD hS (lv_sub hl [2, 3, 4, 1, 0] rfl)
                · skip
                  refine lv_iload hx hb dX5_goThrough_61 (lv_at hl 4 rfl) ?_
                  refine lv_goto (tgt := 67) hx hb dX5_goThrough_63 (by decide) ?_
                  refine lv_istore_n (lv' := [(3, .int (nI j)), (0, .ref m0), (1, .int (nI ch)), (2, .int (nI i)), (4, .int (nI j))]) hx hb dX5_goThrough_67 rfl hl (by decide) rfl (fun ls hl => ?_)
                  refine lv_iinc (v := nI (j + 1)) (lv' := [(4, .int (nI (j + 1))), (3, .int (nI j)), (0, .ref m0), (1, .int (nI ch)), (2, .int (nI i))]) hx hb dX5_goThrough_68 hl (k := 4) rfl (by exact nI_add _ 1) (by decide) rfl (fun ls hl => ?_)
                  refine lv_goto (tgt := 24) hx hb dX5_goThrough_71 (by decide) ?_
                  exact ih24 (j + 1) j (by omega) (by omega) (by omega) (by rw [show j + 1 - 1 = (j - 1) + 1 by omega, am, ← hbst, show j - 1 + 1 = j by omega, if_pos (by omega)]) (by omega) _ _ _ hP hD hS (lv_sub hl [2, 3, 4, 1, 0] rfl)
          exact L24 (8 + 1) 1 0 (by omega) (by omega) (by omega) rfl (by omega) _ _ _ hP hD hS (lv_sub hl [2, 3, 4, 1, 0] rfl)
  exact L4 (64 + 1) 0 U 0 (by omega) (by omega) rfl rfl hU _ _ _ hP hD hS (lv_sub hl [2, 1, 0] rfl)

set_option maxHeartbeats 4000000 in
set_option maxRecDepth 100000 in
theorem c_X5_even (l : Launch) (D : va_G) (cI cZ : ClassId) (tt : Nat → Nat) (sz : Nat) (m0 m1 m2 m3 m4 m5 m6 m7 m8 m9 m10 : Nat) (np ai : Nat) (T U B G Wm M F L Z Om Nm : Nat → Nat) (hU : ∀ k, U k < 8) (hB : ∀ k, B k < 2) : MI l yX5_even wsX5_even ({ frames := 5, cells := 0, slots := 0, locals := 114 } : Room) D cI cZ tt [.ref m0] [(m0, .inr (5, [.ref m1, .ref m2, .ref m3, .int (nI (G 0)), .int (nI (G 1)), .int (nI (G 2)), .int (nI (G 3)), .ref m4, .ref m5, .int (nI np), .ref m6, .ref m7, .ref m8, .ref m9, .ref m10, .int (nI ai)])), (m1, .inl (cI, 64, .inl (nF T))), (m2, .inl (cI, 64, .inl (nF U))), (m3, .inl (cZ, 64, .inl (nF B))), (m4, .inl (cI, 64, .inl (nF Wm))), (m5, .inl (cI, 64, .inl (nF M))), (m6, .inl (cI, 64, .inl (nF F))), (m7, .inl (cI, 64, .inl (nF L))), (m8, .inl (cI, 64, .inl (nF Z))), (m9, .inl (cI, 64, .inl (nF Om))), (m10, .inl (cI, 64, .inl (nF Nm)))] sz (fun (r : Int32) (_ : Unit) => r = nI (evN B U 20 0)) (fun (_ : Unit) => [(m0, .inr (5, [.ref m1, .ref m2, .ref m3, .int (nI (G 0)), .int (nI (G 1)), .int (nI (G 2)), .int (nI (G 3)), .ref m4, .ref m5, .int (nI np), .ref m6, .ref m7, .ref m8, .ref m9, .ref m10, .int (nI ai)])), (m1, .inl (cI, 64, .inl (nF T))), (m2, .inl (cI, 64, .inl (nF (it B U (evN B U 20 0))))), (m3, .inl (cZ, 64, .inl (nF B))), (m4, .inl (cI, 64, .inl (nF Wm))), (m5, .inl (cI, 64, .inl (nF M))), (m6, .inl (cI, 64, .inl (nF F))), (m7, .inl (cI, 64, .inl (nF L))), (m8, .inl (cI, 64, .inl (nF Z))), (m9, .inl (cI, 64, .inl (nF Om))), (m10, .inl (cI, 64, .inl (nF Nm)))]) := by
  refine entI (cc := cX5_even) 2 (by decide) rfl (Nat.le_of_ble_eq_true rfl) (Or.inl rfl) (fun pr e s m args below meth c0 A Q H ls hx hb hml hown hts hsz hA hP hK hD hS hG hret hl => ?_)
  have hown : s.vm.findClass RX5 = some m.cls := hown
  have hl : lv_has ls 2 [(0, .ref m0)] := hl
  refine lv_iconst (v := nI 1) hx hb dX5_even_0 (by decide) ?_
  refine lv_istore_n (lv' := [(1, .int (nI 1)), (0, .ref m0)]) hx hb dX5_even_1 rfl hl (by decide) rfl (fun ls hl => ?_)
  have L2 : ∀ (n : Nat) (g0 : Nat) (U2 : Nat → Nat), 20 - g0 < n → (g0 < 20) → (U2 = it B U g0) → (evN B U (20 - g0) g0 = evN B U 20 0) → ∀ (H : Heap) (locs : List Loc) (ls : Array Slot), va_P D vwCl [(m0, .inr (5, [.ref m1, .ref m2, .ref m3, .int (nI (G 0)), .int (nI (G 1)), .int (nI (G 2)), .int (nI (G 3)), .ref m4, .ref m5, .int (nI np), .ref m6, .ref m7, .ref m8, .ref m9, .ref m10, .int (nI ai)])), (m1, .inl (cI, 64, .inl (nF T))), (m2, .inl (cI, 64, .inl (nF U2))), (m3, .inl (cZ, 64, .inl (nF B))), (m4, .inl (cI, 64, .inl (nF Wm))), (m5, .inl (cI, 64, .inl (nF M))), (m6, .inl (cI, 64, .inl (nF F))), (m7, .inl (cI, 64, .inl (nF L))), (m8, .inl (cI, 64, .inl (nF Z))), (m9, .inl (cI, 64, .inl (nF Om))), (m10, .inl (cI, 64, .inl (nF Nm)))] H → va_D A [(m0, .inr (5, [.ref m1, .ref m2, .ref m3, .int (nI (G 0)), .int (nI (G 1)), .int (nI (G 2)), .int (nI (G 3)), .ref m4, .ref m5, .int (nI np), .ref m6, .ref m7, .ref m8, .ref m9, .ref m10, .int (nI ai)])), (m1, .inl (cI, 64, .inl (nF T))), (m2, .inl (cI, 64, .inl (nF U2))), (m3, .inl (cZ, 64, .inl (nF B))), (m4, .inl (cI, 64, .inl (nF Wm))), (m5, .inl (cI, 64, .inl (nF M))), (m6, .inl (cI, 64, .inl (nF F))), (m7, .inl (cI, 64, .inl (nF L))), (m8, .inl (cI, 64, .inl (nF Z))), (m9, .inl (cI, 64, .inl (nF Om))), (m10, .inl (cI, 64, .inl (nF Nm)))] → va_S A s.heap H locs → lv_has ls 2 [(0, .ref m0), (1, .int (nI (g0 + 1)))] → W pr l e ({ frames := 5, cells := 0, slots := 0, locals := 114 } : Room) s m args below meth c0 H locs 0 0 Q (F0 m 2 ls []) := by
    intro n
    induction n with
    | zero => intro g0 U2 h0; exact absurd h0 (Nat.not_lt_zero _)
    | succ n ih2 =>
      intro g0 U2 hm2 hg hU2 hN H locs ls hP hD hS hl
      refine lv_aload_n hx hb dX5_even_2 rfl (lv_at hl 0 rfl) ?_
      refine gcVi (ws' := fun _ => [(m0, .inr (5, [.ref m1, .ref m2, .ref m3, .int (nI (G 0)), .int (nI (G 1)), .int (nI (G 2)), .int (nI (G 3)), .ref m4, .ref m5, .int (nI np), .ref m6, .ref m7, .ref m8, .ref m9, .ref m10, .int (nI ai)])), (m1, .inl (cI, 64, .inl (nF T))), (m2, .inl (cI, 64, .inl (nF ((gtS B U2 64).1)))), (m3, .inl (cZ, 64, .inl (nF B))), (m4, .inl (cI, 64, .inl (nF Wm))), (m5, .inl (cI, 64, .inl (nF M))), (m6, .inl (cI, 64, .inl (nF F))), (m7, .inl (cI, 64, .inl (nF L))), (m8, .inl (cI, 64, .inl (nF Z))), (m9, .inl (cI, 64, .inl (nF Om))), (m10, .inl (cI, 64, .inl (nF Nm)))]) (wr := []) (ci := 5) (q0 := 0) (As := []) (rest := []) ⟨hx, hb, hml, hown, hts⟩ (c_X5_goThrough l D cI cZ tt H.size m0 m1 m2 m3 m4 m5 m6 m7 m8 m9 m10 np ai T U2 B G Wm M F L Z Om Nm (by exact fun k => by rw [hU2]; exact it_lt hU g0 k) (by first | assumption | omega)) (cwV 0 hts gX5_even_X5_goThrough rfl rfl rfl (by decide +kernel) ⟨Nat.le_of_ble_eq_true rfl, Nat.le_of_ble_eq_true rfl⟩) hP hK hD hS hA hG rfl rfl [0, 1, 2, 3, 4, 5, 6, 7, 8, 9, 10] [] [0, 1, 2, 3, 4, 5, 6, 7, 8, 9, 10] (by decide) rfl rfl (by decide) (by decide) (by decide) (fun _ => rfl) hl.1 rfl rfl (Nat.le_of_ble_eq_true rfl) ⟨Nat.zero_le _, Nat.zero_le _⟩ dX5_even_3 (fun r u H locs hp hP hD hS => ?_)
      obtain rfl := hp
      have hP : va_P D vwCl [(m0, .inr (5, [.ref m1, .ref m2, .ref m3, .int (nI (G 0)), .int (nI (G 1)), .int (nI (G 2)), .int (nI (G 3)), .ref m4, .ref m5, .int (nI np), .ref m6, .ref m7, .ref m8, .ref m9, .ref m10, .int (nI ai)])), (m1, .inl (cI, 64, .inl (nF T))), (m2, .inl (cI, 64, .inl (nF ((gtS B U2 64).1)))), (m3, .inl (cZ, 64, .inl (nF B))), (m4, .inl (cI, 64, .inl (nF Wm))), (m5, .inl (cI, 64, .inl (nF M))), (m6, .inl (cI, 64, .inl (nF F))), (m7, .inl (cI, 64, .inl (nF L))), (m8, .inl (cI, 64, .inl (nF Z))), (m9, .inl (cI, 64, .inl (nF Om))), (m10, .inl (cI, 64, .inl (nF Nm)))] H := hP
      have hD : va_D A [(m0, .inr (5, [.ref m1, .ref m2, .ref m3, .int (nI (G 0)), .int (nI (G 1)), .int (nI (G 2)), .int (nI (G 3)), .ref m4, .ref m5, .int (nI np), .ref m6, .ref m7, .ref m8, .ref m9, .ref m10, .int (nI ai)])), (m1, .inl (cI, 64, .inl (nF T))), (m2, .inl (cI, 64, .inl (nF ((gtS B U2 64).1)))), (m3, .inl (cZ, 64, .inl (nF B))), (m4, .inl (cI, 64, .inl (nF Wm))), (m5, .inl (cI, 64, .inl (nF M))), (m6, .inl (cI, 64, .inl (nF F))), (m7, .inl (cI, 64, .inl (nF L))), (m8, .inl (cI, 64, .inl (nF Z))), (m9, .inl (cI, 64, .inl (nF Om))), (m10, .inl (cI, 64, .inl (nF Nm)))] := hD
      have hfl := gtS_flag (B := B) (U := U2) 64
      refine nv_if_eq (tgt := 21) hx hb dX5_even_6 (by decide) (by omega) (fun c_1 => ?_) (fun c_1 => ?_)
      · skip
        have hE : g0 + 1 = evN B U 20 0 := by rw [← hN, show 20 - g0 = (20 - (g0 + 1)) + 1 by omega, evN_yes (by rw [← hU2]; exact c_1)]
        rw [show (gtS B U2 64).1 = it B U (evN B U 20 0) by rw [← hE, hU2]; rfl] at hP hD
        refine lv_iload_n hx hb dX5_even_21 rfl (lv_at hl 1 rfl) ?_
        exact hret _ () _ _ _ _ dX5_even_22 (by rw [hE]) hP hD hS
      · skip
        refine lv_iload_n hx hb dX5_even_9 rfl (lv_at hl 1 rfl) ?_
        refine lv_bipush (v := nI 20) hx hb dX5_even_10 (by decide) ?_
        refine nv_icmp_ge (tgt := 21) hx hb dX5_even_12 (by decide) (by omega) (by omega) (fun c_2 => ?_) (fun c_2 => ?_)
        · skip
          have hE : g0 + 1 = evN B U 20 0 := by rw [← hN, show 20 - g0 = (20 - (g0 + 1)) + 1 by omega, evN_no (by rw [← hU2]; assumption), show 20 - (g0 + 1) = 0 by omega]; rfl
          rw [show (gtS B U2 64).1 = it B U (evN B U 20 0) by rw [← hE, hU2]; rfl] at hP hD
          refine lv_iload_n hx hb dX5_even_21 rfl (lv_at hl 1 rfl) ?_
          exact hret _ () _ _ _ _ dX5_even_22 (by rw [hE]) hP hD hS
        · skip
          refine lv_iinc (v := nI (g0 + 1 + 1)) (lv' := [(1, .int (nI (g0 + 1 + 1))), (0, .ref m0)]) hx hb dX5_even_15 hl (k := 1) rfl (by exact nI_add _ 1) (by decide) rfl (fun ls hl => ?_)
          refine lv_goto (tgt := 2) hx hb dX5_even_18 (by decide) ?_
          exact ih2 (g0 + 1) ((gtS B U2 64).1) (by omega) (by omega) (by rw [hU2]; rfl) (by rw [← hN, show 20 - g0 = (20 - (g0 + 1)) + 1 by omega, evN_no (by rw [← hU2]; assumption)]) _ _ _ hP hD hS (lv_sub hl [1, 0] rfl)
  exact L2 (20 + 1) 0 U (by omega) (by omega) rfl rfl _ _ _ hP hD hS (lv_sub hl [1, 0] rfl)

set_option maxHeartbeats 4000000 in
set_option maxRecDepth 100000 in
theorem c_X5_tone (l : Launch) (D : va_G) (cI cZ : ClassId) (tt : Nat → Nat) (sz : Nat) (m0 m1 m2 m3 m4 m5 m6 m7 m8 m9 m10 : Nat) (np ai : Nat) (T U B G Wm M F L Z Om Nm : Nat → Nat) (x y v : Int32)  : MI l yX5_tone wsX5_tone ({ frames := 2, cells := 0, slots := 0, locals := 43 } : Room) D cI cZ tt [.ref m0, .int (x), .int (y), .int (v)] [(m0, .inr (5, [.ref m1, .ref m2, .ref m3, .int (nI (G 0)), .int (nI (G 1)), .int (nI (G 2)), .int (nI (G 3)), .ref m4, .ref m5, .int (nI np), .ref m6, .ref m7, .ref m8, .ref m9, .ref m10, .int (nI ai)])), (m1, .inl (cI, 64, .inl (nF T))), (m2, .inl (cI, 64, .inl (nF U))), (m3, .inl (cZ, 64, .inl (nF B))), (m4, .inl (cI, 64, .inl (nF Wm))), (m5, .inl (cI, 64, .inl (nF M))), (m6, .inl (cI, 64, .inl (nF F))), (m7, .inl (cI, 64, .inl (nF L))), (m8, .inl (cI, 64, .inl (nF Z))), (m9, .inl (cI, 64, .inl (nF Om))), (m10, .inl (cI, 64, .inl (nF Nm)))] sz (fun (r : Int32) (u : (Nat → Nat)) => r = aTone T x y v ∧ (u = uTone T x y v)) (fun (u : (Nat → Nat)) => [(m0, .inr (5, [.ref m1, .ref m2, .ref m3, .int (nI (G 0)), .int (nI (G 1)), .int (nI (G 2)), .int (nI (G 3)), .ref m4, .ref m5, .int (nI np), .ref m6, .ref m7, .ref m8, .ref m9, .ref m10, .int (nI ai)])), (m1, .inl (cI, 64, .inl (nF u))), (m2, .inl (cI, 64, .inl (nF U))), (m3, .inl (cZ, 64, .inl (nF B))), (m4, .inl (cI, 64, .inl (nF Wm))), (m5, .inl (cI, 64, .inl (nF M))), (m6, .inl (cI, 64, .inl (nF F))), (m7, .inl (cI, 64, .inl (nF L))), (m8, .inl (cI, 64, .inl (nF Z))), (m9, .inl (cI, 64, .inl (nF Om))), (m10, .inl (cI, 64, .inl (nF Nm)))]) := by
  refine entI (cc := cX5_tone) 5 (by decide) rfl (Nat.le_of_ble_eq_true rfl) (Or.inl rfl) (fun pr e s m args below meth c0 A Q H ls hx hb hml hown hts hsz hA hP hK hD hS hG hret hl => ?_)
  have hown : s.vm.findClass RX5 = some m.cls := hown
  have lk1 := hts (.fieldLink RX5 7 "BurinLinesModel" "tone" "[I") (by decide +kernel)
  have hinX5 : ∀ w ∈ wsX50, w ∈ wsX5_tone := by decide +kernel
  have hl : lv_has ls 5 [(0, .ref m0), (1, .int (x)), (2, .int (y)), (3, .int (v))] := hl
  refine lv_iload_n hx hb dX5_tone_0 rfl (lv_at hl 1 rfl) ?_
  refine lv_iload_n hx hb dX5_tone_1 rfl (lv_at hl 2 rfl) ?_
  refine gcS (As := [.int (x), .int (y)]) (rest := []) ⟨hx, hb, hml, hown, hts⟩ (c_X5_isCell l x y ) (va_cwS 2 hts gX5_tone_X5_isCell rfl rfl rfl (by decide +kernel) ⟨Nat.le_of_ble_eq_true rfl, Nat.le_of_ble_eq_true rfl⟩) hl.1 rfl rfl (Nat.le_of_ble_eq_true rfl) ⟨Nat.zero_le _, Nat.zero_le _⟩ dX5_tone_2 ?_
  refine nv_ifb_ne (tgt := 11) hx hb dX5_tone_5 (by decide) (fun c_1 => ?_) (fun c_1 => ?_)
  · skip
    obtain ⟨a, b, ha8, hb8, rfl, rfl⟩ := okc_nat c_1
    refine lv_iload_n hx hb dX5_tone_11 rfl (lv_at hl 3 rfl) ?_
    refine lv_iconst (v := nI 0) hx hb dX5_tone_12 (by decide) ?_
    refine lv_bipush (v := nI 100) hx hb dX5_tone_13 (by decide) ?_
    refine gcS (As := [.int (v), .int (nI 0), .int (nI 100)]) (rest := []) ⟨hx, hb, hml, hown, hts⟩ (c_X5_in l v (nI 0) (nI 100) ) (va_cwS 3 hts gX5_tone_X5_in rfl rfl rfl (by decide +kernel) ⟨Nat.le_of_ble_eq_true rfl, Nat.le_of_ble_eq_true rfl⟩) hl.1 rfl rfl (Nat.le_of_ble_eq_true rfl) ⟨Nat.zero_le _, Nat.zero_le _⟩ dX5_tone_15 ?_
    refine nv_ifb_ne (tgt := 24) hx hb dX5_tone_18 (by decide) (fun c_2 => ?_) (fun c_2 => ?_)
    · skip
      have hokt := (okt_in v).mpr c_2
      obtain ⟨w, hw100, rfl⟩ := okt_nat hokt
      refine lv_aload_n hx hb dX5_tone_24 rfl (lv_at hl 0 rfl) ?_
      refine va_get (D := D) (ci := 5) (v := .ref m1) (C := RX5) (T := TX5) (N := 16) hx hb hts hinX5 hown hK hP 0 rfl rfl 0 (by decide) lk1 (fun _ h9 => h9) rfl dX5_tone_25 ?_
      refine lv_bipush (v := nI 8) hx hb dX5_tone_28 (by decide) ?_
      refine lv_iload_n hx hb dX5_tone_30 rfl (lv_at hl 2 rfl) ?_
      refine nv_imul hx hb dX5_tone_31 ?_
      refine lv_iload_n hx hb dX5_tone_32 rfl (lv_at hl 1 rfl) ?_
      refine nv_iadd hx hb dX5_tone_33 ?_
      refine nv_iald hx hb hK hP 1 rfl (by omega) (by decide) dX5_tone_34 ?_
      refine lv_istore (lv' := [(4, .int (nI (T ((8 * b) + a)))), (0, .ref m0), (1, .int (nI a)), (2, .int (nI b)), (3, .int (nI w))]) hx hb dX5_tone_35 hl (by decide) rfl (fun ls hl => ?_)
      refine lv_aload_n hx hb dX5_tone_37 rfl (lv_at hl 1 rfl) ?_
      refine va_get (D := D) (ci := 5) (v := .ref m1) (C := RX5) (T := TX5) (N := 16) hx hb hts hinX5 hown hK hP 0 rfl rfl 0 (by decide) lk1 (fun _ h9 => h9) rfl dX5_tone_38 ?_
      refine lv_bipush (v := nI 8) hx hb dX5_tone_41 (by decide) ?_
      refine lv_iload_n hx hb dX5_tone_43 rfl (lv_at hl 3 rfl) ?_
      refine nv_imul hx hb dX5_tone_44 ?_
      refine lv_iload_n hx hb dX5_tone_45 rfl (lv_at hl 2 rfl) ?_
      refine nv_iadd hx hb dX5_tone_46 ?_
      refine lv_iload_n hx hb dX5_tone_47 rfl (lv_at hl 4 rfl) ?_
      refine nv_iast hx hb hK hP hD hS 1 rfl (by omega) (by decide) dX5_tone_48 (fun H locs hP hD hS => ?_)
      have hP : va_P D vwCl [(m0, .inr (5, [.ref m1, .ref m2, .ref m3, .int (nI (G 0)), .int (nI (G 1)), .int (nI (G 2)), .int (nI (G 3)), .ref m4, .ref m5, .int (nI np), .ref m6, .ref m7, .ref m8, .ref m9, .ref m10, .int (nI ai)])), (m1, .inl (cI, 64, .inl (nF (va_up T ((8 * b) + a) w)))), (m2, .inl (cI, 64, .inl (nF U))), (m3, .inl (cZ, 64, .inl (nF B))), (m4, .inl (cI, 64, .inl (nF Wm))), (m5, .inl (cI, 64, .inl (nF M))), (m6, .inl (cI, 64, .inl (nF F))), (m7, .inl (cI, 64, .inl (nF L))), (m8, .inl (cI, 64, .inl (nF Z))), (m9, .inl (cI, 64, .inl (nF Om))), (m10, .inl (cI, 64, .inl (nF Nm)))] H := hP
      have hD : va_D A [(m0, .inr (5, [.ref m1, .ref m2, .ref m3, .int (nI (G 0)), .int (nI (G 1)), .int (nI (G 2)), .int (nI (G 3)), .ref m4, .ref m5, .int (nI np), .ref m6, .ref m7, .ref m8, .ref m9, .ref m10, .int (nI ai)])), (m1, .inl (cI, 64, .inl (nF (va_up T ((8 * b) + a) w)))), (m2, .inl (cI, 64, .inl (nF U))), (m3, .inl (cZ, 64, .inl (nF B))), (m4, .inl (cI, 64, .inl (nF Wm))), (m5, .inl (cI, 64, .inl (nF M))), (m6, .inl (cI, 64, .inl (nF F))), (m7, .inl (cI, 64, .inl (nF L))), (m8, .inl (cI, 64, .inl (nF Z))), (m9, .inl (cI, 64, .inl (nF Om))), (m10, .inl (cI, 64, .inl (nF Nm)))] := hD
      refine lv_iload hx hb dX5_tone_49 (lv_at hl 0 rfl) ?_
      exact hret _ _ _ _ _ _ dX5_tone_51 (⟨by unfold aTone; rw [if_pos (okc_of ha8 hb8), if_pos (okt_of hw100), ci_n ha8 hb8], by unfold uTone; rw [if_pos ⟨okc_of ha8 hb8, okt_of hw100⟩, ci_n ha8 hb8, cl_n (by omega)]⟩) hP hD hS
    · skip
      have nokt : ¬ okt v := fun q => c_2 ((okt_in v).mp q)
      refine lv_bipush (v := (-3)) hx hb dX5_tone_21 (by decide) ?_
      exact hret _ T _ _ _ _ dX5_tone_23 (⟨by unfold aTone; rw [if_pos (okc_of ha8 hb8), if_neg nokt], by unfold uTone; rw [if_neg (fun q => nokt q.2)]⟩) hP hD hS
  · skip
    have nokc := c_1
    refine lv_bipush (v := (-2)) hx hb dX5_tone_8 (by decide) ?_
    exact hret _ T _ _ _ _ dX5_tone_10 (⟨by unfold aTone; rw [if_neg nokc], by unfold uTone; rw [if_neg (fun q => nokc q.1)]⟩) hP hD hS

set_option maxHeartbeats 4000000 in
set_option maxRecDepth 100000 in
theorem c_X5_shade (l : Launch) (D : va_G) (cI cZ : ClassId) (tt : Nat → Nat) (sz : Nat) (m0 m1 m2 m3 m4 m5 m6 m7 m8 m9 m10 : Nat) (np ai : Nat) (T U B G Wm M F L Z Om Nm : Nat → Nat) (x0 y0 x1 y1 v : Int32) (hT : ∀ k, T k ≤ 100) : MI l yX5_shade wsX5_shade ({ frames := 2, cells := 0, slots := 0, locals := 43 } : Room) D cI cZ tt [.ref m0, .int (x0), .int (y0), .int (x1), .int (y1), .int (v)] [(m0, .inr (5, [.ref m1, .ref m2, .ref m3, .int (nI (G 0)), .int (nI (G 1)), .int (nI (G 2)), .int (nI (G 3)), .ref m4, .ref m5, .int (nI np), .ref m6, .ref m7, .ref m8, .ref m9, .ref m10, .int (nI ai)])), (m1, .inl (cI, 64, .inl (nF T))), (m2, .inl (cI, 64, .inl (nF U))), (m3, .inl (cZ, 64, .inl (nF B))), (m4, .inl (cI, 64, .inl (nF Wm))), (m5, .inl (cI, 64, .inl (nF M))), (m6, .inl (cI, 64, .inl (nF F))), (m7, .inl (cI, 64, .inl (nF L))), (m8, .inl (cI, 64, .inl (nF Z))), (m9, .inl (cI, 64, .inl (nF Om))), (m10, .inl (cI, 64, .inl (nF Nm)))] sz (fun (r : Int32) (u : (Nat → Nat)) => r = aShade T x0 y0 x1 y1 v ∧ (u = uShade T x0 y0 x1 y1 v)) (fun (u : (Nat → Nat)) => [(m0, .inr (5, [.ref m1, .ref m2, .ref m3, .int (nI (G 0)), .int (nI (G 1)), .int (nI (G 2)), .int (nI (G 3)), .ref m4, .ref m5, .int (nI np), .ref m6, .ref m7, .ref m8, .ref m9, .ref m10, .int (nI ai)])), (m1, .inl (cI, 64, .inl (nF u))), (m2, .inl (cI, 64, .inl (nF U))), (m3, .inl (cZ, 64, .inl (nF B))), (m4, .inl (cI, 64, .inl (nF Wm))), (m5, .inl (cI, 64, .inl (nF M))), (m6, .inl (cI, 64, .inl (nF F))), (m7, .inl (cI, 64, .inl (nF L))), (m8, .inl (cI, 64, .inl (nF Z))), (m9, .inl (cI, 64, .inl (nF Om))), (m10, .inl (cI, 64, .inl (nF Nm)))]) := by
  refine entI (cc := cX5_shade) 9 (by decide) rfl (Nat.le_of_ble_eq_true rfl) (Or.inl rfl) (fun pr e s m args below meth c0 A Q H ls hx hb hml hown hts hsz hA hP hK hD hS hG hret hl => ?_)
  have hown : s.vm.findClass RX5 = some m.cls := hown
  have lk1 := hts (.fieldLink RX5 7 "BurinLinesModel" "tone" "[I") (by decide +kernel)
  have hinX5 : ∀ w ∈ wsX50, w ∈ wsX5_shade := by decide +kernel
  have hl : lv_has ls 9 [(0, .ref m0), (1, .int (x0)), (2, .int (y0)), (3, .int (x1)), (4, .int (y1)), (5, .int (v))] := hl
  refine lv_iload_n hx hb dX5_shade_0 rfl (lv_at hl 1 rfl) ?_
  refine lv_iload_n hx hb dX5_shade_1 rfl (lv_at hl 2 rfl) ?_
  refine gcS (As := [.int (x0), .int (y0)]) (rest := []) ⟨hx, hb, hml, hown, hts⟩ (c_X5_isCell l x0 y0 ) (va_cwS 2 hts gX5_shade_X5_isCell rfl rfl rfl (by decide +kernel) ⟨Nat.le_of_ble_eq_true rfl, Nat.le_of_ble_eq_true rfl⟩) hl.1 rfl rfl (Nat.le_of_ble_eq_true rfl) ⟨Nat.zero_le _, Nat.zero_le _⟩ dX5_shade_2 ?_
  refine nv_ifb_eq (tgt := 17) hx hb dX5_shade_5 (by decide) (fun c_1 => ?_) (fun c_1 => ?_)
  · skip
    have nokc : ¬ (okc x0 y0 ∧ okc x1 y1) := fun q => c_1 q.1
    refine lv_bipush (v := (-2)) hx hb dX5_shade_17 (by decide) ?_
    exact hret _ T _ _ _ _ dX5_shade_19 (⟨by unfold aShade; rw [if_neg nokc], by unfold uShade; rw [if_neg (fun q => nokc ⟨q.1, q.2.1⟩)]⟩) hP hD hS
  · skip
    refine lv_iload_n hx hb dX5_shade_8 rfl (lv_at hl 3 rfl) ?_
    refine lv_iload hx hb dX5_shade_9 (lv_at hl 4 rfl) ?_
    refine gcS (As := [.int (x1), .int (y1)]) (rest := []) ⟨hx, hb, hml, hown, hts⟩ (c_X5_isCell l x1 y1 ) (va_cwS 2 hts gX5_shade_X5_isCell rfl rfl rfl (by decide +kernel) ⟨Nat.le_of_ble_eq_true rfl, Nat.le_of_ble_eq_true rfl⟩) hl.1 rfl rfl (Nat.le_of_ble_eq_true rfl) ⟨Nat.zero_le _, Nat.zero_le _⟩ dX5_shade_11 ?_
    refine nv_ifb_ne (tgt := 20) hx hb dX5_shade_14 (by decide) (fun c_2 => ?_) (fun c_2 => ?_)
    · skip
      obtain ⟨a, b, ha8, hb8, rfl, rfl⟩ := okc_nat c_1
      obtain ⟨p, q, hp8, hq8, rfl, rfl⟩ := okc_nat c_2
      refine lv_iload hx hb dX5_shade_20 (lv_at hl 5 rfl) ?_
      refine lv_iconst (v := nI 0) hx hb dX5_shade_22 (by decide) ?_
      refine lv_bipush (v := nI 100) hx hb dX5_shade_23 (by decide) ?_
      refine gcS (As := [.int (v), .int (nI 0), .int (nI 100)]) (rest := []) ⟨hx, hb, hml, hown, hts⟩ (c_X5_in l v (nI 0) (nI 100) ) (va_cwS 3 hts gX5_shade_X5_in rfl rfl rfl (by decide +kernel) ⟨Nat.le_of_ble_eq_true rfl, Nat.le_of_ble_eq_true rfl⟩) hl.1 rfl rfl (Nat.le_of_ble_eq_true rfl) ⟨Nat.zero_le _, Nat.zero_le _⟩ dX5_shade_25 ?_
      refine nv_ifb_eq (tgt := 42) hx hb dX5_shade_28 (by decide) (fun c_3 => ?_) (fun c_3 => ?_)
      · skip
        have noksh : ¬ oksh (nI a) (nI b) (nI p) (nI q) v := fun z => c_3 ((okt_in v).mp z.1)
        refine lv_bipush (v := (-3)) hx hb dX5_shade_42 (by decide) ?_
        exact hret _ T _ _ _ _ dX5_shade_44 (⟨by unfold aShade; rw [if_pos ⟨okc_of ha8 hb8, okc_of hp8 hq8⟩, if_neg noksh], by unfold uShade; rw [if_neg (fun q => noksh q.2.2)]⟩) hP hD hS
      · skip
        have hokt := (okt_in v).mpr c_3
        obtain ⟨w, hw100, rfl⟩ := okt_nat hokt
        refine lv_iload_n hx hb dX5_shade_31 rfl (lv_at hl 1 rfl) ?_
        refine lv_iload_n hx hb dX5_shade_32 rfl (lv_at hl 3 rfl) ?_
        refine nv_icmp_gt (tgt := 42) hx hb dX5_shade_33 (by decide) (by omega) (by omega) (fun c_4 => ?_) (fun c_4 => ?_)
        · skip
          have noksh : ¬ oksh (nI a) (nI b) (nI p) (nI q) (nI w) := fun z => z.2.1 (nI_lt c_4 (by omega))
          refine lv_bipush (v := (-3)) hx hb dX5_shade_42 (by decide) ?_
          exact hret _ T _ _ _ _ dX5_shade_44 (⟨by unfold aShade; rw [if_pos ⟨okc_of ha8 hb8, okc_of hp8 hq8⟩, if_neg noksh], by unfold uShade; rw [if_neg (fun q => noksh q.2.2)]⟩) hP hD hS
        · skip
          refine lv_iload_n hx hb dX5_shade_36 rfl (lv_at hl 2 rfl) ?_
          refine lv_iload hx hb dX5_shade_37 (lv_at hl 4 rfl) ?_
          refine nv_icmp_le (tgt := 45) hx hb dX5_shade_39 (by decide) (by omega) (by omega) (fun c_5 => ?_) (fun c_5 => ?_)
          · skip
            have hoksh : oksh (nI a) (nI b) (nI p) (nI q) (nI w) := ⟨okt_of hw100, nI_nlt (by omega) (by omega), nI_nlt (by omega) (by omega)⟩
            refine lv_iconst (v := nI 0) hx hb dX5_shade_45 (by decide) ?_
            refine lv_istore (lv' := [(6, .int (nI 0)), (0, .ref m0), (1, .int (nI a)), (2, .int (nI b)), (3, .int (nI p)), (4, .int (nI q)), (5, .int (nI w))]) hx hb dX5_shade_46 hl (by decide) rfl (fun ls hl => ?_)
            refine lv_iload_n hx hb dX5_shade_48 rfl (lv_at hl 3 rfl) ?_
            refine lv_istore (lv' := [(7, .int (nI b)), (6, .int (nI 0)), (0, .ref m0), (1, .int (nI a)), (2, .int (nI b)), (3, .int (nI p)), (4, .int (nI q)), (5, .int (nI w))]) hx hb dX5_shade_49 hl (by decide) rfl (fun ls hl => ?_)
            have L51 : ∀ (n : Nat) (i : Nat) (T2 : Nat → Nat) (n2 : Nat), q + 1 - b - i < n → (i ≤ q + 1 - b) → (T2 = (shY T b w a (p + 1 - a) i).1) → (n2 = (shY T b w a (p + 1 - a) i).2) → (∀ k, T2 k ≤ 100) → ∀ (H : Heap) (locs : List Loc) (ls : Array Slot), va_P D vwCl [(m0, .inr (5, [.ref m1, .ref m2, .ref m3, .int (nI (G 0)), .int (nI (G 1)), .int (nI (G 2)), .int (nI (G 3)), .ref m4, .ref m5, .int (nI np), .ref m6, .ref m7, .ref m8, .ref m9, .ref m10, .int (nI ai)])), (m1, .inl (cI, 64, .inl (nF T2))), (m2, .inl (cI, 64, .inl (nF U))), (m3, .inl (cZ, 64, .inl (nF B))), (m4, .inl (cI, 64, .inl (nF Wm))), (m5, .inl (cI, 64, .inl (nF M))), (m6, .inl (cI, 64, .inl (nF F))), (m7, .inl (cI, 64, .inl (nF L))), (m8, .inl (cI, 64, .inl (nF Z))), (m9, .inl (cI, 64, .inl (nF Om))), (m10, .inl (cI, 64, .inl (nF Nm)))] H → va_D A [(m0, .inr (5, [.ref m1, .ref m2, .ref m3, .int (nI (G 0)), .int (nI (G 1)), .int (nI (G 2)), .int (nI (G 3)), .ref m4, .ref m5, .int (nI np), .ref m6, .ref m7, .ref m8, .ref m9, .ref m10, .int (nI ai)])), (m1, .inl (cI, 64, .inl (nF T2))), (m2, .inl (cI, 64, .inl (nF U))), (m3, .inl (cZ, 64, .inl (nF B))), (m4, .inl (cI, 64, .inl (nF Wm))), (m5, .inl (cI, 64, .inl (nF M))), (m6, .inl (cI, 64, .inl (nF F))), (m7, .inl (cI, 64, .inl (nF L))), (m8, .inl (cI, 64, .inl (nF Z))), (m9, .inl (cI, 64, .inl (nF Om))), (m10, .inl (cI, 64, .inl (nF Nm)))] → va_S A s.heap H locs → lv_has ls 9 [(0, .ref m0), (1, .int (nI a)), (2, .int (nI b)), (3, .int (nI p)), (4, .int (nI q)), (5, .int (nI w)), (6, .int (nI n2)), (7, .int (nI (b + i)))] → W pr l e ({ frames := 2, cells := 0, slots := 0, locals := 43 } : Room) s m args below meth c0 H locs 0 0 Q (F0 m 51 ls []) := by
              intro n
              induction n with
              | zero => intro i T2 n2 h0; exact absurd h0 (Nat.not_lt_zero _)
              | succ n ih51 =>
                intro i T2 n2 hm51 hi hT2 hn2 hT2b H locs ls hP hD hS hl
                refine lv_iload hx hb dX5_shade_51 (lv_at hl 7 rfl) ?_
                refine lv_iload hx hb dX5_shade_53 (lv_at hl 4 rfl) ?_
                refine nv_icmp_gt (tgt := 122) hx hb dX5_shade_55 (by decide) (by omega) (by omega) (fun c_6 => ?_) (fun c_6 => ?_)
                · skip
                  refine lv_iload hx hb dX5_shade_122 (lv_at hl 6 rfl) ?_
                  exact hret _ _ _ _ _ _ dX5_shade_124 (⟨by unfold aShade; rw [if_pos ⟨okc_of ha8 hb8, okc_of hp8 hq8⟩, if_pos hoksh, cl_n (by omega), cl_n (by omega), cl_n (by omega), cl_n (by omega), cl_n (by omega), hn2, show i = q + 1 - b by omega], by unfold uShade; rw [if_pos ⟨okc_of ha8 hb8, okc_of hp8 hq8, hoksh⟩, cl_n (by omega), cl_n (by omega), cl_n (by omega), cl_n (by omega), cl_n (by omega), hT2, show i = q + 1 - b by omega]⟩) hP hD hS
                · skip
                  refine lv_iload_n hx hb dX5_shade_58 rfl (lv_at hl 1 rfl) ?_
                  refine lv_istore (lv' := [(8, .int (nI a)), (0, .ref m0), (1, .int (nI a)), (2, .int (nI b)), (3, .int (nI p)), (4, .int (nI q)), (5, .int (nI w)), (6, .int (nI n2)), (7, .int (nI (b + i)))]) hx hb dX5_shade_59 hl (by decide) rfl (fun ls hl => ?_)
                  have L61 : ∀ (n : Nat) (j : Nat) (T3 : Nat → Nat) (n3 : Nat), p + 1 - a - j < n → (j ≤ p + 1 - a) → (T3 = (shX T2 (b + i) w a j).1) → (n3 = n2 + (shX T2 (b + i) w a j).2) → (∀ k, T3 k ≤ 100) → ∀ (H : Heap) (locs : List Loc) (ls : Array Slot), va_P D vwCl [(m0, .inr (5, [.ref m1, .ref m2, .ref m3, .int (nI (G 0)), .int (nI (G 1)), .int (nI (G 2)), .int (nI (G 3)), .ref m4, .ref m5, .int (nI np), .ref m6, .ref m7, .ref m8, .ref m9, .ref m10, .int (nI ai)])), (m1, .inl (cI, 64, .inl (nF T3))), (m2, .inl (cI, 64, .inl (nF U))), (m3, .inl (cZ, 64, .inl (nF B))), (m4, .inl (cI, 64, .inl (nF Wm))), (m5, .inl (cI, 64, .inl (nF M))), (m6, .inl (cI, 64, .inl (nF F))), (m7, .inl (cI, 64, .inl (nF L))), (m8, .inl (cI, 64, .inl (nF Z))), (m9, .inl (cI, 64, .inl (nF Om))), (m10, .inl (cI, 64, .inl (nF Nm)))] H → va_D A [(m0, .inr (5, [.ref m1, .ref m2, .ref m3, .int (nI (G 0)), .int (nI (G 1)), .int (nI (G 2)), .int (nI (G 3)), .ref m4, .ref m5, .int (nI np), .ref m6, .ref m7, .ref m8, .ref m9, .ref m10, .int (nI ai)])), (m1, .inl (cI, 64, .inl (nF T3))), (m2, .inl (cI, 64, .inl (nF U))), (m3, .inl (cZ, 64, .inl (nF B))), (m4, .inl (cI, 64, .inl (nF Wm))), (m5, .inl (cI, 64, .inl (nF M))), (m6, .inl (cI, 64, .inl (nF F))), (m7, .inl (cI, 64, .inl (nF L))), (m8, .inl (cI, 64, .inl (nF Z))), (m9, .inl (cI, 64, .inl (nF Om))), (m10, .inl (cI, 64, .inl (nF Nm)))] → va_S A s.heap H locs → lv_has ls 9 [(0, .ref m0), (1, .int (nI a)), (2, .int (nI b)), (3, .int (nI p)), (4, .int (nI q)), (5, .int (nI w)), (6, .int (nI n3)), (7, .int (nI (b + i))), (8, .int (nI (a + j)))] → W pr l e ({ frames := 2, cells := 0, slots := 0, locals := 43 } : Room) s m args below meth c0 H locs 0 0 Q (F0 m 61 ls []) := by
                    intro n
                    induction n with
                    | zero => intro j T3 n3 h0; exact absurd h0 (Nat.not_lt_zero _)
                    | succ n ih61 =>
                      intro j T3 n3 hm61 hj hT3 hn3 hT3b H locs ls hP hD hS hl
                      refine lv_iload hx hb dX5_shade_61 (lv_at hl 8 rfl) ?_
                      refine lv_iload_n hx hb dX5_shade_63 rfl (lv_at hl 3 rfl) ?_
                      refine nv_icmp_gt (tgt := 116) hx hb dX5_shade_64 (by decide) (by omega) (by omega) (fun c_7 => ?_) (fun c_7 => ?_)
                      · skip
                        refine lv_iinc (v := nI ((b + i) + 1)) (lv' := [(7, .int (nI ((b + i) + 1))), (0, .ref m0), (1, .int (nI a)), (2, .int (nI b)), (3, .int (nI p)), (4, .int (nI q)), (5, .int (nI w)), (6, .int (nI n3)), (8, .int (nI (a + j)))]) hx hb dX5_shade_116 hl (k := 7) rfl (by exact nI_add _ 1) (by decide) rfl (fun ls hl => ?_)
                        refine lv_goto (tgt := 51) hx hb dX5_shade_119 (by decide) ?_
                        exact ih51 (i + 1) T3 n3 (by omega) (by omega) (by rw [hT3, show j = p + 1 - a by omega, hT2]; rfl) (by rw [hn3, show j = p + 1 - a by omega, hn2, hT2]; rfl) hT3b _ _ _ hP hD hS (lv_sub hl [1, 2, 3, 4, 5, 6, 7, 0] rfl)
                      · skip
                        refine lv_iload hx hb dX5_shade_67 (lv_at hl 6 rfl) ?_
                        refine lv_aload_n hx hb dX5_shade_69 rfl (lv_at hl 0 rfl) ?_
                        refine va_get (D := D) (ci := 5) (v := .ref m1) (C := RX5) (T := TX5) (N := 16) hx hb hts hinX5 hown hK hP 0 rfl rfl 0 (by decide) lk1 (fun _ h9 => h9) rfl dX5_shade_70 ?_
                        refine lv_bipush (v := nI 8) hx hb dX5_shade_73 (by decide) ?_
                        refine lv_iload hx hb dX5_shade_75 (lv_at hl 7 rfl) ?_
                        refine nv_imul hx hb dX5_shade_77 ?_
                        refine lv_iload hx hb dX5_shade_78 (lv_at hl 8 rfl) ?_
                        refine nv_iadd hx hb dX5_shade_80 ?_
                        refine nv_iald hx hb hK hP 1 rfl (by omega) (by decide) dX5_shade_81 ?_
                        have bd_8 := hT3b ((8 * (b + i)) + (a + j))
                        refine lv_iload hx hb dX5_shade_82 (lv_at hl 5 rfl) ?_
                        refine nv_icmp_eq (tgt := 91) hx hb dX5_shade_84 (by decide) (by omega) (by omega) (fun c_9 => ?_) (fun c_9 => ?_)
                        · skip
                          refine lv_iconst (v := nI 0) hx hb dX5_shade_91 (by decide) ?_
                          refine nv_iadd hx hb dX5_shade_92 ?_
                          refine lv_istore (lv' := [(6, .int (nI (n3 + 0))), (0, .ref m0), (1, .int (nI a)), (2, .int (nI b)), (3, .int (nI p)), (4, .int (nI q)), (5, .int (nI w)), (7, .int (nI (b + i))), (8, .int (nI (a + j)))]) hx hb dX5_shade_93 hl (by decide) rfl (fun ls hl => ?_)
                          refine lv_aload_n hx hb dX5_shade_95 rfl (lv_at hl 1 rfl) ?_
                          refine va_get (D := D) (ci := 5) (v := .ref m1) (C := RX5) (T := TX5) (N := 16) hx hb hts hinX5 hown hK hP 0 rfl rfl 0 (by decide) lk1 (fun _ h9 => h9) rfl dX5_shade_96 ?_
                          refine lv_bipush (v := nI 8) hx hb dX5_shade_99 (by decide) ?_
                          refine lv_iload hx hb dX5_shade_101 (lv_at hl 7 rfl) ?_
                          refine nv_imul hx hb dX5_shade_103 ?_
                          refine lv_iload hx hb dX5_shade_104 (lv_at hl 8 rfl) ?_
                          refine nv_iadd hx hb dX5_shade_106 ?_
                          refine lv_iload hx hb dX5_shade_107 (lv_at hl 6 rfl) ?_
                          refine nv_iast hx hb hK hP hD hS 1 rfl (by omega) (by decide) dX5_shade_109 (fun H locs hP hD hS => ?_)
                          have hP : va_P D vwCl [(m0, .inr (5, [.ref m1, .ref m2, .ref m3, .int (nI (G 0)), .int (nI (G 1)), .int (nI (G 2)), .int (nI (G 3)), .ref m4, .ref m5, .int (nI np), .ref m6, .ref m7, .ref m8, .ref m9, .ref m10, .int (nI ai)])), (m1, .inl (cI, 64, .inl (nF (va_up T3 ((8 * (b + i)) + (a + j)) w)))), (m2, .inl (cI, 64, .inl (nF U))), (m3, .inl (cZ, 64, .inl (nF B))), (m4, .inl (cI, 64, .inl (nF Wm))), (m5, .inl (cI, 64, .inl (nF M))), (m6, .inl (cI, 64, .inl (nF F))), (m7, .inl (cI, 64, .inl (nF L))), (m8, .inl (cI, 64, .inl (nF Z))), (m9, .inl (cI, 64, .inl (nF Om))), (m10, .inl (cI, 64, .inl (nF Nm)))] H := hP
                          have hD : va_D A [(m0, .inr (5, [.ref m1, .ref m2, .ref m3, .int (nI (G 0)), .int (nI (G 1)), .int (nI (G 2)), .int (nI (G 3)), .ref m4, .ref m5, .int (nI np), .ref m6, .ref m7, .ref m8, .ref m9, .ref m10, .int (nI ai)])), (m1, .inl (cI, 64, .inl (nF (va_up T3 ((8 * (b + i)) + (a + j)) w)))), (m2, .inl (cI, 64, .inl (nF U))), (m3, .inl (cZ, 64, .inl (nF B))), (m4, .inl (cI, 64, .inl (nF Wm))), (m5, .inl (cI, 64, .inl (nF M))), (m6, .inl (cI, 64, .inl (nF F))), (m7, .inl (cI, 64, .inl (nF L))), (m8, .inl (cI, 64, .inl (nF Z))), (m9, .inl (cI, 64, .inl (nF Om))), (m10, .inl (cI, 64, .inl (nF Nm)))] := hD
                          refine lv_iinc (v := nI ((a + j) + 1)) (lv' := [(8, .int (nI ((a + j) + 1))), (6, .int (nI (n3 + 0))), (0, .ref m0), (1, .int (nI a)), (2, .int (nI b)), (3, .int (nI p)), (4, .int (nI q)), (5, .int (nI w)), (7, .int (nI (b + i)))]) hx hb dX5_shade_110 hl (k := 8) rfl (by exact nI_add _ 1) (by decide) rfl (fun ls hl => ?_)
                          refine lv_goto (tgt := 61) hx hb dX5_shade_113 (by decide) ?_
                          exact ih61 (j + 1) (va_up T3 ((8 * (b + i)) + (a + j)) w) (n3 + 0) (by omega) (by omega) (by rw [shX, hT3]) (by rw [shX, hn3, if_pos (by rw [← hT3]; assumption)]; rfl) (by intro k; unfold va_up; split; exact hw100; exact hT3b k) _ _ _ hP hD hS (lv_sub hl [2, 3, 4, 5, 6, 7, 1, 8, 0] rfl)
                        · skip
                          refine lv_iconst (v := nI 1) hx hb dX5_shade_87 (by decide) ?_
                          refine lv_goto (tgt := 92) hx hb dX5_shade_88 (by decide) ?_
                          refine nv_iadd hx hb dX5_shade_92 ?_
                          refine lv_istore (lv' := [(6, .int (nI (n3 + 1))), (0, .ref m0), (1, .int (nI a)), (2, .int (nI b)), (3, .int (nI p)), (4, .int (nI q)), (5, .int (nI w)), (7, .int (nI (b + i))), (8, .int (nI (a + j)))]) hx hb dX5_shade_93 hl (by decide) rfl (fun ls hl => ?_)
                          refine lv_aload_n hx hb dX5_shade_95 rfl (lv_at hl 1 rfl) ?_
                          refine va_get (D := D) (ci := 5) (v := .ref m1) (C := RX5) (T := TX5) (N := 16) hx hb hts hinX5 hown hK hP 0 rfl rfl 0 (by decide) lk1 (fun _ h9 => h9) rfl dX5_shade_96 ?_
                          refine lv_bipush (v := nI 8) hx hb dX5_shade_99 (by decide) ?_
                          refine lv_iload hx hb dX5_shade_101 (lv_at hl 7 rfl) ?_
                          refine nv_imul hx hb dX5_shade_103 ?_
                          refine lv_iload hx hb dX5_shade_104 (lv_at hl 8 rfl) ?_
                          refine nv_iadd hx hb dX5_shade_106 ?_
                          refine lv_iload hx hb dX5_shade_107 (lv_at hl 6 rfl) ?_
                          refine nv_iast hx hb hK hP hD hS 1 rfl (by omega) (by decide) dX5_shade_109 (fun H locs hP hD hS => ?_)
                          have hP : va_P D vwCl [(m0, .inr (5, [.ref m1, .ref m2, .ref m3, .int (nI (G 0)), .int (nI (G 1)), .int (nI (G 2)), .int (nI (G 3)), .ref m4, .ref m5, .int (nI np), .ref m6, .ref m7, .ref m8, .ref m9, .ref m10, .int (nI ai)])), (m1, .inl (cI, 64, .inl (nF (va_up T3 ((8 * (b + i)) + (a + j)) w)))), (m2, .inl (cI, 64, .inl (nF U))), (m3, .inl (cZ, 64, .inl (nF B))), (m4, .inl (cI, 64, .inl (nF Wm))), (m5, .inl (cI, 64, .inl (nF M))), (m6, .inl (cI, 64, .inl (nF F))), (m7, .inl (cI, 64, .inl (nF L))), (m8, .inl (cI, 64, .inl (nF Z))), (m9, .inl (cI, 64, .inl (nF Om))), (m10, .inl (cI, 64, .inl (nF Nm)))] H := hP
                          have hD : va_D A [(m0, .inr (5, [.ref m1, .ref m2, .ref m3, .int (nI (G 0)), .int (nI (G 1)), .int (nI (G 2)), .int (nI (G 3)), .ref m4, .ref m5, .int (nI np), .ref m6, .ref m7, .ref m8, .ref m9, .ref m10, .int (nI ai)])), (m1, .inl (cI, 64, .inl (nF (va_up T3 ((8 * (b + i)) + (a + j)) w)))), (m2, .inl (cI, 64, .inl (nF U))), (m3, .inl (cZ, 64, .inl (nF B))), (m4, .inl (cI, 64, .inl (nF Wm))), (m5, .inl (cI, 64, .inl (nF M))), (m6, .inl (cI, 64, .inl (nF F))), (m7, .inl (cI, 64, .inl (nF L))), (m8, .inl (cI, 64, .inl (nF Z))), (m9, .inl (cI, 64, .inl (nF Om))), (m10, .inl (cI, 64, .inl (nF Nm)))] := hD
                          refine lv_iinc (v := nI ((a + j) + 1)) (lv' := [(8, .int (nI ((a + j) + 1))), (6, .int (nI (n3 + 1))), (0, .ref m0), (1, .int (nI a)), (2, .int (nI b)), (3, .int (nI p)), (4, .int (nI q)), (5, .int (nI w)), (7, .int (nI (b + i)))]) hx hb dX5_shade_110 hl (k := 8) rfl (by exact nI_add _ 1) (by decide) rfl (fun ls hl => ?_)
                          refine lv_goto (tgt := 61) hx hb dX5_shade_113 (by decide) ?_
                          exact ih61 (j + 1) (va_up T3 ((8 * (b + i)) + (a + j)) w) (n3 + 1) (by omega) (by omega) (by rw [shX, hT3]) (by rw [shX, hn3, if_neg (by rw [← hT3]; assumption)]; rfl) (by intro k; unfold va_up; split; exact hw100; exact hT3b k) _ _ _ hP hD hS (lv_sub hl [2, 3, 4, 5, 6, 7, 1, 8, 0] rfl)
                  exact L61 (p + 1 - a + 1) 0 T2 n2 (by omega) (by omega) rfl rfl hT2b _ _ _ hP hD hS (lv_sub hl [1, 2, 3, 4, 5, 6, 7, 8, 0] rfl)
            exact L51 (q + 1 - b + 1) 0 T 0 (by omega) (by omega) rfl rfl hT _ _ _ hP hD hS (lv_sub hl [2, 3, 4, 5, 6, 7, 1, 0] rfl)
          · skip
            have noksh : ¬ oksh (nI a) (nI b) (nI p) (nI q) (nI w) := fun z => z.2.2 (nI_lt (by omega) (by omega))
            refine lv_bipush (v := (-3)) hx hb dX5_shade_42 (by decide) ?_
            exact hret _ T _ _ _ _ dX5_shade_44 (⟨by unfold aShade; rw [if_pos ⟨okc_of ha8 hb8, okc_of hp8 hq8⟩, if_neg noksh], by unfold uShade; rw [if_neg (fun q => noksh q.2.2)]⟩) hP hD hS
    · skip
      have nokc : ¬ (okc x0 y0 ∧ okc x1 y1) := fun q => c_2 q.2
      refine lv_bipush (v := (-2)) hx hb dX5_shade_17 (by decide) ?_
      exact hret _ T _ _ _ _ dX5_shade_19 (⟨by unfold aShade; rw [if_neg nokc], by unfold uShade; rw [if_neg (fun q => nokc ⟨q.1, q.2.1⟩)]⟩) hP hD hS

set_option maxHeartbeats 4000000 in
set_option maxRecDepth 100000 in
theorem c_X5_tell (l : Launch) (D : va_G) (cI cZ : ClassId) (tt : Nat → Nat) (sz : Nat) (m0 m1 m2 m3 m4 m5 m6 m7 m8 m9 m10 : Nat) (np ai : Nat) (T U B G Wm M F L Z Om Nm : Nat → Nat) (x y t : Int32)  : MI l yX5_tell wsX5_tell ({ frames := 2, cells := 0, slots := 0, locals := 43 } : Room) D cI cZ tt [.ref m0, .int (x), .int (y), .int (t)] [(m0, .inr (5, [.ref m1, .ref m2, .ref m3, .int (nI (G 0)), .int (nI (G 1)), .int (nI (G 2)), .int (nI (G 3)), .ref m4, .ref m5, .int (nI np), .ref m6, .ref m7, .ref m8, .ref m9, .ref m10, .int (nI ai)])), (m1, .inl (cI, 64, .inl (nF T))), (m2, .inl (cI, 64, .inl (nF U))), (m3, .inl (cZ, 64, .inl (nF B))), (m4, .inl (cI, 64, .inl (nF Wm))), (m5, .inl (cI, 64, .inl (nF M))), (m6, .inl (cI, 64, .inl (nF F))), (m7, .inl (cI, 64, .inl (nF L))), (m8, .inl (cI, 64, .inl (nF Z))), (m9, .inl (cI, 64, .inl (nF Om))), (m10, .inl (cI, 64, .inl (nF Nm)))] sz (fun (r : Int32) (u : (Nat → Nat) × (Nat → Nat)) => r = aTell U x y t ∧ (u.1 = uTell U x y t) ∧ (u.2 = bTell B x y t)) (fun (u : (Nat → Nat) × (Nat → Nat)) => [(m0, .inr (5, [.ref m1, .ref m2, .ref m3, .int (nI (G 0)), .int (nI (G 1)), .int (nI (G 2)), .int (nI (G 3)), .ref m4, .ref m5, .int (nI np), .ref m6, .ref m7, .ref m8, .ref m9, .ref m10, .int (nI ai)])), (m1, .inl (cI, 64, .inl (nF T))), (m2, .inl (cI, 64, .inl (nF u.1))), (m3, .inl (cZ, 64, .inl (nF u.2))), (m4, .inl (cI, 64, .inl (nF Wm))), (m5, .inl (cI, 64, .inl (nF M))), (m6, .inl (cI, 64, .inl (nF F))), (m7, .inl (cI, 64, .inl (nF L))), (m8, .inl (cI, 64, .inl (nF Z))), (m9, .inl (cI, 64, .inl (nF Om))), (m10, .inl (cI, 64, .inl (nF Nm)))]) := by
  refine entI (cc := cX5_tell) 5 (by decide) rfl (Nat.le_of_ble_eq_true rfl) (Or.inl rfl) (fun pr e s m args below meth c0 A Q H ls hx hb hml hown hts hsz hA hP hK hD hS hG hret hl => ?_)
  have hown : s.vm.findClass RX5 = some m.cls := hown
  have lk1 := hts (.fieldLink RX5 13 "BurinLinesModel" "turn" "[I") (by decide +kernel)
  have lk2 := hts (.fieldLink RX5 16 "BurinLinesModel" "isTold" "[Z") (by decide +kernel)
  have hinX5 : ∀ w ∈ wsX50, w ∈ wsX5_tell := by decide +kernel
  have hl : lv_has ls 5 [(0, .ref m0), (1, .int (x)), (2, .int (y)), (3, .int (t))] := hl
  refine lv_iload_n hx hb dX5_tell_0 rfl (lv_at hl 1 rfl) ?_
  refine lv_iload_n hx hb dX5_tell_1 rfl (lv_at hl 2 rfl) ?_
  refine gcS (As := [.int (x), .int (y)]) (rest := []) ⟨hx, hb, hml, hown, hts⟩ (c_X5_isCell l x y ) (va_cwS 2 hts gX5_tell_X5_isCell rfl rfl rfl (by decide +kernel) ⟨Nat.le_of_ble_eq_true rfl, Nat.le_of_ble_eq_true rfl⟩) hl.1 rfl rfl (Nat.le_of_ble_eq_true rfl) ⟨Nat.zero_le _, Nat.zero_le _⟩ dX5_tell_2 ?_
  refine nv_ifb_ne (tgt := 11) hx hb dX5_tell_5 (by decide) (fun c_1 => ?_) (fun c_1 => ?_)
  · skip
    obtain ⟨a, b, ha8, hb8, rfl, rfl⟩ := okc_nat c_1
    refine lv_iload_n hx hb dX5_tell_11 rfl (lv_at hl 3 rfl) ?_
    refine lv_iconst (v := nI 0) hx hb dX5_tell_12 (by decide) ?_
    refine lv_bipush (v := nI 7) hx hb dX5_tell_13 (by decide) ?_
    refine gcS (As := [.int (t), .int (nI 0), .int (nI 7)]) (rest := []) ⟨hx, hb, hml, hown, hts⟩ (c_X5_in l t (nI 0) (nI 7) ) (va_cwS 3 hts gX5_tell_X5_in rfl rfl rfl (by decide +kernel) ⟨Nat.le_of_ble_eq_true rfl, Nat.le_of_ble_eq_true rfl⟩) hl.1 rfl rfl (Nat.le_of_ble_eq_true rfl) ⟨Nat.zero_le _, Nat.zero_le _⟩ dX5_tell_15 ?_
    refine nv_ifb_ne (tgt := 24) hx hb dX5_tell_18 (by decide) (fun c_2 => ?_) (fun c_2 => ?_)
    · skip
      obtain ⟨u, hu8, rfl⟩ := okT_nat ((okT_in t).mpr c_2)
      refine lv_aload_n hx hb dX5_tell_24 rfl (lv_at hl 0 rfl) ?_
      refine va_get (D := D) (ci := 5) (v := .ref m2) (C := RX5) (T := TX5) (N := 16) hx hb hts hinX5 hown hK hP 0 rfl rfl 1 (by decide) lk1 (fun _ h9 => h9) rfl dX5_tell_25 ?_
      refine lv_bipush (v := nI 8) hx hb dX5_tell_28 (by decide) ?_
      refine lv_iload_n hx hb dX5_tell_30 rfl (lv_at hl 2 rfl) ?_
      refine nv_imul hx hb dX5_tell_31 ?_
      refine lv_iload_n hx hb dX5_tell_32 rfl (lv_at hl 1 rfl) ?_
      refine nv_iadd hx hb dX5_tell_33 ?_
      refine nv_iald hx hb hK hP 2 rfl (by omega) (by decide) dX5_tell_34 ?_
      refine lv_istore (lv' := [(4, .int (nI (U ((8 * b) + a)))), (0, .ref m0), (1, .int (nI a)), (2, .int (nI b)), (3, .int (nI u))]) hx hb dX5_tell_35 hl (by decide) rfl (fun ls hl => ?_)
      refine lv_aload_n hx hb dX5_tell_37 rfl (lv_at hl 1 rfl) ?_
      refine va_get (D := D) (ci := 5) (v := .ref m2) (C := RX5) (T := TX5) (N := 16) hx hb hts hinX5 hown hK hP 0 rfl rfl 1 (by decide) lk1 (fun _ h9 => h9) rfl dX5_tell_38 ?_
      refine lv_bipush (v := nI 8) hx hb dX5_tell_41 (by decide) ?_
      refine lv_iload_n hx hb dX5_tell_43 rfl (lv_at hl 3 rfl) ?_
      refine nv_imul hx hb dX5_tell_44 ?_
      refine lv_iload_n hx hb dX5_tell_45 rfl (lv_at hl 2 rfl) ?_
      refine nv_iadd hx hb dX5_tell_46 ?_
      refine lv_iload_n hx hb dX5_tell_47 rfl (lv_at hl 4 rfl) ?_
      refine nv_iast hx hb hK hP hD hS 2 rfl (by omega) (by decide) dX5_tell_48 (fun H locs hP hD hS => ?_)
      have hP : va_P D vwCl [(m0, .inr (5, [.ref m1, .ref m2, .ref m3, .int (nI (G 0)), .int (nI (G 1)), .int (nI (G 2)), .int (nI (G 3)), .ref m4, .ref m5, .int (nI np), .ref m6, .ref m7, .ref m8, .ref m9, .ref m10, .int (nI ai)])), (m1, .inl (cI, 64, .inl (nF T))), (m2, .inl (cI, 64, .inl (nF (va_up U ((8 * b) + a) u)))), (m3, .inl (cZ, 64, .inl (nF B))), (m4, .inl (cI, 64, .inl (nF Wm))), (m5, .inl (cI, 64, .inl (nF M))), (m6, .inl (cI, 64, .inl (nF F))), (m7, .inl (cI, 64, .inl (nF L))), (m8, .inl (cI, 64, .inl (nF Z))), (m9, .inl (cI, 64, .inl (nF Om))), (m10, .inl (cI, 64, .inl (nF Nm)))] H := hP
      have hD : va_D A [(m0, .inr (5, [.ref m1, .ref m2, .ref m3, .int (nI (G 0)), .int (nI (G 1)), .int (nI (G 2)), .int (nI (G 3)), .ref m4, .ref m5, .int (nI np), .ref m6, .ref m7, .ref m8, .ref m9, .ref m10, .int (nI ai)])), (m1, .inl (cI, 64, .inl (nF T))), (m2, .inl (cI, 64, .inl (nF (va_up U ((8 * b) + a) u)))), (m3, .inl (cZ, 64, .inl (nF B))), (m4, .inl (cI, 64, .inl (nF Wm))), (m5, .inl (cI, 64, .inl (nF M))), (m6, .inl (cI, 64, .inl (nF F))), (m7, .inl (cI, 64, .inl (nF L))), (m8, .inl (cI, 64, .inl (nF Z))), (m9, .inl (cI, 64, .inl (nF Om))), (m10, .inl (cI, 64, .inl (nF Nm)))] := hD
      refine lv_aload_n hx hb dX5_tell_49 rfl (lv_at hl 1 rfl) ?_
      refine va_get (D := D) (ci := 5) (v := .ref m3) (C := RX5) (T := TX5) (N := 16) hx hb hts hinX5 hown hK hP 0 rfl rfl 2 (by decide) lk2 (fun _ h9 => h9) rfl dX5_tell_50 ?_
      refine lv_bipush (v := nI 8) hx hb dX5_tell_53 (by decide) ?_
      refine lv_iload_n hx hb dX5_tell_55 rfl (lv_at hl 3 rfl) ?_
      refine nv_imul hx hb dX5_tell_56 ?_
      refine lv_iload_n hx hb dX5_tell_57 rfl (lv_at hl 2 rfl) ?_
      refine nv_iadd hx hb dX5_tell_58 ?_
      refine lv_iconst (v := nI 1) hx hb dX5_tell_59 (by decide) ?_
      refine nv_zast hx hb hK hP hD hS 3 rfl (by omega) (by decide) (by omega) dX5_tell_60 (fun H locs hP hD hS => ?_)
      have hP : va_P D vwCl [(m0, .inr (5, [.ref m1, .ref m2, .ref m3, .int (nI (G 0)), .int (nI (G 1)), .int (nI (G 2)), .int (nI (G 3)), .ref m4, .ref m5, .int (nI np), .ref m6, .ref m7, .ref m8, .ref m9, .ref m10, .int (nI ai)])), (m1, .inl (cI, 64, .inl (nF T))), (m2, .inl (cI, 64, .inl (nF (va_up U ((8 * b) + a) u)))), (m3, .inl (cZ, 64, .inl (nF (va_up B ((8 * b) + a) 1)))), (m4, .inl (cI, 64, .inl (nF Wm))), (m5, .inl (cI, 64, .inl (nF M))), (m6, .inl (cI, 64, .inl (nF F))), (m7, .inl (cI, 64, .inl (nF L))), (m8, .inl (cI, 64, .inl (nF Z))), (m9, .inl (cI, 64, .inl (nF Om))), (m10, .inl (cI, 64, .inl (nF Nm)))] H := hP
      have hD : va_D A [(m0, .inr (5, [.ref m1, .ref m2, .ref m3, .int (nI (G 0)), .int (nI (G 1)), .int (nI (G 2)), .int (nI (G 3)), .ref m4, .ref m5, .int (nI np), .ref m6, .ref m7, .ref m8, .ref m9, .ref m10, .int (nI ai)])), (m1, .inl (cI, 64, .inl (nF T))), (m2, .inl (cI, 64, .inl (nF (va_up U ((8 * b) + a) u)))), (m3, .inl (cZ, 64, .inl (nF (va_up B ((8 * b) + a) 1)))), (m4, .inl (cI, 64, .inl (nF Wm))), (m5, .inl (cI, 64, .inl (nF M))), (m6, .inl (cI, 64, .inl (nF F))), (m7, .inl (cI, 64, .inl (nF L))), (m8, .inl (cI, 64, .inl (nF Z))), (m9, .inl (cI, 64, .inl (nF Om))), (m10, .inl (cI, 64, .inl (nF Nm)))] := hD
      refine lv_iload hx hb dX5_tell_61 (lv_at hl 0 rfl) ?_
      exact hret _ (va_up U ((8 * b) + a) u, va_up B ((8 * b) + a) 1) _ _ _ _ dX5_tell_63 (⟨by unfold aTell; rw [if_pos (okc_of ha8 hb8), if_pos (okT_of hu8), ci_n ha8 hb8], by unfold uTell; rw [if_pos ⟨okc_of ha8 hb8, okT_of hu8⟩, ci_n ha8 hb8, cl_n (by omega)], by unfold bTell; rw [if_pos ⟨okc_of ha8 hb8, okT_of hu8⟩, ci_n ha8 hb8]⟩) hP hD hS
    · skip
      have nokT : ¬ okT t := fun q => c_2 ((okT_in t).mp q)
      refine lv_bipush (v := (-3)) hx hb dX5_tell_21 (by decide) ?_
      exact hret _ (U, B) _ _ _ _ dX5_tell_23 (⟨by unfold aTell; rw [if_pos (okc_of ha8 hb8), if_neg nokT], by unfold uTell; rw [if_neg (fun q => nokT q.2)], by unfold bTell; rw [if_neg (fun q => nokT q.2)]⟩) hP hD hS
  · skip
    have nokc := c_1
    refine lv_bipush (v := (-2)) hx hb dX5_tell_8 (by decide) ?_
    exact hret _ (U, B) _ _ _ _ dX5_tell_10 (⟨by unfold aTell; rw [if_neg nokc], by unfold uTell; rw [if_neg (fun q => nokc q.1)], by unfold bTell; rw [if_neg (fun q => nokc q.1)]⟩) hP hD hS

set_option maxHeartbeats 4000000 in
set_option maxRecDepth 100000 in
theorem c_X5_free (l : Launch) (D : va_G) (cI cZ : ClassId) (tt : Nat → Nat) (sz : Nat) (m0 m1 m2 m3 m4 m5 m6 m7 m8 m9 m10 : Nat) (np ai : Nat) (T U B G Wm M F L Z Om Nm : Nat → Nat) (x y : Int32) (hB : ∀ k, B k < 2) : MI l yX5_free wsX5_free ({ frames := 2, cells := 0, slots := 0, locals := 43 } : Room) D cI cZ tt [.ref m0, .int (x), .int (y)] [(m0, .inr (5, [.ref m1, .ref m2, .ref m3, .int (nI (G 0)), .int (nI (G 1)), .int (nI (G 2)), .int (nI (G 3)), .ref m4, .ref m5, .int (nI np), .ref m6, .ref m7, .ref m8, .ref m9, .ref m10, .int (nI ai)])), (m1, .inl (cI, 64, .inl (nF T))), (m2, .inl (cI, 64, .inl (nF U))), (m3, .inl (cZ, 64, .inl (nF B))), (m4, .inl (cI, 64, .inl (nF Wm))), (m5, .inl (cI, 64, .inl (nF M))), (m6, .inl (cI, 64, .inl (nF F))), (m7, .inl (cI, 64, .inl (nF L))), (m8, .inl (cI, 64, .inl (nF Z))), (m9, .inl (cI, 64, .inl (nF Om))), (m10, .inl (cI, 64, .inl (nF Nm)))] sz (fun (r : Int32) (u : (Nat → Nat)) => r = aFree B x y ∧ (u = bFree B x y)) (fun (u : (Nat → Nat)) => [(m0, .inr (5, [.ref m1, .ref m2, .ref m3, .int (nI (G 0)), .int (nI (G 1)), .int (nI (G 2)), .int (nI (G 3)), .ref m4, .ref m5, .int (nI np), .ref m6, .ref m7, .ref m8, .ref m9, .ref m10, .int (nI ai)])), (m1, .inl (cI, 64, .inl (nF T))), (m2, .inl (cI, 64, .inl (nF U))), (m3, .inl (cZ, 64, .inl (nF u))), (m4, .inl (cI, 64, .inl (nF Wm))), (m5, .inl (cI, 64, .inl (nF M))), (m6, .inl (cI, 64, .inl (nF F))), (m7, .inl (cI, 64, .inl (nF L))), (m8, .inl (cI, 64, .inl (nF Z))), (m9, .inl (cI, 64, .inl (nF Om))), (m10, .inl (cI, 64, .inl (nF Nm)))]) := by
  refine entI (cc := cX5_free) 3 (by decide) rfl (Nat.le_of_ble_eq_true rfl) (Or.inl rfl) (fun pr e s m args below meth c0 A Q H ls hx hb hml hown hts hsz hA hP hK hD hS hG hret hl => ?_)
  have hown : s.vm.findClass RX5 = some m.cls := hown
  have lk1 := hts (.fieldLink RX5 16 "BurinLinesModel" "isTold" "[Z") (by decide +kernel)
  have hinX5 : ∀ w ∈ wsX50, w ∈ wsX5_free := by decide +kernel
  have hl : lv_has ls 3 [(0, .ref m0), (1, .int (x)), (2, .int (y))] := hl
  refine lv_iload_n hx hb dX5_free_0 rfl (lv_at hl 1 rfl) ?_
  refine lv_iload_n hx hb dX5_free_1 rfl (lv_at hl 2 rfl) ?_
  refine gcS (As := [.int (x), .int (y)]) (rest := []) ⟨hx, hb, hml, hown, hts⟩ (c_X5_isCell l x y ) (va_cwS 2 hts gX5_free_X5_isCell rfl rfl rfl (by decide +kernel) ⟨Nat.le_of_ble_eq_true rfl, Nat.le_of_ble_eq_true rfl⟩) hl.1 rfl rfl (Nat.le_of_ble_eq_true rfl) ⟨Nat.zero_le _, Nat.zero_le _⟩ dX5_free_2 ?_
  refine nv_ifb_ne (tgt := 11) hx hb dX5_free_5 (by decide) (fun c_1 => ?_) (fun c_1 => ?_)
  · skip
    obtain ⟨a, b, ha8, hb8, rfl, rfl⟩ := okc_nat c_1
    refine lv_aload_n hx hb dX5_free_11 rfl (lv_at hl 0 rfl) ?_
    refine va_get (D := D) (ci := 5) (v := .ref m3) (C := RX5) (T := TX5) (N := 16) hx hb hts hinX5 hown hK hP 0 rfl rfl 2 (by decide) lk1 (fun _ h9 => h9) rfl dX5_free_12 ?_
    refine lv_bipush (v := nI 8) hx hb dX5_free_15 (by decide) ?_
    refine lv_iload_n hx hb dX5_free_17 rfl (lv_at hl 2 rfl) ?_
    refine nv_imul hx hb dX5_free_18 ?_
    refine lv_iload_n hx hb dX5_free_19 rfl (lv_at hl 1 rfl) ?_
    refine nv_iadd hx hb dX5_free_20 ?_
    refine nv_zald hx hb hK hP 3 rfl (by omega) (by decide) dX5_free_21 ?_
    have bd_2 := hB ((8 * b) + a)
    refine nv_if_ne (tgt := 28) hx hb dX5_free_22 (by decide) (by omega) (fun c_3 => ?_) (fun c_3 => ?_)
    · skip
      have hz := c_3
      refine lv_aload_n hx hb dX5_free_28 rfl (lv_at hl 0 rfl) ?_
      refine va_get (D := D) (ci := 5) (v := .ref m3) (C := RX5) (T := TX5) (N := 16) hx hb hts hinX5 hown hK hP 0 rfl rfl 2 (by decide) lk1 (fun _ h9 => h9) rfl dX5_free_29 ?_
      refine lv_bipush (v := nI 8) hx hb dX5_free_32 (by decide) ?_
      refine lv_iload_n hx hb dX5_free_34 rfl (lv_at hl 2 rfl) ?_
      refine nv_imul hx hb dX5_free_35 ?_
      refine lv_iload_n hx hb dX5_free_36 rfl (lv_at hl 1 rfl) ?_
      refine nv_iadd hx hb dX5_free_37 ?_
      refine lv_iconst (v := nI 0) hx hb dX5_free_38 (by decide) ?_
      refine nv_zast hx hb hK hP hD hS 3 rfl (by omega) (by decide) (by omega) dX5_free_39 (fun H locs hP hD hS => ?_)
      have hP : va_P D vwCl [(m0, .inr (5, [.ref m1, .ref m2, .ref m3, .int (nI (G 0)), .int (nI (G 1)), .int (nI (G 2)), .int (nI (G 3)), .ref m4, .ref m5, .int (nI np), .ref m6, .ref m7, .ref m8, .ref m9, .ref m10, .int (nI ai)])), (m1, .inl (cI, 64, .inl (nF T))), (m2, .inl (cI, 64, .inl (nF U))), (m3, .inl (cZ, 64, .inl (nF (va_up B ((8 * b) + a) 0)))), (m4, .inl (cI, 64, .inl (nF Wm))), (m5, .inl (cI, 64, .inl (nF M))), (m6, .inl (cI, 64, .inl (nF F))), (m7, .inl (cI, 64, .inl (nF L))), (m8, .inl (cI, 64, .inl (nF Z))), (m9, .inl (cI, 64, .inl (nF Om))), (m10, .inl (cI, 64, .inl (nF Nm)))] H := hP
      have hD : va_D A [(m0, .inr (5, [.ref m1, .ref m2, .ref m3, .int (nI (G 0)), .int (nI (G 1)), .int (nI (G 2)), .int (nI (G 3)), .ref m4, .ref m5, .int (nI np), .ref m6, .ref m7, .ref m8, .ref m9, .ref m10, .int (nI ai)])), (m1, .inl (cI, 64, .inl (nF T))), (m2, .inl (cI, 64, .inl (nF U))), (m3, .inl (cZ, 64, .inl (nF (va_up B ((8 * b) + a) 0)))), (m4, .inl (cI, 64, .inl (nF Wm))), (m5, .inl (cI, 64, .inl (nF M))), (m6, .inl (cI, 64, .inl (nF F))), (m7, .inl (cI, 64, .inl (nF L))), (m8, .inl (cI, 64, .inl (nF Z))), (m9, .inl (cI, 64, .inl (nF Om))), (m10, .inl (cI, 64, .inl (nF Nm)))] := hD
      refine lv_iconst (v := nI 1) hx hb dX5_free_40 (by decide) ?_
      exact hret _ _ _ _ _ _ dX5_free_41 (⟨by unfold aFree; rw [if_pos (okc_of ha8 hb8), ci_n ha8 hb8, if_neg hz], by unfold bFree; rw [if_pos (okc_of ha8 hb8), ci_n ha8 hb8]⟩) hP hD hS
    · skip
      have hz := c_3
      refine lv_bipush (v := (-4)) hx hb dX5_free_25 (by decide) ?_
      exact hret _ B _ _ _ _ dX5_free_27 (⟨by unfold aFree; rw [if_pos (okc_of ha8 hb8), ci_n ha8 hb8, if_pos hz], by unfold bFree; rw [if_pos (okc_of ha8 hb8), ci_n ha8 hb8, up_same hz]⟩) hP hD hS
  · skip
    have nokc := c_1
    refine lv_bipush (v := (-2)) hx hb dX5_free_8 (by decide) ?_
    exact hret _ B _ _ _ _ dX5_free_10 (⟨by unfold aFree; rw [if_neg nokc], by unfold bFree; rw [if_neg nokc]⟩) hP hD hS

set_option maxHeartbeats 4000000 in
set_option maxRecDepth 100000 in
theorem c_X5_at (l : Launch) (D : va_G) (cI cZ : ClassId) (tt : Nat → Nat) (sz : Nat) (m0 m1 m2 m3 m4 m5 m6 m7 m8 m9 m10 : Nat) (np ai : Nat) (T U B G Wm M F L Z Om Nm : Nat → Nat) (x y what : Int32) (hB : ∀ k, B k < 2) : MI l yX5_at wsX5_at ({ frames := 2, cells := 0, slots := 0, locals := 43 } : Room) D cI cZ tt [.ref m0, .int (x), .int (y), .int (what)] [(m0, .inr (5, [.ref m1, .ref m2, .ref m3, .int (nI (G 0)), .int (nI (G 1)), .int (nI (G 2)), .int (nI (G 3)), .ref m4, .ref m5, .int (nI np), .ref m6, .ref m7, .ref m8, .ref m9, .ref m10, .int (nI ai)])), (m1, .inl (cI, 64, .inl (nF T))), (m2, .inl (cI, 64, .inl (nF U))), (m3, .inl (cZ, 64, .inl (nF B))), (m4, .inl (cI, 64, .inl (nF Wm))), (m5, .inl (cI, 64, .inl (nF M))), (m6, .inl (cI, 64, .inl (nF F))), (m7, .inl (cI, 64, .inl (nF L))), (m8, .inl (cI, 64, .inl (nF Z))), (m9, .inl (cI, 64, .inl (nF Om))), (m10, .inl (cI, 64, .inl (nF Nm)))] sz (fun (r : Int32) (_ : Unit) => r = aAt T U B x y what) (fun (_ : Unit) => [(m0, .inr (5, [.ref m1, .ref m2, .ref m3, .int (nI (G 0)), .int (nI (G 1)), .int (nI (G 2)), .int (nI (G 3)), .ref m4, .ref m5, .int (nI np), .ref m6, .ref m7, .ref m8, .ref m9, .ref m10, .int (nI ai)])), (m1, .inl (cI, 64, .inl (nF T))), (m2, .inl (cI, 64, .inl (nF U))), (m3, .inl (cZ, 64, .inl (nF B))), (m4, .inl (cI, 64, .inl (nF Wm))), (m5, .inl (cI, 64, .inl (nF M))), (m6, .inl (cI, 64, .inl (nF F))), (m7, .inl (cI, 64, .inl (nF L))), (m8, .inl (cI, 64, .inl (nF Z))), (m9, .inl (cI, 64, .inl (nF Om))), (m10, .inl (cI, 64, .inl (nF Nm)))]) := by
  refine entI (cc := cX5_at) 5 (by decide) rfl (Nat.le_of_ble_eq_true rfl) (Or.inl rfl) (fun pr e s m args below meth c0 A Q H ls hx hb hml hown hts hsz hA hP hK hD hS hG hret hl => ?_)
  have hown : s.vm.findClass RX5 = some m.cls := hown
  have lk1 := hts (.fieldLink RX5 16 "BurinLinesModel" "isTold" "[Z") (by decide +kernel)
  have lk2 := hts (.fieldLink RX5 13 "BurinLinesModel" "turn" "[I") (by decide +kernel)
  have lk3 := hts (.fieldLink RX5 7 "BurinLinesModel" "tone" "[I") (by decide +kernel)
  have hinX5 : ∀ w ∈ wsX50, w ∈ wsX5_at := by decide +kernel
  have hl : lv_has ls 5 [(0, .ref m0), (1, .int (x)), (2, .int (y)), (3, .int (what))] := hl
  refine lv_iload_n hx hb dX5_at_0 rfl (lv_at hl 1 rfl) ?_
  refine lv_iload_n hx hb dX5_at_1 rfl (lv_at hl 2 rfl) ?_
  refine gcS (As := [.int (x), .int (y)]) (rest := []) ⟨hx, hb, hml, hown, hts⟩ (c_X5_isCell l x y ) (va_cwS 2 hts gX5_at_X5_isCell rfl rfl rfl (by decide +kernel) ⟨Nat.le_of_ble_eq_true rfl, Nat.le_of_ble_eq_true rfl⟩) hl.1 rfl rfl (Nat.le_of_ble_eq_true rfl) ⟨Nat.zero_le _, Nat.zero_le _⟩ dX5_at_2 ?_
  refine nv_ifb_ne (tgt := 11) hx hb dX5_at_5 (by decide) (fun c_1 => ?_) (fun c_1 => ?_)
  · skip
    obtain ⟨a, b, ha8, hb8, rfl, rfl⟩ := okc_nat c_1
    refine lv_bipush (v := nI 8) hx hb dX5_at_11 (by decide) ?_
    refine lv_iload_n hx hb dX5_at_13 rfl (lv_at hl 2 rfl) ?_
    refine nv_imul hx hb dX5_at_14 ?_
    refine lv_iload_n hx hb dX5_at_15 rfl (lv_at hl 1 rfl) ?_
    refine nv_iadd hx hb dX5_at_16 ?_
    refine lv_istore (lv' := [(4, .int (nI ((8 * b) + a))), (0, .ref m0), (1, .int (nI a)), (2, .int (nI b)), (3, .int (what))]) hx hb dX5_at_17 hl (by decide) rfl (fun ls hl => ?_)
    refine lv_iload_n hx hb dX5_at_19 rfl (lv_at hl 4 rfl) ?_
    refine lv_if_ne (tgt := 33) hx hb dX5_at_20 (by decide) (fun c_2 => ?_) (fun c_2 => ?_)
    · skip
      refine lv_iload_n hx hb dX5_at_33 rfl (lv_at hl 4 rfl) ?_
      refine lv_iconst (v := nI 1) hx hb dX5_at_34 (by decide) ?_
      refine lv_icmp_ne (tgt := 48) hx hb dX5_at_35 (by decide) (fun c_3 => ?_) (fun c_3 => ?_)
      · skip
        refine lv_iload_n hx hb dX5_at_48 rfl (lv_at hl 4 rfl) ?_
        refine lv_iconst (v := nI 2) hx hb dX5_at_49 (by decide) ?_
        refine lv_icmp_ne (tgt := 71) hx hb dX5_at_50 (by decide) (fun c_4 => ?_) (fun c_4 => ?_)
        · skip
          refine lv_bipush (v := (-3)) hx hb dX5_at_71 (by decide) ?_
          exact hret _ () _ _ _ _ dX5_at_73 (by unfold aAt; rw [if_pos (okc_of ha8 hb8), ci_n ha8 hb8, if_neg (fun z => c_2 (z.trans nI_0)), if_neg c_3, if_neg c_4]) hP hD hS
        · skip
          refine lv_aload_n hx hb dX5_at_53 rfl (lv_at hl 1 rfl) ?_
          refine va_get (D := D) (ci := 5) (v := .ref m3) (C := RX5) (T := TX5) (N := 16) hx hb hts hinX5 hown hK hP 0 rfl rfl 2 (by decide) lk1 (fun _ h9 => h9) rfl dX5_at_54 ?_
          refine lv_iload hx hb dX5_at_57 (lv_at hl 0 rfl) ?_
          refine nv_zald hx hb hK hP 3 rfl (by omega) (by decide) dX5_at_59 ?_
          have bd_5 := hB ((8 * b) + a)
          refine nv_if_eq (tgt := 67) hx hb dX5_at_60 (by decide) (by omega) (fun c_6 => ?_) (fun c_6 => ?_)
          · skip
            refine lv_iconst (v := nI 0) hx hb dX5_at_67 (by decide) ?_
            refine lv_goto (tgt := 73) hx hb dX5_at_68 (by decide) ?_
            exact hret _ () _ _ _ _ dX5_at_73 (by unfold aAt; rw [if_pos (okc_of ha8 hb8), ci_n ha8 hb8, if_neg (fun z => c_2 (z.trans nI_0)), if_neg c_3, if_pos c_4, if_pos c_6]) hP hD hS
          · skip
            refine lv_iconst (v := nI 1) hx hb dX5_at_63 (by decide) ?_
            refine lv_goto (tgt := 73) hx hb dX5_at_64 (by decide) ?_
            exact hret _ () _ _ _ _ dX5_at_73 (by unfold aAt; rw [if_pos (okc_of ha8 hb8), ci_n ha8 hb8, if_neg (fun z => c_2 (z.trans nI_0)), if_neg c_3, if_pos c_4, if_neg c_6]) hP hD hS
      · skip
        refine lv_aload_n hx hb dX5_at_38 rfl (lv_at hl 1 rfl) ?_
        refine va_get (D := D) (ci := 5) (v := .ref m2) (C := RX5) (T := TX5) (N := 16) hx hb hts hinX5 hown hK hP 0 rfl rfl 1 (by decide) lk2 (fun _ h9 => h9) rfl dX5_at_39 ?_
        refine lv_iload hx hb dX5_at_42 (lv_at hl 0 rfl) ?_
        refine nv_iald hx hb hK hP 2 rfl (by omega) (by decide) dX5_at_44 ?_
        refine lv_goto (tgt := 73) hx hb dX5_at_45 (by decide) ?_
        exact hret _ () _ _ _ _ dX5_at_73 (by unfold aAt; rw [if_pos (okc_of ha8 hb8), ci_n ha8 hb8, if_neg (fun z => c_2 (z.trans nI_0)), if_pos c_3]) hP hD hS
    · skip
      refine lv_aload_n hx hb dX5_at_23 rfl (lv_at hl 1 rfl) ?_
      refine va_get (D := D) (ci := 5) (v := .ref m1) (C := RX5) (T := TX5) (N := 16) hx hb hts hinX5 hown hK hP 0 rfl rfl 0 (by decide) lk3 (fun _ h9 => h9) rfl dX5_at_24 ?_
      refine lv_iload hx hb dX5_at_27 (lv_at hl 0 rfl) ?_
      refine nv_iald hx hb hK hP 1 rfl (by omega) (by decide) dX5_at_29 ?_
      refine lv_goto (tgt := 73) hx hb dX5_at_30 (by decide) ?_
      exact hret _ () _ _ _ _ dX5_at_73 (by unfold aAt; rw [if_pos (okc_of ha8 hb8), ci_n ha8 hb8, if_pos (show what = nI 0 from c_2.trans nI_0.symm)]) hP hD hS
  · skip
    have nokc := c_1
    refine lv_bipush (v := (-2)) hx hb dX5_at_8 (by decide) ?_
    exact hret _ () _ _ _ _ dX5_at_10 (by unfold aAt; rw [if_neg nokc]) hP hD hS

set_option maxHeartbeats 4000000 in
set_option maxRecDepth 100000 in
theorem c_X5_knotOf (l : Launch) (D : va_G) (cI cZ : ClassId) (tt : Nat → Nat) (sz : Nat) (m0 m1 m2 m3 m4 m5 m6 m7 m8 m9 m10 : Nat) (np ai : Nat) (T U B G Wm M F L Z Om Nm : Nat → Nat) (x y : Nat) (hU : ∀ k, U k < 8) (hx7 : x < 7) (hy7 : y < 7) : MI l yX5_knotOf wsX5_knotOf ({ frames := 1, cells := 0, slots := 0, locals := 22 } : Room) D cI cZ tt [.ref m0, .int (nI x), .int (nI y)] [(m0, .inr (5, [.ref m1, .ref m2, .ref m3, .int (nI (G 0)), .int (nI (G 1)), .int (nI (G 2)), .int (nI (G 3)), .ref m4, .ref m5, .int (nI np), .ref m6, .ref m7, .ref m8, .ref m9, .ref m10, .int (nI ai)])), (m1, .inl (cI, 64, .inl (nF T))), (m2, .inl (cI, 64, .inl (nF U))), (m3, .inl (cZ, 64, .inl (nF B))), (m4, .inl (cI, 64, .inl (nF Wm))), (m5, .inl (cI, 64, .inl (nF M))), (m6, .inl (cI, 64, .inl (nF F))), (m7, .inl (cI, 64, .inl (nF L))), (m8, .inl (cI, 64, .inl (nF Z))), (m9, .inl (cI, 64, .inl (nF Om))), (m10, .inl (cI, 64, .inl (nF Nm)))] sz (fun (r : Int32) (_ : Unit) => r = kn U (8 * y + x)) (fun (_ : Unit) => [(m0, .inr (5, [.ref m1, .ref m2, .ref m3, .int (nI (G 0)), .int (nI (G 1)), .int (nI (G 2)), .int (nI (G 3)), .ref m4, .ref m5, .int (nI np), .ref m6, .ref m7, .ref m8, .ref m9, .ref m10, .int (nI ai)])), (m1, .inl (cI, 64, .inl (nF T))), (m2, .inl (cI, 64, .inl (nF U))), (m3, .inl (cZ, 64, .inl (nF B))), (m4, .inl (cI, 64, .inl (nF Wm))), (m5, .inl (cI, 64, .inl (nF M))), (m6, .inl (cI, 64, .inl (nF F))), (m7, .inl (cI, 64, .inl (nF L))), (m8, .inl (cI, 64, .inl (nF Z))), (m9, .inl (cI, 64, .inl (nF Om))), (m10, .inl (cI, 64, .inl (nF Nm)))]) := by
  refine entI (cc := cX5_knotOf) 8 (by decide) rfl (Nat.le_of_ble_eq_true rfl) (Or.inl rfl) (fun pr e s m args below meth c0 A Q H ls hx hb hml hown hts hsz hA hP hK hD hS hG hret hl => ?_)
  have hown : s.vm.findClass RX5 = some m.cls := hown
  have lk1 := hts (.fieldLink RX5 13 "BurinLinesModel" "turn" "[I") (by decide +kernel)
  have hinX5 : ∀ w ∈ wsX50, w ∈ wsX5_knotOf := by decide +kernel
  have hl : lv_has ls 8 [(0, .ref m0), (1, .int (nI x)), (2, .int (nI y))] := hl
  refine lv_bipush (v := nI 8) hx hb dX5_knotOf_0 (by decide) ?_
  refine lv_iload_n hx hb dX5_knotOf_2 rfl (lv_at hl 2 rfl) ?_
  refine nv_imul hx hb dX5_knotOf_3 ?_
  refine lv_iload_n hx hb dX5_knotOf_4 rfl (lv_at hl 1 rfl) ?_
  refine nv_iadd hx hb dX5_knotOf_5 ?_
  refine lv_istore_n (lv' := [(3, .int (nI ((8 * y) + x))), (0, .ref m0), (1, .int (nI x)), (2, .int (nI y))]) hx hb dX5_knotOf_6 rfl hl (by decide) rfl (fun ls hl => ?_)
  refine lv_aload_n hx hb dX5_knotOf_7 rfl (lv_at hl 1 rfl) ?_
  refine va_get (D := D) (ci := 5) (v := .ref m2) (C := RX5) (T := TX5) (N := 16) hx hb hts hinX5 hown hK hP 0 rfl rfl 1 (by decide) lk1 (fun _ h9 => h9) rfl dX5_knotOf_8 ?_
  refine lv_iload_n hx hb dX5_knotOf_11 rfl (lv_at hl 0 rfl) ?_
  refine nv_iald hx hb hK hP 2 rfl (by omega) (by decide) dX5_knotOf_12 ?_
  have bd_1 := hU ((8 * y) + x)
  refine lv_aload_n hx hb dX5_knotOf_13 rfl (lv_at hl 1 rfl) ?_
  refine va_get (D := D) (ci := 5) (v := .ref m2) (C := RX5) (T := TX5) (N := 16) hx hb hts hinX5 hown hK hP 0 rfl rfl 1 (by decide) lk1 (fun _ h9 => h9) rfl dX5_knotOf_14 ?_
  refine lv_iload_n hx hb dX5_knotOf_17 rfl (lv_at hl 0 rfl) ?_
  refine lv_iconst (v := nI 1) hx hb dX5_knotOf_18 (by decide) ?_
  refine nv_iadd hx hb dX5_knotOf_19 ?_
  refine nv_iald hx hb hK hP 2 rfl (by omega) (by decide) dX5_knotOf_20 ?_
  have bd_2 := hU (((8 * y) + x) + 1)
  refine gcS (As := [.int (nI (U ((8 * y) + x))), .int (nI (U (((8 * y) + x) + 1)))]) (rest := []) ⟨hx, hb, hml, hown, hts⟩ (c_X5_grows l (U ((8 * y) + x)) (U (((8 * y) + x) + 1)) (by first | assumption | omega) (by first | assumption | omega)) (va_cwS 2 hts gX5_knotOf_X5_grows rfl rfl rfl (by decide +kernel) ⟨Nat.le_of_ble_eq_true rfl, Nat.le_of_ble_eq_true rfl⟩) hl.1 rfl rfl (Nat.le_of_ble_eq_true rfl) ⟨Nat.zero_le _, Nat.zero_le _⟩ dX5_knotOf_21 ?_
  refine lv_istore (lv' := [(4, .int (gw (U ((8 * y) + x)) (U (((8 * y) + x) + 1)))), (3, .int (nI ((8 * y) + x))), (0, .ref m0), (1, .int (nI x)), (2, .int (nI y))]) hx hb dX5_knotOf_24 hl (by decide) rfl (fun ls hl => ?_)
  refine lv_aload_n hx hb dX5_knotOf_26 rfl (lv_at hl 2 rfl) ?_
  refine va_get (D := D) (ci := 5) (v := .ref m2) (C := RX5) (T := TX5) (N := 16) hx hb hts hinX5 hown hK hP 0 rfl rfl 1 (by decide) lk1 (fun _ h9 => h9) rfl dX5_knotOf_27 ?_
  refine lv_iload_n hx hb dX5_knotOf_30 rfl (lv_at hl 1 rfl) ?_
  refine lv_iconst (v := nI 1) hx hb dX5_knotOf_31 (by decide) ?_
  refine nv_iadd hx hb dX5_knotOf_32 ?_
  refine nv_iald hx hb hK hP 2 rfl (by omega) (by decide) dX5_knotOf_33 ?_
  have bd_3 := hU (((8 * y) + x) + 1)
  refine lv_aload_n hx hb dX5_knotOf_34 rfl (lv_at hl 2 rfl) ?_
  refine va_get (D := D) (ci := 5) (v := .ref m2) (C := RX5) (T := TX5) (N := 16) hx hb hts hinX5 hown hK hP 0 rfl rfl 1 (by decide) lk1 (fun _ h9 => h9) rfl dX5_knotOf_35 ?_
  refine lv_iload_n hx hb dX5_knotOf_38 rfl (lv_at hl 1 rfl) ?_
  refine lv_bipush (v := nI 9) hx hb dX5_knotOf_39 (by decide) ?_
  refine nv_iadd hx hb dX5_knotOf_41 ?_
  refine nv_iald hx hb hK hP 2 rfl (by omega) (by decide) dX5_knotOf_42 ?_
  have bd_4 := hU (((8 * y) + x) + 9)
  refine gcS (As := [.int (nI (U (((8 * y) + x) + 1))), .int (nI (U (((8 * y) + x) + 9)))]) (rest := []) ⟨hx, hb, hml, hown, hts⟩ (c_X5_grows l (U (((8 * y) + x) + 1)) (U (((8 * y) + x) + 9)) (by first | assumption | omega) (by first | assumption | omega)) (va_cwS 2 hts gX5_knotOf_X5_grows rfl rfl rfl (by decide +kernel) ⟨Nat.le_of_ble_eq_true rfl, Nat.le_of_ble_eq_true rfl⟩) hl.1 rfl rfl (Nat.le_of_ble_eq_true rfl) ⟨Nat.zero_le _, Nat.zero_le _⟩ dX5_knotOf_43 ?_
  refine lv_istore (lv' := [(5, .int (gw (U (((8 * y) + x) + 1)) (U (((8 * y) + x) + 9)))), (4, .int (gw (U ((8 * y) + x)) (U (((8 * y) + x) + 1)))), (3, .int (nI ((8 * y) + x))), (0, .ref m0), (1, .int (nI x)), (2, .int (nI y))]) hx hb dX5_knotOf_46 hl (by decide) rfl (fun ls hl => ?_)
  refine lv_aload_n hx hb dX5_knotOf_48 rfl (lv_at hl 3 rfl) ?_
  refine va_get (D := D) (ci := 5) (v := .ref m2) (C := RX5) (T := TX5) (N := 16) hx hb hts hinX5 hown hK hP 0 rfl rfl 1 (by decide) lk1 (fun _ h9 => h9) rfl dX5_knotOf_49 ?_
  refine lv_iload_n hx hb dX5_knotOf_52 rfl (lv_at hl 2 rfl) ?_
  refine lv_bipush (v := nI 9) hx hb dX5_knotOf_53 (by decide) ?_
  refine nv_iadd hx hb dX5_knotOf_55 ?_
  refine nv_iald hx hb hK hP 2 rfl (by omega) (by decide) dX5_knotOf_56 ?_
  have bd_5 := hU (((8 * y) + x) + 9)
  refine lv_aload_n hx hb dX5_knotOf_57 rfl (lv_at hl 3 rfl) ?_
  refine va_get (D := D) (ci := 5) (v := .ref m2) (C := RX5) (T := TX5) (N := 16) hx hb hts hinX5 hown hK hP 0 rfl rfl 1 (by decide) lk1 (fun _ h9 => h9) rfl dX5_knotOf_58 ?_
  refine lv_iload_n hx hb dX5_knotOf_61 rfl (lv_at hl 2 rfl) ?_
  refine lv_bipush (v := nI 8) hx hb dX5_knotOf_62 (by decide) ?_
  refine nv_iadd hx hb dX5_knotOf_64 ?_
  refine nv_iald hx hb hK hP 2 rfl (by omega) (by decide) dX5_knotOf_65 ?_
  have bd_6 := hU (((8 * y) + x) + 8)
  refine gcS (As := [.int (nI (U (((8 * y) + x) + 9))), .int (nI (U (((8 * y) + x) + 8)))]) (rest := []) ⟨hx, hb, hml, hown, hts⟩ (c_X5_grows l (U (((8 * y) + x) + 9)) (U (((8 * y) + x) + 8)) (by first | assumption | omega) (by first | assumption | omega)) (va_cwS 2 hts gX5_knotOf_X5_grows rfl rfl rfl (by decide +kernel) ⟨Nat.le_of_ble_eq_true rfl, Nat.le_of_ble_eq_true rfl⟩) hl.1 rfl rfl (Nat.le_of_ble_eq_true rfl) ⟨Nat.zero_le _, Nat.zero_le _⟩ dX5_knotOf_66 ?_
  refine lv_istore (lv' := [(6, .int (gw (U (((8 * y) + x) + 9)) (U (((8 * y) + x) + 8)))), (5, .int (gw (U (((8 * y) + x) + 1)) (U (((8 * y) + x) + 9)))), (4, .int (gw (U ((8 * y) + x)) (U (((8 * y) + x) + 1)))), (3, .int (nI ((8 * y) + x))), (0, .ref m0), (1, .int (nI x)), (2, .int (nI y))]) hx hb dX5_knotOf_69 hl (by decide) rfl (fun ls hl => ?_)
  refine lv_aload_n hx hb dX5_knotOf_71 rfl (lv_at hl 4 rfl) ?_
  refine va_get (D := D) (ci := 5) (v := .ref m2) (C := RX5) (T := TX5) (N := 16) hx hb hts hinX5 hown hK hP 0 rfl rfl 1 (by decide) lk1 (fun _ h9 => h9) rfl dX5_knotOf_72 ?_
  refine lv_iload_n hx hb dX5_knotOf_75 rfl (lv_at hl 3 rfl) ?_
  refine lv_bipush (v := nI 8) hx hb dX5_knotOf_76 (by decide) ?_
  refine nv_iadd hx hb dX5_knotOf_78 ?_
  refine nv_iald hx hb hK hP 2 rfl (by omega) (by decide) dX5_knotOf_79 ?_
  have bd_7 := hU (((8 * y) + x) + 8)
  refine lv_aload_n hx hb dX5_knotOf_80 rfl (lv_at hl 4 rfl) ?_
  refine va_get (D := D) (ci := 5) (v := .ref m2) (C := RX5) (T := TX5) (N := 16) hx hb hts hinX5 hown hK hP 0 rfl rfl 1 (by decide) lk1 (fun _ h9 => h9) rfl dX5_knotOf_81 ?_
  refine lv_iload_n hx hb dX5_knotOf_84 rfl (lv_at hl 3 rfl) ?_
  refine nv_iald hx hb hK hP 2 rfl (by omega) (by decide) dX5_knotOf_85 ?_
  have bd_8 := hU ((8 * y) + x)
  refine gcS (As := [.int (nI (U (((8 * y) + x) + 8))), .int (nI (U ((8 * y) + x)))]) (rest := []) ⟨hx, hb, hml, hown, hts⟩ (c_X5_grows l (U (((8 * y) + x) + 8)) (U ((8 * y) + x)) (by first | assumption | omega) (by first | assumption | omega)) (va_cwS 2 hts gX5_knotOf_X5_grows rfl rfl rfl (by decide +kernel) ⟨Nat.le_of_ble_eq_true rfl, Nat.le_of_ble_eq_true rfl⟩) hl.1 rfl rfl (Nat.le_of_ble_eq_true rfl) ⟨Nat.zero_le _, Nat.zero_le _⟩ dX5_knotOf_86 ?_
  refine lv_istore (lv' := [(7, .int (gw (U (((8 * y) + x) + 8)) (U ((8 * y) + x)))), (6, .int (gw (U (((8 * y) + x) + 9)) (U (((8 * y) + x) + 8)))), (5, .int (gw (U (((8 * y) + x) + 1)) (U (((8 * y) + x) + 9)))), (4, .int (gw (U ((8 * y) + x)) (U (((8 * y) + x) + 1)))), (3, .int (nI ((8 * y) + x))), (0, .ref m0), (1, .int (nI x)), (2, .int (nI y))]) hx hb dX5_knotOf_89 hl (by decide) rfl (fun ls hl => ?_)
  refine lv_iload hx hb dX5_knotOf_91 (lv_at hl 3 rfl) ?_
  refine lv_iconst (v := nI 4) hx hb dX5_knotOf_93 (by decide) ?_
  refine lv_icmp_eq (tgt := 115) hx hb dX5_knotOf_94 (by decide) (fun c_9 => ?_) (fun c_9 => ?_)
  · skip
    refine lv_iconst (v := nI 2) hx hb dX5_knotOf_115 (by decide) ?_
    refine lv_goto (tgt := 133) hx hb dX5_knotOf_116 (by decide) ?_
    exact hret _ () _ _ _ _ dX5_knotOf_133 (by unfold kn; rw [if_pos (Or.inl c_9)]) hP hD hS
  · skip
    refine lv_iload hx hb dX5_knotOf_97 (lv_at hl 2 rfl) ?_
    refine lv_iconst (v := nI 4) hx hb dX5_knotOf_99 (by decide) ?_
    refine lv_icmp_eq (tgt := 115) hx hb dX5_knotOf_100 (by decide) (fun c_10 => ?_) (fun c_10 => ?_)
    · skip
      refine lv_iconst (v := nI 2) hx hb dX5_knotOf_115 (by decide) ?_
      refine lv_goto (tgt := 133) hx hb dX5_knotOf_116 (by decide) ?_
      exact hret _ () _ _ _ _ dX5_knotOf_133 (by unfold kn; rw [if_pos (Or.inr (Or.inl c_10))]) hP hD hS
    · skip
      refine lv_iload hx hb dX5_knotOf_103 (lv_at hl 1 rfl) ?_
      refine lv_iconst (v := nI 4) hx hb dX5_knotOf_105 (by decide) ?_
      refine lv_icmp_eq (tgt := 115) hx hb dX5_knotOf_106 (by decide) (fun c_11 => ?_) (fun c_11 => ?_)
      · skip
        refine lv_iconst (v := nI 2) hx hb dX5_knotOf_115 (by decide) ?_
        refine lv_goto (tgt := 133) hx hb dX5_knotOf_116 (by decide) ?_
        exact hret _ () _ _ _ _ dX5_knotOf_133 (by unfold kn; rw [if_pos (Or.inr (Or.inr (Or.inl c_11)))]) hP hD hS
      · skip
        refine lv_iload hx hb dX5_knotOf_109 (lv_at hl 0 rfl) ?_
        refine lv_iconst (v := nI 4) hx hb dX5_knotOf_111 (by decide) ?_
        refine lv_icmp_ne (tgt := 119) hx hb dX5_knotOf_112 (by decide) (fun c_12 => ?_) (fun c_12 => ?_)
        · skip
          refine lv_iload hx hb dX5_knotOf_119 (lv_at hl 3 rfl) ?_
          refine lv_iload hx hb dX5_knotOf_121 (lv_at hl 2 rfl) ?_
          refine lv_iadd hx hb dX5_knotOf_123 ?_
          refine lv_iload hx hb dX5_knotOf_124 (lv_at hl 1 rfl) ?_
          refine lv_iadd hx hb dX5_knotOf_126 ?_
          refine lv_iload hx hb dX5_knotOf_127 (lv_at hl 0 rfl) ?_
          refine lv_iadd hx hb dX5_knotOf_129 ?_
          refine lv_bipush (v := nI 8) hx hb dX5_knotOf_130 (by decide) ?_
          refine lv_idiv hx hb dX5_knotOf_132 (by decide) ?_
          exact hret _ () _ _ _ _ dX5_knotOf_133 (by unfold kn; rw [if_neg (fun q => by rcases q with q | q | q | q; exact c_9 q; exact c_10 q; exact c_11 q; exact c_12 q)]) hP hD hS
        · skip
          refine lv_iconst (v := nI 2) hx hb dX5_knotOf_115 (by decide) ?_
          refine lv_goto (tgt := 133) hx hb dX5_knotOf_116 (by decide) ?_
          exact hret _ () _ _ _ _ dX5_knotOf_133 (by unfold kn; rw [if_pos (Or.inr (Or.inr (Or.inr (c_12))))]) hP hD hS

set_option maxHeartbeats 4000000 in
set_option maxRecDepth 100000 in
theorem c_X5_knot (l : Launch) (D : va_G) (cI cZ : ClassId) (tt : Nat → Nat) (sz : Nat) (m0 m1 m2 m3 m4 m5 m6 m7 m8 m9 m10 : Nat) (np ai : Nat) (T U B G Wm M F L Z Om Nm : Nat → Nat) (x y : Int32) (hU : ∀ k, U k < 8) : MI l yX5_knot wsX5_knot ({ frames := 2, cells := 0, slots := 0, locals := 49 } : Room) D cI cZ tt [.ref m0, .int (x), .int (y)] [(m0, .inr (5, [.ref m1, .ref m2, .ref m3, .int (nI (G 0)), .int (nI (G 1)), .int (nI (G 2)), .int (nI (G 3)), .ref m4, .ref m5, .int (nI np), .ref m6, .ref m7, .ref m8, .ref m9, .ref m10, .int (nI ai)])), (m1, .inl (cI, 64, .inl (nF T))), (m2, .inl (cI, 64, .inl (nF U))), (m3, .inl (cZ, 64, .inl (nF B))), (m4, .inl (cI, 64, .inl (nF Wm))), (m5, .inl (cI, 64, .inl (nF M))), (m6, .inl (cI, 64, .inl (nF F))), (m7, .inl (cI, 64, .inl (nF L))), (m8, .inl (cI, 64, .inl (nF Z))), (m9, .inl (cI, 64, .inl (nF Om))), (m10, .inl (cI, 64, .inl (nF Nm)))] sz (fun (r : Int32) (_ : Unit) => r = aKnot U x y) (fun (_ : Unit) => [(m0, .inr (5, [.ref m1, .ref m2, .ref m3, .int (nI (G 0)), .int (nI (G 1)), .int (nI (G 2)), .int (nI (G 3)), .ref m4, .ref m5, .int (nI np), .ref m6, .ref m7, .ref m8, .ref m9, .ref m10, .int (nI ai)])), (m1, .inl (cI, 64, .inl (nF T))), (m2, .inl (cI, 64, .inl (nF U))), (m3, .inl (cZ, 64, .inl (nF B))), (m4, .inl (cI, 64, .inl (nF Wm))), (m5, .inl (cI, 64, .inl (nF M))), (m6, .inl (cI, 64, .inl (nF F))), (m7, .inl (cI, 64, .inl (nF L))), (m8, .inl (cI, 64, .inl (nF Z))), (m9, .inl (cI, 64, .inl (nF Om))), (m10, .inl (cI, 64, .inl (nF Nm)))]) := by
  refine entI (cc := cX5_knot) 3 (by decide) rfl (Nat.le_of_ble_eq_true rfl) (Or.inl rfl) (fun pr e s m args below meth c0 A Q H ls hx hb hml hown hts hsz hA hP hK hD hS hG hret hl => ?_)
  have hown : s.vm.findClass RX5 = some m.cls := hown
  have hl : lv_has ls 3 [(0, .ref m0), (1, .int (x)), (2, .int (y))] := hl
  refine lv_iload_n hx hb dX5_knot_0 rfl (lv_at hl 1 rfl) ?_
  refine lv_iconst (v := nI 0) hx hb dX5_knot_1 (by decide) ?_
  refine lv_bipush (v := nI 6) hx hb dX5_knot_2 (by decide) ?_
  refine gcS (As := [.int (x), .int (nI 0), .int (nI 6)]) (rest := []) ⟨hx, hb, hml, hown, hts⟩ (c_X5_in l x (nI 0) (nI 6) ) (va_cwS 3 hts gX5_knot_X5_in rfl rfl rfl (by decide +kernel) ⟨Nat.le_of_ble_eq_true rfl, Nat.le_of_ble_eq_true rfl⟩) hl.1 rfl rfl (Nat.le_of_ble_eq_true rfl) ⟨Nat.zero_le _, Nat.zero_le _⟩ dX5_knot_4 ?_
  refine nv_ifb_eq (tgt := 29) hx hb dX5_knot_7 (by decide) (fun c_1 => ?_) (fun c_1 => ?_)
  · skip
    have nokb : ¬ okb x y := fun q => c_1 ((okb_in x y).mp q).1
    refine lv_bipush (v := (-2)) hx hb dX5_knot_29 (by decide) ?_
    exact hret _ () _ _ _ _ dX5_knot_31 (by unfold aKnot; rw [if_neg nokb]) hP hD hS
  · skip
    refine lv_iload_n hx hb dX5_knot_10 rfl (lv_at hl 2 rfl) ?_
    refine lv_iconst (v := nI 0) hx hb dX5_knot_11 (by decide) ?_
    refine lv_bipush (v := nI 6) hx hb dX5_knot_12 (by decide) ?_
    refine gcS (As := [.int (y), .int (nI 0), .int (nI 6)]) (rest := []) ⟨hx, hb, hml, hown, hts⟩ (c_X5_in l y (nI 0) (nI 6) ) (va_cwS 3 hts gX5_knot_X5_in rfl rfl rfl (by decide +kernel) ⟨Nat.le_of_ble_eq_true rfl, Nat.le_of_ble_eq_true rfl⟩) hl.1 rfl rfl (Nat.le_of_ble_eq_true rfl) ⟨Nat.zero_le _, Nat.zero_le _⟩ dX5_knot_14 ?_
    refine nv_ifb_eq (tgt := 29) hx hb dX5_knot_17 (by decide) (fun c_2 => ?_) (fun c_2 => ?_)
    · skip
      have nokb : ¬ okb x y := fun q => c_2 ((okb_in x y).mp q).2
      refine lv_bipush (v := (-2)) hx hb dX5_knot_29 (by decide) ?_
      exact hret _ () _ _ _ _ dX5_knot_31 (by unfold aKnot; rw [if_neg nokb]) hP hD hS
    · skip
      obtain ⟨a, b, ha8, hb8, rfl, rfl⟩ := okb_nat ((okb_in x y).mpr ⟨c_1, c_2⟩)
      refine lv_aload_n hx hb dX5_knot_20 rfl (lv_at hl 0 rfl) ?_
      refine lv_iload_n hx hb dX5_knot_21 rfl (lv_at hl 1 rfl) ?_
      refine lv_iload_n hx hb dX5_knot_22 rfl (lv_at hl 2 rfl) ?_
      refine gcVi (ws' := fun _ => [(m0, .inr (5, [.ref m1, .ref m2, .ref m3, .int (nI (G 0)), .int (nI (G 1)), .int (nI (G 2)), .int (nI (G 3)), .ref m4, .ref m5, .int (nI np), .ref m6, .ref m7, .ref m8, .ref m9, .ref m10, .int (nI ai)])), (m1, .inl (cI, 64, .inl (nF T))), (m2, .inl (cI, 64, .inl (nF U))), (m3, .inl (cZ, 64, .inl (nF B))), (m4, .inl (cI, 64, .inl (nF Wm))), (m5, .inl (cI, 64, .inl (nF M))), (m6, .inl (cI, 64, .inl (nF F))), (m7, .inl (cI, 64, .inl (nF L))), (m8, .inl (cI, 64, .inl (nF Z))), (m9, .inl (cI, 64, .inl (nF Om))), (m10, .inl (cI, 64, .inl (nF Nm)))]) (wr := []) (ci := 5) (q0 := 0) (As := [.int (nI a), .int (nI b)]) (rest := []) ⟨hx, hb, hml, hown, hts⟩ (c_X5_knotOf l D cI cZ tt H.size m0 m1 m2 m3 m4 m5 m6 m7 m8 m9 m10 np ai T U B G Wm M F L Z Om Nm a b (by first | assumption | omega) (by first | assumption | omega) (by first | assumption | omega)) (cwV 2 hts gX5_knot_X5_knotOf rfl rfl rfl (by decide +kernel) ⟨Nat.le_of_ble_eq_true rfl, Nat.le_of_ble_eq_true rfl⟩) hP hK hD hS hA hG rfl rfl [0, 1, 2, 3, 4, 5, 6, 7, 8, 9, 10] [] [0, 1, 2, 3, 4, 5, 6, 7, 8, 9, 10] (by decide) rfl rfl (by decide) (by decide) (by decide) (fun _ => rfl) hl.1 rfl rfl (Nat.le_of_ble_eq_true rfl) ⟨Nat.zero_le _, Nat.zero_le _⟩ dX5_knot_23 (fun r u H locs hp hP hD hS => ?_)
      obtain rfl := hp
      have hP : va_P D vwCl [(m0, .inr (5, [.ref m1, .ref m2, .ref m3, .int (nI (G 0)), .int (nI (G 1)), .int (nI (G 2)), .int (nI (G 3)), .ref m4, .ref m5, .int (nI np), .ref m6, .ref m7, .ref m8, .ref m9, .ref m10, .int (nI ai)])), (m1, .inl (cI, 64, .inl (nF T))), (m2, .inl (cI, 64, .inl (nF U))), (m3, .inl (cZ, 64, .inl (nF B))), (m4, .inl (cI, 64, .inl (nF Wm))), (m5, .inl (cI, 64, .inl (nF M))), (m6, .inl (cI, 64, .inl (nF F))), (m7, .inl (cI, 64, .inl (nF L))), (m8, .inl (cI, 64, .inl (nF Z))), (m9, .inl (cI, 64, .inl (nF Om))), (m10, .inl (cI, 64, .inl (nF Nm)))] H := hP
      have hD : va_D A [(m0, .inr (5, [.ref m1, .ref m2, .ref m3, .int (nI (G 0)), .int (nI (G 1)), .int (nI (G 2)), .int (nI (G 3)), .ref m4, .ref m5, .int (nI np), .ref m6, .ref m7, .ref m8, .ref m9, .ref m10, .int (nI ai)])), (m1, .inl (cI, 64, .inl (nF T))), (m2, .inl (cI, 64, .inl (nF U))), (m3, .inl (cZ, 64, .inl (nF B))), (m4, .inl (cI, 64, .inl (nF Wm))), (m5, .inl (cI, 64, .inl (nF M))), (m6, .inl (cI, 64, .inl (nF F))), (m7, .inl (cI, 64, .inl (nF L))), (m8, .inl (cI, 64, .inl (nF Z))), (m9, .inl (cI, 64, .inl (nF Om))), (m10, .inl (cI, 64, .inl (nF Nm)))] := hD
      refine lv_goto (tgt := 31) hx hb dX5_knot_26 (by decide) ?_
      exact hret _ () _ _ _ _ dX5_knot_31 (by unfold aKnot; rw [if_pos (okb_of ha8 hb8), ci_n (by omega) (by omega)]) hP hD hS
