set_option maxHeartbeats 4000000 in
set_option maxRecDepth 100000 in
theorem c_X4_tell (l : Launch) (D : va_G) (cI cZ : ClassId) (tt : Nat → Nat) (sz : Nat) (w0 g0 a0 d0 k0 : Nat) (h0 h1 h2 h3 : Nat) (T U B : Nat → Nat) (x y t : Int32)  : MI l yX4_tell wsX4_tell ({ frames := 1, cells := 0, slots := 0, locals := 21 } : Room) D cI cZ tt [.ref w0, .int (x), .int (y), .int (t)] [(w0, .inr (4, [.ref h0, .ref g0, .ref a0, .ref d0, .ref k0])), (h0, .inr (2, [.ref h1, .ref h2, .ref h3])), (h1, .inl (cI, 64, .inl (nF T))), (h2, .inl (cI, 64, .inl (nF U))), (h3, .inl (cZ, 64, .inl (nF B)))] sz (fun (r : Int32) (u : (Nat → Nat) × (Nat → Nat)) => r = aTell U x y t ∧ (u.1 = uTell U x y t) ∧ (u.2 = bTell B x y t)) (fun (u : (Nat → Nat) × (Nat → Nat)) => [(w0, .inr (4, [.ref h0, .ref g0, .ref a0, .ref d0, .ref k0])), (h0, .inr (2, [.ref h1, .ref h2, .ref h3])), (h1, .inl (cI, 64, .inl (nF T))), (h2, .inl (cI, 64, .inl (nF u.1))), (h3, .inl (cZ, 64, .inl (nF u.2)))]) := by
  refine entI (cc := cX4_tell) 6 (by decide) rfl (Nat.le_of_ble_eq_true rfl) (Or.inl rfl) (fun pr e s m args below meth c0 A Q H ls hx hb hml hown hts hsz hA hP hK hD hS hG hret hl => ?_)
  have hown : s.vm.findClass RX4 = some m.cls := hown
  have lk1 := hts (.fieldLink RX4 12 "BurinLines" "plate" "LBurinLines$Plate;") (by decide +kernel)
  have lk2 := hts (.fieldLink RX4 58 "BurinLines$Plate" "turns" "[I") (by decide +kernel)
  have lk3 := hts (.fieldLink RX4 61 "BurinLines$Plate" "told" "[Z") (by decide +kernel)
  have hinX2 : ∀ w ∈ wsX20, w ∈ wsX4_tell := by decide +kernel
  have hinX4 : ∀ w ∈ wsX40, w ∈ wsX4_tell := by decide +kernel
  have hl : lv_has ls 6 [(0, .ref w0), (1, .int (x)), (2, .int (y)), (3, .int (t))] := hl
  refine lv_iload_n hx hb dX4_tell_0 rfl (lv_at hl 1 rfl) ?_
  refine lv_iload_n hx hb dX4_tell_1 rfl (lv_at hl 2 rfl) ?_
  refine gcS (As := [.int (x), .int (y)]) (rest := []) ⟨hx, hb, hml, hown, hts⟩ (c_X4_isCell l x y ) (va_cwS 2 hts gX4_tell_X4_isCell rfl rfl rfl (by decide +kernel) ⟨Nat.le_of_ble_eq_true rfl, Nat.le_of_ble_eq_true rfl⟩) hl.1 rfl rfl (Nat.le_of_ble_eq_true rfl) ⟨Nat.zero_le _, Nat.zero_le _⟩ dX4_tell_2 ?_
  refine nv_ifb_ne (tgt := 11) hx hb dX4_tell_5 (by decide) (fun c_1 => ?_) (fun c_1 => ?_)
  · skip
    obtain ⟨a, b, ha8, hb8, rfl, rfl⟩ := okc_nat c_1
    refine lv_iload_n hx hb dX4_tell_11 rfl (lv_at hl 3 rfl) ?_
    refine lv_if_lt (tgt := 21) hx hb dX4_tell_12 (by decide) (fun c_2 => ?_) (fun c_2 => ?_)
    · skip
      have nokT : ¬ okT t := fun q => q.1 c_2
      refine lv_bipush (v := (-3)) hx hb dX4_tell_21 (by decide) ?_
      exact hret _ (U, B) _ _ _ _ dX4_tell_23 (⟨by unfold aTell; rw [if_pos (okc_of ha8 hb8), if_neg nokT], by unfold uTell; rw [if_neg (fun q => nokT q.2)], by unfold bTell; rw [if_neg (fun q => nokT q.2)]⟩) hP hD hS
    · skip
      refine lv_iload_n hx hb dX4_tell_15 rfl (lv_at hl 3 rfl) ?_
      refine lv_bipush (v := nI 8) hx hb dX4_tell_16 (by decide) ?_
      refine lv_icmp_lt (tgt := 24) hx hb dX4_tell_18 (by decide) (fun c_3 => ?_) (fun c_3 => ?_)
      · skip
        obtain ⟨u, hu8, rfl⟩ := okT_nat ⟨c_2, c_3⟩
        refine lv_iload_n hx hb dX4_tell_24 rfl (lv_at hl 1 rfl) ?_
        refine lv_iload_n hx hb dX4_tell_25 rfl (lv_at hl 2 rfl) ?_
        refine gcS (As := [.int (nI a), .int (nI b)]) (rest := []) ⟨hx, hb, hml, hown, hts⟩ (c_X4_cellOf l a b ) (va_cwS 2 hts gX4_tell_X4_cellOf rfl rfl rfl (by decide +kernel) ⟨Nat.le_of_ble_eq_true rfl, Nat.le_of_ble_eq_true rfl⟩) hl.1 rfl rfl (Nat.le_of_ble_eq_true rfl) ⟨Nat.zero_le _, Nat.zero_le _⟩ dX4_tell_26 ?_
        refine lv_istore (lv' := [(4, .int (nI (8 * b + a))), (0, .ref w0), (1, .int (nI a)), (2, .int (nI b)), (3, .int (nI u))]) hx hb dX4_tell_29 hl (by decide) rfl (fun ls hl => ?_)
        refine lv_aload_n hx hb dX4_tell_31 rfl (lv_at hl 1 rfl) ?_
        refine va_get (D := D) (ci := 4) (v := .ref h0) (C := RX4) (T := TX4) (N := 5) hx hb hts hinX4 hown hK hP 0 rfl rfl 0 (by decide) lk1 (fun _ h9 => h9) rfl dX4_tell_32 ?_
        refine va_get (D := D) (ci := 2) (v := .ref h2) (C := RX2) (T := TX2) (N := 3) hx hb hts hinX2 hown hK hP 1 rfl rfl 1 (by decide) lk2 (fun _ h9 => h9) rfl dX4_tell_35 ?_
        refine lv_iload hx hb dX4_tell_38 (lv_at hl 0 rfl) ?_
        refine nv_iald hx hb hK hP 3 rfl (by omega) (by decide) dX4_tell_40 ?_
        refine lv_istore (lv' := [(5, .int (nI (U (8 * b + a)))), (4, .int (nI (8 * b + a))), (0, .ref w0), (1, .int (nI a)), (2, .int (nI b)), (3, .int (nI u))]) hx hb dX4_tell_41 hl (by decide) rfl (fun ls hl => ?_)
        refine lv_aload_n hx hb dX4_tell_43 rfl (lv_at hl 2 rfl) ?_
        refine va_get (D := D) (ci := 4) (v := .ref h0) (C := RX4) (T := TX4) (N := 5) hx hb hts hinX4 hown hK hP 0 rfl rfl 0 (by decide) lk1 (fun _ h9 => h9) rfl dX4_tell_44 ?_
        refine va_get (D := D) (ci := 2) (v := .ref h2) (C := RX2) (T := TX2) (N := 3) hx hb hts hinX2 hown hK hP 1 rfl rfl 1 (by decide) lk2 (fun _ h9 => h9) rfl dX4_tell_47 ?_
        refine lv_iload hx hb dX4_tell_50 (lv_at hl 1 rfl) ?_
        refine lv_iload_n hx hb dX4_tell_52 rfl (lv_at hl 5 rfl) ?_
        refine nv_iast hx hb hK hP hD hS 3 rfl (by omega) (by decide) dX4_tell_53 (fun H locs hP hD hS => ?_)
        have hP : va_P D vwCl [(w0, .inr (4, [.ref h0, .ref g0, .ref a0, .ref d0, .ref k0])), (h0, .inr (2, [.ref h1, .ref h2, .ref h3])), (h1, .inl (cI, 64, .inl (nF T))), (h2, .inl (cI, 64, .inl (nF (va_up U (8 * b + a) u)))), (h3, .inl (cZ, 64, .inl (nF B)))] H := hP
        have hD : va_D A [(w0, .inr (4, [.ref h0, .ref g0, .ref a0, .ref d0, .ref k0])), (h0, .inr (2, [.ref h1, .ref h2, .ref h3])), (h1, .inl (cI, 64, .inl (nF T))), (h2, .inl (cI, 64, .inl (nF (va_up U (8 * b + a) u)))), (h3, .inl (cZ, 64, .inl (nF B)))] := hD
        refine lv_aload_n hx hb dX4_tell_54 rfl (lv_at hl 2 rfl) ?_
        refine va_get (D := D) (ci := 4) (v := .ref h0) (C := RX4) (T := TX4) (N := 5) hx hb hts hinX4 hown hK hP 0 rfl rfl 0 (by decide) lk1 (fun _ h9 => h9) rfl dX4_tell_55 ?_
        refine va_get (D := D) (ci := 2) (v := .ref h3) (C := RX2) (T := TX2) (N := 3) hx hb hts hinX2 hown hK hP 1 rfl rfl 2 (by decide) lk3 (fun _ h9 => h9) rfl dX4_tell_58 ?_
        refine lv_iload hx hb dX4_tell_61 (lv_at hl 1 rfl) ?_
        refine lv_iconst (v := nI 1) hx hb dX4_tell_63 (by decide) ?_
        refine nv_zast hx hb hK hP hD hS 4 rfl (by omega) (by decide) (by omega) dX4_tell_64 (fun H locs hP hD hS => ?_)
        have hP : va_P D vwCl [(w0, .inr (4, [.ref h0, .ref g0, .ref a0, .ref d0, .ref k0])), (h0, .inr (2, [.ref h1, .ref h2, .ref h3])), (h1, .inl (cI, 64, .inl (nF T))), (h2, .inl (cI, 64, .inl (nF (va_up U (8 * b + a) u)))), (h3, .inl (cZ, 64, .inl (nF (va_up B (8 * b + a) 1))))] H := hP
        have hD : va_D A [(w0, .inr (4, [.ref h0, .ref g0, .ref a0, .ref d0, .ref k0])), (h0, .inr (2, [.ref h1, .ref h2, .ref h3])), (h1, .inl (cI, 64, .inl (nF T))), (h2, .inl (cI, 64, .inl (nF (va_up U (8 * b + a) u)))), (h3, .inl (cZ, 64, .inl (nF (va_up B (8 * b + a) 1))))] := hD
        refine lv_iload hx hb dX4_tell_65 (lv_at hl 0 rfl) ?_
        exact hret _ (va_up U (8 * b + a) u, va_up B (8 * b + a) 1) _ _ _ _ dX4_tell_67 (⟨by unfold aTell; rw [if_pos (okc_of ha8 hb8), if_pos (okT_of hu8), ci_n ha8 hb8], by unfold uTell; rw [if_pos ⟨okc_of ha8 hb8, okT_of hu8⟩, ci_n ha8 hb8, cl_n (by omega)], by unfold bTell; rw [if_pos ⟨okc_of ha8 hb8, okT_of hu8⟩, ci_n ha8 hb8]⟩) hP hD hS
      · skip
        have nokT : ¬ okT t := fun q => c_3 q.2
        refine lv_bipush (v := (-3)) hx hb dX4_tell_21 (by decide) ?_
        exact hret _ (U, B) _ _ _ _ dX4_tell_23 (⟨by unfold aTell; rw [if_pos (okc_of ha8 hb8), if_neg nokT], by unfold uTell; rw [if_neg (fun q => nokT q.2)], by unfold bTell; rw [if_neg (fun q => nokT q.2)]⟩) hP hD hS
  · skip
    have nokc := c_1
    refine lv_bipush (v := (-2)) hx hb dX4_tell_8 (by decide) ?_
    exact hret _ (U, B) _ _ _ _ dX4_tell_10 (⟨by unfold aTell; rw [if_neg nokc], by unfold uTell; rw [if_neg (fun q => nokc q.1)], by unfold bTell; rw [if_neg (fun q => nokc q.1)]⟩) hP hD hS

set_option maxHeartbeats 4000000 in
set_option maxRecDepth 100000 in
theorem c_X4_free (l : Launch) (D : va_G) (cI cZ : ClassId) (tt : Nat → Nat) (sz : Nat) (w0 g0 a0 d0 k0 : Nat) (h0 h1 h2 h3 : Nat) (T U B : Nat → Nat) (x y : Int32) (hB : ∀ k, B k < 2) : MI l yX4_free wsX4_free ({ frames := 1, cells := 0, slots := 0, locals := 21 } : Room) D cI cZ tt [.ref w0, .int (x), .int (y)] [(w0, .inr (4, [.ref h0, .ref g0, .ref a0, .ref d0, .ref k0])), (h0, .inr (2, [.ref h1, .ref h2, .ref h3])), (h1, .inl (cI, 64, .inl (nF T))), (h2, .inl (cI, 64, .inl (nF U))), (h3, .inl (cZ, 64, .inl (nF B)))] sz (fun (r : Int32) (u : (Nat → Nat)) => r = aFree B x y ∧ (u = bFree B x y)) (fun (u : (Nat → Nat)) => [(w0, .inr (4, [.ref h0, .ref g0, .ref a0, .ref d0, .ref k0])), (h0, .inr (2, [.ref h1, .ref h2, .ref h3])), (h1, .inl (cI, 64, .inl (nF T))), (h2, .inl (cI, 64, .inl (nF U))), (h3, .inl (cZ, 64, .inl (nF u)))]) := by
  refine entI (cc := cX4_free) 4 (by decide) rfl (Nat.le_of_ble_eq_true rfl) (Or.inl rfl) (fun pr e s m args below meth c0 A Q H ls hx hb hml hown hts hsz hA hP hK hD hS hG hret hl => ?_)
  have hown : s.vm.findClass RX4 = some m.cls := hown
  have lk1 := hts (.fieldLink RX4 12 "BurinLines" "plate" "LBurinLines$Plate;") (by decide +kernel)
  have lk2 := hts (.fieldLink RX4 61 "BurinLines$Plate" "told" "[Z") (by decide +kernel)
  have hinX2 : ∀ w ∈ wsX20, w ∈ wsX4_free := by decide +kernel
  have hinX4 : ∀ w ∈ wsX40, w ∈ wsX4_free := by decide +kernel
  have hl : lv_has ls 4 [(0, .ref w0), (1, .int (x)), (2, .int (y))] := hl
  refine lv_iload_n hx hb dX4_free_0 rfl (lv_at hl 1 rfl) ?_
  refine lv_iload_n hx hb dX4_free_1 rfl (lv_at hl 2 rfl) ?_
  refine gcS (As := [.int (x), .int (y)]) (rest := []) ⟨hx, hb, hml, hown, hts⟩ (c_X4_isCell l x y ) (va_cwS 2 hts gX4_free_X4_isCell rfl rfl rfl (by decide +kernel) ⟨Nat.le_of_ble_eq_true rfl, Nat.le_of_ble_eq_true rfl⟩) hl.1 rfl rfl (Nat.le_of_ble_eq_true rfl) ⟨Nat.zero_le _, Nat.zero_le _⟩ dX4_free_2 ?_
  refine nv_ifb_ne (tgt := 11) hx hb dX4_free_5 (by decide) (fun c_1 => ?_) (fun c_1 => ?_)
  · skip
    obtain ⟨a, b, ha8, hb8, rfl, rfl⟩ := okc_nat c_1
    refine lv_iload_n hx hb dX4_free_11 rfl (lv_at hl 1 rfl) ?_
    refine lv_iload_n hx hb dX4_free_12 rfl (lv_at hl 2 rfl) ?_
    refine gcS (As := [.int (nI a), .int (nI b)]) (rest := []) ⟨hx, hb, hml, hown, hts⟩ (c_X4_cellOf l a b ) (va_cwS 2 hts gX4_free_X4_cellOf rfl rfl rfl (by decide +kernel) ⟨Nat.le_of_ble_eq_true rfl, Nat.le_of_ble_eq_true rfl⟩) hl.1 rfl rfl (Nat.le_of_ble_eq_true rfl) ⟨Nat.zero_le _, Nat.zero_le _⟩ dX4_free_13 ?_
    refine lv_istore_n (lv' := [(3, .int (nI (8 * b + a))), (0, .ref w0), (1, .int (nI a)), (2, .int (nI b))]) hx hb dX4_free_16 rfl hl (by decide) rfl (fun ls hl => ?_)
    refine lv_aload_n hx hb dX4_free_17 rfl (lv_at hl 1 rfl) ?_
    refine va_get (D := D) (ci := 4) (v := .ref h0) (C := RX4) (T := TX4) (N := 5) hx hb hts hinX4 hown hK hP 0 rfl rfl 0 (by decide) lk1 (fun _ h9 => h9) rfl dX4_free_18 ?_
    refine va_get (D := D) (ci := 2) (v := .ref h3) (C := RX2) (T := TX2) (N := 3) hx hb hts hinX2 hown hK hP 1 rfl rfl 2 (by decide) lk2 (fun _ h9 => h9) rfl dX4_free_21 ?_
    refine lv_iload_n hx hb dX4_free_24 rfl (lv_at hl 0 rfl) ?_
    refine nv_zald hx hb hK hP 4 rfl (by omega) (by decide) dX4_free_25 ?_
    have bd_2 := hB (8 * b + a)
    refine nv_if_ne (tgt := 32) hx hb dX4_free_26 (by decide) (by omega) (fun c_3 => ?_) (fun c_3 => ?_)
    · skip
      have hz := c_3
      refine lv_aload_n hx hb dX4_free_32 rfl (lv_at hl 1 rfl) ?_
      refine va_get (D := D) (ci := 4) (v := .ref h0) (C := RX4) (T := TX4) (N := 5) hx hb hts hinX4 hown hK hP 0 rfl rfl 0 (by decide) lk1 (fun _ h9 => h9) rfl dX4_free_33 ?_
      refine va_get (D := D) (ci := 2) (v := .ref h3) (C := RX2) (T := TX2) (N := 3) hx hb hts hinX2 hown hK hP 1 rfl rfl 2 (by decide) lk2 (fun _ h9 => h9) rfl dX4_free_36 ?_
      refine lv_iload_n hx hb dX4_free_39 rfl (lv_at hl 0 rfl) ?_
      refine lv_iconst (v := nI 0) hx hb dX4_free_40 (by decide) ?_
      refine nv_zast hx hb hK hP hD hS 4 rfl (by omega) (by decide) (by omega) dX4_free_41 (fun H locs hP hD hS => ?_)
      have hP : va_P D vwCl [(w0, .inr (4, [.ref h0, .ref g0, .ref a0, .ref d0, .ref k0])), (h0, .inr (2, [.ref h1, .ref h2, .ref h3])), (h1, .inl (cI, 64, .inl (nF T))), (h2, .inl (cI, 64, .inl (nF U))), (h3, .inl (cZ, 64, .inl (nF (va_up B (8 * b + a) 0))))] H := hP
      have hD : va_D A [(w0, .inr (4, [.ref h0, .ref g0, .ref a0, .ref d0, .ref k0])), (h0, .inr (2, [.ref h1, .ref h2, .ref h3])), (h1, .inl (cI, 64, .inl (nF T))), (h2, .inl (cI, 64, .inl (nF U))), (h3, .inl (cZ, 64, .inl (nF (va_up B (8 * b + a) 0))))] := hD
      refine lv_iconst (v := nI 1) hx hb dX4_free_42 (by decide) ?_
      exact hret _ _ _ _ _ _ dX4_free_43 (⟨by unfold aFree; rw [if_pos (okc_of ha8 hb8), ci_n ha8 hb8, if_neg hz], by unfold bFree; rw [if_pos (okc_of ha8 hb8), ci_n ha8 hb8]⟩) hP hD hS
    · skip
      have hz := c_3
      refine lv_bipush (v := (-4)) hx hb dX4_free_29 (by decide) ?_
      exact hret _ B _ _ _ _ dX4_free_31 (⟨by unfold aFree; rw [if_pos (okc_of ha8 hb8), ci_n ha8 hb8, if_pos hz], by unfold bFree; rw [if_pos (okc_of ha8 hb8), ci_n ha8 hb8, up_same hz]⟩) hP hD hS
  · skip
    have nokc := c_1
    refine lv_bipush (v := (-2)) hx hb dX4_free_8 (by decide) ?_
    exact hret _ B _ _ _ _ dX4_free_10 (⟨by unfold aFree; rw [if_neg nokc], by unfold bFree; rw [if_neg nokc]⟩) hP hD hS

set_option maxHeartbeats 4000000 in
set_option maxRecDepth 100000 in
theorem c_X4_even (l : Launch) (D : va_G) (cI cZ : ClassId) (tt : Nat → Nat) (sz : Nat) (w0 g0 a0 d0 k0 : Nat) (h0 h1 h2 h3 : Nat) (T U B : Nat → Nat) (hU : ∀ k, U k < 8) (hB : ∀ k, B k < 2) : MI l yX4_even wsX4_even ({ frames := 6, cells := 0, slots := 0, locals := 139 } : Room) D cI cZ tt [.ref w0] [(w0, .inr (4, [.ref h0, .ref g0, .ref a0, .ref d0, .ref k0])), (h0, .inr (2, [.ref h1, .ref h2, .ref h3])), (h1, .inl (cI, 64, .inl (nF T))), (h2, .inl (cI, 64, .inl (nF U))), (h3, .inl (cZ, 64, .inl (nF B)))] sz (fun (r : Int32) (_ : Unit) => r = nI (evN B U 20 0)) (fun (_ : Unit) => [(w0, .inr (4, [.ref h0, .ref g0, .ref a0, .ref d0, .ref k0])), (h0, .inr (2, [.ref h1, .ref h2, .ref h3])), (h1, .inl (cI, 64, .inl (nF T))), (h2, .inl (cI, 64, .inl (nF (it B U (evN B U 20 0))))), (h3, .inl (cZ, 64, .inl (nF B)))]) := by
  refine entI (cc := cX4_even) 1 (by decide) rfl (Nat.le_of_ble_eq_true rfl) (Or.inl rfl) (fun pr e s m args below meth c0 A Q H ls hx hb hml hown hts hsz hA hP hK hD hS hG hret hl => ?_)
  have hown : s.vm.findClass RX4 = some m.cls := hown
  have lk1 := hts (.fieldLink RX4 12 "BurinLines" "plate" "LBurinLines$Plate;") (by decide +kernel)
  have hinX4 : ∀ w ∈ wsX40, w ∈ wsX4_even := by decide +kernel
  have hl : lv_has ls 1 [(0, .ref w0)] := hl
  refine lv_aload_n hx hb dX4_even_0 rfl (lv_at hl 0 rfl) ?_
  refine va_get (D := D) (ci := 4) (v := .ref h0) (C := RX4) (T := TX4) (N := 5) hx hb hts hinX4 hown hK hP 0 rfl rfl 0 (by decide) lk1 (fun _ h9 => h9) rfl dX4_even_1 ?_
  refine gcVi (ws' := fun _ => [(w0, .inr (4, [.ref h0, .ref g0, .ref a0, .ref d0, .ref k0])), (h0, .inr (2, [.ref h1, .ref h2, .ref h3])), (h1, .inl (cI, 64, .inl (nF T))), (h2, .inl (cI, 64, .inl (nF (it B U (evN B U 20 0))))), (h3, .inl (cZ, 64, .inl (nF B)))]) (wr := [(w0, .inr (4, [.ref h0, .ref g0, .ref a0, .ref d0, .ref k0]))]) (ci := 2) (q0 := 0) (As := []) (rest := []) ⟨hx, hb, hml, hown, hts⟩ (c_X2_smooth l D cI cZ tt H.size h0 h1 h2 h3 T U B (by first | assumption | omega) (by first | assumption | omega)) (cwV 0 hts gX4_even_X2_smooth rfl rfl rfl (by decide +kernel) ⟨Nat.le_of_ble_eq_true rfl, Nat.le_of_ble_eq_true rfl⟩) hP hK hD hS hA hG rfl rfl [1, 2, 3, 4] [0] [0, 1, 2, 3, 4] (by decide) rfl rfl (by decide) (by decide) (by decide) (fun _ => rfl) hl.1 rfl rfl (Nat.le_of_ble_eq_true rfl) ⟨Nat.zero_le _, Nat.zero_le _⟩ dX4_even_4 (fun r u H locs hp hP hD hS => ?_)
  obtain rfl := hp
  have hP : va_P D vwCl [(w0, .inr (4, [.ref h0, .ref g0, .ref a0, .ref d0, .ref k0])), (h0, .inr (2, [.ref h1, .ref h2, .ref h3])), (h1, .inl (cI, 64, .inl (nF T))), (h2, .inl (cI, 64, .inl (nF (it B U (evN B U 20 0))))), (h3, .inl (cZ, 64, .inl (nF B)))] H := hP
  have hD : va_D A [(w0, .inr (4, [.ref h0, .ref g0, .ref a0, .ref d0, .ref k0])), (h0, .inr (2, [.ref h1, .ref h2, .ref h3])), (h1, .inl (cI, 64, .inl (nF T))), (h2, .inl (cI, 64, .inl (nF (it B U (evN B U 20 0))))), (h3, .inl (cZ, 64, .inl (nF B)))] := hD
  exact hret _ () _ _ _ _ dX4_even_7 (rfl) hP hD hS

set_option maxHeartbeats 4000000 in
set_option maxRecDepth 100000 in
theorem c_X4_at (l : Launch) (D : va_G) (cI cZ : ClassId) (tt : Nat → Nat) (sz : Nat) (w0 g0 a0 d0 k0 : Nat) (h0 h1 h2 h3 : Nat) (T U B : Nat → Nat) (x y what : Int32) (hB : ∀ k, B k < 2) : MI l yX4_at wsX4_at ({ frames := 1, cells := 0, slots := 0, locals := 21 } : Room) D cI cZ tt [.ref w0, .int (x), .int (y), .int (what)] [(w0, .inr (4, [.ref h0, .ref g0, .ref a0, .ref d0, .ref k0])), (h0, .inr (2, [.ref h1, .ref h2, .ref h3])), (h1, .inl (cI, 64, .inl (nF T))), (h2, .inl (cI, 64, .inl (nF U))), (h3, .inl (cZ, 64, .inl (nF B)))] sz (fun (r : Int32) (_ : Unit) => r = aAt T U B x y what) (fun (_ : Unit) => [(w0, .inr (4, [.ref h0, .ref g0, .ref a0, .ref d0, .ref k0])), (h0, .inr (2, [.ref h1, .ref h2, .ref h3])), (h1, .inl (cI, 64, .inl (nF T))), (h2, .inl (cI, 64, .inl (nF U))), (h3, .inl (cZ, 64, .inl (nF B)))]) := by
  refine entI (cc := cX4_at) 5 (by decide) rfl (Nat.le_of_ble_eq_true rfl) (Or.inl rfl) (fun pr e s m args below meth c0 A Q H ls hx hb hml hown hts hsz hA hP hK hD hS hG hret hl => ?_)
  have hown : s.vm.findClass RX4 = some m.cls := hown
  have lk1 := hts (.fieldLink RX4 12 "BurinLines" "plate" "LBurinLines$Plate;") (by decide +kernel)
  have lk2 := hts (.fieldLink RX4 54 "BurinLines$Plate" "tones" "[I") (by decide +kernel)
  have lk3 := hts (.fieldLink RX4 58 "BurinLines$Plate" "turns" "[I") (by decide +kernel)
  have lk4 := hts (.fieldLink RX4 61 "BurinLines$Plate" "told" "[Z") (by decide +kernel)
  have hinX2 : ∀ w ∈ wsX20, w ∈ wsX4_at := by decide +kernel
  have hinX4 : ∀ w ∈ wsX40, w ∈ wsX4_at := by decide +kernel
  have hl : lv_has ls 5 [(0, .ref w0), (1, .int (x)), (2, .int (y)), (3, .int (what))] := hl
  refine lv_iload_n hx hb dX4_at_0 rfl (lv_at hl 1 rfl) ?_
  refine lv_iload_n hx hb dX4_at_1 rfl (lv_at hl 2 rfl) ?_
  refine gcS (As := [.int (x), .int (y)]) (rest := []) ⟨hx, hb, hml, hown, hts⟩ (c_X4_isCell l x y ) (va_cwS 2 hts gX4_at_X4_isCell rfl rfl rfl (by decide +kernel) ⟨Nat.le_of_ble_eq_true rfl, Nat.le_of_ble_eq_true rfl⟩) hl.1 rfl rfl (Nat.le_of_ble_eq_true rfl) ⟨Nat.zero_le _, Nat.zero_le _⟩ dX4_at_2 ?_
  refine nv_ifb_ne (tgt := 11) hx hb dX4_at_5 (by decide) (fun c_1 => ?_) (fun c_1 => ?_)
  · skip
    obtain ⟨a, b, ha8, hb8, rfl, rfl⟩ := okc_nat c_1
    refine lv_iload_n hx hb dX4_at_11 rfl (lv_at hl 1 rfl) ?_
    refine lv_iload_n hx hb dX4_at_12 rfl (lv_at hl 2 rfl) ?_
    refine gcS (As := [.int (nI a), .int (nI b)]) (rest := []) ⟨hx, hb, hml, hown, hts⟩ (c_X4_cellOf l a b ) (va_cwS 2 hts gX4_at_X4_cellOf rfl rfl rfl (by decide +kernel) ⟨Nat.le_of_ble_eq_true rfl, Nat.le_of_ble_eq_true rfl⟩) hl.1 rfl rfl (Nat.le_of_ble_eq_true rfl) ⟨Nat.zero_le _, Nat.zero_le _⟩ dX4_at_13 ?_
    refine lv_istore (lv' := [(4, .int (nI (8 * b + a))), (0, .ref w0), (1, .int (nI a)), (2, .int (nI b)), (3, .int (what))]) hx hb dX4_at_16 hl (by decide) rfl (fun ls hl => ?_)
    refine lv_iload_n hx hb dX4_at_18 rfl (lv_at hl 4 rfl) ?_
    by_cases sw_2 : what = nI 0
    · skip
      refine top_eq sw_2 ?_
      refine lv_tableIn (tgt := 44) (off := 25) hx hb dX4_at_19 (by decide) (by decide) (by rfl) (by decide) ?_
      refine lv_aload_n hx hb dX4_at_44 rfl (lv_at hl 1 rfl) ?_
      refine va_get (D := D) (ci := 4) (v := .ref h0) (C := RX4) (T := TX4) (N := 5) hx hb hts hinX4 hown hK hP 0 rfl rfl 0 (by decide) lk1 (fun _ h9 => h9) rfl dX4_at_45 ?_
      refine va_get (D := D) (ci := 2) (v := .ref h1) (C := RX2) (T := TX2) (N := 3) hx hb hts hinX2 hown hK hP 1 rfl rfl 0 (by decide) lk2 (fun _ h9 => h9) rfl dX4_at_48 ?_
      refine lv_iload hx hb dX4_at_51 (lv_at hl 0 rfl) ?_
      refine nv_iald hx hb hK hP 2 rfl (by omega) (by decide) dX4_at_53 ?_
      exact hret _ () _ _ _ _ dX4_at_54 (by unfold aAt; rw [if_pos (okc_of ha8 hb8), ci_n ha8 hb8, if_pos sw_2]) hP hD hS
    by_cases sw_3 : what = nI 1
    · skip
      refine top_eq sw_3 ?_
      refine lv_tableIn (tgt := 55) (off := 36) hx hb dX4_at_19 (by decide) (by decide) (by rfl) (by decide) ?_
      refine lv_aload_n hx hb dX4_at_55 rfl (lv_at hl 1 rfl) ?_
      refine va_get (D := D) (ci := 4) (v := .ref h0) (C := RX4) (T := TX4) (N := 5) hx hb hts hinX4 hown hK hP 0 rfl rfl 0 (by decide) lk1 (fun _ h9 => h9) rfl dX4_at_56 ?_
      refine va_get (D := D) (ci := 2) (v := .ref h2) (C := RX2) (T := TX2) (N := 3) hx hb hts hinX2 hown hK hP 1 rfl rfl 1 (by decide) lk3 (fun _ h9 => h9) rfl dX4_at_59 ?_
      refine lv_iload hx hb dX4_at_62 (lv_at hl 0 rfl) ?_
      refine nv_iald hx hb hK hP 3 rfl (by omega) (by decide) dX4_at_64 ?_
      exact hret _ () _ _ _ _ dX4_at_65 (by unfold aAt; rw [if_pos (okc_of ha8 hb8), ci_n ha8 hb8, if_neg (by rw [sw_3]; decide), if_pos sw_3]) hP hD hS
    by_cases sw_4 : what = nI 2
    · skip
      refine top_eq sw_4 ?_
      refine lv_tableIn (tgt := 66) (off := 47) hx hb dX4_at_19 (by decide) (by decide) (by rfl) (by decide) ?_
      refine lv_aload_n hx hb dX4_at_66 rfl (lv_at hl 1 rfl) ?_
      refine va_get (D := D) (ci := 4) (v := .ref h0) (C := RX4) (T := TX4) (N := 5) hx hb hts hinX4 hown hK hP 0 rfl rfl 0 (by decide) lk1 (fun _ h9 => h9) rfl dX4_at_67 ?_
      refine va_get (D := D) (ci := 2) (v := .ref h3) (C := RX2) (T := TX2) (N := 3) hx hb hts hinX2 hown hK hP 1 rfl rfl 2 (by decide) lk4 (fun _ h9 => h9) rfl dX4_at_70 ?_
      refine lv_iload hx hb dX4_at_73 (lv_at hl 0 rfl) ?_
      refine nv_zald hx hb hK hP 4 rfl (by omega) (by decide) dX4_at_75 ?_
      have bd_5 := hB (8 * b + a)
      refine nv_if_eq (tgt := 83) hx hb dX4_at_76 (by decide) (by omega) (fun c_6 => ?_) (fun c_6 => ?_)
      · skip
        refine lv_iconst (v := nI 0) hx hb dX4_at_83 (by decide) ?_
        exact hret _ () _ _ _ _ dX4_at_84 (by unfold aAt; rw [if_pos (okc_of ha8 hb8), ci_n ha8 hb8, if_neg (by rw [sw_4]; decide), if_neg (by rw [sw_4]; decide), if_pos sw_4, if_pos c_6]) hP hD hS
      · skip
        refine lv_iconst (v := nI 1) hx hb dX4_at_79 (by decide) ?_
        refine lv_goto (tgt := 84) hx hb dX4_at_80 (by decide) ?_
        exact hret _ () _ _ _ _ dX4_at_84 (by unfold aAt; rw [if_pos (okc_of ha8 hb8), ci_n ha8 hb8, if_neg (by rw [sw_4]; decide), if_neg (by rw [sw_4]; decide), if_pos sw_4, if_neg c_6]) hP hD hS
    have sw_2T := ne_toInt (k := 0) sw_2 (by decide)
    have sw_3T := ne_toInt (k := 1) sw_3 (by decide)
    have sw_4T := ne_toInt (k := 2) sw_4 (by decide)
    refine lv_tableOut (tgt := 85) hx hb dX4_at_19 (by omega) (by decide) ?_
    refine lv_bipush (v := (-3)) hx hb dX4_at_85 (by decide) ?_
    exact hret _ () _ _ _ _ dX4_at_87 (by unfold aAt; rw [if_pos (okc_of ha8 hb8), ci_n ha8 hb8, if_neg sw_2, if_neg sw_3, if_neg sw_4]) hP hD hS
  · skip
    have nokc := c_1
    refine lv_bipush (v := (-2)) hx hb dX4_at_8 (by decide) ?_
    exact hret _ () _ _ _ _ dX4_at_10 (by unfold aAt; rw [if_neg nokc]) hP hD hS

set_option maxHeartbeats 4000000 in
set_option maxRecDepth 100000 in
theorem c_X4_knot (l : Launch) (D : va_G) (cI cZ : ClassId) (tt : Nat → Nat) (sz : Nat) (w0 g0 a0 d0 k0 : Nat) (h0 h1 h2 h3 : Nat) (T U B : Nat → Nat) (x y : Int32) (hU : ∀ k, U k < 8) : MI l yX4_knot wsX4_knot ({ frames := 3, cells := 0, slots := 0, locals := 75 } : Room) D cI cZ tt [.ref w0, .int (x), .int (y)] [(w0, .inr (4, [.ref h0, .ref g0, .ref a0, .ref d0, .ref k0])), (h0, .inr (2, [.ref h1, .ref h2, .ref h3])), (h1, .inl (cI, 64, .inl (nF T))), (h2, .inl (cI, 64, .inl (nF U))), (h3, .inl (cZ, 64, .inl (nF B)))] sz (fun (r : Int32) (_ : Unit) => r = aKnot U x y) (fun (_ : Unit) => [(w0, .inr (4, [.ref h0, .ref g0, .ref a0, .ref d0, .ref k0])), (h0, .inr (2, [.ref h1, .ref h2, .ref h3])), (h1, .inl (cI, 64, .inl (nF T))), (h2, .inl (cI, 64, .inl (nF U))), (h3, .inl (cZ, 64, .inl (nF B)))]) := by
  refine entI (cc := cX4_knot) 3 (by decide) rfl (Nat.le_of_ble_eq_true rfl) (Or.inl rfl) (fun pr e s m args below meth c0 A Q H ls hx hb hml hown hts hsz hA hP hK hD hS hG hret hl => ?_)
  have hown : s.vm.findClass RX4 = some m.cls := hown
  have lk1 := hts (.fieldLink RX4 12 "BurinLines" "plate" "LBurinLines$Plate;") (by decide +kernel)
  have hinX4 : ∀ w ∈ wsX40, w ∈ wsX4_knot := by decide +kernel
  have hl : lv_has ls 3 [(0, .ref w0), (1, .int (x)), (2, .int (y))] := hl
  refine lv_iload_n hx hb dX4_knot_0 rfl (lv_at hl 1 rfl) ?_
  refine lv_iload_n hx hb dX4_knot_1 rfl (lv_at hl 2 rfl) ?_
  refine gcS (As := [.int (x), .int (y)]) (rest := []) ⟨hx, hb, hml, hown, hts⟩ (c_X4_isBlock l x y ) (va_cwS 2 hts gX4_knot_X4_isBlock rfl rfl rfl (by decide +kernel) ⟨Nat.le_of_ble_eq_true rfl, Nat.le_of_ble_eq_true rfl⟩) hl.1 rfl rfl (Nat.le_of_ble_eq_true rfl) ⟨Nat.zero_le _, Nat.zero_le _⟩ dX4_knot_2 ?_
  refine nv_ifb_eq (tgt := 20) hx hb dX4_knot_5 (by decide) (fun c_1 => ?_) (fun c_1 => ?_)
  · skip
    have nokb := c_1
    refine lv_bipush (v := (-2)) hx hb dX4_knot_20 (by decide) ?_
    exact hret _ () _ _ _ _ dX4_knot_22 (by unfold aKnot; rw [if_neg nokb]) hP hD hS
  · skip
    obtain ⟨a, b, ha8, hb8, rfl, rfl⟩ := okb_nat c_1
    refine lv_aload_n hx hb dX4_knot_8 rfl (lv_at hl 0 rfl) ?_
    refine va_get (D := D) (ci := 4) (v := .ref h0) (C := RX4) (T := TX4) (N := 5) hx hb hts hinX4 hown hK hP 0 rfl rfl 0 (by decide) lk1 (fun _ h9 => h9) rfl dX4_knot_9 ?_
    refine lv_iload_n hx hb dX4_knot_12 rfl (lv_at hl 1 rfl) ?_
    refine lv_iload_n hx hb dX4_knot_13 rfl (lv_at hl 2 rfl) ?_
    refine gcVi (ws' := fun _ => [(w0, .inr (4, [.ref h0, .ref g0, .ref a0, .ref d0, .ref k0])), (h0, .inr (2, [.ref h1, .ref h2, .ref h3])), (h1, .inl (cI, 64, .inl (nF T))), (h2, .inl (cI, 64, .inl (nF U))), (h3, .inl (cZ, 64, .inl (nF B)))]) (wr := [(w0, .inr (4, [.ref h0, .ref g0, .ref a0, .ref d0, .ref k0]))]) (ci := 2) (q0 := 0) (As := [.int (nI a), .int (nI b)]) (rest := []) ⟨hx, hb, hml, hown, hts⟩ (c_X2_knotOf l D cI cZ tt H.size h0 h1 h2 h3 T U B a b (by first | assumption | omega) (by first | assumption | omega) (by first | assumption | omega)) (cwV 2 hts gX4_knot_X2_knotOf rfl rfl rfl (by decide +kernel) ⟨Nat.le_of_ble_eq_true rfl, Nat.le_of_ble_eq_true rfl⟩) hP hK hD hS hA hG rfl rfl [1, 2, 3, 4] [0] [0, 1, 2, 3, 4] (by decide) rfl rfl (by decide) (by decide) (by decide) (fun _ => rfl) hl.1 rfl rfl (Nat.le_of_ble_eq_true rfl) ⟨Nat.zero_le _, Nat.zero_le _⟩ dX4_knot_14 (fun r u H locs hp hP hD hS => ?_)
    obtain rfl := hp
    have hP : va_P D vwCl [(w0, .inr (4, [.ref h0, .ref g0, .ref a0, .ref d0, .ref k0])), (h0, .inr (2, [.ref h1, .ref h2, .ref h3])), (h1, .inl (cI, 64, .inl (nF T))), (h2, .inl (cI, 64, .inl (nF U))), (h3, .inl (cZ, 64, .inl (nF B)))] H := hP
    have hD : va_D A [(w0, .inr (4, [.ref h0, .ref g0, .ref a0, .ref d0, .ref k0])), (h0, .inr (2, [.ref h1, .ref h2, .ref h3])), (h1, .inl (cI, 64, .inl (nF T))), (h2, .inl (cI, 64, .inl (nF U))), (h3, .inl (cZ, 64, .inl (nF B)))] := hD
    refine lv_goto (tgt := 22) hx hb dX4_knot_17 (by decide) ?_
    exact hret _ () _ _ _ _ dX4_knot_22 (by unfold aKnot; rw [if_pos (okb_of ha8 hb8), ci_n (by omega) (by omega)]) hP hD hS

set_option maxHeartbeats 4000000 in
set_option maxRecDepth 100000 in
theorem c_X4_set (l : Launch) (D : va_G) (cI cZ : ClassId) (tt : Nat → Nat) (sz : Nat) (w0 h0 a0 d0 k0 : Nat) (g0 g1 : Nat) (G : Nat → Nat) (what v : Int32) (hGs : ∀ k, G k ≤ 100) : MI l yX4_set wsX4_set ({ frames := 1, cells := 0, slots := 0, locals := 23 } : Room) D cI cZ tt [.ref w0, .int (what), .int (v)] [(w0, .inr (4, [.ref h0, .ref g0, .ref a0, .ref d0, .ref k0])), (g0, .inr (3, [.ref g1])), (g1, .inl (cI, 4, .inl (nF G)))] sz (fun (r : Int32) (u : (Nat → Nat)) => r = setR G what v ∧ (u = setG G what v)) (fun (u : (Nat → Nat)) => [(w0, .inr (4, [.ref h0, .ref g0, .ref a0, .ref d0, .ref k0])), (g0, .inr (3, [.ref g1])), (g1, .inl (cI, 4, .inl (nF u)))]) := by
  refine entI (cc := cX4_set) 3 (by decide) rfl (Nat.le_of_ble_eq_true rfl) (Or.inl rfl) (fun pr e s m args below meth c0 A Q H ls hx hb hml hown hts hsz hA hP hK hD hS hG hret hl => ?_)
  have hown : s.vm.findClass RX4 = some m.cls := hown
  have lk1 := hts (.fieldLink RX4 19 "BurinLines" "tool" "LBurinLines$Tool;") (by decide +kernel)
  have hinX4 : ∀ w ∈ wsX40, w ∈ wsX4_set := by decide +kernel
  have hl : lv_has ls 3 [(0, .ref w0), (1, .int (what)), (2, .int (v))] := hl
  refine lv_aload_n hx hb dX4_set_0 rfl (lv_at hl 0 rfl) ?_
  refine va_get (D := D) (ci := 4) (v := .ref g0) (C := RX4) (T := TX4) (N := 5) hx hb hts hinX4 hown hK hP 0 rfl rfl 1 (by decide) lk1 (fun _ h9 => h9) rfl dX4_set_1 ?_
  refine lv_iload_n hx hb dX4_set_4 rfl (lv_at hl 1 rfl) ?_
  refine lv_iload_n hx hb dX4_set_5 rfl (lv_at hl 2 rfl) ?_
  refine gcVi (ws' := fun (u : (Nat → Nat)) => [(w0, .inr (4, [.ref h0, .ref g0, .ref a0, .ref d0, .ref k0])), (g0, .inr (3, [.ref g1])), (g1, .inl (cI, 4, .inl (nF u)))]) (wr := [(w0, .inr (4, [.ref h0, .ref g0, .ref a0, .ref d0, .ref k0]))]) (ci := 3) (q0 := 0) (As := [.int (what), .int (v)]) (rest := []) ⟨hx, hb, hml, hown, hts⟩ (c_X3_change l D cI cZ tt H.size g0 g1 G what v (by first | assumption | omega)) (cwV 2 hts gX4_set_X3_change rfl rfl rfl (by decide +kernel) ⟨Nat.le_of_ble_eq_true rfl, Nat.le_of_ble_eq_true rfl⟩) hP hK hD hS hA hG rfl rfl [1, 2] [0] [0, 1, 2] (by decide) rfl rfl (by decide) (by decide) (by decide) (fun _ => rfl) hl.1 rfl rfl (Nat.le_of_ble_eq_true rfl) ⟨Nat.zero_le _, Nat.zero_le _⟩ dX4_set_6 (fun r u H locs hp hP hD hS => ?_)
  obtain ⟨G2_1, rfl⟩ : ∃ z, z = u := ⟨_, rfl⟩
  obtain ⟨rfl, hG2_2⟩ := hp
  have hG2_2 : G2_1 = setG G what v := hG2_2
  have hP : va_P D vwCl [(w0, .inr (4, [.ref h0, .ref g0, .ref a0, .ref d0, .ref k0])), (g0, .inr (3, [.ref g1])), (g1, .inl (cI, 4, .inl (nF G2_1)))] H := hP
  have hD : va_D A [(w0, .inr (4, [.ref h0, .ref g0, .ref a0, .ref d0, .ref k0])), (g0, .inr (3, [.ref g1])), (g1, .inl (cI, 4, .inl (nF G2_1)))] := hD
  exact hret _ _ _ _ _ _ dX4_set_9 (⟨rfl, by assumption⟩) hP hD hS

set_option maxHeartbeats 4000000 in
set_option maxRecDepth 100000 in
theorem c_X4_wanted (l : Launch) (D : va_G) (cI cZ : ClassId) (tt : Nat → Nat) (sz : Nat) (w0 a0 d0 k0 : Nat) (h0 h1 h2 h3 : Nat) (T U B : Nat → Nat) (g0 g1 : Nat) (G : Nat → Nat) (x y ly : Int32) (hT : ∀ k, T k ≤ 100) (hGs : ∀ k, G k ≤ 100) : MI l yX4_wanted wsX4_wanted ({ frames := 2, cells := 0, slots := 0, locals := 46 } : Room) D cI cZ tt [.ref w0, .int (x), .int (y), .int (ly)] [(w0, .inr (4, [.ref h0, .ref g0, .ref a0, .ref d0, .ref k0])), (h0, .inr (2, [.ref h1, .ref h2, .ref h3])), (h1, .inl (cI, 64, .inl (nF T))), (h2, .inl (cI, 64, .inl (nF U))), (h3, .inl (cZ, 64, .inl (nF B))), (g0, .inr (3, [.ref g1])), (g1, .inl (cI, 4, .inl (nF G)))] sz (fun (r : Int32) (_ : Unit) => r = aWanted G T x y ly) (fun (_ : Unit) => [(w0, .inr (4, [.ref h0, .ref g0, .ref a0, .ref d0, .ref k0])), (h0, .inr (2, [.ref h1, .ref h2, .ref h3])), (h1, .inl (cI, 64, .inl (nF T))), (h2, .inl (cI, 64, .inl (nF U))), (h3, .inl (cZ, 64, .inl (nF B))), (g0, .inr (3, [.ref g1])), (g1, .inl (cI, 4, .inl (nF G)))]) := by
  refine entI (cc := cX4_wanted) 4 (by decide) rfl (Nat.le_of_ble_eq_true rfl) (Or.inl rfl) (fun pr e s m args below meth c0 A Q H ls hx hb hml hown hts hsz hA hP hK hD hS hG hret hl => ?_)
  have hown : s.vm.findClass RX4 = some m.cls := hown
  have lk1 := hts (.fieldLink RX4 19 "BurinLines" "tool" "LBurinLines$Tool;") (by decide +kernel)
  have lk2 := hts (.fieldLink RX4 12 "BurinLines" "plate" "LBurinLines$Plate;") (by decide +kernel)
  have lk3 := hts (.fieldLink RX4 54 "BurinLines$Plate" "tones" "[I") (by decide +kernel)
  have hinX2 : ∀ w ∈ wsX20, w ∈ wsX4_wanted := by decide +kernel
  have hinX4 : ∀ w ∈ wsX40, w ∈ wsX4_wanted := by decide +kernel
  have hl : lv_has ls 4 [(0, .ref w0), (1, .int (x)), (2, .int (y)), (3, .int (ly))] := hl
  refine lv_iload_n hx hb dX4_wanted_0 rfl (lv_at hl 1 rfl) ?_
  refine lv_iload_n hx hb dX4_wanted_1 rfl (lv_at hl 2 rfl) ?_
  refine gcS (As := [.int (x), .int (y)]) (rest := []) ⟨hx, hb, hml, hown, hts⟩ (c_X4_isCell l x y ) (va_cwS 2 hts gX4_wanted_X4_isCell rfl rfl rfl (by decide +kernel) ⟨Nat.le_of_ble_eq_true rfl, Nat.le_of_ble_eq_true rfl⟩) hl.1 rfl rfl (Nat.le_of_ble_eq_true rfl) ⟨Nat.zero_le _, Nat.zero_le _⟩ dX4_wanted_2 ?_
  refine nv_ifb_eq (tgt := 15) hx hb dX4_wanted_5 (by decide) (fun c_1 => ?_) (fun c_1 => ?_)
  · skip
    have nok : ¬ (okc x y ∧ okl ly) := fun q => c_1 q.1
    refine lv_bipush (v := (-2)) hx hb dX4_wanted_15 (by decide) ?_
    exact hret _ () _ _ _ _ dX4_wanted_17 (by unfold aWanted; rw [if_neg nok]) hP hD hS
  · skip
    obtain ⟨a, b, ha8, hb8, rfl, rfl⟩ := okc_nat c_1
    refine lv_iload_n hx hb dX4_wanted_8 rfl (lv_at hl 3 rfl) ?_
    refine gcS (As := [.int (ly)]) (rest := []) ⟨hx, hb, hml, hown, hts⟩ (c_X4_isLayer l ly ) (va_cwS 1 hts gX4_wanted_X4_isLayer rfl rfl rfl (by decide +kernel) ⟨Nat.le_of_ble_eq_true rfl, Nat.le_of_ble_eq_true rfl⟩) hl.1 rfl rfl (Nat.le_of_ble_eq_true rfl) ⟨Nat.zero_le _, Nat.zero_le _⟩ dX4_wanted_9 ?_
    refine nv_ifb_ne (tgt := 18) hx hb dX4_wanted_12 (by decide) (fun c_2 => ?_) (fun c_2 => ?_)
    · skip
      rcases c_2 with hL | hL
      · skip
        obtain rfl : ly = nI 0 := hL.trans nI_0.symm
        refine lv_aload_n hx hb dX4_wanted_18 rfl (lv_at hl 0 rfl) ?_
        refine va_get (D := D) (ci := 4) (v := .ref g0) (C := RX4) (T := TX4) (N := 5) hx hb hts hinX4 hown hK hP 0 rfl rfl 1 (by decide) lk1 (fun _ h9 => h9) rfl dX4_wanted_19 ?_
        refine lv_aload_n hx hb dX4_wanted_22 rfl (lv_at hl 0 rfl) ?_
        refine va_get (D := D) (ci := 4) (v := .ref h0) (C := RX4) (T := TX4) (N := 5) hx hb hts hinX4 hown hK hP 0 rfl rfl 0 (by decide) lk2 (fun _ h9 => h9) rfl dX4_wanted_23 ?_
        refine va_get (D := D) (ci := 2) (v := .ref h1) (C := RX2) (T := TX2) (N := 3) hx hb hts hinX2 hown hK hP 1 rfl rfl 0 (by decide) lk3 (fun _ h9 => h9) rfl dX4_wanted_26 ?_
        refine lv_iload_n hx hb dX4_wanted_29 rfl (lv_at hl 1 rfl) ?_
        refine lv_iload_n hx hb dX4_wanted_30 rfl (lv_at hl 2 rfl) ?_
        refine gcS (As := [.int (nI a), .int (nI b)]) (rest := [.ref h1, .ref g0]) ⟨hx, hb, hml, hown, hts⟩ (c_X4_cellOf l a b ) (va_cwS 2 hts gX4_wanted_X4_cellOf rfl rfl rfl (by decide +kernel) ⟨Nat.le_of_ble_eq_true rfl, Nat.le_of_ble_eq_true rfl⟩) hl.1 rfl rfl (Nat.le_of_ble_eq_true rfl) ⟨Nat.zero_le _, Nat.zero_le _⟩ dX4_wanted_31 ?_
        refine nv_iald hx hb hK hP 2 rfl (by omega) (by decide) dX4_wanted_34 ?_
        have bd_3 := hT (8 * b + a)
        refine lv_iload_n hx hb dX4_wanted_35 rfl (lv_at hl 3 rfl) ?_
        refine gcVi (ws' := fun _ => [(w0, .inr (4, [.ref h0, .ref g0, .ref a0, .ref d0, .ref k0])), (h0, .inr (2, [.ref h1, .ref h2, .ref h3])), (h1, .inl (cI, 64, .inl (nF T))), (h2, .inl (cI, 64, .inl (nF U))), (h3, .inl (cZ, 64, .inl (nF B))), (g0, .inr (3, [.ref g1])), (g1, .inl (cI, 4, .inl (nF G)))]) (wr := [(w0, .inr (4, [.ref h0, .ref g0, .ref a0, .ref d0, .ref k0])), (h0, .inr (2, [.ref h1, .ref h2, .ref h3])), (h1, .inl (cI, 64, .inl (nF T))), (h2, .inl (cI, 64, .inl (nF U))), (h3, .inl (cZ, 64, .inl (nF B)))]) (ci := 3) (q0 := 0) (As := [.int (nI (T (8 * b + a))), .int (nI 0)]) (rest := []) ⟨hx, hb, hml, hown, hts⟩ (c_X3_widthFor l D cI cZ tt H.size g0 g1 G (T (8 * b + a)) 0 (by first | assumption | omega) (by first | assumption | omega) (by first | assumption | omega)) (cwV 2 hts gX4_wanted_X3_widthFor rfl rfl rfl (by decide +kernel) ⟨Nat.le_of_ble_eq_true rfl, Nat.le_of_ble_eq_true rfl⟩) hP hK hD hS hA hG rfl rfl [5, 6] [0, 1, 2, 3, 4] [0, 1, 2, 3, 4, 5, 6] (by decide) rfl rfl (by decide) (by decide) (by decide) (fun _ => rfl) hl.1 rfl rfl (Nat.le_of_ble_eq_true rfl) ⟨Nat.zero_le _, Nat.zero_le _⟩ dX4_wanted_36 (fun r u H locs hp hP hD hS => ?_)
        obtain rfl := hp
        have hP : va_P D vwCl [(w0, .inr (4, [.ref h0, .ref g0, .ref a0, .ref d0, .ref k0])), (h0, .inr (2, [.ref h1, .ref h2, .ref h3])), (h1, .inl (cI, 64, .inl (nF T))), (h2, .inl (cI, 64, .inl (nF U))), (h3, .inl (cZ, 64, .inl (nF B))), (g0, .inr (3, [.ref g1])), (g1, .inl (cI, 4, .inl (nF G)))] H := hP
        have hD : va_D A [(w0, .inr (4, [.ref h0, .ref g0, .ref a0, .ref d0, .ref k0])), (h0, .inr (2, [.ref h1, .ref h2, .ref h3])), (h1, .inl (cI, 64, .inl (nF T))), (h2, .inl (cI, 64, .inl (nF U))), (h3, .inl (cZ, 64, .inl (nF B))), (g0, .inr (3, [.ref g1])), (g1, .inl (cI, 4, .inl (nF G)))] := hD
        exact hret _ () _ _ _ _ dX4_wanted_39 (by unfold aWanted; rw [if_pos ⟨okc_of ha8 hb8, Or.inl nI_0⟩, ci_n ha8 hb8, show (nI 0).toNatClampNeg = 0 from rfl]) hP hD hS
      · skip
        obtain rfl : ly = nI 1 := hL
        refine lv_aload_n hx hb dX4_wanted_18 rfl (lv_at hl 0 rfl) ?_
        refine va_get (D := D) (ci := 4) (v := .ref g0) (C := RX4) (T := TX4) (N := 5) hx hb hts hinX4 hown hK hP 0 rfl rfl 1 (by decide) lk1 (fun _ h9 => h9) rfl dX4_wanted_19 ?_
        refine lv_aload_n hx hb dX4_wanted_22 rfl (lv_at hl 0 rfl) ?_
        refine va_get (D := D) (ci := 4) (v := .ref h0) (C := RX4) (T := TX4) (N := 5) hx hb hts hinX4 hown hK hP 0 rfl rfl 0 (by decide) lk2 (fun _ h9 => h9) rfl dX4_wanted_23 ?_
        refine va_get (D := D) (ci := 2) (v := .ref h1) (C := RX2) (T := TX2) (N := 3) hx hb hts hinX2 hown hK hP 1 rfl rfl 0 (by decide) lk3 (fun _ h9 => h9) rfl dX4_wanted_26 ?_
        refine lv_iload_n hx hb dX4_wanted_29 rfl (lv_at hl 1 rfl) ?_
        refine lv_iload_n hx hb dX4_wanted_30 rfl (lv_at hl 2 rfl) ?_
        refine gcS (As := [.int (nI a), .int (nI b)]) (rest := [.ref h1, .ref g0]) ⟨hx, hb, hml, hown, hts⟩ (c_X4_cellOf l a b ) (va_cwS 2 hts gX4_wanted_X4_cellOf rfl rfl rfl (by decide +kernel) ⟨Nat.le_of_ble_eq_true rfl, Nat.le_of_ble_eq_true rfl⟩) hl.1 rfl rfl (Nat.le_of_ble_eq_true rfl) ⟨Nat.zero_le _, Nat.zero_le _⟩ dX4_wanted_31 ?_
        refine nv_iald hx hb hK hP 2 rfl (by omega) (by decide) dX4_wanted_34 ?_
        have bd_4 := hT (8 * b + a)
        refine lv_iload_n hx hb dX4_wanted_35 rfl (lv_at hl 3 rfl) ?_
        refine gcVi (ws' := fun _ => [(w0, .inr (4, [.ref h0, .ref g0, .ref a0, .ref d0, .ref k0])), (h0, .inr (2, [.ref h1, .ref h2, .ref h3])), (h1, .inl (cI, 64, .inl (nF T))), (h2, .inl (cI, 64, .inl (nF U))), (h3, .inl (cZ, 64, .inl (nF B))), (g0, .inr (3, [.ref g1])), (g1, .inl (cI, 4, .inl (nF G)))]) (wr := [(w0, .inr (4, [.ref h0, .ref g0, .ref a0, .ref d0, .ref k0])), (h0, .inr (2, [.ref h1, .ref h2, .ref h3])), (h1, .inl (cI, 64, .inl (nF T))), (h2, .inl (cI, 64, .inl (nF U))), (h3, .inl (cZ, 64, .inl (nF B)))]) (ci := 3) (q0 := 0) (As := [.int (nI (T (8 * b + a))), .int (nI 1)]) (rest := []) ⟨hx, hb, hml, hown, hts⟩ (c_X3_widthFor l D cI cZ tt H.size g0 g1 G (T (8 * b + a)) 1 (by first | assumption | omega) (by first | assumption | omega) (by first | assumption | omega)) (cwV 2 hts gX4_wanted_X3_widthFor rfl rfl rfl (by decide +kernel) ⟨Nat.le_of_ble_eq_true rfl, Nat.le_of_ble_eq_true rfl⟩) hP hK hD hS hA hG rfl rfl [5, 6] [0, 1, 2, 3, 4] [0, 1, 2, 3, 4, 5, 6] (by decide) rfl rfl (by decide) (by decide) (by decide) (fun _ => rfl) hl.1 rfl rfl (Nat.le_of_ble_eq_true rfl) ⟨Nat.zero_le _, Nat.zero_le _⟩ dX4_wanted_36 (fun r u H locs hp hP hD hS => ?_)
        obtain rfl := hp
        have hP : va_P D vwCl [(w0, .inr (4, [.ref h0, .ref g0, .ref a0, .ref d0, .ref k0])), (h0, .inr (2, [.ref h1, .ref h2, .ref h3])), (h1, .inl (cI, 64, .inl (nF T))), (h2, .inl (cI, 64, .inl (nF U))), (h3, .inl (cZ, 64, .inl (nF B))), (g0, .inr (3, [.ref g1])), (g1, .inl (cI, 4, .inl (nF G)))] H := hP
        have hD : va_D A [(w0, .inr (4, [.ref h0, .ref g0, .ref a0, .ref d0, .ref k0])), (h0, .inr (2, [.ref h1, .ref h2, .ref h3])), (h1, .inl (cI, 64, .inl (nF T))), (h2, .inl (cI, 64, .inl (nF U))), (h3, .inl (cZ, 64, .inl (nF B))), (g0, .inr (3, [.ref g1])), (g1, .inl (cI, 4, .inl (nF G)))] := hD
        exact hret _ () _ _ _ _ dX4_wanted_39 (by unfold aWanted; rw [if_pos ⟨okc_of ha8 hb8, Or.inr rfl⟩, ci_n ha8 hb8, show (nI 1).toNatClampNeg = 1 from rfl]) hP hD hS
    · skip
      have nok : ¬ (okc (nI a) (nI b) ∧ okl ly) := fun q => c_2 q.2
      refine lv_bipush (v := (-2)) hx hb dX4_wanted_15 (by decide) ?_
      exact hret _ () _ _ _ _ dX4_wanted_17 (by unfold aWanted; rw [if_neg nok]) hP hD hS
