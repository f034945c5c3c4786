set_option maxHeartbeats 4000000 in
set_option maxRecDepth 100000 in
theorem c_X4_isCell (l : Launch) (x y : Int32)  : MS l yX4_isCell wsX4_isCell ({ frames := 0, cells := 0, slots := 0, locals := 0 } : Room) [.int (x), .int (y)] (nI (if okc x y then 1 else 0)) := by
  refine entS (cc := cX4_isCell) 2 (by decide) rfl (Nat.le_of_ble_eq_true rfl) (by split <;> rfl) (fun pr e s m args below meth c0 Q H ls hx hb hml hown hts hret hl => ?_)
  have hown : s.vm.findClass RX4 = some m.cls := hown
  have hl : lv_has ls 2 [(0, .int (x)), (1, .int (y))] := hl
  refine lv_iload_n hx hb dX4_isCell_0 rfl (lv_at hl 0 rfl) ?_
  refine lv_if_lt (tgt := 24) hx hb dX4_isCell_1 (by decide) (fun c_1 => ?_) (fun c_1 => ?_)
  · skip
    refine lv_iconst (v := nI 0) hx hb dX4_isCell_24 (by decide) ?_
    exact hret _ _ _ dX4_isCell_25 (by rw [if_neg (fun q => by obtain ⟨q1, q2, q3, q4⟩ := q; contradiction)])
  · skip
    refine lv_iload_n hx hb dX4_isCell_4 rfl (lv_at hl 0 rfl) ?_
    refine lv_bipush (v := nI 8) hx hb dX4_isCell_5 (by decide) ?_
    refine lv_icmp_ge (tgt := 24) hx hb dX4_isCell_7 (by decide) (fun c_2 => ?_) (fun c_2 => ?_)
    · skip
      refine lv_iconst (v := nI 0) hx hb dX4_isCell_24 (by decide) ?_
      exact hret _ _ _ dX4_isCell_25 (by rw [if_neg (fun q => by obtain ⟨q1, q2, q3, q4⟩ := q; contradiction)])
    · skip
      refine lv_iload_n hx hb dX4_isCell_10 rfl (lv_at hl 1 rfl) ?_
      refine lv_if_lt (tgt := 24) hx hb dX4_isCell_11 (by decide) (fun c_3 => ?_) (fun c_3 => ?_)
      · skip
        refine lv_iconst (v := nI 0) hx hb dX4_isCell_24 (by decide) ?_
        exact hret _ _ _ dX4_isCell_25 (by rw [if_neg (fun q => by obtain ⟨q1, q2, q3, q4⟩ := q; contradiction)])
      · skip
        refine lv_iload_n hx hb dX4_isCell_14 rfl (lv_at hl 1 rfl) ?_
        refine lv_bipush (v := nI 8) hx hb dX4_isCell_15 (by decide) ?_
        refine lv_icmp_ge (tgt := 24) hx hb dX4_isCell_17 (by decide) (fun c_4 => ?_) (fun c_4 => ?_)
        · skip
          refine lv_iconst (v := nI 0) hx hb dX4_isCell_24 (by decide) ?_
          exact hret _ _ _ dX4_isCell_25 (by rw [if_neg (fun q => by obtain ⟨q1, q2, q3, q4⟩ := q; contradiction)])
        · skip
          refine lv_iconst (v := nI 1) hx hb dX4_isCell_20 (by decide) ?_
          refine lv_goto (tgt := 25) hx hb dX4_isCell_21 (by decide) ?_
          exact hret _ _ _ dX4_isCell_25 (by rw [if_pos ⟨(by assumption), (by assumption), (by assumption), (by assumption)⟩])

set_option maxHeartbeats 4000000 in
set_option maxRecDepth 100000 in
theorem c_X4_isBlock (l : Launch) (x y : Int32)  : MS l yX4_isBlock wsX4_isBlock ({ frames := 0, cells := 0, slots := 0, locals := 0 } : Room) [.int (x), .int (y)] (nI (if okb x y then 1 else 0)) := by
  refine entS (cc := cX4_isBlock) 2 (by decide) rfl (Nat.le_of_ble_eq_true rfl) (by split <;> rfl) (fun pr e s m args below meth c0 Q H ls hx hb hml hown hts hret hl => ?_)
  have hown : s.vm.findClass RX4 = some m.cls := hown
  have hl : lv_has ls 2 [(0, .int (x)), (1, .int (y))] := hl
  refine lv_iload_n hx hb dX4_isBlock_0 rfl (lv_at hl 0 rfl) ?_
  refine lv_if_lt (tgt := 24) hx hb dX4_isBlock_1 (by decide) (fun c_1 => ?_) (fun c_1 => ?_)
  · skip
    refine lv_iconst (v := nI 0) hx hb dX4_isBlock_24 (by decide) ?_
    exact hret _ _ _ dX4_isBlock_25 (by rw [if_neg (fun q => by obtain ⟨q1, q2, q3, q4⟩ := q; contradiction)])
  · skip
    refine lv_iload_n hx hb dX4_isBlock_4 rfl (lv_at hl 0 rfl) ?_
    refine lv_bipush (v := nI 7) hx hb dX4_isBlock_5 (by decide) ?_
    refine lv_icmp_ge (tgt := 24) hx hb dX4_isBlock_7 (by decide) (fun c_2 => ?_) (fun c_2 => ?_)
    · skip
      refine lv_iconst (v := nI 0) hx hb dX4_isBlock_24 (by decide) ?_
      exact hret _ _ _ dX4_isBlock_25 (by rw [if_neg (fun q => by obtain ⟨q1, q2, q3, q4⟩ := q; contradiction)])
    · skip
      refine lv_iload_n hx hb dX4_isBlock_10 rfl (lv_at hl 1 rfl) ?_
      refine lv_if_lt (tgt := 24) hx hb dX4_isBlock_11 (by decide) (fun c_3 => ?_) (fun c_3 => ?_)
      · skip
        refine lv_iconst (v := nI 0) hx hb dX4_isBlock_24 (by decide) ?_
        exact hret _ _ _ dX4_isBlock_25 (by rw [if_neg (fun q => by obtain ⟨q1, q2, q3, q4⟩ := q; contradiction)])
      · skip
        refine lv_iload_n hx hb dX4_isBlock_14 rfl (lv_at hl 1 rfl) ?_
        refine lv_bipush (v := nI 7) hx hb dX4_isBlock_15 (by decide) ?_
        refine lv_icmp_ge (tgt := 24) hx hb dX4_isBlock_17 (by decide) (fun c_4 => ?_) (fun c_4 => ?_)
        · skip
          refine lv_iconst (v := nI 0) hx hb dX4_isBlock_24 (by decide) ?_
          exact hret _ _ _ dX4_isBlock_25 (by rw [if_neg (fun q => by obtain ⟨q1, q2, q3, q4⟩ := q; contradiction)])
        · skip
          refine lv_iconst (v := nI 1) hx hb dX4_isBlock_20 (by decide) ?_
          refine lv_goto (tgt := 25) hx hb dX4_isBlock_21 (by decide) ?_
          exact hret _ _ _ dX4_isBlock_25 (by rw [if_pos ⟨(by assumption), (by assumption), (by assumption), (by assumption)⟩])

set_option maxHeartbeats 4000000 in
set_option maxRecDepth 100000 in
theorem c_X4_isLayer (l : Launch) (x : Int32)  : MS l yX4_isLayer wsX4_isLayer ({ frames := 0, cells := 0, slots := 0, locals := 0 } : Room) [.int (x)] (nI (if okl x then 1 else 0)) := by
  refine entS (cc := cX4_isLayer) 1 (by decide) rfl (Nat.le_of_ble_eq_true rfl) (by split <;> rfl) (fun pr e s m args below meth c0 Q H ls hx hb hml hown hts hret hl => ?_)
  have hown : s.vm.findClass RX4 = some m.cls := hown
  have hl : lv_has ls 1 [(0, .int (x))] := hl
  refine lv_iload_n hx hb dX4_isLayer_0 rfl (lv_at hl 0 rfl) ?_
  refine lv_if_eq (tgt := 9) hx hb dX4_isLayer_1 (by decide) (fun c_1 => ?_) (fun c_1 => ?_)
  · skip
    refine lv_iconst (v := nI 1) hx hb dX4_isLayer_9 (by decide) ?_
    refine lv_goto (tgt := 14) hx hb dX4_isLayer_10 (by decide) ?_
    exact hret _ _ _ dX4_isLayer_14 (by rw [if_pos (Or.inl c_1)])
  · skip
    refine lv_iload_n hx hb dX4_isLayer_4 rfl (lv_at hl 0 rfl) ?_
    refine lv_iconst (v := nI 1) hx hb dX4_isLayer_5 (by decide) ?_
    refine lv_icmp_ne (tgt := 13) hx hb dX4_isLayer_6 (by decide) (fun c_2 => ?_) (fun c_2 => ?_)
    · skip
      refine lv_iconst (v := nI 0) hx hb dX4_isLayer_13 (by decide) ?_
      exact hret _ _ _ dX4_isLayer_14 (by rw [if_neg (fun q => by rcases q with q | q <;> contradiction)])
    · skip
      refine lv_iconst (v := nI 1) hx hb dX4_isLayer_9 (by decide) ?_
      refine lv_goto (tgt := 14) hx hb dX4_isLayer_10 (by decide) ?_
      exact hret _ _ _ dX4_isLayer_14 (by rw [if_pos (Or.inr c_2)])

set_option maxHeartbeats 4000000 in
set_option maxRecDepth 100000 in
theorem c_X4_isTone (l : Launch) (v : Int32)  : MS l yX4_isTone wsX4_isTone ({ frames := 0, cells := 0, slots := 0, locals := 0 } : Room) [.int (v)] (nI (if okt v then 1 else 0)) := by
  refine entS (cc := cX4_isTone) 1 (by decide) rfl (Nat.le_of_ble_eq_true rfl) (by split <;> rfl) (fun pr e s m args below meth c0 Q H ls hx hb hml hown hts hret hl => ?_)
  have hown : s.vm.findClass RX4 = some m.cls := hown
  have hl : lv_has ls 1 [(0, .int (v))] := hl
  refine lv_iload_n hx hb dX4_isTone_0 rfl (lv_at hl 0 rfl) ?_
  refine lv_if_lt (tgt := 14) hx hb dX4_isTone_1 (by decide) (fun c_1 => ?_) (fun c_1 => ?_)
  · skip
    refine lv_iconst (v := nI 0) hx hb dX4_isTone_14 (by decide) ?_
    exact hret _ _ _ dX4_isTone_15 (by rw [if_neg (fun q => by obtain ⟨q1, q2⟩ := q; contradiction)])
  · skip
    refine lv_iload_n hx hb dX4_isTone_4 rfl (lv_at hl 0 rfl) ?_
    refine lv_bipush (v := nI 100) hx hb dX4_isTone_5 (by decide) ?_
    refine lv_icmp_gt (tgt := 14) hx hb dX4_isTone_7 (by decide) (fun c_2 => ?_) (fun c_2 => ?_)
    · skip
      refine lv_iconst (v := nI 0) hx hb dX4_isTone_14 (by decide) ?_
      exact hret _ _ _ dX4_isTone_15 (by rw [if_neg (fun q => by obtain ⟨q1, q2⟩ := q; contradiction)])
    · skip
      refine lv_iconst (v := nI 1) hx hb dX4_isTone_10 (by decide) ?_
      refine lv_goto (tgt := 15) hx hb dX4_isTone_11 (by decide) ?_
      exact hret _ _ _ dX4_isTone_15 (by rw [if_pos ⟨(by assumption), (by assumption)⟩])

set_option maxHeartbeats 4000000 in
set_option maxRecDepth 100000 in
theorem c_X4_cellOf (l : Launch) (x y : Nat)  : MS l yX4_cellOf wsX4_cellOf ({ frames := 0, cells := 0, slots := 0, locals := 0 } : Room) [.int (nI x), .int (nI y)] (nI (8 * y + x)) := by
  refine entS (cc := cX4_cellOf) 2 (by decide) rfl (Nat.le_of_ble_eq_true rfl) (rfl) (fun pr e s m args below meth c0 Q H ls hx hb hml hown hts hret hl => ?_)
  have hown : s.vm.findClass RX4 = some m.cls := hown
  have hl : lv_has ls 2 [(0, .int (nI x)), (1, .int (nI y))] := hl
  refine lv_bipush (v := nI 8) hx hb dX4_cellOf_0 (by decide) ?_
  refine lv_iload_n hx hb dX4_cellOf_2 rfl (lv_at hl 1 rfl) ?_
  refine nv_imul hx hb dX4_cellOf_3 ?_
  refine lv_iload_n hx hb dX4_cellOf_4 rfl (lv_at hl 0 rfl) ?_
  refine nv_iadd hx hb dX4_cellOf_5 ?_
  exact hret _ _ _ dX4_cellOf_6 (rfl)

set_option maxHeartbeats 4000000 in
set_option maxRecDepth 100000 in
theorem c_X4_wayBetween (l : Launch) (f t : Nat) (hf : f < 64) (ht : t < 64) : MS l yX4_wayBetween wsX4_wayBetween ({ frames := 1, cells := 0, slots := 0, locals := 21 } : Room) [.int (nI f), .int (nI t)] (nI (fr f t)) := by
  refine entS (cc := cX4_wayBetween) 4 (by decide) rfl (Nat.le_of_ble_eq_true rfl) (rfl) (fun pr e s m args below meth c0 Q H ls hx hb hml hown hts hret hl => ?_)
  have hown : s.vm.findClass RX4 = some m.cls := hown
  have lk1 := hts (.methodLink RX4 98 Lib.Math.abs.name) (by decide +kernel)
  have lk2 := hts (.static Lib.Math.abs.name) (by decide +kernel)
  have lk3 := hts (.initialized "java/lang/Math") (by decide +kernel)
  have lk4 := hts (.code Lib.Math.abs.name Lib.Math.abs.code 1 (some .int)) (by decide +kernel)
  have lk5 := hts (.methodLink RX4 103 Lib.Math.max.name) (by decide +kernel)
  have lk6 := hts (.static Lib.Math.max.name) (by decide +kernel)
  have lk7 := hts (.code Lib.Math.max.name Lib.Math.max.code 2 (some .int)) (by decide +kernel)
  have hl : lv_has ls 4 [(0, .int (nI f)), (1, .int (nI t))] := hl
  refine lv_iload_n hx hb dX4_wayBetween_0 rfl (lv_at hl 0 rfl) ?_
  refine lv_bipush (v := nI 8) hx hb dX4_wayBetween_1 (by decide) ?_
  refine nv_irem hx hb dX4_wayBetween_3 (by omega) (by omega) (by omega) ?_
  refine lv_iload_n hx hb dX4_wayBetween_4 rfl (lv_at hl 1 rfl) ?_
  refine lv_bipush (v := nI 8) hx hb dX4_wayBetween_5 (by decide) ?_
  refine nv_irem hx hb dX4_wayBetween_7 (by omega) (by omega) (by omega) ?_
  refine lv_isub hx hb dX4_wayBetween_8 ?_
  refine va_mabs hx hb (by rw [hml]; exact hl.1.symm) hown lk1 lk2 lk3 lk4 (Nat.le_of_ble_eq_true rfl) (Nat.le_of_ble_eq_true rfl) (Nat.zero_le _) (Nat.zero_le _) dX4_wayBetween_9 ?_
  refine top_eq (nI_abs (a := (f % 8)) (b := (t % 8)) (by omega) (by omega)) ?_
  refine lv_istore_n (lv' := [(2, .int (nI (nd ((f % 8)) ((t % 8))))), (0, .int (nI f)), (1, .int (nI t))]) hx hb dX4_wayBetween_12 rfl hl (by decide) rfl (fun ls hl => ?_)
  refine lv_iload_n hx hb dX4_wayBetween_13 rfl (lv_at hl 1 rfl) ?_
  refine lv_bipush (v := nI 8) hx hb dX4_wayBetween_14 (by decide) ?_
  refine nv_idiv hx hb dX4_wayBetween_16 (by omega) (by omega) (by omega) ?_
  refine lv_iload_n hx hb dX4_wayBetween_17 rfl (lv_at hl 2 rfl) ?_
  refine lv_bipush (v := nI 8) hx hb dX4_wayBetween_18 (by decide) ?_
  refine nv_idiv hx hb dX4_wayBetween_20 (by omega) (by omega) (by omega) ?_
  refine lv_isub hx hb dX4_wayBetween_21 ?_
  refine va_mabs hx hb (by rw [hml]; exact hl.1.symm) hown lk1 lk2 lk3 lk4 (Nat.le_of_ble_eq_true rfl) (Nat.le_of_ble_eq_true rfl) (Nat.zero_le _) (Nat.zero_le _) dX4_wayBetween_22 ?_
  refine top_eq (nI_abs (a := (f / 8)) (b := (t / 8)) (by omega) (by omega)) ?_
  refine lv_istore_n (lv' := [(3, .int (nI (nd ((f / 8)) ((t / 8))))), (2, .int (nI (nd ((f % 8)) ((t % 8))))), (0, .int (nI f)), (1, .int (nI t))]) hx hb dX4_wayBetween_25 rfl hl (by decide) rfl (fun ls hl => ?_)
  refine lv_iload_n hx hb dX4_wayBetween_26 rfl (lv_at hl 1 rfl) ?_
  refine lv_iload_n hx hb dX4_wayBetween_27 rfl (lv_at hl 0 rfl) ?_
  refine va_mmax hx hb (by rw [hml]; exact hl.1.symm) hown lk5 lk6 lk3 lk7 (Nat.le_of_ble_eq_true rfl) (Nat.le_of_ble_eq_true rfl) (Nat.zero_le _) (Nat.zero_le _) dX4_wayBetween_28 ?_
  refine top_eq (nI_max (by unfold nd; omega) (by unfold nd; omega)) ?_
  exact hret _ _ _ dX4_wayBetween_31 (rfl)

set_option maxHeartbeats 4000000 in
set_option maxRecDepth 100000 in
theorem c_X5_in (l : Launch) (v a b : Int32)  : MS l yX5_in wsX5_in ({ frames := 0, cells := 0, slots := 0, locals := 0 } : Room) [.int (v), .int (a), .int (b)] (nI (if inr v a b then 1 else 0)) := by
  refine entS (cc := cX5_in) 3 (by decide) rfl (Nat.le_of_ble_eq_true rfl) (by split <;> rfl) (fun pr e s m args below meth c0 Q H ls hx hb hml hown hts hret hl => ?_)
  have hown : s.vm.findClass RX5 = some m.cls := hown
  have hl : lv_has ls 3 [(0, .int (v)), (1, .int (a)), (2, .int (b))] := hl
  refine lv_iload_n hx hb dX5_in_0 rfl (lv_at hl 0 rfl) ?_
  refine lv_iload_n hx hb dX5_in_1 rfl (lv_at hl 1 rfl) ?_
  refine lv_icmp_lt (tgt := 14) hx hb dX5_in_2 (by decide) (fun c_1 => ?_) (fun c_1 => ?_)
  · skip
    refine lv_iconst (v := nI 0) hx hb dX5_in_14 (by decide) ?_
    exact hret _ _ _ dX5_in_15 (by rw [if_neg (fun q => by obtain ⟨q1, q2⟩ := q; contradiction)])
  · skip
    refine lv_iload_n hx hb dX5_in_5 rfl (lv_at hl 0 rfl) ?_
    refine lv_iload_n hx hb dX5_in_6 rfl (lv_at hl 2 rfl) ?_
    refine lv_icmp_gt (tgt := 14) hx hb dX5_in_7 (by decide) (fun c_2 => ?_) (fun c_2 => ?_)
    · skip
      refine lv_iconst (v := nI 0) hx hb dX5_in_14 (by decide) ?_
      exact hret _ _ _ dX5_in_15 (by rw [if_neg (fun q => by obtain ⟨q1, q2⟩ := q; contradiction)])
    · skip
      refine lv_iconst (v := nI 1) hx hb dX5_in_10 (by decide) ?_
      refine lv_goto (tgt := 15) hx hb dX5_in_11 (by decide) ?_
      exact hret _ _ _ dX5_in_15 (by rw [if_pos ⟨(by assumption), (by assumption)⟩])

set_option maxHeartbeats 4000000 in
set_option maxRecDepth 100000 in
theorem c_X5_isCell (l : Launch) (x y : Int32)  : MS l yX5_isCell wsX5_isCell ({ frames := 1, cells := 0, slots := 0, locals := 22 } : Room) [.int (x), .int (y)] (nI (if okc x y then 1 else 0)) := by
  refine entS (cc := cX5_isCell) 2 (by decide) rfl (Nat.le_of_ble_eq_true rfl) (by split <;> rfl) (fun pr e s m args below meth c0 Q H ls hx hb hml hown hts hret hl => ?_)
  have hown : s.vm.findClass RX5 = some m.cls := hown
  have hl : lv_has ls 2 [(0, .int (x)), (1, .int (y))] := hl
  refine lv_iload_n hx hb dX5_isCell_0 rfl (lv_at hl 0 rfl) ?_
  refine lv_iconst (v := nI 0) hx hb dX5_isCell_1 (by decide) ?_
  refine lv_bipush (v := nI 7) hx hb dX5_isCell_2 (by decide) ?_
  refine gcS (As := [.int (x), .int (nI 0), .int (nI 7)]) (rest := []) ⟨hx, hb, hml, hown, hts⟩ (c_X5_in l x (nI 0) (nI 7) ) (va_cwS 3 hts gX5_isCell_X5_in rfl rfl rfl (by decide +kernel) ⟨Nat.le_of_ble_eq_true rfl, Nat.le_of_ble_eq_true rfl⟩) hl.1 rfl rfl (Nat.le_of_ble_eq_true rfl) ⟨Nat.zero_le _, Nat.zero_le _⟩ dX5_isCell_4 ?_
  refine nv_ifb_eq (tgt := 24) hx hb dX5_isCell_7 (by decide) (fun c_1 => ?_) (fun c_1 => ?_)
  · skip
    refine lv_iconst (v := nI 0) hx hb dX5_isCell_24 (by decide) ?_
    exact hret _ _ _ dX5_isCell_25 (by rw [if_neg (fun q => by obtain ⟨q1, q2⟩ := (okc_in x y).mp q; contradiction)])
  · skip
    refine lv_iload_n hx hb dX5_isCell_10 rfl (lv_at hl 1 rfl) ?_
    refine lv_iconst (v := nI 0) hx hb dX5_isCell_11 (by decide) ?_
    refine lv_bipush (v := nI 7) hx hb dX5_isCell_12 (by decide) ?_
    refine gcS (As := [.int (y), .int (nI 0), .int (nI 7)]) (rest := []) ⟨hx, hb, hml, hown, hts⟩ (c_X5_in l y (nI 0) (nI 7) ) (va_cwS 3 hts gX5_isCell_X5_in rfl rfl rfl (by decide +kernel) ⟨Nat.le_of_ble_eq_true rfl, Nat.le_of_ble_eq_true rfl⟩) hl.1 rfl rfl (Nat.le_of_ble_eq_true rfl) ⟨Nat.zero_le _, Nat.zero_le _⟩ dX5_isCell_14 ?_
    refine nv_ifb_eq (tgt := 24) hx hb dX5_isCell_17 (by decide) (fun c_2 => ?_) (fun c_2 => ?_)
    · skip
      refine lv_iconst (v := nI 0) hx hb dX5_isCell_24 (by decide) ?_
      exact hret _ _ _ dX5_isCell_25 (by rw [if_neg (fun q => by obtain ⟨q1, q2⟩ := (okc_in x y).mp q; contradiction)])
    · skip
      refine lv_iconst (v := nI 1) hx hb dX5_isCell_20 (by decide) ?_
      refine lv_goto (tgt := 25) hx hb dX5_isCell_21 (by decide) ?_
      exact hret _ _ _ dX5_isCell_25 (by rw [if_pos ((okc_in x y).mpr ⟨by assumption, by assumption⟩)])

set_option maxHeartbeats 4000000 in
set_option maxRecDepth 100000 in
theorem c_X5_less (l : Launch) (a b : Nat) (ha : a < 2 ^ 31) (hb2 : b < 2 ^ 31) : MS l yX5_less wsX5_less ({ frames := 0, cells := 0, slots := 0, locals := 0 } : Room) [.int (nI a), .int (nI b)] (nI (min a b)) := by
  refine entS (cc := cX5_less) 2 (by decide) rfl (Nat.le_of_ble_eq_true rfl) (rfl) (fun pr e s m args below meth c0 Q H ls hx hb hml hown hts hret hl => ?_)
  have hown : s.vm.findClass RX5 = some m.cls := hown
  have hl : lv_has ls 2 [(0, .int (nI a)), (1, .int (nI b))] := hl
  refine lv_iload_n hx hb dX5_less_0 rfl (lv_at hl 0 rfl) ?_
  refine lv_iload_n hx hb dX5_less_1 rfl (lv_at hl 1 rfl) ?_
  refine nv_icmp_ge (tgt := 9) hx hb dX5_less_2 (by decide) (by omega) (by omega) (fun c_1 => ?_) (fun c_1 => ?_)
  · skip
    refine lv_iload_n hx hb dX5_less_9 rfl (lv_at hl 1 rfl) ?_
    exact hret _ _ _ dX5_less_10 (congrArg nI (by omega))
  · skip
    refine lv_iload_n hx hb dX5_less_5 rfl (lv_at hl 0 rfl) ?_
    refine lv_goto (tgt := 10) hx hb dX5_less_6 (by decide) ?_
    exact hret _ _ _ dX5_less_10 (congrArg nI (by omega))

set_option maxHeartbeats 4000000 in
set_option maxRecDepth 100000 in
theorem c_X5_more (l : Launch) (a b : Nat) (ha : a < 2 ^ 31) (hb2 : b < 2 ^ 31) : MS l yX5_more wsX5_more ({ frames := 0, cells := 0, slots := 0, locals := 0 } : Room) [.int (nI a), .int (nI b)] (nI (max a b)) := by
  refine entS (cc := cX5_more) 2 (by decide) rfl (Nat.le_of_ble_eq_true rfl) (rfl) (fun pr e s m args below meth c0 Q H ls hx hb hml hown hts hret hl => ?_)
  have hown : s.vm.findClass RX5 = some m.cls := hown
  have hl : lv_has ls 2 [(0, .int (nI a)), (1, .int (nI b))] := hl
  refine lv_iload_n hx hb dX5_more_0 rfl (lv_at hl 0 rfl) ?_
  refine lv_iload_n hx hb dX5_more_1 rfl (lv_at hl 1 rfl) ?_
  refine nv_icmp_le (tgt := 9) hx hb dX5_more_2 (by decide) (by omega) (by omega) (fun c_1 => ?_) (fun c_1 => ?_)
  · skip
    refine lv_iload_n hx hb dX5_more_9 rfl (lv_at hl 1 rfl) ?_
    exact hret _ _ _ dX5_more_10 (congrArg nI (by omega))
  · skip
    refine lv_iload_n hx hb dX5_more_5 rfl (lv_at hl 0 rfl) ?_
    refine lv_goto (tgt := 10) hx hb dX5_more_6 (by decide) ?_
    exact hret _ _ _ dX5_more_10 (congrArg nI (by omega))

set_option maxHeartbeats 4000000 in
set_option maxRecDepth 100000 in
theorem c_X5_more_i (l : Launch) (a b : Int32)  : MS l yX5_more wsX5_more ({ frames := 0, cells := 0, slots := 0, locals := 0 } : Room) [.int (a), .int (b)] (if a ≤ b then b else a) := by
  refine entS (cc := cX5_more) 2 (by decide) rfl (Nat.le_of_ble_eq_true rfl) (rfl) (fun pr e s m args below meth c0 Q H ls hx hb hml hown hts hret hl => ?_)
  have hown : s.vm.findClass RX5 = some m.cls := hown
  have hl : lv_has ls 2 [(0, .int (a)), (1, .int (b))] := hl
  refine lv_iload_n hx hb dX5_more_0 rfl (lv_at hl 0 rfl) ?_
  refine lv_iload_n hx hb dX5_more_1 rfl (lv_at hl 1 rfl) ?_
  refine lv_icmp_le (tgt := 9) hx hb dX5_more_2 (by decide) (fun c_1 => ?_) (fun c_1 => ?_)
  · skip
    refine lv_iload_n hx hb dX5_more_9 rfl (lv_at hl 1 rfl) ?_
    exact hret _ _ _ dX5_more_10 (by rw [if_pos c_1])
  · skip
    refine lv_iload_n hx hb dX5_more_5 rfl (lv_at hl 0 rfl) ?_
    refine lv_goto (tgt := 10) hx hb dX5_more_6 (by decide) ?_
    exact hret _ _ _ dX5_more_10 (by rw [if_neg c_1])

set_option maxHeartbeats 4000000 in
set_option maxRecDepth 100000 in
theorem c_X5_size (l : Launch) (x : Int32)  : MS l yX5_size wsX5_size ({ frames := 0, cells := 0, slots := 0, locals := 0 } : Room) [.int (x)] (sz32 x) := by
  refine entS (cc := cX5_size) 1 (by decide) rfl (Nat.le_of_ble_eq_true rfl) (rfl) (fun pr e s m args below meth c0 Q H ls hx hb hml hown hts hret hl => ?_)
  have hown : s.vm.findClass RX5 = some m.cls := hown
  have hl : lv_has ls 1 [(0, .int (x))] := hl
  refine lv_iload_n hx hb dX5_size_0 rfl (lv_at hl 0 rfl) ?_
  refine lv_if_ge (tgt := 9) hx hb dX5_size_1 (by decide) (fun c_1 => ?_) (fun c_1 => ?_)
  · skip
    refine lv_iload_n hx hb dX5_size_9 rfl (lv_at hl 0 rfl) ?_
    exact hret _ _ _ dX5_size_10 (by unfold sz32; rw [if_pos c_1])
  · skip
    refine lv_iload_n hx hb dX5_size_4 rfl (lv_at hl 0 rfl) ?_
    refine lv_ineg hx hb dX5_size_5 ?_
    refine lv_goto (tgt := 10) hx hb dX5_size_6 (by decide) ?_
    exact hret _ _ _ dX5_size_10 (by unfold sz32; rw [if_neg c_1])

set_option maxHeartbeats 4000000 in
set_option maxRecDepth 100000 in
theorem c_X5_isLayer (l : Launch) (x : Int32)  : MS l yX5_isLayer wsX5_isLayer ({ frames := 0, cells := 0, slots := 0, locals := 0 } : Room) [.int (x)] (nI (if okl x then 1 else 0)) := by
  refine entS (cc := cX5_isLayer) 1 (by decide) rfl (Nat.le_of_ble_eq_true rfl) (by split <;> rfl) (fun pr e s m args below meth c0 Q H ls hx hb hml hown hts hret hl => ?_)
  have hown : s.vm.findClass RX5 = some m.cls := hown
  have hl : lv_has ls 1 [(0, .int (x))] := hl
  refine lv_iload_n hx hb dX5_isLayer_0 rfl (lv_at hl 0 rfl) ?_
  refine lv_if_eq (tgt := 9) hx hb dX5_isLayer_1 (by decide) (fun c_1 => ?_) (fun c_1 => ?_)
  · skip
    refine lv_iconst (v := nI 1) hx hb dX5_isLayer_9 (by decide) ?_
    refine lv_goto (tgt := 14) hx hb dX5_isLayer_10 (by decide) ?_
    exact hret _ _ _ dX5_isLayer_14 (by rw [if_pos (Or.inl c_1)])
  · skip
    refine lv_iload_n hx hb dX5_isLayer_4 rfl (lv_at hl 0 rfl) ?_
    refine lv_iconst (v := nI 1) hx hb dX5_isLayer_5 (by decide) ?_
    refine lv_icmp_ne (tgt := 13) hx hb dX5_isLayer_6 (by decide) (fun c_2 => ?_) (fun c_2 => ?_)
    · skip
      refine lv_iconst (v := nI 0) hx hb dX5_isLayer_13 (by decide) ?_
      exact hret _ _ _ dX5_isLayer_14 (by rw [if_neg (fun q => by rcases q with q | q <;> contradiction)])
    · skip
      refine lv_iconst (v := nI 1) hx hb dX5_isLayer_9 (by decide) ?_
      refine lv_goto (tgt := 14) hx hb dX5_isLayer_10 (by decide) ?_
      exact hret _ _ _ dX5_isLayer_14 (by rw [if_pos (Or.inr c_2)])

set_option maxHeartbeats 4000000 in
set_option maxRecDepth 100000 in
theorem c_X5_far (l : Launch) (a b : Nat) (ha : a < 64) (hb2 : b < 64) : MS l yX5_far wsX5_far ({ frames := 1, cells := 0, slots := 0, locals := 21 } : Room) [.int (nI a), .int (nI b)] (nI (fr a b)) := by
  refine entS (cc := cX5_far) 2 (by decide) rfl (Nat.le_of_ble_eq_true rfl) (rfl) (fun pr e s m args below meth c0 Q H ls hx hb hml hown hts hret hl => ?_)
  have hown : s.vm.findClass RX5 = some m.cls := hown
  have hl : lv_has ls 2 [(0, .int (nI a)), (1, .int (nI b))] := hl
  refine lv_iload_n hx hb dX5_far_0 rfl (lv_at hl 0 rfl) ?_
  refine lv_bipush (v := nI 8) hx hb dX5_far_1 (by decide) ?_
  refine nv_irem hx hb dX5_far_3 (by omega) (by omega) (by omega) ?_
  refine lv_iload_n hx hb dX5_far_4 rfl (lv_at hl 1 rfl) ?_
  refine lv_bipush (v := nI 8) hx hb dX5_far_5 (by decide) ?_
  refine nv_irem hx hb dX5_far_7 (by omega) (by omega) (by omega) ?_
  refine lv_isub hx hb dX5_far_8 ?_
  refine gcS (As := [.int ((nI (a % 8)) - (nI (b % 8)))]) (rest := []) ⟨hx, hb, hml, hown, hts⟩ (c_X5_size l ((nI (a % 8)) - (nI (b % 8))) ) (va_cwS 1 hts gX5_far_X5_size rfl rfl rfl (by decide +kernel) ⟨Nat.le_of_ble_eq_true rfl, Nat.le_of_ble_eq_true rfl⟩) hl.1 rfl rfl (Nat.le_of_ble_eq_true rfl) ⟨Nat.zero_le _, Nat.zero_le _⟩ dX5_far_9 ?_
  refine top_eq (sz32_nd (by omega) (by omega)) ?_
  refine lv_iload_n hx hb dX5_far_12 rfl (lv_at hl 0 rfl) ?_
  refine lv_bipush (v := nI 8) hx hb dX5_far_13 (by decide) ?_
  refine nv_idiv hx hb dX5_far_15 (by omega) (by omega) (by omega) ?_
  refine lv_iload_n hx hb dX5_far_16 rfl (lv_at hl 1 rfl) ?_
  refine lv_bipush (v := nI 8) hx hb dX5_far_17 (by decide) ?_
  refine nv_idiv hx hb dX5_far_19 (by omega) (by omega) (by omega) ?_
  refine lv_isub hx hb dX5_far_20 ?_
  refine gcS (As := [.int ((nI (a / 8)) - (nI (b / 8)))]) (rest := [.int (nI (nd (a % 8) (b % 8)))]) ⟨hx, hb, hml, hown, hts⟩ (c_X5_size l ((nI (a / 8)) - (nI (b / 8))) ) (va_cwS 1 hts gX5_far_X5_size rfl rfl rfl (by decide +kernel) ⟨Nat.le_of_ble_eq_true rfl, Nat.le_of_ble_eq_true rfl⟩) hl.1 rfl rfl (Nat.le_of_ble_eq_true rfl) ⟨Nat.zero_le _, Nat.zero_le _⟩ dX5_far_21 ?_
  refine top_eq (sz32_nd (by omega) (by omega)) ?_
  refine gcS (As := [.int (nI (nd (a % 8) (b % 8))), .int (nI (nd (a / 8) (b / 8)))]) (rest := []) ⟨hx, hb, hml, hown, hts⟩ (c_X5_more l (nd (a % 8) (b % 8)) (nd (a / 8) (b / 8)) (by unfold nd; omega) (by unfold nd; omega)) (va_cwS 2 hts gX5_far_X5_more rfl rfl rfl (by decide +kernel) ⟨Nat.le_of_ble_eq_true rfl, Nat.le_of_ble_eq_true rfl⟩) hl.1 rfl rfl (Nat.le_of_ble_eq_true rfl) ⟨Nat.zero_le _, Nat.zero_le _⟩ dX5_far_24 ?_
  exact hret _ _ _ dX5_far_27 (rfl)
