set_option maxHeartbeats 4000000 in
set_option maxRecDepth 100000 in
theorem c_X3_widthFor (l : Launch) (D : va_G) (cI cZ : ClassId) (tt : Nat → Nat) (sz : Nat) (g0 g1 : Nat) (G : Nat → Nat) (t ly : Nat) (hGs : ∀ k, G k ≤ 100) (ht : t ≤ 100) (hly : ly < 2) : MI l yX3_widthFor wsX3_widthFor ({ frames := 1, cells := 0, slots := 0, locals := 21 } : Room) D cI cZ tt [.ref g0, .int (nI t), .int (nI ly)] [(g0, .inr (3, [.ref g1])), (g1, .inl (cI, 4, .inl (nF G)))] sz (fun (r : Int32) (_ : Unit) => r = nI (wd G t ly)) (fun (_ : Unit) => [(g0, .inr (3, [.ref g1])), (g1, .inl (cI, 4, .inl (nF G)))]) := by
  refine entI (cc := cX3_widthFor) 6 (by decide) rfl (Nat.le_of_ble_eq_true rfl) (Or.inl rfl) (fun pr e s m args below meth c0 A Q H ls hx hb hml hown hts hsz hA hP hK hD hS hG hret hl => ?_)
  have hown : s.vm.findClass RX3 = some m.cls := hown
  have lk1 := hts (.fieldLink RX3 9 "BurinLines$Tool" "settings" "[I") (by decide +kernel)
  have lk2 := hts (.methodLink RX3 21 Lib.Math.min.name) (by decide +kernel)
  have lk3 := hts (.static Lib.Math.min.name) (by decide +kernel)
  have lk4 := hts (.initialized "java/lang/Math") (by decide +kernel)
  have lk5 := hts (.code Lib.Math.min.name Lib.Math.min.code 2 (some .int)) (by decide +kernel)
  have hinX3 : ∀ w ∈ wsX30, w ∈ wsX3_widthFor := by decide +kernel
  have hl : lv_has ls 6 [(0, .ref g0), (1, .int (nI t)), (2, .int (nI ly))] := hl
  refine lv_iload_n hx hb dX3_widthFor_0 rfl (lv_at hl 1 rfl) ?_
  refine lv_aload_n hx hb dX3_widthFor_1 rfl (lv_at hl 0 rfl) ?_
  refine va_get (D := D) (ci := 3) (v := .ref g1) (C := RX3) (T := TX3) (N := 1) hx hb hts hinX3 hown hK hP 0 rfl rfl 0 (by decide) lk1 (fun _ h9 => h9) rfl dX3_widthFor_2 ?_
  refine lv_iconst (v := nI 1) hx hb dX3_widthFor_5 (by decide) ?_
  refine nv_iald hx hb hK hP 1 rfl (by omega) (by decide) dX3_widthFor_6 ?_
  have bd_1 := hGs 1
  refine va_mmin hx hb (by rw [hml]; exact hl.1.symm) hown lk2 lk3 lk4 lk5 (Nat.le_of_ble_eq_true rfl) (Nat.le_of_ble_eq_true rfl) (Nat.zero_le _) (Nat.zero_le _) dX3_widthFor_7 ?_
  refine top_eq (nI_min (by omega) (by omega)) ?_
  refine lv_istore_n (lv' := [(3, .int (nI (min t (G 1)))), (0, .ref g0), (1, .int (nI t)), (2, .int (nI ly))]) hx hb dX3_widthFor_10 rfl hl (by decide) rfl (fun ls hl => ?_)
  refine lv_iload_n hx hb dX3_widthFor_11 rfl (lv_at hl 3 rfl) ?_
  refine nv_if_ne (tgt := 19) hx hb dX3_widthFor_12 (by decide) (by omega) (fun c_2 => ?_) (fun c_2 => ?_)
  · skip
    refine lv_iload_n hx hb dX3_widthFor_19 rfl (lv_at hl 2 rfl) ?_
    refine lv_iload_n hx hb dX3_widthFor_20 rfl (lv_at hl 0 rfl) ?_
    refine nv_isub hx hb dX3_widthFor_21 (by omega) ?_
    refine lv_istore (lv' := [(4, .int (nI (t - (min t (G 1))))), (3, .int (nI (min t (G 1)))), (0, .ref g0), (1, .int (nI t)), (2, .int (nI ly))]) hx hb dX3_widthFor_22 hl (by decide) rfl (fun ls hl => ?_)
    refine lv_aload_n hx hb dX3_widthFor_24 rfl (lv_at hl 2 rfl) ?_
    refine va_get (D := D) (ci := 3) (v := .ref g1) (C := RX3) (T := TX3) (N := 1) hx hb hts hinX3 hown hK hP 0 rfl rfl 0 (by decide) lk1 (fun _ h9 => h9) rfl dX3_widthFor_25 ?_
    refine lv_iconst (v := nI 0) hx hb dX3_widthFor_28 (by decide) ?_
    refine nv_iald hx hb hK hP 1 rfl (by omega) (by decide) dX3_widthFor_29 ?_
    have bd_3 := hGs 0
    refine lv_iload hx hb dX3_widthFor_30 (lv_at hl 0 rfl) ?_
    refine nv_imul hx hb dX3_widthFor_32 ?_
    have bm := Nat.mul_le_mul (hGs 0) (show t - (min t (G 1)) ≤ 100 by omega)
    refine lv_bipush (v := nI 100) hx hb dX3_widthFor_33 (by decide) ?_
    refine nv_idiv hx hb dX3_widthFor_35 (by omega) (by omega) (by omega) ?_
    refine lv_istore (lv' := [(5, .int (nI (((G 0) * (t - (min t (G 1)))) / 100))), (4, .int (nI (t - (min t (G 1))))), (3, .int (nI (min t (G 1)))), (0, .ref g0), (1, .int (nI t)), (2, .int (nI ly))]) hx hb dX3_widthFor_36 hl (by decide) rfl (fun ls hl => ?_)
    refine lv_iload hx hb dX3_widthFor_38 (lv_at hl 0 rfl) ?_
    refine lv_aload_n hx hb dX3_widthFor_40 rfl (lv_at hl 3 rfl) ?_
    refine va_get (D := D) (ci := 3) (v := .ref g1) (C := RX3) (T := TX3) (N := 1) hx hb hts hinX3 hown hK hP 0 rfl rfl 0 (by decide) lk1 (fun _ h9 => h9) rfl dX3_widthFor_41 ?_
    refine lv_iconst (v := nI 2) hx hb dX3_widthFor_44 (by decide) ?_
    refine nv_iald hx hb hK hP 1 rfl (by omega) (by decide) dX3_widthFor_45 ?_
    have bd_4 := hGs 2
    refine nv_icmp_ge (tgt := 53) hx hb dX3_widthFor_46 (by decide) (by omega) (by omega) (fun c_5 => ?_) (fun c_5 => ?_)
    · skip
      refine lv_iload hx hb dX3_widthFor_53 (lv_at hl 0 rfl) ?_
      exact hret _ () _ _ _ _ dX3_widthFor_55 (by unfold wd shr; rw [if_neg c_2, if_neg (by omega)]) hP hD hS
    · skip
      refine lv_iconst (v := nI 0) hx hb dX3_widthFor_49 (by decide) ?_
      refine lv_goto (tgt := 55) hx hb dX3_widthFor_50 (by decide) ?_
      exact hret _ () _ _ _ _ dX3_widthFor_55 (by unfold wd shr; rw [if_neg c_2, if_pos (by omega)]) hP hD hS
  · skip
    refine lv_iload_n hx hb dX3_widthFor_15 rfl (lv_at hl 0 rfl) ?_
    refine lv_goto (tgt := 22) hx hb dX3_widthFor_16 (by decide) ?_
    refine lv_istore (lv' := [(4, .int (nI (min t (G 1)))), (3, .int (nI (min t (G 1)))), (0, .ref g0), (1, .int (nI t)), (2, .int (nI ly))]) hx hb dX3_widthFor_22 hl (by decide) rfl (fun ls hl => ?_)
    refine lv_aload_n hx hb dX3_widthFor_24 rfl (lv_at hl 2 rfl) ?_
    refine va_get (D := D) (ci := 3) (v := .ref g1) (C := RX3) (T := TX3) (N := 1) hx hb hts hinX3 hown hK hP 0 rfl rfl 0 (by decide) lk1 (fun _ h9 => h9) rfl dX3_widthFor_25 ?_
    refine lv_iconst (v := nI 0) hx hb dX3_widthFor_28 (by decide) ?_
    refine nv_iald hx hb hK hP 1 rfl (by omega) (by decide) dX3_widthFor_29 ?_
    have bd_6 := hGs 0
    refine lv_iload hx hb dX3_widthFor_30 (lv_at hl 0 rfl) ?_
    refine nv_imul hx hb dX3_widthFor_32 ?_
    have bm := Nat.mul_le_mul (hGs 0) (show min t (G 1) ≤ 100 by omega)
    refine lv_bipush (v := nI 100) hx hb dX3_widthFor_33 (by decide) ?_
    refine nv_idiv hx hb dX3_widthFor_35 (by omega) (by omega) (by omega) ?_
    refine lv_istore (lv' := [(5, .int (nI (((G 0) * (min t (G 1))) / 100))), (4, .int (nI (min t (G 1)))), (3, .int (nI (min t (G 1)))), (0, .ref g0), (1, .int (nI t)), (2, .int (nI ly))]) hx hb dX3_widthFor_36 hl (by decide) rfl (fun ls hl => ?_)
    refine lv_iload hx hb dX3_widthFor_38 (lv_at hl 0 rfl) ?_
    refine lv_aload_n hx hb dX3_widthFor_40 rfl (lv_at hl 3 rfl) ?_
    refine va_get (D := D) (ci := 3) (v := .ref g1) (C := RX3) (T := TX3) (N := 1) hx hb hts hinX3 hown hK hP 0 rfl rfl 0 (by decide) lk1 (fun _ h9 => h9) rfl dX3_widthFor_41 ?_
    refine lv_iconst (v := nI 2) hx hb dX3_widthFor_44 (by decide) ?_
    refine nv_iald hx hb hK hP 1 rfl (by omega) (by decide) dX3_widthFor_45 ?_
    have bd_7 := hGs 2
    refine nv_icmp_ge (tgt := 53) hx hb dX3_widthFor_46 (by decide) (by omega) (by omega) (fun c_8 => ?_) (fun c_8 => ?_)
    · skip
      refine lv_iload hx hb dX3_widthFor_53 (lv_at hl 0 rfl) ?_
      exact hret _ () _ _ _ _ dX3_widthFor_55 (by unfold wd shr; rw [if_pos c_2, if_neg (by omega)]) hP hD hS
    · skip
      refine lv_iconst (v := nI 0) hx hb dX3_widthFor_49 (by decide) ?_
      refine lv_goto (tgt := 55) hx hb dX3_widthFor_50 (by decide) ?_
      exact hret _ () _ _ _ _ dX3_widthFor_55 (by unfold wd shr; rw [if_pos c_2, if_pos (by omega)]) hP hD hS

set_option maxHeartbeats 4000000 in
set_option maxRecDepth 100000 in
theorem c_X3_swell (l : Launch) (D : va_G) (cI cZ : ClassId) (tt : Nat → Nat) (sz : Nat) (g0 g1 : Nat) (G : Nat → Nat)  : MI l yX3_swell wsX3_swell ({ frames := 0, cells := 0, slots := 0, locals := 0 } : Room) D cI cZ tt [.ref g0] [(g0, .inr (3, [.ref g1])), (g1, .inl (cI, 4, .inl (nF G)))] sz (fun (r : Int32) (_ : Unit) => r = nI (G 3)) (fun (_ : Unit) => [(g0, .inr (3, [.ref g1])), (g1, .inl (cI, 4, .inl (nF G)))]) := by
  refine entI (cc := cX3_swell) 1 (by decide) rfl (Nat.le_of_ble_eq_true rfl) (Or.inl rfl) (fun pr e s m args below meth c0 A Q H ls hx hb hml hown hts hsz hA hP hK hD hS hG hret hl => ?_)
  have hown : s.vm.findClass RX3 = some m.cls := hown
  have lk1 := hts (.fieldLink RX3 9 "BurinLines$Tool" "settings" "[I") (by decide +kernel)
  have hinX3 : ∀ w ∈ wsX30, w ∈ wsX3_swell := by decide +kernel
  have hl : lv_has ls 1 [(0, .ref g0)] := hl
  refine lv_aload_n hx hb dX3_swell_0 rfl (lv_at hl 0 rfl) ?_
  refine va_get (D := D) (ci := 3) (v := .ref g1) (C := RX3) (T := TX3) (N := 1) hx hb hts hinX3 hown hK hP 0 rfl rfl 0 (by decide) lk1 (fun _ h9 => h9) rfl dX3_swell_1 ?_
  refine lv_iconst (v := nI 3) hx hb dX3_swell_4 (by decide) ?_
  refine nv_iald hx hb hK hP 1 rfl (by omega) (by decide) dX3_swell_5 ?_
  exact hret _ () _ _ _ _ dX3_swell_6 (rfl) hP hD hS

set_option maxHeartbeats 4000000 in
set_option maxRecDepth 100000 in
theorem c_X3_toneOf (l : Launch) (D : va_G) (cI cZ : ClassId) (tt : Nat → Nat) (sz : Nat) (g0 g1 : Nat) (G : Nat → Nat) (w : Nat) (hGs : ∀ k, G k ≤ 100) (hG4 : 4 ≤ G 0) (hw : w ≤ 200) : MI l yX3_toneOf wsX3_toneOf ({ frames := 0, cells := 0, slots := 0, locals := 0 } : Room) D cI cZ tt [.ref g0, .int (nI w)] [(g0, .inr (3, [.ref g1])), (g1, .inl (cI, 4, .inl (nF G)))] sz (fun (r : Int32) (_ : Unit) => r = nI (100 * w / G 0)) (fun (_ : Unit) => [(g0, .inr (3, [.ref g1])), (g1, .inl (cI, 4, .inl (nF G)))]) := by
  refine entI (cc := cX3_toneOf) 3 (by decide) rfl (Nat.le_of_ble_eq_true rfl) (Or.inl rfl) (fun pr e s m args below meth c0 A Q H ls hx hb hml hown hts hsz hA hP hK hD hS hG hret hl => ?_)
  have hown : s.vm.findClass RX3 = some m.cls := hown
  have lk1 := hts (.fieldLink RX3 9 "BurinLines$Tool" "settings" "[I") (by decide +kernel)
  have hinX3 : ∀ w ∈ wsX30, w ∈ wsX3_toneOf := by decide +kernel
  have hl : lv_has ls 3 [(0, .ref g0), (1, .int (nI w))] := hl
  refine lv_aload_n hx hb dX3_toneOf_0 rfl (lv_at hl 0 rfl) ?_
  refine va_get (D := D) (ci := 3) (v := .ref g1) (C := RX3) (T := TX3) (N := 1) hx hb hts hinX3 hown hK hP 0 rfl rfl 0 (by decide) lk1 (fun _ h9 => h9) rfl dX3_toneOf_1 ?_
  refine lv_iconst (v := nI 0) hx hb dX3_toneOf_4 (by decide) ?_
  refine nv_iald hx hb hK hP 1 rfl (by omega) (by decide) dX3_toneOf_5 ?_
  have bd_1 := hGs 0
  refine lv_istore_n (lv' := [(2, .int (nI (G 0))), (0, .ref g0), (1, .int (nI w))]) hx hb dX3_toneOf_6 rfl hl (by decide) rfl (fun ls hl => ?_)
  refine lv_iload_n hx hb dX3_toneOf_7 rfl (lv_at hl 0 rfl) ?_
  refine nv_if_le (tgt := 20) hx hb dX3_toneOf_8 (by decide) (by omega) (fun c_2 => ?_) (fun c_2 => ?_)
  · skip
    exact absurd c_2 (by omega)
  · skip
    refine lv_bipush (v := nI 100) hx hb dX3_toneOf_11 (by decide) ?_
    refine lv_iload_n hx hb dX3_toneOf_13 rfl (lv_at hl 2 rfl) ?_
    refine nv_imul hx hb dX3_toneOf_14 ?_
    refine lv_iload_n hx hb dX3_toneOf_15 rfl (lv_at hl 0 rfl) ?_
    refine nv_idiv hx hb dX3_toneOf_16 (by omega) (by omega) (by omega) ?_
    refine lv_goto (tgt := 21) hx hb dX3_toneOf_17 (by decide) ?_
    exact hret _ () _ _ _ _ dX3_toneOf_21 (rfl) hP hD hS

abbrev okset (what v : Int32) : Prop := ¬ what < 0 ∧ ¬ nI 3 < what ∧ ¬ v < (stV 1).getD what.toNatClampNeg 0 ∧ v ≤ (stV 2).getD what.toNatClampNeg 0
def setG (G : Nat → Nat) (what v : Int32) : Nat → Nat := if okset what v then va_up G what.toNatClampNeg v.toNatClampNeg else G
def setR (G : Nat → Nat) (what v : Int32) : Int32 := if okset what v then nI (G what.toNatClampNeg) else -3
theorem st_lo : ∀ k : Fin 4, (0 : Int) ≤ ((stV 1).getD k.val 0).toInt ∧ ((stV 2).getD k.val 0).toInt ≤ 100 := by decide +kernel
theorem set_nat {k : Nat} {v : Int32} (hk : k ≤ 3) (h1 : ¬ v < (stV 1).getD k 0) (h2 : v ≤ (stV 2).getD k 0) : ∃ b : Nat, b ≤ 100 ∧ v = nI b := by
  obtain ⟨a1, a2⟩ := st_lo ⟨k, by omega⟩
  rw [i_lt] at h1
  rw [i_le] at h2
  refine ⟨v.toInt.toNat, by simp only at a1 a2; omega, ?_⟩
  rw [i_eq, nI_T (by simp only at a1 a2; omega)]
  simp only at a1 a2
  omega
theorem setG_yes {G : Nat → Nat} {k b : Nat} (hk : k ≤ 3) (hb : b ≤ 100) (h : okset (nI k) (nI b)) : setG G (nI k) (nI b) = va_up G k b ∧ setR G (nI k) (nI b) = nI (G k) := by
  unfold setG setR
  rw [if_pos h, if_pos h, nI_clamp (by omega), nI_clamp (by omega)]
  exact ⟨rfl, rfl⟩
theorem setG_no {G : Nat → Nat} {what v : Int32} (h : ¬ okset what v) : setG G what v = G ∧ setR G what v = -3 := by
  unfold setG setR
  rw [if_neg h, if_neg h]
  exact ⟨rfl, rfl⟩
theorem okset_k {k : Nat} {v : Int32} (hk : k ≤ 3) : okset (nI k) v ↔ (¬ v < (stV 1).getD k 0 ∧ v ≤ (stV 2).getD k 0) := by
  unfold okset
  rw [nI_clamp (by omega)]
  constructor
  · intro h; exact h.2.2
  · intro h
    exact ⟨nI_pos (by omega), nI_nlt (by omega) (by omega), h⟩

set_option maxHeartbeats 4000000 in
set_option maxRecDepth 100000 in
theorem c_X3_change (l : Launch) (D : va_G) (cI cZ : ClassId) (tt : Nat → Nat) (sz : Nat) (g0 g1 : Nat) (G : Nat → Nat) (what v : Int32) (hGs : ∀ k, G k ≤ 100) : MI l yX3_change wsX3_change ({ frames := 0, cells := 0, slots := 0, locals := 0 } : Room) D cI cZ tt [.ref g0, .int (what), .int (v)] [(g0, .inr (3, [.ref g1])), (g1, .inl (cI, 4, .inl (nF G)))] sz (fun (r : Int32) (u : (Nat → Nat)) => r = setR G what v ∧ (u = setG G what v)) (fun (u : (Nat → Nat)) => [(g0, .inr (3, [.ref g1])), (g1, .inl (cI, 4, .inl (nF u)))]) := by
  refine entI (cc := cX3_change) 4 (by decide) rfl (Nat.le_of_ble_eq_true rfl) (Or.inl rfl) (fun pr e s m args below meth c0 A Q H ls hx hb hml hown hts hsz hA hP hK hD hS hG hret hl => ?_)
  have hown : s.vm.findClass RX3 = some m.cls := hown
  have lk1 := hts (.fieldLink RX3 9 "BurinLines$Tool" "settings" "[I") (by decide +kernel)
  have hinX3 : ∀ w ∈ wsX30, w ∈ wsX3_change := by decide +kernel
  have hl : lv_has ls 4 [(0, .ref g0), (1, .int (what)), (2, .int (v))] := hl
  refine lv_iload_n hx hb dX3_change_0 rfl (lv_at hl 1 rfl) ?_
  refine lv_if_lt (tgt := 27) hx hb dX3_change_1 (by decide) (fun c_1 => ?_) (fun c_1 => ?_)
  · skip
    refine lv_bipush (v := (-3)) hx hb dX3_change_27 (by decide) ?_
    exact hret _ _ _ _ _ _ dX3_change_29 (⟨by exact (setG_no (fun q => q.1 c_1)).2.symm, by exact (setG_no (fun q => q.1 c_1)).1.symm⟩) hP hD hS
  · skip
    refine lv_iload_n hx hb dX3_change_4 rfl (lv_at hl 1 rfl) ?_
    refine lv_iconst (v := nI 3) hx hb dX3_change_5 (by decide) ?_
    refine lv_icmp_gt (tgt := 27) hx hb dX3_change_6 (by decide) (fun c_2 => ?_) (fun c_2 => ?_)
    · skip
      refine lv_bipush (v := (-3)) hx hb dX3_change_27 (by decide) ?_
      exact hret _ _ _ _ _ _ dX3_change_29 (⟨by exact (setG_no (fun q => q.2.1 c_2)).2.symm, by exact (setG_no (fun q => q.2.1 c_2)).1.symm⟩) hP hD hS
    · skip
      obtain ⟨k, hk3, rfl⟩ := up_to' (by decide) c_1 c_2
      refine lv_iload_n hx hb dX3_change_9 rfl (lv_at hl 2 rfl) ?_
      refine nv_sget hx hb hG hS hown 1 (by decide) rfl dX3_change_10 ?_
      refine lv_iload_n hx hb dX3_change_13 rfl (lv_at hl 1 rfl) ?_
      refine nv_tab hx hb hG hS 1 (by decide) (i := k) (by show k < 4; omega) dX3_change_14 ?_
      refine lv_icmp_lt (tgt := 27) hx hb dX3_change_15 (by decide) (fun c_3 => ?_) (fun c_3 => ?_)
      · skip
        refine lv_bipush (v := (-3)) hx hb dX3_change_27 (by decide) ?_
        exact hret _ _ _ _ _ _ dX3_change_29 (⟨by exact (setG_no (fun q => ((okset_k hk3).mp q).1 c_3)).2.symm, by exact (setG_no (fun q => ((okset_k hk3).mp q).1 c_3)).1.symm⟩) hP hD hS
      · skip
        refine lv_iload_n hx hb dX3_change_18 rfl (lv_at hl 2 rfl) ?_
        refine nv_sget hx hb hG hS hown 2 (by decide) rfl dX3_change_19 ?_
        refine lv_iload_n hx hb dX3_change_22 rfl (lv_at hl 1 rfl) ?_
        refine nv_tab hx hb hG hS 2 (by decide) (i := k) (by show k < 4; omega) dX3_change_23 ?_
        refine lv_icmp_le (tgt := 30) hx hb dX3_change_24 (by decide) (fun c_4 => ?_) (fun c_4 => ?_)
        · skip
          obtain ⟨b, hb1, rfl⟩ := set_nat hk3 c_3 c_4
          obtain ⟨es1, es2⟩ := setG_yes (G := G) hk3 hb1 ((okset_k hk3).mpr ⟨c_3, c_4⟩)
          refine lv_aload_n hx hb dX3_change_30 rfl (lv_at hl 0 rfl) ?_
          refine va_get (D := D) (ci := 3) (v := .ref g1) (C := RX3) (T := TX3) (N := 1) hx hb hts hinX3 hown hK hP 0 rfl rfl 0 (by decide) lk1 (fun _ h9 => h9) rfl dX3_change_31 ?_
          refine lv_iload_n hx hb dX3_change_34 rfl (lv_at hl 1 rfl) ?_
          refine nv_iald hx hb hK hP 1 rfl (by omega) (by decide) dX3_change_35 ?_
          refine lv_istore_n (lv' := [(3, .int (nI (G k))), (0, .ref g0), (1, .int (nI k)), (2, .int (nI b))]) hx hb dX3_change_36 rfl hl (by decide) rfl (fun ls hl => ?_)
          refine lv_aload_n hx hb dX3_change_37 rfl (lv_at hl 1 rfl) ?_
          refine va_get (D := D) (ci := 3) (v := .ref g1) (C := RX3) (T := TX3) (N := 1) hx hb hts hinX3 hown hK hP 0 rfl rfl 0 (by decide) lk1 (fun _ h9 => h9) rfl dX3_change_38 ?_
          refine lv_iload_n hx hb dX3_change_41 rfl (lv_at hl 2 rfl) ?_
          refine lv_iload_n hx hb dX3_change_42 rfl (lv_at hl 3 rfl) ?_
          refine nv_iast hx hb hK hP hD hS 1 rfl (by omega) (by decide) dX3_change_43 (fun H locs hP hD hS => ?_)
          have hP : va_P D vwCl [(g0, .inr (3, [.ref g1])), (g1, .inl (cI, 4, .inl (nF (va_up G k b))))] H := hP
          have hD : va_D A [(g0, .inr (3, [.ref g1])), (g1, .inl (cI, 4, .inl (nF (va_up G k b))))] := hD
          refine lv_iload_n hx hb dX3_change_44 rfl (lv_at hl 0 rfl) ?_
          exact hret _ _ _ _ _ _ dX3_change_45 (⟨by exact es2.symm, by exact es1.symm⟩) hP hD hS
        · skip
          refine lv_bipush (v := (-3)) hx hb dX3_change_27 (by decide) ?_
          exact hret _ _ _ _ _ _ dX3_change_29 (⟨by exact (setG_no (fun q => c_4 ((okset_k hk3).mp q).2)).2.symm, by exact (setG_no (fun q => c_4 ((okset_k hk3).mp q).2)).1.symm⟩) hP hD hS

set_option maxHeartbeats 4000000 in
set_option maxRecDepth 100000 in
theorem c_X1_wayFor (l : Launch) (D : va_G) (cI cZ : ClassId) (tt : Nat → Nat) (sz : Nat) (l0 l1 l2 l3 l4 l5 l6 l7 : Nat) (nm np : Nat) (P Y V F L Z X : Nat → Nat) (u : Nat) (hu : u < 8) (hnm : nm < 2) : MI l yX1_wayFor wsX1_wayFor ({ frames := 1, cells := 0, slots := 0, locals := 22 } : Room) D cI cZ tt [.ref l0, .int (nI u)] [(l0, .inr (1, [.int (nI nm), .ref l1, .ref l2, .ref l3, .ref l4, .ref l5, .ref l6, .ref l7, .int (nI np)])), (l1, .inl (cI, 64, .inl (nF P))), (l2, .inl (cI, 64, .inl (nF Y))), (l3, .inl (cI, 64, .inl (nF V))), (l4, .inl (cI, 64, .inl (nF F))), (l5, .inl (cI, 64, .inl (nF L))), (l6, .inl (cI, 64, .inl (nF Z))), (l7, .inl (cI, 64, .inl (nF X)))] sz (fun (r : Int32) (_ : Unit) => r = nI (wy nm u)) (fun (_ : Unit) => [(l0, .inr (1, [.int (nI nm), .ref l1, .ref l2, .ref l3, .ref l4, .ref l5, .ref l6, .ref l7, .int (nI np)])), (l1, .inl (cI, 64, .inl (nF P))), (l2, .inl (cI, 64, .inl (nF Y))), (l3, .inl (cI, 64, .inl (nF V))), (l4, .inl (cI, 64, .inl (nF F))), (l5, .inl (cI, 64, .inl (nF L))), (l6, .inl (cI, 64, .inl (nF Z))), (l7, .inl (cI, 64, .inl (nF X)))]) := by
  refine entI (cc := cX1_wayFor) 3 (by decide) rfl (Nat.le_of_ble_eq_true rfl) (Or.inl rfl) (fun pr e s m args below meth c0 A Q H ls hx hb hml hown hts hsz hA hP hK hD hS hG hret hl => ?_)
  have hown : s.vm.findClass RX1 = some m.cls := hown
  have lk1 := hts (.fieldLink RX1 33 "BurinLines$Layer" "number" "I") (by decide +kernel)
  have lk2 := hts (.methodLink RX1 69 yJ9_floorMod_7cf53) (by decide +kernel)
  have lk3 := hts (.static yJ9_floorMod_7cf53) (by decide +kernel)
  have lk4 := hts (.initialized RJ9) (by decide +kernel)
  have lk5 := hts (.code yJ9_floorMod_7cf53 cJ9_floorMod_7cf53 3 (some .int)) (by decide +kernel)
  have hinX1 : ∀ w ∈ wsX10, w ∈ wsX1_wayFor := by decide +kernel
  have hl : lv_has ls 3 [(0, .ref l0), (1, .int (nI u))] := hl
  refine lv_aload_n hx hb dX1_wayFor_0 rfl (lv_at hl 0 rfl) ?_
  refine va_get (D := D) (ci := 1) (v := .int (nI nm)) (C := RX1) (T := TX1) (N := 9) hx hb hts hinX1 hown hK hP 0 rfl rfl 0 (by decide) lk1 (fun _ h9 => h9) rfl dX1_wayFor_1 ?_
  refine nv_if_ne (tgt := 11) hx hb dX1_wayFor_4 (by decide) (by omega) (fun c_1 => ?_) (fun c_1 => ?_)
  · skip
    refine lv_iload_n hx hb dX1_wayFor_11 rfl (lv_at hl 1 rfl) ?_
    refine lv_iconst (v := nI 4) hx hb dX1_wayFor_12 (by decide) ?_
    refine nv_iadd hx hb dX1_wayFor_13 ?_
    refine lv_istore_n (lv' := [(2, .int (nI (u + 4))), (0, .ref l0), (1, .int (nI u))]) hx hb dX1_wayFor_14 rfl hl (by decide) rfl (fun ls hl => ?_)
    refine lv_iload_n hx hb dX1_wayFor_15 rfl (lv_at hl 0 rfl) ?_
    refine lv_bipush (v := nI 8) hx hb dX1_wayFor_16 (by decide) ?_
    refine nv_fm hx hb (by rw [hml]; exact hl.1.symm) hown lk2 lk3 lk4 lk5 (Nat.le_of_ble_eq_true rfl) (Nat.le_of_ble_eq_true rfl) (Nat.zero_le _) (Nat.zero_le _) dX1_wayFor_18 ?_
    refine top_eq (fmo8_n (by omega)) ?_
    refine lv_iconst (v := nI 2) hx hb dX1_wayFor_21 (by decide) ?_
    refine nv_idiv hx hb dX1_wayFor_22 (by omega) (by omega) (by omega) ?_
    exact hret _ () _ _ _ _ dX1_wayFor_23 (congrArg nI (by unfold wy; omega)) hP hD hS
  · skip
    refine lv_iload_n hx hb dX1_wayFor_7 rfl (lv_at hl 1 rfl) ?_
    refine lv_goto (tgt := 14) hx hb dX1_wayFor_8 (by decide) ?_
    refine lv_istore_n (lv' := [(2, .int (nI u)), (0, .ref l0), (1, .int (nI u))]) hx hb dX1_wayFor_14 rfl hl (by decide) rfl (fun ls hl => ?_)
    refine lv_iload_n hx hb dX1_wayFor_15 rfl (lv_at hl 0 rfl) ?_
    refine lv_bipush (v := nI 8) hx hb dX1_wayFor_16 (by decide) ?_
    refine nv_fm hx hb (by rw [hml]; exact hl.1.symm) hown lk2 lk3 lk4 lk5 (Nat.le_of_ble_eq_true rfl) (Nat.le_of_ble_eq_true rfl) (Nat.zero_le _) (Nat.zero_le _) dX1_wayFor_18 ?_
    refine top_eq (fmo8_n (by omega)) ?_
    refine lv_iconst (v := nI 2) hx hb dX1_wayFor_21 (by decide) ?_
    refine nv_idiv hx hb dX1_wayFor_22 (by omega) (by omega) (by omega) ?_
    exact hret _ () _ _ _ _ dX1_wayFor_23 (congrArg nI (by unfold wy; omega)) hP hD hS

set_option maxHeartbeats 4000000 in
set_option maxRecDepth 100000 in
theorem c_X1_tiedTo_on (l : Launch) (D : va_G) (cI cZ : ClassId) (tt : Nat → Nat) (sz : Nat) (l0 l1 l2 l3 l4 l5 l6 l7 : Nat) (nm np : Nat) (P Y V F L Z X : Nat → Nat) (p y : Nat → Nat) (c : Nat) (hPp : ∀ k, k < 64 → P k = p k) (hYy : ∀ k, k < 64 → Y k = y k) (hp : ∀ k, p k ≤ 100) (hy : ∀ k, y k < 4) (hc : c < 64) : MI l yX1_tiedTo wsX1_tiedTo ({ frames := 1, cells := 0, slots := 0, locals := 21 } : Room) D cI cZ tt [.ref l0, .int (nI c), .int (nI 1)] [(l0, .inr (1, [.int (nI nm), .ref l1, .ref l2, .ref l3, .ref l4, .ref l5, .ref l6, .ref l7, .int (nI np)])), (l1, .inl (cI, 64, .inl (nF P))), (l2, .inl (cI, 64, .inl (nF Y))), (l3, .inl (cI, 64, .inl (nF V))), (l4, .inl (cI, 64, .inl (nF F))), (l5, .inl (cI, 64, .inl (nF L))), (l6, .inl (cI, 64, .inl (nF Z))), (l7, .inl (cI, 64, .inl (nF X)))] sz (fun (r : Int32) (_ : Unit) => r = rI (tn p y c)) (fun (_ : Unit) => [(l0, .inr (1, [.int (nI nm), .ref l1, .ref l2, .ref l3, .ref l4, .ref l5, .ref l6, .ref l7, .int (nI np)])), (l1, .inl (cI, 64, .inl (nF P))), (l2, .inl (cI, 64, .inl (nF Y))), (l3, .inl (cI, 64, .inl (nF V))), (l4, .inl (cI, 64, .inl (nF F))), (l5, .inl (cI, 64, .inl (nF L))), (l6, .inl (cI, 64, .inl (nF Z))), (l7, .inl (cI, 64, .inl (nF X)))]) := by
  refine entI (cc := cX1_tiedTo) 7 (by decide) rfl (Nat.le_of_ble_eq_true rfl) (Or.inl rfl) (fun pr e s m args below meth c0 A Q H ls hx hb hml hown hts hsz hA hP hK hD hS hG hret hl => ?_)
  have hown : s.vm.findClass RX1 = some m.cls := hown
  have lk1 := hts (.fieldLink RX1 15 "BurinLines$Layer" "ways" "[I") (by decide +kernel)
  have lk2 := hts (.initialized RX4) (by decide +kernel)
  have lk3 := hts (.static yX4_isCell) (by decide +kernel)
  have lk4 := hts (.static yX4_cellOf) (by decide +kernel)
  have lk5 := hts (.fieldLink RX1 9 "BurinLines$Layer" "wants" "[I") (by decide +kernel)
  have hinX1 : ∀ w ∈ wsX10, w ∈ wsX1_tiedTo := by decide +kernel
  have hl : lv_has ls 7 [(0, .ref l0), (1, .int (nI c)), (2, .int (nI 1))] := hl
  refine lv_aload_n hx hb dX1_tiedTo_0 rfl (lv_at hl 0 rfl) ?_
  refine va_get (D := D) (ci := 1) (v := .ref l2) (C := RX1) (T := TX1) (N := 9) hx hb hts hinX1 hown hK hP 0 rfl rfl 2 (by decide) lk1 (fun _ h9 => h9) rfl dX1_tiedTo_1 ?_
  refine lv_iload_n hx hb dX1_tiedTo_4 rfl (lv_at hl 1 rfl) ?_
  refine nv_iald hx hb hK hP 2 rfl (by omega) (by decide) dX1_tiedTo_5 ?_
  refine top_eq (congrArg nI (hYy _ hc)) ?_
  refine lv_istore_n (lv' := [(3, .int (nI (y c))), (0, .ref l0), (1, .int (nI c)), (2, .int (nI 1))]) hx hb dX1_tiedTo_6 rfl hl (by decide) rfl (fun ls hl => ?_)
  refine lv_iload_n hx hb dX1_tiedTo_7 rfl (lv_at hl 2 rfl) ?_
  refine lv_bipush (v := nI 8) hx hb dX1_tiedTo_8 (by decide) ?_
  refine nv_irem hx hb dX1_tiedTo_10 (by omega) (by omega) (by omega) ?_
  refine lv_iload_n hx hb dX1_tiedTo_11 rfl (lv_at hl 3 rfl) ?_
  refine nv_sget hx hb hG hS hown 3 (by decide) rfl dX1_tiedTo_12 ?_
  have byc := hy c
  refine lv_iload_n hx hb dX1_tiedTo_15 rfl (lv_at hl 0 rfl) ?_
  refine nv_tab hx hb hG hS 3 (by decide) (i := (y c)) (by show y c < 4; omega) dX1_tiedTo_16 ?_
  refine lv_imul hx hb dX1_tiedTo_17 ?_
  refine lv_iadd hx hb dX1_tiedTo_18 ?_
  refine lv_istore (lv' := [(4, .int ((nI (c % 8)) + ((nI 1) * ((stV 3).getD (y c) 0)))), (3, .int (nI (y c))), (0, .ref l0), (1, .int (nI c)), (2, .int (nI 1))]) hx hb dX1_tiedTo_19 hl (by decide) rfl (fun ls hl => ?_)
  refine lv_iload_n hx hb dX1_tiedTo_21 rfl (lv_at hl 3 rfl) ?_
  refine lv_bipush (v := nI 8) hx hb dX1_tiedTo_22 (by decide) ?_
  refine nv_idiv hx hb dX1_tiedTo_24 (by omega) (by omega) (by omega) ?_
  refine lv_iload_n hx hb dX1_tiedTo_25 rfl (lv_at hl 4 rfl) ?_
  refine nv_sget hx hb hG hS hown 4 (by decide) rfl dX1_tiedTo_26 ?_
  refine lv_iload_n hx hb dX1_tiedTo_29 rfl (lv_at hl 1 rfl) ?_
  refine nv_tab hx hb hG hS 4 (by decide) (i := (y c)) (by show y c < 4; omega) dX1_tiedTo_30 ?_
  refine lv_imul hx hb dX1_tiedTo_31 ?_
  refine lv_iadd hx hb dX1_tiedTo_32 ?_
  refine lv_istore (lv' := [(5, .int ((nI (c / 8)) + ((nI 1) * ((stV 4).getD (y c) 0)))), (4, .int ((nI (c % 8)) + ((nI 1) * ((stV 3).getD (y c) 0)))), (3, .int (nI (y c))), (0, .ref l0), (1, .int (nI c)), (2, .int (nI 1))]) hx hb dX1_tiedTo_33 hl (by decide) rfl (fun ls hl => ?_)
  refine lv_iload hx hb dX1_tiedTo_35 (lv_at hl 1 rfl) ?_
  refine lv_iload hx hb dX1_tiedTo_37 (lv_at hl 0 rfl) ?_
  refine gcSN (As := [.int ((nI (c % 8)) + ((nI 1) * ((stV 3).getD (y c) 0))), .int ((nI (c / 8)) + ((nI 1) * ((stV 4).getD (y c) 0)))]) (rest := []) ⟨hx, hb, hml, hown, hts⟩ (c_X4_isCell l ((nI (c % 8)) + ((nI 1) * ((stV 3).getD (y c) 0))) ((nI (c / 8)) + ((nI 1) * ((stV 4).getD (y c) 0))) ) (va_cnB 2 hts gX1_tiedTo_X4_isCell_n80 rfl rfl rfl (hG.1 (RX1, 80, yX4_isCell) (by decide +kernel)) lk2 (by decide +kernel) ⟨Nat.le_of_ble_eq_true rfl, Nat.le_of_ble_eq_true rfl⟩) lk3 hl.1 rfl rfl (Nat.le_of_ble_eq_true rfl) ⟨Nat.zero_le _, Nat.zero_le _⟩ dX1_tiedTo_39 ?_
  refine nv_ifb_ne (tgt := 47) hx hb dX1_tiedTo_42 (by decide) (fun c_1 => ?_) (fun c_1 => ?_)
  · skip
    have hn := (nx_of (hy c) hc).1.1.mp c_1
    obtain ⟨e1, e2⟩ := (nx_of (hy c) hc).2 hn
    have e1 : (nI (c % 8)) + ((nI 1) * ((stV 3).getD (y c) 0)) = nI (nx (y c) c % 8) := e1
    have e2 : (nI (c / 8)) + ((nI 1) * ((stV 4).getD (y c) 0)) = nI (nx (y c) c / 8) := e2
    rw [e1, e2] at hl
    refine lv_iload hx hb dX1_tiedTo_47 (lv_at hl 1 rfl) ?_
    refine lv_iload hx hb dX1_tiedTo_49 (lv_at hl 0 rfl) ?_
    refine gcSN (As := [.int (nI (nx (y c) c % 8)), .int (nI (nx (y c) c / 8))]) (rest := []) ⟨hx, hb, hml, hown, hts⟩ (c_X4_cellOf l (nx (y c) c % 8) (nx (y c) c / 8) ) (va_cnB 2 hts gX1_tiedTo_X4_cellOf_n84 rfl rfl rfl (hG.1 (RX1, 84, yX4_cellOf) (by decide +kernel)) lk2 (by decide +kernel) ⟨Nat.le_of_ble_eq_true rfl, Nat.le_of_ble_eq_true rfl⟩) lk4 hl.1 rfl rfl (Nat.le_of_ble_eq_true rfl) ⟨Nat.zero_le _, Nat.zero_le _⟩ dX1_tiedTo_51 ?_
    refine top_eq (congrArg nI (show 8 * (nx (y c) c / 8) + nx (y c) c % 8 = nx (y c) c by omega)) ?_
    refine lv_istore (lv' := [(6, .int (nI (nx (y c) c))), (5, .int (nI (nx (y c) c / 8))), (4, .int (nI (nx (y c) c % 8))), (3, .int (nI (y c))), (0, .ref l0), (1, .int (nI c)), (2, .int (nI 1))]) hx hb dX1_tiedTo_54 hl (by decide) rfl (fun ls hl => ?_)
    refine lv_aload_n hx hb dX1_tiedTo_56 rfl (lv_at hl 4 rfl) ?_
    refine va_get (D := D) (ci := 1) (v := .ref l1) (C := RX1) (T := TX1) (N := 9) hx hb hts hinX1 hown hK hP 0 rfl rfl 1 (by decide) lk5 (fun _ h9 => h9) rfl dX1_tiedTo_57 ?_
    refine lv_iload hx hb dX1_tiedTo_60 (lv_at hl 0 rfl) ?_
    refine nv_iald hx hb hK hP 1 rfl (by omega) (by decide) dX1_tiedTo_62 ?_
    refine top_eq (congrArg nI (hPp _ hn)) ?_
    refine nv_if_le (tgt := 82) hx hb dX1_tiedTo_63 (by decide) (by have := hp (nx (y c) c); omega) (fun c_2 => ?_) (fun c_2 => ?_)
    · skip
      refine lv_iconst (v := (-1)) hx hb dX1_tiedTo_82 (by decide) ?_
      exact hret _ () _ _ _ _ dX1_tiedTo_83 (by unfold tn; rw [if_neg (fun q => q.2.1 c_2)]; rfl) hP hD hS
    · skip
      refine lv_aload_n hx hb dX1_tiedTo_66 rfl (lv_at hl 4 rfl) ?_
      refine va_get (D := D) (ci := 1) (v := .ref l2) (C := RX1) (T := TX1) (N := 9) hx hb hts hinX1 hown hK hP 0 rfl rfl 2 (by decide) lk1 (fun _ h9 => h9) rfl dX1_tiedTo_67 ?_
      refine lv_iload hx hb dX1_tiedTo_70 (lv_at hl 0 rfl) ?_
      refine nv_iald hx hb hK hP 2 rfl (by omega) (by decide) dX1_tiedTo_72 ?_
      refine top_eq (congrArg nI (hYy _ hn)) ?_
      refine lv_iload_n hx hb dX1_tiedTo_73 rfl (lv_at hl 3 rfl) ?_
      refine nv_icmp_ne (tgt := 82) hx hb dX1_tiedTo_74 (by decide) (by have := hy (nx (y c) c); omega) (by have := hy (nx (y c) c); omega) (fun c_3 => ?_) (fun c_3 => ?_)
      · skip
        refine lv_iconst (v := (-1)) hx hb dX1_tiedTo_82 (by decide) ?_
        exact hret _ () _ _ _ _ dX1_tiedTo_83 (by unfold tn; rw [if_neg (fun q => c_3 q.2.2)]; rfl) hP hD hS
      · skip
        refine lv_iload hx hb dX1_tiedTo_77 (lv_at hl 0 rfl) ?_
        refine lv_goto (tgt := 83) hx hb dX1_tiedTo_79 (by decide) ?_
        exact hret _ () _ _ _ _ dX1_tiedTo_83 (by unfold tn; rw [if_pos ⟨hn, c_2, c_3⟩, rI_some (by omega)]) hP hD hS
  · skip
    refine lv_iconst (v := (-1)) hx hb dX1_tiedTo_45 (by decide) ?_
    exact hret _ () _ _ _ _ dX1_tiedTo_46 (by unfold tn; rw [if_neg (fun q => c_1 ((nx_of (hy c) hc).1.1.mpr q.1))]; rfl) hP hD hS

set_option maxHeartbeats 4000000 in
set_option maxRecDepth 100000 in
theorem c_X1_tiedTo_back (l : Launch) (D : va_G) (cI cZ : ClassId) (tt : Nat → Nat) (sz : Nat) (l0 l1 l2 l3 l4 l5 l6 l7 : Nat) (nm np : Nat) (P Y V F L Z X : Nat → Nat) (p y : Nat → Nat) (c : Nat) (hPp : ∀ k, k < 64 → P k = p k) (hYy : ∀ k, k < 64 → Y k = y k) (hp : ∀ k, p k ≤ 100) (hy : ∀ k, y k < 4) (hc : c < 64) : MI l yX1_tiedTo wsX1_tiedTo ({ frames := 1, cells := 0, slots := 0, locals := 21 } : Room) D cI cZ tt [.ref l0, .int (nI c), .int ((-1))] [(l0, .inr (1, [.int (nI nm), .ref l1, .ref l2, .ref l3, .ref l4, .ref l5, .ref l6, .ref l7, .int (nI np)])), (l1, .inl (cI, 64, .inl (nF P))), (l2, .inl (cI, 64, .inl (nF Y))), (l3, .inl (cI, 64, .inl (nF V))), (l4, .inl (cI, 64, .inl (nF F))), (l5, .inl (cI, 64, .inl (nF L))), (l6, .inl (cI, 64, .inl (nF Z))), (l7, .inl (cI, 64, .inl (nF X)))] sz (fun (r : Int32) (_ : Unit) => r = rI (tp p y c)) (fun (_ : Unit) => [(l0, .inr (1, [.int (nI nm), .ref l1, .ref l2, .ref l3, .ref l4, .ref l5, .ref l6, .ref l7, .int (nI np)])), (l1, .inl (cI, 64, .inl (nF P))), (l2, .inl (cI, 64, .inl (nF Y))), (l3, .inl (cI, 64, .inl (nF V))), (l4, .inl (cI, 64, .inl (nF F))), (l5, .inl (cI, 64, .inl (nF L))), (l6, .inl (cI, 64, .inl (nF Z))), (l7, .inl (cI, 64, .inl (nF X)))]) := by
  refine entI (cc := cX1_tiedTo) 7 (by decide) rfl (Nat.le_of_ble_eq_true rfl) (Or.inl rfl) (fun pr e s m args below meth c0 A Q H ls hx hb hml hown hts hsz hA hP hK hD hS hG hret hl => ?_)
  have hown : s.vm.findClass RX1 = some m.cls := hown
  have lk1 := hts (.fieldLink RX1 15 "BurinLines$Layer" "ways" "[I") (by decide +kernel)
  have lk2 := hts (.initialized RX4) (by decide +kernel)
  have lk3 := hts (.static yX4_isCell) (by decide +kernel)
  have lk4 := hts (.static yX4_cellOf) (by decide +kernel)
  have lk5 := hts (.fieldLink RX1 9 "BurinLines$Layer" "wants" "[I") (by decide +kernel)
  have hinX1 : ∀ w ∈ wsX10, w ∈ wsX1_tiedTo := by decide +kernel
  have hl : lv_has ls 7 [(0, .ref l0), (1, .int (nI c)), (2, .int ((-1)))] := hl
  refine lv_aload_n hx hb dX1_tiedTo_0 rfl (lv_at hl 0 rfl) ?_
  refine va_get (D := D) (ci := 1) (v := .ref l2) (C := RX1) (T := TX1) (N := 9) hx hb hts hinX1 hown hK hP 0 rfl rfl 2 (by decide) lk1 (fun _ h9 => h9) rfl dX1_tiedTo_1 ?_
  refine lv_iload_n hx hb dX1_tiedTo_4 rfl (lv_at hl 1 rfl) ?_
  refine nv_iald hx hb hK hP 2 rfl (by omega) (by decide) dX1_tiedTo_5 ?_
  refine top_eq (congrArg nI (hYy _ hc)) ?_
  refine lv_istore_n (lv' := [(3, .int (nI (y c))), (0, .ref l0), (1, .int (nI c)), (2, .int ((-1)))]) hx hb dX1_tiedTo_6 rfl hl (by decide) rfl (fun ls hl => ?_)
  refine lv_iload_n hx hb dX1_tiedTo_7 rfl (lv_at hl 2 rfl) ?_
  refine lv_bipush (v := nI 8) hx hb dX1_tiedTo_8 (by decide) ?_
  refine nv_irem hx hb dX1_tiedTo_10 (by omega) (by omega) (by omega) ?_
  refine lv_iload_n hx hb dX1_tiedTo_11 rfl (lv_at hl 3 rfl) ?_
  refine nv_sget hx hb hG hS hown 3 (by decide) rfl dX1_tiedTo_12 ?_
  have byc := hy c
  refine lv_iload_n hx hb dX1_tiedTo_15 rfl (lv_at hl 0 rfl) ?_
  refine nv_tab hx hb hG hS 3 (by decide) (i := (y c)) (by show y c < 4; omega) dX1_tiedTo_16 ?_
  refine lv_imul hx hb dX1_tiedTo_17 ?_
  refine lv_iadd hx hb dX1_tiedTo_18 ?_
  refine lv_istore (lv' := [(4, .int ((nI (c % 8)) + (((-1)) * ((stV 3).getD (y c) 0)))), (3, .int (nI (y c))), (0, .ref l0), (1, .int (nI c)), (2, .int ((-1)))]) hx hb dX1_tiedTo_19 hl (by decide) rfl (fun ls hl => ?_)
  refine lv_iload_n hx hb dX1_tiedTo_21 rfl (lv_at hl 3 rfl) ?_
  refine lv_bipush (v := nI 8) hx hb dX1_tiedTo_22 (by decide) ?_
  refine nv_idiv hx hb dX1_tiedTo_24 (by omega) (by omega) (by omega) ?_
  refine lv_iload_n hx hb dX1_tiedTo_25 rfl (lv_at hl 4 rfl) ?_
  refine nv_sget hx hb hG hS hown 4 (by decide) rfl dX1_tiedTo_26 ?_
  refine lv_iload_n hx hb dX1_tiedTo_29 rfl (lv_at hl 1 rfl) ?_
  refine nv_tab hx hb hG hS 4 (by decide) (i := (y c)) (by show y c < 4; omega) dX1_tiedTo_30 ?_
  refine lv_imul hx hb dX1_tiedTo_31 ?_
  refine lv_iadd hx hb dX1_tiedTo_32 ?_
  refine lv_istore (lv' := [(5, .int ((nI (c / 8)) + (((-1)) * ((stV 4).getD (y c) 0)))), (4, .int ((nI (c % 8)) + (((-1)) * ((stV 3).getD (y c) 0)))), (3, .int (nI (y c))), (0, .ref l0), (1, .int (nI c)), (2, .int ((-1)))]) hx hb dX1_tiedTo_33 hl (by decide) rfl (fun ls hl => ?_)
  refine lv_iload hx hb dX1_tiedTo_35 (lv_at hl 1 rfl) ?_
  refine lv_iload hx hb dX1_tiedTo_37 (lv_at hl 0 rfl) ?_
  refine gcSN (As := [.int ((nI (c % 8)) + (((-1)) * ((stV 3).getD (y c) 0))), .int ((nI (c / 8)) + (((-1)) * ((stV 4).getD (y c) 0)))]) (rest := []) ⟨hx, hb, hml, hown, hts⟩ (c_X4_isCell l ((nI (c % 8)) + (((-1)) * ((stV 3).getD (y c) 0))) ((nI (c / 8)) + (((-1)) * ((stV 4).getD (y c) 0))) ) (va_cnB 2 hts gX1_tiedTo_X4_isCell_n80 rfl rfl rfl (hG.1 (RX1, 80, yX4_isCell) (by decide +kernel)) lk2 (by decide +kernel) ⟨Nat.le_of_ble_eq_true rfl, Nat.le_of_ble_eq_true rfl⟩) lk3 hl.1 rfl rfl (Nat.le_of_ble_eq_true rfl) ⟨Nat.zero_le _, Nat.zero_le _⟩ dX1_tiedTo_39 ?_
  refine nv_ifb_ne (tgt := 47) hx hb dX1_tiedTo_42 (by decide) (fun c_1 => ?_) (fun c_1 => ?_)
  · skip
    have hn := (pv_of (hy c) hc).1.1.mp c_1
    obtain ⟨e1, e2⟩ := (pv_of (hy c) hc).2 hn
    have e1 : (nI (c % 8)) + (((-1)) * ((stV 3).getD (y c) 0)) = nI (pv (y c) c % 8) := e1
    have e2 : (nI (c / 8)) + (((-1)) * ((stV 4).getD (y c) 0)) = nI (pv (y c) c / 8) := e2
    rw [e1, e2] at hl
    refine lv_iload hx hb dX1_tiedTo_47 (lv_at hl 1 rfl) ?_
    refine lv_iload hx hb dX1_tiedTo_49 (lv_at hl 0 rfl) ?_
    refine gcSN (As := [.int (nI (pv (y c) c % 8)), .int (nI (pv (y c) c / 8))]) (rest := []) ⟨hx, hb, hml, hown, hts⟩ (c_X4_cellOf l (pv (y c) c % 8) (pv (y c) c / 8) ) (va_cnB 2 hts gX1_tiedTo_X4_cellOf_n84 rfl rfl rfl (hG.1 (RX1, 84, yX4_cellOf) (by decide +kernel)) lk2 (by decide +kernel) ⟨Nat.le_of_ble_eq_true rfl, Nat.le_of_ble_eq_true rfl⟩) lk4 hl.1 rfl rfl (Nat.le_of_ble_eq_true rfl) ⟨Nat.zero_le _, Nat.zero_le _⟩ dX1_tiedTo_51 ?_
    refine top_eq (congrArg nI (show 8 * (pv (y c) c / 8) + pv (y c) c % 8 = pv (y c) c by omega)) ?_
    refine lv_istore (lv' := [(6, .int (nI (pv (y c) c))), (5, .int (nI (pv (y c) c / 8))), (4, .int (nI (pv (y c) c % 8))), (3, .int (nI (y c))), (0, .ref l0), (1, .int (nI c)), (2, .int ((-1)))]) hx hb dX1_tiedTo_54 hl (by decide) rfl (fun ls hl => ?_)
    refine lv_aload_n hx hb dX1_tiedTo_56 rfl (lv_at hl 4 rfl) ?_
    refine va_get (D := D) (ci := 1) (v := .ref l1) (C := RX1) (T := TX1) (N := 9) hx hb hts hinX1 hown hK hP 0 rfl rfl 1 (by decide) lk5 (fun _ h9 => h9) rfl dX1_tiedTo_57 ?_
    refine lv_iload hx hb dX1_tiedTo_60 (lv_at hl 0 rfl) ?_
    refine nv_iald hx hb hK hP 1 rfl (by omega) (by decide) dX1_tiedTo_62 ?_
    refine top_eq (congrArg nI (hPp _ hn)) ?_
    refine nv_if_le (tgt := 82) hx hb dX1_tiedTo_63 (by decide) (by have := hp (pv (y c) c); omega) (fun c_2 => ?_) (fun c_2 => ?_)
    · skip
      refine lv_iconst (v := (-1)) hx hb dX1_tiedTo_82 (by decide) ?_
      exact hret _ () _ _ _ _ dX1_tiedTo_83 (by unfold tp; rw [if_neg (fun q => q.2.1 c_2)]; rfl) hP hD hS
    · skip
      refine lv_aload_n hx hb dX1_tiedTo_66 rfl (lv_at hl 4 rfl) ?_
      refine va_get (D := D) (ci := 1) (v := .ref l2) (C := RX1) (T := TX1) (N := 9) hx hb hts hinX1 hown hK hP 0 rfl rfl 2 (by decide) lk1 (fun _ h9 => h9) rfl dX1_tiedTo_67 ?_
      refine lv_iload hx hb dX1_tiedTo_70 (lv_at hl 0 rfl) ?_
      refine nv_iald hx hb hK hP 2 rfl (by omega) (by decide) dX1_tiedTo_72 ?_
      refine top_eq (congrArg nI (hYy _ hn)) ?_
      refine lv_iload_n hx hb dX1_tiedTo_73 rfl (lv_at hl 3 rfl) ?_
      refine nv_icmp_ne (tgt := 82) hx hb dX1_tiedTo_74 (by decide) (by have := hy (pv (y c) c); omega) (by have := hy (pv (y c) c); omega) (fun c_3 => ?_) (fun c_3 => ?_)
      · skip
        refine lv_iconst (v := (-1)) hx hb dX1_tiedTo_82 (by decide) ?_
        exact hret _ () _ _ _ _ dX1_tiedTo_83 (by unfold tp; rw [if_neg (fun q => c_3 q.2.2)]; rfl) hP hD hS
      · skip
        refine lv_iload hx hb dX1_tiedTo_77 (lv_at hl 0 rfl) ?_
        refine lv_goto (tgt := 83) hx hb dX1_tiedTo_79 (by decide) ?_
        exact hret _ () _ _ _ _ dX1_tiedTo_83 (by unfold tp; rw [if_pos ⟨hn, c_2, c_3⟩, rI_some (by omega)]) hP hD hS
  · skip
    refine lv_iconst (v := (-1)) hx hb dX1_tiedTo_45 (by decide) ?_
    exact hret _ () _ _ _ _ dX1_tiedTo_46 (by unfold tp; rw [if_neg (fun q => c_1 ((pv_of (hy c) hc).1.1.mpr q.1))]; rfl) hP hD hS
