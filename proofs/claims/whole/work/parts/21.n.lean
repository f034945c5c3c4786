theorem okset_0 (v : Int32) : okset (nI 0) v ↔ inr v (nI 4) (nI 40) := by
  rw [okset_k (by omega), inr_iff (by decide) (by decide), i_lt, i_le, show ((stV 1).getD 0 0).toInt = 4 by decide, show ((stV 2).getD 0 0).toInt = 40 by decide]
  omega
theorem okset_1 (v : Int32) : okset (nI 1) v ↔ inr v (nI 10) (nI 100) := by
  rw [okset_k (by omega), inr_iff (by decide) (by decide), i_lt, i_le, show ((stV 1).getD 1 0).toInt = 10 by decide, show ((stV 2).getD 1 0).toInt = 100 by decide]
  omega
theorem okset_2 (v : Int32) : okset (nI 2) v ↔ inr v (nI 1) (nI 10) := by
  rw [okset_k (by omega), inr_iff (by decide) (by decide), i_lt, i_le, show ((stV 1).getD 2 0).toInt = 1 by decide, show ((stV 2).getD 2 0).toInt = 10 by decide]
  omega
theorem okset_3 (v : Int32) : okset (nI 3) v ↔ inr v (nI 1) (nI 40) := by
  rw [okset_k (by omega), inr_iff (by decide) (by decide), i_lt, i_le, show ((stV 1).getD 3 0).toInt = 1 by decide, show ((stV 2).getD 3 0).toInt = 40 by decide]
  omega
theorem okset_none {what v : Int32} (h0 : ¬ what = 0) (h1 : ¬ what = nI 1) (h2 : ¬ what = nI 2) (h3 : ¬ what = nI 3) : ¬ okset what v := by
  intro q
  obtain ⟨k, hk, rfl⟩ := up_to' (by decide) q.1 q.2.1
  rcases (show k = 0 ∨ k = 1 ∨ k = 2 ∨ k = 3 by omega) with rfl | rfl | rfl | rfl
  · exact h0 nI_0
  · exact h1 rfl
  · exact h2 rfl
  · exact h3 rfl
theorem inr_nat {v : Int32} {lo hi : Nat} (hl : lo < 2 ^ 31) (hh : hi < 2 ^ 31) (h : inr v (nI lo) (nI hi)) : ∃ b : Nat, b ≤ hi ∧ lo ≤ b ∧ v = nI b := by
  have q := (inr_iff hl hh).mp h
  refine ⟨v.toInt.toNat, by omega, by omega, ?_⟩
  rw [i_eq, nI_T (by omega)]
  omega
theorem more0 {a b : Nat} (ha : a < 2 ^ 30) (hb : b < 2 ^ 30) : (if nI 0 ≤ nI a - nI b then nI a - nI b else nI 0) = nI (a - b) := by
  by_cases h : b ≤ a
  · rw [pk_sub h, if_pos (nI_le (Nat.zero_le _) (by omega))]
  · rw [if_neg, show a - b = 0 by omega]
    have := pk_sneg (a := a) (b := b) hb (by omega)
    intro q
    rw [i_le, nI_T (by decide)] at q
    rw [i_lt, z_T] at this
    omega

set_option maxHeartbeats 4000000 in
set_option maxRecDepth 100000 in
theorem c_X5_set (l : Launch) (D : va_G) (cI cZ : ClassId) (tt : Nat → Nat) (sz : Nat) (m0 m1 m2 m3 m4 m5 m6 m7 m8 m9 m10 : Nat) (np ai : Nat) (T U B G Wm M F L Z Om Nm : Nat → Nat) (what v : Int32) (hGs : ∀ k, G k ≤ 100) : MI l yX5_set wsX5_set ({ frames := 1, cells := 0, slots := 0, locals := 22 } : Room) D cI cZ tt [.ref m0, .int (what), .int (v)] [(m0, .inr (5, [.ref m1, .ref m2, .ref m3, .int (nI (G 0)), .int (nI (G 1)), .int (nI (G 2)), .int (nI (G 3)), .ref m4, .ref m5, .int (nI np), .ref m6, .ref m7, .ref m8, .ref m9, .ref m10, .int (nI ai)])), (m1, .inl (cI, 64, .inl (nF T))), (m2, .inl (cI, 64, .inl (nF U))), (m3, .inl (cZ, 64, .inl (nF B))), (m4, .inl (cI, 64, .inl (nF Wm))), (m5, .inl (cI, 64, .inl (nF M))), (m6, .inl (cI, 64, .inl (nF F))), (m7, .inl (cI, 64, .inl (nF L))), (m8, .inl (cI, 64, .inl (nF Z))), (m9, .inl (cI, 64, .inl (nF Om))), (m10, .inl (cI, 64, .inl (nF Nm)))] sz (fun (r : Int32) (u : (Nat → Nat)) => r = setR G what v ∧ (u = setG G what v)) (fun (u : (Nat → Nat)) => [(m0, .inr (5, [.ref m1, .ref m2, .ref m3, .int (nI (u 0)), .int (nI (u 1)), .int (nI (u 2)), .int (nI (u 3)), .ref m4, .ref m5, .int (nI np), .ref m6, .ref m7, .ref m8, .ref m9, .ref m10, .int (nI ai)])), (m1, .inl (cI, 64, .inl (nF T))), (m2, .inl (cI, 64, .inl (nF U))), (m3, .inl (cZ, 64, .inl (nF B))), (m4, .inl (cI, 64, .inl (nF Wm))), (m5, .inl (cI, 64, .inl (nF M))), (m6, .inl (cI, 64, .inl (nF F))), (m7, .inl (cI, 64, .inl (nF L))), (m8, .inl (cI, 64, .inl (nF Z))), (m9, .inl (cI, 64, .inl (nF Om))), (m10, .inl (cI, 64, .inl (nF Nm)))]) := by
  refine entI (cc := cX5_set) 4 (by decide) rfl (Nat.le_of_ble_eq_true rfl) (Or.inl rfl) (fun pr e s m args below meth c0 A Q H ls hx hb hml hown hts hsz hA hP hK hD hS hG hret hl => ?_)
  have hown : s.vm.findClass RX5 = some m.cls := hown
  have lk1 := hts (.fieldLink RX5 30 "BurinLinesModel" "swell" "I") (by decide +kernel)
  have lk2 := hts (.fieldLink RX5 27 "BurinLinesModel" "least" "I") (by decide +kernel)
  have lk3 := hts (.fieldLink RX5 24 "BurinLinesModel" "cross" "I") (by decide +kernel)
  have lk4 := hts (.fieldLink RX5 20 "BurinLinesModel" "apart" "I") (by decide +kernel)
  have hinX5 : ∀ w ∈ wsX50, w ∈ wsX5_set := by decide +kernel
  have hl : lv_has ls 4 [(0, .ref m0), (1, .int (what)), (2, .int (v))] := hl
  refine lv_iload_n hx hb dX5_set_0 rfl (lv_at hl 1 rfl) ?_
  refine lv_if_ne (tgt := 26) hx hb dX5_set_1 (by decide) (fun c_1 => ?_) (fun c_1 => ?_)
  · skip
    refine lv_iload_n hx hb dX5_set_26 rfl (lv_at hl 1 rfl) ?_
    refine lv_iconst (v := nI 1) hx hb dX5_set_27 (by decide) ?_
    refine lv_icmp_ne (tgt := 54) hx hb dX5_set_28 (by decide) (fun c_2 => ?_) (fun c_2 => ?_)
    · skip
      refine lv_iload_n hx hb dX5_set_54 rfl (lv_at hl 1 rfl) ?_
      refine lv_iconst (v := nI 2) hx hb dX5_set_55 (by decide) ?_
      refine lv_icmp_ne (tgt := 81) hx hb dX5_set_56 (by decide) (fun c_3 => ?_) (fun c_3 => ?_)
      · skip
        refine lv_iload_n hx hb dX5_set_81 rfl (lv_at hl 1 rfl) ?_
        refine lv_iconst (v := nI 3) hx hb dX5_set_82 (by decide) ?_
        refine lv_icmp_ne (tgt := 108) hx hb dX5_set_83 (by decide) (fun c_4 => ?_) (fun c_4 => ?_)
        · skip
          refine lv_bipush (v := (-3)) hx hb dX5_set_108 (by decide) ?_
          have nos : ¬ okset what v := okset_none c_1 c_2 c_3 c_4
          exact hret _ G _ _ _ _ dX5_set_110 (⟨(setG_no nos).2.symm, (setG_no nos).1.symm⟩) hP hD hS
        · skip
          have hw : what = nI 3 := c_4
          refine lv_iload_n hx hb dX5_set_86 rfl (lv_at hl 2 rfl) ?_
          refine lv_iconst (v := nI 1) hx hb dX5_set_87 (by decide) ?_
          refine lv_bipush (v := nI 40) hx hb dX5_set_88 (by decide) ?_
          refine gcS (As := [.int (v), .int (nI 1), .int (nI 40)]) (rest := []) ⟨hx, hb, hml, hown, hts⟩ (c_X5_in l v (nI 1) (nI 40) ) (va_cwS 3 hts gX5_set_X5_in rfl rfl rfl (by decide +kernel) ⟨Nat.le_of_ble_eq_true rfl, Nat.le_of_ble_eq_true rfl⟩) hl.1 rfl rfl (Nat.le_of_ble_eq_true rfl) ⟨Nat.zero_le _, Nat.zero_le _⟩ dX5_set_90 ?_
          refine nv_ifb_eq (tgt := 108) hx hb dX5_set_93 (by decide) (fun c_5 => ?_) (fun c_5 => ?_)
          · skip
            have nos : ¬ okset what v := fun q => c_5 ((okset_3 v).mp (hw ▸ q))
            refine lv_bipush (v := (-3)) hx hb dX5_set_108 (by decide) ?_
            exact hret _ G _ _ _ _ dX5_set_110 (⟨(setG_no nos).2.symm, (setG_no nos).1.symm⟩) hP hD hS
          · skip
            obtain ⟨b, hbu, hbl, rfl⟩ := inr_nat (by decide) (by decide) c_5
            obtain ⟨es1, es2⟩ := setG_yes (G := G) (k := 3) (b := b) (by omega) (by omega) ((okset_3 _).mpr c_5)
            rw [← hw] at es1 es2
            refine lv_aload_n hx hb dX5_set_96 rfl (lv_at hl 0 rfl) ?_
            refine va_get (D := D) (ci := 5) (v := .int (nI (G 3))) (C := RX5) (T := TX5) (N := 16) hx hb hts hinX5 hown hK hP 0 rfl rfl 6 (by decide) lk1 (fun _ h9 => h9) rfl dX5_set_97 ?_
            refine lv_istore_n (lv' := [(3, .int (nI (G 3))), (0, .ref m0), (1, .int (what)), (2, .int (nI b))]) hx hb dX5_set_100 rfl hl (by decide) rfl (fun ls hl => ?_)
            refine lv_aload_n hx hb dX5_set_101 rfl (lv_at hl 1 rfl) ?_
            refine lv_iload_n hx hb dX5_set_102 rfl (lv_at hl 3 rfl) ?_
            refine va_put (D := D) (ci := 5) (v := .int (nI b)) (ty := .int) (C := RX5) (T := TX5) (N := 16) hx hb hts hinX5 tyX5 tyX5_ok nmX5 hown hK hP hD hS 0 rfl rfl 6 (by decide) lk1 (fun _ h9 => h9) rfl (by decide +kernel) rfl rfl (Nat.le_of_ble_eq_true rfl) dX5_set_103 (fun H locs hP hD hS => ?_)
            have hP : va_P D vwCl [(m0, .inr (5, [.ref m1, .ref m2, .ref m3, .int (nI (G 0)), .int (nI (G 1)), .int (nI (G 2)), .int (nI b), .ref m4, .ref m5, .int (nI np), .ref m6, .ref m7, .ref m8, .ref m9, .ref m10, .int (nI ai)])), (m1, .inl (cI, 64, .inl (nF T))), (m2, .inl (cI, 64, .inl (nF U))), (m3, .inl (cZ, 64, .inl (nF B))), (m4, .inl (cI, 64, .inl (nF Wm))), (m5, .inl (cI, 64, .inl (nF M))), (m6, .inl (cI, 64, .inl (nF F))), (m7, .inl (cI, 64, .inl (nF L))), (m8, .inl (cI, 64, .inl (nF Z))), (m9, .inl (cI, 64, .inl (nF Om))), (m10, .inl (cI, 64, .inl (nF Nm)))] H := hP
            have hD : va_D A [(m0, .inr (5, [.ref m1, .ref m2, .ref m3, .int (nI (G 0)), .int (nI (G 1)), .int (nI (G 2)), .int (nI b), .ref m4, .ref m5, .int (nI np), .ref m6, .ref m7, .ref m8, .ref m9, .ref m10, .int (nI ai)])), (m1, .inl (cI, 64, .inl (nF T))), (m2, .inl (cI, 64, .inl (nF U))), (m3, .inl (cZ, 64, .inl (nF B))), (m4, .inl (cI, 64, .inl (nF Wm))), (m5, .inl (cI, 64, .inl (nF M))), (m6, .inl (cI, 64, .inl (nF F))), (m7, .inl (cI, 64, .inl (nF L))), (m8, .inl (cI, 64, .inl (nF Z))), (m9, .inl (cI, 64, .inl (nF Om))), (m10, .inl (cI, 64, .inl (nF Nm)))] := hD
            refine lv_iload_n hx hb dX5_set_106 rfl (lv_at hl 0 rfl) ?_
            have hP : va_P D vwCl [(m0, .inr (5, [.ref m1, .ref m2, .ref m3, .int (nI ((va_up G 3 b) 0)), .int (nI ((va_up G 3 b) 1)), .int (nI ((va_up G 3 b) 2)), .int (nI ((va_up G 3 b) 3)), .ref m4, .ref m5, .int (nI np), .ref m6, .ref m7, .ref m8, .ref m9, .ref m10, .int (nI ai)])), (m1, .inl (cI, 64, .inl (nF T))), (m2, .inl (cI, 64, .inl (nF U))), (m3, .inl (cZ, 64, .inl (nF B))), (m4, .inl (cI, 64, .inl (nF Wm))), (m5, .inl (cI, 64, .inl (nF M))), (m6, .inl (cI, 64, .inl (nF F))), (m7, .inl (cI, 64, .inl (nF L))), (m8, .inl (cI, 64, .inl (nF Z))), (m9, .inl (cI, 64, .inl (nF Om))), (m10, .inl (cI, 64, .inl (nF Nm)))] H := hP
            have hD : va_D A [(m0, .inr (5, [.ref m1, .ref m2, .ref m3, .int (nI ((va_up G 3 b) 0)), .int (nI ((va_up G 3 b) 1)), .int (nI ((va_up G 3 b) 2)), .int (nI ((va_up G 3 b) 3)), .ref m4, .ref m5, .int (nI np), .ref m6, .ref m7, .ref m8, .ref m9, .ref m10, .int (nI ai)])), (m1, .inl (cI, 64, .inl (nF T))), (m2, .inl (cI, 64, .inl (nF U))), (m3, .inl (cZ, 64, .inl (nF B))), (m4, .inl (cI, 64, .inl (nF Wm))), (m5, .inl (cI, 64, .inl (nF M))), (m6, .inl (cI, 64, .inl (nF F))), (m7, .inl (cI, 64, .inl (nF L))), (m8, .inl (cI, 64, .inl (nF Z))), (m9, .inl (cI, 64, .inl (nF Om))), (m10, .inl (cI, 64, .inl (nF Nm)))] := hD
            exact hret _ (va_up G 3 b) _ _ _ _ dX5_set_107 (⟨es2.symm, es1.symm⟩) hP hD hS
      · skip
        have hw : what = nI 2 := c_3
        refine lv_iload_n hx hb dX5_set_59 rfl (lv_at hl 2 rfl) ?_
        refine lv_iconst (v := nI 1) hx hb dX5_set_60 (by decide) ?_
        refine lv_bipush (v := nI 10) hx hb dX5_set_61 (by decide) ?_
        refine gcS (As := [.int (v), .int (nI 1), .int (nI 10)]) (rest := []) ⟨hx, hb, hml, hown, hts⟩ (c_X5_in l v (nI 1) (nI 10) ) (va_cwS 3 hts gX5_set_X5_in rfl rfl rfl (by decide +kernel) ⟨Nat.le_of_ble_eq_true rfl, Nat.le_of_ble_eq_true rfl⟩) hl.1 rfl rfl (Nat.le_of_ble_eq_true rfl) ⟨Nat.zero_le _, Nat.zero_le _⟩ dX5_set_63 ?_
        refine nv_ifb_eq (tgt := 81) hx hb dX5_set_66 (by decide) (fun c_6 => ?_) (fun c_6 => ?_)
        · skip
          have nos : ¬ okset what v := fun q => c_6 ((okset_2 v).mp (hw ▸ q))
          refine lv_iload_n hx hb dX5_set_81 rfl (lv_at hl 1 rfl) ?_
          refine lv_iconst (v := nI 3) hx hb dX5_set_82 (by decide) ?_
          refine lv_icmp_ne (tgt := 108) hx hb dX5_set_83 (by decide) (fun c_7 => ?_) (fun c_7 => ?_)
          · skip
            refine lv_bipush (v := (-3)) hx hb dX5_set_108 (by decide) ?_
            exact hret _ G _ _ _ _ dX5_set_110 (⟨(setG_no nos).2.symm, (setG_no nos).1.symm⟩) hP hD hS
          · skip
            exact absurd (c_3.symm.trans c_7) (by decide)
        · skip
          obtain ⟨b, hbu, hbl, rfl⟩ := inr_nat (by decide) (by decide) c_6
          obtain ⟨es1, es2⟩ := setG_yes (G := G) (k := 2) (b := b) (by omega) (by omega) ((okset_2 _).mpr c_6)
          rw [← hw] at es1 es2
          refine lv_aload_n hx hb dX5_set_69 rfl (lv_at hl 0 rfl) ?_
          refine va_get (D := D) (ci := 5) (v := .int (nI (G 2))) (C := RX5) (T := TX5) (N := 16) hx hb hts hinX5 hown hK hP 0 rfl rfl 5 (by decide) lk2 (fun _ h9 => h9) rfl dX5_set_70 ?_
          refine lv_istore_n (lv' := [(3, .int (nI (G 2))), (0, .ref m0), (1, .int (what)), (2, .int (nI b))]) hx hb dX5_set_73 rfl hl (by decide) rfl (fun ls hl => ?_)
          refine lv_aload_n hx hb dX5_set_74 rfl (lv_at hl 1 rfl) ?_
          refine lv_iload_n hx hb dX5_set_75 rfl (lv_at hl 3 rfl) ?_
          refine va_put (D := D) (ci := 5) (v := .int (nI b)) (ty := .int) (C := RX5) (T := TX5) (N := 16) hx hb hts hinX5 tyX5 tyX5_ok nmX5 hown hK hP hD hS 0 rfl rfl 5 (by decide) lk2 (fun _ h9 => h9) rfl (by decide +kernel) rfl rfl (Nat.le_of_ble_eq_true rfl) dX5_set_76 (fun H locs hP hD hS => ?_)
          have hP : va_P D vwCl [(m0, .inr (5, [.ref m1, .ref m2, .ref m3, .int (nI (G 0)), .int (nI (G 1)), .int (nI b), .int (nI (G 3)), .ref m4, .ref m5, .int (nI np), .ref m6, .ref m7, .ref m8, .ref m9, .ref m10, .int (nI ai)])), (m1, .inl (cI, 64, .inl (nF T))), (m2, .inl (cI, 64, .inl (nF U))), (m3, .inl (cZ, 64, .inl (nF B))), (m4, .inl (cI, 64, .inl (nF Wm))), (m5, .inl (cI, 64, .inl (nF M))), (m6, .inl (cI, 64, .inl (nF F))), (m7, .inl (cI, 64, .inl (nF L))), (m8, .inl (cI, 64, .inl (nF Z))), (m9, .inl (cI, 64, .inl (nF Om))), (m10, .inl (cI, 64, .inl (nF Nm)))] H := hP
          have hD : va_D A [(m0, .inr (5, [.ref m1, .ref m2, .ref m3, .int (nI (G 0)), .int (nI (G 1)), .int (nI b), .int (nI (G 3)), .ref m4, .ref m5, .int (nI np), .ref m6, .ref m7, .ref m8, .ref m9, .ref m10, .int (nI ai)])), (m1, .inl (cI, 64, .inl (nF T))), (m2, .inl (cI, 64, .inl (nF U))), (m3, .inl (cZ, 64, .inl (nF B))), (m4, .inl (cI, 64, .inl (nF Wm))), (m5, .inl (cI, 64, .inl (nF M))), (m6, .inl (cI, 64, .inl (nF F))), (m7, .inl (cI, 64, .inl (nF L))), (m8, .inl (cI, 64, .inl (nF Z))), (m9, .inl (cI, 64, .inl (nF Om))), (m10, .inl (cI, 64, .inl (nF Nm)))] := hD
          refine lv_iload_n hx hb dX5_set_79 rfl (lv_at hl 0 rfl) ?_
          have hP : va_P D vwCl [(m0, .inr (5, [.ref m1, .ref m2, .ref m3, .int (nI ((va_up G 2 b) 0)), .int (nI ((va_up G 2 b) 1)), .int (nI ((va_up G 2 b) 2)), .int (nI ((va_up G 2 b) 3)), .ref m4, .ref m5, .int (nI np), .ref m6, .ref m7, .ref m8, .ref m9, .ref m10, .int (nI ai)])), (m1, .inl (cI, 64, .inl (nF T))), (m2, .inl (cI, 64, .inl (nF U))), (m3, .inl (cZ, 64, .inl (nF B))), (m4, .inl (cI, 64, .inl (nF Wm))), (m5, .inl (cI, 64, .inl (nF M))), (m6, .inl (cI, 64, .inl (nF F))), (m7, .inl (cI, 64, .inl (nF L))), (m8, .inl (cI, 64, .inl (nF Z))), (m9, .inl (cI, 64, .inl (nF Om))), (m10, .inl (cI, 64, .inl (nF Nm)))] H := hP
          have hD : va_D A [(m0, .inr (5, [.ref m1, .ref m2, .ref m3, .int (nI ((va_up G 2 b) 0)), .int (nI ((va_up G 2 b) 1)), .int (nI ((va_up G 2 b) 2)), .int (nI ((va_up G 2 b) 3)), .ref m4, .ref m5, .int (nI np), .ref m6, .ref m7, .ref m8, .ref m9, .ref m10, .int (nI ai)])), (m1, .inl (cI, 64, .inl (nF T))), (m2, .inl (cI, 64, .inl (nF U))), (m3, .inl (cZ, 64, .inl (nF B))), (m4, .inl (cI, 64, .inl (nF Wm))), (m5, .inl (cI, 64, .inl (nF M))), (m6, .inl (cI, 64, .inl (nF F))), (m7, .inl (cI, 64, .inl (nF L))), (m8, .inl (cI, 64, .inl (nF Z))), (m9, .inl (cI, 64, .inl (nF Om))), (m10, .inl (cI, 64, .inl (nF Nm)))] := hD
          exact hret _ (va_up G 2 b) _ _ _ _ dX5_set_80 (⟨es2.symm, es1.symm⟩) hP hD hS
    · skip
      have hw : what = nI 1 := c_2
      refine lv_iload_n hx hb dX5_set_31 rfl (lv_at hl 2 rfl) ?_
      refine lv_bipush (v := nI 10) hx hb dX5_set_32 (by decide) ?_
      refine lv_bipush (v := nI 100) hx hb dX5_set_34 (by decide) ?_
      refine gcS (As := [.int (v), .int (nI 10), .int (nI 100)]) (rest := []) ⟨hx, hb, hml, hown, hts⟩ (c_X5_in l v (nI 10) (nI 100) ) (va_cwS 3 hts gX5_set_X5_in rfl rfl rfl (by decide +kernel) ⟨Nat.le_of_ble_eq_true rfl, Nat.le_of_ble_eq_true rfl⟩) hl.1 rfl rfl (Nat.le_of_ble_eq_true rfl) ⟨Nat.zero_le _, Nat.zero_le _⟩ dX5_set_36 ?_
      refine nv_ifb_eq (tgt := 54) hx hb dX5_set_39 (by decide) (fun c_8 => ?_) (fun c_8 => ?_)
      · skip
        have nos : ¬ okset what v := fun q => c_8 ((okset_1 v).mp (hw ▸ q))
        refine lv_iload_n hx hb dX5_set_54 rfl (lv_at hl 1 rfl) ?_
        refine lv_iconst (v := nI 2) hx hb dX5_set_55 (by decide) ?_
        refine lv_icmp_ne (tgt := 81) hx hb dX5_set_56 (by decide) (fun c_9 => ?_) (fun c_9 => ?_)
        · skip
          refine lv_iload_n hx hb dX5_set_81 rfl (lv_at hl 1 rfl) ?_
          refine lv_iconst (v := nI 3) hx hb dX5_set_82 (by decide) ?_
          refine lv_icmp_ne (tgt := 108) hx hb dX5_set_83 (by decide) (fun c_10 => ?_) (fun c_10 => ?_)
          · skip
            refine lv_bipush (v := (-3)) hx hb dX5_set_108 (by decide) ?_
            exact hret _ G _ _ _ _ dX5_set_110 (⟨(setG_no nos).2.symm, (setG_no nos).1.symm⟩) hP hD hS
          · skip
            exact absurd (c_2.symm.trans c_10) (by decide)
        · skip
          exact absurd (c_2.symm.trans c_9) (by decide)
      · skip
        obtain ⟨b, hbu, hbl, rfl⟩ := inr_nat (by decide) (by decide) c_8
        obtain ⟨es1, es2⟩ := setG_yes (G := G) (k := 1) (b := b) (by omega) (by omega) ((okset_1 _).mpr c_8)
        rw [← hw] at es1 es2
        refine lv_aload_n hx hb dX5_set_42 rfl (lv_at hl 0 rfl) ?_
        refine va_get (D := D) (ci := 5) (v := .int (nI (G 1))) (C := RX5) (T := TX5) (N := 16) hx hb hts hinX5 hown hK hP 0 rfl rfl 4 (by decide) lk3 (fun _ h9 => h9) rfl dX5_set_43 ?_
        refine lv_istore_n (lv' := [(3, .int (nI (G 1))), (0, .ref m0), (1, .int (what)), (2, .int (nI b))]) hx hb dX5_set_46 rfl hl (by decide) rfl (fun ls hl => ?_)
        refine lv_aload_n hx hb dX5_set_47 rfl (lv_at hl 1 rfl) ?_
        refine lv_iload_n hx hb dX5_set_48 rfl (lv_at hl 3 rfl) ?_
        refine va_put (D := D) (ci := 5) (v := .int (nI b)) (ty := .int) (C := RX5) (T := TX5) (N := 16) hx hb hts hinX5 tyX5 tyX5_ok nmX5 hown hK hP hD hS 0 rfl rfl 4 (by decide) lk3 (fun _ h9 => h9) rfl (by decide +kernel) rfl rfl (Nat.le_of_ble_eq_true rfl) dX5_set_49 (fun H locs hP hD hS => ?_)
        have hP : va_P D vwCl [(m0, .inr (5, [.ref m1, .ref m2, .ref m3, .int (nI (G 0)), .int (nI b), .int (nI (G 2)), .int (nI (G 3)), .ref m4, .ref m5, .int (nI np), .ref m6, .ref m7, .ref m8, .ref m9, .ref m10, .int (nI ai)])), (m1, .inl (cI, 64, .inl (nF T))), (m2, .inl (cI, 64, .inl (nF U))), (m3, .inl (cZ, 64, .inl (nF B))), (m4, .inl (cI, 64, .inl (nF Wm))), (m5, .inl (cI, 64, .inl (nF M))), (m6, .inl (cI, 64, .inl (nF F))), (m7, .inl (cI, 64, .inl (nF L))), (m8, .inl (cI, 64, .inl (nF Z))), (m9, .inl (cI, 64, .inl (nF Om))), (m10, .inl (cI, 64, .inl (nF Nm)))] H := hP
        have hD : va_D A [(m0, .inr (5, [.ref m1, .ref m2, .ref m3, .int (nI (G 0)), .int (nI b), .int (nI (G 2)), .int (nI (G 3)), .ref m4, .ref m5, .int (nI np), .ref m6, .ref m7, .ref m8, .ref m9, .ref m10, .int (nI ai)])), (m1, .inl (cI, 64, .inl (nF T))), (m2, .inl (cI, 64, .inl (nF U))), (m3, .inl (cZ, 64, .inl (nF B))), (m4, .inl (cI, 64, .inl (nF Wm))), (m5, .inl (cI, 64, .inl (nF M))), (m6, .inl (cI, 64, .inl (nF F))), (m7, .inl (cI, 64, .inl (nF L))), (m8, .inl (cI, 64, .inl (nF Z))), (m9, .inl (cI, 64, .inl (nF Om))), (m10, .inl (cI, 64, .inl (nF Nm)))] := hD
        refine lv_iload_n hx hb dX5_set_52 rfl (lv_at hl 0 rfl) ?_
        have hP : va_P D vwCl [(m0, .inr (5, [.ref m1, .ref m2, .ref m3, .int (nI ((va_up G 1 b) 0)), .int (nI ((va_up G 1 b) 1)), .int (nI ((va_up G 1 b) 2)), .int (nI ((va_up G 1 b) 3)), .ref m4, .ref m5, .int (nI np), .ref m6, .ref m7, .ref m8, .ref m9, .ref m10, .int (nI ai)])), (m1, .inl (cI, 64, .inl (nF T))), (m2, .inl (cI, 64, .inl (nF U))), (m3, .inl (cZ, 64, .inl (nF B))), (m4, .inl (cI, 64, .inl (nF Wm))), (m5, .inl (cI, 64, .inl (nF M))), (m6, .inl (cI, 64, .inl (nF F))), (m7, .inl (cI, 64, .inl (nF L))), (m8, .inl (cI, 64, .inl (nF Z))), (m9, .inl (cI, 64, .inl (nF Om))), (m10, .inl (cI, 64, .inl (nF Nm)))] H := hP
        have hD : va_D A [(m0, .inr (5, [.ref m1, .ref m2, .ref m3, .int (nI ((va_up G 1 b) 0)), .int (nI ((va_up G 1 b) 1)), .int (nI ((va_up G 1 b) 2)), .int (nI ((va_up G 1 b) 3)), .ref m4, .ref m5, .int (nI np), .ref m6, .ref m7, .ref m8, .ref m9, .ref m10, .int (nI ai)])), (m1, .inl (cI, 64, .inl (nF T))), (m2, .inl (cI, 64, .inl (nF U))), (m3, .inl (cZ, 64, .inl (nF B))), (m4, .inl (cI, 64, .inl (nF Wm))), (m5, .inl (cI, 64, .inl (nF M))), (m6, .inl (cI, 64, .inl (nF F))), (m7, .inl (cI, 64, .inl (nF L))), (m8, .inl (cI, 64, .inl (nF Z))), (m9, .inl (cI, 64, .inl (nF Om))), (m10, .inl (cI, 64, .inl (nF Nm)))] := hD
        exact hret _ (va_up G 1 b) _ _ _ _ dX5_set_53 (⟨es2.symm, es1.symm⟩) hP hD hS
  · skip
    have hw : what = nI 0 := c_1.trans nI_0.symm
    refine lv_iload_n hx hb dX5_set_4 rfl (lv_at hl 2 rfl) ?_
    refine lv_iconst (v := nI 4) hx hb dX5_set_5 (by decide) ?_
    refine lv_bipush (v := nI 40) hx hb dX5_set_6 (by decide) ?_
    refine gcS (As := [.int (v), .int (nI 4), .int (nI 40)]) (rest := []) ⟨hx, hb, hml, hown, hts⟩ (c_X5_in l v (nI 4) (nI 40) ) (va_cwS 3 hts gX5_set_X5_in rfl rfl rfl (by decide +kernel) ⟨Nat.le_of_ble_eq_true rfl, Nat.le_of_ble_eq_true rfl⟩) hl.1 rfl rfl (Nat.le_of_ble_eq_true rfl) ⟨Nat.zero_le _, Nat.zero_le _⟩ dX5_set_8 ?_
    refine nv_ifb_eq (tgt := 26) hx hb dX5_set_11 (by decide) (fun c_11 => ?_) (fun c_11 => ?_)
    · skip
      have nos : ¬ okset what v := fun q => c_11 ((okset_0 v).mp (hw ▸ q))
      refine lv_iload_n hx hb dX5_set_26 rfl (lv_at hl 1 rfl) ?_
      refine lv_iconst (v := nI 1) hx hb dX5_set_27 (by decide) ?_
      refine lv_icmp_ne (tgt := 54) hx hb dX5_set_28 (by decide) (fun c_12 => ?_) (fun c_12 => ?_)
      · skip
        refine lv_iload_n hx hb dX5_set_54 rfl (lv_at hl 1 rfl) ?_
        refine lv_iconst (v := nI 2) hx hb dX5_set_55 (by decide) ?_
        refine lv_icmp_ne (tgt := 81) hx hb dX5_set_56 (by decide) (fun c_13 => ?_) (fun c_13 => ?_)
        · skip
          refine lv_iload_n hx hb dX5_set_81 rfl (lv_at hl 1 rfl) ?_
          refine lv_iconst (v := nI 3) hx hb dX5_set_82 (by decide) ?_
          refine lv_icmp_ne (tgt := 108) hx hb dX5_set_83 (by decide) (fun c_14 => ?_) (fun c_14 => ?_)
          · skip
            refine lv_bipush (v := (-3)) hx hb dX5_set_108 (by decide) ?_
            exact hret _ G _ _ _ _ dX5_set_110 (⟨(setG_no nos).2.symm, (setG_no nos).1.symm⟩) hP hD hS
          · skip
            exact absurd (c_1.symm.trans c_14) (by decide)
        · skip
          exact absurd (c_1.symm.trans c_13) (by decide)
      · skip
        exact absurd (c_1.symm.trans c_12) (by decide)
    · skip
      obtain ⟨b, hbu, hbl, rfl⟩ := inr_nat (by decide) (by decide) c_11
      obtain ⟨es1, es2⟩ := setG_yes (G := G) (k := 0) (b := b) (by omega) (by omega) ((okset_0 _).mpr c_11)
      rw [← hw] at es1 es2
      refine lv_aload_n hx hb dX5_set_14 rfl (lv_at hl 0 rfl) ?_
      refine va_get (D := D) (ci := 5) (v := .int (nI (G 0))) (C := RX5) (T := TX5) (N := 16) hx hb hts hinX5 hown hK hP 0 rfl rfl 3 (by decide) lk4 (fun _ h9 => h9) rfl dX5_set_15 ?_
      refine lv_istore_n (lv' := [(3, .int (nI (G 0))), (0, .ref m0), (1, .int (what)), (2, .int (nI b))]) hx hb dX5_set_18 rfl hl (by decide) rfl (fun ls hl => ?_)
      refine lv_aload_n hx hb dX5_set_19 rfl (lv_at hl 1 rfl) ?_
      refine lv_iload_n hx hb dX5_set_20 rfl (lv_at hl 3 rfl) ?_
      refine va_put (D := D) (ci := 5) (v := .int (nI b)) (ty := .int) (C := RX5) (T := TX5) (N := 16) hx hb hts hinX5 tyX5 tyX5_ok nmX5 hown hK hP hD hS 0 rfl rfl 3 (by decide) lk4 (fun _ h9 => h9) rfl (by decide +kernel) rfl rfl (Nat.le_of_ble_eq_true rfl) dX5_set_21 (fun H locs hP hD hS => ?_)
      have hP : va_P D vwCl [(m0, .inr (5, [.ref m1, .ref m2, .ref m3, .int (nI b), .int (nI (G 1)), .int (nI (G 2)), .int (nI (G 3)), .ref m4, .ref m5, .int (nI np), .ref m6, .ref m7, .ref m8, .ref m9, .ref m10, .int (nI ai)])), (m1, .inl (cI, 64, .inl (nF T))), (m2, .inl (cI, 64, .inl (nF U))), (m3, .inl (cZ, 64, .inl (nF B))), (m4, .inl (cI, 64, .inl (nF Wm))), (m5, .inl (cI, 64, .inl (nF M))), (m6, .inl (cI, 64, .inl (nF F))), (m7, .inl (cI, 64, .inl (nF L))), (m8, .inl (cI, 64, .inl (nF Z))), (m9, .inl (cI, 64, .inl (nF Om))), (m10, .inl (cI, 64, .inl (nF Nm)))] H := hP
      have hD : va_D A [(m0, .inr (5, [.ref m1, .ref m2, .ref m3, .int (nI b), .int (nI (G 1)), .int (nI (G 2)), .int (nI (G 3)), .ref m4, .ref m5, .int (nI np), .ref m6, .ref m7, .ref m8, .ref m9, .ref m10, .int (nI ai)])), (m1, .inl (cI, 64, .inl (nF T))), (m2, .inl (cI, 64, .inl (nF U))), (m3, .inl (cZ, 64, .inl (nF B))), (m4, .inl (cI, 64, .inl (nF Wm))), (m5, .inl (cI, 64, .inl (nF M))), (m6, .inl (cI, 64, .inl (nF F))), (m7, .inl (cI, 64, .inl (nF L))), (m8, .inl (cI, 64, .inl (nF Z))), (m9, .inl (cI, 64, .inl (nF Om))), (m10, .inl (cI, 64, .inl (nF Nm)))] := hD
      refine lv_iload_n hx hb dX5_set_24 rfl (lv_at hl 0 rfl) ?_
      have hP : va_P D vwCl [(m0, .inr (5, [.ref m1, .ref m2, .ref m3, .int (nI ((va_up G 0 b) 0)), .int (nI ((va_up G 0 b) 1)), .int (nI ((va_up G 0 b) 2)), .int (nI ((va_up G 0 b) 3)), .ref m4, .ref m5, .int (nI np), .ref m6, .ref m7, .ref m8, .ref m9, .ref m10, .int (nI ai)])), (m1, .inl (cI, 64, .inl (nF T))), (m2, .inl (cI, 64, .inl (nF U))), (m3, .inl (cZ, 64, .inl (nF B))), (m4, .inl (cI, 64, .inl (nF Wm))), (m5, .inl (cI, 64, .inl (nF M))), (m6, .inl (cI, 64, .inl (nF F))), (m7, .inl (cI, 64, .inl (nF L))), (m8, .inl (cI, 64, .inl (nF Z))), (m9, .inl (cI, 64, .inl (nF Om))), (m10, .inl (cI, 64, .inl (nF Nm)))] H := hP
      have hD : va_D A [(m0, .inr (5, [.ref m1, .ref m2, .ref m3, .int (nI ((va_up G 0 b) 0)), .int (nI ((va_up G 0 b) 1)), .int (nI ((va_up G 0 b) 2)), .int (nI ((va_up G 0 b) 3)), .ref m4, .ref m5, .int (nI np), .ref m6, .ref m7, .ref m8, .ref m9, .ref m10, .int (nI ai)])), (m1, .inl (cI, 64, .inl (nF T))), (m2, .inl (cI, 64, .inl (nF U))), (m3, .inl (cZ, 64, .inl (nF B))), (m4, .inl (cI, 64, .inl (nF Wm))), (m5, .inl (cI, 64, .inl (nF M))), (m6, .inl (cI, 64, .inl (nF F))), (m7, .inl (cI, 64, .inl (nF L))), (m8, .inl (cI, 64, .inl (nF Z))), (m9, .inl (cI, 64, .inl (nF Om))), (m10, .inl (cI, 64, .inl (nF Nm)))] := hD
      exact hret _ (va_up G 0 b) _ _ _ _ dX5_set_25 (⟨es2.symm, es1.symm⟩) hP hD hS

set_option maxHeartbeats 4000000 in
set_option maxRecDepth 100000 in
theorem c_X5_wantedOf (l : Launch) (D : va_G) (cI cZ : ClassId) (tt : Nat → Nat) (sz : Nat) (m0 m1 m2 m3 m4 m5 m6 m7 m8 m9 m10 : Nat) (np ai : Nat) (T U B G Wm M F L Z Om Nm : Nat → Nat) (c ly : Nat) (hT : ∀ k, T k ≤ 100) (hGs : ∀ k, G k ≤ 100) (hc : c < 64) (hly : ly < 2) : MI l yX5_wantedOf wsX5_wantedOf ({ frames := 1, cells := 0, slots := 0, locals := 21 } : Room) D cI cZ tt [.ref m0, .int (nI c), .int (nI ly)] [(m0, .inr (5, [.ref m1, .ref m2, .ref m3, .int (nI (G 0)), .int (nI (G 1)), .int (nI (G 2)), .int (nI (G 3)), .ref m4, .ref m5, .int (nI np), .ref m6, .ref m7, .ref m8, .ref m9, .ref m10, .int (nI ai)])), (m1, .inl (cI, 64, .inl (nF T))), (m2, .inl (cI, 64, .inl (nF U))), (m3, .inl (cZ, 64, .inl (nF B))), (m4, .inl (cI, 64, .inl (nF Wm))), (m5, .inl (cI, 64, .inl (nF M))), (m6, .inl (cI, 64, .inl (nF F))), (m7, .inl (cI, 64, .inl (nF L))), (m8, .inl (cI, 64, .inl (nF Z))), (m9, .inl (cI, 64, .inl (nF Om))), (m10, .inl (cI, 64, .inl (nF Nm)))] sz (fun (r : Int32) (_ : Unit) => r = nI (wd G (T c) ly)) (fun (_ : Unit) => [(m0, .inr (5, [.ref m1, .ref m2, .ref m3, .int (nI (G 0)), .int (nI (G 1)), .int (nI (G 2)), .int (nI (G 3)), .ref m4, .ref m5, .int (nI np), .ref m6, .ref m7, .ref m8, .ref m9, .ref m10, .int (nI ai)])), (m1, .inl (cI, 64, .inl (nF T))), (m2, .inl (cI, 64, .inl (nF U))), (m3, .inl (cZ, 64, .inl (nF B))), (m4, .inl (cI, 64, .inl (nF Wm))), (m5, .inl (cI, 64, .inl (nF M))), (m6, .inl (cI, 64, .inl (nF F))), (m7, .inl (cI, 64, .inl (nF L))), (m8, .inl (cI, 64, .inl (nF Z))), (m9, .inl (cI, 64, .inl (nF Om))), (m10, .inl (cI, 64, .inl (nF Nm)))]) := by
  refine entI (cc := cX5_wantedOf) 5 (by decide) rfl (Nat.le_of_ble_eq_true rfl) (Or.inl rfl) (fun pr e s m args below meth c0 A Q H ls hx hb hml hown hts hsz hA hP hK hD hS hG hret hl => ?_)
  have hown : s.vm.findClass RX5 = some m.cls := hown
  have lk1 := hts (.fieldLink RX5 7 "BurinLinesModel" "tone" "[I") (by decide +kernel)
  have lk2 := hts (.fieldLink RX5 24 "BurinLinesModel" "cross" "I") (by decide +kernel)
  have lk3 := hts (.fieldLink RX5 20 "BurinLinesModel" "apart" "I") (by decide +kernel)
  have lk4 := hts (.fieldLink RX5 27 "BurinLinesModel" "least" "I") (by decide +kernel)
  have hinX5 : ∀ w ∈ wsX50, w ∈ wsX5_wantedOf := by decide +kernel
  have hl : lv_has ls 5 [(0, .ref m0), (1, .int (nI c)), (2, .int (nI ly))] := hl
  have bg0 := hGs 0
  have bg1 := hGs 1
  have bg2 := hGs 2
  refine lv_iload_n hx hb dX5_wantedOf_0 rfl (lv_at hl 2 rfl) ?_
  refine nv_if_ne (tgt := 20) hx hb dX5_wantedOf_1 (by decide) (by omega) (fun c_1 => ?_) (fun c_1 => ?_)
  · skip
    refine lv_iconst (v := nI 0) hx hb dX5_wantedOf_20 (by decide) ?_
    refine lv_aload_n hx hb dX5_wantedOf_21 rfl (lv_at hl 0 rfl) ?_
    refine va_get (D := D) (ci := 5) (v := .ref m1) (C := RX5) (T := TX5) (N := 16) hx hb hts hinX5 hown hK hP 0 rfl rfl 0 (by decide) lk1 (fun _ h9 => h9) rfl dX5_wantedOf_22 ?_
    refine lv_iload_n hx hb dX5_wantedOf_25 rfl (lv_at hl 1 rfl) ?_
    refine nv_iald hx hb hK hP 1 rfl (by omega) (by decide) dX5_wantedOf_26 ?_
    have bd_2 := hT c
    refine lv_aload_n hx hb dX5_wantedOf_27 rfl (lv_at hl 0 rfl) ?_
    refine va_get (D := D) (ci := 5) (v := .int (nI (G 1))) (C := RX5) (T := TX5) (N := 16) hx hb hts hinX5 hown hK hP 0 rfl rfl 4 (by decide) lk2 (fun _ h9 => h9) rfl dX5_wantedOf_28 ?_
    refine lv_isub hx hb dX5_wantedOf_31 ?_
    refine gcS (As := [.int (nI 0), .int ((nI (T c)) - (nI (G 1)))]) (rest := []) ⟨hx, hb, hml, hown, hts⟩ (c_X5_more_i l (nI 0) ((nI (T c)) - (nI (G 1))) ) (va_cwS 2 hts gX5_wantedOf_X5_more rfl rfl rfl (by decide +kernel) ⟨Nat.le_of_ble_eq_true rfl, Nat.le_of_ble_eq_true rfl⟩) hl.1 rfl rfl (Nat.le_of_ble_eq_true rfl) ⟨Nat.zero_le _, Nat.zero_le _⟩ dX5_wantedOf_32 ?_
    have bg1 := hGs 1
    refine top_eq ((more0 (by omega) (by omega)).trans (congrArg nI (show T c - G 1 = T c - min (T c) (G 1) by omega))) ?_
    refine lv_istore_n (lv' := [(3, .int (nI (T c - min (T c) (G 1)))), (0, .ref m0), (1, .int (nI c)), (2, .int (nI ly))]) hx hb dX5_wantedOf_35 rfl hl (by decide) rfl (fun ls hl => ?_)
    refine lv_aload_n hx hb dX5_wantedOf_36 rfl (lv_at hl 1 rfl) ?_
    refine va_get (D := D) (ci := 5) (v := .int (nI (G 0))) (C := RX5) (T := TX5) (N := 16) hx hb hts hinX5 hown hK hP 0 rfl rfl 3 (by decide) lk3 (fun _ h9 => h9) rfl dX5_wantedOf_37 ?_
    refine lv_iload_n hx hb dX5_wantedOf_40 rfl (lv_at hl 0 rfl) ?_
    refine nv_imul hx hb dX5_wantedOf_41 ?_
    have bm := Nat.mul_le_mul (hGs 0) (show T c - min (T c) (G 1) ≤ 100 by omega)
    refine lv_bipush (v := nI 100) hx hb dX5_wantedOf_42 (by decide) ?_
    refine nv_idiv hx hb dX5_wantedOf_44 (by omega) (by omega) (by omega) ?_
    refine lv_istore (lv' := [(4, .int (nI (((G 0) * (T c - min (T c) (G 1))) / 100))), (3, .int (nI (T c - min (T c) (G 1)))), (0, .ref m0), (1, .int (nI c)), (2, .int (nI ly))]) hx hb dX5_wantedOf_45 hl (by decide) rfl (fun ls hl => ?_)
    refine lv_iload hx hb dX5_wantedOf_47 (lv_at hl 0 rfl) ?_
    refine lv_aload_n hx hb dX5_wantedOf_49 rfl (lv_at hl 2 rfl) ?_
    refine va_get (D := D) (ci := 5) (v := .int (nI (G 2))) (C := RX5) (T := TX5) (N := 16) hx hb hts hinX5 hown hK hP 0 rfl rfl 5 (by decide) lk4 (fun _ h9 => h9) rfl dX5_wantedOf_50 ?_
    refine nv_icmp_ge (tgt := 60) hx hb dX5_wantedOf_53 (by decide) (by omega) (by omega) (fun c_3 => ?_) (fun c_3 => ?_)
    · skip
      refine lv_iload hx hb dX5_wantedOf_60 (lv_at hl 0 rfl) ?_
      exact hret _ () _ _ _ _ dX5_wantedOf_62 (by unfold wd shr; rw [if_neg c_1, if_neg (by omega)]) hP hD hS
    · skip
      refine lv_iconst (v := nI 0) hx hb dX5_wantedOf_56 (by decide) ?_
      refine lv_goto (tgt := 62) hx hb dX5_wantedOf_57 (by decide) ?_
      exact hret _ () _ _ _ _ dX5_wantedOf_62 (by unfold wd shr; rw [if_neg c_1, if_pos (by omega)]) hP hD hS
  · skip
    refine lv_aload_n hx hb dX5_wantedOf_4 rfl (lv_at hl 0 rfl) ?_
    refine va_get (D := D) (ci := 5) (v := .ref m1) (C := RX5) (T := TX5) (N := 16) hx hb hts hinX5 hown hK hP 0 rfl rfl 0 (by decide) lk1 (fun _ h9 => h9) rfl dX5_wantedOf_5 ?_
    refine lv_iload_n hx hb dX5_wantedOf_8 rfl (lv_at hl 1 rfl) ?_
    refine nv_iald hx hb hK hP 1 rfl (by omega) (by decide) dX5_wantedOf_9 ?_
    have bd_4 := hT c
    refine lv_aload_n hx hb dX5_wantedOf_10 rfl (lv_at hl 0 rfl) ?_
    refine va_get (D := D) (ci := 5) (v := .int (nI (G 1))) (C := RX5) (T := TX5) (N := 16) hx hb hts hinX5 hown hK hP 0 rfl rfl 4 (by decide) lk2 (fun _ h9 => h9) rfl dX5_wantedOf_11 ?_
    refine gcS (As := [.int (nI (T c)), .int (nI (G 1))]) (rest := []) ⟨hx, hb, hml, hown, hts⟩ (c_X5_less l (T c) (G 1) (by first | assumption | omega) (by first | assumption | omega)) (va_cwS 2 hts gX5_wantedOf_X5_less rfl rfl rfl (by decide +kernel) ⟨Nat.le_of_ble_eq_true rfl, Nat.le_of_ble_eq_true rfl⟩) hl.1 rfl rfl (Nat.le_of_ble_eq_true rfl) ⟨Nat.zero_le _, Nat.zero_le _⟩ dX5_wantedOf_14 ?_
    refine lv_goto (tgt := 35) hx hb dX5_wantedOf_17 (by decide) ?_
    refine lv_istore_n (lv' := [(3, .int (nI (min (T c) (G 1)))), (0, .ref m0), (1, .int (nI c)), (2, .int (nI ly))]) hx hb dX5_wantedOf_35 rfl hl (by decide) rfl (fun ls hl => ?_)
    refine lv_aload_n hx hb dX5_wantedOf_36 rfl (lv_at hl 1 rfl) ?_
    refine va_get (D := D) (ci := 5) (v := .int (nI (G 0))) (C := RX5) (T := TX5) (N := 16) hx hb hts hinX5 hown hK hP 0 rfl rfl 3 (by decide) lk3 (fun _ h9 => h9) rfl dX5_wantedOf_37 ?_
    refine lv_iload_n hx hb dX5_wantedOf_40 rfl (lv_at hl 0 rfl) ?_
    refine nv_imul hx hb dX5_wantedOf_41 ?_
    have bm := Nat.mul_le_mul (hGs 0) (show min (T c) (G 1) ≤ 100 by omega)
    refine lv_bipush (v := nI 100) hx hb dX5_wantedOf_42 (by decide) ?_
    refine nv_idiv hx hb dX5_wantedOf_44 (by omega) (by omega) (by omega) ?_
    refine lv_istore (lv' := [(4, .int (nI (((G 0) * (min (T c) (G 1))) / 100))), (3, .int (nI (min (T c) (G 1)))), (0, .ref m0), (1, .int (nI c)), (2, .int (nI ly))]) hx hb dX5_wantedOf_45 hl (by decide) rfl (fun ls hl => ?_)
    refine lv_iload hx hb dX5_wantedOf_47 (lv_at hl 0 rfl) ?_
    refine lv_aload_n hx hb dX5_wantedOf_49 rfl (lv_at hl 2 rfl) ?_
    refine va_get (D := D) (ci := 5) (v := .int (nI (G 2))) (C := RX5) (T := TX5) (N := 16) hx hb hts hinX5 hown hK hP 0 rfl rfl 5 (by decide) lk4 (fun _ h9 => h9) rfl dX5_wantedOf_50 ?_
    refine nv_icmp_ge (tgt := 60) hx hb dX5_wantedOf_53 (by decide) (by omega) (by omega) (fun c_5 => ?_) (fun c_5 => ?_)
    · skip
      refine lv_iload hx hb dX5_wantedOf_60 (lv_at hl 0 rfl) ?_
      exact hret _ () _ _ _ _ dX5_wantedOf_62 (by unfold wd shr; rw [if_pos c_1, if_neg (by omega)]) hP hD hS
    · skip
      refine lv_iconst (v := nI 0) hx hb dX5_wantedOf_56 (by decide) ?_
      refine lv_goto (tgt := 62) hx hb dX5_wantedOf_57 (by decide) ?_
      exact hret _ () _ _ _ _ dX5_wantedOf_62 (by unfold wd shr; rw [if_pos c_1, if_pos (by omega)]) hP hD hS

set_option maxHeartbeats 4000000 in
set_option maxRecDepth 100000 in
theorem c_X5_wayOf (l : Launch) (D : va_G) (cI cZ : ClassId) (tt : Nat → Nat) (sz : Nat) (m0 m1 m2 m3 m4 m5 m6 m7 m8 m9 m10 : Nat) (np ai : Nat) (T U B G Wm M F L Z Om Nm : Nat → Nat) (c ly : Nat) (hU : ∀ k, U k < 8) (hc : c < 64) (hly : ly < 2) : MI l yX5_wayOf wsX5_wayOf ({ frames := 0, cells := 0, slots := 0, locals := 0 } : Room) D cI cZ tt [.ref m0, .int (nI c), .int (nI ly)] [(m0, .inr (5, [.ref m1, .ref m2, .ref m3, .int (nI (G 0)), .int (nI (G 1)), .int (nI (G 2)), .int (nI (G 3)), .ref m4, .ref m5, .int (nI np), .ref m6, .ref m7, .ref m8, .ref m9, .ref m10, .int (nI ai)])), (m1, .inl (cI, 64, .inl (nF T))), (m2, .inl (cI, 64, .inl (nF U))), (m3, .inl (cZ, 64, .inl (nF B))), (m4, .inl (cI, 64, .inl (nF Wm))), (m5, .inl (cI, 64, .inl (nF M))), (m6, .inl (cI, 64, .inl (nF F))), (m7, .inl (cI, 64, .inl (nF L))), (m8, .inl (cI, 64, .inl (nF Z))), (m9, .inl (cI, 64, .inl (nF Om))), (m10, .inl (cI, 64, .inl (nF Nm)))] sz (fun (r : Int32) (_ : Unit) => r = nI (pY U ly c)) (fun (_ : Unit) => [(m0, .inr (5, [.ref m1, .ref m2, .ref m3, .int (nI (G 0)), .int (nI (G 1)), .int (nI (G 2)), .int (nI (G 3)), .ref m4, .ref m5, .int (nI np), .ref m6, .ref m7, .ref m8, .ref m9, .ref m10, .int (nI ai)])), (m1, .inl (cI, 64, .inl (nF T))), (m2, .inl (cI, 64, .inl (nF U))), (m3, .inl (cZ, 64, .inl (nF B))), (m4, .inl (cI, 64, .inl (nF Wm))), (m5, .inl (cI, 64, .inl (nF M))), (m6, .inl (cI, 64, .inl (nF F))), (m7, .inl (cI, 64, .inl (nF L))), (m8, .inl (cI, 64, .inl (nF Z))), (m9, .inl (cI, 64, .inl (nF Om))), (m10, .inl (cI, 64, .inl (nF Nm)))]) := by
  refine entI (cc := cX5_wayOf) 3 (by decide) rfl (Nat.le_of_ble_eq_true rfl) (Or.inl rfl) (fun pr e s m args below meth c0 A Q H ls hx hb hml hown hts hsz hA hP hK hD hS hG hret hl => ?_)
  have hown : s.vm.findClass RX5 = some m.cls := hown
  have lk1 := hts (.fieldLink RX5 13 "BurinLinesModel" "turn" "[I") (by decide +kernel)
  have hinX5 : ∀ w ∈ wsX50, w ∈ wsX5_wayOf := by decide +kernel
  have hl : lv_has ls 3 [(0, .ref m0), (1, .int (nI c)), (2, .int (nI ly))] := hl
  refine lv_aload_n hx hb dX5_wayOf_0 rfl (lv_at hl 0 rfl) ?_
  refine va_get (D := D) (ci := 5) (v := .ref m2) (C := RX5) (T := TX5) (N := 16) hx hb hts hinX5 hown hK hP 0 rfl rfl 1 (by decide) lk1 (fun _ h9 => h9) rfl dX5_wayOf_1 ?_
  refine lv_iload_n hx hb dX5_wayOf_4 rfl (lv_at hl 1 rfl) ?_
  refine nv_iald hx hb hK hP 2 rfl (by omega) (by decide) dX5_wayOf_5 ?_
  have bd_1 := hU c
  refine lv_iconst (v := nI 4) hx hb dX5_wayOf_6 (by decide) ?_
  refine lv_iload_n hx hb dX5_wayOf_7 rfl (lv_at hl 2 rfl) ?_
  refine nv_imul hx hb dX5_wayOf_8 ?_
  refine nv_iadd hx hb dX5_wayOf_9 ?_
  refine lv_bipush (v := nI 8) hx hb dX5_wayOf_10 (by decide) ?_
  refine nv_irem hx hb dX5_wayOf_12 (by omega) (by omega) (by omega) ?_
  refine lv_iconst (v := nI 2) hx hb dX5_wayOf_13 (by decide) ?_
  refine nv_idiv hx hb dX5_wayOf_14 (by omega) (by omega) (by omega) ?_
  exact hret _ () _ _ _ _ dX5_wayOf_15 (rfl) hP hD hS

set_option maxHeartbeats 4000000 in
set_option maxRecDepth 100000 in
theorem c_X5_wanted (l : Launch) (D : va_G) (cI cZ : ClassId) (tt : Nat → Nat) (sz : Nat) (m0 m1 m2 m3 m4 m5 m6 m7 m8 m9 m10 : Nat) (np ai : Nat) (T U B G Wm M F L Z Om Nm : Nat → Nat) (x y ly : Int32) (hT : ∀ k, T k ≤ 100) (hGs : ∀ k, G k ≤ 100) : MI l yX5_wanted wsX5_wanted ({ frames := 2, cells := 0, slots := 0, locals := 45 } : Room) D cI cZ tt [.ref m0, .int (x), .int (y), .int (ly)] [(m0, .inr (5, [.ref m1, .ref m2, .ref m3, .int (nI (G 0)), .int (nI (G 1)), .int (nI (G 2)), .int (nI (G 3)), .ref m4, .ref m5, .int (nI np), .ref m6, .ref m7, .ref m8, .ref m9, .ref m10, .int (nI ai)])), (m1, .inl (cI, 64, .inl (nF T))), (m2, .inl (cI, 64, .inl (nF U))), (m3, .inl (cZ, 64, .inl (nF B))), (m4, .inl (cI, 64, .inl (nF Wm))), (m5, .inl (cI, 64, .inl (nF M))), (m6, .inl (cI, 64, .inl (nF F))), (m7, .inl (cI, 64, .inl (nF L))), (m8, .inl (cI, 64, .inl (nF Z))), (m9, .inl (cI, 64, .inl (nF Om))), (m10, .inl (cI, 64, .inl (nF Nm)))] sz (fun (r : Int32) (_ : Unit) => r = aWanted G T x y ly) (fun (_ : Unit) => [(m0, .inr (5, [.ref m1, .ref m2, .ref m3, .int (nI (G 0)), .int (nI (G 1)), .int (nI (G 2)), .int (nI (G 3)), .ref m4, .ref m5, .int (nI np), .ref m6, .ref m7, .ref m8, .ref m9, .ref m10, .int (nI ai)])), (m1, .inl (cI, 64, .inl (nF T))), (m2, .inl (cI, 64, .inl (nF U))), (m3, .inl (cZ, 64, .inl (nF B))), (m4, .inl (cI, 64, .inl (nF Wm))), (m5, .inl (cI, 64, .inl (nF M))), (m6, .inl (cI, 64, .inl (nF F))), (m7, .inl (cI, 64, .inl (nF L))), (m8, .inl (cI, 64, .inl (nF Z))), (m9, .inl (cI, 64, .inl (nF Om))), (m10, .inl (cI, 64, .inl (nF Nm)))]) := by
  refine entI (cc := cX5_wanted) 4 (by decide) rfl (Nat.le_of_ble_eq_true rfl) (Or.inl rfl) (fun pr e s m args below meth c0 A Q H ls hx hb hml hown hts hsz hA hP hK hD hS hG hret hl => ?_)
  have hown : s.vm.findClass RX5 = some m.cls := hown
  have hl : lv_has ls 4 [(0, .ref m0), (1, .int (x)), (2, .int (y)), (3, .int (ly))] := hl
  refine lv_iload_n hx hb dX5_wanted_0 rfl (lv_at hl 1 rfl) ?_
  refine lv_iload_n hx hb dX5_wanted_1 rfl (lv_at hl 2 rfl) ?_
  refine gcS (As := [.int (x), .int (y)]) (rest := []) ⟨hx, hb, hml, hown, hts⟩ (c_X5_isCell l x y ) (va_cwS 2 hts gX5_wanted_X5_isCell rfl rfl rfl (by decide +kernel) ⟨Nat.le_of_ble_eq_true rfl, Nat.le_of_ble_eq_true rfl⟩) hl.1 rfl rfl (Nat.le_of_ble_eq_true rfl) ⟨Nat.zero_le _, Nat.zero_le _⟩ dX5_wanted_2 ?_
  refine nv_ifb_eq (tgt := 29) hx hb dX5_wanted_5 (by decide) (fun c_1 => ?_) (fun c_1 => ?_)
  · skip
    have nok : ¬ (okc x y ∧ okl ly) := fun q => c_1 q.1
    refine lv_bipush (v := (-2)) hx hb dX5_wanted_29 (by decide) ?_
    exact hret _ () _ _ _ _ dX5_wanted_31 (by unfold aWanted; rw [if_neg nok]) hP hD hS
  · skip
    obtain ⟨a, b, ha8, hb8, rfl, rfl⟩ := okc_nat c_1
    refine lv_iload_n hx hb dX5_wanted_8 rfl (lv_at hl 3 rfl) ?_
    refine gcS (As := [.int (ly)]) (rest := []) ⟨hx, hb, hml, hown, hts⟩ (c_X5_isLayer l ly ) (va_cwS 1 hts gX5_wanted_X5_isLayer rfl rfl rfl (by decide +kernel) ⟨Nat.le_of_ble_eq_true rfl, Nat.le_of_ble_eq_true rfl⟩) hl.1 rfl rfl (Nat.le_of_ble_eq_true rfl) ⟨Nat.zero_le _, Nat.zero_le _⟩ dX5_wanted_9 ?_
    refine nv_ifb_eq (tgt := 29) hx hb dX5_wanted_12 (by decide) (fun c_2 => ?_) (fun c_2 => ?_)
    · skip
      have nok : ¬ (okc (nI a) (nI b) ∧ okl ly) := fun q => c_2 q.2
      refine lv_bipush (v := (-2)) hx hb dX5_wanted_29 (by decide) ?_
      exact hret _ () _ _ _ _ dX5_wanted_31 (by unfold aWanted; rw [if_neg nok]) hP hD hS
    · skip
      rcases c_2 with hL | hL
      · skip
        obtain rfl : ly = nI 0 := hL.trans nI_0.symm
        refine lv_aload_n hx hb dX5_wanted_15 rfl (lv_at hl 0 rfl) ?_
        refine lv_bipush (v := nI 8) hx hb dX5_wanted_16 (by decide) ?_
        refine lv_iload_n hx hb dX5_wanted_18 rfl (lv_at hl 2 rfl) ?_
        refine nv_imul hx hb dX5_wanted_19 ?_
        refine lv_iload_n hx hb dX5_wanted_20 rfl (lv_at hl 1 rfl) ?_
        refine nv_iadd hx hb dX5_wanted_21 ?_
        refine lv_iload_n hx hb dX5_wanted_22 rfl (lv_at hl 3 rfl) ?_
        refine gcVi (ws' := fun _ => [(m0, .inr (5, [.ref m1, .ref m2, .ref m3, .int (nI (G 0)), .int (nI (G 1)), .int (nI (G 2)), .int (nI (G 3)), .ref m4, .ref m5, .int (nI np), .ref m6, .ref m7, .ref m8, .ref m9, .ref m10, .int (nI ai)])), (m1, .inl (cI, 64, .inl (nF T))), (m2, .inl (cI, 64, .inl (nF U))), (m3, .inl (cZ, 64, .inl (nF B))), (m4, .inl (cI, 64, .inl (nF Wm))), (m5, .inl (cI, 64, .inl (nF M))), (m6, .inl (cI, 64, .inl (nF F))), (m7, .inl (cI, 64, .inl (nF L))), (m8, .inl (cI, 64, .inl (nF Z))), (m9, .inl (cI, 64, .inl (nF Om))), (m10, .inl (cI, 64, .inl (nF Nm)))]) (wr := []) (ci := 5) (q0 := 0) (As := [.int (nI ((8 * b) + a)), .int (nI 0)]) (rest := []) ⟨hx, hb, hml, hown, hts⟩ (c_X5_wantedOf l D cI cZ tt H.size m0 m1 m2 m3 m4 m5 m6 m7 m8 m9 m10 np ai T U B G Wm M F L Z Om Nm ((8 * b) + a) 0 (by first | assumption | omega) (by first | assumption | omega) (by first | assumption | omega) (by first | assumption | omega)) (cwV 2 hts gX5_wanted_X5_wantedOf rfl rfl rfl (by decide +kernel) ⟨Nat.le_of_ble_eq_true rfl, Nat.le_of_ble_eq_true rfl⟩) hP hK hD hS hA hG rfl rfl [0, 1, 2, 3, 4, 5, 6, 7, 8, 9, 10] [] [0, 1, 2, 3, 4, 5, 6, 7, 8, 9, 10] (by decide) rfl rfl (by decide) (by decide) (by decide) (fun _ => rfl) hl.1 rfl rfl (Nat.le_of_ble_eq_true rfl) ⟨Nat.zero_le _, Nat.zero_le _⟩ dX5_wanted_23 (fun r u H locs hp hP hD hS => ?_)
        obtain rfl := hp
        have hP : va_P D vwCl [(m0, .inr (5, [.ref m1, .ref m2, .ref m3, .int (nI (G 0)), .int (nI (G 1)), .int (nI (G 2)), .int (nI (G 3)), .ref m4, .ref m5, .int (nI np), .ref m6, .ref m7, .ref m8, .ref m9, .ref m10, .int (nI ai)])), (m1, .inl (cI, 64, .inl (nF T))), (m2, .inl (cI, 64, .inl (nF U))), (m3, .inl (cZ, 64, .inl (nF B))), (m4, .inl (cI, 64, .inl (nF Wm))), (m5, .inl (cI, 64, .inl (nF M))), (m6, .inl (cI, 64, .inl (nF F))), (m7, .inl (cI, 64, .inl (nF L))), (m8, .inl (cI, 64, .inl (nF Z))), (m9, .inl (cI, 64, .inl (nF Om))), (m10, .inl (cI, 64, .inl (nF Nm)))] H := hP
        have hD : va_D A [(m0, .inr (5, [.ref m1, .ref m2, .ref m3, .int (nI (G 0)), .int (nI (G 1)), .int (nI (G 2)), .int (nI (G 3)), .ref m4, .ref m5, .int (nI np), .ref m6, .ref m7, .ref m8, .ref m9, .ref m10, .int (nI ai)])), (m1, .inl (cI, 64, .inl (nF T))), (m2, .inl (cI, 64, .inl (nF U))), (m3, .inl (cZ, 64, .inl (nF B))), (m4, .inl (cI, 64, .inl (nF Wm))), (m5, .inl (cI, 64, .inl (nF M))), (m6, .inl (cI, 64, .inl (nF F))), (m7, .inl (cI, 64, .inl (nF L))), (m8, .inl (cI, 64, .inl (nF Z))), (m9, .inl (cI, 64, .inl (nF Om))), (m10, .inl (cI, 64, .inl (nF Nm)))] := hD
        refine lv_goto (tgt := 31) hx hb dX5_wanted_26 (by decide) ?_
        exact hret _ () _ _ _ _ dX5_wanted_31 (by unfold aWanted; rw [if_pos ⟨okc_of ha8 hb8, Or.inl nI_0⟩, ci_n ha8 hb8, show (nI 0).toNatClampNeg = 0 from rfl]) hP hD hS
      · skip
        obtain rfl : ly = nI 1 := hL
        refine lv_aload_n hx hb dX5_wanted_15 rfl (lv_at hl 0 rfl) ?_
        refine lv_bipush (v := nI 8) hx hb dX5_wanted_16 (by decide) ?_
        refine lv_iload_n hx hb dX5_wanted_18 rfl (lv_at hl 2 rfl) ?_
        refine nv_imul hx hb dX5_wanted_19 ?_
        refine lv_iload_n hx hb dX5_wanted_20 rfl (lv_at hl 1 rfl) ?_
        refine nv_iadd hx hb dX5_wanted_21 ?_
        refine lv_iload_n hx hb dX5_wanted_22 rfl (lv_at hl 3 rfl) ?_
        refine gcVi (ws' := fun _ => [(m0, .inr (5, [.ref m1, .ref m2, .ref m3, .int (nI (G 0)), .int (nI (G 1)), .int (nI (G 2)), .int (nI (G 3)), .ref m4, .ref m5, .int (nI np), .ref m6, .ref m7, .ref m8, .ref m9, .ref m10, .int (nI ai)])), (m1, .inl (cI, 64, .inl (nF T))), (m2, .inl (cI, 64, .inl (nF U))), (m3, .inl (cZ, 64, .inl (nF B))), (m4, .inl (cI, 64, .inl (nF Wm))), (m5, .inl (cI, 64, .inl (nF M))), (m6, .inl (cI, 64, .inl (nF F))), (m7, .inl (cI, 64, .inl (nF L))), (m8, .inl (cI, 64, .inl (nF Z))), (m9, .inl (cI, 64, .inl (nF Om))), (m10, .inl (cI, 64, .inl (nF Nm)))]) (wr := []) (ci := 5) (q0 := 0) (As := [.int (nI ((8 * b) + a)), .int (nI 1)]) (rest := []) ⟨hx, hb, hml, hown, hts⟩ (c_X5_wantedOf l D cI cZ tt H.size m0 m1 m2 m3 m4 m5 m6 m7 m8 m9 m10 np ai T U B G Wm M F L Z Om Nm ((8 * b) + a) 1 (by first | assumption | omega) (by first | assumption | omega) (by first | assumption | omega) (by first | assumption | omega)) (cwV 2 hts gX5_wanted_X5_wantedOf rfl rfl rfl (by decide +kernel) ⟨Nat.le_of_ble_eq_true rfl, Nat.le_of_ble_eq_true rfl⟩) hP hK hD hS hA hG rfl rfl [0, 1, 2, 3, 4, 5, 6, 7, 8, 9, 10] [] [0, 1, 2, 3, 4, 5, 6, 7, 8, 9, 10] (by decide) rfl rfl (by decide) (by decide) (by decide) (fun _ => rfl) hl.1 rfl rfl (Nat.le_of_ble_eq_true rfl) ⟨Nat.zero_le _, Nat.zero_le _⟩ dX5_wanted_23 (fun r u H locs hp hP hD hS => ?_)
        obtain rfl := hp
        have hP : va_P D vwCl [(m0, .inr (5, [.ref m1, .ref m2, .ref m3, .int (nI (G 0)), .int (nI (G 1)), .int (nI (G 2)), .int (nI (G 3)), .ref m4, .ref m5, .int (nI np), .ref m6, .ref m7, .ref m8, .ref m9, .ref m10, .int (nI ai)])), (m1, .inl (cI, 64, .inl (nF T))), (m2, .inl (cI, 64, .inl (nF U))), (m3, .inl (cZ, 64, .inl (nF B))), (m4, .inl (cI, 64, .inl (nF Wm))), (m5, .inl (cI, 64, .inl (nF M))), (m6, .inl (cI, 64, .inl (nF F))), (m7, .inl (cI, 64, .inl (nF L))), (m8, .inl (cI, 64, .inl (nF Z))), (m9, .inl (cI, 64, .inl (nF Om))), (m10, .inl (cI, 64, .inl (nF Nm)))] H := hP
        have hD : va_D A [(m0, .inr (5, [.ref m1, .ref m2, .ref m3, .int (nI (G 0)), .int (nI (G 1)), .int (nI (G 2)), .int (nI (G 3)), .ref m4, .ref m5, .int (nI np), .ref m6, .ref m7, .ref m8, .ref m9, .ref m10, .int (nI ai)])), (m1, .inl (cI, 64, .inl (nF T))), (m2, .inl (cI, 64, .inl (nF U))), (m3, .inl (cZ, 64, .inl (nF B))), (m4, .inl (cI, 64, .inl (nF Wm))), (m5, .inl (cI, 64, .inl (nF M))), (m6, .inl (cI, 64, .inl (nF F))), (m7, .inl (cI, 64, .inl (nF L))), (m8, .inl (cI, 64, .inl (nF Z))), (m9, .inl (cI, 64, .inl (nF Om))), (m10, .inl (cI, 64, .inl (nF Nm)))] := hD
        refine lv_goto (tgt := 31) hx hb dX5_wanted_26 (by decide) ?_
        exact hret _ () _ _ _ _ dX5_wanted_31 (by unfold aWanted; rw [if_pos ⟨okc_of ha8 hb8, Or.inr rfl⟩, ci_n ha8 hb8, show (nI 1).toNatClampNeg = 1 from rfl]) hP hD hS

set_option maxHeartbeats 4000000 in
set_option maxRecDepth 100000 in
theorem c_X5_tied_on (l : Launch) (D : va_G) (cI cZ : ClassId) (tt : Nat → Nat) (sz : Nat) (m0 m1 m2 m3 m4 m5 m6 m7 m8 m9 m10 : Nat) (np ai : Nat) (T U B G Wm M F L Z Om Nm : Nat → Nat) (p : Nat → Nat) (c ly : Nat) (hWp : ∀ k, k < 64 → Wm k = p k) (hp : ∀ k, p k ≤ 100) (hU : ∀ k, U k < 8) (hc : c < 64) (hly : ly < 2) : MI l yX5_tied wsX5_tied ({ frames := 2, cells := 0, slots := 0, locals := 43 } : Room) D cI cZ tt [.ref m0, .int (nI c), .int (nI ly), .int (nI 1)] [(m0, .inr (5, [.ref m1, .ref m2, .ref m3, .int (nI (G 0)), .int (nI (G 1)), .int (nI (G 2)), .int (nI (G 3)), .ref m4, .ref m5, .int (nI np), .ref m6, .ref m7, .ref m8, .ref m9, .ref m10, .int (nI ai)])), (m1, .inl (cI, 64, .inl (nF T))), (m2, .inl (cI, 64, .inl (nF U))), (m3, .inl (cZ, 64, .inl (nF B))), (m4, .inl (cI, 64, .inl (nF Wm))), (m5, .inl (cI, 64, .inl (nF M))), (m6, .inl (cI, 64, .inl (nF F))), (m7, .inl (cI, 64, .inl (nF L))), (m8, .inl (cI, 64, .inl (nF Z))), (m9, .inl (cI, 64, .inl (nF Om))), (m10, .inl (cI, 64, .inl (nF Nm)))] sz (fun (r : Int32) (_ : Unit) => r = rI (tn p (pY U ly) c)) (fun (_ : Unit) => [(m0, .inr (5, [.ref m1, .ref m2, .ref m3, .int (nI (G 0)), .int (nI (G 1)), .int (nI (G 2)), .int (nI (G 3)), .ref m4, .ref m5, .int (nI np), .ref m6, .ref m7, .ref m8, .ref m9, .ref m10, .int (nI ai)])), (m1, .inl (cI, 64, .inl (nF T))), (m2, .inl (cI, 64, .inl (nF U))), (m3, .inl (cZ, 64, .inl (nF B))), (m4, .inl (cI, 64, .inl (nF Wm))), (m5, .inl (cI, 64, .inl (nF M))), (m6, .inl (cI, 64, .inl (nF F))), (m7, .inl (cI, 64, .inl (nF L))), (m8, .inl (cI, 64, .inl (nF Z))), (m9, .inl (cI, 64, .inl (nF Om))), (m10, .inl (cI, 64, .inl (nF Nm)))]) := by
  refine entI (cc := cX5_tied) 7 (by decide) rfl (Nat.le_of_ble_eq_true rfl) (Or.inl rfl) (fun pr e s m args below meth c0 A Q H ls hx hb hml hown hts hsz hA hP hK hD hS hG hret hl => ?_)
  have hown : s.vm.findClass RX5 = some m.cls := hown
  have lk1 := hts (.fieldLink RX5 33 "BurinLinesModel" "want" "[I") (by decide +kernel)
  have hinX5 : ∀ w ∈ wsX50, w ∈ wsX5_tied := by decide +kernel
  have hl : lv_has ls 7 [(0, .ref m0), (1, .int (nI c)), (2, .int (nI ly)), (3, .int (nI 1))] := hl
  refine lv_aload_n hx hb dX5_tied_0 rfl (lv_at hl 0 rfl) ?_
  refine lv_iload_n hx hb dX5_tied_1 rfl (lv_at hl 1 rfl) ?_
  refine lv_iload_n hx hb dX5_tied_2 rfl (lv_at hl 2 rfl) ?_
  refine gcVi (ws' := fun _ => [(m0, .inr (5, [.ref m1, .ref m2, .ref m3, .int (nI (G 0)), .int (nI (G 1)), .int (nI (G 2)), .int (nI (G 3)), .ref m4, .ref m5, .int (nI np), .ref m6, .ref m7, .ref m8, .ref m9, .ref m10, .int (nI ai)])), (m1, .inl (cI, 64, .inl (nF T))), (m2, .inl (cI, 64, .inl (nF U))), (m3, .inl (cZ, 64, .inl (nF B))), (m4, .inl (cI, 64, .inl (nF Wm))), (m5, .inl (cI, 64, .inl (nF M))), (m6, .inl (cI, 64, .inl (nF F))), (m7, .inl (cI, 64, .inl (nF L))), (m8, .inl (cI, 64, .inl (nF Z))), (m9, .inl (cI, 64, .inl (nF Om))), (m10, .inl (cI, 64, .inl (nF Nm)))]) (wr := []) (ci := 5) (q0 := 0) (As := [.int (nI c), .int (nI ly)]) (rest := []) ⟨hx, hb, hml, hown, hts⟩ (c_X5_wayOf l D cI cZ tt H.size m0 m1 m2 m3 m4 m5 m6 m7 m8 m9 m10 np ai T U B G Wm M F L Z Om Nm c ly (by first | assumption | omega) (by first | assumption | omega) (by first | assumption | omega)) (cwV 2 hts gX5_tied_X5_wayOf rfl rfl rfl (by decide +kernel) ⟨Nat.le_of_ble_eq_true rfl, Nat.le_of_ble_eq_true rfl⟩) hP hK hD hS hA hG rfl rfl [0, 1, 2, 3, 4, 5, 6, 7, 8, 9, 10] [] [0, 1, 2, 3, 4, 5, 6, 7, 8, 9, 10] (by decide) rfl rfl (by decide) (by decide) (by decide) (fun _ => rfl) hl.1 rfl rfl (Nat.le_of_ble_eq_true rfl) ⟨Nat.zero_le _, Nat.zero_le _⟩ dX5_tied_3 (fun r u H locs hp hP hD hS => ?_)
  obtain rfl := hp
  have hP : va_P D vwCl [(m0, .inr (5, [.ref m1, .ref m2, .ref m3, .int (nI (G 0)), .int (nI (G 1)), .int (nI (G 2)), .int (nI (G 3)), .ref m4, .ref m5, .int (nI np), .ref m6, .ref m7, .ref m8, .ref m9, .ref m10, .int (nI ai)])), (m1, .inl (cI, 64, .inl (nF T))), (m2, .inl (cI, 64, .inl (nF U))), (m3, .inl (cZ, 64, .inl (nF B))), (m4, .inl (cI, 64, .inl (nF Wm))), (m5, .inl (cI, 64, .inl (nF M))), (m6, .inl (cI, 64, .inl (nF F))), (m7, .inl (cI, 64, .inl (nF L))), (m8, .inl (cI, 64, .inl (nF Z))), (m9, .inl (cI, 64, .inl (nF Om))), (m10, .inl (cI, 64, .inl (nF Nm)))] H := hP
  have hD : va_D A [(m0, .inr (5, [.ref m1, .ref m2, .ref m3, .int (nI (G 0)), .int (nI (G 1)), .int (nI (G 2)), .int (nI (G 3)), .ref m4, .ref m5, .int (nI np), .ref m6, .ref m7, .ref m8, .ref m9, .ref m10, .int (nI ai)])), (m1, .inl (cI, 64, .inl (nF T))), (m2, .inl (cI, 64, .inl (nF U))), (m3, .inl (cZ, 64, .inl (nF B))), (m4, .inl (cI, 64, .inl (nF Wm))), (m5, .inl (cI, 64, .inl (nF M))), (m6, .inl (cI, 64, .inl (nF F))), (m7, .inl (cI, 64, .inl (nF L))), (m8, .inl (cI, 64, .inl (nF Z))), (m9, .inl (cI, 64, .inl (nF Om))), (m10, .inl (cI, 64, .inl (nF Nm)))] := hD
  have byc := pY_lt (U := U) (ly := ly) c
  refine lv_istore (lv' := [(4, .int (nI (pY U ly c))), (0, .ref m0), (1, .int (nI c)), (2, .int (nI ly)), (3, .int (nI 1))]) hx hb dX5_tied_6 hl (by decide) rfl (fun ls hl => ?_)
  refine lv_iload_n hx hb dX5_tied_8 rfl (lv_at hl 2 rfl) ?_
  refine lv_bipush (v := nI 8) hx hb dX5_tied_9 (by decide) ?_
  refine nv_irem hx hb dX5_tied_11 (by omega) (by omega) (by omega) ?_
  refine lv_iload_n hx hb dX5_tied_12 rfl (lv_at hl 4 rfl) ?_
  refine lv_iload hx hb dX5_tied_13 (lv_at hl 0 rfl) ?_
  refine nv_if_eq (tgt := 24) hx hb dX5_tied_15 (by decide) (by omega) (fun c_1 => ?_) (fun c_1 => ?_)
  · skip
    refine lv_iconst (v := nI 1) hx hb dX5_tied_24 (by decide) ?_
    refine lv_goto (tgt := 39) hx hb dX5_tied_25 (by decide) ?_
    refine lv_imul hx hb dX5_tied_39 ?_
    refine lv_iadd hx hb dX5_tied_40 ?_
    refine lv_istore (lv' := [(5, .int ((nI (c % 8)) + ((nI 1) * (nI 1)))), (4, .int (nI (pY U ly c))), (0, .ref m0), (1, .int (nI c)), (2, .int (nI ly)), (3, .int (nI 1))]) hx hb dX5_tied_41 hl (by decide) rfl (fun ls hl => ?_)
    refine lv_iload_n hx hb dX5_tied_43 rfl (lv_at hl 3 rfl) ?_
    refine lv_bipush (v := nI 8) hx hb dX5_tied_44 (by decide) ?_
    refine nv_idiv hx hb dX5_tied_46 (by omega) (by omega) (by omega) ?_
    refine lv_iload_n hx hb dX5_tied_47 rfl (lv_at hl 5 rfl) ?_
    refine lv_iload hx hb dX5_tied_48 (lv_at hl 1 rfl) ?_
    refine nv_if_ne (tgt := 57) hx hb dX5_tied_50 (by decide) (by omega) (fun c_2 => ?_) (fun c_2 => ?_)
    · skip
      exact absurd c_1 c_2
    · skip
      refine lv_iconst (v := nI 0) hx hb dX5_tied_53 (by decide) ?_
      refine lv_goto (tgt := 58) hx hb dX5_tied_54 (by decide) ?_
      refine lv_imul hx hb dX5_tied_58 ?_
      refine lv_iadd hx hb dX5_tied_59 ?_
      refine lv_istore (lv' := [(6, .int ((nI (c / 8)) + ((nI 1) * (nI 0)))), (5, .int ((nI (c % 8)) + ((nI 1) * (nI 1)))), (4, .int (nI (pY U ly c))), (0, .ref m0), (1, .int (nI c)), (2, .int (nI ly)), (3, .int (nI 1))]) hx hb dX5_tied_60 hl (by decide) rfl (fun ls hl => ?_)
      have hw : pY U ly c = 0 := by omega
      have e1 : (nI (c % 8)) + ((nI 1) * (nI 1)) = cx c (pY U ly c) (nI 1) := by rw [hw]; rfl
      have e2 : (nI (c / 8)) + ((nI 1) * (nI 0)) = cy c (pY U ly c) (nI 1) := by rw [hw]; rfl
      rw [e1, e2] at hl
      refine lv_iload hx hb dX5_tied_62 (lv_at hl 1 rfl) ?_
      refine lv_iload hx hb dX5_tied_64 (lv_at hl 0 rfl) ?_
      refine gcS (As := [.int (cx c (pY U ly c) (nI 1)), .int (cy c (pY U ly c) (nI 1))]) (rest := []) ⟨hx, hb, hml, hown, hts⟩ (c_X5_isCell l (cx c (pY U ly c) (nI 1)) (cy c (pY U ly c) (nI 1)) ) (va_cwS 2 hts gX5_tied_X5_isCell rfl rfl rfl (by decide +kernel) ⟨Nat.le_of_ble_eq_true rfl, Nat.le_of_ble_eq_true rfl⟩) hl.1 rfl rfl (Nat.le_of_ble_eq_true rfl) ⟨Nat.zero_le _, Nat.zero_le _⟩ dX5_tied_66 ?_
      refine nv_ifb_eq (tgt := 117) hx hb dX5_tied_69 (by decide) (fun c_3 => ?_) (fun c_3 => ?_)
      · skip
        refine lv_iconst (v := (-1)) hx hb dX5_tied_117 (by decide) ?_
        exact hret _ () _ _ _ _ dX5_tied_118 (by unfold tn; rw [if_neg (fun q => c_3 ((nx_of (pY_lt c) hc).1.1.mpr q.1))]; rfl) hP hD hS
      · skip
        have hn := (nx_of (pY_lt c) hc).1.1.mp c_3
        obtain ⟨f1, f2⟩ := (nx_of (pY_lt c) hc).2 hn
        rw [f1, f2] at hl
        refine lv_aload_n hx hb dX5_tied_72 rfl (lv_at hl 3 rfl) ?_
        refine va_get (D := D) (ci := 5) (v := .ref m4) (C := RX5) (T := TX5) (N := 16) hx hb hts hinX5 hown hK hP 0 rfl rfl 7 (by decide) lk1 (fun _ h9 => h9) rfl dX5_tied_73 ?_
        refine lv_bipush (v := nI 8) hx hb dX5_tied_76 (by decide) ?_
        refine lv_iload hx hb dX5_tied_78 (lv_at hl 0 rfl) ?_
        refine nv_imul hx hb dX5_tied_80 ?_
        refine lv_iload hx hb dX5_tied_81 (lv_at hl 1 rfl) ?_
        refine nv_iadd hx hb dX5_tied_83 ?_
        refine top_eq (congrArg nI (show (8 * (nx (pY U ly c) c / 8)) + (nx (pY U ly c) c % 8) = nx (pY U ly c) c by omega)) ?_
        refine nv_iald hx hb hK hP 4 rfl (by omega) (by decide) dX5_tied_84 ?_
        refine top_eq (congrArg nI (hWp _ hn)) ?_
        refine nv_if_le (tgt := 117) hx hb dX5_tied_85 (by decide) (by have := hp (nx (pY U ly c) c); omega) (fun c_4 => ?_) (fun c_4 => ?_)
        · skip
          refine lv_iconst (v := (-1)) hx hb dX5_tied_117 (by decide) ?_
          exact hret _ () _ _ _ _ dX5_tied_118 (by unfold tn; rw [if_neg (fun q => q.2.1 c_4)]; rfl) hP hD hS
        · skip
          refine lv_aload_n hx hb dX5_tied_88 rfl (lv_at hl 3 rfl) ?_
          refine lv_bipush (v := nI 8) hx hb dX5_tied_89 (by decide) ?_
          refine lv_iload hx hb dX5_tied_91 (lv_at hl 0 rfl) ?_
          refine nv_imul hx hb dX5_tied_93 ?_
          refine lv_iload hx hb dX5_tied_94 (lv_at hl 1 rfl) ?_
          refine nv_iadd hx hb dX5_tied_96 ?_
          refine top_eq (congrArg nI (show (8 * (nx (pY U ly c) c / 8)) + (nx (pY U ly c) c % 8) = nx (pY U ly c) c by omega)) ?_
          refine lv_iload_n hx hb dX5_tied_97 rfl (lv_at hl 5 rfl) ?_
          refine gcVi (ws' := fun _ => [(m0, .inr (5, [.ref m1, .ref m2, .ref m3, .int (nI (G 0)), .int (nI (G 1)), .int (nI (G 2)), .int (nI (G 3)), .ref m4, .ref m5, .int (nI np), .ref m6, .ref m7, .ref m8, .ref m9, .ref m10, .int (nI ai)])), (m1, .inl (cI, 64, .inl (nF T))), (m2, .inl (cI, 64, .inl (nF U))), (m3, .inl (cZ, 64, .inl (nF B))), (m4, .inl (cI, 64, .inl (nF Wm))), (m5, .inl (cI, 64, .inl (nF M))), (m6, .inl (cI, 64, .inl (nF F))), (m7, .inl (cI, 64, .inl (nF L))), (m8, .inl (cI, 64, .inl (nF Z))), (m9, .inl (cI, 64, .inl (nF Om))), (m10, .inl (cI, 64, .inl (nF Nm)))]) (wr := []) (ci := 5) (q0 := 0) (As := [.int (nI (nx (pY U ly c) c)), .int (nI ly)]) (rest := []) ⟨hx, hb, hml, hown, hts⟩ (c_X5_wayOf l D cI cZ tt H.size m0 m1 m2 m3 m4 m5 m6 m7 m8 m9 m10 np ai T U B G Wm M F L Z Om Nm (nx (pY U ly c) c) ly (by first | assumption | omega) (by first | assumption | omega) (by first | assumption | omega)) (cwV 2 hts gX5_tied_X5_wayOf rfl rfl rfl (by decide +kernel) ⟨Nat.le_of_ble_eq_true rfl, Nat.le_of_ble_eq_true rfl⟩) hP hK hD hS hA hG rfl rfl [0, 1, 2, 3, 4, 5, 6, 7, 8, 9, 10] [] [0, 1, 2, 3, 4, 5, 6, 7, 8, 9, 10] (by decide) rfl rfl (by decide) (by decide) (by decide) (fun _ => rfl) hl.1 rfl rfl (Nat.le_of_ble_eq_true rfl) ⟨Nat.zero_le _, Nat.zero_le _⟩ dX5_tied_98 (fun r u H locs hp hP hD hS => ?_)
          obtain rfl := hp
          have hP : va_P D vwCl [(m0, .inr (5, [.ref m1, .ref m2, .ref m3, .int (nI (G 0)), .int (nI (G 1)), .int (nI (G 2)), .int (nI (G 3)), .ref m4, .ref m5, .int (nI np), .ref m6, .ref m7, .ref m8, .ref m9, .ref m10, .int (nI ai)])), (m1, .inl (cI, 64, .inl (nF T))), (m2, .inl (cI, 64, .inl (nF U))), (m3, .inl (cZ, 64, .inl (nF B))), (m4, .inl (cI, 64, .inl (nF Wm))), (m5, .inl (cI, 64, .inl (nF M))), (m6, .inl (cI, 64, .inl (nF F))), (m7, .inl (cI, 64, .inl (nF L))), (m8, .inl (cI, 64, .inl (nF Z))), (m9, .inl (cI, 64, .inl (nF Om))), (m10, .inl (cI, 64, .inl (nF Nm)))] H := hP
          have hD : va_D A [(m0, .inr (5, [.ref m1, .ref m2, .ref m3, .int (nI (G 0)), .int (nI (G 1)), .int (nI (G 2)), .int (nI (G 3)), .ref m4, .ref m5, .int (nI np), .ref m6, .ref m7, .ref m8, .ref m9, .ref m10, .int (nI ai)])), (m1, .inl (cI, 64, .inl (nF T))), (m2, .inl (cI, 64, .inl (nF U))), (m3, .inl (cZ, 64, .inl (nF B))), (m4, .inl (cI, 64, .inl (nF Wm))), (m5, .inl (cI, 64, .inl (nF M))), (m6, .inl (cI, 64, .inl (nF F))), (m7, .inl (cI, 64, .inl (nF L))), (m8, .inl (cI, 64, .inl (nF Z))), (m9, .inl (cI, 64, .inl (nF Om))), (m10, .inl (cI, 64, .inl (nF Nm)))] := hD
          refine lv_iload hx hb dX5_tied_101 (lv_at hl 2 rfl) ?_
          refine nv_icmp_ne (tgt := 117) hx hb dX5_tied_103 (by decide) (by have := pY_lt (U := U) (ly := ly) (nx (pY U ly c) c); omega) (by have := pY_lt (U := U) (ly := ly) (nx (pY U ly c) c); omega) (fun c_5 => ?_) (fun c_5 => ?_)
          · skip
            refine lv_iconst (v := (-1)) hx hb dX5_tied_117 (by decide) ?_
            exact hret _ () _ _ _ _ dX5_tied_118 (by unfold tn; rw [if_neg (fun q => c_5 q.2.2)]; rfl) hP hD hS
          · skip
            refine lv_bipush (v := nI 8) hx hb dX5_tied_106 (by decide) ?_
            refine lv_iload hx hb dX5_tied_108 (lv_at hl 0 rfl) ?_
            refine nv_imul hx hb dX5_tied_110 ?_
            refine lv_iload hx hb dX5_tied_111 (lv_at hl 1 rfl) ?_
            refine nv_iadd hx hb dX5_tied_113 ?_
            refine top_eq (congrArg nI (show (8 * (nx (pY U ly c) c / 8)) + (nx (pY U ly c) c % 8) = nx (pY U ly c) c by omega)) ?_
            refine lv_goto (tgt := 118) hx hb dX5_tied_114 (by decide) ?_
            exact hret _ () _ _ _ _ dX5_tied_118 (by unfold tn; rw [if_pos ⟨hn, c_4, c_5⟩, rI_some (by omega)]) hP hD hS
  · skip
    refine lv_iload hx hb dX5_tied_18 (lv_at hl 0 rfl) ?_
    refine lv_iconst (v := nI 1) hx hb dX5_tied_20 (by decide) ?_
    refine nv_icmp_ne (tgt := 28) hx hb dX5_tied_21 (by decide) (by omega) (by omega) (fun c_6 => ?_) (fun c_6 => ?_)
    · skip
      refine lv_iload hx hb dX5_tied_28 (lv_at hl 0 rfl) ?_
      refine lv_iconst (v := nI 2) hx hb dX5_tied_30 (by decide) ?_
      refine nv_icmp_ne (tgt := 38) hx hb dX5_tied_31 (by decide) (by omega) (by omega) (fun c_7 => ?_) (fun c_7 => ?_)
      · skip
        refine lv_iconst (v := (-1)) hx hb dX5_tied_38 (by decide) ?_
        refine lv_imul hx hb dX5_tied_39 ?_
        refine lv_iadd hx hb dX5_tied_40 ?_
        refine lv_istore (lv' := [(5, .int ((nI (c % 8)) + ((nI 1) * ((-1))))), (4, .int (nI (pY U ly c))), (0, .ref m0), (1, .int (nI c)), (2, .int (nI ly)), (3, .int (nI 1))]) hx hb dX5_tied_41 hl (by decide) rfl (fun ls hl => ?_)
        refine lv_iload_n hx hb dX5_tied_43 rfl (lv_at hl 3 rfl) ?_
        refine lv_bipush (v := nI 8) hx hb dX5_tied_44 (by decide) ?_
        refine nv_idiv hx hb dX5_tied_46 (by omega) (by omega) (by omega) ?_
        refine lv_iload_n hx hb dX5_tied_47 rfl (lv_at hl 5 rfl) ?_
        refine lv_iload hx hb dX5_tied_48 (lv_at hl 1 rfl) ?_
        refine nv_if_ne (tgt := 57) hx hb dX5_tied_50 (by decide) (by omega) (fun c_8 => ?_) (fun c_8 => ?_)
        · skip
          refine lv_iconst (v := nI 1) hx hb dX5_tied_57 (by decide) ?_
          refine lv_imul hx hb dX5_tied_58 ?_
          refine lv_iadd hx hb dX5_tied_59 ?_
          refine lv_istore (lv' := [(6, .int ((nI (c / 8)) + ((nI 1) * (nI 1)))), (5, .int ((nI (c % 8)) + ((nI 1) * ((-1))))), (4, .int (nI (pY U ly c))), (0, .ref m0), (1, .int (nI c)), (2, .int (nI ly)), (3, .int (nI 1))]) hx hb dX5_tied_60 hl (by decide) rfl (fun ls hl => ?_)
          have hw : pY U ly c = 3 := by omega
          have e1 : (nI (c % 8)) + ((nI 1) * ((-1))) = cx c (pY U ly c) (nI 1) := by rw [hw]; rfl
          have e2 : (nI (c / 8)) + ((nI 1) * (nI 1)) = cy c (pY U ly c) (nI 1) := by rw [hw]; rfl
          rw [e1, e2] at hl
          refine lv_iload hx hb dX5_tied_62 (lv_at hl 1 rfl) ?_
          refine lv_iload hx hb dX5_tied_64 (lv_at hl 0 rfl) ?_
          refine gcS (As := [.int (cx c (pY U ly c) (nI 1)), .int (cy c (pY U ly c) (nI 1))]) (rest := []) ⟨hx, hb, hml, hown, hts⟩ (c_X5_isCell l (cx c (pY U ly c) (nI 1)) (cy c (pY U ly c) (nI 1)) ) (va_cwS 2 hts gX5_tied_X5_isCell rfl rfl rfl (by decide +kernel) ⟨Nat.le_of_ble_eq_true rfl, Nat.le_of_ble_eq_true rfl⟩) hl.1 rfl rfl (Nat.le_of_ble_eq_true rfl) ⟨Nat.zero_le _, Nat.zero_le _⟩ dX5_tied_66 ?_
          refine nv_ifb_eq (tgt := 117) hx hb dX5_tied_69 (by decide) (fun c_9 => ?_) (fun c_9 => ?_)
          · skip
            refine lv_iconst (v := (-1)) hx hb dX5_tied_117 (by decide) ?_
            exact hret _ () _ _ _ _ dX5_tied_118 (by unfold tn; rw [if_neg (fun q => c_9 ((nx_of (pY_lt c) hc).1.1.mpr q.1))]; rfl) hP hD hS
          · skip
            have hn := (nx_of (pY_lt c) hc).1.1.mp c_9
            obtain ⟨f1, f2⟩ := (nx_of (pY_lt c) hc).2 hn
            rw [f1, f2] at hl
            refine lv_aload_n hx hb dX5_tied_72 rfl (lv_at hl 3 rfl) ?_
            refine va_get (D := D) (ci := 5) (v := .ref m4) (C := RX5) (T := TX5) (N := 16) hx hb hts hinX5 hown hK hP 0 rfl rfl 7 (by decide) lk1 (fun _ h9 => h9) rfl dX5_tied_73 ?_
            refine lv_bipush (v := nI 8) hx hb dX5_tied_76 (by decide) ?_
            refine lv_iload hx hb dX5_tied_78 (lv_at hl 0 rfl) ?_
            refine nv_imul hx hb dX5_tied_80 ?_
            refine lv_iload hx hb dX5_tied_81 (lv_at hl 1 rfl) ?_
            refine nv_iadd hx hb dX5_tied_83 ?_
            refine top_eq (congrArg nI (show (8 * (nx (pY U ly c) c / 8)) + (nx (pY U ly c) c % 8) = nx (pY U ly c) c by omega)) ?_
            refine nv_iald hx hb hK hP 4 rfl (by omega) (by decide) dX5_tied_84 ?_
            refine top_eq (congrArg nI (hWp _ hn)) ?_
            refine nv_if_le (tgt := 117) hx hb dX5_tied_85 (by decide) (by have := hp (nx (pY U ly c) c); omega) (fun c_10 => ?_) (fun c_10 => ?_)
            · skip
              refine lv_iconst (v := (-1)) hx hb dX5_tied_117 (by decide) ?_
              exact hret _ () _ _ _ _ dX5_tied_118 (by unfold tn; rw [if_neg (fun q => q.2.1 c_10)]; rfl) hP hD hS
            · skip
              refine lv_aload_n hx hb dX5_tied_88 rfl (lv_at hl 3 rfl) ?_
              refine lv_bipush (v := nI 8) hx hb dX5_tied_89 (by decide) ?_
              refine lv_iload hx hb dX5_tied_91 (lv_at hl 0 rfl) ?_
              refine nv_imul hx hb dX5_tied_93 ?_
              refine lv_iload hx hb dX5_tied_94 (lv_at hl 1 rfl) ?_
              refine nv_iadd hx hb dX5_tied_96 ?_
              refine top_eq (congrArg nI (show (8 * (nx (pY U ly c) c / 8)) + (nx (pY U ly c) c % 8) = nx (pY U ly c) c by omega)) ?_
              refine lv_iload_n hx hb dX5_tied_97 rfl (lv_at hl 5 rfl) ?_
              refine gcVi (ws' := fun _ => [(m0, .inr (5, [.ref m1, .ref m2, .ref m3, .int (nI (G 0)), .int (nI (G 1)), .int (nI (G 2)), .int (nI (G 3)), .ref m4, .ref m5, .int (nI np), .ref m6, .ref m7, .ref m8, .ref m9, .ref m10, .int (nI ai)])), (m1, .inl (cI, 64, .inl (nF T))), (m2, .inl (cI, 64, .inl (nF U))), (m3, .inl (cZ, 64, .inl (nF B))), (m4, .inl (cI, 64, .inl (nF Wm))), (m5, .inl (cI, 64, .inl (nF M))), (m6, .inl (cI, 64, .inl (nF F))), (m7, .inl (cI, 64, .inl (nF L))), (m8, .inl (cI, 64, .inl (nF Z))), (m9, .inl (cI, 64, .inl (nF Om))), (m10, .inl (cI, 64, .inl (nF Nm)))]) (wr := []) (ci := 5) (q0 := 0) (As := [.int (nI (nx (pY U ly c) c)), .int (nI ly)]) (rest := []) ⟨hx, hb, hml, hown, hts⟩ (c_X5_wayOf l D cI cZ tt H.size m0 m1 m2 m3 m4 m5 m6 m7 m8 m9 m10 np ai T U B G Wm M F L Z Om Nm (nx (pY U ly c) c) ly (by first | assumption | omega) (by first | assumption | omega) (by first | assumption | omega)) (cwV 2 hts gX5_tied_X5_wayOf rfl rfl rfl (by decide +kernel) ⟨Nat.le_of_ble_eq_true rfl, Nat.le_of_ble_eq_true rfl⟩) hP hK hD hS hA hG rfl rfl [0, 1, 2, 3, 4, 5, 6, 7, 8, 9, 10] [] [0, 1, 2, 3, 4, 5, 6, 7, 8, 9, 10] (by decide) rfl rfl (by decide) (by decide) (by decide) (fun _ => rfl) hl.1 rfl rfl (Nat.le_of_ble_eq_true rfl) ⟨Nat.zero_le _, Nat.zero_le _⟩ dX5_tied_98 (fun r u H locs hp hP hD hS => ?_)
              obtain rfl := hp
              have hP : va_P D vwCl [(m0, .inr (5, [.ref m1, .ref m2, .ref m3, .int (nI (G 0)), .int (nI (G 1)), .int (nI (G 2)), .int (nI (G 3)), .ref m4, .ref m5, .int (nI np), .ref m6, .ref m7, .ref m8, .ref m9, .ref m10, .int (nI ai)])), (m1, .inl (cI, 64, .inl (nF T))), (m2, .inl (cI, 64, .inl (nF U))), (m3, .inl (cZ, 64, .inl (nF B))), (m4, .inl (cI, 64, .inl (nF Wm))), (m5, .inl (cI, 64, .inl (nF M))), (m6, .inl (cI, 64, .inl (nF F))), (m7, .inl (cI, 64, .inl (nF L))), (m8, .inl (cI, 64, .inl (nF Z))), (m9, .inl (cI, 64, .inl (nF Om))), (m10, .inl (cI, 64, .inl (nF Nm)))] H := hP
              have hD : va_D A [(m0, .inr (5, [.ref m1, .ref m2, .ref m3, .int (nI (G 0)), .int (nI (G 1)), .int (nI (G 2)), .int (nI (G 3)), .ref m4, .ref m5, .int (nI np), .ref m6, .ref m7, .ref m8, .ref m9, .ref m10, .int (nI ai)])), (m1, .inl (cI, 64, .inl (nF T))), (m2, .inl (cI, 64, .inl (nF U))), (m3, .inl (cZ, 64, .inl (nF B))), (m4, .inl (cI, 64, .inl (nF Wm))), (m5, .inl (cI, 64, .inl (nF M))), (m6, .inl (cI, 64, .inl (nF F))), (m7, .inl (cI, 64, .inl (nF L))), (m8, .inl (cI, 64, .inl (nF Z))), (m9, .inl (cI, 64, .inl (nF Om))), (m10, .inl (cI, 64, .inl (nF Nm)))] := hD
              refine lv_iload hx hb dX5_tied_101 (lv_at hl 2 rfl) ?_
              refine nv_icmp_ne (tgt := 117) hx hb dX5_tied_103 (by decide) (by have := pY_lt (U := U) (ly := ly) (nx (pY U ly c) c); omega) (by have := pY_lt (U := U) (ly := ly) (nx (pY U ly c) c); omega) (fun c_11 => ?_) (fun c_11 => ?_)
              · skip
                refine lv_iconst (v := (-1)) hx hb dX5_tied_117 (by decide) ?_
                exact hret _ () _ _ _ _ dX5_tied_118 (by unfold tn; rw [if_neg (fun q => c_11 q.2.2)]; rfl) hP hD hS
              · skip
                refine lv_bipush (v := nI 8) hx hb dX5_tied_106 (by decide) ?_
                refine lv_iload hx hb dX5_tied_108 (lv_at hl 0 rfl) ?_
                refine nv_imul hx hb dX5_tied_110 ?_
                refine lv_iload hx hb dX5_tied_111 (lv_at hl 1 rfl) ?_
                refine nv_iadd hx hb dX5_tied_113 ?_
                refine top_eq (congrArg nI (show (8 * (nx (pY U ly c) c / 8)) + (nx (pY U ly c) c % 8) = nx (pY U ly c) c by omega)) ?_
                refine lv_goto (tgt := 118) hx hb dX5_tied_114 (by decide) ?_
                exact hret _ () _ _ _ _ dX5_tied_118 (by unfold tn; rw [if_pos ⟨hn, c_10, c_11⟩, rI_some (by omega)]) hP hD hS
        · skip
          exact absurd c_8 c_1
      · skip
        refine lv_iconst (v := nI 0) hx hb dX5_tied_34 (by decide) ?_
        refine lv_goto (tgt := 39) hx hb dX5_tied_35 (by decide) ?_
        refine lv_imul hx hb dX5_tied_39 ?_
        refine lv_iadd hx hb dX5_tied_40 ?_
        refine lv_istore (lv' := [(5, .int ((nI (c % 8)) + ((nI 1) * (nI 0)))), (4, .int (nI (pY U ly c))), (0, .ref m0), (1, .int (nI c)), (2, .int (nI ly)), (3, .int (nI 1))]) hx hb dX5_tied_41 hl (by decide) rfl (fun ls hl => ?_)
        refine lv_iload_n hx hb dX5_tied_43 rfl (lv_at hl 3 rfl) ?_
        refine lv_bipush (v := nI 8) hx hb dX5_tied_44 (by decide) ?_
        refine nv_idiv hx hb dX5_tied_46 (by omega) (by omega) (by omega) ?_
        refine lv_iload_n hx hb dX5_tied_47 rfl (lv_at hl 5 rfl) ?_
        refine lv_iload hx hb dX5_tied_48 (lv_at hl 1 rfl) ?_
        refine nv_if_ne (tgt := 57) hx hb dX5_tied_50 (by decide) (by omega) (fun c_12 => ?_) (fun c_12 => ?_)
        · skip
          refine lv_iconst (v := nI 1) hx hb dX5_tied_57 (by decide) ?_
          refine lv_imul hx hb dX5_tied_58 ?_
          refine lv_iadd hx hb dX5_tied_59 ?_
          refine lv_istore (lv' := [(6, .int ((nI (c / 8)) + ((nI 1) * (nI 1)))), (5, .int ((nI (c % 8)) + ((nI 1) * (nI 0)))), (4, .int (nI (pY U ly c))), (0, .ref m0), (1, .int (nI c)), (2, .int (nI ly)), (3, .int (nI 1))]) hx hb dX5_tied_60 hl (by decide) rfl (fun ls hl => ?_)
          have hw : pY U ly c = 2 := by omega
          have e1 : (nI (c % 8)) + ((nI 1) * (nI 0)) = cx c (pY U ly c) (nI 1) := by rw [hw]; rfl
          have e2 : (nI (c / 8)) + ((nI 1) * (nI 1)) = cy c (pY U ly c) (nI 1) := by rw [hw]; rfl
          rw [e1, e2] at hl
          refine lv_iload hx hb dX5_tied_62 (lv_at hl 1 rfl) ?_
          refine lv_iload hx hb dX5_tied_64 (lv_at hl 0 rfl) ?_
          refine gcS (As := [.int (cx c (pY U ly c) (nI 1)), .int (cy c (pY U ly c) (nI 1))]) (rest := []) ⟨hx, hb, hml, hown, hts⟩ (c_X5_isCell l (cx c (pY U ly c) (nI 1)) (cy c (pY U ly c) (nI 1)) ) (va_cwS 2 hts gX5_tied_X5_isCell rfl rfl rfl (by decide +kernel) ⟨Nat.le_of_ble_eq_true rfl, Nat.le_of_ble_eq_true rfl⟩) hl.1 rfl rfl (Nat.le_of_ble_eq_true rfl) ⟨Nat.zero_le _, Nat.zero_le _⟩ dX5_tied_66 ?_
          refine nv_ifb_eq (tgt := 117) hx hb dX5_tied_69 (by decide) (fun c_13 => ?_) (fun c_13 => ?_)
          · skip
            refine lv_iconst (v := (-1)) hx hb dX5_tied_117 (by decide) ?_
            exact hret _ () _ _ _ _ dX5_tied_118 (by unfold tn; rw [if_neg (fun q => c_13 ((nx_of (pY_lt c) hc).1.1.mpr q.1))]; rfl) hP hD hS
          · skip
            have hn := (nx_of (pY_lt c) hc).1.1.mp c_13
            obtain ⟨f1, f2⟩ := (nx_of (pY_lt c) hc).2 hn
            rw [f1, f2] at hl
            refine lv_aload_n hx hb dX5_tied_72 rfl (lv_at hl 3 rfl) ?_
            refine va_get (D := D) (ci := 5) (v := .ref m4) (C := RX5) (T := TX5) (N := 16) hx hb hts hinX5 hown hK hP 0 rfl rfl 7 (by decide) lk1 (fun _ h9 => h9) rfl dX5_tied_73 ?_
            refine lv_bipush (v := nI 8) hx hb dX5_tied_76 (by decide) ?_
            refine lv_iload hx hb dX5_tied_78 (lv_at hl 0 rfl) ?_
            refine nv_imul hx hb dX5_tied_80 ?_
            refine lv_iload hx hb dX5_tied_81 (lv_at hl 1 rfl) ?_
            refine nv_iadd hx hb dX5_tied_83 ?_
            refine top_eq (congrArg nI (show (8 * (nx (pY U ly c) c / 8)) + (nx (pY U ly c) c % 8) = nx (pY U ly c) c by omega)) ?_
            refine nv_iald hx hb hK hP 4 rfl (by omega) (by decide) dX5_tied_84 ?_
            refine top_eq (congrArg nI (hWp _ hn)) ?_
            refine nv_if_le (tgt := 117) hx hb dX5_tied_85 (by decide) (by have := hp (nx (pY U ly c) c); omega) (fun c_14 => ?_) (fun c_14 => ?_)
            · skip
              refine lv_iconst (v := (-1)) hx hb dX5_tied_117 (by decide) ?_
              exact hret _ () _ _ _ _ dX5_tied_118 (by unfold tn; rw [if_neg (fun q => q.2.1 c_14)]; rfl) hP hD hS
            · skip
              refine lv_aload_n hx hb dX5_tied_88 rfl (lv_at hl 3 rfl) ?_
              refine lv_bipush (v := nI 8) hx hb dX5_tied_89 (by decide) ?_
              refine lv_iload hx hb dX5_tied_91 (lv_at hl 0 rfl) ?_
              refine nv_imul hx hb dX5_tied_93 ?_
              refine lv_iload hx hb dX5_tied_94 (lv_at hl 1 rfl) ?_
              refine nv_iadd hx hb dX5_tied_96 ?_
              refine top_eq (congrArg nI (show (8 * (nx (pY U ly c) c / 8)) + (nx (pY U ly c) c % 8) = nx (pY U ly c) c by omega)) ?_
              refine lv_iload_n hx hb dX5_tied_97 rfl (lv_at hl 5 rfl) ?_
              refine gcVi (ws' := fun _ => [(m0, .inr (5, [.ref m1, .ref m2, .ref m3, .int (nI (G 0)), .int (nI (G 1)), .int (nI (G 2)), .int (nI (G 3)), .ref m4, .ref m5, .int (nI np), .ref m6, .ref m7, .ref m8, .ref m9, .ref m10, .int (nI ai)])), (m1, .inl (cI, 64, .inl (nF T))), (m2, .inl (cI, 64, .inl (nF U))), (m3, .inl (cZ, 64, .inl (nF B))), (m4, .inl (cI, 64, .inl (nF Wm))), (m5, .inl (cI, 64, .inl (nF M))), (m6, .inl (cI, 64, .inl (nF F))), (m7, .inl (cI, 64, .inl (nF L))), (m8, .inl (cI, 64, .inl (nF Z))), (m9, .inl (cI, 64, .inl (nF Om))), (m10, .inl (cI, 64, .inl (nF Nm)))]) (wr := []) (ci := 5) (q0 := 0) (As := [.int (nI (nx (pY U ly c) c)), .int (nI ly)]) (rest := []) ⟨hx, hb, hml, hown, hts⟩ (c_X5_wayOf l D cI cZ tt H.size m0 m1 m2 m3 m4 m5 m6 m7 m8 m9 m10 np ai T U B G Wm M F L Z Om Nm (nx (pY U ly c) c) ly (by first | assumption | omega) (by first | assumption | omega) (by first | assumption | omega)) (cwV 2 hts gX5_tied_X5_wayOf rfl rfl rfl (by decide +kernel) ⟨Nat.le_of_ble_eq_true rfl, Nat.le_of_ble_eq_true rfl⟩) hP hK hD hS hA hG rfl rfl [0, 1, 2, 3, 4, 5, 6, 7, 8, 9, 10] [] [0, 1, 2, 3, 4, 5, 6, 7, 8, 9, 10] (by decide) rfl rfl (by decide) (by decide) (by decide) (fun _ => rfl) hl.1 rfl rfl (Nat.le_of_ble_eq_true rfl) ⟨Nat.zero_le _, Nat.zero_le _⟩ dX5_tied_98 (fun r u H locs hp hP hD hS => ?_)
              obtain rfl := hp
              have hP : va_P D vwCl [(m0, .inr (5, [.ref m1, .ref m2, .ref m3, .int (nI (G 0)), .int (nI (G 1)), .int (nI (G 2)), .int (nI (G 3)), .ref m4, .ref m5, .int (nI np), .ref m6, .ref m7, .ref m8, .ref m9, .ref m10, .int (nI ai)])), (m1, .inl (cI, 64, .inl (nF T))), (m2, .inl (cI, 64, .inl (nF U))), (m3, .inl (cZ, 64, .inl (nF B))), (m4, .inl (cI, 64, .inl (nF Wm))), (m5, .inl (cI, 64, .inl (nF M))), (m6, .inl (cI, 64, .inl (nF F))), (m7, .inl (cI, 64, .inl (nF L))), (m8, .inl (cI, 64, .inl (nF Z))), (m9, .inl (cI, 64, .inl (nF Om))), (m10, .inl (cI, 64, .inl (nF Nm)))] H := hP
              have hD : va_D A [(m0, .inr (5, [.ref m1, .ref m2, .ref m3, .int (nI (G 0)), .int (nI (G 1)), .int (nI (G 2)), .int (nI (G 3)), .ref m4, .ref m5, .int (nI np), .ref m6, .ref m7, .ref m8, .ref m9, .ref m10, .int (nI ai)])), (m1, .inl (cI, 64, .inl (nF T))), (m2, .inl (cI, 64, .inl (nF U))), (m3, .inl (cZ, 64, .inl (nF B))), (m4, .inl (cI, 64, .inl (nF Wm))), (m5, .inl (cI, 64, .inl (nF M))), (m6, .inl (cI, 64, .inl (nF F))), (m7, .inl (cI, 64, .inl (nF L))), (m8, .inl (cI, 64, .inl (nF Z))), (m9, .inl (cI, 64, .inl (nF Om))), (m10, .inl (cI, 64, .inl (nF Nm)))] := hD
              refine lv_iload hx hb dX5_tied_101 (lv_at hl 2 rfl) ?_
              refine nv_icmp_ne (tgt := 117) hx hb dX5_tied_103 (by decide) (by have := pY_lt (U := U) (ly := ly) (nx (pY U ly c) c); omega) (by have := pY_lt (U := U) (ly := ly) (nx (pY U ly c) c); omega) (fun c_15 => ?_) (fun c_15 => ?_)
              · skip
                refine lv_iconst (v := (-1)) hx hb dX5_tied_117 (by decide) ?_
                exact hret _ () _ _ _ _ dX5_tied_118 (by unfold tn; rw [if_neg (fun q => c_15 q.2.2)]; rfl) hP hD hS
              · skip
                refine lv_bipush (v := nI 8) hx hb dX5_tied_106 (by decide) ?_
                refine lv_iload hx hb dX5_tied_108 (lv_at hl 0 rfl) ?_
                refine nv_imul hx hb dX5_tied_110 ?_
                refine lv_iload hx hb dX5_tied_111 (lv_at hl 1 rfl) ?_
                refine nv_iadd hx hb dX5_tied_113 ?_
                refine top_eq (congrArg nI (show (8 * (nx (pY U ly c) c / 8)) + (nx (pY U ly c) c % 8) = nx (pY U ly c) c by omega)) ?_
                refine lv_goto (tgt := 118) hx hb dX5_tied_114 (by decide) ?_
                exact hret _ () _ _ _ _ dX5_tied_118 (by unfold tn; rw [if_pos ⟨hn, c_14, c_15⟩, rI_some (by omega)]) hP hD hS
        · skip
          exact absurd c_12 c_1
    · skip
      refine lv_iconst (v := nI 1) hx hb dX5_tied_24 (by decide) ?_
      refine lv_goto (tgt := 39) hx hb dX5_tied_25 (by decide) ?_
      refine lv_imul hx hb dX5_tied_39 ?_
      refine lv_iadd hx hb dX5_tied_40 ?_
      refine lv_istore (lv' := [(5, .int ((nI (c % 8)) + ((nI 1) * (nI 1)))), (4, .int (nI (pY U ly c))), (0, .ref m0), (1, .int (nI c)), (2, .int (nI ly)), (3, .int (nI 1))]) hx hb dX5_tied_41 hl (by decide) rfl (fun ls hl => ?_)
      refine lv_iload_n hx hb dX5_tied_43 rfl (lv_at hl 3 rfl) ?_
      refine lv_bipush (v := nI 8) hx hb dX5_tied_44 (by decide) ?_
      refine nv_idiv hx hb dX5_tied_46 (by omega) (by omega) (by omega) ?_
      refine lv_iload_n hx hb dX5_tied_47 rfl (lv_at hl 5 rfl) ?_
      refine lv_iload hx hb dX5_tied_48 (lv_at hl 1 rfl) ?_
      refine nv_if_ne (tgt := 57) hx hb dX5_tied_50 (by decide) (by omega) (fun c_16 => ?_) (fun c_16 => ?_)
      · skip
        refine lv_iconst (v := nI 1) hx hb dX5_tied_57 (by decide) ?_
        refine lv_imul hx hb dX5_tied_58 ?_
        refine lv_iadd hx hb dX5_tied_59 ?_
        refine lv_istore (lv' := [(6, .int ((nI (c / 8)) + ((nI 1) * (nI 1)))), (5, .int ((nI (c % 8)) + ((nI 1) * (nI 1)))), (4, .int (nI (pY U ly c))), (0, .ref m0), (1, .int (nI c)), (2, .int (nI ly)), (3, .int (nI 1))]) hx hb dX5_tied_60 hl (by decide) rfl (fun ls hl => ?_)
        have hw : pY U ly c = 1 := by omega
        have e1 : (nI (c % 8)) + ((nI 1) * (nI 1)) = cx c (pY U ly c) (nI 1) := by rw [hw]; rfl
        have e2 : (nI (c / 8)) + ((nI 1) * (nI 1)) = cy c (pY U ly c) (nI 1) := by rw [hw]; rfl
        rw [e1, e2] at hl
        refine lv_iload hx hb dX5_tied_62 (lv_at hl 1 rfl) ?_
        refine lv_iload hx hb dX5_tied_64 (lv_at hl 0 rfl) ?_
        refine gcS (As := [.int (cx c (pY U ly c) (nI 1)), .int (cy c (pY U ly c) (nI 1))]) (rest := []) ⟨hx, hb, hml, hown, hts⟩ (c_X5_isCell l (cx c (pY U ly c) (nI 1)) (cy c (pY U ly c) (nI 1)) ) (va_cwS 2 hts gX5_tied_X5_isCell rfl rfl rfl (by decide +kernel) ⟨Nat.le_of_ble_eq_true rfl, Nat.le_of_ble_eq_true rfl⟩) hl.1 rfl rfl (Nat.le_of_ble_eq_true rfl) ⟨Nat.zero_le _, Nat.zero_le _⟩ dX5_tied_66 ?_
        refine nv_ifb_eq (tgt := 117) hx hb dX5_tied_69 (by decide) (fun c_17 => ?_) (fun c_17 => ?_)
        · skip
          refine lv_iconst (v := (-1)) hx hb dX5_tied_117 (by decide) ?_
          exact hret _ () _ _ _ _ dX5_tied_118 (by unfold tn; rw [if_neg (fun q => c_17 ((nx_of (pY_lt c) hc).1.1.mpr q.1))]; rfl) hP hD hS
        · skip
          have hn := (nx_of (pY_lt c) hc).1.1.mp c_17
          obtain ⟨f1, f2⟩ := (nx_of (pY_lt c) hc).2 hn
          rw [f1, f2] at hl
          refine lv_aload_n hx hb dX5_tied_72 rfl (lv_at hl 3 rfl) ?_
          refine va_get (D := D) (ci := 5) (v := .ref m4) (C := RX5) (T := TX5) (N := 16) hx hb hts hinX5 hown hK hP 0 rfl rfl 7 (by decide) lk1 (fun _ h9 => h9) rfl dX5_tied_73 ?_
          refine lv_bipush (v := nI 8) hx hb dX5_tied_76 (by decide) ?_
          refine lv_iload hx hb dX5_tied_78 (lv_at hl 0 rfl) ?_
          refine nv_imul hx hb dX5_tied_80 ?_
          refine lv_iload hx hb dX5_tied_81 (lv_at hl 1 rfl) ?_
          refine nv_iadd hx hb dX5_tied_83 ?_
          refine top_eq (congrArg nI (show (8 * (nx (pY U ly c) c / 8)) + (nx (pY U ly c) c % 8) = nx (pY U ly c) c by omega)) ?_
          refine nv_iald hx hb hK hP 4 rfl (by omega) (by decide) dX5_tied_84 ?_
          refine top_eq (congrArg nI (hWp _ hn)) ?_
          refine nv_if_le (tgt := 117) hx hb dX5_tied_85 (by decide) (by have := hp (nx (pY U ly c) c); omega) (fun c_18 => ?_) (fun c_18 => ?_)
          · skip
            refine lv_iconst (v := (-1)) hx hb dX5_tied_117 (by decide) ?_
            exact hret _ () _ _ _ _ dX5_tied_118 (by unfold tn; rw [if_neg (fun q => q.2.1 c_18)]; rfl) hP hD hS
          · skip
            refine lv_aload_n hx hb dX5_tied_88 rfl (lv_at hl 3 rfl) ?_
            refine lv_bipush (v := nI 8) hx hb dX5_tied_89 (by decide) ?_
            refine lv_iload hx hb dX5_tied_91 (lv_at hl 0 rfl) ?_
            refine nv_imul hx hb dX5_tied_93 ?_
            refine lv_iload hx hb dX5_tied_94 (lv_at hl 1 rfl) ?_
            refine nv_iadd hx hb dX5_tied_96 ?_
            refine top_eq (congrArg nI (show (8 * (nx (pY U ly c) c / 8)) + (nx (pY U ly c) c % 8) = nx (pY U ly c) c by omega)) ?_
            refine lv_iload_n hx hb dX5_tied_97 rfl (lv_at hl 5 rfl) ?_
            refine gcVi (ws' := fun _ => [(m0, .inr (5, [.ref m1, .ref m2, .ref m3, .int (nI (G 0)), .int (nI (G 1)), .int (nI (G 2)), .int (nI (G 3)), .ref m4, .ref m5, .int (nI np), .ref m6, .ref m7, .ref m8, .ref m9, .ref m10, .int (nI ai)])), (m1, .inl (cI, 64, .inl (nF T))), (m2, .inl (cI, 64, .inl (nF U))), (m3, .inl (cZ, 64, .inl (nF B))), (m4, .inl (cI, 64, .inl (nF Wm))), (m5, .inl (cI, 64, .inl (nF M))), (m6, .inl (cI, 64, .inl (nF F))), (m7, .inl (cI, 64, .inl (nF L))), (m8, .inl (cI, 64, .inl (nF Z))), (m9, .inl (cI, 64, .inl (nF Om))), (m10, .inl (cI, 64, .inl (nF Nm)))]) (wr := []) (ci := 5) (q0 := 0) (As := [.int (nI (nx (pY U ly c) c)), .int (nI ly)]) (rest := []) ⟨hx, hb, hml, hown, hts⟩ (c_X5_wayOf l D cI cZ tt H.size m0 m1 m2 m3 m4 m5 m6 m7 m8 m9 m10 np ai T U B G Wm M F L Z Om Nm (nx (pY U ly c) c) ly (by first | assumption | omega) (by first | assumption | omega) (by first | assumption | omega)) (cwV 2 hts gX5_tied_X5_wayOf rfl rfl rfl (by decide +kernel) ⟨Nat.le_of_ble_eq_true rfl, Nat.le_of_ble_eq_true rfl⟩) hP hK hD hS hA hG rfl rfl [0, 1, 2, 3, 4, 5, 6, 7, 8, 9, 10] [] [0, 1, 2, 3, 4, 5, 6, 7, 8, 9, 10] (by decide) rfl rfl (by decide) (by decide) (by decide) (fun _ => rfl) hl.1 rfl rfl (Nat.le_of_ble_eq_true rfl) ⟨Nat.zero_le _, Nat.zero_le _⟩ dX5_tied_98 (fun r u H locs hp hP hD hS => ?_)
            obtain rfl := hp
            have hP : va_P D vwCl [(m0, .inr (5, [.ref m1, .ref m2, .ref m3, .int (nI (G 0)), .int (nI (G 1)), .int (nI (G 2)), .int (nI (G 3)), .ref m4, .ref m5, .int (nI np), .ref m6, .ref m7, .ref m8, .ref m9, .ref m10, .int (nI ai)])), (m1, .inl (cI, 64, .inl (nF T))), (m2, .inl (cI, 64, .inl (nF U))), (m3, .inl (cZ, 64, .inl (nF B))), (m4, .inl (cI, 64, .inl (nF Wm))), (m5, .inl (cI, 64, .inl (nF M))), (m6, .inl (cI, 64, .inl (nF F))), (m7, .inl (cI, 64, .inl (nF L))), (m8, .inl (cI, 64, .inl (nF Z))), (m9, .inl (cI, 64, .inl (nF Om))), (m10, .inl (cI, 64, .inl (nF Nm)))] H := hP
            have hD : va_D A [(m0, .inr (5, [.ref m1, .ref m2, .ref m3, .int (nI (G 0)), .int (nI (G 1)), .int (nI (G 2)), .int (nI (G 3)), .ref m4, .ref m5, .int (nI np), .ref m6, .ref m7, .ref m8, .ref m9, .ref m10, .int (nI ai)])), (m1, .inl (cI, 64, .inl (nF T))), (m2, .inl (cI, 64, .inl (nF U))), (m3, .inl (cZ, 64, .inl (nF B))), (m4, .inl (cI, 64, .inl (nF Wm))), (m5, .inl (cI, 64, .inl (nF M))), (m6, .inl (cI, 64, .inl (nF F))), (m7, .inl (cI, 64, .inl (nF L))), (m8, .inl (cI, 64, .inl (nF Z))), (m9, .inl (cI, 64, .inl (nF Om))), (m10, .inl (cI, 64, .inl (nF Nm)))] := hD
            refine lv_iload hx hb dX5_tied_101 (lv_at hl 2 rfl) ?_
            refine nv_icmp_ne (tgt := 117) hx hb dX5_tied_103 (by decide) (by have := pY_lt (U := U) (ly := ly) (nx (pY U ly c) c); omega) (by have := pY_lt (U := U) (ly := ly) (nx (pY U ly c) c); omega) (fun c_19 => ?_) (fun c_19 => ?_)
            · skip
              refine lv_iconst (v := (-1)) hx hb dX5_tied_117 (by decide) ?_
              exact hret _ () _ _ _ _ dX5_tied_118 (by unfold tn; rw [if_neg (fun q => c_19 q.2.2)]; rfl) hP hD hS
            · skip
              refine lv_bipush (v := nI 8) hx hb dX5_tied_106 (by decide) ?_
              refine lv_iload hx hb dX5_tied_108 (lv_at hl 0 rfl) ?_
              refine nv_imul hx hb dX5_tied_110 ?_
              refine lv_iload hx hb dX5_tied_111 (lv_at hl 1 rfl) ?_
              refine nv_iadd hx hb dX5_tied_113 ?_
              refine top_eq (congrArg nI (show (8 * (nx (pY U ly c) c / 8)) + (nx (pY U ly c) c % 8) = nx (pY U ly c) c by omega)) ?_
              refine lv_goto (tgt := 118) hx hb dX5_tied_114 (by decide) ?_
              exact hret _ () _ _ _ _ dX5_tied_118 (by unfold tn; rw [if_pos ⟨hn, c_18, c_19⟩, rI_some (by omega)]) hP hD hS
      · skip
        exact absurd c_16 c_1

set_option maxHeartbeats 4000000 in
set_option maxRecDepth 100000 in
theorem c_X5_tied_back (l : Launch) (D : va_G) (cI cZ : ClassId) (tt : Nat → Nat) (sz : Nat) (m0 m1 m2 m3 m4 m5 m6 m7 m8 m9 m10 : Nat) (np ai : Nat) (T U B G Wm M F L Z Om Nm : Nat → Nat) (p : Nat → Nat) (c ly : Nat) (hWp : ∀ k, k < 64 → Wm k = p k) (hp : ∀ k, p k ≤ 100) (hU : ∀ k, U k < 8) (hc : c < 64) (hly : ly < 2) : MI l yX5_tied wsX5_tied ({ frames := 2, cells := 0, slots := 0, locals := 43 } : Room) D cI cZ tt [.ref m0, .int (nI c), .int (nI ly), .int ((-1))] [(m0, .inr (5, [.ref m1, .ref m2, .ref m3, .int (nI (G 0)), .int (nI (G 1)), .int (nI (G 2)), .int (nI (G 3)), .ref m4, .ref m5, .int (nI np), .ref m6, .ref m7, .ref m8, .ref m9, .ref m10, .int (nI ai)])), (m1, .inl (cI, 64, .inl (nF T))), (m2, .inl (cI, 64, .inl (nF U))), (m3, .inl (cZ, 64, .inl (nF B))), (m4, .inl (cI, 64, .inl (nF Wm))), (m5, .inl (cI, 64, .inl (nF M))), (m6, .inl (cI, 64, .inl (nF F))), (m7, .inl (cI, 64, .inl (nF L))), (m8, .inl (cI, 64, .inl (nF Z))), (m9, .inl (cI, 64, .inl (nF Om))), (m10, .inl (cI, 64, .inl (nF Nm)))] sz (fun (r : Int32) (_ : Unit) => r = rI (tp p (pY U ly) c)) (fun (_ : Unit) => [(m0, .inr (5, [.ref m1, .ref m2, .ref m3, .int (nI (G 0)), .int (nI (G 1)), .int (nI (G 2)), .int (nI (G 3)), .ref m4, .ref m5, .int (nI np), .ref m6, .ref m7, .ref m8, .ref m9, .ref m10, .int (nI ai)])), (m1, .inl (cI, 64, .inl (nF T))), (m2, .inl (cI, 64, .inl (nF U))), (m3, .inl (cZ, 64, .inl (nF B))), (m4, .inl (cI, 64, .inl (nF Wm))), (m5, .inl (cI, 64, .inl (nF M))), (m6, .inl (cI, 64, .inl (nF F))), (m7, .inl (cI, 64, .inl (nF L))), (m8, .inl (cI, 64, .inl (nF Z))), (m9, .inl (cI, 64, .inl (nF Om))), (m10, .inl (cI, 64, .inl (nF Nm)))]) := by
  refine entI (cc := cX5_tied) 7 (by decide) rfl (Nat.le_of_ble_eq_true rfl) (Or.inl rfl) (fun pr e s m args below meth c0 A Q H ls hx hb hml hown hts hsz hA hP hK hD hS hG hret hl => ?_)
  have hown : s.vm.findClass RX5 = some m.cls := hown
  have lk1 := hts (.fieldLink RX5 33 "BurinLinesModel" "want" "[I") (by decide +kernel)
  have hinX5 : ∀ w ∈ wsX50, w ∈ wsX5_tied := by decide +kernel
  have hl : lv_has ls 7 [(0, .ref m0), (1, .int (nI c)), (2, .int (nI ly)), (3, .int ((-1)))] := hl
  refine lv_aload_n hx hb dX5_tied_0 rfl (lv_at hl 0 rfl) ?_
  refine lv_iload_n hx hb dX5_tied_1 rfl (lv_at hl 1 rfl) ?_
  refine lv_iload_n hx hb dX5_tied_2 rfl (lv_at hl 2 rfl) ?_
  refine gcVi (ws' := fun _ => [(m0, .inr (5, [.ref m1, .ref m2, .ref m3, .int (nI (G 0)), .int (nI (G 1)), .int (nI (G 2)), .int (nI (G 3)), .ref m4, .ref m5, .int (nI np), .ref m6, .ref m7, .ref m8, .ref m9, .ref m10, .int (nI ai)])), (m1, .inl (cI, 64, .inl (nF T))), (m2, .inl (cI, 64, .inl (nF U))), (m3, .inl (cZ, 64, .inl (nF B))), (m4, .inl (cI, 64, .inl (nF Wm))), (m5, .inl (cI, 64, .inl (nF M))), (m6, .inl (cI, 64, .inl (nF F))), (m7, .inl (cI, 64, .inl (nF L))), (m8, .inl (cI, 64, .inl (nF Z))), (m9, .inl (cI, 64, .inl (nF Om))), (m10, .inl (cI, 64, .inl (nF Nm)))]) (wr := []) (ci := 5) (q0 := 0) (As := [.int (nI c), .int (nI ly)]) (rest := []) ⟨hx, hb, hml, hown, hts⟩ (c_X5_wayOf l D cI cZ tt H.size m0 m1 m2 m3 m4 m5 m6 m7 m8 m9 m10 np ai T U B G Wm M F L Z Om Nm c ly (by first | assumption | omega) (by first | assumption | omega) (by first | assumption | omega)) (cwV 2 hts gX5_tied_X5_wayOf rfl rfl rfl (by decide +kernel) ⟨Nat.le_of_ble_eq_true rfl, Nat.le_of_ble_eq_true rfl⟩) hP hK hD hS hA hG rfl rfl [0, 1, 2, 3, 4, 5, 6, 7, 8, 9, 10] [] [0, 1, 2, 3, 4, 5, 6, 7, 8, 9, 10] (by decide) rfl rfl (by decide) (by decide) (by decide) (fun _ => rfl) hl.1 rfl rfl (Nat.le_of_ble_eq_true rfl) ⟨Nat.zero_le _, Nat.zero_le _⟩ dX5_tied_3 (fun r u H locs hp hP hD hS => ?_)
  obtain rfl := hp
  have hP : va_P D vwCl [(m0, .inr (5, [.ref m1, .ref m2, .ref m3, .int (nI (G 0)), .int (nI (G 1)), .int (nI (G 2)), .int (nI (G 3)), .ref m4, .ref m5, .int (nI np), .ref m6, .ref m7, .ref m8, .ref m9, .ref m10, .int (nI ai)])), (m1, .inl (cI, 64, .inl (nF T))), (m2, .inl (cI, 64, .inl (nF U))), (m3, .inl (cZ, 64, .inl (nF B))), (m4, .inl (cI, 64, .inl (nF Wm))), (m5, .inl (cI, 64, .inl (nF M))), (m6, .inl (cI, 64, .inl (nF F))), (m7, .inl (cI, 64, .inl (nF L))), (m8, .inl (cI, 64, .inl (nF Z))), (m9, .inl (cI, 64, .inl (nF Om))), (m10, .inl (cI, 64, .inl (nF Nm)))] H := hP
  have hD : va_D A [(m0, .inr (5, [.ref m1, .ref m2, .ref m3, .int (nI (G 0)), .int (nI (G 1)), .int (nI (G 2)), .int (nI (G 3)), .ref m4, .ref m5, .int (nI np), .ref m6, .ref m7, .ref m8, .ref m9, .ref m10, .int (nI ai)])), (m1, .inl (cI, 64, .inl (nF T))), (m2, .inl (cI, 64, .inl (nF U))), (m3, .inl (cZ, 64, .inl (nF B))), (m4, .inl (cI, 64, .inl (nF Wm))), (m5, .inl (cI, 64, .inl (nF M))), (m6, .inl (cI, 64, .inl (nF F))), (m7, .inl (cI, 64, .inl (nF L))), (m8, .inl (cI, 64, .inl (nF Z))), (m9, .inl (cI, 64, .inl (nF Om))), (m10, .inl (cI, 64, .inl (nF Nm)))] := hD
  have byc := pY_lt (U := U) (ly := ly) c
  refine lv_istore (lv' := [(4, .int (nI (pY U ly c))), (0, .ref m0), (1, .int (nI c)), (2, .int (nI ly)), (3, .int ((-1)))]) hx hb dX5_tied_6 hl (by decide) rfl (fun ls hl => ?_)
  refine lv_iload_n hx hb dX5_tied_8 rfl (lv_at hl 2 rfl) ?_
  refine lv_bipush (v := nI 8) hx hb dX5_tied_9 (by decide) ?_
  refine nv_irem hx hb dX5_tied_11 (by omega) (by omega) (by omega) ?_
  refine lv_iload_n hx hb dX5_tied_12 rfl (lv_at hl 4 rfl) ?_
  refine lv_iload hx hb dX5_tied_13 (lv_at hl 0 rfl) ?_
  refine nv_if_eq (tgt := 24) hx hb dX5_tied_15 (by decide) (by omega) (fun c_1 => ?_) (fun c_1 => ?_)
  · skip
    refine lv_iconst (v := nI 1) hx hb dX5_tied_24 (by decide) ?_
    refine lv_goto (tgt := 39) hx hb dX5_tied_25 (by decide) ?_
    refine lv_imul hx hb dX5_tied_39 ?_
    refine lv_iadd hx hb dX5_tied_40 ?_
    refine lv_istore (lv' := [(5, .int ((nI (c % 8)) + (((-1)) * (nI 1)))), (4, .int (nI (pY U ly c))), (0, .ref m0), (1, .int (nI c)), (2, .int (nI ly)), (3, .int ((-1)))]) hx hb dX5_tied_41 hl (by decide) rfl (fun ls hl => ?_)
    refine lv_iload_n hx hb dX5_tied_43 rfl (lv_at hl 3 rfl) ?_
    refine lv_bipush (v := nI 8) hx hb dX5_tied_44 (by decide) ?_
    refine nv_idiv hx hb dX5_tied_46 (by omega) (by omega) (by omega) ?_
    refine lv_iload_n hx hb dX5_tied_47 rfl (lv_at hl 5 rfl) ?_
    refine lv_iload hx hb dX5_tied_48 (lv_at hl 1 rfl) ?_
    refine nv_if_ne (tgt := 57) hx hb dX5_tied_50 (by decide) (by omega) (fun c_2 => ?_) (fun c_2 => ?_)
    · skip
      exact absurd c_1 c_2
    · skip
      refine lv_iconst (v := nI 0) hx hb dX5_tied_53 (by decide) ?_
      refine lv_goto (tgt := 58) hx hb dX5_tied_54 (by decide) ?_
      refine lv_imul hx hb dX5_tied_58 ?_
      refine lv_iadd hx hb dX5_tied_59 ?_
      refine lv_istore (lv' := [(6, .int ((nI (c / 8)) + (((-1)) * (nI 0)))), (5, .int ((nI (c % 8)) + (((-1)) * (nI 1)))), (4, .int (nI (pY U ly c))), (0, .ref m0), (1, .int (nI c)), (2, .int (nI ly)), (3, .int ((-1)))]) hx hb dX5_tied_60 hl (by decide) rfl (fun ls hl => ?_)
      have hw : pY U ly c = 0 := by omega
      have e1 : (nI (c % 8)) + (((-1)) * (nI 1)) = cx c (pY U ly c) ((-1)) := by rw [hw]; rfl
      have e2 : (nI (c / 8)) + (((-1)) * (nI 0)) = cy c (pY U ly c) ((-1)) := by rw [hw]; rfl
      rw [e1, e2] at hl
      refine lv_iload hx hb dX5_tied_62 (lv_at hl 1 rfl) ?_
      refine lv_iload hx hb dX5_tied_64 (lv_at hl 0 rfl) ?_
      refine gcS (As := [.int (cx c (pY U ly c) ((-1))), .int (cy c (pY U ly c) ((-1)))]) (rest := []) ⟨hx, hb, hml, hown, hts⟩ (c_X5_isCell l (cx c (pY U ly c) ((-1))) (cy c (pY U ly c) ((-1))) ) (va_cwS 2 hts gX5_tied_X5_isCell rfl rfl rfl (by decide +kernel) ⟨Nat.le_of_ble_eq_true rfl, Nat.le_of_ble_eq_true rfl⟩) hl.1 rfl rfl (Nat.le_of_ble_eq_true rfl) ⟨Nat.zero_le _, Nat.zero_le _⟩ dX5_tied_66 ?_
      refine nv_ifb_eq (tgt := 117) hx hb dX5_tied_69 (by decide) (fun c_3 => ?_) (fun c_3 => ?_)
      · skip
        refine lv_iconst (v := (-1)) hx hb dX5_tied_117 (by decide) ?_
        exact hret _ () _ _ _ _ dX5_tied_118 (by unfold tp; rw [if_neg (fun q => c_3 ((pv_of (pY_lt c) hc).1.1.mpr q.1))]; rfl) hP hD hS
      · skip
        have hn := (pv_of (pY_lt c) hc).1.1.mp c_3
        obtain ⟨f1, f2⟩ := (pv_of (pY_lt c) hc).2 hn
        rw [f1, f2] at hl
        refine lv_aload_n hx hb dX5_tied_72 rfl (lv_at hl 3 rfl) ?_
        refine va_get (D := D) (ci := 5) (v := .ref m4) (C := RX5) (T := TX5) (N := 16) hx hb hts hinX5 hown hK hP 0 rfl rfl 7 (by decide) lk1 (fun _ h9 => h9) rfl dX5_tied_73 ?_
        refine lv_bipush (v := nI 8) hx hb dX5_tied_76 (by decide) ?_
        refine lv_iload hx hb dX5_tied_78 (lv_at hl 0 rfl) ?_
        refine nv_imul hx hb dX5_tied_80 ?_
        refine lv_iload hx hb dX5_tied_81 (lv_at hl 1 rfl) ?_
        refine nv_iadd hx hb dX5_tied_83 ?_
        refine top_eq (congrArg nI (show (8 * (pv (pY U ly c) c / 8)) + (pv (pY U ly c) c % 8) = pv (pY U ly c) c by omega)) ?_
        refine nv_iald hx hb hK hP 4 rfl (by omega) (by decide) dX5_tied_84 ?_
        refine top_eq (congrArg nI (hWp _ hn)) ?_
        refine nv_if_le (tgt := 117) hx hb dX5_tied_85 (by decide) (by have := hp (pv (pY U ly c) c); omega) (fun c_4 => ?_) (fun c_4 => ?_)
        · skip
          refine lv_iconst (v := (-1)) hx hb dX5_tied_117 (by decide) ?_
          exact hret _ () _ _ _ _ dX5_tied_118 (by unfold tp; rw [if_neg (fun q => q.2.1 c_4)]; rfl) hP hD hS
        · skip
          refine lv_aload_n hx hb dX5_tied_88 rfl (lv_at hl 3 rfl) ?_
          refine lv_bipush (v := nI 8) hx hb dX5_tied_89 (by decide) ?_
          refine lv_iload hx hb dX5_tied_91 (lv_at hl 0 rfl) ?_
          refine nv_imul hx hb dX5_tied_93 ?_
          refine lv_iload hx hb dX5_tied_94 (lv_at hl 1 rfl) ?_
          refine nv_iadd hx hb dX5_tied_96 ?_
          refine top_eq (congrArg nI (show (8 * (pv (pY U ly c) c / 8)) + (pv (pY U ly c) c % 8) = pv (pY U ly c) c by omega)) ?_
          refine lv_iload_n hx hb dX5_tied_97 rfl (lv_at hl 5 rfl) ?_
          refine gcVi (ws' := fun _ => [(m0, .inr (5, [.ref m1, .ref m2, .ref m3, .int (nI (G 0)), .int (nI (G 1)), .int (nI (G 2)), .int (nI (G 3)), .ref m4, .ref m5, .int (nI np), .ref m6, .ref m7, .ref m8, .ref m9, .ref m10, .int (nI ai)])), (m1, .inl (cI, 64, .inl (nF T))), (m2, .inl (cI, 64, .inl (nF U))), (m3, .inl (cZ, 64, .inl (nF B))), (m4, .inl (cI, 64, .inl (nF Wm))), (m5, .inl (cI, 64, .inl (nF M))), (m6, .inl (cI, 64, .inl (nF F))), (m7, .inl (cI, 64, .inl (nF L))), (m8, .inl (cI, 64, .inl (nF Z))), (m9, .inl (cI, 64, .inl (nF Om))), (m10, .inl (cI, 64, .inl (nF Nm)))]) (wr := []) (ci := 5) (q0 := 0) (As := [.int (nI (pv (pY U ly c) c)), .int (nI ly)]) (rest := []) ⟨hx, hb, hml, hown, hts⟩ (c_X5_wayOf l D cI cZ tt H.size m0 m1 m2 m3 m4 m5 m6 m7 m8 m9 m10 np ai T U B G Wm M F L Z Om Nm (pv (pY U ly c) c) ly (by first | assumption | omega) (by first | assumption | omega) (by first | assumption | omega)) (cwV 2 hts gX5_tied_X5_wayOf rfl rfl rfl (by decide +kernel) ⟨Nat.le_of_ble_eq_true rfl, Nat.le_of_ble_eq_true rfl⟩) hP hK hD hS hA hG rfl rfl [0, 1, 2, 3, 4, 5, 6, 7, 8, 9, 10] [] [0, 1, 2, 3, 4, 5, 6, 7, 8, 9, 10] (by decide) rfl rfl (by decide) (by decide) (by decide) (fun _ => rfl) hl.1 rfl rfl (Nat.le_of_ble_eq_true rfl) ⟨Nat.zero_le _, Nat.zero_le _⟩ dX5_tied_98 (fun r u H locs hp hP hD hS => ?_)
          obtain rfl := hp
          have hP : va_P D vwCl [(m0, .inr (5, [.ref m1, .ref m2, .ref m3, .int (nI (G 0)), .int (nI (G 1)), .int (nI (G 2)), .int (nI (G 3)), .ref m4, .ref m5, .int (nI np), .ref m6, .ref m7, .ref m8, .ref m9, .ref m10, .int (nI ai)])), (m1, .inl (cI, 64, .inl (nF T))), (m2, .inl (cI, 64, .inl (nF U))), (m3, .inl (cZ, 64, .inl (nF B))), (m4, .inl (cI, 64, .inl (nF Wm))), (m5, .inl (cI, 64, .inl (nF M))), (m6, .inl (cI, 64, .inl (nF F))), (m7, .inl (cI, 64, .inl (nF L))), (m8, .inl (cI, 64, .inl (nF Z))), (m9, .inl (cI, 64, .inl (nF Om))), (m10, .inl (cI, 64, .inl (nF Nm)))] H := hP
          have hD : va_D A [(m0, .inr (5, [.ref m1, .ref m2, .ref m3, .int (nI (G 0)), .int (nI (G 1)), .int (nI (G 2)), .int (nI (G 3)), .ref m4, .ref m5, .int (nI np), .ref m6, .ref m7, .ref m8, .ref m9, .ref m10, .int (nI ai)])), (m1, .inl (cI, 64, .inl (nF T))), (m2, .inl (cI, 64, .inl (nF U))), (m3, .inl (cZ, 64, .inl (nF B))), (m4, .inl (cI, 64, .inl (nF Wm))), (m5, .inl (cI, 64, .inl (nF M))), (m6, .inl (cI, 64, .inl (nF F))), (m7, .inl (cI, 64, .inl (nF L))), (m8, .inl (cI, 64, .inl (nF Z))), (m9, .inl (cI, 64, .inl (nF Om))), (m10, .inl (cI, 64, .inl (nF Nm)))] := hD
          refine lv_iload hx hb dX5_tied_101 (lv_at hl 2 rfl) ?_
          refine nv_icmp_ne (tgt := 117) hx hb dX5_tied_103 (by decide) (by have := pY_lt (U := U) (ly := ly) (pv (pY U ly c) c); omega) (by have := pY_lt (U := U) (ly := ly) (pv (pY U ly c) c); omega) (fun c_5 => ?_) (fun c_5 => ?_)
          · skip
            refine lv_iconst (v := (-1)) hx hb dX5_tied_117 (by decide) ?_
            exact hret _ () _ _ _ _ dX5_tied_118 (by unfold tp; rw [if_neg (fun q => c_5 q.2.2)]; rfl) hP hD hS
          · skip
            refine lv_bipush (v := nI 8) hx hb dX5_tied_106 (by decide) ?_
            refine lv_iload hx hb dX5_tied_108 (lv_at hl 0 rfl) ?_
            refine nv_imul hx hb dX5_tied_110 ?_
            refine lv_iload hx hb dX5_tied_111 (lv_at hl 1 rfl) ?_
            refine nv_iadd hx hb dX5_tied_113 ?_
            refine top_eq (congrArg nI (show (8 * (pv (pY U ly c) c / 8)) + (pv (pY U ly c) c % 8) = pv (pY U ly c) c by omega)) ?_
            refine lv_goto (tgt := 118) hx hb dX5_tied_114 (by decide) ?_
            exact hret _ () _ _ _ _ dX5_tied_118 (by unfold tp; rw [if_pos ⟨hn, c_4, c_5⟩, rI_some (by omega)]) hP hD hS
  · skip
    refine lv_iload hx hb dX5_tied_18 (lv_at hl 0 rfl) ?_
    refine lv_iconst (v := nI 1) hx hb dX5_tied_20 (by decide) ?_
    refine nv_icmp_ne (tgt := 28) hx hb dX5_tied_21 (by decide) (by omega) (by omega) (fun c_6 => ?_) (fun c_6 => ?_)
    · skip
      refine lv_iload hx hb dX5_tied_28 (lv_at hl 0 rfl) ?_
      refine lv_iconst (v := nI 2) hx hb dX5_tied_30 (by decide) ?_
      refine nv_icmp_ne (tgt := 38) hx hb dX5_tied_31 (by decide) (by omega) (by omega) (fun c_7 => ?_) (fun c_7 => ?_)
      · skip
        refine lv_iconst (v := (-1)) hx hb dX5_tied_38 (by decide) ?_
        refine lv_imul hx hb dX5_tied_39 ?_
        refine lv_iadd hx hb dX5_tied_40 ?_
        refine lv_istore (lv' := [(5, .int ((nI (c % 8)) + (((-1)) * ((-1))))), (4, .int (nI (pY U ly c))), (0, .ref m0), (1, .int (nI c)), (2, .int (nI ly)), (3, .int ((-1)))]) hx hb dX5_tied_41 hl (by decide) rfl (fun ls hl => ?_)
        refine lv_iload_n hx hb dX5_tied_43 rfl (lv_at hl 3 rfl) ?_
        refine lv_bipush (v := nI 8) hx hb dX5_tied_44 (by decide) ?_
        refine nv_idiv hx hb dX5_tied_46 (by omega) (by omega) (by omega) ?_
        refine lv_iload_n hx hb dX5_tied_47 rfl (lv_at hl 5 rfl) ?_
        refine lv_iload hx hb dX5_tied_48 (lv_at hl 1 rfl) ?_
        refine nv_if_ne (tgt := 57) hx hb dX5_tied_50 (by decide) (by omega) (fun c_8 => ?_) (fun c_8 => ?_)
        · skip
          refine lv_iconst (v := nI 1) hx hb dX5_tied_57 (by decide) ?_
          refine lv_imul hx hb dX5_tied_58 ?_
          refine lv_iadd hx hb dX5_tied_59 ?_
          refine lv_istore (lv' := [(6, .int ((nI (c / 8)) + (((-1)) * (nI 1)))), (5, .int ((nI (c % 8)) + (((-1)) * ((-1))))), (4, .int (nI (pY U ly c))), (0, .ref m0), (1, .int (nI c)), (2, .int (nI ly)), (3, .int ((-1)))]) hx hb dX5_tied_60 hl (by decide) rfl (fun ls hl => ?_)
          have hw : pY U ly c = 3 := by omega
          have e1 : (nI (c % 8)) + (((-1)) * ((-1))) = cx c (pY U ly c) ((-1)) := by rw [hw]; rfl
          have e2 : (nI (c / 8)) + (((-1)) * (nI 1)) = cy c (pY U ly c) ((-1)) := by rw [hw]; rfl
          rw [e1, e2] at hl
          refine lv_iload hx hb dX5_tied_62 (lv_at hl 1 rfl) ?_
          refine lv_iload hx hb dX5_tied_64 (lv_at hl 0 rfl) ?_
          refine gcS (As := [.int (cx c (pY U ly c) ((-1))), .int (cy c (pY U ly c) ((-1)))]) (rest := []) ⟨hx, hb, hml, hown, hts⟩ (c_X5_isCell l (cx c (pY U ly c) ((-1))) (cy c (pY U ly c) ((-1))) ) (va_cwS 2 hts gX5_tied_X5_isCell rfl rfl rfl (by decide +kernel) ⟨Nat.le_of_ble_eq_true rfl, Nat.le_of_ble_eq_true rfl⟩) hl.1 rfl rfl (Nat.le_of_ble_eq_true rfl) ⟨Nat.zero_le _, Nat.zero_le _⟩ dX5_tied_66 ?_
          refine nv_ifb_eq (tgt := 117) hx hb dX5_tied_69 (by decide) (fun c_9 => ?_) (fun c_9 => ?_)
          · skip
            refine lv_iconst (v := (-1)) hx hb dX5_tied_117 (by decide) ?_
            exact hret _ () _ _ _ _ dX5_tied_118 (by unfold tp; rw [if_neg (fun q => c_9 ((pv_of (pY_lt c) hc).1.1.mpr q.1))]; rfl) hP hD hS
          · skip
            have hn := (pv_of (pY_lt c) hc).1.1.mp c_9
            obtain ⟨f1, f2⟩ := (pv_of (pY_lt c) hc).2 hn
            rw [f1, f2] at hl
            refine lv_aload_n hx hb dX5_tied_72 rfl (lv_at hl 3 rfl) ?_
            refine va_get (D := D) (ci := 5) (v := .ref m4) (C := RX5) (T := TX5) (N := 16) hx hb hts hinX5 hown hK hP 0 rfl rfl 7 (by decide) lk1 (fun _ h9 => h9) rfl dX5_tied_73 ?_
            refine lv_bipush (v := nI 8) hx hb dX5_tied_76 (by decide) ?_
            refine lv_iload hx hb dX5_tied_78 (lv_at hl 0 rfl) ?_
            refine nv_imul hx hb dX5_tied_80 ?_
            refine lv_iload hx hb dX5_tied_81 (lv_at hl 1 rfl) ?_
            refine nv_iadd hx hb dX5_tied_83 ?_
            refine top_eq (congrArg nI (show (8 * (pv (pY U ly c) c / 8)) + (pv (pY U ly c) c % 8) = pv (pY U ly c) c by omega)) ?_
            refine nv_iald hx hb hK hP 4 rfl (by omega) (by decide) dX5_tied_84 ?_
            refine top_eq (congrArg nI (hWp _ hn)) ?_
            refine nv_if_le (tgt := 117) hx hb dX5_tied_85 (by decide) (by have := hp (pv (pY U ly c) c); omega) (fun c_10 => ?_) (fun c_10 => ?_)
            · skip
              refine lv_iconst (v := (-1)) hx hb dX5_tied_117 (by decide) ?_
              exact hret _ () _ _ _ _ dX5_tied_118 (by unfold tp; rw [if_neg (fun q => q.2.1 c_10)]; rfl) hP hD hS
            · skip
              refine lv_aload_n hx hb dX5_tied_88 rfl (lv_at hl 3 rfl) ?_
              refine lv_bipush (v := nI 8) hx hb dX5_tied_89 (by decide) ?_
              refine lv_iload hx hb dX5_tied_91 (lv_at hl 0 rfl) ?_
              refine nv_imul hx hb dX5_tied_93 ?_
              refine lv_iload hx hb dX5_tied_94 (lv_at hl 1 rfl) ?_
              refine nv_iadd hx hb dX5_tied_96 ?_
              refine top_eq (congrArg nI (show (8 * (pv (pY U ly c) c / 8)) + (pv (pY U ly c) c % 8) = pv (pY U ly c) c by omega)) ?_
              refine lv_iload_n hx hb dX5_tied_97 rfl (lv_at hl 5 rfl) ?_
              refine gcVi (ws' := fun _ => [(m0, .inr (5, [.ref m1, .ref m2, .ref m3, .int (nI (G 0)), .int (nI (G 1)), .int (nI (G 2)), .int (nI (G 3)), .ref m4, .ref m5, .int (nI np), .ref m6, .ref m7, .ref m8, .ref m9, .ref m10, .int (nI ai)])), (m1, .inl (cI, 64, .inl (nF T))), (m2, .inl (cI, 64, .inl (nF U))), (m3, .inl (cZ, 64, .inl (nF B))), (m4, .inl (cI, 64, .inl (nF Wm))), (m5, .inl (cI, 64, .inl (nF M))), (m6, .inl (cI, 64, .inl (nF F))), (m7, .inl (cI, 64, .inl (nF L))), (m8, .inl (cI, 64, .inl (nF Z))), (m9, .inl (cI, 64, .inl (nF Om))), (m10, .inl (cI, 64, .inl (nF Nm)))]) (wr := []) (ci := 5) (q0 := 0) (As := [.int (nI (pv (pY U ly c) c)), .int (nI ly)]) (rest := []) ⟨hx, hb, hml, hown, hts⟩ (c_X5_wayOf l D cI cZ tt H.size m0 m1 m2 m3 m4 m5 m6 m7 m8 m9 m10 np ai T U B G Wm M F L Z Om Nm (pv (pY U ly c) c) ly (by first | assumption | omega) (by first | assumption | omega) (by first | assumption | omega)) (cwV 2 hts gX5_tied_X5_wayOf rfl rfl rfl (by decide +kernel) ⟨Nat.le_of_ble_eq_true rfl, Nat.le_of_ble_eq_true rfl⟩) hP hK hD hS hA hG rfl rfl [0, 1, 2, 3, 4, 5, 6, 7, 8, 9, 10] [] [0, 1, 2, 3, 4, 5, 6, 7, 8, 9, 10] (by decide) rfl rfl (by decide) (by decide) (by decide) (fun _ => rfl) hl.1 rfl rfl (Nat.le_of_ble_eq_true rfl) ⟨Nat.zero_le _, Nat.zero_le _⟩ dX5_tied_98 (fun r u H locs hp hP hD hS => ?_)
              obtain rfl := hp
              have hP : va_P D vwCl [(m0, .inr (5, [.ref m1, .ref m2, .ref m3, .int (nI (G 0)), .int (nI (G 1)), .int (nI (G 2)), .int (nI (G 3)), .ref m4, .ref m5, .int (nI np), .ref m6, .ref m7, .ref m8, .ref m9, .ref m10, .int (nI ai)])), (m1, .inl (cI, 64, .inl (nF T))), (m2, .inl (cI, 64, .inl (nF U))), (m3, .inl (cZ, 64, .inl (nF B))), (m4, .inl (cI, 64, .inl (nF Wm))), (m5, .inl (cI, 64, .inl (nF M))), (m6, .inl (cI, 64, .inl (nF F))), (m7, .inl (cI, 64, .inl (nF L))), (m8, .inl (cI, 64, .inl (nF Z))), (m9, .inl (cI, 64, .inl (nF Om))), (m10, .inl (cI, 64, .inl (nF Nm)))] H := hP
              have hD : va_D A [(m0, .inr (5, [.ref m1, .ref m2, .ref m3, .int (nI (G 0)), .int (nI (G 1)), .int (nI (G 2)), .int (nI (G 3)), .ref m4, .ref m5, .int (nI np), .ref m6, .ref m7, .ref m8, .ref m9, .ref m10, .int (nI ai)])), (m1, .inl (cI, 64, .inl (nF T))), (m2, .inl (cI, 64, .inl (nF U))), (m3, .inl (cZ, 64, .inl (nF B))), (m4, .inl (cI, 64, .inl (nF Wm))), (m5, .inl (cI, 64, .inl (nF M))), (m6, .inl (cI, 64, .inl (nF F))), (m7, .inl (cI, 64, .inl (nF L))), (m8, .inl (cI, 64, .inl (nF Z))), (m9, .inl (cI, 64, .inl (nF Om))), (m10, .inl (cI, 64, .inl (nF Nm)))] := hD
              refine lv_iload hx hb dX5_tied_101 (lv_at hl 2 rfl) ?_
              refine nv_icmp_ne (tgt := 117) hx hb dX5_tied_103 (by decide) (by have := pY_lt (U := U) (ly := ly) (pv (pY U ly c) c); omega) (by have := pY_lt (U := U) (ly := ly) (pv (pY U ly c) c); omega) (fun c_11 => ?_) (fun c_11 => ?_)
              · skip
                refine lv_iconst (v := (-1)) hx hb dX5_tied_117 (by decide) ?_
                exact hret _ () _ _ _ _ dX5_tied_118 (by unfold tp; rw [if_neg (fun q => c_11 q.2.2)]; rfl) hP hD hS
              · skip
                refine lv_bipush (v := nI 8) hx hb dX5_tied_106 (by decide) ?_
                refine lv_iload hx hb dX5_tied_108 (lv_at hl 0 rfl) ?_
                refine nv_imul hx hb dX5_tied_110 ?_
                refine lv_iload hx hb dX5_tied_111 (lv_at hl 1 rfl) ?_
                refine nv_iadd hx hb dX5_tied_113 ?_
                refine top_eq (congrArg nI (show (8 * (pv (pY U ly c) c / 8)) + (pv (pY U ly c) c % 8) = pv (pY U ly c) c by omega)) ?_
                refine lv_goto (tgt := 118) hx hb dX5_tied_114 (by decide) ?_
                exact hret _ () _ _ _ _ dX5_tied_118 (by unfold tp; rw [if_pos ⟨hn, c_10, c_11⟩, rI_some (by omega)]) hP hD hS
        · skip
          exact absurd c_8 c_1
      · skip
        refine lv_iconst (v := nI 0) hx hb dX5_tied_34 (by decide) ?_
        refine lv_goto (tgt := 39) hx hb dX5_tied_35 (by decide) ?_
        refine lv_imul hx hb dX5_tied_39 ?_
        refine lv_iadd hx hb dX5_tied_40 ?_
        refine lv_istore (lv' := [(5, .int ((nI (c % 8)) + (((-1)) * (nI 0)))), (4, .int (nI (pY U ly c))), (0, .ref m0), (1, .int (nI c)), (2, .int (nI ly)), (3, .int ((-1)))]) hx hb dX5_tied_41 hl (by decide) rfl (fun ls hl => ?_)
        refine lv_iload_n hx hb dX5_tied_43 rfl (lv_at hl 3 rfl) ?_
        refine lv_bipush (v := nI 8) hx hb dX5_tied_44 (by decide) ?_
        refine nv_idiv hx hb dX5_tied_46 (by omega) (by omega) (by omega) ?_
        refine lv_iload_n hx hb dX5_tied_47 rfl (lv_at hl 5 rfl) ?_
        refine lv_iload hx hb dX5_tied_48 (lv_at hl 1 rfl) ?_
        refine nv_if_ne (tgt := 57) hx hb dX5_tied_50 (by decide) (by omega) (fun c_12 => ?_) (fun c_12 => ?_)
        · skip
          refine lv_iconst (v := nI 1) hx hb dX5_tied_57 (by decide) ?_
          refine lv_imul hx hb dX5_tied_58 ?_
          refine lv_iadd hx hb dX5_tied_59 ?_
          refine lv_istore (lv' := [(6, .int ((nI (c / 8)) + (((-1)) * (nI 1)))), (5, .int ((nI (c % 8)) + (((-1)) * (nI 0)))), (4, .int (nI (pY U ly c))), (0, .ref m0), (1, .int (nI c)), (2, .int (nI ly)), (3, .int ((-1)))]) hx hb dX5_tied_60 hl (by decide) rfl (fun ls hl => ?_)
          have hw : pY U ly c = 2 := by omega
          have e1 : (nI (c % 8)) + (((-1)) * (nI 0)) = cx c (pY U ly c) ((-1)) := by rw [hw]; rfl
          have e2 : (nI (c / 8)) + (((-1)) * (nI 1)) = cy c (pY U ly c) ((-1)) := by rw [hw]; rfl
          rw [e1, e2] at hl
          refine lv_iload hx hb dX5_tied_62 (lv_at hl 1 rfl) ?_
          refine lv_iload hx hb dX5_tied_64 (lv_at hl 0 rfl) ?_
          refine gcS (As := [.int (cx c (pY U ly c) ((-1))), .int (cy c (pY U ly c) ((-1)))]) (rest := []) ⟨hx, hb, hml, hown, hts⟩ (c_X5_isCell l (cx c (pY U ly c) ((-1))) (cy c (pY U ly c) ((-1))) ) (va_cwS 2 hts gX5_tied_X5_isCell rfl rfl rfl (by decide +kernel) ⟨Nat.le_of_ble_eq_true rfl, Nat.le_of_ble_eq_true rfl⟩) hl.1 rfl rfl (Nat.le_of_ble_eq_true rfl) ⟨Nat.zero_le _, Nat.zero_le _⟩ dX5_tied_66 ?_
          refine nv_ifb_eq (tgt := 117) hx hb dX5_tied_69 (by decide) (fun c_13 => ?_) (fun c_13 => ?_)
          · skip
            refine lv_iconst (v := (-1)) hx hb dX5_tied_117 (by decide) ?_
            exact hret _ () _ _ _ _ dX5_tied_118 (by unfold tp; rw [if_neg (fun q => c_13 ((pv_of (pY_lt c) hc).1.1.mpr q.1))]; rfl) hP hD hS
          · skip
            have hn := (pv_of (pY_lt c) hc).1.1.mp c_13
            obtain ⟨f1, f2⟩ := (pv_of (pY_lt c) hc).2 hn
            rw [f1, f2] at hl
            refine lv_aload_n hx hb dX5_tied_72 rfl (lv_at hl 3 rfl) ?_
            refine va_get (D := D) (ci := 5) (v := .ref m4) (C := RX5) (T := TX5) (N := 16) hx hb hts hinX5 hown hK hP 0 rfl rfl 7 (by decide) lk1 (fun _ h9 => h9) rfl dX5_tied_73 ?_
            refine lv_bipush (v := nI 8) hx hb dX5_tied_76 (by decide) ?_
            refine lv_iload hx hb dX5_tied_78 (lv_at hl 0 rfl) ?_
            refine nv_imul hx hb dX5_tied_80 ?_
            refine lv_iload hx hb dX5_tied_81 (lv_at hl 1 rfl) ?_
            refine nv_iadd hx hb dX5_tied_83 ?_
            refine top_eq (congrArg nI (show (8 * (pv (pY U ly c) c / 8)) + (pv (pY U ly c) c % 8) = pv (pY U ly c) c by omega)) ?_
            refine nv_iald hx hb hK hP 4 rfl (by omega) (by decide) dX5_tied_84 ?_
            refine top_eq (congrArg nI (hWp _ hn)) ?_
            refine nv_if_le (tgt := 117) hx hb dX5_tied_85 (by decide) (by have := hp (pv (pY U ly c) c); omega) (fun c_14 => ?_) (fun c_14 => ?_)
            · skip
              refine lv_iconst (v := (-1)) hx hb dX5_tied_117 (by decide) ?_
              exact hret _ () _ _ _ _ dX5_tied_118 (by unfold tp; rw [if_neg (fun q => q.2.1 c_14)]; rfl) hP hD hS
            · skip
              refine lv_aload_n hx hb dX5_tied_88 rfl (lv_at hl 3 rfl) ?_
              refine lv_bipush (v := nI 8) hx hb dX5_tied_89 (by decide) ?_
              refine lv_iload hx hb dX5_tied_91 (lv_at hl 0 rfl) ?_
              refine nv_imul hx hb dX5_tied_93 ?_
              refine lv_iload hx hb dX5_tied_94 (lv_at hl 1 rfl) ?_
              refine nv_iadd hx hb dX5_tied_96 ?_
              refine top_eq (congrArg nI (show (8 * (pv (pY U ly c) c / 8)) + (pv (pY U ly c) c % 8) = pv (pY U ly c) c by omega)) ?_
              refine lv_iload_n hx hb dX5_tied_97 rfl (lv_at hl 5 rfl) ?_
              refine gcVi (ws' := fun _ => [(m0, .inr (5, [.ref m1, .ref m2, .ref m3, .int (nI (G 0)), .int (nI (G 1)), .int (nI (G 2)), .int (nI (G 3)), .ref m4, .ref m5, .int (nI np), .ref m6, .ref m7, .ref m8, .ref m9, .ref m10, .int (nI ai)])), (m1, .inl (cI, 64, .inl (nF T))), (m2, .inl (cI, 64, .inl (nF U))), (m3, .inl (cZ, 64, .inl (nF B))), (m4, .inl (cI, 64, .inl (nF Wm))), (m5, .inl (cI, 64, .inl (nF M))), (m6, .inl (cI, 64, .inl (nF F))), (m7, .inl (cI, 64, .inl (nF L))), (m8, .inl (cI, 64, .inl (nF Z))), (m9, .inl (cI, 64, .inl (nF Om))), (m10, .inl (cI, 64, .inl (nF Nm)))]) (wr := []) (ci := 5) (q0 := 0) (As := [.int (nI (pv (pY U ly c) c)), .int (nI ly)]) (rest := []) ⟨hx, hb, hml, hown, hts⟩ (c_X5_wayOf l D cI cZ tt H.size m0 m1 m2 m3 m4 m5 m6 m7 m8 m9 m10 np ai T U B G Wm M F L Z Om Nm (pv (pY U ly c) c) ly (by first | assumption | omega) (by first | assumption | omega) (by first | assumption | omega)) (cwV 2 hts gX5_tied_X5_wayOf rfl rfl rfl (by decide +kernel) ⟨Nat.le_of_ble_eq_true rfl, Nat.le_of_ble_eq_true rfl⟩) hP hK hD hS hA hG rfl rfl [0, 1, 2, 3, 4, 5, 6, 7, 8, 9, 10] [] [0, 1, 2, 3, 4, 5, 6, 7, 8, 9, 10] (by decide) rfl rfl (by decide) (by decide) (by decide) (fun _ => rfl) hl.1 rfl rfl (Nat.le_of_ble_eq_true rfl) ⟨Nat.zero_le _, Nat.zero_le _⟩ dX5_tied_98 (fun r u H locs hp hP hD hS => ?_)
              obtain rfl := hp
              have hP : va_P D vwCl [(m0, .inr (5, [.ref m1, .ref m2, .ref m3, .int (nI (G 0)), .int (nI (G 1)), .int (nI (G 2)), .int (nI (G 3)), .ref m4, .ref m5, .int (nI np), .ref m6, .ref m7, .ref m8, .ref m9, .ref m10, .int (nI ai)])), (m1, .inl (cI, 64, .inl (nF T))), (m2, .inl (cI, 64, .inl (nF U))), (m3, .inl (cZ, 64, .inl (nF B))), (m4, .inl (cI, 64, .inl (nF Wm))), (m5, .inl (cI, 64, .inl (nF M))), (m6, .inl (cI, 64, .inl (nF F))), (m7, .inl (cI, 64, .inl (nF L))), (m8, .inl (cI, 64, .inl (nF Z))), (m9, .inl (cI, 64, .inl (nF Om))), (m10, .inl (cI, 64, .inl (nF Nm)))] H := hP
              have hD : va_D A [(m0, .inr (5, [.ref m1, .ref m2, .ref m3, .int (nI (G 0)), .int (nI (G 1)), .int (nI (G 2)), .int (nI (G 3)), .ref m4, .ref m5, .int (nI np), .ref m6, .ref m7, .ref m8, .ref m9, .ref m10, .int (nI ai)])), (m1, .inl (cI, 64, .inl (nF T))), (m2, .inl (cI, 64, .inl (nF U))), (m3, .inl (cZ, 64, .inl (nF B))), (m4, .inl (cI, 64, .inl (nF Wm))), (m5, .inl (cI, 64, .inl (nF M))), (m6, .inl (cI, 64, .inl (nF F))), (m7, .inl (cI, 64, .inl (nF L))), (m8, .inl (cI, 64, .inl (nF Z))), (m9, .inl (cI, 64, .inl (nF Om))), (m10, .inl (cI, 64, .inl (nF Nm)))] := hD
              refine lv_iload hx hb dX5_tied_101 (lv_at hl 2 rfl) ?_
              refine nv_icmp_ne (tgt := 117) hx hb dX5_tied_103 (by decide) (by have := pY_lt (U := U) (ly := ly) (pv (pY U ly c) c); omega) (by have := pY_lt (U := U) (ly := ly) (pv (pY U ly c) c); omega) (fun c_15 => ?_) (fun c_15 => ?_)
              · skip
                refine lv_iconst (v := (-1)) hx hb dX5_tied_117 (by decide) ?_
                exact hret _ () _ _ _ _ dX5_tied_118 (by unfold tp; rw [if_neg (fun q => c_15 q.2.2)]; rfl) hP hD hS
              · skip
                refine lv_bipush (v := nI 8) hx hb dX5_tied_106 (by decide) ?_
                refine lv_iload hx hb dX5_tied_108 (lv_at hl 0 rfl) ?_
                refine nv_imul hx hb dX5_tied_110 ?_
                refine lv_iload hx hb dX5_tied_111 (lv_at hl 1 rfl) ?_
                refine nv_iadd hx hb dX5_tied_113 ?_
                refine top_eq (congrArg nI (show (8 * (pv (pY U ly c) c / 8)) + (pv (pY U ly c) c % 8) = pv (pY U ly c) c by omega)) ?_
                refine lv_goto (tgt := 118) hx hb dX5_tied_114 (by decide) ?_
                exact hret _ () _ _ _ _ dX5_tied_118 (by unfold tp; rw [if_pos ⟨hn, c_14, c_15⟩, rI_some (by omega)]) hP hD hS
        · skip
          exact absurd c_12 c_1
    · skip
      refine lv_iconst (v := nI 1) hx hb dX5_tied_24 (by decide) ?_
      refine lv_goto (tgt := 39) hx hb dX5_tied_25 (by decide) ?_
      refine lv_imul hx hb dX5_tied_39 ?_
      refine lv_iadd hx hb dX5_tied_40 ?_
      refine lv_istore (lv' := [(5, .int ((nI (c % 8)) + (((-1)) * (nI 1)))), (4, .int (nI (pY U ly c))), (0, .ref m0), (1, .int (nI c)), (2, .int (nI ly)), (3, .int ((-1)))]) hx hb dX5_tied_41 hl (by decide) rfl (fun ls hl => ?_)
      refine lv_iload_n hx hb dX5_tied_43 rfl (lv_at hl 3 rfl) ?_
      refine lv_bipush (v := nI 8) hx hb dX5_tied_44 (by decide) ?_
      refine nv_idiv hx hb dX5_tied_46 (by omega) (by omega) (by omega) ?_
      refine lv_iload_n hx hb dX5_tied_47 rfl (lv_at hl 5 rfl) ?_
      refine lv_iload hx hb dX5_tied_48 (lv_at hl 1 rfl) ?_
      refine nv_if_ne (tgt := 57) hx hb dX5_tied_50 (by decide) (by omega) (fun c_16 => ?_) (fun c_16 => ?_)
      · skip
        refine lv_iconst (v := nI 1) hx hb dX5_tied_57 (by decide) ?_
        refine lv_imul hx hb dX5_tied_58 ?_
        refine lv_iadd hx hb dX5_tied_59 ?_
        refine lv_istore (lv' := [(6, .int ((nI (c / 8)) + (((-1)) * (nI 1)))), (5, .int ((nI (c % 8)) + (((-1)) * (nI 1)))), (4, .int (nI (pY U ly c))), (0, .ref m0), (1, .int (nI c)), (2, .int (nI ly)), (3, .int ((-1)))]) hx hb dX5_tied_60 hl (by decide) rfl (fun ls hl => ?_)
        have hw : pY U ly c = 1 := by omega
        have e1 : (nI (c % 8)) + (((-1)) * (nI 1)) = cx c (pY U ly c) ((-1)) := by rw [hw]; rfl
        have e2 : (nI (c / 8)) + (((-1)) * (nI 1)) = cy c (pY U ly c) ((-1)) := by rw [hw]; rfl
        rw [e1, e2] at hl
        refine lv_iload hx hb dX5_tied_62 (lv_at hl 1 rfl) ?_
        refine lv_iload hx hb dX5_tied_64 (lv_at hl 0 rfl) ?_
        refine gcS (As := [.int (cx c (pY U ly c) ((-1))), .int (cy c (pY U ly c) ((-1)))]) (rest := []) ⟨hx, hb, hml, hown, hts⟩ (c_X5_isCell l (cx c (pY U ly c) ((-1))) (cy c (pY U ly c) ((-1))) ) (va_cwS 2 hts gX5_tied_X5_isCell rfl rfl rfl (by decide +kernel) ⟨Nat.le_of_ble_eq_true rfl, Nat.le_of_ble_eq_true rfl⟩) hl.1 rfl rfl (Nat.le_of_ble_eq_true rfl) ⟨Nat.zero_le _, Nat.zero_le _⟩ dX5_tied_66 ?_
        refine nv_ifb_eq (tgt := 117) hx hb dX5_tied_69 (by decide) (fun c_17 => ?_) (fun c_17 => ?_)
        · skip
          refine lv_iconst (v := (-1)) hx hb dX5_tied_117 (by decide) ?_
          exact hret _ () _ _ _ _ dX5_tied_118 (by unfold tp; rw [if_neg (fun q => c_17 ((pv_of (pY_lt c) hc).1.1.mpr q.1))]; rfl) hP hD hS
        · skip
          have hn := (pv_of (pY_lt c) hc).1.1.mp c_17
          obtain ⟨f1, f2⟩ := (pv_of (pY_lt c) hc).2 hn
          rw [f1, f2] at hl
          refine lv_aload_n hx hb dX5_tied_72 rfl (lv_at hl 3 rfl) ?_
          refine va_get (D := D) (ci := 5) (v := .ref m4) (C := RX5) (T := TX5) (N := 16) hx hb hts hinX5 hown hK hP 0 rfl rfl 7 (by decide) lk1 (fun _ h9 => h9) rfl dX5_tied_73 ?_
          refine lv_bipush (v := nI 8) hx hb dX5_tied_76 (by decide) ?_
          refine lv_iload hx hb dX5_tied_78 (lv_at hl 0 rfl) ?_
          refine nv_imul hx hb dX5_tied_80 ?_
          refine lv_iload hx hb dX5_tied_81 (lv_at hl 1 rfl) ?_
          refine nv_iadd hx hb dX5_tied_83 ?_
          refine top_eq (congrArg nI (show (8 * (pv (pY U ly c) c / 8)) + (pv (pY U ly c) c % 8) = pv (pY U ly c) c by omega)) ?_
          refine nv_iald hx hb hK hP 4 rfl (by omega) (by decide) dX5_tied_84 ?_
          refine top_eq (congrArg nI (hWp _ hn)) ?_
          refine nv_if_le (tgt := 117) hx hb dX5_tied_85 (by decide) (by have := hp (pv (pY U ly c) c); omega) (fun c_18 => ?_) (fun c_18 => ?_)
          · skip
            refine lv_iconst (v := (-1)) hx hb dX5_tied_117 (by decide) ?_
            exact hret _ () _ _ _ _ dX5_tied_118 (by unfold tp; rw [if_neg (fun q => q.2.1 c_18)]; rfl) hP hD hS
          · skip
            refine lv_aload_n hx hb dX5_tied_88 rfl (lv_at hl 3 rfl) ?_
            refine lv_bipush (v := nI 8) hx hb dX5_tied_89 (by decide) ?_
            refine lv_iload hx hb dX5_tied_91 (lv_at hl 0 rfl) ?_
            refine nv_imul hx hb dX5_tied_93 ?_
            refine lv_iload hx hb dX5_tied_94 (lv_at hl 1 rfl) ?_
            refine nv_iadd hx hb dX5_tied_96 ?_
            refine top_eq (congrArg nI (show (8 * (pv (pY U ly c) c / 8)) + (pv (pY U ly c) c % 8) = pv (pY U ly c) c by omega)) ?_
            refine lv_iload_n hx hb dX5_tied_97 rfl (lv_at hl 5 rfl) ?_
            refine gcVi (ws' := fun _ => [(m0, .inr (5, [.ref m1, .ref m2, .ref m3, .int (nI (G 0)), .int (nI (G 1)), .int (nI (G 2)), .int (nI (G 3)), .ref m4, .ref m5, .int (nI np), .ref m6, .ref m7, .ref m8, .ref m9, .ref m10, .int (nI ai)])), (m1, .inl (cI, 64, .inl (nF T))), (m2, .inl (cI, 64, .inl (nF U))), (m3, .inl (cZ, 64, .inl (nF B))), (m4, .inl (cI, 64, .inl (nF Wm))), (m5, .inl (cI, 64, .inl (nF M))), (m6, .inl (cI, 64, .inl (nF F))), (m7, .inl (cI, 64, .inl (nF L))), (m8, .inl (cI, 64, .inl (nF Z))), (m9, .inl (cI, 64, .inl (nF Om))), (m10, .inl (cI, 64, .inl (nF Nm)))]) (wr := []) (ci := 5) (q0 := 0) (As := [.int (nI (pv (pY U ly c) c)), .int (nI ly)]) (rest := []) ⟨hx, hb, hml, hown, hts⟩ (c_X5_wayOf l D cI cZ tt H.size m0 m1 m2 m3 m4 m5 m6 m7 m8 m9 m10 np ai T U B G Wm M F L Z Om Nm (pv (pY U ly c) c) ly (by first | assumption | omega) (by first | assumption | omega) (by first | assumption | omega)) (cwV 2 hts gX5_tied_X5_wayOf rfl rfl rfl (by decide +kernel) ⟨Nat.le_of_ble_eq_true rfl, Nat.le_of_ble_eq_true rfl⟩) hP hK hD hS hA hG rfl rfl [0, 1, 2, 3, 4, 5, 6, 7, 8, 9, 10] [] [0, 1, 2, 3, 4, 5, 6, 7, 8, 9, 10] (by decide) rfl rfl (by decide) (by decide) (by decide) (fun _ => rfl) hl.1 rfl rfl (Nat.le_of_ble_eq_true rfl) ⟨Nat.zero_le _, Nat.zero_le _⟩ dX5_tied_98 (fun r u H locs hp hP hD hS => ?_)
            obtain rfl := hp
            have hP : va_P D vwCl [(m0, .inr (5, [.ref m1, .ref m2, .ref m3, .int (nI (G 0)), .int (nI (G 1)), .int (nI (G 2)), .int (nI (G 3)), .ref m4, .ref m5, .int (nI np), .ref m6, .ref m7, .ref m8, .ref m9, .ref m10, .int (nI ai)])), (m1, .inl (cI, 64, .inl (nF T))), (m2, .inl (cI, 64, .inl (nF U))), (m3, .inl (cZ, 64, .inl (nF B))), (m4, .inl (cI, 64, .inl (nF Wm))), (m5, .inl (cI, 64, .inl (nF M))), (m6, .inl (cI, 64, .inl (nF F))), (m7, .inl (cI, 64, .inl (nF L))), (m8, .inl (cI, 64, .inl (nF Z))), (m9, .inl (cI, 64, .inl (nF Om))), (m10, .inl (cI, 64, .inl (nF Nm)))] H := hP
            have hD : va_D A [(m0, .inr (5, [.ref m1, .ref m2, .ref m3, .int (nI (G 0)), .int (nI (G 1)), .int (nI (G 2)), .int (nI (G 3)), .ref m4, .ref m5, .int (nI np), .ref m6, .ref m7, .ref m8, .ref m9, .ref m10, .int (nI ai)])), (m1, .inl (cI, 64, .inl (nF T))), (m2, .inl (cI, 64, .inl (nF U))), (m3, .inl (cZ, 64, .inl (nF B))), (m4, .inl (cI, 64, .inl (nF Wm))), (m5, .inl (cI, 64, .inl (nF M))), (m6, .inl (cI, 64, .inl (nF F))), (m7, .inl (cI, 64, .inl (nF L))), (m8, .inl (cI, 64, .inl (nF Z))), (m9, .inl (cI, 64, .inl (nF Om))), (m10, .inl (cI, 64, .inl (nF Nm)))] := hD
            refine lv_iload hx hb dX5_tied_101 (lv_at hl 2 rfl) ?_
            refine nv_icmp_ne (tgt := 117) hx hb dX5_tied_103 (by decide) (by have := pY_lt (U := U) (ly := ly) (pv (pY U ly c) c); omega) (by have := pY_lt (U := U) (ly := ly) (pv (pY U ly c) c); omega) (fun c_19 => ?_) (fun c_19 => ?_)
            · skip
              refine lv_iconst (v := (-1)) hx hb dX5_tied_117 (by decide) ?_
              exact hret _ () _ _ _ _ dX5_tied_118 (by unfold tp; rw [if_neg (fun q => c_19 q.2.2)]; rfl) hP hD hS
            · skip
              refine lv_bipush (v := nI 8) hx hb dX5_tied_106 (by decide) ?_
              refine lv_iload hx hb dX5_tied_108 (lv_at hl 0 rfl) ?_
              refine nv_imul hx hb dX5_tied_110 ?_
              refine lv_iload hx hb dX5_tied_111 (lv_at hl 1 rfl) ?_
              refine nv_iadd hx hb dX5_tied_113 ?_
              refine top_eq (congrArg nI (show (8 * (pv (pY U ly c) c / 8)) + (pv (pY U ly c) c % 8) = pv (pY U ly c) c by omega)) ?_
              refine lv_goto (tgt := 118) hx hb dX5_tied_114 (by decide) ?_
              exact hret _ () _ _ _ _ dX5_tied_118 (by unfold tp; rw [if_pos ⟨hn, c_18, c_19⟩, rI_some (by omega)]) hP hD hS
      · skip
        exact absurd c_16 c_1
