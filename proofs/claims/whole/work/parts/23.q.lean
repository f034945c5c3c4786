theorem in_okk {v : Int32} {n : Nat} (hn : n ≤ 64) : inr v (nI 0) (nI n - nI 1) ↔ okk v n := by
  unfold inr okk
  rw [i_lt, i_lt, i_lt, i_le, z_T, nI_T (by decide), pk_sub_toInt (by omega) (by decide), nI_T (by omega)]
  omega

set_option maxHeartbeats 4000000 in
set_option maxRecDepth 100000 in
theorem c_X5_findOrder (l : Launch) (D : va_G) (cI cZ : ClassId) (tt : Nat → Nat) (sz : Nat) (m0 m1 m2 m3 m4 m5 m6 m7 m8 m9 m10 : Nat) (np ai : Nat) (T U B G Wm M F L Z Om Nm : Nat → Nat) (ly : Nat) (hT : ∀ k, T k ≤ 100) (hU : ∀ k, U k < 8) (hGs : ∀ k, G k ≤ 100) (hly : ly < 2) : MV l yX5_findOrder wsX5_findOrder ({ frames := 4, cells := 0, slots := 0, locals := 93 } : Room) D cI cZ tt [.ref m0, .int (nI ly)] [(m0, .inr (5, [.ref m1, .ref m2, .ref m3, .int (nI (G 0)), .int (nI (G 1)), .int (nI (G 2)), .int (nI (G 3)), .ref m4, .ref m5, .int (nI np), .ref m6, .ref m7, .ref m8, .ref m9, .ref m10, .int (nI ai)])), (m1, .inl (cI, 64, .inl (nF T))), (m2, .inl (cI, 64, .inl (nF U))), (m3, .inl (cZ, 64, .inl (nF B))), (m4, .inl (cI, 64, .inl (nF Wm))), (m5, .inl (cI, 64, .inl (nF M))), (m6, .inl (cI, 64, .inl (nF F))), (m7, .inl (cI, 64, .inl (nF L))), (m8, .inl (cI, 64, .inl (nF Z))), (m9, .inl (cI, 64, .inl (nF Om))), (m10, .inl (cI, 64, .inl (nF Nm)))] sz 0 0 (fun (u : (Nat → Nat) × (Nat → Nat) × (Nat → Nat) × (Nat → Nat) × (Nat → Nat) × (Nat) × (Nat → Nat) × (Nat → Nat) × (Nat)) => (u.2.2.2.2.2.1 = npf G T U ly) ∧ (∀ j, j < npf G T U ly → u.2.2.2.2.2.2.1 j = odf G T U ly j) ∧ (∀ j, j < npf G T U ly → u.2.2.2.2.2.2.2.1 j = bgf G T U ly j) ∧ (u.2.2.2.2.2.2.2.2 = arf G T U ly)) (fun (u : (Nat → Nat) × (Nat → Nat) × (Nat → Nat) × (Nat → Nat) × (Nat → Nat) × (Nat) × (Nat → Nat) × (Nat → Nat) × (Nat)) => [(m0, .inr (5, [.ref m1, .ref m2, .ref m3, .int (nI (G 0)), .int (nI (G 1)), .int (nI (G 2)), .int (nI (G 3)), .ref m4, .ref m5, .int (nI u.2.2.2.2.2.1), .ref m6, .ref m7, .ref m8, .ref m9, .ref m10, .int (nI u.2.2.2.2.2.2.2.2)])), (m1, .inl (cI, 64, .inl (nF T))), (m2, .inl (cI, 64, .inl (nF U))), (m3, .inl (cZ, 64, .inl (nF B))), (m4, .inl (cI, 64, .inl (nF u.1))), (m5, .inl (cI, 64, .inl (nF u.2.1))), (m6, .inl (cI, 64, .inl (nF u.2.2.1))), (m7, .inl (cI, 64, .inl (nF u.2.2.2.1))), (m8, .inl (cI, 64, .inl (nF u.2.2.2.2.1))), (m9, .inl (cI, 64, .inl (nF u.2.2.2.2.2.2.1))), (m10, .inl (cI, 64, .inl (nF u.2.2.2.2.2.2.2.1)))]) := by
  refine entV (cc := cX5_findOrder) 9 (by decide) rfl (Nat.le_of_ble_eq_true rfl) (fun pr e s m args below meth c0 A Q H ls hx hb hml hown hts hin hsz hA hP hK hD hS hG hret hl => ?_)
  have hown : s.vm.findClass RX5 = some m.cls := hown
  have lk1 := hts (.fieldLink RX5 109 "BurinLinesModel" "air" "I") (by decide +kernel)
  have lk2 := hts (.fieldLink RX5 95 "BurinLinesModel" "paths" "I") (by decide +kernel)
  have lk3 := hts (.fieldLink RX5 48 "BurinLinesModel" "order" "[I") (by decide +kernel)
  have lk4 := hts (.fieldLink RX5 39 "BurinLinesModel" "first" "[I") (by decide +kernel)
  have lk5 := hts (.fieldLink RX5 42 "BurinLinesModel" "last" "[I") (by decide +kernel)
  have lk6 := hts (.fieldLink RX5 51 "BurinLinesModel" "begun" "[I") (by decide +kernel)
  have hinX5 : ∀ w ∈ wsX50, w ∈ wsX5_findOrder := by decide +kernel
  have hl : lv_has ls 9 [(0, .ref m0), (1, .int (nI ly))] := hl
  refine lv_aload_n hx hb dX5_findOrder_0 rfl (lv_at hl 0 rfl) ?_
  refine lv_iload_n hx hb dX5_findOrder_1 rfl (lv_at hl 1 rfl) ?_
  refine gcVv (ws' := fun (u : (Nat → Nat) × (Nat → Nat) × (Nat → Nat) × (Nat → Nat) × (Nat → Nat) × (Nat)) => [(m0, .inr (5, [.ref m1, .ref m2, .ref m3, .int (nI (G 0)), .int (nI (G 1)), .int (nI (G 2)), .int (nI (G 3)), .ref m4, .ref m5, .int (nI u.2.2.2.2.2), .ref m6, .ref m7, .ref m8, .ref m9, .ref m10, .int (nI ai)])), (m1, .inl (cI, 64, .inl (nF T))), (m2, .inl (cI, 64, .inl (nF U))), (m3, .inl (cZ, 64, .inl (nF B))), (m4, .inl (cI, 64, .inl (nF u.1))), (m5, .inl (cI, 64, .inl (nF u.2.1))), (m6, .inl (cI, 64, .inl (nF u.2.2.1))), (m7, .inl (cI, 64, .inl (nF u.2.2.2.1))), (m8, .inl (cI, 64, .inl (nF u.2.2.2.2.1))), (m9, .inl (cI, 64, .inl (nF Om))), (m10, .inl (cI, 64, .inl (nF Nm)))]) (wr := []) (ci := 5) (q0 := 0) (As := [.int (nI ly)]) (rest := []) ⟨hx, hb, hml, hown, hts⟩ (c_X5_findLayer l D cI cZ tt H.size m0 m1 m2 m3 m4 m5 m6 m7 m8 m9 m10 np ai T U B G Wm M F L Z Om Nm ly (by first | assumption | omega) (by first | assumption | omega) (by first | assumption | omega) (by first | assumption | omega)) (cwV 1 hts gX5_findOrder_X5_findLayer rfl rfl rfl (by decide +kernel) ⟨Nat.le_of_ble_eq_true rfl, Nat.le_of_ble_eq_true rfl⟩) hP hK hD hS hA hG rfl rfl [0, 1, 2, 3, 4, 5, 6, 7, 8, 9, 10] [] [0, 1, 2, 3, 4, 5, 6, 7, 8, 9, 10] (by decide) rfl rfl (by decide) (by decide) (by decide) (fun _ => rfl) hl.1 rfl rfl (Nat.le_of_ble_eq_true rfl) ⟨Nat.zero_le _, Nat.zero_le _⟩ dX5_findOrder_2 (fun  u H locs hp hP hD hS => ?_)
  obtain ⟨Wq, Mq, Fq, Lq, Zq, nq⟩ := u
  obtain ⟨hLDq, hnDq, hWq⟩ := hp
  have hLDq : LD (pW G T ly) (pY U ly) (G 3) Mq Fq Lq Zq := hLDq
  have hnDq : nq = npf G T U ly := hnDq
  have hWq : ∀ k, k < 64 → Wq k = pW G T ly k := hWq
  have hP : va_P D vwCl [(m0, .inr (5, [.ref m1, .ref m2, .ref m3, .int (nI (G 0)), .int (nI (G 1)), .int (nI (G 2)), .int (nI (G 3)), .ref m4, .ref m5, .int (nI nq), .ref m6, .ref m7, .ref m8, .ref m9, .ref m10, .int (nI ai)])), (m1, .inl (cI, 64, .inl (nF T))), (m2, .inl (cI, 64, .inl (nF U))), (m3, .inl (cZ, 64, .inl (nF B))), (m4, .inl (cI, 64, .inl (nF Wq))), (m5, .inl (cI, 64, .inl (nF Mq))), (m6, .inl (cI, 64, .inl (nF Fq))), (m7, .inl (cI, 64, .inl (nF Lq))), (m8, .inl (cI, 64, .inl (nF Zq))), (m9, .inl (cI, 64, .inl (nF Om))), (m10, .inl (cI, 64, .inl (nF Nm)))] H := hP
  have hD : va_D A [(m0, .inr (5, [.ref m1, .ref m2, .ref m3, .int (nI (G 0)), .int (nI (G 1)), .int (nI (G 2)), .int (nI (G 3)), .ref m4, .ref m5, .int (nI nq), .ref m6, .ref m7, .ref m8, .ref m9, .ref m10, .int (nI ai)])), (m1, .inl (cI, 64, .inl (nF T))), (m2, .inl (cI, 64, .inl (nF U))), (m3, .inl (cZ, 64, .inl (nF B))), (m4, .inl (cI, 64, .inl (nF Wq))), (m5, .inl (cI, 64, .inl (nF Mq))), (m6, .inl (cI, 64, .inl (nF Fq))), (m7, .inl (cI, 64, .inl (nF Lq))), (m8, .inl (cI, 64, .inl (nF Zq))), (m9, .inl (cI, 64, .inl (nF Om))), (m10, .inl (cI, 64, .inl (nF Nm)))] := hD
  have hnp : nq ≤ 64 := by rw [hnDq]; exact npf_le _ _ _ _
  obtain ⟨hFL0, hair, hord⟩ := ord_arr hLDq
  have hFL : ∀ k, k < nq → Fq k < 64 ∧ Lq k < 64 := by rw [hnDq]; exact hFL0
  refine lv_aload_n hx hb dX5_findOrder_5 rfl (lv_at hl 0 rfl) ?_
  refine lv_iconst (v := nI 0) hx hb dX5_findOrder_6 (by decide) ?_
  refine va_put (D := D) (ci := 5) (v := .int (nI 0)) (ty := .int) (C := RX5) (T := TX5) (N := 16) hx hb hts hinX5 tyX5 tyX5_ok nmX5 hown hK hP hD hS 0 rfl rfl 15 (by decide) lk1 (fun _ h9 => h9) rfl (by decide +kernel) rfl rfl (Nat.le_of_ble_eq_true rfl) dX5_findOrder_7 (fun H locs hP hD hS => ?_)
  have hP : va_P D vwCl [(m0, .inr (5, [.ref m1, .ref m2, .ref m3, .int (nI (G 0)), .int (nI (G 1)), .int (nI (G 2)), .int (nI (G 3)), .ref m4, .ref m5, .int (nI nq), .ref m6, .ref m7, .ref m8, .ref m9, .ref m10, .int (nI 0)])), (m1, .inl (cI, 64, .inl (nF T))), (m2, .inl (cI, 64, .inl (nF U))), (m3, .inl (cZ, 64, .inl (nF B))), (m4, .inl (cI, 64, .inl (nF Wq))), (m5, .inl (cI, 64, .inl (nF Mq))), (m6, .inl (cI, 64, .inl (nF Fq))), (m7, .inl (cI, 64, .inl (nF Lq))), (m8, .inl (cI, 64, .inl (nF Zq))), (m9, .inl (cI, 64, .inl (nF Om))), (m10, .inl (cI, 64, .inl (nF Nm)))] H := hP
  have hD : va_D A [(m0, .inr (5, [.ref m1, .ref m2, .ref m3, .int (nI (G 0)), .int (nI (G 1)), .int (nI (G 2)), .int (nI (G 3)), .ref m4, .ref m5, .int (nI nq), .ref m6, .ref m7, .ref m8, .ref m9, .ref m10, .int (nI 0)])), (m1, .inl (cI, 64, .inl (nF T))), (m2, .inl (cI, 64, .inl (nF U))), (m3, .inl (cZ, 64, .inl (nF B))), (m4, .inl (cI, 64, .inl (nF Wq))), (m5, .inl (cI, 64, .inl (nF Mq))), (m6, .inl (cI, 64, .inl (nF Fq))), (m7, .inl (cI, 64, .inl (nF Lq))), (m8, .inl (cI, 64, .inl (nF Zq))), (m9, .inl (cI, 64, .inl (nF Om))), (m10, .inl (cI, 64, .inl (nF Nm)))] := hD
  refine lv_iconst (v := nI 0) hx hb dX5_findOrder_10 (by decide) ?_
  refine lv_istore_n (lv' := [(2, .int (nI 0)), (0, .ref m0), (1, .int (nI ly))]) hx hb dX5_findOrder_11 rfl hl (by decide) rfl (fun ls hl => ?_)
  refine lv_iconst (v := nI 0) hx hb dX5_findOrder_12 (by decide) ?_
  refine lv_istore_n (lv' := [(3, .int (nI 0)), (2, .int (nI 0)), (0, .ref m0), (1, .int (nI ly))]) hx hb dX5_findOrder_13 rfl hl (by decide) rfl (fun ls hl => ?_)
  have L14 : ∀ (n : Nat) (i : Nat) (O2 : Nat → Nat) (N2 : Nat → Nat) (ai2 : Nat) (a : Nat), nq - i < n → (i ≤ nq) → (∀ j, j < i → O2 j = od Fq Lq nq j) → (∀ j, j < i → N2 j = bgc Fq Lq nq j) → (ai2 = (os Fq Lq nq i).2.2) → (a = (os Fq Lq nq i).1) → ∀ (H : Heap) (locs : List Loc) (ls : Array Slot), va_P D vwCl [(m0, .inr (5, [.ref m1, .ref m2, .ref m3, .int (nI (G 0)), .int (nI (G 1)), .int (nI (G 2)), .int (nI (G 3)), .ref m4, .ref m5, .int (nI nq), .ref m6, .ref m7, .ref m8, .ref m9, .ref m10, .int (nI ai2)])), (m1, .inl (cI, 64, .inl (nF T))), (m2, .inl (cI, 64, .inl (nF U))), (m3, .inl (cZ, 64, .inl (nF B))), (m4, .inl (cI, 64, .inl (nF Wq))), (m5, .inl (cI, 64, .inl (nF Mq))), (m6, .inl (cI, 64, .inl (nF Fq))), (m7, .inl (cI, 64, .inl (nF Lq))), (m8, .inl (cI, 64, .inl (nF Zq))), (m9, .inl (cI, 64, .inl (nF O2))), (m10, .inl (cI, 64, .inl (nF N2)))] H → va_D A [(m0, .inr (5, [.ref m1, .ref m2, .ref m3, .int (nI (G 0)), .int (nI (G 1)), .int (nI (G 2)), .int (nI (G 3)), .ref m4, .ref m5, .int (nI nq), .ref m6, .ref m7, .ref m8, .ref m9, .ref m10, .int (nI ai2)])), (m1, .inl (cI, 64, .inl (nF T))), (m2, .inl (cI, 64, .inl (nF U))), (m3, .inl (cZ, 64, .inl (nF B))), (m4, .inl (cI, 64, .inl (nF Wq))), (m5, .inl (cI, 64, .inl (nF Mq))), (m6, .inl (cI, 64, .inl (nF Fq))), (m7, .inl (cI, 64, .inl (nF Lq))), (m8, .inl (cI, 64, .inl (nF Zq))), (m9, .inl (cI, 64, .inl (nF O2))), (m10, .inl (cI, 64, .inl (nF N2)))] → va_S A s.heap H locs → lv_has ls 9 [(0, .ref m0), (1, .int (nI ly)), (2, .int (nI a)), (3, .int (nI i))] → W pr l e ({ frames := 4, cells := 0, slots := 0, locals := 93 } : Room) s m args below meth c0 H locs 0 0 Q (F0 m 14 ls []) := by
    intro n
    induction n with
    | zero => intro i O2 N2 ai2 a h0; exact absurd h0 (Nat.not_lt_zero _)
    | succ n ih14 =>
      intro i O2 N2 ai2 a hm14 hi hO2 hN2 haw hat H locs ls hP hD hS hl
      refine lv_iload_n hx hb dX5_findOrder_14 rfl (lv_at hl 3 rfl) ?_
      refine lv_aload_n hx hb dX5_findOrder_15 rfl (lv_at hl 0 rfl) ?_
      refine va_get (D := D) (ci := 5) (v := .int (nI nq)) (C := RX5) (T := TX5) (N := 16) hx hb hts hinX5 hown hK hP 0 rfl rfl 9 (by decide) lk2 (fun _ h9 => h9) rfl dX5_findOrder_16 ?_
      refine nv_icmp_ge (tgt := 244) hx hb dX5_findOrder_19 (by decide) (by omega) (by omega) (fun c_1 => ?_) (fun c_1 => ?_)
      · skip
        exact hret (Wq, Mq, Fq, Lq, Zq, nq, O2, N2, ai2) _ _ _ _ dX5_findOrder_244 (⟨hnDq, by intro j hj; rw [← (hord j hj).1, ← hnDq]; exact hO2 j (by omega), by intro j hj; rw [← (hord j hj).2, ← hnDq]; exact hN2 j (by omega), by rw [haw, show i = nq by omega, ← hair, hnDq]⟩) hP hD hS
      · skip
        refine lv_iconst (v := (-1)) hx hb dX5_findOrder_22 (by decide) ?_
        refine lv_istore (lv' := [(4, .int ((-1))), (0, .ref m0), (1, .int (nI ly)), (2, .int (nI a)), (3, .int (nI i))]) hx hb dX5_findOrder_23 hl (by decide) rfl (fun ls hl => ?_)
        refine lv_bipush (v := nI 100) hx hb dX5_findOrder_25 (by decide) ?_
        refine lv_istore (lv' := [(5, .int (nI 100)), (4, .int ((-1))), (0, .ref m0), (1, .int (nI ly)), (2, .int (nI a)), (3, .int (nI i))]) hx hb dX5_findOrder_27 hl (by decide) rfl (fun ls hl => ?_)
        refine lv_iconst (v := nI 0) hx hb dX5_findOrder_29 (by decide) ?_
        refine lv_istore (lv' := [(6, .int (nI 0)), (5, .int (nI 100)), (4, .int ((-1))), (0, .ref m0), (1, .int (nI ly)), (2, .int (nI a)), (3, .int (nI i))]) hx hb dX5_findOrder_30 hl (by decide) rfl (fun ls hl => ?_)
        have L32 : ∀ (n : Nat) (k : Nat) (nb : Nat) (lw : Nat), nq - k < n → (k ≤ nq) → (sc (dfn Fq Lq a) (os Fq Lq nq i).2.1 100 k = (nb, lw)) → (lw ≤ 100) → (nb ≤ 64) → ∀ (H : Heap) (locs : List Loc) (ls : Array Slot), va_P D vwCl [(m0, .inr (5, [.ref m1, .ref m2, .ref m3, .int (nI (G 0)), .int (nI (G 1)), .int (nI (G 2)), .int (nI (G 3)), .ref m4, .ref m5, .int (nI nq), .ref m6, .ref m7, .ref m8, .ref m9, .ref m10, .int (nI ai2)])), (m1, .inl (cI, 64, .inl (nF T))), (m2, .inl (cI, 64, .inl (nF U))), (m3, .inl (cZ, 64, .inl (nF B))), (m4, .inl (cI, 64, .inl (nF Wq))), (m5, .inl (cI, 64, .inl (nF Mq))), (m6, .inl (cI, 64, .inl (nF Fq))), (m7, .inl (cI, 64, .inl (nF Lq))), (m8, .inl (cI, 64, .inl (nF Zq))), (m9, .inl (cI, 64, .inl (nF O2))), (m10, .inl (cI, 64, .inl (nF N2)))] H → va_D A [(m0, .inr (5, [.ref m1, .ref m2, .ref m3, .int (nI (G 0)), .int (nI (G 1)), .int (nI (G 2)), .int (nI (G 3)), .ref m4, .ref m5, .int (nI nq), .ref m6, .ref m7, .ref m8, .ref m9, .ref m10, .int (nI ai2)])), (m1, .inl (cI, 64, .inl (nF T))), (m2, .inl (cI, 64, .inl (nF U))), (m3, .inl (cZ, 64, .inl (nF B))), (m4, .inl (cI, 64, .inl (nF Wq))), (m5, .inl (cI, 64, .inl (nF Mq))), (m6, .inl (cI, 64, .inl (nF Fq))), (m7, .inl (cI, 64, .inl (nF Lq))), (m8, .inl (cI, 64, .inl (nF Zq))), (m9, .inl (cI, 64, .inl (nF O2))), (m10, .inl (cI, 64, .inl (nF N2)))] → va_S A s.heap H locs → lv_has ls 9 [(0, .ref m0), (1, .int (nI ly)), (2, .int (nI a)), (3, .int (nI i)), (4, .int (rI nb)), (5, .int (nI lw)), (6, .int (nI k))] → W pr l e ({ frames := 4, cells := 0, slots := 0, locals := 93 } : Room) s m args below meth c0 H locs 0 0 Q (F0 m 32 ls []) := by
          intro n
          induction n with
          | zero => intro k nb lw h0; exact absurd h0 (Nat.not_lt_zero _)
          | succ n ih32 =>
            intro k nb lw hm32 hk hs hlw hnb H locs ls hP hD hS hl
            refine lv_iload hx hb dX5_findOrder_32 (lv_at hl 6 rfl) ?_
            refine lv_aload_n hx hb dX5_findOrder_34 rfl (lv_at hl 0 rfl) ?_
            refine va_get (D := D) (ci := 5) (v := .int (nI nq)) (C := RX5) (T := TX5) (N := 16) hx hb hts hinX5 hown hK hP 0 rfl rfl 9 (by decide) lk2 (fun _ h9 => h9) rfl dX5_findOrder_35 ?_
            refine nv_icmp_ge (tgt := 136) hx hb dX5_findOrder_38 (by decide) (by omega) (by omega) (fun c_2 => ?_) (fun c_2 => ?_)
            · skip
              have hkn : k = nq := by omega
              rw [hkn] at hs
              have ha64 : a < 64 := by rw [hat]; exact (osI hnp hFL i (by omega)).1
              have hodl : od Fq Lq nq i < nq := (osI hnp hFL (i + 1) (by omega)).2.2.2.1 i (by omega)
              have hsc : sc (dfn Fq Lq a) (os Fq Lq nq i).2.1 8 nq = (nb, lw) ∧ lw = dfn Fq Lq a nb := by
                rcases sc_spec (d := dfn Fq Lq a) (e := (os Fq Lq nq i).2.1) nq hnp (fun k hk => by have := fr_le ha64 (hFL k hk).1; unfold dfn; omega) with ⟨z1, z2, z3⟩ | ⟨z1, z2, z3, z4, z5⟩
                · exfalso
                  have q : od Fq Lq nq i = 64 := by unfold od; rw [← hat, z1]
                  omega
                · rw [hs] at z1
                  rw [z1] at z3
                  exact ⟨z1, z3⟩
              have enb : nb = od Fq Lq nq i := by unfold od; rw [← hat, hsc.1]
              have hnbl : nb < nq := by rw [enb]; exact hodl
              rw [rI_some (show ¬ nb = 64 by omega)] at hl
              have hfn := hFL nb hnbl
              have gr1 := fr_le (a := a) (b := Fq nb) ha64 hfn.1
              have gr2 := fr_le (a := a) (b := Lq nb) ha64 hfn.2
              refine lv_aload_n hx hb dX5_findOrder_136 rfl (lv_at hl 0 rfl) ?_
              refine va_get (D := D) (ci := 5) (v := .ref m9) (C := RX5) (T := TX5) (N := 16) hx hb hts hinX5 hown hK hP 0 rfl rfl 13 (by decide) lk3 (fun _ h9 => h9) rfl dX5_findOrder_137 ?_
              refine lv_iload_n hx hb dX5_findOrder_140 rfl (lv_at hl 3 rfl) ?_
              refine lv_iload hx hb dX5_findOrder_141 (lv_at hl 4 rfl) ?_
              refine nv_iast hx hb hK hP hD hS 9 rfl (by omega) (by decide) dX5_findOrder_143 (fun H locs hP hD hS => ?_)
              have hP : va_P D vwCl [(m0, .inr (5, [.ref m1, .ref m2, .ref m3, .int (nI (G 0)), .int (nI (G 1)), .int (nI (G 2)), .int (nI (G 3)), .ref m4, .ref m5, .int (nI nq), .ref m6, .ref m7, .ref m8, .ref m9, .ref m10, .int (nI ai2)])), (m1, .inl (cI, 64, .inl (nF T))), (m2, .inl (cI, 64, .inl (nF U))), (m3, .inl (cZ, 64, .inl (nF B))), (m4, .inl (cI, 64, .inl (nF Wq))), (m5, .inl (cI, 64, .inl (nF Mq))), (m6, .inl (cI, 64, .inl (nF Fq))), (m7, .inl (cI, 64, .inl (nF Lq))), (m8, .inl (cI, 64, .inl (nF Zq))), (m9, .inl (cI, 64, .inl (nF (va_up O2 i nb)))), (m10, .inl (cI, 64, .inl (nF N2)))] H := hP
              have hD : va_D A [(m0, .inr (5, [.ref m1, .ref m2, .ref m3, .int (nI (G 0)), .int (nI (G 1)), .int (nI (G 2)), .int (nI (G 3)), .ref m4, .ref m5, .int (nI nq), .ref m6, .ref m7, .ref m8, .ref m9, .ref m10, .int (nI ai2)])), (m1, .inl (cI, 64, .inl (nF T))), (m2, .inl (cI, 64, .inl (nF U))), (m3, .inl (cZ, 64, .inl (nF B))), (m4, .inl (cI, 64, .inl (nF Wq))), (m5, .inl (cI, 64, .inl (nF Mq))), (m6, .inl (cI, 64, .inl (nF Fq))), (m7, .inl (cI, 64, .inl (nF Lq))), (m8, .inl (cI, 64, .inl (nF Zq))), (m9, .inl (cI, 64, .inl (nF (va_up O2 i nb)))), (m10, .inl (cI, 64, .inl (nF N2)))] := hD
              refine lv_iload_n hx hb dX5_findOrder_144 rfl (lv_at hl 2 rfl) ?_
              refine lv_aload_n hx hb dX5_findOrder_145 rfl (lv_at hl 0 rfl) ?_
              refine va_get (D := D) (ci := 5) (v := .ref m6) (C := RX5) (T := TX5) (N := 16) hx hb hts hinX5 hown hK hP 0 rfl rfl 10 (by decide) lk4 (fun _ h9 => h9) rfl dX5_findOrder_146 ?_
              refine lv_iload hx hb dX5_findOrder_149 (lv_at hl 4 rfl) ?_
              refine nv_iald hx hb hK hP 6 rfl (by omega) (by decide) dX5_findOrder_151 ?_
              refine gcS (As := [.int (nI a), .int (nI (Fq nb))]) (rest := []) ⟨hx, hb, hml, hown, hts⟩ (c_X5_far l a (Fq nb) (by exact ha64) (by exact hfn.1)) (va_cwS 2 hts gX5_findOrder_X5_far rfl rfl rfl (by decide +kernel) ⟨Nat.le_of_ble_eq_true rfl, Nat.le_of_ble_eq_true rfl⟩) hl.1 rfl rfl (Nat.le_of_ble_eq_true rfl) ⟨Nat.zero_le _, Nat.zero_le _⟩ dX5_findOrder_152 ?_
              refine lv_iload_n hx hb dX5_findOrder_155 rfl (lv_at hl 2 rfl) ?_
              refine lv_aload_n hx hb dX5_findOrder_156 rfl (lv_at hl 0 rfl) ?_
              refine va_get (D := D) (ci := 5) (v := .ref m7) (C := RX5) (T := TX5) (N := 16) hx hb hts hinX5 hown hK hP 0 rfl rfl 11 (by decide) lk5 (fun _ h9 => h9) rfl dX5_findOrder_157 ?_
              refine lv_iload hx hb dX5_findOrder_160 (lv_at hl 4 rfl) ?_
              refine nv_iald hx hb hK hP 7 rfl (by omega) (by decide) dX5_findOrder_162 ?_
              refine gcS (As := [.int (nI a), .int (nI (Lq nb))]) (rest := [.int (nI (fr a (Fq nb)))]) ⟨hx, hb, hml, hown, hts⟩ (c_X5_far l a (Lq nb) (by exact ha64) (by exact hfn.2)) (va_cwS 2 hts gX5_findOrder_X5_far rfl rfl rfl (by decide +kernel) ⟨Nat.le_of_ble_eq_true rfl, Nat.le_of_ble_eq_true rfl⟩) hl.1 rfl rfl (Nat.le_of_ble_eq_true rfl) ⟨Nat.zero_le _, Nat.zero_le _⟩ dX5_findOrder_163 ?_
              refine nv_icmp_gt (tgt := 173) hx hb dX5_findOrder_166 (by decide) (by omega) (by omega) (fun c_3 => ?_) (fun c_3 => ?_)
              · skip
                refine lv_iconst (v := nI 0) hx hb dX5_findOrder_173 (by decide) ?_
                refine lv_istore (lv' := [(6, .int (nI 0)), (0, .ref m0), (1, .int (nI ly)), (2, .int (nI a)), (3, .int (nI i)), (4, .int (nI nb)), (5, .int (nI lw))]) hx hb dX5_findOrder_174 hl (by decide) rfl (fun ls hl => ?_)
                refine lv_aload_n hx hb dX5_findOrder_176 rfl (lv_at hl 1 rfl) ?_
                refine va_get (D := D) (ci := 5) (v := .ref m10) (C := RX5) (T := TX5) (N := 16) hx hb hts hinX5 hown hK hP 0 rfl rfl 14 (by decide) lk6 (fun _ h9 => h9) rfl dX5_findOrder_177 ?_
                refine lv_iload_n hx hb dX5_findOrder_180 rfl (lv_at hl 4 rfl) ?_
                refine lv_iload hx hb dX5_findOrder_181 (lv_at hl 0 rfl) ?_
                refine nv_if_eq (tgt := 196) hx hb dX5_findOrder_183 (by decide) (by omega) (fun c_4 => ?_) (fun c_4 => ?_)
                · skip
                  refine lv_aload_n hx hb dX5_findOrder_196 rfl (lv_at hl 1 rfl) ?_
                  refine va_get (D := D) (ci := 5) (v := .ref m7) (C := RX5) (T := TX5) (N := 16) hx hb hts hinX5 hown hK hP 0 rfl rfl 11 (by decide) lk5 (fun _ h9 => h9) rfl dX5_findOrder_197 ?_
                  refine lv_iload hx hb dX5_findOrder_200 (lv_at hl 5 rfl) ?_
                  refine nv_iald hx hb hK hP 7 rfl (by omega) (by decide) dX5_findOrder_202 ?_
                  refine nv_iast hx hb hK hP hD hS 10 rfl (by omega) (by decide) dX5_findOrder_203 (fun H locs hP hD hS => ?_)
                  have hP : va_P D vwCl [(m0, .inr (5, [.ref m1, .ref m2, .ref m3, .int (nI (G 0)), .int (nI (G 1)), .int (nI (G 2)), .int (nI (G 3)), .ref m4, .ref m5, .int (nI nq), .ref m6, .ref m7, .ref m8, .ref m9, .ref m10, .int (nI ai2)])), (m1, .inl (cI, 64, .inl (nF T))), (m2, .inl (cI, 64, .inl (nF U))), (m3, .inl (cZ, 64, .inl (nF B))), (m4, .inl (cI, 64, .inl (nF Wq))), (m5, .inl (cI, 64, .inl (nF Mq))), (m6, .inl (cI, 64, .inl (nF Fq))), (m7, .inl (cI, 64, .inl (nF Lq))), (m8, .inl (cI, 64, .inl (nF Zq))), (m9, .inl (cI, 64, .inl (nF (va_up O2 i nb)))), (m10, .inl (cI, 64, .inl (nF (va_up N2 i (Lq nb)))))] H := hP
                  have hD : va_D A [(m0, .inr (5, [.ref m1, .ref m2, .ref m3, .int (nI (G 0)), .int (nI (G 1)), .int (nI (G 2)), .int (nI (G 3)), .ref m4, .ref m5, .int (nI nq), .ref m6, .ref m7, .ref m8, .ref m9, .ref m10, .int (nI ai2)])), (m1, .inl (cI, 64, .inl (nF T))), (m2, .inl (cI, 64, .inl (nF U))), (m3, .inl (cZ, 64, .inl (nF B))), (m4, .inl (cI, 64, .inl (nF Wq))), (m5, .inl (cI, 64, .inl (nF Mq))), (m6, .inl (cI, 64, .inl (nF Fq))), (m7, .inl (cI, 64, .inl (nF Lq))), (m8, .inl (cI, 64, .inl (nF Zq))), (m9, .inl (cI, 64, .inl (nF (va_up O2 i nb)))), (m10, .inl (cI, 64, .inl (nF (va_up N2 i (Lq nb)))))] := hD
                  refine lv_iload hx hb dX5_findOrder_204 (lv_at hl 0 rfl) ?_
                  refine nv_if_eq (tgt := 219) hx hb dX5_findOrder_206 (by decide) (by omega) (fun c_5 => ?_) (fun c_5 => ?_)
                  · skip
                    refine lv_aload_n hx hb dX5_findOrder_219 rfl (lv_at hl 1 rfl) ?_
                    refine va_get (D := D) (ci := 5) (v := .ref m6) (C := RX5) (T := TX5) (N := 16) hx hb hts hinX5 hown hK hP 0 rfl rfl 10 (by decide) lk4 (fun _ h9 => h9) rfl dX5_findOrder_220 ?_
                    refine lv_iload hx hb dX5_findOrder_223 (lv_at hl 5 rfl) ?_
                    refine nv_iald hx hb hK hP 6 rfl (by omega) (by decide) dX5_findOrder_225 ?_
                    refine lv_istore_n (lv' := [(2, .int (nI (Fq nb))), (6, .int (nI 0)), (0, .ref m0), (1, .int (nI ly)), (3, .int (nI i)), (4, .int (nI nb)), (5, .int (nI lw))]) hx hb dX5_findOrder_226 rfl hl (by decide) rfl (fun ls hl => ?_)
                    refine lv_aload_n hx hb dX5_findOrder_227 rfl (lv_at hl 2 rfl) ?_
                    refine lv_dup hx hb dX5_findOrder_228 rfl ?_
                    refine va_get (D := D) (ci := 5) (v := .int (nI ai2)) (C := RX5) (T := TX5) (N := 16) hx hb hts hinX5 hown hK hP 0 rfl rfl 15 (by decide) lk1 (fun _ h9 => h9) rfl dX5_findOrder_229 ?_
                    refine lv_iload hx hb dX5_findOrder_232 (lv_at hl 6 rfl) ?_
                    refine nv_iadd hx hb dX5_findOrder_234 ?_
                    refine va_put (D := D) (ci := 5) (v := .int (nI (ai2 + lw))) (ty := .int) (C := RX5) (T := TX5) (N := 16) hx hb hts hinX5 tyX5 tyX5_ok nmX5 hown hK hP hD hS 0 rfl rfl 15 (by decide) lk1 (fun _ h9 => h9) rfl (by decide +kernel) rfl rfl (Nat.le_of_ble_eq_true rfl) dX5_findOrder_235 (fun H locs hP hD hS => ?_)
                    have hP : va_P D vwCl [(m0, .inr (5, [.ref m1, .ref m2, .ref m3, .int (nI (G 0)), .int (nI (G 1)), .int (nI (G 2)), .int (nI (G 3)), .ref m4, .ref m5, .int (nI nq), .ref m6, .ref m7, .ref m8, .ref m9, .ref m10, .int (nI (ai2 + lw))])), (m1, .inl (cI, 64, .inl (nF T))), (m2, .inl (cI, 64, .inl (nF U))), (m3, .inl (cZ, 64, .inl (nF B))), (m4, .inl (cI, 64, .inl (nF Wq))), (m5, .inl (cI, 64, .inl (nF Mq))), (m6, .inl (cI, 64, .inl (nF Fq))), (m7, .inl (cI, 64, .inl (nF Lq))), (m8, .inl (cI, 64, .inl (nF Zq))), (m9, .inl (cI, 64, .inl (nF (va_up O2 i nb)))), (m10, .inl (cI, 64, .inl (nF (va_up N2 i (Lq nb)))))] H := hP
                    have hD : va_D A [(m0, .inr (5, [.ref m1, .ref m2, .ref m3, .int (nI (G 0)), .int (nI (G 1)), .int (nI (G 2)), .int (nI (G 3)), .ref m4, .ref m5, .int (nI nq), .ref m6, .ref m7, .ref m8, .ref m9, .ref m10, .int (nI (ai2 + lw))])), (m1, .inl (cI, 64, .inl (nF T))), (m2, .inl (cI, 64, .inl (nF U))), (m3, .inl (cZ, 64, .inl (nF B))), (m4, .inl (cI, 64, .inl (nF Wq))), (m5, .inl (cI, 64, .inl (nF Mq))), (m6, .inl (cI, 64, .inl (nF Fq))), (m7, .inl (cI, 64, .inl (nF Lq))), (m8, .inl (cI, 64, .inl (nF Zq))), (m9, .inl (cI, 64, .inl (nF (va_up O2 i nb)))), (m10, .inl (cI, 64, .inl (nF (va_up N2 i (Lq nb)))))] := hD
                    refine lv_iinc (v := nI (i + 1)) (lv' := [(3, .int (nI (i + 1))), (2, .int (nI (Fq nb))), (6, .int (nI 0)), (0, .ref m0), (1, .int (nI ly)), (4, .int (nI nb)), (5, .int (nI lw))]) hx hb dX5_findOrder_238 hl (k := 4) rfl (by exact nI_add _ 1) (by decide) rfl (fun ls hl => ?_)
                    refine lv_goto (tgt := 14) hx hb dX5_findOrder_241 (by decide) ?_
                    exact ih14 (i + 1) (va_up O2 i nb) (va_up N2 i (Lq nb)) (ai2 + lw) (Fq nb) (by omega) (by omega) (by
                      intro j hj
                      rcases Nat.lt_or_ge j i with z | z
                      · rw [up_n _ _ (by omega)]; exact hO2 j z
                      · rw [show j = i by omega, up_s]; exact enb) (by
                      intro j hj
                      rcases Nat.lt_or_ge j i with z | z
                      · rw [up_n _ _ (by omega)]; exact hN2 j z
                      · rw [show j = i by omega, up_s, bgc, ← enb, ← hat]; unfold stt; rw [if_neg (by omega)]) (by rw [haw, hsc.2, ← stt_df, enb, hat]; rfl) (by
                      have e : (os Fq Lq nq (i + 1)).1 = en Fq Lq a nb := by rw [enb, hat]; rfl
                      rw [e]
                      unfold en
                      rw [if_neg (by omega)]) _ _ _ hP hD hS (lv_sub hl [3, 4, 1, 0] rfl)
                  · skip
                    exact absurd c_5 (by decide)
                · skip
                  exact absurd c_4 (by decide)
              · skip
                refine lv_iconst (v := nI 1) hx hb dX5_findOrder_169 (by decide) ?_
                refine lv_goto (tgt := 174) hx hb dX5_findOrder_170 (by decide) ?_
                refine lv_istore (lv' := [(6, .int (nI 1)), (0, .ref m0), (1, .int (nI ly)), (2, .int (nI a)), (3, .int (nI i)), (4, .int (nI nb)), (5, .int (nI lw))]) hx hb dX5_findOrder_174 hl (by decide) rfl (fun ls hl => ?_)
                refine lv_aload_n hx hb dX5_findOrder_176 rfl (lv_at hl 1 rfl) ?_
                refine va_get (D := D) (ci := 5) (v := .ref m10) (C := RX5) (T := TX5) (N := 16) hx hb hts hinX5 hown hK hP 0 rfl rfl 14 (by decide) lk6 (fun _ h9 => h9) rfl dX5_findOrder_177 ?_
                refine lv_iload_n hx hb dX5_findOrder_180 rfl (lv_at hl 4 rfl) ?_
                refine lv_iload hx hb dX5_findOrder_181 (lv_at hl 0 rfl) ?_
                refine nv_if_eq (tgt := 196) hx hb dX5_findOrder_183 (by decide) (by omega) (fun c_6 => ?_) (fun c_6 => ?_)
                · skip
                  exact absurd c_6 (by decide)
                · skip
                  refine lv_aload_n hx hb dX5_findOrder_186 rfl (lv_at hl 1 rfl) ?_
                  refine va_get (D := D) (ci := 5) (v := .ref m6) (C := RX5) (T := TX5) (N := 16) hx hb hts hinX5 hown hK hP 0 rfl rfl 10 (by decide) lk4 (fun _ h9 => h9) rfl dX5_findOrder_187 ?_
                  refine lv_iload hx hb dX5_findOrder_190 (lv_at hl 5 rfl) ?_
                  refine nv_iald hx hb hK hP 6 rfl (by omega) (by decide) dX5_findOrder_192 ?_
                  refine lv_goto (tgt := 203) hx hb dX5_findOrder_193 (by decide) ?_
                  refine nv_iast hx hb hK hP hD hS 10 rfl (by omega) (by decide) dX5_findOrder_203 (fun H locs hP hD hS => ?_)
                  have hP : va_P D vwCl [(m0, .inr (5, [.ref m1, .ref m2, .ref m3, .int (nI (G 0)), .int (nI (G 1)), .int (nI (G 2)), .int (nI (G 3)), .ref m4, .ref m5, .int (nI nq), .ref m6, .ref m7, .ref m8, .ref m9, .ref m10, .int (nI ai2)])), (m1, .inl (cI, 64, .inl (nF T))), (m2, .inl (cI, 64, .inl (nF U))), (m3, .inl (cZ, 64, .inl (nF B))), (m4, .inl (cI, 64, .inl (nF Wq))), (m5, .inl (cI, 64, .inl (nF Mq))), (m6, .inl (cI, 64, .inl (nF Fq))), (m7, .inl (cI, 64, .inl (nF Lq))), (m8, .inl (cI, 64, .inl (nF Zq))), (m9, .inl (cI, 64, .inl (nF (va_up O2 i nb)))), (m10, .inl (cI, 64, .inl (nF (va_up N2 i (Fq nb)))))] H := hP
                  have hD : va_D A [(m0, .inr (5, [.ref m1, .ref m2, .ref m3, .int (nI (G 0)), .int (nI (G 1)), .int (nI (G 2)), .int (nI (G 3)), .ref m4, .ref m5, .int (nI nq), .ref m6, .ref m7, .ref m8, .ref m9, .ref m10, .int (nI ai2)])), (m1, .inl (cI, 64, .inl (nF T))), (m2, .inl (cI, 64, .inl (nF U))), (m3, .inl (cZ, 64, .inl (nF B))), (m4, .inl (cI, 64, .inl (nF Wq))), (m5, .inl (cI, 64, .inl (nF Mq))), (m6, .inl (cI, 64, .inl (nF Fq))), (m7, .inl (cI, 64, .inl (nF Lq))), (m8, .inl (cI, 64, .inl (nF Zq))), (m9, .inl (cI, 64, .inl (nF (va_up O2 i nb)))), (m10, .inl (cI, 64, .inl (nF (va_up N2 i (Fq nb)))))] := hD
                  refine lv_iload hx hb dX5_findOrder_204 (lv_at hl 0 rfl) ?_
                  refine nv_if_eq (tgt := 219) hx hb dX5_findOrder_206 (by decide) (by omega) (fun c_7 => ?_) (fun c_7 => ?_)
                  · skip
                    exact absurd c_7 (by decide)
                  · skip
                    refine lv_aload_n hx hb dX5_findOrder_209 rfl (lv_at hl 1 rfl) ?_
                    refine va_get (D := D) (ci := 5) (v := .ref m7) (C := RX5) (T := TX5) (N := 16) hx hb hts hinX5 hown hK hP 0 rfl rfl 11 (by decide) lk5 (fun _ h9 => h9) rfl dX5_findOrder_210 ?_
                    refine lv_iload hx hb dX5_findOrder_213 (lv_at hl 5 rfl) ?_
                    refine nv_iald hx hb hK hP 7 rfl (by omega) (by decide) dX5_findOrder_215 ?_
                    refine lv_goto (tgt := 226) hx hb dX5_findOrder_216 (by decide) ?_
                    refine lv_istore_n (lv' := [(2, .int (nI (Lq nb))), (6, .int (nI 1)), (0, .ref m0), (1, .int (nI ly)), (3, .int (nI i)), (4, .int (nI nb)), (5, .int (nI lw))]) hx hb dX5_findOrder_226 rfl hl (by decide) rfl (fun ls hl => ?_)
                    refine lv_aload_n hx hb dX5_findOrder_227 rfl (lv_at hl 2 rfl) ?_
                    refine lv_dup hx hb dX5_findOrder_228 rfl ?_
                    refine va_get (D := D) (ci := 5) (v := .int (nI ai2)) (C := RX5) (T := TX5) (N := 16) hx hb hts hinX5 hown hK hP 0 rfl rfl 15 (by decide) lk1 (fun _ h9 => h9) rfl dX5_findOrder_229 ?_
                    refine lv_iload hx hb dX5_findOrder_232 (lv_at hl 6 rfl) ?_
                    refine nv_iadd hx hb dX5_findOrder_234 ?_
                    refine va_put (D := D) (ci := 5) (v := .int (nI (ai2 + lw))) (ty := .int) (C := RX5) (T := TX5) (N := 16) hx hb hts hinX5 tyX5 tyX5_ok nmX5 hown hK hP hD hS 0 rfl rfl 15 (by decide) lk1 (fun _ h9 => h9) rfl (by decide +kernel) rfl rfl (Nat.le_of_ble_eq_true rfl) dX5_findOrder_235 (fun H locs hP hD hS => ?_)
                    have hP : va_P D vwCl [(m0, .inr (5, [.ref m1, .ref m2, .ref m3, .int (nI (G 0)), .int (nI (G 1)), .int (nI (G 2)), .int (nI (G 3)), .ref m4, .ref m5, .int (nI nq), .ref m6, .ref m7, .ref m8, .ref m9, .ref m10, .int (nI (ai2 + lw))])), (m1, .inl (cI, 64, .inl (nF T))), (m2, .inl (cI, 64, .inl (nF U))), (m3, .inl (cZ, 64, .inl (nF B))), (m4, .inl (cI, 64, .inl (nF Wq))), (m5, .inl (cI, 64, .inl (nF Mq))), (m6, .inl (cI, 64, .inl (nF Fq))), (m7, .inl (cI, 64, .inl (nF Lq))), (m8, .inl (cI, 64, .inl (nF Zq))), (m9, .inl (cI, 64, .inl (nF (va_up O2 i nb)))), (m10, .inl (cI, 64, .inl (nF (va_up N2 i (Fq nb)))))] H := hP
                    have hD : va_D A [(m0, .inr (5, [.ref m1, .ref m2, .ref m3, .int (nI (G 0)), .int (nI (G 1)), .int (nI (G 2)), .int (nI (G 3)), .ref m4, .ref m5, .int (nI nq), .ref m6, .ref m7, .ref m8, .ref m9, .ref m10, .int (nI (ai2 + lw))])), (m1, .inl (cI, 64, .inl (nF T))), (m2, .inl (cI, 64, .inl (nF U))), (m3, .inl (cZ, 64, .inl (nF B))), (m4, .inl (cI, 64, .inl (nF Wq))), (m5, .inl (cI, 64, .inl (nF Mq))), (m6, .inl (cI, 64, .inl (nF Fq))), (m7, .inl (cI, 64, .inl (nF Lq))), (m8, .inl (cI, 64, .inl (nF Zq))), (m9, .inl (cI, 64, .inl (nF (va_up O2 i nb)))), (m10, .inl (cI, 64, .inl (nF (va_up N2 i (Fq nb)))))] := hD
                    refine lv_iinc (v := nI (i + 1)) (lv' := [(3, .int (nI (i + 1))), (2, .int (nI (Lq nb))), (6, .int (nI 1)), (0, .ref m0), (1, .int (nI ly)), (4, .int (nI nb)), (5, .int (nI lw))]) hx hb dX5_findOrder_238 hl (k := 4) rfl (by exact nI_add _ 1) (by decide) rfl (fun ls hl => ?_)
                    refine lv_goto (tgt := 14) hx hb dX5_findOrder_241 (by decide) ?_
                    exact ih14 (i + 1) (va_up O2 i nb) (va_up N2 i (Fq nb)) (ai2 + lw) (Lq nb) (by omega) (by omega) (by
                      intro j hj
                      rcases Nat.lt_or_ge j i with z | z
                      · rw [up_n _ _ (by omega)]; exact hO2 j z
                      · rw [show j = i by omega, up_s]; exact enb) (by
                      intro j hj
                      rcases Nat.lt_or_ge j i with z | z
                      · rw [up_n _ _ (by omega)]; exact hN2 j z
                      · rw [show j = i by omega, up_s, bgc, ← enb, ← hat]; unfold stt; rw [if_pos (by omega)]) (by rw [haw, hsc.2, ← stt_df, enb, hat]; rfl) (by
                      have e : (os Fq Lq nq (i + 1)).1 = en Fq Lq a nb := by rw [enb, hat]; rfl
                      rw [e]
                      unfold en
                      rw [if_pos (by omega)]) _ _ _ hP hD hS (lv_sub hl [3, 4, 1, 0] rfl)
            · skip
              refine lv_iconst (v := nI 0) hx hb dX5_findOrder_41 (by decide) ?_
              refine lv_istore (lv' := [(7, .int (nI 0)), (0, .ref m0), (1, .int (nI ly)), (2, .int (nI a)), (3, .int (nI i)), (4, .int (rI nb)), (5, .int (nI lw)), (6, .int (nI k))]) hx hb dX5_findOrder_42 hl (by decide) rfl (fun ls hl => ?_)
              refine lv_iconst (v := nI 0) hx hb dX5_findOrder_44 (by decide) ?_
              refine lv_istore (lv' := [(8, .int (nI 0)), (7, .int (nI 0)), (0, .ref m0), (1, .int (nI ly)), (2, .int (nI a)), (3, .int (nI i)), (4, .int (rI nb)), (5, .int (nI lw)), (6, .int (nI k))]) hx hb dX5_findOrder_45 hl (by decide) rfl (fun ls hl => ?_)
              have L47 : ∀ (n : Nat) (j : Nat) (ct : Nat), i - j < n → (j ≤ i) → (ct < 2) → (ct = 0 ↔ ∀ z, z < j → O2 z ≠ k) → ∀ (H : Heap) (locs : List Loc) (ls : Array Slot), va_P D vwCl [(m0, .inr (5, [.ref m1, .ref m2, .ref m3, .int (nI (G 0)), .int (nI (G 1)), .int (nI (G 2)), .int (nI (G 3)), .ref m4, .ref m5, .int (nI nq), .ref m6, .ref m7, .ref m8, .ref m9, .ref m10, .int (nI ai2)])), (m1, .inl (cI, 64, .inl (nF T))), (m2, .inl (cI, 64, .inl (nF U))), (m3, .inl (cZ, 64, .inl (nF B))), (m4, .inl (cI, 64, .inl (nF Wq))), (m5, .inl (cI, 64, .inl (nF Mq))), (m6, .inl (cI, 64, .inl (nF Fq))), (m7, .inl (cI, 64, .inl (nF Lq))), (m8, .inl (cI, 64, .inl (nF Zq))), (m9, .inl (cI, 64, .inl (nF O2))), (m10, .inl (cI, 64, .inl (nF N2)))] H → va_D A [(m0, .inr (5, [.ref m1, .ref m2, .ref m3, .int (nI (G 0)), .int (nI (G 1)), .int (nI (G 2)), .int (nI (G 3)), .ref m4, .ref m5, .int (nI nq), .ref m6, .ref m7, .ref m8, .ref m9, .ref m10, .int (nI ai2)])), (m1, .inl (cI, 64, .inl (nF T))), (m2, .inl (cI, 64, .inl (nF U))), (m3, .inl (cZ, 64, .inl (nF B))), (m4, .inl (cI, 64, .inl (nF Wq))), (m5, .inl (cI, 64, .inl (nF Mq))), (m6, .inl (cI, 64, .inl (nF Fq))), (m7, .inl (cI, 64, .inl (nF Lq))), (m8, .inl (cI, 64, .inl (nF Zq))), (m9, .inl (cI, 64, .inl (nF O2))), (m10, .inl (cI, 64, .inl (nF N2)))] → va_S A s.heap H locs → lv_has ls 9 [(0, .ref m0), (1, .int (nI ly)), (2, .int (nI a)), (3, .int (nI i)), (4, .int (rI nb)), (5, .int (nI lw)), (6, .int (nI k)), (7, .int (nI ct)), (8, .int (nI j))] → W pr l e ({ frames := 4, cells := 0, slots := 0, locals := 93 } : Room) s m args below meth c0 H locs 0 0 Q (F0 m 47 ls []) := by
                intro n
                induction n with
                | zero => intro j ct h0; exact absurd h0 (Nat.not_lt_zero _)
                | succ n ih47 =>
                  intro j ct hm47 hjj hct hcz H locs ls hP hD hS hl
                  refine lv_iload hx hb dX5_findOrder_47 (lv_at hl 8 rfl) ?_
                  refine lv_iload_n hx hb dX5_findOrder_49 rfl (lv_at hl 3 rfl) ?_
                  refine nv_icmp_ge (tgt := 83) hx hb dX5_findOrder_50 (by decide) (by omega) (by omega) (fun c_8 => ?_) (fun c_8 => ?_)
                  · skip
                    have hdn : ct = 0 ↔ (os Fq Lq nq i).2.1 k = 0 := by
                      rw [hcz, (osI hnp hFL i (by omega)).2.2.1 k]
                      constructor
                      · intro q z hz; rw [← hO2 z hz]; exact q z (by omega)
                      · intro q z hz; rw [hO2 z (by omega)]; exact q z (by omega)
                    have hfk := hFL k (by omega)
                    have ha64 : a < 64 := by rw [hat]; exact (osI hnp hFL i (by omega)).1
                    have fr1 := fr_le (a := a) (b := Fq k) ha64 hfk.1
                    have fr2 := fr_le (a := a) (b := Lq k) ha64 hfk.2
                    refine lv_iload_n hx hb dX5_findOrder_83 rfl (lv_at hl 2 rfl) ?_
                    refine lv_aload_n hx hb dX5_findOrder_84 rfl (lv_at hl 0 rfl) ?_
                    refine va_get (D := D) (ci := 5) (v := .ref m6) (C := RX5) (T := TX5) (N := 16) hx hb hts hinX5 hown hK hP 0 rfl rfl 10 (by decide) lk4 (fun _ h9 => h9) rfl dX5_findOrder_85 ?_
                    refine lv_iload hx hb dX5_findOrder_88 (lv_at hl 6 rfl) ?_
                    refine nv_iald hx hb hK hP 6 rfl (by omega) (by decide) dX5_findOrder_90 ?_
                    refine gcS (As := [.int (nI a), .int (nI (Fq k))]) (rest := []) ⟨hx, hb, hml, hown, hts⟩ (c_X5_far l a (Fq k) (by exact ha64) (by exact hfk.1)) (va_cwS 2 hts gX5_findOrder_X5_far rfl rfl rfl (by decide +kernel) ⟨Nat.le_of_ble_eq_true rfl, Nat.le_of_ble_eq_true rfl⟩) hl.1 rfl rfl (Nat.le_of_ble_eq_true rfl) ⟨Nat.zero_le _, Nat.zero_le _⟩ dX5_findOrder_91 ?_
                    refine lv_iload_n hx hb dX5_findOrder_94 rfl (lv_at hl 2 rfl) ?_
                    refine lv_aload_n hx hb dX5_findOrder_95 rfl (lv_at hl 0 rfl) ?_
                    refine va_get (D := D) (ci := 5) (v := .ref m7) (C := RX5) (T := TX5) (N := 16) hx hb hts hinX5 hown hK hP 0 rfl rfl 11 (by decide) lk5 (fun _ h9 => h9) rfl dX5_findOrder_96 ?_
                    refine lv_iload hx hb dX5_findOrder_99 (lv_at hl 6 rfl) ?_
                    refine nv_iald hx hb hK hP 7 rfl (by omega) (by decide) dX5_findOrder_101 ?_
                    refine gcS (As := [.int (nI a), .int (nI (Lq k))]) (rest := [.int (nI (fr a (Fq k)))]) ⟨hx, hb, hml, hown, hts⟩ (c_X5_far l a (Lq k) (by exact ha64) (by exact hfk.2)) (va_cwS 2 hts gX5_findOrder_X5_far rfl rfl rfl (by decide +kernel) ⟨Nat.le_of_ble_eq_true rfl, Nat.le_of_ble_eq_true rfl⟩) hl.1 rfl rfl (Nat.le_of_ble_eq_true rfl) ⟨Nat.zero_le _, Nat.zero_le _⟩ dX5_findOrder_102 ?_
                    refine gcS (As := [.int (nI (fr a (Fq k))), .int (nI (fr a (Lq k)))]) (rest := []) ⟨hx, hb, hml, hown, hts⟩ (c_X5_less l (fr a (Fq k)) (fr a (Lq k)) (by first | assumption | omega) (by first | assumption | omega)) (va_cwS 2 hts gX5_findOrder_X5_less rfl rfl rfl (by decide +kernel) ⟨Nat.le_of_ble_eq_true rfl, Nat.le_of_ble_eq_true rfl⟩) hl.1 rfl rfl (Nat.le_of_ble_eq_true rfl) ⟨Nat.zero_le _, Nat.zero_le _⟩ dX5_findOrder_105 ?_
                    refine lv_istore (lv' := [(8, .int (nI (min (fr a (Fq k)) (fr a (Lq k))))), (0, .ref m0), (1, .int (nI ly)), (2, .int (nI a)), (3, .int (nI i)), (4, .int (rI nb)), (5, .int (nI lw)), (6, .int (nI k)), (7, .int (nI ct))]) hx hb dX5_findOrder_108 hl (by decide) rfl (fun ls hl => ?_)
                    refine lv_iload hx hb dX5_findOrder_110 (lv_at hl 8 rfl) ?_
                    refine nv_if_ne (tgt := 130) hx hb dX5_findOrder_112 (by decide) (by omega) (fun c_9 => ?_) (fun c_9 => ?_)
                    · skip
                      refine lv_iinc (v := nI (k + 1)) (lv' := [(6, .int (nI (k + 1))), (8, .int (nI (min (fr a (Fq k)) (fr a (Lq k))))), (0, .ref m0), (1, .int (nI ly)), (2, .int (nI a)), (3, .int (nI i)), (4, .int (rI nb)), (5, .int (nI lw)), (7, .int (nI ct))]) hx hb dX5_findOrder_130 hl (k := 7) rfl (by exact nI_add _ 1) (by decide) rfl (fun ls hl => ?_)
                      refine lv_goto (tgt := 32) hx hb dX5_findOrder_133 (by decide) ?_
                      exact ih32 (k + 1) nb lw (by omega) (by omega) (by rw [sc, hs, if_neg (fun q => c_9 (hdn.mpr q.1))]) hlw hnb _ _ _ hP hD hS (lv_sub hl [2, 3, 4, 5, 6, 7, 0] rfl)
                    · skip
                      refine lv_iload hx hb dX5_findOrder_115 (lv_at hl 0 rfl) ?_
                      refine lv_iload hx hb dX5_findOrder_117 (lv_at hl 6 rfl) ?_
                      refine nv_icmp_ge (tgt := 130) hx hb dX5_findOrder_119 (by decide) (by omega) (by omega) (fun c_10 => ?_) (fun c_10 => ?_)
                      · skip
                        refine lv_iinc (v := nI (k + 1)) (lv' := [(6, .int (nI (k + 1))), (8, .int (nI (min (fr a (Fq k)) (fr a (Lq k))))), (0, .ref m0), (1, .int (nI ly)), (2, .int (nI a)), (3, .int (nI i)), (4, .int (rI nb)), (5, .int (nI lw)), (7, .int (nI ct))]) hx hb dX5_findOrder_130 hl (k := 7) rfl (by exact nI_add _ 1) (by decide) rfl (fun ls hl => ?_)
                        refine lv_goto (tgt := 32) hx hb dX5_findOrder_133 (by decide) ?_
                        exact ih32 (k + 1) nb lw (by omega) (by omega) (by rw [sc, hs, if_neg (fun q => by have := q.2; unfold dfn at this; omega)]) hlw hnb _ _ _ hP hD hS (lv_sub hl [2, 3, 4, 5, 6, 7, 0] rfl)
                      · skip
                        refine lv_iload hx hb dX5_findOrder_122 (lv_at hl 0 rfl) ?_
                        refine lv_istore (lv' := [(5, .int (nI (min (fr a (Fq k)) (fr a (Lq k))))), (8, .int (nI (min (fr a (Fq k)) (fr a (Lq k))))), (0, .ref m0), (1, .int (nI ly)), (2, .int (nI a)), (3, .int (nI i)), (4, .int (rI nb)), (6, .int (nI k)), (7, .int (nI ct))]) hx hb dX5_findOrder_124 hl (by decide) rfl (fun ls hl => ?_)
                        refine lv_iload hx hb dX5_findOrder_126 (lv_at hl 7 rfl) ?_
                        refine lv_istore (lv' := [(4, .int (nI k)), (5, .int (nI (min (fr a (Fq k)) (fr a (Lq k))))), (8, .int (nI (min (fr a (Fq k)) (fr a (Lq k))))), (0, .ref m0), (1, .int (nI ly)), (2, .int (nI a)), (3, .int (nI i)), (6, .int (nI k)), (7, .int (nI ct))]) hx hb dX5_findOrder_128 hl (by decide) rfl (fun ls hl => ?_)
                        refine lv_iinc (v := nI (k + 1)) (lv' := [(6, .int (nI (k + 1))), (4, .int (nI k)), (5, .int (nI (min (fr a (Fq k)) (fr a (Lq k))))), (8, .int (nI (min (fr a (Fq k)) (fr a (Lq k))))), (0, .ref m0), (1, .int (nI ly)), (2, .int (nI a)), (3, .int (nI i)), (7, .int (nI ct))]) hx hb dX5_findOrder_130 hl (k := 7) rfl (by exact nI_add _ 1) (by decide) rfl (fun ls hl => ?_)
                        refine lv_goto (tgt := 32) hx hb dX5_findOrder_133 (by decide) ?_
                        exact ih32 (k + 1) k (min (fr a (Fq k)) (fr a (Lq k))) (by omega) (by omega) (by rw [sc, hs, if_pos ⟨hdn.mp c_9, by unfold dfn; omega⟩]; rfl) (by omega) (by omega) _ _ _ hP hD hS (lv_sub hl [4, 5, 6, 7, 1, 2, 0] (by rw [rI_some (show ¬ k = 64 by omega)]; rfl))
                  · skip
                    refine lv_iload hx hb dX5_findOrder_53 (lv_at hl 7 rfl) ?_
                    refine nv_if_ne (tgt := 70) hx hb dX5_findOrder_55 (by decide) (by omega) (fun c_11 => ?_) (fun c_11 => ?_)
                    · skip
                      refine lv_iconst (v := nI 1) hx hb dX5_findOrder_70 (by decide) ?_
                      refine lv_goto (tgt := 75) hx hb dX5_findOrder_71 (by decide) ?_
                      refine lv_istore (lv' := [(7, .int (nI 1)), (0, .ref m0), (1, .int (nI ly)), (2, .int (nI a)), (3, .int (nI i)), (4, .int (rI nb)), (5, .int (nI lw)), (6, .int (nI k)), (8, .int (nI j))]) hx hb dX5_findOrder_75 hl (by decide) rfl (fun ls hl => ?_)
                      refine lv_iinc (v := nI (j + 1)) (lv' := [(8, .int (nI (j + 1))), (7, .int (nI 1)), (0, .ref m0), (1, .int (nI ly)), (2, .int (nI a)), (3, .int (nI i)), (4, .int (rI nb)), (5, .int (nI lw)), (6, .int (nI k))]) hx hb dX5_findOrder_77 hl (k := 8) rfl (by exact nI_add _ 1) (by decide) rfl (fun ls hl => ?_)
                      refine lv_goto (tgt := 47) hx hb dX5_findOrder_80 (by decide) ?_
                      exact ih47 (j + 1) 1 (by omega) (by omega) (by omega) (by constructor; intro q; omega; intro q; exact absurd (hcz.mpr (fun z hz => q z (by omega))) c_11) _ _ _ hP hD hS (lv_sub hl [2, 3, 4, 5, 6, 7, 8, 1, 0] rfl)
                    · skip
                      refine lv_aload_n hx hb dX5_findOrder_58 rfl (lv_at hl 0 rfl) ?_
                      refine va_get (D := D) (ci := 5) (v := .ref m9) (C := RX5) (T := TX5) (N := 16) hx hb hts hinX5 hown hK hP 0 rfl rfl 13 (by decide) lk3 (fun _ h9 => h9) rfl dX5_findOrder_59 ?_
                      refine lv_iload hx hb dX5_findOrder_62 (lv_at hl 8 rfl) ?_
                      refine nv_iald hx hb hK hP 9 rfl (by omega) (by decide) dX5_findOrder_64 ?_
                      refine lv_iload hx hb dX5_findOrder_65 (lv_at hl 6 rfl) ?_
                      refine nv_icmp_ne (tgt := 74) hx hb dX5_findOrder_67 (by decide) (by have := hO2 j (by omega); have := (osI hnp hFL i (by omega)).2.2.2.1 j (by omega); omega) (by have := hO2 j (by omega); have := (osI hnp hFL i (by omega)).2.2.2.1 j (by omega); omega) (fun c_12 => ?_) (fun c_12 => ?_)
                      · skip
                        refine lv_iconst (v := nI 0) hx hb dX5_findOrder_74 (by decide) ?_
                        refine lv_istore (lv' := [(7, .int (nI 0)), (0, .ref m0), (1, .int (nI ly)), (2, .int (nI a)), (3, .int (nI i)), (4, .int (rI nb)), (5, .int (nI lw)), (6, .int (nI k)), (8, .int (nI j))]) hx hb dX5_findOrder_75 hl (by decide) rfl (fun ls hl => ?_)
                        refine lv_iinc (v := nI (j + 1)) (lv' := [(8, .int (nI (j + 1))), (7, .int (nI 0)), (0, .ref m0), (1, .int (nI ly)), (2, .int (nI a)), (3, .int (nI i)), (4, .int (rI nb)), (5, .int (nI lw)), (6, .int (nI k))]) hx hb dX5_findOrder_77 hl (k := 8) rfl (by exact nI_add _ 1) (by decide) rfl (fun ls hl => ?_)
                        refine lv_goto (tgt := 47) hx hb dX5_findOrder_80 (by decide) ?_
                        exact ih47 (j + 1) 0 (by omega) (by omega) (by omega) (by constructor; intro _ z hz; rcases Nat.lt_or_ge z j with r | r; exact (hcz.mp c_11) z r; rw [show z = j by omega]; exact c_12; intro _; rfl) _ _ _ hP hD hS (lv_sub hl [2, 3, 4, 5, 6, 7, 8, 1, 0] rfl)
                      · skip
                        refine lv_iconst (v := nI 1) hx hb dX5_findOrder_70 (by decide) ?_
                        refine lv_goto (tgt := 75) hx hb dX5_findOrder_71 (by decide) ?_
                        refine lv_istore (lv' := [(7, .int (nI 1)), (0, .ref m0), (1, .int (nI ly)), (2, .int (nI a)), (3, .int (nI i)), (4, .int (rI nb)), (5, .int (nI lw)), (6, .int (nI k)), (8, .int (nI j))]) hx hb dX5_findOrder_75 hl (by decide) rfl (fun ls hl => ?_)
                        refine lv_iinc (v := nI (j + 1)) (lv' := [(8, .int (nI (j + 1))), (7, .int (nI 1)), (0, .ref m0), (1, .int (nI ly)), (2, .int (nI a)), (3, .int (nI i)), (4, .int (rI nb)), (5, .int (nI lw)), (6, .int (nI k))]) hx hb dX5_findOrder_77 hl (k := 8) rfl (by exact nI_add _ 1) (by decide) rfl (fun ls hl => ?_)
                        refine lv_goto (tgt := 47) hx hb dX5_findOrder_80 (by decide) ?_
                        exact ih47 (j + 1) 1 (by omega) (by omega) (by omega) (by constructor; intro q; omega; intro q; exact absurd c_12 (q j (by omega))) _ _ _ hP hD hS (lv_sub hl [2, 3, 4, 5, 6, 7, 8, 1, 0] rfl)
              exact L47 (i + 1) 0 0 (by omega) (by omega) (by omega) ⟨fun _ z hz => absurd hz (by omega), fun _ => rfl⟩ _ _ _ hP hD hS (lv_sub hl [2, 3, 4, 5, 6, 7, 8, 1, 0] rfl)
        exact L32 (nq + 1) 0 64 100 (by omega) (by omega) rfl (by omega) (by omega) _ _ _ hP hD hS (lv_sub hl [3, 4, 5, 6, 2, 1, 0] rfl)
  exact L14 (nq + 1) 0 Om Nm 0 0 (by omega) (by omega) (fun j hj => absurd hj (by omega)) (fun j hj => absurd hj (by omega)) rfl rfl _ _ _ hP hD hS (lv_sub hl [2, 3, 1, 0] rfl)

set_option maxHeartbeats 4000000 in
set_option maxRecDepth 100000 in
theorem c_X5_width (l : Launch) (D : va_G) (cI cZ : ClassId) (tt : Nat → Nat) (sz : Nat) (m0 m1 m2 m3 m4 m5 m6 m7 m8 m9 m10 : Nat) (np ai : Nat) (T U B G Wm M F L Z Om Nm : Nat → Nat) (x y ly : Int32) (hT : ∀ k, T k ≤ 100) (hU : ∀ k, U k < 8) (hGs : ∀ k, G k ≤ 100) : MI l yX5_width wsX5_width ({ frames := 4, cells := 0, slots := 0, locals := 93 } : Room) D cI cZ tt [.ref m0, .int (x), .int (y), .int (ly)] [(m0, .inr (5, [.ref m1, .ref m2, .ref m3, .int (nI (G 0)), .int (nI (G 1)), .int (nI (G 2)), .int (nI (G 3)), .ref m4, .ref m5, .int (nI np), .ref m6, .ref m7, .ref m8, .ref m9, .ref m10, .int (nI ai)])), (m1, .inl (cI, 64, .inl (nF T))), (m2, .inl (cI, 64, .inl (nF U))), (m3, .inl (cZ, 64, .inl (nF B))), (m4, .inl (cI, 64, .inl (nF Wm))), (m5, .inl (cI, 64, .inl (nF M))), (m6, .inl (cI, 64, .inl (nF F))), (m7, .inl (cI, 64, .inl (nF L))), (m8, .inl (cI, 64, .inl (nF Z))), (m9, .inl (cI, 64, .inl (nF Om))), (m10, .inl (cI, 64, .inl (nF Nm)))] sz (fun (r : Int32) (u : (Nat → Nat) × (Nat → Nat) × (Nat → Nat) × (Nat → Nat) × (Nat → Nat) × (Nat)) => r = aWidth G T U x y ly) (fun (u : (Nat → Nat) × (Nat → Nat) × (Nat → Nat) × (Nat → Nat) × (Nat → Nat) × (Nat)) => [(m0, .inr (5, [.ref m1, .ref m2, .ref m3, .int (nI (G 0)), .int (nI (G 1)), .int (nI (G 2)), .int (nI (G 3)), .ref m4, .ref m5, .int (nI u.2.2.2.2.2), .ref m6, .ref m7, .ref m8, .ref m9, .ref m10, .int (nI ai)])), (m1, .inl (cI, 64, .inl (nF T))), (m2, .inl (cI, 64, .inl (nF U))), (m3, .inl (cZ, 64, .inl (nF B))), (m4, .inl (cI, 64, .inl (nF u.1))), (m5, .inl (cI, 64, .inl (nF u.2.1))), (m6, .inl (cI, 64, .inl (nF u.2.2.1))), (m7, .inl (cI, 64, .inl (nF u.2.2.2.1))), (m8, .inl (cI, 64, .inl (nF u.2.2.2.2.1))), (m9, .inl (cI, 64, .inl (nF Om))), (m10, .inl (cI, 64, .inl (nF Nm)))]) := by
  refine entI (cc := cX5_width) 4 (by decide) rfl (Nat.le_of_ble_eq_true rfl) (Or.inl rfl) (fun pr e s m args below meth c0 A Q H ls hx hb hml hown hts hsz hA hP hK hD hS hG hret hl => ?_)
  have hown : s.vm.findClass RX5 = some m.cls := hown
  have lk1 := hts (.fieldLink RX5 36 "BurinLinesModel" "made" "[I") (by decide +kernel)
  have hinX5 : ∀ w ∈ wsX50, w ∈ wsX5_width := by decide +kernel
  have hl : lv_has ls 4 [(0, .ref m0), (1, .int (x)), (2, .int (y)), (3, .int (ly))] := hl
  refine lv_iload_n hx hb dX5_width_0 rfl (lv_at hl 1 rfl) ?_
  refine lv_iload_n hx hb dX5_width_1 rfl (lv_at hl 2 rfl) ?_
  refine gcS (As := [.int (x), .int (y)]) (rest := []) ⟨hx, hb, hml, hown, hts⟩ (c_X5_isCell l x y ) (va_cwS 2 hts gX5_width_X5_isCell rfl rfl rfl (by decide +kernel) ⟨Nat.le_of_ble_eq_true rfl, Nat.le_of_ble_eq_true rfl⟩) hl.1 rfl rfl (Nat.le_of_ble_eq_true rfl) ⟨Nat.zero_le _, Nat.zero_le _⟩ dX5_width_2 ?_
  refine nv_ifb_eq (tgt := 15) hx hb dX5_width_5 (by decide) (fun c_1 => ?_) (fun c_1 => ?_)
  · skip
    have nok : ¬ (okc x y ∧ okl ly) := fun q => c_1 q.1
    refine lv_bipush (v := (-2)) hx hb dX5_width_15 (by decide) ?_
    exact hret _ (Wm, M, F, L, Z, np) _ _ _ _ dX5_width_17 (by unfold aWidth; rw [if_neg nok]) hP hD hS
  · skip
    obtain ⟨a, b, ha8, hb8, rfl, rfl⟩ := okc_nat c_1
    refine lv_iload_n hx hb dX5_width_8 rfl (lv_at hl 3 rfl) ?_
    refine gcS (As := [.int (ly)]) (rest := []) ⟨hx, hb, hml, hown, hts⟩ (c_X5_isLayer l ly ) (va_cwS 1 hts gX5_width_X5_isLayer rfl rfl rfl (by decide +kernel) ⟨Nat.le_of_ble_eq_true rfl, Nat.le_of_ble_eq_true rfl⟩) hl.1 rfl rfl (Nat.le_of_ble_eq_true rfl) ⟨Nat.zero_le _, Nat.zero_le _⟩ dX5_width_9 ?_
    refine nv_ifb_ne (tgt := 18) hx hb dX5_width_12 (by decide) (fun c_2 => ?_) (fun c_2 => ?_)
    · skip
      rcases c_2 with hL | hL
      · skip
        obtain rfl : ly = nI 0 := hL.trans nI_0.symm
        refine lv_aload_n hx hb dX5_width_18 rfl (lv_at hl 0 rfl) ?_
        refine lv_iload_n hx hb dX5_width_19 rfl (lv_at hl 3 rfl) ?_
        refine gcVv (ws' := fun (u : (Nat → Nat) × (Nat → Nat) × (Nat → Nat) × (Nat → Nat) × (Nat → Nat) × (Nat)) => [(m0, .inr (5, [.ref m1, .ref m2, .ref m3, .int (nI (G 0)), .int (nI (G 1)), .int (nI (G 2)), .int (nI (G 3)), .ref m4, .ref m5, .int (nI u.2.2.2.2.2), .ref m6, .ref m7, .ref m8, .ref m9, .ref m10, .int (nI ai)])), (m1, .inl (cI, 64, .inl (nF T))), (m2, .inl (cI, 64, .inl (nF U))), (m3, .inl (cZ, 64, .inl (nF B))), (m4, .inl (cI, 64, .inl (nF u.1))), (m5, .inl (cI, 64, .inl (nF u.2.1))), (m6, .inl (cI, 64, .inl (nF u.2.2.1))), (m7, .inl (cI, 64, .inl (nF u.2.2.2.1))), (m8, .inl (cI, 64, .inl (nF u.2.2.2.2.1))), (m9, .inl (cI, 64, .inl (nF Om))), (m10, .inl (cI, 64, .inl (nF Nm)))]) (wr := []) (ci := 5) (q0 := 0) (As := [.int (nI 0)]) (rest := []) ⟨hx, hb, hml, hown, hts⟩ (c_X5_findLayer l D cI cZ tt H.size m0 m1 m2 m3 m4 m5 m6 m7 m8 m9 m10 np ai T U B G Wm M F L Z Om Nm 0 (by first | assumption | omega) (by first | assumption | omega) (by first | assumption | omega) (by first | assumption | omega)) (cwV 1 hts gX5_width_X5_findLayer rfl rfl rfl (by decide +kernel) ⟨Nat.le_of_ble_eq_true rfl, Nat.le_of_ble_eq_true rfl⟩) hP hK hD hS hA hG rfl rfl [0, 1, 2, 3, 4, 5, 6, 7, 8, 9, 10] [] [0, 1, 2, 3, 4, 5, 6, 7, 8, 9, 10] (by decide) rfl rfl (by decide) (by decide) (by decide) (fun _ => rfl) hl.1 rfl rfl (Nat.le_of_ble_eq_true rfl) ⟨Nat.zero_le _, Nat.zero_le _⟩ dX5_width_20 (fun  u H locs hp hP hD hS => ?_)
        obtain ⟨Wq, Mq, Fq, Lq, Zq, nq⟩ := u
        obtain ⟨hLDq, hnDq, hWq⟩ := hp
        have hLDq : LD (pW G T 0) (pY U 0) (G 3) Mq Fq Lq Zq := hLDq
        have hnDq : nq = npf G T U 0 := hnDq
        have hWq : ∀ k, k < 64 → Wq k = pW G T 0 k := hWq
        have hP : va_P D vwCl [(m0, .inr (5, [.ref m1, .ref m2, .ref m3, .int (nI (G 0)), .int (nI (G 1)), .int (nI (G 2)), .int (nI (G 3)), .ref m4, .ref m5, .int (nI nq), .ref m6, .ref m7, .ref m8, .ref m9, .ref m10, .int (nI ai)])), (m1, .inl (cI, 64, .inl (nF T))), (m2, .inl (cI, 64, .inl (nF U))), (m3, .inl (cZ, 64, .inl (nF B))), (m4, .inl (cI, 64, .inl (nF Wq))), (m5, .inl (cI, 64, .inl (nF Mq))), (m6, .inl (cI, 64, .inl (nF Fq))), (m7, .inl (cI, 64, .inl (nF Lq))), (m8, .inl (cI, 64, .inl (nF Zq))), (m9, .inl (cI, 64, .inl (nF Om))), (m10, .inl (cI, 64, .inl (nF Nm)))] H := hP
        have hD : va_D A [(m0, .inr (5, [.ref m1, .ref m2, .ref m3, .int (nI (G 0)), .int (nI (G 1)), .int (nI (G 2)), .int (nI (G 3)), .ref m4, .ref m5, .int (nI nq), .ref m6, .ref m7, .ref m8, .ref m9, .ref m10, .int (nI ai)])), (m1, .inl (cI, 64, .inl (nF T))), (m2, .inl (cI, 64, .inl (nF U))), (m3, .inl (cZ, 64, .inl (nF B))), (m4, .inl (cI, 64, .inl (nF Wq))), (m5, .inl (cI, 64, .inl (nF Mq))), (m6, .inl (cI, 64, .inl (nF Fq))), (m7, .inl (cI, 64, .inl (nF Lq))), (m8, .inl (cI, 64, .inl (nF Zq))), (m9, .inl (cI, 64, .inl (nF Om))), (m10, .inl (cI, 64, .inl (nF Nm)))] := hD
        refine lv_aload_n hx hb dX5_width_23 rfl (lv_at hl 0 rfl) ?_
        refine va_get (D := D) (ci := 5) (v := .ref m5) (C := RX5) (T := TX5) (N := 16) hx hb hts hinX5 hown hK hP 0 rfl rfl 8 (by decide) lk1 (fun _ h9 => h9) rfl dX5_width_24 ?_
        refine lv_bipush (v := nI 8) hx hb dX5_width_27 (by decide) ?_
        refine lv_iload_n hx hb dX5_width_29 rfl (lv_at hl 2 rfl) ?_
        refine nv_imul hx hb dX5_width_30 ?_
        refine lv_iload_n hx hb dX5_width_31 rfl (lv_at hl 1 rfl) ?_
        refine nv_iadd hx hb dX5_width_32 ?_
        refine nv_iald hx hb hK hP 5 rfl (by omega) (by decide) dX5_width_33 ?_
        exact hret _ (Wq, Mq, Fq, Lq, Zq, nq) _ _ _ _ dX5_width_34 (by unfold aWidth; rw [if_pos ⟨okc_of ha8 hb8, Or.inl nI_0⟩, ci_n ha8 hb8, show (nI 0).toNatClampNeg = 0 from rfl, ← WV_eq hLDq (by omega)]) hP hD hS
      · skip
        obtain rfl : ly = nI 1 := hL
        refine lv_aload_n hx hb dX5_width_18 rfl (lv_at hl 0 rfl) ?_
        refine lv_iload_n hx hb dX5_width_19 rfl (lv_at hl 3 rfl) ?_
        refine gcVv (ws' := fun (u : (Nat → Nat) × (Nat → Nat) × (Nat → Nat) × (Nat → Nat) × (Nat → Nat) × (Nat)) => [(m0, .inr (5, [.ref m1, .ref m2, .ref m3, .int (nI (G 0)), .int (nI (G 1)), .int (nI (G 2)), .int (nI (G 3)), .ref m4, .ref m5, .int (nI u.2.2.2.2.2), .ref m6, .ref m7, .ref m8, .ref m9, .ref m10, .int (nI ai)])), (m1, .inl (cI, 64, .inl (nF T))), (m2, .inl (cI, 64, .inl (nF U))), (m3, .inl (cZ, 64, .inl (nF B))), (m4, .inl (cI, 64, .inl (nF u.1))), (m5, .inl (cI, 64, .inl (nF u.2.1))), (m6, .inl (cI, 64, .inl (nF u.2.2.1))), (m7, .inl (cI, 64, .inl (nF u.2.2.2.1))), (m8, .inl (cI, 64, .inl (nF u.2.2.2.2.1))), (m9, .inl (cI, 64, .inl (nF Om))), (m10, .inl (cI, 64, .inl (nF Nm)))]) (wr := []) (ci := 5) (q0 := 0) (As := [.int (nI 1)]) (rest := []) ⟨hx, hb, hml, hown, hts⟩ (c_X5_findLayer l D cI cZ tt H.size m0 m1 m2 m3 m4 m5 m6 m7 m8 m9 m10 np ai T U B G Wm M F L Z Om Nm 1 (by first | assumption | omega) (by first | assumption | omega) (by first | assumption | omega) (by first | assumption | omega)) (cwV 1 hts gX5_width_X5_findLayer rfl rfl rfl (by decide +kernel) ⟨Nat.le_of_ble_eq_true rfl, Nat.le_of_ble_eq_true rfl⟩) hP hK hD hS hA hG rfl rfl [0, 1, 2, 3, 4, 5, 6, 7, 8, 9, 10] [] [0, 1, 2, 3, 4, 5, 6, 7, 8, 9, 10] (by decide) rfl rfl (by decide) (by decide) (by decide) (fun _ => rfl) hl.1 rfl rfl (Nat.le_of_ble_eq_true rfl) ⟨Nat.zero_le _, Nat.zero_le _⟩ dX5_width_20 (fun  u H locs hp hP hD hS => ?_)
        obtain ⟨Wq, Mq, Fq, Lq, Zq, nq⟩ := u
        obtain ⟨hLDq, hnDq, hWq⟩ := hp
        have hLDq : LD (pW G T 1) (pY U 1) (G 3) Mq Fq Lq Zq := hLDq
        have hnDq : nq = npf G T U 1 := hnDq
        have hWq : ∀ k, k < 64 → Wq k = pW G T 1 k := hWq
        have hP : va_P D vwCl [(m0, .inr (5, [.ref m1, .ref m2, .ref m3, .int (nI (G 0)), .int (nI (G 1)), .int (nI (G 2)), .int (nI (G 3)), .ref m4, .ref m5, .int (nI nq), .ref m6, .ref m7, .ref m8, .ref m9, .ref m10, .int (nI ai)])), (m1, .inl (cI, 64, .inl (nF T))), (m2, .inl (cI, 64, .inl (nF U))), (m3, .inl (cZ, 64, .inl (nF B))), (m4, .inl (cI, 64, .inl (nF Wq))), (m5, .inl (cI, 64, .inl (nF Mq))), (m6, .inl (cI, 64, .inl (nF Fq))), (m7, .inl (cI, 64, .inl (nF Lq))), (m8, .inl (cI, 64, .inl (nF Zq))), (m9, .inl (cI, 64, .inl (nF Om))), (m10, .inl (cI, 64, .inl (nF Nm)))] H := hP
        have hD : va_D A [(m0, .inr (5, [.ref m1, .ref m2, .ref m3, .int (nI (G 0)), .int (nI (G 1)), .int (nI (G 2)), .int (nI (G 3)), .ref m4, .ref m5, .int (nI nq), .ref m6, .ref m7, .ref m8, .ref m9, .ref m10, .int (nI ai)])), (m1, .inl (cI, 64, .inl (nF T))), (m2, .inl (cI, 64, .inl (nF U))), (m3, .inl (cZ, 64, .inl (nF B))), (m4, .inl (cI, 64, .inl (nF Wq))), (m5, .inl (cI, 64, .inl (nF Mq))), (m6, .inl (cI, 64, .inl (nF Fq))), (m7, .inl (cI, 64, .inl (nF Lq))), (m8, .inl (cI, 64, .inl (nF Zq))), (m9, .inl (cI, 64, .inl (nF Om))), (m10, .inl (cI, 64, .inl (nF Nm)))] := hD
        refine lv_aload_n hx hb dX5_width_23 rfl (lv_at hl 0 rfl) ?_
        refine va_get (D := D) (ci := 5) (v := .ref m5) (C := RX5) (T := TX5) (N := 16) hx hb hts hinX5 hown hK hP 0 rfl rfl 8 (by decide) lk1 (fun _ h9 => h9) rfl dX5_width_24 ?_
        refine lv_bipush (v := nI 8) hx hb dX5_width_27 (by decide) ?_
        refine lv_iload_n hx hb dX5_width_29 rfl (lv_at hl 2 rfl) ?_
        refine nv_imul hx hb dX5_width_30 ?_
        refine lv_iload_n hx hb dX5_width_31 rfl (lv_at hl 1 rfl) ?_
        refine nv_iadd hx hb dX5_width_32 ?_
        refine nv_iald hx hb hK hP 5 rfl (by omega) (by decide) dX5_width_33 ?_
        exact hret _ (Wq, Mq, Fq, Lq, Zq, nq) _ _ _ _ dX5_width_34 (by unfold aWidth; rw [if_pos ⟨okc_of ha8 hb8, Or.inr rfl⟩, ci_n ha8 hb8, show (nI 1).toNatClampNeg = 1 from rfl, ← WV_eq hLDq (by omega)]) hP hD hS
    · skip
      have nok : ¬ (okc (nI a) (nI b) ∧ okl ly) := fun q => c_2 q.2
      refine lv_bipush (v := (-2)) hx hb dX5_width_15 (by decide) ?_
      exact hret _ (Wm, M, F, L, Z, np) _ _ _ _ dX5_width_17 (by unfold aWidth; rw [if_neg nok]) hP hD hS

set_option maxHeartbeats 4000000 in
set_option maxRecDepth 100000 in
theorem c_X5_made (l : Launch) (D : va_G) (cI cZ : ClassId) (tt : Nat → Nat) (sz : Nat) (m0 m1 m2 m3 m4 m5 m6 m7 m8 m9 m10 : Nat) (np ai : Nat) (T U B G Wm M F L Z Om Nm : Nat → Nat) (x y : Int32) (hT : ∀ k, T k ≤ 100) (hU : ∀ k, U k < 8) (hGs : ∀ k, G k ≤ 100) (hG4 : 4 ≤ G 0) : MI l yX5_made wsX5_made ({ frames := 4, cells := 0, slots := 0, locals := 93 } : Room) D cI cZ tt [.ref m0, .int (x), .int (y)] [(m0, .inr (5, [.ref m1, .ref m2, .ref m3, .int (nI (G 0)), .int (nI (G 1)), .int (nI (G 2)), .int (nI (G 3)), .ref m4, .ref m5, .int (nI np), .ref m6, .ref m7, .ref m8, .ref m9, .ref m10, .int (nI ai)])), (m1, .inl (cI, 64, .inl (nF T))), (m2, .inl (cI, 64, .inl (nF U))), (m3, .inl (cZ, 64, .inl (nF B))), (m4, .inl (cI, 64, .inl (nF Wm))), (m5, .inl (cI, 64, .inl (nF M))), (m6, .inl (cI, 64, .inl (nF F))), (m7, .inl (cI, 64, .inl (nF L))), (m8, .inl (cI, 64, .inl (nF Z))), (m9, .inl (cI, 64, .inl (nF Om))), (m10, .inl (cI, 64, .inl (nF Nm)))] sz (fun (r : Int32) (u : (Nat → Nat) × (Nat → Nat) × (Nat → Nat) × (Nat → Nat) × (Nat → Nat) × (Nat)) => r = aMade G T U x y) (fun (u : (Nat → Nat) × (Nat → Nat) × (Nat → Nat) × (Nat → Nat) × (Nat → Nat) × (Nat)) => [(m0, .inr (5, [.ref m1, .ref m2, .ref m3, .int (nI (G 0)), .int (nI (G 1)), .int (nI (G 2)), .int (nI (G 3)), .ref m4, .ref m5, .int (nI u.2.2.2.2.2), .ref m6, .ref m7, .ref m8, .ref m9, .ref m10, .int (nI ai)])), (m1, .inl (cI, 64, .inl (nF T))), (m2, .inl (cI, 64, .inl (nF U))), (m3, .inl (cZ, 64, .inl (nF B))), (m4, .inl (cI, 64, .inl (nF u.1))), (m5, .inl (cI, 64, .inl (nF u.2.1))), (m6, .inl (cI, 64, .inl (nF u.2.2.1))), (m7, .inl (cI, 64, .inl (nF u.2.2.2.1))), (m8, .inl (cI, 64, .inl (nF u.2.2.2.2.1))), (m9, .inl (cI, 64, .inl (nF Om))), (m10, .inl (cI, 64, .inl (nF Nm)))]) := by
  refine entI (cc := cX5_made) 4 (by decide) rfl (Nat.le_of_ble_eq_true rfl) (Or.inl rfl) (fun pr e s m args below meth c0 A Q H ls hx hb hml hown hts hsz hA hP hK hD hS hG hret hl => ?_)
  have hown : s.vm.findClass RX5 = some m.cls := hown
  have lk1 := hts (.fieldLink RX5 36 "BurinLinesModel" "made" "[I") (by decide +kernel)
  have lk2 := hts (.fieldLink RX5 20 "BurinLinesModel" "apart" "I") (by decide +kernel)
  have hinX5 : ∀ w ∈ wsX50, w ∈ wsX5_made := by decide +kernel
  have hl : lv_has ls 4 [(0, .ref m0), (1, .int (x)), (2, .int (y))] := hl
  refine lv_iload_n hx hb dX5_made_0 rfl (lv_at hl 1 rfl) ?_
  refine lv_iload_n hx hb dX5_made_1 rfl (lv_at hl 2 rfl) ?_
  refine gcS (As := [.int (x), .int (y)]) (rest := []) ⟨hx, hb, hml, hown, hts⟩ (c_X5_isCell l x y ) (va_cwS 2 hts gX5_made_X5_isCell rfl rfl rfl (by decide +kernel) ⟨Nat.le_of_ble_eq_true rfl, Nat.le_of_ble_eq_true rfl⟩) hl.1 rfl rfl (Nat.le_of_ble_eq_true rfl) ⟨Nat.zero_le _, Nat.zero_le _⟩ dX5_made_2 ?_
  refine nv_ifb_ne (tgt := 11) hx hb dX5_made_5 (by decide) (fun c_1 => ?_) (fun c_1 => ?_)
  · skip
    obtain ⟨a, b, ha8, hb8, rfl, rfl⟩ := okc_nat c_1
    refine lv_aload_n hx hb dX5_made_11 rfl (lv_at hl 0 rfl) ?_
    refine lv_iconst (v := nI 0) hx hb dX5_made_12 (by decide) ?_
    refine gcVv (ws' := fun (u : (Nat → Nat) × (Nat → Nat) × (Nat → Nat) × (Nat → Nat) × (Nat → Nat) × (Nat)) => [(m0, .inr (5, [.ref m1, .ref m2, .ref m3, .int (nI (G 0)), .int (nI (G 1)), .int (nI (G 2)), .int (nI (G 3)), .ref m4, .ref m5, .int (nI u.2.2.2.2.2), .ref m6, .ref m7, .ref m8, .ref m9, .ref m10, .int (nI ai)])), (m1, .inl (cI, 64, .inl (nF T))), (m2, .inl (cI, 64, .inl (nF U))), (m3, .inl (cZ, 64, .inl (nF B))), (m4, .inl (cI, 64, .inl (nF u.1))), (m5, .inl (cI, 64, .inl (nF u.2.1))), (m6, .inl (cI, 64, .inl (nF u.2.2.1))), (m7, .inl (cI, 64, .inl (nF u.2.2.2.1))), (m8, .inl (cI, 64, .inl (nF u.2.2.2.2.1))), (m9, .inl (cI, 64, .inl (nF Om))), (m10, .inl (cI, 64, .inl (nF Nm)))]) (wr := []) (ci := 5) (q0 := 0) (As := [.int (nI 0)]) (rest := []) ⟨hx, hb, hml, hown, hts⟩ (c_X5_findLayer l D cI cZ tt H.size m0 m1 m2 m3 m4 m5 m6 m7 m8 m9 m10 np ai T U B G Wm M F L Z Om Nm 0 (by first | assumption | omega) (by first | assumption | omega) (by first | assumption | omega) (by first | assumption | omega)) (cwV 1 hts gX5_made_X5_findLayer rfl rfl rfl (by decide +kernel) ⟨Nat.le_of_ble_eq_true rfl, Nat.le_of_ble_eq_true rfl⟩) hP hK hD hS hA hG rfl rfl [0, 1, 2, 3, 4, 5, 6, 7, 8, 9, 10] [] [0, 1, 2, 3, 4, 5, 6, 7, 8, 9, 10] (by decide) rfl rfl (by decide) (by decide) (by decide) (fun _ => rfl) hl.1 rfl rfl (Nat.le_of_ble_eq_true rfl) ⟨Nat.zero_le _, Nat.zero_le _⟩ dX5_made_13 (fun  u H locs hp hP hD hS => ?_)
    obtain ⟨Wq0, Mq0, Fq0, Lq0, Zq0, nq0⟩ := u
    obtain ⟨hLDq0, hnDq0, hWq0⟩ := hp
    have hLDq0 : LD (pW G T 0) (pY U 0) (G 3) Mq0 Fq0 Lq0 Zq0 := hLDq0
    have hnDq0 : nq0 = npf G T U 0 := hnDq0
    have hWq0 : ∀ k, k < 64 → Wq0 k = pW G T 0 k := hWq0
    have hP : va_P D vwCl [(m0, .inr (5, [.ref m1, .ref m2, .ref m3, .int (nI (G 0)), .int (nI (G 1)), .int (nI (G 2)), .int (nI (G 3)), .ref m4, .ref m5, .int (nI nq0), .ref m6, .ref m7, .ref m8, .ref m9, .ref m10, .int (nI ai)])), (m1, .inl (cI, 64, .inl (nF T))), (m2, .inl (cI, 64, .inl (nF U))), (m3, .inl (cZ, 64, .inl (nF B))), (m4, .inl (cI, 64, .inl (nF Wq0))), (m5, .inl (cI, 64, .inl (nF Mq0))), (m6, .inl (cI, 64, .inl (nF Fq0))), (m7, .inl (cI, 64, .inl (nF Lq0))), (m8, .inl (cI, 64, .inl (nF Zq0))), (m9, .inl (cI, 64, .inl (nF Om))), (m10, .inl (cI, 64, .inl (nF Nm)))] H := hP
    have hD : va_D A [(m0, .inr (5, [.ref m1, .ref m2, .ref m3, .int (nI (G 0)), .int (nI (G 1)), .int (nI (G 2)), .int (nI (G 3)), .ref m4, .ref m5, .int (nI nq0), .ref m6, .ref m7, .ref m8, .ref m9, .ref m10, .int (nI ai)])), (m1, .inl (cI, 64, .inl (nF T))), (m2, .inl (cI, 64, .inl (nF U))), (m3, .inl (cZ, 64, .inl (nF B))), (m4, .inl (cI, 64, .inl (nF Wq0))), (m5, .inl (cI, 64, .inl (nF Mq0))), (m6, .inl (cI, 64, .inl (nF Fq0))), (m7, .inl (cI, 64, .inl (nF Lq0))), (m8, .inl (cI, 64, .inl (nF Zq0))), (m9, .inl (cI, 64, .inl (nF Om))), (m10, .inl (cI, 64, .inl (nF Nm)))] := hD
    refine lv_aload_n hx hb dX5_made_16 rfl (lv_at hl 0 rfl) ?_
    refine va_get (D := D) (ci := 5) (v := .ref m5) (C := RX5) (T := TX5) (N := 16) hx hb hts hinX5 hown hK hP 0 rfl rfl 8 (by decide) lk1 (fun _ h9 => h9) rfl dX5_made_17 ?_
    refine lv_bipush (v := nI 8) hx hb dX5_made_20 (by decide) ?_
    refine lv_iload_n hx hb dX5_made_22 rfl (lv_at hl 2 rfl) ?_
    refine nv_imul hx hb dX5_made_23 ?_
    refine lv_iload_n hx hb dX5_made_24 rfl (lv_at hl 1 rfl) ?_
    refine nv_iadd hx hb dX5_made_25 ?_
    refine nv_iald hx hb hK hP 5 rfl (by omega) (by decide) dX5_made_26 ?_
    refine lv_istore_n (lv' := [(3, .int (nI (Mq0 ((8 * b) + a)))), (0, .ref m0), (1, .int (nI a)), (2, .int (nI b))]) hx hb dX5_made_27 rfl hl (by decide) rfl (fun ls hl => ?_)
    refine lv_aload_n hx hb dX5_made_28 rfl (lv_at hl 1 rfl) ?_
    refine lv_iconst (v := nI 1) hx hb dX5_made_29 (by decide) ?_
    refine gcVv (ws' := fun (u : (Nat → Nat) × (Nat → Nat) × (Nat → Nat) × (Nat → Nat) × (Nat → Nat) × (Nat)) => [(m0, .inr (5, [.ref m1, .ref m2, .ref m3, .int (nI (G 0)), .int (nI (G 1)), .int (nI (G 2)), .int (nI (G 3)), .ref m4, .ref m5, .int (nI u.2.2.2.2.2), .ref m6, .ref m7, .ref m8, .ref m9, .ref m10, .int (nI ai)])), (m1, .inl (cI, 64, .inl (nF T))), (m2, .inl (cI, 64, .inl (nF U))), (m3, .inl (cZ, 64, .inl (nF B))), (m4, .inl (cI, 64, .inl (nF u.1))), (m5, .inl (cI, 64, .inl (nF u.2.1))), (m6, .inl (cI, 64, .inl (nF u.2.2.1))), (m7, .inl (cI, 64, .inl (nF u.2.2.2.1))), (m8, .inl (cI, 64, .inl (nF u.2.2.2.2.1))), (m9, .inl (cI, 64, .inl (nF Om))), (m10, .inl (cI, 64, .inl (nF Nm)))]) (wr := []) (ci := 5) (q0 := 0) (As := [.int (nI 1)]) (rest := []) ⟨hx, hb, hml, hown, hts⟩ (c_X5_findLayer l D cI cZ tt H.size m0 m1 m2 m3 m4 m5 m6 m7 m8 m9 m10 nq0 ai T U B G Wq0 Mq0 Fq0 Lq0 Zq0 Om Nm 1 (by first | assumption | omega) (by first | assumption | omega) (by first | assumption | omega) (by first | assumption | omega)) (cwV 1 hts gX5_made_X5_findLayer rfl rfl rfl (by decide +kernel) ⟨Nat.le_of_ble_eq_true rfl, Nat.le_of_ble_eq_true rfl⟩) hP hK hD hS hA hG rfl rfl [0, 1, 2, 3, 4, 5, 6, 7, 8, 9, 10] [] [0, 1, 2, 3, 4, 5, 6, 7, 8, 9, 10] (by decide) rfl rfl (by decide) (by decide) (by decide) (fun _ => rfl) hl.1 rfl rfl (Nat.le_of_ble_eq_true rfl) ⟨Nat.zero_le _, Nat.zero_le _⟩ dX5_made_30 (fun  u H locs hp hP hD hS => ?_)
    obtain ⟨Wq, Mq, Fq, Lq, Zq, nq⟩ := u
    obtain ⟨hLDq, hnDq, hWq⟩ := hp
    have hLDq : LD (pW G T 1) (pY U 1) (G 3) Mq Fq Lq Zq := hLDq
    have hnDq : nq = npf G T U 1 := hnDq
    have hWq : ∀ k, k < 64 → Wq k = pW G T 1 k := hWq
    have hP : va_P D vwCl [(m0, .inr (5, [.ref m1, .ref m2, .ref m3, .int (nI (G 0)), .int (nI (G 1)), .int (nI (G 2)), .int (nI (G 3)), .ref m4, .ref m5, .int (nI nq), .ref m6, .ref m7, .ref m8, .ref m9, .ref m10, .int (nI ai)])), (m1, .inl (cI, 64, .inl (nF T))), (m2, .inl (cI, 64, .inl (nF U))), (m3, .inl (cZ, 64, .inl (nF B))), (m4, .inl (cI, 64, .inl (nF Wq))), (m5, .inl (cI, 64, .inl (nF Mq))), (m6, .inl (cI, 64, .inl (nF Fq))), (m7, .inl (cI, 64, .inl (nF Lq))), (m8, .inl (cI, 64, .inl (nF Zq))), (m9, .inl (cI, 64, .inl (nF Om))), (m10, .inl (cI, 64, .inl (nF Nm)))] H := hP
    have hD : va_D A [(m0, .inr (5, [.ref m1, .ref m2, .ref m3, .int (nI (G 0)), .int (nI (G 1)), .int (nI (G 2)), .int (nI (G 3)), .ref m4, .ref m5, .int (nI nq), .ref m6, .ref m7, .ref m8, .ref m9, .ref m10, .int (nI ai)])), (m1, .inl (cI, 64, .inl (nF T))), (m2, .inl (cI, 64, .inl (nF U))), (m3, .inl (cZ, 64, .inl (nF B))), (m4, .inl (cI, 64, .inl (nF Wq))), (m5, .inl (cI, 64, .inl (nF Mq))), (m6, .inl (cI, 64, .inl (nF Fq))), (m7, .inl (cI, 64, .inl (nF Lq))), (m8, .inl (cI, 64, .inl (nF Zq))), (m9, .inl (cI, 64, .inl (nF Om))), (m10, .inl (cI, 64, .inl (nF Nm)))] := hD
    have bq0 : Mq0 (8 * b + a) ≤ 100 := LD_le (pW_le hGs hT) hLDq0 (by omega)
    have bq1 : Mq (8 * b + a) ≤ 100 := LD_le (pW_le hGs hT) hLDq (by omega)
    have bg0 := hGs 0
    refine lv_bipush (v := nI 100) hx hb dX5_made_33 (by decide) ?_
    refine lv_iload_n hx hb dX5_made_35 rfl (lv_at hl 0 rfl) ?_
    refine lv_aload_n hx hb dX5_made_36 rfl (lv_at hl 1 rfl) ?_
    refine va_get (D := D) (ci := 5) (v := .ref m5) (C := RX5) (T := TX5) (N := 16) hx hb hts hinX5 hown hK hP 0 rfl rfl 8 (by decide) lk1 (fun _ h9 => h9) rfl dX5_made_37 ?_
    refine lv_bipush (v := nI 8) hx hb dX5_made_40 (by decide) ?_
    refine lv_iload_n hx hb dX5_made_42 rfl (lv_at hl 3 rfl) ?_
    refine nv_imul hx hb dX5_made_43 ?_
    refine lv_iload_n hx hb dX5_made_44 rfl (lv_at hl 2 rfl) ?_
    refine nv_iadd hx hb dX5_made_45 ?_
    refine nv_iald hx hb hK hP 5 rfl (by omega) (by decide) dX5_made_46 ?_
    refine nv_iadd hx hb dX5_made_47 ?_
    refine nv_imul hx hb dX5_made_48 ?_
    refine lv_aload_n hx hb dX5_made_49 rfl (lv_at hl 1 rfl) ?_
    refine va_get (D := D) (ci := 5) (v := .int (nI (G 0))) (C := RX5) (T := TX5) (N := 16) hx hb hts hinX5 hown hK hP 0 rfl rfl 3 (by decide) lk2 (fun _ h9 => h9) rfl dX5_made_50 ?_
    refine nv_idiv hx hb dX5_made_53 (by omega) (by omega) (by omega) ?_
    exact hret _ (Wq, Mq, Fq, Lq, Zq, nq) _ _ _ _ dX5_made_54 (by unfold aMade mdf; rw [if_pos (okc_of ha8 hb8), ci_n ha8 hb8, ← WV_eq hLDq0 (by omega), ← WV_eq hLDq (by omega)]) hP hD hS
  · skip
    have nokc := c_1
    refine lv_bipush (v := (-2)) hx hb dX5_made_8 (by decide) ?_
    exact hret _ (Wm, M, F, L, Z, np) _ _ _ _ dX5_made_10 (by unfold aMade; rw [if_neg nokc]) hP hD hS

set_option maxHeartbeats 4000000 in
set_option maxRecDepth 100000 in
theorem c_X5_paths (l : Launch) (D : va_G) (cI cZ : ClassId) (tt : Nat → Nat) (sz : Nat) (m0 m1 m2 m3 m4 m5 m6 m7 m8 m9 m10 : Nat) (np ai : Nat) (T U B G Wm M F L Z Om Nm : Nat → Nat) (ly : Int32) (hT : ∀ k, T k ≤ 100) (hU : ∀ k, U k < 8) (hGs : ∀ k, G k ≤ 100) : MI l yX5_paths wsX5_paths ({ frames := 4, cells := 0, slots := 0, locals := 93 } : Room) D cI cZ tt [.ref m0, .int (ly)] [(m0, .inr (5, [.ref m1, .ref m2, .ref m3, .int (nI (G 0)), .int (nI (G 1)), .int (nI (G 2)), .int (nI (G 3)), .ref m4, .ref m5, .int (nI np), .ref m6, .ref m7, .ref m8, .ref m9, .ref m10, .int (nI ai)])), (m1, .inl (cI, 64, .inl (nF T))), (m2, .inl (cI, 64, .inl (nF U))), (m3, .inl (cZ, 64, .inl (nF B))), (m4, .inl (cI, 64, .inl (nF Wm))), (m5, .inl (cI, 64, .inl (nF M))), (m6, .inl (cI, 64, .inl (nF F))), (m7, .inl (cI, 64, .inl (nF L))), (m8, .inl (cI, 64, .inl (nF Z))), (m9, .inl (cI, 64, .inl (nF Om))), (m10, .inl (cI, 64, .inl (nF Nm)))] sz (fun (r : Int32) (u : (Nat → Nat) × (Nat → Nat) × (Nat → Nat) × (Nat → Nat) × (Nat → Nat) × (Nat)) => r = aPaths G T U ly) (fun (u : (Nat → Nat) × (Nat → Nat) × (Nat → Nat) × (Nat → Nat) × (Nat → Nat) × (Nat)) => [(m0, .inr (5, [.ref m1, .ref m2, .ref m3, .int (nI (G 0)), .int (nI (G 1)), .int (nI (G 2)), .int (nI (G 3)), .ref m4, .ref m5, .int (nI u.2.2.2.2.2), .ref m6, .ref m7, .ref m8, .ref m9, .ref m10, .int (nI ai)])), (m1, .inl (cI, 64, .inl (nF T))), (m2, .inl (cI, 64, .inl (nF U))), (m3, .inl (cZ, 64, .inl (nF B))), (m4, .inl (cI, 64, .inl (nF u.1))), (m5, .inl (cI, 64, .inl (nF u.2.1))), (m6, .inl (cI, 64, .inl (nF u.2.2.1))), (m7, .inl (cI, 64, .inl (nF u.2.2.2.1))), (m8, .inl (cI, 64, .inl (nF u.2.2.2.2.1))), (m9, .inl (cI, 64, .inl (nF Om))), (m10, .inl (cI, 64, .inl (nF Nm)))]) := by
  refine entI (cc := cX5_paths) 2 (by decide) rfl (Nat.le_of_ble_eq_true rfl) (Or.inl rfl) (fun pr e s m args below meth c0 A Q H ls hx hb hml hown hts hsz hA hP hK hD hS hG hret hl => ?_)
  have hown : s.vm.findClass RX5 = some m.cls := hown
  have lk1 := hts (.fieldLink RX5 95 "BurinLinesModel" "paths" "I") (by decide +kernel)
  have hinX5 : ∀ w ∈ wsX50, w ∈ wsX5_paths := by decide +kernel
  have hl : lv_has ls 2 [(0, .ref m0), (1, .int (ly))] := hl
  refine lv_iload_n hx hb dX5_paths_0 rfl (lv_at hl 1 rfl) ?_
  refine gcS (As := [.int (ly)]) (rest := []) ⟨hx, hb, hml, hown, hts⟩ (c_X5_isLayer l ly ) (va_cwS 1 hts gX5_paths_X5_isLayer rfl rfl rfl (by decide +kernel) ⟨Nat.le_of_ble_eq_true rfl, Nat.le_of_ble_eq_true rfl⟩) hl.1 rfl rfl (Nat.le_of_ble_eq_true rfl) ⟨Nat.zero_le _, Nat.zero_le _⟩ dX5_paths_1 ?_
  refine nv_ifb_ne (tgt := 10) hx hb dX5_paths_4 (by decide) (fun c_1 => ?_) (fun c_1 => ?_)
  · skip
    rcases c_1 with hL | hL
    · skip
      obtain rfl : ly = nI 0 := hL.trans nI_0.symm
      refine lv_aload_n hx hb dX5_paths_10 rfl (lv_at hl 0 rfl) ?_
      refine lv_iload_n hx hb dX5_paths_11 rfl (lv_at hl 1 rfl) ?_
      refine gcVv (ws' := fun (u : (Nat → Nat) × (Nat → Nat) × (Nat → Nat) × (Nat → Nat) × (Nat → Nat) × (Nat)) => [(m0, .inr (5, [.ref m1, .ref m2, .ref m3, .int (nI (G 0)), .int (nI (G 1)), .int (nI (G 2)), .int (nI (G 3)), .ref m4, .ref m5, .int (nI u.2.2.2.2.2), .ref m6, .ref m7, .ref m8, .ref m9, .ref m10, .int (nI ai)])), (m1, .inl (cI, 64, .inl (nF T))), (m2, .inl (cI, 64, .inl (nF U))), (m3, .inl (cZ, 64, .inl (nF B))), (m4, .inl (cI, 64, .inl (nF u.1))), (m5, .inl (cI, 64, .inl (nF u.2.1))), (m6, .inl (cI, 64, .inl (nF u.2.2.1))), (m7, .inl (cI, 64, .inl (nF u.2.2.2.1))), (m8, .inl (cI, 64, .inl (nF u.2.2.2.2.1))), (m9, .inl (cI, 64, .inl (nF Om))), (m10, .inl (cI, 64, .inl (nF Nm)))]) (wr := []) (ci := 5) (q0 := 0) (As := [.int (nI 0)]) (rest := []) ⟨hx, hb, hml, hown, hts⟩ (c_X5_findLayer l D cI cZ tt H.size m0 m1 m2 m3 m4 m5 m6 m7 m8 m9 m10 np ai T U B G Wm M F L Z Om Nm 0 (by first | assumption | omega) (by first | assumption | omega) (by first | assumption | omega) (by first | assumption | omega)) (cwV 1 hts gX5_paths_X5_findLayer rfl rfl rfl (by decide +kernel) ⟨Nat.le_of_ble_eq_true rfl, Nat.le_of_ble_eq_true rfl⟩) hP hK hD hS hA hG rfl rfl [0, 1, 2, 3, 4, 5, 6, 7, 8, 9, 10] [] [0, 1, 2, 3, 4, 5, 6, 7, 8, 9, 10] (by decide) rfl rfl (by decide) (by decide) (by decide) (fun _ => rfl) hl.1 rfl rfl (Nat.le_of_ble_eq_true rfl) ⟨Nat.zero_le _, Nat.zero_le _⟩ dX5_paths_12 (fun  u H locs hp hP hD hS => ?_)
      obtain ⟨Wq, Mq, Fq, Lq, Zq, nq⟩ := u
      obtain ⟨hLDq, hnDq, hWq⟩ := hp
      have hLDq : LD (pW G T 0) (pY U 0) (G 3) Mq Fq Lq Zq := hLDq
      have hnDq : nq = npf G T U 0 := hnDq
      have hWq : ∀ k, k < 64 → Wq k = pW G T 0 k := hWq
      have hP : va_P D vwCl [(m0, .inr (5, [.ref m1, .ref m2, .ref m3, .int (nI (G 0)), .int (nI (G 1)), .int (nI (G 2)), .int (nI (G 3)), .ref m4, .ref m5, .int (nI nq), .ref m6, .ref m7, .ref m8, .ref m9, .ref m10, .int (nI ai)])), (m1, .inl (cI, 64, .inl (nF T))), (m2, .inl (cI, 64, .inl (nF U))), (m3, .inl (cZ, 64, .inl (nF B))), (m4, .inl (cI, 64, .inl (nF Wq))), (m5, .inl (cI, 64, .inl (nF Mq))), (m6, .inl (cI, 64, .inl (nF Fq))), (m7, .inl (cI, 64, .inl (nF Lq))), (m8, .inl (cI, 64, .inl (nF Zq))), (m9, .inl (cI, 64, .inl (nF Om))), (m10, .inl (cI, 64, .inl (nF Nm)))] H := hP
      have hD : va_D A [(m0, .inr (5, [.ref m1, .ref m2, .ref m3, .int (nI (G 0)), .int (nI (G 1)), .int (nI (G 2)), .int (nI (G 3)), .ref m4, .ref m5, .int (nI nq), .ref m6, .ref m7, .ref m8, .ref m9, .ref m10, .int (nI ai)])), (m1, .inl (cI, 64, .inl (nF T))), (m2, .inl (cI, 64, .inl (nF U))), (m3, .inl (cZ, 64, .inl (nF B))), (m4, .inl (cI, 64, .inl (nF Wq))), (m5, .inl (cI, 64, .inl (nF Mq))), (m6, .inl (cI, 64, .inl (nF Fq))), (m7, .inl (cI, 64, .inl (nF Lq))), (m8, .inl (cI, 64, .inl (nF Zq))), (m9, .inl (cI, 64, .inl (nF Om))), (m10, .inl (cI, 64, .inl (nF Nm)))] := hD
      refine lv_aload_n hx hb dX5_paths_15 rfl (lv_at hl 0 rfl) ?_
      refine va_get (D := D) (ci := 5) (v := .int (nI nq)) (C := RX5) (T := TX5) (N := 16) hx hb hts hinX5 hown hK hP 0 rfl rfl 9 (by decide) lk1 (fun _ h9 => h9) rfl dX5_paths_16 ?_
      exact hret _ (Wq, Mq, Fq, Lq, Zq, nq) _ _ _ _ dX5_paths_19 (by unfold aPaths; rw [if_pos (Or.inl nI_0), show (nI 0).toNatClampNeg = 0 from rfl, hnDq]) hP hD hS
    · skip
      obtain rfl : ly = nI 1 := hL
      refine lv_aload_n hx hb dX5_paths_10 rfl (lv_at hl 0 rfl) ?_
      refine lv_iload_n hx hb dX5_paths_11 rfl (lv_at hl 1 rfl) ?_
      refine gcVv (ws' := fun (u : (Nat → Nat) × (Nat → Nat) × (Nat → Nat) × (Nat → Nat) × (Nat → Nat) × (Nat)) => [(m0, .inr (5, [.ref m1, .ref m2, .ref m3, .int (nI (G 0)), .int (nI (G 1)), .int (nI (G 2)), .int (nI (G 3)), .ref m4, .ref m5, .int (nI u.2.2.2.2.2), .ref m6, .ref m7, .ref m8, .ref m9, .ref m10, .int (nI ai)])), (m1, .inl (cI, 64, .inl (nF T))), (m2, .inl (cI, 64, .inl (nF U))), (m3, .inl (cZ, 64, .inl (nF B))), (m4, .inl (cI, 64, .inl (nF u.1))), (m5, .inl (cI, 64, .inl (nF u.2.1))), (m6, .inl (cI, 64, .inl (nF u.2.2.1))), (m7, .inl (cI, 64, .inl (nF u.2.2.2.1))), (m8, .inl (cI, 64, .inl (nF u.2.2.2.2.1))), (m9, .inl (cI, 64, .inl (nF Om))), (m10, .inl (cI, 64, .inl (nF Nm)))]) (wr := []) (ci := 5) (q0 := 0) (As := [.int (nI 1)]) (rest := []) ⟨hx, hb, hml, hown, hts⟩ (c_X5_findLayer l D cI cZ tt H.size m0 m1 m2 m3 m4 m5 m6 m7 m8 m9 m10 np ai T U B G Wm M F L Z Om Nm 1 (by first | assumption | omega) (by first | assumption | omega) (by first | assumption | omega) (by first | assumption | omega)) (cwV 1 hts gX5_paths_X5_findLayer rfl rfl rfl (by decide +kernel) ⟨Nat.le_of_ble_eq_true rfl, Nat.le_of_ble_eq_true rfl⟩) hP hK hD hS hA hG rfl rfl [0, 1, 2, 3, 4, 5, 6, 7, 8, 9, 10] [] [0, 1, 2, 3, 4, 5, 6, 7, 8, 9, 10] (by decide) rfl rfl (by decide) (by decide) (by decide) (fun _ => rfl) hl.1 rfl rfl (Nat.le_of_ble_eq_true rfl) ⟨Nat.zero_le _, Nat.zero_le _⟩ dX5_paths_12 (fun  u H locs hp hP hD hS => ?_)
      obtain ⟨Wq, Mq, Fq, Lq, Zq, nq⟩ := u
      obtain ⟨hLDq, hnDq, hWq⟩ := hp
      have hLDq : LD (pW G T 1) (pY U 1) (G 3) Mq Fq Lq Zq := hLDq
      have hnDq : nq = npf G T U 1 := hnDq
      have hWq : ∀ k, k < 64 → Wq k = pW G T 1 k := hWq
      have hP : va_P D vwCl [(m0, .inr (5, [.ref m1, .ref m2, .ref m3, .int (nI (G 0)), .int (nI (G 1)), .int (nI (G 2)), .int (nI (G 3)), .ref m4, .ref m5, .int (nI nq), .ref m6, .ref m7, .ref m8, .ref m9, .ref m10, .int (nI ai)])), (m1, .inl (cI, 64, .inl (nF T))), (m2, .inl (cI, 64, .inl (nF U))), (m3, .inl (cZ, 64, .inl (nF B))), (m4, .inl (cI, 64, .inl (nF Wq))), (m5, .inl (cI, 64, .inl (nF Mq))), (m6, .inl (cI, 64, .inl (nF Fq))), (m7, .inl (cI, 64, .inl (nF Lq))), (m8, .inl (cI, 64, .inl (nF Zq))), (m9, .inl (cI, 64, .inl (nF Om))), (m10, .inl (cI, 64, .inl (nF Nm)))] H := hP
      have hD : va_D A [(m0, .inr (5, [.ref m1, .ref m2, .ref m3, .int (nI (G 0)), .int (nI (G 1)), .int (nI (G 2)), .int (nI (G 3)), .ref m4, .ref m5, .int (nI nq), .ref m6, .ref m7, .ref m8, .ref m9, .ref m10, .int (nI ai)])), (m1, .inl (cI, 64, .inl (nF T))), (m2, .inl (cI, 64, .inl (nF U))), (m3, .inl (cZ, 64, .inl (nF B))), (m4, .inl (cI, 64, .inl (nF Wq))), (m5, .inl (cI, 64, .inl (nF Mq))), (m6, .inl (cI, 64, .inl (nF Fq))), (m7, .inl (cI, 64, .inl (nF Lq))), (m8, .inl (cI, 64, .inl (nF Zq))), (m9, .inl (cI, 64, .inl (nF Om))), (m10, .inl (cI, 64, .inl (nF Nm)))] := hD
      refine lv_aload_n hx hb dX5_paths_15 rfl (lv_at hl 0 rfl) ?_
      refine va_get (D := D) (ci := 5) (v := .int (nI nq)) (C := RX5) (T := TX5) (N := 16) hx hb hts hinX5 hown hK hP 0 rfl rfl 9 (by decide) lk1 (fun _ h9 => h9) rfl dX5_paths_16 ?_
      exact hret _ (Wq, Mq, Fq, Lq, Zq, nq) _ _ _ _ dX5_paths_19 (by unfold aPaths; rw [if_pos (Or.inr rfl), show (nI 1).toNatClampNeg = 1 from rfl, hnDq]) hP hD hS
  · skip
    have nokl := c_1
    refine lv_bipush (v := (-2)) hx hb dX5_paths_7 (by decide) ?_
    exact hret _ (Wm, M, F, L, Z, np) _ _ _ _ dX5_paths_9 (by unfold aPaths; rw [if_neg nokl]) hP hD hS

set_option maxHeartbeats 4000000 in
set_option maxRecDepth 100000 in
theorem c_X5_cut (l : Launch) (D : va_G) (cI cZ : ClassId) (tt : Nat → Nat) (sz : Nat) (m0 m1 m2 m3 m4 m5 m6 m7 m8 m9 m10 : Nat) (np ai : Nat) (T U B G Wm M F L Z Om Nm : Nat → Nat) (ly i : Int32) (hT : ∀ k, T k ≤ 100) (hU : ∀ k, U k < 8) (hGs : ∀ k, G k ≤ 100) : MI l yX5_cut wsX5_cut ({ frames := 5, cells := 0, slots := 0, locals := 121 } : Room) D cI cZ tt [.ref m0, .int (ly), .int (i)] [(m0, .inr (5, [.ref m1, .ref m2, .ref m3, .int (nI (G 0)), .int (nI (G 1)), .int (nI (G 2)), .int (nI (G 3)), .ref m4, .ref m5, .int (nI np), .ref m6, .ref m7, .ref m8, .ref m9, .ref m10, .int (nI ai)])), (m1, .inl (cI, 64, .inl (nF T))), (m2, .inl (cI, 64, .inl (nF U))), (m3, .inl (cZ, 64, .inl (nF B))), (m4, .inl (cI, 64, .inl (nF Wm))), (m5, .inl (cI, 64, .inl (nF M))), (m6, .inl (cI, 64, .inl (nF F))), (m7, .inl (cI, 64, .inl (nF L))), (m8, .inl (cI, 64, .inl (nF Z))), (m9, .inl (cI, 64, .inl (nF Om))), (m10, .inl (cI, 64, .inl (nF Nm)))] sz (fun (r : Int32) (u : (Nat → Nat) × (Nat → Nat) × (Nat → Nat) × (Nat → Nat) × (Nat → Nat) × (Nat) × (Nat → Nat) × (Nat → Nat) × (Nat)) => r = aCut G T U ly i) (fun (u : (Nat → Nat) × (Nat → Nat) × (Nat → Nat) × (Nat → Nat) × (Nat → Nat) × (Nat) × (Nat → Nat) × (Nat → Nat) × (Nat)) => [(m0, .inr (5, [.ref m1, .ref m2, .ref m3, .int (nI (G 0)), .int (nI (G 1)), .int (nI (G 2)), .int (nI (G 3)), .ref m4, .ref m5, .int (nI u.2.2.2.2.2.1), .ref m6, .ref m7, .ref m8, .ref m9, .ref m10, .int (nI u.2.2.2.2.2.2.2.2)])), (m1, .inl (cI, 64, .inl (nF T))), (m2, .inl (cI, 64, .inl (nF U))), (m3, .inl (cZ, 64, .inl (nF B))), (m4, .inl (cI, 64, .inl (nF u.1))), (m5, .inl (cI, 64, .inl (nF u.2.1))), (m6, .inl (cI, 64, .inl (nF u.2.2.1))), (m7, .inl (cI, 64, .inl (nF u.2.2.2.1))), (m8, .inl (cI, 64, .inl (nF u.2.2.2.2.1))), (m9, .inl (cI, 64, .inl (nF u.2.2.2.2.2.2.1))), (m10, .inl (cI, 64, .inl (nF u.2.2.2.2.2.2.2.1)))]) := by
  refine entI (cc := cX5_cut) 3 (by decide) rfl (Nat.le_of_ble_eq_true rfl) (Or.inl rfl) (fun pr e s m args below meth c0 A Q H ls hx hb hml hown hts hsz hA hP hK hD hS hG hret hl => ?_)
  have hown : s.vm.findClass RX5 = some m.cls := hown
  have lk1 := hts (.fieldLink RX5 95 "BurinLinesModel" "paths" "I") (by decide +kernel)
  have lk2 := hts (.fieldLink RX5 48 "BurinLinesModel" "order" "[I") (by decide +kernel)
  have hinX5 : ∀ w ∈ wsX50, w ∈ wsX5_cut := by decide +kernel
  have hl : lv_has ls 3 [(0, .ref m0), (1, .int (ly)), (2, .int (i))] := hl
  refine lv_iload_n hx hb dX5_cut_0 rfl (lv_at hl 1 rfl) ?_
  refine gcS (As := [.int (ly)]) (rest := []) ⟨hx, hb, hml, hown, hts⟩ (c_X5_isLayer l ly ) (va_cwS 1 hts gX5_cut_X5_isLayer rfl rfl rfl (by decide +kernel) ⟨Nat.le_of_ble_eq_true rfl, Nat.le_of_ble_eq_true rfl⟩) hl.1 rfl rfl (Nat.le_of_ble_eq_true rfl) ⟨Nat.zero_le _, Nat.zero_le _⟩ dX5_cut_1 ?_
  refine nv_ifb_ne (tgt := 10) hx hb dX5_cut_4 (by decide) (fun c_1 => ?_) (fun c_1 => ?_)
  · skip
    rcases c_1 with hL | hL
    · skip
      obtain rfl : ly = nI 0 := hL.trans nI_0.symm
      refine lv_aload_n hx hb dX5_cut_10 rfl (lv_at hl 0 rfl) ?_
      refine lv_iload_n hx hb dX5_cut_11 rfl (lv_at hl 1 rfl) ?_
      refine gcVv (ws' := fun (u : (Nat → Nat) × (Nat → Nat) × (Nat → Nat) × (Nat → Nat) × (Nat → Nat) × (Nat) × (Nat → Nat) × (Nat → Nat) × (Nat)) => [(m0, .inr (5, [.ref m1, .ref m2, .ref m3, .int (nI (G 0)), .int (nI (G 1)), .int (nI (G 2)), .int (nI (G 3)), .ref m4, .ref m5, .int (nI u.2.2.2.2.2.1), .ref m6, .ref m7, .ref m8, .ref m9, .ref m10, .int (nI u.2.2.2.2.2.2.2.2)])), (m1, .inl (cI, 64, .inl (nF T))), (m2, .inl (cI, 64, .inl (nF U))), (m3, .inl (cZ, 64, .inl (nF B))), (m4, .inl (cI, 64, .inl (nF u.1))), (m5, .inl (cI, 64, .inl (nF u.2.1))), (m6, .inl (cI, 64, .inl (nF u.2.2.1))), (m7, .inl (cI, 64, .inl (nF u.2.2.2.1))), (m8, .inl (cI, 64, .inl (nF u.2.2.2.2.1))), (m9, .inl (cI, 64, .inl (nF u.2.2.2.2.2.2.1))), (m10, .inl (cI, 64, .inl (nF u.2.2.2.2.2.2.2.1)))]) (wr := []) (ci := 5) (q0 := 0) (As := [.int (nI 0)]) (rest := []) ⟨hx, hb, hml, hown, hts⟩ (c_X5_findOrder l D cI cZ tt H.size m0 m1 m2 m3 m4 m5 m6 m7 m8 m9 m10 np ai T U B G Wm M F L Z Om Nm 0 (by first | assumption | omega) (by first | assumption | omega) (by first | assumption | omega) (by first | assumption | omega)) (cwV 1 hts gX5_cut_X5_findOrder rfl rfl rfl (by decide +kernel) ⟨Nat.le_of_ble_eq_true rfl, Nat.le_of_ble_eq_true rfl⟩) hP hK hD hS hA hG rfl rfl [0, 1, 2, 3, 4, 5, 6, 7, 8, 9, 10] [] [0, 1, 2, 3, 4, 5, 6, 7, 8, 9, 10] (by decide) rfl rfl (by decide) (by decide) (by decide) (fun _ => rfl) hl.1 rfl rfl (Nat.le_of_ble_eq_true rfl) ⟨Nat.zero_le _, Nat.zero_le _⟩ dX5_cut_12 (fun  u H locs hp hP hD hS => ?_)
      obtain ⟨Wq, Mq, Fq, Lq, Zq, nq, Oq, Nq, aq⟩ := u
      obtain ⟨hnDq, hOq, hNq, hAq⟩ := hp
      have hnDq : nq = npf G T U 0 := hnDq
      have hOq : ∀ j, j < npf G T U 0 → Oq j = odf G T U 0 j := hOq
      have hNq : ∀ j, j < npf G T U 0 → Nq j = bgf G T U 0 j := hNq
      have hAq : aq = arf G T U 0 := hAq
      have hP : va_P D vwCl [(m0, .inr (5, [.ref m1, .ref m2, .ref m3, .int (nI (G 0)), .int (nI (G 1)), .int (nI (G 2)), .int (nI (G 3)), .ref m4, .ref m5, .int (nI nq), .ref m6, .ref m7, .ref m8, .ref m9, .ref m10, .int (nI aq)])), (m1, .inl (cI, 64, .inl (nF T))), (m2, .inl (cI, 64, .inl (nF U))), (m3, .inl (cZ, 64, .inl (nF B))), (m4, .inl (cI, 64, .inl (nF Wq))), (m5, .inl (cI, 64, .inl (nF Mq))), (m6, .inl (cI, 64, .inl (nF Fq))), (m7, .inl (cI, 64, .inl (nF Lq))), (m8, .inl (cI, 64, .inl (nF Zq))), (m9, .inl (cI, 64, .inl (nF Oq))), (m10, .inl (cI, 64, .inl (nF Nq)))] H := hP
      have hD : va_D A [(m0, .inr (5, [.ref m1, .ref m2, .ref m3, .int (nI (G 0)), .int (nI (G 1)), .int (nI (G 2)), .int (nI (G 3)), .ref m4, .ref m5, .int (nI nq), .ref m6, .ref m7, .ref m8, .ref m9, .ref m10, .int (nI aq)])), (m1, .inl (cI, 64, .inl (nF T))), (m2, .inl (cI, 64, .inl (nF U))), (m3, .inl (cZ, 64, .inl (nF B))), (m4, .inl (cI, 64, .inl (nF Wq))), (m5, .inl (cI, 64, .inl (nF Mq))), (m6, .inl (cI, 64, .inl (nF Fq))), (m7, .inl (cI, 64, .inl (nF Lq))), (m8, .inl (cI, 64, .inl (nF Zq))), (m9, .inl (cI, 64, .inl (nF Oq))), (m10, .inl (cI, 64, .inl (nF Nq)))] := hD
      have hnp : nq ≤ 64 := by rw [hnDq]; exact npf_le _ _ _ _
      refine lv_iload_n hx hb dX5_cut_15 rfl (lv_at hl 2 rfl) ?_
      refine lv_iconst (v := nI 0) hx hb dX5_cut_16 (by decide) ?_
      refine lv_aload_n hx hb dX5_cut_17 rfl (lv_at hl 0 rfl) ?_
      refine va_get (D := D) (ci := 5) (v := .int (nI nq)) (C := RX5) (T := TX5) (N := 16) hx hb hts hinX5 hown hK hP 0 rfl rfl 9 (by decide) lk1 (fun _ h9 => h9) rfl dX5_cut_18 ?_
      refine lv_iconst (v := nI 1) hx hb dX5_cut_21 (by decide) ?_
      refine lv_isub hx hb dX5_cut_22 ?_
      refine gcS (As := [.int (i), .int (nI 0), .int ((nI nq) - (nI 1))]) (rest := []) ⟨hx, hb, hml, hown, hts⟩ (c_X5_in l i (nI 0) ((nI nq) - (nI 1)) ) (va_cwS 3 hts gX5_cut_X5_in rfl rfl rfl (by decide +kernel) ⟨Nat.le_of_ble_eq_true rfl, Nat.le_of_ble_eq_true rfl⟩) hl.1 rfl rfl (Nat.le_of_ble_eq_true rfl) ⟨Nat.zero_le _, Nat.zero_le _⟩ dX5_cut_23 ?_
      refine nv_ifb_eq (tgt := 38) hx hb dX5_cut_26 (by decide) (fun c_2 => ?_) (fun c_2 => ?_)
      · skip
        have nokk : ¬ okk i (npf G T U 0) := by rw [← hnDq]; exact fun q => c_2 ((in_okk hnp).mpr q)
        refine lv_bipush (v := (-3)) hx hb dX5_cut_38 (by decide) ?_
        exact hret _ (Wq, Mq, Fq, Lq, Zq, nq, Oq, Nq, aq) _ _ _ _ dX5_cut_40 (by unfold aCut; rw [if_pos (Or.inl nI_0), show (nI 0).toNatClampNeg = 0 from rfl, if_neg nokk]) hP hD hS
      · skip
        have hik := (in_okk hnp).mp c_2
        obtain ⟨ii, hii, rfl⟩ := up_to (by omega) hik.1 hik.2
        rw [hnDq] at hii hik
        have hk64 := npf_le G T U 0
        refine lv_aload_n hx hb dX5_cut_29 rfl (lv_at hl 0 rfl) ?_
        refine va_get (D := D) (ci := 5) (v := .ref m9) (C := RX5) (T := TX5) (N := 16) hx hb hts hinX5 hown hK hP 0 rfl rfl 13 (by decide) lk2 (fun _ h9 => h9) rfl dX5_cut_30 ?_
        refine lv_iload_n hx hb dX5_cut_33 rfl (lv_at hl 2 rfl) ?_
        refine nv_iald hx hb hK hP 9 rfl (by omega) (by decide) dX5_cut_34 ?_
        refine lv_goto (tgt := 40) hx hb dX5_cut_35 (by decide) ?_
        exact hret _ (Wq, Mq, Fq, Lq, Zq, nq, Oq, Nq, aq) _ _ _ _ dX5_cut_40 (by unfold aCut; rw [if_pos (Or.inl nI_0), show (nI 0).toNatClampNeg = 0 from rfl, if_pos hik, cl_n (by omega), hOq ii hii]) hP hD hS
    · skip
      obtain rfl : ly = nI 1 := hL
      refine lv_aload_n hx hb dX5_cut_10 rfl (lv_at hl 0 rfl) ?_
      refine lv_iload_n hx hb dX5_cut_11 rfl (lv_at hl 1 rfl) ?_
      refine gcVv (ws' := fun (u : (Nat → Nat) × (Nat → Nat) × (Nat → Nat) × (Nat → Nat) × (Nat → Nat) × (Nat) × (Nat → Nat) × (Nat → Nat) × (Nat)) => [(m0, .inr (5, [.ref m1, .ref m2, .ref m3, .int (nI (G 0)), .int (nI (G 1)), .int (nI (G 2)), .int (nI (G 3)), .ref m4, .ref m5, .int (nI u.2.2.2.2.2.1), .ref m6, .ref m7, .ref m8, .ref m9, .ref m10, .int (nI u.2.2.2.2.2.2.2.2)])), (m1, .inl (cI, 64, .inl (nF T))), (m2, .inl (cI, 64, .inl (nF U))), (m3, .inl (cZ, 64, .inl (nF B))), (m4, .inl (cI, 64, .inl (nF u.1))), (m5, .inl (cI, 64, .inl (nF u.2.1))), (m6, .inl (cI, 64, .inl (nF u.2.2.1))), (m7, .inl (cI, 64, .inl (nF u.2.2.2.1))), (m8, .inl (cI, 64, .inl (nF u.2.2.2.2.1))), (m9, .inl (cI, 64, .inl (nF u.2.2.2.2.2.2.1))), (m10, .inl (cI, 64, .inl (nF u.2.2.2.2.2.2.2.1)))]) (wr := []) (ci := 5) (q0 := 0) (As := [.int (nI 1)]) (rest := []) ⟨hx, hb, hml, hown, hts⟩ (c_X5_findOrder l D cI cZ tt H.size m0 m1 m2 m3 m4 m5 m6 m7 m8 m9 m10 np ai T U B G Wm M F L Z Om Nm 1 (by first | assumption | omega) (by first | assumption | omega) (by first | assumption | omega) (by first | assumption | omega)) (cwV 1 hts gX5_cut_X5_findOrder rfl rfl rfl (by decide +kernel) ⟨Nat.le_of_ble_eq_true rfl, Nat.le_of_ble_eq_true rfl⟩) hP hK hD hS hA hG rfl rfl [0, 1, 2, 3, 4, 5, 6, 7, 8, 9, 10] [] [0, 1, 2, 3, 4, 5, 6, 7, 8, 9, 10] (by decide) rfl rfl (by decide) (by decide) (by decide) (fun _ => rfl) hl.1 rfl rfl (Nat.le_of_ble_eq_true rfl) ⟨Nat.zero_le _, Nat.zero_le _⟩ dX5_cut_12 (fun  u H locs hp hP hD hS => ?_)
      obtain ⟨Wq, Mq, Fq, Lq, Zq, nq, Oq, Nq, aq⟩ := u
      obtain ⟨hnDq, hOq, hNq, hAq⟩ := hp
      have hnDq : nq = npf G T U 1 := hnDq
      have hOq : ∀ j, j < npf G T U 1 → Oq j = odf G T U 1 j := hOq
      have hNq : ∀ j, j < npf G T U 1 → Nq j = bgf G T U 1 j := hNq
      have hAq : aq = arf G T U 1 := hAq
      have hP : va_P D vwCl [(m0, .inr (5, [.ref m1, .ref m2, .ref m3, .int (nI (G 0)), .int (nI (G 1)), .int (nI (G 2)), .int (nI (G 3)), .ref m4, .ref m5, .int (nI nq), .ref m6, .ref m7, .ref m8, .ref m9, .ref m10, .int (nI aq)])), (m1, .inl (cI, 64, .inl (nF T))), (m2, .inl (cI, 64, .inl (nF U))), (m3, .inl (cZ, 64, .inl (nF B))), (m4, .inl (cI, 64, .inl (nF Wq))), (m5, .inl (cI, 64, .inl (nF Mq))), (m6, .inl (cI, 64, .inl (nF Fq))), (m7, .inl (cI, 64, .inl (nF Lq))), (m8, .inl (cI, 64, .inl (nF Zq))), (m9, .inl (cI, 64, .inl (nF Oq))), (m10, .inl (cI, 64, .inl (nF Nq)))] H := hP
      have hD : va_D A [(m0, .inr (5, [.ref m1, .ref m2, .ref m3, .int (nI (G 0)), .int (nI (G 1)), .int (nI (G 2)), .int (nI (G 3)), .ref m4, .ref m5, .int (nI nq), .ref m6, .ref m7, .ref m8, .ref m9, .ref m10, .int (nI aq)])), (m1, .inl (cI, 64, .inl (nF T))), (m2, .inl (cI, 64, .inl (nF U))), (m3, .inl (cZ, 64, .inl (nF B))), (m4, .inl (cI, 64, .inl (nF Wq))), (m5, .inl (cI, 64, .inl (nF Mq))), (m6, .inl (cI, 64, .inl (nF Fq))), (m7, .inl (cI, 64, .inl (nF Lq))), (m8, .inl (cI, 64, .inl (nF Zq))), (m9, .inl (cI, 64, .inl (nF Oq))), (m10, .inl (cI, 64, .inl (nF Nq)))] := hD
      have hnp : nq ≤ 64 := by rw [hnDq]; exact npf_le _ _ _ _
      refine lv_iload_n hx hb dX5_cut_15 rfl (lv_at hl 2 rfl) ?_
      refine lv_iconst (v := nI 0) hx hb dX5_cut_16 (by decide) ?_
      refine lv_aload_n hx hb dX5_cut_17 rfl (lv_at hl 0 rfl) ?_
      refine va_get (D := D) (ci := 5) (v := .int (nI nq)) (C := RX5) (T := TX5) (N := 16) hx hb hts hinX5 hown hK hP 0 rfl rfl 9 (by decide) lk1 (fun _ h9 => h9) rfl dX5_cut_18 ?_
      refine lv_iconst (v := nI 1) hx hb dX5_cut_21 (by decide) ?_
      refine lv_isub hx hb dX5_cut_22 ?_
      refine gcS (As := [.int (i), .int (nI 0), .int ((nI nq) - (nI 1))]) (rest := []) ⟨hx, hb, hml, hown, hts⟩ (c_X5_in l i (nI 0) ((nI nq) - (nI 1)) ) (va_cwS 3 hts gX5_cut_X5_in rfl rfl rfl (by decide +kernel) ⟨Nat.le_of_ble_eq_true rfl, Nat.le_of_ble_eq_true rfl⟩) hl.1 rfl rfl (Nat.le_of_ble_eq_true rfl) ⟨Nat.zero_le _, Nat.zero_le _⟩ dX5_cut_23 ?_
      refine nv_ifb_eq (tgt := 38) hx hb dX5_cut_26 (by decide) (fun c_3 => ?_) (fun c_3 => ?_)
      · skip
        have nokk : ¬ okk i (npf G T U 1) := by rw [← hnDq]; exact fun q => c_3 ((in_okk hnp).mpr q)
        refine lv_bipush (v := (-3)) hx hb dX5_cut_38 (by decide) ?_
        exact hret _ (Wq, Mq, Fq, Lq, Zq, nq, Oq, Nq, aq) _ _ _ _ dX5_cut_40 (by unfold aCut; rw [if_pos (Or.inr rfl), show (nI 1).toNatClampNeg = 1 from rfl, if_neg nokk]) hP hD hS
      · skip
        have hik := (in_okk hnp).mp c_3
        obtain ⟨ii, hii, rfl⟩ := up_to (by omega) hik.1 hik.2
        rw [hnDq] at hii hik
        have hk64 := npf_le G T U 1
        refine lv_aload_n hx hb dX5_cut_29 rfl (lv_at hl 0 rfl) ?_
        refine va_get (D := D) (ci := 5) (v := .ref m9) (C := RX5) (T := TX5) (N := 16) hx hb hts hinX5 hown hK hP 0 rfl rfl 13 (by decide) lk2 (fun _ h9 => h9) rfl dX5_cut_30 ?_
        refine lv_iload_n hx hb dX5_cut_33 rfl (lv_at hl 2 rfl) ?_
        refine nv_iald hx hb hK hP 9 rfl (by omega) (by decide) dX5_cut_34 ?_
        refine lv_goto (tgt := 40) hx hb dX5_cut_35 (by decide) ?_
        exact hret _ (Wq, Mq, Fq, Lq, Zq, nq, Oq, Nq, aq) _ _ _ _ dX5_cut_40 (by unfold aCut; rw [if_pos (Or.inr rfl), show (nI 1).toNatClampNeg = 1 from rfl, if_pos hik, cl_n (by omega), hOq ii hii]) hP hD hS
  · skip
    have nokl := c_1
    refine lv_bipush (v := (-2)) hx hb dX5_cut_7 (by decide) ?_
    exact hret _ (Wm, M, F, L, Z, np, Om, Nm, ai) _ _ _ _ dX5_cut_9 (by unfold aCut; rw [if_neg nokl]) hP hD hS

set_option maxHeartbeats 4000000 in
set_option maxRecDepth 100000 in
theorem c_X5_begin (l : Launch) (D : va_G) (cI cZ : ClassId) (tt : Nat → Nat) (sz : Nat) (m0 m1 m2 m3 m4 m5 m6 m7 m8 m9 m10 : Nat) (np ai : Nat) (T U B G Wm M F L Z Om Nm : Nat → Nat) (ly i : Int32) (hT : ∀ k, T k ≤ 100) (hU : ∀ k, U k < 8) (hGs : ∀ k, G k ≤ 100) : MI l yX5_begin wsX5_begin ({ frames := 5, cells := 0, slots := 0, locals := 121 } : Room) D cI cZ tt [.ref m0, .int (ly), .int (i)] [(m0, .inr (5, [.ref m1, .ref m2, .ref m3, .int (nI (G 0)), .int (nI (G 1)), .int (nI (G 2)), .int (nI (G 3)), .ref m4, .ref m5, .int (nI np), .ref m6, .ref m7, .ref m8, .ref m9, .ref m10, .int (nI ai)])), (m1, .inl (cI, 64, .inl (nF T))), (m2, .inl (cI, 64, .inl (nF U))), (m3, .inl (cZ, 64, .inl (nF B))), (m4, .inl (cI, 64, .inl (nF Wm))), (m5, .inl (cI, 64, .inl (nF M))), (m6, .inl (cI, 64, .inl (nF F))), (m7, .inl (cI, 64, .inl (nF L))), (m8, .inl (cI, 64, .inl (nF Z))), (m9, .inl (cI, 64, .inl (nF Om))), (m10, .inl (cI, 64, .inl (nF Nm)))] sz (fun (r : Int32) (u : (Nat → Nat) × (Nat → Nat) × (Nat → Nat) × (Nat → Nat) × (Nat → Nat) × (Nat) × (Nat → Nat) × (Nat → Nat) × (Nat)) => r = aBegin G T U ly i) (fun (u : (Nat → Nat) × (Nat → Nat) × (Nat → Nat) × (Nat → Nat) × (Nat → Nat) × (Nat) × (Nat → Nat) × (Nat → Nat) × (Nat)) => [(m0, .inr (5, [.ref m1, .ref m2, .ref m3, .int (nI (G 0)), .int (nI (G 1)), .int (nI (G 2)), .int (nI (G 3)), .ref m4, .ref m5, .int (nI u.2.2.2.2.2.1), .ref m6, .ref m7, .ref m8, .ref m9, .ref m10, .int (nI u.2.2.2.2.2.2.2.2)])), (m1, .inl (cI, 64, .inl (nF T))), (m2, .inl (cI, 64, .inl (nF U))), (m3, .inl (cZ, 64, .inl (nF B))), (m4, .inl (cI, 64, .inl (nF u.1))), (m5, .inl (cI, 64, .inl (nF u.2.1))), (m6, .inl (cI, 64, .inl (nF u.2.2.1))), (m7, .inl (cI, 64, .inl (nF u.2.2.2.1))), (m8, .inl (cI, 64, .inl (nF u.2.2.2.2.1))), (m9, .inl (cI, 64, .inl (nF u.2.2.2.2.2.2.1))), (m10, .inl (cI, 64, .inl (nF u.2.2.2.2.2.2.2.1)))]) := by
  refine entI (cc := cX5_begin) 3 (by decide) rfl (Nat.le_of_ble_eq_true rfl) (Or.inl rfl) (fun pr e s m args below meth c0 A Q H ls hx hb hml hown hts hsz hA hP hK hD hS hG hret hl => ?_)
  have hown : s.vm.findClass RX5 = some m.cls := hown
  have lk1 := hts (.fieldLink RX5 95 "BurinLinesModel" "paths" "I") (by decide +kernel)
  have lk2 := hts (.fieldLink RX5 51 "BurinLinesModel" "begun" "[I") (by decide +kernel)
  have hinX5 : ∀ w ∈ wsX50, w ∈ wsX5_begin := by decide +kernel
  have hl : lv_has ls 3 [(0, .ref m0), (1, .int (ly)), (2, .int (i))] := hl
  refine lv_iload_n hx hb dX5_begin_0 rfl (lv_at hl 1 rfl) ?_
  refine gcS (As := [.int (ly)]) (rest := []) ⟨hx, hb, hml, hown, hts⟩ (c_X5_isLayer l ly ) (va_cwS 1 hts gX5_begin_X5_isLayer rfl rfl rfl (by decide +kernel) ⟨Nat.le_of_ble_eq_true rfl, Nat.le_of_ble_eq_true rfl⟩) hl.1 rfl rfl (Nat.le_of_ble_eq_true rfl) ⟨Nat.zero_le _, Nat.zero_le _⟩ dX5_begin_1 ?_
  refine nv_ifb_ne (tgt := 10) hx hb dX5_begin_4 (by decide) (fun c_1 => ?_) (fun c_1 => ?_)
  · skip
    rcases c_1 with hL | hL
    · skip
      obtain rfl : ly = nI 0 := hL.trans nI_0.symm
      refine lv_aload_n hx hb dX5_begin_10 rfl (lv_at hl 0 rfl) ?_
      refine lv_iload_n hx hb dX5_begin_11 rfl (lv_at hl 1 rfl) ?_
      refine gcVv (ws' := fun (u : (Nat → Nat) × (Nat → Nat) × (Nat → Nat) × (Nat → Nat) × (Nat → Nat) × (Nat) × (Nat → Nat) × (Nat → Nat) × (Nat)) => [(m0, .inr (5, [.ref m1, .ref m2, .ref m3, .int (nI (G 0)), .int (nI (G 1)), .int (nI (G 2)), .int (nI (G 3)), .ref m4, .ref m5, .int (nI u.2.2.2.2.2.1), .ref m6, .ref m7, .ref m8, .ref m9, .ref m10, .int (nI u.2.2.2.2.2.2.2.2)])), (m1, .inl (cI, 64, .inl (nF T))), (m2, .inl (cI, 64, .inl (nF U))), (m3, .inl (cZ, 64, .inl (nF B))), (m4, .inl (cI, 64, .inl (nF u.1))), (m5, .inl (cI, 64, .inl (nF u.2.1))), (m6, .inl (cI, 64, .inl (nF u.2.2.1))), (m7, .inl (cI, 64, .inl (nF u.2.2.2.1))), (m8, .inl (cI, 64, .inl (nF u.2.2.2.2.1))), (m9, .inl (cI, 64, .inl (nF u.2.2.2.2.2.2.1))), (m10, .inl (cI, 64, .inl (nF u.2.2.2.2.2.2.2.1)))]) (wr := []) (ci := 5) (q0 := 0) (As := [.int (nI 0)]) (rest := []) ⟨hx, hb, hml, hown, hts⟩ (c_X5_findOrder l D cI cZ tt H.size m0 m1 m2 m3 m4 m5 m6 m7 m8 m9 m10 np ai T U B G Wm M F L Z Om Nm 0 (by first | assumption | omega) (by first | assumption | omega) (by first | assumption | omega) (by first | assumption | omega)) (cwV 1 hts gX5_begin_X5_findOrder rfl rfl rfl (by decide +kernel) ⟨Nat.le_of_ble_eq_true rfl, Nat.le_of_ble_eq_true rfl⟩) hP hK hD hS hA hG rfl rfl [0, 1, 2, 3, 4, 5, 6, 7, 8, 9, 10] [] [0, 1, 2, 3, 4, 5, 6, 7, 8, 9, 10] (by decide) rfl rfl (by decide) (by decide) (by decide) (fun _ => rfl) hl.1 rfl rfl (Nat.le_of_ble_eq_true rfl) ⟨Nat.zero_le _, Nat.zero_le _⟩ dX5_begin_12 (fun  u H locs hp hP hD hS => ?_)
      obtain ⟨Wq, Mq, Fq, Lq, Zq, nq, Oq, Nq, aq⟩ := u
      obtain ⟨hnDq, hOq, hNq, hAq⟩ := hp
      have hnDq : nq = npf G T U 0 := hnDq
      have hOq : ∀ j, j < npf G T U 0 → Oq j = odf G T U 0 j := hOq
      have hNq : ∀ j, j < npf G T U 0 → Nq j = bgf G T U 0 j := hNq
      have hAq : aq = arf G T U 0 := hAq
      have hP : va_P D vwCl [(m0, .inr (5, [.ref m1, .ref m2, .ref m3, .int (nI (G 0)), .int (nI (G 1)), .int (nI (G 2)), .int (nI (G 3)), .ref m4, .ref m5, .int (nI nq), .ref m6, .ref m7, .ref m8, .ref m9, .ref m10, .int (nI aq)])), (m1, .inl (cI, 64, .inl (nF T))), (m2, .inl (cI, 64, .inl (nF U))), (m3, .inl (cZ, 64, .inl (nF B))), (m4, .inl (cI, 64, .inl (nF Wq))), (m5, .inl (cI, 64, .inl (nF Mq))), (m6, .inl (cI, 64, .inl (nF Fq))), (m7, .inl (cI, 64, .inl (nF Lq))), (m8, .inl (cI, 64, .inl (nF Zq))), (m9, .inl (cI, 64, .inl (nF Oq))), (m10, .inl (cI, 64, .inl (nF Nq)))] H := hP
      have hD : va_D A [(m0, .inr (5, [.ref m1, .ref m2, .ref m3, .int (nI (G 0)), .int (nI (G 1)), .int (nI (G 2)), .int (nI (G 3)), .ref m4, .ref m5, .int (nI nq), .ref m6, .ref m7, .ref m8, .ref m9, .ref m10, .int (nI aq)])), (m1, .inl (cI, 64, .inl (nF T))), (m2, .inl (cI, 64, .inl (nF U))), (m3, .inl (cZ, 64, .inl (nF B))), (m4, .inl (cI, 64, .inl (nF Wq))), (m5, .inl (cI, 64, .inl (nF Mq))), (m6, .inl (cI, 64, .inl (nF Fq))), (m7, .inl (cI, 64, .inl (nF Lq))), (m8, .inl (cI, 64, .inl (nF Zq))), (m9, .inl (cI, 64, .inl (nF Oq))), (m10, .inl (cI, 64, .inl (nF Nq)))] := hD
      have hnp : nq ≤ 64 := by rw [hnDq]; exact npf_le _ _ _ _
      refine lv_iload_n hx hb dX5_begin_15 rfl (lv_at hl 2 rfl) ?_
      refine lv_iconst (v := nI 0) hx hb dX5_begin_16 (by decide) ?_
      refine lv_aload_n hx hb dX5_begin_17 rfl (lv_at hl 0 rfl) ?_
      refine va_get (D := D) (ci := 5) (v := .int (nI nq)) (C := RX5) (T := TX5) (N := 16) hx hb hts hinX5 hown hK hP 0 rfl rfl 9 (by decide) lk1 (fun _ h9 => h9) rfl dX5_begin_18 ?_
      refine lv_iconst (v := nI 1) hx hb dX5_begin_21 (by decide) ?_
      refine lv_isub hx hb dX5_begin_22 ?_
      refine gcS (As := [.int (i), .int (nI 0), .int ((nI nq) - (nI 1))]) (rest := []) ⟨hx, hb, hml, hown, hts⟩ (c_X5_in l i (nI 0) ((nI nq) - (nI 1)) ) (va_cwS 3 hts gX5_begin_X5_in rfl rfl rfl (by decide +kernel) ⟨Nat.le_of_ble_eq_true rfl, Nat.le_of_ble_eq_true rfl⟩) hl.1 rfl rfl (Nat.le_of_ble_eq_true rfl) ⟨Nat.zero_le _, Nat.zero_le _⟩ dX5_begin_23 ?_
      refine nv_ifb_eq (tgt := 38) hx hb dX5_begin_26 (by decide) (fun c_2 => ?_) (fun c_2 => ?_)
      · skip
        have nokk : ¬ okk i (npf G T U 0) := by rw [← hnDq]; exact fun q => c_2 ((in_okk hnp).mpr q)
        refine lv_bipush (v := (-3)) hx hb dX5_begin_38 (by decide) ?_
        exact hret _ (Wq, Mq, Fq, Lq, Zq, nq, Oq, Nq, aq) _ _ _ _ dX5_begin_40 (by unfold aBegin; rw [if_pos (Or.inl nI_0), show (nI 0).toNatClampNeg = 0 from rfl, if_neg nokk]) hP hD hS
      · skip
        have hik := (in_okk hnp).mp c_2
        obtain ⟨ii, hii, rfl⟩ := up_to (by omega) hik.1 hik.2
        rw [hnDq] at hii hik
        have hk64 := npf_le G T U 0
        refine lv_aload_n hx hb dX5_begin_29 rfl (lv_at hl 0 rfl) ?_
        refine va_get (D := D) (ci := 5) (v := .ref m10) (C := RX5) (T := TX5) (N := 16) hx hb hts hinX5 hown hK hP 0 rfl rfl 14 (by decide) lk2 (fun _ h9 => h9) rfl dX5_begin_30 ?_
        refine lv_iload_n hx hb dX5_begin_33 rfl (lv_at hl 2 rfl) ?_
        refine nv_iald hx hb hK hP 10 rfl (by omega) (by decide) dX5_begin_34 ?_
        refine lv_goto (tgt := 40) hx hb dX5_begin_35 (by decide) ?_
        exact hret _ (Wq, Mq, Fq, Lq, Zq, nq, Oq, Nq, aq) _ _ _ _ dX5_begin_40 (by unfold aBegin; rw [if_pos (Or.inl nI_0), show (nI 0).toNatClampNeg = 0 from rfl, if_pos hik, cl_n (by omega), hNq ii hii]) hP hD hS
    · skip
      obtain rfl : ly = nI 1 := hL
      refine lv_aload_n hx hb dX5_begin_10 rfl (lv_at hl 0 rfl) ?_
      refine lv_iload_n hx hb dX5_begin_11 rfl (lv_at hl 1 rfl) ?_
      refine gcVv (ws' := fun (u : (Nat → Nat) × (Nat → Nat) × (Nat → Nat) × (Nat → Nat) × (Nat → Nat) × (Nat) × (Nat → Nat) × (Nat → Nat) × (Nat)) => [(m0, .inr (5, [.ref m1, .ref m2, .ref m3, .int (nI (G 0)), .int (nI (G 1)), .int (nI (G 2)), .int (nI (G 3)), .ref m4, .ref m5, .int (nI u.2.2.2.2.2.1), .ref m6, .ref m7, .ref m8, .ref m9, .ref m10, .int (nI u.2.2.2.2.2.2.2.2)])), (m1, .inl (cI, 64, .inl (nF T))), (m2, .inl (cI, 64, .inl (nF U))), (m3, .inl (cZ, 64, .inl (nF B))), (m4, .inl (cI, 64, .inl (nF u.1))), (m5, .inl (cI, 64, .inl (nF u.2.1))), (m6, .inl (cI, 64, .inl (nF u.2.2.1))), (m7, .inl (cI, 64, .inl (nF u.2.2.2.1))), (m8, .inl (cI, 64, .inl (nF u.2.2.2.2.1))), (m9, .inl (cI, 64, .inl (nF u.2.2.2.2.2.2.1))), (m10, .inl (cI, 64, .inl (nF u.2.2.2.2.2.2.2.1)))]) (wr := []) (ci := 5) (q0 := 0) (As := [.int (nI 1)]) (rest := []) ⟨hx, hb, hml, hown, hts⟩ (c_X5_findOrder l D cI cZ tt H.size m0 m1 m2 m3 m4 m5 m6 m7 m8 m9 m10 np ai T U B G Wm M F L Z Om Nm 1 (by first | assumption | omega) (by first | assumption | omega) (by first | assumption | omega) (by first | assumption | omega)) (cwV 1 hts gX5_begin_X5_findOrder rfl rfl rfl (by decide +kernel) ⟨Nat.le_of_ble_eq_true rfl, Nat.le_of_ble_eq_true rfl⟩) hP hK hD hS hA hG rfl rfl [0, 1, 2, 3, 4, 5, 6, 7, 8, 9, 10] [] [0, 1, 2, 3, 4, 5, 6, 7, 8, 9, 10] (by decide) rfl rfl (by decide) (by decide) (by decide) (fun _ => rfl) hl.1 rfl rfl (Nat.le_of_ble_eq_true rfl) ⟨Nat.zero_le _, Nat.zero_le _⟩ dX5_begin_12 (fun  u H locs hp hP hD hS => ?_)
      obtain ⟨Wq, Mq, Fq, Lq, Zq, nq, Oq, Nq, aq⟩ := u
      obtain ⟨hnDq, hOq, hNq, hAq⟩ := hp
      have hnDq : nq = npf G T U 1 := hnDq
      have hOq : ∀ j, j < npf G T U 1 → Oq j = odf G T U 1 j := hOq
      have hNq : ∀ j, j < npf G T U 1 → Nq j = bgf G T U 1 j := hNq
      have hAq : aq = arf G T U 1 := hAq
      have hP : va_P D vwCl [(m0, .inr (5, [.ref m1, .ref m2, .ref m3, .int (nI (G 0)), .int (nI (G 1)), .int (nI (G 2)), .int (nI (G 3)), .ref m4, .ref m5, .int (nI nq), .ref m6, .ref m7, .ref m8, .ref m9, .ref m10, .int (nI aq)])), (m1, .inl (cI, 64, .inl (nF T))), (m2, .inl (cI, 64, .inl (nF U))), (m3, .inl (cZ, 64, .inl (nF B))), (m4, .inl (cI, 64, .inl (nF Wq))), (m5, .inl (cI, 64, .inl (nF Mq))), (m6, .inl (cI, 64, .inl (nF Fq))), (m7, .inl (cI, 64, .inl (nF Lq))), (m8, .inl (cI, 64, .inl (nF Zq))), (m9, .inl (cI, 64, .inl (nF Oq))), (m10, .inl (cI, 64, .inl (nF Nq)))] H := hP
      have hD : va_D A [(m0, .inr (5, [.ref m1, .ref m2, .ref m3, .int (nI (G 0)), .int (nI (G 1)), .int (nI (G 2)), .int (nI (G 3)), .ref m4, .ref m5, .int (nI nq), .ref m6, .ref m7, .ref m8, .ref m9, .ref m10, .int (nI aq)])), (m1, .inl (cI, 64, .inl (nF T))), (m2, .inl (cI, 64, .inl (nF U))), (m3, .inl (cZ, 64, .inl (nF B))), (m4, .inl (cI, 64, .inl (nF Wq))), (m5, .inl (cI, 64, .inl (nF Mq))), (m6, .inl (cI, 64, .inl (nF Fq))), (m7, .inl (cI, 64, .inl (nF Lq))), (m8, .inl (cI, 64, .inl (nF Zq))), (m9, .inl (cI, 64, .inl (nF Oq))), (m10, .inl (cI, 64, .inl (nF Nq)))] := hD
      have hnp : nq ≤ 64 := by rw [hnDq]; exact npf_le _ _ _ _
      refine lv_iload_n hx hb dX5_begin_15 rfl (lv_at hl 2 rfl) ?_
      refine lv_iconst (v := nI 0) hx hb dX5_begin_16 (by decide) ?_
      refine lv_aload_n hx hb dX5_begin_17 rfl (lv_at hl 0 rfl) ?_
      refine va_get (D := D) (ci := 5) (v := .int (nI nq)) (C := RX5) (T := TX5) (N := 16) hx hb hts hinX5 hown hK hP 0 rfl rfl 9 (by decide) lk1 (fun _ h9 => h9) rfl dX5_begin_18 ?_
      refine lv_iconst (v := nI 1) hx hb dX5_begin_21 (by decide) ?_
      refine lv_isub hx hb dX5_begin_22 ?_
      refine gcS (As := [.int (i), .int (nI 0), .int ((nI nq) - (nI 1))]) (rest := []) ⟨hx, hb, hml, hown, hts⟩ (c_X5_in l i (nI 0) ((nI nq) - (nI 1)) ) (va_cwS 3 hts gX5_begin_X5_in rfl rfl rfl (by decide +kernel) ⟨Nat.le_of_ble_eq_true rfl, Nat.le_of_ble_eq_true rfl⟩) hl.1 rfl rfl (Nat.le_of_ble_eq_true rfl) ⟨Nat.zero_le _, Nat.zero_le _⟩ dX5_begin_23 ?_
      refine nv_ifb_eq (tgt := 38) hx hb dX5_begin_26 (by decide) (fun c_3 => ?_) (fun c_3 => ?_)
      · skip
        have nokk : ¬ okk i (npf G T U 1) := by rw [← hnDq]; exact fun q => c_3 ((in_okk hnp).mpr q)
        refine lv_bipush (v := (-3)) hx hb dX5_begin_38 (by decide) ?_
        exact hret _ (Wq, Mq, Fq, Lq, Zq, nq, Oq, Nq, aq) _ _ _ _ dX5_begin_40 (by unfold aBegin; rw [if_pos (Or.inr rfl), show (nI 1).toNatClampNeg = 1 from rfl, if_neg nokk]) hP hD hS
      · skip
        have hik := (in_okk hnp).mp c_3
        obtain ⟨ii, hii, rfl⟩ := up_to (by omega) hik.1 hik.2
        rw [hnDq] at hii hik
        have hk64 := npf_le G T U 1
        refine lv_aload_n hx hb dX5_begin_29 rfl (lv_at hl 0 rfl) ?_
        refine va_get (D := D) (ci := 5) (v := .ref m10) (C := RX5) (T := TX5) (N := 16) hx hb hts hinX5 hown hK hP 0 rfl rfl 14 (by decide) lk2 (fun _ h9 => h9) rfl dX5_begin_30 ?_
        refine lv_iload_n hx hb dX5_begin_33 rfl (lv_at hl 2 rfl) ?_
        refine nv_iald hx hb hK hP 10 rfl (by omega) (by decide) dX5_begin_34 ?_
        refine lv_goto (tgt := 40) hx hb dX5_begin_35 (by decide) ?_
        exact hret _ (Wq, Mq, Fq, Lq, Zq, nq, Oq, Nq, aq) _ _ _ _ dX5_begin_40 (by unfold aBegin; rw [if_pos (Or.inr rfl), show (nI 1).toNatClampNeg = 1 from rfl, if_pos hik, cl_n (by omega), hNq ii hii]) hP hD hS
  · skip
    have nokl := c_1
    refine lv_bipush (v := (-2)) hx hb dX5_begin_7 (by decide) ?_
    exact hret _ (Wm, M, F, L, Z, np, Om, Nm, ai) _ _ _ _ dX5_begin_9 (by unfold aBegin; rw [if_neg nokl]) hP hD hS

set_option maxHeartbeats 4000000 in
set_option maxRecDepth 100000 in
theorem c_X5_air (l : Launch) (D : va_G) (cI cZ : ClassId) (tt : Nat → Nat) (sz : Nat) (m0 m1 m2 m3 m4 m5 m6 m7 m8 m9 m10 : Nat) (np ai : Nat) (T U B G Wm M F L Z Om Nm : Nat → Nat) (ly : Int32) (hT : ∀ k, T k ≤ 100) (hU : ∀ k, U k < 8) (hGs : ∀ k, G k ≤ 100) : MI l yX5_air wsX5_air ({ frames := 5, cells := 0, slots := 0, locals := 121 } : Room) D cI cZ tt [.ref m0, .int (ly)] [(m0, .inr (5, [.ref m1, .ref m2, .ref m3, .int (nI (G 0)), .int (nI (G 1)), .int (nI (G 2)), .int (nI (G 3)), .ref m4, .ref m5, .int (nI np), .ref m6, .ref m7, .ref m8, .ref m9, .ref m10, .int (nI ai)])), (m1, .inl (cI, 64, .inl (nF T))), (m2, .inl (cI, 64, .inl (nF U))), (m3, .inl (cZ, 64, .inl (nF B))), (m4, .inl (cI, 64, .inl (nF Wm))), (m5, .inl (cI, 64, .inl (nF M))), (m6, .inl (cI, 64, .inl (nF F))), (m7, .inl (cI, 64, .inl (nF L))), (m8, .inl (cI, 64, .inl (nF Z))), (m9, .inl (cI, 64, .inl (nF Om))), (m10, .inl (cI, 64, .inl (nF Nm)))] sz (fun (r : Int32) (u : (Nat → Nat) × (Nat → Nat) × (Nat → Nat) × (Nat → Nat) × (Nat → Nat) × (Nat) × (Nat → Nat) × (Nat → Nat) × (Nat)) => r = aAir G T U ly) (fun (u : (Nat → Nat) × (Nat → Nat) × (Nat → Nat) × (Nat → Nat) × (Nat → Nat) × (Nat) × (Nat → Nat) × (Nat → Nat) × (Nat)) => [(m0, .inr (5, [.ref m1, .ref m2, .ref m3, .int (nI (G 0)), .int (nI (G 1)), .int (nI (G 2)), .int (nI (G 3)), .ref m4, .ref m5, .int (nI u.2.2.2.2.2.1), .ref m6, .ref m7, .ref m8, .ref m9, .ref m10, .int (nI u.2.2.2.2.2.2.2.2)])), (m1, .inl (cI, 64, .inl (nF T))), (m2, .inl (cI, 64, .inl (nF U))), (m3, .inl (cZ, 64, .inl (nF B))), (m4, .inl (cI, 64, .inl (nF u.1))), (m5, .inl (cI, 64, .inl (nF u.2.1))), (m6, .inl (cI, 64, .inl (nF u.2.2.1))), (m7, .inl (cI, 64, .inl (nF u.2.2.2.1))), (m8, .inl (cI, 64, .inl (nF u.2.2.2.2.1))), (m9, .inl (cI, 64, .inl (nF u.2.2.2.2.2.2.1))), (m10, .inl (cI, 64, .inl (nF u.2.2.2.2.2.2.2.1)))]) := by
  refine entI (cc := cX5_air) 2 (by decide) rfl (Nat.le_of_ble_eq_true rfl) (Or.inl rfl) (fun pr e s m args below meth c0 A Q H ls hx hb hml hown hts hsz hA hP hK hD hS hG hret hl => ?_)
  have hown : s.vm.findClass RX5 = some m.cls := hown
  have lk1 := hts (.fieldLink RX5 109 "BurinLinesModel" "air" "I") (by decide +kernel)
  have hinX5 : ∀ w ∈ wsX50, w ∈ wsX5_air := by decide +kernel
  have hl : lv_has ls 2 [(0, .ref m0), (1, .int (ly))] := hl
  refine lv_iload_n hx hb dX5_air_0 rfl (lv_at hl 1 rfl) ?_
  refine gcS (As := [.int (ly)]) (rest := []) ⟨hx, hb, hml, hown, hts⟩ (c_X5_isLayer l ly ) (va_cwS 1 hts gX5_air_X5_isLayer rfl rfl rfl (by decide +kernel) ⟨Nat.le_of_ble_eq_true rfl, Nat.le_of_ble_eq_true rfl⟩) hl.1 rfl rfl (Nat.le_of_ble_eq_true rfl) ⟨Nat.zero_le _, Nat.zero_le _⟩ dX5_air_1 ?_
  refine nv_ifb_ne (tgt := 10) hx hb dX5_air_4 (by decide) (fun c_1 => ?_) (fun c_1 => ?_)
  · skip
    rcases c_1 with hL | hL
    · skip
      obtain rfl : ly = nI 0 := hL.trans nI_0.symm
      refine lv_aload_n hx hb dX5_air_10 rfl (lv_at hl 0 rfl) ?_
      refine lv_iload_n hx hb dX5_air_11 rfl (lv_at hl 1 rfl) ?_
      refine gcVv (ws' := fun (u : (Nat → Nat) × (Nat → Nat) × (Nat → Nat) × (Nat → Nat) × (Nat → Nat) × (Nat) × (Nat → Nat) × (Nat → Nat) × (Nat)) => [(m0, .inr (5, [.ref m1, .ref m2, .ref m3, .int (nI (G 0)), .int (nI (G 1)), .int (nI (G 2)), .int (nI (G 3)), .ref m4, .ref m5, .int (nI u.2.2.2.2.2.1), .ref m6, .ref m7, .ref m8, .ref m9, .ref m10, .int (nI u.2.2.2.2.2.2.2.2)])), (m1, .inl (cI, 64, .inl (nF T))), (m2, .inl (cI, 64, .inl (nF U))), (m3, .inl (cZ, 64, .inl (nF B))), (m4, .inl (cI, 64, .inl (nF u.1))), (m5, .inl (cI, 64, .inl (nF u.2.1))), (m6, .inl (cI, 64, .inl (nF u.2.2.1))), (m7, .inl (cI, 64, .inl (nF u.2.2.2.1))), (m8, .inl (cI, 64, .inl (nF u.2.2.2.2.1))), (m9, .inl (cI, 64, .inl (nF u.2.2.2.2.2.2.1))), (m10, .inl (cI, 64, .inl (nF u.2.2.2.2.2.2.2.1)))]) (wr := []) (ci := 5) (q0 := 0) (As := [.int (nI 0)]) (rest := []) ⟨hx, hb, hml, hown, hts⟩ (c_X5_findOrder l D cI cZ tt H.size m0 m1 m2 m3 m4 m5 m6 m7 m8 m9 m10 np ai T U B G Wm M F L Z Om Nm 0 (by first | assumption | omega) (by first | assumption | omega) (by first | assumption | omega) (by first | assumption | omega)) (cwV 1 hts gX5_air_X5_findOrder rfl rfl rfl (by decide +kernel) ⟨Nat.le_of_ble_eq_true rfl, Nat.le_of_ble_eq_true rfl⟩) hP hK hD hS hA hG rfl rfl [0, 1, 2, 3, 4, 5, 6, 7, 8, 9, 10] [] [0, 1, 2, 3, 4, 5, 6, 7, 8, 9, 10] (by decide) rfl rfl (by decide) (by decide) (by decide) (fun _ => rfl) hl.1 rfl rfl (Nat.le_of_ble_eq_true rfl) ⟨Nat.zero_le _, Nat.zero_le _⟩ dX5_air_12 (fun  u H locs hp hP hD hS => ?_)
      obtain ⟨Wq, Mq, Fq, Lq, Zq, nq, Oq, Nq, aq⟩ := u
      obtain ⟨hnDq, hOq, hNq, hAq⟩ := hp
      have hnDq : nq = npf G T U 0 := hnDq
      have hOq : ∀ j, j < npf G T U 0 → Oq j = odf G T U 0 j := hOq
      have hNq : ∀ j, j < npf G T U 0 → Nq j = bgf G T U 0 j := hNq
      have hAq : aq = arf G T U 0 := hAq
      have hP : va_P D vwCl [(m0, .inr (5, [.ref m1, .ref m2, .ref m3, .int (nI (G 0)), .int (nI (G 1)), .int (nI (G 2)), .int (nI (G 3)), .ref m4, .ref m5, .int (nI nq), .ref m6, .ref m7, .ref m8, .ref m9, .ref m10, .int (nI aq)])), (m1, .inl (cI, 64, .inl (nF T))), (m2, .inl (cI, 64, .inl (nF U))), (m3, .inl (cZ, 64, .inl (nF B))), (m4, .inl (cI, 64, .inl (nF Wq))), (m5, .inl (cI, 64, .inl (nF Mq))), (m6, .inl (cI, 64, .inl (nF Fq))), (m7, .inl (cI, 64, .inl (nF Lq))), (m8, .inl (cI, 64, .inl (nF Zq))), (m9, .inl (cI, 64, .inl (nF Oq))), (m10, .inl (cI, 64, .inl (nF Nq)))] H := hP
      have hD : va_D A [(m0, .inr (5, [.ref m1, .ref m2, .ref m3, .int (nI (G 0)), .int (nI (G 1)), .int (nI (G 2)), .int (nI (G 3)), .ref m4, .ref m5, .int (nI nq), .ref m6, .ref m7, .ref m8, .ref m9, .ref m10, .int (nI aq)])), (m1, .inl (cI, 64, .inl (nF T))), (m2, .inl (cI, 64, .inl (nF U))), (m3, .inl (cZ, 64, .inl (nF B))), (m4, .inl (cI, 64, .inl (nF Wq))), (m5, .inl (cI, 64, .inl (nF Mq))), (m6, .inl (cI, 64, .inl (nF Fq))), (m7, .inl (cI, 64, .inl (nF Lq))), (m8, .inl (cI, 64, .inl (nF Zq))), (m9, .inl (cI, 64, .inl (nF Oq))), (m10, .inl (cI, 64, .inl (nF Nq)))] := hD
      refine lv_aload_n hx hb dX5_air_15 rfl (lv_at hl 0 rfl) ?_
      refine va_get (D := D) (ci := 5) (v := .int (nI aq)) (C := RX5) (T := TX5) (N := 16) hx hb hts hinX5 hown hK hP 0 rfl rfl 15 (by decide) lk1 (fun _ h9 => h9) rfl dX5_air_16 ?_
      exact hret _ (Wq, Mq, Fq, Lq, Zq, nq, Oq, Nq, aq) _ _ _ _ dX5_air_19 (by unfold aAir; rw [if_pos (Or.inl nI_0), show (nI 0).toNatClampNeg = 0 from rfl, hAq]) hP hD hS
    · skip
      obtain rfl : ly = nI 1 := hL
      refine lv_aload_n hx hb dX5_air_10 rfl (lv_at hl 0 rfl) ?_
      refine lv_iload_n hx hb dX5_air_11 rfl (lv_at hl 1 rfl) ?_
      refine gcVv (ws' := fun (u : (Nat → Nat) × (Nat → Nat) × (Nat → Nat) × (Nat → Nat) × (Nat → Nat) × (Nat) × (Nat → Nat) × (Nat → Nat) × (Nat)) => [(m0, .inr (5, [.ref m1, .ref m2, .ref m3, .int (nI (G 0)), .int (nI (G 1)), .int (nI (G 2)), .int (nI (G 3)), .ref m4, .ref m5, .int (nI u.2.2.2.2.2.1), .ref m6, .ref m7, .ref m8, .ref m9, .ref m10, .int (nI u.2.2.2.2.2.2.2.2)])), (m1, .inl (cI, 64, .inl (nF T))), (m2, .inl (cI, 64, .inl (nF U))), (m3, .inl (cZ, 64, .inl (nF B))), (m4, .inl (cI, 64, .inl (nF u.1))), (m5, .inl (cI, 64, .inl (nF u.2.1))), (m6, .inl (cI, 64, .inl (nF u.2.2.1))), (m7, .inl (cI, 64, .inl (nF u.2.2.2.1))), (m8, .inl (cI, 64, .inl (nF u.2.2.2.2.1))), (m9, .inl (cI, 64, .inl (nF u.2.2.2.2.2.2.1))), (m10, .inl (cI, 64, .inl (nF u.2.2.2.2.2.2.2.1)))]) (wr := []) (ci := 5) (q0 := 0) (As := [.int (nI 1)]) (rest := []) ⟨hx, hb, hml, hown, hts⟩ (c_X5_findOrder l D cI cZ tt H.size m0 m1 m2 m3 m4 m5 m6 m7 m8 m9 m10 np ai T U B G Wm M F L Z Om Nm 1 (by first | assumption | omega) (by first | assumption | omega) (by first | assumption | omega) (by first | assumption | omega)) (cwV 1 hts gX5_air_X5_findOrder rfl rfl rfl (by decide +kernel) ⟨Nat.le_of_ble_eq_true rfl, Nat.le_of_ble_eq_true rfl⟩) hP hK hD hS hA hG rfl rfl [0, 1, 2, 3, 4, 5, 6, 7, 8, 9, 10] [] [0, 1, 2, 3, 4, 5, 6, 7, 8, 9, 10] (by decide) rfl rfl (by decide) (by decide) (by decide) (fun _ => rfl) hl.1 rfl rfl (Nat.le_of_ble_eq_true rfl) ⟨Nat.zero_le _, Nat.zero_le _⟩ dX5_air_12 (fun  u H locs hp hP hD hS => ?_)
      obtain ⟨Wq, Mq, Fq, Lq, Zq, nq, Oq, Nq, aq⟩ := u
      obtain ⟨hnDq, hOq, hNq, hAq⟩ := hp
      have hnDq : nq = npf G T U 1 := hnDq
      have hOq : ∀ j, j < npf G T U 1 → Oq j = odf G T U 1 j := hOq
      have hNq : ∀ j, j < npf G T U 1 → Nq j = bgf G T U 1 j := hNq
      have hAq : aq = arf G T U 1 := hAq
      have hP : va_P D vwCl [(m0, .inr (5, [.ref m1, .ref m2, .ref m3, .int (nI (G 0)), .int (nI (G 1)), .int (nI (G 2)), .int (nI (G 3)), .ref m4, .ref m5, .int (nI nq), .ref m6, .ref m7, .ref m8, .ref m9, .ref m10, .int (nI aq)])), (m1, .inl (cI, 64, .inl (nF T))), (m2, .inl (cI, 64, .inl (nF U))), (m3, .inl (cZ, 64, .inl (nF B))), (m4, .inl (cI, 64, .inl (nF Wq))), (m5, .inl (cI, 64, .inl (nF Mq))), (m6, .inl (cI, 64, .inl (nF Fq))), (m7, .inl (cI, 64, .inl (nF Lq))), (m8, .inl (cI, 64, .inl (nF Zq))), (m9, .inl (cI, 64, .inl (nF Oq))), (m10, .inl (cI, 64, .inl (nF Nq)))] H := hP
      have hD : va_D A [(m0, .inr (5, [.ref m1, .ref m2, .ref m3, .int (nI (G 0)), .int (nI (G 1)), .int (nI (G 2)), .int (nI (G 3)), .ref m4, .ref m5, .int (nI nq), .ref m6, .ref m7, .ref m8, .ref m9, .ref m10, .int (nI aq)])), (m1, .inl (cI, 64, .inl (nF T))), (m2, .inl (cI, 64, .inl (nF U))), (m3, .inl (cZ, 64, .inl (nF B))), (m4, .inl (cI, 64, .inl (nF Wq))), (m5, .inl (cI, 64, .inl (nF Mq))), (m6, .inl (cI, 64, .inl (nF Fq))), (m7, .inl (cI, 64, .inl (nF Lq))), (m8, .inl (cI, 64, .inl (nF Zq))), (m9, .inl (cI, 64, .inl (nF Oq))), (m10, .inl (cI, 64, .inl (nF Nq)))] := hD
      refine lv_aload_n hx hb dX5_air_15 rfl (lv_at hl 0 rfl) ?_
      refine va_get (D := D) (ci := 5) (v := .int (nI aq)) (C := RX5) (T := TX5) (N := 16) hx hb hts hinX5 hown hK hP 0 rfl rfl 15 (by decide) lk1 (fun _ h9 => h9) rfl dX5_air_16 ?_
      exact hret _ (Wq, Mq, Fq, Lq, Zq, nq, Oq, Nq, aq) _ _ _ _ dX5_air_19 (by unfold aAir; rw [if_pos (Or.inr rfl), show (nI 1).toNatClampNeg = 1 from rfl, hAq]) hP hD hS
  · skip
    have nokl := c_1
    refine lv_bipush (v := (-2)) hx hb dX5_air_7 (by decide) ?_
    exact hret _ (Wm, M, F, L, Z, np, Om, Nm, ai) _ _ _ _ dX5_air_9 (by unfold aAir; rw [if_neg nokl]) hP hD hS
