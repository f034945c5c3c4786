/-- the i-th STROKE from a PATH's last one; 64 behind its first -/
def bq (p y : Nat → Nat) (c i : Nat) : Nat := if i < ln p y c then ch p y c (ln p y c - 1 - i) else 64
theorem bq_next {p y : Nat → Nat} {c i : Nat} (hc : c < 64) (hb : bgn p y c) (hi : i < ln p y c) : tp p y (ch p y c (ln p y c - 1 - i)) = bq p y c (i + 1) := by
  unfold bq
  by_cases h : i + 1 < ln p y c
  · rw [if_pos h, show ln p y c - 1 - i = (ln p y c - 1 - (i + 1)) + 1 by omega]
    exact ch_back hc hb.1 (by omega)
  · rw [if_neg h, show ln p y c - 1 - i = 0 by omega]
    exact hb.2
theorem fw_succ (p y : Nat → Nat) (sw c i : Nat) : fw p y sw c (i + 1) = min (p (ch p y c (i + 1))) (fw p y sw c i + sw) := rfl

set_option maxHeartbeats 4000000 in
set_option maxRecDepth 100000 in
theorem c_X5_findLayer (l : Launch) (D : va_G) (cI cZ : ClassId) (tt : Nat → Nat) (sz : Nat) (m0 m1 m2 m3 m4 m5 m6 m7 m8 m9 m10 : Nat) (np ai : Nat) (T U B G Wm M F L Z Om Nm : Nat → Nat) (ly : Nat) (hT : ∀ k, T k ≤ 100) (hU : ∀ k, U k < 8) (hGs : ∀ k, G k ≤ 100) (hly : ly < 2) : MV l yX5_findLayer wsX5_findLayer ({ frames := 3, cells := 0, slots := 0, locals := 69 } : Room) D cI cZ tt [.ref m0, .int (nI ly)] [(m0, .inr (5, [.ref m1, .ref m2, .ref m3, .int (nI (G 0)), .int (nI (G 1)), .int (nI (G 2)), .int (nI (G 3)), .ref m4, .ref m5, .int (nI np), .ref m6, .ref m7, .ref m8, .ref m9, .ref m10, .int (nI ai)])), (m1, .inl (cI, 64, .inl (nF T))), (m2, .inl (cI, 64, .inl (nF U))), (m3, .inl (cZ, 64, .inl (nF B))), (m4, .inl (cI, 64, .inl (nF Wm))), (m5, .inl (cI, 64, .inl (nF M))), (m6, .inl (cI, 64, .inl (nF F))), (m7, .inl (cI, 64, .inl (nF L))), (m8, .inl (cI, 64, .inl (nF Z))), (m9, .inl (cI, 64, .inl (nF Om))), (m10, .inl (cI, 64, .inl (nF Nm)))] sz 0 0 (fun (u : (Nat → Nat) × (Nat → Nat) × (Nat → Nat) × (Nat → Nat) × (Nat → Nat) × (Nat)) => (LD (pW G T ly) (pY U ly) (G 3) u.2.1 u.2.2.1 u.2.2.2.1 u.2.2.2.2.1) ∧ (u.2.2.2.2.2 = npf G T U ly) ∧ (∀ k, k < 64 → u.1 k = pW G T ly k)) (fun (u : (Nat → Nat) × (Nat → Nat) × (Nat → Nat) × (Nat → Nat) × (Nat → Nat) × (Nat)) => [(m0, .inr (5, [.ref m1, .ref m2, .ref m3, .int (nI (G 0)), .int (nI (G 1)), .int (nI (G 2)), .int (nI (G 3)), .ref m4, .ref m5, .int (nI u.2.2.2.2.2), .ref m6, .ref m7, .ref m8, .ref m9, .ref m10, .int (nI ai)])), (m1, .inl (cI, 64, .inl (nF T))), (m2, .inl (cI, 64, .inl (nF U))), (m3, .inl (cZ, 64, .inl (nF B))), (m4, .inl (cI, 64, .inl (nF u.1))), (m5, .inl (cI, 64, .inl (nF u.2.1))), (m6, .inl (cI, 64, .inl (nF u.2.2.1))), (m7, .inl (cI, 64, .inl (nF u.2.2.2.1))), (m8, .inl (cI, 64, .inl (nF u.2.2.2.2.1))), (m9, .inl (cI, 64, .inl (nF Om))), (m10, .inl (cI, 64, .inl (nF Nm)))]) := by
  refine entV (cc := cX5_findLayer) 5 (by decide) rfl (Nat.le_of_ble_eq_true rfl) (fun pr e s m args below meth c0 A Q H ls hx hb hml hown hts hin hsz hA hP hK hD hS hG hret hl => ?_)
  have hown : s.vm.findClass RX5 = some m.cls := hown
  have lk1 := hts (.fieldLink RX5 95 "BurinLinesModel" "paths" "I") (by decide +kernel)
  have lk2 := hts (.fieldLink RX5 33 "BurinLinesModel" "want" "[I") (by decide +kernel)
  have lk3 := hts (.fieldLink RX5 39 "BurinLinesModel" "first" "[I") (by decide +kernel)
  have lk4 := hts (.fieldLink RX5 45 "BurinLinesModel" "size" "[I") (by decide +kernel)
  have lk5 := hts (.fieldLink RX5 42 "BurinLinesModel" "last" "[I") (by decide +kernel)
  have lk6 := hts (.fieldLink RX5 36 "BurinLinesModel" "made" "[I") (by decide +kernel)
  have lk7 := hts (.fieldLink RX5 30 "BurinLinesModel" "swell" "I") (by decide +kernel)
  have hinX5 : ∀ w ∈ wsX50, w ∈ wsX5_findLayer := by decide +kernel
  have hl : lv_has ls 5 [(0, .ref m0), (1, .int (nI ly))] := hl
  refine lv_iconst (v := nI 0) hx hb dX5_findLayer_0 (by decide) ?_
  refine lv_istore_n (lv' := [(2, .int (nI 0)), (0, .ref m0), (1, .int (nI ly))]) hx hb dX5_findLayer_1 rfl hl (by decide) rfl (fun ls hl => ?_)
  have L2 : ∀ (n : Nat) (i : Nat) (W1 : Nat → Nat) (M1 : Nat → Nat), 64 - i < n → (i ≤ 64) → (∀ k, k < i → W1 k = wd G (T k) ly) → (∀ k, k < i → M1 k = 0) → ∀ (H : Heap) (locs : List Loc) (ls : Array Slot), va_P D vwCl [(m0, .inr (5, [.ref m1, .ref m2, .ref m3, .int (nI (G 0)), .int (nI (G 1)), .int (nI (G 2)), .int (nI (G 3)), .ref m4, .ref m5, .int (nI np), .ref m6, .ref m7, .ref m8, .ref m9, .ref m10, .int (nI ai)])), (m1, .inl (cI, 64, .inl (nF T))), (m2, .inl (cI, 64, .inl (nF U))), (m3, .inl (cZ, 64, .inl (nF B))), (m4, .inl (cI, 64, .inl (nF W1))), (m5, .inl (cI, 64, .inl (nF M1))), (m6, .inl (cI, 64, .inl (nF F))), (m7, .inl (cI, 64, .inl (nF L))), (m8, .inl (cI, 64, .inl (nF Z))), (m9, .inl (cI, 64, .inl (nF Om))), (m10, .inl (cI, 64, .inl (nF Nm)))] H → va_D A [(m0, .inr (5, [.ref m1, .ref m2, .ref m3, .int (nI (G 0)), .int (nI (G 1)), .int (nI (G 2)), .int (nI (G 3)), .ref m4, .ref m5, .int (nI np), .ref m6, .ref m7, .ref m8, .ref m9, .ref m10, .int (nI ai)])), (m1, .inl (cI, 64, .inl (nF T))), (m2, .inl (cI, 64, .inl (nF U))), (m3, .inl (cZ, 64, .inl (nF B))), (m4, .inl (cI, 64, .inl (nF W1))), (m5, .inl (cI, 64, .inl (nF M1))), (m6, .inl (cI, 64, .inl (nF F))), (m7, .inl (cI, 64, .inl (nF L))), (m8, .inl (cI, 64, .inl (nF Z))), (m9, .inl (cI, 64, .inl (nF Om))), (m10, .inl (cI, 64, .inl (nF Nm)))] → va_S A s.heap H locs → lv_has ls 5 [(0, .ref m0), (1, .int (nI ly)), (2, .int (nI i))] → W pr l e ({ frames := 3, cells := 0, slots := 0, locals := 69 } : Room) s m args below meth c0 H locs 0 0 Q (F0 m 2 ls []) := by
    intro n
    induction n with
    | zero => intro i W1 M1 h0; exact absurd h0 (Nat.not_lt_zero _)
    | succ n ih2 =>
      intro i W1 M1 hm2 hi q1 q2 H locs ls hP hD hS hl
      refine lv_iload_n hx hb dX5_findLayer_2 rfl (lv_at hl 2 rfl) ?_
      refine lv_bipush (v := nI 64) hx hb dX5_findLayer_3 (by decide) ?_
      refine nv_icmp_ge (tgt := 33) hx hb dX5_findLayer_5 (by decide) (by omega) (by omega) (fun c_1 => ?_) (fun c_1 => ?_)
      · skip
        have h64 : i = 64 := by omega
        subst h64
        have hWp : ∀ k, k < 64 → W1 k = (pW G T ly) k := q1
        have hp := pW_le (G := G) (T := T) (ly := ly) hGs hT
        refine lv_aload_n hx hb dX5_findLayer_33 rfl (lv_at hl 0 rfl) ?_
        refine lv_iconst (v := nI 0) hx hb dX5_findLayer_34 (by decide) ?_
        refine va_put (D := D) (ci := 5) (v := .int (nI 0)) (ty := .int) (C := RX5) (T := TX5) (N := 16) hx hb hts hinX5 tyX5 tyX5_ok nmX5 hown hK hP hD hS 0 rfl rfl 9 (by decide) lk1 (fun _ h9 => h9) rfl (by decide +kernel) rfl rfl (Nat.le_of_ble_eq_true rfl) dX5_findLayer_35 (fun H locs hP hD hS => ?_)
        have hP : va_P D vwCl [(m0, .inr (5, [.ref m1, .ref m2, .ref m3, .int (nI (G 0)), .int (nI (G 1)), .int (nI (G 2)), .int (nI (G 3)), .ref m4, .ref m5, .int (nI 0), .ref m6, .ref m7, .ref m8, .ref m9, .ref m10, .int (nI ai)])), (m1, .inl (cI, 64, .inl (nF T))), (m2, .inl (cI, 64, .inl (nF U))), (m3, .inl (cZ, 64, .inl (nF B))), (m4, .inl (cI, 64, .inl (nF W1))), (m5, .inl (cI, 64, .inl (nF M1))), (m6, .inl (cI, 64, .inl (nF F))), (m7, .inl (cI, 64, .inl (nF L))), (m8, .inl (cI, 64, .inl (nF Z))), (m9, .inl (cI, 64, .inl (nF Om))), (m10, .inl (cI, 64, .inl (nF Nm)))] H := hP
        have hD : va_D A [(m0, .inr (5, [.ref m1, .ref m2, .ref m3, .int (nI (G 0)), .int (nI (G 1)), .int (nI (G 2)), .int (nI (G 3)), .ref m4, .ref m5, .int (nI 0), .ref m6, .ref m7, .ref m8, .ref m9, .ref m10, .int (nI ai)])), (m1, .inl (cI, 64, .inl (nF T))), (m2, .inl (cI, 64, .inl (nF U))), (m3, .inl (cZ, 64, .inl (nF B))), (m4, .inl (cI, 64, .inl (nF W1))), (m5, .inl (cI, 64, .inl (nF M1))), (m6, .inl (cI, 64, .inl (nF F))), (m7, .inl (cI, 64, .inl (nF L))), (m8, .inl (cI, 64, .inl (nF Z))), (m9, .inl (cI, 64, .inl (nF Om))), (m10, .inl (cI, 64, .inl (nF Nm)))] := hD
        refine lv_iconst (v := nI 0) hx hb dX5_findLayer_38 (by decide) ?_
        refine lv_istore_n (lv' := [(2, .int (nI 0)), (0, .ref m0), (1, .int (nI ly))]) hx hb dX5_findLayer_39 rfl hl (by decide) rfl (fun ls hl => ?_)
        have L40 : ∀ (n : Nat) (c : Nat) (M2 : Nat → Nat) (F2 : Nat → Nat) (L2 : Nat → Nat) (Z2 : Nat → Nat) (n2 : Nat), 64 - c < n → (c ≤ 64) → (n2 = cb (bgb (pW G T ly) (pY U ly)) c) → (LI (pW G T ly) (pY U ly) (G 3) (fun _ => 0) c M2 F2 L2 Z2) → ∀ (H : Heap) (locs : List Loc) (ls : Array Slot), va_P D vwCl [(m0, .inr (5, [.ref m1, .ref m2, .ref m3, .int (nI (G 0)), .int (nI (G 1)), .int (nI (G 2)), .int (nI (G 3)), .ref m4, .ref m5, .int (nI n2), .ref m6, .ref m7, .ref m8, .ref m9, .ref m10, .int (nI ai)])), (m1, .inl (cI, 64, .inl (nF T))), (m2, .inl (cI, 64, .inl (nF U))), (m3, .inl (cZ, 64, .inl (nF B))), (m4, .inl (cI, 64, .inl (nF W1))), (m5, .inl (cI, 64, .inl (nF M2))), (m6, .inl (cI, 64, .inl (nF F2))), (m7, .inl (cI, 64, .inl (nF L2))), (m8, .inl (cI, 64, .inl (nF Z2))), (m9, .inl (cI, 64, .inl (nF Om))), (m10, .inl (cI, 64, .inl (nF Nm)))] H → va_D A [(m0, .inr (5, [.ref m1, .ref m2, .ref m3, .int (nI (G 0)), .int (nI (G 1)), .int (nI (G 2)), .int (nI (G 3)), .ref m4, .ref m5, .int (nI n2), .ref m6, .ref m7, .ref m8, .ref m9, .ref m10, .int (nI ai)])), (m1, .inl (cI, 64, .inl (nF T))), (m2, .inl (cI, 64, .inl (nF U))), (m3, .inl (cZ, 64, .inl (nF B))), (m4, .inl (cI, 64, .inl (nF W1))), (m5, .inl (cI, 64, .inl (nF M2))), (m6, .inl (cI, 64, .inl (nF F2))), (m7, .inl (cI, 64, .inl (nF L2))), (m8, .inl (cI, 64, .inl (nF Z2))), (m9, .inl (cI, 64, .inl (nF Om))), (m10, .inl (cI, 64, .inl (nF Nm)))] → va_S A s.heap H locs → lv_has ls 5 [(0, .ref m0), (1, .int (nI ly)), (2, .int (nI c))] → W pr l e ({ frames := 3, cells := 0, slots := 0, locals := 69 } : Room) s m args below meth c0 H locs 0 0 Q (F0 m 40 ls []) := by
          intro n
          induction n with
          | zero => intro c M2 F2 L2 Z2 n2 h0; exact absurd h0 (Nat.not_lt_zero _)
          | succ n ih40 =>
            intro c M2 F2 L2 Z2 n2 hm40 hc hn2 hLI H locs ls hP hD hS hl
            refine lv_iload_n hx hb dX5_findLayer_40 rfl (lv_at hl 2 rfl) ?_
            refine lv_bipush (v := nI 64) hx hb dX5_findLayer_41 (by decide) ?_
            refine nv_icmp_ge (tgt := 230) hx hb dX5_findLayer_43 (by decide) (by omega) (by omega) (fun c_2 => ?_) (fun c_2 => ?_)
            · skip
              have h64 : c = 64 := by omega
              subst h64
              exact hret (W1, M2, F2, L2, Z2, n2) _ _ _ _ dX5_findLayer_230 (⟨LI_end (fun _ _ _ => rfl) hLI, hn2, hWp⟩) hP hD hS
            · skip
              refine lv_aload_n hx hb dX5_findLayer_46 rfl (lv_at hl 0 rfl) ?_
              refine va_get (D := D) (ci := 5) (v := .ref m4) (C := RX5) (T := TX5) (N := 16) hx hb hts hinX5 hown hK hP 0 rfl rfl 7 (by decide) lk2 (fun _ h9 => h9) rfl dX5_findLayer_47 ?_
              refine lv_iload_n hx hb dX5_findLayer_50 rfl (lv_at hl 2 rfl) ?_
              refine nv_iald hx hb hK hP 4 rfl (by omega) (by decide) dX5_findLayer_51 ?_
              refine top_eq (congrArg nI (hWp c (by omega))) ?_
              have bp_3 := hp c
              refine nv_if_le (tgt := 224) hx hb dX5_findLayer_52 (by decide) (by omega) (fun c_4 => ?_) (fun c_4 => ?_)
              · skip
                have hnb : ¬ bgn (pW G T ly) (pY U ly) c := fun q => q.1 c_4
                refine lv_iinc (v := nI (c + 1)) (lv' := [(2, .int (nI (c + 1))), (0, .ref m0), (1, .int (nI ly))]) hx hb dX5_findLayer_224 hl (k := 2) rfl (by exact nI_add _ 1) (by decide) rfl (fun ls hl => ?_)
                refine lv_goto (tgt := 40) hx hb dX5_findLayer_227 (by decide) ?_
                exact ih40 (c + 1) M2 F2 L2 Z2 n2 (by omega) (by omega) (by rw [hn2, cb_no (by rw [bgb_iff]; exact hnb)]) (LI_no hnb hLI) _ _ _ hP hD hS (lv_sub hl [1, 2, 0] rfl)
              · skip
                refine lv_aload_n hx hb dX5_findLayer_55 rfl (lv_at hl 0 rfl) ?_
                refine lv_iload_n hx hb dX5_findLayer_56 rfl (lv_at hl 2 rfl) ?_
                refine lv_iload_n hx hb dX5_findLayer_57 rfl (lv_at hl 1 rfl) ?_
                refine lv_iconst (v := (-1)) hx hb dX5_findLayer_58 (by decide) ?_
                refine gcVi (ws' := fun _ => [(m0, .inr (5, [.ref m1, .ref m2, .ref m3, .int (nI (G 0)), .int (nI (G 1)), .int (nI (G 2)), .int (nI (G 3)), .ref m4, .ref m5, .int (nI n2), .ref m6, .ref m7, .ref m8, .ref m9, .ref m10, .int (nI ai)])), (m1, .inl (cI, 64, .inl (nF T))), (m2, .inl (cI, 64, .inl (nF U))), (m3, .inl (cZ, 64, .inl (nF B))), (m4, .inl (cI, 64, .inl (nF W1))), (m5, .inl (cI, 64, .inl (nF M2))), (m6, .inl (cI, 64, .inl (nF F2))), (m7, .inl (cI, 64, .inl (nF L2))), (m8, .inl (cI, 64, .inl (nF Z2))), (m9, .inl (cI, 64, .inl (nF Om))), (m10, .inl (cI, 64, .inl (nF Nm)))]) (wr := []) (ci := 5) (q0 := 0) (As := [.int (nI c), .int (nI ly), .int ((-1))]) (rest := []) ⟨hx, hb, hml, hown, hts⟩ (c_X5_tied_back l D cI cZ tt H.size m0 m1 m2 m3 m4 m5 m6 m7 m8 m9 m10 n2 ai T U B G W1 M2 F2 L2 Z2 Om Nm (pW G T ly) c ly (by first | assumption | omega) (by first | assumption | omega) (by first | assumption | omega) (by first | assumption | omega) (by first | assumption | omega)) (cwV 3 hts gX5_findLayer_X5_tied rfl rfl rfl (by decide +kernel) ⟨Nat.le_of_ble_eq_true rfl, Nat.le_of_ble_eq_true rfl⟩) hP hK hD hS hA hG rfl rfl [0, 1, 2, 3, 4, 5, 6, 7, 8, 9, 10] [] [0, 1, 2, 3, 4, 5, 6, 7, 8, 9, 10] (by decide) rfl rfl (by decide) (by decide) (by decide) (fun _ => rfl) hl.1 rfl rfl (Nat.le_of_ble_eq_true rfl) ⟨Nat.zero_le _, Nat.zero_le _⟩ dX5_findLayer_59 (fun r u H locs hp hP hD hS => ?_)
                obtain rfl := hp
                have hP : va_P D vwCl [(m0, .inr (5, [.ref m1, .ref m2, .ref m3, .int (nI (G 0)), .int (nI (G 1)), .int (nI (G 2)), .int (nI (G 3)), .ref m4, .ref m5, .int (nI n2), .ref m6, .ref m7, .ref m8, .ref m9, .ref m10, .int (nI ai)])), (m1, .inl (cI, 64, .inl (nF T))), (m2, .inl (cI, 64, .inl (nF U))), (m3, .inl (cZ, 64, .inl (nF B))), (m4, .inl (cI, 64, .inl (nF W1))), (m5, .inl (cI, 64, .inl (nF M2))), (m6, .inl (cI, 64, .inl (nF F2))), (m7, .inl (cI, 64, .inl (nF L2))), (m8, .inl (cI, 64, .inl (nF Z2))), (m9, .inl (cI, 64, .inl (nF Om))), (m10, .inl (cI, 64, .inl (nF Nm)))] H := hP
                have hD : va_D A [(m0, .inr (5, [.ref m1, .ref m2, .ref m3, .int (nI (G 0)), .int (nI (G 1)), .int (nI (G 2)), .int (nI (G 3)), .ref m4, .ref m5, .int (nI n2), .ref m6, .ref m7, .ref m8, .ref m9, .ref m10, .int (nI ai)])), (m1, .inl (cI, 64, .inl (nF T))), (m2, .inl (cI, 64, .inl (nF U))), (m3, .inl (cZ, 64, .inl (nF B))), (m4, .inl (cI, 64, .inl (nF W1))), (m5, .inl (cI, 64, .inl (nF M2))), (m6, .inl (cI, 64, .inl (nF F2))), (m7, .inl (cI, 64, .inl (nF L2))), (m8, .inl (cI, 64, .inl (nF Z2))), (m9, .inl (cI, 64, .inl (nF Om))), (m10, .inl (cI, 64, .inl (nF Nm)))] := hD
                refine lv_iconst (v := (-1)) hx hb dX5_findLayer_62 (by decide) ?_
                refine nv_rne (tgt := 224) hx hb dX5_findLayer_63 (by decide) (by first | assumption | omega | exact tn_le _ _ _ | exact tp_le _ _ _) (fun c_5 => ?_) (fun c_5 => ?_)
                · skip
                  have hnb : ¬ bgn (pW G T ly) (pY U ly) c := fun q => c_5 q.2
                  refine lv_iinc (v := nI (c + 1)) (lv' := [(2, .int (nI (c + 1))), (0, .ref m0), (1, .int (nI ly))]) hx hb dX5_findLayer_224 hl (k := 2) rfl (by exact nI_add _ 1) (by decide) rfl (fun ls hl => ?_)
                  refine lv_goto (tgt := 40) hx hb dX5_findLayer_227 (by decide) ?_
                  exact ih40 (c + 1) M2 F2 L2 Z2 n2 (by omega) (by omega) (by rw [hn2, cb_no (by rw [bgb_iff]; exact hnb)]) (LI_no hnb hLI) _ _ _ hP hD hS (lv_sub hl [1, 2, 0] rfl)
                · skip
                  have hbg : bgn (pW G T ly) (pY U ly) c := ⟨c_4, c_5⟩
                  have hcb := cb_le (bgb (pW G T ly) (pY U ly)) c
                  have hln := ln_spec (Y := (pY U ly)) (show c < 64 by omega) hbg.1
                  have hg3 := hGs 3
                  refine lv_aload_n hx hb dX5_findLayer_66 rfl (lv_at hl 0 rfl) ?_
                  refine va_get (D := D) (ci := 5) (v := .ref m6) (C := RX5) (T := TX5) (N := 16) hx hb hts hinX5 hown hK hP 0 rfl rfl 10 (by decide) lk3 (fun _ h9 => h9) rfl dX5_findLayer_67 ?_
                  refine lv_aload_n hx hb dX5_findLayer_70 rfl (lv_at hl 0 rfl) ?_
                  refine va_get (D := D) (ci := 5) (v := .int (nI n2)) (C := RX5) (T := TX5) (N := 16) hx hb hts hinX5 hown hK hP 0 rfl rfl 9 (by decide) lk1 (fun _ h9 => h9) rfl dX5_findLayer_71 ?_
                  refine lv_iload_n hx hb dX5_findLayer_74 rfl (lv_at hl 2 rfl) ?_
                  refine nv_iast hx hb hK hP hD hS 6 rfl (by omega) (by decide) dX5_findLayer_75 (fun H locs hP hD hS => ?_)
                  have hP : va_P D vwCl [(m0, .inr (5, [.ref m1, .ref m2, .ref m3, .int (nI (G 0)), .int (nI (G 1)), .int (nI (G 2)), .int (nI (G 3)), .ref m4, .ref m5, .int (nI n2), .ref m6, .ref m7, .ref m8, .ref m9, .ref m10, .int (nI ai)])), (m1, .inl (cI, 64, .inl (nF T))), (m2, .inl (cI, 64, .inl (nF U))), (m3, .inl (cZ, 64, .inl (nF B))), (m4, .inl (cI, 64, .inl (nF W1))), (m5, .inl (cI, 64, .inl (nF M2))), (m6, .inl (cI, 64, .inl (nF (va_up F2 n2 c)))), (m7, .inl (cI, 64, .inl (nF L2))), (m8, .inl (cI, 64, .inl (nF Z2))), (m9, .inl (cI, 64, .inl (nF Om))), (m10, .inl (cI, 64, .inl (nF Nm)))] H := hP
                  have hD : va_D A [(m0, .inr (5, [.ref m1, .ref m2, .ref m3, .int (nI (G 0)), .int (nI (G 1)), .int (nI (G 2)), .int (nI (G 3)), .ref m4, .ref m5, .int (nI n2), .ref m6, .ref m7, .ref m8, .ref m9, .ref m10, .int (nI ai)])), (m1, .inl (cI, 64, .inl (nF T))), (m2, .inl (cI, 64, .inl (nF U))), (m3, .inl (cZ, 64, .inl (nF B))), (m4, .inl (cI, 64, .inl (nF W1))), (m5, .inl (cI, 64, .inl (nF M2))), (m6, .inl (cI, 64, .inl (nF (va_up F2 n2 c)))), (m7, .inl (cI, 64, .inl (nF L2))), (m8, .inl (cI, 64, .inl (nF Z2))), (m9, .inl (cI, 64, .inl (nF Om))), (m10, .inl (cI, 64, .inl (nF Nm)))] := hD
                  refine lv_aload_n hx hb dX5_findLayer_76 rfl (lv_at hl 0 rfl) ?_
                  refine va_get (D := D) (ci := 5) (v := .ref m8) (C := RX5) (T := TX5) (N := 16) hx hb hts hinX5 hown hK hP 0 rfl rfl 12 (by decide) lk4 (fun _ h9 => h9) rfl dX5_findLayer_77 ?_
                  refine lv_aload_n hx hb dX5_findLayer_80 rfl (lv_at hl 0 rfl) ?_
                  refine va_get (D := D) (ci := 5) (v := .int (nI n2)) (C := RX5) (T := TX5) (N := 16) hx hb hts hinX5 hown hK hP 0 rfl rfl 9 (by decide) lk1 (fun _ h9 => h9) rfl dX5_findLayer_81 ?_
                  refine lv_iconst (v := nI 0) hx hb dX5_findLayer_84 (by decide) ?_
                  refine nv_iast hx hb hK hP hD hS 8 rfl (by omega) (by decide) dX5_findLayer_85 (fun H locs hP hD hS => ?_)
                  have hP : va_P D vwCl [(m0, .inr (5, [.ref m1, .ref m2, .ref m3, .int (nI (G 0)), .int (nI (G 1)), .int (nI (G 2)), .int (nI (G 3)), .ref m4, .ref m5, .int (nI n2), .ref m6, .ref m7, .ref m8, .ref m9, .ref m10, .int (nI ai)])), (m1, .inl (cI, 64, .inl (nF T))), (m2, .inl (cI, 64, .inl (nF U))), (m3, .inl (cZ, 64, .inl (nF B))), (m4, .inl (cI, 64, .inl (nF W1))), (m5, .inl (cI, 64, .inl (nF M2))), (m6, .inl (cI, 64, .inl (nF (va_up F2 n2 c)))), (m7, .inl (cI, 64, .inl (nF L2))), (m8, .inl (cI, 64, .inl (nF (va_up Z2 n2 0)))), (m9, .inl (cI, 64, .inl (nF Om))), (m10, .inl (cI, 64, .inl (nF Nm)))] H := hP
                  have hD : va_D A [(m0, .inr (5, [.ref m1, .ref m2, .ref m3, .int (nI (G 0)), .int (nI (G 1)), .int (nI (G 2)), .int (nI (G 3)), .ref m4, .ref m5, .int (nI n2), .ref m6, .ref m7, .ref m8, .ref m9, .ref m10, .int (nI ai)])), (m1, .inl (cI, 64, .inl (nF T))), (m2, .inl (cI, 64, .inl (nF U))), (m3, .inl (cZ, 64, .inl (nF B))), (m4, .inl (cI, 64, .inl (nF W1))), (m5, .inl (cI, 64, .inl (nF M2))), (m6, .inl (cI, 64, .inl (nF (va_up F2 n2 c)))), (m7, .inl (cI, 64, .inl (nF L2))), (m8, .inl (cI, 64, .inl (nF (va_up Z2 n2 0)))), (m9, .inl (cI, 64, .inl (nF Om))), (m10, .inl (cI, 64, .inl (nF Nm)))] := hD
                  refine lv_iload_n hx hb dX5_findLayer_86 rfl (lv_at hl 2 rfl) ?_
                  refine lv_istore_n (lv' := [(3, .int (nI c)), (0, .ref m0), (1, .int (nI ly)), (2, .int (nI c))]) hx hb dX5_findLayer_87 rfl hl (by decide) rfl (fun ls hl => ?_)
                  refine lv_sipush (v := nI 1000) hx hb dX5_findLayer_88 (by decide) ?_
                  refine lv_istore (lv' := [(4, .int (nI 1000)), (3, .int (nI c)), (0, .ref m0), (1, .int (nI ly)), (2, .int (nI c))]) hx hb dX5_findLayer_91 hl (by decide) rfl (fun ls hl => ?_)
                  have L93 : ∀ (n : Nat) (j : Nat) (M3 : Nat → Nat) (L3 : Nat → Nat) (Z3 : Nat → Nat) (may : Nat), 9 - j < n → (j ≤ ln (pW G T ly) (pY U ly) c) → (may ≤ 1000) → (j = 0 → may = 1000) → (0 < j → may = fw (pW G T ly) (pY U ly) (G 3) c (j - 1)) → (∀ i, i < j → M3 (ch (pW G T ly) (pY U ly) c i) = fw (pW G T ly) (pY U ly) (G 3) c i) → (∀ d, (∀ i, i < j → d ≠ ch (pW G T ly) (pY U ly) c i) → M3 d = M2 d) → (0 < j → L3 = va_up L2 n2 (ch (pW G T ly) (pY U ly) c (j - 1))) → (j = 0 → L3 = L2) → (Z3 = va_up Z2 n2 j) → (ch (pW G T ly) (pY U ly) c j ≤ 64) → ∀ (H : Heap) (locs : List Loc) (ls : Array Slot), va_P D vwCl [(m0, .inr (5, [.ref m1, .ref m2, .ref m3, .int (nI (G 0)), .int (nI (G 1)), .int (nI (G 2)), .int (nI (G 3)), .ref m4, .ref m5, .int (nI n2), .ref m6, .ref m7, .ref m8, .ref m9, .ref m10, .int (nI ai)])), (m1, .inl (cI, 64, .inl (nF T))), (m2, .inl (cI, 64, .inl (nF U))), (m3, .inl (cZ, 64, .inl (nF B))), (m4, .inl (cI, 64, .inl (nF W1))), (m5, .inl (cI, 64, .inl (nF M3))), (m6, .inl (cI, 64, .inl (nF (va_up F2 n2 c)))), (m7, .inl (cI, 64, .inl (nF L3))), (m8, .inl (cI, 64, .inl (nF Z3))), (m9, .inl (cI, 64, .inl (nF Om))), (m10, .inl (cI, 64, .inl (nF Nm)))] H → va_D A [(m0, .inr (5, [.ref m1, .ref m2, .ref m3, .int (nI (G 0)), .int (nI (G 1)), .int (nI (G 2)), .int (nI (G 3)), .ref m4, .ref m5, .int (nI n2), .ref m6, .ref m7, .ref m8, .ref m9, .ref m10, .int (nI ai)])), (m1, .inl (cI, 64, .inl (nF T))), (m2, .inl (cI, 64, .inl (nF U))), (m3, .inl (cZ, 64, .inl (nF B))), (m4, .inl (cI, 64, .inl (nF W1))), (m5, .inl (cI, 64, .inl (nF M3))), (m6, .inl (cI, 64, .inl (nF (va_up F2 n2 c)))), (m7, .inl (cI, 64, .inl (nF L3))), (m8, .inl (cI, 64, .inl (nF Z3))), (m9, .inl (cI, 64, .inl (nF Om))), (m10, .inl (cI, 64, .inl (nF Nm)))] → va_S A s.heap H locs → lv_has ls 5 [(0, .ref m0), (1, .int (nI ly)), (2, .int (nI c)), (3, .int (rI (ch (pW G T ly) (pY U ly) c j))), (4, .int (nI may))] → W pr l e ({ frames := 3, cells := 0, slots := 0, locals := 69 } : Room) s m args below meth c0 H locs 0 0 Q (F0 m 93 ls []) := by
                    intro n
                    induction n with
                    | zero => intro j M3 L3 Z3 may h0; exact absurd h0 (Nat.not_lt_zero _)
                    | succ n ih93 =>
                      intro j M3 L3 Z3 may hm93 hj hm0 hmay0 hmay hMa hMb hLa hLb hZa hcl H locs ls hP hD hS hl
                      refine lv_iload_n hx hb dX5_findLayer_93 rfl (lv_at hl 3 rfl) ?_
                      refine lv_iconst (v := (-1)) hx hb dX5_findLayer_94 (by decide) ?_
                      refine nv_req (tgt := 158) hx hb dX5_findLayer_95 (by decide) hcl (fun c_6 => ?_) (fun c_6 => ?_)
                      · skip
                        have hjL : j = ln (pW G T ly) (pY U ly) c := by
                          rcases Nat.lt_or_ge j (ln (pW G T ly) (pY U ly) c) with z | z
                          · have := (hln.2.2.2 j z).1
                            omega
                          · omega
                        have hj0 : 0 < j := by omega
                        refine lv_aload_n hx hb dX5_findLayer_158 rfl (lv_at hl 0 rfl) ?_
                        refine va_get (D := D) (ci := 5) (v := .ref m7) (C := RX5) (T := TX5) (N := 16) hx hb hts hinX5 hown hK hP 0 rfl rfl 11 (by decide) lk5 (fun _ h9 => h9) rfl dX5_findLayer_159 ?_
                        refine lv_aload_n hx hb dX5_findLayer_162 rfl (lv_at hl 0 rfl) ?_
                        refine va_get (D := D) (ci := 5) (v := .int (nI n2)) (C := RX5) (T := TX5) (N := 16) hx hb hts hinX5 hown hK hP 0 rfl rfl 9 (by decide) lk1 (fun _ h9 => h9) rfl dX5_findLayer_163 ?_
                        refine nv_iald hx hb hK hP 7 rfl (by omega) (by decide) dX5_findLayer_166 ?_
                        refine top_eq (congrArg nI (show L3 n2 = ch (pW G T ly) (pY U ly) c (ln (pW G T ly) (pY U ly) c - 1) by rw [hLa hj0, up_s, hjL])) ?_
                        refine lv_istore_n (lv' := [(3, .int (nI (ch (pW G T ly) (pY U ly) c (ln (pW G T ly) (pY U ly) c - 1)))), (0, .ref m0), (1, .int (nI ly)), (2, .int (nI c)), (4, .int (nI may))]) hx hb dX5_findLayer_167 rfl hl (by decide) rfl (fun ls hl => ?_)
                        have L168 : ∀ (n : Nat) (b : Nat) (M4 : Nat → Nat) (my : Nat), 9 - b < n → (b ≤ ln (pW G T ly) (pY U ly) c) → (b = 0 → my = fw (pW G T ly) (pY U ly) (G 3) c (ln (pW G T ly) (pY U ly) c - 1)) → (0 < b → my = bk (pW G T ly) (pY U ly) (G 3) c (b - 1) + G 3) → (my ≤ 1000) → (∀ i, i < b → M4 (ch (pW G T ly) (pY U ly) c (ln (pW G T ly) (pY U ly) c - 1 - i)) = bk (pW G T ly) (pY U ly) (G 3) c i) → (∀ d, (∀ i, i < b → d ≠ ch (pW G T ly) (pY U ly) c (ln (pW G T ly) (pY U ly) c - 1 - i)) → M4 d = M3 d) → (bq (pW G T ly) (pY U ly) c b ≤ 64) → ∀ (H : Heap) (locs : List Loc) (ls : Array Slot), va_P D vwCl [(m0, .inr (5, [.ref m1, .ref m2, .ref m3, .int (nI (G 0)), .int (nI (G 1)), .int (nI (G 2)), .int (nI (G 3)), .ref m4, .ref m5, .int (nI n2), .ref m6, .ref m7, .ref m8, .ref m9, .ref m10, .int (nI ai)])), (m1, .inl (cI, 64, .inl (nF T))), (m2, .inl (cI, 64, .inl (nF U))), (m3, .inl (cZ, 64, .inl (nF B))), (m4, .inl (cI, 64, .inl (nF W1))), (m5, .inl (cI, 64, .inl (nF M4))), (m6, .inl (cI, 64, .inl (nF (va_up F2 n2 c)))), (m7, .inl (cI, 64, .inl (nF L3))), (m8, .inl (cI, 64, .inl (nF Z3))), (m9, .inl (cI, 64, .inl (nF Om))), (m10, .inl (cI, 64, .inl (nF Nm)))] H → va_D A [(m0, .inr (5, [.ref m1, .ref m2, .ref m3, .int (nI (G 0)), .int (nI (G 1)), .int (nI (G 2)), .int (nI (G 3)), .ref m4, .ref m5, .int (nI n2), .ref m6, .ref m7, .ref m8, .ref m9, .ref m10, .int (nI ai)])), (m1, .inl (cI, 64, .inl (nF T))), (m2, .inl (cI, 64, .inl (nF U))), (m3, .inl (cZ, 64, .inl (nF B))), (m4, .inl (cI, 64, .inl (nF W1))), (m5, .inl (cI, 64, .inl (nF M4))), (m6, .inl (cI, 64, .inl (nF (va_up F2 n2 c)))), (m7, .inl (cI, 64, .inl (nF L3))), (m8, .inl (cI, 64, .inl (nF Z3))), (m9, .inl (cI, 64, .inl (nF Om))), (m10, .inl (cI, 64, .inl (nF Nm)))] → va_S A s.heap H locs → lv_has ls 5 [(0, .ref m0), (1, .int (nI ly)), (2, .int (nI c)), (3, .int (rI (bq (pW G T ly) (pY U ly) c b))), (4, .int (nI my))] → W pr l e ({ frames := 3, cells := 0, slots := 0, locals := 69 } : Room) s m args below meth c0 H locs 0 0 Q (F0 m 168 ls []) := by
                          intro n
                          induction n with
                          | zero => intro b M4 my h0; exact absurd h0 (Nat.not_lt_zero _)
                          | succ n ih168 =>
                            intro b M4 my hm168 hb3 hmy0 hmy1 hmyb hMc hMd hbl H locs ls hP hD hS hl
                            refine lv_iload_n hx hb dX5_findLayer_168 rfl (lv_at hl 3 rfl) ?_
                            refine lv_iconst (v := (-1)) hx hb dX5_findLayer_169 (by decide) ?_
                            refine nv_req (tgt := 214) hx hb dX5_findLayer_170 (by decide) hbl (fun c_7 => ?_) (fun c_7 => ?_)
                            · skip
                              have hbL : b = ln (pW G T ly) (pY U ly) c := by
                                rcases Nat.lt_or_ge b (ln (pW G T ly) (pY U ly) c) with z | z
                                · have z2 := (hln.2.2.2 (ln (pW G T ly) (pY U ly) c - 1 - b) (by omega)).1
                                  have z3 := c_7
                                  unfold bq at z3
                                  rw [if_pos z] at z3
                                  omega
                                · omega
                              have hok : okP (pW G T ly) (pY U ly) (G 3) c M4 := by
                                intro i hi
                                have e := hMc (ln (pW G T ly) (pY U ly) c - 1 - i) (by omega)
                                rw [show ln (pW G T ly) (pY U ly) c - 1 - (ln (pW G T ly) (pY U ly) c - 1 - i) = i by omega] at e
                                rw [e]
                                rfl
                              have hoth : ∀ d, (∀ i, i < ln (pW G T ly) (pY U ly) c → d ≠ ch (pW G T ly) (pY U ly) c i) → M4 d = M2 d := by
                                intro d hd
                                rw [hMd d (fun i hi => hd _ (by omega)), hMb d (fun i hi => hd i (by omega))]
                              refine lv_aload_n hx hb dX5_findLayer_214 rfl (lv_at hl 0 rfl) ?_
                              refine lv_dup hx hb dX5_findLayer_215 rfl ?_
                              refine va_get (D := D) (ci := 5) (v := .int (nI n2)) (C := RX5) (T := TX5) (N := 16) hx hb hts hinX5 hown hK hP 0 rfl rfl 9 (by decide) lk1 (fun _ h9 => h9) rfl dX5_findLayer_216 ?_
                              refine lv_iconst (v := nI 1) hx hb dX5_findLayer_219 (by decide) ?_
                              refine nv_iadd hx hb dX5_findLayer_220 ?_
                              refine va_put (D := D) (ci := 5) (v := .int (nI (n2 + 1))) (ty := .int) (C := RX5) (T := TX5) (N := 16) hx hb hts hinX5 tyX5 tyX5_ok nmX5 hown hK hP hD hS 0 rfl rfl 9 (by decide) lk1 (fun _ h9 => h9) rfl (by decide +kernel) rfl rfl (Nat.le_of_ble_eq_true rfl) dX5_findLayer_221 (fun H locs hP hD hS => ?_)
                              have hP : va_P D vwCl [(m0, .inr (5, [.ref m1, .ref m2, .ref m3, .int (nI (G 0)), .int (nI (G 1)), .int (nI (G 2)), .int (nI (G 3)), .ref m4, .ref m5, .int (nI (n2 + 1)), .ref m6, .ref m7, .ref m8, .ref m9, .ref m10, .int (nI ai)])), (m1, .inl (cI, 64, .inl (nF T))), (m2, .inl (cI, 64, .inl (nF U))), (m3, .inl (cZ, 64, .inl (nF B))), (m4, .inl (cI, 64, .inl (nF W1))), (m5, .inl (cI, 64, .inl (nF M4))), (m6, .inl (cI, 64, .inl (nF (va_up F2 n2 c)))), (m7, .inl (cI, 64, .inl (nF L3))), (m8, .inl (cI, 64, .inl (nF Z3))), (m9, .inl (cI, 64, .inl (nF Om))), (m10, .inl (cI, 64, .inl (nF Nm)))] H := hP
                              have hD : va_D A [(m0, .inr (5, [.ref m1, .ref m2, .ref m3, .int (nI (G 0)), .int (nI (G 1)), .int (nI (G 2)), .int (nI (G 3)), .ref m4, .ref m5, .int (nI (n2 + 1)), .ref m6, .ref m7, .ref m8, .ref m9, .ref m10, .int (nI ai)])), (m1, .inl (cI, 64, .inl (nF T))), (m2, .inl (cI, 64, .inl (nF U))), (m3, .inl (cZ, 64, .inl (nF B))), (m4, .inl (cI, 64, .inl (nF W1))), (m5, .inl (cI, 64, .inl (nF M4))), (m6, .inl (cI, 64, .inl (nF (va_up F2 n2 c)))), (m7, .inl (cI, 64, .inl (nF L3))), (m8, .inl (cI, 64, .inl (nF Z3))), (m9, .inl (cI, 64, .inl (nF Om))), (m10, .inl (cI, 64, .inl (nF Nm)))] := hD
                              refine lv_iinc (v := nI (c + 1)) (lv' := [(2, .int (nI (c + 1))), (0, .ref m0), (1, .int (nI ly)), (3, .int (rI (bq (pW G T ly) (pY U ly) c b))), (4, .int (nI my))]) hx hb dX5_findLayer_224 hl (k := 2) rfl (by exact nI_add _ 1) (by decide) rfl (fun ls hl => ?_)
                              refine lv_goto (tgt := 40) hx hb dX5_findLayer_227 (by decide) ?_
                              exact ih40 (c + 1) M4 (va_up F2 n2 c) L3 Z3 (n2 + 1) (by omega) (by omega) (by rw [hn2, cb_yes (by rw [bgb_iff]; exact hbg)]) (LI_yes (by omega) hbg hLI hok hoth (by rw [← hn2]) (by rw [hLa hj0, hjL, ← hn2]) (by rw [hZa, hjL, ← hn2])) _ _ _ hP hD hS (lv_sub hl [1, 2, 0] rfl)
                            · skip
                              rw [rI_some c_7] at hl
                              have hbl2 : b < ln (pW G T ly) (pY U ly) c := by
                                rcases Nat.lt_or_ge b (ln (pW G T ly) (pY U ly) c) with z | z
                                · exact z
                                · exact absurd (by unfold bq; rw [if_neg (by omega)]) c_7
                              have hbq : bq (pW G T ly) (pY U ly) c b = ch (pW G T ly) (pY U ly) c (ln (pW G T ly) (pY U ly) c - 1 - b) := by unfold bq; rw [if_pos hbl2]
                              rw [hbq] at hl
                              have hc64 := (hln.2.2.2 (ln (pW G T ly) (pY U ly) c - 1 - b) (by omega)).1
                              have hm4 : M4 (ch (pW G T ly) (pY U ly) c (ln (pW G T ly) (pY U ly) c - 1 - b)) = fw (pW G T ly) (pY U ly) (G 3) c (ln (pW G T ly) (pY U ly) c - 1 - b) := by
                                rw [hMd _ (fun i hi e => by have := ch_inj (show c < 64 by omega) hbg.1 (i := ln (pW G T ly) (pY U ly) c - 1 - b) (j := ln (pW G T ly) (pY U ly) c - 1 - i) (by omega) (by omega) e; omega)]
                                exact hMa _ (by omega)
                              have hfl := fw_le (p := (pW G T ly)) (y := (pY U ly)) (sw := G 3) (c := c) (i := ln (pW G T ly) (pY U ly) c - 1 - b)
                              have hpl := hp (ch (pW G T ly) (pY U ly) c (ln (pW G T ly) (pY U ly) c - 1 - b))
                              refine lv_iload hx hb dX5_findLayer_173 (lv_at hl 4 rfl) ?_
                              refine lv_aload_n hx hb dX5_findLayer_175 rfl (lv_at hl 0 rfl) ?_
                              refine va_get (D := D) (ci := 5) (v := .ref m5) (C := RX5) (T := TX5) (N := 16) hx hb hts hinX5 hown hK hP 0 rfl rfl 8 (by decide) lk6 (fun _ h9 => h9) rfl dX5_findLayer_176 ?_
                              refine lv_iload_n hx hb dX5_findLayer_179 rfl (lv_at hl 3 rfl) ?_
                              refine nv_iald hx hb hK hP 5 rfl (by omega) (by decide) dX5_findLayer_180 ?_
                              refine top_eq (congrArg nI hm4) ?_
                              refine gcS (As := [.int (nI my), .int (nI (fw (pW G T ly) (pY U ly) (G 3) c (ln (pW G T ly) (pY U ly) c - 1 - b)))]) (rest := []) ⟨hx, hb, hml, hown, hts⟩ (c_X5_less l my (fw (pW G T ly) (pY U ly) (G 3) c (ln (pW G T ly) (pY U ly) c - 1 - b)) (by first | assumption | omega) (by first | assumption | omega)) (va_cwS 2 hts gX5_findLayer_X5_less rfl rfl rfl (by decide +kernel) ⟨Nat.le_of_ble_eq_true rfl, Nat.le_of_ble_eq_true rfl⟩) hl.1 rfl rfl (Nat.le_of_ble_eq_true rfl) ⟨Nat.zero_le _, Nat.zero_le _⟩ dX5_findLayer_181 ?_
                              have hbk : min my (fw (pW G T ly) (pY U ly) (G 3) c (ln (pW G T ly) (pY U ly) c - 1 - b)) = bk (pW G T ly) (pY U ly) (G 3) c b := by
                                rcases Nat.eq_zero_or_pos b with z | z
                                · subst z
                                  rw [hmy0 rfl]
                                  show min _ (fw (pW G T ly) (pY U ly) (G 3) c (ln (pW G T ly) (pY U ly) c - 1)) = fw (pW G T ly) (pY U ly) (G 3) c (ln (pW G T ly) (pY U ly) c - 1)
                                  exact Nat.min_self _
                                · obtain ⟨k, rfl⟩ : ∃ k, b = k + 1 := ⟨b - 1, by omega⟩
                                  rw [hmy1 z, bk, Nat.min_comm]
                                  rfl
                              refine top_eq (congrArg nI hbk) ?_
                              have hbkl := bk_le (p := (pW G T ly)) (y := (pY U ly)) (sw := G 3) (c := c) hp b
                              refine lv_istore (lv' := [(4, .int (nI (bk (pW G T ly) (pY U ly) (G 3) c b))), (0, .ref m0), (1, .int (nI ly)), (2, .int (nI c)), (3, .int (nI (ch (pW G T ly) (pY U ly) c (ln (pW G T ly) (pY U ly) c - 1 - b))))]) hx hb dX5_findLayer_184 hl (by decide) rfl (fun ls hl => ?_)
                              refine lv_aload_n hx hb dX5_findLayer_186 rfl (lv_at hl 1 rfl) ?_
                              refine va_get (D := D) (ci := 5) (v := .ref m5) (C := RX5) (T := TX5) (N := 16) hx hb hts hinX5 hown hK hP 0 rfl rfl 8 (by decide) lk6 (fun _ h9 => h9) rfl dX5_findLayer_187 ?_
                              refine lv_iload_n hx hb dX5_findLayer_190 rfl (lv_at hl 4 rfl) ?_
                              refine lv_iload hx hb dX5_findLayer_191 (lv_at hl 0 rfl) ?_
                              refine nv_iast hx hb hK hP hD hS 5 rfl (by omega) (by decide) dX5_findLayer_193 (fun H locs hP hD hS => ?_)
                              have hP : va_P D vwCl [(m0, .inr (5, [.ref m1, .ref m2, .ref m3, .int (nI (G 0)), .int (nI (G 1)), .int (nI (G 2)), .int (nI (G 3)), .ref m4, .ref m5, .int (nI n2), .ref m6, .ref m7, .ref m8, .ref m9, .ref m10, .int (nI ai)])), (m1, .inl (cI, 64, .inl (nF T))), (m2, .inl (cI, 64, .inl (nF U))), (m3, .inl (cZ, 64, .inl (nF B))), (m4, .inl (cI, 64, .inl (nF W1))), (m5, .inl (cI, 64, .inl (nF (va_up M4 (ch (pW G T ly) (pY U ly) c (ln (pW G T ly) (pY U ly) c - 1 - b)) (bk (pW G T ly) (pY U ly) (G 3) c b))))), (m6, .inl (cI, 64, .inl (nF (va_up F2 n2 c)))), (m7, .inl (cI, 64, .inl (nF L3))), (m8, .inl (cI, 64, .inl (nF Z3))), (m9, .inl (cI, 64, .inl (nF Om))), (m10, .inl (cI, 64, .inl (nF Nm)))] H := hP
                              have hD : va_D A [(m0, .inr (5, [.ref m1, .ref m2, .ref m3, .int (nI (G 0)), .int (nI (G 1)), .int (nI (G 2)), .int (nI (G 3)), .ref m4, .ref m5, .int (nI n2), .ref m6, .ref m7, .ref m8, .ref m9, .ref m10, .int (nI ai)])), (m1, .inl (cI, 64, .inl (nF T))), (m2, .inl (cI, 64, .inl (nF U))), (m3, .inl (cZ, 64, .inl (nF B))), (m4, .inl (cI, 64, .inl (nF W1))), (m5, .inl (cI, 64, .inl (nF (va_up M4 (ch (pW G T ly) (pY U ly) c (ln (pW G T ly) (pY U ly) c - 1 - b)) (bk (pW G T ly) (pY U ly) (G 3) c b))))), (m6, .inl (cI, 64, .inl (nF (va_up F2 n2 c)))), (m7, .inl (cI, 64, .inl (nF L3))), (m8, .inl (cI, 64, .inl (nF Z3))), (m9, .inl (cI, 64, .inl (nF Om))), (m10, .inl (cI, 64, .inl (nF Nm)))] := hD
                              refine lv_iload hx hb dX5_findLayer_194 (lv_at hl 0 rfl) ?_
                              refine lv_aload_n hx hb dX5_findLayer_196 rfl (lv_at hl 1 rfl) ?_
                              refine va_get (D := D) (ci := 5) (v := .int (nI (G 3))) (C := RX5) (T := TX5) (N := 16) hx hb hts hinX5 hown hK hP 0 rfl rfl 6 (by decide) lk7 (fun _ h9 => h9) rfl dX5_findLayer_197 ?_
                              refine nv_iadd hx hb dX5_findLayer_200 ?_
                              refine lv_istore (lv' := [(4, .int (nI ((bk (pW G T ly) (pY U ly) (G 3) c b) + (G 3)))), (0, .ref m0), (1, .int (nI ly)), (2, .int (nI c)), (3, .int (nI (ch (pW G T ly) (pY U ly) c (ln (pW G T ly) (pY U ly) c - 1 - b))))]) hx hb dX5_findLayer_201 hl (by decide) rfl (fun ls hl => ?_)
                              refine lv_aload_n hx hb dX5_findLayer_203 rfl (lv_at hl 1 rfl) ?_
                              refine lv_iload_n hx hb dX5_findLayer_204 rfl (lv_at hl 4 rfl) ?_
                              refine lv_iload_n hx hb dX5_findLayer_205 rfl (lv_at hl 2 rfl) ?_
                              refine lv_iconst (v := (-1)) hx hb dX5_findLayer_206 (by decide) ?_
                              refine gcVi (ws' := fun _ => [(m0, .inr (5, [.ref m1, .ref m2, .ref m3, .int (nI (G 0)), .int (nI (G 1)), .int (nI (G 2)), .int (nI (G 3)), .ref m4, .ref m5, .int (nI n2), .ref m6, .ref m7, .ref m8, .ref m9, .ref m10, .int (nI ai)])), (m1, .inl (cI, 64, .inl (nF T))), (m2, .inl (cI, 64, .inl (nF U))), (m3, .inl (cZ, 64, .inl (nF B))), (m4, .inl (cI, 64, .inl (nF W1))), (m5, .inl (cI, 64, .inl (nF ((va_up M4 (ch (pW G T ly) (pY U ly) c (ln (pW G T ly) (pY U ly) c - 1 - b)) (bk (pW G T ly) (pY U ly) (G 3) c b)))))), (m6, .inl (cI, 64, .inl (nF ((va_up F2 n2 c))))), (m7, .inl (cI, 64, .inl (nF L3))), (m8, .inl (cI, 64, .inl (nF Z3))), (m9, .inl (cI, 64, .inl (nF Om))), (m10, .inl (cI, 64, .inl (nF Nm)))]) (wr := []) (ci := 5) (q0 := 0) (As := [.int (nI (ch (pW G T ly) (pY U ly) c (ln (pW G T ly) (pY U ly) c - 1 - b))), .int (nI ly), .int ((-1))]) (rest := []) ⟨hx, hb, hml, hown, hts⟩ (c_X5_tied_back l D cI cZ tt H.size m0 m1 m2 m3 m4 m5 m6 m7 m8 m9 m10 n2 ai T U B G W1 (va_up M4 (ch (pW G T ly) (pY U ly) c (ln (pW G T ly) (pY U ly) c - 1 - b)) (bk (pW G T ly) (pY U ly) (G 3) c b)) (va_up F2 n2 c) L3 Z3 Om Nm (pW G T ly) (ch (pW G T ly) (pY U ly) c (ln (pW G T ly) (pY U ly) c - 1 - b)) ly (by first | assumption | omega) (by first | assumption | omega) (by first | assumption | omega) (by exact hc64) (by first | assumption | omega)) (cwV 3 hts gX5_findLayer_X5_tied rfl rfl rfl (by decide +kernel) ⟨Nat.le_of_ble_eq_true rfl, Nat.le_of_ble_eq_true rfl⟩) hP hK hD hS hA hG rfl rfl [0, 1, 2, 3, 4, 5, 6, 7, 8, 9, 10] [] [0, 1, 2, 3, 4, 5, 6, 7, 8, 9, 10] (by decide) rfl rfl (by decide) (by decide) (by decide) (fun _ => rfl) hl.1 rfl rfl (Nat.le_of_ble_eq_true rfl) ⟨Nat.zero_le _, Nat.zero_le _⟩ dX5_findLayer_207 (fun r u H locs hp hP hD hS => ?_)
                              obtain rfl := hp
                              have hP : va_P D vwCl [(m0, .inr (5, [.ref m1, .ref m2, .ref m3, .int (nI (G 0)), .int (nI (G 1)), .int (nI (G 2)), .int (nI (G 3)), .ref m4, .ref m5, .int (nI n2), .ref m6, .ref m7, .ref m8, .ref m9, .ref m10, .int (nI ai)])), (m1, .inl (cI, 64, .inl (nF T))), (m2, .inl (cI, 64, .inl (nF U))), (m3, .inl (cZ, 64, .inl (nF B))), (m4, .inl (cI, 64, .inl (nF W1))), (m5, .inl (cI, 64, .inl (nF ((va_up M4 (ch (pW G T ly) (pY U ly) c (ln (pW G T ly) (pY U ly) c - 1 - b)) (bk (pW G T ly) (pY U ly) (G 3) c b)))))), (m6, .inl (cI, 64, .inl (nF ((va_up F2 n2 c))))), (m7, .inl (cI, 64, .inl (nF L3))), (m8, .inl (cI, 64, .inl (nF Z3))), (m9, .inl (cI, 64, .inl (nF Om))), (m10, .inl (cI, 64, .inl (nF Nm)))] H := hP
                              have hD : va_D A [(m0, .inr (5, [.ref m1, .ref m2, .ref m3, .int (nI (G 0)), .int (nI (G 1)), .int (nI (G 2)), .int (nI (G 3)), .ref m4, .ref m5, .int (nI n2), .ref m6, .ref m7, .ref m8, .ref m9, .ref m10, .int (nI ai)])), (m1, .inl (cI, 64, .inl (nF T))), (m2, .inl (cI, 64, .inl (nF U))), (m3, .inl (cZ, 64, .inl (nF B))), (m4, .inl (cI, 64, .inl (nF W1))), (m5, .inl (cI, 64, .inl (nF ((va_up M4 (ch (pW G T ly) (pY U ly) c (ln (pW G T ly) (pY U ly) c - 1 - b)) (bk (pW G T ly) (pY U ly) (G 3) c b)))))), (m6, .inl (cI, 64, .inl (nF ((va_up F2 n2 c))))), (m7, .inl (cI, 64, .inl (nF L3))), (m8, .inl (cI, 64, .inl (nF Z3))), (m9, .inl (cI, 64, .inl (nF Om))), (m10, .inl (cI, 64, .inl (nF Nm)))] := hD
                              refine top_eq (congrArg rI (bq_next (show c < 64 by omega) hbg hbl2)) ?_
                              refine lv_istore_n (lv' := [(3, .int (rI (bq (pW G T ly) (pY U ly) c (b + 1)))), (4, .int (nI ((bk (pW G T ly) (pY U ly) (G 3) c b) + (G 3)))), (0, .ref m0), (1, .int (nI ly)), (2, .int (nI c))]) hx hb dX5_findLayer_210 rfl hl (by decide) rfl (fun ls hl => ?_)
                              refine lv_goto (tgt := 168) hx hb dX5_findLayer_211 (by decide) ?_
                              exact ih168 (b + 1) ((va_up M4 (ch (pW G T ly) (pY U ly) c (ln (pW G T ly) (pY U ly) c - 1 - b)) (bk (pW G T ly) (pY U ly) (G 3) c b))) (bk (pW G T ly) (pY U ly) (G 3) c b + G 3) (by omega) (by omega) (fun z => absurd z (by omega)) (fun _ => rfl) (by omega) (by
                                intro i hi
                                rcases Nat.lt_or_ge i b with z | z
                                · rw [up_n _ _ (fun e => by have := ch_inj (show c < 64 by omega) hbg.1 (i := ln (pW G T ly) (pY U ly) c - 1 - i) (j := ln (pW G T ly) (pY U ly) c - 1 - b) (by omega) (by omega) e; omega)]; exact hMc i z
                                · rw [show i = b by omega, up_s]) (by
                                intro d hd
                                rw [up_n _ _ (hd b (by omega))]
                                exact hMd d (fun i hi => hd i (by omega))) (by unfold bq; split; have := (hln.2.2.2 (ln (pW G T ly) (pY U ly) c - 1 - (b + 1)) (by omega)).1; omega; omega) _ _ _ hP hD hS (lv_sub hl [2, 3, 4, 0, 1] rfl)
                        exact L168 (9 + 1) 0 M3 may (by omega) (by omega) (fun _ => by rw [hmay hj0, hjL]) (fun z => absurd z (by omega)) hm0 (fun i hi => absurd hi (by omega)) (fun _ _ => rfl) (by unfold bq; rw [if_pos (by omega)]; have := (hln.2.2.2 (ln (pW G T ly) (pY U ly) c - 1 - 0) (by omega)).1; omega) _ _ _ hP hD hS (lv_sub hl [1, 2, 3, 0, 4] (by rw [show rI (bq (pW G T ly) (pY U ly) c 0) = nI (ch (pW G T ly) (pY U ly) c (ln (pW G T ly) (pY U ly) c - 1)) by unfold bq; rw [if_pos (by omega)]; exact rI_some (by have := (hln.2.2.2 (ln (pW G T ly) (pY U ly) c - 1) (by omega)).1; show ¬ ch (pW G T ly) (pY U ly) c (ln (pW G T ly) (pY U ly) c - 1) = 64; omega)]; rfl))
                      · skip
                        rw [rI_some c_6] at hl
                        have hjl : j < ln (pW G T ly) (pY U ly) c := by
                          rcases Nat.lt_or_ge j (ln (pW G T ly) (pY U ly) c) with z | z
                          · exact z
                          · refine absurd ?_ c_6
                            rw [show j = (ln (pW G T ly) (pY U ly) c - 1) + 1 by omega]
                            exact hln.2.2.1
                        have hc64 := (hln.2.2.2 j hjl).1
                        refine lv_iload hx hb dX5_findLayer_98 (lv_at hl 4 rfl) ?_
                        refine lv_aload_n hx hb dX5_findLayer_100 rfl (lv_at hl 0 rfl) ?_
                        refine va_get (D := D) (ci := 5) (v := .int (nI (G 3))) (C := RX5) (T := TX5) (N := 16) hx hb hts hinX5 hown hK hP 0 rfl rfl 6 (by decide) lk7 (fun _ h9 => h9) rfl dX5_findLayer_101 ?_
                        refine nv_iadd hx hb dX5_findLayer_104 ?_
                        refine lv_aload_n hx hb dX5_findLayer_105 rfl (lv_at hl 0 rfl) ?_
                        refine va_get (D := D) (ci := 5) (v := .ref m4) (C := RX5) (T := TX5) (N := 16) hx hb hts hinX5 hown hK hP 0 rfl rfl 7 (by decide) lk2 (fun _ h9 => h9) rfl dX5_findLayer_106 ?_
                        refine lv_iload_n hx hb dX5_findLayer_109 rfl (lv_at hl 3 rfl) ?_
                        refine nv_iald hx hb hK hP 4 rfl (by omega) (by decide) dX5_findLayer_110 ?_
                        refine top_eq (congrArg nI (hWp (ch (pW G T ly) (pY U ly) c j) (by omega))) ?_
                        have bp_8 := hp (ch (pW G T ly) (pY U ly) c j)
                        refine gcS (As := [.int (nI (may + (G 3))), .int (nI ((pW G T ly) (ch (pW G T ly) (pY U ly) c j)))]) (rest := []) ⟨hx, hb, hml, hown, hts⟩ (c_X5_less l (may + (G 3)) ((pW G T ly) (ch (pW G T ly) (pY U ly) c j)) (by first | assumption | omega) (by first | assumption | omega)) (va_cwS 2 hts gX5_findLayer_X5_less rfl rfl rfl (by decide +kernel) ⟨Nat.le_of_ble_eq_true rfl, Nat.le_of_ble_eq_true rfl⟩) hl.1 rfl rfl (Nat.le_of_ble_eq_true rfl) ⟨Nat.zero_le _, Nat.zero_le _⟩ dX5_findLayer_111 ?_
                        have hfw : min (may + (G 3)) ((pW G T ly) (ch (pW G T ly) (pY U ly) c j)) = fw (pW G T ly) (pY U ly) (G 3) c j := by
                          rcases Nat.eq_zero_or_pos j with z | z
                          · subst z
                            have q := hmay0 rfl
                            show _ = (pW G T ly) (ch (pW G T ly) (pY U ly) c 0)
                            omega
                          · obtain ⟨k, rfl⟩ : ∃ k, j = k + 1 := ⟨j - 1, by omega⟩
                            rw [fw_succ, hmay z, Nat.min_comm]
                            rfl
                        refine top_eq (congrArg nI hfw) ?_
                        refine lv_istore (lv' := [(4, .int (nI (fw (pW G T ly) (pY U ly) (G 3) c j))), (0, .ref m0), (1, .int (nI ly)), (2, .int (nI c)), (3, .int (nI (ch (pW G T ly) (pY U ly) c j)))]) hx hb dX5_findLayer_114 hl (by decide) rfl (fun ls hl => ?_)
                        refine lv_aload_n hx hb dX5_findLayer_116 rfl (lv_at hl 1 rfl) ?_
                        refine va_get (D := D) (ci := 5) (v := .ref m5) (C := RX5) (T := TX5) (N := 16) hx hb hts hinX5 hown hK hP 0 rfl rfl 8 (by decide) lk6 (fun _ h9 => h9) rfl dX5_findLayer_117 ?_
                        refine lv_iload_n hx hb dX5_findLayer_120 rfl (lv_at hl 4 rfl) ?_
                        refine lv_iload hx hb dX5_findLayer_121 (lv_at hl 0 rfl) ?_
                        refine nv_iast hx hb hK hP hD hS 5 rfl (by omega) (by decide) dX5_findLayer_123 (fun H locs hP hD hS => ?_)
                        have hP : va_P D vwCl [(m0, .inr (5, [.ref m1, .ref m2, .ref m3, .int (nI (G 0)), .int (nI (G 1)), .int (nI (G 2)), .int (nI (G 3)), .ref m4, .ref m5, .int (nI n2), .ref m6, .ref m7, .ref m8, .ref m9, .ref m10, .int (nI ai)])), (m1, .inl (cI, 64, .inl (nF T))), (m2, .inl (cI, 64, .inl (nF U))), (m3, .inl (cZ, 64, .inl (nF B))), (m4, .inl (cI, 64, .inl (nF W1))), (m5, .inl (cI, 64, .inl (nF (va_up M3 (ch (pW G T ly) (pY U ly) c j) (fw (pW G T ly) (pY U ly) (G 3) c j))))), (m6, .inl (cI, 64, .inl (nF (va_up F2 n2 c)))), (m7, .inl (cI, 64, .inl (nF L3))), (m8, .inl (cI, 64, .inl (nF Z3))), (m9, .inl (cI, 64, .inl (nF Om))), (m10, .inl (cI, 64, .inl (nF Nm)))] H := hP
                        have hD : va_D A [(m0, .inr (5, [.ref m1, .ref m2, .ref m3, .int (nI (G 0)), .int (nI (G 1)), .int (nI (G 2)), .int (nI (G 3)), .ref m4, .ref m5, .int (nI n2), .ref m6, .ref m7, .ref m8, .ref m9, .ref m10, .int (nI ai)])), (m1, .inl (cI, 64, .inl (nF T))), (m2, .inl (cI, 64, .inl (nF U))), (m3, .inl (cZ, 64, .inl (nF B))), (m4, .inl (cI, 64, .inl (nF W1))), (m5, .inl (cI, 64, .inl (nF (va_up M3 (ch (pW G T ly) (pY U ly) c j) (fw (pW G T ly) (pY U ly) (G 3) c j))))), (m6, .inl (cI, 64, .inl (nF (va_up F2 n2 c)))), (m7, .inl (cI, 64, .inl (nF L3))), (m8, .inl (cI, 64, .inl (nF Z3))), (m9, .inl (cI, 64, .inl (nF Om))), (m10, .inl (cI, 64, .inl (nF Nm)))] := hD
                        refine lv_aload_n hx hb dX5_findLayer_124 rfl (lv_at hl 1 rfl) ?_
                        refine va_get (D := D) (ci := 5) (v := .ref m7) (C := RX5) (T := TX5) (N := 16) hx hb hts hinX5 hown hK hP 0 rfl rfl 11 (by decide) lk5 (fun _ h9 => h9) rfl dX5_findLayer_125 ?_
                        refine lv_aload_n hx hb dX5_findLayer_128 rfl (lv_at hl 1 rfl) ?_
                        refine va_get (D := D) (ci := 5) (v := .int (nI n2)) (C := RX5) (T := TX5) (N := 16) hx hb hts hinX5 hown hK hP 0 rfl rfl 9 (by decide) lk1 (fun _ h9 => h9) rfl dX5_findLayer_129 ?_
                        refine lv_iload_n hx hb dX5_findLayer_132 rfl (lv_at hl 4 rfl) ?_
                        refine nv_iast hx hb hK hP hD hS 7 rfl (by omega) (by decide) dX5_findLayer_133 (fun H locs hP hD hS => ?_)
                        have hP : va_P D vwCl [(m0, .inr (5, [.ref m1, .ref m2, .ref m3, .int (nI (G 0)), .int (nI (G 1)), .int (nI (G 2)), .int (nI (G 3)), .ref m4, .ref m5, .int (nI n2), .ref m6, .ref m7, .ref m8, .ref m9, .ref m10, .int (nI ai)])), (m1, .inl (cI, 64, .inl (nF T))), (m2, .inl (cI, 64, .inl (nF U))), (m3, .inl (cZ, 64, .inl (nF B))), (m4, .inl (cI, 64, .inl (nF W1))), (m5, .inl (cI, 64, .inl (nF (va_up M3 (ch (pW G T ly) (pY U ly) c j) (fw (pW G T ly) (pY U ly) (G 3) c j))))), (m6, .inl (cI, 64, .inl (nF (va_up F2 n2 c)))), (m7, .inl (cI, 64, .inl (nF (va_up L3 n2 (ch (pW G T ly) (pY U ly) c j))))), (m8, .inl (cI, 64, .inl (nF Z3))), (m9, .inl (cI, 64, .inl (nF Om))), (m10, .inl (cI, 64, .inl (nF Nm)))] H := hP
                        have hD : va_D A [(m0, .inr (5, [.ref m1, .ref m2, .ref m3, .int (nI (G 0)), .int (nI (G 1)), .int (nI (G 2)), .int (nI (G 3)), .ref m4, .ref m5, .int (nI n2), .ref m6, .ref m7, .ref m8, .ref m9, .ref m10, .int (nI ai)])), (m1, .inl (cI, 64, .inl (nF T))), (m2, .inl (cI, 64, .inl (nF U))), (m3, .inl (cZ, 64, .inl (nF B))), (m4, .inl (cI, 64, .inl (nF W1))), (m5, .inl (cI, 64, .inl (nF (va_up M3 (ch (pW G T ly) (pY U ly) c j) (fw (pW G T ly) (pY U ly) (G 3) c j))))), (m6, .inl (cI, 64, .inl (nF (va_up F2 n2 c)))), (m7, .inl (cI, 64, .inl (nF (va_up L3 n2 (ch (pW G T ly) (pY U ly) c j))))), (m8, .inl (cI, 64, .inl (nF Z3))), (m9, .inl (cI, 64, .inl (nF Om))), (m10, .inl (cI, 64, .inl (nF Nm)))] := hD
                        refine lv_aload_n hx hb dX5_findLayer_134 rfl (lv_at hl 1 rfl) ?_
                        refine va_get (D := D) (ci := 5) (v := .ref m8) (C := RX5) (T := TX5) (N := 16) hx hb hts hinX5 hown hK hP 0 rfl rfl 12 (by decide) lk4 (fun _ h9 => h9) rfl dX5_findLayer_135 ?_
                        refine lv_aload_n hx hb dX5_findLayer_138 rfl (lv_at hl 1 rfl) ?_
                        refine va_get (D := D) (ci := 5) (v := .int (nI n2)) (C := RX5) (T := TX5) (N := 16) hx hb hts hinX5 hown hK hP 0 rfl rfl 9 (by decide) lk1 (fun _ h9 => h9) rfl dX5_findLayer_139 ?_
                        refine lv_dup2_11 hx hb dX5_findLayer_142 rfl rfl ?_
                        refine nv_iald hx hb hK hP 8 rfl (by omega) (by decide) dX5_findLayer_143 ?_
                        refine lv_iconst (v := nI 1) hx hb dX5_findLayer_144 (by decide) ?_
                        refine nv_iadd hx hb dX5_findLayer_145 ?_
                        refine nv_iast hx hb hK hP hD hS 8 rfl (by omega) (by decide) dX5_findLayer_146 (fun H locs hP hD hS => ?_)
                        have hP : va_P D vwCl [(m0, .inr (5, [.ref m1, .ref m2, .ref m3, .int (nI (G 0)), .int (nI (G 1)), .int (nI (G 2)), .int (nI (G 3)), .ref m4, .ref m5, .int (nI n2), .ref m6, .ref m7, .ref m8, .ref m9, .ref m10, .int (nI ai)])), (m1, .inl (cI, 64, .inl (nF T))), (m2, .inl (cI, 64, .inl (nF U))), (m3, .inl (cZ, 64, .inl (nF B))), (m4, .inl (cI, 64, .inl (nF W1))), (m5, .inl (cI, 64, .inl (nF (va_up M3 (ch (pW G T ly) (pY U ly) c j) (fw (pW G T ly) (pY U ly) (G 3) c j))))), (m6, .inl (cI, 64, .inl (nF (va_up F2 n2 c)))), (m7, .inl (cI, 64, .inl (nF (va_up L3 n2 (ch (pW G T ly) (pY U ly) c j))))), (m8, .inl (cI, 64, .inl (nF (va_up Z3 n2 ((Z3 n2) + 1))))), (m9, .inl (cI, 64, .inl (nF Om))), (m10, .inl (cI, 64, .inl (nF Nm)))] H := hP
                        have hD : va_D A [(m0, .inr (5, [.ref m1, .ref m2, .ref m3, .int (nI (G 0)), .int (nI (G 1)), .int (nI (G 2)), .int (nI (G 3)), .ref m4, .ref m5, .int (nI n2), .ref m6, .ref m7, .ref m8, .ref m9, .ref m10, .int (nI ai)])), (m1, .inl (cI, 64, .inl (nF T))), (m2, .inl (cI, 64, .inl (nF U))), (m3, .inl (cZ, 64, .inl (nF B))), (m4, .inl (cI, 64, .inl (nF W1))), (m5, .inl (cI, 64, .inl (nF (va_up M3 (ch (pW G T ly) (pY U ly) c j) (fw (pW G T ly) (pY U ly) (G 3) c j))))), (m6, .inl (cI, 64, .inl (nF (va_up F2 n2 c)))), (m7, .inl (cI, 64, .inl (nF (va_up L3 n2 (ch (pW G T ly) (pY U ly) c j))))), (m8, .inl (cI, 64, .inl (nF (va_up Z3 n2 ((Z3 n2) + 1))))), (m9, .inl (cI, 64, .inl (nF Om))), (m10, .inl (cI, 64, .inl (nF Nm)))] := hD
                        refine lv_aload_n hx hb dX5_findLayer_147 rfl (lv_at hl 1 rfl) ?_
                        refine lv_iload_n hx hb dX5_findLayer_148 rfl (lv_at hl 4 rfl) ?_
                        refine lv_iload_n hx hb dX5_findLayer_149 rfl (lv_at hl 2 rfl) ?_
                        refine lv_iconst (v := nI 1) hx hb dX5_findLayer_150 (by decide) ?_
                        refine gcVi (ws' := fun _ => [(m0, .inr (5, [.ref m1, .ref m2, .ref m3, .int (nI (G 0)), .int (nI (G 1)), .int (nI (G 2)), .int (nI (G 3)), .ref m4, .ref m5, .int (nI n2), .ref m6, .ref m7, .ref m8, .ref m9, .ref m10, .int (nI ai)])), (m1, .inl (cI, 64, .inl (nF T))), (m2, .inl (cI, 64, .inl (nF U))), (m3, .inl (cZ, 64, .inl (nF B))), (m4, .inl (cI, 64, .inl (nF W1))), (m5, .inl (cI, 64, .inl (nF ((va_up M3 (ch (pW G T ly) (pY U ly) c j) (fw (pW G T ly) (pY U ly) (G 3) c j)))))), (m6, .inl (cI, 64, .inl (nF ((va_up F2 n2 c))))), (m7, .inl (cI, 64, .inl (nF ((va_up L3 n2 (ch (pW G T ly) (pY U ly) c j)))))), (m8, .inl (cI, 64, .inl (nF ((va_up Z3 n2 ((Z3 n2) + 1)))))), (m9, .inl (cI, 64, .inl (nF Om))), (m10, .inl (cI, 64, .inl (nF Nm)))]) (wr := []) (ci := 5) (q0 := 0) (As := [.int (nI (ch (pW G T ly) (pY U ly) c j)), .int (nI ly), .int (nI 1)]) (rest := []) ⟨hx, hb, hml, hown, hts⟩ (c_X5_tied_on l D cI cZ tt H.size m0 m1 m2 m3 m4 m5 m6 m7 m8 m9 m10 n2 ai T U B G W1 (va_up M3 (ch (pW G T ly) (pY U ly) c j) (fw (pW G T ly) (pY U ly) (G 3) c j)) (va_up F2 n2 c) (va_up L3 n2 (ch (pW G T ly) (pY U ly) c j)) (va_up Z3 n2 ((Z3 n2) + 1)) Om Nm (pW G T ly) (ch (pW G T ly) (pY U ly) c j) ly (by first | assumption | omega) (by first | assumption | omega) (by first | assumption | omega) (by exact hc64) (by first | assumption | omega)) (cwV 3 hts gX5_findLayer_X5_tied rfl rfl rfl (by decide +kernel) ⟨Nat.le_of_ble_eq_true rfl, Nat.le_of_ble_eq_true rfl⟩) hP hK hD hS hA hG rfl rfl [0, 1, 2, 3, 4, 5, 6, 7, 8, 9, 10] [] [0, 1, 2, 3, 4, 5, 6, 7, 8, 9, 10] (by decide) rfl rfl (by decide) (by decide) (by decide) (fun _ => rfl) hl.1 rfl rfl (Nat.le_of_ble_eq_true rfl) ⟨Nat.zero_le _, Nat.zero_le _⟩ dX5_findLayer_151 (fun r u H locs hp hP hD hS => ?_)
                        obtain rfl := hp
                        have hP : va_P D vwCl [(m0, .inr (5, [.ref m1, .ref m2, .ref m3, .int (nI (G 0)), .int (nI (G 1)), .int (nI (G 2)), .int (nI (G 3)), .ref m4, .ref m5, .int (nI n2), .ref m6, .ref m7, .ref m8, .ref m9, .ref m10, .int (nI ai)])), (m1, .inl (cI, 64, .inl (nF T))), (m2, .inl (cI, 64, .inl (nF U))), (m3, .inl (cZ, 64, .inl (nF B))), (m4, .inl (cI, 64, .inl (nF W1))), (m5, .inl (cI, 64, .inl (nF ((va_up M3 (ch (pW G T ly) (pY U ly) c j) (fw (pW G T ly) (pY U ly) (G 3) c j)))))), (m6, .inl (cI, 64, .inl (nF ((va_up F2 n2 c))))), (m7, .inl (cI, 64, .inl (nF ((va_up L3 n2 (ch (pW G T ly) (pY U ly) c j)))))), (m8, .inl (cI, 64, .inl (nF ((va_up Z3 n2 ((Z3 n2) + 1)))))), (m9, .inl (cI, 64, .inl (nF Om))), (m10, .inl (cI, 64, .inl (nF Nm)))] H := hP
                        have hD : va_D A [(m0, .inr (5, [.ref m1, .ref m2, .ref m3, .int (nI (G 0)), .int (nI (G 1)), .int (nI (G 2)), .int (nI (G 3)), .ref m4, .ref m5, .int (nI n2), .ref m6, .ref m7, .ref m8, .ref m9, .ref m10, .int (nI ai)])), (m1, .inl (cI, 64, .inl (nF T))), (m2, .inl (cI, 64, .inl (nF U))), (m3, .inl (cZ, 64, .inl (nF B))), (m4, .inl (cI, 64, .inl (nF W1))), (m5, .inl (cI, 64, .inl (nF ((va_up M3 (ch (pW G T ly) (pY U ly) c j) (fw (pW G T ly) (pY U ly) (G 3) c j)))))), (m6, .inl (cI, 64, .inl (nF ((va_up F2 n2 c))))), (m7, .inl (cI, 64, .inl (nF ((va_up L3 n2 (ch (pW G T ly) (pY U ly) c j)))))), (m8, .inl (cI, 64, .inl (nF ((va_up Z3 n2 ((Z3 n2) + 1)))))), (m9, .inl (cI, 64, .inl (nF Om))), (m10, .inl (cI, 64, .inl (nF Nm)))] := hD
                        refine lv_istore_n (lv' := [(3, .int (rI (tn (pW G T ly) (pY U ly) (ch (pW G T ly) (pY U ly) c j)))), (4, .int (nI (fw (pW G T ly) (pY U ly) (G 3) c j))), (0, .ref m0), (1, .int (nI ly)), (2, .int (nI c))]) hx hb dX5_findLayer_154 rfl hl (by decide) rfl (fun ls hl => ?_)
                        refine lv_goto (tgt := 93) hx hb dX5_findLayer_155 (by decide) ?_
                        exact ih93 (j + 1) ((va_up M3 (ch (pW G T ly) (pY U ly) c j) (fw (pW G T ly) (pY U ly) (G 3) c j))) ((va_up L3 n2 (ch (pW G T ly) (pY U ly) c j))) ((va_up Z3 n2 ((Z3 n2) + 1))) (fw (pW G T ly) (pY U ly) (G 3) c j) (by omega) (by omega) (by have := fw_le (p := (pW G T ly)) (y := (pY U ly)) (sw := G 3) (c := c) (i := j); have := hp (ch (pW G T ly) (pY U ly) c j); omega) (fun z => absurd z (by omega)) (fun _ => rfl) (by
                          intro i hi
                          rcases Nat.lt_or_ge i j with z | z
                          · rw [up_n _ _ (fun e => by have := ch_inj (show c < 64 by omega) hbg.1 (i := i) (j := j) (by omega) hjl e; omega)]; exact hMa i z
                          · rw [show i = j by omega, up_s]) (by
                          intro d hd
                          rw [up_n _ _ (hd j (by omega))]
                          exact hMb d (fun i hi => hd i (by omega))) (by
                          intro _
                          rcases Nat.eq_zero_or_pos j with z | z
                          · rw [hLb z, z]
                          · rw [hLa z, bx_uu]; rfl) (fun z => absurd z (by omega)) (by rw [hZa, bx_uu, up_s]) (tn_le _ _ _) _ _ _ hP hD hS (lv_sub hl [2, 3, 4, 0, 1] rfl)
                  exact L93 (9 + 1) 0 M2 L2 (va_up Z2 n2 0) 1000 (by omega) (by omega) (by omega) (fun _ => rfl) (fun z => absurd z (by omega)) (fun i hi => absurd hi (by omega)) (fun _ _ => rfl) (fun z => absurd z (by omega)) (fun _ => rfl) rfl (by show c ≤ 64; omega) _ _ _ hP hD hS (lv_sub hl [2, 3, 4, 1, 0] (by rw [show rI (ch (pW G T ly) (pY U ly) c 0) = nI c from rI_some (by show ¬ c = 64; omega)]; rfl))
        exact L40 (64 + 1) 0 M1 F L Z 0 (by omega) (by omega) rfl (LI_0 q2) _ _ _ hP hD hS (lv_sub hl [1, 2, 0] rfl)
      · skip
        refine lv_aload_n hx hb dX5_findLayer_8 rfl (lv_at hl 0 rfl) ?_
        refine va_get (D := D) (ci := 5) (v := .ref m4) (C := RX5) (T := TX5) (N := 16) hx hb hts hinX5 hown hK hP 0 rfl rfl 7 (by decide) lk2 (fun _ h9 => h9) rfl dX5_findLayer_9 ?_
        refine lv_iload_n hx hb dX5_findLayer_12 rfl (lv_at hl 2 rfl) ?_
        refine lv_aload_n hx hb dX5_findLayer_13 rfl (lv_at hl 0 rfl) ?_
        refine lv_iload_n hx hb dX5_findLayer_14 rfl (lv_at hl 2 rfl) ?_
        refine lv_iload_n hx hb dX5_findLayer_15 rfl (lv_at hl 1 rfl) ?_
        refine gcVi (ws' := fun _ => [(m0, .inr (5, [.ref m1, .ref m2, .ref m3, .int (nI (G 0)), .int (nI (G 1)), .int (nI (G 2)), .int (nI (G 3)), .ref m4, .ref m5, .int (nI np), .ref m6, .ref m7, .ref m8, .ref m9, .ref m10, .int (nI ai)])), (m1, .inl (cI, 64, .inl (nF T))), (m2, .inl (cI, 64, .inl (nF U))), (m3, .inl (cZ, 64, .inl (nF B))), (m4, .inl (cI, 64, .inl (nF W1))), (m5, .inl (cI, 64, .inl (nF M1))), (m6, .inl (cI, 64, .inl (nF F))), (m7, .inl (cI, 64, .inl (nF L))), (m8, .inl (cI, 64, .inl (nF Z))), (m9, .inl (cI, 64, .inl (nF Om))), (m10, .inl (cI, 64, .inl (nF Nm)))]) (wr := []) (ci := 5) (q0 := 0) (As := [.int (nI i), .int (nI ly)]) (rest := [.int (nI i), .ref m4]) ⟨hx, hb, hml, hown, hts⟩ (c_X5_wantedOf l D cI cZ tt H.size m0 m1 m2 m3 m4 m5 m6 m7 m8 m9 m10 np ai T U B G W1 M1 F L Z Om Nm i ly (by first | assumption | omega) (by first | assumption | omega) (by first | assumption | omega) (by first | assumption | omega)) (cwV 2 hts gX5_findLayer_X5_wantedOf rfl rfl rfl (by decide +kernel) ⟨Nat.le_of_ble_eq_true rfl, Nat.le_of_ble_eq_true rfl⟩) hP hK hD hS hA hG rfl rfl [0, 1, 2, 3, 4, 5, 6, 7, 8, 9, 10] [] [0, 1, 2, 3, 4, 5, 6, 7, 8, 9, 10] (by decide) rfl rfl (by decide) (by decide) (by decide) (fun _ => rfl) hl.1 rfl rfl (Nat.le_of_ble_eq_true rfl) ⟨Nat.zero_le _, Nat.zero_le _⟩ dX5_findLayer_16 (fun r u H locs hp hP hD hS => ?_)
        obtain rfl := hp
        have hP : va_P D vwCl [(m0, .inr (5, [.ref m1, .ref m2, .ref m3, .int (nI (G 0)), .int (nI (G 1)), .int (nI (G 2)), .int (nI (G 3)), .ref m4, .ref m5, .int (nI np), .ref m6, .ref m7, .ref m8, .ref m9, .ref m10, .int (nI ai)])), (m1, .inl (cI, 64, .inl (nF T))), (m2, .inl (cI, 64, .inl (nF U))), (m3, .inl (cZ, 64, .inl (nF B))), (m4, .inl (cI, 64, .inl (nF W1))), (m5, .inl (cI, 64, .inl (nF M1))), (m6, .inl (cI, 64, .inl (nF F))), (m7, .inl (cI, 64, .inl (nF L))), (m8, .inl (cI, 64, .inl (nF Z))), (m9, .inl (cI, 64, .inl (nF Om))), (m10, .inl (cI, 64, .inl (nF Nm)))] H := hP
        have hD : va_D A [(m0, .inr (5, [.ref m1, .ref m2, .ref m3, .int (nI (G 0)), .int (nI (G 1)), .int (nI (G 2)), .int (nI (G 3)), .ref m4, .ref m5, .int (nI np), .ref m6, .ref m7, .ref m8, .ref m9, .ref m10, .int (nI ai)])), (m1, .inl (cI, 64, .inl (nF T))), (m2, .inl (cI, 64, .inl (nF U))), (m3, .inl (cZ, 64, .inl (nF B))), (m4, .inl (cI, 64, .inl (nF W1))), (m5, .inl (cI, 64, .inl (nF M1))), (m6, .inl (cI, 64, .inl (nF F))), (m7, .inl (cI, 64, .inl (nF L))), (m8, .inl (cI, 64, .inl (nF Z))), (m9, .inl (cI, 64, .inl (nF Om))), (m10, .inl (cI, 64, .inl (nF Nm)))] := hD
        refine nv_iast hx hb hK hP hD hS 4 rfl (by omega) (by decide) dX5_findLayer_19 (fun H locs hP hD hS => ?_)
        have hP : va_P D vwCl [(m0, .inr (5, [.ref m1, .ref m2, .ref m3, .int (nI (G 0)), .int (nI (G 1)), .int (nI (G 2)), .int (nI (G 3)), .ref m4, .ref m5, .int (nI np), .ref m6, .ref m7, .ref m8, .ref m9, .ref m10, .int (nI ai)])), (m1, .inl (cI, 64, .inl (nF T))), (m2, .inl (cI, 64, .inl (nF U))), (m3, .inl (cZ, 64, .inl (nF B))), (m4, .inl (cI, 64, .inl (nF (va_up W1 i (wd G (T i) ly))))), (m5, .inl (cI, 64, .inl (nF M1))), (m6, .inl (cI, 64, .inl (nF F))), (m7, .inl (cI, 64, .inl (nF L))), (m8, .inl (cI, 64, .inl (nF Z))), (m9, .inl (cI, 64, .inl (nF Om))), (m10, .inl (cI, 64, .inl (nF Nm)))] H := hP
        have hD : va_D A [(m0, .inr (5, [.ref m1, .ref m2, .ref m3, .int (nI (G 0)), .int (nI (G 1)), .int (nI (G 2)), .int (nI (G 3)), .ref m4, .ref m5, .int (nI np), .ref m6, .ref m7, .ref m8, .ref m9, .ref m10, .int (nI ai)])), (m1, .inl (cI, 64, .inl (nF T))), (m2, .inl (cI, 64, .inl (nF U))), (m3, .inl (cZ, 64, .inl (nF B))), (m4, .inl (cI, 64, .inl (nF (va_up W1 i (wd G (T i) ly))))), (m5, .inl (cI, 64, .inl (nF M1))), (m6, .inl (cI, 64, .inl (nF F))), (m7, .inl (cI, 64, .inl (nF L))), (m8, .inl (cI, 64, .inl (nF Z))), (m9, .inl (cI, 64, .inl (nF Om))), (m10, .inl (cI, 64, .inl (nF Nm)))] := hD
        refine lv_aload_n hx hb dX5_findLayer_20 rfl (lv_at hl 0 rfl) ?_
        refine va_get (D := D) (ci := 5) (v := .ref m5) (C := RX5) (T := TX5) (N := 16) hx hb hts hinX5 hown hK hP 0 rfl rfl 8 (by decide) lk6 (fun _ h9 => h9) rfl dX5_findLayer_21 ?_
        refine lv_iload_n hx hb dX5_findLayer_24 rfl (lv_at hl 2 rfl) ?_
        refine lv_iconst (v := nI 0) hx hb dX5_findLayer_25 (by decide) ?_
        refine nv_iast hx hb hK hP hD hS 5 rfl (by omega) (by decide) dX5_findLayer_26 (fun H locs hP hD hS => ?_)
        have hP : va_P D vwCl [(m0, .inr (5, [.ref m1, .ref m2, .ref m3, .int (nI (G 0)), .int (nI (G 1)), .int (nI (G 2)), .int (nI (G 3)), .ref m4, .ref m5, .int (nI np), .ref m6, .ref m7, .ref m8, .ref m9, .ref m10, .int (nI ai)])), (m1, .inl (cI, 64, .inl (nF T))), (m2, .inl (cI, 64, .inl (nF U))), (m3, .inl (cZ, 64, .inl (nF B))), (m4, .inl (cI, 64, .inl (nF (va_up W1 i (wd G (T i) ly))))), (m5, .inl (cI, 64, .inl (nF (va_up M1 i 0)))), (m6, .inl (cI, 64, .inl (nF F))), (m7, .inl (cI, 64, .inl (nF L))), (m8, .inl (cI, 64, .inl (nF Z))), (m9, .inl (cI, 64, .inl (nF Om))), (m10, .inl (cI, 64, .inl (nF Nm)))] H := hP
        have hD : va_D A [(m0, .inr (5, [.ref m1, .ref m2, .ref m3, .int (nI (G 0)), .int (nI (G 1)), .int (nI (G 2)), .int (nI (G 3)), .ref m4, .ref m5, .int (nI np), .ref m6, .ref m7, .ref m8, .ref m9, .ref m10, .int (nI ai)])), (m1, .inl (cI, 64, .inl (nF T))), (m2, .inl (cI, 64, .inl (nF U))), (m3, .inl (cZ, 64, .inl (nF B))), (m4, .inl (cI, 64, .inl (nF (va_up W1 i (wd G (T i) ly))))), (m5, .inl (cI, 64, .inl (nF (va_up M1 i 0)))), (m6, .inl (cI, 64, .inl (nF F))), (m7, .inl (cI, 64, .inl (nF L))), (m8, .inl (cI, 64, .inl (nF Z))), (m9, .inl (cI, 64, .inl (nF Om))), (m10, .inl (cI, 64, .inl (nF Nm)))] := hD
        refine lv_iinc (v := nI (i + 1)) (lv' := [(2, .int (nI (i + 1))), (0, .ref m0), (1, .int (nI ly))]) hx hb dX5_findLayer_27 hl (k := 2) rfl (by exact nI_add _ 1) (by decide) rfl (fun ls hl => ?_)
        refine lv_goto (tgt := 2) hx hb dX5_findLayer_30 (by decide) ?_
        exact ih2 (i + 1) (va_up W1 i (wd G (T i) ly)) (va_up M1 i 0) (by omega) (by omega) (by
          intro k hk
          rcases Nat.lt_or_ge k i with z | z
          · rw [up_n _ _ (by omega)]; exact q1 k z
          · rw [show k = i by omega, up_s]) (by
          intro k hk
          rcases Nat.lt_or_ge k i with z | z
          · rw [up_n _ _ (by omega)]; exact q2 k z
          · rw [show k = i by omega, up_s]) _ _ _ hP hD hS (lv_sub hl [1, 2, 0] rfl)
  exact L2 (64 + 1) 0 Wm M (by omega) (by omega) (fun k hk => absurd hk (by omega)) (fun k hk => absurd hk (by omega)) _ _ _ hP hD hS (lv_sub hl [1, 2, 0] rfl)
