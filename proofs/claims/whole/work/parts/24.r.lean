set_option maxHeartbeats 4000000 in
set_option maxRecDepth 100000 in
theorem c_X5_path (l : Launch) (D : va_G) (cI cZ : ClassId) (tt : Nat → Nat) (sz : Nat) (m0 m1 m2 m3 m4 m5 m6 m7 m8 m9 m10 : Nat) (np ai : Nat) (T U B G Wm M F L Z Om Nm : Nat → Nat) (ly k what : Int32) (hT : ∀ k, T k ≤ 100) (hU : ∀ k, U k < 8) (hGs : ∀ k, G k ≤ 100) : MI l yX5_path wsX5_path ({ frames := 4, cells := 0, slots := 0, locals := 93 } : Room) D cI cZ tt [.ref m0, .int (ly), .int (k), .int (what)] [(m0, .inr (5, [.ref m1, .ref m2, .ref m3, .int (nI (G 0)), .int (nI (G 1)), .int (nI (G 2)), .int (nI (G 3)), .ref m4, .ref m5, .int (nI np), .ref m6, .ref m7, .ref m8, .ref m9, .ref m10, .int (nI ai)])), (m1, .inl (cI, 64, .inl (nF T))), (m2, .inl (cI, 64, .inl (nF U))), (m3, .inl (cZ, 64, .inl (nF B))), (m4, .inl (cI, 64, .inl (nF Wm))), (m5, .inl (cI, 64, .inl (nF M))), (m6, .inl (cI, 64, .inl (nF F))), (m7, .inl (cI, 64, .inl (nF L))), (m8, .inl (cI, 64, .inl (nF Z))), (m9, .inl (cI, 64, .inl (nF Om))), (m10, .inl (cI, 64, .inl (nF Nm)))] sz (fun (r : Int32) (u : (Nat → Nat) × (Nat → Nat) × (Nat → Nat) × (Nat → Nat) × (Nat → Nat) × (Nat)) => r = aPath G T U ly k what) (fun (u : (Nat → Nat) × (Nat → Nat) × (Nat → Nat) × (Nat → Nat) × (Nat → Nat) × (Nat)) => [(m0, .inr (5, [.ref m1, .ref m2, .ref m3, .int (nI (G 0)), .int (nI (G 1)), .int (nI (G 2)), .int (nI (G 3)), .ref m4, .ref m5, .int (nI u.2.2.2.2.2), .ref m6, .ref m7, .ref m8, .ref m9, .ref m10, .int (nI ai)])), (m1, .inl (cI, 64, .inl (nF T))), (m2, .inl (cI, 64, .inl (nF U))), (m3, .inl (cZ, 64, .inl (nF B))), (m4, .inl (cI, 64, .inl (nF u.1))), (m5, .inl (cI, 64, .inl (nF u.2.1))), (m6, .inl (cI, 64, .inl (nF u.2.2.1))), (m7, .inl (cI, 64, .inl (nF u.2.2.2.1))), (m8, .inl (cI, 64, .inl (nF u.2.2.2.2.1))), (m9, .inl (cI, 64, .inl (nF Om))), (m10, .inl (cI, 64, .inl (nF Nm)))]) := by
  refine entI (cc := cX5_path) 6 (by decide) rfl (Nat.le_of_ble_eq_true rfl) (Or.inl rfl) (fun pr e s m args below meth c0 A Q H ls hx hb hml hown hts hsz hA hP hK hD hS hG hret hl => ?_)
  have hown : s.vm.findClass RX5 = some m.cls := hown
  have lk1 := hts (.fieldLink RX5 95 "BurinLinesModel" "paths" "I") (by decide +kernel)
  have lk2 := hts (.fieldLink RX5 39 "BurinLinesModel" "first" "[I") (by decide +kernel)
  have lk3 := hts (.fieldLink RX5 45 "BurinLinesModel" "size" "[I") (by decide +kernel)
  have lk4 := hts (.fieldLink RX5 42 "BurinLinesModel" "last" "[I") (by decide +kernel)
  have lk5 := hts (.fieldLink RX5 36 "BurinLinesModel" "made" "[I") (by decide +kernel)
  have hinX5 : ∀ w ∈ wsX50, w ∈ wsX5_path := by decide +kernel
  have hl : lv_has ls 6 [(0, .ref m0), (1, .int (ly)), (2, .int (k)), (3, .int (what))] := hl
  refine lv_iload_n hx hb dX5_path_0 rfl (lv_at hl 1 rfl) ?_
  refine gcS (As := [.int (ly)]) (rest := []) ⟨hx, hb, hml, hown, hts⟩ (c_X5_isLayer l ly ) (va_cwS 1 hts gX5_path_X5_isLayer rfl rfl rfl (by decide +kernel) ⟨Nat.le_of_ble_eq_true rfl, Nat.le_of_ble_eq_true rfl⟩) hl.1 rfl rfl (Nat.le_of_ble_eq_true rfl) ⟨Nat.zero_le _, Nat.zero_le _⟩ dX5_path_1 ?_
  refine nv_ifb_ne (tgt := 10) hx hb dX5_path_4 (by decide) (fun c_1 => ?_) (fun c_1 => ?_)
  · skip
    rcases c_1 with hL | hL
    · skip
      obtain rfl : ly = nI 0 := hL.trans nI_0.symm
      refine lv_aload_n hx hb dX5_path_10 rfl (lv_at hl 0 rfl) ?_
      refine lv_iload_n hx hb dX5_path_11 rfl (lv_at hl 1 rfl) ?_
      refine gcVv (ws' := fun (u : (Nat → Nat) × (Nat → Nat) × (Nat → Nat) × (Nat → Nat) × (Nat → Nat) × (Nat)) => [(m0, .inr (5, [.ref m1, .ref m2, .ref m3, .int (nI (G 0)), .int (nI (G 1)), .int (nI (G 2)), .int (nI (G 3)), .ref m4, .ref m5, .int (nI u.2.2.2.2.2), .ref m6, .ref m7, .ref m8, .ref m9, .ref m10, .int (nI ai)])), (m1, .inl (cI, 64, .inl (nF T))), (m2, .inl (cI, 64, .inl (nF U))), (m3, .inl (cZ, 64, .inl (nF B))), (m4, .inl (cI, 64, .inl (nF u.1))), (m5, .inl (cI, 64, .inl (nF u.2.1))), (m6, .inl (cI, 64, .inl (nF u.2.2.1))), (m7, .inl (cI, 64, .inl (nF u.2.2.2.1))), (m8, .inl (cI, 64, .inl (nF u.2.2.2.2.1))), (m9, .inl (cI, 64, .inl (nF Om))), (m10, .inl (cI, 64, .inl (nF Nm)))]) (wr := []) (ci := 5) (q0 := 0) (As := [.int (nI 0)]) (rest := []) ⟨hx, hb, hml, hown, hts⟩ (c_X5_findLayer l D cI cZ tt H.size m0 m1 m2 m3 m4 m5 m6 m7 m8 m9 m10 np ai T U B G Wm M F L Z Om Nm 0 (by first | assumption | omega) (by first | assumption | omega) (by first | assumption | omega) (by first | assumption | omega)) (cwV 1 hts gX5_path_X5_findLayer rfl rfl rfl (by decide +kernel) ⟨Nat.le_of_ble_eq_true rfl, Nat.le_of_ble_eq_true rfl⟩) hP hK hD hS hA hG rfl rfl [0, 1, 2, 3, 4, 5, 6, 7, 8, 9, 10] [] [0, 1, 2, 3, 4, 5, 6, 7, 8, 9, 10] (by decide) rfl rfl (by decide) (by decide) (by decide) (fun _ => rfl) hl.1 rfl rfl (Nat.le_of_ble_eq_true rfl) ⟨Nat.zero_le _, Nat.zero_le _⟩ dX5_path_12 (fun  u H locs hp hP hD hS => ?_)
      obtain ⟨Wq, Mq, Fq, Lq, Zq, nq⟩ := u
      obtain ⟨hLDq, hnDq, hWq⟩ := hp
      have hLDq : LD (pW G T 0) (pY U 0) (G 3) Mq Fq Lq Zq := hLDq
      have hnDq : nq = npf G T U 0 := hnDq
      have hWq : ∀ k, k < 64 → Wq k = pW G T 0 k := hWq
      have hP : va_P D vwCl [(m0, .inr (5, [.ref m1, .ref m2, .ref m3, .int (nI (G 0)), .int (nI (G 1)), .int (nI (G 2)), .int (nI (G 3)), .ref m4, .ref m5, .int (nI nq), .ref m6, .ref m7, .ref m8, .ref m9, .ref m10, .int (nI ai)])), (m1, .inl (cI, 64, .inl (nF T))), (m2, .inl (cI, 64, .inl (nF U))), (m3, .inl (cZ, 64, .inl (nF B))), (m4, .inl (cI, 64, .inl (nF Wq))), (m5, .inl (cI, 64, .inl (nF Mq))), (m6, .inl (cI, 64, .inl (nF Fq))), (m7, .inl (cI, 64, .inl (nF Lq))), (m8, .inl (cI, 64, .inl (nF Zq))), (m9, .inl (cI, 64, .inl (nF Om))), (m10, .inl (cI, 64, .inl (nF Nm)))] H := hP
      have hD : va_D A [(m0, .inr (5, [.ref m1, .ref m2, .ref m3, .int (nI (G 0)), .int (nI (G 1)), .int (nI (G 2)), .int (nI (G 3)), .ref m4, .ref m5, .int (nI nq), .ref m6, .ref m7, .ref m8, .ref m9, .ref m10, .int (nI ai)])), (m1, .inl (cI, 64, .inl (nF T))), (m2, .inl (cI, 64, .inl (nF U))), (m3, .inl (cZ, 64, .inl (nF B))), (m4, .inl (cI, 64, .inl (nF Wq))), (m5, .inl (cI, 64, .inl (nF Mq))), (m6, .inl (cI, 64, .inl (nF Fq))), (m7, .inl (cI, 64, .inl (nF Lq))), (m8, .inl (cI, 64, .inl (nF Zq))), (m9, .inl (cI, 64, .inl (nF Om))), (m10, .inl (cI, 64, .inl (nF Nm)))] := hD
      have hnp : nq ≤ 64 := by rw [hnDq]; exact npf_le _ _ _ _
      refine lv_iload_n hx hb dX5_path_15 rfl (lv_at hl 2 rfl) ?_
      refine lv_iconst (v := nI 0) hx hb dX5_path_16 (by decide) ?_
      refine lv_aload_n hx hb dX5_path_17 rfl (lv_at hl 0 rfl) ?_
      refine va_get (D := D) (ci := 5) (v := .int (nI nq)) (C := RX5) (T := TX5) (N := 16) hx hb hts hinX5 hown hK hP 0 rfl rfl 9 (by decide) lk1 (fun _ h9 => h9) rfl dX5_path_18 ?_
      refine lv_iconst (v := nI 1) hx hb dX5_path_21 (by decide) ?_
      refine lv_isub hx hb dX5_path_22 ?_
      refine gcS (As := [.int (k), .int (nI 0), .int ((nI nq) - (nI 1))]) (rest := []) ⟨hx, hb, hml, hown, hts⟩ (c_X5_in l k (nI 0) ((nI nq) - (nI 1)) ) (va_cwS 3 hts gX5_path_X5_in rfl rfl rfl (by decide +kernel) ⟨Nat.le_of_ble_eq_true rfl, Nat.le_of_ble_eq_true rfl⟩) hl.1 rfl rfl (Nat.le_of_ble_eq_true rfl) ⟨Nat.zero_le _, Nat.zero_le _⟩ dX5_path_23 ?_
      refine nv_ifb_ne (tgt := 32) hx hb dX5_path_26 (by decide) (fun c_2 => ?_) (fun c_2 => ?_)
      · skip
        have hik := (in_okk hnp).mp c_2
        obtain ⟨ii, hii, rfl⟩ := up_to (by omega) hik.1 hik.2
        rw [hnDq] at hii hik
        have hk64 := npf_le G T U 0
        refine lv_iconst (v := nI 0) hx hb dX5_path_32 (by decide) ?_
        refine lv_istore (lv' := [(4, .int (nI 0)), (0, .ref m0), (1, .int (nI 0)), (2, .int (nI ii)), (3, .int (what))]) hx hb dX5_path_33 hl (by decide) rfl (fun ls hl => ?_)
        refine lv_aload_n hx hb dX5_path_35 rfl (lv_at hl 1 rfl) ?_
        refine va_get (D := D) (ci := 5) (v := .ref m6) (C := RX5) (T := TX5) (N := 16) hx hb hts hinX5 hown hK hP 0 rfl rfl 10 (by decide) lk2 (fun _ h9 => h9) rfl dX5_path_36 ?_
        refine lv_iload_n hx hb dX5_path_39 rfl (lv_at hl 3 rfl) ?_
        refine nv_iald hx hb hK hP 6 rfl (by omega) (by decide) dX5_path_40 ?_
        obtain ⟨r1, r2, r3⟩ := stc_arr hLDq hii
        obtain ⟨s1, s2, s3⟩ := stc_spec hii
        obtain ⟨c, hce⟩ : ∃ c, c = stc (pW G T 0) (pY U 0) ii := ⟨_, rfl⟩
        rw [← hce] at r1 r3 s1 s2 s3
        have hln := ln_spec (Y := (pY U 0)) s1 s2.1
        have hokp := (hLDq.2 c s1 s2).1
        refine top_eq (congrArg nI r1) ?_
        refine lv_istore (lv' := [(5, .int (nI c)), (4, .int (nI 0)), (0, .ref m0), (1, .int (nI 0)), (2, .int (nI ii)), (3, .int (what))]) hx hb dX5_path_41 hl (by decide) rfl (fun ls hl => ?_)
        have L43 : ∀ (n : Nat) (j : Nat) (gm : Nat), 9 - j < n → (j ≤ ln (pW G T 0) (pY U 0) c) → (gm = mxf (fun i => Mq (ch (pW G T 0) (pY U 0) c i)) j) → (gm ≤ 100) → (ch (pW G T 0) (pY U 0) c j ≤ 64) → ∀ (H : Heap) (locs : List Loc) (ls : Array Slot), va_P D vwCl [(m0, .inr (5, [.ref m1, .ref m2, .ref m3, .int (nI (G 0)), .int (nI (G 1)), .int (nI (G 2)), .int (nI (G 3)), .ref m4, .ref m5, .int (nI nq), .ref m6, .ref m7, .ref m8, .ref m9, .ref m10, .int (nI ai)])), (m1, .inl (cI, 64, .inl (nF T))), (m2, .inl (cI, 64, .inl (nF U))), (m3, .inl (cZ, 64, .inl (nF B))), (m4, .inl (cI, 64, .inl (nF Wq))), (m5, .inl (cI, 64, .inl (nF Mq))), (m6, .inl (cI, 64, .inl (nF Fq))), (m7, .inl (cI, 64, .inl (nF Lq))), (m8, .inl (cI, 64, .inl (nF Zq))), (m9, .inl (cI, 64, .inl (nF Om))), (m10, .inl (cI, 64, .inl (nF Nm)))] H → va_D A [(m0, .inr (5, [.ref m1, .ref m2, .ref m3, .int (nI (G 0)), .int (nI (G 1)), .int (nI (G 2)), .int (nI (G 3)), .ref m4, .ref m5, .int (nI nq), .ref m6, .ref m7, .ref m8, .ref m9, .ref m10, .int (nI ai)])), (m1, .inl (cI, 64, .inl (nF T))), (m2, .inl (cI, 64, .inl (nF U))), (m3, .inl (cZ, 64, .inl (nF B))), (m4, .inl (cI, 64, .inl (nF Wq))), (m5, .inl (cI, 64, .inl (nF Mq))), (m6, .inl (cI, 64, .inl (nF Fq))), (m7, .inl (cI, 64, .inl (nF Lq))), (m8, .inl (cI, 64, .inl (nF Zq))), (m9, .inl (cI, 64, .inl (nF Om))), (m10, .inl (cI, 64, .inl (nF Nm)))] → va_S A s.heap H locs → lv_has ls 6 [(0, .ref m0), (1, .int (nI 0)), (2, .int (nI ii)), (3, .int (what)), (4, .int (nI gm)), (5, .int (rI (ch (pW G T 0) (pY U 0) c j)))] → W pr l e ({ frames := 4, cells := 0, slots := 0, locals := 93 } : Room) s m args below meth c0 H locs 0 0 Q (F0 m 43 ls []) := by
          intro n
          induction n with
          | zero => intro j gm h0; exact absurd h0 (Nat.not_lt_zero _)
          | succ n ih43 =>
            intro j gm hm43 hj hgm hgb hcl H locs ls hP hD hS hl
            refine lv_iload hx hb dX5_path_43 (lv_at hl 5 rfl) ?_
            refine lv_iconst (v := (-1)) hx hb dX5_path_45 (by decide) ?_
            refine nv_req (tgt := 76) hx hb dX5_path_46 (by decide) hcl (fun c_3 => ?_) (fun c_3 => ?_)
            · skip
              have hjL : j = ln (pW G T 0) (pY U 0) c := by
                rcases Nat.lt_or_ge j (ln (pW G T 0) (pY U 0) c) with z | z
                · have := (hln.2.2.2 j z).1
                  omega
                · omega
              have hmx : gm = mxf (wdt (pW G T 0) (pY U 0) (G 3) c) (ln (pW G T 0) (pY U 0) c) := by rw [hgm, hjL]; exact mxf_cong (fun i hi => hokp i hi)
              refine lv_iload_n hx hb dX5_path_76 rfl (lv_at hl 3 rfl) ?_
              refine lv_if_ne (tgt := 89) hx hb dX5_path_77 (by decide) (fun c_4 => ?_) (fun c_4 => ?_)
              · skip
                refine lv_iload_n hx hb dX5_path_89 rfl (lv_at hl 3 rfl) ?_
                refine lv_iconst (v := nI 1) hx hb dX5_path_90 (by decide) ?_
                refine lv_icmp_ne (tgt := 103) hx hb dX5_path_91 (by decide) (fun c_5 => ?_) (fun c_5 => ?_)
                · skip
                  refine lv_iload_n hx hb dX5_path_103 rfl (lv_at hl 3 rfl) ?_
                  refine lv_iconst (v := nI 2) hx hb dX5_path_104 (by decide) ?_
                  refine lv_icmp_ne (tgt := 117) hx hb dX5_path_105 (by decide) (fun c_6 => ?_) (fun c_6 => ?_)
                  · skip
                    refine lv_iload_n hx hb dX5_path_117 rfl (lv_at hl 3 rfl) ?_
                    refine lv_iconst (v := nI 3) hx hb dX5_path_118 (by decide) ?_
                    refine lv_icmp_ne (tgt := 127) hx hb dX5_path_119 (by decide) (fun c_7 => ?_) (fun c_7 => ?_)
                    · skip
                      refine lv_bipush (v := (-3)) hx hb dX5_path_127 (by decide) ?_
                      exact hret _ (Wq, Mq, Fq, Lq, Zq, nq) _ _ _ _ dX5_path_129 (by unfold aPath; rw [if_pos (Or.inl nI_0), show (nI 0).toNatClampNeg = 0 from rfl, if_pos hik, cl_n (by omega), if_neg (fun z => c_4 (z.trans nI_0)), if_neg c_5, if_neg c_6, if_neg c_7]) hP hD hS
                    · skip
                      refine lv_iload hx hb dX5_path_122 (lv_at hl 4 rfl) ?_
                      refine lv_goto (tgt := 129) hx hb dX5_path_124 (by decide) ?_
                      exact hret _ (Wq, Mq, Fq, Lq, Zq, nq) _ _ _ _ dX5_path_129 (by unfold aPath; rw [if_pos (Or.inl nI_0), show (nI 0).toNatClampNeg = 0 from rfl, if_pos hik, cl_n (by omega), if_neg (fun z => c_4 (z.trans nI_0)), if_neg c_5, if_neg c_6, if_pos c_7, ← hce, hmx]) hP hD hS
                  · skip
                    refine lv_aload_n hx hb dX5_path_108 rfl (lv_at hl 0 rfl) ?_
                    refine va_get (D := D) (ci := 5) (v := .ref m8) (C := RX5) (T := TX5) (N := 16) hx hb hts hinX5 hown hK hP 0 rfl rfl 12 (by decide) lk3 (fun _ h9 => h9) rfl dX5_path_109 ?_
                    refine lv_iload_n hx hb dX5_path_112 rfl (lv_at hl 2 rfl) ?_
                    refine nv_iald hx hb hK hP 8 rfl (by omega) (by decide) dX5_path_113 ?_
                    refine lv_goto (tgt := 129) hx hb dX5_path_114 (by decide) ?_
                    exact hret _ (Wq, Mq, Fq, Lq, Zq, nq) _ _ _ _ dX5_path_129 (by unfold aPath; rw [if_pos (Or.inl nI_0), show (nI 0).toNatClampNeg = 0 from rfl, if_pos hik, cl_n (by omega), if_neg (fun z => c_4 (z.trans nI_0)), if_neg c_5, if_pos c_6, ← hce, r3]) hP hD hS
                · skip
                  refine lv_aload_n hx hb dX5_path_94 rfl (lv_at hl 0 rfl) ?_
                  refine va_get (D := D) (ci := 5) (v := .ref m7) (C := RX5) (T := TX5) (N := 16) hx hb hts hinX5 hown hK hP 0 rfl rfl 11 (by decide) lk4 (fun _ h9 => h9) rfl dX5_path_95 ?_
                  refine lv_iload_n hx hb dX5_path_98 rfl (lv_at hl 2 rfl) ?_
                  refine nv_iald hx hb hK hP 7 rfl (by omega) (by decide) dX5_path_99 ?_
                  refine lv_goto (tgt := 129) hx hb dX5_path_100 (by decide) ?_
                  exact hret _ (Wq, Mq, Fq, Lq, Zq, nq) _ _ _ _ dX5_path_129 (by unfold aPath; rw [if_pos (Or.inl nI_0), show (nI 0).toNatClampNeg = 0 from rfl, if_pos hik, cl_n (by omega), if_neg (fun z => c_4 (z.trans nI_0)), if_pos c_5, ← r2]) hP hD hS
              · skip
                refine lv_aload_n hx hb dX5_path_80 rfl (lv_at hl 0 rfl) ?_
                refine va_get (D := D) (ci := 5) (v := .ref m6) (C := RX5) (T := TX5) (N := 16) hx hb hts hinX5 hown hK hP 0 rfl rfl 10 (by decide) lk2 (fun _ h9 => h9) rfl dX5_path_81 ?_
                refine lv_iload_n hx hb dX5_path_84 rfl (lv_at hl 2 rfl) ?_
                refine nv_iald hx hb hK hP 6 rfl (by omega) (by decide) dX5_path_85 ?_
                refine lv_goto (tgt := 129) hx hb dX5_path_86 (by decide) ?_
                exact hret _ (Wq, Mq, Fq, Lq, Zq, nq) _ _ _ _ dX5_path_129 (by unfold aPath; rw [if_pos (Or.inl nI_0), show (nI 0).toNatClampNeg = 0 from rfl, if_pos hik, cl_n (by omega), if_pos (show what = nI 0 from c_4.trans nI_0.symm), ← hce, r1]) hP hD hS
            · skip
              rw [rI_some c_3] at hl
              have hjl : j < ln (pW G T 0) (pY U 0) c := by
                rcases Nat.lt_or_ge j (ln (pW G T 0) (pY U 0) c) with z | z
                · exact z
                · refine absurd ?_ c_3
                  rw [show j = (ln (pW G T 0) (pY U 0) c - 1) + 1 by omega]
                  exact hln.2.2.1
              have hc64 := (hln.2.2.2 j hjl).1
              have bv : Mq (ch (pW G T 0) (pY U 0) c j) ≤ 100 := LD_le (pW_le hGs hT) hLDq hc64
              refine lv_iload hx hb dX5_path_49 (lv_at hl 4 rfl) ?_
              refine lv_aload_n hx hb dX5_path_51 rfl (lv_at hl 0 rfl) ?_
              refine va_get (D := D) (ci := 5) (v := .ref m5) (C := RX5) (T := TX5) (N := 16) hx hb hts hinX5 hown hK hP 0 rfl rfl 8 (by decide) lk5 (fun _ h9 => h9) rfl dX5_path_52 ?_
              refine lv_iload hx hb dX5_path_55 (lv_at hl 5 rfl) ?_
              refine nv_iald hx hb hK hP 5 rfl (by omega) (by decide) dX5_path_57 ?_
              refine gcS (As := [.int (nI gm), .int (nI (Mq (ch (pW G T 0) (pY U 0) c j)))]) (rest := []) ⟨hx, hb, hml, hown, hts⟩ (c_X5_more l gm (Mq (ch (pW G T 0) (pY U 0) c j)) (by first | assumption | omega) (by first | assumption | omega)) (va_cwS 2 hts gX5_path_X5_more rfl rfl rfl (by decide +kernel) ⟨Nat.le_of_ble_eq_true rfl, Nat.le_of_ble_eq_true rfl⟩) hl.1 rfl rfl (Nat.le_of_ble_eq_true rfl) ⟨Nat.zero_le _, Nat.zero_le _⟩ dX5_path_58 ?_
              refine lv_istore (lv' := [(4, .int (nI (max gm (Mq (ch (pW G T 0) (pY U 0) c j))))), (0, .ref m0), (1, .int (nI 0)), (2, .int (nI ii)), (3, .int (what)), (5, .int (nI (ch (pW G T 0) (pY U 0) c j)))]) hx hb dX5_path_61 hl (by decide) rfl (fun ls hl => ?_)
              refine lv_aload_n hx hb dX5_path_63 rfl (lv_at hl 1 rfl) ?_
              refine lv_iload hx hb dX5_path_64 (lv_at hl 5 rfl) ?_
              refine lv_iload_n hx hb dX5_path_66 rfl (lv_at hl 2 rfl) ?_
              refine lv_iconst (v := nI 1) hx hb dX5_path_67 (by decide) ?_
              refine gcVi (ws' := fun _ => [(m0, .inr (5, [.ref m1, .ref m2, .ref m3, .int (nI (G 0)), .int (nI (G 1)), .int (nI (G 2)), .int (nI (G 3)), .ref m4, .ref m5, .int (nI nq), .ref m6, .ref m7, .ref m8, .ref m9, .ref m10, .int (nI ai)])), (m1, .inl (cI, 64, .inl (nF T))), (m2, .inl (cI, 64, .inl (nF U))), (m3, .inl (cZ, 64, .inl (nF B))), (m4, .inl (cI, 64, .inl (nF Wq))), (m5, .inl (cI, 64, .inl (nF Mq))), (m6, .inl (cI, 64, .inl (nF Fq))), (m7, .inl (cI, 64, .inl (nF Lq))), (m8, .inl (cI, 64, .inl (nF Zq))), (m9, .inl (cI, 64, .inl (nF Om))), (m10, .inl (cI, 64, .inl (nF Nm)))]) (wr := []) (ci := 5) (q0 := 0) (As := [.int (nI (ch (pW G T 0) (pY U 0) c j)), .int (nI 0), .int (nI 1)]) (rest := []) ⟨hx, hb, hml, hown, hts⟩ (c_X5_tied_on l D cI cZ tt H.size m0 m1 m2 m3 m4 m5 m6 m7 m8 m9 m10 nq ai T U B G Wq Mq Fq Lq Zq Om Nm (pW G T 0) (ch (pW G T 0) (pY U 0) c j) 0 (by exact hWq) (by exact pW_le hGs hT) (by first | assumption | omega) (by exact hc64) (by first | assumption | omega)) (cwV 3 hts gX5_path_X5_tied rfl rfl rfl (by decide +kernel) ⟨Nat.le_of_ble_eq_true rfl, Nat.le_of_ble_eq_true rfl⟩) hP hK hD hS hA hG rfl rfl [0, 1, 2, 3, 4, 5, 6, 7, 8, 9, 10] [] [0, 1, 2, 3, 4, 5, 6, 7, 8, 9, 10] (by decide) rfl rfl (by decide) (by decide) (by decide) (fun _ => rfl) hl.1 rfl rfl (Nat.le_of_ble_eq_true rfl) ⟨Nat.zero_le _, Nat.zero_le _⟩ dX5_path_68 (fun r u H locs hp hP hD hS => ?_)
              obtain rfl := hp
              have hP : va_P D vwCl [(m0, .inr (5, [.ref m1, .ref m2, .ref m3, .int (nI (G 0)), .int (nI (G 1)), .int (nI (G 2)), .int (nI (G 3)), .ref m4, .ref m5, .int (nI nq), .ref m6, .ref m7, .ref m8, .ref m9, .ref m10, .int (nI ai)])), (m1, .inl (cI, 64, .inl (nF T))), (m2, .inl (cI, 64, .inl (nF U))), (m3, .inl (cZ, 64, .inl (nF B))), (m4, .inl (cI, 64, .inl (nF Wq))), (m5, .inl (cI, 64, .inl (nF Mq))), (m6, .inl (cI, 64, .inl (nF Fq))), (m7, .inl (cI, 64, .inl (nF Lq))), (m8, .inl (cI, 64, .inl (nF Zq))), (m9, .inl (cI, 64, .inl (nF Om))), (m10, .inl (cI, 64, .inl (nF Nm)))] H := hP
              have hD : va_D A [(m0, .inr (5, [.ref m1, .ref m2, .ref m3, .int (nI (G 0)), .int (nI (G 1)), .int (nI (G 2)), .int (nI (G 3)), .ref m4, .ref m5, .int (nI nq), .ref m6, .ref m7, .ref m8, .ref m9, .ref m10, .int (nI ai)])), (m1, .inl (cI, 64, .inl (nF T))), (m2, .inl (cI, 64, .inl (nF U))), (m3, .inl (cZ, 64, .inl (nF B))), (m4, .inl (cI, 64, .inl (nF Wq))), (m5, .inl (cI, 64, .inl (nF Mq))), (m6, .inl (cI, 64, .inl (nF Fq))), (m7, .inl (cI, 64, .inl (nF Lq))), (m8, .inl (cI, 64, .inl (nF Zq))), (m9, .inl (cI, 64, .inl (nF Om))), (m10, .inl (cI, 64, .inl (nF Nm)))] := hD
              refine lv_istore (lv' := [(5, .int (rI (tn (pW G T 0) (pY U 0) (ch (pW G T 0) (pY U 0) c j)))), (4, .int (nI (max gm (Mq (ch (pW G T 0) (pY U 0) c j))))), (0, .ref m0), (1, .int (nI 0)), (2, .int (nI ii)), (3, .int (what))]) hx hb dX5_path_71 hl (by decide) rfl (fun ls hl => ?_)
              refine lv_goto (tgt := 43) hx hb dX5_path_73 (by decide) ?_
              exact ih43 (j + 1) (max gm (Mq (ch (pW G T 0) (pY U 0) c j))) (by omega) (by omega) (by rw [mxf, hgm]) (by omega) (tn_le _ _ _) _ _ _ hP hD hS (lv_sub hl [2, 3, 4, 5, 1, 0] rfl)
        exact L43 (9 + 1) 0 0 (by omega) (by omega) rfl (by omega) (by show c ≤ 64; omega) _ _ _ hP hD hS (lv_sub hl [2, 3, 4, 5, 1, 0] (by rw [show rI (ch (pW G T 0) (pY U 0) c 0) = nI c from rI_some (by show ¬ c = 64; omega)]; rfl))
      · skip
        have nokk : ¬ okk k (npf G T U 0) := by rw [← hnDq]; exact fun q => c_2 ((in_okk hnp).mpr q)
        refine lv_bipush (v := (-2)) hx hb dX5_path_29 (by decide) ?_
        exact hret _ (Wq, Mq, Fq, Lq, Zq, nq) _ _ _ _ dX5_path_31 (by unfold aPath; rw [if_pos (Or.inl nI_0), show (nI 0).toNatClampNeg = 0 from rfl, if_neg nokk]) hP hD hS
    · skip
      obtain rfl : ly = nI 1 := hL
      refine lv_aload_n hx hb dX5_path_10 rfl (lv_at hl 0 rfl) ?_
      refine lv_iload_n hx hb dX5_path_11 rfl (lv_at hl 1 rfl) ?_
      refine gcVv (ws' := fun (u : (Nat → Nat) × (Nat → Nat) × (Nat → Nat) × (Nat → Nat) × (Nat → Nat) × (Nat)) => [(m0, .inr (5, [.ref m1, .ref m2, .ref m3, .int (nI (G 0)), .int (nI (G 1)), .int (nI (G 2)), .int (nI (G 3)), .ref m4, .ref m5, .int (nI u.2.2.2.2.2), .ref m6, .ref m7, .ref m8, .ref m9, .ref m10, .int (nI ai)])), (m1, .inl (cI, 64, .inl (nF T))), (m2, .inl (cI, 64, .inl (nF U))), (m3, .inl (cZ, 64, .inl (nF B))), (m4, .inl (cI, 64, .inl (nF u.1))), (m5, .inl (cI, 64, .inl (nF u.2.1))), (m6, .inl (cI, 64, .inl (nF u.2.2.1))), (m7, .inl (cI, 64, .inl (nF u.2.2.2.1))), (m8, .inl (cI, 64, .inl (nF u.2.2.2.2.1))), (m9, .inl (cI, 64, .inl (nF Om))), (m10, .inl (cI, 64, .inl (nF Nm)))]) (wr := []) (ci := 5) (q0 := 0) (As := [.int (nI 1)]) (rest := []) ⟨hx, hb, hml, hown, hts⟩ (c_X5_findLayer l D cI cZ tt H.size m0 m1 m2 m3 m4 m5 m6 m7 m8 m9 m10 np ai T U B G Wm M F L Z Om Nm 1 (by first | assumption | omega) (by first | assumption | omega) (by first | assumption | omega) (by first | assumption | omega)) (cwV 1 hts gX5_path_X5_findLayer rfl rfl rfl (by decide +kernel) ⟨Nat.le_of_ble_eq_true rfl, Nat.le_of_ble_eq_true rfl⟩) hP hK hD hS hA hG rfl rfl [0, 1, 2, 3, 4, 5, 6, 7, 8, 9, 10] [] [0, 1, 2, 3, 4, 5, 6, 7, 8, 9, 10] (by decide) rfl rfl (by decide) (by decide) (by decide) (fun _ => rfl) hl.1 rfl rfl (Nat.le_of_ble_eq_true rfl) ⟨Nat.zero_le _, Nat.zero_le _⟩ dX5_path_12 (fun  u H locs hp hP hD hS => ?_)
      obtain ⟨Wq, Mq, Fq, Lq, Zq, nq⟩ := u
      obtain ⟨hLDq, hnDq, hWq⟩ := hp
      have hLDq : LD (pW G T 1) (pY U 1) (G 3) Mq Fq Lq Zq := hLDq
      have hnDq : nq = npf G T U 1 := hnDq
      have hWq : ∀ k, k < 64 → Wq k = pW G T 1 k := hWq
      have hP : va_P D vwCl [(m0, .inr (5, [.ref m1, .ref m2, .ref m3, .int (nI (G 0)), .int (nI (G 1)), .int (nI (G 2)), .int (nI (G 3)), .ref m4, .ref m5, .int (nI nq), .ref m6, .ref m7, .ref m8, .ref m9, .ref m10, .int (nI ai)])), (m1, .inl (cI, 64, .inl (nF T))), (m2, .inl (cI, 64, .inl (nF U))), (m3, .inl (cZ, 64, .inl (nF B))), (m4, .inl (cI, 64, .inl (nF Wq))), (m5, .inl (cI, 64, .inl (nF Mq))), (m6, .inl (cI, 64, .inl (nF Fq))), (m7, .inl (cI, 64, .inl (nF Lq))), (m8, .inl (cI, 64, .inl (nF Zq))), (m9, .inl (cI, 64, .inl (nF Om))), (m10, .inl (cI, 64, .inl (nF Nm)))] H := hP
      have hD : va_D A [(m0, .inr (5, [.ref m1, .ref m2, .ref m3, .int (nI (G 0)), .int (nI (G 1)), .int (nI (G 2)), .int (nI (G 3)), .ref m4, .ref m5, .int (nI nq), .ref m6, .ref m7, .ref m8, .ref m9, .ref m10, .int (nI ai)])), (m1, .inl (cI, 64, .inl (nF T))), (m2, .inl (cI, 64, .inl (nF U))), (m3, .inl (cZ, 64, .inl (nF B))), (m4, .inl (cI, 64, .inl (nF Wq))), (m5, .inl (cI, 64, .inl (nF Mq))), (m6, .inl (cI, 64, .inl (nF Fq))), (m7, .inl (cI, 64, .inl (nF Lq))), (m8, .inl (cI, 64, .inl (nF Zq))), (m9, .inl (cI, 64, .inl (nF Om))), (m10, .inl (cI, 64, .inl (nF Nm)))] := hD
      have hnp : nq ≤ 64 := by rw [hnDq]; exact npf_le _ _ _ _
      refine lv_iload_n hx hb dX5_path_15 rfl (lv_at hl 2 rfl) ?_
      refine lv_iconst (v := nI 0) hx hb dX5_path_16 (by decide) ?_
      refine lv_aload_n hx hb dX5_path_17 rfl (lv_at hl 0 rfl) ?_
      refine va_get (D := D) (ci := 5) (v := .int (nI nq)) (C := RX5) (T := TX5) (N := 16) hx hb hts hinX5 hown hK hP 0 rfl rfl 9 (by decide) lk1 (fun _ h9 => h9) rfl dX5_path_18 ?_
      refine lv_iconst (v := nI 1) hx hb dX5_path_21 (by decide) ?_
      refine lv_isub hx hb dX5_path_22 ?_
      refine gcS (As := [.int (k), .int (nI 0), .int ((nI nq) - (nI 1))]) (rest := []) ⟨hx, hb, hml, hown, hts⟩ (c_X5_in l k (nI 0) ((nI nq) - (nI 1)) ) (va_cwS 3 hts gX5_path_X5_in rfl rfl rfl (by decide +kernel) ⟨Nat.le_of_ble_eq_true rfl, Nat.le_of_ble_eq_true rfl⟩) hl.1 rfl rfl (Nat.le_of_ble_eq_true rfl) ⟨Nat.zero_le _, Nat.zero_le _⟩ dX5_path_23 ?_
      refine nv_ifb_ne (tgt := 32) hx hb dX5_path_26 (by decide) (fun c_8 => ?_) (fun c_8 => ?_)
      · skip
        have hik := (in_okk hnp).mp c_8
        obtain ⟨ii, hii, rfl⟩ := up_to (by omega) hik.1 hik.2
        rw [hnDq] at hii hik
        have hk64 := npf_le G T U 1
        refine lv_iconst (v := nI 0) hx hb dX5_path_32 (by decide) ?_
        refine lv_istore (lv' := [(4, .int (nI 0)), (0, .ref m0), (1, .int (nI 1)), (2, .int (nI ii)), (3, .int (what))]) hx hb dX5_path_33 hl (by decide) rfl (fun ls hl => ?_)
        refine lv_aload_n hx hb dX5_path_35 rfl (lv_at hl 1 rfl) ?_
        refine va_get (D := D) (ci := 5) (v := .ref m6) (C := RX5) (T := TX5) (N := 16) hx hb hts hinX5 hown hK hP 0 rfl rfl 10 (by decide) lk2 (fun _ h9 => h9) rfl dX5_path_36 ?_
        refine lv_iload_n hx hb dX5_path_39 rfl (lv_at hl 3 rfl) ?_
        refine nv_iald hx hb hK hP 6 rfl (by omega) (by decide) dX5_path_40 ?_
        obtain ⟨r1, r2, r3⟩ := stc_arr hLDq hii
        obtain ⟨s1, s2, s3⟩ := stc_spec hii
        obtain ⟨c, hce⟩ : ∃ c, c = stc (pW G T 1) (pY U 1) ii := ⟨_, rfl⟩
        rw [← hce] at r1 r3 s1 s2 s3
        have hln := ln_spec (Y := (pY U 1)) s1 s2.1
        have hokp := (hLDq.2 c s1 s2).1
        refine top_eq (congrArg nI r1) ?_
        refine lv_istore (lv' := [(5, .int (nI c)), (4, .int (nI 0)), (0, .ref m0), (1, .int (nI 1)), (2, .int (nI ii)), (3, .int (what))]) hx hb dX5_path_41 hl (by decide) rfl (fun ls hl => ?_)
        have L43 : ∀ (n : Nat) (j : Nat) (gm : Nat), 9 - j < n → (j ≤ ln (pW G T 1) (pY U 1) c) → (gm = mxf (fun i => Mq (ch (pW G T 1) (pY U 1) c i)) j) → (gm ≤ 100) → (ch (pW G T 1) (pY U 1) c j ≤ 64) → ∀ (H : Heap) (locs : List Loc) (ls : Array Slot), va_P D vwCl [(m0, .inr (5, [.ref m1, .ref m2, .ref m3, .int (nI (G 0)), .int (nI (G 1)), .int (nI (G 2)), .int (nI (G 3)), .ref m4, .ref m5, .int (nI nq), .ref m6, .ref m7, .ref m8, .ref m9, .ref m10, .int (nI ai)])), (m1, .inl (cI, 64, .inl (nF T))), (m2, .inl (cI, 64, .inl (nF U))), (m3, .inl (cZ, 64, .inl (nF B))), (m4, .inl (cI, 64, .inl (nF Wq))), (m5, .inl (cI, 64, .inl (nF Mq))), (m6, .inl (cI, 64, .inl (nF Fq))), (m7, .inl (cI, 64, .inl (nF Lq))), (m8, .inl (cI, 64, .inl (nF Zq))), (m9, .inl (cI, 64, .inl (nF Om))), (m10, .inl (cI, 64, .inl (nF Nm)))] H → va_D A [(m0, .inr (5, [.ref m1, .ref m2, .ref m3, .int (nI (G 0)), .int (nI (G 1)), .int (nI (G 2)), .int (nI (G 3)), .ref m4, .ref m5, .int (nI nq), .ref m6, .ref m7, .ref m8, .ref m9, .ref m10, .int (nI ai)])), (m1, .inl (cI, 64, .inl (nF T))), (m2, .inl (cI, 64, .inl (nF U))), (m3, .inl (cZ, 64, .inl (nF B))), (m4, .inl (cI, 64, .inl (nF Wq))), (m5, .inl (cI, 64, .inl (nF Mq))), (m6, .inl (cI, 64, .inl (nF Fq))), (m7, .inl (cI, 64, .inl (nF Lq))), (m8, .inl (cI, 64, .inl (nF Zq))), (m9, .inl (cI, 64, .inl (nF Om))), (m10, .inl (cI, 64, .inl (nF Nm)))] → va_S A s.heap H locs → lv_has ls 6 [(0, .ref m0), (1, .int (nI 1)), (2, .int (nI ii)), (3, .int (what)), (4, .int (nI gm)), (5, .int (rI (ch (pW G T 1) (pY U 1) c j)))] → W pr l e ({ frames := 4, cells := 0, slots := 0, locals := 93 } : Room) s m args below meth c0 H locs 0 0 Q (F0 m 43 ls []) := by
          intro n
          induction n with
          | zero => intro j gm h0; exact absurd h0 (Nat.not_lt_zero _)
          | succ n ih43 =>
            intro j gm hm43 hj hgm hgb hcl H locs ls hP hD hS hl
            refine lv_iload hx hb dX5_path_43 (lv_at hl 5 rfl) ?_
            refine lv_iconst (v := (-1)) hx hb dX5_path_45 (by decide) ?_
            refine nv_req (tgt := 76) hx hb dX5_path_46 (by decide) hcl (fun c_9 => ?_) (fun c_9 => ?_)
            · skip
              have hjL : j = ln (pW G T 1) (pY U 1) c := by
                rcases Nat.lt_or_ge j (ln (pW G T 1) (pY U 1) c) with z | z
                · have := (hln.2.2.2 j z).1
                  omega
                · omega
              have hmx : gm = mxf (wdt (pW G T 1) (pY U 1) (G 3) c) (ln (pW G T 1) (pY U 1) c) := by rw [hgm, hjL]; exact mxf_cong (fun i hi => hokp i hi)
              refine lv_iload_n hx hb dX5_path_76 rfl (lv_at hl 3 rfl) ?_
              refine lv_if_ne (tgt := 89) hx hb dX5_path_77 (by decide) (fun c_10 => ?_) (fun c_10 => ?_)
              · skip
                refine lv_iload_n hx hb dX5_path_89 rfl (lv_at hl 3 rfl) ?_
                refine lv_iconst (v := nI 1) hx hb dX5_path_90 (by decide) ?_
                refine lv_icmp_ne (tgt := 103) hx hb dX5_path_91 (by decide) (fun c_11 => ?_) (fun c_11 => ?_)
                · skip
                  refine lv_iload_n hx hb dX5_path_103 rfl (lv_at hl 3 rfl) ?_
                  refine lv_iconst (v := nI 2) hx hb dX5_path_104 (by decide) ?_
                  refine lv_icmp_ne (tgt := 117) hx hb dX5_path_105 (by decide) (fun c_12 => ?_) (fun c_12 => ?_)
                  · skip
                    refine lv_iload_n hx hb dX5_path_117 rfl (lv_at hl 3 rfl) ?_
                    refine lv_iconst (v := nI 3) hx hb dX5_path_118 (by decide) ?_
                    refine lv_icmp_ne (tgt := 127) hx hb dX5_path_119 (by decide) (fun c_13 => ?_) (fun c_13 => ?_)
                    · skip
                      refine lv_bipush (v := (-3)) hx hb dX5_path_127 (by decide) ?_
                      exact hret _ (Wq, Mq, Fq, Lq, Zq, nq) _ _ _ _ dX5_path_129 (by unfold aPath; rw [if_pos (Or.inr rfl), show (nI 1).toNatClampNeg = 1 from rfl, if_pos hik, cl_n (by omega), if_neg (fun z => c_10 (z.trans nI_0)), if_neg c_11, if_neg c_12, if_neg c_13]) hP hD hS
                    · skip
                      refine lv_iload hx hb dX5_path_122 (lv_at hl 4 rfl) ?_
                      refine lv_goto (tgt := 129) hx hb dX5_path_124 (by decide) ?_
                      exact hret _ (Wq, Mq, Fq, Lq, Zq, nq) _ _ _ _ dX5_path_129 (by unfold aPath; rw [if_pos (Or.inr rfl), show (nI 1).toNatClampNeg = 1 from rfl, if_pos hik, cl_n (by omega), if_neg (fun z => c_10 (z.trans nI_0)), if_neg c_11, if_neg c_12, if_pos c_13, ← hce, hmx]) hP hD hS
                  · skip
                    refine lv_aload_n hx hb dX5_path_108 rfl (lv_at hl 0 rfl) ?_
                    refine va_get (D := D) (ci := 5) (v := .ref m8) (C := RX5) (T := TX5) (N := 16) hx hb hts hinX5 hown hK hP 0 rfl rfl 12 (by decide) lk3 (fun _ h9 => h9) rfl dX5_path_109 ?_
                    refine lv_iload_n hx hb dX5_path_112 rfl (lv_at hl 2 rfl) ?_
                    refine nv_iald hx hb hK hP 8 rfl (by omega) (by decide) dX5_path_113 ?_
                    refine lv_goto (tgt := 129) hx hb dX5_path_114 (by decide) ?_
                    exact hret _ (Wq, Mq, Fq, Lq, Zq, nq) _ _ _ _ dX5_path_129 (by unfold aPath; rw [if_pos (Or.inr rfl), show (nI 1).toNatClampNeg = 1 from rfl, if_pos hik, cl_n (by omega), if_neg (fun z => c_10 (z.trans nI_0)), if_neg c_11, if_pos c_12, ← hce, r3]) hP hD hS
                · skip
                  refine lv_aload_n hx hb dX5_path_94 rfl (lv_at hl 0 rfl) ?_
                  refine va_get (D := D) (ci := 5) (v := .ref m7) (C := RX5) (T := TX5) (N := 16) hx hb hts hinX5 hown hK hP 0 rfl rfl 11 (by decide) lk4 (fun _ h9 => h9) rfl dX5_path_95 ?_
                  refine lv_iload_n hx hb dX5_path_98 rfl (lv_at hl 2 rfl) ?_
                  refine nv_iald hx hb hK hP 7 rfl (by omega) (by decide) dX5_path_99 ?_
                  refine lv_goto (tgt := 129) hx hb dX5_path_100 (by decide) ?_
                  exact hret _ (Wq, Mq, Fq, Lq, Zq, nq) _ _ _ _ dX5_path_129 (by unfold aPath; rw [if_pos (Or.inr rfl), show (nI 1).toNatClampNeg = 1 from rfl, if_pos hik, cl_n (by omega), if_neg (fun z => c_10 (z.trans nI_0)), if_pos c_11, ← r2]) hP hD hS
              · skip
                refine lv_aload_n hx hb dX5_path_80 rfl (lv_at hl 0 rfl) ?_
                refine va_get (D := D) (ci := 5) (v := .ref m6) (C := RX5) (T := TX5) (N := 16) hx hb hts hinX5 hown hK hP 0 rfl rfl 10 (by decide) lk2 (fun _ h9 => h9) rfl dX5_path_81 ?_
                refine lv_iload_n hx hb dX5_path_84 rfl (lv_at hl 2 rfl) ?_
                refine nv_iald hx hb hK hP 6 rfl (by omega) (by decide) dX5_path_85 ?_
                refine lv_goto (tgt := 129) hx hb dX5_path_86 (by decide) ?_
                exact hret _ (Wq, Mq, Fq, Lq, Zq, nq) _ _ _ _ dX5_path_129 (by unfold aPath; rw [if_pos (Or.inr rfl), show (nI 1).toNatClampNeg = 1 from rfl, if_pos hik, cl_n (by omega), if_pos (show what = nI 0 from c_10.trans nI_0.symm), ← hce, r1]) hP hD hS
            · skip
              rw [rI_some c_9] at hl
              have hjl : j < ln (pW G T 1) (pY U 1) c := by
                rcases Nat.lt_or_ge j (ln (pW G T 1) (pY U 1) c) with z | z
                · exact z
                · refine absurd ?_ c_9
                  rw [show j = (ln (pW G T 1) (pY U 1) c - 1) + 1 by omega]
                  exact hln.2.2.1
              have hc64 := (hln.2.2.2 j hjl).1
              have bv : Mq (ch (pW G T 1) (pY U 1) c j) ≤ 100 := LD_le (pW_le hGs hT) hLDq hc64
              refine lv_iload hx hb dX5_path_49 (lv_at hl 4 rfl) ?_
              refine lv_aload_n hx hb dX5_path_51 rfl (lv_at hl 0 rfl) ?_
              refine va_get (D := D) (ci := 5) (v := .ref m5) (C := RX5) (T := TX5) (N := 16) hx hb hts hinX5 hown hK hP 0 rfl rfl 8 (by decide) lk5 (fun _ h9 => h9) rfl dX5_path_52 ?_
              refine lv_iload hx hb dX5_path_55 (lv_at hl 5 rfl) ?_
              refine nv_iald hx hb hK hP 5 rfl (by omega) (by decide) dX5_path_57 ?_
              refine gcS (As := [.int (nI gm), .int (nI (Mq (ch (pW G T 1) (pY U 1) c j)))]) (rest := []) ⟨hx, hb, hml, hown, hts⟩ (c_X5_more l gm (Mq (ch (pW G T 1) (pY U 1) c j)) (by first | assumption | omega) (by first | assumption | omega)) (va_cwS 2 hts gX5_path_X5_more rfl rfl rfl (by decide +kernel) ⟨Nat.le_of_ble_eq_true rfl, Nat.le_of_ble_eq_true rfl⟩) hl.1 rfl rfl (Nat.le_of_ble_eq_true rfl) ⟨Nat.zero_le _, Nat.zero_le _⟩ dX5_path_58 ?_
              refine lv_istore (lv' := [(4, .int (nI (max gm (Mq (ch (pW G T 1) (pY U 1) c j))))), (0, .ref m0), (1, .int (nI 1)), (2, .int (nI ii)), (3, .int (what)), (5, .int (nI (ch (pW G T 1) (pY U 1) c j)))]) hx hb dX5_path_61 hl (by decide) rfl (fun ls hl => ?_)
              refine lv_aload_n hx hb dX5_path_63 rfl (lv_at hl 1 rfl) ?_
              refine lv_iload hx hb dX5_path_64 (lv_at hl 5 rfl) ?_
              refine lv_iload_n hx hb dX5_path_66 rfl (lv_at hl 2 rfl) ?_
              refine lv_iconst (v := nI 1) hx hb dX5_path_67 (by decide) ?_
              refine gcVi (ws' := fun _ => [(m0, .inr (5, [.ref m1, .ref m2, .ref m3, .int (nI (G 0)), .int (nI (G 1)), .int (nI (G 2)), .int (nI (G 3)), .ref m4, .ref m5, .int (nI nq), .ref m6, .ref m7, .ref m8, .ref m9, .ref m10, .int (nI ai)])), (m1, .inl (cI, 64, .inl (nF T))), (m2, .inl (cI, 64, .inl (nF U))), (m3, .inl (cZ, 64, .inl (nF B))), (m4, .inl (cI, 64, .inl (nF Wq))), (m5, .inl (cI, 64, .inl (nF Mq))), (m6, .inl (cI, 64, .inl (nF Fq))), (m7, .inl (cI, 64, .inl (nF Lq))), (m8, .inl (cI, 64, .inl (nF Zq))), (m9, .inl (cI, 64, .inl (nF Om))), (m10, .inl (cI, 64, .inl (nF Nm)))]) (wr := []) (ci := 5) (q0 := 0) (As := [.int (nI (ch (pW G T 1) (pY U 1) c j)), .int (nI 1), .int (nI 1)]) (rest := []) ⟨hx, hb, hml, hown, hts⟩ (c_X5_tied_on l D cI cZ tt H.size m0 m1 m2 m3 m4 m5 m6 m7 m8 m9 m10 nq ai T U B G Wq Mq Fq Lq Zq Om Nm (pW G T 1) (ch (pW G T 1) (pY U 1) c j) 1 (by exact hWq) (by exact pW_le hGs hT) (by first | assumption | omega) (by exact hc64) (by first | assumption | omega)) (cwV 3 hts gX5_path_X5_tied rfl rfl rfl (by decide +kernel) ⟨Nat.le_of_ble_eq_true rfl, Nat.le_of_ble_eq_true rfl⟩) hP hK hD hS hA hG rfl rfl [0, 1, 2, 3, 4, 5, 6, 7, 8, 9, 10] [] [0, 1, 2, 3, 4, 5, 6, 7, 8, 9, 10] (by decide) rfl rfl (by decide) (by decide) (by decide) (fun _ => rfl) hl.1 rfl rfl (Nat.le_of_ble_eq_true rfl) ⟨Nat.zero_le _, Nat.zero_le _⟩ dX5_path_68 (fun r u H locs hp hP hD hS => ?_)
              obtain rfl := hp
              have hP : va_P D vwCl [(m0, .inr (5, [.ref m1, .ref m2, .ref m3, .int (nI (G 0)), .int (nI (G 1)), .int (nI (G 2)), .int (nI (G 3)), .ref m4, .ref m5, .int (nI nq), .ref m6, .ref m7, .ref m8, .ref m9, .ref m10, .int (nI ai)])), (m1, .inl (cI, 64, .inl (nF T))), (m2, .inl (cI, 64, .inl (nF U))), (m3, .inl (cZ, 64, .inl (nF B))), (m4, .inl (cI, 64, .inl (nF Wq))), (m5, .inl (cI, 64, .inl (nF Mq))), (m6, .inl (cI, 64, .inl (nF Fq))), (m7, .inl (cI, 64, .inl (nF Lq))), (m8, .inl (cI, 64, .inl (nF Zq))), (m9, .inl (cI, 64, .inl (nF Om))), (m10, .inl (cI, 64, .inl (nF Nm)))] H := hP
              have hD : va_D A [(m0, .inr (5, [.ref m1, .ref m2, .ref m3, .int (nI (G 0)), .int (nI (G 1)), .int (nI (G 2)), .int (nI (G 3)), .ref m4, .ref m5, .int (nI nq), .ref m6, .ref m7, .ref m8, .ref m9, .ref m10, .int (nI ai)])), (m1, .inl (cI, 64, .inl (nF T))), (m2, .inl (cI, 64, .inl (nF U))), (m3, .inl (cZ, 64, .inl (nF B))), (m4, .inl (cI, 64, .inl (nF Wq))), (m5, .inl (cI, 64, .inl (nF Mq))), (m6, .inl (cI, 64, .inl (nF Fq))), (m7, .inl (cI, 64, .inl (nF Lq))), (m8, .inl (cI, 64, .inl (nF Zq))), (m9, .inl (cI, 64, .inl (nF Om))), (m10, .inl (cI, 64, .inl (nF Nm)))] := hD
              refine lv_istore (lv' := [(5, .int (rI (tn (pW G T 1) (pY U 1) (ch (pW G T 1) (pY U 1) c j)))), (4, .int (nI (max gm (Mq (ch (pW G T 1) (pY U 1) c j))))), (0, .ref m0), (1, .int (nI 1)), (2, .int (nI ii)), (3, .int (what))]) hx hb dX5_path_71 hl (by decide) rfl (fun ls hl => ?_)
              refine lv_goto (tgt := 43) hx hb dX5_path_73 (by decide) ?_
              exact ih43 (j + 1) (max gm (Mq (ch (pW G T 1) (pY U 1) c j))) (by omega) (by omega) (by rw [mxf, hgm]) (by omega) (tn_le _ _ _) _ _ _ hP hD hS (lv_sub hl [2, 3, 4, 5, 1, 0] rfl)
        exact L43 (9 + 1) 0 0 (by omega) (by omega) rfl (by omega) (by show c ≤ 64; omega) _ _ _ hP hD hS (lv_sub hl [2, 3, 4, 5, 1, 0] (by rw [show rI (ch (pW G T 1) (pY U 1) c 0) = nI c from rI_some (by show ¬ c = 64; omega)]; rfl))
      · skip
        have nokk : ¬ okk k (npf G T U 1) := by rw [← hnDq]; exact fun q => c_8 ((in_okk hnp).mpr q)
        refine lv_bipush (v := (-2)) hx hb dX5_path_29 (by decide) ?_
        exact hret _ (Wq, Mq, Fq, Lq, Zq, nq) _ _ _ _ dX5_path_31 (by unfold aPath; rw [if_pos (Or.inr rfl), show (nI 1).toNatClampNeg = 1 from rfl, if_neg nokk]) hP hD hS
  · skip
    have nokl := c_1
    refine lv_bipush (v := (-2)) hx hb dX5_path_7 (by decide) ?_
    exact hret _ (Wm, M, F, L, Z, np) _ _ _ _ dX5_path_9 (by unfold aPath; rw [if_neg nokl]) hP hD hS

set_option maxHeartbeats 4000000 in
set_option maxRecDepth 100000 in
theorem c_X5_error (l : Launch) (D : va_G) (cI cZ : ClassId) (tt : Nat → Nat) (sz : Nat) (m0 m1 m2 m3 m4 m5 m6 m7 m8 m9 m10 : Nat) (np ai : Nat) (T U B G Wm M F L Z Om Nm : Nat → Nat) (w : Int32) (hT : ∀ k, T k ≤ 100) (hU : ∀ k, U k < 8) (hGs : ∀ k, G k ≤ 100) (hG4 : 4 ≤ G 0) : MI l yX5_error wsX5_error ({ frames := 4, cells := 0, slots := 0, locals := 93 } : Room) D cI cZ tt [.ref m0, .int (w)] [(m0, .inr (5, [.ref m1, .ref m2, .ref m3, .int (nI (G 0)), .int (nI (G 1)), .int (nI (G 2)), .int (nI (G 3)), .ref m4, .ref m5, .int (nI np), .ref m6, .ref m7, .ref m8, .ref m9, .ref m10, .int (nI ai)])), (m1, .inl (cI, 64, .inl (nF T))), (m2, .inl (cI, 64, .inl (nF U))), (m3, .inl (cZ, 64, .inl (nF B))), (m4, .inl (cI, 64, .inl (nF Wm))), (m5, .inl (cI, 64, .inl (nF M))), (m6, .inl (cI, 64, .inl (nF F))), (m7, .inl (cI, 64, .inl (nF L))), (m8, .inl (cI, 64, .inl (nF Z))), (m9, .inl (cI, 64, .inl (nF Om))), (m10, .inl (cI, 64, .inl (nF Nm)))] sz (fun (r : Int32) (u : (Nat → Nat) × (Nat → Nat) × (Nat → Nat) × (Nat → Nat) × (Nat → Nat) × (Nat) × (Nat → Nat)) => r = aError G T U w) (fun (u : (Nat → Nat) × (Nat → Nat) × (Nat → Nat) × (Nat → Nat) × (Nat → Nat) × (Nat) × (Nat → Nat)) => [(m0, .inr (5, [.ref m1, .ref m2, .ref m3, .int (nI (G 0)), .int (nI (G 1)), .int (nI (G 2)), .int (nI (G 3)), .ref m4, .ref m5, .int (nI u.2.2.2.2.2.1), .ref m6, .ref m7, .ref m8, .ref m9, .ref m10, .int (nI ai)])), (m1, .inl (cI, 64, .inl (nF T))), (m2, .inl (cI, 64, .inl (nF U))), (m3, .inl (cZ, 64, .inl (nF B))), (m4, .inl (cI, 64, .inl (nF u.1))), (m5, .inl (cI, 64, .inl (nF u.2.1))), (m6, .inl (cI, 64, .inl (nF u.2.2.1))), (m7, .inl (cI, 64, .inl (nF u.2.2.2.1))), (m8, .inl (cI, 64, .inl (nF u.2.2.2.2.1))), (m9, .inl (cI, 64, .inl (nF u.2.2.2.2.2.2))), (m10, .inl (cI, 64, .inl (nF Nm)))]) := by
  refine entI (cc := cX5_error) 6 (by decide) rfl (Nat.le_of_ble_eq_true rfl) (Or.inl rfl) (fun pr e s m args below meth c0 A Q H ls hx hb hml hown hts hsz hA hP hK hD hS hG hret hl => ?_)
  have hown : s.vm.findClass RX5 = some m.cls := hown
  have lk1 := hts (.fieldLink RX5 7 "BurinLinesModel" "tone" "[I") (by decide +kernel)
  have lk2 := hts (.fieldLink RX5 48 "BurinLinesModel" "order" "[I") (by decide +kernel)
  have lk3 := hts (.fieldLink RX5 36 "BurinLinesModel" "made" "[I") (by decide +kernel)
  have lk4 := hts (.fieldLink RX5 20 "BurinLinesModel" "apart" "I") (by decide +kernel)
  have hinX5 : ∀ w ∈ wsX50, w ∈ wsX5_error := by decide +kernel
  have hl : lv_has ls 6 [(0, .ref m0), (1, .int (w))] := hl
  refine lv_iload_n hx hb dX5_error_0 rfl (lv_at hl 1 rfl) ?_
  refine lv_iconst (v := nI 0) hx hb dX5_error_1 (by decide) ?_
  refine lv_iconst (v := nI 1) hx hb dX5_error_2 (by decide) ?_
  refine gcS (As := [.int (w), .int (nI 0), .int (nI 1)]) (rest := []) ⟨hx, hb, hml, hown, hts⟩ (c_X5_in l w (nI 0) (nI 1) ) (va_cwS 3 hts gX5_error_X5_in rfl rfl rfl (by decide +kernel) ⟨Nat.le_of_ble_eq_true rfl, Nat.le_of_ble_eq_true rfl⟩) hl.1 rfl rfl (Nat.le_of_ble_eq_true rfl) ⟨Nat.zero_le _, Nat.zero_le _⟩ dX5_error_3 ?_
  refine nv_ifb_ne (tgt := 12) hx hb dX5_error_6 (by decide) (fun c_1 => ?_) (fun c_1 => ?_)
  · skip
    have hw2 : w = 0 ∨ w = nI 1 := by
      obtain ⟨b, hb1, hb0, rfl⟩ := inr_nat (by decide) (by decide) c_1
      rcases (show b = 0 ∨ b = 1 by omega) with rfl | rfl
      · exact Or.inl nI_0
      · exact Or.inr rfl
    refine lv_aload_n hx hb dX5_error_12 rfl (lv_at hl 0 rfl) ?_
    refine lv_iconst (v := nI 0) hx hb dX5_error_13 (by decide) ?_
    refine gcVv (ws' := fun (u : (Nat → Nat) × (Nat → Nat) × (Nat → Nat) × (Nat → Nat) × (Nat → Nat) × (Nat)) => [(m0, .inr (5, [.ref m1, .ref m2, .ref m3, .int (nI (G 0)), .int (nI (G 1)), .int (nI (G 2)), .int (nI (G 3)), .ref m4, .ref m5, .int (nI u.2.2.2.2.2), .ref m6, .ref m7, .ref m8, .ref m9, .ref m10, .int (nI ai)])), (m1, .inl (cI, 64, .inl (nF T))), (m2, .inl (cI, 64, .inl (nF U))), (m3, .inl (cZ, 64, .inl (nF B))), (m4, .inl (cI, 64, .inl (nF u.1))), (m5, .inl (cI, 64, .inl (nF u.2.1))), (m6, .inl (cI, 64, .inl (nF u.2.2.1))), (m7, .inl (cI, 64, .inl (nF u.2.2.2.1))), (m8, .inl (cI, 64, .inl (nF u.2.2.2.2.1))), (m9, .inl (cI, 64, .inl (nF Om))), (m10, .inl (cI, 64, .inl (nF Nm)))]) (wr := []) (ci := 5) (q0 := 0) (As := [.int (nI 0)]) (rest := []) ⟨hx, hb, hml, hown, hts⟩ (c_X5_findLayer l D cI cZ tt H.size m0 m1 m2 m3 m4 m5 m6 m7 m8 m9 m10 np ai T U B G Wm M F L Z Om Nm 0 (by first | assumption | omega) (by first | assumption | omega) (by first | assumption | omega) (by first | assumption | omega)) (cwV 1 hts gX5_error_X5_findLayer rfl rfl rfl (by decide +kernel) ⟨Nat.le_of_ble_eq_true rfl, Nat.le_of_ble_eq_true rfl⟩) hP hK hD hS hA hG rfl rfl [0, 1, 2, 3, 4, 5, 6, 7, 8, 9, 10] [] [0, 1, 2, 3, 4, 5, 6, 7, 8, 9, 10] (by decide) rfl rfl (by decide) (by decide) (by decide) (fun _ => rfl) hl.1 rfl rfl (Nat.le_of_ble_eq_true rfl) ⟨Nat.zero_le _, Nat.zero_le _⟩ dX5_error_14 (fun  u H locs hp hP hD hS => ?_)
    obtain ⟨Wq0, Mq0, Fq0, Lq0, Zq0, nq0⟩ := u
    obtain ⟨hLDq0, hnDq0, hWq0⟩ := hp
    have hLDq0 : LD (pW G T 0) (pY U 0) (G 3) Mq0 Fq0 Lq0 Zq0 := hLDq0
    have hnDq0 : nq0 = npf G T U 0 := hnDq0
    have hWq0 : ∀ k, k < 64 → Wq0 k = pW G T 0 k := hWq0
    have hP : va_P D vwCl [(m0, .inr (5, [.ref m1, .ref m2, .ref m3, .int (nI (G 0)), .int (nI (G 1)), .int (nI (G 2)), .int (nI (G 3)), .ref m4, .ref m5, .int (nI nq0), .ref m6, .ref m7, .ref m8, .ref m9, .ref m10, .int (nI ai)])), (m1, .inl (cI, 64, .inl (nF T))), (m2, .inl (cI, 64, .inl (nF U))), (m3, .inl (cZ, 64, .inl (nF B))), (m4, .inl (cI, 64, .inl (nF Wq0))), (m5, .inl (cI, 64, .inl (nF Mq0))), (m6, .inl (cI, 64, .inl (nF Fq0))), (m7, .inl (cI, 64, .inl (nF Lq0))), (m8, .inl (cI, 64, .inl (nF Zq0))), (m9, .inl (cI, 64, .inl (nF Om))), (m10, .inl (cI, 64, .inl (nF Nm)))] H := hP
    have hD : va_D A [(m0, .inr (5, [.ref m1, .ref m2, .ref m3, .int (nI (G 0)), .int (nI (G 1)), .int (nI (G 2)), .int (nI (G 3)), .ref m4, .ref m5, .int (nI nq0), .ref m6, .ref m7, .ref m8, .ref m9, .ref m10, .int (nI ai)])), (m1, .inl (cI, 64, .inl (nF T))), (m2, .inl (cI, 64, .inl (nF U))), (m3, .inl (cZ, 64, .inl (nF B))), (m4, .inl (cI, 64, .inl (nF Wq0))), (m5, .inl (cI, 64, .inl (nF Mq0))), (m6, .inl (cI, 64, .inl (nF Fq0))), (m7, .inl (cI, 64, .inl (nF Lq0))), (m8, .inl (cI, 64, .inl (nF Zq0))), (m9, .inl (cI, 64, .inl (nF Om))), (m10, .inl (cI, 64, .inl (nF Nm)))] := hD
    refine lv_iconst (v := nI 0) hx hb dX5_error_17 (by decide) ?_
    refine lv_istore_n (lv' := [(2, .int (nI 0)), (0, .ref m0), (1, .int (w))]) hx hb dX5_error_18 rfl hl (by decide) rfl (fun ls hl => ?_)
    have L19 : ∀ (n : Nat) (i : Nat) (O1 : Nat → Nat), 64 - i < n → (i ≤ 64) → (∀ k, k < i → O1 k = Mq0 k) → ∀ (H : Heap) (locs : List Loc) (ls : Array Slot), va_P D vwCl [(m0, .inr (5, [.ref m1, .ref m2, .ref m3, .int (nI (G 0)), .int (nI (G 1)), .int (nI (G 2)), .int (nI (G 3)), .ref m4, .ref m5, .int (nI nq0), .ref m6, .ref m7, .ref m8, .ref m9, .ref m10, .int (nI ai)])), (m1, .inl (cI, 64, .inl (nF T))), (m2, .inl (cI, 64, .inl (nF U))), (m3, .inl (cZ, 64, .inl (nF B))), (m4, .inl (cI, 64, .inl (nF Wq0))), (m5, .inl (cI, 64, .inl (nF Mq0))), (m6, .inl (cI, 64, .inl (nF Fq0))), (m7, .inl (cI, 64, .inl (nF Lq0))), (m8, .inl (cI, 64, .inl (nF Zq0))), (m9, .inl (cI, 64, .inl (nF O1))), (m10, .inl (cI, 64, .inl (nF Nm)))] H → va_D A [(m0, .inr (5, [.ref m1, .ref m2, .ref m3, .int (nI (G 0)), .int (nI (G 1)), .int (nI (G 2)), .int (nI (G 3)), .ref m4, .ref m5, .int (nI nq0), .ref m6, .ref m7, .ref m8, .ref m9, .ref m10, .int (nI ai)])), (m1, .inl (cI, 64, .inl (nF T))), (m2, .inl (cI, 64, .inl (nF U))), (m3, .inl (cZ, 64, .inl (nF B))), (m4, .inl (cI, 64, .inl (nF Wq0))), (m5, .inl (cI, 64, .inl (nF Mq0))), (m6, .inl (cI, 64, .inl (nF Fq0))), (m7, .inl (cI, 64, .inl (nF Lq0))), (m8, .inl (cI, 64, .inl (nF Zq0))), (m9, .inl (cI, 64, .inl (nF O1))), (m10, .inl (cI, 64, .inl (nF Nm)))] → va_S A s.heap H locs → lv_has ls 6 [(0, .ref m0), (1, .int (w)), (2, .int (nI i))] → W pr l e ({ frames := 4, cells := 0, slots := 0, locals := 93 } : Room) s m args below meth c0 H locs 0 0 Q (F0 m 19 ls []) := by
      intro n
      induction n with
      | zero => intro i O1 h0; exact absurd h0 (Nat.not_lt_zero _)
      | succ n ih19 =>
        intro i O1 hm19 hi q1 H locs ls hP hD hS hl
        refine lv_iload_n hx hb dX5_error_19 rfl (lv_at hl 2 rfl) ?_
        refine lv_bipush (v := nI 64) hx hb dX5_error_20 (by decide) ?_
        refine nv_icmp_ge (tgt := 43) hx hb dX5_error_22 (by decide) (by omega) (by omega) (fun c_2 => ?_) (fun c_2 => ?_)
        · skip
          have h64 : i = 64 := by omega
          subst h64
          refine lv_aload_n hx hb dX5_error_43 rfl (lv_at hl 0 rfl) ?_
          refine lv_iconst (v := nI 1) hx hb dX5_error_44 (by decide) ?_
          refine gcVv (ws' := fun (u : (Nat → Nat) × (Nat → Nat) × (Nat → Nat) × (Nat → Nat) × (Nat → Nat) × (Nat)) => [(m0, .inr (5, [.ref m1, .ref m2, .ref m3, .int (nI (G 0)), .int (nI (G 1)), .int (nI (G 2)), .int (nI (G 3)), .ref m4, .ref m5, .int (nI u.2.2.2.2.2), .ref m6, .ref m7, .ref m8, .ref m9, .ref m10, .int (nI ai)])), (m1, .inl (cI, 64, .inl (nF T))), (m2, .inl (cI, 64, .inl (nF U))), (m3, .inl (cZ, 64, .inl (nF B))), (m4, .inl (cI, 64, .inl (nF u.1))), (m5, .inl (cI, 64, .inl (nF u.2.1))), (m6, .inl (cI, 64, .inl (nF u.2.2.1))), (m7, .inl (cI, 64, .inl (nF u.2.2.2.1))), (m8, .inl (cI, 64, .inl (nF u.2.2.2.2.1))), (m9, .inl (cI, 64, .inl (nF O1))), (m10, .inl (cI, 64, .inl (nF Nm)))]) (wr := []) (ci := 5) (q0 := 0) (As := [.int (nI 1)]) (rest := []) ⟨hx, hb, hml, hown, hts⟩ (c_X5_findLayer l D cI cZ tt H.size m0 m1 m2 m3 m4 m5 m6 m7 m8 m9 m10 nq0 ai T U B G Wq0 Mq0 Fq0 Lq0 Zq0 O1 Nm 1 (by first | assumption | omega) (by first | assumption | omega) (by first | assumption | omega) (by first | assumption | omega)) (cwV 1 hts gX5_error_X5_findLayer rfl rfl rfl (by decide +kernel) ⟨Nat.le_of_ble_eq_true rfl, Nat.le_of_ble_eq_true rfl⟩) hP hK hD hS hA hG rfl rfl [0, 1, 2, 3, 4, 5, 6, 7, 8, 9, 10] [] [0, 1, 2, 3, 4, 5, 6, 7, 8, 9, 10] (by decide) rfl rfl (by decide) (by decide) (by decide) (fun _ => rfl) hl.1 rfl rfl (Nat.le_of_ble_eq_true rfl) ⟨Nat.zero_le _, Nat.zero_le _⟩ dX5_error_45 (fun  u H locs hp hP hD hS => ?_)
          obtain ⟨Wq, Mq, Fq, Lq, Zq, nq⟩ := u
          obtain ⟨hLDq, hnDq, hWq⟩ := hp
          have hLDq : LD (pW G T 1) (pY U 1) (G 3) Mq Fq Lq Zq := hLDq
          have hnDq : nq = npf G T U 1 := hnDq
          have hWq : ∀ k, k < 64 → Wq k = pW G T 1 k := hWq
          have hP : va_P D vwCl [(m0, .inr (5, [.ref m1, .ref m2, .ref m3, .int (nI (G 0)), .int (nI (G 1)), .int (nI (G 2)), .int (nI (G 3)), .ref m4, .ref m5, .int (nI nq), .ref m6, .ref m7, .ref m8, .ref m9, .ref m10, .int (nI ai)])), (m1, .inl (cI, 64, .inl (nF T))), (m2, .inl (cI, 64, .inl (nF U))), (m3, .inl (cZ, 64, .inl (nF B))), (m4, .inl (cI, 64, .inl (nF Wq))), (m5, .inl (cI, 64, .inl (nF Mq))), (m6, .inl (cI, 64, .inl (nF Fq))), (m7, .inl (cI, 64, .inl (nF Lq))), (m8, .inl (cI, 64, .inl (nF Zq))), (m9, .inl (cI, 64, .inl (nF O1))), (m10, .inl (cI, 64, .inl (nF Nm)))] H := hP
          have hD : va_D A [(m0, .inr (5, [.ref m1, .ref m2, .ref m3, .int (nI (G 0)), .int (nI (G 1)), .int (nI (G 2)), .int (nI (G 3)), .ref m4, .ref m5, .int (nI nq), .ref m6, .ref m7, .ref m8, .ref m9, .ref m10, .int (nI ai)])), (m1, .inl (cI, 64, .inl (nF T))), (m2, .inl (cI, 64, .inl (nF U))), (m3, .inl (cZ, 64, .inl (nF B))), (m4, .inl (cI, 64, .inl (nF Wq))), (m5, .inl (cI, 64, .inl (nF Mq))), (m6, .inl (cI, 64, .inl (nF Fq))), (m7, .inl (cI, 64, .inl (nF Lq))), (m8, .inl (cI, 64, .inl (nF Zq))), (m9, .inl (cI, 64, .inl (nF O1))), (m10, .inl (cI, 64, .inl (nF Nm)))] := hD
          have her : ∀ k, k < 64 → nd (T k) (100 * (O1 k + Mq k) / G 0) = erf G T U k := fun k hk => by unfold erf mdf; rw [q1 k hk, ← WV_eq hLDq0 hk, ← WV_eq hLDq hk]
          have bg0 := hGs 0
          refine lv_iconst (v := nI 0) hx hb dX5_error_48 (by decide) ?_
          refine lv_istore_n (lv' := [(2, .int (nI 0)), (0, .ref m0), (1, .int (w))]) hx hb dX5_error_49 rfl hl (by decide) rfl (fun ls hl => ?_)
          refine lv_iconst (v := nI 0) hx hb dX5_error_50 (by decide) ?_
          refine lv_istore_n (lv' := [(3, .int (nI 0)), (2, .int (nI 0)), (0, .ref m0), (1, .int (w))]) hx hb dX5_error_51 rfl hl (by decide) rfl (fun ls hl => ?_)
          refine lv_iconst (v := nI 0) hx hb dX5_error_52 (by decide) ?_
          refine lv_istore (lv' := [(4, .int (nI 0)), (3, .int (nI 0)), (2, .int (nI 0)), (0, .ref m0), (1, .int (w))]) hx hb dX5_error_53 hl (by decide) rfl (fun ls hl => ?_)
          have L55 : ∀ (n : Nat) (i : Nat) (gr : Nat) (sm : Nat), 64 - i < n → (i ≤ 64) → (gr = mxf (erf G T U) i) → (sm = smf (erf G T U) i) → (gr ≤ 30000) → ∀ (H : Heap) (locs : List Loc) (ls : Array Slot), va_P D vwCl [(m0, .inr (5, [.ref m1, .ref m2, .ref m3, .int (nI (G 0)), .int (nI (G 1)), .int (nI (G 2)), .int (nI (G 3)), .ref m4, .ref m5, .int (nI nq), .ref m6, .ref m7, .ref m8, .ref m9, .ref m10, .int (nI ai)])), (m1, .inl (cI, 64, .inl (nF T))), (m2, .inl (cI, 64, .inl (nF U))), (m3, .inl (cZ, 64, .inl (nF B))), (m4, .inl (cI, 64, .inl (nF Wq))), (m5, .inl (cI, 64, .inl (nF Mq))), (m6, .inl (cI, 64, .inl (nF Fq))), (m7, .inl (cI, 64, .inl (nF Lq))), (m8, .inl (cI, 64, .inl (nF Zq))), (m9, .inl (cI, 64, .inl (nF O1))), (m10, .inl (cI, 64, .inl (nF Nm)))] H → va_D A [(m0, .inr (5, [.ref m1, .ref m2, .ref m3, .int (nI (G 0)), .int (nI (G 1)), .int (nI (G 2)), .int (nI (G 3)), .ref m4, .ref m5, .int (nI nq), .ref m6, .ref m7, .ref m8, .ref m9, .ref m10, .int (nI ai)])), (m1, .inl (cI, 64, .inl (nF T))), (m2, .inl (cI, 64, .inl (nF U))), (m3, .inl (cZ, 64, .inl (nF B))), (m4, .inl (cI, 64, .inl (nF Wq))), (m5, .inl (cI, 64, .inl (nF Mq))), (m6, .inl (cI, 64, .inl (nF Fq))), (m7, .inl (cI, 64, .inl (nF Lq))), (m8, .inl (cI, 64, .inl (nF Zq))), (m9, .inl (cI, 64, .inl (nF O1))), (m10, .inl (cI, 64, .inl (nF Nm)))] → va_S A s.heap H locs → lv_has ls 6 [(0, .ref m0), (1, .int (w)), (2, .int (nI gr)), (3, .int (nI sm)), (4, .int (nI i))] → W pr l e ({ frames := 4, cells := 0, slots := 0, locals := 93 } : Room) s m args below meth c0 H locs 0 0 Q (F0 m 55 ls []) := by
            intro n
            induction n with
            | zero => intro i gr sm h0; exact absurd h0 (Nat.not_lt_zero _)
            | succ n ih55 =>
              intro i gr sm hm55 hi hgr hsm hgb H locs ls hP hD hS hl
              refine lv_iload hx hb dX5_error_55 (lv_at hl 4 rfl) ?_
              refine lv_bipush (v := nI 64) hx hb dX5_error_57 (by decide) ?_
              refine nv_icmp_ge (tgt := 116) hx hb dX5_error_59 (by decide) (by omega) (by omega) (fun c_3 => ?_) (fun c_3 => ?_)
              · skip
                refine lv_iload_n hx hb dX5_error_116 rfl (lv_at hl 1 rfl) ?_
                refine lv_if_ne (tgt := 124) hx hb dX5_error_117 (by decide) (fun c_4 => ?_) (fun c_4 => ?_)
                · skip
                  refine lv_iload_n hx hb dX5_error_124 rfl (lv_at hl 3 rfl) ?_
                  exact hret _ (Wq, Mq, Fq, Lq, Zq, nq, O1) _ _ _ _ dX5_error_125 (by unfold aError; rw [if_neg c_4, if_pos (hw2.resolve_left c_4), hsm, show i = 64 by omega]) hP hD hS
                · skip
                  refine lv_iload_n hx hb dX5_error_120 rfl (lv_at hl 2 rfl) ?_
                  refine lv_goto (tgt := 125) hx hb dX5_error_121 (by decide) ?_
                  exact hret _ (Wq, Mq, Fq, Lq, Zq, nq, O1) _ _ _ _ dX5_error_125 (by unfold aError; rw [if_pos c_4, hgr, show i = 64 by omega]) hP hD hS
              · skip
                have bma : O1 i ≤ 100 := by rw [q1 i (by omega)]; exact LD_le (pW_le hGs hT) hLDq0 (by omega)
                have bmd : Mq i ≤ 100 := LD_le (pW_le hGs hT) hLDq (by omega)
                have bdv := Nat.div_le_self (100 * (O1 i + Mq i)) (G 0)
                refine lv_aload_n hx hb dX5_error_62 rfl (lv_at hl 0 rfl) ?_
                refine va_get (D := D) (ci := 5) (v := .ref m1) (C := RX5) (T := TX5) (N := 16) hx hb hts hinX5 hown hK hP 0 rfl rfl 0 (by decide) lk1 (fun _ h9 => h9) rfl dX5_error_63 ?_
                refine lv_iload hx hb dX5_error_66 (lv_at hl 4 rfl) ?_
                refine nv_iald hx hb hK hP 1 rfl (by omega) (by decide) dX5_error_68 ?_
                have bd_5 := hT i
                refine lv_bipush (v := nI 100) hx hb dX5_error_69 (by decide) ?_
                refine lv_aload_n hx hb dX5_error_71 rfl (lv_at hl 0 rfl) ?_
                refine va_get (D := D) (ci := 5) (v := .ref m9) (C := RX5) (T := TX5) (N := 16) hx hb hts hinX5 hown hK hP 0 rfl rfl 13 (by decide) lk2 (fun _ h9 => h9) rfl dX5_error_72 ?_
                refine lv_iload hx hb dX5_error_75 (lv_at hl 4 rfl) ?_
                refine nv_iald hx hb hK hP 9 rfl (by omega) (by decide) dX5_error_77 ?_
                refine lv_aload_n hx hb dX5_error_78 rfl (lv_at hl 0 rfl) ?_
                refine va_get (D := D) (ci := 5) (v := .ref m5) (C := RX5) (T := TX5) (N := 16) hx hb hts hinX5 hown hK hP 0 rfl rfl 8 (by decide) lk3 (fun _ h9 => h9) rfl dX5_error_79 ?_
                refine lv_iload hx hb dX5_error_82 (lv_at hl 4 rfl) ?_
                refine nv_iald hx hb hK hP 5 rfl (by omega) (by decide) dX5_error_84 ?_
                refine nv_iadd hx hb dX5_error_85 ?_
                refine nv_imul hx hb dX5_error_86 ?_
                refine lv_aload_n hx hb dX5_error_87 rfl (lv_at hl 0 rfl) ?_
                refine va_get (D := D) (ci := 5) (v := .int (nI (G 0))) (C := RX5) (T := TX5) (N := 16) hx hb hts hinX5 hown hK hP 0 rfl rfl 3 (by decide) lk4 (fun _ h9 => h9) rfl dX5_error_88 ?_
                refine nv_idiv hx hb dX5_error_91 (by omega) (by omega) (by omega) ?_
                refine lv_isub hx hb dX5_error_92 ?_
                refine gcS (As := [.int ((nI (T i)) - (nI ((100 * ((O1 i) + (Mq i))) / (G 0))))]) (rest := []) ⟨hx, hb, hml, hown, hts⟩ (c_X5_size l ((nI (T i)) - (nI ((100 * ((O1 i) + (Mq i))) / (G 0)))) ) (va_cwS 1 hts gX5_error_X5_size rfl rfl rfl (by decide +kernel) ⟨Nat.le_of_ble_eq_true rfl, Nat.le_of_ble_eq_true rfl⟩) hl.1 rfl rfl (Nat.le_of_ble_eq_true rfl) ⟨Nat.zero_le _, Nat.zero_le _⟩ dX5_error_93 ?_
                have bnd : nd (T i) (100 * (O1 i + Mq i) / G 0) ≤ 30000 := by
                  have q := bdv
                  generalize 100 * (O1 i + Mq i) / G 0 = z at q ⊢
                  unfold nd
                  omega
                rw [her i (by omega)] at bnd
                refine top_eq ((sz32_nd (by omega) (by omega)).trans (congrArg nI (her i (by omega)))) ?_
                refine lv_istore (lv' := [(5, .int (nI (erf G T U i))), (0, .ref m0), (1, .int (w)), (2, .int (nI gr)), (3, .int (nI sm)), (4, .int (nI i))]) hx hb dX5_error_96 hl (by decide) rfl (fun ls hl => ?_)
                refine lv_iload_n hx hb dX5_error_98 rfl (lv_at hl 3 rfl) ?_
                refine lv_iload hx hb dX5_error_99 (lv_at hl 0 rfl) ?_
                refine gcS (As := [.int (nI gr), .int (nI (erf G T U i))]) (rest := []) ⟨hx, hb, hml, hown, hts⟩ (c_X5_more l gr (erf G T U i) (by first | assumption | omega) (by first | assumption | omega)) (va_cwS 2 hts gX5_error_X5_more rfl rfl rfl (by decide +kernel) ⟨Nat.le_of_ble_eq_true rfl, Nat.le_of_ble_eq_true rfl⟩) hl.1 rfl rfl (Nat.le_of_ble_eq_true rfl) ⟨Nat.zero_le _, Nat.zero_le _⟩ dX5_error_101 ?_
                refine lv_istore_n (lv' := [(2, .int (nI (max gr (erf G T U i)))), (5, .int (nI (erf G T U i))), (0, .ref m0), (1, .int (w)), (3, .int (nI sm)), (4, .int (nI i))]) hx hb dX5_error_104 rfl hl (by decide) rfl (fun ls hl => ?_)
                refine lv_iload_n hx hb dX5_error_105 rfl (lv_at hl 4 rfl) ?_
                refine lv_iload hx hb dX5_error_106 (lv_at hl 1 rfl) ?_
                refine nv_iadd hx hb dX5_error_108 ?_
                refine lv_istore_n (lv' := [(3, .int (nI (sm + (erf G T U i)))), (2, .int (nI (max gr (erf G T U i)))), (5, .int (nI (erf G T U i))), (0, .ref m0), (1, .int (w)), (4, .int (nI i))]) hx hb dX5_error_109 rfl hl (by decide) rfl (fun ls hl => ?_)
                refine lv_iinc (v := nI (i + 1)) (lv' := [(4, .int (nI (i + 1))), (3, .int (nI (sm + (erf G T U i)))), (2, .int (nI (max gr (erf G T U i)))), (5, .int (nI (erf G T U i))), (0, .ref m0), (1, .int (w))]) hx hb dX5_error_110 hl (k := 5) rfl (by exact nI_add _ 1) (by decide) rfl (fun ls hl => ?_)
                refine lv_goto (tgt := 55) hx hb dX5_error_113 (by decide) ?_
                exact ih55 (i + 1) (max gr (erf G T U i)) (sm + (erf G T U i)) (by omega) (by omega) (by rw [mxf, hgr]) (by rw [smf, hsm]) (by omega) _ _ _ hP hD hS (lv_sub hl [4, 5, 2, 1, 0] rfl)
          exact L55 (64 + 1) 0 0 0 (by omega) (by omega) rfl rfl (by omega) _ _ _ hP hD hS (lv_sub hl [3, 4, 2, 1, 0] rfl)
        · skip
          refine lv_aload_n hx hb dX5_error_25 rfl (lv_at hl 0 rfl) ?_
          refine va_get (D := D) (ci := 5) (v := .ref m9) (C := RX5) (T := TX5) (N := 16) hx hb hts hinX5 hown hK hP 0 rfl rfl 13 (by decide) lk2 (fun _ h9 => h9) rfl dX5_error_26 ?_
          refine lv_iload_n hx hb dX5_error_29 rfl (lv_at hl 2 rfl) ?_
          refine lv_aload_n hx hb dX5_error_30 rfl (lv_at hl 0 rfl) ?_
          refine va_get (D := D) (ci := 5) (v := .ref m5) (C := RX5) (T := TX5) (N := 16) hx hb hts hinX5 hown hK hP 0 rfl rfl 8 (by decide) lk3 (fun _ h9 => h9) rfl dX5_error_31 ?_
          refine lv_iload_n hx hb dX5_error_34 rfl (lv_at hl 2 rfl) ?_
          refine nv_iald hx hb hK hP 5 rfl (by omega) (by decide) dX5_error_35 ?_
          refine nv_iast hx hb hK hP hD hS 9 rfl (by omega) (by decide) dX5_error_36 (fun H locs hP hD hS => ?_)
          have hP : va_P D vwCl [(m0, .inr (5, [.ref m1, .ref m2, .ref m3, .int (nI (G 0)), .int (nI (G 1)), .int (nI (G 2)), .int (nI (G 3)), .ref m4, .ref m5, .int (nI nq0), .ref m6, .ref m7, .ref m8, .ref m9, .ref m10, .int (nI ai)])), (m1, .inl (cI, 64, .inl (nF T))), (m2, .inl (cI, 64, .inl (nF U))), (m3, .inl (cZ, 64, .inl (nF B))), (m4, .inl (cI, 64, .inl (nF Wq0))), (m5, .inl (cI, 64, .inl (nF Mq0))), (m6, .inl (cI, 64, .inl (nF Fq0))), (m7, .inl (cI, 64, .inl (nF Lq0))), (m8, .inl (cI, 64, .inl (nF Zq0))), (m9, .inl (cI, 64, .inl (nF (va_up O1 i (Mq0 i))))), (m10, .inl (cI, 64, .inl (nF Nm)))] H := hP
          have hD : va_D A [(m0, .inr (5, [.ref m1, .ref m2, .ref m3, .int (nI (G 0)), .int (nI (G 1)), .int (nI (G 2)), .int (nI (G 3)), .ref m4, .ref m5, .int (nI nq0), .ref m6, .ref m7, .ref m8, .ref m9, .ref m10, .int (nI ai)])), (m1, .inl (cI, 64, .inl (nF T))), (m2, .inl (cI, 64, .inl (nF U))), (m3, .inl (cZ, 64, .inl (nF B))), (m4, .inl (cI, 64, .inl (nF Wq0))), (m5, .inl (cI, 64, .inl (nF Mq0))), (m6, .inl (cI, 64, .inl (nF Fq0))), (m7, .inl (cI, 64, .inl (nF Lq0))), (m8, .inl (cI, 64, .inl (nF Zq0))), (m9, .inl (cI, 64, .inl (nF (va_up O1 i (Mq0 i))))), (m10, .inl (cI, 64, .inl (nF Nm)))] := hD
          refine lv_iinc (v := nI (i + 1)) (lv' := [(2, .int (nI (i + 1))), (0, .ref m0), (1, .int (w))]) hx hb dX5_error_37 hl (k := 2) rfl (by exact nI_add _ 1) (by decide) rfl (fun ls hl => ?_)
          refine lv_goto (tgt := 19) hx hb dX5_error_40 (by decide) ?_
          exact ih19 (i + 1) (va_up O1 i (Mq0 i)) (by omega) (by omega) (by
            intro k hk
            rcases Nat.lt_or_ge k i with z | z
            · rw [up_n _ _ (by omega)]; exact q1 k z
            · rw [show k = i by omega, up_s]) _ _ _ hP hD hS (lv_sub hl [1, 2, 0] rfl)
    exact L19 (64 + 1) 0 Om (by omega) (by omega) (fun k hk => absurd hk (by omega)) _ _ _ hP hD hS (lv_sub hl [1, 2, 0] rfl)
  · skip
    have now : ¬ w = 0 ∧ ¬ w = nI 1 := ⟨fun q => c_1 (by rw [q, ← nI_0]; exact (inr_iff (by decide) (by decide)).mpr (by rw [nI_T (by decide)]; omega)), fun q => c_1 (by rw [q]; exact (inr_iff (by decide) (by decide)).mpr (by rw [nI_T (by decide)]; omega))⟩
    refine lv_bipush (v := (-3)) hx hb dX5_error_9 (by decide) ?_
    exact hret _ (Wm, M, F, L, Z, np, Om) _ _ _ _ dX5_error_11 (by unfold aError; rw [if_neg now.1, if_neg now.2]) hP hD hS

set_option maxHeartbeats 4000000 in
set_option maxRecDepth 100000 in
theorem c_X5_count (l : Launch) (D : va_G) (cI cZ : ClassId) (tt : Nat → Nat) (sz : Nat) (m0 m1 m2 m3 m4 m5 m6 m7 m8 m9 m10 : Nat) (np ai : Nat) (T U B G Wm M F L Z Om Nm : Nat → Nat) (w : Int32) (hT : ∀ k, T k ≤ 100) (hU : ∀ k, U k < 8) (hB : ∀ k, B k < 2) (hGs : ∀ k, G k ≤ 100) : MI l yX5_count wsX5_count ({ frames := 2, cells := 0, slots := 0, locals := 49 } : Room) D cI cZ tt [.ref m0, .int (w)] [(m0, .inr (5, [.ref m1, .ref m2, .ref m3, .int (nI (G 0)), .int (nI (G 1)), .int (nI (G 2)), .int (nI (G 3)), .ref m4, .ref m5, .int (nI np), .ref m6, .ref m7, .ref m8, .ref m9, .ref m10, .int (nI ai)])), (m1, .inl (cI, 64, .inl (nF T))), (m2, .inl (cI, 64, .inl (nF U))), (m3, .inl (cZ, 64, .inl (nF B))), (m4, .inl (cI, 64, .inl (nF Wm))), (m5, .inl (cI, 64, .inl (nF M))), (m6, .inl (cI, 64, .inl (nF F))), (m7, .inl (cI, 64, .inl (nF L))), (m8, .inl (cI, 64, .inl (nF Z))), (m9, .inl (cI, 64, .inl (nF Om))), (m10, .inl (cI, 64, .inl (nF Nm)))] sz (fun (r : Int32) (_ : Unit) => r = aCount G T U B w) (fun (_ : Unit) => [(m0, .inr (5, [.ref m1, .ref m2, .ref m3, .int (nI (G 0)), .int (nI (G 1)), .int (nI (G 2)), .int (nI (G 3)), .ref m4, .ref m5, .int (nI np), .ref m6, .ref m7, .ref m8, .ref m9, .ref m10, .int (nI ai)])), (m1, .inl (cI, 64, .inl (nF T))), (m2, .inl (cI, 64, .inl (nF U))), (m3, .inl (cZ, 64, .inl (nF B))), (m4, .inl (cI, 64, .inl (nF Wm))), (m5, .inl (cI, 64, .inl (nF M))), (m6, .inl (cI, 64, .inl (nF F))), (m7, .inl (cI, 64, .inl (nF L))), (m8, .inl (cI, 64, .inl (nF Z))), (m9, .inl (cI, 64, .inl (nF Om))), (m10, .inl (cI, 64, .inl (nF Nm)))]) := by
  refine entI (cc := cX5_count) 5 (by decide) rfl (Nat.le_of_ble_eq_true rfl) (Or.inl rfl) (fun pr e s m args below meth c0 A Q H ls hx hb hml hown hts hsz hA hP hK hD hS hG hret hl => ?_)
  have hown : s.vm.findClass RX5 = some m.cls := hown
  have lk1 := hts (.fieldLink RX5 7 "BurinLinesModel" "tone" "[I") (by decide +kernel)
  have lk2 := hts (.fieldLink RX5 16 "BurinLinesModel" "isTold" "[Z") (by decide +kernel)
  have hinX5 : ∀ w ∈ wsX50, w ∈ wsX5_count := by decide +kernel
  have hl : lv_has ls 5 [(0, .ref m0), (1, .int (w))] := hl
  refine lv_iconst (v := nI 0) hx hb dX5_count_0 (by decide) ?_
  refine lv_istore_n (lv' := [(2, .int (nI 0)), (0, .ref m0), (1, .int (w))]) hx hb dX5_count_1 rfl hl (by decide) rfl (fun ls hl => ?_)
  refine lv_iload_n hx hb dX5_count_2 rfl (lv_at hl 2 rfl) ?_
  refine lv_iconst (v := nI 0) hx hb dX5_count_3 (by decide) ?_
  refine lv_iconst (v := nI 4) hx hb dX5_count_4 (by decide) ?_
  refine gcS (As := [.int (w), .int (nI 0), .int (nI 4)]) (rest := []) ⟨hx, hb, hml, hown, hts⟩ (c_X5_in l w (nI 0) (nI 4) ) (va_cwS 3 hts gX5_count_X5_in rfl rfl rfl (by decide +kernel) ⟨Nat.le_of_ble_eq_true rfl, Nat.le_of_ble_eq_true rfl⟩) hl.1 rfl rfl (Nat.le_of_ble_eq_true rfl) ⟨Nat.zero_le _, Nat.zero_le _⟩ dX5_count_5 ?_
  refine nv_ifb_ne (tgt := 14) hx hb dX5_count_8 (by decide) (fun c_1 => ?_) (fun c_1 => ?_)
  · skip
    obtain ⟨wn, hw4, hw0, rfl⟩ := inr_nat (by decide) (by decide) c_1
    rcases (show wn = 0 ∨ wn = 1 ∨ wn = 2 ∨ wn = 3 ∨ wn = 4 by omega) with rfl | rfl | rfl | rfl | rfl
    · skip
      refine lv_iconst (v := nI 0) hx hb dX5_count_14 (by decide) ?_
      refine lv_istore_n (lv' := [(3, .int (nI 0)), (2, .int (nI 0)), (0, .ref m0), (1, .int (nI 0))]) hx hb dX5_count_15 rfl hl (by decide) rfl (fun ls hl => ?_)
      have L16 : ∀ (n : Nat) (i : Nat) (n0 : Nat), 64 - i < n → (i ≤ 64) → (n0 = cb (pTn T) i) → ∀ (H : Heap) (locs : List Loc) (ls : Array Slot), va_P D vwCl [(m0, .inr (5, [.ref m1, .ref m2, .ref m3, .int (nI (G 0)), .int (nI (G 1)), .int (nI (G 2)), .int (nI (G 3)), .ref m4, .ref m5, .int (nI np), .ref m6, .ref m7, .ref m8, .ref m9, .ref m10, .int (nI ai)])), (m1, .inl (cI, 64, .inl (nF T))), (m2, .inl (cI, 64, .inl (nF U))), (m3, .inl (cZ, 64, .inl (nF B))), (m4, .inl (cI, 64, .inl (nF Wm))), (m5, .inl (cI, 64, .inl (nF M))), (m6, .inl (cI, 64, .inl (nF F))), (m7, .inl (cI, 64, .inl (nF L))), (m8, .inl (cI, 64, .inl (nF Z))), (m9, .inl (cI, 64, .inl (nF Om))), (m10, .inl (cI, 64, .inl (nF Nm)))] H → va_D A [(m0, .inr (5, [.ref m1, .ref m2, .ref m3, .int (nI (G 0)), .int (nI (G 1)), .int (nI (G 2)), .int (nI (G 3)), .ref m4, .ref m5, .int (nI np), .ref m6, .ref m7, .ref m8, .ref m9, .ref m10, .int (nI ai)])), (m1, .inl (cI, 64, .inl (nF T))), (m2, .inl (cI, 64, .inl (nF U))), (m3, .inl (cZ, 64, .inl (nF B))), (m4, .inl (cI, 64, .inl (nF Wm))), (m5, .inl (cI, 64, .inl (nF M))), (m6, .inl (cI, 64, .inl (nF F))), (m7, .inl (cI, 64, .inl (nF L))), (m8, .inl (cI, 64, .inl (nF Z))), (m9, .inl (cI, 64, .inl (nF Om))), (m10, .inl (cI, 64, .inl (nF Nm)))] → va_S A s.heap H locs → lv_has ls 5 [(0, .ref m0), (1, .int (nI 0)), (2, .int (nI n0)), (3, .int (nI i))] → W pr l e ({ frames := 2, cells := 0, slots := 0, locals := 49 } : Room) s m args below meth c0 H locs 0 0 Q (F0 m 16 ls []) := by
        intro n
        induction n with
        | zero => intro i n0 h0; exact absurd h0 (Nat.not_lt_zero _)
        | succ n ih16 =>
          intro i n0 hm16 hi hn H locs ls hP hD hS hl
          refine lv_iload_n hx hb dX5_count_16 rfl (lv_at hl 3 rfl) ?_
          refine lv_bipush (v := nI 64) hx hb dX5_count_17 (by decide) ?_
          refine nv_icmp_ge (tgt := 156) hx hb dX5_count_19 (by decide) (by omega) (by omega) (fun c_2 => ?_) (fun c_2 => ?_)
          · skip
            refine lv_iload_n hx hb dX5_count_156 rfl (lv_at hl 2 rfl) ?_
            exact hret _ () _ _ _ _ dX5_count_157 (by unfold aCount; rw [if_pos rfl, hn, show i = 64 by omega]) hP hD hS
          · skip
            refine lv_iload_n hx hb dX5_count_22 rfl (lv_at hl 1 rfl) ?_
            refine nv_if_ne (tgt := 43) hx hb dX5_count_23 (by decide) (by omega) (fun c_3 => ?_) (fun c_3 => ?_)
            · skip
              exact absurd c_3 (by decide)
            · skip
              refine lv_aload_n hx hb dX5_count_26 rfl (lv_at hl 0 rfl) ?_
              refine va_get (D := D) (ci := 5) (v := .ref m1) (C := RX5) (T := TX5) (N := 16) hx hb hts hinX5 hown hK hP 0 rfl rfl 0 (by decide) lk1 (fun _ h9 => h9) rfl dX5_count_27 ?_
              refine lv_iload_n hx hb dX5_count_30 rfl (lv_at hl 3 rfl) ?_
              refine nv_iald hx hb hK hP 1 rfl (by omega) (by decide) dX5_count_31 ?_
              have bd_4 := hT i
              refine nv_if_le (tgt := 39) hx hb dX5_count_32 (by decide) (by omega) (fun c_5 => ?_) (fun c_5 => ?_)
              · skip
                refine lv_iconst (v := nI 0) hx hb dX5_count_39 (by decide) ?_
                refine lv_goto (tgt := 135) hx hb dX5_count_40 (by decide) ?_
                refine lv_istore (lv' := [(4, .int (nI 0)), (0, .ref m0), (1, .int (nI 0)), (2, .int (nI n0)), (3, .int (nI i))]) hx hb dX5_count_135 hl (by decide) rfl (fun ls hl => ?_)
                refine lv_iload_n hx hb dX5_count_137 rfl (lv_at hl 3 rfl) ?_
                refine lv_iload hx hb dX5_count_138 (lv_at hl 0 rfl) ?_
                refine nv_if_eq (tgt := 147) hx hb dX5_count_140 (by decide) (by omega) (fun c_6 => ?_) (fun c_6 => ?_)
                · skip
                  refine lv_iconst (v := nI 0) hx hb dX5_count_147 (by decide) ?_
                  refine nv_iadd hx hb dX5_count_148 ?_
                  refine lv_istore_n (lv' := [(2, .int (nI (n0 + 0))), (4, .int (nI 0)), (0, .ref m0), (1, .int (nI 0)), (3, .int (nI i))]) hx hb dX5_count_149 rfl hl (by decide) rfl (fun ls hl => ?_)
                  refine lv_iinc (v := nI (i + 1)) (lv' := [(3, .int (nI (i + 1))), (2, .int (nI (n0 + 0))), (4, .int (nI 0)), (0, .ref m0), (1, .int (nI 0))]) hx hb dX5_count_150 hl (k := 4) rfl (by exact nI_add _ 1) (by decide) rfl (fun ls hl => ?_)
                  refine lv_goto (tgt := 16) hx hb dX5_count_153 (by decide) ?_
                  exact ih16 (i + 1) (n0 + 0) (by omega) (by omega) (by rw [cb_no (pTn_no c_5), hn]; rfl) _ _ _ hP hD hS (lv_sub hl [3, 4, 1, 0] rfl)
                · skip
                  exact absurd c_6 (by decide)
              · skip
                refine lv_iconst (v := nI 1) hx hb dX5_count_35 (by decide) ?_
                refine lv_goto (tgt := 135) hx hb dX5_count_36 (by decide) ?_
                refine lv_istore (lv' := [(4, .int (nI 1)), (0, .ref m0), (1, .int (nI 0)), (2, .int (nI n0)), (3, .int (nI i))]) hx hb dX5_count_135 hl (by decide) rfl (fun ls hl => ?_)
                refine lv_iload_n hx hb dX5_count_137 rfl (lv_at hl 3 rfl) ?_
                refine lv_iload hx hb dX5_count_138 (lv_at hl 0 rfl) ?_
                refine nv_if_eq (tgt := 147) hx hb dX5_count_140 (by decide) (by omega) (fun c_7 => ?_) (fun c_7 => ?_)
                · skip
                  exact absurd c_7 (by decide)
                · skip
                  refine lv_iconst (v := nI 1) hx hb dX5_count_143 (by decide) ?_
                  refine lv_goto (tgt := 148) hx hb dX5_count_144 (by decide) ?_
                  refine nv_iadd hx hb dX5_count_148 ?_
                  refine lv_istore_n (lv' := [(2, .int (nI (n0 + 1))), (4, .int (nI 1)), (0, .ref m0), (1, .int (nI 0)), (3, .int (nI i))]) hx hb dX5_count_149 rfl hl (by decide) rfl (fun ls hl => ?_)
                  refine lv_iinc (v := nI (i + 1)) (lv' := [(3, .int (nI (i + 1))), (2, .int (nI (n0 + 1))), (4, .int (nI 1)), (0, .ref m0), (1, .int (nI 0))]) hx hb dX5_count_150 hl (k := 4) rfl (by exact nI_add _ 1) (by decide) rfl (fun ls hl => ?_)
                  refine lv_goto (tgt := 16) hx hb dX5_count_153 (by decide) ?_
                  exact ih16 (i + 1) (n0 + 1) (by omega) (by omega) (by rw [cb_yes (pTn_yes c_5), hn]) _ _ _ hP hD hS (lv_sub hl [3, 4, 1, 0] rfl)
      exact L16 (64 + 1) 0 0 (by omega) (by omega) rfl _ _ _ hP hD hS (lv_sub hl [2, 3, 1, 0] rfl)
    · skip
      refine lv_iconst (v := nI 0) hx hb dX5_count_14 (by decide) ?_
      refine lv_istore_n (lv' := [(3, .int (nI 0)), (2, .int (nI 0)), (0, .ref m0), (1, .int (nI 1))]) hx hb dX5_count_15 rfl hl (by decide) rfl (fun ls hl => ?_)
      have L16 : ∀ (n : Nat) (i : Nat) (n0 : Nat), 64 - i < n → (i ≤ 64) → (n0 = cb (pTn B) i) → ∀ (H : Heap) (locs : List Loc) (ls : Array Slot), va_P D vwCl [(m0, .inr (5, [.ref m1, .ref m2, .ref m3, .int (nI (G 0)), .int (nI (G 1)), .int (nI (G 2)), .int (nI (G 3)), .ref m4, .ref m5, .int (nI np), .ref m6, .ref m7, .ref m8, .ref m9, .ref m10, .int (nI ai)])), (m1, .inl (cI, 64, .inl (nF T))), (m2, .inl (cI, 64, .inl (nF U))), (m3, .inl (cZ, 64, .inl (nF B))), (m4, .inl (cI, 64, .inl (nF Wm))), (m5, .inl (cI, 64, .inl (nF M))), (m6, .inl (cI, 64, .inl (nF F))), (m7, .inl (cI, 64, .inl (nF L))), (m8, .inl (cI, 64, .inl (nF Z))), (m9, .inl (cI, 64, .inl (nF Om))), (m10, .inl (cI, 64, .inl (nF Nm)))] H → va_D A [(m0, .inr (5, [.ref m1, .ref m2, .ref m3, .int (nI (G 0)), .int (nI (G 1)), .int (nI (G 2)), .int (nI (G 3)), .ref m4, .ref m5, .int (nI np), .ref m6, .ref m7, .ref m8, .ref m9, .ref m10, .int (nI ai)])), (m1, .inl (cI, 64, .inl (nF T))), (m2, .inl (cI, 64, .inl (nF U))), (m3, .inl (cZ, 64, .inl (nF B))), (m4, .inl (cI, 64, .inl (nF Wm))), (m5, .inl (cI, 64, .inl (nF M))), (m6, .inl (cI, 64, .inl (nF F))), (m7, .inl (cI, 64, .inl (nF L))), (m8, .inl (cI, 64, .inl (nF Z))), (m9, .inl (cI, 64, .inl (nF Om))), (m10, .inl (cI, 64, .inl (nF Nm)))] → va_S A s.heap H locs → lv_has ls 5 [(0, .ref m0), (1, .int (nI 1)), (2, .int (nI n0)), (3, .int (nI i))] → W pr l e ({ frames := 2, cells := 0, slots := 0, locals := 49 } : Room) s m args below meth c0 H locs 0 0 Q (F0 m 16 ls []) := by
        intro n
        induction n with
        | zero => intro i n0 h0; exact absurd h0 (Nat.not_lt_zero _)
        | succ n ih16 =>
          intro i n0 hm16 hi hn H locs ls hP hD hS hl
          refine lv_iload_n hx hb dX5_count_16 rfl (lv_at hl 3 rfl) ?_
          refine lv_bipush (v := nI 64) hx hb dX5_count_17 (by decide) ?_
          refine nv_icmp_ge (tgt := 156) hx hb dX5_count_19 (by decide) (by omega) (by omega) (fun c_8 => ?_) (fun c_8 => ?_)
          · skip
            refine lv_iload_n hx hb dX5_count_156 rfl (lv_at hl 2 rfl) ?_
            exact hret _ () _ _ _ _ dX5_count_157 (by unfold aCount; rw [if_neg (by decide), if_pos rfl, hn, show i = 64 by omega]) hP hD hS
          · skip
            refine lv_iload_n hx hb dX5_count_22 rfl (lv_at hl 1 rfl) ?_
            refine nv_if_ne (tgt := 43) hx hb dX5_count_23 (by decide) (by omega) (fun c_9 => ?_) (fun c_9 => ?_)
            · skip
              refine lv_iload_n hx hb dX5_count_43 rfl (lv_at hl 1 rfl) ?_
              refine lv_iconst (v := nI 1) hx hb dX5_count_44 (by decide) ?_
              refine nv_icmp_ne (tgt := 57) hx hb dX5_count_45 (by decide) (by omega) (by omega) (fun c_10 => ?_) (fun c_10 => ?_)
              · skip
                exact absurd c_10 (by decide)
              · skip
                refine lv_aload_n hx hb dX5_count_48 rfl (lv_at hl 0 rfl) ?_
                refine va_get (D := D) (ci := 5) (v := .ref m3) (C := RX5) (T := TX5) (N := 16) hx hb hts hinX5 hown hK hP 0 rfl rfl 2 (by decide) lk2 (fun _ h9 => h9) rfl dX5_count_49 ?_
                refine lv_iload_n hx hb dX5_count_52 rfl (lv_at hl 3 rfl) ?_
                refine nv_zald hx hb hK hP 3 rfl (by omega) (by decide) dX5_count_53 ?_
                have bd_11 := hB i
                refine lv_goto (tgt := 135) hx hb dX5_count_54 (by decide) ?_
                refine lv_istore (lv' := [(4, .int (nI (B i))), (0, .ref m0), (1, .int (nI 1)), (2, .int (nI n0)), (3, .int (nI i))]) hx hb dX5_count_135 hl (by decide) rfl (fun ls hl => ?_)
                refine lv_iload_n hx hb dX5_count_137 rfl (lv_at hl 3 rfl) ?_
                refine lv_iload hx hb dX5_count_138 (lv_at hl 0 rfl) ?_
                refine nv_if_eq (tgt := 147) hx hb dX5_count_140 (by decide) (by omega) (fun c_12 => ?_) (fun c_12 => ?_)
                · skip
                  refine lv_iconst (v := nI 0) hx hb dX5_count_147 (by decide) ?_
                  refine nv_iadd hx hb dX5_count_148 ?_
                  refine lv_istore_n (lv' := [(2, .int (nI (n0 + 0))), (4, .int (nI (B i))), (0, .ref m0), (1, .int (nI 1)), (3, .int (nI i))]) hx hb dX5_count_149 rfl hl (by decide) rfl (fun ls hl => ?_)
                  refine lv_iinc (v := nI (i + 1)) (lv' := [(3, .int (nI (i + 1))), (2, .int (nI (n0 + 0))), (4, .int (nI (B i))), (0, .ref m0), (1, .int (nI 1))]) hx hb dX5_count_150 hl (k := 4) rfl (by exact nI_add _ 1) (by decide) rfl (fun ls hl => ?_)
                  refine lv_goto (tgt := 16) hx hb dX5_count_153 (by decide) ?_
                  exact ih16 (i + 1) (n0 + 0) (by omega) (by omega) (by rw [cb_no (pTn_no c_12), hn]; rfl) _ _ _ hP hD hS (lv_sub hl [3, 4, 1, 0] rfl)
                · skip
                  refine lv_iconst (v := nI 1) hx hb dX5_count_143 (by decide) ?_
                  refine lv_goto (tgt := 148) hx hb dX5_count_144 (by decide) ?_
                  refine nv_iadd hx hb dX5_count_148 ?_
                  refine lv_istore_n (lv' := [(2, .int (nI (n0 + 1))), (4, .int (nI (B i))), (0, .ref m0), (1, .int (nI 1)), (3, .int (nI i))]) hx hb dX5_count_149 rfl hl (by decide) rfl (fun ls hl => ?_)
                  refine lv_iinc (v := nI (i + 1)) (lv' := [(3, .int (nI (i + 1))), (2, .int (nI (n0 + 1))), (4, .int (nI (B i))), (0, .ref m0), (1, .int (nI 1))]) hx hb dX5_count_150 hl (k := 4) rfl (by exact nI_add _ 1) (by decide) rfl (fun ls hl => ?_)
                  refine lv_goto (tgt := 16) hx hb dX5_count_153 (by decide) ?_
                  exact ih16 (i + 1) (n0 + 1) (by omega) (by omega) (by rw [cb_yes (pTn_yes c_12), hn]) _ _ _ hP hD hS (lv_sub hl [3, 4, 1, 0] rfl)
            · skip
              exact absurd c_9 (by decide)
      exact L16 (64 + 1) 0 0 (by omega) (by omega) rfl _ _ _ hP hD hS (lv_sub hl [2, 3, 1, 0] rfl)
    · skip
      refine lv_iconst (v := nI 0) hx hb dX5_count_14 (by decide) ?_
      refine lv_istore_n (lv' := [(3, .int (nI 0)), (2, .int (nI 0)), (0, .ref m0), (1, .int (nI 2))]) hx hb dX5_count_15 rfl hl (by decide) rfl (fun ls hl => ?_)
      have L16 : ∀ (n : Nat) (i : Nat) (n0 : Nat), 64 - i < n → (i ≤ 64) → (n0 = cb (pSt G T 0) i) → ∀ (H : Heap) (locs : List Loc) (ls : Array Slot), va_P D vwCl [(m0, .inr (5, [.ref m1, .ref m2, .ref m3, .int (nI (G 0)), .int (nI (G 1)), .int (nI (G 2)), .int (nI (G 3)), .ref m4, .ref m5, .int (nI np), .ref m6, .ref m7, .ref m8, .ref m9, .ref m10, .int (nI ai)])), (m1, .inl (cI, 64, .inl (nF T))), (m2, .inl (cI, 64, .inl (nF U))), (m3, .inl (cZ, 64, .inl (nF B))), (m4, .inl (cI, 64, .inl (nF Wm))), (m5, .inl (cI, 64, .inl (nF M))), (m6, .inl (cI, 64, .inl (nF F))), (m7, .inl (cI, 64, .inl (nF L))), (m8, .inl (cI, 64, .inl (nF Z))), (m9, .inl (cI, 64, .inl (nF Om))), (m10, .inl (cI, 64, .inl (nF Nm)))] H → va_D A [(m0, .inr (5, [.ref m1, .ref m2, .ref m3, .int (nI (G 0)), .int (nI (G 1)), .int (nI (G 2)), .int (nI (G 3)), .ref m4, .ref m5, .int (nI np), .ref m6, .ref m7, .ref m8, .ref m9, .ref m10, .int (nI ai)])), (m1, .inl (cI, 64, .inl (nF T))), (m2, .inl (cI, 64, .inl (nF U))), (m3, .inl (cZ, 64, .inl (nF B))), (m4, .inl (cI, 64, .inl (nF Wm))), (m5, .inl (cI, 64, .inl (nF M))), (m6, .inl (cI, 64, .inl (nF F))), (m7, .inl (cI, 64, .inl (nF L))), (m8, .inl (cI, 64, .inl (nF Z))), (m9, .inl (cI, 64, .inl (nF Om))), (m10, .inl (cI, 64, .inl (nF Nm)))] → va_S A s.heap H locs → lv_has ls 5 [(0, .ref m0), (1, .int (nI 2)), (2, .int (nI n0)), (3, .int (nI i))] → W pr l e ({ frames := 2, cells := 0, slots := 0, locals := 49 } : Room) s m args below meth c0 H locs 0 0 Q (F0 m 16 ls []) := by
        intro n
        induction n with
        | zero => intro i n0 h0; exact absurd h0 (Nat.not_lt_zero _)
        | succ n ih16 =>
          intro i n0 hm16 hi hn H locs ls hP hD hS hl
          refine lv_iload_n hx hb dX5_count_16 rfl (lv_at hl 3 rfl) ?_
          refine lv_bipush (v := nI 64) hx hb dX5_count_17 (by decide) ?_
          refine nv_icmp_ge (tgt := 156) hx hb dX5_count_19 (by decide) (by omega) (by omega) (fun c_13 => ?_) (fun c_13 => ?_)
          · skip
            refine lv_iload_n hx hb dX5_count_156 rfl (lv_at hl 2 rfl) ?_
            exact hret _ () _ _ _ _ dX5_count_157 (by unfold aCount; rw [if_neg (by decide), if_neg (by decide), if_pos rfl, hn, show i = 64 by omega]) hP hD hS
          · skip
            refine lv_iload_n hx hb dX5_count_22 rfl (lv_at hl 1 rfl) ?_
            refine nv_if_ne (tgt := 43) hx hb dX5_count_23 (by decide) (by omega) (fun c_14 => ?_) (fun c_14 => ?_)
            · skip
              refine lv_iload_n hx hb dX5_count_43 rfl (lv_at hl 1 rfl) ?_
              refine lv_iconst (v := nI 1) hx hb dX5_count_44 (by decide) ?_
              refine nv_icmp_ne (tgt := 57) hx hb dX5_count_45 (by decide) (by omega) (by omega) (fun c_15 => ?_) (fun c_15 => ?_)
              · skip
                refine lv_iload_n hx hb dX5_count_57 rfl (lv_at hl 1 rfl) ?_
                refine lv_iconst (v := nI 4) hx hb dX5_count_58 (by decide) ?_
                refine nv_icmp_ge (tgt := 81) hx hb dX5_count_59 (by decide) (by omega) (by omega) (fun c_16 => ?_) (fun c_16 => ?_)
                · skip
                  exact absurd c_16 (by decide)
                · skip
                  refine lv_aload_n hx hb dX5_count_62 rfl (lv_at hl 0 rfl) ?_
                  refine lv_iload_n hx hb dX5_count_63 rfl (lv_at hl 3 rfl) ?_
                  refine lv_iload_n hx hb dX5_count_64 rfl (lv_at hl 1 rfl) ?_
                  refine lv_iconst (v := nI 2) hx hb dX5_count_65 (by decide) ?_
                  refine nv_isub hx hb dX5_count_66 (by omega) ?_
                  refine gcVi (ws' := fun _ => [(m0, .inr (5, [.ref m1, .ref m2, .ref m3, .int (nI (G 0)), .int (nI (G 1)), .int (nI (G 2)), .int (nI (G 3)), .ref m4, .ref m5, .int (nI np), .ref m6, .ref m7, .ref m8, .ref m9, .ref m10, .int (nI ai)])), (m1, .inl (cI, 64, .inl (nF T))), (m2, .inl (cI, 64, .inl (nF U))), (m3, .inl (cZ, 64, .inl (nF B))), (m4, .inl (cI, 64, .inl (nF Wm))), (m5, .inl (cI, 64, .inl (nF M))), (m6, .inl (cI, 64, .inl (nF F))), (m7, .inl (cI, 64, .inl (nF L))), (m8, .inl (cI, 64, .inl (nF Z))), (m9, .inl (cI, 64, .inl (nF Om))), (m10, .inl (cI, 64, .inl (nF Nm)))]) (wr := []) (ci := 5) (q0 := 0) (As := [.int (nI i), .int (nI (2 - 2))]) (rest := []) ⟨hx, hb, hml, hown, hts⟩ (c_X5_wantedOf l D cI cZ tt H.size m0 m1 m2 m3 m4 m5 m6 m7 m8 m9 m10 np ai T U B G Wm M F L Z Om Nm i (2 - 2) (by first | assumption | omega) (by first | assumption | omega) (by first | assumption | omega) (by first | assumption | omega)) (cwV 2 hts gX5_count_X5_wantedOf rfl rfl rfl (by decide +kernel) ⟨Nat.le_of_ble_eq_true rfl, Nat.le_of_ble_eq_true rfl⟩) hP hK hD hS hA hG rfl rfl [0, 1, 2, 3, 4, 5, 6, 7, 8, 9, 10] [] [0, 1, 2, 3, 4, 5, 6, 7, 8, 9, 10] (by decide) rfl rfl (by decide) (by decide) (by decide) (fun _ => rfl) hl.1 rfl rfl (Nat.le_of_ble_eq_true rfl) ⟨Nat.zero_le _, Nat.zero_le _⟩ dX5_count_67 (fun r u H locs hp hP hD hS => ?_)
                  obtain rfl := hp
                  have hP : va_P D vwCl [(m0, .inr (5, [.ref m1, .ref m2, .ref m3, .int (nI (G 0)), .int (nI (G 1)), .int (nI (G 2)), .int (nI (G 3)), .ref m4, .ref m5, .int (nI np), .ref m6, .ref m7, .ref m8, .ref m9, .ref m10, .int (nI ai)])), (m1, .inl (cI, 64, .inl (nF T))), (m2, .inl (cI, 64, .inl (nF U))), (m3, .inl (cZ, 64, .inl (nF B))), (m4, .inl (cI, 64, .inl (nF Wm))), (m5, .inl (cI, 64, .inl (nF M))), (m6, .inl (cI, 64, .inl (nF F))), (m7, .inl (cI, 64, .inl (nF L))), (m8, .inl (cI, 64, .inl (nF Z))), (m9, .inl (cI, 64, .inl (nF Om))), (m10, .inl (cI, 64, .inl (nF Nm)))] H := hP
                  have hD : va_D A [(m0, .inr (5, [.ref m1, .ref m2, .ref m3, .int (nI (G 0)), .int (nI (G 1)), .int (nI (G 2)), .int (nI (G 3)), .ref m4, .ref m5, .int (nI np), .ref m6, .ref m7, .ref m8, .ref m9, .ref m10, .int (nI ai)])), (m1, .inl (cI, 64, .inl (nF T))), (m2, .inl (cI, 64, .inl (nF U))), (m3, .inl (cZ, 64, .inl (nF B))), (m4, .inl (cI, 64, .inl (nF Wm))), (m5, .inl (cI, 64, .inl (nF M))), (m6, .inl (cI, 64, .inl (nF F))), (m7, .inl (cI, 64, .inl (nF L))), (m8, .inl (cI, 64, .inl (nF Z))), (m9, .inl (cI, 64, .inl (nF Om))), (m10, .inl (cI, 64, .inl (nF Nm)))] := hD
                  have hwb := wd_le (G := G) (t := T i) (ly := 2 - 2) hGs (hT i)
                  refine nv_if_le (tgt := 77) hx hb dX5_count_70 (by decide) (by omega) (fun c_17 => ?_) (fun c_17 => ?_)
                  · skip
                    refine lv_iconst (v := nI 0) hx hb dX5_count_77 (by decide) ?_
                    refine lv_goto (tgt := 135) hx hb dX5_count_78 (by decide) ?_
                    refine lv_istore (lv' := [(4, .int (nI 0)), (0, .ref m0), (1, .int (nI 2)), (2, .int (nI n0)), (3, .int (nI i))]) hx hb dX5_count_135 hl (by decide) rfl (fun ls hl => ?_)
                    refine lv_iload_n hx hb dX5_count_137 rfl (lv_at hl 3 rfl) ?_
                    refine lv_iload hx hb dX5_count_138 (lv_at hl 0 rfl) ?_
                    refine nv_if_eq (tgt := 147) hx hb dX5_count_140 (by decide) (by omega) (fun c_18 => ?_) (fun c_18 => ?_)
                    · skip
                      refine lv_iconst (v := nI 0) hx hb dX5_count_147 (by decide) ?_
                      refine nv_iadd hx hb dX5_count_148 ?_
                      refine lv_istore_n (lv' := [(2, .int (nI (n0 + 0))), (4, .int (nI 0)), (0, .ref m0), (1, .int (nI 2)), (3, .int (nI i))]) hx hb dX5_count_149 rfl hl (by decide) rfl (fun ls hl => ?_)
                      refine lv_iinc (v := nI (i + 1)) (lv' := [(3, .int (nI (i + 1))), (2, .int (nI (n0 + 0))), (4, .int (nI 0)), (0, .ref m0), (1, .int (nI 2))]) hx hb dX5_count_150 hl (k := 4) rfl (by exact nI_add _ 1) (by decide) rfl (fun ls hl => ?_)
                      refine lv_goto (tgt := 16) hx hb dX5_count_153 (by decide) ?_
                      exact ih16 (i + 1) (n0 + 0) (by omega) (by omega) (by rw [cb_no (pSt_no (G := G) (T := T) (ly := 0) c_17), hn]; rfl) _ _ _ hP hD hS (lv_sub hl [3, 4, 1, 0] rfl)
                    · skip
                      exact absurd c_18 (by decide)
                  · skip
                    refine lv_iconst (v := nI 1) hx hb dX5_count_73 (by decide) ?_
                    refine lv_goto (tgt := 135) hx hb dX5_count_74 (by decide) ?_
                    refine lv_istore (lv' := [(4, .int (nI 1)), (0, .ref m0), (1, .int (nI 2)), (2, .int (nI n0)), (3, .int (nI i))]) hx hb dX5_count_135 hl (by decide) rfl (fun ls hl => ?_)
                    refine lv_iload_n hx hb dX5_count_137 rfl (lv_at hl 3 rfl) ?_
                    refine lv_iload hx hb dX5_count_138 (lv_at hl 0 rfl) ?_
                    refine nv_if_eq (tgt := 147) hx hb dX5_count_140 (by decide) (by omega) (fun c_19 => ?_) (fun c_19 => ?_)
                    · skip
                      exact absurd c_19 (by decide)
                    · skip
                      refine lv_iconst (v := nI 1) hx hb dX5_count_143 (by decide) ?_
                      refine lv_goto (tgt := 148) hx hb dX5_count_144 (by decide) ?_
                      refine nv_iadd hx hb dX5_count_148 ?_
                      refine lv_istore_n (lv' := [(2, .int (nI (n0 + 1))), (4, .int (nI 1)), (0, .ref m0), (1, .int (nI 2)), (3, .int (nI i))]) hx hb dX5_count_149 rfl hl (by decide) rfl (fun ls hl => ?_)
                      refine lv_iinc (v := nI (i + 1)) (lv' := [(3, .int (nI (i + 1))), (2, .int (nI (n0 + 1))), (4, .int (nI 1)), (0, .ref m0), (1, .int (nI 2))]) hx hb dX5_count_150 hl (k := 4) rfl (by exact nI_add _ 1) (by decide) rfl (fun ls hl => ?_)
                      refine lv_goto (tgt := 16) hx hb dX5_count_153 (by decide) ?_
                      exact ih16 (i + 1) (n0 + 1) (by omega) (by omega) (by rw [cb_yes (pSt_yes (G := G) (T := T) (ly := 0) c_17), hn]) _ _ _ hP hD hS (lv_sub hl [3, 4, 1, 0] rfl)
              · skip
                exact absurd c_15 (by decide)
            · skip
              exact absurd c_14 (by decide)
      exact L16 (64 + 1) 0 0 (by omega) (by omega) rfl _ _ _ hP hD hS (lv_sub hl [2, 3, 1, 0] rfl)
    · skip
      refine lv_iconst (v := nI 0) hx hb dX5_count_14 (by decide) ?_
      refine lv_istore_n (lv' := [(3, .int (nI 0)), (2, .int (nI 0)), (0, .ref m0), (1, .int (nI 3))]) hx hb dX5_count_15 rfl hl (by decide) rfl (fun ls hl => ?_)
      have L16 : ∀ (n : Nat) (i : Nat) (n0 : Nat), 64 - i < n → (i ≤ 64) → (n0 = cb (pSt G T 1) i) → ∀ (H : Heap) (locs : List Loc) (ls : Array Slot), va_P D vwCl [(m0, .inr (5, [.ref m1, .ref m2, .ref m3, .int (nI (G 0)), .int (nI (G 1)), .int (nI (G 2)), .int (nI (G 3)), .ref m4, .ref m5, .int (nI np), .ref m6, .ref m7, .ref m8, .ref m9, .ref m10, .int (nI ai)])), (m1, .inl (cI, 64, .inl (nF T))), (m2, .inl (cI, 64, .inl (nF U))), (m3, .inl (cZ, 64, .inl (nF B))), (m4, .inl (cI, 64, .inl (nF Wm))), (m5, .inl (cI, 64, .inl (nF M))), (m6, .inl (cI, 64, .inl (nF F))), (m7, .inl (cI, 64, .inl (nF L))), (m8, .inl (cI, 64, .inl (nF Z))), (m9, .inl (cI, 64, .inl (nF Om))), (m10, .inl (cI, 64, .inl (nF Nm)))] H → va_D A [(m0, .inr (5, [.ref m1, .ref m2, .ref m3, .int (nI (G 0)), .int (nI (G 1)), .int (nI (G 2)), .int (nI (G 3)), .ref m4, .ref m5, .int (nI np), .ref m6, .ref m7, .ref m8, .ref m9, .ref m10, .int (nI ai)])), (m1, .inl (cI, 64, .inl (nF T))), (m2, .inl (cI, 64, .inl (nF U))), (m3, .inl (cZ, 64, .inl (nF B))), (m4, .inl (cI, 64, .inl (nF Wm))), (m5, .inl (cI, 64, .inl (nF M))), (m6, .inl (cI, 64, .inl (nF F))), (m7, .inl (cI, 64, .inl (nF L))), (m8, .inl (cI, 64, .inl (nF Z))), (m9, .inl (cI, 64, .inl (nF Om))), (m10, .inl (cI, 64, .inl (nF Nm)))] → va_S A s.heap H locs → lv_has ls 5 [(0, .ref m0), (1, .int (nI 3)), (2, .int (nI n0)), (3, .int (nI i))] → W pr l e ({ frames := 2, cells := 0, slots := 0, locals := 49 } : Room) s m args below meth c0 H locs 0 0 Q (F0 m 16 ls []) := by
        intro n
        induction n with
        | zero => intro i n0 h0; exact absurd h0 (Nat.not_lt_zero _)
        | succ n ih16 =>
          intro i n0 hm16 hi hn H locs ls hP hD hS hl
          refine lv_iload_n hx hb dX5_count_16 rfl (lv_at hl 3 rfl) ?_
          refine lv_bipush (v := nI 64) hx hb dX5_count_17 (by decide) ?_
          refine nv_icmp_ge (tgt := 156) hx hb dX5_count_19 (by decide) (by omega) (by omega) (fun c_20 => ?_) (fun c_20 => ?_)
          · skip
            refine lv_iload_n hx hb dX5_count_156 rfl (lv_at hl 2 rfl) ?_
            exact hret _ () _ _ _ _ dX5_count_157 (by unfold aCount; rw [if_neg (by decide), if_neg (by decide), if_neg (by decide), if_pos rfl, hn, show i = 64 by omega]) hP hD hS
          · skip
            refine lv_iload_n hx hb dX5_count_22 rfl (lv_at hl 1 rfl) ?_
            refine nv_if_ne (tgt := 43) hx hb dX5_count_23 (by decide) (by omega) (fun c_21 => ?_) (fun c_21 => ?_)
            · skip
              refine lv_iload_n hx hb dX5_count_43 rfl (lv_at hl 1 rfl) ?_
              refine lv_iconst (v := nI 1) hx hb dX5_count_44 (by decide) ?_
              refine nv_icmp_ne (tgt := 57) hx hb dX5_count_45 (by decide) (by omega) (by omega) (fun c_22 => ?_) (fun c_22 => ?_)
              · skip
                refine lv_iload_n hx hb dX5_count_57 rfl (lv_at hl 1 rfl) ?_
                refine lv_iconst (v := nI 4) hx hb dX5_count_58 (by decide) ?_
                refine nv_icmp_ge (tgt := 81) hx hb dX5_count_59 (by decide) (by omega) (by omega) (fun c_23 => ?_) (fun c_23 => ?_)
                · skip
                  exact absurd c_23 (by decide)
                · skip
                  refine lv_aload_n hx hb dX5_count_62 rfl (lv_at hl 0 rfl) ?_
                  refine lv_iload_n hx hb dX5_count_63 rfl (lv_at hl 3 rfl) ?_
                  refine lv_iload_n hx hb dX5_count_64 rfl (lv_at hl 1 rfl) ?_
                  refine lv_iconst (v := nI 2) hx hb dX5_count_65 (by decide) ?_
                  refine nv_isub hx hb dX5_count_66 (by omega) ?_
                  refine gcVi (ws' := fun _ => [(m0, .inr (5, [.ref m1, .ref m2, .ref m3, .int (nI (G 0)), .int (nI (G 1)), .int (nI (G 2)), .int (nI (G 3)), .ref m4, .ref m5, .int (nI np), .ref m6, .ref m7, .ref m8, .ref m9, .ref m10, .int (nI ai)])), (m1, .inl (cI, 64, .inl (nF T))), (m2, .inl (cI, 64, .inl (nF U))), (m3, .inl (cZ, 64, .inl (nF B))), (m4, .inl (cI, 64, .inl (nF Wm))), (m5, .inl (cI, 64, .inl (nF M))), (m6, .inl (cI, 64, .inl (nF F))), (m7, .inl (cI, 64, .inl (nF L))), (m8, .inl (cI, 64, .inl (nF Z))), (m9, .inl (cI, 64, .inl (nF Om))), (m10, .inl (cI, 64, .inl (nF Nm)))]) (wr := []) (ci := 5) (q0 := 0) (As := [.int (nI i), .int (nI (3 - 2))]) (rest := []) ⟨hx, hb, hml, hown, hts⟩ (c_X5_wantedOf l D cI cZ tt H.size m0 m1 m2 m3 m4 m5 m6 m7 m8 m9 m10 np ai T U B G Wm M F L Z Om Nm i (3 - 2) (by first | assumption | omega) (by first | assumption | omega) (by first | assumption | omega) (by first | assumption | omega)) (cwV 2 hts gX5_count_X5_wantedOf rfl rfl rfl (by decide +kernel) ⟨Nat.le_of_ble_eq_true rfl, Nat.le_of_ble_eq_true rfl⟩) hP hK hD hS hA hG rfl rfl [0, 1, 2, 3, 4, 5, 6, 7, 8, 9, 10] [] [0, 1, 2, 3, 4, 5, 6, 7, 8, 9, 10] (by decide) rfl rfl (by decide) (by decide) (by decide) (fun _ => rfl) hl.1 rfl rfl (Nat.le_of_ble_eq_true rfl) ⟨Nat.zero_le _, Nat.zero_le _⟩ dX5_count_67 (fun r u H locs hp hP hD hS => ?_)
                  obtain rfl := hp
                  have hP : va_P D vwCl [(m0, .inr (5, [.ref m1, .ref m2, .ref m3, .int (nI (G 0)), .int (nI (G 1)), .int (nI (G 2)), .int (nI (G 3)), .ref m4, .ref m5, .int (nI np), .ref m6, .ref m7, .ref m8, .ref m9, .ref m10, .int (nI ai)])), (m1, .inl (cI, 64, .inl (nF T))), (m2, .inl (cI, 64, .inl (nF U))), (m3, .inl (cZ, 64, .inl (nF B))), (m4, .inl (cI, 64, .inl (nF Wm))), (m5, .inl (cI, 64, .inl (nF M))), (m6, .inl (cI, 64, .inl (nF F))), (m7, .inl (cI, 64, .inl (nF L))), (m8, .inl (cI, 64, .inl (nF Z))), (m9, .inl (cI, 64, .inl (nF Om))), (m10, .inl (cI, 64, .inl (nF Nm)))] H := hP
                  have hD : va_D A [(m0, .inr (5, [.ref m1, .ref m2, .ref m3, .int (nI (G 0)), .int (nI (G 1)), .int (nI (G 2)), .int (nI (G 3)), .ref m4, .ref m5, .int (nI np), .ref m6, .ref m7, .ref m8, .ref m9, .ref m10, .int (nI ai)])), (m1, .inl (cI, 64, .inl (nF T))), (m2, .inl (cI, 64, .inl (nF U))), (m3, .inl (cZ, 64, .inl (nF B))), (m4, .inl (cI, 64, .inl (nF Wm))), (m5, .inl (cI, 64, .inl (nF M))), (m6, .inl (cI, 64, .inl (nF F))), (m7, .inl (cI, 64, .inl (nF L))), (m8, .inl (cI, 64, .inl (nF Z))), (m9, .inl (cI, 64, .inl (nF Om))), (m10, .inl (cI, 64, .inl (nF Nm)))] := hD
                  have hwb := wd_le (G := G) (t := T i) (ly := 3 - 2) hGs (hT i)
                  refine nv_if_le (tgt := 77) hx hb dX5_count_70 (by decide) (by omega) (fun c_24 => ?_) (fun c_24 => ?_)
                  · skip
                    refine lv_iconst (v := nI 0) hx hb dX5_count_77 (by decide) ?_
                    refine lv_goto (tgt := 135) hx hb dX5_count_78 (by decide) ?_
                    refine lv_istore (lv' := [(4, .int (nI 0)), (0, .ref m0), (1, .int (nI 3)), (2, .int (nI n0)), (3, .int (nI i))]) hx hb dX5_count_135 hl (by decide) rfl (fun ls hl => ?_)
                    refine lv_iload_n hx hb dX5_count_137 rfl (lv_at hl 3 rfl) ?_
                    refine lv_iload hx hb dX5_count_138 (lv_at hl 0 rfl) ?_
                    refine nv_if_eq (tgt := 147) hx hb dX5_count_140 (by decide) (by omega) (fun c_25 => ?_) (fun c_25 => ?_)
                    · skip
                      refine lv_iconst (v := nI 0) hx hb dX5_count_147 (by decide) ?_
                      refine nv_iadd hx hb dX5_count_148 ?_
                      refine lv_istore_n (lv' := [(2, .int (nI (n0 + 0))), (4, .int (nI 0)), (0, .ref m0), (1, .int (nI 3)), (3, .int (nI i))]) hx hb dX5_count_149 rfl hl (by decide) rfl (fun ls hl => ?_)
                      refine lv_iinc (v := nI (i + 1)) (lv' := [(3, .int (nI (i + 1))), (2, .int (nI (n0 + 0))), (4, .int (nI 0)), (0, .ref m0), (1, .int (nI 3))]) hx hb dX5_count_150 hl (k := 4) rfl (by exact nI_add _ 1) (by decide) rfl (fun ls hl => ?_)
                      refine lv_goto (tgt := 16) hx hb dX5_count_153 (by decide) ?_
                      exact ih16 (i + 1) (n0 + 0) (by omega) (by omega) (by rw [cb_no (pSt_no (G := G) (T := T) (ly := 1) c_24), hn]; rfl) _ _ _ hP hD hS (lv_sub hl [3, 4, 1, 0] rfl)
                    · skip
                      exact absurd c_25 (by decide)
                  · skip
                    refine lv_iconst (v := nI 1) hx hb dX5_count_73 (by decide) ?_
                    refine lv_goto (tgt := 135) hx hb dX5_count_74 (by decide) ?_
                    refine lv_istore (lv' := [(4, .int (nI 1)), (0, .ref m0), (1, .int (nI 3)), (2, .int (nI n0)), (3, .int (nI i))]) hx hb dX5_count_135 hl (by decide) rfl (fun ls hl => ?_)
                    refine lv_iload_n hx hb dX5_count_137 rfl (lv_at hl 3 rfl) ?_
                    refine lv_iload hx hb dX5_count_138 (lv_at hl 0 rfl) ?_
                    refine nv_if_eq (tgt := 147) hx hb dX5_count_140 (by decide) (by omega) (fun c_26 => ?_) (fun c_26 => ?_)
                    · skip
                      exact absurd c_26 (by decide)
                    · skip
                      refine lv_iconst (v := nI 1) hx hb dX5_count_143 (by decide) ?_
                      refine lv_goto (tgt := 148) hx hb dX5_count_144 (by decide) ?_
                      refine nv_iadd hx hb dX5_count_148 ?_
                      refine lv_istore_n (lv' := [(2, .int (nI (n0 + 1))), (4, .int (nI 1)), (0, .ref m0), (1, .int (nI 3)), (3, .int (nI i))]) hx hb dX5_count_149 rfl hl (by decide) rfl (fun ls hl => ?_)
                      refine lv_iinc (v := nI (i + 1)) (lv' := [(3, .int (nI (i + 1))), (2, .int (nI (n0 + 1))), (4, .int (nI 1)), (0, .ref m0), (1, .int (nI 3))]) hx hb dX5_count_150 hl (k := 4) rfl (by exact nI_add _ 1) (by decide) rfl (fun ls hl => ?_)
                      refine lv_goto (tgt := 16) hx hb dX5_count_153 (by decide) ?_
                      exact ih16 (i + 1) (n0 + 1) (by omega) (by omega) (by rw [cb_yes (pSt_yes (G := G) (T := T) (ly := 1) c_24), hn]) _ _ _ hP hD hS (lv_sub hl [3, 4, 1, 0] rfl)
              · skip
                exact absurd c_22 (by decide)
            · skip
              exact absurd c_21 (by decide)
      exact L16 (64 + 1) 0 0 (by omega) (by omega) rfl _ _ _ hP hD hS (lv_sub hl [2, 3, 1, 0] rfl)
    · skip
      refine lv_iconst (v := nI 0) hx hb dX5_count_14 (by decide) ?_
      refine lv_istore_n (lv' := [(3, .int (nI 0)), (2, .int (nI 0)), (0, .ref m0), (1, .int (nI 4))]) hx hb dX5_count_15 rfl hl (by decide) rfl (fun ls hl => ?_)
      have L16 : ∀ (n : Nat) (i : Nat) (n0 : Nat), 64 - i < n → (i ≤ 64) → (n0 = cb (pKn U) i) → ∀ (H : Heap) (locs : List Loc) (ls : Array Slot), va_P D vwCl [(m0, .inr (5, [.ref m1, .ref m2, .ref m3, .int (nI (G 0)), .int (nI (G 1)), .int (nI (G 2)), .int (nI (G 3)), .ref m4, .ref m5, .int (nI np), .ref m6, .ref m7, .ref m8, .ref m9, .ref m10, .int (nI ai)])), (m1, .inl (cI, 64, .inl (nF T))), (m2, .inl (cI, 64, .inl (nF U))), (m3, .inl (cZ, 64, .inl (nF B))), (m4, .inl (cI, 64, .inl (nF Wm))), (m5, .inl (cI, 64, .inl (nF M))), (m6, .inl (cI, 64, .inl (nF F))), (m7, .inl (cI, 64, .inl (nF L))), (m8, .inl (cI, 64, .inl (nF Z))), (m9, .inl (cI, 64, .inl (nF Om))), (m10, .inl (cI, 64, .inl (nF Nm)))] H → va_D A [(m0, .inr (5, [.ref m1, .ref m2, .ref m3, .int (nI (G 0)), .int (nI (G 1)), .int (nI (G 2)), .int (nI (G 3)), .ref m4, .ref m5, .int (nI np), .ref m6, .ref m7, .ref m8, .ref m9, .ref m10, .int (nI ai)])), (m1, .inl (cI, 64, .inl (nF T))), (m2, .inl (cI, 64, .inl (nF U))), (m3, .inl (cZ, 64, .inl (nF B))), (m4, .inl (cI, 64, .inl (nF Wm))), (m5, .inl (cI, 64, .inl (nF M))), (m6, .inl (cI, 64, .inl (nF F))), (m7, .inl (cI, 64, .inl (nF L))), (m8, .inl (cI, 64, .inl (nF Z))), (m9, .inl (cI, 64, .inl (nF Om))), (m10, .inl (cI, 64, .inl (nF Nm)))] → va_S A s.heap H locs → lv_has ls 5 [(0, .ref m0), (1, .int (nI 4)), (2, .int (nI n0)), (3, .int (nI i))] → W pr l e ({ frames := 2, cells := 0, slots := 0, locals := 49 } : Room) s m args below meth c0 H locs 0 0 Q (F0 m 16 ls []) := by
        intro n
        induction n with
        | zero => intro i n0 h0; exact absurd h0 (Nat.not_lt_zero _)
        | succ n ih16 =>
          intro i n0 hm16 hi hn H locs ls hP hD hS hl
          refine lv_iload_n hx hb dX5_count_16 rfl (lv_at hl 3 rfl) ?_
          refine lv_bipush (v := nI 64) hx hb dX5_count_17 (by decide) ?_
          refine nv_icmp_ge (tgt := 156) hx hb dX5_count_19 (by decide) (by omega) (by omega) (fun c_27 => ?_) (fun c_27 => ?_)
          · skip
            refine lv_iload_n hx hb dX5_count_156 rfl (lv_at hl 2 rfl) ?_
            exact hret _ () _ _ _ _ dX5_count_157 (by unfold aCount; rw [if_neg (by decide), if_neg (by decide), if_neg (by decide), if_neg (by decide), if_pos rfl, hn, show i = 64 by omega]) hP hD hS
          · skip
            refine lv_iload_n hx hb dX5_count_22 rfl (lv_at hl 1 rfl) ?_
            refine nv_if_ne (tgt := 43) hx hb dX5_count_23 (by decide) (by omega) (fun c_28 => ?_) (fun c_28 => ?_)
            · skip
              refine lv_iload_n hx hb dX5_count_43 rfl (lv_at hl 1 rfl) ?_
              refine lv_iconst (v := nI 1) hx hb dX5_count_44 (by decide) ?_
              refine nv_icmp_ne (tgt := 57) hx hb dX5_count_45 (by decide) (by omega) (by omega) (fun c_29 => ?_) (fun c_29 => ?_)
              · skip
                refine lv_iload_n hx hb dX5_count_57 rfl (lv_at hl 1 rfl) ?_
                refine lv_iconst (v := nI 4) hx hb dX5_count_58 (by decide) ?_
                refine nv_icmp_ge (tgt := 81) hx hb dX5_count_59 (by decide) (by omega) (by omega) (fun c_30 => ?_) (fun c_30 => ?_)
                · skip
                  have hcc : 8 * (i / 8) + i % 8 = i := by omega
                  refine lv_iload_n hx hb dX5_count_81 rfl (lv_at hl 3 rfl) ?_
                  refine lv_bipush (v := nI 8) hx hb dX5_count_82 (by decide) ?_
                  refine nv_irem hx hb dX5_count_84 (by omega) (by omega) (by omega) ?_
                  refine lv_bipush (v := nI 7) hx hb dX5_count_85 (by decide) ?_
                  refine nv_icmp_ge (tgt := 134) hx hb dX5_count_87 (by decide) (by omega) (by omega) (fun c_31 => ?_) (fun c_31 => ?_)
                  · skip
                    refine lv_iconst (v := nI 0) hx hb dX5_count_134 (by decide) ?_
                    refine lv_istore (lv' := [(4, .int (nI 0)), (0, .ref m0), (1, .int (nI 4)), (2, .int (nI n0)), (3, .int (nI i))]) hx hb dX5_count_135 hl (by decide) rfl (fun ls hl => ?_)
                    refine lv_iload_n hx hb dX5_count_137 rfl (lv_at hl 3 rfl) ?_
                    refine lv_iload hx hb dX5_count_138 (lv_at hl 0 rfl) ?_
                    refine nv_if_eq (tgt := 147) hx hb dX5_count_140 (by decide) (by omega) (fun c_32 => ?_) (fun c_32 => ?_)
                    · skip
                      refine lv_iconst (v := nI 0) hx hb dX5_count_147 (by decide) ?_
                      refine nv_iadd hx hb dX5_count_148 ?_
                      refine lv_istore_n (lv' := [(2, .int (nI (n0 + 0))), (4, .int (nI 0)), (0, .ref m0), (1, .int (nI 4)), (3, .int (nI i))]) hx hb dX5_count_149 rfl hl (by decide) rfl (fun ls hl => ?_)
                      refine lv_iinc (v := nI (i + 1)) (lv' := [(3, .int (nI (i + 1))), (2, .int (nI (n0 + 0))), (4, .int (nI 0)), (0, .ref m0), (1, .int (nI 4))]) hx hb dX5_count_150 hl (k := 4) rfl (by exact nI_add _ 1) (by decide) rfl (fun ls hl => ?_)
                      refine lv_goto (tgt := 16) hx hb dX5_count_153 (by decide) ?_
                      exact ih16 (i + 1) (n0 + 0) (by omega) (by omega) (by rw [cb_no (pKn_no (fun q => by have := q.1; have := q.2.1; omega)), hn]; rfl) _ _ _ hP hD hS (lv_sub hl [3, 4, 1, 0] rfl)
                    · skip
                      exact absurd c_32 (by decide)
                  · skip
                    refine lv_iload_n hx hb dX5_count_90 rfl (lv_at hl 3 rfl) ?_
                    refine lv_bipush (v := nI 8) hx hb dX5_count_91 (by decide) ?_
                    refine nv_idiv hx hb dX5_count_93 (by omega) (by omega) (by omega) ?_
                    refine lv_bipush (v := nI 7) hx hb dX5_count_94 (by decide) ?_
                    refine nv_icmp_ge (tgt := 134) hx hb dX5_count_96 (by decide) (by omega) (by omega) (fun c_33 => ?_) (fun c_33 => ?_)
                    · skip
                      refine lv_iconst (v := nI 0) hx hb dX5_count_134 (by decide) ?_
                      refine lv_istore (lv' := [(4, .int (nI 0)), (0, .ref m0), (1, .int (nI 4)), (2, .int (nI n0)), (3, .int (nI i))]) hx hb dX5_count_135 hl (by decide) rfl (fun ls hl => ?_)
                      refine lv_iload_n hx hb dX5_count_137 rfl (lv_at hl 3 rfl) ?_
                      refine lv_iload hx hb dX5_count_138 (lv_at hl 0 rfl) ?_
                      refine nv_if_eq (tgt := 147) hx hb dX5_count_140 (by decide) (by omega) (fun c_34 => ?_) (fun c_34 => ?_)
                      · skip
                        refine lv_iconst (v := nI 0) hx hb dX5_count_147 (by decide) ?_
                        refine nv_iadd hx hb dX5_count_148 ?_
                        refine lv_istore_n (lv' := [(2, .int (nI (n0 + 0))), (4, .int (nI 0)), (0, .ref m0), (1, .int (nI 4)), (3, .int (nI i))]) hx hb dX5_count_149 rfl hl (by decide) rfl (fun ls hl => ?_)
                        refine lv_iinc (v := nI (i + 1)) (lv' := [(3, .int (nI (i + 1))), (2, .int (nI (n0 + 0))), (4, .int (nI 0)), (0, .ref m0), (1, .int (nI 4))]) hx hb dX5_count_150 hl (k := 4) rfl (by exact nI_add _ 1) (by decide) rfl (fun ls hl => ?_)
                        refine lv_goto (tgt := 16) hx hb dX5_count_153 (by decide) ?_
                        exact ih16 (i + 1) (n0 + 0) (by omega) (by omega) (by rw [cb_no (pKn_no (fun q => by have := q.1; have := q.2.1; omega)), hn]; rfl) _ _ _ hP hD hS (lv_sub hl [3, 4, 1, 0] rfl)
                      · skip
                        exact absurd c_34 (by decide)
                    · skip
                      refine lv_aload_n hx hb dX5_count_99 rfl (lv_at hl 0 rfl) ?_
                      refine lv_iload_n hx hb dX5_count_100 rfl (lv_at hl 3 rfl) ?_
                      refine lv_bipush (v := nI 8) hx hb dX5_count_101 (by decide) ?_
                      refine nv_irem hx hb dX5_count_103 (by omega) (by omega) (by omega) ?_
                      refine lv_iload_n hx hb dX5_count_104 rfl (lv_at hl 3 rfl) ?_
                      refine lv_bipush (v := nI 8) hx hb dX5_count_105 (by decide) ?_
                      refine nv_idiv hx hb dX5_count_107 (by omega) (by omega) (by omega) ?_
                      refine gcVi (ws' := fun _ => [(m0, .inr (5, [.ref m1, .ref m2, .ref m3, .int (nI (G 0)), .int (nI (G 1)), .int (nI (G 2)), .int (nI (G 3)), .ref m4, .ref m5, .int (nI np), .ref m6, .ref m7, .ref m8, .ref m9, .ref m10, .int (nI ai)])), (m1, .inl (cI, 64, .inl (nF T))), (m2, .inl (cI, 64, .inl (nF U))), (m3, .inl (cZ, 64, .inl (nF B))), (m4, .inl (cI, 64, .inl (nF Wm))), (m5, .inl (cI, 64, .inl (nF M))), (m6, .inl (cI, 64, .inl (nF F))), (m7, .inl (cI, 64, .inl (nF L))), (m8, .inl (cI, 64, .inl (nF Z))), (m9, .inl (cI, 64, .inl (nF Om))), (m10, .inl (cI, 64, .inl (nF Nm)))]) (wr := []) (ci := 5) (q0 := 0) (As := [.int (nI (i % 8)), .int (nI (i / 8))]) (rest := []) ⟨hx, hb, hml, hown, hts⟩ (c_X5_knotOf l D cI cZ tt H.size m0 m1 m2 m3 m4 m5 m6 m7 m8 m9 m10 np ai T U B G Wm M F L Z Om Nm (i % 8) (i / 8) (by first | assumption | omega) (by first | assumption | omega) (by first | assumption | omega)) (cwV 2 hts gX5_count_X5_knotOf rfl rfl rfl (by decide +kernel) ⟨Nat.le_of_ble_eq_true rfl, Nat.le_of_ble_eq_true rfl⟩) hP hK hD hS hA hG rfl rfl [0, 1, 2, 3, 4, 5, 6, 7, 8, 9, 10] [] [0, 1, 2, 3, 4, 5, 6, 7, 8, 9, 10] (by decide) rfl rfl (by decide) (by decide) (by decide) (fun _ => rfl) hl.1 rfl rfl (Nat.le_of_ble_eq_true rfl) ⟨Nat.zero_le _, Nat.zero_le _⟩ dX5_count_108 (fun r u H locs hp hP hD hS => ?_)
                      obtain rfl := hp
                      have hP : va_P D vwCl [(m0, .inr (5, [.ref m1, .ref m2, .ref m3, .int (nI (G 0)), .int (nI (G 1)), .int (nI (G 2)), .int (nI (G 3)), .ref m4, .ref m5, .int (nI np), .ref m6, .ref m7, .ref m8, .ref m9, .ref m10, .int (nI ai)])), (m1, .inl (cI, 64, .inl (nF T))), (m2, .inl (cI, 64, .inl (nF U))), (m3, .inl (cZ, 64, .inl (nF B))), (m4, .inl (cI, 64, .inl (nF Wm))), (m5, .inl (cI, 64, .inl (nF M))), (m6, .inl (cI, 64, .inl (nF F))), (m7, .inl (cI, 64, .inl (nF L))), (m8, .inl (cI, 64, .inl (nF Z))), (m9, .inl (cI, 64, .inl (nF Om))), (m10, .inl (cI, 64, .inl (nF Nm)))] H := hP
                      have hD : va_D A [(m0, .inr (5, [.ref m1, .ref m2, .ref m3, .int (nI (G 0)), .int (nI (G 1)), .int (nI (G 2)), .int (nI (G 3)), .ref m4, .ref m5, .int (nI np), .ref m6, .ref m7, .ref m8, .ref m9, .ref m10, .int (nI ai)])), (m1, .inl (cI, 64, .inl (nF T))), (m2, .inl (cI, 64, .inl (nF U))), (m3, .inl (cZ, 64, .inl (nF B))), (m4, .inl (cI, 64, .inl (nF Wm))), (m5, .inl (cI, 64, .inl (nF M))), (m6, .inl (cI, 64, .inl (nF F))), (m7, .inl (cI, 64, .inl (nF L))), (m8, .inl (cI, 64, .inl (nF Z))), (m9, .inl (cI, 64, .inl (nF Om))), (m10, .inl (cI, 64, .inl (nF Nm)))] := hD
                      refine lv_if_eq (tgt := 134) hx hb dX5_count_111 (by decide) (fun c_35 => ?_) (fun c_35 => ?_)
                      · skip
                        refine lv_iconst (v := nI 0) hx hb dX5_count_134 (by decide) ?_
                        refine lv_istore (lv' := [(4, .int (nI 0)), (0, .ref m0), (1, .int (nI 4)), (2, .int (nI n0)), (3, .int (nI i))]) hx hb dX5_count_135 hl (by decide) rfl (fun ls hl => ?_)
                        refine lv_iload_n hx hb dX5_count_137 rfl (lv_at hl 3 rfl) ?_
                        refine lv_iload hx hb dX5_count_138 (lv_at hl 0 rfl) ?_
                        refine nv_if_eq (tgt := 147) hx hb dX5_count_140 (by decide) (by omega) (fun c_36 => ?_) (fun c_36 => ?_)
                        · skip
                          refine lv_iconst (v := nI 0) hx hb dX5_count_147 (by decide) ?_
                          refine nv_iadd hx hb dX5_count_148 ?_
                          refine lv_istore_n (lv' := [(2, .int (nI (n0 + 0))), (4, .int (nI 0)), (0, .ref m0), (1, .int (nI 4)), (3, .int (nI i))]) hx hb dX5_count_149 rfl hl (by decide) rfl (fun ls hl => ?_)
                          refine lv_iinc (v := nI (i + 1)) (lv' := [(3, .int (nI (i + 1))), (2, .int (nI (n0 + 0))), (4, .int (nI 0)), (0, .ref m0), (1, .int (nI 4))]) hx hb dX5_count_150 hl (k := 4) rfl (by exact nI_add _ 1) (by decide) rfl (fun ls hl => ?_)
                          refine lv_goto (tgt := 16) hx hb dX5_count_153 (by decide) ?_
                          exact ih16 (i + 1) (n0 + 0) (by omega) (by omega) (by rw [cb_no (pKn_no (fun q => q.2.2.1 (by rw [← hcc]; exact c_35))), hn]; rfl) _ _ _ hP hD hS (lv_sub hl [3, 4, 1, 0] rfl)
                        · skip
                          exact absurd c_36 (by decide)
                      · skip
                        refine lv_aload_n hx hb dX5_count_114 rfl (lv_at hl 0 rfl) ?_
                        refine lv_iload_n hx hb dX5_count_115 rfl (lv_at hl 3 rfl) ?_
                        refine lv_bipush (v := nI 8) hx hb dX5_count_116 (by decide) ?_
                        refine nv_irem hx hb dX5_count_118 (by omega) (by omega) (by omega) ?_
                        refine lv_iload_n hx hb dX5_count_119 rfl (lv_at hl 3 rfl) ?_
                        refine lv_bipush (v := nI 8) hx hb dX5_count_120 (by decide) ?_
                        refine nv_idiv hx hb dX5_count_122 (by omega) (by omega) (by omega) ?_
                        refine gcVi (ws' := fun _ => [(m0, .inr (5, [.ref m1, .ref m2, .ref m3, .int (nI (G 0)), .int (nI (G 1)), .int (nI (G 2)), .int (nI (G 3)), .ref m4, .ref m5, .int (nI np), .ref m6, .ref m7, .ref m8, .ref m9, .ref m10, .int (nI ai)])), (m1, .inl (cI, 64, .inl (nF T))), (m2, .inl (cI, 64, .inl (nF U))), (m3, .inl (cZ, 64, .inl (nF B))), (m4, .inl (cI, 64, .inl (nF Wm))), (m5, .inl (cI, 64, .inl (nF M))), (m6, .inl (cI, 64, .inl (nF F))), (m7, .inl (cI, 64, .inl (nF L))), (m8, .inl (cI, 64, .inl (nF Z))), (m9, .inl (cI, 64, .inl (nF Om))), (m10, .inl (cI, 64, .inl (nF Nm)))]) (wr := []) (ci := 5) (q0 := 0) (As := [.int (nI (i % 8)), .int (nI (i / 8))]) (rest := []) ⟨hx, hb, hml, hown, hts⟩ (c_X5_knotOf l D cI cZ tt H.size m0 m1 m2 m3 m4 m5 m6 m7 m8 m9 m10 np ai T U B G Wm M F L Z Om Nm (i % 8) (i / 8) (by first | assumption | omega) (by first | assumption | omega) (by first | assumption | omega)) (cwV 2 hts gX5_count_X5_knotOf rfl rfl rfl (by decide +kernel) ⟨Nat.le_of_ble_eq_true rfl, Nat.le_of_ble_eq_true rfl⟩) hP hK hD hS hA hG rfl rfl [0, 1, 2, 3, 4, 5, 6, 7, 8, 9, 10] [] [0, 1, 2, 3, 4, 5, 6, 7, 8, 9, 10] (by decide) rfl rfl (by decide) (by decide) (by decide) (fun _ => rfl) hl.1 rfl rfl (Nat.le_of_ble_eq_true rfl) ⟨Nat.zero_le _, Nat.zero_le _⟩ dX5_count_123 (fun r u H locs hp hP hD hS => ?_)
                        obtain rfl := hp
                        have hP : va_P D vwCl [(m0, .inr (5, [.ref m1, .ref m2, .ref m3, .int (nI (G 0)), .int (nI (G 1)), .int (nI (G 2)), .int (nI (G 3)), .ref m4, .ref m5, .int (nI np), .ref m6, .ref m7, .ref m8, .ref m9, .ref m10, .int (nI ai)])), (m1, .inl (cI, 64, .inl (nF T))), (m2, .inl (cI, 64, .inl (nF U))), (m3, .inl (cZ, 64, .inl (nF B))), (m4, .inl (cI, 64, .inl (nF Wm))), (m5, .inl (cI, 64, .inl (nF M))), (m6, .inl (cI, 64, .inl (nF F))), (m7, .inl (cI, 64, .inl (nF L))), (m8, .inl (cI, 64, .inl (nF Z))), (m9, .inl (cI, 64, .inl (nF Om))), (m10, .inl (cI, 64, .inl (nF Nm)))] H := hP
                        have hD : va_D A [(m0, .inr (5, [.ref m1, .ref m2, .ref m3, .int (nI (G 0)), .int (nI (G 1)), .int (nI (G 2)), .int (nI (G 3)), .ref m4, .ref m5, .int (nI np), .ref m6, .ref m7, .ref m8, .ref m9, .ref m10, .int (nI ai)])), (m1, .inl (cI, 64, .inl (nF T))), (m2, .inl (cI, 64, .inl (nF U))), (m3, .inl (cZ, 64, .inl (nF B))), (m4, .inl (cI, 64, .inl (nF Wm))), (m5, .inl (cI, 64, .inl (nF M))), (m6, .inl (cI, 64, .inl (nF F))), (m7, .inl (cI, 64, .inl (nF L))), (m8, .inl (cI, 64, .inl (nF Z))), (m9, .inl (cI, 64, .inl (nF Om))), (m10, .inl (cI, 64, .inl (nF Nm)))] := hD
                        refine lv_iconst (v := nI 2) hx hb dX5_count_126 (by decide) ?_
                        refine lv_icmp_eq (tgt := 134) hx hb dX5_count_127 (by decide) (fun c_37 => ?_) (fun c_37 => ?_)
                        · skip
                          refine lv_iconst (v := nI 0) hx hb dX5_count_134 (by decide) ?_
                          refine lv_istore (lv' := [(4, .int (nI 0)), (0, .ref m0), (1, .int (nI 4)), (2, .int (nI n0)), (3, .int (nI i))]) hx hb dX5_count_135 hl (by decide) rfl (fun ls hl => ?_)
                          refine lv_iload_n hx hb dX5_count_137 rfl (lv_at hl 3 rfl) ?_
                          refine lv_iload hx hb dX5_count_138 (lv_at hl 0 rfl) ?_
                          refine nv_if_eq (tgt := 147) hx hb dX5_count_140 (by decide) (by omega) (fun c_38 => ?_) (fun c_38 => ?_)
                          · skip
                            refine lv_iconst (v := nI 0) hx hb dX5_count_147 (by decide) ?_
                            refine nv_iadd hx hb dX5_count_148 ?_
                            refine lv_istore_n (lv' := [(2, .int (nI (n0 + 0))), (4, .int (nI 0)), (0, .ref m0), (1, .int (nI 4)), (3, .int (nI i))]) hx hb dX5_count_149 rfl hl (by decide) rfl (fun ls hl => ?_)
                            refine lv_iinc (v := nI (i + 1)) (lv' := [(3, .int (nI (i + 1))), (2, .int (nI (n0 + 0))), (4, .int (nI 0)), (0, .ref m0), (1, .int (nI 4))]) hx hb dX5_count_150 hl (k := 4) rfl (by exact nI_add _ 1) (by decide) rfl (fun ls hl => ?_)
                            refine lv_goto (tgt := 16) hx hb dX5_count_153 (by decide) ?_
                            exact ih16 (i + 1) (n0 + 0) (by omega) (by omega) (by rw [cb_no (pKn_no (fun q => q.2.2.2 (by rw [← hcc]; exact c_37))), hn]; rfl) _ _ _ hP hD hS (lv_sub hl [3, 4, 1, 0] rfl)
                          · skip
                            exact absurd c_38 (by decide)
                        · skip
                          refine lv_iconst (v := nI 1) hx hb dX5_count_130 (by decide) ?_
                          refine lv_goto (tgt := 135) hx hb dX5_count_131 (by decide) ?_
                          refine lv_istore (lv' := [(4, .int (nI 1)), (0, .ref m0), (1, .int (nI 4)), (2, .int (nI n0)), (3, .int (nI i))]) hx hb dX5_count_135 hl (by decide) rfl (fun ls hl => ?_)
                          refine lv_iload_n hx hb dX5_count_137 rfl (lv_at hl 3 rfl) ?_
                          refine lv_iload hx hb dX5_count_138 (lv_at hl 0 rfl) ?_
                          refine nv_if_eq (tgt := 147) hx hb dX5_count_140 (by decide) (by omega) (fun c_39 => ?_) (fun c_39 => ?_)
                          · skip
                            exact absurd c_39 (by decide)
                          · skip
                            refine lv_iconst (v := nI 1) hx hb dX5_count_143 (by decide) ?_
                            refine lv_goto (tgt := 148) hx hb dX5_count_144 (by decide) ?_
                            refine nv_iadd hx hb dX5_count_148 ?_
                            refine lv_istore_n (lv' := [(2, .int (nI (n0 + 1))), (4, .int (nI 1)), (0, .ref m0), (1, .int (nI 4)), (3, .int (nI i))]) hx hb dX5_count_149 rfl hl (by decide) rfl (fun ls hl => ?_)
                            refine lv_iinc (v := nI (i + 1)) (lv' := [(3, .int (nI (i + 1))), (2, .int (nI (n0 + 1))), (4, .int (nI 1)), (0, .ref m0), (1, .int (nI 4))]) hx hb dX5_count_150 hl (k := 4) rfl (by exact nI_add _ 1) (by decide) rfl (fun ls hl => ?_)
                            refine lv_goto (tgt := 16) hx hb dX5_count_153 (by decide) ?_
                            exact ih16 (i + 1) (n0 + 1) (by omega) (by omega) (by rw [cb_yes (pKn_yes (by omega) (by omega) (by rw [← hcc]; exact c_35) (by rw [← hcc]; exact c_37)), hn]) _ _ _ hP hD hS (lv_sub hl [3, 4, 1, 0] rfl)
                · skip
                  exact absurd c_30 (by decide)
              · skip
                exact absurd c_29 (by decide)
            · skip
              exact absurd c_28 (by decide)
      exact L16 (64 + 1) 0 0 (by omega) (by omega) rfl _ _ _ hP hD hS (lv_sub hl [2, 3, 1, 0] rfl)
  · skip
    refine lv_bipush (v := (-3)) hx hb dX5_count_11 (by decide) ?_
    have now : ∀ k : Nat, k ≤ 4 → ¬ w = nI k := fun k hk q => c_1 (by rw [q]; exact (inr_iff (by decide) (by decide)).mpr (by rw [nI_T (by omega)]; omega))
    exact hret _ () _ _ _ _ dX5_count_13 (by unfold aCount; rw [if_neg (now 0 (by omega)), if_neg (now 1 (by omega)), if_neg (now 2 (by omega)), if_neg (now 3 (by omega)), if_neg (now 4 (by omega))]) hP hD hS
