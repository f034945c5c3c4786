section
-- ===== PART A: goes FIRST, ahead of the names: the tables' words, and 'selects' of the private methods out of them =====
/-- a private method of a class that the tables say can be made, by its rows of tables_1 -/
def lw_okq (q : MethodName × Nat) : Prop := (q.1.cls ≠ "java/lang/invoke/MethodHandle" ∧ q.1.cls ≠ "java/lang/invoke/VarHandle") ∧ Cond.instantiable q.1.cls q.2 ∈ tables_1 ∧ Cond.privateMethod q.1 ∈ tables_1 ∧ Cond.instanceMethod q.1 ∈ tables_1
theorem lw_p0 : lw_okq (⟨"BurinLines$Plate", "goThrough", "()Z"⟩, 3) := ⟨⟨by decide +kernel, by decide +kernel⟩, List.mem_of_getElem? (i := 17) (by decide +kernel), List.mem_of_getElem? (i := 167) (by decide +kernel), List.mem_of_getElem? (i := 168) (by decide +kernel)⟩
theorem lw_p1 : lw_okq (⟨"BurinLines$Plate", "calmestTurn", "(I)I"⟩, 3) := ⟨⟨by decide +kernel, by decide +kernel⟩, List.mem_of_getElem? (i := 17) (by decide +kernel), List.mem_of_getElem? (i := 171) (by decide +kernel), List.mem_of_getElem? (i := 172) (by decide +kernel)⟩
theorem lw_p2 : lw_okq (⟨"BurinLines$Plate", "strain", "(II)I"⟩, 3) := ⟨⟨by decide +kernel, by decide +kernel⟩, List.mem_of_getElem? (i := 17) (by decide +kernel), List.mem_of_getElem? (i := 175) (by decide +kernel), List.mem_of_getElem? (i := 176) (by decide +kernel)⟩
theorem lw_p3 : lw_okq (⟨"BurinLines$Plate", "strainAgainst", "(III)I"⟩, 3) := ⟨⟨by decide +kernel, by decide +kernel⟩, List.mem_of_getElem? (i := 17) (by decide +kernel), List.mem_of_getElem? (i := 179) (by decide +kernel), List.mem_of_getElem? (i := 180) (by decide +kernel)⟩
theorem lw_p4 : lw_okq (⟨"BurinLines", "drawnLayer", "(I)LBurinLines$Layer;"⟩, 5) := ⟨⟨by decide +kernel, by decide +kernel⟩, List.mem_of_getElem? (i := 9) (by decide +kernel), List.mem_of_getElem? (i := 238) (by decide +kernel), List.mem_of_getElem? (i := 239) (by decide +kernel)⟩
theorem lw_p5 : lw_okq (⟨"BurinLines$Layer", "wayFor", "(I)I"⟩, 9) := ⟨⟨by decide +kernel, by decide +kernel⟩, List.mem_of_getElem? (i := 50) (by decide +kernel), List.mem_of_getElem? (i := 247) (by decide +kernel), List.mem_of_getElem? (i := 248) (by decide +kernel)⟩
theorem lw_p6 : lw_okq (⟨"BurinLines$Layer", "tiedTo", "(II)I"⟩, 9) := ⟨⟨by decide +kernel, by decide +kernel⟩, List.mem_of_getElem? (i := 50) (by decide +kernel), List.mem_of_getElem? (i := 252) (by decide +kernel), List.mem_of_getElem? (i := 253) (by decide +kernel)⟩
theorem lw_p7 : lw_okq (⟨"BurinLines$Layer", "addPath", "(II)V"⟩, 9) := ⟨⟨by decide +kernel, by decide +kernel⟩, List.mem_of_getElem? (i := 50) (by decide +kernel), List.mem_of_getElem? (i := 266) (by decide +kernel), List.mem_of_getElem? (i := 267) (by decide +kernel)⟩
theorem lw_p8 : lw_okq (⟨"BurinLines$Layer", "limitSwell", "(III)I"⟩, 9) := ⟨⟨by decide +kernel, by decide +kernel⟩, List.mem_of_getElem? (i := 50) (by decide +kernel), List.mem_of_getElem? (i := 270) (by decide +kernel), List.mem_of_getElem? (i := 271) (by decide +kernel)⟩
theorem lw_p9 : lw_okq (⟨"BurinLines$Layer", "greatestWidthFrom", "(I)I"⟩, 9) := ⟨⟨by decide +kernel, by decide +kernel⟩, List.mem_of_getElem? (i := 50) (by decide +kernel), List.mem_of_getElem? (i := 284) (by decide +kernel), List.mem_of_getElem? (i := 285) (by decide +kernel)⟩
theorem lw_p10 : lw_okq (⟨"BurinLines", "drawBothLayers", "()V"⟩, 5) := ⟨⟨by decide +kernel, by decide +kernel⟩, List.mem_of_getElem? (i := 9) (by decide +kernel), List.mem_of_getElem? (i := 293) (by decide +kernel), List.mem_of_getElem? (i := 294) (by decide +kernel)⟩
theorem lw_p11 : lw_okq (⟨"BurinLines", "toneMade", "(I)I"⟩, 5) := ⟨⟨by decide +kernel, by decide +kernel⟩, List.mem_of_getElem? (i := 9) (by decide +kernel), List.mem_of_getElem? (i := 297) (by decide +kernel), List.mem_of_getElem? (i := 298) (by decide +kernel)⟩
theorem lw_p12 : lw_okq (⟨"BurinLines$Cutting", "nearestPath", "(LBurinLines$Layer;I)I"⟩, 5) := ⟨⟨by decide +kernel, by decide +kernel⟩, List.mem_of_getElem? (i := 93) (by decide +kernel), List.mem_of_getElem? (i := 326) (by decide +kernel), List.mem_of_getElem? (i := 327) (by decide +kernel)⟩
theorem lw_p13 : lw_okq (⟨"BurinLines$Cutting", "cutPath", "(LBurinLines$Layer;II)I"⟩, 5) := ⟨⟨by decide +kernel, by decide +kernel⟩, List.mem_of_getElem? (i := 93) (by decide +kernel), List.mem_of_getElem? (i := 332) (by decide +kernel), List.mem_of_getElem? (i := 333) (by decide +kernel)⟩
theorem lw_p14 : lw_okq (⟨"BurinLines", "countStrokes", "(I)I"⟩, 5) := ⟨⟨by decide +kernel, by decide +kernel⟩, List.mem_of_getElem? (i := 9) (by decide +kernel), List.mem_of_getElem? (i := 360) (by decide +kernel), List.mem_of_getElem? (i := 361) (by decide +kernel)⟩
theorem lw_p15 : lw_okq (⟨"BurinLinesModel", "goThrough", "()Z"⟩, 16) := ⟨⟨by decide +kernel, by decide +kernel⟩, List.mem_of_getElem? (i := 369) (by decide +kernel), List.mem_of_getElem? (i := 450) (by decide +kernel), List.mem_of_getElem? (i := 451) (by decide +kernel)⟩
def lw_privs_1 : List (MethodName × Nat) := [(⟨"BurinLines$Plate", "goThrough", "()Z"⟩, 3), (⟨"BurinLines$Plate", "calmestTurn", "(I)I"⟩, 3), (⟨"BurinLines$Plate", "strain", "(II)I"⟩, 3), (⟨"BurinLines$Plate", "strainAgainst", "(III)I"⟩, 3), (⟨"BurinLines", "drawnLayer", "(I)LBurinLines$Layer;"⟩, 5), (⟨"BurinLines$Layer", "wayFor", "(I)I"⟩, 9), (⟨"BurinLines$Layer", "tiedTo", "(II)I"⟩, 9), (⟨"BurinLines$Layer", "addPath", "(II)V"⟩, 9), (⟨"BurinLines$Layer", "limitSwell", "(III)I"⟩, 9), (⟨"BurinLines$Layer", "greatestWidthFrom", "(I)I"⟩, 9), (⟨"BurinLines", "drawBothLayers", "()V"⟩, 5), (⟨"BurinLines", "toneMade", "(I)I"⟩, 5), (⟨"BurinLines$Cutting", "nearestPath", "(LBurinLines$Layer;I)I"⟩, 5), (⟨"BurinLines$Cutting", "cutPath", "(LBurinLines$Layer;II)I"⟩, 5), (⟨"BurinLines", "countStrokes", "(I)I"⟩, 5), (⟨"BurinLinesModel", "goThrough", "()Z"⟩, 16)]
theorem lw_r1 : ∀ q ∈ lw_privs_1, lw_okq q := List.forall_mem_cons.mpr ⟨lw_p0, List.forall_mem_cons.mpr ⟨lw_p1, List.forall_mem_cons.mpr ⟨lw_p2, List.forall_mem_cons.mpr ⟨lw_p3, List.forall_mem_cons.mpr ⟨lw_p4, List.forall_mem_cons.mpr ⟨lw_p5, List.forall_mem_cons.mpr ⟨lw_p6, List.forall_mem_cons.mpr ⟨lw_p7, List.forall_mem_cons.mpr ⟨lw_p8, List.forall_mem_cons.mpr ⟨lw_p9, List.forall_mem_cons.mpr ⟨lw_p10, List.forall_mem_cons.mpr ⟨lw_p11, List.forall_mem_cons.mpr ⟨lw_p12, List.forall_mem_cons.mpr ⟨lw_p13, List.forall_mem_cons.mpr ⟨lw_p14, List.forall_mem_cons.mpr ⟨lw_p15, fun _ h => absurd h List.not_mem_nil⟩⟩⟩⟩⟩⟩⟩⟩⟩⟩⟩⟩⟩⟩⟩⟩
theorem lw_p16 : lw_okq (⟨"BurinLinesModel", "offOf", "(III)I"⟩, 16) := ⟨⟨by decide +kernel, by decide +kernel⟩, List.mem_of_getElem? (i := 369) (by decide +kernel), List.mem_of_getElem? (i := 454) (by decide +kernel), List.mem_of_getElem? (i := 455) (by decide +kernel)⟩
theorem lw_p17 : lw_okq (⟨"BurinLinesModel", "off", "(III)I"⟩, 16) := ⟨⟨by decide +kernel, by decide +kernel⟩, List.mem_of_getElem? (i := 369) (by decide +kernel), List.mem_of_getElem? (i := 458) (by decide +kernel), List.mem_of_getElem? (i := 459) (by decide +kernel)⟩
theorem lw_p18 : lw_okq (⟨"BurinLinesModel", "knotOf", "(II)I"⟩, 16) := ⟨⟨by decide +kernel, by decide +kernel⟩, List.mem_of_getElem? (i := 369) (by decide +kernel), List.mem_of_getElem? (i := 476) (by decide +kernel), List.mem_of_getElem? (i := 477) (by decide +kernel)⟩
theorem lw_p19 : lw_okq (⟨"BurinLinesModel", "wantedOf", "(II)I"⟩, 16) := ⟨⟨by decide +kernel, by decide +kernel⟩, List.mem_of_getElem? (i := 369) (by decide +kernel), List.mem_of_getElem? (i := 494) (by decide +kernel), List.mem_of_getElem? (i := 495) (by decide +kernel)⟩
theorem lw_p20 : lw_okq (⟨"BurinLinesModel", "findLayer", "(I)V"⟩, 16) := ⟨⟨by decide +kernel, by decide +kernel⟩, List.mem_of_getElem? (i := 369) (by decide +kernel), List.mem_of_getElem? (i := 505) (by decide +kernel), List.mem_of_getElem? (i := 506) (by decide +kernel)⟩
theorem lw_p21 : lw_okq (⟨"BurinLinesModel", "tied", "(III)I"⟩, 16) := ⟨⟨by decide +kernel, by decide +kernel⟩, List.mem_of_getElem? (i := 369) (by decide +kernel), List.mem_of_getElem? (i := 509) (by decide +kernel), List.mem_of_getElem? (i := 510) (by decide +kernel)⟩
theorem lw_p22 : lw_okq (⟨"BurinLinesModel", "wayOf", "(II)I"⟩, 16) := ⟨⟨by decide +kernel, by decide +kernel⟩, List.mem_of_getElem? (i := 369) (by decide +kernel), List.mem_of_getElem? (i := 513) (by decide +kernel), List.mem_of_getElem? (i := 514) (by decide +kernel)⟩
theorem lw_p23 : lw_okq (⟨"BurinLinesModel", "findOrder", "(I)V"⟩, 16) := ⟨⟨by decide +kernel, by decide +kernel⟩, List.mem_of_getElem? (i := 369) (by decide +kernel), List.mem_of_getElem? (i := 537) (by decide +kernel), List.mem_of_getElem? (i := 538) (by decide +kernel)⟩
def lw_privs_2 : List (MethodName × Nat) := [(⟨"BurinLinesModel", "offOf", "(III)I"⟩, 16), (⟨"BurinLinesModel", "off", "(III)I"⟩, 16), (⟨"BurinLinesModel", "knotOf", "(II)I"⟩, 16), (⟨"BurinLinesModel", "wantedOf", "(II)I"⟩, 16), (⟨"BurinLinesModel", "findLayer", "(I)V"⟩, 16), (⟨"BurinLinesModel", "tied", "(III)I"⟩, 16), (⟨"BurinLinesModel", "wayOf", "(II)I"⟩, 16), (⟨"BurinLinesModel", "findOrder", "(I)V"⟩, 16)]
theorem lw_r2 : ∀ q ∈ lw_privs_2, lw_okq q := List.forall_mem_cons.mpr ⟨lw_p16, List.forall_mem_cons.mpr ⟨lw_p17, List.forall_mem_cons.mpr ⟨lw_p18, List.forall_mem_cons.mpr ⟨lw_p19, List.forall_mem_cons.mpr ⟨lw_p20, List.forall_mem_cons.mpr ⟨lw_p21, List.forall_mem_cons.mpr ⟨lw_p22, List.forall_mem_cons.mpr ⟨lw_p23, fun _ h => absurd h List.not_mem_nil⟩⟩⟩⟩⟩⟩⟩⟩
def lw_privs : List (MethodName × Nat) := lw_privs_1 ++ (lw_privs_2)
def lw_tbl : List Cond := k2_sels lw_privs ++ tables_1
theorem lw_privs_ok : ∀ q ∈ lw_privs, lw_okq q := by
  show ∀ q ∈ lw_privs_1 ++ (lw_privs_2), lw_okq q
  exact List.forall_mem_append.mpr ⟨lw_r1, lw_r2⟩
/-! ===== BEGIN words of one list among another's, by their places ===== -/
theorem goodIn_r {big : List Cond} (ws : List Cond) (ps : List Nat) (hp : ws = ps.filterMap (fun i => big[i]?)) (h : ws.all goodWord = true) : GoodIn big ws := by
  intro w hw
  have h1 := List.all_eq_true.mp h w hw
  rw [hp] at hw
  obtain ⟨i, -, hi⟩ := List.mem_filterMap.mp hw
  have hm : w ∈ big := by first | exact List.mem_of_getElem? hi | exact List.getElem?_mem hi
  exact ⟨hm, good_of_word h1⟩
theorem goodIn_app {big a b : List Cond} (ha : GoodIn big a) (hb : GoodIn big b) : GoodIn big (a ++ b) := fun w h => (List.mem_append.mp h).elim (ha w) (hb w)
theorem goodIn_ca {big a b : List Cond} {c : Cond} (ha : GoodIn big (c :: a)) (hb : GoodIn big b) : GoodIn big (c :: (a ++ b)) := fun w h => (List.mem_cons.mp h).elim (fun e => ha w (List.mem_cons.mpr (Or.inl e))) (fun h => (List.mem_append.mp h).elim (fun h => ha w (List.mem_cons.mpr (Or.inr h))) (hb w))
theorem goodIn_sub {big ws : List Cond} (hm : ∀ w ∈ ws, w ∈ big) (h : ws.all goodWord = true) : GoodIn big ws := fun w hw => ⟨hm w hw, good_of_word (List.all_eq_true.mp h w hw)⟩
/-! ===== END ===== -/

/-! ===== BEGIN printed: names, fields, word lists, decode rows ===== -/
def RX0 : String := "BurinLines$Cutting"
def TX0 : u_T := fun k => match k with
  | 0 => ("BurinLines$Cutting", "order", "[I", true)
  | 1 => ("BurinLines$Cutting", "begins", "[I", true)
  | 2 => ("BurinLines$Cutting", "done", "[Z", true)
  | 3 => ("BurinLines$Cutting", "planned", "I", false)
  | _ => ("BurinLines$Cutting", "wayInAir", "I", false)
def tyX0 : Nat → FieldType := fun k => match k with
  | 0 => .array .int
  | 1 => .array .int
  | 2 => .array .boolean
  | 3 => .int
  | _ => .int
abbrev wsX00 : List Cond := u_ws RX0 TX0 5
theorem nmX0 : ∀ a, a < 5 → ∀ b, b < 5 → a ≠ b → (TX0 a).2.1 ≠ (TX0 b).2.1 := by decide +kernel
theorem tyX0_ok : ∀ k, k < 5 → parseFieldDescriptor (TX0 k).2.2.1 = some (tyX0 k) := by decide +kernel
abbrev cX0_init : ByteArray := prog_2_method_1_code
def yX0_init : MethodName := ⟨RX0, "<init>", "()V"⟩
abbrev cX0_has : ByteArray := prog_2_method_2_code
def yX0_has : MethodName := ⟨RX0, "has", "(I)Z"⟩
abbrev cX0_plan : ByteArray := prog_2_method_3_code
def yX0_plan : MethodName := ⟨RX0, "plan", "(LBurinLines$Layer;)V"⟩
abbrev cX0_nearestPath : ByteArray := prog_2_method_4_code
def yX0_nearestPath : MethodName := ⟨RX0, "nearestPath", "(LBurinLines$Layer;I)I"⟩
abbrev cX0_cutPath : ByteArray := prog_2_method_5_code
def yX0_cutPath : MethodName := ⟨RX0, "cutPath", "(LBurinLines$Layer;II)I"⟩
def RX1 : String := "BurinLines$Layer"
def TX1 : u_T := fun k => match k with
  | 0 => ("BurinLines$Layer", "number", "I", true)
  | 1 => ("BurinLines$Layer", "wants", "[I", true)
  | 2 => ("BurinLines$Layer", "ways", "[I", true)
  | 3 => ("BurinLines$Layer", "widths", "[I", true)
  | 4 => ("BurinLines$Layer", "firsts", "[I", true)
  | 5 => ("BurinLines$Layer", "lasts", "[I", true)
  | 6 => ("BurinLines$Layer", "lengths", "[I", true)
  | 7 => ("BurinLines$Layer", "greatestWidths", "[I", true)
  | _ => ("BurinLines$Layer", "pathCount", "I", false)
def tyX1 : Nat → FieldType := fun k => match k with
  | 0 => .int
  | 1 => .array .int
  | 2 => .array .int
  | 3 => .array .int
  | 4 => .array .int
  | 5 => .array .int
  | 6 => .array .int
  | 7 => .array .int
  | _ => .int
abbrev wsX10 : List Cond := u_ws RX1 TX1 9
theorem nmX1 : ∀ a, a < 9 → ∀ b, b < 9 → a ≠ b → (TX1 a).2.1 ≠ (TX1 b).2.1 := by decide +kernel
theorem tyX1_ok : ∀ k, k < 9 → parseFieldDescriptor (TX1 k).2.2.1 = some (tyX1 k) := by decide +kernel
abbrev cX1_init : ByteArray := prog_3_method_1_code
def yX1_init : MethodName := ⟨RX1, "<init>", "(I)V"⟩
abbrev cX1_draw : ByteArray := prog_3_method_2_code
def yX1_draw : MethodName := ⟨RX1, "draw", "(LBurinLines$Plate;LBurinLines$Tool;)V"⟩
abbrev cX1_wayFor : ByteArray := prog_3_method_3_code
def yX1_wayFor : MethodName := ⟨RX1, "wayFor", "(I)I"⟩
abbrev cX1_tiedTo : ByteArray := prog_3_method_4_code
def yX1_tiedTo : MethodName := ⟨RX1, "tiedTo", "(II)I"⟩
abbrev cX1_addPath : ByteArray := prog_3_method_5_code
def yX1_addPath : MethodName := ⟨RX1, "addPath", "(II)V"⟩
abbrev cX1_limitSwell : ByteArray := prog_3_method_6_code
def yX1_limitSwell : MethodName := ⟨RX1, "limitSwell", "(III)I"⟩
abbrev cX1_greatestWidthFrom : ByteArray := prog_3_method_7_code
def yX1_greatestWidthFrom : MethodName := ⟨RX1, "greatestWidthFrom", "(I)I"⟩
def RX2 : String := "BurinLines$Plate"
def TX2 : u_T := fun k => match k with
  | 0 => ("BurinLines$Plate", "tones", "[I", true)
  | 1 => ("BurinLines$Plate", "turns", "[I", true)
  | _ => ("BurinLines$Plate", "told", "[Z", true)
def tyX2 : Nat → FieldType := fun k => match k with
  | 0 => .array .int
  | 1 => .array .int
  | _ => .array .boolean
abbrev wsX20 : List Cond := u_ws RX2 TX2 3
theorem nmX2 : ∀ a, a < 3 → ∀ b, b < 3 → a ≠ b → (TX2 a).2.1 ≠ (TX2 b).2.1 := by decide +kernel
theorem tyX2_ok : ∀ k, k < 3 → parseFieldDescriptor (TX2 k).2.2.1 = some (tyX2 k) := by decide +kernel
abbrev cX2_init : ByteArray := prog_4_method_1_code
def yX2_init : MethodName := ⟨RX2, "<init>", "()V"⟩
abbrev cX2_smooth : ByteArray := prog_4_method_2_code
def yX2_smooth : MethodName := ⟨RX2, "smooth", "()I"⟩
abbrev cX2_goThrough : ByteArray := prog_4_method_3_code
def yX2_goThrough : MethodName := ⟨RX2, "goThrough", "()Z"⟩
abbrev cX2_calmestTurn : ByteArray := prog_4_method_4_code
def yX2_calmestTurn : MethodName := ⟨RX2, "calmestTurn", "(I)I"⟩
abbrev cX2_strain : ByteArray := prog_4_method_5_code
def yX2_strain : MethodName := ⟨RX2, "strain", "(II)I"⟩
abbrev cX2_strainAgainst : ByteArray := prog_4_method_6_code
def yX2_strainAgainst : MethodName := ⟨RX2, "strainAgainst", "(III)I"⟩
abbrev cX2_knotOf : ByteArray := prog_4_method_7_code
def yX2_knotOf : MethodName := ⟨RX2, "knotOf", "(II)I"⟩
abbrev cX2_growth : ByteArray := prog_4_method_8_code
def yX2_growth : MethodName := ⟨RX2, "growth", "(II)I"⟩
abbrev cX2_countToned : ByteArray := prog_4_method_9_code
def yX2_countToned : MethodName := ⟨RX2, "countToned", "()I"⟩
abbrev cX2_countTold : ByteArray := prog_4_method_10_code
def yX2_countTold : MethodName := ⟨RX2, "countTold", "()I"⟩
abbrev cX2_countKnots : ByteArray := prog_4_method_11_code
def yX2_countKnots : MethodName := ⟨RX2, "countKnots", "()I"⟩
def RX3 : String := "BurinLines$Tool"
def TX3 : u_T := fun k => match k with
  | _ => ("BurinLines$Tool", "settings", "[I", true)
def tyX3 : Nat → FieldType := fun k => match k with
  | _ => .array .int
abbrev wsX30 : List Cond := u_ws RX3 TX3 1
theorem nmX3 : ∀ a, a < 1 → ∀ b, b < 1 → a ≠ b → (TX3 a).2.1 ≠ (TX3 b).2.1 := by decide +kernel
theorem tyX3_ok : ∀ k, k < 1 → parseFieldDescriptor (TX3 k).2.2.1 = some (tyX3 k) := by decide +kernel
abbrev cX3_init : ByteArray := prog_5_method_1_code
def yX3_init : MethodName := ⟨RX3, "<init>", "()V"⟩
abbrev cX3_change : ByteArray := prog_5_method_2_code
def yX3_change : MethodName := ⟨RX3, "change", "(II)I"⟩
abbrev cX3_swell : ByteArray := prog_5_method_3_code
def yX3_swell : MethodName := ⟨RX3, "swell", "()I"⟩
abbrev cX3_widthFor : ByteArray := prog_5_method_4_code
def yX3_widthFor : MethodName := ⟨RX3, "widthFor", "(II)I"⟩
abbrev cX3_toneOf : ByteArray := prog_5_method_5_code
def yX3_toneOf : MethodName := ⟨RX3, "toneOf", "(I)I"⟩
def RX4 : String := "BurinLines"
def TX4 : u_T := fun k => match k with
  | 0 => ("BurinLines", "plate", "LBurinLines$Plate;", true)
  | 1 => ("BurinLines", "tool", "LBurinLines$Tool;", true)
  | 2 => ("BurinLines", "lightLayer", "LBurinLines$Layer;", true)
  | 3 => ("BurinLines", "darkLayer", "LBurinLines$Layer;", true)
  | _ => ("BurinLines", "cutting", "LBurinLines$Cutting;", true)
def tyX4 : Nat → FieldType := fun k => match k with
  | 0 => .object "BurinLines$Plate"
  | 1 => .object "BurinLines$Tool"
  | 2 => .object "BurinLines$Layer"
  | 3 => .object "BurinLines$Layer"
  | _ => .object "BurinLines$Cutting"
abbrev wsX40 : List Cond := u_ws RX4 TX4 5
theorem nmX4 : ∀ a, a < 5 → ∀ b, b < 5 → a ≠ b → (TX4 a).2.1 ≠ (TX4 b).2.1 := by decide +kernel
theorem tyX4_ok : ∀ k, k < 5 → parseFieldDescriptor (TX4 k).2.2.1 = some (tyX4 k) := by decide +kernel
abbrev cX4_init : ByteArray := prog_1_method_1_code
def yX4_init : MethodName := ⟨RX4, "<init>", "()V"⟩
abbrev cX4_tone : ByteArray := prog_1_method_2_code
def yX4_tone : MethodName := ⟨RX4, "tone", "(III)I"⟩
abbrev cX4_shade : ByteArray := prog_1_method_3_code
def yX4_shade : MethodName := ⟨RX4, "shade", "(IIIII)I"⟩
abbrev cX4_tell : ByteArray := prog_1_method_4_code
def yX4_tell : MethodName := ⟨RX4, "tell", "(III)I"⟩
abbrev cX4_free : ByteArray := prog_1_method_5_code
def yX4_free : MethodName := ⟨RX4, "free", "(II)I"⟩
abbrev cX4_even : ByteArray := prog_1_method_6_code
def yX4_even : MethodName := ⟨RX4, "even", "()I"⟩
abbrev cX4_at : ByteArray := prog_1_method_7_code
def yX4_at : MethodName := ⟨RX4, "at", "(III)I"⟩
abbrev cX4_knot : ByteArray := prog_1_method_8_code
def yX4_knot : MethodName := ⟨RX4, "knot", "(II)I"⟩
abbrev cX4_set : ByteArray := prog_1_method_9_code
def yX4_set : MethodName := ⟨RX4, "set", "(II)I"⟩
abbrev cX4_wanted : ByteArray := prog_1_method_10_code
def yX4_wanted : MethodName := ⟨RX4, "wanted", "(III)I"⟩
abbrev cX4_width : ByteArray := prog_1_method_11_code
def yX4_width : MethodName := ⟨RX4, "width", "(III)I"⟩
abbrev cX4_made : ByteArray := prog_1_method_12_code
def yX4_made : MethodName := ⟨RX4, "made", "(II)I"⟩
abbrev cX4_error : ByteArray := prog_1_method_13_code
def yX4_error : MethodName := ⟨RX4, "error", "(I)I"⟩
abbrev cX4_paths : ByteArray := prog_1_method_14_code
def yX4_paths : MethodName := ⟨RX4, "paths", "(I)I"⟩
abbrev cX4_path : ByteArray := prog_1_method_15_code
def yX4_path : MethodName := ⟨RX4, "path", "(III)I"⟩
abbrev cX4_cut : ByteArray := prog_1_method_16_code
def yX4_cut : MethodName := ⟨RX4, "cut", "(II)I"⟩
abbrev cX4_begin : ByteArray := prog_1_method_17_code
def yX4_begin : MethodName := ⟨RX4, "begin", "(II)I"⟩
abbrev cX4_air : ByteArray := prog_1_method_18_code
def yX4_air : MethodName := ⟨RX4, "air", "(I)I"⟩
abbrev cX4_count : ByteArray := prog_1_method_19_code
def yX4_count : MethodName := ⟨RX4, "count", "(I)I"⟩
abbrev cX4_isCell : ByteArray := prog_1_method_20_code
def yX4_isCell : MethodName := ⟨RX4, "isCell", "(II)Z"⟩
abbrev cX4_isBlock : ByteArray := prog_1_method_21_code
def yX4_isBlock : MethodName := ⟨RX4, "isBlock", "(II)Z"⟩
abbrev cX4_isLayer : ByteArray := prog_1_method_22_code
def yX4_isLayer : MethodName := ⟨RX4, "isLayer", "(I)Z"⟩
abbrev cX4_isTone : ByteArray := prog_1_method_23_code
def yX4_isTone : MethodName := ⟨RX4, "isTone", "(I)Z"⟩
abbrev cX4_cellOf : ByteArray := prog_1_method_24_code
def yX4_cellOf : MethodName := ⟨RX4, "cellOf", "(II)I"⟩
abbrev cX4_wayBetween : ByteArray := prog_1_method_25_code
def yX4_wayBetween : MethodName := ⟨RX4, "wayBetween", "(II)I"⟩
abbrev cX4_drawnLayer : ByteArray := prog_1_method_26_code
def yX4_drawnLayer : MethodName := ⟨RX4, "drawnLayer", "(I)LBurinLines$Layer;"⟩
abbrev cX4_drawBothLayers : ByteArray := prog_1_method_27_code
def yX4_drawBothLayers : MethodName := ⟨RX4, "drawBothLayers", "()V"⟩
abbrev cX4_toneMade : ByteArray := prog_1_method_28_code
def yX4_toneMade : MethodName := ⟨RX4, "toneMade", "(I)I"⟩
abbrev cX4_countStrokes : ByteArray := prog_1_method_29_code
def yX4_countStrokes : MethodName := ⟨RX4, "countStrokes", "(I)I"⟩
def RX5 : String := "BurinLinesModel"
def TX5 : u_T := fun k => match k with
  | 0 => ("BurinLinesModel", "tone", "[I", true)
  | 1 => ("BurinLinesModel", "turn", "[I", true)
  | 2 => ("BurinLinesModel", "isTold", "[Z", true)
  | 3 => ("BurinLinesModel", "apart", "I", false)
  | 4 => ("BurinLinesModel", "cross", "I", false)
  | 5 => ("BurinLinesModel", "least", "I", false)
  | 6 => ("BurinLinesModel", "swell", "I", false)
  | 7 => ("BurinLinesModel", "want", "[I", true)
  | 8 => ("BurinLinesModel", "made", "[I", true)
  | 9 => ("BurinLinesModel", "paths", "I", false)
  | 10 => ("BurinLinesModel", "first", "[I", true)
  | 11 => ("BurinLinesModel", "last", "[I", true)
  | 12 => ("BurinLinesModel", "size", "[I", true)
  | 13 => ("BurinLinesModel", "order", "[I", true)
  | 14 => ("BurinLinesModel", "begun", "[I", true)
  | _ => ("BurinLinesModel", "air", "I", false)
def tyX5 : Nat → FieldType := fun k => match k with
  | 0 => .array .int
  | 1 => .array .int
  | 2 => .array .boolean
  | 3 => .int
  | 4 => .int
  | 5 => .int
  | 6 => .int
  | 7 => .array .int
  | 8 => .array .int
  | 9 => .int
  | 10 => .array .int
  | 11 => .array .int
  | 12 => .array .int
  | 13 => .array .int
  | 14 => .array .int
  | _ => .int
abbrev wsX50 : List Cond := u_ws RX5 TX5 16
theorem nmX5 : ∀ a, a < 16 → ∀ b, b < 16 → a ≠ b → (TX5 a).2.1 ≠ (TX5 b).2.1 := by decide +kernel
theorem tyX5_ok : ∀ k, k < 16 → parseFieldDescriptor (TX5 k).2.2.1 = some (tyX5 k) := by decide +kernel
abbrev cX5_init : ByteArray := prog_7_method_1_code
def yX5_init : MethodName := ⟨RX5, "<init>", "()V"⟩
abbrev cX5_in : ByteArray := prog_7_method_2_code
def yX5_in : MethodName := ⟨RX5, "in", "(III)Z"⟩
abbrev cX5_isCell : ByteArray := prog_7_method_3_code
def yX5_isCell : MethodName := ⟨RX5, "isCell", "(II)Z"⟩
abbrev cX5_less : ByteArray := prog_7_method_4_code
def yX5_less : MethodName := ⟨RX5, "less", "(II)I"⟩
abbrev cX5_more : ByteArray := prog_7_method_5_code
def yX5_more : MethodName := ⟨RX5, "more", "(II)I"⟩
abbrev cX5_size : ByteArray := prog_7_method_6_code
def yX5_size : MethodName := ⟨RX5, "size", "(I)I"⟩
abbrev cX5_tone : ByteArray := prog_7_method_7_code
def yX5_tone : MethodName := ⟨RX5, "tone", "(III)I"⟩
abbrev cX5_shade : ByteArray := prog_7_method_8_code
def yX5_shade : MethodName := ⟨RX5, "shade", "(IIIII)I"⟩
abbrev cX5_tell : ByteArray := prog_7_method_9_code
def yX5_tell : MethodName := ⟨RX5, "tell", "(III)I"⟩
abbrev cX5_free : ByteArray := prog_7_method_10_code
def yX5_free : MethodName := ⟨RX5, "free", "(II)I"⟩
abbrev cX5_off : ByteArray := prog_7_method_11_code
def yX5_off : MethodName := ⟨RX5, "off", "(III)I"⟩
abbrev cX5_offOf : ByteArray := prog_7_method_12_code
def yX5_offOf : MethodName := ⟨RX5, "offOf", "(III)I"⟩
abbrev cX5_goThrough : ByteArray := prog_7_method_13_code
def yX5_goThrough : MethodName := ⟨RX5, "goThrough", "()Z"⟩
abbrev cX5_even : ByteArray := prog_7_method_14_code
def yX5_even : MethodName := ⟨RX5, "even", "()I"⟩
abbrev cX5_at : ByteArray := prog_7_method_15_code
def yX5_at : MethodName := ⟨RX5, "at", "(III)I"⟩
abbrev cX5_grows : ByteArray := prog_7_method_16_code
def yX5_grows : MethodName := ⟨RX5, "grows", "(II)I"⟩
abbrev cX5_knotOf : ByteArray := prog_7_method_17_code
def yX5_knotOf : MethodName := ⟨RX5, "knotOf", "(II)I"⟩
abbrev cX5_knot : ByteArray := prog_7_method_18_code
def yX5_knot : MethodName := ⟨RX5, "knot", "(II)I"⟩
abbrev cX5_set : ByteArray := prog_7_method_19_code
def yX5_set : MethodName := ⟨RX5, "set", "(II)I"⟩
abbrev cX5_wantedOf : ByteArray := prog_7_method_20_code
def yX5_wantedOf : MethodName := ⟨RX5, "wantedOf", "(II)I"⟩
abbrev cX5_wayOf : ByteArray := prog_7_method_21_code
def yX5_wayOf : MethodName := ⟨RX5, "wayOf", "(II)I"⟩
abbrev cX5_tied : ByteArray := prog_7_method_22_code
def yX5_tied : MethodName := ⟨RX5, "tied", "(III)I"⟩
abbrev cX5_findLayer : ByteArray := prog_7_method_23_code
def yX5_findLayer : MethodName := ⟨RX5, "findLayer", "(I)V"⟩
abbrev cX5_isLayer : ByteArray := prog_7_method_24_code
def yX5_isLayer : MethodName := ⟨RX5, "isLayer", "(I)Z"⟩
abbrev cX5_wanted : ByteArray := prog_7_method_25_code
def yX5_wanted : MethodName := ⟨RX5, "wanted", "(III)I"⟩
abbrev cX5_width : ByteArray := prog_7_method_26_code
def yX5_width : MethodName := ⟨RX5, "width", "(III)I"⟩
abbrev cX5_made : ByteArray := prog_7_method_27_code
def yX5_made : MethodName := ⟨RX5, "made", "(II)I"⟩
abbrev cX5_error : ByteArray := prog_7_method_28_code
def yX5_error : MethodName := ⟨RX5, "error", "(I)I"⟩
abbrev cX5_paths : ByteArray := prog_7_method_29_code
def yX5_paths : MethodName := ⟨RX5, "paths", "(I)I"⟩
abbrev cX5_path : ByteArray := prog_7_method_30_code
def yX5_path : MethodName := ⟨RX5, "path", "(III)I"⟩
abbrev cX5_far : ByteArray := prog_7_method_31_code
def yX5_far : MethodName := ⟨RX5, "far", "(II)I"⟩
abbrev cX5_findOrder : ByteArray := prog_7_method_32_code
def yX5_findOrder : MethodName := ⟨RX5, "findOrder", "(I)V"⟩
abbrev cX5_cut : ByteArray := prog_7_method_33_code
def yX5_cut : MethodName := ⟨RX5, "cut", "(II)I"⟩
abbrev cX5_begin : ByteArray := prog_7_method_34_code
def yX5_begin : MethodName := ⟨RX5, "begin", "(II)I"⟩
abbrev cX5_air : ByteArray := prog_7_method_35_code
def yX5_air : MethodName := ⟨RX5, "air", "(I)I"⟩
abbrev cX5_count : ByteArray := prog_7_method_36_code
def yX5_count : MethodName := ⟨RX5, "count", "(I)I"⟩
def RJ9 : String := "java/lang/Math"
def TJ9 : u_T := fun k => match k with
  | _ => ("", "", "", false)
def tyJ9 : Nat → FieldType := fun k => match k with
  | _ => .int
abbrev wsJ90 : List Cond := u_ws RJ9 TJ9 0
theorem nmJ9 : ∀ a, a < 0 → ∀ b, b < 0 → a ≠ b → (TJ9 a).2.1 ≠ (TJ9 b).2.1 := by decide +kernel
theorem tyJ9_ok : ∀ k, k < 0 → parseFieldDescriptor (TJ9 k).2.2.1 = some (tyJ9 k) := by decide +kernel
abbrev cJ9_floorMod_7cf53 : ByteArray := prog_8_method_50_code
def yJ9_floorMod_7cf53 : MethodName := ⟨RJ9, "floorMod", "(II)I"⟩
abbrev cJ9_abs_0f7a4 : ByteArray := prog_8_method_59_code
def yJ9_abs_0f7a4 : MethodName := ⟨RJ9, "abs", "(I)I"⟩
abbrev cJ9_max_7cf53 : ByteArray := prog_8_method_65_code
def yJ9_max_7cf53 : MethodName := ⟨RJ9, "max", "(II)I"⟩
abbrev cJ9_min_7cf53 : ByteArray := prog_8_method_69_code
def yJ9_min_7cf53 : MethodName := ⟨RJ9, "min", "(II)I"⟩
def RL : String := "BurinLinesLaw"
abbrev cL_law : ByteArray := code
def yL_law : MethodName := ⟨RL, "law", "([I)Z"⟩
def wsX0_init : List Cond := .code yX0_init cX0_init 1 none :: ([.methodLink RX0 3 objectInit, .instanceMethod objectInit, .code objectInit ⟨#[0xb1]⟩ 1 none, .arrayClass .int, .fieldLink RX0 9 "BurinLines$Cutting" "order" "[I", .fieldLink RX0 15 "BurinLines$Cutting" "begins" "[I", .arrayClass .boolean, .fieldLink RX0 18 "BurinLines$Cutting" "done" "[Z"] ++ wsX00)
def wsX0_has : List Cond := .code yX0_has cX0_has 2 (some .boolean) :: ([.fieldLink RX0 22 "BurinLines$Cutting" "planned" "I"] ++ wsX00)
def wsX4_cellOf : List Cond := .code yX4_cellOf cX4_cellOf 2 (some .int) :: ([])
def wsX4_wayBetween : List Cond := .code yX4_wayBetween cX4_wayBetween 4 (some .int) :: ([.methodLink RX4 98 Lib.Math.abs.name, .static Lib.Math.abs.name, .initialized "java/lang/Math", .code Lib.Math.abs.name Lib.Math.abs.code 1 (some .int), .methodLink RX4 103 Lib.Math.max.name, .static Lib.Math.max.name, .code Lib.Math.max.name Lib.Math.max.code 2 (some .int)])
def wsX0_nearestPath : List Cond := .code yX0_nearestPath cX0_nearestPath 7 (some .int) :: ([.fieldLink RX0 33 "BurinLines$Layer" "pathCount" "I", .fieldLink RX0 18 "BurinLines$Cutting" "done" "[Z", .fieldLink RX0 46 "BurinLines$Layer" "firsts" "[I", .fieldLink RX0 52 "BurinLines$Layer" "lasts" "[I", .methodLink RX0 55 Lib.Math.min.name, .static Lib.Math.min.name, .initialized "java/lang/Math", .code Lib.Math.min.name Lib.Math.min.code 2 (some .int), .static yX4_wayBetween, .initialized RX4, .code yX4_wayBetween cX4_wayBetween 4 (some .int), .methodLink RX4 98 Lib.Math.abs.name, .static Lib.Math.abs.name, .code Lib.Math.abs.name Lib.Math.abs.code 1 (some .int), .methodLink RX4 103 Lib.Math.max.name, .static Lib.Math.max.name, .code Lib.Math.max.name Lib.Math.max.code 2 (some .int)] ++ wsX10 ++ wsX00)
def wsX0_cutPath : List Cond := .code yX0_cutPath cX0_cutPath 8 (some .int) :: ([.fieldLink RX0 22 "BurinLines$Cutting" "planned" "I", .fieldLink RX0 46 "BurinLines$Layer" "firsts" "[I", .fieldLink RX0 52 "BurinLines$Layer" "lasts" "[I", .fieldLink RX0 9 "BurinLines$Cutting" "order" "[I", .fieldLink RX0 15 "BurinLines$Cutting" "begins" "[I", .fieldLink RX0 26 "BurinLines$Cutting" "wayInAir" "I", .fieldLink RX0 18 "BurinLines$Cutting" "done" "[Z", .static yX4_wayBetween, .initialized RX4, .code yX4_wayBetween cX4_wayBetween 4 (some .int), .methodLink RX4 98 Lib.Math.abs.name, .static Lib.Math.abs.name, .initialized "java/lang/Math", .code Lib.Math.abs.name Lib.Math.abs.code 1 (some .int), .methodLink RX4 103 Lib.Math.max.name, .static Lib.Math.max.name, .code Lib.Math.max.name Lib.Math.max.code 2 (some .int)] ++ wsX00 ++ wsX10)
def wsX0_plan_r1 : List Cond := [Cond.fieldLink RX0 18 "BurinLines$Cutting" "done" "[Z", Cond.fieldLink RX0 22 "BurinLines$Cutting" "planned" "I", Cond.fieldLink RX0 26 "BurinLines$Cutting" "wayInAir" "I", Cond.fieldLink RX0 33 "BurinLines$Layer" "pathCount" "I", Cond.static yX4_cellOf, Cond.initialized RX4, Cond.code yX4_cellOf cX4_cellOf 2 (some .int), Cond.methodLink RX0 38 yX0_nearestPath, Cond.instanceMethod yX0_nearestPath, Cond.selects RX0 yX0_nearestPath yX0_nearestPath, Cond.initialized RX0, Cond.code yX0_nearestPath cX0_nearestPath 7 (some .int), Cond.fieldLink RX0 46 "BurinLines$Layer" "firsts" "[I", Cond.fieldLink RX0 52 "BurinLines$Layer" "lasts" "[I", Cond.methodLink RX0 55 Lib.Math.min.name, Cond.static Lib.Math.min.name, Cond.initialized "java/lang/Math", Cond.code Lib.Math.min.name Lib.Math.min.code 2 (some .int), Cond.static yX4_wayBetween, Cond.code yX4_wayBetween cX4_wayBetween 4 (some .int), Cond.methodLink RX4 98 Lib.Math.abs.name, Cond.static Lib.Math.abs.name, Cond.code Lib.Math.abs.name Lib.Math.abs.code 1 (some .int), Cond.methodLink RX4 103 Lib.Math.max.name]
def wsX0_plan_r2 : List Cond := [Cond.static Lib.Math.max.name, Cond.code Lib.Math.max.name Lib.Math.max.code 2 (some .int), Cond.methodLink RX0 42 yX0_cutPath, Cond.instanceMethod yX0_cutPath, Cond.selects RX0 yX0_cutPath yX0_cutPath, Cond.code yX0_cutPath cX0_cutPath 8 (some .int), Cond.fieldLink RX0 9 "BurinLines$Cutting" "order" "[I", Cond.fieldLink RX0 15 "BurinLines$Cutting" "begins" "[I"]
def wsX0_plan : List Cond := .code yX0_plan cX0_plan 5 none :: ((wsX0_plan_r1 ++ wsX0_plan_r2) ++ wsX00 ++ wsX10)
def wsX1_init : List Cond := .code yX1_init cX1_init 2 none :: ([.methodLink RX1 3 objectInit, .instanceMethod objectInit, .code objectInit ⟨#[0xb1]⟩ 1 none, .arrayClass .int, .fieldLink RX1 9 "BurinLines$Layer" "wants" "[I", .fieldLink RX1 15 "BurinLines$Layer" "ways" "[I", .fieldLink RX1 18 "BurinLines$Layer" "widths" "[I", .fieldLink RX1 21 "BurinLines$Layer" "firsts" "[I", .fieldLink RX1 24 "BurinLines$Layer" "lasts" "[I", .fieldLink RX1 27 "BurinLines$Layer" "lengths" "[I", .fieldLink RX1 30 "BurinLines$Layer" "greatestWidths" "[I", .fieldLink RX1 33 "BurinLines$Layer" "number" "I"] ++ wsX10)
def wsX3_widthFor : List Cond := .code yX3_widthFor cX3_widthFor 6 (some .int) :: ([.fieldLink RX3 9 "BurinLines$Tool" "settings" "[I", .methodLink RX3 21 Lib.Math.min.name, .static Lib.Math.min.name, .initialized "java/lang/Math", .code Lib.Math.min.name Lib.Math.min.code 2 (some .int)] ++ wsX30)
def wsJ9_floorMod_7cf53 : List Cond := .code yJ9_floorMod_7cf53 cJ9_floorMod_7cf53 3 (some .int) :: ([])
def wsX1_wayFor : List Cond := .code yX1_wayFor cX1_wayFor 3 (some .int) :: ([.fieldLink RX1 33 "BurinLines$Layer" "number" "I", .methodLink RX1 69 yJ9_floorMod_7cf53, .static yJ9_floorMod_7cf53, .initialized RJ9, .code yJ9_floorMod_7cf53 cJ9_floorMod_7cf53 3 (some .int)] ++ wsX10)
def wsX4_isCell : List Cond := .code yX4_isCell cX4_isCell 2 (some .boolean) :: ([])
def wsX1_tiedTo : List Cond := .code yX1_tiedTo cX1_tiedTo 7 (some .int) :: ([.fieldLink RX1 15 "BurinLines$Layer" "ways" "[I", .fieldLink RX1 9 "BurinLines$Layer" "wants" "[I", .static yX4_isCell, .initialized RX4, .code yX4_isCell cX4_isCell 2 (some .boolean), .static yX4_cellOf, .code yX4_cellOf cX4_cellOf 2 (some .int)] ++ wsX10)
def wsX3_swell : List Cond := .code yX3_swell cX3_swell 1 (some .int) :: ([.fieldLink RX3 9 "BurinLines$Tool" "settings" "[I"] ++ wsX30)
def wsX1_limitSwell : List Cond := .code yX1_limitSwell cX1_limitSwell 7 (some .int) :: ([.fieldLink RX1 18 "BurinLines$Layer" "widths" "[I", .methodLink RX1 97 Lib.Math.min.name, .static Lib.Math.min.name, .initialized "java/lang/Math", .code Lib.Math.min.name Lib.Math.min.code 2 (some .int), .methodLink RX1 58 yX1_tiedTo, .instanceMethod yX1_tiedTo, .selects RX1 yX1_tiedTo yX1_tiedTo, .initialized RX1, .code yX1_tiedTo cX1_tiedTo 7 (some .int), .fieldLink RX1 15 "BurinLines$Layer" "ways" "[I", .fieldLink RX1 9 "BurinLines$Layer" "wants" "[I", .static yX4_isCell, .initialized RX4, .code yX4_isCell cX4_isCell 2 (some .boolean), .static yX4_cellOf, .code yX4_cellOf cX4_cellOf 2 (some .int)] ++ wsX10)
def wsX1_greatestWidthFrom : List Cond := .code yX1_greatestWidthFrom cX1_greatestWidthFrom 5 (some .int) :: ([.fieldLink RX1 18 "BurinLines$Layer" "widths" "[I", .methodLink RX1 100 Lib.Math.max.name, .static Lib.Math.max.name, .initialized "java/lang/Math", .code Lib.Math.max.name Lib.Math.max.code 2 (some .int), .methodLink RX1 58 yX1_tiedTo, .instanceMethod yX1_tiedTo, .selects RX1 yX1_tiedTo yX1_tiedTo, .initialized RX1, .code yX1_tiedTo cX1_tiedTo 7 (some .int), .fieldLink RX1 15 "BurinLines$Layer" "ways" "[I", .fieldLink RX1 9 "BurinLines$Layer" "wants" "[I", .static yX4_isCell, .initialized RX4, .code yX4_isCell cX4_isCell 2 (some .boolean), .static yX4_cellOf, .code yX4_cellOf cX4_cellOf 2 (some .int)] ++ wsX10)
def wsX1_addPath_r1 : List Cond := [Cond.fieldLink RX1 55 "BurinLines$Layer" "pathCount" "I", Cond.fieldLink RX1 21 "BurinLines$Layer" "firsts" "[I", Cond.fieldLink RX1 24 "BurinLines$Layer" "lasts" "[I", Cond.fieldLink RX1 27 "BurinLines$Layer" "lengths" "[I", Cond.fieldLink RX1 30 "BurinLines$Layer" "greatestWidths" "[I", Cond.methodLink RX1 87 yX1_limitSwell, Cond.instanceMethod yX1_limitSwell, Cond.selects RX1 yX1_limitSwell yX1_limitSwell, Cond.initialized RX1, Cond.code yX1_limitSwell cX1_limitSwell 7 (some .int), Cond.fieldLink RX1 18 "BurinLines$Layer" "widths" "[I", Cond.methodLink RX1 97 Lib.Math.min.name, Cond.static Lib.Math.min.name, Cond.initialized "java/lang/Math", Cond.code Lib.Math.min.name Lib.Math.min.code 2 (some .int), Cond.methodLink RX1 58 yX1_tiedTo, Cond.instanceMethod yX1_tiedTo, Cond.selects RX1 yX1_tiedTo yX1_tiedTo, Cond.code yX1_tiedTo cX1_tiedTo 7 (some .int), Cond.fieldLink RX1 15 "BurinLines$Layer" "ways" "[I", Cond.fieldLink RX1 9 "BurinLines$Layer" "wants" "[I", Cond.static yX4_isCell, Cond.initialized RX4, Cond.code yX4_isCell cX4_isCell 2 (some .boolean)]
def wsX1_addPath_r2 : List Cond := [Cond.static yX4_cellOf, Cond.code yX4_cellOf cX4_cellOf 2 (some .int), Cond.static yX4_wayBetween, Cond.code yX4_wayBetween cX4_wayBetween 4 (some .int), Cond.methodLink RX4 98 Lib.Math.abs.name, Cond.static Lib.Math.abs.name, Cond.code Lib.Math.abs.name Lib.Math.abs.code 1 (some .int), Cond.methodLink RX4 103 Lib.Math.max.name, Cond.static Lib.Math.max.name, Cond.code Lib.Math.max.name Lib.Math.max.code 2 (some .int), Cond.methodLink RX1 94 yX1_greatestWidthFrom, Cond.instanceMethod yX1_greatestWidthFrom, Cond.selects RX1 yX1_greatestWidthFrom yX1_greatestWidthFrom, Cond.code yX1_greatestWidthFrom cX1_greatestWidthFrom 5 (some .int), Cond.methodLink RX1 100 Lib.Math.max.name]
def wsX1_addPath : List Cond := .code yX1_addPath cX1_addPath 4 none :: ((wsX1_addPath_r1 ++ wsX1_addPath_r2) ++ wsX10)
def wsX1_draw_r1 : List Cond := [Cond.fieldLink RX1 9 "BurinLines$Layer" "wants" "[I", Cond.fieldLink RX1 37 "BurinLines$Plate" "tones" "[I", Cond.fieldLink RX1 33 "BurinLines$Layer" "number" "I", Cond.fieldLink RX1 15 "BurinLines$Layer" "ways" "[I", Cond.fieldLink RX1 48 "BurinLines$Plate" "turns" "[I", Cond.fieldLink RX1 18 "BurinLines$Layer" "widths" "[I", Cond.fieldLink RX1 55 "BurinLines$Layer" "pathCount" "I", Cond.methodLink RX1 42 yX3_widthFor, Cond.instanceMethod yX3_widthFor, Cond.selects RX3 yX3_widthFor yX3_widthFor, Cond.initialized RX3, Cond.code yX3_widthFor cX3_widthFor 6 (some .int), Cond.fieldLink RX3 9 "BurinLines$Tool" "settings" "[I", Cond.methodLink RX3 21 Lib.Math.min.name, Cond.static Lib.Math.min.name, Cond.initialized "java/lang/Math", Cond.code Lib.Math.min.name Lib.Math.min.code 2 (some .int), Cond.methodLink RX1 51 yX1_wayFor, Cond.instanceMethod yX1_wayFor, Cond.selects RX1 yX1_wayFor yX1_wayFor, Cond.initialized RX1, Cond.code yX1_wayFor cX1_wayFor 3 (some .int), Cond.methodLink RX1 69 yJ9_floorMod_7cf53, Cond.static yJ9_floorMod_7cf53]
def wsX1_draw_r2 : List Cond := [Cond.initialized RJ9, Cond.code yJ9_floorMod_7cf53 cJ9_floorMod_7cf53 3 (some .int), Cond.methodLink RX1 58 yX1_tiedTo, Cond.instanceMethod yX1_tiedTo, Cond.selects RX1 yX1_tiedTo yX1_tiedTo, Cond.code yX1_tiedTo cX1_tiedTo 7 (some .int), Cond.static yX4_isCell, Cond.initialized RX4, Cond.code yX4_isCell cX4_isCell 2 (some .boolean), Cond.static yX4_cellOf, Cond.code yX4_cellOf cX4_cellOf 2 (some .int), Cond.methodLink RX1 61 yX3_swell, Cond.instanceMethod yX3_swell, Cond.selects RX3 yX3_swell yX3_swell, Cond.code yX3_swell cX3_swell 1 (some .int), Cond.methodLink RX1 65 yX1_addPath, Cond.instanceMethod yX1_addPath, Cond.selects RX1 yX1_addPath yX1_addPath, Cond.code yX1_addPath cX1_addPath 4 none, Cond.fieldLink RX1 21 "BurinLines$Layer" "firsts" "[I", Cond.fieldLink RX1 24 "BurinLines$Layer" "lasts" "[I", Cond.fieldLink RX1 27 "BurinLines$Layer" "lengths" "[I", Cond.fieldLink RX1 30 "BurinLines$Layer" "greatestWidths" "[I", Cond.methodLink RX1 87 yX1_limitSwell]
def wsX1_draw_r3 : List Cond := [Cond.instanceMethod yX1_limitSwell, Cond.selects RX1 yX1_limitSwell yX1_limitSwell, Cond.code yX1_limitSwell cX1_limitSwell 7 (some .int), Cond.methodLink RX1 97 Lib.Math.min.name, Cond.static yX4_wayBetween, Cond.code yX4_wayBetween cX4_wayBetween 4 (some .int), Cond.methodLink RX4 98 Lib.Math.abs.name, Cond.static Lib.Math.abs.name, Cond.code Lib.Math.abs.name Lib.Math.abs.code 1 (some .int), Cond.methodLink RX4 103 Lib.Math.max.name, Cond.static Lib.Math.max.name, Cond.code Lib.Math.max.name Lib.Math.max.code 2 (some .int), Cond.methodLink RX1 94 yX1_greatestWidthFrom, Cond.instanceMethod yX1_greatestWidthFrom, Cond.selects RX1 yX1_greatestWidthFrom yX1_greatestWidthFrom, Cond.code yX1_greatestWidthFrom cX1_greatestWidthFrom 5 (some .int), Cond.methodLink RX1 100 Lib.Math.max.name]
def wsX1_draw : List Cond := .code yX1_draw cX1_draw 4 none :: ((wsX1_draw_r1 ++ (wsX1_draw_r2 ++ wsX1_draw_r3)) ++ wsX10 ++ wsX20 ++ wsX30)
def wsX2_init : List Cond := .code yX2_init cX2_init 1 none :: ([.methodLink RX2 3 objectInit, .instanceMethod objectInit, .code objectInit ⟨#[0xb1]⟩ 1 none, .arrayClass .int, .fieldLink RX2 9 "BurinLines$Plate" "tones" "[I", .fieldLink RX2 15 "BurinLines$Plate" "turns" "[I", .arrayClass .boolean, .fieldLink RX2 18 "BurinLines$Plate" "told" "[Z"] ++ wsX20)
def wsX2_strainAgainst : List Cond := .code yX2_strainAgainst cX2_strainAgainst 4 (some .int) :: ([.fieldLink RX2 15 "BurinLines$Plate" "turns" "[I", .static yX4_isCell, .initialized RX4, .code yX4_isCell cX4_isCell 2 (some .boolean), .static yX4_cellOf, .code yX4_cellOf cX4_cellOf 2 (some .int), .methodLink RX2 48 yJ9_floorMod_7cf53, .static yJ9_floorMod_7cf53, .initialized RJ9, .code yJ9_floorMod_7cf53 cJ9_floorMod_7cf53 3 (some .int)] ++ wsX20)
def wsX2_strain : List Cond := .code yX2_strain cX2_strain 5 (some .int) :: ([.methodLink RX2 34 yX2_strainAgainst, .instanceMethod yX2_strainAgainst, .selects RX2 yX2_strainAgainst yX2_strainAgainst, .initialized RX2, .code yX2_strainAgainst cX2_strainAgainst 4 (some .int), .fieldLink RX2 15 "BurinLines$Plate" "turns" "[I", .static yX4_isCell, .initialized RX4, .code yX4_isCell cX4_isCell 2 (some .boolean), .static yX4_cellOf, .code yX4_cellOf cX4_cellOf 2 (some .int), .methodLink RX2 48 yJ9_floorMod_7cf53, .static yJ9_floorMod_7cf53, .initialized RJ9, .code yJ9_floorMod_7cf53 cJ9_floorMod_7cf53 3 (some .int)] ++ wsX20)
def wsX2_calmestTurn : List Cond := .code yX2_calmestTurn cX2_calmestTurn 6 (some .int) :: ([.fieldLink RX2 15 "BurinLines$Plate" "turns" "[I", .methodLink RX2 30 yX2_strain, .instanceMethod yX2_strain, .selects RX2 yX2_strain yX2_strain, .initialized RX2, .code yX2_strain cX2_strain 5 (some .int), .methodLink RX2 34 yX2_strainAgainst, .instanceMethod yX2_strainAgainst, .selects RX2 yX2_strainAgainst yX2_strainAgainst, .code yX2_strainAgainst cX2_strainAgainst 4 (some .int), .static yX4_isCell, .initialized RX4, .code yX4_isCell cX4_isCell 2 (some .boolean), .static yX4_cellOf, .code yX4_cellOf cX4_cellOf 2 (some .int), .methodLink RX2 48 yJ9_floorMod_7cf53, .static yJ9_floorMod_7cf53, .initialized RJ9, .code yJ9_floorMod_7cf53 cJ9_floorMod_7cf53 3 (some .int)] ++ wsX20)
def wsX2_goThrough : List Cond := .code yX2_goThrough cX2_goThrough 4 (some .boolean) :: ([.fieldLink RX2 18 "BurinLines$Plate" "told" "[Z", .fieldLink RX2 15 "BurinLines$Plate" "turns" "[I", .methodLink RX2 26 yX2_calmestTurn, .instanceMethod yX2_calmestTurn, .selects RX2 yX2_calmestTurn yX2_calmestTurn, .initialized RX2, .code yX2_calmestTurn cX2_calmestTurn 6 (some .int), .methodLink RX2 30 yX2_strain, .instanceMethod yX2_strain, .selects RX2 yX2_strain yX2_strain, .code yX2_strain cX2_strain 5 (some .int), .methodLink RX2 34 yX2_strainAgainst, .instanceMethod yX2_strainAgainst, .selects RX2 yX2_strainAgainst yX2_strainAgainst, .code yX2_strainAgainst cX2_strainAgainst 4 (some .int), .static yX4_isCell, .initialized RX4, .code yX4_isCell cX4_isCell 2 (some .boolean), .static yX4_cellOf, .code yX4_cellOf cX4_cellOf 2 (some .int), .methodLink RX2 48 yJ9_floorMod_7cf53, .static yJ9_floorMod_7cf53, .initialized RJ9, .code yJ9_floorMod_7cf53 cJ9_floorMod_7cf53 3 (some .int)] ++ wsX20)
def wsX2_smooth_r1 : List Cond := [Cond.methodLink RX2 22 yX2_goThrough, Cond.instanceMethod yX2_goThrough, Cond.selects RX2 yX2_goThrough yX2_goThrough, Cond.initialized RX2, Cond.code yX2_goThrough cX2_goThrough 4 (some .boolean), Cond.fieldLink RX2 18 "BurinLines$Plate" "told" "[Z", Cond.fieldLink RX2 15 "BurinLines$Plate" "turns" "[I", Cond.methodLink RX2 26 yX2_calmestTurn, Cond.instanceMethod yX2_calmestTurn, Cond.selects RX2 yX2_calmestTurn yX2_calmestTurn, Cond.code yX2_calmestTurn cX2_calmestTurn 6 (some .int), Cond.methodLink RX2 30 yX2_strain, Cond.instanceMethod yX2_strain, Cond.selects RX2 yX2_strain yX2_strain, Cond.code yX2_strain cX2_strain 5 (some .int), Cond.methodLink RX2 34 yX2_strainAgainst, Cond.instanceMethod yX2_strainAgainst, Cond.selects RX2 yX2_strainAgainst yX2_strainAgainst, Cond.code yX2_strainAgainst cX2_strainAgainst 4 (some .int), Cond.static yX4_isCell, Cond.initialized RX4, Cond.code yX4_isCell cX4_isCell 2 (some .boolean), Cond.static yX4_cellOf, Cond.code yX4_cellOf cX4_cellOf 2 (some .int)]
def wsX2_smooth_r2 : List Cond := [Cond.methodLink RX2 48 yJ9_floorMod_7cf53, Cond.static yJ9_floorMod_7cf53, Cond.initialized RJ9, Cond.code yJ9_floorMod_7cf53 cJ9_floorMod_7cf53 3 (some .int)]
def wsX2_smooth : List Cond := .code yX2_smooth cX2_smooth 3 (some .int) :: ((wsX2_smooth_r1 ++ wsX2_smooth_r2) ++ wsX20)
def wsX2_growth : List Cond := .code yX2_growth cX2_growth 3 (some .int) :: ([.methodLink RX2 48 yJ9_floorMod_7cf53, .static yJ9_floorMod_7cf53, .initialized RJ9, .code yJ9_floorMod_7cf53 cJ9_floorMod_7cf53 3 (some .int)])
def wsX2_knotOf : List Cond := .code yX2_knotOf cX2_knotOf 12 (some .int) :: ([.fieldLink RX2 15 "BurinLines$Plate" "turns" "[I", .static yX4_cellOf, .initialized RX4, .code yX4_cellOf cX4_cellOf 2 (some .int), .methodLink RX2 53 yX2_growth, .static yX2_growth, .initialized RX2, .code yX2_growth cX2_growth 3 (some .int), .methodLink RX2 48 yJ9_floorMod_7cf53, .static yJ9_floorMod_7cf53, .initialized RJ9, .code yJ9_floorMod_7cf53 cJ9_floorMod_7cf53 3 (some .int)] ++ wsX20)
def wsX2_countToned : List Cond := .code yX2_countToned cX2_countToned 3 (some .int) :: ([.fieldLink RX2 9 "BurinLines$Plate" "tones" "[I"] ++ wsX20)
def wsX2_countTold : List Cond := .code yX2_countTold cX2_countTold 3 (some .int) :: ([.fieldLink RX2 18 "BurinLines$Plate" "told" "[Z"] ++ wsX20)
def wsX2_countKnots : List Cond := .code yX2_countKnots cX2_countKnots 5 (some .int) :: ([.methodLink RX2 56 yX2_knotOf, .instanceMethod yX2_knotOf, .selects RX2 yX2_knotOf yX2_knotOf, .initialized RX2, .code yX2_knotOf cX2_knotOf 12 (some .int), .fieldLink RX2 15 "BurinLines$Plate" "turns" "[I", .static yX4_cellOf, .initialized RX4, .code yX4_cellOf cX4_cellOf 2 (some .int), .methodLink RX2 53 yX2_growth, .static yX2_growth, .code yX2_growth cX2_growth 3 (some .int), .methodLink RX2 48 yJ9_floorMod_7cf53, .static yJ9_floorMod_7cf53, .initialized RJ9, .code yJ9_floorMod_7cf53 cJ9_floorMod_7cf53 3 (some .int)] ++ wsX20)
def wsX3_init : List Cond := .code yX3_init cX3_init 1 none :: ([.methodLink RX3 3 objectInit, .instanceMethod objectInit, .code objectInit ⟨#[0xb1]⟩ 1 none, .arrayClass .int, .fieldLink RX3 9 "BurinLines$Tool" "settings" "[I"] ++ wsX30)
def wsX3_change : List Cond := .code yX3_change cX3_change 4 (some .int) :: ([.fieldLink RX3 9 "BurinLines$Tool" "settings" "[I"] ++ wsX30)
def wsX3_toneOf : List Cond := .code yX3_toneOf cX3_toneOf 3 (some .int) :: ([.fieldLink RX3 9 "BurinLines$Tool" "settings" "[I"] ++ wsX30)
def wsX4_init_r1 : List Cond := [Cond.methodLink RX4 3 objectInit, Cond.instanceMethod objectInit, Cond.code objectInit ⟨#[0xb1]⟩ 1 none, Cond.classLink RX4 9 RX2, Cond.instantiable RX2 3, Cond.initialized RX2, Cond.fieldLink RX4 12 "BurinLines" "plate" "LBurinLines$Plate;", Cond.classLink RX4 16 RX3, Cond.instantiable RX3 1, Cond.initialized RX3, Cond.fieldLink RX4 19 "BurinLines" "tool" "LBurinLines$Tool;", Cond.classLink RX4 23 RX1, Cond.instantiable RX1 9, Cond.initialized RX1, Cond.fieldLink RX4 28 "BurinLines" "lightLayer" "LBurinLines$Layer;", Cond.fieldLink RX4 32 "BurinLines" "darkLayer" "LBurinLines$Layer;", Cond.classLink RX4 35 RX0, Cond.instantiable RX0 5, Cond.initialized RX0, Cond.fieldLink RX4 38 "BurinLines" "cutting" "LBurinLines$Cutting;", Cond.instanceMethod yX2_init, Cond.code yX2_init cX2_init 1 none, Cond.methodLink RX2 3 objectInit, Cond.arrayClass .int]
def wsX4_init_r2 : List Cond := [Cond.fieldLink RX2 9 "BurinLines$Plate" "tones" "[I", Cond.fieldLink RX2 15 "BurinLines$Plate" "turns" "[I", Cond.arrayClass .boolean, Cond.fieldLink RX2 18 "BurinLines$Plate" "told" "[Z", Cond.instanceMethod yX3_init, Cond.code yX3_init cX3_init 1 none, Cond.methodLink RX3 3 objectInit, Cond.fieldLink RX3 9 "BurinLines$Tool" "settings" "[I", Cond.methodLink RX4 25 yX1_init, Cond.instanceMethod yX1_init, Cond.code yX1_init cX1_init 2 none, Cond.methodLink RX1 3 objectInit, Cond.fieldLink RX1 9 "BurinLines$Layer" "wants" "[I", Cond.fieldLink RX1 15 "BurinLines$Layer" "ways" "[I", Cond.fieldLink RX1 18 "BurinLines$Layer" "widths" "[I", Cond.fieldLink RX1 21 "BurinLines$Layer" "firsts" "[I", Cond.fieldLink RX1 24 "BurinLines$Layer" "lasts" "[I", Cond.fieldLink RX1 27 "BurinLines$Layer" "lengths" "[I", Cond.fieldLink RX1 30 "BurinLines$Layer" "greatestWidths" "[I", Cond.fieldLink RX1 33 "BurinLines$Layer" "number" "I", Cond.instanceMethod yX0_init, Cond.code yX0_init cX0_init 1 none, Cond.methodLink RX0 3 objectInit, Cond.fieldLink RX0 9 "BurinLines$Cutting" "order" "[I"]
def wsX4_init_r3 : List Cond := [Cond.fieldLink RX0 15 "BurinLines$Cutting" "begins" "[I", Cond.fieldLink RX0 18 "BurinLines$Cutting" "done" "[Z"]
def wsX4_init : List Cond := .code yX4_init cX4_init 1 none :: ((wsX4_init_r1 ++ (wsX4_init_r2 ++ wsX4_init_r3)) ++ wsX20 ++ wsX40 ++ wsX30 ++ wsX10 ++ wsX00)
def wsX4_isTone : List Cond := .code yX4_isTone cX4_isTone 1 (some .boolean) :: ([])
def wsX4_tone : List Cond := .code yX4_tone cX4_tone 6 (some .int) :: ([.fieldLink RX4 12 "BurinLines" "plate" "LBurinLines$Plate;", .fieldLink RX4 54 "BurinLines$Plate" "tones" "[I", .methodLink RX4 42 yX4_isCell, .static yX4_isCell, .initialized RX4, .code yX4_isCell cX4_isCell 2 (some .boolean), .methodLink RX4 46 yX4_isTone, .static yX4_isTone, .code yX4_isTone cX4_isTone 1 (some .boolean), .methodLink RX4 50 yX4_cellOf, .static yX4_cellOf, .code yX4_cellOf cX4_cellOf 2 (some .int)] ++ wsX40 ++ wsX20)
def wsX4_shade : List Cond := .code yX4_shade cX4_shade 10 (some .int) :: ([.fieldLink RX4 12 "BurinLines" "plate" "LBurinLines$Plate;", .fieldLink RX4 54 "BurinLines$Plate" "tones" "[I", .methodLink RX4 42 yX4_isCell, .static yX4_isCell, .initialized RX4, .code yX4_isCell cX4_isCell 2 (some .boolean), .methodLink RX4 46 yX4_isTone, .static yX4_isTone, .code yX4_isTone cX4_isTone 1 (some .boolean), .methodLink RX4 50 yX4_cellOf, .static yX4_cellOf, .code yX4_cellOf cX4_cellOf 2 (some .int)] ++ wsX40 ++ wsX20)
def wsX4_tell : List Cond := .code yX4_tell cX4_tell 6 (some .int) :: ([.fieldLink RX4 12 "BurinLines" "plate" "LBurinLines$Plate;", .fieldLink RX4 58 "BurinLines$Plate" "turns" "[I", .fieldLink RX4 61 "BurinLines$Plate" "told" "[Z", .methodLink RX4 42 yX4_isCell, .static yX4_isCell, .initialized RX4, .code yX4_isCell cX4_isCell 2 (some .boolean), .methodLink RX4 50 yX4_cellOf, .static yX4_cellOf, .code yX4_cellOf cX4_cellOf 2 (some .int)] ++ wsX40 ++ wsX20)
def wsX4_free : List Cond := .code yX4_free cX4_free 4 (some .int) :: ([.fieldLink RX4 12 "BurinLines" "plate" "LBurinLines$Plate;", .fieldLink RX4 61 "BurinLines$Plate" "told" "[Z", .methodLink RX4 42 yX4_isCell, .static yX4_isCell, .initialized RX4, .code yX4_isCell cX4_isCell 2 (some .boolean), .methodLink RX4 50 yX4_cellOf, .static yX4_cellOf, .code yX4_cellOf cX4_cellOf 2 (some .int)] ++ wsX40 ++ wsX20)
def wsX4_even_r1 : List Cond := [Cond.fieldLink RX4 12 "BurinLines" "plate" "LBurinLines$Plate;", Cond.methodLink RX4 65 yX2_smooth, Cond.instanceMethod yX2_smooth, Cond.selects RX2 yX2_smooth yX2_smooth, Cond.initialized RX2, Cond.code yX2_smooth cX2_smooth 3 (some .int), Cond.methodLink RX2 22 yX2_goThrough, Cond.instanceMethod yX2_goThrough, Cond.selects RX2 yX2_goThrough yX2_goThrough, Cond.code yX2_goThrough cX2_goThrough 4 (some .boolean), Cond.fieldLink RX2 18 "BurinLines$Plate" "told" "[Z", Cond.fieldLink RX2 15 "BurinLines$Plate" "turns" "[I", Cond.methodLink RX2 26 yX2_calmestTurn, Cond.instanceMethod yX2_calmestTurn, Cond.selects RX2 yX2_calmestTurn yX2_calmestTurn, Cond.code yX2_calmestTurn cX2_calmestTurn 6 (some .int), Cond.methodLink RX2 30 yX2_strain, Cond.instanceMethod yX2_strain, Cond.selects RX2 yX2_strain yX2_strain, Cond.code yX2_strain cX2_strain 5 (some .int), Cond.methodLink RX2 34 yX2_strainAgainst, Cond.instanceMethod yX2_strainAgainst, Cond.selects RX2 yX2_strainAgainst yX2_strainAgainst, Cond.code yX2_strainAgainst cX2_strainAgainst 4 (some .int)]
def wsX4_even_r2 : List Cond := [Cond.static yX4_isCell, Cond.initialized RX4, Cond.code yX4_isCell cX4_isCell 2 (some .boolean), Cond.static yX4_cellOf, Cond.code yX4_cellOf cX4_cellOf 2 (some .int), Cond.methodLink RX2 48 yJ9_floorMod_7cf53, Cond.static yJ9_floorMod_7cf53, Cond.initialized RJ9, Cond.code yJ9_floorMod_7cf53 cJ9_floorMod_7cf53 3 (some .int)]
def wsX4_even : List Cond := .code yX4_even cX4_even 1 (some .int) :: ((wsX4_even_r1 ++ wsX4_even_r2) ++ wsX40 ++ wsX20)
def wsX4_at : List Cond := .code yX4_at cX4_at 5 (some .int) :: ([.fieldLink RX4 12 "BurinLines" "plate" "LBurinLines$Plate;", .fieldLink RX4 54 "BurinLines$Plate" "tones" "[I", .fieldLink RX4 58 "BurinLines$Plate" "turns" "[I", .fieldLink RX4 61 "BurinLines$Plate" "told" "[Z", .methodLink RX4 42 yX4_isCell, .static yX4_isCell, .initialized RX4, .code yX4_isCell cX4_isCell 2 (some .boolean), .methodLink RX4 50 yX4_cellOf, .static yX4_cellOf, .code yX4_cellOf cX4_cellOf 2 (some .int)] ++ wsX40 ++ wsX20)
def wsX4_isBlock : List Cond := .code yX4_isBlock cX4_isBlock 2 (some .boolean) :: ([])
def wsX4_knot : List Cond := .code yX4_knot cX4_knot 3 (some .int) :: ([.fieldLink RX4 12 "BurinLines" "plate" "LBurinLines$Plate;", .methodLink RX4 69 yX4_isBlock, .static yX4_isBlock, .initialized RX4, .code yX4_isBlock cX4_isBlock 2 (some .boolean), .methodLink RX4 72 yX2_knotOf, .instanceMethod yX2_knotOf, .selects RX2 yX2_knotOf yX2_knotOf, .initialized RX2, .code yX2_knotOf cX2_knotOf 12 (some .int), .fieldLink RX2 15 "BurinLines$Plate" "turns" "[I", .static yX4_cellOf, .code yX4_cellOf cX4_cellOf 2 (some .int), .methodLink RX2 53 yX2_growth, .static yX2_growth, .code yX2_growth cX2_growth 3 (some .int), .methodLink RX2 48 yJ9_floorMod_7cf53, .static yJ9_floorMod_7cf53, .initialized RJ9, .code yJ9_floorMod_7cf53 cJ9_floorMod_7cf53 3 (some .int)] ++ wsX40 ++ wsX20)
def wsX4_set : List Cond := .code yX4_set cX4_set 3 (some .int) :: ([.fieldLink RX4 19 "BurinLines" "tool" "LBurinLines$Tool;", .methodLink RX4 75 yX3_change, .instanceMethod yX3_change, .selects RX3 yX3_change yX3_change, .initialized RX3, .code yX3_change cX3_change 4 (some .int), .fieldLink RX3 9 "BurinLines$Tool" "settings" "[I"] ++ wsX40 ++ wsX30)
def wsX4_isLayer : List Cond := .code yX4_isLayer cX4_isLayer 1 (some .boolean) :: ([])
def wsX4_wanted : List Cond := .code yX4_wanted cX4_wanted 4 (some .int) :: ([.fieldLink RX4 19 "BurinLines" "tool" "LBurinLines$Tool;", .fieldLink RX4 12 "BurinLines" "plate" "LBurinLines$Plate;", .fieldLink RX4 54 "BurinLines$Plate" "tones" "[I", .methodLink RX4 42 yX4_isCell, .static yX4_isCell, .initialized RX4, .code yX4_isCell cX4_isCell 2 (some .boolean), .methodLink RX4 78 yX4_isLayer, .static yX4_isLayer, .code yX4_isLayer cX4_isLayer 1 (some .boolean), .methodLink RX4 50 yX4_cellOf, .static yX4_cellOf, .code yX4_cellOf cX4_cellOf 2 (some .int), .methodLink RX4 81 yX3_widthFor, .instanceMethod yX3_widthFor, .selects RX3 yX3_widthFor yX3_widthFor, .initialized RX3, .code yX3_widthFor cX3_widthFor 6 (some .int), .fieldLink RX3 9 "BurinLines$Tool" "settings" "[I", .methodLink RX3 21 Lib.Math.min.name, .static Lib.Math.min.name, .initialized "java/lang/Math", .code Lib.Math.min.name Lib.Math.min.code 2 (some .int)] ++ wsX40 ++ wsX20 ++ wsX30)
def wsX4_drawnLayer_r1 : List Cond := [Cond.fieldLink RX4 28 "BurinLines" "lightLayer" "LBurinLines$Layer;", Cond.fieldLink RX4 32 "BurinLines" "darkLayer" "LBurinLines$Layer;", Cond.fieldLink RX4 12 "BurinLines" "plate" "LBurinLines$Plate;", Cond.fieldLink RX4 19 "BurinLines" "tool" "LBurinLines$Tool;", Cond.methodLink RX4 150 yX1_draw, Cond.instanceMethod yX1_draw, Cond.selects RX1 yX1_draw yX1_draw, Cond.initialized RX1, Cond.code yX1_draw cX1_draw 4 none, Cond.fieldLink RX1 9 "BurinLines$Layer" "wants" "[I", Cond.fieldLink RX1 37 "BurinLines$Plate" "tones" "[I", Cond.fieldLink RX1 33 "BurinLines$Layer" "number" "I", Cond.fieldLink RX1 15 "BurinLines$Layer" "ways" "[I", Cond.fieldLink RX1 48 "BurinLines$Plate" "turns" "[I", Cond.fieldLink RX1 18 "BurinLines$Layer" "widths" "[I", Cond.fieldLink RX1 55 "BurinLines$Layer" "pathCount" "I", Cond.methodLink RX1 42 yX3_widthFor, Cond.instanceMethod yX3_widthFor, Cond.selects RX3 yX3_widthFor yX3_widthFor, Cond.initialized RX3, Cond.code yX3_widthFor cX3_widthFor 6 (some .int), Cond.fieldLink RX3 9 "BurinLines$Tool" "settings" "[I", Cond.methodLink RX3 21 Lib.Math.min.name, Cond.static Lib.Math.min.name]
def wsX4_drawnLayer_r2 : List Cond := [Cond.initialized "java/lang/Math", Cond.code Lib.Math.min.name Lib.Math.min.code 2 (some .int), Cond.methodLink RX1 51 yX1_wayFor, Cond.instanceMethod yX1_wayFor, Cond.selects RX1 yX1_wayFor yX1_wayFor, Cond.code yX1_wayFor cX1_wayFor 3 (some .int), Cond.methodLink RX1 69 yJ9_floorMod_7cf53, Cond.static yJ9_floorMod_7cf53, Cond.initialized RJ9, Cond.code yJ9_floorMod_7cf53 cJ9_floorMod_7cf53 3 (some .int), Cond.methodLink RX1 58 yX1_tiedTo, Cond.instanceMethod yX1_tiedTo, Cond.selects RX1 yX1_tiedTo yX1_tiedTo, Cond.code yX1_tiedTo cX1_tiedTo 7 (some .int), Cond.static yX4_isCell, Cond.initialized RX4, Cond.code yX4_isCell cX4_isCell 2 (some .boolean), Cond.static yX4_cellOf, Cond.code yX4_cellOf cX4_cellOf 2 (some .int), Cond.methodLink RX1 61 yX3_swell, Cond.instanceMethod yX3_swell, Cond.selects RX3 yX3_swell yX3_swell, Cond.code yX3_swell cX3_swell 1 (some .int), Cond.methodLink RX1 65 yX1_addPath]
def wsX4_drawnLayer_r3 : List Cond := [Cond.instanceMethod yX1_addPath, Cond.selects RX1 yX1_addPath yX1_addPath, Cond.code yX1_addPath cX1_addPath 4 none, Cond.fieldLink RX1 21 "BurinLines$Layer" "firsts" "[I", Cond.fieldLink RX1 24 "BurinLines$Layer" "lasts" "[I", Cond.fieldLink RX1 27 "BurinLines$Layer" "lengths" "[I", Cond.fieldLink RX1 30 "BurinLines$Layer" "greatestWidths" "[I", Cond.methodLink RX1 87 yX1_limitSwell, Cond.instanceMethod yX1_limitSwell, Cond.selects RX1 yX1_limitSwell yX1_limitSwell, Cond.code yX1_limitSwell cX1_limitSwell 7 (some .int), Cond.methodLink RX1 97 Lib.Math.min.name, Cond.static yX4_wayBetween, Cond.code yX4_wayBetween cX4_wayBetween 4 (some .int), Cond.methodLink RX4 98 Lib.Math.abs.name, Cond.static Lib.Math.abs.name, Cond.code Lib.Math.abs.name Lib.Math.abs.code 1 (some .int), Cond.methodLink RX4 103 Lib.Math.max.name, Cond.static Lib.Math.max.name, Cond.code Lib.Math.max.name Lib.Math.max.code 2 (some .int), Cond.methodLink RX1 94 yX1_greatestWidthFrom, Cond.instanceMethod yX1_greatestWidthFrom, Cond.selects RX1 yX1_greatestWidthFrom yX1_greatestWidthFrom, Cond.code yX1_greatestWidthFrom cX1_greatestWidthFrom 5 (some .int)]
def wsX4_drawnLayer_r4 : List Cond := [Cond.methodLink RX1 100 Lib.Math.max.name]
def wsX4_drawnLayer : List Cond := .code yX4_drawnLayer cX4_drawnLayer 3 (some (.object "BurinLines$Layer")) :: ((wsX4_drawnLayer_r1 ++ (wsX4_drawnLayer_r2 ++ (wsX4_drawnLayer_r3 ++ wsX4_drawnLayer_r4))) ++ wsX40 ++ wsX10 ++ wsX20 ++ wsX30)
def wsX4_width_r1 : List Cond := [Cond.fieldLink RX4 88 "BurinLines$Layer" "widths" "[I", Cond.methodLink RX4 42 yX4_isCell, Cond.static yX4_isCell, Cond.initialized RX4, Cond.code yX4_isCell cX4_isCell 2 (some .boolean), Cond.methodLink RX4 78 yX4_isLayer, Cond.static yX4_isLayer, Cond.code yX4_isLayer cX4_isLayer 1 (some .boolean), Cond.methodLink RX4 84 yX4_drawnLayer, Cond.instanceMethod yX4_drawnLayer, Cond.selects RX4 yX4_drawnLayer yX4_drawnLayer, Cond.code yX4_drawnLayer cX4_drawnLayer 3 (some (.object "BurinLines$Layer")), Cond.fieldLink RX4 28 "BurinLines" "lightLayer" "LBurinLines$Layer;", Cond.fieldLink RX4 32 "BurinLines" "darkLayer" "LBurinLines$Layer;", Cond.fieldLink RX4 12 "BurinLines" "plate" "LBurinLines$Plate;", Cond.fieldLink RX4 19 "BurinLines" "tool" "LBurinLines$Tool;", Cond.methodLink RX4 150 yX1_draw, Cond.instanceMethod yX1_draw, Cond.selects RX1 yX1_draw yX1_draw, Cond.initialized RX1, Cond.code yX1_draw cX1_draw 4 none, Cond.fieldLink RX1 9 "BurinLines$Layer" "wants" "[I", Cond.fieldLink RX1 37 "BurinLines$Plate" "tones" "[I", Cond.fieldLink RX1 33 "BurinLines$Layer" "number" "I"]
def wsX4_width_r2 : List Cond := [Cond.fieldLink RX1 15 "BurinLines$Layer" "ways" "[I", Cond.fieldLink RX1 48 "BurinLines$Plate" "turns" "[I", Cond.fieldLink RX1 18 "BurinLines$Layer" "widths" "[I", Cond.fieldLink RX1 55 "BurinLines$Layer" "pathCount" "I", Cond.methodLink RX1 42 yX3_widthFor, Cond.instanceMethod yX3_widthFor, Cond.selects RX3 yX3_widthFor yX3_widthFor, Cond.initialized RX3, Cond.code yX3_widthFor cX3_widthFor 6 (some .int), Cond.fieldLink RX3 9 "BurinLines$Tool" "settings" "[I", Cond.methodLink RX3 21 Lib.Math.min.name, Cond.static Lib.Math.min.name, Cond.initialized "java/lang/Math", Cond.code Lib.Math.min.name Lib.Math.min.code 2 (some .int), Cond.methodLink RX1 51 yX1_wayFor, Cond.instanceMethod yX1_wayFor, Cond.selects RX1 yX1_wayFor yX1_wayFor, Cond.code yX1_wayFor cX1_wayFor 3 (some .int), Cond.methodLink RX1 69 yJ9_floorMod_7cf53, Cond.static yJ9_floorMod_7cf53, Cond.initialized RJ9, Cond.code yJ9_floorMod_7cf53 cJ9_floorMod_7cf53 3 (some .int), Cond.methodLink RX1 58 yX1_tiedTo, Cond.instanceMethod yX1_tiedTo]
def wsX4_width_r3 : List Cond := [Cond.selects RX1 yX1_tiedTo yX1_tiedTo, Cond.code yX1_tiedTo cX1_tiedTo 7 (some .int), Cond.static yX4_cellOf, Cond.code yX4_cellOf cX4_cellOf 2 (some .int), Cond.methodLink RX1 61 yX3_swell, Cond.instanceMethod yX3_swell, Cond.selects RX3 yX3_swell yX3_swell, Cond.code yX3_swell cX3_swell 1 (some .int), Cond.methodLink RX1 65 yX1_addPath, Cond.instanceMethod yX1_addPath, Cond.selects RX1 yX1_addPath yX1_addPath, Cond.code yX1_addPath cX1_addPath 4 none, Cond.fieldLink RX1 21 "BurinLines$Layer" "firsts" "[I", Cond.fieldLink RX1 24 "BurinLines$Layer" "lasts" "[I", Cond.fieldLink RX1 27 "BurinLines$Layer" "lengths" "[I", Cond.fieldLink RX1 30 "BurinLines$Layer" "greatestWidths" "[I", Cond.methodLink RX1 87 yX1_limitSwell, Cond.instanceMethod yX1_limitSwell, Cond.selects RX1 yX1_limitSwell yX1_limitSwell, Cond.code yX1_limitSwell cX1_limitSwell 7 (some .int), Cond.methodLink RX1 97 Lib.Math.min.name, Cond.static yX4_wayBetween, Cond.code yX4_wayBetween cX4_wayBetween 4 (some .int), Cond.methodLink RX4 98 Lib.Math.abs.name]
def wsX4_width_r4 : List Cond := [Cond.static Lib.Math.abs.name, Cond.code Lib.Math.abs.name Lib.Math.abs.code 1 (some .int), Cond.methodLink RX4 103 Lib.Math.max.name, Cond.static Lib.Math.max.name, Cond.code Lib.Math.max.name Lib.Math.max.code 2 (some .int), Cond.methodLink RX1 94 yX1_greatestWidthFrom, Cond.instanceMethod yX1_greatestWidthFrom, Cond.selects RX1 yX1_greatestWidthFrom yX1_greatestWidthFrom, Cond.code yX1_greatestWidthFrom cX1_greatestWidthFrom 5 (some .int), Cond.methodLink RX1 100 Lib.Math.max.name, Cond.methodLink RX4 50 yX4_cellOf]
def wsX4_width : List Cond := .code yX4_width cX4_width 4 (some .int) :: ((wsX4_width_r1 ++ (wsX4_width_r2 ++ (wsX4_width_r3 ++ wsX4_width_r4))) ++ wsX10 ++ wsX40 ++ wsX20 ++ wsX30)
def wsX4_drawBothLayers_r1 : List Cond := [Cond.fieldLink RX4 28 "BurinLines" "lightLayer" "LBurinLines$Layer;", Cond.fieldLink RX4 12 "BurinLines" "plate" "LBurinLines$Plate;", Cond.fieldLink RX4 19 "BurinLines" "tool" "LBurinLines$Tool;", Cond.fieldLink RX4 32 "BurinLines" "darkLayer" "LBurinLines$Layer;", Cond.methodLink RX4 150 yX1_draw, Cond.instanceMethod yX1_draw, Cond.selects RX1 yX1_draw yX1_draw, Cond.initialized RX1, Cond.code yX1_draw cX1_draw 4 none, Cond.fieldLink RX1 9 "BurinLines$Layer" "wants" "[I", Cond.fieldLink RX1 37 "BurinLines$Plate" "tones" "[I", Cond.fieldLink RX1 33 "BurinLines$Layer" "number" "I", Cond.fieldLink RX1 15 "BurinLines$Layer" "ways" "[I", Cond.fieldLink RX1 48 "BurinLines$Plate" "turns" "[I", Cond.fieldLink RX1 18 "BurinLines$Layer" "widths" "[I", Cond.fieldLink RX1 55 "BurinLines$Layer" "pathCount" "I", Cond.methodLink RX1 42 yX3_widthFor, Cond.instanceMethod yX3_widthFor, Cond.selects RX3 yX3_widthFor yX3_widthFor, Cond.initialized RX3, Cond.code yX3_widthFor cX3_widthFor 6 (some .int), Cond.fieldLink RX3 9 "BurinLines$Tool" "settings" "[I", Cond.methodLink RX3 21 Lib.Math.min.name, Cond.static Lib.Math.min.name]
def wsX4_drawBothLayers_r2 : List Cond := [Cond.initialized "java/lang/Math", Cond.code Lib.Math.min.name Lib.Math.min.code 2 (some .int), Cond.methodLink RX1 51 yX1_wayFor, Cond.instanceMethod yX1_wayFor, Cond.selects RX1 yX1_wayFor yX1_wayFor, Cond.code yX1_wayFor cX1_wayFor 3 (some .int), Cond.methodLink RX1 69 yJ9_floorMod_7cf53, Cond.static yJ9_floorMod_7cf53, Cond.initialized RJ9, Cond.code yJ9_floorMod_7cf53 cJ9_floorMod_7cf53 3 (some .int), Cond.methodLink RX1 58 yX1_tiedTo, Cond.instanceMethod yX1_tiedTo, Cond.selects RX1 yX1_tiedTo yX1_tiedTo, Cond.code yX1_tiedTo cX1_tiedTo 7 (some .int), Cond.static yX4_isCell, Cond.initialized RX4, Cond.code yX4_isCell cX4_isCell 2 (some .boolean), Cond.static yX4_cellOf, Cond.code yX4_cellOf cX4_cellOf 2 (some .int), Cond.methodLink RX1 61 yX3_swell, Cond.instanceMethod yX3_swell, Cond.selects RX3 yX3_swell yX3_swell, Cond.code yX3_swell cX3_swell 1 (some .int), Cond.methodLink RX1 65 yX1_addPath]
def wsX4_drawBothLayers_r3 : List Cond := [Cond.instanceMethod yX1_addPath, Cond.selects RX1 yX1_addPath yX1_addPath, Cond.code yX1_addPath cX1_addPath 4 none, Cond.fieldLink RX1 21 "BurinLines$Layer" "firsts" "[I", Cond.fieldLink RX1 24 "BurinLines$Layer" "lasts" "[I", Cond.fieldLink RX1 27 "BurinLines$Layer" "lengths" "[I", Cond.fieldLink RX1 30 "BurinLines$Layer" "greatestWidths" "[I", Cond.methodLink RX1 87 yX1_limitSwell, Cond.instanceMethod yX1_limitSwell, Cond.selects RX1 yX1_limitSwell yX1_limitSwell, Cond.code yX1_limitSwell cX1_limitSwell 7 (some .int), Cond.methodLink RX1 97 Lib.Math.min.name, Cond.static yX4_wayBetween, Cond.code yX4_wayBetween cX4_wayBetween 4 (some .int), Cond.methodLink RX4 98 Lib.Math.abs.name, Cond.static Lib.Math.abs.name, Cond.code Lib.Math.abs.name Lib.Math.abs.code 1 (some .int), Cond.methodLink RX4 103 Lib.Math.max.name, Cond.static Lib.Math.max.name, Cond.code Lib.Math.max.name Lib.Math.max.code 2 (some .int), Cond.methodLink RX1 94 yX1_greatestWidthFrom, Cond.instanceMethod yX1_greatestWidthFrom, Cond.selects RX1 yX1_greatestWidthFrom yX1_greatestWidthFrom, Cond.code yX1_greatestWidthFrom cX1_greatestWidthFrom 5 (some .int)]
def wsX4_drawBothLayers_r4 : List Cond := [Cond.methodLink RX1 100 Lib.Math.max.name]
def wsX4_drawBothLayers : List Cond := .code yX4_drawBothLayers cX4_drawBothLayers 1 none :: ((wsX4_drawBothLayers_r1 ++ (wsX4_drawBothLayers_r2 ++ (wsX4_drawBothLayers_r3 ++ wsX4_drawBothLayers_r4))) ++ wsX40 ++ wsX10 ++ wsX20 ++ wsX30)
def wsX4_toneMade : List Cond := .code yX4_toneMade cX4_toneMade 2 (some .int) :: ([.fieldLink RX4 19 "BurinLines" "tool" "LBurinLines$Tool;", .fieldLink RX4 28 "BurinLines" "lightLayer" "LBurinLines$Layer;", .fieldLink RX4 88 "BurinLines$Layer" "widths" "[I", .fieldLink RX4 32 "BurinLines" "darkLayer" "LBurinLines$Layer;", .methodLink RX4 154 yX3_toneOf, .instanceMethod yX3_toneOf, .selects RX3 yX3_toneOf yX3_toneOf, .initialized RX3, .code yX3_toneOf cX3_toneOf 3 (some .int), .fieldLink RX3 9 "BurinLines$Tool" "settings" "[I"] ++ wsX40 ++ wsX10 ++ wsX30)
def wsX4_made_r1 : List Cond := [Cond.methodLink RX4 42 yX4_isCell, Cond.static yX4_isCell, Cond.initialized RX4, Cond.code yX4_isCell cX4_isCell 2 (some .boolean), Cond.methodLink RX4 91 yX4_drawBothLayers, Cond.instanceMethod yX4_drawBothLayers, Cond.selects RX4 yX4_drawBothLayers yX4_drawBothLayers, Cond.code yX4_drawBothLayers cX4_drawBothLayers 1 none, Cond.fieldLink RX4 28 "BurinLines" "lightLayer" "LBurinLines$Layer;", Cond.fieldLink RX4 12 "BurinLines" "plate" "LBurinLines$Plate;", Cond.fieldLink RX4 19 "BurinLines" "tool" "LBurinLines$Tool;", Cond.fieldLink RX4 32 "BurinLines" "darkLayer" "LBurinLines$Layer;", Cond.methodLink RX4 150 yX1_draw, Cond.instanceMethod yX1_draw, Cond.selects RX1 yX1_draw yX1_draw, Cond.initialized RX1, Cond.code yX1_draw cX1_draw 4 none, Cond.fieldLink RX1 9 "BurinLines$Layer" "wants" "[I", Cond.fieldLink RX1 37 "BurinLines$Plate" "tones" "[I", Cond.fieldLink RX1 33 "BurinLines$Layer" "number" "I", Cond.fieldLink RX1 15 "BurinLines$Layer" "ways" "[I", Cond.fieldLink RX1 48 "BurinLines$Plate" "turns" "[I", Cond.fieldLink RX1 18 "BurinLines$Layer" "widths" "[I", Cond.fieldLink RX1 55 "BurinLines$Layer" "pathCount" "I"]
def wsX4_made_r2 : List Cond := [Cond.methodLink RX1 42 yX3_widthFor, Cond.instanceMethod yX3_widthFor, Cond.selects RX3 yX3_widthFor yX3_widthFor, Cond.initialized RX3, Cond.code yX3_widthFor cX3_widthFor 6 (some .int), Cond.fieldLink RX3 9 "BurinLines$Tool" "settings" "[I", Cond.methodLink RX3 21 Lib.Math.min.name, Cond.static Lib.Math.min.name, Cond.initialized "java/lang/Math", Cond.code Lib.Math.min.name Lib.Math.min.code 2 (some .int), Cond.methodLink RX1 51 yX1_wayFor, Cond.instanceMethod yX1_wayFor, Cond.selects RX1 yX1_wayFor yX1_wayFor, Cond.code yX1_wayFor cX1_wayFor 3 (some .int), Cond.methodLink RX1 69 yJ9_floorMod_7cf53, Cond.static yJ9_floorMod_7cf53, Cond.initialized RJ9, Cond.code yJ9_floorMod_7cf53 cJ9_floorMod_7cf53 3 (some .int), Cond.methodLink RX1 58 yX1_tiedTo, Cond.instanceMethod yX1_tiedTo, Cond.selects RX1 yX1_tiedTo yX1_tiedTo, Cond.code yX1_tiedTo cX1_tiedTo 7 (some .int), Cond.static yX4_cellOf, Cond.code yX4_cellOf cX4_cellOf 2 (some .int)]
def wsX4_made_r3 : List Cond := [Cond.methodLink RX1 61 yX3_swell, Cond.instanceMethod yX3_swell, Cond.selects RX3 yX3_swell yX3_swell, Cond.code yX3_swell cX3_swell 1 (some .int), Cond.methodLink RX1 65 yX1_addPath, Cond.instanceMethod yX1_addPath, Cond.selects RX1 yX1_addPath yX1_addPath, Cond.code yX1_addPath cX1_addPath 4 none, Cond.fieldLink RX1 21 "BurinLines$Layer" "firsts" "[I", Cond.fieldLink RX1 24 "BurinLines$Layer" "lasts" "[I", Cond.fieldLink RX1 27 "BurinLines$Layer" "lengths" "[I", Cond.fieldLink RX1 30 "BurinLines$Layer" "greatestWidths" "[I", Cond.methodLink RX1 87 yX1_limitSwell, Cond.instanceMethod yX1_limitSwell, Cond.selects RX1 yX1_limitSwell yX1_limitSwell, Cond.code yX1_limitSwell cX1_limitSwell 7 (some .int), Cond.methodLink RX1 97 Lib.Math.min.name, Cond.static yX4_wayBetween, Cond.code yX4_wayBetween cX4_wayBetween 4 (some .int), Cond.methodLink RX4 98 Lib.Math.abs.name, Cond.static Lib.Math.abs.name, Cond.code Lib.Math.abs.name Lib.Math.abs.code 1 (some .int), Cond.methodLink RX4 103 Lib.Math.max.name, Cond.static Lib.Math.max.name]
def wsX4_made_r4 : List Cond := [Cond.code Lib.Math.max.name Lib.Math.max.code 2 (some .int), Cond.methodLink RX1 94 yX1_greatestWidthFrom, Cond.instanceMethod yX1_greatestWidthFrom, Cond.selects RX1 yX1_greatestWidthFrom yX1_greatestWidthFrom, Cond.code yX1_greatestWidthFrom cX1_greatestWidthFrom 5 (some .int), Cond.methodLink RX1 100 Lib.Math.max.name, Cond.methodLink RX4 50 yX4_cellOf, Cond.methodLink RX4 94 yX4_toneMade, Cond.instanceMethod yX4_toneMade, Cond.selects RX4 yX4_toneMade yX4_toneMade, Cond.code yX4_toneMade cX4_toneMade 2 (some .int), Cond.fieldLink RX4 88 "BurinLines$Layer" "widths" "[I", Cond.methodLink RX4 154 yX3_toneOf, Cond.instanceMethod yX3_toneOf, Cond.selects RX3 yX3_toneOf yX3_toneOf, Cond.code yX3_toneOf cX3_toneOf 3 (some .int)]
def wsX4_made : List Cond := .code yX4_made cX4_made 3 (some .int) :: ((wsX4_made_r1 ++ (wsX4_made_r2 ++ (wsX4_made_r3 ++ wsX4_made_r4))) ++ wsX40 ++ wsX10 ++ wsX20 ++ wsX30)
def wsX4_error_r1 : List Cond := [Cond.fieldLink RX4 12 "BurinLines" "plate" "LBurinLines$Plate;", Cond.fieldLink RX4 54 "BurinLines$Plate" "tones" "[I", Cond.methodLink RX4 98 Lib.Math.abs.name, Cond.static Lib.Math.abs.name, Cond.initialized "java/lang/Math", Cond.code Lib.Math.abs.name Lib.Math.abs.code 1 (some .int), Cond.methodLink RX4 103 Lib.Math.max.name, Cond.static Lib.Math.max.name, Cond.code Lib.Math.max.name Lib.Math.max.code 2 (some .int), Cond.methodLink RX4 91 yX4_drawBothLayers, Cond.instanceMethod yX4_drawBothLayers, Cond.selects RX4 yX4_drawBothLayers yX4_drawBothLayers, Cond.initialized RX4, Cond.code yX4_drawBothLayers cX4_drawBothLayers 1 none, Cond.fieldLink RX4 28 "BurinLines" "lightLayer" "LBurinLines$Layer;", Cond.fieldLink RX4 19 "BurinLines" "tool" "LBurinLines$Tool;", Cond.fieldLink RX4 32 "BurinLines" "darkLayer" "LBurinLines$Layer;", Cond.methodLink RX4 150 yX1_draw, Cond.instanceMethod yX1_draw, Cond.selects RX1 yX1_draw yX1_draw, Cond.initialized RX1, Cond.code yX1_draw cX1_draw 4 none, Cond.fieldLink RX1 9 "BurinLines$Layer" "wants" "[I", Cond.fieldLink RX1 37 "BurinLines$Plate" "tones" "[I"]
def wsX4_error_r2 : List Cond := [Cond.fieldLink RX1 33 "BurinLines$Layer" "number" "I", Cond.fieldLink RX1 15 "BurinLines$Layer" "ways" "[I", Cond.fieldLink RX1 48 "BurinLines$Plate" "turns" "[I", Cond.fieldLink RX1 18 "BurinLines$Layer" "widths" "[I", Cond.fieldLink RX1 55 "BurinLines$Layer" "pathCount" "I", Cond.methodLink RX1 42 yX3_widthFor, Cond.instanceMethod yX3_widthFor, Cond.selects RX3 yX3_widthFor yX3_widthFor, Cond.initialized RX3, Cond.code yX3_widthFor cX3_widthFor 6 (some .int), Cond.fieldLink RX3 9 "BurinLines$Tool" "settings" "[I", Cond.methodLink RX3 21 Lib.Math.min.name, Cond.static Lib.Math.min.name, Cond.code Lib.Math.min.name Lib.Math.min.code 2 (some .int), Cond.methodLink RX1 51 yX1_wayFor, Cond.instanceMethod yX1_wayFor, Cond.selects RX1 yX1_wayFor yX1_wayFor, Cond.code yX1_wayFor cX1_wayFor 3 (some .int), Cond.methodLink RX1 69 yJ9_floorMod_7cf53, Cond.static yJ9_floorMod_7cf53, Cond.initialized RJ9, Cond.code yJ9_floorMod_7cf53 cJ9_floorMod_7cf53 3 (some .int), Cond.methodLink RX1 58 yX1_tiedTo, Cond.instanceMethod yX1_tiedTo]
def wsX4_error_r3 : List Cond := [Cond.selects RX1 yX1_tiedTo yX1_tiedTo, Cond.code yX1_tiedTo cX1_tiedTo 7 (some .int), Cond.static yX4_isCell, Cond.code yX4_isCell cX4_isCell 2 (some .boolean), Cond.static yX4_cellOf, Cond.code yX4_cellOf cX4_cellOf 2 (some .int), Cond.methodLink RX1 61 yX3_swell, Cond.instanceMethod yX3_swell, Cond.selects RX3 yX3_swell yX3_swell, Cond.code yX3_swell cX3_swell 1 (some .int), Cond.methodLink RX1 65 yX1_addPath, Cond.instanceMethod yX1_addPath, Cond.selects RX1 yX1_addPath yX1_addPath, Cond.code yX1_addPath cX1_addPath 4 none, Cond.fieldLink RX1 21 "BurinLines$Layer" "firsts" "[I", Cond.fieldLink RX1 24 "BurinLines$Layer" "lasts" "[I", Cond.fieldLink RX1 27 "BurinLines$Layer" "lengths" "[I", Cond.fieldLink RX1 30 "BurinLines$Layer" "greatestWidths" "[I", Cond.methodLink RX1 87 yX1_limitSwell, Cond.instanceMethod yX1_limitSwell, Cond.selects RX1 yX1_limitSwell yX1_limitSwell, Cond.code yX1_limitSwell cX1_limitSwell 7 (some .int), Cond.methodLink RX1 97 Lib.Math.min.name, Cond.static yX4_wayBetween]
def wsX4_error_r4 : List Cond := [Cond.code yX4_wayBetween cX4_wayBetween 4 (some .int), Cond.methodLink RX1 94 yX1_greatestWidthFrom, Cond.instanceMethod yX1_greatestWidthFrom, Cond.selects RX1 yX1_greatestWidthFrom yX1_greatestWidthFrom, Cond.code yX1_greatestWidthFrom cX1_greatestWidthFrom 5 (some .int), Cond.methodLink RX1 100 Lib.Math.max.name, Cond.methodLink RX4 94 yX4_toneMade, Cond.instanceMethod yX4_toneMade, Cond.selects RX4 yX4_toneMade yX4_toneMade, Cond.code yX4_toneMade cX4_toneMade 2 (some .int), Cond.fieldLink RX4 88 "BurinLines$Layer" "widths" "[I", Cond.methodLink RX4 154 yX3_toneOf, Cond.instanceMethod yX3_toneOf, Cond.selects RX3 yX3_toneOf yX3_toneOf, Cond.code yX3_toneOf cX3_toneOf 3 (some .int)]
def wsX4_error : List Cond := .code yX4_error cX4_error 6 (some .int) :: ((wsX4_error_r1 ++ (wsX4_error_r2 ++ (wsX4_error_r3 ++ wsX4_error_r4))) ++ wsX40 ++ wsX20 ++ wsX10 ++ wsX30)
def wsX4_paths_r1 : List Cond := [Cond.fieldLink RX4 106 "BurinLines$Layer" "pathCount" "I", Cond.methodLink RX4 78 yX4_isLayer, Cond.static yX4_isLayer, Cond.initialized RX4, Cond.code yX4_isLayer cX4_isLayer 1 (some .boolean), Cond.methodLink RX4 84 yX4_drawnLayer, Cond.instanceMethod yX4_drawnLayer, Cond.selects RX4 yX4_drawnLayer yX4_drawnLayer, Cond.code yX4_drawnLayer cX4_drawnLayer 3 (some (.object "BurinLines$Layer")), Cond.fieldLink RX4 28 "BurinLines" "lightLayer" "LBurinLines$Layer;", Cond.fieldLink RX4 32 "BurinLines" "darkLayer" "LBurinLines$Layer;", Cond.fieldLink RX4 12 "BurinLines" "plate" "LBurinLines$Plate;", Cond.fieldLink RX4 19 "BurinLines" "tool" "LBurinLines$Tool;", Cond.methodLink RX4 150 yX1_draw, Cond.instanceMethod yX1_draw, Cond.selects RX1 yX1_draw yX1_draw, Cond.initialized RX1, Cond.code yX1_draw cX1_draw 4 none, Cond.fieldLink RX1 9 "BurinLines$Layer" "wants" "[I", Cond.fieldLink RX1 37 "BurinLines$Plate" "tones" "[I", Cond.fieldLink RX1 33 "BurinLines$Layer" "number" "I", Cond.fieldLink RX1 15 "BurinLines$Layer" "ways" "[I", Cond.fieldLink RX1 48 "BurinLines$Plate" "turns" "[I", Cond.fieldLink RX1 18 "BurinLines$Layer" "widths" "[I"]
def wsX4_paths_r2 : List Cond := [Cond.fieldLink RX1 55 "BurinLines$Layer" "pathCount" "I", Cond.methodLink RX1 42 yX3_widthFor, Cond.instanceMethod yX3_widthFor, Cond.selects RX3 yX3_widthFor yX3_widthFor, Cond.initialized RX3, Cond.code yX3_widthFor cX3_widthFor 6 (some .int), Cond.fieldLink RX3 9 "BurinLines$Tool" "settings" "[I", Cond.methodLink RX3 21 Lib.Math.min.name, Cond.static Lib.Math.min.name, Cond.initialized "java/lang/Math", Cond.code Lib.Math.min.name Lib.Math.min.code 2 (some .int), Cond.methodLink RX1 51 yX1_wayFor, Cond.instanceMethod yX1_wayFor, Cond.selects RX1 yX1_wayFor yX1_wayFor, Cond.code yX1_wayFor cX1_wayFor 3 (some .int), Cond.methodLink RX1 69 yJ9_floorMod_7cf53, Cond.static yJ9_floorMod_7cf53, Cond.initialized RJ9, Cond.code yJ9_floorMod_7cf53 cJ9_floorMod_7cf53 3 (some .int), Cond.methodLink RX1 58 yX1_tiedTo, Cond.instanceMethod yX1_tiedTo, Cond.selects RX1 yX1_tiedTo yX1_tiedTo, Cond.code yX1_tiedTo cX1_tiedTo 7 (some .int), Cond.static yX4_isCell]
def wsX4_paths_r3 : List Cond := [Cond.code yX4_isCell cX4_isCell 2 (some .boolean), Cond.static yX4_cellOf, Cond.code yX4_cellOf cX4_cellOf 2 (some .int), Cond.methodLink RX1 61 yX3_swell, Cond.instanceMethod yX3_swell, Cond.selects RX3 yX3_swell yX3_swell, Cond.code yX3_swell cX3_swell 1 (some .int), Cond.methodLink RX1 65 yX1_addPath, Cond.instanceMethod yX1_addPath, Cond.selects RX1 yX1_addPath yX1_addPath, Cond.code yX1_addPath cX1_addPath 4 none, Cond.fieldLink RX1 21 "BurinLines$Layer" "firsts" "[I", Cond.fieldLink RX1 24 "BurinLines$Layer" "lasts" "[I", Cond.fieldLink RX1 27 "BurinLines$Layer" "lengths" "[I", Cond.fieldLink RX1 30 "BurinLines$Layer" "greatestWidths" "[I", Cond.methodLink RX1 87 yX1_limitSwell, Cond.instanceMethod yX1_limitSwell, Cond.selects RX1 yX1_limitSwell yX1_limitSwell, Cond.code yX1_limitSwell cX1_limitSwell 7 (some .int), Cond.methodLink RX1 97 Lib.Math.min.name, Cond.static yX4_wayBetween, Cond.code yX4_wayBetween cX4_wayBetween 4 (some .int), Cond.methodLink RX4 98 Lib.Math.abs.name, Cond.static Lib.Math.abs.name]
def wsX4_paths_r4 : List Cond := [Cond.code Lib.Math.abs.name Lib.Math.abs.code 1 (some .int), Cond.methodLink RX4 103 Lib.Math.max.name, Cond.static Lib.Math.max.name, Cond.code Lib.Math.max.name Lib.Math.max.code 2 (some .int), Cond.methodLink RX1 94 yX1_greatestWidthFrom, Cond.instanceMethod yX1_greatestWidthFrom, Cond.selects RX1 yX1_greatestWidthFrom yX1_greatestWidthFrom, Cond.code yX1_greatestWidthFrom cX1_greatestWidthFrom 5 (some .int), Cond.methodLink RX1 100 Lib.Math.max.name]
def wsX4_paths : List Cond := .code yX4_paths cX4_paths 2 (some .int) :: ((wsX4_paths_r1 ++ (wsX4_paths_r2 ++ (wsX4_paths_r3 ++ wsX4_paths_r4))) ++ wsX10 ++ wsX40 ++ wsX20 ++ wsX30)
def wsX4_path_r1 : List Cond := [Cond.fieldLink RX4 106 "BurinLines$Layer" "pathCount" "I", Cond.fieldLink RX4 110 "BurinLines$Layer" "firsts" "[I", Cond.fieldLink RX4 113 "BurinLines$Layer" "lasts" "[I", Cond.fieldLink RX4 116 "BurinLines$Layer" "lengths" "[I", Cond.fieldLink RX4 119 "BurinLines$Layer" "greatestWidths" "[I", Cond.methodLink RX4 78 yX4_isLayer, Cond.static yX4_isLayer, Cond.initialized RX4, Cond.code yX4_isLayer cX4_isLayer 1 (some .boolean), Cond.methodLink RX4 84 yX4_drawnLayer, Cond.instanceMethod yX4_drawnLayer, Cond.selects RX4 yX4_drawnLayer yX4_drawnLayer, Cond.code yX4_drawnLayer cX4_drawnLayer 3 (some (.object "BurinLines$Layer")), Cond.fieldLink RX4 28 "BurinLines" "lightLayer" "LBurinLines$Layer;", Cond.fieldLink RX4 32 "BurinLines" "darkLayer" "LBurinLines$Layer;", Cond.fieldLink RX4 12 "BurinLines" "plate" "LBurinLines$Plate;", Cond.fieldLink RX4 19 "BurinLines" "tool" "LBurinLines$Tool;", Cond.methodLink RX4 150 yX1_draw, Cond.instanceMethod yX1_draw, Cond.selects RX1 yX1_draw yX1_draw, Cond.initialized RX1, Cond.code yX1_draw cX1_draw 4 none, Cond.fieldLink RX1 9 "BurinLines$Layer" "wants" "[I", Cond.fieldLink RX1 37 "BurinLines$Plate" "tones" "[I"]
def wsX4_path_r2 : List Cond := [Cond.fieldLink RX1 33 "BurinLines$Layer" "number" "I", Cond.fieldLink RX1 15 "BurinLines$Layer" "ways" "[I", Cond.fieldLink RX1 48 "BurinLines$Plate" "turns" "[I", Cond.fieldLink RX1 18 "BurinLines$Layer" "widths" "[I", Cond.fieldLink RX1 55 "BurinLines$Layer" "pathCount" "I", Cond.methodLink RX1 42 yX3_widthFor, Cond.instanceMethod yX3_widthFor, Cond.selects RX3 yX3_widthFor yX3_widthFor, Cond.initialized RX3, Cond.code yX3_widthFor cX3_widthFor 6 (some .int), Cond.fieldLink RX3 9 "BurinLines$Tool" "settings" "[I", Cond.methodLink RX3 21 Lib.Math.min.name, Cond.static Lib.Math.min.name, Cond.initialized "java/lang/Math", Cond.code Lib.Math.min.name Lib.Math.min.code 2 (some .int), Cond.methodLink RX1 51 yX1_wayFor, Cond.instanceMethod yX1_wayFor, Cond.selects RX1 yX1_wayFor yX1_wayFor, Cond.code yX1_wayFor cX1_wayFor 3 (some .int), Cond.methodLink RX1 69 yJ9_floorMod_7cf53, Cond.static yJ9_floorMod_7cf53, Cond.initialized RJ9, Cond.code yJ9_floorMod_7cf53 cJ9_floorMod_7cf53 3 (some .int), Cond.methodLink RX1 58 yX1_tiedTo]
def wsX4_path_r3 : List Cond := [Cond.instanceMethod yX1_tiedTo, Cond.selects RX1 yX1_tiedTo yX1_tiedTo, Cond.code yX1_tiedTo cX1_tiedTo 7 (some .int), Cond.static yX4_isCell, Cond.code yX4_isCell cX4_isCell 2 (some .boolean), Cond.static yX4_cellOf, Cond.code yX4_cellOf cX4_cellOf 2 (some .int), Cond.methodLink RX1 61 yX3_swell, Cond.instanceMethod yX3_swell, Cond.selects RX3 yX3_swell yX3_swell, Cond.code yX3_swell cX3_swell 1 (some .int), Cond.methodLink RX1 65 yX1_addPath, Cond.instanceMethod yX1_addPath, Cond.selects RX1 yX1_addPath yX1_addPath, Cond.code yX1_addPath cX1_addPath 4 none, Cond.fieldLink RX1 21 "BurinLines$Layer" "firsts" "[I", Cond.fieldLink RX1 24 "BurinLines$Layer" "lasts" "[I", Cond.fieldLink RX1 27 "BurinLines$Layer" "lengths" "[I", Cond.fieldLink RX1 30 "BurinLines$Layer" "greatestWidths" "[I", Cond.methodLink RX1 87 yX1_limitSwell, Cond.instanceMethod yX1_limitSwell, Cond.selects RX1 yX1_limitSwell yX1_limitSwell, Cond.code yX1_limitSwell cX1_limitSwell 7 (some .int), Cond.methodLink RX1 97 Lib.Math.min.name]
def wsX4_path_r4 : List Cond := [Cond.static yX4_wayBetween, Cond.code yX4_wayBetween cX4_wayBetween 4 (some .int), Cond.methodLink RX4 98 Lib.Math.abs.name, Cond.static Lib.Math.abs.name, Cond.code Lib.Math.abs.name Lib.Math.abs.code 1 (some .int), Cond.methodLink RX4 103 Lib.Math.max.name, Cond.static Lib.Math.max.name, Cond.code Lib.Math.max.name Lib.Math.max.code 2 (some .int), Cond.methodLink RX1 94 yX1_greatestWidthFrom, Cond.instanceMethod yX1_greatestWidthFrom, Cond.selects RX1 yX1_greatestWidthFrom yX1_greatestWidthFrom, Cond.code yX1_greatestWidthFrom cX1_greatestWidthFrom 5 (some .int), Cond.methodLink RX1 100 Lib.Math.max.name]
def wsX4_path : List Cond := .code yX4_path cX4_path 5 (some .int) :: ((wsX4_path_r1 ++ (wsX4_path_r2 ++ (wsX4_path_r3 ++ wsX4_path_r4))) ++ wsX10 ++ wsX40 ++ wsX20 ++ wsX30)
def wsX4_cut_r1 : List Cond := [Cond.fieldLink RX4 38 "BurinLines" "cutting" "LBurinLines$Cutting;", Cond.fieldLink RX4 129 "BurinLines$Cutting" "order" "[I", Cond.methodLink RX4 78 yX4_isLayer, Cond.static yX4_isLayer, Cond.initialized RX4, Cond.code yX4_isLayer cX4_isLayer 1 (some .boolean), Cond.methodLink RX4 84 yX4_drawnLayer, Cond.instanceMethod yX4_drawnLayer, Cond.selects RX4 yX4_drawnLayer yX4_drawnLayer, Cond.code yX4_drawnLayer cX4_drawnLayer 3 (some (.object "BurinLines$Layer")), Cond.fieldLink RX4 28 "BurinLines" "lightLayer" "LBurinLines$Layer;", Cond.fieldLink RX4 32 "BurinLines" "darkLayer" "LBurinLines$Layer;", Cond.fieldLink RX4 12 "BurinLines" "plate" "LBurinLines$Plate;", Cond.fieldLink RX4 19 "BurinLines" "tool" "LBurinLines$Tool;", Cond.methodLink RX4 150 yX1_draw, Cond.instanceMethod yX1_draw, Cond.selects RX1 yX1_draw yX1_draw, Cond.initialized RX1, Cond.code yX1_draw cX1_draw 4 none, Cond.fieldLink RX1 9 "BurinLines$Layer" "wants" "[I", Cond.fieldLink RX1 37 "BurinLines$Plate" "tones" "[I", Cond.fieldLink RX1 33 "BurinLines$Layer" "number" "I", Cond.fieldLink RX1 15 "BurinLines$Layer" "ways" "[I", Cond.fieldLink RX1 48 "BurinLines$Plate" "turns" "[I"]
def wsX4_cut_r2 : List Cond := [Cond.fieldLink RX1 18 "BurinLines$Layer" "widths" "[I", Cond.fieldLink RX1 55 "BurinLines$Layer" "pathCount" "I", Cond.methodLink RX1 42 yX3_widthFor, Cond.instanceMethod yX3_widthFor, Cond.selects RX3 yX3_widthFor yX3_widthFor, Cond.initialized RX3, Cond.code yX3_widthFor cX3_widthFor 6 (some .int), Cond.fieldLink RX3 9 "BurinLines$Tool" "settings" "[I", Cond.methodLink RX3 21 Lib.Math.min.name, Cond.static Lib.Math.min.name, Cond.initialized "java/lang/Math", Cond.code Lib.Math.min.name Lib.Math.min.code 2 (some .int), Cond.methodLink RX1 51 yX1_wayFor, Cond.instanceMethod yX1_wayFor, Cond.selects RX1 yX1_wayFor yX1_wayFor, Cond.code yX1_wayFor cX1_wayFor 3 (some .int), Cond.methodLink RX1 69 yJ9_floorMod_7cf53, Cond.static yJ9_floorMod_7cf53, Cond.initialized RJ9, Cond.code yJ9_floorMod_7cf53 cJ9_floorMod_7cf53 3 (some .int), Cond.methodLink RX1 58 yX1_tiedTo, Cond.instanceMethod yX1_tiedTo, Cond.selects RX1 yX1_tiedTo yX1_tiedTo, Cond.code yX1_tiedTo cX1_tiedTo 7 (some .int)]
def wsX4_cut_r3 : List Cond := [Cond.static yX4_isCell, Cond.code yX4_isCell cX4_isCell 2 (some .boolean), Cond.static yX4_cellOf, Cond.code yX4_cellOf cX4_cellOf 2 (some .int), Cond.methodLink RX1 61 yX3_swell, Cond.instanceMethod yX3_swell, Cond.selects RX3 yX3_swell yX3_swell, Cond.code yX3_swell cX3_swell 1 (some .int), Cond.methodLink RX1 65 yX1_addPath, Cond.instanceMethod yX1_addPath, Cond.selects RX1 yX1_addPath yX1_addPath, Cond.code yX1_addPath cX1_addPath 4 none, Cond.fieldLink RX1 21 "BurinLines$Layer" "firsts" "[I", Cond.fieldLink RX1 24 "BurinLines$Layer" "lasts" "[I", Cond.fieldLink RX1 27 "BurinLines$Layer" "lengths" "[I", Cond.fieldLink RX1 30 "BurinLines$Layer" "greatestWidths" "[I", Cond.methodLink RX1 87 yX1_limitSwell, Cond.instanceMethod yX1_limitSwell, Cond.selects RX1 yX1_limitSwell yX1_limitSwell, Cond.code yX1_limitSwell cX1_limitSwell 7 (some .int), Cond.methodLink RX1 97 Lib.Math.min.name, Cond.static yX4_wayBetween, Cond.code yX4_wayBetween cX4_wayBetween 4 (some .int), Cond.methodLink RX4 98 Lib.Math.abs.name]
def wsX4_cut_r4 : List Cond := [Cond.static Lib.Math.abs.name, Cond.code Lib.Math.abs.name Lib.Math.abs.code 1 (some .int), Cond.methodLink RX4 103 Lib.Math.max.name, Cond.static Lib.Math.max.name, Cond.code Lib.Math.max.name Lib.Math.max.code 2 (some .int), Cond.methodLink RX1 94 yX1_greatestWidthFrom, Cond.instanceMethod yX1_greatestWidthFrom, Cond.selects RX1 yX1_greatestWidthFrom yX1_greatestWidthFrom, Cond.code yX1_greatestWidthFrom cX1_greatestWidthFrom 5 (some .int), Cond.methodLink RX1 100 Lib.Math.max.name, Cond.methodLink RX4 122 yX0_plan, Cond.instanceMethod yX0_plan, Cond.selects RX0 yX0_plan yX0_plan, Cond.initialized RX0, Cond.code yX0_plan cX0_plan 5 none, Cond.fieldLink RX0 18 "BurinLines$Cutting" "done" "[Z", Cond.fieldLink RX0 22 "BurinLines$Cutting" "planned" "I", Cond.fieldLink RX0 26 "BurinLines$Cutting" "wayInAir" "I", Cond.fieldLink RX0 33 "BurinLines$Layer" "pathCount" "I", Cond.methodLink RX0 38 yX0_nearestPath, Cond.instanceMethod yX0_nearestPath, Cond.selects RX0 yX0_nearestPath yX0_nearestPath, Cond.code yX0_nearestPath cX0_nearestPath 7 (some .int), Cond.fieldLink RX0 46 "BurinLines$Layer" "firsts" "[I"]
def wsX4_cut_r5 : List Cond := [Cond.fieldLink RX0 52 "BurinLines$Layer" "lasts" "[I", Cond.methodLink RX0 55 Lib.Math.min.name, Cond.methodLink RX0 42 yX0_cutPath, Cond.instanceMethod yX0_cutPath, Cond.selects RX0 yX0_cutPath yX0_cutPath, Cond.code yX0_cutPath cX0_cutPath 8 (some .int), Cond.fieldLink RX0 9 "BurinLines$Cutting" "order" "[I", Cond.fieldLink RX0 15 "BurinLines$Cutting" "begins" "[I", Cond.methodLink RX4 126 yX0_has, Cond.instanceMethod yX0_has, Cond.selects RX0 yX0_has yX0_has, Cond.code yX0_has cX0_has 2 (some .boolean)]
def wsX4_cut : List Cond := .code yX4_cut cX4_cut 3 (some .int) :: ((wsX4_cut_r1 ++ (wsX4_cut_r2 ++ (wsX4_cut_r3 ++ (wsX4_cut_r4 ++ wsX4_cut_r5)))) ++ wsX40 ++ wsX00 ++ wsX10 ++ wsX20 ++ wsX30)
def wsX4_begin_r1 : List Cond := [Cond.fieldLink RX4 38 "BurinLines" "cutting" "LBurinLines$Cutting;", Cond.fieldLink RX4 132 "BurinLines$Cutting" "begins" "[I", Cond.methodLink RX4 78 yX4_isLayer, Cond.static yX4_isLayer, Cond.initialized RX4, Cond.code yX4_isLayer cX4_isLayer 1 (some .boolean), Cond.methodLink RX4 84 yX4_drawnLayer, Cond.instanceMethod yX4_drawnLayer, Cond.selects RX4 yX4_drawnLayer yX4_drawnLayer, Cond.code yX4_drawnLayer cX4_drawnLayer 3 (some (.object "BurinLines$Layer")), Cond.fieldLink RX4 28 "BurinLines" "lightLayer" "LBurinLines$Layer;", Cond.fieldLink RX4 32 "BurinLines" "darkLayer" "LBurinLines$Layer;", Cond.fieldLink RX4 12 "BurinLines" "plate" "LBurinLines$Plate;", Cond.fieldLink RX4 19 "BurinLines" "tool" "LBurinLines$Tool;", Cond.methodLink RX4 150 yX1_draw, Cond.instanceMethod yX1_draw, Cond.selects RX1 yX1_draw yX1_draw, Cond.initialized RX1, Cond.code yX1_draw cX1_draw 4 none, Cond.fieldLink RX1 9 "BurinLines$Layer" "wants" "[I", Cond.fieldLink RX1 37 "BurinLines$Plate" "tones" "[I", Cond.fieldLink RX1 33 "BurinLines$Layer" "number" "I", Cond.fieldLink RX1 15 "BurinLines$Layer" "ways" "[I", Cond.fieldLink RX1 48 "BurinLines$Plate" "turns" "[I"]
def wsX4_begin_r2 : List Cond := [Cond.fieldLink RX1 18 "BurinLines$Layer" "widths" "[I", Cond.fieldLink RX1 55 "BurinLines$Layer" "pathCount" "I", Cond.methodLink RX1 42 yX3_widthFor, Cond.instanceMethod yX3_widthFor, Cond.selects RX3 yX3_widthFor yX3_widthFor, Cond.initialized RX3, Cond.code yX3_widthFor cX3_widthFor 6 (some .int), Cond.fieldLink RX3 9 "BurinLines$Tool" "settings" "[I", Cond.methodLink RX3 21 Lib.Math.min.name, Cond.static Lib.Math.min.name, Cond.initialized "java/lang/Math", Cond.code Lib.Math.min.name Lib.Math.min.code 2 (some .int), Cond.methodLink RX1 51 yX1_wayFor, Cond.instanceMethod yX1_wayFor, Cond.selects RX1 yX1_wayFor yX1_wayFor, Cond.code yX1_wayFor cX1_wayFor 3 (some .int), Cond.methodLink RX1 69 yJ9_floorMod_7cf53, Cond.static yJ9_floorMod_7cf53, Cond.initialized RJ9, Cond.code yJ9_floorMod_7cf53 cJ9_floorMod_7cf53 3 (some .int), Cond.methodLink RX1 58 yX1_tiedTo, Cond.instanceMethod yX1_tiedTo, Cond.selects RX1 yX1_tiedTo yX1_tiedTo, Cond.code yX1_tiedTo cX1_tiedTo 7 (some .int)]
def wsX4_begin_r3 : List Cond := [Cond.static yX4_isCell, Cond.code yX4_isCell cX4_isCell 2 (some .boolean), Cond.static yX4_cellOf, Cond.code yX4_cellOf cX4_cellOf 2 (some .int), Cond.methodLink RX1 61 yX3_swell, Cond.instanceMethod yX3_swell, Cond.selects RX3 yX3_swell yX3_swell, Cond.code yX3_swell cX3_swell 1 (some .int), Cond.methodLink RX1 65 yX1_addPath, Cond.instanceMethod yX1_addPath, Cond.selects RX1 yX1_addPath yX1_addPath, Cond.code yX1_addPath cX1_addPath 4 none, Cond.fieldLink RX1 21 "BurinLines$Layer" "firsts" "[I", Cond.fieldLink RX1 24 "BurinLines$Layer" "lasts" "[I", Cond.fieldLink RX1 27 "BurinLines$Layer" "lengths" "[I", Cond.fieldLink RX1 30 "BurinLines$Layer" "greatestWidths" "[I", Cond.methodLink RX1 87 yX1_limitSwell, Cond.instanceMethod yX1_limitSwell, Cond.selects RX1 yX1_limitSwell yX1_limitSwell, Cond.code yX1_limitSwell cX1_limitSwell 7 (some .int), Cond.methodLink RX1 97 Lib.Math.min.name, Cond.static yX4_wayBetween, Cond.code yX4_wayBetween cX4_wayBetween 4 (some .int), Cond.methodLink RX4 98 Lib.Math.abs.name]
def wsX4_begin_r4 : List Cond := [Cond.static Lib.Math.abs.name, Cond.code Lib.Math.abs.name Lib.Math.abs.code 1 (some .int), Cond.methodLink RX4 103 Lib.Math.max.name, Cond.static Lib.Math.max.name, Cond.code Lib.Math.max.name Lib.Math.max.code 2 (some .int), Cond.methodLink RX1 94 yX1_greatestWidthFrom, Cond.instanceMethod yX1_greatestWidthFrom, Cond.selects RX1 yX1_greatestWidthFrom yX1_greatestWidthFrom, Cond.code yX1_greatestWidthFrom cX1_greatestWidthFrom 5 (some .int), Cond.methodLink RX1 100 Lib.Math.max.name, Cond.methodLink RX4 122 yX0_plan, Cond.instanceMethod yX0_plan, Cond.selects RX0 yX0_plan yX0_plan, Cond.initialized RX0, Cond.code yX0_plan cX0_plan 5 none, Cond.fieldLink RX0 18 "BurinLines$Cutting" "done" "[Z", Cond.fieldLink RX0 22 "BurinLines$Cutting" "planned" "I", Cond.fieldLink RX0 26 "BurinLines$Cutting" "wayInAir" "I", Cond.fieldLink RX0 33 "BurinLines$Layer" "pathCount" "I", Cond.methodLink RX0 38 yX0_nearestPath, Cond.instanceMethod yX0_nearestPath, Cond.selects RX0 yX0_nearestPath yX0_nearestPath, Cond.code yX0_nearestPath cX0_nearestPath 7 (some .int), Cond.fieldLink RX0 46 "BurinLines$Layer" "firsts" "[I"]
def wsX4_begin_r5 : List Cond := [Cond.fieldLink RX0 52 "BurinLines$Layer" "lasts" "[I", Cond.methodLink RX0 55 Lib.Math.min.name, Cond.methodLink RX0 42 yX0_cutPath, Cond.instanceMethod yX0_cutPath, Cond.selects RX0 yX0_cutPath yX0_cutPath, Cond.code yX0_cutPath cX0_cutPath 8 (some .int), Cond.fieldLink RX0 9 "BurinLines$Cutting" "order" "[I", Cond.fieldLink RX0 15 "BurinLines$Cutting" "begins" "[I", Cond.methodLink RX4 126 yX0_has, Cond.instanceMethod yX0_has, Cond.selects RX0 yX0_has yX0_has, Cond.code yX0_has cX0_has 2 (some .boolean)]
def wsX4_begin : List Cond := .code yX4_begin cX4_begin 3 (some .int) :: ((wsX4_begin_r1 ++ (wsX4_begin_r2 ++ (wsX4_begin_r3 ++ (wsX4_begin_r4 ++ wsX4_begin_r5)))) ++ wsX40 ++ wsX00 ++ wsX10 ++ wsX20 ++ wsX30)
def wsX4_air_r1 : List Cond := [Cond.fieldLink RX4 38 "BurinLines" "cutting" "LBurinLines$Cutting;", Cond.fieldLink RX4 135 "BurinLines$Cutting" "wayInAir" "I", Cond.methodLink RX4 78 yX4_isLayer, Cond.static yX4_isLayer, Cond.initialized RX4, Cond.code yX4_isLayer cX4_isLayer 1 (some .boolean), Cond.methodLink RX4 84 yX4_drawnLayer, Cond.instanceMethod yX4_drawnLayer, Cond.selects RX4 yX4_drawnLayer yX4_drawnLayer, Cond.code yX4_drawnLayer cX4_drawnLayer 3 (some (.object "BurinLines$Layer")), Cond.fieldLink RX4 28 "BurinLines" "lightLayer" "LBurinLines$Layer;", Cond.fieldLink RX4 32 "BurinLines" "darkLayer" "LBurinLines$Layer;", Cond.fieldLink RX4 12 "BurinLines" "plate" "LBurinLines$Plate;", Cond.fieldLink RX4 19 "BurinLines" "tool" "LBurinLines$Tool;", Cond.methodLink RX4 150 yX1_draw, Cond.instanceMethod yX1_draw, Cond.selects RX1 yX1_draw yX1_draw, Cond.initialized RX1, Cond.code yX1_draw cX1_draw 4 none, Cond.fieldLink RX1 9 "BurinLines$Layer" "wants" "[I", Cond.fieldLink RX1 37 "BurinLines$Plate" "tones" "[I", Cond.fieldLink RX1 33 "BurinLines$Layer" "number" "I", Cond.fieldLink RX1 15 "BurinLines$Layer" "ways" "[I", Cond.fieldLink RX1 48 "BurinLines$Plate" "turns" "[I"]
def wsX4_air_r2 : List Cond := [Cond.fieldLink RX1 18 "BurinLines$Layer" "widths" "[I", Cond.fieldLink RX1 55 "BurinLines$Layer" "pathCount" "I", Cond.methodLink RX1 42 yX3_widthFor, Cond.instanceMethod yX3_widthFor, Cond.selects RX3 yX3_widthFor yX3_widthFor, Cond.initialized RX3, Cond.code yX3_widthFor cX3_widthFor 6 (some .int), Cond.fieldLink RX3 9 "BurinLines$Tool" "settings" "[I", Cond.methodLink RX3 21 Lib.Math.min.name, Cond.static Lib.Math.min.name, Cond.initialized "java/lang/Math", Cond.code Lib.Math.min.name Lib.Math.min.code 2 (some .int), Cond.methodLink RX1 51 yX1_wayFor, Cond.instanceMethod yX1_wayFor, Cond.selects RX1 yX1_wayFor yX1_wayFor, Cond.code yX1_wayFor cX1_wayFor 3 (some .int), Cond.methodLink RX1 69 yJ9_floorMod_7cf53, Cond.static yJ9_floorMod_7cf53, Cond.initialized RJ9, Cond.code yJ9_floorMod_7cf53 cJ9_floorMod_7cf53 3 (some .int), Cond.methodLink RX1 58 yX1_tiedTo, Cond.instanceMethod yX1_tiedTo, Cond.selects RX1 yX1_tiedTo yX1_tiedTo, Cond.code yX1_tiedTo cX1_tiedTo 7 (some .int)]
def wsX4_air_r3 : List Cond := [Cond.static yX4_isCell, Cond.code yX4_isCell cX4_isCell 2 (some .boolean), Cond.static yX4_cellOf, Cond.code yX4_cellOf cX4_cellOf 2 (some .int), Cond.methodLink RX1 61 yX3_swell, Cond.instanceMethod yX3_swell, Cond.selects RX3 yX3_swell yX3_swell, Cond.code yX3_swell cX3_swell 1 (some .int), Cond.methodLink RX1 65 yX1_addPath, Cond.instanceMethod yX1_addPath, Cond.selects RX1 yX1_addPath yX1_addPath, Cond.code yX1_addPath cX1_addPath 4 none, Cond.fieldLink RX1 21 "BurinLines$Layer" "firsts" "[I", Cond.fieldLink RX1 24 "BurinLines$Layer" "lasts" "[I", Cond.fieldLink RX1 27 "BurinLines$Layer" "lengths" "[I", Cond.fieldLink RX1 30 "BurinLines$Layer" "greatestWidths" "[I", Cond.methodLink RX1 87 yX1_limitSwell, Cond.instanceMethod yX1_limitSwell, Cond.selects RX1 yX1_limitSwell yX1_limitSwell, Cond.code yX1_limitSwell cX1_limitSwell 7 (some .int), Cond.methodLink RX1 97 Lib.Math.min.name, Cond.static yX4_wayBetween, Cond.code yX4_wayBetween cX4_wayBetween 4 (some .int), Cond.methodLink RX4 98 Lib.Math.abs.name]
def wsX4_air_r4 : List Cond := [Cond.static Lib.Math.abs.name, Cond.code Lib.Math.abs.name Lib.Math.abs.code 1 (some .int), Cond.methodLink RX4 103 Lib.Math.max.name, Cond.static Lib.Math.max.name, Cond.code Lib.Math.max.name Lib.Math.max.code 2 (some .int), Cond.methodLink RX1 94 yX1_greatestWidthFrom, Cond.instanceMethod yX1_greatestWidthFrom, Cond.selects RX1 yX1_greatestWidthFrom yX1_greatestWidthFrom, Cond.code yX1_greatestWidthFrom cX1_greatestWidthFrom 5 (some .int), Cond.methodLink RX1 100 Lib.Math.max.name, Cond.methodLink RX4 122 yX0_plan, Cond.instanceMethod yX0_plan, Cond.selects RX0 yX0_plan yX0_plan, Cond.initialized RX0, Cond.code yX0_plan cX0_plan 5 none, Cond.fieldLink RX0 18 "BurinLines$Cutting" "done" "[Z", Cond.fieldLink RX0 22 "BurinLines$Cutting" "planned" "I", Cond.fieldLink RX0 26 "BurinLines$Cutting" "wayInAir" "I", Cond.fieldLink RX0 33 "BurinLines$Layer" "pathCount" "I", Cond.methodLink RX0 38 yX0_nearestPath, Cond.instanceMethod yX0_nearestPath, Cond.selects RX0 yX0_nearestPath yX0_nearestPath, Cond.code yX0_nearestPath cX0_nearestPath 7 (some .int), Cond.fieldLink RX0 46 "BurinLines$Layer" "firsts" "[I"]
def wsX4_air_r5 : List Cond := [Cond.fieldLink RX0 52 "BurinLines$Layer" "lasts" "[I", Cond.methodLink RX0 55 Lib.Math.min.name, Cond.methodLink RX0 42 yX0_cutPath, Cond.instanceMethod yX0_cutPath, Cond.selects RX0 yX0_cutPath yX0_cutPath, Cond.code yX0_cutPath cX0_cutPath 8 (some .int), Cond.fieldLink RX0 9 "BurinLines$Cutting" "order" "[I", Cond.fieldLink RX0 15 "BurinLines$Cutting" "begins" "[I"]
def wsX4_air : List Cond := .code yX4_air cX4_air 2 (some .int) :: ((wsX4_air_r1 ++ (wsX4_air_r2 ++ (wsX4_air_r3 ++ (wsX4_air_r4 ++ wsX4_air_r5)))) ++ wsX40 ++ wsX00 ++ wsX10 ++ wsX20 ++ wsX30)
def wsX4_countStrokes : List Cond := .code yX4_countStrokes cX4_countStrokes 4 (some .int) :: ([.fieldLink RX4 19 "BurinLines" "tool" "LBurinLines$Tool;", .fieldLink RX4 12 "BurinLines" "plate" "LBurinLines$Plate;", .fieldLink RX4 54 "BurinLines$Plate" "tones" "[I", .methodLink RX4 81 yX3_widthFor, .instanceMethod yX3_widthFor, .selects RX3 yX3_widthFor yX3_widthFor, .initialized RX3, .code yX3_widthFor cX3_widthFor 6 (some .int), .fieldLink RX3 9 "BurinLines$Tool" "settings" "[I", .methodLink RX3 21 Lib.Math.min.name, .static Lib.Math.min.name, .initialized "java/lang/Math", .code Lib.Math.min.name Lib.Math.min.code 2 (some .int)] ++ wsX40 ++ wsX20 ++ wsX30)
def wsX4_count_r1 : List Cond := [Cond.fieldLink RX4 12 "BurinLines" "plate" "LBurinLines$Plate;", Cond.methodLink RX4 138 yX2_countToned, Cond.instanceMethod yX2_countToned, Cond.selects RX2 yX2_countToned yX2_countToned, Cond.initialized RX2, Cond.code yX2_countToned cX2_countToned 3 (some .int), Cond.fieldLink RX2 9 "BurinLines$Plate" "tones" "[I", Cond.methodLink RX4 141 yX2_countTold, Cond.instanceMethod yX2_countTold, Cond.selects RX2 yX2_countTold yX2_countTold, Cond.code yX2_countTold cX2_countTold 3 (some .int), Cond.fieldLink RX2 18 "BurinLines$Plate" "told" "[Z", Cond.methodLink RX4 144 yX4_countStrokes, Cond.instanceMethod yX4_countStrokes, Cond.selects RX4 yX4_countStrokes yX4_countStrokes, Cond.initialized RX4, Cond.code yX4_countStrokes cX4_countStrokes 4 (some .int), Cond.fieldLink RX4 19 "BurinLines" "tool" "LBurinLines$Tool;", Cond.fieldLink RX4 54 "BurinLines$Plate" "tones" "[I", Cond.methodLink RX4 81 yX3_widthFor, Cond.instanceMethod yX3_widthFor, Cond.selects RX3 yX3_widthFor yX3_widthFor, Cond.initialized RX3, Cond.code yX3_widthFor cX3_widthFor 6 (some .int)]
def wsX4_count_r2 : List Cond := [Cond.fieldLink RX3 9 "BurinLines$Tool" "settings" "[I", Cond.methodLink RX3 21 Lib.Math.min.name, Cond.static Lib.Math.min.name, Cond.initialized "java/lang/Math", Cond.code Lib.Math.min.name Lib.Math.min.code 2 (some .int), Cond.methodLink RX4 147 yX2_countKnots, Cond.instanceMethod yX2_countKnots, Cond.selects RX2 yX2_countKnots yX2_countKnots, Cond.code yX2_countKnots cX2_countKnots 5 (some .int), Cond.methodLink RX2 56 yX2_knotOf, Cond.instanceMethod yX2_knotOf, Cond.selects RX2 yX2_knotOf yX2_knotOf, Cond.code yX2_knotOf cX2_knotOf 12 (some .int), Cond.fieldLink RX2 15 "BurinLines$Plate" "turns" "[I", Cond.static yX4_cellOf, Cond.code yX4_cellOf cX4_cellOf 2 (some .int), Cond.methodLink RX2 53 yX2_growth, Cond.static yX2_growth, Cond.code yX2_growth cX2_growth 3 (some .int), Cond.methodLink RX2 48 yJ9_floorMod_7cf53, Cond.static yJ9_floorMod_7cf53, Cond.initialized RJ9, Cond.code yJ9_floorMod_7cf53 cJ9_floorMod_7cf53 3 (some .int)]
def wsX4_count : List Cond := .code yX4_count cX4_count 2 (some .int) :: ((wsX4_count_r1 ++ wsX4_count_r2) ++ wsX40 ++ wsX20 ++ wsX30)
def wsX5_init : List Cond := .code yX5_init cX5_init 1 none :: ([.methodLink RX5 1 objectInit, .instanceMethod objectInit, .code objectInit ⟨#[0xb1]⟩ 1 none, .arrayClass .int, .fieldLink RX5 7 "BurinLinesModel" "tone" "[I", .fieldLink RX5 13 "BurinLinesModel" "turn" "[I", .arrayClass .boolean, .fieldLink RX5 16 "BurinLinesModel" "isTold" "[Z", .fieldLink RX5 20 "BurinLinesModel" "apart" "I", .fieldLink RX5 24 "BurinLinesModel" "cross" "I", .fieldLink RX5 27 "BurinLinesModel" "least" "I", .fieldLink RX5 30 "BurinLinesModel" "swell" "I", .fieldLink RX5 33 "BurinLinesModel" "want" "[I", .fieldLink RX5 36 "BurinLinesModel" "made" "[I", .fieldLink RX5 39 "BurinLinesModel" "first" "[I", .fieldLink RX5 42 "BurinLinesModel" "last" "[I", .fieldLink RX5 45 "BurinLinesModel" "size" "[I", .fieldLink RX5 48 "BurinLinesModel" "order" "[I", .fieldLink RX5 51 "BurinLinesModel" "begun" "[I"] ++ wsX50)
def wsX5_in : List Cond := .code yX5_in cX5_in 3 (some .boolean) :: ([])
def wsX5_isCell : List Cond := .code yX5_isCell cX5_isCell 2 (some .boolean) :: ([.methodLink RX5 54 yX5_in, .static yX5_in, .initialized RX5, .code yX5_in cX5_in 3 (some .boolean)])
def wsX5_less : List Cond := .code yX5_less cX5_less 2 (some .int) :: ([])
def wsX5_more : List Cond := .code yX5_more cX5_more 2 (some .int) :: ([])
def wsX5_size : List Cond := .code yX5_size cX5_size 1 (some .int) :: ([])
def wsX5_tone : List Cond := .code yX5_tone cX5_tone 5 (some .int) :: ([.fieldLink RX5 7 "BurinLinesModel" "tone" "[I", .methodLink RX5 58 yX5_isCell, .static yX5_isCell, .initialized RX5, .code yX5_isCell cX5_isCell 2 (some .boolean), .methodLink RX5 54 yX5_in, .static yX5_in, .code yX5_in cX5_in 3 (some .boolean)] ++ wsX50)
def wsX5_shade : List Cond := .code yX5_shade cX5_shade 9 (some .int) :: ([.fieldLink RX5 7 "BurinLinesModel" "tone" "[I", .methodLink RX5 58 yX5_isCell, .static yX5_isCell, .initialized RX5, .code yX5_isCell cX5_isCell 2 (some .boolean), .methodLink RX5 54 yX5_in, .static yX5_in, .code yX5_in cX5_in 3 (some .boolean)] ++ wsX50)
def wsX5_tell : List Cond := .code yX5_tell cX5_tell 5 (some .int) :: ([.fieldLink RX5 13 "BurinLinesModel" "turn" "[I", .fieldLink RX5 16 "BurinLinesModel" "isTold" "[Z", .methodLink RX5 58 yX5_isCell, .static yX5_isCell, .initialized RX5, .code yX5_isCell cX5_isCell 2 (some .boolean), .methodLink RX5 54 yX5_in, .static yX5_in, .code yX5_in cX5_in 3 (some .boolean)] ++ wsX50)
def wsX5_free : List Cond := .code yX5_free cX5_free 3 (some .int) :: ([.fieldLink RX5 16 "BurinLinesModel" "isTold" "[Z", .methodLink RX5 58 yX5_isCell, .static yX5_isCell, .initialized RX5, .code yX5_isCell cX5_isCell 2 (some .boolean), .methodLink RX5 54 yX5_in, .static yX5_in, .code yX5_in cX5_in 3 (some .boolean)] ++ wsX50)
def wsX5_off : List Cond := .code yX5_off cX5_off 5 (some .int) :: ([.fieldLink RX5 13 "BurinLinesModel" "turn" "[I", .methodLink RX5 58 yX5_isCell, .static yX5_isCell, .initialized RX5, .code yX5_isCell cX5_isCell 2 (some .boolean), .methodLink RX5 54 yX5_in, .static yX5_in, .code yX5_in cX5_in 3 (some .boolean), .methodLink RX5 62 yX5_size, .static yX5_size, .code yX5_size cX5_size 1 (some .int), .methodLink RX5 65 yX5_less, .static yX5_less, .code yX5_less cX5_less 2 (some .int)] ++ wsX50)
def wsX5_offOf : List Cond := .code yX5_offOf cX5_offOf 4 (some .int) :: ([.methodLink RX5 69 yX5_off, .instanceMethod yX5_off, .selects RX5 yX5_off yX5_off, .initialized RX5, .code yX5_off cX5_off 5 (some .int), .fieldLink RX5 13 "BurinLinesModel" "turn" "[I", .methodLink RX5 58 yX5_isCell, .static yX5_isCell, .code yX5_isCell cX5_isCell 2 (some .boolean), .methodLink RX5 54 yX5_in, .static yX5_in, .code yX5_in cX5_in 3 (some .boolean), .methodLink RX5 62 yX5_size, .static yX5_size, .code yX5_size cX5_size 1 (some .int), .methodLink RX5 65 yX5_less, .static yX5_less, .code yX5_less cX5_less 2 (some .int)] ++ wsX50)
def wsX5_goThrough : List Cond := .code yX5_goThrough cX5_goThrough 5 (some .boolean) :: ([.fieldLink RX5 16 "BurinLinesModel" "isTold" "[Z", .fieldLink RX5 13 "BurinLinesModel" "turn" "[I", .methodLink RX5 73 yX5_offOf, .instanceMethod yX5_offOf, .selects RX5 yX5_offOf yX5_offOf, .initialized RX5, .code yX5_offOf cX5_offOf 4 (some .int), .methodLink RX5 69 yX5_off, .instanceMethod yX5_off, .selects RX5 yX5_off yX5_off, .code yX5_off cX5_off 5 (some .int), .methodLink RX5 58 yX5_isCell, .static yX5_isCell, .code yX5_isCell cX5_isCell 2 (some .boolean), .methodLink RX5 54 yX5_in, .static yX5_in, .code yX5_in cX5_in 3 (some .boolean), .methodLink RX5 62 yX5_size, .static yX5_size, .code yX5_size cX5_size 1 (some .int), .methodLink RX5 65 yX5_less, .static yX5_less, .code yX5_less cX5_less 2 (some .int)] ++ wsX50)
def wsX5_even_r1 : List Cond := [Cond.methodLink RX5 76 yX5_goThrough, Cond.instanceMethod yX5_goThrough, Cond.selects RX5 yX5_goThrough yX5_goThrough, Cond.initialized RX5, Cond.code yX5_goThrough cX5_goThrough 5 (some .boolean), Cond.fieldLink RX5 16 "BurinLinesModel" "isTold" "[Z", Cond.fieldLink RX5 13 "BurinLinesModel" "turn" "[I", Cond.methodLink RX5 73 yX5_offOf, Cond.instanceMethod yX5_offOf, Cond.selects RX5 yX5_offOf yX5_offOf, Cond.code yX5_offOf cX5_offOf 4 (some .int), Cond.methodLink RX5 69 yX5_off, Cond.instanceMethod yX5_off, Cond.selects RX5 yX5_off yX5_off, Cond.code yX5_off cX5_off 5 (some .int), Cond.methodLink RX5 58 yX5_isCell, Cond.static yX5_isCell, Cond.code yX5_isCell cX5_isCell 2 (some .boolean), Cond.methodLink RX5 54 yX5_in, Cond.static yX5_in, Cond.code yX5_in cX5_in 3 (some .boolean), Cond.methodLink RX5 62 yX5_size, Cond.static yX5_size, Cond.code yX5_size cX5_size 1 (some .int)]
def wsX5_even_r2 : List Cond := [Cond.methodLink RX5 65 yX5_less, Cond.static yX5_less, Cond.code yX5_less cX5_less 2 (some .int)]
def wsX5_even : List Cond := .code yX5_even cX5_even 2 (some .int) :: ((wsX5_even_r1 ++ wsX5_even_r2) ++ wsX50)
def wsX5_at : List Cond := .code yX5_at cX5_at 5 (some .int) :: ([.fieldLink RX5 7 "BurinLinesModel" "tone" "[I", .fieldLink RX5 13 "BurinLinesModel" "turn" "[I", .fieldLink RX5 16 "BurinLinesModel" "isTold" "[Z", .methodLink RX5 58 yX5_isCell, .static yX5_isCell, .initialized RX5, .code yX5_isCell cX5_isCell 2 (some .boolean), .methodLink RX5 54 yX5_in, .static yX5_in, .code yX5_in cX5_in 3 (some .boolean)] ++ wsX50)
def wsX5_grows : List Cond := .code yX5_grows cX5_grows 3 (some .int) :: ([])
def wsX5_knotOf : List Cond := .code yX5_knotOf cX5_knotOf 8 (some .int) :: ([.fieldLink RX5 13 "BurinLinesModel" "turn" "[I", .methodLink RX5 80 yX5_grows, .static yX5_grows, .initialized RX5, .code yX5_grows cX5_grows 3 (some .int)] ++ wsX50)
def wsX5_knot : List Cond := .code yX5_knot cX5_knot 3 (some .int) :: ([.methodLink RX5 54 yX5_in, .static yX5_in, .initialized RX5, .code yX5_in cX5_in 3 (some .boolean), .methodLink RX5 83 yX5_knotOf, .instanceMethod yX5_knotOf, .selects RX5 yX5_knotOf yX5_knotOf, .code yX5_knotOf cX5_knotOf 8 (some .int), .fieldLink RX5 13 "BurinLinesModel" "turn" "[I", .methodLink RX5 80 yX5_grows, .static yX5_grows, .code yX5_grows cX5_grows 3 (some .int)] ++ wsX50)
def wsX5_set : List Cond := .code yX5_set cX5_set 4 (some .int) :: ([.fieldLink RX5 20 "BurinLinesModel" "apart" "I", .fieldLink RX5 24 "BurinLinesModel" "cross" "I", .fieldLink RX5 27 "BurinLinesModel" "least" "I", .fieldLink RX5 30 "BurinLinesModel" "swell" "I", .methodLink RX5 54 yX5_in, .static yX5_in, .initialized RX5, .code yX5_in cX5_in 3 (some .boolean)] ++ wsX50)
def wsX5_wantedOf : List Cond := .code yX5_wantedOf cX5_wantedOf 5 (some .int) :: ([.fieldLink RX5 7 "BurinLinesModel" "tone" "[I", .fieldLink RX5 24 "BurinLinesModel" "cross" "I", .fieldLink RX5 20 "BurinLinesModel" "apart" "I", .fieldLink RX5 27 "BurinLinesModel" "least" "I", .methodLink RX5 65 yX5_less, .static yX5_less, .initialized RX5, .code yX5_less cX5_less 2 (some .int), .methodLink RX5 86 yX5_more, .static yX5_more, .code yX5_more cX5_more 2 (some .int)] ++ wsX50)
def wsX5_wayOf : List Cond := .code yX5_wayOf cX5_wayOf 3 (some .int) :: ([.fieldLink RX5 13 "BurinLinesModel" "turn" "[I"] ++ wsX50)
def wsX5_tied : List Cond := .code yX5_tied cX5_tied 7 (some .int) :: ([.fieldLink RX5 33 "BurinLinesModel" "want" "[I", .methodLink RX5 89 yX5_wayOf, .instanceMethod yX5_wayOf, .selects RX5 yX5_wayOf yX5_wayOf, .initialized RX5, .code yX5_wayOf cX5_wayOf 3 (some .int), .fieldLink RX5 13 "BurinLinesModel" "turn" "[I", .methodLink RX5 58 yX5_isCell, .static yX5_isCell, .code yX5_isCell cX5_isCell 2 (some .boolean), .methodLink RX5 54 yX5_in, .static yX5_in, .code yX5_in cX5_in 3 (some .boolean)] ++ wsX50)
def wsX5_findLayer_r1 : List Cond := [Cond.fieldLink RX5 33 "BurinLinesModel" "want" "[I", Cond.fieldLink RX5 36 "BurinLinesModel" "made" "[I", Cond.fieldLink RX5 95 "BurinLinesModel" "paths" "I", Cond.fieldLink RX5 39 "BurinLinesModel" "first" "[I", Cond.fieldLink RX5 45 "BurinLinesModel" "size" "[I", Cond.fieldLink RX5 30 "BurinLinesModel" "swell" "I", Cond.fieldLink RX5 42 "BurinLinesModel" "last" "[I", Cond.methodLink RX5 92 yX5_wantedOf, Cond.instanceMethod yX5_wantedOf, Cond.selects RX5 yX5_wantedOf yX5_wantedOf, Cond.initialized RX5, Cond.code yX5_wantedOf cX5_wantedOf 5 (some .int), Cond.fieldLink RX5 7 "BurinLinesModel" "tone" "[I", Cond.fieldLink RX5 24 "BurinLinesModel" "cross" "I", Cond.fieldLink RX5 20 "BurinLinesModel" "apart" "I", Cond.fieldLink RX5 27 "BurinLinesModel" "least" "I", Cond.methodLink RX5 65 yX5_less, Cond.static yX5_less, Cond.code yX5_less cX5_less 2 (some .int), Cond.methodLink RX5 86 yX5_more, Cond.static yX5_more, Cond.code yX5_more cX5_more 2 (some .int), Cond.methodLink RX5 98 yX5_tied, Cond.instanceMethod yX5_tied]
def wsX5_findLayer_r2 : List Cond := [Cond.selects RX5 yX5_tied yX5_tied, Cond.code yX5_tied cX5_tied 7 (some .int), Cond.methodLink RX5 89 yX5_wayOf, Cond.instanceMethod yX5_wayOf, Cond.selects RX5 yX5_wayOf yX5_wayOf, Cond.code yX5_wayOf cX5_wayOf 3 (some .int), Cond.fieldLink RX5 13 "BurinLinesModel" "turn" "[I", Cond.methodLink RX5 58 yX5_isCell, Cond.static yX5_isCell, Cond.code yX5_isCell cX5_isCell 2 (some .boolean), Cond.methodLink RX5 54 yX5_in, Cond.static yX5_in, Cond.code yX5_in cX5_in 3 (some .boolean)]
def wsX5_findLayer : List Cond := .code yX5_findLayer cX5_findLayer 5 none :: ((wsX5_findLayer_r1 ++ wsX5_findLayer_r2) ++ wsX50)
def wsX5_isLayer : List Cond := .code yX5_isLayer cX5_isLayer 1 (some .boolean) :: ([])
def wsX5_wanted : List Cond := .code yX5_wanted cX5_wanted 4 (some .int) :: ([.methodLink RX5 58 yX5_isCell, .static yX5_isCell, .initialized RX5, .code yX5_isCell cX5_isCell 2 (some .boolean), .methodLink RX5 54 yX5_in, .static yX5_in, .code yX5_in cX5_in 3 (some .boolean), .methodLink RX5 101 yX5_isLayer, .static yX5_isLayer, .code yX5_isLayer cX5_isLayer 1 (some .boolean), .methodLink RX5 92 yX5_wantedOf, .instanceMethod yX5_wantedOf, .selects RX5 yX5_wantedOf yX5_wantedOf, .code yX5_wantedOf cX5_wantedOf 5 (some .int), .fieldLink RX5 7 "BurinLinesModel" "tone" "[I", .fieldLink RX5 24 "BurinLinesModel" "cross" "I", .fieldLink RX5 20 "BurinLinesModel" "apart" "I", .fieldLink RX5 27 "BurinLinesModel" "least" "I", .methodLink RX5 65 yX5_less, .static yX5_less, .code yX5_less cX5_less 2 (some .int), .methodLink RX5 86 yX5_more, .static yX5_more, .code yX5_more cX5_more 2 (some .int)] ++ wsX50)
def wsX5_width_r1 : List Cond := [Cond.fieldLink RX5 36 "BurinLinesModel" "made" "[I", Cond.methodLink RX5 58 yX5_isCell, Cond.static yX5_isCell, Cond.initialized RX5, Cond.code yX5_isCell cX5_isCell 2 (some .boolean), Cond.methodLink RX5 54 yX5_in, Cond.static yX5_in, Cond.code yX5_in cX5_in 3 (some .boolean), Cond.methodLink RX5 101 yX5_isLayer, Cond.static yX5_isLayer, Cond.code yX5_isLayer cX5_isLayer 1 (some .boolean), Cond.methodLink RX5 105 yX5_findLayer, Cond.instanceMethod yX5_findLayer, Cond.selects RX5 yX5_findLayer yX5_findLayer, Cond.code yX5_findLayer cX5_findLayer 5 none, Cond.fieldLink RX5 33 "BurinLinesModel" "want" "[I", Cond.fieldLink RX5 95 "BurinLinesModel" "paths" "I", Cond.fieldLink RX5 39 "BurinLinesModel" "first" "[I", Cond.fieldLink RX5 45 "BurinLinesModel" "size" "[I", Cond.fieldLink RX5 30 "BurinLinesModel" "swell" "I", Cond.fieldLink RX5 42 "BurinLinesModel" "last" "[I", Cond.methodLink RX5 92 yX5_wantedOf, Cond.instanceMethod yX5_wantedOf, Cond.selects RX5 yX5_wantedOf yX5_wantedOf]
def wsX5_width_r2 : List Cond := [Cond.code yX5_wantedOf cX5_wantedOf 5 (some .int), Cond.fieldLink RX5 7 "BurinLinesModel" "tone" "[I", Cond.fieldLink RX5 24 "BurinLinesModel" "cross" "I", Cond.fieldLink RX5 20 "BurinLinesModel" "apart" "I", Cond.fieldLink RX5 27 "BurinLinesModel" "least" "I", Cond.methodLink RX5 65 yX5_less, Cond.static yX5_less, Cond.code yX5_less cX5_less 2 (some .int), Cond.methodLink RX5 86 yX5_more, Cond.static yX5_more, Cond.code yX5_more cX5_more 2 (some .int), Cond.methodLink RX5 98 yX5_tied, Cond.instanceMethod yX5_tied, Cond.selects RX5 yX5_tied yX5_tied, Cond.code yX5_tied cX5_tied 7 (some .int), Cond.methodLink RX5 89 yX5_wayOf, Cond.instanceMethod yX5_wayOf, Cond.selects RX5 yX5_wayOf yX5_wayOf, Cond.code yX5_wayOf cX5_wayOf 3 (some .int), Cond.fieldLink RX5 13 "BurinLinesModel" "turn" "[I"]
def wsX5_width : List Cond := .code yX5_width cX5_width 4 (some .int) :: ((wsX5_width_r1 ++ wsX5_width_r2) ++ wsX50)
def wsX5_made_r1 : List Cond := [Cond.fieldLink RX5 36 "BurinLinesModel" "made" "[I", Cond.fieldLink RX5 20 "BurinLinesModel" "apart" "I", Cond.methodLink RX5 58 yX5_isCell, Cond.static yX5_isCell, Cond.initialized RX5, Cond.code yX5_isCell cX5_isCell 2 (some .boolean), Cond.methodLink RX5 54 yX5_in, Cond.static yX5_in, Cond.code yX5_in cX5_in 3 (some .boolean), Cond.methodLink RX5 105 yX5_findLayer, Cond.instanceMethod yX5_findLayer, Cond.selects RX5 yX5_findLayer yX5_findLayer, Cond.code yX5_findLayer cX5_findLayer 5 none, Cond.fieldLink RX5 33 "BurinLinesModel" "want" "[I", Cond.fieldLink RX5 95 "BurinLinesModel" "paths" "I", Cond.fieldLink RX5 39 "BurinLinesModel" "first" "[I", Cond.fieldLink RX5 45 "BurinLinesModel" "size" "[I", Cond.fieldLink RX5 30 "BurinLinesModel" "swell" "I", Cond.fieldLink RX5 42 "BurinLinesModel" "last" "[I", Cond.methodLink RX5 92 yX5_wantedOf, Cond.instanceMethod yX5_wantedOf, Cond.selects RX5 yX5_wantedOf yX5_wantedOf, Cond.code yX5_wantedOf cX5_wantedOf 5 (some .int), Cond.fieldLink RX5 7 "BurinLinesModel" "tone" "[I"]
def wsX5_made_r2 : List Cond := [Cond.fieldLink RX5 24 "BurinLinesModel" "cross" "I", Cond.fieldLink RX5 27 "BurinLinesModel" "least" "I", Cond.methodLink RX5 65 yX5_less, Cond.static yX5_less, Cond.code yX5_less cX5_less 2 (some .int), Cond.methodLink RX5 86 yX5_more, Cond.static yX5_more, Cond.code yX5_more cX5_more 2 (some .int), Cond.methodLink RX5 98 yX5_tied, Cond.instanceMethod yX5_tied, Cond.selects RX5 yX5_tied yX5_tied, Cond.code yX5_tied cX5_tied 7 (some .int), Cond.methodLink RX5 89 yX5_wayOf, Cond.instanceMethod yX5_wayOf, Cond.selects RX5 yX5_wayOf yX5_wayOf, Cond.code yX5_wayOf cX5_wayOf 3 (some .int), Cond.fieldLink RX5 13 "BurinLinesModel" "turn" "[I"]
def wsX5_made : List Cond := .code yX5_made cX5_made 4 (some .int) :: ((wsX5_made_r1 ++ wsX5_made_r2) ++ wsX50)
def wsX5_error_r1 : List Cond := [Cond.fieldLink RX5 48 "BurinLinesModel" "order" "[I", Cond.fieldLink RX5 36 "BurinLinesModel" "made" "[I", Cond.fieldLink RX5 7 "BurinLinesModel" "tone" "[I", Cond.fieldLink RX5 20 "BurinLinesModel" "apart" "I", Cond.methodLink RX5 54 yX5_in, Cond.static yX5_in, Cond.initialized RX5, Cond.code yX5_in cX5_in 3 (some .boolean), Cond.methodLink RX5 105 yX5_findLayer, Cond.instanceMethod yX5_findLayer, Cond.selects RX5 yX5_findLayer yX5_findLayer, Cond.code yX5_findLayer cX5_findLayer 5 none, Cond.fieldLink RX5 33 "BurinLinesModel" "want" "[I", Cond.fieldLink RX5 95 "BurinLinesModel" "paths" "I", Cond.fieldLink RX5 39 "BurinLinesModel" "first" "[I", Cond.fieldLink RX5 45 "BurinLinesModel" "size" "[I", Cond.fieldLink RX5 30 "BurinLinesModel" "swell" "I", Cond.fieldLink RX5 42 "BurinLinesModel" "last" "[I", Cond.methodLink RX5 92 yX5_wantedOf, Cond.instanceMethod yX5_wantedOf, Cond.selects RX5 yX5_wantedOf yX5_wantedOf, Cond.code yX5_wantedOf cX5_wantedOf 5 (some .int), Cond.fieldLink RX5 24 "BurinLinesModel" "cross" "I", Cond.fieldLink RX5 27 "BurinLinesModel" "least" "I"]
def wsX5_error_r2 : List Cond := [Cond.methodLink RX5 65 yX5_less, Cond.static yX5_less, Cond.code yX5_less cX5_less 2 (some .int), Cond.methodLink RX5 86 yX5_more, Cond.static yX5_more, Cond.code yX5_more cX5_more 2 (some .int), Cond.methodLink RX5 98 yX5_tied, Cond.instanceMethod yX5_tied, Cond.selects RX5 yX5_tied yX5_tied, Cond.code yX5_tied cX5_tied 7 (some .int), Cond.methodLink RX5 89 yX5_wayOf, Cond.instanceMethod yX5_wayOf, Cond.selects RX5 yX5_wayOf yX5_wayOf, Cond.code yX5_wayOf cX5_wayOf 3 (some .int), Cond.fieldLink RX5 13 "BurinLinesModel" "turn" "[I", Cond.methodLink RX5 58 yX5_isCell, Cond.static yX5_isCell, Cond.code yX5_isCell cX5_isCell 2 (some .boolean), Cond.methodLink RX5 62 yX5_size, Cond.static yX5_size, Cond.code yX5_size cX5_size 1 (some .int)]
def wsX5_error : List Cond := .code yX5_error cX5_error 6 (some .int) :: ((wsX5_error_r1 ++ wsX5_error_r2) ++ wsX50)
def wsX5_paths_r1 : List Cond := [Cond.fieldLink RX5 95 "BurinLinesModel" "paths" "I", Cond.methodLink RX5 101 yX5_isLayer, Cond.static yX5_isLayer, Cond.initialized RX5, Cond.code yX5_isLayer cX5_isLayer 1 (some .boolean), Cond.methodLink RX5 105 yX5_findLayer, Cond.instanceMethod yX5_findLayer, Cond.selects RX5 yX5_findLayer yX5_findLayer, Cond.code yX5_findLayer cX5_findLayer 5 none, Cond.fieldLink RX5 33 "BurinLinesModel" "want" "[I", Cond.fieldLink RX5 36 "BurinLinesModel" "made" "[I", Cond.fieldLink RX5 39 "BurinLinesModel" "first" "[I", Cond.fieldLink RX5 45 "BurinLinesModel" "size" "[I", Cond.fieldLink RX5 30 "BurinLinesModel" "swell" "I", Cond.fieldLink RX5 42 "BurinLinesModel" "last" "[I", Cond.methodLink RX5 92 yX5_wantedOf, Cond.instanceMethod yX5_wantedOf, Cond.selects RX5 yX5_wantedOf yX5_wantedOf, Cond.code yX5_wantedOf cX5_wantedOf 5 (some .int), Cond.fieldLink RX5 7 "BurinLinesModel" "tone" "[I", Cond.fieldLink RX5 24 "BurinLinesModel" "cross" "I", Cond.fieldLink RX5 20 "BurinLinesModel" "apart" "I", Cond.fieldLink RX5 27 "BurinLinesModel" "least" "I", Cond.methodLink RX5 65 yX5_less]
def wsX5_paths_r2 : List Cond := [Cond.static yX5_less, Cond.code yX5_less cX5_less 2 (some .int), Cond.methodLink RX5 86 yX5_more, Cond.static yX5_more, Cond.code yX5_more cX5_more 2 (some .int), Cond.methodLink RX5 98 yX5_tied, Cond.instanceMethod yX5_tied, Cond.selects RX5 yX5_tied yX5_tied, Cond.code yX5_tied cX5_tied 7 (some .int), Cond.methodLink RX5 89 yX5_wayOf, Cond.instanceMethod yX5_wayOf, Cond.selects RX5 yX5_wayOf yX5_wayOf, Cond.code yX5_wayOf cX5_wayOf 3 (some .int), Cond.fieldLink RX5 13 "BurinLinesModel" "turn" "[I", Cond.methodLink RX5 58 yX5_isCell, Cond.static yX5_isCell, Cond.code yX5_isCell cX5_isCell 2 (some .boolean), Cond.methodLink RX5 54 yX5_in, Cond.static yX5_in, Cond.code yX5_in cX5_in 3 (some .boolean)]
def wsX5_paths : List Cond := .code yX5_paths cX5_paths 2 (some .int) :: ((wsX5_paths_r1 ++ wsX5_paths_r2) ++ wsX50)
def wsX5_path_r1 : List Cond := [Cond.fieldLink RX5 95 "BurinLinesModel" "paths" "I", Cond.fieldLink RX5 39 "BurinLinesModel" "first" "[I", Cond.fieldLink RX5 36 "BurinLinesModel" "made" "[I", Cond.fieldLink RX5 42 "BurinLinesModel" "last" "[I", Cond.fieldLink RX5 45 "BurinLinesModel" "size" "[I", Cond.methodLink RX5 101 yX5_isLayer, Cond.static yX5_isLayer, Cond.initialized RX5, Cond.code yX5_isLayer cX5_isLayer 1 (some .boolean), Cond.methodLink RX5 105 yX5_findLayer, Cond.instanceMethod yX5_findLayer, Cond.selects RX5 yX5_findLayer yX5_findLayer, Cond.code yX5_findLayer cX5_findLayer 5 none, Cond.fieldLink RX5 33 "BurinLinesModel" "want" "[I", Cond.fieldLink RX5 30 "BurinLinesModel" "swell" "I", Cond.methodLink RX5 92 yX5_wantedOf, Cond.instanceMethod yX5_wantedOf, Cond.selects RX5 yX5_wantedOf yX5_wantedOf, Cond.code yX5_wantedOf cX5_wantedOf 5 (some .int), Cond.fieldLink RX5 7 "BurinLinesModel" "tone" "[I", Cond.fieldLink RX5 24 "BurinLinesModel" "cross" "I", Cond.fieldLink RX5 20 "BurinLinesModel" "apart" "I", Cond.fieldLink RX5 27 "BurinLinesModel" "least" "I", Cond.methodLink RX5 65 yX5_less]
def wsX5_path_r2 : List Cond := [Cond.static yX5_less, Cond.code yX5_less cX5_less 2 (some .int), Cond.methodLink RX5 86 yX5_more, Cond.static yX5_more, Cond.code yX5_more cX5_more 2 (some .int), Cond.methodLink RX5 98 yX5_tied, Cond.instanceMethod yX5_tied, Cond.selects RX5 yX5_tied yX5_tied, Cond.code yX5_tied cX5_tied 7 (some .int), Cond.methodLink RX5 89 yX5_wayOf, Cond.instanceMethod yX5_wayOf, Cond.selects RX5 yX5_wayOf yX5_wayOf, Cond.code yX5_wayOf cX5_wayOf 3 (some .int), Cond.fieldLink RX5 13 "BurinLinesModel" "turn" "[I", Cond.methodLink RX5 58 yX5_isCell, Cond.static yX5_isCell, Cond.code yX5_isCell cX5_isCell 2 (some .boolean), Cond.methodLink RX5 54 yX5_in, Cond.static yX5_in, Cond.code yX5_in cX5_in 3 (some .boolean)]
def wsX5_path : List Cond := .code yX5_path cX5_path 6 (some .int) :: ((wsX5_path_r1 ++ wsX5_path_r2) ++ wsX50)
def wsX5_far : List Cond := .code yX5_far cX5_far 2 (some .int) :: ([.methodLink RX5 62 yX5_size, .static yX5_size, .initialized RX5, .code yX5_size cX5_size 1 (some .int), .methodLink RX5 86 yX5_more, .static yX5_more, .code yX5_more cX5_more 2 (some .int)])
def wsX5_findOrder_r1 : List Cond := [Cond.fieldLink RX5 109 "BurinLinesModel" "air" "I", Cond.fieldLink RX5 95 "BurinLinesModel" "paths" "I", Cond.fieldLink RX5 48 "BurinLinesModel" "order" "[I", Cond.fieldLink RX5 39 "BurinLinesModel" "first" "[I", Cond.fieldLink RX5 42 "BurinLinesModel" "last" "[I", Cond.fieldLink RX5 51 "BurinLinesModel" "begun" "[I", Cond.methodLink RX5 105 yX5_findLayer, Cond.instanceMethod yX5_findLayer, Cond.selects RX5 yX5_findLayer yX5_findLayer, Cond.initialized RX5, Cond.code yX5_findLayer cX5_findLayer 5 none, Cond.fieldLink RX5 33 "BurinLinesModel" "want" "[I", Cond.fieldLink RX5 36 "BurinLinesModel" "made" "[I", Cond.fieldLink RX5 45 "BurinLinesModel" "size" "[I", Cond.fieldLink RX5 30 "BurinLinesModel" "swell" "I", Cond.methodLink RX5 92 yX5_wantedOf, Cond.instanceMethod yX5_wantedOf, Cond.selects RX5 yX5_wantedOf yX5_wantedOf, Cond.code yX5_wantedOf cX5_wantedOf 5 (some .int), Cond.fieldLink RX5 7 "BurinLinesModel" "tone" "[I", Cond.fieldLink RX5 24 "BurinLinesModel" "cross" "I", Cond.fieldLink RX5 20 "BurinLinesModel" "apart" "I", Cond.fieldLink RX5 27 "BurinLinesModel" "least" "I", Cond.methodLink RX5 65 yX5_less]
def wsX5_findOrder_r2 : List Cond := [Cond.static yX5_less, Cond.code yX5_less cX5_less 2 (some .int), Cond.methodLink RX5 86 yX5_more, Cond.static yX5_more, Cond.code yX5_more cX5_more 2 (some .int), Cond.methodLink RX5 98 yX5_tied, Cond.instanceMethod yX5_tied, Cond.selects RX5 yX5_tied yX5_tied, Cond.code yX5_tied cX5_tied 7 (some .int), Cond.methodLink RX5 89 yX5_wayOf, Cond.instanceMethod yX5_wayOf, Cond.selects RX5 yX5_wayOf yX5_wayOf, Cond.code yX5_wayOf cX5_wayOf 3 (some .int), Cond.fieldLink RX5 13 "BurinLinesModel" "turn" "[I", Cond.methodLink RX5 58 yX5_isCell, Cond.static yX5_isCell, Cond.code yX5_isCell cX5_isCell 2 (some .boolean), Cond.methodLink RX5 54 yX5_in, Cond.static yX5_in, Cond.code yX5_in cX5_in 3 (some .boolean), Cond.methodLink RX5 112 yX5_far, Cond.static yX5_far, Cond.code yX5_far cX5_far 2 (some .int), Cond.methodLink RX5 62 yX5_size]
def wsX5_findOrder_r3 : List Cond := [Cond.static yX5_size, Cond.code yX5_size cX5_size 1 (some .int)]
def wsX5_findOrder : List Cond := .code yX5_findOrder cX5_findOrder 9 none :: ((wsX5_findOrder_r1 ++ (wsX5_findOrder_r2 ++ wsX5_findOrder_r3)) ++ wsX50)
def wsX5_cut_r1 : List Cond := [Cond.fieldLink RX5 95 "BurinLinesModel" "paths" "I", Cond.fieldLink RX5 48 "BurinLinesModel" "order" "[I", Cond.methodLink RX5 101 yX5_isLayer, Cond.static yX5_isLayer, Cond.initialized RX5, Cond.code yX5_isLayer cX5_isLayer 1 (some .boolean), Cond.methodLink RX5 115 yX5_findOrder, Cond.instanceMethod yX5_findOrder, Cond.selects RX5 yX5_findOrder yX5_findOrder, Cond.code yX5_findOrder cX5_findOrder 9 none, Cond.fieldLink RX5 109 "BurinLinesModel" "air" "I", Cond.fieldLink RX5 39 "BurinLinesModel" "first" "[I", Cond.fieldLink RX5 42 "BurinLinesModel" "last" "[I", Cond.fieldLink RX5 51 "BurinLinesModel" "begun" "[I", Cond.methodLink RX5 105 yX5_findLayer, Cond.instanceMethod yX5_findLayer, Cond.selects RX5 yX5_findLayer yX5_findLayer, Cond.code yX5_findLayer cX5_findLayer 5 none, Cond.fieldLink RX5 33 "BurinLinesModel" "want" "[I", Cond.fieldLink RX5 36 "BurinLinesModel" "made" "[I", Cond.fieldLink RX5 45 "BurinLinesModel" "size" "[I", Cond.fieldLink RX5 30 "BurinLinesModel" "swell" "I", Cond.methodLink RX5 92 yX5_wantedOf, Cond.instanceMethod yX5_wantedOf]
def wsX5_cut_r2 : List Cond := [Cond.selects RX5 yX5_wantedOf yX5_wantedOf, Cond.code yX5_wantedOf cX5_wantedOf 5 (some .int), Cond.fieldLink RX5 7 "BurinLinesModel" "tone" "[I", Cond.fieldLink RX5 24 "BurinLinesModel" "cross" "I", Cond.fieldLink RX5 20 "BurinLinesModel" "apart" "I", Cond.fieldLink RX5 27 "BurinLinesModel" "least" "I", Cond.methodLink RX5 65 yX5_less, Cond.static yX5_less, Cond.code yX5_less cX5_less 2 (some .int), Cond.methodLink RX5 86 yX5_more, Cond.static yX5_more, Cond.code yX5_more cX5_more 2 (some .int), Cond.methodLink RX5 98 yX5_tied, Cond.instanceMethod yX5_tied, Cond.selects RX5 yX5_tied yX5_tied, Cond.code yX5_tied cX5_tied 7 (some .int), Cond.methodLink RX5 89 yX5_wayOf, Cond.instanceMethod yX5_wayOf, Cond.selects RX5 yX5_wayOf yX5_wayOf, Cond.code yX5_wayOf cX5_wayOf 3 (some .int), Cond.fieldLink RX5 13 "BurinLinesModel" "turn" "[I", Cond.methodLink RX5 58 yX5_isCell, Cond.static yX5_isCell, Cond.code yX5_isCell cX5_isCell 2 (some .boolean)]
def wsX5_cut_r3 : List Cond := [Cond.methodLink RX5 54 yX5_in, Cond.static yX5_in, Cond.code yX5_in cX5_in 3 (some .boolean), Cond.methodLink RX5 112 yX5_far, Cond.static yX5_far, Cond.code yX5_far cX5_far 2 (some .int), Cond.methodLink RX5 62 yX5_size, Cond.static yX5_size, Cond.code yX5_size cX5_size 1 (some .int)]
def wsX5_cut : List Cond := .code yX5_cut cX5_cut 3 (some .int) :: ((wsX5_cut_r1 ++ (wsX5_cut_r2 ++ wsX5_cut_r3)) ++ wsX50)
def wsX5_begin_r1 : List Cond := [Cond.fieldLink RX5 95 "BurinLinesModel" "paths" "I", Cond.fieldLink RX5 51 "BurinLinesModel" "begun" "[I", Cond.methodLink RX5 101 yX5_isLayer, Cond.static yX5_isLayer, Cond.initialized RX5, Cond.code yX5_isLayer cX5_isLayer 1 (some .boolean), Cond.methodLink RX5 115 yX5_findOrder, Cond.instanceMethod yX5_findOrder, Cond.selects RX5 yX5_findOrder yX5_findOrder, Cond.code yX5_findOrder cX5_findOrder 9 none, Cond.fieldLink RX5 109 "BurinLinesModel" "air" "I", Cond.fieldLink RX5 48 "BurinLinesModel" "order" "[I", Cond.fieldLink RX5 39 "BurinLinesModel" "first" "[I", Cond.fieldLink RX5 42 "BurinLinesModel" "last" "[I", Cond.methodLink RX5 105 yX5_findLayer, Cond.instanceMethod yX5_findLayer, Cond.selects RX5 yX5_findLayer yX5_findLayer, Cond.code yX5_findLayer cX5_findLayer 5 none, Cond.fieldLink RX5 33 "BurinLinesModel" "want" "[I", Cond.fieldLink RX5 36 "BurinLinesModel" "made" "[I", Cond.fieldLink RX5 45 "BurinLinesModel" "size" "[I", Cond.fieldLink RX5 30 "BurinLinesModel" "swell" "I", Cond.methodLink RX5 92 yX5_wantedOf, Cond.instanceMethod yX5_wantedOf]
def wsX5_begin_r2 : List Cond := [Cond.selects RX5 yX5_wantedOf yX5_wantedOf, Cond.code yX5_wantedOf cX5_wantedOf 5 (some .int), Cond.fieldLink RX5 7 "BurinLinesModel" "tone" "[I", Cond.fieldLink RX5 24 "BurinLinesModel" "cross" "I", Cond.fieldLink RX5 20 "BurinLinesModel" "apart" "I", Cond.fieldLink RX5 27 "BurinLinesModel" "least" "I", Cond.methodLink RX5 65 yX5_less, Cond.static yX5_less, Cond.code yX5_less cX5_less 2 (some .int), Cond.methodLink RX5 86 yX5_more, Cond.static yX5_more, Cond.code yX5_more cX5_more 2 (some .int), Cond.methodLink RX5 98 yX5_tied, Cond.instanceMethod yX5_tied, Cond.selects RX5 yX5_tied yX5_tied, Cond.code yX5_tied cX5_tied 7 (some .int), Cond.methodLink RX5 89 yX5_wayOf, Cond.instanceMethod yX5_wayOf, Cond.selects RX5 yX5_wayOf yX5_wayOf, Cond.code yX5_wayOf cX5_wayOf 3 (some .int), Cond.fieldLink RX5 13 "BurinLinesModel" "turn" "[I", Cond.methodLink RX5 58 yX5_isCell, Cond.static yX5_isCell, Cond.code yX5_isCell cX5_isCell 2 (some .boolean)]
def wsX5_begin_r3 : List Cond := [Cond.methodLink RX5 54 yX5_in, Cond.static yX5_in, Cond.code yX5_in cX5_in 3 (some .boolean), Cond.methodLink RX5 112 yX5_far, Cond.static yX5_far, Cond.code yX5_far cX5_far 2 (some .int), Cond.methodLink RX5 62 yX5_size, Cond.static yX5_size, Cond.code yX5_size cX5_size 1 (some .int)]
def wsX5_begin : List Cond := .code yX5_begin cX5_begin 3 (some .int) :: ((wsX5_begin_r1 ++ (wsX5_begin_r2 ++ wsX5_begin_r3)) ++ wsX50)
def wsX5_air_r1 : List Cond := [Cond.fieldLink RX5 109 "BurinLinesModel" "air" "I", Cond.methodLink RX5 101 yX5_isLayer, Cond.static yX5_isLayer, Cond.initialized RX5, Cond.code yX5_isLayer cX5_isLayer 1 (some .boolean), Cond.methodLink RX5 115 yX5_findOrder, Cond.instanceMethod yX5_findOrder, Cond.selects RX5 yX5_findOrder yX5_findOrder, Cond.code yX5_findOrder cX5_findOrder 9 none, Cond.fieldLink RX5 95 "BurinLinesModel" "paths" "I", Cond.fieldLink RX5 48 "BurinLinesModel" "order" "[I", Cond.fieldLink RX5 39 "BurinLinesModel" "first" "[I", Cond.fieldLink RX5 42 "BurinLinesModel" "last" "[I", Cond.fieldLink RX5 51 "BurinLinesModel" "begun" "[I", Cond.methodLink RX5 105 yX5_findLayer, Cond.instanceMethod yX5_findLayer, Cond.selects RX5 yX5_findLayer yX5_findLayer, Cond.code yX5_findLayer cX5_findLayer 5 none, Cond.fieldLink RX5 33 "BurinLinesModel" "want" "[I", Cond.fieldLink RX5 36 "BurinLinesModel" "made" "[I", Cond.fieldLink RX5 45 "BurinLinesModel" "size" "[I", Cond.fieldLink RX5 30 "BurinLinesModel" "swell" "I", Cond.methodLink RX5 92 yX5_wantedOf, Cond.instanceMethod yX5_wantedOf]
def wsX5_air_r2 : List Cond := [Cond.selects RX5 yX5_wantedOf yX5_wantedOf, Cond.code yX5_wantedOf cX5_wantedOf 5 (some .int), Cond.fieldLink RX5 7 "BurinLinesModel" "tone" "[I", Cond.fieldLink RX5 24 "BurinLinesModel" "cross" "I", Cond.fieldLink RX5 20 "BurinLinesModel" "apart" "I", Cond.fieldLink RX5 27 "BurinLinesModel" "least" "I", Cond.methodLink RX5 65 yX5_less, Cond.static yX5_less, Cond.code yX5_less cX5_less 2 (some .int), Cond.methodLink RX5 86 yX5_more, Cond.static yX5_more, Cond.code yX5_more cX5_more 2 (some .int), Cond.methodLink RX5 98 yX5_tied, Cond.instanceMethod yX5_tied, Cond.selects RX5 yX5_tied yX5_tied, Cond.code yX5_tied cX5_tied 7 (some .int), Cond.methodLink RX5 89 yX5_wayOf, Cond.instanceMethod yX5_wayOf, Cond.selects RX5 yX5_wayOf yX5_wayOf, Cond.code yX5_wayOf cX5_wayOf 3 (some .int), Cond.fieldLink RX5 13 "BurinLinesModel" "turn" "[I", Cond.methodLink RX5 58 yX5_isCell, Cond.static yX5_isCell, Cond.code yX5_isCell cX5_isCell 2 (some .boolean)]
def wsX5_air_r3 : List Cond := [Cond.methodLink RX5 54 yX5_in, Cond.static yX5_in, Cond.code yX5_in cX5_in 3 (some .boolean), Cond.methodLink RX5 112 yX5_far, Cond.static yX5_far, Cond.code yX5_far cX5_far 2 (some .int), Cond.methodLink RX5 62 yX5_size, Cond.static yX5_size, Cond.code yX5_size cX5_size 1 (some .int)]
def wsX5_air : List Cond := .code yX5_air cX5_air 2 (some .int) :: ((wsX5_air_r1 ++ (wsX5_air_r2 ++ wsX5_air_r3)) ++ wsX50)
def wsX5_count_r1 : List Cond := [Cond.fieldLink RX5 7 "BurinLinesModel" "tone" "[I", Cond.fieldLink RX5 16 "BurinLinesModel" "isTold" "[Z", Cond.methodLink RX5 54 yX5_in, Cond.static yX5_in, Cond.initialized RX5, Cond.code yX5_in cX5_in 3 (some .boolean), Cond.methodLink RX5 92 yX5_wantedOf, Cond.instanceMethod yX5_wantedOf, Cond.selects RX5 yX5_wantedOf yX5_wantedOf, Cond.code yX5_wantedOf cX5_wantedOf 5 (some .int), Cond.fieldLink RX5 24 "BurinLinesModel" "cross" "I", Cond.fieldLink RX5 20 "BurinLinesModel" "apart" "I", Cond.fieldLink RX5 27 "BurinLinesModel" "least" "I", Cond.methodLink RX5 65 yX5_less, Cond.static yX5_less, Cond.code yX5_less cX5_less 2 (some .int), Cond.methodLink RX5 86 yX5_more, Cond.static yX5_more, Cond.code yX5_more cX5_more 2 (some .int), Cond.methodLink RX5 83 yX5_knotOf, Cond.instanceMethod yX5_knotOf, Cond.selects RX5 yX5_knotOf yX5_knotOf, Cond.code yX5_knotOf cX5_knotOf 8 (some .int), Cond.fieldLink RX5 13 "BurinLinesModel" "turn" "[I"]
def wsX5_count_r2 : List Cond := [Cond.methodLink RX5 80 yX5_grows, Cond.static yX5_grows, Cond.code yX5_grows cX5_grows 3 (some .int)]
def wsX5_count : List Cond := .code yX5_count cX5_count 5 (some .int) :: ((wsX5_count_r1 ++ wsX5_count_r2) ++ wsX50)
def wsJ9_abs_0f7a4 : List Cond := .code yJ9_abs_0f7a4 cJ9_abs_0f7a4 1 (some .int) :: ([])
def wsJ9_max_7cf53 : List Cond := .code yJ9_max_7cf53 cJ9_max_7cf53 2 (some .int) :: ([])
def wsJ9_min_7cf53 : List Cond := .code yJ9_min_7cf53 cJ9_min_7cf53 2 (some .int) :: ([])
def wsL_law_r1 : List Cond := [Cond.classLink RL 7 RX4, Cond.instantiable RX4 5, Cond.initialized RX4, Cond.classLink RL 10 RX5, Cond.instantiable RX5 16, Cond.initialized RX5, Cond.methodLink RL 9 yX4_init, Cond.instanceMethod yX4_init, Cond.code yX4_init cX4_init 1 none, Cond.methodLink RX4 3 objectInit, Cond.instanceMethod objectInit, Cond.code objectInit ⟨#[0xb1]⟩ 1 none, Cond.classLink RX4 9 RX2, Cond.instantiable RX2 3, Cond.initialized RX2, Cond.fieldLink RX4 12 "BurinLines" "plate" "LBurinLines$Plate;", Cond.classLink RX4 16 RX3, Cond.instantiable RX3 1, Cond.initialized RX3, Cond.fieldLink RX4 19 "BurinLines" "tool" "LBurinLines$Tool;", Cond.classLink RX4 23 RX1, Cond.instantiable RX1 9, Cond.initialized RX1, Cond.fieldLink RX4 28 "BurinLines" "lightLayer" "LBurinLines$Layer;"]
def wsL_law_r2 : List Cond := [Cond.fieldLink RX4 32 "BurinLines" "darkLayer" "LBurinLines$Layer;", Cond.classLink RX4 35 RX0, Cond.instantiable RX0 5, Cond.initialized RX0, Cond.fieldLink RX4 38 "BurinLines" "cutting" "LBurinLines$Cutting;", Cond.instanceMethod yX2_init, Cond.code yX2_init cX2_init 1 none, Cond.methodLink RX2 3 objectInit, Cond.arrayClass .int, Cond.fieldLink RX2 9 "BurinLines$Plate" "tones" "[I", Cond.fieldLink RX2 15 "BurinLines$Plate" "turns" "[I", Cond.arrayClass .boolean, Cond.fieldLink RX2 18 "BurinLines$Plate" "told" "[Z", Cond.instanceMethod yX3_init, Cond.code yX3_init cX3_init 1 none, Cond.methodLink RX3 3 objectInit, Cond.fieldLink RX3 9 "BurinLines$Tool" "settings" "[I", Cond.methodLink RX4 25 yX1_init, Cond.instanceMethod yX1_init, Cond.code yX1_init cX1_init 2 none, Cond.methodLink RX1 3 objectInit, Cond.fieldLink RX1 9 "BurinLines$Layer" "wants" "[I", Cond.fieldLink RX1 15 "BurinLines$Layer" "ways" "[I", Cond.fieldLink RX1 18 "BurinLines$Layer" "widths" "[I"]
def wsL_law_r3 : List Cond := [Cond.fieldLink RX1 21 "BurinLines$Layer" "firsts" "[I", Cond.fieldLink RX1 24 "BurinLines$Layer" "lasts" "[I", Cond.fieldLink RX1 27 "BurinLines$Layer" "lengths" "[I", Cond.fieldLink RX1 30 "BurinLines$Layer" "greatestWidths" "[I", Cond.fieldLink RX1 33 "BurinLines$Layer" "number" "I", Cond.instanceMethod yX0_init, Cond.code yX0_init cX0_init 1 none, Cond.methodLink RX0 3 objectInit, Cond.fieldLink RX0 9 "BurinLines$Cutting" "order" "[I", Cond.fieldLink RX0 15 "BurinLines$Cutting" "begins" "[I", Cond.fieldLink RX0 18 "BurinLines$Cutting" "done" "[Z", Cond.methodLink RL 12 yX5_init, Cond.instanceMethod yX5_init, Cond.code yX5_init cX5_init 1 none, Cond.methodLink RX5 1 objectInit, Cond.fieldLink RX5 7 "BurinLinesModel" "tone" "[I", Cond.fieldLink RX5 13 "BurinLinesModel" "turn" "[I", Cond.fieldLink RX5 16 "BurinLinesModel" "isTold" "[Z", Cond.fieldLink RX5 20 "BurinLinesModel" "apart" "I", Cond.fieldLink RX5 24 "BurinLinesModel" "cross" "I", Cond.fieldLink RX5 27 "BurinLinesModel" "least" "I", Cond.fieldLink RX5 30 "BurinLinesModel" "swell" "I", Cond.fieldLink RX5 33 "BurinLinesModel" "want" "[I", Cond.fieldLink RX5 36 "BurinLinesModel" "made" "[I"]
def wsL_law_r4 : List Cond := [Cond.fieldLink RX5 39 "BurinLinesModel" "first" "[I", Cond.fieldLink RX5 42 "BurinLinesModel" "last" "[I", Cond.fieldLink RX5 45 "BurinLinesModel" "size" "[I", Cond.fieldLink RX5 48 "BurinLinesModel" "order" "[I", Cond.fieldLink RX5 51 "BurinLinesModel" "begun" "[I", Cond.methodLink RL 13 yX4_tone, Cond.instanceMethod yX4_tone, Cond.selects RX4 yX4_tone yX4_tone, Cond.code yX4_tone cX4_tone 6 (some .int), Cond.fieldLink RX4 54 "BurinLines$Plate" "tones" "[I", Cond.methodLink RX4 42 yX4_isCell, Cond.static yX4_isCell, Cond.code yX4_isCell cX4_isCell 2 (some .boolean), Cond.methodLink RX4 46 yX4_isTone, Cond.static yX4_isTone, Cond.code yX4_isTone cX4_isTone 1 (some .boolean), Cond.methodLink RX4 50 yX4_cellOf, Cond.static yX4_cellOf, Cond.code yX4_cellOf cX4_cellOf 2 (some .int), Cond.methodLink RL 17 yX5_tone, Cond.instanceMethod yX5_tone, Cond.selects RX5 yX5_tone yX5_tone, Cond.code yX5_tone cX5_tone 5 (some .int), Cond.methodLink RX5 58 yX5_isCell]
def wsL_law_r5 : List Cond := [Cond.static yX5_isCell, Cond.code yX5_isCell cX5_isCell 2 (some .boolean), Cond.methodLink RX5 54 yX5_in, Cond.static yX5_in, Cond.code yX5_in cX5_in 3 (some .boolean), Cond.methodLink RL 18 yX4_shade, Cond.instanceMethod yX4_shade, Cond.selects RX4 yX4_shade yX4_shade, Cond.code yX4_shade cX4_shade 10 (some .int), Cond.methodLink RL 22 yX5_shade, Cond.instanceMethod yX5_shade, Cond.selects RX5 yX5_shade yX5_shade, Cond.code yX5_shade cX5_shade 9 (some .int), Cond.methodLink RL 23 yX4_tell, Cond.instanceMethod yX4_tell, Cond.selects RX4 yX4_tell yX4_tell, Cond.code yX4_tell cX4_tell 6 (some .int), Cond.fieldLink RX4 58 "BurinLines$Plate" "turns" "[I", Cond.fieldLink RX4 61 "BurinLines$Plate" "told" "[Z", Cond.methodLink RL 26 yX5_tell, Cond.instanceMethod yX5_tell, Cond.selects RX5 yX5_tell yX5_tell, Cond.code yX5_tell cX5_tell 5 (some .int), Cond.methodLink RL 27 yX4_free]
def wsL_law_r6 : List Cond := [Cond.instanceMethod yX4_free, Cond.selects RX4 yX4_free yX4_free, Cond.code yX4_free cX4_free 4 (some .int), Cond.methodLink RL 31 yX5_free, Cond.instanceMethod yX5_free, Cond.selects RX5 yX5_free yX5_free, Cond.code yX5_free cX5_free 3 (some .int), Cond.methodLink RL 32 yX4_even, Cond.instanceMethod yX4_even, Cond.selects RX4 yX4_even yX4_even, Cond.code yX4_even cX4_even 1 (some .int), Cond.methodLink RX4 65 yX2_smooth, Cond.instanceMethod yX2_smooth, Cond.selects RX2 yX2_smooth yX2_smooth, Cond.code yX2_smooth cX2_smooth 3 (some .int), Cond.methodLink RX2 22 yX2_goThrough, Cond.instanceMethod yX2_goThrough, Cond.selects RX2 yX2_goThrough yX2_goThrough, Cond.code yX2_goThrough cX2_goThrough 4 (some .boolean), Cond.methodLink RX2 26 yX2_calmestTurn, Cond.instanceMethod yX2_calmestTurn, Cond.selects RX2 yX2_calmestTurn yX2_calmestTurn, Cond.code yX2_calmestTurn cX2_calmestTurn 6 (some .int), Cond.methodLink RX2 30 yX2_strain]
def wsL_law_r7 : List Cond := [Cond.instanceMethod yX2_strain, Cond.selects RX2 yX2_strain yX2_strain, Cond.code yX2_strain cX2_strain 5 (some .int), Cond.methodLink RX2 34 yX2_strainAgainst, Cond.instanceMethod yX2_strainAgainst, Cond.selects RX2 yX2_strainAgainst yX2_strainAgainst, Cond.code yX2_strainAgainst cX2_strainAgainst 4 (some .int), Cond.methodLink RX2 48 yJ9_floorMod_7cf53, Cond.static yJ9_floorMod_7cf53, Cond.initialized RJ9, Cond.code yJ9_floorMod_7cf53 cJ9_floorMod_7cf53 3 (some .int), Cond.methodLink RL 36 yX5_even, Cond.instanceMethod yX5_even, Cond.selects RX5 yX5_even yX5_even, Cond.code yX5_even cX5_even 2 (some .int), Cond.methodLink RX5 76 yX5_goThrough, Cond.instanceMethod yX5_goThrough, Cond.selects RX5 yX5_goThrough yX5_goThrough, Cond.code yX5_goThrough cX5_goThrough 5 (some .boolean), Cond.methodLink RX5 73 yX5_offOf, Cond.instanceMethod yX5_offOf, Cond.selects RX5 yX5_offOf yX5_offOf, Cond.code yX5_offOf cX5_offOf 4 (some .int), Cond.methodLink RX5 69 yX5_off]
def wsL_law_r8 : List Cond := [Cond.instanceMethod yX5_off, Cond.selects RX5 yX5_off yX5_off, Cond.code yX5_off cX5_off 5 (some .int), Cond.methodLink RX5 62 yX5_size, Cond.static yX5_size, Cond.code yX5_size cX5_size 1 (some .int), Cond.methodLink RX5 65 yX5_less, Cond.static yX5_less, Cond.code yX5_less cX5_less 2 (some .int), Cond.methodLink RL 37 yX4_at, Cond.instanceMethod yX4_at, Cond.selects RX4 yX4_at yX4_at, Cond.code yX4_at cX4_at 5 (some .int), Cond.methodLink RL 40 yX5_at, Cond.instanceMethod yX5_at, Cond.selects RX5 yX5_at yX5_at, Cond.code yX5_at cX5_at 5 (some .int), Cond.methodLink RL 41 yX4_knot, Cond.instanceMethod yX4_knot, Cond.selects RX4 yX4_knot yX4_knot, Cond.code yX4_knot cX4_knot 3 (some .int), Cond.methodLink RX4 69 yX4_isBlock, Cond.static yX4_isBlock, Cond.code yX4_isBlock cX4_isBlock 2 (some .boolean)]
def wsL_law_r9 : List Cond := [Cond.methodLink RX4 72 yX2_knotOf, Cond.instanceMethod yX2_knotOf, Cond.selects RX2 yX2_knotOf yX2_knotOf, Cond.code yX2_knotOf cX2_knotOf 12 (some .int), Cond.methodLink RX2 53 yX2_growth, Cond.static yX2_growth, Cond.code yX2_growth cX2_growth 3 (some .int), Cond.methodLink RL 44 yX5_knot, Cond.instanceMethod yX5_knot, Cond.selects RX5 yX5_knot yX5_knot, Cond.code yX5_knot cX5_knot 3 (some .int), Cond.methodLink RX5 83 yX5_knotOf, Cond.instanceMethod yX5_knotOf, Cond.selects RX5 yX5_knotOf yX5_knotOf, Cond.code yX5_knotOf cX5_knotOf 8 (some .int), Cond.methodLink RX5 80 yX5_grows, Cond.static yX5_grows, Cond.code yX5_grows cX5_grows 3 (some .int), Cond.methodLink RL 45 yX4_set, Cond.instanceMethod yX4_set, Cond.selects RX4 yX4_set yX4_set, Cond.code yX4_set cX4_set 3 (some .int), Cond.methodLink RX4 75 yX3_change, Cond.instanceMethod yX3_change]
def wsL_law_r10 : List Cond := [Cond.selects RX3 yX3_change yX3_change, Cond.code yX3_change cX3_change 4 (some .int), Cond.methodLink RL 48 yX5_set, Cond.instanceMethod yX5_set, Cond.selects RX5 yX5_set yX5_set, Cond.code yX5_set cX5_set 4 (some .int), Cond.methodLink RL 49 yX4_wanted, Cond.instanceMethod yX4_wanted, Cond.selects RX4 yX4_wanted yX4_wanted, Cond.code yX4_wanted cX4_wanted 4 (some .int), Cond.methodLink RX4 78 yX4_isLayer, Cond.static yX4_isLayer, Cond.code yX4_isLayer cX4_isLayer 1 (some .boolean), Cond.methodLink RX4 81 yX3_widthFor, Cond.instanceMethod yX3_widthFor, Cond.selects RX3 yX3_widthFor yX3_widthFor, Cond.code yX3_widthFor cX3_widthFor 6 (some .int), Cond.methodLink RX3 21 Lib.Math.min.name, Cond.static Lib.Math.min.name, Cond.initialized "java/lang/Math", Cond.code Lib.Math.min.name Lib.Math.min.code 2 (some .int), Cond.methodLink RL 52 yX5_wanted, Cond.instanceMethod yX5_wanted, Cond.selects RX5 yX5_wanted yX5_wanted]
def wsL_law_r11 : List Cond := [Cond.code yX5_wanted cX5_wanted 4 (some .int), Cond.methodLink RX5 101 yX5_isLayer, Cond.static yX5_isLayer, Cond.code yX5_isLayer cX5_isLayer 1 (some .boolean), Cond.methodLink RX5 92 yX5_wantedOf, Cond.instanceMethod yX5_wantedOf, Cond.selects RX5 yX5_wantedOf yX5_wantedOf, Cond.code yX5_wantedOf cX5_wantedOf 5 (some .int), Cond.methodLink RX5 86 yX5_more, Cond.static yX5_more, Cond.code yX5_more cX5_more 2 (some .int), Cond.methodLink RL 53 yX4_width, Cond.instanceMethod yX4_width, Cond.selects RX4 yX4_width yX4_width, Cond.code yX4_width cX4_width 4 (some .int), Cond.fieldLink RX4 88 "BurinLines$Layer" "widths" "[I", Cond.methodLink RX4 84 yX4_drawnLayer, Cond.instanceMethod yX4_drawnLayer, Cond.selects RX4 yX4_drawnLayer yX4_drawnLayer, Cond.code yX4_drawnLayer cX4_drawnLayer 3 (some (.object "BurinLines$Layer")), Cond.methodLink RX4 150 yX1_draw, Cond.instanceMethod yX1_draw, Cond.selects RX1 yX1_draw yX1_draw, Cond.code yX1_draw cX1_draw 4 none]
def wsL_law_r12 : List Cond := [Cond.fieldLink RX1 37 "BurinLines$Plate" "tones" "[I", Cond.fieldLink RX1 48 "BurinLines$Plate" "turns" "[I", Cond.fieldLink RX1 55 "BurinLines$Layer" "pathCount" "I", Cond.methodLink RX1 42 yX3_widthFor, Cond.methodLink RX1 51 yX1_wayFor, Cond.instanceMethod yX1_wayFor, Cond.selects RX1 yX1_wayFor yX1_wayFor, Cond.code yX1_wayFor cX1_wayFor 3 (some .int), Cond.methodLink RX1 69 yJ9_floorMod_7cf53, Cond.methodLink RX1 58 yX1_tiedTo, Cond.instanceMethod yX1_tiedTo, Cond.selects RX1 yX1_tiedTo yX1_tiedTo, Cond.code yX1_tiedTo cX1_tiedTo 7 (some .int), Cond.methodLink RX1 61 yX3_swell, Cond.instanceMethod yX3_swell, Cond.selects RX3 yX3_swell yX3_swell, Cond.code yX3_swell cX3_swell 1 (some .int), Cond.methodLink RX1 65 yX1_addPath, Cond.instanceMethod yX1_addPath, Cond.selects RX1 yX1_addPath yX1_addPath, Cond.code yX1_addPath cX1_addPath 4 none, Cond.methodLink RX1 87 yX1_limitSwell, Cond.instanceMethod yX1_limitSwell, Cond.selects RX1 yX1_limitSwell yX1_limitSwell]
def wsL_law_r13 : List Cond := [Cond.code yX1_limitSwell cX1_limitSwell 7 (some .int), Cond.methodLink RX1 97 Lib.Math.min.name, Cond.static yX4_wayBetween, Cond.code yX4_wayBetween cX4_wayBetween 4 (some .int), Cond.methodLink RX4 98 Lib.Math.abs.name, Cond.static Lib.Math.abs.name, Cond.code Lib.Math.abs.name Lib.Math.abs.code 1 (some .int), Cond.methodLink RX4 103 Lib.Math.max.name, Cond.static Lib.Math.max.name, Cond.code Lib.Math.max.name Lib.Math.max.code 2 (some .int), Cond.methodLink RX1 94 yX1_greatestWidthFrom, Cond.instanceMethod yX1_greatestWidthFrom, Cond.selects RX1 yX1_greatestWidthFrom yX1_greatestWidthFrom, Cond.code yX1_greatestWidthFrom cX1_greatestWidthFrom 5 (some .int), Cond.methodLink RX1 100 Lib.Math.max.name, Cond.methodLink RL 56 yX5_width, Cond.instanceMethod yX5_width, Cond.selects RX5 yX5_width yX5_width, Cond.code yX5_width cX5_width 4 (some .int), Cond.methodLink RX5 105 yX5_findLayer, Cond.instanceMethod yX5_findLayer, Cond.selects RX5 yX5_findLayer yX5_findLayer, Cond.code yX5_findLayer cX5_findLayer 5 none, Cond.fieldLink RX5 95 "BurinLinesModel" "paths" "I"]
def wsL_law_r14 : List Cond := [Cond.methodLink RX5 98 yX5_tied, Cond.instanceMethod yX5_tied, Cond.selects RX5 yX5_tied yX5_tied, Cond.code yX5_tied cX5_tied 7 (some .int), Cond.methodLink RX5 89 yX5_wayOf, Cond.instanceMethod yX5_wayOf, Cond.selects RX5 yX5_wayOf yX5_wayOf, Cond.code yX5_wayOf cX5_wayOf 3 (some .int), Cond.methodLink RL 57 yX4_made, Cond.instanceMethod yX4_made, Cond.selects RX4 yX4_made yX4_made, Cond.code yX4_made cX4_made 3 (some .int), Cond.methodLink RX4 91 yX4_drawBothLayers, Cond.instanceMethod yX4_drawBothLayers, Cond.selects RX4 yX4_drawBothLayers yX4_drawBothLayers, Cond.code yX4_drawBothLayers cX4_drawBothLayers 1 none, Cond.methodLink RX4 94 yX4_toneMade, Cond.instanceMethod yX4_toneMade, Cond.selects RX4 yX4_toneMade yX4_toneMade, Cond.code yX4_toneMade cX4_toneMade 2 (some .int), Cond.methodLink RX4 154 yX3_toneOf, Cond.instanceMethod yX3_toneOf, Cond.selects RX3 yX3_toneOf yX3_toneOf, Cond.code yX3_toneOf cX3_toneOf 3 (some .int)]
def wsL_law_r15 : List Cond := [Cond.methodLink RL 60 yX5_made, Cond.instanceMethod yX5_made, Cond.selects RX5 yX5_made yX5_made, Cond.code yX5_made cX5_made 4 (some .int), Cond.methodLink RL 61 yX4_error, Cond.instanceMethod yX4_error, Cond.selects RX4 yX4_error yX4_error, Cond.code yX4_error cX4_error 6 (some .int), Cond.methodLink RL 65 yX5_error, Cond.instanceMethod yX5_error, Cond.selects RX5 yX5_error yX5_error, Cond.code yX5_error cX5_error 6 (some .int), Cond.methodLink RL 66 yX4_paths, Cond.instanceMethod yX4_paths, Cond.selects RX4 yX4_paths yX4_paths, Cond.code yX4_paths cX4_paths 2 (some .int), Cond.fieldLink RX4 106 "BurinLines$Layer" "pathCount" "I", Cond.methodLink RL 69 yX5_paths, Cond.instanceMethod yX5_paths, Cond.selects RX5 yX5_paths yX5_paths, Cond.code yX5_paths cX5_paths 2 (some .int), Cond.methodLink RL 70 yX4_path, Cond.instanceMethod yX4_path, Cond.selects RX4 yX4_path yX4_path]
def wsL_law_r16 : List Cond := [Cond.code yX4_path cX4_path 5 (some .int), Cond.fieldLink RX4 110 "BurinLines$Layer" "firsts" "[I", Cond.fieldLink RX4 113 "BurinLines$Layer" "lasts" "[I", Cond.fieldLink RX4 116 "BurinLines$Layer" "lengths" "[I", Cond.fieldLink RX4 119 "BurinLines$Layer" "greatestWidths" "[I", Cond.methodLink RL 73 yX5_path, Cond.instanceMethod yX5_path, Cond.selects RX5 yX5_path yX5_path, Cond.code yX5_path cX5_path 6 (some .int), Cond.methodLink RL 74 yX4_cut, Cond.instanceMethod yX4_cut, Cond.selects RX4 yX4_cut yX4_cut, Cond.code yX4_cut cX4_cut 3 (some .int), Cond.fieldLink RX4 129 "BurinLines$Cutting" "order" "[I", Cond.methodLink RX4 122 yX0_plan, Cond.instanceMethod yX0_plan, Cond.selects RX0 yX0_plan yX0_plan, Cond.code yX0_plan cX0_plan 5 none, Cond.fieldLink RX0 22 "BurinLines$Cutting" "planned" "I", Cond.fieldLink RX0 26 "BurinLines$Cutting" "wayInAir" "I", Cond.fieldLink RX0 33 "BurinLines$Layer" "pathCount" "I", Cond.methodLink RX0 38 yX0_nearestPath, Cond.instanceMethod yX0_nearestPath, Cond.selects RX0 yX0_nearestPath yX0_nearestPath]
def wsL_law_r17 : List Cond := [Cond.code yX0_nearestPath cX0_nearestPath 7 (some .int), Cond.fieldLink RX0 46 "BurinLines$Layer" "firsts" "[I", Cond.fieldLink RX0 52 "BurinLines$Layer" "lasts" "[I", Cond.methodLink RX0 55 Lib.Math.min.name, Cond.methodLink RX0 42 yX0_cutPath, Cond.instanceMethod yX0_cutPath, Cond.selects RX0 yX0_cutPath yX0_cutPath, Cond.code yX0_cutPath cX0_cutPath 8 (some .int), Cond.methodLink RX4 126 yX0_has, Cond.instanceMethod yX0_has, Cond.selects RX0 yX0_has yX0_has, Cond.code yX0_has cX0_has 2 (some .boolean), Cond.methodLink RL 77 yX5_cut, Cond.instanceMethod yX5_cut, Cond.selects RX5 yX5_cut yX5_cut, Cond.code yX5_cut cX5_cut 3 (some .int), Cond.methodLink RX5 115 yX5_findOrder, Cond.instanceMethod yX5_findOrder, Cond.selects RX5 yX5_findOrder yX5_findOrder, Cond.code yX5_findOrder cX5_findOrder 9 none, Cond.fieldLink RX5 109 "BurinLinesModel" "air" "I", Cond.methodLink RX5 112 yX5_far, Cond.static yX5_far, Cond.code yX5_far cX5_far 2 (some .int)]
def wsL_law_r18 : List Cond := [Cond.methodLink RL 78 yX4_begin, Cond.instanceMethod yX4_begin, Cond.selects RX4 yX4_begin yX4_begin, Cond.code yX4_begin cX4_begin 3 (some .int), Cond.fieldLink RX4 132 "BurinLines$Cutting" "begins" "[I", Cond.methodLink RL 81 yX5_begin, Cond.instanceMethod yX5_begin, Cond.selects RX5 yX5_begin yX5_begin, Cond.code yX5_begin cX5_begin 3 (some .int), Cond.methodLink RL 82 yX4_air, Cond.instanceMethod yX4_air, Cond.selects RX4 yX4_air yX4_air, Cond.code yX4_air cX4_air 2 (some .int), Cond.fieldLink RX4 135 "BurinLines$Cutting" "wayInAir" "I", Cond.methodLink RL 85 yX5_air, Cond.instanceMethod yX5_air, Cond.selects RX5 yX5_air yX5_air, Cond.code yX5_air cX5_air 2 (some .int), Cond.methodLink RL 86 yX4_count, Cond.instanceMethod yX4_count, Cond.selects RX4 yX4_count yX4_count, Cond.code yX4_count cX4_count 2 (some .int), Cond.methodLink RX4 138 yX2_countToned, Cond.instanceMethod yX2_countToned]
def wsL_law_r19 : List Cond := [Cond.selects RX2 yX2_countToned yX2_countToned, Cond.code yX2_countToned cX2_countToned 3 (some .int), Cond.methodLink RX4 141 yX2_countTold, Cond.instanceMethod yX2_countTold, Cond.selects RX2 yX2_countTold yX2_countTold, Cond.code yX2_countTold cX2_countTold 3 (some .int), Cond.methodLink RX4 144 yX4_countStrokes, Cond.instanceMethod yX4_countStrokes, Cond.selects RX4 yX4_countStrokes yX4_countStrokes, Cond.code yX4_countStrokes cX4_countStrokes 4 (some .int), Cond.methodLink RX4 147 yX2_countKnots, Cond.instanceMethod yX2_countKnots, Cond.selects RX2 yX2_countKnots yX2_countKnots, Cond.code yX2_countKnots cX2_countKnots 5 (some .int), Cond.methodLink RX2 56 yX2_knotOf, Cond.methodLink RL 89 yX5_count, Cond.instanceMethod yX5_count, Cond.selects RX5 yX5_count yX5_count, Cond.code yX5_count cX5_count 5 (some .int)]
def wsL_law : List Cond := (wsL_law_r1 ++ (wsL_law_r2 ++ (wsL_law_r3 ++ (wsL_law_r4 ++ (wsL_law_r5 ++ (wsL_law_r6 ++ (wsL_law_r7 ++ (wsL_law_r8 ++ (wsL_law_r9 ++ (wsL_law_r10 ++ (wsL_law_r11 ++ (wsL_law_r12 ++ (wsL_law_r13 ++ (wsL_law_r14 ++ (wsL_law_r15 ++ (wsL_law_r16 ++ (wsL_law_r17 ++ (wsL_law_r18 ++ wsL_law_r19)))))))))))))))))) ++ wsX40 ++ wsX50 ++ wsX20 ++ wsX30 ++ wsX10 ++ wsX00 ++ ([] : List Cond)
abbrev vwCl : List vw_C := [(RX0, TX0, 5), (RX1, TX1, 9), (RX2, TX2, 3), (RX3, TX3, 1), (RX4, TX4, 5), (RX5, TX5, 16)]
end
section
theorem dX0_init_0 : decode cX0_init 0 = .ok (.aload_n 0, 1) := by decide +kernel
theorem dX0_init_1 : decode cX0_init 1 = .ok (.invokespecial 3, 3) := by decide +kernel
theorem dX0_init_4 : decode cX0_init 4 = .ok (.aload_n 0, 1) := by decide +kernel
theorem dX0_init_5 : decode cX0_init 5 = .ok (.bipush 64, 2) := by decide +kernel
theorem dX0_init_7 : decode cX0_init 7 = .ok (.newarray .int, 2) := by decide +kernel
theorem dX0_init_9 : decode cX0_init 9 = .ok (.putfield 9, 3) := by decide +kernel
theorem dX0_init_12 : decode cX0_init 12 = .ok (.aload_n 0, 1) := by decide +kernel
theorem dX0_init_13 : decode cX0_init 13 = .ok (.bipush 64, 2) := by decide +kernel
theorem dX0_init_15 : decode cX0_init 15 = .ok (.newarray .int, 2) := by decide +kernel
theorem dX0_init_17 : decode cX0_init 17 = .ok (.putfield 15, 3) := by decide +kernel
theorem dX0_init_20 : decode cX0_init 20 = .ok (.aload_n 0, 1) := by decide +kernel
theorem dX0_init_21 : decode cX0_init 21 = .ok (.bipush 64, 2) := by decide +kernel
theorem dX0_init_23 : decode cX0_init 23 = .ok (.newarray .boolean, 2) := by decide +kernel
theorem dX0_init_25 : decode cX0_init 25 = .ok (.putfield 18, 3) := by decide +kernel
theorem dX0_init_28 : decode cX0_init 28 = .ok (.return_, 1) := by decide +kernel
theorem dX0_has_0 : decode cX0_has 0 = .ok (.iload_n 1, 1) := by decide +kernel
theorem dX0_has_1 : decode cX0_has 1 = .ok (.ifCond .lt 21, 3) := by decide +kernel
theorem dX0_has_4 : decode cX0_has 4 = .ok (.iload_n 1, 1) := by decide +kernel
theorem dX0_has_5 : decode cX0_has 5 = .ok (.aload_n 0, 1) := by decide +kernel
theorem dX0_has_6 : decode cX0_has 6 = .ok (.getfield 22, 3) := by decide +kernel
theorem dX0_has_9 : decode cX0_has 9 = .ok (.if_icmp .ge 13, 3) := by decide +kernel
theorem dX0_has_12 : decode cX0_has 12 = .ok (.iload_n 1, 1) := by decide +kernel
theorem dX0_has_13 : decode cX0_has 13 = .ok (.bipush 64, 2) := by decide +kernel
theorem dX0_has_15 : decode cX0_has 15 = .ok (.if_icmp .ge 7, 3) := by decide +kernel
theorem dX0_has_18 : decode cX0_has 18 = .ok (.iconst 1, 1) := by decide +kernel
theorem dX0_has_19 : decode cX0_has 19 = .ok (.goto 4, 3) := by decide +kernel
theorem dX0_has_22 : decode cX0_has 22 = .ok (.iconst 0, 1) := by decide +kernel
theorem dX0_has_23 : decode cX0_has 23 = .ok (.ireturn, 1) := by decide +kernel
set_option maxRecDepth 20000 in
theorem ggX0_plan_X4_cellOf : GoodIn wsX0_plan wsX4_cellOf := goodIn_r _ [7] (by decide +kernel) (by decide +kernel)
set_option maxRecDepth 20000 in
theorem gX0_plan_X4_cellOf_n29 : GoodIn wsX0_plan (wsX4_cellOf) := ggX0_plan_X4_cellOf
set_option maxRecDepth 20000 in
theorem ggX0_plan_X0_nearestPath : GoodIn wsX0_plan wsX0_nearestPath := goodIn_r _ [12, 4, 1, 13, 14, 15, 16, 17, 18, 19, 6, 20, 21, 22, 23, 24, 25, 26, 38, 39, 40, 41, 42, 43, 44, 45, 46, 33, 34, 35, 36, 37] (by decide +kernel) (by decide +kernel)
set_option maxRecDepth 20000 in
theorem gX0_plan_X0_nearestPath : GoodIn wsX0_plan (wsV RX0 38 RX0 yX0_nearestPath wsX0_nearestPath) := goodIn_app (goodIn_of _ (by decide +kernel)) ggX0_plan_X0_nearestPath
set_option maxRecDepth 20000 in
theorem ggX0_plan_X0_cutPath : GoodIn wsX0_plan wsX0_cutPath := goodIn_r _ [30, 2, 13, 14, 31, 32, 3, 1, 19, 6, 20, 21, 22, 17, 23, 24, 25, 26, 33, 34, 35, 36, 37, 38, 39, 40, 41, 42, 43, 44, 45, 46] (by decide +kernel) (by decide +kernel)
set_option maxRecDepth 20000 in
theorem gX0_plan_X0_cutPath : GoodIn wsX0_plan (wsV RX0 42 RX0 yX0_cutPath wsX0_cutPath) := goodIn_app (goodIn_of _ (by decide +kernel)) ggX0_plan_X0_cutPath
theorem dX0_plan_0 : decode cX0_plan 0 = .ok (.iconst 0, 1) := by decide +kernel
theorem dX0_plan_1 : decode cX0_plan 1 = .ok (.istore_n 2, 1) := by decide +kernel
theorem dX0_plan_2 : decode cX0_plan 2 = .ok (.iload_n 2, 1) := by decide +kernel
theorem dX0_plan_3 : decode cX0_plan 3 = .ok (.bipush 64, 2) := by decide +kernel
theorem dX0_plan_5 : decode cX0_plan 5 = .ok (.if_icmp .ge 16, 3) := by decide +kernel
theorem dX0_plan_8 : decode cX0_plan 8 = .ok (.aload_n 0, 1) := by decide +kernel
theorem dX0_plan_9 : decode cX0_plan 9 = .ok (.getfield 18, 3) := by decide +kernel
theorem dX0_plan_12 : decode cX0_plan 12 = .ok (.iload_n 2, 1) := by decide +kernel
theorem dX0_plan_13 : decode cX0_plan 13 = .ok (.iconst 0, 1) := by decide +kernel
theorem dX0_plan_14 : decode cX0_plan 14 = .ok (.bastore, 1) := by decide +kernel
theorem dX0_plan_15 : decode cX0_plan 15 = .ok (.iinc 2 1, 3) := by decide +kernel
theorem dX0_plan_18 : decode cX0_plan 18 = .ok (.goto (-16), 3) := by decide +kernel
theorem dX0_plan_21 : decode cX0_plan 21 = .ok (.aload_n 0, 1) := by decide +kernel
theorem dX0_plan_22 : decode cX0_plan 22 = .ok (.iconst 0, 1) := by decide +kernel
theorem dX0_plan_23 : decode cX0_plan 23 = .ok (.putfield 22, 3) := by decide +kernel
theorem dX0_plan_26 : decode cX0_plan 26 = .ok (.aload_n 0, 1) := by decide +kernel
theorem dX0_plan_27 : decode cX0_plan 27 = .ok (.iconst 0, 1) := by decide +kernel
theorem dX0_plan_28 : decode cX0_plan 28 = .ok (.putfield 26, 3) := by decide +kernel
theorem dX0_plan_31 : decode cX0_plan 31 = .ok (.iconst 0, 1) := by decide +kernel
theorem dX0_plan_32 : decode cX0_plan 32 = .ok (.iconst 0, 1) := by decide +kernel
theorem dX0_plan_33 : decode cX0_plan 33 = .ok (.invokestatic 29, 3) := by decide +kernel
theorem dX0_plan_36 : decode cX0_plan 36 = .ok (.istore_n 2, 1) := by decide +kernel
theorem dX0_plan_37 : decode cX0_plan 37 = .ok (.iconst 0, 1) := by decide +kernel
theorem dX0_plan_38 : decode cX0_plan 38 = .ok (.istore_n 3, 1) := by decide +kernel
theorem dX0_plan_39 : decode cX0_plan 39 = .ok (.iload_n 3, 1) := by decide +kernel
theorem dX0_plan_40 : decode cX0_plan 40 = .ok (.aload_n 1, 1) := by decide +kernel
theorem dX0_plan_41 : decode cX0_plan 41 = .ok (.getfield 33, 3) := by decide +kernel
theorem dX0_plan_44 : decode cX0_plan 44 = .ok (.if_icmp .ge 39, 3) := by decide +kernel
theorem dX0_plan_47 : decode cX0_plan 47 = .ok (.iload_n 3, 1) := by decide +kernel
theorem dX0_plan_48 : decode cX0_plan 48 = .ok (.bipush 64, 2) := by decide +kernel
theorem dX0_plan_50 : decode cX0_plan 50 = .ok (.if_icmp .ge 33, 3) := by decide +kernel
theorem dX0_plan_53 : decode cX0_plan 53 = .ok (.aload_n 0, 1) := by decide +kernel
theorem dX0_plan_54 : decode cX0_plan 54 = .ok (.aload_n 1, 1) := by decide +kernel
theorem dX0_plan_55 : decode cX0_plan 55 = .ok (.iload_n 2, 1) := by decide +kernel
theorem dX0_plan_56 : decode cX0_plan 56 = .ok (.invokevirtual 38, 3) := by decide +kernel
theorem dX0_plan_59 : decode cX0_plan 59 = .ok (.istore 4, 2) := by decide +kernel
theorem dX0_plan_61 : decode cX0_plan 61 = .ok (.iload 4, 2) := by decide +kernel
theorem dX0_plan_63 : decode cX0_plan 63 = .ok (.iconst (-1), 1) := by decide +kernel
theorem dX0_plan_64 : decode cX0_plan 64 = .ok (.if_icmp .ne 4, 3) := by decide +kernel
theorem dX0_plan_67 : decode cX0_plan 67 = .ok (.return_, 1) := by decide +kernel
theorem dX0_plan_68 : decode cX0_plan 68 = .ok (.aload_n 0, 1) := by decide +kernel
theorem dX0_plan_69 : decode cX0_plan 69 = .ok (.aload_n 1, 1) := by decide +kernel
theorem dX0_plan_70 : decode cX0_plan 70 = .ok (.iload 4, 2) := by decide +kernel
theorem dX0_plan_72 : decode cX0_plan 72 = .ok (.iload_n 2, 1) := by decide +kernel
theorem dX0_plan_73 : decode cX0_plan 73 = .ok (.invokevirtual 42, 3) := by decide +kernel
theorem dX0_plan_76 : decode cX0_plan 76 = .ok (.istore_n 2, 1) := by decide +kernel
theorem dX0_plan_77 : decode cX0_plan 77 = .ok (.iinc 3 1, 3) := by decide +kernel
theorem dX0_plan_80 : decode cX0_plan 80 = .ok (.goto (-41), 3) := by decide +kernel
theorem dX0_plan_83 : decode cX0_plan 83 = .ok (.return_, 1) := by decide +kernel
set_option maxRecDepth 20000 in
theorem ggX0_nearestPath_X4_wayBetween : GoodIn wsX0_nearestPath wsX4_wayBetween := goodIn_r _ [11, 12, 13, 7, 14, 15, 16, 17] (by decide +kernel) (by decide +kernel)
set_option maxRecDepth 20000 in
theorem gX0_nearestPath_X4_wayBetween_n49 : GoodIn wsX0_nearestPath (wsX4_wayBetween) := ggX0_nearestPath_X4_wayBetween
theorem dX0_nearestPath_0 : decode cX0_nearestPath 0 = .ok (.iconst (-1), 1) := by decide +kernel
theorem dX0_nearestPath_1 : decode cX0_nearestPath 1 = .ok (.istore_n 3, 1) := by decide +kernel
theorem dX0_nearestPath_2 : decode cX0_nearestPath 2 = .ok (.bipush 8, 2) := by decide +kernel
theorem dX0_nearestPath_4 : decode cX0_nearestPath 4 = .ok (.istore 4, 2) := by decide +kernel
theorem dX0_nearestPath_6 : decode cX0_nearestPath 6 = .ok (.iconst 0, 1) := by decide +kernel
theorem dX0_nearestPath_7 : decode cX0_nearestPath 7 = .ok (.istore 5, 2) := by decide +kernel
theorem dX0_nearestPath_9 : decode cX0_nearestPath 9 = .ok (.iload 5, 2) := by decide +kernel
theorem dX0_nearestPath_11 : decode cX0_nearestPath 11 = .ok (.aload_n 1, 1) := by decide +kernel
theorem dX0_nearestPath_12 : decode cX0_nearestPath 12 = .ok (.getfield 33, 3) := by decide +kernel
theorem dX0_nearestPath_15 : decode cX0_nearestPath 15 = .ok (.if_icmp .ge 70, 3) := by decide +kernel
theorem dX0_nearestPath_18 : decode cX0_nearestPath 18 = .ok (.iload 5, 2) := by decide +kernel
theorem dX0_nearestPath_20 : decode cX0_nearestPath 20 = .ok (.bipush 64, 2) := by decide +kernel
theorem dX0_nearestPath_22 : decode cX0_nearestPath 22 = .ok (.if_icmp .ge 63, 3) := by decide +kernel
theorem dX0_nearestPath_25 : decode cX0_nearestPath 25 = .ok (.aload_n 0, 1) := by decide +kernel
theorem dX0_nearestPath_26 : decode cX0_nearestPath 26 = .ok (.getfield 18, 3) := by decide +kernel
theorem dX0_nearestPath_29 : decode cX0_nearestPath 29 = .ok (.iload 5, 2) := by decide +kernel
theorem dX0_nearestPath_31 : decode cX0_nearestPath 31 = .ok (.baload, 1) := by decide +kernel
theorem dX0_nearestPath_32 : decode cX0_nearestPath 32 = .ok (.ifCond .eq 6, 3) := by decide +kernel
theorem dX0_nearestPath_35 : decode cX0_nearestPath 35 = .ok (.goto 44, 3) := by decide +kernel
theorem dX0_nearestPath_38 : decode cX0_nearestPath 38 = .ok (.iload_n 2, 1) := by decide +kernel
theorem dX0_nearestPath_39 : decode cX0_nearestPath 39 = .ok (.aload_n 1, 1) := by decide +kernel
theorem dX0_nearestPath_40 : decode cX0_nearestPath 40 = .ok (.getfield 46, 3) := by decide +kernel
theorem dX0_nearestPath_43 : decode cX0_nearestPath 43 = .ok (.iload 5, 2) := by decide +kernel
theorem dX0_nearestPath_45 : decode cX0_nearestPath 45 = .ok (.iaload, 1) := by decide +kernel
theorem dX0_nearestPath_46 : decode cX0_nearestPath 46 = .ok (.invokestatic 49, 3) := by decide +kernel
theorem dX0_nearestPath_49 : decode cX0_nearestPath 49 = .ok (.iload_n 2, 1) := by decide +kernel
theorem dX0_nearestPath_50 : decode cX0_nearestPath 50 = .ok (.aload_n 1, 1) := by decide +kernel
theorem dX0_nearestPath_51 : decode cX0_nearestPath 51 = .ok (.getfield 52, 3) := by decide +kernel
theorem dX0_nearestPath_54 : decode cX0_nearestPath 54 = .ok (.iload 5, 2) := by decide +kernel
theorem dX0_nearestPath_56 : decode cX0_nearestPath 56 = .ok (.iaload, 1) := by decide +kernel
theorem dX0_nearestPath_57 : decode cX0_nearestPath 57 = .ok (.invokestatic 49, 3) := by decide +kernel
theorem dX0_nearestPath_60 : decode cX0_nearestPath 60 = .ok (.invokestatic 55, 3) := by decide +kernel
theorem dX0_nearestPath_63 : decode cX0_nearestPath 63 = .ok (.istore 6, 2) := by decide +kernel
theorem dX0_nearestPath_65 : decode cX0_nearestPath 65 = .ok (.iload 6, 2) := by decide +kernel
theorem dX0_nearestPath_67 : decode cX0_nearestPath 67 = .ok (.iload 4, 2) := by decide +kernel
theorem dX0_nearestPath_69 : decode cX0_nearestPath 69 = .ok (.if_icmp .ge 10, 3) := by decide +kernel
theorem dX0_nearestPath_72 : decode cX0_nearestPath 72 = .ok (.iload 6, 2) := by decide +kernel
theorem dX0_nearestPath_74 : decode cX0_nearestPath 74 = .ok (.istore 4, 2) := by decide +kernel
theorem dX0_nearestPath_76 : decode cX0_nearestPath 76 = .ok (.iload 5, 2) := by decide +kernel
theorem dX0_nearestPath_78 : decode cX0_nearestPath 78 = .ok (.istore_n 3, 1) := by decide +kernel
theorem dX0_nearestPath_79 : decode cX0_nearestPath 79 = .ok (.iinc 5 1, 3) := by decide +kernel
theorem dX0_nearestPath_82 : decode cX0_nearestPath 82 = .ok (.goto (-73), 3) := by decide +kernel
theorem dX0_nearestPath_85 : decode cX0_nearestPath 85 = .ok (.iload_n 3, 1) := by decide +kernel
theorem dX0_nearestPath_86 : decode cX0_nearestPath 86 = .ok (.ireturn, 1) := by decide +kernel
set_option maxRecDepth 20000 in
theorem ggX0_cutPath_X4_wayBetween : GoodIn wsX0_cutPath wsX4_wayBetween := goodIn_r _ [10, 11, 12, 13, 14, 15, 16, 17] (by decide +kernel) (by decide +kernel)
set_option maxRecDepth 20000 in
theorem gX0_cutPath_X4_wayBetween_n49 : GoodIn wsX0_cutPath (wsX4_wayBetween) := ggX0_cutPath_X4_wayBetween
theorem dX0_cutPath_0 : decode cX0_cutPath 0 = .ok (.aload_n 0, 1) := by decide +kernel
theorem dX0_cutPath_1 : decode cX0_cutPath 1 = .ok (.getfield 22, 3) := by decide +kernel
theorem dX0_cutPath_4 : decode cX0_cutPath 4 = .ok (.bipush 64, 2) := by decide +kernel
theorem dX0_cutPath_6 : decode cX0_cutPath 6 = .ok (.if_icmp .lt 5, 3) := by decide +kernel
theorem dX0_cutPath_9 : decode cX0_cutPath 9 = .ok (.iload_n 3, 1) := by decide +kernel
theorem dX0_cutPath_10 : decode cX0_cutPath 10 = .ok (.ireturn, 1) := by decide +kernel
theorem dX0_cutPath_11 : decode cX0_cutPath 11 = .ok (.aload_n 1, 1) := by decide +kernel
theorem dX0_cutPath_12 : decode cX0_cutPath 12 = .ok (.getfield 46, 3) := by decide +kernel
theorem dX0_cutPath_15 : decode cX0_cutPath 15 = .ok (.iload_n 2, 1) := by decide +kernel
theorem dX0_cutPath_16 : decode cX0_cutPath 16 = .ok (.iaload, 1) := by decide +kernel
theorem dX0_cutPath_17 : decode cX0_cutPath 17 = .ok (.istore 4, 2) := by decide +kernel
theorem dX0_cutPath_19 : decode cX0_cutPath 19 = .ok (.aload_n 1, 1) := by decide +kernel
theorem dX0_cutPath_20 : decode cX0_cutPath 20 = .ok (.getfield 52, 3) := by decide +kernel
theorem dX0_cutPath_23 : decode cX0_cutPath 23 = .ok (.iload_n 2, 1) := by decide +kernel
theorem dX0_cutPath_24 : decode cX0_cutPath 24 = .ok (.iaload, 1) := by decide +kernel
theorem dX0_cutPath_25 : decode cX0_cutPath 25 = .ok (.istore 5, 2) := by decide +kernel
theorem dX0_cutPath_27 : decode cX0_cutPath 27 = .ok (.iload_n 3, 1) := by decide +kernel
theorem dX0_cutPath_28 : decode cX0_cutPath 28 = .ok (.iload 4, 2) := by decide +kernel
theorem dX0_cutPath_30 : decode cX0_cutPath 30 = .ok (.invokestatic 49, 3) := by decide +kernel
theorem dX0_cutPath_33 : decode cX0_cutPath 33 = .ok (.iload_n 3, 1) := by decide +kernel
theorem dX0_cutPath_34 : decode cX0_cutPath 34 = .ok (.iload 5, 2) := by decide +kernel
theorem dX0_cutPath_36 : decode cX0_cutPath 36 = .ok (.invokestatic 49, 3) := by decide +kernel
theorem dX0_cutPath_39 : decode cX0_cutPath 39 = .ok (.if_icmp .gt 7, 3) := by decide +kernel
theorem dX0_cutPath_42 : decode cX0_cutPath 42 = .ok (.iconst 1, 1) := by decide +kernel
theorem dX0_cutPath_43 : decode cX0_cutPath 43 = .ok (.goto 4, 3) := by decide +kernel
theorem dX0_cutPath_46 : decode cX0_cutPath 46 = .ok (.iconst 0, 1) := by decide +kernel
theorem dX0_cutPath_47 : decode cX0_cutPath 47 = .ok (.istore 6, 2) := by decide +kernel
theorem dX0_cutPath_49 : decode cX0_cutPath 49 = .ok (.iload 6, 2) := by decide +kernel
theorem dX0_cutPath_51 : decode cX0_cutPath 51 = .ok (.ifCond .eq 8, 3) := by decide +kernel
theorem dX0_cutPath_54 : decode cX0_cutPath 54 = .ok (.iload 4, 2) := by decide +kernel
theorem dX0_cutPath_56 : decode cX0_cutPath 56 = .ok (.goto 5, 3) := by decide +kernel
theorem dX0_cutPath_59 : decode cX0_cutPath 59 = .ok (.iload 5, 2) := by decide +kernel
theorem dX0_cutPath_61 : decode cX0_cutPath 61 = .ok (.istore 7, 2) := by decide +kernel
theorem dX0_cutPath_63 : decode cX0_cutPath 63 = .ok (.aload_n 0, 1) := by decide +kernel
theorem dX0_cutPath_64 : decode cX0_cutPath 64 = .ok (.getfield 9, 3) := by decide +kernel
theorem dX0_cutPath_67 : decode cX0_cutPath 67 = .ok (.aload_n 0, 1) := by decide +kernel
theorem dX0_cutPath_68 : decode cX0_cutPath 68 = .ok (.getfield 22, 3) := by decide +kernel
theorem dX0_cutPath_71 : decode cX0_cutPath 71 = .ok (.iload_n 2, 1) := by decide +kernel
theorem dX0_cutPath_72 : decode cX0_cutPath 72 = .ok (.iastore, 1) := by decide +kernel
theorem dX0_cutPath_73 : decode cX0_cutPath 73 = .ok (.aload_n 0, 1) := by decide +kernel
theorem dX0_cutPath_74 : decode cX0_cutPath 74 = .ok (.getfield 15, 3) := by decide +kernel
theorem dX0_cutPath_77 : decode cX0_cutPath 77 = .ok (.aload_n 0, 1) := by decide +kernel
theorem dX0_cutPath_78 : decode cX0_cutPath 78 = .ok (.getfield 22, 3) := by decide +kernel
theorem dX0_cutPath_81 : decode cX0_cutPath 81 = .ok (.iload 7, 2) := by decide +kernel
theorem dX0_cutPath_83 : decode cX0_cutPath 83 = .ok (.iastore, 1) := by decide +kernel
theorem dX0_cutPath_84 : decode cX0_cutPath 84 = .ok (.aload_n 0, 1) := by decide +kernel
theorem dX0_cutPath_85 : decode cX0_cutPath 85 = .ok (.dup, 1) := by decide +kernel
theorem dX0_cutPath_86 : decode cX0_cutPath 86 = .ok (.getfield 22, 3) := by decide +kernel
theorem dX0_cutPath_89 : decode cX0_cutPath 89 = .ok (.iconst 1, 1) := by decide +kernel
theorem dX0_cutPath_90 : decode cX0_cutPath 90 = .ok (.iadd, 1) := by decide +kernel
theorem dX0_cutPath_91 : decode cX0_cutPath 91 = .ok (.putfield 22, 3) := by decide +kernel
theorem dX0_cutPath_94 : decode cX0_cutPath 94 = .ok (.aload_n 0, 1) := by decide +kernel
theorem dX0_cutPath_95 : decode cX0_cutPath 95 = .ok (.dup, 1) := by decide +kernel
theorem dX0_cutPath_96 : decode cX0_cutPath 96 = .ok (.getfield 26, 3) := by decide +kernel
theorem dX0_cutPath_99 : decode cX0_cutPath 99 = .ok (.iload_n 3, 1) := by decide +kernel
theorem dX0_cutPath_100 : decode cX0_cutPath 100 = .ok (.iload 7, 2) := by decide +kernel
theorem dX0_cutPath_102 : decode cX0_cutPath 102 = .ok (.invokestatic 49, 3) := by decide +kernel
theorem dX0_cutPath_105 : decode cX0_cutPath 105 = .ok (.iadd, 1) := by decide +kernel
theorem dX0_cutPath_106 : decode cX0_cutPath 106 = .ok (.putfield 26, 3) := by decide +kernel
theorem dX0_cutPath_109 : decode cX0_cutPath 109 = .ok (.aload_n 0, 1) := by decide +kernel
theorem dX0_cutPath_110 : decode cX0_cutPath 110 = .ok (.getfield 18, 3) := by decide +kernel
theorem dX0_cutPath_113 : decode cX0_cutPath 113 = .ok (.iload_n 2, 1) := by decide +kernel
theorem dX0_cutPath_114 : decode cX0_cutPath 114 = .ok (.iconst 1, 1) := by decide +kernel
theorem dX0_cutPath_115 : decode cX0_cutPath 115 = .ok (.bastore, 1) := by decide +kernel
theorem dX0_cutPath_116 : decode cX0_cutPath 116 = .ok (.iload 6, 2) := by decide +kernel
theorem dX0_cutPath_118 : decode cX0_cutPath 118 = .ok (.ifCond .eq 8, 3) := by decide +kernel
theorem dX0_cutPath_121 : decode cX0_cutPath 121 = .ok (.iload 5, 2) := by decide +kernel
theorem dX0_cutPath_123 : decode cX0_cutPath 123 = .ok (.goto 5, 3) := by decide +kernel
theorem dX0_cutPath_126 : decode cX0_cutPath 126 = .ok (.iload 4, 2) := by decide +kernel
theorem dX0_cutPath_128 : decode cX0_cutPath 128 = .ok (.ireturn, 1) := by decide +kernel
theorem dX1_init_0 : decode cX1_init 0 = .ok (.aload_n 0, 1) := by decide +kernel
theorem dX1_init_1 : decode cX1_init 1 = .ok (.invokespecial 3, 3) := by decide +kernel
theorem dX1_init_4 : decode cX1_init 4 = .ok (.aload_n 0, 1) := by decide +kernel
theorem dX1_init_5 : decode cX1_init 5 = .ok (.bipush 64, 2) := by decide +kernel
theorem dX1_init_7 : decode cX1_init 7 = .ok (.newarray .int, 2) := by decide +kernel
theorem dX1_init_9 : decode cX1_init 9 = .ok (.putfield 9, 3) := by decide +kernel
theorem dX1_init_12 : decode cX1_init 12 = .ok (.aload_n 0, 1) := by decide +kernel
theorem dX1_init_13 : decode cX1_init 13 = .ok (.bipush 64, 2) := by decide +kernel
theorem dX1_init_15 : decode cX1_init 15 = .ok (.newarray .int, 2) := by decide +kernel
theorem dX1_init_17 : decode cX1_init 17 = .ok (.putfield 15, 3) := by decide +kernel
theorem dX1_init_20 : decode cX1_init 20 = .ok (.aload_n 0, 1) := by decide +kernel
theorem dX1_init_21 : decode cX1_init 21 = .ok (.bipush 64, 2) := by decide +kernel
theorem dX1_init_23 : decode cX1_init 23 = .ok (.newarray .int, 2) := by decide +kernel
theorem dX1_init_25 : decode cX1_init 25 = .ok (.putfield 18, 3) := by decide +kernel
theorem dX1_init_28 : decode cX1_init 28 = .ok (.aload_n 0, 1) := by decide +kernel
theorem dX1_init_29 : decode cX1_init 29 = .ok (.bipush 64, 2) := by decide +kernel
theorem dX1_init_31 : decode cX1_init 31 = .ok (.newarray .int, 2) := by decide +kernel
theorem dX1_init_33 : decode cX1_init 33 = .ok (.putfield 21, 3) := by decide +kernel
theorem dX1_init_36 : decode cX1_init 36 = .ok (.aload_n 0, 1) := by decide +kernel
theorem dX1_init_37 : decode cX1_init 37 = .ok (.bipush 64, 2) := by decide +kernel
theorem dX1_init_39 : decode cX1_init 39 = .ok (.newarray .int, 2) := by decide +kernel
theorem dX1_init_41 : decode cX1_init 41 = .ok (.putfield 24, 3) := by decide +kernel
theorem dX1_init_44 : decode cX1_init 44 = .ok (.aload_n 0, 1) := by decide +kernel
theorem dX1_init_45 : decode cX1_init 45 = .ok (.bipush 64, 2) := by decide +kernel
theorem dX1_init_47 : decode cX1_init 47 = .ok (.newarray .int, 2) := by decide +kernel
theorem dX1_init_49 : decode cX1_init 49 = .ok (.putfield 27, 3) := by decide +kernel
theorem dX1_init_52 : decode cX1_init 52 = .ok (.aload_n 0, 1) := by decide +kernel
theorem dX1_init_53 : decode cX1_init 53 = .ok (.bipush 64, 2) := by decide +kernel
theorem dX1_init_55 : decode cX1_init 55 = .ok (.newarray .int, 2) := by decide +kernel
theorem dX1_init_57 : decode cX1_init 57 = .ok (.putfield 30, 3) := by decide +kernel
theorem dX1_init_60 : decode cX1_init 60 = .ok (.aload_n 0, 1) := by decide +kernel
theorem dX1_init_61 : decode cX1_init 61 = .ok (.iload_n 1, 1) := by decide +kernel
theorem dX1_init_62 : decode cX1_init 62 = .ok (.putfield 33, 3) := by decide +kernel
theorem dX1_init_65 : decode cX1_init 65 = .ok (.return_, 1) := by decide +kernel
set_option maxRecDepth 20000 in
theorem ggX1_draw_X3_widthFor : GoodIn wsX1_draw wsX3_widthFor := goodIn_r _ [12, 13, 14, 15, 16, 17, 78] (by decide +kernel) (by decide +kernel)
set_option maxRecDepth 20000 in
theorem gX1_draw_X3_widthFor : GoodIn wsX1_draw (wsV RX1 42 RX3 yX3_widthFor wsX3_widthFor) := goodIn_app (goodIn_of _ (by decide +kernel)) ggX1_draw_X3_widthFor
set_option maxRecDepth 20000 in
theorem ggX1_draw_X1_wayFor : GoodIn wsX1_draw wsX1_wayFor := goodIn_r _ [22, 3, 23, 24, 25, 26, 66, 67, 68, 69, 70, 71, 72, 73, 74] (by decide +kernel) (by decide +kernel)
set_option maxRecDepth 20000 in
theorem gX1_draw_X1_wayFor : GoodIn wsX1_draw (wsV RX1 51 RX1 yX1_wayFor wsX1_wayFor) := goodIn_app (goodIn_of _ (by decide +kernel)) ggX1_draw_X1_wayFor
set_option maxRecDepth 20000 in
theorem ggX1_draw_X1_tiedTo : GoodIn wsX1_draw wsX1_tiedTo := goodIn_r _ [30, 4, 1, 31, 32, 33, 34, 35, 66, 67, 68, 69, 70, 71, 72, 73, 74] (by decide +kernel) (by decide +kernel)
set_option maxRecDepth 20000 in
theorem gX1_draw_X1_tiedTo : GoodIn wsX1_draw (wsV RX1 58 RX1 yX1_tiedTo wsX1_tiedTo) := goodIn_app (goodIn_of _ (by decide +kernel)) ggX1_draw_X1_tiedTo
set_option maxRecDepth 20000 in
theorem ggX1_draw_X3_swell : GoodIn wsX1_draw wsX3_swell := goodIn_r _ [39, 13, 78] (by decide +kernel) (by decide +kernel)
set_option maxRecDepth 20000 in
theorem gX1_draw_X3_swell : GoodIn wsX1_draw (wsV RX1 61 RX3 yX3_swell wsX3_swell) := goodIn_app (goodIn_of _ (by decide +kernel)) ggX1_draw_X3_swell
set_option maxRecDepth 20000 in
theorem ggX1_draw_X1_addPath : GoodIn wsX1_draw wsX1_addPath := goodIn_r _ [43, 7, 44, 45, 46, 47, 48, 49, 50, 21, 51, 6, 52, 15, 16, 17, 27, 28, 29, 30, 4, 1, 31, 32, 33, 34, 35, 53, 54, 55, 56, 57, 58, 59, 60, 61, 62, 63, 64, 65, 66, 67, 68, 69, 70, 71, 72, 73, 74] (by decide +kernel) (by decide +kernel)
set_option maxRecDepth 20000 in
theorem gX1_draw_X1_addPath : GoodIn wsX1_draw (wsV RX1 65 RX1 yX1_addPath wsX1_addPath) := goodIn_app (goodIn_of _ (by decide +kernel)) ggX1_draw_X1_addPath
theorem dX1_draw_0 : decode cX1_draw 0 = .ok (.iconst 0, 1) := by decide +kernel
theorem dX1_draw_1 : decode cX1_draw 1 = .ok (.istore_n 3, 1) := by decide +kernel
theorem dX1_draw_2 : decode cX1_draw 2 = .ok (.iload_n 3, 1) := by decide +kernel
theorem dX1_draw_3 : decode cX1_draw 3 = .ok (.bipush 64, 2) := by decide +kernel
theorem dX1_draw_5 : decode cX1_draw 5 = .ok (.if_icmp .ge 57, 3) := by decide +kernel
theorem dX1_draw_8 : decode cX1_draw 8 = .ok (.aload_n 0, 1) := by decide +kernel
theorem dX1_draw_9 : decode cX1_draw 9 = .ok (.getfield 9, 3) := by decide +kernel
theorem dX1_draw_12 : decode cX1_draw 12 = .ok (.iload_n 3, 1) := by decide +kernel
theorem dX1_draw_13 : decode cX1_draw 13 = .ok (.aload_n 2, 1) := by decide +kernel
theorem dX1_draw_14 : decode cX1_draw 14 = .ok (.aload_n 1, 1) := by decide +kernel
theorem dX1_draw_15 : decode cX1_draw 15 = .ok (.getfield 37, 3) := by decide +kernel
theorem dX1_draw_18 : decode cX1_draw 18 = .ok (.iload_n 3, 1) := by decide +kernel
theorem dX1_draw_19 : decode cX1_draw 19 = .ok (.iaload, 1) := by decide +kernel
theorem dX1_draw_20 : decode cX1_draw 20 = .ok (.aload_n 0, 1) := by decide +kernel
theorem dX1_draw_21 : decode cX1_draw 21 = .ok (.getfield 33, 3) := by decide +kernel
theorem dX1_draw_24 : decode cX1_draw 24 = .ok (.invokevirtual 42, 3) := by decide +kernel
theorem dX1_draw_27 : decode cX1_draw 27 = .ok (.iastore, 1) := by decide +kernel
theorem dX1_draw_28 : decode cX1_draw 28 = .ok (.aload_n 0, 1) := by decide +kernel
theorem dX1_draw_29 : decode cX1_draw 29 = .ok (.getfield 15, 3) := by decide +kernel
theorem dX1_draw_32 : decode cX1_draw 32 = .ok (.iload_n 3, 1) := by decide +kernel
theorem dX1_draw_33 : decode cX1_draw 33 = .ok (.aload_n 0, 1) := by decide +kernel
theorem dX1_draw_34 : decode cX1_draw 34 = .ok (.aload_n 1, 1) := by decide +kernel
theorem dX1_draw_35 : decode cX1_draw 35 = .ok (.getfield 48, 3) := by decide +kernel
theorem dX1_draw_38 : decode cX1_draw 38 = .ok (.iload_n 3, 1) := by decide +kernel
theorem dX1_draw_39 : decode cX1_draw 39 = .ok (.iaload, 1) := by decide +kernel
theorem dX1_draw_40 : decode cX1_draw 40 = .ok (.invokevirtual 51, 3) := by decide +kernel
theorem dX1_draw_43 : decode cX1_draw 43 = .ok (.iastore, 1) := by decide +kernel
theorem dX1_draw_44 : decode cX1_draw 44 = .ok (.aload_n 0, 1) := by decide +kernel
theorem dX1_draw_45 : decode cX1_draw 45 = .ok (.getfield 18, 3) := by decide +kernel
theorem dX1_draw_48 : decode cX1_draw 48 = .ok (.iload_n 3, 1) := by decide +kernel
theorem dX1_draw_49 : decode cX1_draw 49 = .ok (.aload_n 0, 1) := by decide +kernel
theorem dX1_draw_50 : decode cX1_draw 50 = .ok (.getfield 9, 3) := by decide +kernel
theorem dX1_draw_53 : decode cX1_draw 53 = .ok (.iload_n 3, 1) := by decide +kernel
theorem dX1_draw_54 : decode cX1_draw 54 = .ok (.iaload, 1) := by decide +kernel
theorem dX1_draw_55 : decode cX1_draw 55 = .ok (.iastore, 1) := by decide +kernel
theorem dX1_draw_56 : decode cX1_draw 56 = .ok (.iinc 3 1, 3) := by decide +kernel
theorem dX1_draw_59 : decode cX1_draw 59 = .ok (.goto (-57), 3) := by decide +kernel
theorem dX1_draw_62 : decode cX1_draw 62 = .ok (.aload_n 0, 1) := by decide +kernel
theorem dX1_draw_63 : decode cX1_draw 63 = .ok (.iconst 0, 1) := by decide +kernel
theorem dX1_draw_64 : decode cX1_draw 64 = .ok (.putfield 55, 3) := by decide +kernel
theorem dX1_draw_67 : decode cX1_draw 67 = .ok (.iconst 0, 1) := by decide +kernel
theorem dX1_draw_68 : decode cX1_draw 68 = .ok (.istore_n 3, 1) := by decide +kernel
theorem dX1_draw_69 : decode cX1_draw 69 = .ok (.iload_n 3, 1) := by decide +kernel
theorem dX1_draw_70 : decode cX1_draw 70 = .ok (.bipush 64, 2) := by decide +kernel
theorem dX1_draw_72 : decode cX1_draw 72 = .ok (.if_icmp .ge 37, 3) := by decide +kernel
theorem dX1_draw_75 : decode cX1_draw 75 = .ok (.aload_n 0, 1) := by decide +kernel
theorem dX1_draw_76 : decode cX1_draw 76 = .ok (.getfield 9, 3) := by decide +kernel
theorem dX1_draw_79 : decode cX1_draw 79 = .ok (.iload_n 3, 1) := by decide +kernel
theorem dX1_draw_80 : decode cX1_draw 80 = .ok (.iaload, 1) := by decide +kernel
theorem dX1_draw_81 : decode cX1_draw 81 = .ok (.ifCond .le 22, 3) := by decide +kernel
theorem dX1_draw_84 : decode cX1_draw 84 = .ok (.aload_n 0, 1) := by decide +kernel
theorem dX1_draw_85 : decode cX1_draw 85 = .ok (.iload_n 3, 1) := by decide +kernel
theorem dX1_draw_86 : decode cX1_draw 86 = .ok (.iconst (-1), 1) := by decide +kernel
theorem dX1_draw_87 : decode cX1_draw 87 = .ok (.invokevirtual 58, 3) := by decide +kernel
theorem dX1_draw_90 : decode cX1_draw 90 = .ok (.iconst (-1), 1) := by decide +kernel
theorem dX1_draw_91 : decode cX1_draw 91 = .ok (.if_icmp .ne 12, 3) := by decide +kernel
theorem dX1_draw_94 : decode cX1_draw 94 = .ok (.aload_n 0, 1) := by decide +kernel
theorem dX1_draw_95 : decode cX1_draw 95 = .ok (.iload_n 3, 1) := by decide +kernel
theorem dX1_draw_96 : decode cX1_draw 96 = .ok (.aload_n 2, 1) := by decide +kernel
theorem dX1_draw_97 : decode cX1_draw 97 = .ok (.invokevirtual 61, 3) := by decide +kernel
theorem dX1_draw_100 : decode cX1_draw 100 = .ok (.invokevirtual 65, 3) := by decide +kernel
theorem dX1_draw_103 : decode cX1_draw 103 = .ok (.iinc 3 1, 3) := by decide +kernel
theorem dX1_draw_106 : decode cX1_draw 106 = .ok (.goto (-37), 3) := by decide +kernel
theorem dX1_draw_109 : decode cX1_draw 109 = .ok (.return_, 1) := by decide +kernel
set_option maxRecDepth 20000 in
theorem ggX1_wayFor_J9_floorMod_7cf53 : GoodIn wsX1_wayFor wsJ9_floorMod_7cf53 := goodIn_r _ [5] (by decide +kernel) (by decide +kernel)
set_option maxRecDepth 20000 in
theorem gX1_wayFor_J9_floorMod_7cf53 : GoodIn wsX1_wayFor (va_wsS RX1 69 yJ9_floorMod_7cf53 wsJ9_floorMod_7cf53) := goodIn_app (goodIn_of _ (by decide +kernel)) ggX1_wayFor_J9_floorMod_7cf53
theorem dX1_wayFor_0 : decode cX1_wayFor 0 = .ok (.aload_n 0, 1) := by decide +kernel
theorem dX1_wayFor_1 : decode cX1_wayFor 1 = .ok (.getfield 33, 3) := by decide +kernel
theorem dX1_wayFor_4 : decode cX1_wayFor 4 = .ok (.ifCond .ne 7, 3) := by decide +kernel
theorem dX1_wayFor_7 : decode cX1_wayFor 7 = .ok (.iload_n 1, 1) := by decide +kernel
theorem dX1_wayFor_8 : decode cX1_wayFor 8 = .ok (.goto 6, 3) := by decide +kernel
theorem dX1_wayFor_11 : decode cX1_wayFor 11 = .ok (.iload_n 1, 1) := by decide +kernel
theorem dX1_wayFor_12 : decode cX1_wayFor 12 = .ok (.iconst 4, 1) := by decide +kernel
theorem dX1_wayFor_13 : decode cX1_wayFor 13 = .ok (.iadd, 1) := by decide +kernel
theorem dX1_wayFor_14 : decode cX1_wayFor 14 = .ok (.istore_n 2, 1) := by decide +kernel
theorem dX1_wayFor_15 : decode cX1_wayFor 15 = .ok (.iload_n 2, 1) := by decide +kernel
theorem dX1_wayFor_16 : decode cX1_wayFor 16 = .ok (.bipush 8, 2) := by decide +kernel
theorem dX1_wayFor_18 : decode cX1_wayFor 18 = .ok (.invokestatic 69, 3) := by decide +kernel
theorem dX1_wayFor_21 : decode cX1_wayFor 21 = .ok (.iconst 2, 1) := by decide +kernel
theorem dX1_wayFor_22 : decode cX1_wayFor 22 = .ok (.idiv, 1) := by decide +kernel
theorem dX1_wayFor_23 : decode cX1_wayFor 23 = .ok (.ireturn, 1) := by decide +kernel
set_option maxRecDepth 20000 in
theorem ggX1_tiedTo_X4_isCell : GoodIn wsX1_tiedTo wsX4_isCell := goodIn_r _ [5] (by decide +kernel) (by decide +kernel)
set_option maxRecDepth 20000 in
theorem gX1_tiedTo_X4_isCell_n80 : GoodIn wsX1_tiedTo (wsX4_isCell) := ggX1_tiedTo_X4_isCell
set_option maxRecDepth 20000 in
theorem ggX1_tiedTo_X4_cellOf : GoodIn wsX1_tiedTo wsX4_cellOf := goodIn_r _ [7] (by decide +kernel) (by decide +kernel)
set_option maxRecDepth 20000 in
theorem gX1_tiedTo_X4_cellOf_n84 : GoodIn wsX1_tiedTo (wsX4_cellOf) := ggX1_tiedTo_X4_cellOf
theorem dX1_tiedTo_0 : decode cX1_tiedTo 0 = .ok (.aload_n 0, 1) := by decide +kernel
theorem dX1_tiedTo_1 : decode cX1_tiedTo 1 = .ok (.getfield 15, 3) := by decide +kernel
theorem dX1_tiedTo_4 : decode cX1_tiedTo 4 = .ok (.iload_n 1, 1) := by decide +kernel
theorem dX1_tiedTo_5 : decode cX1_tiedTo 5 = .ok (.iaload, 1) := by decide +kernel
theorem dX1_tiedTo_6 : decode cX1_tiedTo 6 = .ok (.istore_n 3, 1) := by decide +kernel
theorem dX1_tiedTo_7 : decode cX1_tiedTo 7 = .ok (.iload_n 1, 1) := by decide +kernel
theorem dX1_tiedTo_8 : decode cX1_tiedTo 8 = .ok (.bipush 8, 2) := by decide +kernel
theorem dX1_tiedTo_10 : decode cX1_tiedTo 10 = .ok (.irem, 1) := by decide +kernel
theorem dX1_tiedTo_11 : decode cX1_tiedTo 11 = .ok (.iload_n 2, 1) := by decide +kernel
theorem dX1_tiedTo_12 : decode cX1_tiedTo 12 = .ok (.getstatic 74, 3) := by decide +kernel
theorem dX1_tiedTo_15 : decode cX1_tiedTo 15 = .ok (.iload_n 3, 1) := by decide +kernel
theorem dX1_tiedTo_16 : decode cX1_tiedTo 16 = .ok (.iaload, 1) := by decide +kernel
theorem dX1_tiedTo_17 : decode cX1_tiedTo 17 = .ok (.imul, 1) := by decide +kernel
theorem dX1_tiedTo_18 : decode cX1_tiedTo 18 = .ok (.iadd, 1) := by decide +kernel
theorem dX1_tiedTo_19 : decode cX1_tiedTo 19 = .ok (.istore 4, 2) := by decide +kernel
theorem dX1_tiedTo_21 : decode cX1_tiedTo 21 = .ok (.iload_n 1, 1) := by decide +kernel
theorem dX1_tiedTo_22 : decode cX1_tiedTo 22 = .ok (.bipush 8, 2) := by decide +kernel
theorem dX1_tiedTo_24 : decode cX1_tiedTo 24 = .ok (.idiv, 1) := by decide +kernel
theorem dX1_tiedTo_25 : decode cX1_tiedTo 25 = .ok (.iload_n 2, 1) := by decide +kernel
theorem dX1_tiedTo_26 : decode cX1_tiedTo 26 = .ok (.getstatic 77, 3) := by decide +kernel
theorem dX1_tiedTo_29 : decode cX1_tiedTo 29 = .ok (.iload_n 3, 1) := by decide +kernel
theorem dX1_tiedTo_30 : decode cX1_tiedTo 30 = .ok (.iaload, 1) := by decide +kernel
theorem dX1_tiedTo_31 : decode cX1_tiedTo 31 = .ok (.imul, 1) := by decide +kernel
theorem dX1_tiedTo_32 : decode cX1_tiedTo 32 = .ok (.iadd, 1) := by decide +kernel
theorem dX1_tiedTo_33 : decode cX1_tiedTo 33 = .ok (.istore 5, 2) := by decide +kernel
theorem dX1_tiedTo_35 : decode cX1_tiedTo 35 = .ok (.iload 4, 2) := by decide +kernel
theorem dX1_tiedTo_37 : decode cX1_tiedTo 37 = .ok (.iload 5, 2) := by decide +kernel
theorem dX1_tiedTo_39 : decode cX1_tiedTo 39 = .ok (.invokestatic 80, 3) := by decide +kernel
theorem dX1_tiedTo_42 : decode cX1_tiedTo 42 = .ok (.ifCond .ne 5, 3) := by decide +kernel
theorem dX1_tiedTo_45 : decode cX1_tiedTo 45 = .ok (.iconst (-1), 1) := by decide +kernel
theorem dX1_tiedTo_46 : decode cX1_tiedTo 46 = .ok (.ireturn, 1) := by decide +kernel
theorem dX1_tiedTo_47 : decode cX1_tiedTo 47 = .ok (.iload 4, 2) := by decide +kernel
theorem dX1_tiedTo_49 : decode cX1_tiedTo 49 = .ok (.iload 5, 2) := by decide +kernel
theorem dX1_tiedTo_51 : decode cX1_tiedTo 51 = .ok (.invokestatic 84, 3) := by decide +kernel
theorem dX1_tiedTo_54 : decode cX1_tiedTo 54 = .ok (.istore 6, 2) := by decide +kernel
theorem dX1_tiedTo_56 : decode cX1_tiedTo 56 = .ok (.aload_n 0, 1) := by decide +kernel
theorem dX1_tiedTo_57 : decode cX1_tiedTo 57 = .ok (.getfield 9, 3) := by decide +kernel
theorem dX1_tiedTo_60 : decode cX1_tiedTo 60 = .ok (.iload 6, 2) := by decide +kernel
theorem dX1_tiedTo_62 : decode cX1_tiedTo 62 = .ok (.iaload, 1) := by decide +kernel
theorem dX1_tiedTo_63 : decode cX1_tiedTo 63 = .ok (.ifCond .le 19, 3) := by decide +kernel
theorem dX1_tiedTo_66 : decode cX1_tiedTo 66 = .ok (.aload_n 0, 1) := by decide +kernel
theorem dX1_tiedTo_67 : decode cX1_tiedTo 67 = .ok (.getfield 15, 3) := by decide +kernel
theorem dX1_tiedTo_70 : decode cX1_tiedTo 70 = .ok (.iload 6, 2) := by decide +kernel
theorem dX1_tiedTo_72 : decode cX1_tiedTo 72 = .ok (.iaload, 1) := by decide +kernel
theorem dX1_tiedTo_73 : decode cX1_tiedTo 73 = .ok (.iload_n 3, 1) := by decide +kernel
theorem dX1_tiedTo_74 : decode cX1_tiedTo 74 = .ok (.if_icmp .ne 8, 3) := by decide +kernel
theorem dX1_tiedTo_77 : decode cX1_tiedTo 77 = .ok (.iload 6, 2) := by decide +kernel
theorem dX1_tiedTo_79 : decode cX1_tiedTo 79 = .ok (.goto 4, 3) := by decide +kernel
theorem dX1_tiedTo_82 : decode cX1_tiedTo 82 = .ok (.iconst (-1), 1) := by decide +kernel
theorem dX1_tiedTo_83 : decode cX1_tiedTo 83 = .ok (.ireturn, 1) := by decide +kernel
set_option maxRecDepth 20000 in
theorem ggX1_addPath_X1_limitSwell : GoodIn wsX1_addPath wsX1_limitSwell := goodIn_r _ [10, 11, 12, 13, 14, 15, 16, 17, 18, 9, 19, 20, 21, 22, 23, 24, 25, 26, 40, 41, 42, 43, 44, 45, 46, 47, 48] (by decide +kernel) (by decide +kernel)
set_option maxRecDepth 20000 in
theorem gX1_addPath_X1_limitSwell : GoodIn wsX1_addPath (wsV RX1 87 RX1 yX1_limitSwell wsX1_limitSwell) := goodIn_app (goodIn_of _ (by decide +kernel)) ggX1_addPath_X1_limitSwell
set_option maxRecDepth 20000 in
theorem ggX1_addPath_X4_wayBetween : GoodIn wsX1_addPath wsX4_wayBetween := goodIn_r _ [28, 29, 30, 14, 31, 32, 33, 34] (by decide +kernel) (by decide +kernel)
set_option maxRecDepth 20000 in
theorem gX1_addPath_X4_wayBetween_n91 : GoodIn wsX1_addPath (wsX4_wayBetween) := ggX1_addPath_X4_wayBetween
set_option maxRecDepth 20000 in
theorem ggX1_addPath_X1_greatestWidthFrom : GoodIn wsX1_addPath wsX1_greatestWidthFrom := goodIn_r _ [38, 11, 39, 33, 14, 34, 16, 17, 18, 9, 19, 20, 21, 22, 23, 24, 25, 26, 40, 41, 42, 43, 44, 45, 46, 47, 48] (by decide +kernel) (by decide +kernel)
set_option maxRecDepth 20000 in
theorem gX1_addPath_X1_greatestWidthFrom : GoodIn wsX1_addPath (wsV RX1 94 RX1 yX1_greatestWidthFrom wsX1_greatestWidthFrom) := goodIn_app (goodIn_of _ (by decide +kernel)) ggX1_addPath_X1_greatestWidthFrom
theorem dX1_addPath_0 : decode cX1_addPath 0 = .ok (.aload_n 0, 1) := by decide +kernel
theorem dX1_addPath_1 : decode cX1_addPath 1 = .ok (.getfield 55, 3) := by decide +kernel
theorem dX1_addPath_4 : decode cX1_addPath 4 = .ok (.bipush 64, 2) := by decide +kernel
theorem dX1_addPath_6 : decode cX1_addPath 6 = .ok (.if_icmp .lt 4, 3) := by decide +kernel
theorem dX1_addPath_9 : decode cX1_addPath 9 = .ok (.return_, 1) := by decide +kernel
theorem dX1_addPath_10 : decode cX1_addPath 10 = .ok (.aload_n 0, 1) := by decide +kernel
theorem dX1_addPath_11 : decode cX1_addPath 11 = .ok (.iload_n 1, 1) := by decide +kernel
theorem dX1_addPath_12 : decode cX1_addPath 12 = .ok (.iconst 1, 1) := by decide +kernel
theorem dX1_addPath_13 : decode cX1_addPath 13 = .ok (.iload_n 2, 1) := by decide +kernel
theorem dX1_addPath_14 : decode cX1_addPath 14 = .ok (.invokevirtual 87, 3) := by decide +kernel
theorem dX1_addPath_17 : decode cX1_addPath 17 = .ok (.istore_n 3, 1) := by decide +kernel
theorem dX1_addPath_18 : decode cX1_addPath 18 = .ok (.aload_n 0, 1) := by decide +kernel
theorem dX1_addPath_19 : decode cX1_addPath 19 = .ok (.iload_n 3, 1) := by decide +kernel
theorem dX1_addPath_20 : decode cX1_addPath 20 = .ok (.iconst (-1), 1) := by decide +kernel
theorem dX1_addPath_21 : decode cX1_addPath 21 = .ok (.iload_n 2, 1) := by decide +kernel
theorem dX1_addPath_22 : decode cX1_addPath 22 = .ok (.invokevirtual 87, 3) := by decide +kernel
theorem dX1_addPath_25 : decode cX1_addPath 25 = .ok (.pop, 1) := by decide +kernel
theorem dX1_addPath_26 : decode cX1_addPath 26 = .ok (.aload_n 0, 1) := by decide +kernel
theorem dX1_addPath_27 : decode cX1_addPath 27 = .ok (.getfield 21, 3) := by decide +kernel
theorem dX1_addPath_30 : decode cX1_addPath 30 = .ok (.aload_n 0, 1) := by decide +kernel
theorem dX1_addPath_31 : decode cX1_addPath 31 = .ok (.getfield 55, 3) := by decide +kernel
theorem dX1_addPath_34 : decode cX1_addPath 34 = .ok (.iload_n 1, 1) := by decide +kernel
theorem dX1_addPath_35 : decode cX1_addPath 35 = .ok (.iastore, 1) := by decide +kernel
theorem dX1_addPath_36 : decode cX1_addPath 36 = .ok (.aload_n 0, 1) := by decide +kernel
theorem dX1_addPath_37 : decode cX1_addPath 37 = .ok (.getfield 24, 3) := by decide +kernel
theorem dX1_addPath_40 : decode cX1_addPath 40 = .ok (.aload_n 0, 1) := by decide +kernel
theorem dX1_addPath_41 : decode cX1_addPath 41 = .ok (.getfield 55, 3) := by decide +kernel
theorem dX1_addPath_44 : decode cX1_addPath 44 = .ok (.iload_n 3, 1) := by decide +kernel
theorem dX1_addPath_45 : decode cX1_addPath 45 = .ok (.iastore, 1) := by decide +kernel
theorem dX1_addPath_46 : decode cX1_addPath 46 = .ok (.aload_n 0, 1) := by decide +kernel
theorem dX1_addPath_47 : decode cX1_addPath 47 = .ok (.getfield 27, 3) := by decide +kernel
theorem dX1_addPath_50 : decode cX1_addPath 50 = .ok (.aload_n 0, 1) := by decide +kernel
theorem dX1_addPath_51 : decode cX1_addPath 51 = .ok (.getfield 55, 3) := by decide +kernel
theorem dX1_addPath_54 : decode cX1_addPath 54 = .ok (.iload_n 1, 1) := by decide +kernel
theorem dX1_addPath_55 : decode cX1_addPath 55 = .ok (.iload_n 3, 1) := by decide +kernel
theorem dX1_addPath_56 : decode cX1_addPath 56 = .ok (.invokestatic 91, 3) := by decide +kernel
theorem dX1_addPath_59 : decode cX1_addPath 59 = .ok (.iconst 1, 1) := by decide +kernel
theorem dX1_addPath_60 : decode cX1_addPath 60 = .ok (.iadd, 1) := by decide +kernel
theorem dX1_addPath_61 : decode cX1_addPath 61 = .ok (.iastore, 1) := by decide +kernel
theorem dX1_addPath_62 : decode cX1_addPath 62 = .ok (.aload_n 0, 1) := by decide +kernel
theorem dX1_addPath_63 : decode cX1_addPath 63 = .ok (.getfield 30, 3) := by decide +kernel
theorem dX1_addPath_66 : decode cX1_addPath 66 = .ok (.aload_n 0, 1) := by decide +kernel
theorem dX1_addPath_67 : decode cX1_addPath 67 = .ok (.getfield 55, 3) := by decide +kernel
theorem dX1_addPath_70 : decode cX1_addPath 70 = .ok (.aload_n 0, 1) := by decide +kernel
theorem dX1_addPath_71 : decode cX1_addPath 71 = .ok (.iload_n 1, 1) := by decide +kernel
theorem dX1_addPath_72 : decode cX1_addPath 72 = .ok (.invokevirtual 94, 3) := by decide +kernel
theorem dX1_addPath_75 : decode cX1_addPath 75 = .ok (.iastore, 1) := by decide +kernel
theorem dX1_addPath_76 : decode cX1_addPath 76 = .ok (.aload_n 0, 1) := by decide +kernel
theorem dX1_addPath_77 : decode cX1_addPath 77 = .ok (.dup, 1) := by decide +kernel
theorem dX1_addPath_78 : decode cX1_addPath 78 = .ok (.getfield 55, 3) := by decide +kernel
theorem dX1_addPath_81 : decode cX1_addPath 81 = .ok (.iconst 1, 1) := by decide +kernel
theorem dX1_addPath_82 : decode cX1_addPath 82 = .ok (.iadd, 1) := by decide +kernel
theorem dX1_addPath_83 : decode cX1_addPath 83 = .ok (.putfield 55, 3) := by decide +kernel
theorem dX1_addPath_86 : decode cX1_addPath 86 = .ok (.return_, 1) := by decide +kernel
set_option maxRecDepth 20000 in
theorem ggX1_limitSwell_X1_tiedTo : GoodIn wsX1_limitSwell wsX1_tiedTo := goodIn_r _ [10, 11, 12, 13, 14, 15, 16, 17, 18, 19, 20, 21, 22, 23, 24, 25, 26] (by decide +kernel) (by decide +kernel)
set_option maxRecDepth 20000 in
theorem gX1_limitSwell_X1_tiedTo : GoodIn wsX1_limitSwell (wsV RX1 58 RX1 yX1_tiedTo wsX1_tiedTo) := goodIn_app (goodIn_of _ (by decide +kernel)) ggX1_limitSwell_X1_tiedTo
theorem dX1_limitSwell_0 : decode cX1_limitSwell 0 = .ok (.iload_n 1, 1) := by decide +kernel
theorem dX1_limitSwell_1 : decode cX1_limitSwell 1 = .ok (.istore 4, 2) := by decide +kernel
theorem dX1_limitSwell_3 : decode cX1_limitSwell 3 = .ok (.iconst 1, 1) := by decide +kernel
theorem dX1_limitSwell_4 : decode cX1_limitSwell 4 = .ok (.istore 5, 2) := by decide +kernel
theorem dX1_limitSwell_6 : decode cX1_limitSwell 6 = .ok (.iload 5, 2) := by decide +kernel
theorem dX1_limitSwell_8 : decode cX1_limitSwell 8 = .ok (.bipush 8, 2) := by decide +kernel
theorem dX1_limitSwell_10 : decode cX1_limitSwell 10 = .ok (.if_icmp .ge 57, 3) := by decide +kernel
theorem dX1_limitSwell_13 : decode cX1_limitSwell 13 = .ok (.aload_n 0, 1) := by decide +kernel
theorem dX1_limitSwell_14 : decode cX1_limitSwell 14 = .ok (.iload 4, 2) := by decide +kernel
theorem dX1_limitSwell_16 : decode cX1_limitSwell 16 = .ok (.iload_n 2, 1) := by decide +kernel
theorem dX1_limitSwell_17 : decode cX1_limitSwell 17 = .ok (.invokevirtual 58, 3) := by decide +kernel
theorem dX1_limitSwell_20 : decode cX1_limitSwell 20 = .ok (.istore 6, 2) := by decide +kernel
theorem dX1_limitSwell_22 : decode cX1_limitSwell 22 = .ok (.iload 6, 2) := by decide +kernel
theorem dX1_limitSwell_24 : decode cX1_limitSwell 24 = .ok (.iconst (-1), 1) := by decide +kernel
theorem dX1_limitSwell_25 : decode cX1_limitSwell 25 = .ok (.if_icmp .ne 6, 3) := by decide +kernel
theorem dX1_limitSwell_28 : decode cX1_limitSwell 28 = .ok (.goto 39, 3) := by decide +kernel
theorem dX1_limitSwell_31 : decode cX1_limitSwell 31 = .ok (.aload_n 0, 1) := by decide +kernel
theorem dX1_limitSwell_32 : decode cX1_limitSwell 32 = .ok (.getfield 18, 3) := by decide +kernel
theorem dX1_limitSwell_35 : decode cX1_limitSwell 35 = .ok (.iload 6, 2) := by decide +kernel
theorem dX1_limitSwell_37 : decode cX1_limitSwell 37 = .ok (.aload_n 0, 1) := by decide +kernel
theorem dX1_limitSwell_38 : decode cX1_limitSwell 38 = .ok (.getfield 18, 3) := by decide +kernel
theorem dX1_limitSwell_41 : decode cX1_limitSwell 41 = .ok (.iload 6, 2) := by decide +kernel
theorem dX1_limitSwell_43 : decode cX1_limitSwell 43 = .ok (.iaload, 1) := by decide +kernel
theorem dX1_limitSwell_44 : decode cX1_limitSwell 44 = .ok (.aload_n 0, 1) := by decide +kernel
theorem dX1_limitSwell_45 : decode cX1_limitSwell 45 = .ok (.getfield 18, 3) := by decide +kernel
theorem dX1_limitSwell_48 : decode cX1_limitSwell 48 = .ok (.iload 4, 2) := by decide +kernel
theorem dX1_limitSwell_50 : decode cX1_limitSwell 50 = .ok (.iaload, 1) := by decide +kernel
theorem dX1_limitSwell_51 : decode cX1_limitSwell 51 = .ok (.iload_n 3, 1) := by decide +kernel
theorem dX1_limitSwell_52 : decode cX1_limitSwell 52 = .ok (.iadd, 1) := by decide +kernel
theorem dX1_limitSwell_53 : decode cX1_limitSwell 53 = .ok (.invokestatic 97, 3) := by decide +kernel
theorem dX1_limitSwell_56 : decode cX1_limitSwell 56 = .ok (.iastore, 1) := by decide +kernel
theorem dX1_limitSwell_57 : decode cX1_limitSwell 57 = .ok (.iload 6, 2) := by decide +kernel
theorem dX1_limitSwell_59 : decode cX1_limitSwell 59 = .ok (.istore 4, 2) := by decide +kernel
theorem dX1_limitSwell_61 : decode cX1_limitSwell 61 = .ok (.iinc 5 1, 3) := by decide +kernel
theorem dX1_limitSwell_64 : decode cX1_limitSwell 64 = .ok (.goto (-58), 3) := by decide +kernel
theorem dX1_limitSwell_67 : decode cX1_limitSwell 67 = .ok (.iload 4, 2) := by decide +kernel
theorem dX1_limitSwell_69 : decode cX1_limitSwell 69 = .ok (.ireturn, 1) := by decide +kernel
set_option maxRecDepth 20000 in
theorem ggX1_greatestWidthFrom_X1_tiedTo : GoodIn wsX1_greatestWidthFrom wsX1_tiedTo := goodIn_r _ [10, 11, 12, 13, 14, 15, 16, 17, 18, 19, 20, 21, 22, 23, 24, 25, 26] (by decide +kernel) (by decide +kernel)
set_option maxRecDepth 20000 in
theorem gX1_greatestWidthFrom_X1_tiedTo : GoodIn wsX1_greatestWidthFrom (wsV RX1 58 RX1 yX1_tiedTo wsX1_tiedTo) := goodIn_app (goodIn_of _ (by decide +kernel)) ggX1_greatestWidthFrom_X1_tiedTo
theorem dX1_greatestWidthFrom_0 : decode cX1_greatestWidthFrom 0 = .ok (.iconst 0, 1) := by decide +kernel
theorem dX1_greatestWidthFrom_1 : decode cX1_greatestWidthFrom 1 = .ok (.istore_n 2, 1) := by decide +kernel
theorem dX1_greatestWidthFrom_2 : decode cX1_greatestWidthFrom 2 = .ok (.iload_n 1, 1) := by decide +kernel
theorem dX1_greatestWidthFrom_3 : decode cX1_greatestWidthFrom 3 = .ok (.istore_n 3, 1) := by decide +kernel
theorem dX1_greatestWidthFrom_4 : decode cX1_greatestWidthFrom 4 = .ok (.iconst 0, 1) := by decide +kernel
theorem dX1_greatestWidthFrom_5 : decode cX1_greatestWidthFrom 5 = .ok (.istore 4, 2) := by decide +kernel
theorem dX1_greatestWidthFrom_7 : decode cX1_greatestWidthFrom 7 = .ok (.iload 4, 2) := by decide +kernel
theorem dX1_greatestWidthFrom_9 : decode cX1_greatestWidthFrom 9 = .ok (.bipush 8, 2) := by decide +kernel
theorem dX1_greatestWidthFrom_11 : decode cX1_greatestWidthFrom 11 = .ok (.if_icmp .ge 32, 3) := by decide +kernel
theorem dX1_greatestWidthFrom_14 : decode cX1_greatestWidthFrom 14 = .ok (.iload_n 3, 1) := by decide +kernel
theorem dX1_greatestWidthFrom_15 : decode cX1_greatestWidthFrom 15 = .ok (.iconst (-1), 1) := by decide +kernel
theorem dX1_greatestWidthFrom_16 : decode cX1_greatestWidthFrom 16 = .ok (.if_icmp .eq 27, 3) := by decide +kernel
theorem dX1_greatestWidthFrom_19 : decode cX1_greatestWidthFrom 19 = .ok (.iload_n 2, 1) := by decide +kernel
theorem dX1_greatestWidthFrom_20 : decode cX1_greatestWidthFrom 20 = .ok (.aload_n 0, 1) := by decide +kernel
theorem dX1_greatestWidthFrom_21 : decode cX1_greatestWidthFrom 21 = .ok (.getfield 18, 3) := by decide +kernel
theorem dX1_greatestWidthFrom_24 : decode cX1_greatestWidthFrom 24 = .ok (.iload_n 3, 1) := by decide +kernel
theorem dX1_greatestWidthFrom_25 : decode cX1_greatestWidthFrom 25 = .ok (.iaload, 1) := by decide +kernel
theorem dX1_greatestWidthFrom_26 : decode cX1_greatestWidthFrom 26 = .ok (.invokestatic 100, 3) := by decide +kernel
theorem dX1_greatestWidthFrom_29 : decode cX1_greatestWidthFrom 29 = .ok (.istore_n 2, 1) := by decide +kernel
theorem dX1_greatestWidthFrom_30 : decode cX1_greatestWidthFrom 30 = .ok (.aload_n 0, 1) := by decide +kernel
theorem dX1_greatestWidthFrom_31 : decode cX1_greatestWidthFrom 31 = .ok (.iload_n 3, 1) := by decide +kernel
theorem dX1_greatestWidthFrom_32 : decode cX1_greatestWidthFrom 32 = .ok (.iconst 1, 1) := by decide +kernel
theorem dX1_greatestWidthFrom_33 : decode cX1_greatestWidthFrom 33 = .ok (.invokevirtual 58, 3) := by decide +kernel
theorem dX1_greatestWidthFrom_36 : decode cX1_greatestWidthFrom 36 = .ok (.istore_n 3, 1) := by decide +kernel
theorem dX1_greatestWidthFrom_37 : decode cX1_greatestWidthFrom 37 = .ok (.iinc 4 1, 3) := by decide +kernel
theorem dX1_greatestWidthFrom_40 : decode cX1_greatestWidthFrom 40 = .ok (.goto (-33), 3) := by decide +kernel
theorem dX1_greatestWidthFrom_43 : decode cX1_greatestWidthFrom 43 = .ok (.iload_n 2, 1) := by decide +kernel
theorem dX1_greatestWidthFrom_44 : decode cX1_greatestWidthFrom 44 = .ok (.ireturn, 1) := by decide +kernel
theorem dX2_init_0 : decode cX2_init 0 = .ok (.aload_n 0, 1) := by decide +kernel
theorem dX2_init_1 : decode cX2_init 1 = .ok (.invokespecial 3, 3) := by decide +kernel
theorem dX2_init_4 : decode cX2_init 4 = .ok (.aload_n 0, 1) := by decide +kernel
theorem dX2_init_5 : decode cX2_init 5 = .ok (.bipush 64, 2) := by decide +kernel
theorem dX2_init_7 : decode cX2_init 7 = .ok (.newarray .int, 2) := by decide +kernel
theorem dX2_init_9 : decode cX2_init 9 = .ok (.putfield 9, 3) := by decide +kernel
theorem dX2_init_12 : decode cX2_init 12 = .ok (.aload_n 0, 1) := by decide +kernel
theorem dX2_init_13 : decode cX2_init 13 = .ok (.bipush 64, 2) := by decide +kernel
theorem dX2_init_15 : decode cX2_init 15 = .ok (.newarray .int, 2) := by decide +kernel
theorem dX2_init_17 : decode cX2_init 17 = .ok (.putfield 15, 3) := by decide +kernel
theorem dX2_init_20 : decode cX2_init 20 = .ok (.aload_n 0, 1) := by decide +kernel
theorem dX2_init_21 : decode cX2_init 21 = .ok (.bipush 64, 2) := by decide +kernel
theorem dX2_init_23 : decode cX2_init 23 = .ok (.newarray .boolean, 2) := by decide +kernel
theorem dX2_init_25 : decode cX2_init 25 = .ok (.putfield 18, 3) := by decide +kernel
theorem dX2_init_28 : decode cX2_init 28 = .ok (.return_, 1) := by decide +kernel
set_option maxRecDepth 20000 in
theorem ggX2_smooth_X2_goThrough : GoodIn wsX2_smooth wsX2_goThrough := goodIn_r _ [5, 6, 7, 8, 9, 10, 4, 11, 12, 13, 14, 15, 16, 17, 18, 19, 20, 21, 22, 23, 24, 25, 26, 27, 28, 29, 30, 31] (by decide +kernel) (by decide +kernel)
set_option maxRecDepth 20000 in
theorem gX2_smooth_X2_goThrough : GoodIn wsX2_smooth (wsV RX2 22 RX2 yX2_goThrough wsX2_goThrough) := goodIn_app (goodIn_of _ (by decide +kernel)) ggX2_smooth_X2_goThrough
theorem dX2_smooth_0 : decode cX2_smooth 0 = .ok (.iconst 0, 1) := by decide +kernel
theorem dX2_smooth_1 : decode cX2_smooth 1 = .ok (.istore_n 1, 1) := by decide +kernel
theorem dX2_smooth_2 : decode cX2_smooth 2 = .ok (.iconst 1, 1) := by decide +kernel
theorem dX2_smooth_3 : decode cX2_smooth 3 = .ok (.istore_n 2, 1) := by decide +kernel
theorem dX2_smooth_4 : decode cX2_smooth 4 = .ok (.iload_n 2, 1) := by decide +kernel
theorem dX2_smooth_5 : decode cX2_smooth 5 = .ok (.ifCond .eq 20, 3) := by decide +kernel
theorem dX2_smooth_8 : decode cX2_smooth 8 = .ok (.iload_n 1, 1) := by decide +kernel
theorem dX2_smooth_9 : decode cX2_smooth 9 = .ok (.bipush 20, 2) := by decide +kernel
theorem dX2_smooth_11 : decode cX2_smooth 11 = .ok (.if_icmp .ge 14, 3) := by decide +kernel
theorem dX2_smooth_14 : decode cX2_smooth 14 = .ok (.aload_n 0, 1) := by decide +kernel
theorem dX2_smooth_15 : decode cX2_smooth 15 = .ok (.invokevirtual 22, 3) := by decide +kernel
theorem dX2_smooth_18 : decode cX2_smooth 18 = .ok (.istore_n 2, 1) := by decide +kernel
theorem dX2_smooth_19 : decode cX2_smooth 19 = .ok (.iinc 1 1, 3) := by decide +kernel
theorem dX2_smooth_22 : decode cX2_smooth 22 = .ok (.goto (-18), 3) := by decide +kernel
theorem dX2_smooth_25 : decode cX2_smooth 25 = .ok (.iload_n 1, 1) := by decide +kernel
theorem dX2_smooth_26 : decode cX2_smooth 26 = .ok (.ireturn, 1) := by decide +kernel
set_option maxRecDepth 20000 in
theorem ggX2_goThrough_X2_calmestTurn : GoodIn wsX2_goThrough wsX2_calmestTurn := goodIn_r _ [7, 2, 8, 9, 10, 6, 11, 12, 13, 14, 15, 16, 17, 18, 19, 20, 21, 22, 23, 24, 25, 26, 27] (by decide +kernel) (by decide +kernel)
set_option maxRecDepth 20000 in
theorem gX2_goThrough_X2_calmestTurn : GoodIn wsX2_goThrough (wsV RX2 26 RX2 yX2_calmestTurn wsX2_calmestTurn) := goodIn_app (goodIn_of _ (by decide +kernel)) ggX2_goThrough_X2_calmestTurn
theorem dX2_goThrough_0 : decode cX2_goThrough 0 = .ok (.iconst 0, 1) := by decide +kernel
theorem dX2_goThrough_1 : decode cX2_goThrough 1 = .ok (.istore_n 1, 1) := by decide +kernel
theorem dX2_goThrough_2 : decode cX2_goThrough 2 = .ok (.iconst 0, 1) := by decide +kernel
theorem dX2_goThrough_3 : decode cX2_goThrough 3 = .ok (.istore_n 2, 1) := by decide +kernel
theorem dX2_goThrough_4 : decode cX2_goThrough 4 = .ok (.iload_n 2, 1) := by decide +kernel
theorem dX2_goThrough_5 : decode cX2_goThrough 5 = .ok (.bipush 64, 2) := by decide +kernel
theorem dX2_goThrough_7 : decode cX2_goThrough 7 = .ok (.if_icmp .ge 52, 3) := by decide +kernel
theorem dX2_goThrough_10 : decode cX2_goThrough 10 = .ok (.aload_n 0, 1) := by decide +kernel
theorem dX2_goThrough_11 : decode cX2_goThrough 11 = .ok (.getfield 18, 3) := by decide +kernel
theorem dX2_goThrough_14 : decode cX2_goThrough 14 = .ok (.iload_n 2, 1) := by decide +kernel
theorem dX2_goThrough_15 : decode cX2_goThrough 15 = .ok (.baload, 1) := by decide +kernel
theorem dX2_goThrough_16 : decode cX2_goThrough 16 = .ok (.ifCond .eq 12, 3) := by decide +kernel
theorem dX2_goThrough_19 : decode cX2_goThrough 19 = .ok (.aload_n 0, 1) := by decide +kernel
theorem dX2_goThrough_20 : decode cX2_goThrough 20 = .ok (.getfield 15, 3) := by decide +kernel
theorem dX2_goThrough_23 : decode cX2_goThrough 23 = .ok (.iload_n 2, 1) := by decide +kernel
theorem dX2_goThrough_24 : decode cX2_goThrough 24 = .ok (.iaload, 1) := by decide +kernel
end
section
theorem dX2_goThrough_25 : decode cX2_goThrough 25 = .ok (.goto 8, 3) := by decide +kernel
theorem dX2_goThrough_28 : decode cX2_goThrough 28 = .ok (.aload_n 0, 1) := by decide +kernel
theorem dX2_goThrough_29 : decode cX2_goThrough 29 = .ok (.iload_n 2, 1) := by decide +kernel
theorem dX2_goThrough_30 : decode cX2_goThrough 30 = .ok (.invokevirtual 26, 3) := by decide +kernel
theorem dX2_goThrough_33 : decode cX2_goThrough 33 = .ok (.istore_n 3, 1) := by decide +kernel
theorem dX2_goThrough_34 : decode cX2_goThrough 34 = .ok (.iload_n 3, 1) := by decide +kernel
theorem dX2_goThrough_35 : decode cX2_goThrough 35 = .ok (.aload_n 0, 1) := by decide +kernel
theorem dX2_goThrough_36 : decode cX2_goThrough 36 = .ok (.getfield 15, 3) := by decide +kernel
theorem dX2_goThrough_39 : decode cX2_goThrough 39 = .ok (.iload_n 2, 1) := by decide +kernel
theorem dX2_goThrough_40 : decode cX2_goThrough 40 = .ok (.iaload, 1) := by decide +kernel
theorem dX2_goThrough_41 : decode cX2_goThrough 41 = .ok (.if_icmp .eq 12, 3) := by decide +kernel
theorem dX2_goThrough_44 : decode cX2_goThrough 44 = .ok (.aload_n 0, 1) := by decide +kernel
theorem dX2_goThrough_45 : decode cX2_goThrough 45 = .ok (.getfield 15, 3) := by decide +kernel
theorem dX2_goThrough_48 : decode cX2_goThrough 48 = .ok (.iload_n 2, 1) := by decide +kernel
theorem dX2_goThrough_49 : decode cX2_goThrough 49 = .ok (.iload_n 3, 1) := by decide +kernel
theorem dX2_goThrough_50 : decode cX2_goThrough 50 = .ok (.iastore, 1) := by decide +kernel
theorem dX2_goThrough_51 : decode cX2_goThrough 51 = .ok (.iconst 1, 1) := by decide +kernel
theorem dX2_goThrough_52 : decode cX2_goThrough 52 = .ok (.istore_n 1, 1) := by decide +kernel
theorem dX2_goThrough_53 : decode cX2_goThrough 53 = .ok (.iinc 2 1, 3) := by decide +kernel
theorem dX2_goThrough_56 : decode cX2_goThrough 56 = .ok (.goto (-52), 3) := by decide +kernel
theorem dX2_goThrough_59 : decode cX2_goThrough 59 = .ok (.iload_n 1, 1) := by decide +kernel
theorem dX2_goThrough_60 : decode cX2_goThrough 60 = .ok (.ireturn, 1) := by decide +kernel
set_option maxRecDepth 20000 in
theorem ggX2_calmestTurn_X2_strain : GoodIn wsX2_calmestTurn wsX2_strain := goodIn_r _ [6, 7, 8, 9, 5, 10, 1, 11, 12, 13, 14, 15, 16, 17, 18, 19, 20, 21, 22] (by decide +kernel) (by decide +kernel)
set_option maxRecDepth 20000 in
theorem gX2_calmestTurn_X2_strain : GoodIn wsX2_calmestTurn (wsV RX2 30 RX2 yX2_strain wsX2_strain) := goodIn_app (goodIn_of _ (by decide +kernel)) ggX2_calmestTurn_X2_strain
theorem dX2_calmestTurn_0 : decode cX2_calmestTurn 0 = .ok (.aload_n 0, 1) := by decide +kernel
theorem dX2_calmestTurn_1 : decode cX2_calmestTurn 1 = .ok (.getfield 15, 3) := by decide +kernel
theorem dX2_calmestTurn_4 : decode cX2_calmestTurn 4 = .ok (.iload_n 1, 1) := by decide +kernel
theorem dX2_calmestTurn_5 : decode cX2_calmestTurn 5 = .ok (.iaload, 1) := by decide +kernel
theorem dX2_calmestTurn_6 : decode cX2_calmestTurn 6 = .ok (.istore_n 2, 1) := by decide +kernel
theorem dX2_calmestTurn_7 : decode cX2_calmestTurn 7 = .ok (.aload_n 0, 1) := by decide +kernel
theorem dX2_calmestTurn_8 : decode cX2_calmestTurn 8 = .ok (.iload_n 1, 1) := by decide +kernel
theorem dX2_calmestTurn_9 : decode cX2_calmestTurn 9 = .ok (.iload_n 2, 1) := by decide +kernel
theorem dX2_calmestTurn_10 : decode cX2_calmestTurn 10 = .ok (.invokevirtual 30, 3) := by decide +kernel
theorem dX2_calmestTurn_13 : decode cX2_calmestTurn 13 = .ok (.istore_n 3, 1) := by decide +kernel
theorem dX2_calmestTurn_14 : decode cX2_calmestTurn 14 = .ok (.iconst 0, 1) := by decide +kernel
theorem dX2_calmestTurn_15 : decode cX2_calmestTurn 15 = .ok (.istore 4, 2) := by decide +kernel
theorem dX2_calmestTurn_17 : decode cX2_calmestTurn 17 = .ok (.iload 4, 2) := by decide +kernel
theorem dX2_calmestTurn_19 : decode cX2_calmestTurn 19 = .ok (.bipush 8, 2) := by decide +kernel
theorem dX2_calmestTurn_21 : decode cX2_calmestTurn 21 = .ok (.if_icmp .ge 30, 3) := by decide +kernel
theorem dX2_calmestTurn_24 : decode cX2_calmestTurn 24 = .ok (.aload_n 0, 1) := by decide +kernel
theorem dX2_calmestTurn_25 : decode cX2_calmestTurn 25 = .ok (.iload_n 1, 1) := by decide +kernel
theorem dX2_calmestTurn_26 : decode cX2_calmestTurn 26 = .ok (.iload 4, 2) := by decide +kernel
theorem dX2_calmestTurn_28 : decode cX2_calmestTurn 28 = .ok (.invokevirtual 30, 3) := by decide +kernel
theorem dX2_calmestTurn_31 : decode cX2_calmestTurn 31 = .ok (.istore 5, 2) := by decide +kernel
theorem dX2_calmestTurn_33 : decode cX2_calmestTurn 33 = .ok (.iload 5, 2) := by decide +kernel
theorem dX2_calmestTurn_35 : decode cX2_calmestTurn 35 = .ok (.iload_n 3, 1) := by decide +kernel
theorem dX2_calmestTurn_36 : decode cX2_calmestTurn 36 = .ok (.if_icmp .ge 9, 3) := by decide +kernel
theorem dX2_calmestTurn_39 : decode cX2_calmestTurn 39 = .ok (.iload 5, 2) := by decide +kernel
theorem dX2_calmestTurn_41 : decode cX2_calmestTurn 41 = .ok (.istore_n 3, 1) := by decide +kernel
theorem dX2_calmestTurn_42 : decode cX2_calmestTurn 42 = .ok (.iload 4, 2) := by decide +kernel
theorem dX2_calmestTurn_44 : decode cX2_calmestTurn 44 = .ok (.istore_n 2, 1) := by decide +kernel
theorem dX2_calmestTurn_45 : decode cX2_calmestTurn 45 = .ok (.iinc 4 1, 3) := by decide +kernel
theorem dX2_calmestTurn_48 : decode cX2_calmestTurn 48 = .ok (.goto (-31), 3) := by decide +kernel
theorem dX2_calmestTurn_51 : decode cX2_calmestTurn 51 = .ok (.iload_n 2, 1) := by decide +kernel
theorem dX2_calmestTurn_52 : decode cX2_calmestTurn 52 = .ok (.ireturn, 1) := by decide +kernel
set_option maxRecDepth 20000 in
theorem ggX2_strain_X2_strainAgainst : GoodIn wsX2_strain wsX2_strainAgainst := goodIn_r _ [5, 6, 7, 8, 9, 10, 11, 12, 13, 14, 15, 16, 17, 18] (by decide +kernel) (by decide +kernel)
set_option maxRecDepth 20000 in
theorem gX2_strain_X2_strainAgainst : GoodIn wsX2_strain (wsV RX2 34 RX2 yX2_strainAgainst wsX2_strainAgainst) := goodIn_app (goodIn_of _ (by decide +kernel)) ggX2_strain_X2_strainAgainst
theorem dX2_strain_0 : decode cX2_strain 0 = .ok (.iload_n 1, 1) := by decide +kernel
theorem dX2_strain_1 : decode cX2_strain 1 = .ok (.bipush 8, 2) := by decide +kernel
theorem dX2_strain_3 : decode cX2_strain 3 = .ok (.irem, 1) := by decide +kernel
theorem dX2_strain_4 : decode cX2_strain 4 = .ok (.istore_n 3, 1) := by decide +kernel
theorem dX2_strain_5 : decode cX2_strain 5 = .ok (.iload_n 1, 1) := by decide +kernel
theorem dX2_strain_6 : decode cX2_strain 6 = .ok (.bipush 8, 2) := by decide +kernel
theorem dX2_strain_8 : decode cX2_strain 8 = .ok (.idiv, 1) := by decide +kernel
theorem dX2_strain_9 : decode cX2_strain 9 = .ok (.istore 4, 2) := by decide +kernel
theorem dX2_strain_11 : decode cX2_strain 11 = .ok (.aload_n 0, 1) := by decide +kernel
theorem dX2_strain_12 : decode cX2_strain 12 = .ok (.iload_n 3, 1) := by decide +kernel
theorem dX2_strain_13 : decode cX2_strain 13 = .ok (.iconst 1, 1) := by decide +kernel
theorem dX2_strain_14 : decode cX2_strain 14 = .ok (.isub, 1) := by decide +kernel
theorem dX2_strain_15 : decode cX2_strain 15 = .ok (.iload 4, 2) := by decide +kernel
theorem dX2_strain_17 : decode cX2_strain 17 = .ok (.iload_n 2, 1) := by decide +kernel
theorem dX2_strain_18 : decode cX2_strain 18 = .ok (.invokevirtual 34, 3) := by decide +kernel
theorem dX2_strain_21 : decode cX2_strain 21 = .ok (.aload_n 0, 1) := by decide +kernel
theorem dX2_strain_22 : decode cX2_strain 22 = .ok (.iload_n 3, 1) := by decide +kernel
theorem dX2_strain_23 : decode cX2_strain 23 = .ok (.iconst 1, 1) := by decide +kernel
theorem dX2_strain_24 : decode cX2_strain 24 = .ok (.iadd, 1) := by decide +kernel
theorem dX2_strain_25 : decode cX2_strain 25 = .ok (.iload 4, 2) := by decide +kernel
theorem dX2_strain_27 : decode cX2_strain 27 = .ok (.iload_n 2, 1) := by decide +kernel
theorem dX2_strain_28 : decode cX2_strain 28 = .ok (.invokevirtual 34, 3) := by decide +kernel
theorem dX2_strain_31 : decode cX2_strain 31 = .ok (.iadd, 1) := by decide +kernel
theorem dX2_strain_32 : decode cX2_strain 32 = .ok (.aload_n 0, 1) := by decide +kernel
theorem dX2_strain_33 : decode cX2_strain 33 = .ok (.iload_n 3, 1) := by decide +kernel
theorem dX2_strain_34 : decode cX2_strain 34 = .ok (.iload 4, 2) := by decide +kernel
theorem dX2_strain_36 : decode cX2_strain 36 = .ok (.iconst 1, 1) := by decide +kernel
theorem dX2_strain_37 : decode cX2_strain 37 = .ok (.isub, 1) := by decide +kernel
theorem dX2_strain_38 : decode cX2_strain 38 = .ok (.iload_n 2, 1) := by decide +kernel
theorem dX2_strain_39 : decode cX2_strain 39 = .ok (.invokevirtual 34, 3) := by decide +kernel
theorem dX2_strain_42 : decode cX2_strain 42 = .ok (.iadd, 1) := by decide +kernel
theorem dX2_strain_43 : decode cX2_strain 43 = .ok (.aload_n 0, 1) := by decide +kernel
theorem dX2_strain_44 : decode cX2_strain 44 = .ok (.iload_n 3, 1) := by decide +kernel
theorem dX2_strain_45 : decode cX2_strain 45 = .ok (.iload 4, 2) := by decide +kernel
theorem dX2_strain_47 : decode cX2_strain 47 = .ok (.iconst 1, 1) := by decide +kernel
theorem dX2_strain_48 : decode cX2_strain 48 = .ok (.iadd, 1) := by decide +kernel
theorem dX2_strain_49 : decode cX2_strain 49 = .ok (.iload_n 2, 1) := by decide +kernel
theorem dX2_strain_50 : decode cX2_strain 50 = .ok (.invokevirtual 34, 3) := by decide +kernel
theorem dX2_strain_53 : decode cX2_strain 53 = .ok (.iadd, 1) := by decide +kernel
theorem dX2_strain_54 : decode cX2_strain 54 = .ok (.ireturn, 1) := by decide +kernel
set_option maxRecDepth 20000 in
theorem ggX2_strainAgainst_X4_isCell : GoodIn wsX2_strainAgainst wsX4_isCell := goodIn_r _ [4] (by decide +kernel) (by decide +kernel)
set_option maxRecDepth 20000 in
theorem gX2_strainAgainst_X4_isCell_n38 : GoodIn wsX2_strainAgainst (wsX4_isCell) := ggX2_strainAgainst_X4_isCell
set_option maxRecDepth 20000 in
theorem ggX2_strainAgainst_X4_cellOf : GoodIn wsX2_strainAgainst wsX4_cellOf := goodIn_r _ [6] (by decide +kernel) (by decide +kernel)
set_option maxRecDepth 20000 in
theorem gX2_strainAgainst_X4_cellOf_n45 : GoodIn wsX2_strainAgainst (wsX4_cellOf) := ggX2_strainAgainst_X4_cellOf
set_option maxRecDepth 20000 in
theorem ggX2_strainAgainst_J9_floorMod_7cf53 : GoodIn wsX2_strainAgainst wsJ9_floorMod_7cf53 := goodIn_r _ [10] (by decide +kernel) (by decide +kernel)
set_option maxRecDepth 20000 in
theorem gX2_strainAgainst_J9_floorMod_7cf53 : GoodIn wsX2_strainAgainst (va_wsS RX2 48 yJ9_floorMod_7cf53 wsJ9_floorMod_7cf53) := goodIn_app (goodIn_of _ (by decide +kernel)) ggX2_strainAgainst_J9_floorMod_7cf53
theorem dX2_strainAgainst_0 : decode cX2_strainAgainst 0 = .ok (.iload_n 1, 1) := by decide +kernel
theorem dX2_strainAgainst_1 : decode cX2_strainAgainst 1 = .ok (.iload_n 2, 1) := by decide +kernel
theorem dX2_strainAgainst_2 : decode cX2_strainAgainst 2 = .ok (.invokestatic 38, 3) := by decide +kernel
theorem dX2_strainAgainst_5 : decode cX2_strainAgainst 5 = .ok (.ifCond .ne 5, 3) := by decide +kernel
theorem dX2_strainAgainst_8 : decode cX2_strainAgainst 8 = .ok (.iconst 0, 1) := by decide +kernel
theorem dX2_strainAgainst_9 : decode cX2_strainAgainst 9 = .ok (.ireturn, 1) := by decide +kernel
theorem dX2_strainAgainst_10 : decode cX2_strainAgainst 10 = .ok (.getstatic 42, 3) := by decide +kernel
theorem dX2_strainAgainst_13 : decode cX2_strainAgainst 13 = .ok (.aload_n 0, 1) := by decide +kernel
theorem dX2_strainAgainst_14 : decode cX2_strainAgainst 14 = .ok (.getfield 15, 3) := by decide +kernel
theorem dX2_strainAgainst_17 : decode cX2_strainAgainst 17 = .ok (.iload_n 1, 1) := by decide +kernel
theorem dX2_strainAgainst_18 : decode cX2_strainAgainst 18 = .ok (.iload_n 2, 1) := by decide +kernel
theorem dX2_strainAgainst_19 : decode cX2_strainAgainst 19 = .ok (.invokestatic 45, 3) := by decide +kernel
theorem dX2_strainAgainst_22 : decode cX2_strainAgainst 22 = .ok (.iaload, 1) := by decide +kernel
theorem dX2_strainAgainst_23 : decode cX2_strainAgainst 23 = .ok (.iload_n 3, 1) := by decide +kernel
theorem dX2_strainAgainst_24 : decode cX2_strainAgainst 24 = .ok (.isub, 1) := by decide +kernel
theorem dX2_strainAgainst_25 : decode cX2_strainAgainst 25 = .ok (.bipush 8, 2) := by decide +kernel
theorem dX2_strainAgainst_27 : decode cX2_strainAgainst 27 = .ok (.invokestatic 48, 3) := by decide +kernel
theorem dX2_strainAgainst_30 : decode cX2_strainAgainst 30 = .ok (.iaload, 1) := by decide +kernel
theorem dX2_strainAgainst_31 : decode cX2_strainAgainst 31 = .ok (.ireturn, 1) := by decide +kernel
set_option maxRecDepth 20000 in
theorem ggX2_knotOf_X4_cellOf : GoodIn wsX2_knotOf wsX4_cellOf := goodIn_r _ [4] (by decide +kernel) (by decide +kernel)
set_option maxRecDepth 20000 in
theorem gX2_knotOf_X4_cellOf_n45 : GoodIn wsX2_knotOf (wsX4_cellOf) := ggX2_knotOf_X4_cellOf
set_option maxRecDepth 20000 in
theorem ggX2_knotOf_X2_growth : GoodIn wsX2_knotOf wsX2_growth := goodIn_r _ [8, 9, 10, 11, 12] (by decide +kernel) (by decide +kernel)
set_option maxRecDepth 20000 in
theorem gX2_knotOf_X2_growth : GoodIn wsX2_knotOf (va_wsS RX2 53 yX2_growth wsX2_growth) := goodIn_app (goodIn_of _ (by decide +kernel)) ggX2_knotOf_X2_growth
theorem dX2_knotOf_0 : decode cX2_knotOf 0 = .ok (.aload_n 0, 1) := by decide +kernel
theorem dX2_knotOf_1 : decode cX2_knotOf 1 = .ok (.getfield 15, 3) := by decide +kernel
theorem dX2_knotOf_4 : decode cX2_knotOf 4 = .ok (.iload_n 1, 1) := by decide +kernel
theorem dX2_knotOf_5 : decode cX2_knotOf 5 = .ok (.iload_n 2, 1) := by decide +kernel
theorem dX2_knotOf_6 : decode cX2_knotOf 6 = .ok (.invokestatic 45, 3) := by decide +kernel
theorem dX2_knotOf_9 : decode cX2_knotOf 9 = .ok (.iaload, 1) := by decide +kernel
theorem dX2_knotOf_10 : decode cX2_knotOf 10 = .ok (.istore_n 3, 1) := by decide +kernel
theorem dX2_knotOf_11 : decode cX2_knotOf 11 = .ok (.aload_n 0, 1) := by decide +kernel
theorem dX2_knotOf_12 : decode cX2_knotOf 12 = .ok (.getfield 15, 3) := by decide +kernel
theorem dX2_knotOf_15 : decode cX2_knotOf 15 = .ok (.iload_n 1, 1) := by decide +kernel
theorem dX2_knotOf_16 : decode cX2_knotOf 16 = .ok (.iconst 1, 1) := by decide +kernel
theorem dX2_knotOf_17 : decode cX2_knotOf 17 = .ok (.iadd, 1) := by decide +kernel
theorem dX2_knotOf_18 : decode cX2_knotOf 18 = .ok (.iload_n 2, 1) := by decide +kernel
theorem dX2_knotOf_19 : decode cX2_knotOf 19 = .ok (.invokestatic 45, 3) := by decide +kernel
theorem dX2_knotOf_22 : decode cX2_knotOf 22 = .ok (.iaload, 1) := by decide +kernel
theorem dX2_knotOf_23 : decode cX2_knotOf 23 = .ok (.istore 4, 2) := by decide +kernel
theorem dX2_knotOf_25 : decode cX2_knotOf 25 = .ok (.aload_n 0, 1) := by decide +kernel
theorem dX2_knotOf_26 : decode cX2_knotOf 26 = .ok (.getfield 15, 3) := by decide +kernel
theorem dX2_knotOf_29 : decode cX2_knotOf 29 = .ok (.iload_n 1, 1) := by decide +kernel
theorem dX2_knotOf_30 : decode cX2_knotOf 30 = .ok (.iconst 1, 1) := by decide +kernel
theorem dX2_knotOf_31 : decode cX2_knotOf 31 = .ok (.iadd, 1) := by decide +kernel
theorem dX2_knotOf_32 : decode cX2_knotOf 32 = .ok (.iload_n 2, 1) := by decide +kernel
theorem dX2_knotOf_33 : decode cX2_knotOf 33 = .ok (.iconst 1, 1) := by decide +kernel
theorem dX2_knotOf_34 : decode cX2_knotOf 34 = .ok (.iadd, 1) := by decide +kernel
theorem dX2_knotOf_35 : decode cX2_knotOf 35 = .ok (.invokestatic 45, 3) := by decide +kernel
theorem dX2_knotOf_38 : decode cX2_knotOf 38 = .ok (.iaload, 1) := by decide +kernel
theorem dX2_knotOf_39 : decode cX2_knotOf 39 = .ok (.istore 5, 2) := by decide +kernel
theorem dX2_knotOf_41 : decode cX2_knotOf 41 = .ok (.aload_n 0, 1) := by decide +kernel
theorem dX2_knotOf_42 : decode cX2_knotOf 42 = .ok (.getfield 15, 3) := by decide +kernel
theorem dX2_knotOf_45 : decode cX2_knotOf 45 = .ok (.iload_n 1, 1) := by decide +kernel
theorem dX2_knotOf_46 : decode cX2_knotOf 46 = .ok (.iload_n 2, 1) := by decide +kernel
theorem dX2_knotOf_47 : decode cX2_knotOf 47 = .ok (.iconst 1, 1) := by decide +kernel
theorem dX2_knotOf_48 : decode cX2_knotOf 48 = .ok (.iadd, 1) := by decide +kernel
theorem dX2_knotOf_49 : decode cX2_knotOf 49 = .ok (.invokestatic 45, 3) := by decide +kernel
theorem dX2_knotOf_52 : decode cX2_knotOf 52 = .ok (.iaload, 1) := by decide +kernel
theorem dX2_knotOf_53 : decode cX2_knotOf 53 = .ok (.istore 6, 2) := by decide +kernel
theorem dX2_knotOf_55 : decode cX2_knotOf 55 = .ok (.iload_n 3, 1) := by decide +kernel
theorem dX2_knotOf_56 : decode cX2_knotOf 56 = .ok (.iload 4, 2) := by decide +kernel
theorem dX2_knotOf_58 : decode cX2_knotOf 58 = .ok (.invokestatic 53, 3) := by decide +kernel
theorem dX2_knotOf_61 : decode cX2_knotOf 61 = .ok (.istore 7, 2) := by decide +kernel
theorem dX2_knotOf_63 : decode cX2_knotOf 63 = .ok (.iload 4, 2) := by decide +kernel
theorem dX2_knotOf_65 : decode cX2_knotOf 65 = .ok (.iload 5, 2) := by decide +kernel
theorem dX2_knotOf_67 : decode cX2_knotOf 67 = .ok (.invokestatic 53, 3) := by decide +kernel
theorem dX2_knotOf_70 : decode cX2_knotOf 70 = .ok (.istore 8, 2) := by decide +kernel
theorem dX2_knotOf_72 : decode cX2_knotOf 72 = .ok (.iload 5, 2) := by decide +kernel
theorem dX2_knotOf_74 : decode cX2_knotOf 74 = .ok (.iload 6, 2) := by decide +kernel
theorem dX2_knotOf_76 : decode cX2_knotOf 76 = .ok (.invokestatic 53, 3) := by decide +kernel
theorem dX2_knotOf_79 : decode cX2_knotOf 79 = .ok (.istore 9, 2) := by decide +kernel
theorem dX2_knotOf_81 : decode cX2_knotOf 81 = .ok (.iload 6, 2) := by decide +kernel
theorem dX2_knotOf_83 : decode cX2_knotOf 83 = .ok (.iload_n 3, 1) := by decide +kernel
theorem dX2_knotOf_84 : decode cX2_knotOf 84 = .ok (.invokestatic 53, 3) := by decide +kernel
theorem dX2_knotOf_87 : decode cX2_knotOf 87 = .ok (.istore 10, 2) := by decide +kernel
theorem dX2_knotOf_89 : decode cX2_knotOf 89 = .ok (.iconst 4, 1) := by decide +kernel
theorem dX2_knotOf_90 : decode cX2_knotOf 90 = .ok (.istore 11, 2) := by decide +kernel
theorem dX2_knotOf_92 : decode cX2_knotOf 92 = .ok (.iload 7, 2) := by decide +kernel
theorem dX2_knotOf_94 : decode cX2_knotOf 94 = .ok (.iload 11, 2) := by decide +kernel
theorem dX2_knotOf_96 : decode cX2_knotOf 96 = .ok (.if_icmp .eq 24, 3) := by decide +kernel
theorem dX2_knotOf_99 : decode cX2_knotOf 99 = .ok (.iload 8, 2) := by decide +kernel
theorem dX2_knotOf_101 : decode cX2_knotOf 101 = .ok (.iload 11, 2) := by decide +kernel
theorem dX2_knotOf_103 : decode cX2_knotOf 103 = .ok (.if_icmp .eq 17, 3) := by decide +kernel
theorem dX2_knotOf_106 : decode cX2_knotOf 106 = .ok (.iload 9, 2) := by decide +kernel
theorem dX2_knotOf_108 : decode cX2_knotOf 108 = .ok (.iload 11, 2) := by decide +kernel
theorem dX2_knotOf_110 : decode cX2_knotOf 110 = .ok (.if_icmp .eq 10, 3) := by decide +kernel
theorem dX2_knotOf_113 : decode cX2_knotOf 113 = .ok (.iload 10, 2) := by decide +kernel
theorem dX2_knotOf_115 : decode cX2_knotOf 115 = .ok (.iload 11, 2) := by decide +kernel
theorem dX2_knotOf_117 : decode cX2_knotOf 117 = .ok (.if_icmp .ne 5, 3) := by decide +kernel
theorem dX2_knotOf_120 : decode cX2_knotOf 120 = .ok (.iconst 2, 1) := by decide +kernel
theorem dX2_knotOf_121 : decode cX2_knotOf 121 = .ok (.ireturn, 1) := by decide +kernel
theorem dX2_knotOf_122 : decode cX2_knotOf 122 = .ok (.iload 7, 2) := by decide +kernel
theorem dX2_knotOf_124 : decode cX2_knotOf 124 = .ok (.iload 8, 2) := by decide +kernel
theorem dX2_knotOf_126 : decode cX2_knotOf 126 = .ok (.iadd, 1) := by decide +kernel
theorem dX2_knotOf_127 : decode cX2_knotOf 127 = .ok (.iload 9, 2) := by decide +kernel
theorem dX2_knotOf_129 : decode cX2_knotOf 129 = .ok (.iadd, 1) := by decide +kernel
theorem dX2_knotOf_130 : decode cX2_knotOf 130 = .ok (.iload 10, 2) := by decide +kernel
theorem dX2_knotOf_132 : decode cX2_knotOf 132 = .ok (.iadd, 1) := by decide +kernel
theorem dX2_knotOf_133 : decode cX2_knotOf 133 = .ok (.bipush 8, 2) := by decide +kernel
theorem dX2_knotOf_135 : decode cX2_knotOf 135 = .ok (.idiv, 1) := by decide +kernel
theorem dX2_knotOf_136 : decode cX2_knotOf 136 = .ok (.ireturn, 1) := by decide +kernel
set_option maxRecDepth 20000 in
theorem ggX2_growth_J9_floorMod_7cf53 : GoodIn wsX2_growth wsJ9_floorMod_7cf53 := goodIn_r _ [4] (by decide +kernel) (by decide +kernel)
set_option maxRecDepth 20000 in
theorem gX2_growth_J9_floorMod_7cf53 : GoodIn wsX2_growth (va_wsS RX2 48 yJ9_floorMod_7cf53 wsJ9_floorMod_7cf53) := goodIn_app (goodIn_of _ (by decide +kernel)) ggX2_growth_J9_floorMod_7cf53
theorem dX2_growth_0 : decode cX2_growth 0 = .ok (.iload_n 1, 1) := by decide +kernel
theorem dX2_growth_1 : decode cX2_growth 1 = .ok (.iload_n 0, 1) := by decide +kernel
theorem dX2_growth_2 : decode cX2_growth 2 = .ok (.isub, 1) := by decide +kernel
theorem dX2_growth_3 : decode cX2_growth 3 = .ok (.bipush 8, 2) := by decide +kernel
theorem dX2_growth_5 : decode cX2_growth 5 = .ok (.invokestatic 48, 3) := by decide +kernel
theorem dX2_growth_8 : decode cX2_growth 8 = .ok (.istore_n 2, 1) := by decide +kernel
theorem dX2_growth_9 : decode cX2_growth 9 = .ok (.iload_n 2, 1) := by decide +kernel
theorem dX2_growth_10 : decode cX2_growth 10 = .ok (.iconst 4, 1) := by decide +kernel
theorem dX2_growth_11 : decode cX2_growth 11 = .ok (.if_icmp .le 10, 3) := by decide +kernel
theorem dX2_growth_14 : decode cX2_growth 14 = .ok (.iload_n 2, 1) := by decide +kernel
theorem dX2_growth_15 : decode cX2_growth 15 = .ok (.bipush 8, 2) := by decide +kernel
theorem dX2_growth_17 : decode cX2_growth 17 = .ok (.isub, 1) := by decide +kernel
theorem dX2_growth_18 : decode cX2_growth 18 = .ok (.goto 4, 3) := by decide +kernel
theorem dX2_growth_21 : decode cX2_growth 21 = .ok (.iload_n 2, 1) := by decide +kernel
theorem dX2_growth_22 : decode cX2_growth 22 = .ok (.ireturn, 1) := by decide +kernel
theorem dX2_countToned_0 : decode cX2_countToned 0 = .ok (.iconst 0, 1) := by decide +kernel
theorem dX2_countToned_1 : decode cX2_countToned 1 = .ok (.istore_n 1, 1) := by decide +kernel
theorem dX2_countToned_2 : decode cX2_countToned 2 = .ok (.iconst 0, 1) := by decide +kernel
theorem dX2_countToned_3 : decode cX2_countToned 3 = .ok (.istore_n 2, 1) := by decide +kernel
theorem dX2_countToned_4 : decode cX2_countToned 4 = .ok (.iload_n 2, 1) := by decide +kernel
theorem dX2_countToned_5 : decode cX2_countToned 5 = .ok (.bipush 64, 2) := by decide +kernel
theorem dX2_countToned_7 : decode cX2_countToned 7 = .ok (.if_icmp .ge 21, 3) := by decide +kernel
theorem dX2_countToned_10 : decode cX2_countToned 10 = .ok (.aload_n 0, 1) := by decide +kernel
theorem dX2_countToned_11 : decode cX2_countToned 11 = .ok (.getfield 9, 3) := by decide +kernel
theorem dX2_countToned_14 : decode cX2_countToned 14 = .ok (.iload_n 2, 1) := by decide +kernel
theorem dX2_countToned_15 : decode cX2_countToned 15 = .ok (.iaload, 1) := by decide +kernel
theorem dX2_countToned_16 : decode cX2_countToned 16 = .ok (.ifCond .le 6, 3) := by decide +kernel
theorem dX2_countToned_19 : decode cX2_countToned 19 = .ok (.iinc 1 1, 3) := by decide +kernel
theorem dX2_countToned_22 : decode cX2_countToned 22 = .ok (.iinc 2 1, 3) := by decide +kernel
theorem dX2_countToned_25 : decode cX2_countToned 25 = .ok (.goto (-21), 3) := by decide +kernel
theorem dX2_countToned_28 : decode cX2_countToned 28 = .ok (.iload_n 1, 1) := by decide +kernel
theorem dX2_countToned_29 : decode cX2_countToned 29 = .ok (.ireturn, 1) := by decide +kernel
theorem dX2_countTold_0 : decode cX2_countTold 0 = .ok (.iconst 0, 1) := by decide +kernel
theorem dX2_countTold_1 : decode cX2_countTold 1 = .ok (.istore_n 1, 1) := by decide +kernel
theorem dX2_countTold_2 : decode cX2_countTold 2 = .ok (.iconst 0, 1) := by decide +kernel
theorem dX2_countTold_3 : decode cX2_countTold 3 = .ok (.istore_n 2, 1) := by decide +kernel
theorem dX2_countTold_4 : decode cX2_countTold 4 = .ok (.iload_n 2, 1) := by decide +kernel
theorem dX2_countTold_5 : decode cX2_countTold 5 = .ok (.bipush 64, 2) := by decide +kernel
theorem dX2_countTold_7 : decode cX2_countTold 7 = .ok (.if_icmp .ge 21, 3) := by decide +kernel
theorem dX2_countTold_10 : decode cX2_countTold 10 = .ok (.aload_n 0, 1) := by decide +kernel
theorem dX2_countTold_11 : decode cX2_countTold 11 = .ok (.getfield 18, 3) := by decide +kernel
theorem dX2_countTold_14 : decode cX2_countTold 14 = .ok (.iload_n 2, 1) := by decide +kernel
theorem dX2_countTold_15 : decode cX2_countTold 15 = .ok (.baload, 1) := by decide +kernel
theorem dX2_countTold_16 : decode cX2_countTold 16 = .ok (.ifCond .eq 6, 3) := by decide +kernel
theorem dX2_countTold_19 : decode cX2_countTold 19 = .ok (.iinc 1 1, 3) := by decide +kernel
theorem dX2_countTold_22 : decode cX2_countTold 22 = .ok (.iinc 2 1, 3) := by decide +kernel
theorem dX2_countTold_25 : decode cX2_countTold 25 = .ok (.goto (-21), 3) := by decide +kernel
theorem dX2_countTold_28 : decode cX2_countTold 28 = .ok (.iload_n 1, 1) := by decide +kernel
theorem dX2_countTold_29 : decode cX2_countTold 29 = .ok (.ireturn, 1) := by decide +kernel
set_option maxRecDepth 20000 in
theorem ggX2_countKnots_X2_knotOf : GoodIn wsX2_countKnots wsX2_knotOf := goodIn_r _ [5, 6, 7, 8, 9, 10, 11, 4, 12, 13, 14, 15, 16, 17, 18, 19] (by decide +kernel) (by decide +kernel)
set_option maxRecDepth 20000 in
theorem gX2_countKnots_X2_knotOf : GoodIn wsX2_countKnots (wsV RX2 56 RX2 yX2_knotOf wsX2_knotOf) := goodIn_app (goodIn_of _ (by decide +kernel)) ggX2_countKnots_X2_knotOf
theorem dX2_countKnots_0 : decode cX2_countKnots 0 = .ok (.iconst 0, 1) := by decide +kernel
theorem dX2_countKnots_1 : decode cX2_countKnots 1 = .ok (.istore_n 1, 1) := by decide +kernel
theorem dX2_countKnots_2 : decode cX2_countKnots 2 = .ok (.iconst 0, 1) := by decide +kernel
theorem dX2_countKnots_3 : decode cX2_countKnots 3 = .ok (.istore_n 2, 1) := by decide +kernel
theorem dX2_countKnots_4 : decode cX2_countKnots 4 = .ok (.iload_n 2, 1) := by decide +kernel
theorem dX2_countKnots_5 : decode cX2_countKnots 5 = .ok (.bipush 7, 2) := by decide +kernel
theorem dX2_countKnots_7 : decode cX2_countKnots 7 = .ok (.if_icmp .ge 45, 3) := by decide +kernel
theorem dX2_countKnots_10 : decode cX2_countKnots 10 = .ok (.iconst 0, 1) := by decide +kernel
theorem dX2_countKnots_11 : decode cX2_countKnots 11 = .ok (.istore_n 3, 1) := by decide +kernel
theorem dX2_countKnots_12 : decode cX2_countKnots 12 = .ok (.iload_n 3, 1) := by decide +kernel
theorem dX2_countKnots_13 : decode cX2_countKnots 13 = .ok (.bipush 7, 2) := by decide +kernel
theorem dX2_countKnots_15 : decode cX2_countKnots 15 = .ok (.if_icmp .ge 31, 3) := by decide +kernel
theorem dX2_countKnots_18 : decode cX2_countKnots 18 = .ok (.aload_n 0, 1) := by decide +kernel
theorem dX2_countKnots_19 : decode cX2_countKnots 19 = .ok (.iload_n 3, 1) := by decide +kernel
theorem dX2_countKnots_20 : decode cX2_countKnots 20 = .ok (.iload_n 2, 1) := by decide +kernel
theorem dX2_countKnots_21 : decode cX2_countKnots 21 = .ok (.invokevirtual 56, 3) := by decide +kernel
theorem dX2_countKnots_24 : decode cX2_countKnots 24 = .ok (.istore 4, 2) := by decide +kernel
theorem dX2_countKnots_26 : decode cX2_countKnots 26 = .ok (.iload 4, 2) := by decide +kernel
theorem dX2_countKnots_28 : decode cX2_countKnots 28 = .ok (.ifCond .eq 12, 3) := by decide +kernel
theorem dX2_countKnots_31 : decode cX2_countKnots 31 = .ok (.iload 4, 2) := by decide +kernel
theorem dX2_countKnots_33 : decode cX2_countKnots 33 = .ok (.iconst 2, 1) := by decide +kernel
theorem dX2_countKnots_34 : decode cX2_countKnots 34 = .ok (.if_icmp .eq 6, 3) := by decide +kernel
theorem dX2_countKnots_37 : decode cX2_countKnots 37 = .ok (.iinc 1 1, 3) := by decide +kernel
theorem dX2_countKnots_40 : decode cX2_countKnots 40 = .ok (.iinc 3 1, 3) := by decide +kernel
theorem dX2_countKnots_43 : decode cX2_countKnots 43 = .ok (.goto (-31), 3) := by decide +kernel
theorem dX2_countKnots_46 : decode cX2_countKnots 46 = .ok (.iinc 2 1, 3) := by decide +kernel
theorem dX2_countKnots_49 : decode cX2_countKnots 49 = .ok (.goto (-45), 3) := by decide +kernel
theorem dX2_countKnots_52 : decode cX2_countKnots 52 = .ok (.iload_n 1, 1) := by decide +kernel
theorem dX2_countKnots_53 : decode cX2_countKnots 53 = .ok (.ireturn, 1) := by decide +kernel
theorem dX3_init_0 : decode cX3_init 0 = .ok (.aload_n 0, 1) := by decide +kernel
theorem dX3_init_1 : decode cX3_init 1 = .ok (.invokespecial 3, 3) := by decide +kernel
theorem dX3_init_4 : decode cX3_init 4 = .ok (.aload_n 0, 1) := by decide +kernel
theorem dX3_init_5 : decode cX3_init 5 = .ok (.iconst 4, 1) := by decide +kernel
theorem dX3_init_6 : decode cX3_init 6 = .ok (.newarray .int, 2) := by decide +kernel
theorem dX3_init_8 : decode cX3_init 8 = .ok (.dup, 1) := by decide +kernel
theorem dX3_init_9 : decode cX3_init 9 = .ok (.iconst 0, 1) := by decide +kernel
theorem dX3_init_10 : decode cX3_init 10 = .ok (.bipush 10, 2) := by decide +kernel
theorem dX3_init_12 : decode cX3_init 12 = .ok (.iastore, 1) := by decide +kernel
theorem dX3_init_13 : decode cX3_init 13 = .ok (.dup, 1) := by decide +kernel
theorem dX3_init_14 : decode cX3_init 14 = .ok (.iconst 1, 1) := by decide +kernel
theorem dX3_init_15 : decode cX3_init 15 = .ok (.bipush 60, 2) := by decide +kernel
theorem dX3_init_17 : decode cX3_init 17 = .ok (.iastore, 1) := by decide +kernel
theorem dX3_init_18 : decode cX3_init 18 = .ok (.dup, 1) := by decide +kernel
theorem dX3_init_19 : decode cX3_init 19 = .ok (.iconst 2, 1) := by decide +kernel
theorem dX3_init_20 : decode cX3_init 20 = .ok (.iconst 1, 1) := by decide +kernel
theorem dX3_init_21 : decode cX3_init 21 = .ok (.iastore, 1) := by decide +kernel
theorem dX3_init_22 : decode cX3_init 22 = .ok (.dup, 1) := by decide +kernel
theorem dX3_init_23 : decode cX3_init 23 = .ok (.iconst 3, 1) := by decide +kernel
theorem dX3_init_24 : decode cX3_init 24 = .ok (.bipush 40, 2) := by decide +kernel
theorem dX3_init_26 : decode cX3_init 26 = .ok (.iastore, 1) := by decide +kernel
theorem dX3_init_27 : decode cX3_init 27 = .ok (.putfield 9, 3) := by decide +kernel
theorem dX3_init_30 : decode cX3_init 30 = .ok (.return_, 1) := by decide +kernel
theorem dX3_change_0 : decode cX3_change 0 = .ok (.iload_n 1, 1) := by decide +kernel
theorem dX3_change_1 : decode cX3_change 1 = .ok (.ifCond .lt 26, 3) := by decide +kernel
theorem dX3_change_4 : decode cX3_change 4 = .ok (.iload_n 1, 1) := by decide +kernel
theorem dX3_change_5 : decode cX3_change 5 = .ok (.iconst 3, 1) := by decide +kernel
theorem dX3_change_6 : decode cX3_change 6 = .ok (.if_icmp .gt 21, 3) := by decide +kernel
theorem dX3_change_9 : decode cX3_change 9 = .ok (.iload_n 2, 1) := by decide +kernel
theorem dX3_change_10 : decode cX3_change 10 = .ok (.getstatic 15, 3) := by decide +kernel
theorem dX3_change_13 : decode cX3_change 13 = .ok (.iload_n 1, 1) := by decide +kernel
theorem dX3_change_14 : decode cX3_change 14 = .ok (.iaload, 1) := by decide +kernel
theorem dX3_change_15 : decode cX3_change 15 = .ok (.if_icmp .lt 12, 3) := by decide +kernel
theorem dX3_change_18 : decode cX3_change 18 = .ok (.iload_n 2, 1) := by decide +kernel
theorem dX3_change_19 : decode cX3_change 19 = .ok (.getstatic 18, 3) := by decide +kernel
theorem dX3_change_22 : decode cX3_change 22 = .ok (.iload_n 1, 1) := by decide +kernel
theorem dX3_change_23 : decode cX3_change 23 = .ok (.iaload, 1) := by decide +kernel
theorem dX3_change_24 : decode cX3_change 24 = .ok (.if_icmp .le 6, 3) := by decide +kernel
theorem dX3_change_27 : decode cX3_change 27 = .ok (.bipush (-3), 2) := by decide +kernel
theorem dX3_change_29 : decode cX3_change 29 = .ok (.ireturn, 1) := by decide +kernel
theorem dX3_change_30 : decode cX3_change 30 = .ok (.aload_n 0, 1) := by decide +kernel
theorem dX3_change_31 : decode cX3_change 31 = .ok (.getfield 9, 3) := by decide +kernel
theorem dX3_change_34 : decode cX3_change 34 = .ok (.iload_n 1, 1) := by decide +kernel
theorem dX3_change_35 : decode cX3_change 35 = .ok (.iaload, 1) := by decide +kernel
theorem dX3_change_36 : decode cX3_change 36 = .ok (.istore_n 3, 1) := by decide +kernel
theorem dX3_change_37 : decode cX3_change 37 = .ok (.aload_n 0, 1) := by decide +kernel
theorem dX3_change_38 : decode cX3_change 38 = .ok (.getfield 9, 3) := by decide +kernel
theorem dX3_change_41 : decode cX3_change 41 = .ok (.iload_n 1, 1) := by decide +kernel
theorem dX3_change_42 : decode cX3_change 42 = .ok (.iload_n 2, 1) := by decide +kernel
theorem dX3_change_43 : decode cX3_change 43 = .ok (.iastore, 1) := by decide +kernel
theorem dX3_change_44 : decode cX3_change 44 = .ok (.iload_n 3, 1) := by decide +kernel
theorem dX3_change_45 : decode cX3_change 45 = .ok (.ireturn, 1) := by decide +kernel
theorem dX3_swell_0 : decode cX3_swell 0 = .ok (.aload_n 0, 1) := by decide +kernel
theorem dX3_swell_1 : decode cX3_swell 1 = .ok (.getfield 9, 3) := by decide +kernel
theorem dX3_swell_4 : decode cX3_swell 4 = .ok (.iconst 3, 1) := by decide +kernel
theorem dX3_swell_5 : decode cX3_swell 5 = .ok (.iaload, 1) := by decide +kernel
theorem dX3_swell_6 : decode cX3_swell 6 = .ok (.ireturn, 1) := by decide +kernel
theorem dX3_widthFor_0 : decode cX3_widthFor 0 = .ok (.iload_n 1, 1) := by decide +kernel
theorem dX3_widthFor_1 : decode cX3_widthFor 1 = .ok (.aload_n 0, 1) := by decide +kernel
theorem dX3_widthFor_2 : decode cX3_widthFor 2 = .ok (.getfield 9, 3) := by decide +kernel
theorem dX3_widthFor_5 : decode cX3_widthFor 5 = .ok (.iconst 1, 1) := by decide +kernel
theorem dX3_widthFor_6 : decode cX3_widthFor 6 = .ok (.iaload, 1) := by decide +kernel
theorem dX3_widthFor_7 : decode cX3_widthFor 7 = .ok (.invokestatic 21, 3) := by decide +kernel
theorem dX3_widthFor_10 : decode cX3_widthFor 10 = .ok (.istore_n 3, 1) := by decide +kernel
theorem dX3_widthFor_11 : decode cX3_widthFor 11 = .ok (.iload_n 2, 1) := by decide +kernel
theorem dX3_widthFor_12 : decode cX3_widthFor 12 = .ok (.ifCond .ne 7, 3) := by decide +kernel
theorem dX3_widthFor_15 : decode cX3_widthFor 15 = .ok (.iload_n 3, 1) := by decide +kernel
theorem dX3_widthFor_16 : decode cX3_widthFor 16 = .ok (.goto 6, 3) := by decide +kernel
theorem dX3_widthFor_19 : decode cX3_widthFor 19 = .ok (.iload_n 1, 1) := by decide +kernel
theorem dX3_widthFor_20 : decode cX3_widthFor 20 = .ok (.iload_n 3, 1) := by decide +kernel
theorem dX3_widthFor_21 : decode cX3_widthFor 21 = .ok (.isub, 1) := by decide +kernel
theorem dX3_widthFor_22 : decode cX3_widthFor 22 = .ok (.istore 4, 2) := by decide +kernel
theorem dX3_widthFor_24 : decode cX3_widthFor 24 = .ok (.aload_n 0, 1) := by decide +kernel
theorem dX3_widthFor_25 : decode cX3_widthFor 25 = .ok (.getfield 9, 3) := by decide +kernel
theorem dX3_widthFor_28 : decode cX3_widthFor 28 = .ok (.iconst 0, 1) := by decide +kernel
theorem dX3_widthFor_29 : decode cX3_widthFor 29 = .ok (.iaload, 1) := by decide +kernel
theorem dX3_widthFor_30 : decode cX3_widthFor 30 = .ok (.iload 4, 2) := by decide +kernel
theorem dX3_widthFor_32 : decode cX3_widthFor 32 = .ok (.imul, 1) := by decide +kernel
theorem dX3_widthFor_33 : decode cX3_widthFor 33 = .ok (.bipush 100, 2) := by decide +kernel
theorem dX3_widthFor_35 : decode cX3_widthFor 35 = .ok (.idiv, 1) := by decide +kernel
theorem dX3_widthFor_36 : decode cX3_widthFor 36 = .ok (.istore 5, 2) := by decide +kernel
theorem dX3_widthFor_38 : decode cX3_widthFor 38 = .ok (.iload 5, 2) := by decide +kernel
theorem dX3_widthFor_40 : decode cX3_widthFor 40 = .ok (.aload_n 0, 1) := by decide +kernel
theorem dX3_widthFor_41 : decode cX3_widthFor 41 = .ok (.getfield 9, 3) := by decide +kernel
theorem dX3_widthFor_44 : decode cX3_widthFor 44 = .ok (.iconst 2, 1) := by decide +kernel
theorem dX3_widthFor_45 : decode cX3_widthFor 45 = .ok (.iaload, 1) := by decide +kernel
theorem dX3_widthFor_46 : decode cX3_widthFor 46 = .ok (.if_icmp .ge 7, 3) := by decide +kernel
theorem dX3_widthFor_49 : decode cX3_widthFor 49 = .ok (.iconst 0, 1) := by decide +kernel
theorem dX3_widthFor_50 : decode cX3_widthFor 50 = .ok (.goto 5, 3) := by decide +kernel
theorem dX3_widthFor_53 : decode cX3_widthFor 53 = .ok (.iload 5, 2) := by decide +kernel
theorem dX3_widthFor_55 : decode cX3_widthFor 55 = .ok (.ireturn, 1) := by decide +kernel
theorem dX3_toneOf_0 : decode cX3_toneOf 0 = .ok (.aload_n 0, 1) := by decide +kernel
theorem dX3_toneOf_1 : decode cX3_toneOf 1 = .ok (.getfield 9, 3) := by decide +kernel
theorem dX3_toneOf_4 : decode cX3_toneOf 4 = .ok (.iconst 0, 1) := by decide +kernel
theorem dX3_toneOf_5 : decode cX3_toneOf 5 = .ok (.iaload, 1) := by decide +kernel
theorem dX3_toneOf_6 : decode cX3_toneOf 6 = .ok (.istore_n 2, 1) := by decide +kernel
theorem dX3_toneOf_7 : decode cX3_toneOf 7 = .ok (.iload_n 2, 1) := by decide +kernel
theorem dX3_toneOf_8 : decode cX3_toneOf 8 = .ok (.ifCond .le 12, 3) := by decide +kernel
theorem dX3_toneOf_11 : decode cX3_toneOf 11 = .ok (.bipush 100, 2) := by decide +kernel
theorem dX3_toneOf_13 : decode cX3_toneOf 13 = .ok (.iload_n 1, 1) := by decide +kernel
theorem dX3_toneOf_14 : decode cX3_toneOf 14 = .ok (.imul, 1) := by decide +kernel
theorem dX3_toneOf_15 : decode cX3_toneOf 15 = .ok (.iload_n 2, 1) := by decide +kernel
theorem dX3_toneOf_16 : decode cX3_toneOf 16 = .ok (.idiv, 1) := by decide +kernel
theorem dX3_toneOf_17 : decode cX3_toneOf 17 = .ok (.goto 4, 3) := by decide +kernel
theorem dX3_toneOf_20 : decode cX3_toneOf 20 = .ok (.iconst 0, 1) := by decide +kernel
theorem dX3_toneOf_21 : decode cX3_toneOf 21 = .ok (.ireturn, 1) := by decide +kernel
set_option maxRecDepth 20000 in
theorem ggX4_init_X2_init : GoodIn wsX4_init wsX2_init := goodIn_r _ [22, 23, 2, 3, 24, 25, 26, 27, 28, 51, 52, 53] (by decide +kernel) (by decide +kernel)
set_option maxRecDepth 20000 in
theorem gX4_init_X2_init_n11 : GoodIn wsX4_init (wsX2_init) := ggX4_init_X2_init
set_option maxRecDepth 20000 in
theorem ggX4_init_X3_init : GoodIn wsX4_init wsX3_init := goodIn_r _ [30, 31, 2, 3, 24, 32, 59] (by decide +kernel) (by decide +kernel)
set_option maxRecDepth 20000 in
theorem gX4_init_X3_init_n18 : GoodIn wsX4_init (wsX3_init) := ggX4_init_X3_init
set_option maxRecDepth 20000 in
theorem ggX4_init_X1_init : GoodIn wsX4_init wsX1_init := goodIn_r _ [35, 36, 2, 3, 24, 37, 38, 39, 40, 41, 42, 43, 44, 60, 61, 62, 63, 64, 65, 66, 67, 68] (by decide +kernel) (by decide +kernel)
set_option maxRecDepth 20000 in
theorem gX4_init_X1_init : GoodIn wsX4_init (wsX1_init) := ggX4_init_X1_init
set_option maxRecDepth 20000 in
theorem ggX4_init_X0_init : GoodIn wsX4_init wsX0_init := goodIn_r _ [46, 47, 2, 3, 24, 48, 49, 27, 50, 69, 70, 71, 72, 73] (by decide +kernel) (by decide +kernel)
set_option maxRecDepth 20000 in
theorem gX4_init_X0_init_n37 : GoodIn wsX4_init (wsX0_init) := ggX4_init_X0_init
theorem dX4_init_0 : decode cX4_init 0 = .ok (.aload_n 0, 1) := by decide +kernel
theorem dX4_init_1 : decode cX4_init 1 = .ok (.invokespecial 3, 3) := by decide +kernel
theorem dX4_init_4 : decode cX4_init 4 = .ok (.aload_n 0, 1) := by decide +kernel
theorem dX4_init_5 : decode cX4_init 5 = .ok (.new 9, 3) := by decide +kernel
theorem dX4_init_8 : decode cX4_init 8 = .ok (.dup, 1) := by decide +kernel
theorem dX4_init_9 : decode cX4_init 9 = .ok (.invokespecial 11, 3) := by decide +kernel
theorem dX4_init_12 : decode cX4_init 12 = .ok (.putfield 12, 3) := by decide +kernel
theorem dX4_init_15 : decode cX4_init 15 = .ok (.aload_n 0, 1) := by decide +kernel
theorem dX4_init_16 : decode cX4_init 16 = .ok (.new 16, 3) := by decide +kernel
theorem dX4_init_19 : decode cX4_init 19 = .ok (.dup, 1) := by decide +kernel
theorem dX4_init_20 : decode cX4_init 20 = .ok (.invokespecial 18, 3) := by decide +kernel
theorem dX4_init_23 : decode cX4_init 23 = .ok (.putfield 19, 3) := by decide +kernel
theorem dX4_init_26 : decode cX4_init 26 = .ok (.aload_n 0, 1) := by decide +kernel
theorem dX4_init_27 : decode cX4_init 27 = .ok (.new 23, 3) := by decide +kernel
theorem dX4_init_30 : decode cX4_init 30 = .ok (.dup, 1) := by decide +kernel
theorem dX4_init_31 : decode cX4_init 31 = .ok (.iconst 0, 1) := by decide +kernel
theorem dX4_init_32 : decode cX4_init 32 = .ok (.invokespecial 25, 3) := by decide +kernel
theorem dX4_init_35 : decode cX4_init 35 = .ok (.putfield 28, 3) := by decide +kernel
theorem dX4_init_38 : decode cX4_init 38 = .ok (.aload_n 0, 1) := by decide +kernel
theorem dX4_init_39 : decode cX4_init 39 = .ok (.new 23, 3) := by decide +kernel
theorem dX4_init_42 : decode cX4_init 42 = .ok (.dup, 1) := by decide +kernel
theorem dX4_init_43 : decode cX4_init 43 = .ok (.iconst 1, 1) := by decide +kernel
theorem dX4_init_44 : decode cX4_init 44 = .ok (.invokespecial 25, 3) := by decide +kernel
theorem dX4_init_47 : decode cX4_init 47 = .ok (.putfield 32, 3) := by decide +kernel
theorem dX4_init_50 : decode cX4_init 50 = .ok (.aload_n 0, 1) := by decide +kernel
theorem dX4_init_51 : decode cX4_init 51 = .ok (.new 35, 3) := by decide +kernel
theorem dX4_init_54 : decode cX4_init 54 = .ok (.dup, 1) := by decide +kernel
theorem dX4_init_55 : decode cX4_init 55 = .ok (.invokespecial 37, 3) := by decide +kernel
theorem dX4_init_58 : decode cX4_init 58 = .ok (.putfield 38, 3) := by decide +kernel
theorem dX4_init_61 : decode cX4_init 61 = .ok (.return_, 1) := by decide +kernel
set_option maxRecDepth 20000 in
theorem ggX4_tone_X4_isCell : GoodIn wsX4_tone wsX4_isCell := goodIn_r _ [6] (by decide +kernel) (by decide +kernel)
set_option maxRecDepth 20000 in
theorem gX4_tone_X4_isCell : GoodIn wsX4_tone (va_wsS RX4 42 yX4_isCell wsX4_isCell) := goodIn_app (goodIn_of _ (by decide +kernel)) ggX4_tone_X4_isCell
set_option maxRecDepth 20000 in
theorem ggX4_tone_X4_isTone : GoodIn wsX4_tone wsX4_isTone := goodIn_r _ [9] (by decide +kernel) (by decide +kernel)
set_option maxRecDepth 20000 in
theorem gX4_tone_X4_isTone : GoodIn wsX4_tone (va_wsS RX4 46 yX4_isTone wsX4_isTone) := goodIn_app (goodIn_of _ (by decide +kernel)) ggX4_tone_X4_isTone
set_option maxRecDepth 20000 in
theorem ggX4_tone_X4_cellOf : GoodIn wsX4_tone wsX4_cellOf := goodIn_r _ [12] (by decide +kernel) (by decide +kernel)
set_option maxRecDepth 20000 in
theorem gX4_tone_X4_cellOf : GoodIn wsX4_tone (va_wsS RX4 50 yX4_cellOf wsX4_cellOf) := goodIn_app (goodIn_of _ (by decide +kernel)) ggX4_tone_X4_cellOf
theorem dX4_tone_0 : decode cX4_tone 0 = .ok (.iload_n 1, 1) := by decide +kernel
theorem dX4_tone_1 : decode cX4_tone 1 = .ok (.iload_n 2, 1) := by decide +kernel
theorem dX4_tone_2 : decode cX4_tone 2 = .ok (.invokestatic 42, 3) := by decide +kernel
theorem dX4_tone_5 : decode cX4_tone 5 = .ok (.ifCond .ne 6, 3) := by decide +kernel
theorem dX4_tone_8 : decode cX4_tone 8 = .ok (.bipush (-2), 2) := by decide +kernel
theorem dX4_tone_10 : decode cX4_tone 10 = .ok (.ireturn, 1) := by decide +kernel
theorem dX4_tone_11 : decode cX4_tone 11 = .ok (.iload_n 3, 1) := by decide +kernel
theorem dX4_tone_12 : decode cX4_tone 12 = .ok (.invokestatic 46, 3) := by decide +kernel
theorem dX4_tone_15 : decode cX4_tone 15 = .ok (.ifCond .ne 6, 3) := by decide +kernel
theorem dX4_tone_18 : decode cX4_tone 18 = .ok (.bipush (-3), 2) := by decide +kernel
theorem dX4_tone_20 : decode cX4_tone 20 = .ok (.ireturn, 1) := by decide +kernel
theorem dX4_tone_21 : decode cX4_tone 21 = .ok (.iload_n 1, 1) := by decide +kernel
theorem dX4_tone_22 : decode cX4_tone 22 = .ok (.iload_n 2, 1) := by decide +kernel
theorem dX4_tone_23 : decode cX4_tone 23 = .ok (.invokestatic 50, 3) := by decide +kernel
theorem dX4_tone_26 : decode cX4_tone 26 = .ok (.istore 4, 2) := by decide +kernel
theorem dX4_tone_28 : decode cX4_tone 28 = .ok (.aload_n 0, 1) := by decide +kernel
theorem dX4_tone_29 : decode cX4_tone 29 = .ok (.getfield 12, 3) := by decide +kernel
theorem dX4_tone_32 : decode cX4_tone 32 = .ok (.getfield 54, 3) := by decide +kernel
theorem dX4_tone_35 : decode cX4_tone 35 = .ok (.iload 4, 2) := by decide +kernel
theorem dX4_tone_37 : decode cX4_tone 37 = .ok (.iaload, 1) := by decide +kernel
theorem dX4_tone_38 : decode cX4_tone 38 = .ok (.istore 5, 2) := by decide +kernel
theorem dX4_tone_40 : decode cX4_tone 40 = .ok (.aload_n 0, 1) := by decide +kernel
theorem dX4_tone_41 : decode cX4_tone 41 = .ok (.getfield 12, 3) := by decide +kernel
theorem dX4_tone_44 : decode cX4_tone 44 = .ok (.getfield 54, 3) := by decide +kernel
theorem dX4_tone_47 : decode cX4_tone 47 = .ok (.iload 4, 2) := by decide +kernel
theorem dX4_tone_49 : decode cX4_tone 49 = .ok (.iload_n 3, 1) := by decide +kernel
theorem dX4_tone_50 : decode cX4_tone 50 = .ok (.iastore, 1) := by decide +kernel
theorem dX4_tone_51 : decode cX4_tone 51 = .ok (.iload 5, 2) := by decide +kernel
theorem dX4_tone_53 : decode cX4_tone 53 = .ok (.ireturn, 1) := by decide +kernel
set_option maxRecDepth 20000 in
theorem ggX4_shade_X4_isCell : GoodIn wsX4_shade wsX4_isCell := goodIn_r _ [6] (by decide +kernel) (by decide +kernel)
set_option maxRecDepth 20000 in
theorem gX4_shade_X4_isCell : GoodIn wsX4_shade (va_wsS RX4 42 yX4_isCell wsX4_isCell) := goodIn_app (goodIn_of _ (by decide +kernel)) ggX4_shade_X4_isCell
set_option maxRecDepth 20000 in
theorem ggX4_shade_X4_isTone : GoodIn wsX4_shade wsX4_isTone := goodIn_r _ [9] (by decide +kernel) (by decide +kernel)
set_option maxRecDepth 20000 in
theorem gX4_shade_X4_isTone : GoodIn wsX4_shade (va_wsS RX4 46 yX4_isTone wsX4_isTone) := goodIn_app (goodIn_of _ (by decide +kernel)) ggX4_shade_X4_isTone
set_option maxRecDepth 20000 in
theorem ggX4_shade_X4_cellOf : GoodIn wsX4_shade wsX4_cellOf := goodIn_r _ [12] (by decide +kernel) (by decide +kernel)
set_option maxRecDepth 20000 in
theorem gX4_shade_X4_cellOf : GoodIn wsX4_shade (va_wsS RX4 50 yX4_cellOf wsX4_cellOf) := goodIn_app (goodIn_of _ (by decide +kernel)) ggX4_shade_X4_cellOf
theorem dX4_shade_0 : decode cX4_shade 0 = .ok (.iload_n 1, 1) := by decide +kernel
theorem dX4_shade_1 : decode cX4_shade 1 = .ok (.iload_n 2, 1) := by decide +kernel
theorem dX4_shade_2 : decode cX4_shade 2 = .ok (.invokestatic 42, 3) := by decide +kernel
theorem dX4_shade_5 : decode cX4_shade 5 = .ok (.ifCond .eq 12, 3) := by decide +kernel
theorem dX4_shade_8 : decode cX4_shade 8 = .ok (.iload_n 3, 1) := by decide +kernel
theorem dX4_shade_9 : decode cX4_shade 9 = .ok (.iload 4, 2) := by decide +kernel
theorem dX4_shade_11 : decode cX4_shade 11 = .ok (.invokestatic 42, 3) := by decide +kernel
theorem dX4_shade_14 : decode cX4_shade 14 = .ok (.ifCond .ne 6, 3) := by decide +kernel
theorem dX4_shade_17 : decode cX4_shade 17 = .ok (.bipush (-2), 2) := by decide +kernel
theorem dX4_shade_19 : decode cX4_shade 19 = .ok (.ireturn, 1) := by decide +kernel
theorem dX4_shade_20 : decode cX4_shade 20 = .ok (.iload 5, 2) := by decide +kernel
theorem dX4_shade_22 : decode cX4_shade 22 = .ok (.invokestatic 46, 3) := by decide +kernel
theorem dX4_shade_25 : decode cX4_shade 25 = .ok (.ifCond .eq 14, 3) := by decide +kernel
theorem dX4_shade_28 : decode cX4_shade 28 = .ok (.iload_n 1, 1) := by decide +kernel
theorem dX4_shade_29 : decode cX4_shade 29 = .ok (.iload_n 3, 1) := by decide +kernel
theorem dX4_shade_30 : decode cX4_shade 30 = .ok (.if_icmp .gt 9, 3) := by decide +kernel
theorem dX4_shade_33 : decode cX4_shade 33 = .ok (.iload_n 2, 1) := by decide +kernel
theorem dX4_shade_34 : decode cX4_shade 34 = .ok (.iload 4, 2) := by decide +kernel
theorem dX4_shade_36 : decode cX4_shade 36 = .ok (.if_icmp .le 6, 3) := by decide +kernel
theorem dX4_shade_39 : decode cX4_shade 39 = .ok (.bipush (-3), 2) := by decide +kernel
theorem dX4_shade_41 : decode cX4_shade 41 = .ok (.ireturn, 1) := by decide +kernel
theorem dX4_shade_42 : decode cX4_shade 42 = .ok (.iconst 0, 1) := by decide +kernel
theorem dX4_shade_43 : decode cX4_shade 43 = .ok (.istore 6, 2) := by decide +kernel
theorem dX4_shade_45 : decode cX4_shade 45 = .ok (.iload_n 2, 1) := by decide +kernel
theorem dX4_shade_46 : decode cX4_shade 46 = .ok (.istore 7, 2) := by decide +kernel
theorem dX4_shade_48 : decode cX4_shade 48 = .ok (.iload 7, 2) := by decide +kernel
theorem dX4_shade_50 : decode cX4_shade 50 = .ok (.iload 4, 2) := by decide +kernel
theorem dX4_shade_52 : decode cX4_shade 52 = .ok (.if_icmp .gt 63, 3) := by decide +kernel
theorem dX4_shade_55 : decode cX4_shade 55 = .ok (.iload_n 1, 1) := by decide +kernel
theorem dX4_shade_56 : decode cX4_shade 56 = .ok (.istore 8, 2) := by decide +kernel
theorem dX4_shade_58 : decode cX4_shade 58 = .ok (.iload 8, 2) := by decide +kernel
theorem dX4_shade_60 : decode cX4_shade 60 = .ok (.iload_n 3, 1) := by decide +kernel
theorem dX4_shade_61 : decode cX4_shade 61 = .ok (.if_icmp .gt 48, 3) := by decide +kernel
theorem dX4_shade_64 : decode cX4_shade 64 = .ok (.iload 8, 2) := by decide +kernel
theorem dX4_shade_66 : decode cX4_shade 66 = .ok (.iload 7, 2) := by decide +kernel
theorem dX4_shade_68 : decode cX4_shade 68 = .ok (.invokestatic 50, 3) := by decide +kernel
theorem dX4_shade_71 : decode cX4_shade 71 = .ok (.istore 9, 2) := by decide +kernel
theorem dX4_shade_73 : decode cX4_shade 73 = .ok (.aload_n 0, 1) := by decide +kernel
theorem dX4_shade_74 : decode cX4_shade 74 = .ok (.getfield 12, 3) := by decide +kernel
theorem dX4_shade_77 : decode cX4_shade 77 = .ok (.getfield 54, 3) := by decide +kernel
theorem dX4_shade_80 : decode cX4_shade 80 = .ok (.iload 9, 2) := by decide +kernel
theorem dX4_shade_82 : decode cX4_shade 82 = .ok (.iaload, 1) := by decide +kernel
theorem dX4_shade_83 : decode cX4_shade 83 = .ok (.iload 5, 2) := by decide +kernel
theorem dX4_shade_85 : decode cX4_shade 85 = .ok (.if_icmp .eq 18, 3) := by decide +kernel
theorem dX4_shade_88 : decode cX4_shade 88 = .ok (.aload_n 0, 1) := by decide +kernel
theorem dX4_shade_89 : decode cX4_shade 89 = .ok (.getfield 12, 3) := by decide +kernel
theorem dX4_shade_92 : decode cX4_shade 92 = .ok (.getfield 54, 3) := by decide +kernel
theorem dX4_shade_95 : decode cX4_shade 95 = .ok (.iload 9, 2) := by decide +kernel
theorem dX4_shade_97 : decode cX4_shade 97 = .ok (.iload 5, 2) := by decide +kernel
theorem dX4_shade_99 : decode cX4_shade 99 = .ok (.iastore, 1) := by decide +kernel
theorem dX4_shade_100 : decode cX4_shade 100 = .ok (.iinc 6 1, 3) := by decide +kernel
theorem dX4_shade_103 : decode cX4_shade 103 = .ok (.iinc 8 1, 3) := by decide +kernel
theorem dX4_shade_106 : decode cX4_shade 106 = .ok (.goto (-48), 3) := by decide +kernel
theorem dX4_shade_109 : decode cX4_shade 109 = .ok (.iinc 7 1, 3) := by decide +kernel
theorem dX4_shade_112 : decode cX4_shade 112 = .ok (.goto (-64), 3) := by decide +kernel
theorem dX4_shade_115 : decode cX4_shade 115 = .ok (.iload 6, 2) := by decide +kernel
theorem dX4_shade_117 : decode cX4_shade 117 = .ok (.ireturn, 1) := by decide +kernel
set_option maxRecDepth 20000 in
theorem ggX4_tell_X4_isCell : GoodIn wsX4_tell wsX4_isCell := goodIn_r _ [7] (by decide +kernel) (by decide +kernel)
set_option maxRecDepth 20000 in
theorem gX4_tell_X4_isCell : GoodIn wsX4_tell (va_wsS RX4 42 yX4_isCell wsX4_isCell) := goodIn_app (goodIn_of _ (by decide +kernel)) ggX4_tell_X4_isCell
set_option maxRecDepth 20000 in
theorem ggX4_tell_X4_cellOf : GoodIn wsX4_tell wsX4_cellOf := goodIn_r _ [10] (by decide +kernel) (by decide +kernel)
set_option maxRecDepth 20000 in
theorem gX4_tell_X4_cellOf : GoodIn wsX4_tell (va_wsS RX4 50 yX4_cellOf wsX4_cellOf) := goodIn_app (goodIn_of _ (by decide +kernel)) ggX4_tell_X4_cellOf
theorem dX4_tell_0 : decode cX4_tell 0 = .ok (.iload_n 1, 1) := by decide +kernel
theorem dX4_tell_1 : decode cX4_tell 1 = .ok (.iload_n 2, 1) := by decide +kernel
theorem dX4_tell_2 : decode cX4_tell 2 = .ok (.invokestatic 42, 3) := by decide +kernel
theorem dX4_tell_5 : decode cX4_tell 5 = .ok (.ifCond .ne 6, 3) := by decide +kernel
theorem dX4_tell_8 : decode cX4_tell 8 = .ok (.bipush (-2), 2) := by decide +kernel
theorem dX4_tell_10 : decode cX4_tell 10 = .ok (.ireturn, 1) := by decide +kernel
theorem dX4_tell_11 : decode cX4_tell 11 = .ok (.iload_n 3, 1) := by decide +kernel
theorem dX4_tell_12 : decode cX4_tell 12 = .ok (.ifCond .lt 9, 3) := by decide +kernel
theorem dX4_tell_15 : decode cX4_tell 15 = .ok (.iload_n 3, 1) := by decide +kernel
theorem dX4_tell_16 : decode cX4_tell 16 = .ok (.bipush 8, 2) := by decide +kernel
theorem dX4_tell_18 : decode cX4_tell 18 = .ok (.if_icmp .lt 6, 3) := by decide +kernel
theorem dX4_tell_21 : decode cX4_tell 21 = .ok (.bipush (-3), 2) := by decide +kernel
theorem dX4_tell_23 : decode cX4_tell 23 = .ok (.ireturn, 1) := by decide +kernel
theorem dX4_tell_24 : decode cX4_tell 24 = .ok (.iload_n 1, 1) := by decide +kernel
theorem dX4_tell_25 : decode cX4_tell 25 = .ok (.iload_n 2, 1) := by decide +kernel
theorem dX4_tell_26 : decode cX4_tell 26 = .ok (.invokestatic 50, 3) := by decide +kernel
theorem dX4_tell_29 : decode cX4_tell 29 = .ok (.istore 4, 2) := by decide +kernel
theorem dX4_tell_31 : decode cX4_tell 31 = .ok (.aload_n 0, 1) := by decide +kernel
theorem dX4_tell_32 : decode cX4_tell 32 = .ok (.getfield 12, 3) := by decide +kernel
theorem dX4_tell_35 : decode cX4_tell 35 = .ok (.getfield 58, 3) := by decide +kernel
theorem dX4_tell_38 : decode cX4_tell 38 = .ok (.iload 4, 2) := by decide +kernel
theorem dX4_tell_40 : decode cX4_tell 40 = .ok (.iaload, 1) := by decide +kernel
theorem dX4_tell_41 : decode cX4_tell 41 = .ok (.istore 5, 2) := by decide +kernel
theorem dX4_tell_43 : decode cX4_tell 43 = .ok (.aload_n 0, 1) := by decide +kernel
theorem dX4_tell_44 : decode cX4_tell 44 = .ok (.getfield 12, 3) := by decide +kernel
theorem dX4_tell_47 : decode cX4_tell 47 = .ok (.getfield 58, 3) := by decide +kernel
theorem dX4_tell_50 : decode cX4_tell 50 = .ok (.iload 4, 2) := by decide +kernel
theorem dX4_tell_52 : decode cX4_tell 52 = .ok (.iload_n 3, 1) := by decide +kernel
end
section
theorem dX4_tell_53 : decode cX4_tell 53 = .ok (.iastore, 1) := by decide +kernel
theorem dX4_tell_54 : decode cX4_tell 54 = .ok (.aload_n 0, 1) := by decide +kernel
theorem dX4_tell_55 : decode cX4_tell 55 = .ok (.getfield 12, 3) := by decide +kernel
theorem dX4_tell_58 : decode cX4_tell 58 = .ok (.getfield 61, 3) := by decide +kernel
theorem dX4_tell_61 : decode cX4_tell 61 = .ok (.iload 4, 2) := by decide +kernel
theorem dX4_tell_63 : decode cX4_tell 63 = .ok (.iconst 1, 1) := by decide +kernel
theorem dX4_tell_64 : decode cX4_tell 64 = .ok (.bastore, 1) := by decide +kernel
theorem dX4_tell_65 : decode cX4_tell 65 = .ok (.iload 5, 2) := by decide +kernel
theorem dX4_tell_67 : decode cX4_tell 67 = .ok (.ireturn, 1) := by decide +kernel
set_option maxRecDepth 20000 in
theorem ggX4_free_X4_isCell : GoodIn wsX4_free wsX4_isCell := goodIn_r _ [6] (by decide +kernel) (by decide +kernel)
set_option maxRecDepth 20000 in
theorem gX4_free_X4_isCell : GoodIn wsX4_free (va_wsS RX4 42 yX4_isCell wsX4_isCell) := goodIn_app (goodIn_of _ (by decide +kernel)) ggX4_free_X4_isCell
set_option maxRecDepth 20000 in
theorem ggX4_free_X4_cellOf : GoodIn wsX4_free wsX4_cellOf := goodIn_r _ [9] (by decide +kernel) (by decide +kernel)
set_option maxRecDepth 20000 in
theorem gX4_free_X4_cellOf : GoodIn wsX4_free (va_wsS RX4 50 yX4_cellOf wsX4_cellOf) := goodIn_app (goodIn_of _ (by decide +kernel)) ggX4_free_X4_cellOf
theorem dX4_free_0 : decode cX4_free 0 = .ok (.iload_n 1, 1) := by decide +kernel
theorem dX4_free_1 : decode cX4_free 1 = .ok (.iload_n 2, 1) := by decide +kernel
theorem dX4_free_2 : decode cX4_free 2 = .ok (.invokestatic 42, 3) := by decide +kernel
theorem dX4_free_5 : decode cX4_free 5 = .ok (.ifCond .ne 6, 3) := by decide +kernel
theorem dX4_free_8 : decode cX4_free 8 = .ok (.bipush (-2), 2) := by decide +kernel
theorem dX4_free_10 : decode cX4_free 10 = .ok (.ireturn, 1) := by decide +kernel
theorem dX4_free_11 : decode cX4_free 11 = .ok (.iload_n 1, 1) := by decide +kernel
theorem dX4_free_12 : decode cX4_free 12 = .ok (.iload_n 2, 1) := by decide +kernel
theorem dX4_free_13 : decode cX4_free 13 = .ok (.invokestatic 50, 3) := by decide +kernel
theorem dX4_free_16 : decode cX4_free 16 = .ok (.istore_n 3, 1) := by decide +kernel
theorem dX4_free_17 : decode cX4_free 17 = .ok (.aload_n 0, 1) := by decide +kernel
theorem dX4_free_18 : decode cX4_free 18 = .ok (.getfield 12, 3) := by decide +kernel
theorem dX4_free_21 : decode cX4_free 21 = .ok (.getfield 61, 3) := by decide +kernel
theorem dX4_free_24 : decode cX4_free 24 = .ok (.iload_n 3, 1) := by decide +kernel
theorem dX4_free_25 : decode cX4_free 25 = .ok (.baload, 1) := by decide +kernel
theorem dX4_free_26 : decode cX4_free 26 = .ok (.ifCond .ne 6, 3) := by decide +kernel
theorem dX4_free_29 : decode cX4_free 29 = .ok (.bipush (-4), 2) := by decide +kernel
theorem dX4_free_31 : decode cX4_free 31 = .ok (.ireturn, 1) := by decide +kernel
theorem dX4_free_32 : decode cX4_free 32 = .ok (.aload_n 0, 1) := by decide +kernel
theorem dX4_free_33 : decode cX4_free 33 = .ok (.getfield 12, 3) := by decide +kernel
theorem dX4_free_36 : decode cX4_free 36 = .ok (.getfield 61, 3) := by decide +kernel
theorem dX4_free_39 : decode cX4_free 39 = .ok (.iload_n 3, 1) := by decide +kernel
theorem dX4_free_40 : decode cX4_free 40 = .ok (.iconst 0, 1) := by decide +kernel
theorem dX4_free_41 : decode cX4_free 41 = .ok (.bastore, 1) := by decide +kernel
theorem dX4_free_42 : decode cX4_free 42 = .ok (.iconst 1, 1) := by decide +kernel
theorem dX4_free_43 : decode cX4_free 43 = .ok (.ireturn, 1) := by decide +kernel
set_option maxRecDepth 20000 in
theorem ggX4_even_X2_smooth : GoodIn wsX4_even wsX2_smooth := goodIn_r _ [6, 7, 8, 9, 5, 10, 11, 12, 13, 14, 15, 16, 17, 18, 19, 20, 21, 22, 23, 24, 25, 26, 27, 28, 29, 30, 31, 32, 33, 39, 40, 41] (by decide +kernel) (by decide +kernel)
set_option maxRecDepth 20000 in
theorem gX4_even_X2_smooth : GoodIn wsX4_even (wsV RX4 65 RX2 yX2_smooth wsX2_smooth) := goodIn_app (goodIn_of _ (by decide +kernel)) ggX4_even_X2_smooth
theorem dX4_even_0 : decode cX4_even 0 = .ok (.aload_n 0, 1) := by decide +kernel
theorem dX4_even_1 : decode cX4_even 1 = .ok (.getfield 12, 3) := by decide +kernel
theorem dX4_even_4 : decode cX4_even 4 = .ok (.invokevirtual 65, 3) := by decide +kernel
theorem dX4_even_7 : decode cX4_even 7 = .ok (.ireturn, 1) := by decide +kernel
set_option maxRecDepth 20000 in
theorem ggX4_at_X4_isCell : GoodIn wsX4_at wsX4_isCell := goodIn_r _ [8] (by decide +kernel) (by decide +kernel)
set_option maxRecDepth 20000 in
theorem gX4_at_X4_isCell : GoodIn wsX4_at (va_wsS RX4 42 yX4_isCell wsX4_isCell) := goodIn_app (goodIn_of _ (by decide +kernel)) ggX4_at_X4_isCell
set_option maxRecDepth 20000 in
theorem ggX4_at_X4_cellOf : GoodIn wsX4_at wsX4_cellOf := goodIn_r _ [11] (by decide +kernel) (by decide +kernel)
set_option maxRecDepth 20000 in
theorem gX4_at_X4_cellOf : GoodIn wsX4_at (va_wsS RX4 50 yX4_cellOf wsX4_cellOf) := goodIn_app (goodIn_of _ (by decide +kernel)) ggX4_at_X4_cellOf
theorem dX4_at_0 : decode cX4_at 0 = .ok (.iload_n 1, 1) := by decide +kernel
theorem dX4_at_1 : decode cX4_at 1 = .ok (.iload_n 2, 1) := by decide +kernel
theorem dX4_at_2 : decode cX4_at 2 = .ok (.invokestatic 42, 3) := by decide +kernel
theorem dX4_at_5 : decode cX4_at 5 = .ok (.ifCond .ne 6, 3) := by decide +kernel
theorem dX4_at_8 : decode cX4_at 8 = .ok (.bipush (-2), 2) := by decide +kernel
theorem dX4_at_10 : decode cX4_at 10 = .ok (.ireturn, 1) := by decide +kernel
theorem dX4_at_11 : decode cX4_at 11 = .ok (.iload_n 1, 1) := by decide +kernel
theorem dX4_at_12 : decode cX4_at 12 = .ok (.iload_n 2, 1) := by decide +kernel
theorem dX4_at_13 : decode cX4_at 13 = .ok (.invokestatic 50, 3) := by decide +kernel
theorem dX4_at_16 : decode cX4_at 16 = .ok (.istore 4, 2) := by decide +kernel
theorem dX4_at_18 : decode cX4_at 18 = .ok (.iload_n 3, 1) := by decide +kernel
theorem dX4_at_19 : decode cX4_at 19 = .ok (.tableswitch 66 0 2 #[25, 36, 47], 25) := by decide +kernel
theorem dX4_at_44 : decode cX4_at 44 = .ok (.aload_n 0, 1) := by decide +kernel
theorem dX4_at_45 : decode cX4_at 45 = .ok (.getfield 12, 3) := by decide +kernel
theorem dX4_at_48 : decode cX4_at 48 = .ok (.getfield 54, 3) := by decide +kernel
theorem dX4_at_51 : decode cX4_at 51 = .ok (.iload 4, 2) := by decide +kernel
theorem dX4_at_53 : decode cX4_at 53 = .ok (.iaload, 1) := by decide +kernel
theorem dX4_at_54 : decode cX4_at 54 = .ok (.ireturn, 1) := by decide +kernel
theorem dX4_at_55 : decode cX4_at 55 = .ok (.aload_n 0, 1) := by decide +kernel
theorem dX4_at_56 : decode cX4_at 56 = .ok (.getfield 12, 3) := by decide +kernel
theorem dX4_at_59 : decode cX4_at 59 = .ok (.getfield 58, 3) := by decide +kernel
theorem dX4_at_62 : decode cX4_at 62 = .ok (.iload 4, 2) := by decide +kernel
theorem dX4_at_64 : decode cX4_at 64 = .ok (.iaload, 1) := by decide +kernel
theorem dX4_at_65 : decode cX4_at 65 = .ok (.ireturn, 1) := by decide +kernel
theorem dX4_at_66 : decode cX4_at 66 = .ok (.aload_n 0, 1) := by decide +kernel
theorem dX4_at_67 : decode cX4_at 67 = .ok (.getfield 12, 3) := by decide +kernel
theorem dX4_at_70 : decode cX4_at 70 = .ok (.getfield 61, 3) := by decide +kernel
theorem dX4_at_73 : decode cX4_at 73 = .ok (.iload 4, 2) := by decide +kernel
theorem dX4_at_75 : decode cX4_at 75 = .ok (.baload, 1) := by decide +kernel
theorem dX4_at_76 : decode cX4_at 76 = .ok (.ifCond .eq 7, 3) := by decide +kernel
theorem dX4_at_79 : decode cX4_at 79 = .ok (.iconst 1, 1) := by decide +kernel
theorem dX4_at_80 : decode cX4_at 80 = .ok (.goto 4, 3) := by decide +kernel
theorem dX4_at_83 : decode cX4_at 83 = .ok (.iconst 0, 1) := by decide +kernel
theorem dX4_at_84 : decode cX4_at 84 = .ok (.ireturn, 1) := by decide +kernel
theorem dX4_at_85 : decode cX4_at 85 = .ok (.bipush (-3), 2) := by decide +kernel
theorem dX4_at_87 : decode cX4_at 87 = .ok (.ireturn, 1) := by decide +kernel
set_option maxRecDepth 20000 in
theorem ggX4_knot_X4_isBlock : GoodIn wsX4_knot wsX4_isBlock := goodIn_r _ [5] (by decide +kernel) (by decide +kernel)
set_option maxRecDepth 20000 in
theorem gX4_knot_X4_isBlock : GoodIn wsX4_knot (va_wsS RX4 69 yX4_isBlock wsX4_isBlock) := goodIn_app (goodIn_of _ (by decide +kernel)) ggX4_knot_X4_isBlock
set_option maxRecDepth 20000 in
theorem ggX4_knot_X2_knotOf : GoodIn wsX4_knot wsX2_knotOf := goodIn_r _ [10, 11, 12, 4, 13, 14, 15, 9, 16, 17, 18, 19, 20, 26, 27, 28] (by decide +kernel) (by decide +kernel)
set_option maxRecDepth 20000 in
theorem gX4_knot_X2_knotOf : GoodIn wsX4_knot (wsV RX4 72 RX2 yX2_knotOf wsX2_knotOf) := goodIn_app (goodIn_of _ (by decide +kernel)) ggX4_knot_X2_knotOf
theorem dX4_knot_0 : decode cX4_knot 0 = .ok (.iload_n 1, 1) := by decide +kernel
theorem dX4_knot_1 : decode cX4_knot 1 = .ok (.iload_n 2, 1) := by decide +kernel
theorem dX4_knot_2 : decode cX4_knot 2 = .ok (.invokestatic 69, 3) := by decide +kernel
theorem dX4_knot_5 : decode cX4_knot 5 = .ok (.ifCond .eq 15, 3) := by decide +kernel
theorem dX4_knot_8 : decode cX4_knot 8 = .ok (.aload_n 0, 1) := by decide +kernel
theorem dX4_knot_9 : decode cX4_knot 9 = .ok (.getfield 12, 3) := by decide +kernel
theorem dX4_knot_12 : decode cX4_knot 12 = .ok (.iload_n 1, 1) := by decide +kernel
theorem dX4_knot_13 : decode cX4_knot 13 = .ok (.iload_n 2, 1) := by decide +kernel
theorem dX4_knot_14 : decode cX4_knot 14 = .ok (.invokevirtual 72, 3) := by decide +kernel
theorem dX4_knot_17 : decode cX4_knot 17 = .ok (.goto 5, 3) := by decide +kernel
theorem dX4_knot_20 : decode cX4_knot 20 = .ok (.bipush (-2), 2) := by decide +kernel
theorem dX4_knot_22 : decode cX4_knot 22 = .ok (.ireturn, 1) := by decide +kernel
set_option maxRecDepth 20000 in
theorem ggX4_set_X3_change : GoodIn wsX4_set wsX3_change := goodIn_r _ [6, 7, 13] (by decide +kernel) (by decide +kernel)
set_option maxRecDepth 20000 in
theorem gX4_set_X3_change : GoodIn wsX4_set (wsV RX4 75 RX3 yX3_change wsX3_change) := goodIn_app (goodIn_of _ (by decide +kernel)) ggX4_set_X3_change
theorem dX4_set_0 : decode cX4_set 0 = .ok (.aload_n 0, 1) := by decide +kernel
theorem dX4_set_1 : decode cX4_set 1 = .ok (.getfield 19, 3) := by decide +kernel
theorem dX4_set_4 : decode cX4_set 4 = .ok (.iload_n 1, 1) := by decide +kernel
theorem dX4_set_5 : decode cX4_set 5 = .ok (.iload_n 2, 1) := by decide +kernel
theorem dX4_set_6 : decode cX4_set 6 = .ok (.invokevirtual 75, 3) := by decide +kernel
theorem dX4_set_9 : decode cX4_set 9 = .ok (.ireturn, 1) := by decide +kernel
set_option maxRecDepth 20000 in
theorem ggX4_wanted_X4_isCell : GoodIn wsX4_wanted wsX4_isCell := goodIn_r _ [7] (by decide +kernel) (by decide +kernel)
set_option maxRecDepth 20000 in
theorem gX4_wanted_X4_isCell : GoodIn wsX4_wanted (va_wsS RX4 42 yX4_isCell wsX4_isCell) := goodIn_app (goodIn_of _ (by decide +kernel)) ggX4_wanted_X4_isCell
set_option maxRecDepth 20000 in
theorem ggX4_wanted_X4_isLayer : GoodIn wsX4_wanted wsX4_isLayer := goodIn_r _ [10] (by decide +kernel) (by decide +kernel)
set_option maxRecDepth 20000 in
theorem gX4_wanted_X4_isLayer : GoodIn wsX4_wanted (va_wsS RX4 78 yX4_isLayer wsX4_isLayer) := goodIn_app (goodIn_of _ (by decide +kernel)) ggX4_wanted_X4_isLayer
set_option maxRecDepth 20000 in
theorem ggX4_wanted_X4_cellOf : GoodIn wsX4_wanted wsX4_cellOf := goodIn_r _ [13] (by decide +kernel) (by decide +kernel)
set_option maxRecDepth 20000 in
theorem gX4_wanted_X4_cellOf : GoodIn wsX4_wanted (va_wsS RX4 50 yX4_cellOf wsX4_cellOf) := goodIn_app (goodIn_of _ (by decide +kernel)) ggX4_wanted_X4_cellOf
set_option maxRecDepth 20000 in
theorem ggX4_wanted_X3_widthFor : GoodIn wsX4_wanted wsX3_widthFor := goodIn_r _ [18, 19, 20, 21, 22, 23, 32] (by decide +kernel) (by decide +kernel)
set_option maxRecDepth 20000 in
theorem gX4_wanted_X3_widthFor : GoodIn wsX4_wanted (wsV RX4 81 RX3 yX3_widthFor wsX3_widthFor) := goodIn_app (goodIn_of _ (by decide +kernel)) ggX4_wanted_X3_widthFor
theorem dX4_wanted_0 : decode cX4_wanted 0 = .ok (.iload_n 1, 1) := by decide +kernel
theorem dX4_wanted_1 : decode cX4_wanted 1 = .ok (.iload_n 2, 1) := by decide +kernel
theorem dX4_wanted_2 : decode cX4_wanted 2 = .ok (.invokestatic 42, 3) := by decide +kernel
theorem dX4_wanted_5 : decode cX4_wanted 5 = .ok (.ifCond .eq 10, 3) := by decide +kernel
theorem dX4_wanted_8 : decode cX4_wanted 8 = .ok (.iload_n 3, 1) := by decide +kernel
theorem dX4_wanted_9 : decode cX4_wanted 9 = .ok (.invokestatic 78, 3) := by decide +kernel
theorem dX4_wanted_12 : decode cX4_wanted 12 = .ok (.ifCond .ne 6, 3) := by decide +kernel
theorem dX4_wanted_15 : decode cX4_wanted 15 = .ok (.bipush (-2), 2) := by decide +kernel
theorem dX4_wanted_17 : decode cX4_wanted 17 = .ok (.ireturn, 1) := by decide +kernel
theorem dX4_wanted_18 : decode cX4_wanted 18 = .ok (.aload_n 0, 1) := by decide +kernel
theorem dX4_wanted_19 : decode cX4_wanted 19 = .ok (.getfield 19, 3) := by decide +kernel
theorem dX4_wanted_22 : decode cX4_wanted 22 = .ok (.aload_n 0, 1) := by decide +kernel
theorem dX4_wanted_23 : decode cX4_wanted 23 = .ok (.getfield 12, 3) := by decide +kernel
theorem dX4_wanted_26 : decode cX4_wanted 26 = .ok (.getfield 54, 3) := by decide +kernel
theorem dX4_wanted_29 : decode cX4_wanted 29 = .ok (.iload_n 1, 1) := by decide +kernel
theorem dX4_wanted_30 : decode cX4_wanted 30 = .ok (.iload_n 2, 1) := by decide +kernel
theorem dX4_wanted_31 : decode cX4_wanted 31 = .ok (.invokestatic 50, 3) := by decide +kernel
theorem dX4_wanted_34 : decode cX4_wanted 34 = .ok (.iaload, 1) := by decide +kernel
theorem dX4_wanted_35 : decode cX4_wanted 35 = .ok (.iload_n 3, 1) := by decide +kernel
theorem dX4_wanted_36 : decode cX4_wanted 36 = .ok (.invokevirtual 81, 3) := by decide +kernel
theorem dX4_wanted_39 : decode cX4_wanted 39 = .ok (.ireturn, 1) := by decide +kernel
set_option maxRecDepth 20000 in
theorem ggX4_width_X4_isCell : GoodIn wsX4_width wsX4_isCell := goodIn_r _ [5] (by decide +kernel) (by decide +kernel)
set_option maxRecDepth 20000 in
theorem gX4_width_X4_isCell : GoodIn wsX4_width (va_wsS RX4 42 yX4_isCell wsX4_isCell) := goodIn_app (goodIn_of _ (by decide +kernel)) ggX4_width_X4_isCell
set_option maxRecDepth 20000 in
theorem ggX4_width_X4_isLayer : GoodIn wsX4_width wsX4_isLayer := goodIn_r _ [8] (by decide +kernel) (by decide +kernel)
set_option maxRecDepth 20000 in
theorem gX4_width_X4_isLayer : GoodIn wsX4_width (va_wsS RX4 78 yX4_isLayer wsX4_isLayer) := goodIn_app (goodIn_of _ (by decide +kernel)) ggX4_width_X4_isLayer
set_option maxRecDepth 20000 in
theorem ggX4_width_X4_drawnLayer : GoodIn wsX4_width wsX4_drawnLayer := goodIn_r _ [12, 13, 14, 15, 16, 17, 18, 19, 20, 21, 22, 23, 24, 25, 26, 27, 28, 29, 30, 31, 32, 33, 34, 35, 36, 37, 38, 39, 40, 41, 42, 43, 44, 45, 46, 47, 48, 49, 50, 3, 4, 5, 51, 52, 53, 54, 55, 56, 57, 58, 59, 60, 61, 62, 63, 64, 65, 66, 67, 68, 69, 70, 71, 72, 73, 74, 75, 76, 77, 78, 79, 80, 81, 82, 93, 94, 95, 96, 97, 84, 85, 86, 87, 88, 89, 90, 91, 92, 98, 99, 100, 101] (by decide +kernel) (by decide +kernel)
set_option maxRecDepth 20000 in
theorem gX4_width_X4_drawnLayer : GoodIn wsX4_width (wsV RX4 84 RX4 yX4_drawnLayer wsX4_drawnLayer) := goodIn_app (goodIn_of _ (by decide +kernel)) ggX4_width_X4_drawnLayer
set_option maxRecDepth 20000 in
theorem ggX4_width_X4_cellOf : GoodIn wsX4_width wsX4_cellOf := goodIn_r _ [52] (by decide +kernel) (by decide +kernel)
set_option maxRecDepth 20000 in
theorem gX4_width_X4_cellOf : GoodIn wsX4_width (va_wsS RX4 50 yX4_cellOf wsX4_cellOf) := goodIn_app (goodIn_of _ (by decide +kernel)) ggX4_width_X4_cellOf
theorem dX4_width_0 : decode cX4_width 0 = .ok (.iload_n 1, 1) := by decide +kernel
theorem dX4_width_1 : decode cX4_width 1 = .ok (.iload_n 2, 1) := by decide +kernel
theorem dX4_width_2 : decode cX4_width 2 = .ok (.invokestatic 42, 3) := by decide +kernel
theorem dX4_width_5 : decode cX4_width 5 = .ok (.ifCond .eq 10, 3) := by decide +kernel
theorem dX4_width_8 : decode cX4_width 8 = .ok (.iload_n 3, 1) := by decide +kernel
theorem dX4_width_9 : decode cX4_width 9 = .ok (.invokestatic 78, 3) := by decide +kernel
theorem dX4_width_12 : decode cX4_width 12 = .ok (.ifCond .ne 6, 3) := by decide +kernel
theorem dX4_width_15 : decode cX4_width 15 = .ok (.bipush (-2), 2) := by decide +kernel
theorem dX4_width_17 : decode cX4_width 17 = .ok (.ireturn, 1) := by decide +kernel
theorem dX4_width_18 : decode cX4_width 18 = .ok (.aload_n 0, 1) := by decide +kernel
theorem dX4_width_19 : decode cX4_width 19 = .ok (.iload_n 3, 1) := by decide +kernel
theorem dX4_width_20 : decode cX4_width 20 = .ok (.invokevirtual 84, 3) := by decide +kernel
theorem dX4_width_23 : decode cX4_width 23 = .ok (.getfield 88, 3) := by decide +kernel
theorem dX4_width_26 : decode cX4_width 26 = .ok (.iload_n 1, 1) := by decide +kernel
theorem dX4_width_27 : decode cX4_width 27 = .ok (.iload_n 2, 1) := by decide +kernel
theorem dX4_width_28 : decode cX4_width 28 = .ok (.invokestatic 50, 3) := by decide +kernel
theorem dX4_width_31 : decode cX4_width 31 = .ok (.iaload, 1) := by decide +kernel
theorem dX4_width_32 : decode cX4_width 32 = .ok (.ireturn, 1) := by decide +kernel
set_option maxRecDepth 20000 in
theorem ggX4_made_X4_isCell : GoodIn wsX4_made wsX4_isCell := goodIn_r _ [4] (by decide +kernel) (by decide +kernel)
set_option maxRecDepth 20000 in
theorem gX4_made_X4_isCell : GoodIn wsX4_made (va_wsS RX4 42 yX4_isCell wsX4_isCell) := goodIn_app (goodIn_of _ (by decide +kernel)) ggX4_made_X4_isCell
set_option maxRecDepth 20000 in
theorem ggX4_made_X4_drawBothLayers : GoodIn wsX4_made wsX4_drawBothLayers := goodIn_r _ [8, 9, 10, 11, 12, 13, 14, 15, 16, 17, 18, 19, 20, 21, 22, 23, 24, 25, 26, 27, 28, 29, 30, 31, 32, 33, 34, 35, 36, 37, 38, 39, 40, 41, 42, 43, 44, 45, 46, 2, 3, 4, 47, 48, 49, 50, 51, 52, 53, 54, 55, 56, 57, 58, 59, 60, 61, 62, 63, 64, 65, 66, 67, 68, 69, 70, 71, 72, 73, 74, 75, 76, 77, 78, 89, 90, 91, 92, 93, 94, 95, 96, 97, 98, 99, 100, 101, 102, 103, 104, 105, 106] (by decide +kernel) (by decide +kernel)
set_option maxRecDepth 20000 in
theorem gX4_made_X4_drawBothLayers : GoodIn wsX4_made (wsV RX4 91 RX4 yX4_drawBothLayers wsX4_drawBothLayers) := goodIn_app (goodIn_of _ (by decide +kernel)) ggX4_made_X4_drawBothLayers
set_option maxRecDepth 20000 in
theorem ggX4_made_X4_cellOf : GoodIn wsX4_made wsX4_cellOf := goodIn_r _ [48] (by decide +kernel) (by decide +kernel)
set_option maxRecDepth 20000 in
theorem gX4_made_X4_cellOf : GoodIn wsX4_made (va_wsS RX4 50 yX4_cellOf wsX4_cellOf) := goodIn_app (goodIn_of _ (by decide +kernel)) ggX4_made_X4_cellOf
set_option maxRecDepth 20000 in
theorem ggX4_made_X4_toneMade : GoodIn wsX4_made wsX4_toneMade := goodIn_r _ [83, 11, 9, 84, 12, 85, 86, 87, 28, 88, 30, 89, 90, 91, 92, 93, 94, 95, 96, 97, 98, 99, 100, 101, 102, 106] (by decide +kernel) (by decide +kernel)
set_option maxRecDepth 20000 in
theorem gX4_made_X4_toneMade : GoodIn wsX4_made (wsV RX4 94 RX4 yX4_toneMade wsX4_toneMade) := goodIn_app (goodIn_of _ (by decide +kernel)) ggX4_made_X4_toneMade
theorem dX4_made_0 : decode cX4_made 0 = .ok (.iload_n 1, 1) := by decide +kernel
theorem dX4_made_1 : decode cX4_made 1 = .ok (.iload_n 2, 1) := by decide +kernel
theorem dX4_made_2 : decode cX4_made 2 = .ok (.invokestatic 42, 3) := by decide +kernel
theorem dX4_made_5 : decode cX4_made 5 = .ok (.ifCond .ne 6, 3) := by decide +kernel
theorem dX4_made_8 : decode cX4_made 8 = .ok (.bipush (-2), 2) := by decide +kernel
theorem dX4_made_10 : decode cX4_made 10 = .ok (.ireturn, 1) := by decide +kernel
theorem dX4_made_11 : decode cX4_made 11 = .ok (.aload_n 0, 1) := by decide +kernel
theorem dX4_made_12 : decode cX4_made 12 = .ok (.invokevirtual 91, 3) := by decide +kernel
theorem dX4_made_15 : decode cX4_made 15 = .ok (.aload_n 0, 1) := by decide +kernel
theorem dX4_made_16 : decode cX4_made 16 = .ok (.iload_n 1, 1) := by decide +kernel
theorem dX4_made_17 : decode cX4_made 17 = .ok (.iload_n 2, 1) := by decide +kernel
theorem dX4_made_18 : decode cX4_made 18 = .ok (.invokestatic 50, 3) := by decide +kernel
theorem dX4_made_21 : decode cX4_made 21 = .ok (.invokevirtual 94, 3) := by decide +kernel
theorem dX4_made_24 : decode cX4_made 24 = .ok (.ireturn, 1) := by decide +kernel
set_option maxRecDepth 20000 in
theorem ggX4_error_X4_drawBothLayers : GoodIn wsX4_error wsX4_drawBothLayers := goodIn_r _ [14, 15, 1, 16, 17, 18, 19, 20, 21, 22, 23, 24, 25, 26, 27, 28, 29, 30, 31, 32, 33, 34, 35, 36, 37, 5, 38, 39, 40, 41, 42, 43, 44, 45, 46, 47, 48, 49, 50, 51, 13, 52, 53, 54, 55, 56, 57, 58, 59, 60, 61, 62, 63, 64, 65, 66, 67, 68, 69, 70, 71, 72, 73, 3, 4, 6, 7, 8, 9, 74, 75, 76, 77, 78, 88, 89, 90, 91, 92, 96, 97, 98, 99, 100, 101, 102, 103, 104, 93, 94, 95, 105] (by decide +kernel) (by decide +kernel)
set_option maxRecDepth 20000 in
theorem gX4_error_X4_drawBothLayers : GoodIn wsX4_error (wsV RX4 91 RX4 yX4_drawBothLayers wsX4_drawBothLayers) := goodIn_app (goodIn_of _ (by decide +kernel)) ggX4_error_X4_drawBothLayers
set_option maxRecDepth 20000 in
theorem ggX4_error_X4_toneMade : GoodIn wsX4_error wsX4_toneMade := goodIn_r _ [82, 16, 15, 83, 17, 84, 85, 86, 33, 87, 35, 88, 89, 90, 91, 92, 96, 97, 98, 99, 100, 101, 102, 103, 104, 105] (by decide +kernel) (by decide +kernel)
set_option maxRecDepth 20000 in
theorem gX4_error_X4_toneMade : GoodIn wsX4_error (wsV RX4 94 RX4 yX4_toneMade wsX4_toneMade) := goodIn_app (goodIn_of _ (by decide +kernel)) ggX4_error_X4_toneMade
theorem dX4_error_0 : decode cX4_error 0 = .ok (.iload_n 1, 1) := by decide +kernel
theorem dX4_error_1 : decode cX4_error 1 = .ok (.ifCond .eq 11, 3) := by decide +kernel
theorem dX4_error_4 : decode cX4_error 4 = .ok (.iload_n 1, 1) := by decide +kernel
theorem dX4_error_5 : decode cX4_error 5 = .ok (.iconst 1, 1) := by decide +kernel
theorem dX4_error_6 : decode cX4_error 6 = .ok (.if_icmp .eq 6, 3) := by decide +kernel
theorem dX4_error_9 : decode cX4_error 9 = .ok (.bipush (-3), 2) := by decide +kernel
theorem dX4_error_11 : decode cX4_error 11 = .ok (.ireturn, 1) := by decide +kernel
theorem dX4_error_12 : decode cX4_error 12 = .ok (.aload_n 0, 1) := by decide +kernel
theorem dX4_error_13 : decode cX4_error 13 = .ok (.invokevirtual 91, 3) := by decide +kernel
theorem dX4_error_16 : decode cX4_error 16 = .ok (.iconst 0, 1) := by decide +kernel
theorem dX4_error_17 : decode cX4_error 17 = .ok (.istore_n 2, 1) := by decide +kernel
theorem dX4_error_18 : decode cX4_error 18 = .ok (.iconst 0, 1) := by decide +kernel
theorem dX4_error_19 : decode cX4_error 19 = .ok (.istore_n 3, 1) := by decide +kernel
theorem dX4_error_20 : decode cX4_error 20 = .ok (.iconst 0, 1) := by decide +kernel
theorem dX4_error_21 : decode cX4_error 21 = .ok (.istore 4, 2) := by decide +kernel
theorem dX4_error_23 : decode cX4_error 23 = .ok (.iload 4, 2) := by decide +kernel
theorem dX4_error_25 : decode cX4_error 25 = .ok (.bipush 64, 2) := by decide +kernel
theorem dX4_error_27 : decode cX4_error 27 = .ok (.if_icmp .ge 43, 3) := by decide +kernel
theorem dX4_error_30 : decode cX4_error 30 = .ok (.aload_n 0, 1) := by decide +kernel
theorem dX4_error_31 : decode cX4_error 31 = .ok (.getfield 12, 3) := by decide +kernel
theorem dX4_error_34 : decode cX4_error 34 = .ok (.getfield 54, 3) := by decide +kernel
theorem dX4_error_37 : decode cX4_error 37 = .ok (.iload 4, 2) := by decide +kernel
theorem dX4_error_39 : decode cX4_error 39 = .ok (.iaload, 1) := by decide +kernel
theorem dX4_error_40 : decode cX4_error 40 = .ok (.aload_n 0, 1) := by decide +kernel
theorem dX4_error_41 : decode cX4_error 41 = .ok (.iload 4, 2) := by decide +kernel
theorem dX4_error_43 : decode cX4_error 43 = .ok (.invokevirtual 94, 3) := by decide +kernel
theorem dX4_error_46 : decode cX4_error 46 = .ok (.isub, 1) := by decide +kernel
theorem dX4_error_47 : decode cX4_error 47 = .ok (.invokestatic 98, 3) := by decide +kernel
theorem dX4_error_50 : decode cX4_error 50 = .ok (.istore 5, 2) := by decide +kernel
theorem dX4_error_52 : decode cX4_error 52 = .ok (.iload_n 2, 1) := by decide +kernel
theorem dX4_error_53 : decode cX4_error 53 = .ok (.iload 5, 2) := by decide +kernel
theorem dX4_error_55 : decode cX4_error 55 = .ok (.invokestatic 103, 3) := by decide +kernel
theorem dX4_error_58 : decode cX4_error 58 = .ok (.istore_n 2, 1) := by decide +kernel
theorem dX4_error_59 : decode cX4_error 59 = .ok (.iload_n 3, 1) := by decide +kernel
theorem dX4_error_60 : decode cX4_error 60 = .ok (.iload 5, 2) := by decide +kernel
theorem dX4_error_62 : decode cX4_error 62 = .ok (.iadd, 1) := by decide +kernel
theorem dX4_error_63 : decode cX4_error 63 = .ok (.istore_n 3, 1) := by decide +kernel
theorem dX4_error_64 : decode cX4_error 64 = .ok (.iinc 4 1, 3) := by decide +kernel
theorem dX4_error_67 : decode cX4_error 67 = .ok (.goto (-44), 3) := by decide +kernel
theorem dX4_error_70 : decode cX4_error 70 = .ok (.iload_n 1, 1) := by decide +kernel
theorem dX4_error_71 : decode cX4_error 71 = .ok (.ifCond .ne 7, 3) := by decide +kernel
theorem dX4_error_74 : decode cX4_error 74 = .ok (.iload_n 2, 1) := by decide +kernel
theorem dX4_error_75 : decode cX4_error 75 = .ok (.goto 4, 3) := by decide +kernel
theorem dX4_error_78 : decode cX4_error 78 = .ok (.iload_n 3, 1) := by decide +kernel
theorem dX4_error_79 : decode cX4_error 79 = .ok (.ireturn, 1) := by decide +kernel
set_option maxRecDepth 20000 in
theorem ggX4_paths_X4_isLayer : GoodIn wsX4_paths wsX4_isLayer := goodIn_r _ [5] (by decide +kernel) (by decide +kernel)
set_option maxRecDepth 20000 in
theorem gX4_paths_X4_isLayer : GoodIn wsX4_paths (va_wsS RX4 78 yX4_isLayer wsX4_isLayer) := goodIn_app (goodIn_of _ (by decide +kernel)) ggX4_paths_X4_isLayer
set_option maxRecDepth 20000 in
theorem ggX4_paths_X4_drawnLayer : GoodIn wsX4_paths wsX4_drawnLayer := goodIn_r _ [9, 10, 11, 12, 13, 14, 15, 16, 17, 18, 19, 20, 21, 22, 23, 24, 25, 26, 27, 28, 29, 30, 31, 32, 33, 34, 35, 36, 37, 38, 39, 40, 41, 42, 43, 44, 45, 46, 47, 48, 4, 49, 50, 51, 52, 53, 54, 55, 56, 57, 58, 59, 60, 61, 62, 63, 64, 65, 66, 67, 68, 69, 70, 71, 72, 73, 74, 75, 76, 77, 78, 79, 80, 81, 91, 92, 93, 94, 95, 82, 83, 84, 85, 86, 87, 88, 89, 90, 96, 97, 98, 99] (by decide +kernel) (by decide +kernel)
set_option maxRecDepth 20000 in
theorem gX4_paths_X4_drawnLayer : GoodIn wsX4_paths (wsV RX4 84 RX4 yX4_drawnLayer wsX4_drawnLayer) := goodIn_app (goodIn_of _ (by decide +kernel)) ggX4_paths_X4_drawnLayer
theorem dX4_paths_0 : decode cX4_paths 0 = .ok (.iload_n 1, 1) := by decide +kernel
theorem dX4_paths_1 : decode cX4_paths 1 = .ok (.invokestatic 78, 3) := by decide +kernel
theorem dX4_paths_4 : decode cX4_paths 4 = .ok (.ifCond .eq 14, 3) := by decide +kernel
theorem dX4_paths_7 : decode cX4_paths 7 = .ok (.aload_n 0, 1) := by decide +kernel
theorem dX4_paths_8 : decode cX4_paths 8 = .ok (.iload_n 1, 1) := by decide +kernel
theorem dX4_paths_9 : decode cX4_paths 9 = .ok (.invokevirtual 84, 3) := by decide +kernel
theorem dX4_paths_12 : decode cX4_paths 12 = .ok (.getfield 106, 3) := by decide +kernel
theorem dX4_paths_15 : decode cX4_paths 15 = .ok (.goto 5, 3) := by decide +kernel
theorem dX4_paths_18 : decode cX4_paths 18 = .ok (.bipush (-2), 2) := by decide +kernel
theorem dX4_paths_20 : decode cX4_paths 20 = .ok (.ireturn, 1) := by decide +kernel
set_option maxRecDepth 20000 in
theorem ggX4_path_X4_isLayer : GoodIn wsX4_path wsX4_isLayer := goodIn_r _ [9] (by decide +kernel) (by decide +kernel)
set_option maxRecDepth 20000 in
theorem gX4_path_X4_isLayer : GoodIn wsX4_path (va_wsS RX4 78 yX4_isLayer wsX4_isLayer) := goodIn_app (goodIn_of _ (by decide +kernel)) ggX4_path_X4_isLayer
set_option maxRecDepth 20000 in
theorem ggX4_path_X4_drawnLayer : GoodIn wsX4_path wsX4_drawnLayer := goodIn_r _ [13, 14, 15, 16, 17, 18, 19, 20, 21, 22, 23, 24, 25, 26, 27, 28, 29, 30, 31, 32, 33, 34, 35, 36, 37, 38, 39, 40, 41, 42, 43, 44, 45, 46, 47, 48, 49, 50, 51, 52, 8, 53, 54, 55, 56, 57, 58, 59, 60, 61, 62, 63, 64, 65, 66, 67, 68, 69, 70, 71, 72, 73, 74, 75, 76, 77, 78, 79, 80, 81, 82, 83, 84, 85, 95, 96, 97, 98, 99, 86, 87, 88, 89, 90, 91, 92, 93, 94, 100, 101, 102, 103] (by decide +kernel) (by decide +kernel)
set_option maxRecDepth 20000 in
theorem gX4_path_X4_drawnLayer : GoodIn wsX4_path (wsV RX4 84 RX4 yX4_drawnLayer wsX4_drawnLayer) := goodIn_app (goodIn_of _ (by decide +kernel)) ggX4_path_X4_drawnLayer
theorem dX4_path_0 : decode cX4_path 0 = .ok (.iload_n 1, 1) := by decide +kernel
theorem dX4_path_1 : decode cX4_path 1 = .ok (.invokestatic 78, 3) := by decide +kernel
theorem dX4_path_4 : decode cX4_path 4 = .ok (.ifCond .ne 6, 3) := by decide +kernel
theorem dX4_path_7 : decode cX4_path 7 = .ok (.bipush (-2), 2) := by decide +kernel
theorem dX4_path_9 : decode cX4_path 9 = .ok (.ireturn, 1) := by decide +kernel
theorem dX4_path_10 : decode cX4_path 10 = .ok (.aload_n 0, 1) := by decide +kernel
theorem dX4_path_11 : decode cX4_path 11 = .ok (.iload_n 1, 1) := by decide +kernel
theorem dX4_path_12 : decode cX4_path 12 = .ok (.invokevirtual 84, 3) := by decide +kernel
theorem dX4_path_15 : decode cX4_path 15 = .ok (.astore 4, 2) := by decide +kernel
theorem dX4_path_17 : decode cX4_path 17 = .ok (.iload_n 2, 1) := by decide +kernel
theorem dX4_path_18 : decode cX4_path 18 = .ok (.ifCond .lt 18, 3) := by decide +kernel
theorem dX4_path_21 : decode cX4_path 21 = .ok (.iload_n 2, 1) := by decide +kernel
theorem dX4_path_22 : decode cX4_path 22 = .ok (.aload 4, 2) := by decide +kernel
theorem dX4_path_24 : decode cX4_path 24 = .ok (.getfield 106, 3) := by decide +kernel
theorem dX4_path_27 : decode cX4_path 27 = .ok (.if_icmp .ge 9, 3) := by decide +kernel
theorem dX4_path_30 : decode cX4_path 30 = .ok (.iload_n 2, 1) := by decide +kernel
theorem dX4_path_31 : decode cX4_path 31 = .ok (.bipush 64, 2) := by decide +kernel
theorem dX4_path_33 : decode cX4_path 33 = .ok (.if_icmp .lt 6, 3) := by decide +kernel
theorem dX4_path_36 : decode cX4_path 36 = .ok (.bipush (-2), 2) := by decide +kernel
theorem dX4_path_38 : decode cX4_path 38 = .ok (.ireturn, 1) := by decide +kernel
theorem dX4_path_39 : decode cX4_path 39 = .ok (.iload_n 3, 1) := by decide +kernel
theorem dX4_path_40 : decode cX4_path 40 = .ok (.tableswitch 64 0 3 #[32, 40, 48, 56], 32) := by decide +kernel
theorem dX4_path_72 : decode cX4_path 72 = .ok (.aload 4, 2) := by decide +kernel
theorem dX4_path_74 : decode cX4_path 74 = .ok (.getfield 110, 3) := by decide +kernel
theorem dX4_path_77 : decode cX4_path 77 = .ok (.iload_n 2, 1) := by decide +kernel
theorem dX4_path_78 : decode cX4_path 78 = .ok (.iaload, 1) := by decide +kernel
theorem dX4_path_79 : decode cX4_path 79 = .ok (.ireturn, 1) := by decide +kernel
theorem dX4_path_80 : decode cX4_path 80 = .ok (.aload 4, 2) := by decide +kernel
theorem dX4_path_82 : decode cX4_path 82 = .ok (.getfield 113, 3) := by decide +kernel
theorem dX4_path_85 : decode cX4_path 85 = .ok (.iload_n 2, 1) := by decide +kernel
theorem dX4_path_86 : decode cX4_path 86 = .ok (.iaload, 1) := by decide +kernel
theorem dX4_path_87 : decode cX4_path 87 = .ok (.ireturn, 1) := by decide +kernel
theorem dX4_path_88 : decode cX4_path 88 = .ok (.aload 4, 2) := by decide +kernel
theorem dX4_path_90 : decode cX4_path 90 = .ok (.getfield 116, 3) := by decide +kernel
theorem dX4_path_93 : decode cX4_path 93 = .ok (.iload_n 2, 1) := by decide +kernel
theorem dX4_path_94 : decode cX4_path 94 = .ok (.iaload, 1) := by decide +kernel
theorem dX4_path_95 : decode cX4_path 95 = .ok (.ireturn, 1) := by decide +kernel
theorem dX4_path_96 : decode cX4_path 96 = .ok (.aload 4, 2) := by decide +kernel
theorem dX4_path_98 : decode cX4_path 98 = .ok (.getfield 119, 3) := by decide +kernel
theorem dX4_path_101 : decode cX4_path 101 = .ok (.iload_n 2, 1) := by decide +kernel
theorem dX4_path_102 : decode cX4_path 102 = .ok (.iaload, 1) := by decide +kernel
theorem dX4_path_103 : decode cX4_path 103 = .ok (.ireturn, 1) := by decide +kernel
theorem dX4_path_104 : decode cX4_path 104 = .ok (.bipush (-3), 2) := by decide +kernel
theorem dX4_path_106 : decode cX4_path 106 = .ok (.ireturn, 1) := by decide +kernel
set_option maxRecDepth 20000 in
theorem ggX4_cut_X4_isLayer : GoodIn wsX4_cut wsX4_isLayer := goodIn_r _ [6] (by decide +kernel) (by decide +kernel)
set_option maxRecDepth 20000 in
theorem gX4_cut_X4_isLayer : GoodIn wsX4_cut (va_wsS RX4 78 yX4_isLayer wsX4_isLayer) := goodIn_app (goodIn_of _ (by decide +kernel)) ggX4_cut_X4_isLayer
set_option maxRecDepth 20000 in
theorem ggX4_cut_X4_drawnLayer : GoodIn wsX4_cut wsX4_drawnLayer := goodIn_r _ [10, 11, 12, 13, 14, 15, 16, 17, 18, 19, 20, 21, 22, 23, 24, 25, 26, 27, 28, 29, 30, 31, 32, 33, 34, 35, 36, 37, 38, 39, 40, 41, 42, 43, 44, 45, 46, 47, 48, 49, 5, 50, 51, 52, 53, 54, 55, 56, 57, 58, 59, 60, 61, 62, 63, 64, 65, 66, 67, 68, 69, 70, 71, 72, 73, 74, 75, 76, 77, 78, 79, 80, 81, 82, 109, 110, 111, 112, 113, 119, 120, 121, 122, 123, 124, 125, 126, 127, 128, 129, 130, 131] (by decide +kernel) (by decide +kernel)
set_option maxRecDepth 20000 in
theorem gX4_cut_X4_drawnLayer : GoodIn wsX4_cut (wsV RX4 84 RX4 yX4_drawnLayer wsX4_drawnLayer) := goodIn_app (goodIn_of _ (by decide +kernel)) ggX4_cut_X4_drawnLayer
set_option maxRecDepth 20000 in
theorem ggX4_cut_X0_plan : GoodIn wsX4_cut wsX0_plan := goodIn_r _ [87, 88, 89, 90, 91, 51, 5, 52, 92, 93, 94, 86, 95, 96, 97, 98, 34, 35, 36, 70, 71, 72, 73, 74, 75, 76, 77, 99, 100, 101, 102, 103, 104, 114, 115, 116, 117, 118, 119, 120, 121, 122, 123, 124, 125, 126, 127] (by decide +kernel) (by decide +kernel)
set_option maxRecDepth 20000 in
theorem gX4_cut_X0_plan : GoodIn wsX4_cut (wsV RX4 122 RX0 yX0_plan wsX0_plan) := goodIn_app (goodIn_of _ (by decide +kernel)) ggX4_cut_X0_plan
set_option maxRecDepth 20000 in
theorem ggX4_cut_X0_has : GoodIn wsX4_cut wsX0_has := goodIn_r _ [108, 89, 114, 115, 116, 117, 118] (by decide +kernel) (by decide +kernel)
set_option maxRecDepth 20000 in
theorem gX4_cut_X0_has : GoodIn wsX4_cut (wsV RX4 126 RX0 yX0_has wsX0_has) := goodIn_app (goodIn_of _ (by decide +kernel)) ggX4_cut_X0_has
theorem dX4_cut_0 : decode cX4_cut 0 = .ok (.iload_n 1, 1) := by decide +kernel
theorem dX4_cut_1 : decode cX4_cut 1 = .ok (.invokestatic 78, 3) := by decide +kernel
theorem dX4_cut_4 : decode cX4_cut 4 = .ok (.ifCond .ne 6, 3) := by decide +kernel
theorem dX4_cut_7 : decode cX4_cut 7 = .ok (.bipush (-2), 2) := by decide +kernel
theorem dX4_cut_9 : decode cX4_cut 9 = .ok (.ireturn, 1) := by decide +kernel
theorem dX4_cut_10 : decode cX4_cut 10 = .ok (.aload_n 0, 1) := by decide +kernel
theorem dX4_cut_11 : decode cX4_cut 11 = .ok (.getfield 38, 3) := by decide +kernel
theorem dX4_cut_14 : decode cX4_cut 14 = .ok (.aload_n 0, 1) := by decide +kernel
theorem dX4_cut_15 : decode cX4_cut 15 = .ok (.iload_n 1, 1) := by decide +kernel
theorem dX4_cut_16 : decode cX4_cut 16 = .ok (.invokevirtual 84, 3) := by decide +kernel
theorem dX4_cut_19 : decode cX4_cut 19 = .ok (.invokevirtual 122, 3) := by decide +kernel
theorem dX4_cut_22 : decode cX4_cut 22 = .ok (.aload_n 0, 1) := by decide +kernel
theorem dX4_cut_23 : decode cX4_cut 23 = .ok (.getfield 38, 3) := by decide +kernel
theorem dX4_cut_26 : decode cX4_cut 26 = .ok (.iload_n 2, 1) := by decide +kernel
theorem dX4_cut_27 : decode cX4_cut 27 = .ok (.invokevirtual 126, 3) := by decide +kernel
theorem dX4_cut_30 : decode cX4_cut 30 = .ok (.ifCond .eq 15, 3) := by decide +kernel
theorem dX4_cut_33 : decode cX4_cut 33 = .ok (.aload_n 0, 1) := by decide +kernel
theorem dX4_cut_34 : decode cX4_cut 34 = .ok (.getfield 38, 3) := by decide +kernel
theorem dX4_cut_37 : decode cX4_cut 37 = .ok (.getfield 129, 3) := by decide +kernel
theorem dX4_cut_40 : decode cX4_cut 40 = .ok (.iload_n 2, 1) := by decide +kernel
theorem dX4_cut_41 : decode cX4_cut 41 = .ok (.iaload, 1) := by decide +kernel
theorem dX4_cut_42 : decode cX4_cut 42 = .ok (.goto 5, 3) := by decide +kernel
theorem dX4_cut_45 : decode cX4_cut 45 = .ok (.bipush (-3), 2) := by decide +kernel
theorem dX4_cut_47 : decode cX4_cut 47 = .ok (.ireturn, 1) := by decide +kernel
set_option maxRecDepth 20000 in
theorem ggX4_begin_X4_isLayer : GoodIn wsX4_begin wsX4_isLayer := goodIn_r _ [6] (by decide +kernel) (by decide +kernel)
set_option maxRecDepth 20000 in
theorem gX4_begin_X4_isLayer : GoodIn wsX4_begin (va_wsS RX4 78 yX4_isLayer wsX4_isLayer) := goodIn_app (goodIn_of _ (by decide +kernel)) ggX4_begin_X4_isLayer
set_option maxRecDepth 20000 in
theorem ggX4_begin_X4_drawnLayer : GoodIn wsX4_begin wsX4_drawnLayer := goodIn_r _ [10, 11, 12, 13, 14, 15, 16, 17, 18, 19, 20, 21, 22, 23, 24, 25, 26, 27, 28, 29, 30, 31, 32, 33, 34, 35, 36, 37, 38, 39, 40, 41, 42, 43, 44, 45, 46, 47, 48, 49, 5, 50, 51, 52, 53, 54, 55, 56, 57, 58, 59, 60, 61, 62, 63, 64, 65, 66, 67, 68, 69, 70, 71, 72, 73, 74, 75, 76, 77, 78, 79, 80, 81, 82, 109, 110, 111, 112, 113, 119, 120, 121, 122, 123, 124, 125, 126, 127, 128, 129, 130, 131] (by decide +kernel) (by decide +kernel)
set_option maxRecDepth 20000 in
theorem gX4_begin_X4_drawnLayer : GoodIn wsX4_begin (wsV RX4 84 RX4 yX4_drawnLayer wsX4_drawnLayer) := goodIn_app (goodIn_of _ (by decide +kernel)) ggX4_begin_X4_drawnLayer
set_option maxRecDepth 20000 in
theorem ggX4_begin_X0_plan : GoodIn wsX4_begin wsX0_plan := goodIn_r _ [87, 88, 89, 90, 91, 51, 5, 52, 92, 93, 94, 86, 95, 96, 97, 98, 34, 35, 36, 70, 71, 72, 73, 74, 75, 76, 77, 99, 100, 101, 102, 103, 104, 114, 115, 116, 117, 118, 119, 120, 121, 122, 123, 124, 125, 126, 127] (by decide +kernel) (by decide +kernel)
set_option maxRecDepth 20000 in
theorem gX4_begin_X0_plan : GoodIn wsX4_begin (wsV RX4 122 RX0 yX0_plan wsX0_plan) := goodIn_app (goodIn_of _ (by decide +kernel)) ggX4_begin_X0_plan
set_option maxRecDepth 20000 in
theorem ggX4_begin_X0_has : GoodIn wsX4_begin wsX0_has := goodIn_r _ [108, 89, 114, 115, 116, 117, 118] (by decide +kernel) (by decide +kernel)
set_option maxRecDepth 20000 in
theorem gX4_begin_X0_has : GoodIn wsX4_begin (wsV RX4 126 RX0 yX0_has wsX0_has) := goodIn_app (goodIn_of _ (by decide +kernel)) ggX4_begin_X0_has
theorem dX4_begin_0 : decode cX4_begin 0 = .ok (.iload_n 1, 1) := by decide +kernel
theorem dX4_begin_1 : decode cX4_begin 1 = .ok (.invokestatic 78, 3) := by decide +kernel
theorem dX4_begin_4 : decode cX4_begin 4 = .ok (.ifCond .ne 6, 3) := by decide +kernel
theorem dX4_begin_7 : decode cX4_begin 7 = .ok (.bipush (-2), 2) := by decide +kernel
theorem dX4_begin_9 : decode cX4_begin 9 = .ok (.ireturn, 1) := by decide +kernel
theorem dX4_begin_10 : decode cX4_begin 10 = .ok (.aload_n 0, 1) := by decide +kernel
theorem dX4_begin_11 : decode cX4_begin 11 = .ok (.getfield 38, 3) := by decide +kernel
theorem dX4_begin_14 : decode cX4_begin 14 = .ok (.aload_n 0, 1) := by decide +kernel
theorem dX4_begin_15 : decode cX4_begin 15 = .ok (.iload_n 1, 1) := by decide +kernel
theorem dX4_begin_16 : decode cX4_begin 16 = .ok (.invokevirtual 84, 3) := by decide +kernel
theorem dX4_begin_19 : decode cX4_begin 19 = .ok (.invokevirtual 122, 3) := by decide +kernel
theorem dX4_begin_22 : decode cX4_begin 22 = .ok (.aload_n 0, 1) := by decide +kernel
theorem dX4_begin_23 : decode cX4_begin 23 = .ok (.getfield 38, 3) := by decide +kernel
theorem dX4_begin_26 : decode cX4_begin 26 = .ok (.iload_n 2, 1) := by decide +kernel
theorem dX4_begin_27 : decode cX4_begin 27 = .ok (.invokevirtual 126, 3) := by decide +kernel
theorem dX4_begin_30 : decode cX4_begin 30 = .ok (.ifCond .eq 15, 3) := by decide +kernel
theorem dX4_begin_33 : decode cX4_begin 33 = .ok (.aload_n 0, 1) := by decide +kernel
theorem dX4_begin_34 : decode cX4_begin 34 = .ok (.getfield 38, 3) := by decide +kernel
theorem dX4_begin_37 : decode cX4_begin 37 = .ok (.getfield 132, 3) := by decide +kernel
theorem dX4_begin_40 : decode cX4_begin 40 = .ok (.iload_n 2, 1) := by decide +kernel
theorem dX4_begin_41 : decode cX4_begin 41 = .ok (.iaload, 1) := by decide +kernel
theorem dX4_begin_42 : decode cX4_begin 42 = .ok (.goto 5, 3) := by decide +kernel
theorem dX4_begin_45 : decode cX4_begin 45 = .ok (.bipush (-3), 2) := by decide +kernel
theorem dX4_begin_47 : decode cX4_begin 47 = .ok (.ireturn, 1) := by decide +kernel
set_option maxRecDepth 20000 in
theorem ggX4_air_X4_isLayer : GoodIn wsX4_air wsX4_isLayer := goodIn_r _ [6] (by decide +kernel) (by decide +kernel)
set_option maxRecDepth 20000 in
theorem gX4_air_X4_isLayer : GoodIn wsX4_air (va_wsS RX4 78 yX4_isLayer wsX4_isLayer) := goodIn_app (goodIn_of _ (by decide +kernel)) ggX4_air_X4_isLayer
set_option maxRecDepth 20000 in
theorem ggX4_air_X4_drawnLayer : GoodIn wsX4_air wsX4_drawnLayer := goodIn_r _ [10, 11, 12, 13, 14, 15, 16, 17, 18, 19, 20, 21, 22, 23, 24, 25, 26, 27, 28, 29, 30, 31, 32, 33, 34, 35, 36, 37, 38, 39, 40, 41, 42, 43, 44, 45, 46, 47, 48, 49, 5, 50, 51, 52, 53, 54, 55, 56, 57, 58, 59, 60, 61, 62, 63, 64, 65, 66, 67, 68, 69, 70, 71, 72, 73, 74, 75, 76, 77, 78, 79, 80, 81, 82, 105, 106, 107, 108, 109, 115, 116, 117, 118, 119, 120, 121, 122, 123, 124, 125, 126, 127] (by decide +kernel) (by decide +kernel)
set_option maxRecDepth 20000 in
theorem gX4_air_X4_drawnLayer : GoodIn wsX4_air (wsV RX4 84 RX4 yX4_drawnLayer wsX4_drawnLayer) := goodIn_app (goodIn_of _ (by decide +kernel)) ggX4_air_X4_drawnLayer
set_option maxRecDepth 20000 in
theorem ggX4_air_X0_plan : GoodIn wsX4_air wsX0_plan := goodIn_r _ [87, 88, 89, 90, 91, 51, 5, 52, 92, 93, 94, 86, 95, 96, 97, 98, 34, 35, 36, 70, 71, 72, 73, 74, 75, 76, 77, 99, 100, 101, 102, 103, 104, 110, 111, 112, 113, 114, 115, 116, 117, 118, 119, 120, 121, 122, 123] (by decide +kernel) (by decide +kernel)
set_option maxRecDepth 20000 in
theorem gX4_air_X0_plan : GoodIn wsX4_air (wsV RX4 122 RX0 yX0_plan wsX0_plan) := goodIn_app (goodIn_of _ (by decide +kernel)) ggX4_air_X0_plan
theorem dX4_air_0 : decode cX4_air 0 = .ok (.iload_n 1, 1) := by decide +kernel
theorem dX4_air_1 : decode cX4_air 1 = .ok (.invokestatic 78, 3) := by decide +kernel
theorem dX4_air_4 : decode cX4_air 4 = .ok (.ifCond .ne 6, 3) := by decide +kernel
theorem dX4_air_7 : decode cX4_air 7 = .ok (.bipush (-2), 2) := by decide +kernel
theorem dX4_air_9 : decode cX4_air 9 = .ok (.ireturn, 1) := by decide +kernel
theorem dX4_air_10 : decode cX4_air 10 = .ok (.aload_n 0, 1) := by decide +kernel
theorem dX4_air_11 : decode cX4_air 11 = .ok (.getfield 38, 3) := by decide +kernel
theorem dX4_air_14 : decode cX4_air 14 = .ok (.aload_n 0, 1) := by decide +kernel
theorem dX4_air_15 : decode cX4_air 15 = .ok (.iload_n 1, 1) := by decide +kernel
theorem dX4_air_16 : decode cX4_air 16 = .ok (.invokevirtual 84, 3) := by decide +kernel
theorem dX4_air_19 : decode cX4_air 19 = .ok (.invokevirtual 122, 3) := by decide +kernel
theorem dX4_air_22 : decode cX4_air 22 = .ok (.aload_n 0, 1) := by decide +kernel
theorem dX4_air_23 : decode cX4_air 23 = .ok (.getfield 38, 3) := by decide +kernel
theorem dX4_air_26 : decode cX4_air 26 = .ok (.getfield 135, 3) := by decide +kernel
theorem dX4_air_29 : decode cX4_air 29 = .ok (.ireturn, 1) := by decide +kernel
set_option maxRecDepth 20000 in
theorem ggX4_count_X2_countToned : GoodIn wsX4_count wsX2_countToned := goodIn_r _ [6, 7, 53, 54, 55] (by decide +kernel) (by decide +kernel)
set_option maxRecDepth 20000 in
theorem gX4_count_X2_countToned : GoodIn wsX4_count (wsV RX4 138 RX2 yX2_countToned wsX2_countToned) := goodIn_app (goodIn_of _ (by decide +kernel)) ggX4_count_X2_countToned
set_option maxRecDepth 20000 in
theorem ggX4_count_X2_countTold : GoodIn wsX4_count wsX2_countTold := goodIn_r _ [11, 12, 53, 54, 55] (by decide +kernel) (by decide +kernel)
set_option maxRecDepth 20000 in
theorem gX4_count_X2_countTold : GoodIn wsX4_count (wsV RX4 141 RX2 yX2_countTold wsX2_countTold) := goodIn_app (goodIn_of _ (by decide +kernel)) ggX4_count_X2_countTold
set_option maxRecDepth 20000 in
theorem ggX4_count_X4_countStrokes : GoodIn wsX4_count wsX4_countStrokes := goodIn_r _ [17, 18, 1, 19, 20, 21, 22, 23, 24, 25, 26, 27, 28, 29, 48, 49, 50, 51, 52, 53, 54, 55, 56] (by decide +kernel) (by decide +kernel)
set_option maxRecDepth 20000 in
theorem gX4_count_X4_countStrokes : GoodIn wsX4_count (wsV RX4 144 RX4 yX4_countStrokes wsX4_countStrokes) := goodIn_app (goodIn_of _ (by decide +kernel)) ggX4_count_X4_countStrokes
set_option maxRecDepth 20000 in
theorem ggX4_count_X2_countKnots : GoodIn wsX4_count wsX2_countKnots := goodIn_r _ [33, 34, 35, 36, 5, 37, 38, 39, 16, 40, 41, 42, 43, 44, 45, 46, 47, 53, 54, 55] (by decide +kernel) (by decide +kernel)
set_option maxRecDepth 20000 in
theorem gX4_count_X2_countKnots : GoodIn wsX4_count (wsV RX4 147 RX2 yX2_countKnots wsX2_countKnots) := goodIn_app (goodIn_of _ (by decide +kernel)) ggX4_count_X2_countKnots
theorem dX4_count_0 : decode cX4_count 0 = .ok (.iload_n 1, 1) := by decide +kernel
theorem dX4_count_1 : decode cX4_count 1 = .ok (.tableswitch 71 0 4 #[35, 43, 51, 57, 63], 35) := by decide +kernel
theorem dX4_count_36 : decode cX4_count 36 = .ok (.aload_n 0, 1) := by decide +kernel
theorem dX4_count_37 : decode cX4_count 37 = .ok (.getfield 12, 3) := by decide +kernel
theorem dX4_count_40 : decode cX4_count 40 = .ok (.invokevirtual 138, 3) := by decide +kernel
theorem dX4_count_43 : decode cX4_count 43 = .ok (.ireturn, 1) := by decide +kernel
theorem dX4_count_44 : decode cX4_count 44 = .ok (.aload_n 0, 1) := by decide +kernel
theorem dX4_count_45 : decode cX4_count 45 = .ok (.getfield 12, 3) := by decide +kernel
theorem dX4_count_48 : decode cX4_count 48 = .ok (.invokevirtual 141, 3) := by decide +kernel
theorem dX4_count_51 : decode cX4_count 51 = .ok (.ireturn, 1) := by decide +kernel
theorem dX4_count_52 : decode cX4_count 52 = .ok (.aload_n 0, 1) := by decide +kernel
theorem dX4_count_53 : decode cX4_count 53 = .ok (.iconst 0, 1) := by decide +kernel
theorem dX4_count_54 : decode cX4_count 54 = .ok (.invokevirtual 144, 3) := by decide +kernel
theorem dX4_count_57 : decode cX4_count 57 = .ok (.ireturn, 1) := by decide +kernel
theorem dX4_count_58 : decode cX4_count 58 = .ok (.aload_n 0, 1) := by decide +kernel
theorem dX4_count_59 : decode cX4_count 59 = .ok (.iconst 1, 1) := by decide +kernel
theorem dX4_count_60 : decode cX4_count 60 = .ok (.invokevirtual 144, 3) := by decide +kernel
theorem dX4_count_63 : decode cX4_count 63 = .ok (.ireturn, 1) := by decide +kernel
theorem dX4_count_64 : decode cX4_count 64 = .ok (.aload_n 0, 1) := by decide +kernel
theorem dX4_count_65 : decode cX4_count 65 = .ok (.getfield 12, 3) := by decide +kernel
theorem dX4_count_68 : decode cX4_count 68 = .ok (.invokevirtual 147, 3) := by decide +kernel
theorem dX4_count_71 : decode cX4_count 71 = .ok (.ireturn, 1) := by decide +kernel
theorem dX4_count_72 : decode cX4_count 72 = .ok (.bipush (-3), 2) := by decide +kernel
theorem dX4_count_74 : decode cX4_count 74 = .ok (.ireturn, 1) := by decide +kernel
theorem dX4_isCell_0 : decode cX4_isCell 0 = .ok (.iload_n 0, 1) := by decide +kernel
theorem dX4_isCell_1 : decode cX4_isCell 1 = .ok (.ifCond .lt 23, 3) := by decide +kernel
theorem dX4_isCell_4 : decode cX4_isCell 4 = .ok (.iload_n 0, 1) := by decide +kernel
theorem dX4_isCell_5 : decode cX4_isCell 5 = .ok (.bipush 8, 2) := by decide +kernel
theorem dX4_isCell_7 : decode cX4_isCell 7 = .ok (.if_icmp .ge 17, 3) := by decide +kernel
theorem dX4_isCell_10 : decode cX4_isCell 10 = .ok (.iload_n 1, 1) := by decide +kernel
theorem dX4_isCell_11 : decode cX4_isCell 11 = .ok (.ifCond .lt 13, 3) := by decide +kernel
theorem dX4_isCell_14 : decode cX4_isCell 14 = .ok (.iload_n 1, 1) := by decide +kernel
theorem dX4_isCell_15 : decode cX4_isCell 15 = .ok (.bipush 8, 2) := by decide +kernel
theorem dX4_isCell_17 : decode cX4_isCell 17 = .ok (.if_icmp .ge 7, 3) := by decide +kernel
theorem dX4_isCell_20 : decode cX4_isCell 20 = .ok (.iconst 1, 1) := by decide +kernel
theorem dX4_isCell_21 : decode cX4_isCell 21 = .ok (.goto 4, 3) := by decide +kernel
theorem dX4_isCell_24 : decode cX4_isCell 24 = .ok (.iconst 0, 1) := by decide +kernel
theorem dX4_isCell_25 : decode cX4_isCell 25 = .ok (.ireturn, 1) := by decide +kernel
theorem dX4_isBlock_0 : decode cX4_isBlock 0 = .ok (.iload_n 0, 1) := by decide +kernel
theorem dX4_isBlock_1 : decode cX4_isBlock 1 = .ok (.ifCond .lt 23, 3) := by decide +kernel
theorem dX4_isBlock_4 : decode cX4_isBlock 4 = .ok (.iload_n 0, 1) := by decide +kernel
theorem dX4_isBlock_5 : decode cX4_isBlock 5 = .ok (.bipush 7, 2) := by decide +kernel
theorem dX4_isBlock_7 : decode cX4_isBlock 7 = .ok (.if_icmp .ge 17, 3) := by decide +kernel
theorem dX4_isBlock_10 : decode cX4_isBlock 10 = .ok (.iload_n 1, 1) := by decide +kernel
theorem dX4_isBlock_11 : decode cX4_isBlock 11 = .ok (.ifCond .lt 13, 3) := by decide +kernel
theorem dX4_isBlock_14 : decode cX4_isBlock 14 = .ok (.iload_n 1, 1) := by decide +kernel
theorem dX4_isBlock_15 : decode cX4_isBlock 15 = .ok (.bipush 7, 2) := by decide +kernel
theorem dX4_isBlock_17 : decode cX4_isBlock 17 = .ok (.if_icmp .ge 7, 3) := by decide +kernel
theorem dX4_isBlock_20 : decode cX4_isBlock 20 = .ok (.iconst 1, 1) := by decide +kernel
theorem dX4_isBlock_21 : decode cX4_isBlock 21 = .ok (.goto 4, 3) := by decide +kernel
theorem dX4_isBlock_24 : decode cX4_isBlock 24 = .ok (.iconst 0, 1) := by decide +kernel
theorem dX4_isBlock_25 : decode cX4_isBlock 25 = .ok (.ireturn, 1) := by decide +kernel
theorem dX4_isLayer_0 : decode cX4_isLayer 0 = .ok (.iload_n 0, 1) := by decide +kernel
theorem dX4_isLayer_1 : decode cX4_isLayer 1 = .ok (.ifCond .eq 8, 3) := by decide +kernel
theorem dX4_isLayer_4 : decode cX4_isLayer 4 = .ok (.iload_n 0, 1) := by decide +kernel
theorem dX4_isLayer_5 : decode cX4_isLayer 5 = .ok (.iconst 1, 1) := by decide +kernel
theorem dX4_isLayer_6 : decode cX4_isLayer 6 = .ok (.if_icmp .ne 7, 3) := by decide +kernel
theorem dX4_isLayer_9 : decode cX4_isLayer 9 = .ok (.iconst 1, 1) := by decide +kernel
theorem dX4_isLayer_10 : decode cX4_isLayer 10 = .ok (.goto 4, 3) := by decide +kernel
theorem dX4_isLayer_13 : decode cX4_isLayer 13 = .ok (.iconst 0, 1) := by decide +kernel
theorem dX4_isLayer_14 : decode cX4_isLayer 14 = .ok (.ireturn, 1) := by decide +kernel
theorem dX4_isTone_0 : decode cX4_isTone 0 = .ok (.iload_n 0, 1) := by decide +kernel
theorem dX4_isTone_1 : decode cX4_isTone 1 = .ok (.ifCond .lt 13, 3) := by decide +kernel
theorem dX4_isTone_4 : decode cX4_isTone 4 = .ok (.iload_n 0, 1) := by decide +kernel
theorem dX4_isTone_5 : decode cX4_isTone 5 = .ok (.bipush 100, 2) := by decide +kernel
theorem dX4_isTone_7 : decode cX4_isTone 7 = .ok (.if_icmp .gt 7, 3) := by decide +kernel
theorem dX4_isTone_10 : decode cX4_isTone 10 = .ok (.iconst 1, 1) := by decide +kernel
theorem dX4_isTone_11 : decode cX4_isTone 11 = .ok (.goto 4, 3) := by decide +kernel
theorem dX4_isTone_14 : decode cX4_isTone 14 = .ok (.iconst 0, 1) := by decide +kernel
theorem dX4_isTone_15 : decode cX4_isTone 15 = .ok (.ireturn, 1) := by decide +kernel
theorem dX4_cellOf_0 : decode cX4_cellOf 0 = .ok (.bipush 8, 2) := by decide +kernel
theorem dX4_cellOf_2 : decode cX4_cellOf 2 = .ok (.iload_n 1, 1) := by decide +kernel
theorem dX4_cellOf_3 : decode cX4_cellOf 3 = .ok (.imul, 1) := by decide +kernel
theorem dX4_cellOf_4 : decode cX4_cellOf 4 = .ok (.iload_n 0, 1) := by decide +kernel
theorem dX4_cellOf_5 : decode cX4_cellOf 5 = .ok (.iadd, 1) := by decide +kernel
theorem dX4_cellOf_6 : decode cX4_cellOf 6 = .ok (.ireturn, 1) := by decide +kernel
theorem dX4_wayBetween_0 : decode cX4_wayBetween 0 = .ok (.iload_n 0, 1) := by decide +kernel
theorem dX4_wayBetween_1 : decode cX4_wayBetween 1 = .ok (.bipush 8, 2) := by decide +kernel
theorem dX4_wayBetween_3 : decode cX4_wayBetween 3 = .ok (.irem, 1) := by decide +kernel
theorem dX4_wayBetween_4 : decode cX4_wayBetween 4 = .ok (.iload_n 1, 1) := by decide +kernel
theorem dX4_wayBetween_5 : decode cX4_wayBetween 5 = .ok (.bipush 8, 2) := by decide +kernel
theorem dX4_wayBetween_7 : decode cX4_wayBetween 7 = .ok (.irem, 1) := by decide +kernel
theorem dX4_wayBetween_8 : decode cX4_wayBetween 8 = .ok (.isub, 1) := by decide +kernel
theorem dX4_wayBetween_9 : decode cX4_wayBetween 9 = .ok (.invokestatic 98, 3) := by decide +kernel
theorem dX4_wayBetween_12 : decode cX4_wayBetween 12 = .ok (.istore_n 2, 1) := by decide +kernel
theorem dX4_wayBetween_13 : decode cX4_wayBetween 13 = .ok (.iload_n 0, 1) := by decide +kernel
theorem dX4_wayBetween_14 : decode cX4_wayBetween 14 = .ok (.bipush 8, 2) := by decide +kernel
theorem dX4_wayBetween_16 : decode cX4_wayBetween 16 = .ok (.idiv, 1) := by decide +kernel
theorem dX4_wayBetween_17 : decode cX4_wayBetween 17 = .ok (.iload_n 1, 1) := by decide +kernel
theorem dX4_wayBetween_18 : decode cX4_wayBetween 18 = .ok (.bipush 8, 2) := by decide +kernel
theorem dX4_wayBetween_20 : decode cX4_wayBetween 20 = .ok (.idiv, 1) := by decide +kernel
theorem dX4_wayBetween_21 : decode cX4_wayBetween 21 = .ok (.isub, 1) := by decide +kernel
theorem dX4_wayBetween_22 : decode cX4_wayBetween 22 = .ok (.invokestatic 98, 3) := by decide +kernel
theorem dX4_wayBetween_25 : decode cX4_wayBetween 25 = .ok (.istore_n 3, 1) := by decide +kernel
theorem dX4_wayBetween_26 : decode cX4_wayBetween 26 = .ok (.iload_n 2, 1) := by decide +kernel
theorem dX4_wayBetween_27 : decode cX4_wayBetween 27 = .ok (.iload_n 3, 1) := by decide +kernel
theorem dX4_wayBetween_28 : decode cX4_wayBetween 28 = .ok (.invokestatic 103, 3) := by decide +kernel
theorem dX4_wayBetween_31 : decode cX4_wayBetween 31 = .ok (.ireturn, 1) := by decide +kernel
set_option maxRecDepth 20000 in
theorem ggX4_drawnLayer_X1_draw : GoodIn wsX4_drawnLayer wsX1_draw := goodIn_r _ [9, 10, 11, 12, 13, 14, 15, 16, 17, 18, 19, 20, 21, 22, 23, 24, 25, 26, 27, 28, 29, 8, 30, 31, 32, 33, 34, 35, 36, 37, 38, 39, 40, 41, 42, 43, 44, 45, 46, 47, 48, 49, 50, 51, 52, 53, 54, 55, 56, 57, 58, 59, 60, 61, 62, 63, 64, 65, 66, 67, 68, 69, 70, 71, 72, 73, 79, 80, 81, 82, 83, 84, 85, 86, 87, 88, 89, 90, 91] (by decide +kernel) (by decide +kernel)
set_option maxRecDepth 20000 in
theorem gX4_drawnLayer_X1_draw : GoodIn wsX4_drawnLayer (wsV RX4 150 RX1 yX1_draw wsX1_draw) := goodIn_app (goodIn_of _ (by decide +kernel)) ggX4_drawnLayer_X1_draw
theorem dX4_drawnLayer_0 : decode cX4_drawnLayer 0 = .ok (.iload_n 1, 1) := by decide +kernel
theorem dX4_drawnLayer_1 : decode cX4_drawnLayer 1 = .ok (.ifCond .ne 10, 3) := by decide +kernel
theorem dX4_drawnLayer_4 : decode cX4_drawnLayer 4 = .ok (.aload_n 0, 1) := by decide +kernel
theorem dX4_drawnLayer_5 : decode cX4_drawnLayer 5 = .ok (.getfield 28, 3) := by decide +kernel
theorem dX4_drawnLayer_8 : decode cX4_drawnLayer 8 = .ok (.goto 7, 3) := by decide +kernel
theorem dX4_drawnLayer_11 : decode cX4_drawnLayer 11 = .ok (.aload_n 0, 1) := by decide +kernel
theorem dX4_drawnLayer_12 : decode cX4_drawnLayer 12 = .ok (.getfield 32, 3) := by decide +kernel
theorem dX4_drawnLayer_15 : decode cX4_drawnLayer 15 = .ok (.astore_n 2, 1) := by decide +kernel
theorem dX4_drawnLayer_16 : decode cX4_drawnLayer 16 = .ok (.aload_n 2, 1) := by decide +kernel
theorem dX4_drawnLayer_17 : decode cX4_drawnLayer 17 = .ok (.aload_n 0, 1) := by decide +kernel
theorem dX4_drawnLayer_18 : decode cX4_drawnLayer 18 = .ok (.getfield 12, 3) := by decide +kernel
theorem dX4_drawnLayer_21 : decode cX4_drawnLayer 21 = .ok (.aload_n 0, 1) := by decide +kernel
theorem dX4_drawnLayer_22 : decode cX4_drawnLayer 22 = .ok (.getfield 19, 3) := by decide +kernel
theorem dX4_drawnLayer_25 : decode cX4_drawnLayer 25 = .ok (.invokevirtual 150, 3) := by decide +kernel
theorem dX4_drawnLayer_28 : decode cX4_drawnLayer 28 = .ok (.aload_n 2, 1) := by decide +kernel
theorem dX4_drawnLayer_29 : decode cX4_drawnLayer 29 = .ok (.areturn, 1) := by decide +kernel
set_option maxRecDepth 20000 in
theorem ggX4_drawBothLayers_X1_draw : GoodIn wsX4_drawBothLayers wsX1_draw := goodIn_r _ [9, 10, 11, 12, 13, 14, 15, 16, 17, 18, 19, 20, 21, 22, 23, 24, 25, 26, 27, 28, 29, 8, 30, 31, 32, 33, 34, 35, 36, 37, 38, 39, 40, 41, 42, 43, 44, 45, 46, 47, 48, 49, 50, 51, 52, 53, 54, 55, 56, 57, 58, 59, 60, 61, 62, 63, 64, 65, 66, 67, 68, 69, 70, 71, 72, 73, 79, 80, 81, 82, 83, 84, 85, 86, 87, 88, 89, 90, 91] (by decide +kernel) (by decide +kernel)
set_option maxRecDepth 20000 in
theorem gX4_drawBothLayers_X1_draw : GoodIn wsX4_drawBothLayers (wsV RX4 150 RX1 yX1_draw wsX1_draw) := goodIn_app (goodIn_of _ (by decide +kernel)) ggX4_drawBothLayers_X1_draw
theorem dX4_drawBothLayers_0 : decode cX4_drawBothLayers 0 = .ok (.aload_n 0, 1) := by decide +kernel
theorem dX4_drawBothLayers_1 : decode cX4_drawBothLayers 1 = .ok (.getfield 28, 3) := by decide +kernel
theorem dX4_drawBothLayers_4 : decode cX4_drawBothLayers 4 = .ok (.aload_n 0, 1) := by decide +kernel
theorem dX4_drawBothLayers_5 : decode cX4_drawBothLayers 5 = .ok (.getfield 12, 3) := by decide +kernel
theorem dX4_drawBothLayers_8 : decode cX4_drawBothLayers 8 = .ok (.aload_n 0, 1) := by decide +kernel
theorem dX4_drawBothLayers_9 : decode cX4_drawBothLayers 9 = .ok (.getfield 19, 3) := by decide +kernel
theorem dX4_drawBothLayers_12 : decode cX4_drawBothLayers 12 = .ok (.invokevirtual 150, 3) := by decide +kernel
theorem dX4_drawBothLayers_15 : decode cX4_drawBothLayers 15 = .ok (.aload_n 0, 1) := by decide +kernel
theorem dX4_drawBothLayers_16 : decode cX4_drawBothLayers 16 = .ok (.getfield 32, 3) := by decide +kernel
theorem dX4_drawBothLayers_19 : decode cX4_drawBothLayers 19 = .ok (.aload_n 0, 1) := by decide +kernel
theorem dX4_drawBothLayers_20 : decode cX4_drawBothLayers 20 = .ok (.getfield 12, 3) := by decide +kernel
theorem dX4_drawBothLayers_23 : decode cX4_drawBothLayers 23 = .ok (.aload_n 0, 1) := by decide +kernel
theorem dX4_drawBothLayers_24 : decode cX4_drawBothLayers 24 = .ok (.getfield 19, 3) := by decide +kernel
theorem dX4_drawBothLayers_27 : decode cX4_drawBothLayers 27 = .ok (.invokevirtual 150, 3) := by decide +kernel
theorem dX4_drawBothLayers_30 : decode cX4_drawBothLayers 30 = .ok (.return_, 1) := by decide +kernel
set_option maxRecDepth 20000 in
theorem ggX4_toneMade_X3_toneOf : GoodIn wsX4_toneMade wsX3_toneOf := goodIn_r _ [9, 10, 25] (by decide +kernel) (by decide +kernel)
set_option maxRecDepth 20000 in
theorem gX4_toneMade_X3_toneOf : GoodIn wsX4_toneMade (wsV RX4 154 RX3 yX3_toneOf wsX3_toneOf) := goodIn_app (goodIn_of _ (by decide +kernel)) ggX4_toneMade_X3_toneOf
theorem dX4_toneMade_0 : decode cX4_toneMade 0 = .ok (.aload_n 0, 1) := by decide +kernel
theorem dX4_toneMade_1 : decode cX4_toneMade 1 = .ok (.getfield 19, 3) := by decide +kernel
theorem dX4_toneMade_4 : decode cX4_toneMade 4 = .ok (.aload_n 0, 1) := by decide +kernel
theorem dX4_toneMade_5 : decode cX4_toneMade 5 = .ok (.getfield 28, 3) := by decide +kernel
theorem dX4_toneMade_8 : decode cX4_toneMade 8 = .ok (.getfield 88, 3) := by decide +kernel
theorem dX4_toneMade_11 : decode cX4_toneMade 11 = .ok (.iload_n 1, 1) := by decide +kernel
theorem dX4_toneMade_12 : decode cX4_toneMade 12 = .ok (.iaload, 1) := by decide +kernel
theorem dX4_toneMade_13 : decode cX4_toneMade 13 = .ok (.aload_n 0, 1) := by decide +kernel
theorem dX4_toneMade_14 : decode cX4_toneMade 14 = .ok (.getfield 32, 3) := by decide +kernel
theorem dX4_toneMade_17 : decode cX4_toneMade 17 = .ok (.getfield 88, 3) := by decide +kernel
theorem dX4_toneMade_20 : decode cX4_toneMade 20 = .ok (.iload_n 1, 1) := by decide +kernel
theorem dX4_toneMade_21 : decode cX4_toneMade 21 = .ok (.iaload, 1) := by decide +kernel
theorem dX4_toneMade_22 : decode cX4_toneMade 22 = .ok (.iadd, 1) := by decide +kernel
theorem dX4_toneMade_23 : decode cX4_toneMade 23 = .ok (.invokevirtual 154, 3) := by decide +kernel
theorem dX4_toneMade_26 : decode cX4_toneMade 26 = .ok (.ireturn, 1) := by decide +kernel
set_option maxRecDepth 20000 in
theorem ggX4_countStrokes_X3_widthFor : GoodIn wsX4_countStrokes wsX3_widthFor := goodIn_r _ [8, 9, 10, 11, 12, 13, 22] (by decide +kernel) (by decide +kernel)
set_option maxRecDepth 20000 in
theorem gX4_countStrokes_X3_widthFor : GoodIn wsX4_countStrokes (wsV RX4 81 RX3 yX3_widthFor wsX3_widthFor) := goodIn_app (goodIn_of _ (by decide +kernel)) ggX4_countStrokes_X3_widthFor
theorem dX4_countStrokes_0 : decode cX4_countStrokes 0 = .ok (.iconst 0, 1) := by decide +kernel
theorem dX4_countStrokes_1 : decode cX4_countStrokes 1 = .ok (.istore_n 2, 1) := by decide +kernel
theorem dX4_countStrokes_2 : decode cX4_countStrokes 2 = .ok (.iconst 0, 1) := by decide +kernel
theorem dX4_countStrokes_3 : decode cX4_countStrokes 3 = .ok (.istore_n 3, 1) := by decide +kernel
theorem dX4_countStrokes_4 : decode cX4_countStrokes 4 = .ok (.iload_n 3, 1) := by decide +kernel
theorem dX4_countStrokes_5 : decode cX4_countStrokes 5 = .ok (.bipush 64, 2) := by decide +kernel
theorem dX4_countStrokes_7 : decode cX4_countStrokes 7 = .ok (.if_icmp .ge 32, 3) := by decide +kernel
theorem dX4_countStrokes_10 : decode cX4_countStrokes 10 = .ok (.aload_n 0, 1) := by decide +kernel
theorem dX4_countStrokes_11 : decode cX4_countStrokes 11 = .ok (.getfield 19, 3) := by decide +kernel
theorem dX4_countStrokes_14 : decode cX4_countStrokes 14 = .ok (.aload_n 0, 1) := by decide +kernel
theorem dX4_countStrokes_15 : decode cX4_countStrokes 15 = .ok (.getfield 12, 3) := by decide +kernel
theorem dX4_countStrokes_18 : decode cX4_countStrokes 18 = .ok (.getfield 54, 3) := by decide +kernel
theorem dX4_countStrokes_21 : decode cX4_countStrokes 21 = .ok (.iload_n 3, 1) := by decide +kernel
theorem dX4_countStrokes_22 : decode cX4_countStrokes 22 = .ok (.iaload, 1) := by decide +kernel
theorem dX4_countStrokes_23 : decode cX4_countStrokes 23 = .ok (.iload_n 1, 1) := by decide +kernel
theorem dX4_countStrokes_24 : decode cX4_countStrokes 24 = .ok (.invokevirtual 81, 3) := by decide +kernel
theorem dX4_countStrokes_27 : decode cX4_countStrokes 27 = .ok (.ifCond .le 6, 3) := by decide +kernel
theorem dX4_countStrokes_30 : decode cX4_countStrokes 30 = .ok (.iinc 2 1, 3) := by decide +kernel
end
section
theorem dX4_countStrokes_33 : decode cX4_countStrokes 33 = .ok (.iinc 3 1, 3) := by decide +kernel
theorem dX4_countStrokes_36 : decode cX4_countStrokes 36 = .ok (.goto (-32), 3) := by decide +kernel
theorem dX4_countStrokes_39 : decode cX4_countStrokes 39 = .ok (.iload_n 2, 1) := by decide +kernel
theorem dX4_countStrokes_40 : decode cX4_countStrokes 40 = .ok (.ireturn, 1) := by decide +kernel
theorem dX5_init_0 : decode cX5_init 0 = .ok (.aload_n 0, 1) := by decide +kernel
theorem dX5_init_1 : decode cX5_init 1 = .ok (.invokespecial 1, 3) := by decide +kernel
theorem dX5_init_4 : decode cX5_init 4 = .ok (.aload_n 0, 1) := by decide +kernel
theorem dX5_init_5 : decode cX5_init 5 = .ok (.bipush 64, 2) := by decide +kernel
theorem dX5_init_7 : decode cX5_init 7 = .ok (.newarray .int, 2) := by decide +kernel
theorem dX5_init_9 : decode cX5_init 9 = .ok (.putfield 7, 3) := by decide +kernel
theorem dX5_init_12 : decode cX5_init 12 = .ok (.aload_n 0, 1) := by decide +kernel
theorem dX5_init_13 : decode cX5_init 13 = .ok (.bipush 64, 2) := by decide +kernel
theorem dX5_init_15 : decode cX5_init 15 = .ok (.newarray .int, 2) := by decide +kernel
theorem dX5_init_17 : decode cX5_init 17 = .ok (.putfield 13, 3) := by decide +kernel
theorem dX5_init_20 : decode cX5_init 20 = .ok (.aload_n 0, 1) := by decide +kernel
theorem dX5_init_21 : decode cX5_init 21 = .ok (.bipush 64, 2) := by decide +kernel
theorem dX5_init_23 : decode cX5_init 23 = .ok (.newarray .boolean, 2) := by decide +kernel
theorem dX5_init_25 : decode cX5_init 25 = .ok (.putfield 16, 3) := by decide +kernel
theorem dX5_init_28 : decode cX5_init 28 = .ok (.aload_n 0, 1) := by decide +kernel
theorem dX5_init_29 : decode cX5_init 29 = .ok (.bipush 10, 2) := by decide +kernel
theorem dX5_init_31 : decode cX5_init 31 = .ok (.putfield 20, 3) := by decide +kernel
theorem dX5_init_34 : decode cX5_init 34 = .ok (.aload_n 0, 1) := by decide +kernel
theorem dX5_init_35 : decode cX5_init 35 = .ok (.bipush 60, 2) := by decide +kernel
theorem dX5_init_37 : decode cX5_init 37 = .ok (.putfield 24, 3) := by decide +kernel
theorem dX5_init_40 : decode cX5_init 40 = .ok (.aload_n 0, 1) := by decide +kernel
theorem dX5_init_41 : decode cX5_init 41 = .ok (.iconst 1, 1) := by decide +kernel
theorem dX5_init_42 : decode cX5_init 42 = .ok (.putfield 27, 3) := by decide +kernel
theorem dX5_init_45 : decode cX5_init 45 = .ok (.aload_n 0, 1) := by decide +kernel
theorem dX5_init_46 : decode cX5_init 46 = .ok (.bipush 40, 2) := by decide +kernel
theorem dX5_init_48 : decode cX5_init 48 = .ok (.putfield 30, 3) := by decide +kernel
theorem dX5_init_51 : decode cX5_init 51 = .ok (.aload_n 0, 1) := by decide +kernel
theorem dX5_init_52 : decode cX5_init 52 = .ok (.bipush 64, 2) := by decide +kernel
theorem dX5_init_54 : decode cX5_init 54 = .ok (.newarray .int, 2) := by decide +kernel
theorem dX5_init_56 : decode cX5_init 56 = .ok (.putfield 33, 3) := by decide +kernel
theorem dX5_init_59 : decode cX5_init 59 = .ok (.aload_n 0, 1) := by decide +kernel
theorem dX5_init_60 : decode cX5_init 60 = .ok (.bipush 64, 2) := by decide +kernel
theorem dX5_init_62 : decode cX5_init 62 = .ok (.newarray .int, 2) := by decide +kernel
theorem dX5_init_64 : decode cX5_init 64 = .ok (.putfield 36, 3) := by decide +kernel
theorem dX5_init_67 : decode cX5_init 67 = .ok (.aload_n 0, 1) := by decide +kernel
theorem dX5_init_68 : decode cX5_init 68 = .ok (.bipush 64, 2) := by decide +kernel
theorem dX5_init_70 : decode cX5_init 70 = .ok (.newarray .int, 2) := by decide +kernel
theorem dX5_init_72 : decode cX5_init 72 = .ok (.putfield 39, 3) := by decide +kernel
theorem dX5_init_75 : decode cX5_init 75 = .ok (.aload_n 0, 1) := by decide +kernel
theorem dX5_init_76 : decode cX5_init 76 = .ok (.bipush 64, 2) := by decide +kernel
theorem dX5_init_78 : decode cX5_init 78 = .ok (.newarray .int, 2) := by decide +kernel
theorem dX5_init_80 : decode cX5_init 80 = .ok (.putfield 42, 3) := by decide +kernel
theorem dX5_init_83 : decode cX5_init 83 = .ok (.aload_n 0, 1) := by decide +kernel
theorem dX5_init_84 : decode cX5_init 84 = .ok (.bipush 64, 2) := by decide +kernel
theorem dX5_init_86 : decode cX5_init 86 = .ok (.newarray .int, 2) := by decide +kernel
theorem dX5_init_88 : decode cX5_init 88 = .ok (.putfield 45, 3) := by decide +kernel
theorem dX5_init_91 : decode cX5_init 91 = .ok (.aload_n 0, 1) := by decide +kernel
theorem dX5_init_92 : decode cX5_init 92 = .ok (.bipush 64, 2) := by decide +kernel
theorem dX5_init_94 : decode cX5_init 94 = .ok (.newarray .int, 2) := by decide +kernel
theorem dX5_init_96 : decode cX5_init 96 = .ok (.putfield 48, 3) := by decide +kernel
theorem dX5_init_99 : decode cX5_init 99 = .ok (.aload_n 0, 1) := by decide +kernel
theorem dX5_init_100 : decode cX5_init 100 = .ok (.bipush 64, 2) := by decide +kernel
theorem dX5_init_102 : decode cX5_init 102 = .ok (.newarray .int, 2) := by decide +kernel
theorem dX5_init_104 : decode cX5_init 104 = .ok (.putfield 51, 3) := by decide +kernel
theorem dX5_init_107 : decode cX5_init 107 = .ok (.return_, 1) := by decide +kernel
theorem dX5_in_0 : decode cX5_in 0 = .ok (.iload_n 0, 1) := by decide +kernel
theorem dX5_in_1 : decode cX5_in 1 = .ok (.iload_n 1, 1) := by decide +kernel
theorem dX5_in_2 : decode cX5_in 2 = .ok (.if_icmp .lt 12, 3) := by decide +kernel
theorem dX5_in_5 : decode cX5_in 5 = .ok (.iload_n 0, 1) := by decide +kernel
theorem dX5_in_6 : decode cX5_in 6 = .ok (.iload_n 2, 1) := by decide +kernel
theorem dX5_in_7 : decode cX5_in 7 = .ok (.if_icmp .gt 7, 3) := by decide +kernel
theorem dX5_in_10 : decode cX5_in 10 = .ok (.iconst 1, 1) := by decide +kernel
theorem dX5_in_11 : decode cX5_in 11 = .ok (.goto 4, 3) := by decide +kernel
theorem dX5_in_14 : decode cX5_in 14 = .ok (.iconst 0, 1) := by decide +kernel
theorem dX5_in_15 : decode cX5_in 15 = .ok (.ireturn, 1) := by decide +kernel
set_option maxRecDepth 20000 in
theorem ggX5_isCell_X5_in : GoodIn wsX5_isCell wsX5_in := goodIn_r _ [4] (by decide +kernel) (by decide +kernel)
set_option maxRecDepth 20000 in
theorem gX5_isCell_X5_in : GoodIn wsX5_isCell (va_wsS RX5 54 yX5_in wsX5_in) := goodIn_app (goodIn_of _ (by decide +kernel)) ggX5_isCell_X5_in
theorem dX5_isCell_0 : decode cX5_isCell 0 = .ok (.iload_n 0, 1) := by decide +kernel
theorem dX5_isCell_1 : decode cX5_isCell 1 = .ok (.iconst 0, 1) := by decide +kernel
theorem dX5_isCell_2 : decode cX5_isCell 2 = .ok (.bipush 7, 2) := by decide +kernel
theorem dX5_isCell_4 : decode cX5_isCell 4 = .ok (.invokestatic 54, 3) := by decide +kernel
theorem dX5_isCell_7 : decode cX5_isCell 7 = .ok (.ifCond .eq 17, 3) := by decide +kernel
theorem dX5_isCell_10 : decode cX5_isCell 10 = .ok (.iload_n 1, 1) := by decide +kernel
theorem dX5_isCell_11 : decode cX5_isCell 11 = .ok (.iconst 0, 1) := by decide +kernel
theorem dX5_isCell_12 : decode cX5_isCell 12 = .ok (.bipush 7, 2) := by decide +kernel
theorem dX5_isCell_14 : decode cX5_isCell 14 = .ok (.invokestatic 54, 3) := by decide +kernel
theorem dX5_isCell_17 : decode cX5_isCell 17 = .ok (.ifCond .eq 7, 3) := by decide +kernel
theorem dX5_isCell_20 : decode cX5_isCell 20 = .ok (.iconst 1, 1) := by decide +kernel
theorem dX5_isCell_21 : decode cX5_isCell 21 = .ok (.goto 4, 3) := by decide +kernel
theorem dX5_isCell_24 : decode cX5_isCell 24 = .ok (.iconst 0, 1) := by decide +kernel
theorem dX5_isCell_25 : decode cX5_isCell 25 = .ok (.ireturn, 1) := by decide +kernel
theorem dX5_less_0 : decode cX5_less 0 = .ok (.iload_n 0, 1) := by decide +kernel
theorem dX5_less_1 : decode cX5_less 1 = .ok (.iload_n 1, 1) := by decide +kernel
theorem dX5_less_2 : decode cX5_less 2 = .ok (.if_icmp .ge 7, 3) := by decide +kernel
theorem dX5_less_5 : decode cX5_less 5 = .ok (.iload_n 0, 1) := by decide +kernel
theorem dX5_less_6 : decode cX5_less 6 = .ok (.goto 4, 3) := by decide +kernel
theorem dX5_less_9 : decode cX5_less 9 = .ok (.iload_n 1, 1) := by decide +kernel
theorem dX5_less_10 : decode cX5_less 10 = .ok (.ireturn, 1) := by decide +kernel
theorem dX5_more_0 : decode cX5_more 0 = .ok (.iload_n 0, 1) := by decide +kernel
theorem dX5_more_1 : decode cX5_more 1 = .ok (.iload_n 1, 1) := by decide +kernel
theorem dX5_more_2 : decode cX5_more 2 = .ok (.if_icmp .le 7, 3) := by decide +kernel
theorem dX5_more_5 : decode cX5_more 5 = .ok (.iload_n 0, 1) := by decide +kernel
theorem dX5_more_6 : decode cX5_more 6 = .ok (.goto 4, 3) := by decide +kernel
theorem dX5_more_9 : decode cX5_more 9 = .ok (.iload_n 1, 1) := by decide +kernel
theorem dX5_more_10 : decode cX5_more 10 = .ok (.ireturn, 1) := by decide +kernel
theorem dX5_size_0 : decode cX5_size 0 = .ok (.iload_n 0, 1) := by decide +kernel
theorem dX5_size_1 : decode cX5_size 1 = .ok (.ifCond .ge 8, 3) := by decide +kernel
theorem dX5_size_4 : decode cX5_size 4 = .ok (.iload_n 0, 1) := by decide +kernel
theorem dX5_size_5 : decode cX5_size 5 = .ok (.ineg, 1) := by decide +kernel
theorem dX5_size_6 : decode cX5_size 6 = .ok (.goto 4, 3) := by decide +kernel
theorem dX5_size_9 : decode cX5_size 9 = .ok (.iload_n 0, 1) := by decide +kernel
theorem dX5_size_10 : decode cX5_size 10 = .ok (.ireturn, 1) := by decide +kernel
set_option maxRecDepth 20000 in
theorem ggX5_tone_X5_isCell : GoodIn wsX5_tone wsX5_isCell := goodIn_r _ [5, 6, 7, 4, 8] (by decide +kernel) (by decide +kernel)
set_option maxRecDepth 20000 in
theorem gX5_tone_X5_isCell : GoodIn wsX5_tone (va_wsS RX5 58 yX5_isCell wsX5_isCell) := goodIn_app (goodIn_of _ (by decide +kernel)) ggX5_tone_X5_isCell
set_option maxRecDepth 20000 in
theorem ggX5_tone_X5_in : GoodIn wsX5_tone wsX5_in := goodIn_r _ [8] (by decide +kernel) (by decide +kernel)
set_option maxRecDepth 20000 in
theorem gX5_tone_X5_in : GoodIn wsX5_tone (va_wsS RX5 54 yX5_in wsX5_in) := goodIn_app (goodIn_of _ (by decide +kernel)) ggX5_tone_X5_in
theorem dX5_tone_0 : decode cX5_tone 0 = .ok (.iload_n 1, 1) := by decide +kernel
theorem dX5_tone_1 : decode cX5_tone 1 = .ok (.iload_n 2, 1) := by decide +kernel
theorem dX5_tone_2 : decode cX5_tone 2 = .ok (.invokestatic 58, 3) := by decide +kernel
theorem dX5_tone_5 : decode cX5_tone 5 = .ok (.ifCond .ne 6, 3) := by decide +kernel
theorem dX5_tone_8 : decode cX5_tone 8 = .ok (.bipush (-2), 2) := by decide +kernel
theorem dX5_tone_10 : decode cX5_tone 10 = .ok (.ireturn, 1) := by decide +kernel
theorem dX5_tone_11 : decode cX5_tone 11 = .ok (.iload_n 3, 1) := by decide +kernel
theorem dX5_tone_12 : decode cX5_tone 12 = .ok (.iconst 0, 1) := by decide +kernel
theorem dX5_tone_13 : decode cX5_tone 13 = .ok (.bipush 100, 2) := by decide +kernel
theorem dX5_tone_15 : decode cX5_tone 15 = .ok (.invokestatic 54, 3) := by decide +kernel
theorem dX5_tone_18 : decode cX5_tone 18 = .ok (.ifCond .ne 6, 3) := by decide +kernel
theorem dX5_tone_21 : decode cX5_tone 21 = .ok (.bipush (-3), 2) := by decide +kernel
theorem dX5_tone_23 : decode cX5_tone 23 = .ok (.ireturn, 1) := by decide +kernel
theorem dX5_tone_24 : decode cX5_tone 24 = .ok (.aload_n 0, 1) := by decide +kernel
theorem dX5_tone_25 : decode cX5_tone 25 = .ok (.getfield 7, 3) := by decide +kernel
theorem dX5_tone_28 : decode cX5_tone 28 = .ok (.bipush 8, 2) := by decide +kernel
theorem dX5_tone_30 : decode cX5_tone 30 = .ok (.iload_n 2, 1) := by decide +kernel
theorem dX5_tone_31 : decode cX5_tone 31 = .ok (.imul, 1) := by decide +kernel
theorem dX5_tone_32 : decode cX5_tone 32 = .ok (.iload_n 1, 1) := by decide +kernel
theorem dX5_tone_33 : decode cX5_tone 33 = .ok (.iadd, 1) := by decide +kernel
theorem dX5_tone_34 : decode cX5_tone 34 = .ok (.iaload, 1) := by decide +kernel
theorem dX5_tone_35 : decode cX5_tone 35 = .ok (.istore 4, 2) := by decide +kernel
theorem dX5_tone_37 : decode cX5_tone 37 = .ok (.aload_n 0, 1) := by decide +kernel
theorem dX5_tone_38 : decode cX5_tone 38 = .ok (.getfield 7, 3) := by decide +kernel
theorem dX5_tone_41 : decode cX5_tone 41 = .ok (.bipush 8, 2) := by decide +kernel
theorem dX5_tone_43 : decode cX5_tone 43 = .ok (.iload_n 2, 1) := by decide +kernel
theorem dX5_tone_44 : decode cX5_tone 44 = .ok (.imul, 1) := by decide +kernel
theorem dX5_tone_45 : decode cX5_tone 45 = .ok (.iload_n 1, 1) := by decide +kernel
theorem dX5_tone_46 : decode cX5_tone 46 = .ok (.iadd, 1) := by decide +kernel
theorem dX5_tone_47 : decode cX5_tone 47 = .ok (.iload_n 3, 1) := by decide +kernel
theorem dX5_tone_48 : decode cX5_tone 48 = .ok (.iastore, 1) := by decide +kernel
theorem dX5_tone_49 : decode cX5_tone 49 = .ok (.iload 4, 2) := by decide +kernel
theorem dX5_tone_51 : decode cX5_tone 51 = .ok (.ireturn, 1) := by decide +kernel
set_option maxRecDepth 20000 in
theorem ggX5_shade_X5_isCell : GoodIn wsX5_shade wsX5_isCell := goodIn_r _ [5, 6, 7, 4, 8] (by decide +kernel) (by decide +kernel)
set_option maxRecDepth 20000 in
theorem gX5_shade_X5_isCell : GoodIn wsX5_shade (va_wsS RX5 58 yX5_isCell wsX5_isCell) := goodIn_app (goodIn_of _ (by decide +kernel)) ggX5_shade_X5_isCell
set_option maxRecDepth 20000 in
theorem ggX5_shade_X5_in : GoodIn wsX5_shade wsX5_in := goodIn_r _ [8] (by decide +kernel) (by decide +kernel)
set_option maxRecDepth 20000 in
theorem gX5_shade_X5_in : GoodIn wsX5_shade (va_wsS RX5 54 yX5_in wsX5_in) := goodIn_app (goodIn_of _ (by decide +kernel)) ggX5_shade_X5_in
theorem dX5_shade_0 : decode cX5_shade 0 = .ok (.iload_n 1, 1) := by decide +kernel
theorem dX5_shade_1 : decode cX5_shade 1 = .ok (.iload_n 2, 1) := by decide +kernel
theorem dX5_shade_2 : decode cX5_shade 2 = .ok (.invokestatic 58, 3) := by decide +kernel
theorem dX5_shade_5 : decode cX5_shade 5 = .ok (.ifCond .eq 12, 3) := by decide +kernel
theorem dX5_shade_8 : decode cX5_shade 8 = .ok (.iload_n 3, 1) := by decide +kernel
theorem dX5_shade_9 : decode cX5_shade 9 = .ok (.iload 4, 2) := by decide +kernel
theorem dX5_shade_11 : decode cX5_shade 11 = .ok (.invokestatic 58, 3) := by decide +kernel
theorem dX5_shade_14 : decode cX5_shade 14 = .ok (.ifCond .ne 6, 3) := by decide +kernel
theorem dX5_shade_17 : decode cX5_shade 17 = .ok (.bipush (-2), 2) := by decide +kernel
theorem dX5_shade_19 : decode cX5_shade 19 = .ok (.ireturn, 1) := by decide +kernel
theorem dX5_shade_20 : decode cX5_shade 20 = .ok (.iload 5, 2) := by decide +kernel
theorem dX5_shade_22 : decode cX5_shade 22 = .ok (.iconst 0, 1) := by decide +kernel
theorem dX5_shade_23 : decode cX5_shade 23 = .ok (.bipush 100, 2) := by decide +kernel
theorem dX5_shade_25 : decode cX5_shade 25 = .ok (.invokestatic 54, 3) := by decide +kernel
theorem dX5_shade_28 : decode cX5_shade 28 = .ok (.ifCond .eq 14, 3) := by decide +kernel
theorem dX5_shade_31 : decode cX5_shade 31 = .ok (.iload_n 1, 1) := by decide +kernel
theorem dX5_shade_32 : decode cX5_shade 32 = .ok (.iload_n 3, 1) := by decide +kernel
theorem dX5_shade_33 : decode cX5_shade 33 = .ok (.if_icmp .gt 9, 3) := by decide +kernel
theorem dX5_shade_36 : decode cX5_shade 36 = .ok (.iload_n 2, 1) := by decide +kernel
theorem dX5_shade_37 : decode cX5_shade 37 = .ok (.iload 4, 2) := by decide +kernel
theorem dX5_shade_39 : decode cX5_shade 39 = .ok (.if_icmp .le 6, 3) := by decide +kernel
theorem dX5_shade_42 : decode cX5_shade 42 = .ok (.bipush (-3), 2) := by decide +kernel
theorem dX5_shade_44 : decode cX5_shade 44 = .ok (.ireturn, 1) := by decide +kernel
theorem dX5_shade_45 : decode cX5_shade 45 = .ok (.iconst 0, 1) := by decide +kernel
theorem dX5_shade_46 : decode cX5_shade 46 = .ok (.istore 6, 2) := by decide +kernel
theorem dX5_shade_48 : decode cX5_shade 48 = .ok (.iload_n 2, 1) := by decide +kernel
theorem dX5_shade_49 : decode cX5_shade 49 = .ok (.istore 7, 2) := by decide +kernel
theorem dX5_shade_51 : decode cX5_shade 51 = .ok (.iload 7, 2) := by decide +kernel
theorem dX5_shade_53 : decode cX5_shade 53 = .ok (.iload 4, 2) := by decide +kernel
theorem dX5_shade_55 : decode cX5_shade 55 = .ok (.if_icmp .gt 67, 3) := by decide +kernel
theorem dX5_shade_58 : decode cX5_shade 58 = .ok (.iload_n 1, 1) := by decide +kernel
theorem dX5_shade_59 : decode cX5_shade 59 = .ok (.istore 8, 2) := by decide +kernel
theorem dX5_shade_61 : decode cX5_shade 61 = .ok (.iload 8, 2) := by decide +kernel
theorem dX5_shade_63 : decode cX5_shade 63 = .ok (.iload_n 3, 1) := by decide +kernel
theorem dX5_shade_64 : decode cX5_shade 64 = .ok (.if_icmp .gt 52, 3) := by decide +kernel
theorem dX5_shade_67 : decode cX5_shade 67 = .ok (.iload 6, 2) := by decide +kernel
theorem dX5_shade_69 : decode cX5_shade 69 = .ok (.aload_n 0, 1) := by decide +kernel
theorem dX5_shade_70 : decode cX5_shade 70 = .ok (.getfield 7, 3) := by decide +kernel
theorem dX5_shade_73 : decode cX5_shade 73 = .ok (.bipush 8, 2) := by decide +kernel
theorem dX5_shade_75 : decode cX5_shade 75 = .ok (.iload 7, 2) := by decide +kernel
theorem dX5_shade_77 : decode cX5_shade 77 = .ok (.imul, 1) := by decide +kernel
theorem dX5_shade_78 : decode cX5_shade 78 = .ok (.iload 8, 2) := by decide +kernel
theorem dX5_shade_80 : decode cX5_shade 80 = .ok (.iadd, 1) := by decide +kernel
theorem dX5_shade_81 : decode cX5_shade 81 = .ok (.iaload, 1) := by decide +kernel
theorem dX5_shade_82 : decode cX5_shade 82 = .ok (.iload 5, 2) := by decide +kernel
theorem dX5_shade_84 : decode cX5_shade 84 = .ok (.if_icmp .eq 7, 3) := by decide +kernel
theorem dX5_shade_87 : decode cX5_shade 87 = .ok (.iconst 1, 1) := by decide +kernel
theorem dX5_shade_88 : decode cX5_shade 88 = .ok (.goto 4, 3) := by decide +kernel
theorem dX5_shade_91 : decode cX5_shade 91 = .ok (.iconst 0, 1) := by decide +kernel
theorem dX5_shade_92 : decode cX5_shade 92 = .ok (.iadd, 1) := by decide +kernel
theorem dX5_shade_93 : decode cX5_shade 93 = .ok (.istore 6, 2) := by decide +kernel
theorem dX5_shade_95 : decode cX5_shade 95 = .ok (.aload_n 0, 1) := by decide +kernel
theorem dX5_shade_96 : decode cX5_shade 96 = .ok (.getfield 7, 3) := by decide +kernel
theorem dX5_shade_99 : decode cX5_shade 99 = .ok (.bipush 8, 2) := by decide +kernel
theorem dX5_shade_101 : decode cX5_shade 101 = .ok (.iload 7, 2) := by decide +kernel
theorem dX5_shade_103 : decode cX5_shade 103 = .ok (.imul, 1) := by decide +kernel
theorem dX5_shade_104 : decode cX5_shade 104 = .ok (.iload 8, 2) := by decide +kernel
theorem dX5_shade_106 : decode cX5_shade 106 = .ok (.iadd, 1) := by decide +kernel
theorem dX5_shade_107 : decode cX5_shade 107 = .ok (.iload 5, 2) := by decide +kernel
theorem dX5_shade_109 : decode cX5_shade 109 = .ok (.iastore, 1) := by decide +kernel
theorem dX5_shade_110 : decode cX5_shade 110 = .ok (.iinc 8 1, 3) := by decide +kernel
theorem dX5_shade_113 : decode cX5_shade 113 = .ok (.goto (-52), 3) := by decide +kernel
theorem dX5_shade_116 : decode cX5_shade 116 = .ok (.iinc 7 1, 3) := by decide +kernel
theorem dX5_shade_119 : decode cX5_shade 119 = .ok (.goto (-68), 3) := by decide +kernel
theorem dX5_shade_122 : decode cX5_shade 122 = .ok (.iload 6, 2) := by decide +kernel
theorem dX5_shade_124 : decode cX5_shade 124 = .ok (.ireturn, 1) := by decide +kernel
set_option maxRecDepth 20000 in
theorem ggX5_tell_X5_isCell : GoodIn wsX5_tell wsX5_isCell := goodIn_r _ [6, 7, 8, 5, 9] (by decide +kernel) (by decide +kernel)
set_option maxRecDepth 20000 in
theorem gX5_tell_X5_isCell : GoodIn wsX5_tell (va_wsS RX5 58 yX5_isCell wsX5_isCell) := goodIn_app (goodIn_of _ (by decide +kernel)) ggX5_tell_X5_isCell
set_option maxRecDepth 20000 in
theorem ggX5_tell_X5_in : GoodIn wsX5_tell wsX5_in := goodIn_r _ [9] (by decide +kernel) (by decide +kernel)
set_option maxRecDepth 20000 in
theorem gX5_tell_X5_in : GoodIn wsX5_tell (va_wsS RX5 54 yX5_in wsX5_in) := goodIn_app (goodIn_of _ (by decide +kernel)) ggX5_tell_X5_in
theorem dX5_tell_0 : decode cX5_tell 0 = .ok (.iload_n 1, 1) := by decide +kernel
theorem dX5_tell_1 : decode cX5_tell 1 = .ok (.iload_n 2, 1) := by decide +kernel
theorem dX5_tell_2 : decode cX5_tell 2 = .ok (.invokestatic 58, 3) := by decide +kernel
theorem dX5_tell_5 : decode cX5_tell 5 = .ok (.ifCond .ne 6, 3) := by decide +kernel
theorem dX5_tell_8 : decode cX5_tell 8 = .ok (.bipush (-2), 2) := by decide +kernel
theorem dX5_tell_10 : decode cX5_tell 10 = .ok (.ireturn, 1) := by decide +kernel
theorem dX5_tell_11 : decode cX5_tell 11 = .ok (.iload_n 3, 1) := by decide +kernel
theorem dX5_tell_12 : decode cX5_tell 12 = .ok (.iconst 0, 1) := by decide +kernel
theorem dX5_tell_13 : decode cX5_tell 13 = .ok (.bipush 7, 2) := by decide +kernel
theorem dX5_tell_15 : decode cX5_tell 15 = .ok (.invokestatic 54, 3) := by decide +kernel
theorem dX5_tell_18 : decode cX5_tell 18 = .ok (.ifCond .ne 6, 3) := by decide +kernel
theorem dX5_tell_21 : decode cX5_tell 21 = .ok (.bipush (-3), 2) := by decide +kernel
theorem dX5_tell_23 : decode cX5_tell 23 = .ok (.ireturn, 1) := by decide +kernel
theorem dX5_tell_24 : decode cX5_tell 24 = .ok (.aload_n 0, 1) := by decide +kernel
theorem dX5_tell_25 : decode cX5_tell 25 = .ok (.getfield 13, 3) := by decide +kernel
theorem dX5_tell_28 : decode cX5_tell 28 = .ok (.bipush 8, 2) := by decide +kernel
theorem dX5_tell_30 : decode cX5_tell 30 = .ok (.iload_n 2, 1) := by decide +kernel
theorem dX5_tell_31 : decode cX5_tell 31 = .ok (.imul, 1) := by decide +kernel
theorem dX5_tell_32 : decode cX5_tell 32 = .ok (.iload_n 1, 1) := by decide +kernel
theorem dX5_tell_33 : decode cX5_tell 33 = .ok (.iadd, 1) := by decide +kernel
theorem dX5_tell_34 : decode cX5_tell 34 = .ok (.iaload, 1) := by decide +kernel
theorem dX5_tell_35 : decode cX5_tell 35 = .ok (.istore 4, 2) := by decide +kernel
theorem dX5_tell_37 : decode cX5_tell 37 = .ok (.aload_n 0, 1) := by decide +kernel
theorem dX5_tell_38 : decode cX5_tell 38 = .ok (.getfield 13, 3) := by decide +kernel
theorem dX5_tell_41 : decode cX5_tell 41 = .ok (.bipush 8, 2) := by decide +kernel
theorem dX5_tell_43 : decode cX5_tell 43 = .ok (.iload_n 2, 1) := by decide +kernel
theorem dX5_tell_44 : decode cX5_tell 44 = .ok (.imul, 1) := by decide +kernel
theorem dX5_tell_45 : decode cX5_tell 45 = .ok (.iload_n 1, 1) := by decide +kernel
theorem dX5_tell_46 : decode cX5_tell 46 = .ok (.iadd, 1) := by decide +kernel
theorem dX5_tell_47 : decode cX5_tell 47 = .ok (.iload_n 3, 1) := by decide +kernel
theorem dX5_tell_48 : decode cX5_tell 48 = .ok (.iastore, 1) := by decide +kernel
theorem dX5_tell_49 : decode cX5_tell 49 = .ok (.aload_n 0, 1) := by decide +kernel
theorem dX5_tell_50 : decode cX5_tell 50 = .ok (.getfield 16, 3) := by decide +kernel
theorem dX5_tell_53 : decode cX5_tell 53 = .ok (.bipush 8, 2) := by decide +kernel
theorem dX5_tell_55 : decode cX5_tell 55 = .ok (.iload_n 2, 1) := by decide +kernel
theorem dX5_tell_56 : decode cX5_tell 56 = .ok (.imul, 1) := by decide +kernel
theorem dX5_tell_57 : decode cX5_tell 57 = .ok (.iload_n 1, 1) := by decide +kernel
theorem dX5_tell_58 : decode cX5_tell 58 = .ok (.iadd, 1) := by decide +kernel
theorem dX5_tell_59 : decode cX5_tell 59 = .ok (.iconst 1, 1) := by decide +kernel
theorem dX5_tell_60 : decode cX5_tell 60 = .ok (.bastore, 1) := by decide +kernel
theorem dX5_tell_61 : decode cX5_tell 61 = .ok (.iload 4, 2) := by decide +kernel
theorem dX5_tell_63 : decode cX5_tell 63 = .ok (.ireturn, 1) := by decide +kernel
set_option maxRecDepth 20000 in
theorem ggX5_free_X5_isCell : GoodIn wsX5_free wsX5_isCell := goodIn_r _ [5, 6, 7, 4, 8] (by decide +kernel) (by decide +kernel)
set_option maxRecDepth 20000 in
theorem gX5_free_X5_isCell : GoodIn wsX5_free (va_wsS RX5 58 yX5_isCell wsX5_isCell) := goodIn_app (goodIn_of _ (by decide +kernel)) ggX5_free_X5_isCell
theorem dX5_free_0 : decode cX5_free 0 = .ok (.iload_n 1, 1) := by decide +kernel
theorem dX5_free_1 : decode cX5_free 1 = .ok (.iload_n 2, 1) := by decide +kernel
theorem dX5_free_2 : decode cX5_free 2 = .ok (.invokestatic 58, 3) := by decide +kernel
theorem dX5_free_5 : decode cX5_free 5 = .ok (.ifCond .ne 6, 3) := by decide +kernel
theorem dX5_free_8 : decode cX5_free 8 = .ok (.bipush (-2), 2) := by decide +kernel
theorem dX5_free_10 : decode cX5_free 10 = .ok (.ireturn, 1) := by decide +kernel
theorem dX5_free_11 : decode cX5_free 11 = .ok (.aload_n 0, 1) := by decide +kernel
theorem dX5_free_12 : decode cX5_free 12 = .ok (.getfield 16, 3) := by decide +kernel
theorem dX5_free_15 : decode cX5_free 15 = .ok (.bipush 8, 2) := by decide +kernel
theorem dX5_free_17 : decode cX5_free 17 = .ok (.iload_n 2, 1) := by decide +kernel
theorem dX5_free_18 : decode cX5_free 18 = .ok (.imul, 1) := by decide +kernel
theorem dX5_free_19 : decode cX5_free 19 = .ok (.iload_n 1, 1) := by decide +kernel
theorem dX5_free_20 : decode cX5_free 20 = .ok (.iadd, 1) := by decide +kernel
theorem dX5_free_21 : decode cX5_free 21 = .ok (.baload, 1) := by decide +kernel
theorem dX5_free_22 : decode cX5_free 22 = .ok (.ifCond .ne 6, 3) := by decide +kernel
theorem dX5_free_25 : decode cX5_free 25 = .ok (.bipush (-4), 2) := by decide +kernel
theorem dX5_free_27 : decode cX5_free 27 = .ok (.ireturn, 1) := by decide +kernel
theorem dX5_free_28 : decode cX5_free 28 = .ok (.aload_n 0, 1) := by decide +kernel
theorem dX5_free_29 : decode cX5_free 29 = .ok (.getfield 16, 3) := by decide +kernel
theorem dX5_free_32 : decode cX5_free 32 = .ok (.bipush 8, 2) := by decide +kernel
theorem dX5_free_34 : decode cX5_free 34 = .ok (.iload_n 2, 1) := by decide +kernel
theorem dX5_free_35 : decode cX5_free 35 = .ok (.imul, 1) := by decide +kernel
theorem dX5_free_36 : decode cX5_free 36 = .ok (.iload_n 1, 1) := by decide +kernel
theorem dX5_free_37 : decode cX5_free 37 = .ok (.iadd, 1) := by decide +kernel
theorem dX5_free_38 : decode cX5_free 38 = .ok (.iconst 0, 1) := by decide +kernel
theorem dX5_free_39 : decode cX5_free 39 = .ok (.bastore, 1) := by decide +kernel
theorem dX5_free_40 : decode cX5_free 40 = .ok (.iconst 1, 1) := by decide +kernel
theorem dX5_free_41 : decode cX5_free 41 = .ok (.ireturn, 1) := by decide +kernel
set_option maxRecDepth 20000 in
theorem ggX5_off_X5_isCell : GoodIn wsX5_off wsX5_isCell := goodIn_r _ [5, 6, 7, 4, 8] (by decide +kernel) (by decide +kernel)
set_option maxRecDepth 20000 in
theorem gX5_off_X5_isCell : GoodIn wsX5_off (va_wsS RX5 58 yX5_isCell wsX5_isCell) := goodIn_app (goodIn_of _ (by decide +kernel)) ggX5_off_X5_isCell
set_option maxRecDepth 20000 in
theorem ggX5_off_X5_size : GoodIn wsX5_off wsX5_size := goodIn_r _ [11] (by decide +kernel) (by decide +kernel)
set_option maxRecDepth 20000 in
theorem gX5_off_X5_size : GoodIn wsX5_off (va_wsS RX5 62 yX5_size wsX5_size) := goodIn_app (goodIn_of _ (by decide +kernel)) ggX5_off_X5_size
set_option maxRecDepth 20000 in
theorem ggX5_off_X5_less : GoodIn wsX5_off wsX5_less := goodIn_r _ [14] (by decide +kernel) (by decide +kernel)
set_option maxRecDepth 20000 in
theorem gX5_off_X5_less : GoodIn wsX5_off (va_wsS RX5 65 yX5_less wsX5_less) := goodIn_app (goodIn_of _ (by decide +kernel)) ggX5_off_X5_less
theorem dX5_off_0 : decode cX5_off 0 = .ok (.iload_n 1, 1) := by decide +kernel
theorem dX5_off_1 : decode cX5_off 1 = .ok (.iload_n 2, 1) := by decide +kernel
theorem dX5_off_2 : decode cX5_off 2 = .ok (.invokestatic 58, 3) := by decide +kernel
theorem dX5_off_5 : decode cX5_off 5 = .ok (.ifCond .ne 5, 3) := by decide +kernel
theorem dX5_off_8 : decode cX5_off 8 = .ok (.iconst 0, 1) := by decide +kernel
theorem dX5_off_9 : decode cX5_off 9 = .ok (.ireturn, 1) := by decide +kernel
theorem dX5_off_10 : decode cX5_off 10 = .ok (.aload_n 0, 1) := by decide +kernel
theorem dX5_off_11 : decode cX5_off 11 = .ok (.getfield 13, 3) := by decide +kernel
theorem dX5_off_14 : decode cX5_off 14 = .ok (.bipush 8, 2) := by decide +kernel
theorem dX5_off_16 : decode cX5_off 16 = .ok (.iload_n 2, 1) := by decide +kernel
theorem dX5_off_17 : decode cX5_off 17 = .ok (.imul, 1) := by decide +kernel
theorem dX5_off_18 : decode cX5_off 18 = .ok (.iload_n 1, 1) := by decide +kernel
theorem dX5_off_19 : decode cX5_off 19 = .ok (.iadd, 1) := by decide +kernel
theorem dX5_off_20 : decode cX5_off 20 = .ok (.iaload, 1) := by decide +kernel
theorem dX5_off_21 : decode cX5_off 21 = .ok (.iload_n 3, 1) := by decide +kernel
theorem dX5_off_22 : decode cX5_off 22 = .ok (.isub, 1) := by decide +kernel
theorem dX5_off_23 : decode cX5_off 23 = .ok (.invokestatic 62, 3) := by decide +kernel
theorem dX5_off_26 : decode cX5_off 26 = .ok (.istore 4, 2) := by decide +kernel
theorem dX5_off_28 : decode cX5_off 28 = .ok (.iload 4, 2) := by decide +kernel
theorem dX5_off_30 : decode cX5_off 30 = .ok (.bipush 8, 2) := by decide +kernel
theorem dX5_off_32 : decode cX5_off 32 = .ok (.iload 4, 2) := by decide +kernel
theorem dX5_off_34 : decode cX5_off 34 = .ok (.isub, 1) := by decide +kernel
theorem dX5_off_35 : decode cX5_off 35 = .ok (.invokestatic 65, 3) := by decide +kernel
theorem dX5_off_38 : decode cX5_off 38 = .ok (.istore 4, 2) := by decide +kernel
theorem dX5_off_40 : decode cX5_off 40 = .ok (.iload 4, 2) := by decide +kernel
theorem dX5_off_42 : decode cX5_off 42 = .ok (.iload 4, 2) := by decide +kernel
theorem dX5_off_44 : decode cX5_off 44 = .ok (.imul, 1) := by decide +kernel
theorem dX5_off_45 : decode cX5_off 45 = .ok (.ireturn, 1) := by decide +kernel
set_option maxRecDepth 20000 in
theorem ggX5_offOf_X5_off : GoodIn wsX5_offOf wsX5_off := goodIn_r _ [5, 6, 7, 8, 4, 9, 10, 11, 12, 13, 14, 15, 16, 17, 18, 19, 20, 21, 22, 23, 24, 25, 26, 27, 28, 29, 30, 31, 32, 33, 34] (by decide +kernel) (by decide +kernel)
set_option maxRecDepth 20000 in
theorem gX5_offOf_X5_off : GoodIn wsX5_offOf (wsV RX5 69 RX5 yX5_off wsX5_off) := goodIn_app (goodIn_of _ (by decide +kernel)) ggX5_offOf_X5_off
theorem dX5_offOf_0 : decode cX5_offOf 0 = .ok (.aload_n 0, 1) := by decide +kernel
theorem dX5_offOf_1 : decode cX5_offOf 1 = .ok (.iload_n 1, 1) := by decide +kernel
theorem dX5_offOf_2 : decode cX5_offOf 2 = .ok (.iconst 1, 1) := by decide +kernel
theorem dX5_offOf_3 : decode cX5_offOf 3 = .ok (.isub, 1) := by decide +kernel
theorem dX5_offOf_4 : decode cX5_offOf 4 = .ok (.iload_n 2, 1) := by decide +kernel
theorem dX5_offOf_5 : decode cX5_offOf 5 = .ok (.iload_n 3, 1) := by decide +kernel
theorem dX5_offOf_6 : decode cX5_offOf 6 = .ok (.invokevirtual 69, 3) := by decide +kernel
theorem dX5_offOf_9 : decode cX5_offOf 9 = .ok (.aload_n 0, 1) := by decide +kernel
theorem dX5_offOf_10 : decode cX5_offOf 10 = .ok (.iload_n 1, 1) := by decide +kernel
theorem dX5_offOf_11 : decode cX5_offOf 11 = .ok (.iconst 1, 1) := by decide +kernel
theorem dX5_offOf_12 : decode cX5_offOf 12 = .ok (.iadd, 1) := by decide +kernel
theorem dX5_offOf_13 : decode cX5_offOf 13 = .ok (.iload_n 2, 1) := by decide +kernel
theorem dX5_offOf_14 : decode cX5_offOf 14 = .ok (.iload_n 3, 1) := by decide +kernel
theorem dX5_offOf_15 : decode cX5_offOf 15 = .ok (.invokevirtual 69, 3) := by decide +kernel
theorem dX5_offOf_18 : decode cX5_offOf 18 = .ok (.iadd, 1) := by decide +kernel
theorem dX5_offOf_19 : decode cX5_offOf 19 = .ok (.aload_n 0, 1) := by decide +kernel
theorem dX5_offOf_20 : decode cX5_offOf 20 = .ok (.iload_n 1, 1) := by decide +kernel
theorem dX5_offOf_21 : decode cX5_offOf 21 = .ok (.iload_n 2, 1) := by decide +kernel
theorem dX5_offOf_22 : decode cX5_offOf 22 = .ok (.iconst 1, 1) := by decide +kernel
theorem dX5_offOf_23 : decode cX5_offOf 23 = .ok (.isub, 1) := by decide +kernel
theorem dX5_offOf_24 : decode cX5_offOf 24 = .ok (.iload_n 3, 1) := by decide +kernel
theorem dX5_offOf_25 : decode cX5_offOf 25 = .ok (.invokevirtual 69, 3) := by decide +kernel
theorem dX5_offOf_28 : decode cX5_offOf 28 = .ok (.iadd, 1) := by decide +kernel
theorem dX5_offOf_29 : decode cX5_offOf 29 = .ok (.aload_n 0, 1) := by decide +kernel
theorem dX5_offOf_30 : decode cX5_offOf 30 = .ok (.iload_n 1, 1) := by decide +kernel
theorem dX5_offOf_31 : decode cX5_offOf 31 = .ok (.iload_n 2, 1) := by decide +kernel
theorem dX5_offOf_32 : decode cX5_offOf 32 = .ok (.iconst 1, 1) := by decide +kernel
theorem dX5_offOf_33 : decode cX5_offOf 33 = .ok (.iadd, 1) := by decide +kernel
theorem dX5_offOf_34 : decode cX5_offOf 34 = .ok (.iload_n 3, 1) := by decide +kernel
theorem dX5_offOf_35 : decode cX5_offOf 35 = .ok (.invokevirtual 69, 3) := by decide +kernel
theorem dX5_offOf_38 : decode cX5_offOf 38 = .ok (.iadd, 1) := by decide +kernel
theorem dX5_offOf_39 : decode cX5_offOf 39 = .ok (.ireturn, 1) := by decide +kernel
set_option maxRecDepth 20000 in
theorem ggX5_goThrough_X5_offOf : GoodIn wsX5_goThrough wsX5_offOf := goodIn_r _ [7, 8, 9, 10, 6, 11, 2, 12, 13, 14, 15, 16, 17, 18, 19, 20, 21, 22, 23, 24, 25, 26, 27, 28, 29, 30, 31, 32, 33, 34, 35, 36, 37, 38, 39] (by decide +kernel) (by decide +kernel)
set_option maxRecDepth 20000 in
theorem gX5_goThrough_X5_offOf : GoodIn wsX5_goThrough (wsV RX5 73 RX5 yX5_offOf wsX5_offOf) := goodIn_app (goodIn_of _ (by decide +kernel)) ggX5_goThrough_X5_offOf
theorem dX5_goThrough_0 : decode cX5_goThrough 0 = .ok (.iconst 0, 1) := by decide +kernel
theorem dX5_goThrough_1 : decode cX5_goThrough 1 = .ok (.istore_n 1, 1) := by decide +kernel
theorem dX5_goThrough_2 : decode cX5_goThrough 2 = .ok (.iconst 0, 1) := by decide +kernel
theorem dX5_goThrough_3 : decode cX5_goThrough 3 = .ok (.istore_n 2, 1) := by decide +kernel
theorem dX5_goThrough_4 : decode cX5_goThrough 4 = .ok (.iload_n 2, 1) := by decide +kernel
theorem dX5_goThrough_5 : decode cX5_goThrough 5 = .ok (.bipush 64, 2) := by decide +kernel
theorem dX5_goThrough_7 : decode cX5_goThrough 7 = .ok (.if_icmp .ge 116, 3) := by decide +kernel
theorem dX5_goThrough_10 : decode cX5_goThrough 10 = .ok (.aload_n 0, 1) := by decide +kernel
theorem dX5_goThrough_11 : decode cX5_goThrough 11 = .ok (.getfield 16, 3) := by decide +kernel
theorem dX5_goThrough_14 : decode cX5_goThrough 14 = .ok (.iload_n 2, 1) := by decide +kernel
theorem dX5_goThrough_15 : decode cX5_goThrough 15 = .ok (.baload, 1) := by decide +kernel
theorem dX5_goThrough_16 : decode cX5_goThrough 16 = .ok (.ifCond .ne 101, 3) := by decide +kernel
theorem dX5_goThrough_19 : decode cX5_goThrough 19 = .ok (.iconst 0, 1) := by decide +kernel
theorem dX5_goThrough_20 : decode cX5_goThrough 20 = .ok (.istore_n 3, 1) := by decide +kernel
theorem dX5_goThrough_21 : decode cX5_goThrough 21 = .ok (.iconst 1, 1) := by decide +kernel
theorem dX5_goThrough_22 : decode cX5_goThrough 22 = .ok (.istore 4, 2) := by decide +kernel
theorem dX5_goThrough_24 : decode cX5_goThrough 24 = .ok (.iload 4, 2) := by decide +kernel
theorem dX5_goThrough_26 : decode cX5_goThrough 26 = .ok (.bipush 8, 2) := by decide +kernel
theorem dX5_goThrough_28 : decode cX5_goThrough 28 = .ok (.if_icmp .ge 46, 3) := by decide +kernel
theorem dX5_goThrough_31 : decode cX5_goThrough 31 = .ok (.aload_n 0, 1) := by decide +kernel
theorem dX5_goThrough_32 : decode cX5_goThrough 32 = .ok (.iload_n 2, 1) := by decide +kernel
theorem dX5_goThrough_33 : decode cX5_goThrough 33 = .ok (.bipush 8, 2) := by decide +kernel
theorem dX5_goThrough_35 : decode cX5_goThrough 35 = .ok (.irem, 1) := by decide +kernel
theorem dX5_goThrough_36 : decode cX5_goThrough 36 = .ok (.iload_n 2, 1) := by decide +kernel
theorem dX5_goThrough_37 : decode cX5_goThrough 37 = .ok (.bipush 8, 2) := by decide +kernel
theorem dX5_goThrough_39 : decode cX5_goThrough 39 = .ok (.idiv, 1) := by decide +kernel
theorem dX5_goThrough_40 : decode cX5_goThrough 40 = .ok (.iload 4, 2) := by decide +kernel
theorem dX5_goThrough_42 : decode cX5_goThrough 42 = .ok (.invokevirtual 73, 3) := by decide +kernel
theorem dX5_goThrough_45 : decode cX5_goThrough 45 = .ok (.aload_n 0, 1) := by decide +kernel
theorem dX5_goThrough_46 : decode cX5_goThrough 46 = .ok (.iload_n 2, 1) := by decide +kernel
theorem dX5_goThrough_47 : decode cX5_goThrough 47 = .ok (.bipush 8, 2) := by decide +kernel
theorem dX5_goThrough_49 : decode cX5_goThrough 49 = .ok (.irem, 1) := by decide +kernel
theorem dX5_goThrough_50 : decode cX5_goThrough 50 = .ok (.iload_n 2, 1) := by decide +kernel
theorem dX5_goThrough_51 : decode cX5_goThrough 51 = .ok (.bipush 8, 2) := by decide +kernel
theorem dX5_goThrough_53 : decode cX5_goThrough 53 = .ok (.idiv, 1) := by decide +kernel
theorem dX5_goThrough_54 : decode cX5_goThrough 54 = .ok (.iload_n 3, 1) := by decide +kernel
theorem dX5_goThrough_55 : decode cX5_goThrough 55 = .ok (.invokevirtual 73, 3) := by decide +kernel
theorem dX5_goThrough_58 : decode cX5_goThrough 58 = .ok (.if_icmp .ge 8, 3) := by decide +kernel
theorem dX5_goThrough_61 : decode cX5_goThrough 61 = .ok (.iload 4, 2) := by decide +kernel
theorem dX5_goThrough_63 : decode cX5_goThrough 63 = .ok (.goto 4, 3) := by decide +kernel
theorem dX5_goThrough_66 : decode cX5_goThrough 66 = .ok (.iload_n 3, 1) := by decide +kernel
theorem dX5_goThrough_67 : decode cX5_goThrough 67 = .ok (.istore_n 3, 1) := by decide +kernel
theorem dX5_goThrough_68 : decode cX5_goThrough 68 = .ok (.iinc 4 1, 3) := by decide +kernel
theorem dX5_goThrough_71 : decode cX5_goThrough 71 = .ok (.goto (-47), 3) := by decide +kernel
theorem dX5_goThrough_74 : decode cX5_goThrough 74 = .ok (.aload_n 0, 1) := by decide +kernel
theorem dX5_goThrough_75 : decode cX5_goThrough 75 = .ok (.iload_n 2, 1) := by decide +kernel
theorem dX5_goThrough_76 : decode cX5_goThrough 76 = .ok (.bipush 8, 2) := by decide +kernel
theorem dX5_goThrough_78 : decode cX5_goThrough 78 = .ok (.irem, 1) := by decide +kernel
theorem dX5_goThrough_79 : decode cX5_goThrough 79 = .ok (.iload_n 2, 1) := by decide +kernel
theorem dX5_goThrough_80 : decode cX5_goThrough 80 = .ok (.bipush 8, 2) := by decide +kernel
theorem dX5_goThrough_82 : decode cX5_goThrough 82 = .ok (.idiv, 1) := by decide +kernel
theorem dX5_goThrough_83 : decode cX5_goThrough 83 = .ok (.iload_n 3, 1) := by decide +kernel
theorem dX5_goThrough_84 : decode cX5_goThrough 84 = .ok (.invokevirtual 73, 3) := by decide +kernel
theorem dX5_goThrough_87 : decode cX5_goThrough 87 = .ok (.aload_n 0, 1) := by decide +kernel
theorem dX5_goThrough_88 : decode cX5_goThrough 88 = .ok (.iload_n 2, 1) := by decide +kernel
theorem dX5_goThrough_89 : decode cX5_goThrough 89 = .ok (.bipush 8, 2) := by decide +kernel
theorem dX5_goThrough_91 : decode cX5_goThrough 91 = .ok (.irem, 1) := by decide +kernel
theorem dX5_goThrough_92 : decode cX5_goThrough 92 = .ok (.iload_n 2, 1) := by decide +kernel
theorem dX5_goThrough_93 : decode cX5_goThrough 93 = .ok (.bipush 8, 2) := by decide +kernel
theorem dX5_goThrough_95 : decode cX5_goThrough 95 = .ok (.idiv, 1) := by decide +kernel
theorem dX5_goThrough_96 : decode cX5_goThrough 96 = .ok (.aload_n 0, 1) := by decide +kernel
theorem dX5_goThrough_97 : decode cX5_goThrough 97 = .ok (.getfield 13, 3) := by decide +kernel
theorem dX5_goThrough_100 : decode cX5_goThrough 100 = .ok (.iload_n 2, 1) := by decide +kernel
theorem dX5_goThrough_101 : decode cX5_goThrough 101 = .ok (.iaload, 1) := by decide +kernel
theorem dX5_goThrough_102 : decode cX5_goThrough 102 = .ok (.invokevirtual 73, 3) := by decide +kernel
theorem dX5_goThrough_105 : decode cX5_goThrough 105 = .ok (.if_icmp .ge 12, 3) := by decide +kernel
theorem dX5_goThrough_108 : decode cX5_goThrough 108 = .ok (.aload_n 0, 1) := by decide +kernel
theorem dX5_goThrough_109 : decode cX5_goThrough 109 = .ok (.getfield 13, 3) := by decide +kernel
theorem dX5_goThrough_112 : decode cX5_goThrough 112 = .ok (.iload_n 2, 1) := by decide +kernel
theorem dX5_goThrough_113 : decode cX5_goThrough 113 = .ok (.iload_n 3, 1) := by decide +kernel
theorem dX5_goThrough_114 : decode cX5_goThrough 114 = .ok (.iastore, 1) := by decide +kernel
theorem dX5_goThrough_115 : decode cX5_goThrough 115 = .ok (.iconst 1, 1) := by decide +kernel
theorem dX5_goThrough_116 : decode cX5_goThrough 116 = .ok (.istore_n 1, 1) := by decide +kernel
theorem dX5_goThrough_117 : decode cX5_goThrough 117 = .ok (.iinc 2 1, 3) := by decide +kernel
theorem dX5_goThrough_120 : decode cX5_goThrough 120 = .ok (.goto (-116), 3) := by decide +kernel
theorem dX5_goThrough_123 : decode cX5_goThrough 123 = .ok (.iload_n 1, 1) := by decide +kernel
theorem dX5_goThrough_124 : decode cX5_goThrough 124 = .ok (.ireturn, 1) := by decide +kernel
set_option maxRecDepth 20000 in
theorem ggX5_even_X5_goThrough : GoodIn wsX5_even wsX5_goThrough := goodIn_r _ [5, 6, 7, 8, 9, 10, 4, 11, 12, 13, 14, 15, 16, 17, 18, 19, 20, 21, 22, 23, 24, 25, 26, 27, 28, 29, 30, 31, 32, 33, 34, 35, 36, 37, 38, 39, 40, 41, 42, 43] (by decide +kernel) (by decide +kernel)
set_option maxRecDepth 20000 in
theorem gX5_even_X5_goThrough : GoodIn wsX5_even (wsV RX5 76 RX5 yX5_goThrough wsX5_goThrough) := goodIn_app (goodIn_of _ (by decide +kernel)) ggX5_even_X5_goThrough
theorem dX5_even_0 : decode cX5_even 0 = .ok (.iconst 1, 1) := by decide +kernel
theorem dX5_even_1 : decode cX5_even 1 = .ok (.istore_n 1, 1) := by decide +kernel
theorem dX5_even_2 : decode cX5_even 2 = .ok (.aload_n 0, 1) := by decide +kernel
theorem dX5_even_3 : decode cX5_even 3 = .ok (.invokevirtual 76, 3) := by decide +kernel
theorem dX5_even_6 : decode cX5_even 6 = .ok (.ifCond .eq 15, 3) := by decide +kernel
theorem dX5_even_9 : decode cX5_even 9 = .ok (.iload_n 1, 1) := by decide +kernel
theorem dX5_even_10 : decode cX5_even 10 = .ok (.bipush 20, 2) := by decide +kernel
theorem dX5_even_12 : decode cX5_even 12 = .ok (.if_icmp .ge 9, 3) := by decide +kernel
theorem dX5_even_15 : decode cX5_even 15 = .ok (.iinc 1 1, 3) := by decide +kernel
theorem dX5_even_18 : decode cX5_even 18 = .ok (.goto (-16), 3) := by decide +kernel
theorem dX5_even_21 : decode cX5_even 21 = .ok (.iload_n 1, 1) := by decide +kernel
theorem dX5_even_22 : decode cX5_even 22 = .ok (.ireturn, 1) := by decide +kernel
set_option maxRecDepth 20000 in
theorem ggX5_at_X5_isCell : GoodIn wsX5_at wsX5_isCell := goodIn_r _ [7, 8, 9, 6, 10] (by decide +kernel) (by decide +kernel)
set_option maxRecDepth 20000 in
theorem gX5_at_X5_isCell : GoodIn wsX5_at (va_wsS RX5 58 yX5_isCell wsX5_isCell) := goodIn_app (goodIn_of _ (by decide +kernel)) ggX5_at_X5_isCell
theorem dX5_at_0 : decode cX5_at 0 = .ok (.iload_n 1, 1) := by decide +kernel
theorem dX5_at_1 : decode cX5_at 1 = .ok (.iload_n 2, 1) := by decide +kernel
theorem dX5_at_2 : decode cX5_at 2 = .ok (.invokestatic 58, 3) := by decide +kernel
theorem dX5_at_5 : decode cX5_at 5 = .ok (.ifCond .ne 6, 3) := by decide +kernel
theorem dX5_at_8 : decode cX5_at 8 = .ok (.bipush (-2), 2) := by decide +kernel
theorem dX5_at_10 : decode cX5_at 10 = .ok (.ireturn, 1) := by decide +kernel
theorem dX5_at_11 : decode cX5_at 11 = .ok (.bipush 8, 2) := by decide +kernel
theorem dX5_at_13 : decode cX5_at 13 = .ok (.iload_n 2, 1) := by decide +kernel
theorem dX5_at_14 : decode cX5_at 14 = .ok (.imul, 1) := by decide +kernel
theorem dX5_at_15 : decode cX5_at 15 = .ok (.iload_n 1, 1) := by decide +kernel
theorem dX5_at_16 : decode cX5_at 16 = .ok (.iadd, 1) := by decide +kernel
theorem dX5_at_17 : decode cX5_at 17 = .ok (.istore 4, 2) := by decide +kernel
theorem dX5_at_19 : decode cX5_at 19 = .ok (.iload_n 3, 1) := by decide +kernel
theorem dX5_at_20 : decode cX5_at 20 = .ok (.ifCond .ne 13, 3) := by decide +kernel
theorem dX5_at_23 : decode cX5_at 23 = .ok (.aload_n 0, 1) := by decide +kernel
theorem dX5_at_24 : decode cX5_at 24 = .ok (.getfield 7, 3) := by decide +kernel
theorem dX5_at_27 : decode cX5_at 27 = .ok (.iload 4, 2) := by decide +kernel
theorem dX5_at_29 : decode cX5_at 29 = .ok (.iaload, 1) := by decide +kernel
theorem dX5_at_30 : decode cX5_at 30 = .ok (.goto 43, 3) := by decide +kernel
theorem dX5_at_33 : decode cX5_at 33 = .ok (.iload_n 3, 1) := by decide +kernel
theorem dX5_at_34 : decode cX5_at 34 = .ok (.iconst 1, 1) := by decide +kernel
theorem dX5_at_35 : decode cX5_at 35 = .ok (.if_icmp .ne 13, 3) := by decide +kernel
theorem dX5_at_38 : decode cX5_at 38 = .ok (.aload_n 0, 1) := by decide +kernel
theorem dX5_at_39 : decode cX5_at 39 = .ok (.getfield 13, 3) := by decide +kernel
theorem dX5_at_42 : decode cX5_at 42 = .ok (.iload 4, 2) := by decide +kernel
theorem dX5_at_44 : decode cX5_at 44 = .ok (.iaload, 1) := by decide +kernel
theorem dX5_at_45 : decode cX5_at 45 = .ok (.goto 28, 3) := by decide +kernel
theorem dX5_at_48 : decode cX5_at 48 = .ok (.iload_n 3, 1) := by decide +kernel
theorem dX5_at_49 : decode cX5_at 49 = .ok (.iconst 2, 1) := by decide +kernel
theorem dX5_at_50 : decode cX5_at 50 = .ok (.if_icmp .ne 21, 3) := by decide +kernel
theorem dX5_at_53 : decode cX5_at 53 = .ok (.aload_n 0, 1) := by decide +kernel
theorem dX5_at_54 : decode cX5_at 54 = .ok (.getfield 16, 3) := by decide +kernel
theorem dX5_at_57 : decode cX5_at 57 = .ok (.iload 4, 2) := by decide +kernel
theorem dX5_at_59 : decode cX5_at 59 = .ok (.baload, 1) := by decide +kernel
theorem dX5_at_60 : decode cX5_at 60 = .ok (.ifCond .eq 7, 3) := by decide +kernel
theorem dX5_at_63 : decode cX5_at 63 = .ok (.iconst 1, 1) := by decide +kernel
theorem dX5_at_64 : decode cX5_at 64 = .ok (.goto 9, 3) := by decide +kernel
theorem dX5_at_67 : decode cX5_at 67 = .ok (.iconst 0, 1) := by decide +kernel
theorem dX5_at_68 : decode cX5_at 68 = .ok (.goto 5, 3) := by decide +kernel
theorem dX5_at_71 : decode cX5_at 71 = .ok (.bipush (-3), 2) := by decide +kernel
theorem dX5_at_73 : decode cX5_at 73 = .ok (.ireturn, 1) := by decide +kernel
theorem dX5_grows_0 : decode cX5_grows 0 = .ok (.iload_n 1, 1) := by decide +kernel
theorem dX5_grows_1 : decode cX5_grows 1 = .ok (.iload_n 0, 1) := by decide +kernel
theorem dX5_grows_2 : decode cX5_grows 2 = .ok (.isub, 1) := by decide +kernel
theorem dX5_grows_3 : decode cX5_grows 3 = .ok (.bipush 8, 2) := by decide +kernel
theorem dX5_grows_5 : decode cX5_grows 5 = .ok (.iadd, 1) := by decide +kernel
theorem dX5_grows_6 : decode cX5_grows 6 = .ok (.bipush 8, 2) := by decide +kernel
theorem dX5_grows_8 : decode cX5_grows 8 = .ok (.irem, 1) := by decide +kernel
theorem dX5_grows_9 : decode cX5_grows 9 = .ok (.istore_n 2, 1) := by decide +kernel
theorem dX5_grows_10 : decode cX5_grows 10 = .ok (.iload_n 2, 1) := by decide +kernel
theorem dX5_grows_11 : decode cX5_grows 11 = .ok (.iconst 4, 1) := by decide +kernel
theorem dX5_grows_12 : decode cX5_grows 12 = .ok (.if_icmp .le 10, 3) := by decide +kernel
theorem dX5_grows_15 : decode cX5_grows 15 = .ok (.iload_n 2, 1) := by decide +kernel
theorem dX5_grows_16 : decode cX5_grows 16 = .ok (.bipush 8, 2) := by decide +kernel
theorem dX5_grows_18 : decode cX5_grows 18 = .ok (.isub, 1) := by decide +kernel
theorem dX5_grows_19 : decode cX5_grows 19 = .ok (.goto 4, 3) := by decide +kernel
theorem dX5_grows_22 : decode cX5_grows 22 = .ok (.iload_n 2, 1) := by decide +kernel
theorem dX5_grows_23 : decode cX5_grows 23 = .ok (.ireturn, 1) := by decide +kernel
set_option maxRecDepth 20000 in
theorem ggX5_knotOf_X5_grows : GoodIn wsX5_knotOf wsX5_grows := goodIn_r _ [5] (by decide +kernel) (by decide +kernel)
set_option maxRecDepth 20000 in
theorem gX5_knotOf_X5_grows : GoodIn wsX5_knotOf (va_wsS RX5 80 yX5_grows wsX5_grows) := goodIn_app (goodIn_of _ (by decide +kernel)) ggX5_knotOf_X5_grows
theorem dX5_knotOf_0 : decode cX5_knotOf 0 = .ok (.bipush 8, 2) := by decide +kernel
theorem dX5_knotOf_2 : decode cX5_knotOf 2 = .ok (.iload_n 2, 1) := by decide +kernel
theorem dX5_knotOf_3 : decode cX5_knotOf 3 = .ok (.imul, 1) := by decide +kernel
theorem dX5_knotOf_4 : decode cX5_knotOf 4 = .ok (.iload_n 1, 1) := by decide +kernel
theorem dX5_knotOf_5 : decode cX5_knotOf 5 = .ok (.iadd, 1) := by decide +kernel
theorem dX5_knotOf_6 : decode cX5_knotOf 6 = .ok (.istore_n 3, 1) := by decide +kernel
theorem dX5_knotOf_7 : decode cX5_knotOf 7 = .ok (.aload_n 0, 1) := by decide +kernel
theorem dX5_knotOf_8 : decode cX5_knotOf 8 = .ok (.getfield 13, 3) := by decide +kernel
theorem dX5_knotOf_11 : decode cX5_knotOf 11 = .ok (.iload_n 3, 1) := by decide +kernel
theorem dX5_knotOf_12 : decode cX5_knotOf 12 = .ok (.iaload, 1) := by decide +kernel
theorem dX5_knotOf_13 : decode cX5_knotOf 13 = .ok (.aload_n 0, 1) := by decide +kernel
theorem dX5_knotOf_14 : decode cX5_knotOf 14 = .ok (.getfield 13, 3) := by decide +kernel
theorem dX5_knotOf_17 : decode cX5_knotOf 17 = .ok (.iload_n 3, 1) := by decide +kernel
theorem dX5_knotOf_18 : decode cX5_knotOf 18 = .ok (.iconst 1, 1) := by decide +kernel
theorem dX5_knotOf_19 : decode cX5_knotOf 19 = .ok (.iadd, 1) := by decide +kernel
theorem dX5_knotOf_20 : decode cX5_knotOf 20 = .ok (.iaload, 1) := by decide +kernel
theorem dX5_knotOf_21 : decode cX5_knotOf 21 = .ok (.invokestatic 80, 3) := by decide +kernel
theorem dX5_knotOf_24 : decode cX5_knotOf 24 = .ok (.istore 4, 2) := by decide +kernel
theorem dX5_knotOf_26 : decode cX5_knotOf 26 = .ok (.aload_n 0, 1) := by decide +kernel
theorem dX5_knotOf_27 : decode cX5_knotOf 27 = .ok (.getfield 13, 3) := by decide +kernel
theorem dX5_knotOf_30 : decode cX5_knotOf 30 = .ok (.iload_n 3, 1) := by decide +kernel
theorem dX5_knotOf_31 : decode cX5_knotOf 31 = .ok (.iconst 1, 1) := by decide +kernel
theorem dX5_knotOf_32 : decode cX5_knotOf 32 = .ok (.iadd, 1) := by decide +kernel
theorem dX5_knotOf_33 : decode cX5_knotOf 33 = .ok (.iaload, 1) := by decide +kernel
theorem dX5_knotOf_34 : decode cX5_knotOf 34 = .ok (.aload_n 0, 1) := by decide +kernel
theorem dX5_knotOf_35 : decode cX5_knotOf 35 = .ok (.getfield 13, 3) := by decide +kernel
theorem dX5_knotOf_38 : decode cX5_knotOf 38 = .ok (.iload_n 3, 1) := by decide +kernel
theorem dX5_knotOf_39 : decode cX5_knotOf 39 = .ok (.bipush 9, 2) := by decide +kernel
theorem dX5_knotOf_41 : decode cX5_knotOf 41 = .ok (.iadd, 1) := by decide +kernel
theorem dX5_knotOf_42 : decode cX5_knotOf 42 = .ok (.iaload, 1) := by decide +kernel
theorem dX5_knotOf_43 : decode cX5_knotOf 43 = .ok (.invokestatic 80, 3) := by decide +kernel
theorem dX5_knotOf_46 : decode cX5_knotOf 46 = .ok (.istore 5, 2) := by decide +kernel
theorem dX5_knotOf_48 : decode cX5_knotOf 48 = .ok (.aload_n 0, 1) := by decide +kernel
theorem dX5_knotOf_49 : decode cX5_knotOf 49 = .ok (.getfield 13, 3) := by decide +kernel
theorem dX5_knotOf_52 : decode cX5_knotOf 52 = .ok (.iload_n 3, 1) := by decide +kernel
theorem dX5_knotOf_53 : decode cX5_knotOf 53 = .ok (.bipush 9, 2) := by decide +kernel
theorem dX5_knotOf_55 : decode cX5_knotOf 55 = .ok (.iadd, 1) := by decide +kernel
theorem dX5_knotOf_56 : decode cX5_knotOf 56 = .ok (.iaload, 1) := by decide +kernel
theorem dX5_knotOf_57 : decode cX5_knotOf 57 = .ok (.aload_n 0, 1) := by decide +kernel
theorem dX5_knotOf_58 : decode cX5_knotOf 58 = .ok (.getfield 13, 3) := by decide +kernel
theorem dX5_knotOf_61 : decode cX5_knotOf 61 = .ok (.iload_n 3, 1) := by decide +kernel
theorem dX5_knotOf_62 : decode cX5_knotOf 62 = .ok (.bipush 8, 2) := by decide +kernel
theorem dX5_knotOf_64 : decode cX5_knotOf 64 = .ok (.iadd, 1) := by decide +kernel
theorem dX5_knotOf_65 : decode cX5_knotOf 65 = .ok (.iaload, 1) := by decide +kernel
theorem dX5_knotOf_66 : decode cX5_knotOf 66 = .ok (.invokestatic 80, 3) := by decide +kernel
theorem dX5_knotOf_69 : decode cX5_knotOf 69 = .ok (.istore 6, 2) := by decide +kernel
theorem dX5_knotOf_71 : decode cX5_knotOf 71 = .ok (.aload_n 0, 1) := by decide +kernel
theorem dX5_knotOf_72 : decode cX5_knotOf 72 = .ok (.getfield 13, 3) := by decide +kernel
end
section
theorem dX5_knotOf_75 : decode cX5_knotOf 75 = .ok (.iload_n 3, 1) := by decide +kernel
theorem dX5_knotOf_76 : decode cX5_knotOf 76 = .ok (.bipush 8, 2) := by decide +kernel
theorem dX5_knotOf_78 : decode cX5_knotOf 78 = .ok (.iadd, 1) := by decide +kernel
theorem dX5_knotOf_79 : decode cX5_knotOf 79 = .ok (.iaload, 1) := by decide +kernel
theorem dX5_knotOf_80 : decode cX5_knotOf 80 = .ok (.aload_n 0, 1) := by decide +kernel
theorem dX5_knotOf_81 : decode cX5_knotOf 81 = .ok (.getfield 13, 3) := by decide +kernel
theorem dX5_knotOf_84 : decode cX5_knotOf 84 = .ok (.iload_n 3, 1) := by decide +kernel
theorem dX5_knotOf_85 : decode cX5_knotOf 85 = .ok (.iaload, 1) := by decide +kernel
theorem dX5_knotOf_86 : decode cX5_knotOf 86 = .ok (.invokestatic 80, 3) := by decide +kernel
theorem dX5_knotOf_89 : decode cX5_knotOf 89 = .ok (.istore 7, 2) := by decide +kernel
theorem dX5_knotOf_91 : decode cX5_knotOf 91 = .ok (.iload 4, 2) := by decide +kernel
theorem dX5_knotOf_93 : decode cX5_knotOf 93 = .ok (.iconst 4, 1) := by decide +kernel
theorem dX5_knotOf_94 : decode cX5_knotOf 94 = .ok (.if_icmp .eq 21, 3) := by decide +kernel
theorem dX5_knotOf_97 : decode cX5_knotOf 97 = .ok (.iload 5, 2) := by decide +kernel
theorem dX5_knotOf_99 : decode cX5_knotOf 99 = .ok (.iconst 4, 1) := by decide +kernel
theorem dX5_knotOf_100 : decode cX5_knotOf 100 = .ok (.if_icmp .eq 15, 3) := by decide +kernel
theorem dX5_knotOf_103 : decode cX5_knotOf 103 = .ok (.iload 6, 2) := by decide +kernel
theorem dX5_knotOf_105 : decode cX5_knotOf 105 = .ok (.iconst 4, 1) := by decide +kernel
theorem dX5_knotOf_106 : decode cX5_knotOf 106 = .ok (.if_icmp .eq 9, 3) := by decide +kernel
theorem dX5_knotOf_109 : decode cX5_knotOf 109 = .ok (.iload 7, 2) := by decide +kernel
theorem dX5_knotOf_111 : decode cX5_knotOf 111 = .ok (.iconst 4, 1) := by decide +kernel
theorem dX5_knotOf_112 : decode cX5_knotOf 112 = .ok (.if_icmp .ne 7, 3) := by decide +kernel
theorem dX5_knotOf_115 : decode cX5_knotOf 115 = .ok (.iconst 2, 1) := by decide +kernel
theorem dX5_knotOf_116 : decode cX5_knotOf 116 = .ok (.goto 17, 3) := by decide +kernel
theorem dX5_knotOf_119 : decode cX5_knotOf 119 = .ok (.iload 4, 2) := by decide +kernel
theorem dX5_knotOf_121 : decode cX5_knotOf 121 = .ok (.iload 5, 2) := by decide +kernel
theorem dX5_knotOf_123 : decode cX5_knotOf 123 = .ok (.iadd, 1) := by decide +kernel
theorem dX5_knotOf_124 : decode cX5_knotOf 124 = .ok (.iload 6, 2) := by decide +kernel
theorem dX5_knotOf_126 : decode cX5_knotOf 126 = .ok (.iadd, 1) := by decide +kernel
theorem dX5_knotOf_127 : decode cX5_knotOf 127 = .ok (.iload 7, 2) := by decide +kernel
theorem dX5_knotOf_129 : decode cX5_knotOf 129 = .ok (.iadd, 1) := by decide +kernel
theorem dX5_knotOf_130 : decode cX5_knotOf 130 = .ok (.bipush 8, 2) := by decide +kernel
theorem dX5_knotOf_132 : decode cX5_knotOf 132 = .ok (.idiv, 1) := by decide +kernel
theorem dX5_knotOf_133 : decode cX5_knotOf 133 = .ok (.ireturn, 1) := by decide +kernel
set_option maxRecDepth 20000 in
theorem ggX5_knot_X5_in : GoodIn wsX5_knot wsX5_in := goodIn_r _ [4] (by decide +kernel) (by decide +kernel)
set_option maxRecDepth 20000 in
theorem gX5_knot_X5_in : GoodIn wsX5_knot (va_wsS RX5 54 yX5_in wsX5_in) := goodIn_app (goodIn_of _ (by decide +kernel)) ggX5_knot_X5_in
set_option maxRecDepth 20000 in
theorem ggX5_knot_X5_knotOf : GoodIn wsX5_knot wsX5_knotOf := goodIn_r _ [8, 9, 10, 11, 3, 12, 13, 14, 15, 16, 17, 18, 19, 20, 21, 22, 23, 24, 25, 26, 27, 28] (by decide +kernel) (by decide +kernel)
set_option maxRecDepth 20000 in
theorem gX5_knot_X5_knotOf : GoodIn wsX5_knot (wsV RX5 83 RX5 yX5_knotOf wsX5_knotOf) := goodIn_app (goodIn_of _ (by decide +kernel)) ggX5_knot_X5_knotOf
theorem dX5_knot_0 : decode cX5_knot 0 = .ok (.iload_n 1, 1) := by decide +kernel
theorem dX5_knot_1 : decode cX5_knot 1 = .ok (.iconst 0, 1) := by decide +kernel
theorem dX5_knot_2 : decode cX5_knot 2 = .ok (.bipush 6, 2) := by decide +kernel
theorem dX5_knot_4 : decode cX5_knot 4 = .ok (.invokestatic 54, 3) := by decide +kernel
theorem dX5_knot_7 : decode cX5_knot 7 = .ok (.ifCond .eq 22, 3) := by decide +kernel
theorem dX5_knot_10 : decode cX5_knot 10 = .ok (.iload_n 2, 1) := by decide +kernel
theorem dX5_knot_11 : decode cX5_knot 11 = .ok (.iconst 0, 1) := by decide +kernel
theorem dX5_knot_12 : decode cX5_knot 12 = .ok (.bipush 6, 2) := by decide +kernel
theorem dX5_knot_14 : decode cX5_knot 14 = .ok (.invokestatic 54, 3) := by decide +kernel
theorem dX5_knot_17 : decode cX5_knot 17 = .ok (.ifCond .eq 12, 3) := by decide +kernel
theorem dX5_knot_20 : decode cX5_knot 20 = .ok (.aload_n 0, 1) := by decide +kernel
theorem dX5_knot_21 : decode cX5_knot 21 = .ok (.iload_n 1, 1) := by decide +kernel
theorem dX5_knot_22 : decode cX5_knot 22 = .ok (.iload_n 2, 1) := by decide +kernel
theorem dX5_knot_23 : decode cX5_knot 23 = .ok (.invokevirtual 83, 3) := by decide +kernel
theorem dX5_knot_26 : decode cX5_knot 26 = .ok (.goto 5, 3) := by decide +kernel
theorem dX5_knot_29 : decode cX5_knot 29 = .ok (.bipush (-2), 2) := by decide +kernel
theorem dX5_knot_31 : decode cX5_knot 31 = .ok (.ireturn, 1) := by decide +kernel
set_option maxRecDepth 20000 in
theorem ggX5_set_X5_in : GoodIn wsX5_set wsX5_in := goodIn_r _ [8] (by decide +kernel) (by decide +kernel)
set_option maxRecDepth 20000 in
theorem gX5_set_X5_in : GoodIn wsX5_set (va_wsS RX5 54 yX5_in wsX5_in) := goodIn_app (goodIn_of _ (by decide +kernel)) ggX5_set_X5_in
theorem dX5_set_0 : decode cX5_set 0 = .ok (.iload_n 1, 1) := by decide +kernel
theorem dX5_set_1 : decode cX5_set 1 = .ok (.ifCond .ne 25, 3) := by decide +kernel
theorem dX5_set_4 : decode cX5_set 4 = .ok (.iload_n 2, 1) := by decide +kernel
theorem dX5_set_5 : decode cX5_set 5 = .ok (.iconst 4, 1) := by decide +kernel
theorem dX5_set_6 : decode cX5_set 6 = .ok (.bipush 40, 2) := by decide +kernel
theorem dX5_set_8 : decode cX5_set 8 = .ok (.invokestatic 54, 3) := by decide +kernel
theorem dX5_set_11 : decode cX5_set 11 = .ok (.ifCond .eq 15, 3) := by decide +kernel
theorem dX5_set_14 : decode cX5_set 14 = .ok (.aload_n 0, 1) := by decide +kernel
theorem dX5_set_15 : decode cX5_set 15 = .ok (.getfield 20, 3) := by decide +kernel
theorem dX5_set_18 : decode cX5_set 18 = .ok (.istore_n 3, 1) := by decide +kernel
theorem dX5_set_19 : decode cX5_set 19 = .ok (.aload_n 0, 1) := by decide +kernel
theorem dX5_set_20 : decode cX5_set 20 = .ok (.iload_n 2, 1) := by decide +kernel
theorem dX5_set_21 : decode cX5_set 21 = .ok (.putfield 20, 3) := by decide +kernel
theorem dX5_set_24 : decode cX5_set 24 = .ok (.iload_n 3, 1) := by decide +kernel
theorem dX5_set_25 : decode cX5_set 25 = .ok (.ireturn, 1) := by decide +kernel
theorem dX5_set_26 : decode cX5_set 26 = .ok (.iload_n 1, 1) := by decide +kernel
theorem dX5_set_27 : decode cX5_set 27 = .ok (.iconst 1, 1) := by decide +kernel
theorem dX5_set_28 : decode cX5_set 28 = .ok (.if_icmp .ne 26, 3) := by decide +kernel
theorem dX5_set_31 : decode cX5_set 31 = .ok (.iload_n 2, 1) := by decide +kernel
theorem dX5_set_32 : decode cX5_set 32 = .ok (.bipush 10, 2) := by decide +kernel
theorem dX5_set_34 : decode cX5_set 34 = .ok (.bipush 100, 2) := by decide +kernel
theorem dX5_set_36 : decode cX5_set 36 = .ok (.invokestatic 54, 3) := by decide +kernel
theorem dX5_set_39 : decode cX5_set 39 = .ok (.ifCond .eq 15, 3) := by decide +kernel
theorem dX5_set_42 : decode cX5_set 42 = .ok (.aload_n 0, 1) := by decide +kernel
theorem dX5_set_43 : decode cX5_set 43 = .ok (.getfield 24, 3) := by decide +kernel
theorem dX5_set_46 : decode cX5_set 46 = .ok (.istore_n 3, 1) := by decide +kernel
theorem dX5_set_47 : decode cX5_set 47 = .ok (.aload_n 0, 1) := by decide +kernel
theorem dX5_set_48 : decode cX5_set 48 = .ok (.iload_n 2, 1) := by decide +kernel
theorem dX5_set_49 : decode cX5_set 49 = .ok (.putfield 24, 3) := by decide +kernel
theorem dX5_set_52 : decode cX5_set 52 = .ok (.iload_n 3, 1) := by decide +kernel
theorem dX5_set_53 : decode cX5_set 53 = .ok (.ireturn, 1) := by decide +kernel
theorem dX5_set_54 : decode cX5_set 54 = .ok (.iload_n 1, 1) := by decide +kernel
theorem dX5_set_55 : decode cX5_set 55 = .ok (.iconst 2, 1) := by decide +kernel
theorem dX5_set_56 : decode cX5_set 56 = .ok (.if_icmp .ne 25, 3) := by decide +kernel
theorem dX5_set_59 : decode cX5_set 59 = .ok (.iload_n 2, 1) := by decide +kernel
theorem dX5_set_60 : decode cX5_set 60 = .ok (.iconst 1, 1) := by decide +kernel
theorem dX5_set_61 : decode cX5_set 61 = .ok (.bipush 10, 2) := by decide +kernel
theorem dX5_set_63 : decode cX5_set 63 = .ok (.invokestatic 54, 3) := by decide +kernel
theorem dX5_set_66 : decode cX5_set 66 = .ok (.ifCond .eq 15, 3) := by decide +kernel
theorem dX5_set_69 : decode cX5_set 69 = .ok (.aload_n 0, 1) := by decide +kernel
theorem dX5_set_70 : decode cX5_set 70 = .ok (.getfield 27, 3) := by decide +kernel
theorem dX5_set_73 : decode cX5_set 73 = .ok (.istore_n 3, 1) := by decide +kernel
theorem dX5_set_74 : decode cX5_set 74 = .ok (.aload_n 0, 1) := by decide +kernel
theorem dX5_set_75 : decode cX5_set 75 = .ok (.iload_n 2, 1) := by decide +kernel
theorem dX5_set_76 : decode cX5_set 76 = .ok (.putfield 27, 3) := by decide +kernel
theorem dX5_set_79 : decode cX5_set 79 = .ok (.iload_n 3, 1) := by decide +kernel
theorem dX5_set_80 : decode cX5_set 80 = .ok (.ireturn, 1) := by decide +kernel
theorem dX5_set_81 : decode cX5_set 81 = .ok (.iload_n 1, 1) := by decide +kernel
theorem dX5_set_82 : decode cX5_set 82 = .ok (.iconst 3, 1) := by decide +kernel
theorem dX5_set_83 : decode cX5_set 83 = .ok (.if_icmp .ne 25, 3) := by decide +kernel
theorem dX5_set_86 : decode cX5_set 86 = .ok (.iload_n 2, 1) := by decide +kernel
theorem dX5_set_87 : decode cX5_set 87 = .ok (.iconst 1, 1) := by decide +kernel
theorem dX5_set_88 : decode cX5_set 88 = .ok (.bipush 40, 2) := by decide +kernel
theorem dX5_set_90 : decode cX5_set 90 = .ok (.invokestatic 54, 3) := by decide +kernel
theorem dX5_set_93 : decode cX5_set 93 = .ok (.ifCond .eq 15, 3) := by decide +kernel
theorem dX5_set_96 : decode cX5_set 96 = .ok (.aload_n 0, 1) := by decide +kernel
theorem dX5_set_97 : decode cX5_set 97 = .ok (.getfield 30, 3) := by decide +kernel
theorem dX5_set_100 : decode cX5_set 100 = .ok (.istore_n 3, 1) := by decide +kernel
theorem dX5_set_101 : decode cX5_set 101 = .ok (.aload_n 0, 1) := by decide +kernel
theorem dX5_set_102 : decode cX5_set 102 = .ok (.iload_n 2, 1) := by decide +kernel
theorem dX5_set_103 : decode cX5_set 103 = .ok (.putfield 30, 3) := by decide +kernel
theorem dX5_set_106 : decode cX5_set 106 = .ok (.iload_n 3, 1) := by decide +kernel
theorem dX5_set_107 : decode cX5_set 107 = .ok (.ireturn, 1) := by decide +kernel
theorem dX5_set_108 : decode cX5_set 108 = .ok (.bipush (-3), 2) := by decide +kernel
theorem dX5_set_110 : decode cX5_set 110 = .ok (.ireturn, 1) := by decide +kernel
set_option maxRecDepth 20000 in
theorem ggX5_wantedOf_X5_less : GoodIn wsX5_wantedOf wsX5_less := goodIn_r _ [8] (by decide +kernel) (by decide +kernel)
set_option maxRecDepth 20000 in
theorem gX5_wantedOf_X5_less : GoodIn wsX5_wantedOf (va_wsS RX5 65 yX5_less wsX5_less) := goodIn_app (goodIn_of _ (by decide +kernel)) ggX5_wantedOf_X5_less
set_option maxRecDepth 20000 in
theorem ggX5_wantedOf_X5_more : GoodIn wsX5_wantedOf wsX5_more := goodIn_r _ [11] (by decide +kernel) (by decide +kernel)
set_option maxRecDepth 20000 in
theorem gX5_wantedOf_X5_more : GoodIn wsX5_wantedOf (va_wsS RX5 86 yX5_more wsX5_more) := goodIn_app (goodIn_of _ (by decide +kernel)) ggX5_wantedOf_X5_more
theorem dX5_wantedOf_0 : decode cX5_wantedOf 0 = .ok (.iload_n 2, 1) := by decide +kernel
theorem dX5_wantedOf_1 : decode cX5_wantedOf 1 = .ok (.ifCond .ne 19, 3) := by decide +kernel
theorem dX5_wantedOf_4 : decode cX5_wantedOf 4 = .ok (.aload_n 0, 1) := by decide +kernel
theorem dX5_wantedOf_5 : decode cX5_wantedOf 5 = .ok (.getfield 7, 3) := by decide +kernel
theorem dX5_wantedOf_8 : decode cX5_wantedOf 8 = .ok (.iload_n 1, 1) := by decide +kernel
theorem dX5_wantedOf_9 : decode cX5_wantedOf 9 = .ok (.iaload, 1) := by decide +kernel
theorem dX5_wantedOf_10 : decode cX5_wantedOf 10 = .ok (.aload_n 0, 1) := by decide +kernel
theorem dX5_wantedOf_11 : decode cX5_wantedOf 11 = .ok (.getfield 24, 3) := by decide +kernel
theorem dX5_wantedOf_14 : decode cX5_wantedOf 14 = .ok (.invokestatic 65, 3) := by decide +kernel
theorem dX5_wantedOf_17 : decode cX5_wantedOf 17 = .ok (.goto 18, 3) := by decide +kernel
theorem dX5_wantedOf_20 : decode cX5_wantedOf 20 = .ok (.iconst 0, 1) := by decide +kernel
theorem dX5_wantedOf_21 : decode cX5_wantedOf 21 = .ok (.aload_n 0, 1) := by decide +kernel
theorem dX5_wantedOf_22 : decode cX5_wantedOf 22 = .ok (.getfield 7, 3) := by decide +kernel
theorem dX5_wantedOf_25 : decode cX5_wantedOf 25 = .ok (.iload_n 1, 1) := by decide +kernel
theorem dX5_wantedOf_26 : decode cX5_wantedOf 26 = .ok (.iaload, 1) := by decide +kernel
theorem dX5_wantedOf_27 : decode cX5_wantedOf 27 = .ok (.aload_n 0, 1) := by decide +kernel
theorem dX5_wantedOf_28 : decode cX5_wantedOf 28 = .ok (.getfield 24, 3) := by decide +kernel
theorem dX5_wantedOf_31 : decode cX5_wantedOf 31 = .ok (.isub, 1) := by decide +kernel
theorem dX5_wantedOf_32 : decode cX5_wantedOf 32 = .ok (.invokestatic 86, 3) := by decide +kernel
theorem dX5_wantedOf_35 : decode cX5_wantedOf 35 = .ok (.istore_n 3, 1) := by decide +kernel
theorem dX5_wantedOf_36 : decode cX5_wantedOf 36 = .ok (.aload_n 0, 1) := by decide +kernel
theorem dX5_wantedOf_37 : decode cX5_wantedOf 37 = .ok (.getfield 20, 3) := by decide +kernel
theorem dX5_wantedOf_40 : decode cX5_wantedOf 40 = .ok (.iload_n 3, 1) := by decide +kernel
theorem dX5_wantedOf_41 : decode cX5_wantedOf 41 = .ok (.imul, 1) := by decide +kernel
theorem dX5_wantedOf_42 : decode cX5_wantedOf 42 = .ok (.bipush 100, 2) := by decide +kernel
theorem dX5_wantedOf_44 : decode cX5_wantedOf 44 = .ok (.idiv, 1) := by decide +kernel
theorem dX5_wantedOf_45 : decode cX5_wantedOf 45 = .ok (.istore 4, 2) := by decide +kernel
theorem dX5_wantedOf_47 : decode cX5_wantedOf 47 = .ok (.iload 4, 2) := by decide +kernel
theorem dX5_wantedOf_49 : decode cX5_wantedOf 49 = .ok (.aload_n 0, 1) := by decide +kernel
theorem dX5_wantedOf_50 : decode cX5_wantedOf 50 = .ok (.getfield 27, 3) := by decide +kernel
theorem dX5_wantedOf_53 : decode cX5_wantedOf 53 = .ok (.if_icmp .ge 7, 3) := by decide +kernel
theorem dX5_wantedOf_56 : decode cX5_wantedOf 56 = .ok (.iconst 0, 1) := by decide +kernel
theorem dX5_wantedOf_57 : decode cX5_wantedOf 57 = .ok (.goto 5, 3) := by decide +kernel
theorem dX5_wantedOf_60 : decode cX5_wantedOf 60 = .ok (.iload 4, 2) := by decide +kernel
theorem dX5_wantedOf_62 : decode cX5_wantedOf 62 = .ok (.ireturn, 1) := by decide +kernel
theorem dX5_wayOf_0 : decode cX5_wayOf 0 = .ok (.aload_n 0, 1) := by decide +kernel
theorem dX5_wayOf_1 : decode cX5_wayOf 1 = .ok (.getfield 13, 3) := by decide +kernel
theorem dX5_wayOf_4 : decode cX5_wayOf 4 = .ok (.iload_n 1, 1) := by decide +kernel
theorem dX5_wayOf_5 : decode cX5_wayOf 5 = .ok (.iaload, 1) := by decide +kernel
theorem dX5_wayOf_6 : decode cX5_wayOf 6 = .ok (.iconst 4, 1) := by decide +kernel
theorem dX5_wayOf_7 : decode cX5_wayOf 7 = .ok (.iload_n 2, 1) := by decide +kernel
theorem dX5_wayOf_8 : decode cX5_wayOf 8 = .ok (.imul, 1) := by decide +kernel
theorem dX5_wayOf_9 : decode cX5_wayOf 9 = .ok (.iadd, 1) := by decide +kernel
theorem dX5_wayOf_10 : decode cX5_wayOf 10 = .ok (.bipush 8, 2) := by decide +kernel
theorem dX5_wayOf_12 : decode cX5_wayOf 12 = .ok (.irem, 1) := by decide +kernel
theorem dX5_wayOf_13 : decode cX5_wayOf 13 = .ok (.iconst 2, 1) := by decide +kernel
theorem dX5_wayOf_14 : decode cX5_wayOf 14 = .ok (.idiv, 1) := by decide +kernel
theorem dX5_wayOf_15 : decode cX5_wayOf 15 = .ok (.ireturn, 1) := by decide +kernel
set_option maxRecDepth 20000 in
theorem ggX5_tied_X5_wayOf : GoodIn wsX5_tied wsX5_wayOf := goodIn_r _ [6, 7, 14, 15, 16, 17, 18, 19, 20, 21, 22, 23, 24, 25, 26, 27, 28, 29] (by decide +kernel) (by decide +kernel)
set_option maxRecDepth 20000 in
theorem gX5_tied_X5_wayOf : GoodIn wsX5_tied (wsV RX5 89 RX5 yX5_wayOf wsX5_wayOf) := goodIn_app (goodIn_of _ (by decide +kernel)) ggX5_tied_X5_wayOf
set_option maxRecDepth 20000 in
theorem ggX5_tied_X5_isCell : GoodIn wsX5_tied wsX5_isCell := goodIn_r _ [10, 11, 12, 5, 13] (by decide +kernel) (by decide +kernel)
set_option maxRecDepth 20000 in
theorem gX5_tied_X5_isCell : GoodIn wsX5_tied (va_wsS RX5 58 yX5_isCell wsX5_isCell) := goodIn_app (goodIn_of _ (by decide +kernel)) ggX5_tied_X5_isCell
theorem dX5_tied_0 : decode cX5_tied 0 = .ok (.aload_n 0, 1) := by decide +kernel
theorem dX5_tied_1 : decode cX5_tied 1 = .ok (.iload_n 1, 1) := by decide +kernel
theorem dX5_tied_2 : decode cX5_tied 2 = .ok (.iload_n 2, 1) := by decide +kernel
theorem dX5_tied_3 : decode cX5_tied 3 = .ok (.invokevirtual 89, 3) := by decide +kernel
theorem dX5_tied_6 : decode cX5_tied 6 = .ok (.istore 4, 2) := by decide +kernel
theorem dX5_tied_8 : decode cX5_tied 8 = .ok (.iload_n 1, 1) := by decide +kernel
theorem dX5_tied_9 : decode cX5_tied 9 = .ok (.bipush 8, 2) := by decide +kernel
theorem dX5_tied_11 : decode cX5_tied 11 = .ok (.irem, 1) := by decide +kernel
theorem dX5_tied_12 : decode cX5_tied 12 = .ok (.iload_n 3, 1) := by decide +kernel
theorem dX5_tied_13 : decode cX5_tied 13 = .ok (.iload 4, 2) := by decide +kernel
theorem dX5_tied_15 : decode cX5_tied 15 = .ok (.ifCond .eq 9, 3) := by decide +kernel
theorem dX5_tied_18 : decode cX5_tied 18 = .ok (.iload 4, 2) := by decide +kernel
theorem dX5_tied_20 : decode cX5_tied 20 = .ok (.iconst 1, 1) := by decide +kernel
theorem dX5_tied_21 : decode cX5_tied 21 = .ok (.if_icmp .ne 7, 3) := by decide +kernel
theorem dX5_tied_24 : decode cX5_tied 24 = .ok (.iconst 1, 1) := by decide +kernel
theorem dX5_tied_25 : decode cX5_tied 25 = .ok (.goto 14, 3) := by decide +kernel
theorem dX5_tied_28 : decode cX5_tied 28 = .ok (.iload 4, 2) := by decide +kernel
theorem dX5_tied_30 : decode cX5_tied 30 = .ok (.iconst 2, 1) := by decide +kernel
theorem dX5_tied_31 : decode cX5_tied 31 = .ok (.if_icmp .ne 7, 3) := by decide +kernel
theorem dX5_tied_34 : decode cX5_tied 34 = .ok (.iconst 0, 1) := by decide +kernel
theorem dX5_tied_35 : decode cX5_tied 35 = .ok (.goto 4, 3) := by decide +kernel
theorem dX5_tied_38 : decode cX5_tied 38 = .ok (.iconst (-1), 1) := by decide +kernel
theorem dX5_tied_39 : decode cX5_tied 39 = .ok (.imul, 1) := by decide +kernel
theorem dX5_tied_40 : decode cX5_tied 40 = .ok (.iadd, 1) := by decide +kernel
theorem dX5_tied_41 : decode cX5_tied 41 = .ok (.istore 5, 2) := by decide +kernel
theorem dX5_tied_43 : decode cX5_tied 43 = .ok (.iload_n 1, 1) := by decide +kernel
theorem dX5_tied_44 : decode cX5_tied 44 = .ok (.bipush 8, 2) := by decide +kernel
theorem dX5_tied_46 : decode cX5_tied 46 = .ok (.idiv, 1) := by decide +kernel
theorem dX5_tied_47 : decode cX5_tied 47 = .ok (.iload_n 3, 1) := by decide +kernel
theorem dX5_tied_48 : decode cX5_tied 48 = .ok (.iload 4, 2) := by decide +kernel
theorem dX5_tied_50 : decode cX5_tied 50 = .ok (.ifCond .ne 7, 3) := by decide +kernel
theorem dX5_tied_53 : decode cX5_tied 53 = .ok (.iconst 0, 1) := by decide +kernel
theorem dX5_tied_54 : decode cX5_tied 54 = .ok (.goto 4, 3) := by decide +kernel
theorem dX5_tied_57 : decode cX5_tied 57 = .ok (.iconst 1, 1) := by decide +kernel
theorem dX5_tied_58 : decode cX5_tied 58 = .ok (.imul, 1) := by decide +kernel
theorem dX5_tied_59 : decode cX5_tied 59 = .ok (.iadd, 1) := by decide +kernel
theorem dX5_tied_60 : decode cX5_tied 60 = .ok (.istore 6, 2) := by decide +kernel
theorem dX5_tied_62 : decode cX5_tied 62 = .ok (.iload 5, 2) := by decide +kernel
theorem dX5_tied_64 : decode cX5_tied 64 = .ok (.iload 6, 2) := by decide +kernel
theorem dX5_tied_66 : decode cX5_tied 66 = .ok (.invokestatic 58, 3) := by decide +kernel
theorem dX5_tied_69 : decode cX5_tied 69 = .ok (.ifCond .eq 48, 3) := by decide +kernel
theorem dX5_tied_72 : decode cX5_tied 72 = .ok (.aload_n 0, 1) := by decide +kernel
theorem dX5_tied_73 : decode cX5_tied 73 = .ok (.getfield 33, 3) := by decide +kernel
theorem dX5_tied_76 : decode cX5_tied 76 = .ok (.bipush 8, 2) := by decide +kernel
theorem dX5_tied_78 : decode cX5_tied 78 = .ok (.iload 6, 2) := by decide +kernel
theorem dX5_tied_80 : decode cX5_tied 80 = .ok (.imul, 1) := by decide +kernel
theorem dX5_tied_81 : decode cX5_tied 81 = .ok (.iload 5, 2) := by decide +kernel
theorem dX5_tied_83 : decode cX5_tied 83 = .ok (.iadd, 1) := by decide +kernel
theorem dX5_tied_84 : decode cX5_tied 84 = .ok (.iaload, 1) := by decide +kernel
theorem dX5_tied_85 : decode cX5_tied 85 = .ok (.ifCond .le 32, 3) := by decide +kernel
theorem dX5_tied_88 : decode cX5_tied 88 = .ok (.aload_n 0, 1) := by decide +kernel
theorem dX5_tied_89 : decode cX5_tied 89 = .ok (.bipush 8, 2) := by decide +kernel
theorem dX5_tied_91 : decode cX5_tied 91 = .ok (.iload 6, 2) := by decide +kernel
theorem dX5_tied_93 : decode cX5_tied 93 = .ok (.imul, 1) := by decide +kernel
theorem dX5_tied_94 : decode cX5_tied 94 = .ok (.iload 5, 2) := by decide +kernel
theorem dX5_tied_96 : decode cX5_tied 96 = .ok (.iadd, 1) := by decide +kernel
theorem dX5_tied_97 : decode cX5_tied 97 = .ok (.iload_n 2, 1) := by decide +kernel
theorem dX5_tied_98 : decode cX5_tied 98 = .ok (.invokevirtual 89, 3) := by decide +kernel
theorem dX5_tied_101 : decode cX5_tied 101 = .ok (.iload 4, 2) := by decide +kernel
theorem dX5_tied_103 : decode cX5_tied 103 = .ok (.if_icmp .ne 14, 3) := by decide +kernel
theorem dX5_tied_106 : decode cX5_tied 106 = .ok (.bipush 8, 2) := by decide +kernel
theorem dX5_tied_108 : decode cX5_tied 108 = .ok (.iload 6, 2) := by decide +kernel
theorem dX5_tied_110 : decode cX5_tied 110 = .ok (.imul, 1) := by decide +kernel
theorem dX5_tied_111 : decode cX5_tied 111 = .ok (.iload 5, 2) := by decide +kernel
theorem dX5_tied_113 : decode cX5_tied 113 = .ok (.iadd, 1) := by decide +kernel
theorem dX5_tied_114 : decode cX5_tied 114 = .ok (.goto 4, 3) := by decide +kernel
theorem dX5_tied_117 : decode cX5_tied 117 = .ok (.iconst (-1), 1) := by decide +kernel
theorem dX5_tied_118 : decode cX5_tied 118 = .ok (.ireturn, 1) := by decide +kernel
set_option maxRecDepth 20000 in
theorem ggX5_findLayer_X5_wantedOf : GoodIn wsX5_findLayer wsX5_wantedOf := goodIn_r _ [12, 13, 14, 15, 16, 17, 18, 11, 19, 20, 21, 22, 38, 39, 40, 41, 42, 43, 44, 45, 46, 47, 48, 49, 50, 51, 52, 53] (by decide +kernel) (by decide +kernel)
set_option maxRecDepth 20000 in
theorem gX5_findLayer_X5_wantedOf : GoodIn wsX5_findLayer (wsV RX5 92 RX5 yX5_wantedOf wsX5_wantedOf) := goodIn_app (goodIn_of _ (by decide +kernel)) ggX5_findLayer_X5_wantedOf
set_option maxRecDepth 20000 in
theorem ggX5_findLayer_X5_tied : GoodIn wsX5_findLayer wsX5_tied := goodIn_r _ [26, 1, 27, 28, 29, 11, 30, 31, 32, 33, 34, 35, 36, 37, 38, 39, 40, 41, 42, 43, 44, 45, 46, 47, 48, 49, 50, 51, 52, 53] (by decide +kernel) (by decide +kernel)
set_option maxRecDepth 20000 in
theorem gX5_findLayer_X5_tied : GoodIn wsX5_findLayer (wsV RX5 98 RX5 yX5_tied wsX5_tied) := goodIn_app (goodIn_of _ (by decide +kernel)) ggX5_findLayer_X5_tied
set_option maxRecDepth 20000 in
theorem ggX5_findLayer_X5_less : GoodIn wsX5_findLayer wsX5_less := goodIn_r _ [19] (by decide +kernel) (by decide +kernel)
set_option maxRecDepth 20000 in
theorem gX5_findLayer_X5_less : GoodIn wsX5_findLayer (va_wsS RX5 65 yX5_less wsX5_less) := goodIn_app (goodIn_of _ (by decide +kernel)) ggX5_findLayer_X5_less
theorem dX5_findLayer_0 : decode cX5_findLayer 0 = .ok (.iconst 0, 1) := by decide +kernel
theorem dX5_findLayer_1 : decode cX5_findLayer 1 = .ok (.istore_n 2, 1) := by decide +kernel
theorem dX5_findLayer_2 : decode cX5_findLayer 2 = .ok (.iload_n 2, 1) := by decide +kernel
theorem dX5_findLayer_3 : decode cX5_findLayer 3 = .ok (.bipush 64, 2) := by decide +kernel
theorem dX5_findLayer_5 : decode cX5_findLayer 5 = .ok (.if_icmp .ge 28, 3) := by decide +kernel
theorem dX5_findLayer_8 : decode cX5_findLayer 8 = .ok (.aload_n 0, 1) := by decide +kernel
theorem dX5_findLayer_9 : decode cX5_findLayer 9 = .ok (.getfield 33, 3) := by decide +kernel
theorem dX5_findLayer_12 : decode cX5_findLayer 12 = .ok (.iload_n 2, 1) := by decide +kernel
theorem dX5_findLayer_13 : decode cX5_findLayer 13 = .ok (.aload_n 0, 1) := by decide +kernel
theorem dX5_findLayer_14 : decode cX5_findLayer 14 = .ok (.iload_n 2, 1) := by decide +kernel
theorem dX5_findLayer_15 : decode cX5_findLayer 15 = .ok (.iload_n 1, 1) := by decide +kernel
theorem dX5_findLayer_16 : decode cX5_findLayer 16 = .ok (.invokevirtual 92, 3) := by decide +kernel
theorem dX5_findLayer_19 : decode cX5_findLayer 19 = .ok (.iastore, 1) := by decide +kernel
theorem dX5_findLayer_20 : decode cX5_findLayer 20 = .ok (.aload_n 0, 1) := by decide +kernel
theorem dX5_findLayer_21 : decode cX5_findLayer 21 = .ok (.getfield 36, 3) := by decide +kernel
theorem dX5_findLayer_24 : decode cX5_findLayer 24 = .ok (.iload_n 2, 1) := by decide +kernel
theorem dX5_findLayer_25 : decode cX5_findLayer 25 = .ok (.iconst 0, 1) := by decide +kernel
theorem dX5_findLayer_26 : decode cX5_findLayer 26 = .ok (.iastore, 1) := by decide +kernel
theorem dX5_findLayer_27 : decode cX5_findLayer 27 = .ok (.iinc 2 1, 3) := by decide +kernel
theorem dX5_findLayer_30 : decode cX5_findLayer 30 = .ok (.goto (-28), 3) := by decide +kernel
theorem dX5_findLayer_33 : decode cX5_findLayer 33 = .ok (.aload_n 0, 1) := by decide +kernel
theorem dX5_findLayer_34 : decode cX5_findLayer 34 = .ok (.iconst 0, 1) := by decide +kernel
theorem dX5_findLayer_35 : decode cX5_findLayer 35 = .ok (.putfield 95, 3) := by decide +kernel
theorem dX5_findLayer_38 : decode cX5_findLayer 38 = .ok (.iconst 0, 1) := by decide +kernel
theorem dX5_findLayer_39 : decode cX5_findLayer 39 = .ok (.istore_n 2, 1) := by decide +kernel
theorem dX5_findLayer_40 : decode cX5_findLayer 40 = .ok (.iload_n 2, 1) := by decide +kernel
theorem dX5_findLayer_41 : decode cX5_findLayer 41 = .ok (.bipush 64, 2) := by decide +kernel
theorem dX5_findLayer_43 : decode cX5_findLayer 43 = .ok (.if_icmp .ge 187, 3) := by decide +kernel
theorem dX5_findLayer_46 : decode cX5_findLayer 46 = .ok (.aload_n 0, 1) := by decide +kernel
theorem dX5_findLayer_47 : decode cX5_findLayer 47 = .ok (.getfield 33, 3) := by decide +kernel
theorem dX5_findLayer_50 : decode cX5_findLayer 50 = .ok (.iload_n 2, 1) := by decide +kernel
theorem dX5_findLayer_51 : decode cX5_findLayer 51 = .ok (.iaload, 1) := by decide +kernel
theorem dX5_findLayer_52 : decode cX5_findLayer 52 = .ok (.ifCond .le 172, 3) := by decide +kernel
theorem dX5_findLayer_55 : decode cX5_findLayer 55 = .ok (.aload_n 0, 1) := by decide +kernel
theorem dX5_findLayer_56 : decode cX5_findLayer 56 = .ok (.iload_n 2, 1) := by decide +kernel
theorem dX5_findLayer_57 : decode cX5_findLayer 57 = .ok (.iload_n 1, 1) := by decide +kernel
theorem dX5_findLayer_58 : decode cX5_findLayer 58 = .ok (.iconst (-1), 1) := by decide +kernel
theorem dX5_findLayer_59 : decode cX5_findLayer 59 = .ok (.invokevirtual 98, 3) := by decide +kernel
theorem dX5_findLayer_62 : decode cX5_findLayer 62 = .ok (.iconst (-1), 1) := by decide +kernel
theorem dX5_findLayer_63 : decode cX5_findLayer 63 = .ok (.if_icmp .ne 161, 3) := by decide +kernel
theorem dX5_findLayer_66 : decode cX5_findLayer 66 = .ok (.aload_n 0, 1) := by decide +kernel
theorem dX5_findLayer_67 : decode cX5_findLayer 67 = .ok (.getfield 39, 3) := by decide +kernel
theorem dX5_findLayer_70 : decode cX5_findLayer 70 = .ok (.aload_n 0, 1) := by decide +kernel
theorem dX5_findLayer_71 : decode cX5_findLayer 71 = .ok (.getfield 95, 3) := by decide +kernel
theorem dX5_findLayer_74 : decode cX5_findLayer 74 = .ok (.iload_n 2, 1) := by decide +kernel
theorem dX5_findLayer_75 : decode cX5_findLayer 75 = .ok (.iastore, 1) := by decide +kernel
theorem dX5_findLayer_76 : decode cX5_findLayer 76 = .ok (.aload_n 0, 1) := by decide +kernel
theorem dX5_findLayer_77 : decode cX5_findLayer 77 = .ok (.getfield 45, 3) := by decide +kernel
theorem dX5_findLayer_80 : decode cX5_findLayer 80 = .ok (.aload_n 0, 1) := by decide +kernel
theorem dX5_findLayer_81 : decode cX5_findLayer 81 = .ok (.getfield 95, 3) := by decide +kernel
theorem dX5_findLayer_84 : decode cX5_findLayer 84 = .ok (.iconst 0, 1) := by decide +kernel
theorem dX5_findLayer_85 : decode cX5_findLayer 85 = .ok (.iastore, 1) := by decide +kernel
theorem dX5_findLayer_86 : decode cX5_findLayer 86 = .ok (.iload_n 2, 1) := by decide +kernel
theorem dX5_findLayer_87 : decode cX5_findLayer 87 = .ok (.istore_n 3, 1) := by decide +kernel
theorem dX5_findLayer_88 : decode cX5_findLayer 88 = .ok (.sipush 1000, 3) := by decide +kernel
theorem dX5_findLayer_91 : decode cX5_findLayer 91 = .ok (.istore 4, 2) := by decide +kernel
theorem dX5_findLayer_93 : decode cX5_findLayer 93 = .ok (.iload_n 3, 1) := by decide +kernel
theorem dX5_findLayer_94 : decode cX5_findLayer 94 = .ok (.iconst (-1), 1) := by decide +kernel
theorem dX5_findLayer_95 : decode cX5_findLayer 95 = .ok (.if_icmp .eq 63, 3) := by decide +kernel
theorem dX5_findLayer_98 : decode cX5_findLayer 98 = .ok (.iload 4, 2) := by decide +kernel
theorem dX5_findLayer_100 : decode cX5_findLayer 100 = .ok (.aload_n 0, 1) := by decide +kernel
theorem dX5_findLayer_101 : decode cX5_findLayer 101 = .ok (.getfield 30, 3) := by decide +kernel
theorem dX5_findLayer_104 : decode cX5_findLayer 104 = .ok (.iadd, 1) := by decide +kernel
theorem dX5_findLayer_105 : decode cX5_findLayer 105 = .ok (.aload_n 0, 1) := by decide +kernel
theorem dX5_findLayer_106 : decode cX5_findLayer 106 = .ok (.getfield 33, 3) := by decide +kernel
theorem dX5_findLayer_109 : decode cX5_findLayer 109 = .ok (.iload_n 3, 1) := by decide +kernel
theorem dX5_findLayer_110 : decode cX5_findLayer 110 = .ok (.iaload, 1) := by decide +kernel
theorem dX5_findLayer_111 : decode cX5_findLayer 111 = .ok (.invokestatic 65, 3) := by decide +kernel
theorem dX5_findLayer_114 : decode cX5_findLayer 114 = .ok (.istore 4, 2) := by decide +kernel
theorem dX5_findLayer_116 : decode cX5_findLayer 116 = .ok (.aload_n 0, 1) := by decide +kernel
theorem dX5_findLayer_117 : decode cX5_findLayer 117 = .ok (.getfield 36, 3) := by decide +kernel
theorem dX5_findLayer_120 : decode cX5_findLayer 120 = .ok (.iload_n 3, 1) := by decide +kernel
theorem dX5_findLayer_121 : decode cX5_findLayer 121 = .ok (.iload 4, 2) := by decide +kernel
theorem dX5_findLayer_123 : decode cX5_findLayer 123 = .ok (.iastore, 1) := by decide +kernel
theorem dX5_findLayer_124 : decode cX5_findLayer 124 = .ok (.aload_n 0, 1) := by decide +kernel
theorem dX5_findLayer_125 : decode cX5_findLayer 125 = .ok (.getfield 42, 3) := by decide +kernel
theorem dX5_findLayer_128 : decode cX5_findLayer 128 = .ok (.aload_n 0, 1) := by decide +kernel
theorem dX5_findLayer_129 : decode cX5_findLayer 129 = .ok (.getfield 95, 3) := by decide +kernel
theorem dX5_findLayer_132 : decode cX5_findLayer 132 = .ok (.iload_n 3, 1) := by decide +kernel
theorem dX5_findLayer_133 : decode cX5_findLayer 133 = .ok (.iastore, 1) := by decide +kernel
theorem dX5_findLayer_134 : decode cX5_findLayer 134 = .ok (.aload_n 0, 1) := by decide +kernel
theorem dX5_findLayer_135 : decode cX5_findLayer 135 = .ok (.getfield 45, 3) := by decide +kernel
theorem dX5_findLayer_138 : decode cX5_findLayer 138 = .ok (.aload_n 0, 1) := by decide +kernel
theorem dX5_findLayer_139 : decode cX5_findLayer 139 = .ok (.getfield 95, 3) := by decide +kernel
theorem dX5_findLayer_142 : decode cX5_findLayer 142 = .ok (.dup2, 1) := by decide +kernel
theorem dX5_findLayer_143 : decode cX5_findLayer 143 = .ok (.iaload, 1) := by decide +kernel
theorem dX5_findLayer_144 : decode cX5_findLayer 144 = .ok (.iconst 1, 1) := by decide +kernel
theorem dX5_findLayer_145 : decode cX5_findLayer 145 = .ok (.iadd, 1) := by decide +kernel
theorem dX5_findLayer_146 : decode cX5_findLayer 146 = .ok (.iastore, 1) := by decide +kernel
theorem dX5_findLayer_147 : decode cX5_findLayer 147 = .ok (.aload_n 0, 1) := by decide +kernel
theorem dX5_findLayer_148 : decode cX5_findLayer 148 = .ok (.iload_n 3, 1) := by decide +kernel
theorem dX5_findLayer_149 : decode cX5_findLayer 149 = .ok (.iload_n 1, 1) := by decide +kernel
theorem dX5_findLayer_150 : decode cX5_findLayer 150 = .ok (.iconst 1, 1) := by decide +kernel
theorem dX5_findLayer_151 : decode cX5_findLayer 151 = .ok (.invokevirtual 98, 3) := by decide +kernel
theorem dX5_findLayer_154 : decode cX5_findLayer 154 = .ok (.istore_n 3, 1) := by decide +kernel
theorem dX5_findLayer_155 : decode cX5_findLayer 155 = .ok (.goto (-62), 3) := by decide +kernel
theorem dX5_findLayer_158 : decode cX5_findLayer 158 = .ok (.aload_n 0, 1) := by decide +kernel
theorem dX5_findLayer_159 : decode cX5_findLayer 159 = .ok (.getfield 42, 3) := by decide +kernel
theorem dX5_findLayer_162 : decode cX5_findLayer 162 = .ok (.aload_n 0, 1) := by decide +kernel
theorem dX5_findLayer_163 : decode cX5_findLayer 163 = .ok (.getfield 95, 3) := by decide +kernel
theorem dX5_findLayer_166 : decode cX5_findLayer 166 = .ok (.iaload, 1) := by decide +kernel
theorem dX5_findLayer_167 : decode cX5_findLayer 167 = .ok (.istore_n 3, 1) := by decide +kernel
theorem dX5_findLayer_168 : decode cX5_findLayer 168 = .ok (.iload_n 3, 1) := by decide +kernel
theorem dX5_findLayer_169 : decode cX5_findLayer 169 = .ok (.iconst (-1), 1) := by decide +kernel
theorem dX5_findLayer_170 : decode cX5_findLayer 170 = .ok (.if_icmp .eq 44, 3) := by decide +kernel
theorem dX5_findLayer_173 : decode cX5_findLayer 173 = .ok (.iload 4, 2) := by decide +kernel
theorem dX5_findLayer_175 : decode cX5_findLayer 175 = .ok (.aload_n 0, 1) := by decide +kernel
theorem dX5_findLayer_176 : decode cX5_findLayer 176 = .ok (.getfield 36, 3) := by decide +kernel
theorem dX5_findLayer_179 : decode cX5_findLayer 179 = .ok (.iload_n 3, 1) := by decide +kernel
theorem dX5_findLayer_180 : decode cX5_findLayer 180 = .ok (.iaload, 1) := by decide +kernel
theorem dX5_findLayer_181 : decode cX5_findLayer 181 = .ok (.invokestatic 65, 3) := by decide +kernel
theorem dX5_findLayer_184 : decode cX5_findLayer 184 = .ok (.istore 4, 2) := by decide +kernel
theorem dX5_findLayer_186 : decode cX5_findLayer 186 = .ok (.aload_n 0, 1) := by decide +kernel
theorem dX5_findLayer_187 : decode cX5_findLayer 187 = .ok (.getfield 36, 3) := by decide +kernel
theorem dX5_findLayer_190 : decode cX5_findLayer 190 = .ok (.iload_n 3, 1) := by decide +kernel
theorem dX5_findLayer_191 : decode cX5_findLayer 191 = .ok (.iload 4, 2) := by decide +kernel
theorem dX5_findLayer_193 : decode cX5_findLayer 193 = .ok (.iastore, 1) := by decide +kernel
theorem dX5_findLayer_194 : decode cX5_findLayer 194 = .ok (.iload 4, 2) := by decide +kernel
theorem dX5_findLayer_196 : decode cX5_findLayer 196 = .ok (.aload_n 0, 1) := by decide +kernel
theorem dX5_findLayer_197 : decode cX5_findLayer 197 = .ok (.getfield 30, 3) := by decide +kernel
theorem dX5_findLayer_200 : decode cX5_findLayer 200 = .ok (.iadd, 1) := by decide +kernel
theorem dX5_findLayer_201 : decode cX5_findLayer 201 = .ok (.istore 4, 2) := by decide +kernel
theorem dX5_findLayer_203 : decode cX5_findLayer 203 = .ok (.aload_n 0, 1) := by decide +kernel
theorem dX5_findLayer_204 : decode cX5_findLayer 204 = .ok (.iload_n 3, 1) := by decide +kernel
theorem dX5_findLayer_205 : decode cX5_findLayer 205 = .ok (.iload_n 1, 1) := by decide +kernel
theorem dX5_findLayer_206 : decode cX5_findLayer 206 = .ok (.iconst (-1), 1) := by decide +kernel
theorem dX5_findLayer_207 : decode cX5_findLayer 207 = .ok (.invokevirtual 98, 3) := by decide +kernel
theorem dX5_findLayer_210 : decode cX5_findLayer 210 = .ok (.istore_n 3, 1) := by decide +kernel
theorem dX5_findLayer_211 : decode cX5_findLayer 211 = .ok (.goto (-43), 3) := by decide +kernel
theorem dX5_findLayer_214 : decode cX5_findLayer 214 = .ok (.aload_n 0, 1) := by decide +kernel
theorem dX5_findLayer_215 : decode cX5_findLayer 215 = .ok (.dup, 1) := by decide +kernel
theorem dX5_findLayer_216 : decode cX5_findLayer 216 = .ok (.getfield 95, 3) := by decide +kernel
theorem dX5_findLayer_219 : decode cX5_findLayer 219 = .ok (.iconst 1, 1) := by decide +kernel
theorem dX5_findLayer_220 : decode cX5_findLayer 220 = .ok (.iadd, 1) := by decide +kernel
theorem dX5_findLayer_221 : decode cX5_findLayer 221 = .ok (.putfield 95, 3) := by decide +kernel
theorem dX5_findLayer_224 : decode cX5_findLayer 224 = .ok (.iinc 2 1, 3) := by decide +kernel
theorem dX5_findLayer_227 : decode cX5_findLayer 227 = .ok (.goto (-187), 3) := by decide +kernel
theorem dX5_findLayer_230 : decode cX5_findLayer 230 = .ok (.return_, 1) := by decide +kernel
theorem dX5_isLayer_0 : decode cX5_isLayer 0 = .ok (.iload_n 0, 1) := by decide +kernel
theorem dX5_isLayer_1 : decode cX5_isLayer 1 = .ok (.ifCond .eq 8, 3) := by decide +kernel
theorem dX5_isLayer_4 : decode cX5_isLayer 4 = .ok (.iload_n 0, 1) := by decide +kernel
theorem dX5_isLayer_5 : decode cX5_isLayer 5 = .ok (.iconst 1, 1) := by decide +kernel
theorem dX5_isLayer_6 : decode cX5_isLayer 6 = .ok (.if_icmp .ne 7, 3) := by decide +kernel
theorem dX5_isLayer_9 : decode cX5_isLayer 9 = .ok (.iconst 1, 1) := by decide +kernel
theorem dX5_isLayer_10 : decode cX5_isLayer 10 = .ok (.goto 4, 3) := by decide +kernel
theorem dX5_isLayer_13 : decode cX5_isLayer 13 = .ok (.iconst 0, 1) := by decide +kernel
theorem dX5_isLayer_14 : decode cX5_isLayer 14 = .ok (.ireturn, 1) := by decide +kernel
set_option maxRecDepth 20000 in
theorem ggX5_wanted_X5_isCell : GoodIn wsX5_wanted wsX5_isCell := goodIn_r _ [4, 5, 6, 3, 7] (by decide +kernel) (by decide +kernel)
set_option maxRecDepth 20000 in
theorem gX5_wanted_X5_isCell : GoodIn wsX5_wanted (va_wsS RX5 58 yX5_isCell wsX5_isCell) := goodIn_app (goodIn_of _ (by decide +kernel)) ggX5_wanted_X5_isCell
set_option maxRecDepth 20000 in
theorem ggX5_wanted_X5_isLayer : GoodIn wsX5_wanted wsX5_isLayer := goodIn_r _ [10] (by decide +kernel) (by decide +kernel)
set_option maxRecDepth 20000 in
theorem gX5_wanted_X5_isLayer : GoodIn wsX5_wanted (va_wsS RX5 101 yX5_isLayer wsX5_isLayer) := goodIn_app (goodIn_of _ (by decide +kernel)) ggX5_wanted_X5_isLayer
set_option maxRecDepth 20000 in
theorem ggX5_wanted_X5_wantedOf : GoodIn wsX5_wanted wsX5_wantedOf := goodIn_r _ [14, 15, 16, 17, 18, 19, 20, 3, 21, 22, 23, 24, 25, 26, 27, 28, 29, 30, 31, 32, 33, 34, 35, 36, 37, 38, 39, 40] (by decide +kernel) (by decide +kernel)
set_option maxRecDepth 20000 in
theorem gX5_wanted_X5_wantedOf : GoodIn wsX5_wanted (wsV RX5 92 RX5 yX5_wantedOf wsX5_wantedOf) := goodIn_app (goodIn_of _ (by decide +kernel)) ggX5_wanted_X5_wantedOf
theorem dX5_wanted_0 : decode cX5_wanted 0 = .ok (.iload_n 1, 1) := by decide +kernel
theorem dX5_wanted_1 : decode cX5_wanted 1 = .ok (.iload_n 2, 1) := by decide +kernel
theorem dX5_wanted_2 : decode cX5_wanted 2 = .ok (.invokestatic 58, 3) := by decide +kernel
theorem dX5_wanted_5 : decode cX5_wanted 5 = .ok (.ifCond .eq 24, 3) := by decide +kernel
theorem dX5_wanted_8 : decode cX5_wanted 8 = .ok (.iload_n 3, 1) := by decide +kernel
theorem dX5_wanted_9 : decode cX5_wanted 9 = .ok (.invokestatic 101, 3) := by decide +kernel
theorem dX5_wanted_12 : decode cX5_wanted 12 = .ok (.ifCond .eq 17, 3) := by decide +kernel
theorem dX5_wanted_15 : decode cX5_wanted 15 = .ok (.aload_n 0, 1) := by decide +kernel
theorem dX5_wanted_16 : decode cX5_wanted 16 = .ok (.bipush 8, 2) := by decide +kernel
theorem dX5_wanted_18 : decode cX5_wanted 18 = .ok (.iload_n 2, 1) := by decide +kernel
theorem dX5_wanted_19 : decode cX5_wanted 19 = .ok (.imul, 1) := by decide +kernel
theorem dX5_wanted_20 : decode cX5_wanted 20 = .ok (.iload_n 1, 1) := by decide +kernel
theorem dX5_wanted_21 : decode cX5_wanted 21 = .ok (.iadd, 1) := by decide +kernel
theorem dX5_wanted_22 : decode cX5_wanted 22 = .ok (.iload_n 3, 1) := by decide +kernel
theorem dX5_wanted_23 : decode cX5_wanted 23 = .ok (.invokevirtual 92, 3) := by decide +kernel
theorem dX5_wanted_26 : decode cX5_wanted 26 = .ok (.goto 5, 3) := by decide +kernel
theorem dX5_wanted_29 : decode cX5_wanted 29 = .ok (.bipush (-2), 2) := by decide +kernel
theorem dX5_wanted_31 : decode cX5_wanted 31 = .ok (.ireturn, 1) := by decide +kernel
set_option maxRecDepth 20000 in
theorem ggX5_width_X5_isCell : GoodIn wsX5_width wsX5_isCell := goodIn_r _ [5, 6, 7, 4, 8] (by decide +kernel) (by decide +kernel)
set_option maxRecDepth 20000 in
theorem gX5_width_X5_isCell : GoodIn wsX5_width (va_wsS RX5 58 yX5_isCell wsX5_isCell) := goodIn_app (goodIn_of _ (by decide +kernel)) ggX5_width_X5_isCell
set_option maxRecDepth 20000 in
theorem ggX5_width_X5_isLayer : GoodIn wsX5_width wsX5_isLayer := goodIn_r _ [11] (by decide +kernel) (by decide +kernel)
set_option maxRecDepth 20000 in
theorem gX5_width_X5_isLayer : GoodIn wsX5_width (va_wsS RX5 101 yX5_isLayer wsX5_isLayer) := goodIn_app (goodIn_of _ (by decide +kernel)) ggX5_width_X5_isLayer
set_option maxRecDepth 20000 in
theorem ggX5_width_X5_findLayer : GoodIn wsX5_width wsX5_findLayer := goodIn_r _ [15, 16, 1, 17, 18, 19, 20, 21, 22, 23, 24, 4, 25, 26, 27, 28, 29, 30, 31, 32, 33, 34, 35, 36, 37, 38, 39, 40, 41, 42, 43, 44, 2, 3, 5, 6, 7, 8, 45, 46, 47, 48, 49, 50, 51, 52, 53, 54, 55, 56, 57, 58, 59, 60] (by decide +kernel) (by decide +kernel)
set_option maxRecDepth 20000 in
theorem gX5_width_X5_findLayer : GoodIn wsX5_width (wsV RX5 105 RX5 yX5_findLayer wsX5_findLayer) := goodIn_app (goodIn_of _ (by decide +kernel)) ggX5_width_X5_findLayer
theorem dX5_width_0 : decode cX5_width 0 = .ok (.iload_n 1, 1) := by decide +kernel
theorem dX5_width_1 : decode cX5_width 1 = .ok (.iload_n 2, 1) := by decide +kernel
theorem dX5_width_2 : decode cX5_width 2 = .ok (.invokestatic 58, 3) := by decide +kernel
theorem dX5_width_5 : decode cX5_width 5 = .ok (.ifCond .eq 10, 3) := by decide +kernel
theorem dX5_width_8 : decode cX5_width 8 = .ok (.iload_n 3, 1) := by decide +kernel
theorem dX5_width_9 : decode cX5_width 9 = .ok (.invokestatic 101, 3) := by decide +kernel
theorem dX5_width_12 : decode cX5_width 12 = .ok (.ifCond .ne 6, 3) := by decide +kernel
theorem dX5_width_15 : decode cX5_width 15 = .ok (.bipush (-2), 2) := by decide +kernel
theorem dX5_width_17 : decode cX5_width 17 = .ok (.ireturn, 1) := by decide +kernel
theorem dX5_width_18 : decode cX5_width 18 = .ok (.aload_n 0, 1) := by decide +kernel
theorem dX5_width_19 : decode cX5_width 19 = .ok (.iload_n 3, 1) := by decide +kernel
theorem dX5_width_20 : decode cX5_width 20 = .ok (.invokevirtual 105, 3) := by decide +kernel
theorem dX5_width_23 : decode cX5_width 23 = .ok (.aload_n 0, 1) := by decide +kernel
theorem dX5_width_24 : decode cX5_width 24 = .ok (.getfield 36, 3) := by decide +kernel
theorem dX5_width_27 : decode cX5_width 27 = .ok (.bipush 8, 2) := by decide +kernel
theorem dX5_width_29 : decode cX5_width 29 = .ok (.iload_n 2, 1) := by decide +kernel
theorem dX5_width_30 : decode cX5_width 30 = .ok (.imul, 1) := by decide +kernel
theorem dX5_width_31 : decode cX5_width 31 = .ok (.iload_n 1, 1) := by decide +kernel
theorem dX5_width_32 : decode cX5_width 32 = .ok (.iadd, 1) := by decide +kernel
theorem dX5_width_33 : decode cX5_width 33 = .ok (.iaload, 1) := by decide +kernel
theorem dX5_width_34 : decode cX5_width 34 = .ok (.ireturn, 1) := by decide +kernel
set_option maxRecDepth 20000 in
theorem ggX5_made_X5_isCell : GoodIn wsX5_made wsX5_isCell := goodIn_r _ [6, 7, 8, 5, 9] (by decide +kernel) (by decide +kernel)
set_option maxRecDepth 20000 in
theorem gX5_made_X5_isCell : GoodIn wsX5_made (va_wsS RX5 58 yX5_isCell wsX5_isCell) := goodIn_app (goodIn_of _ (by decide +kernel)) ggX5_made_X5_isCell
set_option maxRecDepth 20000 in
theorem ggX5_made_X5_findLayer : GoodIn wsX5_made wsX5_findLayer := goodIn_r _ [13, 14, 1, 15, 16, 17, 18, 19, 20, 21, 22, 5, 23, 24, 25, 2, 26, 27, 28, 29, 30, 31, 32, 33, 34, 35, 36, 37, 38, 39, 40, 41, 3, 4, 6, 7, 8, 9, 42, 43, 44, 45, 46, 47, 48, 49, 50, 51, 52, 53, 54, 55, 56, 57] (by decide +kernel) (by decide +kernel)
set_option maxRecDepth 20000 in
theorem gX5_made_X5_findLayer : GoodIn wsX5_made (wsV RX5 105 RX5 yX5_findLayer wsX5_findLayer) := goodIn_app (goodIn_of _ (by decide +kernel)) ggX5_made_X5_findLayer
theorem dX5_made_0 : decode cX5_made 0 = .ok (.iload_n 1, 1) := by decide +kernel
theorem dX5_made_1 : decode cX5_made 1 = .ok (.iload_n 2, 1) := by decide +kernel
theorem dX5_made_2 : decode cX5_made 2 = .ok (.invokestatic 58, 3) := by decide +kernel
theorem dX5_made_5 : decode cX5_made 5 = .ok (.ifCond .ne 6, 3) := by decide +kernel
theorem dX5_made_8 : decode cX5_made 8 = .ok (.bipush (-2), 2) := by decide +kernel
theorem dX5_made_10 : decode cX5_made 10 = .ok (.ireturn, 1) := by decide +kernel
theorem dX5_made_11 : decode cX5_made 11 = .ok (.aload_n 0, 1) := by decide +kernel
theorem dX5_made_12 : decode cX5_made 12 = .ok (.iconst 0, 1) := by decide +kernel
theorem dX5_made_13 : decode cX5_made 13 = .ok (.invokevirtual 105, 3) := by decide +kernel
theorem dX5_made_16 : decode cX5_made 16 = .ok (.aload_n 0, 1) := by decide +kernel
theorem dX5_made_17 : decode cX5_made 17 = .ok (.getfield 36, 3) := by decide +kernel
theorem dX5_made_20 : decode cX5_made 20 = .ok (.bipush 8, 2) := by decide +kernel
theorem dX5_made_22 : decode cX5_made 22 = .ok (.iload_n 2, 1) := by decide +kernel
theorem dX5_made_23 : decode cX5_made 23 = .ok (.imul, 1) := by decide +kernel
theorem dX5_made_24 : decode cX5_made 24 = .ok (.iload_n 1, 1) := by decide +kernel
theorem dX5_made_25 : decode cX5_made 25 = .ok (.iadd, 1) := by decide +kernel
theorem dX5_made_26 : decode cX5_made 26 = .ok (.iaload, 1) := by decide +kernel
theorem dX5_made_27 : decode cX5_made 27 = .ok (.istore_n 3, 1) := by decide +kernel
theorem dX5_made_28 : decode cX5_made 28 = .ok (.aload_n 0, 1) := by decide +kernel
theorem dX5_made_29 : decode cX5_made 29 = .ok (.iconst 1, 1) := by decide +kernel
theorem dX5_made_30 : decode cX5_made 30 = .ok (.invokevirtual 105, 3) := by decide +kernel
theorem dX5_made_33 : decode cX5_made 33 = .ok (.bipush 100, 2) := by decide +kernel
theorem dX5_made_35 : decode cX5_made 35 = .ok (.iload_n 3, 1) := by decide +kernel
theorem dX5_made_36 : decode cX5_made 36 = .ok (.aload_n 0, 1) := by decide +kernel
theorem dX5_made_37 : decode cX5_made 37 = .ok (.getfield 36, 3) := by decide +kernel
theorem dX5_made_40 : decode cX5_made 40 = .ok (.bipush 8, 2) := by decide +kernel
theorem dX5_made_42 : decode cX5_made 42 = .ok (.iload_n 2, 1) := by decide +kernel
theorem dX5_made_43 : decode cX5_made 43 = .ok (.imul, 1) := by decide +kernel
theorem dX5_made_44 : decode cX5_made 44 = .ok (.iload_n 1, 1) := by decide +kernel
theorem dX5_made_45 : decode cX5_made 45 = .ok (.iadd, 1) := by decide +kernel
theorem dX5_made_46 : decode cX5_made 46 = .ok (.iaload, 1) := by decide +kernel
theorem dX5_made_47 : decode cX5_made 47 = .ok (.iadd, 1) := by decide +kernel
theorem dX5_made_48 : decode cX5_made 48 = .ok (.imul, 1) := by decide +kernel
theorem dX5_made_49 : decode cX5_made 49 = .ok (.aload_n 0, 1) := by decide +kernel
theorem dX5_made_50 : decode cX5_made 50 = .ok (.getfield 20, 3) := by decide +kernel
theorem dX5_made_53 : decode cX5_made 53 = .ok (.idiv, 1) := by decide +kernel
theorem dX5_made_54 : decode cX5_made 54 = .ok (.ireturn, 1) := by decide +kernel
set_option maxRecDepth 20000 in
theorem ggX5_error_X5_in : GoodIn wsX5_error wsX5_in := goodIn_r _ [8] (by decide +kernel) (by decide +kernel)
set_option maxRecDepth 20000 in
theorem gX5_error_X5_in : GoodIn wsX5_error (va_wsS RX5 54 yX5_in wsX5_in) := goodIn_app (goodIn_of _ (by decide +kernel)) ggX5_error_X5_in
set_option maxRecDepth 20000 in
theorem ggX5_error_X5_findLayer : GoodIn wsX5_error wsX5_findLayer := goodIn_r _ [12, 13, 2, 14, 15, 16, 17, 18, 19, 20, 21, 7, 22, 3, 23, 4, 24, 25, 26, 27, 28, 29, 30, 31, 32, 33, 34, 35, 36, 37, 38, 39, 40, 41, 42, 5, 6, 8, 46, 47, 48, 49, 50, 51, 52, 53, 54, 55, 56, 57, 58, 59, 60, 61] (by decide +kernel) (by decide +kernel)
set_option maxRecDepth 20000 in
theorem gX5_error_X5_findLayer : GoodIn wsX5_error (wsV RX5 105 RX5 yX5_findLayer wsX5_findLayer) := goodIn_app (goodIn_of _ (by decide +kernel)) ggX5_error_X5_findLayer
set_option maxRecDepth 20000 in
theorem ggX5_error_X5_size : GoodIn wsX5_error wsX5_size := goodIn_r _ [45] (by decide +kernel) (by decide +kernel)
set_option maxRecDepth 20000 in
theorem gX5_error_X5_size : GoodIn wsX5_error (va_wsS RX5 62 yX5_size wsX5_size) := goodIn_app (goodIn_of _ (by decide +kernel)) ggX5_error_X5_size
set_option maxRecDepth 20000 in
theorem ggX5_error_X5_more : GoodIn wsX5_error wsX5_more := goodIn_r _ [30] (by decide +kernel) (by decide +kernel)
set_option maxRecDepth 20000 in
theorem gX5_error_X5_more : GoodIn wsX5_error (va_wsS RX5 86 yX5_more wsX5_more) := goodIn_app (goodIn_of _ (by decide +kernel)) ggX5_error_X5_more
theorem dX5_error_0 : decode cX5_error 0 = .ok (.iload_n 1, 1) := by decide +kernel
theorem dX5_error_1 : decode cX5_error 1 = .ok (.iconst 0, 1) := by decide +kernel
theorem dX5_error_2 : decode cX5_error 2 = .ok (.iconst 1, 1) := by decide +kernel
theorem dX5_error_3 : decode cX5_error 3 = .ok (.invokestatic 54, 3) := by decide +kernel
theorem dX5_error_6 : decode cX5_error 6 = .ok (.ifCond .ne 6, 3) := by decide +kernel
theorem dX5_error_9 : decode cX5_error 9 = .ok (.bipush (-3), 2) := by decide +kernel
theorem dX5_error_11 : decode cX5_error 11 = .ok (.ireturn, 1) := by decide +kernel
theorem dX5_error_12 : decode cX5_error 12 = .ok (.aload_n 0, 1) := by decide +kernel
theorem dX5_error_13 : decode cX5_error 13 = .ok (.iconst 0, 1) := by decide +kernel
theorem dX5_error_14 : decode cX5_error 14 = .ok (.invokevirtual 105, 3) := by decide +kernel
theorem dX5_error_17 : decode cX5_error 17 = .ok (.iconst 0, 1) := by decide +kernel
theorem dX5_error_18 : decode cX5_error 18 = .ok (.istore_n 2, 1) := by decide +kernel
theorem dX5_error_19 : decode cX5_error 19 = .ok (.iload_n 2, 1) := by decide +kernel
theorem dX5_error_20 : decode cX5_error 20 = .ok (.bipush 64, 2) := by decide +kernel
theorem dX5_error_22 : decode cX5_error 22 = .ok (.if_icmp .ge 21, 3) := by decide +kernel
theorem dX5_error_25 : decode cX5_error 25 = .ok (.aload_n 0, 1) := by decide +kernel
theorem dX5_error_26 : decode cX5_error 26 = .ok (.getfield 48, 3) := by decide +kernel
theorem dX5_error_29 : decode cX5_error 29 = .ok (.iload_n 2, 1) := by decide +kernel
theorem dX5_error_30 : decode cX5_error 30 = .ok (.aload_n 0, 1) := by decide +kernel
theorem dX5_error_31 : decode cX5_error 31 = .ok (.getfield 36, 3) := by decide +kernel
theorem dX5_error_34 : decode cX5_error 34 = .ok (.iload_n 2, 1) := by decide +kernel
theorem dX5_error_35 : decode cX5_error 35 = .ok (.iaload, 1) := by decide +kernel
theorem dX5_error_36 : decode cX5_error 36 = .ok (.iastore, 1) := by decide +kernel
theorem dX5_error_37 : decode cX5_error 37 = .ok (.iinc 2 1, 3) := by decide +kernel
theorem dX5_error_40 : decode cX5_error 40 = .ok (.goto (-21), 3) := by decide +kernel
theorem dX5_error_43 : decode cX5_error 43 = .ok (.aload_n 0, 1) := by decide +kernel
theorem dX5_error_44 : decode cX5_error 44 = .ok (.iconst 1, 1) := by decide +kernel
theorem dX5_error_45 : decode cX5_error 45 = .ok (.invokevirtual 105, 3) := by decide +kernel
theorem dX5_error_48 : decode cX5_error 48 = .ok (.iconst 0, 1) := by decide +kernel
theorem dX5_error_49 : decode cX5_error 49 = .ok (.istore_n 2, 1) := by decide +kernel
theorem dX5_error_50 : decode cX5_error 50 = .ok (.iconst 0, 1) := by decide +kernel
theorem dX5_error_51 : decode cX5_error 51 = .ok (.istore_n 3, 1) := by decide +kernel
theorem dX5_error_52 : decode cX5_error 52 = .ok (.iconst 0, 1) := by decide +kernel
theorem dX5_error_53 : decode cX5_error 53 = .ok (.istore 4, 2) := by decide +kernel
theorem dX5_error_55 : decode cX5_error 55 = .ok (.iload 4, 2) := by decide +kernel
theorem dX5_error_57 : decode cX5_error 57 = .ok (.bipush 64, 2) := by decide +kernel
theorem dX5_error_59 : decode cX5_error 59 = .ok (.if_icmp .ge 57, 3) := by decide +kernel
theorem dX5_error_62 : decode cX5_error 62 = .ok (.aload_n 0, 1) := by decide +kernel
theorem dX5_error_63 : decode cX5_error 63 = .ok (.getfield 7, 3) := by decide +kernel
theorem dX5_error_66 : decode cX5_error 66 = .ok (.iload 4, 2) := by decide +kernel
theorem dX5_error_68 : decode cX5_error 68 = .ok (.iaload, 1) := by decide +kernel
theorem dX5_error_69 : decode cX5_error 69 = .ok (.bipush 100, 2) := by decide +kernel
theorem dX5_error_71 : decode cX5_error 71 = .ok (.aload_n 0, 1) := by decide +kernel
theorem dX5_error_72 : decode cX5_error 72 = .ok (.getfield 48, 3) := by decide +kernel
theorem dX5_error_75 : decode cX5_error 75 = .ok (.iload 4, 2) := by decide +kernel
theorem dX5_error_77 : decode cX5_error 77 = .ok (.iaload, 1) := by decide +kernel
theorem dX5_error_78 : decode cX5_error 78 = .ok (.aload_n 0, 1) := by decide +kernel
theorem dX5_error_79 : decode cX5_error 79 = .ok (.getfield 36, 3) := by decide +kernel
theorem dX5_error_82 : decode cX5_error 82 = .ok (.iload 4, 2) := by decide +kernel
theorem dX5_error_84 : decode cX5_error 84 = .ok (.iaload, 1) := by decide +kernel
theorem dX5_error_85 : decode cX5_error 85 = .ok (.iadd, 1) := by decide +kernel
theorem dX5_error_86 : decode cX5_error 86 = .ok (.imul, 1) := by decide +kernel
theorem dX5_error_87 : decode cX5_error 87 = .ok (.aload_n 0, 1) := by decide +kernel
theorem dX5_error_88 : decode cX5_error 88 = .ok (.getfield 20, 3) := by decide +kernel
theorem dX5_error_91 : decode cX5_error 91 = .ok (.idiv, 1) := by decide +kernel
theorem dX5_error_92 : decode cX5_error 92 = .ok (.isub, 1) := by decide +kernel
theorem dX5_error_93 : decode cX5_error 93 = .ok (.invokestatic 62, 3) := by decide +kernel
theorem dX5_error_96 : decode cX5_error 96 = .ok (.istore 5, 2) := by decide +kernel
theorem dX5_error_98 : decode cX5_error 98 = .ok (.iload_n 2, 1) := by decide +kernel
theorem dX5_error_99 : decode cX5_error 99 = .ok (.iload 5, 2) := by decide +kernel
theorem dX5_error_101 : decode cX5_error 101 = .ok (.invokestatic 86, 3) := by decide +kernel
end
section
theorem dX5_error_104 : decode cX5_error 104 = .ok (.istore_n 2, 1) := by decide +kernel
theorem dX5_error_105 : decode cX5_error 105 = .ok (.iload_n 3, 1) := by decide +kernel
theorem dX5_error_106 : decode cX5_error 106 = .ok (.iload 5, 2) := by decide +kernel
theorem dX5_error_108 : decode cX5_error 108 = .ok (.iadd, 1) := by decide +kernel
theorem dX5_error_109 : decode cX5_error 109 = .ok (.istore_n 3, 1) := by decide +kernel
theorem dX5_error_110 : decode cX5_error 110 = .ok (.iinc 4 1, 3) := by decide +kernel
theorem dX5_error_113 : decode cX5_error 113 = .ok (.goto (-58), 3) := by decide +kernel
theorem dX5_error_116 : decode cX5_error 116 = .ok (.iload_n 1, 1) := by decide +kernel
theorem dX5_error_117 : decode cX5_error 117 = .ok (.ifCond .ne 7, 3) := by decide +kernel
theorem dX5_error_120 : decode cX5_error 120 = .ok (.iload_n 2, 1) := by decide +kernel
theorem dX5_error_121 : decode cX5_error 121 = .ok (.goto 4, 3) := by decide +kernel
theorem dX5_error_124 : decode cX5_error 124 = .ok (.iload_n 3, 1) := by decide +kernel
theorem dX5_error_125 : decode cX5_error 125 = .ok (.ireturn, 1) := by decide +kernel
set_option maxRecDepth 20000 in
theorem ggX5_paths_X5_isLayer : GoodIn wsX5_paths wsX5_isLayer := goodIn_r _ [5] (by decide +kernel) (by decide +kernel)
set_option maxRecDepth 20000 in
theorem gX5_paths_X5_isLayer : GoodIn wsX5_paths (va_wsS RX5 101 yX5_isLayer wsX5_isLayer) := goodIn_app (goodIn_of _ (by decide +kernel)) ggX5_paths_X5_isLayer
set_option maxRecDepth 20000 in
theorem ggX5_paths_X5_findLayer : GoodIn wsX5_paths wsX5_findLayer := goodIn_r _ [9, 10, 11, 1, 12, 13, 14, 15, 16, 17, 18, 4, 19, 20, 21, 22, 23, 24, 25, 26, 27, 28, 29, 30, 31, 32, 33, 34, 35, 36, 37, 38, 39, 40, 41, 42, 43, 44, 45, 46, 47, 48, 49, 50, 51, 52, 53, 54, 55, 56, 57, 58, 59, 60] (by decide +kernel) (by decide +kernel)
set_option maxRecDepth 20000 in
theorem gX5_paths_X5_findLayer : GoodIn wsX5_paths (wsV RX5 105 RX5 yX5_findLayer wsX5_findLayer) := goodIn_app (goodIn_of _ (by decide +kernel)) ggX5_paths_X5_findLayer
theorem dX5_paths_0 : decode cX5_paths 0 = .ok (.iload_n 1, 1) := by decide +kernel
theorem dX5_paths_1 : decode cX5_paths 1 = .ok (.invokestatic 101, 3) := by decide +kernel
theorem dX5_paths_4 : decode cX5_paths 4 = .ok (.ifCond .ne 6, 3) := by decide +kernel
theorem dX5_paths_7 : decode cX5_paths 7 = .ok (.bipush (-2), 2) := by decide +kernel
theorem dX5_paths_9 : decode cX5_paths 9 = .ok (.ireturn, 1) := by decide +kernel
theorem dX5_paths_10 : decode cX5_paths 10 = .ok (.aload_n 0, 1) := by decide +kernel
theorem dX5_paths_11 : decode cX5_paths 11 = .ok (.iload_n 1, 1) := by decide +kernel
theorem dX5_paths_12 : decode cX5_paths 12 = .ok (.invokevirtual 105, 3) := by decide +kernel
theorem dX5_paths_15 : decode cX5_paths 15 = .ok (.aload_n 0, 1) := by decide +kernel
theorem dX5_paths_16 : decode cX5_paths 16 = .ok (.getfield 95, 3) := by decide +kernel
theorem dX5_paths_19 : decode cX5_paths 19 = .ok (.ireturn, 1) := by decide +kernel
set_option maxRecDepth 20000 in
theorem ggX5_path_X5_isLayer : GoodIn wsX5_path wsX5_isLayer := goodIn_r _ [9] (by decide +kernel) (by decide +kernel)
set_option maxRecDepth 20000 in
theorem gX5_path_X5_isLayer : GoodIn wsX5_path (va_wsS RX5 101 yX5_isLayer wsX5_isLayer) := goodIn_app (goodIn_of _ (by decide +kernel)) ggX5_path_X5_isLayer
set_option maxRecDepth 20000 in
theorem ggX5_path_X5_findLayer : GoodIn wsX5_path wsX5_findLayer := goodIn_r _ [13, 14, 3, 1, 2, 5, 15, 4, 16, 17, 18, 8, 19, 20, 21, 22, 23, 24, 25, 26, 27, 28, 29, 30, 31, 32, 33, 34, 35, 36, 37, 38, 39, 40, 41, 42, 43, 44, 45, 46, 47, 48, 49, 50, 51, 52, 53, 54, 55, 56, 57, 58, 59, 60] (by decide +kernel) (by decide +kernel)
set_option maxRecDepth 20000 in
theorem gX5_path_X5_findLayer : GoodIn wsX5_path (wsV RX5 105 RX5 yX5_findLayer wsX5_findLayer) := goodIn_app (goodIn_of _ (by decide +kernel)) ggX5_path_X5_findLayer
set_option maxRecDepth 20000 in
theorem ggX5_path_X5_in : GoodIn wsX5_path wsX5_in := goodIn_r _ [44] (by decide +kernel) (by decide +kernel)
set_option maxRecDepth 20000 in
theorem gX5_path_X5_in : GoodIn wsX5_path (va_wsS RX5 54 yX5_in wsX5_in) := goodIn_app (goodIn_of _ (by decide +kernel)) ggX5_path_X5_in
set_option maxRecDepth 20000 in
theorem ggX5_path_X5_more : GoodIn wsX5_path wsX5_more := goodIn_r _ [29] (by decide +kernel) (by decide +kernel)
set_option maxRecDepth 20000 in
theorem gX5_path_X5_more : GoodIn wsX5_path (va_wsS RX5 86 yX5_more wsX5_more) := goodIn_app (goodIn_of _ (by decide +kernel)) ggX5_path_X5_more
set_option maxRecDepth 20000 in
theorem ggX5_path_X5_tied : GoodIn wsX5_path wsX5_tied := goodIn_r _ [33, 14, 34, 35, 36, 8, 37, 38, 39, 40, 41, 42, 43, 44, 45, 46, 47, 48, 49, 50, 51, 52, 53, 54, 55, 56, 57, 58, 59, 60] (by decide +kernel) (by decide +kernel)
set_option maxRecDepth 20000 in
theorem gX5_path_X5_tied : GoodIn wsX5_path (wsV RX5 98 RX5 yX5_tied wsX5_tied) := goodIn_app (goodIn_of _ (by decide +kernel)) ggX5_path_X5_tied
theorem dX5_path_0 : decode cX5_path 0 = .ok (.iload_n 1, 1) := by decide +kernel
theorem dX5_path_1 : decode cX5_path 1 = .ok (.invokestatic 101, 3) := by decide +kernel
theorem dX5_path_4 : decode cX5_path 4 = .ok (.ifCond .ne 6, 3) := by decide +kernel
theorem dX5_path_7 : decode cX5_path 7 = .ok (.bipush (-2), 2) := by decide +kernel
theorem dX5_path_9 : decode cX5_path 9 = .ok (.ireturn, 1) := by decide +kernel
theorem dX5_path_10 : decode cX5_path 10 = .ok (.aload_n 0, 1) := by decide +kernel
theorem dX5_path_11 : decode cX5_path 11 = .ok (.iload_n 1, 1) := by decide +kernel
theorem dX5_path_12 : decode cX5_path 12 = .ok (.invokevirtual 105, 3) := by decide +kernel
theorem dX5_path_15 : decode cX5_path 15 = .ok (.iload_n 2, 1) := by decide +kernel
theorem dX5_path_16 : decode cX5_path 16 = .ok (.iconst 0, 1) := by decide +kernel
theorem dX5_path_17 : decode cX5_path 17 = .ok (.aload_n 0, 1) := by decide +kernel
theorem dX5_path_18 : decode cX5_path 18 = .ok (.getfield 95, 3) := by decide +kernel
theorem dX5_path_21 : decode cX5_path 21 = .ok (.iconst 1, 1) := by decide +kernel
theorem dX5_path_22 : decode cX5_path 22 = .ok (.isub, 1) := by decide +kernel
theorem dX5_path_23 : decode cX5_path 23 = .ok (.invokestatic 54, 3) := by decide +kernel
theorem dX5_path_26 : decode cX5_path 26 = .ok (.ifCond .ne 6, 3) := by decide +kernel
theorem dX5_path_29 : decode cX5_path 29 = .ok (.bipush (-2), 2) := by decide +kernel
theorem dX5_path_31 : decode cX5_path 31 = .ok (.ireturn, 1) := by decide +kernel
theorem dX5_path_32 : decode cX5_path 32 = .ok (.iconst 0, 1) := by decide +kernel
theorem dX5_path_33 : decode cX5_path 33 = .ok (.istore 4, 2) := by decide +kernel
theorem dX5_path_35 : decode cX5_path 35 = .ok (.aload_n 0, 1) := by decide +kernel
theorem dX5_path_36 : decode cX5_path 36 = .ok (.getfield 39, 3) := by decide +kernel
theorem dX5_path_39 : decode cX5_path 39 = .ok (.iload_n 2, 1) := by decide +kernel
theorem dX5_path_40 : decode cX5_path 40 = .ok (.iaload, 1) := by decide +kernel
theorem dX5_path_41 : decode cX5_path 41 = .ok (.istore 5, 2) := by decide +kernel
theorem dX5_path_43 : decode cX5_path 43 = .ok (.iload 5, 2) := by decide +kernel
theorem dX5_path_45 : decode cX5_path 45 = .ok (.iconst (-1), 1) := by decide +kernel
theorem dX5_path_46 : decode cX5_path 46 = .ok (.if_icmp .eq 30, 3) := by decide +kernel
theorem dX5_path_49 : decode cX5_path 49 = .ok (.iload 4, 2) := by decide +kernel
theorem dX5_path_51 : decode cX5_path 51 = .ok (.aload_n 0, 1) := by decide +kernel
theorem dX5_path_52 : decode cX5_path 52 = .ok (.getfield 36, 3) := by decide +kernel
theorem dX5_path_55 : decode cX5_path 55 = .ok (.iload 5, 2) := by decide +kernel
theorem dX5_path_57 : decode cX5_path 57 = .ok (.iaload, 1) := by decide +kernel
theorem dX5_path_58 : decode cX5_path 58 = .ok (.invokestatic 86, 3) := by decide +kernel
theorem dX5_path_61 : decode cX5_path 61 = .ok (.istore 4, 2) := by decide +kernel
theorem dX5_path_63 : decode cX5_path 63 = .ok (.aload_n 0, 1) := by decide +kernel
theorem dX5_path_64 : decode cX5_path 64 = .ok (.iload 5, 2) := by decide +kernel
theorem dX5_path_66 : decode cX5_path 66 = .ok (.iload_n 1, 1) := by decide +kernel
theorem dX5_path_67 : decode cX5_path 67 = .ok (.iconst 1, 1) := by decide +kernel
theorem dX5_path_68 : decode cX5_path 68 = .ok (.invokevirtual 98, 3) := by decide +kernel
theorem dX5_path_71 : decode cX5_path 71 = .ok (.istore 5, 2) := by decide +kernel
theorem dX5_path_73 : decode cX5_path 73 = .ok (.goto (-30), 3) := by decide +kernel
theorem dX5_path_76 : decode cX5_path 76 = .ok (.iload_n 3, 1) := by decide +kernel
theorem dX5_path_77 : decode cX5_path 77 = .ok (.ifCond .ne 12, 3) := by decide +kernel
theorem dX5_path_80 : decode cX5_path 80 = .ok (.aload_n 0, 1) := by decide +kernel
theorem dX5_path_81 : decode cX5_path 81 = .ok (.getfield 39, 3) := by decide +kernel
theorem dX5_path_84 : decode cX5_path 84 = .ok (.iload_n 2, 1) := by decide +kernel
theorem dX5_path_85 : decode cX5_path 85 = .ok (.iaload, 1) := by decide +kernel
theorem dX5_path_86 : decode cX5_path 86 = .ok (.goto 43, 3) := by decide +kernel
theorem dX5_path_89 : decode cX5_path 89 = .ok (.iload_n 3, 1) := by decide +kernel
theorem dX5_path_90 : decode cX5_path 90 = .ok (.iconst 1, 1) := by decide +kernel
theorem dX5_path_91 : decode cX5_path 91 = .ok (.if_icmp .ne 12, 3) := by decide +kernel
theorem dX5_path_94 : decode cX5_path 94 = .ok (.aload_n 0, 1) := by decide +kernel
theorem dX5_path_95 : decode cX5_path 95 = .ok (.getfield 42, 3) := by decide +kernel
theorem dX5_path_98 : decode cX5_path 98 = .ok (.iload_n 2, 1) := by decide +kernel
theorem dX5_path_99 : decode cX5_path 99 = .ok (.iaload, 1) := by decide +kernel
theorem dX5_path_100 : decode cX5_path 100 = .ok (.goto 29, 3) := by decide +kernel
theorem dX5_path_103 : decode cX5_path 103 = .ok (.iload_n 3, 1) := by decide +kernel
theorem dX5_path_104 : decode cX5_path 104 = .ok (.iconst 2, 1) := by decide +kernel
theorem dX5_path_105 : decode cX5_path 105 = .ok (.if_icmp .ne 12, 3) := by decide +kernel
theorem dX5_path_108 : decode cX5_path 108 = .ok (.aload_n 0, 1) := by decide +kernel
theorem dX5_path_109 : decode cX5_path 109 = .ok (.getfield 45, 3) := by decide +kernel
theorem dX5_path_112 : decode cX5_path 112 = .ok (.iload_n 2, 1) := by decide +kernel
theorem dX5_path_113 : decode cX5_path 113 = .ok (.iaload, 1) := by decide +kernel
theorem dX5_path_114 : decode cX5_path 114 = .ok (.goto 15, 3) := by decide +kernel
theorem dX5_path_117 : decode cX5_path 117 = .ok (.iload_n 3, 1) := by decide +kernel
theorem dX5_path_118 : decode cX5_path 118 = .ok (.iconst 3, 1) := by decide +kernel
theorem dX5_path_119 : decode cX5_path 119 = .ok (.if_icmp .ne 8, 3) := by decide +kernel
theorem dX5_path_122 : decode cX5_path 122 = .ok (.iload 4, 2) := by decide +kernel
theorem dX5_path_124 : decode cX5_path 124 = .ok (.goto 5, 3) := by decide +kernel
theorem dX5_path_127 : decode cX5_path 127 = .ok (.bipush (-3), 2) := by decide +kernel
theorem dX5_path_129 : decode cX5_path 129 = .ok (.ireturn, 1) := by decide +kernel
set_option maxRecDepth 20000 in
theorem ggX5_far_X5_size : GoodIn wsX5_far wsX5_size := goodIn_r _ [4] (by decide +kernel) (by decide +kernel)
set_option maxRecDepth 20000 in
theorem gX5_far_X5_size : GoodIn wsX5_far (va_wsS RX5 62 yX5_size wsX5_size) := goodIn_app (goodIn_of _ (by decide +kernel)) ggX5_far_X5_size
set_option maxRecDepth 20000 in
theorem ggX5_far_X5_more : GoodIn wsX5_far wsX5_more := goodIn_r _ [7] (by decide +kernel) (by decide +kernel)
set_option maxRecDepth 20000 in
theorem gX5_far_X5_more : GoodIn wsX5_far (va_wsS RX5 86 yX5_more wsX5_more) := goodIn_app (goodIn_of _ (by decide +kernel)) ggX5_far_X5_more
theorem dX5_far_0 : decode cX5_far 0 = .ok (.iload_n 0, 1) := by decide +kernel
theorem dX5_far_1 : decode cX5_far 1 = .ok (.bipush 8, 2) := by decide +kernel
theorem dX5_far_3 : decode cX5_far 3 = .ok (.irem, 1) := by decide +kernel
theorem dX5_far_4 : decode cX5_far 4 = .ok (.iload_n 1, 1) := by decide +kernel
theorem dX5_far_5 : decode cX5_far 5 = .ok (.bipush 8, 2) := by decide +kernel
theorem dX5_far_7 : decode cX5_far 7 = .ok (.irem, 1) := by decide +kernel
theorem dX5_far_8 : decode cX5_far 8 = .ok (.isub, 1) := by decide +kernel
theorem dX5_far_9 : decode cX5_far 9 = .ok (.invokestatic 62, 3) := by decide +kernel
theorem dX5_far_12 : decode cX5_far 12 = .ok (.iload_n 0, 1) := by decide +kernel
theorem dX5_far_13 : decode cX5_far 13 = .ok (.bipush 8, 2) := by decide +kernel
theorem dX5_far_15 : decode cX5_far 15 = .ok (.idiv, 1) := by decide +kernel
theorem dX5_far_16 : decode cX5_far 16 = .ok (.iload_n 1, 1) := by decide +kernel
theorem dX5_far_17 : decode cX5_far 17 = .ok (.bipush 8, 2) := by decide +kernel
theorem dX5_far_19 : decode cX5_far 19 = .ok (.idiv, 1) := by decide +kernel
theorem dX5_far_20 : decode cX5_far 20 = .ok (.isub, 1) := by decide +kernel
theorem dX5_far_21 : decode cX5_far 21 = .ok (.invokestatic 62, 3) := by decide +kernel
theorem dX5_far_24 : decode cX5_far 24 = .ok (.invokestatic 86, 3) := by decide +kernel
theorem dX5_far_27 : decode cX5_far 27 = .ok (.ireturn, 1) := by decide +kernel
set_option maxRecDepth 20000 in
theorem ggX5_findOrder_X5_findLayer : GoodIn wsX5_findOrder wsX5_findLayer := goodIn_r _ [11, 12, 13, 2, 4, 14, 15, 5, 16, 17, 18, 10, 19, 20, 21, 22, 23, 24, 25, 26, 27, 28, 29, 30, 31, 32, 33, 34, 35, 36, 37, 38, 39, 40, 41, 42, 43, 44, 51, 52, 53, 54, 55, 56, 57, 58, 59, 60, 61, 62, 63, 64, 65, 66] (by decide +kernel) (by decide +kernel)
set_option maxRecDepth 20000 in
theorem gX5_findOrder_X5_findLayer : GoodIn wsX5_findOrder (wsV RX5 105 RX5 yX5_findLayer wsX5_findLayer) := goodIn_app (goodIn_of _ (by decide +kernel)) ggX5_findOrder_X5_findLayer
set_option maxRecDepth 20000 in
theorem ggX5_findOrder_X5_far : GoodIn wsX5_findOrder wsX5_far := goodIn_r _ [47, 48, 49, 10, 50, 27, 28, 29] (by decide +kernel) (by decide +kernel)
set_option maxRecDepth 20000 in
theorem gX5_findOrder_X5_far : GoodIn wsX5_findOrder (va_wsS RX5 112 yX5_far wsX5_far) := goodIn_app (goodIn_of _ (by decide +kernel)) ggX5_findOrder_X5_far
set_option maxRecDepth 20000 in
theorem ggX5_findOrder_X5_less : GoodIn wsX5_findOrder wsX5_less := goodIn_r _ [26] (by decide +kernel) (by decide +kernel)
set_option maxRecDepth 20000 in
theorem gX5_findOrder_X5_less : GoodIn wsX5_findOrder (va_wsS RX5 65 yX5_less wsX5_less) := goodIn_app (goodIn_of _ (by decide +kernel)) ggX5_findOrder_X5_less
theorem dX5_findOrder_0 : decode cX5_findOrder 0 = .ok (.aload_n 0, 1) := by decide +kernel
theorem dX5_findOrder_1 : decode cX5_findOrder 1 = .ok (.iload_n 1, 1) := by decide +kernel
theorem dX5_findOrder_2 : decode cX5_findOrder 2 = .ok (.invokevirtual 105, 3) := by decide +kernel
theorem dX5_findOrder_5 : decode cX5_findOrder 5 = .ok (.aload_n 0, 1) := by decide +kernel
theorem dX5_findOrder_6 : decode cX5_findOrder 6 = .ok (.iconst 0, 1) := by decide +kernel
theorem dX5_findOrder_7 : decode cX5_findOrder 7 = .ok (.putfield 109, 3) := by decide +kernel
theorem dX5_findOrder_10 : decode cX5_findOrder 10 = .ok (.iconst 0, 1) := by decide +kernel
theorem dX5_findOrder_11 : decode cX5_findOrder 11 = .ok (.istore_n 2, 1) := by decide +kernel
theorem dX5_findOrder_12 : decode cX5_findOrder 12 = .ok (.iconst 0, 1) := by decide +kernel
theorem dX5_findOrder_13 : decode cX5_findOrder 13 = .ok (.istore_n 3, 1) := by decide +kernel
theorem dX5_findOrder_14 : decode cX5_findOrder 14 = .ok (.iload_n 3, 1) := by decide +kernel
theorem dX5_findOrder_15 : decode cX5_findOrder 15 = .ok (.aload_n 0, 1) := by decide +kernel
theorem dX5_findOrder_16 : decode cX5_findOrder 16 = .ok (.getfield 95, 3) := by decide +kernel
theorem dX5_findOrder_19 : decode cX5_findOrder 19 = .ok (.if_icmp .ge 225, 3) := by decide +kernel
theorem dX5_findOrder_22 : decode cX5_findOrder 22 = .ok (.iconst (-1), 1) := by decide +kernel
theorem dX5_findOrder_23 : decode cX5_findOrder 23 = .ok (.istore 4, 2) := by decide +kernel
theorem dX5_findOrder_25 : decode cX5_findOrder 25 = .ok (.bipush 100, 2) := by decide +kernel
theorem dX5_findOrder_27 : decode cX5_findOrder 27 = .ok (.istore 5, 2) := by decide +kernel
theorem dX5_findOrder_29 : decode cX5_findOrder 29 = .ok (.iconst 0, 1) := by decide +kernel
theorem dX5_findOrder_30 : decode cX5_findOrder 30 = .ok (.istore 6, 2) := by decide +kernel
theorem dX5_findOrder_32 : decode cX5_findOrder 32 = .ok (.iload 6, 2) := by decide +kernel
theorem dX5_findOrder_34 : decode cX5_findOrder 34 = .ok (.aload_n 0, 1) := by decide +kernel
theorem dX5_findOrder_35 : decode cX5_findOrder 35 = .ok (.getfield 95, 3) := by decide +kernel
theorem dX5_findOrder_38 : decode cX5_findOrder 38 = .ok (.if_icmp .ge 98, 3) := by decide +kernel
theorem dX5_findOrder_41 : decode cX5_findOrder 41 = .ok (.iconst 0, 1) := by decide +kernel
theorem dX5_findOrder_42 : decode cX5_findOrder 42 = .ok (.istore 7, 2) := by decide +kernel
theorem dX5_findOrder_44 : decode cX5_findOrder 44 = .ok (.iconst 0, 1) := by decide +kernel
theorem dX5_findOrder_45 : decode cX5_findOrder 45 = .ok (.istore 8, 2) := by decide +kernel
theorem dX5_findOrder_47 : decode cX5_findOrder 47 = .ok (.iload 8, 2) := by decide +kernel
theorem dX5_findOrder_49 : decode cX5_findOrder 49 = .ok (.iload_n 3, 1) := by decide +kernel
theorem dX5_findOrder_50 : decode cX5_findOrder 50 = .ok (.if_icmp .ge 33, 3) := by decide +kernel
theorem dX5_findOrder_53 : decode cX5_findOrder 53 = .ok (.iload 7, 2) := by decide +kernel
theorem dX5_findOrder_55 : decode cX5_findOrder 55 = .ok (.ifCond .ne 15, 3) := by decide +kernel
theorem dX5_findOrder_58 : decode cX5_findOrder 58 = .ok (.aload_n 0, 1) := by decide +kernel
theorem dX5_findOrder_59 : decode cX5_findOrder 59 = .ok (.getfield 48, 3) := by decide +kernel
theorem dX5_findOrder_62 : decode cX5_findOrder 62 = .ok (.iload 8, 2) := by decide +kernel
theorem dX5_findOrder_64 : decode cX5_findOrder 64 = .ok (.iaload, 1) := by decide +kernel
theorem dX5_findOrder_65 : decode cX5_findOrder 65 = .ok (.iload 6, 2) := by decide +kernel
theorem dX5_findOrder_67 : decode cX5_findOrder 67 = .ok (.if_icmp .ne 7, 3) := by decide +kernel
theorem dX5_findOrder_70 : decode cX5_findOrder 70 = .ok (.iconst 1, 1) := by decide +kernel
theorem dX5_findOrder_71 : decode cX5_findOrder 71 = .ok (.goto 4, 3) := by decide +kernel
theorem dX5_findOrder_74 : decode cX5_findOrder 74 = .ok (.iconst 0, 1) := by decide +kernel
theorem dX5_findOrder_75 : decode cX5_findOrder 75 = .ok (.istore 7, 2) := by decide +kernel
theorem dX5_findOrder_77 : decode cX5_findOrder 77 = .ok (.iinc 8 1, 3) := by decide +kernel
theorem dX5_findOrder_80 : decode cX5_findOrder 80 = .ok (.goto (-33), 3) := by decide +kernel
theorem dX5_findOrder_83 : decode cX5_findOrder 83 = .ok (.iload_n 2, 1) := by decide +kernel
theorem dX5_findOrder_84 : decode cX5_findOrder 84 = .ok (.aload_n 0, 1) := by decide +kernel
theorem dX5_findOrder_85 : decode cX5_findOrder 85 = .ok (.getfield 39, 3) := by decide +kernel
theorem dX5_findOrder_88 : decode cX5_findOrder 88 = .ok (.iload 6, 2) := by decide +kernel
theorem dX5_findOrder_90 : decode cX5_findOrder 90 = .ok (.iaload, 1) := by decide +kernel
theorem dX5_findOrder_91 : decode cX5_findOrder 91 = .ok (.invokestatic 112, 3) := by decide +kernel
theorem dX5_findOrder_94 : decode cX5_findOrder 94 = .ok (.iload_n 2, 1) := by decide +kernel
theorem dX5_findOrder_95 : decode cX5_findOrder 95 = .ok (.aload_n 0, 1) := by decide +kernel
theorem dX5_findOrder_96 : decode cX5_findOrder 96 = .ok (.getfield 42, 3) := by decide +kernel
theorem dX5_findOrder_99 : decode cX5_findOrder 99 = .ok (.iload 6, 2) := by decide +kernel
theorem dX5_findOrder_101 : decode cX5_findOrder 101 = .ok (.iaload, 1) := by decide +kernel
theorem dX5_findOrder_102 : decode cX5_findOrder 102 = .ok (.invokestatic 112, 3) := by decide +kernel
theorem dX5_findOrder_105 : decode cX5_findOrder 105 = .ok (.invokestatic 65, 3) := by decide +kernel
theorem dX5_findOrder_108 : decode cX5_findOrder 108 = .ok (.istore 8, 2) := by decide +kernel
theorem dX5_findOrder_110 : decode cX5_findOrder 110 = .ok (.iload 7, 2) := by decide +kernel
theorem dX5_findOrder_112 : decode cX5_findOrder 112 = .ok (.ifCond .ne 18, 3) := by decide +kernel
theorem dX5_findOrder_115 : decode cX5_findOrder 115 = .ok (.iload 8, 2) := by decide +kernel
theorem dX5_findOrder_117 : decode cX5_findOrder 117 = .ok (.iload 5, 2) := by decide +kernel
theorem dX5_findOrder_119 : decode cX5_findOrder 119 = .ok (.if_icmp .ge 11, 3) := by decide +kernel
theorem dX5_findOrder_122 : decode cX5_findOrder 122 = .ok (.iload 8, 2) := by decide +kernel
theorem dX5_findOrder_124 : decode cX5_findOrder 124 = .ok (.istore 5, 2) := by decide +kernel
theorem dX5_findOrder_126 : decode cX5_findOrder 126 = .ok (.iload 6, 2) := by decide +kernel
theorem dX5_findOrder_128 : decode cX5_findOrder 128 = .ok (.istore 4, 2) := by decide +kernel
theorem dX5_findOrder_130 : decode cX5_findOrder 130 = .ok (.iinc 6 1, 3) := by decide +kernel
theorem dX5_findOrder_133 : decode cX5_findOrder 133 = .ok (.goto (-101), 3) := by decide +kernel
theorem dX5_findOrder_136 : decode cX5_findOrder 136 = .ok (.aload_n 0, 1) := by decide +kernel
theorem dX5_findOrder_137 : decode cX5_findOrder 137 = .ok (.getfield 48, 3) := by decide +kernel
theorem dX5_findOrder_140 : decode cX5_findOrder 140 = .ok (.iload_n 3, 1) := by decide +kernel
theorem dX5_findOrder_141 : decode cX5_findOrder 141 = .ok (.iload 4, 2) := by decide +kernel
theorem dX5_findOrder_143 : decode cX5_findOrder 143 = .ok (.iastore, 1) := by decide +kernel
theorem dX5_findOrder_144 : decode cX5_findOrder 144 = .ok (.iload_n 2, 1) := by decide +kernel
theorem dX5_findOrder_145 : decode cX5_findOrder 145 = .ok (.aload_n 0, 1) := by decide +kernel
theorem dX5_findOrder_146 : decode cX5_findOrder 146 = .ok (.getfield 39, 3) := by decide +kernel
theorem dX5_findOrder_149 : decode cX5_findOrder 149 = .ok (.iload 4, 2) := by decide +kernel
theorem dX5_findOrder_151 : decode cX5_findOrder 151 = .ok (.iaload, 1) := by decide +kernel
theorem dX5_findOrder_152 : decode cX5_findOrder 152 = .ok (.invokestatic 112, 3) := by decide +kernel
theorem dX5_findOrder_155 : decode cX5_findOrder 155 = .ok (.iload_n 2, 1) := by decide +kernel
theorem dX5_findOrder_156 : decode cX5_findOrder 156 = .ok (.aload_n 0, 1) := by decide +kernel
theorem dX5_findOrder_157 : decode cX5_findOrder 157 = .ok (.getfield 42, 3) := by decide +kernel
theorem dX5_findOrder_160 : decode cX5_findOrder 160 = .ok (.iload 4, 2) := by decide +kernel
theorem dX5_findOrder_162 : decode cX5_findOrder 162 = .ok (.iaload, 1) := by decide +kernel
theorem dX5_findOrder_163 : decode cX5_findOrder 163 = .ok (.invokestatic 112, 3) := by decide +kernel
theorem dX5_findOrder_166 : decode cX5_findOrder 166 = .ok (.if_icmp .gt 7, 3) := by decide +kernel
theorem dX5_findOrder_169 : decode cX5_findOrder 169 = .ok (.iconst 1, 1) := by decide +kernel
theorem dX5_findOrder_170 : decode cX5_findOrder 170 = .ok (.goto 4, 3) := by decide +kernel
theorem dX5_findOrder_173 : decode cX5_findOrder 173 = .ok (.iconst 0, 1) := by decide +kernel
theorem dX5_findOrder_174 : decode cX5_findOrder 174 = .ok (.istore 6, 2) := by decide +kernel
theorem dX5_findOrder_176 : decode cX5_findOrder 176 = .ok (.aload_n 0, 1) := by decide +kernel
theorem dX5_findOrder_177 : decode cX5_findOrder 177 = .ok (.getfield 51, 3) := by decide +kernel
theorem dX5_findOrder_180 : decode cX5_findOrder 180 = .ok (.iload_n 3, 1) := by decide +kernel
theorem dX5_findOrder_181 : decode cX5_findOrder 181 = .ok (.iload 6, 2) := by decide +kernel
theorem dX5_findOrder_183 : decode cX5_findOrder 183 = .ok (.ifCond .eq 13, 3) := by decide +kernel
theorem dX5_findOrder_186 : decode cX5_findOrder 186 = .ok (.aload_n 0, 1) := by decide +kernel
theorem dX5_findOrder_187 : decode cX5_findOrder 187 = .ok (.getfield 39, 3) := by decide +kernel
theorem dX5_findOrder_190 : decode cX5_findOrder 190 = .ok (.iload 4, 2) := by decide +kernel
theorem dX5_findOrder_192 : decode cX5_findOrder 192 = .ok (.iaload, 1) := by decide +kernel
theorem dX5_findOrder_193 : decode cX5_findOrder 193 = .ok (.goto 10, 3) := by decide +kernel
theorem dX5_findOrder_196 : decode cX5_findOrder 196 = .ok (.aload_n 0, 1) := by decide +kernel
theorem dX5_findOrder_197 : decode cX5_findOrder 197 = .ok (.getfield 42, 3) := by decide +kernel
theorem dX5_findOrder_200 : decode cX5_findOrder 200 = .ok (.iload 4, 2) := by decide +kernel
theorem dX5_findOrder_202 : decode cX5_findOrder 202 = .ok (.iaload, 1) := by decide +kernel
theorem dX5_findOrder_203 : decode cX5_findOrder 203 = .ok (.iastore, 1) := by decide +kernel
theorem dX5_findOrder_204 : decode cX5_findOrder 204 = .ok (.iload 6, 2) := by decide +kernel
theorem dX5_findOrder_206 : decode cX5_findOrder 206 = .ok (.ifCond .eq 13, 3) := by decide +kernel
theorem dX5_findOrder_209 : decode cX5_findOrder 209 = .ok (.aload_n 0, 1) := by decide +kernel
theorem dX5_findOrder_210 : decode cX5_findOrder 210 = .ok (.getfield 42, 3) := by decide +kernel
theorem dX5_findOrder_213 : decode cX5_findOrder 213 = .ok (.iload 4, 2) := by decide +kernel
theorem dX5_findOrder_215 : decode cX5_findOrder 215 = .ok (.iaload, 1) := by decide +kernel
theorem dX5_findOrder_216 : decode cX5_findOrder 216 = .ok (.goto 10, 3) := by decide +kernel
theorem dX5_findOrder_219 : decode cX5_findOrder 219 = .ok (.aload_n 0, 1) := by decide +kernel
theorem dX5_findOrder_220 : decode cX5_findOrder 220 = .ok (.getfield 39, 3) := by decide +kernel
theorem dX5_findOrder_223 : decode cX5_findOrder 223 = .ok (.iload 4, 2) := by decide +kernel
theorem dX5_findOrder_225 : decode cX5_findOrder 225 = .ok (.iaload, 1) := by decide +kernel
theorem dX5_findOrder_226 : decode cX5_findOrder 226 = .ok (.istore_n 2, 1) := by decide +kernel
theorem dX5_findOrder_227 : decode cX5_findOrder 227 = .ok (.aload_n 0, 1) := by decide +kernel
theorem dX5_findOrder_228 : decode cX5_findOrder 228 = .ok (.dup, 1) := by decide +kernel
theorem dX5_findOrder_229 : decode cX5_findOrder 229 = .ok (.getfield 109, 3) := by decide +kernel
theorem dX5_findOrder_232 : decode cX5_findOrder 232 = .ok (.iload 5, 2) := by decide +kernel
theorem dX5_findOrder_234 : decode cX5_findOrder 234 = .ok (.iadd, 1) := by decide +kernel
theorem dX5_findOrder_235 : decode cX5_findOrder 235 = .ok (.putfield 109, 3) := by decide +kernel
theorem dX5_findOrder_238 : decode cX5_findOrder 238 = .ok (.iinc 3 1, 3) := by decide +kernel
theorem dX5_findOrder_241 : decode cX5_findOrder 241 = .ok (.goto (-227), 3) := by decide +kernel
theorem dX5_findOrder_244 : decode cX5_findOrder 244 = .ok (.return_, 1) := by decide +kernel
set_option maxRecDepth 20000 in
theorem ggX5_cut_X5_isLayer : GoodIn wsX5_cut wsX5_isLayer := goodIn_r _ [6] (by decide +kernel) (by decide +kernel)
set_option maxRecDepth 20000 in
theorem gX5_cut_X5_isLayer : GoodIn wsX5_cut (va_wsS RX5 101 yX5_isLayer wsX5_isLayer) := goodIn_app (goodIn_of _ (by decide +kernel)) ggX5_cut_X5_isLayer
set_option maxRecDepth 20000 in
theorem ggX5_cut_X5_findOrder : GoodIn wsX5_cut wsX5_findOrder := goodIn_r _ [10, 11, 1, 2, 12, 13, 14, 15, 16, 17, 5, 18, 19, 20, 21, 22, 23, 24, 25, 26, 27, 28, 29, 30, 31, 32, 33, 34, 35, 36, 37, 38, 39, 40, 41, 42, 43, 44, 45, 46, 47, 48, 49, 50, 51, 52, 53, 54, 55, 56, 57, 58, 59, 60, 61, 62, 63, 64, 65, 66, 67, 68, 69, 70, 71, 72, 73] (by decide +kernel) (by decide +kernel)
set_option maxRecDepth 20000 in
theorem gX5_cut_X5_findOrder : GoodIn wsX5_cut (wsV RX5 115 RX5 yX5_findOrder wsX5_findOrder) := goodIn_app (goodIn_of _ (by decide +kernel)) ggX5_cut_X5_findOrder
set_option maxRecDepth 20000 in
theorem ggX5_cut_X5_in : GoodIn wsX5_cut wsX5_in := goodIn_r _ [51] (by decide +kernel) (by decide +kernel)
set_option maxRecDepth 20000 in
theorem gX5_cut_X5_in : GoodIn wsX5_cut (va_wsS RX5 54 yX5_in wsX5_in) := goodIn_app (goodIn_of _ (by decide +kernel)) ggX5_cut_X5_in
theorem dX5_cut_0 : decode cX5_cut 0 = .ok (.iload_n 1, 1) := by decide +kernel
theorem dX5_cut_1 : decode cX5_cut 1 = .ok (.invokestatic 101, 3) := by decide +kernel
theorem dX5_cut_4 : decode cX5_cut 4 = .ok (.ifCond .ne 6, 3) := by decide +kernel
theorem dX5_cut_7 : decode cX5_cut 7 = .ok (.bipush (-2), 2) := by decide +kernel
theorem dX5_cut_9 : decode cX5_cut 9 = .ok (.ireturn, 1) := by decide +kernel
theorem dX5_cut_10 : decode cX5_cut 10 = .ok (.aload_n 0, 1) := by decide +kernel
theorem dX5_cut_11 : decode cX5_cut 11 = .ok (.iload_n 1, 1) := by decide +kernel
theorem dX5_cut_12 : decode cX5_cut 12 = .ok (.invokevirtual 115, 3) := by decide +kernel
theorem dX5_cut_15 : decode cX5_cut 15 = .ok (.iload_n 2, 1) := by decide +kernel
theorem dX5_cut_16 : decode cX5_cut 16 = .ok (.iconst 0, 1) := by decide +kernel
theorem dX5_cut_17 : decode cX5_cut 17 = .ok (.aload_n 0, 1) := by decide +kernel
theorem dX5_cut_18 : decode cX5_cut 18 = .ok (.getfield 95, 3) := by decide +kernel
theorem dX5_cut_21 : decode cX5_cut 21 = .ok (.iconst 1, 1) := by decide +kernel
theorem dX5_cut_22 : decode cX5_cut 22 = .ok (.isub, 1) := by decide +kernel
theorem dX5_cut_23 : decode cX5_cut 23 = .ok (.invokestatic 54, 3) := by decide +kernel
theorem dX5_cut_26 : decode cX5_cut 26 = .ok (.ifCond .eq 12, 3) := by decide +kernel
theorem dX5_cut_29 : decode cX5_cut 29 = .ok (.aload_n 0, 1) := by decide +kernel
theorem dX5_cut_30 : decode cX5_cut 30 = .ok (.getfield 48, 3) := by decide +kernel
theorem dX5_cut_33 : decode cX5_cut 33 = .ok (.iload_n 2, 1) := by decide +kernel
theorem dX5_cut_34 : decode cX5_cut 34 = .ok (.iaload, 1) := by decide +kernel
theorem dX5_cut_35 : decode cX5_cut 35 = .ok (.goto 5, 3) := by decide +kernel
theorem dX5_cut_38 : decode cX5_cut 38 = .ok (.bipush (-3), 2) := by decide +kernel
theorem dX5_cut_40 : decode cX5_cut 40 = .ok (.ireturn, 1) := by decide +kernel
set_option maxRecDepth 20000 in
theorem ggX5_begin_X5_isLayer : GoodIn wsX5_begin wsX5_isLayer := goodIn_r _ [6] (by decide +kernel) (by decide +kernel)
set_option maxRecDepth 20000 in
theorem gX5_begin_X5_isLayer : GoodIn wsX5_begin (va_wsS RX5 101 yX5_isLayer wsX5_isLayer) := goodIn_app (goodIn_of _ (by decide +kernel)) ggX5_begin_X5_isLayer
set_option maxRecDepth 20000 in
theorem ggX5_begin_X5_findOrder : GoodIn wsX5_begin wsX5_findOrder := goodIn_r _ [10, 11, 1, 12, 13, 14, 2, 15, 16, 17, 5, 18, 19, 20, 21, 22, 23, 24, 25, 26, 27, 28, 29, 30, 31, 32, 33, 34, 35, 36, 37, 38, 39, 40, 41, 42, 43, 44, 45, 46, 47, 48, 49, 50, 51, 52, 53, 54, 55, 56, 57, 58, 59, 60, 61, 62, 63, 64, 65, 66, 67, 68, 69, 70, 71, 72, 73] (by decide +kernel) (by decide +kernel)
set_option maxRecDepth 20000 in
theorem gX5_begin_X5_findOrder : GoodIn wsX5_begin (wsV RX5 115 RX5 yX5_findOrder wsX5_findOrder) := goodIn_app (goodIn_of _ (by decide +kernel)) ggX5_begin_X5_findOrder
set_option maxRecDepth 20000 in
theorem ggX5_begin_X5_in : GoodIn wsX5_begin wsX5_in := goodIn_r _ [51] (by decide +kernel) (by decide +kernel)
set_option maxRecDepth 20000 in
theorem gX5_begin_X5_in : GoodIn wsX5_begin (va_wsS RX5 54 yX5_in wsX5_in) := goodIn_app (goodIn_of _ (by decide +kernel)) ggX5_begin_X5_in
theorem dX5_begin_0 : decode cX5_begin 0 = .ok (.iload_n 1, 1) := by decide +kernel
theorem dX5_begin_1 : decode cX5_begin 1 = .ok (.invokestatic 101, 3) := by decide +kernel
theorem dX5_begin_4 : decode cX5_begin 4 = .ok (.ifCond .ne 6, 3) := by decide +kernel
theorem dX5_begin_7 : decode cX5_begin 7 = .ok (.bipush (-2), 2) := by decide +kernel
theorem dX5_begin_9 : decode cX5_begin 9 = .ok (.ireturn, 1) := by decide +kernel
theorem dX5_begin_10 : decode cX5_begin 10 = .ok (.aload_n 0, 1) := by decide +kernel
theorem dX5_begin_11 : decode cX5_begin 11 = .ok (.iload_n 1, 1) := by decide +kernel
theorem dX5_begin_12 : decode cX5_begin 12 = .ok (.invokevirtual 115, 3) := by decide +kernel
theorem dX5_begin_15 : decode cX5_begin 15 = .ok (.iload_n 2, 1) := by decide +kernel
theorem dX5_begin_16 : decode cX5_begin 16 = .ok (.iconst 0, 1) := by decide +kernel
theorem dX5_begin_17 : decode cX5_begin 17 = .ok (.aload_n 0, 1) := by decide +kernel
theorem dX5_begin_18 : decode cX5_begin 18 = .ok (.getfield 95, 3) := by decide +kernel
theorem dX5_begin_21 : decode cX5_begin 21 = .ok (.iconst 1, 1) := by decide +kernel
theorem dX5_begin_22 : decode cX5_begin 22 = .ok (.isub, 1) := by decide +kernel
theorem dX5_begin_23 : decode cX5_begin 23 = .ok (.invokestatic 54, 3) := by decide +kernel
theorem dX5_begin_26 : decode cX5_begin 26 = .ok (.ifCond .eq 12, 3) := by decide +kernel
theorem dX5_begin_29 : decode cX5_begin 29 = .ok (.aload_n 0, 1) := by decide +kernel
theorem dX5_begin_30 : decode cX5_begin 30 = .ok (.getfield 51, 3) := by decide +kernel
theorem dX5_begin_33 : decode cX5_begin 33 = .ok (.iload_n 2, 1) := by decide +kernel
theorem dX5_begin_34 : decode cX5_begin 34 = .ok (.iaload, 1) := by decide +kernel
theorem dX5_begin_35 : decode cX5_begin 35 = .ok (.goto 5, 3) := by decide +kernel
theorem dX5_begin_38 : decode cX5_begin 38 = .ok (.bipush (-3), 2) := by decide +kernel
theorem dX5_begin_40 : decode cX5_begin 40 = .ok (.ireturn, 1) := by decide +kernel
set_option maxRecDepth 20000 in
theorem ggX5_air_X5_isLayer : GoodIn wsX5_air wsX5_isLayer := goodIn_r _ [5] (by decide +kernel) (by decide +kernel)
set_option maxRecDepth 20000 in
theorem gX5_air_X5_isLayer : GoodIn wsX5_air (va_wsS RX5 101 yX5_isLayer wsX5_isLayer) := goodIn_app (goodIn_of _ (by decide +kernel)) ggX5_air_X5_isLayer
set_option maxRecDepth 20000 in
theorem ggX5_air_X5_findOrder : GoodIn wsX5_air wsX5_findOrder := goodIn_r _ [9, 1, 10, 11, 12, 13, 14, 15, 16, 17, 4, 18, 19, 20, 21, 22, 23, 24, 25, 26, 27, 28, 29, 30, 31, 32, 33, 34, 35, 36, 37, 38, 39, 40, 41, 42, 43, 44, 45, 46, 47, 48, 49, 50, 51, 52, 53, 54, 55, 56, 57, 58, 59, 60, 61, 62, 63, 64, 65, 66, 67, 68, 69, 70, 71, 72, 73] (by decide +kernel) (by decide +kernel)
set_option maxRecDepth 20000 in
theorem gX5_air_X5_findOrder : GoodIn wsX5_air (wsV RX5 115 RX5 yX5_findOrder wsX5_findOrder) := goodIn_app (goodIn_of _ (by decide +kernel)) ggX5_air_X5_findOrder
theorem dX5_air_0 : decode cX5_air 0 = .ok (.iload_n 1, 1) := by decide +kernel
theorem dX5_air_1 : decode cX5_air 1 = .ok (.invokestatic 101, 3) := by decide +kernel
theorem dX5_air_4 : decode cX5_air 4 = .ok (.ifCond .ne 6, 3) := by decide +kernel
theorem dX5_air_7 : decode cX5_air 7 = .ok (.bipush (-2), 2) := by decide +kernel
theorem dX5_air_9 : decode cX5_air 9 = .ok (.ireturn, 1) := by decide +kernel
theorem dX5_air_10 : decode cX5_air 10 = .ok (.aload_n 0, 1) := by decide +kernel
theorem dX5_air_11 : decode cX5_air 11 = .ok (.iload_n 1, 1) := by decide +kernel
theorem dX5_air_12 : decode cX5_air 12 = .ok (.invokevirtual 115, 3) := by decide +kernel
theorem dX5_air_15 : decode cX5_air 15 = .ok (.aload_n 0, 1) := by decide +kernel
theorem dX5_air_16 : decode cX5_air 16 = .ok (.getfield 109, 3) := by decide +kernel
theorem dX5_air_19 : decode cX5_air 19 = .ok (.ireturn, 1) := by decide +kernel
set_option maxRecDepth 20000 in
theorem ggX5_count_X5_in : GoodIn wsX5_count wsX5_in := goodIn_r _ [6] (by decide +kernel) (by decide +kernel)
set_option maxRecDepth 20000 in
theorem gX5_count_X5_in : GoodIn wsX5_count (va_wsS RX5 54 yX5_in wsX5_in) := goodIn_app (goodIn_of _ (by decide +kernel)) ggX5_count_X5_in
set_option maxRecDepth 20000 in
theorem ggX5_count_X5_wantedOf : GoodIn wsX5_count wsX5_wantedOf := goodIn_r _ [10, 1, 11, 12, 13, 14, 15, 5, 16, 17, 18, 19, 28, 29, 30, 31, 32, 33, 34, 35, 36, 37, 38, 39, 40, 41, 42, 43] (by decide +kernel) (by decide +kernel)
set_option maxRecDepth 20000 in
theorem gX5_count_X5_wantedOf : GoodIn wsX5_count (wsV RX5 92 RX5 yX5_wantedOf wsX5_wantedOf) := goodIn_app (goodIn_of _ (by decide +kernel)) ggX5_count_X5_wantedOf
set_option maxRecDepth 20000 in
theorem ggX5_count_X5_knotOf : GoodIn wsX5_count wsX5_knotOf := goodIn_r _ [23, 24, 25, 26, 5, 27, 28, 29, 30, 31, 32, 33, 34, 35, 36, 37, 38, 39, 40, 41, 42, 43] (by decide +kernel) (by decide +kernel)
set_option maxRecDepth 20000 in
theorem gX5_count_X5_knotOf : GoodIn wsX5_count (wsV RX5 83 RX5 yX5_knotOf wsX5_knotOf) := goodIn_app (goodIn_of _ (by decide +kernel)) ggX5_count_X5_knotOf
theorem dX5_count_0 : decode cX5_count 0 = .ok (.iconst 0, 1) := by decide +kernel
theorem dX5_count_1 : decode cX5_count 1 = .ok (.istore_n 2, 1) := by decide +kernel
theorem dX5_count_2 : decode cX5_count 2 = .ok (.iload_n 1, 1) := by decide +kernel
theorem dX5_count_3 : decode cX5_count 3 = .ok (.iconst 0, 1) := by decide +kernel
theorem dX5_count_4 : decode cX5_count 4 = .ok (.iconst 4, 1) := by decide +kernel
theorem dX5_count_5 : decode cX5_count 5 = .ok (.invokestatic 54, 3) := by decide +kernel
theorem dX5_count_8 : decode cX5_count 8 = .ok (.ifCond .ne 6, 3) := by decide +kernel
theorem dX5_count_11 : decode cX5_count 11 = .ok (.bipush (-3), 2) := by decide +kernel
theorem dX5_count_13 : decode cX5_count 13 = .ok (.ireturn, 1) := by decide +kernel
theorem dX5_count_14 : decode cX5_count 14 = .ok (.iconst 0, 1) := by decide +kernel
theorem dX5_count_15 : decode cX5_count 15 = .ok (.istore_n 3, 1) := by decide +kernel
theorem dX5_count_16 : decode cX5_count 16 = .ok (.iload_n 3, 1) := by decide +kernel
theorem dX5_count_17 : decode cX5_count 17 = .ok (.bipush 64, 2) := by decide +kernel
theorem dX5_count_19 : decode cX5_count 19 = .ok (.if_icmp .ge 137, 3) := by decide +kernel
theorem dX5_count_22 : decode cX5_count 22 = .ok (.iload_n 1, 1) := by decide +kernel
theorem dX5_count_23 : decode cX5_count 23 = .ok (.ifCond .ne 20, 3) := by decide +kernel
theorem dX5_count_26 : decode cX5_count 26 = .ok (.aload_n 0, 1) := by decide +kernel
theorem dX5_count_27 : decode cX5_count 27 = .ok (.getfield 7, 3) := by decide +kernel
theorem dX5_count_30 : decode cX5_count 30 = .ok (.iload_n 3, 1) := by decide +kernel
theorem dX5_count_31 : decode cX5_count 31 = .ok (.iaload, 1) := by decide +kernel
theorem dX5_count_32 : decode cX5_count 32 = .ok (.ifCond .le 7, 3) := by decide +kernel
theorem dX5_count_35 : decode cX5_count 35 = .ok (.iconst 1, 1) := by decide +kernel
theorem dX5_count_36 : decode cX5_count 36 = .ok (.goto 99, 3) := by decide +kernel
theorem dX5_count_39 : decode cX5_count 39 = .ok (.iconst 0, 1) := by decide +kernel
theorem dX5_count_40 : decode cX5_count 40 = .ok (.goto 95, 3) := by decide +kernel
theorem dX5_count_43 : decode cX5_count 43 = .ok (.iload_n 1, 1) := by decide +kernel
theorem dX5_count_44 : decode cX5_count 44 = .ok (.iconst 1, 1) := by decide +kernel
theorem dX5_count_45 : decode cX5_count 45 = .ok (.if_icmp .ne 12, 3) := by decide +kernel
theorem dX5_count_48 : decode cX5_count 48 = .ok (.aload_n 0, 1) := by decide +kernel
theorem dX5_count_49 : decode cX5_count 49 = .ok (.getfield 16, 3) := by decide +kernel
theorem dX5_count_52 : decode cX5_count 52 = .ok (.iload_n 3, 1) := by decide +kernel
theorem dX5_count_53 : decode cX5_count 53 = .ok (.baload, 1) := by decide +kernel
theorem dX5_count_54 : decode cX5_count 54 = .ok (.goto 81, 3) := by decide +kernel
theorem dX5_count_57 : decode cX5_count 57 = .ok (.iload_n 1, 1) := by decide +kernel
theorem dX5_count_58 : decode cX5_count 58 = .ok (.iconst 4, 1) := by decide +kernel
theorem dX5_count_59 : decode cX5_count 59 = .ok (.if_icmp .ge 22, 3) := by decide +kernel
theorem dX5_count_62 : decode cX5_count 62 = .ok (.aload_n 0, 1) := by decide +kernel
theorem dX5_count_63 : decode cX5_count 63 = .ok (.iload_n 3, 1) := by decide +kernel
theorem dX5_count_64 : decode cX5_count 64 = .ok (.iload_n 1, 1) := by decide +kernel
theorem dX5_count_65 : decode cX5_count 65 = .ok (.iconst 2, 1) := by decide +kernel
theorem dX5_count_66 : decode cX5_count 66 = .ok (.isub, 1) := by decide +kernel
theorem dX5_count_67 : decode cX5_count 67 = .ok (.invokevirtual 92, 3) := by decide +kernel
theorem dX5_count_70 : decode cX5_count 70 = .ok (.ifCond .le 7, 3) := by decide +kernel
theorem dX5_count_73 : decode cX5_count 73 = .ok (.iconst 1, 1) := by decide +kernel
theorem dX5_count_74 : decode cX5_count 74 = .ok (.goto 61, 3) := by decide +kernel
theorem dX5_count_77 : decode cX5_count 77 = .ok (.iconst 0, 1) := by decide +kernel
theorem dX5_count_78 : decode cX5_count 78 = .ok (.goto 57, 3) := by decide +kernel
theorem dX5_count_81 : decode cX5_count 81 = .ok (.iload_n 3, 1) := by decide +kernel
theorem dX5_count_82 : decode cX5_count 82 = .ok (.bipush 8, 2) := by decide +kernel
theorem dX5_count_84 : decode cX5_count 84 = .ok (.irem, 1) := by decide +kernel
theorem dX5_count_85 : decode cX5_count 85 = .ok (.bipush 7, 2) := by decide +kernel
theorem dX5_count_87 : decode cX5_count 87 = .ok (.if_icmp .ge 47, 3) := by decide +kernel
theorem dX5_count_90 : decode cX5_count 90 = .ok (.iload_n 3, 1) := by decide +kernel
theorem dX5_count_91 : decode cX5_count 91 = .ok (.bipush 8, 2) := by decide +kernel
theorem dX5_count_93 : decode cX5_count 93 = .ok (.idiv, 1) := by decide +kernel
theorem dX5_count_94 : decode cX5_count 94 = .ok (.bipush 7, 2) := by decide +kernel
theorem dX5_count_96 : decode cX5_count 96 = .ok (.if_icmp .ge 38, 3) := by decide +kernel
theorem dX5_count_99 : decode cX5_count 99 = .ok (.aload_n 0, 1) := by decide +kernel
theorem dX5_count_100 : decode cX5_count 100 = .ok (.iload_n 3, 1) := by decide +kernel
theorem dX5_count_101 : decode cX5_count 101 = .ok (.bipush 8, 2) := by decide +kernel
theorem dX5_count_103 : decode cX5_count 103 = .ok (.irem, 1) := by decide +kernel
theorem dX5_count_104 : decode cX5_count 104 = .ok (.iload_n 3, 1) := by decide +kernel
theorem dX5_count_105 : decode cX5_count 105 = .ok (.bipush 8, 2) := by decide +kernel
theorem dX5_count_107 : decode cX5_count 107 = .ok (.idiv, 1) := by decide +kernel
theorem dX5_count_108 : decode cX5_count 108 = .ok (.invokevirtual 83, 3) := by decide +kernel
theorem dX5_count_111 : decode cX5_count 111 = .ok (.ifCond .eq 23, 3) := by decide +kernel
theorem dX5_count_114 : decode cX5_count 114 = .ok (.aload_n 0, 1) := by decide +kernel
theorem dX5_count_115 : decode cX5_count 115 = .ok (.iload_n 3, 1) := by decide +kernel
theorem dX5_count_116 : decode cX5_count 116 = .ok (.bipush 8, 2) := by decide +kernel
theorem dX5_count_118 : decode cX5_count 118 = .ok (.irem, 1) := by decide +kernel
theorem dX5_count_119 : decode cX5_count 119 = .ok (.iload_n 3, 1) := by decide +kernel
theorem dX5_count_120 : decode cX5_count 120 = .ok (.bipush 8, 2) := by decide +kernel
theorem dX5_count_122 : decode cX5_count 122 = .ok (.idiv, 1) := by decide +kernel
theorem dX5_count_123 : decode cX5_count 123 = .ok (.invokevirtual 83, 3) := by decide +kernel
theorem dX5_count_126 : decode cX5_count 126 = .ok (.iconst 2, 1) := by decide +kernel
theorem dX5_count_127 : decode cX5_count 127 = .ok (.if_icmp .eq 7, 3) := by decide +kernel
theorem dX5_count_130 : decode cX5_count 130 = .ok (.iconst 1, 1) := by decide +kernel
theorem dX5_count_131 : decode cX5_count 131 = .ok (.goto 4, 3) := by decide +kernel
theorem dX5_count_134 : decode cX5_count 134 = .ok (.iconst 0, 1) := by decide +kernel
theorem dX5_count_135 : decode cX5_count 135 = .ok (.istore 4, 2) := by decide +kernel
theorem dX5_count_137 : decode cX5_count 137 = .ok (.iload_n 2, 1) := by decide +kernel
theorem dX5_count_138 : decode cX5_count 138 = .ok (.iload 4, 2) := by decide +kernel
theorem dX5_count_140 : decode cX5_count 140 = .ok (.ifCond .eq 7, 3) := by decide +kernel
theorem dX5_count_143 : decode cX5_count 143 = .ok (.iconst 1, 1) := by decide +kernel
theorem dX5_count_144 : decode cX5_count 144 = .ok (.goto 4, 3) := by decide +kernel
theorem dX5_count_147 : decode cX5_count 147 = .ok (.iconst 0, 1) := by decide +kernel
theorem dX5_count_148 : decode cX5_count 148 = .ok (.iadd, 1) := by decide +kernel
theorem dX5_count_149 : decode cX5_count 149 = .ok (.istore_n 2, 1) := by decide +kernel
theorem dX5_count_150 : decode cX5_count 150 = .ok (.iinc 3 1, 3) := by decide +kernel
theorem dX5_count_153 : decode cX5_count 153 = .ok (.goto (-137), 3) := by decide +kernel
theorem dX5_count_156 : decode cX5_count 156 = .ok (.iload_n 2, 1) := by decide +kernel
theorem dX5_count_157 : decode cX5_count 157 = .ok (.ireturn, 1) := by decide +kernel
theorem dJ9_floorMod_7cf53_0 : decode cJ9_floorMod_7cf53 0 = .ok (.iload_n 0, 1) := by decide +kernel
theorem dJ9_floorMod_7cf53_1 : decode cJ9_floorMod_7cf53 1 = .ok (.iload_n 1, 1) := by decide +kernel
theorem dJ9_floorMod_7cf53_2 : decode cJ9_floorMod_7cf53 2 = .ok (.irem, 1) := by decide +kernel
theorem dJ9_floorMod_7cf53_3 : decode cJ9_floorMod_7cf53 3 = .ok (.istore_n 2, 1) := by decide +kernel
theorem dJ9_floorMod_7cf53_4 : decode cJ9_floorMod_7cf53 4 = .ok (.iload_n 0, 1) := by decide +kernel
theorem dJ9_floorMod_7cf53_5 : decode cJ9_floorMod_7cf53 5 = .ok (.iload_n 1, 1) := by decide +kernel
theorem dJ9_floorMod_7cf53_6 : decode cJ9_floorMod_7cf53 6 = .ok (.ixor, 1) := by decide +kernel
theorem dJ9_floorMod_7cf53_7 : decode cJ9_floorMod_7cf53 7 = .ok (.ifCond .ge 11, 3) := by decide +kernel
theorem dJ9_floorMod_7cf53_10 : decode cJ9_floorMod_7cf53 10 = .ok (.iload_n 2, 1) := by decide +kernel
theorem dJ9_floorMod_7cf53_11 : decode cJ9_floorMod_7cf53 11 = .ok (.ifCond .eq 7, 3) := by decide +kernel
theorem dJ9_floorMod_7cf53_14 : decode cJ9_floorMod_7cf53 14 = .ok (.iload_n 2, 1) := by decide +kernel
theorem dJ9_floorMod_7cf53_15 : decode cJ9_floorMod_7cf53 15 = .ok (.iload_n 1, 1) := by decide +kernel
theorem dJ9_floorMod_7cf53_16 : decode cJ9_floorMod_7cf53 16 = .ok (.iadd, 1) := by decide +kernel
theorem dJ9_floorMod_7cf53_17 : decode cJ9_floorMod_7cf53 17 = .ok (.ireturn, 1) := by decide +kernel
theorem dJ9_floorMod_7cf53_18 : decode cJ9_floorMod_7cf53 18 = .ok (.iload_n 2, 1) := by decide +kernel
theorem dJ9_floorMod_7cf53_19 : decode cJ9_floorMod_7cf53 19 = .ok (.ireturn, 1) := by decide +kernel
theorem dJ9_abs_0f7a4_0 : decode cJ9_abs_0f7a4 0 = .ok (.iload_n 0, 1) := by decide +kernel
theorem dJ9_abs_0f7a4_1 : decode cJ9_abs_0f7a4 1 = .ok (.ifCond .ge 8, 3) := by decide +kernel
theorem dJ9_abs_0f7a4_4 : decode cJ9_abs_0f7a4 4 = .ok (.iload_n 0, 1) := by decide +kernel
theorem dJ9_abs_0f7a4_5 : decode cJ9_abs_0f7a4 5 = .ok (.ineg, 1) := by decide +kernel
theorem dJ9_abs_0f7a4_6 : decode cJ9_abs_0f7a4 6 = .ok (.goto 4, 3) := by decide +kernel
theorem dJ9_abs_0f7a4_9 : decode cJ9_abs_0f7a4 9 = .ok (.iload_n 0, 1) := by decide +kernel
theorem dJ9_abs_0f7a4_10 : decode cJ9_abs_0f7a4 10 = .ok (.ireturn, 1) := by decide +kernel
theorem dJ9_max_7cf53_0 : decode cJ9_max_7cf53 0 = .ok (.iload_n 0, 1) := by decide +kernel
theorem dJ9_max_7cf53_1 : decode cJ9_max_7cf53 1 = .ok (.iload_n 1, 1) := by decide +kernel
theorem dJ9_max_7cf53_2 : decode cJ9_max_7cf53 2 = .ok (.if_icmp .lt 7, 3) := by decide +kernel
theorem dJ9_max_7cf53_5 : decode cJ9_max_7cf53 5 = .ok (.iload_n 0, 1) := by decide +kernel
theorem dJ9_max_7cf53_6 : decode cJ9_max_7cf53 6 = .ok (.goto 4, 3) := by decide +kernel
theorem dJ9_max_7cf53_9 : decode cJ9_max_7cf53 9 = .ok (.iload_n 1, 1) := by decide +kernel
theorem dJ9_max_7cf53_10 : decode cJ9_max_7cf53 10 = .ok (.ireturn, 1) := by decide +kernel
theorem dJ9_min_7cf53_0 : decode cJ9_min_7cf53 0 = .ok (.iload_n 0, 1) := by decide +kernel
theorem dJ9_min_7cf53_1 : decode cJ9_min_7cf53 1 = .ok (.iload_n 1, 1) := by decide +kernel
theorem dJ9_min_7cf53_2 : decode cJ9_min_7cf53 2 = .ok (.if_icmp .gt 7, 3) := by decide +kernel
theorem dJ9_min_7cf53_5 : decode cJ9_min_7cf53 5 = .ok (.iload_n 0, 1) := by decide +kernel
theorem dJ9_min_7cf53_6 : decode cJ9_min_7cf53 6 = .ok (.goto 4, 3) := by decide +kernel
theorem dJ9_min_7cf53_9 : decode cJ9_min_7cf53 9 = .ok (.iload_n 1, 1) := by decide +kernel
theorem dJ9_min_7cf53_10 : decode cJ9_min_7cf53 10 = .ok (.ireturn, 1) := by decide +kernel
end
section
/-! ===== small helpers: numbers that are natural, worlds that keep their order, one form of contract ===== -/
/-- a row of naturals as a row of ints -/
def nF (F : Nat → Nat) : Nat → Int32 := fun k => nI (F k)
theorem nF_upd (F : Nat → Nat) (i v : Nat) : upd (nF F) i (nI v) = nF (va_up F i v) := by
  funext k
  unfold upd nF va_up
  by_cases h : k = i <;> simp [h]
theorem up_s {α : Type} (f : Nat → α) (k : Nat) (v : α) : va_up f k v k = v := if_pos rfl
theorem up_n {α : Type} (f : Nat → α) {k j : Nat} (v : α) (h : j ≠ k) : va_up f k v j = f j := if_neg h
abbrev tyB (cI cZ : ClassId) : List (ClassId × FieldType) := [(cI, .int), (cZ, .boolean)]
/-- the links to a nest mate's private members -/
def nestM : List (String × Nat × MethodName) := [(RX4, 11, yX2_init), (RX4, 18, yX3_init), (RX4, 37, yX0_init), (RX2, 38, yX4_isCell), (RX2, 45, yX4_cellOf), (RX1, 80, yX4_isCell), (RX1, 84, yX4_cellOf), (RX1, 91, yX4_wayBetween), (RX0, 29, yX4_cellOf), (RX0, 49, yX4_wayBetween)]
def stN : Nat → String := fun k => match k with
  | 0 => "APART_SQUARED"
  | 1 => "LOWEST_SETTINGS"
  | 2 => "HIGHEST_SETTINGS"
  | 3 => "WAY_X"
  | _ => "WAY_Y"
def stL : Nat → Nat := fun k => match k with
  | 0 => 8
  | _ => 4
def stV : Nat → List Int32 := fun k => match k with
  | 0 => [0, 1, 4, 9, 16, 9, 4, 1]
  | 1 => [4, 10, 1, 1]
  | 2 => [40, 100, 10, 40]
  | 3 => [1, 1, 0, -1]
  | _ => [0, 1, 1, 1]
def stO : Nat → String × Nat := fun k => match k with
  | 0 => (RX2, 42)
  | 1 => (RX3, 15)
  | 2 => (RX3, 18)
  | 3 => (RX1, 74)
  | _ => (RX1, 77)
def stF (k j : Nat) : Value := .int ((stV k).getD j 0)
def gS (tt : Nat → Nat) (A : Nat → Prop) (U : State) (H : Heap) : Prop :=
  (∀ w ∈ nestM, va_Nw (.methodLinkNest w.1 w.2.1 w.2.2 RX4) U) ∧ ∀ k, k < 5 → va_Nw (.fieldLinkNest (stO k).1 (stO k).2 RX4 (stN k) "[I" RX4) U ∧ va_Z RX4 (stN k) "[I" (.ref (tt k)) A U H ∧ va_T .int (tt k) (stL k) (stF k) A U H
theorem gS.narrow {tt : Nat → Nat} {A B : Nat → Prop} {U : State} {H : Heap} (h : gS tt A U H) (hAB : ∀ q, B q → A q) : gS tt B U H :=
  ⟨h.1, fun k hk => ⟨(h.2 k hk).1, (h.2 k hk).2.1.narrow hAB, (h.2 k hk).2.2.narrow hAB⟩⟩
theorem gS.warm {tt : Nat → Nat} {A : Nat → Prop} {s U : State} {H : Heap} (h : gS tt A s H) (hW : s.WarmedH U.vm) : gS tt A U H :=
  ⟨fun w hw => (h.1 w hw).warmM hW, fun k hk => ⟨(h.2 k hk).1.warmF hW, va_Z.moved hW.alike (h.2 k hk).2.1, va_T.moved hW.alike (h.2 k hk).2.2⟩⟩
theorem gS.same {tt : Nat → Nat} {A : Nat → Prop} {u U : State} {H : Heap} (h : gS tt A u H) (hv : u.vm = U.vm) : gS tt A U H := by
  have ha : u.vm.Alike U.vm := by rw [hv]; exact Vm.Alike.refl U.vm
  exact ⟨fun w hw => va_Nw.same rfl hv (h.1 w hw), fun k hk => ⟨va_Nw.same rfl hv (h.2 k hk).1, va_Z.moved ha (h.2 k hk).2.1, va_T.moved ha (h.2 k hk).2.2⟩⟩
theorem gS.kept {tt : Nat → Nat} {A : Nat → Prop} {s : State} {H : Heap} {locs : List Loc} (h : gS tt A s s.heap) (hS : va_S A s.heap H locs) : gS tt A s H :=
  ⟨h.1, fun k hk => ⟨(h.2 k hk).1, (h.2 k hk).2.1.kept (fun a h1 h2 => hS.2.1 a h1 h2), (h.2 k hk).2.2.kept (fun a h1 h2 => hS.2.1 a h1 h2)⟩⟩
/-- one form of start and end -/
def cP (D : va_G) (cI cZ : ClassId) (tt : Nat → Nat) (av : List Value) (ws : va_W) (sz : Nat) : Array Value → State → Prop :=
  va_Pc av (fun U => U.heap.size = sz ∧ va_P D vwCl ws U.heap ∧ va_K D vwCl (tyB cI cZ) U ∧ va_D (fun _ => True) ws ∧ gS tt (va_A ws sz) U U.heap)
def cB (D : va_G) (cI cZ : ClassId) (A : Nat → Prop) (w : va_W) (t : State) : Prop := va_P D vwCl w t.heap ∧ va_K D vwCl (tyB cI cZ) t ∧ va_D A w
theorem cP.blind (D : va_G) (cI cZ : ClassId) (tt : Nat → Nat) (av : List Value) (ws : va_W) (sz : Nat) : FrameBlind (cP D cI cZ tt av ws sz) := by
  intro a U g mk h
  obtain ⟨h1, h2, h3, h4, h5, h6⟩ := h
  exact ⟨h1, h2, h3, va_K.moved (u := U) (U := U.calling g mk a) (Vm.Alike.refl U.vm) h4, h5, h6.same rfl⟩
/-- contracts: an int, nothing, a cell of the world -/
def MI {S : Type} (l : Launch) (y : MethodName) (wy : List Cond) (rm : Room) (D : va_G) (cI cZ : ClassId) (tt : Nat → Nat) (av : List Value) (ws : va_W) (sz : Nat) (post : Int32 → S → Prop) (wf : S → va_W) : Prop :=
  Met l y wy rm (cP D cI cZ tt av ws sz) (va_Qi post (fun u t => cB D cI cZ (va_A ws sz) (wf u) t) (va_A ws sz)) 0 0 (va_A ws sz)
def MV {S : Type} (l : Launch) (y : MethodName) (wy : List Cond) (rm : Room) (D : va_G) (cI cZ : ClassId) (tt : Nat → Nat) (av : List Value) (ws : va_W) (sz : Nat) (mc ms : Nat) (post : S → Prop) (wf : S → va_W) : Prop :=
  Met l y wy rm (cP D cI cZ tt av ws sz) (va_Qv post (fun u t => cB D cI cZ (va_A ws sz) (wf u) t) (va_A ws sz)) mc ms (va_A ws sz)
def MR {S : Type} (l : Launch) (y : MethodName) (wy : List Cond) (rm : Room) (D : va_G) (cI cZ : ClassId) (tt : Nat → Nat) (av : List Value) (ws : va_W) (sz : Nat) (post : S → Prop) (wf : S → va_W) (ra : Nat) : Prop :=
  Met l y wy rm (cP D cI cZ tt av ws sz) (va_Qr post (fun u a t => a = ra ∧ cB D cI cZ (va_A ws sz) (wf u) t) (va_A ws sz)) 0 0 (va_A ws sz)
/-- a static method of ints: nothing of the heap is touched -/
def MS (l : Launch) (y : MethodName) (wy : List Cond) (rm : Room) (av : List Value) (val : Int32) : Prop :=
  Met l y wy rm (va_Pc av (fun _ => True)) (vp_Si (fun r => r = val)) 0 0 (fun _ => False)
/-! entries -/
theorem entI {S : Type} {l : Launch} {y : MethodName} {wy wy' : List Cond} {rm : Room} {D : va_G} {cI cZ : ClassId} {tt : Nat → Nat} {av : List Value} {ws : va_W} {sz : Nat} {post : Int32 → S → Prop} {wf : S → va_W} {cc : ByteArray} {ty : FieldType} (maxL : Nat)
    (hy : plainName y.cls = true) (hw : wy = Cond.code y cc maxL (some ty) :: wy') (hn : (lg_sl av).length ≤ maxL) (hty : ty = .int ∨ (ty = .boolean ∧ ∀ v u, post v u → narrow .boolean (.int v) = .int v))
    (k : ∀ (p : Program) (e : Env) (s : State) (m : MethodId) (args : Array Value) (below : List Frame) (meth : Method) (c : Code) (A : Nat → Prop) (Q : State → Prop) (H : Heap) (ls : Array Slot), p.tables.exec = Jvm.exec → c.code = cc → c.maxLocals = maxL → s.vm.findClass y.cls = some m.cls → (∀ w ∈ wy, w.before args s = true) → s.heap.size = sz → (∀ q : Nat, s.heap.size ≤ q → A q) → va_P D vwCl ws H → va_K D vwCl (tyB cI cZ) s → va_D A ws → va_S A s.heap H [] → gS tt A s s.heap →
      (∀ (v : Int32) (u : S) (H : Heap) (locs : List Loc) (pc : Nat) (ls : Array Slot), decode cc pc = .ok (.ireturn, 1) → post v u → va_P D vwCl (wf u) H → va_D A (wf u) → va_S A s.heap H locs → W p l e rm s m args below meth c H locs 0 0 Q (F0 m pc ls [.int v])) →
      lv_has ls maxL (lv_args 0 av) → W p l e rm s m args below meth c H [] 0 0 Q (F0 m 0 ls [])) : MI l y wy rm D cI cZ tt av ws sz post wf := by
  refine Met.ofW (cc := cc) (maxL := maxL) (ret := some ty) hy hw ?_
  intro p e s m args below meth c s₁ B hml hv
  obtain ⟨rfl, hsz, hP, hK, hD0, hG⟩ := hv
  have hx := B.exec
  have hb := B.bytes
  have hr := B.returns
  have hts := atoms_spec (ws := wy) B.pre
  have hown : s.vm.findClass y.cls = some m.cls := findClass_of_methodNamed B.named
  have hlocks := B.notSynchronized
  have hD := hD0.self (sz := sz)
  rw [lg_entry_eq]
  refine k p e s m _ below meth c (va_A ws sz) _ s.heap _ hx hb hml hown hts hsz (fun q h => Or.inr (by rw [← hsz]; exact h)) hP hK hD va_S.rf hG ?_ (lv_entry av hn)
  intro v u H locs pc ls hdg hp hP9 hD9 hS9
  refine W.zret (v := v) (ty := ty) hx hb hr ?_ (fun t ht hW => ⟨⟨v, u, rfl, hp, by rw [ht]; exact hP9, va_K.moved hW.alike hK, hD9⟩, hS9.F ht⟩) hS9.2.2 hdg
  rcases hty with rfl | ⟨rfl, h⟩
  · rfl
  · exact h v u hp
theorem entV {S : Type} {l : Launch} {y : MethodName} {wy wy' : List Cond} {rm : Room} {D : va_G} {cI cZ : ClassId} {tt : Nat → Nat} {av : List Value} {ws : va_W} {sz mc ms : Nat} {post : S → Prop} {wf : S → va_W} {cc : ByteArray} (maxL : Nat)
    (hy : plainName y.cls = true) (hw : wy = Cond.code y cc maxL none :: wy') (hn : (lg_sl av).length ≤ maxL)
    (k : ∀ (p : Program) (e : Env) (s : State) (m : MethodId) (args : Array Value) (below : List Frame) (meth : Method) (c : Code) (A : Nat → Prop) (Q : State → Prop) (H : Heap) (ls : Array Slot), p.tables.exec = Jvm.exec → c.code = cc → c.maxLocals = maxL → s.vm.findClass y.cls = some m.cls → (∀ w ∈ wy, w.before args s = true) → meth.name = y.name → s.heap.size = sz → (∀ q : Nat, s.heap.size ≤ q → A q) → va_P D vwCl ws H → va_K D vwCl (tyB cI cZ) s → va_D A ws → va_S A s.heap H [] → gS tt A s s.heap →
      (∀ (u : S) (H : Heap) (locs : List Loc) (pc : Nat) (ls : Array Slot), decode cc pc = .ok (.return_, 1) → post u → va_P D vwCl (wf u) H → va_D A (wf u) → va_S A s.heap H locs → W p l e rm s m args below meth c H locs mc ms Q (F0 m pc ls [])) →
      lv_has ls maxL (lv_args 0 av) → W p l e rm s m args below meth c H [] 0 0 Q (F0 m 0 ls [])) : MV l y wy rm D cI cZ tt av ws sz mc ms post wf := by
  refine Met.ofW (cc := cc) (maxL := maxL) (ret := none) hy hw ?_
  intro p e s m args below meth c s₁ B hml hv
  obtain ⟨rfl, hsz, hP, hK, hD0, hG⟩ := hv
  have hx := B.exec
  have hb := B.bytes
  have hr := B.returns
  have hts := atoms_spec (ws := wy) B.pre
  have hown : s.vm.findClass y.cls = some m.cls := findClass_of_methodNamed B.named
  have hlocks := B.notSynchronized
  have hD := hD0.self (sz := sz)
  rw [lg_entry_eq]
  refine k p e s m _ below meth c (va_A ws sz) _ s.heap _ hx hb hml hown hts (name_of_methodNamed B.named B.method).1 hsz (fun q h => Or.inr (by rw [← hsz]; exact h)) hP hK hD va_S.rf hG ?_ (lv_entry av hn)
  intro u H locs pc ls hdg hp hP9 hD9 hS9
  exact W.vret hx hb hr (fun t ht hW => ⟨⟨u, rfl, hp, by rw [ht]; exact hP9, va_K.moved hW.alike hK, hD9⟩, hS9.F ht⟩) hS9.2.2 hdg
theorem entR {S : Type} {l : Launch} {y : MethodName} {wy wy' : List Cond} {rm : Room} {D : va_G} {cI cZ : ClassId} {tt : Nat → Nat} {av : List Value} {ws : va_W} {sz : Nat} {post : S → Prop} {wf : S → va_W} {ra : Nat} {cc : ByteArray} {cn : String} (maxL : Nat)
    (hy : plainName y.cls = true) (hw : wy = Cond.code y cc maxL (some (.object cn)) :: wy') (hn : (lg_sl av).length ≤ maxL)
    (k : ∀ (p : Program) (e : Env) (s : State) (m : MethodId) (args : Array Value) (below : List Frame) (meth : Method) (c : Code) (A : Nat → Prop) (Q : State → Prop) (H : Heap) (ls : Array Slot), p.tables.exec = Jvm.exec → c.code = cc → c.maxLocals = maxL → s.vm.findClass y.cls = some m.cls → (∀ w ∈ wy, w.before args s = true) → s.heap.size = sz → (∀ q : Nat, s.heap.size ≤ q → A q) → va_P D vwCl ws H → va_K D vwCl (tyB cI cZ) s → va_D A ws → va_S A s.heap H [] → gS tt A s s.heap →
      (∀ (u : S) (H : Heap) (locs : List Loc) (pc : Nat) (ls : Array Slot), decode cc pc = .ok (.areturn, 1) → post u → va_P D vwCl (wf u) H → va_D A (wf u) → va_S A s.heap H locs → W p l e rm s m args below meth c H locs 0 0 Q (F0 m pc ls [.ref ra])) →
      lv_has ls maxL (lv_args 0 av) → W p l e rm s m args below meth c H [] 0 0 Q (F0 m 0 ls [])) : MR l y wy rm D cI cZ tt av ws sz post wf ra := by
  refine Met.ofW (cc := cc) (maxL := maxL) (ret := some (.object cn)) hy hw ?_
  intro p e s m args below meth c s₁ B hml hv
  obtain ⟨rfl, hsz, hP, hK, hD0, hG⟩ := hv
  have hx := B.exec
  have hb := B.bytes
  have hr := B.returns
  have hts := atoms_spec (ws := wy) B.pre
  have hown : s.vm.findClass y.cls = some m.cls := findClass_of_methodNamed B.named
  have hlocks := B.notSynchronized
  have hD := hD0.self (sz := sz)
  rw [lg_entry_eq]
  refine k p e s m _ below meth c (va_A ws sz) _ s.heap _ hx hb hml hown hts hsz (fun q h => Or.inr (by rw [← hsz]; exact h)) hP hK hD va_S.rf hG ?_ (lv_entry av hn)
  intro u H locs pc ls hdg hp hP9 hD9 hS9
  exact W.aret hx hb hr (Or.inl ⟨_, rfl⟩) (Or.inr ⟨_, rfl⟩) (fun t ht hW => ⟨⟨u, ra, rfl, hp, rfl, by rw [ht]; exact hP9, va_K.moved hW.alike hK, hD9⟩, hS9.F ht⟩) hS9.2.2 hdg
theorem entS {l : Launch} {y : MethodName} {wy wy' : List Cond} {rm : Room} {av : List Value} {val : Int32} {cc : ByteArray} {ty : FieldType} (maxL : Nat)
    (hy : plainName y.cls = true) (hw : wy = Cond.code y cc maxL (some ty) :: wy') (hn : (lg_sl av).length ≤ maxL) (hty : narrow ty (.int val) = .int val)
    (k : ∀ (p : Program) (e : Env) (s : State) (m : MethodId) (args : Array Value) (below : List Frame) (meth : Method) (c : Code) (Q : State → Prop) (H : Heap) (ls : Array Slot), p.tables.exec = Jvm.exec → c.code = cc → c.maxLocals = maxL → s.vm.findClass y.cls = some m.cls → (∀ w ∈ wy, w.before args s = true) →
      (∀ (v : Int32) (pc : Nat) (ls : Array Slot), decode cc pc = .ok (.ireturn, 1) → v = val → W p l e rm s m args below meth c H [] 0 0 Q (F0 m pc ls [.int v])) →
      lv_has ls maxL (lv_args 0 av) → W p l e rm s m args below meth c H [] 0 0 Q (F0 m 0 ls [])) : MS l y wy rm av val := by
  refine Met.ofW (cc := cc) (maxL := maxL) (ret := some ty) hy hw ?_
  intro p e s m args below meth c s₁ B hml hv
  obtain ⟨rfl, -⟩ := hv
  have hx := B.exec
  have hb := B.bytes
  have hr := B.returns
  have hts := atoms_spec (ws := wy) B.pre
  have hown : s.vm.findClass y.cls = some m.cls := findClass_of_methodNamed B.named
  have hlocks := B.notSynchronized
  rw [lg_entry_eq]
  refine k p e s m _ below meth c _ s.heap _ hx hb hml hown hts ?_ (lv_entry av hn)
  intro v pc ls hdg hv
  subst hv
  exact W.zret (v := v) (ty := ty) hx hb hr hty (fun t ht hW => ⟨v, rfl, rfl, ht⟩) (fun q h => by cases h) hdg
/-! calls -/
section CLS
variable {p : Program} {l : Launch} {e : Env} {R : Room} {s : State} {m : MethodId} {args : Array Value} {below : List Frame} {meth : Method} {c : Code} {H : Heap} {locs : List Loc} {cells slots : Nat} {Q : State → Prop}
variable {pc : Nat} {ls : Array Slot} {rest st0 As : List Value} {A : Nat → Prop} {D : va_G} {cI cZ : ClassId} {tt : Nat → Nat} {y : MethodName} {bytes cc : ByteArray} {maxL nL n index : Nat} {ret : Option FieldType} {wy Ts : List Cond} {rm : Room} {own C : String} {b : Nat}
theorem preV {ws wc : va_W} {q0 ci : Nat} {q : vw_C} {fs : List Value} (hP : va_P D vwCl ws H) (hK : va_K D vwCl (tyB cI cZ) s) (hD : va_D A ws) (hS : va_S A s.heap H locs) (hA : ∀ q : Nat, s.heap.size ≤ q → A q) (hG : gS tt A s s.heap) (isC : List Nat) (hnC : va_nd isC = true) (hC : isC.map (fun i => ws[i]?) = wc.map some) (hc : vwCl[ci]? = some q) (he : wc[q0]? = some (b, .inr (ci, fs))) : PreV s H q.1 b (cP D cI cZ tt (.ref b :: As) wc H.size) As := by
  have hPc : va_P D vwCl wc H := by
    intro k x hx
    have h1 : (isC.map (fun i => ws[i]?))[k]? = some (some x) := by rw [hC, List.getElem?_map, hx]; rfl
    rw [List.getElem?_map] at h1
    cases hi : isC[k]? with
    | none => rw [hi] at h1; cases h1
    | some i => rw [hi] at h1; exact hP i x (Option.some.inj h1)
  refine ⟨cP.blind _ _ _ _ _ _ _, va_recv hK hPc hc he, fun U hU hW => ⟨rfl, by rw [hU], by rw [hU]; exact hPc, va_K.moved hW.alike hK, (hD.sub isC hnC hC).weaken (fun _ _ _ _ => trivial), ?_⟩⟩
  rw [hU]
  exact ((hG.kept hS).narrow (va_free hD hS hA isC hC)).warm hW
theorem preI {ws wc : va_W} (hP : va_P D vwCl ws H) (hK : va_K D vwCl (tyB cI cZ) s) (hD : va_D A ws) (hS : va_S A s.heap H locs) (hA : ∀ q : Nat, s.heap.size ≤ q → A q) (hG : gS tt A s s.heap) (isC : List Nat) (hnC : va_nd isC = true) (hC : isC.map (fun i => ws[i]?) = wc.map some) : PreS s H (cP D cI cZ tt As wc H.size) As := by
  have hPc : va_P D vwCl wc H := by
    intro k x hx
    have h1 : (isC.map (fun i => ws[i]?))[k]? = some (some x) := by rw [hC, List.getElem?_map, hx]; rfl
    rw [List.getElem?_map] at h1
    cases hi : isC[k]? with
    | none => rw [hi] at h1; cases h1
    | some i => rw [hi] at h1; exact hP i x (Option.some.inj h1)
  refine ⟨cP.blind _ _ _ _ _ _ _, fun U hU hW => ⟨rfl, by rw [hU], by rw [hU]; exact hPc, va_K.moved hW.alike hK, (hD.sub isC hnC hC).weaken (fun _ _ _ _ => trivial), ?_⟩⟩
  rw [hU]
  exact ((hG.kept hS).narrow (va_free hD hS hA isC hC)).warm hW
theorem apartB {isR isC : List Nat} (h : isR.all (fun i => !isC.contains i) = true) : ∀ i ∈ isR, i ∉ isC := by
  intro i hi hc
  have := List.all_eq_true.mp h i hi
  simp [hc] at this
/-- what came back, in the caller's order -/
theorem backW {S : Type} {wf : S → va_W} {ws wc wr : va_W} {ws' : S → va_W} {H1 : Heap} (hP : va_P D vwCl ws H) (hD : va_D A ws) (hS : va_S A s.heap H locs) (hA : ∀ q : Nat, s.heap.size ≤ q → A q) (isC isR is : List Nat) (hC : isC.map (fun i => ws[i]?) = wc.map some) (hR : isR.map (fun i => ws[i]?) = wr.map some) (hnR : va_nd isR = true) (hdis : isR.all (fun i => !isC.contains i) = true) (hn : va_nd is = true) (hs : ∀ u, is.map (fun i => (wr ++ wf u)[i]?) = (ws' u).map some) {u : S}
    (hk : ∀ q : Nat, q < H.size → ¬ va_A wc H.size q → H1[q]? = H[q]?) (hP1 : va_P D vwCl (wf u) H1) (hD1 : va_D (va_A wc H.size) (wf u)) : va_P D vwCl (ws' u) H1 ∧ va_D A (ws' u) := by
  obtain ⟨h1, h2⟩ := va_join hP hD isC isR hC hR hnR (apartB hdis) hk (va_free hD hS hA isC hC) hP1 hD1
  refine ⟨?_, h2.sub is hn (hs u)⟩
  intro k x hx
  have h3 : (is.map (fun i => (wr ++ wf u)[i]?))[k]? = some (some x) := by rw [hs u, List.getElem?_map, hx]; rfl
  rw [List.getElem?_map] at h3
  cases hi : is[k]? with
  | none => rw [hi] at h3; cases h3
  | some i => rw [hi] at h3; exact h1 i x (Option.some.inj h3)
theorem gcVi {S : Type} {post : Int32 → S → Prop} {wf : S → va_W} {ws wc wr : va_W} {ws' : S → va_W} {q : vw_C} {fs : List Value} {q0 ci : Nat} (Sx : CallFix p m c cc nL s args Ts own) (hM : MI l y wy rm D cI cZ tt (.ref b :: As) wc H.size post wf) (cw : CallW R s args own q.1 index y bytes maxL ret wy rm 0 0 n)
    (hP : va_P D vwCl ws H) (hK : va_K D vwCl (tyB cI cZ) s) (hD : va_D A ws) (hS : va_S A s.heap H locs) (hA : ∀ q : Nat, s.heap.size ≤ q → A q) (hG : gS tt A s s.heap) (hc : vwCl[ci]? = some q) (he : wc[q0]? = some (b, .inr (ci, fs))) (isC isR is : List Nat) (hnC : va_nd isC = true) (hC : isC.map (fun i => ws[i]?) = wc.map some) (hR : isR.map (fun i => ws[i]?) = wr.map some) (hnR : va_nd isR = true) (hdis : isR.all (fun i => !isC.contains i) = true) (hn : va_nd is = true) (hs : ∀ u, is.map (fun i => (wr ++ wf u)[i]?) = (ws' u).map some)
    (hsz : ls.size = nL) (hlen : As.length = n) (hst : st0 = As.reverse ++ .ref b :: rest) (hrm : (rest.map fun v => v.category).sum ≤ 8) (hf : cells ≤ R.cells ∧ slots ≤ R.slots) (hdg : decode cc pc = .ok (.invokevirtual index, 3))
    (kk : ∀ (r : Int32) (u : S) (H1 : Heap) (locs1 : List Loc), post r u → va_P D vwCl (ws' u) H1 → va_D A (ws' u) → va_S A s.heap H1 locs1 → W p l e R s m args below meth c H1 locs1 cells slots Q (F0 m (pc + 3) ls (.int r :: rest))) : W p l e R s m args below meth c H locs cells slots Q (F0 m pc ls st0) := by
  have hF := va_free hD hS hA isC hC
  refine va_calli (va_runV (As := As) (rest := rest) Sx hM cw (preV (As := As) hP hK hD hS hA hG isC hnC hC hc he) rfl hlen hsz hst (lv_room hrm) hdg hf) hS (fun q _ h => hF q h) hF (fun r u t H1 locs1 ht hvm hp hB hz1 hk1 hS1 => ?_)
  obtain ⟨hP1, hK1, hD1⟩ := hB
  rw [ht] at hP1
  obtain ⟨h1, h2⟩ := backW (wf := wf) (ws' := ws') hP hD hS hA isC isR is hC hR hnR hdis hn hs hk1 hP1 hD1
  exact kk r u H1 locs1 hp h1 h2 hS1
theorem gcVv {S : Type} {post : S → Prop} {wf : S → va_W} {ws wc wr : va_W} {ws' : S → va_W} {q : vw_C} {fs : List Value} {q0 ci : Nat} (Sx : CallFix p m c cc nL s args Ts own) (hM : MV l y wy rm D cI cZ tt (.ref b :: As) wc H.size 0 0 post wf) (cw : CallW R s args own q.1 index y bytes maxL ret wy rm 0 0 n)
    (hP : va_P D vwCl ws H) (hK : va_K D vwCl (tyB cI cZ) s) (hD : va_D A ws) (hS : va_S A s.heap H locs) (hA : ∀ q : Nat, s.heap.size ≤ q → A q) (hG : gS tt A s s.heap) (hc : vwCl[ci]? = some q) (he : wc[q0]? = some (b, .inr (ci, fs))) (isC isR is : List Nat) (hnC : va_nd isC = true) (hC : isC.map (fun i => ws[i]?) = wc.map some) (hR : isR.map (fun i => ws[i]?) = wr.map some) (hnR : va_nd isR = true) (hdis : isR.all (fun i => !isC.contains i) = true) (hn : va_nd is = true) (hs : ∀ u, is.map (fun i => (wr ++ wf u)[i]?) = (ws' u).map some)
    (hsz : ls.size = nL) (hlen : As.length = n) (hst : st0 = As.reverse ++ .ref b :: rest) (hrm : (rest.map fun v => v.category).sum ≤ 8) (hf : cells ≤ R.cells ∧ slots ≤ R.slots) (hdg : decode cc pc = .ok (.invokevirtual index, 3))
    (kk : ∀ (u : S) (H1 : Heap) (locs1 : List Loc), post u → va_P D vwCl (ws' u) H1 → va_D A (ws' u) → va_S A s.heap H1 locs1 → W p l e R s m args below meth c H1 locs1 cells slots Q (F0 m (pc + 3) ls rest)) : W p l e R s m args below meth c H locs cells slots Q (F0 m pc ls st0) := by
  have hF := va_free hD hS hA isC hC
  refine va_callv (va_runV (As := As) (rest := rest) Sx hM cw (preV (As := As) hP hK hD hS hA hG isC hnC hC hc he) rfl hlen hsz hst (lv_room hrm) hdg hf) hS (fun q _ h => hF q h) hF (fun u t H1 locs1 ht hvm hp hB hz1 hk1 hS1 => ?_)
  obtain ⟨hP1, hK1, hD1⟩ := hB
  rw [ht] at hP1
  obtain ⟨h1, h2⟩ := backW (wf := wf) (ws' := ws') hP hD hS hA isC isR is hC hR hnR hdis hn hs hk1 hP1 hD1
  exact kk u H1 locs1 hp h1 h2 hS1
theorem gcVr {S : Type} {post : S → Prop} {wf : S → va_W} {ra : Nat} {ws wc wr : va_W} {ws' : S → va_W} {q : vw_C} {fs : List Value} {q0 ci : Nat} (Sx : CallFix p m c cc nL s args Ts own) (hM : MR l y wy rm D cI cZ tt (.ref b :: As) wc H.size post wf ra) (cw : CallW R s args own q.1 index y bytes maxL ret wy rm 0 0 n)
    (hP : va_P D vwCl ws H) (hK : va_K D vwCl (tyB cI cZ) s) (hD : va_D A ws) (hS : va_S A s.heap H locs) (hA : ∀ q : Nat, s.heap.size ≤ q → A q) (hG : gS tt A s s.heap) (hc : vwCl[ci]? = some q) (he : wc[q0]? = some (b, .inr (ci, fs))) (isC isR is : List Nat) (hnC : va_nd isC = true) (hC : isC.map (fun i => ws[i]?) = wc.map some) (hR : isR.map (fun i => ws[i]?) = wr.map some) (hnR : va_nd isR = true) (hdis : isR.all (fun i => !isC.contains i) = true) (hn : va_nd is = true) (hs : ∀ u, is.map (fun i => (wr ++ wf u)[i]?) = (ws' u).map some)
    (hsz : ls.size = nL) (hlen : As.length = n) (hst : st0 = As.reverse ++ .ref b :: rest) (hrm : (rest.map fun v => v.category).sum ≤ 8) (hf : cells ≤ R.cells ∧ slots ≤ R.slots) (hdg : decode cc pc = .ok (.invokevirtual index, 3))
    (kk : ∀ (u : S) (H1 : Heap) (locs1 : List Loc), post u → va_P D vwCl (ws' u) H1 → va_D A (ws' u) → va_S A s.heap H1 locs1 → W p l e R s m args below meth c H1 locs1 cells slots Q (F0 m (pc + 3) ls (.ref ra :: rest))) : W p l e R s m args below meth c H locs cells slots Q (F0 m pc ls st0) := by
  have hF := va_free hD hS hA isC hC
  refine va_callr (va_runV (As := As) (rest := rest) Sx hM cw (preV (As := As) hP hK hD hS hA hG isC hnC hC hc he) rfl hlen hsz hst (lv_room hrm) hdg hf) hS (fun q _ h => hF q h) hF (fun u ra1 t H1 locs1 ht hvm hp hB hz1 hk1 hS1 => ?_)
  obtain ⟨rfl, hP1, hK1, hD1⟩ := hB
  rw [ht] at hP1
  obtain ⟨h1, h2⟩ := backW (wf := wf) (ws' := ws') hP hD hS hA isC isR is hC hR hnR hdis hn hs hk1 hP1 hD1
  exact kk u H1 locs1 hp h1 h2 hS1
theorem blindT (av : List Value) : FrameBlind (va_Pc av (fun _ => True)) := fun a U g mk h => h
theorem gcS {val : Int32} (Sx : CallFix p m c cc nL s args Ts own) (hM : MS l y wy rm As val) (cw : CallB R s args own index y bytes maxL ret wy rm 0 0 n ∧ (Cond.static y).before args s = true)
    (hsz : ls.size = nL) (hlen : As.length = n) (hst : st0 = As.reverse ++ rest) (hrm : (rest.map fun v => v.category).sum ≤ 8) (hf : cells ≤ R.cells ∧ slots ≤ R.slots) (hdg : decode cc pc = .ok (.invokestatic index, 3))
    (kk : W p l e R s m args below meth c H locs cells slots Q (F0 m (pc + 3) ls (.int val :: rest))) : W p l e R s m args below meth c H locs cells slots Q (F0 m pc ls st0) :=
  vp_callSi (W.runS (As := As) (rest := rest) Sx hM cw ⟨blindT _, fun U _ _ => ⟨rfl, trivial⟩⟩ rfl hlen hsz hst (lv_room hrm) hdg hf) (fun r hr => by rw [hr]; exact kk)
theorem runTo {mc ms : Nat} {g : JFrame} {Qa : State → Outcome → State → Prop} {free : Addr → Prop} (h : va_Run p l e R s m args below meth c H locs cells slots mc ms g rest Qa free) : CallRun p l e R s m args below meth c H locs cells slots mc ms g rest Qa free := by
  intro T hT X
  obtain ⟨v, st₀, t, T', L, h0, X', hL, e1, e2, hq, st⟩ := h T hT X
  exact ⟨v, st₀, t, T', L, h0, X', hL, e1, hq, st⟩
theorem gcSN {host : String} {val : Int32} (Sx : CallFix p m c cc nL s args Ts own) (hM : MS l y wy rm As val) (cw : va_CN R s args own index y host bytes maxL ret wy rm 0 0 n) (hstat : (Cond.static y).before args s = true)
    (hsz : ls.size = nL) (hlen : As.length = n) (hst : st0 = As.reverse ++ rest) (hrm : (rest.map fun v => v.category).sum ≤ 8) (hf : cells ≤ R.cells ∧ slots ≤ R.slots) (hdg : decode cc pc = .ok (.invokestatic index, 3))
    (kk : W p l e R s m args below meth c H locs cells slots Q (F0 m (pc + 3) ls (.int val :: rest))) : W p l e R s m args below meth c H locs cells slots Q (F0 m pc ls st0) :=
  vp_callSi (runTo (va_runSN (As := As) (rest := rest) Sx hM ⟨cw, hstat, trivial⟩ ⟨blindT _, fun U _ _ => ⟨rfl, trivial⟩⟩ rfl hlen hsz hst (lv_room hrm) hdg hf)) (fun r hr => by rw [hr]; exact kk)
end CLS
end
section
/-! ===== rows of the machine over natural numbers ===== -/
section NV
variable {p : Program} {l : Launch} {e : Env} {R : Room} {s : State} {m : MethodId} {args : Array Value} {below : List Frame} {meth : Method} {c : Code} {H : Heap} {locs : List Loc} {cells slots : Nat} {Q : State → Prop}
variable {cc : ByteArray} {pc : Nat} {ls : Array Slot} {rest : List Value}
theorem top_eq {x y : Int32} (h : x = y) (k : W p l e R s m args below meth c H locs cells slots Q (F0 m pc ls (.int y :: rest))) : W p l e R s m args below meth c H locs cells slots Q (F0 m pc ls (.int x :: rest)) := by rw [h]; exact k
theorem nv_iadd (hx : p.tables.exec = Jvm.exec) (hb : c.code = cc) {a b : Nat} (hdg : decode cc pc = .ok (.iadd, 1)) (k : W p l e R s m args below meth c H locs cells slots Q (F0 m (pc + 1) ls (.int (nI (a + b)) :: rest))) : W p l e R s m args below meth c H locs cells slots Q (F0 m pc ls (.int (nI b) :: .int (nI a) :: rest)) := lv_iadd hx hb hdg (by rw [nI_add]; exact k)
theorem nv_isub (hx : p.tables.exec = Jvm.exec) (hb : c.code = cc) {a b : Nat} (hdg : decode cc pc = .ok (.isub, 1)) (h : b ≤ a) (k : W p l e R s m args below meth c H locs cells slots Q (F0 m (pc + 1) ls (.int (nI (a - b)) :: rest))) : W p l e R s m args below meth c H locs cells slots Q (F0 m pc ls (.int (nI b) :: .int (nI a) :: rest)) := lv_isub hx hb hdg (by rw [pk_sub h]; exact k)
theorem nv_imul (hx : p.tables.exec = Jvm.exec) (hb : c.code = cc) {a b : Nat} (hdg : decode cc pc = .ok (.imul, 1)) (k : W p l e R s m args below meth c H locs cells slots Q (F0 m (pc + 1) ls (.int (nI (a * b)) :: rest))) : W p l e R s m args below meth c H locs cells slots Q (F0 m pc ls (.int (nI b) :: .int (nI a) :: rest)) := lv_imul hx hb hdg (by rw [pk_mul]; exact k)
theorem nv_idiv (hx : p.tables.exec = Jvm.exec) (hb : c.code = cc) {a b : Nat} (hdg : decode cc pc = .ok (.idiv, 1)) (ha : a < 2 ^ 31) (h0 : 0 < b) (hB : b < 2 ^ 31) (k : W p l e R s m args below meth c H locs cells slots Q (F0 m (pc + 1) ls (.int (nI (a / b)) :: rest))) : W p l e R s m args below meth c H locs cells slots Q (F0 m pc ls (.int (nI b) :: .int (nI a) :: rest)) := lv_idiv hx hb hdg (nI_ne0 h0 hB) (by rw [pk_div ha h0 hB]; exact k)
theorem nv_irem (hx : p.tables.exec = Jvm.exec) (hb : c.code = cc) {a b : Nat} (hdg : decode cc pc = .ok (.irem, 1)) (ha : a < 2 ^ 31) (h0 : 0 < b) (hB : b < 2 ^ 31) (k : W p l e R s m args below meth c H locs cells slots Q (F0 m (pc + 1) ls (.int (nI (a % b)) :: rest))) : W p l e R s m args below meth c H locs cells slots Q (F0 m pc ls (.int (nI b) :: .int (nI a) :: rest)) := lv_irem hx hb hdg (nI_ne0 h0 hB) (by rw [pk_rem ha h0 hB]; exact k)
theorem nv_icmp_lt (hx : p.tables.exec = Jvm.exec) (hb : c.code = cc) {a b : Nat} {off : Int} {tgt : Nat} (hdg : decode cc pc = .ok (.if_icmp .lt off, 3)) (ht : (pc : Int) + off = (tgt : Int)) (ha : a < 2 ^ 31) (hB : b < 2 ^ 31) (kt : a < b → W p l e R s m args below meth c H locs cells slots Q (F0 m tgt ls rest)) (kf : ¬ a < b → W p l e R s m args below meth c H locs cells slots Q (F0 m (pc + 3) ls rest)) : W p l e R s m args below meth c H locs cells slots Q (F0 m pc ls (.int (nI b) :: .int (nI a) :: rest)) := lv_icmp_lt hx hb hdg ht (fun h => kt ((nI_ltI ha hB).mp h)) (fun h => kf (fun q => h ((nI_ltI ha hB).mpr q)))
theorem nv_icmp_ge (hx : p.tables.exec = Jvm.exec) (hb : c.code = cc) {a b : Nat} {off : Int} {tgt : Nat} (hdg : decode cc pc = .ok (.if_icmp .ge off, 3)) (ht : (pc : Int) + off = (tgt : Int)) (ha : a < 2 ^ 31) (hB : b < 2 ^ 31) (kt : b ≤ a → W p l e R s m args below meth c H locs cells slots Q (F0 m tgt ls rest)) (kf : ¬ b ≤ a → W p l e R s m args below meth c H locs cells slots Q (F0 m (pc + 3) ls rest)) : W p l e R s m args below meth c H locs cells slots Q (F0 m pc ls (.int (nI b) :: .int (nI a) :: rest)) := lv_icmp_ge hx hb hdg ht (fun h => kt ((nI_leI hB ha).mp h)) (fun h => kf (fun q => h ((nI_leI hB ha).mpr q)))
theorem nv_icmp_gt (hx : p.tables.exec = Jvm.exec) (hb : c.code = cc) {a b : Nat} {off : Int} {tgt : Nat} (hdg : decode cc pc = .ok (.if_icmp .gt off, 3)) (ht : (pc : Int) + off = (tgt : Int)) (ha : a < 2 ^ 31) (hB : b < 2 ^ 31) (kt : b < a → W p l e R s m args below meth c H locs cells slots Q (F0 m tgt ls rest)) (kf : ¬ b < a → W p l e R s m args below meth c H locs cells slots Q (F0 m (pc + 3) ls rest)) : W p l e R s m args below meth c H locs cells slots Q (F0 m pc ls (.int (nI b) :: .int (nI a) :: rest)) := lv_icmp_gt hx hb hdg ht (fun h => kt ((nI_ltI hB ha).mp h)) (fun h => kf (fun q => h ((nI_ltI hB ha).mpr q)))
theorem nv_icmp_le (hx : p.tables.exec = Jvm.exec) (hb : c.code = cc) {a b : Nat} {off : Int} {tgt : Nat} (hdg : decode cc pc = .ok (.if_icmp .le off, 3)) (ht : (pc : Int) + off = (tgt : Int)) (ha : a < 2 ^ 31) (hB : b < 2 ^ 31) (kt : a ≤ b → W p l e R s m args below meth c H locs cells slots Q (F0 m tgt ls rest)) (kf : ¬ a ≤ b → W p l e R s m args below meth c H locs cells slots Q (F0 m (pc + 3) ls rest)) : W p l e R s m args below meth c H locs cells slots Q (F0 m pc ls (.int (nI b) :: .int (nI a) :: rest)) := lv_icmp_le hx hb hdg ht (fun h => kt ((nI_leI ha hB).mp h)) (fun h => kf (fun q => h ((nI_leI ha hB).mpr q)))
theorem nv_icmp_eq (hx : p.tables.exec = Jvm.exec) (hb : c.code = cc) {a b : Nat} {off : Int} {tgt : Nat} (hdg : decode cc pc = .ok (.if_icmp .eq off, 3)) (ht : (pc : Int) + off = (tgt : Int)) (ha : a < 2 ^ 31) (hB : b < 2 ^ 31) (kt : a = b → W p l e R s m args below meth c H locs cells slots Q (F0 m tgt ls rest)) (kf : ¬ a = b → W p l e R s m args below meth c H locs cells slots Q (F0 m (pc + 3) ls rest)) : W p l e R s m args below meth c H locs cells slots Q (F0 m pc ls (.int (nI b) :: .int (nI a) :: rest)) := lv_icmp_eq hx hb hdg ht (fun h => kt ((nI_eq ha hB).mp h)) (fun h => kf (fun q => h ((nI_eq ha hB).mpr q)))
theorem nv_icmp_ne (hx : p.tables.exec = Jvm.exec) (hb : c.code = cc) {a b : Nat} {off : Int} {tgt : Nat} (hdg : decode cc pc = .ok (.if_icmp .ne off, 3)) (ht : (pc : Int) + off = (tgt : Int)) (ha : a < 2 ^ 31) (hB : b < 2 ^ 31) (kt : ¬ a = b → W p l e R s m args below meth c H locs cells slots Q (F0 m tgt ls rest)) (kf : a = b → W p l e R s m args below meth c H locs cells slots Q (F0 m (pc + 3) ls rest)) : W p l e R s m args below meth c H locs cells slots Q (F0 m pc ls (.int (nI b) :: .int (nI a) :: rest)) := lv_icmp_ne hx hb hdg ht (fun h => kt (fun q => h ((nI_eq ha hB).mpr q))) (fun h => kf ((nI_eq ha hB).mp h))
theorem nv_if_eq (hx : p.tables.exec = Jvm.exec) (hb : c.code = cc) {a : Nat} {off : Int} {tgt : Nat} (hdg : decode cc pc = .ok (.ifCond .eq off, 3)) (ht : (pc : Int) + off = (tgt : Int)) (ha : a < 2 ^ 31) (kt : a = 0 → W p l e R s m args below meth c H locs cells slots Q (F0 m tgt ls rest)) (kf : ¬ a = 0 → W p l e R s m args below meth c H locs cells slots Q (F0 m (pc + 3) ls rest)) : W p l e R s m args below meth c H locs cells slots Q (F0 m pc ls (.int (nI a) :: rest)) := lv_if_eq hx hb hdg ht (fun h => kt ((nI_eq ha (by decide)).mp (h.trans nI_0.symm))) (fun h => kf (fun q => h (by rw [q]; exact nI_0)))
theorem nv_if_ne (hx : p.tables.exec = Jvm.exec) (hb : c.code = cc) {a : Nat} {off : Int} {tgt : Nat} (hdg : decode cc pc = .ok (.ifCond .ne off, 3)) (ht : (pc : Int) + off = (tgt : Int)) (ha : a < 2 ^ 31) (kt : ¬ a = 0 → W p l e R s m args below meth c H locs cells slots Q (F0 m tgt ls rest)) (kf : a = 0 → W p l e R s m args below meth c H locs cells slots Q (F0 m (pc + 3) ls rest)) : W p l e R s m args below meth c H locs cells slots Q (F0 m pc ls (.int (nI a) :: rest)) := lv_if_ne hx hb hdg ht (fun h => kt (fun q => h (by rw [q]; exact nI_0))) (fun h => kf ((nI_eq ha (by decide)).mp (h.trans nI_0.symm)))
theorem nv_if_le (hx : p.tables.exec = Jvm.exec) (hb : c.code = cc) {a : Nat} {off : Int} {tgt : Nat} (hdg : decode cc pc = .ok (.ifCond .le off, 3)) (ht : (pc : Int) + off = (tgt : Int)) (ha : a < 2 ^ 31) (kt : a = 0 → W p l e R s m args below meth c H locs cells slots Q (F0 m tgt ls rest)) (kf : ¬ a = 0 → W p l e R s m args below meth c H locs cells slots Q (F0 m (pc + 3) ls rest)) : W p l e R s m args below meth c H locs cells slots Q (F0 m pc ls (.int (nI a) :: rest)) := lv_if_le hx hb hdg ht (fun h => kt (Nat.le_zero.mp ((nI_leI ha (by decide)).mp (by rw [nI_0]; exact h)))) (fun h => kf (fun q => h (by rw [q, nI_0]; decide)))
theorem nv_if_gt (hx : p.tables.exec = Jvm.exec) (hb : c.code = cc) {a : Nat} {off : Int} {tgt : Nat} (hdg : decode cc pc = .ok (.ifCond .gt off, 3)) (ht : (pc : Int) + off = (tgt : Int)) (ha : a < 2 ^ 31) (kt : ¬ a = 0 → W p l e R s m args below meth c H locs cells slots Q (F0 m tgt ls rest)) (kf : a = 0 → W p l e R s m args below meth c H locs cells slots Q (F0 m (pc + 3) ls rest)) : W p l e R s m args below meth c H locs cells slots Q (F0 m pc ls (.int (nI a) :: rest)) := lv_if_gt hx hb hdg ht (fun h => kt (fun q => by rw [q, nI_0] at h; exact absurd h (by decide))) (fun h => kf (Classical.byContradiction fun q => h (by rw [← nI_0]; exact (nI_ltI (by decide) ha).mpr (Nat.pos_of_ne_zero q))))
theorem nv_if_lt (hx : p.tables.exec = Jvm.exec) (hb : c.code = cc) {a : Nat} {off : Int} {tgt : Nat} (hdg : decode cc pc = .ok (.ifCond .lt off, 3)) (ht : (pc : Int) + off = (tgt : Int)) (ha : a < 2 ^ 31) (kf : W p l e R s m args below meth c H locs cells slots Q (F0 m (pc + 3) ls rest)) : W p l e R s m args below meth c H locs cells slots Q (F0 m pc ls (.int (nI a) :: rest)) := lv_if_lt hx hb hdg ht (fun h => absurd h (nI_pos ha)) (fun _ => kf)
theorem nv_if_ge (hx : p.tables.exec = Jvm.exec) (hb : c.code = cc) {a : Nat} {off : Int} {tgt : Nat} (hdg : decode cc pc = .ok (.ifCond .ge off, 3)) (ht : (pc : Int) + off = (tgt : Int)) (ha : a < 2 ^ 31) (kt : W p l e R s m args below meth c H locs cells slots Q (F0 m tgt ls rest)) : W p l e R s m args below meth c H locs cells slots Q (F0 m pc ls (.int (nI a) :: rest)) := lv_if_ge hx hb hdg ht (fun _ => kt) (fun h => absurd (nI_pos' ha) h)
theorem nv_ifb_eq (hx : p.tables.exec = Jvm.exec) (hb : c.code = cc) {P : Prop} [Decidable P] {off : Int} {tgt : Nat} (hdg : decode cc pc = .ok (.ifCond .eq off, 3)) (ht : (pc : Int) + off = (tgt : Int)) (kt : ¬ P → W p l e R s m args below meth c H locs cells slots Q (F0 m tgt ls rest)) (kf : P → W p l e R s m args below meth c H locs cells slots Q (F0 m (pc + 3) ls rest)) : W p l e R s m args below meth c H locs cells slots Q (F0 m pc ls (.int (nI (if P then 1 else 0)) :: rest)) := by
  by_cases h : P
  · rw [if_pos h]; exact nv_if_eq hx hb hdg ht (by decide) (fun q => absurd q (by decide)) (fun _ => kf h)
  · rw [if_neg h]; exact nv_if_eq hx hb hdg ht (by decide) (fun _ => kt h) (fun q => absurd rfl q)
theorem nv_ifb_ne (hx : p.tables.exec = Jvm.exec) (hb : c.code = cc) {P : Prop} [Decidable P] {off : Int} {tgt : Nat} (hdg : decode cc pc = .ok (.ifCond .ne off, 3)) (ht : (pc : Int) + off = (tgt : Int)) (kt : P → W p l e R s m args below meth c H locs cells slots Q (F0 m tgt ls rest)) (kf : ¬ P → W p l e R s m args below meth c H locs cells slots Q (F0 m (pc + 3) ls rest)) : W p l e R s m args below meth c H locs cells slots Q (F0 m pc ls (.int (nI (if P then 1 else 0)) :: rest)) := by
  by_cases h : P
  · rw [if_pos h]; exact nv_if_ne hx hb hdg ht (by decide) (fun _ => kt h) (fun q => absurd q (by decide))
  · rw [if_neg h]; exact nv_if_ne hx hb hdg ht (by decide) (fun q => absurd rfl q) (fun _ => kf h)
variable {D : va_G} {cI cZ : ClassId} {A : Nat → Prop} {a : Nat} {ws : va_W} {tt : Nat → Nat}
theorem nv_iald (hx : p.tables.exec = Jvm.exec) (hb : c.code = cc) (hK : va_K D vwCl (tyB cI cZ) s) (hP : va_P D vwCl ws H) (q0 : Nat) {n : Nat} {F : Nat → Nat} (ha : ws[q0]? = some (a, .inl (cI, n, .inl (nF F)))) {i : Nat} (hi : i < n) (hn : n < 2 ^ 31) (hdg : decode cc pc = .ok (.iaload, 1))
    (kk : W p l e R s m args below meth c H locs cells slots Q (F0 m (pc + 1) ls (.int (nI (F i)) :: rest))) : W p l e R s m args below meth c H locs cells slots Q (F0 m pc ls (.int (nI i) :: .ref a :: rest)) := by
  refine va_iald hx hb hK hP q0 0 ha rfl (vp_in_nI hi hn) hdg ?_
  rw [nI_clamp (by omega)]
  exact kk
theorem nv_zald (hx : p.tables.exec = Jvm.exec) (hb : c.code = cc) (hK : va_K D vwCl (tyB cI cZ) s) (hP : va_P D vwCl ws H) (q0 : Nat) {n : Nat} {F : Nat → Nat} (ha : ws[q0]? = some (a, .inl (cZ, n, .inl (nF F)))) {i : Nat} (hi : i < n) (hn : n < 2 ^ 31) (hdg : decode cc pc = .ok (.baload, 1))
    (kk : W p l e R s m args below meth c H locs cells slots Q (F0 m (pc + 1) ls (.int (nI (F i)) :: rest))) : W p l e R s m args below meth c H locs cells slots Q (F0 m pc ls (.int (nI i) :: .ref a :: rest)) := by
  refine va_zald hx hb hK hP q0 1 ha rfl (vp_in_nI hi hn) hdg ?_
  rw [nI_clamp (by omega)]
  exact kk
theorem nv_iast (hx : p.tables.exec = Jvm.exec) (hb : c.code = cc) (hK : va_K D vwCl (tyB cI cZ) s) (hP : va_P D vwCl ws H) (hD : va_D A ws) (hS : va_S A s.heap H locs) (q0 : Nat) {n : Nat} {F : Nat → Nat} (ha : ws[q0]? = some (a, .inl (cI, n, .inl (nF F)))) {i v : Nat} (hi : i < n) (hn : n < 2 ^ 31) (hdg : decode cc pc = .ok (.iastore, 1))
    (kk : ∀ (H1 : Heap) (locs1 : List Loc), va_P D vwCl (ws.set q0 (a, .inl (cI, n, .inl (nF (va_up F i v))))) H1 → va_D A (ws.set q0 (a, .inl (cI, n, .inl (nF (va_up F i v))))) → va_S A s.heap H1 locs1 → W p l e R s m args below meth c H1 locs1 cells slots Q (F0 m (pc + 1) ls rest)) : W p l e R s m args below meth c H locs cells slots Q (F0 m pc ls (.int (nI v) :: .int (nI i) :: .ref a :: rest)) := by
  refine va_iast hx hb hK hP hD hS q0 0 ha rfl (vp_in_nI hi hn) hdg (fun H1 locs1 h1 h2 h3 => ?_)
  rw [nI_clamp (by omega), nF_upd] at h1 h2
  exact kk H1 locs1 h1 h2 h3
theorem nar_b {v : Nat} (h : v < 2) : vp_nar .boolean (nI v) = nI v := by
  rcases (show v = 0 ∨ v = 1 by omega) with rfl | rfl <;> rfl
theorem nv_zast (hx : p.tables.exec = Jvm.exec) (hb : c.code = cc) (hK : va_K D vwCl (tyB cI cZ) s) (hP : va_P D vwCl ws H) (hD : va_D A ws) (hS : va_S A s.heap H locs) (q0 : Nat) {n : Nat} {F : Nat → Nat} (ha : ws[q0]? = some (a, .inl (cZ, n, .inl (nF F)))) {i v : Nat} (hi : i < n) (hn : n < 2 ^ 31) (hv : v < 2) (hdg : decode cc pc = .ok (.bastore, 1))
    (kk : ∀ (H1 : Heap) (locs1 : List Loc), va_P D vwCl (ws.set q0 (a, .inl (cZ, n, .inl (nF (va_up F i v))))) H1 → va_D A (ws.set q0 (a, .inl (cZ, n, .inl (nF (va_up F i v))))) → va_S A s.heap H1 locs1 → W p l e R s m args below meth c H1 locs1 cells slots Q (F0 m (pc + 1) ls rest)) : W p l e R s m args below meth c H locs cells slots Q (F0 m pc ls (.int (nI v) :: .int (nI i) :: .ref a :: rest)) := by
  refine va_zast hx hb hK hP hD hS q0 1 ha rfl (vp_in_nI hi hn) hdg (fun H1 locs1 h1 h2 h3 => ?_)
  rw [nI_clamp (by omega), nar_b hv, nF_upd] at h1 h2
  exact kk H1 locs1 h1 h2 h3
theorem nv_sget (hx : p.tables.exec = Jvm.exec) (hb : c.code = cc) (hG : gS tt A s s.heap) (hS : va_S A s.heap H locs) {own : String} (hown : s.vm.findClass own = some m.cls) (k : Nat) (hk : k < 5) (ho : (stO k).1 = own) (hdg : decode cc pc = .ok (.getstatic (stO k).2, 3))
    (kk : W p l e R s m args below meth c H locs cells slots Q (F0 m (pc + 3) ls (.ref (tt k) :: rest))) : W p l e R s m args below meth c H locs cells slots Q (F0 m pc ls rest) := by
  subst ho
  exact va_getsN hx hb (hG.2 k hk).2.1 hS hown (va_Nw.use rfl (hG.2 k hk).1) (fun _ h => h) hdg kk
theorem nv_tab (hx : p.tables.exec = Jvm.exec) (hb : c.code = cc) (hG : gS tt A s s.heap) (hS : va_S A s.heap H locs) (k : Nat) (hk : k < 5) {i : Nat} (hi : i < stL k) (hdg : decode cc pc = .ok (.iaload, 1))
    (kk : W p l e R s m args below meth c H locs cells slots Q (F0 m (pc + 1) ls (.int ((stV k).getD i 0) :: rest))) : W p l e R s m args below meth c H locs cells slots Q (F0 m pc ls (.int (nI i) :: .ref (tt k) :: rest)) := by
  have hl : stL k < 2 ^ 31 := by unfold stL; split <;> decide
  exact va_ti hx hb (hG.2 k hk).2.2 hS (vp_in_nI hi hl) (by rw [nI_clamp (by omega)]; rfl) hdg kk
end NV
theorem nI_min {a b : Nat} (ha : a < 2 ^ 31) (hb : b < 2 ^ 31) : (if nI b < nI a then nI b else nI a) = nI (min a b) := by
  by_cases h : b < a
  · rw [if_pos ((nI_ltI hb ha).mpr h), Nat.min_eq_right (by omega)]
  · rw [if_neg (fun q => h ((nI_ltI hb ha).mp q)), Nat.min_eq_left (by omega)]
theorem nI_max {a b : Nat} (ha : a < 2 ^ 31) (hb : b < 2 ^ 31) : (if nI a < nI b then nI b else nI a) = nI (max a b) := by
  by_cases h : a < b
  · rw [if_pos ((nI_ltI ha hb).mpr h), Nat.max_eq_right (by omega)]
  · rw [if_neg (fun q => h ((nI_ltI ha hb).mp q)), Nat.max_eq_left (by omega)]
/-- how far apart two naturals are -/
def nd (a b : Nat) : Nat := (a - b) + (b - a)
theorem nI_neg_sub {a b : Nat} (h : a ≤ b) : 0 - (nI a - nI b) = nI (b - a) := by
  rw [← pk_sub h]
  have e : ∀ x y : Int32, 0 - (x - y) = y - x := by
    intro x y
    apply Int32.toBitVec_inj.mp
    simp
    try bv_omega
  exact e _ _
theorem nI_abs {a b : Nat} (ha : a < 2 ^ 30) (hb : b < 2 ^ 30) : (if 0 ≤ nI a - nI b then nI a - nI b else 0 - (nI a - nI b)) = nI (nd a b) := by
  by_cases h : b ≤ a
  · rw [pk_sub h, if_pos (nI_pos' (by omega))]; unfold nd; congr 1; omega
  · rw [if_neg, nI_neg_sub (by omega)]
    · unfold nd; congr 1; omega
    · have := pk_sneg (a := a) (b := b) hb (by omega)
      intro q
      rw [Int32.le_iff_toInt_le] at q
      rw [Int32.lt_iff_toInt_lt] at this
      omega
end
section
/-! ===== the words of the document, as numbers ===== -/
abbrev okc (x y : Int32) : Prop := ¬ x < 0 ∧ ¬ nI 8 ≤ x ∧ ¬ y < 0 ∧ ¬ nI 8 ≤ y
abbrev okb (x y : Int32) : Prop := ¬ x < 0 ∧ ¬ nI 7 ≤ x ∧ ¬ y < 0 ∧ ¬ nI 7 ≤ y
abbrev okt (v : Int32) : Prop := ¬ v < 0 ∧ ¬ nI 100 < v
abbrev okl (x : Int32) : Prop := x = 0 ∨ x = nI 1
abbrev inr (v lo hi : Int32) : Prop := ¬ v < lo ∧ ¬ hi < v
theorem i_lt (a b : Int32) : a < b ↔ a.toInt < b.toInt := Int32.lt_iff_toInt_lt
theorem i_le (a b : Int32) : a ≤ b ↔ a.toInt ≤ b.toInt := Int32.le_iff_toInt_le
theorem i_eq (a b : Int32) : a = b ↔ a.toInt = b.toInt := Int32.toInt_inj.symm
theorem nI_T {n : Nat} (h : n < 2 ^ 31) : (nI n).toInt = (n : Int) := nI_toInt h
theorem z_T : (0 : Int32).toInt = 0 := by decide
theorem ne_toInt {x : Int32} {k : Nat} (h : ¬ x = nI k) (hk : k < 2 ^ 31) : x.toInt ≠ (k : Int) := fun q => h ((i_eq _ _).mpr (by rw [nI_T hk]; exact q))
theorem up_to {x : Int32} {n : Nat} (hn : n < 2 ^ 31) (h : ¬ x < 0) (h2 : ¬ nI n ≤ x) : ∃ a : Nat, a < n ∧ x = nI a := by
  rw [i_lt, z_T] at h
  rw [i_le, nI_T hn] at h2
  refine ⟨x.toInt.toNat, by omega, ?_⟩
  rw [i_eq, nI_T (by omega)]
  omega
theorem up_to' {x : Int32} {n : Nat} (hn : n < 2 ^ 31) (h : ¬ x < 0) (h2 : ¬ nI n < x) : ∃ a : Nat, a ≤ n ∧ x = nI a := by
  rw [i_lt, z_T] at h
  rw [i_lt, nI_T hn] at h2
  refine ⟨x.toInt.toNat, by omega, ?_⟩
  rw [i_eq, nI_T (by omega)]
  omega
theorem okc_nat {x y : Int32} (h : okc x y) : ∃ a b : Nat, a < 8 ∧ b < 8 ∧ x = nI a ∧ y = nI b := by
  obtain ⟨a, h1, h2⟩ := up_to (by decide) h.1 h.2.1
  obtain ⟨b, h3, h4⟩ := up_to (by decide) h.2.2.1 h.2.2.2
  exact ⟨a, b, h1, h3, h2, h4⟩
theorem okb_nat {x y : Int32} (h : okb x y) : ∃ a b : Nat, a < 7 ∧ b < 7 ∧ x = nI a ∧ y = nI b := by
  obtain ⟨a, h1, h2⟩ := up_to (by decide) h.1 h.2.1
  obtain ⟨b, h3, h4⟩ := up_to (by decide) h.2.2.1 h.2.2.2
  exact ⟨a, b, h1, h3, h2, h4⟩
theorem okt_nat {v : Int32} (h : okt v) : ∃ a : Nat, a ≤ 100 ∧ v = nI a := up_to' (by decide) h.1 h.2
theorem okc_of {a b : Nat} (ha : a < 8) (hb : b < 8) : okc (nI a) (nI b) := ⟨nI_pos (by omega), nI_ge ha (by decide), nI_pos (by omega), nI_ge hb (by decide)⟩
theorem inr_iff {v : Int32} {lo hi : Nat} (hl : lo < 2 ^ 31) (hh : hi < 2 ^ 31) : inr v (nI lo) (nI hi) ↔ ((lo : Int) ≤ v.toInt ∧ v.toInt ≤ hi) := by
  unfold inr
  rw [i_lt, i_lt, nI_T hl, nI_T hh]
  omega
theorem okc_in (x y : Int32) : okc x y ↔ (inr x (nI 0) (nI 7) ∧ inr y (nI 0) (nI 7)) := by
  rw [inr_iff (by decide) (by decide), inr_iff (by decide) (by decide)]
  unfold okc
  rw [i_lt, i_le, i_lt, i_le, z_T, nI_T (by decide)]
  omega
theorem okb_in (x y : Int32) : okb x y ↔ (inr x (nI 0) (nI 6) ∧ inr y (nI 0) (nI 6)) := by
  rw [inr_iff (by decide) (by decide), inr_iff (by decide) (by decide)]
  unfold okb
  rw [i_lt, i_le, i_lt, i_le, z_T, nI_T (by decide)]
  omega
theorem okt_in (v : Int32) : okt v ↔ inr v (nI 0) (nI 100) := by
  rw [inr_iff (by decide) (by decide)]
  unfold okt
  rw [i_lt, i_lt, z_T, nI_T (by decide)]
  omega
/-- how far the tool goes between two cells -/
def fr (f t : Nat) : Nat := max (nd (f % 8) (t % 8)) (nd (f / 8) (t / 8))
def sz32 (x : Int32) : Int32 := if 0 ≤ x then x else -x
theorem neg_sub0 (x : Int32) : -x = 0 - x := by
  apply Int32.toBitVec_inj.mp
  simp
theorem sz32_nd {a b : Nat} (ha : a < 2 ^ 30) (hb : b < 2 ^ 30) : sz32 (nI a - nI b) = nI (nd a b) := by
  rw [← nI_abs ha hb]
  unfold sz32
  rw [neg_sub0]
/-- x modulo 8, as the library has it -/
def fmo8 (x : Int32) : Int32 := if 0 ≤ x ^^^ nI 8 then x - x / nI 8 * nI 8 else if x - x / nI 8 * nI 8 = 0 then x - x / nI 8 * nI 8 else (x - x / nI 8 * nI 8) + nI 8
theorem fmo8_sub : ∀ a : Fin 8, ∀ b : Fin 8, fmo8 (nI a.val - nI b.val) = nI ((a.val + 8 - b.val) % 8) := by decide +kernel
theorem fmo8_d {a b : Nat} (ha : a < 8) (hb : b < 8) : fmo8 (nI a - nI b) = nI ((a + 8 - b) % 8) := fmo8_sub ⟨a, ha⟩ ⟨b, hb⟩
theorem fmo8_nat : ∀ a : Fin 16, fmo8 (nI a.val) = nI (a.val % 8) := by decide +kernel
theorem fmo8_n {a : Nat} (ha : a < 16) : fmo8 (nI a) = nI (a % 8) := fmo8_nat ⟨a, ha⟩
/-- by what the TURN grows from one to the next -/
def gw (f t : Nat) : Int32 := if 4 < (t + 8 - f) % 8 then nI ((t + 8 - f) % 8) - nI 8 else nI ((t + 8 - f) % 8)
/-- KNOT of the block whose first cell is c; 2: it is TORN -/
def kn (U : Nat → Nat) (c : Nat) : Int32 :=
  if gw (U c) (U (c + 1)) = nI 4 ∨ gw (U (c + 1)) (U (c + 9)) = nI 4 ∨ gw (U (c + 9)) (U (c + 8)) = nI 4 ∨ gw (U (c + 8)) (U c) = nI 4 then nI 2
  else (gw (U c) (U (c + 1)) + gw (U (c + 1)) (U (c + 9)) + gw (U (c + 9)) (U (c + 8)) + gw (U (c + 8)) (U c)) / nI 8
/-- the square of APART -/
def apS (u t : Nat) : Nat := min (nd u t) (8 - nd u t) * min (nd u t) (8 - nd u t)
theorem apS_tab0 : ∀ u : Fin 8, ∀ t : Fin 8, (stV 0).getD ((u.val + 8 - t.val) % 8) 0 = nI (apS u.val t.val) := by decide +kernel
theorem apS_tab {u t : Nat} (hu : u < 8) (ht : t < 8) : (stV 0).getD ((u + 8 - t) % 8) 0 = nI (apS u t) := apS_tab0 ⟨u, hu⟩ ⟨t, ht⟩
theorem apS_le0 : ∀ u : Fin 8, ∀ t : Fin 8, apS u.val t.val ≤ 16 := by decide +kernel
theorem apS_le {u t : Nat} (hu : u < 8) (ht : t < 8) : apS u t ≤ 16 := apS_le0 ⟨u, hu⟩ ⟨t, ht⟩
/-- the strain against the cell (x, y), if it is one -/
def sa (U : Nat → Nat) (x y : Int32) (t : Nat) : Nat := if okc x y then apS (U (8 * y.toNatClampNeg + x.toNatClampNeg)) t else 0
theorem sa_nat (U : Nat → Nat) {a b : Nat} (t : Nat) (ha : a < 8) (hb : b < 8) : sa U (nI a) (nI b) t = apS (U (8 * b + a)) t := by
  unfold sa
  rw [if_pos (okc_of ha hb), nI_clamp (by omega), nI_clamp (by omega)]
theorem sa_le (U : Nat → Nat) (x y : Int32) {t : Nat} (hU : ∀ k, U k < 8) (ht : t < 8) : sa U x y t ≤ 16 := by
  unfold sa
  split
  · exact apS_le (hU _) ht
  · exact Nat.zero_le _
/-- the strain of a TURN at a cell -/
def sn (U : Nat → Nat) (c t : Nat) : Nat := sa U (nI (c % 8) - nI 1) (nI (c / 8)) t + sa U (nI (c % 8 + 1)) (nI (c / 8)) t + sa U (nI (c % 8)) (nI (c / 8) - nI 1) t + sa U (nI (c % 8)) (nI (c / 8 + 1)) t
theorem sn_le (U : Nat → Nat) (c : Nat) {t : Nat} (hU : ∀ k, U k < 8) (ht : t < 8) : sn U c t ≤ 64 := by
  have h1 := sa_le U (nI (c % 8) - nI 1) (nI (c / 8)) hU ht
  have h2 := sa_le U (nI (c % 8 + 1)) (nI (c / 8)) hU ht
  have h3 := sa_le U (nI (c % 8)) (nI (c / 8) - nI 1) hU ht
  have h4 := sa_le U (nI (c % 8)) (nI (c / 8 + 1)) hU ht
  unfold sn
  omega
/-- the TURN found by going through 0 .. i - 1 from the one it has -/
def cm (f : Nat → Nat) (cur : Nat) : Nat → Nat
  | 0 => cur
  | i + 1 => if f i < f (cm f cur i) then i else cm f cur i
/-- the first least one of 0 .. n -/
def am (f : Nat → Nat) : Nat → Nat
  | 0 => 0
  | n + 1 => if f (n + 1) < f (am f n) then n + 1 else am f n
theorem am_le (f : Nat → Nat) : ∀ n, am f n ≤ n
  | 0 => Nat.le_refl 0
  | n + 1 => by
    have := am_le f n
    unfold am
    split <;> omega
theorem cm_lt {f : Nat → Nat} {cur : Nat} (h : cur < 8) : ∀ n, n ≤ 8 → cm f cur n < 8
  | 0, _ => h
  | n + 1, hn => by
    have := cm_lt (f := f) h n (by omega)
    unfold cm
    split <;> omega
theorem cm_am (f : Nat → Nat) (cur : Nat) : ∀ n, cm f cur (n + 1) = if f (am f n) < f cur then am f n else cur
  | 0 => rfl
  | n + 1 => by
    have ih := cm_am f cur n
    rw [cm, ih, am]
    by_cases h1 : f (am f n) < f cur
    · rw [if_pos h1]
      by_cases h2 : f (n + 1) < f (am f n)
      · rw [if_pos h2, if_pos (show f (n + 1) < f cur by omega)]
      · rw [if_neg h2, if_pos h1]
    · rw [if_neg h1]
      by_cases h2 : f (n + 1) < f cur
      · have h3 : f (n + 1) < f (am f n) := by omega
        rw [if_pos h3, if_pos h2]
      · rw [if_neg h2]
        by_cases h3 : f (n + 1) < f (am f n)
        · rw [if_pos h3, if_neg h2]
        · rw [if_neg h3, if_neg h1]
/-- the TURN that a cell gets -/
def nt (U : Nat → Nat) (c : Nat) : Nat := cm (sn U c) (U c) 8
theorem nt_lt {U : Nat → Nat} (h : ∀ k, U k < 8) (c : Nat) : nt U c < 8 := cm_lt (h c) 8 (by omega)
theorem nt_yes {U : Nat → Nat} {c : Nat} (h : sn U c (am (sn U c) 7) < sn U c (U c)) : nt U c = am (sn U c) 7 ∧ nt U c ≠ U c := by
  have e : nt U c = am (sn U c) 7 := by
    unfold nt
    rw [cm_am, if_pos h]
  refine ⟨e, fun q => ?_⟩
  rw [e] at q
  rw [q] at h
  omega
theorem nt_no {U : Nat → Nat} {c : Nat} (h : ¬ sn U c (am (sn U c) 7) < sn U c (U c)) : nt U c = U c := by
  unfold nt
  rw [cm_am, if_neg h]
/-- a going through: the TURNS, and whether one changed -/
def gtS (B U : Nat → Nat) : Nat → (Nat → Nat) × Nat
  | 0 => (U, 0)
  | c + 1 => if B c = 0 ∧ nt (gtS B U c).1 c ≠ (gtS B U c).1 c then (va_up (gtS B U c).1 c (nt (gtS B U c).1 c), 1) else gtS B U c
theorem gtS_yes {B U : Nat → Nat} {c : Nat} (h : B c = 0) (h2 : nt (gtS B U c).1 c ≠ (gtS B U c).1 c) : gtS B U (c + 1) = (va_up (gtS B U c).1 c (nt (gtS B U c).1 c), 1) := by
  rw [gtS, if_pos ⟨h, h2⟩]
theorem gtS_no {B U : Nat → Nat} {c : Nat} (h : ¬ (B c = 0 ∧ nt (gtS B U c).1 c ≠ (gtS B U c).1 c)) : gtS B U (c + 1) = gtS B U c := by
  rw [gtS, if_neg h]
theorem gtS_lt {B U : Nat → Nat} (h : ∀ k, U k < 8) : ∀ c k, (gtS B U c).1 k < 8
  | 0, k => h k
  | c + 1, k => by
    have ih := gtS_lt (B := B) h c
    rw [gtS]
    split
    · show va_up (gtS B U c).1 c (nt (gtS B U c).1 c) k < 8
      unfold va_up
      split
      · exact nt_lt ih c
      · exact ih k
    · exact ih k
theorem gtS_flag {B U : Nat → Nat} : ∀ c, (gtS B U c).2 < 2
  | 0 => by show 0 < 2; omega
  | c + 1 => by
    have ih := gtS_flag (B := B) (U := U) c
    rw [gtS]
    split
    · show 1 < 2; omega
    · exact ih
/-- the TURNS behind k goings through -/
def it (B U : Nat → Nat) : Nat → Nat → Nat
  | 0 => U
  | k + 1 => (gtS B (it B U k) 64).1
theorem it_lt {B U : Nat → Nat} (h : ∀ k, U k < 8) : ∀ n k, it B U n k < 8
  | 0, k => h k
  | n + 1, k => gtS_lt (it_lt h n) 64 k
/-- how many goings through there are: k are done, f may follow -/
def evN (B U : Nat → Nat) : Nat → Nat → Nat
  | 0, k => k
  | f + 1, k => if (gtS B (it B U k) 64).2 = 0 then k + 1 else evN B U f (k + 1)
theorem evN_yes {B U : Nat → Nat} {f k : Nat} (h : (gtS B (it B U k) 64).2 = 0) : evN B U (f + 1) k = k + 1 := by rw [evN, if_pos h]
theorem evN_no {B U : Nat → Nat} {f k : Nat} (h : ¬ (gtS B (it B U k) 64).2 = 0) : evN B U (f + 1) k = evN B U f (k + 1) := by rw [evN, if_neg h]
end
section
/-! ===== Math.floorMod(x, 8): its class is one of those in which a method may be run by an entry: so it is walked as the library walks max and min there ===== -/
theorem fm_noRow0 : (NativeRow.find? natives yJ9_floorMod_7cf53.cls yJ9_floorMod_7cf53.name yJ9_floorMod_7cf53.desc).isNone = true := by decide +kernel
theorem fm_noRow (p : Program) : NativeRow.find? p.tables.natives yJ9_floorMod_7cf53.cls yJ9_floorMod_7cf53.name yJ9_floorMod_7cf53.desc = none := by
  cases p <;> exact Option.isNone_iff_eq_none.mp fm_noRow0
def fmSpec (x : Int32) : Spec where
  pre := .and (.code yJ9_floorMod_7cf53 cJ9_floorMod_7cf53 3 (some .int)) (.and (.count 2) (.and (.isInt (.arg 0)) (.and (.isInt (.arg 1)) (.and (.eq (.arg 0) (.int x)) (.eq (.arg 1) (.int (nI 8)))))))
  post := .and .returned (.eq .result (.int (fmo8 x)))
  changes := some []
set_option maxHeartbeats 4000000 in
theorem fm_meets (l : Launch) (x : Int32) : MeetsLoose l yJ9_floorMod_7cf53 (fmSpec x) := by
  refine MeetsLoose.of_body_ov (code := cJ9_floorMod_7cf53) (maxLocals := 3) (ret := some .int) fm_noRow ?_ ?_
  · intro args s h
    simp only [fmSpec, Cond.before_and, Bool.and_eq_true] at h
    exact h.1
  · intro p e s m args below meth c s₁ B
    have hpre := B.pre
    simp only [fmSpec, Cond.before_and, Bool.and_eq_true] at hpre
    obtain ⟨a, b, rfl⟩ := Cond.two_ints hpre.2.1 hpre.2.2.1 hpre.2.2.2.1
    have ea : a = x := by
      have q := hpre.2.2.2.2.1
      simpa [Cond.before, Cond.holds, Cond.value, Term.eval] using q
    obtain rfl : x = a := ea.symm
    obtain rfl : b = nI 8 := by
      have q := hpre.2.2.2.2.2
      simpa [Cond.before, Cond.holds, Cond.value, Term.eval] using q
    have h8 : ¬ nI 8 = 0 := by decide
    have hloc : argsToLocals #[.int x, .int (nI 8)] 3 = #[.val (.int x), .val (.int (nI 8)), .unset] := rfl
    have hst : ∀ r : Int32, storeLocals #[.val (.int x), .val (.int (nI 8)), .unset] 2 (.int r) = some #[.val (.int x), .val (.int (nI 8)), .val (.int r)] := fun _ => rfl
    have fin : ∀ r : Int32, (∀ fs, Steps p.tables e below (s₁.setTop (entryFrame m #[.int x, .int (nI 8)] 3)) (s₁.setFrames fs) ∨ handOver s₁ (some (.int r)) below ≠ some fs) →
        (fmo8 x = r) →
        ∃ s₂ o, Steps p.tables e below (s₁.setTop (entryFrame m #[.int x, .int (nI 8)] 3)) s₂ ∧ s₂.status = .running ∧ Ended s₂ below o ∧
          (fmSpec x).ensures #[.int x, .int (nI 8)] s o s₂ := by
      intro r hwalk hr
      obtain ⟨fs, hfs⟩ := handOver_isSome (s := s₁) (some (.int r)) B.hears₁
      refine ⟨s₁.setFrames fs, .returned (some (.int r)), (hwalk fs).resolve_right (fun h => h hfs), B.here.running, B.ended hfs (by intro h; cases h), ?_, State.sameBut_nil.mpr ?_⟩
      · simp [fmSpec, Cond.after, Cond.holds, Cond.value, Term.eval, hr]
      · rw [State.frames_setFrames _ B.cur₁, B.back]
    by_cases h1 : 0 ≤ x ^^^ nI 8
    · refine fin (x - x / nI 8 * nI 8) (fun fs => ?_) (by unfold fmo8; rw [if_pos h1])
      by_cases hfs : handOver s₁ (some (.int (x - x / nI 8 * nI 8))) below = some fs
      · left
        unfold entryFrame; rw [hloc]
        refine Steps.instrAtOv (c := _) (by simpa using B.here) ?_
        simp [jvm, wpRun, exec, B.here.top, B.exec, B.bytes, dJ9_floorMod_7cf53_0]
        refine Steps.instrAtOv (c := _) (by simpa using B.here) ?_
        simp [jvm, wpRun, exec, B.here.top, B.exec, B.bytes, dJ9_floorMod_7cf53_1]
        refine Steps.instrAtOv (c := _) (by simpa using B.here) ?_
        simp [jvm, wpRun, exec, B.here.top, B.exec, B.bytes, dJ9_floorMod_7cf53_2, h8]
        refine Steps.instrAtOv (c := _) (by simpa using B.here) ?_
        simp [jvm, wpRun, exec, B.here.top, B.exec, B.bytes, dJ9_floorMod_7cf53_3, hst]
        refine Steps.instrAtOv (c := _) (by simpa using B.here) ?_
        simp [jvm, wpRun, exec, B.here.top, B.exec, B.bytes, dJ9_floorMod_7cf53_4]
        refine Steps.instrAtOv (c := _) (by simpa using B.here) ?_
        simp [jvm, wpRun, exec, B.here.top, B.exec, B.bytes, dJ9_floorMod_7cf53_5]
        refine Steps.instrAtOv (c := _) (by simpa using B.here) ?_
        simp [jvm, wpRun, exec, B.here.top, B.exec, B.bytes, dJ9_floorMod_7cf53_6]
        refine Steps.instrAtOv (c := _) (by simpa using B.here) ?_
        simp [jvm, wpRun, exec, B.here.top, B.exec, B.bytes, dJ9_floorMod_7cf53_7, ifCond.holds, h1]
        refine Steps.instrAtOv (c := _) (by simpa using B.here) ?_
        simp [jvm, wpRun, exec, B.here.top, B.exec, B.bytes, dJ9_floorMod_7cf53_18]
        refine Steps.instrAtOv (c := _) (by simpa using B.here) ?_
        simp [jvm, wpRun, exec, B.here.top, B.exec, B.bytes, dJ9_floorMod_7cf53_19, B.method₁, B.returns, narrow]
        intro acts
        rw [ret_to B.frames₁ B.method₁ B.notSynchronized rfl rfl hfs]
        exact Steps.refl _
      · exact Or.inr hfs
    · by_cases h2 : x - x / nI 8 * nI 8 = 0
      · refine fin 0 (fun fs => ?_) (by unfold fmo8; rw [if_neg h1, if_pos h2]; exact h2)
        by_cases hfs : handOver s₁ (some (.int 0)) below = some fs
        · left
          unfold entryFrame; rw [hloc]
          refine Steps.instrAtOv (c := _) (by simpa using B.here) ?_
          simp [jvm, wpRun, exec, B.here.top, B.exec, B.bytes, dJ9_floorMod_7cf53_0]
          refine Steps.instrAtOv (c := _) (by simpa using B.here) ?_
          simp [jvm, wpRun, exec, B.here.top, B.exec, B.bytes, dJ9_floorMod_7cf53_1]
          refine Steps.instrAtOv (c := _) (by simpa using B.here) ?_
          simp [jvm, wpRun, exec, B.here.top, B.exec, B.bytes, dJ9_floorMod_7cf53_2, h8]
          refine Steps.instrAtOv (c := _) (by simpa using B.here) ?_
          simp [jvm, wpRun, exec, B.here.top, B.exec, B.bytes, dJ9_floorMod_7cf53_3, hst]
          refine Steps.instrAtOv (c := _) (by simpa using B.here) ?_
          simp [jvm, wpRun, exec, B.here.top, B.exec, B.bytes, dJ9_floorMod_7cf53_4]
          refine Steps.instrAtOv (c := _) (by simpa using B.here) ?_
          simp [jvm, wpRun, exec, B.here.top, B.exec, B.bytes, dJ9_floorMod_7cf53_5]
          refine Steps.instrAtOv (c := _) (by simpa using B.here) ?_
          simp [jvm, wpRun, exec, B.here.top, B.exec, B.bytes, dJ9_floorMod_7cf53_6]
          refine Steps.instrAtOv (c := _) (by simpa using B.here) ?_
          simp [jvm, wpRun, exec, B.here.top, B.exec, B.bytes, dJ9_floorMod_7cf53_7, ifCond.holds, h1]
          refine Steps.instrAtOv (c := _) (by simpa using B.here) ?_
          simp [jvm, wpRun, exec, B.here.top, B.exec, B.bytes, dJ9_floorMod_7cf53_10]
          refine Steps.instrAtOv (c := _) (by simpa using B.here) ?_
          simp [jvm, wpRun, exec, B.here.top, B.exec, B.bytes, dJ9_floorMod_7cf53_11, ifCond.holds, h2]
          refine Steps.instrAtOv (c := _) (by simpa using B.here) ?_
          simp [jvm, wpRun, exec, B.here.top, B.exec, B.bytes, dJ9_floorMod_7cf53_18]
          refine Steps.instrAtOv (c := _) (by simpa using B.here) ?_
          simp [jvm, wpRun, exec, B.here.top, B.exec, B.bytes, dJ9_floorMod_7cf53_19, B.method₁, B.returns, narrow]
          intro acts
          rw [ret_to B.frames₁ B.method₁ B.notSynchronized rfl rfl hfs]
          exact Steps.refl _
        · exact Or.inr hfs
      · refine fin (x - x / nI 8 * nI 8 + nI 8) (fun fs => ?_) (by unfold fmo8; rw [if_neg h1, if_neg h2])
        by_cases hfs : handOver s₁ (some (.int (x - x / nI 8 * nI 8 + nI 8))) below = some fs
        · left
          unfold entryFrame; rw [hloc]
          refine Steps.instrAtOv (c := _) (by simpa using B.here) ?_
          simp [jvm, wpRun, exec, B.here.top, B.exec, B.bytes, dJ9_floorMod_7cf53_0]
          refine Steps.instrAtOv (c := _) (by simpa using B.here) ?_
          simp [jvm, wpRun, exec, B.here.top, B.exec, B.bytes, dJ9_floorMod_7cf53_1]
          refine Steps.instrAtOv (c := _) (by simpa using B.here) ?_
          simp [jvm, wpRun, exec, B.here.top, B.exec, B.bytes, dJ9_floorMod_7cf53_2, h8]
          refine Steps.instrAtOv (c := _) (by simpa using B.here) ?_
          simp [jvm, wpRun, exec, B.here.top, B.exec, B.bytes, dJ9_floorMod_7cf53_3, hst]
          refine Steps.instrAtOv (c := _) (by simpa using B.here) ?_
          simp [jvm, wpRun, exec, B.here.top, B.exec, B.bytes, dJ9_floorMod_7cf53_4]
          refine Steps.instrAtOv (c := _) (by simpa using B.here) ?_
          simp [jvm, wpRun, exec, B.here.top, B.exec, B.bytes, dJ9_floorMod_7cf53_5]
          refine Steps.instrAtOv (c := _) (by simpa using B.here) ?_
          simp [jvm, wpRun, exec, B.here.top, B.exec, B.bytes, dJ9_floorMod_7cf53_6]
          refine Steps.instrAtOv (c := _) (by simpa using B.here) ?_
          simp [jvm, wpRun, exec, B.here.top, B.exec, B.bytes, dJ9_floorMod_7cf53_7, ifCond.holds, h1]
          refine Steps.instrAtOv (c := _) (by simpa using B.here) ?_
          simp [jvm, wpRun, exec, B.here.top, B.exec, B.bytes, dJ9_floorMod_7cf53_10]
          refine Steps.instrAtOv (c := _) (by simpa using B.here) ?_
          simp [jvm, wpRun, exec, B.here.top, B.exec, B.bytes, dJ9_floorMod_7cf53_11, ifCond.holds, h2]
          refine Steps.instrAtOv (c := _) (by simpa using B.here) ?_
          simp [jvm, wpRun, exec, B.here.top, B.exec, B.bytes, dJ9_floorMod_7cf53_14]
          refine Steps.instrAtOv (c := _) (by simpa using B.here) ?_
          simp [jvm, wpRun, exec, B.here.top, B.exec, B.bytes, dJ9_floorMod_7cf53_15]
          refine Steps.instrAtOv (c := _) (by simpa using B.here) ?_
          simp [jvm, wpRun, exec, B.here.top, B.exec, B.bytes, dJ9_floorMod_7cf53_16]
          refine Steps.instrAtOv (c := _) (by simpa using B.here) ?_
          simp [jvm, wpRun, exec, B.here.top, B.exec, B.bytes, dJ9_floorMod_7cf53_17, B.method₁, B.returns, narrow]
          intro acts
          rw [ret_to B.frames₁ B.method₁ B.notSynchronized rfl rfl hfs]
          exact Steps.refl _
        · exact Or.inr hfs
section FMV
variable {p : Program} {l : Launch} {e : Env} {R : Room} {s : State} {m : MethodId} {args : Array Value} {below : List Frame} {meth : Method} {c : Code} {T : State} {H : Heap} {locs : List Loc} {cells slots : Nat} {Q : State → Prop}
theorem fm_callV (X : Stand p l e R s m args below meth c T locs cells slots) (hexec : p.tables.exec = Jvm.exec) {own : String} {index : Nat} (hown : s.vm.findClass own = some m.cls)
    (hlink : (Cond.methodLink own index yJ9_floorMod_7cf53).before args s = true) (hstat : (Cond.static yJ9_floorMod_7cf53).before args s = true) (hinit : (Cond.initialized RJ9).before args s = true)
    (hcode : (Cond.code yJ9_floorMod_7cf53 cJ9_floorMod_7cf53 3 (some .int)).before args s = true)
    {g : JFrame} (hg : g.method = m) (hsize : g.locals.size = c.maxLocals) {x : Int32} {rest : List Value} (hstack : g.stack = .int (nI 8) :: .int x :: rest) (hdg : decode c.code g.pc = .ok (.invokestatic index, 3))
    (hframes : 1 ≤ R.frames) (hlocals : 2 * g.monitorRoom + (rest.map fun v => v.category).sum + 14 ≤ R.locals) (hcells : cells ≤ R.cells) (hslots : slots ≤ R.slots) :
    ∃ vm', Stand p l e R s m args below meth c (T.setVm vm') locs cells slots ∧
      ∀ target, Steps p.tables e below ((T.setVm vm').setTop { g with pc := g.pc + 3, stack := .int (fmo8 x) :: rest }) target → Steps p.tables e below (T.setTop g) target := by
  obtain ⟨v, T', X', ⟨first, t, hpost⟩, hstep⟩ := X.staticByContractV hexec hown hlink hstat hinit hcode (by decide)
    (fm_meets l x)
    rfl rfl rfl rfl
    (fun args' first o s₂ h => by
      cases o with
      | returned r => exact ⟨r, rfl⟩
      | threw y =>
        have hz : (fmSpec x).post.value args' first (some (.threw y)) s₂ [] = some true := by simpa [Cond.after, Cond.holds] using h
        exact absurd hz va_nvRet)
    hg hsize (argsL := [.int x, .int (nI 8)]) (rest := rest)
    (fun sig hs => by
      have h : parseMethodDescriptor "(II)I" = some { parameters := [.int, .int], returnType := some .int } := by decide +kernel
      rw [show yJ9_floorMod_7cf53.desc = "(II)I" from rfl, h] at hs
      rw [← Option.some.inj hs]; rfl)
    hstack hdg
    (fun vm' hW => by
      simp only [fmSpec, Cond.before_and, Bool.and_eq_true]
      refine ⟨?_, rfl, rfl, rfl, ?_, ?_⟩
      · have q := hcode
        rw [← Cond.code_setVm hW.alike] at q
        simp only [Cond.before, Cond.holds, Cond.value, State.methodNamed?, State.vm_setVm] at q ⊢
        exact q
      · simp [Cond.before, Cond.holds, Cond.value, Term.eval]
      · simp [Cond.before, Cond.holds, Cond.value, Term.eval])
    (by show 0 + 1 ≤ R.frames; omega) (by show 2 * g.monitorRoom + (rest.map fun v => v.category).sum + (3 + 11) + 0 ≤ R.locals; omega) (by show cells + 0 ≤ R.cells; omega) (by show slots + 0 ≤ R.slots; omega)
  refine ⟨T', X', fun target h => hstep target ?_⟩
  obtain rfl : v = some (.int (fmo8 x)) := by
    rcases v with _ | w
    · simp [fmSpec, Cond.after, Cond.holds, Cond.value, Term.eval] at hpost
    · cases w <;> simp [fmSpec, Cond.after, Cond.holds, Cond.value, Term.eval] at hpost
      first | (simp [hpost]; done) | (rename_i r; by_cases hr : r = fmo8 x <;> simp [hr] at hpost ⊢)
  exact h
theorem nv_fm {cc : ByteArray} {pc : Nat} {ls : Array Slot} {rest : List Value} (hexec : p.tables.exec = Jvm.exec) (hb : c.code = cc) (hml : c.maxLocals = ls.size) {own : String} {index : Nat} (hown : s.vm.findClass own = some m.cls) (hlink : (Cond.methodLink own index yJ9_floorMod_7cf53).before args s = true) (hstat : (Cond.static yJ9_floorMod_7cf53).before args s = true) (hini : (Cond.initialized RJ9).before args s = true) (hcode : (Cond.code yJ9_floorMod_7cf53 cJ9_floorMod_7cf53 3 (some .int)).before args s = true)
    (hframes : 1 ≤ R.frames) (hlocals : (rest.map fun v => v.category).sum + 14 ≤ R.locals) (hc : cells ≤ R.cells) (hs : slots ≤ R.slots) {x : Int32} (hdg : decode cc pc = .ok (.invokestatic index, 3))
    (kk : W p l e R s m args below meth c H locs cells slots Q (F0 m (pc + 3) ls (.int (fmo8 x) :: rest))) : W p l e R s m args below meth c H locs cells slots Q (F0 m pc ls (.int (nI 8) :: .int x :: rest)) := by
  intro T hT X
  obtain ⟨vm', X', st⟩ := fm_callV X hexec hown hlink hstat hini hcode (g := F0 m pc ls (.int (nI 8) :: .int x :: rest)) rfl (by rw [hml]) (x := x) (rest := rest) rfl (by rw [hb]; exact hdg) hframes (by show 2 * 0 + _ + 14 ≤ _; omega) hc hs
  obtain ⟨t, a1, b1⟩ := kk (T.setVm vm') hT X'
  exact ⟨t, st t a1, b1⟩
end FMV
end
section
set_option maxHeartbeats 4000000 in
set_option maxRecDepth 100000 in
theorem c_X4_isCell (l : Launch) (x y : Int32)  : MS l yX4_isCell wsX4_isCell ({ frames := 0, cells := 0, slots := 0, locals := 0 } : Room) [.int (x), .int (y)] (nI (if okc x y then 1 else 0)) := by
  refine entS (cc := cX4_isCell) 2 (by decide) rfl (Nat.le_of_ble_eq_true rfl) (by split <;> rfl) (fun pr e s m args below meth c0 Q H ls hx hb hml hown hts hret hl => ?_)
  have hown : s.vm.findClass RX4 = some m.cls := hown
  have hl : lv_has ls 2 [(0, .int (x)), (1, .int (y))] := hl
  refine lv_iload_n hx hb dX4_isCell_0 rfl (lv_at hl 0 rfl) ?_
  refine lv_if_lt (tgt := 24) hx hb dX4_isCell_1 (by decide) (fun c_1 => ?_) (fun c_1 => ?_)
  · skip
    refine lv_iconst (v := nI 0) hx hb dX4_isCell_24 (by decide) ?_
    exact hret _ _ _ dX4_isCell_25 (by rw [if_neg (fun q => by obtain ⟨q1, q2, q3, q4⟩ := q; contradiction)])
  · skip
    refine lv_iload_n hx hb dX4_isCell_4 rfl (lv_at hl 0 rfl) ?_
    refine lv_bipush (v := nI 8) hx hb dX4_isCell_5 (by decide) ?_
    refine lv_icmp_ge (tgt := 24) hx hb dX4_isCell_7 (by decide) (fun c_2 => ?_) (fun c_2 => ?_)
    · skip
      refine lv_iconst (v := nI 0) hx hb dX4_isCell_24 (by decide) ?_
      exact hret _ _ _ dX4_isCell_25 (by rw [if_neg (fun q => by obtain ⟨q1, q2, q3, q4⟩ := q; contradiction)])
    · skip
      refine lv_iload_n hx hb dX4_isCell_10 rfl (lv_at hl 1 rfl) ?_
      refine lv_if_lt (tgt := 24) hx hb dX4_isCell_11 (by decide) (fun c_3 => ?_) (fun c_3 => ?_)
      · skip
        refine lv_iconst (v := nI 0) hx hb dX4_isCell_24 (by decide) ?_
        exact hret _ _ _ dX4_isCell_25 (by rw [if_neg (fun q => by obtain ⟨q1, q2, q3, q4⟩ := q; contradiction)])
      · skip
        refine lv_iload_n hx hb dX4_isCell_14 rfl (lv_at hl 1 rfl) ?_
        refine lv_bipush (v := nI 8) hx hb dX4_isCell_15 (by decide) ?_
        refine lv_icmp_ge (tgt := 24) hx hb dX4_isCell_17 (by decide) (fun c_4 => ?_) (fun c_4 => ?_)
        · skip
          refine lv_iconst (v := nI 0) hx hb dX4_isCell_24 (by decide) ?_
          exact hret _ _ _ dX4_isCell_25 (by rw [if_neg (fun q => by obtain ⟨q1, q2, q3, q4⟩ := q; contradiction)])
        · skip
          refine lv_iconst (v := nI 1) hx hb dX4_isCell_20 (by decide) ?_
          refine lv_goto (tgt := 25) hx hb dX4_isCell_21 (by decide) ?_
          exact hret _ _ _ dX4_isCell_25 (by rw [if_pos ⟨(by assumption), (by assumption), (by assumption), (by assumption)⟩])

set_option maxHeartbeats 4000000 in
set_option maxRecDepth 100000 in
theorem c_X4_isBlock (l : Launch) (x y : Int32)  : MS l yX4_isBlock wsX4_isBlock ({ frames := 0, cells := 0, slots := 0, locals := 0 } : Room) [.int (x), .int (y)] (nI (if okb x y then 1 else 0)) := by
  refine entS (cc := cX4_isBlock) 2 (by decide) rfl (Nat.le_of_ble_eq_true rfl) (by split <;> rfl) (fun pr e s m args below meth c0 Q H ls hx hb hml hown hts hret hl => ?_)
  have hown : s.vm.findClass RX4 = some m.cls := hown
  have hl : lv_has ls 2 [(0, .int (x)), (1, .int (y))] := hl
  refine lv_iload_n hx hb dX4_isBlock_0 rfl (lv_at hl 0 rfl) ?_
  refine lv_if_lt (tgt := 24) hx hb dX4_isBlock_1 (by decide) (fun c_1 => ?_) (fun c_1 => ?_)
  · skip
    refine lv_iconst (v := nI 0) hx hb dX4_isBlock_24 (by decide) ?_
    exact hret _ _ _ dX4_isBlock_25 (by rw [if_neg (fun q => by obtain ⟨q1, q2, q3, q4⟩ := q; contradiction)])
  · skip
    refine lv_iload_n hx hb dX4_isBlock_4 rfl (lv_at hl 0 rfl) ?_
    refine lv_bipush (v := nI 7) hx hb dX4_isBlock_5 (by decide) ?_
    refine lv_icmp_ge (tgt := 24) hx hb dX4_isBlock_7 (by decide) (fun c_2 => ?_) (fun c_2 => ?_)
    · skip
      refine lv_iconst (v := nI 0) hx hb dX4_isBlock_24 (by decide) ?_
      exact hret _ _ _ dX4_isBlock_25 (by rw [if_neg (fun q => by obtain ⟨q1, q2, q3, q4⟩ := q; contradiction)])
    · skip
      refine lv_iload_n hx hb dX4_isBlock_10 rfl (lv_at hl 1 rfl) ?_
      refine lv_if_lt (tgt := 24) hx hb dX4_isBlock_11 (by decide) (fun c_3 => ?_) (fun c_3 => ?_)
      · skip
        refine lv_iconst (v := nI 0) hx hb dX4_isBlock_24 (by decide) ?_
        exact hret _ _ _ dX4_isBlock_25 (by rw [if_neg (fun q => by obtain ⟨q1, q2, q3, q4⟩ := q; contradiction)])
      · skip
        refine lv_iload_n hx hb dX4_isBlock_14 rfl (lv_at hl 1 rfl) ?_
        refine lv_bipush (v := nI 7) hx hb dX4_isBlock_15 (by decide) ?_
        refine lv_icmp_ge (tgt := 24) hx hb dX4_isBlock_17 (by decide) (fun c_4 => ?_) (fun c_4 => ?_)
        · skip
          refine lv_iconst (v := nI 0) hx hb dX4_isBlock_24 (by decide) ?_
          exact hret _ _ _ dX4_isBlock_25 (by rw [if_neg (fun q => by obtain ⟨q1, q2, q3, q4⟩ := q; contradiction)])
        · skip
          refine lv_iconst (v := nI 1) hx hb dX4_isBlock_20 (by decide) ?_
          refine lv_goto (tgt := 25) hx hb dX4_isBlock_21 (by decide) ?_
          exact hret _ _ _ dX4_isBlock_25 (by rw [if_pos ⟨(by assumption), (by assumption), (by assumption), (by assumption)⟩])

set_option maxHeartbeats 4000000 in
set_option maxRecDepth 100000 in
theorem c_X4_isLayer (l : Launch) (x : Int32)  : MS l yX4_isLayer wsX4_isLayer ({ frames := 0, cells := 0, slots := 0, locals := 0 } : Room) [.int (x)] (nI (if okl x then 1 else 0)) := by
  refine entS (cc := cX4_isLayer) 1 (by decide) rfl (Nat.le_of_ble_eq_true rfl) (by split <;> rfl) (fun pr e s m args below meth c0 Q H ls hx hb hml hown hts hret hl => ?_)
  have hown : s.vm.findClass RX4 = some m.cls := hown
  have hl : lv_has ls 1 [(0, .int (x))] := hl
  refine lv_iload_n hx hb dX4_isLayer_0 rfl (lv_at hl 0 rfl) ?_
  refine lv_if_eq (tgt := 9) hx hb dX4_isLayer_1 (by decide) (fun c_1 => ?_) (fun c_1 => ?_)
  · skip
    refine lv_iconst (v := nI 1) hx hb dX4_isLayer_9 (by decide) ?_
    refine lv_goto (tgt := 14) hx hb dX4_isLayer_10 (by decide) ?_
    exact hret _ _ _ dX4_isLayer_14 (by rw [if_pos (Or.inl c_1)])
  · skip
    refine lv_iload_n hx hb dX4_isLayer_4 rfl (lv_at hl 0 rfl) ?_
    refine lv_iconst (v := nI 1) hx hb dX4_isLayer_5 (by decide) ?_
    refine lv_icmp_ne (tgt := 13) hx hb dX4_isLayer_6 (by decide) (fun c_2 => ?_) (fun c_2 => ?_)
    · skip
      refine lv_iconst (v := nI 0) hx hb dX4_isLayer_13 (by decide) ?_
      exact hret _ _ _ dX4_isLayer_14 (by rw [if_neg (fun q => by rcases q with q | q <;> contradiction)])
    · skip
      refine lv_iconst (v := nI 1) hx hb dX4_isLayer_9 (by decide) ?_
      refine lv_goto (tgt := 14) hx hb dX4_isLayer_10 (by decide) ?_
      exact hret _ _ _ dX4_isLayer_14 (by rw [if_pos (Or.inr c_2)])

set_option maxHeartbeats 4000000 in
set_option maxRecDepth 100000 in
theorem c_X4_isTone (l : Launch) (v : Int32)  : MS l yX4_isTone wsX4_isTone ({ frames := 0, cells := 0, slots := 0, locals := 0 } : Room) [.int (v)] (nI (if okt v then 1 else 0)) := by
  refine entS (cc := cX4_isTone) 1 (by decide) rfl (Nat.le_of_ble_eq_true rfl) (by split <;> rfl) (fun pr e s m args below meth c0 Q H ls hx hb hml hown hts hret hl => ?_)
  have hown : s.vm.findClass RX4 = some m.cls := hown
  have hl : lv_has ls 1 [(0, .int (v))] := hl
  refine lv_iload_n hx hb dX4_isTone_0 rfl (lv_at hl 0 rfl) ?_
  refine lv_if_lt (tgt := 14) hx hb dX4_isTone_1 (by decide) (fun c_1 => ?_) (fun c_1 => ?_)
  · skip
    refine lv_iconst (v := nI 0) hx hb dX4_isTone_14 (by decide) ?_
    exact hret _ _ _ dX4_isTone_15 (by rw [if_neg (fun q => by obtain ⟨q1, q2⟩ := q; contradiction)])
  · skip
    refine lv_iload_n hx hb dX4_isTone_4 rfl (lv_at hl 0 rfl) ?_
    refine lv_bipush (v := nI 100) hx hb dX4_isTone_5 (by decide) ?_
    refine lv_icmp_gt (tgt := 14) hx hb dX4_isTone_7 (by decide) (fun c_2 => ?_) (fun c_2 => ?_)
    · skip
      refine lv_iconst (v := nI 0) hx hb dX4_isTone_14 (by decide) ?_
      exact hret _ _ _ dX4_isTone_15 (by rw [if_neg (fun q => by obtain ⟨q1, q2⟩ := q; contradiction)])
    · skip
      refine lv_iconst (v := nI 1) hx hb dX4_isTone_10 (by decide) ?_
      refine lv_goto (tgt := 15) hx hb dX4_isTone_11 (by decide) ?_
      exact hret _ _ _ dX4_isTone_15 (by rw [if_pos ⟨(by assumption), (by assumption)⟩])

set_option maxHeartbeats 4000000 in
set_option maxRecDepth 100000 in
theorem c_X4_cellOf (l : Launch) (x y : Nat)  : MS l yX4_cellOf wsX4_cellOf ({ frames := 0, cells := 0, slots := 0, locals := 0 } : Room) [.int (nI x), .int (nI y)] (nI (8 * y + x)) := by
  refine entS (cc := cX4_cellOf) 2 (by decide) rfl (Nat.le_of_ble_eq_true rfl) (rfl) (fun pr e s m args below meth c0 Q H ls hx hb hml hown hts hret hl => ?_)
  have hown : s.vm.findClass RX4 = some m.cls := hown
  have hl : lv_has ls 2 [(0, .int (nI x)), (1, .int (nI y))] := hl
  refine lv_bipush (v := nI 8) hx hb dX4_cellOf_0 (by decide) ?_
  refine lv_iload_n hx hb dX4_cellOf_2 rfl (lv_at hl 1 rfl) ?_
  refine nv_imul hx hb dX4_cellOf_3 ?_
  refine lv_iload_n hx hb dX4_cellOf_4 rfl (lv_at hl 0 rfl) ?_
  refine nv_iadd hx hb dX4_cellOf_5 ?_
  exact hret _ _ _ dX4_cellOf_6 (rfl)

set_option maxHeartbeats 4000000 in
set_option maxRecDepth 100000 in
theorem c_X4_wayBetween (l : Launch) (f t : Nat) (hf : f < 64) (ht : t < 64) : MS l yX4_wayBetween wsX4_wayBetween ({ frames := 1, cells := 0, slots := 0, locals := 21 } : Room) [.int (nI f), .int (nI t)] (nI (fr f t)) := by
  refine entS (cc := cX4_wayBetween) 4 (by decide) rfl (Nat.le_of_ble_eq_true rfl) (rfl) (fun pr e s m args below meth c0 Q H ls hx hb hml hown hts hret hl => ?_)
  have hown : s.vm.findClass RX4 = some m.cls := hown
  have lk1 := hts (.methodLink RX4 98 Lib.Math.abs.name) (by decide +kernel)
  have lk2 := hts (.static Lib.Math.abs.name) (by decide +kernel)
  have lk3 := hts (.initialized "java/lang/Math") (by decide +kernel)
  have lk4 := hts (.code Lib.Math.abs.name Lib.Math.abs.code 1 (some .int)) (by decide +kernel)
  have lk5 := hts (.methodLink RX4 103 Lib.Math.max.name) (by decide +kernel)
  have lk6 := hts (.static Lib.Math.max.name) (by decide +kernel)
  have lk7 := hts (.code Lib.Math.max.name Lib.Math.max.code 2 (some .int)) (by decide +kernel)
  have hl : lv_has ls 4 [(0, .int (nI f)), (1, .int (nI t))] := hl
  refine lv_iload_n hx hb dX4_wayBetween_0 rfl (lv_at hl 0 rfl) ?_
  refine lv_bipush (v := nI 8) hx hb dX4_wayBetween_1 (by decide) ?_
  refine nv_irem hx hb dX4_wayBetween_3 (by omega) (by omega) (by omega) ?_
  refine lv_iload_n hx hb dX4_wayBetween_4 rfl (lv_at hl 1 rfl) ?_
  refine lv_bipush (v := nI 8) hx hb dX4_wayBetween_5 (by decide) ?_
  refine nv_irem hx hb dX4_wayBetween_7 (by omega) (by omega) (by omega) ?_
  refine lv_isub hx hb dX4_wayBetween_8 ?_
  refine va_mabs hx hb (by rw [hml]; exact hl.1.symm) hown lk1 lk2 lk3 lk4 (Nat.le_of_ble_eq_true rfl) (Nat.le_of_ble_eq_true rfl) (Nat.zero_le _) (Nat.zero_le _) dX4_wayBetween_9 ?_
  refine top_eq (nI_abs (a := (f % 8)) (b := (t % 8)) (by omega) (by omega)) ?_
  refine lv_istore_n (lv' := [(2, .int (nI (nd ((f % 8)) ((t % 8))))), (0, .int (nI f)), (1, .int (nI t))]) hx hb dX4_wayBetween_12 rfl hl (by decide) rfl (fun ls hl => ?_)
  refine lv_iload_n hx hb dX4_wayBetween_13 rfl (lv_at hl 1 rfl) ?_
  refine lv_bipush (v := nI 8) hx hb dX4_wayBetween_14 (by decide) ?_
  refine nv_idiv hx hb dX4_wayBetween_16 (by omega) (by omega) (by omega) ?_
  refine lv_iload_n hx hb dX4_wayBetween_17 rfl (lv_at hl 2 rfl) ?_
  refine lv_bipush (v := nI 8) hx hb dX4_wayBetween_18 (by decide) ?_
  refine nv_idiv hx hb dX4_wayBetween_20 (by omega) (by omega) (by omega) ?_
  refine lv_isub hx hb dX4_wayBetween_21 ?_
  refine va_mabs hx hb (by rw [hml]; exact hl.1.symm) hown lk1 lk2 lk3 lk4 (Nat.le_of_ble_eq_true rfl) (Nat.le_of_ble_eq_true rfl) (Nat.zero_le _) (Nat.zero_le _) dX4_wayBetween_22 ?_
  refine top_eq (nI_abs (a := (f / 8)) (b := (t / 8)) (by omega) (by omega)) ?_
  refine lv_istore_n (lv' := [(3, .int (nI (nd ((f / 8)) ((t / 8))))), (2, .int (nI (nd ((f % 8)) ((t % 8))))), (0, .int (nI f)), (1, .int (nI t))]) hx hb dX4_wayBetween_25 rfl hl (by decide) rfl (fun ls hl => ?_)
  refine lv_iload_n hx hb dX4_wayBetween_26 rfl (lv_at hl 1 rfl) ?_
  refine lv_iload_n hx hb dX4_wayBetween_27 rfl (lv_at hl 0 rfl) ?_
  refine va_mmax hx hb (by rw [hml]; exact hl.1.symm) hown lk5 lk6 lk3 lk7 (Nat.le_of_ble_eq_true rfl) (Nat.le_of_ble_eq_true rfl) (Nat.zero_le _) (Nat.zero_le _) dX4_wayBetween_28 ?_
  refine top_eq (nI_max (by unfold nd; omega) (by unfold nd; omega)) ?_
  exact hret _ _ _ dX4_wayBetween_31 (rfl)

set_option maxHeartbeats 4000000 in
set_option maxRecDepth 100000 in
theorem c_X5_in (l : Launch) (v a b : Int32)  : MS l yX5_in wsX5_in ({ frames := 0, cells := 0, slots := 0, locals := 0 } : Room) [.int (v), .int (a), .int (b)] (nI (if inr v a b then 1 else 0)) := by
  refine entS (cc := cX5_in) 3 (by decide) rfl (Nat.le_of_ble_eq_true rfl) (by split <;> rfl) (fun pr e s m args below meth c0 Q H ls hx hb hml hown hts hret hl => ?_)
  have hown : s.vm.findClass RX5 = some m.cls := hown
  have hl : lv_has ls 3 [(0, .int (v)), (1, .int (a)), (2, .int (b))] := hl
  refine lv_iload_n hx hb dX5_in_0 rfl (lv_at hl 0 rfl) ?_
  refine lv_iload_n hx hb dX5_in_1 rfl (lv_at hl 1 rfl) ?_
  refine lv_icmp_lt (tgt := 14) hx hb dX5_in_2 (by decide) (fun c_1 => ?_) (fun c_1 => ?_)
  · skip
    refine lv_iconst (v := nI 0) hx hb dX5_in_14 (by decide) ?_
    exact hret _ _ _ dX5_in_15 (by rw [if_neg (fun q => by obtain ⟨q1, q2⟩ := q; contradiction)])
  · skip
    refine lv_iload_n hx hb dX5_in_5 rfl (lv_at hl 0 rfl) ?_
    refine lv_iload_n hx hb dX5_in_6 rfl (lv_at hl 2 rfl) ?_
    refine lv_icmp_gt (tgt := 14) hx hb dX5_in_7 (by decide) (fun c_2 => ?_) (fun c_2 => ?_)
    · skip
      refine lv_iconst (v := nI 0) hx hb dX5_in_14 (by decide) ?_
      exact hret _ _ _ dX5_in_15 (by rw [if_neg (fun q => by obtain ⟨q1, q2⟩ := q; contradiction)])
    · skip
      refine lv_iconst (v := nI 1) hx hb dX5_in_10 (by decide) ?_
      refine lv_goto (tgt := 15) hx hb dX5_in_11 (by decide) ?_
      exact hret _ _ _ dX5_in_15 (by rw [if_pos ⟨(by assumption), (by assumption)⟩])

set_option maxHeartbeats 4000000 in
set_option maxRecDepth 100000 in
theorem c_X5_isCell (l : Launch) (x y : Int32)  : MS l yX5_isCell wsX5_isCell ({ frames := 1, cells := 0, slots := 0, locals := 22 } : Room) [.int (x), .int (y)] (nI (if okc x y then 1 else 0)) := by
  refine entS (cc := cX5_isCell) 2 (by decide) rfl (Nat.le_of_ble_eq_true rfl) (by split <;> rfl) (fun pr e s m args below meth c0 Q H ls hx hb hml hown hts hret hl => ?_)
  have hown : s.vm.findClass RX5 = some m.cls := hown
  have hl : lv_has ls 2 [(0, .int (x)), (1, .int (y))] := hl
  refine lv_iload_n hx hb dX5_isCell_0 rfl (lv_at hl 0 rfl) ?_
  refine lv_iconst (v := nI 0) hx hb dX5_isCell_1 (by decide) ?_
  refine lv_bipush (v := nI 7) hx hb dX5_isCell_2 (by decide) ?_
  refine gcS (As := [.int (x), .int (nI 0), .int (nI 7)]) (rest := []) ⟨hx, hb, hml, hown, hts⟩ (c_X5_in l x (nI 0) (nI 7) ) (va_cwS 3 hts gX5_isCell_X5_in rfl rfl rfl (by decide +kernel) ⟨Nat.le_of_ble_eq_true rfl, Nat.le_of_ble_eq_true rfl⟩) hl.1 rfl rfl (Nat.le_of_ble_eq_true rfl) ⟨Nat.zero_le _, Nat.zero_le _⟩ dX5_isCell_4 ?_
  refine nv_ifb_eq (tgt := 24) hx hb dX5_isCell_7 (by decide) (fun c_1 => ?_) (fun c_1 => ?_)
  · skip
    refine lv_iconst (v := nI 0) hx hb dX5_isCell_24 (by decide) ?_
    exact hret _ _ _ dX5_isCell_25 (by rw [if_neg (fun q => by obtain ⟨q1, q2⟩ := (okc_in x y).mp q; contradiction)])
  · skip
    refine lv_iload_n hx hb dX5_isCell_10 rfl (lv_at hl 1 rfl) ?_
    refine lv_iconst (v := nI 0) hx hb dX5_isCell_11 (by decide) ?_
    refine lv_bipush (v := nI 7) hx hb dX5_isCell_12 (by decide) ?_
    refine gcS (As := [.int (y), .int (nI 0), .int (nI 7)]) (rest := []) ⟨hx, hb, hml, hown, hts⟩ (c_X5_in l y (nI 0) (nI 7) ) (va_cwS 3 hts gX5_isCell_X5_in rfl rfl rfl (by decide +kernel) ⟨Nat.le_of_ble_eq_true rfl, Nat.le_of_ble_eq_true rfl⟩) hl.1 rfl rfl (Nat.le_of_ble_eq_true rfl) ⟨Nat.zero_le _, Nat.zero_le _⟩ dX5_isCell_14 ?_
    refine nv_ifb_eq (tgt := 24) hx hb dX5_isCell_17 (by decide) (fun c_2 => ?_) (fun c_2 => ?_)
    · skip
      refine lv_iconst (v := nI 0) hx hb dX5_isCell_24 (by decide) ?_
      exact hret _ _ _ dX5_isCell_25 (by rw [if_neg (fun q => by obtain ⟨q1, q2⟩ := (okc_in x y).mp q; contradiction)])
    · skip
      refine lv_iconst (v := nI 1) hx hb dX5_isCell_20 (by decide) ?_
      refine lv_goto (tgt := 25) hx hb dX5_isCell_21 (by decide) ?_
      exact hret _ _ _ dX5_isCell_25 (by rw [if_pos ((okc_in x y).mpr ⟨by assumption, by assumption⟩)])

set_option maxHeartbeats 4000000 in
set_option maxRecDepth 100000 in
theorem c_X5_less (l : Launch) (a b : Nat) (ha : a < 2 ^ 31) (hb2 : b < 2 ^ 31) : MS l yX5_less wsX5_less ({ frames := 0, cells := 0, slots := 0, locals := 0 } : Room) [.int (nI a), .int (nI b)] (nI (min a b)) := by
  refine entS (cc := cX5_less) 2 (by decide) rfl (Nat.le_of_ble_eq_true rfl) (rfl) (fun pr e s m args below meth c0 Q H ls hx hb hml hown hts hret hl => ?_)
  have hown : s.vm.findClass RX5 = some m.cls := hown
  have hl : lv_has ls 2 [(0, .int (nI a)), (1, .int (nI b))] := hl
  refine lv_iload_n hx hb dX5_less_0 rfl (lv_at hl 0 rfl) ?_
  refine lv_iload_n hx hb dX5_less_1 rfl (lv_at hl 1 rfl) ?_
  refine nv_icmp_ge (tgt := 9) hx hb dX5_less_2 (by decide) (by omega) (by omega) (fun c_1 => ?_) (fun c_1 => ?_)
  · skip
    refine lv_iload_n hx hb dX5_less_9 rfl (lv_at hl 1 rfl) ?_
    exact hret _ _ _ dX5_less_10 (congrArg nI (by omega))
  · skip
    refine lv_iload_n hx hb dX5_less_5 rfl (lv_at hl 0 rfl) ?_
    refine lv_goto (tgt := 10) hx hb dX5_less_6 (by decide) ?_
    exact hret _ _ _ dX5_less_10 (congrArg nI (by omega))

set_option maxHeartbeats 4000000 in
set_option maxRecDepth 100000 in
theorem c_X5_more (l : Launch) (a b : Nat) (ha : a < 2 ^ 31) (hb2 : b < 2 ^ 31) : MS l yX5_more wsX5_more ({ frames := 0, cells := 0, slots := 0, locals := 0 } : Room) [.int (nI a), .int (nI b)] (nI (max a b)) := by
  refine entS (cc := cX5_more) 2 (by decide) rfl (Nat.le_of_ble_eq_true rfl) (rfl) (fun pr e s m args below meth c0 Q H ls hx hb hml hown hts hret hl => ?_)
  have hown : s.vm.findClass RX5 = some m.cls := hown
  have hl : lv_has ls 2 [(0, .int (nI a)), (1, .int (nI b))] := hl
  refine lv_iload_n hx hb dX5_more_0 rfl (lv_at hl 0 rfl) ?_
  refine lv_iload_n hx hb dX5_more_1 rfl (lv_at hl 1 rfl) ?_
  refine nv_icmp_le (tgt := 9) hx hb dX5_more_2 (by decide) (by omega) (by omega) (fun c_1 => ?_) (fun c_1 => ?_)
  · skip
    refine lv_iload_n hx hb dX5_more_9 rfl (lv_at hl 1 rfl) ?_
    exact hret _ _ _ dX5_more_10 (congrArg nI (by omega))
  · skip
    refine lv_iload_n hx hb dX5_more_5 rfl (lv_at hl 0 rfl) ?_
    refine lv_goto (tgt := 10) hx hb dX5_more_6 (by decide) ?_
    exact hret _ _ _ dX5_more_10 (congrArg nI (by omega))

set_option maxHeartbeats 4000000 in
set_option maxRecDepth 100000 in
theorem c_X5_more_i (l : Launch) (a b : Int32)  : MS l yX5_more wsX5_more ({ frames := 0, cells := 0, slots := 0, locals := 0 } : Room) [.int (a), .int (b)] (if a ≤ b then b else a) := by
  refine entS (cc := cX5_more) 2 (by decide) rfl (Nat.le_of_ble_eq_true rfl) (rfl) (fun pr e s m args below meth c0 Q H ls hx hb hml hown hts hret hl => ?_)
  have hown : s.vm.findClass RX5 = some m.cls := hown
  have hl : lv_has ls 2 [(0, .int (a)), (1, .int (b))] := hl
  refine lv_iload_n hx hb dX5_more_0 rfl (lv_at hl 0 rfl) ?_
  refine lv_iload_n hx hb dX5_more_1 rfl (lv_at hl 1 rfl) ?_
  refine lv_icmp_le (tgt := 9) hx hb dX5_more_2 (by decide) (fun c_1 => ?_) (fun c_1 => ?_)
  · skip
    refine lv_iload_n hx hb dX5_more_9 rfl (lv_at hl 1 rfl) ?_
    exact hret _ _ _ dX5_more_10 (by rw [if_pos c_1])
  · skip
    refine lv_iload_n hx hb dX5_more_5 rfl (lv_at hl 0 rfl) ?_
    refine lv_goto (tgt := 10) hx hb dX5_more_6 (by decide) ?_
    exact hret _ _ _ dX5_more_10 (by rw [if_neg c_1])

set_option maxHeartbeats 4000000 in
set_option maxRecDepth 100000 in
theorem c_X5_size (l : Launch) (x : Int32)  : MS l yX5_size wsX5_size ({ frames := 0, cells := 0, slots := 0, locals := 0 } : Room) [.int (x)] (sz32 x) := by
  refine entS (cc := cX5_size) 1 (by decide) rfl (Nat.le_of_ble_eq_true rfl) (rfl) (fun pr e s m args below meth c0 Q H ls hx hb hml hown hts hret hl => ?_)
  have hown : s.vm.findClass RX5 = some m.cls := hown
  have hl : lv_has ls 1 [(0, .int (x))] := hl
  refine lv_iload_n hx hb dX5_size_0 rfl (lv_at hl 0 rfl) ?_
  refine lv_if_ge (tgt := 9) hx hb dX5_size_1 (by decide) (fun c_1 => ?_) (fun c_1 => ?_)
  · skip
    refine lv_iload_n hx hb dX5_size_9 rfl (lv_at hl 0 rfl) ?_
    exact hret _ _ _ dX5_size_10 (by unfold sz32; rw [if_pos c_1])
  · skip
    refine lv_iload_n hx hb dX5_size_4 rfl (lv_at hl 0 rfl) ?_
    refine lv_ineg hx hb dX5_size_5 ?_
    refine lv_goto (tgt := 10) hx hb dX5_size_6 (by decide) ?_
    exact hret _ _ _ dX5_size_10 (by unfold sz32; rw [if_neg c_1])

set_option maxHeartbeats 4000000 in
set_option maxRecDepth 100000 in
theorem c_X5_isLayer (l : Launch) (x : Int32)  : MS l yX5_isLayer wsX5_isLayer ({ frames := 0, cells := 0, slots := 0, locals := 0 } : Room) [.int (x)] (nI (if okl x then 1 else 0)) := by
  refine entS (cc := cX5_isLayer) 1 (by decide) rfl (Nat.le_of_ble_eq_true rfl) (by split <;> rfl) (fun pr e s m args below meth c0 Q H ls hx hb hml hown hts hret hl => ?_)
  have hown : s.vm.findClass RX5 = some m.cls := hown
  have hl : lv_has ls 1 [(0, .int (x))] := hl
  refine lv_iload_n hx hb dX5_isLayer_0 rfl (lv_at hl 0 rfl) ?_
  refine lv_if_eq (tgt := 9) hx hb dX5_isLayer_1 (by decide) (fun c_1 => ?_) (fun c_1 => ?_)
  · skip
    refine lv_iconst (v := nI 1) hx hb dX5_isLayer_9 (by decide) ?_
    refine lv_goto (tgt := 14) hx hb dX5_isLayer_10 (by decide) ?_
    exact hret _ _ _ dX5_isLayer_14 (by rw [if_pos (Or.inl c_1)])
  · skip
    refine lv_iload_n hx hb dX5_isLayer_4 rfl (lv_at hl 0 rfl) ?_
    refine lv_iconst (v := nI 1) hx hb dX5_isLayer_5 (by decide) ?_
    refine lv_icmp_ne (tgt := 13) hx hb dX5_isLayer_6 (by decide) (fun c_2 => ?_) (fun c_2 => ?_)
    · skip
      refine lv_iconst (v := nI 0) hx hb dX5_isLayer_13 (by decide) ?_
      exact hret _ _ _ dX5_isLayer_14 (by rw [if_neg (fun q => by rcases q with q | q <;> contradiction)])
    · skip
      refine lv_iconst (v := nI 1) hx hb dX5_isLayer_9 (by decide) ?_
      refine lv_goto (tgt := 14) hx hb dX5_isLayer_10 (by decide) ?_
      exact hret _ _ _ dX5_isLayer_14 (by rw [if_pos (Or.inr c_2)])

set_option maxHeartbeats 4000000 in
set_option maxRecDepth 100000 in
theorem c_X5_far (l : Launch) (a b : Nat) (ha : a < 64) (hb2 : b < 64) : MS l yX5_far wsX5_far ({ frames := 1, cells := 0, slots := 0, locals := 21 } : Room) [.int (nI a), .int (nI b)] (nI (fr a b)) := by
  refine entS (cc := cX5_far) 2 (by decide) rfl (Nat.le_of_ble_eq_true rfl) (rfl) (fun pr e s m args below meth c0 Q H ls hx hb hml hown hts hret hl => ?_)
  have hown : s.vm.findClass RX5 = some m.cls := hown
  have hl : lv_has ls 2 [(0, .int (nI a)), (1, .int (nI b))] := hl
  refine lv_iload_n hx hb dX5_far_0 rfl (lv_at hl 0 rfl) ?_
  refine lv_bipush (v := nI 8) hx hb dX5_far_1 (by decide) ?_
  refine nv_irem hx hb dX5_far_3 (by omega) (by omega) (by omega) ?_
  refine lv_iload_n hx hb dX5_far_4 rfl (lv_at hl 1 rfl) ?_
  refine lv_bipush (v := nI 8) hx hb dX5_far_5 (by decide) ?_
  refine nv_irem hx hb dX5_far_7 (by omega) (by omega) (by omega) ?_
  refine lv_isub hx hb dX5_far_8 ?_
  refine gcS (As := [.int ((nI (a % 8)) - (nI (b % 8)))]) (rest := []) ⟨hx, hb, hml, hown, hts⟩ (c_X5_size l ((nI (a % 8)) - (nI (b % 8))) ) (va_cwS 1 hts gX5_far_X5_size rfl rfl rfl (by decide +kernel) ⟨Nat.le_of_ble_eq_true rfl, Nat.le_of_ble_eq_true rfl⟩) hl.1 rfl rfl (Nat.le_of_ble_eq_true rfl) ⟨Nat.zero_le _, Nat.zero_le _⟩ dX5_far_9 ?_
  refine top_eq (sz32_nd (by omega) (by omega)) ?_
  refine lv_iload_n hx hb dX5_far_12 rfl (lv_at hl 0 rfl) ?_
  refine lv_bipush (v := nI 8) hx hb dX5_far_13 (by decide) ?_
  refine nv_idiv hx hb dX5_far_15 (by omega) (by omega) (by omega) ?_
  refine lv_iload_n hx hb dX5_far_16 rfl (lv_at hl 1 rfl) ?_
  refine lv_bipush (v := nI 8) hx hb dX5_far_17 (by decide) ?_
  refine nv_idiv hx hb dX5_far_19 (by omega) (by omega) (by omega) ?_
  refine lv_isub hx hb dX5_far_20 ?_
  refine gcS (As := [.int ((nI (a / 8)) - (nI (b / 8)))]) (rest := [.int (nI (nd (a % 8) (b % 8)))]) ⟨hx, hb, hml, hown, hts⟩ (c_X5_size l ((nI (a / 8)) - (nI (b / 8))) ) (va_cwS 1 hts gX5_far_X5_size rfl rfl rfl (by decide +kernel) ⟨Nat.le_of_ble_eq_true rfl, Nat.le_of_ble_eq_true rfl⟩) hl.1 rfl rfl (Nat.le_of_ble_eq_true rfl) ⟨Nat.zero_le _, Nat.zero_le _⟩ dX5_far_21 ?_
  refine top_eq (sz32_nd (by omega) (by omega)) ?_
  refine gcS (As := [.int (nI (nd (a % 8) (b % 8))), .int (nI (nd (a / 8) (b / 8)))]) (rest := []) ⟨hx, hb, hml, hown, hts⟩ (c_X5_more l (nd (a % 8) (b % 8)) (nd (a / 8) (b / 8)) (by unfold nd; omega) (by unfold nd; omega)) (va_cwS 2 hts gX5_far_X5_more rfl rfl rfl (by decide +kernel) ⟨Nat.le_of_ble_eq_true rfl, Nat.le_of_ble_eq_true rfl⟩) hl.1 rfl rfl (Nat.le_of_ble_eq_true rfl) ⟨Nat.zero_le _, Nat.zero_le _⟩ dX5_far_24 ?_
  exact hret _ _ _ dX5_far_27 (rfl)
end
section
set_option maxHeartbeats 4000000 in
set_option maxRecDepth 100000 in
theorem c_X2_growth (l : Launch) (f t : Nat) (hf : f < 8) (ht : t < 8) : MS l yX2_growth wsX2_growth ({ frames := 1, cells := 0, slots := 0, locals := 22 } : Room) [.int (nI f), .int (nI t)] (gw f t) := by
  refine entS (cc := cX2_growth) 3 (by decide) rfl (Nat.le_of_ble_eq_true rfl) (rfl) (fun pr e s m args below meth c0 Q H ls hx hb hml hown hts hret hl => ?_)
  have hown : s.vm.findClass RX2 = some m.cls := hown
  have lk1 := hts (.methodLink RX2 48 yJ9_floorMod_7cf53) (by decide +kernel)
  have lk2 := hts (.static yJ9_floorMod_7cf53) (by decide +kernel)
  have lk3 := hts (.initialized RJ9) (by decide +kernel)
  have lk4 := hts (.code yJ9_floorMod_7cf53 cJ9_floorMod_7cf53 3 (some .int)) (by decide +kernel)
  have hl : lv_has ls 3 [(0, .int (nI f)), (1, .int (nI t))] := hl
  refine lv_iload_n hx hb dX2_growth_0 rfl (lv_at hl 1 rfl) ?_
  refine lv_iload_n hx hb dX2_growth_1 rfl (lv_at hl 0 rfl) ?_
  refine lv_isub hx hb dX2_growth_2 ?_
  refine lv_bipush (v := nI 8) hx hb dX2_growth_3 (by decide) ?_
  refine nv_fm hx hb (by rw [hml]; exact hl.1.symm) hown lk1 lk2 lk3 lk4 (Nat.le_of_ble_eq_true rfl) (Nat.le_of_ble_eq_true rfl) (Nat.zero_le _) (Nat.zero_le _) dX2_growth_5 ?_
  refine top_eq (fmo8_d (by first | omega | assumption) (by first | omega | assumption)) ?_
  refine lv_istore_n (lv' := [(2, .int (nI ((t + 8 - f) % 8))), (0, .int (nI f)), (1, .int (nI t))]) hx hb dX2_growth_8 rfl hl (by decide) rfl (fun ls hl => ?_)
  refine lv_iload_n hx hb dX2_growth_9 rfl (lv_at hl 0 rfl) ?_
  refine lv_iconst (v := nI 4) hx hb dX2_growth_10 (by decide) ?_
  refine nv_icmp_le (tgt := 21) hx hb dX2_growth_11 (by decide) (by omega) (by omega) (fun c_1 => ?_) (fun c_1 => ?_)
  · skip
    refine lv_iload_n hx hb dX2_growth_21 rfl (lv_at hl 0 rfl) ?_
    exact hret _ _ _ dX2_growth_22 (by unfold gw; rw [if_neg (by omega)])
  · skip
    refine lv_iload_n hx hb dX2_growth_14 rfl (lv_at hl 0 rfl) ?_
    refine lv_bipush (v := nI 8) hx hb dX2_growth_15 (by decide) ?_
    refine lv_isub hx hb dX2_growth_17 ?_
    refine lv_goto (tgt := 22) hx hb dX2_growth_18 (by decide) ?_
    exact hret _ _ _ dX2_growth_22 (by unfold gw; rw [if_pos (by omega)])

theorem gro_add {f t : Nat} (h : f < 8) : nI t - nI f + nI 8 = nI (t + 8 - f) := by
  have e : ∀ x y z : Int32, x - y + z = x + z - y := by
    intro x y z
    apply Int32.toBitVec_inj.mp
    simp
    try bv_omega
  rw [e, nI_add, pk_sub (by omega)]

set_option maxHeartbeats 4000000 in
set_option maxRecDepth 100000 in
theorem c_X5_grows (l : Launch) (f t : Nat) (hf : f < 8) (ht : t < 8) : MS l yX5_grows wsX5_grows ({ frames := 0, cells := 0, slots := 0, locals := 0 } : Room) [.int (nI f), .int (nI t)] (gw f t) := by
  refine entS (cc := cX5_grows) 3 (by decide) rfl (Nat.le_of_ble_eq_true rfl) (rfl) (fun pr e s m args below meth c0 Q H ls hx hb hml hown hts hret hl => ?_)
  have hown : s.vm.findClass RX5 = some m.cls := hown
  have hl : lv_has ls 3 [(0, .int (nI f)), (1, .int (nI t))] := hl
  refine lv_iload_n hx hb dX5_grows_0 rfl (lv_at hl 1 rfl) ?_
  refine lv_iload_n hx hb dX5_grows_1 rfl (lv_at hl 0 rfl) ?_
  refine lv_isub hx hb dX5_grows_2 ?_
  refine lv_bipush (v := nI 8) hx hb dX5_grows_3 (by decide) ?_
  refine lv_iadd hx hb dX5_grows_5 ?_
  refine top_eq (gro_add hf) ?_
  refine lv_bipush (v := nI 8) hx hb dX5_grows_6 (by decide) ?_
  refine nv_irem hx hb dX5_grows_8 (by omega) (by omega) (by omega) ?_
  refine lv_istore_n (lv' := [(2, .int (nI ((t + 8 - f) % 8))), (0, .int (nI f)), (1, .int (nI t))]) hx hb dX5_grows_9 rfl hl (by decide) rfl (fun ls hl => ?_)
  refine lv_iload_n hx hb dX5_grows_10 rfl (lv_at hl 0 rfl) ?_
  refine lv_iconst (v := nI 4) hx hb dX5_grows_11 (by decide) ?_
  refine nv_icmp_le (tgt := 22) hx hb dX5_grows_12 (by decide) (by omega) (by omega) (fun c_1 => ?_) (fun c_1 => ?_)
  · skip
    refine lv_iload_n hx hb dX5_grows_22 rfl (lv_at hl 0 rfl) ?_
    exact hret _ _ _ dX5_grows_23 (by unfold gw; rw [if_neg (by omega)])
  · skip
    refine lv_iload_n hx hb dX5_grows_15 rfl (lv_at hl 0 rfl) ?_
    refine lv_bipush (v := nI 8) hx hb dX5_grows_16 (by decide) ?_
    refine lv_isub hx hb dX5_grows_18 ?_
    refine lv_goto (tgt := 23) hx hb dX5_grows_19 (by decide) ?_
    exact hret _ _ _ dX5_grows_23 (by unfold gw; rw [if_pos (by omega)])

set_option maxHeartbeats 4000000 in
set_option maxRecDepth 100000 in
theorem c_X2_strainAgainst (l : Launch) (D : va_G) (cI cZ : ClassId) (tt : Nat → Nat) (sz : Nat) (h0 h1 h2 h3 : Nat) (T U B : Nat → Nat) (x y : Int32) (t : Nat) (hU : ∀ k, U k < 8) (ht : t < 8) : MI l yX2_strainAgainst wsX2_strainAgainst ({ frames := 1, cells := 0, slots := 0, locals := 22 } : Room) D cI cZ tt [.ref h0, .int (x), .int (y), .int (nI t)] [(h0, .inr (2, [.ref h1, .ref h2, .ref h3])), (h1, .inl (cI, 64, .inl (nF T))), (h2, .inl (cI, 64, .inl (nF U))), (h3, .inl (cZ, 64, .inl (nF B)))] sz (fun (r : Int32) (_ : Unit) => r = nI (sa U x y t)) (fun (_ : Unit) => [(h0, .inr (2, [.ref h1, .ref h2, .ref h3])), (h1, .inl (cI, 64, .inl (nF T))), (h2, .inl (cI, 64, .inl (nF U))), (h3, .inl (cZ, 64, .inl (nF B)))]) := by
  refine entI (cc := cX2_strainAgainst) 4 (by decide) rfl (Nat.le_of_ble_eq_true rfl) (Or.inl rfl) (fun pr e s m args below meth c0 A Q H ls hx hb hml hown hts hsz hA hP hK hD hS hG hret hl => ?_)
  have hown : s.vm.findClass RX2 = some m.cls := hown
  have lk1 := hts (.initialized RX4) (by decide +kernel)
  have lk2 := hts (.static yX4_isCell) (by decide +kernel)
  have lk3 := hts (.fieldLink RX2 15 "BurinLines$Plate" "turns" "[I") (by decide +kernel)
  have lk4 := hts (.static yX4_cellOf) (by decide +kernel)
  have lk5 := hts (.methodLink RX2 48 yJ9_floorMod_7cf53) (by decide +kernel)
  have lk6 := hts (.static yJ9_floorMod_7cf53) (by decide +kernel)
  have lk7 := hts (.initialized RJ9) (by decide +kernel)
  have lk8 := hts (.code yJ9_floorMod_7cf53 cJ9_floorMod_7cf53 3 (some .int)) (by decide +kernel)
  have hinX2 : ∀ w ∈ wsX20, w ∈ wsX2_strainAgainst := by decide +kernel
  have hl : lv_has ls 4 [(0, .ref h0), (1, .int (x)), (2, .int (y)), (3, .int (nI t))] := hl
  refine lv_iload_n hx hb dX2_strainAgainst_0 rfl (lv_at hl 1 rfl) ?_
  refine lv_iload_n hx hb dX2_strainAgainst_1 rfl (lv_at hl 2 rfl) ?_
  refine gcSN (As := [.int (x), .int (y)]) (rest := []) ⟨hx, hb, hml, hown, hts⟩ (c_X4_isCell l x y ) (va_cnB 2 hts gX2_strainAgainst_X4_isCell_n38 rfl rfl rfl (hG.1 (RX2, 38, yX4_isCell) (by decide +kernel)) lk1 (by decide +kernel) ⟨Nat.le_of_ble_eq_true rfl, Nat.le_of_ble_eq_true rfl⟩) lk2 hl.1 rfl rfl (Nat.le_of_ble_eq_true rfl) ⟨Nat.zero_le _, Nat.zero_le _⟩ dX2_strainAgainst_2 ?_
  refine nv_ifb_ne (tgt := 10) hx hb dX2_strainAgainst_5 (by decide) (fun c_1 => ?_) (fun c_1 => ?_)
  · skip
    obtain ⟨a, b, ha8, hb8, rfl, rfl⟩ := okc_nat c_1
    refine nv_sget hx hb hG hS hown 0 (by decide) rfl dX2_strainAgainst_10 ?_
    refine lv_aload_n hx hb dX2_strainAgainst_13 rfl (lv_at hl 0 rfl) ?_
    refine va_get (D := D) (ci := 2) (v := .ref h2) (C := RX2) (T := TX2) (N := 3) hx hb hts hinX2 hown hK hP 0 rfl rfl 1 (by decide) lk3 (fun _ h9 => h9) rfl dX2_strainAgainst_14 ?_
    refine lv_iload_n hx hb dX2_strainAgainst_17 rfl (lv_at hl 1 rfl) ?_
    refine lv_iload_n hx hb dX2_strainAgainst_18 rfl (lv_at hl 2 rfl) ?_
    refine gcSN (As := [.int (nI a), .int (nI b)]) (rest := [.ref h2, .ref ((tt 0))]) ⟨hx, hb, hml, hown, hts⟩ (c_X4_cellOf l a b ) (va_cnB 2 hts gX2_strainAgainst_X4_cellOf_n45 rfl rfl rfl (hG.1 (RX2, 45, yX4_cellOf) (by decide +kernel)) lk1 (by decide +kernel) ⟨Nat.le_of_ble_eq_true rfl, Nat.le_of_ble_eq_true rfl⟩) lk4 hl.1 rfl rfl (Nat.le_of_ble_eq_true rfl) ⟨Nat.zero_le _, Nat.zero_le _⟩ dX2_strainAgainst_19 ?_
    refine nv_iald hx hb hK hP 2 rfl (by omega) (by decide) dX2_strainAgainst_22 ?_
    have bd_2 := hU (8 * b + a)
    refine lv_iload_n hx hb dX2_strainAgainst_23 rfl (lv_at hl 3 rfl) ?_
    refine lv_isub hx hb dX2_strainAgainst_24 ?_
    refine lv_bipush (v := nI 8) hx hb dX2_strainAgainst_25 (by decide) ?_
    refine nv_fm hx hb (by rw [hml]; exact hl.1.symm) hown lk5 lk6 lk7 lk8 (Nat.le_of_ble_eq_true rfl) (Nat.le_of_ble_eq_true rfl) (Nat.zero_le _) (Nat.zero_le _) dX2_strainAgainst_27 ?_
    refine top_eq (fmo8_d (by first | omega | assumption) (by first | omega | assumption)) ?_
    refine nv_tab hx hb hG hS 0 (by decide) (i := ((U (8 * b + a) + 8 - t) % 8)) (by show (U (8 * b + a) + 8 - t) % 8 < 8; omega) dX2_strainAgainst_30 ?_
    exact hret _ () _ _ _ _ dX2_strainAgainst_31 (by rw [sa_nat U t ha8 hb8]; exact apS_tab (hU _) ht) hP hD hS
  · skip
    refine lv_iconst (v := nI 0) hx hb dX2_strainAgainst_8 (by decide) ?_
    exact hret _ () _ _ _ _ dX2_strainAgainst_9 (by unfold sa; rw [if_neg (by assumption)]) hP hD hS

set_option maxHeartbeats 4000000 in
set_option maxRecDepth 100000 in
theorem c_X2_strain (l : Launch) (D : va_G) (cI cZ : ClassId) (tt : Nat → Nat) (sz : Nat) (h0 h1 h2 h3 : Nat) (T U B : Nat → Nat) (c t : Nat) (hU : ∀ k, U k < 8) (hc : c < 64) (ht : t < 8) : MI l yX2_strain wsX2_strain ({ frames := 2, cells := 0, slots := 0, locals := 45 } : Room) D cI cZ tt [.ref h0, .int (nI c), .int (nI t)] [(h0, .inr (2, [.ref h1, .ref h2, .ref h3])), (h1, .inl (cI, 64, .inl (nF T))), (h2, .inl (cI, 64, .inl (nF U))), (h3, .inl (cZ, 64, .inl (nF B)))] sz (fun (r : Int32) (_ : Unit) => r = nI (sn U c t)) (fun (_ : Unit) => [(h0, .inr (2, [.ref h1, .ref h2, .ref h3])), (h1, .inl (cI, 64, .inl (nF T))), (h2, .inl (cI, 64, .inl (nF U))), (h3, .inl (cZ, 64, .inl (nF B)))]) := by
  refine entI (cc := cX2_strain) 5 (by decide) rfl (Nat.le_of_ble_eq_true rfl) (Or.inl rfl) (fun pr e s m args below meth c0 A Q H ls hx hb hml hown hts hsz hA hP hK hD hS hG hret hl => ?_)
  have hown : s.vm.findClass RX2 = some m.cls := hown
  have hl : lv_has ls 5 [(0, .ref h0), (1, .int (nI c)), (2, .int (nI t))] := hl
  refine lv_iload_n hx hb dX2_strain_0 rfl (lv_at hl 1 rfl) ?_
  refine lv_bipush (v := nI 8) hx hb dX2_strain_1 (by decide) ?_
  refine nv_irem hx hb dX2_strain_3 (by omega) (by omega) (by omega) ?_
  refine lv_istore_n (lv' := [(3, .int (nI (c % 8))), (0, .ref h0), (1, .int (nI c)), (2, .int (nI t))]) hx hb dX2_strain_4 rfl hl (by decide) rfl (fun ls hl => ?_)
  refine lv_iload_n hx hb dX2_strain_5 rfl (lv_at hl 2 rfl) ?_
  refine lv_bipush (v := nI 8) hx hb dX2_strain_6 (by decide) ?_
  refine nv_idiv hx hb dX2_strain_8 (by omega) (by omega) (by omega) ?_
  refine lv_istore (lv' := [(4, .int (nI (c / 8))), (3, .int (nI (c % 8))), (0, .ref h0), (1, .int (nI c)), (2, .int (nI t))]) hx hb dX2_strain_9 hl (by decide) rfl (fun ls hl => ?_)
  refine lv_aload_n hx hb dX2_strain_11 rfl (lv_at hl 2 rfl) ?_
  refine lv_iload_n hx hb dX2_strain_12 rfl (lv_at hl 1 rfl) ?_
  refine lv_iconst (v := nI 1) hx hb dX2_strain_13 (by decide) ?_
  refine lv_isub hx hb dX2_strain_14 ?_
  refine lv_iload hx hb dX2_strain_15 (lv_at hl 0 rfl) ?_
  refine lv_iload_n hx hb dX2_strain_17 rfl (lv_at hl 4 rfl) ?_
  refine gcVi (ws' := fun _ => [(h0, .inr (2, [.ref h1, .ref h2, .ref h3])), (h1, .inl (cI, 64, .inl (nF T))), (h2, .inl (cI, 64, .inl (nF U))), (h3, .inl (cZ, 64, .inl (nF B)))]) (wr := []) (ci := 2) (q0 := 0) (As := [.int ((nI (c % 8)) - (nI 1)), .int (nI (c / 8)), .int (nI t)]) (rest := []) ⟨hx, hb, hml, hown, hts⟩ (c_X2_strainAgainst l D cI cZ tt H.size h0 h1 h2 h3 T U B ((nI (c % 8)) - (nI 1)) (nI (c / 8)) t (by first | assumption | omega) (by first | assumption | omega)) (cwV 3 hts gX2_strain_X2_strainAgainst rfl rfl rfl (by decide +kernel) ⟨Nat.le_of_ble_eq_true rfl, Nat.le_of_ble_eq_true rfl⟩) hP hK hD hS hA hG rfl rfl [0, 1, 2, 3] [] [0, 1, 2, 3] (by decide) rfl rfl (by decide) (by decide) (by decide) (fun _ => rfl) hl.1 rfl rfl (Nat.le_of_ble_eq_true rfl) ⟨Nat.zero_le _, Nat.zero_le _⟩ dX2_strain_18 (fun r u H locs hp hP hD hS => ?_)
  obtain rfl := hp
  have hP : va_P D vwCl [(h0, .inr (2, [.ref h1, .ref h2, .ref h3])), (h1, .inl (cI, 64, .inl (nF T))), (h2, .inl (cI, 64, .inl (nF U))), (h3, .inl (cZ, 64, .inl (nF B)))] H := hP
  have hD : va_D A [(h0, .inr (2, [.ref h1, .ref h2, .ref h3])), (h1, .inl (cI, 64, .inl (nF T))), (h2, .inl (cI, 64, .inl (nF U))), (h3, .inl (cZ, 64, .inl (nF B)))] := hD
  refine lv_aload_n hx hb dX2_strain_21 rfl (lv_at hl 2 rfl) ?_
  refine lv_iload_n hx hb dX2_strain_22 rfl (lv_at hl 1 rfl) ?_
  refine lv_iconst (v := nI 1) hx hb dX2_strain_23 (by decide) ?_
  refine nv_iadd hx hb dX2_strain_24 ?_
  refine lv_iload hx hb dX2_strain_25 (lv_at hl 0 rfl) ?_
  refine lv_iload_n hx hb dX2_strain_27 rfl (lv_at hl 4 rfl) ?_
  refine gcVi (ws' := fun _ => [(h0, .inr (2, [.ref h1, .ref h2, .ref h3])), (h1, .inl (cI, 64, .inl (nF T))), (h2, .inl (cI, 64, .inl (nF U))), (h3, .inl (cZ, 64, .inl (nF B)))]) (wr := []) (ci := 2) (q0 := 0) (As := [.int (nI ((c % 8) + 1)), .int (nI (c / 8)), .int (nI t)]) (rest := [.int (nI (sa U ((nI (c % 8)) - (nI 1)) (nI (c / 8)) t))]) ⟨hx, hb, hml, hown, hts⟩ (c_X2_strainAgainst l D cI cZ tt H.size h0 h1 h2 h3 T U B (nI ((c % 8) + 1)) (nI (c / 8)) t (by first | assumption | omega) (by first | assumption | omega)) (cwV 3 hts gX2_strain_X2_strainAgainst rfl rfl rfl (by decide +kernel) ⟨Nat.le_of_ble_eq_true rfl, Nat.le_of_ble_eq_true rfl⟩) hP hK hD hS hA hG rfl rfl [0, 1, 2, 3] [] [0, 1, 2, 3] (by decide) rfl rfl (by decide) (by decide) (by decide) (fun _ => rfl) hl.1 rfl rfl (Nat.le_of_ble_eq_true rfl) ⟨Nat.zero_le _, Nat.zero_le _⟩ dX2_strain_28 (fun r u H locs hp hP hD hS => ?_)
  obtain rfl := hp
  have hP : va_P D vwCl [(h0, .inr (2, [.ref h1, .ref h2, .ref h3])), (h1, .inl (cI, 64, .inl (nF T))), (h2, .inl (cI, 64, .inl (nF U))), (h3, .inl (cZ, 64, .inl (nF B)))] H := hP
  have hD : va_D A [(h0, .inr (2, [.ref h1, .ref h2, .ref h3])), (h1, .inl (cI, 64, .inl (nF T))), (h2, .inl (cI, 64, .inl (nF U))), (h3, .inl (cZ, 64, .inl (nF B)))] := hD
  refine nv_iadd hx hb dX2_strain_31 ?_
  refine lv_aload_n hx hb dX2_strain_32 rfl (lv_at hl 2 rfl) ?_
  refine lv_iload_n hx hb dX2_strain_33 rfl (lv_at hl 1 rfl) ?_
  refine lv_iload hx hb dX2_strain_34 (lv_at hl 0 rfl) ?_
  refine lv_iconst (v := nI 1) hx hb dX2_strain_36 (by decide) ?_
  refine lv_isub hx hb dX2_strain_37 ?_
  refine lv_iload_n hx hb dX2_strain_38 rfl (lv_at hl 4 rfl) ?_
  refine gcVi (ws' := fun _ => [(h0, .inr (2, [.ref h1, .ref h2, .ref h3])), (h1, .inl (cI, 64, .inl (nF T))), (h2, .inl (cI, 64, .inl (nF U))), (h3, .inl (cZ, 64, .inl (nF B)))]) (wr := []) (ci := 2) (q0 := 0) (As := [.int (nI (c % 8)), .int ((nI (c / 8)) - (nI 1)), .int (nI t)]) (rest := [.int (nI ((sa U ((nI (c % 8)) - (nI 1)) (nI (c / 8)) t) + (sa U (nI ((c % 8) + 1)) (nI (c / 8)) t)))]) ⟨hx, hb, hml, hown, hts⟩ (c_X2_strainAgainst l D cI cZ tt H.size h0 h1 h2 h3 T U B (nI (c % 8)) ((nI (c / 8)) - (nI 1)) t (by first | assumption | omega) (by first | assumption | omega)) (cwV 3 hts gX2_strain_X2_strainAgainst rfl rfl rfl (by decide +kernel) ⟨Nat.le_of_ble_eq_true rfl, Nat.le_of_ble_eq_true rfl⟩) hP hK hD hS hA hG rfl rfl [0, 1, 2, 3] [] [0, 1, 2, 3] (by decide) rfl rfl (by decide) (by decide) (by decide) (fun _ => rfl) hl.1 rfl rfl (Nat.le_of_ble_eq_true rfl) ⟨Nat.zero_le _, Nat.zero_le _⟩ dX2_strain_39 (fun r u H locs hp hP hD hS => ?_)
  obtain rfl := hp
  have hP : va_P D vwCl [(h0, .inr (2, [.ref h1, .ref h2, .ref h3])), (h1, .inl (cI, 64, .inl (nF T))), (h2, .inl (cI, 64, .inl (nF U))), (h3, .inl (cZ, 64, .inl (nF B)))] H := hP
  have hD : va_D A [(h0, .inr (2, [.ref h1, .ref h2, .ref h3])), (h1, .inl (cI, 64, .inl (nF T))), (h2, .inl (cI, 64, .inl (nF U))), (h3, .inl (cZ, 64, .inl (nF B)))] := hD
  refine nv_iadd hx hb dX2_strain_42 ?_
  refine lv_aload_n hx hb dX2_strain_43 rfl (lv_at hl 2 rfl) ?_
  refine lv_iload_n hx hb dX2_strain_44 rfl (lv_at hl 1 rfl) ?_
  refine lv_iload hx hb dX2_strain_45 (lv_at hl 0 rfl) ?_
  refine lv_iconst (v := nI 1) hx hb dX2_strain_47 (by decide) ?_
  refine nv_iadd hx hb dX2_strain_48 ?_
  refine lv_iload_n hx hb dX2_strain_49 rfl (lv_at hl 4 rfl) ?_
  refine gcVi (ws' := fun _ => [(h0, .inr (2, [.ref h1, .ref h2, .ref h3])), (h1, .inl (cI, 64, .inl (nF T))), (h2, .inl (cI, 64, .inl (nF U))), (h3, .inl (cZ, 64, .inl (nF B)))]) (wr := []) (ci := 2) (q0 := 0) (As := [.int (nI (c % 8)), .int (nI ((c / 8) + 1)), .int (nI t)]) (rest := [.int (nI (((sa U ((nI (c % 8)) - (nI 1)) (nI (c / 8)) t) + (sa U (nI ((c % 8) + 1)) (nI (c / 8)) t)) + (sa U (nI (c % 8)) ((nI (c / 8)) - (nI 1)) t)))]) ⟨hx, hb, hml, hown, hts⟩ (c_X2_strainAgainst l D cI cZ tt H.size h0 h1 h2 h3 T U B (nI (c % 8)) (nI ((c / 8) + 1)) t (by first | assumption | omega) (by first | assumption | omega)) (cwV 3 hts gX2_strain_X2_strainAgainst rfl rfl rfl (by decide +kernel) ⟨Nat.le_of_ble_eq_true rfl, Nat.le_of_ble_eq_true rfl⟩) hP hK hD hS hA hG rfl rfl [0, 1, 2, 3] [] [0, 1, 2, 3] (by decide) rfl rfl (by decide) (by decide) (by decide) (fun _ => rfl) hl.1 rfl rfl (Nat.le_of_ble_eq_true rfl) ⟨Nat.zero_le _, Nat.zero_le _⟩ dX2_strain_50 (fun r u H locs hp hP hD hS => ?_)
  obtain rfl := hp
  have hP : va_P D vwCl [(h0, .inr (2, [.ref h1, .ref h2, .ref h3])), (h1, .inl (cI, 64, .inl (nF T))), (h2, .inl (cI, 64, .inl (nF U))), (h3, .inl (cZ, 64, .inl (nF B)))] H := hP
  have hD : va_D A [(h0, .inr (2, [.ref h1, .ref h2, .ref h3])), (h1, .inl (cI, 64, .inl (nF T))), (h2, .inl (cI, 64, .inl (nF U))), (h3, .inl (cZ, 64, .inl (nF B)))] := hD
  refine nv_iadd hx hb dX2_strain_53 ?_
  exact hret _ () _ _ _ _ dX2_strain_54 (rfl) hP hD hS

set_option maxHeartbeats 4000000 in
set_option maxRecDepth 100000 in
theorem c_X2_calmestTurn (l : Launch) (D : va_G) (cI cZ : ClassId) (tt : Nat → Nat) (sz : Nat) (h0 h1 h2 h3 : Nat) (T U B : Nat → Nat) (c : Nat) (hU : ∀ k, U k < 8) (hc : c < 64) : MI l yX2_calmestTurn wsX2_calmestTurn ({ frames := 3, cells := 0, slots := 0, locals := 69 } : Room) D cI cZ tt [.ref h0, .int (nI c)] [(h0, .inr (2, [.ref h1, .ref h2, .ref h3])), (h1, .inl (cI, 64, .inl (nF T))), (h2, .inl (cI, 64, .inl (nF U))), (h3, .inl (cZ, 64, .inl (nF B)))] sz (fun (r : Int32) (_ : Unit) => r = nI (nt U c)) (fun (_ : Unit) => [(h0, .inr (2, [.ref h1, .ref h2, .ref h3])), (h1, .inl (cI, 64, .inl (nF T))), (h2, .inl (cI, 64, .inl (nF U))), (h3, .inl (cZ, 64, .inl (nF B)))]) := by
  refine entI (cc := cX2_calmestTurn) 6 (by decide) rfl (Nat.le_of_ble_eq_true rfl) (Or.inl rfl) (fun pr e s m args below meth c0 A Q H ls hx hb hml hown hts hsz hA hP hK hD hS hG hret hl => ?_)
  have hown : s.vm.findClass RX2 = some m.cls := hown
  have lk1 := hts (.fieldLink RX2 15 "BurinLines$Plate" "turns" "[I") (by decide +kernel)
  have hinX2 : ∀ w ∈ wsX20, w ∈ wsX2_calmestTurn := by decide +kernel
  have hl : lv_has ls 6 [(0, .ref h0), (1, .int (nI c))] := hl
  refine lv_aload_n hx hb dX2_calmestTurn_0 rfl (lv_at hl 0 rfl) ?_
  refine va_get (D := D) (ci := 2) (v := .ref h2) (C := RX2) (T := TX2) (N := 3) hx hb hts hinX2 hown hK hP 0 rfl rfl 1 (by decide) lk1 (fun _ h9 => h9) rfl dX2_calmestTurn_1 ?_
  refine lv_iload_n hx hb dX2_calmestTurn_4 rfl (lv_at hl 1 rfl) ?_
  refine nv_iald hx hb hK hP 2 rfl (by omega) (by decide) dX2_calmestTurn_5 ?_
  have bd_1 := hU c
  refine lv_istore_n (lv' := [(2, .int (nI (U c))), (0, .ref h0), (1, .int (nI c))]) hx hb dX2_calmestTurn_6 rfl hl (by decide) rfl (fun ls hl => ?_)
  refine lv_aload_n hx hb dX2_calmestTurn_7 rfl (lv_at hl 1 rfl) ?_
  refine lv_iload_n hx hb dX2_calmestTurn_8 rfl (lv_at hl 2 rfl) ?_
  refine lv_iload_n hx hb dX2_calmestTurn_9 rfl (lv_at hl 0 rfl) ?_
  refine gcVi (ws' := fun _ => [(h0, .inr (2, [.ref h1, .ref h2, .ref h3])), (h1, .inl (cI, 64, .inl (nF T))), (h2, .inl (cI, 64, .inl (nF U))), (h3, .inl (cZ, 64, .inl (nF B)))]) (wr := []) (ci := 2) (q0 := 0) (As := [.int (nI c), .int (nI (U c))]) (rest := []) ⟨hx, hb, hml, hown, hts⟩ (c_X2_strain l D cI cZ tt H.size h0 h1 h2 h3 T U B c (U c) (by first | assumption | omega) (by first | assumption | omega) (by first | assumption | omega)) (cwV 2 hts gX2_calmestTurn_X2_strain rfl rfl rfl (by decide +kernel) ⟨Nat.le_of_ble_eq_true rfl, Nat.le_of_ble_eq_true rfl⟩) hP hK hD hS hA hG rfl rfl [0, 1, 2, 3] [] [0, 1, 2, 3] (by decide) rfl rfl (by decide) (by decide) (by decide) (fun _ => rfl) hl.1 rfl rfl (Nat.le_of_ble_eq_true rfl) ⟨Nat.zero_le _, Nat.zero_le _⟩ dX2_calmestTurn_10 (fun r u H locs hp hP hD hS => ?_)
  obtain rfl := hp
  have hP : va_P D vwCl [(h0, .inr (2, [.ref h1, .ref h2, .ref h3])), (h1, .inl (cI, 64, .inl (nF T))), (h2, .inl (cI, 64, .inl (nF U))), (h3, .inl (cZ, 64, .inl (nF B)))] H := hP
  have hD : va_D A [(h0, .inr (2, [.ref h1, .ref h2, .ref h3])), (h1, .inl (cI, 64, .inl (nF T))), (h2, .inl (cI, 64, .inl (nF U))), (h3, .inl (cZ, 64, .inl (nF B)))] := hD
  have sb_2 := sn_le U c (t := U c) hU (hU c)
  refine lv_istore_n (lv' := [(3, .int (nI (sn U c (U c)))), (2, .int (nI (U c))), (0, .ref h0), (1, .int (nI c))]) hx hb dX2_calmestTurn_13 rfl hl (by decide) rfl (fun ls hl => ?_)
  refine lv_iconst (v := nI 0) hx hb dX2_calmestTurn_14 (by decide) ?_
  refine lv_istore (lv' := [(4, .int (nI 0)), (3, .int (nI (sn U c (U c)))), (2, .int (nI (U c))), (0, .ref h0), (1, .int (nI c))]) hx hb dX2_calmestTurn_15 hl (by decide) rfl (fun ls hl => ?_)
  have L17 : ∀ (n : Nat) (i : Nat) (cal : Nat) (lst : Nat), 8 - i < n → (i ≤ 8) → (cal = cm (sn U c) (U c) i) → (lst = sn U c cal) → (cal < 8) → ∀ (H : Heap) (locs : List Loc) (ls : Array Slot), va_P D vwCl [(h0, .inr (2, [.ref h1, .ref h2, .ref h3])), (h1, .inl (cI, 64, .inl (nF T))), (h2, .inl (cI, 64, .inl (nF U))), (h3, .inl (cZ, 64, .inl (nF B)))] H → va_D A [(h0, .inr (2, [.ref h1, .ref h2, .ref h3])), (h1, .inl (cI, 64, .inl (nF T))), (h2, .inl (cI, 64, .inl (nF U))), (h3, .inl (cZ, 64, .inl (nF B)))] → va_S A s.heap H locs → lv_has ls 6 [(0, .ref h0), (1, .int (nI c)), (2, .int (nI cal)), (3, .int (nI lst)), (4, .int (nI i))] → W pr l e ({ frames := 3, cells := 0, slots := 0, locals := 69 } : Room) s m args below meth c0 H locs 0 0 Q (F0 m 17 ls []) := by
    intro n
    induction n with
    | zero => intro i cal lst h0; exact absurd h0 (Nat.not_lt_zero _)
    | succ n ih17 =>
      intro i cal lst hm17 hi hcal hlst hc8 H locs ls hP hD hS hl
      have hls := sn_le U c (t := cal) hU hc8
      refine lv_iload hx hb dX2_calmestTurn_17 (lv_at hl 4 rfl) ?_
      refine lv_bipush (v := nI 8) hx hb dX2_calmestTurn_19 (by decide) ?_
      refine nv_icmp_ge (tgt := 51) hx hb dX2_calmestTurn_21 (by decide) (by omega) (by omega) (fun c_3 => ?_) (fun c_3 => ?_)
      · skip
        refine lv_iload_n hx hb dX2_calmestTurn_51 rfl (lv_at hl 2 rfl) ?_
        exact hret _ () _ _ _ _ dX2_calmestTurn_52 (by rw [hcal, show i = 8 by omega]; rfl) hP hD hS
      · skip
        refine lv_aload_n hx hb dX2_calmestTurn_24 rfl (lv_at hl 0 rfl) ?_
        refine lv_iload_n hx hb dX2_calmestTurn_25 rfl (lv_at hl 1 rfl) ?_
        refine lv_iload hx hb dX2_calmestTurn_26 (lv_at hl 4 rfl) ?_
        refine gcVi (ws' := fun _ => [(h0, .inr (2, [.ref h1, .ref h2, .ref h3])), (h1, .inl (cI, 64, .inl (nF T))), (h2, .inl (cI, 64, .inl (nF U))), (h3, .inl (cZ, 64, .inl (nF B)))]) (wr := []) (ci := 2) (q0 := 0) (As := [.int (nI c), .int (nI i)]) (rest := []) ⟨hx, hb, hml, hown, hts⟩ (c_X2_strain l D cI cZ tt H.size h0 h1 h2 h3 T U B c i (by first | assumption | omega) (by first | assumption | omega) (by first | assumption | omega)) (cwV 2 hts gX2_calmestTurn_X2_strain rfl rfl rfl (by decide +kernel) ⟨Nat.le_of_ble_eq_true rfl, Nat.le_of_ble_eq_true rfl⟩) hP hK hD hS hA hG rfl rfl [0, 1, 2, 3] [] [0, 1, 2, 3] (by decide) rfl rfl (by decide) (by decide) (by decide) (fun _ => rfl) hl.1 rfl rfl (Nat.le_of_ble_eq_true rfl) ⟨Nat.zero_le _, Nat.zero_le _⟩ dX2_calmestTurn_28 (fun r u H locs hp hP hD hS => ?_)
        obtain rfl := hp
        have hP : va_P D vwCl [(h0, .inr (2, [.ref h1, .ref h2, .ref h3])), (h1, .inl (cI, 64, .inl (nF T))), (h2, .inl (cI, 64, .inl (nF U))), (h3, .inl (cZ, 64, .inl (nF B)))] H := hP
        have hD : va_D A [(h0, .inr (2, [.ref h1, .ref h2, .ref h3])), (h1, .inl (cI, 64, .inl (nF T))), (h2, .inl (cI, 64, .inl (nF U))), (h3, .inl (cZ, 64, .inl (nF B)))] := hD
        have sb_4 := sn_le U c (t := i) hU (by omega)
        refine lv_istore (lv' := [(5, .int (nI (sn U c i))), (0, .ref h0), (1, .int (nI c)), (2, .int (nI cal)), (3, .int (nI lst)), (4, .int (nI i))]) hx hb dX2_calmestTurn_31 hl (by decide) rfl (fun ls hl => ?_)
        refine lv_iload hx hb dX2_calmestTurn_33 (lv_at hl 0 rfl) ?_
        refine lv_iload_n hx hb dX2_calmestTurn_35 rfl (lv_at hl 4 rfl) ?_
        refine nv_icmp_ge (tgt := 45) hx hb dX2_calmestTurn_36 (by decide) (by omega) (by omega) (fun c_5 => ?_) (fun c_5 => ?_)
        · skip
          refine lv_iinc (v := nI (i + 1)) (lv' := [(4, .int (nI (i + 1))), (5, .int (nI (sn U c i))), (0, .ref h0), (1, .int (nI c)), (2, .int (nI cal)), (3, .int (nI lst))]) hx hb dX2_calmestTurn_45 hl (k := 5) rfl (by exact nI_add _ 1) (by decide) rfl (fun ls hl => ?_)
          refine lv_goto (tgt := 17) hx hb dX2_calmestTurn_48 (by decide) ?_
          exact ih17 (i + 1) cal lst (by omega) (by omega) (by rw [cm, ← hcal, if_neg (by omega)]) hlst hc8 _ _ _ hP hD hS (lv_sub hl [2, 3, 4, 5, 0] rfl)
        · skip
          refine lv_iload hx hb dX2_calmestTurn_39 (lv_at hl 0 rfl) ?_
          refine lv_istore_n (lv' := [(3, .int (nI (sn U c i))), (5, .int (nI (sn U c i))), (0, .ref h0), (1, .int (nI c)), (2, .int (nI cal)), (4, .int (nI i))]) hx hb dX2_calmestTurn_41 rfl hl (by decide) rfl (fun ls hl => ?_)
          refine lv_iload hx hb dX2_calmestTurn_42 (lv_at hl 5 rfl) ?_
          refine lv_istore_n (lv' := [(2, .int (nI i)), (3, .int (nI (sn U c i))), (5, .int (nI (sn U c i))), (0, .ref h0), (1, .int (nI c)), (4, .int (nI i))]) hx hb dX2_calmestTurn_44 rfl hl (by decide) rfl (fun ls hl => ?_)
          refine lv_iinc (v := nI (i + 1)) (lv' := [(4, .int (nI (i + 1))), (2, .int (nI i)), (3, .int (nI (sn U c i))), (5, .int (nI (sn U c i))), (0, .ref h0), (1, .int (nI c))]) hx hb dX2_calmestTurn_45 hl (k := 5) rfl (by exact nI_add _ 1) (by decide) rfl (fun ls hl => ?_)
          refine lv_goto (tgt := 17) hx hb dX2_calmestTurn_48 (by decide) ?_
          exact ih17 (i + 1) i (sn U c i) (by omega) (by omega) (by rw [cm, ← hcal, if_pos (by omega)]) rfl (by omega) _ _ _ hP hD hS (lv_sub hl [4, 5, 1, 2, 0] rfl)
  exact L17 (8 + 1) 0 (U c) (sn U c (U c)) (by omega) (by omega) rfl rfl (hU c) _ _ _ hP hD hS (lv_sub hl [3, 4, 2, 1, 0] rfl)

set_option maxHeartbeats 4000000 in
set_option maxRecDepth 100000 in
theorem c_X2_goThrough (l : Launch) (D : va_G) (cI cZ : ClassId) (tt : Nat → Nat) (sz : Nat) (h0 h1 h2 h3 : Nat) (T U B : Nat → Nat) (hU : ∀ k, U k < 8) (hB : ∀ k, B k < 2) : MI l yX2_goThrough wsX2_goThrough ({ frames := 4, cells := 0, slots := 0, locals := 94 } : Room) D cI cZ tt [.ref h0] [(h0, .inr (2, [.ref h1, .ref h2, .ref h3])), (h1, .inl (cI, 64, .inl (nF T))), (h2, .inl (cI, 64, .inl (nF U))), (h3, .inl (cZ, 64, .inl (nF B)))] sz (fun (r : Int32) (_ : Unit) => r = nI ((gtS B U 64).2)) (fun (_ : Unit) => [(h0, .inr (2, [.ref h1, .ref h2, .ref h3])), (h1, .inl (cI, 64, .inl (nF T))), (h2, .inl (cI, 64, .inl (nF ((gtS B U 64).1)))), (h3, .inl (cZ, 64, .inl (nF B)))]) := by
  refine entI (cc := cX2_goThrough) 4 (by decide) rfl (Nat.le_of_ble_eq_true rfl) (Or.inr ⟨rfl, fun v u h => by rw [h]; have z := gtS_flag (B := B) (U := U) 64; rcases (show (gtS B U 64).2 = 0 ∨ (gtS B U 64).2 = 1 by omega) with q | q <;> rw [q] <;> rfl⟩) (fun pr e s m args below meth c0 A Q H ls hx hb hml hown hts hsz hA hP hK hD hS hG hret hl => ?_)
  have hown : s.vm.findClass RX2 = some m.cls := hown
  have lk1 := hts (.fieldLink RX2 18 "BurinLines$Plate" "told" "[Z") (by decide +kernel)
  have lk2 := hts (.fieldLink RX2 15 "BurinLines$Plate" "turns" "[I") (by decide +kernel)
  have hinX2 : ∀ w ∈ wsX20, w ∈ wsX2_goThrough := by decide +kernel
  have hl : lv_has ls 4 [(0, .ref h0)] := hl
  refine lv_iconst (v := nI 0) hx hb dX2_goThrough_0 (by decide) ?_
  refine lv_istore_n (lv' := [(1, .int (nI 0)), (0, .ref h0)]) hx hb dX2_goThrough_1 rfl hl (by decide) rfl (fun ls hl => ?_)
  refine lv_iconst (v := nI 0) hx hb dX2_goThrough_2 (by decide) ?_
  refine lv_istore_n (lv' := [(2, .int (nI 0)), (1, .int (nI 0)), (0, .ref h0)]) hx hb dX2_goThrough_3 rfl hl (by decide) rfl (fun ls hl => ?_)
  have L4 : ∀ (n : Nat) (i : Nat) (U2 : Nat → Nat) (ch : Nat), 64 - i < n → (i ≤ 64) → (U2 = (gtS B U i).1) → (ch = (gtS B U i).2) → (∀ k, U2 k < 8) → ∀ (H : Heap) (locs : List Loc) (ls : Array Slot), va_P D vwCl [(h0, .inr (2, [.ref h1, .ref h2, .ref h3])), (h1, .inl (cI, 64, .inl (nF T))), (h2, .inl (cI, 64, .inl (nF U2))), (h3, .inl (cZ, 64, .inl (nF B)))] H → va_D A [(h0, .inr (2, [.ref h1, .ref h2, .ref h3])), (h1, .inl (cI, 64, .inl (nF T))), (h2, .inl (cI, 64, .inl (nF U2))), (h3, .inl (cZ, 64, .inl (nF B)))] → va_S A s.heap H locs → lv_has ls 4 [(0, .ref h0), (1, .int (nI ch)), (2, .int (nI i))] → W pr l e ({ frames := 4, cells := 0, slots := 0, locals := 94 } : Room) s m args below meth c0 H locs 0 0 Q (F0 m 4 ls []) := by
    intro n
    induction n with
    | zero => intro i U2 ch h0; exact absurd h0 (Nat.not_lt_zero _)
    | succ n ih4 =>
      intro i U2 ch hm4 hi hU2 hch hb2 H locs ls hP hD hS hl
      refine lv_iload_n hx hb dX2_goThrough_4 rfl (lv_at hl 2 rfl) ?_
      refine lv_bipush (v := nI 64) hx hb dX2_goThrough_5 (by decide) ?_
      refine nv_icmp_ge (tgt := 59) hx hb dX2_goThrough_7 (by decide) (by omega) (by omega) (fun c_1 => ?_) (fun c_1 => ?_)
      · skip
        have h64 : i = 64 := by omega
        subst h64
        subst hU2
        subst hch
        refine lv_iload_n hx hb dX2_goThrough_59 rfl (lv_at hl 1 rfl) ?_
        exact hret _ () _ _ _ _ dX2_goThrough_60 (rfl) hP hD hS
      · skip
        refine lv_aload_n hx hb dX2_goThrough_10 rfl (lv_at hl 0 rfl) ?_
        refine va_get (D := D) (ci := 2) (v := .ref h3) (C := RX2) (T := TX2) (N := 3) hx hb hts hinX2 hown hK hP 0 rfl rfl 2 (by decide) lk1 (fun _ h9 => h9) rfl dX2_goThrough_11 ?_
        refine lv_iload_n hx hb dX2_goThrough_14 rfl (lv_at hl 2 rfl) ?_
        refine nv_zald hx hb hK hP 3 rfl (by omega) (by decide) dX2_goThrough_15 ?_
        have bd_2 := hB i
        refine nv_if_eq (tgt := 28) hx hb dX2_goThrough_16 (by decide) (by omega) (fun c_3 => ?_) (fun c_3 => ?_)
        · skip
          have hnt := nt_lt hb2 i
          refine lv_aload_n hx hb dX2_goThrough_28 rfl (lv_at hl 0 rfl) ?_
          refine lv_iload_n hx hb dX2_goThrough_29 rfl (lv_at hl 2 rfl) ?_
          refine gcVi (ws' := fun _ => [(h0, .inr (2, [.ref h1, .ref h2, .ref h3])), (h1, .inl (cI, 64, .inl (nF T))), (h2, .inl (cI, 64, .inl (nF U2))), (h3, .inl (cZ, 64, .inl (nF B)))]) (wr := []) (ci := 2) (q0 := 0) (As := [.int (nI i)]) (rest := []) ⟨hx, hb, hml, hown, hts⟩ (c_X2_calmestTurn l D cI cZ tt H.size h0 h1 h2 h3 T U2 B i (by first | assumption | omega) (by first | assumption | omega)) (cwV 1 hts gX2_goThrough_X2_calmestTurn rfl rfl rfl (by decide +kernel) ⟨Nat.le_of_ble_eq_true rfl, Nat.le_of_ble_eq_true rfl⟩) hP hK hD hS hA hG rfl rfl [0, 1, 2, 3] [] [0, 1, 2, 3] (by decide) rfl rfl (by decide) (by decide) (by decide) (fun _ => rfl) hl.1 rfl rfl (Nat.le_of_ble_eq_true rfl) ⟨Nat.zero_le _, Nat.zero_le _⟩ dX2_goThrough_30 (fun r u H locs hp hP hD hS => ?_)
          obtain rfl := hp
          have hP : va_P D vwCl [(h0, .inr (2, [.ref h1, .ref h2, .ref h3])), (h1, .inl (cI, 64, .inl (nF T))), (h2, .inl (cI, 64, .inl (nF U2))), (h3, .inl (cZ, 64, .inl (nF B)))] H := hP
          have hD : va_D A [(h0, .inr (2, [.ref h1, .ref h2, .ref h3])), (h1, .inl (cI, 64, .inl (nF T))), (h2, .inl (cI, 64, .inl (nF U2))), (h3, .inl (cZ, 64, .inl (nF B)))] := hD
          refine lv_istore_n (lv' := [(3, .int (nI (nt U2 i))), (0, .ref h0), (1, .int (nI ch)), (2, .int (nI i))]) hx hb dX2_goThrough_33 rfl hl (by decide) rfl (fun ls hl => ?_)
          refine lv_iload_n hx hb dX2_goThrough_34 rfl (lv_at hl 0 rfl) ?_
          refine lv_aload_n hx hb dX2_goThrough_35 rfl (lv_at hl 1 rfl) ?_
          refine va_get (D := D) (ci := 2) (v := .ref h2) (C := RX2) (T := TX2) (N := 3) hx hb hts hinX2 hown hK hP 0 rfl rfl 1 (by decide) lk2 (fun _ h9 => h9) rfl dX2_goThrough_36 ?_
          refine lv_iload_n hx hb dX2_goThrough_39 rfl (lv_at hl 3 rfl) ?_
          refine nv_iald hx hb hK hP 2 rfl (by omega) (by decide) dX2_goThrough_40 ?_
          have bd_4 := hb2 i
          refine nv_icmp_eq (tgt := 53) hx hb dX2_goThrough_41 (by decide) (by omega) (by omega) (fun c_5 => ?_) (fun c_5 => ?_)
          · skip
            have e_6 : gtS B U (i + 1) = gtS B U i := gtS_no (fun q => q.2 (by rw [← hU2]; exact c_5))
            refine lv_iinc (v := nI (i + 1)) (lv' := [(2, .int (nI (i + 1))), (3, .int (nI (nt U2 i))), (0, .ref h0), (1, .int (nI ch))]) hx hb dX2_goThrough_53 hl (k := 3) rfl (by exact nI_add _ 1) (by decide) rfl (fun ls hl => ?_)
            refine lv_goto (tgt := 4) hx hb dX2_goThrough_56 (by decide) ?_
            exact ih4 (i + 1) U2 ch (by omega) (by omega) (by rw [e_6]; exact hU2) (by rw [e_6]; exact hch) hb2 _ _ _ hP hD hS (lv_sub hl [2, 3, 0] rfl)
          · skip
            have e_8 : gtS B U (i + 1) = (va_up U2 i (nt U2 i), 1) := by rw [hU2]; exact gtS_yes (by assumption) (by rw [← hU2]; exact c_5)
            refine lv_aload_n hx hb dX2_goThrough_44 rfl (lv_at hl 1 rfl) ?_
            refine va_get (D := D) (ci := 2) (v := .ref h2) (C := RX2) (T := TX2) (N := 3) hx hb hts hinX2 hown hK hP 0 rfl rfl 1 (by decide) lk2 (fun _ h9 => h9) rfl dX2_goThrough_45 ?_
            refine lv_iload_n hx hb dX2_goThrough_48 rfl (lv_at hl 3 rfl) ?_
            refine lv_iload_n hx hb dX2_goThrough_49 rfl (lv_at hl 0 rfl) ?_
            refine nv_iast hx hb hK hP hD hS 2 rfl (by omega) (by decide) dX2_goThrough_50 (fun H locs hP hD hS => ?_)
            have hP : va_P D vwCl [(h0, .inr (2, [.ref h1, .ref h2, .ref h3])), (h1, .inl (cI, 64, .inl (nF T))), (h2, .inl (cI, 64, .inl (nF (va_up U2 i (nt U2 i))))), (h3, .inl (cZ, 64, .inl (nF B)))] H := hP
            have hD : va_D A [(h0, .inr (2, [.ref h1, .ref h2, .ref h3])), (h1, .inl (cI, 64, .inl (nF T))), (h2, .inl (cI, 64, .inl (nF (va_up U2 i (nt U2 i))))), (h3, .inl (cZ, 64, .inl (nF B)))] := hD
            refine lv_iconst (v := nI 1) hx hb dX2_goThrough_51 (by decide) ?_
            refine lv_istore_n (lv' := [(1, .int (nI 1)), (3, .int (nI (nt U2 i))), (0, .ref h0), (2, .int (nI i))]) hx hb dX2_goThrough_52 rfl hl (by decide) rfl (fun ls hl => ?_)
            refine lv_iinc (v := nI (i + 1)) (lv' := [(2, .int (nI (i + 1))), (1, .int (nI 1)), (3, .int (nI (nt U2 i))), (0, .ref h0)]) hx hb dX2_goThrough_53 hl (k := 3) rfl (by exact nI_add _ 1) (by decide) rfl (fun ls hl => ?_)
            refine lv_goto (tgt := 4) hx hb dX2_goThrough_56 (by decide) ?_
            exact ih4 (i + 1) (va_up U2 i (nt U2 i)) 1 (by omega) (by omega) (by rw [e_8]) (by rw [e_8]) (by intro k; have z := gtS_lt (B := B) hU (i + 1) k; rw [e_8] at z; exact z) _ _ _ hP hD hS (lv_sub hl [3, 1, 0] rfl)
        · skip
          have e_9 : gtS B U (i + 1) = gtS B U i := gtS_no (fun q => absurd q.1 c_3)
          refine lv_aload_n hx hb dX2_goThrough_19 rfl (lv_at hl 0 rfl) ?_
          refine va_get (D := D) (ci := 2) (v := .ref h2) (C := RX2) (T := TX2) (N := 3) hx hb hts hinX2 hown hK hP 0 rfl rfl 1 (by decide) lk2 (fun _ h9 => h9) rfl dX2_goThrough_20 ?_
          refine lv_iload_n hx hb dX2_goThrough_23 rfl (lv_at hl 2 rfl) ?_
          refine nv_iald hx hb hK hP 2 rfl (by omega) (by decide) dX2_goThrough_24 ?_
          have bd_10 := hb2 i
          refine lv_goto (tgt := 33) hx hb dX2_goThrough_25 (by decide) ?_
          refine lv_istore_n (lv' := [(3, .int (nI (U2 i))), (0, .ref h0), (1, .int (nI ch)), (2, .int (nI i))]) hx hb dX2_goThrough_33 rfl hl (by decide) rfl (fun ls hl => ?_)
          refine lv_iload_n hx hb dX2_goThrough_34 rfl (lv_at hl 0 rfl) ?_
          refine lv_aload_n hx hb dX2_goThrough_35 rfl (lv_at hl 1 rfl) ?_
          refine va_get (D := D) (ci := 2) (v := .ref h2) (C := RX2) (T := TX2) (N := 3) hx hb hts hinX2 hown hK hP 0 rfl rfl 1 (by decide) lk2 (fun _ h9 => h9) rfl dX2_goThrough_36 ?_
          refine lv_iload_n hx hb dX2_goThrough_39 rfl (lv_at hl 3 rfl) ?_
          refine nv_iald hx hb hK hP 2 rfl (by omega) (by decide) dX2_goThrough_40 ?_
          have bd_11 := hb2 i
          refine nv_icmp_eq (tgt := 53) hx hb dX2_goThrough_41 (by decide) (by omega) (by omega) (fun c_12 => ?_) (fun c_12 => ?_)
          · skip
            refine lv_iinc (v := nI (i + 1)) (lv' := [(2, .int (nI (i + 1))), (3, .int (nI (U2 i))), (0, .ref h0), (1, .int (nI ch))]) hx hb dX2_goThrough_53 hl (k := 3) rfl (by exact nI_add _ 1) (by decide) rfl (fun ls hl => ?_)
            refine lv_goto (tgt := 4) hx hb dX2_goThrough_56 (by decide) ?_
            exact ih4 (i + 1) U2 ch (by omega) (by omega) (by rw [e_9]; exact hU2) (by rw [e_9]; exact hch) hb2 _ _ _ hP hD hS (lv_sub hl [2, 3, 0] rfl)
          · skip
            exact absurd rfl c_12
  exact L4 (64 + 1) 0 U 0 (by omega) (by omega) rfl rfl hU _ _ _ hP hD hS (lv_sub hl [2, 1, 0] rfl)

set_option maxHeartbeats 4000000 in
set_option maxRecDepth 100000 in
theorem c_X2_smooth (l : Launch) (D : va_G) (cI cZ : ClassId) (tt : Nat → Nat) (sz : Nat) (h0 h1 h2 h3 : Nat) (T U B : Nat → Nat) (hU : ∀ k, U k < 8) (hB : ∀ k, B k < 2) : MI l yX2_smooth wsX2_smooth ({ frames := 5, cells := 0, slots := 0, locals := 117 } : Room) D cI cZ tt [.ref h0] [(h0, .inr (2, [.ref h1, .ref h2, .ref h3])), (h1, .inl (cI, 64, .inl (nF T))), (h2, .inl (cI, 64, .inl (nF U))), (h3, .inl (cZ, 64, .inl (nF B)))] sz (fun (r : Int32) (_ : Unit) => r = nI (evN B U 20 0)) (fun (_ : Unit) => [(h0, .inr (2, [.ref h1, .ref h2, .ref h3])), (h1, .inl (cI, 64, .inl (nF T))), (h2, .inl (cI, 64, .inl (nF (it B U (evN B U 20 0))))), (h3, .inl (cZ, 64, .inl (nF B)))]) := by
  refine entI (cc := cX2_smooth) 3 (by decide) rfl (Nat.le_of_ble_eq_true rfl) (Or.inl rfl) (fun pr e s m args below meth c0 A Q H ls hx hb hml hown hts hsz hA hP hK hD hS hG hret hl => ?_)
  have hown : s.vm.findClass RX2 = some m.cls := hown
  have hl : lv_has ls 3 [(0, .ref h0)] := hl
  refine lv_iconst (v := nI 0) hx hb dX2_smooth_0 (by decide) ?_
  refine lv_istore_n (lv' := [(1, .int (nI 0)), (0, .ref h0)]) hx hb dX2_smooth_1 rfl hl (by decide) rfl (fun ls hl => ?_)
  refine lv_iconst (v := nI 1) hx hb dX2_smooth_2 (by decide) ?_
  refine lv_istore_n (lv' := [(2, .int (nI 1)), (1, .int (nI 0)), (0, .ref h0)]) hx hb dX2_smooth_3 rfl hl (by decide) rfl (fun ls hl => ?_)
  have L4 : ∀ (n : Nat) (g0 : Nat) (U2 : Nat → Nat) (ch : Nat), 20 - g0 < n → (g0 ≤ 20) → (U2 = it B U g0) → (ch < 2) → (¬ ch = 0 → evN B U (20 - g0) g0 = evN B U 20 0) → (ch = 0 → g0 = evN B U 20 0) → ∀ (H : Heap) (locs : List Loc) (ls : Array Slot), va_P D vwCl [(h0, .inr (2, [.ref h1, .ref h2, .ref h3])), (h1, .inl (cI, 64, .inl (nF T))), (h2, .inl (cI, 64, .inl (nF U2))), (h3, .inl (cZ, 64, .inl (nF B)))] H → va_D A [(h0, .inr (2, [.ref h1, .ref h2, .ref h3])), (h1, .inl (cI, 64, .inl (nF T))), (h2, .inl (cI, 64, .inl (nF U2))), (h3, .inl (cZ, 64, .inl (nF B)))] → va_S A s.heap H locs → lv_has ls 3 [(0, .ref h0), (1, .int (nI g0)), (2, .int (nI ch))] → W pr l e ({ frames := 5, cells := 0, slots := 0, locals := 117 } : Room) s m args below meth c0 H locs 0 0 Q (F0 m 4 ls []) := by
    intro n
    induction n with
    | zero => intro g0 U2 ch h0; exact absurd h0 (Nat.not_lt_zero _)
    | succ n ih4 =>
      intro g0 U2 ch hm4 hg hU2 hc2 hy hz H locs ls hP hD hS hl
      refine lv_iload_n hx hb dX2_smooth_4 rfl (lv_at hl 2 rfl) ?_
      refine nv_if_eq (tgt := 25) hx hb dX2_smooth_5 (by decide) (by omega) (fun c_1 => ?_) (fun c_1 => ?_)
      · skip
        have hN := hz c_1
        subst hU2
        subst hN
        refine lv_iload_n hx hb dX2_smooth_25 rfl (lv_at hl 1 rfl) ?_
        exact hret _ () _ _ _ _ dX2_smooth_26 (rfl) hP hD hS
      · skip
        refine lv_iload_n hx hb dX2_smooth_8 rfl (lv_at hl 1 rfl) ?_
        refine lv_bipush (v := nI 20) hx hb dX2_smooth_9 (by decide) ?_
        refine nv_icmp_ge (tgt := 25) hx hb dX2_smooth_11 (by decide) (by omega) (by omega) (fun c_2 => ?_) (fun c_2 => ?_)
        · skip
          have h20 : g0 = 20 := by omega
          have hN : g0 = evN B U 20 0 := by rw [← hy (by assumption), h20]; rfl
          subst hU2
          subst hN
          refine lv_iload_n hx hb dX2_smooth_25 rfl (lv_at hl 1 rfl) ?_
          exact hret _ () _ _ _ _ dX2_smooth_26 (rfl) hP hD hS
        · skip
          refine lv_aload_n hx hb dX2_smooth_14 rfl (lv_at hl 0 rfl) ?_
          refine gcVi (ws' := fun _ => [(h0, .inr (2, [.ref h1, .ref h2, .ref h3])), (h1, .inl (cI, 64, .inl (nF T))), (h2, .inl (cI, 64, .inl (nF ((gtS B U2 64).1)))), (h3, .inl (cZ, 64, .inl (nF B)))]) (wr := []) (ci := 2) (q0 := 0) (As := []) (rest := []) ⟨hx, hb, hml, hown, hts⟩ (c_X2_goThrough l D cI cZ tt H.size h0 h1 h2 h3 T U2 B (by exact fun k => by rw [hU2]; exact it_lt hU g0 k) (by first | assumption | omega)) (cwV 0 hts gX2_smooth_X2_goThrough rfl rfl rfl (by decide +kernel) ⟨Nat.le_of_ble_eq_true rfl, Nat.le_of_ble_eq_true rfl⟩) hP hK hD hS hA hG rfl rfl [0, 1, 2, 3] [] [0, 1, 2, 3] (by decide) rfl rfl (by decide) (by decide) (by decide) (fun _ => rfl) hl.1 rfl rfl (Nat.le_of_ble_eq_true rfl) ⟨Nat.zero_le _, Nat.zero_le _⟩ dX2_smooth_15 (fun r u H locs hp hP hD hS => ?_)
          obtain rfl := hp
          have hP : va_P D vwCl [(h0, .inr (2, [.ref h1, .ref h2, .ref h3])), (h1, .inl (cI, 64, .inl (nF T))), (h2, .inl (cI, 64, .inl (nF ((gtS B U2 64).1)))), (h3, .inl (cZ, 64, .inl (nF B)))] H := hP
          have hD : va_D A [(h0, .inr (2, [.ref h1, .ref h2, .ref h3])), (h1, .inl (cI, 64, .inl (nF T))), (h2, .inl (cI, 64, .inl (nF ((gtS B U2 64).1)))), (h3, .inl (cZ, 64, .inl (nF B)))] := hD
          refine lv_istore_n (lv' := [(2, .int (nI ((gtS B U2 64).2))), (0, .ref h0), (1, .int (nI g0))]) hx hb dX2_smooth_18 rfl hl (by decide) rfl (fun ls hl => ?_)
          refine lv_iinc (v := nI (g0 + 1)) (lv' := [(1, .int (nI (g0 + 1))), (2, .int (nI ((gtS B U2 64).2))), (0, .ref h0)]) hx hb dX2_smooth_19 hl (k := 2) rfl (by exact nI_add _ 1) (by decide) rfl (fun ls hl => ?_)
          refine lv_goto (tgt := 4) hx hb dX2_smooth_22 (by decide) ?_
          exact ih4 (g0 + 1) ((gtS B U2 64).1) ((gtS B U2 64).2) (by omega) (by omega) (by rw [hU2]; rfl) (gtS_flag 64) (fun q => by rw [← hy (by assumption), show 20 - g0 = (20 - (g0 + 1)) + 1 by omega, evN_no (by rw [← hU2]; exact q)]) (fun q => by rw [← hy (by assumption), show 20 - g0 = (20 - (g0 + 1)) + 1 by omega, evN_yes (by rw [← hU2]; exact q)]) _ _ _ hP hD hS (lv_sub hl [2, 0, 1] rfl)
  exact L4 (20 + 1) 0 U 1 (by omega) (by omega) rfl (by omega) (fun _ => rfl) (fun q => absurd q (by decide)) _ _ _ hP hD hS (lv_sub hl [2, 1, 0] rfl)
end
section
/-! ===== STROKES, TIED ones, PATHS ===== -/
/-- NONE is kept as 64 -/
def rI (d : Nat) : Int32 := if d = 64 then (-1) else nI d
theorem rI_some {d : Nat} (h : ¬ d = 64) : rI d = nI d := if_neg h
theorem rI_none : rI 64 = -1 := rfl
theorem rI_eq {d : Nat} (h : d ≤ 64) : rI d = -1 ↔ d = 64 := by
  unfold rI
  by_cases e : d = 64
  · simp [e]
  · rw [if_neg e]
    constructor
    · intro q
      rw [i_eq, nI_T (by omega), show (-1 : Int32).toInt = -1 by decide] at q
      omega
    · intro q
      exact absurd q e
def nx (w c : Nat) : Nat := if w = 0 then (if c % 8 < 7 then c + 1 else 64) else if w = 1 then (if c % 8 < 7 ∧ c / 8 < 7 then c + 9 else 64) else if w = 2 then (if c / 8 < 7 then c + 8 else 64) else (if 0 < c % 8 ∧ c / 8 < 7 then c + 7 else 64)
def pv (w c : Nat) : Nat := if w = 0 then (if 0 < c % 8 then c - 1 else 64) else if w = 1 then (if 0 < c % 8 ∧ 0 < c / 8 then c - 9 else 64) else if w = 2 then (if 0 < c / 8 then c - 8 else 64) else (if c % 8 < 7 ∧ 0 < c / 8 then c - 7 else 64)
/-- the places that the class computes -/
def cx (c w : Nat) (d : Int32) : Int32 := nI (c % 8) + d * (stV 3).getD w 0
def cy (c w : Nat) (d : Int32) : Int32 := nI (c / 8) + d * (stV 4).getD w 0
theorem nx_tab : ∀ w : Fin 4, ∀ c : Fin 64, ((okc (cx c.val w.val (nI 1)) (cy c.val w.val (nI 1)) ↔ nx w.val c.val < 64) ∧ nx w.val c.val ≤ 64) ∧ (nx w.val c.val < 64 → cx c.val w.val (nI 1) = nI (nx w.val c.val % 8) ∧ cy c.val w.val (nI 1) = nI (nx w.val c.val / 8)) := by decide +kernel
theorem pv_tab : ∀ w : Fin 4, ∀ c : Fin 64, ((okc (cx c.val w.val (-1)) (cy c.val w.val (-1)) ↔ pv w.val c.val < 64) ∧ pv w.val c.val ≤ 64) ∧ (pv w.val c.val < 64 → cx c.val w.val (-1) = nI (pv w.val c.val % 8) ∧ cy c.val w.val (-1) = nI (pv w.val c.val / 8)) := by decide +kernel
theorem nx_of {w c : Nat} (hw : w < 4) (hc : c < 64) : ((okc (cx c w (nI 1)) (cy c w (nI 1)) ↔ nx w c < 64) ∧ nx w c ≤ 64) ∧ (nx w c < 64 → cx c w (nI 1) = nI (nx w c % 8) ∧ cy c w (nI 1) = nI (nx w c / 8)) := nx_tab ⟨w, hw⟩ ⟨c, hc⟩
theorem pv_of {w c : Nat} (hw : w < 4) (hc : c < 64) : ((okc (cx c w (-1)) (cy c w (-1)) ↔ pv w c < 64) ∧ pv w c ≤ 64) ∧ (pv w c < 64 → cx c w (-1) = nI (pv w c % 8) ∧ cy c w (-1) = nI (pv w c / 8)) := pv_tab ⟨w, hw⟩ ⟨c, hc⟩
theorem nx_cases {w c : Nat} (h : nx w c < 64) : (w = 0 ∧ c % 8 < 7 ∧ nx w c = c + 1) ∨ (w = 1 ∧ c % 8 < 7 ∧ c / 8 < 7 ∧ nx w c = c + 9) ∨ (w = 2 ∧ c / 8 < 7 ∧ nx w c = c + 8) ∨ (2 < w ∧ 0 < c % 8 ∧ c / 8 < 7 ∧ nx w c = c + 7) := by
  unfold nx at h ⊢
  by_cases w0 : w = 0
  · rw [if_pos w0] at h ⊢
    by_cases z : c % 8 < 7
    · rw [if_pos z]; exact Or.inl ⟨w0, z, rfl⟩
    · rw [if_neg z] at h; omega
  · rw [if_neg w0] at h ⊢
    by_cases w1 : w = 1
    · rw [if_pos w1] at h ⊢
      by_cases z : c % 8 < 7 ∧ c / 8 < 7
      · rw [if_pos z]; exact Or.inr (Or.inl ⟨w1, z.1, z.2, rfl⟩)
      · rw [if_neg z] at h; omega
    · rw [if_neg w1] at h ⊢
      by_cases w2 : w = 2
      · rw [if_pos w2] at h ⊢
        by_cases z : c / 8 < 7
        · rw [if_pos z]; exact Or.inr (Or.inr (Or.inl ⟨w2, z, rfl⟩))
        · rw [if_neg z] at h; omega
      · rw [if_neg w2] at h ⊢
        by_cases z : 0 < c % 8 ∧ c / 8 < 7
        · rw [if_pos z]; exact Or.inr (Or.inr (Or.inr ⟨by omega, z.1, z.2, rfl⟩))
        · rw [if_neg z] at h; omega
theorem pv_cases {w c : Nat} (h : pv w c < 64) : (w = 0 ∧ 0 < c % 8 ∧ pv w c = c - 1) ∨ (w = 1 ∧ 0 < c % 8 ∧ 0 < c / 8 ∧ pv w c = c - 9) ∨ (w = 2 ∧ 0 < c / 8 ∧ pv w c = c - 8) ∨ (2 < w ∧ c % 8 < 7 ∧ 0 < c / 8 ∧ pv w c = c - 7) := by
  unfold pv at h ⊢
  by_cases w0 : w = 0
  · rw [if_pos w0] at h ⊢
    by_cases z : 0 < c % 8
    · rw [if_pos z]; exact Or.inl ⟨w0, z, rfl⟩
    · rw [if_neg z] at h; omega
  · rw [if_neg w0] at h ⊢
    by_cases w1 : w = 1
    · rw [if_pos w1] at h ⊢
      by_cases z : 0 < c % 8 ∧ 0 < c / 8
      · rw [if_pos z]; exact Or.inr (Or.inl ⟨w1, z.1, z.2, rfl⟩)
      · rw [if_neg z] at h; omega
    · rw [if_neg w1] at h ⊢
      by_cases w2 : w = 2
      · rw [if_pos w2] at h ⊢
        by_cases z : 0 < c / 8
        · rw [if_pos z]; exact Or.inr (Or.inr (Or.inl ⟨w2, z, rfl⟩))
        · rw [if_neg z] at h; omega
      · rw [if_neg w2] at h ⊢
        by_cases z : c % 8 < 7 ∧ 0 < c / 8
        · rw [if_pos z]; exact Or.inr (Or.inr (Or.inr ⟨by omega, z.1, z.2, rfl⟩))
        · rw [if_neg z] at h; omega
theorem nx_pv {w c : Nat} (hc : c < 64) (h : nx w c < 64) : pv w (nx w c) = c := by
  rcases nx_cases h with ⟨w0, z, e⟩ | ⟨w0, z, z2, e⟩ | ⟨w0, z, e⟩ | ⟨w0, z, z2, e⟩
  · rw [e]; unfold pv; rw [if_pos w0, if_pos (by omega)]; omega
  · rw [e]; unfold pv; rw [if_neg (by omega), if_pos w0, if_pos (by omega)]; omega
  · rw [e]; unfold pv; rw [if_neg (by omega), if_neg (by omega), if_pos w0, if_pos (by omega)]; omega
  · rw [e]; unfold pv; rw [if_neg (by omega), if_neg (by omega), if_neg (by omega), if_pos (by omega)]; omega
theorem pv_nx {w c : Nat} (hc : c < 64) (h : pv w c < 64) : nx w (pv w c) = c := by
  rcases pv_cases h with ⟨w0, z, e⟩ | ⟨w0, z, z2, e⟩ | ⟨w0, z, e⟩ | ⟨w0, z, z2, e⟩
  · rw [e]; unfold nx; rw [if_pos w0, if_pos (by omega)]; omega
  · rw [e]; unfold nx; rw [if_neg (by omega), if_pos w0, if_pos (by omega)]; omega
  · rw [e]; unfold nx; rw [if_neg (by omega), if_neg (by omega), if_pos w0, if_pos (by omega)]; omega
  · rw [e]; unfold nx; rw [if_neg (by omega), if_neg (by omega), if_neg (by omega), if_pos (by omega)]; omega
/-- the STROKE that c is TIED to, on and back; 64: none -/
def tn (P Y : Nat → Nat) (c : Nat) : Nat := if nx (Y c) c < 64 ∧ ¬ P (nx (Y c) c) = 0 ∧ Y (nx (Y c) c) = Y c then nx (Y c) c else 64
def tp (P Y : Nat → Nat) (c : Nat) : Nat := if pv (Y c) c < 64 ∧ ¬ P (pv (Y c) c) = 0 ∧ Y (pv (Y c) c) = Y c then pv (Y c) c else 64
theorem tn_le (P Y : Nat → Nat) (c : Nat) : tn P Y c ≤ 64 := by unfold tn; split <;> omega
theorem tp_le (P Y : Nat → Nat) (c : Nat) : tp P Y c ≤ 64 := by unfold tp; split <;> omega
theorem tn_some {P Y : Nat → Nat} {c : Nat} (hc : c < 64) (hP : ¬ P c = 0) (h : tn P Y c < 64) : ¬ P (tn P Y c) = 0 ∧ Y (tn P Y c) = Y c ∧ tn P Y c = nx (Y c) c ∧ tp P Y (tn P Y c) = c := by
  unfold tn at h ⊢
  split at h
  · rename_i q
    rw [if_pos q]
    refine ⟨q.2.1, q.2.2, rfl, ?_⟩
    unfold tp
    rw [q.2.2, nx_pv hc q.1, if_pos ⟨hc, hP, rfl⟩]
  · omega
theorem tp_some {P Y : Nat → Nat} {c : Nat} (hc : c < 64) (hP : ¬ P c = 0) (h : tp P Y c < 64) : ¬ P (tp P Y c) = 0 ∧ Y (tp P Y c) = Y c ∧ tp P Y c = pv (Y c) c ∧ tn P Y (tp P Y c) = c := by
  unfold tp at h ⊢
  split at h
  · rename_i q
    rw [if_pos q]
    refine ⟨q.2.1, q.2.2, rfl, ?_⟩
    unfold tn
    rw [q.2.2, pv_nx hc q.1, if_pos ⟨hc, hP, rfl⟩]
  · omega
/-- how far a cell is along a WAY -/
def ps (w c : Nat) : Nat := if w = 0 then c % 8 else c / 8
theorem ps_le (w c : Nat) (hc : c < 64) : ps w c ≤ 7 := by unfold ps; split <;> omega
theorem ps_nx {w c : Nat} (hc : c < 64) (h : nx w c < 64) : ps w (nx w c) = ps w c + 1 := by
  rcases nx_cases h with ⟨w0, z, e⟩ | ⟨w0, z, z2, e⟩ | ⟨w0, z, e⟩ | ⟨w0, z, z2, e⟩
  · rw [e]; unfold ps; rw [if_pos w0, if_pos w0]; omega
  · rw [e]; unfold ps; rw [if_neg (by omega), if_neg (by omega)]; omega
  · rw [e]; unfold ps; rw [if_neg (by omega), if_neg (by omega)]; omega
  · rw [e]; unfold ps; rw [if_neg (by omega), if_neg (by omega)]; omega
/-- the i-th STROKE behind c -/
def ch (P Y : Nat → Nat) (c : Nat) : Nat → Nat
  | 0 => c
  | i + 1 => tn P Y (ch P Y c i)
theorem ch_shift (P Y : Nat → Nat) (c : Nat) : ∀ i, ch P Y c (i + 1) = ch P Y (tn P Y c) i
  | 0 => rfl
  | i + 1 => by rw [ch, ch_shift P Y c i]; rfl
/-- how many STROKES a PATH from c has -/
def lnf (P Y : Nat → Nat) : Nat → Nat → Nat
  | 0, _ => 1
  | f + 1, c => if tn P Y c = 64 then 1 else lnf P Y f (tn P Y c) + 1
def ln (P Y : Nat → Nat) (c : Nat) : Nat := lnf P Y 8 c
theorem lnf_spec (P Y : Nat → Nat) : ∀ (f c : Nat), c < 64 → ¬ P c = 0 → 7 - ps (Y c) c < f → 1 ≤ lnf P Y f c ∧ lnf P Y f c + ps (Y c) c ≤ 8 ∧ tn P Y (ch P Y c (lnf P Y f c - 1)) = 64 ∧ ∀ i, i < lnf P Y f c → ch P Y c i < 64 ∧ ¬ P (ch P Y c i) = 0 ∧ Y (ch P Y c i) = Y c ∧ ps (Y c) (ch P Y c i) = ps (Y c) c + i
  | 0, c, _, _, h => absurd h (by omega)
  | f + 1, c, hc, hP, h => by
    have hps := ps_le (Y c) c hc
    by_cases e : tn P Y c = 64
    · have e1 : lnf P Y (f + 1) c = 1 := by rw [lnf, if_pos e]
      rw [e1]
      refine ⟨by omega, by omega, e, fun i hi => ?_⟩
      rw [show i = 0 by omega]
      exact ⟨hc, hP, rfl, rfl⟩
    · have hl := tn_le P Y c
      obtain ⟨h1, h2, h3, h4⟩ := tn_some hc hP (show tn P Y c < 64 by omega)
      have h5 : ps (Y c) (tn P Y c) = ps (Y c) c + 1 := by rw [h3]; exact ps_nx hc (by omega)
      have h6 := ps_le (Y c) (tn P Y c) (by omega)
      have ih := lnf_spec P Y f (tn P Y c) (by omega) h1 (by rw [h2]; omega)
      rw [h2] at ih
      have e1 : lnf P Y (f + 1) c = lnf P Y f (tn P Y c) + 1 := by rw [lnf, if_neg e]
      rw [e1]
      obtain ⟨i1, i2, i3, i4⟩ := ih
      refine ⟨by omega, by omega, ?_, fun i hi => ?_⟩
      · rw [show lnf P Y f (tn P Y c) + 1 - 1 = (lnf P Y f (tn P Y c) - 1) + 1 by omega, ch_shift]
        exact i3
      · cases i with
        | zero => exact ⟨hc, hP, rfl, rfl⟩
        | succ i =>
          rw [ch_shift]
          obtain ⟨a, b, d, g⟩ := i4 i (by omega)
          exact ⟨a, b, d, by omega⟩
theorem ln_spec {P Y : Nat → Nat} {c : Nat} (hc : c < 64) (hP : ¬ P c = 0) : 1 ≤ ln P Y c ∧ ln P Y c ≤ 8 ∧ tn P Y (ch P Y c (ln P Y c - 1)) = 64 ∧ ∀ i, i < ln P Y c → ch P Y c i < 64 ∧ ¬ P (ch P Y c i) = 0 ∧ Y (ch P Y c i) = Y c ∧ ps (Y c) (ch P Y c i) = ps (Y c) c + i := by
  obtain ⟨h1, h2, h3, h4⟩ := lnf_spec P Y 8 c hc hP (by omega)
  exact ⟨h1, by unfold ln; omega, h3, h4⟩
/-- a PATH begins at c -/
def bgn (P Y : Nat → Nat) (c : Nat) : Prop := ¬ P c = 0 ∧ tp P Y c = 64
theorem ch_back {P Y : Nat → Nat} {c : Nat} (hc : c < 64) (hP : ¬ P c = 0) {i : Nat} (hi : i + 1 < ln P Y c) : tp P Y (ch P Y c (i + 1)) = ch P Y c i := by
  obtain ⟨h1, h2, h3, h4⟩ := ln_spec (Y := Y) hc hP
  obtain ⟨a, b, d, g⟩ := h4 i (by omega)
  obtain ⟨a2, b2, d2, g2⟩ := h4 (i + 1) hi
  exact (tn_some a b (show tn P Y (ch P Y c i) < 64 from a2)).2.2.2
theorem ch_inj {P Y : Nat → Nat} {c : Nat} (hc : c < 64) (hP : ¬ P c = 0) {i j : Nat} (hi : i < ln P Y c) (hj : j < ln P Y c) (h : ch P Y c i = ch P Y c j) : i = j := by
  obtain ⟨h1, h2, h3, h4⟩ := ln_spec (Y := Y) hc hP
  have a := (h4 i hi).2.2.2
  have b := (h4 j hj).2.2.2
  rw [h] at a
  omega
/-- two PATHS have no STROKE in common -/
theorem ch_apart {P Y : Nat → Nat} {c d : Nat} (hc : c < 64) (hd : d < 64) (hb : bgn P Y c) (hb2 : bgn P Y d) : ∀ (i j : Nat), i < ln P Y c → j < ln P Y d → ch P Y c i = ch P Y d j → c = d
  | 0, 0, _, _, h => h
  | 0, j + 1, hi, hj, h => by
    have h1 := ch_back hd hb2.1 hj
    rw [← h] at h1
    have h2 : tp P Y c = 64 := hb.2
    have h3 := ((ln_spec (Y := Y) hd hb2.1).2.2.2 j (by omega)).1
    have h4 : tp P Y (ch P Y c 0) = tp P Y c := rfl
    omega
  | i + 1, 0, hi, hj, h => by
    have h1 := ch_back hc hb.1 hi
    rw [h] at h1
    have h2 : tp P Y d = 64 := hb2.2
    have h3 := ((ln_spec (Y := Y) hc hb.1).2.2.2 i (by omega)).1
    have h4 : tp P Y (ch P Y d 0) = tp P Y d := rfl
    omega
  | i + 1, j + 1, hi, hj, h => by
    refine ch_apart hc hd hb hb2 i j (by omega) (by omega) ?_
    rw [← ch_back hc hb.1 hi, ← ch_back hd hb2.1 hj, h]
/-- every STROKE lies on a PATH -/
theorem ch_cover {P Y : Nat → Nat} : ∀ (n d : Nat), d < 64 → ¬ P d = 0 → ps (Y d) d < n → ∃ c i, c < 64 ∧ bgn P Y c ∧ i < ln P Y c ∧ ch P Y c i = d
  | 0, d, _, _, h => absurd h (by omega)
  | n + 1, d, hd, hP, h => by
    by_cases e : tp P Y d = 64
    · exact ⟨d, 0, hd, ⟨hP, e⟩, (ln_spec (Y := Y) hd hP).1, rfl⟩
    · have hl := tp_le P Y d
      obtain ⟨h1, h2, h3, h4⟩ := tp_some hd hP (show tp P Y d < 64 by omega)
      have h5 : ps (Y d) d = ps (Y d) (tp P Y d) + 1 := by
        have := ps_nx (w := Y d) (c := tp P Y d) (by omega) (by rw [h3, pv_nx hd (by omega)]; exact hd)
        rw [h3, pv_nx hd (by omega), ← h3] at this
        exact this
      obtain ⟨c, i, c1, c2, c3, c4⟩ := ch_cover (P := P) (Y := Y) n (tp P Y d) (by omega) h1 (by rw [h2]; omega)
      refine ⟨c, i + 1, c1, c2, ?_, by rw [ch, c4, h4]⟩
      obtain ⟨k1, k2, k3, k4⟩ := ln_spec (Y := Y) c1 c2.1
      rcases Nat.lt_or_ge (i + 1) (ln P Y c) with q | q
      · exact q
      · rw [show ln P Y c - 1 = i by omega, c4, h4] at k3
        omega
theorem cover {P Y : Nat → Nat} {d : Nat} (hd : d < 64) (hP : ¬ P d = 0) : ∃ c i, c < 64 ∧ bgn P Y c ∧ i < ln P Y c ∧ ch P Y c i = d := ch_cover 8 d hd hP (by have := ps_le (Y d) d hd; omega)
/-- a PATH goes straight -/
theorem ch_line {P Y : Nat → Nat} {c : Nat} (hc : c < 64) (hP : ¬ P c = 0) (hY : Y c < 4) : ∀ i, i < ln P Y c → (Y c = 0 → ch P Y c i % 8 = c % 8 + i ∧ ch P Y c i / 8 = c / 8) ∧ (Y c = 1 → ch P Y c i % 8 = c % 8 + i ∧ ch P Y c i / 8 = c / 8 + i) ∧ (Y c = 2 → ch P Y c i % 8 = c % 8 ∧ ch P Y c i / 8 = c / 8 + i) ∧ (Y c = 3 → ch P Y c i % 8 + i = c % 8 ∧ ch P Y c i / 8 = c / 8 + i)
  | 0, _ => by simp [ch]
  | i + 1, hi => by
    obtain ⟨h1, h2, h3, h4⟩ := ln_spec (Y := Y) hc hP
    have ih := ch_line hc hP hY i (by omega)
    obtain ⟨a, b, d, g⟩ := h4 i (by omega)
    obtain ⟨a2, b2, d2, g2⟩ := h4 (i + 1) hi
    have e := (tn_some a b (show tn P Y (ch P Y c i) < 64 from a2)).2.2.1
    have e2 : ch P Y c (i + 1) = nx (Y c) (ch P Y c i) := by rw [← d]; exact e
    rw [e2] at a2 ⊢
    rcases nx_cases a2 with ⟨w0, z, e3⟩ | ⟨w0, z, z2, e3⟩ | ⟨w0, z, e3⟩ | ⟨w0, z, z2, e3⟩
    · have ih := ih.1 w0
      rw [e3]
      exact ⟨fun _ => by omega, fun q => by omega, fun q => by omega, fun q => by omega⟩
    · have ih := ih.2.1 w0
      rw [e3]
      exact ⟨fun q => by omega, fun _ => by omega, fun q => by omega, fun q => by omega⟩
    · have ih := ih.2.2.1 w0
      rw [e3]
      exact ⟨fun q => by omega, fun q => by omega, fun _ => by omega, fun q => by omega⟩
    · have ih := ih.2.2.2 (by omega)
      rw [e3]
      exact ⟨fun q => by omega, fun q => by omega, fun q => by omega, fun _ => by omega⟩
theorem ch_fr {P Y : Nat → Nat} {c : Nat} (hc : c < 64) (hP : ¬ P c = 0) (hY : Y c < 4) {i : Nat} (hi : i < ln P Y c) : fr c (ch P Y c i) = i := by
  obtain ⟨l0, l1, l2, l3⟩ := ch_line hc hP hY i hi
  unfold fr nd
  rcases (show Y c = 0 ∨ Y c = 1 ∨ Y c = 2 ∨ Y c = 3 by omega) with q | q | q | q
  · have := l0 q; omega
  · have := l1 q; omega
  · have := l2 q; omega
  · have := l3 q; omega
/-- WIDTHS along a row: each within sw of the one before it -/
def le1 (V : Nat → Nat) (sw : Nat) (q : Nat → Nat) : Nat → Nat
  | 0 => V (q 0)
  | i + 1 => min (V (q (i + 1))) (le1 V sw q i + sw)
/-- WIDTHS of a PATH once gone on -/
def fw (P Y : Nat → Nat) (sw c : Nat) : Nat → Nat := le1 P sw (ch P Y c)
/-- .. and once back: the i-th from the last -/
def bk (P Y : Nat → Nat) (sw c : Nat) : Nat → Nat
  | 0 => fw P Y sw c (ln P Y c - 1)
  | i + 1 => min (fw P Y sw c (ln P Y c - 1 - (i + 1))) (bk P Y sw c i + sw)
/-- the greatest of the first n -/
def mxf (e : Nat → Nat) : Nat → Nat
  | 0 => 0
  | n + 1 => max (mxf e n) (e n)
theorem mxf_cong {e g : Nat → Nat} : ∀ {n : Nat}, (∀ i, i < n → e i = g i) → mxf e n = mxf g n
  | 0, _ => rfl
  | n + 1, h => by rw [mxf, mxf, mxf_cong (fun i hi => h i (by omega)), h n (by omega)]
/-- the WIDTH of the i-th STROKE of the PATH from c -/
def wdt (P Y : Nat → Nat) (sw c i : Nat) : Nat := bk P Y sw c (ln P Y c - 1 - i)
/-- how many of 0 .. n - 1 are so -/
def cb (p : Nat → Bool) : Nat → Nat
  | 0 => 0
  | n + 1 => cb p n + if p n then 1 else 0
theorem cb_yes {p : Nat → Bool} {n : Nat} (h : p n = true) : cb p (n + 1) = cb p n + 1 := by rw [cb, if_pos h]
theorem cb_no {p : Nat → Bool} {n : Nat} (h : ¬ p n = true) : cb p (n + 1) = cb p n := by rw [cb, if_neg h]; rfl
theorem cb_le (p : Nat → Bool) : ∀ n, cb p n ≤ n
  | 0 => Nat.le_refl 0
  | n + 1 => by
    have := cb_le p n
    rw [cb]
    split <;> omega
theorem cb_mono (p : Nat → Bool) : ∀ {a b : Nat}, a ≤ b → cb p a ≤ cb p b
  | a, 0, h => by rw [show a = 0 by omega]; exact Nat.le_refl _
  | a, b + 1, h => by
    rcases Nat.lt_or_ge a (b + 1) with q | q
    · have := cb_mono p (show a ≤ b by omega)
      rw [cb]
      omega
    · rw [show a = b + 1 by omega]; exact Nat.le_refl _
theorem cb_lt {p : Nat → Bool} {a b : Nat} (h : a < b) (hp : p a = true) : cb p a < cb p b := by
  have := cb_mono p (show a + 1 ≤ b by omega)
  rw [cb_yes hp] at this
  omega
theorem cb_one {p : Nat → Bool} {a b : Nat} (ha : p a = true) (hb : p b = true) (h : cb p a = cb p b) : a = b := by
  rcases Nat.lt_or_ge a b with q | q
  · have := cb_lt q ha; omega
  · rcases Nat.lt_or_ge b a with r | r
    · have := cb_lt r hb; omega
    · omega
theorem cb_kth {p : Nat → Bool} {k : Nat} : ∀ {n : Nat}, k < cb p n → ∃ i, i < n ∧ p i = true ∧ cb p i = k
  | 0, h => absurd h (by simp [cb])
  | n + 1, h => by
    rcases Nat.lt_or_ge k (cb p n) with q | q
    · obtain ⟨i, h1, h2⟩ := cb_kth q
      exact ⟨i, by omega, h2⟩
    · by_cases e : p n = true
      · rw [cb_yes e] at h
        exact ⟨n, by omega, e, by omega⟩
      · rw [cb_no e] at h
        omega
theorem cb_cong {p q : Nat → Bool} : ∀ {n : Nat}, (∀ i, i < n → p i = q i) → cb p n = cb q n
  | 0, _ => rfl
  | n + 1, h => by rw [cb, cb, cb_cong (fun i hi => h i (by omega)), h n (by omega)]
end
section
/-! ===== what a LAYER holds, cell by cell, while it is drawn ===== -/
def shr (G : Nat → Nat) (t ly : Nat) : Nat := if ly = 0 then min t (G 1) else t - min t (G 1)
/-- the WIDTH wanted for a TONE in a LAYER -/
def wd (G : Nat → Nat) (t ly : Nat) : Nat := if G 0 * shr G t ly / 100 < G 2 then 0 else G 0 * shr G t ly / 100
theorem shr_le {G : Nat → Nat} {t ly : Nat} (ht : t ≤ 100) : shr G t ly ≤ 100 := by unfold shr; split <;> omega
theorem wd_le {G : Nat → Nat} {t ly : Nat} (hG : ∀ k, G k ≤ 100) (ht : t ≤ 100) : wd G t ly ≤ 100 := by
  have := Nat.mul_le_mul (hG 0) (shr_le (G := G) (ly := ly) ht)
  unfold wd
  split <;> omega
/-- the WAY of a TURN in a LAYER -/
def wy (ly u : Nat) : Nat := (u + 4 * ly) % 8 / 2
theorem wy_lt (ly u : Nat) : wy ly u < 4 := by unfold wy; omega
def bgb (p y : Nat → Nat) (c : Nat) : Bool := decide (¬ p c = 0 ∧ tp p y c = 64)
theorem bgb_iff (p y : Nat → Nat) (c : Nat) : bgb p y c = true ↔ bgn p y c := by unfold bgb bgn; simp
theorem le1_cong {V W : Nat → Nat} {sw : Nat} {q : Nat → Nat} : ∀ {n : Nat}, (∀ i, i ≤ n → V (q i) = W (q i)) → le1 V sw q n = le1 W sw q n
  | 0, h => h 0 (by omega)
  | n + 1, h => by rw [le1, le1, le1_cong (fun i hi => h i (by omega)), h (n + 1) (by omega)]
theorem le1_bk {p y V : Nat → Nat} {sw c : Nat} (h : ∀ i, i < ln p y c → V (ch p y c i) = fw p y sw c i) : ∀ {n : Nat}, n < ln p y c → le1 V sw (fun i => ch p y c (ln p y c - 1 - i)) n = bk p y sw c n
  | 0, hn => by
    show V (ch p y c (ln p y c - 1 - 0)) = _
    rw [h _ (by omega)]
    rfl
  | n + 1, hn => by
    rw [le1, bk, le1_bk h (by omega), h _ (by omega)]
def okP (p y : Nat → Nat) (sw c : Nat) (V : Nat → Nat) : Prop := ∀ j, j < ln p y c → V (ch p y c j) = wdt p y sw c j
def okR (p y : Nat → Nat) (c : Nat) (F L Z : Nat → Nat) : Prop := F (cb (bgb p y) c) = c ∧ L (cb (bgb p y) c) = ch p y c (ln p y c - 1) ∧ Z (cb (bgb p y) c) = ln p y c
def okX (p y : Nat → Nat) (sw c : Nat) (X : Nat → Nat) : Prop := X (cb (bgb p y) c) = mxf (wdt p y sw c) (ln p y c)
/-- the PATHS that begin ahead of cell i are drawn; un: what is there else -/
def LI (p y : Nat → Nat) (sw : Nat) (un : Nat → Nat) (i : Nat) (V F L Z : Nat → Nat) : Prop :=
  (∀ d, d < 64 → (∀ c, c < i → bgn p y c → ∀ j, j < ln p y c → d ≠ ch p y c j) → V d = un d) ∧ ∀ c, c < i → bgn p y c → okP p y sw c V ∧ okR p y c F L Z
theorem LI_0 {p y : Nat → Nat} {sw : Nat} {un V F L Z : Nat → Nat} (h : ∀ d, d < 64 → V d = un d) : LI p y sw un 0 V F L Z := ⟨fun d hd _ => h d hd, fun c hc => absurd hc (by omega)⟩
theorem LI_no {p y : Nat → Nat} {sw i : Nat} {un V F L Z : Nat → Nat} (hb : ¬ bgn p y i) (h : LI p y sw un i V F L Z) : LI p y sw un (i + 1) V F L Z := by
  refine ⟨fun d hd hn => h.1 d hd (fun c hc => hn c (by omega)), fun c hc hbc => h.2 c ?_ hbc⟩
  rcases Nat.lt_or_ge c i with q | q
  · exact q
  · rw [show c = i by omega] at hbc
    exact absurd hbc hb
theorem LI_fresh {p y : Nat → Nat} {sw i : Nat} {un V F L Z : Nat → Nat} (hi : i < 64) (hb : bgn p y i) (h : LI p y sw un i V F L Z) : ∀ j, j < ln p y i → V (ch p y i j) = un (ch p y i j) := by
  intro j hj
  refine h.1 _ ((ln_spec (Y := y) hi hb.1).2.2.2 j hj).1 (fun c hc hbc k hk e => ?_)
  have := ch_apart hi (by omega) hb hbc j k hj hk e
  omega
theorem LI_yes {p y : Nat → Nat} {sw i : Nat} {un V F L Z V2 F2 L2 Z2 : Nat → Nat} (hi : i < 64) (hb : bgn p y i) (h : LI p y sw un i V F L Z) (h1 : okP p y sw i V2) (h2 : ∀ d, (∀ j, j < ln p y i → d ≠ ch p y i j) → V2 d = V d)
    (hF : F2 = va_up F (cb (bgb p y) i) i) (hL : L2 = va_up L (cb (bgb p y) i) (ch p y i (ln p y i - 1))) (hZ : Z2 = va_up Z (cb (bgb p y) i) (ln p y i)) : LI p y sw un (i + 1) V2 F2 L2 Z2 := by
  refine ⟨fun d hd hn => ?_, fun c hc hbc => ?_⟩
  · rw [h2 d (fun j hj => hn i (by omega) hb j hj)]
    exact h.1 d hd (fun c hc => hn c (by omega))
  · rcases Nat.lt_or_ge c i with q | q
    · obtain ⟨a, b1, b2, b3⟩ := h.2 c q hbc
      have hne : cb (bgb p y) c ≠ cb (bgb p y) i := by
        have := cb_lt q ((bgb_iff p y c).mpr hbc)
        omega
      refine ⟨fun j hj => ?_, ?_, ?_, ?_⟩
      · rw [h2 _ (fun k hk e => ?_)]
        · exact a j hj
        · have := ch_apart (by omega) hi hbc hb j k hj hk e
          omega
      · rw [hF, up_n _ _ hne]; exact b1
      · rw [hL, up_n _ _ hne]; exact b2
      · rw [hZ, up_n _ _ hne]; exact b3
    · rw [show c = i by omega]
      refine ⟨h1, ?_, ?_, ?_⟩
      · rw [hF, up_s]
      · rw [hL, up_s]
      · rw [hZ, up_s]
theorem X_yes {p y : Nat → Nat} {sw i : Nat} {X X2 : Nat → Nat} (h : ∀ c, c < i → bgn p y c → okX p y sw c X) (hX : X2 = va_up X (cb (bgb p y) i) (mxf (wdt p y sw i) (ln p y i))) : ∀ c, c < i + 1 → bgn p y c → okX p y sw c X2 := by
  intro c hc hbc
  unfold okX
  rcases Nat.lt_or_ge c i with q | q
  · have := cb_lt q ((bgb_iff p y c).mpr hbc)
    rw [hX, up_n _ _ (by omega)]
    exact h c q hbc
  · rw [show c = i by omega, hX, up_s]
theorem X_no {p y : Nat → Nat} {sw i : Nat} {X : Nat → Nat} (hb : ¬ bgn p y i) (h : ∀ c, c < i → bgn p y c → okX p y sw c X) : ∀ c, c < i + 1 → bgn p y c → okX p y sw c X := by
  intro c hc hbc
  rcases Nat.lt_or_ge c i with q | q
  · exact h c q hbc
  · rw [show c = i by omega] at hbc
    exact absurd hbc hb
/-- a LAYER that is drawn -/
def LD (p y : Nat → Nat) (sw : Nat) (V F L Z : Nat → Nat) : Prop := (∀ d, d < 64 → p d = 0 → V d = 0) ∧ ∀ c, c < 64 → bgn p y c → okP p y sw c V ∧ okR p y c F L Z
theorem LI_end {p y : Nat → Nat} {sw : Nat} {un V F L Z : Nat → Nat} (hu : ∀ d, d < 64 → p d = 0 → un d = 0) (h : LI p y sw un 64 V F L Z) : LD p y sw V F L Z := by
  refine ⟨fun d hd hp => ?_, h.2⟩
  rw [h.1 d hd (fun c hc hbc j hj e => ?_)]
  · exact hu d hd hp
  · have := ((ln_spec (Y := y) hc hbc.1).2.2.2 j hj).2.1
    rw [← e] at this
    exact this hp
/-- two drawings of one LAYER have the same WIDTHS -/
theorem LD_eq {p y : Nat → Nat} {sw : Nat} {V F L Z V2 F2 L2 Z2 : Nat → Nat} (h : LD p y sw V F L Z) (h2 : LD p y sw V2 F2 L2 Z2) {d : Nat} (hd : d < 64) : V d = V2 d := by
  by_cases e : p d = 0
  · rw [h.1 d hd e, h2.1 d hd e]
  · obtain ⟨c, i, c1, c2, c3, c4⟩ := cover (Y := y) hd e
    rw [← c4, (h.2 c c1 c2).1 i c3, (h2.2 c c1 c2).1 i c3]
/-- a PATH by its number -/
theorem LD_path {p y : Nat → Nat} {k : Nat} (hk : k < cb (bgb p y) 64) : ∃ c, c < 64 ∧ bgn p y c ∧ cb (bgb p y) c = k := by
  obtain ⟨i, h1, h2, h3⟩ := cb_kth hk
  exact ⟨i, h1, (bgb_iff p y i).mp h2, h3⟩
theorem fw_le {p y : Nat → Nat} {sw c i : Nat} : fw p y sw c i ≤ p (ch p y c i) := by
  unfold fw
  cases i with
  | zero => exact Nat.le_refl _
  | succ i => rw [le1]; exact Nat.min_le_left _ _
theorem le1_le {V : Nat → Nat} {sw : Nat} {q : Nat → Nat} : ∀ i, le1 V sw q i ≤ V (q i)
  | 0 => Nat.le_refl _
  | i + 1 => by rw [le1]; exact Nat.min_le_left _ _
theorem bk_le {p y : Nat → Nat} {sw c : Nat} (hp : ∀ k, p k ≤ 100) : ∀ i, bk p y sw c i ≤ 100
  | 0 => Nat.le_trans fw_le (hp _)
  | i + 1 => by rw [bk]; exact Nat.le_trans (Nat.min_le_left _ _) (Nat.le_trans fw_le (hp _))
theorem wdt_le {p y : Nat → Nat} {sw c i : Nat} (hp : ∀ k, p k ≤ 100) : wdt p y sw c i ≤ 100 := bk_le hp _
theorem LD_le {p y : Nat → Nat} {sw : Nat} {V F L Z : Nat → Nat} (hp : ∀ k, p k ≤ 100) (h : LD p y sw V F L Z) {d : Nat} (hd : d < 64) : V d ≤ 100 := by
  by_cases e : p d = 0
  · rw [h.1 d hd e]; omega
  · obtain ⟨c, i, c1, c2, c3, c4⟩ := cover (Y := y) hd e
    rw [← c4, (h.2 c c1 c2).1 i c3]
    exact wdt_le hp
theorem mxf_le {e : Nat → Nat} {b : Nat} : ∀ {n : Nat}, (∀ i, i < n → e i ≤ b) → mxf e n ≤ b
  | 0, _ => Nat.zero_le _
  | n + 1, h => by
    have h1 := mxf_le (e := e) (b := b) (n := n) (fun i hi => h i (by omega))
    have h2 := h n (by omega)
    rw [mxf]
    omega
section NVR
variable {p : Program} {l : Launch} {e : Env} {R : Room} {s : State} {m : MethodId} {args : Array Value} {below : List Frame} {meth : Method} {c : Code} {H : Heap} {locs : List Loc} {cells slots : Nat} {Q : State → Prop}
variable {cc : ByteArray} {pc : Nat} {ls : Array Slot} {rest : List Value}
theorem nv_rne (hx : p.tables.exec = Jvm.exec) (hb : c.code = cc) {d : Nat} {off : Int} {tgt : Nat} (hdg : decode cc pc = .ok (.if_icmp .ne off, 3)) (ht : (pc : Int) + off = (tgt : Int)) (hd : d ≤ 64) (kt : ¬ d = 64 → W p l e R s m args below meth c H locs cells slots Q (F0 m tgt ls rest)) (kf : d = 64 → W p l e R s m args below meth c H locs cells slots Q (F0 m (pc + 3) ls rest)) : W p l e R s m args below meth c H locs cells slots Q (F0 m pc ls (.int (-1) :: .int (rI d) :: rest)) := lv_icmp_ne hx hb hdg ht (fun h => kt (fun q => h ((rI_eq hd).mpr q))) (fun h => kf ((rI_eq hd).mp h))
theorem nv_req (hx : p.tables.exec = Jvm.exec) (hb : c.code = cc) {d : Nat} {off : Int} {tgt : Nat} (hdg : decode cc pc = .ok (.if_icmp .eq off, 3)) (ht : (pc : Int) + off = (tgt : Int)) (hd : d ≤ 64) (kt : d = 64 → W p l e R s m args below meth c H locs cells slots Q (F0 m tgt ls rest)) (kf : ¬ d = 64 → W p l e R s m args below meth c H locs cells slots Q (F0 m (pc + 3) ls rest)) : W p l e R s m args below meth c H locs cells slots Q (F0 m pc ls (.int (-1) :: .int (rI d) :: rest)) := lv_icmp_eq hx hb hdg ht (fun h => kt ((rI_eq hd).mp h)) (fun h => kf (fun q => h ((rI_eq hd).mpr q)))
end NVR
end
section
set_option maxHeartbeats 4000000 in
set_option maxRecDepth 100000 in
theorem c_X3_widthFor (l : Launch) (D : va_G) (cI cZ : ClassId) (tt : Nat → Nat) (sz : Nat) (g0 g1 : Nat) (G : Nat → Nat) (t ly : Nat) (hGs : ∀ k, G k ≤ 100) (ht : t ≤ 100) (hly : ly < 2) : MI l yX3_widthFor wsX3_widthFor ({ frames := 1, cells := 0, slots := 0, locals := 21 } : Room) D cI cZ tt [.ref g0, .int (nI t), .int (nI ly)] [(g0, .inr (3, [.ref g1])), (g1, .inl (cI, 4, .inl (nF G)))] sz (fun (r : Int32) (_ : Unit) => r = nI (wd G t ly)) (fun (_ : Unit) => [(g0, .inr (3, [.ref g1])), (g1, .inl (cI, 4, .inl (nF G)))]) := by
  refine entI (cc := cX3_widthFor) 6 (by decide) rfl (Nat.le_of_ble_eq_true rfl) (Or.inl rfl) (fun pr e s m args below meth c0 A Q H ls hx hb hml hown hts hsz hA hP hK hD hS hG hret hl => ?_)
  have hown : s.vm.findClass RX3 = some m.cls := hown
  have lk1 := hts (.fieldLink RX3 9 "BurinLines$Tool" "settings" "[I") (by decide +kernel)
  have lk2 := hts (.methodLink RX3 21 Lib.Math.min.name) (by decide +kernel)
  have lk3 := hts (.static Lib.Math.min.name) (by decide +kernel)
  have lk4 := hts (.initialized "java/lang/Math") (by decide +kernel)
  have lk5 := hts (.code Lib.Math.min.name Lib.Math.min.code 2 (some .int)) (by decide +kernel)
  have hinX3 : ∀ w ∈ wsX30, w ∈ wsX3_widthFor := by decide +kernel
  have hl : lv_has ls 6 [(0, .ref g0), (1, .int (nI t)), (2, .int (nI ly))] := hl
  refine lv_iload_n hx hb dX3_widthFor_0 rfl (lv_at hl 1 rfl) ?_
  refine lv_aload_n hx hb dX3_widthFor_1 rfl (lv_at hl 0 rfl) ?_
  refine va_get (D := D) (ci := 3) (v := .ref g1) (C := RX3) (T := TX3) (N := 1) hx hb hts hinX3 hown hK hP 0 rfl rfl 0 (by decide) lk1 (fun _ h9 => h9) rfl dX3_widthFor_2 ?_
  refine lv_iconst (v := nI 1) hx hb dX3_widthFor_5 (by decide) ?_
  refine nv_iald hx hb hK hP 1 rfl (by omega) (by decide) dX3_widthFor_6 ?_
  have bd_1 := hGs 1
  refine va_mmin hx hb (by rw [hml]; exact hl.1.symm) hown lk2 lk3 lk4 lk5 (Nat.le_of_ble_eq_true rfl) (Nat.le_of_ble_eq_true rfl) (Nat.zero_le _) (Nat.zero_le _) dX3_widthFor_7 ?_
  refine top_eq (nI_min (by omega) (by omega)) ?_
  refine lv_istore_n (lv' := [(3, .int (nI (min t (G 1)))), (0, .ref g0), (1, .int (nI t)), (2, .int (nI ly))]) hx hb dX3_widthFor_10 rfl hl (by decide) rfl (fun ls hl => ?_)
  refine lv_iload_n hx hb dX3_widthFor_11 rfl (lv_at hl 3 rfl) ?_
  refine nv_if_ne (tgt := 19) hx hb dX3_widthFor_12 (by decide) (by omega) (fun c_2 => ?_) (fun c_2 => ?_)
  · skip
    refine lv_iload_n hx hb dX3_widthFor_19 rfl (lv_at hl 2 rfl) ?_
    refine lv_iload_n hx hb dX3_widthFor_20 rfl (lv_at hl 0 rfl) ?_
    refine nv_isub hx hb dX3_widthFor_21 (by omega) ?_
    refine lv_istore (lv' := [(4, .int (nI (t - (min t (G 1))))), (3, .int (nI (min t (G 1)))), (0, .ref g0), (1, .int (nI t)), (2, .int (nI ly))]) hx hb dX3_widthFor_22 hl (by decide) rfl (fun ls hl => ?_)
    refine lv_aload_n hx hb dX3_widthFor_24 rfl (lv_at hl 2 rfl) ?_
    refine va_get (D := D) (ci := 3) (v := .ref g1) (C := RX3) (T := TX3) (N := 1) hx hb hts hinX3 hown hK hP 0 rfl rfl 0 (by decide) lk1 (fun _ h9 => h9) rfl dX3_widthFor_25 ?_
    refine lv_iconst (v := nI 0) hx hb dX3_widthFor_28 (by decide) ?_
    refine nv_iald hx hb hK hP 1 rfl (by omega) (by decide) dX3_widthFor_29 ?_
    have bd_3 := hGs 0
    refine lv_iload hx hb dX3_widthFor_30 (lv_at hl 0 rfl) ?_
    refine nv_imul hx hb dX3_widthFor_32 ?_
    have bm := Nat.mul_le_mul (hGs 0) (show t - (min t (G 1)) ≤ 100 by omega)
    refine lv_bipush (v := nI 100) hx hb dX3_widthFor_33 (by decide) ?_
    refine nv_idiv hx hb dX3_widthFor_35 (by omega) (by omega) (by omega) ?_
    refine lv_istore (lv' := [(5, .int (nI (((G 0) * (t - (min t (G 1)))) / 100))), (4, .int (nI (t - (min t (G 1))))), (3, .int (nI (min t (G 1)))), (0, .ref g0), (1, .int (nI t)), (2, .int (nI ly))]) hx hb dX3_widthFor_36 hl (by decide) rfl (fun ls hl => ?_)
    refine lv_iload hx hb dX3_widthFor_38 (lv_at hl 0 rfl) ?_
    refine lv_aload_n hx hb dX3_widthFor_40 rfl (lv_at hl 3 rfl) ?_
    refine va_get (D := D) (ci := 3) (v := .ref g1) (C := RX3) (T := TX3) (N := 1) hx hb hts hinX3 hown hK hP 0 rfl rfl 0 (by decide) lk1 (fun _ h9 => h9) rfl dX3_widthFor_41 ?_
    refine lv_iconst (v := nI 2) hx hb dX3_widthFor_44 (by decide) ?_
    refine nv_iald hx hb hK hP 1 rfl (by omega) (by decide) dX3_widthFor_45 ?_
    have bd_4 := hGs 2
    refine nv_icmp_ge (tgt := 53) hx hb dX3_widthFor_46 (by decide) (by omega) (by omega) (fun c_5 => ?_) (fun c_5 => ?_)
    · skip
      refine lv_iload hx hb dX3_widthFor_53 (lv_at hl 0 rfl) ?_
      exact hret _ () _ _ _ _ dX3_widthFor_55 (by unfold wd shr; rw [if_neg c_2, if_neg (by omega)]) hP hD hS
    · skip
      refine lv_iconst (v := nI 0) hx hb dX3_widthFor_49 (by decide) ?_
      refine lv_goto (tgt := 55) hx hb dX3_widthFor_50 (by decide) ?_
      exact hret _ () _ _ _ _ dX3_widthFor_55 (by unfold wd shr; rw [if_neg c_2, if_pos (by omega)]) hP hD hS
  · skip
    refine lv_iload_n hx hb dX3_widthFor_15 rfl (lv_at hl 0 rfl) ?_
    refine lv_goto (tgt := 22) hx hb dX3_widthFor_16 (by decide) ?_
    refine lv_istore (lv' := [(4, .int (nI (min t (G 1)))), (3, .int (nI (min t (G 1)))), (0, .ref g0), (1, .int (nI t)), (2, .int (nI ly))]) hx hb dX3_widthFor_22 hl (by decide) rfl (fun ls hl => ?_)
    refine lv_aload_n hx hb dX3_widthFor_24 rfl (lv_at hl 2 rfl) ?_
    refine va_get (D := D) (ci := 3) (v := .ref g1) (C := RX3) (T := TX3) (N := 1) hx hb hts hinX3 hown hK hP 0 rfl rfl 0 (by decide) lk1 (fun _ h9 => h9) rfl dX3_widthFor_25 ?_
    refine lv_iconst (v := nI 0) hx hb dX3_widthFor_28 (by decide) ?_
    refine nv_iald hx hb hK hP 1 rfl (by omega) (by decide) dX3_widthFor_29 ?_
    have bd_6 := hGs 0
    refine lv_iload hx hb dX3_widthFor_30 (lv_at hl 0 rfl) ?_
    refine nv_imul hx hb dX3_widthFor_32 ?_
    have bm := Nat.mul_le_mul (hGs 0) (show min t (G 1) ≤ 100 by omega)
    refine lv_bipush (v := nI 100) hx hb dX3_widthFor_33 (by decide) ?_
    refine nv_idiv hx hb dX3_widthFor_35 (by omega) (by omega) (by omega) ?_
    refine lv_istore (lv' := [(5, .int (nI (((G 0) * (min t (G 1))) / 100))), (4, .int (nI (min t (G 1)))), (3, .int (nI (min t (G 1)))), (0, .ref g0), (1, .int (nI t)), (2, .int (nI ly))]) hx hb dX3_widthFor_36 hl (by decide) rfl (fun ls hl => ?_)
    refine lv_iload hx hb dX3_widthFor_38 (lv_at hl 0 rfl) ?_
    refine lv_aload_n hx hb dX3_widthFor_40 rfl (lv_at hl 3 rfl) ?_
    refine va_get (D := D) (ci := 3) (v := .ref g1) (C := RX3) (T := TX3) (N := 1) hx hb hts hinX3 hown hK hP 0 rfl rfl 0 (by decide) lk1 (fun _ h9 => h9) rfl dX3_widthFor_41 ?_
    refine lv_iconst (v := nI 2) hx hb dX3_widthFor_44 (by decide) ?_
    refine nv_iald hx hb hK hP 1 rfl (by omega) (by decide) dX3_widthFor_45 ?_
    have bd_7 := hGs 2
    refine nv_icmp_ge (tgt := 53) hx hb dX3_widthFor_46 (by decide) (by omega) (by omega) (fun c_8 => ?_) (fun c_8 => ?_)
    · skip
      refine lv_iload hx hb dX3_widthFor_53 (lv_at hl 0 rfl) ?_
      exact hret _ () _ _ _ _ dX3_widthFor_55 (by unfold wd shr; rw [if_pos c_2, if_neg (by omega)]) hP hD hS
    · skip
      refine lv_iconst (v := nI 0) hx hb dX3_widthFor_49 (by decide) ?_
      refine lv_goto (tgt := 55) hx hb dX3_widthFor_50 (by decide) ?_
      exact hret _ () _ _ _ _ dX3_widthFor_55 (by unfold wd shr; rw [if_pos c_2, if_pos (by omega)]) hP hD hS

set_option maxHeartbeats 4000000 in
set_option maxRecDepth 100000 in
theorem c_X3_swell (l : Launch) (D : va_G) (cI cZ : ClassId) (tt : Nat → Nat) (sz : Nat) (g0 g1 : Nat) (G : Nat → Nat)  : MI l yX3_swell wsX3_swell ({ frames := 0, cells := 0, slots := 0, locals := 0 } : Room) D cI cZ tt [.ref g0] [(g0, .inr (3, [.ref g1])), (g1, .inl (cI, 4, .inl (nF G)))] sz (fun (r : Int32) (_ : Unit) => r = nI (G 3)) (fun (_ : Unit) => [(g0, .inr (3, [.ref g1])), (g1, .inl (cI, 4, .inl (nF G)))]) := by
  refine entI (cc := cX3_swell) 1 (by decide) rfl (Nat.le_of_ble_eq_true rfl) (Or.inl rfl) (fun pr e s m args below meth c0 A Q H ls hx hb hml hown hts hsz hA hP hK hD hS hG hret hl => ?_)
  have hown : s.vm.findClass RX3 = some m.cls := hown
  have lk1 := hts (.fieldLink RX3 9 "BurinLines$Tool" "settings" "[I") (by decide +kernel)
  have hinX3 : ∀ w ∈ wsX30, w ∈ wsX3_swell := by decide +kernel
  have hl : lv_has ls 1 [(0, .ref g0)] := hl
  refine lv_aload_n hx hb dX3_swell_0 rfl (lv_at hl 0 rfl) ?_
  refine va_get (D := D) (ci := 3) (v := .ref g1) (C := RX3) (T := TX3) (N := 1) hx hb hts hinX3 hown hK hP 0 rfl rfl 0 (by decide) lk1 (fun _ h9 => h9) rfl dX3_swell_1 ?_
  refine lv_iconst (v := nI 3) hx hb dX3_swell_4 (by decide) ?_
  refine nv_iald hx hb hK hP 1 rfl (by omega) (by decide) dX3_swell_5 ?_
  exact hret _ () _ _ _ _ dX3_swell_6 (rfl) hP hD hS

set_option maxHeartbeats 4000000 in
set_option maxRecDepth 100000 in
theorem c_X3_toneOf (l : Launch) (D : va_G) (cI cZ : ClassId) (tt : Nat → Nat) (sz : Nat) (g0 g1 : Nat) (G : Nat → Nat) (w : Nat) (hGs : ∀ k, G k ≤ 100) (hG4 : 4 ≤ G 0) (hw : w ≤ 200) : MI l yX3_toneOf wsX3_toneOf ({ frames := 0, cells := 0, slots := 0, locals := 0 } : Room) D cI cZ tt [.ref g0, .int (nI w)] [(g0, .inr (3, [.ref g1])), (g1, .inl (cI, 4, .inl (nF G)))] sz (fun (r : Int32) (_ : Unit) => r = nI (100 * w / G 0)) (fun (_ : Unit) => [(g0, .inr (3, [.ref g1])), (g1, .inl (cI, 4, .inl (nF G)))]) := by
  refine entI (cc := cX3_toneOf) 3 (by decide) rfl (Nat.le_of_ble_eq_true rfl) (Or.inl rfl) (fun pr e s m args below meth c0 A Q H ls hx hb hml hown hts hsz hA hP hK hD hS hG hret hl => ?_)
  have hown : s.vm.findClass RX3 = some m.cls := hown
  have lk1 := hts (.fieldLink RX3 9 "BurinLines$Tool" "settings" "[I") (by decide +kernel)
  have hinX3 : ∀ w ∈ wsX30, w ∈ wsX3_toneOf := by decide +kernel
  have hl : lv_has ls 3 [(0, .ref g0), (1, .int (nI w))] := hl
  refine lv_aload_n hx hb dX3_toneOf_0 rfl (lv_at hl 0 rfl) ?_
  refine va_get (D := D) (ci := 3) (v := .ref g1) (C := RX3) (T := TX3) (N := 1) hx hb hts hinX3 hown hK hP 0 rfl rfl 0 (by decide) lk1 (fun _ h9 => h9) rfl dX3_toneOf_1 ?_
  refine lv_iconst (v := nI 0) hx hb dX3_toneOf_4 (by decide) ?_
  refine nv_iald hx hb hK hP 1 rfl (by omega) (by decide) dX3_toneOf_5 ?_
  have bd_1 := hGs 0
  refine lv_istore_n (lv' := [(2, .int (nI (G 0))), (0, .ref g0), (1, .int (nI w))]) hx hb dX3_toneOf_6 rfl hl (by decide) rfl (fun ls hl => ?_)
  refine lv_iload_n hx hb dX3_toneOf_7 rfl (lv_at hl 0 rfl) ?_
  refine nv_if_le (tgt := 20) hx hb dX3_toneOf_8 (by decide) (by omega) (fun c_2 => ?_) (fun c_2 => ?_)
  · skip
    exact absurd c_2 (by omega)
  · skip
    refine lv_bipush (v := nI 100) hx hb dX3_toneOf_11 (by decide) ?_
    refine lv_iload_n hx hb dX3_toneOf_13 rfl (lv_at hl 2 rfl) ?_
    refine nv_imul hx hb dX3_toneOf_14 ?_
    refine lv_iload_n hx hb dX3_toneOf_15 rfl (lv_at hl 0 rfl) ?_
    refine nv_idiv hx hb dX3_toneOf_16 (by omega) (by omega) (by omega) ?_
    refine lv_goto (tgt := 21) hx hb dX3_toneOf_17 (by decide) ?_
    exact hret _ () _ _ _ _ dX3_toneOf_21 (rfl) hP hD hS

abbrev okset (what v : Int32) : Prop := ¬ what < 0 ∧ ¬ nI 3 < what ∧ ¬ v < (stV 1).getD what.toNatClampNeg 0 ∧ v ≤ (stV 2).getD what.toNatClampNeg 0
def setG (G : Nat → Nat) (what v : Int32) : Nat → Nat := if okset what v then va_up G what.toNatClampNeg v.toNatClampNeg else G
def setR (G : Nat → Nat) (what v : Int32) : Int32 := if okset what v then nI (G what.toNatClampNeg) else -3
theorem st_lo : ∀ k : Fin 4, (0 : Int) ≤ ((stV 1).getD k.val 0).toInt ∧ ((stV 2).getD k.val 0).toInt ≤ 100 := by decide +kernel
theorem set_nat {k : Nat} {v : Int32} (hk : k ≤ 3) (h1 : ¬ v < (stV 1).getD k 0) (h2 : v ≤ (stV 2).getD k 0) : ∃ b : Nat, b ≤ 100 ∧ v = nI b := by
  obtain ⟨a1, a2⟩ := st_lo ⟨k, by omega⟩
  rw [i_lt] at h1
  rw [i_le] at h2
  refine ⟨v.toInt.toNat, by simp only at a1 a2; omega, ?_⟩
  rw [i_eq, nI_T (by simp only at a1 a2; omega)]
  simp only at a1 a2
  omega
theorem setG_yes {G : Nat → Nat} {k b : Nat} (hk : k ≤ 3) (hb : b ≤ 100) (h : okset (nI k) (nI b)) : setG G (nI k) (nI b) = va_up G k b ∧ setR G (nI k) (nI b) = nI (G k) := by
  unfold setG setR
  rw [if_pos h, if_pos h, nI_clamp (by omega), nI_clamp (by omega)]
  exact ⟨rfl, rfl⟩
theorem setG_no {G : Nat → Nat} {what v : Int32} (h : ¬ okset what v) : setG G what v = G ∧ setR G what v = -3 := by
  unfold setG setR
  rw [if_neg h, if_neg h]
  exact ⟨rfl, rfl⟩
theorem okset_k {k : Nat} {v : Int32} (hk : k ≤ 3) : okset (nI k) v ↔ (¬ v < (stV 1).getD k 0 ∧ v ≤ (stV 2).getD k 0) := by
  unfold okset
  rw [nI_clamp (by omega)]
  constructor
  · intro h; exact h.2.2
  · intro h
    exact ⟨nI_pos (by omega), nI_nlt (by omega) (by omega), h⟩

set_option maxHeartbeats 4000000 in
set_option maxRecDepth 100000 in
theorem c_X3_change (l : Launch) (D : va_G) (cI cZ : ClassId) (tt : Nat → Nat) (sz : Nat) (g0 g1 : Nat) (G : Nat → Nat) (what v : Int32) (hGs : ∀ k, G k ≤ 100) : MI l yX3_change wsX3_change ({ frames := 0, cells := 0, slots := 0, locals := 0 } : Room) D cI cZ tt [.ref g0, .int (what), .int (v)] [(g0, .inr (3, [.ref g1])), (g1, .inl (cI, 4, .inl (nF G)))] sz (fun (r : Int32) (u : (Nat → Nat)) => r = setR G what v ∧ (u = setG G what v)) (fun (u : (Nat → Nat)) => [(g0, .inr (3, [.ref g1])), (g1, .inl (cI, 4, .inl (nF u)))]) := by
  refine entI (cc := cX3_change) 4 (by decide) rfl (Nat.le_of_ble_eq_true rfl) (Or.inl rfl) (fun pr e s m args below meth c0 A Q H ls hx hb hml hown hts hsz hA hP hK hD hS hG hret hl => ?_)
  have hown : s.vm.findClass RX3 = some m.cls := hown
  have lk1 := hts (.fieldLink RX3 9 "BurinLines$Tool" "settings" "[I") (by decide +kernel)
  have hinX3 : ∀ w ∈ wsX30, w ∈ wsX3_change := by decide +kernel
  have hl : lv_has ls 4 [(0, .ref g0), (1, .int (what)), (2, .int (v))] := hl
  refine lv_iload_n hx hb dX3_change_0 rfl (lv_at hl 1 rfl) ?_
  refine lv_if_lt (tgt := 27) hx hb dX3_change_1 (by decide) (fun c_1 => ?_) (fun c_1 => ?_)
  · skip
    refine lv_bipush (v := (-3)) hx hb dX3_change_27 (by decide) ?_
    exact hret _ _ _ _ _ _ dX3_change_29 (⟨by exact (setG_no (fun q => q.1 c_1)).2.symm, by exact (setG_no (fun q => q.1 c_1)).1.symm⟩) hP hD hS
  · skip
    refine lv_iload_n hx hb dX3_change_4 rfl (lv_at hl 1 rfl) ?_
    refine lv_iconst (v := nI 3) hx hb dX3_change_5 (by decide) ?_
    refine lv_icmp_gt (tgt := 27) hx hb dX3_change_6 (by decide) (fun c_2 => ?_) (fun c_2 => ?_)
    · skip
      refine lv_bipush (v := (-3)) hx hb dX3_change_27 (by decide) ?_
      exact hret _ _ _ _ _ _ dX3_change_29 (⟨by exact (setG_no (fun q => q.2.1 c_2)).2.symm, by exact (setG_no (fun q => q.2.1 c_2)).1.symm⟩) hP hD hS
    · skip
      obtain ⟨k, hk3, rfl⟩ := up_to' (by decide) c_1 c_2
      refine lv_iload_n hx hb dX3_change_9 rfl (lv_at hl 2 rfl) ?_
      refine nv_sget hx hb hG hS hown 1 (by decide) rfl dX3_change_10 ?_
      refine lv_iload_n hx hb dX3_change_13 rfl (lv_at hl 1 rfl) ?_
      refine nv_tab hx hb hG hS 1 (by decide) (i := k) (by show k < 4; omega) dX3_change_14 ?_
      refine lv_icmp_lt (tgt := 27) hx hb dX3_change_15 (by decide) (fun c_3 => ?_) (fun c_3 => ?_)
      · skip
        refine lv_bipush (v := (-3)) hx hb dX3_change_27 (by decide) ?_
        exact hret _ _ _ _ _ _ dX3_change_29 (⟨by exact (setG_no (fun q => ((okset_k hk3).mp q).1 c_3)).2.symm, by exact (setG_no (fun q => ((okset_k hk3).mp q).1 c_3)).1.symm⟩) hP hD hS
      · skip
        refine lv_iload_n hx hb dX3_change_18 rfl (lv_at hl 2 rfl) ?_
        refine nv_sget hx hb hG hS hown 2 (by decide) rfl dX3_change_19 ?_
        refine lv_iload_n hx hb dX3_change_22 rfl (lv_at hl 1 rfl) ?_
        refine nv_tab hx hb hG hS 2 (by decide) (i := k) (by show k < 4; omega) dX3_change_23 ?_
        refine lv_icmp_le (tgt := 30) hx hb dX3_change_24 (by decide) (fun c_4 => ?_) (fun c_4 => ?_)
        · skip
          obtain ⟨b, hb1, rfl⟩ := set_nat hk3 c_3 c_4
          obtain ⟨es1, es2⟩ := setG_yes (G := G) hk3 hb1 ((okset_k hk3).mpr ⟨c_3, c_4⟩)
          refine lv_aload_n hx hb dX3_change_30 rfl (lv_at hl 0 rfl) ?_
          refine va_get (D := D) (ci := 3) (v := .ref g1) (C := RX3) (T := TX3) (N := 1) hx hb hts hinX3 hown hK hP 0 rfl rfl 0 (by decide) lk1 (fun _ h9 => h9) rfl dX3_change_31 ?_
          refine lv_iload_n hx hb dX3_change_34 rfl (lv_at hl 1 rfl) ?_
          refine nv_iald hx hb hK hP 1 rfl (by omega) (by decide) dX3_change_35 ?_
          refine lv_istore_n (lv' := [(3, .int (nI (G k))), (0, .ref g0), (1, .int (nI k)), (2, .int (nI b))]) hx hb dX3_change_36 rfl hl (by decide) rfl (fun ls hl => ?_)
          refine lv_aload_n hx hb dX3_change_37 rfl (lv_at hl 1 rfl) ?_
          refine va_get (D := D) (ci := 3) (v := .ref g1) (C := RX3) (T := TX3) (N := 1) hx hb hts hinX3 hown hK hP 0 rfl rfl 0 (by decide) lk1 (fun _ h9 => h9) rfl dX3_change_38 ?_
          refine lv_iload_n hx hb dX3_change_41 rfl (lv_at hl 2 rfl) ?_
          refine lv_iload_n hx hb dX3_change_42 rfl (lv_at hl 3 rfl) ?_
          refine nv_iast hx hb hK hP hD hS 1 rfl (by omega) (by decide) dX3_change_43 (fun H locs hP hD hS => ?_)
          have hP : va_P D vwCl [(g0, .inr (3, [.ref g1])), (g1, .inl (cI, 4, .inl (nF (va_up G k b))))] H := hP
          have hD : va_D A [(g0, .inr (3, [.ref g1])), (g1, .inl (cI, 4, .inl (nF (va_up G k b))))] := hD
          refine lv_iload_n hx hb dX3_change_44 rfl (lv_at hl 0 rfl) ?_
          exact hret _ _ _ _ _ _ dX3_change_45 (⟨by exact es2.symm, by exact es1.symm⟩) hP hD hS
        · skip
          refine lv_bipush (v := (-3)) hx hb dX3_change_27 (by decide) ?_
          exact hret _ _ _ _ _ _ dX3_change_29 (⟨by exact (setG_no (fun q => c_4 ((okset_k hk3).mp q).2)).2.symm, by exact (setG_no (fun q => c_4 ((okset_k hk3).mp q).2)).1.symm⟩) hP hD hS

set_option maxHeartbeats 4000000 in
set_option maxRecDepth 100000 in
theorem c_X1_wayFor (l : Launch) (D : va_G) (cI cZ : ClassId) (tt : Nat → Nat) (sz : Nat) (l0 l1 l2 l3 l4 l5 l6 l7 : Nat) (nm np : Nat) (P Y V F L Z X : Nat → Nat) (u : Nat) (hu : u < 8) (hnm : nm < 2) : MI l yX1_wayFor wsX1_wayFor ({ frames := 1, cells := 0, slots := 0, locals := 22 } : Room) D cI cZ tt [.ref l0, .int (nI u)] [(l0, .inr (1, [.int (nI nm), .ref l1, .ref l2, .ref l3, .ref l4, .ref l5, .ref l6, .ref l7, .int (nI np)])), (l1, .inl (cI, 64, .inl (nF P))), (l2, .inl (cI, 64, .inl (nF Y))), (l3, .inl (cI, 64, .inl (nF V))), (l4, .inl (cI, 64, .inl (nF F))), (l5, .inl (cI, 64, .inl (nF L))), (l6, .inl (cI, 64, .inl (nF Z))), (l7, .inl (cI, 64, .inl (nF X)))] sz (fun (r : Int32) (_ : Unit) => r = nI (wy nm u)) (fun (_ : Unit) => [(l0, .inr (1, [.int (nI nm), .ref l1, .ref l2, .ref l3, .ref l4, .ref l5, .ref l6, .ref l7, .int (nI np)])), (l1, .inl (cI, 64, .inl (nF P))), (l2, .inl (cI, 64, .inl (nF Y))), (l3, .inl (cI, 64, .inl (nF V))), (l4, .inl (cI, 64, .inl (nF F))), (l5, .inl (cI, 64, .inl (nF L))), (l6, .inl (cI, 64, .inl (nF Z))), (l7, .inl (cI, 64, .inl (nF X)))]) := by
  refine entI (cc := cX1_wayFor) 3 (by decide) rfl (Nat.le_of_ble_eq_true rfl) (Or.inl rfl) (fun pr e s m args below meth c0 A Q H ls hx hb hml hown hts hsz hA hP hK hD hS hG hret hl => ?_)
  have hown : s.vm.findClass RX1 = some m.cls := hown
  have lk1 := hts (.fieldLink RX1 33 "BurinLines$Layer" "number" "I") (by decide +kernel)
  have lk2 := hts (.methodLink RX1 69 yJ9_floorMod_7cf53) (by decide +kernel)
  have lk3 := hts (.static yJ9_floorMod_7cf53) (by decide +kernel)
  have lk4 := hts (.initialized RJ9) (by decide +kernel)
  have lk5 := hts (.code yJ9_floorMod_7cf53 cJ9_floorMod_7cf53 3 (some .int)) (by decide +kernel)
  have hinX1 : ∀ w ∈ wsX10, w ∈ wsX1_wayFor := by decide +kernel
  have hl : lv_has ls 3 [(0, .ref l0), (1, .int (nI u))] := hl
  refine lv_aload_n hx hb dX1_wayFor_0 rfl (lv_at hl 0 rfl) ?_
  refine va_get (D := D) (ci := 1) (v := .int (nI nm)) (C := RX1) (T := TX1) (N := 9) hx hb hts hinX1 hown hK hP 0 rfl rfl 0 (by decide) lk1 (fun _ h9 => h9) rfl dX1_wayFor_1 ?_
  refine nv_if_ne (tgt := 11) hx hb dX1_wayFor_4 (by decide) (by omega) (fun c_1 => ?_) (fun c_1 => ?_)
  · skip
    refine lv_iload_n hx hb dX1_wayFor_11 rfl (lv_at hl 1 rfl) ?_
    refine lv_iconst (v := nI 4) hx hb dX1_wayFor_12 (by decide) ?_
    refine nv_iadd hx hb dX1_wayFor_13 ?_
    refine lv_istore_n (lv' := [(2, .int (nI (u + 4))), (0, .ref l0), (1, .int (nI u))]) hx hb dX1_wayFor_14 rfl hl (by decide) rfl (fun ls hl => ?_)
    refine lv_iload_n hx hb dX1_wayFor_15 rfl (lv_at hl 0 rfl) ?_
    refine lv_bipush (v := nI 8) hx hb dX1_wayFor_16 (by decide) ?_
    refine nv_fm hx hb (by rw [hml]; exact hl.1.symm) hown lk2 lk3 lk4 lk5 (Nat.le_of_ble_eq_true rfl) (Nat.le_of_ble_eq_true rfl) (Nat.zero_le _) (Nat.zero_le _) dX1_wayFor_18 ?_
    refine top_eq (fmo8_n (by omega)) ?_
    refine lv_iconst (v := nI 2) hx hb dX1_wayFor_21 (by decide) ?_
    refine nv_idiv hx hb dX1_wayFor_22 (by omega) (by omega) (by omega) ?_
    exact hret _ () _ _ _ _ dX1_wayFor_23 (congrArg nI (by unfold wy; omega)) hP hD hS
  · skip
    refine lv_iload_n hx hb dX1_wayFor_7 rfl (lv_at hl 1 rfl) ?_
    refine lv_goto (tgt := 14) hx hb dX1_wayFor_8 (by decide) ?_
    refine lv_istore_n (lv' := [(2, .int (nI u)), (0, .ref l0), (1, .int (nI u))]) hx hb dX1_wayFor_14 rfl hl (by decide) rfl (fun ls hl => ?_)
    refine lv_iload_n hx hb dX1_wayFor_15 rfl (lv_at hl 0 rfl) ?_
    refine lv_bipush (v := nI 8) hx hb dX1_wayFor_16 (by decide) ?_
    refine nv_fm hx hb (by rw [hml]; exact hl.1.symm) hown lk2 lk3 lk4 lk5 (Nat.le_of_ble_eq_true rfl) (Nat.le_of_ble_eq_true rfl) (Nat.zero_le _) (Nat.zero_le _) dX1_wayFor_18 ?_
    refine top_eq (fmo8_n (by omega)) ?_
    refine lv_iconst (v := nI 2) hx hb dX1_wayFor_21 (by decide) ?_
    refine nv_idiv hx hb dX1_wayFor_22 (by omega) (by omega) (by omega) ?_
    exact hret _ () _ _ _ _ dX1_wayFor_23 (congrArg nI (by unfold wy; omega)) hP hD hS

set_option maxHeartbeats 4000000 in
set_option maxRecDepth 100000 in
theorem c_X1_tiedTo_on (l : Launch) (D : va_G) (cI cZ : ClassId) (tt : Nat → Nat) (sz : Nat) (l0 l1 l2 l3 l4 l5 l6 l7 : Nat) (nm np : Nat) (P Y V F L Z X : Nat → Nat) (p y : Nat → Nat) (c : Nat) (hPp : ∀ k, k < 64 → P k = p k) (hYy : ∀ k, k < 64 → Y k = y k) (hp : ∀ k, p k ≤ 100) (hy : ∀ k, y k < 4) (hc : c < 64) : MI l yX1_tiedTo wsX1_tiedTo ({ frames := 1, cells := 0, slots := 0, locals := 21 } : Room) D cI cZ tt [.ref l0, .int (nI c), .int (nI 1)] [(l0, .inr (1, [.int (nI nm), .ref l1, .ref l2, .ref l3, .ref l4, .ref l5, .ref l6, .ref l7, .int (nI np)])), (l1, .inl (cI, 64, .inl (nF P))), (l2, .inl (cI, 64, .inl (nF Y))), (l3, .inl (cI, 64, .inl (nF V))), (l4, .inl (cI, 64, .inl (nF F))), (l5, .inl (cI, 64, .inl (nF L))), (l6, .inl (cI, 64, .inl (nF Z))), (l7, .inl (cI, 64, .inl (nF X)))] sz (fun (r : Int32) (_ : Unit) => r = rI (tn p y c)) (fun (_ : Unit) => [(l0, .inr (1, [.int (nI nm), .ref l1, .ref l2, .ref l3, .ref l4, .ref l5, .ref l6, .ref l7, .int (nI np)])), (l1, .inl (cI, 64, .inl (nF P))), (l2, .inl (cI, 64, .inl (nF Y))), (l3, .inl (cI, 64, .inl (nF V))), (l4, .inl (cI, 64, .inl (nF F))), (l5, .inl (cI, 64, .inl (nF L))), (l6, .inl (cI, 64, .inl (nF Z))), (l7, .inl (cI, 64, .inl (nF X)))]) := by
  refine entI (cc := cX1_tiedTo) 7 (by decide) rfl (Nat.le_of_ble_eq_true rfl) (Or.inl rfl) (fun pr e s m args below meth c0 A Q H ls hx hb hml hown hts hsz hA hP hK hD hS hG hret hl => ?_)
  have hown : s.vm.findClass RX1 = some m.cls := hown
  have lk1 := hts (.fieldLink RX1 15 "BurinLines$Layer" "ways" "[I") (by decide +kernel)
  have lk2 := hts (.initialized RX4) (by decide +kernel)
  have lk3 := hts (.static yX4_isCell) (by decide +kernel)
  have lk4 := hts (.static yX4_cellOf) (by decide +kernel)
  have lk5 := hts (.fieldLink RX1 9 "BurinLines$Layer" "wants" "[I") (by decide +kernel)
  have hinX1 : ∀ w ∈ wsX10, w ∈ wsX1_tiedTo := by decide +kernel
  have hl : lv_has ls 7 [(0, .ref l0), (1, .int (nI c)), (2, .int (nI 1))] := hl
  refine lv_aload_n hx hb dX1_tiedTo_0 rfl (lv_at hl 0 rfl) ?_
  refine va_get (D := D) (ci := 1) (v := .ref l2) (C := RX1) (T := TX1) (N := 9) hx hb hts hinX1 hown hK hP 0 rfl rfl 2 (by decide) lk1 (fun _ h9 => h9) rfl dX1_tiedTo_1 ?_
  refine lv_iload_n hx hb dX1_tiedTo_4 rfl (lv_at hl 1 rfl) ?_
  refine nv_iald hx hb hK hP 2 rfl (by omega) (by decide) dX1_tiedTo_5 ?_
  refine top_eq (congrArg nI (hYy _ hc)) ?_
  refine lv_istore_n (lv' := [(3, .int (nI (y c))), (0, .ref l0), (1, .int (nI c)), (2, .int (nI 1))]) hx hb dX1_tiedTo_6 rfl hl (by decide) rfl (fun ls hl => ?_)
  refine lv_iload_n hx hb dX1_tiedTo_7 rfl (lv_at hl 2 rfl) ?_
  refine lv_bipush (v := nI 8) hx hb dX1_tiedTo_8 (by decide) ?_
  refine nv_irem hx hb dX1_tiedTo_10 (by omega) (by omega) (by omega) ?_
  refine lv_iload_n hx hb dX1_tiedTo_11 rfl (lv_at hl 3 rfl) ?_
  refine nv_sget hx hb hG hS hown 3 (by decide) rfl dX1_tiedTo_12 ?_
  have byc := hy c
  refine lv_iload_n hx hb dX1_tiedTo_15 rfl (lv_at hl 0 rfl) ?_
  refine nv_tab hx hb hG hS 3 (by decide) (i := (y c)) (by show y c < 4; omega) dX1_tiedTo_16 ?_
  refine lv_imul hx hb dX1_tiedTo_17 ?_
  refine lv_iadd hx hb dX1_tiedTo_18 ?_
  refine lv_istore (lv' := [(4, .int ((nI (c % 8)) + ((nI 1) * ((stV 3).getD (y c) 0)))), (3, .int (nI (y c))), (0, .ref l0), (1, .int (nI c)), (2, .int (nI 1))]) hx hb dX1_tiedTo_19 hl (by decide) rfl (fun ls hl => ?_)
  refine lv_iload_n hx hb dX1_tiedTo_21 rfl (lv_at hl 3 rfl) ?_
  refine lv_bipush (v := nI 8) hx hb dX1_tiedTo_22 (by decide) ?_
  refine nv_idiv hx hb dX1_tiedTo_24 (by omega) (by omega) (by omega) ?_
  refine lv_iload_n hx hb dX1_tiedTo_25 rfl (lv_at hl 4 rfl) ?_
  refine nv_sget hx hb hG hS hown 4 (by decide) rfl dX1_tiedTo_26 ?_
  refine lv_iload_n hx hb dX1_tiedTo_29 rfl (lv_at hl 1 rfl) ?_
  refine nv_tab hx hb hG hS 4 (by decide) (i := (y c)) (by show y c < 4; omega) dX1_tiedTo_30 ?_
  refine lv_imul hx hb dX1_tiedTo_31 ?_
  refine lv_iadd hx hb dX1_tiedTo_32 ?_
  refine lv_istore (lv' := [(5, .int ((nI (c / 8)) + ((nI 1) * ((stV 4).getD (y c) 0)))), (4, .int ((nI (c % 8)) + ((nI 1) * ((stV 3).getD (y c) 0)))), (3, .int (nI (y c))), (0, .ref l0), (1, .int (nI c)), (2, .int (nI 1))]) hx hb dX1_tiedTo_33 hl (by decide) rfl (fun ls hl => ?_)
  refine lv_iload hx hb dX1_tiedTo_35 (lv_at hl 1 rfl) ?_
  refine lv_iload hx hb dX1_tiedTo_37 (lv_at hl 0 rfl) ?_
  refine gcSN (As := [.int ((nI (c % 8)) + ((nI 1) * ((stV 3).getD (y c) 0))), .int ((nI (c / 8)) + ((nI 1) * ((stV 4).getD (y c) 0)))]) (rest := []) ⟨hx, hb, hml, hown, hts⟩ (c_X4_isCell l ((nI (c % 8)) + ((nI 1) * ((stV 3).getD (y c) 0))) ((nI (c / 8)) + ((nI 1) * ((stV 4).getD (y c) 0))) ) (va_cnB 2 hts gX1_tiedTo_X4_isCell_n80 rfl rfl rfl (hG.1 (RX1, 80, yX4_isCell) (by decide +kernel)) lk2 (by decide +kernel) ⟨Nat.le_of_ble_eq_true rfl, Nat.le_of_ble_eq_true rfl⟩) lk3 hl.1 rfl rfl (Nat.le_of_ble_eq_true rfl) ⟨Nat.zero_le _, Nat.zero_le _⟩ dX1_tiedTo_39 ?_
  refine nv_ifb_ne (tgt := 47) hx hb dX1_tiedTo_42 (by decide) (fun c_1 => ?_) (fun c_1 => ?_)
  · skip
    have hn := (nx_of (hy c) hc).1.1.mp c_1
    obtain ⟨e1, e2⟩ := (nx_of (hy c) hc).2 hn
    have e1 : (nI (c % 8)) + ((nI 1) * ((stV 3).getD (y c) 0)) = nI (nx (y c) c % 8) := e1
    have e2 : (nI (c / 8)) + ((nI 1) * ((stV 4).getD (y c) 0)) = nI (nx (y c) c / 8) := e2
    rw [e1, e2] at hl
    refine lv_iload hx hb dX1_tiedTo_47 (lv_at hl 1 rfl) ?_
    refine lv_iload hx hb dX1_tiedTo_49 (lv_at hl 0 rfl) ?_
    refine gcSN (As := [.int (nI (nx (y c) c % 8)), .int (nI (nx (y c) c / 8))]) (rest := []) ⟨hx, hb, hml, hown, hts⟩ (c_X4_cellOf l (nx (y c) c % 8) (nx (y c) c / 8) ) (va_cnB 2 hts gX1_tiedTo_X4_cellOf_n84 rfl rfl rfl (hG.1 (RX1, 84, yX4_cellOf) (by decide +kernel)) lk2 (by decide +kernel) ⟨Nat.le_of_ble_eq_true rfl, Nat.le_of_ble_eq_true rfl⟩) lk4 hl.1 rfl rfl (Nat.le_of_ble_eq_true rfl) ⟨Nat.zero_le _, Nat.zero_le _⟩ dX1_tiedTo_51 ?_
    refine top_eq (congrArg nI (show 8 * (nx (y c) c / 8) + nx (y c) c % 8 = nx (y c) c by omega)) ?_
    refine lv_istore (lv' := [(6, .int (nI (nx (y c) c))), (5, .int (nI (nx (y c) c / 8))), (4, .int (nI (nx (y c) c % 8))), (3, .int (nI (y c))), (0, .ref l0), (1, .int (nI c)), (2, .int (nI 1))]) hx hb dX1_tiedTo_54 hl (by decide) rfl (fun ls hl => ?_)
    refine lv_aload_n hx hb dX1_tiedTo_56 rfl (lv_at hl 4 rfl) ?_
    refine va_get (D := D) (ci := 1) (v := .ref l1) (C := RX1) (T := TX1) (N := 9) hx hb hts hinX1 hown hK hP 0 rfl rfl 1 (by decide) lk5 (fun _ h9 => h9) rfl dX1_tiedTo_57 ?_
    refine lv_iload hx hb dX1_tiedTo_60 (lv_at hl 0 rfl) ?_
    refine nv_iald hx hb hK hP 1 rfl (by omega) (by decide) dX1_tiedTo_62 ?_
    refine top_eq (congrArg nI (hPp _ hn)) ?_
    refine nv_if_le (tgt := 82) hx hb dX1_tiedTo_63 (by decide) (by have := hp (nx (y c) c); omega) (fun c_2 => ?_) (fun c_2 => ?_)
    · skip
      refine lv_iconst (v := (-1)) hx hb dX1_tiedTo_82 (by decide) ?_
      exact hret _ () _ _ _ _ dX1_tiedTo_83 (by unfold tn; rw [if_neg (fun q => q.2.1 c_2)]; rfl) hP hD hS
    · skip
      refine lv_aload_n hx hb dX1_tiedTo_66 rfl (lv_at hl 4 rfl) ?_
      refine va_get (D := D) (ci := 1) (v := .ref l2) (C := RX1) (T := TX1) (N := 9) hx hb hts hinX1 hown hK hP 0 rfl rfl 2 (by decide) lk1 (fun _ h9 => h9) rfl dX1_tiedTo_67 ?_
      refine lv_iload hx hb dX1_tiedTo_70 (lv_at hl 0 rfl) ?_
      refine nv_iald hx hb hK hP 2 rfl (by omega) (by decide) dX1_tiedTo_72 ?_
      refine top_eq (congrArg nI (hYy _ hn)) ?_
      refine lv_iload_n hx hb dX1_tiedTo_73 rfl (lv_at hl 3 rfl) ?_
      refine nv_icmp_ne (tgt := 82) hx hb dX1_tiedTo_74 (by decide) (by have := hy (nx (y c) c); omega) (by have := hy (nx (y c) c); omega) (fun c_3 => ?_) (fun c_3 => ?_)
      · skip
        refine lv_iconst (v := (-1)) hx hb dX1_tiedTo_82 (by decide) ?_
        exact hret _ () _ _ _ _ dX1_tiedTo_83 (by unfold tn; rw [if_neg (fun q => c_3 q.2.2)]; rfl) hP hD hS
      · skip
        refine lv_iload hx hb dX1_tiedTo_77 (lv_at hl 0 rfl) ?_
        refine lv_goto (tgt := 83) hx hb dX1_tiedTo_79 (by decide) ?_
        exact hret _ () _ _ _ _ dX1_tiedTo_83 (by unfold tn; rw [if_pos ⟨hn, c_2, c_3⟩, rI_some (by omega)]) hP hD hS
  · skip
    refine lv_iconst (v := (-1)) hx hb dX1_tiedTo_45 (by decide) ?_
    exact hret _ () _ _ _ _ dX1_tiedTo_46 (by unfold tn; rw [if_neg (fun q => c_1 ((nx_of (hy c) hc).1.1.mpr q.1))]; rfl) hP hD hS

set_option maxHeartbeats 4000000 in
set_option maxRecDepth 100000 in
theorem c_X1_tiedTo_back (l : Launch) (D : va_G) (cI cZ : ClassId) (tt : Nat → Nat) (sz : Nat) (l0 l1 l2 l3 l4 l5 l6 l7 : Nat) (nm np : Nat) (P Y V F L Z X : Nat → Nat) (p y : Nat → Nat) (c : Nat) (hPp : ∀ k, k < 64 → P k = p k) (hYy : ∀ k, k < 64 → Y k = y k) (hp : ∀ k, p k ≤ 100) (hy : ∀ k, y k < 4) (hc : c < 64) : MI l yX1_tiedTo wsX1_tiedTo ({ frames := 1, cells := 0, slots := 0, locals := 21 } : Room) D cI cZ tt [.ref l0, .int (nI c), .int ((-1))] [(l0, .inr (1, [.int (nI nm), .ref l1, .ref l2, .ref l3, .ref l4, .ref l5, .ref l6, .ref l7, .int (nI np)])), (l1, .inl (cI, 64, .inl (nF P))), (l2, .inl (cI, 64, .inl (nF Y))), (l3, .inl (cI, 64, .inl (nF V))), (l4, .inl (cI, 64, .inl (nF F))), (l5, .inl (cI, 64, .inl (nF L))), (l6, .inl (cI, 64, .inl (nF Z))), (l7, .inl (cI, 64, .inl (nF X)))] sz (fun (r : Int32) (_ : Unit) => r = rI (tp p y c)) (fun (_ : Unit) => [(l0, .inr (1, [.int (nI nm), .ref l1, .ref l2, .ref l3, .ref l4, .ref l5, .ref l6, .ref l7, .int (nI np)])), (l1, .inl (cI, 64, .inl (nF P))), (l2, .inl (cI, 64, .inl (nF Y))), (l3, .inl (cI, 64, .inl (nF V))), (l4, .inl (cI, 64, .inl (nF F))), (l5, .inl (cI, 64, .inl (nF L))), (l6, .inl (cI, 64, .inl (nF Z))), (l7, .inl (cI, 64, .inl (nF X)))]) := by
  refine entI (cc := cX1_tiedTo) 7 (by decide) rfl (Nat.le_of_ble_eq_true rfl) (Or.inl rfl) (fun pr e s m args below meth c0 A Q H ls hx hb hml hown hts hsz hA hP hK hD hS hG hret hl => ?_)
  have hown : s.vm.findClass RX1 = some m.cls := hown
  have lk1 := hts (.fieldLink RX1 15 "BurinLines$Layer" "ways" "[I") (by decide +kernel)
  have lk2 := hts (.initialized RX4) (by decide +kernel)
  have lk3 := hts (.static yX4_isCell) (by decide +kernel)
  have lk4 := hts (.static yX4_cellOf) (by decide +kernel)
  have lk5 := hts (.fieldLink RX1 9 "BurinLines$Layer" "wants" "[I") (by decide +kernel)
  have hinX1 : ∀ w ∈ wsX10, w ∈ wsX1_tiedTo := by decide +kernel
  have hl : lv_has ls 7 [(0, .ref l0), (1, .int (nI c)), (2, .int ((-1)))] := hl
  refine lv_aload_n hx hb dX1_tiedTo_0 rfl (lv_at hl 0 rfl) ?_
  refine va_get (D := D) (ci := 1) (v := .ref l2) (C := RX1) (T := TX1) (N := 9) hx hb hts hinX1 hown hK hP 0 rfl rfl 2 (by decide) lk1 (fun _ h9 => h9) rfl dX1_tiedTo_1 ?_
  refine lv_iload_n hx hb dX1_tiedTo_4 rfl (lv_at hl 1 rfl) ?_
  refine nv_iald hx hb hK hP 2 rfl (by omega) (by decide) dX1_tiedTo_5 ?_
  refine top_eq (congrArg nI (hYy _ hc)) ?_
  refine lv_istore_n (lv' := [(3, .int (nI (y c))), (0, .ref l0), (1, .int (nI c)), (2, .int ((-1)))]) hx hb dX1_tiedTo_6 rfl hl (by decide) rfl (fun ls hl => ?_)
  refine lv_iload_n hx hb dX1_tiedTo_7 rfl (lv_at hl 2 rfl) ?_
  refine lv_bipush (v := nI 8) hx hb dX1_tiedTo_8 (by decide) ?_
  refine nv_irem hx hb dX1_tiedTo_10 (by omega) (by omega) (by omega) ?_
  refine lv_iload_n hx hb dX1_tiedTo_11 rfl (lv_at hl 3 rfl) ?_
  refine nv_sget hx hb hG hS hown 3 (by decide) rfl dX1_tiedTo_12 ?_
  have byc := hy c
  refine lv_iload_n hx hb dX1_tiedTo_15 rfl (lv_at hl 0 rfl) ?_
  refine nv_tab hx hb hG hS 3 (by decide) (i := (y c)) (by show y c < 4; omega) dX1_tiedTo_16 ?_
  refine lv_imul hx hb dX1_tiedTo_17 ?_
  refine lv_iadd hx hb dX1_tiedTo_18 ?_
  refine lv_istore (lv' := [(4, .int ((nI (c % 8)) + (((-1)) * ((stV 3).getD (y c) 0)))), (3, .int (nI (y c))), (0, .ref l0), (1, .int (nI c)), (2, .int ((-1)))]) hx hb dX1_tiedTo_19 hl (by decide) rfl (fun ls hl => ?_)
  refine lv_iload_n hx hb dX1_tiedTo_21 rfl (lv_at hl 3 rfl) ?_
  refine lv_bipush (v := nI 8) hx hb dX1_tiedTo_22 (by decide) ?_
  refine nv_idiv hx hb dX1_tiedTo_24 (by omega) (by omega) (by omega) ?_
  refine lv_iload_n hx hb dX1_tiedTo_25 rfl (lv_at hl 4 rfl) ?_
  refine nv_sget hx hb hG hS hown 4 (by decide) rfl dX1_tiedTo_26 ?_
  refine lv_iload_n hx hb dX1_tiedTo_29 rfl (lv_at hl 1 rfl) ?_
  refine nv_tab hx hb hG hS 4 (by decide) (i := (y c)) (by show y c < 4; omega) dX1_tiedTo_30 ?_
  refine lv_imul hx hb dX1_tiedTo_31 ?_
  refine lv_iadd hx hb dX1_tiedTo_32 ?_
  refine lv_istore (lv' := [(5, .int ((nI (c / 8)) + (((-1)) * ((stV 4).getD (y c) 0)))), (4, .int ((nI (c % 8)) + (((-1)) * ((stV 3).getD (y c) 0)))), (3, .int (nI (y c))), (0, .ref l0), (1, .int (nI c)), (2, .int ((-1)))]) hx hb dX1_tiedTo_33 hl (by decide) rfl (fun ls hl => ?_)
  refine lv_iload hx hb dX1_tiedTo_35 (lv_at hl 1 rfl) ?_
  refine lv_iload hx hb dX1_tiedTo_37 (lv_at hl 0 rfl) ?_
  refine gcSN (As := [.int ((nI (c % 8)) + (((-1)) * ((stV 3).getD (y c) 0))), .int ((nI (c / 8)) + (((-1)) * ((stV 4).getD (y c) 0)))]) (rest := []) ⟨hx, hb, hml, hown, hts⟩ (c_X4_isCell l ((nI (c % 8)) + (((-1)) * ((stV 3).getD (y c) 0))) ((nI (c / 8)) + (((-1)) * ((stV 4).getD (y c) 0))) ) (va_cnB 2 hts gX1_tiedTo_X4_isCell_n80 rfl rfl rfl (hG.1 (RX1, 80, yX4_isCell) (by decide +kernel)) lk2 (by decide +kernel) ⟨Nat.le_of_ble_eq_true rfl, Nat.le_of_ble_eq_true rfl⟩) lk3 hl.1 rfl rfl (Nat.le_of_ble_eq_true rfl) ⟨Nat.zero_le _, Nat.zero_le _⟩ dX1_tiedTo_39 ?_
  refine nv_ifb_ne (tgt := 47) hx hb dX1_tiedTo_42 (by decide) (fun c_1 => ?_) (fun c_1 => ?_)
  · skip
    have hn := (pv_of (hy c) hc).1.1.mp c_1
    obtain ⟨e1, e2⟩ := (pv_of (hy c) hc).2 hn
    have e1 : (nI (c % 8)) + (((-1)) * ((stV 3).getD (y c) 0)) = nI (pv (y c) c % 8) := e1
    have e2 : (nI (c / 8)) + (((-1)) * ((stV 4).getD (y c) 0)) = nI (pv (y c) c / 8) := e2
    rw [e1, e2] at hl
    refine lv_iload hx hb dX1_tiedTo_47 (lv_at hl 1 rfl) ?_
    refine lv_iload hx hb dX1_tiedTo_49 (lv_at hl 0 rfl) ?_
    refine gcSN (As := [.int (nI (pv (y c) c % 8)), .int (nI (pv (y c) c / 8))]) (rest := []) ⟨hx, hb, hml, hown, hts⟩ (c_X4_cellOf l (pv (y c) c % 8) (pv (y c) c / 8) ) (va_cnB 2 hts gX1_tiedTo_X4_cellOf_n84 rfl rfl rfl (hG.1 (RX1, 84, yX4_cellOf) (by decide +kernel)) lk2 (by decide +kernel) ⟨Nat.le_of_ble_eq_true rfl, Nat.le_of_ble_eq_true rfl⟩) lk4 hl.1 rfl rfl (Nat.le_of_ble_eq_true rfl) ⟨Nat.zero_le _, Nat.zero_le _⟩ dX1_tiedTo_51 ?_
    refine top_eq (congrArg nI (show 8 * (pv (y c) c / 8) + pv (y c) c % 8 = pv (y c) c by omega)) ?_
    refine lv_istore (lv' := [(6, .int (nI (pv (y c) c))), (5, .int (nI (pv (y c) c / 8))), (4, .int (nI (pv (y c) c % 8))), (3, .int (nI (y c))), (0, .ref l0), (1, .int (nI c)), (2, .int ((-1)))]) hx hb dX1_tiedTo_54 hl (by decide) rfl (fun ls hl => ?_)
    refine lv_aload_n hx hb dX1_tiedTo_56 rfl (lv_at hl 4 rfl) ?_
    refine va_get (D := D) (ci := 1) (v := .ref l1) (C := RX1) (T := TX1) (N := 9) hx hb hts hinX1 hown hK hP 0 rfl rfl 1 (by decide) lk5 (fun _ h9 => h9) rfl dX1_tiedTo_57 ?_
    refine lv_iload hx hb dX1_tiedTo_60 (lv_at hl 0 rfl) ?_
    refine nv_iald hx hb hK hP 1 rfl (by omega) (by decide) dX1_tiedTo_62 ?_
    refine top_eq (congrArg nI (hPp _ hn)) ?_
    refine nv_if_le (tgt := 82) hx hb dX1_tiedTo_63 (by decide) (by have := hp (pv (y c) c); omega) (fun c_2 => ?_) (fun c_2 => ?_)
    · skip
      refine lv_iconst (v := (-1)) hx hb dX1_tiedTo_82 (by decide) ?_
      exact hret _ () _ _ _ _ dX1_tiedTo_83 (by unfold tp; rw [if_neg (fun q => q.2.1 c_2)]; rfl) hP hD hS
    · skip
      refine lv_aload_n hx hb dX1_tiedTo_66 rfl (lv_at hl 4 rfl) ?_
      refine va_get (D := D) (ci := 1) (v := .ref l2) (C := RX1) (T := TX1) (N := 9) hx hb hts hinX1 hown hK hP 0 rfl rfl 2 (by decide) lk1 (fun _ h9 => h9) rfl dX1_tiedTo_67 ?_
      refine lv_iload hx hb dX1_tiedTo_70 (lv_at hl 0 rfl) ?_
      refine nv_iald hx hb hK hP 2 rfl (by omega) (by decide) dX1_tiedTo_72 ?_
      refine top_eq (congrArg nI (hYy _ hn)) ?_
      refine lv_iload_n hx hb dX1_tiedTo_73 rfl (lv_at hl 3 rfl) ?_
      refine nv_icmp_ne (tgt := 82) hx hb dX1_tiedTo_74 (by decide) (by have := hy (pv (y c) c); omega) (by have := hy (pv (y c) c); omega) (fun c_3 => ?_) (fun c_3 => ?_)
      · skip
        refine lv_iconst (v := (-1)) hx hb dX1_tiedTo_82 (by decide) ?_
        exact hret _ () _ _ _ _ dX1_tiedTo_83 (by unfold tp; rw [if_neg (fun q => c_3 q.2.2)]; rfl) hP hD hS
      · skip
        refine lv_iload hx hb dX1_tiedTo_77 (lv_at hl 0 rfl) ?_
        refine lv_goto (tgt := 83) hx hb dX1_tiedTo_79 (by decide) ?_
        exact hret _ () _ _ _ _ dX1_tiedTo_83 (by unfold tp; rw [if_pos ⟨hn, c_2, c_3⟩, rI_some (by omega)]) hP hD hS
  · skip
    refine lv_iconst (v := (-1)) hx hb dX1_tiedTo_45 (by decide) ?_
    exact hret _ () _ _ _ _ dX1_tiedTo_46 (by unfold tp; rw [if_neg (fun q => c_1 ((pv_of (hy c) hc).1.1.mpr q.1))]; rfl) hP hD hS
end
section
set_option maxHeartbeats 4000000 in
set_option maxRecDepth 100000 in
theorem c_X1_limitSwell_on (l : Launch) (D : va_G) (cI cZ : ClassId) (tt : Nat → Nat) (sz : Nat) (l0 l1 l2 l3 l4 l5 l6 l7 : Nat) (nm np : Nat) (P Y V F L Z X : Nat → Nat) (p y : Nat → Nat) (sw Ln : Nat) (q : Nat → Nat) (hPp : ∀ k, k < 64 → P k = p k) (hYy : ∀ k, k < 64 → Y k = y k) (hp : ∀ k, p k ≤ 100) (hy : ∀ k, y k < 4) (hV : ∀ k, k < 64 → V k ≤ 100) (hsw : sw ≤ 100) (hL1 : 1 ≤ Ln) (hL8 : Ln ≤ 8) (hq : ∀ i, i < Ln → q i < 64) (hqs : ∀ i, i + 1 < Ln → tn p y (q i) = q (i + 1)) (hqe : tn p y (q (Ln - 1)) = 64) (hqi : ∀ i j, i < Ln → j < Ln → q i = q j → i = j) : MI l yX1_limitSwell wsX1_limitSwell ({ frames := 2, cells := 0, slots := 0, locals := 47 } : Room) D cI cZ tt [.ref l0, .int (nI (q 0)), .int (nI 1), .int (nI sw)] [(l0, .inr (1, [.int (nI nm), .ref l1, .ref l2, .ref l3, .ref l4, .ref l5, .ref l6, .ref l7, .int (nI np)])), (l1, .inl (cI, 64, .inl (nF P))), (l2, .inl (cI, 64, .inl (nF Y))), (l3, .inl (cI, 64, .inl (nF V))), (l4, .inl (cI, 64, .inl (nF F))), (l5, .inl (cI, 64, .inl (nF L))), (l6, .inl (cI, 64, .inl (nF Z))), (l7, .inl (cI, 64, .inl (nF X)))] sz (fun (r : Int32) (u : (Nat → Nat)) => r = nI (q (Ln - 1)) ∧ (∀ i, i < Ln → u (q i) = le1 V sw q i) ∧ (∀ d, (∀ i, i < Ln → d ≠ q i) → u d = V d) ∧ (∀ k, k < 64 → u k ≤ 100)) (fun (u : (Nat → Nat)) => [(l0, .inr (1, [.int (nI nm), .ref l1, .ref l2, .ref l3, .ref l4, .ref l5, .ref l6, .ref l7, .int (nI np)])), (l1, .inl (cI, 64, .inl (nF P))), (l2, .inl (cI, 64, .inl (nF Y))), (l3, .inl (cI, 64, .inl (nF u))), (l4, .inl (cI, 64, .inl (nF F))), (l5, .inl (cI, 64, .inl (nF L))), (l6, .inl (cI, 64, .inl (nF Z))), (l7, .inl (cI, 64, .inl (nF X)))]) := by
  refine entI (cc := cX1_limitSwell) 7 (by decide) rfl (Nat.le_of_ble_eq_true rfl) (Or.inl rfl) (fun pr e s m args below meth c0 A Q H ls hx hb hml hown hts hsz hA hP hK hD hS hG hret hl => ?_)
  have hown : s.vm.findClass RX1 = some m.cls := hown
  have lk1 := hts (.fieldLink RX1 18 "BurinLines$Layer" "widths" "[I") (by decide +kernel)
  have lk2 := hts (.methodLink RX1 97 Lib.Math.min.name) (by decide +kernel)
  have lk3 := hts (.static Lib.Math.min.name) (by decide +kernel)
  have lk4 := hts (.initialized "java/lang/Math") (by decide +kernel)
  have lk5 := hts (.code Lib.Math.min.name Lib.Math.min.code 2 (some .int)) (by decide +kernel)
  have hinX1 : ∀ w ∈ wsX10, w ∈ wsX1_limitSwell := by decide +kernel
  have hl : lv_has ls 7 [(0, .ref l0), (1, .int (nI (q 0))), (2, .int (nI 1)), (3, .int (nI sw))] := hl
  refine lv_iload_n hx hb dX1_limitSwell_0 rfl (lv_at hl 1 rfl) ?_
  refine lv_istore (lv' := [(4, .int (nI (q 0))), (0, .ref l0), (1, .int (nI (q 0))), (2, .int (nI 1)), (3, .int (nI sw))]) hx hb dX1_limitSwell_1 hl (by decide) rfl (fun ls hl => ?_)
  refine lv_iconst (v := nI 1) hx hb dX1_limitSwell_3 (by decide) ?_
  refine lv_istore (lv' := [(5, .int (nI 1)), (4, .int (nI (q 0))), (0, .ref l0), (1, .int (nI (q 0))), (2, .int (nI 1)), (3, .int (nI sw))]) hx hb dX1_limitSwell_4 hl (by decide) rfl (fun ls hl => ?_)
  have L6 : ∀ (n : Nat) (j : Nat) (V2 : Nat → Nat), 8 - j < n → (j < Ln) → (∀ i, i ≤ j → V2 (q i) = le1 V sw q i) → (∀ d, (∀ i, i ≤ j → d ≠ q i) → V2 d = V d) → (∀ k, k < 64 → V2 k ≤ 100) → ∀ (H : Heap) (locs : List Loc) (ls : Array Slot), va_P D vwCl [(l0, .inr (1, [.int (nI nm), .ref l1, .ref l2, .ref l3, .ref l4, .ref l5, .ref l6, .ref l7, .int (nI np)])), (l1, .inl (cI, 64, .inl (nF P))), (l2, .inl (cI, 64, .inl (nF Y))), (l3, .inl (cI, 64, .inl (nF V2))), (l4, .inl (cI, 64, .inl (nF F))), (l5, .inl (cI, 64, .inl (nF L))), (l6, .inl (cI, 64, .inl (nF Z))), (l7, .inl (cI, 64, .inl (nF X)))] H → va_D A [(l0, .inr (1, [.int (nI nm), .ref l1, .ref l2, .ref l3, .ref l4, .ref l5, .ref l6, .ref l7, .int (nI np)])), (l1, .inl (cI, 64, .inl (nF P))), (l2, .inl (cI, 64, .inl (nF Y))), (l3, .inl (cI, 64, .inl (nF V2))), (l4, .inl (cI, 64, .inl (nF F))), (l5, .inl (cI, 64, .inl (nF L))), (l6, .inl (cI, 64, .inl (nF Z))), (l7, .inl (cI, 64, .inl (nF X)))] → va_S A s.heap H locs → lv_has ls 7 [(0, .ref l0), (1, .int (nI (q 0))), (2, .int (nI 1)), (3, .int (nI sw)), (4, .int (nI (q j))), (5, .int (nI (j + 1)))] → W pr l e ({ frames := 2, cells := 0, slots := 0, locals := 47 } : Room) s m args below meth c0 H locs 0 0 Q (F0 m 6 ls []) := by
    intro n
    induction n with
    | zero => intro j V2 h0; exact absurd h0 (Nat.not_lt_zero _)
    | succ n ih6 =>
      intro j V2 hm6 hj hva hvc hvb H locs ls hP hD hS hl
      refine lv_iload hx hb dX1_limitSwell_6 (lv_at hl 5 rfl) ?_
      refine lv_bipush (v := nI 8) hx hb dX1_limitSwell_8 (by decide) ?_
      refine nv_icmp_ge (tgt := 67) hx hb dX1_limitSwell_10 (by decide) (by omega) (by omega) (fun c_1 => ?_) (fun c_1 => ?_)
      · skip
        have hjL : j = Ln - 1 := by omega
        refine lv_iload hx hb dX1_limitSwell_67 (lv_at hl 4 rfl) ?_
        exact hret _ _ _ _ _ _ dX1_limitSwell_69 (⟨by rw [hjL], by intro i hi; exact hva i (by omega), by intro d hd; exact hvc d (fun i hi => hd i (by omega)), hvb⟩) hP hD hS
      · skip
        refine lv_aload_n hx hb dX1_limitSwell_13 rfl (lv_at hl 0 rfl) ?_
        refine lv_iload hx hb dX1_limitSwell_14 (lv_at hl 4 rfl) ?_
        refine lv_iload_n hx hb dX1_limitSwell_16 rfl (lv_at hl 2 rfl) ?_
        refine gcVi (ws' := fun _ => [(l0, .inr (1, [.int (nI nm), .ref l1, .ref l2, .ref l3, .ref l4, .ref l5, .ref l6, .ref l7, .int (nI np)])), (l1, .inl (cI, 64, .inl (nF P))), (l2, .inl (cI, 64, .inl (nF Y))), (l3, .inl (cI, 64, .inl (nF V2))), (l4, .inl (cI, 64, .inl (nF F))), (l5, .inl (cI, 64, .inl (nF L))), (l6, .inl (cI, 64, .inl (nF Z))), (l7, .inl (cI, 64, .inl (nF X)))]) (wr := []) (ci := 1) (q0 := 0) (As := [.int (nI (q j)), .int (nI 1)]) (rest := []) ⟨hx, hb, hml, hown, hts⟩ (c_X1_tiedTo_on l D cI cZ tt H.size l0 l1 l2 l3 l4 l5 l6 l7 nm np P Y V2 F L Z X p y (q j) (by first | assumption | omega) (by first | assumption | omega) (by first | assumption | omega) (by first | assumption | omega) (by exact hq j hj)) (cwV 2 hts gX1_limitSwell_X1_tiedTo rfl rfl rfl (by decide +kernel) ⟨Nat.le_of_ble_eq_true rfl, Nat.le_of_ble_eq_true rfl⟩) hP hK hD hS hA hG rfl rfl [0, 1, 2, 3, 4, 5, 6, 7] [] [0, 1, 2, 3, 4, 5, 6, 7] (by decide) rfl rfl (by decide) (by decide) (by decide) (fun _ => rfl) hl.1 rfl rfl (Nat.le_of_ble_eq_true rfl) ⟨Nat.zero_le _, Nat.zero_le _⟩ dX1_limitSwell_17 (fun r u H locs hp hP hD hS => ?_)
        obtain rfl := hp
        have hP : va_P D vwCl [(l0, .inr (1, [.int (nI nm), .ref l1, .ref l2, .ref l3, .ref l4, .ref l5, .ref l6, .ref l7, .int (nI np)])), (l1, .inl (cI, 64, .inl (nF P))), (l2, .inl (cI, 64, .inl (nF Y))), (l3, .inl (cI, 64, .inl (nF V2))), (l4, .inl (cI, 64, .inl (nF F))), (l5, .inl (cI, 64, .inl (nF L))), (l6, .inl (cI, 64, .inl (nF Z))), (l7, .inl (cI, 64, .inl (nF X)))] H := hP
        have hD : va_D A [(l0, .inr (1, [.int (nI nm), .ref l1, .ref l2, .ref l3, .ref l4, .ref l5, .ref l6, .ref l7, .int (nI np)])), (l1, .inl (cI, 64, .inl (nF P))), (l2, .inl (cI, 64, .inl (nF Y))), (l3, .inl (cI, 64, .inl (nF V2))), (l4, .inl (cI, 64, .inl (nF F))), (l5, .inl (cI, 64, .inl (nF L))), (l6, .inl (cI, 64, .inl (nF Z))), (l7, .inl (cI, 64, .inl (nF X)))] := hD
        refine lv_istore (lv' := [(6, .int (rI (tn p y (q j)))), (0, .ref l0), (1, .int (nI (q 0))), (2, .int (nI 1)), (3, .int (nI sw)), (4, .int (nI (q j))), (5, .int (nI (j + 1)))]) hx hb dX1_limitSwell_20 hl (by decide) rfl (fun ls hl => ?_)
        refine lv_iload hx hb dX1_limitSwell_22 (lv_at hl 0 rfl) ?_
        refine lv_iconst (v := (-1)) hx hb dX1_limitSwell_24 (by decide) ?_
        refine nv_rne (tgt := 31) hx hb dX1_limitSwell_25 (by decide) (by first | assumption | omega | exact tn_le _ _ _ | exact tp_le _ _ _) (fun c_2 => ?_) (fun c_2 => ?_)
        · skip
          rw [rI_some c_2] at hl
          have hj1 : j + 1 < Ln := by
            rcases Nat.lt_or_ge (j + 1) Ln with z | z
            · exact z
            · exact absurd (by rw [show j = Ln - 1 by omega]; exact hqe) c_2
          have hqn : tn p y (q j) = q (j + 1) := hqs j hj1
          have hq64 := hq (j + 1) hj1
          rw [hqn] at hl
          have bv1 := hvb (q (j + 1)) hq64
          have bv2 := hvb (q j) (hq j hj)
          refine lv_aload_n hx hb dX1_limitSwell_31 rfl (lv_at hl 1 rfl) ?_
          refine va_get (D := D) (ci := 1) (v := .ref l3) (C := RX1) (T := TX1) (N := 9) hx hb hts hinX1 hown hK hP 0 rfl rfl 3 (by decide) lk1 (fun _ h9 => h9) rfl dX1_limitSwell_32 ?_
          refine lv_iload hx hb dX1_limitSwell_35 (lv_at hl 0 rfl) ?_
          refine lv_aload_n hx hb dX1_limitSwell_37 rfl (lv_at hl 1 rfl) ?_
          refine va_get (D := D) (ci := 1) (v := .ref l3) (C := RX1) (T := TX1) (N := 9) hx hb hts hinX1 hown hK hP 0 rfl rfl 3 (by decide) lk1 (fun _ h9 => h9) rfl dX1_limitSwell_38 ?_
          refine lv_iload hx hb dX1_limitSwell_41 (lv_at hl 0 rfl) ?_
          refine nv_iald hx hb hK hP 3 rfl (by omega) (by decide) dX1_limitSwell_43 ?_
          refine lv_aload_n hx hb dX1_limitSwell_44 rfl (lv_at hl 1 rfl) ?_
          refine va_get (D := D) (ci := 1) (v := .ref l3) (C := RX1) (T := TX1) (N := 9) hx hb hts hinX1 hown hK hP 0 rfl rfl 3 (by decide) lk1 (fun _ h9 => h9) rfl dX1_limitSwell_45 ?_
          refine lv_iload hx hb dX1_limitSwell_48 (lv_at hl 5 rfl) ?_
          refine nv_iald hx hb hK hP 3 rfl (by exact hq j hj) (by decide) dX1_limitSwell_50 ?_
          refine lv_iload_n hx hb dX1_limitSwell_51 rfl (lv_at hl 4 rfl) ?_
          refine nv_iadd hx hb dX1_limitSwell_52 ?_
          refine va_mmin hx hb (by rw [hml]; exact hl.1.symm) hown lk2 lk3 lk4 lk5 (Nat.le_of_ble_eq_true rfl) (Nat.le_of_ble_eq_true rfl) (Nat.zero_le _) (Nat.zero_le _) dX1_limitSwell_53 ?_
          refine top_eq (nI_min (by omega) (by omega)) ?_
          refine nv_iast hx hb hK hP hD hS 3 rfl (by omega) (by decide) dX1_limitSwell_56 (fun H locs hP hD hS => ?_)
          have hP : va_P D vwCl [(l0, .inr (1, [.int (nI nm), .ref l1, .ref l2, .ref l3, .ref l4, .ref l5, .ref l6, .ref l7, .int (nI np)])), (l1, .inl (cI, 64, .inl (nF P))), (l2, .inl (cI, 64, .inl (nF Y))), (l3, .inl (cI, 64, .inl (nF (va_up V2 (q (j + 1)) (min (V2 (q (j + 1))) ((V2 (q j)) + sw)))))), (l4, .inl (cI, 64, .inl (nF F))), (l5, .inl (cI, 64, .inl (nF L))), (l6, .inl (cI, 64, .inl (nF Z))), (l7, .inl (cI, 64, .inl (nF X)))] H := hP
          have hD : va_D A [(l0, .inr (1, [.int (nI nm), .ref l1, .ref l2, .ref l3, .ref l4, .ref l5, .ref l6, .ref l7, .int (nI np)])), (l1, .inl (cI, 64, .inl (nF P))), (l2, .inl (cI, 64, .inl (nF Y))), (l3, .inl (cI, 64, .inl (nF (va_up V2 (q (j + 1)) (min (V2 (q (j + 1))) ((V2 (q j)) + sw)))))), (l4, .inl (cI, 64, .inl (nF F))), (l5, .inl (cI, 64, .inl (nF L))), (l6, .inl (cI, 64, .inl (nF Z))), (l7, .inl (cI, 64, .inl (nF X)))] := hD
          refine lv_iload hx hb dX1_limitSwell_57 (lv_at hl 0 rfl) ?_
          refine lv_istore (lv' := [(4, .int (nI (q (j + 1)))), (6, .int (nI (q (j + 1)))), (0, .ref l0), (1, .int (nI (q 0))), (2, .int (nI 1)), (3, .int (nI sw)), (5, .int (nI (j + 1)))]) hx hb dX1_limitSwell_59 hl (by decide) rfl (fun ls hl => ?_)
          refine lv_iinc (v := nI (j + 1 + 1)) (lv' := [(5, .int (nI (j + 1 + 1))), (4, .int (nI (q (j + 1)))), (6, .int (nI (q (j + 1)))), (0, .ref l0), (1, .int (nI (q 0))), (2, .int (nI 1)), (3, .int (nI sw))]) hx hb dX1_limitSwell_61 hl (k := 6) rfl (by exact nI_add _ 1) (by decide) rfl (fun ls hl => ?_)
          refine lv_goto (tgt := 6) hx hb dX1_limitSwell_64 (by decide) ?_
          exact ih6 (j + 1) (va_up V2 (q (j + 1)) (min (V2 (q (j + 1))) ((V2 (q j)) + sw))) (by omega) (by omega) (by
            intro i hi
            rcases Nat.lt_or_ge j i with z | z
            · rw [show i = j + 1 by omega, up_s, le1, hva j (by omega), hvc (q (j + 1)) (fun i hi e => by have := hqi (j + 1) i hj1 (by omega) e; omega)]
            · rw [up_n _ _ (fun e => by have := hqi i (j + 1) (by omega) hj1 e; omega)]; exact hva i z) (by
            intro d hd
            rw [up_n _ _ (hd (j + 1) (by omega))]
            exact hvc d (fun i hi => hd i (by omega))) (by
            intro k hk
            unfold va_up
            split
            · omega
            · exact hvb k hk) _ _ _ hP hD hS (lv_sub hl [3, 4, 5, 6, 1, 0] rfl)
        · skip
          have hjL : j = Ln - 1 := by
            rcases Nat.lt_or_ge (j + 1) Ln with z | z
            · have z1 := hqs j z
              have z2 := hq (j + 1) z
              omega
            · omega
          refine lv_goto (tgt := 67) hx hb dX1_limitSwell_28 (by decide) ?_
          refine lv_iload hx hb dX1_limitSwell_67 (lv_at hl 5 rfl) ?_
          exact hret _ _ _ _ _ _ dX1_limitSwell_69 (⟨by rw [hjL], by intro i hi; exact hva i (by omega), by intro d hd; exact hvc d (fun i hi => hd i (by omega)), hvb⟩) hP hD hS
  exact L6 (8 + 1) 0 V (by omega) (by omega) (by intro i hi; rw [show i = 0 by omega]; rfl) (fun _ _ => rfl) hV _ _ _ hP hD hS (lv_sub hl [2, 3, 4, 5, 1, 0] rfl)

set_option maxHeartbeats 4000000 in
set_option maxRecDepth 100000 in
theorem c_X1_limitSwell_back (l : Launch) (D : va_G) (cI cZ : ClassId) (tt : Nat → Nat) (sz : Nat) (l0 l1 l2 l3 l4 l5 l6 l7 : Nat) (nm np : Nat) (P Y V F L Z X : Nat → Nat) (p y : Nat → Nat) (sw Ln : Nat) (q : Nat → Nat) (hPp : ∀ k, k < 64 → P k = p k) (hYy : ∀ k, k < 64 → Y k = y k) (hp : ∀ k, p k ≤ 100) (hy : ∀ k, y k < 4) (hV : ∀ k, k < 64 → V k ≤ 100) (hsw : sw ≤ 100) (hL1 : 1 ≤ Ln) (hL8 : Ln ≤ 8) (hq : ∀ i, i < Ln → q i < 64) (hqs : ∀ i, i + 1 < Ln → tp p y (q i) = q (i + 1)) (hqe : tp p y (q (Ln - 1)) = 64) (hqi : ∀ i j, i < Ln → j < Ln → q i = q j → i = j) : MI l yX1_limitSwell wsX1_limitSwell ({ frames := 2, cells := 0, slots := 0, locals := 47 } : Room) D cI cZ tt [.ref l0, .int (nI (q 0)), .int ((-1)), .int (nI sw)] [(l0, .inr (1, [.int (nI nm), .ref l1, .ref l2, .ref l3, .ref l4, .ref l5, .ref l6, .ref l7, .int (nI np)])), (l1, .inl (cI, 64, .inl (nF P))), (l2, .inl (cI, 64, .inl (nF Y))), (l3, .inl (cI, 64, .inl (nF V))), (l4, .inl (cI, 64, .inl (nF F))), (l5, .inl (cI, 64, .inl (nF L))), (l6, .inl (cI, 64, .inl (nF Z))), (l7, .inl (cI, 64, .inl (nF X)))] sz (fun (r : Int32) (u : (Nat → Nat)) => r = nI (q (Ln - 1)) ∧ (∀ i, i < Ln → u (q i) = le1 V sw q i) ∧ (∀ d, (∀ i, i < Ln → d ≠ q i) → u d = V d) ∧ (∀ k, k < 64 → u k ≤ 100)) (fun (u : (Nat → Nat)) => [(l0, .inr (1, [.int (nI nm), .ref l1, .ref l2, .ref l3, .ref l4, .ref l5, .ref l6, .ref l7, .int (nI np)])), (l1, .inl (cI, 64, .inl (nF P))), (l2, .inl (cI, 64, .inl (nF Y))), (l3, .inl (cI, 64, .inl (nF u))), (l4, .inl (cI, 64, .inl (nF F))), (l5, .inl (cI, 64, .inl (nF L))), (l6, .inl (cI, 64, .inl (nF Z))), (l7, .inl (cI, 64, .inl (nF X)))]) := by
  refine entI (cc := cX1_limitSwell) 7 (by decide) rfl (Nat.le_of_ble_eq_true rfl) (Or.inl rfl) (fun pr e s m args below meth c0 A Q H ls hx hb hml hown hts hsz hA hP hK hD hS hG hret hl => ?_)
  have hown : s.vm.findClass RX1 = some m.cls := hown
  have lk1 := hts (.fieldLink RX1 18 "BurinLines$Layer" "widths" "[I") (by decide +kernel)
  have lk2 := hts (.methodLink RX1 97 Lib.Math.min.name) (by decide +kernel)
  have lk3 := hts (.static Lib.Math.min.name) (by decide +kernel)
  have lk4 := hts (.initialized "java/lang/Math") (by decide +kernel)
  have lk5 := hts (.code Lib.Math.min.name Lib.Math.min.code 2 (some .int)) (by decide +kernel)
  have hinX1 : ∀ w ∈ wsX10, w ∈ wsX1_limitSwell := by decide +kernel
  have hl : lv_has ls 7 [(0, .ref l0), (1, .int (nI (q 0))), (2, .int ((-1))), (3, .int (nI sw))] := hl
  refine lv_iload_n hx hb dX1_limitSwell_0 rfl (lv_at hl 1 rfl) ?_
  refine lv_istore (lv' := [(4, .int (nI (q 0))), (0, .ref l0), (1, .int (nI (q 0))), (2, .int ((-1))), (3, .int (nI sw))]) hx hb dX1_limitSwell_1 hl (by decide) rfl (fun ls hl => ?_)
  refine lv_iconst (v := nI 1) hx hb dX1_limitSwell_3 (by decide) ?_
  refine lv_istore (lv' := [(5, .int (nI 1)), (4, .int (nI (q 0))), (0, .ref l0), (1, .int (nI (q 0))), (2, .int ((-1))), (3, .int (nI sw))]) hx hb dX1_limitSwell_4 hl (by decide) rfl (fun ls hl => ?_)
  have L6 : ∀ (n : Nat) (j : Nat) (V2 : Nat → Nat), 8 - j < n → (j < Ln) → (∀ i, i ≤ j → V2 (q i) = le1 V sw q i) → (∀ d, (∀ i, i ≤ j → d ≠ q i) → V2 d = V d) → (∀ k, k < 64 → V2 k ≤ 100) → ∀ (H : Heap) (locs : List Loc) (ls : Array Slot), va_P D vwCl [(l0, .inr (1, [.int (nI nm), .ref l1, .ref l2, .ref l3, .ref l4, .ref l5, .ref l6, .ref l7, .int (nI np)])), (l1, .inl (cI, 64, .inl (nF P))), (l2, .inl (cI, 64, .inl (nF Y))), (l3, .inl (cI, 64, .inl (nF V2))), (l4, .inl (cI, 64, .inl (nF F))), (l5, .inl (cI, 64, .inl (nF L))), (l6, .inl (cI, 64, .inl (nF Z))), (l7, .inl (cI, 64, .inl (nF X)))] H → va_D A [(l0, .inr (1, [.int (nI nm), .ref l1, .ref l2, .ref l3, .ref l4, .ref l5, .ref l6, .ref l7, .int (nI np)])), (l1, .inl (cI, 64, .inl (nF P))), (l2, .inl (cI, 64, .inl (nF Y))), (l3, .inl (cI, 64, .inl (nF V2))), (l4, .inl (cI, 64, .inl (nF F))), (l5, .inl (cI, 64, .inl (nF L))), (l6, .inl (cI, 64, .inl (nF Z))), (l7, .inl (cI, 64, .inl (nF X)))] → va_S A s.heap H locs → lv_has ls 7 [(0, .ref l0), (1, .int (nI (q 0))), (2, .int ((-1))), (3, .int (nI sw)), (4, .int (nI (q j))), (5, .int (nI (j + 1)))] → W pr l e ({ frames := 2, cells := 0, slots := 0, locals := 47 } : Room) s m args below meth c0 H locs 0 0 Q (F0 m 6 ls []) := by
    intro n
    induction n with
    | zero => intro j V2 h0; exact absurd h0 (Nat.not_lt_zero _)
    | succ n ih6 =>
      intro j V2 hm6 hj hva hvc hvb H locs ls hP hD hS hl
      refine lv_iload hx hb dX1_limitSwell_6 (lv_at hl 5 rfl) ?_
      refine lv_bipush (v := nI 8) hx hb dX1_limitSwell_8 (by decide) ?_
      refine nv_icmp_ge (tgt := 67) hx hb dX1_limitSwell_10 (by decide) (by omega) (by omega) (fun c_1 => ?_) (fun c_1 => ?_)
      · skip
        have hjL : j = Ln - 1 := by omega
        refine lv_iload hx hb dX1_limitSwell_67 (lv_at hl 4 rfl) ?_
        exact hret _ _ _ _ _ _ dX1_limitSwell_69 (⟨by rw [hjL], by intro i hi; exact hva i (by omega), by intro d hd; exact hvc d (fun i hi => hd i (by omega)), hvb⟩) hP hD hS
      · skip
        refine lv_aload_n hx hb dX1_limitSwell_13 rfl (lv_at hl 0 rfl) ?_
        refine lv_iload hx hb dX1_limitSwell_14 (lv_at hl 4 rfl) ?_
        refine lv_iload_n hx hb dX1_limitSwell_16 rfl (lv_at hl 2 rfl) ?_
        refine gcVi (ws' := fun _ => [(l0, .inr (1, [.int (nI nm), .ref l1, .ref l2, .ref l3, .ref l4, .ref l5, .ref l6, .ref l7, .int (nI np)])), (l1, .inl (cI, 64, .inl (nF P))), (l2, .inl (cI, 64, .inl (nF Y))), (l3, .inl (cI, 64, .inl (nF V2))), (l4, .inl (cI, 64, .inl (nF F))), (l5, .inl (cI, 64, .inl (nF L))), (l6, .inl (cI, 64, .inl (nF Z))), (l7, .inl (cI, 64, .inl (nF X)))]) (wr := []) (ci := 1) (q0 := 0) (As := [.int (nI (q j)), .int ((-1))]) (rest := []) ⟨hx, hb, hml, hown, hts⟩ (c_X1_tiedTo_back l D cI cZ tt H.size l0 l1 l2 l3 l4 l5 l6 l7 nm np P Y V2 F L Z X p y (q j) (by first | assumption | omega) (by first | assumption | omega) (by first | assumption | omega) (by first | assumption | omega) (by exact hq j hj)) (cwV 2 hts gX1_limitSwell_X1_tiedTo rfl rfl rfl (by decide +kernel) ⟨Nat.le_of_ble_eq_true rfl, Nat.le_of_ble_eq_true rfl⟩) hP hK hD hS hA hG rfl rfl [0, 1, 2, 3, 4, 5, 6, 7] [] [0, 1, 2, 3, 4, 5, 6, 7] (by decide) rfl rfl (by decide) (by decide) (by decide) (fun _ => rfl) hl.1 rfl rfl (Nat.le_of_ble_eq_true rfl) ⟨Nat.zero_le _, Nat.zero_le _⟩ dX1_limitSwell_17 (fun r u H locs hp hP hD hS => ?_)
        obtain rfl := hp
        have hP : va_P D vwCl [(l0, .inr (1, [.int (nI nm), .ref l1, .ref l2, .ref l3, .ref l4, .ref l5, .ref l6, .ref l7, .int (nI np)])), (l1, .inl (cI, 64, .inl (nF P))), (l2, .inl (cI, 64, .inl (nF Y))), (l3, .inl (cI, 64, .inl (nF V2))), (l4, .inl (cI, 64, .inl (nF F))), (l5, .inl (cI, 64, .inl (nF L))), (l6, .inl (cI, 64, .inl (nF Z))), (l7, .inl (cI, 64, .inl (nF X)))] H := hP
        have hD : va_D A [(l0, .inr (1, [.int (nI nm), .ref l1, .ref l2, .ref l3, .ref l4, .ref l5, .ref l6, .ref l7, .int (nI np)])), (l1, .inl (cI, 64, .inl (nF P))), (l2, .inl (cI, 64, .inl (nF Y))), (l3, .inl (cI, 64, .inl (nF V2))), (l4, .inl (cI, 64, .inl (nF F))), (l5, .inl (cI, 64, .inl (nF L))), (l6, .inl (cI, 64, .inl (nF Z))), (l7, .inl (cI, 64, .inl (nF X)))] := hD
        refine lv_istore (lv' := [(6, .int (rI (tp p y (q j)))), (0, .ref l0), (1, .int (nI (q 0))), (2, .int ((-1))), (3, .int (nI sw)), (4, .int (nI (q j))), (5, .int (nI (j + 1)))]) hx hb dX1_limitSwell_20 hl (by decide) rfl (fun ls hl => ?_)
        refine lv_iload hx hb dX1_limitSwell_22 (lv_at hl 0 rfl) ?_
        refine lv_iconst (v := (-1)) hx hb dX1_limitSwell_24 (by decide) ?_
        refine nv_rne (tgt := 31) hx hb dX1_limitSwell_25 (by decide) (by first | assumption | omega | exact tn_le _ _ _ | exact tp_le _ _ _) (fun c_2 => ?_) (fun c_2 => ?_)
        · skip
          rw [rI_some c_2] at hl
          have hj1 : j + 1 < Ln := by
            rcases Nat.lt_or_ge (j + 1) Ln with z | z
            · exact z
            · exact absurd (by rw [show j = Ln - 1 by omega]; exact hqe) c_2
          have hqn : tp p y (q j) = q (j + 1) := hqs j hj1
          have hq64 := hq (j + 1) hj1
          rw [hqn] at hl
          have bv1 := hvb (q (j + 1)) hq64
          have bv2 := hvb (q j) (hq j hj)
          refine lv_aload_n hx hb dX1_limitSwell_31 rfl (lv_at hl 1 rfl) ?_
          refine va_get (D := D) (ci := 1) (v := .ref l3) (C := RX1) (T := TX1) (N := 9) hx hb hts hinX1 hown hK hP 0 rfl rfl 3 (by decide) lk1 (fun _ h9 => h9) rfl dX1_limitSwell_32 ?_
          refine lv_iload hx hb dX1_limitSwell_35 (lv_at hl 0 rfl) ?_
          refine lv_aload_n hx hb dX1_limitSwell_37 rfl (lv_at hl 1 rfl) ?_
          refine va_get (D := D) (ci := 1) (v := .ref l3) (C := RX1) (T := TX1) (N := 9) hx hb hts hinX1 hown hK hP 0 rfl rfl 3 (by decide) lk1 (fun _ h9 => h9) rfl dX1_limitSwell_38 ?_
          refine lv_iload hx hb dX1_limitSwell_41 (lv_at hl 0 rfl) ?_
          refine nv_iald hx hb hK hP 3 rfl (by omega) (by decide) dX1_limitSwell_43 ?_
          refine lv_aload_n hx hb dX1_limitSwell_44 rfl (lv_at hl 1 rfl) ?_
          refine va_get (D := D) (ci := 1) (v := .ref l3) (C := RX1) (T := TX1) (N := 9) hx hb hts hinX1 hown hK hP 0 rfl rfl 3 (by decide) lk1 (fun _ h9 => h9) rfl dX1_limitSwell_45 ?_
          refine lv_iload hx hb dX1_limitSwell_48 (lv_at hl 5 rfl) ?_
          refine nv_iald hx hb hK hP 3 rfl (by exact hq j hj) (by decide) dX1_limitSwell_50 ?_
          refine lv_iload_n hx hb dX1_limitSwell_51 rfl (lv_at hl 4 rfl) ?_
          refine nv_iadd hx hb dX1_limitSwell_52 ?_
          refine va_mmin hx hb (by rw [hml]; exact hl.1.symm) hown lk2 lk3 lk4 lk5 (Nat.le_of_ble_eq_true rfl) (Nat.le_of_ble_eq_true rfl) (Nat.zero_le _) (Nat.zero_le _) dX1_limitSwell_53 ?_
          refine top_eq (nI_min (by omega) (by omega)) ?_
          refine nv_iast hx hb hK hP hD hS 3 rfl (by omega) (by decide) dX1_limitSwell_56 (fun H locs hP hD hS => ?_)
          have hP : va_P D vwCl [(l0, .inr (1, [.int (nI nm), .ref l1, .ref l2, .ref l3, .ref l4, .ref l5, .ref l6, .ref l7, .int (nI np)])), (l1, .inl (cI, 64, .inl (nF P))), (l2, .inl (cI, 64, .inl (nF Y))), (l3, .inl (cI, 64, .inl (nF (va_up V2 (q (j + 1)) (min (V2 (q (j + 1))) ((V2 (q j)) + sw)))))), (l4, .inl (cI, 64, .inl (nF F))), (l5, .inl (cI, 64, .inl (nF L))), (l6, .inl (cI, 64, .inl (nF Z))), (l7, .inl (cI, 64, .inl (nF X)))] H := hP
          have hD : va_D A [(l0, .inr (1, [.int (nI nm), .ref l1, .ref l2, .ref l3, .ref l4, .ref l5, .ref l6, .ref l7, .int (nI np)])), (l1, .inl (cI, 64, .inl (nF P))), (l2, .inl (cI, 64, .inl (nF Y))), (l3, .inl (cI, 64, .inl (nF (va_up V2 (q (j + 1)) (min (V2 (q (j + 1))) ((V2 (q j)) + sw)))))), (l4, .inl (cI, 64, .inl (nF F))), (l5, .inl (cI, 64, .inl (nF L))), (l6, .inl (cI, 64, .inl (nF Z))), (l7, .inl (cI, 64, .inl (nF X)))] := hD
          refine lv_iload hx hb dX1_limitSwell_57 (lv_at hl 0 rfl) ?_
          refine lv_istore (lv' := [(4, .int (nI (q (j + 1)))), (6, .int (nI (q (j + 1)))), (0, .ref l0), (1, .int (nI (q 0))), (2, .int ((-1))), (3, .int (nI sw)), (5, .int (nI (j + 1)))]) hx hb dX1_limitSwell_59 hl (by decide) rfl (fun ls hl => ?_)
          refine lv_iinc (v := nI (j + 1 + 1)) (lv' := [(5, .int (nI (j + 1 + 1))), (4, .int (nI (q (j + 1)))), (6, .int (nI (q (j + 1)))), (0, .ref l0), (1, .int (nI (q 0))), (2, .int ((-1))), (3, .int (nI sw))]) hx hb dX1_limitSwell_61 hl (k := 6) rfl (by exact nI_add _ 1) (by decide) rfl (fun ls hl => ?_)
          refine lv_goto (tgt := 6) hx hb dX1_limitSwell_64 (by decide) ?_
          exact ih6 (j + 1) (va_up V2 (q (j + 1)) (min (V2 (q (j + 1))) ((V2 (q j)) + sw))) (by omega) (by omega) (by
            intro i hi
            rcases Nat.lt_or_ge j i with z | z
            · rw [show i = j + 1 by omega, up_s, le1, hva j (by omega), hvc (q (j + 1)) (fun i hi e => by have := hqi (j + 1) i hj1 (by omega) e; omega)]
            · rw [up_n _ _ (fun e => by have := hqi i (j + 1) (by omega) hj1 e; omega)]; exact hva i z) (by
            intro d hd
            rw [up_n _ _ (hd (j + 1) (by omega))]
            exact hvc d (fun i hi => hd i (by omega))) (by
            intro k hk
            unfold va_up
            split
            · omega
            · exact hvb k hk) _ _ _ hP hD hS (lv_sub hl [3, 4, 5, 6, 1, 0] rfl)
        · skip
          have hjL : j = Ln - 1 := by
            rcases Nat.lt_or_ge (j + 1) Ln with z | z
            · have z1 := hqs j z
              have z2 := hq (j + 1) z
              omega
            · omega
          refine lv_goto (tgt := 67) hx hb dX1_limitSwell_28 (by decide) ?_
          refine lv_iload hx hb dX1_limitSwell_67 (lv_at hl 5 rfl) ?_
          exact hret _ _ _ _ _ _ dX1_limitSwell_69 (⟨by rw [hjL], by intro i hi; exact hva i (by omega), by intro d hd; exact hvc d (fun i hi => hd i (by omega)), hvb⟩) hP hD hS
  exact L6 (8 + 1) 0 V (by omega) (by omega) (by intro i hi; rw [show i = 0 by omega]; rfl) (fun _ _ => rfl) hV _ _ _ hP hD hS (lv_sub hl [2, 3, 4, 5, 1, 0] rfl)

set_option maxHeartbeats 4000000 in
set_option maxRecDepth 100000 in
theorem c_X1_greatestWidthFrom (l : Launch) (D : va_G) (cI cZ : ClassId) (tt : Nat → Nat) (sz : Nat) (l0 l1 l2 l3 l4 l5 l6 l7 : Nat) (nm np : Nat) (P Y V F L Z X : Nat → Nat) (p y : Nat → Nat) (c : Nat) (hPp : ∀ k, k < 64 → P k = p k) (hYy : ∀ k, k < 64 → Y k = y k) (hp : ∀ k, p k ≤ 100) (hy : ∀ k, y k < 4) (hV : ∀ k, k < 64 → V k ≤ 100) (hc : c < 64) (hc0 : ¬ p c = 0) : MI l yX1_greatestWidthFrom wsX1_greatestWidthFrom ({ frames := 2, cells := 0, slots := 0, locals := 47 } : Room) D cI cZ tt [.ref l0, .int (nI c)] [(l0, .inr (1, [.int (nI nm), .ref l1, .ref l2, .ref l3, .ref l4, .ref l5, .ref l6, .ref l7, .int (nI np)])), (l1, .inl (cI, 64, .inl (nF P))), (l2, .inl (cI, 64, .inl (nF Y))), (l3, .inl (cI, 64, .inl (nF V))), (l4, .inl (cI, 64, .inl (nF F))), (l5, .inl (cI, 64, .inl (nF L))), (l6, .inl (cI, 64, .inl (nF Z))), (l7, .inl (cI, 64, .inl (nF X)))] sz (fun (r : Int32) (_ : Unit) => r = nI (mxf (fun i => V (ch p y c i)) (ln p y c))) (fun (_ : Unit) => [(l0, .inr (1, [.int (nI nm), .ref l1, .ref l2, .ref l3, .ref l4, .ref l5, .ref l6, .ref l7, .int (nI np)])), (l1, .inl (cI, 64, .inl (nF P))), (l2, .inl (cI, 64, .inl (nF Y))), (l3, .inl (cI, 64, .inl (nF V))), (l4, .inl (cI, 64, .inl (nF F))), (l5, .inl (cI, 64, .inl (nF L))), (l6, .inl (cI, 64, .inl (nF Z))), (l7, .inl (cI, 64, .inl (nF X)))]) := by
  refine entI (cc := cX1_greatestWidthFrom) 5 (by decide) rfl (Nat.le_of_ble_eq_true rfl) (Or.inl rfl) (fun pr e s m args below meth c0 A Q H ls hx hb hml hown hts hsz hA hP hK hD hS hG hret hl => ?_)
  have hown : s.vm.findClass RX1 = some m.cls := hown
  have lk1 := hts (.fieldLink RX1 18 "BurinLines$Layer" "widths" "[I") (by decide +kernel)
  have lk2 := hts (.methodLink RX1 100 Lib.Math.max.name) (by decide +kernel)
  have lk3 := hts (.static Lib.Math.max.name) (by decide +kernel)
  have lk4 := hts (.initialized "java/lang/Math") (by decide +kernel)
  have lk5 := hts (.code Lib.Math.max.name Lib.Math.max.code 2 (some .int)) (by decide +kernel)
  have hinX1 : ∀ w ∈ wsX10, w ∈ wsX1_greatestWidthFrom := by decide +kernel
  have hl : lv_has ls 5 [(0, .ref l0), (1, .int (nI c))] := hl
  have hln := ln_spec (Y := y) hc hc0
  refine lv_iconst (v := nI 0) hx hb dX1_greatestWidthFrom_0 (by decide) ?_
  refine lv_istore_n (lv' := [(2, .int (nI 0)), (0, .ref l0), (1, .int (nI c))]) hx hb dX1_greatestWidthFrom_1 rfl hl (by decide) rfl (fun ls hl => ?_)
  have hrc : rI c = nI c := rI_some (by omega)
  refine lv_iload_n hx hb dX1_greatestWidthFrom_2 rfl (lv_at hl 2 rfl) ?_
  refine lv_istore_n (lv' := [(3, .int (nI c)), (2, .int (nI 0)), (0, .ref l0), (1, .int (nI c))]) hx hb dX1_greatestWidthFrom_3 rfl hl (by decide) rfl (fun ls hl => ?_)
  refine lv_iconst (v := nI 0) hx hb dX1_greatestWidthFrom_4 (by decide) ?_
  refine lv_istore (lv' := [(4, .int (nI 0)), (3, .int (nI c)), (2, .int (nI 0)), (0, .ref l0), (1, .int (nI c))]) hx hb dX1_greatestWidthFrom_5 hl (by decide) rfl (fun ls hl => ?_)
  have L7 : ∀ (n : Nat) (j : Nat) (gm : Nat), 8 - j < n → (j ≤ ln p y c) → (gm = mxf (fun i => V (ch p y c i)) j) → (gm ≤ 100) → (ch p y c j ≤ 64) → ∀ (H : Heap) (locs : List Loc) (ls : Array Slot), va_P D vwCl [(l0, .inr (1, [.int (nI nm), .ref l1, .ref l2, .ref l3, .ref l4, .ref l5, .ref l6, .ref l7, .int (nI np)])), (l1, .inl (cI, 64, .inl (nF P))), (l2, .inl (cI, 64, .inl (nF Y))), (l3, .inl (cI, 64, .inl (nF V))), (l4, .inl (cI, 64, .inl (nF F))), (l5, .inl (cI, 64, .inl (nF L))), (l6, .inl (cI, 64, .inl (nF Z))), (l7, .inl (cI, 64, .inl (nF X)))] H → va_D A [(l0, .inr (1, [.int (nI nm), .ref l1, .ref l2, .ref l3, .ref l4, .ref l5, .ref l6, .ref l7, .int (nI np)])), (l1, .inl (cI, 64, .inl (nF P))), (l2, .inl (cI, 64, .inl (nF Y))), (l3, .inl (cI, 64, .inl (nF V))), (l4, .inl (cI, 64, .inl (nF F))), (l5, .inl (cI, 64, .inl (nF L))), (l6, .inl (cI, 64, .inl (nF Z))), (l7, .inl (cI, 64, .inl (nF X)))] → va_S A s.heap H locs → lv_has ls 5 [(0, .ref l0), (1, .int (nI c)), (2, .int (nI gm)), (3, .int (rI (ch p y c j))), (4, .int (nI j))] → W pr l e ({ frames := 2, cells := 0, slots := 0, locals := 47 } : Room) s m args below meth c0 H locs 0 0 Q (F0 m 7 ls []) := by
    intro n
    induction n with
    | zero => intro j gm h0; exact absurd h0 (Nat.not_lt_zero _)
    | succ n ih7 =>
      intro j gm hm7 hj hgm hgb hcl H locs ls hP hD hS hl
      refine lv_iload hx hb dX1_greatestWidthFrom_7 (lv_at hl 4 rfl) ?_
      refine lv_bipush (v := nI 8) hx hb dX1_greatestWidthFrom_9 (by decide) ?_
      refine nv_icmp_ge (tgt := 43) hx hb dX1_greatestWidthFrom_11 (by decide) (by omega) (by omega) (fun c_1 => ?_) (fun c_1 => ?_)
      · skip
        have hjL : j = ln p y c := by omega
        refine lv_iload_n hx hb dX1_greatestWidthFrom_43 rfl (lv_at hl 2 rfl) ?_
        exact hret _ () _ _ _ _ dX1_greatestWidthFrom_44 (by rw [hgm, hjL]) hP hD hS
      · skip
        refine lv_iload_n hx hb dX1_greatestWidthFrom_14 rfl (lv_at hl 3 rfl) ?_
        refine lv_iconst (v := (-1)) hx hb dX1_greatestWidthFrom_15 (by decide) ?_
        refine nv_req (tgt := 43) hx hb dX1_greatestWidthFrom_16 (by decide) hcl (fun c_2 => ?_) (fun c_2 => ?_)
        · skip
          have hjL : j = ln p y c := by
            rcases Nat.lt_or_ge j (ln p y c) with z | z
            · have := (hln.2.2.2 j z).1
              omega
            · omega
          refine lv_iload_n hx hb dX1_greatestWidthFrom_43 rfl (lv_at hl 2 rfl) ?_
          exact hret _ () _ _ _ _ dX1_greatestWidthFrom_44 (by rw [hgm, hjL]) hP hD hS
        · skip
          rw [rI_some c_2] at hl
          have hjl : j < ln p y c := by
            rcases Nat.lt_or_ge j (ln p y c) with z | z
            · exact z
            · refine absurd ?_ c_2
              rw [show j = (ln p y c - 1) + 1 by omega]
              exact hln.2.2.1
          have hc64 := (hln.2.2.2 j hjl).1
          have bv := hV (ch p y c j) hc64
          refine lv_iload_n hx hb dX1_greatestWidthFrom_19 rfl (lv_at hl 2 rfl) ?_
          refine lv_aload_n hx hb dX1_greatestWidthFrom_20 rfl (lv_at hl 0 rfl) ?_
          refine va_get (D := D) (ci := 1) (v := .ref l3) (C := RX1) (T := TX1) (N := 9) hx hb hts hinX1 hown hK hP 0 rfl rfl 3 (by decide) lk1 (fun _ h9 => h9) rfl dX1_greatestWidthFrom_21 ?_
          refine lv_iload_n hx hb dX1_greatestWidthFrom_24 rfl (lv_at hl 3 rfl) ?_
          refine nv_iald hx hb hK hP 3 rfl (by omega) (by decide) dX1_greatestWidthFrom_25 ?_
          refine va_mmax hx hb (by rw [hml]; exact hl.1.symm) hown lk2 lk3 lk4 lk5 (Nat.le_of_ble_eq_true rfl) (Nat.le_of_ble_eq_true rfl) (Nat.zero_le _) (Nat.zero_le _) dX1_greatestWidthFrom_26 ?_
          refine top_eq (nI_max (by omega) (by omega)) ?_
          refine lv_istore_n (lv' := [(2, .int (nI (max gm (V (ch p y c j))))), (0, .ref l0), (1, .int (nI c)), (3, .int (nI (ch p y c j))), (4, .int (nI j))]) hx hb dX1_greatestWidthFrom_29 rfl hl (by decide) rfl (fun ls hl => ?_)
          refine lv_aload_n hx hb dX1_greatestWidthFrom_30 rfl (lv_at hl 1 rfl) ?_
          refine lv_iload_n hx hb dX1_greatestWidthFrom_31 rfl (lv_at hl 3 rfl) ?_
          refine lv_iconst (v := nI 1) hx hb dX1_greatestWidthFrom_32 (by decide) ?_
          refine gcVi (ws' := fun _ => [(l0, .inr (1, [.int (nI nm), .ref l1, .ref l2, .ref l3, .ref l4, .ref l5, .ref l6, .ref l7, .int (nI np)])), (l1, .inl (cI, 64, .inl (nF P))), (l2, .inl (cI, 64, .inl (nF Y))), (l3, .inl (cI, 64, .inl (nF V))), (l4, .inl (cI, 64, .inl (nF F))), (l5, .inl (cI, 64, .inl (nF L))), (l6, .inl (cI, 64, .inl (nF Z))), (l7, .inl (cI, 64, .inl (nF X)))]) (wr := []) (ci := 1) (q0 := 0) (As := [.int (nI (ch p y c j)), .int (nI 1)]) (rest := []) ⟨hx, hb, hml, hown, hts⟩ (c_X1_tiedTo_on l D cI cZ tt H.size l0 l1 l2 l3 l4 l5 l6 l7 nm np P Y V F L Z X p y (ch p y c j) (by first | assumption | omega) (by first | assumption | omega) (by first | assumption | omega) (by first | assumption | omega) (by exact hc64)) (cwV 2 hts gX1_greatestWidthFrom_X1_tiedTo rfl rfl rfl (by decide +kernel) ⟨Nat.le_of_ble_eq_true rfl, Nat.le_of_ble_eq_true rfl⟩) hP hK hD hS hA hG rfl rfl [0, 1, 2, 3, 4, 5, 6, 7] [] [0, 1, 2, 3, 4, 5, 6, 7] (by decide) rfl rfl (by decide) (by decide) (by decide) (fun _ => rfl) hl.1 rfl rfl (Nat.le_of_ble_eq_true rfl) ⟨Nat.zero_le _, Nat.zero_le _⟩ dX1_greatestWidthFrom_33 (fun r u H locs hp hP hD hS => ?_)
          obtain rfl := hp
          have hP : va_P D vwCl [(l0, .inr (1, [.int (nI nm), .ref l1, .ref l2, .ref l3, .ref l4, .ref l5, .ref l6, .ref l7, .int (nI np)])), (l1, .inl (cI, 64, .inl (nF P))), (l2, .inl (cI, 64, .inl (nF Y))), (l3, .inl (cI, 64, .inl (nF V))), (l4, .inl (cI, 64, .inl (nF F))), (l5, .inl (cI, 64, .inl (nF L))), (l6, .inl (cI, 64, .inl (nF Z))), (l7, .inl (cI, 64, .inl (nF X)))] H := hP
          have hD : va_D A [(l0, .inr (1, [.int (nI nm), .ref l1, .ref l2, .ref l3, .ref l4, .ref l5, .ref l6, .ref l7, .int (nI np)])), (l1, .inl (cI, 64, .inl (nF P))), (l2, .inl (cI, 64, .inl (nF Y))), (l3, .inl (cI, 64, .inl (nF V))), (l4, .inl (cI, 64, .inl (nF F))), (l5, .inl (cI, 64, .inl (nF L))), (l6, .inl (cI, 64, .inl (nF Z))), (l7, .inl (cI, 64, .inl (nF X)))] := hD
          refine lv_istore_n (lv' := [(3, .int (rI (tn p y (ch p y c j)))), (2, .int (nI (max gm (V (ch p y c j))))), (0, .ref l0), (1, .int (nI c)), (4, .int (nI j))]) hx hb dX1_greatestWidthFrom_36 rfl hl (by decide) rfl (fun ls hl => ?_)
          refine lv_iinc (v := nI (j + 1)) (lv' := [(4, .int (nI (j + 1))), (3, .int (rI (tn p y (ch p y c j)))), (2, .int (nI (max gm (V (ch p y c j))))), (0, .ref l0), (1, .int (nI c))]) hx hb dX1_greatestWidthFrom_37 hl (k := 4) rfl (by exact nI_add _ 1) (by decide) rfl (fun ls hl => ?_)
          refine lv_goto (tgt := 7) hx hb dX1_greatestWidthFrom_40 (by decide) ?_
          exact ih7 (j + 1) (max gm (V (ch p y c j))) (by omega) (by omega) (by rw [mxf, hgm]) (by omega) (tn_le _ _ _) _ _ _ hP hD hS (lv_sub hl [3, 4, 2, 1, 0] rfl)
  exact L7 (8 + 1) 0 0 (by omega) (by omega) rfl (by omega) (by show c ≤ 64; omega) _ _ _ hP hD hS (lv_sub hl [3, 4, 2, 1, 0] (by rw [show rI (ch p y c 0) = nI c from hrc]; rfl))
end
section
set_option maxHeartbeats 4000000 in
set_option maxRecDepth 100000 in
theorem c_X1_addPath (l : Launch) (D : va_G) (cI cZ : ClassId) (tt : Nat → Nat) (sz : Nat) (l0 l1 l2 l3 l4 l5 l6 l7 : Nat) (nm np : Nat) (P Y V F L Z X : Nat → Nat) (p y : Nat → Nat) (sw c : Nat) (hPp : ∀ k, k < 64 → P k = p k) (hYy : ∀ k, k < 64 → Y k = y k) (hp : ∀ k, p k ≤ 100) (hy : ∀ k, y k < 4) (hV : ∀ k, k < 64 → V k ≤ 100) (hsw : sw ≤ 100) (hc : c < 64) (hb2 : bgn p y c) (hnp : np < 64) (hfresh : ∀ j, j < ln p y c → V (ch p y c j) = p (ch p y c j)) : MV l yX1_addPath wsX1_addPath ({ frames := 3, cells := 0, slots := 0, locals := 73 } : Room) D cI cZ tt [.ref l0, .int (nI c), .int (nI sw)] [(l0, .inr (1, [.int (nI nm), .ref l1, .ref l2, .ref l3, .ref l4, .ref l5, .ref l6, .ref l7, .int (nI np)])), (l1, .inl (cI, 64, .inl (nF P))), (l2, .inl (cI, 64, .inl (nF Y))), (l3, .inl (cI, 64, .inl (nF V))), (l4, .inl (cI, 64, .inl (nF F))), (l5, .inl (cI, 64, .inl (nF L))), (l6, .inl (cI, 64, .inl (nF Z))), (l7, .inl (cI, 64, .inl (nF X)))] sz 0 0 (fun (u : (Nat → Nat) × (Nat → Nat) × (Nat → Nat) × (Nat → Nat) × (Nat → Nat)) => (okP p y sw c u.1) ∧ (∀ d, (∀ j, j < ln p y c → d ≠ ch p y c j) → u.1 d = V d) ∧ (∀ k, k < 64 → u.1 k ≤ 100) ∧ (u.2.1 = va_up F np c) ∧ (u.2.2.1 = va_up L np (ch p y c (ln p y c - 1))) ∧ (u.2.2.2.1 = va_up Z np (ln p y c)) ∧ (u.2.2.2.2 = va_up X np (mxf (wdt p y sw c) (ln p y c)))) (fun (u : (Nat → Nat) × (Nat → Nat) × (Nat → Nat) × (Nat → Nat) × (Nat → Nat)) => [(l0, .inr (1, [.int (nI nm), .ref l1, .ref l2, .ref l3, .ref l4, .ref l5, .ref l6, .ref l7, .int (nI (np + 1))])), (l1, .inl (cI, 64, .inl (nF P))), (l2, .inl (cI, 64, .inl (nF Y))), (l3, .inl (cI, 64, .inl (nF u.1))), (l4, .inl (cI, 64, .inl (nF u.2.1))), (l5, .inl (cI, 64, .inl (nF u.2.2.1))), (l6, .inl (cI, 64, .inl (nF u.2.2.2.1))), (l7, .inl (cI, 64, .inl (nF u.2.2.2.2)))]) := by
  refine entV (cc := cX1_addPath) 4 (by decide) rfl (Nat.le_of_ble_eq_true rfl) (fun pr e s m args below meth c0 A Q H ls hx hb hml hown hts hin hsz hA hP hK hD hS hG hret hl => ?_)
  have hown : s.vm.findClass RX1 = some m.cls := hown
  have lk1 := hts (.fieldLink RX1 55 "BurinLines$Layer" "pathCount" "I") (by decide +kernel)
  have lk2 := hts (.fieldLink RX1 21 "BurinLines$Layer" "firsts" "[I") (by decide +kernel)
  have lk3 := hts (.fieldLink RX1 24 "BurinLines$Layer" "lasts" "[I") (by decide +kernel)
  have lk4 := hts (.fieldLink RX1 27 "BurinLines$Layer" "lengths" "[I") (by decide +kernel)
  have lk5 := hts (.initialized RX4) (by decide +kernel)
  have lk6 := hts (.static yX4_wayBetween) (by decide +kernel)
  have lk7 := hts (.fieldLink RX1 30 "BurinLines$Layer" "greatestWidths" "[I") (by decide +kernel)
  have hinX1 : ∀ w ∈ wsX10, w ∈ wsX1_addPath := by decide +kernel
  have hl : lv_has ls 4 [(0, .ref l0), (1, .int (nI c)), (2, .int (nI sw))] := hl
  have hln := ln_spec (Y := y) hc hb2.1
  have hbk : ∀ i, i + 1 < ln p y c → tp p y (ch p y c (ln p y c - 1 - i)) = ch p y c (ln p y c - 1 - (i + 1)) := by
    intro i hi
    rw [show ln p y c - 1 - i = (ln p y c - 1 - (i + 1)) + 1 by omega]
    exact ch_back hc hb2.1 (by omega)
  refine lv_aload_n hx hb dX1_addPath_0 rfl (lv_at hl 0 rfl) ?_
  refine va_get (D := D) (ci := 1) (v := .int (nI np)) (C := RX1) (T := TX1) (N := 9) hx hb hts hinX1 hown hK hP 0 rfl rfl 8 (by decide) lk1 (fun _ h9 => h9) rfl dX1_addPath_1 ?_
  refine lv_bipush (v := nI 64) hx hb dX1_addPath_4 (by decide) ?_
  refine nv_icmp_lt (tgt := 10) hx hb dX1_addPath_6 (by decide) (by omega) (by omega) (fun c_1 => ?_) (fun c_1 => ?_)
  · skip
    refine lv_aload_n hx hb dX1_addPath_10 rfl (lv_at hl 0 rfl) ?_
    refine lv_iload_n hx hb dX1_addPath_11 rfl (lv_at hl 1 rfl) ?_
    refine lv_iconst (v := nI 1) hx hb dX1_addPath_12 (by decide) ?_
    refine lv_iload_n hx hb dX1_addPath_13 rfl (lv_at hl 2 rfl) ?_
    refine gcVi (ws' := fun (u : (Nat → Nat)) => [(l0, .inr (1, [.int (nI nm), .ref l1, .ref l2, .ref l3, .ref l4, .ref l5, .ref l6, .ref l7, .int (nI np)])), (l1, .inl (cI, 64, .inl (nF P))), (l2, .inl (cI, 64, .inl (nF Y))), (l3, .inl (cI, 64, .inl (nF u))), (l4, .inl (cI, 64, .inl (nF F))), (l5, .inl (cI, 64, .inl (nF L))), (l6, .inl (cI, 64, .inl (nF Z))), (l7, .inl (cI, 64, .inl (nF X)))]) (wr := []) (ci := 1) (q0 := 0) (As := [.int (nI c), .int (nI 1), .int (nI sw)]) (rest := []) ⟨hx, hb, hml, hown, hts⟩ (c_X1_limitSwell_on l D cI cZ tt H.size l0 l1 l2 l3 l4 l5 l6 l7 nm np P Y V F L Z X p y sw (ln p y c) (ch p y c) (by first | assumption | omega) (by first | assumption | omega) (by first | assumption | omega) (by first | assumption | omega) (by first | assumption | omega) (by first | assumption | omega) (by exact hln.1) (by exact hln.2.1) (by exact fun i hi => (hln.2.2.2 i hi).1) (by exact fun i hi => rfl) (by exact hln.2.2.1) (by exact fun i j hi hj e => ch_inj hc hb2.1 hi hj e)) (cwV 3 hts gX1_addPath_X1_limitSwell rfl rfl rfl (by decide +kernel) ⟨Nat.le_of_ble_eq_true rfl, Nat.le_of_ble_eq_true rfl⟩) hP hK hD hS hA hG rfl rfl [0, 1, 2, 3, 4, 5, 6, 7] [] [0, 1, 2, 3, 4, 5, 6, 7] (by decide) rfl rfl (by decide) (by decide) (by decide) (fun _ => rfl) hl.1 rfl rfl (Nat.le_of_ble_eq_true rfl) ⟨Nat.zero_le _, Nat.zero_le _⟩ dX1_addPath_14 (fun r u H locs hp hP hD hS => ?_)
    obtain ⟨V2_2, rfl⟩ : ∃ z, z = u := ⟨_, rfl⟩
    obtain ⟨rfl, hv1_3, hv2_4, hv3_5⟩ := hp
    have hv1_3 : ∀ i, i < (ln p y c) → V2_2 ((ch p y c) i) = le1 V sw (ch p y c) i := hv1_3
    have hv2_4 : ∀ d, (∀ i, i < (ln p y c) → d ≠ (ch p y c) i) → V2_2 d = V d := hv2_4
    have hv3_5 : ∀ k, k < 64 → V2_2 k ≤ 100 := hv3_5
    have hP : va_P D vwCl [(l0, .inr (1, [.int (nI nm), .ref l1, .ref l2, .ref l3, .ref l4, .ref l5, .ref l6, .ref l7, .int (nI np)])), (l1, .inl (cI, 64, .inl (nF P))), (l2, .inl (cI, 64, .inl (nF Y))), (l3, .inl (cI, 64, .inl (nF V2_2))), (l4, .inl (cI, 64, .inl (nF F))), (l5, .inl (cI, 64, .inl (nF L))), (l6, .inl (cI, 64, .inl (nF Z))), (l7, .inl (cI, 64, .inl (nF X)))] H := hP
    have hD : va_D A [(l0, .inr (1, [.int (nI nm), .ref l1, .ref l2, .ref l3, .ref l4, .ref l5, .ref l6, .ref l7, .int (nI np)])), (l1, .inl (cI, 64, .inl (nF P))), (l2, .inl (cI, 64, .inl (nF Y))), (l3, .inl (cI, 64, .inl (nF V2_2))), (l4, .inl (cI, 64, .inl (nF F))), (l5, .inl (cI, 64, .inl (nF L))), (l6, .inl (cI, 64, .inl (nF Z))), (l7, .inl (cI, 64, .inl (nF X)))] := hD
    have hfw : ∀ i, i < ln p y c → V2_2 (ch p y c i) = fw p y sw c i := by
      intro i hi
      rw [hv1_3 i hi]
      exact le1_cong (fun k hk => hfresh k (by omega))
    refine lv_istore_n (lv' := [(3, .int (nI ((ch p y c) ((ln p y c) - 1)))), (0, .ref l0), (1, .int (nI c)), (2, .int (nI sw))]) hx hb dX1_addPath_17 rfl hl (by decide) rfl (fun ls hl => ?_)
    refine lv_aload_n hx hb dX1_addPath_18 rfl (lv_at hl 1 rfl) ?_
    refine lv_iload_n hx hb dX1_addPath_19 rfl (lv_at hl 0 rfl) ?_
    refine lv_iconst (v := (-1)) hx hb dX1_addPath_20 (by decide) ?_
    refine lv_iload_n hx hb dX1_addPath_21 rfl (lv_at hl 3 rfl) ?_
    refine gcVi (ws' := fun (u : (Nat → Nat)) => [(l0, .inr (1, [.int (nI nm), .ref l1, .ref l2, .ref l3, .ref l4, .ref l5, .ref l6, .ref l7, .int (nI np)])), (l1, .inl (cI, 64, .inl (nF P))), (l2, .inl (cI, 64, .inl (nF Y))), (l3, .inl (cI, 64, .inl (nF u))), (l4, .inl (cI, 64, .inl (nF F))), (l5, .inl (cI, 64, .inl (nF L))), (l6, .inl (cI, 64, .inl (nF Z))), (l7, .inl (cI, 64, .inl (nF X)))]) (wr := []) (ci := 1) (q0 := 0) (As := [.int (nI ((ch p y c) ((ln p y c) - 1))), .int ((-1)), .int (nI sw)]) (rest := []) ⟨hx, hb, hml, hown, hts⟩ (c_X1_limitSwell_back l D cI cZ tt H.size l0 l1 l2 l3 l4 l5 l6 l7 nm np P Y V2_2 F L Z X p y sw (ln p y c) (fun i => ch p y c (ln p y c - 1 - i)) (by first | assumption | omega) (by first | assumption | omega) (by first | assumption | omega) (by first | assumption | omega) (by assumption) (by first | assumption | omega) (by exact hln.1) (by exact hln.2.1) (by exact fun i hi => (hln.2.2.2 (ln p y c - 1 - i) (by omega)).1) (by exact hbk) (by show tp p y (ch p y c (ln p y c - 1 - (ln p y c - 1))) = 64; rw [Nat.sub_self]; exact hb2.2) (by exact fun i j hi hj e => by have := ch_inj hc hb2.1 (i := ln p y c - 1 - i) (j := ln p y c - 1 - j) (by omega) (by omega) e; omega)) (cwV 3 hts gX1_addPath_X1_limitSwell rfl rfl rfl (by decide +kernel) ⟨Nat.le_of_ble_eq_true rfl, Nat.le_of_ble_eq_true rfl⟩) hP hK hD hS hA hG rfl rfl [0, 1, 2, 3, 4, 5, 6, 7] [] [0, 1, 2, 3, 4, 5, 6, 7] (by decide) rfl rfl (by decide) (by decide) (by decide) (fun _ => rfl) hl.1 rfl rfl (Nat.le_of_ble_eq_true rfl) ⟨Nat.zero_le _, Nat.zero_le _⟩ dX1_addPath_22 (fun r u H locs hp hP hD hS => ?_)
    obtain ⟨V2_6, rfl⟩ : ∃ z, z = u := ⟨_, rfl⟩
    obtain ⟨rfl, hv1_7, hv2_8, hv3_9⟩ := hp
    have hv1_7 : ∀ i, i < (ln p y c) → V2_6 ((fun i => ch p y c (ln p y c - 1 - i)) i) = le1 V2_2 sw (fun i => ch p y c (ln p y c - 1 - i)) i := hv1_7
    have hv2_8 : ∀ d, (∀ i, i < (ln p y c) → d ≠ (fun i => ch p y c (ln p y c - 1 - i)) i) → V2_6 d = V2_2 d := hv2_8
    have hv3_9 : ∀ k, k < 64 → V2_6 k ≤ 100 := hv3_9
    have hP : va_P D vwCl [(l0, .inr (1, [.int (nI nm), .ref l1, .ref l2, .ref l3, .ref l4, .ref l5, .ref l6, .ref l7, .int (nI np)])), (l1, .inl (cI, 64, .inl (nF P))), (l2, .inl (cI, 64, .inl (nF Y))), (l3, .inl (cI, 64, .inl (nF V2_6))), (l4, .inl (cI, 64, .inl (nF F))), (l5, .inl (cI, 64, .inl (nF L))), (l6, .inl (cI, 64, .inl (nF Z))), (l7, .inl (cI, 64, .inl (nF X)))] H := hP
    have hD : va_D A [(l0, .inr (1, [.int (nI nm), .ref l1, .ref l2, .ref l3, .ref l4, .ref l5, .ref l6, .ref l7, .int (nI np)])), (l1, .inl (cI, 64, .inl (nF P))), (l2, .inl (cI, 64, .inl (nF Y))), (l3, .inl (cI, 64, .inl (nF V2_6))), (l4, .inl (cI, 64, .inl (nF F))), (l5, .inl (cI, 64, .inl (nF L))), (l6, .inl (cI, 64, .inl (nF Z))), (l7, .inl (cI, 64, .inl (nF X)))] := hD
    have hok : okP p y sw c V2_6 := by
      intro j hj
      have e := hv1_7 (ln p y c - 1 - j) (by omega)
      dsimp only at e
      rw [show ln p y c - 1 - (ln p y c - 1 - j) = j by omega] at e
      rw [e, le1_bk hfw (by omega)]
      rfl
    have hoth : ∀ d, (∀ j, j < ln p y c → d ≠ ch p y c j) → V2_6 d = V d := by
      intro d hd
      rw [hv2_8 d (fun i hi => hd _ (by omega)), hv2_4 d hd]
    have hbnd := hv3_9
    refine lv_pop hx hb dX1_addPath_25 rfl ?_
    refine lv_aload_n hx hb dX1_addPath_26 rfl (lv_at hl 1 rfl) ?_
    refine va_get (D := D) (ci := 1) (v := .ref l4) (C := RX1) (T := TX1) (N := 9) hx hb hts hinX1 hown hK hP 0 rfl rfl 4 (by decide) lk2 (fun _ h9 => h9) rfl dX1_addPath_27 ?_
    refine lv_aload_n hx hb dX1_addPath_30 rfl (lv_at hl 1 rfl) ?_
    refine va_get (D := D) (ci := 1) (v := .int (nI np)) (C := RX1) (T := TX1) (N := 9) hx hb hts hinX1 hown hK hP 0 rfl rfl 8 (by decide) lk1 (fun _ h9 => h9) rfl dX1_addPath_31 ?_
    refine lv_iload_n hx hb dX1_addPath_34 rfl (lv_at hl 2 rfl) ?_
    refine nv_iast hx hb hK hP hD hS 4 rfl (by omega) (by decide) dX1_addPath_35 (fun H locs hP hD hS => ?_)
    have hP : va_P D vwCl [(l0, .inr (1, [.int (nI nm), .ref l1, .ref l2, .ref l3, .ref l4, .ref l5, .ref l6, .ref l7, .int (nI np)])), (l1, .inl (cI, 64, .inl (nF P))), (l2, .inl (cI, 64, .inl (nF Y))), (l3, .inl (cI, 64, .inl (nF V2_6))), (l4, .inl (cI, 64, .inl (nF (va_up F np c)))), (l5, .inl (cI, 64, .inl (nF L))), (l6, .inl (cI, 64, .inl (nF Z))), (l7, .inl (cI, 64, .inl (nF X)))] H := hP
    have hD : va_D A [(l0, .inr (1, [.int (nI nm), .ref l1, .ref l2, .ref l3, .ref l4, .ref l5, .ref l6, .ref l7, .int (nI np)])), (l1, .inl (cI, 64, .inl (nF P))), (l2, .inl (cI, 64, .inl (nF Y))), (l3, .inl (cI, 64, .inl (nF V2_6))), (l4, .inl (cI, 64, .inl (nF (va_up F np c)))), (l5, .inl (cI, 64, .inl (nF L))), (l6, .inl (cI, 64, .inl (nF Z))), (l7, .inl (cI, 64, .inl (nF X)))] := hD
    refine lv_aload_n hx hb dX1_addPath_36 rfl (lv_at hl 1 rfl) ?_
    refine va_get (D := D) (ci := 1) (v := .ref l5) (C := RX1) (T := TX1) (N := 9) hx hb hts hinX1 hown hK hP 0 rfl rfl 5 (by decide) lk3 (fun _ h9 => h9) rfl dX1_addPath_37 ?_
    refine lv_aload_n hx hb dX1_addPath_40 rfl (lv_at hl 1 rfl) ?_
    refine va_get (D := D) (ci := 1) (v := .int (nI np)) (C := RX1) (T := TX1) (N := 9) hx hb hts hinX1 hown hK hP 0 rfl rfl 8 (by decide) lk1 (fun _ h9 => h9) rfl dX1_addPath_41 ?_
    refine lv_iload_n hx hb dX1_addPath_44 rfl (lv_at hl 0 rfl) ?_
    refine nv_iast hx hb hK hP hD hS 5 rfl (by omega) (by decide) dX1_addPath_45 (fun H locs hP hD hS => ?_)
    have hP : va_P D vwCl [(l0, .inr (1, [.int (nI nm), .ref l1, .ref l2, .ref l3, .ref l4, .ref l5, .ref l6, .ref l7, .int (nI np)])), (l1, .inl (cI, 64, .inl (nF P))), (l2, .inl (cI, 64, .inl (nF Y))), (l3, .inl (cI, 64, .inl (nF V2_6))), (l4, .inl (cI, 64, .inl (nF (va_up F np c)))), (l5, .inl (cI, 64, .inl (nF (va_up L np ((ch p y c) ((ln p y c) - 1)))))), (l6, .inl (cI, 64, .inl (nF Z))), (l7, .inl (cI, 64, .inl (nF X)))] H := hP
    have hD : va_D A [(l0, .inr (1, [.int (nI nm), .ref l1, .ref l2, .ref l3, .ref l4, .ref l5, .ref l6, .ref l7, .int (nI np)])), (l1, .inl (cI, 64, .inl (nF P))), (l2, .inl (cI, 64, .inl (nF Y))), (l3, .inl (cI, 64, .inl (nF V2_6))), (l4, .inl (cI, 64, .inl (nF (va_up F np c)))), (l5, .inl (cI, 64, .inl (nF (va_up L np ((ch p y c) ((ln p y c) - 1)))))), (l6, .inl (cI, 64, .inl (nF Z))), (l7, .inl (cI, 64, .inl (nF X)))] := hD
    refine lv_aload_n hx hb dX1_addPath_46 rfl (lv_at hl 1 rfl) ?_
    refine va_get (D := D) (ci := 1) (v := .ref l6) (C := RX1) (T := TX1) (N := 9) hx hb hts hinX1 hown hK hP 0 rfl rfl 6 (by decide) lk4 (fun _ h9 => h9) rfl dX1_addPath_47 ?_
    refine lv_aload_n hx hb dX1_addPath_50 rfl (lv_at hl 1 rfl) ?_
    refine va_get (D := D) (ci := 1) (v := .int (nI np)) (C := RX1) (T := TX1) (N := 9) hx hb hts hinX1 hown hK hP 0 rfl rfl 8 (by decide) lk1 (fun _ h9 => h9) rfl dX1_addPath_51 ?_
    refine lv_iload_n hx hb dX1_addPath_54 rfl (lv_at hl 2 rfl) ?_
    refine lv_iload_n hx hb dX1_addPath_55 rfl (lv_at hl 0 rfl) ?_
    refine gcSN (As := [.int (nI c), .int (nI ((ch p y c) ((ln p y c) - 1)))]) (rest := [.int (nI np), .ref l6]) ⟨hx, hb, hml, hown, hts⟩ (c_X4_wayBetween l c ((ch p y c) ((ln p y c) - 1)) (by first | assumption | omega) (by exact (hln.2.2.2 _ (by omega)).1)) (va_cnB 2 hts gX1_addPath_X4_wayBetween_n91 rfl rfl rfl (hG.1 (RX1, 91, yX4_wayBetween) (by decide +kernel)) lk5 (by decide +kernel) ⟨Nat.le_of_ble_eq_true rfl, Nat.le_of_ble_eq_true rfl⟩) lk6 hl.1 rfl rfl (Nat.le_of_ble_eq_true rfl) ⟨Nat.zero_le _, Nat.zero_le _⟩ dX1_addPath_56 ?_
    refine top_eq (congrArg nI (ch_fr hc hb2.1 (hy c) (show ln p y c - 1 < ln p y c by omega))) ?_
    refine lv_iconst (v := nI 1) hx hb dX1_addPath_59 (by decide) ?_
    refine nv_iadd hx hb dX1_addPath_60 ?_
    refine nv_iast hx hb hK hP hD hS 6 rfl (by omega) (by decide) dX1_addPath_61 (fun H locs hP hD hS => ?_)
    have hP : va_P D vwCl [(l0, .inr (1, [.int (nI nm), .ref l1, .ref l2, .ref l3, .ref l4, .ref l5, .ref l6, .ref l7, .int (nI np)])), (l1, .inl (cI, 64, .inl (nF P))), (l2, .inl (cI, 64, .inl (nF Y))), (l3, .inl (cI, 64, .inl (nF V2_6))), (l4, .inl (cI, 64, .inl (nF (va_up F np c)))), (l5, .inl (cI, 64, .inl (nF (va_up L np ((ch p y c) ((ln p y c) - 1)))))), (l6, .inl (cI, 64, .inl (nF (va_up Z np ((ln p y c - 1) + 1))))), (l7, .inl (cI, 64, .inl (nF X)))] H := hP
    have hD : va_D A [(l0, .inr (1, [.int (nI nm), .ref l1, .ref l2, .ref l3, .ref l4, .ref l5, .ref l6, .ref l7, .int (nI np)])), (l1, .inl (cI, 64, .inl (nF P))), (l2, .inl (cI, 64, .inl (nF Y))), (l3, .inl (cI, 64, .inl (nF V2_6))), (l4, .inl (cI, 64, .inl (nF (va_up F np c)))), (l5, .inl (cI, 64, .inl (nF (va_up L np ((ch p y c) ((ln p y c) - 1)))))), (l6, .inl (cI, 64, .inl (nF (va_up Z np ((ln p y c - 1) + 1))))), (l7, .inl (cI, 64, .inl (nF X)))] := hD
    refine lv_aload_n hx hb dX1_addPath_62 rfl (lv_at hl 1 rfl) ?_
    refine va_get (D := D) (ci := 1) (v := .ref l7) (C := RX1) (T := TX1) (N := 9) hx hb hts hinX1 hown hK hP 0 rfl rfl 7 (by decide) lk7 (fun _ h9 => h9) rfl dX1_addPath_63 ?_
    refine lv_aload_n hx hb dX1_addPath_66 rfl (lv_at hl 1 rfl) ?_
    refine va_get (D := D) (ci := 1) (v := .int (nI np)) (C := RX1) (T := TX1) (N := 9) hx hb hts hinX1 hown hK hP 0 rfl rfl 8 (by decide) lk1 (fun _ h9 => h9) rfl dX1_addPath_67 ?_
    refine lv_aload_n hx hb dX1_addPath_70 rfl (lv_at hl 1 rfl) ?_
    refine lv_iload_n hx hb dX1_addPath_71 rfl (lv_at hl 2 rfl) ?_
    refine gcVi (ws' := fun _ => [(l0, .inr (1, [.int (nI nm), .ref l1, .ref l2, .ref l3, .ref l4, .ref l5, .ref l6, .ref l7, .int (nI np)])), (l1, .inl (cI, 64, .inl (nF P))), (l2, .inl (cI, 64, .inl (nF Y))), (l3, .inl (cI, 64, .inl (nF V2_6))), (l4, .inl (cI, 64, .inl (nF ((va_up F np c))))), (l5, .inl (cI, 64, .inl (nF ((va_up L np ((ch p y c) ((ln p y c) - 1))))))), (l6, .inl (cI, 64, .inl (nF ((va_up Z np ((ln p y c - 1) + 1)))))), (l7, .inl (cI, 64, .inl (nF X)))]) (wr := []) (ci := 1) (q0 := 0) (As := [.int (nI c)]) (rest := [.int (nI np), .ref l7]) ⟨hx, hb, hml, hown, hts⟩ (c_X1_greatestWidthFrom l D cI cZ tt H.size l0 l1 l2 l3 l4 l5 l6 l7 nm np P Y V2_6 (va_up F np c) (va_up L np ((ch p y c) ((ln p y c) - 1))) (va_up Z np ((ln p y c - 1) + 1)) X p y c (by first | assumption | omega) (by first | assumption | omega) (by first | assumption | omega) (by first | assumption | omega) (by assumption) (by first | assumption | omega) (by exact hb2.1)) (cwV 1 hts gX1_addPath_X1_greatestWidthFrom rfl rfl rfl (by decide +kernel) ⟨Nat.le_of_ble_eq_true rfl, Nat.le_of_ble_eq_true rfl⟩) hP hK hD hS hA hG rfl rfl [0, 1, 2, 3, 4, 5, 6, 7] [] [0, 1, 2, 3, 4, 5, 6, 7] (by decide) rfl rfl (by decide) (by decide) (by decide) (fun _ => rfl) hl.1 rfl rfl (Nat.le_of_ble_eq_true rfl) ⟨Nat.zero_le _, Nat.zero_le _⟩ dX1_addPath_72 (fun r u H locs hp hP hD hS => ?_)
    obtain rfl := hp
    have hP : va_P D vwCl [(l0, .inr (1, [.int (nI nm), .ref l1, .ref l2, .ref l3, .ref l4, .ref l5, .ref l6, .ref l7, .int (nI np)])), (l1, .inl (cI, 64, .inl (nF P))), (l2, .inl (cI, 64, .inl (nF Y))), (l3, .inl (cI, 64, .inl (nF V2_6))), (l4, .inl (cI, 64, .inl (nF ((va_up F np c))))), (l5, .inl (cI, 64, .inl (nF ((va_up L np ((ch p y c) ((ln p y c) - 1))))))), (l6, .inl (cI, 64, .inl (nF ((va_up Z np ((ln p y c - 1) + 1)))))), (l7, .inl (cI, 64, .inl (nF X)))] H := hP
    have hD : va_D A [(l0, .inr (1, [.int (nI nm), .ref l1, .ref l2, .ref l3, .ref l4, .ref l5, .ref l6, .ref l7, .int (nI np)])), (l1, .inl (cI, 64, .inl (nF P))), (l2, .inl (cI, 64, .inl (nF Y))), (l3, .inl (cI, 64, .inl (nF V2_6))), (l4, .inl (cI, 64, .inl (nF ((va_up F np c))))), (l5, .inl (cI, 64, .inl (nF ((va_up L np ((ch p y c) ((ln p y c) - 1))))))), (l6, .inl (cI, 64, .inl (nF ((va_up Z np ((ln p y c - 1) + 1)))))), (l7, .inl (cI, 64, .inl (nF X)))] := hD
    have hmx : mxf (fun i => V2_6 (ch p y c i)) (ln p y c) = mxf (wdt p y sw c) (ln p y c) := mxf_cong (fun i hi => hok i hi)
    refine top_eq (congrArg nI hmx) ?_
    refine nv_iast hx hb hK hP hD hS 7 rfl (by omega) (by decide) dX1_addPath_75 (fun H locs hP hD hS => ?_)
    have hP : va_P D vwCl [(l0, .inr (1, [.int (nI nm), .ref l1, .ref l2, .ref l3, .ref l4, .ref l5, .ref l6, .ref l7, .int (nI np)])), (l1, .inl (cI, 64, .inl (nF P))), (l2, .inl (cI, 64, .inl (nF Y))), (l3, .inl (cI, 64, .inl (nF V2_6))), (l4, .inl (cI, 64, .inl (nF ((va_up F np c))))), (l5, .inl (cI, 64, .inl (nF ((va_up L np ((ch p y c) ((ln p y c) - 1))))))), (l6, .inl (cI, 64, .inl (nF ((va_up Z np ((ln p y c - 1) + 1)))))), (l7, .inl (cI, 64, .inl (nF (va_up X np (mxf (wdt p y sw c) (ln p y c))))))] H := hP
    have hD : va_D A [(l0, .inr (1, [.int (nI nm), .ref l1, .ref l2, .ref l3, .ref l4, .ref l5, .ref l6, .ref l7, .int (nI np)])), (l1, .inl (cI, 64, .inl (nF P))), (l2, .inl (cI, 64, .inl (nF Y))), (l3, .inl (cI, 64, .inl (nF V2_6))), (l4, .inl (cI, 64, .inl (nF ((va_up F np c))))), (l5, .inl (cI, 64, .inl (nF ((va_up L np ((ch p y c) ((ln p y c) - 1))))))), (l6, .inl (cI, 64, .inl (nF ((va_up Z np ((ln p y c - 1) + 1)))))), (l7, .inl (cI, 64, .inl (nF (va_up X np (mxf (wdt p y sw c) (ln p y c))))))] := hD
    refine lv_aload_n hx hb dX1_addPath_76 rfl (lv_at hl 1 rfl) ?_
    refine lv_dup hx hb dX1_addPath_77 rfl ?_
    refine va_get (D := D) (ci := 1) (v := .int (nI np)) (C := RX1) (T := TX1) (N := 9) hx hb hts hinX1 hown hK hP 0 rfl rfl 8 (by decide) lk1 (fun _ h9 => h9) rfl dX1_addPath_78 ?_
    refine lv_iconst (v := nI 1) hx hb dX1_addPath_81 (by decide) ?_
    refine nv_iadd hx hb dX1_addPath_82 ?_
    refine va_put (D := D) (ci := 1) (v := .int (nI (np + 1))) (ty := .int) (C := RX1) (T := TX1) (N := 9) hx hb hts hinX1 tyX1 tyX1_ok nmX1 hown hK hP hD hS 0 rfl rfl 8 (by decide) lk1 (fun _ h9 => h9) rfl (by decide +kernel) rfl rfl (Nat.le_of_ble_eq_true rfl) dX1_addPath_83 (fun H locs hP hD hS => ?_)
    have hP : va_P D vwCl [(l0, .inr (1, [.int (nI nm), .ref l1, .ref l2, .ref l3, .ref l4, .ref l5, .ref l6, .ref l7, .int (nI (np + 1))])), (l1, .inl (cI, 64, .inl (nF P))), (l2, .inl (cI, 64, .inl (nF Y))), (l3, .inl (cI, 64, .inl (nF V2_6))), (l4, .inl (cI, 64, .inl (nF ((va_up F np c))))), (l5, .inl (cI, 64, .inl (nF ((va_up L np ((ch p y c) ((ln p y c) - 1))))))), (l6, .inl (cI, 64, .inl (nF ((va_up Z np ((ln p y c - 1) + 1)))))), (l7, .inl (cI, 64, .inl (nF (va_up X np (mxf (wdt p y sw c) (ln p y c))))))] H := hP
    have hD : va_D A [(l0, .inr (1, [.int (nI nm), .ref l1, .ref l2, .ref l3, .ref l4, .ref l5, .ref l6, .ref l7, .int (nI (np + 1))])), (l1, .inl (cI, 64, .inl (nF P))), (l2, .inl (cI, 64, .inl (nF Y))), (l3, .inl (cI, 64, .inl (nF V2_6))), (l4, .inl (cI, 64, .inl (nF ((va_up F np c))))), (l5, .inl (cI, 64, .inl (nF ((va_up L np ((ch p y c) ((ln p y c) - 1))))))), (l6, .inl (cI, 64, .inl (nF ((va_up Z np ((ln p y c - 1) + 1)))))), (l7, .inl (cI, 64, .inl (nF (va_up X np (mxf (wdt p y sw c) (ln p y c))))))] := hD
    exact hret (V2_6, (va_up F np c), (va_up L np ((ch p y c) ((ln p y c) - 1))), (va_up Z np ((ln p y c - 1) + 1)), va_up X np (mxf (wdt p y sw c) (ln p y c))) _ _ _ _ dX1_addPath_86 (⟨hok, hoth, hbnd, rfl, rfl, by rw [Nat.sub_add_cancel hln.1], rfl⟩) hP hD hS
  · skip
    exact absurd hnp c_1
end
section
def pW (G T : Nat → Nat) (ly : Nat) : Nat → Nat := fun k => wd G (T k) ly
def pY (U : Nat → Nat) (ly : Nat) : Nat → Nat := fun k => wy ly (U k)
theorem pW_le {G T : Nat → Nat} {ly : Nat} (hG : ∀ k, G k ≤ 100) (hT : ∀ k, T k ≤ 100) : ∀ k, pW G T ly k ≤ 100 := fun k => wd_le hG (hT k)
theorem pY_lt {U : Nat → Nat} {ly : Nat} : ∀ k, pY U ly k < 4 := fun k => wy_lt ly (U k)

set_option maxHeartbeats 4000000 in
set_option maxRecDepth 100000 in
theorem c_X1_draw (l : Launch) (D : va_G) (cI cZ : ClassId) (tt : Nat → Nat) (sz : Nat) (l0 l1 l2 l3 l4 l5 l6 l7 : Nat) (nm np : Nat) (P Y V F L Z X : Nat → Nat) (h0 h1 h2 h3 : Nat) (T U B : Nat → Nat) (g0 g1 : Nat) (G : Nat → Nat) (hT : ∀ k, T k ≤ 100) (hU : ∀ k, U k < 8) (hGs : ∀ k, G k ≤ 100) (hnm : nm < 2) : MV l yX1_draw wsX1_draw ({ frames := 4, cells := 0, slots := 0, locals := 96 } : Room) D cI cZ tt [.ref l0, .ref h0, .ref g0] [(l0, .inr (1, [.int (nI nm), .ref l1, .ref l2, .ref l3, .ref l4, .ref l5, .ref l6, .ref l7, .int (nI np)])), (l1, .inl (cI, 64, .inl (nF P))), (l2, .inl (cI, 64, .inl (nF Y))), (l3, .inl (cI, 64, .inl (nF V))), (l4, .inl (cI, 64, .inl (nF F))), (l5, .inl (cI, 64, .inl (nF L))), (l6, .inl (cI, 64, .inl (nF Z))), (l7, .inl (cI, 64, .inl (nF X))), (h0, .inr (2, [.ref h1, .ref h2, .ref h3])), (h1, .inl (cI, 64, .inl (nF T))), (h2, .inl (cI, 64, .inl (nF U))), (h3, .inl (cZ, 64, .inl (nF B))), (g0, .inr (3, [.ref g1])), (g1, .inl (cI, 4, .inl (nF G)))] sz 0 0 (fun (u : (Nat → Nat) × (Nat → Nat) × (Nat → Nat) × (Nat → Nat) × (Nat → Nat) × (Nat → Nat) × (Nat → Nat) × (Nat)) => (LD (pW G T nm) (pY U nm) (G 3) u.2.2.1 u.2.2.2.1 u.2.2.2.2.1 u.2.2.2.2.2.1) ∧ (∀ c, c < 64 → bgn (pW G T nm) (pY U nm) c → okX (pW G T nm) (pY U nm) (G 3) c u.2.2.2.2.2.2.1) ∧ (u.2.2.2.2.2.2.2 = cb (bgb (pW G T nm) (pY U nm)) 64)) (fun (u : (Nat → Nat) × (Nat → Nat) × (Nat → Nat) × (Nat → Nat) × (Nat → Nat) × (Nat → Nat) × (Nat → Nat) × (Nat)) => [(l0, .inr (1, [.int (nI nm), .ref l1, .ref l2, .ref l3, .ref l4, .ref l5, .ref l6, .ref l7, .int (nI u.2.2.2.2.2.2.2)])), (l1, .inl (cI, 64, .inl (nF u.1))), (l2, .inl (cI, 64, .inl (nF u.2.1))), (l3, .inl (cI, 64, .inl (nF u.2.2.1))), (l4, .inl (cI, 64, .inl (nF u.2.2.2.1))), (l5, .inl (cI, 64, .inl (nF u.2.2.2.2.1))), (l6, .inl (cI, 64, .inl (nF u.2.2.2.2.2.1))), (l7, .inl (cI, 64, .inl (nF u.2.2.2.2.2.2.1))), (h0, .inr (2, [.ref h1, .ref h2, .ref h3])), (h1, .inl (cI, 64, .inl (nF T))), (h2, .inl (cI, 64, .inl (nF U))), (h3, .inl (cZ, 64, .inl (nF B))), (g0, .inr (3, [.ref g1])), (g1, .inl (cI, 4, .inl (nF G)))]) := by
  refine entV (cc := cX1_draw) 4 (by decide) rfl (Nat.le_of_ble_eq_true rfl) (fun pr e s m args below meth c0 A Q H ls hx hb hml hown hts hin hsz hA hP hK hD hS hG hret hl => ?_)
  have hown : s.vm.findClass RX1 = some m.cls := hown
  have lk1 := hts (.fieldLink RX1 55 "BurinLines$Layer" "pathCount" "I") (by decide +kernel)
  have lk2 := hts (.fieldLink RX1 9 "BurinLines$Layer" "wants" "[I") (by decide +kernel)
  have lk3 := hts (.fieldLink RX1 37 "BurinLines$Plate" "tones" "[I") (by decide +kernel)
  have lk4 := hts (.fieldLink RX1 33 "BurinLines$Layer" "number" "I") (by decide +kernel)
  have lk5 := hts (.fieldLink RX1 15 "BurinLines$Layer" "ways" "[I") (by decide +kernel)
  have lk6 := hts (.fieldLink RX1 48 "BurinLines$Plate" "turns" "[I") (by decide +kernel)
  have lk7 := hts (.fieldLink RX1 18 "BurinLines$Layer" "widths" "[I") (by decide +kernel)
  have hinX1 : ∀ w ∈ wsX10, w ∈ wsX1_draw := by decide +kernel
  have hinX2 : ∀ w ∈ wsX20, w ∈ wsX1_draw := by decide +kernel
  have hl : lv_has ls 4 [(0, .ref l0), (1, .ref h0), (2, .ref g0)] := hl
  refine lv_iconst (v := nI 0) hx hb dX1_draw_0 (by decide) ?_
  refine lv_istore_n (lv' := [(3, .int (nI 0)), (0, .ref l0), (1, .ref h0), (2, .ref g0)]) hx hb dX1_draw_1 rfl hl (by decide) rfl (fun ls hl => ?_)
  have L2 : ∀ (n : Nat) (i : Nat) (P1 : Nat → Nat) (Y1 : Nat → Nat) (V1 : Nat → Nat), 64 - i < n → (i ≤ 64) → (∀ k, k < i → P1 k = wd G (T k) nm) → (∀ k, k < i → Y1 k = wy nm (U k)) → (∀ k, k < i → V1 k = wd G (T k) nm) → ∀ (H : Heap) (locs : List Loc) (ls : Array Slot), va_P D vwCl [(l0, .inr (1, [.int (nI nm), .ref l1, .ref l2, .ref l3, .ref l4, .ref l5, .ref l6, .ref l7, .int (nI np)])), (l1, .inl (cI, 64, .inl (nF P1))), (l2, .inl (cI, 64, .inl (nF Y1))), (l3, .inl (cI, 64, .inl (nF V1))), (l4, .inl (cI, 64, .inl (nF F))), (l5, .inl (cI, 64, .inl (nF L))), (l6, .inl (cI, 64, .inl (nF Z))), (l7, .inl (cI, 64, .inl (nF X))), (h0, .inr (2, [.ref h1, .ref h2, .ref h3])), (h1, .inl (cI, 64, .inl (nF T))), (h2, .inl (cI, 64, .inl (nF U))), (h3, .inl (cZ, 64, .inl (nF B))), (g0, .inr (3, [.ref g1])), (g1, .inl (cI, 4, .inl (nF G)))] H → va_D A [(l0, .inr (1, [.int (nI nm), .ref l1, .ref l2, .ref l3, .ref l4, .ref l5, .ref l6, .ref l7, .int (nI np)])), (l1, .inl (cI, 64, .inl (nF P1))), (l2, .inl (cI, 64, .inl (nF Y1))), (l3, .inl (cI, 64, .inl (nF V1))), (l4, .inl (cI, 64, .inl (nF F))), (l5, .inl (cI, 64, .inl (nF L))), (l6, .inl (cI, 64, .inl (nF Z))), (l7, .inl (cI, 64, .inl (nF X))), (h0, .inr (2, [.ref h1, .ref h2, .ref h3])), (h1, .inl (cI, 64, .inl (nF T))), (h2, .inl (cI, 64, .inl (nF U))), (h3, .inl (cZ, 64, .inl (nF B))), (g0, .inr (3, [.ref g1])), (g1, .inl (cI, 4, .inl (nF G)))] → va_S A s.heap H locs → lv_has ls 4 [(0, .ref l0), (1, .ref h0), (2, .ref g0), (3, .int (nI i))] → W pr l e ({ frames := 4, cells := 0, slots := 0, locals := 96 } : Room) s m args below meth c0 H locs 0 0 Q (F0 m 2 ls []) := by
    intro n
    induction n with
    | zero => intro i P1 Y1 V1 h0; exact absurd h0 (Nat.not_lt_zero _)
    | succ n ih2 =>
      intro i P1 Y1 V1 hm2 hi q1 q2 q3 H locs ls hP hD hS hl
      refine lv_iload_n hx hb dX1_draw_2 rfl (lv_at hl 3 rfl) ?_
      refine lv_bipush (v := nI 64) hx hb dX1_draw_3 (by decide) ?_
      refine nv_icmp_ge (tgt := 62) hx hb dX1_draw_5 (by decide) (by omega) (by omega) (fun c_1 => ?_) (fun c_1 => ?_)
      · skip
        have h64 : i = 64 := by omega
        subst h64
        have hPp : ∀ k, k < 64 → P1 k = pW G T nm k := q1
        have hYy : ∀ k, k < 64 → Y1 k = pY U nm k := q2
        have hp := pW_le (G := G) (T := T) (ly := nm) hGs hT
        have hy := pY_lt (U := U) (ly := nm)
        refine lv_aload_n hx hb dX1_draw_62 rfl (lv_at hl 0 rfl) ?_
        refine lv_iconst (v := nI 0) hx hb dX1_draw_63 (by decide) ?_
        refine va_put (D := D) (ci := 1) (v := .int (nI 0)) (ty := .int) (C := RX1) (T := TX1) (N := 9) hx hb hts hinX1 tyX1 tyX1_ok nmX1 hown hK hP hD hS 0 rfl rfl 8 (by decide) lk1 (fun _ h9 => h9) rfl (by decide +kernel) rfl rfl (Nat.le_of_ble_eq_true rfl) dX1_draw_64 (fun H locs hP hD hS => ?_)
        have hP : va_P D vwCl [(l0, .inr (1, [.int (nI nm), .ref l1, .ref l2, .ref l3, .ref l4, .ref l5, .ref l6, .ref l7, .int (nI 0)])), (l1, .inl (cI, 64, .inl (nF P1))), (l2, .inl (cI, 64, .inl (nF Y1))), (l3, .inl (cI, 64, .inl (nF V1))), (l4, .inl (cI, 64, .inl (nF F))), (l5, .inl (cI, 64, .inl (nF L))), (l6, .inl (cI, 64, .inl (nF Z))), (l7, .inl (cI, 64, .inl (nF X))), (h0, .inr (2, [.ref h1, .ref h2, .ref h3])), (h1, .inl (cI, 64, .inl (nF T))), (h2, .inl (cI, 64, .inl (nF U))), (h3, .inl (cZ, 64, .inl (nF B))), (g0, .inr (3, [.ref g1])), (g1, .inl (cI, 4, .inl (nF G)))] H := hP
        have hD : va_D A [(l0, .inr (1, [.int (nI nm), .ref l1, .ref l2, .ref l3, .ref l4, .ref l5, .ref l6, .ref l7, .int (nI 0)])), (l1, .inl (cI, 64, .inl (nF P1))), (l2, .inl (cI, 64, .inl (nF Y1))), (l3, .inl (cI, 64, .inl (nF V1))), (l4, .inl (cI, 64, .inl (nF F))), (l5, .inl (cI, 64, .inl (nF L))), (l6, .inl (cI, 64, .inl (nF Z))), (l7, .inl (cI, 64, .inl (nF X))), (h0, .inr (2, [.ref h1, .ref h2, .ref h3])), (h1, .inl (cI, 64, .inl (nF T))), (h2, .inl (cI, 64, .inl (nF U))), (h3, .inl (cZ, 64, .inl (nF B))), (g0, .inr (3, [.ref g1])), (g1, .inl (cI, 4, .inl (nF G)))] := hD
        refine lv_iconst (v := nI 0) hx hb dX1_draw_67 (by decide) ?_
        refine lv_istore_n (lv' := [(3, .int (nI 0)), (0, .ref l0), (1, .ref h0), (2, .ref g0)]) hx hb dX1_draw_68 rfl hl (by decide) rfl (fun ls hl => ?_)
        have L69 : ∀ (n : Nat) (i : Nat) (V2 : Nat → Nat) (F2 : Nat → Nat) (L2 : Nat → Nat) (Z2 : Nat → Nat) (X2 : Nat → Nat) (n2 : Nat), 64 - i < n → (i ≤ 64) → (n2 = cb (bgb (pW G T nm) (pY U nm)) i) → (LI (pW G T nm) (pY U nm) (G 3) (pW G T nm) i V2 F2 L2 Z2) → (∀ c, c < i → bgn (pW G T nm) (pY U nm) c → okX (pW G T nm) (pY U nm) (G 3) c X2) → (∀ k, k < 64 → V2 k ≤ 100) → ∀ (H : Heap) (locs : List Loc) (ls : Array Slot), va_P D vwCl [(l0, .inr (1, [.int (nI nm), .ref l1, .ref l2, .ref l3, .ref l4, .ref l5, .ref l6, .ref l7, .int (nI n2)])), (l1, .inl (cI, 64, .inl (nF P1))), (l2, .inl (cI, 64, .inl (nF Y1))), (l3, .inl (cI, 64, .inl (nF V2))), (l4, .inl (cI, 64, .inl (nF F2))), (l5, .inl (cI, 64, .inl (nF L2))), (l6, .inl (cI, 64, .inl (nF Z2))), (l7, .inl (cI, 64, .inl (nF X2))), (h0, .inr (2, [.ref h1, .ref h2, .ref h3])), (h1, .inl (cI, 64, .inl (nF T))), (h2, .inl (cI, 64, .inl (nF U))), (h3, .inl (cZ, 64, .inl (nF B))), (g0, .inr (3, [.ref g1])), (g1, .inl (cI, 4, .inl (nF G)))] H → va_D A [(l0, .inr (1, [.int (nI nm), .ref l1, .ref l2, .ref l3, .ref l4, .ref l5, .ref l6, .ref l7, .int (nI n2)])), (l1, .inl (cI, 64, .inl (nF P1))), (l2, .inl (cI, 64, .inl (nF Y1))), (l3, .inl (cI, 64, .inl (nF V2))), (l4, .inl (cI, 64, .inl (nF F2))), (l5, .inl (cI, 64, .inl (nF L2))), (l6, .inl (cI, 64, .inl (nF Z2))), (l7, .inl (cI, 64, .inl (nF X2))), (h0, .inr (2, [.ref h1, .ref h2, .ref h3])), (h1, .inl (cI, 64, .inl (nF T))), (h2, .inl (cI, 64, .inl (nF U))), (h3, .inl (cZ, 64, .inl (nF B))), (g0, .inr (3, [.ref g1])), (g1, .inl (cI, 4, .inl (nF G)))] → va_S A s.heap H locs → lv_has ls 4 [(0, .ref l0), (1, .ref h0), (2, .ref g0), (3, .int (nI i))] → W pr l e ({ frames := 4, cells := 0, slots := 0, locals := 96 } : Room) s m args below meth c0 H locs 0 0 Q (F0 m 69 ls []) := by
          intro n
          induction n with
          | zero => intro i V2 F2 L2 Z2 X2 n2 h0; exact absurd h0 (Nat.not_lt_zero _)
          | succ n ih69 =>
            intro i V2 F2 L2 Z2 X2 n2 hm69 hi hn2 hLI hXi hvb H locs ls hP hD hS hl
            refine lv_iload_n hx hb dX1_draw_69 rfl (lv_at hl 3 rfl) ?_
            refine lv_bipush (v := nI 64) hx hb dX1_draw_70 (by decide) ?_
            refine nv_icmp_ge (tgt := 109) hx hb dX1_draw_72 (by decide) (by omega) (by omega) (fun c_2 => ?_) (fun c_2 => ?_)
            · skip
              have h64 : i = 64 := by omega
              subst h64
              exact hret (P1, Y1, V2, F2, L2, Z2, X2, n2) _ _ _ _ dX1_draw_109 (⟨LI_end (fun d _ h => h) hLI, hXi, hn2⟩) hP hD hS
            · skip
              refine lv_aload_n hx hb dX1_draw_75 rfl (lv_at hl 0 rfl) ?_
              refine va_get (D := D) (ci := 1) (v := .ref l1) (C := RX1) (T := TX1) (N := 9) hx hb hts hinX1 hown hK hP 0 rfl rfl 1 (by decide) lk2 (fun _ h9 => h9) rfl dX1_draw_76 ?_
              refine lv_iload_n hx hb dX1_draw_79 rfl (lv_at hl 3 rfl) ?_
              refine nv_iald hx hb hK hP 1 rfl (by omega) (by decide) dX1_draw_80 ?_
              refine top_eq (congrArg nI (hPp i (by omega))) ?_
              have bpw := pW_le (G := G) (T := T) (ly := nm) hGs hT i
              refine nv_if_le (tgt := 103) hx hb dX1_draw_81 (by decide) (by omega) (fun c_3 => ?_) (fun c_3 => ?_)
              · skip
                have hnb : ¬ bgn (pW G T nm) (pY U nm) i := fun q => q.1 c_3
                refine lv_iinc (v := nI (i + 1)) (lv' := [(3, .int (nI (i + 1))), (0, .ref l0), (1, .ref h0), (2, .ref g0)]) hx hb dX1_draw_103 hl (k := 3) rfl (by exact nI_add _ 1) (by decide) rfl (fun ls hl => ?_)
                refine lv_goto (tgt := 69) hx hb dX1_draw_106 (by decide) ?_
                exact ih69 (i + 1) V2 F2 L2 Z2 X2 n2 (by omega) (by omega) (by rw [hn2, cb_no (by rw [bgb_iff]; exact hnb)]) (LI_no hnb hLI) (X_no hnb hXi) hvb _ _ _ hP hD hS (lv_sub hl [1, 2, 3, 0] rfl)
              · skip
                refine lv_aload_n hx hb dX1_draw_84 rfl (lv_at hl 0 rfl) ?_
                refine lv_iload_n hx hb dX1_draw_85 rfl (lv_at hl 3 rfl) ?_
                refine lv_iconst (v := (-1)) hx hb dX1_draw_86 (by decide) ?_
                refine gcVi (ws' := fun _ => [(l0, .inr (1, [.int (nI nm), .ref l1, .ref l2, .ref l3, .ref l4, .ref l5, .ref l6, .ref l7, .int (nI n2)])), (l1, .inl (cI, 64, .inl (nF P1))), (l2, .inl (cI, 64, .inl (nF Y1))), (l3, .inl (cI, 64, .inl (nF V2))), (l4, .inl (cI, 64, .inl (nF F2))), (l5, .inl (cI, 64, .inl (nF L2))), (l6, .inl (cI, 64, .inl (nF Z2))), (l7, .inl (cI, 64, .inl (nF X2))), (h0, .inr (2, [.ref h1, .ref h2, .ref h3])), (h1, .inl (cI, 64, .inl (nF T))), (h2, .inl (cI, 64, .inl (nF U))), (h3, .inl (cZ, 64, .inl (nF B))), (g0, .inr (3, [.ref g1])), (g1, .inl (cI, 4, .inl (nF G)))]) (wr := [(h0, .inr (2, [.ref h1, .ref h2, .ref h3])), (h1, .inl (cI, 64, .inl (nF T))), (h2, .inl (cI, 64, .inl (nF U))), (h3, .inl (cZ, 64, .inl (nF B))), (g0, .inr (3, [.ref g1])), (g1, .inl (cI, 4, .inl (nF G)))]) (ci := 1) (q0 := 0) (As := [.int (nI i), .int ((-1))]) (rest := []) ⟨hx, hb, hml, hown, hts⟩ (c_X1_tiedTo_back l D cI cZ tt H.size l0 l1 l2 l3 l4 l5 l6 l7 nm n2 P1 Y1 V2 F2 L2 Z2 X2 (pW G T nm) (pY U nm) i (by first | assumption | omega) (by first | assumption | omega) (by first | assumption | omega) (by first | assumption | omega) (by first | assumption | omega)) (cwV 2 hts gX1_draw_X1_tiedTo rfl rfl rfl (by decide +kernel) ⟨Nat.le_of_ble_eq_true rfl, Nat.le_of_ble_eq_true rfl⟩) hP hK hD hS hA hG rfl rfl [0, 1, 2, 3, 4, 5, 6, 7] [8, 9, 10, 11, 12, 13] [6, 7, 8, 9, 10, 11, 12, 13, 0, 1, 2, 3, 4, 5] (by decide) rfl rfl (by decide) (by decide) (by decide) (fun _ => rfl) hl.1 rfl rfl (Nat.le_of_ble_eq_true rfl) ⟨Nat.zero_le _, Nat.zero_le _⟩ dX1_draw_87 (fun r u H locs hp hP hD hS => ?_)
                obtain rfl := hp
                have hP : va_P D vwCl [(l0, .inr (1, [.int (nI nm), .ref l1, .ref l2, .ref l3, .ref l4, .ref l5, .ref l6, .ref l7, .int (nI n2)])), (l1, .inl (cI, 64, .inl (nF P1))), (l2, .inl (cI, 64, .inl (nF Y1))), (l3, .inl (cI, 64, .inl (nF V2))), (l4, .inl (cI, 64, .inl (nF F2))), (l5, .inl (cI, 64, .inl (nF L2))), (l6, .inl (cI, 64, .inl (nF Z2))), (l7, .inl (cI, 64, .inl (nF X2))), (h0, .inr (2, [.ref h1, .ref h2, .ref h3])), (h1, .inl (cI, 64, .inl (nF T))), (h2, .inl (cI, 64, .inl (nF U))), (h3, .inl (cZ, 64, .inl (nF B))), (g0, .inr (3, [.ref g1])), (g1, .inl (cI, 4, .inl (nF G)))] H := hP
                have hD : va_D A [(l0, .inr (1, [.int (nI nm), .ref l1, .ref l2, .ref l3, .ref l4, .ref l5, .ref l6, .ref l7, .int (nI n2)])), (l1, .inl (cI, 64, .inl (nF P1))), (l2, .inl (cI, 64, .inl (nF Y1))), (l3, .inl (cI, 64, .inl (nF V2))), (l4, .inl (cI, 64, .inl (nF F2))), (l5, .inl (cI, 64, .inl (nF L2))), (l6, .inl (cI, 64, .inl (nF Z2))), (l7, .inl (cI, 64, .inl (nF X2))), (h0, .inr (2, [.ref h1, .ref h2, .ref h3])), (h1, .inl (cI, 64, .inl (nF T))), (h2, .inl (cI, 64, .inl (nF U))), (h3, .inl (cZ, 64, .inl (nF B))), (g0, .inr (3, [.ref g1])), (g1, .inl (cI, 4, .inl (nF G)))] := hD
                refine lv_iconst (v := (-1)) hx hb dX1_draw_90 (by decide) ?_
                refine nv_rne (tgt := 103) hx hb dX1_draw_91 (by decide) (by first | assumption | omega | exact tn_le _ _ _ | exact tp_le _ _ _) (fun c_4 => ?_) (fun c_4 => ?_)
                · skip
                  have hnb : ¬ bgn (pW G T nm) (pY U nm) i := fun q => c_4 q.2
                  refine lv_iinc (v := nI (i + 1)) (lv' := [(3, .int (nI (i + 1))), (0, .ref l0), (1, .ref h0), (2, .ref g0)]) hx hb dX1_draw_103 hl (k := 3) rfl (by exact nI_add _ 1) (by decide) rfl (fun ls hl => ?_)
                  refine lv_goto (tgt := 69) hx hb dX1_draw_106 (by decide) ?_
                  exact ih69 (i + 1) V2 F2 L2 Z2 X2 n2 (by omega) (by omega) (by rw [hn2, cb_no (by rw [bgb_iff]; exact hnb)]) (LI_no hnb hLI) (X_no hnb hXi) hvb _ _ _ hP hD hS (lv_sub hl [1, 2, 3, 0] rfl)
                · skip
                  have hbg : bgn (pW G T nm) (pY U nm) i := ⟨c_3, c_4⟩
                  have hcb := cb_le (bgb (pW G T nm) (pY U nm)) i
                  refine lv_aload_n hx hb dX1_draw_94 rfl (lv_at hl 0 rfl) ?_
                  refine lv_iload_n hx hb dX1_draw_95 rfl (lv_at hl 3 rfl) ?_
                  refine lv_aload_n hx hb dX1_draw_96 rfl (lv_at hl 2 rfl) ?_
                  refine gcVi (ws' := fun _ => [(l0, .inr (1, [.int (nI nm), .ref l1, .ref l2, .ref l3, .ref l4, .ref l5, .ref l6, .ref l7, .int (nI n2)])), (l1, .inl (cI, 64, .inl (nF P1))), (l2, .inl (cI, 64, .inl (nF Y1))), (l3, .inl (cI, 64, .inl (nF V2))), (l4, .inl (cI, 64, .inl (nF F2))), (l5, .inl (cI, 64, .inl (nF L2))), (l6, .inl (cI, 64, .inl (nF Z2))), (l7, .inl (cI, 64, .inl (nF X2))), (h0, .inr (2, [.ref h1, .ref h2, .ref h3])), (h1, .inl (cI, 64, .inl (nF T))), (h2, .inl (cI, 64, .inl (nF U))), (h3, .inl (cZ, 64, .inl (nF B))), (g0, .inr (3, [.ref g1])), (g1, .inl (cI, 4, .inl (nF G)))]) (wr := [(l0, .inr (1, [.int (nI nm), .ref l1, .ref l2, .ref l3, .ref l4, .ref l5, .ref l6, .ref l7, .int (nI n2)])), (l1, .inl (cI, 64, .inl (nF P1))), (l2, .inl (cI, 64, .inl (nF Y1))), (l3, .inl (cI, 64, .inl (nF V2))), (l4, .inl (cI, 64, .inl (nF F2))), (l5, .inl (cI, 64, .inl (nF L2))), (l6, .inl (cI, 64, .inl (nF Z2))), (l7, .inl (cI, 64, .inl (nF X2))), (h0, .inr (2, [.ref h1, .ref h2, .ref h3])), (h1, .inl (cI, 64, .inl (nF T))), (h2, .inl (cI, 64, .inl (nF U))), (h3, .inl (cZ, 64, .inl (nF B)))]) (ci := 3) (q0 := 0) (As := []) (rest := [.int (nI i), .ref l0]) ⟨hx, hb, hml, hown, hts⟩ (c_X3_swell l D cI cZ tt H.size g0 g1 G ) (cwV 0 hts gX1_draw_X3_swell rfl rfl rfl (by decide +kernel) ⟨Nat.le_of_ble_eq_true rfl, Nat.le_of_ble_eq_true rfl⟩) hP hK hD hS hA hG rfl rfl [12, 13] [0, 1, 2, 3, 4, 5, 6, 7, 8, 9, 10, 11] [0, 1, 2, 3, 4, 5, 6, 7, 8, 9, 10, 11, 12, 13] (by decide) rfl rfl (by decide) (by decide) (by decide) (fun _ => rfl) hl.1 rfl rfl (Nat.le_of_ble_eq_true rfl) ⟨Nat.zero_le _, Nat.zero_le _⟩ dX1_draw_97 (fun r u H locs hp hP hD hS => ?_)
                  obtain rfl := hp
                  have hP : va_P D vwCl [(l0, .inr (1, [.int (nI nm), .ref l1, .ref l2, .ref l3, .ref l4, .ref l5, .ref l6, .ref l7, .int (nI n2)])), (l1, .inl (cI, 64, .inl (nF P1))), (l2, .inl (cI, 64, .inl (nF Y1))), (l3, .inl (cI, 64, .inl (nF V2))), (l4, .inl (cI, 64, .inl (nF F2))), (l5, .inl (cI, 64, .inl (nF L2))), (l6, .inl (cI, 64, .inl (nF Z2))), (l7, .inl (cI, 64, .inl (nF X2))), (h0, .inr (2, [.ref h1, .ref h2, .ref h3])), (h1, .inl (cI, 64, .inl (nF T))), (h2, .inl (cI, 64, .inl (nF U))), (h3, .inl (cZ, 64, .inl (nF B))), (g0, .inr (3, [.ref g1])), (g1, .inl (cI, 4, .inl (nF G)))] H := hP
                  have hD : va_D A [(l0, .inr (1, [.int (nI nm), .ref l1, .ref l2, .ref l3, .ref l4, .ref l5, .ref l6, .ref l7, .int (nI n2)])), (l1, .inl (cI, 64, .inl (nF P1))), (l2, .inl (cI, 64, .inl (nF Y1))), (l3, .inl (cI, 64, .inl (nF V2))), (l4, .inl (cI, 64, .inl (nF F2))), (l5, .inl (cI, 64, .inl (nF L2))), (l6, .inl (cI, 64, .inl (nF Z2))), (l7, .inl (cI, 64, .inl (nF X2))), (h0, .inr (2, [.ref h1, .ref h2, .ref h3])), (h1, .inl (cI, 64, .inl (nF T))), (h2, .inl (cI, 64, .inl (nF U))), (h3, .inl (cZ, 64, .inl (nF B))), (g0, .inr (3, [.ref g1])), (g1, .inl (cI, 4, .inl (nF G)))] := hD
                  refine gcVv (ws' := fun (u : (Nat → Nat) × (Nat → Nat) × (Nat → Nat) × (Nat → Nat) × (Nat → Nat)) => [(l0, .inr (1, [.int (nI nm), .ref l1, .ref l2, .ref l3, .ref l4, .ref l5, .ref l6, .ref l7, .int (nI (n2 + 1))])), (l1, .inl (cI, 64, .inl (nF P1))), (l2, .inl (cI, 64, .inl (nF Y1))), (l3, .inl (cI, 64, .inl (nF u.1))), (l4, .inl (cI, 64, .inl (nF u.2.1))), (l5, .inl (cI, 64, .inl (nF u.2.2.1))), (l6, .inl (cI, 64, .inl (nF u.2.2.2.1))), (l7, .inl (cI, 64, .inl (nF u.2.2.2.2))), (h0, .inr (2, [.ref h1, .ref h2, .ref h3])), (h1, .inl (cI, 64, .inl (nF T))), (h2, .inl (cI, 64, .inl (nF U))), (h3, .inl (cZ, 64, .inl (nF B))), (g0, .inr (3, [.ref g1])), (g1, .inl (cI, 4, .inl (nF G)))]) (wr := [(h0, .inr (2, [.ref h1, .ref h2, .ref h3])), (h1, .inl (cI, 64, .inl (nF T))), (h2, .inl (cI, 64, .inl (nF U))), (h3, .inl (cZ, 64, .inl (nF B))), (g0, .inr (3, [.ref g1])), (g1, .inl (cI, 4, .inl (nF G)))]) (ci := 1) (q0 := 0) (As := [.int (nI i), .int (nI (G 3))]) (rest := []) ⟨hx, hb, hml, hown, hts⟩ (c_X1_addPath l D cI cZ tt H.size l0 l1 l2 l3 l4 l5 l6 l7 nm n2 P1 Y1 V2 F2 L2 Z2 X2 (pW G T nm) (pY U nm) (G 3) i (by first | assumption | omega) (by first | assumption | omega) (by first | assumption | omega) (by first | assumption | omega) (by first | assumption | omega) (by exact hGs 3) (by first | assumption | omega) (by first | assumption | omega) (by omega) (by exact LI_fresh (by omega) hbg hLI)) (cwV 2 hts gX1_draw_X1_addPath rfl rfl rfl (by decide +kernel) ⟨Nat.le_of_ble_eq_true rfl, Nat.le_of_ble_eq_true rfl⟩) hP hK hD hS hA hG rfl rfl [0, 1, 2, 3, 4, 5, 6, 7] [8, 9, 10, 11, 12, 13] [6, 7, 8, 9, 10, 11, 12, 13, 0, 1, 2, 3, 4, 5] (by decide) rfl rfl (by decide) (by decide) (by decide) (fun _ => rfl) hl.1 rfl rfl (Nat.le_of_ble_eq_true rfl) ⟨Nat.zero_le _, Nat.zero_le _⟩ dX1_draw_100 (fun  u H locs hp hP hD hS => ?_)
                  obtain ⟨V2_5, F2_6, L2_7, Z2_8, X2_9⟩ := u
                  obtain ⟨hok_10, hoth_11, hbnd_12, hF2_13, hL2_14, hZ2_15, hX2_16⟩ := hp
                  have hok_10 : okP (pW G T nm) (pY U nm) (G 3) i V2_5 := hok_10
                  have hoth_11 : ∀ d, (∀ j, j < ln (pW G T nm) (pY U nm) i → d ≠ ch (pW G T nm) (pY U nm) i j) → V2_5 d = V2 d := hoth_11
                  have hbnd_12 : ∀ k, k < 64 → V2_5 k ≤ 100 := hbnd_12
                  have hF2_13 : F2_6 = va_up F2 n2 i := hF2_13
                  have hL2_14 : L2_7 = va_up L2 n2 (ch (pW G T nm) (pY U nm) i (ln (pW G T nm) (pY U nm) i - 1)) := hL2_14
                  have hZ2_15 : Z2_8 = va_up Z2 n2 (ln (pW G T nm) (pY U nm) i) := hZ2_15
                  have hX2_16 : X2_9 = va_up X2 n2 (mxf (wdt (pW G T nm) (pY U nm) (G 3) i) (ln (pW G T nm) (pY U nm) i)) := hX2_16
                  have hP : va_P D vwCl [(l0, .inr (1, [.int (nI nm), .ref l1, .ref l2, .ref l3, .ref l4, .ref l5, .ref l6, .ref l7, .int (nI (n2 + 1))])), (l1, .inl (cI, 64, .inl (nF P1))), (l2, .inl (cI, 64, .inl (nF Y1))), (l3, .inl (cI, 64, .inl (nF V2_5))), (l4, .inl (cI, 64, .inl (nF F2_6))), (l5, .inl (cI, 64, .inl (nF L2_7))), (l6, .inl (cI, 64, .inl (nF Z2_8))), (l7, .inl (cI, 64, .inl (nF X2_9))), (h0, .inr (2, [.ref h1, .ref h2, .ref h3])), (h1, .inl (cI, 64, .inl (nF T))), (h2, .inl (cI, 64, .inl (nF U))), (h3, .inl (cZ, 64, .inl (nF B))), (g0, .inr (3, [.ref g1])), (g1, .inl (cI, 4, .inl (nF G)))] H := hP
                  have hD : va_D A [(l0, .inr (1, [.int (nI nm), .ref l1, .ref l2, .ref l3, .ref l4, .ref l5, .ref l6, .ref l7, .int (nI (n2 + 1))])), (l1, .inl (cI, 64, .inl (nF P1))), (l2, .inl (cI, 64, .inl (nF Y1))), (l3, .inl (cI, 64, .inl (nF V2_5))), (l4, .inl (cI, 64, .inl (nF F2_6))), (l5, .inl (cI, 64, .inl (nF L2_7))), (l6, .inl (cI, 64, .inl (nF Z2_8))), (l7, .inl (cI, 64, .inl (nF X2_9))), (h0, .inr (2, [.ref h1, .ref h2, .ref h3])), (h1, .inl (cI, 64, .inl (nF T))), (h2, .inl (cI, 64, .inl (nF U))), (h3, .inl (cZ, 64, .inl (nF B))), (g0, .inr (3, [.ref g1])), (g1, .inl (cI, 4, .inl (nF G)))] := hD
                  refine lv_iinc (v := nI (i + 1)) (lv' := [(3, .int (nI (i + 1))), (0, .ref l0), (1, .ref h0), (2, .ref g0)]) hx hb dX1_draw_103 hl (k := 3) rfl (by exact nI_add _ 1) (by decide) rfl (fun ls hl => ?_)
                  refine lv_goto (tgt := 69) hx hb dX1_draw_106 (by decide) ?_
                  exact ih69 (i + 1) V2_5 F2_6 L2_7 Z2_8 X2_9 (n2 + 1) (by omega) (by omega) (by rw [hn2, cb_yes (by rw [bgb_iff]; exact hbg)]) (LI_yes (by omega) hbg hLI hok_10 hoth_11 (by rw [← hn2]; exact hF2_13) (by rw [← hn2]; exact hL2_14) (by rw [← hn2]; exact hZ2_15)) (X_yes hXi (by rw [← hn2]; exact hX2_16)) hbnd_12 _ _ _ hP hD hS (lv_sub hl [1, 2, 3, 0] rfl)
        exact L69 (64 + 1) 0 V1 F L Z X 0 (by omega) (by omega) rfl (LI_0 q3) (fun c hc => absurd hc (by omega)) (fun k hk => by rw [q3 k hk]; exact hp k) _ _ _ hP hD hS (lv_sub hl [1, 2, 3, 0] rfl)
      · skip
        refine lv_aload_n hx hb dX1_draw_8 rfl (lv_at hl 0 rfl) ?_
        refine va_get (D := D) (ci := 1) (v := .ref l1) (C := RX1) (T := TX1) (N := 9) hx hb hts hinX1 hown hK hP 0 rfl rfl 1 (by decide) lk2 (fun _ h9 => h9) rfl dX1_draw_9 ?_
        refine lv_iload_n hx hb dX1_draw_12 rfl (lv_at hl 3 rfl) ?_
        refine lv_aload_n hx hb dX1_draw_13 rfl (lv_at hl 2 rfl) ?_
        refine lv_aload_n hx hb dX1_draw_14 rfl (lv_at hl 1 rfl) ?_
        refine va_get (D := D) (ci := 2) (v := .ref h1) (C := RX2) (T := TX2) (N := 3) hx hb hts hinX2 hown hK hP 8 rfl rfl 0 (by decide) lk3 (fun _ h9 => h9) rfl dX1_draw_15 ?_
        refine lv_iload_n hx hb dX1_draw_18 rfl (lv_at hl 3 rfl) ?_
        refine nv_iald hx hb hK hP 9 rfl (by omega) (by decide) dX1_draw_19 ?_
        have bd_17 := hT i
        refine lv_aload_n hx hb dX1_draw_20 rfl (lv_at hl 0 rfl) ?_
        refine va_get (D := D) (ci := 1) (v := .int (nI nm)) (C := RX1) (T := TX1) (N := 9) hx hb hts hinX1 hown hK hP 0 rfl rfl 0 (by decide) lk4 (fun _ h9 => h9) rfl dX1_draw_21 ?_
        refine gcVi (ws' := fun _ => [(l0, .inr (1, [.int (nI nm), .ref l1, .ref l2, .ref l3, .ref l4, .ref l5, .ref l6, .ref l7, .int (nI np)])), (l1, .inl (cI, 64, .inl (nF P1))), (l2, .inl (cI, 64, .inl (nF Y1))), (l3, .inl (cI, 64, .inl (nF V1))), (l4, .inl (cI, 64, .inl (nF F))), (l5, .inl (cI, 64, .inl (nF L))), (l6, .inl (cI, 64, .inl (nF Z))), (l7, .inl (cI, 64, .inl (nF X))), (h0, .inr (2, [.ref h1, .ref h2, .ref h3])), (h1, .inl (cI, 64, .inl (nF T))), (h2, .inl (cI, 64, .inl (nF U))), (h3, .inl (cZ, 64, .inl (nF B))), (g0, .inr (3, [.ref g1])), (g1, .inl (cI, 4, .inl (nF G)))]) (wr := [(l0, .inr (1, [.int (nI nm), .ref l1, .ref l2, .ref l3, .ref l4, .ref l5, .ref l6, .ref l7, .int (nI np)])), (l1, .inl (cI, 64, .inl (nF P1))), (l2, .inl (cI, 64, .inl (nF Y1))), (l3, .inl (cI, 64, .inl (nF V1))), (l4, .inl (cI, 64, .inl (nF F))), (l5, .inl (cI, 64, .inl (nF L))), (l6, .inl (cI, 64, .inl (nF Z))), (l7, .inl (cI, 64, .inl (nF X))), (h0, .inr (2, [.ref h1, .ref h2, .ref h3])), (h1, .inl (cI, 64, .inl (nF T))), (h2, .inl (cI, 64, .inl (nF U))), (h3, .inl (cZ, 64, .inl (nF B)))]) (ci := 3) (q0 := 0) (As := [.int (nI (T i)), .int (nI nm)]) (rest := [.int (nI i), .ref l1]) ⟨hx, hb, hml, hown, hts⟩ (c_X3_widthFor l D cI cZ tt H.size g0 g1 G (T i) nm (by first | assumption | omega) (by first | assumption | omega) (by first | assumption | omega)) (cwV 2 hts gX1_draw_X3_widthFor rfl rfl rfl (by decide +kernel) ⟨Nat.le_of_ble_eq_true rfl, Nat.le_of_ble_eq_true rfl⟩) hP hK hD hS hA hG rfl rfl [12, 13] [0, 1, 2, 3, 4, 5, 6, 7, 8, 9, 10, 11] [0, 1, 2, 3, 4, 5, 6, 7, 8, 9, 10, 11, 12, 13] (by decide) rfl rfl (by decide) (by decide) (by decide) (fun _ => rfl) hl.1 rfl rfl (Nat.le_of_ble_eq_true rfl) ⟨Nat.zero_le _, Nat.zero_le _⟩ dX1_draw_24 (fun r u H locs hp hP hD hS => ?_)
        obtain rfl := hp
        have hP : va_P D vwCl [(l0, .inr (1, [.int (nI nm), .ref l1, .ref l2, .ref l3, .ref l4, .ref l5, .ref l6, .ref l7, .int (nI np)])), (l1, .inl (cI, 64, .inl (nF P1))), (l2, .inl (cI, 64, .inl (nF Y1))), (l3, .inl (cI, 64, .inl (nF V1))), (l4, .inl (cI, 64, .inl (nF F))), (l5, .inl (cI, 64, .inl (nF L))), (l6, .inl (cI, 64, .inl (nF Z))), (l7, .inl (cI, 64, .inl (nF X))), (h0, .inr (2, [.ref h1, .ref h2, .ref h3])), (h1, .inl (cI, 64, .inl (nF T))), (h2, .inl (cI, 64, .inl (nF U))), (h3, .inl (cZ, 64, .inl (nF B))), (g0, .inr (3, [.ref g1])), (g1, .inl (cI, 4, .inl (nF G)))] H := hP
        have hD : va_D A [(l0, .inr (1, [.int (nI nm), .ref l1, .ref l2, .ref l3, .ref l4, .ref l5, .ref l6, .ref l7, .int (nI np)])), (l1, .inl (cI, 64, .inl (nF P1))), (l2, .inl (cI, 64, .inl (nF Y1))), (l3, .inl (cI, 64, .inl (nF V1))), (l4, .inl (cI, 64, .inl (nF F))), (l5, .inl (cI, 64, .inl (nF L))), (l6, .inl (cI, 64, .inl (nF Z))), (l7, .inl (cI, 64, .inl (nF X))), (h0, .inr (2, [.ref h1, .ref h2, .ref h3])), (h1, .inl (cI, 64, .inl (nF T))), (h2, .inl (cI, 64, .inl (nF U))), (h3, .inl (cZ, 64, .inl (nF B))), (g0, .inr (3, [.ref g1])), (g1, .inl (cI, 4, .inl (nF G)))] := hD
        refine nv_iast hx hb hK hP hD hS 1 rfl (by omega) (by decide) dX1_draw_27 (fun H locs hP hD hS => ?_)
        have hP : va_P D vwCl [(l0, .inr (1, [.int (nI nm), .ref l1, .ref l2, .ref l3, .ref l4, .ref l5, .ref l6, .ref l7, .int (nI np)])), (l1, .inl (cI, 64, .inl (nF (va_up P1 i (wd G (T i) nm))))), (l2, .inl (cI, 64, .inl (nF Y1))), (l3, .inl (cI, 64, .inl (nF V1))), (l4, .inl (cI, 64, .inl (nF F))), (l5, .inl (cI, 64, .inl (nF L))), (l6, .inl (cI, 64, .inl (nF Z))), (l7, .inl (cI, 64, .inl (nF X))), (h0, .inr (2, [.ref h1, .ref h2, .ref h3])), (h1, .inl (cI, 64, .inl (nF T))), (h2, .inl (cI, 64, .inl (nF U))), (h3, .inl (cZ, 64, .inl (nF B))), (g0, .inr (3, [.ref g1])), (g1, .inl (cI, 4, .inl (nF G)))] H := hP
        have hD : va_D A [(l0, .inr (1, [.int (nI nm), .ref l1, .ref l2, .ref l3, .ref l4, .ref l5, .ref l6, .ref l7, .int (nI np)])), (l1, .inl (cI, 64, .inl (nF (va_up P1 i (wd G (T i) nm))))), (l2, .inl (cI, 64, .inl (nF Y1))), (l3, .inl (cI, 64, .inl (nF V1))), (l4, .inl (cI, 64, .inl (nF F))), (l5, .inl (cI, 64, .inl (nF L))), (l6, .inl (cI, 64, .inl (nF Z))), (l7, .inl (cI, 64, .inl (nF X))), (h0, .inr (2, [.ref h1, .ref h2, .ref h3])), (h1, .inl (cI, 64, .inl (nF T))), (h2, .inl (cI, 64, .inl (nF U))), (h3, .inl (cZ, 64, .inl (nF B))), (g0, .inr (3, [.ref g1])), (g1, .inl (cI, 4, .inl (nF G)))] := hD
        refine lv_aload_n hx hb dX1_draw_28 rfl (lv_at hl 0 rfl) ?_
        refine va_get (D := D) (ci := 1) (v := .ref l2) (C := RX1) (T := TX1) (N := 9) hx hb hts hinX1 hown hK hP 0 rfl rfl 2 (by decide) lk5 (fun _ h9 => h9) rfl dX1_draw_29 ?_
        refine lv_iload_n hx hb dX1_draw_32 rfl (lv_at hl 3 rfl) ?_
        refine lv_aload_n hx hb dX1_draw_33 rfl (lv_at hl 0 rfl) ?_
        refine lv_aload_n hx hb dX1_draw_34 rfl (lv_at hl 1 rfl) ?_
        refine va_get (D := D) (ci := 2) (v := .ref h2) (C := RX2) (T := TX2) (N := 3) hx hb hts hinX2 hown hK hP 8 rfl rfl 1 (by decide) lk6 (fun _ h9 => h9) rfl dX1_draw_35 ?_
        refine lv_iload_n hx hb dX1_draw_38 rfl (lv_at hl 3 rfl) ?_
        refine nv_iald hx hb hK hP 10 rfl (by omega) (by decide) dX1_draw_39 ?_
        have bd_18 := hU i
        refine gcVi (ws' := fun _ => [(l0, .inr (1, [.int (nI nm), .ref l1, .ref l2, .ref l3, .ref l4, .ref l5, .ref l6, .ref l7, .int (nI np)])), (l1, .inl (cI, 64, .inl (nF ((va_up P1 i (wd G (T i) nm)))))), (l2, .inl (cI, 64, .inl (nF Y1))), (l3, .inl (cI, 64, .inl (nF V1))), (l4, .inl (cI, 64, .inl (nF F))), (l5, .inl (cI, 64, .inl (nF L))), (l6, .inl (cI, 64, .inl (nF Z))), (l7, .inl (cI, 64, .inl (nF X))), (h0, .inr (2, [.ref h1, .ref h2, .ref h3])), (h1, .inl (cI, 64, .inl (nF T))), (h2, .inl (cI, 64, .inl (nF U))), (h3, .inl (cZ, 64, .inl (nF B))), (g0, .inr (3, [.ref g1])), (g1, .inl (cI, 4, .inl (nF G)))]) (wr := [(h0, .inr (2, [.ref h1, .ref h2, .ref h3])), (h1, .inl (cI, 64, .inl (nF T))), (h2, .inl (cI, 64, .inl (nF U))), (h3, .inl (cZ, 64, .inl (nF B))), (g0, .inr (3, [.ref g1])), (g1, .inl (cI, 4, .inl (nF G)))]) (ci := 1) (q0 := 0) (As := [.int (nI (U i))]) (rest := [.int (nI i), .ref l2]) ⟨hx, hb, hml, hown, hts⟩ (c_X1_wayFor l D cI cZ tt H.size l0 l1 l2 l3 l4 l5 l6 l7 nm np (va_up P1 i (wd G (T i) nm)) Y1 V1 F L Z X (U i) (by first | assumption | omega) (by first | assumption | omega)) (cwV 1 hts gX1_draw_X1_wayFor rfl rfl rfl (by decide +kernel) ⟨Nat.le_of_ble_eq_true rfl, Nat.le_of_ble_eq_true rfl⟩) hP hK hD hS hA hG rfl rfl [0, 1, 2, 3, 4, 5, 6, 7] [8, 9, 10, 11, 12, 13] [6, 7, 8, 9, 10, 11, 12, 13, 0, 1, 2, 3, 4, 5] (by decide) rfl rfl (by decide) (by decide) (by decide) (fun _ => rfl) hl.1 rfl rfl (Nat.le_of_ble_eq_true rfl) ⟨Nat.zero_le _, Nat.zero_le _⟩ dX1_draw_40 (fun r u H locs hp hP hD hS => ?_)
        obtain rfl := hp
        have hP : va_P D vwCl [(l0, .inr (1, [.int (nI nm), .ref l1, .ref l2, .ref l3, .ref l4, .ref l5, .ref l6, .ref l7, .int (nI np)])), (l1, .inl (cI, 64, .inl (nF ((va_up P1 i (wd G (T i) nm)))))), (l2, .inl (cI, 64, .inl (nF Y1))), (l3, .inl (cI, 64, .inl (nF V1))), (l4, .inl (cI, 64, .inl (nF F))), (l5, .inl (cI, 64, .inl (nF L))), (l6, .inl (cI, 64, .inl (nF Z))), (l7, .inl (cI, 64, .inl (nF X))), (h0, .inr (2, [.ref h1, .ref h2, .ref h3])), (h1, .inl (cI, 64, .inl (nF T))), (h2, .inl (cI, 64, .inl (nF U))), (h3, .inl (cZ, 64, .inl (nF B))), (g0, .inr (3, [.ref g1])), (g1, .inl (cI, 4, .inl (nF G)))] H := hP
        have hD : va_D A [(l0, .inr (1, [.int (nI nm), .ref l1, .ref l2, .ref l3, .ref l4, .ref l5, .ref l6, .ref l7, .int (nI np)])), (l1, .inl (cI, 64, .inl (nF ((va_up P1 i (wd G (T i) nm)))))), (l2, .inl (cI, 64, .inl (nF Y1))), (l3, .inl (cI, 64, .inl (nF V1))), (l4, .inl (cI, 64, .inl (nF F))), (l5, .inl (cI, 64, .inl (nF L))), (l6, .inl (cI, 64, .inl (nF Z))), (l7, .inl (cI, 64, .inl (nF X))), (h0, .inr (2, [.ref h1, .ref h2, .ref h3])), (h1, .inl (cI, 64, .inl (nF T))), (h2, .inl (cI, 64, .inl (nF U))), (h3, .inl (cZ, 64, .inl (nF B))), (g0, .inr (3, [.ref g1])), (g1, .inl (cI, 4, .inl (nF G)))] := hD
        refine nv_iast hx hb hK hP hD hS 2 rfl (by omega) (by decide) dX1_draw_43 (fun H locs hP hD hS => ?_)
        have hP : va_P D vwCl [(l0, .inr (1, [.int (nI nm), .ref l1, .ref l2, .ref l3, .ref l4, .ref l5, .ref l6, .ref l7, .int (nI np)])), (l1, .inl (cI, 64, .inl (nF ((va_up P1 i (wd G (T i) nm)))))), (l2, .inl (cI, 64, .inl (nF (va_up Y1 i (wy nm (U i)))))), (l3, .inl (cI, 64, .inl (nF V1))), (l4, .inl (cI, 64, .inl (nF F))), (l5, .inl (cI, 64, .inl (nF L))), (l6, .inl (cI, 64, .inl (nF Z))), (l7, .inl (cI, 64, .inl (nF X))), (h0, .inr (2, [.ref h1, .ref h2, .ref h3])), (h1, .inl (cI, 64, .inl (nF T))), (h2, .inl (cI, 64, .inl (nF U))), (h3, .inl (cZ, 64, .inl (nF B))), (g0, .inr (3, [.ref g1])), (g1, .inl (cI, 4, .inl (nF G)))] H := hP
        have hD : va_D A [(l0, .inr (1, [.int (nI nm), .ref l1, .ref l2, .ref l3, .ref l4, .ref l5, .ref l6, .ref l7, .int (nI np)])), (l1, .inl (cI, 64, .inl (nF ((va_up P1 i (wd G (T i) nm)))))), (l2, .inl (cI, 64, .inl (nF (va_up Y1 i (wy nm (U i)))))), (l3, .inl (cI, 64, .inl (nF V1))), (l4, .inl (cI, 64, .inl (nF F))), (l5, .inl (cI, 64, .inl (nF L))), (l6, .inl (cI, 64, .inl (nF Z))), (l7, .inl (cI, 64, .inl (nF X))), (h0, .inr (2, [.ref h1, .ref h2, .ref h3])), (h1, .inl (cI, 64, .inl (nF T))), (h2, .inl (cI, 64, .inl (nF U))), (h3, .inl (cZ, 64, .inl (nF B))), (g0, .inr (3, [.ref g1])), (g1, .inl (cI, 4, .inl (nF G)))] := hD
        refine lv_aload_n hx hb dX1_draw_44 rfl (lv_at hl 0 rfl) ?_
        refine va_get (D := D) (ci := 1) (v := .ref l3) (C := RX1) (T := TX1) (N := 9) hx hb hts hinX1 hown hK hP 0 rfl rfl 3 (by decide) lk7 (fun _ h9 => h9) rfl dX1_draw_45 ?_
        refine lv_iload_n hx hb dX1_draw_48 rfl (lv_at hl 3 rfl) ?_
        refine lv_aload_n hx hb dX1_draw_49 rfl (lv_at hl 0 rfl) ?_
        refine va_get (D := D) (ci := 1) (v := .ref l1) (C := RX1) (T := TX1) (N := 9) hx hb hts hinX1 hown hK hP 0 rfl rfl 1 (by decide) lk2 (fun _ h9 => h9) rfl dX1_draw_50 ?_
        refine lv_iload_n hx hb dX1_draw_53 rfl (lv_at hl 3 rfl) ?_
        refine nv_iald hx hb hK hP 1 rfl (by omega) (by decide) dX1_draw_54 ?_
        refine top_eq (congrArg nI (up_s _ _ _)) ?_
        refine nv_iast hx hb hK hP hD hS 3 rfl (by omega) (by decide) dX1_draw_55 (fun H locs hP hD hS => ?_)
        have hP : va_P D vwCl [(l0, .inr (1, [.int (nI nm), .ref l1, .ref l2, .ref l3, .ref l4, .ref l5, .ref l6, .ref l7, .int (nI np)])), (l1, .inl (cI, 64, .inl (nF ((va_up P1 i (wd G (T i) nm)))))), (l2, .inl (cI, 64, .inl (nF (va_up Y1 i (wy nm (U i)))))), (l3, .inl (cI, 64, .inl (nF (va_up V1 i (wd G (T i) nm))))), (l4, .inl (cI, 64, .inl (nF F))), (l5, .inl (cI, 64, .inl (nF L))), (l6, .inl (cI, 64, .inl (nF Z))), (l7, .inl (cI, 64, .inl (nF X))), (h0, .inr (2, [.ref h1, .ref h2, .ref h3])), (h1, .inl (cI, 64, .inl (nF T))), (h2, .inl (cI, 64, .inl (nF U))), (h3, .inl (cZ, 64, .inl (nF B))), (g0, .inr (3, [.ref g1])), (g1, .inl (cI, 4, .inl (nF G)))] H := hP
        have hD : va_D A [(l0, .inr (1, [.int (nI nm), .ref l1, .ref l2, .ref l3, .ref l4, .ref l5, .ref l6, .ref l7, .int (nI np)])), (l1, .inl (cI, 64, .inl (nF ((va_up P1 i (wd G (T i) nm)))))), (l2, .inl (cI, 64, .inl (nF (va_up Y1 i (wy nm (U i)))))), (l3, .inl (cI, 64, .inl (nF (va_up V1 i (wd G (T i) nm))))), (l4, .inl (cI, 64, .inl (nF F))), (l5, .inl (cI, 64, .inl (nF L))), (l6, .inl (cI, 64, .inl (nF Z))), (l7, .inl (cI, 64, .inl (nF X))), (h0, .inr (2, [.ref h1, .ref h2, .ref h3])), (h1, .inl (cI, 64, .inl (nF T))), (h2, .inl (cI, 64, .inl (nF U))), (h3, .inl (cZ, 64, .inl (nF B))), (g0, .inr (3, [.ref g1])), (g1, .inl (cI, 4, .inl (nF G)))] := hD
        refine lv_iinc (v := nI (i + 1)) (lv' := [(3, .int (nI (i + 1))), (0, .ref l0), (1, .ref h0), (2, .ref g0)]) hx hb dX1_draw_56 hl (k := 3) rfl (by exact nI_add _ 1) (by decide) rfl (fun ls hl => ?_)
        refine lv_goto (tgt := 2) hx hb dX1_draw_59 (by decide) ?_
        exact ih2 (i + 1) ((va_up P1 i (wd G (T i) nm))) (va_up Y1 i (wy nm (U i))) (va_up V1 i (wd G (T i) nm)) (by omega) (by omega) (by
          intro k hk
          rcases Nat.lt_or_ge k i with z | z
          · rw [up_n _ _ (by omega)]; exact q1 k z
          · rw [show k = i by omega, up_s]) (by
          intro k hk
          rcases Nat.lt_or_ge k i with z | z
          · rw [up_n _ _ (by omega)]; exact q2 k z
          · rw [show k = i by omega, up_s]) (by
          intro k hk
          rcases Nat.lt_or_ge k i with z | z
          · rw [up_n _ _ (by omega)]; exact q3 k z
          · rw [show k = i by omega, up_s]) _ _ _ hP hD hS (lv_sub hl [1, 2, 3, 0] rfl)
  exact L2 (64 + 1) 0 P Y V (by omega) (by omega) (fun k hk => absurd hk (by omega)) (fun k hk => absurd hk (by omega)) (fun k hk => absurd hk (by omega)) _ _ _ hP hD hS (lv_sub hl [1, 2, 3, 0] rfl)
end
section
/-! ===== ORDER and AIR ===== -/
theorem fr_le {a b : Nat} (ha : a < 64) (hb : b < 64) : fr a b ≤ 7 := by unfold fr nd; omega
def dfn (F L : Nat → Nat) (a k : Nat) : Nat := min (fr a (F k)) (fr a (L k))
/-- the first nearest one of 0 .. n - 1 that is not done, and how near; 64: none -/
def sc (d e : Nat → Nat) (big : Nat) : Nat → Nat × Nat
  | 0 => (64, big)
  | k + 1 => if e k = 0 ∧ d k < (sc d e big k).2 then (k, d k) else sc d e big k
theorem sc_cong {d d2 e e2 : Nat → Nat} {big : Nat} : ∀ {n : Nat}, (∀ k, k < n → d k = d2 k ∧ e k = e2 k) → sc d e big n = sc d2 e2 big n
  | 0, _ => rfl
  | n + 1, h => by rw [sc, sc, sc_cong (fun k hk => h k (by omega)), (h n (by omega)).1, (h n (by omega)).2]
theorem sc_spec {d e : Nat → Nat} : ∀ n, n ≤ 64 → (∀ k, k < n → d k < 8) → (sc d e 8 n = (64, 8) ∧ sc d e 100 n = (64, 100) ∧ ∀ k, k < n → ¬ e k = 0) ∨ (sc d e 8 n = sc d e 100 n ∧ (sc d e 8 n).1 < n ∧ (sc d e 8 n).2 = d (sc d e 8 n).1 ∧ e (sc d e 8 n).1 = 0 ∧ (sc d e 8 n).2 < 8)
  | 0, _, _ => Or.inl ⟨rfl, rfl, fun k hk => absurd hk (by omega)⟩
  | n + 1, hn, hd => by
    have hdn := hd n (by omega)
    rcases sc_spec (d := d) (e := e) n (by omega) (fun k hk => hd k (by omega)) with ⟨a, b, c⟩ | ⟨a, b, c, f, g⟩
    · by_cases h : e n = 0
      · right
        have e1 : sc d e 8 (n + 1) = (n, d n) := by rw [sc, a, if_pos ⟨h, hdn⟩]
        have e2 : sc d e 100 (n + 1) = (n, d n) := by rw [sc, b, if_pos ⟨h, by show d n < 100; omega⟩]
        rw [e1, e2]
        exact ⟨rfl, by show n < n + 1; omega, rfl, h, hdn⟩
      · left
        rw [sc, sc, if_neg (fun q => h q.1), if_neg (fun q => h q.1)]
        refine ⟨a, b, fun k hk => ?_⟩
        rcases Nat.lt_or_ge k n with q | q
        · exact c k q
        · rw [show k = n by omega]; exact h
    · right
      by_cases h : e n = 0 ∧ d n < (sc d e 8 n).2
      · have e1 : sc d e 8 (n + 1) = (n, d n) := by rw [sc, if_pos h]
        have e2 : sc d e 100 (n + 1) = (n, d n) := by rw [sc, ← a, if_pos h]
        rw [e1, e2]
        exact ⟨rfl, by show n < n + 1; omega, rfl, h.1, hdn⟩
      · have e1 : sc d e 8 (n + 1) = sc d e 8 n := by rw [sc, if_neg h]
        have e2 : sc d e 100 (n + 1) = sc d e 8 n := by rw [sc, ← a, if_neg h]
        rw [e1, e2]
        exact ⟨rfl, by omega, c, f, g⟩
/-- where the tool begins a PATH, and where it is then -/
def stt (F L : Nat → Nat) (a k : Nat) : Nat := if fr a (F k) ≤ fr a (L k) then F k else L k
def en (F L : Nat → Nat) (a k : Nat) : Nat := if fr a (F k) ≤ fr a (L k) then L k else F k
theorem stt_df (F L : Nat → Nat) (a k : Nat) : fr a (stt F L a k) = dfn F L a k := by
  unfold stt dfn
  split <;> omega
/-- behind i PATHS: where the tool is, which are done, how far it went -/
def os (F L : Nat → Nat) (n : Nat) : Nat → Nat × (Nat → Nat) × Nat
  | 0 => (0, fun _ => 0, 0)
  | i + 1 => (en F L (os F L n i).1 (sc (dfn F L (os F L n i).1) (os F L n i).2.1 8 n).1, va_up (os F L n i).2.1 (sc (dfn F L (os F L n i).1) (os F L n i).2.1 8 n).1 1, (os F L n i).2.2 + fr (os F L n i).1 (stt F L (os F L n i).1 (sc (dfn F L (os F L n i).1) (os F L n i).2.1 8 n).1))
def od (F L : Nat → Nat) (n i : Nat) : Nat := (sc (dfn F L (os F L n i).1) (os F L n i).2.1 8 n).1
def bgc (F L : Nat → Nat) (n i : Nat) : Nat := stt F L (os F L n i).1 (od F L n i)
theorem holes : ∀ (m n : Nat) (f : Nat → Nat), (∀ i, i < n → f i < m) → (∀ i j, i < j → j < n → f i ≠ f j) → n ≤ m
  | 0, n, f, h, _ => by
    rcases Nat.eq_zero_or_pos n with q | q
    · omega
    · exact absurd (h 0 q) (by omega)
  | m + 1, n, f, h, hi => by
    rcases Nat.eq_zero_or_pos n with q | q
    · omega
    · -- take the value of the last place out
      have key := holes m (n - 1) (fun i => if f i < f (n - 1) then f i else f i - 1) (fun i hi2 => by
          have h1 := h i (by omega)
          have h2 := h (n - 1) (by omega)
          have h3 := hi i (n - 1) (by omega) (by omega)
          show (if f i < f (n - 1) then f i else f i - 1) < m
          split <;> omega) (fun i j hij hj => by
          have h1 := hi i j hij (by omega)
          have h2 := hi i (n - 1) (by omega) (by omega)
          have h3 := hi j (n - 1) (by omega) (by omega)
          show (if f i < f (n - 1) then f i else f i - 1) ≠ (if f j < f (n - 1) then f j else f j - 1)
          split <;> split <;> omega)
      omega
theorem osI {F L : Nat → Nat} {n : Nat} (hn : n ≤ 64) (hFL : ∀ k, k < n → F k < 64 ∧ L k < 64) : ∀ i, i ≤ n → (os F L n i).1 < 64 ∧ (∀ k, (os F L n i).2.1 k < 2) ∧ (∀ k, (os F L n i).2.1 k = 0 ↔ ∀ j, j < i → od F L n j ≠ k) ∧ (∀ j, j < i → od F L n j < n) ∧ (∀ j j2, j < j2 → j2 < i → od F L n j ≠ od F L n j2)
  | 0, _ => ⟨by show 0 < 64; omega, fun k => by show 0 < 2; omega, fun k => ⟨fun _ j hj => absurd hj (by omega), fun _ => rfl⟩, fun j hj => absurd hj (by omega), fun j j2 _ hj => absurd hj (by omega)⟩
  | i + 1, hi => by
    obtain ⟨a, b, c, d, e⟩ := osI hn hFL i (by omega)
    have hd8 : ∀ k, k < n → dfn F L (os F L n i).1 k < 8 := fun k hk => by
      have h1 := fr_le a (hFL k hk).1
      unfold dfn
      omega
    have hk : od F L n i < n ∧ (os F L n i).2.1 (od F L n i) = 0 := by
      rcases sc_spec (d := dfn F L (os F L n i).1) (e := (os F L n i).2.1) n hn hd8 with ⟨z1, z2, z3⟩ | ⟨z1, z2, z3, z4, z5⟩
      · exfalso
        have hall : ∀ k, k < n → ∃ j, j < i ∧ od F L n j = k := fun k hk => by
          apply Classical.byContradiction
          intro q
          exact z3 k hk ((c k).mpr (fun j hj e => q ⟨j, hj, e⟩))
        have hex : ∀ k, ∃ j, k < n → (j < i ∧ od F L n j = k) := fun k => by
          by_cases hk : k < n
          · obtain ⟨j, hj⟩ := hall k hk; exact ⟨j, fun _ => hj⟩
          · exact ⟨0, fun q => absurd q hk⟩
        have := holes i n (fun k => (hex k).choose) (fun k hk => ((hex k).choose_spec hk).1) (fun k k2 h1 h2 q => by
          have e1 := ((hex k).choose_spec (by omega)).2
          have e2 := ((hex k2).choose_spec h2).2
          have q : (hex k).choose = (hex k2).choose := q
          rw [q, e2] at e1
          omega)
        omega
      · exact ⟨z2, z4⟩
    have hfl := hFL _ hk.1
    refine ⟨?_, fun k => ?_, fun k => ?_, fun j hj => ?_, fun j j2 h1 h2 => ?_⟩
    · show en F L (os F L n i).1 (od F L n i) < 64
      unfold en
      split <;> omega
    · show va_up (os F L n i).2.1 (od F L n i) 1 k < 2
      unfold va_up
      split
      · omega
      · exact b k
    · show va_up (os F L n i).2.1 (od F L n i) 1 k = 0 ↔ _
      unfold va_up
      split
      · rename_i q
        constructor
        · intro z; omega
        · intro z; exact absurd q.symm (z i (by omega))
      · rename_i q
        rw [c k]
        constructor
        · intro z j hj
          rcases Nat.lt_or_ge j i with r | r
          · exact z j r
          · rw [show j = i by omega]; exact fun x => q x.symm
        · intro z j hj
          exact z j (by omega)
    · rcases Nat.lt_or_ge j i with r | r
      · exact d j r
      · rw [show j = i by omega]; exact hk.1
    · rcases Nat.lt_or_ge j2 i with r | r
      · exact e j j2 h1 r
      · rw [show j2 = i by omega]
        exact (c _).mp hk.2 j (by omega)
/-- only the PATHS there are count -/
theorem os_cong {F L F2 L2 : Nat → Nat} {n : Nat} (hn : n ≤ 64) (hFL : ∀ k, k < n → F k < 64 ∧ L k < 64) (h : ∀ k, k < n → F k = F2 k ∧ L k = L2 k) : ∀ i, i ≤ n → os F L n i = os F2 L2 n i ∧ ∀ j, j < i → od F L n j = od F2 L2 n j ∧ bgc F L n j = bgc F2 L2 n j
  | 0, _ => ⟨rfl, fun j hj => absurd hj (by omega)⟩
  | i + 1, hi => by
    obtain ⟨ih, ih2⟩ := os_cong hn hFL h i (by omega)
    have hs : sc (dfn F L (os F L n i).1) (os F L n i).2.1 8 n = sc (dfn F2 L2 (os F2 L2 n i).1) (os F2 L2 n i).2.1 8 n := by
      rw [ih]
      exact sc_cong (fun k hk => ⟨by unfold dfn; rw [(h k hk).1, (h k hk).2], rfl⟩)
    have ho : od F L n i = od F2 L2 n i := by unfold od; rw [hs]
    have hlt : od F L n i < n := (osI hn hFL (i + 1) hi).2.2.2.1 i (by omega)
    have hst : ∀ a, stt F L a (od F L n i) = stt F2 L2 a (od F2 L2 n i) := fun a => by
      unfold stt
      rw [← ho, (h _ hlt).1, (h _ hlt).2]
    have hen : ∀ a, en F L a (od F L n i) = en F2 L2 a (od F2 L2 n i) := fun a => by
      unfold en
      rw [← ho, (h _ hlt).1, (h _ hlt).2]
    refine ⟨?_, fun j hj => ?_⟩
    · show (en F L (os F L n i).1 (od F L n i), va_up (os F L n i).2.1 (od F L n i) 1, (os F L n i).2.2 + fr (os F L n i).1 (stt F L (os F L n i).1 (od F L n i))) = (en F2 L2 (os F2 L2 n i).1 (od F2 L2 n i), va_up (os F2 L2 n i).2.1 (od F2 L2 n i) 1, (os F2 L2 n i).2.2 + fr (os F2 L2 n i).1 (stt F2 L2 (os F2 L2 n i).1 (od F2 L2 n i)))
      rw [hen, hst, ho, ih]
    · rcases Nat.lt_or_ge j i with q | q
      · exact ih2 j q
      · rw [show j = i by omega]
        refine ⟨ho, ?_⟩
        unfold bgc
        rw [hst, ih]

set_option maxHeartbeats 4000000 in
set_option maxRecDepth 100000 in
theorem c_X0_has (l : Launch) (D : va_G) (cI cZ : ClassId) (tt : Nat → Nat) (sz : Nat) (k0 k1 k2 k3 : Nat) (pl aw : Nat) (Oc Bc Dc : Nat → Nat) (i : Int32)  : MI l yX0_has wsX0_has ({ frames := 0, cells := 0, slots := 0, locals := 0 } : Room) D cI cZ tt [.ref k0, .int (i)] [(k0, .inr (0, [.ref k1, .ref k2, .ref k3, .int (nI pl), .int (nI aw)])), (k1, .inl (cI, 64, .inl (nF Oc))), (k2, .inl (cI, 64, .inl (nF Bc))), (k3, .inl (cZ, 64, .inl (nF Dc)))] sz (fun (r : Int32) (_ : Unit) => r = nI (if ¬ i < 0 ∧ ¬ nI pl ≤ i ∧ ¬ nI 64 ≤ i then 1 else 0)) (fun (_ : Unit) => [(k0, .inr (0, [.ref k1, .ref k2, .ref k3, .int (nI pl), .int (nI aw)])), (k1, .inl (cI, 64, .inl (nF Oc))), (k2, .inl (cI, 64, .inl (nF Bc))), (k3, .inl (cZ, 64, .inl (nF Dc)))]) := by
  refine entI (cc := cX0_has) 2 (by decide) rfl (Nat.le_of_ble_eq_true rfl) (Or.inr ⟨rfl, fun v u h => by rw [h]; split <;> rfl⟩) (fun pr e s m args below meth c0 A Q H ls hx hb hml hown hts hsz hA hP hK hD hS hG hret hl => ?_)
  have hown : s.vm.findClass RX0 = some m.cls := hown
  have lk1 := hts (.fieldLink RX0 22 "BurinLines$Cutting" "planned" "I") (by decide +kernel)
  have hinX0 : ∀ w ∈ wsX00, w ∈ wsX0_has := by decide +kernel
  have hl : lv_has ls 2 [(0, .ref k0), (1, .int (i))] := hl
  refine lv_iload_n hx hb dX0_has_0 rfl (lv_at hl 1 rfl) ?_
  refine lv_if_lt (tgt := 22) hx hb dX0_has_1 (by decide) (fun c_1 => ?_) (fun c_1 => ?_)
  · skip
    refine lv_iconst (v := nI 0) hx hb dX0_has_22 (by decide) ?_
    exact hret _ () _ _ _ _ dX0_has_23 (by rw [if_neg (fun q => by obtain ⟨q1, q2, q3⟩ := q; contradiction)]) hP hD hS
  · skip
    refine lv_iload_n hx hb dX0_has_4 rfl (lv_at hl 1 rfl) ?_
    refine lv_aload_n hx hb dX0_has_5 rfl (lv_at hl 0 rfl) ?_
    refine va_get (D := D) (ci := 0) (v := .int (nI pl)) (C := RX0) (T := TX0) (N := 5) hx hb hts hinX0 hown hK hP 0 rfl rfl 3 (by decide) lk1 (fun _ h9 => h9) rfl dX0_has_6 ?_
    refine lv_icmp_ge (tgt := 22) hx hb dX0_has_9 (by decide) (fun c_2 => ?_) (fun c_2 => ?_)
    · skip
      refine lv_iconst (v := nI 0) hx hb dX0_has_22 (by decide) ?_
      exact hret _ () _ _ _ _ dX0_has_23 (by rw [if_neg (fun q => by obtain ⟨q1, q2, q3⟩ := q; contradiction)]) hP hD hS
    · skip
      refine lv_iload_n hx hb dX0_has_12 rfl (lv_at hl 1 rfl) ?_
      refine lv_bipush (v := nI 64) hx hb dX0_has_13 (by decide) ?_
      refine lv_icmp_ge (tgt := 22) hx hb dX0_has_15 (by decide) (fun c_3 => ?_) (fun c_3 => ?_)
      · skip
        refine lv_iconst (v := nI 0) hx hb dX0_has_22 (by decide) ?_
        exact hret _ () _ _ _ _ dX0_has_23 (by rw [if_neg (fun q => by obtain ⟨q1, q2, q3⟩ := q; contradiction)]) hP hD hS
      · skip
        refine lv_iconst (v := nI 1) hx hb dX0_has_18 (by decide) ?_
        refine lv_goto (tgt := 23) hx hb dX0_has_19 (by decide) ?_
        exact hret _ () _ _ _ _ dX0_has_23 (by rw [if_pos ⟨(by assumption), (by assumption), (by assumption)⟩]) hP hD hS

set_option maxHeartbeats 4000000 in
set_option maxRecDepth 100000 in
theorem c_X0_nearestPath (l : Launch) (D : va_G) (cI cZ : ClassId) (tt : Nat → Nat) (sz : Nat) (k0 k1 k2 k3 : Nat) (pl aw : Nat) (Oc Bc Dc : Nat → Nat) (l0 l1 l2 l3 l4 l5 l6 l7 : Nat) (nm np : Nat) (P Y V F L Z X : Nat → Nat) (a : Nat) (hnp : np ≤ 64) (hFL : ∀ k, k < np → F k < 64 ∧ L k < 64) (ha : a < 64) (hDc : ∀ k, k < 64 → Dc k < 2) : MI l yX0_nearestPath wsX0_nearestPath ({ frames := 2, cells := 0, slots := 0, locals := 44 } : Room) D cI cZ tt [.ref k0, .ref l0, .int (nI a)] [(k0, .inr (0, [.ref k1, .ref k2, .ref k3, .int (nI pl), .int (nI aw)])), (k1, .inl (cI, 64, .inl (nF Oc))), (k2, .inl (cI, 64, .inl (nF Bc))), (k3, .inl (cZ, 64, .inl (nF Dc))), (l0, .inr (1, [.int (nI nm), .ref l1, .ref l2, .ref l3, .ref l4, .ref l5, .ref l6, .ref l7, .int (nI np)])), (l1, .inl (cI, 64, .inl (nF P))), (l2, .inl (cI, 64, .inl (nF Y))), (l3, .inl (cI, 64, .inl (nF V))), (l4, .inl (cI, 64, .inl (nF F))), (l5, .inl (cI, 64, .inl (nF L))), (l6, .inl (cI, 64, .inl (nF Z))), (l7, .inl (cI, 64, .inl (nF X)))] sz (fun (r : Int32) (_ : Unit) => r = rI (sc (dfn F L a) Dc 8 np).1) (fun (_ : Unit) => [(k0, .inr (0, [.ref k1, .ref k2, .ref k3, .int (nI pl), .int (nI aw)])), (k1, .inl (cI, 64, .inl (nF Oc))), (k2, .inl (cI, 64, .inl (nF Bc))), (k3, .inl (cZ, 64, .inl (nF Dc))), (l0, .inr (1, [.int (nI nm), .ref l1, .ref l2, .ref l3, .ref l4, .ref l5, .ref l6, .ref l7, .int (nI np)])), (l1, .inl (cI, 64, .inl (nF P))), (l2, .inl (cI, 64, .inl (nF Y))), (l3, .inl (cI, 64, .inl (nF V))), (l4, .inl (cI, 64, .inl (nF F))), (l5, .inl (cI, 64, .inl (nF L))), (l6, .inl (cI, 64, .inl (nF Z))), (l7, .inl (cI, 64, .inl (nF X)))]) := by
  refine entI (cc := cX0_nearestPath) 7 (by decide) rfl (Nat.le_of_ble_eq_true rfl) (Or.inl rfl) (fun pr e s m args below meth c0 A Q H ls hx hb hml hown hts hsz hA hP hK hD hS hG hret hl => ?_)
  have hown : s.vm.findClass RX0 = some m.cls := hown
  have lk1 := hts (.fieldLink RX0 33 "BurinLines$Layer" "pathCount" "I") (by decide +kernel)
  have lk2 := hts (.fieldLink RX0 18 "BurinLines$Cutting" "done" "[Z") (by decide +kernel)
  have lk3 := hts (.fieldLink RX0 46 "BurinLines$Layer" "firsts" "[I") (by decide +kernel)
  have lk4 := hts (.initialized RX4) (by decide +kernel)
  have lk5 := hts (.static yX4_wayBetween) (by decide +kernel)
  have lk6 := hts (.fieldLink RX0 52 "BurinLines$Layer" "lasts" "[I") (by decide +kernel)
  have lk7 := hts (.methodLink RX0 55 Lib.Math.min.name) (by decide +kernel)
  have lk8 := hts (.static Lib.Math.min.name) (by decide +kernel)
  have lk9 := hts (.initialized "java/lang/Math") (by decide +kernel)
  have lk10 := hts (.code Lib.Math.min.name Lib.Math.min.code 2 (some .int)) (by decide +kernel)
  have hinX0 : ∀ w ∈ wsX00, w ∈ wsX0_nearestPath := by decide +kernel
  have hinX1 : ∀ w ∈ wsX10, w ∈ wsX0_nearestPath := by decide +kernel
  have hl : lv_has ls 7 [(0, .ref k0), (1, .ref l0), (2, .int (nI a))] := hl
  refine lv_iconst (v := (-1)) hx hb dX0_nearestPath_0 (by decide) ?_
  refine lv_istore_n (lv' := [(3, .int ((-1))), (0, .ref k0), (1, .ref l0), (2, .int (nI a))]) hx hb dX0_nearestPath_1 rfl hl (by decide) rfl (fun ls hl => ?_)
  refine lv_bipush (v := nI 8) hx hb dX0_nearestPath_2 (by decide) ?_
  refine lv_istore (lv' := [(4, .int (nI 8)), (3, .int ((-1))), (0, .ref k0), (1, .ref l0), (2, .int (nI a))]) hx hb dX0_nearestPath_4 hl (by decide) rfl (fun ls hl => ?_)
  refine lv_iconst (v := nI 0) hx hb dX0_nearestPath_6 (by decide) ?_
  refine lv_istore (lv' := [(5, .int (nI 0)), (4, .int (nI 8)), (3, .int ((-1))), (0, .ref k0), (1, .ref l0), (2, .int (nI a))]) hx hb dX0_nearestPath_7 hl (by decide) rfl (fun ls hl => ?_)
  have L9 : ∀ (n : Nat) (k : Nat) (nb : Nat) (lw : Nat), np - k < n → (k ≤ np) → (sc (dfn F L a) Dc 8 k = (nb, lw)) → (lw ≤ 8) → (nb ≤ 64) → ∀ (H : Heap) (locs : List Loc) (ls : Array Slot), va_P D vwCl [(k0, .inr (0, [.ref k1, .ref k2, .ref k3, .int (nI pl), .int (nI aw)])), (k1, .inl (cI, 64, .inl (nF Oc))), (k2, .inl (cI, 64, .inl (nF Bc))), (k3, .inl (cZ, 64, .inl (nF Dc))), (l0, .inr (1, [.int (nI nm), .ref l1, .ref l2, .ref l3, .ref l4, .ref l5, .ref l6, .ref l7, .int (nI np)])), (l1, .inl (cI, 64, .inl (nF P))), (l2, .inl (cI, 64, .inl (nF Y))), (l3, .inl (cI, 64, .inl (nF V))), (l4, .inl (cI, 64, .inl (nF F))), (l5, .inl (cI, 64, .inl (nF L))), (l6, .inl (cI, 64, .inl (nF Z))), (l7, .inl (cI, 64, .inl (nF X)))] H → va_D A [(k0, .inr (0, [.ref k1, .ref k2, .ref k3, .int (nI pl), .int (nI aw)])), (k1, .inl (cI, 64, .inl (nF Oc))), (k2, .inl (cI, 64, .inl (nF Bc))), (k3, .inl (cZ, 64, .inl (nF Dc))), (l0, .inr (1, [.int (nI nm), .ref l1, .ref l2, .ref l3, .ref l4, .ref l5, .ref l6, .ref l7, .int (nI np)])), (l1, .inl (cI, 64, .inl (nF P))), (l2, .inl (cI, 64, .inl (nF Y))), (l3, .inl (cI, 64, .inl (nF V))), (l4, .inl (cI, 64, .inl (nF F))), (l5, .inl (cI, 64, .inl (nF L))), (l6, .inl (cI, 64, .inl (nF Z))), (l7, .inl (cI, 64, .inl (nF X)))] → va_S A s.heap H locs → lv_has ls 7 [(0, .ref k0), (1, .ref l0), (2, .int (nI a)), (3, .int (rI nb)), (4, .int (nI lw)), (5, .int (nI k))] → W pr l e ({ frames := 2, cells := 0, slots := 0, locals := 44 } : Room) s m args below meth c0 H locs 0 0 Q (F0 m 9 ls []) := by
    intro n
    induction n with
    | zero => intro k nb lw h0; exact absurd h0 (Nat.not_lt_zero _)
    | succ n ih9 =>
      intro k nb lw hm9 hk hs hlw hnb H locs ls hP hD hS hl
      refine lv_iload hx hb dX0_nearestPath_9 (lv_at hl 5 rfl) ?_
      refine lv_aload_n hx hb dX0_nearestPath_11 rfl (lv_at hl 1 rfl) ?_
      refine va_get (D := D) (ci := 1) (v := .int (nI np)) (C := RX1) (T := TX1) (N := 9) hx hb hts hinX1 hown hK hP 4 rfl rfl 8 (by decide) lk1 (fun _ h9 => h9) rfl dX0_nearestPath_12 ?_
      refine nv_icmp_ge (tgt := 85) hx hb dX0_nearestPath_15 (by decide) (by omega) (by omega) (fun c_1 => ?_) (fun c_1 => ?_)
      · skip
        have hkn : k = np := by omega
        refine lv_iload_n hx hb dX0_nearestPath_85 rfl (lv_at hl 3 rfl) ?_
        exact hret _ () _ _ _ _ dX0_nearestPath_86 (by rw [← hkn, hs]) hP hD hS
      · skip
        refine lv_iload hx hb dX0_nearestPath_18 (lv_at hl 5 rfl) ?_
        refine lv_bipush (v := nI 64) hx hb dX0_nearestPath_20 (by decide) ?_
        refine nv_icmp_ge (tgt := 85) hx hb dX0_nearestPath_22 (by decide) (by omega) (by omega) (fun c_2 => ?_) (fun c_2 => ?_)
        · skip
          exact absurd hnp (by omega)
        · skip
          refine lv_aload_n hx hb dX0_nearestPath_25 rfl (lv_at hl 0 rfl) ?_
          refine va_get (D := D) (ci := 0) (v := .ref k3) (C := RX0) (T := TX0) (N := 5) hx hb hts hinX0 hown hK hP 0 rfl rfl 2 (by decide) lk2 (fun _ h9 => h9) rfl dX0_nearestPath_26 ?_
          refine lv_iload hx hb dX0_nearestPath_29 (lv_at hl 5 rfl) ?_
          refine nv_zald hx hb hK hP 3 rfl (by omega) (by decide) dX0_nearestPath_31 ?_
          refine nv_if_eq (tgt := 38) hx hb dX0_nearestPath_32 (by decide) (by have := hDc k (by omega); omega) (fun c_3 => ?_) (fun c_3 => ?_)
          · skip
            have hfk := hFL k (by omega)
            have fr1 := fr_le (a := a) (b := F k) ha (by omega)
            have fr2 := fr_le (a := a) (b := L k) ha (by omega)
            refine lv_iload_n hx hb dX0_nearestPath_38 rfl (lv_at hl 2 rfl) ?_
            refine lv_aload_n hx hb dX0_nearestPath_39 rfl (lv_at hl 1 rfl) ?_
            refine va_get (D := D) (ci := 1) (v := .ref l4) (C := RX1) (T := TX1) (N := 9) hx hb hts hinX1 hown hK hP 4 rfl rfl 4 (by decide) lk3 (fun _ h9 => h9) rfl dX0_nearestPath_40 ?_
            refine lv_iload hx hb dX0_nearestPath_43 (lv_at hl 5 rfl) ?_
            refine nv_iald hx hb hK hP 8 rfl (by omega) (by decide) dX0_nearestPath_45 ?_
            refine gcSN (As := [.int (nI a), .int (nI (F k))]) (rest := []) ⟨hx, hb, hml, hown, hts⟩ (c_X4_wayBetween l a (F k) (by first | assumption | omega) (by exact hfk.1)) (va_cnB 2 hts gX0_nearestPath_X4_wayBetween_n49 rfl rfl rfl (hG.1 (RX0, 49, yX4_wayBetween) (by decide +kernel)) lk4 (by decide +kernel) ⟨Nat.le_of_ble_eq_true rfl, Nat.le_of_ble_eq_true rfl⟩) lk5 hl.1 rfl rfl (Nat.le_of_ble_eq_true rfl) ⟨Nat.zero_le _, Nat.zero_le _⟩ dX0_nearestPath_46 ?_
            refine lv_iload_n hx hb dX0_nearestPath_49 rfl (lv_at hl 2 rfl) ?_
            refine lv_aload_n hx hb dX0_nearestPath_50 rfl (lv_at hl 1 rfl) ?_
            refine va_get (D := D) (ci := 1) (v := .ref l5) (C := RX1) (T := TX1) (N := 9) hx hb hts hinX1 hown hK hP 4 rfl rfl 5 (by decide) lk6 (fun _ h9 => h9) rfl dX0_nearestPath_51 ?_
            refine lv_iload hx hb dX0_nearestPath_54 (lv_at hl 5 rfl) ?_
            refine nv_iald hx hb hK hP 9 rfl (by omega) (by decide) dX0_nearestPath_56 ?_
            refine gcSN (As := [.int (nI a), .int (nI (L k))]) (rest := [.int (nI (fr a (F k)))]) ⟨hx, hb, hml, hown, hts⟩ (c_X4_wayBetween l a (L k) (by first | assumption | omega) (by exact hfk.2)) (va_cnB 2 hts gX0_nearestPath_X4_wayBetween_n49 rfl rfl rfl (hG.1 (RX0, 49, yX4_wayBetween) (by decide +kernel)) lk4 (by decide +kernel) ⟨Nat.le_of_ble_eq_true rfl, Nat.le_of_ble_eq_true rfl⟩) lk5 hl.1 rfl rfl (Nat.le_of_ble_eq_true rfl) ⟨Nat.zero_le _, Nat.zero_le _⟩ dX0_nearestPath_57 ?_
            refine va_mmin hx hb (by rw [hml]; exact hl.1.symm) hown lk7 lk8 lk9 lk10 (Nat.le_of_ble_eq_true rfl) (Nat.le_of_ble_eq_true rfl) (Nat.zero_le _) (Nat.zero_le _) dX0_nearestPath_60 ?_
            refine top_eq (nI_min (by omega) (by omega)) ?_
            refine lv_istore (lv' := [(6, .int (nI (min (fr a (F k)) (fr a (L k))))), (0, .ref k0), (1, .ref l0), (2, .int (nI a)), (3, .int (rI nb)), (4, .int (nI lw)), (5, .int (nI k))]) hx hb dX0_nearestPath_63 hl (by decide) rfl (fun ls hl => ?_)
            refine lv_iload hx hb dX0_nearestPath_65 (lv_at hl 0 rfl) ?_
            refine lv_iload hx hb dX0_nearestPath_67 (lv_at hl 5 rfl) ?_
            refine nv_icmp_ge (tgt := 79) hx hb dX0_nearestPath_69 (by decide) (by omega) (by omega) (fun c_4 => ?_) (fun c_4 => ?_)
            · skip
              refine lv_iinc (v := nI (k + 1)) (lv' := [(5, .int (nI (k + 1))), (6, .int (nI (min (fr a (F k)) (fr a (L k))))), (0, .ref k0), (1, .ref l0), (2, .int (nI a)), (3, .int (rI nb)), (4, .int (nI lw))]) hx hb dX0_nearestPath_79 hl (k := 6) rfl (by exact nI_add _ 1) (by decide) rfl (fun ls hl => ?_)
              refine lv_goto (tgt := 9) hx hb dX0_nearestPath_82 (by decide) ?_
              exact ih9 (k + 1) nb lw (by omega) (by omega) (by rw [sc, hs, if_neg (fun q => by have := q.2; unfold dfn at this; omega)]) hlw hnb _ _ _ hP hD hS (lv_sub hl [2, 3, 4, 5, 6, 0] rfl)
            · skip
              refine lv_iload hx hb dX0_nearestPath_72 (lv_at hl 0 rfl) ?_
              refine lv_istore (lv' := [(4, .int (nI (min (fr a (F k)) (fr a (L k))))), (6, .int (nI (min (fr a (F k)) (fr a (L k))))), (0, .ref k0), (1, .ref l0), (2, .int (nI a)), (3, .int (rI nb)), (5, .int (nI k))]) hx hb dX0_nearestPath_74 hl (by decide) rfl (fun ls hl => ?_)
              refine lv_iload hx hb dX0_nearestPath_76 (lv_at hl 6 rfl) ?_
              refine lv_istore_n (lv' := [(3, .int (nI k)), (4, .int (nI (min (fr a (F k)) (fr a (L k))))), (6, .int (nI (min (fr a (F k)) (fr a (L k))))), (0, .ref k0), (1, .ref l0), (2, .int (nI a)), (5, .int (nI k))]) hx hb dX0_nearestPath_78 rfl hl (by decide) rfl (fun ls hl => ?_)
              refine lv_iinc (v := nI (k + 1)) (lv' := [(5, .int (nI (k + 1))), (3, .int (nI k)), (4, .int (nI (min (fr a (F k)) (fr a (L k))))), (6, .int (nI (min (fr a (F k)) (fr a (L k))))), (0, .ref k0), (1, .ref l0), (2, .int (nI a))]) hx hb dX0_nearestPath_79 hl (k := 6) rfl (by exact nI_add _ 1) (by decide) rfl (fun ls hl => ?_)
              refine lv_goto (tgt := 9) hx hb dX0_nearestPath_82 (by decide) ?_
              exact ih9 (k + 1) k (min (fr a (F k)) (fr a (L k))) (by omega) (by omega) (by rw [sc, hs, if_pos ⟨by assumption, by unfold dfn; omega⟩]; rfl) (by omega) (by omega) _ _ _ hP hD hS (lv_sub hl [4, 5, 6, 1, 2, 0] (by rw [rI_some (show ¬ k = 64 by omega)]; rfl))
          · skip
            refine lv_goto (tgt := 79) hx hb dX0_nearestPath_35 (by decide) ?_
            refine lv_iinc (v := nI (k + 1)) (lv' := [(5, .int (nI (k + 1))), (0, .ref k0), (1, .ref l0), (2, .int (nI a)), (3, .int (rI nb)), (4, .int (nI lw))]) hx hb dX0_nearestPath_79 hl (k := 5) rfl (by exact nI_add _ 1) (by decide) rfl (fun ls hl => ?_)
            refine lv_goto (tgt := 9) hx hb dX0_nearestPath_82 (by decide) ?_
            exact ih9 (k + 1) nb lw (by omega) (by omega) (by rw [sc, hs, if_neg (fun q => c_3 q.1)]) hlw hnb _ _ _ hP hD hS (lv_sub hl [1, 2, 3, 4, 5, 0] rfl)
  exact L9 (np + 1) 0 64 8 (by omega) (by omega) rfl (by omega) (by omega) _ _ _ hP hD hS (lv_sub hl [3, 4, 5, 2, 1, 0] rfl)

set_option maxHeartbeats 4000000 in
set_option maxRecDepth 100000 in
theorem c_X0_cutPath (l : Launch) (D : va_G) (cI cZ : ClassId) (tt : Nat → Nat) (sz : Nat) (k0 k1 k2 k3 : Nat) (pl aw : Nat) (Oc Bc Dc : Nat → Nat) (l0 l1 l2 l3 l4 l5 l6 l7 : Nat) (nm np : Nat) (P Y V F L Z X : Nat → Nat) (k a : Nat) (hnp : np ≤ 64) (hFL : ∀ k, k < np → F k < 64 ∧ L k < 64) (ha : a < 64) (hk : k < np) (hpl : pl < 64) : MI l yX0_cutPath wsX0_cutPath ({ frames := 2, cells := 0, slots := 0, locals := 44 } : Room) D cI cZ tt [.ref k0, .ref l0, .int (nI k), .int (nI a)] [(k0, .inr (0, [.ref k1, .ref k2, .ref k3, .int (nI pl), .int (nI aw)])), (k1, .inl (cI, 64, .inl (nF Oc))), (k2, .inl (cI, 64, .inl (nF Bc))), (k3, .inl (cZ, 64, .inl (nF Dc))), (l0, .inr (1, [.int (nI nm), .ref l1, .ref l2, .ref l3, .ref l4, .ref l5, .ref l6, .ref l7, .int (nI np)])), (l1, .inl (cI, 64, .inl (nF P))), (l2, .inl (cI, 64, .inl (nF Y))), (l3, .inl (cI, 64, .inl (nF V))), (l4, .inl (cI, 64, .inl (nF F))), (l5, .inl (cI, 64, .inl (nF L))), (l6, .inl (cI, 64, .inl (nF Z))), (l7, .inl (cI, 64, .inl (nF X)))] sz (fun (r : Int32) (u : (Nat → Nat) × (Nat)) => r = nI (en F L a k) ∧ (u.1 = va_up Bc pl (stt F L a k)) ∧ (u.2 = aw + fr a (stt F L a k))) (fun (u : (Nat → Nat) × (Nat)) => [(k0, .inr (0, [.ref k1, .ref k2, .ref k3, .int (nI (pl + 1)), .int (nI u.2)])), (k1, .inl (cI, 64, .inl (nF (va_up Oc pl k)))), (k2, .inl (cI, 64, .inl (nF u.1))), (k3, .inl (cZ, 64, .inl (nF (va_up Dc k 1)))), (l0, .inr (1, [.int (nI nm), .ref l1, .ref l2, .ref l3, .ref l4, .ref l5, .ref l6, .ref l7, .int (nI np)])), (l1, .inl (cI, 64, .inl (nF P))), (l2, .inl (cI, 64, .inl (nF Y))), (l3, .inl (cI, 64, .inl (nF V))), (l4, .inl (cI, 64, .inl (nF F))), (l5, .inl (cI, 64, .inl (nF L))), (l6, .inl (cI, 64, .inl (nF Z))), (l7, .inl (cI, 64, .inl (nF X)))]) := by
  refine entI (cc := cX0_cutPath) 8 (by decide) rfl (Nat.le_of_ble_eq_true rfl) (Or.inl rfl) (fun pr e s m args below meth c0 A Q H ls hx hb hml hown hts hsz hA hP hK hD hS hG hret hl => ?_)
  have hown : s.vm.findClass RX0 = some m.cls := hown
  have lk1 := hts (.fieldLink RX0 22 "BurinLines$Cutting" "planned" "I") (by decide +kernel)
  have lk2 := hts (.fieldLink RX0 46 "BurinLines$Layer" "firsts" "[I") (by decide +kernel)
  have lk3 := hts (.fieldLink RX0 52 "BurinLines$Layer" "lasts" "[I") (by decide +kernel)
  have lk4 := hts (.initialized RX4) (by decide +kernel)
  have lk5 := hts (.static yX4_wayBetween) (by decide +kernel)
  have lk6 := hts (.fieldLink RX0 9 "BurinLines$Cutting" "order" "[I") (by decide +kernel)
  have lk7 := hts (.fieldLink RX0 15 "BurinLines$Cutting" "begins" "[I") (by decide +kernel)
  have lk8 := hts (.fieldLink RX0 26 "BurinLines$Cutting" "wayInAir" "I") (by decide +kernel)
  have lk9 := hts (.fieldLink RX0 18 "BurinLines$Cutting" "done" "[Z") (by decide +kernel)
  have hinX0 : ∀ w ∈ wsX00, w ∈ wsX0_cutPath := by decide +kernel
  have hinX1 : ∀ w ∈ wsX10, w ∈ wsX0_cutPath := by decide +kernel
  have hl : lv_has ls 8 [(0, .ref k0), (1, .ref l0), (2, .int (nI k)), (3, .int (nI a))] := hl
  refine lv_aload_n hx hb dX0_cutPath_0 rfl (lv_at hl 0 rfl) ?_
  refine va_get (D := D) (ci := 0) (v := .int (nI pl)) (C := RX0) (T := TX0) (N := 5) hx hb hts hinX0 hown hK hP 0 rfl rfl 3 (by decide) lk1 (fun _ h9 => h9) rfl dX0_cutPath_1 ?_
  refine lv_bipush (v := nI 64) hx hb dX0_cutPath_4 (by decide) ?_
  refine nv_icmp_lt (tgt := 11) hx hb dX0_cutPath_6 (by decide) (by omega) (by omega) (fun c_1 => ?_) (fun c_1 => ?_)
  · skip
    have hfk := hFL k (by omega)
    have fr1 := fr_le (a := a) (b := F k) ha (by omega)
    have fr2 := fr_le (a := a) (b := L k) ha (by omega)
    refine lv_aload_n hx hb dX0_cutPath_11 rfl (lv_at hl 1 rfl) ?_
    refine va_get (D := D) (ci := 1) (v := .ref l4) (C := RX1) (T := TX1) (N := 9) hx hb hts hinX1 hown hK hP 4 rfl rfl 4 (by decide) lk2 (fun _ h9 => h9) rfl dX0_cutPath_12 ?_
    refine lv_iload_n hx hb dX0_cutPath_15 rfl (lv_at hl 2 rfl) ?_
    refine nv_iald hx hb hK hP 8 rfl (by omega) (by decide) dX0_cutPath_16 ?_
    refine lv_istore (lv' := [(4, .int (nI (F k))), (0, .ref k0), (1, .ref l0), (2, .int (nI k)), (3, .int (nI a))]) hx hb dX0_cutPath_17 hl (by decide) rfl (fun ls hl => ?_)
    refine lv_aload_n hx hb dX0_cutPath_19 rfl (lv_at hl 2 rfl) ?_
    refine va_get (D := D) (ci := 1) (v := .ref l5) (C := RX1) (T := TX1) (N := 9) hx hb hts hinX1 hown hK hP 4 rfl rfl 5 (by decide) lk3 (fun _ h9 => h9) rfl dX0_cutPath_20 ?_
    refine lv_iload_n hx hb dX0_cutPath_23 rfl (lv_at hl 3 rfl) ?_
    refine nv_iald hx hb hK hP 9 rfl (by omega) (by decide) dX0_cutPath_24 ?_
    refine lv_istore (lv' := [(5, .int (nI (L k))), (4, .int (nI (F k))), (0, .ref k0), (1, .ref l0), (2, .int (nI k)), (3, .int (nI a))]) hx hb dX0_cutPath_25 hl (by decide) rfl (fun ls hl => ?_)
    refine lv_iload_n hx hb dX0_cutPath_27 rfl (lv_at hl 5 rfl) ?_
    refine lv_iload hx hb dX0_cutPath_28 (lv_at hl 1 rfl) ?_
    refine gcSN (As := [.int (nI a), .int (nI (F k))]) (rest := []) ⟨hx, hb, hml, hown, hts⟩ (c_X4_wayBetween l a (F k) (by first | assumption | omega) (by exact hfk.1)) (va_cnB 2 hts gX0_cutPath_X4_wayBetween_n49 rfl rfl rfl (hG.1 (RX0, 49, yX4_wayBetween) (by decide +kernel)) lk4 (by decide +kernel) ⟨Nat.le_of_ble_eq_true rfl, Nat.le_of_ble_eq_true rfl⟩) lk5 hl.1 rfl rfl (Nat.le_of_ble_eq_true rfl) ⟨Nat.zero_le _, Nat.zero_le _⟩ dX0_cutPath_30 ?_
    refine lv_iload_n hx hb dX0_cutPath_33 rfl (lv_at hl 5 rfl) ?_
    refine lv_iload hx hb dX0_cutPath_34 (lv_at hl 0 rfl) ?_
    refine gcSN (As := [.int (nI a), .int (nI (L k))]) (rest := [.int (nI (fr a (F k)))]) ⟨hx, hb, hml, hown, hts⟩ (c_X4_wayBetween l a (L k) (by first | assumption | omega) (by exact hfk.2)) (va_cnB 2 hts gX0_cutPath_X4_wayBetween_n49 rfl rfl rfl (hG.1 (RX0, 49, yX4_wayBetween) (by decide +kernel)) lk4 (by decide +kernel) ⟨Nat.le_of_ble_eq_true rfl, Nat.le_of_ble_eq_true rfl⟩) lk5 hl.1 rfl rfl (Nat.le_of_ble_eq_true rfl) ⟨Nat.zero_le _, Nat.zero_le _⟩ dX0_cutPath_36 ?_
    refine nv_icmp_gt (tgt := 46) hx hb dX0_cutPath_39 (by decide) (by omega) (by omega) (fun c_2 => ?_) (fun c_2 => ?_)
    · skip
      refine lv_iconst (v := nI 0) hx hb dX0_cutPath_46 (by decide) ?_
      refine lv_istore (lv' := [(6, .int (nI 0)), (5, .int (nI (L k))), (4, .int (nI (F k))), (0, .ref k0), (1, .ref l0), (2, .int (nI k)), (3, .int (nI a))]) hx hb dX0_cutPath_47 hl (by decide) rfl (fun ls hl => ?_)
      refine lv_iload hx hb dX0_cutPath_49 (lv_at hl 0 rfl) ?_
      refine nv_if_eq (tgt := 59) hx hb dX0_cutPath_51 (by decide) (by omega) (fun c_3 => ?_) (fun c_3 => ?_)
      · skip
        refine lv_iload hx hb dX0_cutPath_59 (lv_at hl 1 rfl) ?_
        refine lv_istore (lv' := [(7, .int (nI (L k))), (6, .int (nI 0)), (5, .int (nI (L k))), (4, .int (nI (F k))), (0, .ref k0), (1, .ref l0), (2, .int (nI k)), (3, .int (nI a))]) hx hb dX0_cutPath_61 hl (by decide) rfl (fun ls hl => ?_)
        refine lv_aload_n hx hb dX0_cutPath_63 rfl (lv_at hl 4 rfl) ?_
        refine va_get (D := D) (ci := 0) (v := .ref k1) (C := RX0) (T := TX0) (N := 5) hx hb hts hinX0 hown hK hP 0 rfl rfl 0 (by decide) lk6 (fun _ h9 => h9) rfl dX0_cutPath_64 ?_
        refine lv_aload_n hx hb dX0_cutPath_67 rfl (lv_at hl 4 rfl) ?_
        refine va_get (D := D) (ci := 0) (v := .int (nI pl)) (C := RX0) (T := TX0) (N := 5) hx hb hts hinX0 hown hK hP 0 rfl rfl 3 (by decide) lk1 (fun _ h9 => h9) rfl dX0_cutPath_68 ?_
        refine lv_iload_n hx hb dX0_cutPath_71 rfl (lv_at hl 6 rfl) ?_
        refine nv_iast hx hb hK hP hD hS 1 rfl (by omega) (by decide) dX0_cutPath_72 (fun H locs hP hD hS => ?_)
        have hP : va_P D vwCl [(k0, .inr (0, [.ref k1, .ref k2, .ref k3, .int (nI pl), .int (nI aw)])), (k1, .inl (cI, 64, .inl (nF (va_up Oc pl k)))), (k2, .inl (cI, 64, .inl (nF Bc))), (k3, .inl (cZ, 64, .inl (nF Dc))), (l0, .inr (1, [.int (nI nm), .ref l1, .ref l2, .ref l3, .ref l4, .ref l5, .ref l6, .ref l7, .int (nI np)])), (l1, .inl (cI, 64, .inl (nF P))), (l2, .inl (cI, 64, .inl (nF Y))), (l3, .inl (cI, 64, .inl (nF V))), (l4, .inl (cI, 64, .inl (nF F))), (l5, .inl (cI, 64, .inl (nF L))), (l6, .inl (cI, 64, .inl (nF Z))), (l7, .inl (cI, 64, .inl (nF X)))] H := hP
        have hD : va_D A [(k0, .inr (0, [.ref k1, .ref k2, .ref k3, .int (nI pl), .int (nI aw)])), (k1, .inl (cI, 64, .inl (nF (va_up Oc pl k)))), (k2, .inl (cI, 64, .inl (nF Bc))), (k3, .inl (cZ, 64, .inl (nF Dc))), (l0, .inr (1, [.int (nI nm), .ref l1, .ref l2, .ref l3, .ref l4, .ref l5, .ref l6, .ref l7, .int (nI np)])), (l1, .inl (cI, 64, .inl (nF P))), (l2, .inl (cI, 64, .inl (nF Y))), (l3, .inl (cI, 64, .inl (nF V))), (l4, .inl (cI, 64, .inl (nF F))), (l5, .inl (cI, 64, .inl (nF L))), (l6, .inl (cI, 64, .inl (nF Z))), (l7, .inl (cI, 64, .inl (nF X)))] := hD
        refine lv_aload_n hx hb dX0_cutPath_73 rfl (lv_at hl 4 rfl) ?_
        refine va_get (D := D) (ci := 0) (v := .ref k2) (C := RX0) (T := TX0) (N := 5) hx hb hts hinX0 hown hK hP 0 rfl rfl 1 (by decide) lk7 (fun _ h9 => h9) rfl dX0_cutPath_74 ?_
        refine lv_aload_n hx hb dX0_cutPath_77 rfl (lv_at hl 4 rfl) ?_
        refine va_get (D := D) (ci := 0) (v := .int (nI pl)) (C := RX0) (T := TX0) (N := 5) hx hb hts hinX0 hown hK hP 0 rfl rfl 3 (by decide) lk1 (fun _ h9 => h9) rfl dX0_cutPath_78 ?_
        refine lv_iload hx hb dX0_cutPath_81 (lv_at hl 0 rfl) ?_
        refine nv_iast hx hb hK hP hD hS 2 rfl (by omega) (by decide) dX0_cutPath_83 (fun H locs hP hD hS => ?_)
        have hP : va_P D vwCl [(k0, .inr (0, [.ref k1, .ref k2, .ref k3, .int (nI pl), .int (nI aw)])), (k1, .inl (cI, 64, .inl (nF (va_up Oc pl k)))), (k2, .inl (cI, 64, .inl (nF (va_up Bc pl (L k))))), (k3, .inl (cZ, 64, .inl (nF Dc))), (l0, .inr (1, [.int (nI nm), .ref l1, .ref l2, .ref l3, .ref l4, .ref l5, .ref l6, .ref l7, .int (nI np)])), (l1, .inl (cI, 64, .inl (nF P))), (l2, .inl (cI, 64, .inl (nF Y))), (l3, .inl (cI, 64, .inl (nF V))), (l4, .inl (cI, 64, .inl (nF F))), (l5, .inl (cI, 64, .inl (nF L))), (l6, .inl (cI, 64, .inl (nF Z))), (l7, .inl (cI, 64, .inl (nF X)))] H := hP
        have hD : va_D A [(k0, .inr (0, [.ref k1, .ref k2, .ref k3, .int (nI pl), .int (nI aw)])), (k1, .inl (cI, 64, .inl (nF (va_up Oc pl k)))), (k2, .inl (cI, 64, .inl (nF (va_up Bc pl (L k))))), (k3, .inl (cZ, 64, .inl (nF Dc))), (l0, .inr (1, [.int (nI nm), .ref l1, .ref l2, .ref l3, .ref l4, .ref l5, .ref l6, .ref l7, .int (nI np)])), (l1, .inl (cI, 64, .inl (nF P))), (l2, .inl (cI, 64, .inl (nF Y))), (l3, .inl (cI, 64, .inl (nF V))), (l4, .inl (cI, 64, .inl (nF F))), (l5, .inl (cI, 64, .inl (nF L))), (l6, .inl (cI, 64, .inl (nF Z))), (l7, .inl (cI, 64, .inl (nF X)))] := hD
        refine lv_aload_n hx hb dX0_cutPath_84 rfl (lv_at hl 4 rfl) ?_
        refine lv_dup hx hb dX0_cutPath_85 rfl ?_
        refine va_get (D := D) (ci := 0) (v := .int (nI pl)) (C := RX0) (T := TX0) (N := 5) hx hb hts hinX0 hown hK hP 0 rfl rfl 3 (by decide) lk1 (fun _ h9 => h9) rfl dX0_cutPath_86 ?_
        refine lv_iconst (v := nI 1) hx hb dX0_cutPath_89 (by decide) ?_
        refine nv_iadd hx hb dX0_cutPath_90 ?_
        refine va_put (D := D) (ci := 0) (v := .int (nI (pl + 1))) (ty := .int) (C := RX0) (T := TX0) (N := 5) hx hb hts hinX0 tyX0 tyX0_ok nmX0 hown hK hP hD hS 0 rfl rfl 3 (by decide) lk1 (fun _ h9 => h9) rfl (by decide +kernel) rfl rfl (Nat.le_of_ble_eq_true rfl) dX0_cutPath_91 (fun H locs hP hD hS => ?_)
        have hP : va_P D vwCl [(k0, .inr (0, [.ref k1, .ref k2, .ref k3, .int (nI (pl + 1)), .int (nI aw)])), (k1, .inl (cI, 64, .inl (nF (va_up Oc pl k)))), (k2, .inl (cI, 64, .inl (nF (va_up Bc pl (L k))))), (k3, .inl (cZ, 64, .inl (nF Dc))), (l0, .inr (1, [.int (nI nm), .ref l1, .ref l2, .ref l3, .ref l4, .ref l5, .ref l6, .ref l7, .int (nI np)])), (l1, .inl (cI, 64, .inl (nF P))), (l2, .inl (cI, 64, .inl (nF Y))), (l3, .inl (cI, 64, .inl (nF V))), (l4, .inl (cI, 64, .inl (nF F))), (l5, .inl (cI, 64, .inl (nF L))), (l6, .inl (cI, 64, .inl (nF Z))), (l7, .inl (cI, 64, .inl (nF X)))] H := hP
        have hD : va_D A [(k0, .inr (0, [.ref k1, .ref k2, .ref k3, .int (nI (pl + 1)), .int (nI aw)])), (k1, .inl (cI, 64, .inl (nF (va_up Oc pl k)))), (k2, .inl (cI, 64, .inl (nF (va_up Bc pl (L k))))), (k3, .inl (cZ, 64, .inl (nF Dc))), (l0, .inr (1, [.int (nI nm), .ref l1, .ref l2, .ref l3, .ref l4, .ref l5, .ref l6, .ref l7, .int (nI np)])), (l1, .inl (cI, 64, .inl (nF P))), (l2, .inl (cI, 64, .inl (nF Y))), (l3, .inl (cI, 64, .inl (nF V))), (l4, .inl (cI, 64, .inl (nF F))), (l5, .inl (cI, 64, .inl (nF L))), (l6, .inl (cI, 64, .inl (nF Z))), (l7, .inl (cI, 64, .inl (nF X)))] := hD
        refine lv_aload_n hx hb dX0_cutPath_94 rfl (lv_at hl 4 rfl) ?_
        refine lv_dup hx hb dX0_cutPath_95 rfl ?_
        refine va_get (D := D) (ci := 0) (v := .int (nI aw)) (C := RX0) (T := TX0) (N := 5) hx hb hts hinX0 hown hK hP 0 rfl rfl 4 (by decide) lk8 (fun _ h9 => h9) rfl dX0_cutPath_96 ?_
        refine lv_iload_n hx hb dX0_cutPath_99 rfl (lv_at hl 7 rfl) ?_
        refine lv_iload hx hb dX0_cutPath_100 (lv_at hl 0 rfl) ?_
        refine gcSN (As := [.int (nI a), .int (nI (L k))]) (rest := [.int (nI aw), .ref k0]) ⟨hx, hb, hml, hown, hts⟩ (c_X4_wayBetween l a (L k) (by first | assumption | omega) (by omega)) (va_cnB 2 hts gX0_cutPath_X4_wayBetween_n49 rfl rfl rfl (hG.1 (RX0, 49, yX4_wayBetween) (by decide +kernel)) lk4 (by decide +kernel) ⟨Nat.le_of_ble_eq_true rfl, Nat.le_of_ble_eq_true rfl⟩) lk5 hl.1 rfl rfl (Nat.le_of_ble_eq_true rfl) ⟨Nat.zero_le _, Nat.zero_le _⟩ dX0_cutPath_102 ?_
        refine nv_iadd hx hb dX0_cutPath_105 ?_
        refine va_put (D := D) (ci := 0) (v := .int (nI (aw + (fr a (L k))))) (ty := .int) (C := RX0) (T := TX0) (N := 5) hx hb hts hinX0 tyX0 tyX0_ok nmX0 hown hK hP hD hS 0 rfl rfl 4 (by decide) lk8 (fun _ h9 => h9) rfl (by decide +kernel) rfl rfl (Nat.le_of_ble_eq_true rfl) dX0_cutPath_106 (fun H locs hP hD hS => ?_)
        have hP : va_P D vwCl [(k0, .inr (0, [.ref k1, .ref k2, .ref k3, .int (nI (pl + 1)), .int (nI (aw + (fr a (L k))))])), (k1, .inl (cI, 64, .inl (nF (va_up Oc pl k)))), (k2, .inl (cI, 64, .inl (nF (va_up Bc pl (L k))))), (k3, .inl (cZ, 64, .inl (nF Dc))), (l0, .inr (1, [.int (nI nm), .ref l1, .ref l2, .ref l3, .ref l4, .ref l5, .ref l6, .ref l7, .int (nI np)])), (l1, .inl (cI, 64, .inl (nF P))), (l2, .inl (cI, 64, .inl (nF Y))), (l3, .inl (cI, 64, .inl (nF V))), (l4, .inl (cI, 64, .inl (nF F))), (l5, .inl (cI, 64, .inl (nF L))), (l6, .inl (cI, 64, .inl (nF Z))), (l7, .inl (cI, 64, .inl (nF X)))] H := hP
        have hD : va_D A [(k0, .inr (0, [.ref k1, .ref k2, .ref k3, .int (nI (pl + 1)), .int (nI (aw + (fr a (L k))))])), (k1, .inl (cI, 64, .inl (nF (va_up Oc pl k)))), (k2, .inl (cI, 64, .inl (nF (va_up Bc pl (L k))))), (k3, .inl (cZ, 64, .inl (nF Dc))), (l0, .inr (1, [.int (nI nm), .ref l1, .ref l2, .ref l3, .ref l4, .ref l5, .ref l6, .ref l7, .int (nI np)])), (l1, .inl (cI, 64, .inl (nF P))), (l2, .inl (cI, 64, .inl (nF Y))), (l3, .inl (cI, 64, .inl (nF V))), (l4, .inl (cI, 64, .inl (nF F))), (l5, .inl (cI, 64, .inl (nF L))), (l6, .inl (cI, 64, .inl (nF Z))), (l7, .inl (cI, 64, .inl (nF X)))] := hD
        refine lv_aload_n hx hb dX0_cutPath_109 rfl (lv_at hl 4 rfl) ?_
        refine va_get (D := D) (ci := 0) (v := .ref k3) (C := RX0) (T := TX0) (N := 5) hx hb hts hinX0 hown hK hP 0 rfl rfl 2 (by decide) lk9 (fun _ h9 => h9) rfl dX0_cutPath_110 ?_
        refine lv_iload_n hx hb dX0_cutPath_113 rfl (lv_at hl 6 rfl) ?_
        refine lv_iconst (v := nI 1) hx hb dX0_cutPath_114 (by decide) ?_
        refine nv_zast hx hb hK hP hD hS 3 rfl (by omega) (by decide) (by omega) dX0_cutPath_115 (fun H locs hP hD hS => ?_)
        have hP : va_P D vwCl [(k0, .inr (0, [.ref k1, .ref k2, .ref k3, .int (nI (pl + 1)), .int (nI (aw + (fr a (L k))))])), (k1, .inl (cI, 64, .inl (nF (va_up Oc pl k)))), (k2, .inl (cI, 64, .inl (nF (va_up Bc pl (L k))))), (k3, .inl (cZ, 64, .inl (nF (va_up Dc k 1)))), (l0, .inr (1, [.int (nI nm), .ref l1, .ref l2, .ref l3, .ref l4, .ref l5, .ref l6, .ref l7, .int (nI np)])), (l1, .inl (cI, 64, .inl (nF P))), (l2, .inl (cI, 64, .inl (nF Y))), (l3, .inl (cI, 64, .inl (nF V))), (l4, .inl (cI, 64, .inl (nF F))), (l5, .inl (cI, 64, .inl (nF L))), (l6, .inl (cI, 64, .inl (nF Z))), (l7, .inl (cI, 64, .inl (nF X)))] H := hP
        have hD : va_D A [(k0, .inr (0, [.ref k1, .ref k2, .ref k3, .int (nI (pl + 1)), .int (nI (aw + (fr a (L k))))])), (k1, .inl (cI, 64, .inl (nF (va_up Oc pl k)))), (k2, .inl (cI, 64, .inl (nF (va_up Bc pl (L k))))), (k3, .inl (cZ, 64, .inl (nF (va_up Dc k 1)))), (l0, .inr (1, [.int (nI nm), .ref l1, .ref l2, .ref l3, .ref l4, .ref l5, .ref l6, .ref l7, .int (nI np)])), (l1, .inl (cI, 64, .inl (nF P))), (l2, .inl (cI, 64, .inl (nF Y))), (l3, .inl (cI, 64, .inl (nF V))), (l4, .inl (cI, 64, .inl (nF F))), (l5, .inl (cI, 64, .inl (nF L))), (l6, .inl (cI, 64, .inl (nF Z))), (l7, .inl (cI, 64, .inl (nF X)))] := hD
        refine lv_iload hx hb dX0_cutPath_116 (lv_at hl 1 rfl) ?_
        refine nv_if_eq (tgt := 126) hx hb dX0_cutPath_118 (by decide) (by omega) (fun c_4 => ?_) (fun c_4 => ?_)
        · skip
          refine lv_iload hx hb dX0_cutPath_126 (lv_at hl 3 rfl) ?_
          exact hret _ (va_up Bc pl (L k), aw + (fr a (L k))) _ _ _ _ dX0_cutPath_128 (⟨by unfold en; rw [if_neg (by omega)], by unfold stt; rw [if_neg (by omega)], by unfold stt; rw [if_neg (by omega)]⟩) hP hD hS
        · skip
          exact absurd c_4 (by decide)
      · skip
        exact absurd c_3 (by decide)
    · skip
      refine lv_iconst (v := nI 1) hx hb dX0_cutPath_42 (by decide) ?_
      refine lv_goto (tgt := 47) hx hb dX0_cutPath_43 (by decide) ?_
      refine lv_istore (lv' := [(6, .int (nI 1)), (5, .int (nI (L k))), (4, .int (nI (F k))), (0, .ref k0), (1, .ref l0), (2, .int (nI k)), (3, .int (nI a))]) hx hb dX0_cutPath_47 hl (by decide) rfl (fun ls hl => ?_)
      refine lv_iload hx hb dX0_cutPath_49 (lv_at hl 0 rfl) ?_
      refine nv_if_eq (tgt := 59) hx hb dX0_cutPath_51 (by decide) (by omega) (fun c_5 => ?_) (fun c_5 => ?_)
      · skip
        exact absurd c_5 (by decide)
      · skip
        refine lv_iload hx hb dX0_cutPath_54 (lv_at hl 2 rfl) ?_
        refine lv_goto (tgt := 61) hx hb dX0_cutPath_56 (by decide) ?_
        refine lv_istore (lv' := [(7, .int (nI (F k))), (6, .int (nI 1)), (5, .int (nI (L k))), (4, .int (nI (F k))), (0, .ref k0), (1, .ref l0), (2, .int (nI k)), (3, .int (nI a))]) hx hb dX0_cutPath_61 hl (by decide) rfl (fun ls hl => ?_)
        refine lv_aload_n hx hb dX0_cutPath_63 rfl (lv_at hl 4 rfl) ?_
        refine va_get (D := D) (ci := 0) (v := .ref k1) (C := RX0) (T := TX0) (N := 5) hx hb hts hinX0 hown hK hP 0 rfl rfl 0 (by decide) lk6 (fun _ h9 => h9) rfl dX0_cutPath_64 ?_
        refine lv_aload_n hx hb dX0_cutPath_67 rfl (lv_at hl 4 rfl) ?_
        refine va_get (D := D) (ci := 0) (v := .int (nI pl)) (C := RX0) (T := TX0) (N := 5) hx hb hts hinX0 hown hK hP 0 rfl rfl 3 (by decide) lk1 (fun _ h9 => h9) rfl dX0_cutPath_68 ?_
        refine lv_iload_n hx hb dX0_cutPath_71 rfl (lv_at hl 6 rfl) ?_
        refine nv_iast hx hb hK hP hD hS 1 rfl (by omega) (by decide) dX0_cutPath_72 (fun H locs hP hD hS => ?_)
        have hP : va_P D vwCl [(k0, .inr (0, [.ref k1, .ref k2, .ref k3, .int (nI pl), .int (nI aw)])), (k1, .inl (cI, 64, .inl (nF (va_up Oc pl k)))), (k2, .inl (cI, 64, .inl (nF Bc))), (k3, .inl (cZ, 64, .inl (nF Dc))), (l0, .inr (1, [.int (nI nm), .ref l1, .ref l2, .ref l3, .ref l4, .ref l5, .ref l6, .ref l7, .int (nI np)])), (l1, .inl (cI, 64, .inl (nF P))), (l2, .inl (cI, 64, .inl (nF Y))), (l3, .inl (cI, 64, .inl (nF V))), (l4, .inl (cI, 64, .inl (nF F))), (l5, .inl (cI, 64, .inl (nF L))), (l6, .inl (cI, 64, .inl (nF Z))), (l7, .inl (cI, 64, .inl (nF X)))] H := hP
        have hD : va_D A [(k0, .inr (0, [.ref k1, .ref k2, .ref k3, .int (nI pl), .int (nI aw)])), (k1, .inl (cI, 64, .inl (nF (va_up Oc pl k)))), (k2, .inl (cI, 64, .inl (nF Bc))), (k3, .inl (cZ, 64, .inl (nF Dc))), (l0, .inr (1, [.int (nI nm), .ref l1, .ref l2, .ref l3, .ref l4, .ref l5, .ref l6, .ref l7, .int (nI np)])), (l1, .inl (cI, 64, .inl (nF P))), (l2, .inl (cI, 64, .inl (nF Y))), (l3, .inl (cI, 64, .inl (nF V))), (l4, .inl (cI, 64, .inl (nF F))), (l5, .inl (cI, 64, .inl (nF L))), (l6, .inl (cI, 64, .inl (nF Z))), (l7, .inl (cI, 64, .inl (nF X)))] := hD
        refine lv_aload_n hx hb dX0_cutPath_73 rfl (lv_at hl 4 rfl) ?_
        refine va_get (D := D) (ci := 0) (v := .ref k2) (C := RX0) (T := TX0) (N := 5) hx hb hts hinX0 hown hK hP 0 rfl rfl 1 (by decide) lk7 (fun _ h9 => h9) rfl dX0_cutPath_74 ?_
        refine lv_aload_n hx hb dX0_cutPath_77 rfl (lv_at hl 4 rfl) ?_
        refine va_get (D := D) (ci := 0) (v := .int (nI pl)) (C := RX0) (T := TX0) (N := 5) hx hb hts hinX0 hown hK hP 0 rfl rfl 3 (by decide) lk1 (fun _ h9 => h9) rfl dX0_cutPath_78 ?_
        refine lv_iload hx hb dX0_cutPath_81 (lv_at hl 0 rfl) ?_
        refine nv_iast hx hb hK hP hD hS 2 rfl (by omega) (by decide) dX0_cutPath_83 (fun H locs hP hD hS => ?_)
        have hP : va_P D vwCl [(k0, .inr (0, [.ref k1, .ref k2, .ref k3, .int (nI pl), .int (nI aw)])), (k1, .inl (cI, 64, .inl (nF (va_up Oc pl k)))), (k2, .inl (cI, 64, .inl (nF (va_up Bc pl (F k))))), (k3, .inl (cZ, 64, .inl (nF Dc))), (l0, .inr (1, [.int (nI nm), .ref l1, .ref l2, .ref l3, .ref l4, .ref l5, .ref l6, .ref l7, .int (nI np)])), (l1, .inl (cI, 64, .inl (nF P))), (l2, .inl (cI, 64, .inl (nF Y))), (l3, .inl (cI, 64, .inl (nF V))), (l4, .inl (cI, 64, .inl (nF F))), (l5, .inl (cI, 64, .inl (nF L))), (l6, .inl (cI, 64, .inl (nF Z))), (l7, .inl (cI, 64, .inl (nF X)))] H := hP
        have hD : va_D A [(k0, .inr (0, [.ref k1, .ref k2, .ref k3, .int (nI pl), .int (nI aw)])), (k1, .inl (cI, 64, .inl (nF (va_up Oc pl k)))), (k2, .inl (cI, 64, .inl (nF (va_up Bc pl (F k))))), (k3, .inl (cZ, 64, .inl (nF Dc))), (l0, .inr (1, [.int (nI nm), .ref l1, .ref l2, .ref l3, .ref l4, .ref l5, .ref l6, .ref l7, .int (nI np)])), (l1, .inl (cI, 64, .inl (nF P))), (l2, .inl (cI, 64, .inl (nF Y))), (l3, .inl (cI, 64, .inl (nF V))), (l4, .inl (cI, 64, .inl (nF F))), (l5, .inl (cI, 64, .inl (nF L))), (l6, .inl (cI, 64, .inl (nF Z))), (l7, .inl (cI, 64, .inl (nF X)))] := hD
        refine lv_aload_n hx hb dX0_cutPath_84 rfl (lv_at hl 4 rfl) ?_
        refine lv_dup hx hb dX0_cutPath_85 rfl ?_
        refine va_get (D := D) (ci := 0) (v := .int (nI pl)) (C := RX0) (T := TX0) (N := 5) hx hb hts hinX0 hown hK hP 0 rfl rfl 3 (by decide) lk1 (fun _ h9 => h9) rfl dX0_cutPath_86 ?_
        refine lv_iconst (v := nI 1) hx hb dX0_cutPath_89 (by decide) ?_
        refine nv_iadd hx hb dX0_cutPath_90 ?_
        refine va_put (D := D) (ci := 0) (v := .int (nI (pl + 1))) (ty := .int) (C := RX0) (T := TX0) (N := 5) hx hb hts hinX0 tyX0 tyX0_ok nmX0 hown hK hP hD hS 0 rfl rfl 3 (by decide) lk1 (fun _ h9 => h9) rfl (by decide +kernel) rfl rfl (Nat.le_of_ble_eq_true rfl) dX0_cutPath_91 (fun H locs hP hD hS => ?_)
        have hP : va_P D vwCl [(k0, .inr (0, [.ref k1, .ref k2, .ref k3, .int (nI (pl + 1)), .int (nI aw)])), (k1, .inl (cI, 64, .inl (nF (va_up Oc pl k)))), (k2, .inl (cI, 64, .inl (nF (va_up Bc pl (F k))))), (k3, .inl (cZ, 64, .inl (nF Dc))), (l0, .inr (1, [.int (nI nm), .ref l1, .ref l2, .ref l3, .ref l4, .ref l5, .ref l6, .ref l7, .int (nI np)])), (l1, .inl (cI, 64, .inl (nF P))), (l2, .inl (cI, 64, .inl (nF Y))), (l3, .inl (cI, 64, .inl (nF V))), (l4, .inl (cI, 64, .inl (nF F))), (l5, .inl (cI, 64, .inl (nF L))), (l6, .inl (cI, 64, .inl (nF Z))), (l7, .inl (cI, 64, .inl (nF X)))] H := hP
        have hD : va_D A [(k0, .inr (0, [.ref k1, .ref k2, .ref k3, .int (nI (pl + 1)), .int (nI aw)])), (k1, .inl (cI, 64, .inl (nF (va_up Oc pl k)))), (k2, .inl (cI, 64, .inl (nF (va_up Bc pl (F k))))), (k3, .inl (cZ, 64, .inl (nF Dc))), (l0, .inr (1, [.int (nI nm), .ref l1, .ref l2, .ref l3, .ref l4, .ref l5, .ref l6, .ref l7, .int (nI np)])), (l1, .inl (cI, 64, .inl (nF P))), (l2, .inl (cI, 64, .inl (nF Y))), (l3, .inl (cI, 64, .inl (nF V))), (l4, .inl (cI, 64, .inl (nF F))), (l5, .inl (cI, 64, .inl (nF L))), (l6, .inl (cI, 64, .inl (nF Z))), (l7, .inl (cI, 64, .inl (nF X)))] := hD
        refine lv_aload_n hx hb dX0_cutPath_94 rfl (lv_at hl 4 rfl) ?_
        refine lv_dup hx hb dX0_cutPath_95 rfl ?_
        refine va_get (D := D) (ci := 0) (v := .int (nI aw)) (C := RX0) (T := TX0) (N := 5) hx hb hts hinX0 hown hK hP 0 rfl rfl 4 (by decide) lk8 (fun _ h9 => h9) rfl dX0_cutPath_96 ?_
        refine lv_iload_n hx hb dX0_cutPath_99 rfl (lv_at hl 7 rfl) ?_
        refine lv_iload hx hb dX0_cutPath_100 (lv_at hl 0 rfl) ?_
        refine gcSN (As := [.int (nI a), .int (nI (F k))]) (rest := [.int (nI aw), .ref k0]) ⟨hx, hb, hml, hown, hts⟩ (c_X4_wayBetween l a (F k) (by first | assumption | omega) (by omega)) (va_cnB 2 hts gX0_cutPath_X4_wayBetween_n49 rfl rfl rfl (hG.1 (RX0, 49, yX4_wayBetween) (by decide +kernel)) lk4 (by decide +kernel) ⟨Nat.le_of_ble_eq_true rfl, Nat.le_of_ble_eq_true rfl⟩) lk5 hl.1 rfl rfl (Nat.le_of_ble_eq_true rfl) ⟨Nat.zero_le _, Nat.zero_le _⟩ dX0_cutPath_102 ?_
        refine nv_iadd hx hb dX0_cutPath_105 ?_
        refine va_put (D := D) (ci := 0) (v := .int (nI (aw + (fr a (F k))))) (ty := .int) (C := RX0) (T := TX0) (N := 5) hx hb hts hinX0 tyX0 tyX0_ok nmX0 hown hK hP hD hS 0 rfl rfl 4 (by decide) lk8 (fun _ h9 => h9) rfl (by decide +kernel) rfl rfl (Nat.le_of_ble_eq_true rfl) dX0_cutPath_106 (fun H locs hP hD hS => ?_)
        have hP : va_P D vwCl [(k0, .inr (0, [.ref k1, .ref k2, .ref k3, .int (nI (pl + 1)), .int (nI (aw + (fr a (F k))))])), (k1, .inl (cI, 64, .inl (nF (va_up Oc pl k)))), (k2, .inl (cI, 64, .inl (nF (va_up Bc pl (F k))))), (k3, .inl (cZ, 64, .inl (nF Dc))), (l0, .inr (1, [.int (nI nm), .ref l1, .ref l2, .ref l3, .ref l4, .ref l5, .ref l6, .ref l7, .int (nI np)])), (l1, .inl (cI, 64, .inl (nF P))), (l2, .inl (cI, 64, .inl (nF Y))), (l3, .inl (cI, 64, .inl (nF V))), (l4, .inl (cI, 64, .inl (nF F))), (l5, .inl (cI, 64, .inl (nF L))), (l6, .inl (cI, 64, .inl (nF Z))), (l7, .inl (cI, 64, .inl (nF X)))] H := hP
        have hD : va_D A [(k0, .inr (0, [.ref k1, .ref k2, .ref k3, .int (nI (pl + 1)), .int (nI (aw + (fr a (F k))))])), (k1, .inl (cI, 64, .inl (nF (va_up Oc pl k)))), (k2, .inl (cI, 64, .inl (nF (va_up Bc pl (F k))))), (k3, .inl (cZ, 64, .inl (nF Dc))), (l0, .inr (1, [.int (nI nm), .ref l1, .ref l2, .ref l3, .ref l4, .ref l5, .ref l6, .ref l7, .int (nI np)])), (l1, .inl (cI, 64, .inl (nF P))), (l2, .inl (cI, 64, .inl (nF Y))), (l3, .inl (cI, 64, .inl (nF V))), (l4, .inl (cI, 64, .inl (nF F))), (l5, .inl (cI, 64, .inl (nF L))), (l6, .inl (cI, 64, .inl (nF Z))), (l7, .inl (cI, 64, .inl (nF X)))] := hD
        refine lv_aload_n hx hb dX0_cutPath_109 rfl (lv_at hl 4 rfl) ?_
        refine va_get (D := D) (ci := 0) (v := .ref k3) (C := RX0) (T := TX0) (N := 5) hx hb hts hinX0 hown hK hP 0 rfl rfl 2 (by decide) lk9 (fun _ h9 => h9) rfl dX0_cutPath_110 ?_
        refine lv_iload_n hx hb dX0_cutPath_113 rfl (lv_at hl 6 rfl) ?_
        refine lv_iconst (v := nI 1) hx hb dX0_cutPath_114 (by decide) ?_
        refine nv_zast hx hb hK hP hD hS 3 rfl (by omega) (by decide) (by omega) dX0_cutPath_115 (fun H locs hP hD hS => ?_)
        have hP : va_P D vwCl [(k0, .inr (0, [.ref k1, .ref k2, .ref k3, .int (nI (pl + 1)), .int (nI (aw + (fr a (F k))))])), (k1, .inl (cI, 64, .inl (nF (va_up Oc pl k)))), (k2, .inl (cI, 64, .inl (nF (va_up Bc pl (F k))))), (k3, .inl (cZ, 64, .inl (nF (va_up Dc k 1)))), (l0, .inr (1, [.int (nI nm), .ref l1, .ref l2, .ref l3, .ref l4, .ref l5, .ref l6, .ref l7, .int (nI np)])), (l1, .inl (cI, 64, .inl (nF P))), (l2, .inl (cI, 64, .inl (nF Y))), (l3, .inl (cI, 64, .inl (nF V))), (l4, .inl (cI, 64, .inl (nF F))), (l5, .inl (cI, 64, .inl (nF L))), (l6, .inl (cI, 64, .inl (nF Z))), (l7, .inl (cI, 64, .inl (nF X)))] H := hP
        have hD : va_D A [(k0, .inr (0, [.ref k1, .ref k2, .ref k3, .int (nI (pl + 1)), .int (nI (aw + (fr a (F k))))])), (k1, .inl (cI, 64, .inl (nF (va_up Oc pl k)))), (k2, .inl (cI, 64, .inl (nF (va_up Bc pl (F k))))), (k3, .inl (cZ, 64, .inl (nF (va_up Dc k 1)))), (l0, .inr (1, [.int (nI nm), .ref l1, .ref l2, .ref l3, .ref l4, .ref l5, .ref l6, .ref l7, .int (nI np)])), (l1, .inl (cI, 64, .inl (nF P))), (l2, .inl (cI, 64, .inl (nF Y))), (l3, .inl (cI, 64, .inl (nF V))), (l4, .inl (cI, 64, .inl (nF F))), (l5, .inl (cI, 64, .inl (nF L))), (l6, .inl (cI, 64, .inl (nF Z))), (l7, .inl (cI, 64, .inl (nF X)))] := hD
        refine lv_iload hx hb dX0_cutPath_116 (lv_at hl 1 rfl) ?_
        refine nv_if_eq (tgt := 126) hx hb dX0_cutPath_118 (by decide) (by omega) (fun c_6 => ?_) (fun c_6 => ?_)
        · skip
          exact absurd c_6 (by decide)
        · skip
          refine lv_iload hx hb dX0_cutPath_121 (lv_at hl 2 rfl) ?_
          refine lv_goto (tgt := 128) hx hb dX0_cutPath_123 (by decide) ?_
          exact hret _ (va_up Bc pl (F k), aw + (fr a (F k))) _ _ _ _ dX0_cutPath_128 (⟨by unfold en; rw [if_pos (by omega)], by unfold stt; rw [if_pos (by omega)], by unfold stt; rw [if_pos (by omega)]⟩) hP hD hS
  · skip
    exact absurd hpl c_1

set_option maxHeartbeats 4000000 in
set_option maxRecDepth 100000 in
theorem c_X0_plan (l : Launch) (D : va_G) (cI cZ : ClassId) (tt : Nat → Nat) (sz : Nat) (k0 k1 k2 k3 : Nat) (pl aw : Nat) (Oc Bc Dc : Nat → Nat) (l0 l1 l2 l3 l4 l5 l6 l7 : Nat) (nm np : Nat) (P Y V F L Z X : Nat → Nat) (hnp : np ≤ 64) (hFL : ∀ k, k < np → F k < 64 ∧ L k < 64) : MV l yX0_plan wsX0_plan ({ frames := 3, cells := 0, slots := 0, locals := 71 } : Room) D cI cZ tt [.ref k0, .ref l0] [(k0, .inr (0, [.ref k1, .ref k2, .ref k3, .int (nI pl), .int (nI aw)])), (k1, .inl (cI, 64, .inl (nF Oc))), (k2, .inl (cI, 64, .inl (nF Bc))), (k3, .inl (cZ, 64, .inl (nF Dc))), (l0, .inr (1, [.int (nI nm), .ref l1, .ref l2, .ref l3, .ref l4, .ref l5, .ref l6, .ref l7, .int (nI np)])), (l1, .inl (cI, 64, .inl (nF P))), (l2, .inl (cI, 64, .inl (nF Y))), (l3, .inl (cI, 64, .inl (nF V))), (l4, .inl (cI, 64, .inl (nF F))), (l5, .inl (cI, 64, .inl (nF L))), (l6, .inl (cI, 64, .inl (nF Z))), (l7, .inl (cI, 64, .inl (nF X)))] sz 0 0 (fun (u : (Nat → Nat) × (Nat → Nat) × (Nat → Nat) × (Nat) × (Nat)) => (∀ j, j < np → u.1 j = od F L np j) ∧ (∀ j, j < np → u.2.1 j = bgc F L np j) ∧ (u.2.2.2.1 = np) ∧ (u.2.2.2.2 = (os F L np np).2.2)) (fun (u : (Nat → Nat) × (Nat → Nat) × (Nat → Nat) × (Nat) × (Nat)) => [(k0, .inr (0, [.ref k1, .ref k2, .ref k3, .int (nI u.2.2.2.1), .int (nI u.2.2.2.2)])), (k1, .inl (cI, 64, .inl (nF u.1))), (k2, .inl (cI, 64, .inl (nF u.2.1))), (k3, .inl (cZ, 64, .inl (nF u.2.2.1))), (l0, .inr (1, [.int (nI nm), .ref l1, .ref l2, .ref l3, .ref l4, .ref l5, .ref l6, .ref l7, .int (nI np)])), (l1, .inl (cI, 64, .inl (nF P))), (l2, .inl (cI, 64, .inl (nF Y))), (l3, .inl (cI, 64, .inl (nF V))), (l4, .inl (cI, 64, .inl (nF F))), (l5, .inl (cI, 64, .inl (nF L))), (l6, .inl (cI, 64, .inl (nF Z))), (l7, .inl (cI, 64, .inl (nF X)))]) := by
  refine entV (cc := cX0_plan) 5 (by decide) rfl (Nat.le_of_ble_eq_true rfl) (fun pr e s m args below meth c0 A Q H ls hx hb hml hown hts hin hsz hA hP hK hD hS hG hret hl => ?_)
  have hown : s.vm.findClass RX0 = some m.cls := hown
  have lk1 := hts (.fieldLink RX0 22 "BurinLines$Cutting" "planned" "I") (by decide +kernel)
  have lk2 := hts (.fieldLink RX0 26 "BurinLines$Cutting" "wayInAir" "I") (by decide +kernel)
  have lk3 := hts (.initialized RX4) (by decide +kernel)
  have lk4 := hts (.static yX4_cellOf) (by decide +kernel)
  have lk5 := hts (.fieldLink RX0 33 "BurinLines$Layer" "pathCount" "I") (by decide +kernel)
  have lk6 := hts (.fieldLink RX0 18 "BurinLines$Cutting" "done" "[Z") (by decide +kernel)
  have hinX0 : ∀ w ∈ wsX00, w ∈ wsX0_plan := by decide +kernel
  have hinX1 : ∀ w ∈ wsX10, w ∈ wsX0_plan := by decide +kernel
  have hl : lv_has ls 5 [(0, .ref k0), (1, .ref l0)] := hl
  refine lv_iconst (v := nI 0) hx hb dX0_plan_0 (by decide) ?_
  refine lv_istore_n (lv' := [(2, .int (nI 0)), (0, .ref k0), (1, .ref l0)]) hx hb dX0_plan_1 rfl hl (by decide) rfl (fun ls hl => ?_)
  have L2 : ∀ (n : Nat) (i : Nat) (D1 : Nat → Nat), 64 - i < n → (i ≤ 64) → (∀ k, k < i → D1 k = 0) → ∀ (H : Heap) (locs : List Loc) (ls : Array Slot), va_P D vwCl [(k0, .inr (0, [.ref k1, .ref k2, .ref k3, .int (nI pl), .int (nI aw)])), (k1, .inl (cI, 64, .inl (nF Oc))), (k2, .inl (cI, 64, .inl (nF Bc))), (k3, .inl (cZ, 64, .inl (nF D1))), (l0, .inr (1, [.int (nI nm), .ref l1, .ref l2, .ref l3, .ref l4, .ref l5, .ref l6, .ref l7, .int (nI np)])), (l1, .inl (cI, 64, .inl (nF P))), (l2, .inl (cI, 64, .inl (nF Y))), (l3, .inl (cI, 64, .inl (nF V))), (l4, .inl (cI, 64, .inl (nF F))), (l5, .inl (cI, 64, .inl (nF L))), (l6, .inl (cI, 64, .inl (nF Z))), (l7, .inl (cI, 64, .inl (nF X)))] H → va_D A [(k0, .inr (0, [.ref k1, .ref k2, .ref k3, .int (nI pl), .int (nI aw)])), (k1, .inl (cI, 64, .inl (nF Oc))), (k2, .inl (cI, 64, .inl (nF Bc))), (k3, .inl (cZ, 64, .inl (nF D1))), (l0, .inr (1, [.int (nI nm), .ref l1, .ref l2, .ref l3, .ref l4, .ref l5, .ref l6, .ref l7, .int (nI np)])), (l1, .inl (cI, 64, .inl (nF P))), (l2, .inl (cI, 64, .inl (nF Y))), (l3, .inl (cI, 64, .inl (nF V))), (l4, .inl (cI, 64, .inl (nF F))), (l5, .inl (cI, 64, .inl (nF L))), (l6, .inl (cI, 64, .inl (nF Z))), (l7, .inl (cI, 64, .inl (nF X)))] → va_S A s.heap H locs → lv_has ls 5 [(0, .ref k0), (1, .ref l0), (2, .int (nI i))] → W pr l e ({ frames := 3, cells := 0, slots := 0, locals := 71 } : Room) s m args below meth c0 H locs 0 0 Q (F0 m 2 ls []) := by
    intro n
    induction n with
    | zero => intro i D1 h0; exact absurd h0 (Nat.not_lt_zero _)
    | succ n ih2 =>
      intro i D1 hm2 hi q1 H locs ls hP hD hS hl
      refine lv_iload_n hx hb dX0_plan_2 rfl (lv_at hl 2 rfl) ?_
      refine lv_bipush (v := nI 64) hx hb dX0_plan_3 (by decide) ?_
      refine nv_icmp_ge (tgt := 21) hx hb dX0_plan_5 (by decide) (by omega) (by omega) (fun c_1 => ?_) (fun c_1 => ?_)
      · skip
        have h64 : i = 64 := by omega
        subst h64
        refine lv_aload_n hx hb dX0_plan_21 rfl (lv_at hl 0 rfl) ?_
        refine lv_iconst (v := nI 0) hx hb dX0_plan_22 (by decide) ?_
        refine va_put (D := D) (ci := 0) (v := .int (nI 0)) (ty := .int) (C := RX0) (T := TX0) (N := 5) hx hb hts hinX0 tyX0 tyX0_ok nmX0 hown hK hP hD hS 0 rfl rfl 3 (by decide) lk1 (fun _ h9 => h9) rfl (by decide +kernel) rfl rfl (Nat.le_of_ble_eq_true rfl) dX0_plan_23 (fun H locs hP hD hS => ?_)
        have hP : va_P D vwCl [(k0, .inr (0, [.ref k1, .ref k2, .ref k3, .int (nI 0), .int (nI aw)])), (k1, .inl (cI, 64, .inl (nF Oc))), (k2, .inl (cI, 64, .inl (nF Bc))), (k3, .inl (cZ, 64, .inl (nF D1))), (l0, .inr (1, [.int (nI nm), .ref l1, .ref l2, .ref l3, .ref l4, .ref l5, .ref l6, .ref l7, .int (nI np)])), (l1, .inl (cI, 64, .inl (nF P))), (l2, .inl (cI, 64, .inl (nF Y))), (l3, .inl (cI, 64, .inl (nF V))), (l4, .inl (cI, 64, .inl (nF F))), (l5, .inl (cI, 64, .inl (nF L))), (l6, .inl (cI, 64, .inl (nF Z))), (l7, .inl (cI, 64, .inl (nF X)))] H := hP
        have hD : va_D A [(k0, .inr (0, [.ref k1, .ref k2, .ref k3, .int (nI 0), .int (nI aw)])), (k1, .inl (cI, 64, .inl (nF Oc))), (k2, .inl (cI, 64, .inl (nF Bc))), (k3, .inl (cZ, 64, .inl (nF D1))), (l0, .inr (1, [.int (nI nm), .ref l1, .ref l2, .ref l3, .ref l4, .ref l5, .ref l6, .ref l7, .int (nI np)])), (l1, .inl (cI, 64, .inl (nF P))), (l2, .inl (cI, 64, .inl (nF Y))), (l3, .inl (cI, 64, .inl (nF V))), (l4, .inl (cI, 64, .inl (nF F))), (l5, .inl (cI, 64, .inl (nF L))), (l6, .inl (cI, 64, .inl (nF Z))), (l7, .inl (cI, 64, .inl (nF X)))] := hD
        refine lv_aload_n hx hb dX0_plan_26 rfl (lv_at hl 0 rfl) ?_
        refine lv_iconst (v := nI 0) hx hb dX0_plan_27 (by decide) ?_
        refine va_put (D := D) (ci := 0) (v := .int (nI 0)) (ty := .int) (C := RX0) (T := TX0) (N := 5) hx hb hts hinX0 tyX0 tyX0_ok nmX0 hown hK hP hD hS 0 rfl rfl 4 (by decide) lk2 (fun _ h9 => h9) rfl (by decide +kernel) rfl rfl (Nat.le_of_ble_eq_true rfl) dX0_plan_28 (fun H locs hP hD hS => ?_)
        have hP : va_P D vwCl [(k0, .inr (0, [.ref k1, .ref k2, .ref k3, .int (nI 0), .int (nI 0)])), (k1, .inl (cI, 64, .inl (nF Oc))), (k2, .inl (cI, 64, .inl (nF Bc))), (k3, .inl (cZ, 64, .inl (nF D1))), (l0, .inr (1, [.int (nI nm), .ref l1, .ref l2, .ref l3, .ref l4, .ref l5, .ref l6, .ref l7, .int (nI np)])), (l1, .inl (cI, 64, .inl (nF P))), (l2, .inl (cI, 64, .inl (nF Y))), (l3, .inl (cI, 64, .inl (nF V))), (l4, .inl (cI, 64, .inl (nF F))), (l5, .inl (cI, 64, .inl (nF L))), (l6, .inl (cI, 64, .inl (nF Z))), (l7, .inl (cI, 64, .inl (nF X)))] H := hP
        have hD : va_D A [(k0, .inr (0, [.ref k1, .ref k2, .ref k3, .int (nI 0), .int (nI 0)])), (k1, .inl (cI, 64, .inl (nF Oc))), (k2, .inl (cI, 64, .inl (nF Bc))), (k3, .inl (cZ, 64, .inl (nF D1))), (l0, .inr (1, [.int (nI nm), .ref l1, .ref l2, .ref l3, .ref l4, .ref l5, .ref l6, .ref l7, .int (nI np)])), (l1, .inl (cI, 64, .inl (nF P))), (l2, .inl (cI, 64, .inl (nF Y))), (l3, .inl (cI, 64, .inl (nF V))), (l4, .inl (cI, 64, .inl (nF F))), (l5, .inl (cI, 64, .inl (nF L))), (l6, .inl (cI, 64, .inl (nF Z))), (l7, .inl (cI, 64, .inl (nF X)))] := hD
        refine lv_iconst (v := nI 0) hx hb dX0_plan_31 (by decide) ?_
        refine lv_iconst (v := nI 0) hx hb dX0_plan_32 (by decide) ?_
        refine gcSN (As := [.int (nI 0), .int (nI 0)]) (rest := []) ⟨hx, hb, hml, hown, hts⟩ (c_X4_cellOf l 0 0 ) (va_cnB 2 hts gX0_plan_X4_cellOf_n29 rfl rfl rfl (hG.1 (RX0, 29, yX4_cellOf) (by decide +kernel)) lk3 (by decide +kernel) ⟨Nat.le_of_ble_eq_true rfl, Nat.le_of_ble_eq_true rfl⟩) lk4 hl.1 rfl rfl (Nat.le_of_ble_eq_true rfl) ⟨Nat.zero_le _, Nat.zero_le _⟩ dX0_plan_33 ?_
        refine lv_istore_n (lv' := [(2, .int (nI (8 * 0 + 0))), (0, .ref k0), (1, .ref l0)]) hx hb dX0_plan_36 rfl hl (by decide) rfl (fun ls hl => ?_)
        refine lv_iconst (v := nI 0) hx hb dX0_plan_37 (by decide) ?_
        refine lv_istore_n (lv' := [(3, .int (nI 0)), (2, .int (nI (8 * 0 + 0))), (0, .ref k0), (1, .ref l0)]) hx hb dX0_plan_38 rfl hl (by decide) rfl (fun ls hl => ?_)
        have L39 : ∀ (n : Nat) (i : Nat) (O2 : Nat → Nat) (B2 : Nat → Nat) (D2 : Nat → Nat) (aw2 : Nat) (a : Nat), np - i < n → (i ≤ np) → (∀ j, j < i → O2 j = od F L np j) → (∀ j, j < i → B2 j = bgc F L np j) → (∀ k, k < 64 → D2 k = (os F L np i).2.1 k) → (aw2 = (os F L np i).2.2) → (a = (os F L np i).1) → ∀ (H : Heap) (locs : List Loc) (ls : Array Slot), va_P D vwCl [(k0, .inr (0, [.ref k1, .ref k2, .ref k3, .int (nI i), .int (nI aw2)])), (k1, .inl (cI, 64, .inl (nF O2))), (k2, .inl (cI, 64, .inl (nF B2))), (k3, .inl (cZ, 64, .inl (nF D2))), (l0, .inr (1, [.int (nI nm), .ref l1, .ref l2, .ref l3, .ref l4, .ref l5, .ref l6, .ref l7, .int (nI np)])), (l1, .inl (cI, 64, .inl (nF P))), (l2, .inl (cI, 64, .inl (nF Y))), (l3, .inl (cI, 64, .inl (nF V))), (l4, .inl (cI, 64, .inl (nF F))), (l5, .inl (cI, 64, .inl (nF L))), (l6, .inl (cI, 64, .inl (nF Z))), (l7, .inl (cI, 64, .inl (nF X)))] H → va_D A [(k0, .inr (0, [.ref k1, .ref k2, .ref k3, .int (nI i), .int (nI aw2)])), (k1, .inl (cI, 64, .inl (nF O2))), (k2, .inl (cI, 64, .inl (nF B2))), (k3, .inl (cZ, 64, .inl (nF D2))), (l0, .inr (1, [.int (nI nm), .ref l1, .ref l2, .ref l3, .ref l4, .ref l5, .ref l6, .ref l7, .int (nI np)])), (l1, .inl (cI, 64, .inl (nF P))), (l2, .inl (cI, 64, .inl (nF Y))), (l3, .inl (cI, 64, .inl (nF V))), (l4, .inl (cI, 64, .inl (nF F))), (l5, .inl (cI, 64, .inl (nF L))), (l6, .inl (cI, 64, .inl (nF Z))), (l7, .inl (cI, 64, .inl (nF X)))] → va_S A s.heap H locs → lv_has ls 5 [(0, .ref k0), (1, .ref l0), (2, .int (nI a)), (3, .int (nI i))] → W pr l e ({ frames := 3, cells := 0, slots := 0, locals := 71 } : Room) s m args below meth c0 H locs 0 0 Q (F0 m 39 ls []) := by
          intro n
          induction n with
          | zero => intro i O2 B2 D2 aw2 a h0; exact absurd h0 (Nat.not_lt_zero _)
          | succ n ih39 =>
            intro i O2 B2 D2 aw2 a hm39 hi hO2 hB2 hD2 haw hat H locs ls hP hD hS hl
            refine lv_iload_n hx hb dX0_plan_39 rfl (lv_at hl 3 rfl) ?_
            refine lv_aload_n hx hb dX0_plan_40 rfl (lv_at hl 1 rfl) ?_
            refine va_get (D := D) (ci := 1) (v := .int (nI np)) (C := RX1) (T := TX1) (N := 9) hx hb hts hinX1 hown hK hP 4 rfl rfl 8 (by decide) lk5 (fun _ h9 => h9) rfl dX0_plan_41 ?_
            refine nv_icmp_ge (tgt := 83) hx hb dX0_plan_44 (by decide) (by omega) (by omega) (fun c_2 => ?_) (fun c_2 => ?_)
            · skip
              exact hret (O2, B2, D2, i, aw2) _ _ _ _ dX0_plan_83 (⟨by intro j hj; exact hO2 j (by omega), by intro j hj; exact hB2 j (by omega), by show i = np; omega, by rw [haw, show i = np by omega]⟩) hP hD hS
            · skip
              refine lv_iload_n hx hb dX0_plan_47 rfl (lv_at hl 3 rfl) ?_
              refine lv_bipush (v := nI 64) hx hb dX0_plan_48 (by decide) ?_
              refine nv_icmp_ge (tgt := 83) hx hb dX0_plan_50 (by decide) (by omega) (by omega) (fun c_3 => ?_) (fun c_3 => ?_)
              · skip
                exact absurd hnp (by omega)
              · skip
                refine lv_aload_n hx hb dX0_plan_53 rfl (lv_at hl 0 rfl) ?_
                refine lv_aload_n hx hb dX0_plan_54 rfl (lv_at hl 1 rfl) ?_
                refine lv_iload_n hx hb dX0_plan_55 rfl (lv_at hl 2 rfl) ?_
                refine gcVi (ws' := fun _ => [(k0, .inr (0, [.ref k1, .ref k2, .ref k3, .int (nI i), .int (nI aw2)])), (k1, .inl (cI, 64, .inl (nF O2))), (k2, .inl (cI, 64, .inl (nF B2))), (k3, .inl (cZ, 64, .inl (nF D2))), (l0, .inr (1, [.int (nI nm), .ref l1, .ref l2, .ref l3, .ref l4, .ref l5, .ref l6, .ref l7, .int (nI np)])), (l1, .inl (cI, 64, .inl (nF P))), (l2, .inl (cI, 64, .inl (nF Y))), (l3, .inl (cI, 64, .inl (nF V))), (l4, .inl (cI, 64, .inl (nF F))), (l5, .inl (cI, 64, .inl (nF L))), (l6, .inl (cI, 64, .inl (nF Z))), (l7, .inl (cI, 64, .inl (nF X)))]) (wr := []) (ci := 0) (q0 := 0) (As := [.ref l0, .int (nI a)]) (rest := []) ⟨hx, hb, hml, hown, hts⟩ (c_X0_nearestPath l D cI cZ tt H.size k0 k1 k2 k3 i aw2 O2 B2 D2 l0 l1 l2 l3 l4 l5 l6 l7 nm np P Y V F L Z X a (by first | assumption | omega) (by first | assumption | omega) (by rw [hat]; exact (osI hnp hFL i (by omega)).1) (by intro k hk; rw [hD2 k hk]; exact (osI hnp hFL i (by omega)).2.1 k)) (cwV 2 hts gX0_plan_X0_nearestPath rfl rfl rfl (by decide +kernel) ⟨Nat.le_of_ble_eq_true rfl, Nat.le_of_ble_eq_true rfl⟩) hP hK hD hS hA hG rfl rfl [0, 1, 2, 3, 4, 5, 6, 7, 8, 9, 10, 11] [] [0, 1, 2, 3, 4, 5, 6, 7, 8, 9, 10, 11] (by decide) rfl rfl (by decide) (by decide) (by decide) (fun _ => rfl) hl.1 rfl rfl (Nat.le_of_ble_eq_true rfl) ⟨Nat.zero_le _, Nat.zero_le _⟩ dX0_plan_56 (fun r u H locs hp hP hD hS => ?_)
                obtain rfl := hp
                have hP : va_P D vwCl [(k0, .inr (0, [.ref k1, .ref k2, .ref k3, .int (nI i), .int (nI aw2)])), (k1, .inl (cI, 64, .inl (nF O2))), (k2, .inl (cI, 64, .inl (nF B2))), (k3, .inl (cZ, 64, .inl (nF D2))), (l0, .inr (1, [.int (nI nm), .ref l1, .ref l2, .ref l3, .ref l4, .ref l5, .ref l6, .ref l7, .int (nI np)])), (l1, .inl (cI, 64, .inl (nF P))), (l2, .inl (cI, 64, .inl (nF Y))), (l3, .inl (cI, 64, .inl (nF V))), (l4, .inl (cI, 64, .inl (nF F))), (l5, .inl (cI, 64, .inl (nF L))), (l6, .inl (cI, 64, .inl (nF Z))), (l7, .inl (cI, 64, .inl (nF X)))] H := hP
                have hD : va_D A [(k0, .inr (0, [.ref k1, .ref k2, .ref k3, .int (nI i), .int (nI aw2)])), (k1, .inl (cI, 64, .inl (nF O2))), (k2, .inl (cI, 64, .inl (nF B2))), (k3, .inl (cZ, 64, .inl (nF D2))), (l0, .inr (1, [.int (nI nm), .ref l1, .ref l2, .ref l3, .ref l4, .ref l5, .ref l6, .ref l7, .int (nI np)])), (l1, .inl (cI, 64, .inl (nF P))), (l2, .inl (cI, 64, .inl (nF Y))), (l3, .inl (cI, 64, .inl (nF V))), (l4, .inl (cI, 64, .inl (nF F))), (l5, .inl (cI, 64, .inl (nF L))), (l6, .inl (cI, 64, .inl (nF Z))), (l7, .inl (cI, 64, .inl (nF X)))] := hD
                obtain ⟨o1, o2, o3, o4, o5⟩ := osI hnp hFL i (by omega)
                have hod : od F L np i < np := (osI hnp hFL (i + 1) (by omega)).2.2.2.1 i (by omega)
                have eod : (sc (dfn F L a) D2 8 np).1 = od F L np i := by
                  rw [od, ← hat, sc_cong (d2 := dfn F L a) (e2 := (os F L np i).2.1) (fun k hk => ⟨rfl, by rw [hD2 k (by omega)]⟩)]
                refine top_eq (congrArg rI eod) ?_
                refine lv_istore (lv' := [(4, .int (rI (od F L np i))), (0, .ref k0), (1, .ref l0), (2, .int (nI a)), (3, .int (nI i))]) hx hb dX0_plan_59 hl (by decide) rfl (fun ls hl => ?_)
                refine lv_iload hx hb dX0_plan_61 (lv_at hl 0 rfl) ?_
                refine lv_iconst (v := (-1)) hx hb dX0_plan_63 (by decide) ?_
                refine nv_rne (tgt := 68) hx hb dX0_plan_64 (by decide) (by omega) (fun c_4 => ?_) (fun c_4 => ?_)
                · skip
                  rw [rI_some c_4] at hl
                  have hapl : a < 64 := by rw [hat]; exact o1
                  refine lv_aload_n hx hb dX0_plan_68 rfl (lv_at hl 1 rfl) ?_
                  refine lv_aload_n hx hb dX0_plan_69 rfl (lv_at hl 2 rfl) ?_
                  refine lv_iload hx hb dX0_plan_70 (lv_at hl 0 rfl) ?_
                  refine lv_iload_n hx hb dX0_plan_72 rfl (lv_at hl 3 rfl) ?_
                  refine gcVi (ws' := fun (u : (Nat → Nat) × (Nat)) => [(k0, .inr (0, [.ref k1, .ref k2, .ref k3, .int (nI (i + 1)), .int (nI u.2)])), (k1, .inl (cI, 64, .inl (nF (va_up O2 i (od F L np i))))), (k2, .inl (cI, 64, .inl (nF u.1))), (k3, .inl (cZ, 64, .inl (nF (va_up D2 (od F L np i) 1)))), (l0, .inr (1, [.int (nI nm), .ref l1, .ref l2, .ref l3, .ref l4, .ref l5, .ref l6, .ref l7, .int (nI np)])), (l1, .inl (cI, 64, .inl (nF P))), (l2, .inl (cI, 64, .inl (nF Y))), (l3, .inl (cI, 64, .inl (nF V))), (l4, .inl (cI, 64, .inl (nF F))), (l5, .inl (cI, 64, .inl (nF L))), (l6, .inl (cI, 64, .inl (nF Z))), (l7, .inl (cI, 64, .inl (nF X)))]) (wr := []) (ci := 0) (q0 := 0) (As := [.ref l0, .int (nI (od F L np i)), .int (nI a)]) (rest := []) ⟨hx, hb, hml, hown, hts⟩ (c_X0_cutPath l D cI cZ tt H.size k0 k1 k2 k3 i aw2 O2 B2 D2 l0 l1 l2 l3 l4 l5 l6 l7 nm np P Y V F L Z X (od F L np i) a (by first | assumption | omega) (by first | assumption | omega) (by exact hapl) (by exact hod) (by omega)) (cwV 3 hts gX0_plan_X0_cutPath rfl rfl rfl (by decide +kernel) ⟨Nat.le_of_ble_eq_true rfl, Nat.le_of_ble_eq_true rfl⟩) hP hK hD hS hA hG rfl rfl [0, 1, 2, 3, 4, 5, 6, 7, 8, 9, 10, 11] [] [0, 1, 2, 3, 4, 5, 6, 7, 8, 9, 10, 11] (by decide) rfl rfl (by decide) (by decide) (by decide) (fun _ => rfl) hl.1 rfl rfl (Nat.le_of_ble_eq_true rfl) ⟨Nat.zero_le _, Nat.zero_le _⟩ dX0_plan_73 (fun r u H locs hp hP hD hS => ?_)
                  obtain ⟨B2_5, aw2_6⟩ := u
                  obtain ⟨rfl, hB2_7, haw2_8⟩ := hp
                  have hB2_7 : B2_5 = va_up B2 i (stt F L a (od F L np i)) := hB2_7
                  have haw2_8 : aw2_6 = aw2 + fr a (stt F L a (od F L np i)) := haw2_8
                  have hP : va_P D vwCl [(k0, .inr (0, [.ref k1, .ref k2, .ref k3, .int (nI (i + 1)), .int (nI aw2_6)])), (k1, .inl (cI, 64, .inl (nF (va_up O2 i (od F L np i))))), (k2, .inl (cI, 64, .inl (nF B2_5))), (k3, .inl (cZ, 64, .inl (nF (va_up D2 (od F L np i) 1)))), (l0, .inr (1, [.int (nI nm), .ref l1, .ref l2, .ref l3, .ref l4, .ref l5, .ref l6, .ref l7, .int (nI np)])), (l1, .inl (cI, 64, .inl (nF P))), (l2, .inl (cI, 64, .inl (nF Y))), (l3, .inl (cI, 64, .inl (nF V))), (l4, .inl (cI, 64, .inl (nF F))), (l5, .inl (cI, 64, .inl (nF L))), (l6, .inl (cI, 64, .inl (nF Z))), (l7, .inl (cI, 64, .inl (nF X)))] H := hP
                  have hD : va_D A [(k0, .inr (0, [.ref k1, .ref k2, .ref k3, .int (nI (i + 1)), .int (nI aw2_6)])), (k1, .inl (cI, 64, .inl (nF (va_up O2 i (od F L np i))))), (k2, .inl (cI, 64, .inl (nF B2_5))), (k3, .inl (cZ, 64, .inl (nF (va_up D2 (od F L np i) 1)))), (l0, .inr (1, [.int (nI nm), .ref l1, .ref l2, .ref l3, .ref l4, .ref l5, .ref l6, .ref l7, .int (nI np)])), (l1, .inl (cI, 64, .inl (nF P))), (l2, .inl (cI, 64, .inl (nF Y))), (l3, .inl (cI, 64, .inl (nF V))), (l4, .inl (cI, 64, .inl (nF F))), (l5, .inl (cI, 64, .inl (nF L))), (l6, .inl (cI, 64, .inl (nF Z))), (l7, .inl (cI, 64, .inl (nF X)))] := hD
                  refine lv_istore_n (lv' := [(2, .int (nI (en F L a (od F L np i)))), (4, .int (nI (od F L np i))), (0, .ref k0), (1, .ref l0), (3, .int (nI i))]) hx hb dX0_plan_76 rfl hl (by decide) rfl (fun ls hl => ?_)
                  refine lv_iinc (v := nI (i + 1)) (lv' := [(3, .int (nI (i + 1))), (2, .int (nI (en F L a (od F L np i)))), (4, .int (nI (od F L np i))), (0, .ref k0), (1, .ref l0)]) hx hb dX0_plan_77 hl (k := 4) rfl (by exact nI_add _ 1) (by decide) rfl (fun ls hl => ?_)
                  refine lv_goto (tgt := 39) hx hb dX0_plan_80 (by decide) ?_
                  exact ih39 (i + 1) (va_up O2 i (od F L np i)) B2_5 (va_up D2 (od F L np i) 1) aw2_6 (en F L a (od F L np i)) (by omega) (by omega) (by
                    intro j hj
                    rcases Nat.lt_or_ge j i with z | z
                    · rw [up_n _ _ (by omega)]; exact hO2 j z
                    · rw [show j = i by omega, up_s]) (by
                    intro j hj
                    rw [hB2_7]
                    rcases Nat.lt_or_ge j i with z | z
                    · rw [up_n _ _ (by omega)]; exact hB2 j z
                    · rw [show j = i by omega, up_s, hat]; rfl) (by
                    intro k hk
                    show _ = va_up (os F L np i).2.1 (od F L np i) 1 k
                    unfold va_up
                    split
                    · rfl
                    · exact hD2 k hk) (by rw [haw2_8, haw, hat]; rfl) (by rw [hat]; rfl) _ _ _ hP hD hS (lv_sub hl [3, 4, 1, 0] rfl)
                · skip
                  exact absurd c_4 (by omega)
        exact L39 (np + 1) 0 Oc Bc D1 0 (8 * 0 + 0) (by omega) (by omega) (fun j hj => absurd hj (by omega)) (fun j hj => absurd hj (by omega)) (fun k hk => q1 k (by omega)) rfl rfl _ _ _ hP hD hS (lv_sub hl [2, 3, 1, 0] rfl)
      · skip
        refine lv_aload_n hx hb dX0_plan_8 rfl (lv_at hl 0 rfl) ?_
        refine va_get (D := D) (ci := 0) (v := .ref k3) (C := RX0) (T := TX0) (N := 5) hx hb hts hinX0 hown hK hP 0 rfl rfl 2 (by decide) lk6 (fun _ h9 => h9) rfl dX0_plan_9 ?_
        refine lv_iload_n hx hb dX0_plan_12 rfl (lv_at hl 2 rfl) ?_
        refine lv_iconst (v := nI 0) hx hb dX0_plan_13 (by decide) ?_
        refine nv_zast hx hb hK hP hD hS 3 rfl (by omega) (by decide) (by omega) dX0_plan_14 (fun H locs hP hD hS => ?_)
        have hP : va_P D vwCl [(k0, .inr (0, [.ref k1, .ref k2, .ref k3, .int (nI pl), .int (nI aw)])), (k1, .inl (cI, 64, .inl (nF Oc))), (k2, .inl (cI, 64, .inl (nF Bc))), (k3, .inl (cZ, 64, .inl (nF (va_up D1 i 0)))), (l0, .inr (1, [.int (nI nm), .ref l1, .ref l2, .ref l3, .ref l4, .ref l5, .ref l6, .ref l7, .int (nI np)])), (l1, .inl (cI, 64, .inl (nF P))), (l2, .inl (cI, 64, .inl (nF Y))), (l3, .inl (cI, 64, .inl (nF V))), (l4, .inl (cI, 64, .inl (nF F))), (l5, .inl (cI, 64, .inl (nF L))), (l6, .inl (cI, 64, .inl (nF Z))), (l7, .inl (cI, 64, .inl (nF X)))] H := hP
        have hD : va_D A [(k0, .inr (0, [.ref k1, .ref k2, .ref k3, .int (nI pl), .int (nI aw)])), (k1, .inl (cI, 64, .inl (nF Oc))), (k2, .inl (cI, 64, .inl (nF Bc))), (k3, .inl (cZ, 64, .inl (nF (va_up D1 i 0)))), (l0, .inr (1, [.int (nI nm), .ref l1, .ref l2, .ref l3, .ref l4, .ref l5, .ref l6, .ref l7, .int (nI np)])), (l1, .inl (cI, 64, .inl (nF P))), (l2, .inl (cI, 64, .inl (nF Y))), (l3, .inl (cI, 64, .inl (nF V))), (l4, .inl (cI, 64, .inl (nF F))), (l5, .inl (cI, 64, .inl (nF L))), (l6, .inl (cI, 64, .inl (nF Z))), (l7, .inl (cI, 64, .inl (nF X)))] := hD
        refine lv_iinc (v := nI (i + 1)) (lv' := [(2, .int (nI (i + 1))), (0, .ref k0), (1, .ref l0)]) hx hb dX0_plan_15 hl (k := 2) rfl (by exact nI_add _ 1) (by decide) rfl (fun ls hl => ?_)
        refine lv_goto (tgt := 2) hx hb dX0_plan_18 (by decide) ?_
        exact ih2 (i + 1) (va_up D1 i 0) (by omega) (by omega) (by
          intro k hk
          rcases Nat.lt_or_ge k i with z | z
          · rw [up_n _ _ (by omega)]; exact q1 k z
          · rw [show k = i by omega, up_s]) _ _ _ hP hD hS (lv_sub hl [1, 2, 0] rfl)
  exact L2 (64 + 1) 0 Dc (by omega) (by omega) (fun k hk => absurd hk (by omega)) _ _ _ hP hD hS (lv_sub hl [1, 2, 0] rfl)
end
section
/-! ===== what each call answers, and what it does to TONES T, TURNS U, TOLD B, the tool G ===== -/
def ci (x y : Int32) : Nat := 8 * y.toNatClampNeg + x.toNatClampNeg
theorem ci_n {a b : Nat} (ha : a < 8) (hb : b < 8) : ci (nI a) (nI b) = 8 * b + a := by unfold ci; rw [nI_clamp (by omega), nI_clamp (by omega)]
theorem cl_n {a : Nat} (ha : a < 2 ^ 31) : (nI a).toNatClampNeg = a := nI_clamp ha
theorem up_same {f : Nat → Nat} {k v : Nat} (h : f k = v) : va_up f k v = f := by
  funext j
  unfold va_up
  split
  · rename_i q; rw [q]; exact h.symm
  · rfl
def aTone (T : Nat → Nat) (x y v : Int32) : Int32 := if okc x y then (if okt v then nI (T (ci x y)) else -3) else -2
def uTone (T : Nat → Nat) (x y v : Int32) : Nat → Nat := if okc x y ∧ okt v then va_up T (ci x y) v.toNatClampNeg else T
def shX (T : Nat → Nat) (y v x0 : Nat) : Nat → (Nat → Nat) × Nat
  | 0 => (T, 0)
  | j + 1 => (va_up (shX T y v x0 j).1 (8 * y + (x0 + j)) v, (shX T y v x0 j).2 + if (shX T y v x0 j).1 (8 * y + (x0 + j)) = v then 0 else 1)
def shY (T : Nat → Nat) (y0 v x0 w : Nat) : Nat → (Nat → Nat) × Nat
  | 0 => (T, 0)
  | i + 1 => ((shX (shY T y0 v x0 w i).1 (y0 + i) v x0 w).1, (shY T y0 v x0 w i).2 + (shX (shY T y0 v x0 w i).1 (y0 + i) v x0 w).2)
theorem shX_le {T : Nat → Nat} {y v x0 : Nat} (hT : ∀ k, T k ≤ 100) (hv : v ≤ 100) : ∀ j, (∀ k, (shX T y v x0 j).1 k ≤ 100) ∧ (shX T y v x0 j).2 ≤ j
  | 0 => ⟨hT, Nat.le_refl 0⟩
  | j + 1 => by
    have ih := shX_le (y := y) (x0 := x0) hT hv j
    refine ⟨fun k => ?_, ?_⟩
    · show va_up (shX T y v x0 j).1 (8 * y + (x0 + j)) v k ≤ 100
      unfold va_up
      split
      · exact hv
      · exact ih.1 k
    · show (shX T y v x0 j).2 + (if (shX T y v x0 j).1 (8 * y + (x0 + j)) = v then 0 else 1) ≤ j + 1
      have := ih.2
      split <;> omega
theorem shY_le {T : Nat → Nat} {y0 v x0 w : Nat} (hT : ∀ k, T k ≤ 100) (hv : v ≤ 100) : ∀ i, (∀ k, (shY T y0 v x0 w i).1 k ≤ 100)
  | 0 => hT
  | i + 1 => (shX_le (shY_le hT hv i) hv w).1
abbrev oksh (x0 y0 x1 y1 v : Int32) : Prop := okt v ∧ ¬ x1 < x0 ∧ ¬ y1 < y0
def aShade (T : Nat → Nat) (x0 y0 x1 y1 v : Int32) : Int32 := if okc x0 y0 ∧ okc x1 y1 then (if oksh x0 y0 x1 y1 v then nI (shY T y0.toNatClampNeg v.toNatClampNeg x0.toNatClampNeg (x1.toNatClampNeg + 1 - x0.toNatClampNeg) (y1.toNatClampNeg + 1 - y0.toNatClampNeg)).2 else -3) else -2
def uShade (T : Nat → Nat) (x0 y0 x1 y1 v : Int32) : Nat → Nat := if okc x0 y0 ∧ okc x1 y1 ∧ oksh x0 y0 x1 y1 v then (shY T y0.toNatClampNeg v.toNatClampNeg x0.toNatClampNeg (x1.toNatClampNeg + 1 - x0.toNatClampNeg) (y1.toNatClampNeg + 1 - y0.toNatClampNeg)).1 else T
abbrev okT (t : Int32) : Prop := ¬ t < 0 ∧ t < nI 8
theorem okT_nat {t : Int32} (h : okT t) : ∃ a : Nat, a < 8 ∧ t = nI a := up_to (by decide) h.1 (by have := h.2; rw [i_lt] at this; rw [i_le]; omega)
theorem okT_in (t : Int32) : okT t ↔ inr t (nI 0) (nI 7) := by
  rw [inr_iff (by decide) (by decide)]
  unfold okT
  rw [i_lt, i_lt, z_T, nI_T (by decide)]
  omega
theorem okT_of {a : Nat} (ha : a < 8) : okT (nI a) := ⟨nI_pos (by omega), nI_lt ha (by decide)⟩
theorem okt_of {a : Nat} (ha : a ≤ 100) : okt (nI a) := ⟨nI_pos (by omega), nI_nlt ha (by decide)⟩
theorem okb_of {a b : Nat} (ha : a < 7) (hb : b < 7) : okb (nI a) (nI b) := ⟨nI_pos (by omega), nI_ge ha (by decide), nI_pos (by omega), nI_ge hb (by decide)⟩
def aTell (U : Nat → Nat) (x y t : Int32) : Int32 := if okc x y then (if okT t then nI (U (ci x y)) else -3) else -2
def uTell (U : Nat → Nat) (x y t : Int32) : Nat → Nat := if okc x y ∧ okT t then va_up U (ci x y) t.toNatClampNeg else U
def bTell (B : Nat → Nat) (x y t : Int32) : Nat → Nat := if okc x y ∧ okT t then va_up B (ci x y) 1 else B
def aFree (B : Nat → Nat) (x y : Int32) : Int32 := if okc x y then (if B (ci x y) = 0 then -4 else nI 1) else -2
def bFree (B : Nat → Nat) (x y : Int32) : Nat → Nat := if okc x y then va_up B (ci x y) 0 else B
def aAt (T U B : Nat → Nat) (x y w : Int32) : Int32 := if okc x y then (if w = nI 0 then nI (T (ci x y)) else if w = nI 1 then nI (U (ci x y)) else if w = nI 2 then nI (if B (ci x y) = 0 then 0 else 1) else -3) else -2
def aKnot (U : Nat → Nat) (x y : Int32) : Int32 := if okb x y then kn U (ci x y) else -2
def aWanted (G T : Nat → Nat) (x y ly : Int32) : Int32 := if okc x y ∧ okl ly then nI (wd G (T (ci x y)) ly.toNatClampNeg) else -2
/-- the WIDTH of a cell in a LAYER that is drawn -/
noncomputable def WV (p y : Nat → Nat) (sw d : Nat) : Nat := Classical.epsilon (fun n => ∃ V F L Z : Nat → Nat, LD p y sw V F L Z ∧ V d = n)
theorem WV_eq {p y : Nat → Nat} {sw d : Nat} {V F L Z : Nat → Nat} (h : LD p y sw V F L Z) (hd : d < 64) : V d = WV p y sw d := by
  obtain ⟨V2, F2, L2, Z2, h2, e⟩ := Classical.epsilon_spec (p := fun n => ∃ V F L Z : Nat → Nat, LD p y sw V F L Z ∧ V d = n) ⟨V d, V, F, L, Z, h, rfl⟩
  rw [LD_eq h h2 hd]
  exact e
/-- the first cell of a PATH, by its number -/
noncomputable def stc (p y : Nat → Nat) (k : Nat) : Nat := Classical.epsilon (fun c => c < 64 ∧ bgn p y c ∧ cb (bgb p y) c = k)
theorem stc_spec {p y : Nat → Nat} {k : Nat} (hk : k < cb (bgb p y) 64) : stc p y k < 64 ∧ bgn p y (stc p y k) ∧ cb (bgb p y) (stc p y k) = k := Classical.epsilon_spec (p := fun c => c < 64 ∧ bgn p y c ∧ cb (bgb p y) c = k) (LD_path hk)
noncomputable def lsc (p y : Nat → Nat) (k : Nat) : Nat := ch p y (stc p y k) (ln p y (stc p y k) - 1)
theorem stc_arr {p y : Nat → Nat} {sw : Nat} {V F L Z : Nat → Nat} (h : LD p y sw V F L Z) {k : Nat} (hk : k < cb (bgb p y) 64) : F k = stc p y k ∧ L k = lsc p y k ∧ Z k = ln p y (stc p y k) := by
  obtain ⟨h1, h2, h3⟩ := stc_spec hk
  obtain ⟨-, a, b, c⟩ := h.2 _ h1 h2
  rw [h3] at a b c
  exact ⟨a, b, c⟩
theorem stc_X {p y : Nat → Nat} {sw : Nat} {X : Nat → Nat} (h : ∀ c, c < 64 → bgn p y c → okX p y sw c X) {k : Nat} (hk : k < cb (bgb p y) 64) : X k = mxf (wdt p y sw (stc p y k)) (ln p y (stc p y k)) := by
  obtain ⟨h1, h2, h3⟩ := stc_spec hk
  have := h _ h1 h2
  unfold okX at this
  rw [h3] at this
  exact this
theorem lsc_lt {p y : Nat → Nat} {k : Nat} (hk : k < cb (bgb p y) 64) : lsc p y k < 64 := by
  obtain ⟨h1, h2, h3⟩ := stc_spec hk
  obtain ⟨a, b, c, d⟩ := ln_spec (Y := y) h1 h2.1
  exact (d _ (by omega)).1
noncomputable def aWidth (G T U : Nat → Nat) (x y ly : Int32) : Int32 := if okc x y ∧ okl ly then nI (WV (pW G T ly.toNatClampNeg) (pY U ly.toNatClampNeg) (G 3) (ci x y)) else -2
/-- MADE in a cell -/
noncomputable def mdf (G T U : Nat → Nat) (c : Nat) : Nat := 100 * (WV (pW G T 0) (pY U 0) (G 3) c + WV (pW G T 1) (pY U 1) (G 3) c) / G 0
noncomputable def aMade (G T U : Nat → Nat) (x y : Int32) : Int32 := if okc x y then nI (mdf G T U (ci x y)) else -2
def smf (e : Nat → Nat) : Nat → Nat
  | 0 => 0
  | n + 1 => smf e n + e n
theorem smf_cong {e g : Nat → Nat} : ∀ {n : Nat}, (∀ i, i < n → e i = g i) → smf e n = smf g n
  | 0, _ => rfl
  | n + 1, h => by rw [smf, smf, smf_cong (fun i hi => h i (by omega)), h n (by omega)]
noncomputable def erf (G T U : Nat → Nat) (c : Nat) : Nat := nd (T c) (mdf G T U c)
noncomputable def aError (G T U : Nat → Nat) (w : Int32) : Int32 := if w = 0 then nI (mxf (erf G T U) 64) else if w = nI 1 then nI (smf (erf G T U) 64) else -3
def npf (G T U : Nat → Nat) (ly : Nat) : Nat := cb (bgb (pW G T ly) (pY U ly)) 64
theorem npf_le (G T U : Nat → Nat) (ly : Nat) : npf G T U ly ≤ 64 := cb_le _ _
def aPaths (G T U : Nat → Nat) (ly : Int32) : Int32 := if okl ly then nI (npf G T U ly.toNatClampNeg) else -2
abbrev okk (k : Int32) (n : Nat) : Prop := ¬ k < 0 ∧ ¬ nI n ≤ k
noncomputable def aPath (G T U : Nat → Nat) (ly k w : Int32) : Int32 := if okl ly then (if okk k (npf G T U ly.toNatClampNeg) then
    (if w = nI 0 then nI (stc (pW G T ly.toNatClampNeg) (pY U ly.toNatClampNeg) k.toNatClampNeg) else if w = nI 1 then nI (lsc (pW G T ly.toNatClampNeg) (pY U ly.toNatClampNeg) k.toNatClampNeg) else if w = nI 2 then nI (ln (pW G T ly.toNatClampNeg) (pY U ly.toNatClampNeg) (stc (pW G T ly.toNatClampNeg) (pY U ly.toNatClampNeg) k.toNatClampNeg))
     else if w = nI 3 then nI (mxf (wdt (pW G T ly.toNatClampNeg) (pY U ly.toNatClampNeg) (G 3) (stc (pW G T ly.toNatClampNeg) (pY U ly.toNatClampNeg) k.toNatClampNeg)) (ln (pW G T ly.toNatClampNeg) (pY U ly.toNatClampNeg) (stc (pW G T ly.toNatClampNeg) (pY U ly.toNatClampNeg) k.toNatClampNeg))) else -3) else -2) else -2
noncomputable def odf (G T U : Nat → Nat) (ly i : Nat) : Nat := od (stc (pW G T ly) (pY U ly)) (lsc (pW G T ly) (pY U ly)) (npf G T U ly) i
noncomputable def bgf (G T U : Nat → Nat) (ly i : Nat) : Nat := bgc (stc (pW G T ly) (pY U ly)) (lsc (pW G T ly) (pY U ly)) (npf G T U ly) i
noncomputable def arf (G T U : Nat → Nat) (ly : Nat) : Nat := (os (stc (pW G T ly) (pY U ly)) (lsc (pW G T ly) (pY U ly)) (npf G T U ly) (npf G T U ly)).2.2
noncomputable def aCut (G T U : Nat → Nat) (ly i : Int32) : Int32 := if okl ly then (if okk i (npf G T U ly.toNatClampNeg) then nI (odf G T U ly.toNatClampNeg i.toNatClampNeg) else -3) else -2
noncomputable def aBegin (G T U : Nat → Nat) (ly i : Int32) : Int32 := if okl ly then (if okk i (npf G T U ly.toNatClampNeg) then nI (bgf G T U ly.toNatClampNeg i.toNatClampNeg) else -3) else -2
noncomputable def aAir (G T U : Nat → Nat) (ly : Int32) : Int32 := if okl ly then nI (arf G T U ly.toNatClampNeg) else -2
/-- the ORDER of a LAYER, by the rows of one drawing -/
theorem ord_arr {G T U : Nat → Nat} {ly : Nat} {V F L Z : Nat → Nat} (h : LD (pW G T ly) (pY U ly) (G 3) V F L Z) : (∀ k, k < npf G T U ly → F k < 64 ∧ L k < 64) ∧ (os F L (npf G T U ly) (npf G T U ly)).2.2 = arf G T U ly ∧ ∀ j, j < npf G T U ly → od F L (npf G T U ly) j = odf G T U ly j ∧ bgc F L (npf G T U ly) j = bgf G T U ly j := by
  have h1 : ∀ k, k < npf G T U ly → F k < 64 ∧ L k < 64 := fun k hk => by
    obtain ⟨a, b, c⟩ := stc_arr h hk
    rw [a, b]
    exact ⟨(stc_spec hk).1, lsc_lt hk⟩
  obtain ⟨e1, e2⟩ := os_cong (npf_le G T U ly) h1 (fun k hk => ⟨(stc_arr h hk).1, (stc_arr h hk).2.1⟩) (npf G T U ly) (Nat.le_refl _)
  exact ⟨h1, by rw [e1]; rfl, e2⟩
def pTn (T : Nat → Nat) (c : Nat) : Bool := decide (¬ T c = 0)
def pSt (G T : Nat → Nat) (ly c : Nat) : Bool := decide (¬ wd G (T c) ly = 0)
def pKn (U : Nat → Nat) (c : Nat) : Bool := decide (c % 8 < 7 ∧ c / 8 < 7 ∧ ¬ kn U c = 0 ∧ ¬ kn U c = nI 2)
def aCount (G T U B : Nat → Nat) (w : Int32) : Int32 := if w = nI 0 then nI (cb (pTn T) 64) else if w = nI 1 then nI (cb (pTn B) 64) else if w = nI 2 then nI (cb (pSt G T 0) 64) else if w = nI 3 then nI (cb (pSt G T 1) 64) else if w = nI 4 then nI (cb (pKn U) 64) else -3
theorem cb_skip {p : Nat → Bool} {a : Nat} : ∀ {n : Nat}, (∀ i, a ≤ i → i < a + n → ¬ p i = true) → cb p (a + n) = cb p a
  | 0, _ => rfl
  | n + 1, h => by
    show cb p ((a + n) + 1) = cb p a
    rw [cb_no (h (a + n) (by omega) (by omega)), cb_skip (fun i h1 h2 => h i h1 (by omega))]
theorem pTn_yes {T : Nat → Nat} {c : Nat} (h : ¬ T c = 0) : pTn T c = true := by unfold pTn; simp [h]
theorem pTn_no {T : Nat → Nat} {c : Nat} (h : T c = 0) : ¬ pTn T c = true := by unfold pTn; simp [h]
theorem pSt_yes {G T : Nat → Nat} {ly c : Nat} (h : ¬ wd G (T c) ly = 0) : pSt G T ly c = true := by unfold pSt; simp [h]
theorem pSt_no {G T : Nat → Nat} {ly c : Nat} (h : wd G (T c) ly = 0) : ¬ pSt G T ly c = true := by unfold pSt; simp [h]
theorem pKn_yes {U : Nat → Nat} {c : Nat} (h1 : c % 8 < 7) (h2 : c / 8 < 7) (h3 : ¬ kn U c = 0) (h4 : ¬ kn U c = nI 2) : pKn U c = true := by unfold pKn; simp [h1, h2, h3, h4]
theorem pKn_no {U : Nat → Nat} {c : Nat} (h : ¬ (c % 8 < 7 ∧ c / 8 < 7 ∧ ¬ kn U c = 0 ∧ ¬ kn U c = nI 2)) : ¬ pKn U c = true := by
  unfold pKn
  intro q
  exact h (of_decide_eq_true q)
end
section
set_option maxHeartbeats 4000000 in
set_option maxRecDepth 100000 in
theorem c_X2_knotOf (l : Launch) (D : va_G) (cI cZ : ClassId) (tt : Nat → Nat) (sz : Nat) (h0 h1 h2 h3 : Nat) (T U B : Nat → Nat) (x y : Nat) (hU : ∀ k, U k < 8) (hx7 : x < 7) (hy7 : y < 7) : MI l yX2_knotOf wsX2_knotOf ({ frames := 2, cells := 0, slots := 0, locals := 44 } : Room) D cI cZ tt [.ref h0, .int (nI x), .int (nI y)] [(h0, .inr (2, [.ref h1, .ref h2, .ref h3])), (h1, .inl (cI, 64, .inl (nF T))), (h2, .inl (cI, 64, .inl (nF U))), (h3, .inl (cZ, 64, .inl (nF B)))] sz (fun (r : Int32) (_ : Unit) => r = kn U (8 * y + x)) (fun (_ : Unit) => [(h0, .inr (2, [.ref h1, .ref h2, .ref h3])), (h1, .inl (cI, 64, .inl (nF T))), (h2, .inl (cI, 64, .inl (nF U))), (h3, .inl (cZ, 64, .inl (nF B)))]) := by
  refine entI (cc := cX2_knotOf) 12 (by decide) rfl (Nat.le_of_ble_eq_true rfl) (Or.inl rfl) (fun pr e s m args below meth c0 A Q H ls hx hb hml hown hts hsz hA hP hK hD hS hG hret hl => ?_)
  have hown : s.vm.findClass RX2 = some m.cls := hown
  have lk1 := hts (.fieldLink RX2 15 "BurinLines$Plate" "turns" "[I") (by decide +kernel)
  have lk2 := hts (.initialized RX4) (by decide +kernel)
  have lk3 := hts (.static yX4_cellOf) (by decide +kernel)
  have hinX2 : ∀ w ∈ wsX20, w ∈ wsX2_knotOf := by decide +kernel
  have hl : lv_has ls 12 [(0, .ref h0), (1, .int (nI x)), (2, .int (nI y))] := hl
  refine lv_aload_n hx hb dX2_knotOf_0 rfl (lv_at hl 0 rfl) ?_
  refine va_get (D := D) (ci := 2) (v := .ref h2) (C := RX2) (T := TX2) (N := 3) hx hb hts hinX2 hown hK hP 0 rfl rfl 1 (by decide) lk1 (fun _ h9 => h9) rfl dX2_knotOf_1 ?_
  refine lv_iload_n hx hb dX2_knotOf_4 rfl (lv_at hl 1 rfl) ?_
  refine lv_iload_n hx hb dX2_knotOf_5 rfl (lv_at hl 2 rfl) ?_
  refine gcSN (As := [.int (nI x), .int (nI y)]) (rest := [.ref h2]) ⟨hx, hb, hml, hown, hts⟩ (c_X4_cellOf l x y ) (va_cnB 2 hts gX2_knotOf_X4_cellOf_n45 rfl rfl rfl (hG.1 (RX2, 45, yX4_cellOf) (by decide +kernel)) lk2 (by decide +kernel) ⟨Nat.le_of_ble_eq_true rfl, Nat.le_of_ble_eq_true rfl⟩) lk3 hl.1 rfl rfl (Nat.le_of_ble_eq_true rfl) ⟨Nat.zero_le _, Nat.zero_le _⟩ dX2_knotOf_6 ?_
  refine nv_iald hx hb hK hP 2 rfl (by omega) (by decide) dX2_knotOf_9 ?_
  have bd_1 := hU (8 * y + x)
  refine lv_istore_n (lv' := [(3, .int (nI (U (8 * y + x)))), (0, .ref h0), (1, .int (nI x)), (2, .int (nI y))]) hx hb dX2_knotOf_10 rfl hl (by decide) rfl (fun ls hl => ?_)
  refine lv_aload_n hx hb dX2_knotOf_11 rfl (lv_at hl 1 rfl) ?_
  refine va_get (D := D) (ci := 2) (v := .ref h2) (C := RX2) (T := TX2) (N := 3) hx hb hts hinX2 hown hK hP 0 rfl rfl 1 (by decide) lk1 (fun _ h9 => h9) rfl dX2_knotOf_12 ?_
  refine lv_iload_n hx hb dX2_knotOf_15 rfl (lv_at hl 2 rfl) ?_
  refine lv_iconst (v := nI 1) hx hb dX2_knotOf_16 (by decide) ?_
  refine nv_iadd hx hb dX2_knotOf_17 ?_
  refine lv_iload_n hx hb dX2_knotOf_18 rfl (lv_at hl 3 rfl) ?_
  refine gcSN (As := [.int (nI (x + 1)), .int (nI y)]) (rest := [.ref h2]) ⟨hx, hb, hml, hown, hts⟩ (c_X4_cellOf l (x + 1) y ) (va_cnB 2 hts gX2_knotOf_X4_cellOf_n45 rfl rfl rfl (hG.1 (RX2, 45, yX4_cellOf) (by decide +kernel)) lk2 (by decide +kernel) ⟨Nat.le_of_ble_eq_true rfl, Nat.le_of_ble_eq_true rfl⟩) lk3 hl.1 rfl rfl (Nat.le_of_ble_eq_true rfl) ⟨Nat.zero_le _, Nat.zero_le _⟩ dX2_knotOf_19 ?_
  refine top_eq (congrArg nI (show 8 * y + (x + 1) = 8 * y + x + 1 by omega)) ?_
  refine nv_iald hx hb hK hP 2 rfl (by omega) (by decide) dX2_knotOf_22 ?_
  have bd_2 := hU (8 * y + x + 1)
  refine lv_istore (lv' := [(4, .int (nI (U (8 * y + x + 1)))), (3, .int (nI (U (8 * y + x)))), (0, .ref h0), (1, .int (nI x)), (2, .int (nI y))]) hx hb dX2_knotOf_23 hl (by decide) rfl (fun ls hl => ?_)
  refine lv_aload_n hx hb dX2_knotOf_25 rfl (lv_at hl 2 rfl) ?_
  refine va_get (D := D) (ci := 2) (v := .ref h2) (C := RX2) (T := TX2) (N := 3) hx hb hts hinX2 hown hK hP 0 rfl rfl 1 (by decide) lk1 (fun _ h9 => h9) rfl dX2_knotOf_26 ?_
  refine lv_iload_n hx hb dX2_knotOf_29 rfl (lv_at hl 3 rfl) ?_
  refine lv_iconst (v := nI 1) hx hb dX2_knotOf_30 (by decide) ?_
  refine nv_iadd hx hb dX2_knotOf_31 ?_
  refine lv_iload_n hx hb dX2_knotOf_32 rfl (lv_at hl 4 rfl) ?_
  refine lv_iconst (v := nI 1) hx hb dX2_knotOf_33 (by decide) ?_
  refine nv_iadd hx hb dX2_knotOf_34 ?_
  refine gcSN (As := [.int (nI (x + 1)), .int (nI (y + 1))]) (rest := [.ref h2]) ⟨hx, hb, hml, hown, hts⟩ (c_X4_cellOf l (x + 1) (y + 1) ) (va_cnB 2 hts gX2_knotOf_X4_cellOf_n45 rfl rfl rfl (hG.1 (RX2, 45, yX4_cellOf) (by decide +kernel)) lk2 (by decide +kernel) ⟨Nat.le_of_ble_eq_true rfl, Nat.le_of_ble_eq_true rfl⟩) lk3 hl.1 rfl rfl (Nat.le_of_ble_eq_true rfl) ⟨Nat.zero_le _, Nat.zero_le _⟩ dX2_knotOf_35 ?_
  refine top_eq (congrArg nI (show 8 * (y + 1) + (x + 1) = 8 * y + x + 9 by omega)) ?_
  refine nv_iald hx hb hK hP 2 rfl (by omega) (by decide) dX2_knotOf_38 ?_
  have bd_3 := hU (8 * y + x + 9)
  refine lv_istore (lv' := [(5, .int (nI (U (8 * y + x + 9)))), (4, .int (nI (U (8 * y + x + 1)))), (3, .int (nI (U (8 * y + x)))), (0, .ref h0), (1, .int (nI x)), (2, .int (nI y))]) hx hb dX2_knotOf_39 hl (by decide) rfl (fun ls hl => ?_)
  refine lv_aload_n hx hb dX2_knotOf_41 rfl (lv_at hl 3 rfl) ?_
  refine va_get (D := D) (ci := 2) (v := .ref h2) (C := RX2) (T := TX2) (N := 3) hx hb hts hinX2 hown hK hP 0 rfl rfl 1 (by decide) lk1 (fun _ h9 => h9) rfl dX2_knotOf_42 ?_
  refine lv_iload_n hx hb dX2_knotOf_45 rfl (lv_at hl 4 rfl) ?_
  refine lv_iload_n hx hb dX2_knotOf_46 rfl (lv_at hl 5 rfl) ?_
  refine lv_iconst (v := nI 1) hx hb dX2_knotOf_47 (by decide) ?_
  refine nv_iadd hx hb dX2_knotOf_48 ?_
  refine gcSN (As := [.int (nI x), .int (nI (y + 1))]) (rest := [.ref h2]) ⟨hx, hb, hml, hown, hts⟩ (c_X4_cellOf l x (y + 1) ) (va_cnB 2 hts gX2_knotOf_X4_cellOf_n45 rfl rfl rfl (hG.1 (RX2, 45, yX4_cellOf) (by decide +kernel)) lk2 (by decide +kernel) ⟨Nat.le_of_ble_eq_true rfl, Nat.le_of_ble_eq_true rfl⟩) lk3 hl.1 rfl rfl (Nat.le_of_ble_eq_true rfl) ⟨Nat.zero_le _, Nat.zero_le _⟩ dX2_knotOf_49 ?_
  refine top_eq (congrArg nI (show 8 * (y + 1) + x = 8 * y + x + 8 by omega)) ?_
  refine nv_iald hx hb hK hP 2 rfl (by omega) (by decide) dX2_knotOf_52 ?_
  have bd_4 := hU (8 * y + x + 8)
  refine lv_istore (lv' := [(6, .int (nI (U (8 * y + x + 8)))), (5, .int (nI (U (8 * y + x + 9)))), (4, .int (nI (U (8 * y + x + 1)))), (3, .int (nI (U (8 * y + x)))), (0, .ref h0), (1, .int (nI x)), (2, .int (nI y))]) hx hb dX2_knotOf_53 hl (by decide) rfl (fun ls hl => ?_)
  refine lv_iload_n hx hb dX2_knotOf_55 rfl (lv_at hl 3 rfl) ?_
  refine lv_iload hx hb dX2_knotOf_56 (lv_at hl 2 rfl) ?_
  refine gcS (As := [.int (nI (U (8 * y + x))), .int (nI (U (8 * y + x + 1)))]) (rest := []) ⟨hx, hb, hml, hown, hts⟩ (c_X2_growth l (U (8 * y + x)) (U (8 * y + x + 1)) (by first | assumption | omega) (by first | assumption | omega)) (va_cwS 2 hts gX2_knotOf_X2_growth rfl rfl rfl (by decide +kernel) ⟨Nat.le_of_ble_eq_true rfl, Nat.le_of_ble_eq_true rfl⟩) hl.1 rfl rfl (Nat.le_of_ble_eq_true rfl) ⟨Nat.zero_le _, Nat.zero_le _⟩ dX2_knotOf_58 ?_
  refine lv_istore (lv' := [(7, .int (gw (U (8 * y + x)) (U (8 * y + x + 1)))), (6, .int (nI (U (8 * y + x + 8)))), (5, .int (nI (U (8 * y + x + 9)))), (4, .int (nI (U (8 * y + x + 1)))), (3, .int (nI (U (8 * y + x)))), (0, .ref h0), (1, .int (nI x)), (2, .int (nI y))]) hx hb dX2_knotOf_61 hl (by decide) rfl (fun ls hl => ?_)
  refine lv_iload hx hb dX2_knotOf_63 (lv_at hl 3 rfl) ?_
  refine lv_iload hx hb dX2_knotOf_65 (lv_at hl 2 rfl) ?_
  refine gcS (As := [.int (nI (U (8 * y + x + 1))), .int (nI (U (8 * y + x + 9)))]) (rest := []) ⟨hx, hb, hml, hown, hts⟩ (c_X2_growth l (U (8 * y + x + 1)) (U (8 * y + x + 9)) (by first | assumption | omega) (by first | assumption | omega)) (va_cwS 2 hts gX2_knotOf_X2_growth rfl rfl rfl (by decide +kernel) ⟨Nat.le_of_ble_eq_true rfl, Nat.le_of_ble_eq_true rfl⟩) hl.1 rfl rfl (Nat.le_of_ble_eq_true rfl) ⟨Nat.zero_le _, Nat.zero_le _⟩ dX2_knotOf_67 ?_
  refine lv_istore (lv' := [(8, .int (gw (U (8 * y + x + 1)) (U (8 * y + x + 9)))), (7, .int (gw (U (8 * y + x)) (U (8 * y + x + 1)))), (6, .int (nI (U (8 * y + x + 8)))), (5, .int (nI (U (8 * y + x + 9)))), (4, .int (nI (U (8 * y + x + 1)))), (3, .int (nI (U (8 * y + x)))), (0, .ref h0), (1, .int (nI x)), (2, .int (nI y))]) hx hb dX2_knotOf_70 hl (by decide) rfl (fun ls hl => ?_)
  refine lv_iload hx hb dX2_knotOf_72 (lv_at hl 3 rfl) ?_
  refine lv_iload hx hb dX2_knotOf_74 (lv_at hl 2 rfl) ?_
  refine gcS (As := [.int (nI (U (8 * y + x + 9))), .int (nI (U (8 * y + x + 8)))]) (rest := []) ⟨hx, hb, hml, hown, hts⟩ (c_X2_growth l (U (8 * y + x + 9)) (U (8 * y + x + 8)) (by first | assumption | omega) (by first | assumption | omega)) (va_cwS 2 hts gX2_knotOf_X2_growth rfl rfl rfl (by decide +kernel) ⟨Nat.le_of_ble_eq_true rfl, Nat.le_of_ble_eq_true rfl⟩) hl.1 rfl rfl (Nat.le_of_ble_eq_true rfl) ⟨Nat.zero_le _, Nat.zero_le _⟩ dX2_knotOf_76 ?_
  refine lv_istore (lv' := [(9, .int (gw (U (8 * y + x + 9)) (U (8 * y + x + 8)))), (8, .int (gw (U (8 * y + x + 1)) (U (8 * y + x + 9)))), (7, .int (gw (U (8 * y + x)) (U (8 * y + x + 1)))), (6, .int (nI (U (8 * y + x + 8)))), (5, .int (nI (U (8 * y + x + 9)))), (4, .int (nI (U (8 * y + x + 1)))), (3, .int (nI (U (8 * y + x)))), (0, .ref h0), (1, .int (nI x)), (2, .int (nI y))]) hx hb dX2_knotOf_79 hl (by decide) rfl (fun ls hl => ?_)
  refine lv_iload hx hb dX2_knotOf_81 (lv_at hl 3 rfl) ?_
  refine lv_iload_n hx hb dX2_knotOf_83 rfl (lv_at hl 6 rfl) ?_
  refine gcS (As := [.int (nI (U (8 * y + x + 8))), .int (nI (U (8 * y + x)))]) (rest := []) ⟨hx, hb, hml, hown, hts⟩ (c_X2_growth l (U (8 * y + x + 8)) (U (8 * y + x)) (by first | assumption | omega) (by first | assumption | omega)) (va_cwS 2 hts gX2_knotOf_X2_growth rfl rfl rfl (by decide +kernel) ⟨Nat.le_of_ble_eq_true rfl, Nat.le_of_ble_eq_true rfl⟩) hl.1 rfl rfl (Nat.le_of_ble_eq_true rfl) ⟨Nat.zero_le _, Nat.zero_le _⟩ dX2_knotOf_84 ?_
  refine lv_istore (lv' := [(10, .int (gw (U (8 * y + x + 8)) (U (8 * y + x)))), (9, .int (gw (U (8 * y + x + 9)) (U (8 * y + x + 8)))), (8, .int (gw (U (8 * y + x + 1)) (U (8 * y + x + 9)))), (7, .int (gw (U (8 * y + x)) (U (8 * y + x + 1)))), (6, .int (nI (U (8 * y + x + 8)))), (5, .int (nI (U (8 * y + x + 9)))), (4, .int (nI (U (8 * y + x + 1)))), (3, .int (nI (U (8 * y + x)))), (0, .ref h0), (1, .int (nI x)), (2, .int (nI y))]) hx hb dX2_knotOf_87 hl (by decide) rfl (fun ls hl => ?_)
  refine lv_iconst (v := nI 4) hx hb dX2_knotOf_89 (by decide) ?_
  refine lv_istore (lv' := [(11, .int (nI 4)), (10, .int (gw (U (8 * y + x + 8)) (U (8 * y + x)))), (9, .int (gw (U (8 * y + x + 9)) (U (8 * y + x + 8)))), (8, .int (gw (U (8 * y + x + 1)) (U (8 * y + x + 9)))), (7, .int (gw (U (8 * y + x)) (U (8 * y + x + 1)))), (6, .int (nI (U (8 * y + x + 8)))), (5, .int (nI (U (8 * y + x + 9)))), (4, .int (nI (U (8 * y + x + 1)))), (3, .int (nI (U (8 * y + x)))), (0, .ref h0), (1, .int (nI x)), (2, .int (nI y))]) hx hb dX2_knotOf_90 hl (by decide) rfl (fun ls hl => ?_)
  refine lv_iload hx hb dX2_knotOf_92 (lv_at hl 4 rfl) ?_
  refine lv_iload hx hb dX2_knotOf_94 (lv_at hl 0 rfl) ?_
  refine lv_icmp_eq (tgt := 120) hx hb dX2_knotOf_96 (by decide) (fun c_5 => ?_) (fun c_5 => ?_)
  · skip
    refine lv_iconst (v := nI 2) hx hb dX2_knotOf_120 (by decide) ?_
    exact hret _ () _ _ _ _ dX2_knotOf_121 (by unfold kn; rw [if_pos (Or.inl c_5)]) hP hD hS
  · skip
    refine lv_iload hx hb dX2_knotOf_99 (lv_at hl 3 rfl) ?_
    refine lv_iload hx hb dX2_knotOf_101 (lv_at hl 0 rfl) ?_
    refine lv_icmp_eq (tgt := 120) hx hb dX2_knotOf_103 (by decide) (fun c_6 => ?_) (fun c_6 => ?_)
    · skip
      refine lv_iconst (v := nI 2) hx hb dX2_knotOf_120 (by decide) ?_
      exact hret _ () _ _ _ _ dX2_knotOf_121 (by unfold kn; rw [if_pos (Or.inr (Or.inl c_6))]) hP hD hS
    · skip
      refine lv_iload hx hb dX2_knotOf_106 (lv_at hl 2 rfl) ?_
      refine lv_iload hx hb dX2_knotOf_108 (lv_at hl 0 rfl) ?_
      refine lv_icmp_eq (tgt := 120) hx hb dX2_knotOf_110 (by decide) (fun c_7 => ?_) (fun c_7 => ?_)
      · skip
        refine lv_iconst (v := nI 2) hx hb dX2_knotOf_120 (by decide) ?_
        exact hret _ () _ _ _ _ dX2_knotOf_121 (by unfold kn; rw [if_pos (Or.inr (Or.inr (Or.inl c_7)))]) hP hD hS
      · skip
        refine lv_iload hx hb dX2_knotOf_113 (lv_at hl 1 rfl) ?_
        refine lv_iload hx hb dX2_knotOf_115 (lv_at hl 0 rfl) ?_
        refine lv_icmp_ne (tgt := 122) hx hb dX2_knotOf_117 (by decide) (fun c_8 => ?_) (fun c_8 => ?_)
        · skip
          refine lv_iload hx hb dX2_knotOf_122 (lv_at hl 4 rfl) ?_
          refine lv_iload hx hb dX2_knotOf_124 (lv_at hl 3 rfl) ?_
          refine lv_iadd hx hb dX2_knotOf_126 ?_
          refine lv_iload hx hb dX2_knotOf_127 (lv_at hl 2 rfl) ?_
          refine lv_iadd hx hb dX2_knotOf_129 ?_
          refine lv_iload hx hb dX2_knotOf_130 (lv_at hl 1 rfl) ?_
          refine lv_iadd hx hb dX2_knotOf_132 ?_
          refine lv_bipush (v := nI 8) hx hb dX2_knotOf_133 (by decide) ?_
          refine lv_idiv hx hb dX2_knotOf_135 (by decide) ?_
          exact hret _ () _ _ _ _ dX2_knotOf_136 (by unfold kn; rw [if_neg (fun q => by rcases q with q | q | q | q; exact c_5 q; exact c_6 q; exact c_7 q; exact c_8 q)]) hP hD hS
        · skip
          refine lv_iconst (v := nI 2) hx hb dX2_knotOf_120 (by decide) ?_
          exact hret _ () _ _ _ _ dX2_knotOf_121 (by unfold kn; rw [if_pos (Or.inr (Or.inr (Or.inr (c_8))))]) hP hD hS

set_option maxHeartbeats 4000000 in
set_option maxRecDepth 100000 in
theorem c_X2_countToned (l : Launch) (D : va_G) (cI cZ : ClassId) (tt : Nat → Nat) (sz : Nat) (h0 h1 h2 h3 : Nat) (T U B : Nat → Nat) (hT : ∀ k, T k ≤ 100) : MI l yX2_countToned wsX2_countToned ({ frames := 0, cells := 0, slots := 0, locals := 0 } : Room) D cI cZ tt [.ref h0] [(h0, .inr (2, [.ref h1, .ref h2, .ref h3])), (h1, .inl (cI, 64, .inl (nF T))), (h2, .inl (cI, 64, .inl (nF U))), (h3, .inl (cZ, 64, .inl (nF B)))] sz (fun (r : Int32) (_ : Unit) => r = nI (cb (pTn T) 64)) (fun (_ : Unit) => [(h0, .inr (2, [.ref h1, .ref h2, .ref h3])), (h1, .inl (cI, 64, .inl (nF T))), (h2, .inl (cI, 64, .inl (nF U))), (h3, .inl (cZ, 64, .inl (nF B)))]) := by
  refine entI (cc := cX2_countToned) 3 (by decide) rfl (Nat.le_of_ble_eq_true rfl) (Or.inl rfl) (fun pr e s m args below meth c0 A Q H ls hx hb hml hown hts hsz hA hP hK hD hS hG hret hl => ?_)
  have hown : s.vm.findClass RX2 = some m.cls := hown
  have lk1 := hts (.fieldLink RX2 9 "BurinLines$Plate" "tones" "[I") (by decide +kernel)
  have hinX2 : ∀ w ∈ wsX20, w ∈ wsX2_countToned := by decide +kernel
  have hl : lv_has ls 3 [(0, .ref h0)] := hl
  refine lv_iconst (v := nI 0) hx hb dX2_countToned_0 (by decide) ?_
  refine lv_istore_n (lv' := [(1, .int (nI 0)), (0, .ref h0)]) hx hb dX2_countToned_1 rfl hl (by decide) rfl (fun ls hl => ?_)
  refine lv_iconst (v := nI 0) hx hb dX2_countToned_2 (by decide) ?_
  refine lv_istore_n (lv' := [(2, .int (nI 0)), (1, .int (nI 0)), (0, .ref h0)]) hx hb dX2_countToned_3 rfl hl (by decide) rfl (fun ls hl => ?_)
  have L4 : ∀ (n : Nat) (i : Nat) (n0 : Nat), 64 - i < n → (i ≤ 64) → (n0 = cb (pTn T) i) → ∀ (H : Heap) (locs : List Loc) (ls : Array Slot), va_P D vwCl [(h0, .inr (2, [.ref h1, .ref h2, .ref h3])), (h1, .inl (cI, 64, .inl (nF T))), (h2, .inl (cI, 64, .inl (nF U))), (h3, .inl (cZ, 64, .inl (nF B)))] H → va_D A [(h0, .inr (2, [.ref h1, .ref h2, .ref h3])), (h1, .inl (cI, 64, .inl (nF T))), (h2, .inl (cI, 64, .inl (nF U))), (h3, .inl (cZ, 64, .inl (nF B)))] → va_S A s.heap H locs → lv_has ls 3 [(0, .ref h0), (1, .int (nI n0)), (2, .int (nI i))] → W pr l e ({ frames := 0, cells := 0, slots := 0, locals := 0 } : Room) s m args below meth c0 H locs 0 0 Q (F0 m 4 ls []) := by
    intro n
    induction n with
    | zero => intro i n0 h0; exact absurd h0 (Nat.not_lt_zero _)
    | succ n ih4 =>
      intro i n0 hm4 hi hn H locs ls hP hD hS hl
      refine lv_iload_n hx hb dX2_countToned_4 rfl (lv_at hl 2 rfl) ?_
      refine lv_bipush (v := nI 64) hx hb dX2_countToned_5 (by decide) ?_
      refine nv_icmp_ge (tgt := 28) hx hb dX2_countToned_7 (by decide) (by omega) (by omega) (fun c_1 => ?_) (fun c_1 => ?_)
      · skip
        refine lv_iload_n hx hb dX2_countToned_28 rfl (lv_at hl 1 rfl) ?_
        exact hret _ () _ _ _ _ dX2_countToned_29 (by rw [hn, show i = 64 by omega]) hP hD hS
      · skip
        refine lv_aload_n hx hb dX2_countToned_10 rfl (lv_at hl 0 rfl) ?_
        refine va_get (D := D) (ci := 2) (v := .ref h1) (C := RX2) (T := TX2) (N := 3) hx hb hts hinX2 hown hK hP 0 rfl rfl 0 (by decide) lk1 (fun _ h9 => h9) rfl dX2_countToned_11 ?_
        refine lv_iload_n hx hb dX2_countToned_14 rfl (lv_at hl 2 rfl) ?_
        refine nv_iald hx hb hK hP 1 rfl (by omega) (by decide) dX2_countToned_15 ?_
        have bd_2 := hT i
        refine nv_if_le (tgt := 22) hx hb dX2_countToned_16 (by decide) (by omega) (fun c_3 => ?_) (fun c_3 => ?_)
        · skip
          refine lv_iinc (v := nI (i + 1)) (lv' := [(2, .int (nI (i + 1))), (0, .ref h0), (1, .int (nI n0))]) hx hb dX2_countToned_22 hl (k := 2) rfl (by exact nI_add _ 1) (by decide) rfl (fun ls hl => ?_)
          refine lv_goto (tgt := 4) hx hb dX2_countToned_25 (by decide) ?_
          exact ih4 (i + 1) n0 (by omega) (by omega) (by rw [hn, cb_no (pTn_no (by assumption))]) _ _ _ hP hD hS (lv_sub hl [1, 2, 0] rfl)
        · skip
          refine lv_iinc (v := nI (n0 + 1)) (lv' := [(1, .int (nI (n0 + 1))), (0, .ref h0), (2, .int (nI i))]) hx hb dX2_countToned_19 hl (k := 1) rfl (by exact nI_add _ 1) (by decide) rfl (fun ls hl => ?_)
          refine lv_iinc (v := nI (i + 1)) (lv' := [(2, .int (nI (i + 1))), (1, .int (nI (n0 + 1))), (0, .ref h0)]) hx hb dX2_countToned_22 hl (k := 2) rfl (by exact nI_add _ 1) (by decide) rfl (fun ls hl => ?_)
          refine lv_goto (tgt := 4) hx hb dX2_countToned_25 (by decide) ?_
          exact ih4 (i + 1) (n0 + 1) (by omega) (by omega) (by rw [hn, cb_yes (pTn_yes (by assumption))]) _ _ _ hP hD hS (lv_sub hl [2, 1, 0] rfl)
  exact L4 (64 + 1) 0 0 (by omega) (by omega) rfl _ _ _ hP hD hS (lv_sub hl [2, 1, 0] rfl)

set_option maxHeartbeats 4000000 in
set_option maxRecDepth 100000 in
theorem c_X2_countTold (l : Launch) (D : va_G) (cI cZ : ClassId) (tt : Nat → Nat) (sz : Nat) (h0 h1 h2 h3 : Nat) (T U B : Nat → Nat) (hB : ∀ k, B k < 2) : MI l yX2_countTold wsX2_countTold ({ frames := 0, cells := 0, slots := 0, locals := 0 } : Room) D cI cZ tt [.ref h0] [(h0, .inr (2, [.ref h1, .ref h2, .ref h3])), (h1, .inl (cI, 64, .inl (nF T))), (h2, .inl (cI, 64, .inl (nF U))), (h3, .inl (cZ, 64, .inl (nF B)))] sz (fun (r : Int32) (_ : Unit) => r = nI (cb (pTn B) 64)) (fun (_ : Unit) => [(h0, .inr (2, [.ref h1, .ref h2, .ref h3])), (h1, .inl (cI, 64, .inl (nF T))), (h2, .inl (cI, 64, .inl (nF U))), (h3, .inl (cZ, 64, .inl (nF B)))]) := by
  refine entI (cc := cX2_countTold) 3 (by decide) rfl (Nat.le_of_ble_eq_true rfl) (Or.inl rfl) (fun pr e s m args below meth c0 A Q H ls hx hb hml hown hts hsz hA hP hK hD hS hG hret hl => ?_)
  have hown : s.vm.findClass RX2 = some m.cls := hown
  have lk1 := hts (.fieldLink RX2 18 "BurinLines$Plate" "told" "[Z") (by decide +kernel)
  have hinX2 : ∀ w ∈ wsX20, w ∈ wsX2_countTold := by decide +kernel
  have hl : lv_has ls 3 [(0, .ref h0)] := hl
  refine lv_iconst (v := nI 0) hx hb dX2_countTold_0 (by decide) ?_
  refine lv_istore_n (lv' := [(1, .int (nI 0)), (0, .ref h0)]) hx hb dX2_countTold_1 rfl hl (by decide) rfl (fun ls hl => ?_)
  refine lv_iconst (v := nI 0) hx hb dX2_countTold_2 (by decide) ?_
  refine lv_istore_n (lv' := [(2, .int (nI 0)), (1, .int (nI 0)), (0, .ref h0)]) hx hb dX2_countTold_3 rfl hl (by decide) rfl (fun ls hl => ?_)
  have L4 : ∀ (n : Nat) (i : Nat) (n0 : Nat), 64 - i < n → (i ≤ 64) → (n0 = cb (pTn B) i) → ∀ (H : Heap) (locs : List Loc) (ls : Array Slot), va_P D vwCl [(h0, .inr (2, [.ref h1, .ref h2, .ref h3])), (h1, .inl (cI, 64, .inl (nF T))), (h2, .inl (cI, 64, .inl (nF U))), (h3, .inl (cZ, 64, .inl (nF B)))] H → va_D A [(h0, .inr (2, [.ref h1, .ref h2, .ref h3])), (h1, .inl (cI, 64, .inl (nF T))), (h2, .inl (cI, 64, .inl (nF U))), (h3, .inl (cZ, 64, .inl (nF B)))] → va_S A s.heap H locs → lv_has ls 3 [(0, .ref h0), (1, .int (nI n0)), (2, .int (nI i))] → W pr l e ({ frames := 0, cells := 0, slots := 0, locals := 0 } : Room) s m args below meth c0 H locs 0 0 Q (F0 m 4 ls []) := by
    intro n
    induction n with
    | zero => intro i n0 h0; exact absurd h0 (Nat.not_lt_zero _)
    | succ n ih4 =>
      intro i n0 hm4 hi hn H locs ls hP hD hS hl
      refine lv_iload_n hx hb dX2_countTold_4 rfl (lv_at hl 2 rfl) ?_
      refine lv_bipush (v := nI 64) hx hb dX2_countTold_5 (by decide) ?_
      refine nv_icmp_ge (tgt := 28) hx hb dX2_countTold_7 (by decide) (by omega) (by omega) (fun c_1 => ?_) (fun c_1 => ?_)
      · skip
        refine lv_iload_n hx hb dX2_countTold_28 rfl (lv_at hl 1 rfl) ?_
        exact hret _ () _ _ _ _ dX2_countTold_29 (by rw [hn, show i = 64 by omega]) hP hD hS
      · skip
        refine lv_aload_n hx hb dX2_countTold_10 rfl (lv_at hl 0 rfl) ?_
        refine va_get (D := D) (ci := 2) (v := .ref h3) (C := RX2) (T := TX2) (N := 3) hx hb hts hinX2 hown hK hP 0 rfl rfl 2 (by decide) lk1 (fun _ h9 => h9) rfl dX2_countTold_11 ?_
        refine lv_iload_n hx hb dX2_countTold_14 rfl (lv_at hl 2 rfl) ?_
        refine nv_zald hx hb hK hP 3 rfl (by omega) (by decide) dX2_countTold_15 ?_
        have bd_2 := hB i
        refine nv_if_eq (tgt := 22) hx hb dX2_countTold_16 (by decide) (by omega) (fun c_3 => ?_) (fun c_3 => ?_)
        · skip
          refine lv_iinc (v := nI (i + 1)) (lv' := [(2, .int (nI (i + 1))), (0, .ref h0), (1, .int (nI n0))]) hx hb dX2_countTold_22 hl (k := 2) rfl (by exact nI_add _ 1) (by decide) rfl (fun ls hl => ?_)
          refine lv_goto (tgt := 4) hx hb dX2_countTold_25 (by decide) ?_
          exact ih4 (i + 1) n0 (by omega) (by omega) (by rw [hn, cb_no (pTn_no (by assumption))]) _ _ _ hP hD hS (lv_sub hl [1, 2, 0] rfl)
        · skip
          refine lv_iinc (v := nI (n0 + 1)) (lv' := [(1, .int (nI (n0 + 1))), (0, .ref h0), (2, .int (nI i))]) hx hb dX2_countTold_19 hl (k := 1) rfl (by exact nI_add _ 1) (by decide) rfl (fun ls hl => ?_)
          refine lv_iinc (v := nI (i + 1)) (lv' := [(2, .int (nI (i + 1))), (1, .int (nI (n0 + 1))), (0, .ref h0)]) hx hb dX2_countTold_22 hl (k := 2) rfl (by exact nI_add _ 1) (by decide) rfl (fun ls hl => ?_)
          refine lv_goto (tgt := 4) hx hb dX2_countTold_25 (by decide) ?_
          exact ih4 (i + 1) (n0 + 1) (by omega) (by omega) (by rw [hn, cb_yes (pTn_yes (by assumption))]) _ _ _ hP hD hS (lv_sub hl [2, 1, 0] rfl)
  exact L4 (64 + 1) 0 0 (by omega) (by omega) rfl _ _ _ hP hD hS (lv_sub hl [2, 1, 0] rfl)

set_option maxHeartbeats 4000000 in
set_option maxRecDepth 100000 in
theorem c_X2_countKnots (l : Launch) (D : va_G) (cI cZ : ClassId) (tt : Nat → Nat) (sz : Nat) (h0 h1 h2 h3 : Nat) (T U B : Nat → Nat) (hU : ∀ k, U k < 8) : MI l yX2_countKnots wsX2_countKnots ({ frames := 3, cells := 0, slots := 0, locals := 75 } : Room) D cI cZ tt [.ref h0] [(h0, .inr (2, [.ref h1, .ref h2, .ref h3])), (h1, .inl (cI, 64, .inl (nF T))), (h2, .inl (cI, 64, .inl (nF U))), (h3, .inl (cZ, 64, .inl (nF B)))] sz (fun (r : Int32) (_ : Unit) => r = nI (cb (pKn U) 64)) (fun (_ : Unit) => [(h0, .inr (2, [.ref h1, .ref h2, .ref h3])), (h1, .inl (cI, 64, .inl (nF T))), (h2, .inl (cI, 64, .inl (nF U))), (h3, .inl (cZ, 64, .inl (nF B)))]) := by
  refine entI (cc := cX2_countKnots) 5 (by decide) rfl (Nat.le_of_ble_eq_true rfl) (Or.inl rfl) (fun pr e s m args below meth c0 A Q H ls hx hb hml hown hts hsz hA hP hK hD hS hG hret hl => ?_)
  have hown : s.vm.findClass RX2 = some m.cls := hown
  have hl : lv_has ls 5 [(0, .ref h0)] := hl
  refine lv_iconst (v := nI 0) hx hb dX2_countKnots_0 (by decide) ?_
  refine lv_istore_n (lv' := [(1, .int (nI 0)), (0, .ref h0)]) hx hb dX2_countKnots_1 rfl hl (by decide) rfl (fun ls hl => ?_)
  refine lv_iconst (v := nI 0) hx hb dX2_countKnots_2 (by decide) ?_
  refine lv_istore_n (lv' := [(2, .int (nI 0)), (1, .int (nI 0)), (0, .ref h0)]) hx hb dX2_countKnots_3 rfl hl (by decide) rfl (fun ls hl => ?_)
  have L4 : ∀ (n : Nat) (y : Nat) (n0 : Nat), 7 - y < n → (y ≤ 7) → (n0 = cb (pKn U) (8 * y)) → ∀ (H : Heap) (locs : List Loc) (ls : Array Slot), va_P D vwCl [(h0, .inr (2, [.ref h1, .ref h2, .ref h3])), (h1, .inl (cI, 64, .inl (nF T))), (h2, .inl (cI, 64, .inl (nF U))), (h3, .inl (cZ, 64, .inl (nF B)))] H → va_D A [(h0, .inr (2, [.ref h1, .ref h2, .ref h3])), (h1, .inl (cI, 64, .inl (nF T))), (h2, .inl (cI, 64, .inl (nF U))), (h3, .inl (cZ, 64, .inl (nF B)))] → va_S A s.heap H locs → lv_has ls 5 [(0, .ref h0), (1, .int (nI n0)), (2, .int (nI y))] → W pr l e ({ frames := 3, cells := 0, slots := 0, locals := 75 } : Room) s m args below meth c0 H locs 0 0 Q (F0 m 4 ls []) := by
    intro n
    induction n with
    | zero => intro y n0 h0; exact absurd h0 (Nat.not_lt_zero _)
    | succ n ih4 =>
      intro y n0 hm4 hyy hn H locs ls hP hD hS hl
      refine lv_iload_n hx hb dX2_countKnots_4 rfl (lv_at hl 2 rfl) ?_
      refine lv_bipush (v := nI 7) hx hb dX2_countKnots_5 (by decide) ?_
      refine nv_icmp_ge (tgt := 52) hx hb dX2_countKnots_7 (by decide) (by omega) (by omega) (fun c_1 => ?_) (fun c_1 => ?_)
      · skip
        refine lv_iload_n hx hb dX2_countKnots_52 rfl (lv_at hl 1 rfl) ?_
        exact hret _ () _ _ _ _ dX2_countKnots_53 (by rw [hn, show y = 7 by omega]; exact congrArg nI (cb_skip (a := 56) (n := 8) (fun i h1 h2 => pKn_no (fun q => by have := q.2.1; omega))).symm) hP hD hS
      · skip
        refine lv_iconst (v := nI 0) hx hb dX2_countKnots_10 (by decide) ?_
        refine lv_istore_n (lv' := [(3, .int (nI 0)), (0, .ref h0), (1, .int (nI n0)), (2, .int (nI y))]) hx hb dX2_countKnots_11 rfl hl (by decide) rfl (fun ls hl => ?_)
        have L12 : ∀ (n : Nat) (x : Nat) (n1 : Nat), 7 - x < n → (x ≤ 7) → (n1 = cb (pKn U) (8 * y + x)) → ∀ (H : Heap) (locs : List Loc) (ls : Array Slot), va_P D vwCl [(h0, .inr (2, [.ref h1, .ref h2, .ref h3])), (h1, .inl (cI, 64, .inl (nF T))), (h2, .inl (cI, 64, .inl (nF U))), (h3, .inl (cZ, 64, .inl (nF B)))] H → va_D A [(h0, .inr (2, [.ref h1, .ref h2, .ref h3])), (h1, .inl (cI, 64, .inl (nF T))), (h2, .inl (cI, 64, .inl (nF U))), (h3, .inl (cZ, 64, .inl (nF B)))] → va_S A s.heap H locs → lv_has ls 5 [(0, .ref h0), (1, .int (nI n1)), (2, .int (nI y)), (3, .int (nI x))] → W pr l e ({ frames := 3, cells := 0, slots := 0, locals := 75 } : Room) s m args below meth c0 H locs 0 0 Q (F0 m 12 ls []) := by
          intro n
          induction n with
          | zero => intro x n1 h0; exact absurd h0 (Nat.not_lt_zero _)
          | succ n ih12 =>
            intro x n1 hm12 hxx hn1 H locs ls hP hD hS hl
            refine lv_iload_n hx hb dX2_countKnots_12 rfl (lv_at hl 3 rfl) ?_
            refine lv_bipush (v := nI 7) hx hb dX2_countKnots_13 (by decide) ?_
            refine nv_icmp_ge (tgt := 46) hx hb dX2_countKnots_15 (by decide) (by omega) (by omega) (fun c_2 => ?_) (fun c_2 => ?_)
            · skip
              refine lv_iinc (v := nI (y + 1)) (lv' := [(2, .int (nI (y + 1))), (0, .ref h0), (1, .int (nI n1)), (3, .int (nI x))]) hx hb dX2_countKnots_46 hl (k := 2) rfl (by exact nI_add _ 1) (by decide) rfl (fun ls hl => ?_)
              refine lv_goto (tgt := 4) hx hb dX2_countKnots_49 (by decide) ?_
              exact ih4 (y + 1) n1 (by omega) (by omega) (by rw [hn1, show x = 7 by omega, show 8 * (y + 1) = (8 * y + 7) + 1 by omega, cb_no (n := 8 * y + 7) (pKn_no (fun q => by have := q.1; omega))]) _ _ _ hP hD hS (lv_sub hl [1, 2, 0] rfl)
            · skip
              refine lv_aload_n hx hb dX2_countKnots_18 rfl (lv_at hl 0 rfl) ?_
              refine lv_iload_n hx hb dX2_countKnots_19 rfl (lv_at hl 3 rfl) ?_
              refine lv_iload_n hx hb dX2_countKnots_20 rfl (lv_at hl 2 rfl) ?_
              refine gcVi (ws' := fun _ => [(h0, .inr (2, [.ref h1, .ref h2, .ref h3])), (h1, .inl (cI, 64, .inl (nF T))), (h2, .inl (cI, 64, .inl (nF U))), (h3, .inl (cZ, 64, .inl (nF B)))]) (wr := []) (ci := 2) (q0 := 0) (As := [.int (nI x), .int (nI y)]) (rest := []) ⟨hx, hb, hml, hown, hts⟩ (c_X2_knotOf l D cI cZ tt H.size h0 h1 h2 h3 T U B x y (by first | assumption | omega) (by first | assumption | omega) (by first | assumption | omega)) (cwV 2 hts gX2_countKnots_X2_knotOf rfl rfl rfl (by decide +kernel) ⟨Nat.le_of_ble_eq_true rfl, Nat.le_of_ble_eq_true rfl⟩) hP hK hD hS hA hG rfl rfl [0, 1, 2, 3] [] [0, 1, 2, 3] (by decide) rfl rfl (by decide) (by decide) (by decide) (fun _ => rfl) hl.1 rfl rfl (Nat.le_of_ble_eq_true rfl) ⟨Nat.zero_le _, Nat.zero_le _⟩ dX2_countKnots_21 (fun r u H locs hp hP hD hS => ?_)
              obtain rfl := hp
              have hP : va_P D vwCl [(h0, .inr (2, [.ref h1, .ref h2, .ref h3])), (h1, .inl (cI, 64, .inl (nF T))), (h2, .inl (cI, 64, .inl (nF U))), (h3, .inl (cZ, 64, .inl (nF B)))] H := hP
              have hD : va_D A [(h0, .inr (2, [.ref h1, .ref h2, .ref h3])), (h1, .inl (cI, 64, .inl (nF T))), (h2, .inl (cI, 64, .inl (nF U))), (h3, .inl (cZ, 64, .inl (nF B)))] := hD
              refine lv_istore (lv' := [(4, .int (kn U (8 * y + x))), (0, .ref h0), (1, .int (nI n1)), (2, .int (nI y)), (3, .int (nI x))]) hx hb dX2_countKnots_24 hl (by decide) rfl (fun ls hl => ?_)
              refine lv_iload hx hb dX2_countKnots_26 (lv_at hl 0 rfl) ?_
              refine lv_if_eq (tgt := 40) hx hb dX2_countKnots_28 (by decide) (fun c_3 => ?_) (fun c_3 => ?_)
              · skip
                refine lv_iinc (v := nI (x + 1)) (lv' := [(3, .int (nI (x + 1))), (4, .int (kn U (8 * y + x))), (0, .ref h0), (1, .int (nI n1)), (2, .int (nI y))]) hx hb dX2_countKnots_40 hl (k := 4) rfl (by exact nI_add _ 1) (by decide) rfl (fun ls hl => ?_)
                refine lv_goto (tgt := 12) hx hb dX2_countKnots_43 (by decide) ?_
                exact ih12 (x + 1) n1 (by omega) (by omega) (by rw [hn1, show 8 * y + (x + 1) = (8 * y + x) + 1 by omega, cb_no (pKn_no (fun q => q.2.2.1 c_3))]) _ _ _ hP hD hS (lv_sub hl [2, 3, 4, 0] rfl)
              · skip
                refine lv_iload hx hb dX2_countKnots_31 (lv_at hl 0 rfl) ?_
                refine lv_iconst (v := nI 2) hx hb dX2_countKnots_33 (by decide) ?_
                refine lv_icmp_eq (tgt := 40) hx hb dX2_countKnots_34 (by decide) (fun c_4 => ?_) (fun c_4 => ?_)
                · skip
                  refine lv_iinc (v := nI (x + 1)) (lv' := [(3, .int (nI (x + 1))), (4, .int (kn U (8 * y + x))), (0, .ref h0), (1, .int (nI n1)), (2, .int (nI y))]) hx hb dX2_countKnots_40 hl (k := 4) rfl (by exact nI_add _ 1) (by decide) rfl (fun ls hl => ?_)
                  refine lv_goto (tgt := 12) hx hb dX2_countKnots_43 (by decide) ?_
                  exact ih12 (x + 1) n1 (by omega) (by omega) (by rw [hn1, show 8 * y + (x + 1) = (8 * y + x) + 1 by omega, cb_no (pKn_no (fun q => q.2.2.2 c_4))]) _ _ _ hP hD hS (lv_sub hl [2, 3, 4, 0] rfl)
                · skip
                  refine lv_iinc (v := nI (n1 + 1)) (lv' := [(1, .int (nI (n1 + 1))), (4, .int (kn U (8 * y + x))), (0, .ref h0), (2, .int (nI y)), (3, .int (nI x))]) hx hb dX2_countKnots_37 hl (k := 2) rfl (by exact nI_add _ 1) (by decide) rfl (fun ls hl => ?_)
                  refine lv_iinc (v := nI (x + 1)) (lv' := [(3, .int (nI (x + 1))), (1, .int (nI (n1 + 1))), (4, .int (kn U (8 * y + x))), (0, .ref h0), (2, .int (nI y))]) hx hb dX2_countKnots_40 hl (k := 4) rfl (by exact nI_add _ 1) (by decide) rfl (fun ls hl => ?_)
                  refine lv_goto (tgt := 12) hx hb dX2_countKnots_43 (by decide) ?_
                  exact ih12 (x + 1) (n1 + 1) (by omega) (by omega) (by rw [hn1, show 8 * y + (x + 1) = (8 * y + x) + 1 by omega, cb_yes (pKn_yes (by omega) (by omega) c_3 c_4)]) _ _ _ hP hD hS (lv_sub hl [3, 1, 4, 0] rfl)
        exact L12 (7 + 1) 0 n0 (by omega) (by omega) hn _ _ _ hP hD hS (lv_sub hl [1, 2, 3, 0] rfl)
  exact L4 (7 + 1) 0 0 (by omega) (by omega) rfl _ _ _ hP hD hS (lv_sub hl [2, 1, 0] rfl)

set_option maxHeartbeats 4000000 in
set_option maxRecDepth 100000 in
theorem c_X4_tone (l : Launch) (D : va_G) (cI cZ : ClassId) (tt : Nat → Nat) (sz : Nat) (w0 g0 a0 d0 k0 : Nat) (h0 h1 h2 h3 : Nat) (T U B : Nat → Nat) (x y v : Int32)  : MI l yX4_tone wsX4_tone ({ frames := 1, cells := 0, slots := 0, locals := 21 } : Room) D cI cZ tt [.ref w0, .int (x), .int (y), .int (v)] [(w0, .inr (4, [.ref h0, .ref g0, .ref a0, .ref d0, .ref k0])), (h0, .inr (2, [.ref h1, .ref h2, .ref h3])), (h1, .inl (cI, 64, .inl (nF T))), (h2, .inl (cI, 64, .inl (nF U))), (h3, .inl (cZ, 64, .inl (nF B)))] sz (fun (r : Int32) (u : (Nat → Nat)) => r = aTone T x y v ∧ (u = uTone T x y v)) (fun (u : (Nat → Nat)) => [(w0, .inr (4, [.ref h0, .ref g0, .ref a0, .ref d0, .ref k0])), (h0, .inr (2, [.ref h1, .ref h2, .ref h3])), (h1, .inl (cI, 64, .inl (nF u))), (h2, .inl (cI, 64, .inl (nF U))), (h3, .inl (cZ, 64, .inl (nF B)))]) := by
  refine entI (cc := cX4_tone) 6 (by decide) rfl (Nat.le_of_ble_eq_true rfl) (Or.inl rfl) (fun pr e s m args below meth c0 A Q H ls hx hb hml hown hts hsz hA hP hK hD hS hG hret hl => ?_)
  have hown : s.vm.findClass RX4 = some m.cls := hown
  have lk1 := hts (.fieldLink RX4 12 "BurinLines" "plate" "LBurinLines$Plate;") (by decide +kernel)
  have lk2 := hts (.fieldLink RX4 54 "BurinLines$Plate" "tones" "[I") (by decide +kernel)
  have hinX2 : ∀ w ∈ wsX20, w ∈ wsX4_tone := by decide +kernel
  have hinX4 : ∀ w ∈ wsX40, w ∈ wsX4_tone := by decide +kernel
  have hl : lv_has ls 6 [(0, .ref w0), (1, .int (x)), (2, .int (y)), (3, .int (v))] := hl
  refine lv_iload_n hx hb dX4_tone_0 rfl (lv_at hl 1 rfl) ?_
  refine lv_iload_n hx hb dX4_tone_1 rfl (lv_at hl 2 rfl) ?_
  refine gcS (As := [.int (x), .int (y)]) (rest := []) ⟨hx, hb, hml, hown, hts⟩ (c_X4_isCell l x y ) (va_cwS 2 hts gX4_tone_X4_isCell rfl rfl rfl (by decide +kernel) ⟨Nat.le_of_ble_eq_true rfl, Nat.le_of_ble_eq_true rfl⟩) hl.1 rfl rfl (Nat.le_of_ble_eq_true rfl) ⟨Nat.zero_le _, Nat.zero_le _⟩ dX4_tone_2 ?_
  refine nv_ifb_ne (tgt := 11) hx hb dX4_tone_5 (by decide) (fun c_1 => ?_) (fun c_1 => ?_)
  · skip
    obtain ⟨a, b, ha8, hb8, rfl, rfl⟩ := okc_nat c_1
    refine lv_iload_n hx hb dX4_tone_11 rfl (lv_at hl 3 rfl) ?_
    refine gcS (As := [.int (v)]) (rest := []) ⟨hx, hb, hml, hown, hts⟩ (c_X4_isTone l v ) (va_cwS 1 hts gX4_tone_X4_isTone rfl rfl rfl (by decide +kernel) ⟨Nat.le_of_ble_eq_true rfl, Nat.le_of_ble_eq_true rfl⟩) hl.1 rfl rfl (Nat.le_of_ble_eq_true rfl) ⟨Nat.zero_le _, Nat.zero_le _⟩ dX4_tone_12 ?_
    refine nv_ifb_ne (tgt := 21) hx hb dX4_tone_15 (by decide) (fun c_2 => ?_) (fun c_2 => ?_)
    · skip
      obtain ⟨w, hw100, rfl⟩ := okt_nat c_2
      refine lv_iload_n hx hb dX4_tone_21 rfl (lv_at hl 1 rfl) ?_
      refine lv_iload_n hx hb dX4_tone_22 rfl (lv_at hl 2 rfl) ?_
      refine gcS (As := [.int (nI a), .int (nI b)]) (rest := []) ⟨hx, hb, hml, hown, hts⟩ (c_X4_cellOf l a b ) (va_cwS 2 hts gX4_tone_X4_cellOf rfl rfl rfl (by decide +kernel) ⟨Nat.le_of_ble_eq_true rfl, Nat.le_of_ble_eq_true rfl⟩) hl.1 rfl rfl (Nat.le_of_ble_eq_true rfl) ⟨Nat.zero_le _, Nat.zero_le _⟩ dX4_tone_23 ?_
      refine lv_istore (lv' := [(4, .int (nI (8 * b + a))), (0, .ref w0), (1, .int (nI a)), (2, .int (nI b)), (3, .int (nI w))]) hx hb dX4_tone_26 hl (by decide) rfl (fun ls hl => ?_)
      refine lv_aload_n hx hb dX4_tone_28 rfl (lv_at hl 1 rfl) ?_
      refine va_get (D := D) (ci := 4) (v := .ref h0) (C := RX4) (T := TX4) (N := 5) hx hb hts hinX4 hown hK hP 0 rfl rfl 0 (by decide) lk1 (fun _ h9 => h9) rfl dX4_tone_29 ?_
      refine va_get (D := D) (ci := 2) (v := .ref h1) (C := RX2) (T := TX2) (N := 3) hx hb hts hinX2 hown hK hP 1 rfl rfl 0 (by decide) lk2 (fun _ h9 => h9) rfl dX4_tone_32 ?_
      refine lv_iload hx hb dX4_tone_35 (lv_at hl 0 rfl) ?_
      refine nv_iald hx hb hK hP 2 rfl (by omega) (by decide) dX4_tone_37 ?_
      refine lv_istore (lv' := [(5, .int (nI (T (8 * b + a)))), (4, .int (nI (8 * b + a))), (0, .ref w0), (1, .int (nI a)), (2, .int (nI b)), (3, .int (nI w))]) hx hb dX4_tone_38 hl (by decide) rfl (fun ls hl => ?_)
      refine lv_aload_n hx hb dX4_tone_40 rfl (lv_at hl 2 rfl) ?_
      refine va_get (D := D) (ci := 4) (v := .ref h0) (C := RX4) (T := TX4) (N := 5) hx hb hts hinX4 hown hK hP 0 rfl rfl 0 (by decide) lk1 (fun _ h9 => h9) rfl dX4_tone_41 ?_
      refine va_get (D := D) (ci := 2) (v := .ref h1) (C := RX2) (T := TX2) (N := 3) hx hb hts hinX2 hown hK hP 1 rfl rfl 0 (by decide) lk2 (fun _ h9 => h9) rfl dX4_tone_44 ?_
      refine lv_iload hx hb dX4_tone_47 (lv_at hl 1 rfl) ?_
      refine lv_iload_n hx hb dX4_tone_49 rfl (lv_at hl 5 rfl) ?_
      refine nv_iast hx hb hK hP hD hS 2 rfl (by omega) (by decide) dX4_tone_50 (fun H locs hP hD hS => ?_)
      have hP : va_P D vwCl [(w0, .inr (4, [.ref h0, .ref g0, .ref a0, .ref d0, .ref k0])), (h0, .inr (2, [.ref h1, .ref h2, .ref h3])), (h1, .inl (cI, 64, .inl (nF (va_up T (8 * b + a) w)))), (h2, .inl (cI, 64, .inl (nF U))), (h3, .inl (cZ, 64, .inl (nF B)))] H := hP
      have hD : va_D A [(w0, .inr (4, [.ref h0, .ref g0, .ref a0, .ref d0, .ref k0])), (h0, .inr (2, [.ref h1, .ref h2, .ref h3])), (h1, .inl (cI, 64, .inl (nF (va_up T (8 * b + a) w)))), (h2, .inl (cI, 64, .inl (nF U))), (h3, .inl (cZ, 64, .inl (nF B)))] := hD
      refine lv_iload hx hb dX4_tone_51 (lv_at hl 0 rfl) ?_
      exact hret _ _ _ _ _ _ dX4_tone_53 (⟨by unfold aTone; rw [if_pos (okc_of ha8 hb8), if_pos (okt_of hw100), ci_n ha8 hb8], by unfold uTone; rw [if_pos ⟨okc_of ha8 hb8, okt_of hw100⟩, ci_n ha8 hb8, cl_n (by omega)]⟩) hP hD hS
    · skip
      have nokt := c_2
      refine lv_bipush (v := (-3)) hx hb dX4_tone_18 (by decide) ?_
      exact hret _ T _ _ _ _ dX4_tone_20 (⟨by unfold aTone; rw [if_pos (okc_of ha8 hb8), if_neg nokt], by unfold uTone; rw [if_neg (fun q => nokt q.2)]⟩) hP hD hS
  · skip
    have nokc := c_1
    refine lv_bipush (v := (-2)) hx hb dX4_tone_8 (by decide) ?_
    exact hret _ T _ _ _ _ dX4_tone_10 (⟨by unfold aTone; rw [if_neg nokc], by unfold uTone; rw [if_neg (fun q => nokc q.1)]⟩) hP hD hS

set_option maxHeartbeats 4000000 in
set_option maxRecDepth 100000 in
theorem c_X4_shade (l : Launch) (D : va_G) (cI cZ : ClassId) (tt : Nat → Nat) (sz : Nat) (w0 g0 a0 d0 k0 : Nat) (h0 h1 h2 h3 : Nat) (T U B : Nat → Nat) (x0 y0 x1 y1 v : Int32) (hT : ∀ k, T k ≤ 100) : MI l yX4_shade wsX4_shade ({ frames := 1, cells := 0, slots := 0, locals := 21 } : Room) D cI cZ tt [.ref w0, .int (x0), .int (y0), .int (x1), .int (y1), .int (v)] [(w0, .inr (4, [.ref h0, .ref g0, .ref a0, .ref d0, .ref k0])), (h0, .inr (2, [.ref h1, .ref h2, .ref h3])), (h1, .inl (cI, 64, .inl (nF T))), (h2, .inl (cI, 64, .inl (nF U))), (h3, .inl (cZ, 64, .inl (nF B)))] sz (fun (r : Int32) (u : (Nat → Nat)) => r = aShade T x0 y0 x1 y1 v ∧ (u = uShade T x0 y0 x1 y1 v)) (fun (u : (Nat → Nat)) => [(w0, .inr (4, [.ref h0, .ref g0, .ref a0, .ref d0, .ref k0])), (h0, .inr (2, [.ref h1, .ref h2, .ref h3])), (h1, .inl (cI, 64, .inl (nF u))), (h2, .inl (cI, 64, .inl (nF U))), (h3, .inl (cZ, 64, .inl (nF B)))]) := by
  refine entI (cc := cX4_shade) 10 (by decide) rfl (Nat.le_of_ble_eq_true rfl) (Or.inl rfl) (fun pr e s m args below meth c0 A Q H ls hx hb hml hown hts hsz hA hP hK hD hS hG hret hl => ?_)
  have hown : s.vm.findClass RX4 = some m.cls := hown
  have lk1 := hts (.fieldLink RX4 12 "BurinLines" "plate" "LBurinLines$Plate;") (by decide +kernel)
  have lk2 := hts (.fieldLink RX4 54 "BurinLines$Plate" "tones" "[I") (by decide +kernel)
  have hinX2 : ∀ w ∈ wsX20, w ∈ wsX4_shade := by decide +kernel
  have hinX4 : ∀ w ∈ wsX40, w ∈ wsX4_shade := by decide +kernel
  have hl : lv_has ls 10 [(0, .ref w0), (1, .int (x0)), (2, .int (y0)), (3, .int (x1)), (4, .int (y1)), (5, .int (v))] := hl
  refine lv_iload_n hx hb dX4_shade_0 rfl (lv_at hl 1 rfl) ?_
  refine lv_iload_n hx hb dX4_shade_1 rfl (lv_at hl 2 rfl) ?_
  refine gcS (As := [.int (x0), .int (y0)]) (rest := []) ⟨hx, hb, hml, hown, hts⟩ (c_X4_isCell l x0 y0 ) (va_cwS 2 hts gX4_shade_X4_isCell rfl rfl rfl (by decide +kernel) ⟨Nat.le_of_ble_eq_true rfl, Nat.le_of_ble_eq_true rfl⟩) hl.1 rfl rfl (Nat.le_of_ble_eq_true rfl) ⟨Nat.zero_le _, Nat.zero_le _⟩ dX4_shade_2 ?_
  refine nv_ifb_eq (tgt := 17) hx hb dX4_shade_5 (by decide) (fun c_1 => ?_) (fun c_1 => ?_)
  · skip
    have nokc : ¬ (okc x0 y0 ∧ okc x1 y1) := fun q => c_1 q.1
    refine lv_bipush (v := (-2)) hx hb dX4_shade_17 (by decide) ?_
    exact hret _ T _ _ _ _ dX4_shade_19 (⟨by unfold aShade; rw [if_neg nokc], by unfold uShade; rw [if_neg (fun q => nokc ⟨q.1, q.2.1⟩)]⟩) hP hD hS
  · skip
    refine lv_iload_n hx hb dX4_shade_8 rfl (lv_at hl 3 rfl) ?_
    refine lv_iload hx hb dX4_shade_9 (lv_at hl 4 rfl) ?_
    refine gcS (As := [.int (x1), .int (y1)]) (rest := []) ⟨hx, hb, hml, hown, hts⟩ (c_X4_isCell l x1 y1 ) (va_cwS 2 hts gX4_shade_X4_isCell rfl rfl rfl (by decide +kernel) ⟨Nat.le_of_ble_eq_true rfl, Nat.le_of_ble_eq_true rfl⟩) hl.1 rfl rfl (Nat.le_of_ble_eq_true rfl) ⟨Nat.zero_le _, Nat.zero_le _⟩ dX4_shade_11 ?_
    refine nv_ifb_ne (tgt := 20) hx hb dX4_shade_14 (by decide) (fun c_2 => ?_) (fun c_2 => ?_)
    · skip
      obtain ⟨a, b, ha8, hb8, rfl, rfl⟩ := okc_nat c_1
      obtain ⟨p, q, hp8, hq8, rfl, rfl⟩ := okc_nat c_2
      refine lv_iload hx hb dX4_shade_20 (lv_at hl 5 rfl) ?_
      refine gcS (As := [.int (v)]) (rest := []) ⟨hx, hb, hml, hown, hts⟩ (c_X4_isTone l v ) (va_cwS 1 hts gX4_shade_X4_isTone rfl rfl rfl (by decide +kernel) ⟨Nat.le_of_ble_eq_true rfl, Nat.le_of_ble_eq_true rfl⟩) hl.1 rfl rfl (Nat.le_of_ble_eq_true rfl) ⟨Nat.zero_le _, Nat.zero_le _⟩ dX4_shade_22 ?_
      refine nv_ifb_eq (tgt := 39) hx hb dX4_shade_25 (by decide) (fun c_3 => ?_) (fun c_3 => ?_)
      · skip
        have noksh : ¬ oksh (nI a) (nI b) (nI p) (nI q) v := fun z => c_3 z.1
        refine lv_bipush (v := (-3)) hx hb dX4_shade_39 (by decide) ?_
        exact hret _ T _ _ _ _ dX4_shade_41 (⟨by unfold aShade; rw [if_pos ⟨okc_of ha8 hb8, okc_of hp8 hq8⟩, if_neg noksh], by unfold uShade; rw [if_neg (fun q => noksh q.2.2)]⟩) hP hD hS
      · skip
        obtain ⟨w, hw100, rfl⟩ := okt_nat c_3
        refine lv_iload_n hx hb dX4_shade_28 rfl (lv_at hl 1 rfl) ?_
        refine lv_iload_n hx hb dX4_shade_29 rfl (lv_at hl 3 rfl) ?_
        refine nv_icmp_gt (tgt := 39) hx hb dX4_shade_30 (by decide) (by omega) (by omega) (fun c_4 => ?_) (fun c_4 => ?_)
        · skip
          have noksh : ¬ oksh (nI a) (nI b) (nI p) (nI q) (nI w) := fun z => z.2.1 (nI_lt c_4 (by omega))
          refine lv_bipush (v := (-3)) hx hb dX4_shade_39 (by decide) ?_
          exact hret _ T _ _ _ _ dX4_shade_41 (⟨by unfold aShade; rw [if_pos ⟨okc_of ha8 hb8, okc_of hp8 hq8⟩, if_neg noksh], by unfold uShade; rw [if_neg (fun q => noksh q.2.2)]⟩) hP hD hS
        · skip
          refine lv_iload_n hx hb dX4_shade_33 rfl (lv_at hl 2 rfl) ?_
          refine lv_iload hx hb dX4_shade_34 (lv_at hl 4 rfl) ?_
          refine nv_icmp_le (tgt := 42) hx hb dX4_shade_36 (by decide) (by omega) (by omega) (fun c_5 => ?_) (fun c_5 => ?_)
          · skip
            have hoksh : oksh (nI a) (nI b) (nI p) (nI q) (nI w) := ⟨okt_of hw100, nI_nlt (by omega) (by omega), nI_nlt (by omega) (by omega)⟩
            refine lv_iconst (v := nI 0) hx hb dX4_shade_42 (by decide) ?_
            refine lv_istore (lv' := [(6, .int (nI 0)), (0, .ref w0), (1, .int (nI a)), (2, .int (nI b)), (3, .int (nI p)), (4, .int (nI q)), (5, .int (nI w))]) hx hb dX4_shade_43 hl (by decide) rfl (fun ls hl => ?_)
            refine lv_iload_n hx hb dX4_shade_45 rfl (lv_at hl 3 rfl) ?_
            refine lv_istore (lv' := [(7, .int (nI b)), (6, .int (nI 0)), (0, .ref w0), (1, .int (nI a)), (2, .int (nI b)), (3, .int (nI p)), (4, .int (nI q)), (5, .int (nI w))]) hx hb dX4_shade_46 hl (by decide) rfl (fun ls hl => ?_)
            have L48 : ∀ (n : Nat) (i : Nat) (T2 : Nat → Nat) (n2 : Nat), q + 1 - b - i < n → (i ≤ q + 1 - b) → (T2 = (shY T b w a (p + 1 - a) i).1) → (n2 = (shY T b w a (p + 1 - a) i).2) → (∀ k, T2 k ≤ 100) → ∀ (H : Heap) (locs : List Loc) (ls : Array Slot), va_P D vwCl [(w0, .inr (4, [.ref h0, .ref g0, .ref a0, .ref d0, .ref k0])), (h0, .inr (2, [.ref h1, .ref h2, .ref h3])), (h1, .inl (cI, 64, .inl (nF T2))), (h2, .inl (cI, 64, .inl (nF U))), (h3, .inl (cZ, 64, .inl (nF B)))] H → va_D A [(w0, .inr (4, [.ref h0, .ref g0, .ref a0, .ref d0, .ref k0])), (h0, .inr (2, [.ref h1, .ref h2, .ref h3])), (h1, .inl (cI, 64, .inl (nF T2))), (h2, .inl (cI, 64, .inl (nF U))), (h3, .inl (cZ, 64, .inl (nF B)))] → va_S A s.heap H locs → lv_has ls 10 [(0, .ref w0), (1, .int (nI a)), (2, .int (nI b)), (3, .int (nI p)), (4, .int (nI q)), (5, .int (nI w)), (6, .int (nI n2)), (7, .int (nI (b + i)))] → W pr l e ({ frames := 1, cells := 0, slots := 0, locals := 21 } : Room) s m args below meth c0 H locs 0 0 Q (F0 m 48 ls []) := by
              intro n
              induction n with
              | zero => intro i T2 n2 h0; exact absurd h0 (Nat.not_lt_zero _)
              | succ n ih48 =>
                intro i T2 n2 hm48 hi hT2 hn2 hT2b H locs ls hP hD hS hl
                refine lv_iload hx hb dX4_shade_48 (lv_at hl 7 rfl) ?_
                refine lv_iload hx hb dX4_shade_50 (lv_at hl 4 rfl) ?_
                refine nv_icmp_gt (tgt := 115) hx hb dX4_shade_52 (by decide) (by omega) (by omega) (fun c_6 => ?_) (fun c_6 => ?_)
                · skip
                  refine lv_iload hx hb dX4_shade_115 (lv_at hl 6 rfl) ?_
                  exact hret _ _ _ _ _ _ dX4_shade_117 (⟨by unfold aShade; rw [if_pos ⟨okc_of ha8 hb8, okc_of hp8 hq8⟩, if_pos hoksh, cl_n (by omega), cl_n (by omega), cl_n (by omega), cl_n (by omega), cl_n (by omega), hn2, show i = q + 1 - b by omega], by unfold uShade; rw [if_pos ⟨okc_of ha8 hb8, okc_of hp8 hq8, hoksh⟩, cl_n (by omega), cl_n (by omega), cl_n (by omega), cl_n (by omega), cl_n (by omega), hT2, show i = q + 1 - b by omega]⟩) hP hD hS
                · skip
                  refine lv_iload_n hx hb dX4_shade_55 rfl (lv_at hl 1 rfl) ?_
                  refine lv_istore (lv' := [(8, .int (nI a)), (0, .ref w0), (1, .int (nI a)), (2, .int (nI b)), (3, .int (nI p)), (4, .int (nI q)), (5, .int (nI w)), (6, .int (nI n2)), (7, .int (nI (b + i)))]) hx hb dX4_shade_56 hl (by decide) rfl (fun ls hl => ?_)
                  have L58 : ∀ (n : Nat) (j : Nat) (T3 : Nat → Nat) (n3 : Nat), p + 1 - a - j < n → (j ≤ p + 1 - a) → (T3 = (shX T2 (b + i) w a j).1) → (n3 = n2 + (shX T2 (b + i) w a j).2) → (∀ k, T3 k ≤ 100) → ∀ (H : Heap) (locs : List Loc) (ls : Array Slot), va_P D vwCl [(w0, .inr (4, [.ref h0, .ref g0, .ref a0, .ref d0, .ref k0])), (h0, .inr (2, [.ref h1, .ref h2, .ref h3])), (h1, .inl (cI, 64, .inl (nF T3))), (h2, .inl (cI, 64, .inl (nF U))), (h3, .inl (cZ, 64, .inl (nF B)))] H → va_D A [(w0, .inr (4, [.ref h0, .ref g0, .ref a0, .ref d0, .ref k0])), (h0, .inr (2, [.ref h1, .ref h2, .ref h3])), (h1, .inl (cI, 64, .inl (nF T3))), (h2, .inl (cI, 64, .inl (nF U))), (h3, .inl (cZ, 64, .inl (nF B)))] → va_S A s.heap H locs → lv_has ls 10 [(0, .ref w0), (1, .int (nI a)), (2, .int (nI b)), (3, .int (nI p)), (4, .int (nI q)), (5, .int (nI w)), (6, .int (nI n3)), (7, .int (nI (b + i))), (8, .int (nI (a + j)))] → W pr l e ({ frames := 1, cells := 0, slots := 0, locals := 21 } : Room) s m args below meth c0 H locs 0 0 Q (F0 m 58 ls []) := by
                    intro n
                    induction n with
                    | zero => intro j T3 n3 h0; exact absurd h0 (Nat.not_lt_zero _)
                    | succ n ih58 =>
                      intro j T3 n3 hm58 hj hT3 hn3 hT3b H locs ls hP hD hS hl
                      refine lv_iload hx hb dX4_shade_58 (lv_at hl 8 rfl) ?_
                      refine lv_iload_n hx hb dX4_shade_60 rfl (lv_at hl 3 rfl) ?_
                      refine nv_icmp_gt (tgt := 109) hx hb dX4_shade_61 (by decide) (by omega) (by omega) (fun c_7 => ?_) (fun c_7 => ?_)
                      · skip
                        refine lv_iinc (v := nI ((b + i) + 1)) (lv' := [(7, .int (nI ((b + i) + 1))), (0, .ref w0), (1, .int (nI a)), (2, .int (nI b)), (3, .int (nI p)), (4, .int (nI q)), (5, .int (nI w)), (6, .int (nI n3)), (8, .int (nI (a + j)))]) hx hb dX4_shade_109 hl (k := 7) rfl (by exact nI_add _ 1) (by decide) rfl (fun ls hl => ?_)
                        refine lv_goto (tgt := 48) hx hb dX4_shade_112 (by decide) ?_
                        exact ih48 (i + 1) T3 n3 (by omega) (by omega) (by rw [hT3, show j = p + 1 - a by omega, hT2]; rfl) (by rw [hn3, show j = p + 1 - a by omega, hn2, hT2]; rfl) hT3b _ _ _ hP hD hS (lv_sub hl [1, 2, 3, 4, 5, 6, 7, 0] rfl)
                      · skip
                        refine lv_iload hx hb dX4_shade_64 (lv_at hl 8 rfl) ?_
                        refine lv_iload hx hb dX4_shade_66 (lv_at hl 7 rfl) ?_
                        refine gcS (As := [.int (nI (a + j)), .int (nI (b + i))]) (rest := []) ⟨hx, hb, hml, hown, hts⟩ (c_X4_cellOf l (a + j) (b + i) ) (va_cwS 2 hts gX4_shade_X4_cellOf rfl rfl rfl (by decide +kernel) ⟨Nat.le_of_ble_eq_true rfl, Nat.le_of_ble_eq_true rfl⟩) hl.1 rfl rfl (Nat.le_of_ble_eq_true rfl) ⟨Nat.zero_le _, Nat.zero_le _⟩ dX4_shade_68 ?_
                        refine lv_istore (lv' := [(9, .int (nI (8 * (b + i) + (a + j)))), (0, .ref w0), (1, .int (nI a)), (2, .int (nI b)), (3, .int (nI p)), (4, .int (nI q)), (5, .int (nI w)), (6, .int (nI n3)), (7, .int (nI (b + i))), (8, .int (nI (a + j)))]) hx hb dX4_shade_71 hl (by decide) rfl (fun ls hl => ?_)
                        refine lv_aload_n hx hb dX4_shade_73 rfl (lv_at hl 1 rfl) ?_
                        refine va_get (D := D) (ci := 4) (v := .ref h0) (C := RX4) (T := TX4) (N := 5) hx hb hts hinX4 hown hK hP 0 rfl rfl 0 (by decide) lk1 (fun _ h9 => h9) rfl dX4_shade_74 ?_
                        refine va_get (D := D) (ci := 2) (v := .ref h1) (C := RX2) (T := TX2) (N := 3) hx hb hts hinX2 hown hK hP 1 rfl rfl 0 (by decide) lk2 (fun _ h9 => h9) rfl dX4_shade_77 ?_
                        refine lv_iload hx hb dX4_shade_80 (lv_at hl 0 rfl) ?_
                        refine nv_iald hx hb hK hP 2 rfl (by omega) (by decide) dX4_shade_82 ?_
                        have bd_8 := hT3b (8 * (b + i) + (a + j))
                        refine lv_iload hx hb dX4_shade_83 (lv_at hl 6 rfl) ?_
                        refine nv_icmp_eq (tgt := 103) hx hb dX4_shade_85 (by decide) (by omega) (by omega) (fun c_9 => ?_) (fun c_9 => ?_)
                        · skip
                          refine lv_iinc (v := nI ((a + j) + 1)) (lv' := [(8, .int (nI ((a + j) + 1))), (9, .int (nI (8 * (b + i) + (a + j)))), (0, .ref w0), (1, .int (nI a)), (2, .int (nI b)), (3, .int (nI p)), (4, .int (nI q)), (5, .int (nI w)), (6, .int (nI n3)), (7, .int (nI (b + i)))]) hx hb dX4_shade_103 hl (k := 9) rfl (by exact nI_add _ 1) (by decide) rfl (fun ls hl => ?_)
                          refine lv_goto (tgt := 58) hx hb dX4_shade_106 (by decide) ?_
                          exact ih58 (j + 1) T3 n3 (by omega) (by omega) (by rw [shX, hT3, up_same (by rw [← hT3]; assumption)]) (by rw [shX, hn3, if_pos (by rw [← hT3]; assumption)]; rfl) hT3b _ _ _ hP hD hS (lv_sub hl [2, 3, 4, 5, 6, 7, 8, 9, 0] rfl)
                        · skip
                          refine lv_aload_n hx hb dX4_shade_88 rfl (lv_at hl 1 rfl) ?_
                          refine va_get (D := D) (ci := 4) (v := .ref h0) (C := RX4) (T := TX4) (N := 5) hx hb hts hinX4 hown hK hP 0 rfl rfl 0 (by decide) lk1 (fun _ h9 => h9) rfl dX4_shade_89 ?_
                          refine va_get (D := D) (ci := 2) (v := .ref h1) (C := RX2) (T := TX2) (N := 3) hx hb hts hinX2 hown hK hP 1 rfl rfl 0 (by decide) lk2 (fun _ h9 => h9) rfl dX4_shade_92 ?_
                          refine lv_iload hx hb dX4_shade_95 (lv_at hl 0 rfl) ?_
                          refine lv_iload hx hb dX4_shade_97 (lv_at hl 6 rfl) ?_
                          refine nv_iast hx hb hK hP hD hS 2 rfl (by omega) (by decide) dX4_shade_99 (fun H locs hP hD hS => ?_)
                          have hP : va_P D vwCl [(w0, .inr (4, [.ref h0, .ref g0, .ref a0, .ref d0, .ref k0])), (h0, .inr (2, [.ref h1, .ref h2, .ref h3])), (h1, .inl (cI, 64, .inl (nF (va_up T3 (8 * (b + i) + (a + j)) w)))), (h2, .inl (cI, 64, .inl (nF U))), (h3, .inl (cZ, 64, .inl (nF B)))] H := hP
                          have hD : va_D A [(w0, .inr (4, [.ref h0, .ref g0, .ref a0, .ref d0, .ref k0])), (h0, .inr (2, [.ref h1, .ref h2, .ref h3])), (h1, .inl (cI, 64, .inl (nF (va_up T3 (8 * (b + i) + (a + j)) w)))), (h2, .inl (cI, 64, .inl (nF U))), (h3, .inl (cZ, 64, .inl (nF B)))] := hD
                          refine lv_iinc (v := nI (n3 + 1)) (lv' := [(6, .int (nI (n3 + 1))), (9, .int (nI (8 * (b + i) + (a + j)))), (0, .ref w0), (1, .int (nI a)), (2, .int (nI b)), (3, .int (nI p)), (4, .int (nI q)), (5, .int (nI w)), (7, .int (nI (b + i))), (8, .int (nI (a + j)))]) hx hb dX4_shade_100 hl (k := 7) rfl (by exact nI_add _ 1) (by decide) rfl (fun ls hl => ?_)
                          refine lv_iinc (v := nI ((a + j) + 1)) (lv' := [(8, .int (nI ((a + j) + 1))), (6, .int (nI (n3 + 1))), (9, .int (nI (8 * (b + i) + (a + j)))), (0, .ref w0), (1, .int (nI a)), (2, .int (nI b)), (3, .int (nI p)), (4, .int (nI q)), (5, .int (nI w)), (7, .int (nI (b + i)))]) hx hb dX4_shade_103 hl (k := 9) rfl (by exact nI_add _ 1) (by decide) rfl (fun ls hl => ?_)
                          refine lv_goto (tgt := 58) hx hb dX4_shade_106 (by decide) ?_
                          exact ih58 (j + 1) (va_up T3 (8 * (b + i) + (a + j)) w) (n3 + 1) (by omega) (by omega) (by rw [shX, hT3]) (by rw [shX, hn3, if_neg (by rw [← hT3]; assumption)]; rfl) (by intro k; unfold va_up; split; exact hw100; exact hT3b k) _ _ _ hP hD hS (lv_sub hl [3, 4, 5, 6, 7, 8, 1, 9, 0] rfl)
                  exact L58 (p + 1 - a + 1) 0 T2 n2 (by omega) (by omega) rfl rfl hT2b _ _ _ hP hD hS (lv_sub hl [1, 2, 3, 4, 5, 6, 7, 8, 0] rfl)
            exact L48 (q + 1 - b + 1) 0 T 0 (by omega) (by omega) rfl rfl hT _ _ _ hP hD hS (lv_sub hl [2, 3, 4, 5, 6, 7, 1, 0] rfl)
          · skip
            have noksh : ¬ oksh (nI a) (nI b) (nI p) (nI q) (nI w) := fun z => z.2.2 (nI_lt (by omega) (by omega))
            refine lv_bipush (v := (-3)) hx hb dX4_shade_39 (by decide) ?_
            exact hret _ T _ _ _ _ dX4_shade_41 (⟨by unfold aShade; rw [if_pos ⟨okc_of ha8 hb8, okc_of hp8 hq8⟩, if_neg noksh], by unfold uShade; rw [if_neg (fun q => noksh q.2.2)]⟩) hP hD hS
    · skip
      have nokc : ¬ (okc x0 y0 ∧ okc x1 y1) := fun q => c_2 q.2
      refine lv_bipush (v := (-2)) hx hb dX4_shade_17 (by decide) ?_
      exact hret _ T _ _ _ _ dX4_shade_19 (⟨by unfold aShade; rw [if_neg nokc], by unfold uShade; rw [if_neg (fun q => nokc ⟨q.1, q.2.1⟩)]⟩) hP hD hS
end
section
set_option maxHeartbeats 4000000 in
set_option maxRecDepth 100000 in
theorem c_X4_tell (l : Launch) (D : va_G) (cI cZ : ClassId) (tt : Nat → Nat) (sz : Nat) (w0 g0 a0 d0 k0 : Nat) (h0 h1 h2 h3 : Nat) (T U B : Nat → Nat) (x y t : Int32)  : MI l yX4_tell wsX4_tell ({ frames := 1, cells := 0, slots := 0, locals := 21 } : Room) D cI cZ tt [.ref w0, .int (x), .int (y), .int (t)] [(w0, .inr (4, [.ref h0, .ref g0, .ref a0, .ref d0, .ref k0])), (h0, .inr (2, [.ref h1, .ref h2, .ref h3])), (h1, .inl (cI, 64, .inl (nF T))), (h2, .inl (cI, 64, .inl (nF U))), (h3, .inl (cZ, 64, .inl (nF B)))] sz (fun (r : Int32) (u : (Nat → Nat) × (Nat → Nat)) => r = aTell U x y t ∧ (u.1 = uTell U x y t) ∧ (u.2 = bTell B x y t)) (fun (u : (Nat → Nat) × (Nat → Nat)) => [(w0, .inr (4, [.ref h0, .ref g0, .ref a0, .ref d0, .ref k0])), (h0, .inr (2, [.ref h1, .ref h2, .ref h3])), (h1, .inl (cI, 64, .inl (nF T))), (h2, .inl (cI, 64, .inl (nF u.1))), (h3, .inl (cZ, 64, .inl (nF u.2)))]) := by
  refine entI (cc := cX4_tell) 6 (by decide) rfl (Nat.le_of_ble_eq_true rfl) (Or.inl rfl) (fun pr e s m args below meth c0 A Q H ls hx hb hml hown hts hsz hA hP hK hD hS hG hret hl => ?_)
  have hown : s.vm.findClass RX4 = some m.cls := hown
  have lk1 := hts (.fieldLink RX4 12 "BurinLines" "plate" "LBurinLines$Plate;") (by decide +kernel)
  have lk2 := hts (.fieldLink RX4 58 "BurinLines$Plate" "turns" "[I") (by decide +kernel)
  have lk3 := hts (.fieldLink RX4 61 "BurinLines$Plate" "told" "[Z") (by decide +kernel)
  have hinX2 : ∀ w ∈ wsX20, w ∈ wsX4_tell := by decide +kernel
  have hinX4 : ∀ w ∈ wsX40, w ∈ wsX4_tell := by decide +kernel
  have hl : lv_has ls 6 [(0, .ref w0), (1, .int (x)), (2, .int (y)), (3, .int (t))] := hl
  refine lv_iload_n hx hb dX4_tell_0 rfl (lv_at hl 1 rfl) ?_
  refine lv_iload_n hx hb dX4_tell_1 rfl (lv_at hl 2 rfl) ?_
  refine gcS (As := [.int (x), .int (y)]) (rest := []) ⟨hx, hb, hml, hown, hts⟩ (c_X4_isCell l x y ) (va_cwS 2 hts gX4_tell_X4_isCell rfl rfl rfl (by decide +kernel) ⟨Nat.le_of_ble_eq_true rfl, Nat.le_of_ble_eq_true rfl⟩) hl.1 rfl rfl (Nat.le_of_ble_eq_true rfl) ⟨Nat.zero_le _, Nat.zero_le _⟩ dX4_tell_2 ?_
  refine nv_ifb_ne (tgt := 11) hx hb dX4_tell_5 (by decide) (fun c_1 => ?_) (fun c_1 => ?_)
  · skip
    obtain ⟨a, b, ha8, hb8, rfl, rfl⟩ := okc_nat c_1
    refine lv_iload_n hx hb dX4_tell_11 rfl (lv_at hl 3 rfl) ?_
    refine lv_if_lt (tgt := 21) hx hb dX4_tell_12 (by decide) (fun c_2 => ?_) (fun c_2 => ?_)
    · skip
      have nokT : ¬ okT t := fun q => q.1 c_2
      refine lv_bipush (v := (-3)) hx hb dX4_tell_21 (by decide) ?_
      exact hret _ (U, B) _ _ _ _ dX4_tell_23 (⟨by unfold aTell; rw [if_pos (okc_of ha8 hb8), if_neg nokT], by unfold uTell; rw [if_neg (fun q => nokT q.2)], by unfold bTell; rw [if_neg (fun q => nokT q.2)]⟩) hP hD hS
    · skip
      refine lv_iload_n hx hb dX4_tell_15 rfl (lv_at hl 3 rfl) ?_
      refine lv_bipush (v := nI 8) hx hb dX4_tell_16 (by decide) ?_
      refine lv_icmp_lt (tgt := 24) hx hb dX4_tell_18 (by decide) (fun c_3 => ?_) (fun c_3 => ?_)
      · skip
        obtain ⟨u, hu8, rfl⟩ := okT_nat ⟨c_2, c_3⟩
        refine lv_iload_n hx hb dX4_tell_24 rfl (lv_at hl 1 rfl) ?_
        refine lv_iload_n hx hb dX4_tell_25 rfl (lv_at hl 2 rfl) ?_
        refine gcS (As := [.int (nI a), .int (nI b)]) (rest := []) ⟨hx, hb, hml, hown, hts⟩ (c_X4_cellOf l a b ) (va_cwS 2 hts gX4_tell_X4_cellOf rfl rfl rfl (by decide +kernel) ⟨Nat.le_of_ble_eq_true rfl, Nat.le_of_ble_eq_true rfl⟩) hl.1 rfl rfl (Nat.le_of_ble_eq_true rfl) ⟨Nat.zero_le _, Nat.zero_le _⟩ dX4_tell_26 ?_
        refine lv_istore (lv' := [(4, .int (nI (8 * b + a))), (0, .ref w0), (1, .int (nI a)), (2, .int (nI b)), (3, .int (nI u))]) hx hb dX4_tell_29 hl (by decide) rfl (fun ls hl => ?_)
        refine lv_aload_n hx hb dX4_tell_31 rfl (lv_at hl 1 rfl) ?_
        refine va_get (D := D) (ci := 4) (v := .ref h0) (C := RX4) (T := TX4) (N := 5) hx hb hts hinX4 hown hK hP 0 rfl rfl 0 (by decide) lk1 (fun _ h9 => h9) rfl dX4_tell_32 ?_
        refine va_get (D := D) (ci := 2) (v := .ref h2) (C := RX2) (T := TX2) (N := 3) hx hb hts hinX2 hown hK hP 1 rfl rfl 1 (by decide) lk2 (fun _ h9 => h9) rfl dX4_tell_35 ?_
        refine lv_iload hx hb dX4_tell_38 (lv_at hl 0 rfl) ?_
        refine nv_iald hx hb hK hP 3 rfl (by omega) (by decide) dX4_tell_40 ?_
        refine lv_istore (lv' := [(5, .int (nI (U (8 * b + a)))), (4, .int (nI (8 * b + a))), (0, .ref w0), (1, .int (nI a)), (2, .int (nI b)), (3, .int (nI u))]) hx hb dX4_tell_41 hl (by decide) rfl (fun ls hl => ?_)
        refine lv_aload_n hx hb dX4_tell_43 rfl (lv_at hl 2 rfl) ?_
        refine va_get (D := D) (ci := 4) (v := .ref h0) (C := RX4) (T := TX4) (N := 5) hx hb hts hinX4 hown hK hP 0 rfl rfl 0 (by decide) lk1 (fun _ h9 => h9) rfl dX4_tell_44 ?_
        refine va_get (D := D) (ci := 2) (v := .ref h2) (C := RX2) (T := TX2) (N := 3) hx hb hts hinX2 hown hK hP 1 rfl rfl 1 (by decide) lk2 (fun _ h9 => h9) rfl dX4_tell_47 ?_
        refine lv_iload hx hb dX4_tell_50 (lv_at hl 1 rfl) ?_
        refine lv_iload_n hx hb dX4_tell_52 rfl (lv_at hl 5 rfl) ?_
        refine nv_iast hx hb hK hP hD hS 3 rfl (by omega) (by decide) dX4_tell_53 (fun H locs hP hD hS => ?_)
        have hP : va_P D vwCl [(w0, .inr (4, [.ref h0, .ref g0, .ref a0, .ref d0, .ref k0])), (h0, .inr (2, [.ref h1, .ref h2, .ref h3])), (h1, .inl (cI, 64, .inl (nF T))), (h2, .inl (cI, 64, .inl (nF (va_up U (8 * b + a) u)))), (h3, .inl (cZ, 64, .inl (nF B)))] H := hP
        have hD : va_D A [(w0, .inr (4, [.ref h0, .ref g0, .ref a0, .ref d0, .ref k0])), (h0, .inr (2, [.ref h1, .ref h2, .ref h3])), (h1, .inl (cI, 64, .inl (nF T))), (h2, .inl (cI, 64, .inl (nF (va_up U (8 * b + a) u)))), (h3, .inl (cZ, 64, .inl (nF B)))] := hD
        refine lv_aload_n hx hb dX4_tell_54 rfl (lv_at hl 2 rfl) ?_
        refine va_get (D := D) (ci := 4) (v := .ref h0) (C := RX4) (T := TX4) (N := 5) hx hb hts hinX4 hown hK hP 0 rfl rfl 0 (by decide) lk1 (fun _ h9 => h9) rfl dX4_tell_55 ?_
        refine va_get (D := D) (ci := 2) (v := .ref h3) (C := RX2) (T := TX2) (N := 3) hx hb hts hinX2 hown hK hP 1 rfl rfl 2 (by decide) lk3 (fun _ h9 => h9) rfl dX4_tell_58 ?_
        refine lv_iload hx hb dX4_tell_61 (lv_at hl 1 rfl) ?_
        refine lv_iconst (v := nI 1) hx hb dX4_tell_63 (by decide) ?_
        refine nv_zast hx hb hK hP hD hS 4 rfl (by omega) (by decide) (by omega) dX4_tell_64 (fun H locs hP hD hS => ?_)
        have hP : va_P D vwCl [(w0, .inr (4, [.ref h0, .ref g0, .ref a0, .ref d0, .ref k0])), (h0, .inr (2, [.ref h1, .ref h2, .ref h3])), (h1, .inl (cI, 64, .inl (nF T))), (h2, .inl (cI, 64, .inl (nF (va_up U (8 * b + a) u)))), (h3, .inl (cZ, 64, .inl (nF (va_up B (8 * b + a) 1))))] H := hP
        have hD : va_D A [(w0, .inr (4, [.ref h0, .ref g0, .ref a0, .ref d0, .ref k0])), (h0, .inr (2, [.ref h1, .ref h2, .ref h3])), (h1, .inl (cI, 64, .inl (nF T))), (h2, .inl (cI, 64, .inl (nF (va_up U (8 * b + a) u)))), (h3, .inl (cZ, 64, .inl (nF (va_up B (8 * b + a) 1))))] := hD
        refine lv_iload hx hb dX4_tell_65 (lv_at hl 0 rfl) ?_
        exact hret _ (va_up U (8 * b + a) u, va_up B (8 * b + a) 1) _ _ _ _ dX4_tell_67 (⟨by unfold aTell; rw [if_pos (okc_of ha8 hb8), if_pos (okT_of hu8), ci_n ha8 hb8], by unfold uTell; rw [if_pos ⟨okc_of ha8 hb8, okT_of hu8⟩, ci_n ha8 hb8, cl_n (by omega)], by unfold bTell; rw [if_pos ⟨okc_of ha8 hb8, okT_of hu8⟩, ci_n ha8 hb8]⟩) hP hD hS
      · skip
        have nokT : ¬ okT t := fun q => c_3 q.2
        refine lv_bipush (v := (-3)) hx hb dX4_tell_21 (by decide) ?_
        exact hret _ (U, B) _ _ _ _ dX4_tell_23 (⟨by unfold aTell; rw [if_pos (okc_of ha8 hb8), if_neg nokT], by unfold uTell; rw [if_neg (fun q => nokT q.2)], by unfold bTell; rw [if_neg (fun q => nokT q.2)]⟩) hP hD hS
  · skip
    have nokc := c_1
    refine lv_bipush (v := (-2)) hx hb dX4_tell_8 (by decide) ?_
    exact hret _ (U, B) _ _ _ _ dX4_tell_10 (⟨by unfold aTell; rw [if_neg nokc], by unfold uTell; rw [if_neg (fun q => nokc q.1)], by unfold bTell; rw [if_neg (fun q => nokc q.1)]⟩) hP hD hS

set_option maxHeartbeats 4000000 in
set_option maxRecDepth 100000 in
theorem c_X4_free (l : Launch) (D : va_G) (cI cZ : ClassId) (tt : Nat → Nat) (sz : Nat) (w0 g0 a0 d0 k0 : Nat) (h0 h1 h2 h3 : Nat) (T U B : Nat → Nat) (x y : Int32) (hB : ∀ k, B k < 2) : MI l yX4_free wsX4_free ({ frames := 1, cells := 0, slots := 0, locals := 21 } : Room) D cI cZ tt [.ref w0, .int (x), .int (y)] [(w0, .inr (4, [.ref h0, .ref g0, .ref a0, .ref d0, .ref k0])), (h0, .inr (2, [.ref h1, .ref h2, .ref h3])), (h1, .inl (cI, 64, .inl (nF T))), (h2, .inl (cI, 64, .inl (nF U))), (h3, .inl (cZ, 64, .inl (nF B)))] sz (fun (r : Int32) (u : (Nat → Nat)) => r = aFree B x y ∧ (u = bFree B x y)) (fun (u : (Nat → Nat)) => [(w0, .inr (4, [.ref h0, .ref g0, .ref a0, .ref d0, .ref k0])), (h0, .inr (2, [.ref h1, .ref h2, .ref h3])), (h1, .inl (cI, 64, .inl (nF T))), (h2, .inl (cI, 64, .inl (nF U))), (h3, .inl (cZ, 64, .inl (nF u)))]) := by
  refine entI (cc := cX4_free) 4 (by decide) rfl (Nat.le_of_ble_eq_true rfl) (Or.inl rfl) (fun pr e s m args below meth c0 A Q H ls hx hb hml hown hts hsz hA hP hK hD hS hG hret hl => ?_)
  have hown : s.vm.findClass RX4 = some m.cls := hown
  have lk1 := hts (.fieldLink RX4 12 "BurinLines" "plate" "LBurinLines$Plate;") (by decide +kernel)
  have lk2 := hts (.fieldLink RX4 61 "BurinLines$Plate" "told" "[Z") (by decide +kernel)
  have hinX2 : ∀ w ∈ wsX20, w ∈ wsX4_free := by decide +kernel
  have hinX4 : ∀ w ∈ wsX40, w ∈ wsX4_free := by decide +kernel
  have hl : lv_has ls 4 [(0, .ref w0), (1, .int (x)), (2, .int (y))] := hl
  refine lv_iload_n hx hb dX4_free_0 rfl (lv_at hl 1 rfl) ?_
  refine lv_iload_n hx hb dX4_free_1 rfl (lv_at hl 2 rfl) ?_
  refine gcS (As := [.int (x), .int (y)]) (rest := []) ⟨hx, hb, hml, hown, hts⟩ (c_X4_isCell l x y ) (va_cwS 2 hts gX4_free_X4_isCell rfl rfl rfl (by decide +kernel) ⟨Nat.le_of_ble_eq_true rfl, Nat.le_of_ble_eq_true rfl⟩) hl.1 rfl rfl (Nat.le_of_ble_eq_true rfl) ⟨Nat.zero_le _, Nat.zero_le _⟩ dX4_free_2 ?_
  refine nv_ifb_ne (tgt := 11) hx hb dX4_free_5 (by decide) (fun c_1 => ?_) (fun c_1 => ?_)
  · skip
    obtain ⟨a, b, ha8, hb8, rfl, rfl⟩ := okc_nat c_1
    refine lv_iload_n hx hb dX4_free_11 rfl (lv_at hl 1 rfl) ?_
    refine lv_iload_n hx hb dX4_free_12 rfl (lv_at hl 2 rfl) ?_
    refine gcS (As := [.int (nI a), .int (nI b)]) (rest := []) ⟨hx, hb, hml, hown, hts⟩ (c_X4_cellOf l a b ) (va_cwS 2 hts gX4_free_X4_cellOf rfl rfl rfl (by decide +kernel) ⟨Nat.le_of_ble_eq_true rfl, Nat.le_of_ble_eq_true rfl⟩) hl.1 rfl rfl (Nat.le_of_ble_eq_true rfl) ⟨Nat.zero_le _, Nat.zero_le _⟩ dX4_free_13 ?_
    refine lv_istore_n (lv' := [(3, .int (nI (8 * b + a))), (0, .ref w0), (1, .int (nI a)), (2, .int (nI b))]) hx hb dX4_free_16 rfl hl (by decide) rfl (fun ls hl => ?_)
    refine lv_aload_n hx hb dX4_free_17 rfl (lv_at hl 1 rfl) ?_
    refine va_get (D := D) (ci := 4) (v := .ref h0) (C := RX4) (T := TX4) (N := 5) hx hb hts hinX4 hown hK hP 0 rfl rfl 0 (by decide) lk1 (fun _ h9 => h9) rfl dX4_free_18 ?_
    refine va_get (D := D) (ci := 2) (v := .ref h3) (C := RX2) (T := TX2) (N := 3) hx hb hts hinX2 hown hK hP 1 rfl rfl 2 (by decide) lk2 (fun _ h9 => h9) rfl dX4_free_21 ?_
    refine lv_iload_n hx hb dX4_free_24 rfl (lv_at hl 0 rfl) ?_
    refine nv_zald hx hb hK hP 4 rfl (by omega) (by decide) dX4_free_25 ?_
    have bd_2 := hB (8 * b + a)
    refine nv_if_ne (tgt := 32) hx hb dX4_free_26 (by decide) (by omega) (fun c_3 => ?_) (fun c_3 => ?_)
    · skip
      have hz := c_3
      refine lv_aload_n hx hb dX4_free_32 rfl (lv_at hl 1 rfl) ?_
      refine va_get (D := D) (ci := 4) (v := .ref h0) (C := RX4) (T := TX4) (N := 5) hx hb hts hinX4 hown hK hP 0 rfl rfl 0 (by decide) lk1 (fun _ h9 => h9) rfl dX4_free_33 ?_
      refine va_get (D := D) (ci := 2) (v := .ref h3) (C := RX2) (T := TX2) (N := 3) hx hb hts hinX2 hown hK hP 1 rfl rfl 2 (by decide) lk2 (fun _ h9 => h9) rfl dX4_free_36 ?_
      refine lv_iload_n hx hb dX4_free_39 rfl (lv_at hl 0 rfl) ?_
      refine lv_iconst (v := nI 0) hx hb dX4_free_40 (by decide) ?_
      refine nv_zast hx hb hK hP hD hS 4 rfl (by omega) (by decide) (by omega) dX4_free_41 (fun H locs hP hD hS => ?_)
      have hP : va_P D vwCl [(w0, .inr (4, [.ref h0, .ref g0, .ref a0, .ref d0, .ref k0])), (h0, .inr (2, [.ref h1, .ref h2, .ref h3])), (h1, .inl (cI, 64, .inl (nF T))), (h2, .inl (cI, 64, .inl (nF U))), (h3, .inl (cZ, 64, .inl (nF (va_up B (8 * b + a) 0))))] H := hP
      have hD : va_D A [(w0, .inr (4, [.ref h0, .ref g0, .ref a0, .ref d0, .ref k0])), (h0, .inr (2, [.ref h1, .ref h2, .ref h3])), (h1, .inl (cI, 64, .inl (nF T))), (h2, .inl (cI, 64, .inl (nF U))), (h3, .inl (cZ, 64, .inl (nF (va_up B (8 * b + a) 0))))] := hD
      refine lv_iconst (v := nI 1) hx hb dX4_free_42 (by decide) ?_
      exact hret _ _ _ _ _ _ dX4_free_43 (⟨by unfold aFree; rw [if_pos (okc_of ha8 hb8), ci_n ha8 hb8, if_neg hz], by unfold bFree; rw [if_pos (okc_of ha8 hb8), ci_n ha8 hb8]⟩) hP hD hS
    · skip
      have hz := c_3
      refine lv_bipush (v := (-4)) hx hb dX4_free_29 (by decide) ?_
      exact hret _ B _ _ _ _ dX4_free_31 (⟨by unfold aFree; rw [if_pos (okc_of ha8 hb8), ci_n ha8 hb8, if_pos hz], by unfold bFree; rw [if_pos (okc_of ha8 hb8), ci_n ha8 hb8, up_same hz]⟩) hP hD hS
  · skip
    have nokc := c_1
    refine lv_bipush (v := (-2)) hx hb dX4_free_8 (by decide) ?_
    exact hret _ B _ _ _ _ dX4_free_10 (⟨by unfold aFree; rw [if_neg nokc], by unfold bFree; rw [if_neg nokc]⟩) hP hD hS

set_option maxHeartbeats 4000000 in
set_option maxRecDepth 100000 in
theorem c_X4_even (l : Launch) (D : va_G) (cI cZ : ClassId) (tt : Nat → Nat) (sz : Nat) (w0 g0 a0 d0 k0 : Nat) (h0 h1 h2 h3 : Nat) (T U B : Nat → Nat) (hU : ∀ k, U k < 8) (hB : ∀ k, B k < 2) : MI l yX4_even wsX4_even ({ frames := 6, cells := 0, slots := 0, locals := 139 } : Room) D cI cZ tt [.ref w0] [(w0, .inr (4, [.ref h0, .ref g0, .ref a0, .ref d0, .ref k0])), (h0, .inr (2, [.ref h1, .ref h2, .ref h3])), (h1, .inl (cI, 64, .inl (nF T))), (h2, .inl (cI, 64, .inl (nF U))), (h3, .inl (cZ, 64, .inl (nF B)))] sz (fun (r : Int32) (_ : Unit) => r = nI (evN B U 20 0)) (fun (_ : Unit) => [(w0, .inr (4, [.ref h0, .ref g0, .ref a0, .ref d0, .ref k0])), (h0, .inr (2, [.ref h1, .ref h2, .ref h3])), (h1, .inl (cI, 64, .inl (nF T))), (h2, .inl (cI, 64, .inl (nF (it B U (evN B U 20 0))))), (h3, .inl (cZ, 64, .inl (nF B)))]) := by
  refine entI (cc := cX4_even) 1 (by decide) rfl (Nat.le_of_ble_eq_true rfl) (Or.inl rfl) (fun pr e s m args below meth c0 A Q H ls hx hb hml hown hts hsz hA hP hK hD hS hG hret hl => ?_)
  have hown : s.vm.findClass RX4 = some m.cls := hown
  have lk1 := hts (.fieldLink RX4 12 "BurinLines" "plate" "LBurinLines$Plate;") (by decide +kernel)
  have hinX4 : ∀ w ∈ wsX40, w ∈ wsX4_even := by decide +kernel
  have hl : lv_has ls 1 [(0, .ref w0)] := hl
  refine lv_aload_n hx hb dX4_even_0 rfl (lv_at hl 0 rfl) ?_
  refine va_get (D := D) (ci := 4) (v := .ref h0) (C := RX4) (T := TX4) (N := 5) hx hb hts hinX4 hown hK hP 0 rfl rfl 0 (by decide) lk1 (fun _ h9 => h9) rfl dX4_even_1 ?_
  refine gcVi (ws' := fun _ => [(w0, .inr (4, [.ref h0, .ref g0, .ref a0, .ref d0, .ref k0])), (h0, .inr (2, [.ref h1, .ref h2, .ref h3])), (h1, .inl (cI, 64, .inl (nF T))), (h2, .inl (cI, 64, .inl (nF (it B U (evN B U 20 0))))), (h3, .inl (cZ, 64, .inl (nF B)))]) (wr := [(w0, .inr (4, [.ref h0, .ref g0, .ref a0, .ref d0, .ref k0]))]) (ci := 2) (q0 := 0) (As := []) (rest := []) ⟨hx, hb, hml, hown, hts⟩ (c_X2_smooth l D cI cZ tt H.size h0 h1 h2 h3 T U B (by first | assumption | omega) (by first | assumption | omega)) (cwV 0 hts gX4_even_X2_smooth rfl rfl rfl (by decide +kernel) ⟨Nat.le_of_ble_eq_true rfl, Nat.le_of_ble_eq_true rfl⟩) hP hK hD hS hA hG rfl rfl [1, 2, 3, 4] [0] [0, 1, 2, 3, 4] (by decide) rfl rfl (by decide) (by decide) (by decide) (fun _ => rfl) hl.1 rfl rfl (Nat.le_of_ble_eq_true rfl) ⟨Nat.zero_le _, Nat.zero_le _⟩ dX4_even_4 (fun r u H locs hp hP hD hS => ?_)
  obtain rfl := hp
  have hP : va_P D vwCl [(w0, .inr (4, [.ref h0, .ref g0, .ref a0, .ref d0, .ref k0])), (h0, .inr (2, [.ref h1, .ref h2, .ref h3])), (h1, .inl (cI, 64, .inl (nF T))), (h2, .inl (cI, 64, .inl (nF (it B U (evN B U 20 0))))), (h3, .inl (cZ, 64, .inl (nF B)))] H := hP
  have hD : va_D A [(w0, .inr (4, [.ref h0, .ref g0, .ref a0, .ref d0, .ref k0])), (h0, .inr (2, [.ref h1, .ref h2, .ref h3])), (h1, .inl (cI, 64, .inl (nF T))), (h2, .inl (cI, 64, .inl (nF (it B U (evN B U 20 0))))), (h3, .inl (cZ, 64, .inl (nF B)))] := hD
  exact hret _ () _ _ _ _ dX4_even_7 (rfl) hP hD hS

set_option maxHeartbeats 4000000 in
set_option maxRecDepth 100000 in
theorem c_X4_at (l : Launch) (D : va_G) (cI cZ : ClassId) (tt : Nat → Nat) (sz : Nat) (w0 g0 a0 d0 k0 : Nat) (h0 h1 h2 h3 : Nat) (T U B : Nat → Nat) (x y what : Int32) (hB : ∀ k, B k < 2) : MI l yX4_at wsX4_at ({ frames := 1, cells := 0, slots := 0, locals := 21 } : Room) D cI cZ tt [.ref w0, .int (x), .int (y), .int (what)] [(w0, .inr (4, [.ref h0, .ref g0, .ref a0, .ref d0, .ref k0])), (h0, .inr (2, [.ref h1, .ref h2, .ref h3])), (h1, .inl (cI, 64, .inl (nF T))), (h2, .inl (cI, 64, .inl (nF U))), (h3, .inl (cZ, 64, .inl (nF B)))] sz (fun (r : Int32) (_ : Unit) => r = aAt T U B x y what) (fun (_ : Unit) => [(w0, .inr (4, [.ref h0, .ref g0, .ref a0, .ref d0, .ref k0])), (h0, .inr (2, [.ref h1, .ref h2, .ref h3])), (h1, .inl (cI, 64, .inl (nF T))), (h2, .inl (cI, 64, .inl (nF U))), (h3, .inl (cZ, 64, .inl (nF B)))]) := by
  refine entI (cc := cX4_at) 5 (by decide) rfl (Nat.le_of_ble_eq_true rfl) (Or.inl rfl) (fun pr e s m args below meth c0 A Q H ls hx hb hml hown hts hsz hA hP hK hD hS hG hret hl => ?_)
  have hown : s.vm.findClass RX4 = some m.cls := hown
  have lk1 := hts (.fieldLink RX4 12 "BurinLines" "plate" "LBurinLines$Plate;") (by decide +kernel)
  have lk2 := hts (.fieldLink RX4 54 "BurinLines$Plate" "tones" "[I") (by decide +kernel)
  have lk3 := hts (.fieldLink RX4 58 "BurinLines$Plate" "turns" "[I") (by decide +kernel)
  have lk4 := hts (.fieldLink RX4 61 "BurinLines$Plate" "told" "[Z") (by decide +kernel)
  have hinX2 : ∀ w ∈ wsX20, w ∈ wsX4_at := by decide +kernel
  have hinX4 : ∀ w ∈ wsX40, w ∈ wsX4_at := by decide +kernel
  have hl : lv_has ls 5 [(0, .ref w0), (1, .int (x)), (2, .int (y)), (3, .int (what))] := hl
  refine lv_iload_n hx hb dX4_at_0 rfl (lv_at hl 1 rfl) ?_
  refine lv_iload_n hx hb dX4_at_1 rfl (lv_at hl 2 rfl) ?_
  refine gcS (As := [.int (x), .int (y)]) (rest := []) ⟨hx, hb, hml, hown, hts⟩ (c_X4_isCell l x y ) (va_cwS 2 hts gX4_at_X4_isCell rfl rfl rfl (by decide +kernel) ⟨Nat.le_of_ble_eq_true rfl, Nat.le_of_ble_eq_true rfl⟩) hl.1 rfl rfl (Nat.le_of_ble_eq_true rfl) ⟨Nat.zero_le _, Nat.zero_le _⟩ dX4_at_2 ?_
  refine nv_ifb_ne (tgt := 11) hx hb dX4_at_5 (by decide) (fun c_1 => ?_) (fun c_1 => ?_)
  · skip
    obtain ⟨a, b, ha8, hb8, rfl, rfl⟩ := okc_nat c_1
    refine lv_iload_n hx hb dX4_at_11 rfl (lv_at hl 1 rfl) ?_
    refine lv_iload_n hx hb dX4_at_12 rfl (lv_at hl 2 rfl) ?_
    refine gcS (As := [.int (nI a), .int (nI b)]) (rest := []) ⟨hx, hb, hml, hown, hts⟩ (c_X4_cellOf l a b ) (va_cwS 2 hts gX4_at_X4_cellOf rfl rfl rfl (by decide +kernel) ⟨Nat.le_of_ble_eq_true rfl, Nat.le_of_ble_eq_true rfl⟩) hl.1 rfl rfl (Nat.le_of_ble_eq_true rfl) ⟨Nat.zero_le _, Nat.zero_le _⟩ dX4_at_13 ?_
    refine lv_istore (lv' := [(4, .int (nI (8 * b + a))), (0, .ref w0), (1, .int (nI a)), (2, .int (nI b)), (3, .int (what))]) hx hb dX4_at_16 hl (by decide) rfl (fun ls hl => ?_)
    refine lv_iload_n hx hb dX4_at_18 rfl (lv_at hl 4 rfl) ?_
    by_cases sw_2 : what = nI 0
    · skip
      refine top_eq sw_2 ?_
      refine lv_tableIn (tgt := 44) (off := 25) hx hb dX4_at_19 (by decide) (by decide) (by rfl) (by decide) ?_
      refine lv_aload_n hx hb dX4_at_44 rfl (lv_at hl 1 rfl) ?_
      refine va_get (D := D) (ci := 4) (v := .ref h0) (C := RX4) (T := TX4) (N := 5) hx hb hts hinX4 hown hK hP 0 rfl rfl 0 (by decide) lk1 (fun _ h9 => h9) rfl dX4_at_45 ?_
      refine va_get (D := D) (ci := 2) (v := .ref h1) (C := RX2) (T := TX2) (N := 3) hx hb hts hinX2 hown hK hP 1 rfl rfl 0 (by decide) lk2 (fun _ h9 => h9) rfl dX4_at_48 ?_
      refine lv_iload hx hb dX4_at_51 (lv_at hl 0 rfl) ?_
      refine nv_iald hx hb hK hP 2 rfl (by omega) (by decide) dX4_at_53 ?_
      exact hret _ () _ _ _ _ dX4_at_54 (by unfold aAt; rw [if_pos (okc_of ha8 hb8), ci_n ha8 hb8, if_pos sw_2]) hP hD hS
    by_cases sw_3 : what = nI 1
    · skip
      refine top_eq sw_3 ?_
      refine lv_tableIn (tgt := 55) (off := 36) hx hb dX4_at_19 (by decide) (by decide) (by rfl) (by decide) ?_
      refine lv_aload_n hx hb dX4_at_55 rfl (lv_at hl 1 rfl) ?_
      refine va_get (D := D) (ci := 4) (v := .ref h0) (C := RX4) (T := TX4) (N := 5) hx hb hts hinX4 hown hK hP 0 rfl rfl 0 (by decide) lk1 (fun _ h9 => h9) rfl dX4_at_56 ?_
      refine va_get (D := D) (ci := 2) (v := .ref h2) (C := RX2) (T := TX2) (N := 3) hx hb hts hinX2 hown hK hP 1 rfl rfl 1 (by decide) lk3 (fun _ h9 => h9) rfl dX4_at_59 ?_
      refine lv_iload hx hb dX4_at_62 (lv_at hl 0 rfl) ?_
      refine nv_iald hx hb hK hP 3 rfl (by omega) (by decide) dX4_at_64 ?_
      exact hret _ () _ _ _ _ dX4_at_65 (by unfold aAt; rw [if_pos (okc_of ha8 hb8), ci_n ha8 hb8, if_neg (by rw [sw_3]; decide), if_pos sw_3]) hP hD hS
    by_cases sw_4 : what = nI 2
    · skip
      refine top_eq sw_4 ?_
      refine lv_tableIn (tgt := 66) (off := 47) hx hb dX4_at_19 (by decide) (by decide) (by rfl) (by decide) ?_
      refine lv_aload_n hx hb dX4_at_66 rfl (lv_at hl 1 rfl) ?_
      refine va_get (D := D) (ci := 4) (v := .ref h0) (C := RX4) (T := TX4) (N := 5) hx hb hts hinX4 hown hK hP 0 rfl rfl 0 (by decide) lk1 (fun _ h9 => h9) rfl dX4_at_67 ?_
      refine va_get (D := D) (ci := 2) (v := .ref h3) (C := RX2) (T := TX2) (N := 3) hx hb hts hinX2 hown hK hP 1 rfl rfl 2 (by decide) lk4 (fun _ h9 => h9) rfl dX4_at_70 ?_
      refine lv_iload hx hb dX4_at_73 (lv_at hl 0 rfl) ?_
      refine nv_zald hx hb hK hP 4 rfl (by omega) (by decide) dX4_at_75 ?_
      have bd_5 := hB (8 * b + a)
      refine nv_if_eq (tgt := 83) hx hb dX4_at_76 (by decide) (by omega) (fun c_6 => ?_) (fun c_6 => ?_)
      · skip
        refine lv_iconst (v := nI 0) hx hb dX4_at_83 (by decide) ?_
        exact hret _ () _ _ _ _ dX4_at_84 (by unfold aAt; rw [if_pos (okc_of ha8 hb8), ci_n ha8 hb8, if_neg (by rw [sw_4]; decide), if_neg (by rw [sw_4]; decide), if_pos sw_4, if_pos c_6]) hP hD hS
      · skip
        refine lv_iconst (v := nI 1) hx hb dX4_at_79 (by decide) ?_
        refine lv_goto (tgt := 84) hx hb dX4_at_80 (by decide) ?_
        exact hret _ () _ _ _ _ dX4_at_84 (by unfold aAt; rw [if_pos (okc_of ha8 hb8), ci_n ha8 hb8, if_neg (by rw [sw_4]; decide), if_neg (by rw [sw_4]; decide), if_pos sw_4, if_neg c_6]) hP hD hS
    have sw_2T := ne_toInt (k := 0) sw_2 (by decide)
    have sw_3T := ne_toInt (k := 1) sw_3 (by decide)
    have sw_4T := ne_toInt (k := 2) sw_4 (by decide)
    refine lv_tableOut (tgt := 85) hx hb dX4_at_19 (by omega) (by decide) ?_
    refine lv_bipush (v := (-3)) hx hb dX4_at_85 (by decide) ?_
    exact hret _ () _ _ _ _ dX4_at_87 (by unfold aAt; rw [if_pos (okc_of ha8 hb8), ci_n ha8 hb8, if_neg sw_2, if_neg sw_3, if_neg sw_4]) hP hD hS
  · skip
    have nokc := c_1
    refine lv_bipush (v := (-2)) hx hb dX4_at_8 (by decide) ?_
    exact hret _ () _ _ _ _ dX4_at_10 (by unfold aAt; rw [if_neg nokc]) hP hD hS

set_option maxHeartbeats 4000000 in
set_option maxRecDepth 100000 in
theorem c_X4_knot (l : Launch) (D : va_G) (cI cZ : ClassId) (tt : Nat → Nat) (sz : Nat) (w0 g0 a0 d0 k0 : Nat) (h0 h1 h2 h3 : Nat) (T U B : Nat → Nat) (x y : Int32) (hU : ∀ k, U k < 8) : MI l yX4_knot wsX4_knot ({ frames := 3, cells := 0, slots := 0, locals := 75 } : Room) D cI cZ tt [.ref w0, .int (x), .int (y)] [(w0, .inr (4, [.ref h0, .ref g0, .ref a0, .ref d0, .ref k0])), (h0, .inr (2, [.ref h1, .ref h2, .ref h3])), (h1, .inl (cI, 64, .inl (nF T))), (h2, .inl (cI, 64, .inl (nF U))), (h3, .inl (cZ, 64, .inl (nF B)))] sz (fun (r : Int32) (_ : Unit) => r = aKnot U x y) (fun (_ : Unit) => [(w0, .inr (4, [.ref h0, .ref g0, .ref a0, .ref d0, .ref k0])), (h0, .inr (2, [.ref h1, .ref h2, .ref h3])), (h1, .inl (cI, 64, .inl (nF T))), (h2, .inl (cI, 64, .inl (nF U))), (h3, .inl (cZ, 64, .inl (nF B)))]) := by
  refine entI (cc := cX4_knot) 3 (by decide) rfl (Nat.le_of_ble_eq_true rfl) (Or.inl rfl) (fun pr e s m args below meth c0 A Q H ls hx hb hml hown hts hsz hA hP hK hD hS hG hret hl => ?_)
  have hown : s.vm.findClass RX4 = some m.cls := hown
  have lk1 := hts (.fieldLink RX4 12 "BurinLines" "plate" "LBurinLines$Plate;") (by decide +kernel)
  have hinX4 : ∀ w ∈ wsX40, w ∈ wsX4_knot := by decide +kernel
  have hl : lv_has ls 3 [(0, .ref w0), (1, .int (x)), (2, .int (y))] := hl
  refine lv_iload_n hx hb dX4_knot_0 rfl (lv_at hl 1 rfl) ?_
  refine lv_iload_n hx hb dX4_knot_1 rfl (lv_at hl 2 rfl) ?_
  refine gcS (As := [.int (x), .int (y)]) (rest := []) ⟨hx, hb, hml, hown, hts⟩ (c_X4_isBlock l x y ) (va_cwS 2 hts gX4_knot_X4_isBlock rfl rfl rfl (by decide +kernel) ⟨Nat.le_of_ble_eq_true rfl, Nat.le_of_ble_eq_true rfl⟩) hl.1 rfl rfl (Nat.le_of_ble_eq_true rfl) ⟨Nat.zero_le _, Nat.zero_le _⟩ dX4_knot_2 ?_
  refine nv_ifb_eq (tgt := 20) hx hb dX4_knot_5 (by decide) (fun c_1 => ?_) (fun c_1 => ?_)
  · skip
    have nokb := c_1
    refine lv_bipush (v := (-2)) hx hb dX4_knot_20 (by decide) ?_
    exact hret _ () _ _ _ _ dX4_knot_22 (by unfold aKnot; rw [if_neg nokb]) hP hD hS
  · skip
    obtain ⟨a, b, ha8, hb8, rfl, rfl⟩ := okb_nat c_1
    refine lv_aload_n hx hb dX4_knot_8 rfl (lv_at hl 0 rfl) ?_
    refine va_get (D := D) (ci := 4) (v := .ref h0) (C := RX4) (T := TX4) (N := 5) hx hb hts hinX4 hown hK hP 0 rfl rfl 0 (by decide) lk1 (fun _ h9 => h9) rfl dX4_knot_9 ?_
    refine lv_iload_n hx hb dX4_knot_12 rfl (lv_at hl 1 rfl) ?_
    refine lv_iload_n hx hb dX4_knot_13 rfl (lv_at hl 2 rfl) ?_
    refine gcVi (ws' := fun _ => [(w0, .inr (4, [.ref h0, .ref g0, .ref a0, .ref d0, .ref k0])), (h0, .inr (2, [.ref h1, .ref h2, .ref h3])), (h1, .inl (cI, 64, .inl (nF T))), (h2, .inl (cI, 64, .inl (nF U))), (h3, .inl (cZ, 64, .inl (nF B)))]) (wr := [(w0, .inr (4, [.ref h0, .ref g0, .ref a0, .ref d0, .ref k0]))]) (ci := 2) (q0 := 0) (As := [.int (nI a), .int (nI b)]) (rest := []) ⟨hx, hb, hml, hown, hts⟩ (c_X2_knotOf l D cI cZ tt H.size h0 h1 h2 h3 T U B a b (by first | assumption | omega) (by first | assumption | omega) (by first | assumption | omega)) (cwV 2 hts gX4_knot_X2_knotOf rfl rfl rfl (by decide +kernel) ⟨Nat.le_of_ble_eq_true rfl, Nat.le_of_ble_eq_true rfl⟩) hP hK hD hS hA hG rfl rfl [1, 2, 3, 4] [0] [0, 1, 2, 3, 4] (by decide) rfl rfl (by decide) (by decide) (by decide) (fun _ => rfl) hl.1 rfl rfl (Nat.le_of_ble_eq_true rfl) ⟨Nat.zero_le _, Nat.zero_le _⟩ dX4_knot_14 (fun r u H locs hp hP hD hS => ?_)
    obtain rfl := hp
    have hP : va_P D vwCl [(w0, .inr (4, [.ref h0, .ref g0, .ref a0, .ref d0, .ref k0])), (h0, .inr (2, [.ref h1, .ref h2, .ref h3])), (h1, .inl (cI, 64, .inl (nF T))), (h2, .inl (cI, 64, .inl (nF U))), (h3, .inl (cZ, 64, .inl (nF B)))] H := hP
    have hD : va_D A [(w0, .inr (4, [.ref h0, .ref g0, .ref a0, .ref d0, .ref k0])), (h0, .inr (2, [.ref h1, .ref h2, .ref h3])), (h1, .inl (cI, 64, .inl (nF T))), (h2, .inl (cI, 64, .inl (nF U))), (h3, .inl (cZ, 64, .inl (nF B)))] := hD
    refine lv_goto (tgt := 22) hx hb dX4_knot_17 (by decide) ?_
    exact hret _ () _ _ _ _ dX4_knot_22 (by unfold aKnot; rw [if_pos (okb_of ha8 hb8), ci_n (by omega) (by omega)]) hP hD hS

set_option maxHeartbeats 4000000 in
set_option maxRecDepth 100000 in
theorem c_X4_set (l : Launch) (D : va_G) (cI cZ : ClassId) (tt : Nat → Nat) (sz : Nat) (w0 h0 a0 d0 k0 : Nat) (g0 g1 : Nat) (G : Nat → Nat) (what v : Int32) (hGs : ∀ k, G k ≤ 100) : MI l yX4_set wsX4_set ({ frames := 1, cells := 0, slots := 0, locals := 23 } : Room) D cI cZ tt [.ref w0, .int (what), .int (v)] [(w0, .inr (4, [.ref h0, .ref g0, .ref a0, .ref d0, .ref k0])), (g0, .inr (3, [.ref g1])), (g1, .inl (cI, 4, .inl (nF G)))] sz (fun (r : Int32) (u : (Nat → Nat)) => r = setR G what v ∧ (u = setG G what v)) (fun (u : (Nat → Nat)) => [(w0, .inr (4, [.ref h0, .ref g0, .ref a0, .ref d0, .ref k0])), (g0, .inr (3, [.ref g1])), (g1, .inl (cI, 4, .inl (nF u)))]) := by
  refine entI (cc := cX4_set) 3 (by decide) rfl (Nat.le_of_ble_eq_true rfl) (Or.inl rfl) (fun pr e s m args below meth c0 A Q H ls hx hb hml hown hts hsz hA hP hK hD hS hG hret hl => ?_)
  have hown : s.vm.findClass RX4 = some m.cls := hown
  have lk1 := hts (.fieldLink RX4 19 "BurinLines" "tool" "LBurinLines$Tool;") (by decide +kernel)
  have hinX4 : ∀ w ∈ wsX40, w ∈ wsX4_set := by decide +kernel
  have hl : lv_has ls 3 [(0, .ref w0), (1, .int (what)), (2, .int (v))] := hl
  refine lv_aload_n hx hb dX4_set_0 rfl (lv_at hl 0 rfl) ?_
  refine va_get (D := D) (ci := 4) (v := .ref g0) (C := RX4) (T := TX4) (N := 5) hx hb hts hinX4 hown hK hP 0 rfl rfl 1 (by decide) lk1 (fun _ h9 => h9) rfl dX4_set_1 ?_
  refine lv_iload_n hx hb dX4_set_4 rfl (lv_at hl 1 rfl) ?_
  refine lv_iload_n hx hb dX4_set_5 rfl (lv_at hl 2 rfl) ?_
  refine gcVi (ws' := fun (u : (Nat → Nat)) => [(w0, .inr (4, [.ref h0, .ref g0, .ref a0, .ref d0, .ref k0])), (g0, .inr (3, [.ref g1])), (g1, .inl (cI, 4, .inl (nF u)))]) (wr := [(w0, .inr (4, [.ref h0, .ref g0, .ref a0, .ref d0, .ref k0]))]) (ci := 3) (q0 := 0) (As := [.int (what), .int (v)]) (rest := []) ⟨hx, hb, hml, hown, hts⟩ (c_X3_change l D cI cZ tt H.size g0 g1 G what v (by first | assumption | omega)) (cwV 2 hts gX4_set_X3_change rfl rfl rfl (by decide +kernel) ⟨Nat.le_of_ble_eq_true rfl, Nat.le_of_ble_eq_true rfl⟩) hP hK hD hS hA hG rfl rfl [1, 2] [0] [0, 1, 2] (by decide) rfl rfl (by decide) (by decide) (by decide) (fun _ => rfl) hl.1 rfl rfl (Nat.le_of_ble_eq_true rfl) ⟨Nat.zero_le _, Nat.zero_le _⟩ dX4_set_6 (fun r u H locs hp hP hD hS => ?_)
  obtain ⟨G2_1, rfl⟩ : ∃ z, z = u := ⟨_, rfl⟩
  obtain ⟨rfl, hG2_2⟩ := hp
  have hG2_2 : G2_1 = setG G what v := hG2_2
  have hP : va_P D vwCl [(w0, .inr (4, [.ref h0, .ref g0, .ref a0, .ref d0, .ref k0])), (g0, .inr (3, [.ref g1])), (g1, .inl (cI, 4, .inl (nF G2_1)))] H := hP
  have hD : va_D A [(w0, .inr (4, [.ref h0, .ref g0, .ref a0, .ref d0, .ref k0])), (g0, .inr (3, [.ref g1])), (g1, .inl (cI, 4, .inl (nF G2_1)))] := hD
  exact hret _ _ _ _ _ _ dX4_set_9 (⟨rfl, by assumption⟩) hP hD hS

set_option maxHeartbeats 4000000 in
set_option maxRecDepth 100000 in
theorem c_X4_wanted (l : Launch) (D : va_G) (cI cZ : ClassId) (tt : Nat → Nat) (sz : Nat) (w0 a0 d0 k0 : Nat) (h0 h1 h2 h3 : Nat) (T U B : Nat → Nat) (g0 g1 : Nat) (G : Nat → Nat) (x y ly : Int32) (hT : ∀ k, T k ≤ 100) (hGs : ∀ k, G k ≤ 100) : MI l yX4_wanted wsX4_wanted ({ frames := 2, cells := 0, slots := 0, locals := 46 } : Room) D cI cZ tt [.ref w0, .int (x), .int (y), .int (ly)] [(w0, .inr (4, [.ref h0, .ref g0, .ref a0, .ref d0, .ref k0])), (h0, .inr (2, [.ref h1, .ref h2, .ref h3])), (h1, .inl (cI, 64, .inl (nF T))), (h2, .inl (cI, 64, .inl (nF U))), (h3, .inl (cZ, 64, .inl (nF B))), (g0, .inr (3, [.ref g1])), (g1, .inl (cI, 4, .inl (nF G)))] sz (fun (r : Int32) (_ : Unit) => r = aWanted G T x y ly) (fun (_ : Unit) => [(w0, .inr (4, [.ref h0, .ref g0, .ref a0, .ref d0, .ref k0])), (h0, .inr (2, [.ref h1, .ref h2, .ref h3])), (h1, .inl (cI, 64, .inl (nF T))), (h2, .inl (cI, 64, .inl (nF U))), (h3, .inl (cZ, 64, .inl (nF B))), (g0, .inr (3, [.ref g1])), (g1, .inl (cI, 4, .inl (nF G)))]) := by
  refine entI (cc := cX4_wanted) 4 (by decide) rfl (Nat.le_of_ble_eq_true rfl) (Or.inl rfl) (fun pr e s m args below meth c0 A Q H ls hx hb hml hown hts hsz hA hP hK hD hS hG hret hl => ?_)
  have hown : s.vm.findClass RX4 = some m.cls := hown
  have lk1 := hts (.fieldLink RX4 19 "BurinLines" "tool" "LBurinLines$Tool;") (by decide +kernel)
  have lk2 := hts (.fieldLink RX4 12 "BurinLines" "plate" "LBurinLines$Plate;") (by decide +kernel)
  have lk3 := hts (.fieldLink RX4 54 "BurinLines$Plate" "tones" "[I") (by decide +kernel)
  have hinX2 : ∀ w ∈ wsX20, w ∈ wsX4_wanted := by decide +kernel
  have hinX4 : ∀ w ∈ wsX40, w ∈ wsX4_wanted := by decide +kernel
  have hl : lv_has ls 4 [(0, .ref w0), (1, .int (x)), (2, .int (y)), (3, .int (ly))] := hl
  refine lv_iload_n hx hb dX4_wanted_0 rfl (lv_at hl 1 rfl) ?_
  refine lv_iload_n hx hb dX4_wanted_1 rfl (lv_at hl 2 rfl) ?_
  refine gcS (As := [.int (x), .int (y)]) (rest := []) ⟨hx, hb, hml, hown, hts⟩ (c_X4_isCell l x y ) (va_cwS 2 hts gX4_wanted_X4_isCell rfl rfl rfl (by decide +kernel) ⟨Nat.le_of_ble_eq_true rfl, Nat.le_of_ble_eq_true rfl⟩) hl.1 rfl rfl (Nat.le_of_ble_eq_true rfl) ⟨Nat.zero_le _, Nat.zero_le _⟩ dX4_wanted_2 ?_
  refine nv_ifb_eq (tgt := 15) hx hb dX4_wanted_5 (by decide) (fun c_1 => ?_) (fun c_1 => ?_)
  · skip
    have nok : ¬ (okc x y ∧ okl ly) := fun q => c_1 q.1
    refine lv_bipush (v := (-2)) hx hb dX4_wanted_15 (by decide) ?_
    exact hret _ () _ _ _ _ dX4_wanted_17 (by unfold aWanted; rw [if_neg nok]) hP hD hS
  · skip
    obtain ⟨a, b, ha8, hb8, rfl, rfl⟩ := okc_nat c_1
    refine lv_iload_n hx hb dX4_wanted_8 rfl (lv_at hl 3 rfl) ?_
    refine gcS (As := [.int (ly)]) (rest := []) ⟨hx, hb, hml, hown, hts⟩ (c_X4_isLayer l ly ) (va_cwS 1 hts gX4_wanted_X4_isLayer rfl rfl rfl (by decide +kernel) ⟨Nat.le_of_ble_eq_true rfl, Nat.le_of_ble_eq_true rfl⟩) hl.1 rfl rfl (Nat.le_of_ble_eq_true rfl) ⟨Nat.zero_le _, Nat.zero_le _⟩ dX4_wanted_9 ?_
    refine nv_ifb_ne (tgt := 18) hx hb dX4_wanted_12 (by decide) (fun c_2 => ?_) (fun c_2 => ?_)
    · skip
      rcases c_2 with hL | hL
      · skip
        obtain rfl : ly = nI 0 := hL.trans nI_0.symm
        refine lv_aload_n hx hb dX4_wanted_18 rfl (lv_at hl 0 rfl) ?_
        refine va_get (D := D) (ci := 4) (v := .ref g0) (C := RX4) (T := TX4) (N := 5) hx hb hts hinX4 hown hK hP 0 rfl rfl 1 (by decide) lk1 (fun _ h9 => h9) rfl dX4_wanted_19 ?_
        refine lv_aload_n hx hb dX4_wanted_22 rfl (lv_at hl 0 rfl) ?_
        refine va_get (D := D) (ci := 4) (v := .ref h0) (C := RX4) (T := TX4) (N := 5) hx hb hts hinX4 hown hK hP 0 rfl rfl 0 (by decide) lk2 (fun _ h9 => h9) rfl dX4_wanted_23 ?_
        refine va_get (D := D) (ci := 2) (v := .ref h1) (C := RX2) (T := TX2) (N := 3) hx hb hts hinX2 hown hK hP 1 rfl rfl 0 (by decide) lk3 (fun _ h9 => h9) rfl dX4_wanted_26 ?_
        refine lv_iload_n hx hb dX4_wanted_29 rfl (lv_at hl 1 rfl) ?_
        refine lv_iload_n hx hb dX4_wanted_30 rfl (lv_at hl 2 rfl) ?_
        refine gcS (As := [.int (nI a), .int (nI b)]) (rest := [.ref h1, .ref g0]) ⟨hx, hb, hml, hown, hts⟩ (c_X4_cellOf l a b ) (va_cwS 2 hts gX4_wanted_X4_cellOf rfl rfl rfl (by decide +kernel) ⟨Nat.le_of_ble_eq_true rfl, Nat.le_of_ble_eq_true rfl⟩) hl.1 rfl rfl (Nat.le_of_ble_eq_true rfl) ⟨Nat.zero_le _, Nat.zero_le _⟩ dX4_wanted_31 ?_
        refine nv_iald hx hb hK hP 2 rfl (by omega) (by decide) dX4_wanted_34 ?_
        have bd_3 := hT (8 * b + a)
        refine lv_iload_n hx hb dX4_wanted_35 rfl (lv_at hl 3 rfl) ?_
        refine gcVi (ws' := fun _ => [(w0, .inr (4, [.ref h0, .ref g0, .ref a0, .ref d0, .ref k0])), (h0, .inr (2, [.ref h1, .ref h2, .ref h3])), (h1, .inl (cI, 64, .inl (nF T))), (h2, .inl (cI, 64, .inl (nF U))), (h3, .inl (cZ, 64, .inl (nF B))), (g0, .inr (3, [.ref g1])), (g1, .inl (cI, 4, .inl (nF G)))]) (wr := [(w0, .inr (4, [.ref h0, .ref g0, .ref a0, .ref d0, .ref k0])), (h0, .inr (2, [.ref h1, .ref h2, .ref h3])), (h1, .inl (cI, 64, .inl (nF T))), (h2, .inl (cI, 64, .inl (nF U))), (h3, .inl (cZ, 64, .inl (nF B)))]) (ci := 3) (q0 := 0) (As := [.int (nI (T (8 * b + a))), .int (nI 0)]) (rest := []) ⟨hx, hb, hml, hown, hts⟩ (c_X3_widthFor l D cI cZ tt H.size g0 g1 G (T (8 * b + a)) 0 (by first | assumption | omega) (by first | assumption | omega) (by first | assumption | omega)) (cwV 2 hts gX4_wanted_X3_widthFor rfl rfl rfl (by decide +kernel) ⟨Nat.le_of_ble_eq_true rfl, Nat.le_of_ble_eq_true rfl⟩) hP hK hD hS hA hG rfl rfl [5, 6] [0, 1, 2, 3, 4] [0, 1, 2, 3, 4, 5, 6] (by decide) rfl rfl (by decide) (by decide) (by decide) (fun _ => rfl) hl.1 rfl rfl (Nat.le_of_ble_eq_true rfl) ⟨Nat.zero_le _, Nat.zero_le _⟩ dX4_wanted_36 (fun r u H locs hp hP hD hS => ?_)
        obtain rfl := hp
        have hP : va_P D vwCl [(w0, .inr (4, [.ref h0, .ref g0, .ref a0, .ref d0, .ref k0])), (h0, .inr (2, [.ref h1, .ref h2, .ref h3])), (h1, .inl (cI, 64, .inl (nF T))), (h2, .inl (cI, 64, .inl (nF U))), (h3, .inl (cZ, 64, .inl (nF B))), (g0, .inr (3, [.ref g1])), (g1, .inl (cI, 4, .inl (nF G)))] H := hP
        have hD : va_D A [(w0, .inr (4, [.ref h0, .ref g0, .ref a0, .ref d0, .ref k0])), (h0, .inr (2, [.ref h1, .ref h2, .ref h3])), (h1, .inl (cI, 64, .inl (nF T))), (h2, .inl (cI, 64, .inl (nF U))), (h3, .inl (cZ, 64, .inl (nF B))), (g0, .inr (3, [.ref g1])), (g1, .inl (cI, 4, .inl (nF G)))] := hD
        exact hret _ () _ _ _ _ dX4_wanted_39 (by unfold aWanted; rw [if_pos ⟨okc_of ha8 hb8, Or.inl nI_0⟩, ci_n ha8 hb8, show (nI 0).toNatClampNeg = 0 from rfl]) hP hD hS
      · skip
        obtain rfl : ly = nI 1 := hL
        refine lv_aload_n hx hb dX4_wanted_18 rfl (lv_at hl 0 rfl) ?_
        refine va_get (D := D) (ci := 4) (v := .ref g0) (C := RX4) (T := TX4) (N := 5) hx hb hts hinX4 hown hK hP 0 rfl rfl 1 (by decide) lk1 (fun _ h9 => h9) rfl dX4_wanted_19 ?_
        refine lv_aload_n hx hb dX4_wanted_22 rfl (lv_at hl 0 rfl) ?_
        refine va_get (D := D) (ci := 4) (v := .ref h0) (C := RX4) (T := TX4) (N := 5) hx hb hts hinX4 hown hK hP 0 rfl rfl 0 (by decide) lk2 (fun _ h9 => h9) rfl dX4_wanted_23 ?_
        refine va_get (D := D) (ci := 2) (v := .ref h1) (C := RX2) (T := TX2) (N := 3) hx hb hts hinX2 hown hK hP 1 rfl rfl 0 (by decide) lk3 (fun _ h9 => h9) rfl dX4_wanted_26 ?_
        refine lv_iload_n hx hb dX4_wanted_29 rfl (lv_at hl 1 rfl) ?_
        refine lv_iload_n hx hb dX4_wanted_30 rfl (lv_at hl 2 rfl) ?_
        refine gcS (As := [.int (nI a), .int (nI b)]) (rest := [.ref h1, .ref g0]) ⟨hx, hb, hml, hown, hts⟩ (c_X4_cellOf l a b ) (va_cwS 2 hts gX4_wanted_X4_cellOf rfl rfl rfl (by decide +kernel) ⟨Nat.le_of_ble_eq_true rfl, Nat.le_of_ble_eq_true rfl⟩) hl.1 rfl rfl (Nat.le_of_ble_eq_true rfl) ⟨Nat.zero_le _, Nat.zero_le _⟩ dX4_wanted_31 ?_
        refine nv_iald hx hb hK hP 2 rfl (by omega) (by decide) dX4_wanted_34 ?_
        have bd_4 := hT (8 * b + a)
        refine lv_iload_n hx hb dX4_wanted_35 rfl (lv_at hl 3 rfl) ?_
        refine gcVi (ws' := fun _ => [(w0, .inr (4, [.ref h0, .ref g0, .ref a0, .ref d0, .ref k0])), (h0, .inr (2, [.ref h1, .ref h2, .ref h3])), (h1, .inl (cI, 64, .inl (nF T))), (h2, .inl (cI, 64, .inl (nF U))), (h3, .inl (cZ, 64, .inl (nF B))), (g0, .inr (3, [.ref g1])), (g1, .inl (cI, 4, .inl (nF G)))]) (wr := [(w0, .inr (4, [.ref h0, .ref g0, .ref a0, .ref d0, .ref k0])), (h0, .inr (2, [.ref h1, .ref h2, .ref h3])), (h1, .inl (cI, 64, .inl (nF T))), (h2, .inl (cI, 64, .inl (nF U))), (h3, .inl (cZ, 64, .inl (nF B)))]) (ci := 3) (q0 := 0) (As := [.int (nI (T (8 * b + a))), .int (nI 1)]) (rest := []) ⟨hx, hb, hml, hown, hts⟩ (c_X3_widthFor l D cI cZ tt H.size g0 g1 G (T (8 * b + a)) 1 (by first | assumption | omega) (by first | assumption | omega) (by first | assumption | omega)) (cwV 2 hts gX4_wanted_X3_widthFor rfl rfl rfl (by decide +kernel) ⟨Nat.le_of_ble_eq_true rfl, Nat.le_of_ble_eq_true rfl⟩) hP hK hD hS hA hG rfl rfl [5, 6] [0, 1, 2, 3, 4] [0, 1, 2, 3, 4, 5, 6] (by decide) rfl rfl (by decide) (by decide) (by decide) (fun _ => rfl) hl.1 rfl rfl (Nat.le_of_ble_eq_true rfl) ⟨Nat.zero_le _, Nat.zero_le _⟩ dX4_wanted_36 (fun r u H locs hp hP hD hS => ?_)
        obtain rfl := hp
        have hP : va_P D vwCl [(w0, .inr (4, [.ref h0, .ref g0, .ref a0, .ref d0, .ref k0])), (h0, .inr (2, [.ref h1, .ref h2, .ref h3])), (h1, .inl (cI, 64, .inl (nF T))), (h2, .inl (cI, 64, .inl (nF U))), (h3, .inl (cZ, 64, .inl (nF B))), (g0, .inr (3, [.ref g1])), (g1, .inl (cI, 4, .inl (nF G)))] H := hP
        have hD : va_D A [(w0, .inr (4, [.ref h0, .ref g0, .ref a0, .ref d0, .ref k0])), (h0, .inr (2, [.ref h1, .ref h2, .ref h3])), (h1, .inl (cI, 64, .inl (nF T))), (h2, .inl (cI, 64, .inl (nF U))), (h3, .inl (cZ, 64, .inl (nF B))), (g0, .inr (3, [.ref g1])), (g1, .inl (cI, 4, .inl (nF G)))] := hD
        exact hret _ () _ _ _ _ dX4_wanted_39 (by unfold aWanted; rw [if_pos ⟨okc_of ha8 hb8, Or.inr rfl⟩, ci_n ha8 hb8, show (nI 1).toNatClampNeg = 1 from rfl]) hP hD hS
    · skip
      have nok : ¬ (okc (nI a) (nI b) ∧ okl ly) := fun q => c_2 q.2
      refine lv_bipush (v := (-2)) hx hb dX4_wanted_15 (by decide) ?_
      exact hret _ () _ _ _ _ dX4_wanted_17 (by unfold aWanted; rw [if_neg nok]) hP hD hS
end
