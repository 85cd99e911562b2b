section
-- ===== PART A: goes FIRST, ahead of the names: the tables' words, and 'selects' of the private methods out of them =====
/-- a private method of a class that the tables say can be made, by its rows of tables_1 -/
def lw_okq (q : MethodName × Nat) : Prop := (q.1.cls ≠ "java/lang/invoke/MethodHandle" ∧ q.1.cls ≠ "java/lang/invoke/VarHandle") ∧ Cond.instantiable q.1.cls q.2 ∈ tables_1 ∧ Cond.privateMethod q.1 ∈ tables_1 ∧ Cond.instanceMethod q.1 ∈ tables_1
theorem lw_p0 : lw_okq (⟨"MarqueeDisplay", "layOutStrip", "()V"⟩, 12) := ⟨⟨by decide +kernel, by decide +kernel⟩, List.mem_of_getElem? (i := 11) (by decide +kernel), List.mem_of_getElem? (i := 166) (by decide +kernel), List.mem_of_getElem? (i := 167) (by decide +kernel)⟩
theorem lw_p1 : lw_okq (⟨"MarqueeDisplay$Strip", "addMessage", "(LMarqueeDisplay$Message;LMarqueeDisplay$Font;)V"⟩, 3) := ⟨⟨by decide +kernel, by decide +kernel⟩, List.mem_of_getElem? (i := 92) (by decide +kernel), List.mem_of_getElem? (i := 179) (by decide +kernel), List.mem_of_getElem? (i := 180) (by decide +kernel)⟩
theorem lw_p2 : lw_okq (⟨"MarqueeDisplay$Strip", "addDark", "(I)V"⟩, 3) := ⟨⟨by decide +kernel, by decide +kernel⟩, List.mem_of_getElem? (i := 92) (by decide +kernel), List.mem_of_getElem? (i := 183) (by decide +kernel), List.mem_of_getElem? (i := 184) (by decide +kernel)⟩
theorem lw_p3 : lw_okq (⟨"MarqueeDisplay$Strip", "addColumn", "(II)V"⟩, 3) := ⟨⟨by decide +kernel, by decide +kernel⟩, List.mem_of_getElem? (i := 92) (by decide +kernel), List.mem_of_getElem? (i := 187) (by decide +kernel), List.mem_of_getElem? (i := 188) (by decide +kernel)⟩
theorem lw_p4 : lw_okq (⟨"MarqueeDisplay$Strip", "addGlyph", "(IILMarqueeDisplay$Font;)V"⟩, 3) := ⟨⟨by decide +kernel, by decide +kernel⟩, List.mem_of_getElem? (i := 92) (by decide +kernel), List.mem_of_getElem? (i := 191) (by decide +kernel), List.mem_of_getElem? (i := 192) (by decide +kernel)⟩
theorem lw_p5 : lw_okq (⟨"MarqueeDisplay", "isLed", "(II)Z"⟩, 12) := ⟨⟨by decide +kernel, by decide +kernel⟩, List.mem_of_getElem? (i := 11) (by decide +kernel), List.mem_of_getElem? (i := 299) (by decide +kernel), List.mem_of_getElem? (i := 300) (by decide +kernel)⟩
theorem lw_p6 : lw_okq (⟨"MarqueeDisplay", "isDefective", "(II)Z"⟩, 12) := ⟨⟨by decide +kernel, by decide +kernel⟩, List.mem_of_getElem? (i := 11) (by decide +kernel), List.mem_of_getElem? (i := 303) (by decide +kernel), List.mem_of_getElem? (i := 304) (by decide +kernel)⟩
theorem lw_p7 : lw_okq (⟨"MarqueeDisplay", "defectsOf", "(I)I"⟩, 12) := ⟨⟨by decide +kernel, by decide +kernel⟩, List.mem_of_getElem? (i := 11) (by decide +kernel), List.mem_of_getElem? (i := 307) (by decide +kernel), List.mem_of_getElem? (i := 308) (by decide +kernel)⟩
theorem lw_p8 : lw_okq (⟨"MarqueeDisplay", "countDefects", "()I"⟩, 12) := ⟨⟨by decide +kernel, by decide +kernel⟩, List.mem_of_getElem? (i := 11) (by decide +kernel), List.mem_of_getElem? (i := 311) (by decide +kernel), List.mem_of_getElem? (i := 312) (by decide +kernel)⟩
theorem lw_p9 : lw_okq (⟨"MarqueeDisplay", "litRows", "(II)I"⟩, 12) := ⟨⟨by decide +kernel, by decide +kernel⟩, List.mem_of_getElem? (i := 11) (by decide +kernel), List.mem_of_getElem? (i := 352) (by decide +kernel), List.mem_of_getElem? (i := 353) (by decide +kernel)⟩
theorem lw_p10 : lw_okq (⟨"MarqueeDisplay", "loadFrom", "(I)I"⟩, 12) := ⟨⟨by decide +kernel, by decide +kernel⟩, List.mem_of_getElem? (i := 11) (by decide +kernel), List.mem_of_getElem? (i := 372) (by decide +kernel), List.mem_of_getElem? (i := 373) (by decide +kernel)⟩
theorem lw_p11 : lw_okq (⟨"MarqueeDisplay", "heaviestOffset", "()I"⟩, 12) := ⟨⟨by decide +kernel, by decide +kernel⟩, List.mem_of_getElem? (i := 11) (by decide +kernel), List.mem_of_getElem? (i := 384) (by decide +kernel), List.mem_of_getElem? (i := 385) (by decide +kernel)⟩
theorem lw_p12 : lw_okq (⟨"MarqueeDisplay", "damageWith", "(I)I"⟩, 12) := ⟨⟨by decide +kernel, by decide +kernel⟩, List.mem_of_getElem? (i := 11) (by decide +kernel), List.mem_of_getElem? (i := 396) (by decide +kernel), List.mem_of_getElem? (i := 397) (by decide +kernel)⟩
theorem lw_p13 : lw_okq (⟨"MarqueeDisplayModel", "settles", "()I"⟩, 19) := ⟨⟨by decide +kernel, by decide +kernel⟩, List.mem_of_getElem? (i := 406) (by decide +kernel), List.mem_of_getElem? (i := 477) (by decide +kernel), List.mem_of_getElem? (i := 478) (by decide +kernel)⟩
theorem lw_p14 : lw_okq (⟨"MarqueeDisplayModel", "all", "()I"⟩, 19) := ⟨⟨by decide +kernel, by decide +kernel⟩, List.mem_of_getElem? (i := 406) (by decide +kernel), List.mem_of_getElem? (i := 481) (by decide +kernel), List.mem_of_getElem? (i := 482) (by decide +kernel)⟩
theorem lw_p15 : lw_okq (⟨"MarqueeDisplayModel", "startOf", "(I)I"⟩, 19) := ⟨⟨by decide +kernel, by decide +kernel⟩, List.mem_of_getElem? (i := 406) (by decide +kernel), List.mem_of_getElem? (i := 485) (by decide +kernel), List.mem_of_getElem? (i := 486) (by decide +kernel)⟩
def lw_privs_1 : List (MethodName × Nat) := [(⟨"MarqueeDisplay", "layOutStrip", "()V"⟩, 12), (⟨"MarqueeDisplay$Strip", "addMessage", "(LMarqueeDisplay$Message;LMarqueeDisplay$Font;)V"⟩, 3), (⟨"MarqueeDisplay$Strip", "addDark", "(I)V"⟩, 3), (⟨"MarqueeDisplay$Strip", "addColumn", "(II)V"⟩, 3), (⟨"MarqueeDisplay$Strip", "addGlyph", "(IILMarqueeDisplay$Font;)V"⟩, 3), (⟨"MarqueeDisplay", "isLed", "(II)Z"⟩, 12), (⟨"MarqueeDisplay", "isDefective", "(II)Z"⟩, 12), (⟨"MarqueeDisplay", "defectsOf", "(I)I"⟩, 12), (⟨"MarqueeDisplay", "countDefects", "()I"⟩, 12), (⟨"MarqueeDisplay", "litRows", "(II)I"⟩, 12), (⟨"MarqueeDisplay", "loadFrom", "(I)I"⟩, 12), (⟨"MarqueeDisplay", "heaviestOffset", "()I"⟩, 12), (⟨"MarqueeDisplay", "damageWith", "(I)I"⟩, 12), (⟨"MarqueeDisplayModel", "settles", "()I"⟩, 19), (⟨"MarqueeDisplayModel", "all", "()I"⟩, 19), (⟨"MarqueeDisplayModel", "startOf", "(I)I"⟩, 19)]
theorem lw_r1 : ∀ q ∈ lw_privs_1, lw_okq q := List.forall_mem_cons.mpr ⟨lw_p0, List.forall_mem_cons.mpr ⟨lw_p1, List.forall_mem_cons.mpr ⟨lw_p2, List.forall_mem_cons.mpr ⟨lw_p3, List.forall_mem_cons.mpr ⟨lw_p4, List.forall_mem_cons.mpr ⟨lw_p5, List.forall_mem_cons.mpr ⟨lw_p6, List.forall_mem_cons.mpr ⟨lw_p7, List.forall_mem_cons.mpr ⟨lw_p8, List.forall_mem_cons.mpr ⟨lw_p9, List.forall_mem_cons.mpr ⟨lw_p10, List.forall_mem_cons.mpr ⟨lw_p11, List.forall_mem_cons.mpr ⟨lw_p12, List.forall_mem_cons.mpr ⟨lw_p13, List.forall_mem_cons.mpr ⟨lw_p14, List.forall_mem_cons.mpr ⟨lw_p15, fun _ h => absurd h List.not_mem_nil⟩⟩⟩⟩⟩⟩⟩⟩⟩⟩⟩⟩⟩⟩⟩⟩
theorem lw_p16 : lw_okq (⟨"MarqueeDisplayModel", "widthOf", "(I)I"⟩, 19) := ⟨⟨by decide +kernel, by decide +kernel⟩, List.mem_of_getElem? (i := 406) (by decide +kernel), List.mem_of_getElem? (i := 489) (by decide +kernel), List.mem_of_getElem? (i := 490) (by decide +kernel)⟩
theorem lw_p17 : lw_okq (⟨"MarqueeDisplayModel", "copies", "(II)V"⟩, 19) := ⟨⟨by decide +kernel, by decide +kernel⟩, List.mem_of_getElem? (i := 406) (by decide +kernel), List.mem_of_getElem? (i := 513) (by decide +kernel), List.mem_of_getElem? (i := 514) (by decide +kernel)⟩
theorem lw_p18 : lw_okq (⟨"MarqueeDisplayModel", "isMessage", "(I)Z"⟩, 19) := ⟨⟨by decide +kernel, by decide +kernel⟩, List.mem_of_getElem? (i := 406) (by decide +kernel), List.mem_of_getElem? (i := 521) (by decide +kernel), List.mem_of_getElem? (i := 522) (by decide +kernel)⟩
theorem lw_p19 : lw_okq (⟨"MarqueeDisplayModel", "draws", "()V"⟩, 19) := ⟨⟨by decide +kernel, by decide +kernel⟩, List.mem_of_getElem? (i := 406) (by decide +kernel), List.mem_of_getElem? (i := 588) (by decide +kernel), List.mem_of_getElem? (i := 589) (by decide +kernel)⟩
theorem lw_p20 : lw_okq (⟨"MarqueeDisplayModel", "dark", "()V"⟩, 19) := ⟨⟨by decide +kernel, by decide +kernel⟩, List.mem_of_getElem? (i := 406) (by decide +kernel), List.mem_of_getElem? (i := 592) (by decide +kernel), List.mem_of_getElem? (i := 593) (by decide +kernel)⟩
theorem lw_p21 : lw_okq (⟨"MarqueeDisplayModel", "active", "(III)I"⟩, 19) := ⟨⟨by decide +kernel, by decide +kernel⟩, List.mem_of_getElem? (i := 406) (by decide +kernel), List.mem_of_getElem? (i := 596) (by decide +kernel), List.mem_of_getElem? (i := 597) (by decide +kernel)⟩
theorem lw_p22 : lw_okq (⟨"MarqueeDisplayModel", "loadAt", "(I)I"⟩, 19) := ⟨⟨by decide +kernel, by decide +kernel⟩, List.mem_of_getElem? (i := 406) (by decide +kernel), List.mem_of_getElem? (i := 604) (by decide +kernel), List.mem_of_getElem? (i := 605) (by decide +kernel)⟩
theorem lw_p23 : lw_okq (⟨"MarqueeDisplayModel", "damageBy", "(I)I"⟩, 19) := ⟨⟨by decide +kernel, by decide +kernel⟩, List.mem_of_getElem? (i := 406) (by decide +kernel), List.mem_of_getElem? (i := 626) (by decide +kernel), List.mem_of_getElem? (i := 627) (by decide +kernel)⟩
def lw_privs_2 : List (MethodName × Nat) := [(⟨"MarqueeDisplayModel", "widthOf", "(I)I"⟩, 19), (⟨"MarqueeDisplayModel", "copies", "(II)V"⟩, 19), (⟨"MarqueeDisplayModel", "isMessage", "(I)Z"⟩, 19), (⟨"MarqueeDisplayModel", "draws", "()V"⟩, 19), (⟨"MarqueeDisplayModel", "dark", "()V"⟩, 19), (⟨"MarqueeDisplayModel", "active", "(III)I"⟩, 19), (⟨"MarqueeDisplayModel", "loadAt", "(I)I"⟩, 19), (⟨"MarqueeDisplayModel", "damageBy", "(I)I"⟩, 19)]
theorem lw_r2 : ∀ q ∈ lw_privs_2, lw_okq q := List.forall_mem_cons.mpr ⟨lw_p16, List.forall_mem_cons.mpr ⟨lw_p17, List.forall_mem_cons.mpr ⟨lw_p18, List.forall_mem_cons.mpr ⟨lw_p19, List.forall_mem_cons.mpr ⟨lw_p20, List.forall_mem_cons.mpr ⟨lw_p21, List.forall_mem_cons.mpr ⟨lw_p22, List.forall_mem_cons.mpr ⟨lw_p23, fun _ h => absurd h List.not_mem_nil⟩⟩⟩⟩⟩⟩⟩⟩
def lw_privs : List (MethodName × Nat) := lw_privs_1 ++ (lw_privs_2)
def lw_tbl : List Cond := k2_sels lw_privs ++ tables_1
theorem lw_privs_ok : ∀ q ∈ lw_privs, lw_okq q := by
  show ∀ q ∈ lw_privs_1 ++ (lw_privs_2), lw_okq q
  exact List.forall_mem_append.mpr ⟨lw_r1, lw_r2⟩
-- ===== end of PART A; then your names; then what follows =====
end
section
/-! ===== BEGIN words of one list among another's, by their places ===== -/
theorem goodIn_r {big : List Cond} (ws : List Cond) (ps : List Nat) (hp : ws = ps.filterMap (fun i => big[i]?)) (h : ws.all goodWord = true) : GoodIn big ws := by
  intro w hw
  have h1 := List.all_eq_true.mp h w hw
  rw [hp] at hw
  obtain ⟨i, -, hi⟩ := List.mem_filterMap.mp hw
  have hm : w ∈ big := by first | exact List.mem_of_getElem? hi | exact List.getElem?_mem hi
  exact ⟨hm, good_of_word h1⟩
theorem goodIn_app {big a b : List Cond} (ha : GoodIn big a) (hb : GoodIn big b) : GoodIn big (a ++ b) := fun w h => (List.mem_append.mp h).elim (ha w) (hb w)
theorem goodIn_ca {big a b : List Cond} {c : Cond} (ha : GoodIn big (c :: a)) (hb : GoodIn big b) : GoodIn big (c :: (a ++ b)) := fun w h => (List.mem_cons.mp h).elim (fun e => ha w (List.mem_cons.mpr (Or.inl e))) (fun h => (List.mem_append.mp h).elim (fun h => ha w (List.mem_cons.mpr (Or.inr h))) (hb w))
theorem goodIn_sub {big ws : List Cond} (hm : ∀ w ∈ ws, w ∈ big) (h : ws.all goodWord = true) : GoodIn big ws := fun w hw => ⟨hm w hw, good_of_word (List.all_eq_true.mp h w hw)⟩
/-! ===== END ===== -/

/-! ===== BEGIN printed: names, fields, word lists, decode rows ===== -/
def RX0 : String := "MarqueeDisplay$Font"
def TX0 : u_T := fun k => match k with
  | 0 => ("MarqueeDisplay$Font", "widths", "[I", true)
  | _ => ("MarqueeDisplay$Font", "dots", "[I", true)
def tyX0 : Nat → FieldType := fun k => match k with
  | 0 => .array .int
  | _ => .array .int
abbrev wsX00 : List Cond := u_ws RX0 TX0 2
theorem nmX0 : ∀ a, a < 2 → ∀ b, b < 2 → a ≠ b → (TX0 a).2.1 ≠ (TX0 b).2.1 := by decide +kernel
theorem tyX0_ok : ∀ k, k < 2 → parseFieldDescriptor (TX0 k).2.2.1 = some (tyX0 k) := by decide +kernel
abbrev cX0_init : ByteArray := prog_2_method_1_code
def yX0_init : MethodName := ⟨RX0, "<init>", "()V"⟩
abbrev cX0_widthOf : ByteArray := prog_2_method_2_code
def yX0_widthOf : MethodName := ⟨RX0, "widthOf", "(I)I"⟩
abbrev cX0_hasColumn : ByteArray := prog_2_method_3_code
def yX0_hasColumn : MethodName := ⟨RX0, "hasColumn", "(II)Z"⟩
abbrev cX0_dotsOf : ByteArray := prog_2_method_4_code
def yX0_dotsOf : MethodName := ⟨RX0, "dotsOf", "(II)I"⟩
abbrev cX0_draw : ByteArray := prog_2_method_5_code
def yX0_draw : MethodName := ⟨RX0, "draw", "(III)V"⟩
abbrev cX0_resize : ByteArray := prog_2_method_6_code
def yX0_resize : MethodName := ⟨RX0, "resize", "(II)V"⟩
def RX1 : String := "MarqueeDisplay$Message"
def TX1 : u_T := fun k => match k with
  | 0 => ("MarqueeDisplay$Message", "text", "LMarqueeDisplay$Text;", true)
  | 1 => ("MarqueeDisplay$Message", "color", "I", false)
  | 2 => ("MarqueeDisplay$Message", "start", "I", false)
  | _ => ("MarqueeDisplay$Message", "width", "I", false)
def tyX1 : Nat → FieldType := fun k => match k with
  | 0 => .object "MarqueeDisplay$Text"
  | 1 => .int
  | 2 => .int
  | _ => .int
abbrev wsX10 : List Cond := u_ws RX1 TX1 4
theorem nmX1 : ∀ a, a < 4 → ∀ b, b < 4 → a ≠ b → (TX1 a).2.1 ≠ (TX1 b).2.1 := by decide +kernel
theorem tyX1_ok : ∀ k, k < 4 → parseFieldDescriptor (TX1 k).2.2.1 = some (tyX1 k) := by decide +kernel
abbrev cX1_init : ByteArray := prog_3_method_1_code
def yX1_init : MethodName := ⟨RX1, "<init>", "()V"⟩
def RX2 : String := "MarqueeDisplay$MessageList"
def TX2 : u_T := fun k => match k with
  | 0 => ("MarqueeDisplay$MessageList", "slots", "[LMarqueeDisplay$Message;", true)
  | _ => ("MarqueeDisplay$MessageList", "count", "I", false)
def tyX2 : Nat → FieldType := fun k => match k with
  | 0 => .array (.object "MarqueeDisplay$Message")
  | _ => .int
abbrev wsX20 : List Cond := u_ws RX2 TX2 2
theorem nmX2 : ∀ a, a < 2 → ∀ b, b < 2 → a ≠ b → (TX2 a).2.1 ≠ (TX2 b).2.1 := by decide +kernel
theorem tyX2_ok : ∀ k, k < 2 → parseFieldDescriptor (TX2 k).2.2.1 = some (tyX2 k) := by decide +kernel
abbrev cX2_init : ByteArray := prog_4_method_1_code
def yX2_init : MethodName := ⟨RX2, "<init>", "()V"⟩
abbrev cX2_find : ByteArray := prog_4_method_2_code
def yX2_find : MethodName := ⟨RX2, "find", "(I)LMarqueeDisplay$Message;"⟩
abbrev cX2_insert : ByteArray := prog_4_method_3_code
def yX2_insert : MethodName := ⟨RX2, "insert", "(ILMarqueeDisplay$Text;I)V"⟩
abbrev cX2_remove : ByteArray := prog_4_method_4_code
def yX2_remove : MethodName := ⟨RX2, "remove", "(I)V"⟩
def RX3 : String := "MarqueeDisplay$Strip"
def TX3 : u_T := fun k => match k with
  | 0 => ("MarqueeDisplay$Strip", "dots", "[I", true)
  | 1 => ("MarqueeDisplay$Strip", "colors", "[I", true)
  | _ => ("MarqueeDisplay$Strip", "length", "I", false)
def tyX3 : Nat → FieldType := fun k => match k with
  | 0 => .array .int
  | 1 => .array .int
  | _ => .int
abbrev wsX30 : List Cond := u_ws RX3 TX3 3
theorem nmX3 : ∀ a, a < 3 → ∀ b, b < 3 → a ≠ b → (TX3 a).2.1 ≠ (TX3 b).2.1 := by decide +kernel
theorem tyX3_ok : ∀ k, k < 3 → parseFieldDescriptor (TX3 k).2.2.1 = some (tyX3 k) := by decide +kernel
abbrev cX3_init : ByteArray := prog_5_method_1_code
def yX3_init : MethodName := ⟨RX3, "<init>", "()V"⟩
abbrev cX3_layOut : ByteArray := prog_5_method_2_code
def yX3_layOut : MethodName := ⟨RX3, "layOut", "(LMarqueeDisplay$MessageList;LMarqueeDisplay$Font;I)V"⟩
abbrev cX3_addMessage : ByteArray := prog_5_method_3_code
def yX3_addMessage : MethodName := ⟨RX3, "addMessage", "(LMarqueeDisplay$Message;LMarqueeDisplay$Font;)V"⟩
abbrev cX3_addGlyph : ByteArray := prog_5_method_4_code
def yX3_addGlyph : MethodName := ⟨RX3, "addGlyph", "(IILMarqueeDisplay$Font;)V"⟩
abbrev cX3_addDark : ByteArray := prog_5_method_5_code
def yX3_addDark : MethodName := ⟨RX3, "addDark", "(I)V"⟩
abbrev cX3_addColumn : ByteArray := prog_5_method_6_code
def yX3_addColumn : MethodName := ⟨RX3, "addColumn", "(II)V"⟩
abbrev cX3_wrap : ByteArray := prog_5_method_7_code
def yX3_wrap : MethodName := ⟨RX3, "wrap", "(I)I"⟩
abbrev cX3_dotsAt : ByteArray := prog_5_method_8_code
def yX3_dotsAt : MethodName := ⟨RX3, "dotsAt", "(I)I"⟩
abbrev cX3_colorAt : ByteArray := prog_5_method_9_code
def yX3_colorAt : MethodName := ⟨RX3, "colorAt", "(I)I"⟩
def RX4 : String := "MarqueeDisplay$Text"
def TX4 : u_T := fun k => match k with
  | 0 => ("MarqueeDisplay$Text", "characters", "[I", true)
  | _ => ("MarqueeDisplay$Text", "length", "I", false)
def tyX4 : Nat → FieldType := fun k => match k with
  | 0 => .array .int
  | _ => .int
abbrev wsX40 : List Cond := u_ws RX4 TX4 2
theorem nmX4 : ∀ a, a < 2 → ∀ b, b < 2 → a ≠ b → (TX4 a).2.1 ≠ (TX4 b).2.1 := by decide +kernel
theorem tyX4_ok : ∀ k, k < 2 → parseFieldDescriptor (TX4 k).2.2.1 = some (tyX4 k) := by decide +kernel
abbrev cX4_init : ByteArray := prog_6_method_1_code
def yX4_init : MethodName := ⟨RX4, "<init>", "()V"⟩
abbrev cX4_add : ByteArray := prog_6_method_2_code
def yX4_add : MethodName := ⟨RX4, "add", "(I)V"⟩
abbrev cX4_empty : ByteArray := prog_6_method_3_code
def yX4_empty : MethodName := ⟨RX4, "empty", "()V"⟩
abbrev cX4_copyFrom : ByteArray := prog_6_method_4_code
def yX4_copyFrom : MethodName := ⟨RX4, "copyFrom", "(LMarqueeDisplay$Text;)V"⟩
def RX5 : String := "MarqueeDisplay"
def TX5 : u_T := fun k => match k with
  | 0 => ("MarqueeDisplay", "font", "LMarqueeDisplay$Font;", true)
  | 1 => ("MarqueeDisplay", "buffer", "LMarqueeDisplay$Text;", true)
  | 2 => ("MarqueeDisplay", "messages", "LMarqueeDisplay$MessageList;", true)
  | 3 => ("MarqueeDisplay", "strip", "LMarqueeDisplay$Strip;", true)
  | 4 => ("MarqueeDisplay", "defects", "[I", true)
  | 5 => ("MarqueeDisplay", "columns", "I", false)
  | 6 => ("MarqueeDisplay", "gap", "I", false)
  | 7 => ("MarqueeDisplay", "speed", "I", false)
  | 8 => ("MarqueeDisplay", "shift", "I", false)
  | 9 => ("MarqueeDisplay", "budget", "I", false)
  | 10 => ("MarqueeDisplay", "offset", "I", false)
  | _ => ("MarqueeDisplay", "counter", "I", false)
def tyX5 : Nat → FieldType := fun k => match k with
  | 0 => .object "MarqueeDisplay$Font"
  | 1 => .object "MarqueeDisplay$Text"
  | 2 => .object "MarqueeDisplay$MessageList"
  | 3 => .object "MarqueeDisplay$Strip"
  | 4 => .array .int
  | 5 => .int
  | 6 => .int
  | 7 => .int
  | 8 => .int
  | 9 => .int
  | 10 => .int
  | _ => .int
abbrev wsX50 : List Cond := u_ws RX5 TX5 12
theorem nmX5 : ∀ a, a < 12 → ∀ b, b < 12 → a ≠ b → (TX5 a).2.1 ≠ (TX5 b).2.1 := by decide +kernel
theorem tyX5_ok : ∀ k, k < 12 → parseFieldDescriptor (TX5 k).2.2.1 = some (tyX5 k) := by decide +kernel
abbrev cX5_init : ByteArray := prog_1_method_1_code
def yX5_init : MethodName := ⟨RX5, "<init>", "()V"⟩
abbrev cX5_setGlyphWidth : ByteArray := prog_1_method_2_code
def yX5_setGlyphWidth : MethodName := ⟨RX5, "setGlyphWidth", "(II)I"⟩
abbrev cX5_setGlyphColumn : ByteArray := prog_1_method_3_code
def yX5_setGlyphColumn : MethodName := ⟨RX5, "setGlyphColumn", "(III)I"⟩
abbrev cX5_glyphColumn : ByteArray := prog_1_method_4_code
def yX5_glyphColumn : MethodName := ⟨RX5, "glyphColumn", "(II)I"⟩
abbrev cX5_append : ByteArray := prog_1_method_5_code
def yX5_append : MethodName := ⟨RX5, "append", "(I)I"⟩
abbrev cX5_clearText : ByteArray := prog_1_method_6_code
def yX5_clearText : MethodName := ⟨RX5, "clearText", "()I"⟩
abbrev cX5_insertMessage : ByteArray := prog_1_method_7_code
def yX5_insertMessage : MethodName := ⟨RX5, "insertMessage", "(II)I"⟩
abbrev cX5_removeMessage : ByteArray := prog_1_method_8_code
def yX5_removeMessage : MethodName := ⟨RX5, "removeMessage", "(I)I"⟩
abbrev cX5_setColor : ByteArray := prog_1_method_9_code
def yX5_setColor : MethodName := ⟨RX5, "setColor", "(II)I"⟩
abbrev cX5_messageWidth : ByteArray := prog_1_method_10_code
def yX5_messageWidth : MethodName := ⟨RX5, "messageWidth", "(I)I"⟩
abbrev cX5_messageStart : ByteArray := prog_1_method_11_code
def yX5_messageStart : MethodName := ⟨RX5, "messageStart", "(I)I"⟩
abbrev cX5_setColumns : ByteArray := prog_1_method_12_code
def yX5_setColumns : MethodName := ⟨RX5, "setColumns", "(I)I"⟩
abbrev cX5_setGap : ByteArray := prog_1_method_13_code
def yX5_setGap : MethodName := ⟨RX5, "setGap", "(I)I"⟩
abbrev cX5_setSpeed : ByteArray := prog_1_method_14_code
def yX5_setSpeed : MethodName := ⟨RX5, "setSpeed", "(I)I"⟩
abbrev cX5_setShift : ByteArray := prog_1_method_15_code
def yX5_setShift : MethodName := ⟨RX5, "setShift", "(I)I"⟩
abbrev cX5_setBudget : ByteArray := prog_1_method_16_code
def yX5_setBudget : MethodName := ⟨RX5, "setBudget", "(I)I"⟩
abbrev cX5_setDefective : ByteArray := prog_1_method_17_code
def yX5_setDefective : MethodName := ⟨RX5, "setDefective", "(IIZ)I"⟩
abbrev cX5_tick : ByteArray := prog_1_method_18_code
def yX5_tick : MethodName := ⟨RX5, "tick", "(I)I"⟩
abbrev cX5_offset : ByteArray := prog_1_method_19_code
def yX5_offset : MethodName := ⟨RX5, "offset", "()I"⟩
abbrev cX5_stripLength : ByteArray := prog_1_method_20_code
def yX5_stripLength : MethodName := ⟨RX5, "stripLength", "()I"⟩
abbrev cX5_period : ByteArray := prog_1_method_21_code
def yX5_period : MethodName := ⟨RX5, "period", "()I"⟩
abbrev cX5_ticksUntilWhole : ByteArray := prog_1_method_22_code
def yX5_ticksUntilWhole : MethodName := ⟨RX5, "ticksUntilWhole", "(I)I"⟩
abbrev cX5_pixel : ByteArray := prog_1_method_23_code
def yX5_pixel : MethodName := ⟨RX5, "pixel", "(II)I"⟩
abbrev cX5_load : ByteArray := prog_1_method_24_code
def yX5_load : MethodName := ⟨RX5, "load", "()I"⟩
abbrev cX5_brightness : ByteArray := prog_1_method_25_code
def yX5_brightness : MethodName := ⟨RX5, "brightness", "()I"⟩
abbrev cX5_peakLoad : ByteArray := prog_1_method_26_code
def yX5_peakLoad : MethodName := ⟨RX5, "peakLoad", "()I"⟩
abbrev cX5_peakOffset : ByteArray := prog_1_method_27_code
def yX5_peakOffset : MethodName := ⟨RX5, "peakOffset", "()I"⟩
abbrev cX5_damage : ByteArray := prog_1_method_28_code
def yX5_damage : MethodName := ⟨RX5, "damage", "(I)I"⟩
abbrev cX5_adoptBestShift : ByteArray := prog_1_method_29_code
def yX5_adoptBestShift : MethodName := ⟨RX5, "adoptBestShift", "()I"⟩
abbrev cX5_isWithin : ByteArray := prog_1_method_30_code
def yX5_isWithin : MethodName := ⟨RX5, "isWithin", "(III)Z"⟩
abbrev cX5_isCharacter : ByteArray := prog_1_method_31_code
def yX5_isCharacter : MethodName := ⟨RX5, "isCharacter", "(I)Z"⟩
abbrev cX5_isColor : ByteArray := prog_1_method_32_code
def yX5_isColor : MethodName := ⟨RX5, "isColor", "(I)Z"⟩
abbrev cX5_isShift : ByteArray := prog_1_method_33_code
def yX5_isShift : MethodName := ⟨RX5, "isShift", "(I)Z"⟩
abbrev cX5_isLed : ByteArray := prog_1_method_34_code
def yX5_isLed : MethodName := ⟨RX5, "isLed", "(II)Z"⟩
abbrev cX5_layOutStrip : ByteArray := prog_1_method_35_code
def yX5_layOutStrip : MethodName := ⟨RX5, "layOutStrip", "()V"⟩
abbrev cX5_defectsOf : ByteArray := prog_1_method_36_code
def yX5_defectsOf : MethodName := ⟨RX5, "defectsOf", "(I)I"⟩
abbrev cX5_isDefective : ByteArray := prog_1_method_37_code
def yX5_isDefective : MethodName := ⟨RX5, "isDefective", "(II)Z"⟩
abbrev cX5_countDefects : ByteArray := prog_1_method_38_code
def yX5_countDefects : MethodName := ⟨RX5, "countDefects", "()I"⟩
abbrev cX5_shifted : ByteArray := prog_1_method_39_code
def yX5_shifted : MethodName := ⟨RX5, "shifted", "(II)I"⟩
abbrev cX5_litRows : ByteArray := prog_1_method_40_code
def yX5_litRows : MethodName := ⟨RX5, "litRows", "(II)I"⟩
abbrev cX5_loadFrom : ByteArray := prog_1_method_41_code
def yX5_loadFrom : MethodName := ⟨RX5, "loadFrom", "(I)I"⟩
abbrev cX5_heaviestOffset : ByteArray := prog_1_method_42_code
def yX5_heaviestOffset : MethodName := ⟨RX5, "heaviestOffset", "()I"⟩
abbrev cX5_damageWith : ByteArray := prog_1_method_43_code
def yX5_damageWith : MethodName := ⟨RX5, "damageWith", "(I)I"⟩
def RX6 : String := "MarqueeDisplayModel"
def TX6 : u_T := fun k => match k with
  | 0 => ("MarqueeDisplayModel", "columns", "I", false)
  | 1 => ("MarqueeDisplayModel", "gap", "I", false)
  | 2 => ("MarqueeDisplayModel", "speed", "I", false)
  | 3 => ("MarqueeDisplayModel", "shift", "I", false)
  | 4 => ("MarqueeDisplayModel", "budget", "I", false)
  | 5 => ("MarqueeDisplayModel", "offset", "I", false)
  | 6 => ("MarqueeDisplayModel", "counter", "I", false)
  | 7 => ("MarqueeDisplayModel", "width", "[I", true)
  | 8 => ("MarqueeDisplayModel", "glyph", "[I", true)
  | 9 => ("MarqueeDisplayModel", "defective", "[I", true)
  | 10 => ("MarqueeDisplayModel", "length", "I", false)
  | 11 => ("MarqueeDisplayModel", "text", "[I", true)
  | 12 => ("MarqueeDisplayModel", "messages", "I", false)
  | 13 => ("MarqueeDisplayModel", "size", "[I", true)
  | 14 => ("MarqueeDisplayModel", "color", "[I", true)
  | 15 => ("MarqueeDisplayModel", "letter", "[I", true)
  | 16 => ("MarqueeDisplayModel", "strip", "I", false)
  | 17 => ("MarqueeDisplayModel", "dots", "[I", true)
  | _ => ("MarqueeDisplayModel", "paint", "[I", true)
def tyX6 : Nat → FieldType := fun k => match k with
  | 0 => .int
  | 1 => .int
  | 2 => .int
  | 3 => .int
  | 4 => .int
  | 5 => .int
  | 6 => .int
  | 7 => .array .int
  | 8 => .array .int
  | 9 => .array .int
  | 10 => .int
  | 11 => .array .int
  | 12 => .int
  | 13 => .array .int
  | 14 => .array .int
  | 15 => .array .int
  | 16 => .int
  | 17 => .array .int
  | _ => .array .int
abbrev wsX60 : List Cond := u_ws RX6 TX6 19
theorem nmX6 : ∀ a, a < 19 → ∀ b, b < 19 → a ≠ b → (TX6 a).2.1 ≠ (TX6 b).2.1 := by decide +kernel
theorem tyX6_ok : ∀ k, k < 19 → parseFieldDescriptor (TX6 k).2.2.1 = some (tyX6 k) := by decide +kernel
abbrev cX6_init : ByteArray := prog_8_method_1_code
def yX6_init : MethodName := ⟨RX6, "<init>", "()V"⟩
abbrev cX6_in : ByteArray := prog_8_method_2_code
def yX6_in : MethodName := ⟨RX6, "in", "(III)Z"⟩
abbrev cX6_has : ByteArray := prog_8_method_3_code
def yX6_has : MethodName := ⟨RX6, "has", "(II)Z"⟩
abbrev cX6_widthOf : ByteArray := prog_8_method_4_code
def yX6_widthOf : MethodName := ⟨RX6, "widthOf", "(I)I"⟩
abbrev cX6_startOf : ByteArray := prog_8_method_5_code
def yX6_startOf : MethodName := ⟨RX6, "startOf", "(I)I"⟩
abbrev cX6_all : ByteArray := prog_8_method_6_code
def yX6_all : MethodName := ⟨RX6, "all", "()I"⟩
abbrev cX6_settles : ByteArray := prog_8_method_7_code
def yX6_settles : MethodName := ⟨RX6, "settles", "()I"⟩
abbrev cX6_dark : ByteArray := prog_8_method_8_code
def yX6_dark : MethodName := ⟨RX6, "dark", "()V"⟩
abbrev cX6_draws : ByteArray := prog_8_method_9_code
def yX6_draws : MethodName := ⟨RX6, "draws", "()V"⟩
abbrev cX6_setGlyphWidth : ByteArray := prog_8_method_10_code
def yX6_setGlyphWidth : MethodName := ⟨RX6, "setGlyphWidth", "(II)I"⟩
abbrev cX6_setGlyphColumn : ByteArray := prog_8_method_11_code
def yX6_setGlyphColumn : MethodName := ⟨RX6, "setGlyphColumn", "(III)I"⟩
abbrev cX6_glyphColumn : ByteArray := prog_8_method_12_code
def yX6_glyphColumn : MethodName := ⟨RX6, "glyphColumn", "(II)I"⟩
abbrev cX6_append : ByteArray := prog_8_method_13_code
def yX6_append : MethodName := ⟨RX6, "append", "(I)I"⟩
abbrev cX6_clearText : ByteArray := prog_8_method_14_code
def yX6_clearText : MethodName := ⟨RX6, "clearText", "()I"⟩
abbrev cX6_copies : ByteArray := prog_8_method_15_code
def yX6_copies : MethodName := ⟨RX6, "copies", "(II)V"⟩
abbrev cX6_insertMessage : ByteArray := prog_8_method_16_code
def yX6_insertMessage : MethodName := ⟨RX6, "insertMessage", "(II)I"⟩
abbrev cX6_isMessage : ByteArray := prog_8_method_17_code
def yX6_isMessage : MethodName := ⟨RX6, "isMessage", "(I)Z"⟩
abbrev cX6_removeMessage : ByteArray := prog_8_method_18_code
def yX6_removeMessage : MethodName := ⟨RX6, "removeMessage", "(I)I"⟩
abbrev cX6_setColor : ByteArray := prog_8_method_19_code
def yX6_setColor : MethodName := ⟨RX6, "setColor", "(II)I"⟩
abbrev cX6_messageWidth : ByteArray := prog_8_method_20_code
def yX6_messageWidth : MethodName := ⟨RX6, "messageWidth", "(I)I"⟩
abbrev cX6_messageStart : ByteArray := prog_8_method_21_code
def yX6_messageStart : MethodName := ⟨RX6, "messageStart", "(I)I"⟩
abbrev cX6_setColumns : ByteArray := prog_8_method_22_code
def yX6_setColumns : MethodName := ⟨RX6, "setColumns", "(I)I"⟩
abbrev cX6_setGap : ByteArray := prog_8_method_23_code
def yX6_setGap : MethodName := ⟨RX6, "setGap", "(I)I"⟩
abbrev cX6_setSpeed : ByteArray := prog_8_method_24_code
def yX6_setSpeed : MethodName := ⟨RX6, "setSpeed", "(I)I"⟩
abbrev cX6_setShift : ByteArray := prog_8_method_25_code
def yX6_setShift : MethodName := ⟨RX6, "setShift", "(I)I"⟩
abbrev cX6_setBudget : ByteArray := prog_8_method_26_code
def yX6_setBudget : MethodName := ⟨RX6, "setBudget", "(I)I"⟩
abbrev cX6_setDefective : ByteArray := prog_8_method_27_code
def yX6_setDefective : MethodName := ⟨RX6, "setDefective", "(IIZ)I"⟩
abbrev cX6_tick : ByteArray := prog_8_method_28_code
def yX6_tick : MethodName := ⟨RX6, "tick", "(I)I"⟩
abbrev cX6_offset : ByteArray := prog_8_method_29_code
def yX6_offset : MethodName := ⟨RX6, "offset", "()I"⟩
abbrev cX6_stripLength : ByteArray := prog_8_method_30_code
def yX6_stripLength : MethodName := ⟨RX6, "stripLength", "()I"⟩
abbrev cX6_period : ByteArray := prog_8_method_31_code
def yX6_period : MethodName := ⟨RX6, "period", "()I"⟩
abbrev cX6_ticksUntilWhole : ByteArray := prog_8_method_32_code
def yX6_ticksUntilWhole : MethodName := ⟨RX6, "ticksUntilWhole", "(I)I"⟩
abbrev cX6_active : ByteArray := prog_8_method_33_code
def yX6_active : MethodName := ⟨RX6, "active", "(III)I"⟩
abbrev cX6_loadAt : ByteArray := prog_8_method_34_code
def yX6_loadAt : MethodName := ⟨RX6, "loadAt", "(I)I"⟩
abbrev cX6_pixel : ByteArray := prog_8_method_35_code
def yX6_pixel : MethodName := ⟨RX6, "pixel", "(II)I"⟩
abbrev cX6_load : ByteArray := prog_8_method_36_code
def yX6_load : MethodName := ⟨RX6, "load", "()I"⟩
abbrev cX6_brightness : ByteArray := prog_8_method_37_code
def yX6_brightness : MethodName := ⟨RX6, "brightness", "()I"⟩
abbrev cX6_peakLoad : ByteArray := prog_8_method_38_code
def yX6_peakLoad : MethodName := ⟨RX6, "peakLoad", "()I"⟩
abbrev cX6_peakOffset : ByteArray := prog_8_method_39_code
def yX6_peakOffset : MethodName := ⟨RX6, "peakOffset", "()I"⟩
abbrev cX6_damageBy : ByteArray := prog_8_method_40_code
def yX6_damageBy : MethodName := ⟨RX6, "damageBy", "(I)I"⟩
abbrev cX6_damage : ByteArray := prog_8_method_41_code
def yX6_damage : MethodName := ⟨RX6, "damage", "(I)I"⟩
abbrev cX6_adoptBestShift : ByteArray := prog_8_method_42_code
def yX6_adoptBestShift : MethodName := ⟨RX6, "adoptBestShift", "()I"⟩
def RJ6 : String := "java/lang/Integer"
def TJ6 : u_T := fun k => match k with
  | _ => ("", "", "", false)
def tyJ6 : Nat → FieldType := fun k => match k with
  | _ => .int
abbrev wsJ60 : List Cond := u_ws RJ6 TJ6 0
theorem nmJ6 : ∀ a, a < 0 → ∀ b, b < 0 → a ≠ b → (TJ6 a).2.1 ≠ (TJ6 b).2.1 := by decide +kernel
theorem tyJ6_ok : ∀ k, k < 0 → parseFieldDescriptor (TJ6 k).2.2.1 = some (tyJ6 k) := by decide +kernel
abbrev cJ6_bitCount_0f7a4 : ByteArray := prog_9_method_49_code
def yJ6_bitCount_0f7a4 : MethodName := ⟨RJ6, "bitCount", "(I)I"⟩
def RJ9 : String := "java/lang/Math"
def TJ9 : u_T := fun k => match k with
  | _ => ("", "", "", false)
def tyJ9 : Nat → FieldType := fun k => match k with
  | _ => .int
abbrev wsJ90 : List Cond := u_ws RJ9 TJ9 0
theorem nmJ9 : ∀ a, a < 0 → ∀ b, b < 0 → a ≠ b → (TJ9 a).2.1 ≠ (TJ9 b).2.1 := by decide +kernel
theorem tyJ9_ok : ∀ k, k < 0 → parseFieldDescriptor (TJ9 k).2.2.1 = some (tyJ9 k) := by decide +kernel
abbrev cJ9_floorMod_7cf53 : ByteArray := prog_10_method_50_code
def yJ9_floorMod_7cf53 : MethodName := ⟨RJ9, "floorMod", "(II)I"⟩
def RL : String := "MarqueeDisplayLaw"
abbrev cL_law : ByteArray := code
def yL_law : MethodName := ⟨RL, "law", "([I)Z"⟩
def wsX0_init : List Cond := .code yX0_init cX0_init 4 none :: ([.methodLink RX0 3 objectInit, .instanceMethod objectInit, .code objectInit ⟨#[0xb1]⟩ 1 none, .arrayClass .int, .fieldLink RX0 9 "MarqueeDisplay$Font" "widths" "[I", .fieldLink RX0 15 "MarqueeDisplay$Font" "dots" "[I"] ++ wsX00)
def wsX0_widthOf : List Cond := .code yX0_widthOf cX0_widthOf 2 (some .int) :: ([.fieldLink RX0 9 "MarqueeDisplay$Font" "widths" "[I"] ++ wsX00)
def wsX5_isWithin : List Cond := .code yX5_isWithin cX5_isWithin 3 (some .boolean) :: ([])
def wsX0_hasColumn : List Cond := .code yX0_hasColumn cX0_hasColumn 3 (some .boolean) :: ([.methodLink RX0 18 yX0_widthOf, .instanceMethod yX0_widthOf, .selects RX0 yX0_widthOf yX0_widthOf, .initialized RX0, .code yX0_widthOf cX0_widthOf 2 (some .int), .fieldLink RX0 9 "MarqueeDisplay$Font" "widths" "[I", .static yX5_isWithin, .initialized RX5, .code yX5_isWithin cX5_isWithin 3 (some .boolean)] ++ wsX00)
def wsX0_dotsOf : List Cond := .code yX0_dotsOf cX0_dotsOf 3 (some .int) :: ([.fieldLink RX0 15 "MarqueeDisplay$Font" "dots" "[I"] ++ wsX00)
def wsX0_draw : List Cond := .code yX0_draw cX0_draw 4 none :: ([.fieldLink RX0 15 "MarqueeDisplay$Font" "dots" "[I", .methodLink RX0 26 yX0_hasColumn, .instanceMethod yX0_hasColumn, .selects RX0 yX0_hasColumn yX0_hasColumn, .initialized RX0, .code yX0_hasColumn cX0_hasColumn 3 (some .boolean), .methodLink RX0 18 yX0_widthOf, .instanceMethod yX0_widthOf, .selects RX0 yX0_widthOf yX0_widthOf, .code yX0_widthOf cX0_widthOf 2 (some .int), .fieldLink RX0 9 "MarqueeDisplay$Font" "widths" "[I", .static yX5_isWithin, .initialized RX5, .code yX5_isWithin cX5_isWithin 3 (some .boolean)] ++ wsX00)
def wsX5_isCharacter : List Cond := .code yX5_isCharacter cX5_isCharacter 1 (some .boolean) :: ([.methodLink RX5 67 yX5_isWithin, .static yX5_isWithin, .initialized RX5, .code yX5_isWithin cX5_isWithin 3 (some .boolean)])
def wsX0_resize : List Cond := .code yX0_resize cX0_resize 4 none :: ([.fieldLink RX0 15 "MarqueeDisplay$Font" "dots" "[I", .fieldLink RX0 9 "MarqueeDisplay$Font" "widths" "[I", .static yX5_isCharacter, .initialized RX5, .code yX5_isCharacter cX5_isCharacter 1 (some .boolean), .methodLink RX5 67 yX5_isWithin, .static yX5_isWithin, .code yX5_isWithin cX5_isWithin 3 (some .boolean)] ++ wsX00)
def wsX4_init : List Cond := .code yX4_init cX4_init 1 none :: ([.methodLink RX4 3 objectInit, .instanceMethod objectInit, .code objectInit ⟨#[0xb1]⟩ 1 none, .arrayClass .int, .fieldLink RX4 9 "MarqueeDisplay$Text" "characters" "[I"] ++ wsX40)
def wsX1_init : List Cond := .code yX1_init cX1_init 1 none :: ([.methodLink RX1 1 objectInit, .instanceMethod objectInit, .code objectInit ⟨#[0xb1]⟩ 1 none, .classLink RX1 7 RX4, .instantiable RX4 2, .initialized RX4, .fieldLink RX1 10 "MarqueeDisplay$Message" "text" "LMarqueeDisplay$Text;", .instanceMethod yX4_init, .code yX4_init cX4_init 1 none, .methodLink RX4 3 objectInit, .arrayClass .int, .fieldLink RX4 9 "MarqueeDisplay$Text" "characters" "[I"] ++ wsX40 ++ wsX10)
def wsX2_init : List Cond := .code yX2_init cX2_init 2 none :: ([.methodLink RX2 3 objectInit, .instanceMethod objectInit, .code objectInit ⟨#[0xb1]⟩ 1 none, .classLink RX2 9 RX1, .fieldLink RX2 11 "MarqueeDisplay$MessageList" "slots" "[LMarqueeDisplay$Message;", .instantiable RX1 4, .initialized RX1, .instanceMethod yX1_init, .code yX1_init cX1_init 1 none, .methodLink RX1 1 objectInit, .classLink RX1 7 RX4, .instantiable RX4 2, .initialized RX4, .fieldLink RX1 10 "MarqueeDisplay$Message" "text" "LMarqueeDisplay$Text;", .instanceMethod yX4_init, .code yX4_init cX4_init 1 none, .methodLink RX4 3 objectInit, .arrayClass .int, .fieldLink RX4 9 "MarqueeDisplay$Text" "characters" "[I"] ++ wsX20 ++ wsX10 ++ wsX40)
def wsX2_find : List Cond := .code yX2_find cX2_find 2 (some (.object "MarqueeDisplay$Message")) :: ([.fieldLink RX2 18 "MarqueeDisplay$MessageList" "count" "I", .fieldLink RX2 11 "MarqueeDisplay$MessageList" "slots" "[LMarqueeDisplay$Message;", .static yX5_isWithin, .initialized RX5, .code yX5_isWithin cX5_isWithin 3 (some .boolean)] ++ wsX20)
def wsX4_copyFrom : List Cond := .code yX4_copyFrom cX4_copyFrom 3 none :: ([.fieldLink RX4 9 "MarqueeDisplay$Text" "characters" "[I", .fieldLink RX4 15 "MarqueeDisplay$Text" "length" "I"] ++ wsX40)
def wsX2_insert : List Cond := .code yX2_insert cX2_insert 6 none :: ([.fieldLink RX2 18 "MarqueeDisplay$MessageList" "count" "I", .fieldLink RX2 11 "MarqueeDisplay$MessageList" "slots" "[LMarqueeDisplay$Message;", .static yX5_isWithin, .initialized RX5, .code yX5_isWithin cX5_isWithin 3 (some .boolean), .methodLink RX2 30 yX4_copyFrom, .instanceMethod yX4_copyFrom, .selects RX4 yX4_copyFrom yX4_copyFrom, .initialized RX4, .code yX4_copyFrom cX4_copyFrom 3 none, .fieldLink RX4 9 "MarqueeDisplay$Text" "characters" "[I", .fieldLink RX4 15 "MarqueeDisplay$Text" "length" "I"] ++ wsX20 ++ wsX10 ++ wsX40)
def wsX2_remove : List Cond := .code yX2_remove cX2_remove 4 none :: ([.fieldLink RX2 18 "MarqueeDisplay$MessageList" "count" "I", .fieldLink RX2 11 "MarqueeDisplay$MessageList" "slots" "[LMarqueeDisplay$Message;", .methodLink RX2 39 yX2_find, .instanceMethod yX2_find, .selects RX2 yX2_find yX2_find, .initialized RX2, .code yX2_find cX2_find 2 (some (.object "MarqueeDisplay$Message")), .static yX5_isWithin, .initialized RX5, .code yX5_isWithin cX5_isWithin 3 (some .boolean)] ++ wsX20)
def wsX3_init : List Cond := .code yX3_init cX3_init 1 none :: ([.methodLink RX3 3 objectInit, .instanceMethod objectInit, .code objectInit ⟨#[0xb1]⟩ 1 none, .arrayClass .int, .fieldLink RX3 9 "MarqueeDisplay$Strip" "dots" "[I", .fieldLink RX3 15 "MarqueeDisplay$Strip" "colors" "[I"] ++ wsX30)
def wsX3_addColumn : List Cond := .code yX3_addColumn cX3_addColumn 3 none :: ([.fieldLink RX3 18 "MarqueeDisplay$Strip" "length" "I", .fieldLink RX3 9 "MarqueeDisplay$Strip" "dots" "[I", .fieldLink RX3 15 "MarqueeDisplay$Strip" "colors" "[I"] ++ wsX30)
def wsX3_addDark : List Cond := .code yX3_addDark cX3_addDark 3 none :: ([.methodLink RX3 74 yX3_addColumn, .instanceMethod yX3_addColumn, .selects RX3 yX3_addColumn yX3_addColumn, .initialized RX3, .code yX3_addColumn cX3_addColumn 3 none, .fieldLink RX3 18 "MarqueeDisplay$Strip" "length" "I", .fieldLink RX3 9 "MarqueeDisplay$Strip" "dots" "[I", .fieldLink RX3 15 "MarqueeDisplay$Strip" "colors" "[I"] ++ wsX30)
def wsX3_addGlyph : List Cond := .code yX3_addGlyph cX3_addGlyph 5 none :: ([.methodLink RX3 64 yX0_widthOf, .instanceMethod yX0_widthOf, .selects RX0 yX0_widthOf yX0_widthOf, .initialized RX0, .code yX0_widthOf cX0_widthOf 2 (some .int), .fieldLink RX0 9 "MarqueeDisplay$Font" "widths" "[I", .methodLink RX3 70 yX0_dotsOf, .instanceMethod yX0_dotsOf, .selects RX0 yX0_dotsOf yX0_dotsOf, .code yX0_dotsOf cX0_dotsOf 3 (some .int), .fieldLink RX0 15 "MarqueeDisplay$Font" "dots" "[I", .methodLink RX3 74 yX3_addColumn, .instanceMethod yX3_addColumn, .selects RX3 yX3_addColumn yX3_addColumn, .initialized RX3, .code yX3_addColumn cX3_addColumn 3 none, .fieldLink RX3 18 "MarqueeDisplay$Strip" "length" "I", .fieldLink RX3 9 "MarqueeDisplay$Strip" "dots" "[I", .fieldLink RX3 15 "MarqueeDisplay$Strip" "colors" "[I"] ++ wsX00 ++ wsX30)
def wsX3_addMessage_r1 : List Cond := [Cond.fieldLink RX3 18 "MarqueeDisplay$Strip" "length" "I", Cond.methodLink RX3 35 yX3_addDark, Cond.instanceMethod yX3_addDark, Cond.selects RX3 yX3_addDark yX3_addDark, Cond.initialized RX3, Cond.code yX3_addDark cX3_addDark 3 none, Cond.methodLink RX3 74 yX3_addColumn, Cond.instanceMethod yX3_addColumn, Cond.selects RX3 yX3_addColumn yX3_addColumn, Cond.code yX3_addColumn cX3_addColumn 3 none, Cond.fieldLink RX3 9 "MarqueeDisplay$Strip" "dots" "[I", Cond.fieldLink RX3 15 "MarqueeDisplay$Strip" "colors" "[I", Cond.methodLink RX3 57 yX3_addGlyph, Cond.instanceMethod yX3_addGlyph, Cond.selects RX3 yX3_addGlyph yX3_addGlyph, Cond.code yX3_addGlyph cX3_addGlyph 5 none, Cond.methodLink RX3 64 yX0_widthOf, Cond.instanceMethod yX0_widthOf, Cond.selects RX0 yX0_widthOf yX0_widthOf, Cond.initialized RX0, Cond.code yX0_widthOf cX0_widthOf 2 (some .int), Cond.fieldLink RX0 9 "MarqueeDisplay$Font" "widths" "[I", Cond.methodLink RX3 70 yX0_dotsOf, Cond.instanceMethod yX0_dotsOf]
def wsX3_addMessage_r2 : List Cond := [Cond.selects RX0 yX0_dotsOf yX0_dotsOf, Cond.code yX0_dotsOf cX0_dotsOf 3 (some .int), Cond.fieldLink RX0 15 "MarqueeDisplay$Font" "dots" "[I"]
def wsX3_addMessage : List Cond := .code yX3_addMessage cX3_addMessage 4 none :: ((wsX3_addMessage_r1 ++ wsX3_addMessage_r2) ++ wsX30 ++ wsX10 ++ wsX40 ++ wsX00)
def wsX3_layOut_r1 : List Cond := [Cond.fieldLink RX3 18 "MarqueeDisplay$Strip" "length" "I", Cond.methodLink RX3 27 yX2_find, Cond.instanceMethod yX2_find, Cond.selects RX2 yX2_find yX2_find, Cond.initialized RX2, Cond.code yX2_find cX2_find 2 (some (.object "MarqueeDisplay$Message")), Cond.fieldLink RX2 18 "MarqueeDisplay$MessageList" "count" "I", Cond.fieldLink RX2 11 "MarqueeDisplay$MessageList" "slots" "[LMarqueeDisplay$Message;", Cond.static yX5_isWithin, Cond.initialized RX5, Cond.code yX5_isWithin cX5_isWithin 3 (some .boolean), Cond.methodLink RX3 31 yX3_addMessage, Cond.instanceMethod yX3_addMessage, Cond.selects RX3 yX3_addMessage yX3_addMessage, Cond.initialized RX3, Cond.code yX3_addMessage cX3_addMessage 4 none, Cond.methodLink RX3 35 yX3_addDark, Cond.instanceMethod yX3_addDark, Cond.selects RX3 yX3_addDark yX3_addDark, Cond.code yX3_addDark cX3_addDark 3 none, Cond.methodLink RX3 74 yX3_addColumn, Cond.instanceMethod yX3_addColumn, Cond.selects RX3 yX3_addColumn yX3_addColumn, Cond.code yX3_addColumn cX3_addColumn 3 none]
def wsX3_layOut_r2 : List Cond := [Cond.fieldLink RX3 9 "MarqueeDisplay$Strip" "dots" "[I", Cond.fieldLink RX3 15 "MarqueeDisplay$Strip" "colors" "[I", Cond.methodLink RX3 57 yX3_addGlyph, Cond.instanceMethod yX3_addGlyph, Cond.selects RX3 yX3_addGlyph yX3_addGlyph, Cond.code yX3_addGlyph cX3_addGlyph 5 none, Cond.methodLink RX3 64 yX0_widthOf, Cond.instanceMethod yX0_widthOf, Cond.selects RX0 yX0_widthOf yX0_widthOf, Cond.initialized RX0, Cond.code yX0_widthOf cX0_widthOf 2 (some .int), Cond.fieldLink RX0 9 "MarqueeDisplay$Font" "widths" "[I", Cond.methodLink RX3 70 yX0_dotsOf, Cond.instanceMethod yX0_dotsOf, Cond.selects RX0 yX0_dotsOf yX0_dotsOf, Cond.code yX0_dotsOf cX0_dotsOf 3 (some .int), Cond.fieldLink RX0 15 "MarqueeDisplay$Font" "dots" "[I"]
def wsX3_layOut : List Cond := .code yX3_layOut cX3_layOut 6 none :: ((wsX3_layOut_r1 ++ wsX3_layOut_r2) ++ wsX30 ++ wsX20 ++ wsX10 ++ wsX40 ++ wsX00)
def wsJ9_floorMod_7cf53 : List Cond := .code yJ9_floorMod_7cf53 cJ9_floorMod_7cf53 3 (some .int) :: ([])
def wsX3_wrap : List Cond := .code yX3_wrap cX3_wrap 2 (some .int) :: ([.fieldLink RX3 18 "MarqueeDisplay$Strip" "length" "I", .methodLink RX3 78 yJ9_floorMod_7cf53, .static yJ9_floorMod_7cf53, .initialized RJ9, .code yJ9_floorMod_7cf53 cJ9_floorMod_7cf53 3 (some .int)] ++ wsX30)
def wsX3_dotsAt : List Cond := .code yX3_dotsAt cX3_dotsAt 2 (some .int) :: ([.fieldLink RX3 18 "MarqueeDisplay$Strip" "length" "I", .fieldLink RX3 9 "MarqueeDisplay$Strip" "dots" "[I", .methodLink RX3 83 yX3_wrap, .instanceMethod yX3_wrap, .selects RX3 yX3_wrap yX3_wrap, .initialized RX3, .code yX3_wrap cX3_wrap 2 (some .int), .methodLink RX3 78 yJ9_floorMod_7cf53, .static yJ9_floorMod_7cf53, .initialized RJ9, .code yJ9_floorMod_7cf53 cJ9_floorMod_7cf53 3 (some .int)] ++ wsX30)
def wsX3_colorAt : List Cond := .code yX3_colorAt cX3_colorAt 2 (some .int) :: ([.fieldLink RX3 18 "MarqueeDisplay$Strip" "length" "I", .fieldLink RX3 15 "MarqueeDisplay$Strip" "colors" "[I", .methodLink RX3 83 yX3_wrap, .instanceMethod yX3_wrap, .selects RX3 yX3_wrap yX3_wrap, .initialized RX3, .code yX3_wrap cX3_wrap 2 (some .int), .methodLink RX3 78 yJ9_floorMod_7cf53, .static yJ9_floorMod_7cf53, .initialized RJ9, .code yJ9_floorMod_7cf53 cJ9_floorMod_7cf53 3 (some .int)] ++ wsX30)
def wsX4_add : List Cond := .code yX4_add cX4_add 2 none :: ([.fieldLink RX4 15 "MarqueeDisplay$Text" "length" "I", .fieldLink RX4 9 "MarqueeDisplay$Text" "characters" "[I"] ++ wsX40)
def wsX4_empty : List Cond := .code yX4_empty cX4_empty 1 none :: ([.fieldLink RX4 15 "MarqueeDisplay$Text" "length" "I"] ++ wsX40)
def wsX5_init_r1 : List Cond := [Cond.methodLink RX5 3 objectInit, Cond.instanceMethod objectInit, Cond.code objectInit ⟨#[0xb1]⟩ 1 none, Cond.classLink RX5 9 RX0, Cond.instantiable RX0 2, Cond.initialized RX0, Cond.fieldLink RX5 12 "MarqueeDisplay" "font" "LMarqueeDisplay$Font;", Cond.classLink RX5 16 RX4, Cond.instantiable RX4 2, Cond.initialized RX4, Cond.fieldLink RX5 19 "MarqueeDisplay" "buffer" "LMarqueeDisplay$Text;", Cond.classLink RX5 23 RX2, Cond.instantiable RX2 2, Cond.initialized RX2, Cond.fieldLink RX5 26 "MarqueeDisplay" "messages" "LMarqueeDisplay$MessageList;", Cond.classLink RX5 30 RX3, Cond.instantiable RX3 3, Cond.initialized RX3, Cond.fieldLink RX5 33 "MarqueeDisplay" "strip" "LMarqueeDisplay$Strip;", Cond.arrayClass .int, Cond.fieldLink RX5 37 "MarqueeDisplay" "defects" "[I", Cond.fieldLink RX5 41 "MarqueeDisplay" "columns" "I", Cond.fieldLink RX5 45 "MarqueeDisplay" "gap" "I", Cond.fieldLink RX5 48 "MarqueeDisplay" "speed" "I"]
def wsX5_init_r2 : List Cond := [Cond.fieldLink RX5 51 "MarqueeDisplay" "shift" "I", Cond.fieldLink RX5 54 "MarqueeDisplay" "budget" "I", Cond.fieldLink RX5 57 "MarqueeDisplay" "offset" "I", Cond.fieldLink RX5 60 "MarqueeDisplay" "counter" "I", Cond.methodLink RX5 11 yX0_init, Cond.instanceMethod yX0_init, Cond.code yX0_init cX0_init 4 none, Cond.methodLink RX0 3 objectInit, Cond.fieldLink RX0 9 "MarqueeDisplay$Font" "widths" "[I", Cond.fieldLink RX0 15 "MarqueeDisplay$Font" "dots" "[I", Cond.instanceMethod yX4_init, Cond.code yX4_init cX4_init 1 none, Cond.methodLink RX4 3 objectInit, Cond.fieldLink RX4 9 "MarqueeDisplay$Text" "characters" "[I", Cond.methodLink RX5 25 yX2_init, Cond.instanceMethod yX2_init, Cond.code yX2_init cX2_init 2 none, Cond.methodLink RX2 3 objectInit, Cond.classLink RX2 9 RX1, Cond.fieldLink RX2 11 "MarqueeDisplay$MessageList" "slots" "[LMarqueeDisplay$Message;", Cond.instantiable RX1 4, Cond.initialized RX1, Cond.instanceMethod yX1_init, Cond.code yX1_init cX1_init 1 none]
def wsX5_init_r3 : List Cond := [Cond.methodLink RX1 1 objectInit, Cond.classLink RX1 7 RX4, Cond.fieldLink RX1 10 "MarqueeDisplay$Message" "text" "LMarqueeDisplay$Text;", Cond.instanceMethod yX3_init, Cond.code yX3_init cX3_init 1 none, Cond.methodLink RX3 3 objectInit, Cond.fieldLink RX3 9 "MarqueeDisplay$Strip" "dots" "[I", Cond.fieldLink RX3 15 "MarqueeDisplay$Strip" "colors" "[I"]
def wsX5_init : List Cond := .code yX5_init cX5_init 1 none :: ((wsX5_init_r1 ++ (wsX5_init_r2 ++ wsX5_init_r3)) ++ wsX00 ++ wsX50 ++ wsX40 ++ wsX20 ++ wsX30 ++ wsX10)
def wsX5_layOutStrip_r1 : List Cond := [Cond.fieldLink RX5 33 "MarqueeDisplay" "strip" "LMarqueeDisplay$Strip;", Cond.fieldLink RX5 26 "MarqueeDisplay" "messages" "LMarqueeDisplay$MessageList;", Cond.fieldLink RX5 12 "MarqueeDisplay" "font" "LMarqueeDisplay$Font;", Cond.fieldLink RX5 45 "MarqueeDisplay" "gap" "I", Cond.fieldLink RX5 57 "MarqueeDisplay" "offset" "I", Cond.methodLink RX5 167 yX3_layOut, Cond.instanceMethod yX3_layOut, Cond.selects RX3 yX3_layOut yX3_layOut, Cond.initialized RX3, Cond.code yX3_layOut cX3_layOut 6 none, Cond.fieldLink RX3 18 "MarqueeDisplay$Strip" "length" "I", Cond.methodLink RX3 27 yX2_find, Cond.instanceMethod yX2_find, Cond.selects RX2 yX2_find yX2_find, Cond.initialized RX2, Cond.code yX2_find cX2_find 2 (some (.object "MarqueeDisplay$Message")), Cond.fieldLink RX2 18 "MarqueeDisplay$MessageList" "count" "I", Cond.fieldLink RX2 11 "MarqueeDisplay$MessageList" "slots" "[LMarqueeDisplay$Message;", Cond.static yX5_isWithin, Cond.initialized RX5, Cond.code yX5_isWithin cX5_isWithin 3 (some .boolean), Cond.methodLink RX3 31 yX3_addMessage, Cond.instanceMethod yX3_addMessage, Cond.selects RX3 yX3_addMessage yX3_addMessage]
def wsX5_layOutStrip_r2 : List Cond := [Cond.code yX3_addMessage cX3_addMessage 4 none, Cond.methodLink RX3 35 yX3_addDark, Cond.instanceMethod yX3_addDark, Cond.selects RX3 yX3_addDark yX3_addDark, Cond.code yX3_addDark cX3_addDark 3 none, Cond.methodLink RX3 74 yX3_addColumn, Cond.instanceMethod yX3_addColumn, Cond.selects RX3 yX3_addColumn yX3_addColumn, Cond.code yX3_addColumn cX3_addColumn 3 none, Cond.fieldLink RX3 9 "MarqueeDisplay$Strip" "dots" "[I", Cond.fieldLink RX3 15 "MarqueeDisplay$Strip" "colors" "[I", Cond.methodLink RX3 57 yX3_addGlyph, Cond.instanceMethod yX3_addGlyph, Cond.selects RX3 yX3_addGlyph yX3_addGlyph, Cond.code yX3_addGlyph cX3_addGlyph 5 none, Cond.methodLink RX3 64 yX0_widthOf, Cond.instanceMethod yX0_widthOf, Cond.selects RX0 yX0_widthOf yX0_widthOf, Cond.initialized RX0, Cond.code yX0_widthOf cX0_widthOf 2 (some .int), Cond.fieldLink RX0 9 "MarqueeDisplay$Font" "widths" "[I", Cond.methodLink RX3 70 yX0_dotsOf, Cond.instanceMethod yX0_dotsOf, Cond.selects RX0 yX0_dotsOf yX0_dotsOf]
def wsX5_layOutStrip_r3 : List Cond := [Cond.code yX0_dotsOf cX0_dotsOf 3 (some .int), Cond.fieldLink RX0 15 "MarqueeDisplay$Font" "dots" "[I"]
def wsX5_layOutStrip : List Cond := .code yX5_layOutStrip cX5_layOutStrip 1 none :: ((wsX5_layOutStrip_r1 ++ (wsX5_layOutStrip_r2 ++ wsX5_layOutStrip_r3)) ++ wsX50 ++ wsX30 ++ wsX20 ++ wsX10 ++ wsX40 ++ wsX00)
def wsX5_setGlyphWidth_r1 : List Cond := [Cond.fieldLink RX5 12 "MarqueeDisplay" "font" "LMarqueeDisplay$Font;", Cond.methodLink RX5 63 yX5_isCharacter, Cond.static yX5_isCharacter, Cond.initialized RX5, Cond.code yX5_isCharacter cX5_isCharacter 1 (some .boolean), Cond.methodLink RX5 67 yX5_isWithin, Cond.static yX5_isWithin, Cond.code yX5_isWithin cX5_isWithin 3 (some .boolean), Cond.methodLink RX5 71 yX0_widthOf, Cond.instanceMethod yX0_widthOf, Cond.selects RX0 yX0_widthOf yX0_widthOf, Cond.initialized RX0, Cond.code yX0_widthOf cX0_widthOf 2 (some .int), Cond.fieldLink RX0 9 "MarqueeDisplay$Font" "widths" "[I", Cond.methodLink RX5 75 yX0_resize, Cond.instanceMethod yX0_resize, Cond.selects RX0 yX0_resize yX0_resize, Cond.code yX0_resize cX0_resize 4 none, Cond.fieldLink RX0 15 "MarqueeDisplay$Font" "dots" "[I", Cond.methodLink RX5 79 yX5_layOutStrip, Cond.instanceMethod yX5_layOutStrip, Cond.selects RX5 yX5_layOutStrip yX5_layOutStrip, Cond.code yX5_layOutStrip cX5_layOutStrip 1 none, Cond.fieldLink RX5 33 "MarqueeDisplay" "strip" "LMarqueeDisplay$Strip;"]
def wsX5_setGlyphWidth_r2 : List Cond := [Cond.fieldLink RX5 26 "MarqueeDisplay" "messages" "LMarqueeDisplay$MessageList;", Cond.fieldLink RX5 45 "MarqueeDisplay" "gap" "I", Cond.fieldLink RX5 57 "MarqueeDisplay" "offset" "I", Cond.methodLink RX5 167 yX3_layOut, Cond.instanceMethod yX3_layOut, Cond.selects RX3 yX3_layOut yX3_layOut, Cond.initialized RX3, Cond.code yX3_layOut cX3_layOut 6 none, Cond.fieldLink RX3 18 "MarqueeDisplay$Strip" "length" "I", Cond.methodLink RX3 27 yX2_find, Cond.instanceMethod yX2_find, Cond.selects RX2 yX2_find yX2_find, Cond.initialized RX2, Cond.code yX2_find cX2_find 2 (some (.object "MarqueeDisplay$Message")), Cond.fieldLink RX2 18 "MarqueeDisplay$MessageList" "count" "I", Cond.fieldLink RX2 11 "MarqueeDisplay$MessageList" "slots" "[LMarqueeDisplay$Message;", Cond.methodLink RX3 31 yX3_addMessage, Cond.instanceMethod yX3_addMessage, Cond.selects RX3 yX3_addMessage yX3_addMessage, Cond.code yX3_addMessage cX3_addMessage 4 none, Cond.methodLink RX3 35 yX3_addDark, Cond.instanceMethod yX3_addDark, Cond.selects RX3 yX3_addDark yX3_addDark, Cond.code yX3_addDark cX3_addDark 3 none]
def wsX5_setGlyphWidth_r3 : List Cond := [Cond.methodLink RX3 74 yX3_addColumn, Cond.instanceMethod yX3_addColumn, Cond.selects RX3 yX3_addColumn yX3_addColumn, Cond.code yX3_addColumn cX3_addColumn 3 none, Cond.fieldLink RX3 9 "MarqueeDisplay$Strip" "dots" "[I", Cond.fieldLink RX3 15 "MarqueeDisplay$Strip" "colors" "[I", Cond.methodLink RX3 57 yX3_addGlyph, Cond.instanceMethod yX3_addGlyph, Cond.selects RX3 yX3_addGlyph yX3_addGlyph, Cond.code yX3_addGlyph cX3_addGlyph 5 none, Cond.methodLink RX3 64 yX0_widthOf, Cond.methodLink RX3 70 yX0_dotsOf, Cond.instanceMethod yX0_dotsOf, Cond.selects RX0 yX0_dotsOf yX0_dotsOf, Cond.code yX0_dotsOf cX0_dotsOf 3 (some .int)]
def wsX5_setGlyphWidth : List Cond := .code yX5_setGlyphWidth cX5_setGlyphWidth 4 (some .int) :: ((wsX5_setGlyphWidth_r1 ++ (wsX5_setGlyphWidth_r2 ++ wsX5_setGlyphWidth_r3)) ++ wsX50 ++ wsX00 ++ wsX30 ++ wsX20 ++ wsX10 ++ wsX40)
def wsX5_setGlyphColumn_r1 : List Cond := [Cond.fieldLink RX5 12 "MarqueeDisplay" "font" "LMarqueeDisplay$Font;", Cond.methodLink RX5 63 yX5_isCharacter, Cond.static yX5_isCharacter, Cond.initialized RX5, Cond.code yX5_isCharacter cX5_isCharacter 1 (some .boolean), Cond.methodLink RX5 67 yX5_isWithin, Cond.static yX5_isWithin, Cond.code yX5_isWithin cX5_isWithin 3 (some .boolean), Cond.methodLink RX5 82 yX0_hasColumn, Cond.instanceMethod yX0_hasColumn, Cond.selects RX0 yX0_hasColumn yX0_hasColumn, Cond.initialized RX0, Cond.code yX0_hasColumn cX0_hasColumn 3 (some .boolean), Cond.methodLink RX0 18 yX0_widthOf, Cond.instanceMethod yX0_widthOf, Cond.selects RX0 yX0_widthOf yX0_widthOf, Cond.code yX0_widthOf cX0_widthOf 2 (some .int), Cond.fieldLink RX0 9 "MarqueeDisplay$Font" "widths" "[I", Cond.methodLink RX5 86 yX0_dotsOf, Cond.instanceMethod yX0_dotsOf, Cond.selects RX0 yX0_dotsOf yX0_dotsOf, Cond.code yX0_dotsOf cX0_dotsOf 3 (some .int), Cond.fieldLink RX0 15 "MarqueeDisplay$Font" "dots" "[I", Cond.methodLink RX5 90 yX0_draw]
def wsX5_setGlyphColumn_r2 : List Cond := [Cond.instanceMethod yX0_draw, Cond.selects RX0 yX0_draw yX0_draw, Cond.code yX0_draw cX0_draw 4 none, Cond.methodLink RX0 26 yX0_hasColumn, Cond.methodLink RX5 79 yX5_layOutStrip, Cond.instanceMethod yX5_layOutStrip, Cond.selects RX5 yX5_layOutStrip yX5_layOutStrip, Cond.code yX5_layOutStrip cX5_layOutStrip 1 none, Cond.fieldLink RX5 33 "MarqueeDisplay" "strip" "LMarqueeDisplay$Strip;", Cond.fieldLink RX5 26 "MarqueeDisplay" "messages" "LMarqueeDisplay$MessageList;", Cond.fieldLink RX5 45 "MarqueeDisplay" "gap" "I", Cond.fieldLink RX5 57 "MarqueeDisplay" "offset" "I", Cond.methodLink RX5 167 yX3_layOut, Cond.instanceMethod yX3_layOut, Cond.selects RX3 yX3_layOut yX3_layOut, Cond.initialized RX3, Cond.code yX3_layOut cX3_layOut 6 none, Cond.fieldLink RX3 18 "MarqueeDisplay$Strip" "length" "I", Cond.methodLink RX3 27 yX2_find, Cond.instanceMethod yX2_find, Cond.selects RX2 yX2_find yX2_find, Cond.initialized RX2, Cond.code yX2_find cX2_find 2 (some (.object "MarqueeDisplay$Message")), Cond.fieldLink RX2 18 "MarqueeDisplay$MessageList" "count" "I"]
def wsX5_setGlyphColumn_r3 : List Cond := [Cond.fieldLink RX2 11 "MarqueeDisplay$MessageList" "slots" "[LMarqueeDisplay$Message;", Cond.methodLink RX3 31 yX3_addMessage, Cond.instanceMethod yX3_addMessage, Cond.selects RX3 yX3_addMessage yX3_addMessage, Cond.code yX3_addMessage cX3_addMessage 4 none, Cond.methodLink RX3 35 yX3_addDark, Cond.instanceMethod yX3_addDark, Cond.selects RX3 yX3_addDark yX3_addDark, Cond.code yX3_addDark cX3_addDark 3 none, Cond.methodLink RX3 74 yX3_addColumn, Cond.instanceMethod yX3_addColumn, Cond.selects RX3 yX3_addColumn yX3_addColumn, Cond.code yX3_addColumn cX3_addColumn 3 none, Cond.fieldLink RX3 9 "MarqueeDisplay$Strip" "dots" "[I", Cond.fieldLink RX3 15 "MarqueeDisplay$Strip" "colors" "[I", Cond.methodLink RX3 57 yX3_addGlyph, Cond.instanceMethod yX3_addGlyph, Cond.selects RX3 yX3_addGlyph yX3_addGlyph, Cond.code yX3_addGlyph cX3_addGlyph 5 none, Cond.methodLink RX3 64 yX0_widthOf, Cond.methodLink RX3 70 yX0_dotsOf]
def wsX5_setGlyphColumn : List Cond := .code yX5_setGlyphColumn cX5_setGlyphColumn 5 (some .int) :: ((wsX5_setGlyphColumn_r1 ++ (wsX5_setGlyphColumn_r2 ++ wsX5_setGlyphColumn_r3)) ++ wsX50 ++ wsX00 ++ wsX30 ++ wsX20 ++ wsX10 ++ wsX40)
def wsX5_glyphColumn : List Cond := .code yX5_glyphColumn cX5_glyphColumn 3 (some .int) :: ([.fieldLink RX5 12 "MarqueeDisplay" "font" "LMarqueeDisplay$Font;", .methodLink RX5 63 yX5_isCharacter, .static yX5_isCharacter, .initialized RX5, .code yX5_isCharacter cX5_isCharacter 1 (some .boolean), .methodLink RX5 67 yX5_isWithin, .static yX5_isWithin, .code yX5_isWithin cX5_isWithin 3 (some .boolean), .methodLink RX5 82 yX0_hasColumn, .instanceMethod yX0_hasColumn, .selects RX0 yX0_hasColumn yX0_hasColumn, .initialized RX0, .code yX0_hasColumn cX0_hasColumn 3 (some .boolean), .methodLink RX0 18 yX0_widthOf, .instanceMethod yX0_widthOf, .selects RX0 yX0_widthOf yX0_widthOf, .code yX0_widthOf cX0_widthOf 2 (some .int), .fieldLink RX0 9 "MarqueeDisplay$Font" "widths" "[I", .methodLink RX5 86 yX0_dotsOf, .instanceMethod yX0_dotsOf, .selects RX0 yX0_dotsOf yX0_dotsOf, .code yX0_dotsOf cX0_dotsOf 3 (some .int), .fieldLink RX0 15 "MarqueeDisplay$Font" "dots" "[I"] ++ wsX50 ++ wsX00)
def wsX5_append : List Cond := .code yX5_append cX5_append 2 (some .int) :: ([.fieldLink RX5 19 "MarqueeDisplay" "buffer" "LMarqueeDisplay$Text;", .methodLink RX5 63 yX5_isCharacter, .static yX5_isCharacter, .initialized RX5, .code yX5_isCharacter cX5_isCharacter 1 (some .boolean), .methodLink RX5 67 yX5_isWithin, .static yX5_isWithin, .code yX5_isWithin cX5_isWithin 3 (some .boolean), .methodLink RX5 97 yX4_add, .instanceMethod yX4_add, .selects RX4 yX4_add yX4_add, .initialized RX4, .code yX4_add cX4_add 2 none, .fieldLink RX4 15 "MarqueeDisplay$Text" "length" "I", .fieldLink RX4 9 "MarqueeDisplay$Text" "characters" "[I"] ++ wsX50 ++ wsX40)
def wsX5_clearText : List Cond := .code yX5_clearText cX5_clearText 2 (some .int) :: ([.fieldLink RX5 19 "MarqueeDisplay" "buffer" "LMarqueeDisplay$Text;", .methodLink RX5 101 yX4_empty, .instanceMethod yX4_empty, .selects RX4 yX4_empty yX4_empty, .initialized RX4, .code yX4_empty cX4_empty 1 none, .fieldLink RX4 15 "MarqueeDisplay$Text" "length" "I"] ++ wsX50 ++ wsX40)
def wsX5_isColor : List Cond := .code yX5_isColor cX5_isColor 1 (some .boolean) :: ([.methodLink RX5 67 yX5_isWithin, .static yX5_isWithin, .initialized RX5, .code yX5_isWithin cX5_isWithin 3 (some .boolean)])
def wsX5_insertMessage_r1 : List Cond := [Cond.fieldLink RX5 26 "MarqueeDisplay" "messages" "LMarqueeDisplay$MessageList;", Cond.fieldLink RX5 19 "MarqueeDisplay" "buffer" "LMarqueeDisplay$Text;", Cond.fieldLink RX5 33 "MarqueeDisplay" "strip" "LMarqueeDisplay$Strip;", Cond.methodLink RX5 67 yX5_isWithin, Cond.static yX5_isWithin, Cond.initialized RX5, Cond.code yX5_isWithin cX5_isWithin 3 (some .boolean), Cond.methodLink RX5 107 yX5_isColor, Cond.static yX5_isColor, Cond.code yX5_isColor cX5_isColor 1 (some .boolean), Cond.methodLink RX5 110 yX2_insert, Cond.instanceMethod yX2_insert, Cond.selects RX2 yX2_insert yX2_insert, Cond.initialized RX2, Cond.code yX2_insert cX2_insert 6 none, Cond.fieldLink RX2 18 "MarqueeDisplay$MessageList" "count" "I", Cond.fieldLink RX2 11 "MarqueeDisplay$MessageList" "slots" "[LMarqueeDisplay$Message;", Cond.methodLink RX2 30 yX4_copyFrom, Cond.instanceMethod yX4_copyFrom, Cond.selects RX4 yX4_copyFrom yX4_copyFrom, Cond.initialized RX4, Cond.code yX4_copyFrom cX4_copyFrom 3 none, Cond.fieldLink RX4 9 "MarqueeDisplay$Text" "characters" "[I", Cond.fieldLink RX4 15 "MarqueeDisplay$Text" "length" "I"]
def wsX5_insertMessage_r2 : List Cond := [Cond.methodLink RX5 79 yX5_layOutStrip, Cond.instanceMethod yX5_layOutStrip, Cond.selects RX5 yX5_layOutStrip yX5_layOutStrip, Cond.code yX5_layOutStrip cX5_layOutStrip 1 none, Cond.fieldLink RX5 12 "MarqueeDisplay" "font" "LMarqueeDisplay$Font;", Cond.fieldLink RX5 45 "MarqueeDisplay" "gap" "I", Cond.fieldLink RX5 57 "MarqueeDisplay" "offset" "I", Cond.methodLink RX5 167 yX3_layOut, Cond.instanceMethod yX3_layOut, Cond.selects RX3 yX3_layOut yX3_layOut, Cond.initialized RX3, Cond.code yX3_layOut cX3_layOut 6 none, Cond.fieldLink RX3 18 "MarqueeDisplay$Strip" "length" "I", Cond.methodLink RX3 27 yX2_find, Cond.instanceMethod yX2_find, Cond.selects RX2 yX2_find yX2_find, Cond.code yX2_find cX2_find 2 (some (.object "MarqueeDisplay$Message")), Cond.methodLink RX3 31 yX3_addMessage, Cond.instanceMethod yX3_addMessage, Cond.selects RX3 yX3_addMessage yX3_addMessage, Cond.code yX3_addMessage cX3_addMessage 4 none, Cond.methodLink RX3 35 yX3_addDark, Cond.instanceMethod yX3_addDark, Cond.selects RX3 yX3_addDark yX3_addDark]
def wsX5_insertMessage_r3 : List Cond := [Cond.code yX3_addDark cX3_addDark 3 none, Cond.methodLink RX3 74 yX3_addColumn, Cond.instanceMethod yX3_addColumn, Cond.selects RX3 yX3_addColumn yX3_addColumn, Cond.code yX3_addColumn cX3_addColumn 3 none, Cond.fieldLink RX3 9 "MarqueeDisplay$Strip" "dots" "[I", Cond.fieldLink RX3 15 "MarqueeDisplay$Strip" "colors" "[I", Cond.methodLink RX3 57 yX3_addGlyph, Cond.instanceMethod yX3_addGlyph, Cond.selects RX3 yX3_addGlyph yX3_addGlyph, Cond.code yX3_addGlyph cX3_addGlyph 5 none, Cond.methodLink RX3 64 yX0_widthOf, Cond.instanceMethod yX0_widthOf, Cond.selects RX0 yX0_widthOf yX0_widthOf, Cond.initialized RX0, Cond.code yX0_widthOf cX0_widthOf 2 (some .int), Cond.fieldLink RX0 9 "MarqueeDisplay$Font" "widths" "[I", Cond.methodLink RX3 70 yX0_dotsOf, Cond.instanceMethod yX0_dotsOf, Cond.selects RX0 yX0_dotsOf yX0_dotsOf, Cond.code yX0_dotsOf cX0_dotsOf 3 (some .int), Cond.fieldLink RX0 15 "MarqueeDisplay$Font" "dots" "[I"]
def wsX5_insertMessage : List Cond := .code yX5_insertMessage cX5_insertMessage 3 (some .int) :: ((wsX5_insertMessage_r1 ++ (wsX5_insertMessage_r2 ++ wsX5_insertMessage_r3)) ++ wsX50 ++ wsX20 ++ wsX40 ++ wsX30 ++ wsX10 ++ wsX00)
def wsX5_removeMessage_r1 : List Cond := [Cond.fieldLink RX5 26 "MarqueeDisplay" "messages" "LMarqueeDisplay$MessageList;", Cond.fieldLink RX5 33 "MarqueeDisplay" "strip" "LMarqueeDisplay$Strip;", Cond.methodLink RX5 115 yX2_find, Cond.instanceMethod yX2_find, Cond.selects RX2 yX2_find yX2_find, Cond.initialized RX2, Cond.code yX2_find cX2_find 2 (some (.object "MarqueeDisplay$Message")), Cond.fieldLink RX2 18 "MarqueeDisplay$MessageList" "count" "I", Cond.fieldLink RX2 11 "MarqueeDisplay$MessageList" "slots" "[LMarqueeDisplay$Message;", Cond.static yX5_isWithin, Cond.initialized RX5, Cond.code yX5_isWithin cX5_isWithin 3 (some .boolean), Cond.methodLink RX5 119 yX2_remove, Cond.instanceMethod yX2_remove, Cond.selects RX2 yX2_remove yX2_remove, Cond.code yX2_remove cX2_remove 4 none, Cond.methodLink RX2 39 yX2_find, Cond.methodLink RX5 79 yX5_layOutStrip, Cond.instanceMethod yX5_layOutStrip, Cond.selects RX5 yX5_layOutStrip yX5_layOutStrip, Cond.code yX5_layOutStrip cX5_layOutStrip 1 none, Cond.fieldLink RX5 12 "MarqueeDisplay" "font" "LMarqueeDisplay$Font;", Cond.fieldLink RX5 45 "MarqueeDisplay" "gap" "I", Cond.fieldLink RX5 57 "MarqueeDisplay" "offset" "I"]
def wsX5_removeMessage_r2 : List Cond := [Cond.methodLink RX5 167 yX3_layOut, Cond.instanceMethod yX3_layOut, Cond.selects RX3 yX3_layOut yX3_layOut, Cond.initialized RX3, Cond.code yX3_layOut cX3_layOut 6 none, Cond.fieldLink RX3 18 "MarqueeDisplay$Strip" "length" "I", Cond.methodLink RX3 27 yX2_find, Cond.methodLink RX3 31 yX3_addMessage, Cond.instanceMethod yX3_addMessage, Cond.selects RX3 yX3_addMessage yX3_addMessage, Cond.code yX3_addMessage cX3_addMessage 4 none, Cond.methodLink RX3 35 yX3_addDark, Cond.instanceMethod yX3_addDark, Cond.selects RX3 yX3_addDark yX3_addDark, Cond.code yX3_addDark cX3_addDark 3 none, Cond.methodLink RX3 74 yX3_addColumn, Cond.instanceMethod yX3_addColumn, Cond.selects RX3 yX3_addColumn yX3_addColumn, Cond.code yX3_addColumn cX3_addColumn 3 none, Cond.fieldLink RX3 9 "MarqueeDisplay$Strip" "dots" "[I", Cond.fieldLink RX3 15 "MarqueeDisplay$Strip" "colors" "[I", Cond.methodLink RX3 57 yX3_addGlyph, Cond.instanceMethod yX3_addGlyph, Cond.selects RX3 yX3_addGlyph yX3_addGlyph]
def wsX5_removeMessage_r3 : List Cond := [Cond.code yX3_addGlyph cX3_addGlyph 5 none, Cond.methodLink RX3 64 yX0_widthOf, Cond.instanceMethod yX0_widthOf, Cond.selects RX0 yX0_widthOf yX0_widthOf, Cond.initialized RX0, Cond.code yX0_widthOf cX0_widthOf 2 (some .int), Cond.fieldLink RX0 9 "MarqueeDisplay$Font" "widths" "[I", Cond.methodLink RX3 70 yX0_dotsOf, Cond.instanceMethod yX0_dotsOf, Cond.selects RX0 yX0_dotsOf yX0_dotsOf, Cond.code yX0_dotsOf cX0_dotsOf 3 (some .int), Cond.fieldLink RX0 15 "MarqueeDisplay$Font" "dots" "[I"]
def wsX5_removeMessage : List Cond := .code yX5_removeMessage cX5_removeMessage 2 (some .int) :: ((wsX5_removeMessage_r1 ++ (wsX5_removeMessage_r2 ++ wsX5_removeMessage_r3)) ++ wsX50 ++ wsX30 ++ wsX20 ++ wsX10 ++ wsX40 ++ wsX00)
def wsX5_setColor_r1 : List Cond := [Cond.fieldLink RX5 26 "MarqueeDisplay" "messages" "LMarqueeDisplay$MessageList;", Cond.methodLink RX5 115 yX2_find, Cond.instanceMethod yX2_find, Cond.selects RX2 yX2_find yX2_find, Cond.initialized RX2, Cond.code yX2_find cX2_find 2 (some (.object "MarqueeDisplay$Message")), Cond.fieldLink RX2 18 "MarqueeDisplay$MessageList" "count" "I", Cond.fieldLink RX2 11 "MarqueeDisplay$MessageList" "slots" "[LMarqueeDisplay$Message;", Cond.static yX5_isWithin, Cond.initialized RX5, Cond.code yX5_isWithin cX5_isWithin 3 (some .boolean), Cond.methodLink RX5 107 yX5_isColor, Cond.static yX5_isColor, Cond.code yX5_isColor cX5_isColor 1 (some .boolean), Cond.methodLink RX5 67 yX5_isWithin, Cond.methodLink RX5 79 yX5_layOutStrip, Cond.instanceMethod yX5_layOutStrip, Cond.selects RX5 yX5_layOutStrip yX5_layOutStrip, Cond.code yX5_layOutStrip cX5_layOutStrip 1 none, Cond.fieldLink RX5 33 "MarqueeDisplay" "strip" "LMarqueeDisplay$Strip;", Cond.fieldLink RX5 12 "MarqueeDisplay" "font" "LMarqueeDisplay$Font;", Cond.fieldLink RX5 45 "MarqueeDisplay" "gap" "I", Cond.fieldLink RX5 57 "MarqueeDisplay" "offset" "I", Cond.methodLink RX5 167 yX3_layOut]
def wsX5_setColor_r2 : List Cond := [Cond.instanceMethod yX3_layOut, Cond.selects RX3 yX3_layOut yX3_layOut, Cond.initialized RX3, Cond.code yX3_layOut cX3_layOut 6 none, Cond.fieldLink RX3 18 "MarqueeDisplay$Strip" "length" "I", Cond.methodLink RX3 27 yX2_find, Cond.methodLink RX3 31 yX3_addMessage, Cond.instanceMethod yX3_addMessage, Cond.selects RX3 yX3_addMessage yX3_addMessage, Cond.code yX3_addMessage cX3_addMessage 4 none, Cond.methodLink RX3 35 yX3_addDark, Cond.instanceMethod yX3_addDark, Cond.selects RX3 yX3_addDark yX3_addDark, Cond.code yX3_addDark cX3_addDark 3 none, Cond.methodLink RX3 74 yX3_addColumn, Cond.instanceMethod yX3_addColumn, Cond.selects RX3 yX3_addColumn yX3_addColumn, Cond.code yX3_addColumn cX3_addColumn 3 none, Cond.fieldLink RX3 9 "MarqueeDisplay$Strip" "dots" "[I", Cond.fieldLink RX3 15 "MarqueeDisplay$Strip" "colors" "[I", Cond.methodLink RX3 57 yX3_addGlyph, Cond.instanceMethod yX3_addGlyph, Cond.selects RX3 yX3_addGlyph yX3_addGlyph, Cond.code yX3_addGlyph cX3_addGlyph 5 none]
def wsX5_setColor_r3 : List Cond := [Cond.methodLink RX3 64 yX0_widthOf, Cond.instanceMethod yX0_widthOf, Cond.selects RX0 yX0_widthOf yX0_widthOf, Cond.initialized RX0, Cond.code yX0_widthOf cX0_widthOf 2 (some .int), Cond.fieldLink RX0 9 "MarqueeDisplay$Font" "widths" "[I", Cond.methodLink RX3 70 yX0_dotsOf, Cond.instanceMethod yX0_dotsOf, Cond.selects RX0 yX0_dotsOf yX0_dotsOf, Cond.code yX0_dotsOf cX0_dotsOf 3 (some .int), Cond.fieldLink RX0 15 "MarqueeDisplay$Font" "dots" "[I"]
def wsX5_setColor : List Cond := .code yX5_setColor cX5_setColor 5 (some .int) :: ((wsX5_setColor_r1 ++ (wsX5_setColor_r2 ++ wsX5_setColor_r3)) ++ wsX50 ++ wsX10 ++ wsX20 ++ wsX30 ++ wsX40 ++ wsX00)
def wsX5_messageWidth : List Cond := .code yX5_messageWidth cX5_messageWidth 3 (some .int) :: ([.fieldLink RX5 26 "MarqueeDisplay" "messages" "LMarqueeDisplay$MessageList;", .methodLink RX5 115 yX2_find, .instanceMethod yX2_find, .selects RX2 yX2_find yX2_find, .initialized RX2, .code yX2_find cX2_find 2 (some (.object "MarqueeDisplay$Message")), .fieldLink RX2 18 "MarqueeDisplay$MessageList" "count" "I", .fieldLink RX2 11 "MarqueeDisplay$MessageList" "slots" "[LMarqueeDisplay$Message;", .static yX5_isWithin, .initialized RX5, .code yX5_isWithin cX5_isWithin 3 (some .boolean)] ++ wsX50 ++ wsX10 ++ wsX20)
def wsX5_messageStart : List Cond := .code yX5_messageStart cX5_messageStart 3 (some .int) :: ([.fieldLink RX5 26 "MarqueeDisplay" "messages" "LMarqueeDisplay$MessageList;", .methodLink RX5 115 yX2_find, .instanceMethod yX2_find, .selects RX2 yX2_find yX2_find, .initialized RX2, .code yX2_find cX2_find 2 (some (.object "MarqueeDisplay$Message")), .fieldLink RX2 18 "MarqueeDisplay$MessageList" "count" "I", .fieldLink RX2 11 "MarqueeDisplay$MessageList" "slots" "[LMarqueeDisplay$Message;", .static yX5_isWithin, .initialized RX5, .code yX5_isWithin cX5_isWithin 3 (some .boolean)] ++ wsX50 ++ wsX10 ++ wsX20)
def wsX5_setColumns : List Cond := .code yX5_setColumns cX5_setColumns 4 (some .int) :: ([.fieldLink RX5 41 "MarqueeDisplay" "columns" "I", .fieldLink RX5 37 "MarqueeDisplay" "defects" "[I", .methodLink RX5 67 yX5_isWithin, .static yX5_isWithin, .initialized RX5, .code yX5_isWithin cX5_isWithin 3 (some .boolean)] ++ wsX50)
def wsX5_setGap_r1 : List Cond := [Cond.fieldLink RX5 45 "MarqueeDisplay" "gap" "I", Cond.methodLink RX5 67 yX5_isWithin, Cond.static yX5_isWithin, Cond.initialized RX5, Cond.code yX5_isWithin cX5_isWithin 3 (some .boolean), Cond.methodLink RX5 79 yX5_layOutStrip, Cond.instanceMethod yX5_layOutStrip, Cond.selects RX5 yX5_layOutStrip yX5_layOutStrip, Cond.code yX5_layOutStrip cX5_layOutStrip 1 none, Cond.fieldLink RX5 33 "MarqueeDisplay" "strip" "LMarqueeDisplay$Strip;", Cond.fieldLink RX5 26 "MarqueeDisplay" "messages" "LMarqueeDisplay$MessageList;", Cond.fieldLink RX5 12 "MarqueeDisplay" "font" "LMarqueeDisplay$Font;", Cond.fieldLink RX5 57 "MarqueeDisplay" "offset" "I", Cond.methodLink RX5 167 yX3_layOut, Cond.instanceMethod yX3_layOut, Cond.selects RX3 yX3_layOut yX3_layOut, Cond.initialized RX3, Cond.code yX3_layOut cX3_layOut 6 none, Cond.fieldLink RX3 18 "MarqueeDisplay$Strip" "length" "I", Cond.methodLink RX3 27 yX2_find, Cond.instanceMethod yX2_find, Cond.selects RX2 yX2_find yX2_find, Cond.initialized RX2, Cond.code yX2_find cX2_find 2 (some (.object "MarqueeDisplay$Message"))]
def wsX5_setGap_r2 : List Cond := [Cond.fieldLink RX2 18 "MarqueeDisplay$MessageList" "count" "I", Cond.fieldLink RX2 11 "MarqueeDisplay$MessageList" "slots" "[LMarqueeDisplay$Message;", Cond.methodLink RX3 31 yX3_addMessage, Cond.instanceMethod yX3_addMessage, Cond.selects RX3 yX3_addMessage yX3_addMessage, Cond.code yX3_addMessage cX3_addMessage 4 none, Cond.methodLink RX3 35 yX3_addDark, Cond.instanceMethod yX3_addDark, Cond.selects RX3 yX3_addDark yX3_addDark, Cond.code yX3_addDark cX3_addDark 3 none, Cond.methodLink RX3 74 yX3_addColumn, Cond.instanceMethod yX3_addColumn, Cond.selects RX3 yX3_addColumn yX3_addColumn, Cond.code yX3_addColumn cX3_addColumn 3 none, Cond.fieldLink RX3 9 "MarqueeDisplay$Strip" "dots" "[I", Cond.fieldLink RX3 15 "MarqueeDisplay$Strip" "colors" "[I", Cond.methodLink RX3 57 yX3_addGlyph, Cond.instanceMethod yX3_addGlyph, Cond.selects RX3 yX3_addGlyph yX3_addGlyph, Cond.code yX3_addGlyph cX3_addGlyph 5 none, Cond.methodLink RX3 64 yX0_widthOf, Cond.instanceMethod yX0_widthOf, Cond.selects RX0 yX0_widthOf yX0_widthOf, Cond.initialized RX0]
def wsX5_setGap_r3 : List Cond := [Cond.code yX0_widthOf cX0_widthOf 2 (some .int), Cond.fieldLink RX0 9 "MarqueeDisplay$Font" "widths" "[I", Cond.methodLink RX3 70 yX0_dotsOf, Cond.instanceMethod yX0_dotsOf, Cond.selects RX0 yX0_dotsOf yX0_dotsOf, Cond.code yX0_dotsOf cX0_dotsOf 3 (some .int), Cond.fieldLink RX0 15 "MarqueeDisplay$Font" "dots" "[I"]
def wsX5_setGap : List Cond := .code yX5_setGap cX5_setGap 3 (some .int) :: ((wsX5_setGap_r1 ++ (wsX5_setGap_r2 ++ wsX5_setGap_r3)) ++ wsX50 ++ wsX30 ++ wsX20 ++ wsX10 ++ wsX40 ++ wsX00)
def wsX5_setSpeed : List Cond := .code yX5_setSpeed cX5_setSpeed 3 (some .int) :: ([.fieldLink RX5 48 "MarqueeDisplay" "speed" "I", .fieldLink RX5 60 "MarqueeDisplay" "counter" "I", .methodLink RX5 67 yX5_isWithin, .static yX5_isWithin, .initialized RX5, .code yX5_isWithin cX5_isWithin 3 (some .boolean)] ++ wsX50)
def wsX5_isShift : List Cond := .code yX5_isShift cX5_isShift 1 (some .boolean) :: ([.methodLink RX5 67 yX5_isWithin, .static yX5_isWithin, .initialized RX5, .code yX5_isWithin cX5_isWithin 3 (some .boolean)])
def wsX5_setShift : List Cond := .code yX5_setShift cX5_setShift 3 (some .int) :: ([.fieldLink RX5 51 "MarqueeDisplay" "shift" "I", .methodLink RX5 133 yX5_isShift, .static yX5_isShift, .initialized RX5, .code yX5_isShift cX5_isShift 1 (some .boolean), .methodLink RX5 67 yX5_isWithin, .static yX5_isWithin, .code yX5_isWithin cX5_isWithin 3 (some .boolean)] ++ wsX50)
def wsX5_setBudget : List Cond := .code yX5_setBudget cX5_setBudget 3 (some .int) :: ([.fieldLink RX5 54 "MarqueeDisplay" "budget" "I", .methodLink RX5 67 yX5_isWithin, .static yX5_isWithin, .initialized RX5, .code yX5_isWithin cX5_isWithin 3 (some .boolean)] ++ wsX50)
def wsX5_isLed : List Cond := .code yX5_isLed cX5_isLed 3 (some .boolean) :: ([.fieldLink RX5 41 "MarqueeDisplay" "columns" "I", .methodLink RX5 67 yX5_isWithin, .static yX5_isWithin, .initialized RX5, .code yX5_isWithin cX5_isWithin 3 (some .boolean)] ++ wsX50)
def wsX5_defectsOf : List Cond := .code yX5_defectsOf cX5_defectsOf 2 (some .int) :: ([.fieldLink RX5 37 "MarqueeDisplay" "defects" "[I", .methodLink RX5 67 yX5_isWithin, .static yX5_isWithin, .initialized RX5, .code yX5_isWithin cX5_isWithin 3 (some .boolean)] ++ wsX50)
def wsX5_isDefective : List Cond := .code yX5_isDefective cX5_isDefective 3 (some .boolean) :: ([.methodLink RX5 171 yX5_defectsOf, .instanceMethod yX5_defectsOf, .selects RX5 yX5_defectsOf yX5_defectsOf, .initialized RX5, .code yX5_defectsOf cX5_defectsOf 2 (some .int), .fieldLink RX5 37 "MarqueeDisplay" "defects" "[I", .methodLink RX5 67 yX5_isWithin, .static yX5_isWithin, .code yX5_isWithin cX5_isWithin 3 (some .boolean)] ++ wsX50)
def wsJ6_bitCount_0f7a4 : List Cond := .code yJ6_bitCount_0f7a4 cJ6_bitCount_0f7a4 1 (some .int) :: ([.constant RJ6 265 (1431655765), .constant RJ6 266 (858993459), .constant RJ6 267 (252645135)])
def wsX5_countDefects : List Cond := .code yX5_countDefects cX5_countDefects 6 (some .int) :: ([.fieldLink RX5 37 "MarqueeDisplay" "defects" "[I", .methodLink RX5 174 yJ6_bitCount_0f7a4, .static yJ6_bitCount_0f7a4, .initialized RJ6, .code yJ6_bitCount_0f7a4 cJ6_bitCount_0f7a4 1 (some .int), .constant RJ6 265 (1431655765), .constant RJ6 266 (858993459), .constant RJ6 267 (252645135)] ++ wsX50)
def wsX5_setDefective_r1 : List Cond := [Cond.fieldLink RX5 37 "MarqueeDisplay" "defects" "[I", Cond.methodLink RX5 136 yX5_isLed, Cond.instanceMethod yX5_isLed, Cond.selects RX5 yX5_isLed yX5_isLed, Cond.initialized RX5, Cond.code yX5_isLed cX5_isLed 3 (some .boolean), Cond.fieldLink RX5 41 "MarqueeDisplay" "columns" "I", Cond.methodLink RX5 67 yX5_isWithin, Cond.static yX5_isWithin, Cond.code yX5_isWithin cX5_isWithin 3 (some .boolean), Cond.methodLink RX5 139 yX5_isDefective, Cond.instanceMethod yX5_isDefective, Cond.selects RX5 yX5_isDefective yX5_isDefective, Cond.code yX5_isDefective cX5_isDefective 3 (some .boolean), Cond.methodLink RX5 171 yX5_defectsOf, Cond.instanceMethod yX5_defectsOf, Cond.selects RX5 yX5_defectsOf yX5_defectsOf, Cond.code yX5_defectsOf cX5_defectsOf 2 (some .int), Cond.methodLink RX5 142 yX5_countDefects, Cond.instanceMethod yX5_countDefects, Cond.selects RX5 yX5_countDefects yX5_countDefects, Cond.code yX5_countDefects cX5_countDefects 6 (some .int), Cond.methodLink RX5 174 yJ6_bitCount_0f7a4, Cond.static yJ6_bitCount_0f7a4]
def wsX5_setDefective_r2 : List Cond := [Cond.initialized RJ6, Cond.code yJ6_bitCount_0f7a4 cJ6_bitCount_0f7a4 1 (some .int), Cond.constant RJ6 265 (1431655765), Cond.constant RJ6 266 (858993459), Cond.constant RJ6 267 (252645135)]
def wsX5_setDefective : List Cond := .code yX5_setDefective cX5_setDefective 4 (some .int) :: ((wsX5_setDefective_r1 ++ wsX5_setDefective_r2) ++ wsX50)
def wsX5_tick : List Cond := .code yX5_tick cX5_tick 3 (some .int) :: ([.fieldLink RX5 48 "MarqueeDisplay" "speed" "I", .fieldLink RX5 60 "MarqueeDisplay" "counter" "I", .fieldLink RX5 33 "MarqueeDisplay" "strip" "LMarqueeDisplay$Strip;", .fieldLink RX5 57 "MarqueeDisplay" "offset" "I", .methodLink RX5 67 yX5_isWithin, .static yX5_isWithin, .initialized RX5, .code yX5_isWithin cX5_isWithin 3 (some .boolean), .methodLink RX5 146 yX3_wrap, .instanceMethod yX3_wrap, .selects RX3 yX3_wrap yX3_wrap, .initialized RX3, .code yX3_wrap cX3_wrap 2 (some .int), .fieldLink RX3 18 "MarqueeDisplay$Strip" "length" "I", .methodLink RX3 78 yJ9_floorMod_7cf53, .static yJ9_floorMod_7cf53, .initialized RJ9, .code yJ9_floorMod_7cf53 cJ9_floorMod_7cf53 3 (some .int)] ++ wsX50 ++ wsX30)
def wsX5_offset : List Cond := .code yX5_offset cX5_offset 1 (some .int) :: ([.fieldLink RX5 57 "MarqueeDisplay" "offset" "I"] ++ wsX50)
def wsX5_stripLength : List Cond := .code yX5_stripLength cX5_stripLength 1 (some .int) :: ([.fieldLink RX5 33 "MarqueeDisplay" "strip" "LMarqueeDisplay$Strip;"] ++ wsX50 ++ wsX30)
def wsX5_period : List Cond := .code yX5_period cX5_period 1 (some .int) :: ([.fieldLink RX5 33 "MarqueeDisplay" "strip" "LMarqueeDisplay$Strip;", .fieldLink RX5 48 "MarqueeDisplay" "speed" "I"] ++ wsX50 ++ wsX30)
def wsX5_ticksUntilWhole_r1 : List Cond := [Cond.fieldLink RX5 26 "MarqueeDisplay" "messages" "LMarqueeDisplay$MessageList;", Cond.fieldLink RX5 41 "MarqueeDisplay" "columns" "I", Cond.fieldLink RX5 33 "MarqueeDisplay" "strip" "LMarqueeDisplay$Strip;", Cond.fieldLink RX5 57 "MarqueeDisplay" "offset" "I", Cond.fieldLink RX5 48 "MarqueeDisplay" "speed" "I", Cond.fieldLink RX5 60 "MarqueeDisplay" "counter" "I", Cond.methodLink RX5 115 yX2_find, Cond.instanceMethod yX2_find, Cond.selects RX2 yX2_find yX2_find, Cond.initialized RX2, Cond.code yX2_find cX2_find 2 (some (.object "MarqueeDisplay$Message")), Cond.fieldLink RX2 18 "MarqueeDisplay$MessageList" "count" "I", Cond.fieldLink RX2 11 "MarqueeDisplay$MessageList" "slots" "[LMarqueeDisplay$Message;", Cond.static yX5_isWithin, Cond.initialized RX5, Cond.code yX5_isWithin cX5_isWithin 3 (some .boolean), Cond.methodLink RX5 146 yX3_wrap, Cond.instanceMethod yX3_wrap, Cond.selects RX3 yX3_wrap yX3_wrap, Cond.initialized RX3, Cond.code yX3_wrap cX3_wrap 2 (some .int), Cond.fieldLink RX3 18 "MarqueeDisplay$Strip" "length" "I", Cond.methodLink RX3 78 yJ9_floorMod_7cf53, Cond.static yJ9_floorMod_7cf53]
def wsX5_ticksUntilWhole_r2 : List Cond := [Cond.initialized RJ9, Cond.code yJ9_floorMod_7cf53 cJ9_floorMod_7cf53 3 (some .int)]
def wsX5_ticksUntilWhole : List Cond := .code yX5_ticksUntilWhole cX5_ticksUntilWhole 5 (some .int) :: ((wsX5_ticksUntilWhole_r1 ++ wsX5_ticksUntilWhole_r2) ++ wsX50 ++ wsX10 ++ wsX20 ++ wsX30)
def wsX5_shifted : List Cond := .code yX5_shifted cX5_shifted 2 (some .int) :: ([])
def wsX5_litRows_r1 : List Cond := [Cond.fieldLink RX5 33 "MarqueeDisplay" "strip" "LMarqueeDisplay$Strip;", Cond.fieldLink RX5 51 "MarqueeDisplay" "shift" "I", Cond.methodLink RX5 179 yX3_dotsAt, Cond.instanceMethod yX3_dotsAt, Cond.selects RX3 yX3_dotsAt yX3_dotsAt, Cond.initialized RX3, Cond.code yX3_dotsAt cX3_dotsAt 2 (some .int), Cond.fieldLink RX3 18 "MarqueeDisplay$Strip" "length" "I", Cond.fieldLink RX3 9 "MarqueeDisplay$Strip" "dots" "[I", Cond.methodLink RX3 83 yX3_wrap, Cond.instanceMethod yX3_wrap, Cond.selects RX3 yX3_wrap yX3_wrap, Cond.code yX3_wrap cX3_wrap 2 (some .int), Cond.methodLink RX3 78 yJ9_floorMod_7cf53, Cond.static yJ9_floorMod_7cf53, Cond.initialized RJ9, Cond.code yJ9_floorMod_7cf53 cJ9_floorMod_7cf53 3 (some .int), Cond.methodLink RX5 182 yX5_shifted, Cond.static yX5_shifted, Cond.initialized RX5, Cond.code yX5_shifted cX5_shifted 2 (some .int), Cond.methodLink RX5 171 yX5_defectsOf, Cond.instanceMethod yX5_defectsOf, Cond.selects RX5 yX5_defectsOf yX5_defectsOf]
def wsX5_litRows_r2 : List Cond := [Cond.code yX5_defectsOf cX5_defectsOf 2 (some .int), Cond.fieldLink RX5 37 "MarqueeDisplay" "defects" "[I", Cond.methodLink RX5 67 yX5_isWithin, Cond.static yX5_isWithin, Cond.code yX5_isWithin cX5_isWithin 3 (some .boolean)]
def wsX5_litRows : List Cond := .code yX5_litRows cX5_litRows 3 (some .int) :: ((wsX5_litRows_r1 ++ wsX5_litRows_r2) ++ wsX50 ++ wsX30)
def wsX5_pixel_r1 : List Cond := [Cond.fieldLink RX5 57 "MarqueeDisplay" "offset" "I", Cond.fieldLink RX5 33 "MarqueeDisplay" "strip" "LMarqueeDisplay$Strip;", Cond.methodLink RX5 136 yX5_isLed, Cond.instanceMethod yX5_isLed, Cond.selects RX5 yX5_isLed yX5_isLed, Cond.initialized RX5, Cond.code yX5_isLed cX5_isLed 3 (some .boolean), Cond.fieldLink RX5 41 "MarqueeDisplay" "columns" "I", Cond.methodLink RX5 67 yX5_isWithin, Cond.static yX5_isWithin, Cond.code yX5_isWithin cX5_isWithin 3 (some .boolean), Cond.methodLink RX5 149 yX5_litRows, Cond.instanceMethod yX5_litRows, Cond.selects RX5 yX5_litRows yX5_litRows, Cond.code yX5_litRows cX5_litRows 3 (some .int), Cond.fieldLink RX5 51 "MarqueeDisplay" "shift" "I", Cond.methodLink RX5 179 yX3_dotsAt, Cond.instanceMethod yX3_dotsAt, Cond.selects RX3 yX3_dotsAt yX3_dotsAt, Cond.initialized RX3, Cond.code yX3_dotsAt cX3_dotsAt 2 (some .int), Cond.fieldLink RX3 18 "MarqueeDisplay$Strip" "length" "I", Cond.fieldLink RX3 9 "MarqueeDisplay$Strip" "dots" "[I", Cond.methodLink RX3 83 yX3_wrap]
def wsX5_pixel_r2 : List Cond := [Cond.instanceMethod yX3_wrap, Cond.selects RX3 yX3_wrap yX3_wrap, Cond.code yX3_wrap cX3_wrap 2 (some .int), Cond.methodLink RX3 78 yJ9_floorMod_7cf53, Cond.static yJ9_floorMod_7cf53, Cond.initialized RJ9, Cond.code yJ9_floorMod_7cf53 cJ9_floorMod_7cf53 3 (some .int), Cond.methodLink RX5 182 yX5_shifted, Cond.static yX5_shifted, Cond.code yX5_shifted cX5_shifted 2 (some .int), Cond.methodLink RX5 171 yX5_defectsOf, Cond.instanceMethod yX5_defectsOf, Cond.selects RX5 yX5_defectsOf yX5_defectsOf, Cond.code yX5_defectsOf cX5_defectsOf 2 (some .int), Cond.fieldLink RX5 37 "MarqueeDisplay" "defects" "[I", Cond.methodLink RX5 152 yX3_colorAt, Cond.instanceMethod yX3_colorAt, Cond.selects RX3 yX3_colorAt yX3_colorAt, Cond.code yX3_colorAt cX3_colorAt 2 (some .int), Cond.fieldLink RX3 15 "MarqueeDisplay$Strip" "colors" "[I"]
def wsX5_pixel : List Cond := .code yX5_pixel cX5_pixel 4 (some .int) :: ((wsX5_pixel_r1 ++ wsX5_pixel_r2) ++ wsX50 ++ wsX30)
def wsX5_loadFrom_r1 : List Cond := [Cond.fieldLink RX5 41 "MarqueeDisplay" "columns" "I", Cond.fieldLink RX5 33 "MarqueeDisplay" "strip" "LMarqueeDisplay$Strip;", Cond.methodLink RX5 152 yX3_colorAt, Cond.instanceMethod yX3_colorAt, Cond.selects RX3 yX3_colorAt yX3_colorAt, Cond.initialized RX3, Cond.code yX3_colorAt cX3_colorAt 2 (some .int), Cond.fieldLink RX3 18 "MarqueeDisplay$Strip" "length" "I", Cond.fieldLink RX3 15 "MarqueeDisplay$Strip" "colors" "[I", Cond.methodLink RX3 83 yX3_wrap, Cond.instanceMethod yX3_wrap, Cond.selects RX3 yX3_wrap yX3_wrap, Cond.code yX3_wrap cX3_wrap 2 (some .int), Cond.methodLink RX3 78 yJ9_floorMod_7cf53, Cond.static yJ9_floorMod_7cf53, Cond.initialized RJ9, Cond.code yJ9_floorMod_7cf53 cJ9_floorMod_7cf53 3 (some .int), Cond.methodLink RX5 149 yX5_litRows, Cond.instanceMethod yX5_litRows, Cond.selects RX5 yX5_litRows yX5_litRows, Cond.initialized RX5, Cond.code yX5_litRows cX5_litRows 3 (some .int), Cond.fieldLink RX5 51 "MarqueeDisplay" "shift" "I", Cond.methodLink RX5 179 yX3_dotsAt]
def wsX5_loadFrom_r2 : List Cond := [Cond.instanceMethod yX3_dotsAt, Cond.selects RX3 yX3_dotsAt yX3_dotsAt, Cond.code yX3_dotsAt cX3_dotsAt 2 (some .int), Cond.fieldLink RX3 9 "MarqueeDisplay$Strip" "dots" "[I", Cond.methodLink RX5 182 yX5_shifted, Cond.static yX5_shifted, Cond.code yX5_shifted cX5_shifted 2 (some .int), Cond.methodLink RX5 171 yX5_defectsOf, Cond.instanceMethod yX5_defectsOf, Cond.selects RX5 yX5_defectsOf yX5_defectsOf, Cond.code yX5_defectsOf cX5_defectsOf 2 (some .int), Cond.fieldLink RX5 37 "MarqueeDisplay" "defects" "[I", Cond.methodLink RX5 67 yX5_isWithin, Cond.static yX5_isWithin, Cond.code yX5_isWithin cX5_isWithin 3 (some .boolean), Cond.methodLink RX5 174 yJ6_bitCount_0f7a4, Cond.static yJ6_bitCount_0f7a4, Cond.initialized RJ6, Cond.code yJ6_bitCount_0f7a4 cJ6_bitCount_0f7a4 1 (some .int), Cond.constant RJ6 265 (1431655765), Cond.constant RJ6 266 (858993459), Cond.constant RJ6 267 (252645135)]
def wsX5_loadFrom : List Cond := .code yX5_loadFrom cX5_loadFrom 5 (some .int) :: ((wsX5_loadFrom_r1 ++ wsX5_loadFrom_r2) ++ wsX50 ++ wsX30)
def wsX5_load_r1 : List Cond := [Cond.fieldLink RX5 57 "MarqueeDisplay" "offset" "I", Cond.methodLink RX5 155 yX5_loadFrom, Cond.instanceMethod yX5_loadFrom, Cond.selects RX5 yX5_loadFrom yX5_loadFrom, Cond.initialized RX5, Cond.code yX5_loadFrom cX5_loadFrom 5 (some .int), Cond.fieldLink RX5 41 "MarqueeDisplay" "columns" "I", Cond.fieldLink RX5 33 "MarqueeDisplay" "strip" "LMarqueeDisplay$Strip;", Cond.methodLink RX5 152 yX3_colorAt, Cond.instanceMethod yX3_colorAt, Cond.selects RX3 yX3_colorAt yX3_colorAt, Cond.initialized RX3, Cond.code yX3_colorAt cX3_colorAt 2 (some .int), Cond.fieldLink RX3 18 "MarqueeDisplay$Strip" "length" "I", Cond.fieldLink RX3 15 "MarqueeDisplay$Strip" "colors" "[I", Cond.methodLink RX3 83 yX3_wrap, Cond.instanceMethod yX3_wrap, Cond.selects RX3 yX3_wrap yX3_wrap, Cond.code yX3_wrap cX3_wrap 2 (some .int), Cond.methodLink RX3 78 yJ9_floorMod_7cf53, Cond.static yJ9_floorMod_7cf53, Cond.initialized RJ9, Cond.code yJ9_floorMod_7cf53 cJ9_floorMod_7cf53 3 (some .int), Cond.methodLink RX5 149 yX5_litRows]
def wsX5_load_r2 : List Cond := [Cond.instanceMethod yX5_litRows, Cond.selects RX5 yX5_litRows yX5_litRows, Cond.code yX5_litRows cX5_litRows 3 (some .int), Cond.fieldLink RX5 51 "MarqueeDisplay" "shift" "I", Cond.methodLink RX5 179 yX3_dotsAt, Cond.instanceMethod yX3_dotsAt, Cond.selects RX3 yX3_dotsAt yX3_dotsAt, Cond.code yX3_dotsAt cX3_dotsAt 2 (some .int), Cond.fieldLink RX3 9 "MarqueeDisplay$Strip" "dots" "[I", Cond.methodLink RX5 182 yX5_shifted, Cond.static yX5_shifted, Cond.code yX5_shifted cX5_shifted 2 (some .int), Cond.methodLink RX5 171 yX5_defectsOf, Cond.instanceMethod yX5_defectsOf, Cond.selects RX5 yX5_defectsOf yX5_defectsOf, Cond.code yX5_defectsOf cX5_defectsOf 2 (some .int), Cond.fieldLink RX5 37 "MarqueeDisplay" "defects" "[I", Cond.methodLink RX5 67 yX5_isWithin, Cond.static yX5_isWithin, Cond.code yX5_isWithin cX5_isWithin 3 (some .boolean), Cond.methodLink RX5 174 yJ6_bitCount_0f7a4, Cond.static yJ6_bitCount_0f7a4, Cond.initialized RJ6, Cond.code yJ6_bitCount_0f7a4 cJ6_bitCount_0f7a4 1 (some .int)]
def wsX5_load_r3 : List Cond := [Cond.constant RJ6 265 (1431655765), Cond.constant RJ6 266 (858993459), Cond.constant RJ6 267 (252645135)]
def wsX5_load : List Cond := .code yX5_load cX5_load 1 (some .int) :: ((wsX5_load_r1 ++ (wsX5_load_r2 ++ wsX5_load_r3)) ++ wsX50 ++ wsX30)
def wsX5_brightness_r1 : List Cond := [Cond.fieldLink RX5 57 "MarqueeDisplay" "offset" "I", Cond.fieldLink RX5 54 "MarqueeDisplay" "budget" "I", Cond.methodLink RX5 155 yX5_loadFrom, Cond.instanceMethod yX5_loadFrom, Cond.selects RX5 yX5_loadFrom yX5_loadFrom, Cond.initialized RX5, Cond.code yX5_loadFrom cX5_loadFrom 5 (some .int), Cond.fieldLink RX5 41 "MarqueeDisplay" "columns" "I", Cond.fieldLink RX5 33 "MarqueeDisplay" "strip" "LMarqueeDisplay$Strip;", Cond.methodLink RX5 152 yX3_colorAt, Cond.instanceMethod yX3_colorAt, Cond.selects RX3 yX3_colorAt yX3_colorAt, Cond.initialized RX3, Cond.code yX3_colorAt cX3_colorAt 2 (some .int), Cond.fieldLink RX3 18 "MarqueeDisplay$Strip" "length" "I", Cond.fieldLink RX3 15 "MarqueeDisplay$Strip" "colors" "[I", Cond.methodLink RX3 83 yX3_wrap, Cond.instanceMethod yX3_wrap, Cond.selects RX3 yX3_wrap yX3_wrap, Cond.code yX3_wrap cX3_wrap 2 (some .int), Cond.methodLink RX3 78 yJ9_floorMod_7cf53, Cond.static yJ9_floorMod_7cf53, Cond.initialized RJ9, Cond.code yJ9_floorMod_7cf53 cJ9_floorMod_7cf53 3 (some .int)]
def wsX5_brightness_r2 : List Cond := [Cond.methodLink RX5 149 yX5_litRows, Cond.instanceMethod yX5_litRows, Cond.selects RX5 yX5_litRows yX5_litRows, Cond.code yX5_litRows cX5_litRows 3 (some .int), Cond.fieldLink RX5 51 "MarqueeDisplay" "shift" "I", Cond.methodLink RX5 179 yX3_dotsAt, Cond.instanceMethod yX3_dotsAt, Cond.selects RX3 yX3_dotsAt yX3_dotsAt, Cond.code yX3_dotsAt cX3_dotsAt 2 (some .int), Cond.fieldLink RX3 9 "MarqueeDisplay$Strip" "dots" "[I", Cond.methodLink RX5 182 yX5_shifted, Cond.static yX5_shifted, Cond.code yX5_shifted cX5_shifted 2 (some .int), Cond.methodLink RX5 171 yX5_defectsOf, Cond.instanceMethod yX5_defectsOf, Cond.selects RX5 yX5_defectsOf yX5_defectsOf, Cond.code yX5_defectsOf cX5_defectsOf 2 (some .int), Cond.fieldLink RX5 37 "MarqueeDisplay" "defects" "[I", Cond.methodLink RX5 67 yX5_isWithin, Cond.static yX5_isWithin, Cond.code yX5_isWithin cX5_isWithin 3 (some .boolean), Cond.methodLink RX5 174 yJ6_bitCount_0f7a4, Cond.static yJ6_bitCount_0f7a4, Cond.initialized RJ6]
def wsX5_brightness_r3 : List Cond := [Cond.code yJ6_bitCount_0f7a4 cJ6_bitCount_0f7a4 1 (some .int), Cond.constant RJ6 265 (1431655765), Cond.constant RJ6 266 (858993459), Cond.constant RJ6 267 (252645135)]
def wsX5_brightness : List Cond := .code yX5_brightness cX5_brightness 2 (some .int) :: ((wsX5_brightness_r1 ++ (wsX5_brightness_r2 ++ wsX5_brightness_r3)) ++ wsX50 ++ wsX30)
def wsX5_heaviestOffset_r1 : List Cond := [Cond.fieldLink RX5 33 "MarqueeDisplay" "strip" "LMarqueeDisplay$Strip;", Cond.methodLink RX5 155 yX5_loadFrom, Cond.instanceMethod yX5_loadFrom, Cond.selects RX5 yX5_loadFrom yX5_loadFrom, Cond.initialized RX5, Cond.code yX5_loadFrom cX5_loadFrom 5 (some .int), Cond.fieldLink RX5 41 "MarqueeDisplay" "columns" "I", Cond.methodLink RX5 152 yX3_colorAt, Cond.instanceMethod yX3_colorAt, Cond.selects RX3 yX3_colorAt yX3_colorAt, Cond.initialized RX3, Cond.code yX3_colorAt cX3_colorAt 2 (some .int), Cond.fieldLink RX3 18 "MarqueeDisplay$Strip" "length" "I", Cond.fieldLink RX3 15 "MarqueeDisplay$Strip" "colors" "[I", Cond.methodLink RX3 83 yX3_wrap, Cond.instanceMethod yX3_wrap, Cond.selects RX3 yX3_wrap yX3_wrap, Cond.code yX3_wrap cX3_wrap 2 (some .int), Cond.methodLink RX3 78 yJ9_floorMod_7cf53, Cond.static yJ9_floorMod_7cf53, Cond.initialized RJ9, Cond.code yJ9_floorMod_7cf53 cJ9_floorMod_7cf53 3 (some .int), Cond.methodLink RX5 149 yX5_litRows, Cond.instanceMethod yX5_litRows]
def wsX5_heaviestOffset_r2 : List Cond := [Cond.selects RX5 yX5_litRows yX5_litRows, Cond.code yX5_litRows cX5_litRows 3 (some .int), Cond.fieldLink RX5 51 "MarqueeDisplay" "shift" "I", Cond.methodLink RX5 179 yX3_dotsAt, Cond.instanceMethod yX3_dotsAt, Cond.selects RX3 yX3_dotsAt yX3_dotsAt, Cond.code yX3_dotsAt cX3_dotsAt 2 (some .int), Cond.fieldLink RX3 9 "MarqueeDisplay$Strip" "dots" "[I", Cond.methodLink RX5 182 yX5_shifted, Cond.static yX5_shifted, Cond.code yX5_shifted cX5_shifted 2 (some .int), Cond.methodLink RX5 171 yX5_defectsOf, Cond.instanceMethod yX5_defectsOf, Cond.selects RX5 yX5_defectsOf yX5_defectsOf, Cond.code yX5_defectsOf cX5_defectsOf 2 (some .int), Cond.fieldLink RX5 37 "MarqueeDisplay" "defects" "[I", Cond.methodLink RX5 67 yX5_isWithin, Cond.static yX5_isWithin, Cond.code yX5_isWithin cX5_isWithin 3 (some .boolean), Cond.methodLink RX5 174 yJ6_bitCount_0f7a4, Cond.static yJ6_bitCount_0f7a4, Cond.initialized RJ6, Cond.code yJ6_bitCount_0f7a4 cJ6_bitCount_0f7a4 1 (some .int), Cond.constant RJ6 265 (1431655765)]
def wsX5_heaviestOffset_r3 : List Cond := [Cond.constant RJ6 266 (858993459), Cond.constant RJ6 267 (252645135)]
def wsX5_heaviestOffset : List Cond := .code yX5_heaviestOffset cX5_heaviestOffset 5 (some .int) :: ((wsX5_heaviestOffset_r1 ++ (wsX5_heaviestOffset_r2 ++ wsX5_heaviestOffset_r3)) ++ wsX50 ++ wsX30)
def wsX5_peakLoad_r1 : List Cond := [Cond.methodLink RX5 158 yX5_heaviestOffset, Cond.instanceMethod yX5_heaviestOffset, Cond.selects RX5 yX5_heaviestOffset yX5_heaviestOffset, Cond.initialized RX5, Cond.code yX5_heaviestOffset cX5_heaviestOffset 5 (some .int), Cond.fieldLink RX5 33 "MarqueeDisplay" "strip" "LMarqueeDisplay$Strip;", Cond.methodLink RX5 155 yX5_loadFrom, Cond.instanceMethod yX5_loadFrom, Cond.selects RX5 yX5_loadFrom yX5_loadFrom, Cond.code yX5_loadFrom cX5_loadFrom 5 (some .int), Cond.fieldLink RX5 41 "MarqueeDisplay" "columns" "I", Cond.methodLink RX5 152 yX3_colorAt, Cond.instanceMethod yX3_colorAt, Cond.selects RX3 yX3_colorAt yX3_colorAt, Cond.initialized RX3, Cond.code yX3_colorAt cX3_colorAt 2 (some .int), Cond.fieldLink RX3 18 "MarqueeDisplay$Strip" "length" "I", Cond.fieldLink RX3 15 "MarqueeDisplay$Strip" "colors" "[I", Cond.methodLink RX3 83 yX3_wrap, Cond.instanceMethod yX3_wrap, Cond.selects RX3 yX3_wrap yX3_wrap, Cond.code yX3_wrap cX3_wrap 2 (some .int), Cond.methodLink RX3 78 yJ9_floorMod_7cf53, Cond.static yJ9_floorMod_7cf53]
def wsX5_peakLoad_r2 : List Cond := [Cond.initialized RJ9, Cond.code yJ9_floorMod_7cf53 cJ9_floorMod_7cf53 3 (some .int), Cond.methodLink RX5 149 yX5_litRows, Cond.instanceMethod yX5_litRows, Cond.selects RX5 yX5_litRows yX5_litRows, Cond.code yX5_litRows cX5_litRows 3 (some .int), Cond.fieldLink RX5 51 "MarqueeDisplay" "shift" "I", Cond.methodLink RX5 179 yX3_dotsAt, Cond.instanceMethod yX3_dotsAt, Cond.selects RX3 yX3_dotsAt yX3_dotsAt, Cond.code yX3_dotsAt cX3_dotsAt 2 (some .int), Cond.fieldLink RX3 9 "MarqueeDisplay$Strip" "dots" "[I", Cond.methodLink RX5 182 yX5_shifted, Cond.static yX5_shifted, Cond.code yX5_shifted cX5_shifted 2 (some .int), Cond.methodLink RX5 171 yX5_defectsOf, Cond.instanceMethod yX5_defectsOf, Cond.selects RX5 yX5_defectsOf yX5_defectsOf, Cond.code yX5_defectsOf cX5_defectsOf 2 (some .int), Cond.fieldLink RX5 37 "MarqueeDisplay" "defects" "[I", Cond.methodLink RX5 67 yX5_isWithin, Cond.static yX5_isWithin, Cond.code yX5_isWithin cX5_isWithin 3 (some .boolean), Cond.methodLink RX5 174 yJ6_bitCount_0f7a4]
def wsX5_peakLoad_r3 : List Cond := [Cond.static yJ6_bitCount_0f7a4, Cond.initialized RJ6, Cond.code yJ6_bitCount_0f7a4 cJ6_bitCount_0f7a4 1 (some .int), Cond.constant RJ6 265 (1431655765), Cond.constant RJ6 266 (858993459), Cond.constant RJ6 267 (252645135)]
def wsX5_peakLoad : List Cond := .code yX5_peakLoad cX5_peakLoad 1 (some .int) :: ((wsX5_peakLoad_r1 ++ (wsX5_peakLoad_r2 ++ wsX5_peakLoad_r3)) ++ wsX50 ++ wsX30)
def wsX5_peakOffset_r1 : List Cond := [Cond.fieldLink RX5 33 "MarqueeDisplay" "strip" "LMarqueeDisplay$Strip;", Cond.methodLink RX5 158 yX5_heaviestOffset, Cond.instanceMethod yX5_heaviestOffset, Cond.selects RX5 yX5_heaviestOffset yX5_heaviestOffset, Cond.initialized RX5, Cond.code yX5_heaviestOffset cX5_heaviestOffset 5 (some .int), Cond.methodLink RX5 155 yX5_loadFrom, Cond.instanceMethod yX5_loadFrom, Cond.selects RX5 yX5_loadFrom yX5_loadFrom, Cond.code yX5_loadFrom cX5_loadFrom 5 (some .int), Cond.fieldLink RX5 41 "MarqueeDisplay" "columns" "I", Cond.methodLink RX5 152 yX3_colorAt, Cond.instanceMethod yX3_colorAt, Cond.selects RX3 yX3_colorAt yX3_colorAt, Cond.initialized RX3, Cond.code yX3_colorAt cX3_colorAt 2 (some .int), Cond.fieldLink RX3 18 "MarqueeDisplay$Strip" "length" "I", Cond.fieldLink RX3 15 "MarqueeDisplay$Strip" "colors" "[I", Cond.methodLink RX3 83 yX3_wrap, Cond.instanceMethod yX3_wrap, Cond.selects RX3 yX3_wrap yX3_wrap, Cond.code yX3_wrap cX3_wrap 2 (some .int), Cond.methodLink RX3 78 yJ9_floorMod_7cf53, Cond.static yJ9_floorMod_7cf53]
def wsX5_peakOffset_r2 : List Cond := [Cond.initialized RJ9, Cond.code yJ9_floorMod_7cf53 cJ9_floorMod_7cf53 3 (some .int), Cond.methodLink RX5 149 yX5_litRows, Cond.instanceMethod yX5_litRows, Cond.selects RX5 yX5_litRows yX5_litRows, Cond.code yX5_litRows cX5_litRows 3 (some .int), Cond.fieldLink RX5 51 "MarqueeDisplay" "shift" "I", Cond.methodLink RX5 179 yX3_dotsAt, Cond.instanceMethod yX3_dotsAt, Cond.selects RX3 yX3_dotsAt yX3_dotsAt, Cond.code yX3_dotsAt cX3_dotsAt 2 (some .int), Cond.fieldLink RX3 9 "MarqueeDisplay$Strip" "dots" "[I", Cond.methodLink RX5 182 yX5_shifted, Cond.static yX5_shifted, Cond.code yX5_shifted cX5_shifted 2 (some .int), Cond.methodLink RX5 171 yX5_defectsOf, Cond.instanceMethod yX5_defectsOf, Cond.selects RX5 yX5_defectsOf yX5_defectsOf, Cond.code yX5_defectsOf cX5_defectsOf 2 (some .int), Cond.fieldLink RX5 37 "MarqueeDisplay" "defects" "[I", Cond.methodLink RX5 67 yX5_isWithin, Cond.static yX5_isWithin, Cond.code yX5_isWithin cX5_isWithin 3 (some .boolean), Cond.methodLink RX5 174 yJ6_bitCount_0f7a4]
def wsX5_peakOffset_r3 : List Cond := [Cond.static yJ6_bitCount_0f7a4, Cond.initialized RJ6, Cond.code yJ6_bitCount_0f7a4 cJ6_bitCount_0f7a4 1 (some .int), Cond.constant RJ6 265 (1431655765), Cond.constant RJ6 266 (858993459), Cond.constant RJ6 267 (252645135)]
def wsX5_peakOffset : List Cond := .code yX5_peakOffset cX5_peakOffset 1 (some .int) :: ((wsX5_peakOffset_r1 ++ (wsX5_peakOffset_r2 ++ wsX5_peakOffset_r3)) ++ wsX50 ++ wsX30)
def wsX5_damageWith_r1 : List Cond := [Cond.fieldLink RX5 41 "MarqueeDisplay" "columns" "I", Cond.fieldLink RX5 33 "MarqueeDisplay" "strip" "LMarqueeDisplay$Strip;", Cond.fieldLink RX5 57 "MarqueeDisplay" "offset" "I", Cond.methodLink RX5 179 yX3_dotsAt, Cond.instanceMethod yX3_dotsAt, Cond.selects RX3 yX3_dotsAt yX3_dotsAt, Cond.initialized RX3, Cond.code yX3_dotsAt cX3_dotsAt 2 (some .int), Cond.fieldLink RX3 18 "MarqueeDisplay$Strip" "length" "I", Cond.fieldLink RX3 9 "MarqueeDisplay$Strip" "dots" "[I", Cond.methodLink RX3 83 yX3_wrap, Cond.instanceMethod yX3_wrap, Cond.selects RX3 yX3_wrap yX3_wrap, Cond.code yX3_wrap cX3_wrap 2 (some .int), Cond.methodLink RX3 78 yJ9_floorMod_7cf53, Cond.static yJ9_floorMod_7cf53, Cond.initialized RJ9, Cond.code yJ9_floorMod_7cf53 cJ9_floorMod_7cf53 3 (some .int), Cond.methodLink RX5 182 yX5_shifted, Cond.static yX5_shifted, Cond.initialized RX5, Cond.code yX5_shifted cX5_shifted 2 (some .int), Cond.methodLink RX5 171 yX5_defectsOf, Cond.instanceMethod yX5_defectsOf]
def wsX5_damageWith_r2 : List Cond := [Cond.selects RX5 yX5_defectsOf yX5_defectsOf, Cond.code yX5_defectsOf cX5_defectsOf 2 (some .int), Cond.fieldLink RX5 37 "MarqueeDisplay" "defects" "[I", Cond.methodLink RX5 67 yX5_isWithin, Cond.static yX5_isWithin, Cond.code yX5_isWithin cX5_isWithin 3 (some .boolean), Cond.methodLink RX5 174 yJ6_bitCount_0f7a4, Cond.static yJ6_bitCount_0f7a4, Cond.initialized RJ6, Cond.code yJ6_bitCount_0f7a4 cJ6_bitCount_0f7a4 1 (some .int), Cond.constant RJ6 265 (1431655765), Cond.constant RJ6 266 (858993459), Cond.constant RJ6 267 (252645135)]
def wsX5_damageWith : List Cond := .code yX5_damageWith cX5_damageWith 6 (some .int) :: ((wsX5_damageWith_r1 ++ wsX5_damageWith_r2) ++ wsX50 ++ wsX30)
def wsX5_damage_r1 : List Cond := [Cond.methodLink RX5 133 yX5_isShift, Cond.static yX5_isShift, Cond.initialized RX5, Cond.code yX5_isShift cX5_isShift 1 (some .boolean), Cond.methodLink RX5 67 yX5_isWithin, Cond.static yX5_isWithin, Cond.code yX5_isWithin cX5_isWithin 3 (some .boolean), Cond.methodLink RX5 161 yX5_damageWith, Cond.instanceMethod yX5_damageWith, Cond.selects RX5 yX5_damageWith yX5_damageWith, Cond.code yX5_damageWith cX5_damageWith 6 (some .int), Cond.fieldLink RX5 41 "MarqueeDisplay" "columns" "I", Cond.fieldLink RX5 33 "MarqueeDisplay" "strip" "LMarqueeDisplay$Strip;", Cond.fieldLink RX5 57 "MarqueeDisplay" "offset" "I", Cond.methodLink RX5 179 yX3_dotsAt, Cond.instanceMethod yX3_dotsAt, Cond.selects RX3 yX3_dotsAt yX3_dotsAt, Cond.initialized RX3, Cond.code yX3_dotsAt cX3_dotsAt 2 (some .int), Cond.fieldLink RX3 18 "MarqueeDisplay$Strip" "length" "I", Cond.fieldLink RX3 9 "MarqueeDisplay$Strip" "dots" "[I", Cond.methodLink RX3 83 yX3_wrap, Cond.instanceMethod yX3_wrap, Cond.selects RX3 yX3_wrap yX3_wrap]
def wsX5_damage_r2 : List Cond := [Cond.code yX3_wrap cX3_wrap 2 (some .int), Cond.methodLink RX3 78 yJ9_floorMod_7cf53, Cond.static yJ9_floorMod_7cf53, Cond.initialized RJ9, Cond.code yJ9_floorMod_7cf53 cJ9_floorMod_7cf53 3 (some .int), Cond.methodLink RX5 182 yX5_shifted, Cond.static yX5_shifted, Cond.code yX5_shifted cX5_shifted 2 (some .int), Cond.methodLink RX5 171 yX5_defectsOf, Cond.instanceMethod yX5_defectsOf, Cond.selects RX5 yX5_defectsOf yX5_defectsOf, Cond.code yX5_defectsOf cX5_defectsOf 2 (some .int), Cond.fieldLink RX5 37 "MarqueeDisplay" "defects" "[I", Cond.methodLink RX5 174 yJ6_bitCount_0f7a4, Cond.static yJ6_bitCount_0f7a4, Cond.initialized RJ6, Cond.code yJ6_bitCount_0f7a4 cJ6_bitCount_0f7a4 1 (some .int), Cond.constant RJ6 265 (1431655765), Cond.constant RJ6 266 (858993459), Cond.constant RJ6 267 (252645135)]
def wsX5_damage : List Cond := .code yX5_damage cX5_damage 2 (some .int) :: ((wsX5_damage_r1 ++ wsX5_damage_r2) ++ wsX50 ++ wsX30)
def wsX5_adoptBestShift_r1 : List Cond := [Cond.fieldLink RX5 164 "MarqueeDisplay" "SHIFTS_BEST_FIRST" "[I", Cond.fieldLink RX5 51 "MarqueeDisplay" "shift" "I", Cond.methodLink RX5 161 yX5_damageWith, Cond.instanceMethod yX5_damageWith, Cond.selects RX5 yX5_damageWith yX5_damageWith, Cond.initialized RX5, Cond.code yX5_damageWith cX5_damageWith 6 (some .int), Cond.fieldLink RX5 41 "MarqueeDisplay" "columns" "I", Cond.fieldLink RX5 33 "MarqueeDisplay" "strip" "LMarqueeDisplay$Strip;", Cond.fieldLink RX5 57 "MarqueeDisplay" "offset" "I", Cond.methodLink RX5 179 yX3_dotsAt, Cond.instanceMethod yX3_dotsAt, Cond.selects RX3 yX3_dotsAt yX3_dotsAt, Cond.initialized RX3, Cond.code yX3_dotsAt cX3_dotsAt 2 (some .int), Cond.fieldLink RX3 18 "MarqueeDisplay$Strip" "length" "I", Cond.fieldLink RX3 9 "MarqueeDisplay$Strip" "dots" "[I", Cond.methodLink RX3 83 yX3_wrap, Cond.instanceMethod yX3_wrap, Cond.selects RX3 yX3_wrap yX3_wrap, Cond.code yX3_wrap cX3_wrap 2 (some .int), Cond.methodLink RX3 78 yJ9_floorMod_7cf53, Cond.static yJ9_floorMod_7cf53, Cond.initialized RJ9]
def wsX5_adoptBestShift_r2 : List Cond := [Cond.code yJ9_floorMod_7cf53 cJ9_floorMod_7cf53 3 (some .int), Cond.methodLink RX5 182 yX5_shifted, Cond.static yX5_shifted, Cond.code yX5_shifted cX5_shifted 2 (some .int), Cond.methodLink RX5 171 yX5_defectsOf, Cond.instanceMethod yX5_defectsOf, Cond.selects RX5 yX5_defectsOf yX5_defectsOf, Cond.code yX5_defectsOf cX5_defectsOf 2 (some .int), Cond.fieldLink RX5 37 "MarqueeDisplay" "defects" "[I", Cond.methodLink RX5 67 yX5_isWithin, Cond.static yX5_isWithin, Cond.code yX5_isWithin cX5_isWithin 3 (some .boolean), Cond.methodLink RX5 174 yJ6_bitCount_0f7a4, Cond.static yJ6_bitCount_0f7a4, Cond.initialized RJ6, Cond.code yJ6_bitCount_0f7a4 cJ6_bitCount_0f7a4 1 (some .int), Cond.constant RJ6 265 (1431655765), Cond.constant RJ6 266 (858993459), Cond.constant RJ6 267 (252645135)]
def wsX5_adoptBestShift : List Cond := .code yX5_adoptBestShift cX5_adoptBestShift 8 (some .int) :: ((wsX5_adoptBestShift_r1 ++ wsX5_adoptBestShift_r2) ++ wsX50 ++ wsX30)
def wsX6_init : List Cond := .code yX6_init cX6_init 3 none :: ([.methodLink RX6 1 objectInit, .instanceMethod objectInit, .code objectInit ⟨#[0xb1]⟩ 1 none, .fieldLink RX6 7 "MarqueeDisplayModel" "columns" "I", .fieldLink RX6 13 "MarqueeDisplayModel" "gap" "I", .fieldLink RX6 16 "MarqueeDisplayModel" "speed" "I", .fieldLink RX6 19 "MarqueeDisplayModel" "budget" "I", .arrayClass .int, .fieldLink RX6 22 "MarqueeDisplayModel" "width" "[I", .fieldLink RX6 26 "MarqueeDisplayModel" "glyph" "[I", .fieldLink RX6 29 "MarqueeDisplayModel" "defective" "[I", .fieldLink RX6 32 "MarqueeDisplayModel" "text" "[I", .fieldLink RX6 35 "MarqueeDisplayModel" "size" "[I", .fieldLink RX6 38 "MarqueeDisplayModel" "color" "[I", .fieldLink RX6 41 "MarqueeDisplayModel" "letter" "[I", .fieldLink RX6 44 "MarqueeDisplayModel" "dots" "[I", .fieldLink RX6 47 "MarqueeDisplayModel" "paint" "[I"] ++ wsX60)
def wsX6_in : List Cond := .code yX6_in cX6_in 3 (some .boolean) :: ([])
def wsX6_has : List Cond := .code yX6_has cX6_has 2 (some .boolean) :: ([])
def wsX6_widthOf : List Cond := .code yX6_widthOf cX6_widthOf 4 (some .int) :: ([.fieldLink RX6 35 "MarqueeDisplayModel" "size" "[I", .fieldLink RX6 22 "MarqueeDisplayModel" "width" "[I", .fieldLink RX6 41 "MarqueeDisplayModel" "letter" "[I"] ++ wsX60)
def wsX6_startOf : List Cond := .code yX6_startOf cX6_startOf 4 (some .int) :: ([.fieldLink RX6 13 "MarqueeDisplayModel" "gap" "I", .methodLink RX6 50 yX6_widthOf, .instanceMethod yX6_widthOf, .selects RX6 yX6_widthOf yX6_widthOf, .initialized RX6, .code yX6_widthOf cX6_widthOf 4 (some .int), .fieldLink RX6 35 "MarqueeDisplayModel" "size" "[I", .fieldLink RX6 22 "MarqueeDisplayModel" "width" "[I", .fieldLink RX6 41 "MarqueeDisplayModel" "letter" "[I"] ++ wsX60)
def wsX6_all : List Cond := .code yX6_all cX6_all 1 (some .int) :: ([.fieldLink RX6 54 "MarqueeDisplayModel" "messages" "I", .methodLink RX6 57 yX6_startOf, .instanceMethod yX6_startOf, .selects RX6 yX6_startOf yX6_startOf, .initialized RX6, .code yX6_startOf cX6_startOf 4 (some .int), .fieldLink RX6 13 "MarqueeDisplayModel" "gap" "I", .methodLink RX6 50 yX6_widthOf, .instanceMethod yX6_widthOf, .selects RX6 yX6_widthOf yX6_widthOf, .code yX6_widthOf cX6_widthOf 4 (some .int), .fieldLink RX6 35 "MarqueeDisplayModel" "size" "[I", .fieldLink RX6 22 "MarqueeDisplayModel" "width" "[I", .fieldLink RX6 41 "MarqueeDisplayModel" "letter" "[I"] ++ wsX60)
def wsX6_settles : List Cond := .code yX6_settles cX6_settles 2 (some .int) :: ([.fieldLink RX6 64 "MarqueeDisplayModel" "offset" "I", .methodLink RX6 60 yX6_all, .instanceMethod yX6_all, .selects RX6 yX6_all yX6_all, .initialized RX6, .code yX6_all cX6_all 1 (some .int), .fieldLink RX6 54 "MarqueeDisplayModel" "messages" "I", .methodLink RX6 57 yX6_startOf, .instanceMethod yX6_startOf, .selects RX6 yX6_startOf yX6_startOf, .code yX6_startOf cX6_startOf 4 (some .int), .fieldLink RX6 13 "MarqueeDisplayModel" "gap" "I", .methodLink RX6 50 yX6_widthOf, .instanceMethod yX6_widthOf, .selects RX6 yX6_widthOf yX6_widthOf, .code yX6_widthOf cX6_widthOf 4 (some .int), .fieldLink RX6 35 "MarqueeDisplayModel" "size" "[I", .fieldLink RX6 22 "MarqueeDisplayModel" "width" "[I", .fieldLink RX6 41 "MarqueeDisplayModel" "letter" "[I"] ++ wsX60)
def wsX6_dark : List Cond := .code yX6_dark cX6_dark 1 none :: ([.fieldLink RX6 44 "MarqueeDisplayModel" "dots" "[I", .fieldLink RX6 67 "MarqueeDisplayModel" "strip" "I", .fieldLink RX6 47 "MarqueeDisplayModel" "paint" "[I"] ++ wsX60)
def wsX6_draws : List Cond := .code yX6_draws cX6_draws 5 none :: ([.fieldLink RX6 67 "MarqueeDisplayModel" "strip" "I", .fieldLink RX6 54 "MarqueeDisplayModel" "messages" "I", .fieldLink RX6 35 "MarqueeDisplayModel" "size" "[I", .fieldLink RX6 41 "MarqueeDisplayModel" "letter" "[I", .fieldLink RX6 22 "MarqueeDisplayModel" "width" "[I", .fieldLink RX6 44 "MarqueeDisplayModel" "dots" "[I", .fieldLink RX6 26 "MarqueeDisplayModel" "glyph" "[I", .fieldLink RX6 47 "MarqueeDisplayModel" "paint" "[I", .fieldLink RX6 38 "MarqueeDisplayModel" "color" "[I", .fieldLink RX6 13 "MarqueeDisplayModel" "gap" "I", .methodLink RX6 70 yX6_dark, .instanceMethod yX6_dark, .selects RX6 yX6_dark yX6_dark, .initialized RX6, .code yX6_dark cX6_dark 1 none] ++ wsX60)
def wsX6_setGlyphWidth_r1 : List Cond := [Cond.fieldLink RX6 22 "MarqueeDisplayModel" "width" "[I", Cond.fieldLink RX6 26 "MarqueeDisplayModel" "glyph" "[I", Cond.methodLink RX6 73 yX6_in, Cond.static yX6_in, Cond.initialized RX6, Cond.code yX6_in cX6_in 3 (some .boolean), Cond.methodLink RX6 77 yX6_settles, Cond.instanceMethod yX6_settles, Cond.selects RX6 yX6_settles yX6_settles, Cond.code yX6_settles cX6_settles 2 (some .int), Cond.fieldLink RX6 64 "MarqueeDisplayModel" "offset" "I", Cond.methodLink RX6 60 yX6_all, Cond.instanceMethod yX6_all, Cond.selects RX6 yX6_all yX6_all, Cond.code yX6_all cX6_all 1 (some .int), Cond.fieldLink RX6 54 "MarqueeDisplayModel" "messages" "I", Cond.methodLink RX6 57 yX6_startOf, Cond.instanceMethod yX6_startOf, Cond.selects RX6 yX6_startOf yX6_startOf, Cond.code yX6_startOf cX6_startOf 4 (some .int), Cond.fieldLink RX6 13 "MarqueeDisplayModel" "gap" "I", Cond.methodLink RX6 50 yX6_widthOf, Cond.instanceMethod yX6_widthOf, Cond.selects RX6 yX6_widthOf yX6_widthOf]
def wsX6_setGlyphWidth_r2 : List Cond := [Cond.code yX6_widthOf cX6_widthOf 4 (some .int), Cond.fieldLink RX6 35 "MarqueeDisplayModel" "size" "[I", Cond.fieldLink RX6 41 "MarqueeDisplayModel" "letter" "[I"]
def wsX6_setGlyphWidth : List Cond := .code yX6_setGlyphWidth cX6_setGlyphWidth 5 (some .int) :: ((wsX6_setGlyphWidth_r1 ++ wsX6_setGlyphWidth_r2) ++ wsX60)
def wsX6_setGlyphColumn : List Cond := .code yX6_setGlyphColumn cX6_setGlyphColumn 5 (some .int) :: ([.fieldLink RX6 22 "MarqueeDisplayModel" "width" "[I", .fieldLink RX6 26 "MarqueeDisplayModel" "glyph" "[I", .methodLink RX6 73 yX6_in, .static yX6_in, .initialized RX6, .code yX6_in cX6_in 3 (some .boolean)] ++ wsX60)
def wsX6_glyphColumn : List Cond := .code yX6_glyphColumn cX6_glyphColumn 3 (some .int) :: ([.fieldLink RX6 22 "MarqueeDisplayModel" "width" "[I", .fieldLink RX6 26 "MarqueeDisplayModel" "glyph" "[I", .methodLink RX6 73 yX6_in, .static yX6_in, .initialized RX6, .code yX6_in cX6_in 3 (some .boolean)] ++ wsX60)
def wsX6_append : List Cond := .code yX6_append cX6_append 2 (some .int) :: ([.fieldLink RX6 80 "MarqueeDisplayModel" "length" "I", .fieldLink RX6 32 "MarqueeDisplayModel" "text" "[I", .methodLink RX6 73 yX6_in, .static yX6_in, .initialized RX6, .code yX6_in cX6_in 3 (some .boolean)] ++ wsX60)
def wsX6_clearText : List Cond := .code yX6_clearText cX6_clearText 2 (some .int) :: ([.fieldLink RX6 80 "MarqueeDisplayModel" "length" "I"] ++ wsX60)
def wsX6_copies : List Cond := .code yX6_copies cX6_copies 4 none :: ([.fieldLink RX6 35 "MarqueeDisplayModel" "size" "[I", .fieldLink RX6 38 "MarqueeDisplayModel" "color" "[I", .fieldLink RX6 41 "MarqueeDisplayModel" "letter" "[I"] ++ wsX60)
def wsX6_insertMessage_r1 : List Cond := [Cond.fieldLink RX6 54 "MarqueeDisplayModel" "messages" "I", Cond.fieldLink RX6 80 "MarqueeDisplayModel" "length" "I", Cond.fieldLink RX6 35 "MarqueeDisplayModel" "size" "[I", Cond.fieldLink RX6 38 "MarqueeDisplayModel" "color" "[I", Cond.fieldLink RX6 41 "MarqueeDisplayModel" "letter" "[I", Cond.fieldLink RX6 32 "MarqueeDisplayModel" "text" "[I", Cond.methodLink RX6 73 yX6_in, Cond.static yX6_in, Cond.initialized RX6, Cond.code yX6_in cX6_in 3 (some .boolean), Cond.methodLink RX6 83 yX6_copies, Cond.instanceMethod yX6_copies, Cond.selects RX6 yX6_copies yX6_copies, Cond.code yX6_copies cX6_copies 4 none, Cond.methodLink RX6 77 yX6_settles, Cond.instanceMethod yX6_settles, Cond.selects RX6 yX6_settles yX6_settles, Cond.code yX6_settles cX6_settles 2 (some .int), Cond.fieldLink RX6 64 "MarqueeDisplayModel" "offset" "I", Cond.methodLink RX6 60 yX6_all, Cond.instanceMethod yX6_all, Cond.selects RX6 yX6_all yX6_all, Cond.code yX6_all cX6_all 1 (some .int), Cond.methodLink RX6 57 yX6_startOf]
def wsX6_insertMessage_r2 : List Cond := [Cond.instanceMethod yX6_startOf, Cond.selects RX6 yX6_startOf yX6_startOf, Cond.code yX6_startOf cX6_startOf 4 (some .int), Cond.fieldLink RX6 13 "MarqueeDisplayModel" "gap" "I", Cond.methodLink RX6 50 yX6_widthOf, Cond.instanceMethod yX6_widthOf, Cond.selects RX6 yX6_widthOf yX6_widthOf, Cond.code yX6_widthOf cX6_widthOf 4 (some .int), Cond.fieldLink RX6 22 "MarqueeDisplayModel" "width" "[I"]
def wsX6_insertMessage : List Cond := .code yX6_insertMessage cX6_insertMessage 4 (some .int) :: ((wsX6_insertMessage_r1 ++ wsX6_insertMessage_r2) ++ wsX60)
def wsX6_isMessage : List Cond := .code yX6_isMessage cX6_isMessage 2 (some .boolean) :: ([.fieldLink RX6 54 "MarqueeDisplayModel" "messages" "I", .methodLink RX6 73 yX6_in, .static yX6_in, .initialized RX6, .code yX6_in cX6_in 3 (some .boolean)] ++ wsX60)
def wsX6_removeMessage_r1 : List Cond := [Cond.fieldLink RX6 54 "MarqueeDisplayModel" "messages" "I", Cond.methodLink RX6 87 yX6_isMessage, Cond.instanceMethod yX6_isMessage, Cond.selects RX6 yX6_isMessage yX6_isMessage, Cond.initialized RX6, Cond.code yX6_isMessage cX6_isMessage 2 (some .boolean), Cond.methodLink RX6 73 yX6_in, Cond.static yX6_in, Cond.code yX6_in cX6_in 3 (some .boolean), Cond.methodLink RX6 83 yX6_copies, Cond.instanceMethod yX6_copies, Cond.selects RX6 yX6_copies yX6_copies, Cond.code yX6_copies cX6_copies 4 none, Cond.fieldLink RX6 35 "MarqueeDisplayModel" "size" "[I", Cond.fieldLink RX6 38 "MarqueeDisplayModel" "color" "[I", Cond.fieldLink RX6 41 "MarqueeDisplayModel" "letter" "[I", Cond.methodLink RX6 77 yX6_settles, Cond.instanceMethod yX6_settles, Cond.selects RX6 yX6_settles yX6_settles, Cond.code yX6_settles cX6_settles 2 (some .int), Cond.fieldLink RX6 64 "MarqueeDisplayModel" "offset" "I", Cond.methodLink RX6 60 yX6_all, Cond.instanceMethod yX6_all, Cond.selects RX6 yX6_all yX6_all]
def wsX6_removeMessage_r2 : List Cond := [Cond.code yX6_all cX6_all 1 (some .int), Cond.methodLink RX6 57 yX6_startOf, Cond.instanceMethod yX6_startOf, Cond.selects RX6 yX6_startOf yX6_startOf, Cond.code yX6_startOf cX6_startOf 4 (some .int), Cond.fieldLink RX6 13 "MarqueeDisplayModel" "gap" "I", Cond.methodLink RX6 50 yX6_widthOf, Cond.instanceMethod yX6_widthOf, Cond.selects RX6 yX6_widthOf yX6_widthOf, Cond.code yX6_widthOf cX6_widthOf 4 (some .int), Cond.fieldLink RX6 22 "MarqueeDisplayModel" "width" "[I"]
def wsX6_removeMessage : List Cond := .code yX6_removeMessage cX6_removeMessage 3 (some .int) :: ((wsX6_removeMessage_r1 ++ wsX6_removeMessage_r2) ++ wsX60)
def wsX6_setColor : List Cond := .code yX6_setColor cX6_setColor 4 (some .int) :: ([.fieldLink RX6 38 "MarqueeDisplayModel" "color" "[I", .methodLink RX6 87 yX6_isMessage, .instanceMethod yX6_isMessage, .selects RX6 yX6_isMessage yX6_isMessage, .initialized RX6, .code yX6_isMessage cX6_isMessage 2 (some .boolean), .fieldLink RX6 54 "MarqueeDisplayModel" "messages" "I", .methodLink RX6 73 yX6_in, .static yX6_in, .code yX6_in cX6_in 3 (some .boolean)] ++ wsX60)
def wsX6_messageWidth : List Cond := .code yX6_messageWidth cX6_messageWidth 2 (some .int) :: ([.methodLink RX6 87 yX6_isMessage, .instanceMethod yX6_isMessage, .selects RX6 yX6_isMessage yX6_isMessage, .initialized RX6, .code yX6_isMessage cX6_isMessage 2 (some .boolean), .fieldLink RX6 54 "MarqueeDisplayModel" "messages" "I", .methodLink RX6 73 yX6_in, .static yX6_in, .code yX6_in cX6_in 3 (some .boolean), .methodLink RX6 50 yX6_widthOf, .instanceMethod yX6_widthOf, .selects RX6 yX6_widthOf yX6_widthOf, .code yX6_widthOf cX6_widthOf 4 (some .int), .fieldLink RX6 35 "MarqueeDisplayModel" "size" "[I", .fieldLink RX6 22 "MarqueeDisplayModel" "width" "[I", .fieldLink RX6 41 "MarqueeDisplayModel" "letter" "[I"] ++ wsX60)
def wsX6_messageStart : List Cond := .code yX6_messageStart cX6_messageStart 2 (some .int) :: ([.methodLink RX6 87 yX6_isMessage, .instanceMethod yX6_isMessage, .selects RX6 yX6_isMessage yX6_isMessage, .initialized RX6, .code yX6_isMessage cX6_isMessage 2 (some .boolean), .fieldLink RX6 54 "MarqueeDisplayModel" "messages" "I", .methodLink RX6 73 yX6_in, .static yX6_in, .code yX6_in cX6_in 3 (some .boolean), .methodLink RX6 57 yX6_startOf, .instanceMethod yX6_startOf, .selects RX6 yX6_startOf yX6_startOf, .code yX6_startOf cX6_startOf 4 (some .int), .fieldLink RX6 13 "MarqueeDisplayModel" "gap" "I", .methodLink RX6 50 yX6_widthOf, .instanceMethod yX6_widthOf, .selects RX6 yX6_widthOf yX6_widthOf, .code yX6_widthOf cX6_widthOf 4 (some .int), .fieldLink RX6 35 "MarqueeDisplayModel" "size" "[I", .fieldLink RX6 22 "MarqueeDisplayModel" "width" "[I", .fieldLink RX6 41 "MarqueeDisplayModel" "letter" "[I"] ++ wsX60)
def wsX6_setColumns : List Cond := .code yX6_setColumns cX6_setColumns 4 (some .int) :: ([.fieldLink RX6 7 "MarqueeDisplayModel" "columns" "I", .fieldLink RX6 29 "MarqueeDisplayModel" "defective" "[I", .methodLink RX6 73 yX6_in, .static yX6_in, .initialized RX6, .code yX6_in cX6_in 3 (some .boolean)] ++ wsX60)
def wsX6_setGap_r1 : List Cond := [Cond.fieldLink RX6 13 "MarqueeDisplayModel" "gap" "I", Cond.methodLink RX6 73 yX6_in, Cond.static yX6_in, Cond.initialized RX6, Cond.code yX6_in cX6_in 3 (some .boolean), Cond.methodLink RX6 77 yX6_settles, Cond.instanceMethod yX6_settles, Cond.selects RX6 yX6_settles yX6_settles, Cond.code yX6_settles cX6_settles 2 (some .int), Cond.fieldLink RX6 64 "MarqueeDisplayModel" "offset" "I", Cond.methodLink RX6 60 yX6_all, Cond.instanceMethod yX6_all, Cond.selects RX6 yX6_all yX6_all, Cond.code yX6_all cX6_all 1 (some .int), Cond.fieldLink RX6 54 "MarqueeDisplayModel" "messages" "I", Cond.methodLink RX6 57 yX6_startOf, Cond.instanceMethod yX6_startOf, Cond.selects RX6 yX6_startOf yX6_startOf, Cond.code yX6_startOf cX6_startOf 4 (some .int), Cond.methodLink RX6 50 yX6_widthOf, Cond.instanceMethod yX6_widthOf, Cond.selects RX6 yX6_widthOf yX6_widthOf, Cond.code yX6_widthOf cX6_widthOf 4 (some .int), Cond.fieldLink RX6 35 "MarqueeDisplayModel" "size" "[I"]
def wsX6_setGap_r2 : List Cond := [Cond.fieldLink RX6 22 "MarqueeDisplayModel" "width" "[I", Cond.fieldLink RX6 41 "MarqueeDisplayModel" "letter" "[I"]
def wsX6_setGap : List Cond := .code yX6_setGap cX6_setGap 3 (some .int) :: ((wsX6_setGap_r1 ++ wsX6_setGap_r2) ++ wsX60)
def wsX6_setSpeed : List Cond := .code yX6_setSpeed cX6_setSpeed 3 (some .int) :: ([.fieldLink RX6 16 "MarqueeDisplayModel" "speed" "I", .fieldLink RX6 91 "MarqueeDisplayModel" "counter" "I", .methodLink RX6 73 yX6_in, .static yX6_in, .initialized RX6, .code yX6_in cX6_in 3 (some .boolean)] ++ wsX60)
def wsX6_setShift : List Cond := .code yX6_setShift cX6_setShift 3 (some .int) :: ([.fieldLink RX6 94 "MarqueeDisplayModel" "shift" "I", .methodLink RX6 73 yX6_in, .static yX6_in, .initialized RX6, .code yX6_in cX6_in 3 (some .boolean)] ++ wsX60)
def wsX6_setBudget : List Cond := .code yX6_setBudget cX6_setBudget 3 (some .int) :: ([.fieldLink RX6 19 "MarqueeDisplayModel" "budget" "I", .methodLink RX6 73 yX6_in, .static yX6_in, .initialized RX6, .code yX6_in cX6_in 3 (some .boolean)] ++ wsX60)
def wsX6_setDefective : List Cond := .code yX6_setDefective cX6_setDefective 7 (some .int) :: ([.fieldLink RX6 7 "MarqueeDisplayModel" "columns" "I", .fieldLink RX6 29 "MarqueeDisplayModel" "defective" "[I", .methodLink RX6 73 yX6_in, .static yX6_in, .initialized RX6, .code yX6_in cX6_in 3 (some .boolean), .methodLink RX6 97 yX6_has, .static yX6_has, .code yX6_has cX6_has 2 (some .boolean)] ++ wsX60)
def wsX6_tick : List Cond := .code yX6_tick cX6_tick 4 (some .int) :: ([.fieldLink RX6 91 "MarqueeDisplayModel" "counter" "I", .fieldLink RX6 16 "MarqueeDisplayModel" "speed" "I", .fieldLink RX6 64 "MarqueeDisplayModel" "offset" "I", .methodLink RX6 73 yX6_in, .static yX6_in, .initialized RX6, .code yX6_in cX6_in 3 (some .boolean), .methodLink RX6 60 yX6_all, .instanceMethod yX6_all, .selects RX6 yX6_all yX6_all, .code yX6_all cX6_all 1 (some .int), .fieldLink RX6 54 "MarqueeDisplayModel" "messages" "I", .methodLink RX6 57 yX6_startOf, .instanceMethod yX6_startOf, .selects RX6 yX6_startOf yX6_startOf, .code yX6_startOf cX6_startOf 4 (some .int), .fieldLink RX6 13 "MarqueeDisplayModel" "gap" "I", .methodLink RX6 50 yX6_widthOf, .instanceMethod yX6_widthOf, .selects RX6 yX6_widthOf yX6_widthOf, .code yX6_widthOf cX6_widthOf 4 (some .int), .fieldLink RX6 35 "MarqueeDisplayModel" "size" "[I", .fieldLink RX6 22 "MarqueeDisplayModel" "width" "[I", .fieldLink RX6 41 "MarqueeDisplayModel" "letter" "[I"] ++ wsX60)
def wsX6_offset : List Cond := .code yX6_offset cX6_offset 1 (some .int) :: ([.fieldLink RX6 64 "MarqueeDisplayModel" "offset" "I"] ++ wsX60)
def wsX6_stripLength : List Cond := .code yX6_stripLength cX6_stripLength 1 (some .int) :: ([.methodLink RX6 60 yX6_all, .instanceMethod yX6_all, .selects RX6 yX6_all yX6_all, .initialized RX6, .code yX6_all cX6_all 1 (some .int), .fieldLink RX6 54 "MarqueeDisplayModel" "messages" "I", .methodLink RX6 57 yX6_startOf, .instanceMethod yX6_startOf, .selects RX6 yX6_startOf yX6_startOf, .code yX6_startOf cX6_startOf 4 (some .int), .fieldLink RX6 13 "MarqueeDisplayModel" "gap" "I", .methodLink RX6 50 yX6_widthOf, .instanceMethod yX6_widthOf, .selects RX6 yX6_widthOf yX6_widthOf, .code yX6_widthOf cX6_widthOf 4 (some .int), .fieldLink RX6 35 "MarqueeDisplayModel" "size" "[I", .fieldLink RX6 22 "MarqueeDisplayModel" "width" "[I", .fieldLink RX6 41 "MarqueeDisplayModel" "letter" "[I"] ++ wsX60)
def wsX6_period : List Cond := .code yX6_period cX6_period 1 (some .int) :: ([.fieldLink RX6 16 "MarqueeDisplayModel" "speed" "I", .methodLink RX6 60 yX6_all, .instanceMethod yX6_all, .selects RX6 yX6_all yX6_all, .initialized RX6, .code yX6_all cX6_all 1 (some .int), .fieldLink RX6 54 "MarqueeDisplayModel" "messages" "I", .methodLink RX6 57 yX6_startOf, .instanceMethod yX6_startOf, .selects RX6 yX6_startOf yX6_startOf, .code yX6_startOf cX6_startOf 4 (some .int), .fieldLink RX6 13 "MarqueeDisplayModel" "gap" "I", .methodLink RX6 50 yX6_widthOf, .instanceMethod yX6_widthOf, .selects RX6 yX6_widthOf yX6_widthOf, .code yX6_widthOf cX6_widthOf 4 (some .int), .fieldLink RX6 35 "MarqueeDisplayModel" "size" "[I", .fieldLink RX6 22 "MarqueeDisplayModel" "width" "[I", .fieldLink RX6 41 "MarqueeDisplayModel" "letter" "[I"] ++ wsX60)
def wsX6_ticksUntilWhole_r1 : List Cond := [Cond.fieldLink RX6 7 "MarqueeDisplayModel" "columns" "I", Cond.fieldLink RX6 64 "MarqueeDisplayModel" "offset" "I", Cond.fieldLink RX6 16 "MarqueeDisplayModel" "speed" "I", Cond.fieldLink RX6 91 "MarqueeDisplayModel" "counter" "I", Cond.methodLink RX6 87 yX6_isMessage, Cond.instanceMethod yX6_isMessage, Cond.selects RX6 yX6_isMessage yX6_isMessage, Cond.initialized RX6, Cond.code yX6_isMessage cX6_isMessage 2 (some .boolean), Cond.fieldLink RX6 54 "MarqueeDisplayModel" "messages" "I", Cond.methodLink RX6 73 yX6_in, Cond.static yX6_in, Cond.code yX6_in cX6_in 3 (some .boolean), Cond.methodLink RX6 50 yX6_widthOf, Cond.instanceMethod yX6_widthOf, Cond.selects RX6 yX6_widthOf yX6_widthOf, Cond.code yX6_widthOf cX6_widthOf 4 (some .int), Cond.fieldLink RX6 35 "MarqueeDisplayModel" "size" "[I", Cond.fieldLink RX6 22 "MarqueeDisplayModel" "width" "[I", Cond.fieldLink RX6 41 "MarqueeDisplayModel" "letter" "[I", Cond.methodLink RX6 60 yX6_all, Cond.instanceMethod yX6_all, Cond.selects RX6 yX6_all yX6_all, Cond.code yX6_all cX6_all 1 (some .int)]
def wsX6_ticksUntilWhole_r2 : List Cond := [Cond.methodLink RX6 57 yX6_startOf, Cond.instanceMethod yX6_startOf, Cond.selects RX6 yX6_startOf yX6_startOf, Cond.code yX6_startOf cX6_startOf 4 (some .int), Cond.fieldLink RX6 13 "MarqueeDisplayModel" "gap" "I"]
def wsX6_ticksUntilWhole : List Cond := .code yX6_ticksUntilWhole cX6_ticksUntilWhole 7 (some .int) :: ((wsX6_ticksUntilWhole_r1 ++ wsX6_ticksUntilWhole_r2) ++ wsX60)
def wsX6_active : List Cond := .code yX6_active cX6_active 5 (some .int) :: ([.fieldLink RX6 67 "MarqueeDisplayModel" "strip" "I", .fieldLink RX6 94 "MarqueeDisplayModel" "shift" "I", .fieldLink RX6 44 "MarqueeDisplayModel" "dots" "[I", .fieldLink RX6 47 "MarqueeDisplayModel" "paint" "[I", .methodLink RX6 97 yX6_has, .static yX6_has, .initialized RX6, .code yX6_has cX6_has 2 (some .boolean)] ++ wsX60)
def wsX6_loadAt : List Cond := .code yX6_loadAt cX6_loadAt 6 (some .int) :: ([.fieldLink RX6 7 "MarqueeDisplayModel" "columns" "I", .fieldLink RX6 29 "MarqueeDisplayModel" "defective" "[I", .methodLink RX6 97 yX6_has, .static yX6_has, .initialized RX6, .code yX6_has cX6_has 2 (some .boolean), .methodLink RX6 101 yX6_active, .instanceMethod yX6_active, .selects RX6 yX6_active yX6_active, .code yX6_active cX6_active 5 (some .int), .fieldLink RX6 67 "MarqueeDisplayModel" "strip" "I", .fieldLink RX6 94 "MarqueeDisplayModel" "shift" "I", .fieldLink RX6 44 "MarqueeDisplayModel" "dots" "[I", .fieldLink RX6 47 "MarqueeDisplayModel" "paint" "[I"] ++ wsX60)
def wsX6_pixel_r1 : List Cond := [Cond.fieldLink RX6 7 "MarqueeDisplayModel" "columns" "I", Cond.fieldLink RX6 29 "MarqueeDisplayModel" "defective" "[I", Cond.fieldLink RX6 64 "MarqueeDisplayModel" "offset" "I", Cond.methodLink RX6 73 yX6_in, Cond.static yX6_in, Cond.initialized RX6, Cond.code yX6_in cX6_in 3 (some .boolean), Cond.methodLink RX6 105 yX6_draws, Cond.instanceMethod yX6_draws, Cond.selects RX6 yX6_draws yX6_draws, Cond.code yX6_draws cX6_draws 5 none, Cond.fieldLink RX6 67 "MarqueeDisplayModel" "strip" "I", Cond.fieldLink RX6 54 "MarqueeDisplayModel" "messages" "I", Cond.fieldLink RX6 35 "MarqueeDisplayModel" "size" "[I", Cond.fieldLink RX6 41 "MarqueeDisplayModel" "letter" "[I", Cond.fieldLink RX6 22 "MarqueeDisplayModel" "width" "[I", Cond.fieldLink RX6 44 "MarqueeDisplayModel" "dots" "[I", Cond.fieldLink RX6 26 "MarqueeDisplayModel" "glyph" "[I", Cond.fieldLink RX6 47 "MarqueeDisplayModel" "paint" "[I", Cond.fieldLink RX6 38 "MarqueeDisplayModel" "color" "[I", Cond.fieldLink RX6 13 "MarqueeDisplayModel" "gap" "I", Cond.methodLink RX6 70 yX6_dark, Cond.instanceMethod yX6_dark, Cond.selects RX6 yX6_dark yX6_dark]
def wsX6_pixel_r2 : List Cond := [Cond.code yX6_dark cX6_dark 1 none, Cond.methodLink RX6 97 yX6_has, Cond.static yX6_has, Cond.code yX6_has cX6_has 2 (some .boolean), Cond.methodLink RX6 101 yX6_active, Cond.instanceMethod yX6_active, Cond.selects RX6 yX6_active yX6_active, Cond.code yX6_active cX6_active 5 (some .int), Cond.fieldLink RX6 94 "MarqueeDisplayModel" "shift" "I"]
def wsX6_pixel : List Cond := .code yX6_pixel cX6_pixel 3 (some .int) :: ((wsX6_pixel_r1 ++ wsX6_pixel_r2) ++ wsX60)
def wsX6_load_r1 : List Cond := [Cond.fieldLink RX6 64 "MarqueeDisplayModel" "offset" "I", Cond.methodLink RX6 105 yX6_draws, Cond.instanceMethod yX6_draws, Cond.selects RX6 yX6_draws yX6_draws, Cond.initialized RX6, Cond.code yX6_draws cX6_draws 5 none, Cond.fieldLink RX6 67 "MarqueeDisplayModel" "strip" "I", Cond.fieldLink RX6 54 "MarqueeDisplayModel" "messages" "I", Cond.fieldLink RX6 35 "MarqueeDisplayModel" "size" "[I", Cond.fieldLink RX6 41 "MarqueeDisplayModel" "letter" "[I", Cond.fieldLink RX6 22 "MarqueeDisplayModel" "width" "[I", Cond.fieldLink RX6 44 "MarqueeDisplayModel" "dots" "[I", Cond.fieldLink RX6 26 "MarqueeDisplayModel" "glyph" "[I", Cond.fieldLink RX6 47 "MarqueeDisplayModel" "paint" "[I", Cond.fieldLink RX6 38 "MarqueeDisplayModel" "color" "[I", Cond.fieldLink RX6 13 "MarqueeDisplayModel" "gap" "I", Cond.methodLink RX6 70 yX6_dark, Cond.instanceMethod yX6_dark, Cond.selects RX6 yX6_dark yX6_dark, Cond.code yX6_dark cX6_dark 1 none, Cond.methodLink RX6 108 yX6_loadAt, Cond.instanceMethod yX6_loadAt, Cond.selects RX6 yX6_loadAt yX6_loadAt, Cond.code yX6_loadAt cX6_loadAt 6 (some .int)]
def wsX6_load_r2 : List Cond := [Cond.fieldLink RX6 7 "MarqueeDisplayModel" "columns" "I", Cond.fieldLink RX6 29 "MarqueeDisplayModel" "defective" "[I", Cond.methodLink RX6 97 yX6_has, Cond.static yX6_has, Cond.code yX6_has cX6_has 2 (some .boolean), Cond.methodLink RX6 101 yX6_active, Cond.instanceMethod yX6_active, Cond.selects RX6 yX6_active yX6_active, Cond.code yX6_active cX6_active 5 (some .int), Cond.fieldLink RX6 94 "MarqueeDisplayModel" "shift" "I"]
def wsX6_load : List Cond := .code yX6_load cX6_load 1 (some .int) :: ((wsX6_load_r1 ++ wsX6_load_r2) ++ wsX60)
def wsX6_brightness_r1 : List Cond := [Cond.fieldLink RX6 19 "MarqueeDisplayModel" "budget" "I", Cond.methodLink RX6 111 yX6_load, Cond.instanceMethod yX6_load, Cond.selects RX6 yX6_load yX6_load, Cond.initialized RX6, Cond.code yX6_load cX6_load 1 (some .int), Cond.fieldLink RX6 64 "MarqueeDisplayModel" "offset" "I", Cond.methodLink RX6 105 yX6_draws, Cond.instanceMethod yX6_draws, Cond.selects RX6 yX6_draws yX6_draws, Cond.code yX6_draws cX6_draws 5 none, Cond.fieldLink RX6 67 "MarqueeDisplayModel" "strip" "I", Cond.fieldLink RX6 54 "MarqueeDisplayModel" "messages" "I", Cond.fieldLink RX6 35 "MarqueeDisplayModel" "size" "[I", Cond.fieldLink RX6 41 "MarqueeDisplayModel" "letter" "[I", Cond.fieldLink RX6 22 "MarqueeDisplayModel" "width" "[I", Cond.fieldLink RX6 44 "MarqueeDisplayModel" "dots" "[I", Cond.fieldLink RX6 26 "MarqueeDisplayModel" "glyph" "[I", Cond.fieldLink RX6 47 "MarqueeDisplayModel" "paint" "[I", Cond.fieldLink RX6 38 "MarqueeDisplayModel" "color" "[I", Cond.fieldLink RX6 13 "MarqueeDisplayModel" "gap" "I", Cond.methodLink RX6 70 yX6_dark, Cond.instanceMethod yX6_dark, Cond.selects RX6 yX6_dark yX6_dark]
def wsX6_brightness_r2 : List Cond := [Cond.code yX6_dark cX6_dark 1 none, Cond.methodLink RX6 108 yX6_loadAt, Cond.instanceMethod yX6_loadAt, Cond.selects RX6 yX6_loadAt yX6_loadAt, Cond.code yX6_loadAt cX6_loadAt 6 (some .int), Cond.fieldLink RX6 7 "MarqueeDisplayModel" "columns" "I", Cond.fieldLink RX6 29 "MarqueeDisplayModel" "defective" "[I", Cond.methodLink RX6 97 yX6_has, Cond.static yX6_has, Cond.code yX6_has cX6_has 2 (some .boolean), Cond.methodLink RX6 101 yX6_active, Cond.instanceMethod yX6_active, Cond.selects RX6 yX6_active yX6_active, Cond.code yX6_active cX6_active 5 (some .int), Cond.fieldLink RX6 94 "MarqueeDisplayModel" "shift" "I"]
def wsX6_brightness : List Cond := .code yX6_brightness cX6_brightness 2 (some .int) :: ((wsX6_brightness_r1 ++ wsX6_brightness_r2) ++ wsX60)
def wsX6_peakLoad_r1 : List Cond := [Cond.fieldLink RX6 67 "MarqueeDisplayModel" "strip" "I", Cond.methodLink RX6 105 yX6_draws, Cond.instanceMethod yX6_draws, Cond.selects RX6 yX6_draws yX6_draws, Cond.initialized RX6, Cond.code yX6_draws cX6_draws 5 none, Cond.fieldLink RX6 54 "MarqueeDisplayModel" "messages" "I", Cond.fieldLink RX6 35 "MarqueeDisplayModel" "size" "[I", Cond.fieldLink RX6 41 "MarqueeDisplayModel" "letter" "[I", Cond.fieldLink RX6 22 "MarqueeDisplayModel" "width" "[I", Cond.fieldLink RX6 44 "MarqueeDisplayModel" "dots" "[I", Cond.fieldLink RX6 26 "MarqueeDisplayModel" "glyph" "[I", Cond.fieldLink RX6 47 "MarqueeDisplayModel" "paint" "[I", Cond.fieldLink RX6 38 "MarqueeDisplayModel" "color" "[I", Cond.fieldLink RX6 13 "MarqueeDisplayModel" "gap" "I", Cond.methodLink RX6 70 yX6_dark, Cond.instanceMethod yX6_dark, Cond.selects RX6 yX6_dark yX6_dark, Cond.code yX6_dark cX6_dark 1 none, Cond.methodLink RX6 108 yX6_loadAt, Cond.instanceMethod yX6_loadAt, Cond.selects RX6 yX6_loadAt yX6_loadAt, Cond.code yX6_loadAt cX6_loadAt 6 (some .int), Cond.fieldLink RX6 7 "MarqueeDisplayModel" "columns" "I"]
def wsX6_peakLoad_r2 : List Cond := [Cond.fieldLink RX6 29 "MarqueeDisplayModel" "defective" "[I", Cond.methodLink RX6 97 yX6_has, Cond.static yX6_has, Cond.code yX6_has cX6_has 2 (some .boolean), Cond.methodLink RX6 101 yX6_active, Cond.instanceMethod yX6_active, Cond.selects RX6 yX6_active yX6_active, Cond.code yX6_active cX6_active 5 (some .int), Cond.fieldLink RX6 94 "MarqueeDisplayModel" "shift" "I"]
def wsX6_peakLoad : List Cond := .code yX6_peakLoad cX6_peakLoad 4 (some .int) :: ((wsX6_peakLoad_r1 ++ wsX6_peakLoad_r2) ++ wsX60)
def wsX6_peakOffset_r1 : List Cond := [Cond.fieldLink RX6 67 "MarqueeDisplayModel" "strip" "I", Cond.methodLink RX6 114 yX6_peakLoad, Cond.instanceMethod yX6_peakLoad, Cond.selects RX6 yX6_peakLoad yX6_peakLoad, Cond.initialized RX6, Cond.code yX6_peakLoad cX6_peakLoad 4 (some .int), Cond.methodLink RX6 105 yX6_draws, Cond.instanceMethod yX6_draws, Cond.selects RX6 yX6_draws yX6_draws, Cond.code yX6_draws cX6_draws 5 none, Cond.fieldLink RX6 54 "MarqueeDisplayModel" "messages" "I", Cond.fieldLink RX6 35 "MarqueeDisplayModel" "size" "[I", Cond.fieldLink RX6 41 "MarqueeDisplayModel" "letter" "[I", Cond.fieldLink RX6 22 "MarqueeDisplayModel" "width" "[I", Cond.fieldLink RX6 44 "MarqueeDisplayModel" "dots" "[I", Cond.fieldLink RX6 26 "MarqueeDisplayModel" "glyph" "[I", Cond.fieldLink RX6 47 "MarqueeDisplayModel" "paint" "[I", Cond.fieldLink RX6 38 "MarqueeDisplayModel" "color" "[I", Cond.fieldLink RX6 13 "MarqueeDisplayModel" "gap" "I", Cond.methodLink RX6 70 yX6_dark, Cond.instanceMethod yX6_dark, Cond.selects RX6 yX6_dark yX6_dark, Cond.code yX6_dark cX6_dark 1 none, Cond.methodLink RX6 108 yX6_loadAt]
def wsX6_peakOffset_r2 : List Cond := [Cond.instanceMethod yX6_loadAt, Cond.selects RX6 yX6_loadAt yX6_loadAt, Cond.code yX6_loadAt cX6_loadAt 6 (some .int), Cond.fieldLink RX6 7 "MarqueeDisplayModel" "columns" "I", Cond.fieldLink RX6 29 "MarqueeDisplayModel" "defective" "[I", Cond.methodLink RX6 97 yX6_has, Cond.static yX6_has, Cond.code yX6_has cX6_has 2 (some .boolean), Cond.methodLink RX6 101 yX6_active, Cond.instanceMethod yX6_active, Cond.selects RX6 yX6_active yX6_active, Cond.code yX6_active cX6_active 5 (some .int), Cond.fieldLink RX6 94 "MarqueeDisplayModel" "shift" "I"]
def wsX6_peakOffset : List Cond := .code yX6_peakOffset cX6_peakOffset 3 (some .int) :: ((wsX6_peakOffset_r1 ++ wsX6_peakOffset_r2) ++ wsX60)
def wsX6_damageBy_r1 : List Cond := [Cond.fieldLink RX6 7 "MarqueeDisplayModel" "columns" "I", Cond.fieldLink RX6 67 "MarqueeDisplayModel" "strip" "I", Cond.fieldLink RX6 44 "MarqueeDisplayModel" "dots" "[I", Cond.fieldLink RX6 64 "MarqueeDisplayModel" "offset" "I", Cond.fieldLink RX6 29 "MarqueeDisplayModel" "defective" "[I", Cond.methodLink RX6 105 yX6_draws, Cond.instanceMethod yX6_draws, Cond.selects RX6 yX6_draws yX6_draws, Cond.initialized RX6, Cond.code yX6_draws cX6_draws 5 none, Cond.fieldLink RX6 54 "MarqueeDisplayModel" "messages" "I", Cond.fieldLink RX6 35 "MarqueeDisplayModel" "size" "[I", Cond.fieldLink RX6 41 "MarqueeDisplayModel" "letter" "[I", Cond.fieldLink RX6 22 "MarqueeDisplayModel" "width" "[I", Cond.fieldLink RX6 26 "MarqueeDisplayModel" "glyph" "[I", Cond.fieldLink RX6 47 "MarqueeDisplayModel" "paint" "[I", Cond.fieldLink RX6 38 "MarqueeDisplayModel" "color" "[I", Cond.fieldLink RX6 13 "MarqueeDisplayModel" "gap" "I", Cond.methodLink RX6 70 yX6_dark, Cond.instanceMethod yX6_dark, Cond.selects RX6 yX6_dark yX6_dark, Cond.code yX6_dark cX6_dark 1 none, Cond.methodLink RX6 73 yX6_in, Cond.static yX6_in]
def wsX6_damageBy_r2 : List Cond := [Cond.code yX6_in cX6_in 3 (some .boolean), Cond.methodLink RX6 97 yX6_has, Cond.static yX6_has, Cond.code yX6_has cX6_has 2 (some .boolean)]
def wsX6_damageBy : List Cond := .code yX6_damageBy cX6_damageBy 8 (some .int) :: ((wsX6_damageBy_r1 ++ wsX6_damageBy_r2) ++ wsX60)
def wsX6_damage_r1 : List Cond := [Cond.methodLink RX6 73 yX6_in, Cond.static yX6_in, Cond.initialized RX6, Cond.code yX6_in cX6_in 3 (some .boolean), Cond.methodLink RX6 117 yX6_damageBy, Cond.instanceMethod yX6_damageBy, Cond.selects RX6 yX6_damageBy yX6_damageBy, Cond.code yX6_damageBy cX6_damageBy 8 (some .int), Cond.fieldLink RX6 7 "MarqueeDisplayModel" "columns" "I", Cond.fieldLink RX6 67 "MarqueeDisplayModel" "strip" "I", Cond.fieldLink RX6 44 "MarqueeDisplayModel" "dots" "[I", Cond.fieldLink RX6 64 "MarqueeDisplayModel" "offset" "I", Cond.fieldLink RX6 29 "MarqueeDisplayModel" "defective" "[I", Cond.methodLink RX6 105 yX6_draws, Cond.instanceMethod yX6_draws, Cond.selects RX6 yX6_draws yX6_draws, Cond.code yX6_draws cX6_draws 5 none, Cond.fieldLink RX6 54 "MarqueeDisplayModel" "messages" "I", Cond.fieldLink RX6 35 "MarqueeDisplayModel" "size" "[I", Cond.fieldLink RX6 41 "MarqueeDisplayModel" "letter" "[I", Cond.fieldLink RX6 22 "MarqueeDisplayModel" "width" "[I", Cond.fieldLink RX6 26 "MarqueeDisplayModel" "glyph" "[I", Cond.fieldLink RX6 47 "MarqueeDisplayModel" "paint" "[I", Cond.fieldLink RX6 38 "MarqueeDisplayModel" "color" "[I"]
def wsX6_damage_r2 : List Cond := [Cond.fieldLink RX6 13 "MarqueeDisplayModel" "gap" "I", Cond.methodLink RX6 70 yX6_dark, Cond.instanceMethod yX6_dark, Cond.selects RX6 yX6_dark yX6_dark, Cond.code yX6_dark cX6_dark 1 none, Cond.methodLink RX6 97 yX6_has, Cond.static yX6_has, Cond.code yX6_has cX6_has 2 (some .boolean)]
def wsX6_damage : List Cond := .code yX6_damage cX6_damage 2 (some .int) :: ((wsX6_damage_r1 ++ wsX6_damage_r2) ++ wsX60)
def wsX6_adoptBestShift_r1 : List Cond := [Cond.fieldLink RX6 94 "MarqueeDisplayModel" "shift" "I", Cond.methodLink RX6 117 yX6_damageBy, Cond.instanceMethod yX6_damageBy, Cond.selects RX6 yX6_damageBy yX6_damageBy, Cond.initialized RX6, Cond.code yX6_damageBy cX6_damageBy 8 (some .int), Cond.fieldLink RX6 7 "MarqueeDisplayModel" "columns" "I", Cond.fieldLink RX6 67 "MarqueeDisplayModel" "strip" "I", Cond.fieldLink RX6 44 "MarqueeDisplayModel" "dots" "[I", Cond.fieldLink RX6 64 "MarqueeDisplayModel" "offset" "I", Cond.fieldLink RX6 29 "MarqueeDisplayModel" "defective" "[I", Cond.methodLink RX6 105 yX6_draws, Cond.instanceMethod yX6_draws, Cond.selects RX6 yX6_draws yX6_draws, Cond.code yX6_draws cX6_draws 5 none, Cond.fieldLink RX6 54 "MarqueeDisplayModel" "messages" "I", Cond.fieldLink RX6 35 "MarqueeDisplayModel" "size" "[I", Cond.fieldLink RX6 41 "MarqueeDisplayModel" "letter" "[I", Cond.fieldLink RX6 22 "MarqueeDisplayModel" "width" "[I", Cond.fieldLink RX6 26 "MarqueeDisplayModel" "glyph" "[I", Cond.fieldLink RX6 47 "MarqueeDisplayModel" "paint" "[I", Cond.fieldLink RX6 38 "MarqueeDisplayModel" "color" "[I", Cond.fieldLink RX6 13 "MarqueeDisplayModel" "gap" "I", Cond.methodLink RX6 70 yX6_dark]
def wsX6_adoptBestShift_r2 : List Cond := [Cond.instanceMethod yX6_dark, Cond.selects RX6 yX6_dark yX6_dark, Cond.code yX6_dark cX6_dark 1 none, Cond.methodLink RX6 73 yX6_in, Cond.static yX6_in, Cond.code yX6_in cX6_in 3 (some .boolean), Cond.methodLink RX6 97 yX6_has, Cond.static yX6_has, Cond.code yX6_has cX6_has 2 (some .boolean)]
def wsX6_adoptBestShift : List Cond := .code yX6_adoptBestShift cX6_adoptBestShift 3 (some .int) :: ((wsX6_adoptBestShift_r1 ++ wsX6_adoptBestShift_r2) ++ wsX60)
def wsL_law_r1 : List Cond := [Cond.classLink RL 7 RX5, Cond.instantiable RX5 12, Cond.initialized RX5, Cond.classLink RL 10 RX6, Cond.instantiable RX6 19, Cond.initialized RX6, Cond.methodLink RL 9 yX5_init, Cond.instanceMethod yX5_init, Cond.code yX5_init cX5_init 1 none, Cond.methodLink RX5 3 objectInit, Cond.instanceMethod objectInit, Cond.code objectInit ⟨#[0xb1]⟩ 1 none, Cond.classLink RX5 9 RX0, Cond.instantiable RX0 2, Cond.initialized RX0, Cond.fieldLink RX5 12 "MarqueeDisplay" "font" "LMarqueeDisplay$Font;", Cond.classLink RX5 16 RX4, Cond.instantiable RX4 2, Cond.initialized RX4, Cond.fieldLink RX5 19 "MarqueeDisplay" "buffer" "LMarqueeDisplay$Text;", Cond.classLink RX5 23 RX2, Cond.instantiable RX2 2, Cond.initialized RX2, Cond.fieldLink RX5 26 "MarqueeDisplay" "messages" "LMarqueeDisplay$MessageList;"]
def wsL_law_r2 : List Cond := [Cond.classLink RX5 30 RX3, Cond.instantiable RX3 3, Cond.initialized RX3, Cond.fieldLink RX5 33 "MarqueeDisplay" "strip" "LMarqueeDisplay$Strip;", Cond.arrayClass .int, Cond.fieldLink RX5 37 "MarqueeDisplay" "defects" "[I", Cond.fieldLink RX5 41 "MarqueeDisplay" "columns" "I", Cond.fieldLink RX5 45 "MarqueeDisplay" "gap" "I", Cond.fieldLink RX5 48 "MarqueeDisplay" "speed" "I", Cond.fieldLink RX5 51 "MarqueeDisplay" "shift" "I", Cond.fieldLink RX5 54 "MarqueeDisplay" "budget" "I", Cond.fieldLink RX5 57 "MarqueeDisplay" "offset" "I", Cond.fieldLink RX5 60 "MarqueeDisplay" "counter" "I", Cond.methodLink RX5 11 yX0_init, Cond.instanceMethod yX0_init, Cond.code yX0_init cX0_init 4 none, Cond.methodLink RX0 3 objectInit, Cond.fieldLink RX0 9 "MarqueeDisplay$Font" "widths" "[I", Cond.fieldLink RX0 15 "MarqueeDisplay$Font" "dots" "[I", Cond.instanceMethod yX4_init, Cond.code yX4_init cX4_init 1 none, Cond.methodLink RX4 3 objectInit, Cond.fieldLink RX4 9 "MarqueeDisplay$Text" "characters" "[I", Cond.methodLink RX5 25 yX2_init]
def wsL_law_r3 : List Cond := [Cond.instanceMethod yX2_init, Cond.code yX2_init cX2_init 2 none, Cond.methodLink RX2 3 objectInit, Cond.classLink RX2 9 RX1, Cond.fieldLink RX2 11 "MarqueeDisplay$MessageList" "slots" "[LMarqueeDisplay$Message;", Cond.instantiable RX1 4, Cond.initialized RX1, Cond.instanceMethod yX1_init, Cond.code yX1_init cX1_init 1 none, Cond.methodLink RX1 1 objectInit, Cond.classLink RX1 7 RX4, Cond.fieldLink RX1 10 "MarqueeDisplay$Message" "text" "LMarqueeDisplay$Text;", Cond.instanceMethod yX3_init, Cond.code yX3_init cX3_init 1 none, Cond.methodLink RX3 3 objectInit, Cond.fieldLink RX3 9 "MarqueeDisplay$Strip" "dots" "[I", Cond.fieldLink RX3 15 "MarqueeDisplay$Strip" "colors" "[I", Cond.methodLink RL 12 yX6_init, Cond.instanceMethod yX6_init, Cond.code yX6_init cX6_init 3 none, Cond.methodLink RX6 1 objectInit, Cond.fieldLink RX6 7 "MarqueeDisplayModel" "columns" "I", Cond.fieldLink RX6 13 "MarqueeDisplayModel" "gap" "I", Cond.fieldLink RX6 16 "MarqueeDisplayModel" "speed" "I"]
def wsL_law_r4 : List Cond := [Cond.fieldLink RX6 19 "MarqueeDisplayModel" "budget" "I", Cond.fieldLink RX6 22 "MarqueeDisplayModel" "width" "[I", Cond.fieldLink RX6 26 "MarqueeDisplayModel" "glyph" "[I", Cond.fieldLink RX6 29 "MarqueeDisplayModel" "defective" "[I", Cond.fieldLink RX6 32 "MarqueeDisplayModel" "text" "[I", Cond.fieldLink RX6 35 "MarqueeDisplayModel" "size" "[I", Cond.fieldLink RX6 38 "MarqueeDisplayModel" "color" "[I", Cond.fieldLink RX6 41 "MarqueeDisplayModel" "letter" "[I", Cond.fieldLink RX6 44 "MarqueeDisplayModel" "dots" "[I", Cond.fieldLink RX6 47 "MarqueeDisplayModel" "paint" "[I", Cond.methodLink RL 13 yX5_setGlyphWidth, Cond.instanceMethod yX5_setGlyphWidth, Cond.selects RX5 yX5_setGlyphWidth yX5_setGlyphWidth, Cond.code yX5_setGlyphWidth cX5_setGlyphWidth 4 (some .int), Cond.methodLink RX5 63 yX5_isCharacter, Cond.static yX5_isCharacter, Cond.code yX5_isCharacter cX5_isCharacter 1 (some .boolean), Cond.methodLink RX5 67 yX5_isWithin, Cond.static yX5_isWithin, Cond.code yX5_isWithin cX5_isWithin 3 (some .boolean), Cond.methodLink RX5 71 yX0_widthOf, Cond.instanceMethod yX0_widthOf, Cond.selects RX0 yX0_widthOf yX0_widthOf, Cond.code yX0_widthOf cX0_widthOf 2 (some .int)]
def wsL_law_r5 : List Cond := [Cond.methodLink RX5 75 yX0_resize, Cond.instanceMethod yX0_resize, Cond.selects RX0 yX0_resize yX0_resize, Cond.code yX0_resize cX0_resize 4 none, Cond.methodLink RX5 79 yX5_layOutStrip, Cond.instanceMethod yX5_layOutStrip, Cond.selects RX5 yX5_layOutStrip yX5_layOutStrip, Cond.code yX5_layOutStrip cX5_layOutStrip 1 none, Cond.methodLink RX5 167 yX3_layOut, Cond.instanceMethod yX3_layOut, Cond.selects RX3 yX3_layOut yX3_layOut, Cond.code yX3_layOut cX3_layOut 6 none, Cond.fieldLink RX3 18 "MarqueeDisplay$Strip" "length" "I", Cond.methodLink RX3 27 yX2_find, Cond.instanceMethod yX2_find, Cond.selects RX2 yX2_find yX2_find, Cond.code yX2_find cX2_find 2 (some (.object "MarqueeDisplay$Message")), Cond.fieldLink RX2 18 "MarqueeDisplay$MessageList" "count" "I", Cond.methodLink RX3 31 yX3_addMessage, Cond.instanceMethod yX3_addMessage, Cond.selects RX3 yX3_addMessage yX3_addMessage, Cond.code yX3_addMessage cX3_addMessage 4 none, Cond.methodLink RX3 35 yX3_addDark, Cond.instanceMethod yX3_addDark]
def wsL_law_r6 : List Cond := [Cond.selects RX3 yX3_addDark yX3_addDark, Cond.code yX3_addDark cX3_addDark 3 none, Cond.methodLink RX3 74 yX3_addColumn, Cond.instanceMethod yX3_addColumn, Cond.selects RX3 yX3_addColumn yX3_addColumn, Cond.code yX3_addColumn cX3_addColumn 3 none, Cond.methodLink RX3 57 yX3_addGlyph, Cond.instanceMethod yX3_addGlyph, Cond.selects RX3 yX3_addGlyph yX3_addGlyph, Cond.code yX3_addGlyph cX3_addGlyph 5 none, Cond.methodLink RX3 64 yX0_widthOf, Cond.methodLink RX3 70 yX0_dotsOf, Cond.instanceMethod yX0_dotsOf, Cond.selects RX0 yX0_dotsOf yX0_dotsOf, Cond.code yX0_dotsOf cX0_dotsOf 3 (some .int), Cond.methodLink RL 17 yX6_setGlyphWidth, Cond.instanceMethod yX6_setGlyphWidth, Cond.selects RX6 yX6_setGlyphWidth yX6_setGlyphWidth, Cond.code yX6_setGlyphWidth cX6_setGlyphWidth 5 (some .int), Cond.methodLink RX6 73 yX6_in, Cond.static yX6_in, Cond.code yX6_in cX6_in 3 (some .boolean), Cond.methodLink RX6 77 yX6_settles, Cond.instanceMethod yX6_settles]
def wsL_law_r7 : List Cond := [Cond.selects RX6 yX6_settles yX6_settles, Cond.code yX6_settles cX6_settles 2 (some .int), Cond.fieldLink RX6 64 "MarqueeDisplayModel" "offset" "I", Cond.methodLink RX6 60 yX6_all, Cond.instanceMethod yX6_all, Cond.selects RX6 yX6_all yX6_all, Cond.code yX6_all cX6_all 1 (some .int), Cond.fieldLink RX6 54 "MarqueeDisplayModel" "messages" "I", Cond.methodLink RX6 57 yX6_startOf, Cond.instanceMethod yX6_startOf, Cond.selects RX6 yX6_startOf yX6_startOf, Cond.code yX6_startOf cX6_startOf 4 (some .int), Cond.methodLink RX6 50 yX6_widthOf, Cond.instanceMethod yX6_widthOf, Cond.selects RX6 yX6_widthOf yX6_widthOf, Cond.code yX6_widthOf cX6_widthOf 4 (some .int), Cond.methodLink RL 18 yX5_setGlyphColumn, Cond.instanceMethod yX5_setGlyphColumn, Cond.selects RX5 yX5_setGlyphColumn yX5_setGlyphColumn, Cond.code yX5_setGlyphColumn cX5_setGlyphColumn 5 (some .int), Cond.methodLink RX5 82 yX0_hasColumn, Cond.instanceMethod yX0_hasColumn, Cond.selects RX0 yX0_hasColumn yX0_hasColumn, Cond.code yX0_hasColumn cX0_hasColumn 3 (some .boolean)]
def wsL_law_r8 : List Cond := [Cond.methodLink RX0 18 yX0_widthOf, Cond.methodLink RX5 86 yX0_dotsOf, Cond.methodLink RX5 90 yX0_draw, Cond.instanceMethod yX0_draw, Cond.selects RX0 yX0_draw yX0_draw, Cond.code yX0_draw cX0_draw 4 none, Cond.methodLink RX0 26 yX0_hasColumn, Cond.methodLink RL 22 yX6_setGlyphColumn, Cond.instanceMethod yX6_setGlyphColumn, Cond.selects RX6 yX6_setGlyphColumn yX6_setGlyphColumn, Cond.code yX6_setGlyphColumn cX6_setGlyphColumn 5 (some .int), Cond.methodLink RL 23 yX5_glyphColumn, Cond.instanceMethod yX5_glyphColumn, Cond.selects RX5 yX5_glyphColumn yX5_glyphColumn, Cond.code yX5_glyphColumn cX5_glyphColumn 3 (some .int), Cond.methodLink RL 26 yX6_glyphColumn, Cond.instanceMethod yX6_glyphColumn, Cond.selects RX6 yX6_glyphColumn yX6_glyphColumn, Cond.code yX6_glyphColumn cX6_glyphColumn 3 (some .int), Cond.methodLink RL 27 yX5_append, Cond.instanceMethod yX5_append, Cond.selects RX5 yX5_append yX5_append, Cond.code yX5_append cX5_append 2 (some .int), Cond.methodLink RX5 97 yX4_add]
def wsL_law_r9 : List Cond := [Cond.instanceMethod yX4_add, Cond.selects RX4 yX4_add yX4_add, Cond.code yX4_add cX4_add 2 none, Cond.fieldLink RX4 15 "MarqueeDisplay$Text" "length" "I", Cond.methodLink RL 31 yX6_append, Cond.instanceMethod yX6_append, Cond.selects RX6 yX6_append yX6_append, Cond.code yX6_append cX6_append 2 (some .int), Cond.fieldLink RX6 80 "MarqueeDisplayModel" "length" "I", Cond.methodLink RL 32 yX5_clearText, Cond.instanceMethod yX5_clearText, Cond.selects RX5 yX5_clearText yX5_clearText, Cond.code yX5_clearText cX5_clearText 2 (some .int), Cond.methodLink RX5 101 yX4_empty, Cond.instanceMethod yX4_empty, Cond.selects RX4 yX4_empty yX4_empty, Cond.code yX4_empty cX4_empty 1 none, Cond.methodLink RL 36 yX6_clearText, Cond.instanceMethod yX6_clearText, Cond.selects RX6 yX6_clearText yX6_clearText, Cond.code yX6_clearText cX6_clearText 2 (some .int), Cond.methodLink RL 37 yX5_insertMessage, Cond.instanceMethod yX5_insertMessage, Cond.selects RX5 yX5_insertMessage yX5_insertMessage]
def wsL_law_r10 : List Cond := [Cond.code yX5_insertMessage cX5_insertMessage 3 (some .int), Cond.methodLink RX5 107 yX5_isColor, Cond.static yX5_isColor, Cond.code yX5_isColor cX5_isColor 1 (some .boolean), Cond.methodLink RX5 110 yX2_insert, Cond.instanceMethod yX2_insert, Cond.selects RX2 yX2_insert yX2_insert, Cond.code yX2_insert cX2_insert 6 none, Cond.methodLink RX2 30 yX4_copyFrom, Cond.instanceMethod yX4_copyFrom, Cond.selects RX4 yX4_copyFrom yX4_copyFrom, Cond.code yX4_copyFrom cX4_copyFrom 3 none, Cond.methodLink RL 40 yX6_insertMessage, Cond.instanceMethod yX6_insertMessage, Cond.selects RX6 yX6_insertMessage yX6_insertMessage, Cond.code yX6_insertMessage cX6_insertMessage 4 (some .int), Cond.methodLink RX6 83 yX6_copies, Cond.instanceMethod yX6_copies, Cond.selects RX6 yX6_copies yX6_copies, Cond.code yX6_copies cX6_copies 4 none, Cond.methodLink RL 41 yX5_removeMessage, Cond.instanceMethod yX5_removeMessage, Cond.selects RX5 yX5_removeMessage yX5_removeMessage, Cond.code yX5_removeMessage cX5_removeMessage 2 (some .int)]
def wsL_law_r11 : List Cond := [Cond.methodLink RX5 115 yX2_find, Cond.methodLink RX5 119 yX2_remove, Cond.instanceMethod yX2_remove, Cond.selects RX2 yX2_remove yX2_remove, Cond.code yX2_remove cX2_remove 4 none, Cond.methodLink RX2 39 yX2_find, Cond.methodLink RL 44 yX6_removeMessage, Cond.instanceMethod yX6_removeMessage, Cond.selects RX6 yX6_removeMessage yX6_removeMessage, Cond.code yX6_removeMessage cX6_removeMessage 3 (some .int), Cond.methodLink RX6 87 yX6_isMessage, Cond.instanceMethod yX6_isMessage, Cond.selects RX6 yX6_isMessage yX6_isMessage, Cond.code yX6_isMessage cX6_isMessage 2 (some .boolean), Cond.methodLink RL 45 yX5_setColor, Cond.instanceMethod yX5_setColor, Cond.selects RX5 yX5_setColor yX5_setColor, Cond.code yX5_setColor cX5_setColor 5 (some .int), Cond.methodLink RL 48 yX6_setColor, Cond.instanceMethod yX6_setColor, Cond.selects RX6 yX6_setColor yX6_setColor, Cond.code yX6_setColor cX6_setColor 4 (some .int), Cond.methodLink RL 49 yX5_messageWidth, Cond.instanceMethod yX5_messageWidth]
def wsL_law_r12 : List Cond := [Cond.selects RX5 yX5_messageWidth yX5_messageWidth, Cond.code yX5_messageWidth cX5_messageWidth 3 (some .int), Cond.methodLink RL 52 yX6_messageWidth, Cond.instanceMethod yX6_messageWidth, Cond.selects RX6 yX6_messageWidth yX6_messageWidth, Cond.code yX6_messageWidth cX6_messageWidth 2 (some .int), Cond.methodLink RL 53 yX5_messageStart, Cond.instanceMethod yX5_messageStart, Cond.selects RX5 yX5_messageStart yX5_messageStart, Cond.code yX5_messageStart cX5_messageStart 3 (some .int), Cond.methodLink RL 56 yX6_messageStart, Cond.instanceMethod yX6_messageStart, Cond.selects RX6 yX6_messageStart yX6_messageStart, Cond.code yX6_messageStart cX6_messageStart 2 (some .int), Cond.methodLink RL 57 yX5_setColumns, Cond.instanceMethod yX5_setColumns, Cond.selects RX5 yX5_setColumns yX5_setColumns, Cond.code yX5_setColumns cX5_setColumns 4 (some .int), Cond.methodLink RL 60 yX6_setColumns, Cond.instanceMethod yX6_setColumns, Cond.selects RX6 yX6_setColumns yX6_setColumns, Cond.code yX6_setColumns cX6_setColumns 4 (some .int), Cond.methodLink RL 61 yX5_setGap, Cond.instanceMethod yX5_setGap]
def wsL_law_r13 : List Cond := [Cond.selects RX5 yX5_setGap yX5_setGap, Cond.code yX5_setGap cX5_setGap 3 (some .int), Cond.methodLink RL 64 yX6_setGap, Cond.instanceMethod yX6_setGap, Cond.selects RX6 yX6_setGap yX6_setGap, Cond.code yX6_setGap cX6_setGap 3 (some .int), Cond.methodLink RL 65 yX5_setSpeed, Cond.instanceMethod yX5_setSpeed, Cond.selects RX5 yX5_setSpeed yX5_setSpeed, Cond.code yX5_setSpeed cX5_setSpeed 3 (some .int), Cond.methodLink RL 68 yX6_setSpeed, Cond.instanceMethod yX6_setSpeed, Cond.selects RX6 yX6_setSpeed yX6_setSpeed, Cond.code yX6_setSpeed cX6_setSpeed 3 (some .int), Cond.fieldLink RX6 91 "MarqueeDisplayModel" "counter" "I", Cond.methodLink RL 69 yX5_setShift, Cond.instanceMethod yX5_setShift, Cond.selects RX5 yX5_setShift yX5_setShift, Cond.code yX5_setShift cX5_setShift 3 (some .int), Cond.methodLink RX5 133 yX5_isShift, Cond.static yX5_isShift, Cond.code yX5_isShift cX5_isShift 1 (some .boolean), Cond.methodLink RL 72 yX6_setShift, Cond.instanceMethod yX6_setShift]
def wsL_law_r14 : List Cond := [Cond.selects RX6 yX6_setShift yX6_setShift, Cond.code yX6_setShift cX6_setShift 3 (some .int), Cond.fieldLink RX6 94 "MarqueeDisplayModel" "shift" "I", Cond.methodLink RL 73 yX5_setBudget, Cond.instanceMethod yX5_setBudget, Cond.selects RX5 yX5_setBudget yX5_setBudget, Cond.code yX5_setBudget cX5_setBudget 3 (some .int), Cond.methodLink RL 76 yX6_setBudget, Cond.instanceMethod yX6_setBudget, Cond.selects RX6 yX6_setBudget yX6_setBudget, Cond.code yX6_setBudget cX6_setBudget 3 (some .int), Cond.methodLink RL 77 yX5_setDefective, Cond.instanceMethod yX5_setDefective, Cond.selects RX5 yX5_setDefective yX5_setDefective, Cond.code yX5_setDefective cX5_setDefective 4 (some .int), Cond.methodLink RX5 136 yX5_isLed, Cond.instanceMethod yX5_isLed, Cond.selects RX5 yX5_isLed yX5_isLed, Cond.code yX5_isLed cX5_isLed 3 (some .boolean), Cond.methodLink RX5 139 yX5_isDefective, Cond.instanceMethod yX5_isDefective, Cond.selects RX5 yX5_isDefective yX5_isDefective, Cond.code yX5_isDefective cX5_isDefective 3 (some .boolean), Cond.methodLink RX5 171 yX5_defectsOf]
def wsL_law_r15 : List Cond := [Cond.instanceMethod yX5_defectsOf, Cond.selects RX5 yX5_defectsOf yX5_defectsOf, Cond.code yX5_defectsOf cX5_defectsOf 2 (some .int), Cond.methodLink RX5 142 yX5_countDefects, Cond.instanceMethod yX5_countDefects, Cond.selects RX5 yX5_countDefects yX5_countDefects, Cond.code yX5_countDefects cX5_countDefects 6 (some .int), Cond.methodLink RX5 174 yJ6_bitCount_0f7a4, Cond.static yJ6_bitCount_0f7a4, Cond.initialized RJ6, Cond.code yJ6_bitCount_0f7a4 cJ6_bitCount_0f7a4 1 (some .int), Cond.constant RJ6 265 (1431655765), Cond.constant RJ6 266 (858993459), Cond.constant RJ6 267 (252645135), Cond.methodLink RL 81 yX6_setDefective, Cond.instanceMethod yX6_setDefective, Cond.selects RX6 yX6_setDefective yX6_setDefective, Cond.code yX6_setDefective cX6_setDefective 7 (some .int), Cond.methodLink RX6 97 yX6_has, Cond.static yX6_has, Cond.code yX6_has cX6_has 2 (some .boolean), Cond.methodLink RL 82 yX5_tick, Cond.instanceMethod yX5_tick, Cond.selects RX5 yX5_tick yX5_tick]
def wsL_law_r16 : List Cond := [Cond.code yX5_tick cX5_tick 3 (some .int), Cond.methodLink RX5 146 yX3_wrap, Cond.instanceMethod yX3_wrap, Cond.selects RX3 yX3_wrap yX3_wrap, Cond.code yX3_wrap cX3_wrap 2 (some .int), Cond.methodLink RX3 78 yJ9_floorMod_7cf53, Cond.static yJ9_floorMod_7cf53, Cond.initialized RJ9, Cond.code yJ9_floorMod_7cf53 cJ9_floorMod_7cf53 3 (some .int), Cond.methodLink RL 85 yX6_tick, Cond.instanceMethod yX6_tick, Cond.selects RX6 yX6_tick yX6_tick, Cond.code yX6_tick cX6_tick 4 (some .int), Cond.methodLink RL 86 yX5_offset, Cond.instanceMethod yX5_offset, Cond.selects RX5 yX5_offset yX5_offset, Cond.code yX5_offset cX5_offset 1 (some .int), Cond.methodLink RL 89 yX6_offset, Cond.instanceMethod yX6_offset, Cond.selects RX6 yX6_offset yX6_offset, Cond.code yX6_offset cX6_offset 1 (some .int), Cond.methodLink RL 90 yX5_stripLength, Cond.instanceMethod yX5_stripLength, Cond.selects RX5 yX5_stripLength yX5_stripLength]
def wsL_law_r17 : List Cond := [Cond.code yX5_stripLength cX5_stripLength 1 (some .int), Cond.methodLink RL 93 yX6_stripLength, Cond.instanceMethod yX6_stripLength, Cond.selects RX6 yX6_stripLength yX6_stripLength, Cond.code yX6_stripLength cX6_stripLength 1 (some .int), Cond.methodLink RL 94 yX5_period, Cond.instanceMethod yX5_period, Cond.selects RX5 yX5_period yX5_period, Cond.code yX5_period cX5_period 1 (some .int), Cond.methodLink RL 97 yX6_period, Cond.instanceMethod yX6_period, Cond.selects RX6 yX6_period yX6_period, Cond.code yX6_period cX6_period 1 (some .int), Cond.methodLink RL 98 yX5_ticksUntilWhole, Cond.instanceMethod yX5_ticksUntilWhole, Cond.selects RX5 yX5_ticksUntilWhole yX5_ticksUntilWhole, Cond.code yX5_ticksUntilWhole cX5_ticksUntilWhole 5 (some .int), Cond.methodLink RL 101 yX6_ticksUntilWhole, Cond.instanceMethod yX6_ticksUntilWhole, Cond.selects RX6 yX6_ticksUntilWhole yX6_ticksUntilWhole, Cond.code yX6_ticksUntilWhole cX6_ticksUntilWhole 7 (some .int), Cond.methodLink RL 102 yX5_pixel, Cond.instanceMethod yX5_pixel, Cond.selects RX5 yX5_pixel yX5_pixel]
def wsL_law_r18 : List Cond := [Cond.code yX5_pixel cX5_pixel 4 (some .int), Cond.methodLink RX5 149 yX5_litRows, Cond.instanceMethod yX5_litRows, Cond.selects RX5 yX5_litRows yX5_litRows, Cond.code yX5_litRows cX5_litRows 3 (some .int), Cond.methodLink RX5 179 yX3_dotsAt, Cond.instanceMethod yX3_dotsAt, Cond.selects RX3 yX3_dotsAt yX3_dotsAt, Cond.code yX3_dotsAt cX3_dotsAt 2 (some .int), Cond.methodLink RX3 83 yX3_wrap, Cond.methodLink RX5 182 yX5_shifted, Cond.static yX5_shifted, Cond.code yX5_shifted cX5_shifted 2 (some .int), Cond.methodLink RX5 152 yX3_colorAt, Cond.instanceMethod yX3_colorAt, Cond.selects RX3 yX3_colorAt yX3_colorAt, Cond.code yX3_colorAt cX3_colorAt 2 (some .int), Cond.methodLink RL 105 yX6_pixel, Cond.instanceMethod yX6_pixel, Cond.selects RX6 yX6_pixel yX6_pixel, Cond.code yX6_pixel cX6_pixel 3 (some .int), Cond.methodLink RX6 105 yX6_draws, Cond.instanceMethod yX6_draws, Cond.selects RX6 yX6_draws yX6_draws]
def wsL_law_r19 : List Cond := [Cond.code yX6_draws cX6_draws 5 none, Cond.fieldLink RX6 67 "MarqueeDisplayModel" "strip" "I", Cond.methodLink RX6 70 yX6_dark, Cond.instanceMethod yX6_dark, Cond.selects RX6 yX6_dark yX6_dark, Cond.code yX6_dark cX6_dark 1 none, Cond.methodLink RX6 101 yX6_active, Cond.instanceMethod yX6_active, Cond.selects RX6 yX6_active yX6_active, Cond.code yX6_active cX6_active 5 (some .int), Cond.methodLink RL 106 yX5_load, Cond.instanceMethod yX5_load, Cond.selects RX5 yX5_load yX5_load, Cond.code yX5_load cX5_load 1 (some .int), Cond.methodLink RX5 155 yX5_loadFrom, Cond.instanceMethod yX5_loadFrom, Cond.selects RX5 yX5_loadFrom yX5_loadFrom, Cond.code yX5_loadFrom cX5_loadFrom 5 (some .int), Cond.methodLink RL 109 yX6_load, Cond.instanceMethod yX6_load, Cond.selects RX6 yX6_load yX6_load, Cond.code yX6_load cX6_load 1 (some .int), Cond.methodLink RX6 108 yX6_loadAt, Cond.instanceMethod yX6_loadAt]
def wsL_law_r20 : List Cond := [Cond.selects RX6 yX6_loadAt yX6_loadAt, Cond.code yX6_loadAt cX6_loadAt 6 (some .int), Cond.methodLink RL 110 yX5_brightness, Cond.instanceMethod yX5_brightness, Cond.selects RX5 yX5_brightness yX5_brightness, Cond.code yX5_brightness cX5_brightness 2 (some .int), Cond.methodLink RL 113 yX6_brightness, Cond.instanceMethod yX6_brightness, Cond.selects RX6 yX6_brightness yX6_brightness, Cond.code yX6_brightness cX6_brightness 2 (some .int), Cond.methodLink RX6 111 yX6_load, Cond.methodLink RL 114 yX5_peakLoad, Cond.instanceMethod yX5_peakLoad, Cond.selects RX5 yX5_peakLoad yX5_peakLoad, Cond.code yX5_peakLoad cX5_peakLoad 1 (some .int), Cond.methodLink RX5 158 yX5_heaviestOffset, Cond.instanceMethod yX5_heaviestOffset, Cond.selects RX5 yX5_heaviestOffset yX5_heaviestOffset, Cond.code yX5_heaviestOffset cX5_heaviestOffset 5 (some .int), Cond.methodLink RL 117 yX6_peakLoad, Cond.instanceMethod yX6_peakLoad, Cond.selects RX6 yX6_peakLoad yX6_peakLoad, Cond.code yX6_peakLoad cX6_peakLoad 4 (some .int), Cond.methodLink RL 118 yX5_peakOffset]
def wsL_law_r21 : List Cond := [Cond.instanceMethod yX5_peakOffset, Cond.selects RX5 yX5_peakOffset yX5_peakOffset, Cond.code yX5_peakOffset cX5_peakOffset 1 (some .int), Cond.methodLink RL 121 yX6_peakOffset, Cond.instanceMethod yX6_peakOffset, Cond.selects RX6 yX6_peakOffset yX6_peakOffset, Cond.code yX6_peakOffset cX6_peakOffset 3 (some .int), Cond.methodLink RX6 114 yX6_peakLoad, Cond.methodLink RL 122 yX5_damage, Cond.instanceMethod yX5_damage, Cond.selects RX5 yX5_damage yX5_damage, Cond.code yX5_damage cX5_damage 2 (some .int), Cond.methodLink RX5 161 yX5_damageWith, Cond.instanceMethod yX5_damageWith, Cond.selects RX5 yX5_damageWith yX5_damageWith, Cond.code yX5_damageWith cX5_damageWith 6 (some .int), Cond.methodLink RL 125 yX6_damage, Cond.instanceMethod yX6_damage, Cond.selects RX6 yX6_damage yX6_damage, Cond.code yX6_damage cX6_damage 2 (some .int), Cond.methodLink RX6 117 yX6_damageBy, Cond.instanceMethod yX6_damageBy, Cond.selects RX6 yX6_damageBy yX6_damageBy, Cond.code yX6_damageBy cX6_damageBy 8 (some .int)]
def wsL_law_r22 : List Cond := [Cond.methodLink RL 126 yX5_adoptBestShift, Cond.instanceMethod yX5_adoptBestShift, Cond.selects RX5 yX5_adoptBestShift yX5_adoptBestShift, Cond.code yX5_adoptBestShift cX5_adoptBestShift 8 (some .int), Cond.fieldLink RX5 164 "MarqueeDisplay" "SHIFTS_BEST_FIRST" "[I", Cond.methodLink RL 129 yX6_adoptBestShift, Cond.instanceMethod yX6_adoptBestShift, Cond.selects RX6 yX6_adoptBestShift yX6_adoptBestShift, Cond.code yX6_adoptBestShift cX6_adoptBestShift 3 (some .int)]
def wsL_law : List Cond := (wsL_law_r1 ++ (wsL_law_r2 ++ (wsL_law_r3 ++ (wsL_law_r4 ++ (wsL_law_r5 ++ (wsL_law_r6 ++ (wsL_law_r7 ++ (wsL_law_r8 ++ (wsL_law_r9 ++ (wsL_law_r10 ++ (wsL_law_r11 ++ (wsL_law_r12 ++ (wsL_law_r13 ++ (wsL_law_r14 ++ (wsL_law_r15 ++ (wsL_law_r16 ++ (wsL_law_r17 ++ (wsL_law_r18 ++ (wsL_law_r19 ++ (wsL_law_r20 ++ (wsL_law_r21 ++ wsL_law_r22))))))))))))))))))))) ++ wsX50 ++ wsX60 ++ wsX00 ++ wsX40 ++ wsX20 ++ wsX30 ++ wsX10 ++ ([] : List Cond)
abbrev vwCl : List vw_C := [(RX0, TX0, 2), (RX1, TX1, 4), (RX2, TX2, 2), (RX3, TX3, 3), (RX4, TX4, 2), (RX5, TX5, 12), (RX6, TX6, 19)]
end
section
theorem mem_r {big : List Cond} (ws : List Cond) (ps : List Nat) (hp : ws = ps.filterMap (fun i => big[i]?)) : ∀ w ∈ ws, w ∈ big := by
  intro w hw
  rw [hp] at hw
  obtain ⟨i, -, hi⟩ := List.mem_filterMap.mp hw
  exact List.mem_of_getElem? hi
set_option maxRecDepth 20000 in
theorem in_wsL_law_r1 : ∀ w ∈ wsL_law_r1, w ∈ lw_tbl := mem_r wsL_law_r1 [34, 35, 25, 429, 430, 31, 36, 37, 38, 39, 40, 41, 42, 43, 26, 132, 56, 57, 27, 133, 72, 73, 28, 134] (by decide +kernel)
set_option maxRecDepth 20000 in
theorem in_wsL_law_r2 : ∀ w ∈ wsL_law_r2, w ∈ lw_tbl := mem_r wsL_law_r2 [115, 116, 30, 135, 55, 136, 137, 138, 139, 140, 141, 142, 143, 44, 45, 46, 47, 48, 49, 59, 60, 61, 62, 74] (by decide +kernel)
set_option maxRecDepth 20000 in
theorem in_wsL_law_r3 : ∀ w ∈ wsL_law_r3, w ∈ lw_tbl := mem_r wsL_law_r3 [75, 76, 77, 78, 106, 80, 29, 82, 83, 84, 85, 87, 118, 119, 120, 121, 122, 431, 432, 433, 434, 435, 436, 437] (by decide +kernel)
set_option maxRecDepth 20000 in
theorem in_wsL_law_r4 : ∀ w ∈ wsL_law_r4, w ∈ lw_tbl := mem_r wsL_law_r4 [439, 442, 443, 444, 446, 448, 449, 450, 452, 453, 169, 170, 171, 172, 173, 174, 175, 176, 177, 178, 179, 180, 181, 182] (by decide +kernel)
set_option maxRecDepth 20000 in
theorem in_wsL_law_r5 : ∀ w ∈ wsL_law_r5, w ∈ lw_tbl := mem_r wsL_law_r5 [183, 184, 185, 186, 189, 191, 0, 192, 193, 194, 195, 196, 123, 197, 198, 199, 200, 107, 202, 204, 1, 205, 206, 208] (by decide +kernel)
set_option maxRecDepth 20000 in
theorem in_wsL_law_r6 : ∀ w ∈ wsL_law_r6, w ∈ lw_tbl := mem_r wsL_law_r6 [2, 209, 210, 212, 3, 213, 214, 216, 4, 217, 218, 219, 220, 221, 222, 493, 494, 495, 496, 497, 498, 499, 500, 502] (by decide +kernel)
set_option maxRecDepth 20000 in
theorem in_wsL_law_r7 : ∀ w ∈ wsL_law_r7, w ∈ lw_tbl := mem_r wsL_law_r7 [13, 503, 440, 504, 506, 14, 507, 447, 508, 510, 15, 511, 512, 514, 16, 515, 223, 224, 225, 226, 227, 228, 229, 230] (by decide +kernel)
set_option maxRecDepth 20000 in
theorem in_wsL_law_r8 : ∀ w ∈ wsL_law_r8, w ∈ lw_tbl := mem_r wsL_law_r8 [231, 232, 233, 234, 235, 236, 237, 516, 517, 518, 519, 238, 239, 240, 241, 520, 521, 522, 523, 242, 243, 244, 245, 246] (by decide +kernel)
set_option maxRecDepth 20000 in
theorem in_wsL_law_r9 : ∀ w ∈ wsL_law_r9, w ∈ lw_tbl := mem_r wsL_law_r9 [247, 248, 249, 64, 524, 525, 526, 527, 445, 250, 251, 252, 253, 254, 255, 256, 257, 528, 529, 530, 531, 258, 259, 260] (by decide +kernel)
set_option maxRecDepth 20000 in
theorem in_wsL_law_r10 : ∀ w ∈ wsL_law_r10, w ∈ lw_tbl := mem_r wsL_law_r10 [261, 262, 263, 264, 265, 266, 267, 268, 269, 270, 271, 272, 532, 533, 534, 535, 536, 538, 17, 539, 273, 274, 275, 276] (by decide +kernel)
set_option maxRecDepth 20000 in
theorem in_wsL_law_r11 : ∀ w ∈ wsL_law_r11, w ∈ lw_tbl := mem_r wsL_law_r11 [277, 278, 279, 280, 281, 282, 540, 541, 542, 543, 544, 546, 18, 547, 283, 284, 285, 286, 548, 549, 550, 551, 287, 288] (by decide +kernel)
set_option maxRecDepth 20000 in
theorem in_wsL_law_r12 : ∀ w ∈ wsL_law_r12, w ∈ lw_tbl := mem_r wsL_law_r12 [289, 290, 552, 553, 554, 555, 291, 292, 293, 294, 556, 557, 558, 559, 295, 296, 297, 298, 560, 561, 562, 563, 299, 300] (by decide +kernel)
set_option maxRecDepth 20000 in
theorem in_wsL_law_r13 : ∀ w ∈ wsL_law_r13, w ∈ lw_tbl := mem_r wsL_law_r13 [301, 302, 564, 565, 566, 567, 303, 304, 305, 306, 568, 569, 570, 571, 441, 307, 308, 309, 310, 311, 312, 313, 572, 573] (by decide +kernel)
set_option maxRecDepth 20000 in
theorem in_wsL_law_r14 : ∀ w ∈ wsL_law_r14, w ∈ lw_tbl := mem_r wsL_law_r14 [574, 575, 438, 314, 315, 316, 317, 576, 577, 578, 579, 318, 319, 320, 321, 322, 324, 5, 325, 326, 328, 6, 329, 330] (by decide +kernel)
set_option maxRecDepth 20000 in
theorem in_wsL_law_r15 : ∀ w ∈ wsL_law_r15, w ∈ lw_tbl := mem_r wsL_law_r15 [332, 7, 333, 334, 336, 8, 337, 338, 339, 32, 340, 341, 342, 343, 580, 581, 582, 583, 584, 585, 586, 344, 345, 346] (by decide +kernel)
set_option maxRecDepth 20000 in
theorem in_wsL_law_r16 : ∀ w ∈ wsL_law_r16, w ∈ lw_tbl := mem_r wsL_law_r16 [347, 348, 349, 350, 351, 352, 353, 33, 354, 587, 588, 589, 590, 355, 356, 357, 358, 591, 592, 593, 594, 359, 360, 361] (by decide +kernel)
set_option maxRecDepth 20000 in
theorem in_wsL_law_r17 : ∀ w ∈ wsL_law_r17, w ∈ lw_tbl := mem_r wsL_law_r17 [362, 595, 596, 597, 598, 363, 364, 365, 366, 599, 600, 601, 602, 367, 368, 369, 370, 603, 604, 605, 606, 371, 372, 373] (by decide +kernel)
set_option maxRecDepth 20000 in
theorem in_wsL_law_r18 : ∀ w ∈ wsL_law_r18, w ∈ lw_tbl := mem_r wsL_law_r18 [374, 375, 377, 9, 378, 379, 380, 381, 382, 383, 384, 385, 386, 387, 388, 389, 390, 607, 608, 609, 610, 611, 613, 19] (by decide +kernel)
set_option maxRecDepth 20000 in
theorem in_wsL_law_r19 : ∀ w ∈ wsL_law_r19, w ∈ lw_tbl := mem_r wsL_law_r19 [614, 451, 615, 617, 20, 618, 619, 621, 21, 622, 391, 392, 393, 394, 395, 397, 10, 398, 623, 624, 625, 626, 627, 629] (by decide +kernel)
set_option maxRecDepth 20000 in
theorem in_wsL_law_r20 : ∀ w ∈ wsL_law_r20, w ∈ lw_tbl := mem_r wsL_law_r20 [22, 630, 399, 400, 401, 402, 631, 632, 633, 634, 635, 403, 404, 405, 406, 407, 409, 11, 410, 636, 637, 638, 639, 411] (by decide +kernel)
set_option maxRecDepth 20000 in
theorem in_wsL_law_r21 : ∀ w ∈ wsL_law_r21, w ∈ lw_tbl := mem_r wsL_law_r21 [412, 413, 414, 640, 641, 642, 643, 644, 415, 416, 417, 418, 419, 421, 12, 422, 645, 646, 647, 648, 649, 651, 23, 652] (by decide +kernel)
set_option maxRecDepth 20000 in
theorem in_wsL_law_r22 : ∀ w ∈ wsL_law_r22, w ∈ lw_tbl := mem_r wsL_law_r22 [423, 424, 425, 426, 427, 653, 654, 655, 656] (by decide +kernel)
set_option maxRecDepth 20000 in
theorem in_wsX00 : ∀ w ∈ wsX00, w ∈ lw_tbl := mem_r wsX00 [50, 52] (by decide +kernel)
set_option maxRecDepth 20000 in
theorem in_wsX10 : ∀ w ∈ wsX10, w ∈ lw_tbl := mem_r wsX10 [97, 99, 101, 103] (by decide +kernel)
set_option maxRecDepth 20000 in
theorem in_wsX20 : ∀ w ∈ wsX20, w ∈ lw_tbl := mem_r wsX20 [110, 112] (by decide +kernel)
set_option maxRecDepth 20000 in
theorem in_wsX30 : ∀ w ∈ wsX30, w ∈ lw_tbl := mem_r wsX30 [125, 127, 129] (by decide +kernel)
set_option maxRecDepth 20000 in
theorem in_wsX40 : ∀ w ∈ wsX40, w ∈ lw_tbl := mem_r wsX40 [67, 69] (by decide +kernel)
set_option maxRecDepth 20000 in
theorem in_wsX50 : ∀ w ∈ wsX50, w ∈ lw_tbl := mem_r wsX50 [144, 146, 148, 150, 152, 154, 156, 158, 160, 162, 164, 166] (by decide +kernel)
set_option maxRecDepth 20000 in
theorem in_wsX60 : ∀ w ∈ wsX60, w ∈ lw_tbl := mem_r wsX60 [454, 456, 458, 460, 462, 464, 466, 468, 470, 472, 474, 476, 478, 480, 482, 484, 486, 488, 490] (by decide +kernel)
theorem wsL_law_in : ∀ w ∈ wsL_law, w ∈ lw_tbl := by
  unfold wsL_law
  simp only [List.forall_mem_append]
  exact ⟨⟨⟨⟨⟨⟨⟨⟨⟨in_wsL_law_r1, ⟨in_wsL_law_r2, ⟨in_wsL_law_r3, ⟨in_wsL_law_r4, ⟨in_wsL_law_r5, ⟨in_wsL_law_r6, ⟨in_wsL_law_r7, ⟨in_wsL_law_r8, ⟨in_wsL_law_r9, ⟨in_wsL_law_r10, ⟨in_wsL_law_r11, ⟨in_wsL_law_r12, ⟨in_wsL_law_r13, ⟨in_wsL_law_r14, ⟨in_wsL_law_r15, ⟨in_wsL_law_r16, ⟨in_wsL_law_r17, ⟨in_wsL_law_r18, ⟨in_wsL_law_r19, ⟨in_wsL_law_r20, ⟨in_wsL_law_r21, in_wsL_law_r22⟩⟩⟩⟩⟩⟩⟩⟩⟩⟩⟩⟩⟩⟩⟩⟩⟩⟩⟩⟩⟩, in_wsX50⟩, in_wsX60⟩, in_wsX00⟩, in_wsX40⟩, in_wsX20⟩, in_wsX30⟩, in_wsX10⟩, fun _ h => absurd h List.not_mem_nil⟩
end
section
theorem inlX0 : ∀ w ∈ wsX00, w ∈ wsL_law := fun _ h => List.mem_append_left _ (List.mem_append_left _ (List.mem_append_left _ (List.mem_append_left _ (List.mem_append_left _ (List.mem_append_right _ h)))))
theorem inX0 : ∀ w ∈ wsX00, w ∈ lw_tbl := fun w h => wsL_law_in w (inlX0 w h)
theorem inlX1 : ∀ w ∈ wsX10, w ∈ wsL_law := fun _ h => List.mem_append_left _ (List.mem_append_right _ h)
theorem inX1 : ∀ w ∈ wsX10, w ∈ lw_tbl := fun w h => wsL_law_in w (inlX1 w h)
theorem inlX2 : ∀ w ∈ wsX20, w ∈ wsL_law := fun _ h => List.mem_append_left _ (List.mem_append_left _ (List.mem_append_left _ (List.mem_append_right _ h)))
theorem inX2 : ∀ w ∈ wsX20, w ∈ lw_tbl := fun w h => wsL_law_in w (inlX2 w h)
theorem inlX3 : ∀ w ∈ wsX30, w ∈ wsL_law := fun _ h => List.mem_append_left _ (List.mem_append_left _ (List.mem_append_right _ h))
theorem inX3 : ∀ w ∈ wsX30, w ∈ lw_tbl := fun w h => wsL_law_in w (inlX3 w h)
theorem inlX4 : ∀ w ∈ wsX40, w ∈ wsL_law := fun _ h => List.mem_append_left _ (List.mem_append_left _ (List.mem_append_left _ (List.mem_append_left _ (List.mem_append_right _ h))))
theorem inX4 : ∀ w ∈ wsX40, w ∈ lw_tbl := fun w h => wsL_law_in w (inlX4 w h)
theorem inlX5 : ∀ w ∈ wsX50, w ∈ wsL_law := fun _ h => List.mem_append_left _ (List.mem_append_left _ (List.mem_append_left _ (List.mem_append_left _ (List.mem_append_left _ (List.mem_append_left _ (List.mem_append_left _ (List.mem_append_right _ h)))))))
theorem inX5 : ∀ w ∈ wsX50, w ∈ lw_tbl := fun w h => wsL_law_in w (inlX5 w h)
theorem inlX6 : ∀ w ∈ wsX60, w ∈ wsL_law := fun _ h => List.mem_append_left _ (List.mem_append_left _ (List.mem_append_left _ (List.mem_append_left _ (List.mem_append_left _ (List.mem_append_left _ (List.mem_append_right _ h))))))
theorem inX6 : ∀ w ∈ wsX60, w ∈ lw_tbl := fun w h => wsL_law_in w (inlX6 w h)
theorem inJ6 : ∀ w ∈ wsJ60, w ∈ lw_tbl := by decide +kernel
theorem inJ9 : ∀ w ∈ wsJ90, w ∈ lw_tbl := by decide +kernel
theorem dX0_init_0 : decode cX0_init 0 = .ok (.aload_n 0, 1) := by decide +kernel
theorem dX0_init_1 : decode cX0_init 1 = .ok (.invokespecial 3, 3) := by decide +kernel
theorem dX0_init_4 : decode cX0_init 4 = .ok (.aload_n 0, 1) := by decide +kernel
theorem dX0_init_5 : decode cX0_init 5 = .ok (.bipush 27, 2) := by decide +kernel
theorem dX0_init_7 : decode cX0_init 7 = .ok (.newarray .int, 2) := by decide +kernel
theorem dX0_init_9 : decode cX0_init 9 = .ok (.putfield 9, 3) := by decide +kernel
theorem dX0_init_12 : decode cX0_init 12 = .ok (.aload_n 0, 1) := by decide +kernel
theorem dX0_init_13 : decode cX0_init 13 = .ok (.sipush 162, 3) := by decide +kernel
theorem dX0_init_16 : decode cX0_init 16 = .ok (.newarray .int, 2) := by decide +kernel
theorem dX0_init_18 : decode cX0_init 18 = .ok (.putfield 15, 3) := by decide +kernel
theorem dX0_init_21 : decode cX0_init 21 = .ok (.iconst 0, 1) := by decide +kernel
theorem dX0_init_22 : decode cX0_init 22 = .ok (.istore_n 1, 1) := by decide +kernel
theorem dX0_init_23 : decode cX0_init 23 = .ok (.iload_n 1, 1) := by decide +kernel
theorem dX0_init_24 : decode cX0_init 24 = .ok (.bipush 26, 2) := by decide +kernel
theorem dX0_init_26 : decode cX0_init 26 = .ok (.if_icmp .ge 65, 3) := by decide +kernel
theorem dX0_init_29 : decode cX0_init 29 = .ok (.iconst 3, 1) := by decide +kernel
theorem dX0_init_30 : decode cX0_init 30 = .ok (.iload_n 1, 1) := by decide +kernel
theorem dX0_init_31 : decode cX0_init 31 = .ok (.iconst 3, 1) := by decide +kernel
theorem dX0_init_32 : decode cX0_init 32 = .ok (.irem, 1) := by decide +kernel
theorem dX0_init_33 : decode cX0_init 33 = .ok (.iadd, 1) := by decide +kernel
theorem dX0_init_34 : decode cX0_init 34 = .ok (.istore_n 2, 1) := by decide +kernel
theorem dX0_init_35 : decode cX0_init 35 = .ok (.aload_n 0, 1) := by decide +kernel
theorem dX0_init_36 : decode cX0_init 36 = .ok (.getfield 9, 3) := by decide +kernel
theorem dX0_init_39 : decode cX0_init 39 = .ok (.iload_n 1, 1) := by decide +kernel
theorem dX0_init_40 : decode cX0_init 40 = .ok (.iload_n 2, 1) := by decide +kernel
theorem dX0_init_41 : decode cX0_init 41 = .ok (.iastore, 1) := by decide +kernel
theorem dX0_init_42 : decode cX0_init 42 = .ok (.iconst 0, 1) := by decide +kernel
theorem dX0_init_43 : decode cX0_init 43 = .ok (.istore_n 3, 1) := by decide +kernel
theorem dX0_init_44 : decode cX0_init 44 = .ok (.iload_n 3, 1) := by decide +kernel
theorem dX0_init_45 : decode cX0_init 45 = .ok (.iload_n 2, 1) := by decide +kernel
theorem dX0_init_46 : decode cX0_init 46 = .ok (.if_icmp .ge 39, 3) := by decide +kernel
theorem dX0_init_49 : decode cX0_init 49 = .ok (.aload_n 0, 1) := by decide +kernel
theorem dX0_init_50 : decode cX0_init 50 = .ok (.getfield 15, 3) := by decide +kernel
theorem dX0_init_53 : decode cX0_init 53 = .ok (.iload_n 1, 1) := by decide +kernel
theorem dX0_init_54 : decode cX0_init 54 = .ok (.bipush 6, 2) := by decide +kernel
theorem dX0_init_56 : decode cX0_init 56 = .ok (.imul, 1) := by decide +kernel
theorem dX0_init_57 : decode cX0_init 57 = .ok (.iload_n 3, 1) := by decide +kernel
theorem dX0_init_58 : decode cX0_init 58 = .ok (.iadd, 1) := by decide +kernel
theorem dX0_init_59 : decode cX0_init 59 = .ok (.iload_n 1, 1) := by decide +kernel
theorem dX0_init_60 : decode cX0_init 60 = .ok (.iconst 1, 1) := by decide +kernel
theorem dX0_init_61 : decode cX0_init 61 = .ok (.iadd, 1) := by decide +kernel
theorem dX0_init_62 : decode cX0_init 62 = .ok (.iload_n 3, 1) := by decide +kernel
theorem dX0_init_63 : decode cX0_init 63 = .ok (.iconst 2, 1) := by decide +kernel
theorem dX0_init_64 : decode cX0_init 64 = .ok (.iadd, 1) := by decide +kernel
theorem dX0_init_65 : decode cX0_init 65 = .ok (.imul, 1) := by decide +kernel
theorem dX0_init_66 : decode cX0_init 66 = .ok (.bipush 29, 2) := by decide +kernel
theorem dX0_init_68 : decode cX0_init 68 = .ok (.imul, 1) := by decide +kernel
theorem dX0_init_69 : decode cX0_init 69 = .ok (.bipush 17, 2) := by decide +kernel
theorem dX0_init_71 : decode cX0_init 71 = .ok (.iload_n 3, 1) := by decide +kernel
theorem dX0_init_72 : decode cX0_init 72 = .ok (.imul, 1) := by decide +kernel
theorem dX0_init_73 : decode cX0_init 73 = .ok (.iadd, 1) := by decide +kernel
theorem dX0_init_74 : decode cX0_init 74 = .ok (.sipush 256, 3) := by decide +kernel
theorem dX0_init_77 : decode cX0_init 77 = .ok (.irem, 1) := by decide +kernel
theorem dX0_init_78 : decode cX0_init 78 = .ok (.iastore, 1) := by decide +kernel
theorem dX0_init_79 : decode cX0_init 79 = .ok (.iinc 3 1, 3) := by decide +kernel
theorem dX0_init_82 : decode cX0_init 82 = .ok (.goto (-38), 3) := by decide +kernel
theorem dX0_init_85 : decode cX0_init 85 = .ok (.iinc 1 1, 3) := by decide +kernel
theorem dX0_init_88 : decode cX0_init 88 = .ok (.goto (-65), 3) := by decide +kernel
theorem dX0_init_91 : decode cX0_init 91 = .ok (.aload_n 0, 1) := by decide +kernel
theorem dX0_init_92 : decode cX0_init 92 = .ok (.getfield 9, 3) := by decide +kernel
theorem dX0_init_95 : decode cX0_init 95 = .ok (.bipush 26, 2) := by decide +kernel
theorem dX0_init_97 : decode cX0_init 97 = .ok (.iconst 2, 1) := by decide +kernel
theorem dX0_init_98 : decode cX0_init 98 = .ok (.iastore, 1) := by decide +kernel
theorem dX0_init_99 : decode cX0_init 99 = .ok (.return_, 1) := by decide +kernel
theorem dX0_widthOf_0 : decode cX0_widthOf 0 = .ok (.iload_n 1, 1) := by decide +kernel
theorem dX0_widthOf_1 : decode cX0_widthOf 1 = .ok (.ifCond .lt 21, 3) := by decide +kernel
theorem dX0_widthOf_4 : decode cX0_widthOf 4 = .ok (.iload_n 1, 1) := by decide +kernel
theorem dX0_widthOf_5 : decode cX0_widthOf 5 = .ok (.aload_n 0, 1) := by decide +kernel
theorem dX0_widthOf_6 : decode cX0_widthOf 6 = .ok (.getfield 9, 3) := by decide +kernel
theorem dX0_widthOf_9 : decode cX0_widthOf 9 = .ok (.arraylength, 1) := by decide +kernel
theorem dX0_widthOf_10 : decode cX0_widthOf 10 = .ok (.if_icmp .ge 12, 3) := by decide +kernel
theorem dX0_widthOf_13 : decode cX0_widthOf 13 = .ok (.aload_n 0, 1) := by decide +kernel
theorem dX0_widthOf_14 : decode cX0_widthOf 14 = .ok (.getfield 9, 3) := by decide +kernel
theorem dX0_widthOf_17 : decode cX0_widthOf 17 = .ok (.iload_n 1, 1) := by decide +kernel
theorem dX0_widthOf_18 : decode cX0_widthOf 18 = .ok (.iaload, 1) := by decide +kernel
theorem dX0_widthOf_19 : decode cX0_widthOf 19 = .ok (.goto 4, 3) := by decide +kernel
theorem dX0_widthOf_22 : decode cX0_widthOf 22 = .ok (.iconst 0, 1) := by decide +kernel
theorem dX0_widthOf_23 : decode cX0_widthOf 23 = .ok (.ireturn, 1) := by decide +kernel
set_option maxRecDepth 20000 in
theorem ggX0_hasColumn_X0_widthOf : GoodIn wsX0_hasColumn wsX0_widthOf := goodIn_r _ [5, 6, 10, 11] (by decide +kernel) (by decide +kernel)
set_option maxRecDepth 20000 in
theorem gX0_hasColumn_X0_widthOf : GoodIn wsX0_hasColumn (wsV RX0 18 RX0 yX0_widthOf wsX0_widthOf) := goodIn_app (goodIn_of _ (by decide +kernel)) ggX0_hasColumn_X0_widthOf
set_option maxRecDepth 20000 in
theorem ggX0_hasColumn_X5_isWithin : GoodIn wsX0_hasColumn wsX5_isWithin := goodIn_r _ [9] (by decide +kernel) (by decide +kernel)
set_option maxRecDepth 20000 in
theorem gX0_hasColumn_X5_isWithin_n22 : GoodIn wsX0_hasColumn (wsX5_isWithin) := ggX0_hasColumn_X5_isWithin
theorem dX0_hasColumn_0 : decode cX0_hasColumn 0 = .ok (.iload_n 2, 1) := by decide +kernel
theorem dX0_hasColumn_1 : decode cX0_hasColumn 1 = .ok (.iconst 0, 1) := by decide +kernel
theorem dX0_hasColumn_2 : decode cX0_hasColumn 2 = .ok (.aload_n 0, 1) := by decide +kernel
theorem dX0_hasColumn_3 : decode cX0_hasColumn 3 = .ok (.iload_n 1, 1) := by decide +kernel
theorem dX0_hasColumn_4 : decode cX0_hasColumn 4 = .ok (.invokevirtual 18, 3) := by decide +kernel
theorem dX0_hasColumn_7 : decode cX0_hasColumn 7 = .ok (.iconst 1, 1) := by decide +kernel
theorem dX0_hasColumn_8 : decode cX0_hasColumn 8 = .ok (.isub, 1) := by decide +kernel
theorem dX0_hasColumn_9 : decode cX0_hasColumn 9 = .ok (.invokestatic 22, 3) := by decide +kernel
theorem dX0_hasColumn_12 : decode cX0_hasColumn 12 = .ok (.ireturn, 1) := by decide +kernel
theorem dX0_dotsOf_0 : decode cX0_dotsOf 0 = .ok (.iload_n 1, 1) := by decide +kernel
theorem dX0_dotsOf_1 : decode cX0_dotsOf 1 = .ok (.ifCond .lt 19, 3) := by decide +kernel
theorem dX0_dotsOf_4 : decode cX0_dotsOf 4 = .ok (.iload_n 1, 1) := by decide +kernel
theorem dX0_dotsOf_5 : decode cX0_dotsOf 5 = .ok (.bipush 27, 2) := by decide +kernel
theorem dX0_dotsOf_7 : decode cX0_dotsOf 7 = .ok (.if_icmp .ge 13, 3) := by decide +kernel
theorem dX0_dotsOf_10 : decode cX0_dotsOf 10 = .ok (.iload_n 2, 1) := by decide +kernel
theorem dX0_dotsOf_11 : decode cX0_dotsOf 11 = .ok (.ifCond .lt 9, 3) := by decide +kernel
theorem dX0_dotsOf_14 : decode cX0_dotsOf 14 = .ok (.iload_n 2, 1) := by decide +kernel
theorem dX0_dotsOf_15 : decode cX0_dotsOf 15 = .ok (.bipush 6, 2) := by decide +kernel
theorem dX0_dotsOf_17 : decode cX0_dotsOf 17 = .ok (.if_icmp .lt 5, 3) := by decide +kernel
theorem dX0_dotsOf_20 : decode cX0_dotsOf 20 = .ok (.iconst 0, 1) := by decide +kernel
theorem dX0_dotsOf_21 : decode cX0_dotsOf 21 = .ok (.ireturn, 1) := by decide +kernel
theorem dX0_dotsOf_22 : decode cX0_dotsOf 22 = .ok (.aload_n 0, 1) := by decide +kernel
theorem dX0_dotsOf_23 : decode cX0_dotsOf 23 = .ok (.getfield 15, 3) := by decide +kernel
theorem dX0_dotsOf_26 : decode cX0_dotsOf 26 = .ok (.iload_n 1, 1) := by decide +kernel
theorem dX0_dotsOf_27 : decode cX0_dotsOf 27 = .ok (.bipush 6, 2) := by decide +kernel
theorem dX0_dotsOf_29 : decode cX0_dotsOf 29 = .ok (.imul, 1) := by decide +kernel
theorem dX0_dotsOf_30 : decode cX0_dotsOf 30 = .ok (.iload_n 2, 1) := by decide +kernel
theorem dX0_dotsOf_31 : decode cX0_dotsOf 31 = .ok (.iadd, 1) := by decide +kernel
theorem dX0_dotsOf_32 : decode cX0_dotsOf 32 = .ok (.iaload, 1) := by decide +kernel
theorem dX0_dotsOf_33 : decode cX0_dotsOf 33 = .ok (.ireturn, 1) := by decide +kernel
set_option maxRecDepth 20000 in
theorem ggX0_draw_X0_hasColumn : GoodIn wsX0_draw wsX0_hasColumn := goodIn_r _ [6, 7, 8, 9, 5, 10, 11, 12, 13, 14, 15, 16] (by decide +kernel) (by decide +kernel)
set_option maxRecDepth 20000 in
theorem gX0_draw_X0_hasColumn : GoodIn wsX0_draw (wsV RX0 26 RX0 yX0_hasColumn wsX0_hasColumn) := goodIn_app (goodIn_of _ (by decide +kernel)) ggX0_draw_X0_hasColumn
theorem dX0_draw_0 : decode cX0_draw 0 = .ok (.aload_n 0, 1) := by decide +kernel
theorem dX0_draw_1 : decode cX0_draw 1 = .ok (.iload_n 1, 1) := by decide +kernel
theorem dX0_draw_2 : decode cX0_draw 2 = .ok (.iload_n 2, 1) := by decide +kernel
theorem dX0_draw_3 : decode cX0_draw 3 = .ok (.invokevirtual 26, 3) := by decide +kernel
theorem dX0_draw_6 : decode cX0_draw 6 = .ok (.ifCond .eq 15, 3) := by decide +kernel
theorem dX0_draw_9 : decode cX0_draw 9 = .ok (.aload_n 0, 1) := by decide +kernel
theorem dX0_draw_10 : decode cX0_draw 10 = .ok (.getfield 15, 3) := by decide +kernel
theorem dX0_draw_13 : decode cX0_draw 13 = .ok (.iload_n 1, 1) := by decide +kernel
theorem dX0_draw_14 : decode cX0_draw 14 = .ok (.bipush 6, 2) := by decide +kernel
theorem dX0_draw_16 : decode cX0_draw 16 = .ok (.imul, 1) := by decide +kernel
theorem dX0_draw_17 : decode cX0_draw 17 = .ok (.iload_n 2, 1) := by decide +kernel
theorem dX0_draw_18 : decode cX0_draw 18 = .ok (.iadd, 1) := by decide +kernel
theorem dX0_draw_19 : decode cX0_draw 19 = .ok (.iload_n 3, 1) := by decide +kernel
theorem dX0_draw_20 : decode cX0_draw 20 = .ok (.iastore, 1) := by decide +kernel
theorem dX0_draw_21 : decode cX0_draw 21 = .ok (.return_, 1) := by decide +kernel
set_option maxRecDepth 20000 in
theorem ggX0_resize_X5_isCharacter : GoodIn wsX0_resize wsX5_isCharacter := goodIn_r _ [5, 6, 7, 4, 8] (by decide +kernel) (by decide +kernel)
set_option maxRecDepth 20000 in
theorem gX0_resize_X5_isCharacter_n30 : GoodIn wsX0_resize (wsX5_isCharacter) := ggX0_resize_X5_isCharacter
set_option maxRecDepth 20000 in
theorem ggX0_resize_X5_isWithin : GoodIn wsX0_resize wsX5_isWithin := goodIn_r _ [8] (by decide +kernel) (by decide +kernel)
set_option maxRecDepth 20000 in
theorem gX0_resize_X5_isWithin_n22 : GoodIn wsX0_resize (wsX5_isWithin) := ggX0_resize_X5_isWithin
theorem dX0_resize_0 : decode cX0_resize 0 = .ok (.iload_n 1, 1) := by decide +kernel
theorem dX0_resize_1 : decode cX0_resize 1 = .ok (.invokestatic 30, 3) := by decide +kernel
theorem dX0_resize_4 : decode cX0_resize 4 = .ok (.ifCond .eq 13, 3) := by decide +kernel
theorem dX0_resize_7 : decode cX0_resize 7 = .ok (.iload_n 2, 1) := by decide +kernel
theorem dX0_resize_8 : decode cX0_resize 8 = .ok (.iconst 1, 1) := by decide +kernel
theorem dX0_resize_9 : decode cX0_resize 9 = .ok (.bipush 6, 2) := by decide +kernel
theorem dX0_resize_11 : decode cX0_resize 11 = .ok (.invokestatic 22, 3) := by decide +kernel
theorem dX0_resize_14 : decode cX0_resize 14 = .ok (.ifCond .ne 4, 3) := by decide +kernel
theorem dX0_resize_17 : decode cX0_resize 17 = .ok (.return_, 1) := by decide +kernel
theorem dX0_resize_18 : decode cX0_resize 18 = .ok (.iload_n 2, 1) := by decide +kernel
theorem dX0_resize_19 : decode cX0_resize 19 = .ok (.istore_n 3, 1) := by decide +kernel
theorem dX0_resize_20 : decode cX0_resize 20 = .ok (.iload_n 3, 1) := by decide +kernel
theorem dX0_resize_21 : decode cX0_resize 21 = .ok (.bipush 6, 2) := by decide +kernel
theorem dX0_resize_23 : decode cX0_resize 23 = .ok (.if_icmp .ge 21, 3) := by decide +kernel
theorem dX0_resize_26 : decode cX0_resize 26 = .ok (.aload_n 0, 1) := by decide +kernel
theorem dX0_resize_27 : decode cX0_resize 27 = .ok (.getfield 15, 3) := by decide +kernel
theorem dX0_resize_30 : decode cX0_resize 30 = .ok (.iload_n 1, 1) := by decide +kernel
theorem dX0_resize_31 : decode cX0_resize 31 = .ok (.bipush 6, 2) := by decide +kernel
theorem dX0_resize_33 : decode cX0_resize 33 = .ok (.imul, 1) := by decide +kernel
theorem dX0_resize_34 : decode cX0_resize 34 = .ok (.iload_n 3, 1) := by decide +kernel
theorem dX0_resize_35 : decode cX0_resize 35 = .ok (.iadd, 1) := by decide +kernel
theorem dX0_resize_36 : decode cX0_resize 36 = .ok (.iconst 0, 1) := by decide +kernel
theorem dX0_resize_37 : decode cX0_resize 37 = .ok (.iastore, 1) := by decide +kernel
theorem dX0_resize_38 : decode cX0_resize 38 = .ok (.iinc 3 1, 3) := by decide +kernel
theorem dX0_resize_41 : decode cX0_resize 41 = .ok (.goto (-21), 3) := by decide +kernel
theorem dX0_resize_44 : decode cX0_resize 44 = .ok (.aload_n 0, 1) := by decide +kernel
theorem dX0_resize_45 : decode cX0_resize 45 = .ok (.getfield 9, 3) := by decide +kernel
theorem dX0_resize_48 : decode cX0_resize 48 = .ok (.iload_n 1, 1) := by decide +kernel
theorem dX0_resize_49 : decode cX0_resize 49 = .ok (.iload_n 2, 1) := by decide +kernel
theorem dX0_resize_50 : decode cX0_resize 50 = .ok (.iastore, 1) := by decide +kernel
theorem dX0_resize_51 : decode cX0_resize 51 = .ok (.return_, 1) := by decide +kernel
set_option maxRecDepth 20000 in
theorem ggX1_init_X4_init : GoodIn wsX1_init wsX4_init := goodIn_r _ [9, 10, 2, 3, 11, 12, 13, 14] (by decide +kernel) (by decide +kernel)
set_option maxRecDepth 20000 in
theorem gX1_init_X4_init_n9 : GoodIn wsX1_init (wsX4_init) := ggX1_init_X4_init
theorem dX1_init_0 : decode cX1_init 0 = .ok (.aload_n 0, 1) := by decide +kernel
theorem dX1_init_1 : decode cX1_init 1 = .ok (.invokespecial 1, 3) := by decide +kernel
theorem dX1_init_4 : decode cX1_init 4 = .ok (.aload_n 0, 1) := by decide +kernel
theorem dX1_init_5 : decode cX1_init 5 = .ok (.new 7, 3) := by decide +kernel
theorem dX1_init_8 : decode cX1_init 8 = .ok (.dup, 1) := by decide +kernel
theorem dX1_init_9 : decode cX1_init 9 = .ok (.invokespecial 9, 3) := by decide +kernel
theorem dX1_init_12 : decode cX1_init 12 = .ok (.putfield 10, 3) := by decide +kernel
theorem dX1_init_15 : decode cX1_init 15 = .ok (.return_, 1) := by decide +kernel
set_option maxRecDepth 20000 in
theorem ggX2_init_X1_init : GoodIn wsX2_init wsX1_init := goodIn_r _ [9, 10, 2, 3, 11, 12, 13, 14, 15, 16, 17, 18, 19, 26, 27, 22, 23, 24, 25] (by decide +kernel) (by decide +kernel)
set_option maxRecDepth 20000 in
theorem gX2_init_X1_init_n17 : GoodIn wsX2_init (wsX1_init) := ggX2_init_X1_init
theorem dX2_init_0 : decode cX2_init 0 = .ok (.aload_n 0, 1) := by decide +kernel
theorem dX2_init_1 : decode cX2_init 1 = .ok (.invokespecial 3, 3) := by decide +kernel
theorem dX2_init_4 : decode cX2_init 4 = .ok (.aload_n 0, 1) := by decide +kernel
theorem dX2_init_5 : decode cX2_init 5 = .ok (.bipush 6, 2) := by decide +kernel
theorem dX2_init_7 : decode cX2_init 7 = .ok (.anewarray 9, 3) := by decide +kernel
theorem dX2_init_10 : decode cX2_init 10 = .ok (.putfield 11, 3) := by decide +kernel
theorem dX2_init_13 : decode cX2_init 13 = .ok (.iconst 0, 1) := by decide +kernel
theorem dX2_init_14 : decode cX2_init 14 = .ok (.istore_n 1, 1) := by decide +kernel
theorem dX2_init_15 : decode cX2_init 15 = .ok (.iload_n 1, 1) := by decide +kernel
theorem dX2_init_16 : decode cX2_init 16 = .ok (.aload_n 0, 1) := by decide +kernel
theorem dX2_init_17 : decode cX2_init 17 = .ok (.getfield 11, 3) := by decide +kernel
theorem dX2_init_20 : decode cX2_init 20 = .ok (.arraylength, 1) := by decide +kernel
theorem dX2_init_21 : decode cX2_init 21 = .ok (.if_icmp .ge 22, 3) := by decide +kernel
theorem dX2_init_24 : decode cX2_init 24 = .ok (.aload_n 0, 1) := by decide +kernel
theorem dX2_init_25 : decode cX2_init 25 = .ok (.getfield 11, 3) := by decide +kernel
theorem dX2_init_28 : decode cX2_init 28 = .ok (.iload_n 1, 1) := by decide +kernel
theorem dX2_init_29 : decode cX2_init 29 = .ok (.new 9, 3) := by decide +kernel
theorem dX2_init_32 : decode cX2_init 32 = .ok (.dup, 1) := by decide +kernel
theorem dX2_init_33 : decode cX2_init 33 = .ok (.invokespecial 17, 3) := by decide +kernel
theorem dX2_init_36 : decode cX2_init 36 = .ok (.aastore, 1) := by decide +kernel
theorem dX2_init_37 : decode cX2_init 37 = .ok (.iinc 1 1, 3) := by decide +kernel
theorem dX2_init_40 : decode cX2_init 40 = .ok (.goto (-25), 3) := by decide +kernel
theorem dX2_init_43 : decode cX2_init 43 = .ok (.return_, 1) := by decide +kernel
set_option maxRecDepth 20000 in
theorem ggX2_find_X5_isWithin : GoodIn wsX2_find wsX5_isWithin := goodIn_r _ [5] (by decide +kernel) (by decide +kernel)
set_option maxRecDepth 20000 in
theorem gX2_find_X5_isWithin_n22 : GoodIn wsX2_find (wsX5_isWithin) := ggX2_find_X5_isWithin
theorem dX2_find_0 : decode cX2_find 0 = .ok (.iload_n 1, 1) := by decide +kernel
theorem dX2_find_1 : decode cX2_find 1 = .ok (.iconst 0, 1) := by decide +kernel
theorem dX2_find_2 : decode cX2_find 2 = .ok (.aload_n 0, 1) := by decide +kernel
theorem dX2_find_3 : decode cX2_find 3 = .ok (.getfield 18, 3) := by decide +kernel
theorem dX2_find_6 : decode cX2_find 6 = .ok (.iconst 1, 1) := by decide +kernel
theorem dX2_find_7 : decode cX2_find 7 = .ok (.isub, 1) := by decide +kernel
theorem dX2_find_8 : decode cX2_find 8 = .ok (.invokestatic 22, 3) := by decide +kernel
theorem dX2_find_11 : decode cX2_find 11 = .ok (.ifCond .eq 12, 3) := by decide +kernel
theorem dX2_find_14 : decode cX2_find 14 = .ok (.aload_n 0, 1) := by decide +kernel
theorem dX2_find_15 : decode cX2_find 15 = .ok (.getfield 11, 3) := by decide +kernel
theorem dX2_find_18 : decode cX2_find 18 = .ok (.iload_n 1, 1) := by decide +kernel
theorem dX2_find_19 : decode cX2_find 19 = .ok (.aaload, 1) := by decide +kernel
theorem dX2_find_20 : decode cX2_find 20 = .ok (.goto 4, 3) := by decide +kernel
theorem dX2_find_23 : decode cX2_find 23 = .ok (.aconst_null, 1) := by decide +kernel
theorem dX2_find_24 : decode cX2_find 24 = .ok (.areturn, 1) := by decide +kernel
set_option maxRecDepth 20000 in
theorem ggX2_insert_X5_isWithin : GoodIn wsX2_insert wsX5_isWithin := goodIn_r _ [5] (by decide +kernel) (by decide +kernel)
set_option maxRecDepth 20000 in
theorem gX2_insert_X5_isWithin_n22 : GoodIn wsX2_insert (wsX5_isWithin) := ggX2_insert_X5_isWithin
set_option maxRecDepth 20000 in
theorem ggX2_insert_X4_copyFrom : GoodIn wsX2_insert wsX4_copyFrom := goodIn_r _ [10, 11, 12, 19, 20] (by decide +kernel) (by decide +kernel)
set_option maxRecDepth 20000 in
theorem gX2_insert_X4_copyFrom : GoodIn wsX2_insert (wsV RX2 30 RX4 yX4_copyFrom wsX4_copyFrom) := goodIn_app (goodIn_of _ (by decide +kernel)) ggX2_insert_X4_copyFrom
theorem dX2_insert_0 : decode cX2_insert 0 = .ok (.aload_n 0, 1) := by decide +kernel
theorem dX2_insert_1 : decode cX2_insert 1 = .ok (.getfield 18, 3) := by decide +kernel
theorem dX2_insert_4 : decode cX2_insert 4 = .ok (.aload_n 0, 1) := by decide +kernel
theorem dX2_insert_5 : decode cX2_insert 5 = .ok (.getfield 11, 3) := by decide +kernel
theorem dX2_insert_8 : decode cX2_insert 8 = .ok (.arraylength, 1) := by decide +kernel
theorem dX2_insert_9 : decode cX2_insert 9 = .ok (.if_icmp .ge 27, 3) := by decide +kernel
theorem dX2_insert_12 : decode cX2_insert 12 = .ok (.iload_n 1, 1) := by decide +kernel
theorem dX2_insert_13 : decode cX2_insert 13 = .ok (.iconst 0, 1) := by decide +kernel
theorem dX2_insert_14 : decode cX2_insert 14 = .ok (.aload_n 0, 1) := by decide +kernel
theorem dX2_insert_15 : decode cX2_insert 15 = .ok (.getfield 18, 3) := by decide +kernel
theorem dX2_insert_18 : decode cX2_insert 18 = .ok (.invokestatic 22, 3) := by decide +kernel
theorem dX2_insert_21 : decode cX2_insert 21 = .ok (.ifCond .eq 15, 3) := by decide +kernel
theorem dX2_insert_24 : decode cX2_insert 24 = .ok (.aload_n 0, 1) := by decide +kernel
theorem dX2_insert_25 : decode cX2_insert 25 = .ok (.getfield 11, 3) := by decide +kernel
theorem dX2_insert_28 : decode cX2_insert 28 = .ok (.aload_n 0, 1) := by decide +kernel
theorem dX2_insert_29 : decode cX2_insert 29 = .ok (.getfield 18, 3) := by decide +kernel
theorem dX2_insert_32 : decode cX2_insert 32 = .ok (.aaload, 1) := by decide +kernel
theorem dX2_insert_33 : decode cX2_insert 33 = .ok (.ifnonnull 4, 3) := by decide +kernel
theorem dX2_insert_36 : decode cX2_insert 36 = .ok (.return_, 1) := by decide +kernel
theorem dX2_insert_37 : decode cX2_insert 37 = .ok (.aload_n 0, 1) := by decide +kernel
theorem dX2_insert_38 : decode cX2_insert 38 = .ok (.getfield 11, 3) := by decide +kernel
theorem dX2_insert_41 : decode cX2_insert 41 = .ok (.aload_n 0, 1) := by decide +kernel
theorem dX2_insert_42 : decode cX2_insert 42 = .ok (.getfield 18, 3) := by decide +kernel
theorem dX2_insert_45 : decode cX2_insert 45 = .ok (.aaload, 1) := by decide +kernel
theorem dX2_insert_46 : decode cX2_insert 46 = .ok (.astore 4, 2) := by decide +kernel
theorem dX2_insert_48 : decode cX2_insert 48 = .ok (.aload_n 0, 1) := by decide +kernel
theorem dX2_insert_49 : decode cX2_insert 49 = .ok (.getfield 18, 3) := by decide +kernel
theorem dX2_insert_52 : decode cX2_insert 52 = .ok (.istore 5, 2) := by decide +kernel
theorem dX2_insert_54 : decode cX2_insert 54 = .ok (.iload 5, 2) := by decide +kernel
theorem dX2_insert_56 : decode cX2_insert 56 = .ok (.iload_n 1, 1) := by decide +kernel
theorem dX2_insert_57 : decode cX2_insert 57 = .ok (.if_icmp .le 25, 3) := by decide +kernel
theorem dX2_insert_60 : decode cX2_insert 60 = .ok (.aload_n 0, 1) := by decide +kernel
theorem dX2_insert_61 : decode cX2_insert 61 = .ok (.getfield 11, 3) := by decide +kernel
theorem dX2_insert_64 : decode cX2_insert 64 = .ok (.iload 5, 2) := by decide +kernel
theorem dX2_insert_66 : decode cX2_insert 66 = .ok (.aload_n 0, 1) := by decide +kernel
theorem dX2_insert_67 : decode cX2_insert 67 = .ok (.getfield 11, 3) := by decide +kernel
theorem dX2_insert_70 : decode cX2_insert 70 = .ok (.iload 5, 2) := by decide +kernel
theorem dX2_insert_72 : decode cX2_insert 72 = .ok (.iconst 1, 1) := by decide +kernel
theorem dX2_insert_73 : decode cX2_insert 73 = .ok (.isub, 1) := by decide +kernel
theorem dX2_insert_74 : decode cX2_insert 74 = .ok (.aaload, 1) := by decide +kernel
theorem dX2_insert_75 : decode cX2_insert 75 = .ok (.aastore, 1) := by decide +kernel
theorem dX2_insert_76 : decode cX2_insert 76 = .ok (.iinc 5 (-1), 3) := by decide +kernel
theorem dX2_insert_79 : decode cX2_insert 79 = .ok (.goto (-25), 3) := by decide +kernel
theorem dX2_insert_82 : decode cX2_insert 82 = .ok (.aload_n 0, 1) := by decide +kernel
theorem dX2_insert_83 : decode cX2_insert 83 = .ok (.getfield 11, 3) := by decide +kernel
theorem dX2_insert_86 : decode cX2_insert 86 = .ok (.iload_n 1, 1) := by decide +kernel
theorem dX2_insert_87 : decode cX2_insert 87 = .ok (.aload 4, 2) := by decide +kernel
theorem dX2_insert_89 : decode cX2_insert 89 = .ok (.aastore, 1) := by decide +kernel
theorem dX2_insert_90 : decode cX2_insert 90 = .ok (.aload_n 0, 1) := by decide +kernel
theorem dX2_insert_91 : decode cX2_insert 91 = .ok (.dup, 1) := by decide +kernel
theorem dX2_insert_92 : decode cX2_insert 92 = .ok (.getfield 18, 3) := by decide +kernel
theorem dX2_insert_95 : decode cX2_insert 95 = .ok (.iconst 1, 1) := by decide +kernel
theorem dX2_insert_96 : decode cX2_insert 96 = .ok (.iadd, 1) := by decide +kernel
theorem dX2_insert_97 : decode cX2_insert 97 = .ok (.putfield 18, 3) := by decide +kernel
theorem dX2_insert_100 : decode cX2_insert 100 = .ok (.aload 4, 2) := by decide +kernel
theorem dX2_insert_102 : decode cX2_insert 102 = .ok (.getfield 26, 3) := by decide +kernel
theorem dX2_insert_105 : decode cX2_insert 105 = .ok (.aload_n 2, 1) := by decide +kernel
theorem dX2_insert_106 : decode cX2_insert 106 = .ok (.invokevirtual 30, 3) := by decide +kernel
theorem dX2_insert_109 : decode cX2_insert 109 = .ok (.aload 4, 2) := by decide +kernel
theorem dX2_insert_111 : decode cX2_insert 111 = .ok (.iload_n 3, 1) := by decide +kernel
theorem dX2_insert_112 : decode cX2_insert 112 = .ok (.putfield 36, 3) := by decide +kernel
theorem dX2_insert_115 : decode cX2_insert 115 = .ok (.return_, 1) := by decide +kernel
set_option maxRecDepth 20000 in
theorem ggX2_remove_X2_find : GoodIn wsX2_remove wsX2_find := goodIn_r _ [7, 1, 2, 8, 9, 10, 11, 12] (by decide +kernel) (by decide +kernel)
set_option maxRecDepth 20000 in
theorem gX2_remove_X2_find : GoodIn wsX2_remove (wsV RX2 39 RX2 yX2_find wsX2_find) := goodIn_app (goodIn_of _ (by decide +kernel)) ggX2_remove_X2_find
theorem dX2_remove_0 : decode cX2_remove 0 = .ok (.aload_n 0, 1) := by decide +kernel
theorem dX2_remove_1 : decode cX2_remove 1 = .ok (.iload_n 1, 1) := by decide +kernel
theorem dX2_remove_2 : decode cX2_remove 2 = .ok (.invokevirtual 39, 3) := by decide +kernel
theorem dX2_remove_5 : decode cX2_remove 5 = .ok (.astore_n 2, 1) := by decide +kernel
theorem dX2_remove_6 : decode cX2_remove 6 = .ok (.aload_n 2, 1) := by decide +kernel
theorem dX2_remove_7 : decode cX2_remove 7 = .ok (.ifnonnull 4, 3) := by decide +kernel
theorem dX2_remove_10 : decode cX2_remove 10 = .ok (.return_, 1) := by decide +kernel
theorem dX2_remove_11 : decode cX2_remove 11 = .ok (.iload_n 1, 1) := by decide +kernel
theorem dX2_remove_12 : decode cX2_remove 12 = .ok (.istore_n 3, 1) := by decide +kernel
theorem dX2_remove_13 : decode cX2_remove 13 = .ok (.iload_n 3, 1) := by decide +kernel
theorem dX2_remove_14 : decode cX2_remove 14 = .ok (.aload_n 0, 1) := by decide +kernel
theorem dX2_remove_15 : decode cX2_remove 15 = .ok (.getfield 18, 3) := by decide +kernel
theorem dX2_remove_18 : decode cX2_remove 18 = .ok (.iconst 1, 1) := by decide +kernel
theorem dX2_remove_19 : decode cX2_remove 19 = .ok (.isub, 1) := by decide +kernel
theorem dX2_remove_20 : decode cX2_remove 20 = .ok (.if_icmp .ge 23, 3) := by decide +kernel
theorem dX2_remove_23 : decode cX2_remove 23 = .ok (.aload_n 0, 1) := by decide +kernel
theorem dX2_remove_24 : decode cX2_remove 24 = .ok (.getfield 11, 3) := by decide +kernel
theorem dX2_remove_27 : decode cX2_remove 27 = .ok (.iload_n 3, 1) := by decide +kernel
theorem dX2_remove_28 : decode cX2_remove 28 = .ok (.aload_n 0, 1) := by decide +kernel
theorem dX2_remove_29 : decode cX2_remove 29 = .ok (.getfield 11, 3) := by decide +kernel
theorem dX2_remove_32 : decode cX2_remove 32 = .ok (.iload_n 3, 1) := by decide +kernel
theorem dX2_remove_33 : decode cX2_remove 33 = .ok (.iconst 1, 1) := by decide +kernel
theorem dX2_remove_34 : decode cX2_remove 34 = .ok (.iadd, 1) := by decide +kernel
theorem dX2_remove_35 : decode cX2_remove 35 = .ok (.aaload, 1) := by decide +kernel
theorem dX2_remove_36 : decode cX2_remove 36 = .ok (.aastore, 1) := by decide +kernel
theorem dX2_remove_37 : decode cX2_remove 37 = .ok (.iinc 3 1, 3) := by decide +kernel
theorem dX2_remove_40 : decode cX2_remove 40 = .ok (.goto (-27), 3) := by decide +kernel
theorem dX2_remove_43 : decode cX2_remove 43 = .ok (.aload_n 0, 1) := by decide +kernel
theorem dX2_remove_44 : decode cX2_remove 44 = .ok (.dup, 1) := by decide +kernel
theorem dX2_remove_45 : decode cX2_remove 45 = .ok (.getfield 18, 3) := by decide +kernel
theorem dX2_remove_48 : decode cX2_remove 48 = .ok (.iconst 1, 1) := by decide +kernel
theorem dX2_remove_49 : decode cX2_remove 49 = .ok (.isub, 1) := by decide +kernel
theorem dX2_remove_50 : decode cX2_remove 50 = .ok (.putfield 18, 3) := by decide +kernel
theorem dX2_remove_53 : decode cX2_remove 53 = .ok (.aload_n 0, 1) := by decide +kernel
theorem dX2_remove_54 : decode cX2_remove 54 = .ok (.getfield 11, 3) := by decide +kernel
theorem dX2_remove_57 : decode cX2_remove 57 = .ok (.aload_n 0, 1) := by decide +kernel
theorem dX2_remove_58 : decode cX2_remove 58 = .ok (.getfield 18, 3) := by decide +kernel
theorem dX2_remove_61 : decode cX2_remove 61 = .ok (.aload_n 2, 1) := by decide +kernel
theorem dX2_remove_62 : decode cX2_remove 62 = .ok (.aastore, 1) := by decide +kernel
theorem dX2_remove_63 : decode cX2_remove 63 = .ok (.return_, 1) := by decide +kernel
theorem dX3_init_0 : decode cX3_init 0 = .ok (.aload_n 0, 1) := by decide +kernel
theorem dX3_init_1 : decode cX3_init 1 = .ok (.invokespecial 3, 3) := by decide +kernel
theorem dX3_init_4 : decode cX3_init 4 = .ok (.aload_n 0, 1) := by decide +kernel
theorem dX3_init_5 : decode cX3_init 5 = .ok (.sipush 552, 3) := by decide +kernel
theorem dX3_init_8 : decode cX3_init 8 = .ok (.newarray .int, 2) := by decide +kernel
theorem dX3_init_10 : decode cX3_init 10 = .ok (.putfield 9, 3) := by decide +kernel
theorem dX3_init_13 : decode cX3_init 13 = .ok (.aload_n 0, 1) := by decide +kernel
theorem dX3_init_14 : decode cX3_init 14 = .ok (.sipush 552, 3) := by decide +kernel
theorem dX3_init_17 : decode cX3_init 17 = .ok (.newarray .int, 2) := by decide +kernel
theorem dX3_init_19 : decode cX3_init 19 = .ok (.putfield 15, 3) := by decide +kernel
theorem dX3_init_22 : decode cX3_init 22 = .ok (.return_, 1) := by decide +kernel
set_option maxRecDepth 20000 in
theorem ggX3_layOut_X2_find : GoodIn wsX3_layOut wsX2_find := goodIn_r _ [6, 7, 8, 9, 10, 11, 45, 46] (by decide +kernel) (by decide +kernel)
set_option maxRecDepth 20000 in
theorem gX3_layOut_X2_find : GoodIn wsX3_layOut (wsV RX3 27 RX2 yX2_find wsX2_find) := goodIn_app (goodIn_of _ (by decide +kernel)) ggX3_layOut_X2_find
set_option maxRecDepth 20000 in
theorem ggX3_layOut_X3_addMessage : GoodIn wsX3_layOut wsX3_addMessage := goodIn_r _ [16, 1, 17, 18, 19, 15, 20, 21, 22, 23, 24, 25, 26, 27, 28, 29, 30, 31, 32, 33, 34, 35, 36, 37, 38, 39, 40, 41, 42, 43, 44, 47, 48, 49, 50, 51, 52, 53, 54] (by decide +kernel) (by decide +kernel)
set_option maxRecDepth 20000 in
theorem gX3_layOut_X3_addMessage : GoodIn wsX3_layOut (wsV RX3 31 RX3 yX3_addMessage wsX3_addMessage) := goodIn_app (goodIn_of _ (by decide +kernel)) ggX3_layOut_X3_addMessage
set_option maxRecDepth 20000 in
theorem ggX3_layOut_X3_addDark : GoodIn wsX3_layOut wsX3_addDark := goodIn_r _ [20, 21, 22, 23, 15, 24, 1, 25, 26, 42, 43, 44] (by decide +kernel) (by decide +kernel)
set_option maxRecDepth 20000 in
theorem gX3_layOut_X3_addDark : GoodIn wsX3_layOut (wsV RX3 35 RX3 yX3_addDark wsX3_addDark) := goodIn_app (goodIn_of _ (by decide +kernel)) ggX3_layOut_X3_addDark
theorem dX3_layOut_0 : decode cX3_layOut 0 = .ok (.aload_n 0, 1) := by decide +kernel
theorem dX3_layOut_1 : decode cX3_layOut 1 = .ok (.iconst 0, 1) := by decide +kernel
theorem dX3_layOut_2 : decode cX3_layOut 2 = .ok (.putfield 18, 3) := by decide +kernel
theorem dX3_layOut_5 : decode cX3_layOut 5 = .ok (.iconst 0, 1) := by decide +kernel
theorem dX3_layOut_6 : decode cX3_layOut 6 = .ok (.istore 4, 2) := by decide +kernel
theorem dX3_layOut_8 : decode cX3_layOut 8 = .ok (.iload 4, 2) := by decide +kernel
theorem dX3_layOut_10 : decode cX3_layOut 10 = .ok (.aload_n 1, 1) := by decide +kernel
theorem dX3_layOut_11 : decode cX3_layOut 11 = .ok (.getfield 22, 3) := by decide +kernel
theorem dX3_layOut_14 : decode cX3_layOut 14 = .ok (.if_icmp .ge 34, 3) := by decide +kernel
theorem dX3_layOut_17 : decode cX3_layOut 17 = .ok (.aload_n 1, 1) := by decide +kernel
theorem dX3_layOut_18 : decode cX3_layOut 18 = .ok (.iload 4, 2) := by decide +kernel
theorem dX3_layOut_20 : decode cX3_layOut 20 = .ok (.invokevirtual 27, 3) := by decide +kernel
theorem dX3_layOut_23 : decode cX3_layOut 23 = .ok (.astore 5, 2) := by decide +kernel
theorem dX3_layOut_25 : decode cX3_layOut 25 = .ok (.aload 5, 2) := by decide +kernel
theorem dX3_layOut_27 : decode cX3_layOut 27 = .ok (.ifnull 15, 3) := by decide +kernel
theorem dX3_layOut_30 : decode cX3_layOut 30 = .ok (.aload_n 0, 1) := by decide +kernel
theorem dX3_layOut_31 : decode cX3_layOut 31 = .ok (.aload 5, 2) := by decide +kernel
theorem dX3_layOut_33 : decode cX3_layOut 33 = .ok (.aload_n 2, 1) := by decide +kernel
theorem dX3_layOut_34 : decode cX3_layOut 34 = .ok (.invokevirtual 31, 3) := by decide +kernel
theorem dX3_layOut_37 : decode cX3_layOut 37 = .ok (.aload_n 0, 1) := by decide +kernel
theorem dX3_layOut_38 : decode cX3_layOut 38 = .ok (.iload_n 3, 1) := by decide +kernel
theorem dX3_layOut_39 : decode cX3_layOut 39 = .ok (.invokevirtual 35, 3) := by decide +kernel
theorem dX3_layOut_42 : decode cX3_layOut 42 = .ok (.iinc 4 1, 3) := by decide +kernel
theorem dX3_layOut_45 : decode cX3_layOut 45 = .ok (.goto (-37), 3) := by decide +kernel
theorem dX3_layOut_48 : decode cX3_layOut 48 = .ok (.return_, 1) := by decide +kernel
set_option maxRecDepth 20000 in
theorem ggX3_addMessage_X3_addDark : GoodIn wsX3_addMessage wsX3_addDark := goodIn_r _ [6, 7, 8, 9, 5, 10, 1, 11, 12, 28, 29, 30] (by decide +kernel) (by decide +kernel)
set_option maxRecDepth 20000 in
theorem gX3_addMessage_X3_addDark : GoodIn wsX3_addMessage (wsV RX3 35 RX3 yX3_addDark wsX3_addDark) := goodIn_app (goodIn_of _ (by decide +kernel)) ggX3_addMessage_X3_addDark
set_option maxRecDepth 20000 in
theorem ggX3_addMessage_X3_addGlyph : GoodIn wsX3_addMessage wsX3_addGlyph := goodIn_r _ [16, 17, 18, 19, 20, 21, 22, 23, 24, 25, 26, 27, 7, 8, 9, 5, 10, 1, 11, 12, 37, 38, 28, 29, 30] (by decide +kernel) (by decide +kernel)
set_option maxRecDepth 20000 in
theorem gX3_addMessage_X3_addGlyph : GoodIn wsX3_addMessage (wsV RX3 57 RX3 yX3_addGlyph wsX3_addGlyph) := goodIn_app (goodIn_of _ (by decide +kernel)) ggX3_addMessage_X3_addGlyph
theorem dX3_addMessage_0 : decode cX3_addMessage 0 = .ok (.aload_n 1, 1) := by decide +kernel
theorem dX3_addMessage_1 : decode cX3_addMessage 1 = .ok (.aload_n 0, 1) := by decide +kernel
theorem dX3_addMessage_2 : decode cX3_addMessage 2 = .ok (.getfield 18, 3) := by decide +kernel
theorem dX3_addMessage_5 : decode cX3_addMessage 5 = .ok (.putfield 39, 3) := by decide +kernel
theorem dX3_addMessage_8 : decode cX3_addMessage 8 = .ok (.iconst 0, 1) := by decide +kernel
theorem dX3_addMessage_9 : decode cX3_addMessage 9 = .ok (.istore_n 3, 1) := by decide +kernel
theorem dX3_addMessage_10 : decode cX3_addMessage 10 = .ok (.iload_n 3, 1) := by decide +kernel
theorem dX3_addMessage_11 : decode cX3_addMessage 11 = .ok (.aload_n 1, 1) := by decide +kernel
theorem dX3_addMessage_12 : decode cX3_addMessage 12 = .ok (.getfield 44, 3) := by decide +kernel
theorem dX3_addMessage_15 : decode cX3_addMessage 15 = .ok (.getfield 48, 3) := by decide +kernel
theorem dX3_addMessage_18 : decode cX3_addMessage 18 = .ok (.if_icmp .ge 40, 3) := by decide +kernel
theorem dX3_addMessage_21 : decode cX3_addMessage 21 = .ok (.aload_n 0, 1) := by decide +kernel
theorem dX3_addMessage_22 : decode cX3_addMessage 22 = .ok (.iload_n 3, 1) := by decide +kernel
theorem dX3_addMessage_23 : decode cX3_addMessage 23 = .ok (.ifCond .ne 7, 3) := by decide +kernel
theorem dX3_addMessage_26 : decode cX3_addMessage 26 = .ok (.iconst 0, 1) := by decide +kernel
theorem dX3_addMessage_27 : decode cX3_addMessage 27 = .ok (.goto 4, 3) := by decide +kernel
theorem dX3_addMessage_30 : decode cX3_addMessage 30 = .ok (.iconst 1, 1) := by decide +kernel
theorem dX3_addMessage_31 : decode cX3_addMessage 31 = .ok (.invokevirtual 35, 3) := by decide +kernel
theorem dX3_addMessage_34 : decode cX3_addMessage 34 = .ok (.aload_n 0, 1) := by decide +kernel
theorem dX3_addMessage_35 : decode cX3_addMessage 35 = .ok (.aload_n 1, 1) := by decide +kernel
theorem dX3_addMessage_36 : decode cX3_addMessage 36 = .ok (.getfield 44, 3) := by decide +kernel
theorem dX3_addMessage_39 : decode cX3_addMessage 39 = .ok (.getfield 51, 3) := by decide +kernel
theorem dX3_addMessage_42 : decode cX3_addMessage 42 = .ok (.iload_n 3, 1) := by decide +kernel
theorem dX3_addMessage_43 : decode cX3_addMessage 43 = .ok (.iaload, 1) := by decide +kernel
theorem dX3_addMessage_44 : decode cX3_addMessage 44 = .ok (.aload_n 1, 1) := by decide +kernel
theorem dX3_addMessage_45 : decode cX3_addMessage 45 = .ok (.getfield 54, 3) := by decide +kernel
theorem dX3_addMessage_48 : decode cX3_addMessage 48 = .ok (.aload_n 2, 1) := by decide +kernel
theorem dX3_addMessage_49 : decode cX3_addMessage 49 = .ok (.invokevirtual 57, 3) := by decide +kernel
theorem dX3_addMessage_52 : decode cX3_addMessage 52 = .ok (.iinc 3 1, 3) := by decide +kernel
theorem dX3_addMessage_55 : decode cX3_addMessage 55 = .ok (.goto (-45), 3) := by decide +kernel
theorem dX3_addMessage_58 : decode cX3_addMessage 58 = .ok (.aload_n 1, 1) := by decide +kernel
theorem dX3_addMessage_59 : decode cX3_addMessage 59 = .ok (.aload_n 0, 1) := by decide +kernel
theorem dX3_addMessage_60 : decode cX3_addMessage 60 = .ok (.getfield 18, 3) := by decide +kernel
theorem dX3_addMessage_63 : decode cX3_addMessage 63 = .ok (.aload_n 1, 1) := by decide +kernel
theorem dX3_addMessage_64 : decode cX3_addMessage 64 = .ok (.getfield 39, 3) := by decide +kernel
theorem dX3_addMessage_67 : decode cX3_addMessage 67 = .ok (.isub, 1) := by decide +kernel
theorem dX3_addMessage_68 : decode cX3_addMessage 68 = .ok (.putfield 61, 3) := by decide +kernel
theorem dX3_addMessage_71 : decode cX3_addMessage 71 = .ok (.return_, 1) := by decide +kernel
set_option maxRecDepth 20000 in
theorem ggX3_addGlyph_X0_widthOf : GoodIn wsX3_addGlyph wsX0_widthOf := goodIn_r _ [5, 6, 20, 21] (by decide +kernel) (by decide +kernel)
set_option maxRecDepth 20000 in
theorem gX3_addGlyph_X0_widthOf : GoodIn wsX3_addGlyph (wsV RX3 64 RX0 yX0_widthOf wsX0_widthOf) := goodIn_app (goodIn_of _ (by decide +kernel)) ggX3_addGlyph_X0_widthOf
set_option maxRecDepth 20000 in
theorem ggX3_addGlyph_X0_dotsOf : GoodIn wsX3_addGlyph wsX0_dotsOf := goodIn_r _ [10, 11, 20, 21] (by decide +kernel) (by decide +kernel)
set_option maxRecDepth 20000 in
theorem gX3_addGlyph_X0_dotsOf : GoodIn wsX3_addGlyph (wsV RX3 70 RX0 yX0_dotsOf wsX0_dotsOf) := goodIn_app (goodIn_of _ (by decide +kernel)) ggX3_addGlyph_X0_dotsOf
set_option maxRecDepth 20000 in
theorem ggX3_addGlyph_X3_addColumn : GoodIn wsX3_addGlyph wsX3_addColumn := goodIn_r _ [16, 17, 18, 19, 22, 23, 24] (by decide +kernel) (by decide +kernel)
set_option maxRecDepth 20000 in
theorem gX3_addGlyph_X3_addColumn : GoodIn wsX3_addGlyph (wsV RX3 74 RX3 yX3_addColumn wsX3_addColumn) := goodIn_app (goodIn_of _ (by decide +kernel)) ggX3_addGlyph_X3_addColumn
theorem dX3_addGlyph_0 : decode cX3_addGlyph 0 = .ok (.iconst 0, 1) := by decide +kernel
theorem dX3_addGlyph_1 : decode cX3_addGlyph 1 = .ok (.istore 4, 2) := by decide +kernel
theorem dX3_addGlyph_3 : decode cX3_addGlyph 3 = .ok (.iload 4, 2) := by decide +kernel
theorem dX3_addGlyph_5 : decode cX3_addGlyph 5 = .ok (.aload_n 3, 1) := by decide +kernel
theorem dX3_addGlyph_6 : decode cX3_addGlyph 6 = .ok (.iload_n 1, 1) := by decide +kernel
theorem dX3_addGlyph_7 : decode cX3_addGlyph 7 = .ok (.invokevirtual 64, 3) := by decide +kernel
theorem dX3_addGlyph_10 : decode cX3_addGlyph 10 = .ok (.if_icmp .ge 21, 3) := by decide +kernel
theorem dX3_addGlyph_13 : decode cX3_addGlyph 13 = .ok (.aload_n 0, 1) := by decide +kernel
theorem dX3_addGlyph_14 : decode cX3_addGlyph 14 = .ok (.aload_n 3, 1) := by decide +kernel
theorem dX3_addGlyph_15 : decode cX3_addGlyph 15 = .ok (.iload_n 1, 1) := by decide +kernel
theorem dX3_addGlyph_16 : decode cX3_addGlyph 16 = .ok (.iload 4, 2) := by decide +kernel
theorem dX3_addGlyph_18 : decode cX3_addGlyph 18 = .ok (.invokevirtual 70, 3) := by decide +kernel
theorem dX3_addGlyph_21 : decode cX3_addGlyph 21 = .ok (.iload_n 2, 1) := by decide +kernel
theorem dX3_addGlyph_22 : decode cX3_addGlyph 22 = .ok (.invokevirtual 74, 3) := by decide +kernel
theorem dX3_addGlyph_25 : decode cX3_addGlyph 25 = .ok (.iinc 4 1, 3) := by decide +kernel
theorem dX3_addGlyph_28 : decode cX3_addGlyph 28 = .ok (.goto (-25), 3) := by decide +kernel
theorem dX3_addGlyph_31 : decode cX3_addGlyph 31 = .ok (.return_, 1) := by decide +kernel
set_option maxRecDepth 20000 in
theorem ggX3_addDark_X3_addColumn : GoodIn wsX3_addDark wsX3_addColumn := goodIn_r _ [5, 6, 7, 8, 9, 10, 11] (by decide +kernel) (by decide +kernel)
set_option maxRecDepth 20000 in
theorem gX3_addDark_X3_addColumn : GoodIn wsX3_addDark (wsV RX3 74 RX3 yX3_addColumn wsX3_addColumn) := goodIn_app (goodIn_of _ (by decide +kernel)) ggX3_addDark_X3_addColumn
theorem dX3_addDark_0 : decode cX3_addDark 0 = .ok (.iconst 0, 1) := by decide +kernel
theorem dX3_addDark_1 : decode cX3_addDark 1 = .ok (.istore_n 2, 1) := by decide +kernel
theorem dX3_addDark_2 : decode cX3_addDark 2 = .ok (.iload_n 2, 1) := by decide +kernel
theorem dX3_addDark_3 : decode cX3_addDark 3 = .ok (.iload_n 1, 1) := by decide +kernel
theorem dX3_addDark_4 : decode cX3_addDark 4 = .ok (.if_icmp .ge 15, 3) := by decide +kernel
theorem dX3_addDark_7 : decode cX3_addDark 7 = .ok (.aload_n 0, 1) := by decide +kernel
theorem dX3_addDark_8 : decode cX3_addDark 8 = .ok (.iconst 0, 1) := by decide +kernel
theorem dX3_addDark_9 : decode cX3_addDark 9 = .ok (.iconst 0, 1) := by decide +kernel
theorem dX3_addDark_10 : decode cX3_addDark 10 = .ok (.invokevirtual 74, 3) := by decide +kernel
theorem dX3_addDark_13 : decode cX3_addDark 13 = .ok (.iinc 2 1, 3) := by decide +kernel
theorem dX3_addDark_16 : decode cX3_addDark 16 = .ok (.goto (-14), 3) := by decide +kernel
theorem dX3_addDark_19 : decode cX3_addDark 19 = .ok (.return_, 1) := by decide +kernel
theorem dX3_addColumn_0 : decode cX3_addColumn 0 = .ok (.aload_n 0, 1) := by decide +kernel
theorem dX3_addColumn_1 : decode cX3_addColumn 1 = .ok (.getfield 18, 3) := by decide +kernel
theorem dX3_addColumn_4 : decode cX3_addColumn 4 = .ok (.aload_n 0, 1) := by decide +kernel
theorem dX3_addColumn_5 : decode cX3_addColumn 5 = .ok (.getfield 9, 3) := by decide +kernel
theorem dX3_addColumn_8 : decode cX3_addColumn 8 = .ok (.arraylength, 1) := by decide +kernel
theorem dX3_addColumn_9 : decode cX3_addColumn 9 = .ok (.if_icmp .ge 45, 3) := by decide +kernel
theorem dX3_addColumn_12 : decode cX3_addColumn 12 = .ok (.aload_n 0, 1) := by decide +kernel
theorem dX3_addColumn_13 : decode cX3_addColumn 13 = .ok (.getfield 18, 3) := by decide +kernel
theorem dX3_addColumn_16 : decode cX3_addColumn 16 = .ok (.aload_n 0, 1) := by decide +kernel
theorem dX3_addColumn_17 : decode cX3_addColumn 17 = .ok (.getfield 15, 3) := by decide +kernel
theorem dX3_addColumn_20 : decode cX3_addColumn 20 = .ok (.arraylength, 1) := by decide +kernel
theorem dX3_addColumn_21 : decode cX3_addColumn 21 = .ok (.if_icmp .ge 33, 3) := by decide +kernel
theorem dX3_addColumn_24 : decode cX3_addColumn 24 = .ok (.aload_n 0, 1) := by decide +kernel
theorem dX3_addColumn_25 : decode cX3_addColumn 25 = .ok (.getfield 9, 3) := by decide +kernel
theorem dX3_addColumn_28 : decode cX3_addColumn 28 = .ok (.aload_n 0, 1) := by decide +kernel
theorem dX3_addColumn_29 : decode cX3_addColumn 29 = .ok (.getfield 18, 3) := by decide +kernel
theorem dX3_addColumn_32 : decode cX3_addColumn 32 = .ok (.iload_n 1, 1) := by decide +kernel
theorem dX3_addColumn_33 : decode cX3_addColumn 33 = .ok (.iastore, 1) := by decide +kernel
theorem dX3_addColumn_34 : decode cX3_addColumn 34 = .ok (.aload_n 0, 1) := by decide +kernel
theorem dX3_addColumn_35 : decode cX3_addColumn 35 = .ok (.getfield 15, 3) := by decide +kernel
theorem dX3_addColumn_38 : decode cX3_addColumn 38 = .ok (.aload_n 0, 1) := by decide +kernel
theorem dX3_addColumn_39 : decode cX3_addColumn 39 = .ok (.getfield 18, 3) := by decide +kernel
theorem dX3_addColumn_42 : decode cX3_addColumn 42 = .ok (.iload_n 2, 1) := by decide +kernel
theorem dX3_addColumn_43 : decode cX3_addColumn 43 = .ok (.iastore, 1) := by decide +kernel
theorem dX3_addColumn_44 : decode cX3_addColumn 44 = .ok (.aload_n 0, 1) := by decide +kernel
theorem dX3_addColumn_45 : decode cX3_addColumn 45 = .ok (.dup, 1) := by decide +kernel
theorem dX3_addColumn_46 : decode cX3_addColumn 46 = .ok (.getfield 18, 3) := by decide +kernel
theorem dX3_addColumn_49 : decode cX3_addColumn 49 = .ok (.iconst 1, 1) := by decide +kernel
theorem dX3_addColumn_50 : decode cX3_addColumn 50 = .ok (.iadd, 1) := by decide +kernel
theorem dX3_addColumn_51 : decode cX3_addColumn 51 = .ok (.putfield 18, 3) := by decide +kernel
theorem dX3_addColumn_54 : decode cX3_addColumn 54 = .ok (.return_, 1) := by decide +kernel
set_option maxRecDepth 20000 in
theorem ggX3_wrap_J9_floorMod_7cf53 : GoodIn wsX3_wrap wsJ9_floorMod_7cf53 := goodIn_r _ [5] (by decide +kernel) (by decide +kernel)
set_option maxRecDepth 20000 in
theorem gX3_wrap_J9_floorMod_7cf53 : GoodIn wsX3_wrap (va_wsS RX3 78 yJ9_floorMod_7cf53 wsJ9_floorMod_7cf53) := goodIn_app (goodIn_of _ (by decide +kernel)) ggX3_wrap_J9_floorMod_7cf53
theorem dX3_wrap_0 : decode cX3_wrap 0 = .ok (.aload_n 0, 1) := by decide +kernel
theorem dX3_wrap_1 : decode cX3_wrap 1 = .ok (.getfield 18, 3) := by decide +kernel
theorem dX3_wrap_4 : decode cX3_wrap 4 = .ok (.ifCond .le 14, 3) := by decide +kernel
theorem dX3_wrap_7 : decode cX3_wrap 7 = .ok (.iload_n 1, 1) := by decide +kernel
theorem dX3_wrap_8 : decode cX3_wrap 8 = .ok (.aload_n 0, 1) := by decide +kernel
theorem dX3_wrap_9 : decode cX3_wrap 9 = .ok (.getfield 18, 3) := by decide +kernel
theorem dX3_wrap_12 : decode cX3_wrap 12 = .ok (.invokestatic 78, 3) := by decide +kernel
theorem dX3_wrap_15 : decode cX3_wrap 15 = .ok (.goto 4, 3) := by decide +kernel
theorem dX3_wrap_18 : decode cX3_wrap 18 = .ok (.iconst 0, 1) := by decide +kernel
theorem dX3_wrap_19 : decode cX3_wrap 19 = .ok (.ireturn, 1) := by decide +kernel
set_option maxRecDepth 20000 in
theorem ggX3_dotsAt_X3_wrap : GoodIn wsX3_dotsAt wsX3_wrap := goodIn_r _ [7, 1, 8, 9, 10, 11, 12, 13, 14] (by decide +kernel) (by decide +kernel)
set_option maxRecDepth 20000 in
theorem gX3_dotsAt_X3_wrap : GoodIn wsX3_dotsAt (wsV RX3 83 RX3 yX3_wrap wsX3_wrap) := goodIn_app (goodIn_of _ (by decide +kernel)) ggX3_dotsAt_X3_wrap
theorem dX3_dotsAt_0 : decode cX3_dotsAt 0 = .ok (.aload_n 0, 1) := by decide +kernel
theorem dX3_dotsAt_1 : decode cX3_dotsAt 1 = .ok (.getfield 18, 3) := by decide +kernel
theorem dX3_dotsAt_4 : decode cX3_dotsAt 4 = .ok (.ifCond .le 16, 3) := by decide +kernel
theorem dX3_dotsAt_7 : decode cX3_dotsAt 7 = .ok (.aload_n 0, 1) := by decide +kernel
theorem dX3_dotsAt_8 : decode cX3_dotsAt 8 = .ok (.getfield 9, 3) := by decide +kernel
theorem dX3_dotsAt_11 : decode cX3_dotsAt 11 = .ok (.aload_n 0, 1) := by decide +kernel
theorem dX3_dotsAt_12 : decode cX3_dotsAt 12 = .ok (.iload_n 1, 1) := by decide +kernel
theorem dX3_dotsAt_13 : decode cX3_dotsAt 13 = .ok (.invokevirtual 83, 3) := by decide +kernel
theorem dX3_dotsAt_16 : decode cX3_dotsAt 16 = .ok (.iaload, 1) := by decide +kernel
theorem dX3_dotsAt_17 : decode cX3_dotsAt 17 = .ok (.goto 4, 3) := by decide +kernel
theorem dX3_dotsAt_20 : decode cX3_dotsAt 20 = .ok (.iconst 0, 1) := by decide +kernel
theorem dX3_dotsAt_21 : decode cX3_dotsAt 21 = .ok (.ireturn, 1) := by decide +kernel
set_option maxRecDepth 20000 in
theorem ggX3_colorAt_X3_wrap : GoodIn wsX3_colorAt wsX3_wrap := goodIn_r _ [7, 1, 8, 9, 10, 11, 12, 13, 14] (by decide +kernel) (by decide +kernel)
set_option maxRecDepth 20000 in
theorem gX3_colorAt_X3_wrap : GoodIn wsX3_colorAt (wsV RX3 83 RX3 yX3_wrap wsX3_wrap) := goodIn_app (goodIn_of _ (by decide +kernel)) ggX3_colorAt_X3_wrap
theorem dX3_colorAt_0 : decode cX3_colorAt 0 = .ok (.aload_n 0, 1) := by decide +kernel
theorem dX3_colorAt_1 : decode cX3_colorAt 1 = .ok (.getfield 18, 3) := by decide +kernel
theorem dX3_colorAt_4 : decode cX3_colorAt 4 = .ok (.ifCond .le 16, 3) := by decide +kernel
theorem dX3_colorAt_7 : decode cX3_colorAt 7 = .ok (.aload_n 0, 1) := by decide +kernel
theorem dX3_colorAt_8 : decode cX3_colorAt 8 = .ok (.getfield 15, 3) := by decide +kernel
theorem dX3_colorAt_11 : decode cX3_colorAt 11 = .ok (.aload_n 0, 1) := by decide +kernel
theorem dX3_colorAt_12 : decode cX3_colorAt 12 = .ok (.iload_n 1, 1) := by decide +kernel
theorem dX3_colorAt_13 : decode cX3_colorAt 13 = .ok (.invokevirtual 83, 3) := by decide +kernel
theorem dX3_colorAt_16 : decode cX3_colorAt 16 = .ok (.iaload, 1) := by decide +kernel
theorem dX3_colorAt_17 : decode cX3_colorAt 17 = .ok (.goto 4, 3) := by decide +kernel
theorem dX3_colorAt_20 : decode cX3_colorAt 20 = .ok (.iconst 0, 1) := by decide +kernel
theorem dX3_colorAt_21 : decode cX3_colorAt 21 = .ok (.ireturn, 1) := by decide +kernel
theorem dX4_init_0 : decode cX4_init 0 = .ok (.aload_n 0, 1) := by decide +kernel
theorem dX4_init_1 : decode cX4_init 1 = .ok (.invokespecial 3, 3) := by decide +kernel
theorem dX4_init_4 : decode cX4_init 4 = .ok (.aload_n 0, 1) := by decide +kernel
theorem dX4_init_5 : decode cX4_init 5 = .ok (.bipush 12, 2) := by decide +kernel
theorem dX4_init_7 : decode cX4_init 7 = .ok (.newarray .int, 2) := by decide +kernel
theorem dX4_init_9 : decode cX4_init 9 = .ok (.putfield 9, 3) := by decide +kernel
theorem dX4_init_12 : decode cX4_init 12 = .ok (.return_, 1) := by decide +kernel
theorem dX4_add_0 : decode cX4_add 0 = .ok (.aload_n 0, 1) := by decide +kernel
theorem dX4_add_1 : decode cX4_add 1 = .ok (.getfield 15, 3) := by decide +kernel
theorem dX4_add_4 : decode cX4_add 4 = .ok (.aload_n 0, 1) := by decide +kernel
theorem dX4_add_5 : decode cX4_add 5 = .ok (.getfield 9, 3) := by decide +kernel
theorem dX4_add_8 : decode cX4_add 8 = .ok (.arraylength, 1) := by decide +kernel
theorem dX4_add_9 : decode cX4_add 9 = .ok (.if_icmp .ge 23, 3) := by decide +kernel
theorem dX4_add_12 : decode cX4_add 12 = .ok (.aload_n 0, 1) := by decide +kernel
theorem dX4_add_13 : decode cX4_add 13 = .ok (.getfield 9, 3) := by decide +kernel
theorem dX4_add_16 : decode cX4_add 16 = .ok (.aload_n 0, 1) := by decide +kernel
theorem dX4_add_17 : decode cX4_add 17 = .ok (.getfield 15, 3) := by decide +kernel
theorem dX4_add_20 : decode cX4_add 20 = .ok (.iload_n 1, 1) := by decide +kernel
theorem dX4_add_21 : decode cX4_add 21 = .ok (.iastore, 1) := by decide +kernel
theorem dX4_add_22 : decode cX4_add 22 = .ok (.aload_n 0, 1) := by decide +kernel
theorem dX4_add_23 : decode cX4_add 23 = .ok (.dup, 1) := by decide +kernel
theorem dX4_add_24 : decode cX4_add 24 = .ok (.getfield 15, 3) := by decide +kernel
theorem dX4_add_27 : decode cX4_add 27 = .ok (.iconst 1, 1) := by decide +kernel
theorem dX4_add_28 : decode cX4_add 28 = .ok (.iadd, 1) := by decide +kernel
theorem dX4_add_29 : decode cX4_add 29 = .ok (.putfield 15, 3) := by decide +kernel
theorem dX4_add_32 : decode cX4_add 32 = .ok (.return_, 1) := by decide +kernel
theorem dX4_empty_0 : decode cX4_empty 0 = .ok (.aload_n 0, 1) := by decide +kernel
theorem dX4_empty_1 : decode cX4_empty 1 = .ok (.iconst 0, 1) := by decide +kernel
theorem dX4_empty_2 : decode cX4_empty 2 = .ok (.putfield 15, 3) := by decide +kernel
theorem dX4_empty_5 : decode cX4_empty 5 = .ok (.return_, 1) := by decide +kernel
theorem dX4_copyFrom_0 : decode cX4_copyFrom 0 = .ok (.iconst 0, 1) := by decide +kernel
theorem dX4_copyFrom_1 : decode cX4_copyFrom 1 = .ok (.istore_n 2, 1) := by decide +kernel
theorem dX4_copyFrom_2 : decode cX4_copyFrom 2 = .ok (.iload_n 2, 1) := by decide +kernel
theorem dX4_copyFrom_3 : decode cX4_copyFrom 3 = .ok (.bipush 12, 2) := by decide +kernel
theorem dX4_copyFrom_5 : decode cX4_copyFrom 5 = .ok (.if_icmp .ge 21, 3) := by decide +kernel
theorem dX4_copyFrom_8 : decode cX4_copyFrom 8 = .ok (.aload_n 0, 1) := by decide +kernel
theorem dX4_copyFrom_9 : decode cX4_copyFrom 9 = .ok (.getfield 9, 3) := by decide +kernel
theorem dX4_copyFrom_12 : decode cX4_copyFrom 12 = .ok (.iload_n 2, 1) := by decide +kernel
theorem dX4_copyFrom_13 : decode cX4_copyFrom 13 = .ok (.aload_n 1, 1) := by decide +kernel
theorem dX4_copyFrom_14 : decode cX4_copyFrom 14 = .ok (.getfield 9, 3) := by decide +kernel
theorem dX4_copyFrom_17 : decode cX4_copyFrom 17 = .ok (.iload_n 2, 1) := by decide +kernel
theorem dX4_copyFrom_18 : decode cX4_copyFrom 18 = .ok (.iaload, 1) := by decide +kernel
theorem dX4_copyFrom_19 : decode cX4_copyFrom 19 = .ok (.iastore, 1) := by decide +kernel
theorem dX4_copyFrom_20 : decode cX4_copyFrom 20 = .ok (.iinc 2 1, 3) := by decide +kernel
theorem dX4_copyFrom_23 : decode cX4_copyFrom 23 = .ok (.goto (-21), 3) := by decide +kernel
theorem dX4_copyFrom_26 : decode cX4_copyFrom 26 = .ok (.aload_n 0, 1) := by decide +kernel
theorem dX4_copyFrom_27 : decode cX4_copyFrom 27 = .ok (.aload_n 1, 1) := by decide +kernel
theorem dX4_copyFrom_28 : decode cX4_copyFrom 28 = .ok (.getfield 15, 3) := by decide +kernel
theorem dX4_copyFrom_31 : decode cX4_copyFrom 31 = .ok (.putfield 15, 3) := by decide +kernel
theorem dX4_copyFrom_34 : decode cX4_copyFrom 34 = .ok (.return_, 1) := by decide +kernel
set_option maxRecDepth 20000 in
theorem ggX5_init_X0_init : GoodIn wsX5_init wsX0_init := goodIn_r _ [31, 32, 2, 3, 20, 33, 34, 57, 58] (by decide +kernel) (by decide +kernel)
set_option maxRecDepth 20000 in
theorem gX5_init_X0_init : GoodIn wsX5_init (wsX0_init) := ggX5_init_X0_init
set_option maxRecDepth 20000 in
theorem ggX5_init_X4_init : GoodIn wsX5_init wsX4_init := goodIn_r _ [36, 37, 2, 3, 20, 38, 71, 72] (by decide +kernel) (by decide +kernel)
set_option maxRecDepth 20000 in
theorem gX5_init_X4_init_n18 : GoodIn wsX5_init (wsX4_init) := ggX5_init_X4_init
set_option maxRecDepth 20000 in
theorem ggX5_init_X2_init : GoodIn wsX5_init wsX2_init := goodIn_r _ [41, 42, 2, 3, 43, 44, 45, 46, 47, 48, 49, 50, 9, 10, 51, 35, 36, 37, 20, 38, 73, 74, 78, 79, 80, 81, 71, 72] (by decide +kernel) (by decide +kernel)
set_option maxRecDepth 20000 in
theorem gX5_init_X2_init : GoodIn wsX5_init (wsX2_init) := ggX5_init_X2_init
set_option maxRecDepth 20000 in
theorem ggX5_init_X3_init : GoodIn wsX5_init wsX3_init := goodIn_r _ [53, 54, 2, 3, 20, 55, 56, 75, 76, 77] (by decide +kernel) (by decide +kernel)
set_option maxRecDepth 20000 in
theorem gX5_init_X3_init_n32 : GoodIn wsX5_init (wsX3_init) := ggX5_init_X3_init
theorem dX5_init_0 : decode cX5_init 0 = .ok (.aload_n 0, 1) := by decide +kernel
theorem dX5_init_1 : decode cX5_init 1 = .ok (.invokespecial 3, 3) := by decide +kernel
theorem dX5_init_4 : decode cX5_init 4 = .ok (.aload_n 0, 1) := by decide +kernel
theorem dX5_init_5 : decode cX5_init 5 = .ok (.new 9, 3) := by decide +kernel
theorem dX5_init_8 : decode cX5_init 8 = .ok (.dup, 1) := by decide +kernel
theorem dX5_init_9 : decode cX5_init 9 = .ok (.invokespecial 11, 3) := by decide +kernel
theorem dX5_init_12 : decode cX5_init 12 = .ok (.putfield 12, 3) := by decide +kernel
theorem dX5_init_15 : decode cX5_init 15 = .ok (.aload_n 0, 1) := by decide +kernel
theorem dX5_init_16 : decode cX5_init 16 = .ok (.new 16, 3) := by decide +kernel
theorem dX5_init_19 : decode cX5_init 19 = .ok (.dup, 1) := by decide +kernel
theorem dX5_init_20 : decode cX5_init 20 = .ok (.invokespecial 18, 3) := by decide +kernel
theorem dX5_init_23 : decode cX5_init 23 = .ok (.putfield 19, 3) := by decide +kernel
theorem dX5_init_26 : decode cX5_init 26 = .ok (.aload_n 0, 1) := by decide +kernel
theorem dX5_init_27 : decode cX5_init 27 = .ok (.new 23, 3) := by decide +kernel
theorem dX5_init_30 : decode cX5_init 30 = .ok (.dup, 1) := by decide +kernel
theorem dX5_init_31 : decode cX5_init 31 = .ok (.invokespecial 25, 3) := by decide +kernel
theorem dX5_init_34 : decode cX5_init 34 = .ok (.putfield 26, 3) := by decide +kernel
theorem dX5_init_37 : decode cX5_init 37 = .ok (.aload_n 0, 1) := by decide +kernel
theorem dX5_init_38 : decode cX5_init 38 = .ok (.new 30, 3) := by decide +kernel
theorem dX5_init_41 : decode cX5_init 41 = .ok (.dup, 1) := by decide +kernel
theorem dX5_init_42 : decode cX5_init 42 = .ok (.invokespecial 32, 3) := by decide +kernel
theorem dX5_init_45 : decode cX5_init 45 = .ok (.putfield 33, 3) := by decide +kernel
theorem dX5_init_48 : decode cX5_init 48 = .ok (.aload_n 0, 1) := by decide +kernel
theorem dX5_init_49 : decode cX5_init 49 = .ok (.bipush 32, 2) := by decide +kernel
theorem dX5_init_51 : decode cX5_init 51 = .ok (.newarray .int, 2) := by decide +kernel
theorem dX5_init_53 : decode cX5_init 53 = .ok (.putfield 37, 3) := by decide +kernel
theorem dX5_init_56 : decode cX5_init 56 = .ok (.aload_n 0, 1) := by decide +kernel
theorem dX5_init_57 : decode cX5_init 57 = .ok (.bipush 16, 2) := by decide +kernel
theorem dX5_init_59 : decode cX5_init 59 = .ok (.putfield 41, 3) := by decide +kernel
theorem dX5_init_62 : decode cX5_init 62 = .ok (.aload_n 0, 1) := by decide +kernel
theorem dX5_init_63 : decode cX5_init 63 = .ok (.iconst 4, 1) := by decide +kernel
theorem dX5_init_64 : decode cX5_init 64 = .ok (.putfield 45, 3) := by decide +kernel
theorem dX5_init_67 : decode cX5_init 67 = .ok (.aload_n 0, 1) := by decide +kernel
theorem dX5_init_68 : decode cX5_init 68 = .ok (.iconst 2, 1) := by decide +kernel
theorem dX5_init_69 : decode cX5_init 69 = .ok (.putfield 48, 3) := by decide +kernel
theorem dX5_init_72 : decode cX5_init 72 = .ok (.aload_n 0, 1) := by decide +kernel
theorem dX5_init_73 : decode cX5_init 73 = .ok (.iconst 0, 1) := by decide +kernel
theorem dX5_init_74 : decode cX5_init 74 = .ok (.putfield 51, 3) := by decide +kernel
theorem dX5_init_77 : decode cX5_init 77 = .ok (.aload_n 0, 1) := by decide +kernel
theorem dX5_init_78 : decode cX5_init 78 = .ok (.bipush 60, 2) := by decide +kernel
theorem dX5_init_80 : decode cX5_init 80 = .ok (.putfield 54, 3) := by decide +kernel
theorem dX5_init_83 : decode cX5_init 83 = .ok (.aload_n 0, 1) := by decide +kernel
theorem dX5_init_84 : decode cX5_init 84 = .ok (.iconst 0, 1) := by decide +kernel
theorem dX5_init_85 : decode cX5_init 85 = .ok (.putfield 57, 3) := by decide +kernel
theorem dX5_init_88 : decode cX5_init 88 = .ok (.aload_n 0, 1) := by decide +kernel
theorem dX5_init_89 : decode cX5_init 89 = .ok (.iconst 0, 1) := by decide +kernel
theorem dX5_init_90 : decode cX5_init 90 = .ok (.putfield 60, 3) := by decide +kernel
theorem dX5_init_93 : decode cX5_init 93 = .ok (.return_, 1) := by decide +kernel
set_option maxRecDepth 20000 in
theorem ggX5_setGlyphWidth_X5_isCharacter : GoodIn wsX5_setGlyphWidth wsX5_isCharacter := goodIn_r _ [5, 6, 7, 4, 8] (by decide +kernel) (by decide +kernel)
set_option maxRecDepth 20000 in
theorem gX5_setGlyphWidth_X5_isCharacter : GoodIn wsX5_setGlyphWidth (va_wsS RX5 63 yX5_isCharacter wsX5_isCharacter) := goodIn_app (goodIn_of _ (by decide +kernel)) ggX5_setGlyphWidth_X5_isCharacter
set_option maxRecDepth 20000 in
theorem ggX5_setGlyphWidth_X5_isWithin : GoodIn wsX5_setGlyphWidth wsX5_isWithin := goodIn_r _ [8] (by decide +kernel) (by decide +kernel)
set_option maxRecDepth 20000 in
theorem gX5_setGlyphWidth_X5_isWithin : GoodIn wsX5_setGlyphWidth (va_wsS RX5 67 yX5_isWithin wsX5_isWithin) := goodIn_app (goodIn_of _ (by decide +kernel)) ggX5_setGlyphWidth_X5_isWithin
set_option maxRecDepth 20000 in
theorem ggX5_setGlyphWidth_X0_widthOf : GoodIn wsX5_setGlyphWidth wsX0_widthOf := goodIn_r _ [13, 14, 76, 77] (by decide +kernel) (by decide +kernel)
set_option maxRecDepth 20000 in
theorem gX5_setGlyphWidth_X0_widthOf : GoodIn wsX5_setGlyphWidth (wsV RX5 71 RX0 yX0_widthOf wsX0_widthOf) := goodIn_app (goodIn_of _ (by decide +kernel)) ggX5_setGlyphWidth_X0_widthOf
set_option maxRecDepth 20000 in
theorem ggX5_setGlyphWidth_X0_resize : GoodIn wsX5_setGlyphWidth wsX0_resize := goodIn_r _ [18, 19, 14, 3, 4, 5, 6, 7, 8, 76, 77] (by decide +kernel) (by decide +kernel)
set_option maxRecDepth 20000 in
theorem gX5_setGlyphWidth_X0_resize : GoodIn wsX5_setGlyphWidth (wsV RX5 75 RX0 yX0_resize wsX0_resize) := goodIn_app (goodIn_of _ (by decide +kernel)) ggX5_setGlyphWidth_X0_resize
set_option maxRecDepth 20000 in
theorem ggX5_setGlyphWidth_X5_layOutStrip : GoodIn wsX5_setGlyphWidth wsX5_layOutStrip := goodIn_r _ [23, 24, 25, 1, 26, 27, 28, 29, 30, 31, 32, 33, 34, 35, 36, 37, 38, 39, 40, 7, 4, 8, 41, 42, 43, 44, 45, 46, 47, 48, 49, 50, 51, 52, 53, 54, 55, 56, 57, 58, 59, 10, 11, 12, 13, 14, 60, 61, 62, 63, 19, 64, 65, 66, 67, 68, 69, 70, 71, 72, 73, 74, 75, 78, 79, 80, 81, 82, 83, 84, 85, 86, 87, 88, 76, 77] (by decide +kernel) (by decide +kernel)
set_option maxRecDepth 20000 in
theorem gX5_setGlyphWidth_X5_layOutStrip : GoodIn wsX5_setGlyphWidth (wsV RX5 79 RX5 yX5_layOutStrip wsX5_layOutStrip) := goodIn_app (goodIn_of _ (by decide +kernel)) ggX5_setGlyphWidth_X5_layOutStrip
theorem dX5_setGlyphWidth_0 : decode cX5_setGlyphWidth 0 = .ok (.iload_n 1, 1) := by decide +kernel
theorem dX5_setGlyphWidth_1 : decode cX5_setGlyphWidth 1 = .ok (.invokestatic 63, 3) := by decide +kernel
theorem dX5_setGlyphWidth_4 : decode cX5_setGlyphWidth 4 = .ok (.ifCond .eq 13, 3) := by decide +kernel
theorem dX5_setGlyphWidth_7 : decode cX5_setGlyphWidth 7 = .ok (.iload_n 2, 1) := by decide +kernel
theorem dX5_setGlyphWidth_8 : decode cX5_setGlyphWidth 8 = .ok (.iconst 1, 1) := by decide +kernel
theorem dX5_setGlyphWidth_9 : decode cX5_setGlyphWidth 9 = .ok (.bipush 6, 2) := by decide +kernel
theorem dX5_setGlyphWidth_11 : decode cX5_setGlyphWidth 11 = .ok (.invokestatic 67, 3) := by decide +kernel
theorem dX5_setGlyphWidth_14 : decode cX5_setGlyphWidth 14 = .ok (.ifCond .ne 6, 3) := by decide +kernel
theorem dX5_setGlyphWidth_17 : decode cX5_setGlyphWidth 17 = .ok (.bipush (-11), 2) := by decide +kernel
theorem dX5_setGlyphWidth_19 : decode cX5_setGlyphWidth 19 = .ok (.ireturn, 1) := by decide +kernel
theorem dX5_setGlyphWidth_20 : decode cX5_setGlyphWidth 20 = .ok (.aload_n 0, 1) := by decide +kernel
theorem dX5_setGlyphWidth_21 : decode cX5_setGlyphWidth 21 = .ok (.getfield 12, 3) := by decide +kernel
theorem dX5_setGlyphWidth_24 : decode cX5_setGlyphWidth 24 = .ok (.iload_n 1, 1) := by decide +kernel
theorem dX5_setGlyphWidth_25 : decode cX5_setGlyphWidth 25 = .ok (.invokevirtual 71, 3) := by decide +kernel
theorem dX5_setGlyphWidth_28 : decode cX5_setGlyphWidth 28 = .ok (.istore_n 3, 1) := by decide +kernel
theorem dX5_setGlyphWidth_29 : decode cX5_setGlyphWidth 29 = .ok (.aload_n 0, 1) := by decide +kernel
theorem dX5_setGlyphWidth_30 : decode cX5_setGlyphWidth 30 = .ok (.getfield 12, 3) := by decide +kernel
theorem dX5_setGlyphWidth_33 : decode cX5_setGlyphWidth 33 = .ok (.iload_n 1, 1) := by decide +kernel
theorem dX5_setGlyphWidth_34 : decode cX5_setGlyphWidth 34 = .ok (.iload_n 2, 1) := by decide +kernel
theorem dX5_setGlyphWidth_35 : decode cX5_setGlyphWidth 35 = .ok (.invokevirtual 75, 3) := by decide +kernel
theorem dX5_setGlyphWidth_38 : decode cX5_setGlyphWidth 38 = .ok (.aload_n 0, 1) := by decide +kernel
theorem dX5_setGlyphWidth_39 : decode cX5_setGlyphWidth 39 = .ok (.invokevirtual 79, 3) := by decide +kernel
theorem dX5_setGlyphWidth_42 : decode cX5_setGlyphWidth 42 = .ok (.iload_n 3, 1) := by decide +kernel
theorem dX5_setGlyphWidth_43 : decode cX5_setGlyphWidth 43 = .ok (.ireturn, 1) := by decide +kernel
set_option maxRecDepth 20000 in
theorem ggX5_setGlyphColumn_X5_isCharacter : GoodIn wsX5_setGlyphColumn wsX5_isCharacter := goodIn_r _ [5, 6, 7, 4, 8] (by decide +kernel) (by decide +kernel)
set_option maxRecDepth 20000 in
theorem gX5_setGlyphColumn_X5_isCharacter : GoodIn wsX5_setGlyphColumn (va_wsS RX5 63 yX5_isCharacter wsX5_isCharacter) := goodIn_app (goodIn_of _ (by decide +kernel)) ggX5_setGlyphColumn_X5_isCharacter
set_option maxRecDepth 20000 in
theorem ggX5_setGlyphColumn_X5_isWithin : GoodIn wsX5_setGlyphColumn wsX5_isWithin := goodIn_r _ [8] (by decide +kernel) (by decide +kernel)
set_option maxRecDepth 20000 in
theorem gX5_setGlyphColumn_X5_isWithin : GoodIn wsX5_setGlyphColumn (va_wsS RX5 67 yX5_isWithin wsX5_isWithin) := goodIn_app (goodIn_of _ (by decide +kernel)) ggX5_setGlyphColumn_X5_isWithin
set_option maxRecDepth 20000 in
theorem ggX5_setGlyphColumn_X0_hasColumn : GoodIn wsX5_setGlyphColumn wsX0_hasColumn := goodIn_r _ [13, 14, 15, 16, 12, 17, 18, 7, 4, 8, 82, 83] (by decide +kernel) (by decide +kernel)
set_option maxRecDepth 20000 in
theorem gX5_setGlyphColumn_X0_hasColumn : GoodIn wsX5_setGlyphColumn (wsV RX5 82 RX0 yX0_hasColumn wsX0_hasColumn) := goodIn_app (goodIn_of _ (by decide +kernel)) ggX5_setGlyphColumn_X0_hasColumn
set_option maxRecDepth 20000 in
theorem ggX5_setGlyphColumn_X0_dotsOf : GoodIn wsX5_setGlyphColumn wsX0_dotsOf := goodIn_r _ [22, 23, 82, 83] (by decide +kernel) (by decide +kernel)
set_option maxRecDepth 20000 in
theorem gX5_setGlyphColumn_X0_dotsOf : GoodIn wsX5_setGlyphColumn (wsV RX5 86 RX0 yX0_dotsOf wsX0_dotsOf) := goodIn_app (goodIn_of _ (by decide +kernel)) ggX5_setGlyphColumn_X0_dotsOf
set_option maxRecDepth 20000 in
theorem ggX5_setGlyphColumn_X0_draw : GoodIn wsX5_setGlyphColumn wsX0_draw := goodIn_r _ [27, 23, 28, 10, 11, 12, 13, 14, 15, 16, 17, 18, 7, 4, 8, 82, 83] (by decide +kernel) (by decide +kernel)
set_option maxRecDepth 20000 in
theorem gX5_setGlyphColumn_X0_draw : GoodIn wsX5_setGlyphColumn (wsV RX5 90 RX0 yX0_draw wsX0_draw) := goodIn_app (goodIn_of _ (by decide +kernel)) ggX5_setGlyphColumn_X0_draw
set_option maxRecDepth 20000 in
theorem ggX5_setGlyphColumn_X5_layOutStrip : GoodIn wsX5_setGlyphColumn wsX5_layOutStrip := goodIn_r _ [32, 33, 34, 1, 35, 36, 37, 38, 39, 40, 41, 42, 43, 44, 45, 46, 47, 48, 49, 7, 4, 8, 50, 51, 52, 53, 54, 55, 56, 57, 58, 59, 60, 61, 62, 63, 64, 65, 66, 67, 68, 15, 16, 12, 17, 18, 69, 20, 21, 22, 23, 70, 71, 72, 73, 74, 75, 76, 77, 78, 79, 80, 81, 84, 85, 86, 87, 88, 89, 90, 91, 92, 93, 94, 82, 83] (by decide +kernel) (by decide +kernel)
set_option maxRecDepth 20000 in
theorem gX5_setGlyphColumn_X5_layOutStrip : GoodIn wsX5_setGlyphColumn (wsV RX5 79 RX5 yX5_layOutStrip wsX5_layOutStrip) := goodIn_app (goodIn_of _ (by decide +kernel)) ggX5_setGlyphColumn_X5_layOutStrip
theorem dX5_setGlyphColumn_0 : decode cX5_setGlyphColumn 0 = .ok (.iload_n 1, 1) := by decide +kernel
theorem dX5_setGlyphColumn_1 : decode cX5_setGlyphColumn 1 = .ok (.invokestatic 63, 3) := by decide +kernel
theorem dX5_setGlyphColumn_4 : decode cX5_setGlyphColumn 4 = .ok (.ifCond .eq 26, 3) := by decide +kernel
theorem dX5_setGlyphColumn_7 : decode cX5_setGlyphColumn 7 = .ok (.iload_n 3, 1) := by decide +kernel
theorem dX5_setGlyphColumn_8 : decode cX5_setGlyphColumn 8 = .ok (.iconst 0, 1) := by decide +kernel
theorem dX5_setGlyphColumn_9 : decode cX5_setGlyphColumn 9 = .ok (.sipush 255, 3) := by decide +kernel
theorem dX5_setGlyphColumn_12 : decode cX5_setGlyphColumn 12 = .ok (.invokestatic 67, 3) := by decide +kernel
theorem dX5_setGlyphColumn_15 : decode cX5_setGlyphColumn 15 = .ok (.ifCond .eq 15, 3) := by decide +kernel
theorem dX5_setGlyphColumn_18 : decode cX5_setGlyphColumn 18 = .ok (.aload_n 0, 1) := by decide +kernel
theorem dX5_setGlyphColumn_19 : decode cX5_setGlyphColumn 19 = .ok (.getfield 12, 3) := by decide +kernel
theorem dX5_setGlyphColumn_22 : decode cX5_setGlyphColumn 22 = .ok (.iload_n 1, 1) := by decide +kernel
theorem dX5_setGlyphColumn_23 : decode cX5_setGlyphColumn 23 = .ok (.iload_n 2, 1) := by decide +kernel
theorem dX5_setGlyphColumn_24 : decode cX5_setGlyphColumn 24 = .ok (.invokevirtual 82, 3) := by decide +kernel
theorem dX5_setGlyphColumn_27 : decode cX5_setGlyphColumn 27 = .ok (.ifCond .ne 6, 3) := by decide +kernel
theorem dX5_setGlyphColumn_30 : decode cX5_setGlyphColumn 30 = .ok (.bipush (-11), 2) := by decide +kernel
theorem dX5_setGlyphColumn_32 : decode cX5_setGlyphColumn 32 = .ok (.ireturn, 1) := by decide +kernel
theorem dX5_setGlyphColumn_33 : decode cX5_setGlyphColumn 33 = .ok (.aload_n 0, 1) := by decide +kernel
theorem dX5_setGlyphColumn_34 : decode cX5_setGlyphColumn 34 = .ok (.getfield 12, 3) := by decide +kernel
theorem dX5_setGlyphColumn_37 : decode cX5_setGlyphColumn 37 = .ok (.iload_n 1, 1) := by decide +kernel
theorem dX5_setGlyphColumn_38 : decode cX5_setGlyphColumn 38 = .ok (.iload_n 2, 1) := by decide +kernel
theorem dX5_setGlyphColumn_39 : decode cX5_setGlyphColumn 39 = .ok (.invokevirtual 86, 3) := by decide +kernel
theorem dX5_setGlyphColumn_42 : decode cX5_setGlyphColumn 42 = .ok (.istore 4, 2) := by decide +kernel
theorem dX5_setGlyphColumn_44 : decode cX5_setGlyphColumn 44 = .ok (.aload_n 0, 1) := by decide +kernel
theorem dX5_setGlyphColumn_45 : decode cX5_setGlyphColumn 45 = .ok (.getfield 12, 3) := by decide +kernel
theorem dX5_setGlyphColumn_48 : decode cX5_setGlyphColumn 48 = .ok (.iload_n 1, 1) := by decide +kernel
theorem dX5_setGlyphColumn_49 : decode cX5_setGlyphColumn 49 = .ok (.iload_n 2, 1) := by decide +kernel
theorem dX5_setGlyphColumn_50 : decode cX5_setGlyphColumn 50 = .ok (.iload_n 3, 1) := by decide +kernel
theorem dX5_setGlyphColumn_51 : decode cX5_setGlyphColumn 51 = .ok (.invokevirtual 90, 3) := by decide +kernel
theorem dX5_setGlyphColumn_54 : decode cX5_setGlyphColumn 54 = .ok (.aload_n 0, 1) := by decide +kernel
theorem dX5_setGlyphColumn_55 : decode cX5_setGlyphColumn 55 = .ok (.invokevirtual 79, 3) := by decide +kernel
theorem dX5_setGlyphColumn_58 : decode cX5_setGlyphColumn 58 = .ok (.iload 4, 2) := by decide +kernel
theorem dX5_setGlyphColumn_60 : decode cX5_setGlyphColumn 60 = .ok (.ireturn, 1) := by decide +kernel
set_option maxRecDepth 20000 in
theorem ggX5_glyphColumn_X5_isCharacter : GoodIn wsX5_glyphColumn wsX5_isCharacter := goodIn_r _ [5, 6, 7, 4, 8] (by decide +kernel) (by decide +kernel)
set_option maxRecDepth 20000 in
theorem gX5_glyphColumn_X5_isCharacter : GoodIn wsX5_glyphColumn (va_wsS RX5 63 yX5_isCharacter wsX5_isCharacter) := goodIn_app (goodIn_of _ (by decide +kernel)) ggX5_glyphColumn_X5_isCharacter
set_option maxRecDepth 20000 in
theorem ggX5_glyphColumn_X5_isWithin : GoodIn wsX5_glyphColumn wsX5_isWithin := goodIn_r _ [8] (by decide +kernel) (by decide +kernel)
set_option maxRecDepth 20000 in
theorem gX5_glyphColumn_X5_isWithin : GoodIn wsX5_glyphColumn (va_wsS RX5 67 yX5_isWithin wsX5_isWithin) := goodIn_app (goodIn_of _ (by decide +kernel)) ggX5_glyphColumn_X5_isWithin
set_option maxRecDepth 20000 in
theorem ggX5_glyphColumn_X0_hasColumn : GoodIn wsX5_glyphColumn wsX0_hasColumn := goodIn_r _ [13, 14, 15, 16, 12, 17, 18, 7, 4, 8, 36, 37] (by decide +kernel) (by decide +kernel)
set_option maxRecDepth 20000 in
theorem gX5_glyphColumn_X0_hasColumn : GoodIn wsX5_glyphColumn (wsV RX5 82 RX0 yX0_hasColumn wsX0_hasColumn) := goodIn_app (goodIn_of _ (by decide +kernel)) ggX5_glyphColumn_X0_hasColumn
set_option maxRecDepth 20000 in
theorem ggX5_glyphColumn_X0_dotsOf : GoodIn wsX5_glyphColumn wsX0_dotsOf := goodIn_r _ [22, 23, 36, 37] (by decide +kernel) (by decide +kernel)
set_option maxRecDepth 20000 in
theorem gX5_glyphColumn_X0_dotsOf : GoodIn wsX5_glyphColumn (wsV RX5 86 RX0 yX0_dotsOf wsX0_dotsOf) := goodIn_app (goodIn_of _ (by decide +kernel)) ggX5_glyphColumn_X0_dotsOf
theorem dX5_glyphColumn_0 : decode cX5_glyphColumn 0 = .ok (.iload_n 1, 1) := by decide +kernel
theorem dX5_glyphColumn_1 : decode cX5_glyphColumn 1 = .ok (.invokestatic 63, 3) := by decide +kernel
theorem dX5_glyphColumn_4 : decode cX5_glyphColumn 4 = .ok (.ifCond .eq 12, 3) := by decide +kernel
theorem dX5_glyphColumn_7 : decode cX5_glyphColumn 7 = .ok (.iload_n 2, 1) := by decide +kernel
theorem dX5_glyphColumn_8 : decode cX5_glyphColumn 8 = .ok (.iconst 0, 1) := by decide +kernel
theorem dX5_glyphColumn_9 : decode cX5_glyphColumn 9 = .ok (.iconst 5, 1) := by decide +kernel
theorem dX5_glyphColumn_10 : decode cX5_glyphColumn 10 = .ok (.invokestatic 67, 3) := by decide +kernel
theorem dX5_glyphColumn_13 : decode cX5_glyphColumn 13 = .ok (.ifCond .ne 6, 3) := by decide +kernel
theorem dX5_glyphColumn_16 : decode cX5_glyphColumn 16 = .ok (.bipush (-11), 2) := by decide +kernel
theorem dX5_glyphColumn_18 : decode cX5_glyphColumn 18 = .ok (.ireturn, 1) := by decide +kernel
theorem dX5_glyphColumn_19 : decode cX5_glyphColumn 19 = .ok (.aload_n 0, 1) := by decide +kernel
theorem dX5_glyphColumn_20 : decode cX5_glyphColumn 20 = .ok (.getfield 12, 3) := by decide +kernel
theorem dX5_glyphColumn_23 : decode cX5_glyphColumn 23 = .ok (.iload_n 1, 1) := by decide +kernel
theorem dX5_glyphColumn_24 : decode cX5_glyphColumn 24 = .ok (.iload_n 2, 1) := by decide +kernel
theorem dX5_glyphColumn_25 : decode cX5_glyphColumn 25 = .ok (.invokevirtual 82, 3) := by decide +kernel
theorem dX5_glyphColumn_28 : decode cX5_glyphColumn 28 = .ok (.ifCond .ne 6, 3) := by decide +kernel
theorem dX5_glyphColumn_31 : decode cX5_glyphColumn 31 = .ok (.bipush (-14), 2) := by decide +kernel
theorem dX5_glyphColumn_33 : decode cX5_glyphColumn 33 = .ok (.ireturn, 1) := by decide +kernel
theorem dX5_glyphColumn_34 : decode cX5_glyphColumn 34 = .ok (.aload_n 0, 1) := by decide +kernel
theorem dX5_glyphColumn_35 : decode cX5_glyphColumn 35 = .ok (.getfield 12, 3) := by decide +kernel
theorem dX5_glyphColumn_38 : decode cX5_glyphColumn 38 = .ok (.iload_n 1, 1) := by decide +kernel
theorem dX5_glyphColumn_39 : decode cX5_glyphColumn 39 = .ok (.iload_n 2, 1) := by decide +kernel
theorem dX5_glyphColumn_40 : decode cX5_glyphColumn 40 = .ok (.invokevirtual 86, 3) := by decide +kernel
theorem dX5_glyphColumn_43 : decode cX5_glyphColumn 43 = .ok (.ireturn, 1) := by decide +kernel
set_option maxRecDepth 20000 in
theorem ggX5_append_X5_isCharacter : GoodIn wsX5_append wsX5_isCharacter := goodIn_r _ [5, 6, 7, 4, 8] (by decide +kernel) (by decide +kernel)
set_option maxRecDepth 20000 in
theorem gX5_append_X5_isCharacter : GoodIn wsX5_append (va_wsS RX5 63 yX5_isCharacter wsX5_isCharacter) := goodIn_app (goodIn_of _ (by decide +kernel)) ggX5_append_X5_isCharacter
set_option maxRecDepth 20000 in
theorem ggX5_append_X4_add : GoodIn wsX5_append wsX4_add := goodIn_r _ [13, 14, 15, 28, 29] (by decide +kernel) (by decide +kernel)
set_option maxRecDepth 20000 in
theorem gX5_append_X4_add : GoodIn wsX5_append (wsV RX5 97 RX4 yX4_add wsX4_add) := goodIn_app (goodIn_of _ (by decide +kernel)) ggX5_append_X4_add
theorem dX5_append_0 : decode cX5_append 0 = .ok (.iload_n 1, 1) := by decide +kernel
theorem dX5_append_1 : decode cX5_append 1 = .ok (.invokestatic 63, 3) := by decide +kernel
theorem dX5_append_4 : decode cX5_append 4 = .ok (.ifCond .ne 6, 3) := by decide +kernel
theorem dX5_append_7 : decode cX5_append 7 = .ok (.bipush (-11), 2) := by decide +kernel
theorem dX5_append_9 : decode cX5_append 9 = .ok (.ireturn, 1) := by decide +kernel
theorem dX5_append_10 : decode cX5_append 10 = .ok (.aload_n 0, 1) := by decide +kernel
theorem dX5_append_11 : decode cX5_append 11 = .ok (.getfield 19, 3) := by decide +kernel
theorem dX5_append_14 : decode cX5_append 14 = .ok (.getfield 94, 3) := by decide +kernel
theorem dX5_append_17 : decode cX5_append 17 = .ok (.bipush 12, 2) := by decide +kernel
theorem dX5_append_19 : decode cX5_append 19 = .ok (.if_icmp .lt 6, 3) := by decide +kernel
theorem dX5_append_22 : decode cX5_append 22 = .ok (.bipush (-13), 2) := by decide +kernel
theorem dX5_append_24 : decode cX5_append 24 = .ok (.ireturn, 1) := by decide +kernel
theorem dX5_append_25 : decode cX5_append 25 = .ok (.aload_n 0, 1) := by decide +kernel
theorem dX5_append_26 : decode cX5_append 26 = .ok (.getfield 19, 3) := by decide +kernel
theorem dX5_append_29 : decode cX5_append 29 = .ok (.iload_n 1, 1) := by decide +kernel
theorem dX5_append_30 : decode cX5_append 30 = .ok (.invokevirtual 97, 3) := by decide +kernel
theorem dX5_append_33 : decode cX5_append 33 = .ok (.aload_n 0, 1) := by decide +kernel
theorem dX5_append_34 : decode cX5_append 34 = .ok (.getfield 19, 3) := by decide +kernel
theorem dX5_append_37 : decode cX5_append 37 = .ok (.getfield 94, 3) := by decide +kernel
theorem dX5_append_40 : decode cX5_append 40 = .ok (.ireturn, 1) := by decide +kernel
set_option maxRecDepth 20000 in
theorem ggX5_clearText_X4_empty : GoodIn wsX5_clearText wsX4_empty := goodIn_r _ [6, 7, 20, 21] (by decide +kernel) (by decide +kernel)
set_option maxRecDepth 20000 in
theorem gX5_clearText_X4_empty : GoodIn wsX5_clearText (wsV RX5 101 RX4 yX4_empty wsX4_empty) := goodIn_app (goodIn_of _ (by decide +kernel)) ggX5_clearText_X4_empty
theorem dX5_clearText_0 : decode cX5_clearText 0 = .ok (.aload_n 0, 1) := by decide +kernel
theorem dX5_clearText_1 : decode cX5_clearText 1 = .ok (.getfield 19, 3) := by decide +kernel
theorem dX5_clearText_4 : decode cX5_clearText 4 = .ok (.getfield 94, 3) := by decide +kernel
theorem dX5_clearText_7 : decode cX5_clearText 7 = .ok (.istore_n 1, 1) := by decide +kernel
theorem dX5_clearText_8 : decode cX5_clearText 8 = .ok (.aload_n 0, 1) := by decide +kernel
theorem dX5_clearText_9 : decode cX5_clearText 9 = .ok (.getfield 19, 3) := by decide +kernel
theorem dX5_clearText_12 : decode cX5_clearText 12 = .ok (.invokevirtual 101, 3) := by decide +kernel
theorem dX5_clearText_15 : decode cX5_clearText 15 = .ok (.iload_n 1, 1) := by decide +kernel
theorem dX5_clearText_16 : decode cX5_clearText 16 = .ok (.ireturn, 1) := by decide +kernel
set_option maxRecDepth 20000 in
theorem ggX5_insertMessage_X5_isWithin : GoodIn wsX5_insertMessage wsX5_isWithin := goodIn_r _ [7] (by decide +kernel) (by decide +kernel)
set_option maxRecDepth 20000 in
theorem gX5_insertMessage_X5_isWithin : GoodIn wsX5_insertMessage (va_wsS RX5 67 yX5_isWithin wsX5_isWithin) := goodIn_app (goodIn_of _ (by decide +kernel)) ggX5_insertMessage_X5_isWithin
set_option maxRecDepth 20000 in
theorem ggX5_insertMessage_X5_isColor : GoodIn wsX5_insertMessage wsX5_isColor := goodIn_r _ [10, 4, 5, 6, 7] (by decide +kernel) (by decide +kernel)
set_option maxRecDepth 20000 in
theorem gX5_insertMessage_X5_isColor : GoodIn wsX5_insertMessage (va_wsS RX5 107 yX5_isColor wsX5_isColor) := goodIn_app (goodIn_of _ (by decide +kernel)) ggX5_insertMessage_X5_isColor
set_option maxRecDepth 20000 in
theorem ggX5_insertMessage_X2_insert : GoodIn wsX5_insertMessage wsX2_insert := goodIn_r _ [15, 16, 17, 5, 6, 7, 18, 19, 20, 21, 22, 23, 24, 83, 84, 90, 91, 92, 93, 85, 86] (by decide +kernel) (by decide +kernel)
set_option maxRecDepth 20000 in
theorem gX5_insertMessage_X2_insert : GoodIn wsX5_insertMessage (wsV RX5 110 RX2 yX2_insert wsX2_insert) := goodIn_app (goodIn_of _ (by decide +kernel)) ggX5_insertMessage_X2_insert
set_option maxRecDepth 20000 in
theorem ggX5_insertMessage_X5_layOutStrip : GoodIn wsX5_insertMessage wsX5_layOutStrip := goodIn_r _ [28, 3, 1, 29, 30, 31, 32, 33, 34, 35, 36, 37, 38, 39, 40, 14, 41, 16, 17, 5, 6, 7, 42, 43, 44, 45, 46, 47, 48, 49, 50, 51, 52, 53, 54, 55, 56, 57, 58, 59, 60, 61, 62, 63, 64, 65, 66, 67, 68, 69, 70, 71, 72, 73, 74, 75, 76, 77, 78, 79, 80, 81, 82, 87, 88, 89, 83, 84, 90, 91, 92, 93, 85, 86, 94, 95] (by decide +kernel) (by decide +kernel)
set_option maxRecDepth 20000 in
theorem gX5_insertMessage_X5_layOutStrip : GoodIn wsX5_insertMessage (wsV RX5 79 RX5 yX5_layOutStrip wsX5_layOutStrip) := goodIn_app (goodIn_of _ (by decide +kernel)) ggX5_insertMessage_X5_layOutStrip
theorem dX5_insertMessage_0 : decode cX5_insertMessage 0 = .ok (.iload_n 1, 1) := by decide +kernel
theorem dX5_insertMessage_1 : decode cX5_insertMessage 1 = .ok (.iconst 0, 1) := by decide +kernel
theorem dX5_insertMessage_2 : decode cX5_insertMessage 2 = .ok (.aload_n 0, 1) := by decide +kernel
theorem dX5_insertMessage_3 : decode cX5_insertMessage 3 = .ok (.getfield 26, 3) := by decide +kernel
theorem dX5_insertMessage_6 : decode cX5_insertMessage 6 = .ok (.getfield 104, 3) := by decide +kernel
theorem dX5_insertMessage_9 : decode cX5_insertMessage 9 = .ok (.invokestatic 67, 3) := by decide +kernel
theorem dX5_insertMessage_12 : decode cX5_insertMessage 12 = .ok (.ifCond .eq 10, 3) := by decide +kernel
theorem dX5_insertMessage_15 : decode cX5_insertMessage 15 = .ok (.iload_n 2, 1) := by decide +kernel
theorem dX5_insertMessage_16 : decode cX5_insertMessage 16 = .ok (.invokestatic 107, 3) := by decide +kernel
theorem dX5_insertMessage_19 : decode cX5_insertMessage 19 = .ok (.ifCond .ne 6, 3) := by decide +kernel
theorem dX5_insertMessage_22 : decode cX5_insertMessage 22 = .ok (.bipush (-11), 2) := by decide +kernel
end
section
theorem dX5_insertMessage_24 : decode cX5_insertMessage 24 = .ok (.ireturn, 1) := by decide +kernel
theorem dX5_insertMessage_25 : decode cX5_insertMessage 25 = .ok (.aload_n 0, 1) := by decide +kernel
theorem dX5_insertMessage_26 : decode cX5_insertMessage 26 = .ok (.getfield 19, 3) := by decide +kernel
theorem dX5_insertMessage_29 : decode cX5_insertMessage 29 = .ok (.getfield 94, 3) := by decide +kernel
theorem dX5_insertMessage_32 : decode cX5_insertMessage 32 = .ok (.ifCond .ne 6, 3) := by decide +kernel
theorem dX5_insertMessage_35 : decode cX5_insertMessage 35 = .ok (.bipush (-12), 2) := by decide +kernel
theorem dX5_insertMessage_37 : decode cX5_insertMessage 37 = .ok (.ireturn, 1) := by decide +kernel
theorem dX5_insertMessage_38 : decode cX5_insertMessage 38 = .ok (.aload_n 0, 1) := by decide +kernel
theorem dX5_insertMessage_39 : decode cX5_insertMessage 39 = .ok (.getfield 26, 3) := by decide +kernel
theorem dX5_insertMessage_42 : decode cX5_insertMessage 42 = .ok (.getfield 104, 3) := by decide +kernel
theorem dX5_insertMessage_45 : decode cX5_insertMessage 45 = .ok (.bipush 6, 2) := by decide +kernel
theorem dX5_insertMessage_47 : decode cX5_insertMessage 47 = .ok (.if_icmp .lt 6, 3) := by decide +kernel
theorem dX5_insertMessage_50 : decode cX5_insertMessage 50 = .ok (.bipush (-13), 2) := by decide +kernel
theorem dX5_insertMessage_52 : decode cX5_insertMessage 52 = .ok (.ireturn, 1) := by decide +kernel
theorem dX5_insertMessage_53 : decode cX5_insertMessage 53 = .ok (.aload_n 0, 1) := by decide +kernel
theorem dX5_insertMessage_54 : decode cX5_insertMessage 54 = .ok (.getfield 26, 3) := by decide +kernel
theorem dX5_insertMessage_57 : decode cX5_insertMessage 57 = .ok (.iload_n 1, 1) := by decide +kernel
theorem dX5_insertMessage_58 : decode cX5_insertMessage 58 = .ok (.aload_n 0, 1) := by decide +kernel
theorem dX5_insertMessage_59 : decode cX5_insertMessage 59 = .ok (.getfield 19, 3) := by decide +kernel
theorem dX5_insertMessage_62 : decode cX5_insertMessage 62 = .ok (.iload_n 2, 1) := by decide +kernel
theorem dX5_insertMessage_63 : decode cX5_insertMessage 63 = .ok (.invokevirtual 110, 3) := by decide +kernel
theorem dX5_insertMessage_66 : decode cX5_insertMessage 66 = .ok (.aload_n 0, 1) := by decide +kernel
theorem dX5_insertMessage_67 : decode cX5_insertMessage 67 = .ok (.invokevirtual 79, 3) := by decide +kernel
theorem dX5_insertMessage_70 : decode cX5_insertMessage 70 = .ok (.aload_n 0, 1) := by decide +kernel
theorem dX5_insertMessage_71 : decode cX5_insertMessage 71 = .ok (.getfield 33, 3) := by decide +kernel
theorem dX5_insertMessage_74 : decode cX5_insertMessage 74 = .ok (.getfield 114, 3) := by decide +kernel
theorem dX5_insertMessage_77 : decode cX5_insertMessage 77 = .ok (.ireturn, 1) := by decide +kernel
set_option maxRecDepth 20000 in
theorem ggX5_removeMessage_X2_find : GoodIn wsX5_removeMessage wsX2_find := goodIn_r _ [7, 8, 9, 10, 11, 12, 76, 77] (by decide +kernel) (by decide +kernel)
set_option maxRecDepth 20000 in
theorem gX5_removeMessage_X2_find : GoodIn wsX5_removeMessage (wsV RX5 115 RX2 yX2_find wsX2_find) := goodIn_app (goodIn_of _ (by decide +kernel)) ggX5_removeMessage_X2_find
set_option maxRecDepth 20000 in
theorem ggX5_removeMessage_X2_remove : GoodIn wsX5_removeMessage wsX2_remove := goodIn_r _ [16, 8, 9, 17, 4, 5, 6, 7, 10, 11, 12, 76, 77] (by decide +kernel) (by decide +kernel)
set_option maxRecDepth 20000 in
theorem gX5_removeMessage_X2_remove : GoodIn wsX5_removeMessage (wsV RX5 119 RX2 yX2_remove wsX2_remove) := goodIn_app (goodIn_of _ (by decide +kernel)) ggX5_removeMessage_X2_remove
set_option maxRecDepth 20000 in
theorem ggX5_removeMessage_X5_layOutStrip : GoodIn wsX5_removeMessage wsX5_layOutStrip := goodIn_r _ [21, 2, 1, 22, 23, 24, 25, 26, 27, 28, 29, 30, 31, 4, 5, 6, 7, 8, 9, 10, 11, 12, 32, 33, 34, 35, 36, 37, 38, 39, 40, 41, 42, 43, 44, 45, 46, 47, 48, 49, 50, 51, 52, 53, 54, 55, 56, 57, 58, 59, 60, 61, 62, 63, 64, 65, 66, 67, 68, 69, 70, 71, 72, 73, 74, 75, 76, 77, 78, 79, 80, 81, 82, 83, 84, 85] (by decide +kernel) (by decide +kernel)
set_option maxRecDepth 20000 in
theorem gX5_removeMessage_X5_layOutStrip : GoodIn wsX5_removeMessage (wsV RX5 79 RX5 yX5_layOutStrip wsX5_layOutStrip) := goodIn_app (goodIn_of _ (by decide +kernel)) ggX5_removeMessage_X5_layOutStrip
theorem dX5_removeMessage_0 : decode cX5_removeMessage 0 = .ok (.aload_n 0, 1) := by decide +kernel
theorem dX5_removeMessage_1 : decode cX5_removeMessage 1 = .ok (.getfield 26, 3) := by decide +kernel
theorem dX5_removeMessage_4 : decode cX5_removeMessage 4 = .ok (.iload_n 1, 1) := by decide +kernel
theorem dX5_removeMessage_5 : decode cX5_removeMessage 5 = .ok (.invokevirtual 115, 3) := by decide +kernel
theorem dX5_removeMessage_8 : decode cX5_removeMessage 8 = .ok (.ifnonnull 6, 3) := by decide +kernel
theorem dX5_removeMessage_11 : decode cX5_removeMessage 11 = .ok (.bipush (-11), 2) := by decide +kernel
theorem dX5_removeMessage_13 : decode cX5_removeMessage 13 = .ok (.ireturn, 1) := by decide +kernel
theorem dX5_removeMessage_14 : decode cX5_removeMessage 14 = .ok (.aload_n 0, 1) := by decide +kernel
theorem dX5_removeMessage_15 : decode cX5_removeMessage 15 = .ok (.getfield 26, 3) := by decide +kernel
theorem dX5_removeMessage_18 : decode cX5_removeMessage 18 = .ok (.iload_n 1, 1) := by decide +kernel
theorem dX5_removeMessage_19 : decode cX5_removeMessage 19 = .ok (.invokevirtual 119, 3) := by decide +kernel
theorem dX5_removeMessage_22 : decode cX5_removeMessage 22 = .ok (.aload_n 0, 1) := by decide +kernel
theorem dX5_removeMessage_23 : decode cX5_removeMessage 23 = .ok (.invokevirtual 79, 3) := by decide +kernel
theorem dX5_removeMessage_26 : decode cX5_removeMessage 26 = .ok (.aload_n 0, 1) := by decide +kernel
theorem dX5_removeMessage_27 : decode cX5_removeMessage 27 = .ok (.getfield 33, 3) := by decide +kernel
theorem dX5_removeMessage_30 : decode cX5_removeMessage 30 = .ok (.getfield 114, 3) := by decide +kernel
theorem dX5_removeMessage_33 : decode cX5_removeMessage 33 = .ok (.ireturn, 1) := by decide +kernel
set_option maxRecDepth 20000 in
theorem ggX5_setColor_X2_find : GoodIn wsX5_setColor wsX2_find := goodIn_r _ [6, 7, 8, 9, 10, 11, 76, 77] (by decide +kernel) (by decide +kernel)
set_option maxRecDepth 20000 in
theorem gX5_setColor_X2_find : GoodIn wsX5_setColor (wsV RX5 115 RX2 yX2_find wsX2_find) := goodIn_app (goodIn_of _ (by decide +kernel)) ggX5_setColor_X2_find
set_option maxRecDepth 20000 in
theorem ggX5_setColor_X5_isColor : GoodIn wsX5_setColor wsX5_isColor := goodIn_r _ [14, 15, 9, 10, 11] (by decide +kernel) (by decide +kernel)
set_option maxRecDepth 20000 in
theorem gX5_setColor_X5_isColor : GoodIn wsX5_setColor (va_wsS RX5 107 yX5_isColor wsX5_isColor) := goodIn_app (goodIn_of _ (by decide +kernel)) ggX5_setColor_X5_isColor
set_option maxRecDepth 20000 in
theorem ggX5_setColor_X5_layOutStrip : GoodIn wsX5_setColor wsX5_layOutStrip := goodIn_r _ [19, 20, 1, 21, 22, 23, 24, 25, 26, 27, 28, 29, 30, 3, 4, 5, 6, 7, 8, 9, 10, 11, 31, 32, 33, 34, 35, 36, 37, 38, 39, 40, 41, 42, 43, 44, 45, 46, 47, 48, 49, 50, 51, 52, 53, 54, 55, 56, 57, 58, 59, 60, 61, 62, 63, 64, 65, 66, 67, 68, 69, 70, 71, 78, 79, 80, 76, 77, 72, 73, 74, 75, 81, 82, 83, 84] (by decide +kernel) (by decide +kernel)
set_option maxRecDepth 20000 in
theorem gX5_setColor_X5_layOutStrip : GoodIn wsX5_setColor (wsV RX5 79 RX5 yX5_layOutStrip wsX5_layOutStrip) := goodIn_app (goodIn_of _ (by decide +kernel)) ggX5_setColor_X5_layOutStrip
theorem dX5_setColor_0 : decode cX5_setColor 0 = .ok (.aload_n 0, 1) := by decide +kernel
theorem dX5_setColor_1 : decode cX5_setColor 1 = .ok (.getfield 26, 3) := by decide +kernel
theorem dX5_setColor_4 : decode cX5_setColor 4 = .ok (.iload_n 1, 1) := by decide +kernel
theorem dX5_setColor_5 : decode cX5_setColor 5 = .ok (.invokevirtual 115, 3) := by decide +kernel
theorem dX5_setColor_8 : decode cX5_setColor 8 = .ok (.astore_n 3, 1) := by decide +kernel
theorem dX5_setColor_9 : decode cX5_setColor 9 = .ok (.aload_n 3, 1) := by decide +kernel
theorem dX5_setColor_10 : decode cX5_setColor 10 = .ok (.ifnull 10, 3) := by decide +kernel
theorem dX5_setColor_13 : decode cX5_setColor 13 = .ok (.iload_n 2, 1) := by decide +kernel
theorem dX5_setColor_14 : decode cX5_setColor 14 = .ok (.invokestatic 107, 3) := by decide +kernel
theorem dX5_setColor_17 : decode cX5_setColor 17 = .ok (.ifCond .ne 6, 3) := by decide +kernel
theorem dX5_setColor_20 : decode cX5_setColor 20 = .ok (.bipush (-11), 2) := by decide +kernel
theorem dX5_setColor_22 : decode cX5_setColor 22 = .ok (.ireturn, 1) := by decide +kernel
theorem dX5_setColor_23 : decode cX5_setColor 23 = .ok (.aload_n 3, 1) := by decide +kernel
theorem dX5_setColor_24 : decode cX5_setColor 24 = .ok (.getfield 122, 3) := by decide +kernel
theorem dX5_setColor_27 : decode cX5_setColor 27 = .ok (.istore 4, 2) := by decide +kernel
theorem dX5_setColor_29 : decode cX5_setColor 29 = .ok (.aload_n 3, 1) := by decide +kernel
theorem dX5_setColor_30 : decode cX5_setColor 30 = .ok (.iload_n 2, 1) := by decide +kernel
theorem dX5_setColor_31 : decode cX5_setColor 31 = .ok (.putfield 122, 3) := by decide +kernel
theorem dX5_setColor_34 : decode cX5_setColor 34 = .ok (.aload_n 0, 1) := by decide +kernel
theorem dX5_setColor_35 : decode cX5_setColor 35 = .ok (.invokevirtual 79, 3) := by decide +kernel
theorem dX5_setColor_38 : decode cX5_setColor 38 = .ok (.iload 4, 2) := by decide +kernel
theorem dX5_setColor_40 : decode cX5_setColor 40 = .ok (.ireturn, 1) := by decide +kernel
set_option maxRecDepth 20000 in
theorem ggX5_messageWidth_X2_find : GoodIn wsX5_messageWidth wsX2_find := goodIn_r _ [6, 7, 8, 9, 10, 11, 28, 29] (by decide +kernel) (by decide +kernel)
set_option maxRecDepth 20000 in
theorem gX5_messageWidth_X2_find : GoodIn wsX5_messageWidth (wsV RX5 115 RX2 yX2_find wsX2_find) := goodIn_app (goodIn_of _ (by decide +kernel)) ggX5_messageWidth_X2_find
theorem dX5_messageWidth_0 : decode cX5_messageWidth 0 = .ok (.aload_n 0, 1) := by decide +kernel
theorem dX5_messageWidth_1 : decode cX5_messageWidth 1 = .ok (.getfield 26, 3) := by decide +kernel
theorem dX5_messageWidth_4 : decode cX5_messageWidth 4 = .ok (.iload_n 1, 1) := by decide +kernel
theorem dX5_messageWidth_5 : decode cX5_messageWidth 5 = .ok (.invokevirtual 115, 3) := by decide +kernel
theorem dX5_messageWidth_8 : decode cX5_messageWidth 8 = .ok (.astore_n 2, 1) := by decide +kernel
theorem dX5_messageWidth_9 : decode cX5_messageWidth 9 = .ok (.aload_n 2, 1) := by decide +kernel
theorem dX5_messageWidth_10 : decode cX5_messageWidth 10 = .ok (.ifnonnull 8, 3) := by decide +kernel
theorem dX5_messageWidth_13 : decode cX5_messageWidth 13 = .ok (.bipush (-11), 2) := by decide +kernel
theorem dX5_messageWidth_15 : decode cX5_messageWidth 15 = .ok (.goto 7, 3) := by decide +kernel
theorem dX5_messageWidth_18 : decode cX5_messageWidth 18 = .ok (.aload_n 2, 1) := by decide +kernel
theorem dX5_messageWidth_19 : decode cX5_messageWidth 19 = .ok (.getfield 127, 3) := by decide +kernel
theorem dX5_messageWidth_22 : decode cX5_messageWidth 22 = .ok (.ireturn, 1) := by decide +kernel
set_option maxRecDepth 20000 in
theorem ggX5_messageStart_X2_find : GoodIn wsX5_messageStart wsX2_find := goodIn_r _ [6, 7, 8, 9, 10, 11, 28, 29] (by decide +kernel) (by decide +kernel)
set_option maxRecDepth 20000 in
theorem gX5_messageStart_X2_find : GoodIn wsX5_messageStart (wsV RX5 115 RX2 yX2_find wsX2_find) := goodIn_app (goodIn_of _ (by decide +kernel)) ggX5_messageStart_X2_find
theorem dX5_messageStart_0 : decode cX5_messageStart 0 = .ok (.aload_n 0, 1) := by decide +kernel
theorem dX5_messageStart_1 : decode cX5_messageStart 1 = .ok (.getfield 26, 3) := by decide +kernel
theorem dX5_messageStart_4 : decode cX5_messageStart 4 = .ok (.iload_n 1, 1) := by decide +kernel
theorem dX5_messageStart_5 : decode cX5_messageStart 5 = .ok (.invokevirtual 115, 3) := by decide +kernel
theorem dX5_messageStart_8 : decode cX5_messageStart 8 = .ok (.astore_n 2, 1) := by decide +kernel
theorem dX5_messageStart_9 : decode cX5_messageStart 9 = .ok (.aload_n 2, 1) := by decide +kernel
theorem dX5_messageStart_10 : decode cX5_messageStart 10 = .ok (.ifnonnull 8, 3) := by decide +kernel
theorem dX5_messageStart_13 : decode cX5_messageStart 13 = .ok (.bipush (-11), 2) := by decide +kernel
theorem dX5_messageStart_15 : decode cX5_messageStart 15 = .ok (.goto 7, 3) := by decide +kernel
theorem dX5_messageStart_18 : decode cX5_messageStart 18 = .ok (.aload_n 2, 1) := by decide +kernel
theorem dX5_messageStart_19 : decode cX5_messageStart 19 = .ok (.getfield 130, 3) := by decide +kernel
theorem dX5_messageStart_22 : decode cX5_messageStart 22 = .ok (.ireturn, 1) := by decide +kernel
set_option maxRecDepth 20000 in
theorem ggX5_setColumns_X5_isWithin : GoodIn wsX5_setColumns wsX5_isWithin := goodIn_r _ [6] (by decide +kernel) (by decide +kernel)
set_option maxRecDepth 20000 in
theorem gX5_setColumns_X5_isWithin : GoodIn wsX5_setColumns (va_wsS RX5 67 yX5_isWithin wsX5_isWithin) := goodIn_app (goodIn_of _ (by decide +kernel)) ggX5_setColumns_X5_isWithin
theorem dX5_setColumns_0 : decode cX5_setColumns 0 = .ok (.iload_n 1, 1) := by decide +kernel
theorem dX5_setColumns_1 : decode cX5_setColumns 1 = .ok (.bipush 8, 2) := by decide +kernel
theorem dX5_setColumns_3 : decode cX5_setColumns 3 = .ok (.bipush 32, 2) := by decide +kernel
theorem dX5_setColumns_5 : decode cX5_setColumns 5 = .ok (.invokestatic 67, 3) := by decide +kernel
theorem dX5_setColumns_8 : decode cX5_setColumns 8 = .ok (.ifCond .ne 6, 3) := by decide +kernel
theorem dX5_setColumns_11 : decode cX5_setColumns 11 = .ok (.bipush (-11), 2) := by decide +kernel
theorem dX5_setColumns_13 : decode cX5_setColumns 13 = .ok (.ireturn, 1) := by decide +kernel
theorem dX5_setColumns_14 : decode cX5_setColumns 14 = .ok (.aload_n 0, 1) := by decide +kernel
theorem dX5_setColumns_15 : decode cX5_setColumns 15 = .ok (.getfield 41, 3) := by decide +kernel
theorem dX5_setColumns_18 : decode cX5_setColumns 18 = .ok (.istore_n 2, 1) := by decide +kernel
theorem dX5_setColumns_19 : decode cX5_setColumns 19 = .ok (.aload_n 0, 1) := by decide +kernel
theorem dX5_setColumns_20 : decode cX5_setColumns 20 = .ok (.iload_n 1, 1) := by decide +kernel
theorem dX5_setColumns_21 : decode cX5_setColumns 21 = .ok (.putfield 41, 3) := by decide +kernel
theorem dX5_setColumns_24 : decode cX5_setColumns 24 = .ok (.iload_n 1, 1) := by decide +kernel
theorem dX5_setColumns_25 : decode cX5_setColumns 25 = .ok (.istore_n 3, 1) := by decide +kernel
theorem dX5_setColumns_26 : decode cX5_setColumns 26 = .ok (.iload_n 3, 1) := by decide +kernel
theorem dX5_setColumns_27 : decode cX5_setColumns 27 = .ok (.aload_n 0, 1) := by decide +kernel
theorem dX5_setColumns_28 : decode cX5_setColumns 28 = .ok (.getfield 37, 3) := by decide +kernel
theorem dX5_setColumns_31 : decode cX5_setColumns 31 = .ok (.arraylength, 1) := by decide +kernel
theorem dX5_setColumns_32 : decode cX5_setColumns 32 = .ok (.if_icmp .ge 16, 3) := by decide +kernel
theorem dX5_setColumns_35 : decode cX5_setColumns 35 = .ok (.aload_n 0, 1) := by decide +kernel
theorem dX5_setColumns_36 : decode cX5_setColumns 36 = .ok (.getfield 37, 3) := by decide +kernel
theorem dX5_setColumns_39 : decode cX5_setColumns 39 = .ok (.iload_n 3, 1) := by decide +kernel
theorem dX5_setColumns_40 : decode cX5_setColumns 40 = .ok (.iconst 0, 1) := by decide +kernel
theorem dX5_setColumns_41 : decode cX5_setColumns 41 = .ok (.iastore, 1) := by decide +kernel
theorem dX5_setColumns_42 : decode cX5_setColumns 42 = .ok (.iinc 3 1, 3) := by decide +kernel
theorem dX5_setColumns_45 : decode cX5_setColumns 45 = .ok (.goto (-19), 3) := by decide +kernel
theorem dX5_setColumns_48 : decode cX5_setColumns 48 = .ok (.iload_n 2, 1) := by decide +kernel
theorem dX5_setColumns_49 : decode cX5_setColumns 49 = .ok (.ireturn, 1) := by decide +kernel
set_option maxRecDepth 20000 in
theorem ggX5_setGap_X5_isWithin : GoodIn wsX5_setGap wsX5_isWithin := goodIn_r _ [5] (by decide +kernel) (by decide +kernel)
set_option maxRecDepth 20000 in
theorem gX5_setGap_X5_isWithin : GoodIn wsX5_setGap (va_wsS RX5 67 yX5_isWithin wsX5_isWithin) := goodIn_app (goodIn_of _ (by decide +kernel)) ggX5_setGap_X5_isWithin
set_option maxRecDepth 20000 in
theorem ggX5_setGap_X5_layOutStrip : GoodIn wsX5_setGap wsX5_layOutStrip := goodIn_r _ [9, 10, 11, 12, 1, 13, 14, 15, 16, 17, 18, 19, 20, 21, 22, 23, 24, 25, 26, 3, 4, 5, 27, 28, 29, 30, 31, 32, 33, 34, 35, 36, 37, 38, 39, 40, 41, 42, 43, 44, 45, 46, 47, 48, 49, 50, 51, 52, 53, 54, 55, 56, 57, 58, 59, 60, 61, 62, 63, 64, 65, 66, 67, 68, 69, 70, 71, 72, 73, 74, 75, 76, 77, 78, 79, 80] (by decide +kernel) (by decide +kernel)
set_option maxRecDepth 20000 in
theorem gX5_setGap_X5_layOutStrip : GoodIn wsX5_setGap (wsV RX5 79 RX5 yX5_layOutStrip wsX5_layOutStrip) := goodIn_app (goodIn_of _ (by decide +kernel)) ggX5_setGap_X5_layOutStrip
theorem dX5_setGap_0 : decode cX5_setGap 0 = .ok (.iload_n 1, 1) := by decide +kernel
theorem dX5_setGap_1 : decode cX5_setGap 1 = .ok (.iconst 0, 1) := by decide +kernel
theorem dX5_setGap_2 : decode cX5_setGap 2 = .ok (.bipush 9, 2) := by decide +kernel
theorem dX5_setGap_4 : decode cX5_setGap 4 = .ok (.invokestatic 67, 3) := by decide +kernel
theorem dX5_setGap_7 : decode cX5_setGap 7 = .ok (.ifCond .ne 6, 3) := by decide +kernel
theorem dX5_setGap_10 : decode cX5_setGap 10 = .ok (.bipush (-11), 2) := by decide +kernel
theorem dX5_setGap_12 : decode cX5_setGap 12 = .ok (.ireturn, 1) := by decide +kernel
theorem dX5_setGap_13 : decode cX5_setGap 13 = .ok (.aload_n 0, 1) := by decide +kernel
theorem dX5_setGap_14 : decode cX5_setGap 14 = .ok (.getfield 45, 3) := by decide +kernel
theorem dX5_setGap_17 : decode cX5_setGap 17 = .ok (.istore_n 2, 1) := by decide +kernel
theorem dX5_setGap_18 : decode cX5_setGap 18 = .ok (.aload_n 0, 1) := by decide +kernel
theorem dX5_setGap_19 : decode cX5_setGap 19 = .ok (.iload_n 1, 1) := by decide +kernel
theorem dX5_setGap_20 : decode cX5_setGap 20 = .ok (.putfield 45, 3) := by decide +kernel
theorem dX5_setGap_23 : decode cX5_setGap 23 = .ok (.aload_n 0, 1) := by decide +kernel
theorem dX5_setGap_24 : decode cX5_setGap 24 = .ok (.invokevirtual 79, 3) := by decide +kernel
theorem dX5_setGap_27 : decode cX5_setGap 27 = .ok (.iload_n 2, 1) := by decide +kernel
theorem dX5_setGap_28 : decode cX5_setGap 28 = .ok (.ireturn, 1) := by decide +kernel
set_option maxRecDepth 20000 in
theorem ggX5_setSpeed_X5_isWithin : GoodIn wsX5_setSpeed wsX5_isWithin := goodIn_r _ [6] (by decide +kernel) (by decide +kernel)
set_option maxRecDepth 20000 in
theorem gX5_setSpeed_X5_isWithin : GoodIn wsX5_setSpeed (va_wsS RX5 67 yX5_isWithin wsX5_isWithin) := goodIn_app (goodIn_of _ (by decide +kernel)) ggX5_setSpeed_X5_isWithin
theorem dX5_setSpeed_0 : decode cX5_setSpeed 0 = .ok (.iload_n 1, 1) := by decide +kernel
theorem dX5_setSpeed_1 : decode cX5_setSpeed 1 = .ok (.iconst 1, 1) := by decide +kernel
theorem dX5_setSpeed_2 : decode cX5_setSpeed 2 = .ok (.bipush 9, 2) := by decide +kernel
theorem dX5_setSpeed_4 : decode cX5_setSpeed 4 = .ok (.invokestatic 67, 3) := by decide +kernel
theorem dX5_setSpeed_7 : decode cX5_setSpeed 7 = .ok (.ifCond .ne 6, 3) := by decide +kernel
theorem dX5_setSpeed_10 : decode cX5_setSpeed 10 = .ok (.bipush (-11), 2) := by decide +kernel
theorem dX5_setSpeed_12 : decode cX5_setSpeed 12 = .ok (.ireturn, 1) := by decide +kernel
theorem dX5_setSpeed_13 : decode cX5_setSpeed 13 = .ok (.aload_n 0, 1) := by decide +kernel
theorem dX5_setSpeed_14 : decode cX5_setSpeed 14 = .ok (.getfield 48, 3) := by decide +kernel
theorem dX5_setSpeed_17 : decode cX5_setSpeed 17 = .ok (.istore_n 2, 1) := by decide +kernel
theorem dX5_setSpeed_18 : decode cX5_setSpeed 18 = .ok (.aload_n 0, 1) := by decide +kernel
theorem dX5_setSpeed_19 : decode cX5_setSpeed 19 = .ok (.iload_n 1, 1) := by decide +kernel
theorem dX5_setSpeed_20 : decode cX5_setSpeed 20 = .ok (.putfield 48, 3) := by decide +kernel
theorem dX5_setSpeed_23 : decode cX5_setSpeed 23 = .ok (.aload_n 0, 1) := by decide +kernel
theorem dX5_setSpeed_24 : decode cX5_setSpeed 24 = .ok (.iconst 0, 1) := by decide +kernel
theorem dX5_setSpeed_25 : decode cX5_setSpeed 25 = .ok (.putfield 60, 3) := by decide +kernel
theorem dX5_setSpeed_28 : decode cX5_setSpeed 28 = .ok (.iload_n 2, 1) := by decide +kernel
theorem dX5_setSpeed_29 : decode cX5_setSpeed 29 = .ok (.ireturn, 1) := by decide +kernel
set_option maxRecDepth 20000 in
theorem ggX5_setShift_X5_isShift : GoodIn wsX5_setShift wsX5_isShift := goodIn_r _ [5, 6, 7, 4, 8] (by decide +kernel) (by decide +kernel)
set_option maxRecDepth 20000 in
theorem gX5_setShift_X5_isShift : GoodIn wsX5_setShift (va_wsS RX5 133 yX5_isShift wsX5_isShift) := goodIn_app (goodIn_of _ (by decide +kernel)) ggX5_setShift_X5_isShift
theorem dX5_setShift_0 : decode cX5_setShift 0 = .ok (.iload_n 1, 1) := by decide +kernel
theorem dX5_setShift_1 : decode cX5_setShift 1 = .ok (.invokestatic 133, 3) := by decide +kernel
theorem dX5_setShift_4 : decode cX5_setShift 4 = .ok (.ifCond .ne 6, 3) := by decide +kernel
theorem dX5_setShift_7 : decode cX5_setShift 7 = .ok (.bipush (-11), 2) := by decide +kernel
theorem dX5_setShift_9 : decode cX5_setShift 9 = .ok (.ireturn, 1) := by decide +kernel
theorem dX5_setShift_10 : decode cX5_setShift 10 = .ok (.aload_n 0, 1) := by decide +kernel
theorem dX5_setShift_11 : decode cX5_setShift 11 = .ok (.getfield 51, 3) := by decide +kernel
theorem dX5_setShift_14 : decode cX5_setShift 14 = .ok (.istore_n 2, 1) := by decide +kernel
theorem dX5_setShift_15 : decode cX5_setShift 15 = .ok (.aload_n 0, 1) := by decide +kernel
theorem dX5_setShift_16 : decode cX5_setShift 16 = .ok (.iload_n 1, 1) := by decide +kernel
theorem dX5_setShift_17 : decode cX5_setShift 17 = .ok (.putfield 51, 3) := by decide +kernel
theorem dX5_setShift_20 : decode cX5_setShift 20 = .ok (.iload_n 2, 1) := by decide +kernel
theorem dX5_setShift_21 : decode cX5_setShift 21 = .ok (.ireturn, 1) := by decide +kernel
set_option maxRecDepth 20000 in
theorem ggX5_setBudget_X5_isWithin : GoodIn wsX5_setBudget wsX5_isWithin := goodIn_r _ [5] (by decide +kernel) (by decide +kernel)
set_option maxRecDepth 20000 in
theorem gX5_setBudget_X5_isWithin : GoodIn wsX5_setBudget (va_wsS RX5 67 yX5_isWithin wsX5_isWithin) := goodIn_app (goodIn_of _ (by decide +kernel)) ggX5_setBudget_X5_isWithin
theorem dX5_setBudget_0 : decode cX5_setBudget 0 = .ok (.iload_n 1, 1) := by decide +kernel
theorem dX5_setBudget_1 : decode cX5_setBudget 1 = .ok (.iconst 1, 1) := by decide +kernel
theorem dX5_setBudget_2 : decode cX5_setBudget 2 = .ok (.sipush 999, 3) := by decide +kernel
theorem dX5_setBudget_5 : decode cX5_setBudget 5 = .ok (.invokestatic 67, 3) := by decide +kernel
theorem dX5_setBudget_8 : decode cX5_setBudget 8 = .ok (.ifCond .ne 6, 3) := by decide +kernel
theorem dX5_setBudget_11 : decode cX5_setBudget 11 = .ok (.bipush (-11), 2) := by decide +kernel
theorem dX5_setBudget_13 : decode cX5_setBudget 13 = .ok (.ireturn, 1) := by decide +kernel
theorem dX5_setBudget_14 : decode cX5_setBudget 14 = .ok (.aload_n 0, 1) := by decide +kernel
theorem dX5_setBudget_15 : decode cX5_setBudget 15 = .ok (.getfield 54, 3) := by decide +kernel
theorem dX5_setBudget_18 : decode cX5_setBudget 18 = .ok (.istore_n 2, 1) := by decide +kernel
theorem dX5_setBudget_19 : decode cX5_setBudget 19 = .ok (.aload_n 0, 1) := by decide +kernel
theorem dX5_setBudget_20 : decode cX5_setBudget 20 = .ok (.iload_n 1, 1) := by decide +kernel
theorem dX5_setBudget_21 : decode cX5_setBudget 21 = .ok (.putfield 54, 3) := by decide +kernel
theorem dX5_setBudget_24 : decode cX5_setBudget 24 = .ok (.iload_n 2, 1) := by decide +kernel
theorem dX5_setBudget_25 : decode cX5_setBudget 25 = .ok (.ireturn, 1) := by decide +kernel
set_option maxRecDepth 20000 in
theorem ggX5_setDefective_X5_isLed : GoodIn wsX5_setDefective wsX5_isLed := goodIn_r _ [6, 7, 8, 9, 5, 10, 30, 31, 32, 33, 34, 35, 36, 37, 38, 39, 40, 41] (by decide +kernel) (by decide +kernel)
set_option maxRecDepth 20000 in
theorem gX5_setDefective_X5_isLed : GoodIn wsX5_setDefective (wsV RX5 136 RX5 yX5_isLed wsX5_isLed) := goodIn_app (goodIn_of _ (by decide +kernel)) ggX5_setDefective_X5_isLed
set_option maxRecDepth 20000 in
theorem ggX5_setDefective_X5_isDefective : GoodIn wsX5_setDefective wsX5_isDefective := goodIn_r _ [14, 15, 16, 17, 5, 18, 1, 8, 9, 10, 30, 31, 32, 33, 34, 35, 36, 37, 38, 39, 40, 41] (by decide +kernel) (by decide +kernel)
set_option maxRecDepth 20000 in
theorem gX5_setDefective_X5_isDefective : GoodIn wsX5_setDefective (wsV RX5 139 RX5 yX5_isDefective wsX5_isDefective) := goodIn_app (goodIn_of _ (by decide +kernel)) ggX5_setDefective_X5_isDefective
set_option maxRecDepth 20000 in
theorem ggX5_setDefective_X5_countDefects : GoodIn wsX5_setDefective wsX5_countDefects := goodIn_r _ [22, 1, 23, 24, 25, 26, 27, 28, 29, 30, 31, 32, 33, 34, 35, 36, 37, 38, 39, 40, 41] (by decide +kernel) (by decide +kernel)
set_option maxRecDepth 20000 in
theorem gX5_setDefective_X5_countDefects : GoodIn wsX5_setDefective (wsV RX5 142 RX5 yX5_countDefects wsX5_countDefects) := goodIn_app (goodIn_of _ (by decide +kernel)) ggX5_setDefective_X5_countDefects
theorem dX5_setDefective_0 : decode cX5_setDefective 0 = .ok (.aload_n 0, 1) := by decide +kernel
theorem dX5_setDefective_1 : decode cX5_setDefective 1 = .ok (.iload_n 1, 1) := by decide +kernel
theorem dX5_setDefective_2 : decode cX5_setDefective 2 = .ok (.iload_n 2, 1) := by decide +kernel
theorem dX5_setDefective_3 : decode cX5_setDefective 3 = .ok (.invokevirtual 136, 3) := by decide +kernel
theorem dX5_setDefective_6 : decode cX5_setDefective 6 = .ok (.ifCond .ne 6, 3) := by decide +kernel
theorem dX5_setDefective_9 : decode cX5_setDefective 9 = .ok (.bipush (-11), 2) := by decide +kernel
theorem dX5_setDefective_11 : decode cX5_setDefective 11 = .ok (.ireturn, 1) := by decide +kernel
theorem dX5_setDefective_12 : decode cX5_setDefective 12 = .ok (.aload_n 0, 1) := by decide +kernel
theorem dX5_setDefective_13 : decode cX5_setDefective 13 = .ok (.iload_n 1, 1) := by decide +kernel
theorem dX5_setDefective_14 : decode cX5_setDefective 14 = .ok (.iload_n 2, 1) := by decide +kernel
theorem dX5_setDefective_15 : decode cX5_setDefective 15 = .ok (.invokevirtual 139, 3) := by decide +kernel
theorem dX5_setDefective_18 : decode cX5_setDefective 18 = .ok (.iload_n 3, 1) := by decide +kernel
theorem dX5_setDefective_19 : decode cX5_setDefective 19 = .ok (.if_icmp .ne 6, 3) := by decide +kernel
theorem dX5_setDefective_22 : decode cX5_setDefective 22 = .ok (.bipush (-12), 2) := by decide +kernel
theorem dX5_setDefective_24 : decode cX5_setDefective 24 = .ok (.ireturn, 1) := by decide +kernel
theorem dX5_setDefective_25 : decode cX5_setDefective 25 = .ok (.aload_n 0, 1) := by decide +kernel
theorem dX5_setDefective_26 : decode cX5_setDefective 26 = .ok (.getfield 37, 3) := by decide +kernel
theorem dX5_setDefective_29 : decode cX5_setDefective 29 = .ok (.iload_n 2, 1) := by decide +kernel
theorem dX5_setDefective_30 : decode cX5_setDefective 30 = .ok (.dup2, 1) := by decide +kernel
theorem dX5_setDefective_31 : decode cX5_setDefective 31 = .ok (.iaload, 1) := by decide +kernel
theorem dX5_setDefective_32 : decode cX5_setDefective 32 = .ok (.iconst 1, 1) := by decide +kernel
theorem dX5_setDefective_33 : decode cX5_setDefective 33 = .ok (.iload_n 1, 1) := by decide +kernel
theorem dX5_setDefective_34 : decode cX5_setDefective 34 = .ok (.ishl, 1) := by decide +kernel
theorem dX5_setDefective_35 : decode cX5_setDefective 35 = .ok (.ixor, 1) := by decide +kernel
theorem dX5_setDefective_36 : decode cX5_setDefective 36 = .ok (.iastore, 1) := by decide +kernel
theorem dX5_setDefective_37 : decode cX5_setDefective 37 = .ok (.aload_n 0, 1) := by decide +kernel
theorem dX5_setDefective_38 : decode cX5_setDefective 38 = .ok (.invokevirtual 142, 3) := by decide +kernel
theorem dX5_setDefective_41 : decode cX5_setDefective 41 = .ok (.ireturn, 1) := by decide +kernel
set_option maxRecDepth 20000 in
theorem ggX5_tick_X5_isWithin : GoodIn wsX5_tick wsX5_isWithin := goodIn_r _ [8] (by decide +kernel) (by decide +kernel)
set_option maxRecDepth 20000 in
theorem gX5_tick_X5_isWithin : GoodIn wsX5_tick (va_wsS RX5 67 yX5_isWithin wsX5_isWithin) := goodIn_app (goodIn_of _ (by decide +kernel)) ggX5_tick_X5_isWithin
set_option maxRecDepth 20000 in
theorem ggX5_tick_X3_wrap : GoodIn wsX5_tick wsX3_wrap := goodIn_r _ [13, 14, 15, 16, 17, 18, 31, 32, 33] (by decide +kernel) (by decide +kernel)
set_option maxRecDepth 20000 in
theorem gX5_tick_X3_wrap : GoodIn wsX5_tick (wsV RX5 146 RX3 yX3_wrap wsX3_wrap) := goodIn_app (goodIn_of _ (by decide +kernel)) ggX5_tick_X3_wrap
theorem dX5_tick_0 : decode cX5_tick 0 = .ok (.iload_n 1, 1) := by decide +kernel
theorem dX5_tick_1 : decode cX5_tick 1 = .ok (.iconst 0, 1) := by decide +kernel
theorem dX5_tick_2 : decode cX5_tick 2 = .ok (.sipush 9999, 3) := by decide +kernel
theorem dX5_tick_5 : decode cX5_tick 5 = .ok (.invokestatic 67, 3) := by decide +kernel
theorem dX5_tick_8 : decode cX5_tick 8 = .ok (.ifCond .ne 6, 3) := by decide +kernel
theorem dX5_tick_11 : decode cX5_tick 11 = .ok (.bipush (-11), 2) := by decide +kernel
theorem dX5_tick_13 : decode cX5_tick 13 = .ok (.ireturn, 1) := by decide +kernel
theorem dX5_tick_14 : decode cX5_tick 14 = .ok (.aload_n 0, 1) := by decide +kernel
theorem dX5_tick_15 : decode cX5_tick 15 = .ok (.getfield 48, 3) := by decide +kernel
theorem dX5_tick_18 : decode cX5_tick 18 = .ok (.ifCond .le 42, 3) := by decide +kernel
theorem dX5_tick_21 : decode cX5_tick 21 = .ok (.aload_n 0, 1) := by decide +kernel
theorem dX5_tick_22 : decode cX5_tick 22 = .ok (.getfield 60, 3) := by decide +kernel
theorem dX5_tick_25 : decode cX5_tick 25 = .ok (.iload_n 1, 1) := by decide +kernel
theorem dX5_tick_26 : decode cX5_tick 26 = .ok (.iadd, 1) := by decide +kernel
theorem dX5_tick_27 : decode cX5_tick 27 = .ok (.istore_n 2, 1) := by decide +kernel
theorem dX5_tick_28 : decode cX5_tick 28 = .ok (.aload_n 0, 1) := by decide +kernel
theorem dX5_tick_29 : decode cX5_tick 29 = .ok (.iload_n 2, 1) := by decide +kernel
theorem dX5_tick_30 : decode cX5_tick 30 = .ok (.aload_n 0, 1) := by decide +kernel
theorem dX5_tick_31 : decode cX5_tick 31 = .ok (.getfield 48, 3) := by decide +kernel
theorem dX5_tick_34 : decode cX5_tick 34 = .ok (.irem, 1) := by decide +kernel
theorem dX5_tick_35 : decode cX5_tick 35 = .ok (.putfield 60, 3) := by decide +kernel
theorem dX5_tick_38 : decode cX5_tick 38 = .ok (.aload_n 0, 1) := by decide +kernel
theorem dX5_tick_39 : decode cX5_tick 39 = .ok (.aload_n 0, 1) := by decide +kernel
theorem dX5_tick_40 : decode cX5_tick 40 = .ok (.getfield 33, 3) := by decide +kernel
theorem dX5_tick_43 : decode cX5_tick 43 = .ok (.aload_n 0, 1) := by decide +kernel
theorem dX5_tick_44 : decode cX5_tick 44 = .ok (.getfield 57, 3) := by decide +kernel
theorem dX5_tick_47 : decode cX5_tick 47 = .ok (.iload_n 2, 1) := by decide +kernel
theorem dX5_tick_48 : decode cX5_tick 48 = .ok (.aload_n 0, 1) := by decide +kernel
theorem dX5_tick_49 : decode cX5_tick 49 = .ok (.getfield 48, 3) := by decide +kernel
theorem dX5_tick_52 : decode cX5_tick 52 = .ok (.idiv, 1) := by decide +kernel
theorem dX5_tick_53 : decode cX5_tick 53 = .ok (.iadd, 1) := by decide +kernel
theorem dX5_tick_54 : decode cX5_tick 54 = .ok (.invokevirtual 146, 3) := by decide +kernel
theorem dX5_tick_57 : decode cX5_tick 57 = .ok (.putfield 57, 3) := by decide +kernel
theorem dX5_tick_60 : decode cX5_tick 60 = .ok (.aload_n 0, 1) := by decide +kernel
theorem dX5_tick_61 : decode cX5_tick 61 = .ok (.getfield 57, 3) := by decide +kernel
theorem dX5_tick_64 : decode cX5_tick 64 = .ok (.ireturn, 1) := by decide +kernel
theorem dX5_offset_0 : decode cX5_offset 0 = .ok (.aload_n 0, 1) := by decide +kernel
theorem dX5_offset_1 : decode cX5_offset 1 = .ok (.getfield 57, 3) := by decide +kernel
theorem dX5_offset_4 : decode cX5_offset 4 = .ok (.ireturn, 1) := by decide +kernel
theorem dX5_stripLength_0 : decode cX5_stripLength 0 = .ok (.aload_n 0, 1) := by decide +kernel
theorem dX5_stripLength_1 : decode cX5_stripLength 1 = .ok (.getfield 33, 3) := by decide +kernel
theorem dX5_stripLength_4 : decode cX5_stripLength 4 = .ok (.getfield 114, 3) := by decide +kernel
theorem dX5_stripLength_7 : decode cX5_stripLength 7 = .ok (.ireturn, 1) := by decide +kernel
theorem dX5_period_0 : decode cX5_period 0 = .ok (.aload_n 0, 1) := by decide +kernel
theorem dX5_period_1 : decode cX5_period 1 = .ok (.getfield 33, 3) := by decide +kernel
theorem dX5_period_4 : decode cX5_period 4 = .ok (.getfield 114, 3) := by decide +kernel
theorem dX5_period_7 : decode cX5_period 7 = .ok (.aload_n 0, 1) := by decide +kernel
theorem dX5_period_8 : decode cX5_period 8 = .ok (.getfield 48, 3) := by decide +kernel
theorem dX5_period_11 : decode cX5_period 11 = .ok (.imul, 1) := by decide +kernel
theorem dX5_period_12 : decode cX5_period 12 = .ok (.ireturn, 1) := by decide +kernel
set_option maxRecDepth 20000 in
theorem ggX5_ticksUntilWhole_X2_find : GoodIn wsX5_ticksUntilWhole wsX2_find := goodIn_r _ [11, 12, 13, 14, 15, 16, 43, 44] (by decide +kernel) (by decide +kernel)
set_option maxRecDepth 20000 in
theorem gX5_ticksUntilWhole_X2_find : GoodIn wsX5_ticksUntilWhole (wsV RX5 115 RX2 yX2_find wsX2_find) := goodIn_app (goodIn_of _ (by decide +kernel)) ggX5_ticksUntilWhole_X2_find
set_option maxRecDepth 20000 in
theorem ggX5_ticksUntilWhole_X3_wrap : GoodIn wsX5_ticksUntilWhole wsX3_wrap := goodIn_r _ [21, 22, 23, 24, 25, 26, 45, 46, 47] (by decide +kernel) (by decide +kernel)
set_option maxRecDepth 20000 in
theorem gX5_ticksUntilWhole_X3_wrap : GoodIn wsX5_ticksUntilWhole (wsV RX5 146 RX3 yX3_wrap wsX3_wrap) := goodIn_app (goodIn_of _ (by decide +kernel)) ggX5_ticksUntilWhole_X3_wrap
theorem dX5_ticksUntilWhole_0 : decode cX5_ticksUntilWhole 0 = .ok (.aload_n 0, 1) := by decide +kernel
theorem dX5_ticksUntilWhole_1 : decode cX5_ticksUntilWhole 1 = .ok (.getfield 26, 3) := by decide +kernel
theorem dX5_ticksUntilWhole_4 : decode cX5_ticksUntilWhole 4 = .ok (.iload_n 1, 1) := by decide +kernel
theorem dX5_ticksUntilWhole_5 : decode cX5_ticksUntilWhole 5 = .ok (.invokevirtual 115, 3) := by decide +kernel
theorem dX5_ticksUntilWhole_8 : decode cX5_ticksUntilWhole 8 = .ok (.astore_n 2, 1) := by decide +kernel
theorem dX5_ticksUntilWhole_9 : decode cX5_ticksUntilWhole 9 = .ok (.aload_n 2, 1) := by decide +kernel
theorem dX5_ticksUntilWhole_10 : decode cX5_ticksUntilWhole 10 = .ok (.ifnonnull 6, 3) := by decide +kernel
theorem dX5_ticksUntilWhole_13 : decode cX5_ticksUntilWhole 13 = .ok (.bipush (-11), 2) := by decide +kernel
theorem dX5_ticksUntilWhole_15 : decode cX5_ticksUntilWhole 15 = .ok (.ireturn, 1) := by decide +kernel
theorem dX5_ticksUntilWhole_16 : decode cX5_ticksUntilWhole 16 = .ok (.aload_n 0, 1) := by decide +kernel
theorem dX5_ticksUntilWhole_17 : decode cX5_ticksUntilWhole 17 = .ok (.getfield 41, 3) := by decide +kernel
theorem dX5_ticksUntilWhole_20 : decode cX5_ticksUntilWhole 20 = .ok (.aload_n 2, 1) := by decide +kernel
theorem dX5_ticksUntilWhole_21 : decode cX5_ticksUntilWhole 21 = .ok (.getfield 127, 3) := by decide +kernel
theorem dX5_ticksUntilWhole_24 : decode cX5_ticksUntilWhole 24 = .ok (.isub, 1) := by decide +kernel
theorem dX5_ticksUntilWhole_25 : decode cX5_ticksUntilWhole 25 = .ok (.istore_n 3, 1) := by decide +kernel
theorem dX5_ticksUntilWhole_26 : decode cX5_ticksUntilWhole 26 = .ok (.iload_n 3, 1) := by decide +kernel
theorem dX5_ticksUntilWhole_27 : decode cX5_ticksUntilWhole 27 = .ok (.ifCond .ge 6, 3) := by decide +kernel
theorem dX5_ticksUntilWhole_30 : decode cX5_ticksUntilWhole 30 = .ok (.bipush (-14), 2) := by decide +kernel
theorem dX5_ticksUntilWhole_32 : decode cX5_ticksUntilWhole 32 = .ok (.ireturn, 1) := by decide +kernel
theorem dX5_ticksUntilWhole_33 : decode cX5_ticksUntilWhole 33 = .ok (.aload_n 0, 1) := by decide +kernel
theorem dX5_ticksUntilWhole_34 : decode cX5_ticksUntilWhole 34 = .ok (.getfield 33, 3) := by decide +kernel
theorem dX5_ticksUntilWhole_37 : decode cX5_ticksUntilWhole 37 = .ok (.aload_n 2, 1) := by decide +kernel
theorem dX5_ticksUntilWhole_38 : decode cX5_ticksUntilWhole 38 = .ok (.getfield 130, 3) := by decide +kernel
theorem dX5_ticksUntilWhole_41 : decode cX5_ticksUntilWhole 41 = .ok (.aload_n 0, 1) := by decide +kernel
theorem dX5_ticksUntilWhole_42 : decode cX5_ticksUntilWhole 42 = .ok (.getfield 57, 3) := by decide +kernel
theorem dX5_ticksUntilWhole_45 : decode cX5_ticksUntilWhole 45 = .ok (.isub, 1) := by decide +kernel
theorem dX5_ticksUntilWhole_46 : decode cX5_ticksUntilWhole 46 = .ok (.invokevirtual 146, 3) := by decide +kernel
theorem dX5_ticksUntilWhole_49 : decode cX5_ticksUntilWhole 49 = .ok (.istore 4, 2) := by decide +kernel
theorem dX5_ticksUntilWhole_51 : decode cX5_ticksUntilWhole 51 = .ok (.iload 4, 2) := by decide +kernel
theorem dX5_ticksUntilWhole_53 : decode cX5_ticksUntilWhole 53 = .ok (.iload_n 3, 1) := by decide +kernel
theorem dX5_ticksUntilWhole_54 : decode cX5_ticksUntilWhole 54 = .ok (.if_icmp .gt 7, 3) := by decide +kernel
theorem dX5_ticksUntilWhole_57 : decode cX5_ticksUntilWhole 57 = .ok (.iconst 0, 1) := by decide +kernel
theorem dX5_ticksUntilWhole_58 : decode cX5_ticksUntilWhole 58 = .ok (.goto 17, 3) := by decide +kernel
theorem dX5_ticksUntilWhole_61 : decode cX5_ticksUntilWhole 61 = .ok (.iload 4, 2) := by decide +kernel
theorem dX5_ticksUntilWhole_63 : decode cX5_ticksUntilWhole 63 = .ok (.iload_n 3, 1) := by decide +kernel
theorem dX5_ticksUntilWhole_64 : decode cX5_ticksUntilWhole 64 = .ok (.isub, 1) := by decide +kernel
theorem dX5_ticksUntilWhole_65 : decode cX5_ticksUntilWhole 65 = .ok (.aload_n 0, 1) := by decide +kernel
theorem dX5_ticksUntilWhole_66 : decode cX5_ticksUntilWhole 66 = .ok (.getfield 48, 3) := by decide +kernel
theorem dX5_ticksUntilWhole_69 : decode cX5_ticksUntilWhole 69 = .ok (.imul, 1) := by decide +kernel
theorem dX5_ticksUntilWhole_70 : decode cX5_ticksUntilWhole 70 = .ok (.aload_n 0, 1) := by decide +kernel
theorem dX5_ticksUntilWhole_71 : decode cX5_ticksUntilWhole 71 = .ok (.getfield 60, 3) := by decide +kernel
theorem dX5_ticksUntilWhole_74 : decode cX5_ticksUntilWhole 74 = .ok (.isub, 1) := by decide +kernel
theorem dX5_ticksUntilWhole_75 : decode cX5_ticksUntilWhole 75 = .ok (.ireturn, 1) := by decide +kernel
set_option maxRecDepth 20000 in
theorem ggX5_pixel_X5_isLed : GoodIn wsX5_pixel wsX5_isLed := goodIn_r _ [7, 8, 9, 10, 6, 11, 45, 46, 47, 48, 49, 50, 51, 52, 53, 54, 55, 56] (by decide +kernel) (by decide +kernel)
set_option maxRecDepth 20000 in
theorem gX5_pixel_X5_isLed : GoodIn wsX5_pixel (wsV RX5 136 RX5 yX5_isLed wsX5_isLed) := goodIn_app (goodIn_of _ (by decide +kernel)) ggX5_pixel_X5_isLed
set_option maxRecDepth 20000 in
theorem ggX5_pixel_X5_litRows : GoodIn wsX5_pixel wsX5_litRows := goodIn_r _ [15, 2, 16, 17, 18, 19, 20, 21, 22, 23, 24, 25, 26, 27, 28, 29, 30, 31, 32, 33, 6, 34, 35, 36, 37, 38, 39, 9, 10, 11, 45, 46, 47, 48, 49, 50, 51, 52, 53, 54, 55, 56, 57, 58, 59] (by decide +kernel) (by decide +kernel)
set_option maxRecDepth 20000 in
theorem gX5_pixel_X5_litRows : GoodIn wsX5_pixel (wsV RX5 149 RX5 yX5_litRows wsX5_litRows) := goodIn_app (goodIn_of _ (by decide +kernel)) ggX5_pixel_X5_litRows
set_option maxRecDepth 20000 in
theorem ggX5_pixel_X3_colorAt : GoodIn wsX5_pixel wsX3_colorAt := goodIn_r _ [43, 22, 44, 24, 25, 26, 20, 27, 28, 29, 30, 31, 57, 58, 59] (by decide +kernel) (by decide +kernel)
set_option maxRecDepth 20000 in
theorem gX5_pixel_X3_colorAt : GoodIn wsX5_pixel (wsV RX5 152 RX3 yX3_colorAt wsX3_colorAt) := goodIn_app (goodIn_of _ (by decide +kernel)) ggX5_pixel_X3_colorAt
theorem dX5_pixel_0 : decode cX5_pixel 0 = .ok (.aload_n 0, 1) := by decide +kernel
theorem dX5_pixel_1 : decode cX5_pixel 1 = .ok (.iload_n 1, 1) := by decide +kernel
theorem dX5_pixel_2 : decode cX5_pixel 2 = .ok (.iload_n 2, 1) := by decide +kernel
theorem dX5_pixel_3 : decode cX5_pixel 3 = .ok (.invokevirtual 136, 3) := by decide +kernel
theorem dX5_pixel_6 : decode cX5_pixel 6 = .ok (.ifCond .ne 6, 3) := by decide +kernel
theorem dX5_pixel_9 : decode cX5_pixel 9 = .ok (.bipush (-11), 2) := by decide +kernel
theorem dX5_pixel_11 : decode cX5_pixel 11 = .ok (.ireturn, 1) := by decide +kernel
theorem dX5_pixel_12 : decode cX5_pixel 12 = .ok (.aload_n 0, 1) := by decide +kernel
theorem dX5_pixel_13 : decode cX5_pixel 13 = .ok (.aload_n 0, 1) := by decide +kernel
theorem dX5_pixel_14 : decode cX5_pixel 14 = .ok (.getfield 57, 3) := by decide +kernel
theorem dX5_pixel_17 : decode cX5_pixel 17 = .ok (.iload_n 2, 1) := by decide +kernel
theorem dX5_pixel_18 : decode cX5_pixel 18 = .ok (.invokevirtual 149, 3) := by decide +kernel
theorem dX5_pixel_21 : decode cX5_pixel 21 = .ok (.iload_n 1, 1) := by decide +kernel
theorem dX5_pixel_22 : decode cX5_pixel 22 = .ok (.ishr, 1) := by decide +kernel
theorem dX5_pixel_23 : decode cX5_pixel 23 = .ok (.iconst 1, 1) := by decide +kernel
theorem dX5_pixel_24 : decode cX5_pixel 24 = .ok (.iand, 1) := by decide +kernel
theorem dX5_pixel_25 : decode cX5_pixel 25 = .ok (.iconst 1, 1) := by decide +kernel
theorem dX5_pixel_26 : decode cX5_pixel 26 = .ok (.if_icmp .ne 7, 3) := by decide +kernel
theorem dX5_pixel_29 : decode cX5_pixel 29 = .ok (.iconst 1, 1) := by decide +kernel
theorem dX5_pixel_30 : decode cX5_pixel 30 = .ok (.goto 4, 3) := by decide +kernel
theorem dX5_pixel_33 : decode cX5_pixel 33 = .ok (.iconst 0, 1) := by decide +kernel
theorem dX5_pixel_34 : decode cX5_pixel 34 = .ok (.istore_n 3, 1) := by decide +kernel
theorem dX5_pixel_35 : decode cX5_pixel 35 = .ok (.iload_n 3, 1) := by decide +kernel
theorem dX5_pixel_36 : decode cX5_pixel 36 = .ok (.ifCond .eq 19, 3) := by decide +kernel
theorem dX5_pixel_39 : decode cX5_pixel 39 = .ok (.aload_n 0, 1) := by decide +kernel
theorem dX5_pixel_40 : decode cX5_pixel 40 = .ok (.getfield 33, 3) := by decide +kernel
theorem dX5_pixel_43 : decode cX5_pixel 43 = .ok (.aload_n 0, 1) := by decide +kernel
theorem dX5_pixel_44 : decode cX5_pixel 44 = .ok (.getfield 57, 3) := by decide +kernel
theorem dX5_pixel_47 : decode cX5_pixel 47 = .ok (.iload_n 2, 1) := by decide +kernel
theorem dX5_pixel_48 : decode cX5_pixel 48 = .ok (.iadd, 1) := by decide +kernel
theorem dX5_pixel_49 : decode cX5_pixel 49 = .ok (.invokevirtual 152, 3) := by decide +kernel
theorem dX5_pixel_52 : decode cX5_pixel 52 = .ok (.goto 4, 3) := by decide +kernel
theorem dX5_pixel_55 : decode cX5_pixel 55 = .ok (.iconst 0, 1) := by decide +kernel
theorem dX5_pixel_56 : decode cX5_pixel 56 = .ok (.ireturn, 1) := by decide +kernel
set_option maxRecDepth 20000 in
theorem ggX5_load_X5_loadFrom : GoodIn wsX5_load wsX5_loadFrom := goodIn_r _ [6, 7, 8, 9, 10, 11, 12, 13, 14, 15, 16, 17, 18, 19, 20, 21, 22, 23, 24, 25, 26, 5, 27, 28, 29, 30, 31, 32, 33, 34, 35, 36, 37, 38, 39, 40, 41, 42, 43, 44, 45, 46, 47, 48, 49, 50, 51, 52, 53, 54, 55, 56, 57, 58, 59, 60, 61, 62, 63, 64, 65, 66] (by decide +kernel) (by decide +kernel)
set_option maxRecDepth 20000 in
theorem gX5_load_X5_loadFrom : GoodIn wsX5_load (wsV RX5 155 RX5 yX5_loadFrom wsX5_loadFrom) := goodIn_app (goodIn_of _ (by decide +kernel)) ggX5_load_X5_loadFrom
theorem dX5_load_0 : decode cX5_load 0 = .ok (.aload_n 0, 1) := by decide +kernel
theorem dX5_load_1 : decode cX5_load 1 = .ok (.aload_n 0, 1) := by decide +kernel
theorem dX5_load_2 : decode cX5_load 2 = .ok (.getfield 57, 3) := by decide +kernel
theorem dX5_load_5 : decode cX5_load 5 = .ok (.invokevirtual 155, 3) := by decide +kernel
theorem dX5_load_8 : decode cX5_load 8 = .ok (.ireturn, 1) := by decide +kernel
set_option maxRecDepth 20000 in
theorem ggX5_brightness_X5_loadFrom : GoodIn wsX5_brightness wsX5_loadFrom := goodIn_r _ [7, 8, 9, 10, 11, 12, 13, 14, 15, 16, 17, 18, 19, 20, 21, 22, 23, 24, 25, 26, 27, 6, 28, 29, 30, 31, 32, 33, 34, 35, 36, 37, 38, 39, 40, 41, 42, 43, 44, 45, 46, 47, 48, 49, 50, 51, 52, 53, 54, 55, 56, 57, 58, 59, 60, 61, 62, 63, 64, 65, 66, 67] (by decide +kernel) (by decide +kernel)
set_option maxRecDepth 20000 in
theorem gX5_brightness_X5_loadFrom : GoodIn wsX5_brightness (wsV RX5 155 RX5 yX5_loadFrom wsX5_loadFrom) := goodIn_app (goodIn_of _ (by decide +kernel)) ggX5_brightness_X5_loadFrom
theorem dX5_brightness_0 : decode cX5_brightness 0 = .ok (.aload_n 0, 1) := by decide +kernel
theorem dX5_brightness_1 : decode cX5_brightness 1 = .ok (.aload_n 0, 1) := by decide +kernel
theorem dX5_brightness_2 : decode cX5_brightness 2 = .ok (.getfield 57, 3) := by decide +kernel
theorem dX5_brightness_5 : decode cX5_brightness 5 = .ok (.invokevirtual 155, 3) := by decide +kernel
theorem dX5_brightness_8 : decode cX5_brightness 8 = .ok (.istore_n 1, 1) := by decide +kernel
theorem dX5_brightness_9 : decode cX5_brightness 9 = .ok (.iload_n 1, 1) := by decide +kernel
theorem dX5_brightness_10 : decode cX5_brightness 10 = .ok (.ifCond .le 11, 3) := by decide +kernel
theorem dX5_brightness_13 : decode cX5_brightness 13 = .ok (.iload_n 1, 1) := by decide +kernel
theorem dX5_brightness_14 : decode cX5_brightness 14 = .ok (.aload_n 0, 1) := by decide +kernel
theorem dX5_brightness_15 : decode cX5_brightness 15 = .ok (.getfield 54, 3) := by decide +kernel
theorem dX5_brightness_18 : decode cX5_brightness 18 = .ok (.if_icmp .gt 6, 3) := by decide +kernel
theorem dX5_brightness_21 : decode cX5_brightness 21 = .ok (.bipush 15, 2) := by decide +kernel
theorem dX5_brightness_23 : decode cX5_brightness 23 = .ok (.ireturn, 1) := by decide +kernel
theorem dX5_brightness_24 : decode cX5_brightness 24 = .ok (.bipush 15, 2) := by decide +kernel
theorem dX5_brightness_26 : decode cX5_brightness 26 = .ok (.aload_n 0, 1) := by decide +kernel
theorem dX5_brightness_27 : decode cX5_brightness 27 = .ok (.getfield 54, 3) := by decide +kernel
theorem dX5_brightness_30 : decode cX5_brightness 30 = .ok (.imul, 1) := by decide +kernel
theorem dX5_brightness_31 : decode cX5_brightness 31 = .ok (.iload_n 1, 1) := by decide +kernel
theorem dX5_brightness_32 : decode cX5_brightness 32 = .ok (.idiv, 1) := by decide +kernel
theorem dX5_brightness_33 : decode cX5_brightness 33 = .ok (.ireturn, 1) := by decide +kernel
set_option maxRecDepth 20000 in
theorem ggX5_peakLoad_X5_heaviestOffset : GoodIn wsX5_peakLoad wsX5_heaviestOffset := goodIn_r _ [5, 6, 7, 8, 9, 4, 10, 11, 12, 13, 14, 15, 16, 17, 18, 19, 20, 21, 22, 23, 24, 25, 26, 27, 28, 29, 30, 31, 32, 33, 34, 35, 36, 37, 38, 39, 40, 41, 42, 43, 44, 45, 46, 47, 48, 49, 50, 51, 52, 53, 54, 55, 56, 57, 58, 59, 60, 61, 62, 63, 64, 65, 66, 67, 68, 69] (by decide +kernel) (by decide +kernel)
set_option maxRecDepth 20000 in
theorem gX5_peakLoad_X5_heaviestOffset : GoodIn wsX5_peakLoad (wsV RX5 158 RX5 yX5_heaviestOffset wsX5_heaviestOffset) := goodIn_app (goodIn_of _ (by decide +kernel)) ggX5_peakLoad_X5_heaviestOffset
set_option maxRecDepth 20000 in
theorem ggX5_peakLoad_X5_loadFrom : GoodIn wsX5_peakLoad wsX5_loadFrom := goodIn_r _ [10, 11, 6, 12, 13, 14, 15, 16, 17, 18, 19, 20, 21, 22, 23, 24, 25, 26, 27, 28, 29, 4, 30, 31, 32, 33, 34, 35, 36, 37, 38, 39, 40, 41, 42, 43, 44, 45, 46, 47, 48, 49, 50, 51, 52, 53, 54, 55, 56, 57, 58, 59, 60, 61, 62, 63, 64, 65, 66, 67, 68, 69] (by decide +kernel) (by decide +kernel)
set_option maxRecDepth 20000 in
theorem gX5_peakLoad_X5_loadFrom : GoodIn wsX5_peakLoad (wsV RX5 155 RX5 yX5_loadFrom wsX5_loadFrom) := goodIn_app (goodIn_of _ (by decide +kernel)) ggX5_peakLoad_X5_loadFrom
theorem dX5_peakLoad_0 : decode cX5_peakLoad 0 = .ok (.aload_n 0, 1) := by decide +kernel
theorem dX5_peakLoad_1 : decode cX5_peakLoad 1 = .ok (.aload_n 0, 1) := by decide +kernel
theorem dX5_peakLoad_2 : decode cX5_peakLoad 2 = .ok (.invokevirtual 158, 3) := by decide +kernel
theorem dX5_peakLoad_5 : decode cX5_peakLoad 5 = .ok (.invokevirtual 155, 3) := by decide +kernel
theorem dX5_peakLoad_8 : decode cX5_peakLoad 8 = .ok (.ireturn, 1) := by decide +kernel
set_option maxRecDepth 20000 in
theorem ggX5_peakOffset_X5_heaviestOffset : GoodIn wsX5_peakOffset wsX5_heaviestOffset := goodIn_r _ [6, 1, 7, 8, 9, 5, 10, 11, 12, 13, 14, 15, 16, 17, 18, 19, 20, 21, 22, 23, 24, 25, 26, 27, 28, 29, 30, 31, 32, 33, 34, 35, 36, 37, 38, 39, 40, 41, 42, 43, 44, 45, 46, 47, 48, 49, 50, 51, 52, 53, 54, 55, 56, 57, 58, 59, 60, 61, 62, 63, 64, 65, 66, 67, 68, 69] (by decide +kernel) (by decide +kernel)
set_option maxRecDepth 20000 in
theorem gX5_peakOffset_X5_heaviestOffset : GoodIn wsX5_peakOffset (wsV RX5 158 RX5 yX5_heaviestOffset wsX5_heaviestOffset) := goodIn_app (goodIn_of _ (by decide +kernel)) ggX5_peakOffset_X5_heaviestOffset
theorem dX5_peakOffset_0 : decode cX5_peakOffset 0 = .ok (.aload_n 0, 1) := by decide +kernel
theorem dX5_peakOffset_1 : decode cX5_peakOffset 1 = .ok (.getfield 33, 3) := by decide +kernel
theorem dX5_peakOffset_4 : decode cX5_peakOffset 4 = .ok (.getfield 114, 3) := by decide +kernel
theorem dX5_peakOffset_7 : decode cX5_peakOffset 7 = .ok (.ifCond .ne 8, 3) := by decide +kernel
theorem dX5_peakOffset_10 : decode cX5_peakOffset 10 = .ok (.bipush (-14), 2) := by decide +kernel
theorem dX5_peakOffset_12 : decode cX5_peakOffset 12 = .ok (.goto 7, 3) := by decide +kernel
theorem dX5_peakOffset_15 : decode cX5_peakOffset 15 = .ok (.aload_n 0, 1) := by decide +kernel
theorem dX5_peakOffset_16 : decode cX5_peakOffset 16 = .ok (.invokevirtual 158, 3) := by decide +kernel
theorem dX5_peakOffset_19 : decode cX5_peakOffset 19 = .ok (.ireturn, 1) := by decide +kernel
set_option maxRecDepth 20000 in
theorem ggX5_damage_X5_isShift : GoodIn wsX5_damage wsX5_isShift := goodIn_r _ [4, 5, 6, 3, 7] (by decide +kernel) (by decide +kernel)
set_option maxRecDepth 20000 in
theorem gX5_damage_X5_isShift : GoodIn wsX5_damage (va_wsS RX5 133 yX5_isShift wsX5_isShift) := goodIn_app (goodIn_of _ (by decide +kernel)) ggX5_damage_X5_isShift
set_option maxRecDepth 20000 in
theorem ggX5_damage_X5_damageWith : GoodIn wsX5_damage wsX5_damageWith := goodIn_r _ [11, 12, 13, 14, 15, 16, 17, 18, 19, 20, 21, 22, 23, 24, 25, 26, 27, 28, 29, 30, 31, 3, 32, 33, 34, 35, 36, 37, 5, 6, 7, 38, 39, 40, 41, 42, 43, 44, 45, 46, 47, 48, 49, 50, 51, 52, 53, 54, 55, 56, 57, 58, 59] (by decide +kernel) (by decide +kernel)
set_option maxRecDepth 20000 in
theorem gX5_damage_X5_damageWith : GoodIn wsX5_damage (wsV RX5 161 RX5 yX5_damageWith wsX5_damageWith) := goodIn_app (goodIn_of _ (by decide +kernel)) ggX5_damage_X5_damageWith
theorem dX5_damage_0 : decode cX5_damage 0 = .ok (.iload_n 1, 1) := by decide +kernel
theorem dX5_damage_1 : decode cX5_damage 1 = .ok (.invokestatic 133, 3) := by decide +kernel
theorem dX5_damage_4 : decode cX5_damage 4 = .ok (.ifCond .ne 6, 3) := by decide +kernel
theorem dX5_damage_7 : decode cX5_damage 7 = .ok (.bipush (-11), 2) := by decide +kernel
theorem dX5_damage_9 : decode cX5_damage 9 = .ok (.ireturn, 1) := by decide +kernel
theorem dX5_damage_10 : decode cX5_damage 10 = .ok (.aload_n 0, 1) := by decide +kernel
theorem dX5_damage_11 : decode cX5_damage 11 = .ok (.iload_n 1, 1) := by decide +kernel
theorem dX5_damage_12 : decode cX5_damage 12 = .ok (.invokevirtual 161, 3) := by decide +kernel
theorem dX5_damage_15 : decode cX5_damage 15 = .ok (.ireturn, 1) := by decide +kernel
set_option maxRecDepth 20000 in
theorem ggX5_adoptBestShift_X5_damageWith : GoodIn wsX5_adoptBestShift wsX5_damageWith := goodIn_r _ [7, 8, 9, 10, 11, 12, 13, 14, 15, 16, 17, 18, 19, 20, 21, 22, 23, 24, 25, 26, 27, 6, 28, 29, 30, 31, 32, 33, 34, 35, 36, 37, 38, 39, 40, 41, 42, 43, 44, 45, 46, 47, 48, 49, 50, 51, 52, 53, 54, 55, 56, 57, 58] (by decide +kernel) (by decide +kernel)
set_option maxRecDepth 20000 in
theorem gX5_adoptBestShift_X5_damageWith : GoodIn wsX5_adoptBestShift (wsV RX5 161 RX5 yX5_damageWith wsX5_damageWith) := goodIn_app (goodIn_of _ (by decide +kernel)) ggX5_adoptBestShift_X5_damageWith
theorem dX5_adoptBestShift_0 : decode cX5_adoptBestShift 0 = .ok (.iconst 0, 1) := by decide +kernel
theorem dX5_adoptBestShift_1 : decode cX5_adoptBestShift 1 = .ok (.istore_n 1, 1) := by decide +kernel
theorem dX5_adoptBestShift_2 : decode cX5_adoptBestShift 2 = .ok (.aload_n 0, 1) := by decide +kernel
theorem dX5_adoptBestShift_3 : decode cX5_adoptBestShift 3 = .ok (.iconst 0, 1) := by decide +kernel
theorem dX5_adoptBestShift_4 : decode cX5_adoptBestShift 4 = .ok (.invokevirtual 161, 3) := by decide +kernel
theorem dX5_adoptBestShift_7 : decode cX5_adoptBestShift 7 = .ok (.istore_n 2, 1) := by decide +kernel
theorem dX5_adoptBestShift_8 : decode cX5_adoptBestShift 8 = .ok (.getstatic 164, 3) := by decide +kernel
theorem dX5_adoptBestShift_11 : decode cX5_adoptBestShift 11 = .ok (.astore_n 3, 1) := by decide +kernel
theorem dX5_adoptBestShift_12 : decode cX5_adoptBestShift 12 = .ok (.aload_n 3, 1) := by decide +kernel
theorem dX5_adoptBestShift_13 : decode cX5_adoptBestShift 13 = .ok (.arraylength, 1) := by decide +kernel
theorem dX5_adoptBestShift_14 : decode cX5_adoptBestShift 14 = .ok (.istore 4, 2) := by decide +kernel
theorem dX5_adoptBestShift_16 : decode cX5_adoptBestShift 16 = .ok (.iconst 0, 1) := by decide +kernel
theorem dX5_adoptBestShift_17 : decode cX5_adoptBestShift 17 = .ok (.istore 5, 2) := by decide +kernel
theorem dX5_adoptBestShift_19 : decode cX5_adoptBestShift 19 = .ok (.iload 5, 2) := by decide +kernel
theorem dX5_adoptBestShift_21 : decode cX5_adoptBestShift 21 = .ok (.iload 4, 2) := by decide +kernel
theorem dX5_adoptBestShift_23 : decode cX5_adoptBestShift 23 = .ok (.if_icmp .ge 35, 3) := by decide +kernel
theorem dX5_adoptBestShift_26 : decode cX5_adoptBestShift 26 = .ok (.aload_n 3, 1) := by decide +kernel
theorem dX5_adoptBestShift_27 : decode cX5_adoptBestShift 27 = .ok (.iload 5, 2) := by decide +kernel
theorem dX5_adoptBestShift_29 : decode cX5_adoptBestShift 29 = .ok (.iaload, 1) := by decide +kernel
theorem dX5_adoptBestShift_30 : decode cX5_adoptBestShift 30 = .ok (.istore 6, 2) := by decide +kernel
theorem dX5_adoptBestShift_32 : decode cX5_adoptBestShift 32 = .ok (.aload_n 0, 1) := by decide +kernel
theorem dX5_adoptBestShift_33 : decode cX5_adoptBestShift 33 = .ok (.iload 6, 2) := by decide +kernel
theorem dX5_adoptBestShift_35 : decode cX5_adoptBestShift 35 = .ok (.invokevirtual 161, 3) := by decide +kernel
theorem dX5_adoptBestShift_38 : decode cX5_adoptBestShift 38 = .ok (.istore 7, 2) := by decide +kernel
theorem dX5_adoptBestShift_40 : decode cX5_adoptBestShift 40 = .ok (.iload 7, 2) := by decide +kernel
theorem dX5_adoptBestShift_42 : decode cX5_adoptBestShift 42 = .ok (.iload_n 2, 1) := by decide +kernel
theorem dX5_adoptBestShift_43 : decode cX5_adoptBestShift 43 = .ok (.if_icmp .ge 9, 3) := by decide +kernel
theorem dX5_adoptBestShift_46 : decode cX5_adoptBestShift 46 = .ok (.iload 6, 2) := by decide +kernel
theorem dX5_adoptBestShift_48 : decode cX5_adoptBestShift 48 = .ok (.istore_n 1, 1) := by decide +kernel
theorem dX5_adoptBestShift_49 : decode cX5_adoptBestShift 49 = .ok (.iload 7, 2) := by decide +kernel
theorem dX5_adoptBestShift_51 : decode cX5_adoptBestShift 51 = .ok (.istore_n 2, 1) := by decide +kernel
theorem dX5_adoptBestShift_52 : decode cX5_adoptBestShift 52 = .ok (.iinc 5 1, 3) := by decide +kernel
theorem dX5_adoptBestShift_55 : decode cX5_adoptBestShift 55 = .ok (.goto (-36), 3) := by decide +kernel
theorem dX5_adoptBestShift_58 : decode cX5_adoptBestShift 58 = .ok (.aload_n 0, 1) := by decide +kernel
theorem dX5_adoptBestShift_59 : decode cX5_adoptBestShift 59 = .ok (.iload_n 1, 1) := by decide +kernel
theorem dX5_adoptBestShift_60 : decode cX5_adoptBestShift 60 = .ok (.putfield 51, 3) := by decide +kernel
theorem dX5_adoptBestShift_63 : decode cX5_adoptBestShift 63 = .ok (.iload_n 2, 1) := by decide +kernel
theorem dX5_adoptBestShift_64 : decode cX5_adoptBestShift 64 = .ok (.ireturn, 1) := by decide +kernel
theorem dX5_isWithin_0 : decode cX5_isWithin 0 = .ok (.iload_n 1, 1) := by decide +kernel
theorem dX5_isWithin_1 : decode cX5_isWithin 1 = .ok (.iload_n 0, 1) := by decide +kernel
theorem dX5_isWithin_2 : decode cX5_isWithin 2 = .ok (.if_icmp .gt 12, 3) := by decide +kernel
theorem dX5_isWithin_5 : decode cX5_isWithin 5 = .ok (.iload_n 0, 1) := by decide +kernel
theorem dX5_isWithin_6 : decode cX5_isWithin 6 = .ok (.iload_n 2, 1) := by decide +kernel
theorem dX5_isWithin_7 : decode cX5_isWithin 7 = .ok (.if_icmp .gt 7, 3) := by decide +kernel
theorem dX5_isWithin_10 : decode cX5_isWithin 10 = .ok (.iconst 1, 1) := by decide +kernel
theorem dX5_isWithin_11 : decode cX5_isWithin 11 = .ok (.goto 4, 3) := by decide +kernel
theorem dX5_isWithin_14 : decode cX5_isWithin 14 = .ok (.iconst 0, 1) := by decide +kernel
theorem dX5_isWithin_15 : decode cX5_isWithin 15 = .ok (.ireturn, 1) := by decide +kernel
set_option maxRecDepth 20000 in
theorem ggX5_isCharacter_X5_isWithin : GoodIn wsX5_isCharacter wsX5_isWithin := goodIn_r _ [4] (by decide +kernel) (by decide +kernel)
set_option maxRecDepth 20000 in
theorem gX5_isCharacter_X5_isWithin : GoodIn wsX5_isCharacter (va_wsS RX5 67 yX5_isWithin wsX5_isWithin) := goodIn_app (goodIn_of _ (by decide +kernel)) ggX5_isCharacter_X5_isWithin
theorem dX5_isCharacter_0 : decode cX5_isCharacter 0 = .ok (.iload_n 0, 1) := by decide +kernel
theorem dX5_isCharacter_1 : decode cX5_isCharacter 1 = .ok (.iconst 0, 1) := by decide +kernel
theorem dX5_isCharacter_2 : decode cX5_isCharacter 2 = .ok (.bipush 26, 2) := by decide +kernel
theorem dX5_isCharacter_4 : decode cX5_isCharacter 4 = .ok (.invokestatic 67, 3) := by decide +kernel
theorem dX5_isCharacter_7 : decode cX5_isCharacter 7 = .ok (.ireturn, 1) := by decide +kernel
set_option maxRecDepth 20000 in
theorem ggX5_isColor_X5_isWithin : GoodIn wsX5_isColor wsX5_isWithin := goodIn_r _ [4] (by decide +kernel) (by decide +kernel)
set_option maxRecDepth 20000 in
theorem gX5_isColor_X5_isWithin : GoodIn wsX5_isColor (va_wsS RX5 67 yX5_isWithin wsX5_isWithin) := goodIn_app (goodIn_of _ (by decide +kernel)) ggX5_isColor_X5_isWithin
theorem dX5_isColor_0 : decode cX5_isColor 0 = .ok (.iload_n 0, 1) := by decide +kernel
theorem dX5_isColor_1 : decode cX5_isColor 1 = .ok (.iconst 1, 1) := by decide +kernel
theorem dX5_isColor_2 : decode cX5_isColor 2 = .ok (.iconst 3, 1) := by decide +kernel
theorem dX5_isColor_3 : decode cX5_isColor 3 = .ok (.invokestatic 67, 3) := by decide +kernel
theorem dX5_isColor_6 : decode cX5_isColor 6 = .ok (.ireturn, 1) := by decide +kernel
set_option maxRecDepth 20000 in
theorem ggX5_isShift_X5_isWithin : GoodIn wsX5_isShift wsX5_isWithin := goodIn_r _ [4] (by decide +kernel) (by decide +kernel)
set_option maxRecDepth 20000 in
theorem gX5_isShift_X5_isWithin : GoodIn wsX5_isShift (va_wsS RX5 67 yX5_isWithin wsX5_isWithin) := goodIn_app (goodIn_of _ (by decide +kernel)) ggX5_isShift_X5_isWithin
theorem dX5_isShift_0 : decode cX5_isShift 0 = .ok (.iload_n 0, 1) := by decide +kernel
theorem dX5_isShift_1 : decode cX5_isShift 1 = .ok (.bipush (-2), 2) := by decide +kernel
theorem dX5_isShift_3 : decode cX5_isShift 3 = .ok (.iconst 2, 1) := by decide +kernel
theorem dX5_isShift_4 : decode cX5_isShift 4 = .ok (.invokestatic 67, 3) := by decide +kernel
theorem dX5_isShift_7 : decode cX5_isShift 7 = .ok (.ireturn, 1) := by decide +kernel
set_option maxRecDepth 20000 in
theorem ggX5_isLed_X5_isWithin : GoodIn wsX5_isLed wsX5_isWithin := goodIn_r _ [5] (by decide +kernel) (by decide +kernel)
set_option maxRecDepth 20000 in
theorem gX5_isLed_X5_isWithin : GoodIn wsX5_isLed (va_wsS RX5 67 yX5_isWithin wsX5_isWithin) := goodIn_app (goodIn_of _ (by decide +kernel)) ggX5_isLed_X5_isWithin
theorem dX5_isLed_0 : decode cX5_isLed 0 = .ok (.iload_n 1, 1) := by decide +kernel
theorem dX5_isLed_1 : decode cX5_isLed 1 = .ok (.iconst 0, 1) := by decide +kernel
theorem dX5_isLed_2 : decode cX5_isLed 2 = .ok (.bipush 7, 2) := by decide +kernel
theorem dX5_isLed_4 : decode cX5_isLed 4 = .ok (.invokestatic 67, 3) := by decide +kernel
theorem dX5_isLed_7 : decode cX5_isLed 7 = .ok (.ifCond .eq 21, 3) := by decide +kernel
theorem dX5_isLed_10 : decode cX5_isLed 10 = .ok (.iload_n 2, 1) := by decide +kernel
theorem dX5_isLed_11 : decode cX5_isLed 11 = .ok (.iconst 0, 1) := by decide +kernel
theorem dX5_isLed_12 : decode cX5_isLed 12 = .ok (.aload_n 0, 1) := by decide +kernel
theorem dX5_isLed_13 : decode cX5_isLed 13 = .ok (.getfield 41, 3) := by decide +kernel
theorem dX5_isLed_16 : decode cX5_isLed 16 = .ok (.iconst 1, 1) := by decide +kernel
theorem dX5_isLed_17 : decode cX5_isLed 17 = .ok (.isub, 1) := by decide +kernel
theorem dX5_isLed_18 : decode cX5_isLed 18 = .ok (.invokestatic 67, 3) := by decide +kernel
theorem dX5_isLed_21 : decode cX5_isLed 21 = .ok (.ifCond .eq 7, 3) := by decide +kernel
theorem dX5_isLed_24 : decode cX5_isLed 24 = .ok (.iconst 1, 1) := by decide +kernel
theorem dX5_isLed_25 : decode cX5_isLed 25 = .ok (.goto 4, 3) := by decide +kernel
theorem dX5_isLed_28 : decode cX5_isLed 28 = .ok (.iconst 0, 1) := by decide +kernel
theorem dX5_isLed_29 : decode cX5_isLed 29 = .ok (.ireturn, 1) := by decide +kernel
set_option maxRecDepth 20000 in
theorem ggX5_layOutStrip_X3_layOut : GoodIn wsX5_layOutStrip wsX3_layOut := goodIn_r _ [10, 11, 12, 13, 14, 15, 16, 17, 18, 19, 20, 21, 22, 23, 24, 9, 25, 26, 27, 28, 29, 30, 31, 32, 33, 34, 35, 36, 37, 38, 39, 40, 41, 42, 43, 44, 45, 46, 47, 48, 49, 50, 63, 64, 65, 66, 67, 68, 69, 70, 71, 72, 73, 74, 75] (by decide +kernel) (by decide +kernel)
set_option maxRecDepth 20000 in
theorem gX5_layOutStrip_X3_layOut : GoodIn wsX5_layOutStrip (wsV RX5 167 RX3 yX3_layOut wsX3_layOut) := goodIn_app (goodIn_of _ (by decide +kernel)) ggX5_layOutStrip_X3_layOut
theorem dX5_layOutStrip_0 : decode cX5_layOutStrip 0 = .ok (.aload_n 0, 1) := by decide +kernel
theorem dX5_layOutStrip_1 : decode cX5_layOutStrip 1 = .ok (.getfield 33, 3) := by decide +kernel
theorem dX5_layOutStrip_4 : decode cX5_layOutStrip 4 = .ok (.aload_n 0, 1) := by decide +kernel
theorem dX5_layOutStrip_5 : decode cX5_layOutStrip 5 = .ok (.getfield 26, 3) := by decide +kernel
theorem dX5_layOutStrip_8 : decode cX5_layOutStrip 8 = .ok (.aload_n 0, 1) := by decide +kernel
theorem dX5_layOutStrip_9 : decode cX5_layOutStrip 9 = .ok (.getfield 12, 3) := by decide +kernel
theorem dX5_layOutStrip_12 : decode cX5_layOutStrip 12 = .ok (.aload_n 0, 1) := by decide +kernel
theorem dX5_layOutStrip_13 : decode cX5_layOutStrip 13 = .ok (.getfield 45, 3) := by decide +kernel
theorem dX5_layOutStrip_16 : decode cX5_layOutStrip 16 = .ok (.invokevirtual 167, 3) := by decide +kernel
theorem dX5_layOutStrip_19 : decode cX5_layOutStrip 19 = .ok (.aload_n 0, 1) := by decide +kernel
theorem dX5_layOutStrip_20 : decode cX5_layOutStrip 20 = .ok (.getfield 57, 3) := by decide +kernel
theorem dX5_layOutStrip_23 : decode cX5_layOutStrip 23 = .ok (.aload_n 0, 1) := by decide +kernel
theorem dX5_layOutStrip_24 : decode cX5_layOutStrip 24 = .ok (.getfield 33, 3) := by decide +kernel
theorem dX5_layOutStrip_27 : decode cX5_layOutStrip 27 = .ok (.getfield 114, 3) := by decide +kernel
theorem dX5_layOutStrip_30 : decode cX5_layOutStrip 30 = .ok (.if_icmp .lt 8, 3) := by decide +kernel
theorem dX5_layOutStrip_33 : decode cX5_layOutStrip 33 = .ok (.aload_n 0, 1) := by decide +kernel
theorem dX5_layOutStrip_34 : decode cX5_layOutStrip 34 = .ok (.iconst 0, 1) := by decide +kernel
theorem dX5_layOutStrip_35 : decode cX5_layOutStrip 35 = .ok (.putfield 57, 3) := by decide +kernel
theorem dX5_layOutStrip_38 : decode cX5_layOutStrip 38 = .ok (.return_, 1) := by decide +kernel
set_option maxRecDepth 20000 in
theorem ggX5_defectsOf_X5_isWithin : GoodIn wsX5_defectsOf wsX5_isWithin := goodIn_r _ [5] (by decide +kernel) (by decide +kernel)
set_option maxRecDepth 20000 in
theorem gX5_defectsOf_X5_isWithin : GoodIn wsX5_defectsOf (va_wsS RX5 67 yX5_isWithin wsX5_isWithin) := goodIn_app (goodIn_of _ (by decide +kernel)) ggX5_defectsOf_X5_isWithin
theorem dX5_defectsOf_0 : decode cX5_defectsOf 0 = .ok (.iload_n 1, 1) := by decide +kernel
theorem dX5_defectsOf_1 : decode cX5_defectsOf 1 = .ok (.iconst 0, 1) := by decide +kernel
theorem dX5_defectsOf_2 : decode cX5_defectsOf 2 = .ok (.aload_n 0, 1) := by decide +kernel
theorem dX5_defectsOf_3 : decode cX5_defectsOf 3 = .ok (.getfield 37, 3) := by decide +kernel
theorem dX5_defectsOf_6 : decode cX5_defectsOf 6 = .ok (.arraylength, 1) := by decide +kernel
theorem dX5_defectsOf_7 : decode cX5_defectsOf 7 = .ok (.iconst 1, 1) := by decide +kernel
theorem dX5_defectsOf_8 : decode cX5_defectsOf 8 = .ok (.isub, 1) := by decide +kernel
theorem dX5_defectsOf_9 : decode cX5_defectsOf 9 = .ok (.invokestatic 67, 3) := by decide +kernel
theorem dX5_defectsOf_12 : decode cX5_defectsOf 12 = .ok (.ifCond .eq 12, 3) := by decide +kernel
theorem dX5_defectsOf_15 : decode cX5_defectsOf 15 = .ok (.aload_n 0, 1) := by decide +kernel
theorem dX5_defectsOf_16 : decode cX5_defectsOf 16 = .ok (.getfield 37, 3) := by decide +kernel
theorem dX5_defectsOf_19 : decode cX5_defectsOf 19 = .ok (.iload_n 1, 1) := by decide +kernel
theorem dX5_defectsOf_20 : decode cX5_defectsOf 20 = .ok (.iaload, 1) := by decide +kernel
theorem dX5_defectsOf_21 : decode cX5_defectsOf 21 = .ok (.goto 4, 3) := by decide +kernel
theorem dX5_defectsOf_24 : decode cX5_defectsOf 24 = .ok (.iconst 0, 1) := by decide +kernel
theorem dX5_defectsOf_25 : decode cX5_defectsOf 25 = .ok (.ireturn, 1) := by decide +kernel
set_option maxRecDepth 20000 in
theorem ggX5_isDefective_X5_defectsOf : GoodIn wsX5_isDefective wsX5_defectsOf := goodIn_r _ [5, 6, 7, 8, 4, 9, 10, 11, 12, 13, 14, 15, 16, 17, 18, 19, 20, 21] (by decide +kernel) (by decide +kernel)
set_option maxRecDepth 20000 in
theorem gX5_isDefective_X5_defectsOf : GoodIn wsX5_isDefective (wsV RX5 171 RX5 yX5_defectsOf wsX5_defectsOf) := goodIn_app (goodIn_of _ (by decide +kernel)) ggX5_isDefective_X5_defectsOf
theorem dX5_isDefective_0 : decode cX5_isDefective 0 = .ok (.aload_n 0, 1) := by decide +kernel
theorem dX5_isDefective_1 : decode cX5_isDefective 1 = .ok (.iload_n 2, 1) := by decide +kernel
theorem dX5_isDefective_2 : decode cX5_isDefective 2 = .ok (.invokevirtual 171, 3) := by decide +kernel
theorem dX5_isDefective_5 : decode cX5_isDefective 5 = .ok (.iload_n 1, 1) := by decide +kernel
theorem dX5_isDefective_6 : decode cX5_isDefective 6 = .ok (.ishr, 1) := by decide +kernel
theorem dX5_isDefective_7 : decode cX5_isDefective 7 = .ok (.iconst 1, 1) := by decide +kernel
theorem dX5_isDefective_8 : decode cX5_isDefective 8 = .ok (.iand, 1) := by decide +kernel
theorem dX5_isDefective_9 : decode cX5_isDefective 9 = .ok (.iconst 1, 1) := by decide +kernel
theorem dX5_isDefective_10 : decode cX5_isDefective 10 = .ok (.if_icmp .ne 7, 3) := by decide +kernel
theorem dX5_isDefective_13 : decode cX5_isDefective 13 = .ok (.iconst 1, 1) := by decide +kernel
theorem dX5_isDefective_14 : decode cX5_isDefective 14 = .ok (.goto 4, 3) := by decide +kernel
theorem dX5_isDefective_17 : decode cX5_isDefective 17 = .ok (.iconst 0, 1) := by decide +kernel
theorem dX5_isDefective_18 : decode cX5_isDefective 18 = .ok (.ireturn, 1) := by decide +kernel
set_option maxRecDepth 20000 in
theorem ggX5_countDefects_J6_bitCount_0f7a4 : GoodIn wsX5_countDefects wsJ6_bitCount_0f7a4 := goodIn_r _ [5, 6, 7, 8] (by decide +kernel) (by decide +kernel)
set_option maxRecDepth 20000 in
theorem gX5_countDefects_J6_bitCount_0f7a4 : GoodIn wsX5_countDefects (va_wsS RX5 174 yJ6_bitCount_0f7a4 wsJ6_bitCount_0f7a4) := goodIn_app (goodIn_of _ (by decide +kernel)) ggX5_countDefects_J6_bitCount_0f7a4
theorem dX5_countDefects_0 : decode cX5_countDefects 0 = .ok (.iconst 0, 1) := by decide +kernel
theorem dX5_countDefects_1 : decode cX5_countDefects 1 = .ok (.istore_n 1, 1) := by decide +kernel
theorem dX5_countDefects_2 : decode cX5_countDefects 2 = .ok (.aload_n 0, 1) := by decide +kernel
theorem dX5_countDefects_3 : decode cX5_countDefects 3 = .ok (.getfield 37, 3) := by decide +kernel
theorem dX5_countDefects_6 : decode cX5_countDefects 6 = .ok (.astore_n 2, 1) := by decide +kernel
theorem dX5_countDefects_7 : decode cX5_countDefects 7 = .ok (.aload_n 2, 1) := by decide +kernel
theorem dX5_countDefects_8 : decode cX5_countDefects 8 = .ok (.arraylength, 1) := by decide +kernel
theorem dX5_countDefects_9 : decode cX5_countDefects 9 = .ok (.istore_n 3, 1) := by decide +kernel
theorem dX5_countDefects_10 : decode cX5_countDefects 10 = .ok (.iconst 0, 1) := by decide +kernel
theorem dX5_countDefects_11 : decode cX5_countDefects 11 = .ok (.istore 4, 2) := by decide +kernel
theorem dX5_countDefects_13 : decode cX5_countDefects 13 = .ok (.iload 4, 2) := by decide +kernel
theorem dX5_countDefects_15 : decode cX5_countDefects 15 = .ok (.iload_n 3, 1) := by decide +kernel
theorem dX5_countDefects_16 : decode cX5_countDefects 16 = .ok (.if_icmp .ge 23, 3) := by decide +kernel
theorem dX5_countDefects_19 : decode cX5_countDefects 19 = .ok (.aload_n 2, 1) := by decide +kernel
theorem dX5_countDefects_20 : decode cX5_countDefects 20 = .ok (.iload 4, 2) := by decide +kernel
theorem dX5_countDefects_22 : decode cX5_countDefects 22 = .ok (.iaload, 1) := by decide +kernel
theorem dX5_countDefects_23 : decode cX5_countDefects 23 = .ok (.istore 5, 2) := by decide +kernel
theorem dX5_countDefects_25 : decode cX5_countDefects 25 = .ok (.iload_n 1, 1) := by decide +kernel
theorem dX5_countDefects_26 : decode cX5_countDefects 26 = .ok (.iload 5, 2) := by decide +kernel
theorem dX5_countDefects_28 : decode cX5_countDefects 28 = .ok (.invokestatic 174, 3) := by decide +kernel
theorem dX5_countDefects_31 : decode cX5_countDefects 31 = .ok (.iadd, 1) := by decide +kernel
theorem dX5_countDefects_32 : decode cX5_countDefects 32 = .ok (.istore_n 1, 1) := by decide +kernel
theorem dX5_countDefects_33 : decode cX5_countDefects 33 = .ok (.iinc 4 1, 3) := by decide +kernel
theorem dX5_countDefects_36 : decode cX5_countDefects 36 = .ok (.goto (-23), 3) := by decide +kernel
theorem dX5_countDefects_39 : decode cX5_countDefects 39 = .ok (.iload_n 1, 1) := by decide +kernel
theorem dX5_countDefects_40 : decode cX5_countDefects 40 = .ok (.ireturn, 1) := by decide +kernel
theorem dX5_shifted_0 : decode cX5_shifted 0 = .ok (.iload_n 1, 1) := by decide +kernel
theorem dX5_shifted_1 : decode cX5_shifted 1 = .ok (.ifCond .ge 10, 3) := by decide +kernel
theorem dX5_shifted_4 : decode cX5_shifted 4 = .ok (.iload_n 0, 1) := by decide +kernel
theorem dX5_shifted_5 : decode cX5_shifted 5 = .ok (.iload_n 1, 1) := by decide +kernel
theorem dX5_shifted_6 : decode cX5_shifted 6 = .ok (.ineg, 1) := by decide +kernel
theorem dX5_shifted_7 : decode cX5_shifted 7 = .ok (.ishr, 1) := by decide +kernel
theorem dX5_shifted_8 : decode cX5_shifted 8 = .ok (.goto 10, 3) := by decide +kernel
theorem dX5_shifted_11 : decode cX5_shifted 11 = .ok (.iload_n 0, 1) := by decide +kernel
theorem dX5_shifted_12 : decode cX5_shifted 12 = .ok (.iload_n 1, 1) := by decide +kernel
theorem dX5_shifted_13 : decode cX5_shifted 13 = .ok (.ishl, 1) := by decide +kernel
theorem dX5_shifted_14 : decode cX5_shifted 14 = .ok (.sipush 255, 3) := by decide +kernel
theorem dX5_shifted_17 : decode cX5_shifted 17 = .ok (.iand, 1) := by decide +kernel
theorem dX5_shifted_18 : decode cX5_shifted 18 = .ok (.ireturn, 1) := by decide +kernel
set_option maxRecDepth 20000 in
theorem ggX5_litRows_X3_dotsAt : GoodIn wsX5_litRows wsX3_dotsAt := goodIn_r _ [7, 8, 9, 10, 11, 12, 6, 13, 14, 15, 16, 17, 42, 43, 44] (by decide +kernel) (by decide +kernel)
set_option maxRecDepth 20000 in
theorem gX5_litRows_X3_dotsAt : GoodIn wsX5_litRows (wsV RX5 179 RX3 yX3_dotsAt wsX3_dotsAt) := goodIn_app (goodIn_of _ (by decide +kernel)) ggX5_litRows_X3_dotsAt
set_option maxRecDepth 20000 in
theorem ggX5_litRows_X5_shifted : GoodIn wsX5_litRows wsX5_shifted := goodIn_r _ [21] (by decide +kernel) (by decide +kernel)
set_option maxRecDepth 20000 in
theorem gX5_litRows_X5_shifted : GoodIn wsX5_litRows (va_wsS RX5 182 yX5_shifted wsX5_shifted) := goodIn_app (goodIn_of _ (by decide +kernel)) ggX5_litRows_X5_shifted
set_option maxRecDepth 20000 in
theorem ggX5_litRows_X5_defectsOf : GoodIn wsX5_litRows wsX5_defectsOf := goodIn_r _ [25, 26, 27, 28, 20, 29, 30, 31, 32, 33, 34, 35, 36, 37, 38, 39, 40, 41] (by decide +kernel) (by decide +kernel)
set_option maxRecDepth 20000 in
theorem gX5_litRows_X5_defectsOf : GoodIn wsX5_litRows (wsV RX5 171 RX5 yX5_defectsOf wsX5_defectsOf) := goodIn_app (goodIn_of _ (by decide +kernel)) ggX5_litRows_X5_defectsOf
theorem dX5_litRows_0 : decode cX5_litRows 0 = .ok (.aload_n 0, 1) := by decide +kernel
theorem dX5_litRows_1 : decode cX5_litRows 1 = .ok (.getfield 33, 3) := by decide +kernel
theorem dX5_litRows_4 : decode cX5_litRows 4 = .ok (.iload_n 1, 1) := by decide +kernel
theorem dX5_litRows_5 : decode cX5_litRows 5 = .ok (.iload_n 2, 1) := by decide +kernel
theorem dX5_litRows_6 : decode cX5_litRows 6 = .ok (.iadd, 1) := by decide +kernel
theorem dX5_litRows_7 : decode cX5_litRows 7 = .ok (.invokevirtual 179, 3) := by decide +kernel
theorem dX5_litRows_10 : decode cX5_litRows 10 = .ok (.aload_n 0, 1) := by decide +kernel
theorem dX5_litRows_11 : decode cX5_litRows 11 = .ok (.getfield 51, 3) := by decide +kernel
theorem dX5_litRows_14 : decode cX5_litRows 14 = .ok (.invokestatic 182, 3) := by decide +kernel
theorem dX5_litRows_17 : decode cX5_litRows 17 = .ok (.aload_n 0, 1) := by decide +kernel
theorem dX5_litRows_18 : decode cX5_litRows 18 = .ok (.iload_n 2, 1) := by decide +kernel
theorem dX5_litRows_19 : decode cX5_litRows 19 = .ok (.invokevirtual 171, 3) := by decide +kernel
theorem dX5_litRows_22 : decode cX5_litRows 22 = .ok (.iconst (-1), 1) := by decide +kernel
theorem dX5_litRows_23 : decode cX5_litRows 23 = .ok (.ixor, 1) := by decide +kernel
theorem dX5_litRows_24 : decode cX5_litRows 24 = .ok (.iand, 1) := by decide +kernel
theorem dX5_litRows_25 : decode cX5_litRows 25 = .ok (.ireturn, 1) := by decide +kernel
set_option maxRecDepth 20000 in
theorem ggX5_loadFrom_X3_colorAt : GoodIn wsX5_loadFrom wsX3_colorAt := goodIn_r _ [7, 8, 9, 10, 11, 12, 6, 13, 14, 15, 16, 17, 59, 60, 61] (by decide +kernel) (by decide +kernel)
set_option maxRecDepth 20000 in
theorem gX5_loadFrom_X3_colorAt : GoodIn wsX5_loadFrom (wsV RX5 152 RX3 yX3_colorAt wsX3_colorAt) := goodIn_app (goodIn_of _ (by decide +kernel)) ggX5_loadFrom_X3_colorAt
set_option maxRecDepth 20000 in
theorem ggX5_loadFrom_X5_litRows : GoodIn wsX5_loadFrom wsX5_litRows := goodIn_r _ [22, 2, 23, 24, 25, 26, 6, 27, 8, 28, 10, 11, 12, 13, 14, 15, 16, 17, 29, 30, 21, 31, 32, 33, 34, 35, 36, 37, 38, 39, 47, 48, 49, 50, 51, 52, 53, 54, 55, 56, 57, 58, 59, 60, 61] (by decide +kernel) (by decide +kernel)
set_option maxRecDepth 20000 in
theorem gX5_loadFrom_X5_litRows : GoodIn wsX5_loadFrom (wsV RX5 149 RX5 yX5_litRows wsX5_litRows) := goodIn_app (goodIn_of _ (by decide +kernel)) ggX5_loadFrom_X5_litRows
set_option maxRecDepth 20000 in
theorem ggX5_loadFrom_J6_bitCount_0f7a4 : GoodIn wsX5_loadFrom wsJ6_bitCount_0f7a4 := goodIn_r _ [43, 44, 45, 46] (by decide +kernel) (by decide +kernel)
set_option maxRecDepth 20000 in
theorem gX5_loadFrom_J6_bitCount_0f7a4 : GoodIn wsX5_loadFrom (va_wsS RX5 174 yJ6_bitCount_0f7a4 wsJ6_bitCount_0f7a4) := goodIn_app (goodIn_of _ (by decide +kernel)) ggX5_loadFrom_J6_bitCount_0f7a4
theorem dX5_loadFrom_0 : decode cX5_loadFrom 0 = .ok (.iconst 0, 1) := by decide +kernel
theorem dX5_loadFrom_1 : decode cX5_loadFrom 1 = .ok (.istore_n 2, 1) := by decide +kernel
theorem dX5_loadFrom_2 : decode cX5_loadFrom 2 = .ok (.iconst 0, 1) := by decide +kernel
theorem dX5_loadFrom_3 : decode cX5_loadFrom 3 = .ok (.istore_n 3, 1) := by decide +kernel
theorem dX5_loadFrom_4 : decode cX5_loadFrom 4 = .ok (.iload_n 3, 1) := by decide +kernel
theorem dX5_loadFrom_5 : decode cX5_loadFrom 5 = .ok (.aload_n 0, 1) := by decide +kernel
theorem dX5_loadFrom_6 : decode cX5_loadFrom 6 = .ok (.getfield 41, 3) := by decide +kernel
theorem dX5_loadFrom_9 : decode cX5_loadFrom 9 = .ok (.if_icmp .ge 45, 3) := by decide +kernel
theorem dX5_loadFrom_12 : decode cX5_loadFrom 12 = .ok (.aload_n 0, 1) := by decide +kernel
theorem dX5_loadFrom_13 : decode cX5_loadFrom 13 = .ok (.getfield 33, 3) := by decide +kernel
theorem dX5_loadFrom_16 : decode cX5_loadFrom 16 = .ok (.iload_n 1, 1) := by decide +kernel
theorem dX5_loadFrom_17 : decode cX5_loadFrom 17 = .ok (.iload_n 3, 1) := by decide +kernel
theorem dX5_loadFrom_18 : decode cX5_loadFrom 18 = .ok (.iadd, 1) := by decide +kernel
theorem dX5_loadFrom_19 : decode cX5_loadFrom 19 = .ok (.invokevirtual 152, 3) := by decide +kernel
theorem dX5_loadFrom_22 : decode cX5_loadFrom 22 = .ok (.iconst 3, 1) := by decide +kernel
theorem dX5_loadFrom_23 : decode cX5_loadFrom 23 = .ok (.if_icmp .ne 7, 3) := by decide +kernel
theorem dX5_loadFrom_26 : decode cX5_loadFrom 26 = .ok (.iconst 2, 1) := by decide +kernel
theorem dX5_loadFrom_27 : decode cX5_loadFrom 27 = .ok (.goto 4, 3) := by decide +kernel
theorem dX5_loadFrom_30 : decode cX5_loadFrom 30 = .ok (.iconst 1, 1) := by decide +kernel
theorem dX5_loadFrom_31 : decode cX5_loadFrom 31 = .ok (.istore 4, 2) := by decide +kernel
theorem dX5_loadFrom_33 : decode cX5_loadFrom 33 = .ok (.iload_n 2, 1) := by decide +kernel
theorem dX5_loadFrom_34 : decode cX5_loadFrom 34 = .ok (.iload 4, 2) := by decide +kernel
theorem dX5_loadFrom_36 : decode cX5_loadFrom 36 = .ok (.aload_n 0, 1) := by decide +kernel
theorem dX5_loadFrom_37 : decode cX5_loadFrom 37 = .ok (.iload_n 1, 1) := by decide +kernel
theorem dX5_loadFrom_38 : decode cX5_loadFrom 38 = .ok (.iload_n 3, 1) := by decide +kernel
theorem dX5_loadFrom_39 : decode cX5_loadFrom 39 = .ok (.invokevirtual 149, 3) := by decide +kernel
theorem dX5_loadFrom_42 : decode cX5_loadFrom 42 = .ok (.invokestatic 174, 3) := by decide +kernel
theorem dX5_loadFrom_45 : decode cX5_loadFrom 45 = .ok (.imul, 1) := by decide +kernel
theorem dX5_loadFrom_46 : decode cX5_loadFrom 46 = .ok (.iadd, 1) := by decide +kernel
theorem dX5_loadFrom_47 : decode cX5_loadFrom 47 = .ok (.istore_n 2, 1) := by decide +kernel
theorem dX5_loadFrom_48 : decode cX5_loadFrom 48 = .ok (.iinc 3 1, 3) := by decide +kernel
theorem dX5_loadFrom_51 : decode cX5_loadFrom 51 = .ok (.goto (-47), 3) := by decide +kernel
theorem dX5_loadFrom_54 : decode cX5_loadFrom 54 = .ok (.iload_n 2, 1) := by decide +kernel
theorem dX5_loadFrom_55 : decode cX5_loadFrom 55 = .ok (.ireturn, 1) := by decide +kernel
set_option maxRecDepth 20000 in
theorem ggX5_heaviestOffset_X5_loadFrom : GoodIn wsX5_heaviestOffset wsX5_loadFrom := goodIn_r _ [6, 7, 1, 8, 9, 10, 11, 12, 13, 14, 15, 16, 17, 18, 19, 20, 21, 22, 23, 24, 25, 5, 26, 27, 28, 29, 30, 31, 32, 33, 34, 35, 36, 37, 38, 39, 40, 41, 42, 43, 44, 45, 46, 47, 48, 49, 50, 51, 52, 53, 54, 55, 56, 57, 58, 59, 60, 61, 62, 63, 64, 65] (by decide +kernel) (by decide +kernel)
set_option maxRecDepth 20000 in
theorem gX5_heaviestOffset_X5_loadFrom : GoodIn wsX5_heaviestOffset (wsV RX5 155 RX5 yX5_loadFrom wsX5_loadFrom) := goodIn_app (goodIn_of _ (by decide +kernel)) ggX5_heaviestOffset_X5_loadFrom
theorem dX5_heaviestOffset_0 : decode cX5_heaviestOffset 0 = .ok (.iconst 0, 1) := by decide +kernel
theorem dX5_heaviestOffset_1 : decode cX5_heaviestOffset 1 = .ok (.istore_n 1, 1) := by decide +kernel
theorem dX5_heaviestOffset_2 : decode cX5_heaviestOffset 2 = .ok (.iconst (-1), 1) := by decide +kernel
theorem dX5_heaviestOffset_3 : decode cX5_heaviestOffset 3 = .ok (.istore_n 2, 1) := by decide +kernel
theorem dX5_heaviestOffset_4 : decode cX5_heaviestOffset 4 = .ok (.iconst 0, 1) := by decide +kernel
theorem dX5_heaviestOffset_5 : decode cX5_heaviestOffset 5 = .ok (.istore_n 3, 1) := by decide +kernel
theorem dX5_heaviestOffset_6 : decode cX5_heaviestOffset 6 = .ok (.iload_n 3, 1) := by decide +kernel
theorem dX5_heaviestOffset_7 : decode cX5_heaviestOffset 7 = .ok (.aload_n 0, 1) := by decide +kernel
theorem dX5_heaviestOffset_8 : decode cX5_heaviestOffset 8 = .ok (.getfield 33, 3) := by decide +kernel
theorem dX5_heaviestOffset_11 : decode cX5_heaviestOffset 11 = .ok (.getfield 114, 3) := by decide +kernel
theorem dX5_heaviestOffset_14 : decode cX5_heaviestOffset 14 = .ok (.if_icmp .ge 27, 3) := by decide +kernel
theorem dX5_heaviestOffset_17 : decode cX5_heaviestOffset 17 = .ok (.aload_n 0, 1) := by decide +kernel
theorem dX5_heaviestOffset_18 : decode cX5_heaviestOffset 18 = .ok (.iload_n 3, 1) := by decide +kernel
theorem dX5_heaviestOffset_19 : decode cX5_heaviestOffset 19 = .ok (.invokevirtual 155, 3) := by decide +kernel
theorem dX5_heaviestOffset_22 : decode cX5_heaviestOffset 22 = .ok (.istore 4, 2) := by decide +kernel
theorem dX5_heaviestOffset_24 : decode cX5_heaviestOffset 24 = .ok (.iload 4, 2) := by decide +kernel
theorem dX5_heaviestOffset_26 : decode cX5_heaviestOffset 26 = .ok (.iload_n 2, 1) := by decide +kernel
theorem dX5_heaviestOffset_27 : decode cX5_heaviestOffset 27 = .ok (.if_icmp .le 8, 3) := by decide +kernel
theorem dX5_heaviestOffset_30 : decode cX5_heaviestOffset 30 = .ok (.iload_n 3, 1) := by decide +kernel
theorem dX5_heaviestOffset_31 : decode cX5_heaviestOffset 31 = .ok (.istore_n 1, 1) := by decide +kernel
theorem dX5_heaviestOffset_32 : decode cX5_heaviestOffset 32 = .ok (.iload 4, 2) := by decide +kernel
theorem dX5_heaviestOffset_34 : decode cX5_heaviestOffset 34 = .ok (.istore_n 2, 1) := by decide +kernel
theorem dX5_heaviestOffset_35 : decode cX5_heaviestOffset 35 = .ok (.iinc 3 1, 3) := by decide +kernel
theorem dX5_heaviestOffset_38 : decode cX5_heaviestOffset 38 = .ok (.goto (-32), 3) := by decide +kernel
theorem dX5_heaviestOffset_41 : decode cX5_heaviestOffset 41 = .ok (.iload_n 1, 1) := by decide +kernel
theorem dX5_heaviestOffset_42 : decode cX5_heaviestOffset 42 = .ok (.ireturn, 1) := by decide +kernel
set_option maxRecDepth 20000 in
theorem ggX5_damageWith_X3_dotsAt : GoodIn wsX5_damageWith wsX3_dotsAt := goodIn_r _ [8, 9, 10, 11, 12, 13, 7, 14, 15, 16, 17, 18, 50, 51, 52] (by decide +kernel) (by decide +kernel)
set_option maxRecDepth 20000 in
theorem gX5_damageWith_X3_dotsAt : GoodIn wsX5_damageWith (wsV RX5 179 RX3 yX3_dotsAt wsX3_dotsAt) := goodIn_app (goodIn_of _ (by decide +kernel)) ggX5_damageWith_X3_dotsAt
set_option maxRecDepth 20000 in
theorem ggX5_damageWith_X5_shifted : GoodIn wsX5_damageWith wsX5_shifted := goodIn_r _ [22] (by decide +kernel) (by decide +kernel)
set_option maxRecDepth 20000 in
theorem gX5_damageWith_X5_shifted : GoodIn wsX5_damageWith (va_wsS RX5 182 yX5_shifted wsX5_shifted) := goodIn_app (goodIn_of _ (by decide +kernel)) ggX5_damageWith_X5_shifted
set_option maxRecDepth 20000 in
theorem ggX5_damageWith_X5_defectsOf : GoodIn wsX5_damageWith wsX5_defectsOf := goodIn_r _ [26, 27, 28, 29, 21, 30, 38, 39, 40, 41, 42, 43, 44, 45, 46, 47, 48, 49] (by decide +kernel) (by decide +kernel)
set_option maxRecDepth 20000 in
theorem gX5_damageWith_X5_defectsOf : GoodIn wsX5_damageWith (wsV RX5 171 RX5 yX5_defectsOf wsX5_defectsOf) := goodIn_app (goodIn_of _ (by decide +kernel)) ggX5_damageWith_X5_defectsOf
set_option maxRecDepth 20000 in
theorem ggX5_damageWith_J6_bitCount_0f7a4 : GoodIn wsX5_damageWith wsJ6_bitCount_0f7a4 := goodIn_r _ [34, 35, 36, 37] (by decide +kernel) (by decide +kernel)
set_option maxRecDepth 20000 in
theorem gX5_damageWith_J6_bitCount_0f7a4 : GoodIn wsX5_damageWith (va_wsS RX5 174 yJ6_bitCount_0f7a4 wsJ6_bitCount_0f7a4) := goodIn_app (goodIn_of _ (by decide +kernel)) ggX5_damageWith_J6_bitCount_0f7a4
theorem dX5_damageWith_0 : decode cX5_damageWith 0 = .ok (.iconst 0, 1) := by decide +kernel
theorem dX5_damageWith_1 : decode cX5_damageWith 1 = .ok (.istore_n 2, 1) := by decide +kernel
theorem dX5_damageWith_2 : decode cX5_damageWith 2 = .ok (.iconst 0, 1) := by decide +kernel
theorem dX5_damageWith_3 : decode cX5_damageWith 3 = .ok (.istore_n 3, 1) := by decide +kernel
theorem dX5_damageWith_4 : decode cX5_damageWith 4 = .ok (.iload_n 3, 1) := by decide +kernel
theorem dX5_damageWith_5 : decode cX5_damageWith 5 = .ok (.aload_n 0, 1) := by decide +kernel
theorem dX5_damageWith_6 : decode cX5_damageWith 6 = .ok (.getfield 41, 3) := by decide +kernel
theorem dX5_damageWith_9 : decode cX5_damageWith 9 = .ok (.if_icmp .ge 54, 3) := by decide +kernel
theorem dX5_damageWith_12 : decode cX5_damageWith 12 = .ok (.aload_n 0, 1) := by decide +kernel
theorem dX5_damageWith_13 : decode cX5_damageWith 13 = .ok (.getfield 33, 3) := by decide +kernel
theorem dX5_damageWith_16 : decode cX5_damageWith 16 = .ok (.aload_n 0, 1) := by decide +kernel
theorem dX5_damageWith_17 : decode cX5_damageWith 17 = .ok (.getfield 57, 3) := by decide +kernel
theorem dX5_damageWith_20 : decode cX5_damageWith 20 = .ok (.iload_n 3, 1) := by decide +kernel
theorem dX5_damageWith_21 : decode cX5_damageWith 21 = .ok (.iadd, 1) := by decide +kernel
theorem dX5_damageWith_22 : decode cX5_damageWith 22 = .ok (.invokevirtual 179, 3) := by decide +kernel
theorem dX5_damageWith_25 : decode cX5_damageWith 25 = .ok (.istore 4, 2) := by decide +kernel
theorem dX5_damageWith_27 : decode cX5_damageWith 27 = .ok (.iload 4, 2) := by decide +kernel
theorem dX5_damageWith_29 : decode cX5_damageWith 29 = .ok (.iload_n 1, 1) := by decide +kernel
theorem dX5_damageWith_30 : decode cX5_damageWith 30 = .ok (.invokestatic 182, 3) := by decide +kernel
theorem dX5_damageWith_33 : decode cX5_damageWith 33 = .ok (.aload_n 0, 1) := by decide +kernel
theorem dX5_damageWith_34 : decode cX5_damageWith 34 = .ok (.iload_n 3, 1) := by decide +kernel
theorem dX5_damageWith_35 : decode cX5_damageWith 35 = .ok (.invokevirtual 171, 3) := by decide +kernel
theorem dX5_damageWith_38 : decode cX5_damageWith 38 = .ok (.iconst (-1), 1) := by decide +kernel
theorem dX5_damageWith_39 : decode cX5_damageWith 39 = .ok (.ixor, 1) := by decide +kernel
theorem dX5_damageWith_40 : decode cX5_damageWith 40 = .ok (.iand, 1) := by decide +kernel
theorem dX5_damageWith_41 : decode cX5_damageWith 41 = .ok (.istore 5, 2) := by decide +kernel
theorem dX5_damageWith_43 : decode cX5_damageWith 43 = .ok (.iload_n 2, 1) := by decide +kernel
theorem dX5_damageWith_44 : decode cX5_damageWith 44 = .ok (.iload 4, 2) := by decide +kernel
theorem dX5_damageWith_46 : decode cX5_damageWith 46 = .ok (.invokestatic 174, 3) := by decide +kernel
theorem dX5_damageWith_49 : decode cX5_damageWith 49 = .ok (.iload 5, 2) := by decide +kernel
theorem dX5_damageWith_51 : decode cX5_damageWith 51 = .ok (.invokestatic 174, 3) := by decide +kernel
theorem dX5_damageWith_54 : decode cX5_damageWith 54 = .ok (.isub, 1) := by decide +kernel
theorem dX5_damageWith_55 : decode cX5_damageWith 55 = .ok (.iadd, 1) := by decide +kernel
theorem dX5_damageWith_56 : decode cX5_damageWith 56 = .ok (.istore_n 2, 1) := by decide +kernel
theorem dX5_damageWith_57 : decode cX5_damageWith 57 = .ok (.iinc 3 1, 3) := by decide +kernel
theorem dX5_damageWith_60 : decode cX5_damageWith 60 = .ok (.goto (-56), 3) := by decide +kernel
theorem dX5_damageWith_63 : decode cX5_damageWith 63 = .ok (.iload_n 2, 1) := by decide +kernel
theorem dX5_damageWith_64 : decode cX5_damageWith 64 = .ok (.ireturn, 1) := by decide +kernel
theorem dX6_init_0 : decode cX6_init 0 = .ok (.aload_n 0, 1) := by decide +kernel
theorem dX6_init_1 : decode cX6_init 1 = .ok (.invokespecial 1, 3) := by decide +kernel
theorem dX6_init_4 : decode cX6_init 4 = .ok (.aload_n 0, 1) := by decide +kernel
theorem dX6_init_5 : decode cX6_init 5 = .ok (.bipush 16, 2) := by decide +kernel
theorem dX6_init_7 : decode cX6_init 7 = .ok (.putfield 7, 3) := by decide +kernel
theorem dX6_init_10 : decode cX6_init 10 = .ok (.aload_n 0, 1) := by decide +kernel
theorem dX6_init_11 : decode cX6_init 11 = .ok (.iconst 4, 1) := by decide +kernel
theorem dX6_init_12 : decode cX6_init 12 = .ok (.putfield 13, 3) := by decide +kernel
theorem dX6_init_15 : decode cX6_init 15 = .ok (.aload_n 0, 1) := by decide +kernel
theorem dX6_init_16 : decode cX6_init 16 = .ok (.iconst 2, 1) := by decide +kernel
theorem dX6_init_17 : decode cX6_init 17 = .ok (.putfield 16, 3) := by decide +kernel
theorem dX6_init_20 : decode cX6_init 20 = .ok (.aload_n 0, 1) := by decide +kernel
theorem dX6_init_21 : decode cX6_init 21 = .ok (.bipush 60, 2) := by decide +kernel
theorem dX6_init_23 : decode cX6_init 23 = .ok (.putfield 19, 3) := by decide +kernel
theorem dX6_init_26 : decode cX6_init 26 = .ok (.aload_n 0, 1) := by decide +kernel
theorem dX6_init_27 : decode cX6_init 27 = .ok (.bipush 27, 2) := by decide +kernel
theorem dX6_init_29 : decode cX6_init 29 = .ok (.newarray .int, 2) := by decide +kernel
theorem dX6_init_31 : decode cX6_init 31 = .ok (.putfield 22, 3) := by decide +kernel
theorem dX6_init_34 : decode cX6_init 34 = .ok (.aload_n 0, 1) := by decide +kernel
theorem dX6_init_35 : decode cX6_init 35 = .ok (.sipush 162, 3) := by decide +kernel
theorem dX6_init_38 : decode cX6_init 38 = .ok (.newarray .int, 2) := by decide +kernel
theorem dX6_init_40 : decode cX6_init 40 = .ok (.putfield 26, 3) := by decide +kernel
theorem dX6_init_43 : decode cX6_init 43 = .ok (.aload_n 0, 1) := by decide +kernel
theorem dX6_init_44 : decode cX6_init 44 = .ok (.bipush 32, 2) := by decide +kernel
theorem dX6_init_46 : decode cX6_init 46 = .ok (.newarray .int, 2) := by decide +kernel
theorem dX6_init_48 : decode cX6_init 48 = .ok (.putfield 29, 3) := by decide +kernel
theorem dX6_init_51 : decode cX6_init 51 = .ok (.aload_n 0, 1) := by decide +kernel
theorem dX6_init_52 : decode cX6_init 52 = .ok (.bipush 12, 2) := by decide +kernel
theorem dX6_init_54 : decode cX6_init 54 = .ok (.newarray .int, 2) := by decide +kernel
theorem dX6_init_56 : decode cX6_init 56 = .ok (.putfield 32, 3) := by decide +kernel
end
section
theorem dX6_init_59 : decode cX6_init 59 = .ok (.aload_n 0, 1) := by decide +kernel
theorem dX6_init_60 : decode cX6_init 60 = .ok (.bipush 6, 2) := by decide +kernel
theorem dX6_init_62 : decode cX6_init 62 = .ok (.newarray .int, 2) := by decide +kernel
theorem dX6_init_64 : decode cX6_init 64 = .ok (.putfield 35, 3) := by decide +kernel
theorem dX6_init_67 : decode cX6_init 67 = .ok (.aload_n 0, 1) := by decide +kernel
theorem dX6_init_68 : decode cX6_init 68 = .ok (.bipush 6, 2) := by decide +kernel
theorem dX6_init_70 : decode cX6_init 70 = .ok (.newarray .int, 2) := by decide +kernel
theorem dX6_init_72 : decode cX6_init 72 = .ok (.putfield 38, 3) := by decide +kernel
theorem dX6_init_75 : decode cX6_init 75 = .ok (.aload_n 0, 1) := by decide +kernel
theorem dX6_init_76 : decode cX6_init 76 = .ok (.bipush 72, 2) := by decide +kernel
theorem dX6_init_78 : decode cX6_init 78 = .ok (.newarray .int, 2) := by decide +kernel
theorem dX6_init_80 : decode cX6_init 80 = .ok (.putfield 41, 3) := by decide +kernel
theorem dX6_init_83 : decode cX6_init 83 = .ok (.aload_n 0, 1) := by decide +kernel
theorem dX6_init_84 : decode cX6_init 84 = .ok (.sipush 600, 3) := by decide +kernel
theorem dX6_init_87 : decode cX6_init 87 = .ok (.newarray .int, 2) := by decide +kernel
theorem dX6_init_89 : decode cX6_init 89 = .ok (.putfield 44, 3) := by decide +kernel
theorem dX6_init_92 : decode cX6_init 92 = .ok (.aload_n 0, 1) := by decide +kernel
theorem dX6_init_93 : decode cX6_init 93 = .ok (.sipush 600, 3) := by decide +kernel
theorem dX6_init_96 : decode cX6_init 96 = .ok (.newarray .int, 2) := by decide +kernel
theorem dX6_init_98 : decode cX6_init 98 = .ok (.putfield 47, 3) := by decide +kernel
theorem dX6_init_101 : decode cX6_init 101 = .ok (.iconst 0, 1) := by decide +kernel
theorem dX6_init_102 : decode cX6_init 102 = .ok (.istore_n 1, 1) := by decide +kernel
theorem dX6_init_103 : decode cX6_init 103 = .ok (.iload_n 1, 1) := by decide +kernel
theorem dX6_init_104 : decode cX6_init 104 = .ok (.bipush 26, 2) := by decide +kernel
theorem dX6_init_106 : decode cX6_init 106 = .ok (.if_icmp .ge 68, 3) := by decide +kernel
theorem dX6_init_109 : decode cX6_init 109 = .ok (.aload_n 0, 1) := by decide +kernel
theorem dX6_init_110 : decode cX6_init 110 = .ok (.getfield 22, 3) := by decide +kernel
theorem dX6_init_113 : decode cX6_init 113 = .ok (.iload_n 1, 1) := by decide +kernel
theorem dX6_init_114 : decode cX6_init 114 = .ok (.iconst 3, 1) := by decide +kernel
theorem dX6_init_115 : decode cX6_init 115 = .ok (.iload_n 1, 1) := by decide +kernel
theorem dX6_init_116 : decode cX6_init 116 = .ok (.iconst 3, 1) := by decide +kernel
theorem dX6_init_117 : decode cX6_init 117 = .ok (.irem, 1) := by decide +kernel
theorem dX6_init_118 : decode cX6_init 118 = .ok (.iadd, 1) := by decide +kernel
theorem dX6_init_119 : decode cX6_init 119 = .ok (.iastore, 1) := by decide +kernel
theorem dX6_init_120 : decode cX6_init 120 = .ok (.iconst 0, 1) := by decide +kernel
theorem dX6_init_121 : decode cX6_init 121 = .ok (.istore_n 2, 1) := by decide +kernel
theorem dX6_init_122 : decode cX6_init 122 = .ok (.iload_n 2, 1) := by decide +kernel
theorem dX6_init_123 : decode cX6_init 123 = .ok (.aload_n 0, 1) := by decide +kernel
theorem dX6_init_124 : decode cX6_init 124 = .ok (.getfield 22, 3) := by decide +kernel
theorem dX6_init_127 : decode cX6_init 127 = .ok (.iload_n 1, 1) := by decide +kernel
theorem dX6_init_128 : decode cX6_init 128 = .ok (.iaload, 1) := by decide +kernel
theorem dX6_init_129 : decode cX6_init 129 = .ok (.if_icmp .ge 39, 3) := by decide +kernel
theorem dX6_init_132 : decode cX6_init 132 = .ok (.aload_n 0, 1) := by decide +kernel
theorem dX6_init_133 : decode cX6_init 133 = .ok (.getfield 26, 3) := by decide +kernel
theorem dX6_init_136 : decode cX6_init 136 = .ok (.bipush 6, 2) := by decide +kernel
theorem dX6_init_138 : decode cX6_init 138 = .ok (.iload_n 1, 1) := by decide +kernel
theorem dX6_init_139 : decode cX6_init 139 = .ok (.imul, 1) := by decide +kernel
theorem dX6_init_140 : decode cX6_init 140 = .ok (.iload_n 2, 1) := by decide +kernel
theorem dX6_init_141 : decode cX6_init 141 = .ok (.iadd, 1) := by decide +kernel
theorem dX6_init_142 : decode cX6_init 142 = .ok (.iload_n 1, 1) := by decide +kernel
theorem dX6_init_143 : decode cX6_init 143 = .ok (.iconst 1, 1) := by decide +kernel
theorem dX6_init_144 : decode cX6_init 144 = .ok (.iadd, 1) := by decide +kernel
theorem dX6_init_145 : decode cX6_init 145 = .ok (.iload_n 2, 1) := by decide +kernel
theorem dX6_init_146 : decode cX6_init 146 = .ok (.iconst 2, 1) := by decide +kernel
theorem dX6_init_147 : decode cX6_init 147 = .ok (.iadd, 1) := by decide +kernel
theorem dX6_init_148 : decode cX6_init 148 = .ok (.imul, 1) := by decide +kernel
theorem dX6_init_149 : decode cX6_init 149 = .ok (.bipush 29, 2) := by decide +kernel
theorem dX6_init_151 : decode cX6_init 151 = .ok (.imul, 1) := by decide +kernel
theorem dX6_init_152 : decode cX6_init 152 = .ok (.bipush 17, 2) := by decide +kernel
theorem dX6_init_154 : decode cX6_init 154 = .ok (.iload_n 2, 1) := by decide +kernel
theorem dX6_init_155 : decode cX6_init 155 = .ok (.imul, 1) := by decide +kernel
theorem dX6_init_156 : decode cX6_init 156 = .ok (.iadd, 1) := by decide +kernel
theorem dX6_init_157 : decode cX6_init 157 = .ok (.sipush 256, 3) := by decide +kernel
theorem dX6_init_160 : decode cX6_init 160 = .ok (.irem, 1) := by decide +kernel
theorem dX6_init_161 : decode cX6_init 161 = .ok (.iastore, 1) := by decide +kernel
theorem dX6_init_162 : decode cX6_init 162 = .ok (.iinc 2 1, 3) := by decide +kernel
theorem dX6_init_165 : decode cX6_init 165 = .ok (.goto (-43), 3) := by decide +kernel
theorem dX6_init_168 : decode cX6_init 168 = .ok (.iinc 1 1, 3) := by decide +kernel
theorem dX6_init_171 : decode cX6_init 171 = .ok (.goto (-68), 3) := by decide +kernel
theorem dX6_init_174 : decode cX6_init 174 = .ok (.aload_n 0, 1) := by decide +kernel
theorem dX6_init_175 : decode cX6_init 175 = .ok (.getfield 22, 3) := by decide +kernel
theorem dX6_init_178 : decode cX6_init 178 = .ok (.bipush 26, 2) := by decide +kernel
theorem dX6_init_180 : decode cX6_init 180 = .ok (.iconst 2, 1) := by decide +kernel
theorem dX6_init_181 : decode cX6_init 181 = .ok (.iastore, 1) := by decide +kernel
theorem dX6_init_182 : decode cX6_init 182 = .ok (.return_, 1) := by decide +kernel
theorem dX6_in_0 : decode cX6_in 0 = .ok (.iload_n 0, 1) := by decide +kernel
theorem dX6_in_1 : decode cX6_in 1 = .ok (.iload_n 1, 1) := by decide +kernel
theorem dX6_in_2 : decode cX6_in 2 = .ok (.if_icmp .lt 12, 3) := by decide +kernel
theorem dX6_in_5 : decode cX6_in 5 = .ok (.iload_n 0, 1) := by decide +kernel
theorem dX6_in_6 : decode cX6_in 6 = .ok (.iload_n 2, 1) := by decide +kernel
theorem dX6_in_7 : decode cX6_in 7 = .ok (.if_icmp .gt 7, 3) := by decide +kernel
theorem dX6_in_10 : decode cX6_in 10 = .ok (.iconst 1, 1) := by decide +kernel
theorem dX6_in_11 : decode cX6_in 11 = .ok (.goto 4, 3) := by decide +kernel
theorem dX6_in_14 : decode cX6_in 14 = .ok (.iconst 0, 1) := by decide +kernel
theorem dX6_in_15 : decode cX6_in 15 = .ok (.ireturn, 1) := by decide +kernel
theorem dX6_has_0 : decode cX6_has 0 = .ok (.iload_n 1, 1) := by decide +kernel
theorem dX6_has_1 : decode cX6_has 1 = .ok (.ifCond .lt 16, 3) := by decide +kernel
theorem dX6_has_4 : decode cX6_has 4 = .ok (.iload_n 0, 1) := by decide +kernel
theorem dX6_has_5 : decode cX6_has 5 = .ok (.iload_n 1, 1) := by decide +kernel
theorem dX6_has_6 : decode cX6_has 6 = .ok (.ishr, 1) := by decide +kernel
theorem dX6_has_7 : decode cX6_has 7 = .ok (.iconst 1, 1) := by decide +kernel
theorem dX6_has_8 : decode cX6_has 8 = .ok (.iand, 1) := by decide +kernel
theorem dX6_has_9 : decode cX6_has 9 = .ok (.iconst 1, 1) := by decide +kernel
theorem dX6_has_10 : decode cX6_has 10 = .ok (.if_icmp .ne 7, 3) := by decide +kernel
theorem dX6_has_13 : decode cX6_has 13 = .ok (.iconst 1, 1) := by decide +kernel
theorem dX6_has_14 : decode cX6_has 14 = .ok (.goto 4, 3) := by decide +kernel
theorem dX6_has_17 : decode cX6_has 17 = .ok (.iconst 0, 1) := by decide +kernel
theorem dX6_has_18 : decode cX6_has 18 = .ok (.ireturn, 1) := by decide +kernel
theorem dX6_widthOf_0 : decode cX6_widthOf 0 = .ok (.aload_n 0, 1) := by decide +kernel
theorem dX6_widthOf_1 : decode cX6_widthOf 1 = .ok (.getfield 35, 3) := by decide +kernel
theorem dX6_widthOf_4 : decode cX6_widthOf 4 = .ok (.iload_n 1, 1) := by decide +kernel
theorem dX6_widthOf_5 : decode cX6_widthOf 5 = .ok (.iaload, 1) := by decide +kernel
theorem dX6_widthOf_6 : decode cX6_widthOf 6 = .ok (.iconst 1, 1) := by decide +kernel
theorem dX6_widthOf_7 : decode cX6_widthOf 7 = .ok (.isub, 1) := by decide +kernel
theorem dX6_widthOf_8 : decode cX6_widthOf 8 = .ok (.istore_n 2, 1) := by decide +kernel
theorem dX6_widthOf_9 : decode cX6_widthOf 9 = .ok (.iconst 0, 1) := by decide +kernel
theorem dX6_widthOf_10 : decode cX6_widthOf 10 = .ok (.istore_n 3, 1) := by decide +kernel
theorem dX6_widthOf_11 : decode cX6_widthOf 11 = .ok (.iload_n 3, 1) := by decide +kernel
theorem dX6_widthOf_12 : decode cX6_widthOf 12 = .ok (.aload_n 0, 1) := by decide +kernel
theorem dX6_widthOf_13 : decode cX6_widthOf 13 = .ok (.getfield 35, 3) := by decide +kernel
theorem dX6_widthOf_16 : decode cX6_widthOf 16 = .ok (.iload_n 1, 1) := by decide +kernel
theorem dX6_widthOf_17 : decode cX6_widthOf 17 = .ok (.iaload, 1) := by decide +kernel
theorem dX6_widthOf_18 : decode cX6_widthOf 18 = .ok (.if_icmp .ge 28, 3) := by decide +kernel
theorem dX6_widthOf_21 : decode cX6_widthOf 21 = .ok (.iload_n 2, 1) := by decide +kernel
theorem dX6_widthOf_22 : decode cX6_widthOf 22 = .ok (.aload_n 0, 1) := by decide +kernel
theorem dX6_widthOf_23 : decode cX6_widthOf 23 = .ok (.getfield 22, 3) := by decide +kernel
theorem dX6_widthOf_26 : decode cX6_widthOf 26 = .ok (.aload_n 0, 1) := by decide +kernel
theorem dX6_widthOf_27 : decode cX6_widthOf 27 = .ok (.getfield 41, 3) := by decide +kernel
theorem dX6_widthOf_30 : decode cX6_widthOf 30 = .ok (.bipush 12, 2) := by decide +kernel
theorem dX6_widthOf_32 : decode cX6_widthOf 32 = .ok (.iload_n 1, 1) := by decide +kernel
theorem dX6_widthOf_33 : decode cX6_widthOf 33 = .ok (.imul, 1) := by decide +kernel
theorem dX6_widthOf_34 : decode cX6_widthOf 34 = .ok (.iload_n 3, 1) := by decide +kernel
theorem dX6_widthOf_35 : decode cX6_widthOf 35 = .ok (.iadd, 1) := by decide +kernel
theorem dX6_widthOf_36 : decode cX6_widthOf 36 = .ok (.iaload, 1) := by decide +kernel
theorem dX6_widthOf_37 : decode cX6_widthOf 37 = .ok (.iaload, 1) := by decide +kernel
theorem dX6_widthOf_38 : decode cX6_widthOf 38 = .ok (.iadd, 1) := by decide +kernel
theorem dX6_widthOf_39 : decode cX6_widthOf 39 = .ok (.istore_n 2, 1) := by decide +kernel
theorem dX6_widthOf_40 : decode cX6_widthOf 40 = .ok (.iinc 3 1, 3) := by decide +kernel
theorem dX6_widthOf_43 : decode cX6_widthOf 43 = .ok (.goto (-32), 3) := by decide +kernel
theorem dX6_widthOf_46 : decode cX6_widthOf 46 = .ok (.iload_n 2, 1) := by decide +kernel
theorem dX6_widthOf_47 : decode cX6_widthOf 47 = .ok (.ireturn, 1) := by decide +kernel
set_option maxRecDepth 20000 in
theorem ggX6_startOf_X6_widthOf : GoodIn wsX6_startOf wsX6_widthOf := goodIn_r _ [6, 7, 8, 9, 10, 11, 12, 13, 14, 15, 16, 17, 18, 19, 20, 21, 22, 23, 24, 25, 26, 27, 28] (by decide +kernel) (by decide +kernel)
set_option maxRecDepth 20000 in
theorem gX6_startOf_X6_widthOf : GoodIn wsX6_startOf (wsV RX6 50 RX6 yX6_widthOf wsX6_widthOf) := goodIn_app (goodIn_of _ (by decide +kernel)) ggX6_startOf_X6_widthOf
theorem dX6_startOf_0 : decode cX6_startOf 0 = .ok (.iconst 0, 1) := by decide +kernel
theorem dX6_startOf_1 : decode cX6_startOf 1 = .ok (.istore_n 2, 1) := by decide +kernel
theorem dX6_startOf_2 : decode cX6_startOf 2 = .ok (.iconst 0, 1) := by decide +kernel
theorem dX6_startOf_3 : decode cX6_startOf 3 = .ok (.istore_n 3, 1) := by decide +kernel
theorem dX6_startOf_4 : decode cX6_startOf 4 = .ok (.iload_n 3, 1) := by decide +kernel
theorem dX6_startOf_5 : decode cX6_startOf 5 = .ok (.iload_n 1, 1) := by decide +kernel
theorem dX6_startOf_6 : decode cX6_startOf 6 = .ok (.if_icmp .ge 22, 3) := by decide +kernel
theorem dX6_startOf_9 : decode cX6_startOf 9 = .ok (.iload_n 2, 1) := by decide +kernel
theorem dX6_startOf_10 : decode cX6_startOf 10 = .ok (.aload_n 0, 1) := by decide +kernel
theorem dX6_startOf_11 : decode cX6_startOf 11 = .ok (.iload_n 3, 1) := by decide +kernel
theorem dX6_startOf_12 : decode cX6_startOf 12 = .ok (.invokevirtual 50, 3) := by decide +kernel
theorem dX6_startOf_15 : decode cX6_startOf 15 = .ok (.aload_n 0, 1) := by decide +kernel
theorem dX6_startOf_16 : decode cX6_startOf 16 = .ok (.getfield 13, 3) := by decide +kernel
theorem dX6_startOf_19 : decode cX6_startOf 19 = .ok (.iadd, 1) := by decide +kernel
theorem dX6_startOf_20 : decode cX6_startOf 20 = .ok (.iadd, 1) := by decide +kernel
theorem dX6_startOf_21 : decode cX6_startOf 21 = .ok (.istore_n 2, 1) := by decide +kernel
theorem dX6_startOf_22 : decode cX6_startOf 22 = .ok (.iinc 3 1, 3) := by decide +kernel
theorem dX6_startOf_25 : decode cX6_startOf 25 = .ok (.goto (-21), 3) := by decide +kernel
theorem dX6_startOf_28 : decode cX6_startOf 28 = .ok (.iload_n 2, 1) := by decide +kernel
theorem dX6_startOf_29 : decode cX6_startOf 29 = .ok (.ireturn, 1) := by decide +kernel
set_option maxRecDepth 20000 in
theorem ggX6_all_X6_startOf : GoodIn wsX6_all wsX6_startOf := goodIn_r _ [6, 7, 8, 9, 10, 5, 11, 12, 13, 14, 15, 16, 17, 18, 19, 20, 21, 22, 23, 24, 25, 26, 27, 28, 29, 30, 31, 32, 33] (by decide +kernel) (by decide +kernel)
set_option maxRecDepth 20000 in
theorem gX6_all_X6_startOf : GoodIn wsX6_all (wsV RX6 57 RX6 yX6_startOf wsX6_startOf) := goodIn_app (goodIn_of _ (by decide +kernel)) ggX6_all_X6_startOf
theorem dX6_all_0 : decode cX6_all 0 = .ok (.aload_n 0, 1) := by decide +kernel
theorem dX6_all_1 : decode cX6_all 1 = .ok (.aload_n 0, 1) := by decide +kernel
theorem dX6_all_2 : decode cX6_all 2 = .ok (.getfield 54, 3) := by decide +kernel
theorem dX6_all_5 : decode cX6_all 5 = .ok (.invokevirtual 57, 3) := by decide +kernel
theorem dX6_all_8 : decode cX6_all 8 = .ok (.ireturn, 1) := by decide +kernel
set_option maxRecDepth 20000 in
theorem ggX6_settles_X6_all : GoodIn wsX6_settles wsX6_all := goodIn_r _ [6, 7, 8, 9, 10, 5, 11, 12, 13, 14, 15, 16, 17, 18, 19, 20, 21, 22, 23, 24, 25, 26, 27, 28, 29, 30, 31, 32, 33, 34, 35, 36, 37, 38] (by decide +kernel) (by decide +kernel)
set_option maxRecDepth 20000 in
theorem gX6_settles_X6_all : GoodIn wsX6_settles (wsV RX6 60 RX6 yX6_all wsX6_all) := goodIn_app (goodIn_of _ (by decide +kernel)) ggX6_settles_X6_all
theorem dX6_settles_0 : decode cX6_settles 0 = .ok (.aload_n 0, 1) := by decide +kernel
theorem dX6_settles_1 : decode cX6_settles 1 = .ok (.invokevirtual 60, 3) := by decide +kernel
theorem dX6_settles_4 : decode cX6_settles 4 = .ok (.istore_n 1, 1) := by decide +kernel
theorem dX6_settles_5 : decode cX6_settles 5 = .ok (.aload_n 0, 1) := by decide +kernel
theorem dX6_settles_6 : decode cX6_settles 6 = .ok (.aload_n 0, 1) := by decide +kernel
theorem dX6_settles_7 : decode cX6_settles 7 = .ok (.getfield 64, 3) := by decide +kernel
theorem dX6_settles_10 : decode cX6_settles 10 = .ok (.iload_n 1, 1) := by decide +kernel
theorem dX6_settles_11 : decode cX6_settles 11 = .ok (.if_icmp .ge 10, 3) := by decide +kernel
theorem dX6_settles_14 : decode cX6_settles 14 = .ok (.aload_n 0, 1) := by decide +kernel
theorem dX6_settles_15 : decode cX6_settles 15 = .ok (.getfield 64, 3) := by decide +kernel
theorem dX6_settles_18 : decode cX6_settles 18 = .ok (.goto 4, 3) := by decide +kernel
theorem dX6_settles_21 : decode cX6_settles 21 = .ok (.iconst 0, 1) := by decide +kernel
theorem dX6_settles_22 : decode cX6_settles 22 = .ok (.putfield 64, 3) := by decide +kernel
theorem dX6_settles_25 : decode cX6_settles 25 = .ok (.iload_n 1, 1) := by decide +kernel
theorem dX6_settles_26 : decode cX6_settles 26 = .ok (.ireturn, 1) := by decide +kernel
theorem dX6_dark_0 : decode cX6_dark 0 = .ok (.aload_n 0, 1) := by decide +kernel
theorem dX6_dark_1 : decode cX6_dark 1 = .ok (.getfield 44, 3) := by decide +kernel
theorem dX6_dark_4 : decode cX6_dark 4 = .ok (.aload_n 0, 1) := by decide +kernel
theorem dX6_dark_5 : decode cX6_dark 5 = .ok (.getfield 67, 3) := by decide +kernel
theorem dX6_dark_8 : decode cX6_dark 8 = .ok (.iconst 0, 1) := by decide +kernel
theorem dX6_dark_9 : decode cX6_dark 9 = .ok (.iastore, 1) := by decide +kernel
theorem dX6_dark_10 : decode cX6_dark 10 = .ok (.aload_n 0, 1) := by decide +kernel
theorem dX6_dark_11 : decode cX6_dark 11 = .ok (.getfield 47, 3) := by decide +kernel
theorem dX6_dark_14 : decode cX6_dark 14 = .ok (.aload_n 0, 1) := by decide +kernel
theorem dX6_dark_15 : decode cX6_dark 15 = .ok (.getfield 67, 3) := by decide +kernel
theorem dX6_dark_18 : decode cX6_dark 18 = .ok (.iconst 0, 1) := by decide +kernel
theorem dX6_dark_19 : decode cX6_dark 19 = .ok (.iastore, 1) := by decide +kernel
theorem dX6_dark_20 : decode cX6_dark 20 = .ok (.aload_n 0, 1) := by decide +kernel
theorem dX6_dark_21 : decode cX6_dark 21 = .ok (.dup, 1) := by decide +kernel
theorem dX6_dark_22 : decode cX6_dark 22 = .ok (.getfield 67, 3) := by decide +kernel
theorem dX6_dark_25 : decode cX6_dark 25 = .ok (.iconst 1, 1) := by decide +kernel
theorem dX6_dark_26 : decode cX6_dark 26 = .ok (.iadd, 1) := by decide +kernel
theorem dX6_dark_27 : decode cX6_dark 27 = .ok (.putfield 67, 3) := by decide +kernel
theorem dX6_dark_30 : decode cX6_dark 30 = .ok (.return_, 1) := by decide +kernel
set_option maxRecDepth 20000 in
theorem ggX6_draws_X6_dark : GoodIn wsX6_draws wsX6_dark := goodIn_r _ [15, 6, 1, 8, 16, 17, 18, 19, 20, 21, 22, 23, 24, 25, 26, 27, 28, 29, 30, 31, 32, 33, 34] (by decide +kernel) (by decide +kernel)
set_option maxRecDepth 20000 in
theorem gX6_draws_X6_dark : GoodIn wsX6_draws (wsV RX6 70 RX6 yX6_dark wsX6_dark) := goodIn_app (goodIn_of _ (by decide +kernel)) ggX6_draws_X6_dark
theorem dX6_draws_0 : decode cX6_draws 0 = .ok (.aload_n 0, 1) := by decide +kernel
theorem dX6_draws_1 : decode cX6_draws 1 = .ok (.iconst 0, 1) := by decide +kernel
theorem dX6_draws_2 : decode cX6_draws 2 = .ok (.putfield 67, 3) := by decide +kernel
theorem dX6_draws_5 : decode cX6_draws 5 = .ok (.iconst 0, 1) := by decide +kernel
theorem dX6_draws_6 : decode cX6_draws 6 = .ok (.istore_n 1, 1) := by decide +kernel
theorem dX6_draws_7 : decode cX6_draws 7 = .ok (.iload_n 1, 1) := by decide +kernel
theorem dX6_draws_8 : decode cX6_draws 8 = .ok (.aload_n 0, 1) := by decide +kernel
theorem dX6_draws_9 : decode cX6_draws 9 = .ok (.getfield 54, 3) := by decide +kernel
theorem dX6_draws_12 : decode cX6_draws 12 = .ok (.if_icmp .ge 133, 3) := by decide +kernel
theorem dX6_draws_15 : decode cX6_draws 15 = .ok (.iconst 0, 1) := by decide +kernel
theorem dX6_draws_16 : decode cX6_draws 16 = .ok (.istore_n 2, 1) := by decide +kernel
theorem dX6_draws_17 : decode cX6_draws 17 = .ok (.iload_n 2, 1) := by decide +kernel
theorem dX6_draws_18 : decode cX6_draws 18 = .ok (.aload_n 0, 1) := by decide +kernel
theorem dX6_draws_19 : decode cX6_draws 19 = .ok (.getfield 35, 3) := by decide +kernel
theorem dX6_draws_22 : decode cX6_draws 22 = .ok (.iload_n 1, 1) := by decide +kernel
theorem dX6_draws_23 : decode cX6_draws 23 = .ok (.iaload, 1) := by decide +kernel
theorem dX6_draws_24 : decode cX6_draws 24 = .ok (.if_icmp .ge 95, 3) := by decide +kernel
theorem dX6_draws_27 : decode cX6_draws 27 = .ok (.aload_n 0, 1) := by decide +kernel
theorem dX6_draws_28 : decode cX6_draws 28 = .ok (.getfield 41, 3) := by decide +kernel
theorem dX6_draws_31 : decode cX6_draws 31 = .ok (.bipush 12, 2) := by decide +kernel
theorem dX6_draws_33 : decode cX6_draws 33 = .ok (.iload_n 1, 1) := by decide +kernel
theorem dX6_draws_34 : decode cX6_draws 34 = .ok (.imul, 1) := by decide +kernel
theorem dX6_draws_35 : decode cX6_draws 35 = .ok (.iload_n 2, 1) := by decide +kernel
theorem dX6_draws_36 : decode cX6_draws 36 = .ok (.iadd, 1) := by decide +kernel
theorem dX6_draws_37 : decode cX6_draws 37 = .ok (.iaload, 1) := by decide +kernel
theorem dX6_draws_38 : decode cX6_draws 38 = .ok (.istore_n 3, 1) := by decide +kernel
theorem dX6_draws_39 : decode cX6_draws 39 = .ok (.iload_n 2, 1) := by decide +kernel
theorem dX6_draws_40 : decode cX6_draws 40 = .ok (.ifCond .le 7, 3) := by decide +kernel
theorem dX6_draws_43 : decode cX6_draws 43 = .ok (.aload_n 0, 1) := by decide +kernel
theorem dX6_draws_44 : decode cX6_draws 44 = .ok (.invokevirtual 70, 3) := by decide +kernel
theorem dX6_draws_47 : decode cX6_draws 47 = .ok (.iconst 0, 1) := by decide +kernel
theorem dX6_draws_48 : decode cX6_draws 48 = .ok (.istore 4, 2) := by decide +kernel
theorem dX6_draws_50 : decode cX6_draws 50 = .ok (.iload 4, 2) := by decide +kernel
theorem dX6_draws_52 : decode cX6_draws 52 = .ok (.aload_n 0, 1) := by decide +kernel
theorem dX6_draws_53 : decode cX6_draws 53 = .ok (.getfield 22, 3) := by decide +kernel
theorem dX6_draws_56 : decode cX6_draws 56 = .ok (.iload_n 3, 1) := by decide +kernel
theorem dX6_draws_57 : decode cX6_draws 57 = .ok (.iaload, 1) := by decide +kernel
theorem dX6_draws_58 : decode cX6_draws 58 = .ok (.if_icmp .ge 55, 3) := by decide +kernel
theorem dX6_draws_61 : decode cX6_draws 61 = .ok (.aload_n 0, 1) := by decide +kernel
theorem dX6_draws_62 : decode cX6_draws 62 = .ok (.getfield 44, 3) := by decide +kernel
theorem dX6_draws_65 : decode cX6_draws 65 = .ok (.aload_n 0, 1) := by decide +kernel
theorem dX6_draws_66 : decode cX6_draws 66 = .ok (.getfield 67, 3) := by decide +kernel
theorem dX6_draws_69 : decode cX6_draws 69 = .ok (.aload_n 0, 1) := by decide +kernel
theorem dX6_draws_70 : decode cX6_draws 70 = .ok (.getfield 26, 3) := by decide +kernel
theorem dX6_draws_73 : decode cX6_draws 73 = .ok (.bipush 6, 2) := by decide +kernel
theorem dX6_draws_75 : decode cX6_draws 75 = .ok (.iload_n 3, 1) := by decide +kernel
theorem dX6_draws_76 : decode cX6_draws 76 = .ok (.imul, 1) := by decide +kernel
theorem dX6_draws_77 : decode cX6_draws 77 = .ok (.iload 4, 2) := by decide +kernel
theorem dX6_draws_79 : decode cX6_draws 79 = .ok (.iadd, 1) := by decide +kernel
theorem dX6_draws_80 : decode cX6_draws 80 = .ok (.iaload, 1) := by decide +kernel
theorem dX6_draws_81 : decode cX6_draws 81 = .ok (.iastore, 1) := by decide +kernel
theorem dX6_draws_82 : decode cX6_draws 82 = .ok (.aload_n 0, 1) := by decide +kernel
theorem dX6_draws_83 : decode cX6_draws 83 = .ok (.getfield 47, 3) := by decide +kernel
theorem dX6_draws_86 : decode cX6_draws 86 = .ok (.aload_n 0, 1) := by decide +kernel
theorem dX6_draws_87 : decode cX6_draws 87 = .ok (.getfield 67, 3) := by decide +kernel
theorem dX6_draws_90 : decode cX6_draws 90 = .ok (.aload_n 0, 1) := by decide +kernel
theorem dX6_draws_91 : decode cX6_draws 91 = .ok (.getfield 38, 3) := by decide +kernel
theorem dX6_draws_94 : decode cX6_draws 94 = .ok (.iload_n 1, 1) := by decide +kernel
theorem dX6_draws_95 : decode cX6_draws 95 = .ok (.iaload, 1) := by decide +kernel
theorem dX6_draws_96 : decode cX6_draws 96 = .ok (.iastore, 1) := by decide +kernel
theorem dX6_draws_97 : decode cX6_draws 97 = .ok (.aload_n 0, 1) := by decide +kernel
theorem dX6_draws_98 : decode cX6_draws 98 = .ok (.dup, 1) := by decide +kernel
theorem dX6_draws_99 : decode cX6_draws 99 = .ok (.getfield 67, 3) := by decide +kernel
theorem dX6_draws_102 : decode cX6_draws 102 = .ok (.iconst 1, 1) := by decide +kernel
theorem dX6_draws_103 : decode cX6_draws 103 = .ok (.iadd, 1) := by decide +kernel
theorem dX6_draws_104 : decode cX6_draws 104 = .ok (.putfield 67, 3) := by decide +kernel
theorem dX6_draws_107 : decode cX6_draws 107 = .ok (.iinc 4 1, 3) := by decide +kernel
theorem dX6_draws_110 : decode cX6_draws 110 = .ok (.goto (-60), 3) := by decide +kernel
theorem dX6_draws_113 : decode cX6_draws 113 = .ok (.iinc 2 1, 3) := by decide +kernel
theorem dX6_draws_116 : decode cX6_draws 116 = .ok (.goto (-99), 3) := by decide +kernel
theorem dX6_draws_119 : decode cX6_draws 119 = .ok (.iconst 0, 1) := by decide +kernel
theorem dX6_draws_120 : decode cX6_draws 120 = .ok (.istore_n 2, 1) := by decide +kernel
theorem dX6_draws_121 : decode cX6_draws 121 = .ok (.iload_n 2, 1) := by decide +kernel
theorem dX6_draws_122 : decode cX6_draws 122 = .ok (.aload_n 0, 1) := by decide +kernel
theorem dX6_draws_123 : decode cX6_draws 123 = .ok (.getfield 13, 3) := by decide +kernel
theorem dX6_draws_126 : decode cX6_draws 126 = .ok (.if_icmp .ge 13, 3) := by decide +kernel
theorem dX6_draws_129 : decode cX6_draws 129 = .ok (.aload_n 0, 1) := by decide +kernel
theorem dX6_draws_130 : decode cX6_draws 130 = .ok (.invokevirtual 70, 3) := by decide +kernel
theorem dX6_draws_133 : decode cX6_draws 133 = .ok (.iinc 2 1, 3) := by decide +kernel
theorem dX6_draws_136 : decode cX6_draws 136 = .ok (.goto (-15), 3) := by decide +kernel
theorem dX6_draws_139 : decode cX6_draws 139 = .ok (.iinc 1 1, 3) := by decide +kernel
theorem dX6_draws_142 : decode cX6_draws 142 = .ok (.goto (-135), 3) := by decide +kernel
theorem dX6_draws_145 : decode cX6_draws 145 = .ok (.return_, 1) := by decide +kernel
set_option maxRecDepth 20000 in
theorem ggX6_setGlyphWidth_X6_in : GoodIn wsX6_setGlyphWidth wsX6_in := goodIn_r _ [6] (by decide +kernel) (by decide +kernel)
set_option maxRecDepth 20000 in
theorem gX6_setGlyphWidth_X6_in : GoodIn wsX6_setGlyphWidth (va_wsS RX6 73 yX6_in wsX6_in) := goodIn_app (goodIn_of _ (by decide +kernel)) ggX6_setGlyphWidth_X6_in
set_option maxRecDepth 20000 in
theorem ggX6_setGlyphWidth_X6_settles : GoodIn wsX6_setGlyphWidth wsX6_settles := goodIn_r _ [10, 11, 12, 13, 14, 5, 15, 16, 17, 18, 19, 20, 21, 22, 23, 24, 25, 26, 1, 27, 28, 29, 30, 31, 32, 33, 34, 35, 36, 37, 38, 39, 40, 41, 42, 43, 44, 45, 46] (by decide +kernel) (by decide +kernel)
set_option maxRecDepth 20000 in
theorem gX6_setGlyphWidth_X6_settles : GoodIn wsX6_setGlyphWidth (wsV RX6 77 RX6 yX6_settles wsX6_settles) := goodIn_app (goodIn_of _ (by decide +kernel)) ggX6_setGlyphWidth_X6_settles
theorem dX6_setGlyphWidth_0 : decode cX6_setGlyphWidth 0 = .ok (.iload_n 1, 1) := by decide +kernel
theorem dX6_setGlyphWidth_1 : decode cX6_setGlyphWidth 1 = .ok (.iconst 0, 1) := by decide +kernel
theorem dX6_setGlyphWidth_2 : decode cX6_setGlyphWidth 2 = .ok (.bipush 26, 2) := by decide +kernel
theorem dX6_setGlyphWidth_4 : decode cX6_setGlyphWidth 4 = .ok (.invokestatic 73, 3) := by decide +kernel
theorem dX6_setGlyphWidth_7 : decode cX6_setGlyphWidth 7 = .ok (.ifCond .eq 13, 3) := by decide +kernel
theorem dX6_setGlyphWidth_10 : decode cX6_setGlyphWidth 10 = .ok (.iload_n 2, 1) := by decide +kernel
theorem dX6_setGlyphWidth_11 : decode cX6_setGlyphWidth 11 = .ok (.iconst 1, 1) := by decide +kernel
theorem dX6_setGlyphWidth_12 : decode cX6_setGlyphWidth 12 = .ok (.bipush 6, 2) := by decide +kernel
theorem dX6_setGlyphWidth_14 : decode cX6_setGlyphWidth 14 = .ok (.invokestatic 73, 3) := by decide +kernel
theorem dX6_setGlyphWidth_17 : decode cX6_setGlyphWidth 17 = .ok (.ifCond .ne 6, 3) := by decide +kernel
theorem dX6_setGlyphWidth_20 : decode cX6_setGlyphWidth 20 = .ok (.bipush (-11), 2) := by decide +kernel
theorem dX6_setGlyphWidth_22 : decode cX6_setGlyphWidth 22 = .ok (.ireturn, 1) := by decide +kernel
theorem dX6_setGlyphWidth_23 : decode cX6_setGlyphWidth 23 = .ok (.aload_n 0, 1) := by decide +kernel
theorem dX6_setGlyphWidth_24 : decode cX6_setGlyphWidth 24 = .ok (.getfield 22, 3) := by decide +kernel
theorem dX6_setGlyphWidth_27 : decode cX6_setGlyphWidth 27 = .ok (.iload_n 1, 1) := by decide +kernel
theorem dX6_setGlyphWidth_28 : decode cX6_setGlyphWidth 28 = .ok (.iaload, 1) := by decide +kernel
theorem dX6_setGlyphWidth_29 : decode cX6_setGlyphWidth 29 = .ok (.istore_n 3, 1) := by decide +kernel
theorem dX6_setGlyphWidth_30 : decode cX6_setGlyphWidth 30 = .ok (.iload_n 3, 1) := by decide +kernel
theorem dX6_setGlyphWidth_31 : decode cX6_setGlyphWidth 31 = .ok (.istore 4, 2) := by decide +kernel
theorem dX6_setGlyphWidth_33 : decode cX6_setGlyphWidth 33 = .ok (.iload 4, 2) := by decide +kernel
theorem dX6_setGlyphWidth_35 : decode cX6_setGlyphWidth 35 = .ok (.iload_n 2, 1) := by decide +kernel
theorem dX6_setGlyphWidth_36 : decode cX6_setGlyphWidth 36 = .ok (.if_icmp .ge 22, 3) := by decide +kernel
theorem dX6_setGlyphWidth_39 : decode cX6_setGlyphWidth 39 = .ok (.aload_n 0, 1) := by decide +kernel
theorem dX6_setGlyphWidth_40 : decode cX6_setGlyphWidth 40 = .ok (.getfield 26, 3) := by decide +kernel
theorem dX6_setGlyphWidth_43 : decode cX6_setGlyphWidth 43 = .ok (.bipush 6, 2) := by decide +kernel
theorem dX6_setGlyphWidth_45 : decode cX6_setGlyphWidth 45 = .ok (.iload_n 1, 1) := by decide +kernel
theorem dX6_setGlyphWidth_46 : decode cX6_setGlyphWidth 46 = .ok (.imul, 1) := by decide +kernel
theorem dX6_setGlyphWidth_47 : decode cX6_setGlyphWidth 47 = .ok (.iload 4, 2) := by decide +kernel
theorem dX6_setGlyphWidth_49 : decode cX6_setGlyphWidth 49 = .ok (.iadd, 1) := by decide +kernel
theorem dX6_setGlyphWidth_50 : decode cX6_setGlyphWidth 50 = .ok (.iconst 0, 1) := by decide +kernel
theorem dX6_setGlyphWidth_51 : decode cX6_setGlyphWidth 51 = .ok (.iastore, 1) := by decide +kernel
theorem dX6_setGlyphWidth_52 : decode cX6_setGlyphWidth 52 = .ok (.iinc 4 1, 3) := by decide +kernel
theorem dX6_setGlyphWidth_55 : decode cX6_setGlyphWidth 55 = .ok (.goto (-22), 3) := by decide +kernel
theorem dX6_setGlyphWidth_58 : decode cX6_setGlyphWidth 58 = .ok (.aload_n 0, 1) := by decide +kernel
theorem dX6_setGlyphWidth_59 : decode cX6_setGlyphWidth 59 = .ok (.getfield 22, 3) := by decide +kernel
theorem dX6_setGlyphWidth_62 : decode cX6_setGlyphWidth 62 = .ok (.iload_n 1, 1) := by decide +kernel
theorem dX6_setGlyphWidth_63 : decode cX6_setGlyphWidth 63 = .ok (.iload_n 2, 1) := by decide +kernel
theorem dX6_setGlyphWidth_64 : decode cX6_setGlyphWidth 64 = .ok (.iastore, 1) := by decide +kernel
theorem dX6_setGlyphWidth_65 : decode cX6_setGlyphWidth 65 = .ok (.aload_n 0, 1) := by decide +kernel
theorem dX6_setGlyphWidth_66 : decode cX6_setGlyphWidth 66 = .ok (.invokevirtual 77, 3) := by decide +kernel
theorem dX6_setGlyphWidth_69 : decode cX6_setGlyphWidth 69 = .ok (.pop, 1) := by decide +kernel
theorem dX6_setGlyphWidth_70 : decode cX6_setGlyphWidth 70 = .ok (.iload_n 3, 1) := by decide +kernel
theorem dX6_setGlyphWidth_71 : decode cX6_setGlyphWidth 71 = .ok (.ireturn, 1) := by decide +kernel
set_option maxRecDepth 20000 in
theorem ggX6_setGlyphColumn_X6_in : GoodIn wsX6_setGlyphColumn wsX6_in := goodIn_r _ [6] (by decide +kernel) (by decide +kernel)
set_option maxRecDepth 20000 in
theorem gX6_setGlyphColumn_X6_in : GoodIn wsX6_setGlyphColumn (va_wsS RX6 73 yX6_in wsX6_in) := goodIn_app (goodIn_of _ (by decide +kernel)) ggX6_setGlyphColumn_X6_in
theorem dX6_setGlyphColumn_0 : decode cX6_setGlyphColumn 0 = .ok (.iload_n 1, 1) := by decide +kernel
theorem dX6_setGlyphColumn_1 : decode cX6_setGlyphColumn 1 = .ok (.iconst 0, 1) := by decide +kernel
theorem dX6_setGlyphColumn_2 : decode cX6_setGlyphColumn 2 = .ok (.bipush 26, 2) := by decide +kernel
theorem dX6_setGlyphColumn_4 : decode cX6_setGlyphColumn 4 = .ok (.invokestatic 73, 3) := by decide +kernel
theorem dX6_setGlyphColumn_7 : decode cX6_setGlyphColumn 7 = .ok (.ifCond .eq 30, 3) := by decide +kernel
theorem dX6_setGlyphColumn_10 : decode cX6_setGlyphColumn 10 = .ok (.iload_n 2, 1) := by decide +kernel
theorem dX6_setGlyphColumn_11 : decode cX6_setGlyphColumn 11 = .ok (.iconst 0, 1) := by decide +kernel
theorem dX6_setGlyphColumn_12 : decode cX6_setGlyphColumn 12 = .ok (.aload_n 0, 1) := by decide +kernel
theorem dX6_setGlyphColumn_13 : decode cX6_setGlyphColumn 13 = .ok (.getfield 22, 3) := by decide +kernel
theorem dX6_setGlyphColumn_16 : decode cX6_setGlyphColumn 16 = .ok (.iload_n 1, 1) := by decide +kernel
theorem dX6_setGlyphColumn_17 : decode cX6_setGlyphColumn 17 = .ok (.iaload, 1) := by decide +kernel
theorem dX6_setGlyphColumn_18 : decode cX6_setGlyphColumn 18 = .ok (.iconst 1, 1) := by decide +kernel
theorem dX6_setGlyphColumn_19 : decode cX6_setGlyphColumn 19 = .ok (.isub, 1) := by decide +kernel
theorem dX6_setGlyphColumn_20 : decode cX6_setGlyphColumn 20 = .ok (.invokestatic 73, 3) := by decide +kernel
theorem dX6_setGlyphColumn_23 : decode cX6_setGlyphColumn 23 = .ok (.ifCond .eq 14, 3) := by decide +kernel
theorem dX6_setGlyphColumn_26 : decode cX6_setGlyphColumn 26 = .ok (.iload_n 3, 1) := by decide +kernel
theorem dX6_setGlyphColumn_27 : decode cX6_setGlyphColumn 27 = .ok (.iconst 0, 1) := by decide +kernel
theorem dX6_setGlyphColumn_28 : decode cX6_setGlyphColumn 28 = .ok (.sipush 255, 3) := by decide +kernel
theorem dX6_setGlyphColumn_31 : decode cX6_setGlyphColumn 31 = .ok (.invokestatic 73, 3) := by decide +kernel
theorem dX6_setGlyphColumn_34 : decode cX6_setGlyphColumn 34 = .ok (.ifCond .ne 6, 3) := by decide +kernel
theorem dX6_setGlyphColumn_37 : decode cX6_setGlyphColumn 37 = .ok (.bipush (-11), 2) := by decide +kernel
theorem dX6_setGlyphColumn_39 : decode cX6_setGlyphColumn 39 = .ok (.ireturn, 1) := by decide +kernel
theorem dX6_setGlyphColumn_40 : decode cX6_setGlyphColumn 40 = .ok (.aload_n 0, 1) := by decide +kernel
theorem dX6_setGlyphColumn_41 : decode cX6_setGlyphColumn 41 = .ok (.getfield 26, 3) := by decide +kernel
theorem dX6_setGlyphColumn_44 : decode cX6_setGlyphColumn 44 = .ok (.bipush 6, 2) := by decide +kernel
theorem dX6_setGlyphColumn_46 : decode cX6_setGlyphColumn 46 = .ok (.iload_n 1, 1) := by decide +kernel
theorem dX6_setGlyphColumn_47 : decode cX6_setGlyphColumn 47 = .ok (.imul, 1) := by decide +kernel
theorem dX6_setGlyphColumn_48 : decode cX6_setGlyphColumn 48 = .ok (.iload_n 2, 1) := by decide +kernel
theorem dX6_setGlyphColumn_49 : decode cX6_setGlyphColumn 49 = .ok (.iadd, 1) := by decide +kernel
theorem dX6_setGlyphColumn_50 : decode cX6_setGlyphColumn 50 = .ok (.iaload, 1) := by decide +kernel
theorem dX6_setGlyphColumn_51 : decode cX6_setGlyphColumn 51 = .ok (.istore 4, 2) := by decide +kernel
theorem dX6_setGlyphColumn_53 : decode cX6_setGlyphColumn 53 = .ok (.aload_n 0, 1) := by decide +kernel
theorem dX6_setGlyphColumn_54 : decode cX6_setGlyphColumn 54 = .ok (.getfield 26, 3) := by decide +kernel
theorem dX6_setGlyphColumn_57 : decode cX6_setGlyphColumn 57 = .ok (.bipush 6, 2) := by decide +kernel
theorem dX6_setGlyphColumn_59 : decode cX6_setGlyphColumn 59 = .ok (.iload_n 1, 1) := by decide +kernel
theorem dX6_setGlyphColumn_60 : decode cX6_setGlyphColumn 60 = .ok (.imul, 1) := by decide +kernel
theorem dX6_setGlyphColumn_61 : decode cX6_setGlyphColumn 61 = .ok (.iload_n 2, 1) := by decide +kernel
theorem dX6_setGlyphColumn_62 : decode cX6_setGlyphColumn 62 = .ok (.iadd, 1) := by decide +kernel
theorem dX6_setGlyphColumn_63 : decode cX6_setGlyphColumn 63 = .ok (.iload_n 3, 1) := by decide +kernel
theorem dX6_setGlyphColumn_64 : decode cX6_setGlyphColumn 64 = .ok (.iastore, 1) := by decide +kernel
theorem dX6_setGlyphColumn_65 : decode cX6_setGlyphColumn 65 = .ok (.iload 4, 2) := by decide +kernel
theorem dX6_setGlyphColumn_67 : decode cX6_setGlyphColumn 67 = .ok (.ireturn, 1) := by decide +kernel
set_option maxRecDepth 20000 in
theorem ggX6_glyphColumn_X6_in : GoodIn wsX6_glyphColumn wsX6_in := goodIn_r _ [6] (by decide +kernel) (by decide +kernel)
set_option maxRecDepth 20000 in
theorem gX6_glyphColumn_X6_in : GoodIn wsX6_glyphColumn (va_wsS RX6 73 yX6_in wsX6_in) := goodIn_app (goodIn_of _ (by decide +kernel)) ggX6_glyphColumn_X6_in
theorem dX6_glyphColumn_0 : decode cX6_glyphColumn 0 = .ok (.iload_n 1, 1) := by decide +kernel
theorem dX6_glyphColumn_1 : decode cX6_glyphColumn 1 = .ok (.iconst 0, 1) := by decide +kernel
theorem dX6_glyphColumn_2 : decode cX6_glyphColumn 2 = .ok (.bipush 26, 2) := by decide +kernel
theorem dX6_glyphColumn_4 : decode cX6_glyphColumn 4 = .ok (.invokestatic 73, 3) := by decide +kernel
theorem dX6_glyphColumn_7 : decode cX6_glyphColumn 7 = .ok (.ifCond .eq 12, 3) := by decide +kernel
theorem dX6_glyphColumn_10 : decode cX6_glyphColumn 10 = .ok (.iload_n 2, 1) := by decide +kernel
theorem dX6_glyphColumn_11 : decode cX6_glyphColumn 11 = .ok (.iconst 0, 1) := by decide +kernel
theorem dX6_glyphColumn_12 : decode cX6_glyphColumn 12 = .ok (.iconst 5, 1) := by decide +kernel
theorem dX6_glyphColumn_13 : decode cX6_glyphColumn 13 = .ok (.invokestatic 73, 3) := by decide +kernel
theorem dX6_glyphColumn_16 : decode cX6_glyphColumn 16 = .ok (.ifCond .ne 6, 3) := by decide +kernel
theorem dX6_glyphColumn_19 : decode cX6_glyphColumn 19 = .ok (.bipush (-11), 2) := by decide +kernel
theorem dX6_glyphColumn_21 : decode cX6_glyphColumn 21 = .ok (.ireturn, 1) := by decide +kernel
theorem dX6_glyphColumn_22 : decode cX6_glyphColumn 22 = .ok (.iload_n 2, 1) := by decide +kernel
theorem dX6_glyphColumn_23 : decode cX6_glyphColumn 23 = .ok (.aload_n 0, 1) := by decide +kernel
theorem dX6_glyphColumn_24 : decode cX6_glyphColumn 24 = .ok (.getfield 22, 3) := by decide +kernel
theorem dX6_glyphColumn_27 : decode cX6_glyphColumn 27 = .ok (.iload_n 1, 1) := by decide +kernel
theorem dX6_glyphColumn_28 : decode cX6_glyphColumn 28 = .ok (.iaload, 1) := by decide +kernel
theorem dX6_glyphColumn_29 : decode cX6_glyphColumn 29 = .ok (.if_icmp .ge 17, 3) := by decide +kernel
theorem dX6_glyphColumn_32 : decode cX6_glyphColumn 32 = .ok (.aload_n 0, 1) := by decide +kernel
theorem dX6_glyphColumn_33 : decode cX6_glyphColumn 33 = .ok (.getfield 26, 3) := by decide +kernel
theorem dX6_glyphColumn_36 : decode cX6_glyphColumn 36 = .ok (.bipush 6, 2) := by decide +kernel
theorem dX6_glyphColumn_38 : decode cX6_glyphColumn 38 = .ok (.iload_n 1, 1) := by decide +kernel
theorem dX6_glyphColumn_39 : decode cX6_glyphColumn 39 = .ok (.imul, 1) := by decide +kernel
theorem dX6_glyphColumn_40 : decode cX6_glyphColumn 40 = .ok (.iload_n 2, 1) := by decide +kernel
theorem dX6_glyphColumn_41 : decode cX6_glyphColumn 41 = .ok (.iadd, 1) := by decide +kernel
theorem dX6_glyphColumn_42 : decode cX6_glyphColumn 42 = .ok (.iaload, 1) := by decide +kernel
theorem dX6_glyphColumn_43 : decode cX6_glyphColumn 43 = .ok (.goto 5, 3) := by decide +kernel
theorem dX6_glyphColumn_46 : decode cX6_glyphColumn 46 = .ok (.bipush (-14), 2) := by decide +kernel
theorem dX6_glyphColumn_48 : decode cX6_glyphColumn 48 = .ok (.ireturn, 1) := by decide +kernel
set_option maxRecDepth 20000 in
theorem ggX6_append_X6_in : GoodIn wsX6_append wsX6_in := goodIn_r _ [6] (by decide +kernel) (by decide +kernel)
set_option maxRecDepth 20000 in
theorem gX6_append_X6_in : GoodIn wsX6_append (va_wsS RX6 73 yX6_in wsX6_in) := goodIn_app (goodIn_of _ (by decide +kernel)) ggX6_append_X6_in
theorem dX6_append_0 : decode cX6_append 0 = .ok (.iload_n 1, 1) := by decide +kernel
theorem dX6_append_1 : decode cX6_append 1 = .ok (.iconst 0, 1) := by decide +kernel
theorem dX6_append_2 : decode cX6_append 2 = .ok (.bipush 26, 2) := by decide +kernel
theorem dX6_append_4 : decode cX6_append 4 = .ok (.invokestatic 73, 3) := by decide +kernel
theorem dX6_append_7 : decode cX6_append 7 = .ok (.ifCond .ne 6, 3) := by decide +kernel
theorem dX6_append_10 : decode cX6_append 10 = .ok (.bipush (-11), 2) := by decide +kernel
theorem dX6_append_12 : decode cX6_append 12 = .ok (.ireturn, 1) := by decide +kernel
theorem dX6_append_13 : decode cX6_append 13 = .ok (.aload_n 0, 1) := by decide +kernel
theorem dX6_append_14 : decode cX6_append 14 = .ok (.getfield 80, 3) := by decide +kernel
theorem dX6_append_17 : decode cX6_append 17 = .ok (.bipush 12, 2) := by decide +kernel
theorem dX6_append_19 : decode cX6_append 19 = .ok (.if_icmp .ne 6, 3) := by decide +kernel
theorem dX6_append_22 : decode cX6_append 22 = .ok (.bipush (-13), 2) := by decide +kernel
theorem dX6_append_24 : decode cX6_append 24 = .ok (.ireturn, 1) := by decide +kernel
theorem dX6_append_25 : decode cX6_append 25 = .ok (.aload_n 0, 1) := by decide +kernel
theorem dX6_append_26 : decode cX6_append 26 = .ok (.getfield 32, 3) := by decide +kernel
theorem dX6_append_29 : decode cX6_append 29 = .ok (.aload_n 0, 1) := by decide +kernel
theorem dX6_append_30 : decode cX6_append 30 = .ok (.getfield 80, 3) := by decide +kernel
theorem dX6_append_33 : decode cX6_append 33 = .ok (.iload_n 1, 1) := by decide +kernel
theorem dX6_append_34 : decode cX6_append 34 = .ok (.iastore, 1) := by decide +kernel
theorem dX6_append_35 : decode cX6_append 35 = .ok (.aload_n 0, 1) := by decide +kernel
theorem dX6_append_36 : decode cX6_append 36 = .ok (.dup, 1) := by decide +kernel
theorem dX6_append_37 : decode cX6_append 37 = .ok (.getfield 80, 3) := by decide +kernel
theorem dX6_append_40 : decode cX6_append 40 = .ok (.iconst 1, 1) := by decide +kernel
theorem dX6_append_41 : decode cX6_append 41 = .ok (.iadd, 1) := by decide +kernel
theorem dX6_append_42 : decode cX6_append 42 = .ok (.putfield 80, 3) := by decide +kernel
theorem dX6_append_45 : decode cX6_append 45 = .ok (.aload_n 0, 1) := by decide +kernel
theorem dX6_append_46 : decode cX6_append 46 = .ok (.getfield 80, 3) := by decide +kernel
theorem dX6_append_49 : decode cX6_append 49 = .ok (.ireturn, 1) := by decide +kernel
theorem dX6_clearText_0 : decode cX6_clearText 0 = .ok (.aload_n 0, 1) := by decide +kernel
theorem dX6_clearText_1 : decode cX6_clearText 1 = .ok (.getfield 80, 3) := by decide +kernel
theorem dX6_clearText_4 : decode cX6_clearText 4 = .ok (.istore_n 1, 1) := by decide +kernel
theorem dX6_clearText_5 : decode cX6_clearText 5 = .ok (.aload_n 0, 1) := by decide +kernel
theorem dX6_clearText_6 : decode cX6_clearText 6 = .ok (.iconst 0, 1) := by decide +kernel
theorem dX6_clearText_7 : decode cX6_clearText 7 = .ok (.putfield 80, 3) := by decide +kernel
theorem dX6_clearText_10 : decode cX6_clearText 10 = .ok (.iload_n 1, 1) := by decide +kernel
theorem dX6_clearText_11 : decode cX6_clearText 11 = .ok (.ireturn, 1) := by decide +kernel
theorem dX6_copies_0 : decode cX6_copies 0 = .ok (.aload_n 0, 1) := by decide +kernel
theorem dX6_copies_1 : decode cX6_copies 1 = .ok (.getfield 35, 3) := by decide +kernel
theorem dX6_copies_4 : decode cX6_copies 4 = .ok (.iload_n 2, 1) := by decide +kernel
theorem dX6_copies_5 : decode cX6_copies 5 = .ok (.aload_n 0, 1) := by decide +kernel
theorem dX6_copies_6 : decode cX6_copies 6 = .ok (.getfield 35, 3) := by decide +kernel
theorem dX6_copies_9 : decode cX6_copies 9 = .ok (.iload_n 1, 1) := by decide +kernel
theorem dX6_copies_10 : decode cX6_copies 10 = .ok (.iaload, 1) := by decide +kernel
theorem dX6_copies_11 : decode cX6_copies 11 = .ok (.iastore, 1) := by decide +kernel
theorem dX6_copies_12 : decode cX6_copies 12 = .ok (.aload_n 0, 1) := by decide +kernel
theorem dX6_copies_13 : decode cX6_copies 13 = .ok (.getfield 38, 3) := by decide +kernel
theorem dX6_copies_16 : decode cX6_copies 16 = .ok (.iload_n 2, 1) := by decide +kernel
theorem dX6_copies_17 : decode cX6_copies 17 = .ok (.aload_n 0, 1) := by decide +kernel
theorem dX6_copies_18 : decode cX6_copies 18 = .ok (.getfield 38, 3) := by decide +kernel
theorem dX6_copies_21 : decode cX6_copies 21 = .ok (.iload_n 1, 1) := by decide +kernel
theorem dX6_copies_22 : decode cX6_copies 22 = .ok (.iaload, 1) := by decide +kernel
theorem dX6_copies_23 : decode cX6_copies 23 = .ok (.iastore, 1) := by decide +kernel
theorem dX6_copies_24 : decode cX6_copies 24 = .ok (.iconst 0, 1) := by decide +kernel
theorem dX6_copies_25 : decode cX6_copies 25 = .ok (.istore_n 3, 1) := by decide +kernel
theorem dX6_copies_26 : decode cX6_copies 26 = .ok (.iload_n 3, 1) := by decide +kernel
theorem dX6_copies_27 : decode cX6_copies 27 = .ok (.bipush 12, 2) := by decide +kernel
theorem dX6_copies_29 : decode cX6_copies 29 = .ok (.if_icmp .ge 31, 3) := by decide +kernel
theorem dX6_copies_32 : decode cX6_copies 32 = .ok (.aload_n 0, 1) := by decide +kernel
theorem dX6_copies_33 : decode cX6_copies 33 = .ok (.getfield 41, 3) := by decide +kernel
theorem dX6_copies_36 : decode cX6_copies 36 = .ok (.bipush 12, 2) := by decide +kernel
theorem dX6_copies_38 : decode cX6_copies 38 = .ok (.iload_n 2, 1) := by decide +kernel
theorem dX6_copies_39 : decode cX6_copies 39 = .ok (.imul, 1) := by decide +kernel
theorem dX6_copies_40 : decode cX6_copies 40 = .ok (.iload_n 3, 1) := by decide +kernel
theorem dX6_copies_41 : decode cX6_copies 41 = .ok (.iadd, 1) := by decide +kernel
theorem dX6_copies_42 : decode cX6_copies 42 = .ok (.aload_n 0, 1) := by decide +kernel
theorem dX6_copies_43 : decode cX6_copies 43 = .ok (.getfield 41, 3) := by decide +kernel
theorem dX6_copies_46 : decode cX6_copies 46 = .ok (.bipush 12, 2) := by decide +kernel
theorem dX6_copies_48 : decode cX6_copies 48 = .ok (.iload_n 1, 1) := by decide +kernel
theorem dX6_copies_49 : decode cX6_copies 49 = .ok (.imul, 1) := by decide +kernel
theorem dX6_copies_50 : decode cX6_copies 50 = .ok (.iload_n 3, 1) := by decide +kernel
theorem dX6_copies_51 : decode cX6_copies 51 = .ok (.iadd, 1) := by decide +kernel
theorem dX6_copies_52 : decode cX6_copies 52 = .ok (.iaload, 1) := by decide +kernel
theorem dX6_copies_53 : decode cX6_copies 53 = .ok (.iastore, 1) := by decide +kernel
theorem dX6_copies_54 : decode cX6_copies 54 = .ok (.iinc 3 1, 3) := by decide +kernel
theorem dX6_copies_57 : decode cX6_copies 57 = .ok (.goto (-31), 3) := by decide +kernel
theorem dX6_copies_60 : decode cX6_copies 60 = .ok (.return_, 1) := by decide +kernel
set_option maxRecDepth 20000 in
theorem ggX6_insertMessage_X6_in : GoodIn wsX6_insertMessage wsX6_in := goodIn_r _ [10] (by decide +kernel) (by decide +kernel)
set_option maxRecDepth 20000 in
theorem gX6_insertMessage_X6_in : GoodIn wsX6_insertMessage (va_wsS RX6 73 yX6_in wsX6_in) := goodIn_app (goodIn_of _ (by decide +kernel)) ggX6_insertMessage_X6_in
set_option maxRecDepth 20000 in
theorem ggX6_insertMessage_X6_copies : GoodIn wsX6_insertMessage wsX6_copies := goodIn_r _ [14, 3, 4, 5, 34, 35, 36, 37, 38, 39, 40, 41, 42, 43, 44, 45, 46, 47, 48, 49, 50, 51, 52] (by decide +kernel) (by decide +kernel)
set_option maxRecDepth 20000 in
theorem gX6_insertMessage_X6_copies : GoodIn wsX6_insertMessage (wsV RX6 83 RX6 yX6_copies wsX6_copies) := goodIn_app (goodIn_of _ (by decide +kernel)) ggX6_insertMessage_X6_copies
set_option maxRecDepth 20000 in
theorem ggX6_insertMessage_X6_settles : GoodIn wsX6_insertMessage wsX6_settles := goodIn_r _ [18, 19, 20, 21, 22, 9, 23, 1, 24, 25, 26, 27, 28, 29, 30, 31, 32, 3, 33, 5, 34, 35, 36, 37, 38, 39, 40, 41, 42, 43, 44, 45, 46, 47, 48, 49, 50, 51, 52] (by decide +kernel) (by decide +kernel)
set_option maxRecDepth 20000 in
theorem gX6_insertMessage_X6_settles : GoodIn wsX6_insertMessage (wsV RX6 77 RX6 yX6_settles wsX6_settles) := goodIn_app (goodIn_of _ (by decide +kernel)) ggX6_insertMessage_X6_settles
theorem dX6_insertMessage_0 : decode cX6_insertMessage 0 = .ok (.iload_n 1, 1) := by decide +kernel
theorem dX6_insertMessage_1 : decode cX6_insertMessage 1 = .ok (.iconst 0, 1) := by decide +kernel
theorem dX6_insertMessage_2 : decode cX6_insertMessage 2 = .ok (.aload_n 0, 1) := by decide +kernel
theorem dX6_insertMessage_3 : decode cX6_insertMessage 3 = .ok (.getfield 54, 3) := by decide +kernel
theorem dX6_insertMessage_6 : decode cX6_insertMessage 6 = .ok (.invokestatic 73, 3) := by decide +kernel
theorem dX6_insertMessage_9 : decode cX6_insertMessage 9 = .ok (.ifCond .eq 12, 3) := by decide +kernel
theorem dX6_insertMessage_12 : decode cX6_insertMessage 12 = .ok (.iload_n 2, 1) := by decide +kernel
theorem dX6_insertMessage_13 : decode cX6_insertMessage 13 = .ok (.iconst 1, 1) := by decide +kernel
theorem dX6_insertMessage_14 : decode cX6_insertMessage 14 = .ok (.iconst 3, 1) := by decide +kernel
theorem dX6_insertMessage_15 : decode cX6_insertMessage 15 = .ok (.invokestatic 73, 3) := by decide +kernel
theorem dX6_insertMessage_18 : decode cX6_insertMessage 18 = .ok (.ifCond .ne 6, 3) := by decide +kernel
theorem dX6_insertMessage_21 : decode cX6_insertMessage 21 = .ok (.bipush (-11), 2) := by decide +kernel
theorem dX6_insertMessage_23 : decode cX6_insertMessage 23 = .ok (.ireturn, 1) := by decide +kernel
theorem dX6_insertMessage_24 : decode cX6_insertMessage 24 = .ok (.aload_n 0, 1) := by decide +kernel
theorem dX6_insertMessage_25 : decode cX6_insertMessage 25 = .ok (.getfield 80, 3) := by decide +kernel
theorem dX6_insertMessage_28 : decode cX6_insertMessage 28 = .ok (.ifCond .ne 6, 3) := by decide +kernel
theorem dX6_insertMessage_31 : decode cX6_insertMessage 31 = .ok (.bipush (-12), 2) := by decide +kernel
theorem dX6_insertMessage_33 : decode cX6_insertMessage 33 = .ok (.ireturn, 1) := by decide +kernel
theorem dX6_insertMessage_34 : decode cX6_insertMessage 34 = .ok (.aload_n 0, 1) := by decide +kernel
theorem dX6_insertMessage_35 : decode cX6_insertMessage 35 = .ok (.getfield 54, 3) := by decide +kernel
theorem dX6_insertMessage_38 : decode cX6_insertMessage 38 = .ok (.bipush 6, 2) := by decide +kernel
theorem dX6_insertMessage_40 : decode cX6_insertMessage 40 = .ok (.if_icmp .ne 6, 3) := by decide +kernel
theorem dX6_insertMessage_43 : decode cX6_insertMessage 43 = .ok (.bipush (-13), 2) := by decide +kernel
theorem dX6_insertMessage_45 : decode cX6_insertMessage 45 = .ok (.ireturn, 1) := by decide +kernel
theorem dX6_insertMessage_46 : decode cX6_insertMessage 46 = .ok (.aload_n 0, 1) := by decide +kernel
theorem dX6_insertMessage_47 : decode cX6_insertMessage 47 = .ok (.getfield 54, 3) := by decide +kernel
theorem dX6_insertMessage_50 : decode cX6_insertMessage 50 = .ok (.istore_n 3, 1) := by decide +kernel
theorem dX6_insertMessage_51 : decode cX6_insertMessage 51 = .ok (.iload_n 3, 1) := by decide +kernel
theorem dX6_insertMessage_52 : decode cX6_insertMessage 52 = .ok (.iload_n 1, 1) := by decide +kernel
theorem dX6_insertMessage_53 : decode cX6_insertMessage 53 = .ok (.if_icmp .le 17, 3) := by decide +kernel
theorem dX6_insertMessage_56 : decode cX6_insertMessage 56 = .ok (.aload_n 0, 1) := by decide +kernel
theorem dX6_insertMessage_57 : decode cX6_insertMessage 57 = .ok (.iload_n 3, 1) := by decide +kernel
theorem dX6_insertMessage_58 : decode cX6_insertMessage 58 = .ok (.iconst 1, 1) := by decide +kernel
theorem dX6_insertMessage_59 : decode cX6_insertMessage 59 = .ok (.isub, 1) := by decide +kernel
theorem dX6_insertMessage_60 : decode cX6_insertMessage 60 = .ok (.iload_n 3, 1) := by decide +kernel
theorem dX6_insertMessage_61 : decode cX6_insertMessage 61 = .ok (.invokevirtual 83, 3) := by decide +kernel
theorem dX6_insertMessage_64 : decode cX6_insertMessage 64 = .ok (.iinc 3 (-1), 3) := by decide +kernel
theorem dX6_insertMessage_67 : decode cX6_insertMessage 67 = .ok (.goto (-16), 3) := by decide +kernel
theorem dX6_insertMessage_70 : decode cX6_insertMessage 70 = .ok (.aload_n 0, 1) := by decide +kernel
theorem dX6_insertMessage_71 : decode cX6_insertMessage 71 = .ok (.getfield 35, 3) := by decide +kernel
theorem dX6_insertMessage_74 : decode cX6_insertMessage 74 = .ok (.iload_n 1, 1) := by decide +kernel
theorem dX6_insertMessage_75 : decode cX6_insertMessage 75 = .ok (.aload_n 0, 1) := by decide +kernel
theorem dX6_insertMessage_76 : decode cX6_insertMessage 76 = .ok (.getfield 80, 3) := by decide +kernel
theorem dX6_insertMessage_79 : decode cX6_insertMessage 79 = .ok (.iastore, 1) := by decide +kernel
theorem dX6_insertMessage_80 : decode cX6_insertMessage 80 = .ok (.aload_n 0, 1) := by decide +kernel
theorem dX6_insertMessage_81 : decode cX6_insertMessage 81 = .ok (.getfield 38, 3) := by decide +kernel
theorem dX6_insertMessage_84 : decode cX6_insertMessage 84 = .ok (.iload_n 1, 1) := by decide +kernel
theorem dX6_insertMessage_85 : decode cX6_insertMessage 85 = .ok (.iload_n 2, 1) := by decide +kernel
theorem dX6_insertMessage_86 : decode cX6_insertMessage 86 = .ok (.iastore, 1) := by decide +kernel
theorem dX6_insertMessage_87 : decode cX6_insertMessage 87 = .ok (.iconst 0, 1) := by decide +kernel
theorem dX6_insertMessage_88 : decode cX6_insertMessage 88 = .ok (.istore_n 3, 1) := by decide +kernel
theorem dX6_insertMessage_89 : decode cX6_insertMessage 89 = .ok (.iload_n 3, 1) := by decide +kernel
theorem dX6_insertMessage_90 : decode cX6_insertMessage 90 = .ok (.aload_n 0, 1) := by decide +kernel
theorem dX6_insertMessage_91 : decode cX6_insertMessage 91 = .ok (.getfield 80, 3) := by decide +kernel
theorem dX6_insertMessage_94 : decode cX6_insertMessage 94 = .ok (.if_icmp .ge 26, 3) := by decide +kernel
theorem dX6_insertMessage_97 : decode cX6_insertMessage 97 = .ok (.aload_n 0, 1) := by decide +kernel
theorem dX6_insertMessage_98 : decode cX6_insertMessage 98 = .ok (.getfield 41, 3) := by decide +kernel
theorem dX6_insertMessage_101 : decode cX6_insertMessage 101 = .ok (.bipush 12, 2) := by decide +kernel
theorem dX6_insertMessage_103 : decode cX6_insertMessage 103 = .ok (.iload_n 1, 1) := by decide +kernel
theorem dX6_insertMessage_104 : decode cX6_insertMessage 104 = .ok (.imul, 1) := by decide +kernel
theorem dX6_insertMessage_105 : decode cX6_insertMessage 105 = .ok (.iload_n 3, 1) := by decide +kernel
theorem dX6_insertMessage_106 : decode cX6_insertMessage 106 = .ok (.iadd, 1) := by decide +kernel
theorem dX6_insertMessage_107 : decode cX6_insertMessage 107 = .ok (.aload_n 0, 1) := by decide +kernel
theorem dX6_insertMessage_108 : decode cX6_insertMessage 108 = .ok (.getfield 32, 3) := by decide +kernel
theorem dX6_insertMessage_111 : decode cX6_insertMessage 111 = .ok (.iload_n 3, 1) := by decide +kernel
theorem dX6_insertMessage_112 : decode cX6_insertMessage 112 = .ok (.iaload, 1) := by decide +kernel
theorem dX6_insertMessage_113 : decode cX6_insertMessage 113 = .ok (.iastore, 1) := by decide +kernel
theorem dX6_insertMessage_114 : decode cX6_insertMessage 114 = .ok (.iinc 3 1, 3) := by decide +kernel
theorem dX6_insertMessage_117 : decode cX6_insertMessage 117 = .ok (.goto (-28), 3) := by decide +kernel
theorem dX6_insertMessage_120 : decode cX6_insertMessage 120 = .ok (.aload_n 0, 1) := by decide +kernel
theorem dX6_insertMessage_121 : decode cX6_insertMessage 121 = .ok (.dup, 1) := by decide +kernel
theorem dX6_insertMessage_122 : decode cX6_insertMessage 122 = .ok (.getfield 54, 3) := by decide +kernel
theorem dX6_insertMessage_125 : decode cX6_insertMessage 125 = .ok (.iconst 1, 1) := by decide +kernel
theorem dX6_insertMessage_126 : decode cX6_insertMessage 126 = .ok (.iadd, 1) := by decide +kernel
theorem dX6_insertMessage_127 : decode cX6_insertMessage 127 = .ok (.putfield 54, 3) := by decide +kernel
theorem dX6_insertMessage_130 : decode cX6_insertMessage 130 = .ok (.aload_n 0, 1) := by decide +kernel
theorem dX6_insertMessage_131 : decode cX6_insertMessage 131 = .ok (.invokevirtual 77, 3) := by decide +kernel
theorem dX6_insertMessage_134 : decode cX6_insertMessage 134 = .ok (.ireturn, 1) := by decide +kernel
set_option maxRecDepth 20000 in
theorem ggX6_isMessage_X6_in : GoodIn wsX6_isMessage wsX6_in := goodIn_r _ [5] (by decide +kernel) (by decide +kernel)
set_option maxRecDepth 20000 in
theorem gX6_isMessage_X6_in : GoodIn wsX6_isMessage (va_wsS RX6 73 yX6_in wsX6_in) := goodIn_app (goodIn_of _ (by decide +kernel)) ggX6_isMessage_X6_in
theorem dX6_isMessage_0 : decode cX6_isMessage 0 = .ok (.iload_n 1, 1) := by decide +kernel
theorem dX6_isMessage_1 : decode cX6_isMessage 1 = .ok (.iconst 0, 1) := by decide +kernel
theorem dX6_isMessage_2 : decode cX6_isMessage 2 = .ok (.aload_n 0, 1) := by decide +kernel
theorem dX6_isMessage_3 : decode cX6_isMessage 3 = .ok (.getfield 54, 3) := by decide +kernel
theorem dX6_isMessage_6 : decode cX6_isMessage 6 = .ok (.iconst 1, 1) := by decide +kernel
theorem dX6_isMessage_7 : decode cX6_isMessage 7 = .ok (.isub, 1) := by decide +kernel
theorem dX6_isMessage_8 : decode cX6_isMessage 8 = .ok (.invokestatic 73, 3) := by decide +kernel
theorem dX6_isMessage_11 : decode cX6_isMessage 11 = .ok (.ireturn, 1) := by decide +kernel
set_option maxRecDepth 20000 in
theorem ggX6_removeMessage_X6_isMessage : GoodIn wsX6_removeMessage wsX6_isMessage := goodIn_r _ [6, 1, 7, 8, 5, 9, 36, 37, 38, 39, 40, 41, 42, 43, 44, 45, 46, 47, 48, 49, 50, 51, 52, 53, 54] (by decide +kernel) (by decide +kernel)
set_option maxRecDepth 20000 in
theorem gX6_removeMessage_X6_isMessage : GoodIn wsX6_removeMessage (wsV RX6 87 RX6 yX6_isMessage wsX6_isMessage) := goodIn_app (goodIn_of _ (by decide +kernel)) ggX6_removeMessage_X6_isMessage
set_option maxRecDepth 20000 in
theorem ggX6_removeMessage_X6_copies : GoodIn wsX6_removeMessage wsX6_copies := goodIn_r _ [13, 14, 15, 16, 36, 37, 38, 39, 40, 41, 42, 43, 44, 45, 46, 47, 48, 49, 50, 51, 52, 53, 54] (by decide +kernel) (by decide +kernel)
set_option maxRecDepth 20000 in
theorem gX6_removeMessage_X6_copies : GoodIn wsX6_removeMessage (wsV RX6 83 RX6 yX6_copies wsX6_copies) := goodIn_app (goodIn_of _ (by decide +kernel)) ggX6_removeMessage_X6_copies
set_option maxRecDepth 20000 in
theorem ggX6_removeMessage_X6_settles : GoodIn wsX6_removeMessage wsX6_settles := goodIn_r _ [20, 21, 22, 23, 24, 5, 25, 1, 26, 27, 28, 29, 30, 31, 32, 33, 34, 14, 35, 16, 36, 37, 38, 39, 40, 41, 42, 43, 44, 45, 46, 47, 48, 49, 50, 51, 52, 53, 54] (by decide +kernel) (by decide +kernel)
set_option maxRecDepth 20000 in
theorem gX6_removeMessage_X6_settles : GoodIn wsX6_removeMessage (wsV RX6 77 RX6 yX6_settles wsX6_settles) := goodIn_app (goodIn_of _ (by decide +kernel)) ggX6_removeMessage_X6_settles
theorem dX6_removeMessage_0 : decode cX6_removeMessage 0 = .ok (.aload_n 0, 1) := by decide +kernel
theorem dX6_removeMessage_1 : decode cX6_removeMessage 1 = .ok (.iload_n 1, 1) := by decide +kernel
theorem dX6_removeMessage_2 : decode cX6_removeMessage 2 = .ok (.invokevirtual 87, 3) := by decide +kernel
theorem dX6_removeMessage_5 : decode cX6_removeMessage 5 = .ok (.ifCond .ne 6, 3) := by decide +kernel
theorem dX6_removeMessage_8 : decode cX6_removeMessage 8 = .ok (.bipush (-11), 2) := by decide +kernel
theorem dX6_removeMessage_10 : decode cX6_removeMessage 10 = .ok (.ireturn, 1) := by decide +kernel
theorem dX6_removeMessage_11 : decode cX6_removeMessage 11 = .ok (.aload_n 0, 1) := by decide +kernel
theorem dX6_removeMessage_12 : decode cX6_removeMessage 12 = .ok (.dup, 1) := by decide +kernel
theorem dX6_removeMessage_13 : decode cX6_removeMessage 13 = .ok (.getfield 54, 3) := by decide +kernel
theorem dX6_removeMessage_16 : decode cX6_removeMessage 16 = .ok (.iconst 1, 1) := by decide +kernel
theorem dX6_removeMessage_17 : decode cX6_removeMessage 17 = .ok (.isub, 1) := by decide +kernel
theorem dX6_removeMessage_18 : decode cX6_removeMessage 18 = .ok (.putfield 54, 3) := by decide +kernel
theorem dX6_removeMessage_21 : decode cX6_removeMessage 21 = .ok (.iload_n 1, 1) := by decide +kernel
theorem dX6_removeMessage_22 : decode cX6_removeMessage 22 = .ok (.istore_n 2, 1) := by decide +kernel
theorem dX6_removeMessage_23 : decode cX6_removeMessage 23 = .ok (.iload_n 2, 1) := by decide +kernel
theorem dX6_removeMessage_24 : decode cX6_removeMessage 24 = .ok (.aload_n 0, 1) := by decide +kernel
theorem dX6_removeMessage_25 : decode cX6_removeMessage 25 = .ok (.getfield 54, 3) := by decide +kernel
theorem dX6_removeMessage_28 : decode cX6_removeMessage 28 = .ok (.if_icmp .ge 17, 3) := by decide +kernel
theorem dX6_removeMessage_31 : decode cX6_removeMessage 31 = .ok (.aload_n 0, 1) := by decide +kernel
theorem dX6_removeMessage_32 : decode cX6_removeMessage 32 = .ok (.iload_n 2, 1) := by decide +kernel
theorem dX6_removeMessage_33 : decode cX6_removeMessage 33 = .ok (.iconst 1, 1) := by decide +kernel
theorem dX6_removeMessage_34 : decode cX6_removeMessage 34 = .ok (.iadd, 1) := by decide +kernel
theorem dX6_removeMessage_35 : decode cX6_removeMessage 35 = .ok (.iload_n 2, 1) := by decide +kernel
theorem dX6_removeMessage_36 : decode cX6_removeMessage 36 = .ok (.invokevirtual 83, 3) := by decide +kernel
theorem dX6_removeMessage_39 : decode cX6_removeMessage 39 = .ok (.iinc 2 1, 3) := by decide +kernel
theorem dX6_removeMessage_42 : decode cX6_removeMessage 42 = .ok (.goto (-19), 3) := by decide +kernel
theorem dX6_removeMessage_45 : decode cX6_removeMessage 45 = .ok (.aload_n 0, 1) := by decide +kernel
theorem dX6_removeMessage_46 : decode cX6_removeMessage 46 = .ok (.invokevirtual 77, 3) := by decide +kernel
theorem dX6_removeMessage_49 : decode cX6_removeMessage 49 = .ok (.ireturn, 1) := by decide +kernel
set_option maxRecDepth 20000 in
theorem ggX6_setColor_X6_isMessage : GoodIn wsX6_setColor wsX6_isMessage := goodIn_r _ [6, 7, 8, 9, 5, 10, 11, 12, 13, 14, 15, 16, 17, 18, 19, 20, 21, 22, 23, 24, 25, 26, 27, 28, 29] (by decide +kernel) (by decide +kernel)
set_option maxRecDepth 20000 in
theorem gX6_setColor_X6_isMessage : GoodIn wsX6_setColor (wsV RX6 87 RX6 yX6_isMessage wsX6_isMessage) := goodIn_app (goodIn_of _ (by decide +kernel)) ggX6_setColor_X6_isMessage
set_option maxRecDepth 20000 in
theorem ggX6_setColor_X6_in : GoodIn wsX6_setColor wsX6_in := goodIn_r _ [10] (by decide +kernel) (by decide +kernel)
set_option maxRecDepth 20000 in
theorem gX6_setColor_X6_in : GoodIn wsX6_setColor (va_wsS RX6 73 yX6_in wsX6_in) := goodIn_app (goodIn_of _ (by decide +kernel)) ggX6_setColor_X6_in
theorem dX6_setColor_0 : decode cX6_setColor 0 = .ok (.aload_n 0, 1) := by decide +kernel
theorem dX6_setColor_1 : decode cX6_setColor 1 = .ok (.iload_n 1, 1) := by decide +kernel
theorem dX6_setColor_2 : decode cX6_setColor 2 = .ok (.invokevirtual 87, 3) := by decide +kernel
theorem dX6_setColor_5 : decode cX6_setColor 5 = .ok (.ifCond .eq 12, 3) := by decide +kernel
theorem dX6_setColor_8 : decode cX6_setColor 8 = .ok (.iload_n 2, 1) := by decide +kernel
theorem dX6_setColor_9 : decode cX6_setColor 9 = .ok (.iconst 1, 1) := by decide +kernel
theorem dX6_setColor_10 : decode cX6_setColor 10 = .ok (.iconst 3, 1) := by decide +kernel
theorem dX6_setColor_11 : decode cX6_setColor 11 = .ok (.invokestatic 73, 3) := by decide +kernel
theorem dX6_setColor_14 : decode cX6_setColor 14 = .ok (.ifCond .ne 6, 3) := by decide +kernel
theorem dX6_setColor_17 : decode cX6_setColor 17 = .ok (.bipush (-11), 2) := by decide +kernel
theorem dX6_setColor_19 : decode cX6_setColor 19 = .ok (.ireturn, 1) := by decide +kernel
theorem dX6_setColor_20 : decode cX6_setColor 20 = .ok (.aload_n 0, 1) := by decide +kernel
theorem dX6_setColor_21 : decode cX6_setColor 21 = .ok (.getfield 38, 3) := by decide +kernel
theorem dX6_setColor_24 : decode cX6_setColor 24 = .ok (.iload_n 1, 1) := by decide +kernel
theorem dX6_setColor_25 : decode cX6_setColor 25 = .ok (.iaload, 1) := by decide +kernel
theorem dX6_setColor_26 : decode cX6_setColor 26 = .ok (.istore_n 3, 1) := by decide +kernel
theorem dX6_setColor_27 : decode cX6_setColor 27 = .ok (.aload_n 0, 1) := by decide +kernel
theorem dX6_setColor_28 : decode cX6_setColor 28 = .ok (.getfield 38, 3) := by decide +kernel
theorem dX6_setColor_31 : decode cX6_setColor 31 = .ok (.iload_n 1, 1) := by decide +kernel
theorem dX6_setColor_32 : decode cX6_setColor 32 = .ok (.iload_n 2, 1) := by decide +kernel
theorem dX6_setColor_33 : decode cX6_setColor 33 = .ok (.iastore, 1) := by decide +kernel
theorem dX6_setColor_34 : decode cX6_setColor 34 = .ok (.iload_n 3, 1) := by decide +kernel
theorem dX6_setColor_35 : decode cX6_setColor 35 = .ok (.ireturn, 1) := by decide +kernel
set_option maxRecDepth 20000 in
theorem ggX6_messageWidth_X6_isMessage : GoodIn wsX6_messageWidth wsX6_isMessage := goodIn_r _ [5, 6, 7, 8, 4, 9, 17, 18, 19, 20, 21, 22, 23, 24, 25, 26, 27, 28, 29, 30, 31, 32, 33, 34, 35] (by decide +kernel) (by decide +kernel)
set_option maxRecDepth 20000 in
theorem gX6_messageWidth_X6_isMessage : GoodIn wsX6_messageWidth (wsV RX6 87 RX6 yX6_isMessage wsX6_isMessage) := goodIn_app (goodIn_of _ (by decide +kernel)) ggX6_messageWidth_X6_isMessage
set_option maxRecDepth 20000 in
theorem ggX6_messageWidth_X6_widthOf : GoodIn wsX6_messageWidth wsX6_widthOf := goodIn_r _ [13, 14, 15, 16, 17, 18, 19, 20, 21, 22, 23, 24, 25, 26, 27, 28, 29, 30, 31, 32, 33, 34, 35] (by decide +kernel) (by decide +kernel)
set_option maxRecDepth 20000 in
theorem gX6_messageWidth_X6_widthOf : GoodIn wsX6_messageWidth (wsV RX6 50 RX6 yX6_widthOf wsX6_widthOf) := goodIn_app (goodIn_of _ (by decide +kernel)) ggX6_messageWidth_X6_widthOf
theorem dX6_messageWidth_0 : decode cX6_messageWidth 0 = .ok (.aload_n 0, 1) := by decide +kernel
theorem dX6_messageWidth_1 : decode cX6_messageWidth 1 = .ok (.iload_n 1, 1) := by decide +kernel
theorem dX6_messageWidth_2 : decode cX6_messageWidth 2 = .ok (.invokevirtual 87, 3) := by decide +kernel
theorem dX6_messageWidth_5 : decode cX6_messageWidth 5 = .ok (.ifCond .eq 11, 3) := by decide +kernel
theorem dX6_messageWidth_8 : decode cX6_messageWidth 8 = .ok (.aload_n 0, 1) := by decide +kernel
theorem dX6_messageWidth_9 : decode cX6_messageWidth 9 = .ok (.iload_n 1, 1) := by decide +kernel
theorem dX6_messageWidth_10 : decode cX6_messageWidth 10 = .ok (.invokevirtual 50, 3) := by decide +kernel
theorem dX6_messageWidth_13 : decode cX6_messageWidth 13 = .ok (.goto 5, 3) := by decide +kernel
theorem dX6_messageWidth_16 : decode cX6_messageWidth 16 = .ok (.bipush (-11), 2) := by decide +kernel
theorem dX6_messageWidth_18 : decode cX6_messageWidth 18 = .ok (.ireturn, 1) := by decide +kernel
set_option maxRecDepth 20000 in
theorem ggX6_messageStart_X6_isMessage : GoodIn wsX6_messageStart wsX6_isMessage := goodIn_r _ [5, 6, 7, 8, 4, 9, 22, 23, 24, 25, 26, 27, 28, 29, 30, 31, 32, 33, 34, 35, 36, 37, 38, 39, 40] (by decide +kernel) (by decide +kernel)
set_option maxRecDepth 20000 in
theorem gX6_messageStart_X6_isMessage : GoodIn wsX6_messageStart (wsV RX6 87 RX6 yX6_isMessage wsX6_isMessage) := goodIn_app (goodIn_of _ (by decide +kernel)) ggX6_messageStart_X6_isMessage
set_option maxRecDepth 20000 in
theorem ggX6_messageStart_X6_startOf : GoodIn wsX6_messageStart wsX6_startOf := goodIn_r _ [13, 14, 15, 16, 17, 4, 18, 19, 20, 21, 22, 23, 24, 25, 26, 27, 28, 29, 30, 31, 32, 33, 34, 35, 36, 37, 38, 39, 40] (by decide +kernel) (by decide +kernel)
set_option maxRecDepth 20000 in
theorem gX6_messageStart_X6_startOf : GoodIn wsX6_messageStart (wsV RX6 57 RX6 yX6_startOf wsX6_startOf) := goodIn_app (goodIn_of _ (by decide +kernel)) ggX6_messageStart_X6_startOf
theorem dX6_messageStart_0 : decode cX6_messageStart 0 = .ok (.aload_n 0, 1) := by decide +kernel
theorem dX6_messageStart_1 : decode cX6_messageStart 1 = .ok (.iload_n 1, 1) := by decide +kernel
theorem dX6_messageStart_2 : decode cX6_messageStart 2 = .ok (.invokevirtual 87, 3) := by decide +kernel
theorem dX6_messageStart_5 : decode cX6_messageStart 5 = .ok (.ifCond .eq 11, 3) := by decide +kernel
theorem dX6_messageStart_8 : decode cX6_messageStart 8 = .ok (.aload_n 0, 1) := by decide +kernel
theorem dX6_messageStart_9 : decode cX6_messageStart 9 = .ok (.iload_n 1, 1) := by decide +kernel
theorem dX6_messageStart_10 : decode cX6_messageStart 10 = .ok (.invokevirtual 57, 3) := by decide +kernel
theorem dX6_messageStart_13 : decode cX6_messageStart 13 = .ok (.goto 5, 3) := by decide +kernel
theorem dX6_messageStart_16 : decode cX6_messageStart 16 = .ok (.bipush (-11), 2) := by decide +kernel
theorem dX6_messageStart_18 : decode cX6_messageStart 18 = .ok (.ireturn, 1) := by decide +kernel
set_option maxRecDepth 20000 in
theorem ggX6_setColumns_X6_in : GoodIn wsX6_setColumns wsX6_in := goodIn_r _ [6] (by decide +kernel) (by decide +kernel)
set_option maxRecDepth 20000 in
theorem gX6_setColumns_X6_in : GoodIn wsX6_setColumns (va_wsS RX6 73 yX6_in wsX6_in) := goodIn_app (goodIn_of _ (by decide +kernel)) ggX6_setColumns_X6_in
theorem dX6_setColumns_0 : decode cX6_setColumns 0 = .ok (.iload_n 1, 1) := by decide +kernel
theorem dX6_setColumns_1 : decode cX6_setColumns 1 = .ok (.bipush 8, 2) := by decide +kernel
theorem dX6_setColumns_3 : decode cX6_setColumns 3 = .ok (.bipush 32, 2) := by decide +kernel
theorem dX6_setColumns_5 : decode cX6_setColumns 5 = .ok (.invokestatic 73, 3) := by decide +kernel
theorem dX6_setColumns_8 : decode cX6_setColumns 8 = .ok (.ifCond .ne 6, 3) := by decide +kernel
theorem dX6_setColumns_11 : decode cX6_setColumns 11 = .ok (.bipush (-11), 2) := by decide +kernel
theorem dX6_setColumns_13 : decode cX6_setColumns 13 = .ok (.ireturn, 1) := by decide +kernel
theorem dX6_setColumns_14 : decode cX6_setColumns 14 = .ok (.aload_n 0, 1) := by decide +kernel
theorem dX6_setColumns_15 : decode cX6_setColumns 15 = .ok (.getfield 7, 3) := by decide +kernel
theorem dX6_setColumns_18 : decode cX6_setColumns 18 = .ok (.istore_n 2, 1) := by decide +kernel
theorem dX6_setColumns_19 : decode cX6_setColumns 19 = .ok (.aload_n 0, 1) := by decide +kernel
theorem dX6_setColumns_20 : decode cX6_setColumns 20 = .ok (.iload_n 1, 1) := by decide +kernel
theorem dX6_setColumns_21 : decode cX6_setColumns 21 = .ok (.putfield 7, 3) := by decide +kernel
theorem dX6_setColumns_24 : decode cX6_setColumns 24 = .ok (.iload_n 1, 1) := by decide +kernel
theorem dX6_setColumns_25 : decode cX6_setColumns 25 = .ok (.istore_n 3, 1) := by decide +kernel
theorem dX6_setColumns_26 : decode cX6_setColumns 26 = .ok (.iload_n 3, 1) := by decide +kernel
theorem dX6_setColumns_27 : decode cX6_setColumns 27 = .ok (.bipush 32, 2) := by decide +kernel
theorem dX6_setColumns_29 : decode cX6_setColumns 29 = .ok (.if_icmp .ge 16, 3) := by decide +kernel
theorem dX6_setColumns_32 : decode cX6_setColumns 32 = .ok (.aload_n 0, 1) := by decide +kernel
theorem dX6_setColumns_33 : decode cX6_setColumns 33 = .ok (.getfield 29, 3) := by decide +kernel
theorem dX6_setColumns_36 : decode cX6_setColumns 36 = .ok (.iload_n 3, 1) := by decide +kernel
theorem dX6_setColumns_37 : decode cX6_setColumns 37 = .ok (.iconst 0, 1) := by decide +kernel
theorem dX6_setColumns_38 : decode cX6_setColumns 38 = .ok (.iastore, 1) := by decide +kernel
theorem dX6_setColumns_39 : decode cX6_setColumns 39 = .ok (.iinc 3 1, 3) := by decide +kernel
theorem dX6_setColumns_42 : decode cX6_setColumns 42 = .ok (.goto (-16), 3) := by decide +kernel
theorem dX6_setColumns_45 : decode cX6_setColumns 45 = .ok (.iload_n 2, 1) := by decide +kernel
theorem dX6_setColumns_46 : decode cX6_setColumns 46 = .ok (.ireturn, 1) := by decide +kernel
set_option maxRecDepth 20000 in
theorem ggX6_setGap_X6_in : GoodIn wsX6_setGap wsX6_in := goodIn_r _ [5] (by decide +kernel) (by decide +kernel)
set_option maxRecDepth 20000 in
theorem gX6_setGap_X6_in : GoodIn wsX6_setGap (va_wsS RX6 73 yX6_in wsX6_in) := goodIn_app (goodIn_of _ (by decide +kernel)) ggX6_setGap_X6_in
set_option maxRecDepth 20000 in
theorem ggX6_setGap_X6_settles : GoodIn wsX6_setGap wsX6_settles := goodIn_r _ [9, 10, 11, 12, 13, 4, 14, 15, 16, 17, 18, 19, 1, 20, 21, 22, 23, 24, 25, 26, 27, 28, 29, 30, 31, 32, 33, 34, 35, 36, 37, 38, 39, 40, 41, 42, 43, 44, 45] (by decide +kernel) (by decide +kernel)
set_option maxRecDepth 20000 in
theorem gX6_setGap_X6_settles : GoodIn wsX6_setGap (wsV RX6 77 RX6 yX6_settles wsX6_settles) := goodIn_app (goodIn_of _ (by decide +kernel)) ggX6_setGap_X6_settles
theorem dX6_setGap_0 : decode cX6_setGap 0 = .ok (.iload_n 1, 1) := by decide +kernel
theorem dX6_setGap_1 : decode cX6_setGap 1 = .ok (.iconst 0, 1) := by decide +kernel
theorem dX6_setGap_2 : decode cX6_setGap 2 = .ok (.bipush 9, 2) := by decide +kernel
theorem dX6_setGap_4 : decode cX6_setGap 4 = .ok (.invokestatic 73, 3) := by decide +kernel
theorem dX6_setGap_7 : decode cX6_setGap 7 = .ok (.ifCond .ne 6, 3) := by decide +kernel
theorem dX6_setGap_10 : decode cX6_setGap 10 = .ok (.bipush (-11), 2) := by decide +kernel
theorem dX6_setGap_12 : decode cX6_setGap 12 = .ok (.ireturn, 1) := by decide +kernel
theorem dX6_setGap_13 : decode cX6_setGap 13 = .ok (.aload_n 0, 1) := by decide +kernel
theorem dX6_setGap_14 : decode cX6_setGap 14 = .ok (.getfield 13, 3) := by decide +kernel
theorem dX6_setGap_17 : decode cX6_setGap 17 = .ok (.istore_n 2, 1) := by decide +kernel
theorem dX6_setGap_18 : decode cX6_setGap 18 = .ok (.aload_n 0, 1) := by decide +kernel
theorem dX6_setGap_19 : decode cX6_setGap 19 = .ok (.iload_n 1, 1) := by decide +kernel
theorem dX6_setGap_20 : decode cX6_setGap 20 = .ok (.putfield 13, 3) := by decide +kernel
theorem dX6_setGap_23 : decode cX6_setGap 23 = .ok (.aload_n 0, 1) := by decide +kernel
theorem dX6_setGap_24 : decode cX6_setGap 24 = .ok (.invokevirtual 77, 3) := by decide +kernel
theorem dX6_setGap_27 : decode cX6_setGap 27 = .ok (.pop, 1) := by decide +kernel
theorem dX6_setGap_28 : decode cX6_setGap 28 = .ok (.iload_n 2, 1) := by decide +kernel
theorem dX6_setGap_29 : decode cX6_setGap 29 = .ok (.ireturn, 1) := by decide +kernel
set_option maxRecDepth 20000 in
theorem ggX6_setSpeed_X6_in : GoodIn wsX6_setSpeed wsX6_in := goodIn_r _ [6] (by decide +kernel) (by decide +kernel)
set_option maxRecDepth 20000 in
theorem gX6_setSpeed_X6_in : GoodIn wsX6_setSpeed (va_wsS RX6 73 yX6_in wsX6_in) := goodIn_app (goodIn_of _ (by decide +kernel)) ggX6_setSpeed_X6_in
theorem dX6_setSpeed_0 : decode cX6_setSpeed 0 = .ok (.iload_n 1, 1) := by decide +kernel
theorem dX6_setSpeed_1 : decode cX6_setSpeed 1 = .ok (.iconst 1, 1) := by decide +kernel
theorem dX6_setSpeed_2 : decode cX6_setSpeed 2 = .ok (.bipush 9, 2) := by decide +kernel
theorem dX6_setSpeed_4 : decode cX6_setSpeed 4 = .ok (.invokestatic 73, 3) := by decide +kernel
theorem dX6_setSpeed_7 : decode cX6_setSpeed 7 = .ok (.ifCond .ne 6, 3) := by decide +kernel
theorem dX6_setSpeed_10 : decode cX6_setSpeed 10 = .ok (.bipush (-11), 2) := by decide +kernel
theorem dX6_setSpeed_12 : decode cX6_setSpeed 12 = .ok (.ireturn, 1) := by decide +kernel
theorem dX6_setSpeed_13 : decode cX6_setSpeed 13 = .ok (.aload_n 0, 1) := by decide +kernel
theorem dX6_setSpeed_14 : decode cX6_setSpeed 14 = .ok (.getfield 16, 3) := by decide +kernel
theorem dX6_setSpeed_17 : decode cX6_setSpeed 17 = .ok (.istore_n 2, 1) := by decide +kernel
theorem dX6_setSpeed_18 : decode cX6_setSpeed 18 = .ok (.aload_n 0, 1) := by decide +kernel
theorem dX6_setSpeed_19 : decode cX6_setSpeed 19 = .ok (.iload_n 1, 1) := by decide +kernel
theorem dX6_setSpeed_20 : decode cX6_setSpeed 20 = .ok (.putfield 16, 3) := by decide +kernel
theorem dX6_setSpeed_23 : decode cX6_setSpeed 23 = .ok (.aload_n 0, 1) := by decide +kernel
theorem dX6_setSpeed_24 : decode cX6_setSpeed 24 = .ok (.iconst 0, 1) := by decide +kernel
theorem dX6_setSpeed_25 : decode cX6_setSpeed 25 = .ok (.putfield 91, 3) := by decide +kernel
theorem dX6_setSpeed_28 : decode cX6_setSpeed 28 = .ok (.iload_n 2, 1) := by decide +kernel
theorem dX6_setSpeed_29 : decode cX6_setSpeed 29 = .ok (.ireturn, 1) := by decide +kernel
set_option maxRecDepth 20000 in
theorem ggX6_setShift_X6_in : GoodIn wsX6_setShift wsX6_in := goodIn_r _ [5] (by decide +kernel) (by decide +kernel)
set_option maxRecDepth 20000 in
theorem gX6_setShift_X6_in : GoodIn wsX6_setShift (va_wsS RX6 73 yX6_in wsX6_in) := goodIn_app (goodIn_of _ (by decide +kernel)) ggX6_setShift_X6_in
theorem dX6_setShift_0 : decode cX6_setShift 0 = .ok (.iload_n 1, 1) := by decide +kernel
theorem dX6_setShift_1 : decode cX6_setShift 1 = .ok (.bipush (-2), 2) := by decide +kernel
theorem dX6_setShift_3 : decode cX6_setShift 3 = .ok (.iconst 2, 1) := by decide +kernel
theorem dX6_setShift_4 : decode cX6_setShift 4 = .ok (.invokestatic 73, 3) := by decide +kernel
theorem dX6_setShift_7 : decode cX6_setShift 7 = .ok (.ifCond .ne 6, 3) := by decide +kernel
theorem dX6_setShift_10 : decode cX6_setShift 10 = .ok (.bipush (-11), 2) := by decide +kernel
theorem dX6_setShift_12 : decode cX6_setShift 12 = .ok (.ireturn, 1) := by decide +kernel
theorem dX6_setShift_13 : decode cX6_setShift 13 = .ok (.aload_n 0, 1) := by decide +kernel
theorem dX6_setShift_14 : decode cX6_setShift 14 = .ok (.getfield 94, 3) := by decide +kernel
theorem dX6_setShift_17 : decode cX6_setShift 17 = .ok (.istore_n 2, 1) := by decide +kernel
theorem dX6_setShift_18 : decode cX6_setShift 18 = .ok (.aload_n 0, 1) := by decide +kernel
theorem dX6_setShift_19 : decode cX6_setShift 19 = .ok (.iload_n 1, 1) := by decide +kernel
theorem dX6_setShift_20 : decode cX6_setShift 20 = .ok (.putfield 94, 3) := by decide +kernel
theorem dX6_setShift_23 : decode cX6_setShift 23 = .ok (.iload_n 2, 1) := by decide +kernel
theorem dX6_setShift_24 : decode cX6_setShift 24 = .ok (.ireturn, 1) := by decide +kernel
set_option maxRecDepth 20000 in
theorem ggX6_setBudget_X6_in : GoodIn wsX6_setBudget wsX6_in := goodIn_r _ [5] (by decide +kernel) (by decide +kernel)
set_option maxRecDepth 20000 in
theorem gX6_setBudget_X6_in : GoodIn wsX6_setBudget (va_wsS RX6 73 yX6_in wsX6_in) := goodIn_app (goodIn_of _ (by decide +kernel)) ggX6_setBudget_X6_in
theorem dX6_setBudget_0 : decode cX6_setBudget 0 = .ok (.iload_n 1, 1) := by decide +kernel
theorem dX6_setBudget_1 : decode cX6_setBudget 1 = .ok (.iconst 1, 1) := by decide +kernel
theorem dX6_setBudget_2 : decode cX6_setBudget 2 = .ok (.sipush 999, 3) := by decide +kernel
theorem dX6_setBudget_5 : decode cX6_setBudget 5 = .ok (.invokestatic 73, 3) := by decide +kernel
theorem dX6_setBudget_8 : decode cX6_setBudget 8 = .ok (.ifCond .ne 6, 3) := by decide +kernel
theorem dX6_setBudget_11 : decode cX6_setBudget 11 = .ok (.bipush (-11), 2) := by decide +kernel
theorem dX6_setBudget_13 : decode cX6_setBudget 13 = .ok (.ireturn, 1) := by decide +kernel
theorem dX6_setBudget_14 : decode cX6_setBudget 14 = .ok (.aload_n 0, 1) := by decide +kernel
theorem dX6_setBudget_15 : decode cX6_setBudget 15 = .ok (.getfield 19, 3) := by decide +kernel
theorem dX6_setBudget_18 : decode cX6_setBudget 18 = .ok (.istore_n 2, 1) := by decide +kernel
theorem dX6_setBudget_19 : decode cX6_setBudget 19 = .ok (.aload_n 0, 1) := by decide +kernel
theorem dX6_setBudget_20 : decode cX6_setBudget 20 = .ok (.iload_n 1, 1) := by decide +kernel
theorem dX6_setBudget_21 : decode cX6_setBudget 21 = .ok (.putfield 19, 3) := by decide +kernel
theorem dX6_setBudget_24 : decode cX6_setBudget 24 = .ok (.iload_n 2, 1) := by decide +kernel
theorem dX6_setBudget_25 : decode cX6_setBudget 25 = .ok (.ireturn, 1) := by decide +kernel
set_option maxRecDepth 20000 in
theorem ggX6_setDefective_X6_in : GoodIn wsX6_setDefective wsX6_in := goodIn_r _ [6] (by decide +kernel) (by decide +kernel)
set_option maxRecDepth 20000 in
theorem gX6_setDefective_X6_in : GoodIn wsX6_setDefective (va_wsS RX6 73 yX6_in wsX6_in) := goodIn_app (goodIn_of _ (by decide +kernel)) ggX6_setDefective_X6_in
set_option maxRecDepth 20000 in
theorem ggX6_setDefective_X6_has : GoodIn wsX6_setDefective wsX6_has := goodIn_r _ [9] (by decide +kernel) (by decide +kernel)
set_option maxRecDepth 20000 in
theorem gX6_setDefective_X6_has : GoodIn wsX6_setDefective (va_wsS RX6 97 yX6_has wsX6_has) := goodIn_app (goodIn_of _ (by decide +kernel)) ggX6_setDefective_X6_has
theorem dX6_setDefective_0 : decode cX6_setDefective 0 = .ok (.iload_n 1, 1) := by decide +kernel
theorem dX6_setDefective_1 : decode cX6_setDefective 1 = .ok (.iconst 0, 1) := by decide +kernel
theorem dX6_setDefective_2 : decode cX6_setDefective 2 = .ok (.bipush 7, 2) := by decide +kernel
theorem dX6_setDefective_4 : decode cX6_setDefective 4 = .ok (.invokestatic 73, 3) := by decide +kernel
theorem dX6_setDefective_7 : decode cX6_setDefective 7 = .ok (.ifCond .eq 17, 3) := by decide +kernel
theorem dX6_setDefective_10 : decode cX6_setDefective 10 = .ok (.iload_n 2, 1) := by decide +kernel
theorem dX6_setDefective_11 : decode cX6_setDefective 11 = .ok (.iconst 0, 1) := by decide +kernel
theorem dX6_setDefective_12 : decode cX6_setDefective 12 = .ok (.aload_n 0, 1) := by decide +kernel
theorem dX6_setDefective_13 : decode cX6_setDefective 13 = .ok (.getfield 7, 3) := by decide +kernel
theorem dX6_setDefective_16 : decode cX6_setDefective 16 = .ok (.iconst 1, 1) := by decide +kernel
theorem dX6_setDefective_17 : decode cX6_setDefective 17 = .ok (.isub, 1) := by decide +kernel
theorem dX6_setDefective_18 : decode cX6_setDefective 18 = .ok (.invokestatic 73, 3) := by decide +kernel
theorem dX6_setDefective_21 : decode cX6_setDefective 21 = .ok (.ifCond .ne 6, 3) := by decide +kernel
theorem dX6_setDefective_24 : decode cX6_setDefective 24 = .ok (.bipush (-11), 2) := by decide +kernel
theorem dX6_setDefective_26 : decode cX6_setDefective 26 = .ok (.ireturn, 1) := by decide +kernel
theorem dX6_setDefective_27 : decode cX6_setDefective 27 = .ok (.aload_n 0, 1) := by decide +kernel
theorem dX6_setDefective_28 : decode cX6_setDefective 28 = .ok (.getfield 29, 3) := by decide +kernel
theorem dX6_setDefective_31 : decode cX6_setDefective 31 = .ok (.iload_n 2, 1) := by decide +kernel
theorem dX6_setDefective_32 : decode cX6_setDefective 32 = .ok (.iaload, 1) := by decide +kernel
theorem dX6_setDefective_33 : decode cX6_setDefective 33 = .ok (.iload_n 1, 1) := by decide +kernel
theorem dX6_setDefective_34 : decode cX6_setDefective 34 = .ok (.invokestatic 97, 3) := by decide +kernel
theorem dX6_setDefective_37 : decode cX6_setDefective 37 = .ok (.iload_n 3, 1) := by decide +kernel
theorem dX6_setDefective_38 : decode cX6_setDefective 38 = .ok (.if_icmp .ne 6, 3) := by decide +kernel
theorem dX6_setDefective_41 : decode cX6_setDefective 41 = .ok (.bipush (-12), 2) := by decide +kernel
theorem dX6_setDefective_43 : decode cX6_setDefective 43 = .ok (.ireturn, 1) := by decide +kernel
theorem dX6_setDefective_44 : decode cX6_setDefective 44 = .ok (.aload_n 0, 1) := by decide +kernel
theorem dX6_setDefective_45 : decode cX6_setDefective 45 = .ok (.getfield 29, 3) := by decide +kernel
theorem dX6_setDefective_48 : decode cX6_setDefective 48 = .ok (.iload_n 2, 1) := by decide +kernel
theorem dX6_setDefective_49 : decode cX6_setDefective 49 = .ok (.dup2, 1) := by decide +kernel
theorem dX6_setDefective_50 : decode cX6_setDefective 50 = .ok (.iaload, 1) := by decide +kernel
theorem dX6_setDefective_51 : decode cX6_setDefective 51 = .ok (.iconst 1, 1) := by decide +kernel
theorem dX6_setDefective_52 : decode cX6_setDefective 52 = .ok (.iload_n 1, 1) := by decide +kernel
theorem dX6_setDefective_53 : decode cX6_setDefective 53 = .ok (.ishl, 1) := by decide +kernel
theorem dX6_setDefective_54 : decode cX6_setDefective 54 = .ok (.ixor, 1) := by decide +kernel
theorem dX6_setDefective_55 : decode cX6_setDefective 55 = .ok (.iastore, 1) := by decide +kernel
theorem dX6_setDefective_56 : decode cX6_setDefective 56 = .ok (.iconst 0, 1) := by decide +kernel
theorem dX6_setDefective_57 : decode cX6_setDefective 57 = .ok (.istore 4, 2) := by decide +kernel
theorem dX6_setDefective_59 : decode cX6_setDefective 59 = .ok (.iconst 0, 1) := by decide +kernel
theorem dX6_setDefective_60 : decode cX6_setDefective 60 = .ok (.istore 5, 2) := by decide +kernel
theorem dX6_setDefective_62 : decode cX6_setDefective 62 = .ok (.iload 5, 2) := by decide +kernel
theorem dX6_setDefective_64 : decode cX6_setDefective 64 = .ok (.aload_n 0, 1) := by decide +kernel
theorem dX6_setDefective_65 : decode cX6_setDefective 65 = .ok (.getfield 7, 3) := by decide +kernel
theorem dX6_setDefective_68 : decode cX6_setDefective 68 = .ok (.if_icmp .ge 50, 3) := by decide +kernel
theorem dX6_setDefective_71 : decode cX6_setDefective 71 = .ok (.iconst 0, 1) := by decide +kernel
theorem dX6_setDefective_72 : decode cX6_setDefective 72 = .ok (.istore 6, 2) := by decide +kernel
theorem dX6_setDefective_74 : decode cX6_setDefective 74 = .ok (.iload 6, 2) := by decide +kernel
theorem dX6_setDefective_76 : decode cX6_setDefective 76 = .ok (.bipush 8, 2) := by decide +kernel
theorem dX6_setDefective_78 : decode cX6_setDefective 78 = .ok (.if_icmp .ge 34, 3) := by decide +kernel
theorem dX6_setDefective_81 : decode cX6_setDefective 81 = .ok (.iload 4, 2) := by decide +kernel
theorem dX6_setDefective_83 : decode cX6_setDefective 83 = .ok (.aload_n 0, 1) := by decide +kernel
theorem dX6_setDefective_84 : decode cX6_setDefective 84 = .ok (.getfield 29, 3) := by decide +kernel
theorem dX6_setDefective_87 : decode cX6_setDefective 87 = .ok (.iload 5, 2) := by decide +kernel
theorem dX6_setDefective_89 : decode cX6_setDefective 89 = .ok (.iaload, 1) := by decide +kernel
theorem dX6_setDefective_90 : decode cX6_setDefective 90 = .ok (.iload 6, 2) := by decide +kernel
theorem dX6_setDefective_92 : decode cX6_setDefective 92 = .ok (.invokestatic 97, 3) := by decide +kernel
theorem dX6_setDefective_95 : decode cX6_setDefective 95 = .ok (.ifCond .eq 7, 3) := by decide +kernel
theorem dX6_setDefective_98 : decode cX6_setDefective 98 = .ok (.iconst 1, 1) := by decide +kernel
theorem dX6_setDefective_99 : decode cX6_setDefective 99 = .ok (.goto 4, 3) := by decide +kernel
theorem dX6_setDefective_102 : decode cX6_setDefective 102 = .ok (.iconst 0, 1) := by decide +kernel
theorem dX6_setDefective_103 : decode cX6_setDefective 103 = .ok (.iadd, 1) := by decide +kernel
theorem dX6_setDefective_104 : decode cX6_setDefective 104 = .ok (.istore 4, 2) := by decide +kernel
theorem dX6_setDefective_106 : decode cX6_setDefective 106 = .ok (.iinc 6 1, 3) := by decide +kernel
theorem dX6_setDefective_109 : decode cX6_setDefective 109 = .ok (.goto (-35), 3) := by decide +kernel
theorem dX6_setDefective_112 : decode cX6_setDefective 112 = .ok (.iinc 5 1, 3) := by decide +kernel
theorem dX6_setDefective_115 : decode cX6_setDefective 115 = .ok (.goto (-53), 3) := by decide +kernel
theorem dX6_setDefective_118 : decode cX6_setDefective 118 = .ok (.iload 4, 2) := by decide +kernel
end
section
theorem dX6_setDefective_120 : decode cX6_setDefective 120 = .ok (.ireturn, 1) := by decide +kernel
set_option maxRecDepth 20000 in
theorem ggX6_tick_X6_in : GoodIn wsX6_tick wsX6_in := goodIn_r _ [7] (by decide +kernel) (by decide +kernel)
set_option maxRecDepth 20000 in
theorem gX6_tick_X6_in : GoodIn wsX6_tick (va_wsS RX6 73 yX6_in wsX6_in) := goodIn_app (goodIn_of _ (by decide +kernel)) ggX6_tick_X6_in
set_option maxRecDepth 20000 in
theorem ggX6_tick_X6_all : GoodIn wsX6_tick wsX6_all := goodIn_r _ [11, 12, 13, 14, 15, 6, 16, 17, 18, 19, 20, 21, 22, 23, 24, 25, 26, 27, 28, 29, 30, 31, 32, 33, 34, 35, 36, 37, 38, 39, 40, 41, 42, 43] (by decide +kernel) (by decide +kernel)
set_option maxRecDepth 20000 in
theorem gX6_tick_X6_all : GoodIn wsX6_tick (wsV RX6 60 RX6 yX6_all wsX6_all) := goodIn_app (goodIn_of _ (by decide +kernel)) ggX6_tick_X6_all
theorem dX6_tick_0 : decode cX6_tick 0 = .ok (.iload_n 1, 1) := by decide +kernel
theorem dX6_tick_1 : decode cX6_tick 1 = .ok (.iconst 0, 1) := by decide +kernel
theorem dX6_tick_2 : decode cX6_tick 2 = .ok (.sipush 9999, 3) := by decide +kernel
theorem dX6_tick_5 : decode cX6_tick 5 = .ok (.invokestatic 73, 3) := by decide +kernel
theorem dX6_tick_8 : decode cX6_tick 8 = .ok (.ifCond .ne 6, 3) := by decide +kernel
theorem dX6_tick_11 : decode cX6_tick 11 = .ok (.bipush (-11), 2) := by decide +kernel
theorem dX6_tick_13 : decode cX6_tick 13 = .ok (.ireturn, 1) := by decide +kernel
theorem dX6_tick_14 : decode cX6_tick 14 = .ok (.aload_n 0, 1) := by decide +kernel
theorem dX6_tick_15 : decode cX6_tick 15 = .ok (.getfield 91, 3) := by decide +kernel
theorem dX6_tick_18 : decode cX6_tick 18 = .ok (.iload_n 1, 1) := by decide +kernel
theorem dX6_tick_19 : decode cX6_tick 19 = .ok (.iadd, 1) := by decide +kernel
theorem dX6_tick_20 : decode cX6_tick 20 = .ok (.aload_n 0, 1) := by decide +kernel
theorem dX6_tick_21 : decode cX6_tick 21 = .ok (.getfield 16, 3) := by decide +kernel
theorem dX6_tick_24 : decode cX6_tick 24 = .ok (.idiv, 1) := by decide +kernel
theorem dX6_tick_25 : decode cX6_tick 25 = .ok (.istore_n 2, 1) := by decide +kernel
theorem dX6_tick_26 : decode cX6_tick 26 = .ok (.aload_n 0, 1) := by decide +kernel
theorem dX6_tick_27 : decode cX6_tick 27 = .ok (.aload_n 0, 1) := by decide +kernel
theorem dX6_tick_28 : decode cX6_tick 28 = .ok (.getfield 91, 3) := by decide +kernel
theorem dX6_tick_31 : decode cX6_tick 31 = .ok (.iload_n 1, 1) := by decide +kernel
theorem dX6_tick_32 : decode cX6_tick 32 = .ok (.iadd, 1) := by decide +kernel
theorem dX6_tick_33 : decode cX6_tick 33 = .ok (.aload_n 0, 1) := by decide +kernel
theorem dX6_tick_34 : decode cX6_tick 34 = .ok (.getfield 16, 3) := by decide +kernel
theorem dX6_tick_37 : decode cX6_tick 37 = .ok (.irem, 1) := by decide +kernel
theorem dX6_tick_38 : decode cX6_tick 38 = .ok (.putfield 91, 3) := by decide +kernel
theorem dX6_tick_41 : decode cX6_tick 41 = .ok (.aload_n 0, 1) := by decide +kernel
theorem dX6_tick_42 : decode cX6_tick 42 = .ok (.invokevirtual 60, 3) := by decide +kernel
theorem dX6_tick_45 : decode cX6_tick 45 = .ok (.istore_n 3, 1) := by decide +kernel
theorem dX6_tick_46 : decode cX6_tick 46 = .ok (.aload_n 0, 1) := by decide +kernel
theorem dX6_tick_47 : decode cX6_tick 47 = .ok (.iload_n 3, 1) := by decide +kernel
theorem dX6_tick_48 : decode cX6_tick 48 = .ok (.ifCond .ne 7, 3) := by decide +kernel
theorem dX6_tick_51 : decode cX6_tick 51 = .ok (.iconst 0, 1) := by decide +kernel
theorem dX6_tick_52 : decode cX6_tick 52 = .ok (.goto 11, 3) := by decide +kernel
theorem dX6_tick_55 : decode cX6_tick 55 = .ok (.aload_n 0, 1) := by decide +kernel
theorem dX6_tick_56 : decode cX6_tick 56 = .ok (.getfield 64, 3) := by decide +kernel
theorem dX6_tick_59 : decode cX6_tick 59 = .ok (.iload_n 2, 1) := by decide +kernel
theorem dX6_tick_60 : decode cX6_tick 60 = .ok (.iadd, 1) := by decide +kernel
theorem dX6_tick_61 : decode cX6_tick 61 = .ok (.iload_n 3, 1) := by decide +kernel
theorem dX6_tick_62 : decode cX6_tick 62 = .ok (.irem, 1) := by decide +kernel
theorem dX6_tick_63 : decode cX6_tick 63 = .ok (.putfield 64, 3) := by decide +kernel
theorem dX6_tick_66 : decode cX6_tick 66 = .ok (.aload_n 0, 1) := by decide +kernel
theorem dX6_tick_67 : decode cX6_tick 67 = .ok (.getfield 64, 3) := by decide +kernel
theorem dX6_tick_70 : decode cX6_tick 70 = .ok (.ireturn, 1) := by decide +kernel
theorem dX6_offset_0 : decode cX6_offset 0 = .ok (.aload_n 0, 1) := by decide +kernel
theorem dX6_offset_1 : decode cX6_offset 1 = .ok (.getfield 64, 3) := by decide +kernel
theorem dX6_offset_4 : decode cX6_offset 4 = .ok (.ireturn, 1) := by decide +kernel
set_option maxRecDepth 20000 in
theorem ggX6_stripLength_X6_all : GoodIn wsX6_stripLength wsX6_all := goodIn_r _ [5, 6, 7, 8, 9, 4, 10, 11, 12, 13, 14, 15, 16, 17, 18, 19, 20, 21, 22, 23, 24, 25, 26, 27, 28, 29, 30, 31, 32, 33, 34, 35, 36, 37] (by decide +kernel) (by decide +kernel)
set_option maxRecDepth 20000 in
theorem gX6_stripLength_X6_all : GoodIn wsX6_stripLength (wsV RX6 60 RX6 yX6_all wsX6_all) := goodIn_app (goodIn_of _ (by decide +kernel)) ggX6_stripLength_X6_all
theorem dX6_stripLength_0 : decode cX6_stripLength 0 = .ok (.aload_n 0, 1) := by decide +kernel
theorem dX6_stripLength_1 : decode cX6_stripLength 1 = .ok (.invokevirtual 60, 3) := by decide +kernel
theorem dX6_stripLength_4 : decode cX6_stripLength 4 = .ok (.ireturn, 1) := by decide +kernel
set_option maxRecDepth 20000 in
theorem ggX6_period_X6_all : GoodIn wsX6_period wsX6_all := goodIn_r _ [6, 7, 8, 9, 10, 5, 11, 12, 13, 14, 15, 16, 17, 18, 19, 20, 21, 22, 23, 24, 25, 26, 27, 28, 29, 30, 31, 32, 33, 34, 35, 36, 37, 38] (by decide +kernel) (by decide +kernel)
set_option maxRecDepth 20000 in
theorem gX6_period_X6_all : GoodIn wsX6_period (wsV RX6 60 RX6 yX6_all wsX6_all) := goodIn_app (goodIn_of _ (by decide +kernel)) ggX6_period_X6_all
theorem dX6_period_0 : decode cX6_period 0 = .ok (.aload_n 0, 1) := by decide +kernel
theorem dX6_period_1 : decode cX6_period 1 = .ok (.invokevirtual 60, 3) := by decide +kernel
theorem dX6_period_4 : decode cX6_period 4 = .ok (.aload_n 0, 1) := by decide +kernel
theorem dX6_period_5 : decode cX6_period 5 = .ok (.getfield 16, 3) := by decide +kernel
theorem dX6_period_8 : decode cX6_period 8 = .ok (.imul, 1) := by decide +kernel
theorem dX6_period_9 : decode cX6_period 9 = .ok (.ireturn, 1) := by decide +kernel
set_option maxRecDepth 20000 in
theorem ggX6_ticksUntilWhole_X6_isMessage : GoodIn wsX6_ticksUntilWhole wsX6_isMessage := goodIn_r _ [9, 10, 11, 12, 8, 13, 30, 31, 32, 33, 34, 35, 36, 37, 38, 39, 40, 41, 42, 43, 44, 45, 46, 47, 48] (by decide +kernel) (by decide +kernel)
set_option maxRecDepth 20000 in
theorem gX6_ticksUntilWhole_X6_isMessage : GoodIn wsX6_ticksUntilWhole (wsV RX6 87 RX6 yX6_isMessage wsX6_isMessage) := goodIn_app (goodIn_of _ (by decide +kernel)) ggX6_ticksUntilWhole_X6_isMessage
set_option maxRecDepth 20000 in
theorem ggX6_ticksUntilWhole_X6_widthOf : GoodIn wsX6_ticksUntilWhole wsX6_widthOf := goodIn_r _ [17, 18, 19, 20, 30, 31, 32, 33, 34, 35, 36, 37, 38, 39, 40, 41, 42, 43, 44, 45, 46, 47, 48] (by decide +kernel) (by decide +kernel)
set_option maxRecDepth 20000 in
theorem gX6_ticksUntilWhole_X6_widthOf : GoodIn wsX6_ticksUntilWhole (wsV RX6 50 RX6 yX6_widthOf wsX6_widthOf) := goodIn_app (goodIn_of _ (by decide +kernel)) ggX6_ticksUntilWhole_X6_widthOf
set_option maxRecDepth 20000 in
theorem ggX6_ticksUntilWhole_X6_all : GoodIn wsX6_ticksUntilWhole wsX6_all := goodIn_r _ [24, 10, 25, 26, 27, 8, 28, 29, 14, 15, 16, 17, 18, 19, 20, 30, 31, 32, 33, 34, 35, 36, 37, 38, 39, 40, 41, 42, 43, 44, 45, 46, 47, 48] (by decide +kernel) (by decide +kernel)
set_option maxRecDepth 20000 in
theorem gX6_ticksUntilWhole_X6_all : GoodIn wsX6_ticksUntilWhole (wsV RX6 60 RX6 yX6_all wsX6_all) := goodIn_app (goodIn_of _ (by decide +kernel)) ggX6_ticksUntilWhole_X6_all
set_option maxRecDepth 20000 in
theorem ggX6_ticksUntilWhole_X6_startOf : GoodIn wsX6_ticksUntilWhole wsX6_startOf := goodIn_r _ [28, 29, 14, 15, 16, 8, 17, 18, 19, 20, 30, 31, 32, 33, 34, 35, 36, 37, 38, 39, 40, 41, 42, 43, 44, 45, 46, 47, 48] (by decide +kernel) (by decide +kernel)
set_option maxRecDepth 20000 in
theorem gX6_ticksUntilWhole_X6_startOf : GoodIn wsX6_ticksUntilWhole (wsV RX6 57 RX6 yX6_startOf wsX6_startOf) := goodIn_app (goodIn_of _ (by decide +kernel)) ggX6_ticksUntilWhole_X6_startOf
theorem dX6_ticksUntilWhole_0 : decode cX6_ticksUntilWhole 0 = .ok (.aload_n 0, 1) := by decide +kernel
theorem dX6_ticksUntilWhole_1 : decode cX6_ticksUntilWhole 1 = .ok (.iload_n 1, 1) := by decide +kernel
theorem dX6_ticksUntilWhole_2 : decode cX6_ticksUntilWhole 2 = .ok (.invokevirtual 87, 3) := by decide +kernel
theorem dX6_ticksUntilWhole_5 : decode cX6_ticksUntilWhole 5 = .ok (.ifCond .ne 6, 3) := by decide +kernel
theorem dX6_ticksUntilWhole_8 : decode cX6_ticksUntilWhole 8 = .ok (.bipush (-11), 2) := by decide +kernel
theorem dX6_ticksUntilWhole_10 : decode cX6_ticksUntilWhole 10 = .ok (.ireturn, 1) := by decide +kernel
theorem dX6_ticksUntilWhole_11 : decode cX6_ticksUntilWhole 11 = .ok (.aload_n 0, 1) := by decide +kernel
theorem dX6_ticksUntilWhole_12 : decode cX6_ticksUntilWhole 12 = .ok (.iload_n 1, 1) := by decide +kernel
theorem dX6_ticksUntilWhole_13 : decode cX6_ticksUntilWhole 13 = .ok (.invokevirtual 50, 3) := by decide +kernel
theorem dX6_ticksUntilWhole_16 : decode cX6_ticksUntilWhole 16 = .ok (.istore_n 2, 1) := by decide +kernel
theorem dX6_ticksUntilWhole_17 : decode cX6_ticksUntilWhole 17 = .ok (.iload_n 2, 1) := by decide +kernel
theorem dX6_ticksUntilWhole_18 : decode cX6_ticksUntilWhole 18 = .ok (.aload_n 0, 1) := by decide +kernel
theorem dX6_ticksUntilWhole_19 : decode cX6_ticksUntilWhole 19 = .ok (.getfield 7, 3) := by decide +kernel
theorem dX6_ticksUntilWhole_22 : decode cX6_ticksUntilWhole 22 = .ok (.if_icmp .le 6, 3) := by decide +kernel
theorem dX6_ticksUntilWhole_25 : decode cX6_ticksUntilWhole 25 = .ok (.bipush (-14), 2) := by decide +kernel
theorem dX6_ticksUntilWhole_27 : decode cX6_ticksUntilWhole 27 = .ok (.ireturn, 1) := by decide +kernel
theorem dX6_ticksUntilWhole_28 : decode cX6_ticksUntilWhole 28 = .ok (.aload_n 0, 1) := by decide +kernel
theorem dX6_ticksUntilWhole_29 : decode cX6_ticksUntilWhole 29 = .ok (.invokevirtual 60, 3) := by decide +kernel
theorem dX6_ticksUntilWhole_32 : decode cX6_ticksUntilWhole 32 = .ok (.istore_n 3, 1) := by decide +kernel
theorem dX6_ticksUntilWhole_33 : decode cX6_ticksUntilWhole 33 = .ok (.aload_n 0, 1) := by decide +kernel
theorem dX6_ticksUntilWhole_34 : decode cX6_ticksUntilWhole 34 = .ok (.iload_n 1, 1) := by decide +kernel
theorem dX6_ticksUntilWhole_35 : decode cX6_ticksUntilWhole 35 = .ok (.invokevirtual 57, 3) := by decide +kernel
theorem dX6_ticksUntilWhole_38 : decode cX6_ticksUntilWhole 38 = .ok (.istore 4, 2) := by decide +kernel
theorem dX6_ticksUntilWhole_40 : decode cX6_ticksUntilWhole 40 = .ok (.iconst 0, 1) := by decide +kernel
theorem dX6_ticksUntilWhole_41 : decode cX6_ticksUntilWhole 41 = .ok (.istore 5, 2) := by decide +kernel
theorem dX6_ticksUntilWhole_43 : decode cX6_ticksUntilWhole 43 = .ok (.iload 5, 2) := by decide +kernel
theorem dX6_ticksUntilWhole_45 : decode cX6_ticksUntilWhole 45 = .ok (.iload_n 3, 1) := by decide +kernel
theorem dX6_ticksUntilWhole_46 : decode cX6_ticksUntilWhole 46 = .ok (.if_icmp .ge 68, 3) := by decide +kernel
theorem dX6_ticksUntilWhole_49 : decode cX6_ticksUntilWhole 49 = .ok (.iconst 0, 1) := by decide +kernel
theorem dX6_ticksUntilWhole_50 : decode cX6_ticksUntilWhole 50 = .ok (.istore 6, 2) := by decide +kernel
theorem dX6_ticksUntilWhole_52 : decode cX6_ticksUntilWhole 52 = .ok (.iload 6, 2) := by decide +kernel
theorem dX6_ticksUntilWhole_54 : decode cX6_ticksUntilWhole 54 = .ok (.iload_n 2, 1) := by decide +kernel
theorem dX6_ticksUntilWhole_55 : decode cX6_ticksUntilWhole 55 = .ok (.iadd, 1) := by decide +kernel
theorem dX6_ticksUntilWhole_56 : decode cX6_ticksUntilWhole 56 = .ok (.aload_n 0, 1) := by decide +kernel
theorem dX6_ticksUntilWhole_57 : decode cX6_ticksUntilWhole 57 = .ok (.getfield 7, 3) := by decide +kernel
theorem dX6_ticksUntilWhole_60 : decode cX6_ticksUntilWhole 60 = .ok (.if_icmp .gt 48, 3) := by decide +kernel
theorem dX6_ticksUntilWhole_63 : decode cX6_ticksUntilWhole 63 = .ok (.aload_n 0, 1) := by decide +kernel
theorem dX6_ticksUntilWhole_64 : decode cX6_ticksUntilWhole 64 = .ok (.getfield 64, 3) := by decide +kernel
theorem dX6_ticksUntilWhole_67 : decode cX6_ticksUntilWhole 67 = .ok (.iload 5, 2) := by decide +kernel
theorem dX6_ticksUntilWhole_69 : decode cX6_ticksUntilWhole 69 = .ok (.iadd, 1) := by decide +kernel
theorem dX6_ticksUntilWhole_70 : decode cX6_ticksUntilWhole 70 = .ok (.iload 6, 2) := by decide +kernel
theorem dX6_ticksUntilWhole_72 : decode cX6_ticksUntilWhole 72 = .ok (.iadd, 1) := by decide +kernel
theorem dX6_ticksUntilWhole_73 : decode cX6_ticksUntilWhole 73 = .ok (.iload_n 3, 1) := by decide +kernel
theorem dX6_ticksUntilWhole_74 : decode cX6_ticksUntilWhole 74 = .ok (.irem, 1) := by decide +kernel
theorem dX6_ticksUntilWhole_75 : decode cX6_ticksUntilWhole 75 = .ok (.iload 4, 2) := by decide +kernel
theorem dX6_ticksUntilWhole_77 : decode cX6_ticksUntilWhole 77 = .ok (.if_icmp .ne 25, 3) := by decide +kernel
theorem dX6_ticksUntilWhole_80 : decode cX6_ticksUntilWhole 80 = .ok (.iload 5, 2) := by decide +kernel
theorem dX6_ticksUntilWhole_82 : decode cX6_ticksUntilWhole 82 = .ok (.ifCond .ne 7, 3) := by decide +kernel
theorem dX6_ticksUntilWhole_85 : decode cX6_ticksUntilWhole 85 = .ok (.iconst 0, 1) := by decide +kernel
theorem dX6_ticksUntilWhole_86 : decode cX6_ticksUntilWhole 86 = .ok (.goto 15, 3) := by decide +kernel
theorem dX6_ticksUntilWhole_89 : decode cX6_ticksUntilWhole 89 = .ok (.iload 5, 2) := by decide +kernel
theorem dX6_ticksUntilWhole_91 : decode cX6_ticksUntilWhole 91 = .ok (.aload_n 0, 1) := by decide +kernel
theorem dX6_ticksUntilWhole_92 : decode cX6_ticksUntilWhole 92 = .ok (.getfield 16, 3) := by decide +kernel
theorem dX6_ticksUntilWhole_95 : decode cX6_ticksUntilWhole 95 = .ok (.imul, 1) := by decide +kernel
theorem dX6_ticksUntilWhole_96 : decode cX6_ticksUntilWhole 96 = .ok (.aload_n 0, 1) := by decide +kernel
theorem dX6_ticksUntilWhole_97 : decode cX6_ticksUntilWhole 97 = .ok (.getfield 91, 3) := by decide +kernel
theorem dX6_ticksUntilWhole_100 : decode cX6_ticksUntilWhole 100 = .ok (.isub, 1) := by decide +kernel
theorem dX6_ticksUntilWhole_101 : decode cX6_ticksUntilWhole 101 = .ok (.ireturn, 1) := by decide +kernel
theorem dX6_ticksUntilWhole_102 : decode cX6_ticksUntilWhole 102 = .ok (.iinc 6 1, 3) := by decide +kernel
theorem dX6_ticksUntilWhole_105 : decode cX6_ticksUntilWhole 105 = .ok (.goto (-53), 3) := by decide +kernel
theorem dX6_ticksUntilWhole_108 : decode cX6_ticksUntilWhole 108 = .ok (.iinc 5 1, 3) := by decide +kernel
theorem dX6_ticksUntilWhole_111 : decode cX6_ticksUntilWhole 111 = .ok (.goto (-68), 3) := by decide +kernel
theorem dX6_ticksUntilWhole_114 : decode cX6_ticksUntilWhole 114 = .ok (.bipush (-14), 2) := by decide +kernel
theorem dX6_ticksUntilWhole_116 : decode cX6_ticksUntilWhole 116 = .ok (.ireturn, 1) := by decide +kernel
set_option maxRecDepth 20000 in
theorem ggX6_active_X6_has : GoodIn wsX6_active wsX6_has := goodIn_r _ [8] (by decide +kernel) (by decide +kernel)
set_option maxRecDepth 20000 in
theorem gX6_active_X6_has : GoodIn wsX6_active (va_wsS RX6 97 yX6_has wsX6_has) := goodIn_app (goodIn_of _ (by decide +kernel)) ggX6_active_X6_has
theorem dX6_active_0 : decode cX6_active 0 = .ok (.aload_n 0, 1) := by decide +kernel
theorem dX6_active_1 : decode cX6_active 1 = .ok (.getfield 67, 3) := by decide +kernel
theorem dX6_active_4 : decode cX6_active 4 = .ok (.ifCond .ne 5, 3) := by decide +kernel
theorem dX6_active_7 : decode cX6_active 7 = .ok (.iconst 0, 1) := by decide +kernel
theorem dX6_active_8 : decode cX6_active 8 = .ok (.ireturn, 1) := by decide +kernel
theorem dX6_active_9 : decode cX6_active 9 = .ok (.iload_n 3, 1) := by decide +kernel
theorem dX6_active_10 : decode cX6_active 10 = .ok (.iload_n 2, 1) := by decide +kernel
theorem dX6_active_11 : decode cX6_active 11 = .ok (.iadd, 1) := by decide +kernel
theorem dX6_active_12 : decode cX6_active 12 = .ok (.aload_n 0, 1) := by decide +kernel
theorem dX6_active_13 : decode cX6_active 13 = .ok (.getfield 67, 3) := by decide +kernel
theorem dX6_active_16 : decode cX6_active 16 = .ok (.irem, 1) := by decide +kernel
theorem dX6_active_17 : decode cX6_active 17 = .ok (.istore 4, 2) := by decide +kernel
theorem dX6_active_19 : decode cX6_active 19 = .ok (.iload_n 1, 1) := by decide +kernel
theorem dX6_active_20 : decode cX6_active 20 = .ok (.aload_n 0, 1) := by decide +kernel
theorem dX6_active_21 : decode cX6_active 21 = .ok (.getfield 94, 3) := by decide +kernel
theorem dX6_active_24 : decode cX6_active 24 = .ok (.isub, 1) := by decide +kernel
theorem dX6_active_25 : decode cX6_active 25 = .ok (.bipush 8, 2) := by decide +kernel
theorem dX6_active_27 : decode cX6_active 27 = .ok (.if_icmp .ge 32, 3) := by decide +kernel
theorem dX6_active_30 : decode cX6_active 30 = .ok (.aload_n 0, 1) := by decide +kernel
theorem dX6_active_31 : decode cX6_active 31 = .ok (.getfield 44, 3) := by decide +kernel
theorem dX6_active_34 : decode cX6_active 34 = .ok (.iload 4, 2) := by decide +kernel
theorem dX6_active_36 : decode cX6_active 36 = .ok (.iaload, 1) := by decide +kernel
theorem dX6_active_37 : decode cX6_active 37 = .ok (.iload_n 1, 1) := by decide +kernel
theorem dX6_active_38 : decode cX6_active 38 = .ok (.aload_n 0, 1) := by decide +kernel
theorem dX6_active_39 : decode cX6_active 39 = .ok (.getfield 94, 3) := by decide +kernel
theorem dX6_active_42 : decode cX6_active 42 = .ok (.isub, 1) := by decide +kernel
theorem dX6_active_43 : decode cX6_active 43 = .ok (.invokestatic 97, 3) := by decide +kernel
theorem dX6_active_46 : decode cX6_active 46 = .ok (.ifCond .eq 13, 3) := by decide +kernel
theorem dX6_active_49 : decode cX6_active 49 = .ok (.aload_n 0, 1) := by decide +kernel
theorem dX6_active_50 : decode cX6_active 50 = .ok (.getfield 47, 3) := by decide +kernel
theorem dX6_active_53 : decode cX6_active 53 = .ok (.iload 4, 2) := by decide +kernel
theorem dX6_active_55 : decode cX6_active 55 = .ok (.iaload, 1) := by decide +kernel
theorem dX6_active_56 : decode cX6_active 56 = .ok (.goto 4, 3) := by decide +kernel
theorem dX6_active_59 : decode cX6_active 59 = .ok (.iconst 0, 1) := by decide +kernel
theorem dX6_active_60 : decode cX6_active 60 = .ok (.ireturn, 1) := by decide +kernel
set_option maxRecDepth 20000 in
theorem ggX6_loadAt_X6_has : GoodIn wsX6_loadAt wsX6_has := goodIn_r _ [6] (by decide +kernel) (by decide +kernel)
set_option maxRecDepth 20000 in
theorem gX6_loadAt_X6_has : GoodIn wsX6_loadAt (va_wsS RX6 97 yX6_has wsX6_has) := goodIn_app (goodIn_of _ (by decide +kernel)) ggX6_loadAt_X6_has
set_option maxRecDepth 20000 in
theorem ggX6_loadAt_X6_active : GoodIn wsX6_loadAt wsX6_active := goodIn_r _ [10, 11, 12, 13, 14, 3, 4, 5, 6, 15, 16, 17, 18, 19, 20, 21, 22, 23, 24, 25, 26, 27, 28, 29, 30, 31, 32, 33] (by decide +kernel) (by decide +kernel)
set_option maxRecDepth 20000 in
theorem gX6_loadAt_X6_active : GoodIn wsX6_loadAt (wsV RX6 101 RX6 yX6_active wsX6_active) := goodIn_app (goodIn_of _ (by decide +kernel)) ggX6_loadAt_X6_active
theorem dX6_loadAt_0 : decode cX6_loadAt 0 = .ok (.iconst 0, 1) := by decide +kernel
theorem dX6_loadAt_1 : decode cX6_loadAt 1 = .ok (.istore_n 2, 1) := by decide +kernel
theorem dX6_loadAt_2 : decode cX6_loadAt 2 = .ok (.iconst 0, 1) := by decide +kernel
theorem dX6_loadAt_3 : decode cX6_loadAt 3 = .ok (.istore_n 3, 1) := by decide +kernel
theorem dX6_loadAt_4 : decode cX6_loadAt 4 = .ok (.iload_n 3, 1) := by decide +kernel
theorem dX6_loadAt_5 : decode cX6_loadAt 5 = .ok (.aload_n 0, 1) := by decide +kernel
theorem dX6_loadAt_6 : decode cX6_loadAt 6 = .ok (.getfield 7, 3) := by decide +kernel
theorem dX6_loadAt_9 : decode cX6_loadAt 9 = .ok (.if_icmp .ge 76, 3) := by decide +kernel
theorem dX6_loadAt_12 : decode cX6_loadAt 12 = .ok (.iconst 0, 1) := by decide +kernel
theorem dX6_loadAt_13 : decode cX6_loadAt 13 = .ok (.istore 4, 2) := by decide +kernel
theorem dX6_loadAt_15 : decode cX6_loadAt 15 = .ok (.iload 4, 2) := by decide +kernel
theorem dX6_loadAt_17 : decode cX6_loadAt 17 = .ok (.bipush 8, 2) := by decide +kernel
theorem dX6_loadAt_19 : decode cX6_loadAt 19 = .ok (.if_icmp .ge 60, 3) := by decide +kernel
theorem dX6_loadAt_22 : decode cX6_loadAt 22 = .ok (.aload_n 0, 1) := by decide +kernel
theorem dX6_loadAt_23 : decode cX6_loadAt 23 = .ok (.getfield 29, 3) := by decide +kernel
theorem dX6_loadAt_26 : decode cX6_loadAt 26 = .ok (.iload_n 3, 1) := by decide +kernel
theorem dX6_loadAt_27 : decode cX6_loadAt 27 = .ok (.iaload, 1) := by decide +kernel
theorem dX6_loadAt_28 : decode cX6_loadAt 28 = .ok (.iload 4, 2) := by decide +kernel
theorem dX6_loadAt_30 : decode cX6_loadAt 30 = .ok (.invokestatic 97, 3) := by decide +kernel
theorem dX6_loadAt_33 : decode cX6_loadAt 33 = .ok (.ifCond .eq 7, 3) := by decide +kernel
theorem dX6_loadAt_36 : decode cX6_loadAt 36 = .ok (.iconst 0, 1) := by decide +kernel
theorem dX6_loadAt_37 : decode cX6_loadAt 37 = .ok (.goto 11, 3) := by decide +kernel
theorem dX6_loadAt_40 : decode cX6_loadAt 40 = .ok (.aload_n 0, 1) := by decide +kernel
theorem dX6_loadAt_41 : decode cX6_loadAt 41 = .ok (.iload 4, 2) := by decide +kernel
theorem dX6_loadAt_43 : decode cX6_loadAt 43 = .ok (.iload_n 3, 1) := by decide +kernel
theorem dX6_loadAt_44 : decode cX6_loadAt 44 = .ok (.iload_n 1, 1) := by decide +kernel
theorem dX6_loadAt_45 : decode cX6_loadAt 45 = .ok (.invokevirtual 101, 3) := by decide +kernel
theorem dX6_loadAt_48 : decode cX6_loadAt 48 = .ok (.istore 5, 2) := by decide +kernel
theorem dX6_loadAt_50 : decode cX6_loadAt 50 = .ok (.iload_n 2, 1) := by decide +kernel
theorem dX6_loadAt_51 : decode cX6_loadAt 51 = .ok (.iload 5, 2) := by decide +kernel
theorem dX6_loadAt_53 : decode cX6_loadAt 53 = .ok (.iconst 3, 1) := by decide +kernel
theorem dX6_loadAt_54 : decode cX6_loadAt 54 = .ok (.if_icmp .ne 7, 3) := by decide +kernel
theorem dX6_loadAt_57 : decode cX6_loadAt 57 = .ok (.iconst 2, 1) := by decide +kernel
theorem dX6_loadAt_58 : decode cX6_loadAt 58 = .ok (.goto 13, 3) := by decide +kernel
theorem dX6_loadAt_61 : decode cX6_loadAt 61 = .ok (.iload 5, 2) := by decide +kernel
theorem dX6_loadAt_63 : decode cX6_loadAt 63 = .ok (.ifCond .le 7, 3) := by decide +kernel
theorem dX6_loadAt_66 : decode cX6_loadAt 66 = .ok (.iconst 1, 1) := by decide +kernel
theorem dX6_loadAt_67 : decode cX6_loadAt 67 = .ok (.goto 4, 3) := by decide +kernel
theorem dX6_loadAt_70 : decode cX6_loadAt 70 = .ok (.iconst 0, 1) := by decide +kernel
theorem dX6_loadAt_71 : decode cX6_loadAt 71 = .ok (.iadd, 1) := by decide +kernel
theorem dX6_loadAt_72 : decode cX6_loadAt 72 = .ok (.istore_n 2, 1) := by decide +kernel
theorem dX6_loadAt_73 : decode cX6_loadAt 73 = .ok (.iinc 4 1, 3) := by decide +kernel
theorem dX6_loadAt_76 : decode cX6_loadAt 76 = .ok (.goto (-61), 3) := by decide +kernel
theorem dX6_loadAt_79 : decode cX6_loadAt 79 = .ok (.iinc 3 1, 3) := by decide +kernel
theorem dX6_loadAt_82 : decode cX6_loadAt 82 = .ok (.goto (-78), 3) := by decide +kernel
theorem dX6_loadAt_85 : decode cX6_loadAt 85 = .ok (.iload_n 2, 1) := by decide +kernel
theorem dX6_loadAt_86 : decode cX6_loadAt 86 = .ok (.ireturn, 1) := by decide +kernel
set_option maxRecDepth 20000 in
theorem ggX6_pixel_X6_in : GoodIn wsX6_pixel wsX6_in := goodIn_r _ [7] (by decide +kernel) (by decide +kernel)
set_option maxRecDepth 20000 in
theorem gX6_pixel_X6_in : GoodIn wsX6_pixel (va_wsS RX6 73 yX6_in wsX6_in) := goodIn_app (goodIn_of _ (by decide +kernel)) ggX6_pixel_X6_in
set_option maxRecDepth 20000 in
theorem ggX6_pixel_X6_draws : GoodIn wsX6_pixel wsX6_draws := goodIn_r _ [11, 12, 13, 14, 15, 16, 17, 18, 19, 20, 21, 22, 23, 24, 6, 25, 34, 35, 36, 37, 38, 39, 40, 41, 42, 43, 44, 45, 46, 47, 48, 49, 50, 51, 52] (by decide +kernel) (by decide +kernel)
set_option maxRecDepth 20000 in
theorem gX6_pixel_X6_draws : GoodIn wsX6_pixel (wsV RX6 105 RX6 yX6_draws wsX6_draws) := goodIn_app (goodIn_of _ (by decide +kernel)) ggX6_pixel_X6_draws
set_option maxRecDepth 20000 in
theorem ggX6_pixel_X6_has : GoodIn wsX6_pixel wsX6_has := goodIn_r _ [28] (by decide +kernel) (by decide +kernel)
set_option maxRecDepth 20000 in
theorem gX6_pixel_X6_has : GoodIn wsX6_pixel (va_wsS RX6 97 yX6_has wsX6_has) := goodIn_app (goodIn_of _ (by decide +kernel)) ggX6_pixel_X6_has
set_option maxRecDepth 20000 in
theorem ggX6_pixel_X6_active : GoodIn wsX6_pixel wsX6_active := goodIn_r _ [32, 12, 33, 17, 19, 26, 27, 6, 28, 34, 35, 36, 37, 38, 39, 40, 41, 42, 43, 44, 45, 46, 47, 48, 49, 50, 51, 52] (by decide +kernel) (by decide +kernel)
set_option maxRecDepth 20000 in
theorem gX6_pixel_X6_active : GoodIn wsX6_pixel (wsV RX6 101 RX6 yX6_active wsX6_active) := goodIn_app (goodIn_of _ (by decide +kernel)) ggX6_pixel_X6_active
theorem dX6_pixel_0 : decode cX6_pixel 0 = .ok (.iload_n 1, 1) := by decide +kernel
theorem dX6_pixel_1 : decode cX6_pixel 1 = .ok (.iconst 0, 1) := by decide +kernel
theorem dX6_pixel_2 : decode cX6_pixel 2 = .ok (.bipush 7, 2) := by decide +kernel
theorem dX6_pixel_4 : decode cX6_pixel 4 = .ok (.invokestatic 73, 3) := by decide +kernel
theorem dX6_pixel_7 : decode cX6_pixel 7 = .ok (.ifCond .eq 17, 3) := by decide +kernel
theorem dX6_pixel_10 : decode cX6_pixel 10 = .ok (.iload_n 2, 1) := by decide +kernel
theorem dX6_pixel_11 : decode cX6_pixel 11 = .ok (.iconst 0, 1) := by decide +kernel
theorem dX6_pixel_12 : decode cX6_pixel 12 = .ok (.aload_n 0, 1) := by decide +kernel
theorem dX6_pixel_13 : decode cX6_pixel 13 = .ok (.getfield 7, 3) := by decide +kernel
theorem dX6_pixel_16 : decode cX6_pixel 16 = .ok (.iconst 1, 1) := by decide +kernel
theorem dX6_pixel_17 : decode cX6_pixel 17 = .ok (.isub, 1) := by decide +kernel
theorem dX6_pixel_18 : decode cX6_pixel 18 = .ok (.invokestatic 73, 3) := by decide +kernel
theorem dX6_pixel_21 : decode cX6_pixel 21 = .ok (.ifCond .ne 6, 3) := by decide +kernel
theorem dX6_pixel_24 : decode cX6_pixel 24 = .ok (.bipush (-11), 2) := by decide +kernel
theorem dX6_pixel_26 : decode cX6_pixel 26 = .ok (.ireturn, 1) := by decide +kernel
theorem dX6_pixel_27 : decode cX6_pixel 27 = .ok (.aload_n 0, 1) := by decide +kernel
theorem dX6_pixel_28 : decode cX6_pixel 28 = .ok (.invokevirtual 105, 3) := by decide +kernel
theorem dX6_pixel_31 : decode cX6_pixel 31 = .ok (.aload_n 0, 1) := by decide +kernel
theorem dX6_pixel_32 : decode cX6_pixel 32 = .ok (.getfield 29, 3) := by decide +kernel
theorem dX6_pixel_35 : decode cX6_pixel 35 = .ok (.iload_n 2, 1) := by decide +kernel
theorem dX6_pixel_36 : decode cX6_pixel 36 = .ok (.iaload, 1) := by decide +kernel
theorem dX6_pixel_37 : decode cX6_pixel 37 = .ok (.iload_n 1, 1) := by decide +kernel
theorem dX6_pixel_38 : decode cX6_pixel 38 = .ok (.invokestatic 97, 3) := by decide +kernel
theorem dX6_pixel_41 : decode cX6_pixel 41 = .ok (.ifCond .eq 7, 3) := by decide +kernel
theorem dX6_pixel_44 : decode cX6_pixel 44 = .ok (.iconst 0, 1) := by decide +kernel
theorem dX6_pixel_45 : decode cX6_pixel 45 = .ok (.goto 13, 3) := by decide +kernel
theorem dX6_pixel_48 : decode cX6_pixel 48 = .ok (.aload_n 0, 1) := by decide +kernel
theorem dX6_pixel_49 : decode cX6_pixel 49 = .ok (.iload_n 1, 1) := by decide +kernel
theorem dX6_pixel_50 : decode cX6_pixel 50 = .ok (.iload_n 2, 1) := by decide +kernel
theorem dX6_pixel_51 : decode cX6_pixel 51 = .ok (.aload_n 0, 1) := by decide +kernel
theorem dX6_pixel_52 : decode cX6_pixel 52 = .ok (.getfield 64, 3) := by decide +kernel
theorem dX6_pixel_55 : decode cX6_pixel 55 = .ok (.invokevirtual 101, 3) := by decide +kernel
theorem dX6_pixel_58 : decode cX6_pixel 58 = .ok (.ireturn, 1) := by decide +kernel
set_option maxRecDepth 20000 in
theorem ggX6_load_X6_draws : GoodIn wsX6_load wsX6_draws := goodIn_r _ [6, 7, 8, 9, 10, 11, 12, 13, 14, 15, 16, 17, 18, 19, 5, 20, 35, 36, 37, 38, 39, 40, 41, 42, 43, 44, 45, 46, 47, 48, 49, 50, 51, 52, 53] (by decide +kernel) (by decide +kernel)
set_option maxRecDepth 20000 in
theorem gX6_load_X6_draws : GoodIn wsX6_load (wsV RX6 105 RX6 yX6_draws wsX6_draws) := goodIn_app (goodIn_of _ (by decide +kernel)) ggX6_load_X6_draws
set_option maxRecDepth 20000 in
theorem ggX6_load_X6_loadAt : GoodIn wsX6_load wsX6_loadAt := goodIn_r _ [24, 25, 26, 27, 28, 5, 29, 30, 31, 32, 33, 7, 34, 12, 14, 35, 36, 37, 38, 39, 40, 41, 42, 43, 44, 45, 46, 47, 48, 49, 50, 51, 52, 53] (by decide +kernel) (by decide +kernel)
set_option maxRecDepth 20000 in
theorem gX6_load_X6_loadAt : GoodIn wsX6_load (wsV RX6 108 RX6 yX6_loadAt wsX6_loadAt) := goodIn_app (goodIn_of _ (by decide +kernel)) ggX6_load_X6_loadAt
theorem dX6_load_0 : decode cX6_load 0 = .ok (.aload_n 0, 1) := by decide +kernel
theorem dX6_load_1 : decode cX6_load 1 = .ok (.invokevirtual 105, 3) := by decide +kernel
theorem dX6_load_4 : decode cX6_load 4 = .ok (.aload_n 0, 1) := by decide +kernel
theorem dX6_load_5 : decode cX6_load 5 = .ok (.aload_n 0, 1) := by decide +kernel
theorem dX6_load_6 : decode cX6_load 6 = .ok (.getfield 64, 3) := by decide +kernel
theorem dX6_load_9 : decode cX6_load 9 = .ok (.invokevirtual 108, 3) := by decide +kernel
theorem dX6_load_12 : decode cX6_load 12 = .ok (.ireturn, 1) := by decide +kernel
set_option maxRecDepth 20000 in
theorem ggX6_brightness_X6_load : GoodIn wsX6_brightness wsX6_load := goodIn_r _ [6, 7, 8, 9, 10, 5, 11, 12, 13, 14, 15, 16, 17, 18, 19, 20, 21, 22, 23, 24, 25, 26, 27, 28, 29, 30, 31, 32, 33, 34, 35, 36, 37, 38, 39, 40, 41, 42, 43, 44, 45, 46, 47, 48, 49, 50, 51, 52, 53, 54, 55, 56, 57, 58] (by decide +kernel) (by decide +kernel)
set_option maxRecDepth 20000 in
theorem gX6_brightness_X6_load : GoodIn wsX6_brightness (wsV RX6 111 RX6 yX6_load wsX6_load) := goodIn_app (goodIn_of _ (by decide +kernel)) ggX6_brightness_X6_load
theorem dX6_brightness_0 : decode cX6_brightness 0 = .ok (.aload_n 0, 1) := by decide +kernel
theorem dX6_brightness_1 : decode cX6_brightness 1 = .ok (.invokevirtual 111, 3) := by decide +kernel
theorem dX6_brightness_4 : decode cX6_brightness 4 = .ok (.istore_n 1, 1) := by decide +kernel
theorem dX6_brightness_5 : decode cX6_brightness 5 = .ok (.iload_n 1, 1) := by decide +kernel
theorem dX6_brightness_6 : decode cX6_brightness 6 = .ok (.aload_n 0, 1) := by decide +kernel
theorem dX6_brightness_7 : decode cX6_brightness 7 = .ok (.getfield 19, 3) := by decide +kernel
theorem dX6_brightness_10 : decode cX6_brightness 10 = .ok (.if_icmp .gt 8, 3) := by decide +kernel
theorem dX6_brightness_13 : decode cX6_brightness 13 = .ok (.bipush 15, 2) := by decide +kernel
theorem dX6_brightness_15 : decode cX6_brightness 15 = .ok (.goto 12, 3) := by decide +kernel
theorem dX6_brightness_18 : decode cX6_brightness 18 = .ok (.bipush 15, 2) := by decide +kernel
theorem dX6_brightness_20 : decode cX6_brightness 20 = .ok (.aload_n 0, 1) := by decide +kernel
theorem dX6_brightness_21 : decode cX6_brightness 21 = .ok (.getfield 19, 3) := by decide +kernel
theorem dX6_brightness_24 : decode cX6_brightness 24 = .ok (.imul, 1) := by decide +kernel
theorem dX6_brightness_25 : decode cX6_brightness 25 = .ok (.iload_n 1, 1) := by decide +kernel
theorem dX6_brightness_26 : decode cX6_brightness 26 = .ok (.idiv, 1) := by decide +kernel
theorem dX6_brightness_27 : decode cX6_brightness 27 = .ok (.ireturn, 1) := by decide +kernel
set_option maxRecDepth 20000 in
theorem ggX6_peakLoad_X6_draws : GoodIn wsX6_peakLoad wsX6_draws := goodIn_r _ [6, 1, 7, 8, 9, 10, 11, 12, 13, 14, 15, 16, 17, 18, 5, 19, 34, 35, 36, 37, 38, 39, 40, 41, 42, 43, 44, 45, 46, 47, 48, 49, 50, 51, 52] (by decide +kernel) (by decide +kernel)
set_option maxRecDepth 20000 in
theorem gX6_peakLoad_X6_draws : GoodIn wsX6_peakLoad (wsV RX6 105 RX6 yX6_draws wsX6_draws) := goodIn_app (goodIn_of _ (by decide +kernel)) ggX6_peakLoad_X6_draws
set_option maxRecDepth 20000 in
theorem ggX6_peakLoad_X6_loadAt : GoodIn wsX6_peakLoad wsX6_loadAt := goodIn_r _ [23, 24, 25, 26, 27, 5, 28, 29, 30, 31, 32, 1, 33, 11, 13, 34, 35, 36, 37, 38, 39, 40, 41, 42, 43, 44, 45, 46, 47, 48, 49, 50, 51, 52] (by decide +kernel) (by decide +kernel)
set_option maxRecDepth 20000 in
theorem gX6_peakLoad_X6_loadAt : GoodIn wsX6_peakLoad (wsV RX6 108 RX6 yX6_loadAt wsX6_loadAt) := goodIn_app (goodIn_of _ (by decide +kernel)) ggX6_peakLoad_X6_loadAt
theorem dX6_peakLoad_0 : decode cX6_peakLoad 0 = .ok (.aload_n 0, 1) := by decide +kernel
theorem dX6_peakLoad_1 : decode cX6_peakLoad 1 = .ok (.invokevirtual 105, 3) := by decide +kernel
theorem dX6_peakLoad_4 : decode cX6_peakLoad 4 = .ok (.iconst 0, 1) := by decide +kernel
theorem dX6_peakLoad_5 : decode cX6_peakLoad 5 = .ok (.istore_n 1, 1) := by decide +kernel
theorem dX6_peakLoad_6 : decode cX6_peakLoad 6 = .ok (.iconst 0, 1) := by decide +kernel
theorem dX6_peakLoad_7 : decode cX6_peakLoad 7 = .ok (.istore_n 2, 1) := by decide +kernel
theorem dX6_peakLoad_8 : decode cX6_peakLoad 8 = .ok (.iload_n 2, 1) := by decide +kernel
theorem dX6_peakLoad_9 : decode cX6_peakLoad 9 = .ok (.aload_n 0, 1) := by decide +kernel
theorem dX6_peakLoad_10 : decode cX6_peakLoad 10 = .ok (.getfield 67, 3) := by decide +kernel
theorem dX6_peakLoad_13 : decode cX6_peakLoad 13 = .ok (.if_icmp .ge 26, 3) := by decide +kernel
theorem dX6_peakLoad_16 : decode cX6_peakLoad 16 = .ok (.aload_n 0, 1) := by decide +kernel
theorem dX6_peakLoad_17 : decode cX6_peakLoad 17 = .ok (.iload_n 2, 1) := by decide +kernel
theorem dX6_peakLoad_18 : decode cX6_peakLoad 18 = .ok (.invokevirtual 108, 3) := by decide +kernel
theorem dX6_peakLoad_21 : decode cX6_peakLoad 21 = .ok (.istore_n 3, 1) := by decide +kernel
theorem dX6_peakLoad_22 : decode cX6_peakLoad 22 = .ok (.iload_n 3, 1) := by decide +kernel
theorem dX6_peakLoad_23 : decode cX6_peakLoad 23 = .ok (.iload_n 1, 1) := by decide +kernel
theorem dX6_peakLoad_24 : decode cX6_peakLoad 24 = .ok (.if_icmp .le 7, 3) := by decide +kernel
theorem dX6_peakLoad_27 : decode cX6_peakLoad 27 = .ok (.iload_n 3, 1) := by decide +kernel
theorem dX6_peakLoad_28 : decode cX6_peakLoad 28 = .ok (.goto 4, 3) := by decide +kernel
theorem dX6_peakLoad_31 : decode cX6_peakLoad 31 = .ok (.iload_n 1, 1) := by decide +kernel
theorem dX6_peakLoad_32 : decode cX6_peakLoad 32 = .ok (.istore_n 1, 1) := by decide +kernel
theorem dX6_peakLoad_33 : decode cX6_peakLoad 33 = .ok (.iinc 2 1, 3) := by decide +kernel
theorem dX6_peakLoad_36 : decode cX6_peakLoad 36 = .ok (.goto (-28), 3) := by decide +kernel
theorem dX6_peakLoad_39 : decode cX6_peakLoad 39 = .ok (.iload_n 1, 1) := by decide +kernel
theorem dX6_peakLoad_40 : decode cX6_peakLoad 40 = .ok (.ireturn, 1) := by decide +kernel
set_option maxRecDepth 20000 in
theorem ggX6_peakOffset_X6_peakLoad : GoodIn wsX6_peakOffset wsX6_peakLoad := goodIn_r _ [6, 1, 7, 8, 9, 5, 10, 11, 12, 13, 14, 15, 16, 17, 18, 19, 20, 21, 22, 23, 24, 25, 26, 27, 28, 29, 30, 31, 32, 33, 34, 35, 36, 37, 38, 39, 40, 41, 42, 43, 44, 45, 46, 47, 48, 49, 50, 51, 52, 53, 54, 55, 56] (by decide +kernel) (by decide +kernel)
set_option maxRecDepth 20000 in
theorem gX6_peakOffset_X6_peakLoad : GoodIn wsX6_peakOffset (wsV RX6 114 RX6 yX6_peakLoad wsX6_peakLoad) := goodIn_app (goodIn_of _ (by decide +kernel)) ggX6_peakOffset_X6_peakLoad
set_option maxRecDepth 20000 in
theorem ggX6_peakOffset_X6_loadAt : GoodIn wsX6_peakOffset wsX6_loadAt := goodIn_r _ [27, 28, 29, 30, 31, 5, 32, 33, 34, 35, 36, 1, 37, 15, 17, 38, 39, 40, 41, 42, 43, 44, 45, 46, 47, 48, 49, 50, 51, 52, 53, 54, 55, 56] (by decide +kernel) (by decide +kernel)
set_option maxRecDepth 20000 in
theorem gX6_peakOffset_X6_loadAt : GoodIn wsX6_peakOffset (wsV RX6 108 RX6 yX6_loadAt wsX6_loadAt) := goodIn_app (goodIn_of _ (by decide +kernel)) ggX6_peakOffset_X6_loadAt
theorem dX6_peakOffset_0 : decode cX6_peakOffset 0 = .ok (.aload_n 0, 1) := by decide +kernel
theorem dX6_peakOffset_1 : decode cX6_peakOffset 1 = .ok (.invokevirtual 114, 3) := by decide +kernel
theorem dX6_peakOffset_4 : decode cX6_peakOffset 4 = .ok (.istore_n 1, 1) := by decide +kernel
theorem dX6_peakOffset_5 : decode cX6_peakOffset 5 = .ok (.iconst 0, 1) := by decide +kernel
theorem dX6_peakOffset_6 : decode cX6_peakOffset 6 = .ok (.istore_n 2, 1) := by decide +kernel
theorem dX6_peakOffset_7 : decode cX6_peakOffset 7 = .ok (.iload_n 2, 1) := by decide +kernel
theorem dX6_peakOffset_8 : decode cX6_peakOffset 8 = .ok (.aload_n 0, 1) := by decide +kernel
theorem dX6_peakOffset_9 : decode cX6_peakOffset 9 = .ok (.getfield 67, 3) := by decide +kernel
theorem dX6_peakOffset_12 : decode cX6_peakOffset 12 = .ok (.if_icmp .ge 20, 3) := by decide +kernel
theorem dX6_peakOffset_15 : decode cX6_peakOffset 15 = .ok (.aload_n 0, 1) := by decide +kernel
theorem dX6_peakOffset_16 : decode cX6_peakOffset 16 = .ok (.iload_n 2, 1) := by decide +kernel
theorem dX6_peakOffset_17 : decode cX6_peakOffset 17 = .ok (.invokevirtual 108, 3) := by decide +kernel
theorem dX6_peakOffset_20 : decode cX6_peakOffset 20 = .ok (.iload_n 1, 1) := by decide +kernel
theorem dX6_peakOffset_21 : decode cX6_peakOffset 21 = .ok (.if_icmp .ne 5, 3) := by decide +kernel
theorem dX6_peakOffset_24 : decode cX6_peakOffset 24 = .ok (.iload_n 2, 1) := by decide +kernel
theorem dX6_peakOffset_25 : decode cX6_peakOffset 25 = .ok (.ireturn, 1) := by decide +kernel
theorem dX6_peakOffset_26 : decode cX6_peakOffset 26 = .ok (.iinc 2 1, 3) := by decide +kernel
theorem dX6_peakOffset_29 : decode cX6_peakOffset 29 = .ok (.goto (-22), 3) := by decide +kernel
theorem dX6_peakOffset_32 : decode cX6_peakOffset 32 = .ok (.bipush (-14), 2) := by decide +kernel
theorem dX6_peakOffset_34 : decode cX6_peakOffset 34 = .ok (.ireturn, 1) := by decide +kernel
set_option maxRecDepth 20000 in
theorem ggX6_damageBy_X6_draws : GoodIn wsX6_damageBy wsX6_draws := goodIn_r _ [10, 2, 11, 12, 13, 14, 3, 15, 16, 17, 18, 19, 20, 21, 9, 22, 29, 30, 31, 32, 33, 34, 35, 36, 37, 38, 39, 40, 41, 42, 43, 44, 45, 46, 47] (by decide +kernel) (by decide +kernel)
set_option maxRecDepth 20000 in
theorem gX6_damageBy_X6_draws : GoodIn wsX6_damageBy (wsV RX6 105 RX6 yX6_draws wsX6_draws) := goodIn_app (goodIn_of _ (by decide +kernel)) ggX6_damageBy_X6_draws
set_option maxRecDepth 20000 in
theorem ggX6_damageBy_X6_in : GoodIn wsX6_damageBy wsX6_in := goodIn_r _ [25] (by decide +kernel) (by decide +kernel)
set_option maxRecDepth 20000 in
theorem gX6_damageBy_X6_in : GoodIn wsX6_damageBy (va_wsS RX6 73 yX6_in wsX6_in) := goodIn_app (goodIn_of _ (by decide +kernel)) ggX6_damageBy_X6_in
set_option maxRecDepth 20000 in
theorem ggX6_damageBy_X6_has : GoodIn wsX6_damageBy wsX6_has := goodIn_r _ [28] (by decide +kernel) (by decide +kernel)
set_option maxRecDepth 20000 in
theorem gX6_damageBy_X6_has : GoodIn wsX6_damageBy (va_wsS RX6 97 yX6_has wsX6_has) := goodIn_app (goodIn_of _ (by decide +kernel)) ggX6_damageBy_X6_has
theorem dX6_damageBy_0 : decode cX6_damageBy 0 = .ok (.aload_n 0, 1) := by decide +kernel
theorem dX6_damageBy_1 : decode cX6_damageBy 1 = .ok (.invokevirtual 105, 3) := by decide +kernel
theorem dX6_damageBy_4 : decode cX6_damageBy 4 = .ok (.iconst 0, 1) := by decide +kernel
theorem dX6_damageBy_5 : decode cX6_damageBy 5 = .ok (.istore_n 2, 1) := by decide +kernel
theorem dX6_damageBy_6 : decode cX6_damageBy 6 = .ok (.iconst 0, 1) := by decide +kernel
theorem dX6_damageBy_7 : decode cX6_damageBy 7 = .ok (.istore_n 3, 1) := by decide +kernel
theorem dX6_damageBy_8 : decode cX6_damageBy 8 = .ok (.iload_n 3, 1) := by decide +kernel
theorem dX6_damageBy_9 : decode cX6_damageBy 9 = .ok (.aload_n 0, 1) := by decide +kernel
theorem dX6_damageBy_10 : decode cX6_damageBy 10 = .ok (.getfield 7, 3) := by decide +kernel
theorem dX6_damageBy_13 : decode cX6_damageBy 13 = .ok (.if_icmp .ge 111, 3) := by decide +kernel
theorem dX6_damageBy_16 : decode cX6_damageBy 16 = .ok (.aload_n 0, 1) := by decide +kernel
theorem dX6_damageBy_17 : decode cX6_damageBy 17 = .ok (.getfield 67, 3) := by decide +kernel
theorem dX6_damageBy_20 : decode cX6_damageBy 20 = .ok (.ifCond .le 104, 3) := by decide +kernel
theorem dX6_damageBy_23 : decode cX6_damageBy 23 = .ok (.aload_n 0, 1) := by decide +kernel
theorem dX6_damageBy_24 : decode cX6_damageBy 24 = .ok (.getfield 44, 3) := by decide +kernel
theorem dX6_damageBy_27 : decode cX6_damageBy 27 = .ok (.aload_n 0, 1) := by decide +kernel
theorem dX6_damageBy_28 : decode cX6_damageBy 28 = .ok (.getfield 64, 3) := by decide +kernel
theorem dX6_damageBy_31 : decode cX6_damageBy 31 = .ok (.iload_n 3, 1) := by decide +kernel
theorem dX6_damageBy_32 : decode cX6_damageBy 32 = .ok (.iadd, 1) := by decide +kernel
theorem dX6_damageBy_33 : decode cX6_damageBy 33 = .ok (.aload_n 0, 1) := by decide +kernel
theorem dX6_damageBy_34 : decode cX6_damageBy 34 = .ok (.getfield 67, 3) := by decide +kernel
theorem dX6_damageBy_37 : decode cX6_damageBy 37 = .ok (.irem, 1) := by decide +kernel
theorem dX6_damageBy_38 : decode cX6_damageBy 38 = .ok (.iaload, 1) := by decide +kernel
theorem dX6_damageBy_39 : decode cX6_damageBy 39 = .ok (.istore 4, 2) := by decide +kernel
theorem dX6_damageBy_41 : decode cX6_damageBy 41 = .ok (.iconst 0, 1) := by decide +kernel
theorem dX6_damageBy_42 : decode cX6_damageBy 42 = .ok (.istore 5, 2) := by decide +kernel
theorem dX6_damageBy_44 : decode cX6_damageBy 44 = .ok (.iload 5, 2) := by decide +kernel
theorem dX6_damageBy_46 : decode cX6_damageBy 46 = .ok (.bipush 8, 2) := by decide +kernel
theorem dX6_damageBy_48 : decode cX6_damageBy 48 = .ok (.if_icmp .ge 70, 3) := by decide +kernel
theorem dX6_damageBy_51 : decode cX6_damageBy 51 = .ok (.iload 5, 2) := by decide +kernel
theorem dX6_damageBy_53 : decode cX6_damageBy 53 = .ok (.iload_n 1, 1) := by decide +kernel
theorem dX6_damageBy_54 : decode cX6_damageBy 54 = .ok (.iadd, 1) := by decide +kernel
theorem dX6_damageBy_55 : decode cX6_damageBy 55 = .ok (.istore 6, 2) := by decide +kernel
theorem dX6_damageBy_57 : decode cX6_damageBy 57 = .ok (.iload 6, 2) := by decide +kernel
theorem dX6_damageBy_59 : decode cX6_damageBy 59 = .ok (.iconst 0, 1) := by decide +kernel
theorem dX6_damageBy_60 : decode cX6_damageBy 60 = .ok (.bipush 7, 2) := by decide +kernel
theorem dX6_damageBy_62 : decode cX6_damageBy 62 = .ok (.invokestatic 73, 3) := by decide +kernel
theorem dX6_damageBy_65 : decode cX6_damageBy 65 = .ok (.ifCond .eq 17, 3) := by decide +kernel
theorem dX6_damageBy_68 : decode cX6_damageBy 68 = .ok (.aload_n 0, 1) := by decide +kernel
theorem dX6_damageBy_69 : decode cX6_damageBy 69 = .ok (.getfield 29, 3) := by decide +kernel
theorem dX6_damageBy_72 : decode cX6_damageBy 72 = .ok (.iload_n 3, 1) := by decide +kernel
theorem dX6_damageBy_73 : decode cX6_damageBy 73 = .ok (.iaload, 1) := by decide +kernel
theorem dX6_damageBy_74 : decode cX6_damageBy 74 = .ok (.iload 6, 2) := by decide +kernel
theorem dX6_damageBy_76 : decode cX6_damageBy 76 = .ok (.invokestatic 97, 3) := by decide +kernel
theorem dX6_damageBy_79 : decode cX6_damageBy 79 = .ok (.ifCond .eq 7, 3) := by decide +kernel
theorem dX6_damageBy_82 : decode cX6_damageBy 82 = .ok (.iconst 1, 1) := by decide +kernel
theorem dX6_damageBy_83 : decode cX6_damageBy 83 = .ok (.goto 4, 3) := by decide +kernel
theorem dX6_damageBy_86 : decode cX6_damageBy 86 = .ok (.iconst 0, 1) := by decide +kernel
theorem dX6_damageBy_87 : decode cX6_damageBy 87 = .ok (.istore 7, 2) := by decide +kernel
theorem dX6_damageBy_89 : decode cX6_damageBy 89 = .ok (.iload_n 2, 1) := by decide +kernel
theorem dX6_damageBy_90 : decode cX6_damageBy 90 = .ok (.iload 4, 2) := by decide +kernel
theorem dX6_damageBy_92 : decode cX6_damageBy 92 = .ok (.iload 5, 2) := by decide +kernel
theorem dX6_damageBy_94 : decode cX6_damageBy 94 = .ok (.invokestatic 97, 3) := by decide +kernel
theorem dX6_damageBy_97 : decode cX6_damageBy 97 = .ok (.ifCond .eq 12, 3) := by decide +kernel
theorem dX6_damageBy_100 : decode cX6_damageBy 100 = .ok (.iload 7, 2) := by decide +kernel
theorem dX6_damageBy_102 : decode cX6_damageBy 102 = .ok (.ifCond .eq 7, 3) := by decide +kernel
theorem dX6_damageBy_105 : decode cX6_damageBy 105 = .ok (.iconst 1, 1) := by decide +kernel
theorem dX6_damageBy_106 : decode cX6_damageBy 106 = .ok (.goto 4, 3) := by decide +kernel
theorem dX6_damageBy_109 : decode cX6_damageBy 109 = .ok (.iconst 0, 1) := by decide +kernel
theorem dX6_damageBy_110 : decode cX6_damageBy 110 = .ok (.iadd, 1) := by decide +kernel
theorem dX6_damageBy_111 : decode cX6_damageBy 111 = .ok (.istore_n 2, 1) := by decide +kernel
theorem dX6_damageBy_112 : decode cX6_damageBy 112 = .ok (.iinc 5 1, 3) := by decide +kernel
theorem dX6_damageBy_115 : decode cX6_damageBy 115 = .ok (.goto (-71), 3) := by decide +kernel
theorem dX6_damageBy_118 : decode cX6_damageBy 118 = .ok (.iinc 3 1, 3) := by decide +kernel
theorem dX6_damageBy_121 : decode cX6_damageBy 121 = .ok (.goto (-113), 3) := by decide +kernel
theorem dX6_damageBy_124 : decode cX6_damageBy 124 = .ok (.iload_n 2, 1) := by decide +kernel
theorem dX6_damageBy_125 : decode cX6_damageBy 125 = .ok (.ireturn, 1) := by decide +kernel
set_option maxRecDepth 20000 in
theorem ggX6_damage_X6_in : GoodIn wsX6_damage wsX6_in := goodIn_r _ [4] (by decide +kernel) (by decide +kernel)
set_option maxRecDepth 20000 in
theorem gX6_damage_X6_in : GoodIn wsX6_damage (va_wsS RX6 73 yX6_in wsX6_in) := goodIn_app (goodIn_of _ (by decide +kernel)) ggX6_damage_X6_in
set_option maxRecDepth 20000 in
theorem ggX6_damage_X6_damageBy : GoodIn wsX6_damage wsX6_damageBy := goodIn_r _ [8, 9, 10, 11, 12, 13, 14, 15, 16, 3, 17, 18, 19, 20, 21, 22, 23, 24, 25, 26, 27, 28, 29, 1, 2, 4, 30, 31, 32, 33, 34, 35, 36, 37, 38, 39, 40, 41, 42, 43, 44, 45, 46, 47, 48, 49, 50, 51] (by decide +kernel) (by decide +kernel)
set_option maxRecDepth 20000 in
theorem gX6_damage_X6_damageBy : GoodIn wsX6_damage (wsV RX6 117 RX6 yX6_damageBy wsX6_damageBy) := goodIn_app (goodIn_of _ (by decide +kernel)) ggX6_damage_X6_damageBy
theorem dX6_damage_0 : decode cX6_damage 0 = .ok (.iload_n 1, 1) := by decide +kernel
theorem dX6_damage_1 : decode cX6_damage 1 = .ok (.bipush (-2), 2) := by decide +kernel
theorem dX6_damage_3 : decode cX6_damage 3 = .ok (.iconst 2, 1) := by decide +kernel
theorem dX6_damage_4 : decode cX6_damage 4 = .ok (.invokestatic 73, 3) := by decide +kernel
theorem dX6_damage_7 : decode cX6_damage 7 = .ok (.ifCond .eq 11, 3) := by decide +kernel
theorem dX6_damage_10 : decode cX6_damage 10 = .ok (.aload_n 0, 1) := by decide +kernel
theorem dX6_damage_11 : decode cX6_damage 11 = .ok (.iload_n 1, 1) := by decide +kernel
theorem dX6_damage_12 : decode cX6_damage 12 = .ok (.invokevirtual 117, 3) := by decide +kernel
theorem dX6_damage_15 : decode cX6_damage 15 = .ok (.goto 5, 3) := by decide +kernel
theorem dX6_damage_18 : decode cX6_damage 18 = .ok (.bipush (-11), 2) := by decide +kernel
theorem dX6_damage_20 : decode cX6_damage 20 = .ok (.ireturn, 1) := by decide +kernel
set_option maxRecDepth 20000 in
theorem ggX6_adoptBestShift_X6_damageBy : GoodIn wsX6_adoptBestShift wsX6_damageBy := goodIn_r _ [6, 7, 8, 9, 10, 11, 12, 13, 14, 5, 15, 16, 17, 18, 19, 20, 21, 22, 23, 24, 25, 26, 27, 28, 29, 30, 31, 32, 33, 34, 35, 36, 37, 38, 39, 40, 41, 42, 43, 44, 45, 46, 47, 48, 49, 50, 51, 52] (by decide +kernel) (by decide +kernel)
set_option maxRecDepth 20000 in
theorem gX6_adoptBestShift_X6_damageBy : GoodIn wsX6_adoptBestShift (wsV RX6 117 RX6 yX6_damageBy wsX6_damageBy) := goodIn_app (goodIn_of _ (by decide +kernel)) ggX6_adoptBestShift_X6_damageBy
theorem dX6_adoptBestShift_0 : decode cX6_adoptBestShift 0 = .ok (.iconst 0, 1) := by decide +kernel
theorem dX6_adoptBestShift_1 : decode cX6_adoptBestShift 1 = .ok (.istore_n 1, 1) := by decide +kernel
theorem dX6_adoptBestShift_2 : decode cX6_adoptBestShift 2 = .ok (.iconst 1, 1) := by decide +kernel
theorem dX6_adoptBestShift_3 : decode cX6_adoptBestShift 3 = .ok (.istore_n 2, 1) := by decide +kernel
theorem dX6_adoptBestShift_4 : decode cX6_adoptBestShift 4 = .ok (.iload_n 2, 1) := by decide +kernel
theorem dX6_adoptBestShift_5 : decode cX6_adoptBestShift 5 = .ok (.iconst 3, 1) := by decide +kernel
theorem dX6_adoptBestShift_6 : decode cX6_adoptBestShift 6 = .ok (.if_icmp .ge 49, 3) := by decide +kernel
theorem dX6_adoptBestShift_9 : decode cX6_adoptBestShift 9 = .ok (.aload_n 0, 1) := by decide +kernel
theorem dX6_adoptBestShift_10 : decode cX6_adoptBestShift 10 = .ok (.iload_n 2, 1) := by decide +kernel
theorem dX6_adoptBestShift_11 : decode cX6_adoptBestShift 11 = .ok (.ineg, 1) := by decide +kernel
theorem dX6_adoptBestShift_12 : decode cX6_adoptBestShift 12 = .ok (.invokevirtual 117, 3) := by decide +kernel
theorem dX6_adoptBestShift_15 : decode cX6_adoptBestShift 15 = .ok (.aload_n 0, 1) := by decide +kernel
theorem dX6_adoptBestShift_16 : decode cX6_adoptBestShift 16 = .ok (.iload_n 1, 1) := by decide +kernel
theorem dX6_adoptBestShift_17 : decode cX6_adoptBestShift 17 = .ok (.invokevirtual 117, 3) := by decide +kernel
theorem dX6_adoptBestShift_20 : decode cX6_adoptBestShift 20 = .ok (.if_icmp .ge 8, 3) := by decide +kernel
theorem dX6_adoptBestShift_23 : decode cX6_adoptBestShift 23 = .ok (.iload_n 2, 1) := by decide +kernel
theorem dX6_adoptBestShift_24 : decode cX6_adoptBestShift 24 = .ok (.ineg, 1) := by decide +kernel
theorem dX6_adoptBestShift_25 : decode cX6_adoptBestShift 25 = .ok (.goto 4, 3) := by decide +kernel
theorem dX6_adoptBestShift_28 : decode cX6_adoptBestShift 28 = .ok (.iload_n 1, 1) := by decide +kernel
theorem dX6_adoptBestShift_29 : decode cX6_adoptBestShift 29 = .ok (.istore_n 1, 1) := by decide +kernel
theorem dX6_adoptBestShift_30 : decode cX6_adoptBestShift 30 = .ok (.aload_n 0, 1) := by decide +kernel
theorem dX6_adoptBestShift_31 : decode cX6_adoptBestShift 31 = .ok (.iload_n 2, 1) := by decide +kernel
theorem dX6_adoptBestShift_32 : decode cX6_adoptBestShift 32 = .ok (.invokevirtual 117, 3) := by decide +kernel
theorem dX6_adoptBestShift_35 : decode cX6_adoptBestShift 35 = .ok (.aload_n 0, 1) := by decide +kernel
theorem dX6_adoptBestShift_36 : decode cX6_adoptBestShift 36 = .ok (.iload_n 1, 1) := by decide +kernel
theorem dX6_adoptBestShift_37 : decode cX6_adoptBestShift 37 = .ok (.invokevirtual 117, 3) := by decide +kernel
theorem dX6_adoptBestShift_40 : decode cX6_adoptBestShift 40 = .ok (.if_icmp .ge 7, 3) := by decide +kernel
theorem dX6_adoptBestShift_43 : decode cX6_adoptBestShift 43 = .ok (.iload_n 2, 1) := by decide +kernel
theorem dX6_adoptBestShift_44 : decode cX6_adoptBestShift 44 = .ok (.goto 4, 3) := by decide +kernel
theorem dX6_adoptBestShift_47 : decode cX6_adoptBestShift 47 = .ok (.iload_n 1, 1) := by decide +kernel
theorem dX6_adoptBestShift_48 : decode cX6_adoptBestShift 48 = .ok (.istore_n 1, 1) := by decide +kernel
theorem dX6_adoptBestShift_49 : decode cX6_adoptBestShift 49 = .ok (.iinc 2 1, 3) := by decide +kernel
theorem dX6_adoptBestShift_52 : decode cX6_adoptBestShift 52 = .ok (.goto (-48), 3) := by decide +kernel
theorem dX6_adoptBestShift_55 : decode cX6_adoptBestShift 55 = .ok (.aload_n 0, 1) := by decide +kernel
theorem dX6_adoptBestShift_56 : decode cX6_adoptBestShift 56 = .ok (.iload_n 1, 1) := by decide +kernel
theorem dX6_adoptBestShift_57 : decode cX6_adoptBestShift 57 = .ok (.putfield 94, 3) := by decide +kernel
theorem dX6_adoptBestShift_60 : decode cX6_adoptBestShift 60 = .ok (.aload_n 0, 1) := by decide +kernel
theorem dX6_adoptBestShift_61 : decode cX6_adoptBestShift 61 = .ok (.iload_n 1, 1) := by decide +kernel
theorem dX6_adoptBestShift_62 : decode cX6_adoptBestShift 62 = .ok (.invokevirtual 117, 3) := by decide +kernel
theorem dX6_adoptBestShift_65 : decode cX6_adoptBestShift 65 = .ok (.ireturn, 1) := by decide +kernel
theorem dJ6_bitCount_0f7a4_0 : decode cJ6_bitCount_0f7a4 0 = .ok (.iload_n 0, 1) := by decide +kernel
theorem dJ6_bitCount_0f7a4_1 : decode cJ6_bitCount_0f7a4 1 = .ok (.iload_n 0, 1) := by decide +kernel
theorem dJ6_bitCount_0f7a4_2 : decode cJ6_bitCount_0f7a4 2 = .ok (.iconst 1, 1) := by decide +kernel
theorem dJ6_bitCount_0f7a4_3 : decode cJ6_bitCount_0f7a4 3 = .ok (.iushr, 1) := by decide +kernel
theorem dJ6_bitCount_0f7a4_4 : decode cJ6_bitCount_0f7a4 4 = .ok (.ldc_w 265, 3) := by decide +kernel
theorem dJ6_bitCount_0f7a4_7 : decode cJ6_bitCount_0f7a4 7 = .ok (.iand, 1) := by decide +kernel
theorem dJ6_bitCount_0f7a4_8 : decode cJ6_bitCount_0f7a4 8 = .ok (.isub, 1) := by decide +kernel
theorem dJ6_bitCount_0f7a4_9 : decode cJ6_bitCount_0f7a4 9 = .ok (.istore_n 0, 1) := by decide +kernel
theorem dJ6_bitCount_0f7a4_10 : decode cJ6_bitCount_0f7a4 10 = .ok (.iload_n 0, 1) := by decide +kernel
theorem dJ6_bitCount_0f7a4_11 : decode cJ6_bitCount_0f7a4 11 = .ok (.ldc_w 266, 3) := by decide +kernel
theorem dJ6_bitCount_0f7a4_14 : decode cJ6_bitCount_0f7a4 14 = .ok (.iand, 1) := by decide +kernel
theorem dJ6_bitCount_0f7a4_15 : decode cJ6_bitCount_0f7a4 15 = .ok (.iload_n 0, 1) := by decide +kernel
theorem dJ6_bitCount_0f7a4_16 : decode cJ6_bitCount_0f7a4 16 = .ok (.iconst 2, 1) := by decide +kernel
theorem dJ6_bitCount_0f7a4_17 : decode cJ6_bitCount_0f7a4 17 = .ok (.iushr, 1) := by decide +kernel
theorem dJ6_bitCount_0f7a4_18 : decode cJ6_bitCount_0f7a4 18 = .ok (.ldc_w 266, 3) := by decide +kernel
theorem dJ6_bitCount_0f7a4_21 : decode cJ6_bitCount_0f7a4 21 = .ok (.iand, 1) := by decide +kernel
theorem dJ6_bitCount_0f7a4_22 : decode cJ6_bitCount_0f7a4 22 = .ok (.iadd, 1) := by decide +kernel
theorem dJ6_bitCount_0f7a4_23 : decode cJ6_bitCount_0f7a4 23 = .ok (.istore_n 0, 1) := by decide +kernel
theorem dJ6_bitCount_0f7a4_24 : decode cJ6_bitCount_0f7a4 24 = .ok (.iload_n 0, 1) := by decide +kernel
theorem dJ6_bitCount_0f7a4_25 : decode cJ6_bitCount_0f7a4 25 = .ok (.iload_n 0, 1) := by decide +kernel
theorem dJ6_bitCount_0f7a4_26 : decode cJ6_bitCount_0f7a4 26 = .ok (.iconst 4, 1) := by decide +kernel
theorem dJ6_bitCount_0f7a4_27 : decode cJ6_bitCount_0f7a4 27 = .ok (.iushr, 1) := by decide +kernel
theorem dJ6_bitCount_0f7a4_28 : decode cJ6_bitCount_0f7a4 28 = .ok (.iadd, 1) := by decide +kernel
theorem dJ6_bitCount_0f7a4_29 : decode cJ6_bitCount_0f7a4 29 = .ok (.ldc_w 267, 3) := by decide +kernel
theorem dJ6_bitCount_0f7a4_32 : decode cJ6_bitCount_0f7a4 32 = .ok (.iand, 1) := by decide +kernel
theorem dJ6_bitCount_0f7a4_33 : decode cJ6_bitCount_0f7a4 33 = .ok (.istore_n 0, 1) := by decide +kernel
theorem dJ6_bitCount_0f7a4_34 : decode cJ6_bitCount_0f7a4 34 = .ok (.iload_n 0, 1) := by decide +kernel
theorem dJ6_bitCount_0f7a4_35 : decode cJ6_bitCount_0f7a4 35 = .ok (.iload_n 0, 1) := by decide +kernel
theorem dJ6_bitCount_0f7a4_36 : decode cJ6_bitCount_0f7a4 36 = .ok (.bipush 8, 2) := by decide +kernel
theorem dJ6_bitCount_0f7a4_38 : decode cJ6_bitCount_0f7a4 38 = .ok (.iushr, 1) := by decide +kernel
theorem dJ6_bitCount_0f7a4_39 : decode cJ6_bitCount_0f7a4 39 = .ok (.iadd, 1) := by decide +kernel
theorem dJ6_bitCount_0f7a4_40 : decode cJ6_bitCount_0f7a4 40 = .ok (.istore_n 0, 1) := by decide +kernel
theorem dJ6_bitCount_0f7a4_41 : decode cJ6_bitCount_0f7a4 41 = .ok (.iload_n 0, 1) := by decide +kernel
theorem dJ6_bitCount_0f7a4_42 : decode cJ6_bitCount_0f7a4 42 = .ok (.iload_n 0, 1) := by decide +kernel
theorem dJ6_bitCount_0f7a4_43 : decode cJ6_bitCount_0f7a4 43 = .ok (.bipush 16, 2) := by decide +kernel
theorem dJ6_bitCount_0f7a4_45 : decode cJ6_bitCount_0f7a4 45 = .ok (.iushr, 1) := by decide +kernel
theorem dJ6_bitCount_0f7a4_46 : decode cJ6_bitCount_0f7a4 46 = .ok (.iadd, 1) := by decide +kernel
theorem dJ6_bitCount_0f7a4_47 : decode cJ6_bitCount_0f7a4 47 = .ok (.istore_n 0, 1) := by decide +kernel
theorem dJ6_bitCount_0f7a4_48 : decode cJ6_bitCount_0f7a4 48 = .ok (.iload_n 0, 1) := by decide +kernel
theorem dJ6_bitCount_0f7a4_49 : decode cJ6_bitCount_0f7a4 49 = .ok (.bipush 63, 2) := by decide +kernel
theorem dJ6_bitCount_0f7a4_51 : decode cJ6_bitCount_0f7a4 51 = .ok (.iand, 1) := by decide +kernel
theorem dJ6_bitCount_0f7a4_52 : decode cJ6_bitCount_0f7a4 52 = .ok (.ireturn, 1) := by decide +kernel
theorem dJ9_floorMod_7cf53_0 : decode cJ9_floorMod_7cf53 0 = .ok (.iload_n 0, 1) := by decide +kernel
theorem dJ9_floorMod_7cf53_1 : decode cJ9_floorMod_7cf53 1 = .ok (.iload_n 1, 1) := by decide +kernel
theorem dJ9_floorMod_7cf53_2 : decode cJ9_floorMod_7cf53 2 = .ok (.irem, 1) := by decide +kernel
theorem dJ9_floorMod_7cf53_3 : decode cJ9_floorMod_7cf53 3 = .ok (.istore_n 2, 1) := by decide +kernel
theorem dJ9_floorMod_7cf53_4 : decode cJ9_floorMod_7cf53 4 = .ok (.iload_n 0, 1) := by decide +kernel
theorem dJ9_floorMod_7cf53_5 : decode cJ9_floorMod_7cf53 5 = .ok (.iload_n 1, 1) := by decide +kernel
theorem dJ9_floorMod_7cf53_6 : decode cJ9_floorMod_7cf53 6 = .ok (.ixor, 1) := by decide +kernel
theorem dJ9_floorMod_7cf53_7 : decode cJ9_floorMod_7cf53 7 = .ok (.ifCond .ge 11, 3) := by decide +kernel
theorem dJ9_floorMod_7cf53_10 : decode cJ9_floorMod_7cf53 10 = .ok (.iload_n 2, 1) := by decide +kernel
theorem dJ9_floorMod_7cf53_11 : decode cJ9_floorMod_7cf53 11 = .ok (.ifCond .eq 7, 3) := by decide +kernel
theorem dJ9_floorMod_7cf53_14 : decode cJ9_floorMod_7cf53 14 = .ok (.iload_n 2, 1) := by decide +kernel
theorem dJ9_floorMod_7cf53_15 : decode cJ9_floorMod_7cf53 15 = .ok (.iload_n 1, 1) := by decide +kernel
theorem dJ9_floorMod_7cf53_16 : decode cJ9_floorMod_7cf53 16 = .ok (.iadd, 1) := by decide +kernel
theorem dJ9_floorMod_7cf53_17 : decode cJ9_floorMod_7cf53 17 = .ok (.ireturn, 1) := by decide +kernel
theorem dJ9_floorMod_7cf53_18 : decode cJ9_floorMod_7cf53 18 = .ok (.iload_n 2, 1) := by decide +kernel
theorem dJ9_floorMod_7cf53_19 : decode cJ9_floorMod_7cf53 19 = .ok (.ireturn, 1) := by decide +kernel
set_option maxRecDepth 20000 in
theorem ggL_law_X5_init : GoodIn wsL_law wsX5_init := goodIn_r _ [8, 9, 10, 11, 12, 13, 14, 15, 16, 17, 18, 19, 20, 21, 22, 23, 24, 25, 26, 27, 28, 29, 30, 31, 32, 33, 34, 35, 36, 37, 38, 39, 40, 41, 42, 43, 44, 45, 46, 47, 48, 49, 50, 51, 52, 53, 54, 55, 56, 57, 58, 59, 60, 61, 62, 63, 64, 544, 545, 513, 514, 515, 516, 517, 518, 519, 520, 521, 522, 523, 524, 546, 547, 548, 549, 550, 551, 552, 553, 554, 555, 556] (by decide +kernel) (by decide +kernel)
set_option maxRecDepth 20000 in
theorem gL_law_X5_init : GoodIn wsL_law (wsX5_init) := ggL_law_X5_init
set_option maxRecDepth 20000 in
theorem ggL_law_X6_init : GoodIn wsL_law wsX6_init := goodIn_r _ [67, 68, 10, 11, 69, 70, 71, 72, 28, 73, 74, 75, 76, 77, 78, 79, 80, 81, 525, 526, 527, 528, 529, 530, 531, 532, 533, 534, 535, 536, 537, 538, 539, 540, 541, 542, 543] (by decide +kernel) (by decide +kernel)
set_option maxRecDepth 20000 in
theorem gL_law_X6_init : GoodIn wsL_law (wsX6_init) := ggL_law_X6_init
set_option maxRecDepth 20000 in
theorem ggL_law_X5_setGlyphWidth : GoodIn wsL_law wsX5_setGlyphWidth := goodIn_r _ [85, 15, 86, 87, 2, 88, 89, 90, 91, 92, 93, 94, 14, 95, 41, 96, 97, 98, 99, 42, 100, 101, 102, 103, 27, 23, 31, 35, 104, 105, 106, 26, 107, 108, 109, 110, 111, 22, 112, 113, 52, 114, 115, 116, 117, 118, 119, 120, 121, 122, 123, 124, 125, 63, 64, 126, 127, 128, 129, 130, 131, 132, 133, 134, 513, 514, 515, 516, 517, 518, 519, 520, 521, 522, 523, 524, 544, 545, 550, 551, 552, 548, 549, 553, 554, 555, 556, 546, 547] (by decide +kernel) (by decide +kernel)
set_option maxRecDepth 20000 in
theorem gL_law_X5_setGlyphWidth : GoodIn wsL_law (wsV RL 13 RX5 yX5_setGlyphWidth wsX5_setGlyphWidth) := goodIn_app (goodIn_of _ (by decide +kernel)) ggL_law_X5_setGlyphWidth
set_option maxRecDepth 20000 in
theorem ggL_law_X6_setGlyphWidth : GoodIn wsL_law wsX6_setGlyphWidth := goodIn_r _ [138, 73, 74, 139, 140, 5, 141, 142, 143, 144, 145, 146, 147, 148, 149, 150, 151, 152, 153, 154, 155, 70, 156, 157, 158, 159, 77, 79, 525, 526, 527, 528, 529, 530, 531, 532, 533, 534, 535, 536, 537, 538, 539, 540, 541, 542, 543] (by decide +kernel) (by decide +kernel)
set_option maxRecDepth 20000 in
theorem gL_law_X6_setGlyphWidth : GoodIn wsL_law (wsV RL 17 RX6 yX6_setGlyphWidth wsX6_setGlyphWidth) := goodIn_app (goodIn_of _ (by decide +kernel)) ggL_law_X6_setGlyphWidth
set_option maxRecDepth 20000 in
theorem ggL_law_X5_setGlyphColumn : GoodIn wsL_law wsX5_setGlyphColumn := goodIn_r _ [163, 15, 86, 87, 2, 88, 89, 90, 91, 164, 165, 166, 14, 167, 168, 93, 94, 95, 41, 169, 132, 133, 134, 42, 170, 171, 172, 173, 174, 100, 101, 102, 103, 27, 23, 31, 35, 104, 105, 106, 26, 107, 108, 109, 110, 111, 22, 112, 113, 52, 114, 115, 116, 117, 118, 119, 120, 121, 122, 123, 124, 125, 63, 64, 126, 127, 128, 129, 130, 131, 513, 514, 515, 516, 517, 518, 519, 520, 521, 522, 523, 524, 544, 545, 550, 551, 552, 548, 549, 553, 554, 555, 556, 546, 547] (by decide +kernel) (by decide +kernel)
set_option maxRecDepth 20000 in
theorem gL_law_X5_setGlyphColumn : GoodIn wsL_law (wsV RL 18 RX5 yX5_setGlyphColumn wsX5_setGlyphColumn) := goodIn_app (goodIn_of _ (by decide +kernel)) ggL_law_X5_setGlyphColumn
set_option maxRecDepth 20000 in
theorem ggL_law_X6_setGlyphColumn : GoodIn wsL_law wsX6_setGlyphColumn := goodIn_r _ [178, 73, 74, 139, 140, 5, 141, 525, 526, 527, 528, 529, 530, 531, 532, 533, 534, 535, 536, 537, 538, 539, 540, 541, 542, 543] (by decide +kernel) (by decide +kernel)
set_option maxRecDepth 20000 in
theorem gL_law_X6_setGlyphColumn : GoodIn wsL_law (wsV RL 22 RX6 yX6_setGlyphColumn wsX6_setGlyphColumn) := goodIn_app (goodIn_of _ (by decide +kernel)) ggL_law_X6_setGlyphColumn
set_option maxRecDepth 20000 in
theorem ggL_law_X5_glyphColumn : GoodIn wsL_law wsX5_glyphColumn := goodIn_r _ [182, 15, 86, 87, 2, 88, 89, 90, 91, 164, 165, 166, 14, 167, 168, 93, 94, 95, 41, 169, 132, 133, 134, 42, 513, 514, 515, 516, 517, 518, 519, 520, 521, 522, 523, 524, 544, 545] (by decide +kernel) (by decide +kernel)
set_option maxRecDepth 20000 in
theorem gL_law_X5_glyphColumn : GoodIn wsL_law (wsV RL 23 RX5 yX5_glyphColumn wsX5_glyphColumn) := goodIn_app (goodIn_of _ (by decide +kernel)) ggL_law_X5_glyphColumn
set_option maxRecDepth 20000 in
theorem ggL_law_X6_glyphColumn : GoodIn wsL_law wsX6_glyphColumn := goodIn_r _ [186, 73, 74, 139, 140, 5, 141, 525, 526, 527, 528, 529, 530, 531, 532, 533, 534, 535, 536, 537, 538, 539, 540, 541, 542, 543] (by decide +kernel) (by decide +kernel)
set_option maxRecDepth 20000 in
theorem gL_law_X6_glyphColumn : GoodIn wsL_law (wsV RL 26 RX6 yX6_glyphColumn wsX6_glyphColumn) := goodIn_app (goodIn_of _ (by decide +kernel)) ggL_law_X6_glyphColumn
set_option maxRecDepth 20000 in
theorem ggL_law_X5_append : GoodIn wsL_law wsX5_append := goodIn_r _ [190, 19, 86, 87, 2, 88, 89, 90, 91, 191, 192, 193, 18, 194, 195, 46, 513, 514, 515, 516, 517, 518, 519, 520, 521, 522, 523, 524, 546, 547] (by decide +kernel) (by decide +kernel)
set_option maxRecDepth 20000 in
theorem gL_law_X5_append : GoodIn wsL_law (wsV RL 27 RX5 yX5_append wsX5_append) := goodIn_app (goodIn_of _ (by decide +kernel)) ggL_law_X5_append
set_option maxRecDepth 20000 in
theorem ggL_law_X6_append : GoodIn wsL_law wsX6_append := goodIn_r _ [199, 200, 76, 139, 140, 5, 141, 525, 526, 527, 528, 529, 530, 531, 532, 533, 534, 535, 536, 537, 538, 539, 540, 541, 542, 543] (by decide +kernel) (by decide +kernel)
set_option maxRecDepth 20000 in
theorem gL_law_X6_append : GoodIn wsL_law (wsV RL 31 RX6 yX6_append wsX6_append) := goodIn_app (goodIn_of _ (by decide +kernel)) ggL_law_X6_append
set_option maxRecDepth 20000 in
theorem ggL_law_X5_clearText : GoodIn wsL_law wsX5_clearText := goodIn_r _ [204, 19, 205, 206, 207, 18, 208, 195, 513, 514, 515, 516, 517, 518, 519, 520, 521, 522, 523, 524, 546, 547] (by decide +kernel) (by decide +kernel)
set_option maxRecDepth 20000 in
theorem gL_law_X5_clearText : GoodIn wsL_law (wsV RL 32 RX5 yX5_clearText wsX5_clearText) := goodIn_app (goodIn_of _ (by decide +kernel)) ggL_law_X5_clearText
set_option maxRecDepth 20000 in
theorem ggL_law_X6_clearText : GoodIn wsL_law wsX6_clearText := goodIn_r _ [212, 200, 525, 526, 527, 528, 529, 530, 531, 532, 533, 534, 535, 536, 537, 538, 539, 540, 541, 542, 543] (by decide +kernel) (by decide +kernel)
set_option maxRecDepth 20000 in
theorem gL_law_X6_clearText : GoodIn wsL_law (wsV RL 36 RX6 yX6_clearText wsX6_clearText) := goodIn_app (goodIn_of _ (by decide +kernel)) ggL_law_X6_clearText
set_option maxRecDepth 20000 in
theorem ggL_law_X5_insertMessage : GoodIn wsL_law wsX5_insertMessage := goodIn_r _ [216, 23, 19, 27, 89, 90, 2, 91, 217, 218, 219, 220, 221, 222, 22, 223, 113, 52, 224, 225, 226, 18, 227, 46, 195, 100, 101, 102, 103, 15, 31, 35, 104, 105, 106, 26, 107, 108, 109, 110, 111, 112, 114, 115, 116, 117, 118, 119, 120, 121, 122, 123, 124, 125, 63, 64, 126, 127, 128, 129, 130, 93, 94, 14, 95, 41, 131, 132, 133, 134, 42, 513, 514, 515, 516, 517, 518, 519, 520, 521, 522, 523, 524, 548, 549, 546, 547, 550, 551, 552, 553, 554, 555, 556, 544, 545] (by decide +kernel) (by decide +kernel)
set_option maxRecDepth 20000 in
theorem gL_law_X5_insertMessage : GoodIn wsL_law (wsV RL 37 RX5 yX5_insertMessage wsX5_insertMessage) := goodIn_app (goodIn_of _ (by decide +kernel)) ggL_law_X5_insertMessage
set_option maxRecDepth 20000 in
theorem ggL_law_X6_insertMessage : GoodIn wsL_law wsX6_insertMessage := goodIn_r _ [231, 151, 200, 77, 78, 79, 76, 139, 140, 5, 141, 232, 233, 234, 235, 142, 143, 144, 145, 146, 147, 148, 149, 150, 152, 153, 154, 155, 70, 156, 157, 158, 159, 73, 525, 526, 527, 528, 529, 530, 531, 532, 533, 534, 535, 536, 537, 538, 539, 540, 541, 542, 543] (by decide +kernel) (by decide +kernel)
set_option maxRecDepth 20000 in
theorem gL_law_X6_insertMessage : GoodIn wsL_law (wsV RL 40 RX6 yX6_insertMessage wsX6_insertMessage) := goodIn_app (goodIn_of _ (by decide +kernel)) ggL_law_X6_insertMessage
set_option maxRecDepth 20000 in
theorem ggL_law_X5_removeMessage : GoodIn wsL_law wsX5_removeMessage := goodIn_r _ [239, 23, 27, 240, 110, 111, 22, 112, 113, 52, 90, 2, 91, 241, 242, 243, 244, 245, 100, 101, 102, 103, 15, 31, 35, 104, 105, 106, 26, 107, 108, 109, 114, 115, 116, 117, 118, 119, 120, 121, 122, 123, 124, 125, 63, 64, 126, 127, 128, 129, 130, 93, 94, 14, 95, 41, 131, 132, 133, 134, 42, 513, 514, 515, 516, 517, 518, 519, 520, 521, 522, 523, 524, 550, 551, 552, 548, 549, 553, 554, 555, 556, 546, 547, 544, 545] (by decide +kernel) (by decide +kernel)
set_option maxRecDepth 20000 in
theorem gL_law_X5_removeMessage : GoodIn wsL_law (wsV RL 41 RX5 yX5_removeMessage wsX5_removeMessage) := goodIn_app (goodIn_of _ (by decide +kernel)) ggL_law_X5_removeMessage
set_option maxRecDepth 20000 in
theorem ggL_law_X6_removeMessage : GoodIn wsL_law wsX6_removeMessage := goodIn_r _ [249, 151, 250, 251, 252, 5, 253, 139, 140, 141, 232, 233, 234, 235, 77, 78, 79, 142, 143, 144, 145, 146, 147, 148, 149, 150, 152, 153, 154, 155, 70, 156, 157, 158, 159, 73, 525, 526, 527, 528, 529, 530, 531, 532, 533, 534, 535, 536, 537, 538, 539, 540, 541, 542, 543] (by decide +kernel) (by decide +kernel)
set_option maxRecDepth 20000 in
theorem gL_law_X6_removeMessage : GoodIn wsL_law (wsV RL 44 RX6 yX6_removeMessage wsX6_removeMessage) := goodIn_app (goodIn_of _ (by decide +kernel)) ggL_law_X6_removeMessage
set_option maxRecDepth 20000 in
theorem ggL_law_X5_setColor : GoodIn wsL_law wsX5_setColor := goodIn_r _ [257, 23, 240, 110, 111, 22, 112, 113, 52, 90, 2, 91, 217, 218, 219, 89, 100, 101, 102, 103, 27, 15, 31, 35, 104, 105, 106, 26, 107, 108, 109, 114, 115, 116, 117, 118, 119, 120, 121, 122, 123, 124, 125, 63, 64, 126, 127, 128, 129, 130, 93, 94, 14, 95, 41, 131, 132, 133, 134, 42, 513, 514, 515, 516, 517, 518, 519, 520, 521, 522, 523, 524, 553, 554, 555, 556, 548, 549, 550, 551, 552, 546, 547, 544, 545] (by decide +kernel) (by decide +kernel)
set_option maxRecDepth 20000 in
theorem gL_law_X5_setColor : GoodIn wsL_law (wsV RL 45 RX5 yX5_setColor wsX5_setColor) := goodIn_app (goodIn_of _ (by decide +kernel)) ggL_law_X5_setColor
set_option maxRecDepth 20000 in
theorem ggL_law_X6_setColor : GoodIn wsL_law wsX6_setColor := goodIn_r _ [261, 78, 250, 251, 252, 5, 253, 151, 139, 140, 141, 525, 526, 527, 528, 529, 530, 531, 532, 533, 534, 535, 536, 537, 538, 539, 540, 541, 542, 543] (by decide +kernel) (by decide +kernel)
set_option maxRecDepth 20000 in
theorem gL_law_X6_setColor : GoodIn wsL_law (wsV RL 48 RX6 yX6_setColor wsX6_setColor) := goodIn_app (goodIn_of _ (by decide +kernel)) ggL_law_X6_setColor
set_option maxRecDepth 20000 in
theorem ggL_law_X5_messageWidth : GoodIn wsL_law wsX5_messageWidth := goodIn_r _ [265, 23, 240, 110, 111, 22, 112, 113, 52, 90, 2, 91, 513, 514, 515, 516, 517, 518, 519, 520, 521, 522, 523, 524, 553, 554, 555, 556, 548, 549] (by decide +kernel) (by decide +kernel)
set_option maxRecDepth 20000 in
theorem gL_law_X5_messageWidth : GoodIn wsL_law (wsV RL 49 RX5 yX5_messageWidth wsX5_messageWidth) := goodIn_app (goodIn_of _ (by decide +kernel)) ggL_law_X5_messageWidth
set_option maxRecDepth 20000 in
theorem ggL_law_X6_messageWidth : GoodIn wsL_law wsX6_messageWidth := goodIn_r _ [269, 250, 251, 252, 5, 253, 151, 139, 140, 141, 156, 157, 158, 159, 77, 73, 79, 525, 526, 527, 528, 529, 530, 531, 532, 533, 534, 535, 536, 537, 538, 539, 540, 541, 542, 543] (by decide +kernel) (by decide +kernel)
set_option maxRecDepth 20000 in
theorem gL_law_X6_messageWidth : GoodIn wsL_law (wsV RL 52 RX6 yX6_messageWidth wsX6_messageWidth) := goodIn_app (goodIn_of _ (by decide +kernel)) ggL_law_X6_messageWidth
set_option maxRecDepth 20000 in
theorem ggL_law_X5_messageStart : GoodIn wsL_law wsX5_messageStart := goodIn_r _ [273, 23, 240, 110, 111, 22, 112, 113, 52, 90, 2, 91, 513, 514, 515, 516, 517, 518, 519, 520, 521, 522, 523, 524, 553, 554, 555, 556, 548, 549] (by decide +kernel) (by decide +kernel)
set_option maxRecDepth 20000 in
theorem gL_law_X5_messageStart : GoodIn wsL_law (wsV RL 53 RX5 yX5_messageStart wsX5_messageStart) := goodIn_app (goodIn_of _ (by decide +kernel)) ggL_law_X5_messageStart
set_option maxRecDepth 20000 in
theorem ggL_law_X6_messageStart : GoodIn wsL_law wsX6_messageStart := goodIn_r _ [277, 250, 251, 252, 5, 253, 151, 139, 140, 141, 152, 153, 154, 155, 70, 156, 157, 158, 159, 77, 73, 79, 525, 526, 527, 528, 529, 530, 531, 532, 533, 534, 535, 536, 537, 538, 539, 540, 541, 542, 543] (by decide +kernel) (by decide +kernel)
set_option maxRecDepth 20000 in
theorem gL_law_X6_messageStart : GoodIn wsL_law (wsV RL 56 RX6 yX6_messageStart wsX6_messageStart) := goodIn_app (goodIn_of _ (by decide +kernel)) ggL_law_X6_messageStart
set_option maxRecDepth 20000 in
theorem ggL_law_X5_setColumns : GoodIn wsL_law wsX5_setColumns := goodIn_r _ [281, 30, 29, 89, 90, 2, 91, 513, 514, 515, 516, 517, 518, 519, 520, 521, 522, 523, 524] (by decide +kernel) (by decide +kernel)
set_option maxRecDepth 20000 in
theorem gL_law_X5_setColumns : GoodIn wsL_law (wsV RL 57 RX5 yX5_setColumns wsX5_setColumns) := goodIn_app (goodIn_of _ (by decide +kernel)) ggL_law_X5_setColumns
set_option maxRecDepth 20000 in
theorem ggL_law_X6_setColumns : GoodIn wsL_law wsX6_setColumns := goodIn_r _ [285, 69, 75, 139, 140, 5, 141, 525, 526, 527, 528, 529, 530, 531, 532, 533, 534, 535, 536, 537, 538, 539, 540, 541, 542, 543] (by decide +kernel) (by decide +kernel)
set_option maxRecDepth 20000 in
theorem gL_law_X6_setColumns : GoodIn wsL_law (wsV RL 60 RX6 yX6_setColumns wsX6_setColumns) := goodIn_app (goodIn_of _ (by decide +kernel)) ggL_law_X6_setColumns
set_option maxRecDepth 20000 in
theorem ggL_law_X5_setGap : GoodIn wsL_law wsX5_setGap := goodIn_r _ [289, 31, 89, 90, 2, 91, 100, 101, 102, 103, 27, 23, 15, 35, 104, 105, 106, 26, 107, 108, 109, 110, 111, 22, 112, 113, 52, 114, 115, 116, 117, 118, 119, 120, 121, 122, 123, 124, 125, 63, 64, 126, 127, 128, 129, 130, 93, 94, 14, 95, 41, 131, 132, 133, 134, 42, 513, 514, 515, 516, 517, 518, 519, 520, 521, 522, 523, 524, 550, 551, 552, 548, 549, 553, 554, 555, 556, 546, 547, 544, 545] (by decide +kernel) (by decide +kernel)
set_option maxRecDepth 20000 in
theorem gL_law_X5_setGap : GoodIn wsL_law (wsV RL 61 RX5 yX5_setGap wsX5_setGap) := goodIn_app (goodIn_of _ (by decide +kernel)) ggL_law_X5_setGap
set_option maxRecDepth 20000 in
theorem ggL_law_X6_setGap : GoodIn wsL_law wsX6_setGap := goodIn_r _ [293, 70, 139, 140, 5, 141, 142, 143, 144, 145, 146, 147, 148, 149, 150, 151, 152, 153, 154, 155, 156, 157, 158, 159, 77, 73, 79, 525, 526, 527, 528, 529, 530, 531, 532, 533, 534, 535, 536, 537, 538, 539, 540, 541, 542, 543] (by decide +kernel) (by decide +kernel)
set_option maxRecDepth 20000 in
theorem gL_law_X6_setGap : GoodIn wsL_law (wsV RL 64 RX6 yX6_setGap wsX6_setGap) := goodIn_app (goodIn_of _ (by decide +kernel)) ggL_law_X6_setGap
set_option maxRecDepth 20000 in
theorem ggL_law_X5_setSpeed : GoodIn wsL_law wsX5_setSpeed := goodIn_r _ [297, 32, 36, 89, 90, 2, 91, 513, 514, 515, 516, 517, 518, 519, 520, 521, 522, 523, 524] (by decide +kernel) (by decide +kernel)
set_option maxRecDepth 20000 in
theorem gL_law_X5_setSpeed : GoodIn wsL_law (wsV RL 65 RX5 yX5_setSpeed wsX5_setSpeed) := goodIn_app (goodIn_of _ (by decide +kernel)) ggL_law_X5_setSpeed
set_option maxRecDepth 20000 in
theorem ggL_law_X6_setSpeed : GoodIn wsL_law wsX6_setSpeed := goodIn_r _ [301, 71, 302, 139, 140, 5, 141, 525, 526, 527, 528, 529, 530, 531, 532, 533, 534, 535, 536, 537, 538, 539, 540, 541, 542, 543] (by decide +kernel) (by decide +kernel)
set_option maxRecDepth 20000 in
theorem gL_law_X6_setSpeed : GoodIn wsL_law (wsV RL 68 RX6 yX6_setSpeed wsX6_setSpeed) := goodIn_app (goodIn_of _ (by decide +kernel)) ggL_law_X6_setSpeed
set_option maxRecDepth 20000 in
theorem ggL_law_X5_setShift : GoodIn wsL_law wsX5_setShift := goodIn_r _ [306, 33, 307, 308, 2, 309, 89, 90, 91, 513, 514, 515, 516, 517, 518, 519, 520, 521, 522, 523, 524] (by decide +kernel) (by decide +kernel)
set_option maxRecDepth 20000 in
theorem gL_law_X5_setShift : GoodIn wsL_law (wsV RL 69 RX5 yX5_setShift wsX5_setShift) := goodIn_app (goodIn_of _ (by decide +kernel)) ggL_law_X5_setShift
set_option maxRecDepth 20000 in
theorem ggL_law_X6_setShift : GoodIn wsL_law wsX6_setShift := goodIn_r _ [313, 314, 139, 140, 5, 141, 525, 526, 527, 528, 529, 530, 531, 532, 533, 534, 535, 536, 537, 538, 539, 540, 541, 542, 543] (by decide +kernel) (by decide +kernel)
set_option maxRecDepth 20000 in
theorem gL_law_X6_setShift : GoodIn wsL_law (wsV RL 72 RX6 yX6_setShift wsX6_setShift) := goodIn_app (goodIn_of _ (by decide +kernel)) ggL_law_X6_setShift
set_option maxRecDepth 20000 in
theorem ggL_law_X5_setBudget : GoodIn wsL_law wsX5_setBudget := goodIn_r _ [318, 34, 89, 90, 2, 91, 513, 514, 515, 516, 517, 518, 519, 520, 521, 522, 523, 524] (by decide +kernel) (by decide +kernel)
set_option maxRecDepth 20000 in
theorem gL_law_X5_setBudget : GoodIn wsL_law (wsV RL 73 RX5 yX5_setBudget wsX5_setBudget) := goodIn_app (goodIn_of _ (by decide +kernel)) ggL_law_X5_setBudget
set_option maxRecDepth 20000 in
theorem ggL_law_X6_setBudget : GoodIn wsL_law wsX6_setBudget := goodIn_r _ [322, 72, 139, 140, 5, 141, 525, 526, 527, 528, 529, 530, 531, 532, 533, 534, 535, 536, 537, 538, 539, 540, 541, 542, 543] (by decide +kernel) (by decide +kernel)
set_option maxRecDepth 20000 in
theorem gL_law_X6_setBudget : GoodIn wsL_law (wsV RL 76 RX6 yX6_setBudget wsX6_setBudget) := goodIn_app (goodIn_of _ (by decide +kernel)) ggL_law_X6_setBudget
set_option maxRecDepth 20000 in
theorem ggL_law_X5_setDefective : GoodIn wsL_law wsX5_setDefective := goodIn_r _ [326, 29, 327, 328, 329, 2, 330, 30, 89, 90, 91, 331, 332, 333, 334, 335, 336, 337, 338, 339, 340, 341, 342, 343, 344, 345, 346, 347, 348, 349, 513, 514, 515, 516, 517, 518, 519, 520, 521, 522, 523, 524] (by decide +kernel) (by decide +kernel)
set_option maxRecDepth 20000 in
theorem gL_law_X5_setDefective : GoodIn wsL_law (wsV RL 77 RX5 yX5_setDefective wsX5_setDefective) := goodIn_app (goodIn_of _ (by decide +kernel)) ggL_law_X5_setDefective
set_option maxRecDepth 20000 in
theorem ggL_law_X6_setDefective : GoodIn wsL_law wsX6_setDefective := goodIn_r _ [353, 69, 75, 139, 140, 5, 141, 354, 355, 356, 525, 526, 527, 528, 529, 530, 531, 532, 533, 534, 535, 536, 537, 538, 539, 540, 541, 542, 543] (by decide +kernel) (by decide +kernel)
set_option maxRecDepth 20000 in
theorem gL_law_X6_setDefective : GoodIn wsL_law (wsV RL 81 RX6 yX6_setDefective wsX6_setDefective) := goodIn_app (goodIn_of _ (by decide +kernel)) ggL_law_X6_setDefective
set_option maxRecDepth 20000 in
theorem ggL_law_X5_tick : GoodIn wsL_law wsX5_tick := goodIn_r _ [360, 32, 36, 27, 35, 89, 90, 2, 91, 361, 362, 363, 26, 364, 108, 365, 366, 367, 368, 513, 514, 515, 516, 517, 518, 519, 520, 521, 522, 523, 524, 550, 551, 552] (by decide +kernel) (by decide +kernel)
set_option maxRecDepth 20000 in
theorem gL_law_X5_tick : GoodIn wsL_law (wsV RL 82 RX5 yX5_tick wsX5_tick) := goodIn_app (goodIn_of _ (by decide +kernel)) ggL_law_X5_tick
set_option maxRecDepth 20000 in
theorem ggL_law_X6_tick : GoodIn wsL_law wsX6_tick := goodIn_r _ [372, 302, 71, 146, 139, 140, 5, 141, 147, 148, 149, 150, 151, 152, 153, 154, 155, 70, 156, 157, 158, 159, 77, 73, 79, 525, 526, 527, 528, 529, 530, 531, 532, 533, 534, 535, 536, 537, 538, 539, 540, 541, 542, 543] (by decide +kernel) (by decide +kernel)
set_option maxRecDepth 20000 in
theorem gL_law_X6_tick : GoodIn wsL_law (wsV RL 85 RX6 yX6_tick wsX6_tick) := goodIn_app (goodIn_of _ (by decide +kernel)) ggL_law_X6_tick
set_option maxRecDepth 20000 in
theorem ggL_law_X5_offset : GoodIn wsL_law wsX5_offset := goodIn_r _ [376, 35, 513, 514, 515, 516, 517, 518, 519, 520, 521, 522, 523, 524] (by decide +kernel) (by decide +kernel)
set_option maxRecDepth 20000 in
theorem gL_law_X5_offset : GoodIn wsL_law (wsV RL 86 RX5 yX5_offset wsX5_offset) := goodIn_app (goodIn_of _ (by decide +kernel)) ggL_law_X5_offset
set_option maxRecDepth 20000 in
theorem ggL_law_X6_offset : GoodIn wsL_law wsX6_offset := goodIn_r _ [380, 146, 525, 526, 527, 528, 529, 530, 531, 532, 533, 534, 535, 536, 537, 538, 539, 540, 541, 542, 543] (by decide +kernel) (by decide +kernel)
set_option maxRecDepth 20000 in
theorem gL_law_X6_offset : GoodIn wsL_law (wsV RL 89 RX6 yX6_offset wsX6_offset) := goodIn_app (goodIn_of _ (by decide +kernel)) ggL_law_X6_offset
set_option maxRecDepth 20000 in
theorem ggL_law_X5_stripLength : GoodIn wsL_law wsX5_stripLength := goodIn_r _ [384, 27, 513, 514, 515, 516, 517, 518, 519, 520, 521, 522, 523, 524, 550, 551, 552] (by decide +kernel) (by decide +kernel)
set_option maxRecDepth 20000 in
theorem gL_law_X5_stripLength : GoodIn wsL_law (wsV RL 90 RX5 yX5_stripLength wsX5_stripLength) := goodIn_app (goodIn_of _ (by decide +kernel)) ggL_law_X5_stripLength
set_option maxRecDepth 20000 in
theorem ggL_law_X6_stripLength : GoodIn wsL_law wsX6_stripLength := goodIn_r _ [388, 147, 148, 149, 5, 150, 151, 152, 153, 154, 155, 70, 156, 157, 158, 159, 77, 73, 79, 525, 526, 527, 528, 529, 530, 531, 532, 533, 534, 535, 536, 537, 538, 539, 540, 541, 542, 543] (by decide +kernel) (by decide +kernel)
set_option maxRecDepth 20000 in
theorem gL_law_X6_stripLength : GoodIn wsL_law (wsV RL 93 RX6 yX6_stripLength wsX6_stripLength) := goodIn_app (goodIn_of _ (by decide +kernel)) ggL_law_X6_stripLength
set_option maxRecDepth 20000 in
theorem ggL_law_X5_period : GoodIn wsL_law wsX5_period := goodIn_r _ [392, 27, 32, 513, 514, 515, 516, 517, 518, 519, 520, 521, 522, 523, 524, 550, 551, 552] (by decide +kernel) (by decide +kernel)
set_option maxRecDepth 20000 in
theorem gL_law_X5_period : GoodIn wsL_law (wsV RL 94 RX5 yX5_period wsX5_period) := goodIn_app (goodIn_of _ (by decide +kernel)) ggL_law_X5_period
set_option maxRecDepth 20000 in
theorem ggL_law_X6_period : GoodIn wsL_law wsX6_period := goodIn_r _ [396, 71, 147, 148, 149, 5, 150, 151, 152, 153, 154, 155, 70, 156, 157, 158, 159, 77, 73, 79, 525, 526, 527, 528, 529, 530, 531, 532, 533, 534, 535, 536, 537, 538, 539, 540, 541, 542, 543] (by decide +kernel) (by decide +kernel)
set_option maxRecDepth 20000 in
theorem gL_law_X6_period : GoodIn wsL_law (wsV RL 97 RX6 yX6_period wsX6_period) := goodIn_app (goodIn_of _ (by decide +kernel)) ggL_law_X6_period
set_option maxRecDepth 20000 in
theorem ggL_law_X5_ticksUntilWhole : GoodIn wsL_law wsX5_ticksUntilWhole := goodIn_r _ [400, 23, 30, 27, 35, 32, 36, 240, 110, 111, 22, 112, 113, 52, 90, 2, 91, 361, 362, 363, 26, 364, 108, 365, 366, 367, 368, 513, 514, 515, 516, 517, 518, 519, 520, 521, 522, 523, 524, 553, 554, 555, 556, 548, 549, 550, 551, 552] (by decide +kernel) (by decide +kernel)
set_option maxRecDepth 20000 in
theorem gL_law_X5_ticksUntilWhole : GoodIn wsL_law (wsV RL 98 RX5 yX5_ticksUntilWhole wsX5_ticksUntilWhole) := goodIn_app (goodIn_of _ (by decide +kernel)) ggL_law_X5_ticksUntilWhole
set_option maxRecDepth 20000 in
theorem ggL_law_X6_ticksUntilWhole : GoodIn wsL_law wsX6_ticksUntilWhole := goodIn_r _ [404, 69, 146, 71, 302, 250, 251, 252, 5, 253, 151, 139, 140, 141, 156, 157, 158, 159, 77, 73, 79, 147, 148, 149, 150, 152, 153, 154, 155, 70, 525, 526, 527, 528, 529, 530, 531, 532, 533, 534, 535, 536, 537, 538, 539, 540, 541, 542, 543] (by decide +kernel) (by decide +kernel)
set_option maxRecDepth 20000 in
theorem gL_law_X6_ticksUntilWhole : GoodIn wsL_law (wsV RL 101 RX6 yX6_ticksUntilWhole wsX6_ticksUntilWhole) := goodIn_app (goodIn_of _ (by decide +kernel)) ggL_law_X6_ticksUntilWhole
set_option maxRecDepth 20000 in
theorem ggL_law_X5_pixel : GoodIn wsL_law wsX5_pixel := goodIn_r _ [408, 35, 27, 327, 328, 329, 2, 330, 30, 89, 90, 91, 409, 410, 411, 412, 33, 413, 414, 415, 26, 416, 108, 63, 417, 362, 363, 364, 365, 366, 367, 368, 418, 419, 420, 335, 336, 337, 338, 29, 421, 422, 423, 424, 64, 513, 514, 515, 516, 517, 518, 519, 520, 521, 522, 523, 524, 550, 551, 552] (by decide +kernel) (by decide +kernel)
set_option maxRecDepth 20000 in
theorem gL_law_X5_pixel : GoodIn wsL_law (wsV RL 102 RX5 yX5_pixel wsX5_pixel) := goodIn_app (goodIn_of _ (by decide +kernel)) ggL_law_X5_pixel
set_option maxRecDepth 20000 in
theorem ggL_law_X6_pixel : GoodIn wsL_law wsX6_pixel := goodIn_r _ [428, 69, 75, 146, 139, 140, 5, 141, 429, 430, 431, 432, 433, 151, 77, 79, 73, 80, 74, 81, 78, 70, 434, 435, 436, 437, 354, 355, 356, 438, 439, 440, 441, 314, 525, 526, 527, 528, 529, 530, 531, 532, 533, 534, 535, 536, 537, 538, 539, 540, 541, 542, 543] (by decide +kernel) (by decide +kernel)
set_option maxRecDepth 20000 in
theorem gL_law_X6_pixel : GoodIn wsL_law (wsV RL 105 RX6 yX6_pixel wsX6_pixel) := goodIn_app (goodIn_of _ (by decide +kernel)) ggL_law_X6_pixel
set_option maxRecDepth 20000 in
theorem ggL_law_X5_load : GoodIn wsL_law wsX5_load := goodIn_r _ [445, 35, 446, 447, 448, 2, 449, 30, 27, 421, 422, 423, 26, 424, 108, 64, 417, 362, 363, 364, 365, 366, 367, 368, 409, 410, 411, 412, 33, 413, 414, 415, 416, 63, 418, 419, 420, 335, 336, 337, 338, 29, 89, 90, 91, 343, 344, 345, 346, 347, 348, 349, 513, 514, 515, 516, 517, 518, 519, 520, 521, 522, 523, 524, 550, 551, 552] (by decide +kernel) (by decide +kernel)
set_option maxRecDepth 20000 in
theorem gL_law_X5_load : GoodIn wsL_law (wsV RL 106 RX5 yX5_load wsX5_load) := goodIn_app (goodIn_of _ (by decide +kernel)) ggL_law_X5_load
set_option maxRecDepth 20000 in
theorem ggL_law_X6_load : GoodIn wsL_law wsX6_load := goodIn_r _ [453, 146, 429, 430, 431, 5, 432, 433, 151, 77, 79, 73, 80, 74, 81, 78, 70, 434, 435, 436, 437, 454, 455, 456, 457, 69, 75, 354, 355, 356, 438, 439, 440, 441, 314, 525, 526, 527, 528, 529, 530, 531, 532, 533, 534, 535, 536, 537, 538, 539, 540, 541, 542, 543] (by decide +kernel) (by decide +kernel)
set_option maxRecDepth 20000 in
theorem gL_law_X6_load : GoodIn wsL_law (wsV RL 109 RX6 yX6_load wsX6_load) := goodIn_app (goodIn_of _ (by decide +kernel)) ggL_law_X6_load
set_option maxRecDepth 20000 in
theorem ggL_law_X5_brightness : GoodIn wsL_law wsX5_brightness := goodIn_r _ [461, 35, 34, 446, 447, 448, 2, 449, 30, 27, 421, 422, 423, 26, 424, 108, 64, 417, 362, 363, 364, 365, 366, 367, 368, 409, 410, 411, 412, 33, 413, 414, 415, 416, 63, 418, 419, 420, 335, 336, 337, 338, 29, 89, 90, 91, 343, 344, 345, 346, 347, 348, 349, 513, 514, 515, 516, 517, 518, 519, 520, 521, 522, 523, 524, 550, 551, 552] (by decide +kernel) (by decide +kernel)
set_option maxRecDepth 20000 in
theorem gL_law_X5_brightness : GoodIn wsL_law (wsV RL 110 RX5 yX5_brightness wsX5_brightness) := goodIn_app (goodIn_of _ (by decide +kernel)) ggL_law_X5_brightness
set_option maxRecDepth 20000 in
theorem ggL_law_X6_brightness : GoodIn wsL_law wsX6_brightness := goodIn_r _ [465, 72, 466, 451, 452, 5, 453, 146, 429, 430, 431, 432, 433, 151, 77, 79, 73, 80, 74, 81, 78, 70, 434, 435, 436, 437, 454, 455, 456, 457, 69, 75, 354, 355, 356, 438, 439, 440, 441, 314, 525, 526, 527, 528, 529, 530, 531, 532, 533, 534, 535, 536, 537, 538, 539, 540, 541, 542, 543] (by decide +kernel) (by decide +kernel)
set_option maxRecDepth 20000 in
theorem gL_law_X6_brightness : GoodIn wsL_law (wsV RL 113 RX6 yX6_brightness wsX6_brightness) := goodIn_app (goodIn_of _ (by decide +kernel)) ggL_law_X6_brightness
set_option maxRecDepth 20000 in
theorem ggL_law_X5_peakLoad : GoodIn wsL_law wsX5_peakLoad := goodIn_r _ [470, 471, 472, 473, 2, 474, 27, 446, 447, 448, 449, 30, 421, 422, 423, 26, 424, 108, 64, 417, 362, 363, 364, 365, 366, 367, 368, 409, 410, 411, 412, 33, 413, 414, 415, 416, 63, 418, 419, 420, 335, 336, 337, 338, 29, 89, 90, 91, 343, 344, 345, 346, 347, 348, 349, 513, 514, 515, 516, 517, 518, 519, 520, 521, 522, 523, 524, 550, 551, 552] (by decide +kernel) (by decide +kernel)
set_option maxRecDepth 20000 in
theorem gL_law_X5_peakLoad : GoodIn wsL_law (wsV RL 114 RX5 yX5_peakLoad wsX5_peakLoad) := goodIn_app (goodIn_of _ (by decide +kernel)) ggL_law_X5_peakLoad
set_option maxRecDepth 20000 in
theorem ggL_law_X6_peakLoad : GoodIn wsL_law wsX6_peakLoad := goodIn_r _ [478, 433, 429, 430, 431, 5, 432, 151, 77, 79, 73, 80, 74, 81, 78, 70, 434, 435, 436, 437, 454, 455, 456, 457, 69, 75, 354, 355, 356, 438, 439, 440, 441, 314, 525, 526, 527, 528, 529, 530, 531, 532, 533, 534, 535, 536, 537, 538, 539, 540, 541, 542, 543] (by decide +kernel) (by decide +kernel)
set_option maxRecDepth 20000 in
theorem gL_law_X6_peakLoad : GoodIn wsL_law (wsV RL 117 RX6 yX6_peakLoad wsX6_peakLoad) := goodIn_app (goodIn_of _ (by decide +kernel)) ggL_law_X6_peakLoad
set_option maxRecDepth 20000 in
theorem ggL_law_X5_peakOffset : GoodIn wsL_law wsX5_peakOffset := goodIn_r _ [482, 27, 471, 472, 473, 2, 474, 446, 447, 448, 449, 30, 421, 422, 423, 26, 424, 108, 64, 417, 362, 363, 364, 365, 366, 367, 368, 409, 410, 411, 412, 33, 413, 414, 415, 416, 63, 418, 419, 420, 335, 336, 337, 338, 29, 89, 90, 91, 343, 344, 345, 346, 347, 348, 349, 513, 514, 515, 516, 517, 518, 519, 520, 521, 522, 523, 524, 550, 551, 552] (by decide +kernel) (by decide +kernel)
set_option maxRecDepth 20000 in
theorem gL_law_X5_peakOffset : GoodIn wsL_law (wsV RL 118 RX5 yX5_peakOffset wsX5_peakOffset) := goodIn_app (goodIn_of _ (by decide +kernel)) ggL_law_X5_peakOffset
set_option maxRecDepth 20000 in
theorem ggL_law_X6_peakOffset : GoodIn wsL_law wsX6_peakOffset := goodIn_r _ [486, 433, 487, 476, 477, 5, 478, 429, 430, 431, 432, 151, 77, 79, 73, 80, 74, 81, 78, 70, 434, 435, 436, 437, 454, 455, 456, 457, 69, 75, 354, 355, 356, 438, 439, 440, 441, 314, 525, 526, 527, 528, 529, 530, 531, 532, 533, 534, 535, 536, 537, 538, 539, 540, 541, 542, 543] (by decide +kernel) (by decide +kernel)
set_option maxRecDepth 20000 in
theorem gL_law_X6_peakOffset : GoodIn wsL_law (wsV RL 121 RX6 yX6_peakOffset wsX6_peakOffset) := goodIn_app (goodIn_of _ (by decide +kernel)) ggL_law_X6_peakOffset
set_option maxRecDepth 20000 in
theorem ggL_law_X5_damage : GoodIn wsL_law wsX5_damage := goodIn_r _ [491, 307, 308, 2, 309, 89, 90, 91, 492, 493, 494, 495, 30, 27, 35, 413, 414, 415, 26, 416, 108, 63, 417, 362, 363, 364, 365, 366, 367, 368, 418, 419, 420, 335, 336, 337, 338, 29, 343, 344, 345, 346, 347, 348, 349, 513, 514, 515, 516, 517, 518, 519, 520, 521, 522, 523, 524, 550, 551, 552] (by decide +kernel) (by decide +kernel)
set_option maxRecDepth 20000 in
theorem gL_law_X5_damage : GoodIn wsL_law (wsV RL 122 RX5 yX5_damage wsX5_damage) := goodIn_app (goodIn_of _ (by decide +kernel)) ggL_law_X5_damage
set_option maxRecDepth 20000 in
theorem ggL_law_X6_damage : GoodIn wsL_law wsX6_damage := goodIn_r _ [499, 139, 140, 5, 141, 500, 501, 502, 503, 69, 433, 80, 146, 75, 429, 430, 431, 432, 151, 77, 79, 73, 74, 81, 78, 70, 434, 435, 436, 437, 354, 355, 356, 525, 526, 527, 528, 529, 530, 531, 532, 533, 534, 535, 536, 537, 538, 539, 540, 541, 542, 543] (by decide +kernel) (by decide +kernel)
set_option maxRecDepth 20000 in
theorem gL_law_X6_damage : GoodIn wsL_law (wsV RL 125 RX6 yX6_damage wsX6_damage) := goodIn_app (goodIn_of _ (by decide +kernel)) ggL_law_X6_damage
set_option maxRecDepth 20000 in
theorem ggL_law_X5_adoptBestShift : GoodIn wsL_law wsX5_adoptBestShift := goodIn_r _ [507, 508, 33, 492, 493, 494, 2, 495, 30, 27, 35, 413, 414, 415, 26, 416, 108, 63, 417, 362, 363, 364, 365, 366, 367, 368, 418, 419, 420, 335, 336, 337, 338, 29, 89, 90, 91, 343, 344, 345, 346, 347, 348, 349, 513, 514, 515, 516, 517, 518, 519, 520, 521, 522, 523, 524, 550, 551, 552] (by decide +kernel) (by decide +kernel)
set_option maxRecDepth 20000 in
theorem gL_law_X5_adoptBestShift : GoodIn wsL_law (wsV RL 126 RX5 yX5_adoptBestShift wsX5_adoptBestShift) := goodIn_app (goodIn_of _ (by decide +kernel)) ggL_law_X5_adoptBestShift
set_option maxRecDepth 20000 in
theorem ggL_law_X6_adoptBestShift : GoodIn wsL_law wsX6_adoptBestShift := goodIn_r _ [512, 314, 500, 501, 502, 5, 503, 69, 433, 80, 146, 75, 429, 430, 431, 432, 151, 77, 79, 73, 74, 81, 78, 70, 434, 435, 436, 437, 139, 140, 141, 354, 355, 356, 525, 526, 527, 528, 529, 530, 531, 532, 533, 534, 535, 536, 537, 538, 539, 540, 541, 542, 543] (by decide +kernel) (by decide +kernel)
set_option maxRecDepth 20000 in
theorem gL_law_X6_adoptBestShift : GoodIn wsL_law (wsV RL 129 RX6 yX6_adoptBestShift wsX6_adoptBestShift) := goodIn_app (goodIn_of _ (by decide +kernel)) ggL_law_X6_adoptBestShift
theorem dL_law_0 : decode cL_law 0 = .ok (.new 7, 3) := by decide +kernel
theorem dL_law_3 : decode cL_law 3 = .ok (.dup, 1) := by decide +kernel
theorem dL_law_4 : decode cL_law 4 = .ok (.invokespecial 9, 3) := by decide +kernel
theorem dL_law_7 : decode cL_law 7 = .ok (.astore_n 1, 1) := by decide +kernel
theorem dL_law_8 : decode cL_law 8 = .ok (.new 10, 3) := by decide +kernel
theorem dL_law_11 : decode cL_law 11 = .ok (.dup, 1) := by decide +kernel
theorem dL_law_12 : decode cL_law 12 = .ok (.invokespecial 12, 3) := by decide +kernel
theorem dL_law_15 : decode cL_law 15 = .ok (.astore_n 2, 1) := by decide +kernel
theorem dL_law_16 : decode cL_law 16 = .ok (.iconst 0, 1) := by decide +kernel
theorem dL_law_17 : decode cL_law 17 = .ok (.istore_n 3, 1) := by decide +kernel
theorem dL_law_18 : decode cL_law 18 = .ok (.iload_n 3, 1) := by decide +kernel
theorem dL_law_19 : decode cL_law 19 = .ok (.aload_n 0, 1) := by decide +kernel
theorem dL_law_20 : decode cL_law 20 = .ok (.arraylength, 1) := by decide +kernel
theorem dL_law_21 : decode cL_law 21 = .ok (.iconst 4, 1) := by decide +kernel
theorem dL_law_22 : decode cL_law 22 = .ok (.isub, 1) := by decide +kernel
theorem dL_law_23 : decode cL_law 23 = .ok (.if_icmp .gt 803, 3) := by decide +kernel
theorem dL_law_26 : decode cL_law 26 = .ok (.aload_n 0, 1) := by decide +kernel
theorem dL_law_27 : decode cL_law 27 = .ok (.iload_n 3, 1) := by decide +kernel
theorem dL_law_28 : decode cL_law 28 = .ok (.iaload, 1) := by decide +kernel
theorem dL_law_29 : decode cL_law 29 = .ok (.bipush 31, 2) := by decide +kernel
theorem dL_law_31 : decode cL_law 31 = .ok (.iand, 1) := by decide +kernel
theorem dL_law_32 : decode cL_law 32 = .ok (.tableswitch 788 0 27 #[128, 161, 204, 237, 260, 273, 306, 329, 362, 385, 408, 431, 454, 477, 500, 523, 582, 605, 618, 631, 644, 667, 700, 713, 726, 739, 752, 775], 128) := by decide +kernel
theorem dL_law_160 : decode cL_law 160 = .ok (.aload_n 1, 1) := by decide +kernel
theorem dL_law_161 : decode cL_law 161 = .ok (.aload_n 0, 1) := by decide +kernel
theorem dL_law_162 : decode cL_law 162 = .ok (.iload_n 3, 1) := by decide +kernel
theorem dL_law_163 : decode cL_law 163 = .ok (.iconst 1, 1) := by decide +kernel
theorem dL_law_164 : decode cL_law 164 = .ok (.iadd, 1) := by decide +kernel
theorem dL_law_165 : decode cL_law 165 = .ok (.iaload, 1) := by decide +kernel
theorem dL_law_166 : decode cL_law 166 = .ok (.aload_n 0, 1) := by decide +kernel
theorem dL_law_167 : decode cL_law 167 = .ok (.iload_n 3, 1) := by decide +kernel
theorem dL_law_168 : decode cL_law 168 = .ok (.iconst 2, 1) := by decide +kernel
theorem dL_law_169 : decode cL_law 169 = .ok (.iadd, 1) := by decide +kernel
theorem dL_law_170 : decode cL_law 170 = .ok (.iaload, 1) := by decide +kernel
theorem dL_law_171 : decode cL_law 171 = .ok (.invokevirtual 13, 3) := by decide +kernel
theorem dL_law_174 : decode cL_law 174 = .ok (.aload_n 2, 1) := by decide +kernel
theorem dL_law_175 : decode cL_law 175 = .ok (.aload_n 0, 1) := by decide +kernel
theorem dL_law_176 : decode cL_law 176 = .ok (.iload_n 3, 1) := by decide +kernel
theorem dL_law_177 : decode cL_law 177 = .ok (.iconst 1, 1) := by decide +kernel
theorem dL_law_178 : decode cL_law 178 = .ok (.iadd, 1) := by decide +kernel
theorem dL_law_179 : decode cL_law 179 = .ok (.iaload, 1) := by decide +kernel
theorem dL_law_180 : decode cL_law 180 = .ok (.aload_n 0, 1) := by decide +kernel
theorem dL_law_181 : decode cL_law 181 = .ok (.iload_n 3, 1) := by decide +kernel
theorem dL_law_182 : decode cL_law 182 = .ok (.iconst 2, 1) := by decide +kernel
theorem dL_law_183 : decode cL_law 183 = .ok (.iadd, 1) := by decide +kernel
theorem dL_law_184 : decode cL_law 184 = .ok (.iaload, 1) := by decide +kernel
theorem dL_law_185 : decode cL_law 185 = .ok (.invokevirtual 17, 3) := by decide +kernel
theorem dL_law_188 : decode cL_law 188 = .ok (.if_icmp .eq 632, 3) := by decide +kernel
theorem dL_law_191 : decode cL_law 191 = .ok (.iconst 0, 1) := by decide +kernel
theorem dL_law_192 : decode cL_law 192 = .ok (.ireturn, 1) := by decide +kernel
theorem dL_law_193 : decode cL_law 193 = .ok (.aload_n 1, 1) := by decide +kernel
theorem dL_law_194 : decode cL_law 194 = .ok (.aload_n 0, 1) := by decide +kernel
theorem dL_law_195 : decode cL_law 195 = .ok (.iload_n 3, 1) := by decide +kernel
theorem dL_law_196 : decode cL_law 196 = .ok (.iconst 1, 1) := by decide +kernel
theorem dL_law_197 : decode cL_law 197 = .ok (.iadd, 1) := by decide +kernel
theorem dL_law_198 : decode cL_law 198 = .ok (.iaload, 1) := by decide +kernel
theorem dL_law_199 : decode cL_law 199 = .ok (.aload_n 0, 1) := by decide +kernel
theorem dL_law_200 : decode cL_law 200 = .ok (.iload_n 3, 1) := by decide +kernel
theorem dL_law_201 : decode cL_law 201 = .ok (.iconst 2, 1) := by decide +kernel
theorem dL_law_202 : decode cL_law 202 = .ok (.iadd, 1) := by decide +kernel
theorem dL_law_203 : decode cL_law 203 = .ok (.iaload, 1) := by decide +kernel
theorem dL_law_204 : decode cL_law 204 = .ok (.aload_n 0, 1) := by decide +kernel
theorem dL_law_205 : decode cL_law 205 = .ok (.iload_n 3, 1) := by decide +kernel
theorem dL_law_206 : decode cL_law 206 = .ok (.iconst 3, 1) := by decide +kernel
theorem dL_law_207 : decode cL_law 207 = .ok (.iadd, 1) := by decide +kernel
theorem dL_law_208 : decode cL_law 208 = .ok (.iaload, 1) := by decide +kernel
theorem dL_law_209 : decode cL_law 209 = .ok (.invokevirtual 18, 3) := by decide +kernel
theorem dL_law_212 : decode cL_law 212 = .ok (.aload_n 2, 1) := by decide +kernel
theorem dL_law_213 : decode cL_law 213 = .ok (.aload_n 0, 1) := by decide +kernel
theorem dL_law_214 : decode cL_law 214 = .ok (.iload_n 3, 1) := by decide +kernel
theorem dL_law_215 : decode cL_law 215 = .ok (.iconst 1, 1) := by decide +kernel
theorem dL_law_216 : decode cL_law 216 = .ok (.iadd, 1) := by decide +kernel
theorem dL_law_217 : decode cL_law 217 = .ok (.iaload, 1) := by decide +kernel
theorem dL_law_218 : decode cL_law 218 = .ok (.aload_n 0, 1) := by decide +kernel
theorem dL_law_219 : decode cL_law 219 = .ok (.iload_n 3, 1) := by decide +kernel
theorem dL_law_220 : decode cL_law 220 = .ok (.iconst 2, 1) := by decide +kernel
theorem dL_law_221 : decode cL_law 221 = .ok (.iadd, 1) := by decide +kernel
theorem dL_law_222 : decode cL_law 222 = .ok (.iaload, 1) := by decide +kernel
theorem dL_law_223 : decode cL_law 223 = .ok (.aload_n 0, 1) := by decide +kernel
end
section
theorem dL_law_224 : decode cL_law 224 = .ok (.iload_n 3, 1) := by decide +kernel
theorem dL_law_225 : decode cL_law 225 = .ok (.iconst 3, 1) := by decide +kernel
theorem dL_law_226 : decode cL_law 226 = .ok (.iadd, 1) := by decide +kernel
theorem dL_law_227 : decode cL_law 227 = .ok (.iaload, 1) := by decide +kernel
theorem dL_law_228 : decode cL_law 228 = .ok (.invokevirtual 22, 3) := by decide +kernel
theorem dL_law_231 : decode cL_law 231 = .ok (.if_icmp .eq 589, 3) := by decide +kernel
theorem dL_law_234 : decode cL_law 234 = .ok (.iconst 0, 1) := by decide +kernel
theorem dL_law_235 : decode cL_law 235 = .ok (.ireturn, 1) := by decide +kernel
theorem dL_law_236 : decode cL_law 236 = .ok (.aload_n 1, 1) := by decide +kernel
theorem dL_law_237 : decode cL_law 237 = .ok (.aload_n 0, 1) := by decide +kernel
theorem dL_law_238 : decode cL_law 238 = .ok (.iload_n 3, 1) := by decide +kernel
theorem dL_law_239 : decode cL_law 239 = .ok (.iconst 1, 1) := by decide +kernel
theorem dL_law_240 : decode cL_law 240 = .ok (.iadd, 1) := by decide +kernel
theorem dL_law_241 : decode cL_law 241 = .ok (.iaload, 1) := by decide +kernel
theorem dL_law_242 : decode cL_law 242 = .ok (.aload_n 0, 1) := by decide +kernel
theorem dL_law_243 : decode cL_law 243 = .ok (.iload_n 3, 1) := by decide +kernel
theorem dL_law_244 : decode cL_law 244 = .ok (.iconst 2, 1) := by decide +kernel
theorem dL_law_245 : decode cL_law 245 = .ok (.iadd, 1) := by decide +kernel
theorem dL_law_246 : decode cL_law 246 = .ok (.iaload, 1) := by decide +kernel
theorem dL_law_247 : decode cL_law 247 = .ok (.invokevirtual 23, 3) := by decide +kernel
theorem dL_law_250 : decode cL_law 250 = .ok (.aload_n 2, 1) := by decide +kernel
theorem dL_law_251 : decode cL_law 251 = .ok (.aload_n 0, 1) := by decide +kernel
theorem dL_law_252 : decode cL_law 252 = .ok (.iload_n 3, 1) := by decide +kernel
theorem dL_law_253 : decode cL_law 253 = .ok (.iconst 1, 1) := by decide +kernel
theorem dL_law_254 : decode cL_law 254 = .ok (.iadd, 1) := by decide +kernel
theorem dL_law_255 : decode cL_law 255 = .ok (.iaload, 1) := by decide +kernel
theorem dL_law_256 : decode cL_law 256 = .ok (.aload_n 0, 1) := by decide +kernel
theorem dL_law_257 : decode cL_law 257 = .ok (.iload_n 3, 1) := by decide +kernel
theorem dL_law_258 : decode cL_law 258 = .ok (.iconst 2, 1) := by decide +kernel
theorem dL_law_259 : decode cL_law 259 = .ok (.iadd, 1) := by decide +kernel
theorem dL_law_260 : decode cL_law 260 = .ok (.iaload, 1) := by decide +kernel
theorem dL_law_261 : decode cL_law 261 = .ok (.invokevirtual 26, 3) := by decide +kernel
theorem dL_law_264 : decode cL_law 264 = .ok (.if_icmp .eq 556, 3) := by decide +kernel
theorem dL_law_267 : decode cL_law 267 = .ok (.iconst 0, 1) := by decide +kernel
theorem dL_law_268 : decode cL_law 268 = .ok (.ireturn, 1) := by decide +kernel
theorem dL_law_269 : decode cL_law 269 = .ok (.aload_n 1, 1) := by decide +kernel
theorem dL_law_270 : decode cL_law 270 = .ok (.aload_n 0, 1) := by decide +kernel
theorem dL_law_271 : decode cL_law 271 = .ok (.iload_n 3, 1) := by decide +kernel
theorem dL_law_272 : decode cL_law 272 = .ok (.iconst 1, 1) := by decide +kernel
theorem dL_law_273 : decode cL_law 273 = .ok (.iadd, 1) := by decide +kernel
theorem dL_law_274 : decode cL_law 274 = .ok (.iaload, 1) := by decide +kernel
theorem dL_law_275 : decode cL_law 275 = .ok (.invokevirtual 27, 3) := by decide +kernel
theorem dL_law_278 : decode cL_law 278 = .ok (.aload_n 2, 1) := by decide +kernel
theorem dL_law_279 : decode cL_law 279 = .ok (.aload_n 0, 1) := by decide +kernel
theorem dL_law_280 : decode cL_law 280 = .ok (.iload_n 3, 1) := by decide +kernel
theorem dL_law_281 : decode cL_law 281 = .ok (.iconst 1, 1) := by decide +kernel
theorem dL_law_282 : decode cL_law 282 = .ok (.iadd, 1) := by decide +kernel
theorem dL_law_283 : decode cL_law 283 = .ok (.iaload, 1) := by decide +kernel
theorem dL_law_284 : decode cL_law 284 = .ok (.invokevirtual 31, 3) := by decide +kernel
theorem dL_law_287 : decode cL_law 287 = .ok (.if_icmp .eq 533, 3) := by decide +kernel
theorem dL_law_290 : decode cL_law 290 = .ok (.iconst 0, 1) := by decide +kernel
theorem dL_law_291 : decode cL_law 291 = .ok (.ireturn, 1) := by decide +kernel
theorem dL_law_292 : decode cL_law 292 = .ok (.aload_n 1, 1) := by decide +kernel
theorem dL_law_293 : decode cL_law 293 = .ok (.invokevirtual 32, 3) := by decide +kernel
theorem dL_law_296 : decode cL_law 296 = .ok (.aload_n 2, 1) := by decide +kernel
theorem dL_law_297 : decode cL_law 297 = .ok (.invokevirtual 36, 3) := by decide +kernel
theorem dL_law_300 : decode cL_law 300 = .ok (.if_icmp .eq 520, 3) := by decide +kernel
theorem dL_law_303 : decode cL_law 303 = .ok (.iconst 0, 1) := by decide +kernel
theorem dL_law_304 : decode cL_law 304 = .ok (.ireturn, 1) := by decide +kernel
theorem dL_law_305 : decode cL_law 305 = .ok (.aload_n 1, 1) := by decide +kernel
theorem dL_law_306 : decode cL_law 306 = .ok (.aload_n 0, 1) := by decide +kernel
theorem dL_law_307 : decode cL_law 307 = .ok (.iload_n 3, 1) := by decide +kernel
theorem dL_law_308 : decode cL_law 308 = .ok (.iconst 1, 1) := by decide +kernel
theorem dL_law_309 : decode cL_law 309 = .ok (.iadd, 1) := by decide +kernel
theorem dL_law_310 : decode cL_law 310 = .ok (.iaload, 1) := by decide +kernel
theorem dL_law_311 : decode cL_law 311 = .ok (.aload_n 0, 1) := by decide +kernel
theorem dL_law_312 : decode cL_law 312 = .ok (.iload_n 3, 1) := by decide +kernel
theorem dL_law_313 : decode cL_law 313 = .ok (.iconst 2, 1) := by decide +kernel
theorem dL_law_314 : decode cL_law 314 = .ok (.iadd, 1) := by decide +kernel
theorem dL_law_315 : decode cL_law 315 = .ok (.iaload, 1) := by decide +kernel
theorem dL_law_316 : decode cL_law 316 = .ok (.invokevirtual 37, 3) := by decide +kernel
theorem dL_law_319 : decode cL_law 319 = .ok (.aload_n 2, 1) := by decide +kernel
theorem dL_law_320 : decode cL_law 320 = .ok (.aload_n 0, 1) := by decide +kernel
theorem dL_law_321 : decode cL_law 321 = .ok (.iload_n 3, 1) := by decide +kernel
theorem dL_law_322 : decode cL_law 322 = .ok (.iconst 1, 1) := by decide +kernel
theorem dL_law_323 : decode cL_law 323 = .ok (.iadd, 1) := by decide +kernel
theorem dL_law_324 : decode cL_law 324 = .ok (.iaload, 1) := by decide +kernel
theorem dL_law_325 : decode cL_law 325 = .ok (.aload_n 0, 1) := by decide +kernel
theorem dL_law_326 : decode cL_law 326 = .ok (.iload_n 3, 1) := by decide +kernel
theorem dL_law_327 : decode cL_law 327 = .ok (.iconst 2, 1) := by decide +kernel
theorem dL_law_328 : decode cL_law 328 = .ok (.iadd, 1) := by decide +kernel
theorem dL_law_329 : decode cL_law 329 = .ok (.iaload, 1) := by decide +kernel
theorem dL_law_330 : decode cL_law 330 = .ok (.invokevirtual 40, 3) := by decide +kernel
theorem dL_law_333 : decode cL_law 333 = .ok (.if_icmp .eq 487, 3) := by decide +kernel
theorem dL_law_336 : decode cL_law 336 = .ok (.iconst 0, 1) := by decide +kernel
theorem dL_law_337 : decode cL_law 337 = .ok (.ireturn, 1) := by decide +kernel
theorem dL_law_338 : decode cL_law 338 = .ok (.aload_n 1, 1) := by decide +kernel
theorem dL_law_339 : decode cL_law 339 = .ok (.aload_n 0, 1) := by decide +kernel
theorem dL_law_340 : decode cL_law 340 = .ok (.iload_n 3, 1) := by decide +kernel
theorem dL_law_341 : decode cL_law 341 = .ok (.iconst 1, 1) := by decide +kernel
theorem dL_law_342 : decode cL_law 342 = .ok (.iadd, 1) := by decide +kernel
theorem dL_law_343 : decode cL_law 343 = .ok (.iaload, 1) := by decide +kernel
theorem dL_law_344 : decode cL_law 344 = .ok (.invokevirtual 41, 3) := by decide +kernel
theorem dL_law_347 : decode cL_law 347 = .ok (.aload_n 2, 1) := by decide +kernel
theorem dL_law_348 : decode cL_law 348 = .ok (.aload_n 0, 1) := by decide +kernel
theorem dL_law_349 : decode cL_law 349 = .ok (.iload_n 3, 1) := by decide +kernel
theorem dL_law_350 : decode cL_law 350 = .ok (.iconst 1, 1) := by decide +kernel
theorem dL_law_351 : decode cL_law 351 = .ok (.iadd, 1) := by decide +kernel
theorem dL_law_352 : decode cL_law 352 = .ok (.iaload, 1) := by decide +kernel
theorem dL_law_353 : decode cL_law 353 = .ok (.invokevirtual 44, 3) := by decide +kernel
theorem dL_law_356 : decode cL_law 356 = .ok (.if_icmp .eq 464, 3) := by decide +kernel
theorem dL_law_359 : decode cL_law 359 = .ok (.iconst 0, 1) := by decide +kernel
theorem dL_law_360 : decode cL_law 360 = .ok (.ireturn, 1) := by decide +kernel
theorem dL_law_361 : decode cL_law 361 = .ok (.aload_n 1, 1) := by decide +kernel
theorem dL_law_362 : decode cL_law 362 = .ok (.aload_n 0, 1) := by decide +kernel
theorem dL_law_363 : decode cL_law 363 = .ok (.iload_n 3, 1) := by decide +kernel
theorem dL_law_364 : decode cL_law 364 = .ok (.iconst 1, 1) := by decide +kernel
theorem dL_law_365 : decode cL_law 365 = .ok (.iadd, 1) := by decide +kernel
theorem dL_law_366 : decode cL_law 366 = .ok (.iaload, 1) := by decide +kernel
theorem dL_law_367 : decode cL_law 367 = .ok (.aload_n 0, 1) := by decide +kernel
theorem dL_law_368 : decode cL_law 368 = .ok (.iload_n 3, 1) := by decide +kernel
theorem dL_law_369 : decode cL_law 369 = .ok (.iconst 2, 1) := by decide +kernel
theorem dL_law_370 : decode cL_law 370 = .ok (.iadd, 1) := by decide +kernel
theorem dL_law_371 : decode cL_law 371 = .ok (.iaload, 1) := by decide +kernel
theorem dL_law_372 : decode cL_law 372 = .ok (.invokevirtual 45, 3) := by decide +kernel
theorem dL_law_375 : decode cL_law 375 = .ok (.aload_n 2, 1) := by decide +kernel
theorem dL_law_376 : decode cL_law 376 = .ok (.aload_n 0, 1) := by decide +kernel
theorem dL_law_377 : decode cL_law 377 = .ok (.iload_n 3, 1) := by decide +kernel
theorem dL_law_378 : decode cL_law 378 = .ok (.iconst 1, 1) := by decide +kernel
theorem dL_law_379 : decode cL_law 379 = .ok (.iadd, 1) := by decide +kernel
theorem dL_law_380 : decode cL_law 380 = .ok (.iaload, 1) := by decide +kernel
theorem dL_law_381 : decode cL_law 381 = .ok (.aload_n 0, 1) := by decide +kernel
theorem dL_law_382 : decode cL_law 382 = .ok (.iload_n 3, 1) := by decide +kernel
theorem dL_law_383 : decode cL_law 383 = .ok (.iconst 2, 1) := by decide +kernel
theorem dL_law_384 : decode cL_law 384 = .ok (.iadd, 1) := by decide +kernel
theorem dL_law_385 : decode cL_law 385 = .ok (.iaload, 1) := by decide +kernel
theorem dL_law_386 : decode cL_law 386 = .ok (.invokevirtual 48, 3) := by decide +kernel
theorem dL_law_389 : decode cL_law 389 = .ok (.if_icmp .eq 431, 3) := by decide +kernel
theorem dL_law_392 : decode cL_law 392 = .ok (.iconst 0, 1) := by decide +kernel
theorem dL_law_393 : decode cL_law 393 = .ok (.ireturn, 1) := by decide +kernel
theorem dL_law_394 : decode cL_law 394 = .ok (.aload_n 1, 1) := by decide +kernel
theorem dL_law_395 : decode cL_law 395 = .ok (.aload_n 0, 1) := by decide +kernel
theorem dL_law_396 : decode cL_law 396 = .ok (.iload_n 3, 1) := by decide +kernel
theorem dL_law_397 : decode cL_law 397 = .ok (.iconst 1, 1) := by decide +kernel
theorem dL_law_398 : decode cL_law 398 = .ok (.iadd, 1) := by decide +kernel
theorem dL_law_399 : decode cL_law 399 = .ok (.iaload, 1) := by decide +kernel
theorem dL_law_400 : decode cL_law 400 = .ok (.invokevirtual 49, 3) := by decide +kernel
theorem dL_law_403 : decode cL_law 403 = .ok (.aload_n 2, 1) := by decide +kernel
theorem dL_law_404 : decode cL_law 404 = .ok (.aload_n 0, 1) := by decide +kernel
theorem dL_law_405 : decode cL_law 405 = .ok (.iload_n 3, 1) := by decide +kernel
theorem dL_law_406 : decode cL_law 406 = .ok (.iconst 1, 1) := by decide +kernel
theorem dL_law_407 : decode cL_law 407 = .ok (.iadd, 1) := by decide +kernel
theorem dL_law_408 : decode cL_law 408 = .ok (.iaload, 1) := by decide +kernel
theorem dL_law_409 : decode cL_law 409 = .ok (.invokevirtual 52, 3) := by decide +kernel
theorem dL_law_412 : decode cL_law 412 = .ok (.if_icmp .eq 408, 3) := by decide +kernel
theorem dL_law_415 : decode cL_law 415 = .ok (.iconst 0, 1) := by decide +kernel
theorem dL_law_416 : decode cL_law 416 = .ok (.ireturn, 1) := by decide +kernel
theorem dL_law_417 : decode cL_law 417 = .ok (.aload_n 1, 1) := by decide +kernel
theorem dL_law_418 : decode cL_law 418 = .ok (.aload_n 0, 1) := by decide +kernel
theorem dL_law_419 : decode cL_law 419 = .ok (.iload_n 3, 1) := by decide +kernel
theorem dL_law_420 : decode cL_law 420 = .ok (.iconst 1, 1) := by decide +kernel
theorem dL_law_421 : decode cL_law 421 = .ok (.iadd, 1) := by decide +kernel
theorem dL_law_422 : decode cL_law 422 = .ok (.iaload, 1) := by decide +kernel
theorem dL_law_423 : decode cL_law 423 = .ok (.invokevirtual 53, 3) := by decide +kernel
theorem dL_law_426 : decode cL_law 426 = .ok (.aload_n 2, 1) := by decide +kernel
theorem dL_law_427 : decode cL_law 427 = .ok (.aload_n 0, 1) := by decide +kernel
theorem dL_law_428 : decode cL_law 428 = .ok (.iload_n 3, 1) := by decide +kernel
theorem dL_law_429 : decode cL_law 429 = .ok (.iconst 1, 1) := by decide +kernel
theorem dL_law_430 : decode cL_law 430 = .ok (.iadd, 1) := by decide +kernel
theorem dL_law_431 : decode cL_law 431 = .ok (.iaload, 1) := by decide +kernel
theorem dL_law_432 : decode cL_law 432 = .ok (.invokevirtual 56, 3) := by decide +kernel
theorem dL_law_435 : decode cL_law 435 = .ok (.if_icmp .eq 385, 3) := by decide +kernel
theorem dL_law_438 : decode cL_law 438 = .ok (.iconst 0, 1) := by decide +kernel
theorem dL_law_439 : decode cL_law 439 = .ok (.ireturn, 1) := by decide +kernel
theorem dL_law_440 : decode cL_law 440 = .ok (.aload_n 1, 1) := by decide +kernel
theorem dL_law_441 : decode cL_law 441 = .ok (.aload_n 0, 1) := by decide +kernel
theorem dL_law_442 : decode cL_law 442 = .ok (.iload_n 3, 1) := by decide +kernel
theorem dL_law_443 : decode cL_law 443 = .ok (.iconst 1, 1) := by decide +kernel
theorem dL_law_444 : decode cL_law 444 = .ok (.iadd, 1) := by decide +kernel
theorem dL_law_445 : decode cL_law 445 = .ok (.iaload, 1) := by decide +kernel
theorem dL_law_446 : decode cL_law 446 = .ok (.invokevirtual 57, 3) := by decide +kernel
theorem dL_law_449 : decode cL_law 449 = .ok (.aload_n 2, 1) := by decide +kernel
theorem dL_law_450 : decode cL_law 450 = .ok (.aload_n 0, 1) := by decide +kernel
theorem dL_law_451 : decode cL_law 451 = .ok (.iload_n 3, 1) := by decide +kernel
theorem dL_law_452 : decode cL_law 452 = .ok (.iconst 1, 1) := by decide +kernel
theorem dL_law_453 : decode cL_law 453 = .ok (.iadd, 1) := by decide +kernel
theorem dL_law_454 : decode cL_law 454 = .ok (.iaload, 1) := by decide +kernel
theorem dL_law_455 : decode cL_law 455 = .ok (.invokevirtual 60, 3) := by decide +kernel
theorem dL_law_458 : decode cL_law 458 = .ok (.if_icmp .eq 362, 3) := by decide +kernel
theorem dL_law_461 : decode cL_law 461 = .ok (.iconst 0, 1) := by decide +kernel
theorem dL_law_462 : decode cL_law 462 = .ok (.ireturn, 1) := by decide +kernel
theorem dL_law_463 : decode cL_law 463 = .ok (.aload_n 1, 1) := by decide +kernel
theorem dL_law_464 : decode cL_law 464 = .ok (.aload_n 0, 1) := by decide +kernel
theorem dL_law_465 : decode cL_law 465 = .ok (.iload_n 3, 1) := by decide +kernel
theorem dL_law_466 : decode cL_law 466 = .ok (.iconst 1, 1) := by decide +kernel
theorem dL_law_467 : decode cL_law 467 = .ok (.iadd, 1) := by decide +kernel
theorem dL_law_468 : decode cL_law 468 = .ok (.iaload, 1) := by decide +kernel
theorem dL_law_469 : decode cL_law 469 = .ok (.invokevirtual 61, 3) := by decide +kernel
theorem dL_law_472 : decode cL_law 472 = .ok (.aload_n 2, 1) := by decide +kernel
theorem dL_law_473 : decode cL_law 473 = .ok (.aload_n 0, 1) := by decide +kernel
theorem dL_law_474 : decode cL_law 474 = .ok (.iload_n 3, 1) := by decide +kernel
theorem dL_law_475 : decode cL_law 475 = .ok (.iconst 1, 1) := by decide +kernel
theorem dL_law_476 : decode cL_law 476 = .ok (.iadd, 1) := by decide +kernel
theorem dL_law_477 : decode cL_law 477 = .ok (.iaload, 1) := by decide +kernel
theorem dL_law_478 : decode cL_law 478 = .ok (.invokevirtual 64, 3) := by decide +kernel
theorem dL_law_481 : decode cL_law 481 = .ok (.if_icmp .eq 339, 3) := by decide +kernel
theorem dL_law_484 : decode cL_law 484 = .ok (.iconst 0, 1) := by decide +kernel
theorem dL_law_485 : decode cL_law 485 = .ok (.ireturn, 1) := by decide +kernel
theorem dL_law_486 : decode cL_law 486 = .ok (.aload_n 1, 1) := by decide +kernel
theorem dL_law_487 : decode cL_law 487 = .ok (.aload_n 0, 1) := by decide +kernel
theorem dL_law_488 : decode cL_law 488 = .ok (.iload_n 3, 1) := by decide +kernel
theorem dL_law_489 : decode cL_law 489 = .ok (.iconst 1, 1) := by decide +kernel
theorem dL_law_490 : decode cL_law 490 = .ok (.iadd, 1) := by decide +kernel
theorem dL_law_491 : decode cL_law 491 = .ok (.iaload, 1) := by decide +kernel
theorem dL_law_492 : decode cL_law 492 = .ok (.invokevirtual 65, 3) := by decide +kernel
theorem dL_law_495 : decode cL_law 495 = .ok (.aload_n 2, 1) := by decide +kernel
theorem dL_law_496 : decode cL_law 496 = .ok (.aload_n 0, 1) := by decide +kernel
theorem dL_law_497 : decode cL_law 497 = .ok (.iload_n 3, 1) := by decide +kernel
theorem dL_law_498 : decode cL_law 498 = .ok (.iconst 1, 1) := by decide +kernel
theorem dL_law_499 : decode cL_law 499 = .ok (.iadd, 1) := by decide +kernel
theorem dL_law_500 : decode cL_law 500 = .ok (.iaload, 1) := by decide +kernel
theorem dL_law_501 : decode cL_law 501 = .ok (.invokevirtual 68, 3) := by decide +kernel
theorem dL_law_504 : decode cL_law 504 = .ok (.if_icmp .eq 316, 3) := by decide +kernel
theorem dL_law_507 : decode cL_law 507 = .ok (.iconst 0, 1) := by decide +kernel
theorem dL_law_508 : decode cL_law 508 = .ok (.ireturn, 1) := by decide +kernel
theorem dL_law_509 : decode cL_law 509 = .ok (.aload_n 1, 1) := by decide +kernel
theorem dL_law_510 : decode cL_law 510 = .ok (.aload_n 0, 1) := by decide +kernel
theorem dL_law_511 : decode cL_law 511 = .ok (.iload_n 3, 1) := by decide +kernel
theorem dL_law_512 : decode cL_law 512 = .ok (.iconst 1, 1) := by decide +kernel
theorem dL_law_513 : decode cL_law 513 = .ok (.iadd, 1) := by decide +kernel
theorem dL_law_514 : decode cL_law 514 = .ok (.iaload, 1) := by decide +kernel
theorem dL_law_515 : decode cL_law 515 = .ok (.invokevirtual 69, 3) := by decide +kernel
theorem dL_law_518 : decode cL_law 518 = .ok (.aload_n 2, 1) := by decide +kernel
theorem dL_law_519 : decode cL_law 519 = .ok (.aload_n 0, 1) := by decide +kernel
theorem dL_law_520 : decode cL_law 520 = .ok (.iload_n 3, 1) := by decide +kernel
theorem dL_law_521 : decode cL_law 521 = .ok (.iconst 1, 1) := by decide +kernel
theorem dL_law_522 : decode cL_law 522 = .ok (.iadd, 1) := by decide +kernel
theorem dL_law_523 : decode cL_law 523 = .ok (.iaload, 1) := by decide +kernel
theorem dL_law_524 : decode cL_law 524 = .ok (.invokevirtual 72, 3) := by decide +kernel
theorem dL_law_527 : decode cL_law 527 = .ok (.if_icmp .eq 293, 3) := by decide +kernel
theorem dL_law_530 : decode cL_law 530 = .ok (.iconst 0, 1) := by decide +kernel
theorem dL_law_531 : decode cL_law 531 = .ok (.ireturn, 1) := by decide +kernel
theorem dL_law_532 : decode cL_law 532 = .ok (.aload_n 1, 1) := by decide +kernel
theorem dL_law_533 : decode cL_law 533 = .ok (.aload_n 0, 1) := by decide +kernel
theorem dL_law_534 : decode cL_law 534 = .ok (.iload_n 3, 1) := by decide +kernel
theorem dL_law_535 : decode cL_law 535 = .ok (.iconst 1, 1) := by decide +kernel
theorem dL_law_536 : decode cL_law 536 = .ok (.iadd, 1) := by decide +kernel
theorem dL_law_537 : decode cL_law 537 = .ok (.iaload, 1) := by decide +kernel
theorem dL_law_538 : decode cL_law 538 = .ok (.invokevirtual 73, 3) := by decide +kernel
theorem dL_law_541 : decode cL_law 541 = .ok (.aload_n 2, 1) := by decide +kernel
theorem dL_law_542 : decode cL_law 542 = .ok (.aload_n 0, 1) := by decide +kernel
theorem dL_law_543 : decode cL_law 543 = .ok (.iload_n 3, 1) := by decide +kernel
theorem dL_law_544 : decode cL_law 544 = .ok (.iconst 1, 1) := by decide +kernel
theorem dL_law_545 : decode cL_law 545 = .ok (.iadd, 1) := by decide +kernel
theorem dL_law_546 : decode cL_law 546 = .ok (.iaload, 1) := by decide +kernel
theorem dL_law_547 : decode cL_law 547 = .ok (.invokevirtual 76, 3) := by decide +kernel
theorem dL_law_550 : decode cL_law 550 = .ok (.if_icmp .eq 270, 3) := by decide +kernel
theorem dL_law_553 : decode cL_law 553 = .ok (.iconst 0, 1) := by decide +kernel
theorem dL_law_554 : decode cL_law 554 = .ok (.ireturn, 1) := by decide +kernel
theorem dL_law_555 : decode cL_law 555 = .ok (.aload_n 1, 1) := by decide +kernel
theorem dL_law_556 : decode cL_law 556 = .ok (.aload_n 0, 1) := by decide +kernel
theorem dL_law_557 : decode cL_law 557 = .ok (.iload_n 3, 1) := by decide +kernel
theorem dL_law_558 : decode cL_law 558 = .ok (.iconst 1, 1) := by decide +kernel
theorem dL_law_559 : decode cL_law 559 = .ok (.iadd, 1) := by decide +kernel
theorem dL_law_560 : decode cL_law 560 = .ok (.iaload, 1) := by decide +kernel
theorem dL_law_561 : decode cL_law 561 = .ok (.aload_n 0, 1) := by decide +kernel
theorem dL_law_562 : decode cL_law 562 = .ok (.iload_n 3, 1) := by decide +kernel
theorem dL_law_563 : decode cL_law 563 = .ok (.iconst 2, 1) := by decide +kernel
theorem dL_law_564 : decode cL_law 564 = .ok (.iadd, 1) := by decide +kernel
theorem dL_law_565 : decode cL_law 565 = .ok (.iaload, 1) := by decide +kernel
theorem dL_law_566 : decode cL_law 566 = .ok (.aload_n 0, 1) := by decide +kernel
theorem dL_law_567 : decode cL_law 567 = .ok (.iload_n 3, 1) := by decide +kernel
theorem dL_law_568 : decode cL_law 568 = .ok (.iconst 3, 1) := by decide +kernel
theorem dL_law_569 : decode cL_law 569 = .ok (.iadd, 1) := by decide +kernel
theorem dL_law_570 : decode cL_law 570 = .ok (.iaload, 1) := by decide +kernel
theorem dL_law_571 : decode cL_law 571 = .ok (.ifCond .eq 7, 3) := by decide +kernel
theorem dL_law_574 : decode cL_law 574 = .ok (.iconst 1, 1) := by decide +kernel
theorem dL_law_575 : decode cL_law 575 = .ok (.goto 4, 3) := by decide +kernel
theorem dL_law_578 : decode cL_law 578 = .ok (.iconst 0, 1) := by decide +kernel
theorem dL_law_579 : decode cL_law 579 = .ok (.invokevirtual 77, 3) := by decide +kernel
theorem dL_law_582 : decode cL_law 582 = .ok (.aload_n 2, 1) := by decide +kernel
theorem dL_law_583 : decode cL_law 583 = .ok (.aload_n 0, 1) := by decide +kernel
theorem dL_law_584 : decode cL_law 584 = .ok (.iload_n 3, 1) := by decide +kernel
theorem dL_law_585 : decode cL_law 585 = .ok (.iconst 1, 1) := by decide +kernel
theorem dL_law_586 : decode cL_law 586 = .ok (.iadd, 1) := by decide +kernel
theorem dL_law_587 : decode cL_law 587 = .ok (.iaload, 1) := by decide +kernel
theorem dL_law_588 : decode cL_law 588 = .ok (.aload_n 0, 1) := by decide +kernel
theorem dL_law_589 : decode cL_law 589 = .ok (.iload_n 3, 1) := by decide +kernel
theorem dL_law_590 : decode cL_law 590 = .ok (.iconst 2, 1) := by decide +kernel
theorem dL_law_591 : decode cL_law 591 = .ok (.iadd, 1) := by decide +kernel
theorem dL_law_592 : decode cL_law 592 = .ok (.iaload, 1) := by decide +kernel
theorem dL_law_593 : decode cL_law 593 = .ok (.aload_n 0, 1) := by decide +kernel
theorem dL_law_594 : decode cL_law 594 = .ok (.iload_n 3, 1) := by decide +kernel
theorem dL_law_595 : decode cL_law 595 = .ok (.iconst 3, 1) := by decide +kernel
theorem dL_law_596 : decode cL_law 596 = .ok (.iadd, 1) := by decide +kernel
theorem dL_law_597 : decode cL_law 597 = .ok (.iaload, 1) := by decide +kernel
theorem dL_law_598 : decode cL_law 598 = .ok (.ifCond .eq 7, 3) := by decide +kernel
theorem dL_law_601 : decode cL_law 601 = .ok (.iconst 1, 1) := by decide +kernel
theorem dL_law_602 : decode cL_law 602 = .ok (.goto 4, 3) := by decide +kernel
theorem dL_law_605 : decode cL_law 605 = .ok (.iconst 0, 1) := by decide +kernel
theorem dL_law_606 : decode cL_law 606 = .ok (.invokevirtual 81, 3) := by decide +kernel
theorem dL_law_609 : decode cL_law 609 = .ok (.if_icmp .eq 211, 3) := by decide +kernel
theorem dL_law_612 : decode cL_law 612 = .ok (.iconst 0, 1) := by decide +kernel
theorem dL_law_613 : decode cL_law 613 = .ok (.ireturn, 1) := by decide +kernel
theorem dL_law_614 : decode cL_law 614 = .ok (.aload_n 1, 1) := by decide +kernel
theorem dL_law_615 : decode cL_law 615 = .ok (.aload_n 0, 1) := by decide +kernel
theorem dL_law_616 : decode cL_law 616 = .ok (.iload_n 3, 1) := by decide +kernel
theorem dL_law_617 : decode cL_law 617 = .ok (.iconst 1, 1) := by decide +kernel
theorem dL_law_618 : decode cL_law 618 = .ok (.iadd, 1) := by decide +kernel
theorem dL_law_619 : decode cL_law 619 = .ok (.iaload, 1) := by decide +kernel
theorem dL_law_620 : decode cL_law 620 = .ok (.invokevirtual 82, 3) := by decide +kernel
theorem dL_law_623 : decode cL_law 623 = .ok (.aload_n 2, 1) := by decide +kernel
theorem dL_law_624 : decode cL_law 624 = .ok (.aload_n 0, 1) := by decide +kernel
theorem dL_law_625 : decode cL_law 625 = .ok (.iload_n 3, 1) := by decide +kernel
theorem dL_law_626 : decode cL_law 626 = .ok (.iconst 1, 1) := by decide +kernel
theorem dL_law_627 : decode cL_law 627 = .ok (.iadd, 1) := by decide +kernel
theorem dL_law_628 : decode cL_law 628 = .ok (.iaload, 1) := by decide +kernel
theorem dL_law_629 : decode cL_law 629 = .ok (.invokevirtual 85, 3) := by decide +kernel
theorem dL_law_632 : decode cL_law 632 = .ok (.if_icmp .eq 188, 3) := by decide +kernel
theorem dL_law_635 : decode cL_law 635 = .ok (.iconst 0, 1) := by decide +kernel
theorem dL_law_636 : decode cL_law 636 = .ok (.ireturn, 1) := by decide +kernel
theorem dL_law_637 : decode cL_law 637 = .ok (.aload_n 1, 1) := by decide +kernel
theorem dL_law_638 : decode cL_law 638 = .ok (.invokevirtual 86, 3) := by decide +kernel
theorem dL_law_641 : decode cL_law 641 = .ok (.aload_n 2, 1) := by decide +kernel
theorem dL_law_642 : decode cL_law 642 = .ok (.invokevirtual 89, 3) := by decide +kernel
theorem dL_law_645 : decode cL_law 645 = .ok (.if_icmp .eq 175, 3) := by decide +kernel
theorem dL_law_648 : decode cL_law 648 = .ok (.iconst 0, 1) := by decide +kernel
theorem dL_law_649 : decode cL_law 649 = .ok (.ireturn, 1) := by decide +kernel
theorem dL_law_650 : decode cL_law 650 = .ok (.aload_n 1, 1) := by decide +kernel
theorem dL_law_651 : decode cL_law 651 = .ok (.invokevirtual 90, 3) := by decide +kernel
theorem dL_law_654 : decode cL_law 654 = .ok (.aload_n 2, 1) := by decide +kernel
theorem dL_law_655 : decode cL_law 655 = .ok (.invokevirtual 93, 3) := by decide +kernel
theorem dL_law_658 : decode cL_law 658 = .ok (.if_icmp .eq 162, 3) := by decide +kernel
theorem dL_law_661 : decode cL_law 661 = .ok (.iconst 0, 1) := by decide +kernel
theorem dL_law_662 : decode cL_law 662 = .ok (.ireturn, 1) := by decide +kernel
theorem dL_law_663 : decode cL_law 663 = .ok (.aload_n 1, 1) := by decide +kernel
theorem dL_law_664 : decode cL_law 664 = .ok (.invokevirtual 94, 3) := by decide +kernel
theorem dL_law_667 : decode cL_law 667 = .ok (.aload_n 2, 1) := by decide +kernel
theorem dL_law_668 : decode cL_law 668 = .ok (.invokevirtual 97, 3) := by decide +kernel
theorem dL_law_671 : decode cL_law 671 = .ok (.if_icmp .eq 149, 3) := by decide +kernel
theorem dL_law_674 : decode cL_law 674 = .ok (.iconst 0, 1) := by decide +kernel
theorem dL_law_675 : decode cL_law 675 = .ok (.ireturn, 1) := by decide +kernel
theorem dL_law_676 : decode cL_law 676 = .ok (.aload_n 1, 1) := by decide +kernel
theorem dL_law_677 : decode cL_law 677 = .ok (.aload_n 0, 1) := by decide +kernel
theorem dL_law_678 : decode cL_law 678 = .ok (.iload_n 3, 1) := by decide +kernel
theorem dL_law_679 : decode cL_law 679 = .ok (.iconst 1, 1) := by decide +kernel
theorem dL_law_680 : decode cL_law 680 = .ok (.iadd, 1) := by decide +kernel
theorem dL_law_681 : decode cL_law 681 = .ok (.iaload, 1) := by decide +kernel
theorem dL_law_682 : decode cL_law 682 = .ok (.invokevirtual 98, 3) := by decide +kernel
theorem dL_law_685 : decode cL_law 685 = .ok (.aload_n 2, 1) := by decide +kernel
theorem dL_law_686 : decode cL_law 686 = .ok (.aload_n 0, 1) := by decide +kernel
theorem dL_law_687 : decode cL_law 687 = .ok (.iload_n 3, 1) := by decide +kernel
theorem dL_law_688 : decode cL_law 688 = .ok (.iconst 1, 1) := by decide +kernel
theorem dL_law_689 : decode cL_law 689 = .ok (.iadd, 1) := by decide +kernel
theorem dL_law_690 : decode cL_law 690 = .ok (.iaload, 1) := by decide +kernel
theorem dL_law_691 : decode cL_law 691 = .ok (.invokevirtual 101, 3) := by decide +kernel
theorem dL_law_694 : decode cL_law 694 = .ok (.if_icmp .eq 126, 3) := by decide +kernel
theorem dL_law_697 : decode cL_law 697 = .ok (.iconst 0, 1) := by decide +kernel
theorem dL_law_698 : decode cL_law 698 = .ok (.ireturn, 1) := by decide +kernel
theorem dL_law_699 : decode cL_law 699 = .ok (.aload_n 1, 1) := by decide +kernel
theorem dL_law_700 : decode cL_law 700 = .ok (.aload_n 0, 1) := by decide +kernel
theorem dL_law_701 : decode cL_law 701 = .ok (.iload_n 3, 1) := by decide +kernel
theorem dL_law_702 : decode cL_law 702 = .ok (.iconst 1, 1) := by decide +kernel
theorem dL_law_703 : decode cL_law 703 = .ok (.iadd, 1) := by decide +kernel
theorem dL_law_704 : decode cL_law 704 = .ok (.iaload, 1) := by decide +kernel
theorem dL_law_705 : decode cL_law 705 = .ok (.aload_n 0, 1) := by decide +kernel
theorem dL_law_706 : decode cL_law 706 = .ok (.iload_n 3, 1) := by decide +kernel
theorem dL_law_707 : decode cL_law 707 = .ok (.iconst 2, 1) := by decide +kernel
theorem dL_law_708 : decode cL_law 708 = .ok (.iadd, 1) := by decide +kernel
theorem dL_law_709 : decode cL_law 709 = .ok (.iaload, 1) := by decide +kernel
theorem dL_law_710 : decode cL_law 710 = .ok (.invokevirtual 102, 3) := by decide +kernel
theorem dL_law_713 : decode cL_law 713 = .ok (.aload_n 2, 1) := by decide +kernel
theorem dL_law_714 : decode cL_law 714 = .ok (.aload_n 0, 1) := by decide +kernel
theorem dL_law_715 : decode cL_law 715 = .ok (.iload_n 3, 1) := by decide +kernel
theorem dL_law_716 : decode cL_law 716 = .ok (.iconst 1, 1) := by decide +kernel
theorem dL_law_717 : decode cL_law 717 = .ok (.iadd, 1) := by decide +kernel
theorem dL_law_718 : decode cL_law 718 = .ok (.iaload, 1) := by decide +kernel
theorem dL_law_719 : decode cL_law 719 = .ok (.aload_n 0, 1) := by decide +kernel
theorem dL_law_720 : decode cL_law 720 = .ok (.iload_n 3, 1) := by decide +kernel
theorem dL_law_721 : decode cL_law 721 = .ok (.iconst 2, 1) := by decide +kernel
theorem dL_law_722 : decode cL_law 722 = .ok (.iadd, 1) := by decide +kernel
theorem dL_law_723 : decode cL_law 723 = .ok (.iaload, 1) := by decide +kernel
theorem dL_law_724 : decode cL_law 724 = .ok (.invokevirtual 105, 3) := by decide +kernel
theorem dL_law_727 : decode cL_law 727 = .ok (.if_icmp .eq 93, 3) := by decide +kernel
theorem dL_law_730 : decode cL_law 730 = .ok (.iconst 0, 1) := by decide +kernel
theorem dL_law_731 : decode cL_law 731 = .ok (.ireturn, 1) := by decide +kernel
theorem dL_law_732 : decode cL_law 732 = .ok (.aload_n 1, 1) := by decide +kernel
theorem dL_law_733 : decode cL_law 733 = .ok (.invokevirtual 106, 3) := by decide +kernel
theorem dL_law_736 : decode cL_law 736 = .ok (.aload_n 2, 1) := by decide +kernel
theorem dL_law_737 : decode cL_law 737 = .ok (.invokevirtual 109, 3) := by decide +kernel
theorem dL_law_740 : decode cL_law 740 = .ok (.if_icmp .eq 80, 3) := by decide +kernel
theorem dL_law_743 : decode cL_law 743 = .ok (.iconst 0, 1) := by decide +kernel
theorem dL_law_744 : decode cL_law 744 = .ok (.ireturn, 1) := by decide +kernel
theorem dL_law_745 : decode cL_law 745 = .ok (.aload_n 1, 1) := by decide +kernel
theorem dL_law_746 : decode cL_law 746 = .ok (.invokevirtual 110, 3) := by decide +kernel
theorem dL_law_749 : decode cL_law 749 = .ok (.aload_n 2, 1) := by decide +kernel
theorem dL_law_750 : decode cL_law 750 = .ok (.invokevirtual 113, 3) := by decide +kernel
theorem dL_law_753 : decode cL_law 753 = .ok (.if_icmp .eq 67, 3) := by decide +kernel
theorem dL_law_756 : decode cL_law 756 = .ok (.iconst 0, 1) := by decide +kernel
theorem dL_law_757 : decode cL_law 757 = .ok (.ireturn, 1) := by decide +kernel
theorem dL_law_758 : decode cL_law 758 = .ok (.aload_n 1, 1) := by decide +kernel
theorem dL_law_759 : decode cL_law 759 = .ok (.invokevirtual 114, 3) := by decide +kernel
theorem dL_law_762 : decode cL_law 762 = .ok (.aload_n 2, 1) := by decide +kernel
theorem dL_law_763 : decode cL_law 763 = .ok (.invokevirtual 117, 3) := by decide +kernel
theorem dL_law_766 : decode cL_law 766 = .ok (.if_icmp .eq 54, 3) := by decide +kernel
theorem dL_law_769 : decode cL_law 769 = .ok (.iconst 0, 1) := by decide +kernel
theorem dL_law_770 : decode cL_law 770 = .ok (.ireturn, 1) := by decide +kernel
theorem dL_law_771 : decode cL_law 771 = .ok (.aload_n 1, 1) := by decide +kernel
theorem dL_law_772 : decode cL_law 772 = .ok (.invokevirtual 118, 3) := by decide +kernel
theorem dL_law_775 : decode cL_law 775 = .ok (.aload_n 2, 1) := by decide +kernel
theorem dL_law_776 : decode cL_law 776 = .ok (.invokevirtual 121, 3) := by decide +kernel
theorem dL_law_779 : decode cL_law 779 = .ok (.if_icmp .eq 41, 3) := by decide +kernel
theorem dL_law_782 : decode cL_law 782 = .ok (.iconst 0, 1) := by decide +kernel
theorem dL_law_783 : decode cL_law 783 = .ok (.ireturn, 1) := by decide +kernel
theorem dL_law_784 : decode cL_law 784 = .ok (.aload_n 1, 1) := by decide +kernel
theorem dL_law_785 : decode cL_law 785 = .ok (.aload_n 0, 1) := by decide +kernel
theorem dL_law_786 : decode cL_law 786 = .ok (.iload_n 3, 1) := by decide +kernel
theorem dL_law_787 : decode cL_law 787 = .ok (.iconst 1, 1) := by decide +kernel
theorem dL_law_788 : decode cL_law 788 = .ok (.iadd, 1) := by decide +kernel
theorem dL_law_789 : decode cL_law 789 = .ok (.iaload, 1) := by decide +kernel
theorem dL_law_790 : decode cL_law 790 = .ok (.invokevirtual 122, 3) := by decide +kernel
theorem dL_law_793 : decode cL_law 793 = .ok (.aload_n 2, 1) := by decide +kernel
theorem dL_law_794 : decode cL_law 794 = .ok (.aload_n 0, 1) := by decide +kernel
theorem dL_law_795 : decode cL_law 795 = .ok (.iload_n 3, 1) := by decide +kernel
theorem dL_law_796 : decode cL_law 796 = .ok (.iconst 1, 1) := by decide +kernel
theorem dL_law_797 : decode cL_law 797 = .ok (.iadd, 1) := by decide +kernel
theorem dL_law_798 : decode cL_law 798 = .ok (.iaload, 1) := by decide +kernel
theorem dL_law_799 : decode cL_law 799 = .ok (.invokevirtual 125, 3) := by decide +kernel
theorem dL_law_802 : decode cL_law 802 = .ok (.if_icmp .eq 18, 3) := by decide +kernel
theorem dL_law_805 : decode cL_law 805 = .ok (.iconst 0, 1) := by decide +kernel
theorem dL_law_806 : decode cL_law 806 = .ok (.ireturn, 1) := by decide +kernel
theorem dL_law_807 : decode cL_law 807 = .ok (.aload_n 1, 1) := by decide +kernel
theorem dL_law_808 : decode cL_law 808 = .ok (.invokevirtual 126, 3) := by decide +kernel
theorem dL_law_811 : decode cL_law 811 = .ok (.aload_n 2, 1) := by decide +kernel
theorem dL_law_812 : decode cL_law 812 = .ok (.invokevirtual 129, 3) := by decide +kernel
theorem dL_law_815 : decode cL_law 815 = .ok (.if_icmp .eq 5, 3) := by decide +kernel
theorem dL_law_818 : decode cL_law 818 = .ok (.iconst 0, 1) := by decide +kernel
theorem dL_law_819 : decode cL_law 819 = .ok (.ireturn, 1) := by decide +kernel
theorem dL_law_820 : decode cL_law 820 = .ok (.iinc 3 4, 3) := by decide +kernel
theorem dL_law_823 : decode cL_law 823 = .ok (.goto (-805), 3) := by decide +kernel
theorem dL_law_826 : decode cL_law 826 = .ok (.iconst 1, 1) := by decide +kernel
theorem dL_law_827 : decode cL_law 827 = .ok (.ireturn, 1) := by decide +kernel
end
section
/-! BASE: the world as numbered cells, the judgement Z over it, its rows -/
theorem va_up_eq {α : Type} {E1 E : Nat → α} {k : Nat} {e : α} (h : E1 = va_up E k e) : E1 k = e := by rw [h]; exact va_up_self E k e
theorem va_up_of {α : Type} {E1 E : Nat → α} {k j : Nat} {e x : α} (h : E1 = va_up E k e) (hj : j ≠ k) (he : E j = x) : E1 j = x := by rw [h, va_up_ne E e hj]; exact he
def XL (n : Nat) (ad : Nat → Nat) (E : Nat → va_E) : va_W := (List.range n).map (fun k => (ad k, E k))
def XD (A : Nat → Prop) (n : Nat) (ad : Nat → Nat) : Prop := (∀ i j, i < n → j < n → ad i = ad j → i = j) ∧ ∀ k, k < n → A (ad k)
theorem XL_get {n : Nat} {ad : Nat → Nat} {E : Nat → va_E} {k : Nat} (hk : k < n) : (XL n ad E)[k]? = some (ad k, E k) := by
  simp [XL, List.getElem?_map, List.getElem?_range hk]
theorem XL_len {n : Nat} {ad : Nat → Nat} {E : Nat → va_E} : (XL n ad E).length = n := by simp [XL]
theorem XL_at {n : Nat} {ad : Nat → Nat} {E : Nat → va_E} {k : Nat} {q : Nat × va_E} (h : (XL n ad E)[k]? = some q) : k < n ∧ q = (ad k, E k) := by
  have hl : k < n := by have := (List.getElem?_eq_some_iff.mp h).1; rwa [XL_len] at this
  rw [XL_get hl] at h
  exact ⟨hl, (Option.some.inj h).symm⟩
theorem XL_set {n : Nat} {ad : Nat → Nat} {E : Nat → va_E} {k : Nat} {e : va_E} (hk : k < n) : (XL n ad E).set k (ad k, e) = XL n ad (va_up E k e) := by
  apply List.ext_getElem?
  intro j
  by_cases hj : j = k
  · subst hj
    rw [List.getElem?_set_self (by rw [XL_len]; exact hk), XL_get hk, va_up_self]
  · rw [List.getElem?_set_ne (Ne.symm hj)]
    by_cases hl : j < n
    · rw [XL_get hl, XL_get hl, va_up_ne _ _ hj]
    · rw [List.getElem?_eq_none (by rw [XL_len]; omega), List.getElem?_eq_none (by rw [XL_len]; omega)]
theorem XD.vd {A : Nat → Prop} {n : Nat} {ad : Nat → Nat} (h : XD A n ad) (E : Nat → va_E) : va_D A (XL n ad E) := by
  refine ⟨fun i j p q hp hq e => ?_, fun k q hq => ?_⟩
  · obtain ⟨h1, rfl⟩ := XL_at hp
    obtain ⟨h2, rfl⟩ := XL_at hq
    exact h.1 i j h1 h2 e
  · obtain ⟨h1, rfl⟩ := XL_at hq
    exact h.2 k h1
theorem XL_one {n : Nat} {ad : Nat → Nat} {E : Nat → va_E} {D : va_G} {cl : List vw_C} {H : Heap} (hP : va_P D cl (XL n ad E) H) {k : Nat} (hk : k < n) {a : Nat} (ha : ad k = a) {x : va_E} (he : E k = x) : va_P D cl [(a, x)] H := by
  intro j q hj
  cases j with
  | zero => cases hj; rw [← ha, ← he]; exact hP k _ (XL_get hk)
  | succ j => cases hj
def lgt : List (Nat × Value) → Nat → Option Value
  | [], _ => none
  | q :: t, k => if q.1 = k then some q.2 else lgt t k
def lok (l : List (Nat × Value)) : List (Nat × Value) → Prop
  | [] => True
  | q :: t => lgt l q.1 = some q.2 ∧ q.2.category = 1 ∧ lok l t
theorem lgt_mem : ∀ {l : List (Nat × Value)} {k : Nat} {v : Value}, lgt l k = some v → (k, v) ∈ l
  | [], _, _, h => by cases h
  | q :: t, k, v, h => by
    unfold lgt at h
    by_cases hq : q.1 = k
    · rw [if_pos hq] at h
      cases h
      subst hq
      exact List.mem_cons_self
    · rw [if_neg hq] at h
      exact List.mem_cons_of_mem _ (lgt_mem h)
theorem lgt_at {ls : Array Slot} {nL : Nat} {l : List (Nat × Value)} (h : lv_has ls nL l) {k : Nat} {v : Value} (hk : lgt l k = some v) : ls[k]? = some (.val v) := h.2.2 (k, v) (lgt_mem hk)
theorem lok_mem {l : List (Nat × Value)} : ∀ {l' : List (Nat × Value)}, lok l l' → ∀ q ∈ l', lgt l q.1 = some q.2 ∧ q.2.category = 1
  | [], _, q, h => by cases h
  | a :: t, h, q, hq => by
    rcases List.mem_cons.mp hq with rfl | hq
    · exact ⟨h.1, h.2.1⟩
    · exact lok_mem h.2.2 q hq
theorem lok_sub {ls : Array Slot} {nL : Nat} {l l' : List (Nat × Value)} (h : lv_has ls nL l) (hk : lok l l') : lv_has ls nL l' := ⟨h.1, h.2.1, fun q hq => h.2.2 (q.1, q.2) (lgt_mem (lok_mem hk q hq).1)⟩
theorem lok_store {ls : Array Slot} {nL i : Nat} {v : Value} {l l' : List (Nat × Value)} (h : lv_has ls nL ((i, v) :: l.filter (fun q => !(q.1 == i) && !(q.1 + 1 == i && q.2.category == 2)))) (hk : lok ((i, v) :: l) l') : lv_has ls nL l' := by
  refine ⟨h.1, h.2.1, fun q hq => h.2.2 (q.1, q.2) ?_⟩
  obtain ⟨h1, h2⟩ := lok_mem hk q hq
  have h3 := lgt_mem h1
  unfold lgt at h1
  by_cases e : i = q.1
  · rw [if_pos (show (i, v).1 = q.1 from e)] at h1
    have e2 : v = q.2 := Option.some.inj h1
    rw [← e, ← e2]
    exact List.mem_cons_self
  · rw [if_neg (show ¬ (i, v).1 = q.1 from e)] at h1
    refine List.mem_cons_of_mem _ (List.mem_filter.mpr ⟨lgt_mem h1, ?_⟩)
    have e3 : (q.1 == i) = false := by simp; exact fun z => e z.symm
    simp [e3, h2]
theorem lgt_place {l : List (Nat × Value)} {k : Nat} {v : Value} (h : lgt l k = some v) : ∃ i : Nat, l[i]? = some (k, v) := List.getElem?_of_mem (lgt_mem h)

def nwL : List Cond := [.fieldLinkNest "MarqueeDisplay" 104 "MarqueeDisplay$MessageList" "count" "I" "MarqueeDisplay",
  .fieldLinkNest "MarqueeDisplay" 114 "MarqueeDisplay$Strip" "length" "I" "MarqueeDisplay",
  .fieldLinkNest "MarqueeDisplay" 122 "MarqueeDisplay$Message" "color" "I" "MarqueeDisplay",
  .fieldLinkNest "MarqueeDisplay" 127 "MarqueeDisplay$Message" "width" "I" "MarqueeDisplay",
  .fieldLinkNest "MarqueeDisplay" 130 "MarqueeDisplay$Message" "start" "I" "MarqueeDisplay",
  .fieldLinkNest "MarqueeDisplay" 94 "MarqueeDisplay$Text" "length" "I" "MarqueeDisplay",
  .fieldLinkNest "MarqueeDisplay$MessageList" 26 "MarqueeDisplay$Message" "text" "LMarqueeDisplay$Text;" "MarqueeDisplay",
  .fieldLinkNest "MarqueeDisplay$MessageList" 36 "MarqueeDisplay$Message" "color" "I" "MarqueeDisplay",
  .fieldLinkNest "MarqueeDisplay$Strip" 22 "MarqueeDisplay$MessageList" "count" "I" "MarqueeDisplay",
  .fieldLinkNest "MarqueeDisplay$Strip" 39 "MarqueeDisplay$Message" "start" "I" "MarqueeDisplay",
  .fieldLinkNest "MarqueeDisplay$Strip" 44 "MarqueeDisplay$Message" "text" "LMarqueeDisplay$Text;" "MarqueeDisplay",
  .fieldLinkNest "MarqueeDisplay$Strip" 48 "MarqueeDisplay$Text" "length" "I" "MarqueeDisplay",
  .fieldLinkNest "MarqueeDisplay$Strip" 51 "MarqueeDisplay$Text" "characters" "[I" "MarqueeDisplay",
  .fieldLinkNest "MarqueeDisplay$Strip" 54 "MarqueeDisplay$Message" "color" "I" "MarqueeDisplay",
  .fieldLinkNest "MarqueeDisplay$Strip" 61 "MarqueeDisplay$Message" "width" "I" "MarqueeDisplay",
  .methodLinkNest "MarqueeDisplay" 18 ⟨"MarqueeDisplay$Text", "<init>", "()V"⟩ "MarqueeDisplay",
  .methodLinkNest "MarqueeDisplay" 32 ⟨"MarqueeDisplay$Strip", "<init>", "()V"⟩ "MarqueeDisplay",
  .methodLinkNest "MarqueeDisplay$Font" 22 ⟨"MarqueeDisplay", "isWithin", "(III)Z"⟩ "MarqueeDisplay",
  .methodLinkNest "MarqueeDisplay$Font" 30 ⟨"MarqueeDisplay", "isCharacter", "(I)Z"⟩ "MarqueeDisplay",
  .methodLinkNest "MarqueeDisplay$Message" 9 ⟨"MarqueeDisplay$Text", "<init>", "()V"⟩ "MarqueeDisplay",
  .methodLinkNest "MarqueeDisplay$MessageList" 17 ⟨"MarqueeDisplay$Message", "<init>", "()V"⟩ "MarqueeDisplay",
  .methodLinkNest "MarqueeDisplay$MessageList" 22 ⟨"MarqueeDisplay", "isWithin", "(III)Z"⟩ "MarqueeDisplay"]
def NW (U : State) : Prop := ∀ w ∈ nwL, va_Nw w U
theorem NW_tab : ∀ w ∈ nwL, w.onTables = true := by decide +kernel
theorem NW.same {u U : State} (h : u.vm = U.vm) (hN : NW u) : NW U := fun w hw => va_Nw.same (NW_tab w hw) h (hN w hw)
theorem NW.warm {s U : State} (hW : s.WarmedH U.vm) (hN : NW s) : NW U := by
  intro w hw
  have h := hN w hw
  unfold nwL at hw
  repeat (rcases List.mem_cons.mp hw with rfl | hw; (first | exact va_Nw.warmF hW h | exact va_Nw.warmM hW h))
  cases hw
def ZC (p : Program) (s : State) (m : MethodId) (args : Array Value) (meth : Method) (c : Code) (cc : ByteArray) (nL : Nat) (own : String) (Ts : List Cond) (D : va_G) (cI cM : ClassId) : Prop :=
  p.tables.exec = Jvm.exec ∧ c.code = cc ∧ c.maxLocals = nL ∧ s.vm.findClass own = some m.cls ∧ (∀ w ∈ Ts, w.before args s = true) ∧ va_K D vwCl [(cI, .int), (cM, .object RX1)] s ∧ NW s ∧ meth.locks = false
def PRE (D : va_G) (cI cM : ClassId) (n : Nat) (ad : Nat → Nat) (E : Nat → va_E) (As : List Value) : Array Value → State → Prop := va_Pc As (fun U => va_P D vwCl (XL n ad E) U.heap ∧ va_K D vwCl [(cI, .int), (cM, .object RX1)] U ∧ NW U)
theorem PRE_blind {D : va_G} {cI cM : ClassId} {n : Nat} {ad : Nat → Nat} {E : Nat → va_E} {As : List Value} : FrameBlind (PRE D cI cM n ad E As) := fun a U g mk q => ⟨q.1, q.2.1, va_K.moved (u := U) (U := U.calling g mk a) (Vm.Alike.refl U.vm) q.2.2.1, NW.same (u := U) (U := U.calling g mk a) rfl q.2.2.2⟩
def BE (D : va_G) (n : Nat) (ad : Nat → Nat) (E : Nat → va_E) (t : State) : Prop := va_P D vwCl (XL n ad E) t.heap
def MI (l : Launch) (y : MethodName) (ws : List Cond) (rm : Room) (D : va_G) (cI cM : ClassId) (A : Nat → Prop) (n : Nat) (ad : Nat → Nat) (E : Nat → va_E) (As : List Value) (post : Int32 → (Nat → va_E) → Prop) : Prop := Met l y ws rm (PRE D cI cM n ad E As) (va_Qi post (BE D n ad) A) 0 0 A
def MV (l : Launch) (y : MethodName) (ws : List Cond) (rm : Room) (D : va_G) (cI cM : ClassId) (A : Nat → Prop) (n : Nat) (ad : Nat → Nat) (E : Nat → va_E) (As : List Value) (post : (Nat → va_E) → Prop) : Prop := Met l y ws rm (PRE D cI cM n ad E As) (va_Qv post (BE D n ad) A) 0 0 A
def MR (l : Launch) (y : MethodName) (ws : List Cond) (rm : Room) (D : va_G) (cI cM : ClassId) (A : Nat → Prop) (n : Nat) (ad : Nat → Nat) (E : Nat → va_E) (As : List Value) (post : Option Nat → (Nat → va_E) → Prop) : Prop := Met l y ws rm (PRE D cI cM n ad E As) (va_Qq post (BE D n ad) A) 0 0 A
section ZS
variable {p : Program} {l : Launch} {e : Env} {R : Room} {s : State} {m : MethodId} {args : Array Value} {below : List Frame} {meth : Method} {c : Code}
variable {cc : ByteArray} {nL : Nat} {own : String} {Ts : List Cond} {D : va_G} {cI cM : ClassId} {A : Nat → Prop} {n : Nat} {ad : Nat → Nat} {E : Nat → va_E} {lv lv' : List (Nat × Value)} {cells slots : Nat} {Q : State → Prop} {pc : Nat} {st : List Value}
def Z (p : Program) (l : Launch) (e : Env) (R : Room) (s : State) (m : MethodId) (args : Array Value) (below : List Frame) (meth : Method) (c : Code) (nL : Nat) (D : va_G) (A : Nat → Prop) (n : Nat) (ad : Nat → Nat) (E : Nat → va_E) (lv : List (Nat × Value)) (cells slots : Nat) (Q : State → Prop) (pc : Nat) (st : List Value) : Prop :=
  ∀ (H : Heap) (locs : List Loc) (ls : Array Slot), va_P D vwCl (XL n ad E) H → va_S A s.heap H locs → lv_has ls nL lv → W p l e R s m args below meth c H locs cells slots Q (F0 m pc ls st)
theorem z_iload (C : ZC p s m args meth c cc nL own Ts D cI cM) {i : Nat} {x : Int32} (hd : decode cc pc = .ok (.iload i, 2)) (hi : lgt lv i = some (.int x)) (k : Z p l e R s m args below meth c nL D A n ad E lv cells slots Q (pc + 2) (.int x :: st)) : Z p l e R s m args below meth c nL D A n ad E lv cells slots Q (pc) (st) := fun H locs ls hP hS hl => lv_iload C.1 C.2.1 hd (lgt_at hl hi) (k H locs ls hP hS hl)
theorem z_iload_n (C : ZC p s m args meth c cc nL own Ts D cI cM) {i : Fin 4} {x : Int32} (hd : decode cc pc = .ok (.iload_n i, 1)) (hi : lgt lv (i : Nat) = some (.int x)) (k : Z p l e R s m args below meth c nL D A n ad E lv cells slots Q (pc + 1) (.int x :: st)) : Z p l e R s m args below meth c nL D A n ad E lv cells slots Q (pc) (st) := fun H locs ls hP hS hl => lv_iload_n C.1 C.2.1 hd rfl (lgt_at hl hi) (k H locs ls hP hS hl)
theorem z_aload (C : ZC p s m args meth c cc nL own Ts D cI cM) {i : Nat} {x : Nat} (hd : decode cc pc = .ok (.aload i, 2)) (hi : lgt lv i = some (.ref x)) (k : Z p l e R s m args below meth c nL D A n ad E lv cells slots Q (pc + 2) (.ref x :: st)) : Z p l e R s m args below meth c nL D A n ad E lv cells slots Q (pc) (st) := fun H locs ls hP hS hl => lv_aload C.1 C.2.1 hd (lgt_at hl hi) (k H locs ls hP hS hl)
theorem z_aload_n (C : ZC p s m args meth c cc nL own Ts D cI cM) {i : Fin 4} {x : Nat} (hd : decode cc pc = .ok (.aload_n i, 1)) (hi : lgt lv (i : Nat) = some (.ref x)) (k : Z p l e R s m args below meth c nL D A n ad E lv cells slots Q (pc + 1) (.ref x :: st)) : Z p l e R s m args below meth c nL D A n ad E lv cells slots Q (pc) (st) := fun H locs ls hP hS hl => lv_aload_n C.1 C.2.1 hd rfl (lgt_at hl hi) (k H locs ls hP hS hl)
theorem z_aload_nN (C : ZC p s m args meth c cc nL own Ts D cI cM) {i : Fin 4} (hd : decode cc pc = .ok (.aload_n i, 1)) (hi : lgt lv (i : Nat) = some .null) (k : Z p l e R s m args below meth c nL D A n ad E lv cells slots Q (pc + 1) (.null :: st)) : Z p l e R s m args below meth c nL D A n ad E lv cells slots Q (pc) (st) := fun H locs ls hP hS hl => lv_aload_nN C.1 C.2.1 hd rfl (lgt_at hl hi) (k H locs ls hP hS hl)
theorem z_aloadN (C : ZC p s m args meth c cc nL own Ts D cI cM) {i : Nat} (hd : decode cc pc = .ok (.aload i, 2)) (hi : lgt lv i = some .null) (k : Z p l e R s m args below meth c nL D A n ad E lv cells slots Q (pc + 2) (.null :: st)) : Z p l e R s m args below meth c nL D A n ad E lv cells slots Q (pc) (st) := fun H locs ls hP hS hl => lv_aloadN C.1 C.2.1 hd (lgt_at hl hi) (k H locs ls hP hS hl)
theorem z_istore (C : ZC p s m args meth c cc nL own Ts D cI cM) {i : Nat} {x : Int32} (lv' : List (Nat × Value)) (hd : decode cc pc = .ok (.istore i, 2)) (hi : i < nL) (hk : lok ((i, .int x) :: lv) lv') (k : Z p l e R s m args below meth c nL D A n ad E lv' cells slots Q (pc + 2) (st)) : Z p l e R s m args below meth c nL D A n ad E lv cells slots Q (pc) (.int x :: st) := fun H locs ls hP hS hl => lv_istore C.1 C.2.1 hd hl hi rfl (fun ls2 h2 => k H locs ls2 hP hS (lok_store h2 hk))
theorem z_istore_n (C : ZC p s m args meth c cc nL own Ts D cI cM) {i : Fin 4} {x : Int32} (lv' : List (Nat × Value)) (hd : decode cc pc = .ok (.istore_n i, 1)) (hi : (i : Nat) < nL) (hk : lok (((i : Nat), .int x) :: lv) lv') (k : Z p l e R s m args below meth c nL D A n ad E lv' cells slots Q (pc + 1) (st)) : Z p l e R s m args below meth c nL D A n ad E lv cells slots Q (pc) (.int x :: st) := fun H locs ls hP hS hl => lv_istore_n C.1 C.2.1 hd rfl hl hi rfl (fun ls2 h2 => k H locs ls2 hP hS (lok_store h2 hk))
theorem z_astore (C : ZC p s m args meth c cc nL own Ts D cI cM) {i : Nat} {x : Nat} (lv' : List (Nat × Value)) (hd : decode cc pc = .ok (.astore i, 2)) (hi : i < nL) (hk : lok ((i, .ref x) :: lv) lv') (k : Z p l e R s m args below meth c nL D A n ad E lv' cells slots Q (pc + 2) (st)) : Z p l e R s m args below meth c nL D A n ad E lv cells slots Q (pc) (.ref x :: st) := fun H locs ls hP hS hl => lv_astore C.1 C.2.1 hd hl hi rfl (fun ls2 h2 => k H locs ls2 hP hS (lok_store h2 hk))
theorem z_astore_n (C : ZC p s m args meth c cc nL own Ts D cI cM) {i : Fin 4} {x : Nat} (lv' : List (Nat × Value)) (hd : decode cc pc = .ok (.astore_n i, 1)) (hi : (i : Nat) < nL) (hk : lok (((i : Nat), .ref x) :: lv) lv') (k : Z p l e R s m args below meth c nL D A n ad E lv' cells slots Q (pc + 1) (st)) : Z p l e R s m args below meth c nL D A n ad E lv cells slots Q (pc) (.ref x :: st) := fun H locs ls hP hS hl => lv_astore_n C.1 C.2.1 hd rfl hl hi rfl (fun ls2 h2 => k H locs ls2 hP hS (lok_store h2 hk))
theorem z_astore_nN (C : ZC p s m args meth c cc nL own Ts D cI cM) {i : Fin 4} (lv' : List (Nat × Value)) (hd : decode cc pc = .ok (.astore_n i, 1)) (hi : (i : Nat) < nL) (hk : lok (((i : Nat), .null) :: lv) lv') (k : Z p l e R s m args below meth c nL D A n ad E lv' cells slots Q (pc + 1) (st)) : Z p l e R s m args below meth c nL D A n ad E lv cells slots Q (pc) (.null :: st) := fun H locs ls hP hS hl => lv_astore_nN C.1 C.2.1 hd rfl hl hi rfl (fun ls2 h2 => k H locs ls2 hP hS (lok_store h2 hk))
theorem z_astoreN (C : ZC p s m args meth c cc nL own Ts D cI cM) {i : Nat} (lv' : List (Nat × Value)) (hd : decode cc pc = .ok (.astore i, 2)) (hi : i < nL) (hk : lok ((i, .null) :: lv) lv') (k : Z p l e R s m args below meth c nL D A n ad E lv' cells slots Q (pc + 2) (st)) : Z p l e R s m args below meth c nL D A n ad E lv cells slots Q (pc) (.null :: st) := fun H locs ls hP hS hl => lv_astoreN C.1 C.2.1 hd hl hi rfl (fun ls2 h2 => k H locs ls2 hP hS (lok_store h2 hk))
theorem z_iinc (C : ZC p s m args meth c cc nL own Ts D cI cM) {i : Nat} {z : Int} {x v : Int32} (lv' : List (Nat × Value)) (hd : decode cc pc = .ok (.iinc i z, 3)) (hg : lgt lv i = some (.int x)) (hv : x + Int32.ofInt z = v) (hi : i < nL) (hk : lok ((i, .int v) :: lv) lv') (k : Z p l e R s m args below meth c nL D A n ad E lv' cells slots Q (pc + 3) (st)) : Z p l e R s m args below meth c nL D A n ad E lv cells slots Q (pc) (st) := by
  obtain ⟨j, hj⟩ := lgt_place hg
  exact fun H locs ls hP hS hl => lv_iinc C.1 C.2.1 hd hl hj hv hi rfl (fun ls2 h2 => k H locs ls2 hP hS (lok_store h2 hk))
theorem z_lv (lv' : List (Nat × Value)) (hk : lok lv lv') (k : Z p l e R s m args below meth c nL D A n ad E lv' cells slots Q (pc) (st)) : Z p l e R s m args below meth c nL D A n ad E lv cells slots Q (pc) (st) := fun H locs ls hP hS hl => k H locs ls hP hS (lok_sub hl hk)
theorem z_iconst (C : ZC p s m args meth c cc nL own Ts D cI cM) {z : Int} (v : Int32) (hd : decode cc pc = .ok (.iconst z, 1)) (hv : Int32.ofInt z = v) (k : Z p l e R s m args below meth c nL D A n ad E lv cells slots Q (pc + 1) (.int v :: st)) : Z p l e R s m args below meth c nL D A n ad E lv cells slots Q (pc) (st) := fun H locs ls hP hS hl => lv_iconst C.1 C.2.1 hd hv (k H locs ls hP hS hl)
theorem z_bipush (C : ZC p s m args meth c cc nL own Ts D cI cM) {z : Int} (v : Int32) (hd : decode cc pc = .ok (.bipush z, 2)) (hv : (Int8.ofInt z).toInt32 = v) (k : Z p l e R s m args below meth c nL D A n ad E lv cells slots Q (pc + 2) (.int v :: st)) : Z p l e R s m args below meth c nL D A n ad E lv cells slots Q (pc) (st) := fun H locs ls hP hS hl => lv_bipush C.1 C.2.1 hd hv (k H locs ls hP hS hl)
theorem z_sipush (C : ZC p s m args meth c cc nL own Ts D cI cM) {z : Int} (v : Int32) (hd : decode cc pc = .ok (.sipush z, 3)) (hv : (Int16.ofInt z).toInt32 = v) (k : Z p l e R s m args below meth c nL D A n ad E lv cells slots Q (pc + 3) (.int v :: st)) : Z p l e R s m args below meth c nL D A n ad E lv cells slots Q (pc) (st) := fun H locs ls hP hS hl => lv_sipush C.1 C.2.1 hd hv (k H locs ls hP hS hl)
theorem z_ldcw (C : ZC p s m args meth c cc nL own Ts D cI cM) {index : Nat} (v : Int32) (hc : Cond.constant own index v ∈ Ts) (hd : decode cc pc = .ok (.ldc_w index, 3)) (k : Z p l e R s m args below meth c nL D A n ad E lv cells slots Q (pc + 3) (.int v :: st)) : Z p l e R s m args below meth c nL D A n ad E lv cells slots Q (pc) (st) := fun H locs ls hP hS hl => lv_ldcw C.1 C.2.1 C.2.2.2.1 (C.2.2.2.2.1 _ hc) hd (k H locs ls hP hS hl)
theorem z_null (C : ZC p s m args meth c cc nL own Ts D cI cM)  (hd : decode cc pc = .ok (.aconst_null, 1)) (k : Z p l e R s m args below meth c nL D A n ad E lv cells slots Q (pc + 1) (.null :: st)) : Z p l e R s m args below meth c nL D A n ad E lv cells slots Q (pc) (st) := fun H locs ls hP hS hl => lv_null C.1 C.2.1 hd (k H locs ls hP hS hl)
theorem z_iadd (C : ZC p s m args meth c cc nL own Ts D cI cM) {x y : Int32} (hd : decode cc pc = .ok (.iadd, 1)) (k : Z p l e R s m args below meth c nL D A n ad E lv cells slots Q (pc + 1) (.int (x + y) :: st)) : Z p l e R s m args below meth c nL D A n ad E lv cells slots Q (pc) (.int y :: .int x :: st) := fun H locs ls hP hS hl => lv_iadd C.1 C.2.1 hd (k H locs ls hP hS hl)
theorem z_isub (C : ZC p s m args meth c cc nL own Ts D cI cM) {x y : Int32} (hd : decode cc pc = .ok (.isub, 1)) (k : Z p l e R s m args below meth c nL D A n ad E lv cells slots Q (pc + 1) (.int (x - y) :: st)) : Z p l e R s m args below meth c nL D A n ad E lv cells slots Q (pc) (.int y :: .int x :: st) := fun H locs ls hP hS hl => lv_isub C.1 C.2.1 hd (k H locs ls hP hS hl)
theorem z_imul (C : ZC p s m args meth c cc nL own Ts D cI cM) {x y : Int32} (hd : decode cc pc = .ok (.imul, 1)) (k : Z p l e R s m args below meth c nL D A n ad E lv cells slots Q (pc + 1) (.int (x * y) :: st)) : Z p l e R s m args below meth c nL D A n ad E lv cells slots Q (pc) (.int y :: .int x :: st) := fun H locs ls hP hS hl => lv_imul C.1 C.2.1 hd (k H locs ls hP hS hl)
theorem z_iand (C : ZC p s m args meth c cc nL own Ts D cI cM) {x y : Int32} (hd : decode cc pc = .ok (.iand, 1)) (k : Z p l e R s m args below meth c nL D A n ad E lv cells slots Q (pc + 1) (.int (x &&& y) :: st)) : Z p l e R s m args below meth c nL D A n ad E lv cells slots Q (pc) (.int y :: .int x :: st) := fun H locs ls hP hS hl => lv_iand C.1 C.2.1 hd (k H locs ls hP hS hl)
theorem z_ior (C : ZC p s m args meth c cc nL own Ts D cI cM) {x y : Int32} (hd : decode cc pc = .ok (.ior, 1)) (k : Z p l e R s m args below meth c nL D A n ad E lv cells slots Q (pc + 1) (.int (x ||| y) :: st)) : Z p l e R s m args below meth c nL D A n ad E lv cells slots Q (pc) (.int y :: .int x :: st) := fun H locs ls hP hS hl => lv_ior C.1 C.2.1 hd (k H locs ls hP hS hl)
theorem z_ixor (C : ZC p s m args meth c cc nL own Ts D cI cM) {x y : Int32} (hd : decode cc pc = .ok (.ixor, 1)) (k : Z p l e R s m args below meth c nL D A n ad E lv cells slots Q (pc + 1) (.int (x ^^^ y) :: st)) : Z p l e R s m args below meth c nL D A n ad E lv cells slots Q (pc) (.int y :: .int x :: st) := fun H locs ls hP hS hl => lv_ixor C.1 C.2.1 hd (k H locs ls hP hS hl)
theorem z_ishl (C : ZC p s m args meth c cc nL own Ts D cI cM) {x y : Int32} (hd : decode cc pc = .ok (.ishl, 1)) (k : Z p l e R s m args below meth c nL D A n ad E lv cells slots Q (pc + 1) (.int (x <<< (y &&& 31)) :: st)) : Z p l e R s m args below meth c nL D A n ad E lv cells slots Q (pc) (.int y :: .int x :: st) := fun H locs ls hP hS hl => lv_ishl C.1 C.2.1 hd (k H locs ls hP hS hl)
theorem z_ishr (C : ZC p s m args meth c cc nL own Ts D cI cM) {x y : Int32} (hd : decode cc pc = .ok (.ishr, 1)) (k : Z p l e R s m args below meth c nL D A n ad E lv cells slots Q (pc + 1) (.int (x >>> (y &&& 31)) :: st)) : Z p l e R s m args below meth c nL D A n ad E lv cells slots Q (pc) (.int y :: .int x :: st) := fun H locs ls hP hS hl => lv_ishr C.1 C.2.1 hd (k H locs ls hP hS hl)
theorem z_iushr (C : ZC p s m args meth c cc nL own Ts D cI cM) {x y : Int32} (v : Int32) (hd : decode cc pc = .ok (.iushr, 1)) (hv : (x.toUInt32 >>> (y.toUInt32 &&& Int32.toUInt32 31)).toInt32 = v) (k : Z p l e R s m args below meth c nL D A n ad E lv cells slots Q (pc + 1) (.int v :: st)) : Z p l e R s m args below meth c nL D A n ad E lv cells slots Q (pc) (.int y :: .int x :: st) := fun H locs ls hP hS hl => lv_iushr C.1 C.2.1 hd hv (k H locs ls hP hS hl)
theorem z_idiv (C : ZC p s m args meth c cc nL own Ts D cI cM) {x y : Int32} (hd : decode cc pc = .ok (.idiv, 1)) (hne : ¬ y = 0) (k : Z p l e R s m args below meth c nL D A n ad E lv cells slots Q (pc + 1) (.int (x / y) :: st)) : Z p l e R s m args below meth c nL D A n ad E lv cells slots Q (pc) (.int y :: .int x :: st) := fun H locs ls hP hS hl => lv_idiv C.1 C.2.1 hd hne (k H locs ls hP hS hl)
theorem z_irem (C : ZC p s m args meth c cc nL own Ts D cI cM) {x y : Int32} (hd : decode cc pc = .ok (.irem, 1)) (hne : ¬ y = 0) (k : Z p l e R s m args below meth c nL D A n ad E lv cells slots Q (pc + 1) (.int (x - x / y * y) :: st)) : Z p l e R s m args below meth c nL D A n ad E lv cells slots Q (pc) (.int y :: .int x :: st) := fun H locs ls hP hS hl => lv_irem C.1 C.2.1 hd hne (k H locs ls hP hS hl)
theorem z_ineg (C : ZC p s m args meth c cc nL own Ts D cI cM) {x : Int32} (hd : decode cc pc = .ok (.ineg, 1)) (k : Z p l e R s m args below meth c nL D A n ad E lv cells slots Q (pc + 1) (.int (-x) :: st)) : Z p l e R s m args below meth c nL D A n ad E lv cells slots Q (pc) (.int x :: st) := fun H locs ls hP hS hl => lv_ineg C.1 C.2.1 hd (k H locs ls hP hS hl)
theorem z_dup (C : ZC p s m args meth c cc nL own Ts D cI cM) {v : Value} (hd : decode cc pc = .ok (.dup, 1)) (hv : v.category = 1) (k : Z p l e R s m args below meth c nL D A n ad E lv cells slots Q (pc + 1) (v :: v :: st)) : Z p l e R s m args below meth c nL D A n ad E lv cells slots Q (pc) (v :: st) := fun H locs ls hP hS hl => lv_dup C.1 C.2.1 hd hv (k H locs ls hP hS hl)
theorem z_pop (C : ZC p s m args meth c cc nL own Ts D cI cM) {v : Value} (hd : decode cc pc = .ok (.pop, 1)) (hv : v.category = 1) (k : Z p l e R s m args below meth c nL D A n ad E lv cells slots Q (pc + 1) (st)) : Z p l e R s m args below meth c nL D A n ad E lv cells slots Q (pc) (v :: st) := fun H locs ls hP hS hl => lv_pop C.1 C.2.1 hd hv (k H locs ls hP hS hl)
theorem z_goto (C : ZC p s m args meth c cc nL own Ts D cI cM) {off : Int} (tgt : Nat) (hd : decode cc pc = .ok (.goto off, 3)) (ht : (pc : Int) + off = (tgt : Int)) (k : Z p l e R s m args below meth c nL D A n ad E lv cells slots Q (tgt) (st)) : Z p l e R s m args below meth c nL D A n ad E lv cells slots Q (pc) (st) := fun H locs ls hP hS hl => lv_goto C.1 C.2.1 hd ht (k H locs ls hP hS hl)
theorem z_top {x : Int32} (y : Int32) (h : x = y) (k : Z p l e R s m args below meth c nL D A n ad E lv cells slots Q (pc) (.int y :: st)) : Z p l e R s m args below meth c nL D A n ad E lv cells slots Q (pc) (.int x :: st) := h ▸ k
theorem z_gen {x : Int32} (k : ∀ y : Int32, y = x → Z p l e R s m args below meth c nL D A n ad E lv cells slots Q (pc) (.int y :: st)) : Z p l e R s m args below meth c nL D A n ad E lv cells slots Q (pc) (.int x :: st) := k x rfl
theorem z_iaddN (C : ZC p s m args meth c cc nL own Ts D cI cM) {a b : Nat}  (hd : decode cc pc = .ok (.iadd, 1)) (k : Z p l e R s m args below meth c nL D A n ad E lv cells slots Q (pc + 1) (.int (nI (a + b)) :: st)) : Z p l e R s m args below meth c nL D A n ad E lv cells slots Q (pc) (.int (nI b) :: .int (nI a) :: st) := z_iadd C hd (by rw [nI_add]; exact k)
theorem z_isubN (C : ZC p s m args meth c cc nL own Ts D cI cM) {a b : Nat} (hab : b ≤ a) (hd : decode cc pc = .ok (.isub, 1)) (k : Z p l e R s m args below meth c nL D A n ad E lv cells slots Q (pc + 1) (.int (nI (a - b)) :: st)) : Z p l e R s m args below meth c nL D A n ad E lv cells slots Q (pc) (.int (nI b) :: .int (nI a) :: st) := z_isub C hd (by rw [pk_sub hab]; exact k)
theorem z_imulN (C : ZC p s m args meth c cc nL own Ts D cI cM) {a b : Nat}  (hd : decode cc pc = .ok (.imul, 1)) (k : Z p l e R s m args below meth c nL D A n ad E lv cells slots Q (pc + 1) (.int (nI (a * b)) :: st)) : Z p l e R s m args below meth c nL D A n ad E lv cells slots Q (pc) (.int (nI b) :: .int (nI a) :: st) := z_imul C hd (by rw [pk_mul]; exact k)
theorem z_idivN (C : ZC p s m args meth c cc nL own Ts D cI cM) {a b : Nat} (ha : a < 2 ^ 31) (h0 : 0 < b) (hb : b < 2 ^ 31) (hd : decode cc pc = .ok (.idiv, 1)) (k : Z p l e R s m args below meth c nL D A n ad E lv cells slots Q (pc + 1) (.int (nI (a / b)) :: st)) : Z p l e R s m args below meth c nL D A n ad E lv cells slots Q (pc) (.int (nI b) :: .int (nI a) :: st) := z_idiv C hd (nI_ne0 h0 hb) (by rw [pk_div ha h0 hb]; exact k)
theorem z_iremN (C : ZC p s m args meth c cc nL own Ts D cI cM) {a b : Nat} (ha : a < 2 ^ 31) (h0 : 0 < b) (hb : b < 2 ^ 31) (hd : decode cc pc = .ok (.irem, 1)) (k : Z p l e R s m args below meth c nL D A n ad E lv cells slots Q (pc + 1) (.int (nI (a % b)) :: st)) : Z p l e R s m args below meth c nL D A n ad E lv cells slots Q (pc) (.int (nI b) :: .int (nI a) :: st) := z_irem C hd (nI_ne0 h0 hb) (by rw [pk_rem ha h0 hb]; exact k)
theorem nI_ofInt (a k : Nat) : nI a + Int32.ofInt (k : Int) = nI (a + k) := by rw [← nI_add]; rfl
theorem z_iincN (C : ZC p s m args meth c cc nL own Ts D cI cM) {i j : Nat} {a : Nat} (lv' : List (Nat × Value)) (hd : decode cc pc = .ok (.iinc i (j : Int), 3)) (hg : lgt lv i = some (.int (nI a))) (hi : i < nL) (hk : lok ((i, .int (nI (a + j))) :: lv) lv') (k : Z p l e R s m args below meth c nL D A n ad E lv' cells slots Q (pc + 3) (st)) : Z p l e R s m args below meth c nL D A n ad E lv cells slots Q (pc) (st) := z_iinc C lv' hd hg (nI_ofInt a j) hi hk k
theorem z_icmp_eq (C : ZC p s m args meth c cc nL own Ts D cI cM) {x y : Int32} {off : Int} (tgt : Nat) (hd : decode cc pc = .ok (.if_icmp .eq off, 3)) (ht : (pc : Int) + off = (tgt : Int)) (kt : x = y → Z p l e R s m args below meth c nL D A n ad E lv cells slots Q (tgt) (st)) (kf : ¬ x = y → Z p l e R s m args below meth c nL D A n ad E lv cells slots Q (pc + 3) (st)) : Z p l e R s m args below meth c nL D A n ad E lv cells slots Q (pc) (.int y :: .int x :: st) := fun H locs ls hP hS hl => lv_icmp_eq C.1 C.2.1 hd ht (fun h => kt h H locs ls hP hS hl) (fun h => kf h H locs ls hP hS hl)
theorem z_icmp_eqN (C : ZC p s m args meth c cc nL own Ts D cI cM) {a b : Nat} {off : Int} (tgt : Nat) (ha : a < 2 ^ 31) (hb : b < 2 ^ 31) (hd : decode cc pc = .ok (.if_icmp .eq off, 3)) (ht : (pc : Int) + off = (tgt : Int)) (kt : a = b → Z p l e R s m args below meth c nL D A n ad E lv cells slots Q (tgt) (st)) (kf : ¬ a = b → Z p l e R s m args below meth c nL D A n ad E lv cells slots Q (pc + 3) (st)) : Z p l e R s m args below meth c nL D A n ad E lv cells slots Q (pc) (.int (nI b) :: .int (nI a) :: st) := z_icmp_eq C tgt hd ht (fun h => kt ((nI_eq ha hb).mp h)) (fun h => kf (fun q => h ((nI_eq ha hb).mpr q)))
theorem z_icmp_ne (C : ZC p s m args meth c cc nL own Ts D cI cM) {x y : Int32} {off : Int} (tgt : Nat) (hd : decode cc pc = .ok (.if_icmp .ne off, 3)) (ht : (pc : Int) + off = (tgt : Int)) (kt : ¬ x = y → Z p l e R s m args below meth c nL D A n ad E lv cells slots Q (tgt) (st)) (kf : x = y → Z p l e R s m args below meth c nL D A n ad E lv cells slots Q (pc + 3) (st)) : Z p l e R s m args below meth c nL D A n ad E lv cells slots Q (pc) (.int y :: .int x :: st) := fun H locs ls hP hS hl => lv_icmp_ne C.1 C.2.1 hd ht (fun h => kt h H locs ls hP hS hl) (fun h => kf h H locs ls hP hS hl)
theorem z_icmp_neN (C : ZC p s m args meth c cc nL own Ts D cI cM) {a b : Nat} {off : Int} (tgt : Nat) (ha : a < 2 ^ 31) (hb : b < 2 ^ 31) (hd : decode cc pc = .ok (.if_icmp .ne off, 3)) (ht : (pc : Int) + off = (tgt : Int)) (kt : ¬ a = b → Z p l e R s m args below meth c nL D A n ad E lv cells slots Q (tgt) (st)) (kf : a = b → Z p l e R s m args below meth c nL D A n ad E lv cells slots Q (pc + 3) (st)) : Z p l e R s m args below meth c nL D A n ad E lv cells slots Q (pc) (.int (nI b) :: .int (nI a) :: st) := z_icmp_ne C tgt hd ht (fun h => kt (fun q => h ((nI_eq ha hb).mpr q))) (fun h => kf ((nI_eq ha hb).mp h))
theorem z_icmp_lt (C : ZC p s m args meth c cc nL own Ts D cI cM) {x y : Int32} {off : Int} (tgt : Nat) (hd : decode cc pc = .ok (.if_icmp .lt off, 3)) (ht : (pc : Int) + off = (tgt : Int)) (kt : x < y → Z p l e R s m args below meth c nL D A n ad E lv cells slots Q (tgt) (st)) (kf : ¬ x < y → Z p l e R s m args below meth c nL D A n ad E lv cells slots Q (pc + 3) (st)) : Z p l e R s m args below meth c nL D A n ad E lv cells slots Q (pc) (.int y :: .int x :: st) := fun H locs ls hP hS hl => lv_icmp_lt C.1 C.2.1 hd ht (fun h => kt h H locs ls hP hS hl) (fun h => kf h H locs ls hP hS hl)
theorem z_icmp_ltN (C : ZC p s m args meth c cc nL own Ts D cI cM) {a b : Nat} {off : Int} (tgt : Nat) (ha : a < 2 ^ 31) (hb : b < 2 ^ 31) (hd : decode cc pc = .ok (.if_icmp .lt off, 3)) (ht : (pc : Int) + off = (tgt : Int)) (kt : a < b → Z p l e R s m args below meth c nL D A n ad E lv cells slots Q (tgt) (st)) (kf : b ≤ a → Z p l e R s m args below meth c nL D A n ad E lv cells slots Q (pc + 3) (st)) : Z p l e R s m args below meth c nL D A n ad E lv cells slots Q (pc) (.int (nI b) :: .int (nI a) :: st) := z_icmp_lt C tgt hd ht (fun h => kt ((nI_ltI ha hb).mp h)) (fun h => kf (Nat.not_lt.mp (fun q => h ((nI_ltI ha hb).mpr q))))
theorem z_icmp_ge (C : ZC p s m args meth c cc nL own Ts D cI cM) {x y : Int32} {off : Int} (tgt : Nat) (hd : decode cc pc = .ok (.if_icmp .ge off, 3)) (ht : (pc : Int) + off = (tgt : Int)) (kt : y ≤ x → Z p l e R s m args below meth c nL D A n ad E lv cells slots Q (tgt) (st)) (kf : ¬ y ≤ x → Z p l e R s m args below meth c nL D A n ad E lv cells slots Q (pc + 3) (st)) : Z p l e R s m args below meth c nL D A n ad E lv cells slots Q (pc) (.int y :: .int x :: st) := fun H locs ls hP hS hl => lv_icmp_ge C.1 C.2.1 hd ht (fun h => kt h H locs ls hP hS hl) (fun h => kf h H locs ls hP hS hl)
theorem z_icmp_geN (C : ZC p s m args meth c cc nL own Ts D cI cM) {a b : Nat} {off : Int} (tgt : Nat) (ha : a < 2 ^ 31) (hb : b < 2 ^ 31) (hd : decode cc pc = .ok (.if_icmp .ge off, 3)) (ht : (pc : Int) + off = (tgt : Int)) (kt : b ≤ a → Z p l e R s m args below meth c nL D A n ad E lv cells slots Q (tgt) (st)) (kf : a < b → Z p l e R s m args below meth c nL D A n ad E lv cells slots Q (pc + 3) (st)) : Z p l e R s m args below meth c nL D A n ad E lv cells slots Q (pc) (.int (nI b) :: .int (nI a) :: st) := z_icmp_ge C tgt hd ht (fun h => kt ((nI_leI hb ha).mp h)) (fun h => kf (Nat.not_le.mp (fun q => h ((nI_leI hb ha).mpr q))))
theorem z_icmp_gt (C : ZC p s m args meth c cc nL own Ts D cI cM) {x y : Int32} {off : Int} (tgt : Nat) (hd : decode cc pc = .ok (.if_icmp .gt off, 3)) (ht : (pc : Int) + off = (tgt : Int)) (kt : y < x → Z p l e R s m args below meth c nL D A n ad E lv cells slots Q (tgt) (st)) (kf : ¬ y < x → Z p l e R s m args below meth c nL D A n ad E lv cells slots Q (pc + 3) (st)) : Z p l e R s m args below meth c nL D A n ad E lv cells slots Q (pc) (.int y :: .int x :: st) := fun H locs ls hP hS hl => lv_icmp_gt C.1 C.2.1 hd ht (fun h => kt h H locs ls hP hS hl) (fun h => kf h H locs ls hP hS hl)
theorem z_icmp_gtN (C : ZC p s m args meth c cc nL own Ts D cI cM) {a b : Nat} {off : Int} (tgt : Nat) (ha : a < 2 ^ 31) (hb : b < 2 ^ 31) (hd : decode cc pc = .ok (.if_icmp .gt off, 3)) (ht : (pc : Int) + off = (tgt : Int)) (kt : b < a → Z p l e R s m args below meth c nL D A n ad E lv cells slots Q (tgt) (st)) (kf : a ≤ b → Z p l e R s m args below meth c nL D A n ad E lv cells slots Q (pc + 3) (st)) : Z p l e R s m args below meth c nL D A n ad E lv cells slots Q (pc) (.int (nI b) :: .int (nI a) :: st) := z_icmp_gt C tgt hd ht (fun h => kt ((nI_ltI hb ha).mp h)) (fun h => kf (Nat.not_lt.mp (fun q => h ((nI_ltI hb ha).mpr q))))
theorem z_icmp_le (C : ZC p s m args meth c cc nL own Ts D cI cM) {x y : Int32} {off : Int} (tgt : Nat) (hd : decode cc pc = .ok (.if_icmp .le off, 3)) (ht : (pc : Int) + off = (tgt : Int)) (kt : x ≤ y → Z p l e R s m args below meth c nL D A n ad E lv cells slots Q (tgt) (st)) (kf : ¬ x ≤ y → Z p l e R s m args below meth c nL D A n ad E lv cells slots Q (pc + 3) (st)) : Z p l e R s m args below meth c nL D A n ad E lv cells slots Q (pc) (.int y :: .int x :: st) := fun H locs ls hP hS hl => lv_icmp_le C.1 C.2.1 hd ht (fun h => kt h H locs ls hP hS hl) (fun h => kf h H locs ls hP hS hl)
theorem z_icmp_leN (C : ZC p s m args meth c cc nL own Ts D cI cM) {a b : Nat} {off : Int} (tgt : Nat) (ha : a < 2 ^ 31) (hb : b < 2 ^ 31) (hd : decode cc pc = .ok (.if_icmp .le off, 3)) (ht : (pc : Int) + off = (tgt : Int)) (kt : a ≤ b → Z p l e R s m args below meth c nL D A n ad E lv cells slots Q (tgt) (st)) (kf : b < a → Z p l e R s m args below meth c nL D A n ad E lv cells slots Q (pc + 3) (st)) : Z p l e R s m args below meth c nL D A n ad E lv cells slots Q (pc) (.int (nI b) :: .int (nI a) :: st) := z_icmp_le C tgt hd ht (fun h => kt ((nI_leI ha hb).mp h)) (fun h => kf (Nat.not_le.mp (fun q => h ((nI_leI ha hb).mpr q))))
theorem z_if_eq (C : ZC p s m args meth c cc nL own Ts D cI cM) {x : Int32} {off : Int} (tgt : Nat) (hd : decode cc pc = .ok (.ifCond .eq off, 3)) (ht : (pc : Int) + off = (tgt : Int)) (kt : x = 0 → Z p l e R s m args below meth c nL D A n ad E lv cells slots Q (tgt) (st)) (kf : ¬ x = 0 → Z p l e R s m args below meth c nL D A n ad E lv cells slots Q (pc + 3) (st)) : Z p l e R s m args below meth c nL D A n ad E lv cells slots Q (pc) (.int x :: st) := fun H locs ls hP hS hl => lv_if_eq C.1 C.2.1 hd ht (fun h => kt h H locs ls hP hS hl) (fun h => kf h H locs ls hP hS hl)
theorem z_if_ne (C : ZC p s m args meth c cc nL own Ts D cI cM) {x : Int32} {off : Int} (tgt : Nat) (hd : decode cc pc = .ok (.ifCond .ne off, 3)) (ht : (pc : Int) + off = (tgt : Int)) (kt : ¬ x = 0 → Z p l e R s m args below meth c nL D A n ad E lv cells slots Q (tgt) (st)) (kf : x = 0 → Z p l e R s m args below meth c nL D A n ad E lv cells slots Q (pc + 3) (st)) : Z p l e R s m args below meth c nL D A n ad E lv cells slots Q (pc) (.int x :: st) := fun H locs ls hP hS hl => lv_if_ne C.1 C.2.1 hd ht (fun h => kt h H locs ls hP hS hl) (fun h => kf h H locs ls hP hS hl)
theorem z_if_lt (C : ZC p s m args meth c cc nL own Ts D cI cM) {x : Int32} {off : Int} (tgt : Nat) (hd : decode cc pc = .ok (.ifCond .lt off, 3)) (ht : (pc : Int) + off = (tgt : Int)) (kt : x < 0 → Z p l e R s m args below meth c nL D A n ad E lv cells slots Q (tgt) (st)) (kf : ¬ x < 0 → Z p l e R s m args below meth c nL D A n ad E lv cells slots Q (pc + 3) (st)) : Z p l e R s m args below meth c nL D A n ad E lv cells slots Q (pc) (.int x :: st) := fun H locs ls hP hS hl => lv_if_lt C.1 C.2.1 hd ht (fun h => kt h H locs ls hP hS hl) (fun h => kf h H locs ls hP hS hl)
theorem z_if_ge (C : ZC p s m args meth c cc nL own Ts D cI cM) {x : Int32} {off : Int} (tgt : Nat) (hd : decode cc pc = .ok (.ifCond .ge off, 3)) (ht : (pc : Int) + off = (tgt : Int)) (kt : 0 ≤ x → Z p l e R s m args below meth c nL D A n ad E lv cells slots Q (tgt) (st)) (kf : ¬ 0 ≤ x → Z p l e R s m args below meth c nL D A n ad E lv cells slots Q (pc + 3) (st)) : Z p l e R s m args below meth c nL D A n ad E lv cells slots Q (pc) (.int x :: st) := fun H locs ls hP hS hl => lv_if_ge C.1 C.2.1 hd ht (fun h => kt h H locs ls hP hS hl) (fun h => kf h H locs ls hP hS hl)
theorem z_if_gt (C : ZC p s m args meth c cc nL own Ts D cI cM) {x : Int32} {off : Int} (tgt : Nat) (hd : decode cc pc = .ok (.ifCond .gt off, 3)) (ht : (pc : Int) + off = (tgt : Int)) (kt : 0 < x → Z p l e R s m args below meth c nL D A n ad E lv cells slots Q (tgt) (st)) (kf : ¬ 0 < x → Z p l e R s m args below meth c nL D A n ad E lv cells slots Q (pc + 3) (st)) : Z p l e R s m args below meth c nL D A n ad E lv cells slots Q (pc) (.int x :: st) := fun H locs ls hP hS hl => lv_if_gt C.1 C.2.1 hd ht (fun h => kt h H locs ls hP hS hl) (fun h => kf h H locs ls hP hS hl)
theorem z_if_le (C : ZC p s m args meth c cc nL own Ts D cI cM) {x : Int32} {off : Int} (tgt : Nat) (hd : decode cc pc = .ok (.ifCond .le off, 3)) (ht : (pc : Int) + off = (tgt : Int)) (kt : x ≤ 0 → Z p l e R s m args below meth c nL D A n ad E lv cells slots Q (tgt) (st)) (kf : ¬ x ≤ 0 → Z p l e R s m args below meth c nL D A n ad E lv cells slots Q (pc + 3) (st)) : Z p l e R s m args below meth c nL D A n ad E lv cells slots Q (pc) (.int x :: st) := fun H locs ls hP hS hl => lv_if_le C.1 C.2.1 hd ht (fun h => kt h H locs ls hP hS hl) (fun h => kf h H locs ls hP hS hl)
theorem z_ifnull (C : ZC p s m args meth c cc nL own Ts D cI cM) {x : Nat} {off : Int} (hd : decode cc pc = .ok (.ifnull off, 3)) (k : Z p l e R s m args below meth c nL D A n ad E lv cells slots Q (pc + 3) (st)) : Z p l e R s m args below meth c nL D A n ad E lv cells slots Q (pc) (.ref x :: st) := fun H locs ls hP hS hl => lv_ifnull C.1 C.2.1 hd (k H locs ls hP hS hl)
theorem z_ifnullN (C : ZC p s m args meth c cc nL own Ts D cI cM) {off : Int} (tgt : Nat) (hd : decode cc pc = .ok (.ifnull off, 3)) (ht : (pc : Int) + off = (tgt : Int)) (k : Z p l e R s m args below meth c nL D A n ad E lv cells slots Q (tgt) (st)) : Z p l e R s m args below meth c nL D A n ad E lv cells slots Q (pc) (.null :: st) := fun H locs ls hP hS hl => lv_ifnullN C.1 C.2.1 hd ht (k H locs ls hP hS hl)
theorem z_ifnonnull (C : ZC p s m args meth c cc nL own Ts D cI cM) {x : Nat} {off : Int} (tgt : Nat) (hd : decode cc pc = .ok (.ifnonnull off, 3)) (ht : (pc : Int) + off = (tgt : Int)) (k : Z p l e R s m args below meth c nL D A n ad E lv cells slots Q (tgt) (st)) : Z p l e R s m args below meth c nL D A n ad E lv cells slots Q (pc) (.ref x :: st) := fun H locs ls hP hS hl => lv_ifnonnull C.1 C.2.1 hd ht (k H locs ls hP hS hl)
theorem z_ifnonnullN (C : ZC p s m args meth c cc nL own Ts D cI cM) {off : Int} (hd : decode cc pc = .ok (.ifnonnull off, 3)) (k : Z p l e R s m args below meth c nL D A n ad E lv cells slots Q (pc + 3) (st)) : Z p l e R s m args below meth c nL D A n ad E lv cells slots Q (pc) (.null :: st) := fun H locs ls hP hS hl => lv_ifnonnullN C.1 C.2.1 hd (k H locs ls hP hS hl)
theorem z_get (C : ZC p s m args meth c cc nL own Ts D cI cM) {a : Nat} (k0 : Nat) {ci fi index N : Nat} {Cn : String} {T : u_T} {fs : List Value} {v : Value} (hin : ∀ w ∈ u_ws Cn T N, w ∈ Ts) (hc : vwCl[ci]? = some (Cn, T, N)) (hfi : fi < N) (hlink : Cond.fieldLink own index (T fi).1 (T fi).2.1 (T fi).2.2.1 ∈ Ts) (hk : k0 < n) (ha : ad k0 = a) (he : E k0 = .inr (ci, fs)) (hv : fs[fi]? = some v) (hd : decode cc pc = .ok (.getfield index, 3)) (k : Z p l e R s m args below meth c nL D A n ad E lv cells slots Q (pc + 3) (v :: st)) : Z p l e R s m args below meth c nL D A n ad E lv cells slots Q (pc) (.ref a :: st) := fun H locs ls hP hS hl =>
  va_get (T := T) (N := N) C.1 C.2.1 C.2.2.2.2.1 hin C.2.2.2.1 C.2.2.2.2.2.1 (XL_one hP hk ha he) 0 rfl hc fi hfi (C.2.2.2.2.1 _ hlink) (fun _ h => h) hv hd (k H locs ls hP hS hl)
theorem z_put (C : ZC p s m args meth c cc nL own Ts D cI cM) {a : Nat} (k0 : Nat) {ci fi index N : Nat} {Cn : String} {T : u_T} {fs : List Value} {ty : FieldType} {v : Value} (ty0 : Nat → FieldType) (hin : ∀ w ∈ u_ws Cn T N, w ∈ Ts) (hty : ∀ k, k < N → parseFieldDescriptor (T k).2.2.1 = some (ty0 k)) (hnm : ∀ a, a < N → ∀ b, b < N → a ≠ b → (T a).2.1 ≠ (T b).2.1) (hc : vwCl[ci]? = some (Cn, T, N)) (hfi : fi < N) (hlink : Cond.fieldLink own index (T fi).1 (T fi).2.1 (T fi).2.2.1 ∈ Ts) (hX : XD A n ad) (hk : k0 < n) (ha : ad k0 = a) (he : E k0 = .inr (ci, fs)) (hfin : (T fi).2.2.2 = false) (hdd : ty0 fi = ty) (hn : narrow ty v = v) (hfit : fits ty v = true) (hlen : fi < fs.length) (hd : decode cc pc = .ok (.putfield index, 3)) (k : ∀ E1, E1 = va_up E k0 (.inr (ci, fs.set fi v)) → Z p l e R s m args below meth c nL D A n ad E1 lv cells slots Q (pc + 3) (st)) : Z p l e R s m args below meth c nL D A n ad E lv cells slots Q (pc) (v :: .ref a :: st) := fun H locs ls hP hS hl => by
  subst ha
  exact va_put (T := T) (N := N) (ty := ty) C.1 C.2.1 C.2.2.2.2.1 hin ty0 hty hnm C.2.2.2.1 C.2.2.2.2.2.1 hP (hX.vd E) hS k0 (by rw [XL_get hk, he]) hc fi hfi (C.2.2.2.2.1 _ hlink) (fun _ h => h) hfin (by rw [hty fi hfi, hdd]) hn hfit hlen hd (fun H1 locs1 h1 _ h3 => by rw [XL_set hk] at h1; exact k _ rfl H1 locs1 ls h1 h3 hl)
theorem z_getN (C : ZC p s m args meth c cc nL own Ts D cI cM) {a : Nat} (k0 : Nat) {ci fi index N : Nat} {Cn : String} {T : u_T} {fs : List Value} {v : Value} (hin : ∀ w ∈ u_ws Cn T N, w ∈ Ts) (hc : vwCl[ci]? = some (Cn, T, N)) (hfi : fi < N) {host : String} (hlink : Cond.fieldLinkNest own index (T fi).1 (T fi).2.1 (T fi).2.2.1 host ∈ nwL) (hk : k0 < n) (ha : ad k0 = a) (he : E k0 = .inr (ci, fs)) (hv : fs[fi]? = some v) (hd : decode cc pc = .ok (.getfield index, 3)) (k : Z p l e R s m args below meth c nL D A n ad E lv cells slots Q (pc + 3) (v :: st)) : Z p l e R s m args below meth c nL D A n ad E lv cells slots Q (pc) (.ref a :: st) := fun H locs ls hP hS hl =>
  va_getN (T := T) (N := N) C.1 C.2.1 C.2.2.2.2.1 hin C.2.2.2.1 C.2.2.2.2.2.1 (XL_one hP hk ha he) 0 rfl hc fi hfi (va_Nw.use rfl (C.2.2.2.2.2.2.1 _ hlink)) (fun _ h => h) hv hd (k H locs ls hP hS hl)
theorem z_putN (C : ZC p s m args meth c cc nL own Ts D cI cM) {a : Nat} (k0 : Nat) {ci fi index N : Nat} {Cn : String} {T : u_T} {fs : List Value} {ty : FieldType} {v : Value} (ty0 : Nat → FieldType) (hin : ∀ w ∈ u_ws Cn T N, w ∈ Ts) (hty : ∀ k, k < N → parseFieldDescriptor (T k).2.2.1 = some (ty0 k)) (hnm : ∀ a, a < N → ∀ b, b < N → a ≠ b → (T a).2.1 ≠ (T b).2.1) (hc : vwCl[ci]? = some (Cn, T, N)) (hfi : fi < N) {host : String} (hlink : Cond.fieldLinkNest own index (T fi).1 (T fi).2.1 (T fi).2.2.1 host ∈ nwL) (hX : XD A n ad) (hk : k0 < n) (ha : ad k0 = a) (he : E k0 = .inr (ci, fs)) (hfin : (T fi).2.2.2 = false) (hdd : ty0 fi = ty) (hn : narrow ty v = v) (hfit : fits ty v = true) (hlen : fi < fs.length) (hd : decode cc pc = .ok (.putfield index, 3)) (k : ∀ E1, E1 = va_up E k0 (.inr (ci, fs.set fi v)) → Z p l e R s m args below meth c nL D A n ad E1 lv cells slots Q (pc + 3) (st)) : Z p l e R s m args below meth c nL D A n ad E lv cells slots Q (pc) (v :: .ref a :: st) := fun H locs ls hP hS hl => by
  subst ha
  exact va_putN (T := T) (N := N) (ty := ty) C.1 C.2.1 C.2.2.2.2.1 hin ty0 hty hnm C.2.2.2.1 C.2.2.2.2.2.1 hP (hX.vd E) hS k0 (by rw [XL_get hk, he]) hc fi hfi (va_Nw.use rfl (C.2.2.2.2.2.2.1 _ hlink)) (fun _ h => h) hfin (by rw [hty fi hfi, hdd]) hn hfit hlen hd (fun H1 locs1 h1 _ h3 => by rw [XL_set hk] at h1; exact k _ rfl H1 locs1 ls h1 h3 hl)
theorem z_putF (C : ZC p s m args meth c cc nL own Ts D cI cM) {a : Nat} (k0 : Nat) {ci fi index N : Nat} {Cn : String} {T : u_T} {fs : List Value} {ty : FieldType} {v : Value} (ty0 : Nat → FieldType) (hin : ∀ w ∈ u_ws Cn T N, w ∈ Ts) (hty : ∀ k, k < N → parseFieldDescriptor (T k).2.2.1 = some (ty0 k)) (hnm : ∀ a, a < N → ∀ b, b < N → a ≠ b → (T a).2.1 ≠ (T b).2.1) (hc : vwCl[ci]? = some (Cn, T, N)) (hfi : fi < N) (hlink : Cond.fieldLink own index (T fi).1 (T fi).2.1 (T fi).2.2.1 ∈ Ts) (hX : XD A n ad) (hk : k0 < n) (ha : ad k0 = a) (he : E k0 = .inr (ci, fs)) (hfin : (T fi).2.2.2 = true) (hin2 : meth.name = "<init>") (hdecl : (T fi).1 = own) (hdd : ty0 fi = ty) (hn : narrow ty v = v) (hfit : fits ty v = true) (hlen : fi < fs.length) (hd : decode cc pc = .ok (.putfield index, 3)) (k : ∀ E1, E1 = va_up E k0 (.inr (ci, fs.set fi v)) → Z p l e R s m args below meth c nL D A n ad E1 lv cells slots Q (pc + 3) (st)) : Z p l e R s m args below meth c nL D A n ad E lv cells slots Q (pc) (v :: .ref a :: st) := fun H locs ls hP hS hl => by
  subst ha
  exact va_putF (T := T) (N := N) (ty := ty) C.1 C.2.1 C.2.2.2.2.1 hin ty0 hty hnm C.2.2.2.1 C.2.2.2.2.2.1 hP (hX.vd E) hS k0 (by rw [XL_get hk, he]) hc fi hfi (C.2.2.2.2.1 _ hlink) (fun _ h => h) hfin hin2 hdecl (by rw [hty fi hfi, hdd]) hn hfit hlen hd (fun H1 locs1 h1 _ h3 => by rw [XL_set hk] at h1; exact k _ rfl H1 locs1 ls h1 h3 hl)
theorem z_iald (C : ZC p s m args meth c cc nL own Ts D cI cM) {a : Nat} (k0 : Nat) {N : Nat} {f : Nat → Int32} {i : Int32} (hk : k0 < n) (ha : ad k0 = a) (he : E k0 = .inl (cI, N, .inl f)) (hin : vp_in i N) (hd : decode cc pc = .ok (.iaload, 1)) (k : Z p l e R s m args below meth c nL D A n ad E lv cells slots Q (pc + 1) (.int (f i.toNatClampNeg) :: st)) : Z p l e R s m args below meth c nL D A n ad E lv cells slots Q (pc) (.int i :: .ref a :: st) := fun H locs ls hP hS hl =>
  va_iald C.1 C.2.1 C.2.2.2.2.2.1 (XL_one hP hk ha he) 0 0 rfl rfl hin hd (k H locs ls hP hS hl)
theorem z_ialdN (C : ZC p s m args meth c cc nL own Ts D cI cM) {a : Nat} (k0 : Nat) {N : Nat} {f : Nat → Int32} {i : Nat} (v : Int32) (hk : k0 < n) (ha : ad k0 = a) (he : E k0 = .inl (cI, N, .inl f)) (hin : i < N) (hN : N < 2 ^ 31) (hv : f i = v) (hd : decode cc pc = .ok (.iaload, 1)) (k : Z p l e R s m args below meth c nL D A n ad E lv cells slots Q (pc + 1) (.int v :: st)) : Z p l e R s m args below meth c nL D A n ad E lv cells slots Q (pc) (.int (nI i) :: .ref a :: st) := z_iald C k0 hk ha he (vp_in_nI hin hN) hd (by rw [nI_clamp (Nat.lt_trans hin hN), hv]; exact k)
theorem z_iast (C : ZC p s m args meth c cc nL own Ts D cI cM) {a : Nat} (k0 : Nat) {N : Nat} {f : Nat → Int32} {i x : Int32} (hX : XD A n ad) (hk : k0 < n) (ha : ad k0 = a) (he : E k0 = .inl (cI, N, .inl f)) (hin : vp_in i N) (hd : decode cc pc = .ok (.iastore, 1)) (k : ∀ E1, E1 = va_up E k0 (.inl (cI, N, .inl (upd f i.toNatClampNeg x))) → Z p l e R s m args below meth c nL D A n ad E1 lv cells slots Q (pc + 1) (st)) : Z p l e R s m args below meth c nL D A n ad E lv cells slots Q (pc) (.int x :: .int i :: .ref a :: st) := fun H locs ls hP hS hl => by
  subst ha
  exact va_iast C.1 C.2.1 C.2.2.2.2.2.1 hP (hX.vd E) hS k0 0 (by rw [XL_get hk, he]) rfl hin hd (fun H1 locs1 h1 _ h3 => by rw [XL_set hk] at h1; exact k _ rfl H1 locs1 ls h1 h3 hl)
theorem z_iastN (C : ZC p s m args meth c cc nL own Ts D cI cM) {a : Nat} (k0 : Nat) {N : Nat} {f : Nat → Int32} {i : Nat} {x : Int32} (hX : XD A n ad) (hk : k0 < n) (ha : ad k0 = a) (he : E k0 = .inl (cI, N, .inl f)) (hin : i < N) (hN : N < 2 ^ 31) (hd : decode cc pc = .ok (.iastore, 1)) (k : ∀ E1, E1 = va_up E k0 (.inl (cI, N, .inl (upd f i x))) → Z p l e R s m args below meth c nL D A n ad E1 lv cells slots Q (pc + 1) (st)) : Z p l e R s m args below meth c nL D A n ad E lv cells slots Q (pc) (.int x :: .int (nI i) :: .ref a :: st) := z_iast C k0 hX hk ha he (vp_in_nI hin hN) hd (by rw [nI_clamp (Nat.lt_trans hin hN)]; exact k)
theorem z_alen (C : ZC p s m args meth c cc nL own Ts D cI cM) {a : Nat} (k0 : Nat) {N : Nat} {f : Nat → Int32} (hk : k0 < n) (ha : ad k0 = a) (he : E k0 = .inl (cI, N, .inl f)) (hd : decode cc pc = .ok (.arraylength, 1)) (k : Z p l e R s m args below meth c nL D A n ad E lv cells slots Q (pc + 1) (.int (nI N) :: st)) : Z p l e R s m args below meth c nL D A n ad E lv cells slots Q (pc) (.ref a :: st) := fun H locs ls hP hS hl =>
  va_alen (ty := .int) C.1 C.2.1 C.2.2.2.2.2.1 (XL_one hP hk ha he) 0 0 rfl rfl rfl hd (k H locs ls hP hS hl)
theorem z_alenq (C : ZC p s m args meth c cc nL own Ts D cI cM) {a : Nat} (k0 : Nat) {N : Nat} {f : Nat → Option Nat} (hk : k0 < n) (ha : ad k0 = a) (he : E k0 = .inl (cM, N, .inr (.inr (.inr (.inr f))))) (hd : decode cc pc = .ok (.arraylength, 1)) (k : Z p l e R s m args below meth c nL D A n ad E lv cells slots Q (pc + 1) (.int (nI N) :: st)) : Z p l e R s m args below meth c nL D A n ad E lv cells slots Q (pc) (.ref a :: st) := fun H locs ls hP hS hl =>
  va_alen (ty := .object RX1) C.1 C.2.1 C.2.2.2.2.2.1 (XL_one hP hk ha he) 0 1 rfl rfl rfl hd (k H locs ls hP hS hl)
theorem z_aldq (C : ZC p s m args meth c cc nL own Ts D cI cM) {a : Nat} (k0 : Nat) {N : Nat} {f : Nat → Option Nat} {i : Nat} (v : Option Nat) (hk : k0 < n) (ha : ad k0 = a) (he : E k0 = .inl (cM, N, .inr (.inr (.inr (.inr f))))) (hin : i < N) (hN : N < 2 ^ 31) (hv : f i = v) (hd : decode cc pc = .ok (.aaload, 1)) (k : Z p l e R s m args below meth c nL D A n ad E lv cells slots Q (pc + 1) (va_rf v :: st)) : Z p l e R s m args below meth c nL D A n ad E lv cells slots Q (pc) (.int (nI i) :: .ref a :: st) := fun H locs ls hP hS hl =>
  va_aldq C.1 C.2.1 C.2.2.2.2.2.1 (XL_one hP hk ha he) 0 1 rfl rfl (vp_in_nI hin hN) hd (by rw [nI_clamp (Nat.lt_trans hin hN), hv]; exact k H locs ls hP hS hl)
theorem z_astq (C : ZC p s m args meth c cc nL own Ts D cI cM) {a v : Nat} (k0 k1 : Nat) {N : Nat} {f : Nat → Option Nat} {i : Nat} {vs : List Value} (hX : XD A n ad) (hk : k0 < n) (ha : ad k0 = a) (he : E k0 = .inl (cM, N, .inr (.inr (.inr (.inr f))))) (hk1 : k1 < n) (ha1 : ad k1 = v) (he1 : E k1 = .inr (1, vs)) (hin : i < N) (hN : N < 2 ^ 31) (hd : decode cc pc = .ok (.aastore, 1)) (k : ∀ E1, E1 = va_up E k0 (.inl (cM, N, .inr (.inr (.inr (.inr (va_up f i (some v))))))) → Z p l e R s m args below meth c nL D A n ad E1 lv cells slots Q (pc + 1) (st)) : Z p l e R s m args below meth c nL D A n ad E lv cells slots Q (pc) (.ref v :: .int (nI i) :: .ref a :: st) := fun H locs ls hP hS hl => by
  subst ha
  subst ha1
  refine va_astq (r := (RX1, TX1, 4)) C.1 C.2.1 C.2.2.2.2.2.1 hP (hX.vd E) hS k0 1 k1 1 (by rw [XL_get hk, he]) rfl (by rw [XL_get hk1, he1]) rfl (vp_in_nI hin hN) hd (fun H1 locs1 h1 _ h3 => ?_)
  rw [XL_set hk, nI_clamp (Nat.lt_trans hin hN)] at h1
  exact k _ rfl H1 locs1 ls h1 h3 hl
theorem z_callVI (C : ZC p s m args meth c cc nL own Ts D cI cM) {y : MethodName} {bytes : ByteArray} {maxL : Nat} {ret : Option FieldType} {ws : List Cond} {rm : Room} {index nA : Nat} {As : List Value} {st0 : List Value} {post : Int32 → (Nat → va_E) → Prop} {a : Nat} (k0 : Nat) {ci N : Nat} {Cn : String} {T : u_T} {fs : List Value} (hM : MI l y ws rm D cI cM A n ad E (.ref a :: As) post) (cw : CallW R s args own Cn index y bytes maxL ret ws rm 0 0 nA) (hc : vwCl[ci]? = some (Cn, T, N)) (hk : k0 < n) (ha : ad k0 = a) (he : E k0 = .inr (ci, fs)) (hn : As.length = nA) (hst : st0 = As.reverse ++ .ref a :: st) (hcat : (st.map fun v => v.category).sum ≤ 8) (hrm : cells ≤ R.cells ∧ slots ≤ R.slots) (hd : decode cc pc = .ok (.invokevirtual index, 3)) (k : ∀ r E1, post r E1 → Z p l e R s m args below meth c nL D A n ad E1 lv cells slots Q (pc + 3) (.int r :: st)) : Z p l e R s m args below meth c nL D A n ad E lv cells slots Q (pc) (st0) := fun H locs ls hP hS hl =>
  va_calli (va_runV (g := F0 m pc ls st0) ⟨C.1, C.2.1, C.2.2.1, C.2.2.2.1, C.2.2.2.2.1⟩ hM cw ⟨PRE_blind, va_recv C.2.2.2.2.2.1 (XL_one hP hk ha he) (q0 := 0) hc rfl, fun U hU hW => ⟨rfl, by rw [hU]; exact hP, va_K.moved hW.alike C.2.2.2.2.2.1, NW.warm hW C.2.2.2.2.2.2.1⟩⟩ rfl hn hl.1 hst (lv_room hcat) hd hrm) hS (fun q _ h => h) (fun q h => h) (fun r u t H1 locs1 ht hvm hw hB hz hk1 hS1 => k r u hw H1 locs1 ls (by rw [← ht]; exact hB) hS1 hl)
theorem z_callSI (C : ZC p s m args meth c cc nL own Ts D cI cM) {y : MethodName} {bytes : ByteArray} {maxL : Nat} {ret : Option FieldType} {ws : List Cond} {rm : Room} {index nA : Nat} {As : List Value} {st0 : List Value} {post : Int32 → (Nat → va_E) → Prop} (hM : MI l y ws rm D cI cM A n ad E As post) (cw : CallB R s args own index y bytes maxL ret ws rm 0 0 nA ∧ (Cond.static y).before args s = true) (hn : As.length = nA) (hst : st0 = As.reverse ++ st) (hcat : (st.map fun v => v.category).sum ≤ 8) (hrm : cells ≤ R.cells ∧ slots ≤ R.slots) (hd : decode cc pc = .ok (.invokestatic index, 3)) (k : ∀ r E1, post r E1 → Z p l e R s m args below meth c nL D A n ad E1 lv cells slots Q (pc + 3) (.int r :: st)) : Z p l e R s m args below meth c nL D A n ad E lv cells slots Q (pc) (st0) := fun H locs ls hP hS hl =>
  va_calli (va_runS (g := F0 m pc ls st0) ⟨C.1, C.2.1, C.2.2.1, C.2.2.2.1, C.2.2.2.2.1⟩ hM cw ⟨PRE_blind, fun U hU hW => ⟨rfl, by rw [hU]; exact hP, va_K.moved hW.alike C.2.2.2.2.2.1, NW.warm hW C.2.2.2.2.2.2.1⟩⟩ rfl hn hl.1 hst (lv_room hcat) hd hrm) hS (fun q _ h => h) (fun q h => h) (fun r u t H1 locs1 ht hvm hw hB hz hk1 hS1 => k r u hw H1 locs1 ls (by rw [← ht]; exact hB) hS1 hl)
theorem z_callSNI (C : ZC p s m args meth c cc nL own Ts D cI cM) {y : MethodName} {bytes : ByteArray} {maxL : Nat} {ret : Option FieldType} {ws : List Cond} {rm : Room} {index nA : Nat} {As : List Value} {st0 : List Value} {post : Int32 → (Nat → va_E) → Prop} {host : String} (hM : MI l y ws rm D cI cM A n ad E As post) (cw : va_CN R s args own index y host bytes maxL ret ws rm 0 0 nA ∧ (Cond.static y).before args s = true ∧ True) (hn : As.length = nA) (hst : st0 = As.reverse ++ st) (hcat : (st.map fun v => v.category).sum ≤ 8) (hrm : cells ≤ R.cells ∧ slots ≤ R.slots) (hd : decode cc pc = .ok (.invokestatic index, 3)) (k : ∀ r E1, post r E1 → Z p l e R s m args below meth c nL D A n ad E1 lv cells slots Q (pc + 3) (.int r :: st)) : Z p l e R s m args below meth c nL D A n ad E lv cells slots Q (pc) (st0) := fun H locs ls hP hS hl =>
  va_calli (va_runSN (g := F0 m pc ls st0) ⟨C.1, C.2.1, C.2.2.1, C.2.2.2.1, C.2.2.2.2.1⟩ hM cw ⟨PRE_blind, fun U hU hW => ⟨rfl, by rw [hU]; exact hP, va_K.moved hW.alike C.2.2.2.2.2.1, NW.warm hW C.2.2.2.2.2.2.1⟩⟩ rfl hn hl.1 hst (lv_room hcat) hd hrm) hS (fun q _ h => h) (fun q h => h) (fun r u t H1 locs1 ht hvm hw hB hz hk1 hS1 => k r u hw H1 locs1 ls (by rw [← ht]; exact hB) hS1 hl)
theorem z_callVV (C : ZC p s m args meth c cc nL own Ts D cI cM) {y : MethodName} {bytes : ByteArray} {maxL : Nat} {ret : Option FieldType} {ws : List Cond} {rm : Room} {index nA : Nat} {As : List Value} {st0 : List Value} {post : (Nat → va_E) → Prop} {a : Nat} (k0 : Nat) {ci N : Nat} {Cn : String} {T : u_T} {fs : List Value} (hM : MV l y ws rm D cI cM A n ad E (.ref a :: As) post) (cw : CallW R s args own Cn index y bytes maxL ret ws rm 0 0 nA) (hc : vwCl[ci]? = some (Cn, T, N)) (hk : k0 < n) (ha : ad k0 = a) (he : E k0 = .inr (ci, fs)) (hn : As.length = nA) (hst : st0 = As.reverse ++ .ref a :: st) (hcat : (st.map fun v => v.category).sum ≤ 8) (hrm : cells ≤ R.cells ∧ slots ≤ R.slots) (hd : decode cc pc = .ok (.invokevirtual index, 3)) (k : ∀ E1, post E1 → Z p l e R s m args below meth c nL D A n ad E1 lv cells slots Q (pc + 3) (st)) : Z p l e R s m args below meth c nL D A n ad E lv cells slots Q (pc) (st0) := fun H locs ls hP hS hl =>
  va_callv (va_runV (g := F0 m pc ls st0) ⟨C.1, C.2.1, C.2.2.1, C.2.2.2.1, C.2.2.2.2.1⟩ hM cw ⟨PRE_blind, va_recv C.2.2.2.2.2.1 (XL_one hP hk ha he) (q0 := 0) hc rfl, fun U hU hW => ⟨rfl, by rw [hU]; exact hP, va_K.moved hW.alike C.2.2.2.2.2.1, NW.warm hW C.2.2.2.2.2.2.1⟩⟩ rfl hn hl.1 hst (lv_room hcat) hd hrm) hS (fun q _ h => h) (fun q h => h) (fun u t H1 locs1 ht hvm hw hB hz hk1 hS1 => k u hw H1 locs1 ls (by rw [← ht]; exact hB) hS1 hl)
theorem z_callSV (C : ZC p s m args meth c cc nL own Ts D cI cM) {y : MethodName} {bytes : ByteArray} {maxL : Nat} {ret : Option FieldType} {ws : List Cond} {rm : Room} {index nA : Nat} {As : List Value} {st0 : List Value} {post : (Nat → va_E) → Prop} (hM : MV l y ws rm D cI cM A n ad E As post) (cw : CallB R s args own index y bytes maxL ret ws rm 0 0 nA ∧ (Cond.static y).before args s = true) (hn : As.length = nA) (hst : st0 = As.reverse ++ st) (hcat : (st.map fun v => v.category).sum ≤ 8) (hrm : cells ≤ R.cells ∧ slots ≤ R.slots) (hd : decode cc pc = .ok (.invokestatic index, 3)) (k : ∀ E1, post E1 → Z p l e R s m args below meth c nL D A n ad E1 lv cells slots Q (pc + 3) (st)) : Z p l e R s m args below meth c nL D A n ad E lv cells slots Q (pc) (st0) := fun H locs ls hP hS hl =>
  va_callv (va_runS (g := F0 m pc ls st0) ⟨C.1, C.2.1, C.2.2.1, C.2.2.2.1, C.2.2.2.2.1⟩ hM cw ⟨PRE_blind, fun U hU hW => ⟨rfl, by rw [hU]; exact hP, va_K.moved hW.alike C.2.2.2.2.2.1, NW.warm hW C.2.2.2.2.2.2.1⟩⟩ rfl hn hl.1 hst (lv_room hcat) hd hrm) hS (fun q _ h => h) (fun q h => h) (fun u t H1 locs1 ht hvm hw hB hz hk1 hS1 => k u hw H1 locs1 ls (by rw [← ht]; exact hB) hS1 hl)
theorem z_callSNV (C : ZC p s m args meth c cc nL own Ts D cI cM) {y : MethodName} {bytes : ByteArray} {maxL : Nat} {ret : Option FieldType} {ws : List Cond} {rm : Room} {index nA : Nat} {As : List Value} {st0 : List Value} {post : (Nat → va_E) → Prop} {host : String} (hM : MV l y ws rm D cI cM A n ad E As post) (cw : va_CN R s args own index y host bytes maxL ret ws rm 0 0 nA ∧ (Cond.static y).before args s = true ∧ True) (hn : As.length = nA) (hst : st0 = As.reverse ++ st) (hcat : (st.map fun v => v.category).sum ≤ 8) (hrm : cells ≤ R.cells ∧ slots ≤ R.slots) (hd : decode cc pc = .ok (.invokestatic index, 3)) (k : ∀ E1, post E1 → Z p l e R s m args below meth c nL D A n ad E1 lv cells slots Q (pc + 3) (st)) : Z p l e R s m args below meth c nL D A n ad E lv cells slots Q (pc) (st0) := fun H locs ls hP hS hl =>
  va_callv (va_runSN (g := F0 m pc ls st0) ⟨C.1, C.2.1, C.2.2.1, C.2.2.2.1, C.2.2.2.2.1⟩ hM cw ⟨PRE_blind, fun U hU hW => ⟨rfl, by rw [hU]; exact hP, va_K.moved hW.alike C.2.2.2.2.2.1, NW.warm hW C.2.2.2.2.2.2.1⟩⟩ rfl hn hl.1 hst (lv_room hcat) hd hrm) hS (fun q _ h => h) (fun q h => h) (fun u t H1 locs1 ht hvm hw hB hz hk1 hS1 => k u hw H1 locs1 ls (by rw [← ht]; exact hB) hS1 hl)
theorem z_callVR (C : ZC p s m args meth c cc nL own Ts D cI cM) {y : MethodName} {bytes : ByteArray} {maxL : Nat} {ret : Option FieldType} {ws : List Cond} {rm : Room} {index nA : Nat} {As : List Value} {st0 : List Value} {post : Option Nat → (Nat → va_E) → Prop} {a : Nat} (k0 : Nat) {ci N : Nat} {Cn : String} {T : u_T} {fs : List Value} (hM : MR l y ws rm D cI cM A n ad E (.ref a :: As) post) (cw : CallW R s args own Cn index y bytes maxL ret ws rm 0 0 nA) (hc : vwCl[ci]? = some (Cn, T, N)) (hk : k0 < n) (ha : ad k0 = a) (he : E k0 = .inr (ci, fs)) (hn : As.length = nA) (hst : st0 = As.reverse ++ .ref a :: st) (hcat : (st.map fun v => v.category).sum ≤ 8) (hrm : cells ≤ R.cells ∧ slots ≤ R.slots) (hd : decode cc pc = .ok (.invokevirtual index, 3)) (k : ∀ r E1, post r E1 → Z p l e R s m args below meth c nL D A n ad E1 lv cells slots Q (pc + 3) (va_rf r :: st)) : Z p l e R s m args below meth c nL D A n ad E lv cells slots Q (pc) (st0) := fun H locs ls hP hS hl =>
  va_callq (va_runV (g := F0 m pc ls st0) ⟨C.1, C.2.1, C.2.2.1, C.2.2.2.1, C.2.2.2.2.1⟩ hM cw ⟨PRE_blind, va_recv C.2.2.2.2.2.1 (XL_one hP hk ha he) (q0 := 0) hc rfl, fun U hU hW => ⟨rfl, by rw [hU]; exact hP, va_K.moved hW.alike C.2.2.2.2.2.1, NW.warm hW C.2.2.2.2.2.2.1⟩⟩ rfl hn hl.1 hst (lv_room hcat) hd hrm) hS (fun q _ h => h) (fun q h => h) (fun r u t H1 locs1 ht hvm hw hB hz hk1 hS1 => k r u hw H1 locs1 ls (by rw [← ht]; exact hB) hS1 hl)
end ZS
theorem met_ofF {l : Launch} {y : MethodName} {ws ws' : List Cond} {rm : Room} {Pc : Array Value → State → Prop} {Qc : Array Value → State → Outcome → State → Prop} {mc ms : Nat} {free : Addr → Prop} {cc : ByteArray} {maxL : Nat} {ret : Option FieldType} (hy : plainFor y = true) (hw : ws = Cond.code y cc maxL ret :: ws')
    (body : ∀ (p : Program) (e : Env) (s : State) (m : MethodId) (args : Array Value) (below : List Frame) (meth : Method) (c : Code) (s₁ : State), BodyLoose p l y (headSpec ws rm) cc maxL ret e s m args below meth c s₁ → c.maxLocals = maxL → Pc args s → W p l e (headSpec ws rm).room s m args below meth c s.heap [] 0 0 (MQ below Qc args s mc ms free) (entryFrame m args maxL)) : Met l y ws rm Pc Qc mc ms free :=
  MetFree.of_bodySF (code := cc) (maxLocals := maxL) (ret := ret) hy
    (fun args s m h hn => by
      have hm : Cond.code y cc maxL ret ∈ ws := by rw [hw]; exact List.mem_cons_self
      obtain ⟨meth, c, g⟩ := Cond.code_spec hn (atoms_spec (ws := ws) h _ hm)
      exact ⟨meth, c, g.1, g.2.1, g.2.2.1, g.2.2.2.1, g.2.2.2.2.1, g.2.2.2.2.2.1⟩)
    (fun p e s m args below meth c s₁ B hml hP _ => by
      obtain ⟨t, a1, o, b1, b2, b3⟩ := body p e s m args below meth c s₁ B hml hP s₁ (by rw [B.state]; rfl) (Stand.of_body B)
      exact ⟨t, o, a1, b1, b2, b3.1, b3.2⟩)
theorem mi_of {l : Launch} {y : MethodName} {ws ws' : List Cond} {rm : Room} {D : va_G} {cI cM : ClassId} {A : Nat → Prop} {n : Nat} {ad : Nat → Nat} {E : Nat → va_E} {As : List Value} {post : Int32 → (Nat → va_E) → Prop} (cc : ByteArray) (nL : Nat) (ty : FieldType) (own : String) (hy : plainFor y = true) (hown : y.cls = own) (hw : ws = Cond.code y cc nL (some ty) :: ws') (hln : (lg_sl As).length ≤ nL) (hnar : ∀ r E1, post r E1 → narrow ty (.int r) = .int r)
    (body : ∀ (p : Program) (e : Env) (s : State) (m : MethodId) (args : Array Value) (below : List Frame) (meth : Method) (c : Code) (Q : State → Prop), ZC p s m args meth c cc nL own ws D cI cM → (∀ (pc : Nat) (lv : List (Nat × Value)) (E1 : Nat → va_E) (r : Int32), decode cc pc = .ok (.ireturn, 1) → post r E1 → Z p l e rm s m args below meth c nL D A n ad E1 lv 0 0 Q pc [.int r]) → Z p l e rm s m args below meth c nL D A n ad E (lv_args 0 As) 0 0 Q 0 []) : MI l y ws rm D cI cM A n ad E As post := by
  refine met_ofF (cc := cc) (maxL := nL) (ret := some ty) hy hw ?_
  intro p e s m args below meth c s₁ B hml hv
  obtain ⟨rfl, hP, hK, hN⟩ := hv
  have hx := B.exec
  have hb := B.bytes
  have hr := B.returns
  have hts := atoms_spec (ws := ws) B.pre
  have hown2 : s.vm.findClass own = some m.cls := by rw [← hown]; exact findClass_of_methodNamed B.named
  have hlocks := B.notSynchronized
  have hl := lv_entry As (n := nL) hln
  rw [lg_entry_eq]
  exact body p e s m _ below meth c _ ⟨hx, hb, hml, hown2, hts, hK, hN, hlocks⟩ (fun pc lv E1 r hd hp H locs ls hP1 hS1 hl1 => W.zret hx hb hr (hnar r E1 hp) (fun t ht hW => ⟨⟨r, E1, rfl, hp, by unfold BE; rw [ht]; exact hP1⟩, hS1.F ht⟩) hS1.2.2 hd hlocks) s.heap [] _ hP va_S.rf hl
theorem mv_of {l : Launch} {y : MethodName} {ws ws' : List Cond} {rm : Room} {D : va_G} {cI cM : ClassId} {A : Nat → Prop} {n : Nat} {ad : Nat → Nat} {E : Nat → va_E} {As : List Value} {post : (Nat → va_E) → Prop} (cc : ByteArray) (nL : Nat) (own : String) (hy : plainFor y = true) (hown : y.cls = own) (hw : ws = Cond.code y cc nL none :: ws') (hln : (lg_sl As).length ≤ nL)
    (body : ∀ (p : Program) (e : Env) (s : State) (m : MethodId) (args : Array Value) (below : List Frame) (meth : Method) (c : Code) (Q : State → Prop), ZC p s m args meth c cc nL own ws D cI cM → (∀ (pc : Nat) (lv : List (Nat × Value)) (E1 : Nat → va_E), decode cc pc = .ok (.return_, 1) → post E1 → Z p l e rm s m args below meth c nL D A n ad E1 lv 0 0 Q pc []) → Z p l e rm s m args below meth c nL D A n ad E (lv_args 0 As) 0 0 Q 0 []) : MV l y ws rm D cI cM A n ad E As post := by
  refine met_ofF (cc := cc) (maxL := nL) (ret := none) hy hw ?_
  intro p e s m args below meth c s₁ B hml hv
  obtain ⟨rfl, hP, hK, hN⟩ := hv
  have hx := B.exec
  have hb := B.bytes
  have hr := B.returns
  have hts := atoms_spec (ws := ws) B.pre
  have hown2 : s.vm.findClass own = some m.cls := by rw [← hown]; exact findClass_of_methodNamed B.named
  have hlocks := B.notSynchronized
  have hl := lv_entry As (n := nL) hln
  rw [lg_entry_eq]
  exact body p e s m _ below meth c _ ⟨hx, hb, hml, hown2, hts, hK, hN, hlocks⟩ (fun pc lv E1 hd hp H locs ls hP1 hS1 hl1 => W.vret hx hb hr (fun t ht hW => ⟨⟨E1, rfl, hp, by unfold BE; rw [ht]; exact hP1⟩, hS1.F ht⟩) hS1.2.2 hd hlocks) s.heap [] _ hP va_S.rf hl
theorem mr_of {l : Launch} {y : MethodName} {ws ws' : List Cond} {rm : Room} {D : va_G} {cI cM : ClassId} {A : Nat → Prop} {n : Nat} {ad : Nat → Nat} {E : Nat → va_E} {As : List Value} {post : Option Nat → (Nat → va_E) → Prop} (cc : ByteArray) (nL : Nat) (rt : FieldType) (own : String) (hy : plainFor y = true) (hown : y.cls = own) (hw : ws = Cond.code y cc nL (some rt) :: ws') (hrt : ∃ z, rt = .object z) (hln : (lg_sl As).length ≤ nL)
    (body : ∀ (p : Program) (e : Env) (s : State) (m : MethodId) (args : Array Value) (below : List Frame) (meth : Method) (c : Code) (Q : State → Prop), ZC p s m args meth c cc nL own ws D cI cM → (∀ (pc : Nat) (lv : List (Nat × Value)) (E1 : Nat → va_E) (r : Option Nat), decode cc pc = .ok (.areturn, 1) → post r E1 → Z p l e rm s m args below meth c nL D A n ad E1 lv 0 0 Q pc [va_rf r]) → Z p l e rm s m args below meth c nL D A n ad E (lv_args 0 As) 0 0 Q 0 []) : MR l y ws rm D cI cM A n ad E As post := by
  refine met_ofF (cc := cc) (maxL := nL) (ret := some rt) hy hw ?_
  intro p e s m args below meth c s₁ B hml hv
  obtain ⟨rfl, hP, hK, hN⟩ := hv
  have hx := B.exec
  have hb := B.bytes
  have hr := B.returns
  have hts := atoms_spec (ws := ws) B.pre
  have hown2 : s.vm.findClass own = some m.cls := by rw [← hown]; exact findClass_of_methodNamed B.named
  have hlocks := B.notSynchronized
  have hl := lv_entry As (n := nL) hln
  rw [lg_entry_eq]
  exact body p e s m _ below meth c _ ⟨hx, hb, hml, hown2, hts, hK, hN, hlocks⟩ (fun pc lv E1 r hd hp H locs ls hP1 hS1 hl1 => W.aret hx hb hr (Or.inl hrt) (va_rf_or r) (fun t ht hW => ⟨⟨r, E1, rfl, hp, by unfold BE; rw [ht]; exact hP1⟩, hS1.F ht⟩) hS1.2.2 hd hlocks) s.heap [] _ hP va_S.rf hl
def aI (cI : ClassId) (N : Nat) (g : Nat → Nat) : va_E := .inl (cI, N, .inl (fun j => nI (g j)))
theorem aI_up {cI : ClassId} {N : Nat} {g : Nat → Nat} {i x : Nat} : (Sum.inl (cI, N, Sum.inl (upd (fun j => nI (g j)) i (nI x))) : va_E) = aI cI N (va_up g i x) := by
  unfold aI
  congr 3
  congr 1
  funext j
  by_cases hj : j = i
  · subst hj; simp [upd, va_up]
  · simp [upd, va_up, hj]
def MF (l : Launch) (y : MethodName) (ws : List Cond) (rm : Room) (D : va_G) (cI cM : ClassId) (A : Nat → Prop) (n : Nat) (ad : Nat → Nat) (E : Nat → va_E) (As : List Value) (v : Int32) : Prop := MI l y ws rm D cI cM A n ad E As (fun r E1 => E1 = E ∧ r = v)
def MQ0 (l : Launch) (y : MethodName) (ws : List Cond) (rm : Room) (D : va_G) (cI cM : ClassId) (A : Nat → Prop) (n : Nat) (ad : Nat → Nat) (E : Nat → va_E) (As : List Value) (v : Option Nat) : Prop := MR l y ws rm D cI cM A n ad E As (fun r E1 => E1 = E ∧ r = v)
section ZS2
variable {p : Program} {l : Launch} {e : Env} {R : Room} {s : State} {m : MethodId} {args : Array Value} {below : List Frame} {meth : Method} {c : Code}
variable {cc : ByteArray} {nL : Nat} {own : String} {Ts : List Cond} {D : va_G} {cI cM : ClassId} {A : Nat → Prop} {n : Nat} {ad : Nat → Nat} {E : Nat → va_E} {lv lv' : List (Nat × Value)} {cells slots : Nat} {Q : State → Prop} {pc : Nat} {st : List Value}
theorem z_ialdG (C : ZC p s m args meth c cc nL own Ts D cI cM) {a : Nat} (k0 : Nat) {N : Nat} {g : Nat → Nat} {i : Nat} (hk : k0 < n) (ha : ad k0 = a) (he : E k0 = aI cI N g) (hin : i < N) (hN : N < 2 ^ 31) (hd : decode cc pc = .ok (.iaload, 1)) (k : Z p l e R s m args below meth c nL D A n ad E lv cells slots Q (pc + 1) (.int (nI (g i)) :: st)) : Z p l e R s m args below meth c nL D A n ad E lv cells slots Q (pc) (.int (nI i) :: .ref a :: st) := z_ialdN C k0 _ hk ha he hin hN rfl hd k
theorem z_iastG (C : ZC p s m args meth c cc nL own Ts D cI cM) {a : Nat} (k0 : Nat) {N : Nat} {g : Nat → Nat} {i x : Nat} (hX : XD A n ad) (hk : k0 < n) (ha : ad k0 = a) (he : E k0 = aI cI N g) (hin : i < N) (hN : N < 2 ^ 31) (hd : decode cc pc = .ok (.iastore, 1)) (k : ∀ E1, E1 = va_up E k0 (aI cI N (va_up g i x)) → Z p l e R s m args below meth c nL D A n ad E1 lv cells slots Q (pc + 1) (st)) : Z p l e R s m args below meth c nL D A n ad E lv cells slots Q (pc) (.int (nI x) :: .int (nI i) :: .ref a :: st) := z_iastN C k0 hX hk ha he hin hN hd (fun E1 h => k E1 (by rw [h, aI_up]))
theorem z_alenG (C : ZC p s m args meth c cc nL own Ts D cI cM) {a : Nat} (k0 : Nat) {N : Nat} {g : Nat → Nat} (hk : k0 < n) (ha : ad k0 = a) (he : E k0 = aI cI N g) (hd : decode cc pc = .ok (.arraylength, 1)) (k : Z p l e R s m args below meth c nL D A n ad E lv cells slots Q (pc + 1) (.int (nI N) :: st)) : Z p l e R s m args below meth c nL D A n ad E lv cells slots Q (pc) (.ref a :: st) := z_alen C k0 hk ha he hd k
theorem z_callVF (C : ZC p s m args meth c cc nL own Ts D cI cM) {y : MethodName} {bytes : ByteArray} {maxL : Nat} {ret : Option FieldType} {ws : List Cond} {rm : Room} {index nA : Nat} {As : List Value} {st0 : List Value} {v : Int32} {a : Nat} (k0 : Nat) {ci N : Nat} {Cn : String} {T : u_T} {fs : List Value} (hM : MF l y ws rm D cI cM A n ad E (.ref a :: As) v) (cw : CallW R s args own Cn index y bytes maxL ret ws rm 0 0 nA) (hc : vwCl[ci]? = some (Cn, T, N)) (hk : k0 < n) (ha : ad k0 = a) (he : E k0 = .inr (ci, fs)) (hn : As.length = nA) (hst : st0 = As.reverse ++ .ref a :: st) (hcat : (st.map fun v => v.category).sum ≤ 8) (hrm : cells ≤ R.cells ∧ slots ≤ R.slots) (hd : decode cc pc = .ok (.invokevirtual index, 3)) (k : Z p l e R s m args below meth c nL D A n ad E lv cells slots Q (pc + 3) (.int v :: st)) : Z p l e R s m args below meth c nL D A n ad E lv cells slots Q (pc) (st0) := z_callVI C k0 hM cw hc hk ha he hn hst hcat hrm hd (fun r E1 h => by rw [h.1, h.2]; exact k)
theorem z_callVQ (C : ZC p s m args meth c cc nL own Ts D cI cM) {y : MethodName} {bytes : ByteArray} {maxL : Nat} {ret : Option FieldType} {ws : List Cond} {rm : Room} {index nA : Nat} {As : List Value} {st0 : List Value} {v : Option Nat} {a : Nat} (k0 : Nat) {ci N : Nat} {Cn : String} {T : u_T} {fs : List Value} (hM : MQ0 l y ws rm D cI cM A n ad E (.ref a :: As) v) (cw : CallW R s args own Cn index y bytes maxL ret ws rm 0 0 nA) (hc : vwCl[ci]? = some (Cn, T, N)) (hk : k0 < n) (ha : ad k0 = a) (he : E k0 = .inr (ci, fs)) (hn : As.length = nA) (hst : st0 = As.reverse ++ .ref a :: st) (hcat : (st.map fun v => v.category).sum ≤ 8) (hrm : cells ≤ R.cells ∧ slots ≤ R.slots) (hd : decode cc pc = .ok (.invokevirtual index, 3)) (k : Z p l e R s m args below meth c nL D A n ad E lv cells slots Q (pc + 3) (va_rf v :: st)) : Z p l e R s m args below meth c nL D A n ad E lv cells slots Q (pc) (st0) := z_callVR C k0 hM cw hc hk ha he hn hst hcat hrm hd (fun r E1 h => by rw [h.1, h.2]; exact k)
theorem z_callSF (C : ZC p s m args meth c cc nL own Ts D cI cM) {y : MethodName} {bytes : ByteArray} {maxL : Nat} {ret : Option FieldType} {ws : List Cond} {rm : Room} {index nA : Nat} {As : List Value} {st0 : List Value} {v : Int32} (hM : MF l y ws rm D cI cM A n ad E As v) (cw : CallB R s args own index y bytes maxL ret ws rm 0 0 nA ∧ (Cond.static y).before args s = true) (hn : As.length = nA) (hst : st0 = As.reverse ++ st) (hcat : (st.map fun v => v.category).sum ≤ 8) (hrm : cells ≤ R.cells ∧ slots ≤ R.slots) (hd : decode cc pc = .ok (.invokestatic index, 3)) (k : Z p l e R s m args below meth c nL D A n ad E lv cells slots Q (pc + 3) (.int v :: st)) : Z p l e R s m args below meth c nL D A n ad E lv cells slots Q (pc) (st0) := z_callSI C hM cw hn hst hcat hrm hd (fun r E1 h => by rw [h.1, h.2]; exact k)
theorem z_callSNF (C : ZC p s m args meth c cc nL own Ts D cI cM) {y : MethodName} {bytes : ByteArray} {maxL : Nat} {ret : Option FieldType} {ws : List Cond} {rm : Room} {index nA : Nat} {As : List Value} {st0 : List Value} {v : Int32} {host : String} (hM : MF l y ws rm D cI cM A n ad E As v) (cw : va_CN R s args own index y host bytes maxL ret ws rm 0 0 nA ∧ (Cond.static y).before args s = true ∧ True) (hn : As.length = nA) (hst : st0 = As.reverse ++ st) (hcat : (st.map fun v => v.category).sum ≤ 8) (hrm : cells ≤ R.cells ∧ slots ≤ R.slots) (hd : decode cc pc = .ok (.invokestatic index, 3)) (k : Z p l e R s m args below meth c nL D A n ad E lv cells slots Q (pc + 3) (.int v :: st)) : Z p l e R s m args below meth c nL D A n ad E lv cells slots Q (pc) (st0) := z_callSNI C hM cw hn hst hcat hrm hd (fun r E1 h => by rw [h.1, h.2]; exact k)
theorem z_if_eqN (C : ZC p s m args meth c cc nL own Ts D cI cM) {a : Nat} {off : Int} (tgt : Nat) (ha : a < 2 ^ 31) (hd : decode cc pc = .ok (.ifCond .eq off, 3)) (ht : (pc : Int) + off = (tgt : Int)) (kt : a = 0 → Z p l e R s m args below meth c nL D A n ad E lv cells slots Q (tgt) (st)) (kf : ¬ a = 0 → Z p l e R s m args below meth c nL D A n ad E lv cells slots Q (pc + 3) (st)) : Z p l e R s m args below meth c nL D A n ad E lv cells slots Q (pc) (.int (nI a) :: st) := z_if_eq C tgt hd ht (fun h => kt ((nI_eq (b := 0) ha (by decide)).mp h)) (fun h => kf (fun q => h ((nI_eq (b := 0) ha (by decide)).mpr q)))
theorem z_if_neN (C : ZC p s m args meth c cc nL own Ts D cI cM) {a : Nat} {off : Int} (tgt : Nat) (ha : a < 2 ^ 31) (hd : decode cc pc = .ok (.ifCond .ne off, 3)) (ht : (pc : Int) + off = (tgt : Int)) (kt : ¬ a = 0 → Z p l e R s m args below meth c nL D A n ad E lv cells slots Q (tgt) (st)) (kf : a = 0 → Z p l e R s m args below meth c nL D A n ad E lv cells slots Q (pc + 3) (st)) : Z p l e R s m args below meth c nL D A n ad E lv cells slots Q (pc) (.int (nI a) :: st) := z_if_ne C tgt hd ht (fun h => kt (fun q => h ((nI_eq (b := 0) ha (by decide)).mpr q))) (fun h => kf ((nI_eq (b := 0) ha (by decide)).mp h))
theorem z_if_gtN (C : ZC p s m args meth c cc nL own Ts D cI cM) {a : Nat} {off : Int} (tgt : Nat) (ha : a < 2 ^ 31) (hd : decode cc pc = .ok (.ifCond .gt off, 3)) (ht : (pc : Int) + off = (tgt : Int)) (kt : 0 < a → Z p l e R s m args below meth c nL D A n ad E lv cells slots Q (tgt) (st)) (kf : a = 0 → Z p l e R s m args below meth c nL D A n ad E lv cells slots Q (pc + 3) (st)) : Z p l e R s m args below meth c nL D A n ad E lv cells slots Q (pc) (.int (nI a) :: st) := z_if_gt C tgt hd ht (fun h => kt ((nI_ltI (a := 0) (by decide) ha).mp h)) (fun h => kf (Nat.eq_zero_of_not_pos (fun q => h ((nI_ltI (a := 0) (by decide) ha).mpr q))))
theorem z_if_leN (C : ZC p s m args meth c cc nL own Ts D cI cM) {a : Nat} {off : Int} (tgt : Nat) (ha : a < 2 ^ 31) (hd : decode cc pc = .ok (.ifCond .le off, 3)) (ht : (pc : Int) + off = (tgt : Int)) (kt : a = 0 → Z p l e R s m args below meth c nL D A n ad E lv cells slots Q (tgt) (st)) (kf : 0 < a → Z p l e R s m args below meth c nL D A n ad E lv cells slots Q (pc + 3) (st)) : Z p l e R s m args below meth c nL D A n ad E lv cells slots Q (pc) (.int (nI a) :: st) := z_if_le C tgt hd ht (fun h => kt (Nat.le_zero.mp ((nI_leI (b := 0) ha (by decide)).mp h))) (fun h => kf (Nat.pos_of_ne_zero (fun q => h ((nI_leI (b := 0) ha (by decide)).mpr (Nat.le_of_eq q)))))
theorem z_if_ltN (C : ZC p s m args meth c cc nL own Ts D cI cM) {a : Nat} {off : Int} (tgt : Nat) (ha : a < 2 ^ 31) (hd : decode cc pc = .ok (.ifCond .lt off, 3)) (ht : (pc : Int) + off = (tgt : Int)) (k : Z p l e R s m args below meth c nL D A n ad E lv cells slots Q (pc + 3) (st)) : Z p l e R s m args below meth c nL D A n ad E lv cells slots Q (pc) (.int (nI a) :: st) := z_if_lt C tgt hd ht (fun h => absurd h (nI_pos ha)) (fun _ => k)
theorem z_if_geN (C : ZC p s m args meth c cc nL own Ts D cI cM) {a : Nat} {off : Int} (tgt : Nat) (ha : a < 2 ^ 31) (hd : decode cc pc = .ok (.ifCond .ge off, 3)) (ht : (pc : Int) + off = (tgt : Int)) (k : Z p l e R s m args below meth c nL D A n ad E lv cells slots Q (tgt) (st)) : Z p l e R s m args below meth c nL D A n ad E lv cells slots Q (pc) (.int (nI a) :: st) := z_if_ge C tgt hd ht (fun _ => k) (fun h => absurd (nI_pos' ha) h)
def sf (ad : Nat → Nat) (pm : Nat → Nat) : Nat → Option Nat := fun i => some (ad (8 + 3 * pm i))
theorem sf_up {ad : Nat → Nat} {pm : Nat → Nat} {i x : Nat} : va_up (sf ad pm) i (some (ad (8 + 3 * x))) = sf ad (va_up pm i x) := by
  funext j
  by_cases hj : j = i
  · subst hj; simp [sf, va_up]
  · simp [sf, va_up, hj]
theorem z_astqG (C : ZC p s m args meth c cc nL own Ts D cI cM) {a : Nat} (k0 : Nat) {N x : Nat} {pm : Nat → Nat} {i : Nat} {vs : List Value} (hX : XD A n ad) (hk : k0 < n) (ha : ad k0 = a) (he : E k0 = .inl (cM, N, .inr (.inr (.inr (.inr (sf ad pm)))))) (hk1 : 8 + 3 * x < n) (he1 : E (8 + 3 * x) = .inr (1, vs)) (hin : i < N) (hN : N < 2 ^ 31) (hd : decode cc pc = .ok (.aastore, 1)) (k : ∀ E1, E1 = va_up E k0 (.inl (cM, N, .inr (.inr (.inr (.inr (sf ad (va_up pm i x))))))) → Z p l e R s m args below meth c nL D A n ad E1 lv cells slots Q (pc + 1) (st)) : Z p l e R s m args below meth c nL D A n ad E lv cells slots Q (pc) (.ref (ad (8 + 3 * x)) :: .int (nI i) :: .ref a :: st) := z_astq C k0 (8 + 3 * x) hX hk ha he hk1 rfl he1 hin hN hd (fun E1 h => k E1 (by rw [h, sf_up]))
theorem nI_dec {i : Nat} (h : 0 < i) : nI i + Int32.ofInt (-1) = nI (i - 1) := sb_m1 h
theorem z_dup2 (C : ZC p s m args meth c cc nL own Ts D cI cM) {u v : Value} (hd : decode cc pc = .ok (.dup2, 1)) (hu : u.category = 1) (hv : v.category = 1) (k : Z p l e R s m args below meth c nL D A n ad E lv cells slots Q (pc + 1) (u :: v :: u :: v :: st)) : Z p l e R s m args below meth c nL D A n ad E lv cells slots Q (pc) (u :: v :: st) := fun H locs ls hP hS hl => lv_dup2_11 C.1 C.2.1 hd hu hv (k H locs ls hP hS hl)
def shs (i : Nat) : Nat := if i = 0 then 2 else if i = 1 then 1 else if i = 2 then 3 else if i = 3 then 0 else 4
def SHZ (t : Nat) (A : Nat → Prop) (U : State) (H : Heap) : Prop := va_Z "MarqueeDisplay" "SHIFTS_BEST_FIRST" "[I" (.ref t) A U H ∧ va_T .int t 5 (fun j => .int (nI (shs j) - nI 2)) A U H
def MIZ (l : Launch) (y : MethodName) (ws : List Cond) (rm : Room) (D : va_G) (cI cM : ClassId) (A : Nat → Prop) (n : Nat) (ad : Nat → Nat) (E : Nat → va_E) (As : List Value) (t : Nat) (post : Int32 → (Nat → va_E) → Prop) : Prop := Met l y ws rm (fun v U => PRE D cI cM n ad E As v U ∧ SHZ t A U U.heap) (va_Qi post (BE D n ad) A) 0 0 A
theorem z_gets (C : ZC p s m args meth c cc nL own Ts D cI cM) {t index : Nat} (hz : SHZ t A s s.heap) (hlink : Cond.fieldLink own index "MarqueeDisplay" "SHIFTS_BEST_FIRST" "[I" ∈ Ts) (hd : decode cc pc = .ok (.getstatic index, 3)) (k : Z p l e R s m args below meth c nL D A n ad E lv cells slots Q (pc + 3) (.ref t :: st)) : Z p l e R s m args below meth c nL D A n ad E lv cells slots Q (pc) (st) := fun H locs ls hP hS hl => va_gets C.1 C.2.1 hz.1 hS C.2.2.2.1 (C.2.2.2.2.1 _ hlink) (fun _ h => h) hd (k H locs ls hP hS hl)
theorem z_tlen (C : ZC p s m args meth c cc nL own Ts D cI cM) {t : Nat} (hz : SHZ t A s s.heap) (hd : decode cc pc = .ok (.arraylength, 1)) (k : Z p l e R s m args below meth c nL D A n ad E lv cells slots Q (pc + 1) (.int (nI 5) :: st)) : Z p l e R s m args below meth c nL D A n ad E lv cells slots Q (pc) (.ref t :: st) := fun H locs ls hP hS hl => va_tlen C.1 C.2.1 hz.2 hS rfl hd (k H locs ls hP hS hl)
theorem z_ti (C : ZC p s m args meth c cc nL own Ts D cI cM) {t i : Nat} (hz : SHZ t A s s.heap) (hi : i < 5) (hd : decode cc pc = .ok (.iaload, 1)) (k : Z p l e R s m args below meth c nL D A n ad E lv cells slots Q (pc + 1) (.int (nI (shs i) - nI 2) :: st)) : Z p l e R s m args below meth c nL D A n ad E lv cells slots Q (pc) (.int (nI i) :: .ref t :: st) := fun H locs ls hP hS hl => va_ti C.1 C.2.1 hz.2 hS (vp_in_nI hi (by decide)) (by rw [nI_clamp (by omega)]) hd (k H locs ls hP hS hl)
theorem z_callVIZ (C : ZC p s m args meth c cc nL own Ts D cI cM) {y : MethodName} {bytes : ByteArray} {maxL : Nat} {ret : Option FieldType} {ws : List Cond} {rm : Room} {index nA : Nat} {As : List Value} {st0 : List Value} {post : Int32 → (Nat → va_E) → Prop} {a t : Nat} (k0 : Nat) {ci N : Nat} {Cn : String} {T : u_T} {fs : List Value} (hM : MIZ l y ws rm D cI cM A n ad E (.ref a :: As) t post) (hz : SHZ t A s s.heap) (cw : CallW R s args own Cn index y bytes maxL ret ws rm 0 0 nA) (hc : vwCl[ci]? = some (Cn, T, N)) (hk : k0 < n) (ha : ad k0 = a) (he : E k0 = .inr (ci, fs)) (hn : As.length = nA) (hst : st0 = As.reverse ++ .ref a :: st) (hcat : (st.map fun v => v.category).sum ≤ 8) (hrm : cells ≤ R.cells ∧ slots ≤ R.slots) (hd : decode cc pc = .ok (.invokevirtual index, 3)) (k : ∀ r E1, post r E1 → Z p l e R s m args below meth c nL D A n ad E1 lv cells slots Q (pc + 3) (.int r :: st)) : Z p l e R s m args below meth c nL D A n ad E lv cells slots Q (pc) (st0) := fun H locs ls hP hS hl =>
  va_calli (va_runV (g := F0 m pc ls st0) ⟨C.1, C.2.1, C.2.2.1, C.2.2.2.1, C.2.2.2.2.1⟩ hM cw ⟨fun a U g mk q => ⟨PRE_blind a U g mk q.1, va_Z.moved (u := U) (U := U.calling g mk a) (Vm.Alike.refl U.vm) q.2.1, va_T.moved (u := U) (U := U.calling g mk a) (Vm.Alike.refl U.vm) q.2.2⟩, va_recv C.2.2.2.2.2.1 (XL_one hP hk ha he) (q0 := 0) hc rfl, fun U hU hW => ⟨⟨rfl, by rw [hU]; exact hP, va_K.moved hW.alike C.2.2.2.2.2.1, NW.warm hW C.2.2.2.2.2.2.1⟩, by rw [hU]; exact ⟨va_Z.moved hW.alike (va_Z.kept hz.1 hS.2.1), va_T.moved hW.alike (va_T.kept hz.2 hS.2.1)⟩⟩⟩ rfl hn hl.1 hst (lv_room hcat) hd hrm) hS (fun q _ h => h) (fun q h => h) (fun r u t H1 locs1 ht hvm hw hB hz hk1 hS1 => k r u hw H1 locs1 ls (by rw [← ht]; exact hB) hS1 hl)
end ZS2
theorem mf_of {l : Launch} {y : MethodName} {ws ws' : List Cond} {rm : Room} {D : va_G} {cI cM : ClassId} {A : Nat → Prop} {n : Nat} {ad : Nat → Nat} {E : Nat → va_E} {As : List Value} {v : Int32} (cc : ByteArray) (nL : Nat) (ty : FieldType) (own : String) (hy : plainFor y = true) (hown : y.cls = own) (hw : ws = Cond.code y cc nL (some ty) :: ws') (hln : (lg_sl As).length ≤ nL) (hnar : narrow ty (.int v) = .int v)
    (body : ∀ (p : Program) (e : Env) (s : State) (m : MethodId) (args : Array Value) (below : List Frame) (meth : Method) (c : Code) (Q : State → Prop), ZC p s m args meth c cc nL own ws D cI cM → (∀ (pc : Nat) (lv : List (Nat × Value)) (r : Int32), decode cc pc = .ok (.ireturn, 1) → r = v → Z p l e rm s m args below meth c nL D A n ad E lv 0 0 Q pc [.int r]) → Z p l e rm s m args below meth c nL D A n ad E (lv_args 0 As) 0 0 Q 0 []) : MF l y ws rm D cI cM A n ad E As v :=
  mi_of cc nL ty own hy hown hw hln (fun r E1 h => by rw [h.2]; exact hnar) (fun p e s m args below meth c Q C hend => body p e s m args below meth c Q C (fun pc lv r hd h => hend pc lv E r hd ⟨rfl, h⟩))
theorem mq_of {l : Launch} {y : MethodName} {ws ws' : List Cond} {rm : Room} {D : va_G} {cI cM : ClassId} {A : Nat → Prop} {n : Nat} {ad : Nat → Nat} {E : Nat → va_E} {As : List Value} {v : Option Nat} (cc : ByteArray) (nL : Nat) (rt : FieldType) (own : String) (hy : plainFor y = true) (hown : y.cls = own) (hw : ws = Cond.code y cc nL (some rt) :: ws') (hrt : ∃ z, rt = .object z) (hln : (lg_sl As).length ≤ nL)
    (body : ∀ (p : Program) (e : Env) (s : State) (m : MethodId) (args : Array Value) (below : List Frame) (meth : Method) (c : Code) (Q : State → Prop), ZC p s m args meth c cc nL own ws D cI cM → (∀ (pc : Nat) (lv : List (Nat × Value)) (r : Option Nat), decode cc pc = .ok (.areturn, 1) → r = v → Z p l e rm s m args below meth c nL D A n ad E lv 0 0 Q pc [va_rf r]) → Z p l e rm s m args below meth c nL D A n ad E (lv_args 0 As) 0 0 Q 0 []) : MQ0 l y ws rm D cI cM A n ad E As v :=
  mr_of cc nL rt own hy hown hw hrt hln (fun p e s m args below meth c Q C hend => body p e s m args below meth c Q C (fun pc lv r hd h => hend pc lv E r hd ⟨rfl, h⟩))
theorem miz_of {l : Launch} {y : MethodName} {ws ws' : List Cond} {rm : Room} {D : va_G} {cI cM : ClassId} {A : Nat → Prop} {n : Nat} {ad : Nat → Nat} {E : Nat → va_E} {As : List Value} {t : Nat} {post : Int32 → (Nat → va_E) → Prop} (cc : ByteArray) (nL : Nat) (ty : FieldType) (own : String) (hy : plainFor y = true) (hown : y.cls = own) (hw : ws = Cond.code y cc nL (some ty) :: ws') (hln : (lg_sl As).length ≤ nL) (hnar : ∀ r E1, post r E1 → narrow ty (.int r) = .int r)
    (body : ∀ (p : Program) (e : Env) (s : State) (m : MethodId) (args : Array Value) (below : List Frame) (meth : Method) (c : Code) (Q : State → Prop), ZC p s m args meth c cc nL own ws D cI cM → SHZ t A s s.heap → (∀ (pc : Nat) (lv : List (Nat × Value)) (E1 : Nat → va_E) (r : Int32), decode cc pc = .ok (.ireturn, 1) → post r E1 → Z p l e rm s m args below meth c nL D A n ad E1 lv 0 0 Q pc [.int r]) → Z p l e rm s m args below meth c nL D A n ad E (lv_args 0 As) 0 0 Q 0 []) : MIZ l y ws rm D cI cM A n ad E As t post := by
  refine met_ofF (cc := cc) (maxL := nL) (ret := some ty) hy hw ?_
  intro p e s m args below meth c s₁ B hml hv
  obtain ⟨⟨rfl, hP, hK, hN⟩, hz⟩ := hv
  have hx := B.exec
  have hb := B.bytes
  have hr := B.returns
  have hts := atoms_spec (ws := ws) B.pre
  have hown2 : s.vm.findClass own = some m.cls := by rw [← hown]; exact findClass_of_methodNamed B.named
  have hlocks := B.notSynchronized
  have hl := lv_entry As (n := nL) hln
  rw [lg_entry_eq]
  exact body p e s m _ below meth c _ ⟨hx, hb, hml, hown2, hts, hK, hN, hlocks⟩ hz (fun pc lv E1 r hd hp H locs ls hP1 hS1 hl1 => W.zret hx hb hr (hnar r E1 hp) (fun t ht hW => ⟨⟨r, E1, rfl, hp, by unfold BE; rw [ht]; exact hP1⟩, hS1.F ht⟩) hS1.2.2 hd hlocks) s.heap [] _ hP va_S.rf hl
end
section
def iw (v lo hi : Int32) : Int32 := if lo ≤ v ∧ v ≤ hi then 1 else 0
theorem iw_nar (v lo hi : Int32) : narrow .boolean (.int (iw v lo hi)) = .int (iw v lo hi) := by unfold iw; split <;> rfl
theorem iw_N {j a b : Nat} (hj : j < 2 ^ 31) (ha : a < 2 ^ 31) (hb : b < 2 ^ 31) : iw (nI j) (nI a) (nI b) = nI (if a ≤ j ∧ j ≤ b then 1 else 0) := by
  unfold iw
  by_cases h : a ≤ j ∧ j ≤ b
  · rw [if_pos h, if_pos ⟨(nI_leI ha hj).mpr h.1, (nI_leI hj hb).mpr h.2⟩]; rfl
  · rw [if_neg h, if_neg (fun q => h ⟨(nI_leI ha hj).mp q.1, (nI_leI hj hb).mp q.2⟩)]; rfl
theorem iw_y {v lo hi : Int32} (h : lo ≤ v ∧ v ≤ hi) : iw v lo hi = nI 1 := by unfold iw; rw [if_pos h]; rfl
theorem iw_n {v lo hi : Int32} (h : ¬ (lo ≤ v ∧ v ≤ hi)) : iw v lo hi = nI 0 := by unfold iw; rw [if_neg h]; rfl
theorem iw_yN {j a b : Nat} (h : a ≤ j ∧ j ≤ b) (hb : b < 2 ^ 31) : iw (nI j) (nI a) (nI b) = nI 1 := by
  rw [iw_N (by omega) (by omega) hb, if_pos h]
theorem iw_0 {v lo hi : Int32} (h : iw v lo hi = 0) : ¬ (lo ≤ v ∧ v ≤ hi) := fun q => by rw [iw_y q] at h; exact absurd h (by decide)
theorem iw_1 {v lo hi : Int32} (h : ¬ iw v lo hi = 0) : lo ≤ v ∧ v ≤ hi := by
  by_cases q : lo ≤ v ∧ v ≤ hi
  · exact q
  · exact absurd (iw_n q) h
/-- an int in a range of small naturals -/
theorem iw_in {v : Int32} {hi : Nat} (hh : hi < 2 ^ 31) : (∃ j : Nat, j ≤ hi ∧ v = nI j) ∨ ¬ (nI 0 ≤ v ∧ v ≤ nI hi) := by
  by_cases q : nI 0 ≤ v ∧ v ≤ nI hi
  · refine Or.inl (nI_of2 (M := nI hi) (nI_toInt hh) ?_ q.2)
    exact Int32.not_lt.mpr q.1
  · exact Or.inr q
set_option maxHeartbeats 4000000 in
set_option maxRecDepth 100000 in
theorem k_X5_isWithin (vl : Launch) (D : va_G) (cI cM : ClassId) (A : Nat → Prop) (ad : Nat → Nat) (E : Nat → va_E) (hX : XD A 40 ad) (v lo hi : Int32)  : MF vl yX5_isWithin wsX5_isWithin { frames := 0, cells := 0, slots := 0, locals := 0 } D cI cM A 40 ad E [.int (v), .int (lo), .int (hi)] (iw v lo hi) := by
  refine mf_of cX5_isWithin 3 (.boolean) RX5 (by decide) rfl rfl (Nat.le_of_ble_eq_true rfl) (iw_nar _ _ _) ?_
  intro vp ve vs vm va vb vt vc Q C hend
  refine z_lv [(0, .int (v)), (1, .int (lo)), (2, .int (hi))] ⟨rfl, rfl, rfl, rfl, rfl, rfl, trivial⟩ ?_
  refine z_iload_n C dX5_isWithin_0 rfl ?_
  refine z_iload_n C dX5_isWithin_1 rfl ?_
  refine z_icmp_gt C 14 dX5_isWithin_2 (by decide) (fun h2 => ?_) (fun h2 => ?_)
  · refine z_iconst C (nI (0)) dX5_isWithin_14 (by decide) ?_
    exact hend _ _ _ dX5_isWithin_15 ((iw_n (fun q => absurd q.1 (Int32.not_le.mpr h2))).symm)
  · refine z_iload_n C dX5_isWithin_5 rfl ?_
    refine z_iload_n C dX5_isWithin_6 rfl ?_
    refine z_icmp_gt C 14 dX5_isWithin_7 (by decide) (fun h7 => ?_) (fun h7 => ?_)
    · refine z_iconst C (nI (0)) dX5_isWithin_14 (by decide) ?_
      exact hend _ _ _ dX5_isWithin_15 ((iw_n (fun q => absurd q.2 (Int32.not_le.mpr h7))).symm)
    · refine z_iconst C (nI (1)) dX5_isWithin_10 (by decide) ?_
      refine z_goto C 15 dX5_isWithin_11 (by decide) ?_
      exact hend _ _ _ dX5_isWithin_15 ((iw_y ⟨Int32.not_lt.mp h2, Int32.not_lt.mp h7⟩).symm)

set_option maxHeartbeats 4000000 in
set_option maxRecDepth 100000 in
theorem k_X6_in (vl : Launch) (D : va_G) (cI cM : ClassId) (A : Nat → Prop) (ad : Nat → Nat) (E : Nat → va_E) (hX : XD A 40 ad) (v lo hi : Int32)  : MF vl yX6_in wsX6_in { frames := 0, cells := 0, slots := 0, locals := 0 } D cI cM A 40 ad E [.int (v), .int (lo), .int (hi)] (iw v lo hi) := by
  refine mf_of cX6_in 3 (.boolean) RX6 (by decide) rfl rfl (Nat.le_of_ble_eq_true rfl) (iw_nar _ _ _) ?_
  intro vp ve vs vm va vb vt vc Q C hend
  refine z_lv [(0, .int (v)), (1, .int (lo)), (2, .int (hi))] ⟨rfl, rfl, rfl, rfl, rfl, rfl, trivial⟩ ?_
  refine z_iload_n C dX6_in_0 rfl ?_
  refine z_iload_n C dX6_in_1 rfl ?_
  refine z_icmp_lt C 14 dX6_in_2 (by decide) (fun h2 => ?_) (fun h2 => ?_)
  · refine z_iconst C (nI (0)) dX6_in_14 (by decide) ?_
    exact hend _ _ _ dX6_in_15 ((iw_n (fun q => absurd q.1 (Int32.not_le.mpr h2))).symm)
  · refine z_iload_n C dX6_in_5 rfl ?_
    refine z_iload_n C dX6_in_6 rfl ?_
    refine z_icmp_gt C 14 dX6_in_7 (by decide) (fun h7 => ?_) (fun h7 => ?_)
    · refine z_iconst C (nI (0)) dX6_in_14 (by decide) ?_
      exact hend _ _ _ dX6_in_15 ((iw_n (fun q => absurd q.2 (Int32.not_le.mpr h7))).symm)
    · refine z_iconst C (nI (1)) dX6_in_10 (by decide) ?_
      refine z_goto C 15 dX6_in_11 (by decide) ?_
      exact hend _ _ _ dX6_in_15 ((iw_y ⟨Int32.not_lt.mp h2, Int32.not_lt.mp h7⟩).symm)

set_option maxHeartbeats 4000000 in
set_option maxRecDepth 100000 in
theorem k_X5_isCharacter (vl : Launch) (D : va_G) (cI cM : ClassId) (A : Nat → Prop) (ad : Nat → Nat) (E : Nat → va_E) (hX : XD A 40 ad) (v : Int32)  : MF vl yX5_isCharacter wsX5_isCharacter { frames := 1, cells := 0, slots := 0, locals := 22 } D cI cM A 40 ad E [.int (v)] (iw v (nI 0) (nI 26)) := by
  refine mf_of cX5_isCharacter 1 (.boolean) RX5 (by decide) rfl rfl (Nat.le_of_ble_eq_true rfl) (iw_nar _ _ _) ?_
  intro vp ve vs vm va vb vt vc Q C hend
  refine z_lv [(0, .int (v))] ⟨rfl, rfl, trivial⟩ ?_
  refine z_iload_n C dX5_isCharacter_0 rfl ?_
  refine z_iconst C (nI (0)) dX5_isCharacter_1 (by decide) ?_
  refine z_bipush C (nI (26)) dX5_isCharacter_2 (by decide) ?_
  refine z_callSF C (k_X5_isWithin vl D cI cM A ad E hX (v) (nI (0)) (nI (26))) (va_cwS 3 C.2.2.2.2.1 gX5_isCharacter_X5_isWithin rfl rfl rfl (by decide +kernel) ⟨Nat.le_of_ble_eq_true rfl, Nat.le_of_ble_eq_true rfl⟩) rfl rfl (Nat.le_of_ble_eq_true rfl) ⟨Nat.zero_le _, Nat.zero_le _⟩ dX5_isCharacter_4 ?_
  exact hend _ _ _ dX5_isCharacter_7 (rfl)

set_option maxHeartbeats 4000000 in
set_option maxRecDepth 100000 in
theorem k_X5_isColor (vl : Launch) (D : va_G) (cI cM : ClassId) (A : Nat → Prop) (ad : Nat → Nat) (E : Nat → va_E) (hX : XD A 40 ad) (v : Int32)  : MF vl yX5_isColor wsX5_isColor { frames := 1, cells := 0, slots := 0, locals := 22 } D cI cM A 40 ad E [.int (v)] (iw v (nI 1) (nI 3)) := by
  refine mf_of cX5_isColor 1 (.boolean) RX5 (by decide) rfl rfl (Nat.le_of_ble_eq_true rfl) (iw_nar _ _ _) ?_
  intro vp ve vs vm va vb vt vc Q C hend
  refine z_lv [(0, .int (v))] ⟨rfl, rfl, trivial⟩ ?_
  refine z_iload_n C dX5_isColor_0 rfl ?_
  refine z_iconst C (nI (1)) dX5_isColor_1 (by decide) ?_
  refine z_iconst C (nI (3)) dX5_isColor_2 (by decide) ?_
  refine z_callSF C (k_X5_isWithin vl D cI cM A ad E hX (v) (nI (1)) (nI (3))) (va_cwS 3 C.2.2.2.2.1 gX5_isColor_X5_isWithin rfl rfl rfl (by decide +kernel) ⟨Nat.le_of_ble_eq_true rfl, Nat.le_of_ble_eq_true rfl⟩) rfl rfl (Nat.le_of_ble_eq_true rfl) ⟨Nat.zero_le _, Nat.zero_le _⟩ dX5_isColor_3 ?_
  exact hend _ _ _ dX5_isColor_6 (rfl)

set_option maxHeartbeats 4000000 in
set_option maxRecDepth 100000 in
theorem k_X5_isShift (vl : Launch) (D : va_G) (cI cM : ClassId) (A : Nat → Prop) (ad : Nat → Nat) (E : Nat → va_E) (hX : XD A 40 ad) (v : Int32)  : MF vl yX5_isShift wsX5_isShift { frames := 1, cells := 0, slots := 0, locals := 22 } D cI cM A 40 ad E [.int (v)] (iw v (-2) (nI 2)) := by
  refine mf_of cX5_isShift 1 (.boolean) RX5 (by decide) rfl rfl (Nat.le_of_ble_eq_true rfl) (iw_nar _ _ _) ?_
  intro vp ve vs vm va vb vt vc Q C hend
  refine z_lv [(0, .int (v))] ⟨rfl, rfl, trivial⟩ ?_
  refine z_iload_n C dX5_isShift_0 rfl ?_
  refine z_bipush C (-2) dX5_isShift_1 (by decide) ?_
  refine z_iconst C (nI (2)) dX5_isShift_3 (by decide) ?_
  refine z_callSF C (k_X5_isWithin vl D cI cM A ad E hX (v) (-2) (nI (2))) (va_cwS 3 C.2.2.2.2.1 gX5_isShift_X5_isWithin rfl rfl rfl (by decide +kernel) ⟨Nat.le_of_ble_eq_true rfl, Nat.le_of_ble_eq_true rfl⟩) rfl rfl (Nat.le_of_ble_eq_true rfl) ⟨Nat.zero_le _, Nat.zero_le _⟩ dX5_isShift_4 ?_
  exact hend _ _ _ dX5_isShift_7 (rfl)

theorem iw_X0_widthOf_0 : ∀ w ∈ wsX00, w ∈ wsX0_widthOf := by decide +kernel
theorem ln_X0_widthOf_9 : Cond.fieldLink RX0 9 "MarqueeDisplay$Font" "widths" "[I" ∈ wsX0_widthOf := by decide +kernel
set_option maxHeartbeats 4000000 in
set_option maxRecDepth 100000 in
theorem k_X0_widthOf (vl : Launch) (D : va_G) (cI cM : ClassId) (A : Nat → Prop) (ad : Nat → Nat) (E : Nat → va_E) (hX : XD A 40 ad) {wd : Nat → Nat} {c : Nat} (e1 : E (1) = .inr (0, [.ref (ad 2), .ref (ad 3)])) (e2 : E (2) = aI cI 27 wd) (hc : c < 27) : MF vl yX0_widthOf wsX0_widthOf { frames := 0, cells := 0, slots := 0, locals := 0 } D cI cM A 40 ad E [.ref (ad 1), .int (nI (c))] (nI (wd c)) := by
  refine mf_of cX0_widthOf 2 (.int) RX0 (by decide) rfl rfl (Nat.le_of_ble_eq_true rfl) (rfl) ?_
  intro vp ve vs vm va vb vt vc Q C hend
  refine z_lv [(0, .ref (ad 1)), (1, .int (nI (c)))] ⟨rfl, rfl, rfl, rfl, trivial⟩ ?_
  refine z_iload_n C dX0_widthOf_0 rfl ?_
  refine z_if_ltN C 22 (by omega) dX0_widthOf_1 (by decide) ?_
  refine z_iload_n C dX0_widthOf_4 rfl ?_
  refine z_aload_n C dX0_widthOf_5 rfl ?_
  refine z_get C (1) (Cn := RX0) (T := TX0) (N := 2) (fi := 0) iw_X0_widthOf_0 rfl (by decide) ln_X0_widthOf_9 (by first | decide | omega) rfl e1 rfl dX0_widthOf_6 ?_
  refine z_alenG C (2) (by first | decide | omega) rfl e2 dX0_widthOf_9 ?_
  refine z_icmp_geN C 22 (by omega) (by omega) dX0_widthOf_10 (by decide) (fun h10 => (by exfalso; omega)) (fun h10 => ?_)
  refine z_aload_n C dX0_widthOf_13 rfl ?_
  refine z_get C (1) (Cn := RX0) (T := TX0) (N := 2) (fi := 0) iw_X0_widthOf_0 rfl (by decide) ln_X0_widthOf_9 (by first | decide | omega) rfl e1 rfl dX0_widthOf_14 ?_
  refine z_iload_n C dX0_widthOf_17 rfl ?_
  refine z_ialdG C (2) (by first | decide | omega) rfl e2 (by omega) (by decide) dX0_widthOf_18 ?_
  refine z_goto C 23 dX0_widthOf_19 (by decide) ?_
  exact hend _ _ _ dX0_widthOf_23 (rfl)

set_option maxHeartbeats 4000000 in
set_option maxRecDepth 100000 in
theorem k_X0_hasColumn (vl : Launch) (D : va_G) (cI cM : ClassId) (A : Nat → Prop) (ad : Nat → Nat) (E : Nat → va_E) (hX : XD A 40 ad) {wd : Nat → Nat} {c : Nat} (x : Int32) (e1 : E (1) = .inr (0, [.ref (ad 2), .ref (ad 3)])) (e2 : E (2) = aI cI 27 wd) (hc : c < 27) (hw : 1 ≤ wd c) : MF vl yX0_hasColumn wsX0_hasColumn { frames := 1, cells := 0, slots := 0, locals := 22 } D cI cM A 40 ad E [.ref (ad 1), .int (nI (c)), .int (x)] (iw x (nI 0) (nI (wd c - 1))) := by
  refine mf_of cX0_hasColumn 3 (.boolean) RX0 (by decide) rfl rfl (Nat.le_of_ble_eq_true rfl) (iw_nar _ _ _) ?_
  intro vp ve vs vm va vb vt vc Q C hend
  refine z_lv [(0, .ref (ad 1)), (1, .int (nI (c))), (2, .int (x))] ⟨rfl, rfl, rfl, rfl, rfl, rfl, trivial⟩ ?_
  refine z_iload_n C dX0_hasColumn_0 rfl ?_
  refine z_iconst C (nI (0)) dX0_hasColumn_1 (by decide) ?_
  refine z_aload_n C dX0_hasColumn_2 rfl ?_
  refine z_iload_n C dX0_hasColumn_3 rfl ?_
  refine z_callVF C (1) (Cn := RX0) (T := TX0) (N := 2) (k_X0_widthOf vl D cI cM A ad E hX e1 e2 hc) (cwV 1 C.2.2.2.2.1 gX0_hasColumn_X0_widthOf rfl rfl rfl (by decide +kernel) ⟨Nat.le_of_ble_eq_true rfl, Nat.le_of_ble_eq_true rfl⟩) rfl (by first | decide | omega) rfl e1 rfl rfl (Nat.le_of_ble_eq_true rfl) ⟨Nat.zero_le _, Nat.zero_le _⟩ dX0_hasColumn_4 ?_
  refine z_iconst C (nI (1)) dX0_hasColumn_7 (by decide) ?_
  refine z_isubN C (by omega) dX0_hasColumn_8 ?_
  refine z_callSNF C (host := "MarqueeDisplay") (k_X5_isWithin vl D cI cM A ad E hX (x) (nI (0)) (nI ((wd c) - 1))) ⟨va_cnB (host := "MarqueeDisplay") 3 C.2.2.2.2.1 gX0_hasColumn_X5_isWithin_n22 rfl rfl rfl (C.2.2.2.2.2.2.1 _ (by decide +kernel)) (C.2.2.2.2.1 _ (by decide +kernel)) (by decide +kernel) ⟨Nat.le_of_ble_eq_true rfl, Nat.le_of_ble_eq_true rfl⟩, C.2.2.2.2.1 _ (by decide +kernel), trivial⟩ rfl rfl (Nat.le_of_ble_eq_true rfl) ⟨Nat.zero_le _, Nat.zero_le _⟩ dX0_hasColumn_9 ?_
  exact hend _ _ _ dX0_hasColumn_12 (rfl)

theorem iw_X0_dotsOf_0 : ∀ w ∈ wsX00, w ∈ wsX0_dotsOf := by decide +kernel
theorem ln_X0_dotsOf_15 : Cond.fieldLink RX0 15 "MarqueeDisplay$Font" "dots" "[I" ∈ wsX0_dotsOf := by decide +kernel
set_option maxHeartbeats 4000000 in
set_option maxRecDepth 100000 in
theorem k_X0_dotsOf (vl : Launch) (D : va_G) (cI cM : ClassId) (A : Nat → Prop) (ad : Nat → Nat) (E : Nat → va_E) (hX : XD A 40 ad) {dt : Nat → Nat} {c j : Nat} (e1 : E (1) = .inr (0, [.ref (ad 2), .ref (ad 3)])) (e3 : E (3) = aI cI 162 dt) (hc : c < 27) (hj : j < 6) : MF vl yX0_dotsOf wsX0_dotsOf { frames := 0, cells := 0, slots := 0, locals := 0 } D cI cM A 40 ad E [.ref (ad 1), .int (nI (c)), .int (nI (j))] (nI (dt (c * 6 + j))) := by
  refine mf_of cX0_dotsOf 3 (.int) RX0 (by decide) rfl rfl (Nat.le_of_ble_eq_true rfl) (rfl) ?_
  intro vp ve vs vm va vb vt vc Q C hend
  refine z_lv [(0, .ref (ad 1)), (1, .int (nI (c))), (2, .int (nI (j)))] ⟨rfl, rfl, rfl, rfl, rfl, rfl, trivial⟩ ?_
  refine z_iload_n C dX0_dotsOf_0 rfl ?_
  refine z_if_ltN C 20 (by omega) dX0_dotsOf_1 (by decide) ?_
  refine z_iload_n C dX0_dotsOf_4 rfl ?_
  refine z_bipush C (nI (27)) dX0_dotsOf_5 (by decide) ?_
  refine z_icmp_geN C 20 (by omega) (by omega) dX0_dotsOf_7 (by decide) (fun h7 => (by exfalso; omega)) (fun h7 => ?_)
  refine z_iload_n C dX0_dotsOf_10 rfl ?_
  refine z_if_ltN C 20 (by omega) dX0_dotsOf_11 (by decide) ?_
  refine z_iload_n C dX0_dotsOf_14 rfl ?_
  refine z_bipush C (nI (6)) dX0_dotsOf_15 (by decide) ?_
  refine z_icmp_ltN C 22 (by omega) (by omega) dX0_dotsOf_17 (by decide) (fun h17 => ?_) (fun h17 => (by exfalso; omega))
  refine z_aload_n C dX0_dotsOf_22 rfl ?_
  refine z_get C (1) (Cn := RX0) (T := TX0) (N := 2) (fi := 1) iw_X0_dotsOf_0 rfl (by decide) ln_X0_dotsOf_15 (by first | decide | omega) rfl e1 rfl dX0_dotsOf_23 ?_
  refine z_iload_n C dX0_dotsOf_26 rfl ?_
  refine z_bipush C (nI (6)) dX0_dotsOf_27 (by decide) ?_
  refine z_imulN C  dX0_dotsOf_29 ?_
  refine z_iload_n C dX0_dotsOf_30 rfl ?_
  refine z_iaddN C  dX0_dotsOf_31 ?_
  refine z_ialdG C (3) (by first | decide | omega) rfl e3 (by omega) (by decide) dX0_dotsOf_32 ?_
  exact hend _ _ _ dX0_dotsOf_33 (rfl)

theorem iw_X0_draw_0 : ∀ w ∈ wsX00, w ∈ wsX0_draw := by decide +kernel
theorem ln_X0_draw_15 : Cond.fieldLink RX0 15 "MarqueeDisplay$Font" "dots" "[I" ∈ wsX0_draw := by decide +kernel
set_option maxHeartbeats 4000000 in
set_option maxRecDepth 100000 in
theorem k_X0_draw (vl : Launch) (D : va_G) (cI cM : ClassId) (A : Nat → Prop) (ad : Nat → Nat) (E : Nat → va_E) (hX : XD A 40 ad) {wd dt : Nat → Nat} {c j b : Nat} (e1 : E (1) = .inr (0, [.ref (ad 2), .ref (ad 3)])) (e2 : E (2) = aI cI 27 wd) (e3 : E (3) = aI cI 162 dt) (hc : c < 27) (hj : j < wd c) (hw : wd c ≤ 6) : MV vl yX0_draw wsX0_draw { frames := 2, cells := 0, slots := 0, locals := 44 } D cI cM A 40 ad E [.ref (ad 1), .int (nI (c)), .int (nI (j)), .int (nI (b))] (fun E1 => E1 3 = aI cI 162 (va_up dt (c * 6 + j) b) ∧ ∀ k : Nat, k ≠ 3 → E1 k = E k) := by
  refine mv_of cX0_draw 4 RX0 (by decide) rfl rfl (Nat.le_of_ble_eq_true rfl) ?_
  intro vp ve vs vm va vb vt vc Q C hend
  refine z_lv [(0, .ref (ad 1)), (1, .int (nI (c))), (2, .int (nI (j))), (3, .int (nI (b)))] ⟨rfl, rfl, rfl, rfl, rfl, rfl, rfl, rfl, trivial⟩ ?_
  refine z_aload_n C dX0_draw_0 rfl ?_
  refine z_iload_n C dX0_draw_1 rfl ?_
  refine z_iload_n C dX0_draw_2 rfl ?_
  refine z_callVF C (1) (Cn := RX0) (T := TX0) (N := 2) (k_X0_hasColumn vl D cI cM A ad E hX (nI j) e1 e2 hc (by omega)) (cwV 2 C.2.2.2.2.1 gX0_draw_X0_hasColumn rfl rfl rfl (by decide +kernel) ⟨Nat.le_of_ble_eq_true rfl, Nat.le_of_ble_eq_true rfl⟩) rfl (by first | decide | omega) rfl e1 rfl rfl (Nat.le_of_ble_eq_true rfl) ⟨Nat.zero_le _, Nat.zero_le _⟩ dX0_draw_3 ?_
  refine z_top (nI (1)) (iw_yN ⟨Nat.zero_le _, by omega⟩ (by omega)) ?_
  refine z_if_eqN C 21 (by omega) dX0_draw_6 (by decide) (fun h6 => (by exfalso; omega)) (fun h6 => ?_)
  refine z_aload_n C dX0_draw_9 rfl ?_
  refine z_get C (1) (Cn := RX0) (T := TX0) (N := 2) (fi := 1) iw_X0_draw_0 rfl (by decide) ln_X0_draw_15 (by first | decide | omega) rfl e1 rfl dX0_draw_10 ?_
  refine z_iload_n C dX0_draw_13 rfl ?_
  refine z_bipush C (nI (6)) dX0_draw_14 (by decide) ?_
  refine z_imulN C  dX0_draw_16 ?_
  refine z_iload_n C dX0_draw_17 rfl ?_
  refine z_iaddN C  dX0_draw_18 ?_
  refine z_iload_n C dX0_draw_19 rfl ?_
  refine z_iastG C (3) hX (by first | decide | omega) rfl e3 (by omega) (by decide) dX0_draw_20 (fun Ez2 hE1 => ?_)
  have f3 : Ez2 (1) = .inr (0, [.ref (ad 2), .ref (ad 3)]) := va_up_of hE1 (by first | decide | omega) e1
  have f4 : Ez2 (2) = aI cI 27 wd := va_up_of hE1 (by first | decide | omega) e2
  have f6 : Ez2 (3) = aI cI 162 (va_up dt ((c * 6) + j) (b)) := va_up_eq hE1
  have g7 : ∀ k : Nat, (k ≠ 3) → Ez2 k = E k := fun k hk => va_up_of hE1 (by omega) ((fun _ _ => rfl) k hk)
  exact hend _ _ _ dX0_draw_21 (⟨f6, g7⟩)

def clr (g : Nat → Nat) (a b : Nat) : Nat → Nat := fun i => if a ≤ i ∧ i < b then 0 else g i
theorem clr_0 (g : Nat → Nat) (a : Nat) : clr g a a = g := by funext i; unfold clr; rw [if_neg (by omega)]
theorem clr_s {g : Nat → Nat} {a b : Nat} (h : a ≤ b) : va_up (clr g a b) b 0 = clr g a (b + 1) := by
  funext i
  unfold clr va_up
  by_cases hi : i = b
  · subst hi; rw [if_pos rfl, if_pos ⟨h, Nat.lt_succ_self _⟩]
  · rw [if_neg hi]
    show (if a ≤ i ∧ i < b then 0 else g i) = if a ≤ i ∧ i < b + 1 then 0 else g i
    by_cases h2 : a ≤ i ∧ i < b
    · rw [if_pos h2, if_pos ⟨h2.1, by omega⟩]
    · rw [if_neg h2, if_neg (by omega)]
theorem iw_X0_resize_0 : ∀ w ∈ wsX00, w ∈ wsX0_resize := by decide +kernel
theorem ln_X0_resize_9 : Cond.fieldLink RX0 9 "MarqueeDisplay$Font" "widths" "[I" ∈ wsX0_resize := by decide +kernel
theorem ln_X0_resize_15 : Cond.fieldLink RX0 15 "MarqueeDisplay$Font" "dots" "[I" ∈ wsX0_resize := by decide +kernel
set_option maxHeartbeats 4000000 in
set_option maxRecDepth 100000 in
theorem k_X0_resize (vl : Launch) (D : va_G) (cI cM : ClassId) (A : Nat → Prop) (ad : Nat → Nat) (E : Nat → va_E) (hX : XD A 40 ad) {wd dt : Nat → Nat} {c w : Nat} (e1 : E (1) = .inr (0, [.ref (ad 2), .ref (ad 3)])) (e2 : E (2) = aI cI 27 wd) (e3 : E (3) = aI cI 162 dt) (hc : c < 27) (hw : 1 ≤ w ∧ w ≤ 6) : MV vl yX0_resize wsX0_resize { frames := 2, cells := 0, slots := 0, locals := 42 } D cI cM A 40 ad E [.ref (ad 1), .int (nI (c)), .int (nI (w))] (fun E1 => E1 2 = aI cI 27 (va_up wd c w) ∧ E1 3 = aI cI 162 (clr dt (c * 6 + w) (c * 6 + 6)) ∧ ∀ k : Nat, k ≠ 2 ∧ k ≠ 3 → E1 k = E k) := by
  refine mv_of cX0_resize 4 RX0 (by decide) rfl rfl (Nat.le_of_ble_eq_true rfl) ?_
  intro vp ve vs vm va vb vt vc Q C hend
  refine z_lv [(0, .ref (ad 1)), (1, .int (nI (c))), (2, .int (nI (w)))] ⟨rfl, rfl, rfl, rfl, rfl, rfl, trivial⟩ ?_
  refine z_iload_n C dX0_resize_0 rfl ?_
  refine z_callSNF C (host := "MarqueeDisplay") (k_X5_isCharacter vl D cI cM A ad E hX (nI (c))) ⟨va_cnB (host := "MarqueeDisplay") 1 C.2.2.2.2.1 gX0_resize_X5_isCharacter_n30 rfl rfl rfl (C.2.2.2.2.2.2.1 _ (by decide +kernel)) (C.2.2.2.2.1 _ (by decide +kernel)) (by decide +kernel) ⟨Nat.le_of_ble_eq_true rfl, Nat.le_of_ble_eq_true rfl⟩, C.2.2.2.2.1 _ (by decide +kernel), trivial⟩ rfl rfl (Nat.le_of_ble_eq_true rfl) ⟨Nat.zero_le _, Nat.zero_le _⟩ dX0_resize_1 ?_
  refine z_top (nI (1)) (iw_yN ⟨Nat.zero_le _, by omega⟩ (by decide)) ?_
  refine z_if_eqN C 17 (by omega) dX0_resize_4 (by decide) (fun h4 => (by exfalso; omega)) (fun h4 => ?_)
  refine z_iload_n C dX0_resize_7 rfl ?_
  refine z_iconst C (nI (1)) dX0_resize_8 (by decide) ?_
  refine z_bipush C (nI (6)) dX0_resize_9 (by decide) ?_
  refine z_callSNF C (host := "MarqueeDisplay") (k_X5_isWithin vl D cI cM A ad E hX (nI (w)) (nI (1)) (nI (6))) ⟨va_cnB (host := "MarqueeDisplay") 3 C.2.2.2.2.1 gX0_resize_X5_isWithin_n22 rfl rfl rfl (C.2.2.2.2.2.2.1 _ (by decide +kernel)) (C.2.2.2.2.1 _ (by decide +kernel)) (by decide +kernel) ⟨Nat.le_of_ble_eq_true rfl, Nat.le_of_ble_eq_true rfl⟩, C.2.2.2.2.1 _ (by decide +kernel), trivial⟩ rfl rfl (Nat.le_of_ble_eq_true rfl) ⟨Nat.zero_le _, Nat.zero_le _⟩ dX0_resize_11 ?_
  refine z_top (nI (1)) (iw_yN hw (by decide)) ?_
  refine z_if_neN C 18 (by omega) dX0_resize_14 (by decide) (fun h14 => ?_) (fun h14 => (by exfalso; omega))
  refine z_iload_n C dX0_resize_18 rfl ?_
  refine z_istore_n C [(0, .ref (ad 1)), (1, .int (nI (c))), (2, .int (nI (w))), (3, .int (nI (w)))] dX0_resize_19 (by decide) ⟨rfl, rfl, rfl, rfl, rfl, rfl, rfl, rfl, trivial⟩ ?_
  have loop20 : ∀ (fuel : Nat) (i : Nat) (E2 : Nat → va_E), (hi : w ≤ i ∧ i ≤ 6) → (q1 : E2 (1) = .inr (0, [.ref (ad 2), .ref (ad 3)])) → (q2 : E2 (2) = aI cI 27 wd) → (q3 : E2 (3) = aI cI 162 (clr dt (c * 6 + w) (c * 6 + i))) → (qf : ∀ k : Nat, k ≠ 2 ∧ k ≠ 3 → E2 k = E k) → 6 - i < fuel → Z vp vl ve { frames := 2, cells := 0, slots := 0, locals := 42 } vs vm va vb vt vc 4 D A 40 ad E2 [(0, .ref (ad 1)), (1, .int (nI (c))), (2, .int (nI (w))), (3, .int (nI (i)))] 0 0 Q 20 [] := by
    intro fuel
    induction fuel with
    | zero => intro i E2 hi q1 q2 q3 qf hlt; exact absurd hlt (Nat.not_lt_zero _)
    | succ fuel ih =>
      intro i E2 hi q1 q2 q3 qf hlt
      have ih20 := ih
      refine z_iload_n C dX0_resize_20 rfl ?_
      refine z_bipush C (nI (6)) dX0_resize_21 (by decide) ?_
      refine z_icmp_geN C 44 (by omega) (by omega) dX0_resize_23 (by decide) (fun h23 => ?_) (fun h23 => ?_)
      · have hi6 : i = 6 := by omega
        refine z_aload_n C dX0_resize_44 rfl ?_
        refine z_get C (1) (Cn := RX0) (T := TX0) (N := 2) (fi := 0) iw_X0_resize_0 rfl (by decide) ln_X0_resize_9 (by first | decide | omega) rfl q1 rfl dX0_resize_45 ?_
        refine z_iload_n C dX0_resize_48 rfl ?_
        refine z_iload_n C dX0_resize_49 rfl ?_
        refine z_iastG C (2) hX (by first | decide | omega) rfl q2 (by omega) (by decide) dX0_resize_50 (fun Ez2 hE1 => ?_)
        have f3 : Ez2 (1) = .inr (0, [.ref (ad 2), .ref (ad 3)]) := va_up_of hE1 (by first | decide | omega) q1
        have f5 : Ez2 (3) = aI cI 162 (clr dt (c * 6 + w) (c * 6 + i)) := va_up_of hE1 (by first | decide | omega) q3
        have f6 : Ez2 (2) = aI cI 27 (va_up wd (c) (w)) := va_up_eq hE1
        have g7 : ∀ k : Nat, (k ≠ 2 ∧ k ≠ 3) → Ez2 k = E k := fun k hk => va_up_of hE1 (by omega) (qf k hk)
        exact hend _ _ _ dX0_resize_51 (⟨f6, f5.trans (by rw [hi6]), g7⟩)
      · refine z_aload_n C dX0_resize_26 rfl ?_
        refine z_get C (1) (Cn := RX0) (T := TX0) (N := 2) (fi := 1) iw_X0_resize_0 rfl (by decide) ln_X0_resize_15 (by first | decide | omega) rfl q1 rfl dX0_resize_27 ?_
        refine z_iload_n C dX0_resize_30 rfl ?_
        refine z_bipush C (nI (6)) dX0_resize_31 (by decide) ?_
        refine z_imulN C  dX0_resize_33 ?_
        refine z_iload_n C dX0_resize_34 rfl ?_
        refine z_iaddN C  dX0_resize_35 ?_
        refine z_iconst C (nI (0)) dX0_resize_36 (by decide) ?_
        refine z_iastG C (3) hX (by first | decide | omega) rfl q3 (by omega) (by decide) dX0_resize_37 (fun Ez9 hE8 => ?_)
        have f10 : Ez9 (1) = .inr (0, [.ref (ad 2), .ref (ad 3)]) := va_up_of hE8 (by first | decide | omega) q1
        have f11 : Ez9 (2) = aI cI 27 wd := va_up_of hE8 (by first | decide | omega) q2
        have f13 : Ez9 (3) = aI cI 162 (va_up (clr dt (c * 6 + w) (c * 6 + i)) ((c * 6) + i) (0)) := va_up_eq hE8
        have g14 : ∀ k : Nat, (k ≠ 2 ∧ k ≠ 3) → Ez9 k = E k := fun k hk => va_up_of hE8 (by omega) (qf k hk)
        refine z_iincN (j := 1) C [(0, .ref (ad 1)), (1, .int (nI (c))), (2, .int (nI (w))), (3, .int (nI (i + 1)))] dX0_resize_38 rfl (by decide) ⟨rfl, rfl, rfl, rfl, rfl, rfl, rfl, rfl, trivial⟩ ?_
        refine z_goto C 20 dX0_resize_41 (by decide) ?_
        refine z_lv [(0, .ref (ad 1)), (1, .int (nI (c))), (2, .int (nI (w))), (3, .int (nI (i + 1)))] ⟨rfl, rfl, rfl, rfl, rfl, rfl, rfl, rfl, trivial⟩ ?_
        exact ih20 (i + 1) Ez9 (by omega) f10 f11 (f13.trans (by rw [clr_s (by omega)]; rfl)) g14 (by omega)
  refine z_lv [(0, .ref (ad 1)), (1, .int (nI (c))), (2, .int (nI (w))), (3, .int (nI (w)))] ⟨rfl, rfl, rfl, rfl, rfl, rfl, rfl, rfl, trivial⟩ ?_
  exact loop20 (7) w E ⟨Nat.le_refl _, hw.2⟩ e1 e2 (e3.trans (by rw [clr_0])) (fun _ _ => rfl) (by omega)
end
section
def SP (sd sc : Nat → Nat) (l : List (Nat × Nat)) : Prop := ∀ i, i < l.length → (sd i, sc i) = l.getD i (0, 0)
theorem SP_add {sd sc : Nat → Nat} {l : List (Nat × Nat)} {d c : Nat} (h : SP sd sc l) : SP (va_up sd l.length d) (va_up sc l.length c) (l ++ [(d, c)]) := by
  intro i hi
  rw [List.length_append, List.length_singleton] at hi
  by_cases e : i = l.length
  · subst e
    rw [va_up_self, va_up_self]
    simp [List.getD_eq_getElem?_getD]
  · rw [va_up_ne _ _ e, va_up_ne _ _ e, h i (by omega)]
    rw [List.getD_eq_getElem?_getD, List.getD_eq_getElem?_getD, List.getElem?_append_left (by omega)]
theorem SP_nil {sd sc : Nat → Nat} : SP sd sc [] := fun i hi => absurd hi (Nat.not_lt_zero _)
theorem SP_d {sd sc : Nat → Nat} {l : List (Nat × Nat)} (h : SP sd sc l) {i : Nat} (hi : i < l.length) : sd i = (l.getD i (0, 0)).1 := congrArg Prod.fst (h i hi)
theorem SP_c {sd sc : Nat → Nat} {l : List (Nat × Nat)} (h : SP sd sc l) {i : Nat} (hi : i < l.length) : sc i = (l.getD i (0, 0)).2 := congrArg Prod.snd (h i hi)
def glyph (wd dt : Nat → Nat) (c co : Nat) : List (Nat × Nat) := (List.range (wd c)).map (fun j => (dt (c * 6 + j), co))
def glyphP (dt : Nat → Nat) (c co : Nat) (m : Nat) : List (Nat × Nat) := (List.range m).map (fun j => (dt (c * 6 + j), co))
theorem glyphP_s (dt : Nat → Nat) (c co m : Nat) : glyphP dt c co (m + 1) = glyphP dt c co m ++ [(dt (c * 6 + m), co)] := by
  unfold glyphP; rw [List.range_succ, List.map_append]; rfl
theorem glyph_len (wd dt : Nat → Nat) (c co : Nat) : (glyph wd dt c co).length = wd c := by simp [glyph]
theorem glyphP_len (dt : Nat → Nat) (c co m : Nat) : (glyphP dt c co m).length = m := by simp [glyphP]
def dk (m : Nat) : List (Nat × Nat) := List.replicate m (0, 0)
theorem dk_s (m : Nat) : dk (m + 1) = dk m ++ [(0, 0)] := by unfold dk; exact List.replicate_succ'
theorem dk_len (m : Nat) : (dk m).length = m := by simp [dk]
def mcols (wd dt : Nat → Nat) (co : Nat) (le : Nat → Nat) : Nat → List (Nat × Nat)
  | 0 => []
  | k + 1 => mcols wd dt co le k ++ dk (if k = 0 then 0 else 1) ++ glyph wd dt (le k) co
def mW (wd : Nat → Nat) (le : Nat → Nat) : Nat → Nat
  | 0 => 0
  | k + 1 => mW wd le k + (if k = 0 then 0 else 1) + wd (le k)
theorem mcols_len (wd dt : Nat → Nat) (co : Nat) (le : Nat → Nat) : ∀ k, (mcols wd dt co le k).length = mW wd le k
  | 0 => rfl
  | k + 1 => by rw [mcols, List.length_append, List.length_append, mcols_len wd dt co le k, dk_len, glyph_len, mW]
theorem mW_le {wd le : Nat → Nat} (hw : ∀ c, c < 27 → wd c ≤ 6) : ∀ k, (∀ i, i < k → le i < 27) → mW wd le k + (if k = 0 then 0 else 1) ≤ 7 * k
  | 0, _ => Nat.le_refl _
  | k + 1, h => by
    have h1 := mW_le (le := le) hw k (fun i hi => h i (by omega))
    have h2 := hw _ (h k (by omega))
    rw [mW, if_neg (Nat.succ_ne_zero k)]
    omega
def scols (wd dt : Nat → Nat) (G : Nat) (sz co : Nat → Nat) (le : Nat → Nat → Nat) : Nat → List (Nat × Nat)
  | 0 => []
  | i + 1 => scols wd dt G sz co le i ++ mcols wd dt (co i) (le i) (sz i) ++ dk G
def sL (wd : Nat → Nat) (G : Nat) (sz : Nat → Nat) (le : Nat → Nat → Nat) : Nat → Nat
  | 0 => 0
  | i + 1 => sL wd G sz le i + mW wd (le i) (sz i) + G
theorem scols_len (wd dt : Nat → Nat) (G : Nat) (sz co : Nat → Nat) (le : Nat → Nat → Nat) : ∀ i, (scols wd dt G sz co le i).length = sL wd G sz le i
  | 0 => rfl
  | i + 1 => by rw [scols, List.length_append, List.length_append, scols_len wd dt G sz co le i, mcols_len, dk_len, sL]
theorem sL_le {wd : Nat → Nat} {G : Nat} {sz : Nat → Nat} {le : Nat → Nat → Nat} (hw : ∀ c, c < 27 → wd c ≤ 6) (hG : G ≤ 9) : ∀ n, (∀ i, i < n → sz i ≤ 12 ∧ ∀ k, k < sz i → le i k < 27) → sL wd G sz le n ≤ 92 * n
  | 0, _ => Nat.le_refl _
  | n + 1, h => by
    have h1 := sL_le (sz := sz) (le := le) hw hG n (fun i hi => h i (by omega))
    have h2 := mW_le (le := le n) hw (sz n) (h n (by omega)).2
    have h3 := (h n (by omega)).1
    rw [sL]
    have h4 : mW wd (le n) (sz n) ≤ 83 := by
      by_cases e : sz n = 0
      · rw [e] at h2 ⊢; simp at h2; omega
      · rw [if_neg e] at h2; omega
    omega
theorem sL_mono (wd : Nat → Nat) (G : Nat) (sz : Nat → Nat) (le : Nat → Nat → Nat) {i n : Nat} (h : i ≤ n) : sL wd G sz le i ≤ sL wd G sz le n := by
  induction h with
  | refl => exact Nat.le_refl _
  | step _ ih => rw [sL]; omega
def StripAt (cI : ClassId) (ad : Nat → Nat) (E : Nat → va_E) (l : List (Nat × Nat)) : Prop := ∃ sd sc : Nat → Nat, E 26 = .inr (3, [.ref (ad 27), .ref (ad 28), .int (nI l.length)]) ∧ E 27 = aI cI 552 sd ∧ E 28 = aI cI 552 sc ∧ SP sd sc l
theorem StripAt.mv {cI : ClassId} {ad : Nat → Nat} {E E1 : Nat → va_E} {l : List (Nat × Nat)} (h : StripAt cI ad E l) (h6 : E1 26 = E 26) (h7 : E1 27 = E 27) (h8 : E1 28 = E 28) : StripAt cI ad E1 l := by
  obtain ⟨sd, sc, a, b, c, d⟩ := h
  exact ⟨sd, sc, h6.trans a, h7.trans b, h8.trans c, d⟩
theorem iw_X3_addColumn_3 : ∀ w ∈ wsX30, w ∈ wsX3_addColumn := by decide +kernel
theorem ln_X3_addColumn_18 : Cond.fieldLink RX3 18 "MarqueeDisplay$Strip" "length" "I" ∈ wsX3_addColumn := by decide +kernel
theorem ln_X3_addColumn_9 : Cond.fieldLink RX3 9 "MarqueeDisplay$Strip" "dots" "[I" ∈ wsX3_addColumn := by decide +kernel
theorem ln_X3_addColumn_15 : Cond.fieldLink RX3 15 "MarqueeDisplay$Strip" "colors" "[I" ∈ wsX3_addColumn := by decide +kernel
set_option maxHeartbeats 4000000 in
set_option maxRecDepth 100000 in
theorem k_X3_addColumn (vl : Launch) (D : va_G) (cI cM : ClassId) (A : Nat → Prop) (ad : Nat → Nat) (E : Nat → va_E) (hX : XD A 40 ad) {l : List (Nat × Nat)} {d co : Nat} (hs : StripAt cI ad E l) (hl : l.length < 552) : MV vl yX3_addColumn wsX3_addColumn { frames := 0, cells := 0, slots := 0, locals := 0 } D cI cM A 40 ad E [.ref (ad 26), .int (nI (d)), .int (nI (co))] (fun E1 => StripAt cI ad E1 (l ++ [(d, co)]) ∧ ∀ k : Nat, (k < 26 ∨ 28 < k) → E1 k = E k) := by
  refine mv_of cX3_addColumn 3 RX3 (by decide) rfl rfl (Nat.le_of_ble_eq_true rfl) ?_
  intro vp ve vs vm va vb vt vc Q C hend
  refine z_lv [(0, .ref (ad 26)), (1, .int (nI (d))), (2, .int (nI (co)))] ⟨rfl, rfl, rfl, rfl, rfl, rfl, trivial⟩ ?_
  obtain ⟨sd, sc, s26, s27, s28, hsp⟩ := hs
  refine z_aload_n C dX3_addColumn_0 rfl ?_
  refine z_get C (26) (Cn := RX3) (T := TX3) (N := 3) (fi := 2) iw_X3_addColumn_3 rfl (by decide) ln_X3_addColumn_18 (by first | decide | omega) rfl s26 rfl dX3_addColumn_1 ?_
  refine z_aload_n C dX3_addColumn_4 rfl ?_
  refine z_get C (26) (Cn := RX3) (T := TX3) (N := 3) (fi := 0) iw_X3_addColumn_3 rfl (by decide) ln_X3_addColumn_9 (by first | decide | omega) rfl s26 rfl dX3_addColumn_5 ?_
  refine z_alenG C (27) (by first | decide | omega) rfl s27 dX3_addColumn_8 ?_
  refine z_icmp_geN C 54 (by omega) (by omega) dX3_addColumn_9 (by decide) (fun h9 => (by exfalso; omega)) (fun h9 => ?_)
  refine z_aload_n C dX3_addColumn_12 rfl ?_
  refine z_get C (26) (Cn := RX3) (T := TX3) (N := 3) (fi := 2) iw_X3_addColumn_3 rfl (by decide) ln_X3_addColumn_18 (by first | decide | omega) rfl s26 rfl dX3_addColumn_13 ?_
  refine z_aload_n C dX3_addColumn_16 rfl ?_
  refine z_get C (26) (Cn := RX3) (T := TX3) (N := 3) (fi := 1) iw_X3_addColumn_3 rfl (by decide) ln_X3_addColumn_15 (by first | decide | omega) rfl s26 rfl dX3_addColumn_17 ?_
  refine z_alenG C (28) (by first | decide | omega) rfl s28 dX3_addColumn_20 ?_
  refine z_icmp_geN C 54 (by omega) (by omega) dX3_addColumn_21 (by decide) (fun h21 => (by exfalso; omega)) (fun h21 => ?_)
  refine z_aload_n C dX3_addColumn_24 rfl ?_
  refine z_get C (26) (Cn := RX3) (T := TX3) (N := 3) (fi := 0) iw_X3_addColumn_3 rfl (by decide) ln_X3_addColumn_9 (by first | decide | omega) rfl s26 rfl dX3_addColumn_25 ?_
  refine z_aload_n C dX3_addColumn_28 rfl ?_
  refine z_get C (26) (Cn := RX3) (T := TX3) (N := 3) (fi := 2) iw_X3_addColumn_3 rfl (by decide) ln_X3_addColumn_18 (by first | decide | omega) rfl s26 rfl dX3_addColumn_29 ?_
  refine z_iload_n C dX3_addColumn_32 rfl ?_
  refine z_iastG C (27) hX (by first | decide | omega) rfl s27 (by omega) (by decide) dX3_addColumn_33 (fun Ez2 hE1 => ?_)
  have f3 : Ez2 (26) = .inr (3, [.ref (ad 27), .ref (ad 28), .int (nI (l.length))]) := va_up_of hE1 (by first | decide | omega) s26
  have f5 : Ez2 (28) = aI cI 552 sc := va_up_of hE1 (by first | decide | omega) s28
  have f6 : Ez2 (27) = aI cI 552 (va_up sd (l.length) (d)) := va_up_eq hE1
  have g7 : ∀ k : Nat, (k < 26 ∨ 28 < k) → Ez2 k = E k := fun k hk => va_up_of hE1 (by omega) ((fun _ _ => rfl) k hk)
  refine z_aload_n C dX3_addColumn_34 rfl ?_
  refine z_get C (26) (Cn := RX3) (T := TX3) (N := 3) (fi := 1) iw_X3_addColumn_3 rfl (by decide) ln_X3_addColumn_15 (by first | decide | omega) rfl f3 rfl dX3_addColumn_35 ?_
  refine z_aload_n C dX3_addColumn_38 rfl ?_
  refine z_get C (26) (Cn := RX3) (T := TX3) (N := 3) (fi := 2) iw_X3_addColumn_3 rfl (by decide) ln_X3_addColumn_18 (by first | decide | omega) rfl f3 rfl dX3_addColumn_39 ?_
  refine z_iload_n C dX3_addColumn_42 rfl ?_
  refine z_iastG C (28) hX (by first | decide | omega) rfl f5 (by omega) (by decide) dX3_addColumn_43 (fun Ez9 hE8 => ?_)
  have f10 : Ez9 (26) = .inr (3, [.ref (ad 27), .ref (ad 28), .int (nI (l.length))]) := va_up_of hE8 (by first | decide | omega) f3
  have f12 : Ez9 (27) = aI cI 552 (va_up sd (l.length) (d)) := va_up_of hE8 (by first | decide | omega) f6
  have f13 : Ez9 (28) = aI cI 552 (va_up sc (l.length) (co)) := va_up_eq hE8
  have g14 : ∀ k : Nat, (k < 26 ∨ 28 < k) → Ez9 k = E k := fun k hk => va_up_of hE8 (by omega) (g7 k hk)
  refine z_aload_n C dX3_addColumn_44 rfl ?_
  refine z_dup C dX3_addColumn_45 rfl ?_
  refine z_get C (26) (Cn := RX3) (T := TX3) (N := 3) (fi := 2) iw_X3_addColumn_3 rfl (by decide) ln_X3_addColumn_18 (by first | decide | omega) rfl f10 rfl dX3_addColumn_46 ?_
  refine z_iconst C (nI (1)) dX3_addColumn_49 (by decide) ?_
  refine z_iaddN C  dX3_addColumn_50 ?_
  refine z_put C (26) (Cn := RX3) (T := TX3) (N := 3) (fi := 2) tyX3 iw_X3_addColumn_3 tyX3_ok nmX3 rfl (by decide) ln_X3_addColumn_18 hX (by first | decide | omega) rfl f10 rfl rfl rfl rfl (Nat.le_of_ble_eq_true rfl) dX3_addColumn_51 (fun Ez16 hE15 => ?_)
  have f18 : Ez16 (27) = aI cI 552 (va_up sd (l.length) (d)) := va_up_of hE15 (by first | decide | omega) f12
  have f19 : Ez16 (28) = aI cI 552 (va_up sc (l.length) (co)) := va_up_of hE15 (by first | decide | omega) f13
  have f20 : Ez16 (26) = .inr (3, [.ref (ad 27), .ref (ad 28), .int (nI (l.length + 1))]) := va_up_eq hE15
  have g21 : ∀ k : Nat, (k < 26 ∨ 28 < k) → Ez16 k = E k := fun k hk => va_up_of hE15 (by omega) (g14 k hk)
  exact hend _ _ _ dX3_addColumn_54 (⟨⟨_, _, by rw [List.length_append]; exact f20, f18, f19, SP_add hsp⟩, g21⟩)

set_option maxHeartbeats 4000000 in
set_option maxRecDepth 100000 in
theorem k_X3_addDark (vl : Launch) (D : va_G) (cI cM : ClassId) (A : Nat → Prop) (ad : Nat → Nat) (E : Nat → va_E) (hX : XD A 40 ad) {l : List (Nat × Nat)} {g : Nat} (hs : StripAt cI ad E l) (hl : l.length + g ≤ 552) : MV vl yX3_addDark wsX3_addDark { frames := 1, cells := 0, slots := 0, locals := 22 } D cI cM A 40 ad E [.ref (ad 26), .int (nI (g))] (fun E1 => StripAt cI ad E1 (l ++ dk g) ∧ ∀ k : Nat, (k < 26 ∨ 28 < k) → E1 k = E k) := by
  refine mv_of cX3_addDark 3 RX3 (by decide) rfl rfl (Nat.le_of_ble_eq_true rfl) ?_
  intro vp ve vs vm va vb vt vc Q C hend
  refine z_lv [(0, .ref (ad 26)), (1, .int (nI (g)))] ⟨rfl, rfl, rfl, rfl, trivial⟩ ?_
  refine z_iconst C (nI (0)) dX3_addDark_0 (by decide) ?_
  refine z_istore_n C [(0, .ref (ad 26)), (1, .int (nI (g))), (2, .int (nI (0)))] dX3_addDark_1 (by decide) ⟨rfl, rfl, rfl, rfl, rfl, rfl, trivial⟩ ?_
  have loop2 : ∀ (fuel : Nat) (i : Nat) (E2 : Nat → va_E), (hi : i ≤ g) → (qs : StripAt cI ad E2 (l ++ dk i)) → (qf : ∀ k : Nat, (k < 26 ∨ 28 < k) → E2 k = E k) → g - i < fuel → Z vp vl ve { frames := 1, cells := 0, slots := 0, locals := 22 } vs vm va vb vt vc 3 D A 40 ad E2 [(0, .ref (ad 26)), (1, .int (nI (g))), (2, .int (nI (i)))] 0 0 Q 2 [] := by
    intro fuel
    induction fuel with
    | zero => intro i E2 hi qs qf hlt; exact absurd hlt (Nat.not_lt_zero _)
    | succ fuel ih =>
      intro i E2 hi qs qf hlt
      obtain ⟨sd2, sc2, s26, -, -, -⟩ := id qs
      have hln : (l ++ dk i).length = l.length + i := by rw [List.length_append, dk_len]
      have ih2 := ih
      refine z_iload_n C dX3_addDark_2 rfl ?_
      refine z_iload_n C dX3_addDark_3 rfl ?_
      refine z_icmp_geN C 19 (by omega) (by omega) dX3_addDark_4 (by decide) (fun h4 => ?_) (fun h4 => ?_)
      · have hig : i = g := by omega
        subst hig
        exact hend _ _ _ dX3_addDark_19 (⟨qs, qf⟩)
      · refine z_aload_n C dX3_addDark_7 rfl ?_
        refine z_iconst C (nI (0)) dX3_addDark_8 (by decide) ?_
        refine z_iconst C (nI (0)) dX3_addDark_9 (by decide) ?_
        refine z_callVV C (26) (Cn := RX3) (T := TX3) (N := 3) (k_X3_addColumn vl D cI cM A ad E2 hX qs (by rw [hln]; omega)) (cwV 2 C.2.2.2.2.1 gX3_addDark_X3_addColumn rfl rfl rfl (by decide +kernel) ⟨Nat.le_of_ble_eq_true rfl, Nat.le_of_ble_eq_true rfl⟩) rfl (by first | decide | omega) rfl s26 rfl rfl (Nat.le_of_ble_eq_true rfl) ⟨Nat.zero_le _, Nat.zero_le _⟩ dX3_addDark_10 (fun Ez1 hp2 => ?_)
        obtain ⟨hs3, hg4⟩ := hp2
        have g5 : ∀ k : Nat, (k < 26 ∨ 28 < k) → Ez1 k = E k := fun k hk => (hg4 k (by omega)).trans (qf k hk)
        refine z_iincN (j := 1) C [(0, .ref (ad 26)), (1, .int (nI (g))), (2, .int (nI (i + 1)))] dX3_addDark_13 rfl (by decide) ⟨rfl, rfl, rfl, rfl, rfl, rfl, trivial⟩ ?_
        refine z_goto C 2 dX3_addDark_16 (by decide) ?_
        refine z_lv [(0, .ref (ad 26)), (1, .int (nI (g))), (2, .int (nI (i + 1)))] ⟨rfl, rfl, rfl, rfl, rfl, rfl, trivial⟩ ?_
        exact ih2 (i + 1) Ez1 (by omega) (by rw [dk_s, ← List.append_assoc]; exact hs3) g5 (by omega)
  refine z_lv [(0, .ref (ad 26)), (1, .int (nI (g))), (2, .int (nI (0)))] ⟨rfl, rfl, rfl, rfl, rfl, rfl, trivial⟩ ?_
  exact loop2 (g + 1) 0 E (Nat.zero_le _) (by show StripAt cI ad E (l ++ []); rw [List.append_nil]; exact hs) (fun _ _ => rfl) (by omega)

set_option maxHeartbeats 4000000 in
set_option maxRecDepth 100000 in
theorem k_X3_addGlyph (vl : Launch) (D : va_G) (cI cM : ClassId) (A : Nat → Prop) (ad : Nat → Nat) (E : Nat → va_E) (hX : XD A 40 ad) {wd dt : Nat → Nat} {l : List (Nat × Nat)} {c co : Nat} (hs : StripAt cI ad E l) (hl : l.length + wd c ≤ 552) (e1 : E (1) = .inr (0, [.ref (ad 2), .ref (ad 3)])) (e2 : E (2) = aI cI 27 wd) (e3 : E (3) = aI cI 162 dt) (hc : c < 27) (hw : wd c ≤ 6) : MV vl yX3_addGlyph wsX3_addGlyph { frames := 1, cells := 0, slots := 0, locals := 22 } D cI cM A 40 ad E [.ref (ad 26), .int (nI (c)), .int (nI (co)), .ref (ad 1)] (fun E1 => StripAt cI ad E1 (l ++ glyph wd dt c co) ∧ ∀ k : Nat, (k < 26 ∨ 28 < k) → E1 k = E k) := by
  refine mv_of cX3_addGlyph 5 RX3 (by decide) rfl rfl (Nat.le_of_ble_eq_true rfl) ?_
  intro vp ve vs vm va vb vt vc Q C hend
  refine z_lv [(0, .ref (ad 26)), (1, .int (nI (c))), (2, .int (nI (co))), (3, .ref (ad 1))] ⟨rfl, rfl, rfl, rfl, rfl, rfl, rfl, rfl, trivial⟩ ?_
  refine z_iconst C (nI (0)) dX3_addGlyph_0 (by decide) ?_
  refine z_istore C [(0, .ref (ad 26)), (1, .int (nI (c))), (2, .int (nI (co))), (3, .ref (ad 1)), (4, .int (nI (0)))] dX3_addGlyph_1 (by decide) ⟨rfl, rfl, rfl, rfl, rfl, rfl, rfl, rfl, rfl, rfl, trivial⟩ ?_
  have loop3 : ∀ (fuel : Nat) (i : Nat) (E2 : Nat → va_E), (hi : i ≤ wd c) → (qs : StripAt cI ad E2 (l ++ glyphP dt c co i)) → (q1 : E2 (1) = .inr (0, [.ref (ad 2), .ref (ad 3)])) → (q2 : E2 (2) = aI cI 27 wd) → (q3 : E2 (3) = aI cI 162 dt) → (qf : ∀ k : Nat, (k < 26 ∨ 28 < k) → E2 k = E k) → wd c - i < fuel → Z vp vl ve { frames := 1, cells := 0, slots := 0, locals := 22 } vs vm va vb vt vc 5 D A 40 ad E2 [(0, .ref (ad 26)), (1, .int (nI (c))), (2, .int (nI (co))), (3, .ref (ad 1)), (4, .int (nI (i)))] 0 0 Q 3 [] := by
    intro fuel
    induction fuel with
    | zero => intro i E2 hi qs q1 q2 q3 qf hlt; exact absurd hlt (Nat.not_lt_zero _)
    | succ fuel ih =>
      intro i E2 hi qs q1 q2 q3 qf hlt
      obtain ⟨sd2, sc2, s26, -, -, -⟩ := id qs
      have hln : (l ++ glyphP dt c co i).length = l.length + i := by rw [List.length_append, glyphP_len]
      have ih3 := ih
      refine z_iload C dX3_addGlyph_3 rfl ?_
      refine z_aload_n C dX3_addGlyph_5 rfl ?_
      refine z_iload_n C dX3_addGlyph_6 rfl ?_
      refine z_callVF C (1) (Cn := RX0) (T := TX0) (N := 2) (k_X0_widthOf vl D cI cM A ad E2 hX q1 q2 hc) (cwV 1 C.2.2.2.2.1 gX3_addGlyph_X0_widthOf rfl rfl rfl (by decide +kernel) ⟨Nat.le_of_ble_eq_true rfl, Nat.le_of_ble_eq_true rfl⟩) rfl (by first | decide | omega) rfl q1 rfl rfl (Nat.le_of_ble_eq_true rfl) ⟨Nat.zero_le _, Nat.zero_le _⟩ dX3_addGlyph_7 ?_
      refine z_icmp_geN C 31 (by omega) (by omega) dX3_addGlyph_10 (by decide) (fun h10 => ?_) (fun h10 => ?_)
      · have hig : i = wd c := by omega
        exact hend _ _ _ dX3_addGlyph_31 (⟨by unfold glyph; rw [hig] at qs; exact qs, qf⟩)
      · refine z_aload_n C dX3_addGlyph_13 rfl ?_
        refine z_aload_n C dX3_addGlyph_14 rfl ?_
        refine z_iload_n C dX3_addGlyph_15 rfl ?_
        refine z_iload C dX3_addGlyph_16 rfl ?_
        refine z_callVF C (1) (Cn := RX0) (T := TX0) (N := 2) (k_X0_dotsOf vl D cI cM A ad E2 hX q1 q3 hc (by omega)) (cwV 2 C.2.2.2.2.1 gX3_addGlyph_X0_dotsOf rfl rfl rfl (by decide +kernel) ⟨Nat.le_of_ble_eq_true rfl, Nat.le_of_ble_eq_true rfl⟩) rfl (by first | decide | omega) rfl q1 rfl rfl (Nat.le_of_ble_eq_true rfl) ⟨Nat.zero_le _, Nat.zero_le _⟩ dX3_addGlyph_18 ?_
        refine z_iload_n C dX3_addGlyph_21 rfl ?_
        refine z_callVV C (26) (Cn := RX3) (T := TX3) (N := 3) (k_X3_addColumn vl D cI cM A ad E2 hX qs (by rw [hln]; omega)) (cwV 2 C.2.2.2.2.1 gX3_addGlyph_X3_addColumn rfl rfl rfl (by decide +kernel) ⟨Nat.le_of_ble_eq_true rfl, Nat.le_of_ble_eq_true rfl⟩) rfl (by first | decide | omega) rfl s26 rfl rfl (Nat.le_of_ble_eq_true rfl) ⟨Nat.zero_le _, Nat.zero_le _⟩ dX3_addGlyph_22 (fun Ez1 hp2 => ?_)
        obtain ⟨hs3, hg4⟩ := hp2
        have f5 : Ez1 (1) = .inr (0, [.ref (ad 2), .ref (ad 3)]) := (hg4 (1) (by omega)).trans q1
        have f6 : Ez1 (2) = aI cI 27 wd := (hg4 (2) (by omega)).trans q2
        have f7 : Ez1 (3) = aI cI 162 dt := (hg4 (3) (by omega)).trans q3
        have g8 : ∀ k : Nat, (k < 26 ∨ 28 < k) → Ez1 k = E k := fun k hk => (hg4 k (by omega)).trans (qf k hk)
        refine z_iincN (j := 1) C [(0, .ref (ad 26)), (1, .int (nI (c))), (2, .int (nI (co))), (3, .ref (ad 1)), (4, .int (nI (i + 1)))] dX3_addGlyph_25 rfl (by decide) ⟨rfl, rfl, rfl, rfl, rfl, rfl, rfl, rfl, rfl, rfl, trivial⟩ ?_
        refine z_goto C 3 dX3_addGlyph_28 (by decide) ?_
        refine z_lv [(0, .ref (ad 26)), (1, .int (nI (c))), (2, .int (nI (co))), (3, .ref (ad 1)), (4, .int (nI (i + 1)))] ⟨rfl, rfl, rfl, rfl, rfl, rfl, rfl, rfl, rfl, rfl, trivial⟩ ?_
        exact ih3 (i + 1) Ez1 (by omega) (by rw [glyphP_s, ← List.append_assoc]; exact hs3) f5 f6 f7 g8 (by omega)
  refine z_lv [(0, .ref (ad 26)), (1, .int (nI (c))), (2, .int (nI (co))), (3, .ref (ad 1)), (4, .int (nI (0)))] ⟨rfl, rfl, rfl, rfl, rfl, rfl, rfl, rfl, rfl, rfl, trivial⟩ ?_
  exact loop3 (wd c + 1) 0 E (Nat.zero_le _) (by show StripAt cI ad E (l ++ []); rw [List.append_nil]; exact hs) e1 e2 e3 (fun _ _ => rfl) (by omega)
end
section
theorem iw_X4_add_4 : ∀ w ∈ wsX40, w ∈ wsX4_add := by decide +kernel
theorem ln_X4_add_15 : Cond.fieldLink RX4 15 "MarqueeDisplay$Text" "length" "I" ∈ wsX4_add := by decide +kernel
theorem ln_X4_add_9 : Cond.fieldLink RX4 9 "MarqueeDisplay$Text" "characters" "[I" ∈ wsX4_add := by decide +kernel
set_option maxHeartbeats 4000000 in
set_option maxRecDepth 100000 in
theorem k_X4_add (vl : Launch) (D : va_G) (cI cM : ClassId) (A : Nat → Prop) (ad : Nat → Nat) (E : Nat → va_E) (hX : XD A 40 ad) {tl : Nat} {tx : Nat → Nat} {c : Nat} (b4 : E (4) = .inr (4, [.ref (ad 5), .int (nI (tl))])) (b5 : E (5) = aI cI 12 tx) (ht : tl < 12) : MV vl yX4_add wsX4_add { frames := 0, cells := 0, slots := 0, locals := 0 } D cI cM A 40 ad E [.ref (ad 4), .int (nI (c))] (fun E1 => E1 4 = .inr (4, [.ref (ad 5), .int (nI (tl + 1))]) ∧ E1 5 = aI cI 12 (va_up tx tl c) ∧ ∀ k : Nat, (k ≠ 4 ∧ k ≠ 5) → E1 k = E k) := by
  refine mv_of cX4_add 2 RX4 (by decide) rfl rfl (Nat.le_of_ble_eq_true rfl) ?_
  intro vp ve vs vm va vb vt vc Q C hend
  refine z_lv [(0, .ref (ad 4)), (1, .int (nI (c)))] ⟨rfl, rfl, rfl, rfl, trivial⟩ ?_
  refine z_aload_n C dX4_add_0 rfl ?_
  refine z_get C (4) (Cn := RX4) (T := TX4) (N := 2) (fi := 1) iw_X4_add_4 rfl (by decide) ln_X4_add_15 (by first | decide | omega) rfl b4 rfl dX4_add_1 ?_
  refine z_aload_n C dX4_add_4 rfl ?_
  refine z_get C (4) (Cn := RX4) (T := TX4) (N := 2) (fi := 0) iw_X4_add_4 rfl (by decide) ln_X4_add_9 (by first | decide | omega) rfl b4 rfl dX4_add_5 ?_
  refine z_alenG C (5) (by first | decide | omega) rfl b5 dX4_add_8 ?_
  refine z_icmp_geN C 32 (by omega) (by omega) dX4_add_9 (by decide) (fun h9 => (by exfalso; omega)) (fun h9 => ?_)
  refine z_aload_n C dX4_add_12 rfl ?_
  refine z_get C (4) (Cn := RX4) (T := TX4) (N := 2) (fi := 0) iw_X4_add_4 rfl (by decide) ln_X4_add_9 (by first | decide | omega) rfl b4 rfl dX4_add_13 ?_
  refine z_aload_n C dX4_add_16 rfl ?_
  refine z_get C (4) (Cn := RX4) (T := TX4) (N := 2) (fi := 1) iw_X4_add_4 rfl (by decide) ln_X4_add_15 (by first | decide | omega) rfl b4 rfl dX4_add_17 ?_
  refine z_iload_n C dX4_add_20 rfl ?_
  refine z_iastG C (5) hX (by first | decide | omega) rfl b5 (by omega) (by decide) dX4_add_21 (fun Ez2 hE1 => ?_)
  have f3 : Ez2 (4) = .inr (4, [.ref (ad 5), .int (nI (tl))]) := va_up_of hE1 (by first | decide | omega) b4
  have f5 : Ez2 (5) = aI cI 12 (va_up tx (tl) (c)) := va_up_eq hE1
  have g6 : ∀ k : Nat, (k ≠ 4 ∧ k ≠ 5) → Ez2 k = E k := fun k hk => va_up_of hE1 (by omega) ((fun _ _ => rfl) k hk)
  refine z_aload_n C dX4_add_22 rfl ?_
  refine z_dup C dX4_add_23 rfl ?_
  refine z_get C (4) (Cn := RX4) (T := TX4) (N := 2) (fi := 1) iw_X4_add_4 rfl (by decide) ln_X4_add_15 (by first | decide | omega) rfl f3 rfl dX4_add_24 ?_
  refine z_iconst C (nI (1)) dX4_add_27 (by decide) ?_
  refine z_iaddN C  dX4_add_28 ?_
  refine z_put C (4) (Cn := RX4) (T := TX4) (N := 2) (fi := 1) tyX4 iw_X4_add_4 tyX4_ok nmX4 rfl (by decide) ln_X4_add_15 hX (by first | decide | omega) rfl f3 rfl rfl rfl rfl (Nat.le_of_ble_eq_true rfl) dX4_add_29 (fun Ez8 hE7 => ?_)
  have f10 : Ez8 (5) = aI cI 12 (va_up tx (tl) (c)) := va_up_of hE7 (by first | decide | omega) f5
  have f11 : Ez8 (4) = .inr (4, [.ref (ad 5), .int (nI (tl + 1))]) := va_up_eq hE7
  have g12 : ∀ k : Nat, (k ≠ 4 ∧ k ≠ 5) → Ez8 k = E k := fun k hk => va_up_of hE7 (by omega) (g6 k hk)
  exact hend _ _ _ dX4_add_32 (⟨f11, f10, g12⟩)

theorem iw_X4_empty_4 : ∀ w ∈ wsX40, w ∈ wsX4_empty := by decide +kernel
theorem ln_X4_empty_15 : Cond.fieldLink RX4 15 "MarqueeDisplay$Text" "length" "I" ∈ wsX4_empty := by decide +kernel
set_option maxHeartbeats 4000000 in
set_option maxRecDepth 100000 in
theorem k_X4_empty (vl : Launch) (D : va_G) (cI cM : ClassId) (A : Nat → Prop) (ad : Nat → Nat) (E : Nat → va_E) (hX : XD A 40 ad) {tl : Nat} (b4 : E (4) = .inr (4, [.ref (ad 5), .int (nI (tl))])) : MV vl yX4_empty wsX4_empty { frames := 0, cells := 0, slots := 0, locals := 0 } D cI cM A 40 ad E [.ref (ad 4)] (fun E1 => E1 4 = .inr (4, [.ref (ad 5), .int (nI 0)]) ∧ ∀ k : Nat, (k ≠ 4) → E1 k = E k) := by
  refine mv_of cX4_empty 1 RX4 (by decide) rfl rfl (Nat.le_of_ble_eq_true rfl) ?_
  intro vp ve vs vm va vb vt vc Q C hend
  refine z_lv [(0, .ref (ad 4))] ⟨rfl, rfl, trivial⟩ ?_
  refine z_aload_n C dX4_empty_0 rfl ?_
  refine z_iconst C (nI (0)) dX4_empty_1 (by decide) ?_
  refine z_put C (4) (Cn := RX4) (T := TX4) (N := 2) (fi := 1) tyX4 iw_X4_empty_4 tyX4_ok nmX4 rfl (by decide) ln_X4_empty_15 hX (by first | decide | omega) rfl b4 rfl rfl rfl rfl (Nat.le_of_ble_eq_true rfl) dX4_empty_2 (fun Ez2 hE1 => ?_)
  have f4 : Ez2 (4) = .inr (4, [.ref (ad 5), .int (nI (0))]) := va_up_eq hE1
  have g5 : ∀ k : Nat, (k ≠ 4) → Ez2 k = E k := fun k hk => va_up_of hE1 (by omega) ((fun _ _ => rfl) k hk)
  exact hend _ _ _ dX4_empty_5 (⟨f4, g5⟩)

theorem upx {g2 tx : Nat → Nat} {i : Nat} (hg : ∀ k : Nat, k < i → g2 k = tx k) : ∀ k : Nat, k < i + 1 → va_up g2 i (tx i) k = tx k := by
  intro k hk
  by_cases e : k = i
  · subst e; exact va_up_self _ _ _
  · rw [va_up_ne _ _ e]; exact hg k (by omega)
theorem iw_X4_copyFrom_4 : ∀ w ∈ wsX40, w ∈ wsX4_copyFrom := by decide +kernel
theorem ln_X4_copyFrom_15 : Cond.fieldLink RX4 15 "MarqueeDisplay$Text" "length" "I" ∈ wsX4_copyFrom := by decide +kernel
theorem ln_X4_copyFrom_9 : Cond.fieldLink RX4 9 "MarqueeDisplay$Text" "characters" "[I" ∈ wsX4_copyFrom := by decide +kernel
set_option maxHeartbeats 4000000 in
set_option maxRecDepth 100000 in
theorem k_X4_copyFrom (vl : Launch) (D : va_G) (cI cM : ClassId) (A : Nat → Prop) (ad : Nat → Nat) (E : Nat → va_E) (hX : XD A 40 ad) {tl : Nat} {tx g : Nat → Nat} {j : Nat} {z : Int32} (hj : j < 6) (b4 : E (4) = .inr (4, [.ref (ad 5), .int (nI (tl))])) (b5 : E (5) = aI cI 12 tx) (t9 : E (9 + 3 * j) = .inr (4, [.ref (ad (10 + 3 * j)), .int (z)])) (t10 : E (10 + 3 * j) = aI cI 12 g) : MV vl yX4_copyFrom wsX4_copyFrom { frames := 0, cells := 0, slots := 0, locals := 0 } D cI cM A 40 ad E [.ref (ad (9 + 3 * j)), .ref (ad 4)] (fun E1 => E1 (9 + 3 * j) = .inr (4, [.ref (ad (10 + 3 * j)), .int (nI tl)]) ∧ (∃ g2 : Nat → Nat, E1 (10 + 3 * j) = aI cI 12 g2 ∧ ∀ k : Nat, k < 12 → g2 k = tx k) ∧ ∀ k : Nat, (k ≠ 9 + 3 * j ∧ k ≠ 10 + 3 * j) → E1 k = E k) := by
  refine mv_of cX4_copyFrom 3 RX4 (by decide) rfl rfl (Nat.le_of_ble_eq_true rfl) ?_
  intro vp ve vs vm va vb vt vc Q C hend
  refine z_lv [(0, .ref (ad (9 + 3 * j))), (1, .ref (ad 4))] ⟨rfl, rfl, rfl, rfl, trivial⟩ ?_
  refine z_iconst C (nI (0)) dX4_copyFrom_0 (by decide) ?_
  refine z_istore_n C [(0, .ref (ad (9 + 3 * j))), (1, .ref (ad 4)), (2, .int (nI (0)))] dX4_copyFrom_1 (by decide) ⟨rfl, rfl, rfl, rfl, rfl, rfl, trivial⟩ ?_
  have loop2 : ∀ (fuel : Nat) (i : Nat) (E2 : Nat → va_E) (g2 : Nat → Nat), (hi : i ≤ 12) → (hg : ∀ k : Nat, k < i → g2 k = tx k) → (q4 : E2 (4) = .inr (4, [.ref (ad 5), .int (nI (tl))])) → (q5 : E2 (5) = aI cI 12 tx) → (q9 : E2 (9 + 3 * j) = .inr (4, [.ref (ad (10 + 3 * j)), .int (z)])) → (q10 : E2 (10 + 3 * j) = aI cI 12 g2) → (qf : ∀ k : Nat, (k ≠ 9 + 3 * j ∧ k ≠ 10 + 3 * j) → E2 k = E k) → 12 - i < fuel → Z vp vl ve { frames := 0, cells := 0, slots := 0, locals := 0 } vs vm va vb vt vc 3 D A 40 ad E2 [(0, .ref (ad (9 + 3 * j))), (1, .ref (ad 4)), (2, .int (nI (i)))] 0 0 Q 2 [] := by
    intro fuel
    induction fuel with
    | zero => intro i E2 g2 hi hg q4 q5 q9 q10 qf hlt; exact absurd hlt (Nat.not_lt_zero _)
    | succ fuel ih =>
      intro i E2 g2 hi hg q4 q5 q9 q10 qf hlt
      have ih2 := ih
      refine z_iload_n C dX4_copyFrom_2 rfl ?_
      refine z_bipush C (nI (12)) dX4_copyFrom_3 (by decide) ?_
      refine z_icmp_geN C 26 (by omega) (by omega) dX4_copyFrom_5 (by decide) (fun h5 => ?_) (fun h5 => ?_)
      · have hi12 : i = 12 := by omega
        refine z_aload_n C dX4_copyFrom_26 rfl ?_
        refine z_aload_n C dX4_copyFrom_27 rfl ?_
        refine z_get C (4) (Cn := RX4) (T := TX4) (N := 2) (fi := 1) iw_X4_copyFrom_4 rfl (by decide) ln_X4_copyFrom_15 (by first | decide | omega) rfl q4 rfl dX4_copyFrom_28 ?_
        refine z_put C (9 + 3 * j) (Cn := RX4) (T := TX4) (N := 2) (fi := 1) tyX4 iw_X4_copyFrom_4 tyX4_ok nmX4 rfl (by decide) ln_X4_copyFrom_15 hX (by first | decide | omega) rfl q9 rfl rfl rfl rfl (Nat.le_of_ble_eq_true rfl) dX4_copyFrom_31 (fun Ez2 hE1 => ?_)
        have f3 : Ez2 (4) = .inr (4, [.ref (ad 5), .int (nI (tl))]) := va_up_of hE1 (by first | decide | omega) q4
        have f4 : Ez2 (5) = aI cI 12 tx := va_up_of hE1 (by first | decide | omega) q5
        have f6 : Ez2 (10 + 3 * j) = aI cI 12 g2 := va_up_of hE1 (by first | decide | omega) q10
        have f7 : Ez2 (9 + 3 * j) = .inr (4, [.ref (ad (10 + 3 * j)), .int (nI (tl))]) := va_up_eq hE1
        have g8 : ∀ k : Nat, (k ≠ 9 + 3 * j ∧ k ≠ 10 + 3 * j) → Ez2 k = E k := fun k hk => va_up_of hE1 (by omega) (qf k hk)
        exact hend _ _ _ dX4_copyFrom_34 (⟨f7, ⟨g2, f6, fun k hk => hg k (by omega)⟩, g8⟩)
      · refine z_aload_n C dX4_copyFrom_8 rfl ?_
        refine z_get C (9 + 3 * j) (Cn := RX4) (T := TX4) (N := 2) (fi := 0) iw_X4_copyFrom_4 rfl (by decide) ln_X4_copyFrom_9 (by first | decide | omega) rfl q9 rfl dX4_copyFrom_9 ?_
        refine z_iload_n C dX4_copyFrom_12 rfl ?_
        refine z_aload_n C dX4_copyFrom_13 rfl ?_
        refine z_get C (4) (Cn := RX4) (T := TX4) (N := 2) (fi := 0) iw_X4_copyFrom_4 rfl (by decide) ln_X4_copyFrom_9 (by first | decide | omega) rfl q4 rfl dX4_copyFrom_14 ?_
        refine z_iload_n C dX4_copyFrom_17 rfl ?_
        refine z_ialdG C (5) (by first | decide | omega) rfl q5 (by omega) (by decide) dX4_copyFrom_18 ?_
        refine z_iastG C (10 + 3 * j) hX (by first | decide | omega) rfl q10 (by omega) (by decide) dX4_copyFrom_19 (fun Ez10 hE9 => ?_)
        have f11 : Ez10 (4) = .inr (4, [.ref (ad 5), .int (nI (tl))]) := va_up_of hE9 (by first | decide | omega) q4
        have f12 : Ez10 (5) = aI cI 12 tx := va_up_of hE9 (by first | decide | omega) q5
        have f13 : Ez10 (9 + 3 * j) = .inr (4, [.ref (ad (10 + 3 * j)), .int (z)]) := va_up_of hE9 (by first | decide | omega) q9
        have f15 : Ez10 (10 + 3 * j) = aI cI 12 (va_up g2 (i) (tx (i))) := va_up_eq hE9
        have g16 : ∀ k : Nat, (k ≠ 9 + 3 * j ∧ k ≠ 10 + 3 * j) → Ez10 k = E k := fun k hk => va_up_of hE9 (by omega) (qf k hk)
        refine z_iincN (j := 1) C [(0, .ref (ad (9 + 3 * j))), (1, .ref (ad 4)), (2, .int (nI (i + 1)))] dX4_copyFrom_20 rfl (by decide) ⟨rfl, rfl, rfl, rfl, rfl, rfl, trivial⟩ ?_
        refine z_goto C 2 dX4_copyFrom_23 (by decide) ?_
        refine z_lv [(0, .ref (ad (9 + 3 * j))), (1, .ref (ad 4)), (2, .int (nI (i + 1)))] ⟨rfl, rfl, rfl, rfl, rfl, rfl, trivial⟩ ?_
        exact ih2 (i + 1) Ez10 _ (by omega) (upx hg) f11 f12 f13 f15 g16 (by omega)
  refine z_lv [(0, .ref (ad (9 + 3 * j))), (1, .ref (ad 4)), (2, .int (nI (0)))] ⟨rfl, rfl, rfl, rfl, rfl, rfl, trivial⟩ ?_
  exact loop2 (13) 0 E g (Nat.zero_le _) (fun k hk => absurd hk (Nat.not_lt_zero k)) b4 b5 t9 t10 (fun _ _ => rfl) (by omega)

theorem im_y {n j : Nat} (hj : j < n) (hn : n < 2 ^ 31) : iw (nI j) (nI 0) (nI n - nI 1) = nI 1 := by
  rw [pk_sub (by omega)]
  exact iw_yN ⟨Nat.zero_le _, by omega⟩ (by omega)
theorem im_n {n : Nat} {x : Int32} (hn : n < 2 ^ 31) (hx : ¬ ∃ j : Nat, j < n ∧ x = nI j) : iw x (nI 0) (nI n - nI 1) = nI 0 := by
  apply iw_n
  intro h
  by_cases h0 : n = 0
  · subst h0
    have h2 : (nI 0 : Int32) ≤ nI 0 - nI 1 := Int32.le_trans h.1 h.2
    exact absurd h2 (by decide)
  · rw [pk_sub (by omega)] at h
    rcases iw_in (v := x) (hi := n - 1) (by omega) with ⟨j, h1, h2⟩ | h3
    · exact hx ⟨j, by omega, h2⟩
    · exact h3 h
theorem iw_X2_find_2 : ∀ w ∈ wsX20, w ∈ wsX2_find := by decide +kernel
theorem ln_X2_find_18 : Cond.fieldLink RX2 18 "MarqueeDisplay$MessageList" "count" "I" ∈ wsX2_find := by decide +kernel
theorem ln_X2_find_11 : Cond.fieldLink RX2 11 "MarqueeDisplay$MessageList" "slots" "[LMarqueeDisplay$Message;" ∈ wsX2_find := by decide +kernel
set_option maxHeartbeats 4000000 in
set_option maxRecDepth 100000 in
theorem k_X2_find_y (vl : Launch) (D : va_G) (cI cM : ClassId) (A : Nat → Prop) (ad : Nat → Nat) (E : Nat → va_E) (hX : XD A 40 ad) {n i : Nat} {pm : Nat → Nat} (l6 : E (6) = .inr (2, [.ref (ad 7), .int (nI (n))])) (l7 : E (7) = .inl (cM, 6, .inr (.inr (.inr (.inr (sf ad pm)))))) (hi : i < n) (hn : n ≤ 6) : MQ0 vl yX2_find wsX2_find { frames := 1, cells := 0, slots := 0, locals := 22 } D cI cM A 40 ad E [.ref (ad 6), .int (nI (i))] (some (ad (8 + 3 * (pm i)))) := by
  refine mq_of cX2_find 2 (.object "MarqueeDisplay$Message") RX2 (by decide) rfl rfl ⟨_, rfl⟩ (Nat.le_of_ble_eq_true rfl) ?_
  intro vp ve vs vm va vb vt vc Q C hend
  refine z_lv [(0, .ref (ad 6)), (1, .int (nI (i)))] ⟨rfl, rfl, rfl, rfl, trivial⟩ ?_
  refine z_iload_n C dX2_find_0 rfl ?_
  refine z_iconst C (nI (0)) dX2_find_1 (by decide) ?_
  refine z_aload_n C dX2_find_2 rfl ?_
  refine z_get C (6) (Cn := RX2) (T := TX2) (N := 2) (fi := 1) iw_X2_find_2 rfl (by decide) ln_X2_find_18 (by first | decide | omega) rfl l6 rfl dX2_find_3 ?_
  refine z_iconst C (nI (1)) dX2_find_6 (by decide) ?_
  refine z_isub C dX2_find_7  ?_
  refine z_callSNF C (host := "MarqueeDisplay") (k_X5_isWithin vl D cI cM A ad E hX (nI (i)) (nI (0)) ((nI (n)) - (nI (1)))) ⟨va_cnB (host := "MarqueeDisplay") 3 C.2.2.2.2.1 gX2_find_X5_isWithin_n22 rfl rfl rfl (C.2.2.2.2.2.2.1 _ (by decide +kernel)) (C.2.2.2.2.1 _ (by decide +kernel)) (by decide +kernel) ⟨Nat.le_of_ble_eq_true rfl, Nat.le_of_ble_eq_true rfl⟩, C.2.2.2.2.1 _ (by decide +kernel), trivial⟩ rfl rfl (Nat.le_of_ble_eq_true rfl) ⟨Nat.zero_le _, Nat.zero_le _⟩ dX2_find_8 ?_
  refine z_top (nI (1)) (im_y hi (by omega)) ?_
  refine z_if_eqN C 23 (by omega) dX2_find_11 (by decide) (fun h11 => (by exfalso; omega)) (fun h11 => ?_)
  refine z_aload_n C dX2_find_14 rfl ?_
  refine z_get C (6) (Cn := RX2) (T := TX2) (N := 2) (fi := 0) iw_X2_find_2 rfl (by decide) ln_X2_find_11 (by first | decide | omega) rfl l6 rfl dX2_find_15 ?_
  refine z_iload_n C dX2_find_18 rfl ?_
  refine z_aldq C (7) (some (ad (8 + 3 * (pm i)))) (by first | decide | omega) rfl l7 (by omega) (by decide) (rfl) dX2_find_19 ?_
  refine z_goto C 24 dX2_find_20 (by decide) ?_
  exact hend _ _ (some (ad (8 + 3 * (pm i)))) dX2_find_24 (rfl)

set_option maxHeartbeats 4000000 in
set_option maxRecDepth 100000 in
theorem k_X2_find_n (vl : Launch) (D : va_G) (cI cM : ClassId) (A : Nat → Prop) (ad : Nat → Nat) (E : Nat → va_E) (hX : XD A 40 ad) {n : Nat} {x : Int32} (l6 : E (6) = .inr (2, [.ref (ad 7), .int (nI (n))])) (hx : ¬ ∃ j : Nat, j < n ∧ x = nI j) (hn : n ≤ 6) : MQ0 vl yX2_find wsX2_find { frames := 1, cells := 0, slots := 0, locals := 22 } D cI cM A 40 ad E [.ref (ad 6), .int (x)] (none) := by
  refine mq_of cX2_find 2 (.object "MarqueeDisplay$Message") RX2 (by decide) rfl rfl ⟨_, rfl⟩ (Nat.le_of_ble_eq_true rfl) ?_
  intro vp ve vs vm va vb vt vc Q C hend
  refine z_lv [(0, .ref (ad 6)), (1, .int (x))] ⟨rfl, rfl, rfl, rfl, trivial⟩ ?_
  refine z_iload_n C dX2_find_0 rfl ?_
  refine z_iconst C (nI (0)) dX2_find_1 (by decide) ?_
  refine z_aload_n C dX2_find_2 rfl ?_
  refine z_get C (6) (Cn := RX2) (T := TX2) (N := 2) (fi := 1) iw_X2_find_2 rfl (by decide) ln_X2_find_18 (by first | decide | omega) rfl l6 rfl dX2_find_3 ?_
  refine z_iconst C (nI (1)) dX2_find_6 (by decide) ?_
  refine z_isub C dX2_find_7  ?_
  refine z_callSNF C (host := "MarqueeDisplay") (k_X5_isWithin vl D cI cM A ad E hX (x) (nI (0)) ((nI (n)) - (nI (1)))) ⟨va_cnB (host := "MarqueeDisplay") 3 C.2.2.2.2.1 gX2_find_X5_isWithin_n22 rfl rfl rfl (C.2.2.2.2.2.2.1 _ (by decide +kernel)) (C.2.2.2.2.1 _ (by decide +kernel)) (by decide +kernel) ⟨Nat.le_of_ble_eq_true rfl, Nat.le_of_ble_eq_true rfl⟩, C.2.2.2.2.1 _ (by decide +kernel), trivial⟩ rfl rfl (Nat.le_of_ble_eq_true rfl) ⟨Nat.zero_le _, Nat.zero_le _⟩ dX2_find_8 ?_
  refine z_top (nI (0)) (im_n (by omega) hx) ?_
  refine z_if_eqN C 23 (by omega) dX2_find_11 (by decide) (fun h11 => ?_) (fun h11 => (by exfalso; omega))
  refine z_null C dX2_find_23 ?_
  exact hend _ _ (none) dX2_find_24 (rfl)
end
section
theorem mW_mono (wd le : Nat → Nat) {i n : Nat} (h : i < n) : mW wd le (i + 1) ≤ mW wd le n := by
  have h2 : i + 1 ≤ n := h
  clear h
  induction h2 with
  | refl => exact Nat.le_refl _
  | step _ ih => exact Nat.le_trans ih (by rw [mW]; omega)
theorem iw_X3_addMessage_3 : ∀ w ∈ wsX30, w ∈ wsX3_addMessage := by decide +kernel
theorem ln_X3_addMessage_18 : Cond.fieldLink RX3 18 "MarqueeDisplay$Strip" "length" "I" ∈ wsX3_addMessage := by decide +kernel
theorem iw_X3_addMessage_1 : ∀ w ∈ wsX10, w ∈ wsX3_addMessage := by decide +kernel
theorem nl_X3_39 : Cond.fieldLinkNest RX3 39 "MarqueeDisplay$Message" "start" "I" "MarqueeDisplay" ∈ nwL := by decide +kernel
theorem nl_X3_44 : Cond.fieldLinkNest RX3 44 "MarqueeDisplay$Message" "text" "LMarqueeDisplay$Text;" "MarqueeDisplay" ∈ nwL := by decide +kernel
theorem iw_X3_addMessage_4 : ∀ w ∈ wsX40, w ∈ wsX3_addMessage := by decide +kernel
theorem nl_X3_48 : Cond.fieldLinkNest RX3 48 "MarqueeDisplay$Text" "length" "I" "MarqueeDisplay" ∈ nwL := by decide +kernel
theorem nl_X3_61 : Cond.fieldLinkNest RX3 61 "MarqueeDisplay$Message" "width" "I" "MarqueeDisplay" ∈ nwL := by decide +kernel
theorem nl_X3_51 : Cond.fieldLinkNest RX3 51 "MarqueeDisplay$Text" "characters" "[I" "MarqueeDisplay" ∈ nwL := by decide +kernel
theorem nl_X3_54 : Cond.fieldLinkNest RX3 54 "MarqueeDisplay$Message" "color" "I" "MarqueeDisplay" ∈ nwL := by decide +kernel
set_option maxHeartbeats 4000000 in
set_option maxRecDepth 100000 in
theorem k_X3_addMessage (vl : Launch) (D : va_G) (cI cM : ClassId) (A : Nat → Prop) (ad : Nat → Nat) (E : Nat → va_E) (hX : XD A 40 ad) {wd dt : Nat → Nat} {L0 : List (Nat × Nat)} {j co len : Nat} {g : Nat → Nat} {st0 wi0 : Int32} (hs : StripAt cI ad E L0) (hl : L0.length + mW wd g len ≤ 552) (e1 : E (1) = .inr (0, [.ref (ad 2), .ref (ad 3)])) (e2 : E (2) = aI cI 27 wd) (e3 : E (3) = aI cI 162 dt) (m8 : E (8 + 3 * j) = .inr (1, [.ref (ad (9 + 3 * j)), .int (nI (co)), .int (st0), .int (wi0)])) (m9 : E (9 + 3 * j) = .inr (4, [.ref (ad (10 + 3 * j)), .int (nI (len))])) (m10 : E (10 + 3 * j) = aI cI 12 g) (hj : j < 6) (hlen : len ≤ 12) (hg : ∀ k, k < len → g k < 27) (hw : ∀ c, c < 27 → wd c ≤ 6) : MV vl yX3_addMessage wsX3_addMessage { frames := 2, cells := 0, slots := 0, locals := 46 } D cI cM A 40 ad E [.ref (ad 26), .ref (ad (8 + 3 * j)), .ref (ad 1)] (fun E1 => StripAt cI ad E1 (L0 ++ mcols wd dt co g len) ∧ E1 (8 + 3 * j) = .inr (1, [.ref (ad (9 + 3 * j)), .int (nI co), .int (nI L0.length), .int (nI (mW wd g len))]) ∧ ∀ k : Nat, ((k < 26 ∨ 28 < k) ∧ k ≠ 8 + 3 * j) → E1 k = E k) := by
  refine mv_of cX3_addMessage 4 RX3 (by decide) rfl rfl (Nat.le_of_ble_eq_true rfl) ?_
  intro vp ve vs vm va vb vt vc Q C hend
  refine z_lv [(0, .ref (ad 26)), (1, .ref (ad (8 + 3 * j))), (2, .ref (ad 1))] ⟨rfl, rfl, rfl, rfl, rfl, rfl, trivial⟩ ?_
  obtain ⟨sd, sc, s26, s27, s28, hsp⟩ := id hs
  refine z_aload_n C dX3_addMessage_0 rfl ?_
  refine z_aload_n C dX3_addMessage_1 rfl ?_
  refine z_get C (26) (Cn := RX3) (T := TX3) (N := 3) (fi := 2) iw_X3_addMessage_3 rfl (by decide) ln_X3_addMessage_18 (by first | decide | omega) rfl s26 rfl dX3_addMessage_2 ?_
  refine z_putN C (8 + 3 * j) (Cn := RX1) (T := TX1) (N := 4) (fi := 2) tyX1 iw_X3_addMessage_1 tyX1_ok nmX1 rfl (by decide) nl_X3_39 hX (by first | decide | omega) rfl m8 rfl rfl rfl rfl (Nat.le_of_ble_eq_true rfl) dX3_addMessage_5 (fun Ez2 hE1 => ?_)
  have f3 : Ez2 (1) = .inr (0, [.ref (ad 2), .ref (ad 3)]) := va_up_of hE1 (by first | decide | omega) e1
  have f4 : Ez2 (2) = aI cI 27 wd := va_up_of hE1 (by first | decide | omega) e2
  have f5 : Ez2 (3) = aI cI 162 dt := va_up_of hE1 (by first | decide | omega) e3
  have f7 : Ez2 (9 + 3 * j) = .inr (4, [.ref (ad (10 + 3 * j)), .int (nI (len))]) := va_up_of hE1 (by first | decide | omega) m9
  have f8 : Ez2 (10 + 3 * j) = aI cI 12 g := va_up_of hE1 (by first | decide | omega) m10
  have f9 : Ez2 (26) = .inr (3, [.ref (ad 27), .ref (ad 28), .int (nI (L0.length))]) := va_up_of hE1 (by first | decide | omega) s26
  have f10 : Ez2 (8 + 3 * j) = .inr (1, [.ref (ad (9 + 3 * j)), .int (nI (co)), .int (nI (L0.length)), .int (wi0)]) := va_up_eq hE1
  have g11 : ∀ k : Nat, ((k < 26 ∨ 28 < k) ∧ k ≠ 8 + 3 * j) → Ez2 k = E k := fun k hk => va_up_of hE1 (by omega) ((fun _ _ => rfl) k hk)
  refine z_iconst C (nI (0)) dX3_addMessage_8 (by decide) ?_
  refine z_istore_n C [(0, .ref (ad 26)), (1, .ref (ad (8 + 3 * j))), (2, .ref (ad 1)), (3, .int (nI (0)))] dX3_addMessage_9 (by decide) ⟨rfl, rfl, rfl, rfl, rfl, rfl, rfl, rfl, trivial⟩ ?_
  have loop10 : ∀ (fuel : Nat) (i : Nat) (E2 : Nat → va_E), (hi : i ≤ len) → (qs : StripAt cI ad E2 (L0 ++ mcols wd dt co g i)) → (q1 : E2 (1) = .inr (0, [.ref (ad 2), .ref (ad 3)])) → (q2 : E2 (2) = aI cI 27 wd) → (q3 : E2 (3) = aI cI 162 dt) → (q8 : E2 (8 + 3 * j) = .inr (1, [.ref (ad (9 + 3 * j)), .int (nI (co)), .int (nI (L0.length)), .int (wi0)])) → (q9 : E2 (9 + 3 * j) = .inr (4, [.ref (ad (10 + 3 * j)), .int (nI (len))])) → (q10 : E2 (10 + 3 * j) = aI cI 12 g) → (qf : ∀ k : Nat, ((k < 26 ∨ 28 < k) ∧ k ≠ 8 + 3 * j) → E2 k = E k) → len - i < fuel → Z vp vl ve { frames := 2, cells := 0, slots := 0, locals := 46 } vs vm va vb vt vc 4 D A 40 ad E2 [(0, .ref (ad 26)), (1, .ref (ad (8 + 3 * j))), (2, .ref (ad 1)), (3, .int (nI (i)))] 0 0 Q 10 [] := by
    intro fuel
    induction fuel with
    | zero => intro i E2 hi qs q1 q2 q3 q8 q9 q10 qf hlt; exact absurd hlt (Nat.not_lt_zero _)
    | succ fuel ih =>
      intro i E2 hi qs q1 q2 q3 q8 q9 q10 qf hlt
      obtain ⟨_, _, s26, -, -, -⟩ := id qs
      have hln : (L0 ++ mcols wd dt co g i).length = L0.length + mW wd g i := by rw [List.length_append, mcols_len]
      have ih10 := ih
      refine z_iload_n C dX3_addMessage_10 rfl ?_
      refine z_aload_n C dX3_addMessage_11 rfl ?_
      refine z_getN C (8 + 3 * j) (Cn := RX1) (T := TX1) (N := 4) (fi := 0) iw_X3_addMessage_1 rfl (by decide) nl_X3_44 (by first | decide | omega) rfl q8 rfl dX3_addMessage_12 ?_
      refine z_getN C (9 + 3 * j) (Cn := RX4) (T := TX4) (N := 2) (fi := 1) iw_X3_addMessage_4 rfl (by decide) nl_X3_48 (by first | decide | omega) rfl q9 rfl dX3_addMessage_15 ?_
      refine z_icmp_geN C 58 (by omega) (by omega) dX3_addMessage_18 (by decide) (fun h18 => ?_) (fun h18 => ?_)
      · have hie : i = len := by omega
        refine z_aload_n C dX3_addMessage_58 rfl ?_
        refine z_aload_n C dX3_addMessage_59 rfl ?_
        refine z_get C (26) (Cn := RX3) (T := TX3) (N := 3) (fi := 2) iw_X3_addMessage_3 rfl (by decide) ln_X3_addMessage_18 (by first | decide | omega) rfl s26 rfl dX3_addMessage_60 ?_
        refine z_aload_n C dX3_addMessage_63 rfl ?_
        refine z_getN C (8 + 3 * j) (Cn := RX1) (T := TX1) (N := 4) (fi := 2) iw_X3_addMessage_1 rfl (by decide) nl_X3_39 (by first | decide | omega) rfl q8 rfl dX3_addMessage_64 ?_
        refine z_isubN C (by rw [hln]; omega) dX3_addMessage_67 ?_
        refine z_top (nI (mW wd g len)) (by rw [hln, hie]; congr 1; omega) ?_
        refine z_putN C (8 + 3 * j) (Cn := RX1) (T := TX1) (N := 4) (fi := 3) tyX1 iw_X3_addMessage_1 tyX1_ok nmX1 rfl (by decide) nl_X3_61 hX (by first | decide | omega) rfl q8 rfl rfl rfl rfl (Nat.le_of_ble_eq_true rfl) dX3_addMessage_68 (fun Ez13 hE12 => ?_)
        have f14 : Ez13 (1) = .inr (0, [.ref (ad 2), .ref (ad 3)]) := va_up_of hE12 (by first | decide | omega) q1
        have f15 : Ez13 (2) = aI cI 27 wd := va_up_of hE12 (by first | decide | omega) q2
        have f16 : Ez13 (3) = aI cI 162 dt := va_up_of hE12 (by first | decide | omega) q3
        have f18 : Ez13 (9 + 3 * j) = .inr (4, [.ref (ad (10 + 3 * j)), .int (nI (len))]) := va_up_of hE12 (by first | decide | omega) q9
        have f19 : Ez13 (10 + 3 * j) = aI cI 12 g := va_up_of hE12 (by first | decide | omega) q10
        have f20 : Ez13 (26) = .inr (3, [.ref (ad 27), .ref (ad 28), .int (nI ((L0 ++ mcols wd dt co g i).length))]) := va_up_of hE12 (by first | decide | omega) s26
        have f21 : Ez13 (8 + 3 * j) = .inr (1, [.ref (ad (9 + 3 * j)), .int (nI (co)), .int (nI (L0.length)), .int (nI (mW wd g len))]) := va_up_eq hE12
        have g22 : ∀ k : Nat, ((k < 26 ∨ 28 < k) ∧ k ≠ 8 + 3 * j) → Ez13 k = E k := fun k hk => va_up_of hE12 (by omega) (qf k hk)
        exact hend _ _ _ dX3_addMessage_71 (⟨(by rw [hie] at qs; exact qs.mv (va_up_of hE12 (by omega) rfl) (va_up_of hE12 (by omega) rfl) (va_up_of hE12 (by omega) rfl)), f21, g22⟩)
      · have hgi := hg i h18
        have hw6 := hw _ hgi
        have hstep : mW wd g (i + 1) ≤ mW wd g len := mW_mono wd g h18
        have hmw : mW wd g (i + 1) = mW wd g i + (if i = 0 then 0 else 1) + wd (g i) := rfl
        refine z_aload_n C dX3_addMessage_21 rfl ?_
        refine z_iload_n C dX3_addMessage_22 rfl ?_
        refine z_if_neN C 30 (by omega) dX3_addMessage_23 (by decide) (fun h23 => ?_) (fun h23 => ?_)
        · have hi0 : ¬ i = 0 := h23
          rw [if_neg hi0] at hmw
          refine z_iconst C (nI (1)) dX3_addMessage_30 (by decide) ?_
          refine z_callVV C (26) (Cn := RX3) (T := TX3) (N := 3) (k_X3_addDark vl D cI cM A ad E2 hX qs (by rw [hln]; omega)) (cwV 1 C.2.2.2.2.1 gX3_addMessage_X3_addDark rfl rfl rfl (by decide +kernel) ⟨Nat.le_of_ble_eq_true rfl, Nat.le_of_ble_eq_true rfl⟩) rfl (by first | decide | omega) rfl s26 rfl rfl (Nat.le_of_ble_eq_true rfl) ⟨Nat.zero_le _, Nat.zero_le _⟩ dX3_addMessage_31 (fun Ez23 hp24 => ?_)
          obtain ⟨hs25, hg26⟩ := hp24
          have f28 : Ez23 (1) = .inr (0, [.ref (ad 2), .ref (ad 3)]) := (hg26 (1) (by omega)).trans q1
          have f29 : Ez23 (2) = aI cI 27 wd := (hg26 (2) (by omega)).trans q2
          have f30 : Ez23 (3) = aI cI 162 dt := (hg26 (3) (by omega)).trans q3
          have f31 : Ez23 (8 + 3 * j) = .inr (1, [.ref (ad (9 + 3 * j)), .int (nI (co)), .int (nI (L0.length)), .int (wi0)]) := (hg26 (8 + 3 * j) (by omega)).trans q8
          have f32 : Ez23 (9 + 3 * j) = .inr (4, [.ref (ad (10 + 3 * j)), .int (nI (len))]) := (hg26 (9 + 3 * j) (by omega)).trans q9
          have f33 : Ez23 (10 + 3 * j) = aI cI 12 g := (hg26 (10 + 3 * j) (by omega)).trans q10
          have g34 : ∀ k : Nat, ((k < 26 ∨ 28 < k) ∧ k ≠ 8 + 3 * j) → Ez23 k = E k := fun k hk => (hg26 k (by omega)).trans (qf k hk)
          obtain ⟨_, _, s35, -, -, -⟩ := id hs25
          refine z_aload_n C dX3_addMessage_34 rfl ?_
          refine z_aload_n C dX3_addMessage_35 rfl ?_
          refine z_getN C (8 + 3 * j) (Cn := RX1) (T := TX1) (N := 4) (fi := 0) iw_X3_addMessage_1 rfl (by decide) nl_X3_44 (by first | decide | omega) rfl f31 rfl dX3_addMessage_36 ?_
          refine z_getN C (9 + 3 * j) (Cn := RX4) (T := TX4) (N := 2) (fi := 0) iw_X3_addMessage_4 rfl (by decide) nl_X3_51 (by first | decide | omega) rfl f32 rfl dX3_addMessage_39 ?_
          refine z_iload_n C dX3_addMessage_42 rfl ?_
          refine z_ialdG C (10 + 3 * j) (by first | decide | omega) rfl f33 (by omega) (by decide) dX3_addMessage_43 ?_
          refine z_aload_n C dX3_addMessage_44 rfl ?_
          refine z_getN C (8 + 3 * j) (Cn := RX1) (T := TX1) (N := 4) (fi := 1) iw_X3_addMessage_1 rfl (by decide) nl_X3_54 (by first | decide | omega) rfl f31 rfl dX3_addMessage_45 ?_
          refine z_aload_n C dX3_addMessage_48 rfl ?_
          refine z_callVV C (26) (Cn := RX3) (T := TX3) (N := 3) (k_X3_addGlyph vl D cI cM A ad Ez23 hX hs25 (by rw [List.length_append, hln, dk_len]; omega) f28 f29 f30 hgi hw6) (cwV 3 C.2.2.2.2.1 gX3_addMessage_X3_addGlyph rfl rfl rfl (by decide +kernel) ⟨Nat.le_of_ble_eq_true rfl, Nat.le_of_ble_eq_true rfl⟩) rfl (by first | decide | omega) rfl s35 rfl rfl (Nat.le_of_ble_eq_true rfl) ⟨Nat.zero_le _, Nat.zero_le _⟩ dX3_addMessage_49 (fun Ez36 hp37 => ?_)
          obtain ⟨hs38, hg39⟩ := hp37
          have f41 : Ez36 (1) = .inr (0, [.ref (ad 2), .ref (ad 3)]) := (hg39 (1) (by omega)).trans f28
          have f42 : Ez36 (2) = aI cI 27 wd := (hg39 (2) (by omega)).trans f29
          have f43 : Ez36 (3) = aI cI 162 dt := (hg39 (3) (by omega)).trans f30
          have f44 : Ez36 (8 + 3 * j) = .inr (1, [.ref (ad (9 + 3 * j)), .int (nI (co)), .int (nI (L0.length)), .int (wi0)]) := (hg39 (8 + 3 * j) (by omega)).trans f31
          have f45 : Ez36 (9 + 3 * j) = .inr (4, [.ref (ad (10 + 3 * j)), .int (nI (len))]) := (hg39 (9 + 3 * j) (by omega)).trans f32
          have f46 : Ez36 (10 + 3 * j) = aI cI 12 g := (hg39 (10 + 3 * j) (by omega)).trans f33
          have g47 : ∀ k : Nat, ((k < 26 ∨ 28 < k) ∧ k ≠ 8 + 3 * j) → Ez36 k = E k := fun k hk => (hg39 k (by omega)).trans (g34 k hk)
          obtain ⟨_, _, s48, -, -, -⟩ := id hs38
          refine z_iincN (j := 1) C [(0, .ref (ad 26)), (1, .ref (ad (8 + 3 * j))), (2, .ref (ad 1)), (3, .int (nI (i + 1)))] dX3_addMessage_52 rfl (by decide) ⟨rfl, rfl, rfl, rfl, rfl, rfl, rfl, rfl, trivial⟩ ?_
          refine z_goto C 10 dX3_addMessage_55 (by decide) ?_
          refine z_lv [(0, .ref (ad 26)), (1, .ref (ad (8 + 3 * j))), (2, .ref (ad 1)), (3, .int (nI (i + 1)))] ⟨rfl, rfl, rfl, rfl, rfl, rfl, rfl, rfl, trivial⟩ ?_
          exact ih10 (i + 1) Ez36 (by omega) (by rw [mcols]; (first | rw [if_neg hi0] | rw [if_pos hi0]); rw [← List.append_assoc, ← List.append_assoc]; exact hs38) f41 f42 f43 f44 f45 f46 g47 (by omega)
        · have hi0 : i = 0 := h23
          rw [if_pos hi0] at hmw
          refine z_iconst C (nI (0)) dX3_addMessage_26 (by decide) ?_
          refine z_goto C 31 dX3_addMessage_27 (by decide) ?_
          refine z_callVV C (26) (Cn := RX3) (T := TX3) (N := 3) (k_X3_addDark vl D cI cM A ad E2 hX qs (by rw [hln]; omega)) (cwV 1 C.2.2.2.2.1 gX3_addMessage_X3_addDark rfl rfl rfl (by decide +kernel) ⟨Nat.le_of_ble_eq_true rfl, Nat.le_of_ble_eq_true rfl⟩) rfl (by first | decide | omega) rfl s26 rfl rfl (Nat.le_of_ble_eq_true rfl) ⟨Nat.zero_le _, Nat.zero_le _⟩ dX3_addMessage_31 (fun Ez49 hp50 => ?_)
          obtain ⟨hs51, hg52⟩ := hp50
          have f54 : Ez49 (1) = .inr (0, [.ref (ad 2), .ref (ad 3)]) := (hg52 (1) (by omega)).trans q1
          have f55 : Ez49 (2) = aI cI 27 wd := (hg52 (2) (by omega)).trans q2
          have f56 : Ez49 (3) = aI cI 162 dt := (hg52 (3) (by omega)).trans q3
          have f57 : Ez49 (8 + 3 * j) = .inr (1, [.ref (ad (9 + 3 * j)), .int (nI (co)), .int (nI (L0.length)), .int (wi0)]) := (hg52 (8 + 3 * j) (by omega)).trans q8
          have f58 : Ez49 (9 + 3 * j) = .inr (4, [.ref (ad (10 + 3 * j)), .int (nI (len))]) := (hg52 (9 + 3 * j) (by omega)).trans q9
          have f59 : Ez49 (10 + 3 * j) = aI cI 12 g := (hg52 (10 + 3 * j) (by omega)).trans q10
          have g60 : ∀ k : Nat, ((k < 26 ∨ 28 < k) ∧ k ≠ 8 + 3 * j) → Ez49 k = E k := fun k hk => (hg52 k (by omega)).trans (qf k hk)
          obtain ⟨_, _, s61, -, -, -⟩ := id hs51
          refine z_aload_n C dX3_addMessage_34 rfl ?_
          refine z_aload_n C dX3_addMessage_35 rfl ?_
          refine z_getN C (8 + 3 * j) (Cn := RX1) (T := TX1) (N := 4) (fi := 0) iw_X3_addMessage_1 rfl (by decide) nl_X3_44 (by first | decide | omega) rfl f57 rfl dX3_addMessage_36 ?_
          refine z_getN C (9 + 3 * j) (Cn := RX4) (T := TX4) (N := 2) (fi := 0) iw_X3_addMessage_4 rfl (by decide) nl_X3_51 (by first | decide | omega) rfl f58 rfl dX3_addMessage_39 ?_
          refine z_iload_n C dX3_addMessage_42 rfl ?_
          refine z_ialdG C (10 + 3 * j) (by first | decide | omega) rfl f59 (by omega) (by decide) dX3_addMessage_43 ?_
          refine z_aload_n C dX3_addMessage_44 rfl ?_
          refine z_getN C (8 + 3 * j) (Cn := RX1) (T := TX1) (N := 4) (fi := 1) iw_X3_addMessage_1 rfl (by decide) nl_X3_54 (by first | decide | omega) rfl f57 rfl dX3_addMessage_45 ?_
          refine z_aload_n C dX3_addMessage_48 rfl ?_
          refine z_callVV C (26) (Cn := RX3) (T := TX3) (N := 3) (k_X3_addGlyph vl D cI cM A ad Ez49 hX hs51 (by rw [List.length_append, hln, dk_len]; omega) f54 f55 f56 hgi hw6) (cwV 3 C.2.2.2.2.1 gX3_addMessage_X3_addGlyph rfl rfl rfl (by decide +kernel) ⟨Nat.le_of_ble_eq_true rfl, Nat.le_of_ble_eq_true rfl⟩) rfl (by first | decide | omega) rfl s61 rfl rfl (Nat.le_of_ble_eq_true rfl) ⟨Nat.zero_le _, Nat.zero_le _⟩ dX3_addMessage_49 (fun Ez62 hp63 => ?_)
          obtain ⟨hs64, hg65⟩ := hp63
          have f67 : Ez62 (1) = .inr (0, [.ref (ad 2), .ref (ad 3)]) := (hg65 (1) (by omega)).trans f54
          have f68 : Ez62 (2) = aI cI 27 wd := (hg65 (2) (by omega)).trans f55
          have f69 : Ez62 (3) = aI cI 162 dt := (hg65 (3) (by omega)).trans f56
          have f70 : Ez62 (8 + 3 * j) = .inr (1, [.ref (ad (9 + 3 * j)), .int (nI (co)), .int (nI (L0.length)), .int (wi0)]) := (hg65 (8 + 3 * j) (by omega)).trans f57
          have f71 : Ez62 (9 + 3 * j) = .inr (4, [.ref (ad (10 + 3 * j)), .int (nI (len))]) := (hg65 (9 + 3 * j) (by omega)).trans f58
          have f72 : Ez62 (10 + 3 * j) = aI cI 12 g := (hg65 (10 + 3 * j) (by omega)).trans f59
          have g73 : ∀ k : Nat, ((k < 26 ∨ 28 < k) ∧ k ≠ 8 + 3 * j) → Ez62 k = E k := fun k hk => (hg65 k (by omega)).trans (g60 k hk)
          obtain ⟨_, _, s74, -, -, -⟩ := id hs64
          refine z_iincN (j := 1) C [(0, .ref (ad 26)), (1, .ref (ad (8 + 3 * j))), (2, .ref (ad 1)), (3, .int (nI (i + 1)))] dX3_addMessage_52 rfl (by decide) ⟨rfl, rfl, rfl, rfl, rfl, rfl, rfl, rfl, trivial⟩ ?_
          refine z_goto C 10 dX3_addMessage_55 (by decide) ?_
          refine z_lv [(0, .ref (ad 26)), (1, .ref (ad (8 + 3 * j))), (2, .ref (ad 1)), (3, .int (nI (i + 1)))] ⟨rfl, rfl, rfl, rfl, rfl, rfl, rfl, rfl, trivial⟩ ?_
          exact ih10 (i + 1) Ez62 (by omega) (by rw [mcols]; (first | rw [if_neg hi0] | rw [if_pos hi0]); rw [← List.append_assoc, ← List.append_assoc]; exact hs64) f67 f68 f69 f70 f71 f72 g73 (by omega)
  refine z_lv [(0, .ref (ad 26)), (1, .ref (ad (8 + 3 * j))), (2, .ref (ad 1)), (3, .int (nI (0)))] ⟨rfl, rfl, rfl, rfl, rfl, rfl, rfl, rfl, trivial⟩ ?_
  exact loop10 (len + 1) 0 Ez2 (Nat.zero_le _) (by show StripAt cI ad Ez2 (L0 ++ []); rw [List.append_nil]; exact hs.mv (va_up_of hE1 (by omega) rfl) (va_up_of hE1 (by omega) rfl) (va_up_of hE1 (by omega) rfl)) f3 f4 f5 f10 f7 f8 g11 (by omega)
end
section
def Msg (cI : ClassId) (ad : Nat → Nat) (E : Nat → va_E) (j : Nat) (sz co st wi : Int32) (g : Nat → Nat) : Prop := E (8 + 3 * j) = .inr (1, [.ref (ad (9 + 3 * j)), .int co, .int st, .int wi]) ∧ E (9 + 3 * j) = .inr (4, [.ref (ad (10 + 3 * j)), .int sz]) ∧ E (10 + 3 * j) = aI cI 12 g
def PM (pm : Nat → Nat) : Prop := (∀ i, i < 6 → pm i < 6) ∧ ∀ i k, i < 6 → k < 6 → pm i = pm k → i = k
theorem Msg.mv {cI : ClassId} {ad : Nat → Nat} {E E1 : Nat → va_E} {j : Nat} {sz co st wi : Int32} {g : Nat → Nat} (h : Msg cI ad E j sz co st wi g) (h8 : E1 (8 + 3 * j) = E (8 + 3 * j)) (h9 : E1 (9 + 3 * j) = E (9 + 3 * j)) (h0 : E1 (10 + 3 * j) = E (10 + 3 * j)) : Msg cI ad E1 j sz co st wi g := ⟨h8.trans h.1, h9.trans h.2.1, h0.trans h.2.2⟩
theorem mcols_cg {wd dt : Nat → Nat} {co : Nat} {g h : Nat → Nat} : ∀ {k : Nat}, (∀ i, i < k → g i = h i) → mcols wd dt co g k = mcols wd dt co h k
  | 0, _ => rfl
  | k + 1, e => by rw [mcols, mcols, mcols_cg (fun i hi => e i (by omega)), e k (by omega)]
theorem mW_cg {wd : Nat → Nat} {g h : Nat → Nat} : ∀ {k : Nat}, (∀ i, i < k → g i = h i) → mW wd g k = mW wd h k
  | 0, _ => rfl
  | k + 1, e => by rw [mW, mW, mW_cg (fun i hi => e i (by omega)), e k (by omega)]
theorem iw_X3_layOut_3 : ∀ w ∈ wsX30, w ∈ wsX3_layOut := by decide +kernel
theorem ln_X3_layOut_18 : Cond.fieldLink RX3 18 "MarqueeDisplay$Strip" "length" "I" ∈ wsX3_layOut := by decide +kernel
theorem iw_X3_layOut_2 : ∀ w ∈ wsX20, w ∈ wsX3_layOut := by decide +kernel
theorem nl_X3_22 : Cond.fieldLinkNest RX3 22 "MarqueeDisplay$MessageList" "count" "I" "MarqueeDisplay" ∈ nwL := by decide +kernel
set_option maxHeartbeats 4000000 in
set_option maxRecDepth 100000 in
theorem k_X3_layOut (vl : Launch) (D : va_G) (cI cM : ClassId) (A : Nat → Prop) (ad : Nat → Nat) (E : Nat → va_E) (hX : XD A 40 ad) {wd dt : Nat → Nat} {G n : Nat} {pm sz co : Nat → Nat} {le : Nat → Nat → Nat} {l0 : List (Nat × Nat)} (hs : StripAt cI ad E l0) (e1 : E (1) = .inr (0, [.ref (ad 2), .ref (ad 3)])) (e2 : E (2) = aI cI 27 wd) (e3 : E (3) = aI cI 162 dt) (l6 : E (6) = .inr (2, [.ref (ad 7), .int (nI (n))])) (l7 : E (7) = .inl (cM, 6, .inr (.inr (.inr (.inr (sf ad pm)))))) (hn : n ≤ 6) (hG : G ≤ 9) (hpm : PM pm) (hw : ∀ c, c < 27 → wd c ≤ 6) (hsz : ∀ i, i < n → sz i ≤ 12 ∧ ∀ k, k < sz i → le i k < 27) (hm : ∀ k : Nat, k < n → ∃ (st wi : Int32) (g : Nat → Nat), Msg cI ad E (pm k) (nI (sz k)) (nI (co k)) st wi g ∧ ∀ q : Nat, q < sz k → g q = le k q) : MV vl yX3_layOut wsX3_layOut { frames := 3, cells := 0, slots := 0, locals := 69 } D cI cM A 40 ad E [.ref (ad 26), .ref (ad 6), .ref (ad 1), .int (nI (G))] (fun E1 => StripAt cI ad E1 (scols wd dt G sz co le n) ∧ (∀ k : Nat, k < n → ∃ g : Nat → Nat, Msg cI ad E1 (pm k) (nI (sz k)) (nI (co k)) (nI (sL wd G sz le k)) (nI (mW wd (le k) (sz k))) g ∧ ∀ q : Nat, q < sz k → g q = le k q) ∧ ∀ k : Nat, ((k < 26 ∨ 28 < k) ∧ ∀ q : Nat, q < n → k ≠ 8 + 3 * pm q) → E1 k = E k) := by
  refine mv_of cX3_layOut 6 RX3 (by decide) rfl rfl (Nat.le_of_ble_eq_true rfl) ?_
  intro vp ve vs vm va vb vt vc Q C hend
  refine z_lv [(0, .ref (ad 26)), (1, .ref (ad 6)), (2, .ref (ad 1)), (3, .int (nI (G)))] ⟨rfl, rfl, rfl, rfl, rfl, rfl, rfl, rfl, trivial⟩ ?_
  obtain ⟨sd, sc, s26, s27, s28, hsp⟩ := id hs
  refine z_aload_n C dX3_layOut_0 rfl ?_
  refine z_iconst C (nI (0)) dX3_layOut_1 (by decide) ?_
  refine z_put C (26) (Cn := RX3) (T := TX3) (N := 3) (fi := 2) tyX3 iw_X3_layOut_3 tyX3_ok nmX3 rfl (by decide) ln_X3_layOut_18 hX (by first | decide | omega) rfl s26 rfl rfl rfl rfl (Nat.le_of_ble_eq_true rfl) dX3_layOut_2 (fun Ez2 hE1 => ?_)
  have f3 : Ez2 (1) = .inr (0, [.ref (ad 2), .ref (ad 3)]) := va_up_of hE1 (by first | decide | omega) e1
  have f4 : Ez2 (2) = aI cI 27 wd := va_up_of hE1 (by first | decide | omega) e2
  have f5 : Ez2 (3) = aI cI 162 dt := va_up_of hE1 (by first | decide | omega) e3
  have f6 : Ez2 (6) = .inr (2, [.ref (ad 7), .int (nI (n))]) := va_up_of hE1 (by first | decide | omega) l6
  have f7 : Ez2 (7) = .inl (cM, 6, .inr (.inr (.inr (.inr (sf ad pm))))) := va_up_of hE1 (by first | decide | omega) l7
  have f9 : Ez2 (26) = .inr (3, [.ref (ad 27), .ref (ad 28), .int (nI (0))]) := va_up_eq hE1
  have g10 : ∀ k : Nat, ((k < 26 ∨ 28 < k) ∧ ∀ q : Nat, q < n → k ≠ 8 + 3 * pm q) → Ez2 k = E k := fun k hk => va_up_of hE1 (by omega) ((fun _ _ => rfl) k hk)
  have hm0 : ∀ k : Nat, k < n → ∃ (st wi : Int32) (g : Nat → Nat), Msg cI ad Ez2 (pm k) (nI (sz k)) (nI (co k)) st wi g ∧ (∀ q : Nat, q < sz k → g q = le k q) ∧ (k < 0 → st = nI (sL wd G sz le k) ∧ wi = nI (mW wd (le k) (sz k))) := by
    intro k hk
    obtain ⟨st2, wi2, g2, hM2, hg2⟩ := hm k hk
    have hpk := hpm.1 k (by omega)
    exact ⟨st2, wi2, g2, hM2.mv (va_up_of hE1 (by omega) rfl) (va_up_of hE1 (by omega) rfl) (va_up_of hE1 (by omega) rfl), hg2, fun q => absurd q (Nat.not_lt_zero _)⟩
  refine z_iconst C (nI (0)) dX3_layOut_5 (by decide) ?_
  refine z_istore C [(0, .ref (ad 26)), (1, .ref (ad 6)), (2, .ref (ad 1)), (3, .int (nI (G))), (4, .int (nI (0)))] dX3_layOut_6 (by decide) ⟨rfl, rfl, rfl, rfl, rfl, rfl, rfl, rfl, rfl, rfl, trivial⟩ ?_
  have loop8 : ∀ (fuel : Nat) (i : Nat) (E2 : Nat → va_E), (hi : i ≤ n) → (qs : StripAt cI ad E2 (scols wd dt G sz co le i)) → (q1 : E2 (1) = .inr (0, [.ref (ad 2), .ref (ad 3)])) → (q2 : E2 (2) = aI cI 27 wd) → (q3 : E2 (3) = aI cI 162 dt) → (q6 : E2 (6) = .inr (2, [.ref (ad 7), .int (nI (n))])) → (q7 : E2 (7) = .inl (cM, 6, .inr (.inr (.inr (.inr (sf ad pm)))))) → (qm : ∀ k : Nat, k < n → ∃ (st wi : Int32) (g : Nat → Nat), Msg cI ad E2 (pm k) (nI (sz k)) (nI (co k)) st wi g ∧ (∀ q : Nat, q < sz k → g q = le k q) ∧ (k < i → st = nI (sL wd G sz le k) ∧ wi = nI (mW wd (le k) (sz k)))) → (qf : ∀ k : Nat, ((k < 26 ∨ 28 < k) ∧ ∀ q : Nat, q < n → k ≠ 8 + 3 * pm q) → E2 k = E k) → n - i < fuel → Z vp vl ve { frames := 3, cells := 0, slots := 0, locals := 69 } vs vm va vb vt vc 6 D A 40 ad E2 [(0, .ref (ad 26)), (1, .ref (ad 6)), (2, .ref (ad 1)), (3, .int (nI (G))), (4, .int (nI (i)))] 0 0 Q 8 [] := by
    intro fuel
    induction fuel with
    | zero => intro i E2 hi qs q1 q2 q3 q6 q7 qm qf hlt; exact absurd hlt (Nat.not_lt_zero _)
    | succ fuel ih =>
      intro i E2 hi qs q1 q2 q3 q6 q7 qm qf hlt
      obtain ⟨_, _, s26, -, -, -⟩ := id qs
      have ih8 := ih
      refine z_iload C dX3_layOut_8 rfl ?_
      refine z_aload_n C dX3_layOut_10 rfl ?_
      refine z_getN C (6) (Cn := RX2) (T := TX2) (N := 2) (fi := 1) iw_X3_layOut_2 rfl (by decide) nl_X3_22 (by first | decide | omega) rfl q6 rfl dX3_layOut_11 ?_
      refine z_icmp_geN C 48 (by omega) (by omega) dX3_layOut_14 (by decide) (fun h14 => ?_) (fun h14 => ?_)
      · have hie : i = n := by omega
        rw [hie] at qs
        exact hend _ _ _ dX3_layOut_48 (⟨qs, fun k hk => by obtain ⟨st2, wi2, g2, hM2, hg2, hd2⟩ := qm k hk; obtain ⟨rfl, rfl⟩ := hd2 (by omega); exact ⟨g2, hM2, hg2⟩, qf⟩)
      · have hL1 := sL_le (sz := sz) (le := le) hw hG (i + 1) (fun k hk => hsz k (by omega))
        have hL2 : sL wd G sz le (i + 1) = sL wd G sz le i + mW wd (le i) (sz i) + G := rfl
        have hpi := hpm.1 i (by omega)
        obtain ⟨st1, wi1, g, ⟨m8, m9, m10⟩, hgl, -⟩ := qm i h14
        refine z_aload_n C dX3_layOut_17 rfl ?_
        refine z_iload C dX3_layOut_18 rfl ?_
        refine z_callVQ C (6) (Cn := RX2) (T := TX2) (N := 2) (k_X2_find_y vl D cI cM A ad E2 hX q6 q7 h14 hn) (cwV 1 C.2.2.2.2.1 gX3_layOut_X2_find rfl rfl rfl (by decide +kernel) ⟨Nat.le_of_ble_eq_true rfl, Nat.le_of_ble_eq_true rfl⟩) rfl (by first | decide | omega) rfl q6 rfl rfl (Nat.le_of_ble_eq_true rfl) ⟨Nat.zero_le _, Nat.zero_le _⟩ dX3_layOut_20 ?_
        refine z_astore C [(0, .ref (ad 26)), (1, .ref (ad 6)), (2, .ref (ad 1)), (3, .int (nI (G))), (4, .int (nI (i))), (5, .ref (ad (8 + 3 * (pm i))))] dX3_layOut_23 (by decide) ⟨rfl, rfl, rfl, rfl, rfl, rfl, rfl, rfl, rfl, rfl, rfl, rfl, trivial⟩ ?_
        refine z_aload C dX3_layOut_25 rfl ?_
        refine z_ifnull C dX3_layOut_27 ?_
        refine z_aload_n C dX3_layOut_30 rfl ?_
        refine z_aload C dX3_layOut_31 rfl ?_
        refine z_aload_n C dX3_layOut_33 rfl ?_
        refine z_callVV C (26) (Cn := RX3) (T := TX3) (N := 3) (k_X3_addMessage vl D cI cM A ad E2 hX qs (by rw [scols_len, mW_cg hgl]; omega) q1 q2 q3 m8 m9 m10 hpi (hsz i h14).1 (fun k hk => by rw [hgl k hk]; exact (hsz i h14).2 k hk) hw) (cwV 2 C.2.2.2.2.1 gX3_layOut_X3_addMessage rfl rfl rfl (by decide +kernel) ⟨Nat.le_of_ble_eq_true rfl, Nat.le_of_ble_eq_true rfl⟩) rfl (by first | decide | omega) rfl s26 rfl rfl (Nat.le_of_ble_eq_true rfl) ⟨Nat.zero_le _, Nat.zero_le _⟩ dX3_layOut_34 (fun Ez11 hp12 => ?_)
        obtain ⟨ha, hm8, hga⟩ := hp12
        rw [mcols_cg hgl] at ha
        rw [scols_len, mW_cg hgl] at hm8
        have f13 : Ez11 (1) = .inr (0, [.ref (ad 2), .ref (ad 3)]) := (hga (1) (by omega)).trans q1
        have f14 : Ez11 (2) = aI cI 27 wd := (hga (2) (by omega)).trans q2
        have f15 : Ez11 (3) = aI cI 162 dt := (hga (3) (by omega)).trans q3
        have f16 : Ez11 (6) = .inr (2, [.ref (ad 7), .int (nI (n))]) := (hga (6) (by omega)).trans q6
        have f17 : Ez11 (7) = .inl (cM, 6, .inr (.inr (.inr (.inr (sf ad pm))))) := (hga (7) (by omega)).trans q7
        obtain ⟨_, _, t26, -, -, -⟩ := id ha
        refine z_aload_n C dX3_layOut_37 rfl ?_
        refine z_iload_n C dX3_layOut_38 rfl ?_
        refine z_callVV C (26) (Cn := RX3) (T := TX3) (N := 3) (k_X3_addDark vl D cI cM A ad Ez11 hX ha (by rw [List.length_append, scols_len, mcols_len]; omega)) (cwV 1 C.2.2.2.2.1 gX3_layOut_X3_addDark rfl rfl rfl (by decide +kernel) ⟨Nat.le_of_ble_eq_true rfl, Nat.le_of_ble_eq_true rfl⟩) rfl (by first | decide | omega) rfl t26 rfl rfl (Nat.le_of_ble_eq_true rfl) ⟨Nat.zero_le _, Nat.zero_le _⟩ dX3_layOut_39 (fun Ez18 hp19 => ?_)
        obtain ⟨hb, hgb⟩ := hp19
        have f20 : Ez18 (1) = .inr (0, [.ref (ad 2), .ref (ad 3)]) := (hgb (1) (by omega)).trans f13
        have f21 : Ez18 (2) = aI cI 27 wd := (hgb (2) (by omega)).trans f14
        have f22 : Ez18 (3) = aI cI 162 dt := (hgb (3) (by omega)).trans f15
        have f23 : Ez18 (6) = .inr (2, [.ref (ad 7), .int (nI (n))]) := (hgb (6) (by omega)).trans f16
        have f24 : Ez18 (7) = .inl (cM, 6, .inr (.inr (.inr (.inr (sf ad pm))))) := (hgb (7) (by omega)).trans f17
        have hfr : ∀ k : Nat, (k < 26 ∨ 28 < k) ∧ k ≠ 8 + 3 * pm i → Ez18 k = E2 k := fun k hk => (hgb k hk.1).trans (hga k hk)
        have hm9 : ∀ k : Nat, k < n → ∃ (st wi : Int32) (g : Nat → Nat), Msg cI ad Ez18 (pm k) (nI (sz k)) (nI (co k)) st wi g ∧ (∀ q : Nat, q < sz k → g q = le k q) ∧ (k < i + 1 → st = nI (sL wd G sz le k) ∧ wi = nI (mW wd (le k) (sz k))) := by
          intro k hk
          by_cases e : k = i
          · subst e
            exact ⟨_, _, g, ⟨(hgb _ (by omega)).trans hm8, (hfr _ (by omega)).trans m9, (hfr _ (by omega)).trans m10⟩, hgl, fun _ => ⟨rfl, rfl⟩⟩
          · obtain ⟨st2, wi2, g2, hM2, hg2, hd2⟩ := qm k hk
            have hpk := hpm.1 k (by omega)
            have hne : pm k ≠ pm i := fun q => e (hpm.2 k i (by omega) (by omega) q)
            exact ⟨st2, wi2, g2, hM2.mv (hfr _ (by omega)) (hfr _ (by omega)) (hfr _ (by omega)), hg2, fun q => hd2 (by omega)⟩
        have hf9 : ∀ k : Nat, ((k < 26 ∨ 28 < k) ∧ ∀ q : Nat, q < n → k ≠ 8 + 3 * pm q) → Ez18 k = E k := fun k hk => (hfr k ⟨hk.1, hk.2 i h14⟩).trans (qf k hk)
        refine z_iincN (j := 1) C [(0, .ref (ad 26)), (1, .ref (ad 6)), (2, .ref (ad 1)), (3, .int (nI (G))), (4, .int (nI (i + 1))), (5, .ref (ad (8 + 3 * (pm i))))] dX3_layOut_42 rfl (by decide) ⟨rfl, rfl, rfl, rfl, rfl, rfl, rfl, rfl, rfl, rfl, rfl, rfl, trivial⟩ ?_
        refine z_goto C 8 dX3_layOut_45 (by decide) ?_
        refine z_lv [(0, .ref (ad 26)), (1, .ref (ad 6)), (2, .ref (ad 1)), (3, .int (nI (G))), (4, .int (nI (i + 1)))] ⟨rfl, rfl, rfl, rfl, rfl, rfl, rfl, rfl, rfl, rfl, trivial⟩ ?_
        exact ih8 (i + 1) Ez18 (by omega) (by rw [scols]; exact hb) f20 f21 f22 f23 f24 hm9 hf9 (by omega)
  refine z_lv [(0, .ref (ad 26)), (1, .ref (ad 6)), (2, .ref (ad 1)), (3, .int (nI (G))), (4, .int (nI (0)))] ⟨rfl, rfl, rfl, rfl, rfl, rfl, rfl, rfl, rfl, rfl, trivial⟩ ?_
  exact loop8 (n + 1) 0 Ez2 (Nat.zero_le _) ⟨sd, sc, f9, va_up_of hE1 (by decide) s27, va_up_of hE1 (by decide) s28, SP_nil⟩ f3 f4 f5 f6 f7 hm0 g10 (by omega)
end
section
def shu (pm : Nat → Nat) (i n : Nat) : Nat → Nat := fun k => if i < k ∧ k ≤ n then pm (k - 1) else pm k
theorem shu_0 (pm : Nat → Nat) (n : Nat) : shu pm n n = pm := by funext k; show (if n < k ∧ k ≤ n then pm (k - 1) else pm k) = pm k; rw [if_neg (by omega)]
theorem shu_s {pm : Nat → Nat} {i n : Nat} (h0 : 0 < i) (hn : i ≤ n) : va_up (shu pm i n) i (shu pm i n (i - 1)) = shu pm (i - 1) n := by
  funext k
  have e1 : shu pm i n (i - 1) = pm (i - 1) := by show (if i < i - 1 ∧ i - 1 ≤ n then pm (i - 1 - 1) else pm (i - 1)) = pm (i - 1); rw [if_neg (by omega)]
  rw [e1]
  by_cases hk : k = i
  · subst hk
    rw [va_up_self]
    show pm (k - 1) = if k - 1 < k ∧ k ≤ n then pm (k - 1) else pm k
    rw [if_pos (by omega)]
  · rw [va_up_ne _ _ hk]
    show (if i < k ∧ k ≤ n then pm (k - 1) else pm k) = if i - 1 < k ∧ k ≤ n then pm (k - 1) else pm k
    by_cases h : i < k ∧ k ≤ n
    · rw [if_pos h, if_pos (by omega)]
    · rw [if_neg h, if_neg (by omega)]
theorem shu_lt {pm : Nat → Nat} (hpm : PM pm) {i n k : Nat} (hk : k < 6) : shu pm i n k < 6 := by
  show (if i < k ∧ k ≤ n then pm (k - 1) else pm k) < 6
  by_cases h : i < k ∧ k ≤ n
  · rw [if_pos h]; exact hpm.1 _ (by omega)
  · rw [if_neg h]; exact hpm.1 _ hk
theorem iw_X2_insert_2 : ∀ w ∈ wsX20, w ∈ wsX2_insert := by decide +kernel
theorem ln_X2_insert_18 : Cond.fieldLink RX2 18 "MarqueeDisplay$MessageList" "count" "I" ∈ wsX2_insert := by decide +kernel
theorem ln_X2_insert_11 : Cond.fieldLink RX2 11 "MarqueeDisplay$MessageList" "slots" "[LMarqueeDisplay$Message;" ∈ wsX2_insert := by decide +kernel
theorem iw_X2_insert_1 : ∀ w ∈ wsX10, w ∈ wsX2_insert := by decide +kernel
theorem nl_X2_26 : Cond.fieldLinkNest RX2 26 "MarqueeDisplay$Message" "text" "LMarqueeDisplay$Text;" "MarqueeDisplay" ∈ nwL := by decide +kernel
theorem nl_X2_36 : Cond.fieldLinkNest RX2 36 "MarqueeDisplay$Message" "color" "I" "MarqueeDisplay" ∈ nwL := by decide +kernel
set_option maxHeartbeats 4000000 in
set_option maxRecDepth 100000 in
theorem k_X2_insert (vl : Launch) (D : va_G) (cI cM : ClassId) (A : Nat → Prop) (ad : Nat → Nat) (E : Nat → va_E) (hX : XD A 40 ad) {n tl j col : Nat} {pm tx g0 : Nat → Nat} {co0 st0 wi0 sz0 : Int32} (l6 : E (6) = .inr (2, [.ref (ad 7), .int (nI (n))])) (l7 : E (7) = .inl (cM, 6, .inr (.inr (.inr (.inr (sf ad pm)))))) (b4 : E (4) = .inr (4, [.ref (ad 5), .int (nI (tl))])) (b5 : E (5) = aI cI 12 tx) (m8 : E (8 + 3 * (pm n)) = .inr (1, [.ref (ad (9 + 3 * (pm n))), .int (co0), .int (st0), .int (wi0)])) (m9 : E (9 + 3 * (pm n)) = .inr (4, [.ref (ad (10 + 3 * (pm n))), .int (sz0)])) (m10 : E (10 + 3 * (pm n)) = aI cI 12 g0) (hn : n < 6) (hj : j ≤ n) (hpm : PM pm) (hob : ∀ q : Nat, q < 6 → ∃ vs : List Value, E (8 + 3 * q) = .inr (1, vs)) : MV vl yX2_insert wsX2_insert { frames := 1, cells := 0, slots := 0, locals := 22 } D cI cM A 40 ad E [.ref (ad 6), .int (nI (j)), .ref (ad 4), .int (nI (col))] (fun E1 => E1 6 = .inr (2, [.ref (ad 7), .int (nI (n + 1))]) ∧ E1 7 = .inl (cM, 6, .inr (.inr (.inr (.inr (sf ad (va_up (shu pm j n) j (pm n))))))) ∧ (∃ g2 : Nat → Nat, Msg cI ad E1 (pm n) (nI tl) (nI col) st0 wi0 g2 ∧ ∀ k : Nat, k < 12 → g2 k = tx k) ∧ ∀ k : Nat, (k ≠ 6 ∧ k ≠ 7 ∧ k ≠ 8 + 3 * pm n ∧ k ≠ 9 + 3 * pm n ∧ k ≠ 10 + 3 * pm n) → E1 k = E k) := by
  refine mv_of cX2_insert 6 RX2 (by decide) rfl rfl (Nat.le_of_ble_eq_true rfl) ?_
  intro vp ve vs vm va vb vt vc Q C hend
  refine z_lv [(0, .ref (ad 6)), (1, .int (nI (j))), (2, .ref (ad 4)), (3, .int (nI (col)))] ⟨rfl, rfl, rfl, rfl, rfl, rfl, rfl, rfl, trivial⟩ ?_
  have hpn := hpm.1 n hn
  refine z_aload_n C dX2_insert_0 rfl ?_
  refine z_get C (6) (Cn := RX2) (T := TX2) (N := 2) (fi := 1) iw_X2_insert_2 rfl (by decide) ln_X2_insert_18 (by first | decide | omega) rfl l6 rfl dX2_insert_1 ?_
  refine z_aload_n C dX2_insert_4 rfl ?_
  refine z_get C (6) (Cn := RX2) (T := TX2) (N := 2) (fi := 0) iw_X2_insert_2 rfl (by decide) ln_X2_insert_11 (by first | decide | omega) rfl l6 rfl dX2_insert_5 ?_
  refine z_alenq C (7) (by first | decide | omega) rfl l7 dX2_insert_8 ?_
  refine z_icmp_geN C 36 (by omega) (by omega) dX2_insert_9 (by decide) (fun h9 => (by exfalso; omega)) (fun h9 => ?_)
  refine z_iload_n C dX2_insert_12 rfl ?_
  refine z_iconst C (nI (0)) dX2_insert_13 (by decide) ?_
  refine z_aload_n C dX2_insert_14 rfl ?_
  refine z_get C (6) (Cn := RX2) (T := TX2) (N := 2) (fi := 1) iw_X2_insert_2 rfl (by decide) ln_X2_insert_18 (by first | decide | omega) rfl l6 rfl dX2_insert_15 ?_
  refine z_callSNF C (host := "MarqueeDisplay") (k_X5_isWithin vl D cI cM A ad E hX (nI (j)) (nI (0)) (nI (n))) ⟨va_cnB (host := "MarqueeDisplay") 3 C.2.2.2.2.1 gX2_insert_X5_isWithin_n22 rfl rfl rfl (C.2.2.2.2.2.2.1 _ (by decide +kernel)) (C.2.2.2.2.1 _ (by decide +kernel)) (by decide +kernel) ⟨Nat.le_of_ble_eq_true rfl, Nat.le_of_ble_eq_true rfl⟩, C.2.2.2.2.1 _ (by decide +kernel), trivial⟩ rfl rfl (Nat.le_of_ble_eq_true rfl) ⟨Nat.zero_le _, Nat.zero_le _⟩ dX2_insert_18 ?_
  refine z_top (nI (1)) (iw_yN ⟨Nat.zero_le _, by omega⟩ (by omega)) ?_
  refine z_if_eqN C 36 (by omega) dX2_insert_21 (by decide) (fun h21 => (by exfalso; omega)) (fun h21 => ?_)
  refine z_aload_n C dX2_insert_24 rfl ?_
  refine z_get C (6) (Cn := RX2) (T := TX2) (N := 2) (fi := 0) iw_X2_insert_2 rfl (by decide) ln_X2_insert_11 (by first | decide | omega) rfl l6 rfl dX2_insert_25 ?_
  refine z_aload_n C dX2_insert_28 rfl ?_
  refine z_get C (6) (Cn := RX2) (T := TX2) (N := 2) (fi := 1) iw_X2_insert_2 rfl (by decide) ln_X2_insert_18 (by first | decide | omega) rfl l6 rfl dX2_insert_29 ?_
  refine z_aldq C (7) (some (ad (8 + 3 * (pm n)))) (by first | decide | omega) rfl l7 (by omega) (by decide) (rfl) dX2_insert_32 ?_
  refine z_ifnonnull C 37 dX2_insert_33 (by decide) ?_
  refine z_aload_n C dX2_insert_37 rfl ?_
  refine z_get C (6) (Cn := RX2) (T := TX2) (N := 2) (fi := 0) iw_X2_insert_2 rfl (by decide) ln_X2_insert_11 (by first | decide | omega) rfl l6 rfl dX2_insert_38 ?_
  refine z_aload_n C dX2_insert_41 rfl ?_
  refine z_get C (6) (Cn := RX2) (T := TX2) (N := 2) (fi := 1) iw_X2_insert_2 rfl (by decide) ln_X2_insert_18 (by first | decide | omega) rfl l6 rfl dX2_insert_42 ?_
  refine z_aldq C (7) (some (ad (8 + 3 * (pm n)))) (by first | decide | omega) rfl l7 (by omega) (by decide) (rfl) dX2_insert_45 ?_
  refine z_astore C [(0, .ref (ad 6)), (1, .int (nI (j))), (2, .ref (ad 4)), (3, .int (nI (col))), (4, .ref (ad (8 + 3 * (pm n))))] dX2_insert_46 (by decide) ⟨rfl, rfl, rfl, rfl, rfl, rfl, rfl, rfl, rfl, rfl, trivial⟩ ?_
  refine z_aload_n C dX2_insert_48 rfl ?_
  refine z_get C (6) (Cn := RX2) (T := TX2) (N := 2) (fi := 1) iw_X2_insert_2 rfl (by decide) ln_X2_insert_18 (by first | decide | omega) rfl l6 rfl dX2_insert_49 ?_
  refine z_istore C [(0, .ref (ad 6)), (1, .int (nI (j))), (2, .ref (ad 4)), (3, .int (nI (col))), (4, .ref (ad (8 + 3 * (pm n)))), (5, .int (nI (n)))] dX2_insert_52 (by decide) ⟨rfl, rfl, rfl, rfl, rfl, rfl, rfl, rfl, rfl, rfl, rfl, rfl, trivial⟩ ?_
  have loop54 : ∀ (fuel : Nat) (i : Nat) (E2 : Nat → va_E), (hi : j ≤ i ∧ i ≤ n) → (q6 : E2 (6) = .inr (2, [.ref (ad 7), .int (nI (n))])) → (q7 : E2 (7) = .inl (cM, 6, .inr (.inr (.inr (.inr (sf ad (shu pm i n))))))) → (q4 : E2 (4) = .inr (4, [.ref (ad 5), .int (nI (tl))])) → (q5 : E2 (5) = aI cI 12 tx) → (q8 : E2 (8 + 3 * (pm n)) = .inr (1, [.ref (ad (9 + 3 * (pm n))), .int (co0), .int (st0), .int (wi0)])) → (q9 : E2 (9 + 3 * (pm n)) = .inr (4, [.ref (ad (10 + 3 * (pm n))), .int (sz0)])) → (q10 : E2 (10 + 3 * (pm n)) = aI cI 12 g0) → (qo : ∀ q : Nat, q < 6 → ∃ vs : List Value, E2 (8 + 3 * q) = .inr (1, vs)) → (qf : ∀ k : Nat, (k ≠ 6 ∧ k ≠ 7 ∧ k ≠ 8 + 3 * pm n ∧ k ≠ 9 + 3 * pm n ∧ k ≠ 10 + 3 * pm n) → E2 k = E k) → i - j < fuel → Z vp vl ve { frames := 1, cells := 0, slots := 0, locals := 22 } vs vm va vb vt vc 6 D A 40 ad E2 [(0, .ref (ad 6)), (1, .int (nI (j))), (2, .ref (ad 4)), (3, .int (nI (col))), (4, .ref (ad (8 + 3 * (pm n)))), (5, .int (nI (i)))] 0 0 Q 54 [] := by
    intro fuel
    induction fuel with
    | zero => intro i E2 hi q6 q7 q4 q5 q8 q9 q10 qo qf hlt; exact absurd hlt (Nat.not_lt_zero _)
    | succ fuel ih =>
      intro i E2 hi q6 q7 q4 q5 q8 q9 q10 qo qf hlt
      have ih54 := ih
      refine z_iload C dX2_insert_54 rfl ?_
      refine z_iload_n C dX2_insert_56 rfl ?_
      refine z_icmp_leN C 82 (by omega) (by omega) dX2_insert_57 (by decide) (fun h57 => ?_) (fun h57 => ?_)
      · have hie : i = j := by omega
        refine z_aload_n C dX2_insert_82 rfl ?_
        refine z_get C (6) (Cn := RX2) (T := TX2) (N := 2) (fi := 0) iw_X2_insert_2 rfl (by decide) ln_X2_insert_11 (by first | decide | omega) rfl q6 rfl dX2_insert_83 ?_
        refine z_iload_n C dX2_insert_86 rfl ?_
        refine z_aload C dX2_insert_87 rfl ?_
        refine z_astqG C (7) (x := (pm n)) (pm := (shu pm i n)) hX (by first | decide | omega) rfl q7 (by first | decide | omega) q8 (by omega) (by decide) dX2_insert_89 (fun Ez2 hE1 => ?_)
        have f3 : Ez2 (6) = .inr (2, [.ref (ad 7), .int (nI (n))]) := va_up_of hE1 (by first | decide | omega) q6
        have f5 : Ez2 (4) = .inr (4, [.ref (ad 5), .int (nI (tl))]) := va_up_of hE1 (by first | decide | omega) q4
        have f6 : Ez2 (5) = aI cI 12 tx := va_up_of hE1 (by first | decide | omega) q5
        have f7 : Ez2 (8 + 3 * (pm n)) = .inr (1, [.ref (ad (9 + 3 * (pm n))), .int (co0), .int (st0), .int (wi0)]) := va_up_of hE1 (by first | decide | omega) q8
        have f8 : Ez2 (9 + 3 * (pm n)) = .inr (4, [.ref (ad (10 + 3 * (pm n))), .int (sz0)]) := va_up_of hE1 (by first | decide | omega) q9
        have f9 : Ez2 (10 + 3 * (pm n)) = aI cI 12 g0 := va_up_of hE1 (by first | decide | omega) q10
        have f10 : Ez2 (7) = .inl (cM, 6, .inr (.inr (.inr (.inr (sf ad (va_up (shu pm i n) (j) (pm n))))))) := va_up_eq hE1
        have g11 : ∀ k : Nat, (k ≠ 6 ∧ k ≠ 7 ∧ k ≠ 8 + 3 * pm n ∧ k ≠ 9 + 3 * pm n ∧ k ≠ 10 + 3 * pm n) → Ez2 k = E k := fun k hk => va_up_of hE1 (by omega) (qf k hk)
        refine z_aload_n C dX2_insert_90 rfl ?_
        refine z_dup C dX2_insert_91 rfl ?_
        refine z_get C (6) (Cn := RX2) (T := TX2) (N := 2) (fi := 1) iw_X2_insert_2 rfl (by decide) ln_X2_insert_18 (by first | decide | omega) rfl f3 rfl dX2_insert_92 ?_
        refine z_iconst C (nI (1)) dX2_insert_95 (by decide) ?_
        refine z_iaddN C  dX2_insert_96 ?_
        refine z_put C (6) (Cn := RX2) (T := TX2) (N := 2) (fi := 1) tyX2 iw_X2_insert_2 tyX2_ok nmX2 rfl (by decide) ln_X2_insert_18 hX (by first | decide | omega) rfl f3 rfl rfl rfl rfl (Nat.le_of_ble_eq_true rfl) dX2_insert_97 (fun Ez13 hE12 => ?_)
        have f15 : Ez13 (4) = .inr (4, [.ref (ad 5), .int (nI (tl))]) := va_up_of hE12 (by first | decide | omega) f5
        have f16 : Ez13 (5) = aI cI 12 tx := va_up_of hE12 (by first | decide | omega) f6
        have f17 : Ez13 (8 + 3 * (pm n)) = .inr (1, [.ref (ad (9 + 3 * (pm n))), .int (co0), .int (st0), .int (wi0)]) := va_up_of hE12 (by first | decide | omega) f7
        have f18 : Ez13 (9 + 3 * (pm n)) = .inr (4, [.ref (ad (10 + 3 * (pm n))), .int (sz0)]) := va_up_of hE12 (by first | decide | omega) f8
        have f19 : Ez13 (10 + 3 * (pm n)) = aI cI 12 g0 := va_up_of hE12 (by first | decide | omega) f9
        have f20 : Ez13 (7) = .inl (cM, 6, .inr (.inr (.inr (.inr (sf ad (va_up (shu pm i n) (j) (pm n))))))) := va_up_of hE12 (by first | decide | omega) f10
        have f21 : Ez13 (6) = .inr (2, [.ref (ad 7), .int (nI (n + 1))]) := va_up_eq hE12
        have g22 : ∀ k : Nat, (k ≠ 6 ∧ k ≠ 7 ∧ k ≠ 8 + 3 * pm n ∧ k ≠ 9 + 3 * pm n ∧ k ≠ 10 + 3 * pm n) → Ez13 k = E k := fun k hk => va_up_of hE12 (by omega) (g11 k hk)
        refine z_aload C dX2_insert_100 rfl ?_
        refine z_getN C (8 + 3 * (pm n)) (Cn := RX1) (T := TX1) (N := 4) (fi := 0) iw_X2_insert_1 rfl (by decide) nl_X2_26 (by first | decide | omega) rfl f17 rfl dX2_insert_102 ?_
        refine z_aload_n C dX2_insert_105 rfl ?_
        refine z_callVV C (9 + 3 * (pm n)) (Cn := RX4) (T := TX4) (N := 2) (k_X4_copyFrom vl D cI cM A ad Ez13 hX hpn f15 f16 f18 f19) (cwV 1 C.2.2.2.2.1 gX2_insert_X4_copyFrom rfl rfl rfl (by decide +kernel) ⟨Nat.le_of_ble_eq_true rfl, Nat.le_of_ble_eq_true rfl⟩) rfl (by first | decide | omega) rfl f18 rfl rfl (Nat.le_of_ble_eq_true rfl) ⟨Nat.zero_le _, Nat.zero_le _⟩ dX2_insert_106 (fun Ez23 hp24 => ?_)
        obtain ⟨hc9, ⟨g2, hc10, hg2⟩, hgc⟩ := hp24
        have f25 : Ez23 (4) = .inr (4, [.ref (ad 5), .int (nI (tl))]) := (hgc (4) (by omega)).trans f15
        have f26 : Ez23 (5) = aI cI 12 tx := (hgc (5) (by omega)).trans f16
        have f27 : Ez23 (8 + 3 * (pm n)) = .inr (1, [.ref (ad (9 + 3 * (pm n))), .int (co0), .int (st0), .int (wi0)]) := (hgc (8 + 3 * (pm n)) (by omega)).trans f17
        have f28 : Ez23 (7) = .inl (cM, 6, .inr (.inr (.inr (.inr (sf ad (va_up (shu pm i n) (j) (pm n))))))) := (hgc (7) (by omega)).trans f20
        have f29 : Ez23 (6) = .inr (2, [.ref (ad 7), .int (nI (n + 1))]) := (hgc (6) (by omega)).trans f21
        have g30 : ∀ k : Nat, (k ≠ 6 ∧ k ≠ 7 ∧ k ≠ 8 + 3 * pm n ∧ k ≠ 9 + 3 * pm n ∧ k ≠ 10 + 3 * pm n) → Ez23 k = E k := fun k hk => (hgc k (by omega)).trans (g22 k hk)
        refine z_aload C dX2_insert_109 rfl ?_
        refine z_iload_n C dX2_insert_111 rfl ?_
        refine z_putN C (8 + 3 * (pm n)) (Cn := RX1) (T := TX1) (N := 4) (fi := 1) tyX1 iw_X2_insert_1 tyX1_ok nmX1 rfl (by decide) nl_X2_36 hX (by first | decide | omega) rfl f27 rfl rfl rfl rfl (Nat.le_of_ble_eq_true rfl) dX2_insert_112 (fun Ez32 hE31 => ?_)
        have f33 : Ez32 (4) = .inr (4, [.ref (ad 5), .int (nI (tl))]) := va_up_of hE31 (by first | decide | omega) f25
        have f34 : Ez32 (5) = aI cI 12 tx := va_up_of hE31 (by first | decide | omega) f26
        have f36 : Ez32 (7) = .inl (cM, 6, .inr (.inr (.inr (.inr (sf ad (va_up (shu pm i n) (j) (pm n))))))) := va_up_of hE31 (by first | decide | omega) f28
        have f37 : Ez32 (6) = .inr (2, [.ref (ad 7), .int (nI (n + 1))]) := va_up_of hE31 (by first | decide | omega) f29
        have f38 : Ez32 (9 + 3 * (pm n)) = .inr (4, [.ref (ad (10 + 3 * (pm n))), .int (nI (tl))]) := va_up_of hE31 (by first | decide | omega) hc9
        have f39 : Ez32 (10 + 3 * (pm n)) = aI cI 12 g2 := va_up_of hE31 (by first | decide | omega) hc10
        have f40 : Ez32 (8 + 3 * (pm n)) = .inr (1, [.ref (ad (9 + 3 * (pm n))), .int (nI (col)), .int (st0), .int (wi0)]) := va_up_eq hE31
        have g41 : ∀ k : Nat, (k ≠ 6 ∧ k ≠ 7 ∧ k ≠ 8 + 3 * pm n ∧ k ≠ 9 + 3 * pm n ∧ k ≠ 10 + 3 * pm n) → Ez32 k = E k := fun k hk => va_up_of hE31 (by omega) (g30 k hk)
        exact hend _ _ _ dX2_insert_115 (⟨f37, (by rw [hie] at *; exact f36), ⟨g2, ⟨f40, f38, f39⟩, hg2⟩, g41⟩)
      · have hx6 := shu_lt hpm (i := i) (n := n) (k := i - 1) (by omega)
        obtain ⟨vs9, hvs9⟩ := qo _ hx6
        refine z_aload_n C dX2_insert_60 rfl ?_
        refine z_get C (6) (Cn := RX2) (T := TX2) (N := 2) (fi := 0) iw_X2_insert_2 rfl (by decide) ln_X2_insert_11 (by first | decide | omega) rfl q6 rfl dX2_insert_61 ?_
        refine z_iload C dX2_insert_64 rfl ?_
        refine z_aload_n C dX2_insert_66 rfl ?_
        refine z_get C (6) (Cn := RX2) (T := TX2) (N := 2) (fi := 0) iw_X2_insert_2 rfl (by decide) ln_X2_insert_11 (by first | decide | omega) rfl q6 rfl dX2_insert_67 ?_
        refine z_iload C dX2_insert_70 rfl ?_
        refine z_iconst C (nI (1)) dX2_insert_72 (by decide) ?_
        refine z_isubN C (by omega) dX2_insert_73 ?_
        refine z_aldq C (7) (some (ad (8 + 3 * (shu pm i n (i - 1))))) (by first | decide | omega) rfl q7 (by omega) (by decide) (rfl) dX2_insert_74 ?_
        refine z_astqG C (7) (x := (shu pm i n (i - 1))) (pm := (shu pm i n)) hX (by first | decide | omega) rfl q7 (by first | decide | omega) hvs9 (by omega) (by decide) dX2_insert_75 (fun Ez43 hE42 => ?_)
        have f44 : Ez43 (6) = .inr (2, [.ref (ad 7), .int (nI (n))]) := va_up_of hE42 (by first | decide | omega) q6
        have f46 : Ez43 (4) = .inr (4, [.ref (ad 5), .int (nI (tl))]) := va_up_of hE42 (by first | decide | omega) q4
        have f47 : Ez43 (5) = aI cI 12 tx := va_up_of hE42 (by first | decide | omega) q5
        have f48 : Ez43 (8 + 3 * (pm n)) = .inr (1, [.ref (ad (9 + 3 * (pm n))), .int (co0), .int (st0), .int (wi0)]) := va_up_of hE42 (by first | decide | omega) q8
        have f49 : Ez43 (9 + 3 * (pm n)) = .inr (4, [.ref (ad (10 + 3 * (pm n))), .int (sz0)]) := va_up_of hE42 (by first | decide | omega) q9
        have f50 : Ez43 (10 + 3 * (pm n)) = aI cI 12 g0 := va_up_of hE42 (by first | decide | omega) q10
        have f51 : Ez43 (7) = .inl (cM, 6, .inr (.inr (.inr (.inr (sf ad (va_up (shu pm i n) (i) (shu pm i n (i - 1)))))))) := va_up_eq hE42
        have g52 : ∀ k : Nat, (k ≠ 6 ∧ k ≠ 7 ∧ k ≠ 8 + 3 * pm n ∧ k ≠ 9 + 3 * pm n ∧ k ≠ 10 + 3 * pm n) → Ez43 k = E k := fun k hk => va_up_of hE42 (by omega) (qf k hk)
        refine z_iinc C [(0, .ref (ad 6)), (1, .int (nI (j))), (2, .ref (ad 4)), (3, .int (nI (col))), (4, .ref (ad (8 + 3 * (pm n)))), (5, .int (nI (i - 1)))] dX2_insert_76 rfl (nI_dec (by omega)) (by decide) ⟨rfl, rfl, rfl, rfl, rfl, rfl, rfl, rfl, rfl, rfl, rfl, rfl, trivial⟩ ?_
        refine z_goto C 54 dX2_insert_79 (by decide) ?_
        refine z_lv [(0, .ref (ad 6)), (1, .int (nI (j))), (2, .ref (ad 4)), (3, .int (nI (col))), (4, .ref (ad (8 + 3 * (pm n)))), (5, .int (nI (i - 1)))] ⟨rfl, rfl, rfl, rfl, rfl, rfl, rfl, rfl, rfl, rfl, rfl, rfl, trivial⟩ ?_
        exact ih54 (i - 1) Ez43 (by omega) f44 (by rw [f51, shu_s (by omega) (by omega)]) f46 f47 f48 f49 f50 (fun q hq => by obtain ⟨vs, hv⟩ := qo q hq; exact ⟨vs, va_up_of hE42 (by omega) hv⟩) g52 (by omega)
  refine z_lv [(0, .ref (ad 6)), (1, .int (nI (j))), (2, .ref (ad 4)), (3, .int (nI (col))), (4, .ref (ad (8 + 3 * (pm n)))), (5, .int (nI (n)))] ⟨rfl, rfl, rfl, rfl, rfl, rfl, rfl, rfl, rfl, rfl, rfl, rfl, trivial⟩ ?_
  exact loop54 (n + 1) n E ⟨hj, Nat.le_refl _⟩ l6 (by rw [shu_0]; exact l7) b4 b5 m8 m9 m10 hob (fun _ _ => rfl) (by omega)

def shd (pm : Nat → Nat) (j i : Nat) : Nat → Nat := fun k => if j ≤ k ∧ k < i then pm (k + 1) else pm k
theorem shd_0 (pm : Nat → Nat) (j : Nat) : shd pm j j = pm := by funext k; show (if j ≤ k ∧ k < j then pm (k + 1) else pm k) = pm k; rw [if_neg (by omega)]
theorem shd_s {pm : Nat → Nat} {j i : Nat} (h : j ≤ i) : va_up (shd pm j i) i (shd pm j i (i + 1)) = shd pm j (i + 1) := by
  funext k
  have e1 : shd pm j i (i + 1) = pm (i + 1) := by show (if j ≤ i + 1 ∧ i + 1 < i then pm (i + 1 + 1) else pm (i + 1)) = pm (i + 1); rw [if_neg (by omega)]
  rw [e1]
  by_cases hk : k = i
  · subst hk
    rw [va_up_self]
    show pm (k + 1) = if j ≤ k ∧ k < k + 1 then pm (k + 1) else pm k
    rw [if_pos (by omega)]
  · rw [va_up_ne _ _ hk]
    show (if j ≤ k ∧ k < i then pm (k + 1) else pm k) = if j ≤ k ∧ k < i + 1 then pm (k + 1) else pm k
    by_cases h2 : j ≤ k ∧ k < i
    · rw [if_pos h2, if_pos (by omega)]
    · rw [if_neg h2, if_neg (by omega)]
theorem shd_lt {pm : Nat → Nat} (hpm : PM pm) {j i k : Nat} (hk : k < 6) (hi : i < 6) : shd pm j i k < 6 := by
  show (if j ≤ k ∧ k < i then pm (k + 1) else pm k) < 6
  by_cases h : j ≤ k ∧ k < i
  · rw [if_pos h]; exact hpm.1 _ (by omega)
  · rw [if_neg h]; exact hpm.1 _ hk
theorem iw_X2_remove_2 : ∀ w ∈ wsX20, w ∈ wsX2_remove := by decide +kernel
theorem ln_X2_remove_18 : Cond.fieldLink RX2 18 "MarqueeDisplay$MessageList" "count" "I" ∈ wsX2_remove := by decide +kernel
theorem ln_X2_remove_11 : Cond.fieldLink RX2 11 "MarqueeDisplay$MessageList" "slots" "[LMarqueeDisplay$Message;" ∈ wsX2_remove := by decide +kernel
set_option maxHeartbeats 4000000 in
set_option maxRecDepth 100000 in
theorem k_X2_remove (vl : Launch) (D : va_G) (cI cM : ClassId) (A : Nat → Prop) (ad : Nat → Nat) (E : Nat → va_E) (hX : XD A 40 ad) {n j : Nat} {pm : Nat → Nat} (l6 : E (6) = .inr (2, [.ref (ad 7), .int (nI (n))])) (l7 : E (7) = .inl (cM, 6, .inr (.inr (.inr (.inr (sf ad pm)))))) (hn : n ≤ 6) (hj : j < n) (hpm : PM pm) (hob : ∀ q : Nat, q < 6 → ∃ vs : List Value, E (8 + 3 * q) = .inr (1, vs)) : MV vl yX2_remove wsX2_remove { frames := 2, cells := 0, slots := 0, locals := 43 } D cI cM A 40 ad E [.ref (ad 6), .int (nI (j))] (fun E1 => E1 6 = .inr (2, [.ref (ad 7), .int (nI (n - 1))]) ∧ E1 7 = .inl (cM, 6, .inr (.inr (.inr (.inr (sf ad (va_up (shd pm j (n - 1)) (n - 1) (pm j))))))) ∧ ∀ k : Nat, (k ≠ 6 ∧ k ≠ 7) → E1 k = E k) := by
  refine mv_of cX2_remove 4 RX2 (by decide) rfl rfl (Nat.le_of_ble_eq_true rfl) ?_
  intro vp ve vs vm va vb vt vc Q C hend
  refine z_lv [(0, .ref (ad 6)), (1, .int (nI (j)))] ⟨rfl, rfl, rfl, rfl, trivial⟩ ?_
  have hpj := hpm.1 j (by omega)
  refine z_aload_n C dX2_remove_0 rfl ?_
  refine z_iload_n C dX2_remove_1 rfl ?_
  refine z_callVQ C (6) (Cn := RX2) (T := TX2) (N := 2) (k_X2_find_y vl D cI cM A ad E hX l6 l7 hj hn) (cwV 1 C.2.2.2.2.1 gX2_remove_X2_find rfl rfl rfl (by decide +kernel) ⟨Nat.le_of_ble_eq_true rfl, Nat.le_of_ble_eq_true rfl⟩) rfl (by first | decide | omega) rfl l6 rfl rfl (Nat.le_of_ble_eq_true rfl) ⟨Nat.zero_le _, Nat.zero_le _⟩ dX2_remove_2 ?_
  refine z_astore_n C [(0, .ref (ad 6)), (1, .int (nI (j))), (2, .ref (ad (8 + 3 * (pm j))))] dX2_remove_5 (by decide) ⟨rfl, rfl, rfl, rfl, rfl, rfl, trivial⟩ ?_
  refine z_aload_n C dX2_remove_6 rfl ?_
  refine z_ifnonnull C 11 dX2_remove_7 (by decide) ?_
  refine z_iload_n C dX2_remove_11 rfl ?_
  refine z_istore_n C [(0, .ref (ad 6)), (1, .int (nI (j))), (2, .ref (ad (8 + 3 * (pm j)))), (3, .int (nI (j)))] dX2_remove_12 (by decide) ⟨rfl, rfl, rfl, rfl, rfl, rfl, rfl, rfl, trivial⟩ ?_
  have loop13 : ∀ (fuel : Nat) (i : Nat) (E2 : Nat → va_E), (hi : j ≤ i ∧ i ≤ n - 1) → (q6 : E2 (6) = .inr (2, [.ref (ad 7), .int (nI (n))])) → (q7 : E2 (7) = .inl (cM, 6, .inr (.inr (.inr (.inr (sf ad (shd pm j i))))))) → (qo : ∀ q : Nat, q < 6 → ∃ vs : List Value, E2 (8 + 3 * q) = .inr (1, vs)) → (qf : ∀ k : Nat, (k ≠ 6 ∧ k ≠ 7) → E2 k = E k) → n - i < fuel → Z vp vl ve { frames := 2, cells := 0, slots := 0, locals := 43 } vs vm va vb vt vc 4 D A 40 ad E2 [(0, .ref (ad 6)), (1, .int (nI (j))), (2, .ref (ad (8 + 3 * (pm j)))), (3, .int (nI (i)))] 0 0 Q 13 [] := by
    intro fuel
    induction fuel with
    | zero => intro i E2 hi q6 q7 qo qf hlt; exact absurd hlt (Nat.not_lt_zero _)
    | succ fuel ih =>
      intro i E2 hi q6 q7 qo qf hlt
      have ih13 := ih
      refine z_iload_n C dX2_remove_13 rfl ?_
      refine z_aload_n C dX2_remove_14 rfl ?_
      refine z_get C (6) (Cn := RX2) (T := TX2) (N := 2) (fi := 1) iw_X2_remove_2 rfl (by decide) ln_X2_remove_18 (by first | decide | omega) rfl q6 rfl dX2_remove_15 ?_
      refine z_iconst C (nI (1)) dX2_remove_18 (by decide) ?_
      refine z_isubN C (by omega) dX2_remove_19 ?_
      refine z_icmp_geN C 43 (by omega) (by omega) dX2_remove_20 (by decide) (fun h20 => ?_) (fun h20 => ?_)
      · have hie : i = n - 1 := by omega
        obtain ⟨vs9, hvs9⟩ := qo _ hpj
        refine z_aload_n C dX2_remove_43 rfl ?_
        refine z_dup C dX2_remove_44 rfl ?_
        refine z_get C (6) (Cn := RX2) (T := TX2) (N := 2) (fi := 1) iw_X2_remove_2 rfl (by decide) ln_X2_remove_18 (by first | decide | omega) rfl q6 rfl dX2_remove_45 ?_
        refine z_iconst C (nI (1)) dX2_remove_48 (by decide) ?_
        refine z_isubN C (by omega) dX2_remove_49 ?_
        refine z_put C (6) (Cn := RX2) (T := TX2) (N := 2) (fi := 1) tyX2 iw_X2_remove_2 tyX2_ok nmX2 rfl (by decide) ln_X2_remove_18 hX (by first | decide | omega) rfl q6 rfl rfl rfl rfl (Nat.le_of_ble_eq_true rfl) dX2_remove_50 (fun Ez2 hE1 => ?_)
        have f4 : Ez2 (7) = .inl (cM, 6, .inr (.inr (.inr (.inr (sf ad (shd pm j i)))))) := va_up_of hE1 (by first | decide | omega) q7
        have f5 : Ez2 (6) = .inr (2, [.ref (ad 7), .int (nI (n - 1))]) := va_up_eq hE1
        have g6 : ∀ k : Nat, (k ≠ 6 ∧ k ≠ 7) → Ez2 k = E k := fun k hk => va_up_of hE1 (by omega) (qf k hk)
        refine z_aload_n C dX2_remove_53 rfl ?_
        refine z_get C (6) (Cn := RX2) (T := TX2) (N := 2) (fi := 0) iw_X2_remove_2 rfl (by decide) ln_X2_remove_11 (by first | decide | omega) rfl f5 rfl dX2_remove_54 ?_
        refine z_aload_n C dX2_remove_57 rfl ?_
        refine z_get C (6) (Cn := RX2) (T := TX2) (N := 2) (fi := 1) iw_X2_remove_2 rfl (by decide) ln_X2_remove_18 (by first | decide | omega) rfl f5 rfl dX2_remove_58 ?_
        refine z_aload_n C dX2_remove_61 rfl ?_
        refine z_astqG C (7) (x := (pm j)) (pm := (shd pm j i)) hX (by first | decide | omega) rfl f4 (by first | decide | omega) (va_up_of hE1 (by omega) hvs9) (by omega) (by decide) dX2_remove_62 (fun Ez8 hE7 => ?_)
        have f10 : Ez8 (6) = .inr (2, [.ref (ad 7), .int (nI (n - 1))]) := va_up_of hE7 (by first | decide | omega) f5
        have f11 : Ez8 (7) = .inl (cM, 6, .inr (.inr (.inr (.inr (sf ad (va_up (shd pm j i) (n - 1) (pm j))))))) := va_up_eq hE7
        have g12 : ∀ k : Nat, (k ≠ 6 ∧ k ≠ 7) → Ez8 k = E k := fun k hk => va_up_of hE7 (by omega) (g6 k hk)
        exact hend _ _ _ dX2_remove_63 (⟨f10, (by rw [hie] at *; exact f11), g12⟩)
      · have hx6 := shd_lt hpm (j := j) (i := i) (k := i + 1) (by omega) (by omega)
        obtain ⟨vs9, hvs9⟩ := qo _ hx6
        refine z_aload_n C dX2_remove_23 rfl ?_
        refine z_get C (6) (Cn := RX2) (T := TX2) (N := 2) (fi := 0) iw_X2_remove_2 rfl (by decide) ln_X2_remove_11 (by first | decide | omega) rfl q6 rfl dX2_remove_24 ?_
        refine z_iload_n C dX2_remove_27 rfl ?_
        refine z_aload_n C dX2_remove_28 rfl ?_
        refine z_get C (6) (Cn := RX2) (T := TX2) (N := 2) (fi := 0) iw_X2_remove_2 rfl (by decide) ln_X2_remove_11 (by first | decide | omega) rfl q6 rfl dX2_remove_29 ?_
        refine z_iload_n C dX2_remove_32 rfl ?_
        refine z_iconst C (nI (1)) dX2_remove_33 (by decide) ?_
        refine z_iaddN C  dX2_remove_34 ?_
        refine z_aldq C (7) (some (ad (8 + 3 * (shd pm j i (i + 1))))) (by first | decide | omega) rfl q7 (by omega) (by decide) (rfl) dX2_remove_35 ?_
        refine z_astqG C (7) (x := (shd pm j i (i + 1))) (pm := (shd pm j i)) hX (by first | decide | omega) rfl q7 (by first | decide | omega) hvs9 (by omega) (by decide) dX2_remove_36 (fun Ez14 hE13 => ?_)
        have f15 : Ez14 (6) = .inr (2, [.ref (ad 7), .int (nI (n))]) := va_up_of hE13 (by first | decide | omega) q6
        have f17 : Ez14 (7) = .inl (cM, 6, .inr (.inr (.inr (.inr (sf ad (va_up (shd pm j i) (i) (shd pm j i (i + 1)))))))) := va_up_eq hE13
        have g18 : ∀ k : Nat, (k ≠ 6 ∧ k ≠ 7) → Ez14 k = E k := fun k hk => va_up_of hE13 (by omega) (qf k hk)
        refine z_iincN (j := 1) C [(0, .ref (ad 6)), (1, .int (nI (j))), (2, .ref (ad (8 + 3 * (pm j)))), (3, .int (nI (i + 1)))] dX2_remove_37 rfl (by decide) ⟨rfl, rfl, rfl, rfl, rfl, rfl, rfl, rfl, trivial⟩ ?_
        refine z_goto C 13 dX2_remove_40 (by decide) ?_
        refine z_lv [(0, .ref (ad 6)), (1, .int (nI (j))), (2, .ref (ad (8 + 3 * (pm j)))), (3, .int (nI (i + 1)))] ⟨rfl, rfl, rfl, rfl, rfl, rfl, rfl, rfl, trivial⟩ ?_
        exact ih13 (i + 1) Ez14 (by omega) f15 (by rw [f17, shd_s (by omega)]) (fun q hq => by obtain ⟨vs, hv⟩ := qo q hq; exact ⟨vs, va_up_of hE13 (by omega) hv⟩) g18 (by omega)
  refine z_lv [(0, .ref (ad 6)), (1, .int (nI (j))), (2, .ref (ad (8 + 3 * (pm j)))), (3, .int (nI (j)))] ⟨rfl, rfl, rfl, rfl, rfl, rfl, rfl, rfl, trivial⟩ ?_
  exact loop13 (n + 1) j E ⟨Nat.le_refl _, by omega⟩ l6 (by rw [shd_0]; exact l7) hob (fun _ _ => rfl) (by omega)
end
section
def b1 (n r : Nat) : Nat := n / 2 ^ r % 2
def sm (f : Nat → Nat) : Nat → Nat
  | 0 => 0
  | n + 1 => sm f n + f n
theorem sm_le {f : Nat → Nat} {c : Nat} : ∀ {n : Nat}, (∀ k, k < n → f k ≤ c) → sm f n ≤ n * c
  | 0, _ => by simp [sm]
  | n + 1, h => by
    have h1 := sm_le (n := n) (fun k hk => h k (by omega))
    have h2 := h n (by omega)
    rw [sm, Nat.succ_mul]; omega
theorem sm_cg {f g : Nat → Nat} : ∀ {n : Nat}, (∀ k, k < n → f k = g k) → sm f n = sm g n
  | 0, _ => rfl
  | n + 1, h => by rw [sm, sm, sm_cg (fun k hk => h k (by omega)), h n (by omega)]
theorem sm_le2 {f g : Nat → Nat} : ∀ {n : Nat}, (∀ k, k < n → f k ≤ g k) → sm f n ≤ sm g n
  | 0, _ => Nat.le_refl _
  | n + 1, h => by rw [sm, sm]; exact Nat.add_le_add (sm_le2 (fun k hk => h k (by omega))) (h n (by omega))
def pc8 (n : Nat) : Nat := sm (b1 n) 8
theorem pc8_le (n : Nat) : pc8 n ≤ 8 := by
  have h : sm (b1 n) 8 ≤ 8 * 1 := sm_le (fun k _ => by unfold b1; omega)
  exact h
def bc1 (x : Nat) : Nat := x - (x / 2 &&& 85)
def bc2 (x : Nat) : Nat := (bc1 x &&& 51) + (bc1 x / 4 &&& 51)
theorem bc_1 : ∀ x, x < 256 → (nI x) - ((((nI x).toUInt32 >>> ((nI 1).toUInt32 &&& Int32.toUInt32 31)).toInt32) &&& 1431655765) = nI (bc1 x) := by decide +kernel
theorem bc_2 : ∀ x, x < 256 → ((nI (bc1 x)) &&& 858993459) + ((((nI (bc1 x)).toUInt32 >>> ((nI 2).toUInt32 &&& Int32.toUInt32 31)).toInt32) &&& 858993459) = nI (bc2 x) := by decide +kernel
theorem bc_3 : ∀ x, x < 256 → ((nI (bc2 x)) + (((nI (bc2 x)).toUInt32 >>> ((nI 4).toUInt32 &&& Int32.toUInt32 31)).toInt32)) &&& 252645135 = nI (pc8 x) := by decide +kernel
theorem bc_4 : ∀ x, x < 256 → (nI (pc8 x)) + (((nI (pc8 x)).toUInt32 >>> ((nI 8).toUInt32 &&& Int32.toUInt32 31)).toInt32) = nI (pc8 x) := by decide +kernel
theorem bc_5 : ∀ x, x < 256 → (nI (pc8 x)) + (((nI (pc8 x)).toUInt32 >>> ((nI 16).toUInt32 &&& Int32.toUInt32 31)).toInt32) = nI (pc8 x) := by decide +kernel
theorem bc_6 : ∀ x, x < 256 → (nI (pc8 x)) &&& (nI 63) = nI (pc8 x) := by decide +kernel
theorem nx_xor (a b : Nat) : nI a ^^^ nI b = nI (a ^^^ b) := by
  apply Int32.toBitVec_inj.1
  show BitVec.ofNat 32 a ^^^ BitVec.ofNat 32 b = BitVec.ofNat 32 (a ^^^ b)
  apply BitVec.eq_of_getLsbD_eq
  intro i hi
  simp [hi]
theorem nx_and (a b : Nat) : nI a &&& nI b = nI (a &&& b) := by
  apply Int32.toBitVec_inj.1
  show BitVec.ofNat 32 a &&& BitVec.ofNat 32 b = BitVec.ofNat 32 (a &&& b)
  apply BitVec.eq_of_getLsbD_eq
  intro i hi
  simp [hi]
set_option maxHeartbeats 4000000 in
set_option maxRecDepth 100000 in
theorem k_J6_bitCount_0f7a4 (vl : Launch) (D : va_G) (cI cM : ClassId) (A : Nat → Prop) (ad : Nat → Nat) (E : Nat → va_E) (hX : XD A 40 ad) {x : Nat} (hx : x < 256) : MF vl yJ6_bitCount_0f7a4 wsJ6_bitCount_0f7a4 { frames := 0, cells := 0, slots := 0, locals := 0 } D cI cM A 40 ad E [.int (nI (x))] (nI (pc8 x)) := by
  refine mf_of cJ6_bitCount_0f7a4 1 (.int) RJ6 (by decide) rfl rfl (Nat.le_of_ble_eq_true rfl) (rfl) ?_
  intro vp ve vs vm va vb vt vc Q C hend
  refine z_lv [(0, .int (nI (x)))] ⟨rfl, rfl, trivial⟩ ?_
  refine z_iload_n C dJ6_bitCount_0f7a4_0 rfl ?_
  refine z_iload_n C dJ6_bitCount_0f7a4_1 rfl ?_
  refine z_iconst C (nI (1)) dJ6_bitCount_0f7a4_2 (by decide) ?_
  refine z_iushr C (((nI (x)).toUInt32 >>> ((nI (1)).toUInt32 &&& Int32.toUInt32 31)).toInt32) dJ6_bitCount_0f7a4_3 (rfl) ?_
  refine z_ldcw C 1431655765 (by decide +kernel) dJ6_bitCount_0f7a4_4 ?_
  refine z_iand C dJ6_bitCount_0f7a4_7  ?_
  refine z_isub C dJ6_bitCount_0f7a4_8  ?_
  refine z_top (nI (bc1 x)) (bc_1 x hx) ?_
  refine z_istore_n C [(0, .int (nI (bc1 x)))] dJ6_bitCount_0f7a4_9 (by decide) ⟨rfl, rfl, trivial⟩ ?_
  refine z_iload_n C dJ6_bitCount_0f7a4_10 rfl ?_
  refine z_ldcw C 858993459 (by decide +kernel) dJ6_bitCount_0f7a4_11 ?_
  refine z_iand C dJ6_bitCount_0f7a4_14  ?_
  refine z_iload_n C dJ6_bitCount_0f7a4_15 rfl ?_
  refine z_iconst C (nI (2)) dJ6_bitCount_0f7a4_16 (by decide) ?_
  refine z_iushr C (((nI (bc1 x)).toUInt32 >>> ((nI (2)).toUInt32 &&& Int32.toUInt32 31)).toInt32) dJ6_bitCount_0f7a4_17 (rfl) ?_
  refine z_ldcw C 858993459 (by decide +kernel) dJ6_bitCount_0f7a4_18 ?_
  refine z_iand C dJ6_bitCount_0f7a4_21  ?_
  refine z_iadd C dJ6_bitCount_0f7a4_22  ?_
  refine z_top (nI (bc2 x)) (bc_2 x hx) ?_
  refine z_istore_n C [(0, .int (nI (bc2 x)))] dJ6_bitCount_0f7a4_23 (by decide) ⟨rfl, rfl, trivial⟩ ?_
  refine z_iload_n C dJ6_bitCount_0f7a4_24 rfl ?_
  refine z_iload_n C dJ6_bitCount_0f7a4_25 rfl ?_
  refine z_iconst C (nI (4)) dJ6_bitCount_0f7a4_26 (by decide) ?_
  refine z_iushr C (((nI (bc2 x)).toUInt32 >>> ((nI (4)).toUInt32 &&& Int32.toUInt32 31)).toInt32) dJ6_bitCount_0f7a4_27 (rfl) ?_
  refine z_iadd C dJ6_bitCount_0f7a4_28  ?_
  refine z_ldcw C 252645135 (by decide +kernel) dJ6_bitCount_0f7a4_29 ?_
  refine z_iand C dJ6_bitCount_0f7a4_32  ?_
  refine z_top (nI (pc8 x)) (bc_3 x hx) ?_
  refine z_istore_n C [(0, .int (nI (pc8 x)))] dJ6_bitCount_0f7a4_33 (by decide) ⟨rfl, rfl, trivial⟩ ?_
  refine z_iload_n C dJ6_bitCount_0f7a4_34 rfl ?_
  refine z_iload_n C dJ6_bitCount_0f7a4_35 rfl ?_
  refine z_bipush C (nI (8)) dJ6_bitCount_0f7a4_36 (by decide) ?_
  refine z_iushr C (((nI (pc8 x)).toUInt32 >>> ((nI (8)).toUInt32 &&& Int32.toUInt32 31)).toInt32) dJ6_bitCount_0f7a4_38 (rfl) ?_
  refine z_iadd C dJ6_bitCount_0f7a4_39  ?_
  refine z_top (nI (pc8 x)) (bc_4 x hx) ?_
  refine z_istore_n C [(0, .int (nI (pc8 x)))] dJ6_bitCount_0f7a4_40 (by decide) ⟨rfl, rfl, trivial⟩ ?_
  refine z_iload_n C dJ6_bitCount_0f7a4_41 rfl ?_
  refine z_iload_n C dJ6_bitCount_0f7a4_42 rfl ?_
  refine z_bipush C (nI (16)) dJ6_bitCount_0f7a4_43 (by decide) ?_
  refine z_iushr C (((nI (pc8 x)).toUInt32 >>> ((nI (16)).toUInt32 &&& Int32.toUInt32 31)).toInt32) dJ6_bitCount_0f7a4_45 (rfl) ?_
  refine z_iadd C dJ6_bitCount_0f7a4_46  ?_
  refine z_top (nI (pc8 x)) (bc_5 x hx) ?_
  refine z_istore_n C [(0, .int (nI (pc8 x)))] dJ6_bitCount_0f7a4_47 (by decide) ⟨rfl, rfl, trivial⟩ ?_
  refine z_iload_n C dJ6_bitCount_0f7a4_48 rfl ?_
  refine z_bipush C (nI (63)) dJ6_bitCount_0f7a4_49 (by decide) ?_
  refine z_iand C dJ6_bitCount_0f7a4_51  ?_
  refine z_top (nI (pc8 x)) (bc_6 x hx) ?_
  exact hend _ _ _ dJ6_bitCount_0f7a4_52 (rfl)

set_option maxHeartbeats 4000000 in
set_option maxRecDepth 100000 in
theorem k_floorMod_p (vl : Launch) (D : va_G) (cI cM : ClassId) (A : Nat → Prop) (ad : Nat → Nat) (E : Nat → va_E) (hX : XD A 40 ad) {a b : Nat} (ha : a < 2 ^ 31) (hb : 0 < b ∧ b < 2 ^ 31) : MF vl yJ9_floorMod_7cf53 wsJ9_floorMod_7cf53 { frames := 0, cells := 0, slots := 0, locals := 0 } D cI cM A 40 ad E [.int (nI (a)), .int (nI (b))] (nI (a % b)) := by
  refine mf_of cJ9_floorMod_7cf53 3 (.int) RJ9 (by decide +kernel) rfl rfl (Nat.le_of_ble_eq_true rfl) (rfl) ?_
  intro vp ve vs vm va vb vt vc Q C hend
  refine z_lv [(0, .int (nI (a))), (1, .int (nI (b)))] ⟨rfl, rfl, rfl, rfl, trivial⟩ ?_
  refine z_iload_n C dJ9_floorMod_7cf53_0 rfl ?_
  refine z_iload_n C dJ9_floorMod_7cf53_1 rfl ?_
  refine z_iremN C (by omega) (by omega) (by omega) dJ9_floorMod_7cf53_2 ?_
  refine z_istore_n C [(0, .int (nI (a))), (1, .int (nI (b))), (2, .int (nI (a % b)))] dJ9_floorMod_7cf53_3 (by decide) ⟨rfl, rfl, rfl, rfl, rfl, rfl, trivial⟩ ?_
  refine z_iload_n C dJ9_floorMod_7cf53_4 rfl ?_
  refine z_iload_n C dJ9_floorMod_7cf53_5 rfl ?_
  refine z_ixor C dJ9_floorMod_7cf53_6  ?_
  refine z_top (nI (a ^^^ b)) (nx_xor a b) ?_
  refine z_if_geN C 18 (Nat.xor_lt_two_pow ha hb.2) dJ9_floorMod_7cf53_7 (by decide) ?_
  refine z_iload_n C dJ9_floorMod_7cf53_18 rfl ?_
  exact hend _ _ _ dJ9_floorMod_7cf53_19 (rfl)

theorem fm_r {a o b : Nat} (h1 : a < o) (h2 : o - a < b) (hb : b < 2 ^ 30) (ho : o < 2 ^ 30) : (nI a - nI o) - (nI a - nI o) / nI b * nI b = nI a - nI o := by
  have e1 : (nI a - nI o).toInt = (a : Int) - o := pk_sub_toInt (by omega) ho
  have e2 : (nI b).toInt = b := nI_toInt (by omega)
  have e3 : (nI a - nI o) / nI b = 0 := by
    apply Int32.toInt_inj.mp
    rw [Int32.toInt_div, e1, e2]
    have : ((a : Int) - o).tdiv b = 0 := by
      have h3 : ((o : Int) - a).tdiv b = 0 := Int.tdiv_eq_zero_of_lt (by omega) (by omega)
      rw [show (a : Int) - o = -((o : Int) - a) by omega, Int.neg_tdiv, h3]; rfl
    rw [this]; rfl
  rw [e3]; simp
theorem fm_s {a o b : Nat} (h1 : a < o) (hb : 0 < b ∧ b < 2 ^ 30) (ho : o < 2 ^ 30) : ¬ 0 ≤ (nI a - nI o) ^^^ nI b := by
  have hx : nI a - nI o < 0 := pk_sneg ho h1
  intro h
  have m1 : (nI a - nI o).toBitVec.msb = true := by
    rw [BitVec.msb_eq_toInt]
    have : (nI a - nI o).toInt < 0 := Int32.lt_iff_toInt_lt.mp hx
    exact decide_eq_true this
  have m2 : (nI b).toBitVec.msb = false := by
    rw [BitVec.msb_eq_toInt]
    have : (nI b).toInt = b := nI_toInt (by omega)
    exact decide_eq_false (by show ¬ (nI b).toInt < 0; omega)
  have m3 : ((nI a - nI o) ^^^ nI b).toBitVec.msb = true := by
    show ((nI a - nI o).toBitVec ^^^ (nI b).toBitVec).msb = true
    rw [BitVec.msb_xor, m1, m2]; rfl
  rw [BitVec.msb_eq_toInt] at m3
  have h3 : ((nI a - nI o) ^^^ nI b).toInt < 0 := of_decide_eq_true m3
  have h4 : (0 : Int32).toInt ≤ ((nI a - nI o) ^^^ nI b).toInt := Int32.le_iff_toInt_le.mp h
  have h5 : (0 : Int32).toInt = 0 := rfl
  omega
theorem fm_n {a o : Nat} (h1 : a < o) (ho : o < 2 ^ 30) : ¬ nI a - nI o = 0 := by
  intro h
  have hx : nI a - nI o < 0 := pk_sneg ho h1
  rw [h] at hx
  exact absurd hx (by decide)
theorem fm_e {a o b : Nat} (h2 : o - a ≤ b) (h1 : a ≤ o) : (nI a - nI o) + nI b = nI (a + b - o) := by
  rw [← pk_sub (a := a + b) (by omega), ← nI_add, Int32.sub_eq_add_neg, Int32.sub_eq_add_neg, Int32.add_assoc, Int32.add_assoc, Int32.add_comm (nI b)]
set_option maxHeartbeats 4000000 in
set_option maxRecDepth 100000 in
theorem k_floorMod_m (vl : Launch) (D : va_G) (cI cM : ClassId) (A : Nat → Prop) (ad : Nat → Nat) (E : Nat → va_E) (hX : XD A 40 ad) {a o b : Nat} (h1 : a < o) (h2 : o - a < b) (hb : b < 2 ^ 30) (ho : o < 2 ^ 30) : MF vl yJ9_floorMod_7cf53 wsJ9_floorMod_7cf53 { frames := 0, cells := 0, slots := 0, locals := 0 } D cI cM A 40 ad E [.int (nI a - nI o), .int (nI (b))] (nI (a + b - o)) := by
  refine mf_of cJ9_floorMod_7cf53 3 (.int) RJ9 (by decide +kernel) rfl rfl (Nat.le_of_ble_eq_true rfl) (rfl) ?_
  intro vp ve vs vm va vb vt vc Q C hend
  refine z_lv [(0, .int (nI a - nI o)), (1, .int (nI (b)))] ⟨rfl, rfl, rfl, rfl, trivial⟩ ?_
  refine z_iload_n C dJ9_floorMod_7cf53_0 rfl ?_
  refine z_iload_n C dJ9_floorMod_7cf53_1 rfl ?_
  refine z_irem C dJ9_floorMod_7cf53_2 (nI_ne0 (by omega) (by omega)) ?_
  refine z_top (nI a - nI o) (fm_r h1 h2 hb ho) ?_
  refine z_istore_n C [(0, .int (nI a - nI o)), (1, .int (nI (b))), (2, .int (nI a - nI o))] dJ9_floorMod_7cf53_3 (by decide) ⟨rfl, rfl, rfl, rfl, rfl, rfl, trivial⟩ ?_
  refine z_iload_n C dJ9_floorMod_7cf53_4 rfl ?_
  refine z_iload_n C dJ9_floorMod_7cf53_5 rfl ?_
  refine z_ixor C dJ9_floorMod_7cf53_6  ?_
  refine z_if_ge C 18 dJ9_floorMod_7cf53_7 (by decide) (fun h7 => (by exfalso; exact fm_s h1 (by omega) ho h7)) (fun h7 => ?_)
  refine z_iload_n C dJ9_floorMod_7cf53_10 rfl ?_
  refine z_if_eq C 18 dJ9_floorMod_7cf53_11 (by decide) (fun h11 => (by exfalso; exact fm_n h1 ho h11)) (fun h11 => ?_)
  refine z_iload_n C dJ9_floorMod_7cf53_14 rfl ?_
  refine z_iload_n C dJ9_floorMod_7cf53_15 rfl ?_
  refine z_iadd C dJ9_floorMod_7cf53_16  ?_
  refine z_top (nI (a + b - o)) (fm_e (by omega) (by omega)) ?_
  exact hend _ _ _ dJ9_floorMod_7cf53_17 (rfl)

theorem L0nil {L0 : List (Nat × Nat)} (h : L0.length = 0) : L0 = [] := List.length_eq_zero_iff.mp h
theorem iw_X3_wrap_3 : ∀ w ∈ wsX30, w ∈ wsX3_wrap := by decide +kernel
theorem ln_X3_wrap_18 : Cond.fieldLink RX3 18 "MarqueeDisplay$Strip" "length" "I" ∈ wsX3_wrap := by decide +kernel
set_option maxHeartbeats 4000000 in
set_option maxRecDepth 100000 in
theorem k_wrap_p (vl : Launch) (D : va_G) (cI cM : ClassId) (A : Nat → Prop) (ad : Nat → Nat) (E : Nat → va_E) (hX : XD A 40 ad) {L a : Nat} (s26 : E (26) = .inr (3, [.ref (ad 27), .ref (ad 28), .int (nI (L))])) (ha : a < 2 ^ 31) (hL : 0 < L ∧ L < 2 ^ 31) : MF vl yX3_wrap wsX3_wrap { frames := 1, cells := 0, slots := 0, locals := 22 } D cI cM A 40 ad E [.ref (ad 26), .int (nI (a))] (nI (a % L)) := by
  refine mf_of cX3_wrap 2 (.int) RX3 (by decide) rfl rfl (Nat.le_of_ble_eq_true rfl) (rfl) ?_
  intro vp ve vs vm va vb vt vc Q C hend
  refine z_lv [(0, .ref (ad 26)), (1, .int (nI (a)))] ⟨rfl, rfl, rfl, rfl, trivial⟩ ?_
  refine z_aload_n C dX3_wrap_0 rfl ?_
  refine z_get C (26) (Cn := RX3) (T := TX3) (N := 3) (fi := 2) iw_X3_wrap_3 rfl (by decide) ln_X3_wrap_18 (by first | decide | omega) rfl s26 rfl dX3_wrap_1 ?_
  refine z_if_leN C 18 (by omega) dX3_wrap_4 (by decide) (fun h4 => (by exfalso; omega)) (fun h4 => ?_)
  refine z_iload_n C dX3_wrap_7 rfl ?_
  refine z_aload_n C dX3_wrap_8 rfl ?_
  refine z_get C (26) (Cn := RX3) (T := TX3) (N := 3) (fi := 2) iw_X3_wrap_3 rfl (by decide) ln_X3_wrap_18 (by first | decide | omega) rfl s26 rfl dX3_wrap_9 ?_
  refine z_callSF C (k_floorMod_p vl D cI cM A ad E hX ha hL) (va_cwS 2 C.2.2.2.2.1 gX3_wrap_J9_floorMod_7cf53 rfl rfl rfl (by decide +kernel) ⟨Nat.le_of_ble_eq_true rfl, Nat.le_of_ble_eq_true rfl⟩) rfl rfl (Nat.le_of_ble_eq_true rfl) ⟨Nat.zero_le _, Nat.zero_le _⟩ dX3_wrap_12 ?_
  refine z_goto C 19 dX3_wrap_15 (by decide) ?_
  exact hend _ _ _ dX3_wrap_19 (rfl)

set_option maxHeartbeats 4000000 in
set_option maxRecDepth 100000 in
theorem k_wrap_m (vl : Launch) (D : va_G) (cI cM : ClassId) (A : Nat → Prop) (ad : Nat → Nat) (E : Nat → va_E) (hX : XD A 40 ad) {L a o : Nat} (s26 : E (26) = .inr (3, [.ref (ad 27), .ref (ad 28), .int (nI (L))])) (h1 : a < o) (h2 : o - a < L) (hL : L < 2 ^ 30) (ho : o < 2 ^ 30) : MF vl yX3_wrap wsX3_wrap { frames := 1, cells := 0, slots := 0, locals := 22 } D cI cM A 40 ad E [.ref (ad 26), .int (nI a - nI o)] (nI (a + L - o)) := by
  refine mf_of cX3_wrap 2 (.int) RX3 (by decide) rfl rfl (Nat.le_of_ble_eq_true rfl) (rfl) ?_
  intro vp ve vs vm va vb vt vc Q C hend
  refine z_lv [(0, .ref (ad 26)), (1, .int (nI a - nI o))] ⟨rfl, rfl, rfl, rfl, trivial⟩ ?_
  refine z_aload_n C dX3_wrap_0 rfl ?_
  refine z_get C (26) (Cn := RX3) (T := TX3) (N := 3) (fi := 2) iw_X3_wrap_3 rfl (by decide) ln_X3_wrap_18 (by first | decide | omega) rfl s26 rfl dX3_wrap_1 ?_
  refine z_if_leN C 18 (by omega) dX3_wrap_4 (by decide) (fun h4 => (by exfalso; omega)) (fun h4 => ?_)
  refine z_iload_n C dX3_wrap_7 rfl ?_
  refine z_aload_n C dX3_wrap_8 rfl ?_
  refine z_get C (26) (Cn := RX3) (T := TX3) (N := 3) (fi := 2) iw_X3_wrap_3 rfl (by decide) ln_X3_wrap_18 (by first | decide | omega) rfl s26 rfl dX3_wrap_9 ?_
  refine z_callSF C (k_floorMod_m vl D cI cM A ad E hX h1 h2 hL ho) (va_cwS 2 C.2.2.2.2.1 gX3_wrap_J9_floorMod_7cf53 rfl rfl rfl (by decide +kernel) ⟨Nat.le_of_ble_eq_true rfl, Nat.le_of_ble_eq_true rfl⟩) rfl rfl (Nat.le_of_ble_eq_true rfl) ⟨Nat.zero_le _, Nat.zero_le _⟩ dX3_wrap_12 ?_
  refine z_goto C 19 dX3_wrap_15 (by decide) ?_
  exact hend _ _ _ dX3_wrap_19 (rfl)

set_option maxHeartbeats 4000000 in
set_option maxRecDepth 100000 in
theorem k_wrap_0 (vl : Launch) (D : va_G) (cI cM : ClassId) (A : Nat → Prop) (ad : Nat → Nat) (E : Nat → va_E) (hX : XD A 40 ad) {x : Int32} (s26 : E (26) = .inr (3, [.ref (ad 27), .ref (ad 28), .int (nI (0))])) : MF vl yX3_wrap wsX3_wrap { frames := 0, cells := 0, slots := 0, locals := 0 } D cI cM A 40 ad E [.ref (ad 26), .int (x)] (nI 0) := by
  refine mf_of cX3_wrap 2 (.int) RX3 (by decide) rfl rfl (Nat.le_of_ble_eq_true rfl) (rfl) ?_
  intro vp ve vs vm va vb vt vc Q C hend
  refine z_lv [(0, .ref (ad 26)), (1, .int (x))] ⟨rfl, rfl, rfl, rfl, trivial⟩ ?_
  refine z_aload_n C dX3_wrap_0 rfl ?_
  refine z_get C (26) (Cn := RX3) (T := TX3) (N := 3) (fi := 2) iw_X3_wrap_3 rfl (by decide) ln_X3_wrap_18 (by first | decide | omega) rfl s26 rfl dX3_wrap_1 ?_
  refine z_if_leN C 18 (by omega) dX3_wrap_4 (by decide) (fun h4 => ?_) (fun h4 => (by exfalso; omega))
  refine z_iconst C (nI (0)) dX3_wrap_18 (by decide) ?_
  exact hend _ _ _ dX3_wrap_19 (rfl)

def dotc (L0 : List (Nat × Nat)) (a : Nat) : Nat := (L0.getD (a % L0.length) (0, 0)).1
def colc (L0 : List (Nat × Nat)) (a : Nat) : Nat := (L0.getD (a % L0.length) (0, 0)).2
theorem iw_X3_dotsAt_3 : ∀ w ∈ wsX30, w ∈ wsX3_dotsAt := by decide +kernel
theorem ln_X3_dotsAt_18 : Cond.fieldLink RX3 18 "MarqueeDisplay$Strip" "length" "I" ∈ wsX3_dotsAt := by decide +kernel
theorem ln_X3_dotsAt_9 : Cond.fieldLink RX3 9 "MarqueeDisplay$Strip" "dots" "[I" ∈ wsX3_dotsAt := by decide +kernel
set_option maxHeartbeats 4000000 in
set_option maxRecDepth 100000 in
theorem k_X3_dotsAt (vl : Launch) (D : va_G) (cI cM : ClassId) (A : Nat → Prop) (ad : Nat → Nat) (E : Nat → va_E) (hX : XD A 40 ad) {L0 : List (Nat × Nat)} {a : Nat} (hs : StripAt cI ad E L0) (ha : a < 2 ^ 31) (hl : L0.length ≤ 552) : MF vl yX3_dotsAt wsX3_dotsAt { frames := 2, cells := 0, slots := 0, locals := 43 } D cI cM A 40 ad E [.ref (ad 26), .int (nI (a))] (nI (dotc L0 a)) := by
  refine mf_of cX3_dotsAt 2 (.int) RX3 (by decide) rfl rfl (Nat.le_of_ble_eq_true rfl) (rfl) ?_
  intro vp ve vs vm va vb vt vc Q C hend
  refine z_lv [(0, .ref (ad 26)), (1, .int (nI (a)))] ⟨rfl, rfl, rfl, rfl, trivial⟩ ?_
  obtain ⟨sd, sc, s26, s27, s28, hsp⟩ := hs
  refine z_aload_n C dX3_dotsAt_0 rfl ?_
  refine z_get C (26) (Cn := RX3) (T := TX3) (N := 3) (fi := 2) iw_X3_dotsAt_3 rfl (by decide) ln_X3_dotsAt_18 (by first | decide | omega) rfl s26 rfl dX3_dotsAt_1 ?_
  refine z_if_leN C 20 (by omega) dX3_dotsAt_4 (by decide) (fun h4 => ?_) (fun h4 => ?_)
  · refine z_iconst C (nI (0)) dX3_dotsAt_20 (by decide) ?_
    exact hend _ _ _ dX3_dotsAt_21 (by rw [L0nil h4]; rfl)
  · refine z_aload_n C dX3_dotsAt_7 rfl ?_
    refine z_get C (26) (Cn := RX3) (T := TX3) (N := 3) (fi := 0) iw_X3_dotsAt_3 rfl (by decide) ln_X3_dotsAt_9 (by first | decide | omega) rfl s26 rfl dX3_dotsAt_8 ?_
    refine z_aload_n C dX3_dotsAt_11 rfl ?_
    refine z_iload_n C dX3_dotsAt_12 rfl ?_
    refine z_callVF C (26) (Cn := RX3) (T := TX3) (N := 3) (k_wrap_p vl D cI cM A ad E hX s26 ha (by omega)) (cwV 1 C.2.2.2.2.1 gX3_dotsAt_X3_wrap rfl rfl rfl (by decide +kernel) ⟨Nat.le_of_ble_eq_true rfl, Nat.le_of_ble_eq_true rfl⟩) rfl (by first | decide | omega) rfl s26 rfl rfl (Nat.le_of_ble_eq_true rfl) ⟨Nat.zero_le _, Nat.zero_le _⟩ dX3_dotsAt_13 ?_
    refine z_ialdG C (27) (by first | decide | omega) rfl s27 (Nat.lt_of_lt_of_le (Nat.mod_lt _ h4) hl) (by decide) dX3_dotsAt_16 ?_
    refine z_goto C 21 dX3_dotsAt_17 (by decide) ?_
    exact hend _ _ _ dX3_dotsAt_21 (by rw [SP_d hsp (Nat.mod_lt _ h4)]; rfl)

theorem iw_X3_colorAt_3 : ∀ w ∈ wsX30, w ∈ wsX3_colorAt := by decide +kernel
theorem ln_X3_colorAt_18 : Cond.fieldLink RX3 18 "MarqueeDisplay$Strip" "length" "I" ∈ wsX3_colorAt := by decide +kernel
theorem ln_X3_colorAt_15 : Cond.fieldLink RX3 15 "MarqueeDisplay$Strip" "colors" "[I" ∈ wsX3_colorAt := by decide +kernel
set_option maxHeartbeats 4000000 in
set_option maxRecDepth 100000 in
theorem k_X3_colorAt (vl : Launch) (D : va_G) (cI cM : ClassId) (A : Nat → Prop) (ad : Nat → Nat) (E : Nat → va_E) (hX : XD A 40 ad) {L0 : List (Nat × Nat)} {a : Nat} (hs : StripAt cI ad E L0) (ha : a < 2 ^ 31) (hl : L0.length ≤ 552) : MF vl yX3_colorAt wsX3_colorAt { frames := 2, cells := 0, slots := 0, locals := 43 } D cI cM A 40 ad E [.ref (ad 26), .int (nI (a))] (nI (colc L0 a)) := by
  refine mf_of cX3_colorAt 2 (.int) RX3 (by decide) rfl rfl (Nat.le_of_ble_eq_true rfl) (rfl) ?_
  intro vp ve vs vm va vb vt vc Q C hend
  refine z_lv [(0, .ref (ad 26)), (1, .int (nI (a)))] ⟨rfl, rfl, rfl, rfl, trivial⟩ ?_
  obtain ⟨sd, sc, s26, s27, s28, hsp⟩ := hs
  refine z_aload_n C dX3_colorAt_0 rfl ?_
  refine z_get C (26) (Cn := RX3) (T := TX3) (N := 3) (fi := 2) iw_X3_colorAt_3 rfl (by decide) ln_X3_colorAt_18 (by first | decide | omega) rfl s26 rfl dX3_colorAt_1 ?_
  refine z_if_leN C 20 (by omega) dX3_colorAt_4 (by decide) (fun h4 => ?_) (fun h4 => ?_)
  · refine z_iconst C (nI (0)) dX3_colorAt_20 (by decide) ?_
    exact hend _ _ _ dX3_colorAt_21 (by rw [L0nil h4]; rfl)
  · refine z_aload_n C dX3_colorAt_7 rfl ?_
    refine z_get C (26) (Cn := RX3) (T := TX3) (N := 3) (fi := 1) iw_X3_colorAt_3 rfl (by decide) ln_X3_colorAt_15 (by first | decide | omega) rfl s26 rfl dX3_colorAt_8 ?_
    refine z_aload_n C dX3_colorAt_11 rfl ?_
    refine z_iload_n C dX3_colorAt_12 rfl ?_
    refine z_callVF C (26) (Cn := RX3) (T := TX3) (N := 3) (k_wrap_p vl D cI cM A ad E hX s26 ha (by omega)) (cwV 1 C.2.2.2.2.1 gX3_colorAt_X3_wrap rfl rfl rfl (by decide +kernel) ⟨Nat.le_of_ble_eq_true rfl, Nat.le_of_ble_eq_true rfl⟩) rfl (by first | decide | omega) rfl s26 rfl rfl (Nat.le_of_ble_eq_true rfl) ⟨Nat.zero_le _, Nat.zero_le _⟩ dX3_colorAt_13 ?_
    refine z_ialdG C (28) (by first | decide | omega) rfl s28 (Nat.lt_of_lt_of_le (Nat.mod_lt _ h4) hl) (by decide) dX3_colorAt_16 ?_
    refine z_goto C 21 dX3_colorAt_17 (by decide) ?_
    exact hend _ _ _ dX3_colorAt_21 (by rw [SP_c hsp (Nat.mod_lt _ h4)]; rfl)
end
section
def shI (t : Nat) : Int32 := nI t - nI 2
def sft (d t : Nat) : Nat := if t < 2 then d / 2 ^ (2 - t) else d * 2 ^ (t - 2) % 256
theorem shI_ge : ∀ t, t < 5 → (0 ≤ shI t ↔ 2 ≤ t) := by decide +kernel
theorem sft_hi : ∀ t, t < 5 → 2 ≤ t → ∀ d, d < 256 → ((nI d) <<< ((shI t) &&& 31)) &&& (nI 255) = nI (sft d t) := by decide +kernel
theorem sft_lo : ∀ t, t < 5 → t < 2 → ∀ d, d < 256 → (nI d) >>> ((-(shI t)) &&& 31) = nI (sft d t) := by decide +kernel
theorem sft_lt {d t : Nat} (hd : d < 256) : sft d t < 256 := by
  unfold sft
  split
  · exact Nat.lt_of_le_of_lt (Nat.div_le_self _ _) hd
  · exact Nat.mod_lt _ (by decide)
def lit (d t m : Nat) : Nat := sft d t &&& (255 - m)
theorem lit_lt {d t m : Nat} (hd : d < 256) : lit d t m < 256 := Nat.lt_of_le_of_lt Nat.and_le_left (sft_lt hd)
theorem xor_m1 : ∀ m, m < 256 → nI m ^^^ (-1) = nI (4294967295 - m) := by decide +kernel
theorem land_m {a m : Nat} (ha : a < 256) (hm : m < 256) : a &&& (4294967295 - m) = a &&& (255 - m) := by
  apply Nat.eq_of_testBit_eq
  intro i
  rw [Nat.testBit_and, Nat.testBit_and]
  by_cases hi : i < 8
  · rw [show 4294967295 - m = 2 ^ 32 - (m + 1) by omega, show 255 - m = 2 ^ 8 - (m + 1) by omega, Nat.testBit_two_pow_sub_succ (by omega), Nat.testBit_two_pow_sub_succ (by omega)]
    simp [hi, show i < 32 by omega]
  · rw [Nat.testBit_lt_two_pow (Nat.lt_of_lt_of_le (show a < 2 ^ 8 from ha) (Nat.pow_le_pow_right (by decide) (by omega)))]
    simp
theorem lit_e {d t m : Nat} (hd : d < 256) (hm : m < 256) : (nI (sft d t)) &&& (nI (4294967295 - m)) = nI (lit d t m) := by
  rw [nx_and, land_m (sft_lt hd) hm]; rfl
def wt (c : Nat) : Nat := if c = 3 then 2 else 1
def colS (L0 : List (Nat × Nat)) (t : Nat) (df : Nat → Nat) (a x : Nat) : Nat := wt (colc L0 (a + x)) * pc8 (lit (dotc L0 (a + x)) t (df x))
def ldS (L0 : List (Nat × Nat)) (t : Nat) (df : Nat → Nat) (W a : Nat) : Nat := sm (colS L0 t df a) W
theorem colS_le (L0 : List (Nat × Nat)) (t : Nat) (df : Nat → Nat) (a x : Nat) : colS L0 t df a x ≤ 16 := by
  unfold colS
  have h1 := pc8_le (lit (dotc L0 (a + x)) t (df x))
  have h2 : wt (colc L0 (a + x)) ≤ 2 := by unfold wt; split <;> omega
  calc _ ≤ 2 * 8 := Nat.mul_le_mul h2 h1
    _ = 16 := rfl
theorem ldS_le (L0 : List (Nat × Nat)) (t : Nat) (df : Nat → Nat) (W a : Nat) : ldS L0 t df W a ≤ W * 16 := sm_le (fun k _ => colS_le L0 t df a k)
def dmS (L0 : List (Nat × Nat)) (t : Nat) (df : Nat → Nat) (a x : Nat) : Nat := pc8 (dotc L0 (a + x)) - pc8 (lit (dotc L0 (a + x)) t (df x))
theorem b1_tb (n r : Nat) : b1 n r = (n.testBit r).toNat := (Nat.toNat_testBit n r).symm
theorem b1_and (a b r : Nat) : b1 (a &&& b) r ≤ b1 a r := by
  rw [b1_tb, b1_tb, Nat.testBit_and]
  cases a.testBit r <;> cases b.testBit r <;> decide
theorem pc8_and (a b : Nat) : pc8 (a &&& b) ≤ pc8 a := sm_le2 (fun k _ => b1_and a b k)
theorem pc8_sft : ∀ t, t < 5 → ∀ d, d < 256 → pc8 (sft d t) ≤ pc8 d := by decide +kernel
theorem pc8_lit {d t m : Nat} (hd : d < 256) (ht : t ≤ 4) : pc8 (lit d t m) ≤ pc8 d := Nat.le_trans (pc8_and _ _) (pc8_sft t (by omega) d hd)
theorem dmS_le (L0 : List (Nat × Nat)) (t : Nat) (df : Nat → Nat) (a x : Nat) : dmS L0 t df a x ≤ 8 := Nat.le_trans (Nat.sub_le _ _) (pc8_le _)
theorem b1_sh : ∀ n, n < 256 → ∀ r, r < 8 → ((nI n) >>> ((nI r) &&& 31)) &&& (nI 1) = nI (b1 n r) := by decide +kernel
theorem b1_le (n r : Nat) : b1 n r ≤ 1 := by unfold b1; omega
theorem iw_ex {v : Int32} {hi : Nat} (hh : hi < 2 ^ 31) (h : nI 0 ≤ v ∧ v ≤ nI hi) : ∃ j : Nat, j ≤ hi ∧ v = nI j := by
  rcases iw_in (v := v) hh with q | q
  · exact q
  · exact absurd h q
theorem iw_X5_isLed_5 : ∀ w ∈ wsX50, w ∈ wsX5_isLed := by decide +kernel
theorem ln_X5_isLed_41 : Cond.fieldLink RX5 41 "MarqueeDisplay" "columns" "I" ∈ wsX5_isLed := by decide +kernel
set_option maxHeartbeats 4000000 in
set_option maxRecDepth 100000 in
theorem k_isLed_y (vl : Launch) (D : va_G) (cI cM : ClassId) (A : Nat → Prop) (ad : Nat → Nat) (E : Nat → va_E) (hX : XD A 40 ad) {W G S B off cnt t : Nat} {r x : Nat} (e0 : E (0) = .inr (5, [.ref (ad 1), .ref (ad 4), .ref (ad 6), .ref (ad 26), .ref (ad 29), .int (nI (W)), .int (nI (G)), .int (nI (S)), .int (shI t), .int (nI (B)), .int (nI (off)), .int (nI (cnt))])) (hr : r ≤ 7) (hx : x < W) (hW : W ≤ 32) : MF vl yX5_isLed wsX5_isLed { frames := 1, cells := 0, slots := 0, locals := 22 } D cI cM A 40 ad E [.ref (ad 0), .int (nI (r)), .int (nI (x))] (nI 1) := by
  refine mf_of cX5_isLed 3 (.boolean) RX5 (by decide) rfl rfl (Nat.le_of_ble_eq_true rfl) (rfl) ?_
  intro vp ve vs vm va vb vt vc Q C hend
  refine z_lv [(0, .ref (ad 0)), (1, .int (nI (r))), (2, .int (nI (x)))] ⟨rfl, rfl, rfl, rfl, rfl, rfl, trivial⟩ ?_
  refine z_iload_n C dX5_isLed_0 rfl ?_
  refine z_iconst C (nI (0)) dX5_isLed_1 (by decide) ?_
  refine z_bipush C (nI (7)) dX5_isLed_2 (by decide) ?_
  refine z_callSF C (k_X5_isWithin vl D cI cM A ad E hX (nI (r)) (nI (0)) (nI (7))) (va_cwS 3 C.2.2.2.2.1 gX5_isLed_X5_isWithin rfl rfl rfl (by decide +kernel) ⟨Nat.le_of_ble_eq_true rfl, Nat.le_of_ble_eq_true rfl⟩) rfl rfl (Nat.le_of_ble_eq_true rfl) ⟨Nat.zero_le _, Nat.zero_le _⟩ dX5_isLed_4 ?_
  refine z_top (nI (1)) (iw_yN ⟨Nat.zero_le _, hr⟩ (by decide)) ?_
  refine z_if_eqN C 28 (by omega) dX5_isLed_7 (by decide) (fun h7 => (by exfalso; omega)) (fun h7 => ?_)
  refine z_iload_n C dX5_isLed_10 rfl ?_
  refine z_iconst C (nI (0)) dX5_isLed_11 (by decide) ?_
  refine z_aload_n C dX5_isLed_12 rfl ?_
  refine z_get C (0) (Cn := RX5) (T := TX5) (N := 12) (fi := 5) iw_X5_isLed_5 rfl (by decide) ln_X5_isLed_41 (by first | decide | omega) rfl e0 rfl dX5_isLed_13 ?_
  refine z_iconst C (nI (1)) dX5_isLed_16 (by decide) ?_
  refine z_isubN C (by omega) dX5_isLed_17 ?_
  refine z_callSF C (k_X5_isWithin vl D cI cM A ad E hX (nI (x)) (nI (0)) (nI (W - 1))) (va_cwS 3 C.2.2.2.2.1 gX5_isLed_X5_isWithin rfl rfl rfl (by decide +kernel) ⟨Nat.le_of_ble_eq_true rfl, Nat.le_of_ble_eq_true rfl⟩) rfl rfl (Nat.le_of_ble_eq_true rfl) ⟨Nat.zero_le _, Nat.zero_le _⟩ dX5_isLed_18 ?_
  refine z_top (nI (1)) (iw_yN ⟨Nat.zero_le _, by omega⟩ (by omega)) ?_
  refine z_if_eqN C 28 (by omega) dX5_isLed_21 (by decide) (fun h21 => (by exfalso; omega)) (fun h21 => ?_)
  refine z_iconst C (nI (1)) dX5_isLed_24 (by decide) ?_
  refine z_goto C 29 dX5_isLed_25 (by decide) ?_
  exact hend _ _ _ dX5_isLed_29 (rfl)

set_option maxHeartbeats 4000000 in
set_option maxRecDepth 100000 in
theorem k_isLed_n (vl : Launch) (D : va_G) (cI cM : ClassId) (A : Nat → Prop) (ad : Nat → Nat) (E : Nat → va_E) (hX : XD A 40 ad) {W G S B off cnt t : Nat} {u v : Int32} (e0 : E (0) = .inr (5, [.ref (ad 1), .ref (ad 4), .ref (ad 6), .ref (ad 26), .ref (ad 29), .int (nI (W)), .int (nI (G)), .int (nI (S)), .int (shI t), .int (nI (B)), .int (nI (off)), .int (nI (cnt))])) (hn : ¬ ((∃ r : Nat, r ≤ 7 ∧ u = nI r) ∧ ∃ x : Nat, x < W ∧ v = nI x)) (hW : 8 ≤ W ∧ W ≤ 32) : MF vl yX5_isLed wsX5_isLed { frames := 1, cells := 0, slots := 0, locals := 22 } D cI cM A 40 ad E [.ref (ad 0), .int (u), .int (v)] (nI 0) := by
  refine mf_of cX5_isLed 3 (.boolean) RX5 (by decide) rfl rfl (Nat.le_of_ble_eq_true rfl) (rfl) ?_
  intro vp ve vs vm va vb vt vc Q C hend
  refine z_lv [(0, .ref (ad 0)), (1, .int (u)), (2, .int (v))] ⟨rfl, rfl, rfl, rfl, rfl, rfl, trivial⟩ ?_
  refine z_iload_n C dX5_isLed_0 rfl ?_
  refine z_iconst C (nI (0)) dX5_isLed_1 (by decide) ?_
  refine z_bipush C (nI (7)) dX5_isLed_2 (by decide) ?_
  refine z_callSF C (k_X5_isWithin vl D cI cM A ad E hX (u) (nI (0)) (nI (7))) (va_cwS 3 C.2.2.2.2.1 gX5_isLed_X5_isWithin rfl rfl rfl (by decide +kernel) ⟨Nat.le_of_ble_eq_true rfl, Nat.le_of_ble_eq_true rfl⟩) rfl rfl (Nat.le_of_ble_eq_true rfl) ⟨Nat.zero_le _, Nat.zero_le _⟩ dX5_isLed_4 ?_
  refine z_if_eq C 28 dX5_isLed_7 (by decide) (fun h7 => ?_) (fun h7 => ?_)
  · refine z_iconst C (nI (0)) dX5_isLed_28 (by decide) ?_
    exact hend _ _ _ dX5_isLed_29 (rfl)
  · refine z_iload_n C dX5_isLed_10 rfl ?_
    refine z_iconst C (nI (0)) dX5_isLed_11 (by decide) ?_
    refine z_aload_n C dX5_isLed_12 rfl ?_
    refine z_get C (0) (Cn := RX5) (T := TX5) (N := 12) (fi := 5) iw_X5_isLed_5 rfl (by decide) ln_X5_isLed_41 (by first | decide | omega) rfl e0 rfl dX5_isLed_13 ?_
    refine z_iconst C (nI (1)) dX5_isLed_16 (by decide) ?_
    refine z_isubN C (by omega) dX5_isLed_17 ?_
    refine z_callSF C (k_X5_isWithin vl D cI cM A ad E hX (v) (nI (0)) (nI (W - 1))) (va_cwS 3 C.2.2.2.2.1 gX5_isLed_X5_isWithin rfl rfl rfl (by decide +kernel) ⟨Nat.le_of_ble_eq_true rfl, Nat.le_of_ble_eq_true rfl⟩) rfl rfl (Nat.le_of_ble_eq_true rfl) ⟨Nat.zero_le _, Nat.zero_le _⟩ dX5_isLed_18 ?_
    refine z_top (nI (0)) (iw_n (fun q => hn ⟨iw_ex (by decide) (iw_1 h7), by obtain ⟨j, h1, h2⟩ := iw_ex (by omega) q; exact ⟨j, by omega, h2⟩⟩)) ?_
    refine z_if_eqN C 28 (by omega) dX5_isLed_21 (by decide) (fun h21 => ?_) (fun h21 => (by exfalso; omega))
    refine z_iconst C (nI (0)) dX5_isLed_28 (by decide) ?_
    exact hend _ _ _ dX5_isLed_29 (rfl)

set_option maxHeartbeats 4000000 in
set_option maxRecDepth 100000 in
theorem k_X5_shifted (vl : Launch) (D : va_G) (cI cM : ClassId) (A : Nat → Prop) (ad : Nat → Nat) (E : Nat → va_E) (hX : XD A 40 ad) {d t : Nat} (hd : d < 256) (ht : t ≤ 4) : MF vl yX5_shifted wsX5_shifted { frames := 0, cells := 0, slots := 0, locals := 0 } D cI cM A 40 ad E [.int (nI (d)), .int (shI t)] (nI (sft d t)) := by
  refine mf_of cX5_shifted 2 (.int) RX5 (by decide) rfl rfl (Nat.le_of_ble_eq_true rfl) (rfl) ?_
  intro vp ve vs vm va vb vt vc Q C hend
  refine z_lv [(0, .int (nI (d))), (1, .int (shI t))] ⟨rfl, rfl, rfl, rfl, trivial⟩ ?_
  refine z_iload_n C dX5_shifted_0 rfl ?_
  refine z_if_ge C 11 dX5_shifted_1 (by decide) (fun h1 => ?_) (fun h1 => ?_)
  · refine z_iload_n C dX5_shifted_11 rfl ?_
    refine z_iload_n C dX5_shifted_12 rfl ?_
    refine z_ishl C dX5_shifted_13  ?_
    refine z_sipush C (nI (255)) dX5_shifted_14 (by decide) ?_
    refine z_iand C dX5_shifted_17  ?_
    exact hend _ _ _ dX5_shifted_18 (sft_hi t (by omega) ((shI_ge t (by omega)).mp h1) d hd)
  · refine z_iload_n C dX5_shifted_4 rfl ?_
    refine z_iload_n C dX5_shifted_5 rfl ?_
    refine z_ineg C dX5_shifted_6 ?_
    refine z_ishr C dX5_shifted_7  ?_
    refine z_goto C 18 dX5_shifted_8 (by decide) ?_
    exact hend _ _ _ dX5_shifted_18 (sft_lo t (by omega) (by have h2 := mt (shI_ge t (by omega)).mpr h1; omega) d hd)

theorem iw_X5_defectsOf_5 : ∀ w ∈ wsX50, w ∈ wsX5_defectsOf := by decide +kernel
theorem ln_X5_defectsOf_37 : Cond.fieldLink RX5 37 "MarqueeDisplay" "defects" "[I" ∈ wsX5_defectsOf := by decide +kernel
set_option maxHeartbeats 4000000 in
set_option maxRecDepth 100000 in
theorem k_X5_defectsOf (vl : Launch) (D : va_G) (cI cM : ClassId) (A : Nat → Prop) (ad : Nat → Nat) (E : Nat → va_E) (hX : XD A 40 ad) {W G S B off cnt t : Nat} {df : Nat → Nat} {x : Nat} (e0 : E (0) = .inr (5, [.ref (ad 1), .ref (ad 4), .ref (ad 6), .ref (ad 26), .ref (ad 29), .int (nI (W)), .int (nI (G)), .int (nI (S)), .int (shI t), .int (nI (B)), .int (nI (off)), .int (nI (cnt))])) (e29 : E (29) = aI cI 32 df) (hx : x < 32) : MF vl yX5_defectsOf wsX5_defectsOf { frames := 1, cells := 0, slots := 0, locals := 22 } D cI cM A 40 ad E [.ref (ad 0), .int (nI (x))] (nI (df x)) := by
  refine mf_of cX5_defectsOf 2 (.int) RX5 (by decide) rfl rfl (Nat.le_of_ble_eq_true rfl) (rfl) ?_
  intro vp ve vs vm va vb vt vc Q C hend
  refine z_lv [(0, .ref (ad 0)), (1, .int (nI (x)))] ⟨rfl, rfl, rfl, rfl, trivial⟩ ?_
  refine z_iload_n C dX5_defectsOf_0 rfl ?_
  refine z_iconst C (nI (0)) dX5_defectsOf_1 (by decide) ?_
  refine z_aload_n C dX5_defectsOf_2 rfl ?_
  refine z_get C (0) (Cn := RX5) (T := TX5) (N := 12) (fi := 4) iw_X5_defectsOf_5 rfl (by decide) ln_X5_defectsOf_37 (by first | decide | omega) rfl e0 rfl dX5_defectsOf_3 ?_
  refine z_alenG C (29) (by first | decide | omega) rfl e29 dX5_defectsOf_6 ?_
  refine z_iconst C (nI (1)) dX5_defectsOf_7 (by decide) ?_
  refine z_isubN C (by omega) dX5_defectsOf_8 ?_
  refine z_callSF C (k_X5_isWithin vl D cI cM A ad E hX (nI (x)) (nI (0)) (nI (32 - 1))) (va_cwS 3 C.2.2.2.2.1 gX5_defectsOf_X5_isWithin rfl rfl rfl (by decide +kernel) ⟨Nat.le_of_ble_eq_true rfl, Nat.le_of_ble_eq_true rfl⟩) rfl rfl (Nat.le_of_ble_eq_true rfl) ⟨Nat.zero_le _, Nat.zero_le _⟩ dX5_defectsOf_9 ?_
  refine z_top (nI (1)) (iw_yN ⟨Nat.zero_le _, by omega⟩ (by omega)) ?_
  refine z_if_eqN C 24 (by omega) dX5_defectsOf_12 (by decide) (fun h12 => (by exfalso; omega)) (fun h12 => ?_)
  refine z_aload_n C dX5_defectsOf_15 rfl ?_
  refine z_get C (0) (Cn := RX5) (T := TX5) (N := 12) (fi := 4) iw_X5_defectsOf_5 rfl (by decide) ln_X5_defectsOf_37 (by first | decide | omega) rfl e0 rfl dX5_defectsOf_16 ?_
  refine z_iload_n C dX5_defectsOf_19 rfl ?_
  refine z_ialdG C (29) (by first | decide | omega) rfl e29 (by omega) (by decide) dX5_defectsOf_20 ?_
  refine z_goto C 25 dX5_defectsOf_21 (by decide) ?_
  exact hend _ _ _ dX5_defectsOf_25 (rfl)

set_option maxHeartbeats 4000000 in
set_option maxRecDepth 100000 in
theorem k_X5_isDefective (vl : Launch) (D : va_G) (cI cM : ClassId) (A : Nat → Prop) (ad : Nat → Nat) (E : Nat → va_E) (hX : XD A 40 ad) {W G S B off cnt t : Nat} {df : Nat → Nat} {r x : Nat} (e0 : E (0) = .inr (5, [.ref (ad 1), .ref (ad 4), .ref (ad 6), .ref (ad 26), .ref (ad 29), .int (nI (W)), .int (nI (G)), .int (nI (S)), .int (shI t), .int (nI (B)), .int (nI (off)), .int (nI (cnt))])) (e29 : E (29) = aI cI 32 df) (hr : r ≤ 7) (hx : x < 32) (hdf : df x < 256) : MF vl yX5_isDefective wsX5_isDefective { frames := 2, cells := 0, slots := 0, locals := 43 } D cI cM A 40 ad E [.ref (ad 0), .int (nI (r)), .int (nI (x))] (nI (b1 (df x) r)) := by
  refine mf_of cX5_isDefective 3 (.boolean) RX5 (by decide) rfl rfl (Nat.le_of_ble_eq_true rfl) (by have h := b1_le (df x) r; rcases (show b1 (df x) r = 0 ∨ b1 (df x) r = 1 by omega) with e | e <;> rw [e] <;> rfl) ?_
  intro vp ve vs vm va vb vt vc Q C hend
  refine z_lv [(0, .ref (ad 0)), (1, .int (nI (r))), (2, .int (nI (x)))] ⟨rfl, rfl, rfl, rfl, rfl, rfl, trivial⟩ ?_
  have hb := b1_le (df x) r
  refine z_aload_n C dX5_isDefective_0 rfl ?_
  refine z_iload_n C dX5_isDefective_1 rfl ?_
  refine z_callVF C (0) (Cn := RX5) (T := TX5) (N := 12) (k_X5_defectsOf vl D cI cM A ad E hX e0 e29 hx) (cwV 1 C.2.2.2.2.1 gX5_isDefective_X5_defectsOf rfl rfl rfl (by decide +kernel) ⟨Nat.le_of_ble_eq_true rfl, Nat.le_of_ble_eq_true rfl⟩) rfl (by first | decide | omega) rfl e0 rfl rfl (Nat.le_of_ble_eq_true rfl) ⟨Nat.zero_le _, Nat.zero_le _⟩ dX5_isDefective_2 ?_
  refine z_iload_n C dX5_isDefective_5 rfl ?_
  refine z_ishr C dX5_isDefective_6  ?_
  refine z_iconst C (nI (1)) dX5_isDefective_7 (by decide) ?_
  refine z_iand C dX5_isDefective_8  ?_
  refine z_top (nI (b1 (df x) r)) (b1_sh _ hdf _ (by omega)) ?_
  refine z_iconst C (nI (1)) dX5_isDefective_9 (by decide) ?_
  refine z_icmp_neN C 17 (by omega) (by omega) dX5_isDefective_10 (by decide) (fun h10 => ?_) (fun h10 => ?_)
  · refine z_iconst C (nI (0)) dX5_isDefective_17 (by decide) ?_
    exact hend _ _ _ dX5_isDefective_18 (by rw [show b1 (df x) r = 0 by omega])
  · refine z_iconst C (nI (1)) dX5_isDefective_13 (by decide) ?_
    refine z_goto C 18 dX5_isDefective_14 (by decide) ?_
    exact hend _ _ _ dX5_isDefective_18 (by rw [h10])

theorem iw_X5_countDefects_5 : ∀ w ∈ wsX50, w ∈ wsX5_countDefects := by decide +kernel
theorem ln_X5_countDefects_37 : Cond.fieldLink RX5 37 "MarqueeDisplay" "defects" "[I" ∈ wsX5_countDefects := by decide +kernel
set_option maxHeartbeats 4000000 in
set_option maxRecDepth 100000 in
theorem k_X5_countDefects (vl : Launch) (D : va_G) (cI cM : ClassId) (A : Nat → Prop) (ad : Nat → Nat) (E : Nat → va_E) (hX : XD A 40 ad) {W G S B off cnt t : Nat} {df : Nat → Nat} (e0 : E (0) = .inr (5, [.ref (ad 1), .ref (ad 4), .ref (ad 6), .ref (ad 26), .ref (ad 29), .int (nI (W)), .int (nI (G)), .int (nI (S)), .int (shI t), .int (nI (B)), .int (nI (off)), .int (nI (cnt))])) (e29 : E (29) = aI cI 32 df) (hdf : ∀ x, x < 32 → df x < 256) : MF vl yX5_countDefects wsX5_countDefects { frames := 1, cells := 0, slots := 0, locals := 20 } D cI cM A 40 ad E [.ref (ad 0)] (nI (sm (fun x => pc8 (df x)) 32)) := by
  refine mf_of cX5_countDefects 6 (.int) RX5 (by decide) rfl rfl (Nat.le_of_ble_eq_true rfl) (rfl) ?_
  intro vp ve vs vm va vb vt vc Q C hend
  refine z_lv [(0, .ref (ad 0))] ⟨rfl, rfl, trivial⟩ ?_
  refine z_iconst C (nI (0)) dX5_countDefects_0 (by decide) ?_
  refine z_istore_n C [(0, .ref (ad 0)), (1, .int (nI (0)))] dX5_countDefects_1 (by decide) ⟨rfl, rfl, rfl, rfl, trivial⟩ ?_
  refine z_aload_n C dX5_countDefects_2 rfl ?_
  refine z_get C (0) (Cn := RX5) (T := TX5) (N := 12) (fi := 4) iw_X5_countDefects_5 rfl (by decide) ln_X5_countDefects_37 (by first | decide | omega) rfl e0 rfl dX5_countDefects_3 ?_
  refine z_astore_n C [(0, .ref (ad 0)), (1, .int (nI (0))), (2, .ref (ad 29))] dX5_countDefects_6 (by decide) ⟨rfl, rfl, rfl, rfl, rfl, rfl, trivial⟩ ?_
  refine z_aload_n C dX5_countDefects_7 rfl ?_
  refine z_alenG C (29) (by first | decide | omega) rfl e29 dX5_countDefects_8 ?_
  refine z_istore_n C [(0, .ref (ad 0)), (1, .int (nI (0))), (2, .ref (ad 29)), (3, .int (nI (32)))] dX5_countDefects_9 (by decide) ⟨rfl, rfl, rfl, rfl, rfl, rfl, rfl, rfl, trivial⟩ ?_
  refine z_iconst C (nI (0)) dX5_countDefects_10 (by decide) ?_
  refine z_istore C [(0, .ref (ad 0)), (1, .int (nI (0))), (2, .ref (ad 29)), (3, .int (nI (32))), (4, .int (nI (0)))] dX5_countDefects_11 (by decide) ⟨rfl, rfl, rfl, rfl, rfl, rfl, rfl, rfl, rfl, rfl, trivial⟩ ?_
  have loop13 : ∀ (fuel : Nat) (i : Nat), (hi : i ≤ 32) → 32 - i < fuel → Z vp vl ve { frames := 1, cells := 0, slots := 0, locals := 20 } vs vm va vb vt vc 6 D A 40 ad E [(0, .ref (ad 0)), (1, .int (nI (sm (fun x => pc8 (df x)) i))), (2, .ref (ad 29)), (3, .int (nI (32))), (4, .int (nI (i)))] 0 0 Q 13 [] := by
    intro fuel
    induction fuel with
    | zero => intro i hi hlt; exact absurd hlt (Nat.not_lt_zero _)
    | succ fuel ih =>
      intro i hi hlt
      have hs1 : sm (fun x => pc8 (df x)) i ≤ i * 8 := sm_le (fun k _ => pc8_le _)
      have ih13 := ih
      refine z_iload C dX5_countDefects_13 rfl ?_
      refine z_iload_n C dX5_countDefects_15 rfl ?_
      refine z_icmp_geN C 39 (by omega) (by omega) dX5_countDefects_16 (by decide) (fun h16 => ?_) (fun h16 => ?_)
      · have hie : i = 32 := by omega
        refine z_iload_n C dX5_countDefects_39 rfl ?_
        exact hend _ _ _ dX5_countDefects_40 (by rw [hie])
      · refine z_aload_n C dX5_countDefects_19 rfl ?_
        refine z_iload C dX5_countDefects_20 rfl ?_
        refine z_ialdG C (29) (by first | decide | omega) rfl e29 (by omega) (by decide) dX5_countDefects_22 ?_
        refine z_istore C [(0, .ref (ad 0)), (1, .int (nI (sm (fun x => pc8 (df x)) i))), (2, .ref (ad 29)), (3, .int (nI (32))), (4, .int (nI (i))), (5, .int (nI (df (i))))] dX5_countDefects_23 (by decide) ⟨rfl, rfl, rfl, rfl, rfl, rfl, rfl, rfl, rfl, rfl, rfl, rfl, trivial⟩ ?_
        refine z_iload_n C dX5_countDefects_25 rfl ?_
        refine z_iload C dX5_countDefects_26 rfl ?_
        refine z_callSF C (k_J6_bitCount_0f7a4 vl D cI cM A ad E hX (hdf i h16)) (va_cwS 1 C.2.2.2.2.1 gX5_countDefects_J6_bitCount_0f7a4 rfl rfl rfl (by decide +kernel) ⟨Nat.le_of_ble_eq_true rfl, Nat.le_of_ble_eq_true rfl⟩) rfl rfl (Nat.le_of_ble_eq_true rfl) ⟨Nat.zero_le _, Nat.zero_le _⟩ dX5_countDefects_28 ?_
        refine z_iaddN C  dX5_countDefects_31 ?_
        refine z_istore_n C [(0, .ref (ad 0)), (1, .int (nI ((sm (fun x => pc8 (df x)) i) + (pc8 (df i))))), (2, .ref (ad 29)), (3, .int (nI (32))), (4, .int (nI (i))), (5, .int (nI (df (i))))] dX5_countDefects_32 (by decide) ⟨rfl, rfl, rfl, rfl, rfl, rfl, rfl, rfl, rfl, rfl, rfl, rfl, trivial⟩ ?_
        refine z_iincN (j := 1) C [(0, .ref (ad 0)), (1, .int (nI ((sm (fun x => pc8 (df x)) i) + (pc8 (df i))))), (2, .ref (ad 29)), (3, .int (nI (32))), (4, .int (nI (i + 1))), (5, .int (nI (df (i))))] dX5_countDefects_33 rfl (by decide) ⟨rfl, rfl, rfl, rfl, rfl, rfl, rfl, rfl, rfl, rfl, rfl, rfl, trivial⟩ ?_
        refine z_goto C 13 dX5_countDefects_36 (by decide) ?_
        refine z_lv [(0, .ref (ad 0)), (1, .int (nI ((sm (fun x => pc8 (df x)) i) + (pc8 (df i))))), (2, .ref (ad 29)), (3, .int (nI (32))), (4, .int (nI (i + 1)))] ⟨rfl, rfl, rfl, rfl, rfl, rfl, rfl, rfl, rfl, rfl, trivial⟩ ?_
        exact ih13 (i + 1) (by omega) (by omega)
  refine z_lv [(0, .ref (ad 0)), (1, .int (nI (0))), (2, .ref (ad 29)), (3, .int (nI (32))), (4, .int (nI (0)))] ⟨rfl, rfl, rfl, rfl, rfl, rfl, rfl, rfl, rfl, rfl, trivial⟩ ?_
  exact loop13 (33) 0 (Nat.zero_le _) (by omega)

theorem iw_X5_litRows_5 : ∀ w ∈ wsX50, w ∈ wsX5_litRows := by decide +kernel
theorem ln_X5_litRows_33 : Cond.fieldLink RX5 33 "MarqueeDisplay" "strip" "LMarqueeDisplay$Strip;" ∈ wsX5_litRows := by decide +kernel
theorem ln_X5_litRows_51 : Cond.fieldLink RX5 51 "MarqueeDisplay" "shift" "I" ∈ wsX5_litRows := by decide +kernel
set_option maxHeartbeats 4000000 in
set_option maxRecDepth 100000 in
theorem k_X5_litRows (vl : Launch) (D : va_G) (cI cM : ClassId) (A : Nat → Prop) (ad : Nat → Nat) (E : Nat → va_E) (hX : XD A 40 ad) {W G S B off cnt t : Nat} {df : Nat → Nat} {L0 : List (Nat × Nat)} {a x : Nat} (e0 : E (0) = .inr (5, [.ref (ad 1), .ref (ad 4), .ref (ad 6), .ref (ad 26), .ref (ad 29), .int (nI (W)), .int (nI (G)), .int (nI (S)), .int (shI t), .int (nI (B)), .int (nI (off)), .int (nI (cnt))])) (e29 : E (29) = aI cI 32 df) (hs : StripAt cI ad E L0) (hl : L0.length ≤ 552) (hd : ∀ a, dotc L0 a < 256) (hdf : ∀ x, x < 32 → df x < 256) (ht : t ≤ 4) (ha : a + x < 2 ^ 31) (hx : x < 32) : MF vl yX5_litRows wsX5_litRows { frames := 3, cells := 0, slots := 0, locals := 64 } D cI cM A 40 ad E [.ref (ad 0), .int (nI (a)), .int (nI (x))] (nI (lit (dotc L0 (a + x)) t (df x))) := by
  refine mf_of cX5_litRows 3 (.int) RX5 (by decide) rfl rfl (Nat.le_of_ble_eq_true rfl) (rfl) ?_
  intro vp ve vs vm va vb vt vc Q C hend
  refine z_lv [(0, .ref (ad 0)), (1, .int (nI (a))), (2, .int (nI (x)))] ⟨rfl, rfl, rfl, rfl, rfl, rfl, trivial⟩ ?_
  obtain ⟨sd, sc, s26, -, -, -⟩ := id hs
  refine z_aload_n C dX5_litRows_0 rfl ?_
  refine z_get C (0) (Cn := RX5) (T := TX5) (N := 12) (fi := 3) iw_X5_litRows_5 rfl (by decide) ln_X5_litRows_33 (by first | decide | omega) rfl e0 rfl dX5_litRows_1 ?_
  refine z_iload_n C dX5_litRows_4 rfl ?_
  refine z_iload_n C dX5_litRows_5 rfl ?_
  refine z_iaddN C  dX5_litRows_6 ?_
  refine z_callVF C (26) (Cn := RX3) (T := TX3) (N := 3) (k_X3_dotsAt vl D cI cM A ad E hX hs (by omega) hl) (cwV 1 C.2.2.2.2.1 gX5_litRows_X3_dotsAt rfl rfl rfl (by decide +kernel) ⟨Nat.le_of_ble_eq_true rfl, Nat.le_of_ble_eq_true rfl⟩) rfl (by first | decide | omega) rfl s26 rfl rfl (Nat.le_of_ble_eq_true rfl) ⟨Nat.zero_le _, Nat.zero_le _⟩ dX5_litRows_7 ?_
  refine z_aload_n C dX5_litRows_10 rfl ?_
  refine z_get C (0) (Cn := RX5) (T := TX5) (N := 12) (fi := 8) iw_X5_litRows_5 rfl (by decide) ln_X5_litRows_51 (by first | decide | omega) rfl e0 rfl dX5_litRows_11 ?_
  refine z_callSF C (k_X5_shifted vl D cI cM A ad E hX (hd _) ht) (va_cwS 2 C.2.2.2.2.1 gX5_litRows_X5_shifted rfl rfl rfl (by decide +kernel) ⟨Nat.le_of_ble_eq_true rfl, Nat.le_of_ble_eq_true rfl⟩) rfl rfl (Nat.le_of_ble_eq_true rfl) ⟨Nat.zero_le _, Nat.zero_le _⟩ dX5_litRows_14 ?_
  refine z_aload_n C dX5_litRows_17 rfl ?_
  refine z_iload_n C dX5_litRows_18 rfl ?_
  refine z_callVF C (0) (Cn := RX5) (T := TX5) (N := 12) (k_X5_defectsOf vl D cI cM A ad E hX e0 e29 hx) (cwV 1 C.2.2.2.2.1 gX5_litRows_X5_defectsOf rfl rfl rfl (by decide +kernel) ⟨Nat.le_of_ble_eq_true rfl, Nat.le_of_ble_eq_true rfl⟩) rfl (by first | decide | omega) rfl e0 rfl rfl (Nat.le_of_ble_eq_true rfl) ⟨Nat.zero_le _, Nat.zero_le _⟩ dX5_litRows_19 ?_
  refine z_iconst C (-1) dX5_litRows_22 (by decide) ?_
  refine z_ixor C dX5_litRows_23  ?_
  refine z_top (nI (4294967295 - df x)) (xor_m1 _ (hdf x hx)) ?_
  refine z_iand C dX5_litRows_24  ?_
  refine z_top (nI (lit (dotc L0 (a + x)) t (df x))) (lit_e (hd _) (hdf x hx)) ?_
  exact hend _ _ _ dX5_litRows_25 (rfl)

theorem iw_X5_loadFrom_5 : ∀ w ∈ wsX50, w ∈ wsX5_loadFrom := by decide +kernel
theorem ln_X5_loadFrom_41 : Cond.fieldLink RX5 41 "MarqueeDisplay" "columns" "I" ∈ wsX5_loadFrom := by decide +kernel
theorem ln_X5_loadFrom_33 : Cond.fieldLink RX5 33 "MarqueeDisplay" "strip" "LMarqueeDisplay$Strip;" ∈ wsX5_loadFrom := by decide +kernel
set_option maxHeartbeats 4000000 in
set_option maxRecDepth 100000 in
theorem k_X5_loadFrom (vl : Launch) (D : va_G) (cI cM : ClassId) (A : Nat → Prop) (ad : Nat → Nat) (E : Nat → va_E) (hX : XD A 40 ad) {W G S B off cnt t : Nat} {df : Nat → Nat} {L0 : List (Nat × Nat)} {a : Nat} (e0 : E (0) = .inr (5, [.ref (ad 1), .ref (ad 4), .ref (ad 6), .ref (ad 26), .ref (ad 29), .int (nI (W)), .int (nI (G)), .int (nI (S)), .int (shI t), .int (nI (B)), .int (nI (off)), .int (nI (cnt))])) (e29 : E (29) = aI cI 32 df) (hs : StripAt cI ad E L0) (hl : L0.length ≤ 552) (hd : ∀ a, dotc L0 a < 256) (hdf : ∀ x, x < 32 → df x < 256) (hc : ∀ a, colc L0 a ≤ 3) (ht : t ≤ 4) (ha : a < 2 ^ 30) (hW : W ≤ 32) : MF vl yX5_loadFrom wsX5_loadFrom { frames := 4, cells := 0, slots := 0, locals := 86 } D cI cM A 40 ad E [.ref (ad 0), .int (nI (a))] (nI (ldS L0 t df W a)) := by
  refine mf_of cX5_loadFrom 5 (.int) RX5 (by decide) rfl rfl (Nat.le_of_ble_eq_true rfl) (rfl) ?_
  intro vp ve vs vm va vb vt vc Q C hend
  refine z_lv [(0, .ref (ad 0)), (1, .int (nI (a)))] ⟨rfl, rfl, rfl, rfl, trivial⟩ ?_
  obtain ⟨sd, sc, s26, -, -, -⟩ := id hs
  refine z_iconst C (nI (0)) dX5_loadFrom_0 (by decide) ?_
  refine z_istore_n C [(0, .ref (ad 0)), (1, .int (nI (a))), (2, .int (nI (0)))] dX5_loadFrom_1 (by decide) ⟨rfl, rfl, rfl, rfl, rfl, rfl, trivial⟩ ?_
  refine z_iconst C (nI (0)) dX5_loadFrom_2 (by decide) ?_
  refine z_istore_n C [(0, .ref (ad 0)), (1, .int (nI (a))), (2, .int (nI (0))), (3, .int (nI (0)))] dX5_loadFrom_3 (by decide) ⟨rfl, rfl, rfl, rfl, rfl, rfl, rfl, rfl, trivial⟩ ?_
  have loop4 : ∀ (fuel : Nat) (x : Nat), (hx : x ≤ W) → W - x < fuel → Z vp vl ve { frames := 4, cells := 0, slots := 0, locals := 86 } vs vm va vb vt vc 5 D A 40 ad E [(0, .ref (ad 0)), (1, .int (nI (a))), (2, .int (nI (sm (colS L0 t df a) x))), (3, .int (nI (x)))] 0 0 Q 4 [] := by
    intro fuel
    induction fuel with
    | zero => intro x hx hlt; exact absurd hlt (Nat.not_lt_zero _)
    | succ fuel ih =>
      intro x hx hlt
      have hs1 : sm (colS L0 t df a) x ≤ x * 16 := sm_le (fun k _ => colS_le L0 t df a k)
      have ih4 := ih
      refine z_iload_n C dX5_loadFrom_4 rfl ?_
      refine z_aload_n C dX5_loadFrom_5 rfl ?_
      refine z_get C (0) (Cn := RX5) (T := TX5) (N := 12) (fi := 5) iw_X5_loadFrom_5 rfl (by decide) ln_X5_loadFrom_41 (by first | decide | omega) rfl e0 rfl dX5_loadFrom_6 ?_
      refine z_icmp_geN C 54 (by omega) (by omega) dX5_loadFrom_9 (by decide) (fun h9 => ?_) (fun h9 => ?_)
      · have hie : x = W := by omega
        refine z_iload_n C dX5_loadFrom_54 rfl ?_
        exact hend _ _ _ dX5_loadFrom_55 (by rw [hie]; rfl)
      · refine z_aload_n C dX5_loadFrom_12 rfl ?_
        refine z_get C (0) (Cn := RX5) (T := TX5) (N := 12) (fi := 3) iw_X5_loadFrom_5 rfl (by decide) ln_X5_loadFrom_33 (by first | decide | omega) rfl e0 rfl dX5_loadFrom_13 ?_
        refine z_iload_n C dX5_loadFrom_16 rfl ?_
        refine z_iload_n C dX5_loadFrom_17 rfl ?_
        refine z_iaddN C  dX5_loadFrom_18 ?_
        refine z_callVF C (26) (Cn := RX3) (T := TX3) (N := 3) (k_X3_colorAt vl D cI cM A ad E hX hs (by omega) hl) (cwV 1 C.2.2.2.2.1 gX5_loadFrom_X3_colorAt rfl rfl rfl (by decide +kernel) ⟨Nat.le_of_ble_eq_true rfl, Nat.le_of_ble_eq_true rfl⟩) rfl (by first | decide | omega) rfl s26 rfl rfl (Nat.le_of_ble_eq_true rfl) ⟨Nat.zero_le _, Nat.zero_le _⟩ dX5_loadFrom_19 ?_
        refine z_iconst C (nI (3)) dX5_loadFrom_22 (by decide) ?_
        refine z_icmp_neN C 30 (by have := hc (a + x); omega) (by omega) dX5_loadFrom_23 (by decide) (fun h23 => ?_) (fun h23 => ?_)
        · refine z_iconst C (nI (1)) dX5_loadFrom_30 (by decide) ?_
          refine z_istore C [(0, .ref (ad 0)), (1, .int (nI (a))), (2, .int (nI (sm (colS L0 t df a) x))), (3, .int (nI (x))), (4, .int (nI (1)))] dX5_loadFrom_31 (by decide) ⟨rfl, rfl, rfl, rfl, rfl, rfl, rfl, rfl, rfl, rfl, trivial⟩ ?_
          refine z_iload_n C dX5_loadFrom_33 rfl ?_
          refine z_iload C dX5_loadFrom_34 rfl ?_
          refine z_aload_n C dX5_loadFrom_36 rfl ?_
          refine z_iload_n C dX5_loadFrom_37 rfl ?_
          refine z_iload_n C dX5_loadFrom_38 rfl ?_
          refine z_callVF C (0) (Cn := RX5) (T := TX5) (N := 12) (k_X5_litRows vl D cI cM A ad E hX e0 e29 hs hl hd hdf ht (by omega) (by omega)) (cwV 2 C.2.2.2.2.1 gX5_loadFrom_X5_litRows rfl rfl rfl (by decide +kernel) ⟨Nat.le_of_ble_eq_true rfl, Nat.le_of_ble_eq_true rfl⟩) rfl (by first | decide | omega) rfl e0 rfl rfl (Nat.le_of_ble_eq_true rfl) ⟨Nat.zero_le _, Nat.zero_le _⟩ dX5_loadFrom_39 ?_
          refine z_callSF C (k_J6_bitCount_0f7a4 vl D cI cM A ad E hX (lit_lt (hd _))) (va_cwS 1 C.2.2.2.2.1 gX5_loadFrom_J6_bitCount_0f7a4 rfl rfl rfl (by decide +kernel) ⟨Nat.le_of_ble_eq_true rfl, Nat.le_of_ble_eq_true rfl⟩) rfl rfl (Nat.le_of_ble_eq_true rfl) ⟨Nat.zero_le _, Nat.zero_le _⟩ dX5_loadFrom_42 ?_
          refine z_imulN C  dX5_loadFrom_45 ?_
          refine z_iaddN C  dX5_loadFrom_46 ?_
          refine z_istore_n C [(0, .ref (ad 0)), (1, .int (nI (a))), (2, .int (nI ((sm (colS L0 t df a) x) + (1 * (pc8 (lit (dotc L0 (a + x)) t (df x))))))), (3, .int (nI (x))), (4, .int (nI (1)))] dX5_loadFrom_47 (by decide) ⟨rfl, rfl, rfl, rfl, rfl, rfl, rfl, rfl, rfl, rfl, trivial⟩ ?_
          refine z_iincN (j := 1) C [(0, .ref (ad 0)), (1, .int (nI (a))), (2, .int (nI ((sm (colS L0 t df a) x) + (1 * (pc8 (lit (dotc L0 (a + x)) t (df x))))))), (3, .int (nI (x + 1))), (4, .int (nI (1)))] dX5_loadFrom_48 rfl (by decide) ⟨rfl, rfl, rfl, rfl, rfl, rfl, rfl, rfl, rfl, rfl, trivial⟩ ?_
          refine z_goto C 4 dX5_loadFrom_51 (by decide) ?_
          refine z_lv [(0, .ref (ad 0)), (1, .int (nI (a))), (2, .int (nI ((sm (colS L0 t df a) x) + (1 * (pc8 (lit (dotc L0 (a + x)) t (df x))))))), (3, .int (nI (x + 1)))] ⟨rfl, rfl, rfl, rfl, rfl, rfl, rfl, rfl, trivial⟩ ?_
          have q := ih4 (x + 1) (by omega) (by omega)
          have e : sm (colS L0 t df a) (x + 1) = sm (colS L0 t df a) x + 1 * pc8 (lit (dotc L0 (a + x)) t (df x)) := by
            show _ + colS L0 t df a x = _
            unfold colS wt
            rw [if_neg h23]
          rw [e] at q
          exact q
        · refine z_iconst C (nI (2)) dX5_loadFrom_26 (by decide) ?_
          refine z_goto C 31 dX5_loadFrom_27 (by decide) ?_
          refine z_istore C [(0, .ref (ad 0)), (1, .int (nI (a))), (2, .int (nI (sm (colS L0 t df a) x))), (3, .int (nI (x))), (4, .int (nI (2)))] dX5_loadFrom_31 (by decide) ⟨rfl, rfl, rfl, rfl, rfl, rfl, rfl, rfl, rfl, rfl, trivial⟩ ?_
          refine z_iload_n C dX5_loadFrom_33 rfl ?_
          refine z_iload C dX5_loadFrom_34 rfl ?_
          refine z_aload_n C dX5_loadFrom_36 rfl ?_
          refine z_iload_n C dX5_loadFrom_37 rfl ?_
          refine z_iload_n C dX5_loadFrom_38 rfl ?_
          refine z_callVF C (0) (Cn := RX5) (T := TX5) (N := 12) (k_X5_litRows vl D cI cM A ad E hX e0 e29 hs hl hd hdf ht (by omega) (by omega)) (cwV 2 C.2.2.2.2.1 gX5_loadFrom_X5_litRows rfl rfl rfl (by decide +kernel) ⟨Nat.le_of_ble_eq_true rfl, Nat.le_of_ble_eq_true rfl⟩) rfl (by first | decide | omega) rfl e0 rfl rfl (Nat.le_of_ble_eq_true rfl) ⟨Nat.zero_le _, Nat.zero_le _⟩ dX5_loadFrom_39 ?_
          refine z_callSF C (k_J6_bitCount_0f7a4 vl D cI cM A ad E hX (lit_lt (hd _))) (va_cwS 1 C.2.2.2.2.1 gX5_loadFrom_J6_bitCount_0f7a4 rfl rfl rfl (by decide +kernel) ⟨Nat.le_of_ble_eq_true rfl, Nat.le_of_ble_eq_true rfl⟩) rfl rfl (Nat.le_of_ble_eq_true rfl) ⟨Nat.zero_le _, Nat.zero_le _⟩ dX5_loadFrom_42 ?_
          refine z_imulN C  dX5_loadFrom_45 ?_
          refine z_iaddN C  dX5_loadFrom_46 ?_
          refine z_istore_n C [(0, .ref (ad 0)), (1, .int (nI (a))), (2, .int (nI ((sm (colS L0 t df a) x) + (2 * (pc8 (lit (dotc L0 (a + x)) t (df x))))))), (3, .int (nI (x))), (4, .int (nI (2)))] dX5_loadFrom_47 (by decide) ⟨rfl, rfl, rfl, rfl, rfl, rfl, rfl, rfl, rfl, rfl, trivial⟩ ?_
          refine z_iincN (j := 1) C [(0, .ref (ad 0)), (1, .int (nI (a))), (2, .int (nI ((sm (colS L0 t df a) x) + (2 * (pc8 (lit (dotc L0 (a + x)) t (df x))))))), (3, .int (nI (x + 1))), (4, .int (nI (2)))] dX5_loadFrom_48 rfl (by decide) ⟨rfl, rfl, rfl, rfl, rfl, rfl, rfl, rfl, rfl, rfl, trivial⟩ ?_
          refine z_goto C 4 dX5_loadFrom_51 (by decide) ?_
          refine z_lv [(0, .ref (ad 0)), (1, .int (nI (a))), (2, .int (nI ((sm (colS L0 t df a) x) + (2 * (pc8 (lit (dotc L0 (a + x)) t (df x))))))), (3, .int (nI (x + 1)))] ⟨rfl, rfl, rfl, rfl, rfl, rfl, rfl, rfl, trivial⟩ ?_
          have q := ih4 (x + 1) (by omega) (by omega)
          have e : sm (colS L0 t df a) (x + 1) = sm (colS L0 t df a) x + 2 * pc8 (lit (dotc L0 (a + x)) t (df x)) := by
            show _ + colS L0 t df a x = _
            unfold colS wt
            rw [if_pos h23]
          rw [e] at q
          exact q
  refine z_lv [(0, .ref (ad 0)), (1, .int (nI (a))), (2, .int (nI (0))), (3, .int (nI (0)))] ⟨rfl, rfl, rfl, rfl, rfl, rfl, rfl, rfl, trivial⟩ ?_
  exact loop4 (W + 1) 0 (Nat.zero_le _) (by omega)

def hv (f : Nat → Nat) : Nat → Nat
  | 0 => 0
  | i + 1 => if i = 0 then 0 else if f (hv f i) < f i then i else hv f i
def pkv (f : Nat → Nat) (i : Nat) : Int32 := if i = 0 then -1 else nI (f (hv f i))
theorem hv_T {f : Nat → Nat} {i : Nat} (hb : ∀ k, f k < 2 ^ 31) (h : nI (f i) ≤ pkv f i) : hv f (i + 1) = hv f i ∧ pkv f (i + 1) = pkv f i := by
  by_cases h0 : i = 0
  · subst h0
    exfalso
    unfold pkv at h
    rw [if_pos rfl] at h
    exact absurd (Int32.le_trans (nI_pos' (hb 0)) h) (by decide)
  · unfold pkv at h ⊢
    rw [if_neg h0, nI_leI (hb _) (hb _)] at h
    have e : hv f (i + 1) = hv f i := by rw [hv, if_neg h0, if_neg (by omega)]
    rw [if_neg (by omega), if_neg h0, e]
    exact ⟨rfl, rfl⟩
theorem hv_F {f : Nat → Nat} {i : Nat} (hb : ∀ k, f k < 2 ^ 31) (h : ¬ nI (f i) ≤ pkv f i) : hv f (i + 1) = i ∧ pkv f (i + 1) = nI (f i) := by
  have e : hv f (i + 1) = i := by
    by_cases h0 : i = 0
    · subst h0; rfl
    · unfold pkv at h
      rw [if_neg h0, nI_leI (hb _) (hb _)] at h
      rw [hv, if_neg h0, if_pos (by omega)]
  unfold pkv
  rw [if_neg (by omega), e]
  exact ⟨rfl, rfl⟩
theorem iw_X5_heaviestOffset_5 : ∀ w ∈ wsX50, w ∈ wsX5_heaviestOffset := by decide +kernel
theorem ln_X5_heaviestOffset_33 : Cond.fieldLink RX5 33 "MarqueeDisplay" "strip" "LMarqueeDisplay$Strip;" ∈ wsX5_heaviestOffset := by decide +kernel
theorem iw_X5_heaviestOffset_3 : ∀ w ∈ wsX30, w ∈ wsX5_heaviestOffset := by decide +kernel
theorem nl_X5_114 : Cond.fieldLinkNest RX5 114 "MarqueeDisplay$Strip" "length" "I" "MarqueeDisplay" ∈ nwL := by decide +kernel
set_option maxHeartbeats 4000000 in
set_option maxRecDepth 100000 in
theorem k_X5_heaviestOffset (vl : Launch) (D : va_G) (cI cM : ClassId) (A : Nat → Prop) (ad : Nat → Nat) (E : Nat → va_E) (hX : XD A 40 ad) {W G S B off cnt t : Nat} {df : Nat → Nat} {L0 : List (Nat × Nat)} (e0 : E (0) = .inr (5, [.ref (ad 1), .ref (ad 4), .ref (ad 6), .ref (ad 26), .ref (ad 29), .int (nI (W)), .int (nI (G)), .int (nI (S)), .int (shI t), .int (nI (B)), .int (nI (off)), .int (nI (cnt))])) (e29 : E (29) = aI cI 32 df) (hs : StripAt cI ad E L0) (hl : L0.length ≤ 552) (hd : ∀ a, dotc L0 a < 256) (hdf : ∀ x, x < 32 → df x < 256) (hc : ∀ a, colc L0 a ≤ 3) (ht : t ≤ 4) (hW : W ≤ 32) : MF vl yX5_heaviestOffset wsX5_heaviestOffset { frames := 5, cells := 0, slots := 0, locals := 110 } D cI cM A 40 ad E [.ref (ad 0)] (nI (hv (ldS L0 t df W) L0.length)) := by
  refine mf_of cX5_heaviestOffset 5 (.int) RX5 (by decide) rfl rfl (Nat.le_of_ble_eq_true rfl) (rfl) ?_
  intro vp ve vs vm va vb vt vc Q C hend
  refine z_lv [(0, .ref (ad 0))] ⟨rfl, rfl, trivial⟩ ?_
  obtain ⟨sd, sc, s26, -, -, -⟩ := id hs
  have hfb : ∀ k, ldS L0 t df W k < 2 ^ 31 := fun k => by have := ldS_le L0 t df W k; omega
  refine z_iconst C (nI (0)) dX5_heaviestOffset_0 (by decide) ?_
  refine z_istore_n C [(0, .ref (ad 0)), (1, .int (nI (0)))] dX5_heaviestOffset_1 (by decide) ⟨rfl, rfl, rfl, rfl, trivial⟩ ?_
  refine z_iconst C (-1) dX5_heaviestOffset_2 (by decide) ?_
  refine z_istore_n C [(0, .ref (ad 0)), (1, .int (nI (0))), (2, .int (-1))] dX5_heaviestOffset_3 (by decide) ⟨rfl, rfl, rfl, rfl, rfl, rfl, trivial⟩ ?_
  refine z_iconst C (nI (0)) dX5_heaviestOffset_4 (by decide) ?_
  refine z_istore_n C [(0, .ref (ad 0)), (1, .int (nI (0))), (2, .int (-1)), (3, .int (nI (0)))] dX5_heaviestOffset_5 (by decide) ⟨rfl, rfl, rfl, rfl, rfl, rfl, rfl, rfl, trivial⟩ ?_
  have loop6 : ∀ (fuel : Nat) (i : Nat), (hi : i ≤ L0.length) → L0.length - i < fuel → Z vp vl ve { frames := 5, cells := 0, slots := 0, locals := 110 } vs vm va vb vt vc 5 D A 40 ad E [(0, .ref (ad 0)), (1, .int (nI (hv (ldS L0 t df W) i))), (2, .int (pkv (ldS L0 t df W) i)), (3, .int (nI (i)))] 0 0 Q 6 [] := by
    intro fuel
    induction fuel with
    | zero => intro i hi hlt; exact absurd hlt (Nat.not_lt_zero _)
    | succ fuel ih =>
      intro i hi hlt
      have ih6 := ih
      refine z_iload_n C dX5_heaviestOffset_6 rfl ?_
      refine z_aload_n C dX5_heaviestOffset_7 rfl ?_
      refine z_get C (0) (Cn := RX5) (T := TX5) (N := 12) (fi := 3) iw_X5_heaviestOffset_5 rfl (by decide) ln_X5_heaviestOffset_33 (by first | decide | omega) rfl e0 rfl dX5_heaviestOffset_8 ?_
      refine z_getN C (26) (Cn := RX3) (T := TX3) (N := 3) (fi := 2) iw_X5_heaviestOffset_3 rfl (by decide) nl_X5_114 (by first | decide | omega) rfl s26 rfl dX5_heaviestOffset_11 ?_
      refine z_icmp_geN C 41 (by omega) (by omega) dX5_heaviestOffset_14 (by decide) (fun h14 => ?_) (fun h14 => ?_)
      · have hie : i = L0.length := by omega
        refine z_iload_n C dX5_heaviestOffset_41 rfl ?_
        exact hend _ _ _ dX5_heaviestOffset_42 (by rw [hie])
      · refine z_aload_n C dX5_heaviestOffset_17 rfl ?_
        refine z_iload_n C dX5_heaviestOffset_18 rfl ?_
        refine z_callVF C (0) (Cn := RX5) (T := TX5) (N := 12) (k_X5_loadFrom vl D cI cM A ad E hX e0 e29 hs hl hd hdf hc ht (by omega) hW) (cwV 1 C.2.2.2.2.1 gX5_heaviestOffset_X5_loadFrom rfl rfl rfl (by decide +kernel) ⟨Nat.le_of_ble_eq_true rfl, Nat.le_of_ble_eq_true rfl⟩) rfl (by first | decide | omega) rfl e0 rfl rfl (Nat.le_of_ble_eq_true rfl) ⟨Nat.zero_le _, Nat.zero_le _⟩ dX5_heaviestOffset_19 ?_
        refine z_istore C [(0, .ref (ad 0)), (1, .int (nI (hv (ldS L0 t df W) i))), (2, .int (pkv (ldS L0 t df W) i)), (3, .int (nI (i))), (4, .int (nI (ldS L0 t df W i)))] dX5_heaviestOffset_22 (by decide) ⟨rfl, rfl, rfl, rfl, rfl, rfl, rfl, rfl, rfl, rfl, trivial⟩ ?_
        refine z_iload C dX5_heaviestOffset_24 rfl ?_
        refine z_iload_n C dX5_heaviestOffset_26 rfl ?_
        refine z_icmp_le C 35 dX5_heaviestOffset_27 (by decide) (fun h27 => ?_) (fun h27 => ?_)
        · refine z_iincN (j := 1) C [(0, .ref (ad 0)), (1, .int (nI (hv (ldS L0 t df W) i))), (2, .int (pkv (ldS L0 t df W) i)), (3, .int (nI (i + 1))), (4, .int (nI (ldS L0 t df W i)))] dX5_heaviestOffset_35 rfl (by decide) ⟨rfl, rfl, rfl, rfl, rfl, rfl, rfl, rfl, rfl, rfl, trivial⟩ ?_
          refine z_goto C 6 dX5_heaviestOffset_38 (by decide) ?_
          refine z_lv [(0, .ref (ad 0)), (1, .int (nI (hv (ldS L0 t df W) i))), (2, .int (pkv (ldS L0 t df W) i)), (3, .int (nI (i + 1)))] ⟨rfl, rfl, rfl, rfl, rfl, rfl, rfl, rfl, trivial⟩ ?_
          have q := ih6 (i + 1) (by omega) (by omega)
          rw [(hv_T hfb h27).1, (hv_T hfb h27).2] at q
          exact q
        · refine z_iload_n C dX5_heaviestOffset_30 rfl ?_
          refine z_istore_n C [(0, .ref (ad 0)), (1, .int (nI (i))), (2, .int (pkv (ldS L0 t df W) i)), (3, .int (nI (i))), (4, .int (nI (ldS L0 t df W i)))] dX5_heaviestOffset_31 (by decide) ⟨rfl, rfl, rfl, rfl, rfl, rfl, rfl, rfl, rfl, rfl, trivial⟩ ?_
          refine z_iload C dX5_heaviestOffset_32 rfl ?_
          refine z_istore_n C [(0, .ref (ad 0)), (1, .int (nI (i))), (2, .int (nI (ldS L0 t df W i))), (3, .int (nI (i))), (4, .int (nI (ldS L0 t df W i)))] dX5_heaviestOffset_34 (by decide) ⟨rfl, rfl, rfl, rfl, rfl, rfl, rfl, rfl, rfl, rfl, trivial⟩ ?_
          refine z_iincN (j := 1) C [(0, .ref (ad 0)), (1, .int (nI (i))), (2, .int (nI (ldS L0 t df W i))), (3, .int (nI (i + 1))), (4, .int (nI (ldS L0 t df W i)))] dX5_heaviestOffset_35 rfl (by decide) ⟨rfl, rfl, rfl, rfl, rfl, rfl, rfl, rfl, rfl, rfl, trivial⟩ ?_
          refine z_goto C 6 dX5_heaviestOffset_38 (by decide) ?_
          refine z_lv [(0, .ref (ad 0)), (1, .int (nI (i))), (2, .int (nI (ldS L0 t df W i))), (3, .int (nI (i + 1)))] ⟨rfl, rfl, rfl, rfl, rfl, rfl, rfl, rfl, trivial⟩ ?_
          have q := ih6 (i + 1) (by omega) (by omega)
          rw [(hv_F hfb h27).1, (hv_F hfb h27).2] at q
          exact q
  refine z_lv [(0, .ref (ad 0)), (1, .int (nI (0))), (2, .int (-1)), (3, .int (nI (0)))] ⟨rfl, rfl, rfl, rfl, rfl, rfl, rfl, rfl, trivial⟩ ?_
  exact loop6 (L0.length + 1) 0 (Nat.zero_le _) (by omega)

theorem iw_X5_damageWith_5 : ∀ w ∈ wsX50, w ∈ wsX5_damageWith := by decide +kernel
theorem ln_X5_damageWith_41 : Cond.fieldLink RX5 41 "MarqueeDisplay" "columns" "I" ∈ wsX5_damageWith := by decide +kernel
theorem ln_X5_damageWith_33 : Cond.fieldLink RX5 33 "MarqueeDisplay" "strip" "LMarqueeDisplay$Strip;" ∈ wsX5_damageWith := by decide +kernel
theorem ln_X5_damageWith_57 : Cond.fieldLink RX5 57 "MarqueeDisplay" "offset" "I" ∈ wsX5_damageWith := by decide +kernel
set_option maxHeartbeats 4000000 in
set_option maxRecDepth 100000 in
theorem k_X5_damageWith (vl : Launch) (D : va_G) (cI cM : ClassId) (A : Nat → Prop) (ad : Nat → Nat) (E : Nat → va_E) (hX : XD A 40 ad) {W G S B off cnt t : Nat} {df : Nat → Nat} {L0 : List (Nat × Nat)} {t2 : Nat} (e0 : E (0) = .inr (5, [.ref (ad 1), .ref (ad 4), .ref (ad 6), .ref (ad 26), .ref (ad 29), .int (nI (W)), .int (nI (G)), .int (nI (S)), .int (shI t), .int (nI (B)), .int (nI (off)), .int (nI (cnt))])) (e29 : E (29) = aI cI 32 df) (hs : StripAt cI ad E L0) (hl : L0.length ≤ 552) (hd : ∀ a, dotc L0 a < 256) (hdf : ∀ x, x < 32 → df x < 256) (ht : t2 ≤ 4) (ha : off < 2 ^ 30) (hW : W ≤ 32) : MF vl yX5_damageWith wsX5_damageWith { frames := 3, cells := 0, slots := 0, locals := 64 } D cI cM A 40 ad E [.ref (ad 0), .int (shI t2)] (nI (sm (dmS L0 t2 df off) W)) := by
  refine mf_of cX5_damageWith 6 (.int) RX5 (by decide) rfl rfl (Nat.le_of_ble_eq_true rfl) (rfl) ?_
  intro vp ve vs vm va vb vt vc Q C hend
  refine z_lv [(0, .ref (ad 0)), (1, .int (shI t2))] ⟨rfl, rfl, rfl, rfl, trivial⟩ ?_
  obtain ⟨sd, sc, s26, -, -, -⟩ := id hs
  refine z_iconst C (nI (0)) dX5_damageWith_0 (by decide) ?_
  refine z_istore_n C [(0, .ref (ad 0)), (1, .int (shI t2)), (2, .int (nI (0)))] dX5_damageWith_1 (by decide) ⟨rfl, rfl, rfl, rfl, rfl, rfl, trivial⟩ ?_
  refine z_iconst C (nI (0)) dX5_damageWith_2 (by decide) ?_
  refine z_istore_n C [(0, .ref (ad 0)), (1, .int (shI t2)), (2, .int (nI (0))), (3, .int (nI (0)))] dX5_damageWith_3 (by decide) ⟨rfl, rfl, rfl, rfl, rfl, rfl, rfl, rfl, trivial⟩ ?_
  have loop4 : ∀ (fuel : Nat) (x : Nat), (hx : x ≤ W) → W - x < fuel → Z vp vl ve { frames := 3, cells := 0, slots := 0, locals := 64 } vs vm va vb vt vc 6 D A 40 ad E [(0, .ref (ad 0)), (1, .int (shI t2)), (2, .int (nI (sm (dmS L0 t2 df off) x))), (3, .int (nI (x)))] 0 0 Q 4 [] := by
    intro fuel
    induction fuel with
    | zero => intro x hx hlt; exact absurd hlt (Nat.not_lt_zero _)
    | succ fuel ih =>
      intro x hx hlt
      have hs1 : sm (dmS L0 t2 df off) x ≤ x * 8 := sm_le (fun k _ => dmS_le L0 t2 df off k)
      have ih4 := ih
      refine z_iload_n C dX5_damageWith_4 rfl ?_
      refine z_aload_n C dX5_damageWith_5 rfl ?_
      refine z_get C (0) (Cn := RX5) (T := TX5) (N := 12) (fi := 5) iw_X5_damageWith_5 rfl (by decide) ln_X5_damageWith_41 (by first | decide | omega) rfl e0 rfl dX5_damageWith_6 ?_
      refine z_icmp_geN C 63 (by omega) (by omega) dX5_damageWith_9 (by decide) (fun h9 => ?_) (fun h9 => ?_)
      · have hie : x = W := by omega
        refine z_iload_n C dX5_damageWith_63 rfl ?_
        exact hend _ _ _ dX5_damageWith_64 (by rw [hie])
      · refine z_aload_n C dX5_damageWith_12 rfl ?_
        refine z_get C (0) (Cn := RX5) (T := TX5) (N := 12) (fi := 3) iw_X5_damageWith_5 rfl (by decide) ln_X5_damageWith_33 (by first | decide | omega) rfl e0 rfl dX5_damageWith_13 ?_
        refine z_aload_n C dX5_damageWith_16 rfl ?_
        refine z_get C (0) (Cn := RX5) (T := TX5) (N := 12) (fi := 10) iw_X5_damageWith_5 rfl (by decide) ln_X5_damageWith_57 (by first | decide | omega) rfl e0 rfl dX5_damageWith_17 ?_
        refine z_iload_n C dX5_damageWith_20 rfl ?_
        refine z_iaddN C  dX5_damageWith_21 ?_
        refine z_callVF C (26) (Cn := RX3) (T := TX3) (N := 3) (k_X3_dotsAt vl D cI cM A ad E hX hs (by omega) hl) (cwV 1 C.2.2.2.2.1 gX5_damageWith_X3_dotsAt rfl rfl rfl (by decide +kernel) ⟨Nat.le_of_ble_eq_true rfl, Nat.le_of_ble_eq_true rfl⟩) rfl (by first | decide | omega) rfl s26 rfl rfl (Nat.le_of_ble_eq_true rfl) ⟨Nat.zero_le _, Nat.zero_le _⟩ dX5_damageWith_22 ?_
        refine z_istore C [(0, .ref (ad 0)), (1, .int (shI t2)), (2, .int (nI (sm (dmS L0 t2 df off) x))), (3, .int (nI (x))), (4, .int (nI (dotc L0 (off + x))))] dX5_damageWith_25 (by decide) ⟨rfl, rfl, rfl, rfl, rfl, rfl, rfl, rfl, rfl, rfl, trivial⟩ ?_
        refine z_iload C dX5_damageWith_27 rfl ?_
        refine z_iload_n C dX5_damageWith_29 rfl ?_
        refine z_callSF C (k_X5_shifted vl D cI cM A ad E hX (hd _) ht) (va_cwS 2 C.2.2.2.2.1 gX5_damageWith_X5_shifted rfl rfl rfl (by decide +kernel) ⟨Nat.le_of_ble_eq_true rfl, Nat.le_of_ble_eq_true rfl⟩) rfl rfl (Nat.le_of_ble_eq_true rfl) ⟨Nat.zero_le _, Nat.zero_le _⟩ dX5_damageWith_30 ?_
        refine z_aload_n C dX5_damageWith_33 rfl ?_
        refine z_iload_n C dX5_damageWith_34 rfl ?_
        refine z_callVF C (0) (Cn := RX5) (T := TX5) (N := 12) (k_X5_defectsOf vl D cI cM A ad E hX e0 e29 (by omega)) (cwV 1 C.2.2.2.2.1 gX5_damageWith_X5_defectsOf rfl rfl rfl (by decide +kernel) ⟨Nat.le_of_ble_eq_true rfl, Nat.le_of_ble_eq_true rfl⟩) rfl (by first | decide | omega) rfl e0 rfl rfl (Nat.le_of_ble_eq_true rfl) ⟨Nat.zero_le _, Nat.zero_le _⟩ dX5_damageWith_35 ?_
        refine z_iconst C (-1) dX5_damageWith_38 (by decide) ?_
        refine z_ixor C dX5_damageWith_39  ?_
        refine z_top (nI (4294967295 - df x)) (xor_m1 _ (hdf x (by omega))) ?_
        refine z_iand C dX5_damageWith_40  ?_
        refine z_top (nI (lit (dotc L0 (off + x)) t2 (df x))) (lit_e (hd _) (hdf x (by omega))) ?_
        refine z_istore C [(0, .ref (ad 0)), (1, .int (shI t2)), (2, .int (nI (sm (dmS L0 t2 df off) x))), (3, .int (nI (x))), (4, .int (nI (dotc L0 (off + x)))), (5, .int (nI (lit (dotc L0 (off + x)) t2 (df x))))] dX5_damageWith_41 (by decide) ⟨rfl, rfl, rfl, rfl, rfl, rfl, rfl, rfl, rfl, rfl, rfl, rfl, trivial⟩ ?_
        refine z_iload_n C dX5_damageWith_43 rfl ?_
        refine z_iload C dX5_damageWith_44 rfl ?_
        refine z_callSF C (k_J6_bitCount_0f7a4 vl D cI cM A ad E hX (hd _)) (va_cwS 1 C.2.2.2.2.1 gX5_damageWith_J6_bitCount_0f7a4 rfl rfl rfl (by decide +kernel) ⟨Nat.le_of_ble_eq_true rfl, Nat.le_of_ble_eq_true rfl⟩) rfl rfl (Nat.le_of_ble_eq_true rfl) ⟨Nat.zero_le _, Nat.zero_le _⟩ dX5_damageWith_46 ?_
        refine z_iload C dX5_damageWith_49 rfl ?_
        refine z_callSF C (k_J6_bitCount_0f7a4 vl D cI cM A ad E hX (lit_lt (hd _))) (va_cwS 1 C.2.2.2.2.1 gX5_damageWith_J6_bitCount_0f7a4 rfl rfl rfl (by decide +kernel) ⟨Nat.le_of_ble_eq_true rfl, Nat.le_of_ble_eq_true rfl⟩) rfl rfl (Nat.le_of_ble_eq_true rfl) ⟨Nat.zero_le _, Nat.zero_le _⟩ dX5_damageWith_51 ?_
        refine z_isubN C (pc8_lit (hd _) ht) dX5_damageWith_54 ?_
        refine z_iaddN C  dX5_damageWith_55 ?_
        refine z_istore_n C [(0, .ref (ad 0)), (1, .int (shI t2)), (2, .int (nI ((sm (dmS L0 t2 df off) x) + ((pc8 (dotc L0 (off + x))) - (pc8 (lit (dotc L0 (off + x)) t2 (df x))))))), (3, .int (nI (x))), (4, .int (nI (dotc L0 (off + x)))), (5, .int (nI (lit (dotc L0 (off + x)) t2 (df x))))] dX5_damageWith_56 (by decide) ⟨rfl, rfl, rfl, rfl, rfl, rfl, rfl, rfl, rfl, rfl, rfl, rfl, trivial⟩ ?_
        refine z_iincN (j := 1) C [(0, .ref (ad 0)), (1, .int (shI t2)), (2, .int (nI ((sm (dmS L0 t2 df off) x) + ((pc8 (dotc L0 (off + x))) - (pc8 (lit (dotc L0 (off + x)) t2 (df x))))))), (3, .int (nI (x + 1))), (4, .int (nI (dotc L0 (off + x)))), (5, .int (nI (lit (dotc L0 (off + x)) t2 (df x))))] dX5_damageWith_57 rfl (by decide) ⟨rfl, rfl, rfl, rfl, rfl, rfl, rfl, rfl, rfl, rfl, rfl, rfl, trivial⟩ ?_
        refine z_goto C 4 dX5_damageWith_60 (by decide) ?_
        refine z_lv [(0, .ref (ad 0)), (1, .int (shI t2)), (2, .int (nI ((sm (dmS L0 t2 df off) x) + ((pc8 (dotc L0 (off + x))) - (pc8 (lit (dotc L0 (off + x)) t2 (df x))))))), (3, .int (nI (x + 1)))] ⟨rfl, rfl, rfl, rfl, rfl, rfl, rfl, rfl, trivial⟩ ?_
        exact ih4 (x + 1) (by omega) (by omega)
  refine z_lv [(0, .ref (ad 0)), (1, .int (shI t2)), (2, .int (nI (0))), (3, .int (nI (0)))] ⟨rfl, rfl, rfl, rfl, rfl, rfl, rfl, rfl, trivial⟩ ?_
  exact loop4 (W + 1) 0 (Nat.zero_le _) (by omega)
end
section
theorem iw_X5_layOutStrip_5 : ∀ w ∈ wsX50, w ∈ wsX5_layOutStrip := by decide +kernel
theorem ln_X5_layOutStrip_33 : Cond.fieldLink RX5 33 "MarqueeDisplay" "strip" "LMarqueeDisplay$Strip;" ∈ wsX5_layOutStrip := by decide +kernel
theorem ln_X5_layOutStrip_26 : Cond.fieldLink RX5 26 "MarqueeDisplay" "messages" "LMarqueeDisplay$MessageList;" ∈ wsX5_layOutStrip := by decide +kernel
theorem ln_X5_layOutStrip_12 : Cond.fieldLink RX5 12 "MarqueeDisplay" "font" "LMarqueeDisplay$Font;" ∈ wsX5_layOutStrip := by decide +kernel
theorem ln_X5_layOutStrip_45 : Cond.fieldLink RX5 45 "MarqueeDisplay" "gap" "I" ∈ wsX5_layOutStrip := by decide +kernel
theorem ln_X5_layOutStrip_57 : Cond.fieldLink RX5 57 "MarqueeDisplay" "offset" "I" ∈ wsX5_layOutStrip := by decide +kernel
theorem iw_X5_layOutStrip_3 : ∀ w ∈ wsX30, w ∈ wsX5_layOutStrip := by decide +kernel
set_option maxHeartbeats 4000000 in
set_option maxRecDepth 100000 in
theorem k_X5_layOutStrip (vl : Launch) (D : va_G) (cI cM : ClassId) (A : Nat → Prop) (ad : Nat → Nat) (E : Nat → va_E) (hX : XD A 40 ad) {W S B off cnt t : Nat}{wd dt : Nat → Nat} {G n : Nat} {pm sz co : Nat → Nat} {le : Nat → Nat → Nat} {l0 : List (Nat × Nat)} (e0 : E (0) = .inr (5, [.ref (ad 1), .ref (ad 4), .ref (ad 6), .ref (ad 26), .ref (ad 29), .int (nI (W)), .int (nI (G)), .int (nI (S)), .int (shI t), .int (nI (B)), .int (nI (off)), .int (nI (cnt))])) (hs : StripAt cI ad E l0) (e1 : E (1) = .inr (0, [.ref (ad 2), .ref (ad 3)])) (e2 : E (2) = aI cI 27 wd) (e3 : E (3) = aI cI 162 dt) (l6 : E (6) = .inr (2, [.ref (ad 7), .int (nI (n))])) (l7 : E (7) = .inl (cM, 6, .inr (.inr (.inr (.inr (sf ad pm)))))) (hn : n ≤ 6) (hG : G ≤ 9) (hpm : PM pm) (hw : ∀ c, c < 27 → wd c ≤ 6) (hsz : ∀ i, i < n → sz i ≤ 12 ∧ ∀ k, k < sz i → le i k < 27) (hm : ∀ k : Nat, k < n → ∃ (st wi : Int32) (g : Nat → Nat), Msg cI ad E (pm k) (nI (sz k)) (nI (co k)) st wi g ∧ ∀ q : Nat, q < sz k → g q = le k q) (ho : off < 2 ^ 31) : MV vl yX5_layOutStrip wsX5_layOutStrip { frames := 4, cells := 0, slots := 0, locals := 94 } D cI cM A 40 ad E [.ref (ad 0)] (fun E1 => E1 0 = .inr (5, [.ref (ad 1), .ref (ad 4), .ref (ad 6), .ref (ad 26), .ref (ad 29), .int (nI (W)), .int (nI (G)), .int (nI (S)), .int (shI t), .int (nI (B)), .int (nI (if off < sL wd G sz le n then off else 0)), .int (nI (cnt))]) ∧ StripAt cI ad E1 (scols wd dt G sz co le n) ∧ (∀ k : Nat, k < n → ∃ g : Nat → Nat, Msg cI ad E1 (pm k) (nI (sz k)) (nI (co k)) (nI (sL wd G sz le k)) (nI (mW wd (le k) (sz k))) g ∧ ∀ q : Nat, q < sz k → g q = le k q) ∧ ∀ k : Nat, ((1 ≤ k ∧ k < 26 ∨ 28 < k) ∧ ∀ q : Nat, q < n → k ≠ 8 + 3 * pm q) → E1 k = E k) := by
  refine mv_of cX5_layOutStrip 1 RX5 (by decide) rfl rfl (Nat.le_of_ble_eq_true rfl) ?_
  intro vp ve vs vm va vb vt vc Q C hend
  refine z_lv [(0, .ref (ad 0))] ⟨rfl, rfl, trivial⟩ ?_
  obtain ⟨sd, sc, s26, -, -, -⟩ := id hs
  have hLL := sL_le (sz := sz) (le := le) hw hG n hsz
  refine z_aload_n C dX5_layOutStrip_0 rfl ?_
  refine z_get C (0) (Cn := RX5) (T := TX5) (N := 12) (fi := 3) iw_X5_layOutStrip_5 rfl (by decide) ln_X5_layOutStrip_33 (by first | decide | omega) rfl e0 rfl dX5_layOutStrip_1 ?_
  refine z_aload_n C dX5_layOutStrip_4 rfl ?_
  refine z_get C (0) (Cn := RX5) (T := TX5) (N := 12) (fi := 2) iw_X5_layOutStrip_5 rfl (by decide) ln_X5_layOutStrip_26 (by first | decide | omega) rfl e0 rfl dX5_layOutStrip_5 ?_
  refine z_aload_n C dX5_layOutStrip_8 rfl ?_
  refine z_get C (0) (Cn := RX5) (T := TX5) (N := 12) (fi := 0) iw_X5_layOutStrip_5 rfl (by decide) ln_X5_layOutStrip_12 (by first | decide | omega) rfl e0 rfl dX5_layOutStrip_9 ?_
  refine z_aload_n C dX5_layOutStrip_12 rfl ?_
  refine z_get C (0) (Cn := RX5) (T := TX5) (N := 12) (fi := 6) iw_X5_layOutStrip_5 rfl (by decide) ln_X5_layOutStrip_45 (by first | decide | omega) rfl e0 rfl dX5_layOutStrip_13 ?_
  refine z_callVV C (26) (Cn := RX3) (T := TX3) (N := 3) (k_X3_layOut vl D cI cM A ad E hX hs e1 e2 e3 l6 l7 hn hG hpm hw hsz hm) (cwV 3 C.2.2.2.2.1 gX5_layOutStrip_X3_layOut rfl rfl rfl (by decide +kernel) ⟨Nat.le_of_ble_eq_true rfl, Nat.le_of_ble_eq_true rfl⟩) rfl (by first | decide | omega) rfl s26 rfl rfl (Nat.le_of_ble_eq_true rfl) ⟨Nat.zero_le _, Nat.zero_le _⟩ dX5_layOutStrip_16 (fun Ez1 hp2 => ?_)
  obtain ⟨ha, hma, hga⟩ := hp2
  have f3 : Ez1 (0) = .inr (5, [.ref (ad 1), .ref (ad 4), .ref (ad 6), .ref (ad 26), .ref (ad 29), .int (nI (W)), .int (nI (G)), .int (nI (S)), .int (shI t), .int (nI (B)), .int (nI (off)), .int (nI (cnt))]) := (hga (0) (by refine ⟨by omega, fun q hq => ?_⟩; have := hpm.1 q (by omega); omega)).trans e0
  have f4 : Ez1 (1) = .inr (0, [.ref (ad 2), .ref (ad 3)]) := (hga (1) (by refine ⟨by omega, fun q hq => ?_⟩; have := hpm.1 q (by omega); omega)).trans e1
  have f5 : Ez1 (2) = aI cI 27 wd := (hga (2) (by refine ⟨by omega, fun q hq => ?_⟩; have := hpm.1 q (by omega); omega)).trans e2
  have f6 : Ez1 (3) = aI cI 162 dt := (hga (3) (by refine ⟨by omega, fun q hq => ?_⟩; have := hpm.1 q (by omega); omega)).trans e3
  have f7 : Ez1 (6) = .inr (2, [.ref (ad 7), .int (nI (n))]) := (hga (6) (by refine ⟨by omega, fun q hq => ?_⟩; have := hpm.1 q (by omega); omega)).trans l6
  have f8 : Ez1 (7) = .inl (cM, 6, .inr (.inr (.inr (.inr (sf ad pm))))) := (hga (7) (by refine ⟨by omega, fun q hq => ?_⟩; have := hpm.1 q (by omega); omega)).trans l7
  obtain ⟨_, _, t26, -, -, -⟩ := id ha
  have hfr : ∀ k : Nat, ((1 ≤ k ∧ k < 26 ∨ 28 < k) ∧ ∀ q : Nat, q < n → k ≠ 8 + 3 * pm q) → Ez1 k = E k := fun k hk => hga k ⟨by omega, hk.2⟩
  have hle := scols_len wd dt G sz co le n
  refine z_aload_n C dX5_layOutStrip_19 rfl ?_
  refine z_get C (0) (Cn := RX5) (T := TX5) (N := 12) (fi := 10) iw_X5_layOutStrip_5 rfl (by decide) ln_X5_layOutStrip_57 (by first | decide | omega) rfl f3 rfl dX5_layOutStrip_20 ?_
  refine z_aload_n C dX5_layOutStrip_23 rfl ?_
  refine z_get C (0) (Cn := RX5) (T := TX5) (N := 12) (fi := 3) iw_X5_layOutStrip_5 rfl (by decide) ln_X5_layOutStrip_33 (by first | decide | omega) rfl f3 rfl dX5_layOutStrip_24 ?_
  refine z_getN C (26) (Cn := RX3) (T := TX3) (N := 3) (fi := 2) iw_X5_layOutStrip_3 rfl (by decide) nl_X5_114 (by first | decide | omega) rfl t26 rfl dX5_layOutStrip_27 ?_
  refine z_icmp_ltN C 38 (by omega) (by rw [hle]; omega) dX5_layOutStrip_30 (by decide) (fun h30 => ?_) (fun h30 => ?_)
  · exact hend _ _ _ dX5_layOutStrip_38 (⟨f3.trans (by rw [if_pos (by rw [← hle]; exact h30)]), ha, hma, hfr⟩)
  · refine z_aload_n C dX5_layOutStrip_33 rfl ?_
    refine z_iconst C (nI (0)) dX5_layOutStrip_34 (by decide) ?_
    refine z_put C (0) (Cn := RX5) (T := TX5) (N := 12) (fi := 10) tyX5 iw_X5_layOutStrip_5 tyX5_ok nmX5 rfl (by decide) ln_X5_layOutStrip_57 hX (by first | decide | omega) rfl f3 rfl rfl rfl rfl (Nat.le_of_ble_eq_true rfl) dX5_layOutStrip_35 (fun Ez10 hE9 => ?_)
    have f12 : Ez10 (1) = .inr (0, [.ref (ad 2), .ref (ad 3)]) := va_up_of hE9 (by first | decide | omega) f4
    have f13 : Ez10 (2) = aI cI 27 wd := va_up_of hE9 (by first | decide | omega) f5
    have f14 : Ez10 (3) = aI cI 162 dt := va_up_of hE9 (by first | decide | omega) f6
    have f15 : Ez10 (6) = .inr (2, [.ref (ad 7), .int (nI (n))]) := va_up_of hE9 (by first | decide | omega) f7
    have f16 : Ez10 (7) = .inl (cM, 6, .inr (.inr (.inr (.inr (sf ad pm))))) := va_up_of hE9 (by first | decide | omega) f8
    have f17 : Ez10 (26) = .inr (3, [.ref (ad 27), .ref (ad 28), .int (nI ((scols wd dt G sz co le n).length))]) := va_up_of hE9 (by first | decide | omega) t26
    have f18 : Ez10 (0) = .inr (5, [.ref (ad 1), .ref (ad 4), .ref (ad 6), .ref (ad 26), .ref (ad 29), .int (nI (W)), .int (nI (G)), .int (nI (S)), .int (shI t), .int (nI (B)), .int (nI (0)), .int (nI (cnt))]) := va_up_eq hE9
    have g19 : ∀ k : Nat, ((1 ≤ k ∧ k < 26 ∨ 28 < k) ∧ ∀ q : Nat, q < n → k ≠ 8 + 3 * pm q) → Ez10 k = E k := fun k hk => va_up_of hE9 (by omega) (hfr k hk)
    exact hend _ _ _ dX5_layOutStrip_38 (⟨f18.trans (by rw [if_neg (by rw [← hle]; omega)]), ha.mv (va_up_of hE9 (by decide) rfl) (va_up_of hE9 (by decide) rfl) (va_up_of hE9 (by decide) rfl), (fun k hk => by obtain ⟨g, hM, hg⟩ := hma k hk; have hpk := hpm.1 k (by omega); exact ⟨g, hM.mv (va_up_of hE9 (by omega) rfl) (va_up_of hE9 (by omega) rfl) (va_up_of hE9 (by omega) rfl), hg⟩), g19⟩)
end
section
theorem fb_holes : ∀ (m n : Nat) (f : Nat → Nat), (∀ i, i < n → f i < m) → (∀ i j, i < j → j < n → f i ≠ f j) → n ≤ m := by
  intro m
  induction m with
  | zero =>
    intro n f h1 _
    rcases Nat.eq_zero_or_pos n with h | h
    · omega
    · exact absurd (h1 0 h) (Nat.not_lt_zero _)
  | succ m ih =>
    intro n f h1 h2
    by_cases hx : ∃ i, i < n ∧ f i = m
    · obtain ⟨a, ha, hfa⟩ := hx
      have hg := ih (n - 1) (fun i => if i < a then f i else f (i + 1)) (by
        intro i hi
        by_cases q : i < a
        · simp only [if_pos q]
          have b1 := h1 i (by omega)
          have b2 := h2 i a q ha
          omega
        · simp only [if_neg q]
          have b1 := h1 (i + 1) (by omega)
          have b2 := h2 a (i + 1) (by omega) (by omega)
          omega) (by
        intro i j hij hj
        by_cases q : i < a
        · by_cases r : j < a
          · simp only [if_pos q, if_pos r]
            exact h2 i j hij (by omega)
          · simp only [if_pos q, if_neg r]
            exact h2 i (j + 1) (by omega) (by omega)
        · have r : ¬ j < a := by omega
          simp only [if_neg q, if_neg r]
          exact h2 (i + 1) (j + 1) (by omega) (by omega))
      omega
    · have hg := ih n f (fun i hi => by
        have b1 := h1 i hi
        have b2 : f i ≠ m := fun e => hx ⟨i, hi, e⟩
        omega) h2
      omega
/-- two of them in one place -/
theorem fb_twice {m n : Nat} {f : Nat → Nat} (h : ∀ i, i < n → f i < m) (hm : m < n) : ∃ i j, i < j ∧ j < n ∧ f i = f j := by
  refine Classical.byContradiction fun hx => ?_
  have := fb_holes m n f h (fun i j hij hj e => hx ⟨i, j, hij, hj, e⟩)
  omega
/-- as many as places, none twice: each place is taken -/
theorem fb_onto {n : Nat} {f : Nat → Nat} (h : ∀ i, i < n → f i < n) (h2 : ∀ i j, i < j → j < n → f i ≠ f j) {y : Nat} (hy : y < n) : ∃ i, i < n ∧ f i = y := by
  refine Classical.byContradiction fun hx => ?_
  have hne : ∀ i, i < n → f i ≠ y := fun i hi e => hx ⟨i, hi, e⟩
  have := fb_holes (n - 1) n (fun i => if f i < y then f i else f i - 1) (by
    intro i hi
    have b1 := h i hi
    have b2 := hne i hi
    by_cases q : f i < y
    · simp only [if_pos q]; omega
    · simp only [if_neg q]; omega) (by
    intro i j hij hj
    have b1 := hne i (by omega)
    have b2 := hne j hj
    have b3 := h2 i j hij hj
    by_cases q : f i < y
    · by_cases r : f j < y
      · simp only [if_pos q, if_pos r]; exact b3
      · simp only [if_pos q, if_neg r]; omega
    · by_cases r : f j < y
      · simp only [if_neg q, if_pos r]; omega
      · simp only [if_neg q, if_neg r]; omega)
  omega
abbrev St : Type := Nat → Nat → Nat
def ltr (f : Nat → Nat) : Nat → Nat → Nat := fun i q => f (12 * i + q)
def stripM (M : St) : List (Nat × Nat) := scols (M 1) (M 2) (M 0 1) (M 5) (M 6) (ltr (M 7)) (M 0 7)
def LM (M : St) : Nat := sL (M 1) (M 0 1) (M 5) (ltr (M 7)) (M 0 7)
theorem strip_len (M : St) : (stripM M).length = LM M := scols_len _ _ _ _ _ _ _
def s0 (M : St) (k v : Nat) : St := va_up M 0 (va_up (M 0) k v)
def settle (M : St) : St := s0 M 4 (if M 0 4 < LM M then M 0 4 else 0)
def dispE (ad : Nat → Nat) (M : St) (off : Nat) : va_E := .inr (5, [.ref (ad 1), .ref (ad 4), .ref (ad 6), .ref (ad 26), .ref (ad 29), .int (nI (M 0 0)), .int (nI (M 0 1)), .int (nI (M 0 2)), .int (shI (M 0 8)), .int (nI (M 0 3)), .int (nI off), .int (nI (M 0 5))])
/-- the messages in their cells, without where they stand -/
def MsgY (cI : ClassId) (ad : Nat → Nat) (M : St) (pm : Nat → Nat) (E : Nat → va_E) : Prop := ∀ i : Nat, i < 6 → ∃ (sz co st wi : Int32) (g : Nat → Nat), Msg cI ad E (pm i) sz co st wi g ∧ (i < M 0 7 → sz = nI (M 5 i) ∧ co = nI (M 6 i) ∧ ∀ q : Nat, q < M 5 i → g q = ltr (M 7) i q)
def MsgX (cI : ClassId) (ad : Nat → Nat) (M : St) (pm : Nat → Nat) (E : Nat → va_E) : Prop := ∀ k : Nat, k < M 0 7 → ∃ g : Nat → Nat, Msg cI ad E (pm k) (nI (M 5 k)) (nI (M 6 k)) (nI (sL (M 1) (M 0 1) (M 5) (ltr (M 7)) k)) (nI (mW (M 1) (ltr (M 7) k) (M 5 k))) g ∧ ∀ q : Nat, q < M 5 k → g q = ltr (M 7) k q
/-- the class's cells but for its strip -/
def RelY (cI cM : ClassId) (ad : Nat → Nat) (M : St) (pm : Nat → Nat) (E : Nat → va_E) : Prop :=
  E 0 = dispE ad M (M 0 4) ∧ E 1 = .inr (0, [.ref (ad 2), .ref (ad 3)]) ∧ E 2 = aI cI 27 (M 1) ∧ E 3 = aI cI 162 (M 2) ∧ E 4 = .inr (4, [.ref (ad 5), .int (nI (M 0 6))]) ∧ E 5 = aI cI 12 (M 4) ∧ E 6 = .inr (2, [.ref (ad 7), .int (nI (M 0 7))]) ∧ E 7 = .inl (cM, 6, .inr (.inr (.inr (.inr (sf ad pm))))) ∧ PM pm ∧ M 0 7 ≤ 6 ∧ MsgY cI ad M pm E ∧ E 29 = aI cI 32 (M 3)
def RelX (cI cM : ClassId) (ad : Nat → Nat) (M : St) (E : Nat → va_E) : Prop := ∃ pm : Nat → Nat, RelY cI cM ad M pm E ∧ MsgX cI ad M pm E ∧ StripAt cI ad E (stripM M)
theorem RelX.mv {cI cM : ClassId} {ad : Nat → Nat} {M : St} {E E1 : Nat → va_E} (h : RelX cI cM ad M E) (hk : ∀ k : Nat, k < 30 → E1 k = E k) : RelX cI cM ad M E1 := by
  obtain ⟨pm, ⟨e0, e1, e2, e3, b4, b5, l6, l7, hpm, hn, hy, e29⟩, hx, hs⟩ := h
  refine ⟨pm, ⟨(hk _ (by omega)).trans e0, (hk _ (by omega)).trans e1, (hk _ (by omega)).trans e2, (hk _ (by omega)).trans e3, (hk _ (by omega)).trans b4, (hk _ (by omega)).trans b5, (hk _ (by omega)).trans l6, (hk _ (by omega)).trans l7, hpm, hn, fun i hi => ?_, (hk _ (by omega)).trans e29⟩, fun i hi => ?_, hs.mv (hk _ (by omega)) (hk _ (by omega)) (hk _ (by omega))⟩
  · obtain ⟨sz, co, st, wi, g, hM, hg⟩ := hy i hi
    have := hpm.1 i hi
    exact ⟨sz, co, st, wi, g, hM.mv (hk _ (by omega)) (hk _ (by omega)) (hk _ (by omega)), hg⟩
  · obtain ⟨g, hM, hg⟩ := hx i hi
    have := hpm.1 i (by omega)
    exact ⟨g, hM.mv (hk _ (by omega)) (hk _ (by omega)) (hk _ (by omega)), hg⟩
/-- numbers in their ranges -/
def Inv0 (M : St) : Prop := (8 ≤ M 0 0 ∧ M 0 0 ≤ 32) ∧ M 0 1 ≤ 9 ∧ (1 ≤ M 0 2 ∧ M 0 2 ≤ 9) ∧ (1 ≤ M 0 3 ∧ M 0 3 ≤ 999) ∧ M 0 4 ≤ 552 ∧ M 0 5 < M 0 2 ∧ M 0 6 ≤ 12 ∧ M 0 7 ≤ 6 ∧ M 0 8 ≤ 4 ∧ (∀ c, c < 27 → 1 ≤ M 1 c ∧ M 1 c ≤ 6) ∧ (∀ i, i < 162 → M 2 i < 256) ∧ (∀ c, c < 27 → ∀ j, j < 6 → M 1 c ≤ j → M 2 (c * 6 + j) = 0) ∧ (∀ x, x < 32 → M 3 x < 256) ∧ (∀ x, x < 32 → M 0 0 ≤ x → M 3 x = 0) ∧ (∀ k, k < M 0 6 → M 4 k < 27) ∧ (∀ i, i < M 0 7 → (1 ≤ M 5 i ∧ M 5 i ≤ 12) ∧ (1 ≤ M 6 i ∧ M 6 i ≤ 3) ∧ ∀ k, k < M 5 i → ltr (M 7) i k < 27)
def Inv (M : St) : Prop := Inv0 M ∧ (M 0 4 < LM M ∨ M 0 4 = 0)
theorem Inv0.ws {M : St} (h : Inv0 M) : ∀ c, c < 27 → M 1 c ≤ 6 := fun c hc => (h.2.2.2.2.2.2.2.2.2.1 c hc).2
theorem Inv0.msz {M : St} (h : Inv0 M) : ∀ i, i < M 0 7 → M 5 i ≤ 12 ∧ ∀ k, k < M 5 i → ltr (M 7) i k < 27 := fun i hi => ⟨(h.2.2.2.2.2.2.2.2.2.2.2.2.2.2.2 i hi).1.2, (h.2.2.2.2.2.2.2.2.2.2.2.2.2.2.2 i hi).2.2⟩
theorem Inv0.LM_le {M : St} (h : Inv0 M) : LM M ≤ 552 := by
  have := sL_le (wd := M 1) (G := M 0 1) (sz := M 5) (le := ltr (M 7)) h.ws h.2.1 (M 0 7) h.msz
  have h7 := h.2.2.2.2.2.2.2.1
  unfold LM
  omega
/-- each column of the strip -/
def Col (q : Nat × Nat) : Prop := q.1 < 256 ∧ q.2 ≤ 3 ∧ (q.2 = 0 → q.1 = 0)
theorem Col_dk {m : Nat} : ∀ q ∈ dk m, Col q := fun q hq => by rw [List.eq_of_mem_replicate hq]; exact ⟨by decide, by decide, fun _ => rfl⟩
theorem Col_glyph {wd dt : Nat → Nat} {c co : Nat} (hc : c < 27) (hw : wd c ≤ 6) (hd : ∀ i, i < 162 → dt i < 256) (hco : 1 ≤ co ∧ co ≤ 3) : ∀ q ∈ glyph wd dt c co, Col q := by
  intro q hq
  obtain ⟨j, hj, rfl⟩ := List.mem_map.mp hq
  have hj := List.mem_range.mp hj
  exact ⟨hd _ (by omega), hco.2, fun h => by have h : co = 0 := h; omega⟩
theorem Col_mcols {wd dt : Nat → Nat} {co : Nat} {le : Nat → Nat} (hw : ∀ c, c < 27 → wd c ≤ 6) (hd : ∀ i, i < 162 → dt i < 256) (hco : 1 ≤ co ∧ co ≤ 3) : ∀ k, (∀ i, i < k → le i < 27) → ∀ q ∈ mcols wd dt co le k, Col q
  | 0, _ => fun q hq => by cases hq
  | k + 1, h => by
    intro q hq
    rw [mcols] at hq
    rcases List.mem_append.mp hq with hq | hq
    · rcases List.mem_append.mp hq with hq | hq
      · exact Col_mcols hw hd hco k (fun i hi => h i (by omega)) q hq
      · exact Col_dk q hq
    · exact Col_glyph (h k (by omega)) (hw _ (h k (by omega))) hd hco q hq
theorem Col_scols {wd dt : Nat → Nat} {G : Nat} {sz co : Nat → Nat} {le : Nat → Nat → Nat} (hw : ∀ c, c < 27 → wd c ≤ 6) (hd : ∀ i, i < 162 → dt i < 256) : ∀ n, (∀ i, i < n → (1 ≤ co i ∧ co i ≤ 3) ∧ ∀ k, k < sz i → le i k < 27) → ∀ q ∈ scols wd dt G sz co le n, Col q
  | 0, _ => fun q hq => by cases hq
  | n + 1, h => by
    intro q hq
    rw [scols] at hq
    rcases List.mem_append.mp hq with hq | hq
    · rcases List.mem_append.mp hq with hq | hq
      · exact Col_scols hw hd n (fun i hi => h i (by omega)) q hq
      · exact Col_mcols hw hd (h n (by omega)).1 _ (h n (by omega)).2 q hq
    · exact Col_dk q hq
theorem Inv0.col {M : St} (h : Inv0 M) : ∀ q ∈ stripM M, Col q := Col_scols h.ws h.2.2.2.2.2.2.2.2.2.2.1 _ (fun i hi => ⟨(h.2.2.2.2.2.2.2.2.2.2.2.2.2.2.2 i hi).2.1, (h.2.2.2.2.2.2.2.2.2.2.2.2.2.2.2 i hi).2.2⟩)
theorem getD_col {l : List (Nat × Nat)} (h : ∀ q ∈ l, Col q) (i : Nat) : Col (l.getD i (0, 0)) := by
  rw [List.getD_eq_getElem?_getD]
  cases e : l[i]? with
  | none => exact ⟨by decide, by decide, fun _ => rfl⟩
  | some q => exact h q (List.mem_of_getElem? e)
theorem Inv0.dot {M : St} (h : Inv0 M) (a : Nat) : dotc (stripM M) a < 256 := (getD_col h.col _).1
theorem Inv0.clr {M : St} (h : Inv0 M) (a : Nat) : colc (stripM M) a ≤ 3 := (getD_col h.col _).2.1
theorem Inv0.drk {M : St} (h : Inv0 M) (a : Nat) : colc (stripM M) a = 0 → dotc (stripM M) a = 0 := (getD_col h.col _).2.2
theorem Inv0.slen {M : St} (h : Inv0 M) : (stripM M).length ≤ 552 := by rw [strip_len]; exact h.LM_le
theorem settle_inv {M : St} (h : Inv0 M) : Inv (settle M) := by
  obtain ⟨h0, h1, h2, h3, h4, h5⟩ := h
  refine ⟨⟨h0, h1, h2, h3, ?_, h5⟩, ?_⟩
  · show (if M 0 4 < LM M then M 0 4 else 0) ≤ 552
    split <;> omega
  · show (if M 0 4 < LM M then M 0 4 else 0) < LM M ∨ (if M 0 4 < LM M then M 0 4 else 0) = 0
    by_cases e : M 0 4 < LM M
    · rw [if_pos e]; exact Or.inl e
    · rw [if_neg e]; exact Or.inr rfl
/-! the ways in which an argument is read -/
def wr {α : Type} (lo hi : Nat) (x : Int32) (f : Nat → α) (e : α) : α := if nI lo ≤ x ∧ x ≤ nI hi then f x.toNatClampNeg else e
theorem wr_y {α : Type} {lo hi j : Nat} {f : Nat → α} {e : α} (h : lo ≤ j ∧ j ≤ hi) (hh : hi < 2 ^ 31) : wr lo hi (nI j) f e = f j := by
  unfold wr
  rw [if_pos ⟨(nI_leI (by omega) (by omega)).mpr h.1, (nI_leI (by omega) hh).mpr h.2⟩, nI_clamp (by omega)]
theorem wr_n {α : Type} {lo hi : Nat} {x : Int32} {f : Nat → α} {e : α} (h : ¬ (nI lo ≤ x ∧ x ≤ nI hi)) : wr lo hi x f e = e := by unfold wr; rw [if_neg h]
theorem wr_c (lo hi : Nat) (x : Int32) (hl : lo < 2 ^ 31) (hh : hi < 2 ^ 31) : (∃ j : Nat, (lo ≤ j ∧ j ≤ hi) ∧ x = nI j) ∨ ¬ (nI lo ≤ x ∧ x ≤ nI hi) := by
  by_cases q : nI lo ≤ x ∧ x ≤ nI hi
  · obtain ⟨j, h1, rfl⟩ := iw_ex hh ⟨Int32.le_trans (nI_pos' hl) q.1, q.2⟩
    exact Or.inl ⟨j, ⟨(nI_leI hl (by omega)).mp q.1, h1⟩, rfl⟩
  · exact Or.inr q
def wn {α : Type} (n : Nat) (x : Int32) (f : Nat → α) (e : α) : α := if nI 0 ≤ x ∧ x < nI n then f x.toNatClampNeg else e
theorem wn_y {α : Type} {n j : Nat} {f : Nat → α} {e : α} (h : j < n) (hn : n < 2 ^ 31) : wn n (nI j) f e = f j := by
  unfold wn
  rw [if_pos ⟨(nI_leI (by omega) (by omega)).mpr (Nat.zero_le _), (nI_ltI (by omega) hn).mpr h⟩, nI_clamp (by omega)]
theorem wn_n {α : Type} {n : Nat} {x : Int32} {f : Nat → α} {e : α} (hn : n < 2 ^ 31) (h : ¬ ∃ j : Nat, j < n ∧ x = nI j) : wn n x f e = e := by
  unfold wn
  rw [if_neg]
  intro q
  obtain ⟨j, h1, rfl⟩ := iw_ex hn ⟨q.1, Int32.le_of_lt q.2⟩
  exact h ⟨j, (nI_ltI (by omega) hn).mp q.2, rfl⟩
def ws5 {α : Type} (x : Int32) (f : Nat → α) (e : α) : α := if -2 ≤ x ∧ x ≤ nI 2 then f (x + nI 2).toNatClampNeg else e
theorem shI_in : ∀ t, t < 5 → (-2 ≤ shI t ∧ shI t ≤ nI 2) ∧ (shI t + nI 2).toNatClampNeg = t := by decide +kernel
theorem ws_y {α : Type} {t : Nat} {f : Nat → α} {e : α} (h : t ≤ 4) : ws5 (shI t) f e = f t := by
  unfold ws5
  rw [if_pos (shI_in t (by omega)).1, (shI_in t (by omega)).2]
theorem ws_n {α : Type} {x : Int32} {f : Nat → α} {e : α} (h : ¬ (-2 ≤ x ∧ x ≤ nI 2)) : ws5 x f e = e := by unfold ws5; rw [if_neg h]
theorem ws_c (x : Int32) : (∃ t : Nat, t ≤ 4 ∧ x = shI t) ∨ ¬ (-2 ≤ x ∧ x ≤ nI 2) := by
  by_cases q : -2 ≤ x ∧ x ≤ nI 2
  · left
    have h1 : (-2 : Int32).toInt ≤ x.toInt := Int32.le_iff_toInt_le.mp q.1
    have h2 : x.toInt ≤ (nI 2).toInt := Int32.le_iff_toInt_le.mp q.2
    have h3 : (-2 : Int32).toInt = -2 := rfl
    have h4 : (nI 2).toInt = 2 := rfl
    have h5 : ∀ t, t < 5 → (shI t).toInt = (t : Int) - 2 := by decide +kernel
    refine ⟨(x.toInt + 2).toNat, by omega, Int32.toInt_inj.mp ?_⟩
    rw [h5 _ (by omega)]
    omega
  · exact Or.inr q
/-! what each call answers and does -/
def insF (f : Nat → Nat) (j v : Nat) : Nat → Nat := fun i => if i < j then f i else if i = j then v else f (i - 1)
def delF (f : Nat → Nat) (j : Nat) : Nat → Nat := fun i => if i < j then f i else f (i + 1)
def insL (f g : Nat → Nat) (j : Nat) : Nat → Nat := fun p => if p / 12 < j then f p else if p / 12 = j then g (p % 12) else f (p - 12)
def delL (f : Nat → Nat) (j : Nat) : Nat → Nat := fun p => if p / 12 < j then f p else f (p + 12)
def insM (M : St) (j col : Nat) : St := fun a => if a = 0 then va_up (M 0) 7 (M 0 7 + 1) else if a = 5 then insF (M 5) j (M 0 6) else if a = 6 then insF (M 6) j col else if a = 7 then insL (M 7) (M 4) j else M a
def delM (M : St) (j : Nat) : St := fun a => if a = 0 then va_up (M 0) 7 (M 0 7 - 1) else if a = 5 then delF (M 5) j else if a = 6 then delF (M 6) j else if a = 7 then delL (M 7) j else M a
def cntD (M : St) : Nat := sm (fun x => pc8 (M 3 x)) 32
def ldM (M : St) : Nat → Nat := ldS (stripM M) (M 0 8) (M 3) (M 0 0)
def dmM (M : St) (t : Nat) : Nat := sm (dmS (stripM M) t (M 3) (M 0 4)) (M 0 0)
def o_setGlyphWidth (M : St) (x y : Int32) : Int32 × St := wr 0 26 x (fun c => wr 1 6 y (fun w => (nI (M 1 c), settle (va_up (va_up M 1 (va_up (M 1) c w)) 2 (clr (M 2) (c * 6 + w) (c * 6 + 6))))) (-11, M)) (-11, M)
def o_setGlyphColumn (M : St) (x y z : Int32) : Int32 × St := wr 0 26 x (fun c => wr 0 255 z (fun b => wr 0 (M 1 c - 1) y (fun j => (nI (M 2 (c * 6 + j)), settle (va_up M 2 (va_up (M 2) (c * 6 + j) b)))) (-11, M)) (-11, M)) (-11, M)
def o_glyphColumn (M : St) (x y : Int32) : Int32 := wr 0 26 x (fun c => wr 0 5 y (fun j => if j < M 1 c then nI (M 2 (c * 6 + j)) else -14) (-11)) (-11)
def o_append (M : St) (x : Int32) : Int32 × St := wr 0 26 x (fun c => if M 0 6 < 12 then (nI (M 0 6 + 1), va_up (s0 M 6 (M 0 6 + 1)) 4 (va_up (M 4) (M 0 6) c)) else (-13, M)) (-11, M)
def o_clearText (M : St) : Int32 × St := (nI (M 0 6), s0 M 6 0)
def o_insertMessage (M : St) (x y : Int32) : Int32 × St := wr 0 (M 0 7) x (fun j => wr 1 3 y (fun col => if M 0 6 = 0 then (-12, M) else if M 0 7 < 6 then (nI (LM (insM M j col)), settle (insM M j col)) else (-13, M)) (-11, M)) (-11, M)
def o_removeMessage (M : St) (x : Int32) : Int32 × St := wn (M 0 7) x (fun j => (nI (LM (delM M j)), settle (delM M j))) (-11, M)
def o_setColor (M : St) (x y : Int32) : Int32 × St := wn (M 0 7) x (fun j => wr 1 3 y (fun col => (nI (M 6 j), settle (va_up M 6 (va_up (M 6) j col)))) (-11, M)) (-11, M)
def o_messageWidth (M : St) (x : Int32) : Int32 := wn (M 0 7) x (fun j => nI (mW (M 1) (ltr (M 7) j) (M 5 j))) (-11)
def o_messageStart (M : St) (x : Int32) : Int32 := wn (M 0 7) x (fun j => nI (sL (M 1) (M 0 1) (M 5) (ltr (M 7)) j)) (-11)
def o_setColumns (M : St) (x : Int32) : Int32 × St := wr 8 32 x (fun w => (nI (M 0 0), va_up (s0 M 0 w) 3 (clr (M 3) w 32))) (-11, M)
def o_setGap (M : St) (x : Int32) : Int32 × St := wr 0 9 x (fun g => (nI (M 0 1), settle (s0 M 1 g))) (-11, M)
def o_setSpeed (M : St) (x : Int32) : Int32 × St := wr 1 9 x (fun v => (nI (M 0 2), s0 (s0 M 2 v) 5 0)) (-11, M)
def o_setShift (M : St) (x : Int32) : Int32 × St := ws5 x (fun t => (shI (M 0 8), s0 M 8 t)) (-11, M)
def o_setBudget (M : St) (x : Int32) : Int32 × St := wr 1 999 x (fun b => (nI (M 0 3), s0 M 3 b)) (-11, M)
def flipD (M : St) (r c : Nat) : St := va_up M 3 (va_up (M 3) c (M 3 c ^^^ 2 ^ r))
def o_setDefective (M : St) (x y : Int32) (z : Nat) : Int32 × St := wr 0 7 x (fun r => wn (M 0 0) y (fun c => if b1 (M 3 c) r = z then (-12, M) else (nI (cntD (flipD M r c)), flipD M r c)) (-11, M)) (-11, M)
def tickM (M : St) (k : Nat) : St := s0 (s0 M 5 ((M 0 5 + k) % M 0 2)) 4 (if LM M = 0 then 0 else (M 0 4 + (M 0 5 + k) / M 0 2) % LM M)
def o_tick (M : St) (x : Int32) : Int32 × St := wr 0 9999 x (fun k => (nI (tickM M k 0 4), tickM M k)) (-11, M)
def plc (M : St) (j : Nat) : Nat := (sL (M 1) (M 0 1) (M 5) (ltr (M 7)) j + LM M - M 0 4) % LM M
def o_ticksUntilWhole (M : St) (x : Int32) : Int32 := wn (M 0 7) x (fun j => if M 0 0 < mW (M 1) (ltr (M 7) j) (M 5 j) then -14 else if plc M j ≤ M 0 0 - mW (M 1) (ltr (M 7) j) (M 5 j) then nI 0 else nI ((plc M j - (M 0 0 - mW (M 1) (ltr (M 7) j) (M 5 j))) * M 0 2 - M 0 5)) (-11)
def o_pixel (M : St) (x y : Int32) : Int32 := wr 0 7 x (fun r => wn (M 0 0) y (fun c => if b1 (lit (dotc (stripM M) (M 0 4 + c)) (M 0 8) (M 3 c)) r = 1 then nI (colc (stripM M) (M 0 4 + c)) else nI 0) (-11)) (-11)
def o_load (M : St) : Int32 := nI (ldM M (M 0 4))
def o_brightness (M : St) : Int32 := if ldM M (M 0 4) ≤ M 0 3 then nI 15 else nI (15 * M 0 3 / ldM M (M 0 4))
def o_peakLoad (M : St) : Int32 := nI (ldM M (hv (ldM M) (LM M)))
def o_peakOffset (M : St) : Int32 := if LM M = 0 then -14 else nI (hv (ldM M) (LM M))
def o_damage (M : St) (x : Int32) : Int32 := ws5 x (fun t => nI (dmM M t)) (-11)
def bet (f : Nat → Nat) (b c : Nat) : Nat := if f c < f b then c else b
def bestT (f : Nat → Nat) : Nat := bet f (bet f (bet f (bet f 2 1) 3) 0) 4
def o_adoptBestShift (M : St) : Int32 × St := (nI (dmM M (bestT (dmM M))), s0 M 8 (bestT (dmM M)))
end
section
theorem MV.mono {l : Launch} {y : MethodName} {ws : List Cond} {rm : Room} {D : va_G} {cI cM : ClassId} {A : Nat → Prop} {n : Nat} {ad : Nat → Nat} {E : Nat → va_E} {As : List Value} {post post' : (Nat → va_E) → Prop} (h : MV l y ws rm D cI cM A n ad E As post) (hp : ∀ E1, post E1 → post' E1) : MV l y ws rm D cI cM A n ad E As post' :=
  by
  unfold MV Met at h ⊢
  exact MetFree.mono h (fun _ _ q => q) (fun _ _ _ _ _ q => q) (fun a s o t _ q => ⟨⟨by obtain ⟨u, h1, h2, h3⟩ := q.1.1; exact ⟨u, h1, hp u h2, h3⟩, q.1.2⟩, q.2⟩)
theorem MI.mono {l : Launch} {y : MethodName} {ws : List Cond} {rm : Room} {D : va_G} {cI cM : ClassId} {A : Nat → Prop} {n : Nat} {ad : Nat → Nat} {E : Nat → va_E} {As : List Value} {post post' : Int32 → (Nat → va_E) → Prop} (h : MI l y ws rm D cI cM A n ad E As post) (hp : ∀ r E1, post r E1 → post' r E1) : MI l y ws rm D cI cM A n ad E As post' :=
  by
  unfold MI Met at h ⊢
  exact MetFree.mono h (fun _ _ q => q) (fun _ _ _ _ _ q => q) (fun a s o t _ q => ⟨⟨by obtain ⟨r, u, h1, h2, h3⟩ := q.1.1; exact ⟨r, u, h1, hp r u h2, h3⟩, q.1.2⟩, q.2⟩)
theorem RelX_of_lay {cI cM : ClassId} {ad : Nat → Nat} {M : St} {pm : Nat → Nat} {E E1 : Nat → va_E} (hY : RelY cI cM ad M pm E) (h0 : E1 0 = dispE ad M (if M 0 4 < LM M then M 0 4 else 0)) (hs : StripAt cI ad E1 (stripM M)) (hm : MsgX cI ad M pm E1) (hf : ∀ k : Nat, ((1 ≤ k ∧ k < 26 ∨ 28 < k) ∧ ∀ q : Nat, q < M 0 7 → k ≠ 8 + 3 * pm q) → E1 k = E k) : RelX cI cM ad (settle M) E1 ∧ ∀ k : Nat, 30 ≤ k → E1 k = E k := by
  obtain ⟨e0, e1, e2, e3, b4, b5, l6, l7, hpm, hn, hy, e29⟩ := hY
  have hq : ∀ k : Nat, (1 ≤ k ∧ k < 8 ∨ 28 < k) → E1 k = E k := fun k hk => hf k ⟨by omega, fun q hq => by have := hpm.1 q (by omega); omega⟩
  refine ⟨⟨pm, ⟨h0, (hq _ (by omega)).trans e1, (hq _ (by omega)).trans e2, (hq _ (by omega)).trans e3, (hq _ (by omega)).trans b4, (hq _ (by omega)).trans b5, (hq _ (by omega)).trans l6, (hq _ (by omega)).trans l7, hpm, hn, fun i hi => ?_, (hq _ (by omega)).trans e29⟩, hm, hs⟩, fun k hk => hq k (by omega)⟩
  by_cases hin : i < M 0 7
  · obtain ⟨g, hM, hg⟩ := hm i hin
    exact ⟨_, _, _, _, g, hM, fun _ => ⟨rfl, rfl, hg⟩⟩
  · obtain ⟨sz, co, st, wi, g, hM, hg⟩ := hy i hi
    have hp := hpm.1 i hi
    have hne : ∀ q : Nat, q < M 0 7 → pm i ≠ pm q := fun q hq e => by have := hpm.2 i q hi (by omega) e; omega
    exact ⟨sz, co, st, wi, g, hM.mv (hf _ ⟨by omega, fun q hq => by have := hne q hq; omega⟩) (hf _ ⟨by omega, fun q hq => by omega⟩) (hf _ ⟨by omega, fun q hq => by omega⟩), hg⟩
theorem k_lay (vl : Launch) (D : va_G) (cI cM : ClassId) (A : Nat → Prop) (ad : Nat → Nat) (E : Nat → va_E) (hX : XD A 40 ad) {M : St} {pm : Nat → Nat} {l0 : List (Nat × Nat)} (hY : RelY cI cM ad M pm E) (hI : Inv0 M) (hs : StripAt cI ad E l0) : MV vl yX5_layOutStrip wsX5_layOutStrip { frames := 4, cells := 0, slots := 0, locals := 94 } D cI cM A 40 ad E [.ref (ad 0)] (fun E1 => RelX cI cM ad (settle M) E1 ∧ ∀ k : Nat, 30 ≤ k → E1 k = E k) := by
  obtain ⟨e0, e1, e2, e3, b4, b5, l6, l7, hpm, hn, hy, e29⟩ := id hY
  refine MV.mono (k_X5_layOutStrip vl D cI cM A ad E hX (t := M 0 8) (le := ltr (M 7)) (sz := M 5) (co := M 6) e0 hs e1 e2 e3 l6 l7 hn hI.2.1 hpm hI.ws hI.msz (fun k hk => ?_) (by have := hI.2.2.2.2.1; omega)) (fun E1 h => RelX_of_lay hY h.1 h.2.1 h.2.2.1 h.2.2.2)
  obtain ⟨sz, co, st, wi, g, hM, hg⟩ := hy k (by omega)
  obtain ⟨rfl, rfl, h3⟩ := hg hk
  exact ⟨st, wi, g, hM, h3⟩
/-- the six message objects are the six -/
theorem RelY_ob {cI cM : ClassId} {ad : Nat → Nat} {M : St} {pm : Nat → Nat} {E : Nat → va_E} (hY : RelY cI cM ad M pm E) : ∀ q : Nat, q < 6 → ∃ vs : List Value, E (8 + 3 * q) = .inr (1, vs) := by
  intro q hq
  obtain ⟨e0, e1, e2, e3, b4, b5, l6, l7, hpm, hn, hy, e29⟩ := hY
  obtain ⟨i, hi, rfl⟩ := fb_onto (f := pm) hpm.1 (fun i j hij hj e => by have := hpm.2 i j (by omega) hj e; omega) hq
  obtain ⟨sz, co, st, wi, g, hM, hg⟩ := hy i hi
  exact ⟨_, hM.1⟩
end
section
theorem iw_X5_offset_5 : ∀ w ∈ wsX50, w ∈ wsX5_offset := by decide +kernel
theorem ln_X5_offset_57 : Cond.fieldLink RX5 57 "MarqueeDisplay" "offset" "I" ∈ wsX5_offset := by decide +kernel
set_option maxHeartbeats 4000000 in
set_option maxRecDepth 100000 in
theorem k_X5_offset (vl : Launch) (D : va_G) (cI cM : ClassId) (A : Nat → Prop) (ad : Nat → Nat) (E : Nat → va_E) (hX : XD A 40 ad) {M : St}  (hI : Inv M) (hR : RelX cI cM ad M E) : MF vl yX5_offset wsX5_offset { frames := 0, cells := 0, slots := 0, locals := 0 } D cI cM A 40 ad E [.ref (ad 0)] (nI (M 0 4)) := by
  refine mf_of cX5_offset 1 (.int) RX5 (by decide) rfl rfl (Nat.le_of_ble_eq_true rfl) (rfl) ?_
  intro vp ve vs vm va vb vt vc Q C hend
  refine z_lv [(0, .ref (ad 0))] ⟨rfl, rfl, trivial⟩ ?_
  obtain ⟨pm, hY, hMX, hs⟩ := id hR
  obtain ⟨e0, e1, e2, e3, b4, b5, l6, l7, hpm, hn6, hMY, e29⟩ := id hY
  obtain ⟨_, _, s26, -, -, -⟩ := id hs
  rw [strip_len] at s26
  obtain ⟨⟨iW1, iW2⟩, iG, ⟨iS1, iS2⟩, ⟨iB1, iB2⟩, iO, iC, iT, iN, iSh, iWd, iDt, iZ, iDf, iDz, iTx, iMs⟩ := id hI.1
  have hLM := hI.1.LM_le
  have hsl := hI.1.slen
  have hld : ∀ a, ldM M a ≤ 512 := fun a => Nat.le_trans (ldS_le _ _ _ _ _) (by omega)
  have hl4 := hld (M 0 4)
  refine z_aload_n C dX5_offset_0 rfl ?_
  refine z_get C (0) (Cn := RX5) (T := TX5) (N := 12) (fi := 10) iw_X5_offset_5 rfl (by decide) ln_X5_offset_57 (by first | decide | omega) rfl e0 rfl dX5_offset_1 ?_
  exact hend _ _ _ dX5_offset_4 (rfl)

theorem iw_X5_stripLength_5 : ∀ w ∈ wsX50, w ∈ wsX5_stripLength := by decide +kernel
theorem ln_X5_stripLength_33 : Cond.fieldLink RX5 33 "MarqueeDisplay" "strip" "LMarqueeDisplay$Strip;" ∈ wsX5_stripLength := by decide +kernel
theorem iw_X5_stripLength_3 : ∀ w ∈ wsX30, w ∈ wsX5_stripLength := by decide +kernel
set_option maxHeartbeats 4000000 in
set_option maxRecDepth 100000 in
theorem k_X5_stripLength (vl : Launch) (D : va_G) (cI cM : ClassId) (A : Nat → Prop) (ad : Nat → Nat) (E : Nat → va_E) (hX : XD A 40 ad) {M : St}  (hI : Inv M) (hR : RelX cI cM ad M E) : MF vl yX5_stripLength wsX5_stripLength { frames := 0, cells := 0, slots := 0, locals := 0 } D cI cM A 40 ad E [.ref (ad 0)] (nI (LM M)) := by
  refine mf_of cX5_stripLength 1 (.int) RX5 (by decide) rfl rfl (Nat.le_of_ble_eq_true rfl) (rfl) ?_
  intro vp ve vs vm va vb vt vc Q C hend
  refine z_lv [(0, .ref (ad 0))] ⟨rfl, rfl, trivial⟩ ?_
  obtain ⟨pm, hY, hMX, hs⟩ := id hR
  obtain ⟨e0, e1, e2, e3, b4, b5, l6, l7, hpm, hn6, hMY, e29⟩ := id hY
  obtain ⟨_, _, s26, -, -, -⟩ := id hs
  rw [strip_len] at s26
  obtain ⟨⟨iW1, iW2⟩, iG, ⟨iS1, iS2⟩, ⟨iB1, iB2⟩, iO, iC, iT, iN, iSh, iWd, iDt, iZ, iDf, iDz, iTx, iMs⟩ := id hI.1
  have hLM := hI.1.LM_le
  have hsl := hI.1.slen
  have hld : ∀ a, ldM M a ≤ 512 := fun a => Nat.le_trans (ldS_le _ _ _ _ _) (by omega)
  have hl4 := hld (M 0 4)
  refine z_aload_n C dX5_stripLength_0 rfl ?_
  refine z_get C (0) (Cn := RX5) (T := TX5) (N := 12) (fi := 3) iw_X5_stripLength_5 rfl (by decide) ln_X5_stripLength_33 (by first | decide | omega) rfl e0 rfl dX5_stripLength_1 ?_
  refine z_getN C (26) (Cn := RX3) (T := TX3) (N := 3) (fi := 2) iw_X5_stripLength_3 rfl (by decide) nl_X5_114 (by first | decide | omega) rfl s26 rfl dX5_stripLength_4 ?_
  exact hend _ _ _ dX5_stripLength_7 (rfl)

theorem iw_X5_period_5 : ∀ w ∈ wsX50, w ∈ wsX5_period := by decide +kernel
theorem ln_X5_period_33 : Cond.fieldLink RX5 33 "MarqueeDisplay" "strip" "LMarqueeDisplay$Strip;" ∈ wsX5_period := by decide +kernel
theorem iw_X5_period_3 : ∀ w ∈ wsX30, w ∈ wsX5_period := by decide +kernel
theorem ln_X5_period_48 : Cond.fieldLink RX5 48 "MarqueeDisplay" "speed" "I" ∈ wsX5_period := by decide +kernel
set_option maxHeartbeats 4000000 in
set_option maxRecDepth 100000 in
theorem k_X5_period (vl : Launch) (D : va_G) (cI cM : ClassId) (A : Nat → Prop) (ad : Nat → Nat) (E : Nat → va_E) (hX : XD A 40 ad) {M : St}  (hI : Inv M) (hR : RelX cI cM ad M E) : MF vl yX5_period wsX5_period { frames := 0, cells := 0, slots := 0, locals := 0 } D cI cM A 40 ad E [.ref (ad 0)] (nI (LM M * M 0 2)) := by
  refine mf_of cX5_period 1 (.int) RX5 (by decide) rfl rfl (Nat.le_of_ble_eq_true rfl) (rfl) ?_
  intro vp ve vs vm va vb vt vc Q C hend
  refine z_lv [(0, .ref (ad 0))] ⟨rfl, rfl, trivial⟩ ?_
  obtain ⟨pm, hY, hMX, hs⟩ := id hR
  obtain ⟨e0, e1, e2, e3, b4, b5, l6, l7, hpm, hn6, hMY, e29⟩ := id hY
  obtain ⟨_, _, s26, -, -, -⟩ := id hs
  rw [strip_len] at s26
  obtain ⟨⟨iW1, iW2⟩, iG, ⟨iS1, iS2⟩, ⟨iB1, iB2⟩, iO, iC, iT, iN, iSh, iWd, iDt, iZ, iDf, iDz, iTx, iMs⟩ := id hI.1
  have hLM := hI.1.LM_le
  have hsl := hI.1.slen
  have hld : ∀ a, ldM M a ≤ 512 := fun a => Nat.le_trans (ldS_le _ _ _ _ _) (by omega)
  have hl4 := hld (M 0 4)
  refine z_aload_n C dX5_period_0 rfl ?_
  refine z_get C (0) (Cn := RX5) (T := TX5) (N := 12) (fi := 3) iw_X5_period_5 rfl (by decide) ln_X5_period_33 (by first | decide | omega) rfl e0 rfl dX5_period_1 ?_
  refine z_getN C (26) (Cn := RX3) (T := TX3) (N := 3) (fi := 2) iw_X5_period_3 rfl (by decide) nl_X5_114 (by first | decide | omega) rfl s26 rfl dX5_period_4 ?_
  refine z_aload_n C dX5_period_7 rfl ?_
  refine z_get C (0) (Cn := RX5) (T := TX5) (N := 12) (fi := 7) iw_X5_period_5 rfl (by decide) ln_X5_period_48 (by first | decide | omega) rfl e0 rfl dX5_period_8 ?_
  refine z_imulN C  dX5_period_11 ?_
  exact hend _ _ _ dX5_period_12 (rfl)

theorem iw_X5_load_5 : ∀ w ∈ wsX50, w ∈ wsX5_load := by decide +kernel
theorem ln_X5_load_57 : Cond.fieldLink RX5 57 "MarqueeDisplay" "offset" "I" ∈ wsX5_load := by decide +kernel
set_option maxHeartbeats 4000000 in
set_option maxRecDepth 100000 in
theorem k_X5_load (vl : Launch) (D : va_G) (cI cM : ClassId) (A : Nat → Prop) (ad : Nat → Nat) (E : Nat → va_E) (hX : XD A 40 ad) {M : St}  (hI : Inv M) (hR : RelX cI cM ad M E) : MF vl yX5_load wsX5_load { frames := 5, cells := 0, slots := 0, locals := 110 } D cI cM A 40 ad E [.ref (ad 0)] (o_load M) := by
  refine mf_of cX5_load 1 (.int) RX5 (by decide) rfl rfl (Nat.le_of_ble_eq_true rfl) (rfl) ?_
  intro vp ve vs vm va vb vt vc Q C hend
  refine z_lv [(0, .ref (ad 0))] ⟨rfl, rfl, trivial⟩ ?_
  obtain ⟨pm, hY, hMX, hs⟩ := id hR
  obtain ⟨e0, e1, e2, e3, b4, b5, l6, l7, hpm, hn6, hMY, e29⟩ := id hY
  obtain ⟨_, _, s26, -, -, -⟩ := id hs
  rw [strip_len] at s26
  obtain ⟨⟨iW1, iW2⟩, iG, ⟨iS1, iS2⟩, ⟨iB1, iB2⟩, iO, iC, iT, iN, iSh, iWd, iDt, iZ, iDf, iDz, iTx, iMs⟩ := id hI.1
  have hLM := hI.1.LM_le
  have hsl := hI.1.slen
  have hld : ∀ a, ldM M a ≤ 512 := fun a => Nat.le_trans (ldS_le _ _ _ _ _) (by omega)
  have hl4 := hld (M 0 4)
  refine z_aload_n C dX5_load_0 rfl ?_
  refine z_aload_n C dX5_load_1 rfl ?_
  refine z_get C (0) (Cn := RX5) (T := TX5) (N := 12) (fi := 10) iw_X5_load_5 rfl (by decide) ln_X5_load_57 (by first | decide | omega) rfl e0 rfl dX5_load_2 ?_
  refine z_callVF C (0) (Cn := RX5) (T := TX5) (N := 12) (k_X5_loadFrom vl D cI cM A ad E hX e0 e29 hs hsl hI.1.dot iDf hI.1.clr iSh (by omega) iW2) (cwV 1 C.2.2.2.2.1 gX5_load_X5_loadFrom rfl rfl rfl (by decide +kernel) ⟨Nat.le_of_ble_eq_true rfl, Nat.le_of_ble_eq_true rfl⟩) rfl (by first | decide | omega) rfl e0 rfl rfl (Nat.le_of_ble_eq_true rfl) ⟨Nat.zero_le _, Nat.zero_le _⟩ dX5_load_5 ?_
  exact hend _ _ _ dX5_load_8 (rfl)

theorem iw_X5_brightness_5 : ∀ w ∈ wsX50, w ∈ wsX5_brightness := by decide +kernel
theorem ln_X5_brightness_57 : Cond.fieldLink RX5 57 "MarqueeDisplay" "offset" "I" ∈ wsX5_brightness := by decide +kernel
theorem ln_X5_brightness_54 : Cond.fieldLink RX5 54 "MarqueeDisplay" "budget" "I" ∈ wsX5_brightness := by decide +kernel
set_option maxHeartbeats 4000000 in
set_option maxRecDepth 100000 in
theorem k_X5_brightness (vl : Launch) (D : va_G) (cI cM : ClassId) (A : Nat → Prop) (ad : Nat → Nat) (E : Nat → va_E) (hX : XD A 40 ad) {M : St}  (hI : Inv M) (hR : RelX cI cM ad M E) : MF vl yX5_brightness wsX5_brightness { frames := 5, cells := 0, slots := 0, locals := 110 } D cI cM A 40 ad E [.ref (ad 0)] (o_brightness M) := by
  refine mf_of cX5_brightness 2 (.int) RX5 (by decide) rfl rfl (Nat.le_of_ble_eq_true rfl) (rfl) ?_
  intro vp ve vs vm va vb vt vc Q C hend
  refine z_lv [(0, .ref (ad 0))] ⟨rfl, rfl, trivial⟩ ?_
  obtain ⟨pm, hY, hMX, hs⟩ := id hR
  obtain ⟨e0, e1, e2, e3, b4, b5, l6, l7, hpm, hn6, hMY, e29⟩ := id hY
  obtain ⟨_, _, s26, -, -, -⟩ := id hs
  rw [strip_len] at s26
  obtain ⟨⟨iW1, iW2⟩, iG, ⟨iS1, iS2⟩, ⟨iB1, iB2⟩, iO, iC, iT, iN, iSh, iWd, iDt, iZ, iDf, iDz, iTx, iMs⟩ := id hI.1
  have hLM := hI.1.LM_le
  have hsl := hI.1.slen
  have hld : ∀ a, ldM M a ≤ 512 := fun a => Nat.le_trans (ldS_le _ _ _ _ _) (by omega)
  have hl4 := hld (M 0 4)
  refine z_aload_n C dX5_brightness_0 rfl ?_
  refine z_aload_n C dX5_brightness_1 rfl ?_
  refine z_get C (0) (Cn := RX5) (T := TX5) (N := 12) (fi := 10) iw_X5_brightness_5 rfl (by decide) ln_X5_brightness_57 (by first | decide | omega) rfl e0 rfl dX5_brightness_2 ?_
  refine z_callVF C (0) (Cn := RX5) (T := TX5) (N := 12) (k_X5_loadFrom vl D cI cM A ad E hX e0 e29 hs hsl hI.1.dot iDf hI.1.clr iSh (by omega) iW2) (cwV 1 C.2.2.2.2.1 gX5_brightness_X5_loadFrom rfl rfl rfl (by decide +kernel) ⟨Nat.le_of_ble_eq_true rfl, Nat.le_of_ble_eq_true rfl⟩) rfl (by first | decide | omega) rfl e0 rfl rfl (Nat.le_of_ble_eq_true rfl) ⟨Nat.zero_le _, Nat.zero_le _⟩ dX5_brightness_5 ?_
  refine z_istore_n C [(0, .ref (ad 0)), (1, .int (nI (ldM M (M 0 4))))] dX5_brightness_8 (by decide) ⟨rfl, rfl, rfl, rfl, trivial⟩ ?_
  refine z_iload_n C dX5_brightness_9 rfl ?_
  refine z_if_leN C 21 (by omega) dX5_brightness_10 (by decide) (fun h10 => ?_) (fun h10 => ?_)
  · refine z_bipush C (nI (15)) dX5_brightness_21 (by decide) ?_
    exact hend _ _ _ dX5_brightness_23 (by unfold o_brightness; rw [if_pos (by omega)])
  · refine z_iload_n C dX5_brightness_13 rfl ?_
    refine z_aload_n C dX5_brightness_14 rfl ?_
    refine z_get C (0) (Cn := RX5) (T := TX5) (N := 12) (fi := 9) iw_X5_brightness_5 rfl (by decide) ln_X5_brightness_54 (by first | decide | omega) rfl e0 rfl dX5_brightness_15 ?_
    refine z_icmp_gtN C 24 (by omega) (by omega) dX5_brightness_18 (by decide) (fun h18 => ?_) (fun h18 => ?_)
    · refine z_bipush C (nI (15)) dX5_brightness_24 (by decide) ?_
      refine z_aload_n C dX5_brightness_26 rfl ?_
      refine z_get C (0) (Cn := RX5) (T := TX5) (N := 12) (fi := 9) iw_X5_brightness_5 rfl (by decide) ln_X5_brightness_54 (by first | decide | omega) rfl e0 rfl dX5_brightness_27 ?_
      refine z_imulN C  dX5_brightness_30 ?_
      refine z_iload_n C dX5_brightness_31 rfl ?_
      refine z_idivN C (by omega) (by omega) (by omega) dX5_brightness_32 ?_
      exact hend _ _ _ dX5_brightness_33 (by unfold o_brightness; rw [if_neg (by omega)])
    · refine z_bipush C (nI (15)) dX5_brightness_21 (by decide) ?_
      exact hend _ _ _ dX5_brightness_23 (by unfold o_brightness; rw [if_pos (by omega)])

theorem hv_lt {f : Nat → Nat} : ∀ {n : Nat}, hv f n ≤ n
  | 0 => Nat.le_refl _
  | n + 1 => by
    have h := hv_lt (f := f) (n := n)
    rw [hv]
    split
    · omega
    · split <;> omega
set_option maxHeartbeats 4000000 in
set_option maxRecDepth 100000 in
theorem k_X5_peakLoad (vl : Launch) (D : va_G) (cI cM : ClassId) (A : Nat → Prop) (ad : Nat → Nat) (E : Nat → va_E) (hX : XD A 40 ad) {M : St}  (hI : Inv M) (hR : RelX cI cM ad M E) : MF vl yX5_peakLoad wsX5_peakLoad { frames := 6, cells := 0, slots := 0, locals := 134 } D cI cM A 40 ad E [.ref (ad 0)] (o_peakLoad M) := by
  refine mf_of cX5_peakLoad 1 (.int) RX5 (by decide) rfl rfl (Nat.le_of_ble_eq_true rfl) (rfl) ?_
  intro vp ve vs vm va vb vt vc Q C hend
  refine z_lv [(0, .ref (ad 0))] ⟨rfl, rfl, trivial⟩ ?_
  obtain ⟨pm, hY, hMX, hs⟩ := id hR
  obtain ⟨e0, e1, e2, e3, b4, b5, l6, l7, hpm, hn6, hMY, e29⟩ := id hY
  obtain ⟨_, _, s26, -, -, -⟩ := id hs
  rw [strip_len] at s26
  obtain ⟨⟨iW1, iW2⟩, iG, ⟨iS1, iS2⟩, ⟨iB1, iB2⟩, iO, iC, iT, iN, iSh, iWd, iDt, iZ, iDf, iDz, iTx, iMs⟩ := id hI.1
  have hLM := hI.1.LM_le
  have hsl := hI.1.slen
  have hld : ∀ a, ldM M a ≤ 512 := fun a => Nat.le_trans (ldS_le _ _ _ _ _) (by omega)
  have hl4 := hld (M 0 4)
  refine z_aload_n C dX5_peakLoad_0 rfl ?_
  refine z_aload_n C dX5_peakLoad_1 rfl ?_
  refine z_callVF C (0) (Cn := RX5) (T := TX5) (N := 12) (k_X5_heaviestOffset vl D cI cM A ad E hX e0 e29 hs hsl hI.1.dot iDf hI.1.clr iSh iW2) (cwV 0 C.2.2.2.2.1 gX5_peakLoad_X5_heaviestOffset rfl rfl rfl (by decide +kernel) ⟨Nat.le_of_ble_eq_true rfl, Nat.le_of_ble_eq_true rfl⟩) rfl (by first | decide | omega) rfl e0 rfl rfl (Nat.le_of_ble_eq_true rfl) ⟨Nat.zero_le _, Nat.zero_le _⟩ dX5_peakLoad_2 ?_
  refine z_top (nI (hv (ldM M) (LM M))) (by rw [strip_len]; rfl) ?_
  refine z_callVF C (0) (Cn := RX5) (T := TX5) (N := 12) (k_X5_loadFrom vl D cI cM A ad E hX e0 e29 hs hsl hI.1.dot iDf hI.1.clr iSh (by have := hv_lt (f := ldM M) (n := LM M); omega) iW2) (cwV 1 C.2.2.2.2.1 gX5_peakLoad_X5_loadFrom rfl rfl rfl (by decide +kernel) ⟨Nat.le_of_ble_eq_true rfl, Nat.le_of_ble_eq_true rfl⟩) rfl (by first | decide | omega) rfl e0 rfl rfl (Nat.le_of_ble_eq_true rfl) ⟨Nat.zero_le _, Nat.zero_le _⟩ dX5_peakLoad_5 ?_
  exact hend _ _ _ dX5_peakLoad_8 (rfl)

theorem iw_X5_peakOffset_5 : ∀ w ∈ wsX50, w ∈ wsX5_peakOffset := by decide +kernel
theorem ln_X5_peakOffset_33 : Cond.fieldLink RX5 33 "MarqueeDisplay" "strip" "LMarqueeDisplay$Strip;" ∈ wsX5_peakOffset := by decide +kernel
theorem iw_X5_peakOffset_3 : ∀ w ∈ wsX30, w ∈ wsX5_peakOffset := by decide +kernel
set_option maxHeartbeats 4000000 in
set_option maxRecDepth 100000 in
theorem k_X5_peakOffset (vl : Launch) (D : va_G) (cI cM : ClassId) (A : Nat → Prop) (ad : Nat → Nat) (E : Nat → va_E) (hX : XD A 40 ad) {M : St}  (hI : Inv M) (hR : RelX cI cM ad M E) : MF vl yX5_peakOffset wsX5_peakOffset { frames := 6, cells := 0, slots := 0, locals := 134 } D cI cM A 40 ad E [.ref (ad 0)] (o_peakOffset M) := by
  refine mf_of cX5_peakOffset 1 (.int) RX5 (by decide) rfl rfl (Nat.le_of_ble_eq_true rfl) (rfl) ?_
  intro vp ve vs vm va vb vt vc Q C hend
  refine z_lv [(0, .ref (ad 0))] ⟨rfl, rfl, trivial⟩ ?_
  obtain ⟨pm, hY, hMX, hs⟩ := id hR
  obtain ⟨e0, e1, e2, e3, b4, b5, l6, l7, hpm, hn6, hMY, e29⟩ := id hY
  obtain ⟨_, _, s26, -, -, -⟩ := id hs
  rw [strip_len] at s26
  obtain ⟨⟨iW1, iW2⟩, iG, ⟨iS1, iS2⟩, ⟨iB1, iB2⟩, iO, iC, iT, iN, iSh, iWd, iDt, iZ, iDf, iDz, iTx, iMs⟩ := id hI.1
  have hLM := hI.1.LM_le
  have hsl := hI.1.slen
  have hld : ∀ a, ldM M a ≤ 512 := fun a => Nat.le_trans (ldS_le _ _ _ _ _) (by omega)
  have hl4 := hld (M 0 4)
  refine z_aload_n C dX5_peakOffset_0 rfl ?_
  refine z_get C (0) (Cn := RX5) (T := TX5) (N := 12) (fi := 3) iw_X5_peakOffset_5 rfl (by decide) ln_X5_peakOffset_33 (by first | decide | omega) rfl e0 rfl dX5_peakOffset_1 ?_
  refine z_getN C (26) (Cn := RX3) (T := TX3) (N := 3) (fi := 2) iw_X5_peakOffset_3 rfl (by decide) nl_X5_114 (by first | decide | omega) rfl s26 rfl dX5_peakOffset_4 ?_
  refine z_if_neN C 15 (by omega) dX5_peakOffset_7 (by decide) (fun h7 => ?_) (fun h7 => ?_)
  · refine z_aload_n C dX5_peakOffset_15 rfl ?_
    refine z_callVF C (0) (Cn := RX5) (T := TX5) (N := 12) (k_X5_heaviestOffset vl D cI cM A ad E hX e0 e29 hs hsl hI.1.dot iDf hI.1.clr iSh iW2) (cwV 0 C.2.2.2.2.1 gX5_peakOffset_X5_heaviestOffset rfl rfl rfl (by decide +kernel) ⟨Nat.le_of_ble_eq_true rfl, Nat.le_of_ble_eq_true rfl⟩) rfl (by first | decide | omega) rfl e0 rfl rfl (Nat.le_of_ble_eq_true rfl) ⟨Nat.zero_le _, Nat.zero_le _⟩ dX5_peakOffset_16 ?_
    refine z_top (nI (hv (ldM M) (LM M))) (by rw [strip_len]; rfl) ?_
    exact hend _ _ _ dX5_peakOffset_19 (by unfold o_peakOffset; rw [if_neg h7])
  · refine z_bipush C (-14) dX5_peakOffset_10 (by decide) ?_
    refine z_goto C 19 dX5_peakOffset_12 (by decide) ?_
    exact hend _ _ _ dX5_peakOffset_19 (by unfold o_peakOffset; rw [if_pos h7])

set_option maxHeartbeats 4000000 in
set_option maxRecDepth 100000 in
theorem k_X5_damage (vl : Launch) (D : va_G) (cI cM : ClassId) (A : Nat → Prop) (ad : Nat → Nat) (E : Nat → va_E) (hX : XD A 40 ad) {M : St} (x : Int32) (hI : Inv M) (hR : RelX cI cM ad M E) : MF vl yX5_damage wsX5_damage { frames := 4, cells := 0, slots := 0, locals := 89 } D cI cM A 40 ad E [.ref (ad 0), .int (x)] (o_damage M x) := by
  refine mf_of cX5_damage 2 (.int) RX5 (by decide) rfl rfl (Nat.le_of_ble_eq_true rfl) (rfl) ?_
  intro vp ve vs vm va vb vt vc Q C hend
  refine z_lv [(0, .ref (ad 0)), (1, .int (x))] ⟨rfl, rfl, rfl, rfl, trivial⟩ ?_
  obtain ⟨pm, hY, hMX, hs⟩ := id hR
  obtain ⟨e0, e1, e2, e3, b4, b5, l6, l7, hpm, hn6, hMY, e29⟩ := id hY
  obtain ⟨_, _, s26, -, -, -⟩ := id hs
  rw [strip_len] at s26
  obtain ⟨⟨iW1, iW2⟩, iG, ⟨iS1, iS2⟩, ⟨iB1, iB2⟩, iO, iC, iT, iN, iSh, iWd, iDt, iZ, iDf, iDz, iTx, iMs⟩ := id hI.1
  have hLM := hI.1.LM_le
  have hsl := hI.1.slen
  have hld : ∀ a, ldM M a ≤ 512 := fun a => Nat.le_trans (ldS_le _ _ _ _ _) (by omega)
  have hl4 := hld (M 0 4)
  rcases ws_c x with ⟨t1, ht1, rfl⟩ | hx
  · have hop : o_damage M (shI t1) = nI (dmM M t1) := ws_y ht1
    refine z_iload_n C dX5_damage_0 rfl ?_
    refine z_callSF C (k_X5_isShift vl D cI cM A ad E hX (shI t1)) (va_cwS 1 C.2.2.2.2.1 gX5_damage_X5_isShift rfl rfl rfl (by decide +kernel) ⟨Nat.le_of_ble_eq_true rfl, Nat.le_of_ble_eq_true rfl⟩) rfl rfl (Nat.le_of_ble_eq_true rfl) ⟨Nat.zero_le _, Nat.zero_le _⟩ dX5_damage_1 ?_
    refine z_top (nI (1)) (iw_y (shI_in t1 (by omega)).1) ?_
    refine z_if_neN C 10 (by omega) dX5_damage_4 (by decide) (fun h4 => ?_) (fun h4 => (by exfalso; omega))
    refine z_aload_n C dX5_damage_10 rfl ?_
    refine z_iload_n C dX5_damage_11 rfl ?_
    refine z_callVF C (0) (Cn := RX5) (T := TX5) (N := 12) (k_X5_damageWith vl D cI cM A ad E hX e0 e29 hs hsl hI.1.dot iDf ht1 (by omega) iW2) (cwV 1 C.2.2.2.2.1 gX5_damage_X5_damageWith rfl rfl rfl (by decide +kernel) ⟨Nat.le_of_ble_eq_true rfl, Nat.le_of_ble_eq_true rfl⟩) rfl (by first | decide | omega) rfl e0 rfl rfl (Nat.le_of_ble_eq_true rfl) ⟨Nat.zero_le _, Nat.zero_le _⟩ dX5_damage_12 ?_
    exact hend _ _ _ dX5_damage_15 (hop.symm)
  · have hop : o_damage M x = -11 := ws_n hx
    refine z_iload_n C dX5_damage_0 rfl ?_
    refine z_callSF C (k_X5_isShift vl D cI cM A ad E hX (x)) (va_cwS 1 C.2.2.2.2.1 gX5_damage_X5_isShift rfl rfl rfl (by decide +kernel) ⟨Nat.le_of_ble_eq_true rfl, Nat.le_of_ble_eq_true rfl⟩) rfl rfl (Nat.le_of_ble_eq_true rfl) ⟨Nat.zero_le _, Nat.zero_le _⟩ dX5_damage_1 ?_
    refine z_top (nI (0)) (iw_n hx) ?_
    refine z_if_neN C 10 (by omega) dX5_damage_4 (by decide) (fun h4 => (by exfalso; omega)) (fun h4 => ?_)
    refine z_bipush C (-11) dX5_damage_7 (by decide) ?_
    exact hend _ _ _ dX5_damage_9 (hop.symm)

theorem iw_X5_glyphColumn_5 : ∀ w ∈ wsX50, w ∈ wsX5_glyphColumn := by decide +kernel
theorem ln_X5_glyphColumn_12 : Cond.fieldLink RX5 12 "MarqueeDisplay" "font" "LMarqueeDisplay$Font;" ∈ wsX5_glyphColumn := by decide +kernel
set_option maxHeartbeats 4000000 in
set_option maxRecDepth 100000 in
theorem k_X5_glyphColumn (vl : Launch) (D : va_G) (cI cM : ClassId) (A : Nat → Prop) (ad : Nat → Nat) (E : Nat → va_E) (hX : XD A 40 ad) {M : St} (x y : Int32) (hI : Inv M) (hR : RelX cI cM ad M E) : MF vl yX5_glyphColumn wsX5_glyphColumn { frames := 2, cells := 0, slots := 0, locals := 44 } D cI cM A 40 ad E [.ref (ad 0), .int (x), .int (y)] (o_glyphColumn M x y) := by
  refine mf_of cX5_glyphColumn 3 (.int) RX5 (by decide) rfl rfl (Nat.le_of_ble_eq_true rfl) (rfl) ?_
  intro vp ve vs vm va vb vt vc Q C hend
  refine z_lv [(0, .ref (ad 0)), (1, .int (x)), (2, .int (y))] ⟨rfl, rfl, rfl, rfl, rfl, rfl, trivial⟩ ?_
  obtain ⟨pm, hY, hMX, hs⟩ := id hR
  obtain ⟨e0, e1, e2, e3, b4, b5, l6, l7, hpm, hn6, hMY, e29⟩ := id hY
  obtain ⟨_, _, s26, -, -, -⟩ := id hs
  rw [strip_len] at s26
  obtain ⟨⟨iW1, iW2⟩, iG, ⟨iS1, iS2⟩, ⟨iB1, iB2⟩, iO, iC, iT, iN, iSh, iWd, iDt, iZ, iDf, iDz, iTx, iMs⟩ := id hI.1
  have hLM := hI.1.LM_le
  have hsl := hI.1.slen
  have hld : ∀ a, ldM M a ≤ 512 := fun a => Nat.le_trans (ldS_le _ _ _ _ _) (by omega)
  have hl4 := hld (M 0 4)
  rcases wr_c 0 26 x (by omega) (by omega) with ⟨c, hc, rfl⟩ | hx
  · rcases wr_c 0 5 y (by omega) (by omega) with ⟨j, hj, rfl⟩ | hy
    · have hop : o_glyphColumn M (nI c) (nI j) = if j < M 1 c then nI (M 2 (c * 6 + j)) else -14 := (wr_y hc (by decide)).trans (wr_y hj (by decide))
      have hwc := iWd c (by omega)
      by_cases hjw : j < M 1 c
      · rw [if_pos hjw] at hop
        refine z_iload_n C dX5_glyphColumn_0 rfl ?_
        refine z_callSF C (k_X5_isCharacter vl D cI cM A ad E hX (nI (c))) (va_cwS 1 C.2.2.2.2.1 gX5_glyphColumn_X5_isCharacter rfl rfl rfl (by decide +kernel) ⟨Nat.le_of_ble_eq_true rfl, Nat.le_of_ble_eq_true rfl⟩) rfl rfl (Nat.le_of_ble_eq_true rfl) ⟨Nat.zero_le _, Nat.zero_le _⟩ dX5_glyphColumn_1 ?_
        refine z_top (nI (1)) (iw_yN hc (by omega)) ?_
        refine z_if_eqN C 16 (by omega) dX5_glyphColumn_4 (by decide) (fun h4 => (by exfalso; omega)) (fun h4 => ?_)
        refine z_iload_n C dX5_glyphColumn_7 rfl ?_
        refine z_iconst C (nI (0)) dX5_glyphColumn_8 (by decide) ?_
        refine z_iconst C (nI (5)) dX5_glyphColumn_9 (by decide) ?_
        refine z_callSF C (k_X5_isWithin vl D cI cM A ad E hX (nI (j)) (nI (0)) (nI (5))) (va_cwS 3 C.2.2.2.2.1 gX5_glyphColumn_X5_isWithin rfl rfl rfl (by decide +kernel) ⟨Nat.le_of_ble_eq_true rfl, Nat.le_of_ble_eq_true rfl⟩) rfl rfl (Nat.le_of_ble_eq_true rfl) ⟨Nat.zero_le _, Nat.zero_le _⟩ dX5_glyphColumn_10 ?_
        refine z_top (nI (1)) (iw_yN hj (by omega)) ?_
        refine z_if_neN C 19 (by omega) dX5_glyphColumn_13 (by decide) (fun h13 => ?_) (fun h13 => (by exfalso; omega))
        refine z_aload_n C dX5_glyphColumn_19 rfl ?_
        refine z_get C (0) (Cn := RX5) (T := TX5) (N := 12) (fi := 0) iw_X5_glyphColumn_5 rfl (by decide) ln_X5_glyphColumn_12 (by first | decide | omega) rfl e0 rfl dX5_glyphColumn_20 ?_
        refine z_iload_n C dX5_glyphColumn_23 rfl ?_
        refine z_iload_n C dX5_glyphColumn_24 rfl ?_
        refine z_callVF C (1) (Cn := RX0) (T := TX0) (N := 2) (k_X0_hasColumn vl D cI cM A ad E hX (nI j) e1 e2 (by omega) hwc.1) (cwV 2 C.2.2.2.2.1 gX5_glyphColumn_X0_hasColumn rfl rfl rfl (by decide +kernel) ⟨Nat.le_of_ble_eq_true rfl, Nat.le_of_ble_eq_true rfl⟩) rfl (by first | decide | omega) rfl e1 rfl rfl (Nat.le_of_ble_eq_true rfl) ⟨Nat.zero_le _, Nat.zero_le _⟩ dX5_glyphColumn_25 ?_
        refine z_top (nI (1)) (iw_yN ⟨Nat.zero_le _, by omega⟩ (by omega)) ?_
        refine z_if_neN C 34 (by omega) dX5_glyphColumn_28 (by decide) (fun h28 => ?_) (fun h28 => (by exfalso; omega))
        refine z_aload_n C dX5_glyphColumn_34 rfl ?_
        refine z_get C (0) (Cn := RX5) (T := TX5) (N := 12) (fi := 0) iw_X5_glyphColumn_5 rfl (by decide) ln_X5_glyphColumn_12 (by first | decide | omega) rfl e0 rfl dX5_glyphColumn_35 ?_
        refine z_iload_n C dX5_glyphColumn_38 rfl ?_
        refine z_iload_n C dX5_glyphColumn_39 rfl ?_
        refine z_callVF C (1) (Cn := RX0) (T := TX0) (N := 2) (k_X0_dotsOf vl D cI cM A ad E hX e1 e3 (by omega) (by omega)) (cwV 2 C.2.2.2.2.1 gX5_glyphColumn_X0_dotsOf rfl rfl rfl (by decide +kernel) ⟨Nat.le_of_ble_eq_true rfl, Nat.le_of_ble_eq_true rfl⟩) rfl (by first | decide | omega) rfl e1 rfl rfl (Nat.le_of_ble_eq_true rfl) ⟨Nat.zero_le _, Nat.zero_le _⟩ dX5_glyphColumn_40 ?_
        exact hend _ _ _ dX5_glyphColumn_43 (hop.symm)
      · rw [if_neg hjw] at hop
        refine z_iload_n C dX5_glyphColumn_0 rfl ?_
        refine z_callSF C (k_X5_isCharacter vl D cI cM A ad E hX (nI (c))) (va_cwS 1 C.2.2.2.2.1 gX5_glyphColumn_X5_isCharacter rfl rfl rfl (by decide +kernel) ⟨Nat.le_of_ble_eq_true rfl, Nat.le_of_ble_eq_true rfl⟩) rfl rfl (Nat.le_of_ble_eq_true rfl) ⟨Nat.zero_le _, Nat.zero_le _⟩ dX5_glyphColumn_1 ?_
        refine z_top (nI (1)) (iw_yN hc (by omega)) ?_
        refine z_if_eqN C 16 (by omega) dX5_glyphColumn_4 (by decide) (fun h4 => (by exfalso; omega)) (fun h4 => ?_)
        refine z_iload_n C dX5_glyphColumn_7 rfl ?_
        refine z_iconst C (nI (0)) dX5_glyphColumn_8 (by decide) ?_
        refine z_iconst C (nI (5)) dX5_glyphColumn_9 (by decide) ?_
        refine z_callSF C (k_X5_isWithin vl D cI cM A ad E hX (nI (j)) (nI (0)) (nI (5))) (va_cwS 3 C.2.2.2.2.1 gX5_glyphColumn_X5_isWithin rfl rfl rfl (by decide +kernel) ⟨Nat.le_of_ble_eq_true rfl, Nat.le_of_ble_eq_true rfl⟩) rfl rfl (Nat.le_of_ble_eq_true rfl) ⟨Nat.zero_le _, Nat.zero_le _⟩ dX5_glyphColumn_10 ?_
        refine z_top (nI (1)) (iw_yN hj (by omega)) ?_
        refine z_if_neN C 19 (by omega) dX5_glyphColumn_13 (by decide) (fun h13 => ?_) (fun h13 => (by exfalso; omega))
        refine z_aload_n C dX5_glyphColumn_19 rfl ?_
        refine z_get C (0) (Cn := RX5) (T := TX5) (N := 12) (fi := 0) iw_X5_glyphColumn_5 rfl (by decide) ln_X5_glyphColumn_12 (by first | decide | omega) rfl e0 rfl dX5_glyphColumn_20 ?_
        refine z_iload_n C dX5_glyphColumn_23 rfl ?_
        refine z_iload_n C dX5_glyphColumn_24 rfl ?_
        refine z_callVF C (1) (Cn := RX0) (T := TX0) (N := 2) (k_X0_hasColumn vl D cI cM A ad E hX (nI j) e1 e2 (by omega) hwc.1) (cwV 2 C.2.2.2.2.1 gX5_glyphColumn_X0_hasColumn rfl rfl rfl (by decide +kernel) ⟨Nat.le_of_ble_eq_true rfl, Nat.le_of_ble_eq_true rfl⟩) rfl (by first | decide | omega) rfl e1 rfl rfl (Nat.le_of_ble_eq_true rfl) ⟨Nat.zero_le _, Nat.zero_le _⟩ dX5_glyphColumn_25 ?_
        refine z_top (nI (0)) (by rw [iw_N (by omega) (by omega) (by omega), if_neg (by omega)]) ?_
        refine z_if_neN C 34 (by omega) dX5_glyphColumn_28 (by decide) (fun h28 => (by exfalso; omega)) (fun h28 => ?_)
        refine z_bipush C (-14) dX5_glyphColumn_31 (by decide) ?_
        exact hend _ _ _ dX5_glyphColumn_33 (hop.symm)
    · have hop : o_glyphColumn M (nI c) y = -11 := (wr_y hc (by decide)).trans (wr_n hy)
      refine z_iload_n C dX5_glyphColumn_0 rfl ?_
      refine z_callSF C (k_X5_isCharacter vl D cI cM A ad E hX (nI (c))) (va_cwS 1 C.2.2.2.2.1 gX5_glyphColumn_X5_isCharacter rfl rfl rfl (by decide +kernel) ⟨Nat.le_of_ble_eq_true rfl, Nat.le_of_ble_eq_true rfl⟩) rfl rfl (Nat.le_of_ble_eq_true rfl) ⟨Nat.zero_le _, Nat.zero_le _⟩ dX5_glyphColumn_1 ?_
      refine z_top (nI (1)) (iw_yN hc (by omega)) ?_
      refine z_if_eqN C 16 (by omega) dX5_glyphColumn_4 (by decide) (fun h4 => (by exfalso; omega)) (fun h4 => ?_)
      refine z_iload_n C dX5_glyphColumn_7 rfl ?_
      refine z_iconst C (nI (0)) dX5_glyphColumn_8 (by decide) ?_
      refine z_iconst C (nI (5)) dX5_glyphColumn_9 (by decide) ?_
      refine z_callSF C (k_X5_isWithin vl D cI cM A ad E hX (y) (nI (0)) (nI (5))) (va_cwS 3 C.2.2.2.2.1 gX5_glyphColumn_X5_isWithin rfl rfl rfl (by decide +kernel) ⟨Nat.le_of_ble_eq_true rfl, Nat.le_of_ble_eq_true rfl⟩) rfl rfl (Nat.le_of_ble_eq_true rfl) ⟨Nat.zero_le _, Nat.zero_le _⟩ dX5_glyphColumn_10 ?_
      refine z_top (nI (0)) (iw_n hy) ?_
      refine z_if_neN C 19 (by omega) dX5_glyphColumn_13 (by decide) (fun h13 => (by exfalso; omega)) (fun h13 => ?_)
      refine z_bipush C (-11) dX5_glyphColumn_16 (by decide) ?_
      exact hend _ _ _ dX5_glyphColumn_18 (hop.symm)
  · have hop : o_glyphColumn M x y = -11 := wr_n hx
    refine z_iload_n C dX5_glyphColumn_0 rfl ?_
    refine z_callSF C (k_X5_isCharacter vl D cI cM A ad E hX (x)) (va_cwS 1 C.2.2.2.2.1 gX5_glyphColumn_X5_isCharacter rfl rfl rfl (by decide +kernel) ⟨Nat.le_of_ble_eq_true rfl, Nat.le_of_ble_eq_true rfl⟩) rfl rfl (Nat.le_of_ble_eq_true rfl) ⟨Nat.zero_le _, Nat.zero_le _⟩ dX5_glyphColumn_1 ?_
    refine z_top (nI (0)) (iw_n hx) ?_
    refine z_if_eqN C 16 (by omega) dX5_glyphColumn_4 (by decide) (fun h4 => ?_) (fun h4 => (by exfalso; omega))
    refine z_bipush C (-11) dX5_glyphColumn_16 (by decide) ?_
    exact hend _ _ _ dX5_glyphColumn_18 (hop.symm)

theorem iw_X5_messageWidth_5 : ∀ w ∈ wsX50, w ∈ wsX5_messageWidth := by decide +kernel
theorem ln_X5_messageWidth_26 : Cond.fieldLink RX5 26 "MarqueeDisplay" "messages" "LMarqueeDisplay$MessageList;" ∈ wsX5_messageWidth := by decide +kernel
theorem iw_X5_messageWidth_1 : ∀ w ∈ wsX10, w ∈ wsX5_messageWidth := by decide +kernel
theorem nl_X5_127 : Cond.fieldLinkNest RX5 127 "MarqueeDisplay$Message" "width" "I" "MarqueeDisplay" ∈ nwL := by decide +kernel
set_option maxHeartbeats 4000000 in
set_option maxRecDepth 100000 in
theorem k_X5_messageWidth (vl : Launch) (D : va_G) (cI cM : ClassId) (A : Nat → Prop) (ad : Nat → Nat) (E : Nat → va_E) (hX : XD A 40 ad) {M : St} (x : Int32) (hI : Inv M) (hR : RelX cI cM ad M E) : MF vl yX5_messageWidth wsX5_messageWidth { frames := 2, cells := 0, slots := 0, locals := 43 } D cI cM A 40 ad E [.ref (ad 0), .int (x)] (o_messageWidth M x) := by
  refine mf_of cX5_messageWidth 3 (.int) RX5 (by decide) rfl rfl (Nat.le_of_ble_eq_true rfl) (rfl) ?_
  intro vp ve vs vm va vb vt vc Q C hend
  refine z_lv [(0, .ref (ad 0)), (1, .int (x))] ⟨rfl, rfl, rfl, rfl, trivial⟩ ?_
  obtain ⟨pm, hY, hMX, hs⟩ := id hR
  obtain ⟨e0, e1, e2, e3, b4, b5, l6, l7, hpm, hn6, hMY, e29⟩ := id hY
  obtain ⟨_, _, s26, -, -, -⟩ := id hs
  rw [strip_len] at s26
  obtain ⟨⟨iW1, iW2⟩, iG, ⟨iS1, iS2⟩, ⟨iB1, iB2⟩, iO, iC, iT, iN, iSh, iWd, iDt, iZ, iDf, iDz, iTx, iMs⟩ := id hI.1
  have hLM := hI.1.LM_le
  have hsl := hI.1.slen
  have hld : ∀ a, ldM M a ≤ 512 := fun a => Nat.le_trans (ldS_le _ _ _ _ _) (by omega)
  have hl4 := hld (M 0 4)
  by_cases hx : ∃ j : Nat, j < M 0 7 ∧ x = nI j
  · obtain ⟨j, hj, rfl⟩ := hx
    have hop : o_messageWidth M (nI j) = nI (mW (M 1) (ltr (M 7) j) (M 5 j)) := wn_y hj (by omega)
    obtain ⟨g, ⟨m8, m9, m10⟩, hg⟩ := hMX j hj
    have hpj := hpm.1 j (by omega)
    refine z_aload_n C dX5_messageWidth_0 rfl ?_
    refine z_get C (0) (Cn := RX5) (T := TX5) (N := 12) (fi := 2) iw_X5_messageWidth_5 rfl (by decide) ln_X5_messageWidth_26 (by first | decide | omega) rfl e0 rfl dX5_messageWidth_1 ?_
    refine z_iload_n C dX5_messageWidth_4 rfl ?_
    refine z_callVQ C (6) (Cn := RX2) (T := TX2) (N := 2) (k_X2_find_y vl D cI cM A ad E hX l6 l7 hj hn6) (cwV 1 C.2.2.2.2.1 gX5_messageWidth_X2_find rfl rfl rfl (by decide +kernel) ⟨Nat.le_of_ble_eq_true rfl, Nat.le_of_ble_eq_true rfl⟩) rfl (by first | decide | omega) rfl l6 rfl rfl (Nat.le_of_ble_eq_true rfl) ⟨Nat.zero_le _, Nat.zero_le _⟩ dX5_messageWidth_5 ?_
    refine z_astore_n C [(0, .ref (ad 0)), (1, .int (nI (j))), (2, .ref (ad (8 + 3 * (pm j))))] dX5_messageWidth_8 (by decide) ⟨rfl, rfl, rfl, rfl, rfl, rfl, trivial⟩ ?_
    refine z_aload_n C dX5_messageWidth_9 rfl ?_
    refine z_ifnonnull C 18 dX5_messageWidth_10 (by decide) ?_
    refine z_aload_n C dX5_messageWidth_18 rfl ?_
    refine z_getN C (8 + 3 * (pm j)) (Cn := RX1) (T := TX1) (N := 4) (fi := 3) iw_X5_messageWidth_1 rfl (by decide) nl_X5_127 (by first | decide | omega) rfl m8 rfl dX5_messageWidth_19 ?_
    exact hend _ _ _ dX5_messageWidth_22 (hop.symm)
  · have hop : o_messageWidth M x = -11 := wn_n (by omega) hx
    refine z_aload_n C dX5_messageWidth_0 rfl ?_
    refine z_get C (0) (Cn := RX5) (T := TX5) (N := 12) (fi := 2) iw_X5_messageWidth_5 rfl (by decide) ln_X5_messageWidth_26 (by first | decide | omega) rfl e0 rfl dX5_messageWidth_1 ?_
    refine z_iload_n C dX5_messageWidth_4 rfl ?_
    refine z_callVQ C (6) (Cn := RX2) (T := TX2) (N := 2) (k_X2_find_n vl D cI cM A ad E hX l6 hx hn6) (cwV 1 C.2.2.2.2.1 gX5_messageWidth_X2_find rfl rfl rfl (by decide +kernel) ⟨Nat.le_of_ble_eq_true rfl, Nat.le_of_ble_eq_true rfl⟩) rfl (by first | decide | omega) rfl l6 rfl rfl (Nat.le_of_ble_eq_true rfl) ⟨Nat.zero_le _, Nat.zero_le _⟩ dX5_messageWidth_5 ?_
    refine z_astore_nN C [(0, .ref (ad 0)), (1, .int (x)), (2, .null)] dX5_messageWidth_8 (by decide) ⟨rfl, rfl, rfl, rfl, rfl, rfl, trivial⟩ ?_
    refine z_aload_nN C dX5_messageWidth_9 rfl ?_
    refine z_ifnonnullN C dX5_messageWidth_10 ?_
    refine z_bipush C (-11) dX5_messageWidth_13 (by decide) ?_
    refine z_goto C 22 dX5_messageWidth_15 (by decide) ?_
    exact hend _ _ _ dX5_messageWidth_22 (hop.symm)

theorem iw_X5_messageStart_5 : ∀ w ∈ wsX50, w ∈ wsX5_messageStart := by decide +kernel
theorem ln_X5_messageStart_26 : Cond.fieldLink RX5 26 "MarqueeDisplay" "messages" "LMarqueeDisplay$MessageList;" ∈ wsX5_messageStart := by decide +kernel
theorem iw_X5_messageStart_1 : ∀ w ∈ wsX10, w ∈ wsX5_messageStart := by decide +kernel
theorem nl_X5_130 : Cond.fieldLinkNest RX5 130 "MarqueeDisplay$Message" "start" "I" "MarqueeDisplay" ∈ nwL := by decide +kernel
set_option maxHeartbeats 4000000 in
set_option maxRecDepth 100000 in
theorem k_X5_messageStart (vl : Launch) (D : va_G) (cI cM : ClassId) (A : Nat → Prop) (ad : Nat → Nat) (E : Nat → va_E) (hX : XD A 40 ad) {M : St} (x : Int32) (hI : Inv M) (hR : RelX cI cM ad M E) : MF vl yX5_messageStart wsX5_messageStart { frames := 2, cells := 0, slots := 0, locals := 43 } D cI cM A 40 ad E [.ref (ad 0), .int (x)] (o_messageStart M x) := by
  refine mf_of cX5_messageStart 3 (.int) RX5 (by decide) rfl rfl (Nat.le_of_ble_eq_true rfl) (rfl) ?_
  intro vp ve vs vm va vb vt vc Q C hend
  refine z_lv [(0, .ref (ad 0)), (1, .int (x))] ⟨rfl, rfl, rfl, rfl, trivial⟩ ?_
  obtain ⟨pm, hY, hMX, hs⟩ := id hR
  obtain ⟨e0, e1, e2, e3, b4, b5, l6, l7, hpm, hn6, hMY, e29⟩ := id hY
  obtain ⟨_, _, s26, -, -, -⟩ := id hs
  rw [strip_len] at s26
  obtain ⟨⟨iW1, iW2⟩, iG, ⟨iS1, iS2⟩, ⟨iB1, iB2⟩, iO, iC, iT, iN, iSh, iWd, iDt, iZ, iDf, iDz, iTx, iMs⟩ := id hI.1
  have hLM := hI.1.LM_le
  have hsl := hI.1.slen
  have hld : ∀ a, ldM M a ≤ 512 := fun a => Nat.le_trans (ldS_le _ _ _ _ _) (by omega)
  have hl4 := hld (M 0 4)
  by_cases hx : ∃ j : Nat, j < M 0 7 ∧ x = nI j
  · obtain ⟨j, hj, rfl⟩ := hx
    have hop : o_messageStart M (nI j) = nI (sL (M 1) (M 0 1) (M 5) (ltr (M 7)) j) := wn_y hj (by omega)
    obtain ⟨g, ⟨m8, m9, m10⟩, hg⟩ := hMX j hj
    have hpj := hpm.1 j (by omega)
    refine z_aload_n C dX5_messageStart_0 rfl ?_
    refine z_get C (0) (Cn := RX5) (T := TX5) (N := 12) (fi := 2) iw_X5_messageStart_5 rfl (by decide) ln_X5_messageStart_26 (by first | decide | omega) rfl e0 rfl dX5_messageStart_1 ?_
    refine z_iload_n C dX5_messageStart_4 rfl ?_
    refine z_callVQ C (6) (Cn := RX2) (T := TX2) (N := 2) (k_X2_find_y vl D cI cM A ad E hX l6 l7 hj hn6) (cwV 1 C.2.2.2.2.1 gX5_messageStart_X2_find rfl rfl rfl (by decide +kernel) ⟨Nat.le_of_ble_eq_true rfl, Nat.le_of_ble_eq_true rfl⟩) rfl (by first | decide | omega) rfl l6 rfl rfl (Nat.le_of_ble_eq_true rfl) ⟨Nat.zero_le _, Nat.zero_le _⟩ dX5_messageStart_5 ?_
    refine z_astore_n C [(0, .ref (ad 0)), (1, .int (nI (j))), (2, .ref (ad (8 + 3 * (pm j))))] dX5_messageStart_8 (by decide) ⟨rfl, rfl, rfl, rfl, rfl, rfl, trivial⟩ ?_
    refine z_aload_n C dX5_messageStart_9 rfl ?_
    refine z_ifnonnull C 18 dX5_messageStart_10 (by decide) ?_
    refine z_aload_n C dX5_messageStart_18 rfl ?_
    refine z_getN C (8 + 3 * (pm j)) (Cn := RX1) (T := TX1) (N := 4) (fi := 2) iw_X5_messageStart_1 rfl (by decide) nl_X5_130 (by first | decide | omega) rfl m8 rfl dX5_messageStart_19 ?_
    exact hend _ _ _ dX5_messageStart_22 (hop.symm)
  · have hop : o_messageStart M x = -11 := wn_n (by omega) hx
    refine z_aload_n C dX5_messageStart_0 rfl ?_
    refine z_get C (0) (Cn := RX5) (T := TX5) (N := 12) (fi := 2) iw_X5_messageStart_5 rfl (by decide) ln_X5_messageStart_26 (by first | decide | omega) rfl e0 rfl dX5_messageStart_1 ?_
    refine z_iload_n C dX5_messageStart_4 rfl ?_
    refine z_callVQ C (6) (Cn := RX2) (T := TX2) (N := 2) (k_X2_find_n vl D cI cM A ad E hX l6 hx hn6) (cwV 1 C.2.2.2.2.1 gX5_messageStart_X2_find rfl rfl rfl (by decide +kernel) ⟨Nat.le_of_ble_eq_true rfl, Nat.le_of_ble_eq_true rfl⟩) rfl (by first | decide | omega) rfl l6 rfl rfl (Nat.le_of_ble_eq_true rfl) ⟨Nat.zero_le _, Nat.zero_le _⟩ dX5_messageStart_5 ?_
    refine z_astore_nN C [(0, .ref (ad 0)), (1, .int (x)), (2, .null)] dX5_messageStart_8 (by decide) ⟨rfl, rfl, rfl, rfl, rfl, rfl, trivial⟩ ?_
    refine z_aload_nN C dX5_messageStart_9 rfl ?_
    refine z_ifnonnullN C dX5_messageStart_10 ?_
    refine z_bipush C (-11) dX5_messageStart_13 (by decide) ?_
    refine z_goto C 22 dX5_messageStart_15 (by decide) ?_
    exact hend _ _ _ dX5_messageStart_22 (hop.symm)

theorem MsgY_mv {cI : ClassId} {ad : Nat → Nat} {M : St} {pm : Nat → Nat} {E E1 : Nat → va_E} (hpm : PM pm) (h : MsgY cI ad M pm E) (hk : ∀ k : Nat, (8 ≤ k ∧ k < 26) → E1 k = E k) : MsgY cI ad M pm E1 := fun i hi => by
  obtain ⟨sz, co, st, wi, g, hM, hg⟩ := h i hi
  have := hpm.1 i hi
  exact ⟨sz, co, st, wi, g, hM.mv (hk _ (by omega)) (hk _ (by omega)) (hk _ (by omega)), hg⟩
theorem MsgX_mv {cI : ClassId} {ad : Nat → Nat} {M : St} {pm : Nat → Nat} {E E1 : Nat → va_E} (hpm : PM pm) (hn : M 0 7 ≤ 6) (h : MsgX cI ad M pm E) (hk : ∀ k : Nat, (8 ≤ k ∧ k < 26) → E1 k = E k) : MsgX cI ad M pm E1 := fun i hi => by
  obtain ⟨g, hM, hg⟩ := h i hi
  have := hpm.1 i (by omega)
  exact ⟨g, hM.mv (hk _ (by omega)) (hk _ (by omega)) (hk _ (by omega)), hg⟩
theorem iw_X5_setSpeed_5 : ∀ w ∈ wsX50, w ∈ wsX5_setSpeed := by decide +kernel
theorem ln_X5_setSpeed_48 : Cond.fieldLink RX5 48 "MarqueeDisplay" "speed" "I" ∈ wsX5_setSpeed := by decide +kernel
theorem ln_X5_setSpeed_60 : Cond.fieldLink RX5 60 "MarqueeDisplay" "counter" "I" ∈ wsX5_setSpeed := by decide +kernel
set_option maxHeartbeats 4000000 in
set_option maxRecDepth 100000 in
theorem k_X5_setSpeed (vl : Launch) (D : va_G) (cI cM : ClassId) (A : Nat → Prop) (ad : Nat → Nat) (E : Nat → va_E) (hX : XD A 40 ad) {M : St} (x : Int32) (hI : Inv M) (hR : RelX cI cM ad M E) : MI vl yX5_setSpeed wsX5_setSpeed { frames := 1, cells := 0, slots := 0, locals := 22 } D cI cM A 40 ad E [.ref (ad 0), .int (x)] (fun r E1 => r = (o_setSpeed M x).1 ∧ RelX cI cM ad (o_setSpeed M x).2 E1 ∧ ∀ k : Nat, 30 ≤ k → E1 k = E k) := by
  refine mi_of cX5_setSpeed 3 (.int) RX5 (by decide) rfl rfl (Nat.le_of_ble_eq_true rfl) (fun r E1 h => rfl) ?_
  intro vp ve vs vm va vb vt vc Q C hend
  refine z_lv [(0, .ref (ad 0)), (1, .int (x))] ⟨rfl, rfl, rfl, rfl, trivial⟩ ?_
  obtain ⟨pm, hY, hMX, hs⟩ := id hR
  obtain ⟨e0, e1, e2, e3, b4, b5, l6, l7, hpm, hn6, hMY, e29⟩ := id hY
  obtain ⟨_, _, s26, -, -, -⟩ := id hs
  rw [strip_len] at s26
  obtain ⟨⟨iW1, iW2⟩, iG, ⟨iS1, iS2⟩, ⟨iB1, iB2⟩, iO, iC, iT, iN, iSh, iWd, iDt, iZ, iDf, iDz, iTx, iMs⟩ := id hI.1
  have hLM := hI.1.LM_le
  have hsl := hI.1.slen
  have hld : ∀ a, ldM M a ≤ 512 := fun a => Nat.le_trans (ldS_le _ _ _ _ _) (by omega)
  have hl4 := hld (M 0 4)
  rcases wr_c 1 9 x (by omega) (by omega) with ⟨v, hv1, rfl⟩ | hx
  · have hop : o_setSpeed M (nI v) = (nI (M 0 2), s0 (s0 M 2 v) 5 0) := wr_y hv1 (by decide)
    refine z_iload_n C dX5_setSpeed_0 rfl ?_
    refine z_iconst C (nI (1)) dX5_setSpeed_1 (by decide) ?_
    refine z_bipush C (nI (9)) dX5_setSpeed_2 (by decide) ?_
    refine z_callSF C (k_X5_isWithin vl D cI cM A ad E hX (nI (v)) (nI (1)) (nI (9))) (va_cwS 3 C.2.2.2.2.1 gX5_setSpeed_X5_isWithin rfl rfl rfl (by decide +kernel) ⟨Nat.le_of_ble_eq_true rfl, Nat.le_of_ble_eq_true rfl⟩) rfl rfl (Nat.le_of_ble_eq_true rfl) ⟨Nat.zero_le _, Nat.zero_le _⟩ dX5_setSpeed_4 ?_
    refine z_top (nI (1)) (iw_yN hv1 (by omega)) ?_
    refine z_if_neN C 13 (by omega) dX5_setSpeed_7 (by decide) (fun h7 => ?_) (fun h7 => (by exfalso; omega))
    refine z_aload_n C dX5_setSpeed_13 rfl ?_
    refine z_get C (0) (Cn := RX5) (T := TX5) (N := 12) (fi := 7) iw_X5_setSpeed_5 rfl (by decide) ln_X5_setSpeed_48 (by first | decide | omega) rfl e0 rfl dX5_setSpeed_14 ?_
    refine z_istore_n C [(0, .ref (ad 0)), (1, .int (nI (v))), (2, .int (nI (M 0 2)))] dX5_setSpeed_17 (by decide) ⟨rfl, rfl, rfl, rfl, rfl, rfl, trivial⟩ ?_
    refine z_aload_n C dX5_setSpeed_18 rfl ?_
    refine z_iload_n C dX5_setSpeed_19 rfl ?_
    refine z_put C (0) (Cn := RX5) (T := TX5) (N := 12) (fi := 7) tyX5 iw_X5_setSpeed_5 tyX5_ok nmX5 rfl (by decide) ln_X5_setSpeed_48 hX (by first | decide | omega) rfl e0 rfl rfl rfl rfl (Nat.le_of_ble_eq_true rfl) dX5_setSpeed_20 (fun Ez2 hE1 => ?_)
    have f4 : Ez2 (1) = .inr (0, [.ref (ad 2), .ref (ad 3)]) := va_up_of hE1 (by first | decide | omega) e1
    have f5 : Ez2 (2) = aI cI 27 (M 1) := va_up_of hE1 (by first | decide | omega) e2
    have f6 : Ez2 (3) = aI cI 162 (M 2) := va_up_of hE1 (by first | decide | omega) e3
    have f7 : Ez2 (4) = .inr (4, [.ref (ad 5), .int (nI (M 0 6))]) := va_up_of hE1 (by first | decide | omega) b4
    have f8 : Ez2 (5) = aI cI 12 (M 4) := va_up_of hE1 (by first | decide | omega) b5
    have f9 : Ez2 (6) = .inr (2, [.ref (ad 7), .int (nI (M 0 7))]) := va_up_of hE1 (by first | decide | omega) l6
    have f10 : Ez2 (7) = .inl (cM, 6, .inr (.inr (.inr (.inr (sf ad pm))))) := va_up_of hE1 (by first | decide | omega) l7
    have f11 : Ez2 (29) = aI cI 32 (M 3) := va_up_of hE1 (by first | decide | omega) e29
    have f12 : Ez2 (26) = .inr (3, [.ref (ad 27), .ref (ad 28), .int (nI (LM M))]) := va_up_of hE1 (by first | decide | omega) s26
    have f13 : Ez2 (0) = .inr (5, [.ref (ad 1), .ref (ad 4), .ref (ad 6), .ref (ad 26), .ref (ad 29), .int (nI (M 0 0)), .int (nI (M 0 1)), .int (nI (v)), .int (shI (M 0 8)), .int (nI (M 0 3)), .int (nI (M 0 4)), .int (nI (M 0 5))]) := va_up_eq hE1
    have g14 : ∀ k : Nat, (k ≠ 0) → Ez2 k = E k := fun k hk => va_up_of hE1 (by omega) ((fun _ _ => rfl) k hk)
    refine z_aload_n C dX5_setSpeed_23 rfl ?_
    refine z_iconst C (nI (0)) dX5_setSpeed_24 (by decide) ?_
    refine z_put C (0) (Cn := RX5) (T := TX5) (N := 12) (fi := 11) tyX5 iw_X5_setSpeed_5 tyX5_ok nmX5 rfl (by decide) ln_X5_setSpeed_60 hX (by first | decide | omega) rfl f13 rfl rfl rfl rfl (Nat.le_of_ble_eq_true rfl) dX5_setSpeed_25 (fun Ez16 hE15 => ?_)
    have f17 : Ez16 (1) = .inr (0, [.ref (ad 2), .ref (ad 3)]) := va_up_of hE15 (by first | decide | omega) f4
    have f18 : Ez16 (2) = aI cI 27 (M 1) := va_up_of hE15 (by first | decide | omega) f5
    have f19 : Ez16 (3) = aI cI 162 (M 2) := va_up_of hE15 (by first | decide | omega) f6
    have f20 : Ez16 (4) = .inr (4, [.ref (ad 5), .int (nI (M 0 6))]) := va_up_of hE15 (by first | decide | omega) f7
    have f21 : Ez16 (5) = aI cI 12 (M 4) := va_up_of hE15 (by first | decide | omega) f8
    have f22 : Ez16 (6) = .inr (2, [.ref (ad 7), .int (nI (M 0 7))]) := va_up_of hE15 (by first | decide | omega) f9
    have f23 : Ez16 (7) = .inl (cM, 6, .inr (.inr (.inr (.inr (sf ad pm))))) := va_up_of hE15 (by first | decide | omega) f10
    have f24 : Ez16 (29) = aI cI 32 (M 3) := va_up_of hE15 (by first | decide | omega) f11
    have f25 : Ez16 (26) = .inr (3, [.ref (ad 27), .ref (ad 28), .int (nI (LM M))]) := va_up_of hE15 (by first | decide | omega) f12
    have f27 : Ez16 (0) = .inr (5, [.ref (ad 1), .ref (ad 4), .ref (ad 6), .ref (ad 26), .ref (ad 29), .int (nI (M 0 0)), .int (nI (M 0 1)), .int (nI (v)), .int (shI (M 0 8)), .int (nI (M 0 3)), .int (nI (M 0 4)), .int (nI (0))]) := va_up_eq hE15
    have g28 : ∀ k : Nat, (k ≠ 0) → Ez16 k = E k := fun k hk => va_up_of hE15 (by omega) (g14 k hk)
    refine z_iload_n C dX5_setSpeed_28 rfl ?_
    exact hend _ _ _ _ dX5_setSpeed_29 (⟨by rw [hop], by rw [hop]; exact ⟨pm, ⟨f27, f17, f18, f19, f20, f21, f22, f23, hpm, hn6, (MsgY_mv hpm hMY (fun k hk => g28 k (by omega))), f24⟩, (MsgX_mv hpm hn6 hMX (fun k hk => g28 k (by omega))), hs.mv (g28 _ (by omega)) (g28 _ (by omega)) (g28 _ (by omega))⟩, fun k hk => g28 k (by omega)⟩)
  · have hop : o_setSpeed M x = (-11, M) := wr_n hx
    refine z_iload_n C dX5_setSpeed_0 rfl ?_
    refine z_iconst C (nI (1)) dX5_setSpeed_1 (by decide) ?_
    refine z_bipush C (nI (9)) dX5_setSpeed_2 (by decide) ?_
    refine z_callSF C (k_X5_isWithin vl D cI cM A ad E hX (x) (nI (1)) (nI (9))) (va_cwS 3 C.2.2.2.2.1 gX5_setSpeed_X5_isWithin rfl rfl rfl (by decide +kernel) ⟨Nat.le_of_ble_eq_true rfl, Nat.le_of_ble_eq_true rfl⟩) rfl rfl (Nat.le_of_ble_eq_true rfl) ⟨Nat.zero_le _, Nat.zero_le _⟩ dX5_setSpeed_4 ?_
    refine z_top (nI (0)) (iw_n hx) ?_
    refine z_if_neN C 13 (by omega) dX5_setSpeed_7 (by decide) (fun h7 => (by exfalso; omega)) (fun h7 => ?_)
    refine z_bipush C (-11) dX5_setSpeed_10 (by decide) ?_
    exact hend _ _ _ _ dX5_setSpeed_12 (⟨by rw [hop], by rw [hop]; exact hR, fun _ _ => rfl⟩)

theorem iw_X5_setBudget_5 : ∀ w ∈ wsX50, w ∈ wsX5_setBudget := by decide +kernel
theorem ln_X5_setBudget_54 : Cond.fieldLink RX5 54 "MarqueeDisplay" "budget" "I" ∈ wsX5_setBudget := by decide +kernel
set_option maxHeartbeats 4000000 in
set_option maxRecDepth 100000 in
theorem k_X5_setBudget (vl : Launch) (D : va_G) (cI cM : ClassId) (A : Nat → Prop) (ad : Nat → Nat) (E : Nat → va_E) (hX : XD A 40 ad) {M : St} (x : Int32) (hI : Inv M) (hR : RelX cI cM ad M E) : MI vl yX5_setBudget wsX5_setBudget { frames := 1, cells := 0, slots := 0, locals := 22 } D cI cM A 40 ad E [.ref (ad 0), .int (x)] (fun r E1 => r = (o_setBudget M x).1 ∧ RelX cI cM ad (o_setBudget M x).2 E1 ∧ ∀ k : Nat, 30 ≤ k → E1 k = E k) := by
  refine mi_of cX5_setBudget 3 (.int) RX5 (by decide) rfl rfl (Nat.le_of_ble_eq_true rfl) (fun r E1 h => rfl) ?_
  intro vp ve vs vm va vb vt vc Q C hend
  refine z_lv [(0, .ref (ad 0)), (1, .int (x))] ⟨rfl, rfl, rfl, rfl, trivial⟩ ?_
  obtain ⟨pm, hY, hMX, hs⟩ := id hR
  obtain ⟨e0, e1, e2, e3, b4, b5, l6, l7, hpm, hn6, hMY, e29⟩ := id hY
  obtain ⟨_, _, s26, -, -, -⟩ := id hs
  rw [strip_len] at s26
  obtain ⟨⟨iW1, iW2⟩, iG, ⟨iS1, iS2⟩, ⟨iB1, iB2⟩, iO, iC, iT, iN, iSh, iWd, iDt, iZ, iDf, iDz, iTx, iMs⟩ := id hI.1
  have hLM := hI.1.LM_le
  have hsl := hI.1.slen
  have hld : ∀ a, ldM M a ≤ 512 := fun a => Nat.le_trans (ldS_le _ _ _ _ _) (by omega)
  have hl4 := hld (M 0 4)
  rcases wr_c 1 999 x (by omega) (by omega) with ⟨v, hv1, rfl⟩ | hx
  · have hop : o_setBudget M (nI v) = (nI (M 0 3), s0 M 3 v) := wr_y hv1 (by decide)
    refine z_iload_n C dX5_setBudget_0 rfl ?_
    refine z_iconst C (nI (1)) dX5_setBudget_1 (by decide) ?_
    refine z_sipush C (nI (999)) dX5_setBudget_2 (by decide) ?_
    refine z_callSF C (k_X5_isWithin vl D cI cM A ad E hX (nI (v)) (nI (1)) (nI (999))) (va_cwS 3 C.2.2.2.2.1 gX5_setBudget_X5_isWithin rfl rfl rfl (by decide +kernel) ⟨Nat.le_of_ble_eq_true rfl, Nat.le_of_ble_eq_true rfl⟩) rfl rfl (Nat.le_of_ble_eq_true rfl) ⟨Nat.zero_le _, Nat.zero_le _⟩ dX5_setBudget_5 ?_
    refine z_top (nI (1)) (iw_yN hv1 (by omega)) ?_
    refine z_if_neN C 14 (by omega) dX5_setBudget_8 (by decide) (fun h8 => ?_) (fun h8 => (by exfalso; omega))
    refine z_aload_n C dX5_setBudget_14 rfl ?_
    refine z_get C (0) (Cn := RX5) (T := TX5) (N := 12) (fi := 9) iw_X5_setBudget_5 rfl (by decide) ln_X5_setBudget_54 (by first | decide | omega) rfl e0 rfl dX5_setBudget_15 ?_
    refine z_istore_n C [(0, .ref (ad 0)), (1, .int (nI (v))), (2, .int (nI (M 0 3)))] dX5_setBudget_18 (by decide) ⟨rfl, rfl, rfl, rfl, rfl, rfl, trivial⟩ ?_
    refine z_aload_n C dX5_setBudget_19 rfl ?_
    refine z_iload_n C dX5_setBudget_20 rfl ?_
    refine z_put C (0) (Cn := RX5) (T := TX5) (N := 12) (fi := 9) tyX5 iw_X5_setBudget_5 tyX5_ok nmX5 rfl (by decide) ln_X5_setBudget_54 hX (by first | decide | omega) rfl e0 rfl rfl rfl rfl (Nat.le_of_ble_eq_true rfl) dX5_setBudget_21 (fun Ez2 hE1 => ?_)
    have f4 : Ez2 (1) = .inr (0, [.ref (ad 2), .ref (ad 3)]) := va_up_of hE1 (by first | decide | omega) e1
    have f5 : Ez2 (2) = aI cI 27 (M 1) := va_up_of hE1 (by first | decide | omega) e2
    have f6 : Ez2 (3) = aI cI 162 (M 2) := va_up_of hE1 (by first | decide | omega) e3
    have f7 : Ez2 (4) = .inr (4, [.ref (ad 5), .int (nI (M 0 6))]) := va_up_of hE1 (by first | decide | omega) b4
    have f8 : Ez2 (5) = aI cI 12 (M 4) := va_up_of hE1 (by first | decide | omega) b5
    have f9 : Ez2 (6) = .inr (2, [.ref (ad 7), .int (nI (M 0 7))]) := va_up_of hE1 (by first | decide | omega) l6
    have f10 : Ez2 (7) = .inl (cM, 6, .inr (.inr (.inr (.inr (sf ad pm))))) := va_up_of hE1 (by first | decide | omega) l7
    have f11 : Ez2 (29) = aI cI 32 (M 3) := va_up_of hE1 (by first | decide | omega) e29
    have f12 : Ez2 (26) = .inr (3, [.ref (ad 27), .ref (ad 28), .int (nI (LM M))]) := va_up_of hE1 (by first | decide | omega) s26
    have f13 : Ez2 (0) = .inr (5, [.ref (ad 1), .ref (ad 4), .ref (ad 6), .ref (ad 26), .ref (ad 29), .int (nI (M 0 0)), .int (nI (M 0 1)), .int (nI (M 0 2)), .int (shI (M 0 8)), .int (nI (v)), .int (nI (M 0 4)), .int (nI (M 0 5))]) := va_up_eq hE1
    have g14 : ∀ k : Nat, (k ≠ 0) → Ez2 k = E k := fun k hk => va_up_of hE1 (by omega) ((fun _ _ => rfl) k hk)
    refine z_iload_n C dX5_setBudget_24 rfl ?_
    exact hend _ _ _ _ dX5_setBudget_25 (⟨by rw [hop], by rw [hop]; exact ⟨pm, ⟨f13, f4, f5, f6, f7, f8, f9, f10, hpm, hn6, (MsgY_mv hpm hMY (fun k hk => g14 k (by omega))), f11⟩, (MsgX_mv hpm hn6 hMX (fun k hk => g14 k (by omega))), hs.mv (g14 _ (by omega)) (g14 _ (by omega)) (g14 _ (by omega))⟩, fun k hk => g14 k (by omega)⟩)
  · have hop : o_setBudget M x = (-11, M) := wr_n hx
    refine z_iload_n C dX5_setBudget_0 rfl ?_
    refine z_iconst C (nI (1)) dX5_setBudget_1 (by decide) ?_
    refine z_sipush C (nI (999)) dX5_setBudget_2 (by decide) ?_
    refine z_callSF C (k_X5_isWithin vl D cI cM A ad E hX (x) (nI (1)) (nI (999))) (va_cwS 3 C.2.2.2.2.1 gX5_setBudget_X5_isWithin rfl rfl rfl (by decide +kernel) ⟨Nat.le_of_ble_eq_true rfl, Nat.le_of_ble_eq_true rfl⟩) rfl rfl (Nat.le_of_ble_eq_true rfl) ⟨Nat.zero_le _, Nat.zero_le _⟩ dX5_setBudget_5 ?_
    refine z_top (nI (0)) (iw_n hx) ?_
    refine z_if_neN C 14 (by omega) dX5_setBudget_8 (by decide) (fun h8 => (by exfalso; omega)) (fun h8 => ?_)
    refine z_bipush C (-11) dX5_setBudget_11 (by decide) ?_
    exact hend _ _ _ _ dX5_setBudget_13 (⟨by rw [hop], by rw [hop]; exact hR, fun _ _ => rfl⟩)

theorem iw_X5_setShift_5 : ∀ w ∈ wsX50, w ∈ wsX5_setShift := by decide +kernel
theorem ln_X5_setShift_51 : Cond.fieldLink RX5 51 "MarqueeDisplay" "shift" "I" ∈ wsX5_setShift := by decide +kernel
set_option maxHeartbeats 4000000 in
set_option maxRecDepth 100000 in
theorem k_X5_setShift (vl : Launch) (D : va_G) (cI cM : ClassId) (A : Nat → Prop) (ad : Nat → Nat) (E : Nat → va_E) (hX : XD A 40 ad) {M : St} (x : Int32) (hI : Inv M) (hR : RelX cI cM ad M E) : MI vl yX5_setShift wsX5_setShift { frames := 2, cells := 0, slots := 0, locals := 42 } D cI cM A 40 ad E [.ref (ad 0), .int (x)] (fun r E1 => r = (o_setShift M x).1 ∧ RelX cI cM ad (o_setShift M x).2 E1 ∧ ∀ k : Nat, 30 ≤ k → E1 k = E k) := by
  refine mi_of cX5_setShift 3 (.int) RX5 (by decide) rfl rfl (Nat.le_of_ble_eq_true rfl) (fun r E1 h => rfl) ?_
  intro vp ve vs vm va vb vt vc Q C hend
  refine z_lv [(0, .ref (ad 0)), (1, .int (x))] ⟨rfl, rfl, rfl, rfl, trivial⟩ ?_
  obtain ⟨pm, hY, hMX, hs⟩ := id hR
  obtain ⟨e0, e1, e2, e3, b4, b5, l6, l7, hpm, hn6, hMY, e29⟩ := id hY
  obtain ⟨_, _, s26, -, -, -⟩ := id hs
  rw [strip_len] at s26
  obtain ⟨⟨iW1, iW2⟩, iG, ⟨iS1, iS2⟩, ⟨iB1, iB2⟩, iO, iC, iT, iN, iSh, iWd, iDt, iZ, iDf, iDz, iTx, iMs⟩ := id hI.1
  have hLM := hI.1.LM_le
  have hsl := hI.1.slen
  have hld : ∀ a, ldM M a ≤ 512 := fun a => Nat.le_trans (ldS_le _ _ _ _ _) (by omega)
  have hl4 := hld (M 0 4)
  rcases ws_c x with ⟨t1, ht1, rfl⟩ | hx
  · have hop : o_setShift M (shI t1) = (shI (M 0 8), s0 M 8 t1) := ws_y ht1
    refine z_iload_n C dX5_setShift_0 rfl ?_
    refine z_callSF C (k_X5_isShift vl D cI cM A ad E hX (shI t1)) (va_cwS 1 C.2.2.2.2.1 gX5_setShift_X5_isShift rfl rfl rfl (by decide +kernel) ⟨Nat.le_of_ble_eq_true rfl, Nat.le_of_ble_eq_true rfl⟩) rfl rfl (Nat.le_of_ble_eq_true rfl) ⟨Nat.zero_le _, Nat.zero_le _⟩ dX5_setShift_1 ?_
    refine z_top (nI (1)) (iw_y (shI_in t1 (by omega)).1) ?_
    refine z_if_neN C 10 (by omega) dX5_setShift_4 (by decide) (fun h4 => ?_) (fun h4 => (by exfalso; omega))
    refine z_aload_n C dX5_setShift_10 rfl ?_
    refine z_get C (0) (Cn := RX5) (T := TX5) (N := 12) (fi := 8) iw_X5_setShift_5 rfl (by decide) ln_X5_setShift_51 (by first | decide | omega) rfl e0 rfl dX5_setShift_11 ?_
    refine z_istore_n C [(0, .ref (ad 0)), (1, .int (shI t1)), (2, .int (shI (M 0 8)))] dX5_setShift_14 (by decide) ⟨rfl, rfl, rfl, rfl, rfl, rfl, trivial⟩ ?_
    refine z_aload_n C dX5_setShift_15 rfl ?_
    refine z_iload_n C dX5_setShift_16 rfl ?_
    refine z_put C (0) (Cn := RX5) (T := TX5) (N := 12) (fi := 8) tyX5 iw_X5_setShift_5 tyX5_ok nmX5 rfl (by decide) ln_X5_setShift_51 hX (by first | decide | omega) rfl e0 rfl rfl rfl rfl (Nat.le_of_ble_eq_true rfl) dX5_setShift_17 (fun Ez2 hE1 => ?_)
    have f4 : Ez2 (1) = .inr (0, [.ref (ad 2), .ref (ad 3)]) := va_up_of hE1 (by first | decide | omega) e1
    have f5 : Ez2 (2) = aI cI 27 (M 1) := va_up_of hE1 (by first | decide | omega) e2
    have f6 : Ez2 (3) = aI cI 162 (M 2) := va_up_of hE1 (by first | decide | omega) e3
    have f7 : Ez2 (4) = .inr (4, [.ref (ad 5), .int (nI (M 0 6))]) := va_up_of hE1 (by first | decide | omega) b4
    have f8 : Ez2 (5) = aI cI 12 (M 4) := va_up_of hE1 (by first | decide | omega) b5
    have f9 : Ez2 (6) = .inr (2, [.ref (ad 7), .int (nI (M 0 7))]) := va_up_of hE1 (by first | decide | omega) l6
    have f10 : Ez2 (7) = .inl (cM, 6, .inr (.inr (.inr (.inr (sf ad pm))))) := va_up_of hE1 (by first | decide | omega) l7
    have f11 : Ez2 (29) = aI cI 32 (M 3) := va_up_of hE1 (by first | decide | omega) e29
    have f12 : Ez2 (26) = .inr (3, [.ref (ad 27), .ref (ad 28), .int (nI (LM M))]) := va_up_of hE1 (by first | decide | omega) s26
    have f13 : Ez2 (0) = .inr (5, [.ref (ad 1), .ref (ad 4), .ref (ad 6), .ref (ad 26), .ref (ad 29), .int (nI (M 0 0)), .int (nI (M 0 1)), .int (nI (M 0 2)), .int (shI t1), .int (nI (M 0 3)), .int (nI (M 0 4)), .int (nI (M 0 5))]) := va_up_eq hE1
    have g14 : ∀ k : Nat, (k ≠ 0) → Ez2 k = E k := fun k hk => va_up_of hE1 (by omega) ((fun _ _ => rfl) k hk)
    refine z_iload_n C dX5_setShift_20 rfl ?_
    exact hend _ _ _ _ dX5_setShift_21 (⟨by rw [hop], by rw [hop]; exact ⟨pm, ⟨f13, f4, f5, f6, f7, f8, f9, f10, hpm, hn6, (MsgY_mv hpm hMY (fun k hk => g14 k (by omega))), f11⟩, (MsgX_mv hpm hn6 hMX (fun k hk => g14 k (by omega))), hs.mv (g14 _ (by omega)) (g14 _ (by omega)) (g14 _ (by omega))⟩, fun k hk => g14 k (by omega)⟩)
  · have hop : o_setShift M x = (-11, M) := ws_n hx
    refine z_iload_n C dX5_setShift_0 rfl ?_
    refine z_callSF C (k_X5_isShift vl D cI cM A ad E hX (x)) (va_cwS 1 C.2.2.2.2.1 gX5_setShift_X5_isShift rfl rfl rfl (by decide +kernel) ⟨Nat.le_of_ble_eq_true rfl, Nat.le_of_ble_eq_true rfl⟩) rfl rfl (Nat.le_of_ble_eq_true rfl) ⟨Nat.zero_le _, Nat.zero_le _⟩ dX5_setShift_1 ?_
    refine z_top (nI (0)) (iw_n hx) ?_
    refine z_if_neN C 10 (by omega) dX5_setShift_4 (by decide) (fun h4 => (by exfalso; omega)) (fun h4 => ?_)
    refine z_bipush C (-11) dX5_setShift_7 (by decide) ?_
    exact hend _ _ _ _ dX5_setShift_9 (⟨by rw [hop], by rw [hop]; exact hR, fun _ _ => rfl⟩)
end
section
theorem inv0_w {M : St} (hI : Inv0 M) {c w : Nat} (hw : 1 ≤ w ∧ w ≤ 6) : Inv0 (va_up (va_up M 1 (va_up (M 1) c w)) 2 (clr (M 2) (c * 6 + w) (c * 6 + 6))) := by
  obtain ⟨h0, h1, h2, h3, h4, h5, h6, h7, h8, h9, h10, h11, h12⟩ := hI
  refine ⟨h0, h1, h2, h3, h4, h5, h6, h7, h8, ?_, ?_, ?_, h12⟩
  · intro d hd
    show 1 ≤ va_up (M 1) c w d ∧ va_up (M 1) c w d ≤ 6
    by_cases e : d = c
    · subst e; rw [va_up_self]; exact hw
    · rw [va_up_ne _ _ e]; exact h9 d hd
  · intro i hi
    show (if c * 6 + w ≤ i ∧ i < c * 6 + 6 then 0 else M 2 i) < 256
    split
    · decide
    · exact h10 i hi
  · intro d hd j hj hwj
    show (if c * 6 + w ≤ d * 6 + j ∧ d * 6 + j < c * 6 + 6 then 0 else M 2 (d * 6 + j)) = 0
    have hwj : va_up (M 1) c w d ≤ j := hwj
    by_cases e : d = c
    · subst e
      rw [va_up_self] at hwj
      rw [if_pos (by omega)]
    · rw [va_up_ne _ _ e] at hwj
      rw [h11 d hd j hj hwj]
      split <;> rfl
theorem inv0_c {M : St} (hI : Inv0 M) {c j b : Nat} (hc : c < 27) (hj : j < M 1 c) (hb : b ≤ 255) : Inv0 (va_up M 2 (va_up (M 2) (c * 6 + j) b)) := by
  obtain ⟨h0, h1, h2, h3, h4, h5, h6, h7, h8, h9, h10, h11, h12⟩ := hI
  have hwc := h9 c hc
  refine ⟨h0, h1, h2, h3, h4, h5, h6, h7, h8, h9, ?_, ?_, h12⟩
  · intro i hi
    show va_up (M 2) (c * 6 + j) b i < 256
    by_cases e : i = c * 6 + j
    · rw [e, va_up_self]; omega
    · rw [va_up_ne _ _ e]; exact h10 i hi
  · intro d hd i hi hwi
    show va_up (M 2) (c * 6 + j) b (d * 6 + i) = 0
    have hwi : M 1 d ≤ i := hwi
    have e : d * 6 + i ≠ c * 6 + j := by
      intro q
      have e1 : d = c := by omega
      subst e1
      omega
    rw [va_up_ne _ _ e]
    exact h11 d hd i hi hwi
theorem inv0_g {M : St} (hI : Inv0 M) {g : Nat} (hg : g ≤ 9) : Inv0 (s0 M 1 g) := ⟨hI.1, hg, hI.2.2⟩
theorem inv0_col {M : St} (hI : Inv0 M) {j col : Nat} (hc : 1 ≤ col ∧ col ≤ 3) : Inv0 (va_up M 6 (va_up (M 6) j col)) := by
  obtain ⟨h0, h1, h2, h3, h4, h5, h6, h7, h8, h9, h10, h11, h12, h13, h14, h15⟩ := hI
  refine ⟨h0, h1, h2, h3, h4, h5, h6, h7, h8, h9, h10, h11, h12, h13, h14, fun i hi => ⟨(h15 i hi).1, ?_, (h15 i hi).2.2⟩⟩
  show 1 ≤ va_up (M 6) j col i ∧ va_up (M 6) j col i ≤ 3
  by_cases e : i = j
  · subst e; rw [va_up_self]; exact hc
  · rw [va_up_ne _ _ e]; exact (h15 i hi).2.1
theorem insF_lt {f : Nat → Nat} {j v i : Nat} (h : i < j) : insF f j v i = f i := by unfold insF; rw [if_pos h]
theorem insF_eq {f : Nat → Nat} {j v : Nat} : insF f j v j = v := by unfold insF; rw [if_neg (by omega), if_pos rfl]
theorem insF_gt {f : Nat → Nat} {j v i : Nat} (h : j < i) : insF f j v i = f (i - 1) := by unfold insF; rw [if_neg (by omega), if_neg (by omega)]
theorem insL_lt {f g : Nat → Nat} {j i q : Nat} (h : i < j) (hq : q < 12) : ltr (insL f g j) i q = ltr f i q := by
  unfold ltr insL; rw [if_pos (by omega)]
theorem insL_eq {f g : Nat → Nat} {j q : Nat} (hq : q < 12) : ltr (insL f g j) j q = g q := by
  unfold ltr insL; rw [if_neg (by omega), if_pos (by omega), show (12 * j + q) % 12 = q by omega]
theorem insL_gt {f g : Nat → Nat} {j i q : Nat} (h : j < i) (hq : q < 12) : ltr (insL f g j) i q = ltr f (i - 1) q := by
  unfold ltr insL; rw [if_neg (by omega), if_neg (by omega), show 12 * i + q - 12 = 12 * (i - 1) + q by omega]
theorem inv0_ins {M : St} (hI : Inv0 M) {j col : Nat} (hj : j ≤ M 0 7) (hc : 1 ≤ col ∧ col ≤ 3) (ht : ¬ M 0 6 = 0) (hn : M 0 7 < 6) : Inv0 (insM M j col) := by
  obtain ⟨h0, h1, h2, h3, h4, h5, h6, h7, h8, h9, h10, h11, h12, h13, h14, h15⟩ := hI
  refine ⟨h0, h1, h2, h3, h4, h5, h6, hn, h8, h9, h10, h11, h12, h13, h14, fun i hi => ?_⟩
  have hi : i < M 0 7 + 1 := hi
  show (1 ≤ insF (M 5) j (M 0 6) i ∧ insF (M 5) j (M 0 6) i ≤ 12) ∧ (1 ≤ insF (M 6) j col i ∧ insF (M 6) j col i ≤ 3) ∧ ∀ k, k < insF (M 5) j (M 0 6) i → ltr (insL (M 7) (M 4) j) i k < 27
  rcases Nat.lt_trichotomy i j with e | e | e
  · rw [insF_lt e, insF_lt e]
    have h := h15 i (by omega)
    exact ⟨h.1, h.2.1, fun k hk => by rw [insL_lt e (by omega)]; exact h.2.2 k hk⟩
  · subst e
    rw [insF_eq, insF_eq]
    exact ⟨by omega, hc, fun k hk => by rw [insL_eq (by omega)]; exact h14 k hk⟩
  · rw [insF_gt e, insF_gt e]
    have h := h15 (i - 1) (by omega)
    exact ⟨h.1, h.2.1, fun k hk => by rw [insL_gt e (by omega)]; exact h.2.2 k hk⟩
theorem delL_lt {f : Nat → Nat} {j i q : Nat} (h : i < j) (hq : q < 12) : ltr (delL f j) i q = ltr f i q := by
  unfold ltr delL; rw [if_pos (by omega)]
theorem delL_ge {f : Nat → Nat} {j i q : Nat} (h : j ≤ i) : ltr (delL f j) i q = ltr f (i + 1) q := by
  unfold ltr delL; rw [if_neg (by omega), show 12 * i + q + 12 = 12 * (i + 1) + q by omega]
theorem delF_lt {f : Nat → Nat} {j i : Nat} (h : i < j) : delF f j i = f i := by unfold delF; rw [if_pos h]
theorem delF_ge {f : Nat → Nat} {j i : Nat} (h : j ≤ i) : delF f j i = f (i + 1) := by unfold delF; rw [if_neg (by omega)]
theorem inv0_del {M : St} (hI : Inv0 M) {j : Nat} (hj : j < M 0 7) : Inv0 (delM M j) := by
  obtain ⟨h0, h1, h2, h3, h4, h5, h6, h7, h8, h9, h10, h11, h12, h13, h14, h15⟩ := hI
  refine ⟨h0, h1, h2, h3, h4, h5, h6, by show M 0 7 - 1 ≤ 6; omega, h8, h9, h10, h11, h12, h13, h14, fun i hi => ?_⟩
  have hi : i < M 0 7 - 1 := hi
  show (1 ≤ delF (M 5) j i ∧ delF (M 5) j i ≤ 12) ∧ (1 ≤ delF (M 6) j i ∧ delF (M 6) j i ≤ 3) ∧ ∀ k, k < delF (M 5) j i → ltr (delL (M 7) j) i k < 27
  rcases Nat.lt_or_ge i j with e | e
  · rw [delF_lt e, delF_lt e]
    have h := h15 i (by omega)
    exact ⟨h.1, h.2.1, fun k hk => by rw [delL_lt e (by omega)]; exact h.2.2 k hk⟩
  · rw [delF_ge e, delF_ge e]
    have h := h15 (i + 1) (by omega)
    exact ⟨h.1, h.2.1, fun k hk => by rw [delL_ge e]; exact h.2.2 k hk⟩
theorem pow_xor : ∀ n, n < 256 → ∀ r, r < 8 → n ^^^ 2 ^ r < 256 := by decide +kernel
theorem inv0_flip {M : St} (hI : Inv0 M) {r c : Nat} (hr : r ≤ 7) (hc : c < M 0 0) : Inv0 (flipD M r c) := by
  obtain ⟨h0, h1, h2, h3, h4, h5, h6, h7, h8, h9, h10, h11, h12, h13, h14⟩ := hI
  refine ⟨h0, h1, h2, h3, h4, h5, h6, h7, h8, h9, h10, h11, ?_, ?_, h14⟩
  · intro x hx
    show va_up (M 3) c (M 3 c ^^^ 2 ^ r) x < 256
    by_cases e : x = c
    · subst e; rw [va_up_self]; exact pow_xor _ (h12 x hx) r (by omega)
    · rw [va_up_ne _ _ e]; exact h12 x hx
  · intro x hx hw
    show va_up (M 3) c (M 3 c ^^^ 2 ^ r) x = 0
    have hw : M 0 0 ≤ x := hw
    rw [va_up_ne _ _ (by omega)]
    exact h13 x hx hw
theorem iw_X5_setGlyphWidth_5 : ∀ w ∈ wsX50, w ∈ wsX5_setGlyphWidth := by decide +kernel
theorem ln_X5_setGlyphWidth_12 : Cond.fieldLink RX5 12 "MarqueeDisplay" "font" "LMarqueeDisplay$Font;" ∈ wsX5_setGlyphWidth := by decide +kernel
set_option maxHeartbeats 4000000 in
set_option maxRecDepth 100000 in
theorem k_X5_setGlyphWidth (vl : Launch) (D : va_G) (cI cM : ClassId) (A : Nat → Prop) (ad : Nat → Nat) (E : Nat → va_E) (hX : XD A 40 ad) {M : St} (x y : Int32) (hI : Inv M) (hR : RelX cI cM ad M E) : MI vl yX5_setGlyphWidth wsX5_setGlyphWidth { frames := 5, cells := 0, slots := 0, locals := 114 } D cI cM A 40 ad E [.ref (ad 0), .int (x), .int (y)] (fun r E1 => r = (o_setGlyphWidth M x y).1 ∧ RelX cI cM ad (o_setGlyphWidth M x y).2 E1 ∧ ∀ k : Nat, 30 ≤ k → E1 k = E k) := by
  refine mi_of cX5_setGlyphWidth 4 (.int) RX5 (by decide) rfl rfl (Nat.le_of_ble_eq_true rfl) (fun r E1 h => rfl) ?_
  intro vp ve vs vm va vb vt vc Q C hend
  refine z_lv [(0, .ref (ad 0)), (1, .int (x)), (2, .int (y))] ⟨rfl, rfl, rfl, rfl, rfl, rfl, trivial⟩ ?_
  obtain ⟨pm, hY, hMX, hs⟩ := id hR
  obtain ⟨e0, e1, e2, e3, b4, b5, l6, l7, hpm, hn6, hMY, e29⟩ := id hY
  obtain ⟨_, _, s26, -, -, -⟩ := id hs
  rw [strip_len] at s26
  obtain ⟨⟨iW1, iW2⟩, iG, ⟨iS1, iS2⟩, ⟨iB1, iB2⟩, iO, iC, iT, iN, iSh, iWd, iDt, iZ, iDf, iDz, iTx, iMs⟩ := id hI.1
  have hLM := hI.1.LM_le
  have hsl := hI.1.slen
  have hld : ∀ a, ldM M a ≤ 512 := fun a => Nat.le_trans (ldS_le _ _ _ _ _) (by omega)
  have hl4 := hld (M 0 4)
  rcases wr_c 0 26 x (by omega) (by omega) with ⟨c, hc, rfl⟩ | hx
  · rcases wr_c 1 6 y (by omega) (by omega) with ⟨w, hw, rfl⟩ | hy
    · have hop : o_setGlyphWidth M (nI c) (nI w) = (nI (M 1 c), settle (va_up (va_up M 1 (va_up (M 1) c w)) 2 (clr (M 2) (c * 6 + w) (c * 6 + 6)))) := (wr_y hc (by decide)).trans (wr_y hw (by decide))
      have hwc := iWd c (by omega)
      refine z_iload_n C dX5_setGlyphWidth_0 rfl ?_
      refine z_callSF C (k_X5_isCharacter vl D cI cM A ad E hX (nI (c))) (va_cwS 1 C.2.2.2.2.1 gX5_setGlyphWidth_X5_isCharacter rfl rfl rfl (by decide +kernel) ⟨Nat.le_of_ble_eq_true rfl, Nat.le_of_ble_eq_true rfl⟩) rfl rfl (Nat.le_of_ble_eq_true rfl) ⟨Nat.zero_le _, Nat.zero_le _⟩ dX5_setGlyphWidth_1 ?_
      refine z_top (nI (1)) (iw_yN hc (by omega)) ?_
      refine z_if_eqN C 17 (by omega) dX5_setGlyphWidth_4 (by decide) (fun h4 => (by exfalso; omega)) (fun h4 => ?_)
      refine z_iload_n C dX5_setGlyphWidth_7 rfl ?_
      refine z_iconst C (nI (1)) dX5_setGlyphWidth_8 (by decide) ?_
      refine z_bipush C (nI (6)) dX5_setGlyphWidth_9 (by decide) ?_
      refine z_callSF C (k_X5_isWithin vl D cI cM A ad E hX (nI (w)) (nI (1)) (nI (6))) (va_cwS 3 C.2.2.2.2.1 gX5_setGlyphWidth_X5_isWithin rfl rfl rfl (by decide +kernel) ⟨Nat.le_of_ble_eq_true rfl, Nat.le_of_ble_eq_true rfl⟩) rfl rfl (Nat.le_of_ble_eq_true rfl) ⟨Nat.zero_le _, Nat.zero_le _⟩ dX5_setGlyphWidth_11 ?_
      refine z_top (nI (1)) (iw_yN hw (by omega)) ?_
      refine z_if_neN C 20 (by omega) dX5_setGlyphWidth_14 (by decide) (fun h14 => ?_) (fun h14 => (by exfalso; omega))
      refine z_aload_n C dX5_setGlyphWidth_20 rfl ?_
      refine z_get C (0) (Cn := RX5) (T := TX5) (N := 12) (fi := 0) iw_X5_setGlyphWidth_5 rfl (by decide) ln_X5_setGlyphWidth_12 (by first | decide | omega) rfl e0 rfl dX5_setGlyphWidth_21 ?_
      refine z_iload_n C dX5_setGlyphWidth_24 rfl ?_
      refine z_callVF C (1) (Cn := RX0) (T := TX0) (N := 2) (k_X0_widthOf vl D cI cM A ad E hX e1 e2 (by omega)) (cwV 1 C.2.2.2.2.1 gX5_setGlyphWidth_X0_widthOf rfl rfl rfl (by decide +kernel) ⟨Nat.le_of_ble_eq_true rfl, Nat.le_of_ble_eq_true rfl⟩) rfl (by first | decide | omega) rfl e1 rfl rfl (Nat.le_of_ble_eq_true rfl) ⟨Nat.zero_le _, Nat.zero_le _⟩ dX5_setGlyphWidth_25 ?_
      refine z_istore_n C [(0, .ref (ad 0)), (1, .int (nI (c))), (2, .int (nI (w))), (3, .int (nI (M 1 c)))] dX5_setGlyphWidth_28 (by decide) ⟨rfl, rfl, rfl, rfl, rfl, rfl, rfl, rfl, trivial⟩ ?_
      refine z_aload_n C dX5_setGlyphWidth_29 rfl ?_
      refine z_get C (0) (Cn := RX5) (T := TX5) (N := 12) (fi := 0) iw_X5_setGlyphWidth_5 rfl (by decide) ln_X5_setGlyphWidth_12 (by first | decide | omega) rfl e0 rfl dX5_setGlyphWidth_30 ?_
      refine z_iload_n C dX5_setGlyphWidth_33 rfl ?_
      refine z_iload_n C dX5_setGlyphWidth_34 rfl ?_
      refine z_callVV C (1) (Cn := RX0) (T := TX0) (N := 2) (k_X0_resize vl D cI cM A ad E hX e1 e2 e3 (by omega) hw) (cwV 2 C.2.2.2.2.1 gX5_setGlyphWidth_X0_resize rfl rfl rfl (by decide +kernel) ⟨Nat.le_of_ble_eq_true rfl, Nat.le_of_ble_eq_true rfl⟩) rfl (by first | decide | omega) rfl e1 rfl rfl (Nat.le_of_ble_eq_true rfl) ⟨Nat.zero_le _, Nat.zero_le _⟩ dX5_setGlyphWidth_35 (fun Ez1 hp2 => ?_)
      obtain ⟨v3, v4, hg5⟩ := hp2
      have f6 : Ez1 (0) = .inr (5, [.ref (ad 1), .ref (ad 4), .ref (ad 6), .ref (ad 26), .ref (ad 29), .int (nI (M 0 0)), .int (nI (M 0 1)), .int (nI (M 0 2)), .int (shI (M 0 8)), .int (nI (M 0 3)), .int (nI (M 0 4)), .int (nI (M 0 5))]) := (hg5 (0) (by omega)).trans e0
      have f7 : Ez1 (1) = .inr (0, [.ref (ad 2), .ref (ad 3)]) := (hg5 (1) (by omega)).trans e1
      have f8 : Ez1 (4) = .inr (4, [.ref (ad 5), .int (nI (M 0 6))]) := (hg5 (4) (by omega)).trans b4
      have f9 : Ez1 (5) = aI cI 12 (M 4) := (hg5 (5) (by omega)).trans b5
      have f10 : Ez1 (6) = .inr (2, [.ref (ad 7), .int (nI (M 0 7))]) := (hg5 (6) (by omega)).trans l6
      have f11 : Ez1 (7) = .inl (cM, 6, .inr (.inr (.inr (.inr (sf ad pm))))) := (hg5 (7) (by omega)).trans l7
      have f12 : Ez1 (29) = aI cI 32 (M 3) := (hg5 (29) (by omega)).trans e29
      have f13 : Ez1 (26) = .inr (3, [.ref (ad 27), .ref (ad 28), .int (nI (LM M))]) := (hg5 (26) (by omega)).trans s26
      have g14 : ∀ k : Nat, (k ≠ 2 ∧ k ≠ 3) → Ez1 k = E k := fun k hk => (hg5 k (by omega)).trans ((fun _ _ => rfl) k hk)
      refine z_aload_n C dX5_setGlyphWidth_38 rfl ?_
      have hY2 : RelY cI cM ad (va_up (va_up M 1 (va_up (M 1) c w)) 2 (clr (M 2) (c * 6 + w) (c * 6 + 6))) (pm) Ez1 := ⟨f6, f7, v3, v4, f8, f9, f10, f11, hpm, hn6, (MsgY_mv hpm hMY (fun k hk => g14 k (by omega))), f12⟩
      have hs2 : StripAt cI ad Ez1 (stripM M) := hs.mv (g14 _ (by omega)) (g14 _ (by omega)) (g14 _ (by omega))
      have hI2 : Inv0 (va_up (va_up M 1 (va_up (M 1) c w)) 2 (clr (M 2) (c * 6 + w) (c * 6 + 6))) := inv0_w hI.1 hw
      refine z_callVV C (0) (Cn := RX5) (T := TX5) (N := 12) (k_lay vl D cI cM A ad Ez1 hX hY2 hI2 hs2) (cwV 0 C.2.2.2.2.1 gX5_setGlyphWidth_X5_layOutStrip rfl rfl rfl (by decide +kernel) ⟨Nat.le_of_ble_eq_true rfl, Nat.le_of_ble_eq_true rfl⟩) rfl (by first | decide | omega) rfl f6 rfl rfl (Nat.le_of_ble_eq_true rfl) ⟨Nat.zero_le _, Nat.zero_le _⟩ dX5_setGlyphWidth_39 (fun Ez15 hp16 => ?_)
      obtain ⟨hR3, hf3⟩ := hp16
      have hf4 : ∀ k : Nat, 30 ≤ k → Ez15 k = E k := fun k hk => (hf3 k hk).trans (g14 k (by omega))
      obtain ⟨pm3, ⟨g0, -, -, -, -, -, -, -, -⟩, -, hs3⟩ := id hR3
      obtain ⟨_, _, t26, -, -, -⟩ := id hs3
      rw [strip_len] at t26
      refine z_iload_n C dX5_setGlyphWidth_42 rfl ?_
      exact hend _ _ _ _ dX5_setGlyphWidth_43 (⟨by rw [hop], by rw [hop]; exact hR3, hf4⟩)
    · have hop : o_setGlyphWidth M (nI c) y = (-11, M) := (wr_y hc (by decide)).trans (wr_n hy)
      refine z_iload_n C dX5_setGlyphWidth_0 rfl ?_
      refine z_callSF C (k_X5_isCharacter vl D cI cM A ad E hX (nI (c))) (va_cwS 1 C.2.2.2.2.1 gX5_setGlyphWidth_X5_isCharacter rfl rfl rfl (by decide +kernel) ⟨Nat.le_of_ble_eq_true rfl, Nat.le_of_ble_eq_true rfl⟩) rfl rfl (Nat.le_of_ble_eq_true rfl) ⟨Nat.zero_le _, Nat.zero_le _⟩ dX5_setGlyphWidth_1 ?_
      refine z_top (nI (1)) (iw_yN hc (by omega)) ?_
      refine z_if_eqN C 17 (by omega) dX5_setGlyphWidth_4 (by decide) (fun h4 => (by exfalso; omega)) (fun h4 => ?_)
      refine z_iload_n C dX5_setGlyphWidth_7 rfl ?_
      refine z_iconst C (nI (1)) dX5_setGlyphWidth_8 (by decide) ?_
      refine z_bipush C (nI (6)) dX5_setGlyphWidth_9 (by decide) ?_
      refine z_callSF C (k_X5_isWithin vl D cI cM A ad E hX (y) (nI (1)) (nI (6))) (va_cwS 3 C.2.2.2.2.1 gX5_setGlyphWidth_X5_isWithin rfl rfl rfl (by decide +kernel) ⟨Nat.le_of_ble_eq_true rfl, Nat.le_of_ble_eq_true rfl⟩) rfl rfl (Nat.le_of_ble_eq_true rfl) ⟨Nat.zero_le _, Nat.zero_le _⟩ dX5_setGlyphWidth_11 ?_
      refine z_top (nI (0)) (iw_n hy) ?_
      refine z_if_neN C 20 (by omega) dX5_setGlyphWidth_14 (by decide) (fun h14 => (by exfalso; omega)) (fun h14 => ?_)
      refine z_bipush C (-11) dX5_setGlyphWidth_17 (by decide) ?_
      exact hend _ _ _ _ dX5_setGlyphWidth_19 (⟨by rw [hop], by rw [hop]; exact hR, fun _ _ => rfl⟩)
  · have hop : o_setGlyphWidth M x y = (-11, M) := wr_n hx
    refine z_iload_n C dX5_setGlyphWidth_0 rfl ?_
    refine z_callSF C (k_X5_isCharacter vl D cI cM A ad E hX (x)) (va_cwS 1 C.2.2.2.2.1 gX5_setGlyphWidth_X5_isCharacter rfl rfl rfl (by decide +kernel) ⟨Nat.le_of_ble_eq_true rfl, Nat.le_of_ble_eq_true rfl⟩) rfl rfl (Nat.le_of_ble_eq_true rfl) ⟨Nat.zero_le _, Nat.zero_le _⟩ dX5_setGlyphWidth_1 ?_
    refine z_top (nI (0)) (iw_n hx) ?_
    refine z_if_eqN C 17 (by omega) dX5_setGlyphWidth_4 (by decide) (fun h4 => ?_) (fun h4 => (by exfalso; omega))
    refine z_bipush C (-11) dX5_setGlyphWidth_17 (by decide) ?_
    exact hend _ _ _ _ dX5_setGlyphWidth_19 (⟨by rw [hop], by rw [hop]; exact hR, fun _ _ => rfl⟩)

theorem iw_X5_setGlyphColumn_5 : ∀ w ∈ wsX50, w ∈ wsX5_setGlyphColumn := by decide +kernel
theorem ln_X5_setGlyphColumn_12 : Cond.fieldLink RX5 12 "MarqueeDisplay" "font" "LMarqueeDisplay$Font;" ∈ wsX5_setGlyphColumn := by decide +kernel
set_option maxHeartbeats 4000000 in
set_option maxRecDepth 100000 in
theorem k_X5_setGlyphColumn (vl : Launch) (D : va_G) (cI cM : ClassId) (A : Nat → Prop) (ad : Nat → Nat) (E : Nat → va_E) (hX : XD A 40 ad) {M : St} (x y z : Int32) (hI : Inv M) (hR : RelX cI cM ad M E) : MI vl yX5_setGlyphColumn wsX5_setGlyphColumn { frames := 5, cells := 0, slots := 0, locals := 114 } D cI cM A 40 ad E [.ref (ad 0), .int (x), .int (y), .int (z)] (fun r E1 => r = (o_setGlyphColumn M x y z).1 ∧ RelX cI cM ad (o_setGlyphColumn M x y z).2 E1 ∧ ∀ k : Nat, 30 ≤ k → E1 k = E k) := by
  refine mi_of cX5_setGlyphColumn 5 (.int) RX5 (by decide) rfl rfl (Nat.le_of_ble_eq_true rfl) (fun r E1 h => rfl) ?_
  intro vp ve vs vm va vb vt vc Q C hend
  refine z_lv [(0, .ref (ad 0)), (1, .int (x)), (2, .int (y)), (3, .int (z))] ⟨rfl, rfl, rfl, rfl, rfl, rfl, rfl, rfl, trivial⟩ ?_
  obtain ⟨pm, hY, hMX, hs⟩ := id hR
  obtain ⟨e0, e1, e2, e3, b4, b5, l6, l7, hpm, hn6, hMY, e29⟩ := id hY
  obtain ⟨_, _, s26, -, -, -⟩ := id hs
  rw [strip_len] at s26
  obtain ⟨⟨iW1, iW2⟩, iG, ⟨iS1, iS2⟩, ⟨iB1, iB2⟩, iO, iC, iT, iN, iSh, iWd, iDt, iZ, iDf, iDz, iTx, iMs⟩ := id hI.1
  have hLM := hI.1.LM_le
  have hsl := hI.1.slen
  have hld : ∀ a, ldM M a ≤ 512 := fun a => Nat.le_trans (ldS_le _ _ _ _ _) (by omega)
  have hl4 := hld (M 0 4)
  rcases wr_c 0 26 x (by omega) (by omega) with ⟨c, hc, rfl⟩ | hx
  · rcases wr_c 0 255 z (by omega) (by omega) with ⟨b, hb, rfl⟩ | hz
    · have hwc := iWd c (by omega)
      rcases wr_c 0 (M 1 c - 1) y (by omega) (by omega) with ⟨j, hj, rfl⟩ | hy
      · have hop : o_setGlyphColumn M (nI c) (nI j) (nI b) = (nI (M 2 (c * 6 + j)), settle (va_up M 2 (va_up (M 2) (c * 6 + j) b))) := (wr_y hc (by decide)).trans ((wr_y hb (by decide)).trans (wr_y hj (by omega)))
        refine z_iload_n C dX5_setGlyphColumn_0 rfl ?_
        refine z_callSF C (k_X5_isCharacter vl D cI cM A ad E hX (nI (c))) (va_cwS 1 C.2.2.2.2.1 gX5_setGlyphColumn_X5_isCharacter rfl rfl rfl (by decide +kernel) ⟨Nat.le_of_ble_eq_true rfl, Nat.le_of_ble_eq_true rfl⟩) rfl rfl (Nat.le_of_ble_eq_true rfl) ⟨Nat.zero_le _, Nat.zero_le _⟩ dX5_setGlyphColumn_1 ?_
        refine z_top (nI (1)) (iw_yN hc (by omega)) ?_
        refine z_if_eqN C 30 (by omega) dX5_setGlyphColumn_4 (by decide) (fun h4 => (by exfalso; omega)) (fun h4 => ?_)
        refine z_iload_n C dX5_setGlyphColumn_7 rfl ?_
        refine z_iconst C (nI (0)) dX5_setGlyphColumn_8 (by decide) ?_
        refine z_sipush C (nI (255)) dX5_setGlyphColumn_9 (by decide) ?_
        refine z_callSF C (k_X5_isWithin vl D cI cM A ad E hX (nI (b)) (nI (0)) (nI (255))) (va_cwS 3 C.2.2.2.2.1 gX5_setGlyphColumn_X5_isWithin rfl rfl rfl (by decide +kernel) ⟨Nat.le_of_ble_eq_true rfl, Nat.le_of_ble_eq_true rfl⟩) rfl rfl (Nat.le_of_ble_eq_true rfl) ⟨Nat.zero_le _, Nat.zero_le _⟩ dX5_setGlyphColumn_12 ?_
        refine z_top (nI (1)) (iw_yN hb (by omega)) ?_
        refine z_if_eqN C 30 (by omega) dX5_setGlyphColumn_15 (by decide) (fun h15 => (by exfalso; omega)) (fun h15 => ?_)
        refine z_aload_n C dX5_setGlyphColumn_18 rfl ?_
        refine z_get C (0) (Cn := RX5) (T := TX5) (N := 12) (fi := 0) iw_X5_setGlyphColumn_5 rfl (by decide) ln_X5_setGlyphColumn_12 (by first | decide | omega) rfl e0 rfl dX5_setGlyphColumn_19 ?_
        refine z_iload_n C dX5_setGlyphColumn_22 rfl ?_
        refine z_iload_n C dX5_setGlyphColumn_23 rfl ?_
        refine z_callVF C (1) (Cn := RX0) (T := TX0) (N := 2) (k_X0_hasColumn vl D cI cM A ad E hX (nI j) e1 e2 (by omega) hwc.1) (cwV 2 C.2.2.2.2.1 gX5_setGlyphColumn_X0_hasColumn rfl rfl rfl (by decide +kernel) ⟨Nat.le_of_ble_eq_true rfl, Nat.le_of_ble_eq_true rfl⟩) rfl (by first | decide | omega) rfl e1 rfl rfl (Nat.le_of_ble_eq_true rfl) ⟨Nat.zero_le _, Nat.zero_le _⟩ dX5_setGlyphColumn_24 ?_
        refine z_top (nI (1)) (iw_yN hj (by omega)) ?_
        refine z_if_neN C 33 (by omega) dX5_setGlyphColumn_27 (by decide) (fun h27 => ?_) (fun h27 => (by exfalso; omega))
        refine z_aload_n C dX5_setGlyphColumn_33 rfl ?_
        refine z_get C (0) (Cn := RX5) (T := TX5) (N := 12) (fi := 0) iw_X5_setGlyphColumn_5 rfl (by decide) ln_X5_setGlyphColumn_12 (by first | decide | omega) rfl e0 rfl dX5_setGlyphColumn_34 ?_
        refine z_iload_n C dX5_setGlyphColumn_37 rfl ?_
        refine z_iload_n C dX5_setGlyphColumn_38 rfl ?_
        refine z_callVF C (1) (Cn := RX0) (T := TX0) (N := 2) (k_X0_dotsOf vl D cI cM A ad E hX e1 e3 (by omega) (by omega)) (cwV 2 C.2.2.2.2.1 gX5_setGlyphColumn_X0_dotsOf rfl rfl rfl (by decide +kernel) ⟨Nat.le_of_ble_eq_true rfl, Nat.le_of_ble_eq_true rfl⟩) rfl (by first | decide | omega) rfl e1 rfl rfl (Nat.le_of_ble_eq_true rfl) ⟨Nat.zero_le _, Nat.zero_le _⟩ dX5_setGlyphColumn_39 ?_
        refine z_istore C [(0, .ref (ad 0)), (1, .int (nI (c))), (2, .int (nI (j))), (3, .int (nI (b))), (4, .int (nI (M 2 (c * 6 + j))))] dX5_setGlyphColumn_42 (by decide) ⟨rfl, rfl, rfl, rfl, rfl, rfl, rfl, rfl, rfl, rfl, trivial⟩ ?_
        refine z_aload_n C dX5_setGlyphColumn_44 rfl ?_
        refine z_get C (0) (Cn := RX5) (T := TX5) (N := 12) (fi := 0) iw_X5_setGlyphColumn_5 rfl (by decide) ln_X5_setGlyphColumn_12 (by first | decide | omega) rfl e0 rfl dX5_setGlyphColumn_45 ?_
        refine z_iload_n C dX5_setGlyphColumn_48 rfl ?_
        refine z_iload_n C dX5_setGlyphColumn_49 rfl ?_
        refine z_iload_n C dX5_setGlyphColumn_50 rfl ?_
        refine z_callVV C (1) (Cn := RX0) (T := TX0) (N := 2) (k_X0_draw vl D cI cM A ad E hX e1 e2 e3 (by omega) (by omega) hwc.2) (cwV 3 C.2.2.2.2.1 gX5_setGlyphColumn_X0_draw rfl rfl rfl (by decide +kernel) ⟨Nat.le_of_ble_eq_true rfl, Nat.le_of_ble_eq_true rfl⟩) rfl (by first | decide | omega) rfl e1 rfl rfl (Nat.le_of_ble_eq_true rfl) ⟨Nat.zero_le _, Nat.zero_le _⟩ dX5_setGlyphColumn_51 (fun Ez1 hp2 => ?_)
        obtain ⟨v3, hg4⟩ := hp2
        have f5 : Ez1 (0) = .inr (5, [.ref (ad 1), .ref (ad 4), .ref (ad 6), .ref (ad 26), .ref (ad 29), .int (nI (M 0 0)), .int (nI (M 0 1)), .int (nI (M 0 2)), .int (shI (M 0 8)), .int (nI (M 0 3)), .int (nI (M 0 4)), .int (nI (M 0 5))]) := (hg4 (0) (by omega)).trans e0
        have f6 : Ez1 (1) = .inr (0, [.ref (ad 2), .ref (ad 3)]) := (hg4 (1) (by omega)).trans e1
        have f7 : Ez1 (2) = aI cI 27 (M 1) := (hg4 (2) (by omega)).trans e2
        have f8 : Ez1 (4) = .inr (4, [.ref (ad 5), .int (nI (M 0 6))]) := (hg4 (4) (by omega)).trans b4
        have f9 : Ez1 (5) = aI cI 12 (M 4) := (hg4 (5) (by omega)).trans b5
        have f10 : Ez1 (6) = .inr (2, [.ref (ad 7), .int (nI (M 0 7))]) := (hg4 (6) (by omega)).trans l6
        have f11 : Ez1 (7) = .inl (cM, 6, .inr (.inr (.inr (.inr (sf ad pm))))) := (hg4 (7) (by omega)).trans l7
        have f12 : Ez1 (29) = aI cI 32 (M 3) := (hg4 (29) (by omega)).trans e29
        have f13 : Ez1 (26) = .inr (3, [.ref (ad 27), .ref (ad 28), .int (nI (LM M))]) := (hg4 (26) (by omega)).trans s26
        have g14 : ∀ k : Nat, (k ≠ 3) → Ez1 k = E k := fun k hk => (hg4 k (by omega)).trans ((fun _ _ => rfl) k hk)
        refine z_aload_n C dX5_setGlyphColumn_54 rfl ?_
        have hY2 : RelY cI cM ad (va_up M 2 (va_up (M 2) (c * 6 + j) b)) (pm) Ez1 := ⟨f5, f6, f7, v3, f8, f9, f10, f11, hpm, hn6, (MsgY_mv hpm hMY (fun k hk => g14 k (by omega))), f12⟩
        have hs2 : StripAt cI ad Ez1 (stripM M) := hs.mv (g14 _ (by omega)) (g14 _ (by omega)) (g14 _ (by omega))
        have hI2 : Inv0 (va_up M 2 (va_up (M 2) (c * 6 + j) b)) := inv0_c hI.1 (by omega) (by omega) hb.2
        refine z_callVV C (0) (Cn := RX5) (T := TX5) (N := 12) (k_lay vl D cI cM A ad Ez1 hX hY2 hI2 hs2) (cwV 0 C.2.2.2.2.1 gX5_setGlyphColumn_X5_layOutStrip rfl rfl rfl (by decide +kernel) ⟨Nat.le_of_ble_eq_true rfl, Nat.le_of_ble_eq_true rfl⟩) rfl (by first | decide | omega) rfl f5 rfl rfl (Nat.le_of_ble_eq_true rfl) ⟨Nat.zero_le _, Nat.zero_le _⟩ dX5_setGlyphColumn_55 (fun Ez15 hp16 => ?_)
        obtain ⟨hR3, hf3⟩ := hp16
        have hf4 : ∀ k : Nat, 30 ≤ k → Ez15 k = E k := fun k hk => (hf3 k hk).trans (g14 k (by omega))
        obtain ⟨pm3, ⟨g0, -, -, -, -, -, -, -, -⟩, -, hs3⟩ := id hR3
        obtain ⟨_, _, t26, -, -, -⟩ := id hs3
        rw [strip_len] at t26
        refine z_iload C dX5_setGlyphColumn_58 rfl ?_
        exact hend _ _ _ _ dX5_setGlyphColumn_60 (⟨by rw [hop], by rw [hop]; exact hR3, hf4⟩)
      · have hop : o_setGlyphColumn M (nI c) y (nI b) = (-11, M) := (wr_y hc (by decide)).trans ((wr_y hb (by decide)).trans (wr_n hy))
        refine z_iload_n C dX5_setGlyphColumn_0 rfl ?_
        refine z_callSF C (k_X5_isCharacter vl D cI cM A ad E hX (nI (c))) (va_cwS 1 C.2.2.2.2.1 gX5_setGlyphColumn_X5_isCharacter rfl rfl rfl (by decide +kernel) ⟨Nat.le_of_ble_eq_true rfl, Nat.le_of_ble_eq_true rfl⟩) rfl rfl (Nat.le_of_ble_eq_true rfl) ⟨Nat.zero_le _, Nat.zero_le _⟩ dX5_setGlyphColumn_1 ?_
        refine z_top (nI (1)) (iw_yN hc (by omega)) ?_
        refine z_if_eqN C 30 (by omega) dX5_setGlyphColumn_4 (by decide) (fun h4 => (by exfalso; omega)) (fun h4 => ?_)
        refine z_iload_n C dX5_setGlyphColumn_7 rfl ?_
        refine z_iconst C (nI (0)) dX5_setGlyphColumn_8 (by decide) ?_
        refine z_sipush C (nI (255)) dX5_setGlyphColumn_9 (by decide) ?_
        refine z_callSF C (k_X5_isWithin vl D cI cM A ad E hX (nI (b)) (nI (0)) (nI (255))) (va_cwS 3 C.2.2.2.2.1 gX5_setGlyphColumn_X5_isWithin rfl rfl rfl (by decide +kernel) ⟨Nat.le_of_ble_eq_true rfl, Nat.le_of_ble_eq_true rfl⟩) rfl rfl (Nat.le_of_ble_eq_true rfl) ⟨Nat.zero_le _, Nat.zero_le _⟩ dX5_setGlyphColumn_12 ?_
        refine z_top (nI (1)) (iw_yN hb (by omega)) ?_
        refine z_if_eqN C 30 (by omega) dX5_setGlyphColumn_15 (by decide) (fun h15 => (by exfalso; omega)) (fun h15 => ?_)
        refine z_aload_n C dX5_setGlyphColumn_18 rfl ?_
        refine z_get C (0) (Cn := RX5) (T := TX5) (N := 12) (fi := 0) iw_X5_setGlyphColumn_5 rfl (by decide) ln_X5_setGlyphColumn_12 (by first | decide | omega) rfl e0 rfl dX5_setGlyphColumn_19 ?_
        refine z_iload_n C dX5_setGlyphColumn_22 rfl ?_
        refine z_iload_n C dX5_setGlyphColumn_23 rfl ?_
        refine z_callVF C (1) (Cn := RX0) (T := TX0) (N := 2) (k_X0_hasColumn vl D cI cM A ad E hX y e1 e2 (by omega) hwc.1) (cwV 2 C.2.2.2.2.1 gX5_setGlyphColumn_X0_hasColumn rfl rfl rfl (by decide +kernel) ⟨Nat.le_of_ble_eq_true rfl, Nat.le_of_ble_eq_true rfl⟩) rfl (by first | decide | omega) rfl e1 rfl rfl (Nat.le_of_ble_eq_true rfl) ⟨Nat.zero_le _, Nat.zero_le _⟩ dX5_setGlyphColumn_24 ?_
        refine z_top (nI (0)) (iw_n hy) ?_
        refine z_if_neN C 33 (by omega) dX5_setGlyphColumn_27 (by decide) (fun h27 => (by exfalso; omega)) (fun h27 => ?_)
        refine z_bipush C (-11) dX5_setGlyphColumn_30 (by decide) ?_
        exact hend _ _ _ _ dX5_setGlyphColumn_32 (⟨by rw [hop], by rw [hop]; exact hR, fun _ _ => rfl⟩)
    · have hop : o_setGlyphColumn M (nI c) y z = (-11, M) := (wr_y hc (by decide)).trans (wr_n hz)
      refine z_iload_n C dX5_setGlyphColumn_0 rfl ?_
      refine z_callSF C (k_X5_isCharacter vl D cI cM A ad E hX (nI (c))) (va_cwS 1 C.2.2.2.2.1 gX5_setGlyphColumn_X5_isCharacter rfl rfl rfl (by decide +kernel) ⟨Nat.le_of_ble_eq_true rfl, Nat.le_of_ble_eq_true rfl⟩) rfl rfl (Nat.le_of_ble_eq_true rfl) ⟨Nat.zero_le _, Nat.zero_le _⟩ dX5_setGlyphColumn_1 ?_
      refine z_top (nI (1)) (iw_yN hc (by omega)) ?_
      refine z_if_eqN C 30 (by omega) dX5_setGlyphColumn_4 (by decide) (fun h4 => (by exfalso; omega)) (fun h4 => ?_)
      refine z_iload_n C dX5_setGlyphColumn_7 rfl ?_
      refine z_iconst C (nI (0)) dX5_setGlyphColumn_8 (by decide) ?_
      refine z_sipush C (nI (255)) dX5_setGlyphColumn_9 (by decide) ?_
      refine z_callSF C (k_X5_isWithin vl D cI cM A ad E hX (z) (nI (0)) (nI (255))) (va_cwS 3 C.2.2.2.2.1 gX5_setGlyphColumn_X5_isWithin rfl rfl rfl (by decide +kernel) ⟨Nat.le_of_ble_eq_true rfl, Nat.le_of_ble_eq_true rfl⟩) rfl rfl (Nat.le_of_ble_eq_true rfl) ⟨Nat.zero_le _, Nat.zero_le _⟩ dX5_setGlyphColumn_12 ?_
      refine z_top (nI (0)) (iw_n hz) ?_
      refine z_if_eqN C 30 (by omega) dX5_setGlyphColumn_15 (by decide) (fun h15 => ?_) (fun h15 => (by exfalso; omega))
      refine z_bipush C (-11) dX5_setGlyphColumn_30 (by decide) ?_
      exact hend _ _ _ _ dX5_setGlyphColumn_32 (⟨by rw [hop], by rw [hop]; exact hR, fun _ _ => rfl⟩)
  · have hop : o_setGlyphColumn M x y z = (-11, M) := wr_n hx
    refine z_iload_n C dX5_setGlyphColumn_0 rfl ?_
    refine z_callSF C (k_X5_isCharacter vl D cI cM A ad E hX (x)) (va_cwS 1 C.2.2.2.2.1 gX5_setGlyphColumn_X5_isCharacter rfl rfl rfl (by decide +kernel) ⟨Nat.le_of_ble_eq_true rfl, Nat.le_of_ble_eq_true rfl⟩) rfl rfl (Nat.le_of_ble_eq_true rfl) ⟨Nat.zero_le _, Nat.zero_le _⟩ dX5_setGlyphColumn_1 ?_
    refine z_top (nI (0)) (iw_n hx) ?_
    refine z_if_eqN C 30 (by omega) dX5_setGlyphColumn_4 (by decide) (fun h4 => ?_) (fun h4 => (by exfalso; omega))
    refine z_bipush C (-11) dX5_setGlyphColumn_30 (by decide) ?_
    exact hend _ _ _ _ dX5_setGlyphColumn_32 (⟨by rw [hop], by rw [hop]; exact hR, fun _ _ => rfl⟩)

theorem iw_X5_append_5 : ∀ w ∈ wsX50, w ∈ wsX5_append := by decide +kernel
theorem ln_X5_append_19 : Cond.fieldLink RX5 19 "MarqueeDisplay" "buffer" "LMarqueeDisplay$Text;" ∈ wsX5_append := by decide +kernel
theorem iw_X5_append_4 : ∀ w ∈ wsX40, w ∈ wsX5_append := by decide +kernel
theorem nl_X5_94 : Cond.fieldLinkNest RX5 94 "MarqueeDisplay$Text" "length" "I" "MarqueeDisplay" ∈ nwL := by decide +kernel
set_option maxHeartbeats 4000000 in
set_option maxRecDepth 100000 in
theorem k_X5_append (vl : Launch) (D : va_G) (cI cM : ClassId) (A : Nat → Prop) (ad : Nat → Nat) (E : Nat → va_E) (hX : XD A 40 ad) {M : St} (x : Int32) (hI : Inv M) (hR : RelX cI cM ad M E) : MI vl yX5_append wsX5_append { frames := 2, cells := 0, slots := 0, locals := 42 } D cI cM A 40 ad E [.ref (ad 0), .int (x)] (fun r E1 => r = (o_append M x).1 ∧ RelX cI cM ad (o_append M x).2 E1 ∧ ∀ k : Nat, 30 ≤ k → E1 k = E k) := by
  refine mi_of cX5_append 2 (.int) RX5 (by decide) rfl rfl (Nat.le_of_ble_eq_true rfl) (fun r E1 h => rfl) ?_
  intro vp ve vs vm va vb vt vc Q C hend
  refine z_lv [(0, .ref (ad 0)), (1, .int (x))] ⟨rfl, rfl, rfl, rfl, trivial⟩ ?_
  obtain ⟨pm, hY, hMX, hs⟩ := id hR
  obtain ⟨e0, e1, e2, e3, b4, b5, l6, l7, hpm, hn6, hMY, e29⟩ := id hY
  obtain ⟨_, _, s26, -, -, -⟩ := id hs
  rw [strip_len] at s26
  obtain ⟨⟨iW1, iW2⟩, iG, ⟨iS1, iS2⟩, ⟨iB1, iB2⟩, iO, iC, iT, iN, iSh, iWd, iDt, iZ, iDf, iDz, iTx, iMs⟩ := id hI.1
  have hLM := hI.1.LM_le
  have hsl := hI.1.slen
  have hld : ∀ a, ldM M a ≤ 512 := fun a => Nat.le_trans (ldS_le _ _ _ _ _) (by omega)
  have hl4 := hld (M 0 4)
  rcases wr_c 0 26 x (by omega) (by omega) with ⟨c, hc, rfl⟩ | hx
  · by_cases ht : M 0 6 < 12
    · have hop : o_append M (nI c) = (nI (M 0 6 + 1), va_up (s0 M 6 (M 0 6 + 1)) 4 (va_up (M 4) (M 0 6) c)) := (wr_y hc (by decide)).trans (if_pos ht)
      refine z_iload_n C dX5_append_0 rfl ?_
      refine z_callSF C (k_X5_isCharacter vl D cI cM A ad E hX (nI (c))) (va_cwS 1 C.2.2.2.2.1 gX5_append_X5_isCharacter rfl rfl rfl (by decide +kernel) ⟨Nat.le_of_ble_eq_true rfl, Nat.le_of_ble_eq_true rfl⟩) rfl rfl (Nat.le_of_ble_eq_true rfl) ⟨Nat.zero_le _, Nat.zero_le _⟩ dX5_append_1 ?_
      refine z_top (nI (1)) (iw_yN hc (by omega)) ?_
      refine z_if_neN C 10 (by omega) dX5_append_4 (by decide) (fun h4 => ?_) (fun h4 => (by exfalso; omega))
      refine z_aload_n C dX5_append_10 rfl ?_
      refine z_get C (0) (Cn := RX5) (T := TX5) (N := 12) (fi := 1) iw_X5_append_5 rfl (by decide) ln_X5_append_19 (by first | decide | omega) rfl e0 rfl dX5_append_11 ?_
      refine z_getN C (4) (Cn := RX4) (T := TX4) (N := 2) (fi := 1) iw_X5_append_4 rfl (by decide) nl_X5_94 (by first | decide | omega) rfl b4 rfl dX5_append_14 ?_
      refine z_bipush C (nI (12)) dX5_append_17 (by decide) ?_
      refine z_icmp_ltN C 25 (by omega) (by omega) dX5_append_19 (by decide) (fun h19 => ?_) (fun h19 => (by exfalso; omega))
      refine z_aload_n C dX5_append_25 rfl ?_
      refine z_get C (0) (Cn := RX5) (T := TX5) (N := 12) (fi := 1) iw_X5_append_5 rfl (by decide) ln_X5_append_19 (by first | decide | omega) rfl e0 rfl dX5_append_26 ?_
      refine z_iload_n C dX5_append_29 rfl ?_
      refine z_callVV C (4) (Cn := RX4) (T := TX4) (N := 2) (k_X4_add vl D cI cM A ad E hX b4 b5 ht) (cwV 1 C.2.2.2.2.1 gX5_append_X4_add rfl rfl rfl (by decide +kernel) ⟨Nat.le_of_ble_eq_true rfl, Nat.le_of_ble_eq_true rfl⟩) rfl (by first | decide | omega) rfl b4 rfl rfl (Nat.le_of_ble_eq_true rfl) ⟨Nat.zero_le _, Nat.zero_le _⟩ dX5_append_30 (fun Ez1 hp2 => ?_)
      obtain ⟨v3, v4, hg5⟩ := hp2
      have f6 : Ez1 (0) = .inr (5, [.ref (ad 1), .ref (ad 4), .ref (ad 6), .ref (ad 26), .ref (ad 29), .int (nI (M 0 0)), .int (nI (M 0 1)), .int (nI (M 0 2)), .int (shI (M 0 8)), .int (nI (M 0 3)), .int (nI (M 0 4)), .int (nI (M 0 5))]) := (hg5 (0) (by omega)).trans e0
      have f7 : Ez1 (1) = .inr (0, [.ref (ad 2), .ref (ad 3)]) := (hg5 (1) (by omega)).trans e1
      have f8 : Ez1 (2) = aI cI 27 (M 1) := (hg5 (2) (by omega)).trans e2
      have f9 : Ez1 (3) = aI cI 162 (M 2) := (hg5 (3) (by omega)).trans e3
      have f10 : Ez1 (6) = .inr (2, [.ref (ad 7), .int (nI (M 0 7))]) := (hg5 (6) (by omega)).trans l6
      have f11 : Ez1 (7) = .inl (cM, 6, .inr (.inr (.inr (.inr (sf ad pm))))) := (hg5 (7) (by omega)).trans l7
      have f12 : Ez1 (29) = aI cI 32 (M 3) := (hg5 (29) (by omega)).trans e29
      have f13 : Ez1 (26) = .inr (3, [.ref (ad 27), .ref (ad 28), .int (nI (LM M))]) := (hg5 (26) (by omega)).trans s26
      have g14 : ∀ k : Nat, (k ≠ 4 ∧ k ≠ 5) → Ez1 k = E k := fun k hk => (hg5 k (by omega)).trans ((fun _ _ => rfl) k hk)
      refine z_aload_n C dX5_append_33 rfl ?_
      refine z_get C (0) (Cn := RX5) (T := TX5) (N := 12) (fi := 1) iw_X5_append_5 rfl (by decide) ln_X5_append_19 (by first | decide | omega) rfl f6 rfl dX5_append_34 ?_
      refine z_getN C (4) (Cn := RX4) (T := TX4) (N := 2) (fi := 1) iw_X5_append_4 rfl (by decide) nl_X5_94 (by first | decide | omega) rfl v3 rfl dX5_append_37 ?_
      exact hend _ _ _ _ dX5_append_40 (⟨by rw [hop], by rw [hop]; exact ⟨pm, ⟨f6, f7, f8, f9, v3, v4, f10, f11, hpm, hn6, (MsgY_mv hpm hMY (fun k hk => g14 k (by omega))), f12⟩, (MsgX_mv hpm hn6 hMX (fun k hk => g14 k (by omega))), hs.mv (g14 _ (by omega)) (g14 _ (by omega)) (g14 _ (by omega))⟩, fun k hk => g14 k (by omega)⟩)
    · have hop : o_append M (nI c) = (-13, M) := (wr_y hc (by decide)).trans (if_neg ht)
      refine z_iload_n C dX5_append_0 rfl ?_
      refine z_callSF C (k_X5_isCharacter vl D cI cM A ad E hX (nI (c))) (va_cwS 1 C.2.2.2.2.1 gX5_append_X5_isCharacter rfl rfl rfl (by decide +kernel) ⟨Nat.le_of_ble_eq_true rfl, Nat.le_of_ble_eq_true rfl⟩) rfl rfl (Nat.le_of_ble_eq_true rfl) ⟨Nat.zero_le _, Nat.zero_le _⟩ dX5_append_1 ?_
      refine z_top (nI (1)) (iw_yN hc (by omega)) ?_
      refine z_if_neN C 10 (by omega) dX5_append_4 (by decide) (fun h4 => ?_) (fun h4 => (by exfalso; omega))
      refine z_aload_n C dX5_append_10 rfl ?_
      refine z_get C (0) (Cn := RX5) (T := TX5) (N := 12) (fi := 1) iw_X5_append_5 rfl (by decide) ln_X5_append_19 (by first | decide | omega) rfl e0 rfl dX5_append_11 ?_
      refine z_getN C (4) (Cn := RX4) (T := TX4) (N := 2) (fi := 1) iw_X5_append_4 rfl (by decide) nl_X5_94 (by first | decide | omega) rfl b4 rfl dX5_append_14 ?_
      refine z_bipush C (nI (12)) dX5_append_17 (by decide) ?_
      refine z_icmp_ltN C 25 (by omega) (by omega) dX5_append_19 (by decide) (fun h19 => (by exfalso; omega)) (fun h19 => ?_)
      refine z_bipush C (-13) dX5_append_22 (by decide) ?_
      exact hend _ _ _ _ dX5_append_24 (⟨by rw [hop], by rw [hop]; exact hR, fun _ _ => rfl⟩)
  · have hop : o_append M x = (-11, M) := wr_n hx
    refine z_iload_n C dX5_append_0 rfl ?_
    refine z_callSF C (k_X5_isCharacter vl D cI cM A ad E hX (x)) (va_cwS 1 C.2.2.2.2.1 gX5_append_X5_isCharacter rfl rfl rfl (by decide +kernel) ⟨Nat.le_of_ble_eq_true rfl, Nat.le_of_ble_eq_true rfl⟩) rfl rfl (Nat.le_of_ble_eq_true rfl) ⟨Nat.zero_le _, Nat.zero_le _⟩ dX5_append_1 ?_
    refine z_top (nI (0)) (iw_n hx) ?_
    refine z_if_neN C 10 (by omega) dX5_append_4 (by decide) (fun h4 => (by exfalso; omega)) (fun h4 => ?_)
    refine z_bipush C (-11) dX5_append_7 (by decide) ?_
    exact hend _ _ _ _ dX5_append_9 (⟨by rw [hop], by rw [hop]; exact hR, fun _ _ => rfl⟩)

theorem iw_X5_clearText_5 : ∀ w ∈ wsX50, w ∈ wsX5_clearText := by decide +kernel
theorem ln_X5_clearText_19 : Cond.fieldLink RX5 19 "MarqueeDisplay" "buffer" "LMarqueeDisplay$Text;" ∈ wsX5_clearText := by decide +kernel
theorem iw_X5_clearText_4 : ∀ w ∈ wsX40, w ∈ wsX5_clearText := by decide +kernel
set_option maxHeartbeats 4000000 in
set_option maxRecDepth 100000 in
theorem k_X5_clearText (vl : Launch) (D : va_G) (cI cM : ClassId) (A : Nat → Prop) (ad : Nat → Nat) (E : Nat → va_E) (hX : XD A 40 ad) {M : St}  (hI : Inv M) (hR : RelX cI cM ad M E) : MI vl yX5_clearText wsX5_clearText { frames := 1, cells := 0, slots := 0, locals := 20 } D cI cM A 40 ad E [.ref (ad 0)] (fun r E1 => r = (o_clearText M).1 ∧ RelX cI cM ad (o_clearText M).2 E1 ∧ ∀ k : Nat, 30 ≤ k → E1 k = E k) := by
  refine mi_of cX5_clearText 2 (.int) RX5 (by decide) rfl rfl (Nat.le_of_ble_eq_true rfl) (fun r E1 h => rfl) ?_
  intro vp ve vs vm va vb vt vc Q C hend
  refine z_lv [(0, .ref (ad 0))] ⟨rfl, rfl, trivial⟩ ?_
  obtain ⟨pm, hY, hMX, hs⟩ := id hR
  obtain ⟨e0, e1, e2, e3, b4, b5, l6, l7, hpm, hn6, hMY, e29⟩ := id hY
  obtain ⟨_, _, s26, -, -, -⟩ := id hs
  rw [strip_len] at s26
  obtain ⟨⟨iW1, iW2⟩, iG, ⟨iS1, iS2⟩, ⟨iB1, iB2⟩, iO, iC, iT, iN, iSh, iWd, iDt, iZ, iDf, iDz, iTx, iMs⟩ := id hI.1
  have hLM := hI.1.LM_le
  have hsl := hI.1.slen
  have hld : ∀ a, ldM M a ≤ 512 := fun a => Nat.le_trans (ldS_le _ _ _ _ _) (by omega)
  have hl4 := hld (M 0 4)
  have hop : o_clearText M = (nI (M 0 6), s0 M 6 0) := rfl
  · skip
    refine z_aload_n C dX5_clearText_0 rfl ?_
    refine z_get C (0) (Cn := RX5) (T := TX5) (N := 12) (fi := 1) iw_X5_clearText_5 rfl (by decide) ln_X5_clearText_19 (by first | decide | omega) rfl e0 rfl dX5_clearText_1 ?_
    refine z_getN C (4) (Cn := RX4) (T := TX4) (N := 2) (fi := 1) iw_X5_clearText_4 rfl (by decide) nl_X5_94 (by first | decide | omega) rfl b4 rfl dX5_clearText_4 ?_
    refine z_istore_n C [(0, .ref (ad 0)), (1, .int (nI (M 0 6)))] dX5_clearText_7 (by decide) ⟨rfl, rfl, rfl, rfl, trivial⟩ ?_
    refine z_aload_n C dX5_clearText_8 rfl ?_
    refine z_get C (0) (Cn := RX5) (T := TX5) (N := 12) (fi := 1) iw_X5_clearText_5 rfl (by decide) ln_X5_clearText_19 (by first | decide | omega) rfl e0 rfl dX5_clearText_9 ?_
    refine z_callVV C (4) (Cn := RX4) (T := TX4) (N := 2) (k_X4_empty vl D cI cM A ad E hX b4) (cwV 0 C.2.2.2.2.1 gX5_clearText_X4_empty rfl rfl rfl (by decide +kernel) ⟨Nat.le_of_ble_eq_true rfl, Nat.le_of_ble_eq_true rfl⟩) rfl (by first | decide | omega) rfl b4 rfl rfl (Nat.le_of_ble_eq_true rfl) ⟨Nat.zero_le _, Nat.zero_le _⟩ dX5_clearText_12 (fun Ez1 hp2 => ?_)
    obtain ⟨v3, hg4⟩ := hp2
    have f5 : Ez1 (0) = .inr (5, [.ref (ad 1), .ref (ad 4), .ref (ad 6), .ref (ad 26), .ref (ad 29), .int (nI (M 0 0)), .int (nI (M 0 1)), .int (nI (M 0 2)), .int (shI (M 0 8)), .int (nI (M 0 3)), .int (nI (M 0 4)), .int (nI (M 0 5))]) := (hg4 (0) (by omega)).trans e0
    have f6 : Ez1 (1) = .inr (0, [.ref (ad 2), .ref (ad 3)]) := (hg4 (1) (by omega)).trans e1
    have f7 : Ez1 (2) = aI cI 27 (M 1) := (hg4 (2) (by omega)).trans e2
    have f8 : Ez1 (3) = aI cI 162 (M 2) := (hg4 (3) (by omega)).trans e3
    have f9 : Ez1 (5) = aI cI 12 (M 4) := (hg4 (5) (by omega)).trans b5
    have f10 : Ez1 (6) = .inr (2, [.ref (ad 7), .int (nI (M 0 7))]) := (hg4 (6) (by omega)).trans l6
    have f11 : Ez1 (7) = .inl (cM, 6, .inr (.inr (.inr (.inr (sf ad pm))))) := (hg4 (7) (by omega)).trans l7
    have f12 : Ez1 (29) = aI cI 32 (M 3) := (hg4 (29) (by omega)).trans e29
    have f13 : Ez1 (26) = .inr (3, [.ref (ad 27), .ref (ad 28), .int (nI (LM M))]) := (hg4 (26) (by omega)).trans s26
    have g14 : ∀ k : Nat, (k ≠ 4) → Ez1 k = E k := fun k hk => (hg4 k (by omega)).trans ((fun _ _ => rfl) k hk)
    refine z_iload_n C dX5_clearText_15 rfl ?_
    exact hend _ _ _ _ dX5_clearText_16 (⟨by rw [hop], by rw [hop]; exact ⟨pm, ⟨f5, f6, f7, f8, v3, f9, f10, f11, hpm, hn6, (MsgY_mv hpm hMY (fun k hk => g14 k (by omega))), f12⟩, (MsgX_mv hpm hn6 hMX (fun k hk => g14 k (by omega))), hs.mv (g14 _ (by omega)) (g14 _ (by omega)) (g14 _ (by omega))⟩, fun k hk => g14 k (by omega)⟩)

theorem iw_X5_setGap_5 : ∀ w ∈ wsX50, w ∈ wsX5_setGap := by decide +kernel
theorem ln_X5_setGap_45 : Cond.fieldLink RX5 45 "MarqueeDisplay" "gap" "I" ∈ wsX5_setGap := by decide +kernel
set_option maxHeartbeats 4000000 in
set_option maxRecDepth 100000 in
theorem k_X5_setGap (vl : Launch) (D : va_G) (cI cM : ClassId) (A : Nat → Prop) (ad : Nat → Nat) (E : Nat → va_E) (hX : XD A 40 ad) {M : St} (x : Int32) (hI : Inv M) (hR : RelX cI cM ad M E) : MI vl yX5_setGap wsX5_setGap { frames := 5, cells := 0, slots := 0, locals := 114 } D cI cM A 40 ad E [.ref (ad 0), .int (x)] (fun r E1 => r = (o_setGap M x).1 ∧ RelX cI cM ad (o_setGap M x).2 E1 ∧ ∀ k : Nat, 30 ≤ k → E1 k = E k) := by
  refine mi_of cX5_setGap 3 (.int) RX5 (by decide) rfl rfl (Nat.le_of_ble_eq_true rfl) (fun r E1 h => rfl) ?_
  intro vp ve vs vm va vb vt vc Q C hend
  refine z_lv [(0, .ref (ad 0)), (1, .int (x))] ⟨rfl, rfl, rfl, rfl, trivial⟩ ?_
  obtain ⟨pm, hY, hMX, hs⟩ := id hR
  obtain ⟨e0, e1, e2, e3, b4, b5, l6, l7, hpm, hn6, hMY, e29⟩ := id hY
  obtain ⟨_, _, s26, -, -, -⟩ := id hs
  rw [strip_len] at s26
  obtain ⟨⟨iW1, iW2⟩, iG, ⟨iS1, iS2⟩, ⟨iB1, iB2⟩, iO, iC, iT, iN, iSh, iWd, iDt, iZ, iDf, iDz, iTx, iMs⟩ := id hI.1
  have hLM := hI.1.LM_le
  have hsl := hI.1.slen
  have hld : ∀ a, ldM M a ≤ 512 := fun a => Nat.le_trans (ldS_le _ _ _ _ _) (by omega)
  have hl4 := hld (M 0 4)
  rcases wr_c 0 9 x (by omega) (by omega) with ⟨g, hg, rfl⟩ | hx
  · have hop : o_setGap M (nI g) = (nI (M 0 1), settle (s0 M 1 g)) := wr_y hg (by decide)
    refine z_iload_n C dX5_setGap_0 rfl ?_
    refine z_iconst C (nI (0)) dX5_setGap_1 (by decide) ?_
    refine z_bipush C (nI (9)) dX5_setGap_2 (by decide) ?_
    refine z_callSF C (k_X5_isWithin vl D cI cM A ad E hX (nI (g)) (nI (0)) (nI (9))) (va_cwS 3 C.2.2.2.2.1 gX5_setGap_X5_isWithin rfl rfl rfl (by decide +kernel) ⟨Nat.le_of_ble_eq_true rfl, Nat.le_of_ble_eq_true rfl⟩) rfl rfl (Nat.le_of_ble_eq_true rfl) ⟨Nat.zero_le _, Nat.zero_le _⟩ dX5_setGap_4 ?_
    refine z_top (nI (1)) (iw_yN hg (by omega)) ?_
    refine z_if_neN C 13 (by omega) dX5_setGap_7 (by decide) (fun h7 => ?_) (fun h7 => (by exfalso; omega))
    refine z_aload_n C dX5_setGap_13 rfl ?_
    refine z_get C (0) (Cn := RX5) (T := TX5) (N := 12) (fi := 6) iw_X5_setGap_5 rfl (by decide) ln_X5_setGap_45 (by first | decide | omega) rfl e0 rfl dX5_setGap_14 ?_
    refine z_istore_n C [(0, .ref (ad 0)), (1, .int (nI (g))), (2, .int (nI (M 0 1)))] dX5_setGap_17 (by decide) ⟨rfl, rfl, rfl, rfl, rfl, rfl, trivial⟩ ?_
    refine z_aload_n C dX5_setGap_18 rfl ?_
    refine z_iload_n C dX5_setGap_19 rfl ?_
    refine z_put C (0) (Cn := RX5) (T := TX5) (N := 12) (fi := 6) tyX5 iw_X5_setGap_5 tyX5_ok nmX5 rfl (by decide) ln_X5_setGap_45 hX (by first | decide | omega) rfl e0 rfl rfl rfl rfl (Nat.le_of_ble_eq_true rfl) dX5_setGap_20 (fun Ez2 hE1 => ?_)
    have f4 : Ez2 (1) = .inr (0, [.ref (ad 2), .ref (ad 3)]) := va_up_of hE1 (by first | decide | omega) e1
    have f5 : Ez2 (2) = aI cI 27 (M 1) := va_up_of hE1 (by first | decide | omega) e2
    have f6 : Ez2 (3) = aI cI 162 (M 2) := va_up_of hE1 (by first | decide | omega) e3
    have f7 : Ez2 (4) = .inr (4, [.ref (ad 5), .int (nI (M 0 6))]) := va_up_of hE1 (by first | decide | omega) b4
    have f8 : Ez2 (5) = aI cI 12 (M 4) := va_up_of hE1 (by first | decide | omega) b5
    have f9 : Ez2 (6) = .inr (2, [.ref (ad 7), .int (nI (M 0 7))]) := va_up_of hE1 (by first | decide | omega) l6
    have f10 : Ez2 (7) = .inl (cM, 6, .inr (.inr (.inr (.inr (sf ad pm))))) := va_up_of hE1 (by first | decide | omega) l7
    have f11 : Ez2 (29) = aI cI 32 (M 3) := va_up_of hE1 (by first | decide | omega) e29
    have f12 : Ez2 (26) = .inr (3, [.ref (ad 27), .ref (ad 28), .int (nI (LM M))]) := va_up_of hE1 (by first | decide | omega) s26
    have f13 : Ez2 (0) = .inr (5, [.ref (ad 1), .ref (ad 4), .ref (ad 6), .ref (ad 26), .ref (ad 29), .int (nI (M 0 0)), .int (nI (g)), .int (nI (M 0 2)), .int (shI (M 0 8)), .int (nI (M 0 3)), .int (nI (M 0 4)), .int (nI (M 0 5))]) := va_up_eq hE1
    have g14 : ∀ k : Nat, (k ≠ 0) → Ez2 k = E k := fun k hk => va_up_of hE1 (by omega) ((fun _ _ => rfl) k hk)
    refine z_aload_n C dX5_setGap_23 rfl ?_
    have hY2 : RelY cI cM ad (s0 M 1 g) (pm) Ez2 := ⟨f13, f4, f5, f6, f7, f8, f9, f10, hpm, hn6, (MsgY_mv hpm hMY (fun k hk => g14 k (by omega))), f11⟩
    have hs2 : StripAt cI ad Ez2 (stripM M) := hs.mv (g14 _ (by omega)) (g14 _ (by omega)) (g14 _ (by omega))
    have hI2 : Inv0 (s0 M 1 g) := inv0_g hI.1 hg.2
    refine z_callVV C (0) (Cn := RX5) (T := TX5) (N := 12) (k_lay vl D cI cM A ad Ez2 hX hY2 hI2 hs2) (cwV 0 C.2.2.2.2.1 gX5_setGap_X5_layOutStrip rfl rfl rfl (by decide +kernel) ⟨Nat.le_of_ble_eq_true rfl, Nat.le_of_ble_eq_true rfl⟩) rfl (by first | decide | omega) rfl f13 rfl rfl (Nat.le_of_ble_eq_true rfl) ⟨Nat.zero_le _, Nat.zero_le _⟩ dX5_setGap_24 (fun Ez15 hp16 => ?_)
    obtain ⟨hR3, hf3⟩ := hp16
    have hf4 : ∀ k : Nat, 30 ≤ k → Ez15 k = E k := fun k hk => (hf3 k hk).trans (g14 k (by omega))
    obtain ⟨pm3, ⟨g0, -, -, -, -, -, -, -, -⟩, -, hs3⟩ := id hR3
    obtain ⟨_, _, t26, -, -, -⟩ := id hs3
    rw [strip_len] at t26
    refine z_iload_n C dX5_setGap_27 rfl ?_
    exact hend _ _ _ _ dX5_setGap_28 (⟨by rw [hop], by rw [hop]; exact hR3, hf4⟩)
  · have hop : o_setGap M x = (-11, M) := wr_n hx
    refine z_iload_n C dX5_setGap_0 rfl ?_
    refine z_iconst C (nI (0)) dX5_setGap_1 (by decide) ?_
    refine z_bipush C (nI (9)) dX5_setGap_2 (by decide) ?_
    refine z_callSF C (k_X5_isWithin vl D cI cM A ad E hX (x) (nI (0)) (nI (9))) (va_cwS 3 C.2.2.2.2.1 gX5_setGap_X5_isWithin rfl rfl rfl (by decide +kernel) ⟨Nat.le_of_ble_eq_true rfl, Nat.le_of_ble_eq_true rfl⟩) rfl rfl (Nat.le_of_ble_eq_true rfl) ⟨Nat.zero_le _, Nat.zero_le _⟩ dX5_setGap_4 ?_
    refine z_top (nI (0)) (iw_n hx) ?_
    refine z_if_neN C 13 (by omega) dX5_setGap_7 (by decide) (fun h7 => (by exfalso; omega)) (fun h7 => ?_)
    refine z_bipush C (-11) dX5_setGap_10 (by decide) ?_
    exact hend _ _ _ _ dX5_setGap_12 (⟨by rw [hop], by rw [hop]; exact hR, fun _ _ => rfl⟩)
end
