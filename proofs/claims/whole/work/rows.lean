section
-- ===== PART A: goes FIRST, ahead of the names: the tables' words, and 'selects' of the private methods out of them =====
/-- a private method of a class that the tables say can be made, by its rows of tables_1 -/
def lw_okq (q : MethodName × Nat) : Prop := (q.1.cls ≠ "java/lang/invoke/MethodHandle" ∧ q.1.cls ≠ "java/lang/invoke/VarHandle") ∧ Cond.instantiable q.1.cls q.2 ∈ tables_1 ∧ Cond.privateMethod q.1 ∈ tables_1 ∧ Cond.instanceMethod q.1 ∈ tables_1
theorem lw_p0 : lw_okq (⟨"VersionedText", "canTakeClip", "(II)Z"⟩, 9) := ⟨⟨by decide +kernel, by decide +kernel⟩, List.mem_of_getElem? (i := 12) (by decide +kernel), List.mem_of_getElem? (i := 191) (by decide +kernel), List.mem_of_getElem? (i := 192) (by decide +kernel)⟩
theorem lw_p1 : lw_okq (⟨"VersionedText", "canEdit", "(II)Z"⟩, 9) := ⟨⟨by decide +kernel, by decide +kernel⟩, List.mem_of_getElem? (i := 12) (by decide +kernel), List.mem_of_getElem? (i := 195) (by decide +kernel), List.mem_of_getElem? (i := 196) (by decide +kernel)⟩
theorem lw_p2 : lw_okq (⟨"VersionedText$Items", "begins", "(LVersionedText$Text;I)Z"⟩, 5) := ⟨⟨by decide +kernel, by decide +kernel⟩, List.mem_of_getElem? (i := 75) (by decide +kernel), List.mem_of_getElem? (i := 226) (by decide +kernel), List.mem_of_getElem? (i := 227) (by decide +kernel)⟩
theorem lw_p3 : lw_okq (⟨"VersionedText$ClusterWalk", "isJoinedTo", "(I)Z"⟩, 3) := ⟨⟨by decide +kernel, by decide +kernel⟩, List.mem_of_getElem? (i := 81) (by decide +kernel), List.mem_of_getElem? (i := 269) (by decide +kernel), List.mem_of_getElem? (i := 270) (by decide +kernel)⟩
theorem lw_p4 : lw_okq (⟨"VersionedText$GapText", "moveGap", "(I)V"⟩, 3) := ⟨⟨by decide +kernel, by decide +kernel⟩, List.mem_of_getElem? (i := 20) (by decide +kernel), List.mem_of_getElem? (i := 303) (by decide +kernel), List.mem_of_getElem? (i := 304) (by decide +kernel)⟩
theorem lw_p5 : lw_okq (⟨"VersionedText", "clipIsTyping", "()Z"⟩, 9) := ⟨⟨by decide +kernel, by decide +kernel⟩, List.mem_of_getElem? (i := 12) (by decide +kernel), List.mem_of_getElem? (i := 319) (by decide +kernel), List.mem_of_getElem? (i := 320) (by decide +kernel)⟩
theorem lw_p6 : lw_okq (⟨"VersionedText$History", "latest", "()LVersionedText$RowText;"⟩, 4) := ⟨⟨by decide +kernel, by decide +kernel⟩, List.mem_of_getElem? (i := 52) (by decide +kernel), List.mem_of_getElem? (i := 328) (by decide +kernel), List.mem_of_getElem? (i := 329) (by decide +kernel)⟩
theorem lw_p7 : lw_okq (⟨"VersionedText", "addClosedStep", "()V"⟩, 9) := ⟨⟨by decide +kernel, by decide +kernel⟩, List.mem_of_getElem? (i := 12) (by decide +kernel), List.mem_of_getElem? (i := 360) (by decide +kernel), List.mem_of_getElem? (i := 361) (by decide +kernel)⟩
theorem lw_p8 : lw_okq (⟨"VersionedText", "isVersion", "(I)Z"⟩, 9) := ⟨⟨by decide +kernel, by decide +kernel⟩, List.mem_of_getElem? (i := 12) (by decide +kernel), List.mem_of_getElem? (i := 430) (by decide +kernel), List.mem_of_getElem? (i := 431) (by decide +kernel)⟩
theorem lw_p9 : lw_okq (⟨"VersionedText$Search", "reachFrom", "(II)V"⟩, 5) := ⟨⟨by decide +kernel, by decide +kernel⟩, List.mem_of_getElem? (i := 114) (by decide +kernel), List.mem_of_getElem? (i := 489) (by decide +kernel), List.mem_of_getElem? (i := 490) (by decide +kernel)⟩
theorem lw_p10 : lw_okq (⟨"VersionedText$Search", "standsFor", "(II)Z"⟩, 5) := ⟨⟨by decide +kernel, by decide +kernel⟩, List.mem_of_getElem? (i := 114) (by decide +kernel), List.mem_of_getElem? (i := 493) (by decide +kernel), List.mem_of_getElem? (i := 494) (by decide +kernel)⟩
theorem lw_p11 : lw_okq (⟨"VersionedTextModel", "isPlace", "(I)Z"⟩, 18) := ⟨⟨by decide +kernel, by decide +kernel⟩, List.mem_of_getElem? (i := 511) (by decide +kernel), List.mem_of_getElem? (i := 584) (by decide +kernel), List.mem_of_getElem? (i := 585) (by decide +kernel)⟩
theorem lw_p12 : lw_okq (⟨"VersionedTextModel", "lets", "(I)Z"⟩, 18) := ⟨⟨by decide +kernel, by decide +kernel⟩, List.mem_of_getElem? (i := 511) (by decide +kernel), List.mem_of_getElem? (i := 588) (by decide +kernel), List.mem_of_getElem? (i := 589) (by decide +kernel)⟩
theorem lw_p13 : lw_okq (⟨"VersionedTextModel", "findItems", "(II)V"⟩, 18) := ⟨⟨by decide +kernel, by decide +kernel⟩, List.mem_of_getElem? (i := 511) (by decide +kernel), List.mem_of_getElem? (i := 592) (by decide +kernel), List.mem_of_getElem? (i := 593) (by decide +kernel)⟩
theorem lw_p14 : lw_okq (⟨"VersionedTextModel", "begin", "(I)V"⟩, 18) := ⟨⟨by decide +kernel, by decide +kernel⟩, List.mem_of_getElem? (i := 511) (by decide +kernel), List.mem_of_getElem? (i := 596) (by decide +kernel), List.mem_of_getElem? (i := 597) (by decide +kernel)⟩
theorem lw_p15 : lw_okq (⟨"VersionedTextModel", "findLines", "(I)V"⟩, 18) := ⟨⟨by decide +kernel, by decide +kernel⟩, List.mem_of_getElem? (i := 511) (by decide +kernel), List.mem_of_getElem? (i := 600) (by decide +kernel), List.mem_of_getElem? (i := 601) (by decide +kernel)⟩
def lw_privs_1 : List (MethodName × Nat) := [(⟨"VersionedText", "canTakeClip", "(II)Z"⟩, 9), (⟨"VersionedText", "canEdit", "(II)Z"⟩, 9), (⟨"VersionedText$Items", "begins", "(LVersionedText$Text;I)Z"⟩, 5), (⟨"VersionedText$ClusterWalk", "isJoinedTo", "(I)Z"⟩, 3), (⟨"VersionedText$GapText", "moveGap", "(I)V"⟩, 3), (⟨"VersionedText", "clipIsTyping", "()Z"⟩, 9), (⟨"VersionedText$History", "latest", "()LVersionedText$RowText;"⟩, 4), (⟨"VersionedText", "addClosedStep", "()V"⟩, 9), (⟨"VersionedText", "isVersion", "(I)Z"⟩, 9), (⟨"VersionedText$Search", "reachFrom", "(II)V"⟩, 5), (⟨"VersionedText$Search", "standsFor", "(II)Z"⟩, 5), (⟨"VersionedTextModel", "isPlace", "(I)Z"⟩, 18), (⟨"VersionedTextModel", "lets", "(I)Z"⟩, 18), (⟨"VersionedTextModel", "findItems", "(II)V"⟩, 18), (⟨"VersionedTextModel", "begin", "(I)V"⟩, 18), (⟨"VersionedTextModel", "findLines", "(I)V"⟩, 18)]
theorem lw_r1 : ∀ q ∈ lw_privs_1, lw_okq q := List.forall_mem_cons.mpr ⟨lw_p0, List.forall_mem_cons.mpr ⟨lw_p1, List.forall_mem_cons.mpr ⟨lw_p2, List.forall_mem_cons.mpr ⟨lw_p3, List.forall_mem_cons.mpr ⟨lw_p4, List.forall_mem_cons.mpr ⟨lw_p5, List.forall_mem_cons.mpr ⟨lw_p6, List.forall_mem_cons.mpr ⟨lw_p7, List.forall_mem_cons.mpr ⟨lw_p8, List.forall_mem_cons.mpr ⟨lw_p9, List.forall_mem_cons.mpr ⟨lw_p10, List.forall_mem_cons.mpr ⟨lw_p11, List.forall_mem_cons.mpr ⟨lw_p12, List.forall_mem_cons.mpr ⟨lw_p13, List.forall_mem_cons.mpr ⟨lw_p14, List.forall_mem_cons.mpr ⟨lw_p15, fun _ h => absurd h List.not_mem_nil⟩⟩⟩⟩⟩⟩⟩⟩⟩⟩⟩⟩⟩⟩⟩⟩
theorem lw_p16 : lw_okq (⟨"VersionedTextModel", "findPoints", "(I)V"⟩, 18) := ⟨⟨by decide +kernel, by decide +kernel⟩, List.mem_of_getElem? (i := 511) (by decide +kernel), List.mem_of_getElem? (i := 604) (by decide +kernel), List.mem_of_getElem? (i := 605) (by decide +kernel)⟩
theorem lw_p17 : lw_okq (⟨"VersionedTextModel", "bound", "(I)Z"⟩, 18) := ⟨⟨by decide +kernel, by decide +kernel⟩, List.mem_of_getElem? (i := 511) (by decide +kernel), List.mem_of_getElem? (i := 613) (by decide +kernel), List.mem_of_getElem? (i := 614) (by decide +kernel)⟩
theorem lw_p18 : lw_okq (⟨"VersionedTextModel", "make", "(III)V"⟩, 18) := ⟨⟨by decide +kernel, by decide +kernel⟩, List.mem_of_getElem? (i := 511) (by decide +kernel), List.mem_of_getElem? (i := 630) (by decide +kernel), List.mem_of_getElem? (i := 631) (by decide +kernel)⟩
theorem lw_p19 : lw_okq (⟨"VersionedTextModel", "show", "(I)V"⟩, 18) := ⟨⟨by decide +kernel, by decide +kernel⟩, List.mem_of_getElem? (i := 511) (by decide +kernel), List.mem_of_getElem? (i := 634) (by decide +kernel), List.mem_of_getElem? (i := 635) (by decide +kernel)⟩
theorem lw_p20 : lw_okq (⟨"VersionedTextModel", "step", "()V"⟩, 18) := ⟨⟨by decide +kernel, by decide +kernel⟩, List.mem_of_getElem? (i := 511) (by decide +kernel), List.mem_of_getElem? (i := 638) (by decide +kernel), List.mem_of_getElem? (i := 639) (by decide +kernel)⟩
theorem lw_p21 : lw_okq (⟨"VersionedTextModel", "copy", "(II)V"⟩, 18) := ⟨⟨by decide +kernel, by decide +kernel⟩, List.mem_of_getElem? (i := 511) (by decide +kernel), List.mem_of_getElem? (i := 642) (by decide +kernel), List.mem_of_getElem? (i := 643) (by decide +kernel)⟩
theorem lw_p22 : lw_okq (⟨"VersionedTextModel", "slot", "(I)I"⟩, 18) := ⟨⟨by decide +kernel, by decide +kernel⟩, List.mem_of_getElem? (i := 511) (by decide +kernel), List.mem_of_getElem? (i := 686) (by decide +kernel), List.mem_of_getElem? (i := 687) (by decide +kernel)⟩
theorem lw_p23 : lw_okq (⟨"VersionedTextModel", "looks", "(II)Z"⟩, 18) := ⟨⟨by decide +kernel, by decide +kernel⟩, List.mem_of_getElem? (i := 511) (by decide +kernel), List.mem_of_getElem? (i := 694) (by decide +kernel), List.mem_of_getElem? (i := 695) (by decide +kernel)⟩
theorem lw_p24 : lw_okq (⟨"VersionedTextModel", "isPattern", "()Z"⟩, 18) := ⟨⟨by decide +kernel, by decide +kernel⟩, List.mem_of_getElem? (i := 511) (by decide +kernel), List.mem_of_getElem? (i := 714) (by decide +kernel), List.mem_of_getElem? (i := 715) (by decide +kernel)⟩
theorem lw_p25 : lw_okq (⟨"VersionedTextModel", "match", "(II)I"⟩, 18) := ⟨⟨by decide +kernel, by decide +kernel⟩, List.mem_of_getElem? (i := 511) (by decide +kernel), List.mem_of_getElem? (i := 718) (by decide +kernel), List.mem_of_getElem? (i := 719) (by decide +kernel)⟩
def lw_privs_2 : List (MethodName × Nat) := [(⟨"VersionedTextModel", "findPoints", "(I)V"⟩, 18), (⟨"VersionedTextModel", "bound", "(I)Z"⟩, 18), (⟨"VersionedTextModel", "make", "(III)V"⟩, 18), (⟨"VersionedTextModel", "show", "(I)V"⟩, 18), (⟨"VersionedTextModel", "step", "()V"⟩, 18), (⟨"VersionedTextModel", "copy", "(II)V"⟩, 18), (⟨"VersionedTextModel", "slot", "(I)I"⟩, 18), (⟨"VersionedTextModel", "looks", "(II)Z"⟩, 18), (⟨"VersionedTextModel", "isPattern", "()Z"⟩, 18), (⟨"VersionedTextModel", "match", "(II)I"⟩, 18)]
theorem lw_r2 : ∀ q ∈ lw_privs_2, lw_okq q := List.forall_mem_cons.mpr ⟨lw_p16, List.forall_mem_cons.mpr ⟨lw_p17, List.forall_mem_cons.mpr ⟨lw_p18, List.forall_mem_cons.mpr ⟨lw_p19, List.forall_mem_cons.mpr ⟨lw_p20, List.forall_mem_cons.mpr ⟨lw_p21, List.forall_mem_cons.mpr ⟨lw_p22, List.forall_mem_cons.mpr ⟨lw_p23, List.forall_mem_cons.mpr ⟨lw_p24, List.forall_mem_cons.mpr ⟨lw_p25, fun _ h => absurd h List.not_mem_nil⟩⟩⟩⟩⟩⟩⟩⟩⟩⟩
def lw_privs : List (MethodName × Nat) := lw_privs_1 ++ (lw_privs_2)
def lw_tbl : List Cond := k2_sels lw_privs ++ tables_1
theorem lw_privs_ok : ∀ q ∈ lw_privs, lw_okq q := by
  show ∀ q ∈ lw_privs_1 ++ (lw_privs_2), lw_okq q
  exact List.forall_mem_append.mpr ⟨lw_r1, lw_r2⟩

theorem lw_mem (i : Nat) {w : Cond} (h : lw_tbl[i]? = some w) : w ∈ lw_tbl := List.mem_of_getElem? h
def R_Clu : String := "VersionedText$ClusterWalk"
def F_Clu : u_T := fun k => match k with
  | 0 => ("VersionedText$ClusterWalk", "last", "I", false)
  | 1 => ("VersionedText$ClusterWalk", "lead", "I", false)
  | _ => ("VersionedText$ClusterWalk", "flagsBeforeLast", "I", false)
def t_Clu : Nat → FieldType := fun k => match k with
  | 0 => .int
  | 1 => .int
  | _ => .int
abbrev ci_Clu : Nat := 0
def R_Gap : String := "VersionedText$GapText"
def F_Gap : u_T := fun k => match k with
  | 0 => ("VersionedText$GapText", "units", "[C", true)
  | 1 => ("VersionedText$GapText", "gapStart", "I", false)
  | _ => ("VersionedText$GapText", "gapEnd", "I", false)
def t_Gap : Nat → FieldType := fun k => match k with
  | 0 => .array .char
  | 1 => .int
  | _ => .int
abbrev ci_Gap : Nat := 1
def R_His : String := "VersionedText$History"
def F_His : u_T := fun k => match k with
  | 0 => ("VersionedText$History", "texts", "[LVersionedText$RowText;", true)
  | 1 => ("VersionedText$History", "oldest", "I", false)
  | 2 => ("VersionedText$History", "done", "I", false)
  | _ => ("VersionedText$History", "undone", "I", false)
def t_His : Nat → FieldType := fun k => match k with
  | 0 => .array (.object "VersionedText$RowText")
  | 1 => .int
  | 2 => .int
  | _ => .int
abbrev ci_His : Nat := 2
def R_Itm : String := "VersionedText$Items"
def F_Itm : u_T := fun k => match k with
  | 0 => ("VersionedText$Items", "beginnings", "[I", true)
  | 1 => ("VersionedText$Items", "clusters", "LVersionedText$ClusterWalk;", true)
  | 2 => ("VersionedText$Items", "number", "I", false)
  | 3 => ("VersionedText$Items", "length", "I", false)
  | _ => ("VersionedText$Items", "metric", "I", false)
def t_Itm : Nat → FieldType := fun k => match k with
  | 0 => .array .int
  | 1 => .object "VersionedText$ClusterWalk"
  | 2 => .int
  | 3 => .int
  | _ => .int
abbrev ci_Itm : Nat := 3
def R_Row : String := "VersionedText$RowText"
def F_Row : u_T := fun k => match k with
  | 0 => ("VersionedText$RowText", "units", "[C", true)
  | _ => ("VersionedText$RowText", "length", "I", false)
def t_Row : Nat → FieldType := fun k => match k with
  | 0 => .array .char
  | _ => .int
abbrev ci_Row : Nat := 4
def R_Sea : String := "VersionedText$Search"
def F_Sea : u_T := fun k => match k with
  | 0 => ("VersionedText$Search", "wanted", "[I", true)
  | 1 => ("VersionedText$Search", "starred", "[Z", true)
  | 2 => ("VersionedText$Search", "reached", "[I", true)
  | 3 => ("VersionedText$Search", "elements", "I", false)
  | _ => ("VersionedText$Search", "end", "I", false)
def t_Sea : Nat → FieldType := fun k => match k with
  | 0 => .array .int
  | 1 => .array .boolean
  | 2 => .array .int
  | 3 => .int
  | _ => .int
abbrev ci_Sea : Nat := 5
def R_VT : String := "VersionedText"
def F_VT : u_T := fun k => match k with
  | 0 => ("VersionedText", "text", "LVersionedText$Text;", true)
  | 1 => ("VersionedText", "clip", "LVersionedText$RowText;", true)
  | 2 => ("VersionedText", "versions", "[LVersionedText$Text;", true)
  | 3 => ("VersionedText", "kept", "[Z", true)
  | 4 => ("VersionedText", "history", "LVersionedText$History;", true)
  | 5 => ("VersionedText", "items", "LVersionedText$Items;", true)
  | 6 => ("VersionedText", "search", "LVersionedText$Search;", true)
  | 7 => ("VersionedText", "guardMetric", "I", false)
  | _ => ("VersionedText", "typingPlace", "I", false)
def t_VT : Nat → FieldType := fun k => match k with
  | 0 => .object "VersionedText$Text"
  | 1 => .object "VersionedText$RowText"
  | 2 => .array (.object "VersionedText$Text")
  | 3 => .array .boolean
  | 4 => .object "VersionedText$History"
  | 5 => .object "VersionedText$Items"
  | 6 => .object "VersionedText$Search"
  | 7 => .int
  | _ => .int
abbrev ci_VT : Nat := 6
def R_Mod : String := "VersionedTextModel"
def F_Mod : u_T := fun k => match k with
  | 0 => ("VersionedTextModel", "units", "[I", true)
  | 1 => ("VersionedTextModel", "lengths", "[I", true)
  | 2 => ("VersionedTextModel", "now", "I", false)
  | 3 => ("VersionedTextModel", "last", "I", false)
  | 4 => ("VersionedTextModel", "kept", "[Z", true)
  | 5 => ("VersionedTextModel", "clip", "[I", true)
  | 6 => ("VersionedTextModel", "clipped", "I", false)
  | 7 => ("VersionedTextModel", "guarded", "I", false)
  | 8 => ("VersionedTextModel", "open", "I", false)
  | 9 => ("VersionedTextModel", "made", "[I", true)
  | 10 => ("VersionedTextModel", "madeLength", "I", false)
  | 11 => ("VersionedTextModel", "points", "I", false)
  | 12 => ("VersionedTextModel", "pointPlace", "[I", true)
  | 13 => ("VersionedTextModel", "codes", "[I", true)
  | 14 => ("VersionedTextModel", "items", "I", false)
  | 15 => ("VersionedTextModel", "places", "[I", true)
  | 16 => ("VersionedTextModel", "at", "[Z", true)
  | _ => ("VersionedTextModel", "foundEnd", "I", false)
def t_Mod : Nat → FieldType := fun k => match k with
  | 0 => .array .int
  | 1 => .array .int
  | 2 => .int
  | 3 => .int
  | 4 => .array .boolean
  | 5 => .array .int
  | 6 => .int
  | 7 => .int
  | 8 => .int
  | 9 => .array .int
  | 10 => .int
  | 11 => .int
  | 12 => .array .int
  | 13 => .array .int
  | 14 => .int
  | 15 => .array .int
  | 16 => .array .boolean
  | _ => .int
abbrev ci_Mod : Nat := 7
def R_Law : String := "VersionedTextLaw"
def nm_Text : String := "VersionedText$Text"
def nm_Row : String := "VersionedText$RowText"
abbrev vwCl : List vw_C := [(R_Clu, F_Clu, 3), (R_Gap, F_Gap, 3), (R_His, F_His, 4), (R_Itm, F_Itm, 5), (R_Row, F_Row, 2), (R_Sea, F_Sea, 5), (R_VT, F_VT, 9), (R_Mod, F_Mod, 18)]
abbrev b_VT_init : ByteArray := prog_1_method_1_code
def y_VT_init : MethodName := ⟨R_VT, "<init>", "(I)V"⟩
abbrev rm_VT_init : Room := { frames := 3, cells := 41, slots := 2615, locals := 62 }
abbrev b_Gap_init : ByteArray := prog_3_method_1_code
def y_Gap_init : MethodName := ⟨R_Gap, "<init>", "(I)V"⟩
abbrev rm_Gap_init : Room := { frames := 1, cells := 1, slots := 160, locals := 20 }
abbrev b_Row_init : ByteArray := prog_6_method_1_code
def y_Row_init : MethodName := ⟨R_Row, "<init>", "(I)V"⟩
abbrev rm_Row_init : Room := { frames := 1, cells := 1, slots := 160, locals := 20 }
abbrev b_His_init : ByteArray := prog_4_method_1_code
def y_His_init : MethodName := ⟨R_His, "<init>", "()V"⟩
abbrev rm_His_init : Room := { frames := 2, cells := 19, slots := 1467, locals := 41 }
abbrev b_Itm_init : ByteArray := prog_5_method_1_code
def y_Itm_init : MethodName := ⟨R_Itm, "<init>", "()V"⟩
abbrev rm_Itm_init : Room := { frames := 2, cells := 2, slots := 164, locals := 40 }
abbrev b_Clu_init : ByteArray := prog_2_method_1_code
def y_Clu_init : MethodName := ⟨R_Clu, "<init>", "()V"⟩
abbrev rm_Clu_init : Room := { frames := 1, cells := 0, slots := 0, locals := 20 }
abbrev b_Sea_init : ByteArray := prog_7_method_1_code
def y_Sea_init : MethodName := ⟨R_Sea, "<init>", "()V"⟩
abbrev rm_Sea_init : Room := { frames := 1, cells := 3, slots := 73, locals := 20 }
abbrev b_VT_type : ByteArray := prog_1_method_2_code
def y_VT_type : MethodName := ⟨R_VT, "type", "(C)Z"⟩
abbrev rm_VT_type : Room := { frames := 1, cells := 0, slots := 0, locals := 21 }
abbrev b_Row_append : ByteArray := prog_6_method_7_code
def y_Row_append : MethodName := ⟨R_Row, "append", "(C)Z"⟩
abbrev rm_Row_append : Room := { frames := 0, cells := 0, slots := 0, locals := 0 }
abbrev b_VT_scrap : ByteArray := prog_1_method_3_code
def y_VT_scrap : MethodName := ⟨R_VT, "scrap", "()V"⟩
abbrev rm_VT_scrap : Room := { frames := 2, cells := 0, slots := 0, locals := 54 }
abbrev b_Row_length : ByteArray := prog_6_method_2_code
def y_Row_length : MethodName := ⟨R_Row, "length", "()I"⟩
abbrev rm_Row_length : Room := { frames := 0, cells := 0, slots := 0, locals := 0 }
abbrev b_Row_cut : ByteArray := prog_6_method_4_code
def y_Row_cut : MethodName := ⟨R_Row, "cut", "(II)V"⟩
abbrev rm_Row_cut : Room := { frames := 1, cells := 0, slots := 0, locals := 32 }
abbrev b_VT_insert : ByteArray := prog_1_method_4_code
def y_VT_insert : MethodName := ⟨R_VT, "insert", "(I)Z"⟩
abbrev rm_VT_insert : Room := { frames := 7, cells := 0, slots := 0, locals := 153 }
abbrev b_VT_canTakeClip : ByteArray := prog_1_method_24_code
def y_VT_canTakeClip : MethodName := ⟨R_VT, "canTakeClip", "(II)Z"⟩
abbrev rm_VT_canTakeClip : Room := { frames := 6, cells := 0, slots := 0, locals := 131 }
abbrev b_VT_canEdit : ByteArray := prog_1_method_25_code
def y_VT_canEdit : MethodName := ⟨R_VT, "canEdit", "(II)Z"⟩
abbrev rm_VT_canEdit : Room := { frames := 5, cells := 0, slots := 0, locals := 109 }
abbrev b_VT_isPlace : ByteArray := prog_1_method_23_code
def y_VT_isPlace : MethodName := ⟨R_VT, "isPlace", "(LVersionedText$Text;I)Z"⟩
abbrev rm_VT_isPlace : Room := { frames := 1, cells := 0, slots := 0, locals := 20 }
abbrev b_Gap_length : ByteArray := prog_3_method_2_code
def y_Gap_length : MethodName := ⟨R_Gap, "length", "()I"⟩
abbrev rm_Gap_length : Room := { frames := 0, cells := 0, slots := 0, locals := 0 }
abbrev b_Itm_measure : ByteArray := prog_5_method_2_code
def y_Itm_measure : MethodName := ⟨R_Itm, "measure", "(LVersionedText$Text;I)V"⟩
abbrev rm_Itm_measure : Room := { frames := 4, cells := 0, slots := 0, locals := 86 }
abbrev b_Clu_restart : ByteArray := prog_2_method_2_code
def y_Clu_restart : MethodName := ⟨R_Clu, "restart", "()V"⟩
abbrev rm_Clu_restart : Room := { frames := 0, cells := 0, slots := 0, locals := 0 }
abbrev b_Itm_begins : ByteArray := prog_5_method_7_code
def y_Itm_begins : MethodName := ⟨R_Itm, "begins", "(LVersionedText$Text;I)Z"⟩
abbrev rm_Itm_begins : Room := { frames := 3, cells := 0, slots := 0, locals := 64 }
abbrev b_Itm_beginsLine : ByteArray := prog_5_method_8_code
def y_Itm_beginsLine : MethodName := ⟨R_Itm, "beginsLine", "(LVersionedText$Text;I)Z"⟩
abbrev rm_Itm_beginsLine : Room := { frames := 2, cells := 0, slots := 0, locals := 41 }
abbrev b_Gap_at : ByteArray := prog_3_method_3_code
def y_Gap_at : MethodName := ⟨R_Gap, "at", "(I)I"⟩
abbrev rm_Gap_at : Room := { frames := 1, cells := 0, slots := 0, locals := 20 }
abbrev b_Row_at : ByteArray := prog_6_method_3_code
def y_Row_at : MethodName := ⟨R_Row, "at", "(I)I"⟩
abbrev rm_Row_at : Room := { frames := 0, cells := 0, slots := 0, locals := 0 }
abbrev b_Itm_isSecondHalf : ByteArray := prog_5_method_9_code
def y_Itm_isSecondHalf : MethodName := ⟨R_Itm, "isSecondHalf", "(LVersionedText$Text;I)Z"⟩
abbrev rm_Itm_isSecondHalf : Room := { frames := 2, cells := 0, slots := 0, locals := 41 }
abbrev b_Itm_isFirst : ByteArray := prog_5_method_11_code
def y_Itm_isFirst : MethodName := ⟨R_Itm, "isFirst", "(I)Z"⟩
abbrev rm_Itm_isFirst : Room := { frames := 0, cells := 0, slots := 0, locals := 0 }
abbrev b_Itm_isSecond : ByteArray := prog_5_method_12_code
def y_Itm_isSecond : MethodName := ⟨R_Itm, "isSecond", "(I)Z"⟩
abbrev rm_Itm_isSecond : Room := { frames := 0, cells := 0, slots := 0, locals := 0 }
abbrev b_Itm_codeAt : ByteArray := prog_5_method_10_code
def y_Itm_codeAt : MethodName := ⟨R_Itm, "codeAt", "(LVersionedText$Text;I)I"⟩
abbrev rm_Itm_codeAt : Room := { frames := 2, cells := 0, slots := 0, locals := 41 }
abbrev b_Clu_isCutBefore : ByteArray := prog_2_method_3_code
def y_Clu_isCutBefore : MethodName := ⟨R_Clu, "isCutBefore", "(I)Z"⟩
abbrev rm_Clu_isCutBefore : Room := { frames := 2, cells := 0, slots := 0, locals := 41 }
abbrev b_Clu_isJoinedTo : ByteArray := prog_2_method_4_code
def y_Clu_isJoinedTo : MethodName := ⟨R_Clu, "isJoinedTo", "(I)Z"⟩
abbrev rm_Clu_isJoinedTo : Room := { frames := 1, cells := 0, slots := 0, locals := 20 }
abbrev b_Clu_isMark : ByteArray := prog_2_method_5_code
def y_Clu_isMark : MethodName := ⟨R_Clu, "isMark", "(I)Z"⟩
abbrev rm_Clu_isMark : Room := { frames := 0, cells := 0, slots := 0, locals := 0 }
abbrev b_Clu_isPicture : ByteArray := prog_2_method_6_code
def y_Clu_isPicture : MethodName := ⟨R_Clu, "isPicture", "(I)Z"⟩
abbrev rm_Clu_isPicture : Room := { frames := 0, cells := 0, slots := 0, locals := 0 }
abbrev b_Clu_isFlag : ByteArray := prog_2_method_7_code
def y_Clu_isFlag : MethodName := ⟨R_Clu, "isFlag", "(I)Z"⟩
abbrev rm_Clu_isFlag : Room := { frames := 0, cells := 0, slots := 0, locals := 0 }
abbrev b_Itm_isInside : ByteArray := prog_5_method_6_code
def y_Itm_isInside : MethodName := ⟨R_Itm, "isInside", "(I)Z"⟩
abbrev rm_Itm_isInside : Room := { frames := 1, cells := 0, slots := 0, locals := 22 }
abbrev b_Itm_having : ByteArray := prog_5_method_5_code
def y_Itm_having : MethodName := ⟨R_Itm, "having", "(I)I"⟩
abbrev rm_Itm_having : Room := { frames := 0, cells := 0, slots := 0, locals := 0 }
abbrev b_Gap_put : ByteArray := prog_3_method_5_code
def y_Gap_put : MethodName := ⟨R_Gap, "put", "(ILVersionedText$RowText;)V"⟩
abbrev rm_Gap_put : Room := { frames := 2, cells := 0, slots := 0, locals := 54 }
abbrev b_Gap_moveGap : ByteArray := prog_3_method_7_code
def y_Gap_moveGap : MethodName := ⟨R_Gap, "moveGap", "(I)V"⟩
abbrev rm_Gap_moveGap : Room := { frames := 1, cells := 0, slots := 0, locals := 32 }
abbrev b_Row_copyInto : ByteArray := prog_6_method_8_code
def y_Row_copyInto : MethodName := ⟨R_Row, "copyInto", "([CI)V"⟩
abbrev rm_Row_copyInto : Room := { frames := 1, cells := 0, slots := 0, locals := 32 }
abbrev b_Row_put : ByteArray := prog_6_method_5_code
def y_Row_put : MethodName := ⟨R_Row, "put", "(ILVersionedText$RowText;)V"⟩
abbrev rm_Row_put : Room := { frames := 2, cells := 0, slots := 0, locals := 54 }
abbrev b_VT_clipIsTyping : ByteArray := prog_1_method_26_code
def y_VT_clipIsTyping : MethodName := ⟨R_VT, "clipIsTyping", "()Z"⟩
abbrev rm_VT_clipIsTyping : Room := { frames := 1, cells := 0, slots := 0, locals := 21 }
abbrev b_His_extendStep : ByteArray := prog_4_method_5_code
def y_His_extendStep : MethodName := ⟨R_His, "extendStep", "(LVersionedText$Text;)V"⟩
abbrev rm_His_extendStep : Room := { frames := 3, cells := 0, slots := 0, locals := 63 }
abbrev b_His_latest : ByteArray := prog_4_method_8_code
def y_His_latest : MethodName := ⟨R_His, "latest", "()LVersionedText$RowText;"⟩
abbrev rm_His_latest : Room := { frames := 0, cells := 0, slots := 0, locals := 0 }
abbrev b_Row_become : ByteArray := prog_6_method_6_code
def y_Row_become : MethodName := ⟨R_Row, "become", "(LVersionedText$Text;)V"⟩
abbrev rm_Row_become : Room := { frames := 2, cells := 0, slots := 0, locals := 41 }
abbrev b_His_addStep : ByteArray := prog_4_method_4_code
def y_His_addStep : MethodName := ⟨R_His, "addStep", "(LVersionedText$Text;)V"⟩
abbrev rm_His_addStep : Room := { frames := 3, cells := 0, slots := 0, locals := 63 }
abbrev b_VT_remove : ByteArray := prog_1_method_5_code
def y_VT_remove : MethodName := ⟨R_VT, "remove", "(II)Z"⟩
abbrev rm_VT_remove : Room := { frames := 6, cells := 0, slots := 0, locals := 131 }
abbrev b_Gap_cut : ByteArray := prog_3_method_4_code
def y_Gap_cut : MethodName := ⟨R_Gap, "cut", "(II)V"⟩
abbrev rm_Gap_cut : Room := { frames := 2, cells := 0, slots := 0, locals := 54 }
abbrev b_VT_addClosedStep : ByteArray := prog_1_method_27_code
def y_VT_addClosedStep : MethodName := ⟨R_VT, "addClosedStep", "()V"⟩
abbrev rm_VT_addClosedStep : Room := { frames := 4, cells := 0, slots := 0, locals := 84 }
abbrev b_VT_replace : ByteArray := prog_1_method_6_code
def y_VT_replace : MethodName := ⟨R_VT, "replace", "(II)Z"⟩
abbrev rm_VT_replace : Room := { frames := 7, cells := 0, slots := 0, locals := 153 }
abbrev b_VT_undo : ByteArray := prog_1_method_7_code
def y_VT_undo : MethodName := ⟨R_VT, "undo", "()Z"⟩
abbrev rm_VT_undo : Room := { frames := 4, cells := 0, slots := 0, locals := 84 }
abbrev b_His_undoable : ByteArray := prog_4_method_2_code
def y_His_undoable : MethodName := ⟨R_His, "undoable", "()I"⟩
abbrev rm_His_undoable : Room := { frames := 0, cells := 0, slots := 0, locals := 0 }
abbrev b_His_goBack : ByteArray := prog_4_method_6_code
def y_His_goBack : MethodName := ⟨R_His, "goBack", "(LVersionedText$Text;)V"⟩
abbrev rm_His_goBack : Room := { frames := 3, cells := 0, slots := 0, locals := 63 }
abbrev b_Gap_become : ByteArray := prog_3_method_6_code
def y_Gap_become : MethodName := ⟨R_Gap, "become", "(LVersionedText$Text;)V"⟩
abbrev rm_Gap_become : Room := { frames := 2, cells := 0, slots := 0, locals := 41 }
abbrev b_VT_redo : ByteArray := prog_1_method_8_code
def y_VT_redo : MethodName := ⟨R_VT, "redo", "()Z"⟩
abbrev rm_VT_redo : Room := { frames := 4, cells := 0, slots := 0, locals := 84 }
abbrev b_His_redoable : ByteArray := prog_4_method_3_code
def y_His_redoable : MethodName := ⟨R_His, "redoable", "()I"⟩
abbrev rm_His_redoable : Room := { frames := 0, cells := 0, slots := 0, locals := 0 }
abbrev b_His_goForward : ByteArray := prog_4_method_7_code
def y_His_goForward : MethodName := ⟨R_His, "goForward", "(LVersionedText$Text;)V"⟩
abbrev rm_His_goForward : Room := { frames := 3, cells := 0, slots := 0, locals := 63 }
abbrev b_VT_steps : ByteArray := prog_1_method_9_code
def y_VT_steps : MethodName := ⟨R_VT, "steps", "(I)I"⟩
abbrev rm_VT_steps : Room := { frames := 1, cells := 0, slots := 0, locals := 20 }
abbrev b_VT_seal : ByteArray := prog_1_method_10_code
def y_VT_seal : MethodName := ⟨R_VT, "seal", "()V"⟩
abbrev rm_VT_seal : Room := { frames := 0, cells := 0, slots := 0, locals := 0 }
abbrev b_VT_guard : ByteArray := prog_1_method_11_code
def y_VT_guard : MethodName := ⟨R_VT, "guard", "(I)Z"⟩
abbrev rm_VT_guard : Room := { frames := 0, cells := 0, slots := 0, locals := 0 }
abbrev b_VT_snapshot : ByteArray := prog_1_method_12_code
def y_VT_snapshot : MethodName := ⟨R_VT, "snapshot", "()I"⟩
abbrev rm_VT_snapshot : Room := { frames := 3, cells := 0, slots := 0, locals := 63 }
abbrev b_VT_release : ByteArray := prog_1_method_13_code
def y_VT_release : MethodName := ⟨R_VT, "release", "(I)Z"⟩
abbrev rm_VT_release : Room := { frames := 1, cells := 0, slots := 0, locals := 21 }
abbrev b_VT_isVersion : ByteArray := prog_1_method_21_code
def y_VT_isVersion : MethodName := ⟨R_VT, "isVersion", "(I)Z"⟩
abbrev rm_VT_isVersion : Room := { frames := 0, cells := 0, slots := 0, locals := 0 }
abbrev b_VT_unit : ByteArray := prog_1_method_14_code
def y_VT_unit : MethodName := ⟨R_VT, "unit", "(II)I"⟩
abbrev rm_VT_unit : Room := { frames := 2, cells := 0, slots := 0, locals := 41 }
abbrev b_VT_count : ByteArray := prog_1_method_15_code
def y_VT_count : MethodName := ⟨R_VT, "count", "(II)I"⟩
abbrev rm_VT_count : Room := { frames := 5, cells := 0, slots := 0, locals := 109 }
abbrev b_VT_isMetric : ByteArray := prog_1_method_22_code
def y_VT_isMetric : MethodName := ⟨R_VT, "isMetric", "(I)Z"⟩
abbrev rm_VT_isMetric : Room := { frames := 0, cells := 0, slots := 0, locals := 0 }
abbrev b_Itm_number : ByteArray := prog_5_method_3_code
def y_Itm_number : MethodName := ⟨R_Itm, "number", "()I"⟩
abbrev rm_Itm_number : Room := { frames := 0, cells := 0, slots := 0, locals := 0 }
abbrev b_VT_place : ByteArray := prog_1_method_16_code
def y_VT_place : MethodName := ⟨R_VT, "place", "(III)I"⟩
abbrev rm_VT_place : Room := { frames := 5, cells := 0, slots := 0, locals := 109 }
abbrev b_Itm_beginningOf : ByteArray := prog_5_method_4_code
def y_Itm_beginningOf : MethodName := ⟨R_Itm, "beginningOf", "(I)I"⟩
abbrev rm_Itm_beginningOf : Room := { frames := 0, cells := 0, slots := 0, locals := 0 }
abbrev b_VT_item : ByteArray := prog_1_method_17_code
def y_VT_item : MethodName := ⟨R_VT, "item", "(III)I"⟩
abbrev rm_VT_item : Room := { frames := 5, cells := 0, slots := 0, locals := 109 }
abbrev b_VT_same : ByteArray := prog_1_method_18_code
def y_VT_same : MethodName := ⟨R_VT, "same", "(II)Z"⟩
abbrev rm_VT_same : Room := { frames := 3, cells := 0, slots := 0, locals := 63 }
abbrev b_VT_haveSameUnits : ByteArray := prog_1_method_28_code
def y_VT_haveSameUnits : MethodName := ⟨R_VT, "haveSameUnits", "(LVersionedText$Text;LVersionedText$Text;)Z"⟩
abbrev rm_VT_haveSameUnits : Room := { frames := 2, cells := 0, slots := 0, locals := 41 }
abbrev b_VT_find : ByteArray := prog_1_method_19_code
def y_VT_find : MethodName := ⟨R_VT, "find", "(II)I"⟩
abbrev rm_VT_find : Room := { frames := 3, cells := 0, slots := 0, locals := 73 }
abbrev b_Sea_takePattern : ByteArray := prog_7_method_2_code
def y_Sea_takePattern : MethodName := ⟨R_Sea, "takePattern", "(LVersionedText$RowText;)Z"⟩
abbrev rm_Sea_takePattern : Room := { frames := 1, cells := 0, slots := 0, locals := 21 }
abbrev b_Sea_firstMatch : ByteArray := prog_7_method_3_code
def y_Sea_firstMatch : MethodName := ⟨R_Sea, "firstMatch", "(LVersionedText$Text;I)I"⟩
abbrev rm_Sea_firstMatch : Room := { frames := 2, cells := 0, slots := 0, locals := 49 }
abbrev b_Sea_reachFrom : ByteArray := prog_7_method_5_code
def y_Sea_reachFrom : MethodName := ⟨R_Sea, "reachFrom", "(II)V"⟩
abbrev rm_Sea_reachFrom : Room := { frames := 1, cells := 0, slots := 0, locals := 22 }
abbrev b_Sea_standsFor : ByteArray := prog_7_method_6_code
def y_Sea_standsFor : MethodName := ⟨R_Sea, "standsFor", "(II)Z"⟩
abbrev rm_Sea_standsFor : Room := { frames := 0, cells := 0, slots := 0, locals := 0 }
abbrev b_VT_end : ByteArray := prog_1_method_20_code
def y_VT_end : MethodName := ⟨R_VT, "end", "()I"⟩
abbrev rm_VT_end : Room := { frames := 1, cells := 0, slots := 0, locals := 20 }
abbrev b_Sea_matchEnd : ByteArray := prog_7_method_4_code
def y_Sea_matchEnd : MethodName := ⟨R_Sea, "matchEnd", "()I"⟩
abbrev rm_Sea_matchEnd : Room := { frames := 0, cells := 0, slots := 0, locals := 0 }
abbrev b_Law_cell : ByteArray := method_2_code
def y_Law_cell : MethodName := ⟨R_Law, "cell", "([II)I"⟩
abbrev rm_Law_cell : Room := { frames := 0, cells := 0, slots := 0, locals := 0 }
abbrev b_Mod_init : ByteArray := prog_10_method_1_code
def y_Mod_init : MethodName := ⟨R_Mod, "<init>", "(I)V"⟩
abbrev rm_Mod_init : Room := { frames := 1, cells := 9, slots := 2927, locals := 20 }
abbrev b_Mod_type : ByteArray := prog_10_method_2_code
def y_Mod_type : MethodName := ⟨R_Mod, "type", "(C)Z"⟩
abbrev rm_Mod_type : Room := { frames := 0, cells := 0, slots := 0, locals := 0 }
abbrev b_Mod_scrap : ByteArray := prog_10_method_3_code
def y_Mod_scrap : MethodName := ⟨R_Mod, "scrap", "()V"⟩
abbrev rm_Mod_scrap : Room := { frames := 0, cells := 0, slots := 0, locals := 0 }
abbrev b_Mod_insert : ByteArray := prog_10_method_19_code
def y_Mod_insert : MethodName := ⟨R_Mod, "insert", "(I)Z"⟩
abbrev rm_Mod_insert : Room := { frames := 4, cells := 0, slots := 0, locals := 92 }
abbrev b_Mod_isPlace : ByteArray := prog_10_method_18_code
def y_Mod_isPlace : MethodName := ⟨R_Mod, "isPlace", "(I)Z"⟩
abbrev rm_Mod_isPlace : Room := { frames := 0, cells := 0, slots := 0, locals := 0 }
abbrev b_Mod_lets : ByteArray := prog_10_method_13_code
def y_Mod_lets : MethodName := ⟨R_Mod, "lets", "(I)Z"⟩
abbrev rm_Mod_lets : Room := { frames := 3, cells := 0, slots := 0, locals := 69 }
abbrev b_Mod_findItems : ByteArray := prog_10_method_12_code
def y_Mod_findItems : MethodName := ⟨R_Mod, "findItems", "(II)V"⟩
abbrev rm_Mod_findItems : Room := { frames := 2, cells := 0, slots := 0, locals := 46 }
abbrev b_Mod_begin : ByteArray := prog_10_method_10_code
def y_Mod_begin : MethodName := ⟨R_Mod, "begin", "(I)V"⟩
abbrev rm_Mod_begin : Room := { frames := 0, cells := 0, slots := 0, locals := 0 }
abbrev b_Mod_findLines : ByteArray := prog_10_method_11_code
def y_Mod_findLines : MethodName := ⟨R_Mod, "findLines", "(I)V"⟩
abbrev rm_Mod_findLines : Room := { frames := 1, cells := 0, slots := 0, locals := 21 }
abbrev b_Mod_findPoints : ByteArray := prog_10_method_5_code
def y_Mod_findPoints : MethodName := ⟨R_Mod, "findPoints", "(I)V"⟩
abbrev rm_Mod_findPoints : Room := { frames := 0, cells := 0, slots := 0, locals := 0 }
abbrev b_Mod_bound : ByteArray := prog_10_method_9_code
def y_Mod_bound : MethodName := ⟨R_Mod, "bound", "(I)Z"⟩
abbrev rm_Mod_bound : Room := { frames := 1, cells := 0, slots := 0, locals := 20 }
abbrev b_Mod_isMark : ByteArray := prog_10_method_6_code
def y_Mod_isMark : MethodName := ⟨R_Mod, "isMark", "(I)Z"⟩
abbrev rm_Mod_isMark : Room := { frames := 0, cells := 0, slots := 0, locals := 0 }
abbrev b_Mod_isPicture : ByteArray := prog_10_method_7_code
def y_Mod_isPicture : MethodName := ⟨R_Mod, "isPicture", "(I)Z"⟩
abbrev rm_Mod_isPicture : Room := { frames := 0, cells := 0, slots := 0, locals := 0 }
abbrev b_Mod_isFlag : ByteArray := prog_10_method_8_code
def y_Mod_isFlag : MethodName := ⟨R_Mod, "isFlag", "(I)Z"⟩
abbrev rm_Mod_isFlag : Room := { frames := 0, cells := 0, slots := 0, locals := 0 }
abbrev b_Mod_make : ByteArray := prog_10_method_14_code
def y_Mod_make : MethodName := ⟨R_Mod, "make", "(III)V"⟩
abbrev rm_Mod_make : Room := { frames := 0, cells := 0, slots := 0, locals := 0 }
abbrev b_Mod_show : ByteArray := prog_10_method_15_code
def y_Mod_show : MethodName := ⟨R_Mod, "show", "(I)V"⟩
abbrev rm_Mod_show : Room := { frames := 0, cells := 0, slots := 0, locals := 0 }
abbrev b_Mod_step : ByteArray := prog_10_method_16_code
def y_Mod_step : MethodName := ⟨R_Mod, "step", "()V"⟩
abbrev rm_Mod_step : Room := { frames := 1, cells := 0, slots := 0, locals := 23 }
abbrev b_Mod_copy : ByteArray := prog_10_method_17_code
def y_Mod_copy : MethodName := ⟨R_Mod, "copy", "(II)V"⟩
abbrev rm_Mod_copy : Room := { frames := 0, cells := 0, slots := 0, locals := 0 }
abbrev b_Mod_remove : ByteArray := prog_10_method_20_code
def y_Mod_remove : MethodName := ⟨R_Mod, "remove", "(II)Z"⟩
abbrev rm_Mod_remove : Room := { frames := 4, cells := 0, slots := 0, locals := 92 }
abbrev b_Mod_replace : ByteArray := prog_10_method_21_code
def y_Mod_replace : MethodName := ⟨R_Mod, "replace", "(II)Z"⟩
abbrev rm_Mod_replace : Room := { frames := 4, cells := 0, slots := 0, locals := 92 }
abbrev b_Mod_undo : ByteArray := prog_10_method_22_code
def y_Mod_undo : MethodName := ⟨R_Mod, "undo", "()Z"⟩
abbrev rm_Mod_undo : Room := { frames := 0, cells := 0, slots := 0, locals := 0 }
abbrev b_Mod_redo : ByteArray := prog_10_method_23_code
def y_Mod_redo : MethodName := ⟨R_Mod, "redo", "()Z"⟩
abbrev rm_Mod_redo : Room := { frames := 0, cells := 0, slots := 0, locals := 0 }
abbrev b_Mod_steps : ByteArray := prog_10_method_24_code
def y_Mod_steps : MethodName := ⟨R_Mod, "steps", "(I)I"⟩
abbrev rm_Mod_steps : Room := { frames := 0, cells := 0, slots := 0, locals := 0 }
abbrev b_Mod_seal : ByteArray := prog_10_method_25_code
def y_Mod_seal : MethodName := ⟨R_Mod, "seal", "()V"⟩
abbrev rm_Mod_seal : Room := { frames := 0, cells := 0, slots := 0, locals := 0 }
abbrev b_Mod_guard : ByteArray := prog_10_method_26_code
def y_Mod_guard : MethodName := ⟨R_Mod, "guard", "(I)Z"⟩
abbrev rm_Mod_guard : Room := { frames := 0, cells := 0, slots := 0, locals := 0 }
abbrev b_Mod_snapshot : ByteArray := prog_10_method_27_code
def y_Mod_snapshot : MethodName := ⟨R_Mod, "snapshot", "()I"⟩
abbrev rm_Mod_snapshot : Room := { frames := 1, cells := 0, slots := 0, locals := 23 }
abbrev b_Mod_release : ByteArray := prog_10_method_28_code
def y_Mod_release : MethodName := ⟨R_Mod, "release", "(I)Z"⟩
abbrev rm_Mod_release : Room := { frames := 0, cells := 0, slots := 0, locals := 0 }
abbrev b_Mod_unit : ByteArray := prog_10_method_29_code
def y_Mod_unit : MethodName := ⟨R_Mod, "unit", "(II)I"⟩
abbrev rm_Mod_unit : Room := { frames := 1, cells := 0, slots := 0, locals := 21 }
abbrev b_Mod_slot : ByteArray := prog_10_method_4_code
def y_Mod_slot : MethodName := ⟨R_Mod, "slot", "(I)I"⟩
abbrev rm_Mod_slot : Room := { frames := 0, cells := 0, slots := 0, locals := 0 }
abbrev b_Mod_count : ByteArray := prog_10_method_31_code
def y_Mod_count : MethodName := ⟨R_Mod, "count", "(II)I"⟩
abbrev rm_Mod_count : Room := { frames := 4, cells := 0, slots := 0, locals := 92 }
abbrev b_Mod_looks : ByteArray := prog_10_method_30_code
def y_Mod_looks : MethodName := ⟨R_Mod, "looks", "(II)Z"⟩
abbrev rm_Mod_looks : Room := { frames := 3, cells := 0, slots := 0, locals := 69 }
abbrev b_Mod_place : ByteArray := prog_10_method_32_code
def y_Mod_place : MethodName := ⟨R_Mod, "place", "(III)I"⟩
abbrev rm_Mod_place : Room := { frames := 4, cells := 0, slots := 0, locals := 92 }
abbrev b_Mod_item : ByteArray := prog_10_method_33_code
def y_Mod_item : MethodName := ⟨R_Mod, "item", "(III)I"⟩
abbrev rm_Mod_item : Room := { frames := 4, cells := 0, slots := 0, locals := 92 }
abbrev b_Mod_same : ByteArray := prog_10_method_34_code
def y_Mod_same : MethodName := ⟨R_Mod, "same", "(II)Z"⟩
abbrev rm_Mod_same : Room := { frames := 1, cells := 0, slots := 0, locals := 21 }
abbrev b_Mod_find : ByteArray := prog_10_method_38_code
def y_Mod_find : MethodName := ⟨R_Mod, "find", "(II)I"⟩
abbrev rm_Mod_find : Room := { frames := 2, cells := 0, slots := 0, locals := 47 }
abbrev b_Mod_isPattern : ByteArray := prog_10_method_35_code
def y_Mod_isPattern : MethodName := ⟨R_Mod, "isPattern", "()Z"⟩
abbrev rm_Mod_isPattern : Room := { frames := 0, cells := 0, slots := 0, locals := 0 }
abbrev b_Mod_match : ByteArray := prog_10_method_37_code
def y_Mod_match : MethodName := ⟨R_Mod, "match", "(II)I"⟩
abbrev rm_Mod_match : Room := { frames := 1, cells := 0, slots := 0, locals := 21 }
abbrev b_Mod_stands : ByteArray := prog_10_method_36_code
def y_Mod_stands : MethodName := ⟨R_Mod, "stands", "(II)Z"⟩
abbrev rm_Mod_stands : Room := { frames := 0, cells := 0, slots := 0, locals := 0 }
abbrev b_Mod_end : ByteArray := prog_10_method_39_code
def y_Mod_end : MethodName := ⟨R_Mod, "end", "()I"⟩
abbrev rm_Mod_end : Room := { frames := 0, cells := 0, slots := 0, locals := 0 }
def y_Txt_length : MethodName := ⟨nm_Text, "length", "()I"⟩
def y_Txt_at : MethodName := ⟨nm_Text, "at", "(I)I"⟩
def y_Txt_cut : MethodName := ⟨nm_Text, "cut", "(II)V"⟩
def y_Txt_put : MethodName := ⟨nm_Text, "put", "(ILVersionedText$RowText;)V"⟩
def y_Txt_become : MethodName := ⟨nm_Text, "become", "(LVersionedText$Text;)V"⟩
def fwl : List (String × MethodName × MethodName) := [(R_Row, y_Txt_length, y_Row_length), (R_Row, y_Txt_at, y_Row_at), (R_Row, y_Txt_cut, y_Row_cut), (R_Row, y_Txt_put, y_Row_put), (R_Row, y_Txt_become, y_Row_become), (R_Gap, y_Txt_length, y_Gap_length), (R_Gap, y_Txt_at, y_Gap_at), (R_Gap, y_Txt_cut, y_Gap_cut), (R_Gap, y_Txt_put, y_Gap_put), (R_Gap, y_Txt_become, y_Gap_become)]
theorem fwl_ok : ∀ q ∈ fwl, q.2.1.cls ≠ "java/lang/invoke/MethodHandle" ∧ q.2.1.cls ≠ "java/lang/invoke/VarHandle" := by decide +kernel
end
section
/-! THE LAYER: the heap from the address b on is a family of N cells, cell i at b + i. -/
def ad (b i : Nat) : Nat := b + i
theorem ad_inj {b i j : Nat} (h : ad b i = ad b j) : i = j := Nat.add_left_cancel h
def hup (h : Nat → va_E) (i : Nat) (e : va_E) : Nat → va_E := fun j => if j = i then e else h j
theorem hup_eq (h : Nat → va_E) (i : Nat) (e : va_E) : hup h i e i = e := if_pos rfl
theorem hup_ne {h : Nat → va_E} {i j : Nat} {e : va_E} (hn : j ≠ i) : hup h i e j = h j := if_neg hn
/-- D (numbers of the classes), the array classes char[], int[], boolean[], Text[], RowText[], and b -/
abbrev lx_G : Type := va_G × ClassId × ClassId × ClassId × ClassId × ClassId × Nat
abbrev g_D (G : lx_G) : va_G := G.1
abbrev g_C (G : lx_G) : ClassId := G.2.1
abbrev g_I (G : lx_G) : ClassId := G.2.2.1
abbrev g_Z (G : lx_G) : ClassId := G.2.2.2.1
abbrev g_T (G : lx_G) : ClassId := G.2.2.2.2.1
abbrev g_R (G : lx_G) : ClassId := G.2.2.2.2.2.1
abbrev g_b (G : lx_G) : Nat := G.2.2.2.2.2.2
def g_ty (G : lx_G) : List (ClassId × FieldType) := [(g_C G, .char), (g_I G, .int), (g_Z G, .boolean), (g_T G, .object nm_Text), (g_R G, .object nm_Row)]
def ob (ci : Nat) (fs : List Value) : va_E := .inr (ci, fs)
def cC (G : lx_G) (n : Nat) (f : Nat → Int32) : va_E := .inl (g_C G, n, .inl f)
def cI (G : lx_G) (n : Nat) (f : Nat → Int32) : va_E := .inl (g_I G, n, .inl f)
def cZ (G : lx_G) (n : Nat) (f : Nat → Int32) : va_E := .inl (g_Z G, n, .inl f)
def cT (G : lx_G) (n : Nat) (f : Nat → Option Nat) : va_E := .inl (g_T G, n, .inr (.inr (.inr (.inr f))))
def cR (G : lx_G) (n : Nat) (f : Nat → Option Nat) : va_E := .inl (g_R G, n, .inr (.inr (.inr (.inr f))))
def Hp (G : lx_G) (N : Nat) (h : Nat → va_E) (H : Heap) : Prop := H.size = g_b G + N ∧ ∀ i, i < N → va_at (g_D G) vwCl (ad (g_b G) i, h i) H
theorem Hp.write {G : lx_G} {N i : Nat} {h : Nat → va_E} {H H1 : Heap} {e : va_E} (hH : Hp G N h H) (he : va_at (g_D G) vwCl (ad (g_b G) i, e) H1) (z : H1.size = H.size) (oq : ∀ q : Nat, q ≠ ad (g_b G) i → H1[q]? = H[q]?) : Hp G N (hup h i e) H1 := by
  refine ⟨z.trans hH.1, fun j hj => ?_⟩
  by_cases hji : j = i
  · subst hji
    rw [hup_eq]
    exact he
  · rw [hup_ne hji]
    exact (hH.2 j hj).kept (oq _ (fun q => hji (ad_inj q)))
theorem Hp.push {G : lx_G} {N : Nat} {h : Nat → va_E} {H H1 : Heap} {e : va_E} (hH : Hp G N h H) (he : va_at (g_D G) vwCl (ad (g_b G) N, e) H1) (z : H1.size = H.size + 1) (oq : ∀ q : Nat, q < H.size → H1[q]? = H[q]?) : Hp G (N + 1) (hup h N e) H1 := by
  refine ⟨by rw [z, hH.1]; omega, fun j hj => ?_⟩
  by_cases hji : j = N
  · subst hji
    rw [hup_eq]
    exact he
  · rw [hup_ne hji]
    exact (hH.2 j (by omega)).kept (oq _ (by rw [hH.1]; show g_b G + j < _; omega))
theorem Hp.one {G : lx_G} {N i : Nat} {h : Nat → va_E} {H : Heap} {e : va_E} (hH : Hp G N h H) (hi : i < N) (he : h i = e) : va_P (g_D G) vwCl [(ad (g_b G) i, e)] H := by
  intro k q hq
  have hk : k < 1 := (List.getElem?_eq_some_iff.mp hq).1
  have : k = 0 := by omega
  subst this
  cases hq
  rw [← he]
  exact hH.2 i hi
theorem Hp.at {G : lx_G} {N i : Nat} {h : Nat → va_E} {H : Heap} {e : va_E} (hH : Hp G N h H) (hi : i < N) (he : h i = e) : va_at (g_D G) vwCl (ad (g_b G) i, e) H := he ▸ hH.2 i hi
/-! the words of the tables, as the methods need them -/
def isNest : Cond → Bool
  | .methodLinkNest .. => true
  | .fieldLinkNest .. => true
  | .castable .. => true
  | _ => false
theorem isNest_on {w : Cond} (h : isNest w = true) : w.onTables = true := by
  cases w <;> first | rfl | (simp [isNest] at h)
def Tb (G : lx_G) (U : State) : Prop := (∀ w ∈ lw_tbl, goodWord w = true → w.before #[] U = true) ∧ (∀ w ∈ lw_tbl, isNest w = true → va_Nw w U) ∧ (∀ q ∈ fwl, va_Fw q.1 q.2.1 q.2.2 U) ∧ va_K (g_D G) vwCl (g_ty G) U ∧ va_AO nm_Text U ∧ va_AO nm_Row U
theorem Tb.moved {G : lx_G} {s U : State} (hW : s.WarmedH U.vm) (h : Tb G s) : Tb G U := by
  obtain ⟨h1, h2, h3, h4, h5, h6⟩ := h
  refine ⟨fun w hw hg => word_at hW (good_of_word hg) (h1 w hw hg), fun w hw hn => ?_, fun q hq => va_Fw.moved (fwl_ok q hq) hW.alike (h3 q hq), va_K.moved hW.alike h4, va_AO.moved hW.alike h5, va_AO.moved hW.alike h6⟩
  have h9 := h2 w hw hn
  cases w <;> first | exact va_Nw.warmM hW h9 | exact va_Nw.warmF hW h9 | exact va_Nw.warmC hW h9 | (simp [isNest] at hn)
theorem Tb.word {G : lx_G} {s : State} (h : Tb G s) {w : Cond} (hw : w ∈ lw_tbl) (hg : goodWord w = true) (args : Array Value) : w.before args s = true := word_at (State.WarmedH.refl s) (good_of_word hg) (h.1 w hw hg)
theorem Tb.later {G : lx_G} {s : State} (h : Tb G s) {w : Cond} (hw : w ∈ lw_tbl) (hg : goodWord w = true) : ∀ (a' : Array Value) (U : State), s.WarmedH U.vm → w.before a' U = true := fun _ _ hW => word_at hW (good_of_word hg) (h.1 w hw hg)
theorem Tb.lay {G : lx_G} {s : State} (h : Tb G s) {C : String} {T : u_T} {n : Nat} (hin : ∀ w ∈ u_ws C T n, w ∈ lw_tbl) (hg : ∀ w ∈ u_ws C T n, goodWord w = true) (args : Array Value) : ∀ w ∈ u_ws C T n, w.before args s = true := fun w hw => h.word (hin w hw) (hg w hw) args
/-! the locals -/
def LR (ls : Array Slot) (nL : Nat) (L : List (Option Value)) : Prop := ls.size = nL ∧ lv_wf ls ∧ ∀ (i : Nat) (v : Value), L[i]? = some (some v) → ls[i]? = some (.val v) ∧ v.category = 1
theorem LR.at {ls : Array Slot} {nL : Nat} {L : List (Option Value)} (h : LR ls nL L) {i : Nat} {v : Value} (hi : L[i]? = some (some v)) : ls[i]? = some (.val v) := (h.2.2 i v hi).1
def l_as (L : List (Option Value)) : List (Nat × Value) := (List.range L.length).filterMap (fun j => (L[j]?.join).map (fun v => (j, v)))
theorem l_as_mem {L : List (Option Value)} {q : Nat × Value} : q ∈ l_as L ↔ L[q.1]? = some (some q.2) := by
  unfold l_as
  rw [List.mem_filterMap]
  constructor
  · rintro ⟨j, hj, h⟩
    cases hx : L[j]? with
    | none => rw [hx] at h; simp at h
    | some o =>
      cases o with
      | none => rw [hx] at h; simp at h
      | some v =>
        rw [hx] at h
        simp at h
        subst h
        exact hx
  · intro h
    refine ⟨q.1, List.mem_range.mpr (List.getElem?_eq_some_iff.mp h).1, ?_⟩
    rw [h]
    rfl
theorem LR.has {ls : Array Slot} {nL : Nat} {L : List (Option Value)} (h : LR ls nL L) : lv_has ls nL (l_as L) := ⟨h.1, h.2.1, fun q hq => (h.2.2 q.1 q.2 (l_as_mem.mp hq)).1⟩
theorem LR.back {ls ls' : Array Slot} {nL i : Nat} {v : Value} {L : List (Option Value)} (h : LR ls nL L) (hv : v.category = 1) (h' : lv_has ls' nL ((i, v) :: (l_as L).filter (fun q => !(q.1 == i) && !(q.1 + 1 == i && q.2.category == 2)))) : LR ls' nL (L.set i (some v)) := by
  refine ⟨h'.1, h'.2.1, fun j w hj => ?_⟩
  by_cases hji : j = i
  · subst hji
    have hl : j < L.length := by
      have := (List.getElem?_eq_some_iff.mp hj).1
      rwa [List.length_set] at this
    rw [List.getElem?_set_self hl] at hj
    cases hj
    exact ⟨h'.2.2 (j, v) List.mem_cons_self, hv⟩
  · rw [List.getElem?_set_ne (Ne.symm hji)] at hj
    have hw := (h.2.2 j w hj).2
    refine ⟨h'.2.2 (j, w) (List.mem_cons_of_mem _ (List.mem_filter.mpr ⟨l_as_mem.mpr hj, ?_⟩)), hw⟩
    simp [hji, hw]
theorem lv_args_mem : ∀ (vs : List Value) (k : Nat), (∀ v ∈ vs, v.category = 1) → ∀ (i : Nat) (v : Value), vs[i]? = some v → (k + i, v) ∈ lv_args k vs
  | [], _, _, i, v, h => by simp at h
  | a :: vs, k, hc, i, v, h => by
    have ha : a.category = 1 := hc a List.mem_cons_self
    have hn : ¬ a.category = 2 := by omega
    cases i with
    | zero =>
      rw [List.getElem?_cons_zero] at h
      cases h
      exact List.mem_cons_self
    | succ i =>
      rw [List.getElem?_cons_succ] at h
      have := lv_args_mem vs (k + 1) (fun w hw => hc w (List.mem_cons_of_mem _ hw)) i v h
      rw [show k + 1 + i = k + (i + 1) by omega] at this
      show (k + (i + 1), v) ∈ (k, a) :: lv_args (if a.category = 2 then k + 2 else k + 1) vs
      rw [if_neg hn]
      exact List.mem_cons_of_mem _ this
def l_in (av : List Value) (n : Nat) : List (Option Value) := av.map some ++ List.replicate (n - av.length) none
theorem LR.entry (av : List Value) {n : Nat} (hl : (lg_sl av).length ≤ n) (hc : ∀ v ∈ av, v.category = 1) : LR ((lg_sl av ++ List.replicate (n - (lg_sl av).length) Slot.unset).toArray) n (l_in av n) := by
  have h := lv_entry av hl
  refine ⟨h.1, h.2.1, fun i v hi => ?_⟩
  have hav : av[i]? = some v := by
    unfold l_in at hi
    by_cases hlt : i < av.length
    · rw [List.getElem?_append_left (by simpa using hlt), List.getElem?_map] at hi
      cases hx : av[i]? with
      | none => rw [hx] at hi; simp at hi
      | some w => rw [hx] at hi; simp at hi; rw [hi]
    · rw [List.getElem?_append_right (by simp; omega)] at hi
      have := List.eq_of_mem_replicate (List.mem_of_getElem? hi)
      cases this
  have hm := lv_args_mem av 0 hc i v hav
  rw [Nat.zero_add] at hm
  exact ⟨h.2.2 (i, v) hm, hc v (List.mem_of_getElem? hav)⟩
/-! THE JUDGEMENT -/
abbrev lx_K : Type := Program × Launch × Env × Room × State × MethodId × Array Value × List Frame × Method × Code × (State → Prop)
abbrev k_p (k : lx_K) : Program := k.1
abbrev k_l (k : lx_K) : Launch := k.2.1
abbrev k_e (k : lx_K) : Env := k.2.2.1
abbrev k_R (k : lx_K) : Room := k.2.2.2.1
abbrev k_s (k : lx_K) : State := k.2.2.2.2.1
abbrev k_m (k : lx_K) : MethodId := k.2.2.2.2.2.1
abbrev k_a (k : lx_K) : Array Value := k.2.2.2.2.2.2.1
abbrev k_b (k : lx_K) : List Frame := k.2.2.2.2.2.2.2.1
abbrev k_M (k : lx_K) : Method := k.2.2.2.2.2.2.2.2.1
abbrev k_c (k : lx_K) : Code := k.2.2.2.2.2.2.2.2.2.1
abbrev k_Q (k : lx_K) : State → Prop := k.2.2.2.2.2.2.2.2.2.2
def Ev (k : lx_K) (G : lx_G) (nL N cells slots : Nat) (h : Nat → va_E) (pc : Nat) (L : List (Option Value)) (st : List Value) : Prop :=
  ∀ (H : Heap) (locs : List Loc) (ls : Array Slot), Hp G N h H → va_S (fun q => g_b G ≤ q) (k_s k).heap H locs → LR ls nL L →
    W (k_p k) (k_l k) (k_e k) (k_R k) (k_s k) (k_m k) (k_a k) (k_b k) (k_M k) (k_c k) H locs cells slots (k_Q k) (F0 (k_m k) pc ls st)
/-- what a method's walk may use -/
def Cx (k : lx_K) (G : lx_G) (own : String) (cc : ByteArray) (nL : Nat) (R : Room) : Prop :=
  (k_p k).tables.exec = Jvm.exec ∧ (k_c k).code = cc ∧ (k_c k).maxLocals = nL ∧ (k_s k).vm.findClass own = some (k_m k).cls ∧ Tb G (k_s k) ∧ g_b G ≤ (k_s k).heap.size ∧ k_R k = R
/-- a contract's end -/
def cq (G : lx_G) (N' : Nat) (post : Option Value → (Nat → va_E) → Prop) : Array Value → State → Outcome → State → Prop := fun _ st oc t =>
  (∃ (v : Option Value) (h' : Nat → va_E), oc = .returned v ∧ post v h' ∧ Hp G N' h' t.heap) ∧ va_F (fun q => g_b G ≤ q) st t
def Rt (k : lx_K) (G : lx_G) (ret : Option FieldType) (N' mc ms : Nat) (post : Option Value → (Nat → va_E) → Prop) : Prop :=
  k_Q k = MQ (k_b k) (cq G N' post) (k_a k) (k_s k) mc ms (fun q => g_b G ≤ q) ∧ (k_M k).sig.returnType = ret ∧ (k_M k).locks = false
/-- a contract: y, called with av in the heap h of N cells, returns v and the heap h' of N' cells, with 'post v h'' -/
def Ct (l : Launch) (G : lx_G) (y : MethodName) (cc : ByteArray) (nL : Nat) (ret : Option FieldType) (rm : Room) (N N' : Nat) (av : List Value) (h : Nat → va_E) (post : Option Value → (Nat → va_E) → Prop) : Prop :=
  Met l y [Cond.code y cc nL ret] rm (va_Pc av (fun U => Hp G N h U.heap ∧ Tb G U)) (cq G N' post) rm.cells rm.slots (fun q => g_b G ≤ q)
theorem ct_blind {G : lx_G} {N : Nat} {h : Nat → va_E} {av : List Value} : FrameBlind (va_Pc av (fun U => Hp G N h U.heap ∧ Tb G U)) := fun a U g mk q => ⟨q.1, q.2.1, Tb.moved (s := U) (U := U.calling g mk a) (State.WarmedH.refl U) q.2.2⟩
theorem ct_of {l : Launch} {G : lx_G} {y : MethodName} {cc : ByteArray} {nL : Nat} {ret : Option FieldType} {rm : Room} {N N' : Nat} {av : List Value} {h : Nat → va_E} {post : Option Value → (Nat → va_E) → Prop}
    (hy : plainName y.cls = true) (hl : (lg_sl av).length ≤ nL) (hc : ∀ v ∈ av, v.category = 1)
    (body : ∀ k : lx_K, Cx k G y.cls cc nL rm → Rt k G ret N' rm.cells rm.slots post → (k_M k).name = y.name → Ev k G nL N 0 0 h 0 (l_in av nL) []) : Ct l G y cc nL ret rm N N' av h post := by
  refine Met.ofW (cc := cc) (maxL := nL) (ret := ret) hy rfl ?_
  intro p e s m args below meth c s₁ B hml hv
  obtain ⟨rfl, hH, hT⟩ := hv
  have hb : g_b G ≤ s.heap.size := by rw [hH.1]; omega
  have K := body (p, l, e, rm, s, m, av.toArray, below, meth, c, MQ below (cq G N' post) av.toArray s rm.cells rm.slots (fun q => g_b G ≤ q)) ⟨B.exec, B.bytes, hml, findClass_of_methodNamed B.named, hT, hb, rfl⟩ ⟨rfl, B.returns, B.notSynchronized⟩ (name_of_methodNamed B.named B.method).1
  have W0 := K s.heap [] _ hH va_S.rf (LR.entry av hl hc)
  rw [lg_entry_eq]
  exact W0
section EV
variable {k : lx_K} {G : lx_G} {own : String} {cc : ByteArray} {nL N cells slots pc : Nat} {R : Room} {h : Nat → va_E} {L : List (Option Value)} {st : List Value}

theorem e_iconst (X : Cx k G own cc nL R) {n : Int} {v : Int32} (hd : decode cc pc = .ok (.iconst n, 1)) (hv : Int32.ofInt n = v) (kk : Ev k G nL N cells slots h (pc + 1) L (.int v :: st)) : Ev k G nL N cells slots h pc L st := fun H locs ls hH hS hL => lv_iconst X.1 X.2.1 hd hv (kk H locs ls hH hS hL)
theorem e_bipush (X : Cx k G own cc nL R) {n : Int} {v : Int32} (hd : decode cc pc = .ok (.bipush n, 2)) (hv : (Int8.ofInt n).toInt32 = v) (kk : Ev k G nL N cells slots h (pc + 2) L (.int v :: st)) : Ev k G nL N cells slots h pc L st := fun H locs ls hH hS hL => lv_bipush X.1 X.2.1 hd hv (kk H locs ls hH hS hL)
theorem e_sipush (X : Cx k G own cc nL R) {n : Int} {v : Int32} (hd : decode cc pc = .ok (.sipush n, 3)) (hv : (Int16.ofInt n).toInt32 = v) (kk : Ev k G nL N cells slots h (pc + 3) L (.int v :: st)) : Ev k G nL N cells slots h pc L st := fun H locs ls hH hS hL => lv_sipush X.1 X.2.1 hd hv (kk H locs ls hH hS hL)
theorem e_ldc (X : Cx k G own cc nL R) {index : Nat} {v : Int32} (hd : decode cc pc = .ok (.ldc index, 2)) (hw : Cond.constant own index v ∈ lw_tbl) (hg : goodWord (Cond.constant own index v) = true) (kk : Ev k G nL N cells slots h (pc + 2) L (.int v :: st)) : Ev k G nL N cells slots h pc L st := fun H locs ls hH hS hL => lv_ldc X.1 X.2.1 X.2.2.2.1 (X.2.2.2.2.1.word hw hg _) hd (kk H locs ls hH hS hL)
theorem e_iload_n (X : Cx k G own cc nL R) {j : Fin 4} {x : Int32} (hd : decode cc pc = .ok (.iload_n j, 1)) (hl : L[(j : Nat)]? = some (some (.int x))) (kk : Ev k G nL N cells slots h (pc + 1) L (.int x :: st)) : Ev k G nL N cells slots h pc L st := fun H locs ls hH hS hL => lv_iload_n X.1 X.2.1 hd rfl (hL.at hl) (kk H locs ls hH hS hL)
theorem e_iload (X : Cx k G own cc nL R) {j : Nat} {x : Int32} (hd : decode cc pc = .ok (.iload j, 2)) (hl : L[j]? = some (some (.int x))) (kk : Ev k G nL N cells slots h (pc + 2) L (.int x :: st)) : Ev k G nL N cells slots h pc L st := fun H locs ls hH hS hL => lv_iload X.1 X.2.1 hd (hL.at hl) (kk H locs ls hH hS hL)
theorem e_istore_n (X : Cx k G own cc nL R) {j : Fin 4} {x : Int32} (hd : decode cc pc = .ok (.istore_n j, 1)) (hj : (j : Nat) < nL) (kk : Ev k G nL N cells slots h (pc + 1) (L.set (j : Nat) (some (.int x))) st) : Ev k G nL N cells slots h pc L (.int x :: st) := fun H locs ls hH hS hL => lv_istore_n X.1 X.2.1 hd rfl hL.has hj rfl (fun ls' h9 => kk H locs ls' hH hS (hL.back rfl h9))
theorem e_istore (X : Cx k G own cc nL R) {j : Nat} {x : Int32} (hd : decode cc pc = .ok (.istore j, 2)) (hj : j < nL) (kk : Ev k G nL N cells slots h (pc + 2) (L.set j (some (.int x))) st) : Ev k G nL N cells slots h pc L (.int x :: st) := fun H locs ls hH hS hL => lv_istore X.1 X.2.1 hd hL.has hj rfl (fun ls' h9 => kk H locs ls' hH hS (hL.back rfl h9))
theorem e_aload_n (X : Cx k G own cc nL R) {j : Fin 4} {x : Nat} (hd : decode cc pc = .ok (.aload_n j, 1)) (hl : L[(j : Nat)]? = some (some (.ref x))) (kk : Ev k G nL N cells slots h (pc + 1) L (.ref x :: st)) : Ev k G nL N cells slots h pc L st := fun H locs ls hH hS hL => lv_aload_n X.1 X.2.1 hd rfl (hL.at hl) (kk H locs ls hH hS hL)
theorem e_aload (X : Cx k G own cc nL R) {j : Nat} {x : Nat} (hd : decode cc pc = .ok (.aload j, 2)) (hl : L[j]? = some (some (.ref x))) (kk : Ev k G nL N cells slots h (pc + 2) L (.ref x :: st)) : Ev k G nL N cells slots h pc L st := fun H locs ls hH hS hL => lv_aload X.1 X.2.1 hd (hL.at hl) (kk H locs ls hH hS hL)
theorem e_astore_n (X : Cx k G own cc nL R) {j : Fin 4} {x : Nat} (hd : decode cc pc = .ok (.astore_n j, 1)) (hj : (j : Nat) < nL) (kk : Ev k G nL N cells slots h (pc + 1) (L.set (j : Nat) (some (.ref x))) st) : Ev k G nL N cells slots h pc L (.ref x :: st) := fun H locs ls hH hS hL => lv_astore_n X.1 X.2.1 hd rfl hL.has hj rfl (fun ls' h9 => kk H locs ls' hH hS (hL.back rfl h9))
theorem e_astore (X : Cx k G own cc nL R) {j : Nat} {x : Nat} (hd : decode cc pc = .ok (.astore j, 2)) (hj : j < nL) (kk : Ev k G nL N cells slots h (pc + 2) (L.set j (some (.ref x))) st) : Ev k G nL N cells slots h pc L (.ref x :: st) := fun H locs ls hH hS hL => lv_astore X.1 X.2.1 hd hL.has hj rfl (fun ls' h9 => kk H locs ls' hH hS (hL.back rfl h9))
theorem e_iinc (X : Cx k G own cc nL R) {j : Nat} {n : Int} {x v : Int32} (hd : decode cc pc = .ok (.iinc j n, 3)) (hl : L[j]? = some (some (.int x))) (hv : x + Int32.ofInt n = v) (hj : j < nL) (kk : Ev k G nL N cells slots h (pc + 3) (L.set j (some (.int v))) st) : Ev k G nL N cells slots h pc L st := by
  intro H locs ls hH hS hL
  obtain ⟨p9, hp9⟩ := List.getElem?_of_mem (l_as_mem.mpr (show L[((j, Value.int x) : Nat × Value).1]? = some (some ((j, Value.int x) : Nat × Value).2) from hl))
  exact lv_iinc X.1 X.2.1 hd hL.has hp9 hv hj rfl (fun ls' h9 => kk H locs ls' hH hS (hL.back rfl h9))
theorem e_iadd (X : Cx k G own cc nL R) {x y : Int32} (hd : decode cc pc = .ok (.iadd, 1)) (kk : Ev k G nL N cells slots h (pc + 1) L (.int (x + y) :: st)) : Ev k G nL N cells slots h pc L (.int y :: .int x :: st) := fun H locs ls hH hS hL => lv_iadd X.1 X.2.1 hd (kk H locs ls hH hS hL)
theorem e_isub (X : Cx k G own cc nL R) {x y : Int32} (hd : decode cc pc = .ok (.isub, 1)) (kk : Ev k G nL N cells slots h (pc + 1) L (.int (x - y) :: st)) : Ev k G nL N cells slots h pc L (.int y :: .int x :: st) := fun H locs ls hH hS hL => lv_isub X.1 X.2.1 hd (kk H locs ls hH hS hL)
theorem e_imul (X : Cx k G own cc nL R) {x y : Int32} (hd : decode cc pc = .ok (.imul, 1)) (kk : Ev k G nL N cells slots h (pc + 1) L (.int (x * y) :: st)) : Ev k G nL N cells slots h pc L (.int y :: .int x :: st) := fun H locs ls hH hS hL => lv_imul X.1 X.2.1 hd (kk H locs ls hH hS hL)
theorem e_iand (X : Cx k G own cc nL R) {x y : Int32} (hd : decode cc pc = .ok (.iand, 1)) (kk : Ev k G nL N cells slots h (pc + 1) L (.int (x &&& y) :: st)) : Ev k G nL N cells slots h pc L (.int y :: .int x :: st) := fun H locs ls hH hS hL => lv_iand X.1 X.2.1 hd (kk H locs ls hH hS hL)
theorem e_irem (X : Cx k G own cc nL R) {x y : Int32} (hd : decode cc pc = .ok (.irem, 1)) (hne : ¬ y = 0) (kk : Ev k G nL N cells slots h (pc + 1) L (.int (x - x / y * y) :: st)) : Ev k G nL N cells slots h pc L (.int y :: .int x :: st) := fun H locs ls hH hS hL => lv_irem X.1 X.2.1 hd hne (kk H locs ls hH hS hL)
theorem e_i2c (X : Cx k G own cc nL R) {x v : Int32} (hd : decode cc pc = .ok (.i2c, 1)) (hv : (x.toUInt32 % 65536).toInt32 = v) (kk : Ev k G nL N cells slots h (pc + 1) L (.int v :: st)) : Ev k G nL N cells slots h pc L (.int x :: st) := fun H locs ls hH hS hL => lv_i2c X.1 X.2.1 hd hv (kk H locs ls hH hS hL)
theorem e_dup (X : Cx k G own cc nL R) {va : Value} (hd : decode cc pc = .ok (.dup, 1)) (hc : va.category = 1) (kk : Ev k G nL N cells slots h (pc + 1) L (va :: va :: st)) : Ev k G nL N cells slots h pc L (va :: st) := fun H locs ls hH hS hL => lv_dup X.1 X.2.1 hd hc (kk H locs ls hH hS hL)
theorem e_pop (X : Cx k G own cc nL R) {va : Value} (hd : decode cc pc = .ok (.pop, 1)) (hc : va.category = 1) (kk : Ev k G nL N cells slots h (pc + 1) L st) : Ev k G nL N cells slots h pc L (va :: st) := fun H locs ls hH hS hL => lv_pop X.1 X.2.1 hd hc (kk H locs ls hH hS hL)
theorem e_top {x y : Int32} (hv : x = y) (kk : Ev k G nL N cells slots h pc L (.int y :: st)) : Ev k G nL N cells slots h pc L (.int x :: st) := hv ▸ kk
theorem e_goto (X : Cx k G own cc nL R) {off : Int} {tgt : Nat} (hd : decode cc pc = .ok (.goto off, 3)) (ht : (pc : Int) + off = (tgt : Int)) (kk : Ev k G nL N cells slots h tgt L st) : Ev k G nL N cells slots h pc L st := fun H locs ls hH hS hL => lv_goto X.1 X.2.1 hd ht (kk H locs ls hH hS hL)
theorem e_if_eq (X : Cx k G own cc nL R) {x : Int32} {off : Int} {tgt : Nat} (hd : decode cc pc = .ok (.ifCond .eq off, 3)) (ht : (pc : Int) + off = (tgt : Int)) (kt : x = 0 → Ev k G nL N cells slots h tgt L st) (kf : ¬ (x = 0) → Ev k G nL N cells slots h (pc + 3) L st) : Ev k G nL N cells slots h pc L (.int x :: st) := fun H locs ls hH hS hL => lv_if_eq X.1 X.2.1 hd ht (fun c9 => kt c9 H locs ls hH hS hL) (fun c9 => kf c9 H locs ls hH hS hL)
theorem e_icmp_eq (X : Cx k G own cc nL R) {x y : Int32} {off : Int} {tgt : Nat} (hd : decode cc pc = .ok (.if_icmp .eq off, 3)) (ht : (pc : Int) + off = (tgt : Int)) (kt : x = y → Ev k G nL N cells slots h tgt L st) (kf : ¬ (x = y) → Ev k G nL N cells slots h (pc + 3) L st) : Ev k G nL N cells slots h pc L (.int y :: .int x :: st) := fun H locs ls hH hS hL => lv_icmp_eq X.1 X.2.1 hd ht (fun c9 => kt c9 H locs ls hH hS hL) (fun c9 => kf c9 H locs ls hH hS hL)
theorem e_if_ne (X : Cx k G own cc nL R) {x : Int32} {off : Int} {tgt : Nat} (hd : decode cc pc = .ok (.ifCond .ne off, 3)) (ht : (pc : Int) + off = (tgt : Int)) (kt : ¬ x = 0 → Ev k G nL N cells slots h tgt L st) (kf : x = 0 → Ev k G nL N cells slots h (pc + 3) L st) : Ev k G nL N cells slots h pc L (.int x :: st) := fun H locs ls hH hS hL => lv_if_ne X.1 X.2.1 hd ht (fun c9 => kt c9 H locs ls hH hS hL) (fun c9 => kf c9 H locs ls hH hS hL)
theorem e_icmp_ne (X : Cx k G own cc nL R) {x y : Int32} {off : Int} {tgt : Nat} (hd : decode cc pc = .ok (.if_icmp .ne off, 3)) (ht : (pc : Int) + off = (tgt : Int)) (kt : ¬ x = y → Ev k G nL N cells slots h tgt L st) (kf : x = y → Ev k G nL N cells slots h (pc + 3) L st) : Ev k G nL N cells slots h pc L (.int y :: .int x :: st) := fun H locs ls hH hS hL => lv_icmp_ne X.1 X.2.1 hd ht (fun c9 => kt c9 H locs ls hH hS hL) (fun c9 => kf c9 H locs ls hH hS hL)
theorem e_if_lt (X : Cx k G own cc nL R) {x : Int32} {off : Int} {tgt : Nat} (hd : decode cc pc = .ok (.ifCond .lt off, 3)) (ht : (pc : Int) + off = (tgt : Int)) (kt : x < 0 → Ev k G nL N cells slots h tgt L st) (kf : ¬ (x < 0) → Ev k G nL N cells slots h (pc + 3) L st) : Ev k G nL N cells slots h pc L (.int x :: st) := fun H locs ls hH hS hL => lv_if_lt X.1 X.2.1 hd ht (fun c9 => kt c9 H locs ls hH hS hL) (fun c9 => kf c9 H locs ls hH hS hL)
theorem e_icmp_lt (X : Cx k G own cc nL R) {x y : Int32} {off : Int} {tgt : Nat} (hd : decode cc pc = .ok (.if_icmp .lt off, 3)) (ht : (pc : Int) + off = (tgt : Int)) (kt : x < y → Ev k G nL N cells slots h tgt L st) (kf : ¬ (x < y) → Ev k G nL N cells slots h (pc + 3) L st) : Ev k G nL N cells slots h pc L (.int y :: .int x :: st) := fun H locs ls hH hS hL => lv_icmp_lt X.1 X.2.1 hd ht (fun c9 => kt c9 H locs ls hH hS hL) (fun c9 => kf c9 H locs ls hH hS hL)
theorem e_if_ge (X : Cx k G own cc nL R) {x : Int32} {off : Int} {tgt : Nat} (hd : decode cc pc = .ok (.ifCond .ge off, 3)) (ht : (pc : Int) + off = (tgt : Int)) (kt : 0 ≤ x → Ev k G nL N cells slots h tgt L st) (kf : ¬ (0 ≤ x) → Ev k G nL N cells slots h (pc + 3) L st) : Ev k G nL N cells slots h pc L (.int x :: st) := fun H locs ls hH hS hL => lv_if_ge X.1 X.2.1 hd ht (fun c9 => kt c9 H locs ls hH hS hL) (fun c9 => kf c9 H locs ls hH hS hL)
theorem e_icmp_ge (X : Cx k G own cc nL R) {x y : Int32} {off : Int} {tgt : Nat} (hd : decode cc pc = .ok (.if_icmp .ge off, 3)) (ht : (pc : Int) + off = (tgt : Int)) (kt : y ≤ x → Ev k G nL N cells slots h tgt L st) (kf : ¬ (y ≤ x) → Ev k G nL N cells slots h (pc + 3) L st) : Ev k G nL N cells slots h pc L (.int y :: .int x :: st) := fun H locs ls hH hS hL => lv_icmp_ge X.1 X.2.1 hd ht (fun c9 => kt c9 H locs ls hH hS hL) (fun c9 => kf c9 H locs ls hH hS hL)
theorem e_if_gt (X : Cx k G own cc nL R) {x : Int32} {off : Int} {tgt : Nat} (hd : decode cc pc = .ok (.ifCond .gt off, 3)) (ht : (pc : Int) + off = (tgt : Int)) (kt : 0 < x → Ev k G nL N cells slots h tgt L st) (kf : ¬ (0 < x) → Ev k G nL N cells slots h (pc + 3) L st) : Ev k G nL N cells slots h pc L (.int x :: st) := fun H locs ls hH hS hL => lv_if_gt X.1 X.2.1 hd ht (fun c9 => kt c9 H locs ls hH hS hL) (fun c9 => kf c9 H locs ls hH hS hL)
theorem e_icmp_gt (X : Cx k G own cc nL R) {x y : Int32} {off : Int} {tgt : Nat} (hd : decode cc pc = .ok (.if_icmp .gt off, 3)) (ht : (pc : Int) + off = (tgt : Int)) (kt : y < x → Ev k G nL N cells slots h tgt L st) (kf : ¬ (y < x) → Ev k G nL N cells slots h (pc + 3) L st) : Ev k G nL N cells slots h pc L (.int y :: .int x :: st) := fun H locs ls hH hS hL => lv_icmp_gt X.1 X.2.1 hd ht (fun c9 => kt c9 H locs ls hH hS hL) (fun c9 => kf c9 H locs ls hH hS hL)
theorem e_if_le (X : Cx k G own cc nL R) {x : Int32} {off : Int} {tgt : Nat} (hd : decode cc pc = .ok (.ifCond .le off, 3)) (ht : (pc : Int) + off = (tgt : Int)) (kt : x ≤ 0 → Ev k G nL N cells slots h tgt L st) (kf : ¬ (x ≤ 0) → Ev k G nL N cells slots h (pc + 3) L st) : Ev k G nL N cells slots h pc L (.int x :: st) := fun H locs ls hH hS hL => lv_if_le X.1 X.2.1 hd ht (fun c9 => kt c9 H locs ls hH hS hL) (fun c9 => kf c9 H locs ls hH hS hL)
theorem e_icmp_le (X : Cx k G own cc nL R) {x y : Int32} {off : Int} {tgt : Nat} (hd : decode cc pc = .ok (.if_icmp .le off, 3)) (ht : (pc : Int) + off = (tgt : Int)) (kt : x ≤ y → Ev k G nL N cells slots h tgt L st) (kf : ¬ (x ≤ y) → Ev k G nL N cells slots h (pc + 3) L st) : Ev k G nL N cells slots h pc L (.int y :: .int x :: st) := fun H locs ls hH hS hL => lv_icmp_le X.1 X.2.1 hd ht (fun c9 => kt c9 H locs ls hH hS hL) (fun c9 => kf c9 H locs ls hH hS hL)
end EV
end
section
/-! fields, arrays, calls, returns -/
theorem Cx.R {k : lx_K} {G : lx_G} {own : String} {cc : ByteArray} {nL : Nat} {R : Room} (X : Cx k G own cc nL R) : k_R k = R := X.2.2.2.2.2.2
theorem Cx.tb {k : lx_K} {G : lx_G} {own : String} {cc : ByteArray} {nL : Nat} {R : Room} (X : Cx k G own cc nL R) : Tb G (k_s k) := X.2.2.2.2.1
theorem Cx.own {k : lx_K} {G : lx_G} {own : String} {cc : ByteArray} {nL : Nat} {R : Room} (X : Cx k G own cc nL R) : (k_s k).vm.findClass own = some (k_m k).cls := X.2.2.2.1
theorem Tb.K {G : lx_G} {s : State} (h : Tb G s) : va_K (g_D G) vwCl (g_ty G) s := h.2.2.2.1
/-- a class by its number: name, fields, how many, their types -/
def CK (ci : Nat) (C : String) (T : u_T) (n : Nat) (ty0 : Nat → FieldType) : Prop := vwCl[ci]? = some (C, T, n) ∧ (∀ w ∈ u_ws C T n, w ∈ lw_tbl) ∧ (∀ w ∈ u_ws C T n, goodWord w = true) ∧ (∀ k, k < n → parseFieldDescriptor (T k).2.2.1 = some (ty0 k)) ∧ ∀ a, a < n → ∀ b, b < n → a ≠ b → (T a).2.1 ≠ (T b).2.1
/-- own's pool number idx is field kf of class ci -/
def FL (own : String) (idx ci kf : Nat) (fin : Bool) (ty : FieldType) : Prop := ∃ (C : String) (T : u_T) (n : Nat) (ty0 : Nat → FieldType), CK ci C T n ty0 ∧ kf < n ∧ Cond.fieldLink own idx (T kf).1 (T kf).2.1 (T kf).2.2.1 ∈ lw_tbl ∧ goodWord (Cond.fieldLink own idx (T kf).1 (T kf).2.1 (T kf).2.2.1) = true ∧ (T kf).2.2.2 = fin ∧ ty0 kf = ty ∧ (fin = true → (T kf).1 = own)
section EF
variable {k : lx_K} {G : lx_G} {own : String} {cc : ByteArray} {nL N cells slots pc : Nat} {R : Room} {h : Nat → va_E} {L : List (Option Value)} {st : List Value}
theorem e_get (X : Cx k G own cc nL R) {i idx ci kf : Nat} {fin : Bool} {ty : FieldType} {fs : List Value} {v : Value} (hd : decode cc pc = .ok (.getfield idx, 3)) (hF : FL own idx ci kf fin ty) (hc : h i = ob ci fs) (hi : i < N) (hv : fs[kf]? = some v) (kk : Ev k G nL N cells slots h (pc + 3) L (v :: st)) : Ev k G nL N cells slots h pc L (.ref (ad (g_b G) i) :: st) := by
  intro H locs ls hH hS hL
  obtain ⟨C, T, n, ty0, ⟨c1, c2, c3, c4, c5⟩, f1, f2, f3, f4, f5, f6⟩ := hF
  exact va_get X.1 X.2.1 (X.tb.lay c2 c3 _) (fun w h9 => h9) X.own X.tb.K (hH.one hi hc) 0 rfl c1 kf f1 (X.tb.word f2 f3 _) (fun _ h9 => h9) hv hd (kk H locs ls hH hS hL)
theorem e_put (X : Cx k G own cc nL R) {i idx ci kf : Nat} {ty : FieldType} {fs : List Value} {v : Value} (hd : decode cc pc = .ok (.putfield idx, 3)) (hF : FL own idx ci kf false ty) (hc : h i = ob ci fs) (hi : i < N) (hl : kf < fs.length) (hn : narrow ty v = v) (hfit : fits ty v = true) (kk : Ev k G nL N cells slots (hup h i (ob ci (fs.set kf v))) (pc + 3) L st) : Ev k G nL N cells slots h pc L (v :: .ref (ad (g_b G) i) :: st) := by
  intro H locs ls hH hS hL
  obtain ⟨C, T, n, ty0, ⟨c1, c2, c3, c4, c5⟩, f1, f2, f3, f4, f5, f6⟩ := hF
  have hts := X.tb.lay c2 c3 (k_a k)
  have hin : ∀ w ∈ u_ws C T n, w ∈ u_ws C T n := fun w h9 => h9
  have hK := X.tb.K
  have hap := va_apart (own := own) hts hin ty0 c4 c5 hK c1
  have hat : va_at (g_D G) vwCl (ad (g_b G) i, .inr (ci, fs)) H := hH.at hi hc
  obtain ⟨r, h1, cell, q1, q2, q3, q4⟩ := hat
  have hr : r = (C, T, n) := Option.some.inj (h1.symm.trans c1)
  subst hr
  obtain ⟨hSs, hfc, kC, hkC, hkind⟩ := hK.1 ci _ c1
  obtain ⟨cf, kf', fi, f, hi', hsl⟩ := hSs kf f1
  have hlay := hts _ (hin _ (u_in_lay f1))
  unfold u_lay at hlay
  rw [if_neg (by rw [f4]; decide)] at hlay
  have hst := (u_facts hfc hkC (u_lays hts hin f1) hi').1
  have hd' : parseFieldDescriptor (T kf).2.2.1 = some ty := by rw [c4 kf f1, f5]
  have h6 := u_store hfc hkC hkind hlay hi' hd' hn hfit
  refine W.putK X.1 X.2.1 (f := f) ⟨X.own, X.tb.word f2 f3 _, ⟨_, _, _, hi'⟩, hst⟩ (by rw [q2]; exact h6) q1 q3 (by rw [hsl]; exact k2_hasslot (q4 kf f1)) rfl rfl hd fun H' e1 e2 e3 => ?_
  rw [hsl] at e1 ⊢
  exact kk H' _ ls (hH.write ⟨_, c1, t_OB.to (V := updV (vp_V fs) kf v) ⟨_, e1, q2, q3, t_set q4 hap f1 v⟩ (fun j _ => vp_updV_set hl v j)⟩ e2 e3) (hS.put e2 e3 (Nat.le_add_right _ _)) hL
theorem e_putF (X : Cx k G own cc nL R) {i idx ci kf : Nat} {ty : FieldType} {fs : List Value} {v : Value} (hin2 : (k_M k).name = "<init>") (hd : decode cc pc = .ok (.putfield idx, 3)) (hF : FL own idx ci kf true ty) (hc : h i = ob ci fs) (hi : i < N) (hl : kf < fs.length) (hn : narrow ty v = v) (hfit : fits ty v = true) (kk : Ev k G nL N cells slots (hup h i (ob ci (fs.set kf v))) (pc + 3) L st) : Ev k G nL N cells slots h pc L (v :: .ref (ad (g_b G) i) :: st) := by
  intro H locs ls hH hS hL
  obtain ⟨C, T, n, ty0, ⟨c1, c2, c3, c4, c5⟩, f1, f2, f3, f4, f5, f6⟩ := hF
  have hts := X.tb.lay c2 c3 (k_a k)
  have hin : ∀ w ∈ u_ws C T n, w ∈ u_ws C T n := fun w h9 => h9
  have hK := X.tb.K
  have hap := va_apart (own := own) hts hin ty0 c4 c5 hK c1
  have hat : va_at (g_D G) vwCl (ad (g_b G) i, .inr (ci, fs)) H := hH.at hi hc
  obtain ⟨r, h1, cell, q1, q2, q3, q4⟩ := hat
  have hr : r = (C, T, n) := Option.some.inj (h1.symm.trans c1)
  subst hr
  obtain ⟨hSs, hfc, kC, hkC, hkind⟩ := hK.1 ci _ c1
  obtain ⟨cf, kf', fi, f, hi', hsl⟩ := hSs kf f1
  have hlay := hts _ (hin _ (u_in_lay f1))
  unfold u_lay at hlay
  rw [if_pos f4] at hlay
  have hst := (u_facts hfc hkC (u_lays hts hin f1) hi').1
  have hd' : parseFieldDescriptor (T kf).2.2.1 = some ty := by rw [c4 kf f1, f5]
  have hcf : (k_m k).cls = cf := by
    obtain ⟨_, _, c', _, _, _, -, -, hf', -, -, -, hown2, -⟩ := Cond.laysFinal_spec hlay
    have e1 : c' = cf := by have := hi'.symm.trans hf'; simp at this; exact this.1.symm
    rw [f6 rfl] at hown2
    rw [← e1]; exact Option.some.inj (X.own.symm.trans hown2)
  have h6 := u_fits hfc hkC hkind (Or.inr hlay) hi' hd' hn hfit
  refine W.putFinK X.1 X.2.1 X.own (X.tb.word f2 f3 _) hi' hst hcf hin2 (by rw [q2]; exact h6) q1 q3 (by rw [hsl]; exact k2_hasslot (q4 kf f1)) rfl rfl hd fun H' e1 e2 e3 => ?_
  rw [hsl] at e1 ⊢
  exact kk H' _ ls (hH.write ⟨_, c1, t_OB.to (V := updV (vp_V fs) kf v) ⟨_, e1, q2, q3, t_set q4 hap f1 v⟩ (fun j _ => vp_updV_set hl v j)⟩ e2 e3) (hS.put e2 e3 (Nat.le_add_right _ _)) hL
theorem e_iald (X : Cx k G own cc nL R) {i n j : Nat} {f : Nat → Int32} (hd : decode cc pc = .ok (.iaload, 1)) (hc : h i = cI G n f) (hi : i < N) (hj : j < n) (hn : n < 2 ^ 31) (kk : Ev k G nL N cells slots h (pc + 1) L (.int (f j) :: st)) : Ev k G nL N cells slots h pc L (.int (nI j) :: .ref (ad (g_b G) i) :: st) := by
  intro H locs ls hH hS hL
  refine va_iald X.1 X.2.1 X.tb.K (hH.one hi hc) 0 1 rfl rfl (vp_in_nI hj hn) hd ?_
  rw [nI_clamp (Nat.lt_trans hj hn)]
  exact kk H locs ls hH hS hL
theorem e_cald (X : Cx k G own cc nL R) {i n j : Nat} {f : Nat → Int32} (hd : decode cc pc = .ok (.caload, 1)) (hc : h i = cC G n f) (hi : i < N) (hj : j < n) (hn : n < 2 ^ 31) (kk : Ev k G nL N cells slots h (pc + 1) L (.int (f j) :: st)) : Ev k G nL N cells slots h pc L (.int (nI j) :: .ref (ad (g_b G) i) :: st) := by
  intro H locs ls hH hS hL
  refine va_cald X.1 X.2.1 X.tb.K (hH.one hi hc) 0 0 rfl rfl (vp_in_nI hj hn) hd ?_
  rw [nI_clamp (Nat.lt_trans hj hn)]
  exact kk H locs ls hH hS hL
theorem e_zald (X : Cx k G own cc nL R) {i n j : Nat} {f : Nat → Int32} (hd : decode cc pc = .ok (.baload, 1)) (hc : h i = cZ G n f) (hi : i < N) (hj : j < n) (hn : n < 2 ^ 31) (kk : Ev k G nL N cells slots h (pc + 1) L (.int (f j) :: st)) : Ev k G nL N cells slots h pc L (.int (nI j) :: .ref (ad (g_b G) i) :: st) := by
  intro H locs ls hH hS hL
  refine va_zald X.1 X.2.1 X.tb.K (hH.one hi hc) 0 2 rfl rfl (vp_in_nI hj hn) hd ?_
  rw [nI_clamp (Nat.lt_trans hj hn)]
  exact kk H locs ls hH hS hL
theorem e_tald (X : Cx k G own cc nL R) {i n j a : Nat} {f : Nat → Option Nat} (hd : decode cc pc = .ok (.aaload, 1)) (hc : h i = cT G n f) (hi : i < N) (hj : j < n) (hn : n < 2 ^ 31) (hv : f j = some a) (kk : Ev k G nL N cells slots h (pc + 1) L (.ref a :: st)) : Ev k G nL N cells slots h pc L (.int (nI j) :: .ref (ad (g_b G) i) :: st) := by
  intro H locs ls hH hS hL
  refine va_aldq X.1 X.2.1 X.tb.K (hH.one hi hc) 0 3 rfl rfl (vp_in_nI hj hn) hd ?_
  rw [nI_clamp (Nat.lt_trans hj hn), hv]
  exact kk H locs ls hH hS hL
theorem e_rald (X : Cx k G own cc nL R) {i n j a : Nat} {f : Nat → Option Nat} (hd : decode cc pc = .ok (.aaload, 1)) (hc : h i = cR G n f) (hi : i < N) (hj : j < n) (hn : n < 2 ^ 31) (hv : f j = some a) (kk : Ev k G nL N cells slots h (pc + 1) L (.ref a :: st)) : Ev k G nL N cells slots h pc L (.int (nI j) :: .ref (ad (g_b G) i) :: st) := by
  intro H locs ls hH hS hL
  refine va_aldq X.1 X.2.1 X.tb.K (hH.one hi hc) 0 4 rfl rfl (vp_in_nI hj hn) hd ?_
  rw [nI_clamp (Nat.lt_trans hj hn), hv]
  exact kk H locs ls hH hS hL
theorem e_clen (X : Cx k G own cc nL R) {i n : Nat} {f : Nat → Int32} (hd : decode cc pc = .ok (.arraylength, 1)) (hc : h i = cC G n f) (hi : i < N) (kk : Ev k G nL N cells slots h (pc + 1) L (.int (nI n) :: st)) : Ev k G nL N cells slots h pc L (.ref (ad (g_b G) i) :: st) := by
  intro H locs ls hH hS hL
  exact va_alen X.1 X.2.1 X.tb.K (hH.one hi hc) 0 0 rfl rfl rfl hd (kk H locs ls hH hS hL)
theorem e_iast (X : Cx k G own cc nL R) {i n j : Nat} {f : Nat → Int32} {x : Int32} (hd : decode cc pc = .ok (.iastore, 1)) (hc : h i = cI G n f) (hi : i < N) (hj : j < n) (hn : n < 2 ^ 31) (kk : Ev k G nL N cells slots (hup h i (cI G n (upd f j x))) (pc + 1) L st) : Ev k G nL N cells slots h pc L (.int x :: .int (nI j) :: .ref (ad (g_b G) i) :: st) := by
  intro H locs ls hH hS hL
  have hat : va_at (g_D G) vwCl (ad (g_b G) i, .inl (g_I G, n, .inl f)) H := hH.at hi hc
  refine W.iast X.1 X.2.1 hat ((X.tb.K.2 1 _ rfl).1 n (fun j => .int (f j))) (fun q => by cases q) (by show ¬ (nI j < 0 ∨ (arrV _ _ _).slots.size ≤ _); rw [arrV_size]; exact vp_in_nI hj hn) rfl rfl hd fun H1 e z oq => ?_
  refine kk H1 _ ls (hH.write ?_ z oq) (hS.put z oq (Nat.le_add_right _ _)) hL
  show H1[ad (g_b G) i]? = some (vp_cell _ _)
  rw [e, vp_cell_i, vp_cell_i, arrV_store, nI_clamp (Nat.lt_trans hj hn)]
  congr 2
  funext q
  by_cases hq : q = j
  · subst hq
    simp [updV, upd]
  · simp [updV, upd, hq]
theorem e_cast (X : Cx k G own cc nL R) {i n j : Nat} {f : Nat → Int32} {x : Int32} (hd : decode cc pc = .ok (.castore, 1)) (hc : h i = cC G n f) (hi : i < N) (hj : j < n) (hn : n < 2 ^ 31) (hx : narrow .char (.int x) = .int x) (kk : Ev k G nL N cells slots (hup h i (cC G n (upd f j x))) (pc + 1) L st) : Ev k G nL N cells slots h pc L (.int x :: .int (nI j) :: .ref (ad (g_b G) i) :: st) := by
  intro H locs ls hH hS hL
  have hat : va_at (g_D G) vwCl (ad (g_b G) i, .inl (g_C G, n, .inl f)) H := hH.at hi hc
  refine W.cast X.1 X.2.1 hat ((X.tb.K.2 0 _ rfl).1 n (fun j => .int (f j))) (fun q => by cases q) (by show ¬ (nI j < 0 ∨ (arrV _ _ _).slots.size ≤ _); rw [arrV_size]; exact vp_in_nI hj hn) rfl rfl hd fun H1 e z oq => ?_
  refine kk H1 _ ls (hH.write ?_ z oq) (hS.put z oq (Nat.le_add_right _ _)) hL
  show H1[ad (g_b G) i]? = some (vp_cell _ _)
  rw [e, hx, vp_cell_i, vp_cell_i, arrV_store, nI_clamp (Nat.lt_trans hj hn)]
  congr 2
  funext q
  by_cases hq : q = j
  · subst hq
    simp [updV, upd]
  · simp [updV, upd, hq]
theorem e_zast (X : Cx k G own cc nL R) {i n j : Nat} {f : Nat → Int32} {x : Int32} (hd : decode cc pc = .ok (.bastore, 1)) (hc : h i = cZ G n f) (hi : i < N) (hj : j < n) (hn : n < 2 ^ 31) (hx : narrow .boolean (.int x) = .int x) (kk : Ev k G nL N cells slots (hup h i (cZ G n (upd f j x))) (pc + 1) L st) : Ev k G nL N cells slots h pc L (.int x :: .int (nI j) :: .ref (ad (g_b G) i) :: st) := by
  intro H locs ls hH hS hL
  have hat : va_at (g_D G) vwCl (ad (g_b G) i, .inl (g_Z G, n, .inl f)) H := hH.at hi hc
  refine W.zast X.1 X.2.1 hat ((X.tb.K.2 2 _ rfl).1 n (fun j => .int (f j))) (fun q => by cases q) (by show ¬ (nI j < 0 ∨ (arrV _ _ _).slots.size ≤ _); rw [arrV_size]; exact vp_in_nI hj hn) rfl rfl hd fun H1 e z oq => ?_
  refine kk H1 _ ls (hH.write ?_ z oq) (hS.put z oq (Nat.le_add_right _ _)) hL
  show H1[ad (g_b G) i]? = some (vp_cell _ _)
  rw [e, hx, vp_cell_i, vp_cell_i, arrV_store, nI_clamp (Nat.lt_trans hj hn)]
  congr 2
  funext q
  by_cases hq : q = j
  · subst hq
    simp [updV, upd]
  · simp [updV, upd, hq]
/-- returns -/
theorem e_ireturn (X : Cx k G own cc nL R) {ty : FieldType} {v : Int32} {post : Option Value → (Nat → va_E) → Prop} (hQ : Rt k G (some ty) N cells slots post) (hd : decode cc pc = .ok (.ireturn, 1)) (hn : narrow ty (.int v) = .int v) (hp : post (some (.int v)) h) : Ev k G nL N cells slots h pc L [.int v] := by
  intro H locs ls hH hS hL
  rw [hQ.1]
  exact W.zret X.1 X.2.1 hQ.2.1 hn (fun t ht hW => ⟨⟨some (.int v), h, rfl, hp, by rw [ht]; exact hH⟩, hS.F ht⟩) hS.2.2 hd hQ.2.2
theorem e_areturn (X : Cx k G own cc nL R) {C : String} {a : Nat} {post : Option Value → (Nat → va_E) → Prop} (hQ : Rt k G (some (.object C)) N cells slots post) (hd : decode cc pc = .ok (.areturn, 1)) (hp : post (some (.ref a)) h) : Ev k G nL N cells slots h pc L [.ref a] := by
  intro H locs ls hH hS hL
  rw [hQ.1]
  exact W.aret X.1 X.2.1 hQ.2.1 (Or.inl ⟨C, rfl⟩) (Or.inr ⟨a, rfl⟩) (fun t ht hW => ⟨⟨some (.ref a), h, rfl, hp, by rw [ht]; exact hH⟩, hS.F ht⟩) hS.2.2 hd hQ.2.2
theorem e_return (X : Cx k G own cc nL R) {post : Option Value → (Nat → va_E) → Prop} (hQ : Rt k G none N cells slots post) (hd : decode cc pc = .ok (.return_, 1)) (hp : post none h) : Ev k G nL N cells slots h pc L [] := by
  intro H locs ls hH hS hL
  rw [hQ.1]
  exact W.vret X.1 X.2.1 hQ.2.1 (fun t ht hW => ⟨⟨none, h, rfl, hp, by rw [ht]; exact hH⟩, hS.F ht⟩) hS.2.2 hd hQ.2.2
end EF
end
section
/-! calls -/
/-- own's pool number idx is the method y, of n parameters; its code is known -/
def CS (own : String) (idx : Nat) (y : MethodName) (cy : ByteArray) (mL : Nat) (ret : Option FieldType) (n : Nat) : Prop :=
  Cond.code y cy mL ret ∈ lw_tbl ∧ Cond.initialized y.cls ∈ lw_tbl ∧ (y.cls ≠ "java/lang/invoke/MethodHandle" ∧ y.cls ≠ "java/lang/invoke/VarHandle") ∧ (parseMethodDescriptor y.desc).map (fun d => d.parameters.length) = some n ∧ Cond.methodLink own idx y ∈ lw_tbl
theorem gw_code {y : MethodName} {c : ByteArray} {m : Nat} {r : Option FieldType} : goodWord (.code y c m r) = true := rfl
theorem gw_init {C : String} : goodWord (.initialized C) = true := rfl
theorem gw_link {o : String} {i : Nat} {y : MethodName} : goodWord (.methodLink o i y) = true := rfl
theorem gw_static {y : MethodName} : goodWord (.static y) = true := rfl
theorem gw_inst {y : MethodName} : goodWord (.instanceMethod y) = true := rfl
theorem gw_sel {C : String} {x y : MethodName} : goodWord (.selects C x y) = true := rfl
theorem gw_cl {o : String} {i : Nat} {C : String} : goodWord (.classLink o i C) = true := rfl
theorem gw_able {C : String} {n : Nat} : goodWord (.instantiable C n) = true := rfl
theorem gw_fl {o : String} {i : Nat} {C n d : String} : goodWord (.fieldLink o i C n d) = true := rfl
theorem gw_const {o : String} {i : Nat} {v : Int32} : goodWord (.constant o i v) = true := rfl
theorem gw_native {y : MethodName} : goodWord (.native y) = true := rfl
theorem cs_w {G : lx_G} {s : State} (hT : Tb G s) {y : MethodName} {cy : ByteArray} {mL : Nat} {ret : Option FieldType} (h : Cond.code y cy mL ret ∈ lw_tbl) : ∀ w ∈ [Cond.code y cy mL ret], ∀ (a' : Array Value) (U : State), s.WarmedH U.vm → w.before a' U = true := by
  intro w hw
  rw [List.mem_singleton.mp hw]
  exact hT.later h gw_code
theorem cs_n {y : MethodName} {n : Nat} (h : (parseMethodDescriptor y.desc).map (fun d => d.parameters.length) = some n) : ∀ sig, parseMethodDescriptor y.desc = some sig → n = sig.parameters.length := by
  intro sig hs
  rw [hs] at h
  exact (Option.some.inj h).symm
theorem cs_B {G : lx_G} {s : State} (hT : Tb G s) {R rm : Room} {args : Array Value} {own : String} {idx : Nat} {y : MethodName} {cy : ByteArray} {mL : Nat} {ret : Option FieldType} {n : Nat} (h : CS own idx y cy mL ret n) (hR : rm.frames + 1 ≤ R.frames ∧ 8 + (mL + 11) + rm.locals ≤ R.locals) : CallB R s args own idx y cy mL ret [Cond.code y cy mL ret] rm rm.cells rm.slots n :=
  ⟨rfl, rfl, hR.1, hR.2, cs_w hT h.1, List.mem_singleton.mpr rfl, hT.word h.1 gw_code _, hT.word h.2.1 gw_init _, h.2.2.1, cs_n h.2.2.2.1, hT.word h.2.2.2.2 gw_link _⟩
section EC
variable {k : lx_K} {G : lx_G} {own : String} {cc : ByteArray} {nL N cells slots pc : Nat} {R : Room} {h : Nat → va_E} {L : List (Option Value)} {st : List Value}
theorem run_after {N' mc ms : Nat} {H : Heap} {locs : List Loc} {ls : Array Slot} {st0 rest : List Value} {a : Array Value} {post : Option Value → (Nat → va_E) → Prop}
    (hr : va_Run (k_p k) (k_l k) (k_e k) (k_R k) (k_s k) (k_m k) (k_a k) (k_b k) (k_M k) (k_c k) H locs cells slots mc ms (F0 (k_m k) pc ls st0) rest (cq G N' post a) (fun q => g_b G ≤ q)) (hS : va_S (fun q => g_b G ≤ q) (k_s k).heap H locs) (hL : LR ls nL L)
    (kk : ∀ (v : Option Value) (h' : Nat → va_E), post v h' → Ev k G nL N' (cells + mc) (slots + ms) h' (pc + 3) L (v.toList ++ rest)) : W (k_p k) (k_l k) (k_e k) (k_R k) (k_s k) (k_m k) (k_a k) (k_b k) (k_M k) (k_c k) H locs cells slots (k_Q k) (F0 (k_m k) pc ls st0) := by
  intro T hT X
  obtain ⟨v, st₀, t, T', Lc, h0, X', hLc, e1, e2, ⟨⟨v', h', hv, hp, hh⟩, hz, hk⟩, stp⟩ := hr T hT X
  cases hv
  rw [h0] at hz hk
  obtain ⟨t2, a1, b1⟩ := kk v h' hp T'.heap (locs ++ Lc) ls (by rw [e1]; exact hh)
    ⟨Nat.le_trans hS.1 (by rw [e1]; exact hz), fun q h1 h2 => by rw [e1, hk q (Nat.lt_of_lt_of_le h1 hS.1) h2]; exact hS.2.1 q h1 h2, fun q hq => by
      rcases List.mem_append.mp hq with h9 | h9
      · exact hS.2.2 q h9
      · exact hLc q h9⟩ hL T' rfl X'
  exact ⟨t2, stp t2 a1, b1⟩
theorem run5_after {N' mc ms : Nat} {H : Heap} {locs : List Loc} {ls : Array Slot} {st0 rest : List Value} {a : Array Value} {post : Option Value → (Nat → va_E) → Prop}
    (hr : va_Run5 (k_p k) (k_l k) (k_e k) (k_R k) (k_s k) (k_m k) (k_a k) (k_b k) (k_M k) (k_c k) H locs cells slots mc ms (F0 (k_m k) pc ls st0) rest (cq G N' post a) (fun q => g_b G ≤ q)) (hS : va_S (fun q => g_b G ≤ q) (k_s k).heap H locs) (hL : LR ls nL L)
    (kk : ∀ (v : Option Value) (h' : Nat → va_E), post v h' → Ev k G nL N' (cells + mc) (slots + ms) h' (pc + 5) L (v.toList ++ rest)) : W (k_p k) (k_l k) (k_e k) (k_R k) (k_s k) (k_m k) (k_a k) (k_b k) (k_M k) (k_c k) H locs cells slots (k_Q k) (F0 (k_m k) pc ls st0) := by
  intro T hT X
  obtain ⟨v, st₀, t, T', Lc, h0, X', hLc, e1, e2, ⟨⟨v', h', hv, hp, hh⟩, hz, hk⟩, stp⟩ := hr T hT X
  cases hv
  rw [h0] at hz hk
  obtain ⟨t2, a1, b1⟩ := kk v h' hp T'.heap (locs ++ Lc) ls (by rw [e1]; exact hh)
    ⟨Nat.le_trans hS.1 (by rw [e1]; exact hz), fun q h1 h2 => by rw [e1, hk q (Nat.lt_of_lt_of_le h1 hS.1) h2]; exact hS.2.1 q h1 h2, fun q hq => by
      rcases List.mem_append.mp hq with h9 | h9
      · exact hS.2.2 q h9
      · exact hLc q h9⟩ hL T' rfl X'
  exact ⟨t2, stp t2 a1, b1⟩
theorem e_callS (X : Cx k G own cc nL R) {idx mL n N' : Nat} {y : MethodName} {cy : ByteArray} {ret : Option FieldType} {rm : Room} {As rest : List Value} {post : Option Value → (Nat → va_E) → Prop} (hd : decode cc pc = .ok (.invokestatic idx, 3)) (hC : CS own idx y cy mL ret n) (hs : Cond.static y ∈ lw_tbl) (hM : Ct (k_l k) G y cy mL ret rm N N' As h post) (hst : st = As.reverse ++ rest) (hR : (rm.frames + 1 ≤ R.frames ∧ 8 + (mL + 11) + rm.locals ≤ R.locals) ∧ (cells + rm.cells ≤ R.cells ∧ slots + rm.slots ≤ R.slots) ∧ As.length = n) (hrs : (rest.map fun v => v.category).sum ≤ 8)
    (kk : ∀ (v : Option Value) (h' : Nat → va_E), post v h' → Ev k G nL N' (cells + rm.cells) (slots + rm.slots) h' (pc + 3) L (v.toList ++ rest)) : Ev k G nL N cells slots h pc L st := by
  intro H locs ls hH hS hL
  subst hst
  have hRk := X.R
  exact run_after (va_runS (Ts := []) (rest := rest) (As := As) ⟨X.1, X.2.1, X.2.2.1, X.own, fun w h9 => by cases h9⟩ hM ⟨cs_B X.tb hC (by rw [hRk]; exact hR.1), X.tb.word hs gw_static _⟩ ⟨ct_blind, fun U hU hW => ⟨rfl, by rw [hU]; exact hH, X.tb.moved hW⟩⟩ rfl hR.2.2 hL.1 rfl (lv_room hrs) hd (by rw [hRk]; exact hR.2.1)) hS hL kk
theorem e_callV (X : Cx k G own cc nL R) {idx mL n N' i ci : Nat} {y : MethodName} {cy : ByteArray} {ret : Option FieldType} {rm : Room} {As rest fs : List Value} {C : String} {T : u_T} {nf : Nat} {post : Option Value → (Nat → va_E) → Prop} (hd : decode cc pc = .ok (.invokevirtual idx, 3)) (hC : CS own idx y cy mL ret n) (hin : Cond.instanceMethod y ∈ lw_tbl ∧ Cond.selects C y y ∈ lw_tbl) (hM : Ct (k_l k) G y cy mL ret rm N N' (.ref (ad (g_b G) i) :: As) h post) (hc : h i = ob ci fs) (hi : i < N) (hcl : vwCl[ci]? = some (C, T, nf)) (hst : st = As.reverse ++ .ref (ad (g_b G) i) :: rest) (hR : (rm.frames + 1 ≤ R.frames ∧ 8 + (mL + 11) + rm.locals ≤ R.locals) ∧ (cells + rm.cells ≤ R.cells ∧ slots + rm.slots ≤ R.slots) ∧ As.length = n) (hrs : (rest.map fun v => v.category).sum ≤ 8)
    (kk : ∀ (v : Option Value) (h' : Nat → va_E), post v h' → Ev k G nL N' (cells + rm.cells) (slots + rm.slots) h' (pc + 3) L (v.toList ++ rest)) : Ev k G nL N cells slots h pc L st := by
  intro H locs ls hH hS hL
  subst hst
  have hRk := X.R
  exact run_after (va_runV (C := C) (Ts := []) (rest := rest) (As := As) ⟨X.1, X.2.1, X.2.2.1, X.own, fun w h9 => by cases h9⟩ hM ⟨cs_B X.tb hC (by rw [hRk]; exact hR.1), X.tb.word hin.1 gw_inst _, X.tb.word hin.2 gw_sel _⟩ ⟨ct_blind, va_recv X.tb.K (hH.one hi hc) (ci := ci) (q0 := 0) hcl rfl, fun U hU hW => ⟨rfl, by rw [hU]; exact hH, X.tb.moved hW⟩⟩ rfl hR.2.2 hL.1 rfl (lv_room hrs) hd (by rw [hRk]; exact hR.2.1)) hS hL kk
theorem e_callI (X : Cx k G own cc nL R) {idx mL n N' i : Nat} {y : MethodName} {cy : ByteArray} {rm : Room} {As rest : List Value} {post : Option Value → (Nat → va_E) → Prop} (hd : decode cc pc = .ok (.invokespecial idx, 3)) (hC : CS own idx y cy mL none n) (hin : Cond.instanceMethod y ∈ lw_tbl ∧ y.name = "<init>") (hM : Ct (k_l k) G y cy mL none rm N N' (.ref (ad (g_b G) i) :: As) h post) (hst : st = As.reverse ++ .ref (ad (g_b G) i) :: rest) (hR : (rm.frames + 1 ≤ R.frames ∧ 8 + (mL + 11) + rm.locals ≤ R.locals) ∧ (cells + rm.cells ≤ R.cells ∧ slots + rm.slots ≤ R.slots) ∧ As.length = n) (hrs : (rest.map fun v => v.category).sum ≤ 8)
    (kk : ∀ (v : Option Value) (h' : Nat → va_E), post v h' → Ev k G nL N' (cells + rm.cells) (slots + rm.slots) h' (pc + 3) L (v.toList ++ rest)) : Ev k G nL N cells slots h pc L st := by
  intro H locs ls hH hS hL
  subst hst
  have hRk := X.R
  exact run_after (va_runI (Ts := []) (rest := rest) (As := As) ⟨X.1, X.2.1, X.2.2.1, X.own, fun w h9 => by cases h9⟩ hM ⟨cs_B X.tb hC (by rw [hRk]; exact hR.1), hin.2, X.tb.word hin.1 gw_inst _⟩ ⟨ct_blind, fun U hU hW => ⟨rfl, by rw [hU]; exact hH, X.tb.moved hW⟩⟩ rfl hR.2.2 hL.1 rfl (lv_room hrs) hd (by rw [hRk]; exact hR.2.1)) hS hL kk
/-- own's pool number idx is the interface's method x, which on a receiver of class C selects y -/
def CF (own : String) (idx : Nat) (C : String) (x y : MethodName) (cy : ByteArray) (mL : Nat) (ret : Option FieldType) (n : Nat) : Prop :=
  Cond.code y cy mL ret ∈ lw_tbl ∧ Cond.initialized y.cls ∈ lw_tbl ∧ (x.cls ≠ "java/lang/invoke/MethodHandle" ∧ x.cls ≠ "java/lang/invoke/VarHandle") ∧ (parseMethodDescriptor x.desc).map (fun d => d.parameters.length) = some n ∧ Cond.methodLink own idx x ∈ lw_tbl ∧ Cond.selects C x y ∈ lw_tbl ∧ Cond.instanceMethod y ∈ lw_tbl ∧ (C, x, y) ∈ fwl
theorem e_callF (X : Cx k G own cc nL R) {idx cnt mL n N' i ci : Nat} {x y : MethodName} {cy : ByteArray} {ret : Option FieldType} {rm : Room} {As rest fs : List Value} {C : String} {T : u_T} {nf : Nat} {post : Option Value → (Nat → va_E) → Prop} (hd : decode cc pc = .ok (.invokeinterface idx cnt, 5)) (hC : CF own idx C x y cy mL ret n) (hM : Ct (k_l k) G y cy mL ret rm N N' (.ref (ad (g_b G) i) :: As) h post) (hc : h i = ob ci fs) (hi : i < N) (hcl : vwCl[ci]? = some (C, T, nf)) (hst : st = As.reverse ++ .ref (ad (g_b G) i) :: rest) (hR : (rm.frames + 1 ≤ R.frames ∧ 8 + (mL + 11) + rm.locals ≤ R.locals) ∧ (cells + rm.cells ≤ R.cells ∧ slots + rm.slots ≤ R.slots) ∧ As.length = n) (hrs : (rest.map fun v => v.category).sum ≤ 8)
    (kk : ∀ (v : Option Value) (h' : Nat → va_E), post v h' → Ev k G nL N' (cells + rm.cells) (slots + rm.slots) h' (pc + 5) L (v.toList ++ rest)) : Ev k G nL N cells slots h pc L st := by
  intro H locs ls hH hS hL
  subst hst
  have hRk := X.R
  obtain ⟨c1, c2, c3, c4, c5, c6, c7, c8⟩ := hC
  have hF := X.tb.2.2.1 _ c8
  have cw : va_CI (k_R k) (k_s k) (k_a k) own C idx x y cy mL ret [Cond.code y cy mL ret] rm rm.cells rm.slots n :=
    ⟨⟨rfl, rfl, by rw [hRk]; exact hR.1.1, by rw [hRk]; exact hR.1.2, cs_w X.tb c1, List.mem_singleton.mpr rfl⟩, X.tb.word c5 gw_link _, va_any rfl hF.1, va_any rfl hF.2.1, X.tb.word c6 gw_sel _, X.tb.word c7 gw_inst _, va_any rfl hF.2.2.1, va_any rfl hF.2.2.2.1, va_any rfl hF.2.2.2.2, X.tb.word c2 gw_init _, X.tb.word c1 gw_code _, c3, cs_n c4⟩
  exact run5_after (va_runF (C := C) (Ts := []) (rest := rest) (As := As) (X.tb.K.1 ci _ hcl).2 ⟨X.1, X.2.1, X.2.2.1, X.own, fun w h9 => by cases h9⟩ hM cw ⟨ct_blind, va_recv X.tb.K (hH.one hi hc) (ci := ci) (q0 := 0) hcl rfl, fun U hU hW => ⟨rfl, by rw [hU]; exact hH, X.tb.moved hW⟩⟩ rfl hR.2.2 hL.1 rfl (lv_room hrs) hd (by rw [hRk]; exact hR.2.1)) hS hL kk
theorem e_mmax (X : Cx k G own cc nL R) {idx : Nat} {x y : Int32} (hd : decode cc pc = .ok (.invokestatic idx, 3)) (hw : Cond.methodLink own idx Lib.Math.max.name ∈ lw_tbl ∧ Cond.static Lib.Math.max.name ∈ lw_tbl ∧ Cond.initialized "java/lang/Math" ∈ lw_tbl ∧ Cond.code Lib.Math.max.name Lib.Math.max.code 2 (some .int) ∈ lw_tbl) (hR : 1 ≤ R.frames ∧ (st.map fun v => v.category).sum + 13 ≤ R.locals ∧ cells ≤ R.cells ∧ slots ≤ R.slots) (kk : Ev k G nL N cells slots h (pc + 3) L (.int (if x < y then y else x) :: st)) : Ev k G nL N cells slots h pc L (.int y :: .int x :: st) := by
  intro H locs ls hH hS hL
  have hRk := X.R
  exact va_mmax X.1 X.2.1 (X.2.2.1.trans hL.1.symm) X.own (X.tb.word hw.1 gw_link _) (X.tb.word hw.2.1 gw_static _) (X.tb.word hw.2.2.1 gw_init _) (X.tb.word hw.2.2.2 gw_code _) (by rw [hRk]; exact hR.1) (by rw [hRk]; exact hR.2.1) (by rw [hRk]; exact hR.2.2.1) (by rw [hRk]; exact hR.2.2.2) hd (kk H locs ls hH hS hL)
/-- System.arraycopy between two char rows, which may be one -/
theorem e_ccopy (X : Cx k G own cc nL R) {idx i0 i1 n0 n1 sp dp n : Nat} {f g : Nat → Int32} (hd : decode cc pc = .ok (.invokestatic idx, 3)) (hw : Cond.methodLink own idx arraycopyName ∈ lw_tbl ∧ Cond.native arraycopyName ∈ lw_tbl ∧ Cond.static arraycopyName ∈ lw_tbl ∧ Cond.initialized "java/lang/System" ∈ lw_tbl) (hc0 : h i0 = cC G n0 f) (hi0 : i0 < N) (hc1 : h i1 = cC G n1 g) (hi1 : i1 < N) (hb0 : n0 < 2 ^ 31) (hb1 : n1 < 2 ^ 31) (h4 : sp + n ≤ n0) (h5 : dp + n ≤ n1) (hfit : ∀ i, i < n → fits .char (.int (f (sp + i))) = true)
    (hR : 1 ≤ R.frames ∧ (st.map fun v => v.category).sum + (nativeFrameWords "java/lang/System" "arraycopy" 5 + 11) ≤ R.locals) (kk : Ev k G nL N cells slots (hup h i1 (cC G n1 (va_cpy f g sp dp n))) (pc + 3) L st) : Ev k G nL N cells slots h pc L (.int (nI n) :: .int (nI dp) :: .ref (ad (g_b G) i1) :: .int (nI sp) :: .ref (ad (g_b G) i0) :: st) := by
  intro H locs ls hH hS hL T hT X1
  have hRk := X.R
  have hn' : n < 2 ^ 31 := by omega
  have hsp' : sp < 2 ^ 31 := by omega
  have hdp' : dp < 2 ^ 31 := by omega
  have hat0 : H[ad (g_b G) i0]? = some (vp_cell (g_C G) (n0, .inl f)) := hH.at hi0 hc0
  have hat1 : H[ad (g_b G) i1]? = some (vp_cell (g_C G) (n1, .inl g)) := hH.at hi1 hc1
  obtain ⟨-, k0, hk0, cm0, hkk0⟩ := (X.tb.K.2 0 _ rfl).1 n0 (fun j => .int (f j))
  obtain ⟨-, k1, hk1, cm1, hkk1⟩ := (X.tb.K.2 0 _ rfl).1 n1 (fun j => .int (g j))
  obtain ⟨vm', X', step⟩ := X1.arraycopy X.1 X.own (X.tb.word hw.1 gw_link _) (X.tb.word hw.2.1 gw_native _) (X.tb.word hw.2.2.1 gw_static _) (X.tb.word hw.2.2.2 gw_init _) (src := ad (g_b G) i0) (dst := ad (g_b G) i1) (cs := vp_cell (g_C G) (n0, .inl f)) (cd := vp_cell (g_C G) (n1, .inl g)) (srcPos := nI sp) (destPos := nI dp) (n := nI n) (by rw [hT]; exact hat0) (by rw [hT]; exact hat1)
    (fun _ h => by cases h) (fun _ h => by cases h) (fun h => by cases h) (fun h => by cases h) hk0 hk1 hkk0 hkk1 (by simp [refKind]) (nI_pos hsp') (nI_pos hdp') (nI_pos hn')
    (by rw [nI_toInt hsp', nI_toInt hn']; show ¬ _ > ((arrV (g_C G) n0 (fun j => .int (f j))).slots.size : Int); rw [arrV_size]; omega)
    (by rw [nI_toInt hdp', nI_toInt hn']; show ¬ _ > ((arrV (g_C G) n1 (fun j => .int (g j))).slots.size : Int); rw [arrV_size]; omega)
    (fun vm₁ _ i hi => by
      rw [nI_clamp hn'] at hi
      have e : (vp_cell (g_C G) (n0, .inl f)).slots.getD ((nI sp).toNatClampNeg + i) .null = .int (f (sp + i)) := by
        rw [nI_clamp hsp']
        show (arrV (g_C G) n0 (fun j => .int (f j))).slots.getD _ _ = _
        rw [Array.getD_eq_getD_getElem?, arrV_read _ _ (by omega)]
        rfl
      refine ⟨?_, ?_⟩
      · rw [e]
        exact hfit i hi
      · rw [e]
        exact trivial)
    (g := F0 (k_m k) pc ls (.int (nI n) :: .int (nI dp) :: .ref (ad (g_b G) i1) :: .int (nI sp) :: .ref (ad (g_b G) i0) :: st)) rfl (by rw [X.2.2.1]; exact hL.1) (rest := st) rfl (by rw [X.2.1]; exact hd) (by rw [hRk]; exact hR.1) (by rw [hRk]; show 2 * 0 + _ + _ ≤ _; omega)
  have e1 : copied (vp_cell (g_C G) (n0, .inl f)) (vp_cell (g_C G) (n1, .inl g)) (nI sp) (nI dp) (nI n) = vp_cell (g_C G) (n1, .inl (va_cpy f g sp dp n)) := by
    have h9 := va_copied (fun z => Value.int z) (g_C G) (g_C G) (n0 := n0) (n1 := n1) (sp := sp) (dp := dp) (n := n) f g h4
    show (arrV (g_C G) n1 (fun j => Value.int (g j))).storeRun (nI dp).toNatClampNeg ((arrV (g_C G) n0 (fun j => Value.int (f j))).stretch (nI sp).toNatClampNeg (nI n).toNatClampNeg) = _
    rw [nI_clamp hsp', nI_clamp hn', nI_clamp hdp']
    exact h9
  rw [e1] at X' step
  have hl : ad (g_b G) i1 < H.size := (Array.getElem?_eq_some_iff.mp hat1).1
  have hheap : ((T.setVm vm').setCell (ad (g_b G) i1) (vp_cell (g_C G) (n1, .inl (va_cpy f g sp dp n)))).heap = H.setIfInBounds (ad (g_b G) i1) (vp_cell (g_C G) (n1, .inl (va_cpy f g sp dp n))) := by rw [← hT]; rfl
  have oq : ∀ q : Nat, q ≠ ad (g_b G) i1 → (H.setIfInBounds (ad (g_b G) i1) (vp_cell (g_C G) (n1, .inl (va_cpy f g sp dp n))))[q]? = H[q]? := fun q hq => by simp [Array.getElem?_setIfInBounds, Ne.symm hq]
  obtain ⟨t, a1, b1⟩ := kk _ _ ls (hH.write (show (H.setIfInBounds (ad (g_b G) i1) _)[ad (g_b G) i1]? = some _ by simp [Array.getElem?_setIfInBounds, hl]) (by simp) oq) ⟨by simp; exact hS.1, fun q g1 g2 => by
      rw [oq q (fun e => g2 (by rw [e]; exact Nat.le_add_right _ _))]
      exact hS.2.1 q g1 g2, fun q hq => by
      rcases List.mem_append.mp hq with h9 | h9
      · exact hS.2.2 q h9
      · obtain ⟨z, -, hz⟩ := List.mem_map.mp h9
        rw [← hz]
        exact Nat.le_add_right _ _⟩ hL _ hheap X'
  exact ⟨t, step t a1, b1⟩
end EC
end
section
/-! new cells: for constructors -/
theorem ra_inj {U : State} {cA cB : ClassId} {ty : FieldType} (hp : ty = .char ∨ ty = .int ∨ ty = .boolean) (h1 : U.vm.findClass ("[" ++ ty.toString) = some cA) (h2 : va_RA U cB ty) : cA = cB := by
  rcases hp with rfl | rfl | rfl <;> exact Option.some.inj (h1.symm.trans h2)
section EN
variable {k : lx_K} {G : lx_G} {own : String} {cc : ByteArray} {nL N cells slots pc : Nat} {R : Room} {h : Nat → va_E} {L : List (Option Value)} {st : List Value}
theorem S_push {s : State} {H H1 : Heap} {locs : List Loc} {b : Nat} (hS : va_S (fun q => b ≤ q) s.heap H locs) (z : H1.size = H.size + 1) (o1 : ∀ q, q < H.size → H1[q]? = H[q]?) : va_S (fun q => b ≤ q) s.heap H1 locs :=
  ⟨Nat.le_trans hS.1 (by omega), fun x h1 h2 => (o1 x (Nat.lt_of_lt_of_le h1 hS.1)).trans (hS.2.1 x h1 h2), hS.2.2⟩
theorem e_objInit (X : Cx k G own cc nL R) {idx a : Nat} (hd : decode cc pc = .ok (.invokespecial idx, 3)) (hw : Cond.methodLink own idx Lib.objectInit ∈ lw_tbl ∧ Cond.instanceMethod Lib.objectInit ∈ lw_tbl ∧ Cond.code Lib.objectInit ⟨#[0xb1]⟩ 1 none ∈ lw_tbl) (hR : 1 ≤ R.frames ∧ (st.map fun v => v.category).sum + 12 ≤ R.locals) (kk : Ev k G nL N cells slots h (pc + 3) L st) : Ev k G nL N cells slots h pc L (.ref a :: st) := by
  intro H locs ls hH hS hL
  have hRk := X.R
  exact W.objInit X.1 X.2.1 X.own (X.tb.word hw.1 gw_link _) (X.tb.word hw.2.1 gw_inst _) (X.tb.word hw.2.2 gw_code _) rfl (by rw [X.2.2.1]; exact hL.1) rfl hd (by rw [hRk]; exact hR.1) (by rw [hRk]; show 2 * 0 + _ + 12 ≤ _; omega) (kk H locs ls hH hS hL)
theorem e_new (X : Cx k G own cc nL R) {idx ci n : Nat} {C : String} {T : u_T} {ty0 : Nat → FieldType} {fs : List Value} (hd : decode cc pc = .ok (.new idx, 3)) (hk : CK ci C T n ty0) (hw : Cond.classLink own idx C ∈ lw_tbl ∧ Cond.instantiable C n ∈ lw_tbl ∧ Cond.initialized C ∈ lw_tbl) (hfs : ∀ j, j < n → defaultValue (ty0 j) = vp_V fs j) (hR : cells + 1 ≤ R.cells ∧ slots + n ≤ R.slots)
    (kk : Ev k G nL (N + 1) (cells + 1) (slots + n) (hup h N (ob ci fs)) (pc + 3) L (.ref (ad (g_b G) N) :: st)) : Ev k G nL N cells slots h pc L st := by
  intro H locs ls hH hS hL
  have hRk := X.R
  obtain ⟨c1, c2, c3, c4, c5⟩ := hk
  have hKn := X.tb.K.1 ci _ c1
  refine W.newcK X.1 X.2.1 X.own (X.tb.word hw.1 gw_cl _) (X.tb.word hw.2.1 gw_able _) (X.tb.word hw.2.2 gw_init _) rfl hd (by rw [hRk]; exact hR.1) (by rw [hRk]; exact hR.2) hKn.2.1 (h := ad (g_b G) N) hH.1 fun H1 kC hkC e1 z1 o1 => ?_
  rw [← show H.size = ad (g_b G) N from hH.1] at z1 o1
  exact kk H1 locs ls (hH.push ⟨_, c1, (u_born ty0 (X.tb.lay c2 c3 (k_a k)) (fun w h9 => h9) hKn hkC e1 c4).to hfs⟩ z1 o1) (S_push hS z1 o1) hL
theorem e_newc (X : Cx k G own cc nL R) {n : Nat} (hd : decode cc pc = .ok (.newarray .char, 2)) (hw : Cond.arrayClass .char ∈ lw_tbl) (hn : n < 2 ^ 20) (hR : cells + 1 ≤ R.cells ∧ slots + n ≤ R.slots)
    (kk : Ev k G nL (N + 1) (cells + 1) (slots + n) (hup h N (cC G n (fun _ => 0))) (pc + 2) L (.ref (ad (g_b G) N) :: st)) : Ev k G nL N cells slots h pc L (.int (nI n) :: st) := by
  intro H locs ls hH hS hL
  have hRk := X.R
  have hb9 : n * componentBytes (newarray.typeOf .char) ≤ 536870912 := by
    have h8 : componentBytes (newarray.typeOf .char) = 2 := rfl
    rw [h8]
    omega
  have hn9 : ¬ nI n < 0 := nI_pos (by omega)
  have hc9 : (nI n).toNatClampNeg = n := nI_clamp (by omega)
  have hw9 : (Cond.arrayClass (newarray.typeOf .char)).before (k_a k) (k_s k) = true := X.tb.word (w := Cond.arrayClass .char) hw rfl _
  have hR1 : cells + 1 ≤ (k_R k).cells := by rw [hRk]; exact hR.1
  have hR2 : slots + n ≤ (k_R k).slots := by rw [hRk]; exact hR.2
  refine va_newaK (g := F0 (k_m k) pc ls (.int (nI n) :: st)) X.1 X.2.1 hw9 rfl hd rfl hn9 hc9 hb9 hR1 hR2 (h := ad (g_b G) N) hH.1 ?_
  intro H1 cA e1 z1 o1 hAr hNm
  rw [← show H.size = ad (g_b G) N from hH.1] at z1 o1
  have hcA : cA = g_C G := ra_inj (ty := newarray.typeOf .char) (Or.inl rfl) hNm (X.tb.K.2 0 (g_C G, newarray.typeOf .char) rfl).2
  subst hcA
  exact kk H1 locs ls (hH.push e1 z1 o1) (S_push hS z1 o1) hL
theorem e_newi (X : Cx k G own cc nL R) {n : Nat} (hd : decode cc pc = .ok (.newarray .int, 2)) (hw : Cond.arrayClass .int ∈ lw_tbl) (hn : n < 2 ^ 20) (hR : cells + 1 ≤ R.cells ∧ slots + n ≤ R.slots)
    (kk : Ev k G nL (N + 1) (cells + 1) (slots + n) (hup h N (cI G n (fun _ => 0))) (pc + 2) L (.ref (ad (g_b G) N) :: st)) : Ev k G nL N cells slots h pc L (.int (nI n) :: st) := by
  intro H locs ls hH hS hL
  have hRk := X.R
  have hb9 : n * componentBytes (newarray.typeOf .int) ≤ 536870912 := by
    have h8 : componentBytes (newarray.typeOf .int) = 4 := rfl
    rw [h8]
    omega
  have hn9 : ¬ nI n < 0 := nI_pos (by omega)
  have hc9 : (nI n).toNatClampNeg = n := nI_clamp (by omega)
  have hw9 : (Cond.arrayClass (newarray.typeOf .int)).before (k_a k) (k_s k) = true := X.tb.word (w := Cond.arrayClass .int) hw rfl _
  have hR1 : cells + 1 ≤ (k_R k).cells := by rw [hRk]; exact hR.1
  have hR2 : slots + n ≤ (k_R k).slots := by rw [hRk]; exact hR.2
  refine va_newaK (g := F0 (k_m k) pc ls (.int (nI n) :: st)) X.1 X.2.1 hw9 rfl hd rfl hn9 hc9 hb9 hR1 hR2 (h := ad (g_b G) N) hH.1 ?_
  intro H1 cA e1 z1 o1 hAr hNm
  rw [← show H.size = ad (g_b G) N from hH.1] at z1 o1
  have hcA : cA = g_I G := ra_inj (ty := newarray.typeOf .int) (Or.inr (Or.inl rfl)) hNm (X.tb.K.2 1 (g_I G, newarray.typeOf .int) rfl).2
  subst hcA
  exact kk H1 locs ls (hH.push e1 z1 o1) (S_push hS z1 o1) hL
theorem e_newz (X : Cx k G own cc nL R) {n : Nat} (hd : decode cc pc = .ok (.newarray .boolean, 2)) (hw : Cond.arrayClass .boolean ∈ lw_tbl) (hn : n < 2 ^ 20) (hR : cells + 1 ≤ R.cells ∧ slots + n ≤ R.slots)
    (kk : Ev k G nL (N + 1) (cells + 1) (slots + n) (hup h N (cZ G n (fun _ => 0))) (pc + 2) L (.ref (ad (g_b G) N) :: st)) : Ev k G nL N cells slots h pc L (.int (nI n) :: st) := by
  intro H locs ls hH hS hL
  have hRk := X.R
  have hb9 : n * componentBytes (newarray.typeOf .boolean) ≤ 536870912 := by
    have h8 : componentBytes (newarray.typeOf .boolean) = 1 := rfl
    rw [h8]
    omega
  have hn9 : ¬ nI n < 0 := nI_pos (by omega)
  have hc9 : (nI n).toNatClampNeg = n := nI_clamp (by omega)
  have hw9 : (Cond.arrayClass (newarray.typeOf .boolean)).before (k_a k) (k_s k) = true := X.tb.word (w := Cond.arrayClass .boolean) hw rfl _
  have hR1 : cells + 1 ≤ (k_R k).cells := by rw [hRk]; exact hR.1
  have hR2 : slots + n ≤ (k_R k).slots := by rw [hRk]; exact hR.2
  refine va_newaK (g := F0 (k_m k) pc ls (.int (nI n) :: st)) X.1 X.2.1 hw9 rfl hd rfl hn9 hc9 hb9 hR1 hR2 (h := ad (g_b G) N) hH.1 ?_
  intro H1 cA e1 z1 o1 hAr hNm
  rw [← show H.size = ad (g_b G) N from hH.1] at z1 o1
  have hcA : cA = g_Z G := ra_inj (ty := newarray.typeOf .boolean) (Or.inr (Or.inr rfl)) hNm (X.tb.K.2 2 (g_Z G, newarray.typeOf .boolean) rfl).2
  subst hcA
  exact kk H1 locs ls (hH.push e1 z1 o1) (S_push hS z1 o1) hL
theorem e_newT (X : Cx k G own cc nL R) {n idx : Nat} (hd : decode cc pc = .ok (.anewarray idx, 3)) (hw : Cond.classLink own idx nm_Text ∈ lw_tbl) (hn : n < 2 ^ 20) (hR : cells + 1 ≤ R.cells ∧ slots + n ≤ R.slots)
    (kk : Ev k G nL (N + 1) (cells + 1) (slots + n) (hup h N (cT G n (fun _ => none))) (pc + 3) L (.ref (ad (g_b G) N) :: st)) : Ev k G nL N cells slots h pc L (.int (nI n) :: st) := by
  intro H locs ls hH hS hL
  have hRk := X.R
  have hcl : (nI n).toNatClampNeg = n := nI_clamp (by omega)
  refine W.anew X.1 X.2.1 X.own (X.tb.word hw gw_cl _) (va_AO.use X.tb.2.2.2.2.1) rfl hd rfl (nI_pos (by omega)) (by rw [hcl]; omega) (by rw [hRk]; exact hR.1) (by rw [hRk, hcl]; exact hR.2) fun cA kA comp f1 f2 f3 f4 => ?_
  rw [hcl, show H.size = ad (g_b G) N from hH.1]
  generalize hH1 : H.push ({ cls := cA, slots := Array.replicate n .null, vm := .none } : Cell) = H1
  have z1 : H1.size = H.size + 1 := by rw [← hH1, Array.size_push]
  have e1 : H1[ad (g_b G) N]? = some (arrV cA n (fun _ => .null)) := by rw [← show H.size = ad (g_b G) N from hH.1, ← hH1, Array.getElem?_push_size, ← arrV_new]
  have o1 : ∀ q : Nat, q < H.size → H1[q]? = H[q]? := fun q hq => by rw [← hH1, Array.getElem?_push, if_neg (Nat.ne_of_lt hq)]
  obtain ⟨kA', comp', r1, r2, r3, r4⟩ := (X.tb.K.2 3 _ rfl).2
  have hcA : cA = g_T G := Option.some.inj (f1.symm.trans r4)
  subst hcA
  exact kk H1 locs ls (hH.push e1 z1 o1) (S_push hS z1 o1) hL
/-- an object into a row of nm_Text: of a class that may lie there -/
theorem e_tast (X : Cx k G own cc nL R) {i n j v ci : Nat} {fs : List Value} {C : String} {T : u_T} {nf : Nat} {f : Nat → Option Nat} (hd : decode cc pc = .ok (.aastore, 1)) (hc : h i = cT G n f) (hi : i < N) (hj : j < n) (hn : n < 2 ^ 31) (hv : h v = ob ci fs) (hvi : v < N) (hcl : vwCl[ci]? = some (C, T, nf)) (hasg : ∀ (comp c0 : ClassId), (k_s k).vm.findClass nm_Text = some comp → (k_s k).vm.findClass C = some c0 → (k_s k).vm.assignable c0 comp = true) (kk : Ev k G nL N cells slots (hup h i (cT G n (va_up f j (some (ad (g_b G) v))))) (pc + 1) L st) : Ev k G nL N cells slots h pc L (.ref (ad (g_b G) v) :: .int (nI j) :: .ref (ad (g_b G) i) :: st) := by
  intro H locs ls hH hS hL
  have hat : va_at (g_D G) vwCl (ad (g_b G) i, .inl (g_T G, n, .inr (.inr (.inr (.inr f))))) H := hH.at hi hc
  obtain ⟨cellV, g1, g3, g4⟩ := va_recv X.tb.K (hH.one hvi hv) (ci := ci) (q0 := 0) hcl rfl
  obtain ⟨kC, hkC, -⟩ := Vm.findClass_spec g4
  obtain ⟨kA, comp, k1, k2, k3, -⟩ := (X.tb.K.2 3 _ rfl).2
  obtain ⟨kE, hkE, -⟩ := Vm.findClass_spec k3
  have hcj : (nI j).toNatClampNeg = j := nI_clamp (Nat.lt_trans hj hn)
  refine W.aast X.1 X.2.1 hat (fun q h => by cases h) (fun h => by cases h) k1 k2 rfl hkE ⟨nI_pos (Nat.lt_trans hj hn), by show _ < (arrV _ _ _).slots.size; rw [arrV_size, hcj]; exact hj⟩ g1 (fun q h => by rw [h] at g3; cases g3) hkC (hasg _ _ k3 g4) rfl rfl hd fun H1 e z oq => ?_
  refine kk H1 _ ls (hH.write ?_ z oq) (hS.put z oq (Nat.le_add_right _ _)) hL
  show H1[ad (g_b G) i]? = some (vp_cell _ _)
  rw [e, vp_cell_q, vp_cell_q, arrV_store, hcj]
  congr 2
  funext q
  by_cases hq : q = j
  · subst hq
    simp [updV, va_up, va_rf]
  · simp [updV, va_up, hq]
theorem e_newR (X : Cx k G own cc nL R) {n idx : Nat} (hd : decode cc pc = .ok (.anewarray idx, 3)) (hw : Cond.classLink own idx nm_Row ∈ lw_tbl) (hn : n < 2 ^ 20) (hR : cells + 1 ≤ R.cells ∧ slots + n ≤ R.slots)
    (kk : Ev k G nL (N + 1) (cells + 1) (slots + n) (hup h N (cR G n (fun _ => none))) (pc + 3) L (.ref (ad (g_b G) N) :: st)) : Ev k G nL N cells slots h pc L (.int (nI n) :: st) := by
  intro H locs ls hH hS hL
  have hRk := X.R
  have hcl : (nI n).toNatClampNeg = n := nI_clamp (by omega)
  refine W.anew X.1 X.2.1 X.own (X.tb.word hw gw_cl _) (va_AO.use X.tb.2.2.2.2.2) rfl hd rfl (nI_pos (by omega)) (by rw [hcl]; omega) (by rw [hRk]; exact hR.1) (by rw [hRk, hcl]; exact hR.2) fun cA kA comp f1 f2 f3 f4 => ?_
  rw [hcl, show H.size = ad (g_b G) N from hH.1]
  generalize hH1 : H.push ({ cls := cA, slots := Array.replicate n .null, vm := .none } : Cell) = H1
  have z1 : H1.size = H.size + 1 := by rw [← hH1, Array.size_push]
  have e1 : H1[ad (g_b G) N]? = some (arrV cA n (fun _ => .null)) := by rw [← show H.size = ad (g_b G) N from hH.1, ← hH1, Array.getElem?_push_size, ← arrV_new]
  have o1 : ∀ q : Nat, q < H.size → H1[q]? = H[q]? := fun q hq => by rw [← hH1, Array.getElem?_push, if_neg (Nat.ne_of_lt hq)]
  obtain ⟨kA', comp', r1, r2, r3, r4⟩ := (X.tb.K.2 4 _ rfl).2
  have hcA : cA = g_R G := Option.some.inj (f1.symm.trans r4)
  subst hcA
  exact kk H1 locs ls (hH.push e1 z1 o1) (S_push hS z1 o1) hL
/-- an object into a row of nm_Row: of a class that may lie there -/
theorem e_rast (X : Cx k G own cc nL R) {i n j v ci : Nat} {fs : List Value} {C : String} {T : u_T} {nf : Nat} {f : Nat → Option Nat} (hd : decode cc pc = .ok (.aastore, 1)) (hc : h i = cR G n f) (hi : i < N) (hj : j < n) (hn : n < 2 ^ 31) (hv : h v = ob ci fs) (hvi : v < N) (hcl : vwCl[ci]? = some (C, T, nf)) (hasg : ∀ (comp c0 : ClassId), (k_s k).vm.findClass nm_Row = some comp → (k_s k).vm.findClass C = some c0 → (k_s k).vm.assignable c0 comp = true) (kk : Ev k G nL N cells slots (hup h i (cR G n (va_up f j (some (ad (g_b G) v))))) (pc + 1) L st) : Ev k G nL N cells slots h pc L (.ref (ad (g_b G) v) :: .int (nI j) :: .ref (ad (g_b G) i) :: st) := by
  intro H locs ls hH hS hL
  have hat : va_at (g_D G) vwCl (ad (g_b G) i, .inl (g_R G, n, .inr (.inr (.inr (.inr f))))) H := hH.at hi hc
  obtain ⟨cellV, g1, g3, g4⟩ := va_recv X.tb.K (hH.one hvi hv) (ci := ci) (q0 := 0) hcl rfl
  obtain ⟨kC, hkC, -⟩ := Vm.findClass_spec g4
  obtain ⟨kA, comp, k1, k2, k3, -⟩ := (X.tb.K.2 4 _ rfl).2
  obtain ⟨kE, hkE, -⟩ := Vm.findClass_spec k3
  have hcj : (nI j).toNatClampNeg = j := nI_clamp (Nat.lt_trans hj hn)
  refine W.aast X.1 X.2.1 hat (fun q h => by cases h) (fun h => by cases h) k1 k2 rfl hkE ⟨nI_pos (Nat.lt_trans hj hn), by show _ < (arrV _ _ _).slots.size; rw [arrV_size, hcj]; exact hj⟩ g1 (fun q h => by rw [h] at g3; cases g3) hkC (hasg _ _ k3 g4) rfl rfl hd fun H1 e z oq => ?_
  refine kk H1 _ ls (hH.write ?_ z oq) (hS.put z oq (Nat.le_add_right _ _)) hL
  show H1[ad (g_b G) i]? = some (vp_cell _ _)
  rw [e, vp_cell_q, vp_cell_q, arrV_store, hcj]
  congr 2
  funext q
  by_cases hq : q = j
  · subst hq
    simp [updV, va_up, va_rf]
  · simp [updV, va_up, hq]
end EN
end
section
/-! ints by their numbers -/
def iI (z : Int) : Int32 := Int32.ofInt z
theorem iI_add (a b : Int) : iI a + iI b = iI (a + b) := (Int32.ofInt_add a b).symm
theorem iI_sub (a b : Int) : iI a - iI b = iI (a - b) := (Int32.ofInt_sub a b).symm
theorem iI_mul (a b : Int) : iI a * iI b = iI (a * b) := (Int32.ofInt_mul a b).symm
theorem iI_toInt {z : Int} (h : -2147483648 ≤ z ∧ z < 2147483648) : (iI z).toInt = z := Int32.toInt_ofInt_of_le (by simpa using h.1) (by simpa using h.2)
theorem iI_of (x : Int32) : x = iI x.toInt := (Int32.ofInt_toInt x).symm
theorem iI_rg (x : Int32) : -2147483648 ≤ x.toInt ∧ x.toInt < 2147483648 := ⟨by simpa using x.minValue_le_toInt, by have := x.toInt_lt; simpa using this⟩
theorem iI_clamp {z : Int} {n : Nat} (h : z = (n : Int)) (hn : n < 2147483648) : (iI z).toNatClampNeg = n := by
  subst h
  show (iI (n : Int)).toInt.toNat = n
  rw [iI_toInt (by omega)]
  omega
theorem iI_lt {a b : Int} (ha : -2147483648 ≤ a ∧ a < 2147483648) (hb : -2147483648 ≤ b ∧ b < 2147483648) : iI a < iI b ↔ a < b := by
  rw [Int32.lt_iff_toInt_lt, iI_toInt ha, iI_toInt hb]
theorem iI_le {a b : Int} (ha : -2147483648 ≤ a ∧ a < 2147483648) (hb : -2147483648 ≤ b ∧ b < 2147483648) : iI a ≤ iI b ↔ a ≤ b := by
  rw [Int32.le_iff_toInt_le, iI_toInt ha, iI_toInt hb]
theorem iI_eq {a b : Int} (ha : -2147483648 ≤ a ∧ a < 2147483648) (hb : -2147483648 ≤ b ∧ b < 2147483648) : iI a = iI b ↔ a = b := by
  constructor
  · intro h
    have := congrArg Int32.toInt h
    rwa [iI_toInt ha, iI_toInt hb] at this
  · intro h
    rw [h]
theorem iI_0 : (0 : Int32) = iI 0 := by decide
theorem iI_nI (n : Nat) : nI n = iI (n : Int) := by
  unfold nI iI
  first | rfl | exact (Int32.ofInt_natCast n).symm | simp
theorem iI_in {z : Int} {n j : Nat} (h : z = (j : Int)) (hj : j < n) (hn : n < 2147483648) : vp_in (iI z) n := by
  subst h
  rw [← iI_nI]
  exact vp_in_nI hj hn
theorem iI_char {z : Int} (h : 0 ≤ z ∧ z < 65536) : narrow .char (.int (iI z)) = .int (iI z) ∧ fits .char (.int (iI z)) = true := by
  obtain ⟨n, rfl⟩ : ∃ n : Nat, z = (n : Int) := ⟨z.toNat, by omega⟩
  rw [← iI_nI]
  exact pk_charN (by omega)
theorem iI_i2c {z : Int} (h : 0 ≤ z ∧ z < 65536) : ((iI z).toUInt32 % 65536).toInt32 = iI z := by
  obtain ⟨n, rfl⟩ : ∃ n : Nat, z = (n : Int) := ⟨z.toNat, by omega⟩
  rw [← iI_nI, pk_char, pk_tn (by omega), Nat.mod_eq_of_lt (by omega)]
theorem iI_rem {a b : Int} (ha : 0 ≤ a ∧ a < 2147483648) (hb : 0 < b ∧ b < 2147483648) : iI a - iI a / iI b * iI b = iI (a % b) := by
  obtain ⟨m, rfl⟩ : ∃ n : Nat, a = (n : Int) := ⟨a.toNat, by omega⟩
  obtain ⟨n, rfl⟩ : ∃ n : Nat, b = (n : Int) := ⟨b.toNat, by omega⟩
  rw [← iI_nI, ← iI_nI, pk_rem (by omega) (by omega) (by omega), iI_nI]
  rfl
def zup (u : Nat → Int) (j : Nat) (z : Int) : Nat → Int := fun q => if q = j then z else u q
theorem zup_eq (u : Nat → Int) (j : Nat) (z : Int) : zup u j z j = z := if_pos rfl
theorem zup_ne {u : Nat → Int} {j q : Nat} {z : Int} (h : q ≠ j) : zup u j z q = u q := if_neg h
theorem upd_z (u : Nat → Int) (j : Nat) (z : Int) : upd (fun q => iI (u q)) j (iI z) = fun q => iI (zup u j z q) := by
  funext q
  by_cases h : q = j
  · simp [upd, zup, h]
  · simp [upd, zup, h]
def zcp (u v : Nat → Int) (sp dp n : Nat) : Nat → Int := va_cpy u v sp dp n
theorem cpy_z (u v : Nat → Int) (sp dp n : Nat) : va_cpy (fun q => iI (u q)) (fun q => iI (v q)) sp dp n = fun q => iI (zcp u v sp dp n q) := by
  funext q
  by_cases h : dp ≤ q ∧ q < dp + n
  · simp [zcp, va_cpy, h]
  · simp [zcp, va_cpy, h]
/-- rows of ints, by their numbers -/
def rC (G : lx_G) (n : Nat) (u : Nat → Int) : va_E := cC G n (fun q => iI (u q))
def rI (G : lx_G) (n : Nat) (u : Nat → Int) : va_E := cI G n (fun q => iI (u q))
def rZ (G : lx_G) (n : Nat) (u : Nat → Int) : va_E := cZ G n (fun q => iI (u q))
/-- a field's or a local's int -/
abbrev vI (z : Int) : Value := .int (iI z)
section EZ
variable {k : lx_K} {G : lx_G} {own : String} {cc : ByteArray} {nL N cells slots pc : Nat} {R : Room} {h : Nat → va_E} {L : List (Option Value)} {st : List Value}
theorem z_iconst (X : Cx k G own cc nL R) {n : Int} (hd : decode cc pc = .ok (.iconst n, 1)) (kk : Ev k G nL N cells slots h (pc + 1) L (vI n :: st)) : Ev k G nL N cells slots h pc L st := e_iconst X hd rfl kk
theorem z_bipush (X : Cx k G own cc nL R) {n : Int} (hd : decode cc pc = .ok (.bipush n, 2)) (hn : (Int8.ofInt n).toInt32 = iI n) (kk : Ev k G nL N cells slots h (pc + 2) L (vI n :: st)) : Ev k G nL N cells slots h pc L st := e_bipush X hd hn kk
theorem z_sipush (X : Cx k G own cc nL R) {n : Int} (hd : decode cc pc = .ok (.sipush n, 3)) (hn : (Int16.ofInt n).toInt32 = iI n) (kk : Ev k G nL N cells slots h (pc + 3) L (vI n :: st)) : Ev k G nL N cells slots h pc L st := e_sipush X hd hn kk
theorem z_ldc (X : Cx k G own cc nL R) {index : Nat} {n : Int} {v : Int32} (hd : decode cc pc = .ok (.ldc index, 2)) (hw : Cond.constant own index v ∈ lw_tbl) (hn : v = iI n) (kk : Ev k G nL N cells slots h (pc + 2) L (vI n :: st)) : Ev k G nL N cells slots h pc L st := e_ldc X hd hw gw_const (hn ▸ kk)
theorem z_iload_n (X : Cx k G own cc nL R) {j : Fin 4} {z : Int} (hd : decode cc pc = .ok (.iload_n j, 1)) (hl : L[(j : Nat)]? = some (some (vI z))) (kk : Ev k G nL N cells slots h (pc + 1) L (vI z :: st)) : Ev k G nL N cells slots h pc L st := e_iload_n X hd hl kk
theorem z_iload (X : Cx k G own cc nL R) {j : Nat} {z : Int} (hd : decode cc pc = .ok (.iload j, 2)) (hl : L[j]? = some (some (vI z))) (kk : Ev k G nL N cells slots h (pc + 2) L (vI z :: st)) : Ev k G nL N cells slots h pc L st := e_iload X hd hl kk
theorem z_iinc (X : Cx k G own cc nL R) {j : Nat} {n z : Int} (hd : decode cc pc = .ok (.iinc j n, 3)) (hl : L[j]? = some (some (vI z))) (hj : j < nL) (kk : Ev k G nL N cells slots h (pc + 3) (L.set j (some (vI (z + n)))) st) : Ev k G nL N cells slots h pc L st := e_iinc X hd hl (iI_add z n) hj kk
theorem z_iadd (X : Cx k G own cc nL R) {a b : Int} (hd : decode cc pc = .ok (.iadd, 1)) (kk : Ev k G nL N cells slots h (pc + 1) L (vI (a + b) :: st)) : Ev k G nL N cells slots h pc L (vI b :: vI a :: st) := e_iadd X hd (e_top (iI_add a b) kk)
theorem z_isub (X : Cx k G own cc nL R) {a b : Int} (hd : decode cc pc = .ok (.isub, 1)) (kk : Ev k G nL N cells slots h (pc + 1) L (vI (a - b) :: st)) : Ev k G nL N cells slots h pc L (vI b :: vI a :: st) := e_isub X hd (e_top (iI_sub a b) kk)
theorem z_imul (X : Cx k G own cc nL R) {a b : Int} (hd : decode cc pc = .ok (.imul, 1)) (kk : Ev k G nL N cells slots h (pc + 1) L (vI (a * b) :: st)) : Ev k G nL N cells slots h pc L (vI b :: vI a :: st) := e_imul X hd (e_top (iI_mul a b) kk)
theorem z_irem (X : Cx k G own cc nL R) {a b : Int} (hd : decode cc pc = .ok (.irem, 1)) (ha : 0 ≤ a ∧ a < 2147483648) (hb : 0 < b ∧ b < 2147483648) (kk : Ev k G nL N cells slots h (pc + 1) L (vI (a % b) :: st)) : Ev k G nL N cells slots h pc L (vI b :: vI a :: st) := e_irem X hd (fun q => by rw [iI_0] at q; have := (iI_eq (by omega) (by omega)).mp q; omega) (e_top (iI_rem ha hb) kk)
theorem z_i2c (X : Cx k G own cc nL R) {z : Int} (hd : decode cc pc = .ok (.i2c, 1)) (hz : 0 ≤ z ∧ z < 65536) (kk : Ev k G nL N cells slots h (pc + 1) L (vI z :: st)) : Ev k G nL N cells slots h pc L (vI z :: st) := e_i2c X hd (iI_i2c hz) kk
theorem z_top {a b : Int} (hv : a = b) (kk : Ev k G nL N cells slots h pc L (vI b :: st)) : Ev k G nL N cells slots h pc L (vI a :: st) := hv ▸ kk
theorem z_if_eq (X : Cx k G own cc nL R) {a : Int} {off : Int} {tgt : Nat} (hd : decode cc pc = .ok (.ifCond .eq off, 3)) (ht : (pc : Int) + off = (tgt : Int)) (hr : (-2147483648 ≤ a ∧ a < 2147483648)) (kt : a = 0 → Ev k G nL N cells slots h tgt L st) (kf : ¬ a = 0 → Ev k G nL N cells slots h (pc + 3) L st) : Ev k G nL N cells slots h pc L (vI a :: st) := e_if_eq X hd ht (fun c9 => kt (by rw [iI_0] at c9; exact (iI_eq hr (by decide)).mp c9)) (fun c9 => kf (fun q => c9 (by rw [iI_0]; exact (iI_eq hr (by decide)).mpr q)))
theorem z_icmp_eq (X : Cx k G own cc nL R) {a b : Int} {off : Int} {tgt : Nat} (hd : decode cc pc = .ok (.if_icmp .eq off, 3)) (ht : (pc : Int) + off = (tgt : Int)) (hr : (-2147483648 ≤ a ∧ a < 2147483648) ∧ (-2147483648 ≤ b ∧ b < 2147483648)) (kt : a = b → Ev k G nL N cells slots h tgt L st) (kf : ¬ a = b → Ev k G nL N cells slots h (pc + 3) L st) : Ev k G nL N cells slots h pc L (vI b :: vI a :: st) := e_icmp_eq X hd ht (fun c9 => kt (by exact (iI_eq hr.1 hr.2).mp c9)) (fun c9 => kf (fun q => c9 (by exact (iI_eq hr.1 hr.2).mpr q)))
theorem z_if_ne (X : Cx k G own cc nL R) {a : Int} {off : Int} {tgt : Nat} (hd : decode cc pc = .ok (.ifCond .ne off, 3)) (ht : (pc : Int) + off = (tgt : Int)) (hr : (-2147483648 ≤ a ∧ a < 2147483648)) (kt : ¬ a = 0 → Ev k G nL N cells slots h tgt L st) (kf : a = 0 → Ev k G nL N cells slots h (pc + 3) L st) : Ev k G nL N cells slots h pc L (vI a :: st) := e_if_ne X hd ht (fun c9 => kt (fun q => c9 (by rw [iI_0]; exact (iI_eq hr (by decide)).mpr q))) (fun c9 => kf (by rw [iI_0] at c9; exact (iI_eq hr (by decide)).mp c9))
theorem z_icmp_ne (X : Cx k G own cc nL R) {a b : Int} {off : Int} {tgt : Nat} (hd : decode cc pc = .ok (.if_icmp .ne off, 3)) (ht : (pc : Int) + off = (tgt : Int)) (hr : (-2147483648 ≤ a ∧ a < 2147483648) ∧ (-2147483648 ≤ b ∧ b < 2147483648)) (kt : ¬ a = b → Ev k G nL N cells slots h tgt L st) (kf : a = b → Ev k G nL N cells slots h (pc + 3) L st) : Ev k G nL N cells slots h pc L (vI b :: vI a :: st) := e_icmp_ne X hd ht (fun c9 => kt (fun q => c9 (by exact (iI_eq hr.1 hr.2).mpr q))) (fun c9 => kf (by exact (iI_eq hr.1 hr.2).mp c9))
theorem z_if_lt (X : Cx k G own cc nL R) {a : Int} {off : Int} {tgt : Nat} (hd : decode cc pc = .ok (.ifCond .lt off, 3)) (ht : (pc : Int) + off = (tgt : Int)) (hr : (-2147483648 ≤ a ∧ a < 2147483648)) (kt : a < 0 → Ev k G nL N cells slots h tgt L st) (kf : 0 ≤ a → Ev k G nL N cells slots h (pc + 3) L st) : Ev k G nL N cells slots h pc L (vI a :: st) := e_if_lt X hd ht (fun c9 => kt (by rw [iI_0] at c9; exact (iI_lt hr (by decide)).mp c9)) (fun c9 => kf (by rw [iI_0] at c9; rw [iI_lt hr (by decide)] at c9; omega))
theorem z_icmp_lt (X : Cx k G own cc nL R) {a b : Int} {off : Int} {tgt : Nat} (hd : decode cc pc = .ok (.if_icmp .lt off, 3)) (ht : (pc : Int) + off = (tgt : Int)) (hr : (-2147483648 ≤ a ∧ a < 2147483648) ∧ (-2147483648 ≤ b ∧ b < 2147483648)) (kt : a < b → Ev k G nL N cells slots h tgt L st) (kf : b ≤ a → Ev k G nL N cells slots h (pc + 3) L st) : Ev k G nL N cells slots h pc L (vI b :: vI a :: st) := e_icmp_lt X hd ht (fun c9 => kt (by exact (iI_lt hr.1 hr.2).mp c9)) (fun c9 => kf (by rw [iI_lt hr.1 hr.2] at c9; omega))
theorem z_if_ge (X : Cx k G own cc nL R) {a : Int} {off : Int} {tgt : Nat} (hd : decode cc pc = .ok (.ifCond .ge off, 3)) (ht : (pc : Int) + off = (tgt : Int)) (hr : (-2147483648 ≤ a ∧ a < 2147483648)) (kt : 0 ≤ a → Ev k G nL N cells slots h tgt L st) (kf : a < 0 → Ev k G nL N cells slots h (pc + 3) L st) : Ev k G nL N cells slots h pc L (vI a :: st) := e_if_ge X hd ht (fun c9 => kt (by rw [iI_0] at c9; exact (iI_le (by decide) hr).mp c9)) (fun c9 => kf (by rw [iI_0] at c9; rw [iI_le (by decide) hr] at c9; omega))
theorem z_icmp_ge (X : Cx k G own cc nL R) {a b : Int} {off : Int} {tgt : Nat} (hd : decode cc pc = .ok (.if_icmp .ge off, 3)) (ht : (pc : Int) + off = (tgt : Int)) (hr : (-2147483648 ≤ a ∧ a < 2147483648) ∧ (-2147483648 ≤ b ∧ b < 2147483648)) (kt : b ≤ a → Ev k G nL N cells slots h tgt L st) (kf : a < b → Ev k G nL N cells slots h (pc + 3) L st) : Ev k G nL N cells slots h pc L (vI b :: vI a :: st) := e_icmp_ge X hd ht (fun c9 => kt (by exact (iI_le hr.2 hr.1).mp c9)) (fun c9 => kf (by rw [iI_le hr.2 hr.1] at c9; omega))
theorem z_if_gt (X : Cx k G own cc nL R) {a : Int} {off : Int} {tgt : Nat} (hd : decode cc pc = .ok (.ifCond .gt off, 3)) (ht : (pc : Int) + off = (tgt : Int)) (hr : (-2147483648 ≤ a ∧ a < 2147483648)) (kt : 0 < a → Ev k G nL N cells slots h tgt L st) (kf : a ≤ 0 → Ev k G nL N cells slots h (pc + 3) L st) : Ev k G nL N cells slots h pc L (vI a :: st) := e_if_gt X hd ht (fun c9 => kt (by rw [iI_0] at c9; exact (iI_lt (by decide) hr).mp c9)) (fun c9 => kf (by rw [iI_0] at c9; rw [iI_lt (by decide) hr] at c9; omega))
theorem z_icmp_gt (X : Cx k G own cc nL R) {a b : Int} {off : Int} {tgt : Nat} (hd : decode cc pc = .ok (.if_icmp .gt off, 3)) (ht : (pc : Int) + off = (tgt : Int)) (hr : (-2147483648 ≤ a ∧ a < 2147483648) ∧ (-2147483648 ≤ b ∧ b < 2147483648)) (kt : b < a → Ev k G nL N cells slots h tgt L st) (kf : a ≤ b → Ev k G nL N cells slots h (pc + 3) L st) : Ev k G nL N cells slots h pc L (vI b :: vI a :: st) := e_icmp_gt X hd ht (fun c9 => kt (by exact (iI_lt hr.2 hr.1).mp c9)) (fun c9 => kf (by rw [iI_lt hr.2 hr.1] at c9; omega))
theorem z_if_le (X : Cx k G own cc nL R) {a : Int} {off : Int} {tgt : Nat} (hd : decode cc pc = .ok (.ifCond .le off, 3)) (ht : (pc : Int) + off = (tgt : Int)) (hr : (-2147483648 ≤ a ∧ a < 2147483648)) (kt : a ≤ 0 → Ev k G nL N cells slots h tgt L st) (kf : 0 < a → Ev k G nL N cells slots h (pc + 3) L st) : Ev k G nL N cells slots h pc L (vI a :: st) := e_if_le X hd ht (fun c9 => kt (by rw [iI_0] at c9; exact (iI_le hr (by decide)).mp c9)) (fun c9 => kf (by rw [iI_0] at c9; rw [iI_le hr (by decide)] at c9; omega))
theorem z_icmp_le (X : Cx k G own cc nL R) {a b : Int} {off : Int} {tgt : Nat} (hd : decode cc pc = .ok (.if_icmp .le off, 3)) (ht : (pc : Int) + off = (tgt : Int)) (hr : (-2147483648 ≤ a ∧ a < 2147483648) ∧ (-2147483648 ≤ b ∧ b < 2147483648)) (kt : a ≤ b → Ev k G nL N cells slots h tgt L st) (kf : b < a → Ev k G nL N cells slots h (pc + 3) L st) : Ev k G nL N cells slots h pc L (vI b :: vI a :: st) := e_icmp_le X hd ht (fun c9 => kt (by exact (iI_le hr.1 hr.2).mp c9)) (fun c9 => kf (by rw [iI_le hr.1 hr.2] at c9; omega))
theorem z_put (X : Cx k G own cc nL R) {i idx ci kf : Nat} {ty : FieldType} {fs : List Value} {v : Value} (hd : decode cc pc = .ok (.putfield idx, 3)) (hF : FL own idx ci kf false ty) (hc : h i = ob ci fs) (hi : i < N) (hl : kf < fs.length) (hn : narrow ty v = v) (hfit : fits ty v = true) (kk : ∀ h1 : Nat → va_E, h1 i = ob ci (fs.set kf v) → (∀ j, j ≠ i → h1 j = h j) → Ev k G nL N cells slots h1 (pc + 3) L st) : Ev k G nL N cells slots h pc L (v :: .ref (ad (g_b G) i) :: st) := e_put X hd hF hc hi hl hn hfit (kk _ (hup_eq _ _ _) (fun _ q => hup_ne q))
theorem z_putF (X : Cx k G own cc nL R) {i idx ci kf : Nat} {ty : FieldType} {fs : List Value} {v : Value} (hin2 : (k_M k).name = "<init>") (hd : decode cc pc = .ok (.putfield idx, 3)) (hF : FL own idx ci kf true ty) (hc : h i = ob ci fs) (hi : i < N) (hl : kf < fs.length) (hn : narrow ty v = v) (hfit : fits ty v = true) (kk : ∀ h1 : Nat → va_E, h1 i = ob ci (fs.set kf v) → (∀ j, j ≠ i → h1 j = h j) → Ev k G nL N cells slots h1 (pc + 3) L st) : Ev k G nL N cells slots h pc L (v :: .ref (ad (g_b G) i) :: st) := e_putF X hin2 hd hF hc hi hl hn hfit (kk _ (hup_eq _ _ _) (fun _ q => hup_ne q))
theorem z_iald (X : Cx k G own cc nL R) {i n j : Nat} {z : Int} {u : Nat → Int} (hd : decode cc pc = .ok (.iaload, 1)) (hc : h i = rI G n u) (hi : i < N) (hz : z = (j : Int)) (hj : j < n ∧ n < 2147483648) (kk : Ev k G nL N cells slots h (pc + 1) L (vI (u j) :: st)) : Ev k G nL N cells slots h pc L (vI z :: .ref (ad (g_b G) i) :: st) := by
  subst hz
  rw [show vI (j : Int) = Value.int (nI j) from congrArg Value.int (iI_nI j).symm]
  exact e_iald X hd (f := fun q => iI (u q)) hc hi hj.1 hj.2 kk
theorem z_cald (X : Cx k G own cc nL R) {i n j : Nat} {z : Int} {u : Nat → Int} (hd : decode cc pc = .ok (.caload, 1)) (hc : h i = rC G n u) (hi : i < N) (hz : z = (j : Int)) (hj : j < n ∧ n < 2147483648) (kk : Ev k G nL N cells slots h (pc + 1) L (vI (u j) :: st)) : Ev k G nL N cells slots h pc L (vI z :: .ref (ad (g_b G) i) :: st) := by
  subst hz
  rw [show vI (j : Int) = Value.int (nI j) from congrArg Value.int (iI_nI j).symm]
  exact e_cald X hd (f := fun q => iI (u q)) hc hi hj.1 hj.2 kk
theorem z_zald (X : Cx k G own cc nL R) {i n j : Nat} {z : Int} {u : Nat → Int} (hd : decode cc pc = .ok (.baload, 1)) (hc : h i = rZ G n u) (hi : i < N) (hz : z = (j : Int)) (hj : j < n ∧ n < 2147483648) (kk : Ev k G nL N cells slots h (pc + 1) L (vI (u j) :: st)) : Ev k G nL N cells slots h pc L (vI z :: .ref (ad (g_b G) i) :: st) := by
  subst hz
  rw [show vI (j : Int) = Value.int (nI j) from congrArg Value.int (iI_nI j).symm]
  exact e_zald X hd (f := fun q => iI (u q)) hc hi hj.1 hj.2 kk
theorem z_iast (X : Cx k G own cc nL R) {i n j : Nat} {z x : Int} {u : Nat → Int} (hd : decode cc pc = .ok (.iastore, 1)) (hc : h i = rI G n u) (hi : i < N) (hz : z = (j : Int)) (hj : j < n ∧ n < 2147483648) (kk : ∀ h1 : Nat → va_E, h1 i = rI G n (zup u j x) → (∀ q, q ≠ i → h1 q = h q) → Ev k G nL N cells slots h1 (pc + 1) L st) : Ev k G nL N cells slots h pc L (vI x :: vI z :: .ref (ad (g_b G) i) :: st) := by
  subst hz
  rw [show vI (j : Int) = Value.int (nI j) from congrArg Value.int (iI_nI j).symm]
  refine e_iast X hd (f := fun q => iI (u q)) hc hi hj.1 hj.2 (kk _ ?_ (fun _ q => hup_ne q))
  rw [hup_eq, upd_z]
  rfl
theorem z_cast (X : Cx k G own cc nL R) {i n j : Nat} {z x : Int} {u : Nat → Int} (hd : decode cc pc = .ok (.castore, 1)) (hc : h i = rC G n u) (hi : i < N) (hz : z = (j : Int)) (hj : j < n ∧ n < 2147483648) (hx : narrow .char (vI x) = vI x) (kk : ∀ h1 : Nat → va_E, h1 i = rC G n (zup u j x) → (∀ q, q ≠ i → h1 q = h q) → Ev k G nL N cells slots h1 (pc + 1) L st) : Ev k G nL N cells slots h pc L (vI x :: vI z :: .ref (ad (g_b G) i) :: st) := by
  subst hz
  rw [show vI (j : Int) = Value.int (nI j) from congrArg Value.int (iI_nI j).symm]
  refine e_cast X hd (f := fun q => iI (u q)) hc hi hj.1 hj.2 hx (kk _ ?_ (fun _ q => hup_ne q))
  rw [hup_eq, upd_z]
  rfl
theorem z_zast (X : Cx k G own cc nL R) {i n j : Nat} {z x : Int} {u : Nat → Int} (hd : decode cc pc = .ok (.bastore, 1)) (hc : h i = rZ G n u) (hi : i < N) (hz : z = (j : Int)) (hj : j < n ∧ n < 2147483648) (hx : narrow .boolean (vI x) = vI x) (kk : ∀ h1 : Nat → va_E, h1 i = rZ G n (zup u j x) → (∀ q, q ≠ i → h1 q = h q) → Ev k G nL N cells slots h1 (pc + 1) L st) : Ev k G nL N cells slots h pc L (vI x :: vI z :: .ref (ad (g_b G) i) :: st) := by
  subst hz
  rw [show vI (j : Int) = Value.int (nI j) from congrArg Value.int (iI_nI j).symm]
  refine e_zast X hd (f := fun q => iI (u q)) hc hi hj.1 hj.2 hx (kk _ ?_ (fun _ q => hup_ne q))
  rw [hup_eq, upd_z]
  rfl
theorem z_tald (X : Cx k G own cc nL R) {i n j r : Nat} {z : Int} {f : Nat → Option Nat} (hd : decode cc pc = .ok (.aaload, 1)) (hc : h i = cT G n f) (hi : i < N) (hz : z = (j : Int)) (hj : j < n ∧ n < 2147483648) (hv : f j = some (ad (g_b G) r)) (kk : Ev k G nL N cells slots h (pc + 1) L (.ref (ad (g_b G) r) :: st)) : Ev k G nL N cells slots h pc L (vI z :: .ref (ad (g_b G) i) :: st) := by
  subst hz
  rw [show vI (j : Int) = Value.int (nI j) from congrArg Value.int (iI_nI j).symm]
  exact e_tald X hd hc hi hj.1 hj.2 hv kk
theorem z_rald (X : Cx k G own cc nL R) {i n j r : Nat} {z : Int} {f : Nat → Option Nat} (hd : decode cc pc = .ok (.aaload, 1)) (hc : h i = cR G n f) (hi : i < N) (hz : z = (j : Int)) (hj : j < n ∧ n < 2147483648) (hv : f j = some (ad (g_b G) r)) (kk : Ev k G nL N cells slots h (pc + 1) L (.ref (ad (g_b G) r) :: st)) : Ev k G nL N cells slots h pc L (vI z :: .ref (ad (g_b G) i) :: st) := by
  subst hz
  rw [show vI (j : Int) = Value.int (nI j) from congrArg Value.int (iI_nI j).symm]
  exact e_rald X hd hc hi hj.1 hj.2 hv kk
theorem z_clen (X : Cx k G own cc nL R) {i n : Nat} {u : Nat → Int} (hd : decode cc pc = .ok (.arraylength, 1)) (hc : h i = rC G n u) (hi : i < N) (kk : Ev k G nL N cells slots h (pc + 1) L (vI (n : Int) :: st)) : Ev k G nL N cells slots h pc L (.ref (ad (g_b G) i) :: st) := e_clen X hd (f := fun q => iI (u q)) hc hi (by rw [iI_nI]; exact kk)
theorem z_ccopy (X : Cx k G own cc nL R) {idx i0 i1 n0 n1 sp dp n : Nat} {zs zd zn : Int} {u v : Nat → Int} (hd : decode cc pc = .ok (.invokestatic idx, 3)) (hw : Cond.methodLink own idx arraycopyName ∈ lw_tbl ∧ Cond.native arraycopyName ∈ lw_tbl ∧ Cond.static arraycopyName ∈ lw_tbl ∧ Cond.initialized "java/lang/System" ∈ lw_tbl) (hc0 : h i0 = rC G n0 u) (hi0 : i0 < N) (hc1 : h i1 = rC G n1 v) (hi1 : i1 < N) (hz : zs = (sp : Int) ∧ zd = (dp : Int) ∧ zn = (n : Int)) (hb : n0 < 2147483648 ∧ n1 < 2147483648 ∧ sp + n ≤ n0 ∧ dp + n ≤ n1) (hfit : ∀ i, i < n → 0 ≤ u (sp + i) ∧ u (sp + i) < 65536)
    (hR : 1 ≤ R.frames ∧ (st.map fun v => v.category).sum + (nativeFrameWords "java/lang/System" "arraycopy" 5 + 11) ≤ R.locals) (kk : ∀ h1 : Nat → va_E, h1 i1 = rC G n1 (zcp u v sp dp n) → (∀ q, q ≠ i1 → h1 q = h q) → Ev k G nL N cells slots h1 (pc + 3) L st) : Ev k G nL N cells slots h pc L (vI zn :: vI zd :: .ref (ad (g_b G) i1) :: vI zs :: .ref (ad (g_b G) i0) :: st) := by
  obtain ⟨rfl, rfl, rfl⟩ := hz
  rw [show vI (sp : Int) = Value.int (nI sp) from congrArg Value.int (iI_nI sp).symm, show vI (dp : Int) = Value.int (nI dp) from congrArg Value.int (iI_nI dp).symm, show vI (n : Int) = Value.int (nI n) from congrArg Value.int (iI_nI n).symm]
  refine e_ccopy X hd hw (f := fun q => iI (u q)) (g := fun q => iI (v q)) hc0 hi0 hc1 hi1 hb.1 hb.2.1 hb.2.2.1 hb.2.2.2 (fun i hi => (iI_char (hfit i hi)).2) hR (kk _ ?_ (fun _ q => hup_ne q))
  rw [hup_eq, cpy_z]
  rfl
theorem z_mmax (X : Cx k G own cc nL R) {idx : Nat} {a b : Int} (hd : decode cc pc = .ok (.invokestatic idx, 3)) (hw : Cond.methodLink own idx Lib.Math.max.name ∈ lw_tbl ∧ Cond.static Lib.Math.max.name ∈ lw_tbl ∧ Cond.initialized "java/lang/Math" ∈ lw_tbl ∧ Cond.code Lib.Math.max.name Lib.Math.max.code 2 (some .int) ∈ lw_tbl) (hR : 1 ≤ R.frames ∧ (st.map fun v => v.category).sum + 13 ≤ R.locals ∧ cells ≤ R.cells ∧ slots ≤ R.slots) (hr : (-2147483648 ≤ a ∧ a < 2147483648) ∧ (-2147483648 ≤ b ∧ b < 2147483648)) (kk : Ev k G nL N cells slots h (pc + 3) L (vI (max a b) :: st)) : Ev k G nL N cells slots h pc L (vI b :: vI a :: st) := by
  refine e_mmax X hd hw hR (e_top ?_ kk)
  by_cases hab : a < b
  · rw [if_pos ((iI_lt hr.1 hr.2).mpr hab), Int.max_eq_right (by omega)]
  · rw [if_neg (fun q => hab ((iI_lt hr.1 hr.2).mp q)), Int.max_eq_left (by omega)]
end EZ
end
section
/-! contracts by the kind of answer; a method is (name, code, locals, return type, room) -/
abbrev lx_M : Type := MethodName × ByteArray × Nat × Option FieldType × Room
abbrev m_y (M : lx_M) : MethodName := M.1
abbrev m_c (M : lx_M) : ByteArray := M.2.1
abbrev m_n (M : lx_M) : Nat := M.2.2.1
abbrev m_r (M : lx_M) : Option FieldType := M.2.2.2.1
abbrev m_R (M : lx_M) : Room := M.2.2.2.2
def pI (post : Int → (Nat → va_E) → Prop) : Option Value → (Nat → va_E) → Prop := fun v h' => ∃ z : Int, v = some (vI z) ∧ post z h'
def pV (post : (Nat → va_E) → Prop) : Option Value → (Nat → va_E) → Prop := fun v h' => v = none ∧ post h'
def pR (G : lx_G) (post : Nat → (Nat → va_E) → Prop) : Option Value → (Nat → va_E) → Prop := fun v h' => ∃ i : Nat, v = some (.ref (ad (g_b G) i)) ∧ post i h'
def CtI (l : Launch) (G : lx_G) (M : lx_M) (N : Nat) (av : List Value) (h : Nat → va_E) (post : Int → (Nat → va_E) → Prop) : Prop := Ct l G (m_y M) (m_c M) (m_n M) (m_r M) (m_R M) N N av h (pI post)
def CtV (l : Launch) (G : lx_G) (M : lx_M) (N : Nat) (av : List Value) (h : Nat → va_E) (post : (Nat → va_E) → Prop) : Prop := Ct l G (m_y M) (m_c M) (m_n M) (m_r M) (m_R M) N N av h (pV post)
def CtR (l : Launch) (G : lx_G) (M : lx_M) (N : Nat) (av : List Value) (h : Nat → va_E) (post : Nat → (Nat → va_E) → Prop) : Prop := Ct l G (m_y M) (m_c M) (m_n M) (m_r M) (m_R M) N N av h (pR G post)
/-- a constructor: N cells before, N' behind -/
def CtN (l : Launch) (G : lx_G) (M : lx_M) (N N' : Nat) (av : List Value) (h : Nat → va_E) (post : (Nat → va_E) → Prop) : Prop := Ct l G (m_y M) (m_c M) (m_n M) (m_r M) (m_R M) N N' av h (pV post)
/-- a post may be weakened -/
theorem Ct.mono {l : Launch} {G : lx_G} {y : MethodName} {cc : ByteArray} {nL : Nat} {ret : Option FieldType} {rm : Room} {N N' : Nat} {av : List Value} {h : Nat → va_E} {post post' : Option Value → (Nat → va_E) → Prop} (hC : Ct l G y cc nL ret rm N N' av h post) (hp : ∀ v h', post v h' → post' v h') : Ct l G y cc nL ret rm N N' av h post' := by
  intro p e ha hc hk s m args below hf happ hP hK
  obtain ⟨t, o, h1, h2, h3, ⟨⟨⟨v, h', e1, e2, e3⟩, e4⟩, e5⟩⟩ := hC p e ha hc hk s m args below hf happ hP hK
  exact ⟨t, o, h1, h2, h3, ⟨⟨⟨v, h', e1, hp v h' e2, e3⟩, e4⟩, e5⟩⟩
def rOKb (M : lx_M) (R : Room) (cells slots nst : Nat) : Bool := (Nat.ble ((m_R M).frames + 1) R.frames && Nat.ble (8 + (m_n M + 11) + (m_R M).locals) R.locals) && (Nat.ble (cells + (m_R M).cells) R.cells && Nat.ble (slots + (m_R M).slots) R.slots) && Nat.ble nst 8
theorem rOK_of {M : lx_M} {R : Room} {cells slots nst : Nat} (h : rOKb M R cells slots nst = true) : ((m_R M).frames + 1 ≤ R.frames ∧ 8 + (m_n M + 11) + (m_R M).locals ≤ R.locals) ∧ (cells + (m_R M).cells ≤ R.cells ∧ slots + (m_R M).slots ≤ R.slots) ∧ nst ≤ 8 := by
  simp only [rOKb, Bool.and_eq_true] at h
  obtain ⟨⟨⟨h1, h2⟩, h3, h4⟩, h5⟩ := h
  exact ⟨⟨Nat.le_of_ble_eq_true h1, Nat.le_of_ble_eq_true h2⟩, ⟨Nat.le_of_ble_eq_true h3, Nat.le_of_ble_eq_true h4⟩, Nat.le_of_ble_eq_true h5⟩
theorem cat_of {av : List Value} (h : av.all (fun v => Nat.beq v.category 1) = true) : ∀ v ∈ av, v.category = 1 := fun v hv => Nat.eq_of_beq_eq_true (List.all_eq_true.mp h v hv)
def CSM (own : String) (idx : Nat) (M : lx_M) (n : Nat) : Prop := CS own idx (m_y M) (m_c M) (m_n M) (m_r M) n
def CSS (own : String) (idx : Nat) (M : lx_M) (n : Nat) : Prop := CSM own idx M n ∧ Cond.static (m_y M) ∈ lw_tbl
def CVM (own : String) (idx : Nat) (M : lx_M) (ci n : Nat) : Prop := CSM own idx M n ∧ ∃ (C : String) (T : u_T) (nf : Nat), vwCl[ci]? = some (C, T, nf) ∧ Cond.instanceMethod (m_y M) ∈ lw_tbl ∧ Cond.selects C (m_y M) (m_y M) ∈ lw_tbl
def CIM (own : String) (idx : Nat) (M : lx_M) (n : Nat) : Prop := CSM own idx M n ∧ Cond.instanceMethod (m_y M) ∈ lw_tbl ∧ (m_y M).name = "<init>" ∧ m_r M = none
def CFM (own : String) (idx : Nat) (ci : Nat) (x : MethodName) (M : lx_M) (n : Nat) : Prop := ∃ (C : String) (T : u_T) (nf : Nat), vwCl[ci]? = some (C, T, nf) ∧ CF own idx C x (m_y M) (m_c M) (m_n M) (m_r M) n
section EK
variable {k : lx_K} {G : lx_G} {own : String} {cc : ByteArray} {nL N cells slots pc : Nat} {R : Room} {h : Nat → va_E} {L : List (Option Value)} {st : List Value}
theorem zI_of {l : Launch} {M : lx_M} {av : List Value} {post : Int → (Nat → va_E) → Prop} (hy : plainName (m_y M).cls = true) (hl : Nat.ble (lg_sl av).length (m_n M) = true) (hc : av.all (fun v => Nat.beq v.category 1) = true) (body : ∀ k : lx_K, Cx k G (m_y M).cls (m_c M) (m_n M) (m_R M) → Rt k G (m_r M) N (m_R M).cells (m_R M).slots (pI post) → Ev k G (m_n M) N 0 0 h 0 (l_in av (m_n M)) []) : CtI l G M N av h post := ct_of hy (Nat.le_of_ble_eq_true hl) (cat_of hc) (fun k X Q _ => body k X Q)
theorem zV_of {l : Launch} {M : lx_M} {av : List Value} {post : (Nat → va_E) → Prop} (hy : plainName (m_y M).cls = true) (hl : Nat.ble (lg_sl av).length (m_n M) = true) (hc : av.all (fun v => Nat.beq v.category 1) = true) (body : ∀ k : lx_K, Cx k G (m_y M).cls (m_c M) (m_n M) (m_R M) → Rt k G (m_r M) N (m_R M).cells (m_R M).slots (pV post) → Ev k G (m_n M) N 0 0 h 0 (l_in av (m_n M)) []) : CtV l G M N av h post := ct_of hy (Nat.le_of_ble_eq_true hl) (cat_of hc) (fun k X Q _ => body k X Q)
theorem zR_of {l : Launch} {M : lx_M} {av : List Value} {post : Nat → (Nat → va_E) → Prop} (hy : plainName (m_y M).cls = true) (hl : Nat.ble (lg_sl av).length (m_n M) = true) (hc : av.all (fun v => Nat.beq v.category 1) = true) (body : ∀ k : lx_K, Cx k G (m_y M).cls (m_c M) (m_n M) (m_R M) → Rt k G (m_r M) N (m_R M).cells (m_R M).slots (pR G post) → Ev k G (m_n M) N 0 0 h 0 (l_in av (m_n M)) []) : CtR l G M N av h post := ct_of hy (Nat.le_of_ble_eq_true hl) (cat_of hc) (fun k X Q _ => body k X Q)
theorem zN_of {l : Launch} {M : lx_M} {N' : Nat} {av : List Value} {post : (Nat → va_E) → Prop} (hy : plainName (m_y M).cls = true) (hl : Nat.ble (lg_sl av).length (m_n M) = true) (hc : av.all (fun v => Nat.beq v.category 1) = true) (body : ∀ k : lx_K, Cx k G (m_y M).cls (m_c M) (m_n M) (m_R M) → Rt k G (m_r M) N' (m_R M).cells (m_R M).slots (pV post) → (k_M k).name = (m_y M).name → Ev k G (m_n M) N 0 0 h 0 (l_in av (m_n M)) []) : CtN l G M N N' av h post := ct_of hy (Nat.le_of_ble_eq_true hl) (cat_of hc) body
theorem z_ireturn (X : Cx k G own cc nL R) {ty : FieldType} {z : Int} {post : Int → (Nat → va_E) → Prop} (hQ : Rt k G (some ty) N cells slots (pI post)) (hd : decode cc pc = .ok (.ireturn, 1)) (hn : narrow ty (vI z) = vI z) (hp : post z h) : Ev k G nL N cells slots h pc L [vI z] := e_ireturn X hQ hd hn ⟨z, rfl, hp⟩
theorem z_areturn (X : Cx k G own cc nL R) {C : String} {i : Nat} {post : Nat → (Nat → va_E) → Prop} (hQ : Rt k G (some (.object C)) N cells slots (pR G post)) (hd : decode cc pc = .ok (.areturn, 1)) (hp : post i h) : Ev k G nL N cells slots h pc L [.ref (ad (g_b G) i)] := e_areturn X hQ hd ⟨i, rfl, hp⟩
theorem z_return (X : Cx k G own cc nL R) {post : (Nat → va_E) → Prop} (hQ : Rt k G none N cells slots (pV post)) (hd : decode cc pc = .ok (.return_, 1)) (hp : post h) : Ev k G nL N cells slots h pc L [] := e_return X hQ hd ⟨rfl, hp⟩
theorem z_callS_I (X : Cx k G own cc nL R) {idx n : Nat} {M : lx_M} {As rest : List Value} {post : Int → (Nat → va_E) → Prop} (hd : decode cc pc = .ok (.invokestatic idx, 3)) (hC : CSS own idx M n) (hM : CtI (k_l k) G M N As h post) (hst : st = As.reverse ++ rest) (hn : As.length = n) (hz : (m_R M).cells = 0 ∧ (m_R M).slots = 0) (hR : rOKb M R cells slots (rest.map fun v => v.category).sum = true) (kk : ∀ (z : Int) (h1 : Nat → va_E), post z h1 → Ev k G nL N cells slots h1 (pc + 3) L (vI z :: rest)) : Ev k G nL N cells slots h pc L st := by
  obtain ⟨hr1, hr2, hr3⟩ := rOK_of hR
  refine e_callS X hd hC.1 hC.2 hM hst ⟨hr1, hr2, hn⟩ hr3 (fun v h1 hp => ?_)
  obtain ⟨z, rfl, hp⟩ := hp
  have K := kk z h1 hp
  rw [hz.1, hz.2]
  exact K
theorem z_callV_I (X : Cx k G own cc nL R) {idx n i ci : Nat} {M : lx_M} {As rest fs : List Value} {post : Int → (Nat → va_E) → Prop} (hd : decode cc pc = .ok (.invokevirtual idx, 3)) (hC : CVM own idx M ci n) (hM : CtI (k_l k) G M N (.ref (ad (g_b G) i) :: As) h post) (hc : h i = ob ci fs) (hi : i < N) (hst : st = As.reverse ++ .ref (ad (g_b G) i) :: rest) (hn : As.length = n) (hz : (m_R M).cells = 0 ∧ (m_R M).slots = 0) (hR : rOKb M R cells slots (rest.map fun v => v.category).sum = true) (kk : ∀ (z : Int) (h1 : Nat → va_E), post z h1 → Ev k G nL N cells slots h1 (pc + 3) L (vI z :: rest)) : Ev k G nL N cells slots h pc L st := by
  obtain ⟨hC1, C, T, nf, hC2, hC3, hC4⟩ := hC
  obtain ⟨hr1, hr2, hr3⟩ := rOK_of hR
  refine e_callV X hd hC1 ⟨hC3, hC4⟩ hM hc hi hC2 hst ⟨hr1, hr2, hn⟩ hr3 (fun v h1 hp => ?_)
  obtain ⟨z, rfl, hp⟩ := hp
  have K := kk z h1 hp
  rw [hz.1, hz.2]
  exact K
theorem z_callF_I (X : Cx k G own cc nL R) {idx cnt n i ci : Nat} {x : MethodName} {M : lx_M} {As rest fs : List Value} {post : Int → (Nat → va_E) → Prop} (hd : decode cc pc = .ok (.invokeinterface idx cnt, 5)) (hC : CFM own idx ci x M n) (hM : CtI (k_l k) G M N (.ref (ad (g_b G) i) :: As) h post) (hc : h i = ob ci fs) (hi : i < N) (hst : st = As.reverse ++ .ref (ad (g_b G) i) :: rest) (hn : As.length = n) (hz : (m_R M).cells = 0 ∧ (m_R M).slots = 0) (hR : rOKb M R cells slots (rest.map fun v => v.category).sum = true) (kk : ∀ (z : Int) (h1 : Nat → va_E), post z h1 → Ev k G nL N cells slots h1 (pc + 5) L (vI z :: rest)) : Ev k G nL N cells slots h pc L st := by
  obtain ⟨C, T, nf, hC2, hC1⟩ := hC
  obtain ⟨hr1, hr2, hr3⟩ := rOK_of hR
  refine e_callF X hd hC1 hM hc hi hC2 hst ⟨hr1, hr2, hn⟩ hr3 (fun v h1 hp => ?_)
  obtain ⟨z, rfl, hp⟩ := hp
  have K := kk z h1 hp
  rw [hz.1, hz.2]
  exact K
theorem z_callS_V (X : Cx k G own cc nL R) {idx n : Nat} {M : lx_M} {As rest : List Value} {post : (Nat → va_E) → Prop} (hd : decode cc pc = .ok (.invokestatic idx, 3)) (hC : CSS own idx M n) (hM : CtV (k_l k) G M N As h post) (hst : st = As.reverse ++ rest) (hn : As.length = n) (hz : (m_R M).cells = 0 ∧ (m_R M).slots = 0) (hR : rOKb M R cells slots (rest.map fun v => v.category).sum = true) (kk : ∀ h1 : Nat → va_E, post h1 → Ev k G nL N cells slots h1 (pc + 3) L rest) : Ev k G nL N cells slots h pc L st := by
  obtain ⟨hr1, hr2, hr3⟩ := rOK_of hR
  refine e_callS X hd hC.1 hC.2 hM hst ⟨hr1, hr2, hn⟩ hr3 (fun v h1 hp => ?_)
  obtain ⟨rfl, hp⟩ := hp
  have K := kk h1 hp
  rw [hz.1, hz.2]
  exact K
theorem z_callV_V (X : Cx k G own cc nL R) {idx n i ci : Nat} {M : lx_M} {As rest fs : List Value} {post : (Nat → va_E) → Prop} (hd : decode cc pc = .ok (.invokevirtual idx, 3)) (hC : CVM own idx M ci n) (hM : CtV (k_l k) G M N (.ref (ad (g_b G) i) :: As) h post) (hc : h i = ob ci fs) (hi : i < N) (hst : st = As.reverse ++ .ref (ad (g_b G) i) :: rest) (hn : As.length = n) (hz : (m_R M).cells = 0 ∧ (m_R M).slots = 0) (hR : rOKb M R cells slots (rest.map fun v => v.category).sum = true) (kk : ∀ h1 : Nat → va_E, post h1 → Ev k G nL N cells slots h1 (pc + 3) L rest) : Ev k G nL N cells slots h pc L st := by
  obtain ⟨hC1, C, T, nf, hC2, hC3, hC4⟩ := hC
  obtain ⟨hr1, hr2, hr3⟩ := rOK_of hR
  refine e_callV X hd hC1 ⟨hC3, hC4⟩ hM hc hi hC2 hst ⟨hr1, hr2, hn⟩ hr3 (fun v h1 hp => ?_)
  obtain ⟨rfl, hp⟩ := hp
  have K := kk h1 hp
  rw [hz.1, hz.2]
  exact K
theorem z_callF_V (X : Cx k G own cc nL R) {idx cnt n i ci : Nat} {x : MethodName} {M : lx_M} {As rest fs : List Value} {post : (Nat → va_E) → Prop} (hd : decode cc pc = .ok (.invokeinterface idx cnt, 5)) (hC : CFM own idx ci x M n) (hM : CtV (k_l k) G M N (.ref (ad (g_b G) i) :: As) h post) (hc : h i = ob ci fs) (hi : i < N) (hst : st = As.reverse ++ .ref (ad (g_b G) i) :: rest) (hn : As.length = n) (hz : (m_R M).cells = 0 ∧ (m_R M).slots = 0) (hR : rOKb M R cells slots (rest.map fun v => v.category).sum = true) (kk : ∀ h1 : Nat → va_E, post h1 → Ev k G nL N cells slots h1 (pc + 5) L rest) : Ev k G nL N cells slots h pc L st := by
  obtain ⟨C, T, nf, hC2, hC1⟩ := hC
  obtain ⟨hr1, hr2, hr3⟩ := rOK_of hR
  refine e_callF X hd hC1 hM hc hi hC2 hst ⟨hr1, hr2, hn⟩ hr3 (fun v h1 hp => ?_)
  obtain ⟨rfl, hp⟩ := hp
  have K := kk h1 hp
  rw [hz.1, hz.2]
  exact K
theorem z_callS_R (X : Cx k G own cc nL R) {idx n : Nat} {M : lx_M} {As rest : List Value} {post : Nat → (Nat → va_E) → Prop} (hd : decode cc pc = .ok (.invokestatic idx, 3)) (hC : CSS own idx M n) (hM : CtR (k_l k) G M N As h post) (hst : st = As.reverse ++ rest) (hn : As.length = n) (hz : (m_R M).cells = 0 ∧ (m_R M).slots = 0) (hR : rOKb M R cells slots (rest.map fun v => v.category).sum = true) (kk : ∀ (i : Nat) (h1 : Nat → va_E), post i h1 → Ev k G nL N cells slots h1 (pc + 3) L (.ref (ad (g_b G) i) :: rest)) : Ev k G nL N cells slots h pc L st := by
  obtain ⟨hr1, hr2, hr3⟩ := rOK_of hR
  refine e_callS X hd hC.1 hC.2 hM hst ⟨hr1, hr2, hn⟩ hr3 (fun v h1 hp => ?_)
  obtain ⟨i, rfl, hp⟩ := hp
  have K := kk i h1 hp
  rw [hz.1, hz.2]
  exact K
theorem z_callV_R (X : Cx k G own cc nL R) {idx n i ci : Nat} {M : lx_M} {As rest fs : List Value} {post : Nat → (Nat → va_E) → Prop} (hd : decode cc pc = .ok (.invokevirtual idx, 3)) (hC : CVM own idx M ci n) (hM : CtR (k_l k) G M N (.ref (ad (g_b G) i) :: As) h post) (hc : h i = ob ci fs) (hi : i < N) (hst : st = As.reverse ++ .ref (ad (g_b G) i) :: rest) (hn : As.length = n) (hz : (m_R M).cells = 0 ∧ (m_R M).slots = 0) (hR : rOKb M R cells slots (rest.map fun v => v.category).sum = true) (kk : ∀ (i : Nat) (h1 : Nat → va_E), post i h1 → Ev k G nL N cells slots h1 (pc + 3) L (.ref (ad (g_b G) i) :: rest)) : Ev k G nL N cells slots h pc L st := by
  obtain ⟨hC1, C, T, nf, hC2, hC3, hC4⟩ := hC
  obtain ⟨hr1, hr2, hr3⟩ := rOK_of hR
  refine e_callV X hd hC1 ⟨hC3, hC4⟩ hM hc hi hC2 hst ⟨hr1, hr2, hn⟩ hr3 (fun v h1 hp => ?_)
  obtain ⟨i, rfl, hp⟩ := hp
  have K := kk i h1 hp
  rw [hz.1, hz.2]
  exact K
theorem z_callF_R (X : Cx k G own cc nL R) {idx cnt n i ci : Nat} {x : MethodName} {M : lx_M} {As rest fs : List Value} {post : Nat → (Nat → va_E) → Prop} (hd : decode cc pc = .ok (.invokeinterface idx cnt, 5)) (hC : CFM own idx ci x M n) (hM : CtR (k_l k) G M N (.ref (ad (g_b G) i) :: As) h post) (hc : h i = ob ci fs) (hi : i < N) (hst : st = As.reverse ++ .ref (ad (g_b G) i) :: rest) (hn : As.length = n) (hz : (m_R M).cells = 0 ∧ (m_R M).slots = 0) (hR : rOKb M R cells slots (rest.map fun v => v.category).sum = true) (kk : ∀ (i : Nat) (h1 : Nat → va_E), post i h1 → Ev k G nL N cells slots h1 (pc + 5) L (.ref (ad (g_b G) i) :: rest)) : Ev k G nL N cells slots h pc L st := by
  obtain ⟨C, T, nf, hC2, hC1⟩ := hC
  obtain ⟨hr1, hr2, hr3⟩ := rOK_of hR
  refine e_callF X hd hC1 hM hc hi hC2 hst ⟨hr1, hr2, hn⟩ hr3 (fun v h1 hp => ?_)
  obtain ⟨i, rfl, hp⟩ := hp
  have K := kk i h1 hp
  rw [hz.1, hz.2]
  exact K
theorem z_callN (X : Cx k G own cc nL R) {idx n i N' c1 s1 : Nat} {M : lx_M} {As rest : List Value} {post : (Nat → va_E) → Prop} (hd : decode cc pc = .ok (.invokespecial idx, 3)) (hC : CIM own idx M n) (hM : CtN (k_l k) G M N N' (.ref (ad (g_b G) i) :: As) h post) (hst : st = As.reverse ++ .ref (ad (g_b G) i) :: rest) (hn : As.length = n) (hz : cells + (m_R M).cells = c1 ∧ slots + (m_R M).slots = s1) (hR : rOKb M R cells slots (rest.map fun v => v.category).sum = true) (kk : ∀ h1 : Nat → va_E, post h1 → Ev k G nL N' c1 s1 h1 (pc + 3) L rest) : Ev k G nL N cells slots h pc L st := by
  obtain ⟨hr1, hr2, hr3⟩ := rOK_of hR
  obtain ⟨hC1, hC2, hC3, hC4⟩ := hC
  have hM' : Ct (k_l k) G (m_y M) (m_c M) (m_n M) none (m_R M) N N' (.ref (ad (g_b G) i) :: As) h (pV post) := hC4 ▸ hM
  have hC1' : CS own idx (m_y M) (m_c M) (m_n M) none n := hC4 ▸ hC1
  refine e_callI X hd hC1' ⟨hC2, hC3⟩ hM' hst ⟨hr1, hr2, hn⟩ hr3 (fun v h1 hp => ?_)
  obtain ⟨rfl, hp⟩ := hp
  rw [hz.1, hz.2]
  exact kk h1 hp
end EK
end
section
abbrev m_VT_init : lx_M := (y_VT_init, b_VT_init, 3, none, rm_VT_init)
abbrev m_Gap_init : lx_M := (y_Gap_init, b_Gap_init, 2, none, rm_Gap_init)
abbrev m_Row_init : lx_M := (y_Row_init, b_Row_init, 2, none, rm_Row_init)
abbrev m_His_init : lx_M := (y_His_init, b_His_init, 2, none, rm_His_init)
abbrev m_Itm_init : lx_M := (y_Itm_init, b_Itm_init, 1, none, rm_Itm_init)
abbrev m_Clu_init : lx_M := (y_Clu_init, b_Clu_init, 1, none, rm_Clu_init)
abbrev m_Sea_init : lx_M := (y_Sea_init, b_Sea_init, 1, none, rm_Sea_init)
abbrev m_VT_type : lx_M := (y_VT_type, b_VT_type, 2, (some (.boolean)), rm_VT_type)
abbrev m_Row_append : lx_M := (y_Row_append, b_Row_append, 2, (some (.boolean)), rm_Row_append)
abbrev m_VT_scrap : lx_M := (y_VT_scrap, b_VT_scrap, 1, none, rm_VT_scrap)
abbrev m_Row_length : lx_M := (y_Row_length, b_Row_length, 1, (some (.int)), rm_Row_length)
abbrev m_Row_cut : lx_M := (y_Row_cut, b_Row_cut, 3, none, rm_Row_cut)
abbrev m_VT_insert : lx_M := (y_VT_insert, b_VT_insert, 3, (some (.boolean)), rm_VT_insert)
abbrev m_VT_canTakeClip : lx_M := (y_VT_canTakeClip, b_VT_canTakeClip, 3, (some (.boolean)), rm_VT_canTakeClip)
abbrev m_VT_canEdit : lx_M := (y_VT_canEdit, b_VT_canEdit, 3, (some (.boolean)), rm_VT_canEdit)
abbrev m_VT_isPlace : lx_M := (y_VT_isPlace, b_VT_isPlace, 2, (some (.boolean)), rm_VT_isPlace)
abbrev m_Gap_length : lx_M := (y_Gap_length, b_Gap_length, 1, (some (.int)), rm_Gap_length)
abbrev m_Itm_measure : lx_M := (y_Itm_measure, b_Itm_measure, 4, none, rm_Itm_measure)
abbrev m_Clu_restart : lx_M := (y_Clu_restart, b_Clu_restart, 1, none, rm_Clu_restart)
abbrev m_Itm_begins : lx_M := (y_Itm_begins, b_Itm_begins, 3, (some (.boolean)), rm_Itm_begins)
abbrev m_Itm_beginsLine : lx_M := (y_Itm_beginsLine, b_Itm_beginsLine, 3, (some (.boolean)), rm_Itm_beginsLine)
abbrev m_Gap_at : lx_M := (y_Gap_at, b_Gap_at, 2, (some (.int)), rm_Gap_at)
abbrev m_Row_at : lx_M := (y_Row_at, b_Row_at, 2, (some (.int)), rm_Row_at)
abbrev m_Itm_isSecondHalf : lx_M := (y_Itm_isSecondHalf, b_Itm_isSecondHalf, 2, (some (.boolean)), rm_Itm_isSecondHalf)
abbrev m_Itm_isFirst : lx_M := (y_Itm_isFirst, b_Itm_isFirst, 1, (some (.boolean)), rm_Itm_isFirst)
abbrev m_Itm_isSecond : lx_M := (y_Itm_isSecond, b_Itm_isSecond, 1, (some (.boolean)), rm_Itm_isSecond)
abbrev m_Itm_codeAt : lx_M := (y_Itm_codeAt, b_Itm_codeAt, 4, (some (.int)), rm_Itm_codeAt)
abbrev m_Clu_isCutBefore : lx_M := (y_Clu_isCutBefore, b_Clu_isCutBefore, 3, (some (.boolean)), rm_Clu_isCutBefore)
abbrev m_Clu_isJoinedTo : lx_M := (y_Clu_isJoinedTo, b_Clu_isJoinedTo, 2, (some (.boolean)), rm_Clu_isJoinedTo)
abbrev m_Clu_isMark : lx_M := (y_Clu_isMark, b_Clu_isMark, 1, (some (.boolean)), rm_Clu_isMark)
abbrev m_Clu_isPicture : lx_M := (y_Clu_isPicture, b_Clu_isPicture, 1, (some (.boolean)), rm_Clu_isPicture)
abbrev m_Clu_isFlag : lx_M := (y_Clu_isFlag, b_Clu_isFlag, 1, (some (.boolean)), rm_Clu_isFlag)
abbrev m_Itm_isInside : lx_M := (y_Itm_isInside, b_Itm_isInside, 2, (some (.boolean)), rm_Itm_isInside)
abbrev m_Itm_having : lx_M := (y_Itm_having, b_Itm_having, 3, (some (.int)), rm_Itm_having)
abbrev m_Gap_put : lx_M := (y_Gap_put, b_Gap_put, 3, none, rm_Gap_put)
abbrev m_Gap_moveGap : lx_M := (y_Gap_moveGap, b_Gap_moveGap, 3, none, rm_Gap_moveGap)
abbrev m_Row_copyInto : lx_M := (y_Row_copyInto, b_Row_copyInto, 3, none, rm_Row_copyInto)
abbrev m_Row_put : lx_M := (y_Row_put, b_Row_put, 3, none, rm_Row_put)
abbrev m_VT_clipIsTyping : lx_M := (y_VT_clipIsTyping, b_VT_clipIsTyping, 1, (some (.boolean)), rm_VT_clipIsTyping)
abbrev m_His_extendStep : lx_M := (y_His_extendStep, b_His_extendStep, 2, none, rm_His_extendStep)
abbrev m_His_latest : lx_M := (y_His_latest, b_His_latest, 1, (some (.object "VersionedText$RowText")), rm_His_latest)
abbrev m_Row_become : lx_M := (y_Row_become, b_Row_become, 3, none, rm_Row_become)
abbrev m_His_addStep : lx_M := (y_His_addStep, b_His_addStep, 2, none, rm_His_addStep)
abbrev m_VT_remove : lx_M := (y_VT_remove, b_VT_remove, 3, (some (.boolean)), rm_VT_remove)
abbrev m_Gap_cut : lx_M := (y_Gap_cut, b_Gap_cut, 3, none, rm_Gap_cut)
abbrev m_VT_addClosedStep : lx_M := (y_VT_addClosedStep, b_VT_addClosedStep, 1, none, rm_VT_addClosedStep)
abbrev m_VT_replace : lx_M := (y_VT_replace, b_VT_replace, 3, (some (.boolean)), rm_VT_replace)
abbrev m_VT_undo : lx_M := (y_VT_undo, b_VT_undo, 1, (some (.boolean)), rm_VT_undo)
abbrev m_His_undoable : lx_M := (y_His_undoable, b_His_undoable, 1, (some (.int)), rm_His_undoable)
abbrev m_His_goBack : lx_M := (y_His_goBack, b_His_goBack, 2, none, rm_His_goBack)
abbrev m_Gap_become : lx_M := (y_Gap_become, b_Gap_become, 3, none, rm_Gap_become)
abbrev m_VT_redo : lx_M := (y_VT_redo, b_VT_redo, 1, (some (.boolean)), rm_VT_redo)
abbrev m_His_redoable : lx_M := (y_His_redoable, b_His_redoable, 1, (some (.int)), rm_His_redoable)
abbrev m_His_goForward : lx_M := (y_His_goForward, b_His_goForward, 2, none, rm_His_goForward)
abbrev m_VT_steps : lx_M := (y_VT_steps, b_VT_steps, 2, (some (.int)), rm_VT_steps)
abbrev m_VT_seal : lx_M := (y_VT_seal, b_VT_seal, 1, none, rm_VT_seal)
abbrev m_VT_guard : lx_M := (y_VT_guard, b_VT_guard, 2, (some (.boolean)), rm_VT_guard)
abbrev m_VT_snapshot : lx_M := (y_VT_snapshot, b_VT_snapshot, 2, (some (.int)), rm_VT_snapshot)
abbrev m_VT_release : lx_M := (y_VT_release, b_VT_release, 2, (some (.boolean)), rm_VT_release)
abbrev m_VT_isVersion : lx_M := (y_VT_isVersion, b_VT_isVersion, 2, (some (.boolean)), rm_VT_isVersion)
abbrev m_VT_unit : lx_M := (y_VT_unit, b_VT_unit, 3, (some (.int)), rm_VT_unit)
abbrev m_VT_count : lx_M := (y_VT_count, b_VT_count, 3, (some (.int)), rm_VT_count)
abbrev m_VT_isMetric : lx_M := (y_VT_isMetric, b_VT_isMetric, 1, (some (.boolean)), rm_VT_isMetric)
abbrev m_Itm_number : lx_M := (y_Itm_number, b_Itm_number, 1, (some (.int)), rm_Itm_number)
abbrev m_VT_place : lx_M := (y_VT_place, b_VT_place, 4, (some (.int)), rm_VT_place)
abbrev m_Itm_beginningOf : lx_M := (y_Itm_beginningOf, b_Itm_beginningOf, 2, (some (.int)), rm_Itm_beginningOf)
abbrev m_VT_item : lx_M := (y_VT_item, b_VT_item, 4, (some (.int)), rm_VT_item)
abbrev m_VT_same : lx_M := (y_VT_same, b_VT_same, 3, (some (.boolean)), rm_VT_same)
abbrev m_VT_haveSameUnits : lx_M := (y_VT_haveSameUnits, b_VT_haveSameUnits, 3, (some (.boolean)), rm_VT_haveSameUnits)
abbrev m_VT_find : lx_M := (y_VT_find, b_VT_find, 3, (some (.int)), rm_VT_find)
abbrev m_Sea_takePattern : lx_M := (y_Sea_takePattern, b_Sea_takePattern, 4, (some (.boolean)), rm_Sea_takePattern)
abbrev m_Sea_firstMatch : lx_M := (y_Sea_firstMatch, b_Sea_firstMatch, 5, (some (.int)), rm_Sea_firstMatch)
abbrev m_Sea_reachFrom : lx_M := (y_Sea_reachFrom, b_Sea_reachFrom, 8, none, rm_Sea_reachFrom)
abbrev m_Sea_standsFor : lx_M := (y_Sea_standsFor, b_Sea_standsFor, 3, (some (.boolean)), rm_Sea_standsFor)
abbrev m_VT_end : lx_M := (y_VT_end, b_VT_end, 1, (some (.int)), rm_VT_end)
abbrev m_Sea_matchEnd : lx_M := (y_Sea_matchEnd, b_Sea_matchEnd, 1, (some (.int)), rm_Sea_matchEnd)
abbrev m_Law_cell : lx_M := (y_Law_cell, b_Law_cell, 2, (some (.int)), rm_Law_cell)
abbrev m_Mod_init : lx_M := (y_Mod_init, b_Mod_init, 2, none, rm_Mod_init)
abbrev m_Mod_type : lx_M := (y_Mod_type, b_Mod_type, 2, (some (.boolean)), rm_Mod_type)
abbrev m_Mod_scrap : lx_M := (y_Mod_scrap, b_Mod_scrap, 1, none, rm_Mod_scrap)
abbrev m_Mod_insert : lx_M := (y_Mod_insert, b_Mod_insert, 3, (some (.boolean)), rm_Mod_insert)
abbrev m_Mod_isPlace : lx_M := (y_Mod_isPlace, b_Mod_isPlace, 2, (some (.boolean)), rm_Mod_isPlace)
abbrev m_Mod_lets : lx_M := (y_Mod_lets, b_Mod_lets, 4, (some (.boolean)), rm_Mod_lets)
abbrev m_Mod_findItems : lx_M := (y_Mod_findItems, b_Mod_findItems, 4, none, rm_Mod_findItems)
abbrev m_Mod_begin : lx_M := (y_Mod_begin, b_Mod_begin, 2, none, rm_Mod_begin)
abbrev m_Mod_findLines : lx_M := (y_Mod_findLines, b_Mod_findLines, 6, none, rm_Mod_findLines)
abbrev m_Mod_findPoints : lx_M := (y_Mod_findPoints, b_Mod_findPoints, 7, none, rm_Mod_findPoints)
abbrev m_Mod_bound : lx_M := (y_Mod_bound, b_Mod_bound, 5, (some (.boolean)), rm_Mod_bound)
abbrev m_Mod_isMark : lx_M := (y_Mod_isMark, b_Mod_isMark, 1, (some (.boolean)), rm_Mod_isMark)
abbrev m_Mod_isPicture : lx_M := (y_Mod_isPicture, b_Mod_isPicture, 1, (some (.boolean)), rm_Mod_isPicture)
abbrev m_Mod_isFlag : lx_M := (y_Mod_isFlag, b_Mod_isFlag, 1, (some (.boolean)), rm_Mod_isFlag)
abbrev m_Mod_make : lx_M := (y_Mod_make, b_Mod_make, 6, none, rm_Mod_make)
abbrev m_Mod_show : lx_M := (y_Mod_show, b_Mod_show, 3, none, rm_Mod_show)
abbrev m_Mod_step : lx_M := (y_Mod_step, b_Mod_step, 2, none, rm_Mod_step)
abbrev m_Mod_copy : lx_M := (y_Mod_copy, b_Mod_copy, 4, none, rm_Mod_copy)
abbrev m_Mod_remove : lx_M := (y_Mod_remove, b_Mod_remove, 3, (some (.boolean)), rm_Mod_remove)
abbrev m_Mod_replace : lx_M := (y_Mod_replace, b_Mod_replace, 3, (some (.boolean)), rm_Mod_replace)
abbrev m_Mod_undo : lx_M := (y_Mod_undo, b_Mod_undo, 1, (some (.boolean)), rm_Mod_undo)
abbrev m_Mod_redo : lx_M := (y_Mod_redo, b_Mod_redo, 1, (some (.boolean)), rm_Mod_redo)
abbrev m_Mod_steps : lx_M := (y_Mod_steps, b_Mod_steps, 2, (some (.int)), rm_Mod_steps)
abbrev m_Mod_seal : lx_M := (y_Mod_seal, b_Mod_seal, 1, none, rm_Mod_seal)
abbrev m_Mod_guard : lx_M := (y_Mod_guard, b_Mod_guard, 2, (some (.boolean)), rm_Mod_guard)
abbrev m_Mod_snapshot : lx_M := (y_Mod_snapshot, b_Mod_snapshot, 2, (some (.int)), rm_Mod_snapshot)
abbrev m_Mod_release : lx_M := (y_Mod_release, b_Mod_release, 2, (some (.boolean)), rm_Mod_release)
abbrev m_Mod_unit : lx_M := (y_Mod_unit, b_Mod_unit, 4, (some (.int)), rm_Mod_unit)
abbrev m_Mod_slot : lx_M := (y_Mod_slot, b_Mod_slot, 2, (some (.int)), rm_Mod_slot)
abbrev m_Mod_count : lx_M := (y_Mod_count, b_Mod_count, 3, (some (.int)), rm_Mod_count)
abbrev m_Mod_looks : lx_M := (y_Mod_looks, b_Mod_looks, 4, (some (.boolean)), rm_Mod_looks)
abbrev m_Mod_place : lx_M := (y_Mod_place, b_Mod_place, 4, (some (.int)), rm_Mod_place)
abbrev m_Mod_item : lx_M := (y_Mod_item, b_Mod_item, 5, (some (.int)), rm_Mod_item)
abbrev m_Mod_same : lx_M := (y_Mod_same, b_Mod_same, 7, (some (.boolean)), rm_Mod_same)
abbrev m_Mod_find : lx_M := (y_Mod_find, b_Mod_find, 6, (some (.int)), rm_Mod_find)
abbrev m_Mod_isPattern : lx_M := (y_Mod_isPattern, b_Mod_isPattern, 3, (some (.boolean)), rm_Mod_isPattern)
abbrev m_Mod_match : lx_M := (y_Mod_match, b_Mod_match, 7, (some (.int)), rm_Mod_match)
abbrev m_Mod_stands : lx_M := (y_Mod_stands, b_Mod_stands, 2, (some (.boolean)), rm_Mod_stands)
abbrev m_Mod_end : lx_M := (y_Mod_end, b_Mod_end, 1, (some (.int)), rm_Mod_end)
set_option maxRecDepth 100000 in
theorem co_ck_Clu : ∀ j, j < 3 → lw_tbl[([115, 117, 119] : List Nat).getD j 0]? = some (u_lay R_Clu F_Clu j) := by decide +kernel
set_option maxRecDepth 100000 in
theorem ck_Clu : CK ci_Clu R_Clu F_Clu 3 t_Clu := ⟨rfl, fun w hw => (by obtain ⟨j, hj, rfl⟩ := List.mem_map.mp hw; exact List.mem_of_getElem? (i := ([115, 117, 119] : List Nat).getD j 0) (co_ck_Clu j (List.mem_range.mp hj))), by decide +kernel, by decide +kernel, by decide +kernel⟩
set_option maxRecDepth 100000 in
theorem co_ck_Gap : ∀ j, j < 3 → lw_tbl[([54, 56, 58] : List Nat).getD j 0]? = some (u_lay R_Gap F_Gap j) := by decide +kernel
set_option maxRecDepth 100000 in
theorem ck_Gap : CK ci_Gap R_Gap F_Gap 3 t_Gap := ⟨rfl, fun w hw => (by obtain ⟨j, hj, rfl⟩ := List.mem_map.mp hw; exact List.mem_of_getElem? (i := ([54, 56, 58] : List Nat).getD j 0) (co_ck_Gap j (List.mem_range.mp hj))), by decide +kernel, by decide +kernel, by decide +kernel⟩
set_option maxRecDepth 100000 in
theorem co_ck_His : ∀ j, j < 4 → lw_tbl[([90, 92, 94, 96] : List Nat).getD j 0]? = some (u_lay R_His F_His j) := by decide +kernel
set_option maxRecDepth 100000 in
theorem ck_His : CK ci_His R_His F_His 4 t_His := ⟨rfl, fun w hw => (by obtain ⟨j, hj, rfl⟩ := List.mem_map.mp hw; exact List.mem_of_getElem? (i := ([90, 92, 94, 96] : List Nat).getD j 0) (co_ck_His j (List.mem_range.mp hj))), by decide +kernel, by decide +kernel, by decide +kernel⟩
set_option maxRecDepth 100000 in
theorem co_ck_Itm : ∀ j, j < 5 → lw_tbl[([128, 130, 132, 134, 136] : List Nat).getD j 0]? = some (u_lay R_Itm F_Itm j) := by decide +kernel
set_option maxRecDepth 100000 in
theorem ck_Itm : CK ci_Itm R_Itm F_Itm 5 t_Itm := ⟨rfl, fun w hw => (by obtain ⟨j, hj, rfl⟩ := List.mem_map.mp hw; exact List.mem_of_getElem? (i := ([128, 130, 132, 134, 136] : List Nat).getD j 0) (co_ck_Itm j (List.mem_range.mp hj))), by decide +kernel, by decide +kernel, by decide +kernel⟩
set_option maxRecDepth 100000 in
theorem co_ck_Row : ∀ j, j < 2 → lw_tbl[([70, 72] : List Nat).getD j 0]? = some (u_lay R_Row F_Row j) := by decide +kernel
set_option maxRecDepth 100000 in
theorem ck_Row : CK ci_Row R_Row F_Row 2 t_Row := ⟨rfl, fun w hw => (by obtain ⟨j, hj, rfl⟩ := List.mem_map.mp hw; exact List.mem_of_getElem? (i := ([70, 72] : List Nat).getD j 0) (co_ck_Row j (List.mem_range.mp hj))), by decide +kernel, by decide +kernel, by decide +kernel⟩
set_option maxRecDepth 100000 in
theorem co_ck_Sea : ∀ j, j < 5 → lw_tbl[([150, 152, 154, 156, 158] : List Nat).getD j 0]? = some (u_lay R_Sea F_Sea j) := by decide +kernel
set_option maxRecDepth 100000 in
theorem ck_Sea : CK ci_Sea R_Sea F_Sea 5 t_Sea := ⟨rfl, fun w hw => (by obtain ⟨j, hj, rfl⟩ := List.mem_map.mp hw; exact List.mem_of_getElem? (i := ([150, 152, 154, 156, 158] : List Nat).getD j 0) (co_ck_Sea j (List.mem_range.mp hj))), by decide +kernel, by decide +kernel, by decide +kernel⟩
set_option maxRecDepth 100000 in
theorem co_ck_VT : ∀ j, j < 9 → lw_tbl[([170, 172, 174, 176, 178, 180, 182, 184, 186] : List Nat).getD j 0]? = some (u_lay R_VT F_VT j) := by decide +kernel
set_option maxRecDepth 100000 in
theorem ck_VT : CK ci_VT R_VT F_VT 9 t_VT := ⟨rfl, fun w hw => (by obtain ⟨j, hj, rfl⟩ := List.mem_map.mp hw; exact List.mem_of_getElem? (i := ([170, 172, 174, 176, 178, 180, 182, 184, 186] : List Nat).getD j 0) (co_ck_VT j (List.mem_range.mp hj))), by decide +kernel, by decide +kernel, by decide +kernel⟩
set_option maxRecDepth 100000 in
theorem co_ck_Mod : ∀ j, j < 18 → lw_tbl[([560, 562, 564, 566, 568, 570, 572, 574, 576, 578, 580, 582, 584, 586, 588, 590, 592, 594] : List Nat).getD j 0]? = some (u_lay R_Mod F_Mod j) := by decide +kernel
set_option maxRecDepth 100000 in
theorem ck_Mod : CK ci_Mod R_Mod F_Mod 18 t_Mod := ⟨rfl, fun w hw => (by obtain ⟨j, hj, rfl⟩ := List.mem_map.mp hw; exact List.mem_of_getElem? (i := ([560, 562, 564, 566, 568, 570, 572, 574, 576, 578, 580, 582, 584, 586, 588, 590, 592, 594] : List Nat).getD j 0) (co_ck_Mod j (List.mem_range.mp hj))), by decide +kernel, by decide +kernel, by decide +kernel⟩
set_option maxRecDepth 100000 in
theorem fl_Gap_9 : FL R_Gap 9 ci_Gap 0 true (.array .char) := ⟨_, _, _, _, ck_Gap, by decide, lw_mem 51 rfl, rfl, rfl, rfl, fun _ => rfl⟩
set_option maxRecDepth 100000 in
theorem fl_Gap_15 : FL R_Gap 15 ci_Gap 1 false (.int) := ⟨_, _, _, _, ck_Gap, by decide, lw_mem 52 rfl, rfl, rfl, rfl, fun h => nomatch h⟩
set_option maxRecDepth 100000 in
theorem fl_Gap_19 : FL R_Gap 19 ci_Gap 2 false (.int) := ⟨_, _, _, _, ck_Gap, by decide, lw_mem 53 rfl, rfl, rfl, rfl, fun h => nomatch h⟩
set_option maxRecDepth 100000 in
theorem fl_Row_9 : FL R_Row 9 ci_Row 0 true (.array .char) := ⟨_, _, _, _, ck_Row, by decide, lw_mem 68 rfl, rfl, rfl, rfl, fun _ => rfl⟩
set_option maxRecDepth 100000 in
theorem fl_Row_15 : FL R_Row 15 ci_Row 1 false (.int) := ⟨_, _, _, _, ck_Row, by decide, lw_mem 69 rfl, rfl, rfl, rfl, fun h => nomatch h⟩
set_option maxRecDepth 100000 in
theorem fl_His_13 : FL R_His 13 ci_His 0 true (.array (.object "VersionedText$RowText")) := ⟨_, _, _, _, ck_His, by decide, lw_mem 86 rfl, rfl, rfl, rfl, fun _ => rfl⟩
set_option maxRecDepth 100000 in
theorem fl_His_20 : FL R_His 20 ci_His 1 false (.int) := ⟨_, _, _, _, ck_His, by decide, lw_mem 87 rfl, rfl, rfl, rfl, fun h => nomatch h⟩
set_option maxRecDepth 100000 in
theorem fl_His_24 : FL R_His 24 ci_His 2 false (.int) := ⟨_, _, _, _, ck_His, by decide, lw_mem 88 rfl, rfl, rfl, rfl, fun h => nomatch h⟩
set_option maxRecDepth 100000 in
theorem fl_His_27 : FL R_His 27 ci_His 3 false (.int) := ⟨_, _, _, _, ck_His, by decide, lw_mem 89 rfl, rfl, rfl, rfl, fun h => nomatch h⟩
set_option maxRecDepth 100000 in
theorem fl_Clu_9 : FL R_Clu 9 ci_Clu 0 false (.int) := ⟨_, _, _, _, ck_Clu, by decide, lw_mem 112 rfl, rfl, rfl, rfl, fun h => nomatch h⟩
set_option maxRecDepth 100000 in
theorem fl_Clu_15 : FL R_Clu 15 ci_Clu 1 false (.int) := ⟨_, _, _, _, ck_Clu, by decide, lw_mem 113 rfl, rfl, rfl, rfl, fun h => nomatch h⟩
set_option maxRecDepth 100000 in
theorem fl_Clu_18 : FL R_Clu 18 ci_Clu 2 false (.int) := ⟨_, _, _, _, ck_Clu, by decide, lw_mem 114 rfl, rfl, rfl, rfl, fun h => nomatch h⟩
set_option maxRecDepth 100000 in
theorem fl_Itm_9 : FL R_Itm 9 ci_Itm 0 true (.array .int) := ⟨_, _, _, _, ck_Itm, by decide, lw_mem 123 rfl, rfl, rfl, rfl, fun _ => rfl⟩
set_option maxRecDepth 100000 in
theorem fl_Itm_18 : FL R_Itm 18 ci_Itm 1 true (.object "VersionedText$ClusterWalk") := ⟨_, _, _, _, ck_Itm, by decide, lw_mem 124 rfl, rfl, rfl, rfl, fun _ => rfl⟩
set_option maxRecDepth 100000 in
theorem fl_Itm_22 : FL R_Itm 22 ci_Itm 2 false (.int) := ⟨_, _, _, _, ck_Itm, by decide, lw_mem 125 rfl, rfl, rfl, rfl, fun h => nomatch h⟩
set_option maxRecDepth 100000 in
theorem fl_Itm_26 : FL R_Itm 26 ci_Itm 3 false (.int) := ⟨_, _, _, _, ck_Itm, by decide, lw_mem 126 rfl, rfl, rfl, rfl, fun h => nomatch h⟩
set_option maxRecDepth 100000 in
theorem fl_Itm_29 : FL R_Itm 29 ci_Itm 4 false (.int) := ⟨_, _, _, _, ck_Itm, by decide, lw_mem 127 rfl, rfl, rfl, rfl, fun h => nomatch h⟩
set_option maxRecDepth 100000 in
theorem fl_Sea_9 : FL R_Sea 9 ci_Sea 0 true (.array .int) := ⟨_, _, _, _, ck_Sea, by decide, lw_mem 145 rfl, rfl, rfl, rfl, fun _ => rfl⟩
set_option maxRecDepth 100000 in
theorem fl_Sea_15 : FL R_Sea 15 ci_Sea 1 true (.array .boolean) := ⟨_, _, _, _, ck_Sea, by decide, lw_mem 146 rfl, rfl, rfl, rfl, fun _ => rfl⟩
set_option maxRecDepth 100000 in
theorem fl_Sea_19 : FL R_Sea 19 ci_Sea 2 true (.array .int) := ⟨_, _, _, _, ck_Sea, by decide, lw_mem 147 rfl, rfl, rfl, rfl, fun _ => rfl⟩
set_option maxRecDepth 100000 in
theorem fl_Sea_22 : FL R_Sea 22 ci_Sea 3 false (.int) := ⟨_, _, _, _, ck_Sea, by decide, lw_mem 148 rfl, rfl, rfl, rfl, fun h => nomatch h⟩
set_option maxRecDepth 100000 in
theorem fl_Sea_26 : FL R_Sea 26 ci_Sea 4 false (.int) := ⟨_, _, _, _, ck_Sea, by decide, lw_mem 149 rfl, rfl, rfl, rfl, fun h => nomatch h⟩
set_option maxRecDepth 100000 in
theorem fl_VT_14 : FL R_VT 14 ci_VT 0 true (.object "VersionedText$Text") := ⟨_, _, _, _, ck_VT, by decide, lw_mem 161 rfl, rfl, rfl, rfl, fun _ => rfl⟩
set_option maxRecDepth 100000 in
theorem fl_VT_21 : FL R_VT 21 ci_VT 1 true (.object "VersionedText$RowText") := ⟨_, _, _, _, ck_VT, by decide, lw_mem 162 rfl, rfl, rfl, rfl, fun _ => rfl⟩
set_option maxRecDepth 100000 in
theorem fl_VT_27 : FL R_VT 27 ci_VT 2 true (.array (.object "VersionedText$Text")) := ⟨_, _, _, _, ck_VT, by decide, lw_mem 163 rfl, rfl, rfl, rfl, fun _ => rfl⟩
set_option maxRecDepth 100000 in
theorem fl_VT_31 : FL R_VT 31 ci_VT 3 true (.array .boolean) := ⟨_, _, _, _, ck_VT, by decide, lw_mem 164 rfl, rfl, rfl, rfl, fun _ => rfl⟩
set_option maxRecDepth 100000 in
theorem fl_VT_38 : FL R_VT 38 ci_VT 4 true (.object "VersionedText$History") := ⟨_, _, _, _, ck_VT, by decide, lw_mem 165 rfl, rfl, rfl, rfl, fun _ => rfl⟩
set_option maxRecDepth 100000 in
theorem fl_VT_45 : FL R_VT 45 ci_VT 5 true (.object "VersionedText$Items") := ⟨_, _, _, _, ck_VT, by decide, lw_mem 166 rfl, rfl, rfl, rfl, fun _ => rfl⟩
set_option maxRecDepth 100000 in
theorem fl_VT_52 : FL R_VT 52 ci_VT 6 true (.object "VersionedText$Search") := ⟨_, _, _, _, ck_VT, by decide, lw_mem 167 rfl, rfl, rfl, rfl, fun _ => rfl⟩
set_option maxRecDepth 100000 in
theorem fl_VT_56 : FL R_VT 56 ci_VT 7 false (.int) := ⟨_, _, _, _, ck_VT, by decide, lw_mem 168 rfl, rfl, rfl, rfl, fun h => nomatch h⟩
set_option maxRecDepth 100000 in
theorem fl_VT_60 : FL R_VT 60 ci_VT 8 false (.int) := ⟨_, _, _, _, ck_VT, by decide, lw_mem 169 rfl, rfl, rfl, rfl, fun h => nomatch h⟩
set_option maxRecDepth 100000 in
theorem fl_Mod_7 : FL R_Mod 7 ci_Mod 0 true (.array .int) := ⟨_, _, _, _, ck_Mod, by decide, lw_mem 542 rfl, rfl, rfl, rfl, fun _ => rfl⟩
set_option maxRecDepth 100000 in
theorem fl_Mod_13 : FL R_Mod 13 ci_Mod 1 true (.array .int) := ⟨_, _, _, _, ck_Mod, by decide, lw_mem 543 rfl, rfl, rfl, rfl, fun _ => rfl⟩
set_option maxRecDepth 100000 in
theorem fl_Mod_48 : FL R_Mod 48 ci_Mod 2 false (.int) := ⟨_, _, _, _, ck_Mod, by decide, lw_mem 544 rfl, rfl, rfl, rfl, fun h => nomatch h⟩
set_option maxRecDepth 100000 in
theorem fl_Mod_102 : FL R_Mod 102 ci_Mod 3 false (.int) := ⟨_, _, _, _, ck_Mod, by decide, lw_mem 545 rfl, rfl, rfl, rfl, fun h => nomatch h⟩
set_option maxRecDepth 100000 in
theorem fl_Mod_16 : FL R_Mod 16 ci_Mod 4 true (.array .boolean) := ⟨_, _, _, _, ck_Mod, by decide, lw_mem 546 rfl, rfl, rfl, rfl, fun _ => rfl⟩
set_option maxRecDepth 100000 in
theorem fl_Mod_20 : FL R_Mod 20 ci_Mod 5 true (.array .int) := ⟨_, _, _, _, ck_Mod, by decide, lw_mem 547 rfl, rfl, rfl, rfl, fun _ => rfl⟩
set_option maxRecDepth 100000 in
theorem fl_Mod_45 : FL R_Mod 45 ci_Mod 6 false (.int) := ⟨_, _, _, _, ck_Mod, by decide, lw_mem 548 rfl, rfl, rfl, rfl, fun h => nomatch h⟩
set_option maxRecDepth 100000 in
theorem fl_Mod_89 : FL R_Mod 89 ci_Mod 7 false (.int) := ⟨_, _, _, _, ck_Mod, by decide, lw_mem 549 rfl, rfl, rfl, rfl, fun h => nomatch h⟩
set_option maxRecDepth 100000 in
theorem fl_Mod_23 : FL R_Mod 23 ci_Mod 8 false (.int) := ⟨_, _, _, _, ck_Mod, by decide, lw_mem 550 rfl, rfl, rfl, rfl, fun h => nomatch h⟩
set_option maxRecDepth 100000 in
theorem fl_Mod_27 : FL R_Mod 27 ci_Mod 9 true (.array .int) := ⟨_, _, _, _, ck_Mod, by decide, lw_mem 551 rfl, rfl, rfl, rfl, fun _ => rfl⟩
set_option maxRecDepth 100000 in
theorem fl_Mod_96 : FL R_Mod 96 ci_Mod 10 false (.int) := ⟨_, _, _, _, ck_Mod, by decide, lw_mem 552 rfl, rfl, rfl, rfl, fun h => nomatch h⟩
set_option maxRecDepth 100000 in
theorem fl_Mod_51 : FL R_Mod 51 ci_Mod 11 false (.int) := ⟨_, _, _, _, ck_Mod, by decide, lw_mem 553 rfl, rfl, rfl, rfl, fun h => nomatch h⟩
set_option maxRecDepth 100000 in
theorem fl_Mod_30 : FL R_Mod 30 ci_Mod 12 true (.array .int) := ⟨_, _, _, _, ck_Mod, by decide, lw_mem 554 rfl, rfl, rfl, rfl, fun _ => rfl⟩
set_option maxRecDepth 100000 in
theorem fl_Mod_33 : FL R_Mod 33 ci_Mod 13 true (.array .int) := ⟨_, _, _, _, ck_Mod, by decide, lw_mem 555 rfl, rfl, rfl, rfl, fun _ => rfl⟩
set_option maxRecDepth 100000 in
theorem fl_Mod_73 : FL R_Mod 73 ci_Mod 14 false (.int) := ⟨_, _, _, _, ck_Mod, by decide, lw_mem 556 rfl, rfl, rfl, rfl, fun h => nomatch h⟩
set_option maxRecDepth 100000 in
theorem fl_Mod_36 : FL R_Mod 36 ci_Mod 15 true (.array .int) := ⟨_, _, _, _, ck_Mod, by decide, lw_mem 557 rfl, rfl, rfl, rfl, fun _ => rfl⟩
set_option maxRecDepth 100000 in
theorem fl_Mod_39 : FL R_Mod 39 ci_Mod 16 true (.array .boolean) := ⟨_, _, _, _, ck_Mod, by decide, lw_mem 558 rfl, rfl, rfl, rfl, fun _ => rfl⟩
set_option maxRecDepth 100000 in
theorem fl_Mod_42 : FL R_Mod 42 ci_Mod 17 false (.int) := ⟨_, _, _, _, ck_Mod, by decide, lw_mem 559 rfl, rfl, rfl, rfl, fun h => nomatch h⟩
set_option maxRecDepth 100000 in
theorem cst_Itm_72 : Cond.constant R_Itm 72 55296 ∈ lw_tbl := lw_mem 279 rfl
set_option maxRecDepth 100000 in
theorem cst_Itm_74 : Cond.constant R_Itm 74 56319 ∈ lw_tbl := lw_mem 280 rfl
set_option maxRecDepth 100000 in
theorem cst_Itm_73 : Cond.constant R_Itm 73 56320 ∈ lw_tbl := lw_mem 284 rfl
set_option maxRecDepth 100000 in
theorem cst_Itm_75 : Cond.constant R_Itm 75 57343 ∈ lw_tbl := lw_mem 285 rfl
set_option maxRecDepth 100000 in
theorem cst_Itm_71 : Cond.constant R_Itm 71 65536 ∈ lw_tbl := lw_mem 289 rfl
set_option maxRecDepth 100000 in
theorem cst_Clu_34 : Cond.constant R_Clu 34 127744 ∈ lw_tbl := lw_mem 304 rfl
set_option maxRecDepth 100000 in
theorem cst_Clu_35 : Cond.constant R_Clu 35 129791 ∈ lw_tbl := lw_mem 305 rfl
set_option maxRecDepth 100000 in
theorem cst_Clu_36 : Cond.constant R_Clu 36 127462 ∈ lw_tbl := lw_mem 309 rfl
set_option maxRecDepth 100000 in
theorem cst_Clu_37 : Cond.constant R_Clu 37 127487 ∈ lw_tbl := lw_mem 310 rfl
set_option maxRecDepth 100000 in
theorem cst_Mod_54 : Cond.constant R_Mod 54 55296 ∈ lw_tbl := lw_mem 633 rfl
set_option maxRecDepth 100000 in
theorem cst_Mod_55 : Cond.constant R_Mod 55 56319 ∈ lw_tbl := lw_mem 634 rfl
set_option maxRecDepth 100000 in
theorem cst_Mod_56 : Cond.constant R_Mod 56 56320 ∈ lw_tbl := lw_mem 635 rfl
set_option maxRecDepth 100000 in
theorem cst_Mod_57 : Cond.constant R_Mod 57 57343 ∈ lw_tbl := lw_mem 636 rfl
set_option maxRecDepth 100000 in
theorem cst_Mod_58 : Cond.constant R_Mod 58 65536 ∈ lw_tbl := lw_mem 637 rfl
set_option maxRecDepth 100000 in
theorem cst_Mod_59 : Cond.constant R_Mod 59 127744 ∈ lw_tbl := lw_mem 648 rfl
set_option maxRecDepth 100000 in
theorem cst_Mod_60 : Cond.constant R_Mod 60 129791 ∈ lw_tbl := lw_mem 649 rfl
set_option maxRecDepth 100000 in
theorem cst_Mod_61 : Cond.constant R_Mod 61 127462 ∈ lw_tbl := lw_mem 653 rfl
set_option maxRecDepth 100000 in
theorem cst_Mod_62 : Cond.constant R_Mod 62 127487 ∈ lw_tbl := lw_mem 654 rfl
set_option maxRecDepth 100000 in
theorem cn_Law_15 : CIM R_Law 15 m_VT_init 1 := ⟨⟨lw_mem 41 rfl, lw_mem 27 rfl, by decide, by decide +kernel, lw_mem 39 rfl⟩, lw_mem 40 rfl, rfl, rfl⟩
set_option maxRecDepth 100000 in
theorem oi_VT : Cond.methodLink R_VT 1 Lib.objectInit ∈ lw_tbl ∧ Cond.instanceMethod Lib.objectInit ∈ lw_tbl ∧ Cond.code Lib.objectInit ⟨#[0xb1]⟩ 1 none ∈ lw_tbl := ⟨lw_mem 42 rfl, lw_mem 43 rfl, lw_mem 44 rfl⟩
set_option maxRecDepth 100000 in
theorem cn_VT_11 : CIM R_VT 11 m_Gap_init 1 := ⟨⟨lw_mem 49 rfl, lw_mem 28 rfl, by decide, by decide +kernel, lw_mem 47 rfl⟩, lw_mem 48 rfl, rfl, rfl⟩
set_option maxRecDepth 100000 in
theorem oi_Gap : Cond.methodLink R_Gap 3 Lib.objectInit ∈ lw_tbl ∧ Cond.instanceMethod Lib.objectInit ∈ lw_tbl ∧ Cond.code Lib.objectInit ⟨#[0xb1]⟩ 1 none ∈ lw_tbl := ⟨lw_mem 50 rfl, lw_mem 43 rfl, lw_mem 44 rfl⟩
set_option maxRecDepth 100000 in
theorem cn_VT_20 : CIM R_VT 20 m_Row_init 1 := ⟨⟨lw_mem 66 rfl, lw_mem 29 rfl, by decide, by decide +kernel, lw_mem 64 rfl⟩, lw_mem 65 rfl, rfl, rfl⟩
set_option maxRecDepth 100000 in
theorem oi_Row : Cond.methodLink R_Row 3 Lib.objectInit ∈ lw_tbl ∧ Cond.instanceMethod Lib.objectInit ∈ lw_tbl ∧ Cond.code Lib.objectInit ⟨#[0xb1]⟩ 1 none ∈ lw_tbl := ⟨lw_mem 67 rfl, lw_mem 43 rfl, lw_mem 44 rfl⟩
set_option maxRecDepth 100000 in
theorem cn_VT_37 : CIM R_VT 37 m_His_init 0 := ⟨⟨lw_mem 81 rfl, lw_mem 30 rfl, by decide, by decide +kernel, lw_mem 79 rfl⟩, lw_mem 80 rfl, rfl, rfl⟩
set_option maxRecDepth 100000 in
theorem oi_His : Cond.methodLink R_His 3 Lib.objectInit ∈ lw_tbl ∧ Cond.instanceMethod Lib.objectInit ∈ lw_tbl ∧ Cond.code Lib.objectInit ⟨#[0xb1]⟩ 1 none ∈ lw_tbl := ⟨lw_mem 82 rfl, lw_mem 43 rfl, lw_mem 44 rfl⟩
set_option maxRecDepth 100000 in
theorem cn_His_17 : CIM R_His 17 m_Row_init 1 := ⟨⟨lw_mem 66 rfl, lw_mem 29 rfl, by decide, by decide +kernel, lw_mem 85 rfl⟩, lw_mem 65 rfl, rfl, rfl⟩
set_option maxRecDepth 100000 in
theorem cn_VT_44 : CIM R_VT 44 m_Itm_init 0 := ⟨⟨lw_mem 104 rfl, lw_mem 31 rfl, by decide, by decide +kernel, lw_mem 102 rfl⟩, lw_mem 103 rfl, rfl, rfl⟩
set_option maxRecDepth 100000 in
theorem oi_Itm : Cond.methodLink R_Itm 3 Lib.objectInit ∈ lw_tbl ∧ Cond.instanceMethod Lib.objectInit ∈ lw_tbl ∧ Cond.code Lib.objectInit ⟨#[0xb1]⟩ 1 none ∈ lw_tbl := ⟨lw_mem 105 rfl, lw_mem 43 rfl, lw_mem 44 rfl⟩
set_option maxRecDepth 100000 in
theorem cn_Itm_17 : CIM R_Itm 17 m_Clu_init 0 := ⟨⟨lw_mem 110 rfl, lw_mem 32 rfl, by decide, by decide +kernel, lw_mem 108 rfl⟩, lw_mem 109 rfl, rfl, rfl⟩
set_option maxRecDepth 100000 in
theorem oi_Clu : Cond.methodLink R_Clu 3 Lib.objectInit ∈ lw_tbl ∧ Cond.instanceMethod Lib.objectInit ∈ lw_tbl ∧ Cond.code Lib.objectInit ⟨#[0xb1]⟩ 1 none ∈ lw_tbl := ⟨lw_mem 111 rfl, lw_mem 43 rfl, lw_mem 44 rfl⟩
set_option maxRecDepth 100000 in
theorem cn_VT_51 : CIM R_VT 51 m_Sea_init 0 := ⟨⟨lw_mem 143 rfl, lw_mem 33 rfl, by decide, by decide +kernel, lw_mem 141 rfl⟩, lw_mem 142 rfl, rfl, rfl⟩
set_option maxRecDepth 100000 in
theorem oi_Sea : Cond.methodLink R_Sea 3 Lib.objectInit ∈ lw_tbl ∧ Cond.instanceMethod Lib.objectInit ∈ lw_tbl ∧ Cond.code Lib.objectInit ⟨#[0xb1]⟩ 1 none ∈ lw_tbl := ⟨lw_mem 144 rfl, lw_mem 43 rfl, lw_mem 44 rfl⟩
set_option maxRecDepth 100000 in
theorem cv_Law_21 : CVM R_Law 21 m_VT_type ci_VT 1 := ⟨⟨lw_mem 192 rfl, lw_mem 27 rfl, by decide, by decide +kernel, lw_mem 189 rfl⟩, _, _, _, rfl, lw_mem 190 rfl, lw_mem 191 rfl⟩
set_option maxRecDepth 100000 in
theorem cv_VT_63 : CVM R_VT 63 m_Row_append ci_Row 1 := ⟨⟨lw_mem 196 rfl, lw_mem 29 rfl, by decide, by decide +kernel, lw_mem 193 rfl⟩, _, _, _, rfl, lw_mem 194 rfl, lw_mem 195 rfl⟩
set_option maxRecDepth 100000 in
theorem cv_Law_26 : CVM R_Law 26 m_VT_scrap ci_VT 0 := ⟨⟨lw_mem 200 rfl, lw_mem 27 rfl, by decide, by decide +kernel, lw_mem 197 rfl⟩, _, _, _, rfl, lw_mem 198 rfl, lw_mem 199 rfl⟩
set_option maxRecDepth 100000 in
theorem cv_VT_67 : CVM R_VT 67 m_Row_length ci_Row 0 := ⟨⟨lw_mem 204 rfl, lw_mem 29 rfl, by decide, by decide +kernel, lw_mem 201 rfl⟩, _, _, _, rfl, lw_mem 202 rfl, lw_mem 203 rfl⟩
set_option maxRecDepth 100000 in
theorem cv_VT_71 : CVM R_VT 71 m_Row_cut ci_Row 2 := ⟨⟨lw_mem 208 rfl, lw_mem 29 rfl, by decide, by decide +kernel, lw_mem 205 rfl⟩, _, _, _, rfl, lw_mem 206 rfl, lw_mem 207 rfl⟩
set_option maxRecDepth 100000 in
theorem ac_Row : Cond.methodLink R_Row 19 arraycopyName ∈ lw_tbl ∧ Cond.native arraycopyName ∈ lw_tbl ∧ Cond.static arraycopyName ∈ lw_tbl ∧ Cond.initialized "java/lang/System" ∈ lw_tbl := ⟨lw_mem 209 rfl, lw_mem 211 rfl, lw_mem 210 rfl, lw_mem 35 rfl⟩
set_option maxRecDepth 100000 in
theorem cv_Law_30 : CVM R_Law 30 m_VT_insert ci_VT 1 := ⟨⟨lw_mem 215 rfl, lw_mem 27 rfl, by decide, by decide +kernel, lw_mem 212 rfl⟩, _, _, _, rfl, lw_mem 213 rfl, lw_mem 214 rfl⟩
set_option maxRecDepth 100000 in
theorem cv_VT_75 : CVM R_VT 75 m_VT_canTakeClip ci_VT 2 := ⟨⟨lw_mem 219 rfl, lw_mem 27 rfl, by decide, by decide +kernel, lw_mem 216 rfl⟩, _, _, _, rfl, lw_mem 218 rfl, lw_mem 0 rfl⟩
set_option maxRecDepth 100000 in
theorem cv_VT_94 : CVM R_VT 94 m_VT_canEdit ci_VT 2 := ⟨⟨lw_mem 223 rfl, lw_mem 27 rfl, by decide, by decide +kernel, lw_mem 220 rfl⟩, _, _, _, rfl, lw_mem 222 rfl, lw_mem 1 rfl⟩
set_option maxRecDepth 100000 in
theorem cs_VT_137 : CSS R_VT 137 m_VT_isPlace 2 := ⟨⟨lw_mem 226 rfl, lw_mem 27 rfl, by decide, by decide +kernel, lw_mem 224 rfl⟩, lw_mem 225 rfl⟩
set_option maxRecDepth 100000 in
theorem cf_VT_159_Row : CFM R_VT 159 ci_Row y_Txt_length m_Row_length 0 := ⟨_, _, _, rfl, lw_mem 204 rfl, lw_mem 29 rfl, by decide, by decide +kernel, lw_mem 228 rfl, lw_mem 238 rfl, lw_mem 202 rfl, by decide +kernel⟩
set_option maxRecDepth 100000 in
theorem cf_VT_159_Gap : CFM R_VT 159 ci_Gap y_Txt_length m_Gap_length 0 := ⟨_, _, _, rfl, lw_mem 236 rfl, lw_mem 28 rfl, by decide, by decide +kernel, lw_mem 228 rfl, lw_mem 232 rfl, lw_mem 234 rfl, by decide +kernel⟩
set_option maxRecDepth 100000 in
theorem cv_VT_127 : CVM R_VT 127 m_Itm_measure ci_Itm 2 := ⟨⟨lw_mem 244 rfl, lw_mem 31 rfl, by decide, by decide +kernel, lw_mem 241 rfl⟩, _, _, _, rfl, lw_mem 242 rfl, lw_mem 243 rfl⟩
set_option maxRecDepth 100000 in
theorem cf_Itm_32_Row : CFM R_Itm 32 ci_Row y_Txt_length m_Row_length 0 := ⟨_, _, _, rfl, lw_mem 204 rfl, lw_mem 29 rfl, by decide, by decide +kernel, lw_mem 246 rfl, lw_mem 238 rfl, lw_mem 202 rfl, by decide +kernel⟩
set_option maxRecDepth 100000 in
theorem cf_Itm_32_Gap : CFM R_Itm 32 ci_Gap y_Txt_length m_Gap_length 0 := ⟨_, _, _, rfl, lw_mem 236 rfl, lw_mem 28 rfl, by decide, by decide +kernel, lw_mem 246 rfl, lw_mem 232 rfl, lw_mem 234 rfl, by decide +kernel⟩
set_option maxRecDepth 100000 in
theorem cv_Itm_37 : CVM R_Itm 37 m_Clu_restart ci_Clu 0 := ⟨⟨lw_mem 250 rfl, lw_mem 32 rfl, by decide, by decide +kernel, lw_mem 247 rfl⟩, _, _, _, rfl, lw_mem 248 rfl, lw_mem 249 rfl⟩
set_option maxRecDepth 100000 in
theorem cv_Itm_40 : CVM R_Itm 40 m_Itm_begins ci_Itm 2 := ⟨⟨lw_mem 254 rfl, lw_mem 31 rfl, by decide, by decide +kernel, lw_mem 251 rfl⟩, _, _, _, rfl, lw_mem 253 rfl, lw_mem 2 rfl⟩
set_option maxRecDepth 100000 in
theorem cs_Itm_48 : CSS R_Itm 48 m_Itm_beginsLine 2 := ⟨⟨lw_mem 257 rfl, lw_mem 31 rfl, by decide, by decide +kernel, lw_mem 255 rfl⟩, lw_mem 256 rfl⟩
set_option maxRecDepth 100000 in
theorem cf_Itm_62_Row : CFM R_Itm 62 ci_Row y_Txt_at m_Row_at 1 := ⟨_, _, _, rfl, lw_mem 272 rfl, lw_mem 29 rfl, by decide, by decide +kernel, lw_mem 259 rfl, lw_mem 268 rfl, lw_mem 270 rfl, by decide +kernel⟩
set_option maxRecDepth 100000 in
theorem cf_Itm_62_Gap : CFM R_Itm 62 ci_Gap y_Txt_at m_Gap_at 1 := ⟨_, _, _, rfl, lw_mem 266 rfl, lw_mem 28 rfl, by decide, by decide +kernel, lw_mem 259 rfl, lw_mem 262 rfl, lw_mem 264 rfl, by decide +kernel⟩
set_option maxRecDepth 100000 in
theorem cv_Gap_22 : CVM R_Gap 22 m_Gap_length ci_Gap 0 := ⟨⟨lw_mem 236 rfl, lw_mem 28 rfl, by decide, by decide +kernel, lw_mem 267 rfl⟩, _, _, _, rfl, lw_mem 234 rfl, lw_mem 754 rfl⟩
set_option maxRecDepth 100000 in
theorem cs_Itm_51 : CSS R_Itm 51 m_Itm_isSecondHalf 2 := ⟨⟨lw_mem 275 rfl, lw_mem 31 rfl, by decide, by decide +kernel, lw_mem 273 rfl⟩, lw_mem 274 rfl⟩
set_option maxRecDepth 100000 in
theorem cs_Itm_65 : CSS R_Itm 65 m_Itm_isFirst 1 := ⟨⟨lw_mem 278 rfl, lw_mem 31 rfl, by decide, by decide +kernel, lw_mem 276 rfl⟩, lw_mem 277 rfl⟩
set_option maxRecDepth 100000 in
theorem cs_Itm_68 : CSS R_Itm 68 m_Itm_isSecond 1 := ⟨⟨lw_mem 283 rfl, lw_mem 31 rfl, by decide, by decide +kernel, lw_mem 281 rfl⟩, lw_mem 282 rfl⟩
set_option maxRecDepth 100000 in
theorem cs_Itm_54 : CSS R_Itm 54 m_Itm_codeAt 2 := ⟨⟨lw_mem 288 rfl, lw_mem 31 rfl, by decide, by decide +kernel, lw_mem 286 rfl⟩, lw_mem 287 rfl⟩
set_option maxRecDepth 100000 in
theorem cv_Itm_58 : CVM R_Itm 58 m_Clu_isCutBefore ci_Clu 1 := ⟨⟨lw_mem 293 rfl, lw_mem 32 rfl, by decide, by decide +kernel, lw_mem 290 rfl⟩, _, _, _, rfl, lw_mem 291 rfl, lw_mem 292 rfl⟩
set_option maxRecDepth 100000 in
theorem cv_Clu_21 : CVM R_Clu 21 m_Clu_isJoinedTo ci_Clu 1 := ⟨⟨lw_mem 297 rfl, lw_mem 32 rfl, by decide, by decide +kernel, lw_mem 294 rfl⟩, _, _, _, rfl, lw_mem 296 rfl, lw_mem 3 rfl⟩
set_option maxRecDepth 100000 in
theorem cs_Clu_28 : CSS R_Clu 28 m_Clu_isMark 1 := ⟨⟨lw_mem 300 rfl, lw_mem 32 rfl, by decide, by decide +kernel, lw_mem 298 rfl⟩, lw_mem 299 rfl⟩
set_option maxRecDepth 100000 in
theorem cs_Clu_31 : CSS R_Clu 31 m_Clu_isPicture 1 := ⟨⟨lw_mem 303 rfl, lw_mem 32 rfl, by decide, by decide +kernel, lw_mem 301 rfl⟩, lw_mem 302 rfl⟩
set_option maxRecDepth 100000 in
theorem cs_Clu_25 : CSS R_Clu 25 m_Clu_isFlag 1 := ⟨⟨lw_mem 308 rfl, lw_mem 32 rfl, by decide, by decide +kernel, lw_mem 306 rfl⟩, lw_mem 307 rfl⟩
set_option maxRecDepth 100000 in
theorem cv_VT_160 : CVM R_VT 160 m_Itm_isInside ci_Itm 1 := ⟨⟨lw_mem 314 rfl, lw_mem 31 rfl, by decide, by decide +kernel, lw_mem 311 rfl⟩, _, _, _, rfl, lw_mem 312 rfl, lw_mem 313 rfl⟩
set_option maxRecDepth 100000 in
theorem cv_Itm_44 : CVM R_Itm 44 m_Itm_having ci_Itm 1 := ⟨⟨lw_mem 318 rfl, lw_mem 31 rfl, by decide, by decide +kernel, lw_mem 315 rfl⟩, _, _, _, rfl, lw_mem 316 rfl, lw_mem 317 rfl⟩
set_option maxRecDepth 100000 in
theorem cf_VT_79_Row : CFM R_VT 79 ci_Row y_Txt_put m_Row_put 2 := ⟨_, _, _, rfl, lw_mem 342 rfl, lw_mem 29 rfl, by decide, by decide +kernel, lw_mem 320 rfl, lw_mem 338 rfl, lw_mem 340 rfl, by decide +kernel⟩
set_option maxRecDepth 100000 in
theorem cf_VT_79_Gap : CFM R_VT 79 ci_Gap y_Txt_put m_Gap_put 2 := ⟨_, _, _, rfl, lw_mem 327 rfl, lw_mem 28 rfl, by decide, by decide +kernel, lw_mem 320 rfl, lw_mem 323 rfl, lw_mem 325 rfl, by decide +kernel⟩
set_option maxRecDepth 100000 in
theorem cv_Gap_26 : CVM R_Gap 26 m_Gap_moveGap ci_Gap 1 := ⟨⟨lw_mem 331 rfl, lw_mem 28 rfl, by decide, by decide +kernel, lw_mem 328 rfl⟩, _, _, _, rfl, lw_mem 330 rfl, lw_mem 4 rfl⟩
set_option maxRecDepth 100000 in
theorem ac_Gap : Cond.methodLink R_Gap 44 arraycopyName ∈ lw_tbl ∧ Cond.native arraycopyName ∈ lw_tbl ∧ Cond.static arraycopyName ∈ lw_tbl ∧ Cond.initialized "java/lang/System" ∈ lw_tbl := ⟨lw_mem 332 rfl, lw_mem 211 rfl, lw_mem 210 rfl, lw_mem 35 rfl⟩
set_option maxRecDepth 100000 in
theorem cv_Gap_30 : CVM R_Gap 30 m_Row_copyInto ci_Row 2 := ⟨⟨lw_mem 336 rfl, lw_mem 29 rfl, by decide, by decide +kernel, lw_mem 333 rfl⟩, _, _, _, rfl, lw_mem 334 rfl, lw_mem 335 rfl⟩
set_option maxRecDepth 100000 in
theorem cv_Gap_36 : CVM R_Gap 36 m_Row_length ci_Row 0 := ⟨⟨lw_mem 204 rfl, lw_mem 29 rfl, by decide, by decide +kernel, lw_mem 337 rfl⟩, _, _, _, rfl, lw_mem 202 rfl, lw_mem 203 rfl⟩
set_option maxRecDepth 100000 in
theorem cv_Row_25 : CVM R_Row 25 m_Row_copyInto ci_Row 2 := ⟨⟨lw_mem 336 rfl, lw_mem 29 rfl, by decide, by decide +kernel, lw_mem 343 rfl⟩, _, _, _, rfl, lw_mem 334 rfl, lw_mem 335 rfl⟩
set_option maxRecDepth 100000 in
theorem cv_VT_83 : CVM R_VT 83 m_VT_clipIsTyping ci_VT 0 := ⟨⟨lw_mem 347 rfl, lw_mem 27 rfl, by decide, by decide +kernel, lw_mem 344 rfl⟩, _, _, _, rfl, lw_mem 346 rfl, lw_mem 5 rfl⟩
set_option maxRecDepth 100000 in
theorem cv_VT_163 : CVM R_VT 163 m_Row_at ci_Row 1 := ⟨⟨lw_mem 272 rfl, lw_mem 29 rfl, by decide, by decide +kernel, lw_mem 348 rfl⟩, _, _, _, rfl, lw_mem 270 rfl, lw_mem 755 rfl⟩
set_option maxRecDepth 100000 in
theorem cv_VT_87 : CVM R_VT 87 m_His_extendStep ci_His 1 := ⟨⟨lw_mem 352 rfl, lw_mem 30 rfl, by decide, by decide +kernel, lw_mem 349 rfl⟩, _, _, _, rfl, lw_mem 350 rfl, lw_mem 351 rfl⟩
set_option maxRecDepth 100000 in
theorem cv_His_30 : CVM R_His 30 m_His_latest ci_His 0 := ⟨⟨lw_mem 356 rfl, lw_mem 30 rfl, by decide, by decide +kernel, lw_mem 353 rfl⟩, _, _, _, rfl, lw_mem 355 rfl, lw_mem 6 rfl⟩
set_option maxRecDepth 100000 in
theorem cv_His_34 : CVM R_His 34 m_Row_become ci_Row 1 := ⟨⟨lw_mem 360 rfl, lw_mem 29 rfl, by decide, by decide +kernel, lw_mem 357 rfl⟩, _, _, _, rfl, lw_mem 358 rfl, lw_mem 359 rfl⟩
set_option maxRecDepth 100000 in
theorem cf_Row_29_Row : CFM R_Row 29 ci_Row y_Txt_length m_Row_length 0 := ⟨_, _, _, rfl, lw_mem 204 rfl, lw_mem 29 rfl, by decide, by decide +kernel, lw_mem 362 rfl, lw_mem 238 rfl, lw_mem 202 rfl, by decide +kernel⟩
set_option maxRecDepth 100000 in
theorem cf_Row_29_Gap : CFM R_Row 29 ci_Gap y_Txt_length m_Gap_length 0 := ⟨_, _, _, rfl, lw_mem 236 rfl, lw_mem 28 rfl, by decide, by decide +kernel, lw_mem 362 rfl, lw_mem 232 rfl, lw_mem 234 rfl, by decide +kernel⟩
set_option maxRecDepth 100000 in
theorem cf_Row_34_Row : CFM R_Row 34 ci_Row y_Txt_at m_Row_at 1 := ⟨_, _, _, rfl, lw_mem 272 rfl, lw_mem 29 rfl, by decide, by decide +kernel, lw_mem 364 rfl, lw_mem 268 rfl, lw_mem 270 rfl, by decide +kernel⟩
set_option maxRecDepth 100000 in
theorem cf_Row_34_Gap : CFM R_Row 34 ci_Gap y_Txt_at m_Gap_at 1 := ⟨_, _, _, rfl, lw_mem 266 rfl, lw_mem 28 rfl, by decide, by decide +kernel, lw_mem 364 rfl, lw_mem 262 rfl, lw_mem 264 rfl, by decide +kernel⟩
set_option maxRecDepth 100000 in
theorem cv_VT_91 : CVM R_VT 91 m_His_addStep ci_His 1 := ⟨⟨lw_mem 368 rfl, lw_mem 30 rfl, by decide, by decide +kernel, lw_mem 365 rfl⟩, _, _, _, rfl, lw_mem 366 rfl, lw_mem 367 rfl⟩
set_option maxRecDepth 100000 in
theorem cv_Law_35 : CVM R_Law 35 m_VT_remove ci_VT 2 := ⟨⟨lw_mem 372 rfl, lw_mem 27 rfl, by decide, by decide +kernel, lw_mem 369 rfl⟩, _, _, _, rfl, lw_mem 370 rfl, lw_mem 371 rfl⟩
set_option maxRecDepth 100000 in
theorem cf_VT_97_Row : CFM R_VT 97 ci_Row y_Txt_cut m_Row_cut 2 := ⟨_, _, _, rfl, lw_mem 208 rfl, lw_mem 29 rfl, by decide, by decide +kernel, lw_mem 374 rfl, lw_mem 382 rfl, lw_mem 206 rfl, by decide +kernel⟩
set_option maxRecDepth 100000 in
theorem cf_VT_97_Gap : CFM R_VT 97 ci_Gap y_Txt_cut m_Gap_cut 2 := ⟨_, _, _, rfl, lw_mem 381 rfl, lw_mem 28 rfl, by decide, by decide +kernel, lw_mem 374 rfl, lw_mem 377 rfl, lw_mem 379 rfl, by decide +kernel⟩
set_option maxRecDepth 100000 in
theorem cv_VT_98 : CVM R_VT 98 m_VT_addClosedStep ci_VT 0 := ⟨⟨lw_mem 388 rfl, lw_mem 27 rfl, by decide, by decide +kernel, lw_mem 385 rfl⟩, _, _, _, rfl, lw_mem 387 rfl, lw_mem 7 rfl⟩
set_option maxRecDepth 100000 in
theorem cv_Law_40 : CVM R_Law 40 m_VT_replace ci_VT 2 := ⟨⟨lw_mem 392 rfl, lw_mem 27 rfl, by decide, by decide +kernel, lw_mem 389 rfl⟩, _, _, _, rfl, lw_mem 390 rfl, lw_mem 391 rfl⟩
set_option maxRecDepth 100000 in
theorem cv_Law_44 : CVM R_Law 44 m_VT_undo ci_VT 0 := ⟨⟨lw_mem 396 rfl, lw_mem 27 rfl, by decide, by decide +kernel, lw_mem 393 rfl⟩, _, _, _, rfl, lw_mem 394 rfl, lw_mem 395 rfl⟩
set_option maxRecDepth 100000 in
theorem cv_VT_101 : CVM R_VT 101 m_His_undoable ci_His 0 := ⟨⟨lw_mem 400 rfl, lw_mem 30 rfl, by decide, by decide +kernel, lw_mem 397 rfl⟩, _, _, _, rfl, lw_mem 398 rfl, lw_mem 399 rfl⟩
set_option maxRecDepth 100000 in
theorem cv_VT_104 : CVM R_VT 104 m_His_goBack ci_His 1 := ⟨⟨lw_mem 404 rfl, lw_mem 30 rfl, by decide, by decide +kernel, lw_mem 401 rfl⟩, _, _, _, rfl, lw_mem 402 rfl, lw_mem 403 rfl⟩
set_option maxRecDepth 100000 in
theorem cf_His_38_Row : CFM R_His 38 ci_Row y_Txt_become m_Row_become 1 := ⟨_, _, _, rfl, lw_mem 360 rfl, lw_mem 29 rfl, by decide, by decide +kernel, lw_mem 406 rfl, lw_mem 418 rfl, lw_mem 358 rfl, by decide +kernel⟩
set_option maxRecDepth 100000 in
theorem cf_His_38_Gap : CFM R_His 38 ci_Gap y_Txt_become m_Gap_become 1 := ⟨_, _, _, rfl, lw_mem 413 rfl, lw_mem 28 rfl, by decide, by decide +kernel, lw_mem 406 rfl, lw_mem 409 rfl, lw_mem 411 rfl, by decide +kernel⟩
set_option maxRecDepth 100000 in
theorem cf_Gap_37_Row : CFM R_Gap 37 ci_Row y_Txt_length m_Row_length 0 := ⟨_, _, _, rfl, lw_mem 204 rfl, lw_mem 29 rfl, by decide, by decide +kernel, lw_mem 415 rfl, lw_mem 238 rfl, lw_mem 202 rfl, by decide +kernel⟩
set_option maxRecDepth 100000 in
theorem cf_Gap_37_Gap : CFM R_Gap 37 ci_Gap y_Txt_length m_Gap_length 0 := ⟨_, _, _, rfl, lw_mem 236 rfl, lw_mem 28 rfl, by decide, by decide +kernel, lw_mem 415 rfl, lw_mem 232 rfl, lw_mem 234 rfl, by decide +kernel⟩
set_option maxRecDepth 100000 in
theorem cf_Gap_40_Row : CFM R_Gap 40 ci_Row y_Txt_at m_Row_at 1 := ⟨_, _, _, rfl, lw_mem 272 rfl, lw_mem 29 rfl, by decide, by decide +kernel, lw_mem 417 rfl, lw_mem 268 rfl, lw_mem 270 rfl, by decide +kernel⟩
set_option maxRecDepth 100000 in
theorem cf_Gap_40_Gap : CFM R_Gap 40 ci_Gap y_Txt_at m_Gap_at 1 := ⟨_, _, _, rfl, lw_mem 266 rfl, lw_mem 28 rfl, by decide, by decide +kernel, lw_mem 417 rfl, lw_mem 262 rfl, lw_mem 264 rfl, by decide +kernel⟩
set_option maxRecDepth 100000 in
theorem cv_Law_49 : CVM R_Law 49 m_VT_redo ci_VT 0 := ⟨⟨lw_mem 424 rfl, lw_mem 27 rfl, by decide, by decide +kernel, lw_mem 421 rfl⟩, _, _, _, rfl, lw_mem 422 rfl, lw_mem 423 rfl⟩
set_option maxRecDepth 100000 in
theorem cv_VT_107 : CVM R_VT 107 m_His_redoable ci_His 0 := ⟨⟨lw_mem 428 rfl, lw_mem 30 rfl, by decide, by decide +kernel, lw_mem 425 rfl⟩, _, _, _, rfl, lw_mem 426 rfl, lw_mem 427 rfl⟩
set_option maxRecDepth 100000 in
theorem cv_VT_110 : CVM R_VT 110 m_His_goForward ci_His 1 := ⟨⟨lw_mem 432 rfl, lw_mem 30 rfl, by decide, by decide +kernel, lw_mem 429 rfl⟩, _, _, _, rfl, lw_mem 430 rfl, lw_mem 431 rfl⟩
set_option maxRecDepth 100000 in
theorem cv_Law_53 : CVM R_Law 53 m_VT_steps ci_VT 1 := ⟨⟨lw_mem 436 rfl, lw_mem 27 rfl, by decide, by decide +kernel, lw_mem 433 rfl⟩, _, _, _, rfl, lw_mem 434 rfl, lw_mem 435 rfl⟩
set_option maxRecDepth 100000 in
theorem cv_Law_58 : CVM R_Law 58 m_VT_seal ci_VT 0 := ⟨⟨lw_mem 440 rfl, lw_mem 27 rfl, by decide, by decide +kernel, lw_mem 437 rfl⟩, _, _, _, rfl, lw_mem 438 rfl, lw_mem 439 rfl⟩
set_option maxRecDepth 100000 in
theorem cv_Law_62 : CVM R_Law 62 m_VT_guard ci_VT 1 := ⟨⟨lw_mem 444 rfl, lw_mem 27 rfl, by decide, by decide +kernel, lw_mem 441 rfl⟩, _, _, _, rfl, lw_mem 442 rfl, lw_mem 443 rfl⟩
set_option maxRecDepth 100000 in
theorem cv_Law_66 : CVM R_Law 66 m_VT_snapshot ci_VT 0 := ⟨⟨lw_mem 448 rfl, lw_mem 27 rfl, by decide, by decide +kernel, lw_mem 445 rfl⟩, _, _, _, rfl, lw_mem 446 rfl, lw_mem 447 rfl⟩
set_option maxRecDepth 100000 in
theorem cf_VT_113_Row : CFM R_VT 113 ci_Row y_Txt_become m_Row_become 1 := ⟨_, _, _, rfl, lw_mem 360 rfl, lw_mem 29 rfl, by decide, by decide +kernel, lw_mem 450 rfl, lw_mem 418 rfl, lw_mem 358 rfl, by decide +kernel⟩
set_option maxRecDepth 100000 in
theorem cf_VT_113_Gap : CFM R_VT 113 ci_Gap y_Txt_become m_Gap_become 1 := ⟨_, _, _, rfl, lw_mem 413 rfl, lw_mem 28 rfl, by decide, by decide +kernel, lw_mem 450 rfl, lw_mem 409 rfl, lw_mem 411 rfl, by decide +kernel⟩
set_option maxRecDepth 100000 in
theorem cv_Law_71 : CVM R_Law 71 m_VT_release ci_VT 1 := ⟨⟨lw_mem 454 rfl, lw_mem 27 rfl, by decide, by decide +kernel, lw_mem 451 rfl⟩, _, _, _, rfl, lw_mem 452 rfl, lw_mem 453 rfl⟩
set_option maxRecDepth 100000 in
theorem cv_VT_116 : CVM R_VT 116 m_VT_isVersion ci_VT 1 := ⟨⟨lw_mem 458 rfl, lw_mem 27 rfl, by decide, by decide +kernel, lw_mem 455 rfl⟩, _, _, _, rfl, lw_mem 457 rfl, lw_mem 8 rfl⟩
set_option maxRecDepth 100000 in
theorem cv_Law_75 : CVM R_Law 75 m_VT_unit ci_VT 2 := ⟨⟨lw_mem 462 rfl, lw_mem 27 rfl, by decide, by decide +kernel, lw_mem 459 rfl⟩, _, _, _, rfl, lw_mem 460 rfl, lw_mem 461 rfl⟩
set_option maxRecDepth 100000 in
theorem cf_VT_120_Row : CFM R_VT 120 ci_Row y_Txt_at m_Row_at 1 := ⟨_, _, _, rfl, lw_mem 272 rfl, lw_mem 29 rfl, by decide, by decide +kernel, lw_mem 464 rfl, lw_mem 268 rfl, lw_mem 270 rfl, by decide +kernel⟩
set_option maxRecDepth 100000 in
theorem cf_VT_120_Gap : CFM R_VT 120 ci_Gap y_Txt_at m_Gap_at 1 := ⟨_, _, _, rfl, lw_mem 266 rfl, lw_mem 28 rfl, by decide, by decide +kernel, lw_mem 464 rfl, lw_mem 262 rfl, lw_mem 264 rfl, by decide +kernel⟩
set_option maxRecDepth 100000 in
theorem cv_Law_80 : CVM R_Law 80 m_VT_count ci_VT 2 := ⟨⟨lw_mem 468 rfl, lw_mem 27 rfl, by decide, by decide +kernel, lw_mem 465 rfl⟩, _, _, _, rfl, lw_mem 466 rfl, lw_mem 467 rfl⟩
set_option maxRecDepth 100000 in
theorem cs_VT_124 : CSS R_VT 124 m_VT_isMetric 1 := ⟨⟨lw_mem 471 rfl, lw_mem 27 rfl, by decide, by decide +kernel, lw_mem 469 rfl⟩, lw_mem 470 rfl⟩
set_option maxRecDepth 100000 in
theorem cv_VT_131 : CVM R_VT 131 m_Itm_number ci_Itm 0 := ⟨⟨lw_mem 475 rfl, lw_mem 31 rfl, by decide, by decide +kernel, lw_mem 472 rfl⟩, _, _, _, rfl, lw_mem 473 rfl, lw_mem 474 rfl⟩
set_option maxRecDepth 100000 in
theorem cv_Law_84 : CVM R_Law 84 m_VT_place ci_VT 3 := ⟨⟨lw_mem 479 rfl, lw_mem 27 rfl, by decide, by decide +kernel, lw_mem 476 rfl⟩, _, _, _, rfl, lw_mem 477 rfl, lw_mem 478 rfl⟩
set_option maxRecDepth 100000 in
theorem cv_VT_134 : CVM R_VT 134 m_Itm_beginningOf ci_Itm 1 := ⟨⟨lw_mem 483 rfl, lw_mem 31 rfl, by decide, by decide +kernel, lw_mem 480 rfl⟩, _, _, _, rfl, lw_mem 481 rfl, lw_mem 482 rfl⟩
set_option maxRecDepth 100000 in
theorem cv_Law_89 : CVM R_Law 89 m_VT_item ci_VT 3 := ⟨⟨lw_mem 487 rfl, lw_mem 27 rfl, by decide, by decide +kernel, lw_mem 484 rfl⟩, _, _, _, rfl, lw_mem 485 rfl, lw_mem 486 rfl⟩
set_option maxRecDepth 100000 in
theorem cv_VT_141 : CVM R_VT 141 m_Itm_having ci_Itm 1 := ⟨⟨lw_mem 318 rfl, lw_mem 31 rfl, by decide, by decide +kernel, lw_mem 488 rfl⟩, _, _, _, rfl, lw_mem 316 rfl, lw_mem 317 rfl⟩
set_option maxRecDepth 100000 in
theorem cv_Law_93 : CVM R_Law 93 m_VT_same ci_VT 2 := ⟨⟨lw_mem 492 rfl, lw_mem 27 rfl, by decide, by decide +kernel, lw_mem 489 rfl⟩, _, _, _, rfl, lw_mem 490 rfl, lw_mem 491 rfl⟩
set_option maxRecDepth 100000 in
theorem cs_VT_144 : CSS R_VT 144 m_VT_haveSameUnits 2 := ⟨⟨lw_mem 495 rfl, lw_mem 27 rfl, by decide, by decide +kernel, lw_mem 493 rfl⟩, lw_mem 494 rfl⟩
set_option maxRecDepth 100000 in
theorem cv_Law_97 : CVM R_Law 97 m_VT_find ci_VT 2 := ⟨⟨lw_mem 499 rfl, lw_mem 27 rfl, by decide, by decide +kernel, lw_mem 496 rfl⟩, _, _, _, rfl, lw_mem 497 rfl, lw_mem 498 rfl⟩
set_option maxRecDepth 100000 in
theorem cv_VT_148 : CVM R_VT 148 m_Sea_takePattern ci_Sea 1 := ⟨⟨lw_mem 503 rfl, lw_mem 33 rfl, by decide, by decide +kernel, lw_mem 500 rfl⟩, _, _, _, rfl, lw_mem 501 rfl, lw_mem 502 rfl⟩
set_option maxRecDepth 100000 in
theorem cv_Sea_29 : CVM R_Sea 29 m_Row_length ci_Row 0 := ⟨⟨lw_mem 204 rfl, lw_mem 29 rfl, by decide, by decide +kernel, lw_mem 504 rfl⟩, _, _, _, rfl, lw_mem 202 rfl, lw_mem 203 rfl⟩
set_option maxRecDepth 100000 in
theorem cv_Sea_35 : CVM R_Sea 35 m_Row_at ci_Row 1 := ⟨⟨lw_mem 272 rfl, lw_mem 29 rfl, by decide, by decide +kernel, lw_mem 505 rfl⟩, _, _, _, rfl, lw_mem 270 rfl, lw_mem 755 rfl⟩
set_option maxRecDepth 100000 in
theorem cv_VT_152 : CVM R_VT 152 m_Sea_firstMatch ci_Sea 2 := ⟨⟨lw_mem 509 rfl, lw_mem 33 rfl, by decide, by decide +kernel, lw_mem 506 rfl⟩, _, _, _, rfl, lw_mem 507 rfl, lw_mem 508 rfl⟩
set_option maxRecDepth 100000 in
theorem cf_Sea_39_Row : CFM R_Sea 39 ci_Row y_Txt_length m_Row_length 0 := ⟨_, _, _, rfl, lw_mem 204 rfl, lw_mem 29 rfl, by decide, by decide +kernel, lw_mem 511 rfl, lw_mem 238 rfl, lw_mem 202 rfl, by decide +kernel⟩
set_option maxRecDepth 100000 in
theorem cf_Sea_39_Gap : CFM R_Sea 39 ci_Gap y_Txt_length m_Gap_length 0 := ⟨_, _, _, rfl, lw_mem 236 rfl, lw_mem 28 rfl, by decide, by decide +kernel, lw_mem 511 rfl, lw_mem 232 rfl, lw_mem 234 rfl, by decide +kernel⟩
set_option maxRecDepth 100000 in
theorem cf_Sea_42_Row : CFM R_Sea 42 ci_Row y_Txt_at m_Row_at 1 := ⟨_, _, _, rfl, lw_mem 272 rfl, lw_mem 29 rfl, by decide, by decide +kernel, lw_mem 513 rfl, lw_mem 268 rfl, lw_mem 270 rfl, by decide +kernel⟩
set_option maxRecDepth 100000 in
theorem cf_Sea_42_Gap : CFM R_Sea 42 ci_Gap y_Txt_at m_Gap_at 1 := ⟨_, _, _, rfl, lw_mem 266 rfl, lw_mem 28 rfl, by decide, by decide +kernel, lw_mem 513 rfl, lw_mem 262 rfl, lw_mem 264 rfl, by decide +kernel⟩
set_option maxRecDepth 100000 in
theorem cv_Sea_43 : CVM R_Sea 43 m_Sea_reachFrom ci_Sea 2 := ⟨⟨lw_mem 517 rfl, lw_mem 33 rfl, by decide, by decide +kernel, lw_mem 514 rfl⟩, _, _, _, rfl, lw_mem 516 rfl, lw_mem 9 rfl⟩
set_option maxRecDepth 100000 in
theorem cv_Sea_47 : CVM R_Sea 47 m_Sea_standsFor ci_Sea 2 := ⟨⟨lw_mem 521 rfl, lw_mem 33 rfl, by decide, by decide +kernel, lw_mem 518 rfl⟩, _, _, _, rfl, lw_mem 520 rfl, lw_mem 10 rfl⟩
set_option maxRecDepth 100000 in
theorem mx_Sea : Cond.methodLink R_Sea 51 Lib.Math.max.name ∈ lw_tbl ∧ Cond.static Lib.Math.max.name ∈ lw_tbl ∧ Cond.initialized "java/lang/Math" ∈ lw_tbl ∧ Cond.code Lib.Math.max.name Lib.Math.max.code 2 (some .int) ∈ lw_tbl := ⟨lw_mem 522 rfl, lw_mem 523 rfl, lw_mem 36 rfl, lw_mem 524 rfl⟩
set_option maxRecDepth 100000 in
theorem cv_Law_101 : CVM R_Law 101 m_VT_end ci_VT 0 := ⟨⟨lw_mem 528 rfl, lw_mem 27 rfl, by decide, by decide +kernel, lw_mem 525 rfl⟩, _, _, _, rfl, lw_mem 526 rfl, lw_mem 527 rfl⟩
set_option maxRecDepth 100000 in
theorem cv_VT_156 : CVM R_VT 156 m_Sea_matchEnd ci_Sea 0 := ⟨⟨lw_mem 532 rfl, lw_mem 33 rfl, by decide, by decide +kernel, lw_mem 529 rfl⟩, _, _, _, rfl, lw_mem 530 rfl, lw_mem 531 rfl⟩
set_option maxRecDepth 100000 in
theorem cs_Law_9 : CSS R_Law 9 m_Law_cell 2 := ⟨⟨lw_mem 535 rfl, lw_mem 26 rfl, by decide, by decide +kernel, lw_mem 533 rfl⟩, lw_mem 534 rfl⟩
set_option maxRecDepth 100000 in
theorem cn_Law_20 : CIM R_Law 20 m_Mod_init 1 := ⟨⟨lw_mem 540 rfl, lw_mem 34 rfl, by decide, by decide +kernel, lw_mem 538 rfl⟩, lw_mem 539 rfl, rfl, rfl⟩
set_option maxRecDepth 100000 in
theorem oi_Mod : Cond.methodLink R_Mod 1 Lib.objectInit ∈ lw_tbl ∧ Cond.instanceMethod Lib.objectInit ∈ lw_tbl ∧ Cond.code Lib.objectInit ⟨#[0xb1]⟩ 1 none ∈ lw_tbl := ⟨lw_mem 541 rfl, lw_mem 43 rfl, lw_mem 44 rfl⟩
set_option maxRecDepth 100000 in
theorem cv_Law_25 : CVM R_Law 25 m_Mod_type ci_Mod 1 := ⟨⟨lw_mem 600 rfl, lw_mem 34 rfl, by decide, by decide +kernel, lw_mem 597 rfl⟩, _, _, _, rfl, lw_mem 598 rfl, lw_mem 599 rfl⟩
set_option maxRecDepth 100000 in
theorem cv_Law_29 : CVM R_Law 29 m_Mod_scrap ci_Mod 0 := ⟨⟨lw_mem 604 rfl, lw_mem 34 rfl, by decide, by decide +kernel, lw_mem 601 rfl⟩, _, _, _, rfl, lw_mem 602 rfl, lw_mem 603 rfl⟩
set_option maxRecDepth 100000 in
theorem cv_Law_34 : CVM R_Law 34 m_Mod_insert ci_Mod 1 := ⟨⟨lw_mem 608 rfl, lw_mem 34 rfl, by decide, by decide +kernel, lw_mem 605 rfl⟩, _, _, _, rfl, lw_mem 606 rfl, lw_mem 607 rfl⟩
set_option maxRecDepth 100000 in
theorem cv_Mod_108 : CVM R_Mod 108 m_Mod_isPlace ci_Mod 1 := ⟨⟨lw_mem 612 rfl, lw_mem 34 rfl, by decide, by decide +kernel, lw_mem 609 rfl⟩, _, _, _, rfl, lw_mem 611 rfl, lw_mem 11 rfl⟩
set_option maxRecDepth 100000 in
theorem cv_Mod_111 : CVM R_Mod 111 m_Mod_lets ci_Mod 1 := ⟨⟨lw_mem 616 rfl, lw_mem 34 rfl, by decide, by decide +kernel, lw_mem 613 rfl⟩, _, _, _, rfl, lw_mem 615 rfl, lw_mem 12 rfl⟩
set_option maxRecDepth 100000 in
theorem cv_Mod_92 : CVM R_Mod 92 m_Mod_findItems ci_Mod 2 := ⟨⟨lw_mem 620 rfl, lw_mem 34 rfl, by decide, by decide +kernel, lw_mem 617 rfl⟩, _, _, _, rfl, lw_mem 619 rfl, lw_mem 13 rfl⟩
set_option maxRecDepth 100000 in
theorem cv_Mod_76 : CVM R_Mod 76 m_Mod_begin ci_Mod 1 := ⟨⟨lw_mem 624 rfl, lw_mem 34 rfl, by decide, by decide +kernel, lw_mem 621 rfl⟩, _, _, _, rfl, lw_mem 623 rfl, lw_mem 14 rfl⟩
set_option maxRecDepth 100000 in
theorem cv_Mod_80 : CVM R_Mod 80 m_Mod_findLines ci_Mod 1 := ⟨⟨lw_mem 628 rfl, lw_mem 34 rfl, by decide, by decide +kernel, lw_mem 625 rfl⟩, _, _, _, rfl, lw_mem 627 rfl, lw_mem 15 rfl⟩
set_option maxRecDepth 100000 in
theorem cv_Mod_83 : CVM R_Mod 83 m_Mod_findPoints ci_Mod 1 := ⟨⟨lw_mem 632 rfl, lw_mem 34 rfl, by decide, by decide +kernel, lw_mem 629 rfl⟩, _, _, _, rfl, lw_mem 631 rfl, lw_mem 16 rfl⟩
set_option maxRecDepth 100000 in
theorem cv_Mod_86 : CVM R_Mod 86 m_Mod_bound ci_Mod 1 := ⟨⟨lw_mem 641 rfl, lw_mem 34 rfl, by decide, by decide +kernel, lw_mem 638 rfl⟩, _, _, _, rfl, lw_mem 640 rfl, lw_mem 17 rfl⟩
set_option maxRecDepth 100000 in
theorem cs_Mod_63 : CSS R_Mod 63 m_Mod_isMark 1 := ⟨⟨lw_mem 644 rfl, lw_mem 34 rfl, by decide, by decide +kernel, lw_mem 642 rfl⟩, lw_mem 643 rfl⟩
set_option maxRecDepth 100000 in
theorem cs_Mod_67 : CSS R_Mod 67 m_Mod_isPicture 1 := ⟨⟨lw_mem 647 rfl, lw_mem 34 rfl, by decide, by decide +kernel, lw_mem 645 rfl⟩, lw_mem 646 rfl⟩
set_option maxRecDepth 100000 in
theorem cs_Mod_70 : CSS R_Mod 70 m_Mod_isFlag 1 := ⟨⟨lw_mem 652 rfl, lw_mem 34 rfl, by decide, by decide +kernel, lw_mem 650 rfl⟩, lw_mem 651 rfl⟩
set_option maxRecDepth 100000 in
theorem cv_Mod_114 : CVM R_Mod 114 m_Mod_make ci_Mod 3 := ⟨⟨lw_mem 658 rfl, lw_mem 34 rfl, by decide, by decide +kernel, lw_mem 655 rfl⟩, _, _, _, rfl, lw_mem 657 rfl, lw_mem 18 rfl⟩
set_option maxRecDepth 100000 in
theorem cv_Mod_105 : CVM R_Mod 105 m_Mod_show ci_Mod 1 := ⟨⟨lw_mem 662 rfl, lw_mem 34 rfl, by decide, by decide +kernel, lw_mem 659 rfl⟩, _, _, _, rfl, lw_mem 661 rfl, lw_mem 19 rfl⟩
set_option maxRecDepth 100000 in
theorem cv_Mod_118 : CVM R_Mod 118 m_Mod_step ci_Mod 0 := ⟨⟨lw_mem 666 rfl, lw_mem 34 rfl, by decide, by decide +kernel, lw_mem 663 rfl⟩, _, _, _, rfl, lw_mem 665 rfl, lw_mem 20 rfl⟩
set_option maxRecDepth 100000 in
theorem cv_Mod_99 : CVM R_Mod 99 m_Mod_copy ci_Mod 2 := ⟨⟨lw_mem 670 rfl, lw_mem 34 rfl, by decide, by decide +kernel, lw_mem 667 rfl⟩, _, _, _, rfl, lw_mem 669 rfl, lw_mem 21 rfl⟩
set_option maxRecDepth 100000 in
theorem cv_Law_39 : CVM R_Law 39 m_Mod_remove ci_Mod 2 := ⟨⟨lw_mem 674 rfl, lw_mem 34 rfl, by decide, by decide +kernel, lw_mem 671 rfl⟩, _, _, _, rfl, lw_mem 672 rfl, lw_mem 673 rfl⟩
set_option maxRecDepth 100000 in
theorem cv_Law_43 : CVM R_Law 43 m_Mod_replace ci_Mod 2 := ⟨⟨lw_mem 678 rfl, lw_mem 34 rfl, by decide, by decide +kernel, lw_mem 675 rfl⟩, _, _, _, rfl, lw_mem 676 rfl, lw_mem 677 rfl⟩
set_option maxRecDepth 100000 in
theorem cv_Law_48 : CVM R_Law 48 m_Mod_undo ci_Mod 0 := ⟨⟨lw_mem 682 rfl, lw_mem 34 rfl, by decide, by decide +kernel, lw_mem 679 rfl⟩, _, _, _, rfl, lw_mem 680 rfl, lw_mem 681 rfl⟩
set_option maxRecDepth 100000 in
theorem cv_Law_52 : CVM R_Law 52 m_Mod_redo ci_Mod 0 := ⟨⟨lw_mem 686 rfl, lw_mem 34 rfl, by decide, by decide +kernel, lw_mem 683 rfl⟩, _, _, _, rfl, lw_mem 684 rfl, lw_mem 685 rfl⟩
set_option maxRecDepth 100000 in
theorem cv_Law_57 : CVM R_Law 57 m_Mod_steps ci_Mod 1 := ⟨⟨lw_mem 690 rfl, lw_mem 34 rfl, by decide, by decide +kernel, lw_mem 687 rfl⟩, _, _, _, rfl, lw_mem 688 rfl, lw_mem 689 rfl⟩
set_option maxRecDepth 100000 in
theorem cv_Law_61 : CVM R_Law 61 m_Mod_seal ci_Mod 0 := ⟨⟨lw_mem 694 rfl, lw_mem 34 rfl, by decide, by decide +kernel, lw_mem 691 rfl⟩, _, _, _, rfl, lw_mem 692 rfl, lw_mem 693 rfl⟩
set_option maxRecDepth 100000 in
theorem cv_Law_65 : CVM R_Law 65 m_Mod_guard ci_Mod 1 := ⟨⟨lw_mem 698 rfl, lw_mem 34 rfl, by decide, by decide +kernel, lw_mem 695 rfl⟩, _, _, _, rfl, lw_mem 696 rfl, lw_mem 697 rfl⟩
set_option maxRecDepth 100000 in
theorem cv_Law_70 : CVM R_Law 70 m_Mod_snapshot ci_Mod 0 := ⟨⟨lw_mem 702 rfl, lw_mem 34 rfl, by decide, by decide +kernel, lw_mem 699 rfl⟩, _, _, _, rfl, lw_mem 700 rfl, lw_mem 701 rfl⟩
set_option maxRecDepth 100000 in
theorem cv_Law_74 : CVM R_Law 74 m_Mod_release ci_Mod 1 := ⟨⟨lw_mem 706 rfl, lw_mem 34 rfl, by decide, by decide +kernel, lw_mem 703 rfl⟩, _, _, _, rfl, lw_mem 704 rfl, lw_mem 705 rfl⟩
set_option maxRecDepth 100000 in
theorem cv_Law_79 : CVM R_Law 79 m_Mod_unit ci_Mod 2 := ⟨⟨lw_mem 710 rfl, lw_mem 34 rfl, by decide, by decide +kernel, lw_mem 707 rfl⟩, _, _, _, rfl, lw_mem 708 rfl, lw_mem 709 rfl⟩
set_option maxRecDepth 100000 in
theorem cv_Mod_121 : CVM R_Mod 121 m_Mod_slot ci_Mod 1 := ⟨⟨lw_mem 714 rfl, lw_mem 34 rfl, by decide, by decide +kernel, lw_mem 711 rfl⟩, _, _, _, rfl, lw_mem 713 rfl, lw_mem 22 rfl⟩
set_option maxRecDepth 100000 in
theorem cv_Law_83 : CVM R_Law 83 m_Mod_count ci_Mod 2 := ⟨⟨lw_mem 718 rfl, lw_mem 34 rfl, by decide, by decide +kernel, lw_mem 715 rfl⟩, _, _, _, rfl, lw_mem 716 rfl, lw_mem 717 rfl⟩
set_option maxRecDepth 100000 in
theorem cv_Mod_125 : CVM R_Mod 125 m_Mod_looks ci_Mod 2 := ⟨⟨lw_mem 722 rfl, lw_mem 34 rfl, by decide, by decide +kernel, lw_mem 719 rfl⟩, _, _, _, rfl, lw_mem 721 rfl, lw_mem 23 rfl⟩
set_option maxRecDepth 100000 in
theorem cv_Law_88 : CVM R_Law 88 m_Mod_place ci_Mod 3 := ⟨⟨lw_mem 726 rfl, lw_mem 34 rfl, by decide, by decide +kernel, lw_mem 723 rfl⟩, _, _, _, rfl, lw_mem 724 rfl, lw_mem 725 rfl⟩
set_option maxRecDepth 100000 in
theorem cv_Law_92 : CVM R_Law 92 m_Mod_item ci_Mod 3 := ⟨⟨lw_mem 730 rfl, lw_mem 34 rfl, by decide, by decide +kernel, lw_mem 727 rfl⟩, _, _, _, rfl, lw_mem 728 rfl, lw_mem 729 rfl⟩
set_option maxRecDepth 100000 in
theorem cv_Law_96 : CVM R_Law 96 m_Mod_same ci_Mod 2 := ⟨⟨lw_mem 734 rfl, lw_mem 34 rfl, by decide, by decide +kernel, lw_mem 731 rfl⟩, _, _, _, rfl, lw_mem 732 rfl, lw_mem 733 rfl⟩
set_option maxRecDepth 100000 in
theorem cv_Law_100 : CVM R_Law 100 m_Mod_find ci_Mod 2 := ⟨⟨lw_mem 738 rfl, lw_mem 34 rfl, by decide, by decide +kernel, lw_mem 735 rfl⟩, _, _, _, rfl, lw_mem 736 rfl, lw_mem 737 rfl⟩
set_option maxRecDepth 100000 in
theorem cv_Mod_132 : CVM R_Mod 132 m_Mod_isPattern ci_Mod 0 := ⟨⟨lw_mem 742 rfl, lw_mem 34 rfl, by decide, by decide +kernel, lw_mem 739 rfl⟩, _, _, _, rfl, lw_mem 741 rfl, lw_mem 24 rfl⟩
set_option maxRecDepth 100000 in
theorem cv_Mod_136 : CVM R_Mod 136 m_Mod_match ci_Mod 2 := ⟨⟨lw_mem 746 rfl, lw_mem 34 rfl, by decide, by decide +kernel, lw_mem 743 rfl⟩, _, _, _, rfl, lw_mem 745 rfl, lw_mem 25 rfl⟩
set_option maxRecDepth 100000 in
theorem cs_Mod_129 : CSS R_Mod 129 m_Mod_stands 2 := ⟨⟨lw_mem 749 rfl, lw_mem 34 rfl, by decide, by decide +kernel, lw_mem 747 rfl⟩, lw_mem 748 rfl⟩
set_option maxRecDepth 100000 in
theorem cv_Law_104 : CVM R_Law 104 m_Mod_end ci_Mod 0 := ⟨⟨lw_mem 753 rfl, lw_mem 34 rfl, by decide, by decide +kernel, lw_mem 750 rfl⟩, _, _, _, rfl, lw_mem 751 rfl, lw_mem 752 rfl⟩
end
