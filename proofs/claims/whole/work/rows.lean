section
-- ===== PART A: goes FIRST, ahead of the names: the tables' words, and 'selects' of the private methods out of them =====
/-- a private method of a class that the tables say can be made, by its rows of tables_1 -/
def lw_okq (q : MethodName × Nat) : Prop := (q.1.cls ≠ "java/lang/invoke/MethodHandle" ∧ q.1.cls ≠ "java/lang/invoke/VarHandle") ∧ Cond.instantiable q.1.cls q.2 ∈ tables_1 ∧ Cond.privateMethod q.1 ∈ tables_1 ∧ Cond.instanceMethod q.1 ∈ tables_1
theorem lw_p0 : lw_okq (⟨"VersionedText", "canTakeClip", "(II)Z"⟩, 9) := ⟨⟨by decide +kernel, by decide +kernel⟩, List.mem_of_getElem? (i := 12) (by decide +kernel), List.mem_of_getElem? (i := 191) (by decide +kernel), List.mem_of_getElem? (i := 192) (by decide +kernel)⟩
theorem lw_p1 : lw_okq (⟨"VersionedText", "canEdit", "(II)Z"⟩, 9) := ⟨⟨by decide +kernel, by decide +kernel⟩, List.mem_of_getElem? (i := 12) (by decide +kernel), List.mem_of_getElem? (i := 195) (by decide +kernel), List.mem_of_getElem? (i := 196) (by decide +kernel)⟩
theorem lw_p2 : lw_okq (⟨"VersionedText$Items", "begins", "(LVersionedText$Text;I)Z"⟩, 5) := ⟨⟨by decide +kernel, by decide +kernel⟩, List.mem_of_getElem? (i := 75) (by decide +kernel), List.mem_of_getElem? (i := 226) (by decide +kernel), List.mem_of_getElem? (i := 227) (by decide +kernel)⟩
theorem lw_p3 : lw_okq (⟨"VersionedText$ClusterWalk", "isJoinedTo", "(I)Z"⟩, 3) := ⟨⟨by decide +kernel, by decide +kernel⟩, List.mem_of_getElem? (i := 81) (by decide +kernel), List.mem_of_getElem? (i := 269) (by decide +kernel), List.mem_of_getElem? (i := 270) (by decide +kernel)⟩
theorem lw_p4 : lw_okq (⟨"VersionedText$GapText", "moveGap", "(I)V"⟩, 3) := ⟨⟨by decide +kernel, by decide +kernel⟩, List.mem_of_getElem? (i := 20) (by decide +kernel), List.mem_of_getElem? (i := 303) (by decide +kernel), List.mem_of_getElem? (i := 304) (by decide +kernel)⟩
theorem lw_p5 : lw_okq (⟨"VersionedText", "clipIsTyping", "()Z"⟩, 9) := ⟨⟨by decide +kernel, by decide +kernel⟩, List.mem_of_getElem? (i := 12) (by decide +kernel), List.mem_of_getElem? (i := 319) (by decide +kernel), List.mem_of_getElem? (i := 320) (by decide +kernel)⟩
theorem lw_p6 : lw_okq (⟨"VersionedText$History", "latest", "()LVersionedText$RowText;"⟩, 4) := ⟨⟨by decide +kernel, by decide +kernel⟩, List.mem_of_getElem? (i := 52) (by decide +kernel), List.mem_of_getElem? (i := 328) (by decide +kernel), List.mem_of_getElem? (i := 329) (by decide +kernel)⟩
theorem lw_p7 : lw_okq (⟨"VersionedText", "addClosedStep", "()V"⟩, 9) := ⟨⟨by decide +kernel, by decide +kernel⟩, List.mem_of_getElem? (i := 12) (by decide +kernel), List.mem_of_getElem? (i := 360) (by decide +kernel), List.mem_of_getElem? (i := 361) (by decide +kernel)⟩
theorem lw_p8 : lw_okq (⟨"VersionedText", "isVersion", "(I)Z"⟩, 9) := ⟨⟨by decide +kernel, by decide +kernel⟩, List.mem_of_getElem? (i := 12) (by decide +kernel), List.mem_of_getElem? (i := 430) (by decide +kernel), List.mem_of_getElem? (i := 431) (by decide +kernel)⟩
theorem lw_p9 : lw_okq (⟨"VersionedText$Search", "reachFrom", "(II)V"⟩, 5) := ⟨⟨by decide +kernel, by decide +kernel⟩, List.mem_of_getElem? (i := 114) (by decide +kernel), List.mem_of_getElem? (i := 489) (by decide +kernel), List.mem_of_getElem? (i := 490) (by decide +kernel)⟩
theorem lw_p10 : lw_okq (⟨"VersionedText$Search", "standsFor", "(II)Z"⟩, 5) := ⟨⟨by decide +kernel, by decide +kernel⟩, List.mem_of_getElem? (i := 114) (by decide +kernel), List.mem_of_getElem? (i := 493) (by decide +kernel), List.mem_of_getElem? (i := 494) (by decide +kernel)⟩
theorem lw_p11 : lw_okq (⟨"VersionedTextModel", "isPlace", "(I)Z"⟩, 18) := ⟨⟨by decide +kernel, by decide +kernel⟩, List.mem_of_getElem? (i := 511) (by decide +kernel), List.mem_of_getElem? (i := 584) (by decide +kernel), List.mem_of_getElem? (i := 585) (by decide +kernel)⟩
theorem lw_p12 : lw_okq (⟨"VersionedTextModel", "lets", "(I)Z"⟩, 18) := ⟨⟨by decide +kernel, by decide +kernel⟩, List.mem_of_getElem? (i := 511) (by decide +kernel), List.mem_of_getElem? (i := 588) (by decide +kernel), List.mem_of_getElem? (i := 589) (by decide +kernel)⟩
theorem lw_p13 : lw_okq (⟨"VersionedTextModel", "findItems", "(II)V"⟩, 18) := ⟨⟨by decide +kernel, by decide +kernel⟩, List.mem_of_getElem? (i := 511) (by decide +kernel), List.mem_of_getElem? (i := 592) (by decide +kernel), List.mem_of_getElem? (i := 593) (by decide +kernel)⟩
theorem lw_p14 : lw_okq (⟨"VersionedTextModel", "begin", "(I)V"⟩, 18) := ⟨⟨by decide +kernel, by decide +kernel⟩, List.mem_of_getElem? (i := 511) (by decide +kernel), List.mem_of_getElem? (i := 596) (by decide +kernel), List.mem_of_getElem? (i := 597) (by decide +kernel)⟩
theorem lw_p15 : lw_okq (⟨"VersionedTextModel", "findLines", "(I)V"⟩, 18) := ⟨⟨by decide +kernel, by decide +kernel⟩, List.mem_of_getElem? (i := 511) (by decide +kernel), List.mem_of_getElem? (i := 600) (by decide +kernel), List.mem_of_getElem? (i := 601) (by decide +kernel)⟩
def lw_privs_1 : List (MethodName × Nat) := [(⟨"VersionedText", "canTakeClip", "(II)Z"⟩, 9), (⟨"VersionedText", "canEdit", "(II)Z"⟩, 9), (⟨"VersionedText$Items", "begins", "(LVersionedText$Text;I)Z"⟩, 5), (⟨"VersionedText$ClusterWalk", "isJoinedTo", "(I)Z"⟩, 3), (⟨"VersionedText$GapText", "moveGap", "(I)V"⟩, 3), (⟨"VersionedText", "clipIsTyping", "()Z"⟩, 9), (⟨"VersionedText$History", "latest", "()LVersionedText$RowText;"⟩, 4), (⟨"VersionedText", "addClosedStep", "()V"⟩, 9), (⟨"VersionedText", "isVersion", "(I)Z"⟩, 9), (⟨"VersionedText$Search", "reachFrom", "(II)V"⟩, 5), (⟨"VersionedText$Search", "standsFor", "(II)Z"⟩, 5), (⟨"VersionedTextModel", "isPlace", "(I)Z"⟩, 18), (⟨"VersionedTextModel", "lets", "(I)Z"⟩, 18), (⟨"VersionedTextModel", "findItems", "(II)V"⟩, 18), (⟨"VersionedTextModel", "begin", "(I)V"⟩, 18), (⟨"VersionedTextModel", "findLines", "(I)V"⟩, 18)]
theorem lw_r1 : ∀ q ∈ lw_privs_1, lw_okq q := List.forall_mem_cons.mpr ⟨lw_p0, List.forall_mem_cons.mpr ⟨lw_p1, List.forall_mem_cons.mpr ⟨lw_p2, List.forall_mem_cons.mpr ⟨lw_p3, List.forall_mem_cons.mpr ⟨lw_p4, List.forall_mem_cons.mpr ⟨lw_p5, List.forall_mem_cons.mpr ⟨lw_p6, List.forall_mem_cons.mpr ⟨lw_p7, List.forall_mem_cons.mpr ⟨lw_p8, List.forall_mem_cons.mpr ⟨lw_p9, List.forall_mem_cons.mpr ⟨lw_p10, List.forall_mem_cons.mpr ⟨lw_p11, List.forall_mem_cons.mpr ⟨lw_p12, List.forall_mem_cons.mpr ⟨lw_p13, List.forall_mem_cons.mpr ⟨lw_p14, List.forall_mem_cons.mpr ⟨lw_p15, fun _ h => absurd h List.not_mem_nil⟩⟩⟩⟩⟩⟩⟩⟩⟩⟩⟩⟩⟩⟩⟩⟩
theorem lw_p16 : lw_okq (⟨"VersionedTextModel", "findPoints", "(I)V"⟩, 18) := ⟨⟨by decide +kernel, by decide +kernel⟩, List.mem_of_getElem? (i := 511) (by decide +kernel), List.mem_of_getElem? (i := 604) (by decide +kernel), List.mem_of_getElem? (i := 605) (by decide +kernel)⟩
theorem lw_p17 : lw_okq (⟨"VersionedTextModel", "bound", "(I)Z"⟩, 18) := ⟨⟨by decide +kernel, by decide +kernel⟩, List.mem_of_getElem? (i := 511) (by decide +kernel), List.mem_of_getElem? (i := 613) (by decide +kernel), List.mem_of_getElem? (i := 614) (by decide +kernel)⟩
theorem lw_p18 : lw_okq (⟨"VersionedTextModel", "make", "(III)V"⟩, 18) := ⟨⟨by decide +kernel, by decide +kernel⟩, List.mem_of_getElem? (i := 511) (by decide +kernel), List.mem_of_getElem? (i := 630) (by decide +kernel), List.mem_of_getElem? (i := 631) (by decide +kernel)⟩
theorem lw_p19 : lw_okq (⟨"VersionedTextModel", "show", "(I)V"⟩, 18) := ⟨⟨by decide +kernel, by decide +kernel⟩, List.mem_of_getElem? (i := 511) (by decide +kernel), List.mem_of_getElem? (i := 634) (by decide +kernel), List.mem_of_getElem? (i := 635) (by decide +kernel)⟩
theorem lw_p20 : lw_okq (⟨"VersionedTextModel", "step", "()V"⟩, 18) := ⟨⟨by decide +kernel, by decide +kernel⟩, List.mem_of_getElem? (i := 511) (by decide +kernel), List.mem_of_getElem? (i := 638) (by decide +kernel), List.mem_of_getElem? (i := 639) (by decide +kernel)⟩
theorem lw_p21 : lw_okq (⟨"VersionedTextModel", "copy", "(II)V"⟩, 18) := ⟨⟨by decide +kernel, by decide +kernel⟩, List.mem_of_getElem? (i := 511) (by decide +kernel), List.mem_of_getElem? (i := 642) (by decide +kernel), List.mem_of_getElem? (i := 643) (by decide +kernel)⟩
theorem lw_p22 : lw_okq (⟨"VersionedTextModel", "slot", "(I)I"⟩, 18) := ⟨⟨by decide +kernel, by decide +kernel⟩, List.mem_of_getElem? (i := 511) (by decide +kernel), List.mem_of_getElem? (i := 686) (by decide +kernel), List.mem_of_getElem? (i := 687) (by decide +kernel)⟩
theorem lw_p23 : lw_okq (⟨"VersionedTextModel", "looks", "(II)Z"⟩, 18) := ⟨⟨by decide +kernel, by decide +kernel⟩, List.mem_of_getElem? (i := 511) (by decide +kernel), List.mem_of_getElem? (i := 694) (by decide +kernel), List.mem_of_getElem? (i := 695) (by decide +kernel)⟩
theorem lw_p24 : lw_okq (⟨"VersionedTextModel", "isPattern", "()Z"⟩, 18) := ⟨⟨by decide +kernel, by decide +kernel⟩, List.mem_of_getElem? (i := 511) (by decide +kernel), List.mem_of_getElem? (i := 714) (by decide +kernel), List.mem_of_getElem? (i := 715) (by decide +kernel)⟩
theorem lw_p25 : lw_okq (⟨"VersionedTextModel", "match", "(II)I"⟩, 18) := ⟨⟨by decide +kernel, by decide +kernel⟩, List.mem_of_getElem? (i := 511) (by decide +kernel), List.mem_of_getElem? (i := 718) (by decide +kernel), List.mem_of_getElem? (i := 719) (by decide +kernel)⟩
def lw_privs_2 : List (MethodName × Nat) := [(⟨"VersionedTextModel", "findPoints", "(I)V"⟩, 18), (⟨"VersionedTextModel", "bound", "(I)Z"⟩, 18), (⟨"VersionedTextModel", "make", "(III)V"⟩, 18), (⟨"VersionedTextModel", "show", "(I)V"⟩, 18), (⟨"VersionedTextModel", "step", "()V"⟩, 18), (⟨"VersionedTextModel", "copy", "(II)V"⟩, 18), (⟨"VersionedTextModel", "slot", "(I)I"⟩, 18), (⟨"VersionedTextModel", "looks", "(II)Z"⟩, 18), (⟨"VersionedTextModel", "isPattern", "()Z"⟩, 18), (⟨"VersionedTextModel", "match", "(II)I"⟩, 18)]
theorem lw_r2 : ∀ q ∈ lw_privs_2, lw_okq q := List.forall_mem_cons.mpr ⟨lw_p16, List.forall_mem_cons.mpr ⟨lw_p17, List.forall_mem_cons.mpr ⟨lw_p18, List.forall_mem_cons.mpr ⟨lw_p19, List.forall_mem_cons.mpr ⟨lw_p20, List.forall_mem_cons.mpr ⟨lw_p21, List.forall_mem_cons.mpr ⟨lw_p22, List.forall_mem_cons.mpr ⟨lw_p23, List.forall_mem_cons.mpr ⟨lw_p24, List.forall_mem_cons.mpr ⟨lw_p25, fun _ h => absurd h List.not_mem_nil⟩⟩⟩⟩⟩⟩⟩⟩⟩⟩
def lw_privs : List (MethodName × Nat) := lw_privs_1 ++ (lw_privs_2)
def lw_tbl : List Cond := k2_sels lw_privs ++ tables_1
theorem lw_privs_ok : ∀ q ∈ lw_privs, lw_okq q := by
  show ∀ q ∈ lw_privs_1 ++ (lw_privs_2), lw_okq q
  exact List.forall_mem_append.mpr ⟨lw_r1, lw_r2⟩

theorem lw_mem (i : Nat) {w : Cond} (h : lw_tbl[i]? = some w) : w ∈ lw_tbl := List.mem_of_getElem? h
def R_Clu : String := "VersionedText$ClusterWalk"
def F_Clu : u_T := fun k => match k with
  | 0 => ("VersionedText$ClusterWalk", "last", "I", false)
  | 1 => ("VersionedText$ClusterWalk", "lead", "I", false)
  | _ => ("VersionedText$ClusterWalk", "flagsBeforeLast", "I", false)
def t_Clu : Nat → FieldType := fun k => match k with
  | 0 => .int
  | 1 => .int
  | _ => .int
abbrev ci_Clu : Nat := 0
def R_Gap : String := "VersionedText$GapText"
def F_Gap : u_T := fun k => match k with
  | 0 => ("VersionedText$GapText", "units", "[C", true)
  | 1 => ("VersionedText$GapText", "gapStart", "I", false)
  | _ => ("VersionedText$GapText", "gapEnd", "I", false)
def t_Gap : Nat → FieldType := fun k => match k with
  | 0 => .array .char
  | 1 => .int
  | _ => .int
abbrev ci_Gap : Nat := 1
def R_His : String := "VersionedText$History"
def F_His : u_T := fun k => match k with
  | 0 => ("VersionedText$History", "texts", "[LVersionedText$RowText;", true)
  | 1 => ("VersionedText$History", "oldest", "I", false)
  | 2 => ("VersionedText$History", "done", "I", false)
  | _ => ("VersionedText$History", "undone", "I", false)
def t_His : Nat → FieldType := fun k => match k with
  | 0 => .array (.object "VersionedText$RowText")
  | 1 => .int
  | 2 => .int
  | _ => .int
abbrev ci_His : Nat := 2
def R_Itm : String := "VersionedText$Items"
def F_Itm : u_T := fun k => match k with
  | 0 => ("VersionedText$Items", "beginnings", "[I", true)
  | 1 => ("VersionedText$Items", "clusters", "LVersionedText$ClusterWalk;", true)
  | 2 => ("VersionedText$Items", "number", "I", false)
  | 3 => ("VersionedText$Items", "length", "I", false)
  | _ => ("VersionedText$Items", "metric", "I", false)
def t_Itm : Nat → FieldType := fun k => match k with
  | 0 => .array .int
  | 1 => .object "VersionedText$ClusterWalk"
  | 2 => .int
  | 3 => .int
  | _ => .int
abbrev ci_Itm : Nat := 3
def R_Row : String := "VersionedText$RowText"
def F_Row : u_T := fun k => match k with
  | 0 => ("VersionedText$RowText", "units", "[C", true)
  | _ => ("VersionedText$RowText", "length", "I", false)
def t_Row : Nat → FieldType := fun k => match k with
  | 0 => .array .char
  | _ => .int
abbrev ci_Row : Nat := 4
def R_Sea : String := "VersionedText$Search"
def F_Sea : u_T := fun k => match k with
  | 0 => ("VersionedText$Search", "wanted", "[I", true)
  | 1 => ("VersionedText$Search", "starred", "[Z", true)
  | 2 => ("VersionedText$Search", "reached", "[I", true)
  | 3 => ("VersionedText$Search", "elements", "I", false)
  | _ => ("VersionedText$Search", "end", "I", false)
def t_Sea : Nat → FieldType := fun k => match k with
  | 0 => .array .int
  | 1 => .array .boolean
  | 2 => .array .int
  | 3 => .int
  | _ => .int
abbrev ci_Sea : Nat := 5
def R_VT : String := "VersionedText"
def F_VT : u_T := fun k => match k with
  | 0 => ("VersionedText", "text", "LVersionedText$Text;", true)
  | 1 => ("VersionedText", "clip", "LVersionedText$RowText;", true)
  | 2 => ("VersionedText", "versions", "[LVersionedText$Text;", true)
  | 3 => ("VersionedText", "kept", "[Z", true)
  | 4 => ("VersionedText", "history", "LVersionedText$History;", true)
  | 5 => ("VersionedText", "items", "LVersionedText$Items;", true)
  | 6 => ("VersionedText", "search", "LVersionedText$Search;", true)
  | 7 => ("VersionedText", "guardMetric", "I", false)
  | _ => ("VersionedText", "typingPlace", "I", false)
def t_VT : Nat → FieldType := fun k => match k with
  | 0 => .object "VersionedText$Text"
  | 1 => .object "VersionedText$RowText"
  | 2 => .array (.object "VersionedText$Text")
  | 3 => .array .boolean
  | 4 => .object "VersionedText$History"
  | 5 => .object "VersionedText$Items"
  | 6 => .object "VersionedText$Search"
  | 7 => .int
  | _ => .int
abbrev ci_VT : Nat := 6
def R_Mod : String := "VersionedTextModel"
def F_Mod : u_T := fun k => match k with
  | 0 => ("VersionedTextModel", "units", "[I", true)
  | 1 => ("VersionedTextModel", "lengths", "[I", true)
  | 2 => ("VersionedTextModel", "now", "I", false)
  | 3 => ("VersionedTextModel", "last", "I", false)
  | 4 => ("VersionedTextModel", "kept", "[Z", true)
  | 5 => ("VersionedTextModel", "clip", "[I", true)
  | 6 => ("VersionedTextModel", "clipped", "I", false)
  | 7 => ("VersionedTextModel", "guarded", "I", false)
  | 8 => ("VersionedTextModel", "open", "I", false)
  | 9 => ("VersionedTextModel", "made", "[I", true)
  | 10 => ("VersionedTextModel", "madeLength", "I", false)
  | 11 => ("VersionedTextModel", "points", "I", false)
  | 12 => ("VersionedTextModel", "pointPlace", "[I", true)
  | 13 => ("VersionedTextModel", "codes", "[I", true)
  | 14 => ("VersionedTextModel", "items", "I", false)
  | 15 => ("VersionedTextModel", "places", "[I", true)
  | 16 => ("VersionedTextModel", "at", "[Z", true)
  | _ => ("VersionedTextModel", "foundEnd", "I", false)
def t_Mod : Nat → FieldType := fun k => match k with
  | 0 => .array .int
  | 1 => .array .int
  | 2 => .int
  | 3 => .int
  | 4 => .array .boolean
  | 5 => .array .int
  | 6 => .int
  | 7 => .int
  | 8 => .int
  | 9 => .array .int
  | 10 => .int
  | 11 => .int
  | 12 => .array .int
  | 13 => .array .int
  | 14 => .int
  | 15 => .array .int
  | 16 => .array .boolean
  | _ => .int
abbrev ci_Mod : Nat := 7
def R_Law : String := "VersionedTextLaw"
def nm_Text : String := "VersionedText$Text"
def nm_Row : String := "VersionedText$RowText"
abbrev vwCl : List vw_C := [(R_Clu, F_Clu, 3), (R_Gap, F_Gap, 3), (R_His, F_His, 4), (R_Itm, F_Itm, 5), (R_Row, F_Row, 2), (R_Sea, F_Sea, 5), (R_VT, F_VT, 9), (R_Mod, F_Mod, 18)]
abbrev b_VT_init : ByteArray := prog_1_method_1_code
def y_VT_init : MethodName := ⟨R_VT, "<init>", "(I)V"⟩
abbrev rm_VT_init : Room := { frames := 3, cells := 41, slots := 2615, locals := 62 }
abbrev b_Gap_init : ByteArray := prog_3_method_1_code
def y_Gap_init : MethodName := ⟨R_Gap, "<init>", "(I)V"⟩
abbrev rm_Gap_init : Room := { frames := 1, cells := 1, slots := 160, locals := 20 }
abbrev b_Row_init : ByteArray := prog_6_method_1_code
def y_Row_init : MethodName := ⟨R_Row, "<init>", "(I)V"⟩
abbrev rm_Row_init : Room := { frames := 1, cells := 1, slots := 160, locals := 20 }
abbrev b_His_init : ByteArray := prog_4_method_1_code
def y_His_init : MethodName := ⟨R_His, "<init>", "()V"⟩
abbrev rm_His_init : Room := { frames := 2, cells := 19, slots := 1467, locals := 41 }
abbrev b_Itm_init : ByteArray := prog_5_method_1_code
def y_Itm_init : MethodName := ⟨R_Itm, "<init>", "()V"⟩
abbrev rm_Itm_init : Room := { frames := 2, cells := 2, slots := 164, locals := 40 }
abbrev b_Clu_init : ByteArray := prog_2_method_1_code
def y_Clu_init : MethodName := ⟨R_Clu, "<init>", "()V"⟩
abbrev rm_Clu_init : Room := { frames := 1, cells := 0, slots := 0, locals := 20 }
abbrev b_Sea_init : ByteArray := prog_7_method_1_code
def y_Sea_init : MethodName := ⟨R_Sea, "<init>", "()V"⟩
abbrev rm_Sea_init : Room := { frames := 1, cells := 3, slots := 73, locals := 20 }
abbrev b_VT_type : ByteArray := prog_1_method_2_code
def y_VT_type : MethodName := ⟨R_VT, "type", "(C)Z"⟩
abbrev rm_VT_type : Room := { frames := 1, cells := 0, slots := 0, locals := 21 }
abbrev b_Row_append : ByteArray := prog_6_method_7_code
def y_Row_append : MethodName := ⟨R_Row, "append", "(C)Z"⟩
abbrev rm_Row_append : Room := { frames := 0, cells := 0, slots := 0, locals := 0 }
abbrev b_VT_scrap : ByteArray := prog_1_method_3_code
def y_VT_scrap : MethodName := ⟨R_VT, "scrap", "()V"⟩
abbrev rm_VT_scrap : Room := { frames := 2, cells := 0, slots := 0, locals := 54 }
abbrev b_Row_length : ByteArray := prog_6_method_2_code
def y_Row_length : MethodName := ⟨R_Row, "length", "()I"⟩
abbrev rm_Row_length : Room := { frames := 0, cells := 0, slots := 0, locals := 0 }
abbrev b_Row_cut : ByteArray := prog_6_method_4_code
def y_Row_cut : MethodName := ⟨R_Row, "cut", "(II)V"⟩
abbrev rm_Row_cut : Room := { frames := 1, cells := 0, slots := 0, locals := 32 }
abbrev b_VT_insert : ByteArray := prog_1_method_4_code
def y_VT_insert : MethodName := ⟨R_VT, "insert", "(I)Z"⟩
abbrev rm_VT_insert : Room := { frames := 7, cells := 0, slots := 0, locals := 153 }
abbrev b_VT_canTakeClip : ByteArray := prog_1_method_24_code
def y_VT_canTakeClip : MethodName := ⟨R_VT, "canTakeClip", "(II)Z"⟩
abbrev rm_VT_canTakeClip : Room := { frames := 6, cells := 0, slots := 0, locals := 131 }
abbrev b_VT_canEdit : ByteArray := prog_1_method_25_code
def y_VT_canEdit : MethodName := ⟨R_VT, "canEdit", "(II)Z"⟩
abbrev rm_VT_canEdit : Room := { frames := 5, cells := 0, slots := 0, locals := 109 }
abbrev b_VT_isPlace : ByteArray := prog_1_method_23_code
def y_VT_isPlace : MethodName := ⟨R_VT, "isPlace", "(LVersionedText$Text;I)Z"⟩
abbrev rm_VT_isPlace : Room := { frames := 1, cells := 0, slots := 0, locals := 20 }
abbrev b_Gap_length : ByteArray := prog_3_method_2_code
def y_Gap_length : MethodName := ⟨R_Gap, "length", "()I"⟩
abbrev rm_Gap_length : Room := { frames := 0, cells := 0, slots := 0, locals := 0 }
abbrev b_Itm_measure : ByteArray := prog_5_method_2_code
def y_Itm_measure : MethodName := ⟨R_Itm, "measure", "(LVersionedText$Text;I)V"⟩
abbrev rm_Itm_measure : Room := { frames := 4, cells := 0, slots := 0, locals := 86 }
abbrev b_Clu_restart : ByteArray := prog_2_method_2_code
def y_Clu_restart : MethodName := ⟨R_Clu, "restart", "()V"⟩
abbrev rm_Clu_restart : Room := { frames := 0, cells := 0, slots := 0, locals := 0 }
abbrev b_Itm_begins : ByteArray := prog_5_method_7_code
def y_Itm_begins : MethodName := ⟨R_Itm, "begins", "(LVersionedText$Text;I)Z"⟩
abbrev rm_Itm_begins : Room := { frames := 3, cells := 0, slots := 0, locals := 64 }
abbrev b_Itm_beginsLine : ByteArray := prog_5_method_8_code
def y_Itm_beginsLine : MethodName := ⟨R_Itm, "beginsLine", "(LVersionedText$Text;I)Z"⟩
abbrev rm_Itm_beginsLine : Room := { frames := 2, cells := 0, slots := 0, locals := 41 }
abbrev b_Gap_at : ByteArray := prog_3_method_3_code
def y_Gap_at : MethodName := ⟨R_Gap, "at", "(I)I"⟩
abbrev rm_Gap_at : Room := { frames := 1, cells := 0, slots := 0, locals := 20 }
abbrev b_Row_at : ByteArray := prog_6_method_3_code
def y_Row_at : MethodName := ⟨R_Row, "at", "(I)I"⟩
abbrev rm_Row_at : Room := { frames := 0, cells := 0, slots := 0, locals := 0 }
abbrev b_Itm_isSecondHalf : ByteArray := prog_5_method_9_code
def y_Itm_isSecondHalf : MethodName := ⟨R_Itm, "isSecondHalf", "(LVersionedText$Text;I)Z"⟩
abbrev rm_Itm_isSecondHalf : Room := { frames := 2, cells := 0, slots := 0, locals := 41 }
abbrev b_Itm_isFirst : ByteArray := prog_5_method_11_code
def y_Itm_isFirst : MethodName := ⟨R_Itm, "isFirst", "(I)Z"⟩
abbrev rm_Itm_isFirst : Room := { frames := 0, cells := 0, slots := 0, locals := 0 }
abbrev b_Itm_isSecond : ByteArray := prog_5_method_12_code
def y_Itm_isSecond : MethodName := ⟨R_Itm, "isSecond", "(I)Z"⟩
abbrev rm_Itm_isSecond : Room := { frames := 0, cells := 0, slots := 0, locals := 0 }
abbrev b_Itm_codeAt : ByteArray := prog_5_method_10_code
def y_Itm_codeAt : MethodName := ⟨R_Itm, "codeAt", "(LVersionedText$Text;I)I"⟩
abbrev rm_Itm_codeAt : Room := { frames := 2, cells := 0, slots := 0, locals := 41 }
abbrev b_Clu_isCutBefore : ByteArray := prog_2_method_3_code
def y_Clu_isCutBefore : MethodName := ⟨R_Clu, "isCutBefore", "(I)Z"⟩
abbrev rm_Clu_isCutBefore : Room := { frames := 2, cells := 0, slots := 0, locals := 41 }
abbrev b_Clu_isJoinedTo : ByteArray := prog_2_method_4_code
def y_Clu_isJoinedTo : MethodName := ⟨R_Clu, "isJoinedTo", "(I)Z"⟩
abbrev rm_Clu_isJoinedTo : Room := { frames := 1, cells := 0, slots := 0, locals := 20 }
abbrev b_Clu_isMark : ByteArray := prog_2_method_5_code
def y_Clu_isMark : MethodName := ⟨R_Clu, "isMark", "(I)Z"⟩
abbrev rm_Clu_isMark : Room := { frames := 0, cells := 0, slots := 0, locals := 0 }
abbrev b_Clu_isPicture : ByteArray := prog_2_method_6_code
def y_Clu_isPicture : MethodName := ⟨R_Clu, "isPicture", "(I)Z"⟩
abbrev rm_Clu_isPicture : Room := { frames := 0, cells := 0, slots := 0, locals := 0 }
abbrev b_Clu_isFlag : ByteArray := prog_2_method_7_code
def y_Clu_isFlag : MethodName := ⟨R_Clu, "isFlag", "(I)Z"⟩
abbrev rm_Clu_isFlag : Room := { frames := 0, cells := 0, slots := 0, locals := 0 }
abbrev b_Itm_isInside : ByteArray := prog_5_method_6_code
def y_Itm_isInside : MethodName := ⟨R_Itm, "isInside", "(I)Z"⟩
abbrev rm_Itm_isInside : Room := { frames := 1, cells := 0, slots := 0, locals := 22 }
abbrev b_Itm_having : ByteArray := prog_5_method_5_code
def y_Itm_having : MethodName := ⟨R_Itm, "having", "(I)I"⟩
abbrev rm_Itm_having : Room := { frames := 0, cells := 0, slots := 0, locals := 0 }
abbrev b_Gap_put : ByteArray := prog_3_method_5_code
def y_Gap_put : MethodName := ⟨R_Gap, "put", "(ILVersionedText$RowText;)V"⟩
abbrev rm_Gap_put : Room := { frames := 2, cells := 0, slots := 0, locals := 54 }
abbrev b_Gap_moveGap : ByteArray := prog_3_method_7_code
def y_Gap_moveGap : MethodName := ⟨R_Gap, "moveGap", "(I)V"⟩
abbrev rm_Gap_moveGap : Room := { frames := 1, cells := 0, slots := 0, locals := 32 }
abbrev b_Row_copyInto : ByteArray := prog_6_method_8_code
def y_Row_copyInto : MethodName := ⟨R_Row, "copyInto", "([CI)V"⟩
abbrev rm_Row_copyInto : Room := { frames := 1, cells := 0, slots := 0, locals := 32 }
abbrev b_Row_put : ByteArray := prog_6_method_5_code
def y_Row_put : MethodName := ⟨R_Row, "put", "(ILVersionedText$RowText;)V"⟩
abbrev rm_Row_put : Room := { frames := 2, cells := 0, slots := 0, locals := 54 }
abbrev b_VT_clipIsTyping : ByteArray := prog_1_method_26_code
def y_VT_clipIsTyping : MethodName := ⟨R_VT, "clipIsTyping", "()Z"⟩
abbrev rm_VT_clipIsTyping : Room := { frames := 1, cells := 0, slots := 0, locals := 21 }
abbrev b_His_extendStep : ByteArray := prog_4_method_5_code
def y_His_extendStep : MethodName := ⟨R_His, "extendStep", "(LVersionedText$Text;)V"⟩
abbrev rm_His_extendStep : Room := { frames := 3, cells := 0, slots := 0, locals := 63 }
abbrev b_His_latest : ByteArray := prog_4_method_8_code
def y_His_latest : MethodName := ⟨R_His, "latest", "()LVersionedText$RowText;"⟩
abbrev rm_His_latest : Room := { frames := 0, cells := 0, slots := 0, locals := 0 }
abbrev b_Row_become : ByteArray := prog_6_method_6_code
def y_Row_become : MethodName := ⟨R_Row, "become", "(LVersionedText$Text;)V"⟩
abbrev rm_Row_become : Room := { frames := 2, cells := 0, slots := 0, locals := 41 }
abbrev b_His_addStep : ByteArray := prog_4_method_4_code
def y_His_addStep : MethodName := ⟨R_His, "addStep", "(LVersionedText$Text;)V"⟩
abbrev rm_His_addStep : Room := { frames := 3, cells := 0, slots := 0, locals := 63 }
abbrev b_VT_remove : ByteArray := prog_1_method_5_code
def y_VT_remove : MethodName := ⟨R_VT, "remove", "(II)Z"⟩
abbrev rm_VT_remove : Room := { frames := 6, cells := 0, slots := 0, locals := 131 }
abbrev b_Gap_cut : ByteArray := prog_3_method_4_code
def y_Gap_cut : MethodName := ⟨R_Gap, "cut", "(II)V"⟩
abbrev rm_Gap_cut : Room := { frames := 2, cells := 0, slots := 0, locals := 54 }
abbrev b_VT_addClosedStep : ByteArray := prog_1_method_27_code
def y_VT_addClosedStep : MethodName := ⟨R_VT, "addClosedStep", "()V"⟩
abbrev rm_VT_addClosedStep : Room := { frames := 4, cells := 0, slots := 0, locals := 84 }
abbrev b_VT_replace : ByteArray := prog_1_method_6_code
def y_VT_replace : MethodName := ⟨R_VT, "replace", "(II)Z"⟩
abbrev rm_VT_replace : Room := { frames := 7, cells := 0, slots := 0, locals := 153 }
abbrev b_VT_undo : ByteArray := prog_1_method_7_code
def y_VT_undo : MethodName := ⟨R_VT, "undo", "()Z"⟩
abbrev rm_VT_undo : Room := { frames := 4, cells := 0, slots := 0, locals := 84 }
abbrev b_His_undoable : ByteArray := prog_4_method_2_code
def y_His_undoable : MethodName := ⟨R_His, "undoable", "()I"⟩
abbrev rm_His_undoable : Room := { frames := 0, cells := 0, slots := 0, locals := 0 }
abbrev b_His_goBack : ByteArray := prog_4_method_6_code
def y_His_goBack : MethodName := ⟨R_His, "goBack", "(LVersionedText$Text;)V"⟩
abbrev rm_His_goBack : Room := { frames := 3, cells := 0, slots := 0, locals := 63 }
abbrev b_Gap_become : ByteArray := prog_3_method_6_code
def y_Gap_become : MethodName := ⟨R_Gap, "become", "(LVersionedText$Text;)V"⟩
abbrev rm_Gap_become : Room := { frames := 2, cells := 0, slots := 0, locals := 41 }
abbrev b_VT_redo : ByteArray := prog_1_method_8_code
def y_VT_redo : MethodName := ⟨R_VT, "redo", "()Z"⟩
abbrev rm_VT_redo : Room := { frames := 4, cells := 0, slots := 0, locals := 84 }
abbrev b_His_redoable : ByteArray := prog_4_method_3_code
def y_His_redoable : MethodName := ⟨R_His, "redoable", "()I"⟩
abbrev rm_His_redoable : Room := { frames := 0, cells := 0, slots := 0, locals := 0 }
abbrev b_His_goForward : ByteArray := prog_4_method_7_code
def y_His_goForward : MethodName := ⟨R_His, "goForward", "(LVersionedText$Text;)V"⟩
abbrev rm_His_goForward : Room := { frames := 3, cells := 0, slots := 0, locals := 63 }
abbrev b_VT_steps : ByteArray := prog_1_method_9_code
def y_VT_steps : MethodName := ⟨R_VT, "steps", "(I)I"⟩
abbrev rm_VT_steps : Room := { frames := 1, cells := 0, slots := 0, locals := 20 }
abbrev b_VT_seal : ByteArray := prog_1_method_10_code
def y_VT_seal : MethodName := ⟨R_VT, "seal", "()V"⟩
abbrev rm_VT_seal : Room := { frames := 0, cells := 0, slots := 0, locals := 0 }
abbrev b_VT_guard : ByteArray := prog_1_method_11_code
def y_VT_guard : MethodName := ⟨R_VT, "guard", "(I)Z"⟩
abbrev rm_VT_guard : Room := { frames := 0, cells := 0, slots := 0, locals := 0 }
abbrev b_VT_snapshot : ByteArray := prog_1_method_12_code
def y_VT_snapshot : MethodName := ⟨R_VT, "snapshot", "()I"⟩
abbrev rm_VT_snapshot : Room := { frames := 3, cells := 0, slots := 0, locals := 63 }
abbrev b_VT_release : ByteArray := prog_1_method_13_code
def y_VT_release : MethodName := ⟨R_VT, "release", "(I)Z"⟩
abbrev rm_VT_release : Room := { frames := 1, cells := 0, slots := 0, locals := 21 }
abbrev b_VT_isVersion : ByteArray := prog_1_method_21_code
def y_VT_isVersion : MethodName := ⟨R_VT, "isVersion", "(I)Z"⟩
abbrev rm_VT_isVersion : Room := { frames := 0, cells := 0, slots := 0, locals := 0 }
abbrev b_VT_unit : ByteArray := prog_1_method_14_code
def y_VT_unit : MethodName := ⟨R_VT, "unit", "(II)I"⟩
abbrev rm_VT_unit : Room := { frames := 2, cells := 0, slots := 0, locals := 41 }
abbrev b_VT_count : ByteArray := prog_1_method_15_code
def y_VT_count : MethodName := ⟨R_VT, "count", "(II)I"⟩
abbrev rm_VT_count : Room := { frames := 5, cells := 0, slots := 0, locals := 109 }
abbrev b_VT_isMetric : ByteArray := prog_1_method_22_code
def y_VT_isMetric : MethodName := ⟨R_VT, "isMetric", "(I)Z"⟩
abbrev rm_VT_isMetric : Room := { frames := 0, cells := 0, slots := 0, locals := 0 }
abbrev b_Itm_number : ByteArray := prog_5_method_3_code
def y_Itm_number : MethodName := ⟨R_Itm, "number", "()I"⟩
abbrev rm_Itm_number : Room := { frames := 0, cells := 0, slots := 0, locals := 0 }
abbrev b_VT_place : ByteArray := prog_1_method_16_code
def y_VT_place : MethodName := ⟨R_VT, "place", "(III)I"⟩
abbrev rm_VT_place : Room := { frames := 5, cells := 0, slots := 0, locals := 109 }
abbrev b_Itm_beginningOf : ByteArray := prog_5_method_4_code
def y_Itm_beginningOf : MethodName := ⟨R_Itm, "beginningOf", "(I)I"⟩
abbrev rm_Itm_beginningOf : Room := { frames := 0, cells := 0, slots := 0, locals := 0 }
abbrev b_VT_item : ByteArray := prog_1_method_17_code
def y_VT_item : MethodName := ⟨R_VT, "item", "(III)I"⟩
abbrev rm_VT_item : Room := { frames := 5, cells := 0, slots := 0, locals := 109 }
abbrev b_VT_same : ByteArray := prog_1_method_18_code
def y_VT_same : MethodName := ⟨R_VT, "same", "(II)Z"⟩
abbrev rm_VT_same : Room := { frames := 3, cells := 0, slots := 0, locals := 63 }
abbrev b_VT_haveSameUnits : ByteArray := prog_1_method_28_code
def y_VT_haveSameUnits : MethodName := ⟨R_VT, "haveSameUnits", "(LVersionedText$Text;LVersionedText$Text;)Z"⟩
abbrev rm_VT_haveSameUnits : Room := { frames := 2, cells := 0, slots := 0, locals := 41 }
abbrev b_VT_find : ByteArray := prog_1_method_19_code
def y_VT_find : MethodName := ⟨R_VT, "find", "(II)I"⟩
abbrev rm_VT_find : Room := { frames := 3, cells := 0, slots := 0, locals := 73 }
abbrev b_Sea_takePattern : ByteArray := prog_7_method_2_code
def y_Sea_takePattern : MethodName := ⟨R_Sea, "takePattern", "(LVersionedText$RowText;)Z"⟩
abbrev rm_Sea_takePattern : Room := { frames := 1, cells := 0, slots := 0, locals := 21 }
abbrev b_Sea_firstMatch : ByteArray := prog_7_method_3_code
def y_Sea_firstMatch : MethodName := ⟨R_Sea, "firstMatch", "(LVersionedText$Text;I)I"⟩
abbrev rm_Sea_firstMatch : Room := { frames := 2, cells := 0, slots := 0, locals := 49 }
abbrev b_Sea_reachFrom : ByteArray := prog_7_method_5_code
def y_Sea_reachFrom : MethodName := ⟨R_Sea, "reachFrom", "(II)V"⟩
abbrev rm_Sea_reachFrom : Room := { frames := 1, cells := 0, slots := 0, locals := 22 }
abbrev b_Sea_standsFor : ByteArray := prog_7_method_6_code
def y_Sea_standsFor : MethodName := ⟨R_Sea, "standsFor", "(II)Z"⟩
abbrev rm_Sea_standsFor : Room := { frames := 0, cells := 0, slots := 0, locals := 0 }
abbrev b_VT_end : ByteArray := prog_1_method_20_code
def y_VT_end : MethodName := ⟨R_VT, "end", "()I"⟩
abbrev rm_VT_end : Room := { frames := 1, cells := 0, slots := 0, locals := 20 }
abbrev b_Sea_matchEnd : ByteArray := prog_7_method_4_code
def y_Sea_matchEnd : MethodName := ⟨R_Sea, "matchEnd", "()I"⟩
abbrev rm_Sea_matchEnd : Room := { frames := 0, cells := 0, slots := 0, locals := 0 }
abbrev b_Law_cell : ByteArray := method_2_code
def y_Law_cell : MethodName := ⟨R_Law, "cell", "([II)I"⟩
abbrev rm_Law_cell : Room := { frames := 0, cells := 0, slots := 0, locals := 0 }
abbrev b_Mod_init : ByteArray := prog_10_method_1_code
def y_Mod_init : MethodName := ⟨R_Mod, "<init>", "(I)V"⟩
abbrev rm_Mod_init : Room := { frames := 1, cells := 9, slots := 2927, locals := 20 }
abbrev b_Mod_type : ByteArray := prog_10_method_2_code
def y_Mod_type : MethodName := ⟨R_Mod, "type", "(C)Z"⟩
abbrev rm_Mod_type : Room := { frames := 0, cells := 0, slots := 0, locals := 0 }
abbrev b_Mod_scrap : ByteArray := prog_10_method_3_code
def y_Mod_scrap : MethodName := ⟨R_Mod, "scrap", "()V"⟩
abbrev rm_Mod_scrap : Room := { frames := 0, cells := 0, slots := 0, locals := 0 }
abbrev b_Mod_insert : ByteArray := prog_10_method_19_code
def y_Mod_insert : MethodName := ⟨R_Mod, "insert", "(I)Z"⟩
abbrev rm_Mod_insert : Room := { frames := 4, cells := 0, slots := 0, locals := 92 }
abbrev b_Mod_isPlace : ByteArray := prog_10_method_18_code
def y_Mod_isPlace : MethodName := ⟨R_Mod, "isPlace", "(I)Z"⟩
abbrev rm_Mod_isPlace : Room := { frames := 0, cells := 0, slots := 0, locals := 0 }
abbrev b_Mod_lets : ByteArray := prog_10_method_13_code
def y_Mod_lets : MethodName := ⟨R_Mod, "lets", "(I)Z"⟩
abbrev rm_Mod_lets : Room := { frames := 3, cells := 0, slots := 0, locals := 69 }
abbrev b_Mod_findItems : ByteArray := prog_10_method_12_code
def y_Mod_findItems : MethodName := ⟨R_Mod, "findItems", "(II)V"⟩
abbrev rm_Mod_findItems : Room := { frames := 2, cells := 0, slots := 0, locals := 46 }
abbrev b_Mod_begin : ByteArray := prog_10_method_10_code
def y_Mod_begin : MethodName := ⟨R_Mod, "begin", "(I)V"⟩
abbrev rm_Mod_begin : Room := { frames := 0, cells := 0, slots := 0, locals := 0 }
abbrev b_Mod_findLines : ByteArray := prog_10_method_11_code
def y_Mod_findLines : MethodName := ⟨R_Mod, "findLines", "(I)V"⟩
abbrev rm_Mod_findLines : Room := { frames := 1, cells := 0, slots := 0, locals := 21 }
abbrev b_Mod_findPoints : ByteArray := prog_10_method_5_code
def y_Mod_findPoints : MethodName := ⟨R_Mod, "findPoints", "(I)V"⟩
abbrev rm_Mod_findPoints : Room := { frames := 0, cells := 0, slots := 0, locals := 0 }
abbrev b_Mod_bound : ByteArray := prog_10_method_9_code
def y_Mod_bound : MethodName := ⟨R_Mod, "bound", "(I)Z"⟩
abbrev rm_Mod_bound : Room := { frames := 1, cells := 0, slots := 0, locals := 20 }
abbrev b_Mod_isMark : ByteArray := prog_10_method_6_code
def y_Mod_isMark : MethodName := ⟨R_Mod, "isMark", "(I)Z"⟩
abbrev rm_Mod_isMark : Room := { frames := 0, cells := 0, slots := 0, locals := 0 }
abbrev b_Mod_isPicture : ByteArray := prog_10_method_7_code
def y_Mod_isPicture : MethodName := ⟨R_Mod, "isPicture", "(I)Z"⟩
abbrev rm_Mod_isPicture : Room := { frames := 0, cells := 0, slots := 0, locals := 0 }
abbrev b_Mod_isFlag : ByteArray := prog_10_method_8_code
def y_Mod_isFlag : MethodName := ⟨R_Mod, "isFlag", "(I)Z"⟩
abbrev rm_Mod_isFlag : Room := { frames := 0, cells := 0, slots := 0, locals := 0 }
abbrev b_Mod_make : ByteArray := prog_10_method_14_code
def y_Mod_make : MethodName := ⟨R_Mod, "make", "(III)V"⟩
abbrev rm_Mod_make : Room := { frames := 0, cells := 0, slots := 0, locals := 0 }
abbrev b_Mod_show : ByteArray := prog_10_method_15_code
def y_Mod_show : MethodName := ⟨R_Mod, "show", "(I)V"⟩
abbrev rm_Mod_show : Room := { frames := 0, cells := 0, slots := 0, locals := 0 }
abbrev b_Mod_step : ByteArray := prog_10_method_16_code
def y_Mod_step : MethodName := ⟨R_Mod, "step", "()V"⟩
abbrev rm_Mod_step : Room := { frames := 1, cells := 0, slots := 0, locals := 23 }
abbrev b_Mod_copy : ByteArray := prog_10_method_17_code
def y_Mod_copy : MethodName := ⟨R_Mod, "copy", "(II)V"⟩
abbrev rm_Mod_copy : Room := { frames := 0, cells := 0, slots := 0, locals := 0 }
abbrev b_Mod_remove : ByteArray := prog_10_method_20_code
def y_Mod_remove : MethodName := ⟨R_Mod, "remove", "(II)Z"⟩
abbrev rm_Mod_remove : Room := { frames := 4, cells := 0, slots := 0, locals := 92 }
abbrev b_Mod_replace : ByteArray := prog_10_method_21_code
def y_Mod_replace : MethodName := ⟨R_Mod, "replace", "(II)Z"⟩
abbrev rm_Mod_replace : Room := { frames := 4, cells := 0, slots := 0, locals := 92 }
abbrev b_Mod_undo : ByteArray := prog_10_method_22_code
def y_Mod_undo : MethodName := ⟨R_Mod, "undo", "()Z"⟩
abbrev rm_Mod_undo : Room := { frames := 0, cells := 0, slots := 0, locals := 0 }
abbrev b_Mod_redo : ByteArray := prog_10_method_23_code
def y_Mod_redo : MethodName := ⟨R_Mod, "redo", "()Z"⟩
abbrev rm_Mod_redo : Room := { frames := 0, cells := 0, slots := 0, locals := 0 }
abbrev b_Mod_steps : ByteArray := prog_10_method_24_code
def y_Mod_steps : MethodName := ⟨R_Mod, "steps", "(I)I"⟩
abbrev rm_Mod_steps : Room := { frames := 0, cells := 0, slots := 0, locals := 0 }
abbrev b_Mod_seal : ByteArray := prog_10_method_25_code
def y_Mod_seal : MethodName := ⟨R_Mod, "seal", "()V"⟩
abbrev rm_Mod_seal : Room := { frames := 0, cells := 0, slots := 0, locals := 0 }
abbrev b_Mod_guard : ByteArray := prog_10_method_26_code
def y_Mod_guard : MethodName := ⟨R_Mod, "guard", "(I)Z"⟩
abbrev rm_Mod_guard : Room := { frames := 0, cells := 0, slots := 0, locals := 0 }
abbrev b_Mod_snapshot : ByteArray := prog_10_method_27_code
def y_Mod_snapshot : MethodName := ⟨R_Mod, "snapshot", "()I"⟩
abbrev rm_Mod_snapshot : Room := { frames := 1, cells := 0, slots := 0, locals := 23 }
abbrev b_Mod_release : ByteArray := prog_10_method_28_code
def y_Mod_release : MethodName := ⟨R_Mod, "release", "(I)Z"⟩
abbrev rm_Mod_release : Room := { frames := 0, cells := 0, slots := 0, locals := 0 }
abbrev b_Mod_unit : ByteArray := prog_10_method_29_code
def y_Mod_unit : MethodName := ⟨R_Mod, "unit", "(II)I"⟩
abbrev rm_Mod_unit : Room := { frames := 1, cells := 0, slots := 0, locals := 21 }
abbrev b_Mod_slot : ByteArray := prog_10_method_4_code
def y_Mod_slot : MethodName := ⟨R_Mod, "slot", "(I)I"⟩
abbrev rm_Mod_slot : Room := { frames := 0, cells := 0, slots := 0, locals := 0 }
abbrev b_Mod_count : ByteArray := prog_10_method_31_code
def y_Mod_count : MethodName := ⟨R_Mod, "count", "(II)I"⟩
abbrev rm_Mod_count : Room := { frames := 4, cells := 0, slots := 0, locals := 92 }
abbrev b_Mod_looks : ByteArray := prog_10_method_30_code
def y_Mod_looks : MethodName := ⟨R_Mod, "looks", "(II)Z"⟩
abbrev rm_Mod_looks : Room := { frames := 3, cells := 0, slots := 0, locals := 69 }
abbrev b_Mod_place : ByteArray := prog_10_method_32_code
def y_Mod_place : MethodName := ⟨R_Mod, "place", "(III)I"⟩
abbrev rm_Mod_place : Room := { frames := 4, cells := 0, slots := 0, locals := 92 }
abbrev b_Mod_item : ByteArray := prog_10_method_33_code
def y_Mod_item : MethodName := ⟨R_Mod, "item", "(III)I"⟩
abbrev rm_Mod_item : Room := { frames := 4, cells := 0, slots := 0, locals := 92 }
abbrev b_Mod_same : ByteArray := prog_10_method_34_code
def y_Mod_same : MethodName := ⟨R_Mod, "same", "(II)Z"⟩
abbrev rm_Mod_same : Room := { frames := 1, cells := 0, slots := 0, locals := 21 }
abbrev b_Mod_find : ByteArray := prog_10_method_38_code
def y_Mod_find : MethodName := ⟨R_Mod, "find", "(II)I"⟩
abbrev rm_Mod_find : Room := { frames := 2, cells := 0, slots := 0, locals := 47 }
abbrev b_Mod_isPattern : ByteArray := prog_10_method_35_code
def y_Mod_isPattern : MethodName := ⟨R_Mod, "isPattern", "()Z"⟩
abbrev rm_Mod_isPattern : Room := { frames := 0, cells := 0, slots := 0, locals := 0 }
abbrev b_Mod_match : ByteArray := prog_10_method_37_code
def y_Mod_match : MethodName := ⟨R_Mod, "match", "(II)I"⟩
abbrev rm_Mod_match : Room := { frames := 1, cells := 0, slots := 0, locals := 21 }
abbrev b_Mod_stands : ByteArray := prog_10_method_36_code
def y_Mod_stands : MethodName := ⟨R_Mod, "stands", "(II)Z"⟩
abbrev rm_Mod_stands : Room := { frames := 0, cells := 0, slots := 0, locals := 0 }
abbrev b_Mod_end : ByteArray := prog_10_method_39_code
def y_Mod_end : MethodName := ⟨R_Mod, "end", "()I"⟩
abbrev rm_Mod_end : Room := { frames := 0, cells := 0, slots := 0, locals := 0 }
def y_Txt_length : MethodName := ⟨nm_Text, "length", "()I"⟩
def y_Txt_at : MethodName := ⟨nm_Text, "at", "(I)I"⟩
def y_Txt_cut : MethodName := ⟨nm_Text, "cut", "(II)V"⟩
def y_Txt_put : MethodName := ⟨nm_Text, "put", "(ILVersionedText$RowText;)V"⟩
def y_Txt_become : MethodName := ⟨nm_Text, "become", "(LVersionedText$Text;)V"⟩
def fwl : List (String × MethodName × MethodName) := [(R_Row, y_Txt_length, y_Row_length), (R_Row, y_Txt_at, y_Row_at), (R_Row, y_Txt_cut, y_Row_cut), (R_Row, y_Txt_put, y_Row_put), (R_Row, y_Txt_become, y_Row_become), (R_Gap, y_Txt_length, y_Gap_length), (R_Gap, y_Txt_at, y_Gap_at), (R_Gap, y_Txt_cut, y_Gap_cut), (R_Gap, y_Txt_put, y_Gap_put), (R_Gap, y_Txt_become, y_Gap_become)]
theorem fwl_ok : ∀ q ∈ fwl, q.2.1.cls ≠ "java/lang/invoke/MethodHandle" ∧ q.2.1.cls ≠ "java/lang/invoke/VarHandle" := by decide +kernel
end
section
/-! THE LAYER: the heap from the address b on is a family of N cells, cell i at b + i. -/
def ad (b i : Nat) : Nat := b + i
theorem ad_inj {b i j : Nat} (h : ad b i = ad b j) : i = j := Nat.add_left_cancel h
def hup (h : Nat → va_E) (i : Nat) (e : va_E) : Nat → va_E := fun j => if j = i then e else h j
theorem hup_eq (h : Nat → va_E) (i : Nat) (e : va_E) : hup h i e i = e := if_pos rfl
theorem hup_ne {h : Nat → va_E} {i j : Nat} {e : va_E} (hn : j ≠ i) : hup h i e j = h j := if_neg hn
/-- D (numbers of the classes), the array classes char[], int[], boolean[], Text[], RowText[], and b -/
abbrev lx_G : Type := va_G × ClassId × ClassId × ClassId × ClassId × ClassId × Nat
abbrev g_D (G : lx_G) : va_G := G.1
abbrev g_C (G : lx_G) : ClassId := G.2.1
abbrev g_I (G : lx_G) : ClassId := G.2.2.1
abbrev g_Z (G : lx_G) : ClassId := G.2.2.2.1
abbrev g_T (G : lx_G) : ClassId := G.2.2.2.2.1
abbrev g_R (G : lx_G) : ClassId := G.2.2.2.2.2.1
abbrev g_b (G : lx_G) : Nat := G.2.2.2.2.2.2
def g_ty (G : lx_G) : List (ClassId × FieldType) := [(g_C G, .char), (g_I G, .int), (g_Z G, .boolean), (g_T G, .object nm_Text), (g_R G, .object nm_Row)]
def ob (ci : Nat) (fs : List Value) : va_E := .inr (ci, fs)
def cC (G : lx_G) (n : Nat) (f : Nat → Int32) : va_E := .inl (g_C G, n, .inl f)
def cI (G : lx_G) (n : Nat) (f : Nat → Int32) : va_E := .inl (g_I G, n, .inl f)
def cZ (G : lx_G) (n : Nat) (f : Nat → Int32) : va_E := .inl (g_Z G, n, .inl f)
def cT (G : lx_G) (n : Nat) (f : Nat → Option Nat) : va_E := .inl (g_T G, n, .inr (.inr (.inr (.inr f))))
def cR (G : lx_G) (n : Nat) (f : Nat → Option Nat) : va_E := .inl (g_R G, n, .inr (.inr (.inr (.inr f))))
def Hp (G : lx_G) (N : Nat) (h : Nat → va_E) (H : Heap) : Prop := H.size = g_b G + N ∧ ∀ i, i < N → va_at (g_D G) vwCl (ad (g_b G) i, h i) H
theorem Hp.write {G : lx_G} {N i : Nat} {h : Nat → va_E} {H H1 : Heap} {e : va_E} (hH : Hp G N h H) (he : va_at (g_D G) vwCl (ad (g_b G) i, e) H1) (z : H1.size = H.size) (oq : ∀ q : Nat, q ≠ ad (g_b G) i → H1[q]? = H[q]?) : Hp G N (hup h i e) H1 := by
  refine ⟨z.trans hH.1, fun j hj => ?_⟩
  by_cases hji : j = i
  · subst hji
    rw [hup_eq]
    exact he
  · rw [hup_ne hji]
    exact (hH.2 j hj).kept (oq _ (fun q => hji (ad_inj q)))
theorem Hp.push {G : lx_G} {N : Nat} {h : Nat → va_E} {H H1 : Heap} {e : va_E} (hH : Hp G N h H) (he : va_at (g_D G) vwCl (ad (g_b G) N, e) H1) (z : H1.size = H.size + 1) (oq : ∀ q : Nat, q < H.size → H1[q]? = H[q]?) : Hp G (N + 1) (hup h N e) H1 := by
  refine ⟨by rw [z, hH.1]; omega, fun j hj => ?_⟩
  by_cases hji : j = N
  · subst hji
    rw [hup_eq]
    exact he
  · rw [hup_ne hji]
    exact (hH.2 j (by omega)).kept (oq _ (by rw [hH.1]; show g_b G + j < _; omega))
theorem Hp.one {G : lx_G} {N i : Nat} {h : Nat → va_E} {H : Heap} {e : va_E} (hH : Hp G N h H) (hi : i < N) (he : h i = e) : va_P (g_D G) vwCl [(ad (g_b G) i, e)] H := by
  intro k q hq
  have hk : k < 1 := (List.getElem?_eq_some_iff.mp hq).1
  have : k = 0 := by omega
  subst this
  cases hq
  rw [← he]
  exact hH.2 i hi
theorem Hp.at {G : lx_G} {N i : Nat} {h : Nat → va_E} {H : Heap} {e : va_E} (hH : Hp G N h H) (hi : i < N) (he : h i = e) : va_at (g_D G) vwCl (ad (g_b G) i, e) H := he ▸ hH.2 i hi
/-! the words of the tables, as the methods need them -/
def isNest : Cond → Bool
  | .methodLinkNest .. => true
  | .fieldLinkNest .. => true
  | .castable .. => true
  | _ => false
theorem isNest_on {w : Cond} (h : isNest w = true) : w.onTables = true := by
  cases w <;> first | rfl | (simp [isNest] at h)
def Tb (G : lx_G) (U : State) : Prop := (∀ w ∈ lw_tbl, goodWord w = true → w.before #[] U = true) ∧ (∀ w ∈ lw_tbl, isNest w = true → va_Nw w U) ∧ (∀ q ∈ fwl, va_Fw q.1 q.2.1 q.2.2 U) ∧ va_K (g_D G) vwCl (g_ty G) U ∧ va_AO nm_Text U ∧ va_AO nm_Row U
theorem Tb.moved {G : lx_G} {s U : State} (hW : s.WarmedH U.vm) (h : Tb G s) : Tb G U := by
  obtain ⟨h1, h2, h3, h4, h5, h6⟩ := h
  refine ⟨fun w hw hg => word_at hW (good_of_word hg) (h1 w hw hg), fun w hw hn => ?_, fun q hq => va_Fw.moved (fwl_ok q hq) hW.alike (h3 q hq), va_K.moved hW.alike h4, va_AO.moved hW.alike h5, va_AO.moved hW.alike h6⟩
  have h9 := h2 w hw hn
  cases w <;> first | exact va_Nw.warmM hW h9 | exact va_Nw.warmF hW h9 | exact va_Nw.warmC hW h9 | (simp [isNest] at hn)
theorem Tb.word {G : lx_G} {s : State} (h : Tb G s) {w : Cond} (hw : w ∈ lw_tbl) (hg : goodWord w = true) (args : Array Value) : w.before args s = true := word_at (State.WarmedH.refl s) (good_of_word hg) (h.1 w hw hg)
theorem Tb.later {G : lx_G} {s : State} (h : Tb G s) {w : Cond} (hw : w ∈ lw_tbl) (hg : goodWord w = true) : ∀ (a' : Array Value) (U : State), s.WarmedH U.vm → w.before a' U = true := fun _ _ hW => word_at hW (good_of_word hg) (h.1 w hw hg)
theorem Tb.lay {G : lx_G} {s : State} (h : Tb G s) {C : String} {T : u_T} {n : Nat} (hin : ∀ w ∈ u_ws C T n, w ∈ lw_tbl) (hg : ∀ w ∈ u_ws C T n, goodWord w = true) (args : Array Value) : ∀ w ∈ u_ws C T n, w.before args s = true := fun w hw => h.word (hin w hw) (hg w hw) args
/-! the locals -/
def LR (ls : Array Slot) (nL : Nat) (L : List (Option Value)) : Prop := ls.size = nL ∧ lv_wf ls ∧ ∀ (i : Nat) (v : Value), L[i]? = some (some v) → ls[i]? = some (.val v) ∧ v.category = 1
theorem LR.at {ls : Array Slot} {nL : Nat} {L : List (Option Value)} (h : LR ls nL L) {i : Nat} {v : Value} (hi : L[i]? = some (some v)) : ls[i]? = some (.val v) := (h.2.2 i v hi).1
def l_as (L : List (Option Value)) : List (Nat × Value) := (List.range L.length).filterMap (fun j => (L[j]?.join).map (fun v => (j, v)))
theorem l_as_mem {L : List (Option Value)} {q : Nat × Value} : q ∈ l_as L ↔ L[q.1]? = some (some q.2) := by
  unfold l_as
  rw [List.mem_filterMap]
  constructor
  · rintro ⟨j, hj, h⟩
    cases hx : L[j]? with
    | none => rw [hx] at h; simp at h
    | some o =>
      cases o with
      | none => rw [hx] at h; simp at h
      | some v =>
        rw [hx] at h
        simp at h
        subst h
        exact hx
  · intro h
    refine ⟨q.1, List.mem_range.mpr (List.getElem?_eq_some_iff.mp h).1, ?_⟩
    rw [h]
    rfl
theorem LR.has {ls : Array Slot} {nL : Nat} {L : List (Option Value)} (h : LR ls nL L) : lv_has ls nL (l_as L) := ⟨h.1, h.2.1, fun q hq => (h.2.2 q.1 q.2 (l_as_mem.mp hq)).1⟩
theorem LR.back {ls ls' : Array Slot} {nL i : Nat} {v : Value} {L : List (Option Value)} (h : LR ls nL L) (hv : v.category = 1) (h' : lv_has ls' nL ((i, v) :: (l_as L).filter (fun q => !(q.1 == i) && !(q.1 + 1 == i && q.2.category == 2)))) : LR ls' nL (L.set i (some v)) := by
  refine ⟨h'.1, h'.2.1, fun j w hj => ?_⟩
  by_cases hji : j = i
  · subst hji
    have hl : j < L.length := by
      have := (List.getElem?_eq_some_iff.mp hj).1
      rwa [List.length_set] at this
    rw [List.getElem?_set_self hl] at hj
    cases hj
    exact ⟨h'.2.2 (j, v) List.mem_cons_self, hv⟩
  · rw [List.getElem?_set_ne (Ne.symm hji)] at hj
    have hw := (h.2.2 j w hj).2
    refine ⟨h'.2.2 (j, w) (List.mem_cons_of_mem _ (List.mem_filter.mpr ⟨l_as_mem.mpr hj, ?_⟩)), hw⟩
    simp [hji, hw]
theorem lv_args_mem : ∀ (vs : List Value) (k : Nat), (∀ v ∈ vs, v.category = 1) → ∀ (i : Nat) (v : Value), vs[i]? = some v → (k + i, v) ∈ lv_args k vs
  | [], _, _, i, v, h => by simp at h
  | a :: vs, k, hc, i, v, h => by
    have ha : a.category = 1 := hc a List.mem_cons_self
    have hn : ¬ a.category = 2 := by omega
    cases i with
    | zero =>
      rw [List.getElem?_cons_zero] at h
      cases h
      exact List.mem_cons_self
    | succ i =>
      rw [List.getElem?_cons_succ] at h
      have := lv_args_mem vs (k + 1) (fun w hw => hc w (List.mem_cons_of_mem _ hw)) i v h
      rw [show k + 1 + i = k + (i + 1) by omega] at this
      show (k + (i + 1), v) ∈ (k, a) :: lv_args (if a.category = 2 then k + 2 else k + 1) vs
      rw [if_neg hn]
      exact List.mem_cons_of_mem _ this
def l_in (av : List Value) (n : Nat) : List (Option Value) := av.map some ++ List.replicate (n - av.length) none
theorem LR.entry (av : List Value) {n : Nat} (hl : (lg_sl av).length ≤ n) (hc : ∀ v ∈ av, v.category = 1) : LR ((lg_sl av ++ List.replicate (n - (lg_sl av).length) Slot.unset).toArray) n (l_in av n) := by
  have h := lv_entry av hl
  refine ⟨h.1, h.2.1, fun i v hi => ?_⟩
  have hav : av[i]? = some v := by
    unfold l_in at hi
    by_cases hlt : i < av.length
    · rw [List.getElem?_append_left (by simpa using hlt), List.getElem?_map] at hi
      cases hx : av[i]? with
      | none => rw [hx] at hi; simp at hi
      | some w => rw [hx] at hi; simp at hi; rw [hi]
    · rw [List.getElem?_append_right (by simp; omega)] at hi
      have := List.eq_of_mem_replicate (List.mem_of_getElem? hi)
      cases this
  have hm := lv_args_mem av 0 hc i v hav
  rw [Nat.zero_add] at hm
  exact ⟨h.2.2 (i, v) hm, hc v (List.mem_of_getElem? hav)⟩
/-! THE JUDGEMENT -/
abbrev lx_K : Type := Program × Launch × Env × Room × State × MethodId × Array Value × List Frame × Method × Code × (State → Prop)
abbrev k_p (k : lx_K) : Program := k.1
abbrev k_l (k : lx_K) : Launch := k.2.1
abbrev k_e (k : lx_K) : Env := k.2.2.1
abbrev k_R (k : lx_K) : Room := k.2.2.2.1
abbrev k_s (k : lx_K) : State := k.2.2.2.2.1
abbrev k_m (k : lx_K) : MethodId := k.2.2.2.2.2.1
abbrev k_a (k : lx_K) : Array Value := k.2.2.2.2.2.2.1
abbrev k_b (k : lx_K) : List Frame := k.2.2.2.2.2.2.2.1
abbrev k_M (k : lx_K) : Method := k.2.2.2.2.2.2.2.2.1
abbrev k_c (k : lx_K) : Code := k.2.2.2.2.2.2.2.2.2.1
abbrev k_Q (k : lx_K) : State → Prop := k.2.2.2.2.2.2.2.2.2.2
def Ev (k : lx_K) (G : lx_G) (nL N cells slots : Nat) (h : Nat → va_E) (pc : Nat) (L : List (Option Value)) (st : List Value) : Prop :=
  ∀ (H : Heap) (locs : List Loc) (ls : Array Slot), Hp G N h H → va_S (fun q => g_b G ≤ q) (k_s k).heap H locs → LR ls nL L →
    W (k_p k) (k_l k) (k_e k) (k_R k) (k_s k) (k_m k) (k_a k) (k_b k) (k_M k) (k_c k) H locs cells slots (k_Q k) (F0 (k_m k) pc ls st)
/-- what a method's walk may use -/
def Cx (k : lx_K) (G : lx_G) (own : String) (cc : ByteArray) (nL : Nat) (R : Room) : Prop :=
  (k_p k).tables.exec = Jvm.exec ∧ (k_c k).code = cc ∧ (k_c k).maxLocals = nL ∧ (k_s k).vm.findClass own = some (k_m k).cls ∧ Tb G (k_s k) ∧ g_b G ≤ (k_s k).heap.size ∧ k_R k = R
/-- a contract's end -/
def cq (G : lx_G) (N' : Nat) (post : Option Value → (Nat → va_E) → Prop) : Array Value → State → Outcome → State → Prop := fun _ st oc t =>
  (∃ (v : Option Value) (h' : Nat → va_E), oc = .returned v ∧ post v h' ∧ Hp G N' h' t.heap) ∧ va_F (fun q => g_b G ≤ q) st t
def Rt (k : lx_K) (G : lx_G) (ret : Option FieldType) (N' mc ms : Nat) (post : Option Value → (Nat → va_E) → Prop) : Prop :=
  k_Q k = MQ (k_b k) (cq G N' post) (k_a k) (k_s k) mc ms (fun q => g_b G ≤ q) ∧ (k_M k).sig.returnType = ret ∧ (k_M k).locks = false
/-- a contract: y, called with av in the heap h of N cells, returns v and the heap h' of N' cells, with 'post v h'' -/
def Ct (l : Launch) (G : lx_G) (y : MethodName) (cc : ByteArray) (nL : Nat) (ret : Option FieldType) (rm : Room) (N N' : Nat) (av : List Value) (h : Nat → va_E) (post : Option Value → (Nat → va_E) → Prop) : Prop :=
  Met l y [Cond.code y cc nL ret] rm (va_Pc av (fun U => Hp G N h U.heap ∧ Tb G U)) (cq G N' post) rm.cells rm.slots (fun q => g_b G ≤ q)
theorem ct_blind {G : lx_G} {N : Nat} {h : Nat → va_E} {av : List Value} : FrameBlind (va_Pc av (fun U => Hp G N h U.heap ∧ Tb G U)) := fun a U g mk q => ⟨q.1, q.2.1, Tb.moved (s := U) (U := U.calling g mk a) (State.WarmedH.refl U) q.2.2⟩
theorem ct_of {l : Launch} {G : lx_G} {y : MethodName} {cc : ByteArray} {nL : Nat} {ret : Option FieldType} {rm : Room} {N N' : Nat} {av : List Value} {h : Nat → va_E} {post : Option Value → (Nat → va_E) → Prop}
    (hy : plainName y.cls = true) (hl : (lg_sl av).length ≤ nL) (hc : ∀ v ∈ av, v.category = 1)
    (body : ∀ k : lx_K, Cx k G y.cls cc nL rm → Rt k G ret N' rm.cells rm.slots post → (k_M k).name = y.name → Ev k G nL N 0 0 h 0 (l_in av nL) []) : Ct l G y cc nL ret rm N N' av h post := by
  refine Met.ofW (cc := cc) (maxL := nL) (ret := ret) hy rfl ?_
  intro p e s m args below meth c s₁ B hml hv
  obtain ⟨rfl, hH, hT⟩ := hv
  have hb : g_b G ≤ s.heap.size := by rw [hH.1]; omega
  have K := body (p, l, e, rm, s, m, av.toArray, below, meth, c, MQ below (cq G N' post) av.toArray s rm.cells rm.slots (fun q => g_b G ≤ q)) ⟨B.exec, B.bytes, hml, findClass_of_methodNamed B.named, hT, hb, rfl⟩ ⟨rfl, B.returns, B.notSynchronized⟩ (name_of_methodNamed B.named B.method).1
  have W0 := K s.heap [] _ hH va_S.rf (LR.entry av hl hc)
  rw [lg_entry_eq]
  exact W0
section EV
variable {k : lx_K} {G : lx_G} {own : String} {cc : ByteArray} {nL N cells slots pc : Nat} {R : Room} {h : Nat → va_E} {L : List (Option Value)} {st : List Value}

theorem e_iconst (X : Cx k G own cc nL R) {n : Int} {v : Int32} (hd : decode cc pc = .ok (.iconst n, 1)) (hv : Int32.ofInt n = v) (kk : Ev k G nL N cells slots h (pc + 1) L (.int v :: st)) : Ev k G nL N cells slots h pc L st := fun H locs ls hH hS hL => lv_iconst X.1 X.2.1 hd hv (kk H locs ls hH hS hL)
theorem e_bipush (X : Cx k G own cc nL R) {n : Int} {v : Int32} (hd : decode cc pc = .ok (.bipush n, 2)) (hv : (Int8.ofInt n).toInt32 = v) (kk : Ev k G nL N cells slots h (pc + 2) L (.int v :: st)) : Ev k G nL N cells slots h pc L st := fun H locs ls hH hS hL => lv_bipush X.1 X.2.1 hd hv (kk H locs ls hH hS hL)
theorem e_sipush (X : Cx k G own cc nL R) {n : Int} {v : Int32} (hd : decode cc pc = .ok (.sipush n, 3)) (hv : (Int16.ofInt n).toInt32 = v) (kk : Ev k G nL N cells slots h (pc + 3) L (.int v :: st)) : Ev k G nL N cells slots h pc L st := fun H locs ls hH hS hL => lv_sipush X.1 X.2.1 hd hv (kk H locs ls hH hS hL)
theorem e_ldc (X : Cx k G own cc nL R) {index : Nat} {v : Int32} (hd : decode cc pc = .ok (.ldc index, 2)) (hw : Cond.constant own index v ∈ lw_tbl) (hg : goodWord (Cond.constant own index v) = true) (kk : Ev k G nL N cells slots h (pc + 2) L (.int v :: st)) : Ev k G nL N cells slots h pc L st := fun H locs ls hH hS hL => lv_ldc X.1 X.2.1 X.2.2.2.1 (X.2.2.2.2.1.word hw hg _) hd (kk H locs ls hH hS hL)
theorem e_iload_n (X : Cx k G own cc nL R) {j : Fin 4} {x : Int32} (hd : decode cc pc = .ok (.iload_n j, 1)) (hl : L[(j : Nat)]? = some (some (.int x))) (kk : Ev k G nL N cells slots h (pc + 1) L (.int x :: st)) : Ev k G nL N cells slots h pc L st := fun H locs ls hH hS hL => lv_iload_n X.1 X.2.1 hd rfl (hL.at hl) (kk H locs ls hH hS hL)
theorem e_iload (X : Cx k G own cc nL R) {j : Nat} {x : Int32} (hd : decode cc pc = .ok (.iload j, 2)) (hl : L[j]? = some (some (.int x))) (kk : Ev k G nL N cells slots h (pc + 2) L (.int x :: st)) : Ev k G nL N cells slots h pc L st := fun H locs ls hH hS hL => lv_iload X.1 X.2.1 hd (hL.at hl) (kk H locs ls hH hS hL)
theorem e_istore_n (X : Cx k G own cc nL R) {j : Fin 4} {x : Int32} (hd : decode cc pc = .ok (.istore_n j, 1)) (hj : (j : Nat) < nL) (kk : Ev k G nL N cells slots h (pc + 1) (L.set (j : Nat) (some (.int x))) st) : Ev k G nL N cells slots h pc L (.int x :: st) := fun H locs ls hH hS hL => lv_istore_n X.1 X.2.1 hd rfl hL.has hj rfl (fun ls' h9 => kk H locs ls' hH hS (hL.back rfl h9))
theorem e_istore (X : Cx k G own cc nL R) {j : Nat} {x : Int32} (hd : decode cc pc = .ok (.istore j, 2)) (hj : j < nL) (kk : Ev k G nL N cells slots h (pc + 2) (L.set j (some (.int x))) st) : Ev k G nL N cells slots h pc L (.int x :: st) := fun H locs ls hH hS hL => lv_istore X.1 X.2.1 hd hL.has hj rfl (fun ls' h9 => kk H locs ls' hH hS (hL.back rfl h9))
theorem e_aload_n (X : Cx k G own cc nL R) {j : Fin 4} {x : Nat} (hd : decode cc pc = .ok (.aload_n j, 1)) (hl : L[(j : Nat)]? = some (some (.ref x))) (kk : Ev k G nL N cells slots h (pc + 1) L (.ref x :: st)) : Ev k G nL N cells slots h pc L st := fun H locs ls hH hS hL => lv_aload_n X.1 X.2.1 hd rfl (hL.at hl) (kk H locs ls hH hS hL)
theorem e_aload (X : Cx k G own cc nL R) {j : Nat} {x : Nat} (hd : decode cc pc = .ok (.aload j, 2)) (hl : L[j]? = some (some (.ref x))) (kk : Ev k G nL N cells slots h (pc + 2) L (.ref x :: st)) : Ev k G nL N cells slots h pc L st := fun H locs ls hH hS hL => lv_aload X.1 X.2.1 hd (hL.at hl) (kk H locs ls hH hS hL)
theorem e_astore_n (X : Cx k G own cc nL R) {j : Fin 4} {x : Nat} (hd : decode cc pc = .ok (.astore_n j, 1)) (hj : (j : Nat) < nL) (kk : Ev k G nL N cells slots h (pc + 1) (L.set (j : Nat) (some (.ref x))) st) : Ev k G nL N cells slots h pc L (.ref x :: st) := fun H locs ls hH hS hL => lv_astore_n X.1 X.2.1 hd rfl hL.has hj rfl (fun ls' h9 => kk H locs ls' hH hS (hL.back rfl h9))
theorem e_astore (X : Cx k G own cc nL R) {j : Nat} {x : Nat} (hd : decode cc pc = .ok (.astore j, 2)) (hj : j < nL) (kk : Ev k G nL N cells slots h (pc + 2) (L.set j (some (.ref x))) st) : Ev k G nL N cells slots h pc L (.ref x :: st) := fun H locs ls hH hS hL => lv_astore X.1 X.2.1 hd hL.has hj rfl (fun ls' h9 => kk H locs ls' hH hS (hL.back rfl h9))
theorem e_iinc (X : Cx k G own cc nL R) {j : Nat} {n : Int} {x v : Int32} (hd : decode cc pc = .ok (.iinc j n, 3)) (hl : L[j]? = some (some (.int x))) (hv : x + Int32.ofInt n = v) (hj : j < nL) (kk : Ev k G nL N cells slots h (pc + 3) (L.set j (some (.int v))) st) : Ev k G nL N cells slots h pc L st := by
  intro H locs ls hH hS hL
  obtain ⟨p9, hp9⟩ := List.getElem?_of_mem (l_as_mem.mpr (show L[((j, Value.int x) : Nat × Value).1]? = some (some ((j, Value.int x) : Nat × Value).2) from hl))
  exact lv_iinc X.1 X.2.1 hd hL.has hp9 hv hj rfl (fun ls' h9 => kk H locs ls' hH hS (hL.back rfl h9))
theorem e_iadd (X : Cx k G own cc nL R) {x y : Int32} (hd : decode cc pc = .ok (.iadd, 1)) (kk : Ev k G nL N cells slots h (pc + 1) L (.int (x + y) :: st)) : Ev k G nL N cells slots h pc L (.int y :: .int x :: st) := fun H locs ls hH hS hL => lv_iadd X.1 X.2.1 hd (kk H locs ls hH hS hL)
theorem e_isub (X : Cx k G own cc nL R) {x y : Int32} (hd : decode cc pc = .ok (.isub, 1)) (kk : Ev k G nL N cells slots h (pc + 1) L (.int (x - y) :: st)) : Ev k G nL N cells slots h pc L (.int y :: .int x :: st) := fun H locs ls hH hS hL => lv_isub X.1 X.2.1 hd (kk H locs ls hH hS hL)
theorem e_imul (X : Cx k G own cc nL R) {x y : Int32} (hd : decode cc pc = .ok (.imul, 1)) (kk : Ev k G nL N cells slots h (pc + 1) L (.int (x * y) :: st)) : Ev k G nL N cells slots h pc L (.int y :: .int x :: st) := fun H locs ls hH hS hL => lv_imul X.1 X.2.1 hd (kk H locs ls hH hS hL)
theorem e_iand (X : Cx k G own cc nL R) {x y : Int32} (hd : decode cc pc = .ok (.iand, 1)) (kk : Ev k G nL N cells slots h (pc + 1) L (.int (x &&& y) :: st)) : Ev k G nL N cells slots h pc L (.int y :: .int x :: st) := fun H locs ls hH hS hL => lv_iand X.1 X.2.1 hd (kk H locs ls hH hS hL)
theorem e_irem (X : Cx k G own cc nL R) {x y : Int32} (hd : decode cc pc = .ok (.irem, 1)) (hne : ¬ y = 0) (kk : Ev k G nL N cells slots h (pc + 1) L (.int (x - x / y * y) :: st)) : Ev k G nL N cells slots h pc L (.int y :: .int x :: st) := fun H locs ls hH hS hL => lv_irem X.1 X.2.1 hd hne (kk H locs ls hH hS hL)
theorem e_i2c (X : Cx k G own cc nL R) {x v : Int32} (hd : decode cc pc = .ok (.i2c, 1)) (hv : (x.toUInt32 % 65536).toInt32 = v) (kk : Ev k G nL N cells slots h (pc + 1) L (.int v :: st)) : Ev k G nL N cells slots h pc L (.int x :: st) := fun H locs ls hH hS hL => lv_i2c X.1 X.2.1 hd hv (kk H locs ls hH hS hL)
theorem e_dup (X : Cx k G own cc nL R) {va : Value} (hd : decode cc pc = .ok (.dup, 1)) (hc : va.category = 1) (kk : Ev k G nL N cells slots h (pc + 1) L (va :: va :: st)) : Ev k G nL N cells slots h pc L (va :: st) := fun H locs ls hH hS hL => lv_dup X.1 X.2.1 hd hc (kk H locs ls hH hS hL)
theorem e_pop (X : Cx k G own cc nL R) {va : Value} (hd : decode cc pc = .ok (.pop, 1)) (hc : va.category = 1) (kk : Ev k G nL N cells slots h (pc + 1) L st) : Ev k G nL N cells slots h pc L (va :: st) := fun H locs ls hH hS hL => lv_pop X.1 X.2.1 hd hc (kk H locs ls hH hS hL)
theorem e_top {x y : Int32} (hv : x = y) (kk : Ev k G nL N cells slots h pc L (.int y :: st)) : Ev k G nL N cells slots h pc L (.int x :: st) := hv ▸ kk
theorem e_goto (X : Cx k G own cc nL R) {off : Int} {tgt : Nat} (hd : decode cc pc = .ok (.goto off, 3)) (ht : (pc : Int) + off = (tgt : Int)) (kk : Ev k G nL N cells slots h tgt L st) : Ev k G nL N cells slots h pc L st := fun H locs ls hH hS hL => lv_goto X.1 X.2.1 hd ht (kk H locs ls hH hS hL)
theorem e_if_eq (X : Cx k G own cc nL R) {x : Int32} {off : Int} {tgt : Nat} (hd : decode cc pc = .ok (.ifCond .eq off, 3)) (ht : (pc : Int) + off = (tgt : Int)) (kt : x = 0 → Ev k G nL N cells slots h tgt L st) (kf : ¬ (x = 0) → Ev k G nL N cells slots h (pc + 3) L st) : Ev k G nL N cells slots h pc L (.int x :: st) := fun H locs ls hH hS hL => lv_if_eq X.1 X.2.1 hd ht (fun c9 => kt c9 H locs ls hH hS hL) (fun c9 => kf c9 H locs ls hH hS hL)
theorem e_icmp_eq (X : Cx k G own cc nL R) {x y : Int32} {off : Int} {tgt : Nat} (hd : decode cc pc = .ok (.if_icmp .eq off, 3)) (ht : (pc : Int) + off = (tgt : Int)) (kt : x = y → Ev k G nL N cells slots h tgt L st) (kf : ¬ (x = y) → Ev k G nL N cells slots h (pc + 3) L st) : Ev k G nL N cells slots h pc L (.int y :: .int x :: st) := fun H locs ls hH hS hL => lv_icmp_eq X.1 X.2.1 hd ht (fun c9 => kt c9 H locs ls hH hS hL) (fun c9 => kf c9 H locs ls hH hS hL)
theorem e_if_ne (X : Cx k G own cc nL R) {x : Int32} {off : Int} {tgt : Nat} (hd : decode cc pc = .ok (.ifCond .ne off, 3)) (ht : (pc : Int) + off = (tgt : Int)) (kt : ¬ x = 0 → Ev k G nL N cells slots h tgt L st) (kf : x = 0 → Ev k G nL N cells slots h (pc + 3) L st) : Ev k G nL N cells slots h pc L (.int x :: st) := fun H locs ls hH hS hL => lv_if_ne X.1 X.2.1 hd ht (fun c9 => kt c9 H locs ls hH hS hL) (fun c9 => kf c9 H locs ls hH hS hL)
theorem e_icmp_ne (X : Cx k G own cc nL R) {x y : Int32} {off : Int} {tgt : Nat} (hd : decode cc pc = .ok (.if_icmp .ne off, 3)) (ht : (pc : Int) + off = (tgt : Int)) (kt : ¬ x = y → Ev k G nL N cells slots h tgt L st) (kf : x = y → Ev k G nL N cells slots h (pc + 3) L st) : Ev k G nL N cells slots h pc L (.int y :: .int x :: st) := fun H locs ls hH hS hL => lv_icmp_ne X.1 X.2.1 hd ht (fun c9 => kt c9 H locs ls hH hS hL) (fun c9 => kf c9 H locs ls hH hS hL)
theorem e_if_lt (X : Cx k G own cc nL R) {x : Int32} {off : Int} {tgt : Nat} (hd : decode cc pc = .ok (.ifCond .lt off, 3)) (ht : (pc : Int) + off = (tgt : Int)) (kt : x < 0 → Ev k G nL N cells slots h tgt L st) (kf : ¬ (x < 0) → Ev k G nL N cells slots h (pc + 3) L st) : Ev k G nL N cells slots h pc L (.int x :: st) := fun H locs ls hH hS hL => lv_if_lt X.1 X.2.1 hd ht (fun c9 => kt c9 H locs ls hH hS hL) (fun c9 => kf c9 H locs ls hH hS hL)
theorem e_icmp_lt (X : Cx k G own cc nL R) {x y : Int32} {off : Int} {tgt : Nat} (hd : decode cc pc = .ok (.if_icmp .lt off, 3)) (ht : (pc : Int) + off = (tgt : Int)) (kt : x < y → Ev k G nL N cells slots h tgt L st) (kf : ¬ (x < y) → Ev k G nL N cells slots h (pc + 3) L st) : Ev k G nL N cells slots h pc L (.int y :: .int x :: st) := fun H locs ls hH hS hL => lv_icmp_lt X.1 X.2.1 hd ht (fun c9 => kt c9 H locs ls hH hS hL) (fun c9 => kf c9 H locs ls hH hS hL)
theorem e_if_ge (X : Cx k G own cc nL R) {x : Int32} {off : Int} {tgt : Nat} (hd : decode cc pc = .ok (.ifCond .ge off, 3)) (ht : (pc : Int) + off = (tgt : Int)) (kt : 0 ≤ x → Ev k G nL N cells slots h tgt L st) (kf : ¬ (0 ≤ x) → Ev k G nL N cells slots h (pc + 3) L st) : Ev k G nL N cells slots h pc L (.int x :: st) := fun H locs ls hH hS hL => lv_if_ge X.1 X.2.1 hd ht (fun c9 => kt c9 H locs ls hH hS hL) (fun c9 => kf c9 H locs ls hH hS hL)
theorem e_icmp_ge (X : Cx k G own cc nL R) {x y : Int32} {off : Int} {tgt : Nat} (hd : decode cc pc = .ok (.if_icmp .ge off, 3)) (ht : (pc : Int) + off = (tgt : Int)) (kt : y ≤ x → Ev k G nL N cells slots h tgt L st) (kf : ¬ (y ≤ x) → Ev k G nL N cells slots h (pc + 3) L st) : Ev k G nL N cells slots h pc L (.int y :: .int x :: st) := fun H locs ls hH hS hL => lv_icmp_ge X.1 X.2.1 hd ht (fun c9 => kt c9 H locs ls hH hS hL) (fun c9 => kf c9 H locs ls hH hS hL)
theorem e_if_gt (X : Cx k G own cc nL R) {x : Int32} {off : Int} {tgt : Nat} (hd : decode cc pc = .ok (.ifCond .gt off, 3)) (ht : (pc : Int) + off = (tgt : Int)) (kt : 0 < x → Ev k G nL N cells slots h tgt L st) (kf : ¬ (0 < x) → Ev k G nL N cells slots h (pc + 3) L st) : Ev k G nL N cells slots h pc L (.int x :: st) := fun H locs ls hH hS hL => lv_if_gt X.1 X.2.1 hd ht (fun c9 => kt c9 H locs ls hH hS hL) (fun c9 => kf c9 H locs ls hH hS hL)
theorem e_icmp_gt (X : Cx k G own cc nL R) {x y : Int32} {off : Int} {tgt : Nat} (hd : decode cc pc = .ok (.if_icmp .gt off, 3)) (ht : (pc : Int) + off = (tgt : Int)) (kt : y < x → Ev k G nL N cells slots h tgt L st) (kf : ¬ (y < x) → Ev k G nL N cells slots h (pc + 3) L st) : Ev k G nL N cells slots h pc L (.int y :: .int x :: st) := fun H locs ls hH hS hL => lv_icmp_gt X.1 X.2.1 hd ht (fun c9 => kt c9 H locs ls hH hS hL) (fun c9 => kf c9 H locs ls hH hS hL)
theorem e_if_le (X : Cx k G own cc nL R) {x : Int32} {off : Int} {tgt : Nat} (hd : decode cc pc = .ok (.ifCond .le off, 3)) (ht : (pc : Int) + off = (tgt : Int)) (kt : x ≤ 0 → Ev k G nL N cells slots h tgt L st) (kf : ¬ (x ≤ 0) → Ev k G nL N cells slots h (pc + 3) L st) : Ev k G nL N cells slots h pc L (.int x :: st) := fun H locs ls hH hS hL => lv_if_le X.1 X.2.1 hd ht (fun c9 => kt c9 H locs ls hH hS hL) (fun c9 => kf c9 H locs ls hH hS hL)
theorem e_icmp_le (X : Cx k G own cc nL R) {x y : Int32} {off : Int} {tgt : Nat} (hd : decode cc pc = .ok (.if_icmp .le off, 3)) (ht : (pc : Int) + off = (tgt : Int)) (kt : x ≤ y → Ev k G nL N cells slots h tgt L st) (kf : ¬ (x ≤ y) → Ev k G nL N cells slots h (pc + 3) L st) : Ev k G nL N cells slots h pc L (.int y :: .int x :: st) := fun H locs ls hH hS hL => lv_icmp_le X.1 X.2.1 hd ht (fun c9 => kt c9 H locs ls hH hS hL) (fun c9 => kf c9 H locs ls hH hS hL)
end EV
end
section
/-! fields, arrays, calls, returns -/
theorem Cx.R {k : lx_K} {G : lx_G} {own : String} {cc : ByteArray} {nL : Nat} {R : Room} (X : Cx k G own cc nL R) : k_R k = R := X.2.2.2.2.2.2
theorem Cx.tb {k : lx_K} {G : lx_G} {own : String} {cc : ByteArray} {nL : Nat} {R : Room} (X : Cx k G own cc nL R) : Tb G (k_s k) := X.2.2.2.2.1
theorem Cx.own {k : lx_K} {G : lx_G} {own : String} {cc : ByteArray} {nL : Nat} {R : Room} (X : Cx k G own cc nL R) : (k_s k).vm.findClass own = some (k_m k).cls := X.2.2.2.1
theorem Tb.K {G : lx_G} {s : State} (h : Tb G s) : va_K (g_D G) vwCl (g_ty G) s := h.2.2.2.1
/-- a class by its number: name, fields, how many, their types -/
def CK (ci : Nat) (C : String) (T : u_T) (n : Nat) (ty0 : Nat → FieldType) : Prop := vwCl[ci]? = some (C, T, n) ∧ (∀ w ∈ u_ws C T n, w ∈ lw_tbl) ∧ (∀ w ∈ u_ws C T n, goodWord w = true) ∧ (∀ k, k < n → parseFieldDescriptor (T k).2.2.1 = some (ty0 k)) ∧ ∀ a, a < n → ∀ b, b < n → a ≠ b → (T a).2.1 ≠ (T b).2.1
/-- own's pool number idx is field kf of class ci -/
def FL (own : String) (idx ci kf : Nat) (fin : Bool) (ty : FieldType) : Prop := ∃ (C : String) (T : u_T) (n : Nat) (ty0 : Nat → FieldType), CK ci C T n ty0 ∧ kf < n ∧ Cond.fieldLink own idx (T kf).1 (T kf).2.1 (T kf).2.2.1 ∈ lw_tbl ∧ goodWord (Cond.fieldLink own idx (T kf).1 (T kf).2.1 (T kf).2.2.1) = true ∧ (T kf).2.2.2 = fin ∧ ty0 kf = ty ∧ (fin = true → (T kf).1 = own)
section EF
variable {k : lx_K} {G : lx_G} {own : String} {cc : ByteArray} {nL N cells slots pc : Nat} {R : Room} {h : Nat → va_E} {L : List (Option Value)} {st : List Value}
theorem e_get (X : Cx k G own cc nL R) {i idx ci kf : Nat} {fin : Bool} {ty : FieldType} {fs : List Value} {v : Value} (hd : decode cc pc = .ok (.getfield idx, 3)) (hF : FL own idx ci kf fin ty) (hc : h i = ob ci fs) (hi : i < N) (hv : fs[kf]? = some v) (kk : Ev k G nL N cells slots h (pc + 3) L (v :: st)) : Ev k G nL N cells slots h pc L (.ref (ad (g_b G) i) :: st) := by
  intro H locs ls hH hS hL
  obtain ⟨C, T, n, ty0, ⟨c1, c2, c3, c4, c5⟩, f1, f2, f3, f4, f5, f6⟩ := hF
  exact va_get X.1 X.2.1 (X.tb.lay c2 c3 _) (fun w h9 => h9) X.own X.tb.K (hH.one hi hc) 0 rfl c1 kf f1 (X.tb.word f2 f3 _) (fun _ h9 => h9) hv hd (kk H locs ls hH hS hL)
theorem e_put (X : Cx k G own cc nL R) {i idx ci kf : Nat} {ty : FieldType} {fs : List Value} {v : Value} (hd : decode cc pc = .ok (.putfield idx, 3)) (hF : FL own idx ci kf false ty) (hc : h i = ob ci fs) (hi : i < N) (hl : kf < fs.length) (hn : narrow ty v = v) (hfit : fits ty v = true) (kk : Ev k G nL N cells slots (hup h i (ob ci (fs.set kf v))) (pc + 3) L st) : Ev k G nL N cells slots h pc L (v :: .ref (ad (g_b G) i) :: st) := by
  intro H locs ls hH hS hL
  obtain ⟨C, T, n, ty0, ⟨c1, c2, c3, c4, c5⟩, f1, f2, f3, f4, f5, f6⟩ := hF
  have hts := X.tb.lay c2 c3 (k_a k)
  have hin : ∀ w ∈ u_ws C T n, w ∈ u_ws C T n := fun w h9 => h9
  have hK := X.tb.K
  have hap := va_apart (own := own) hts hin ty0 c4 c5 hK c1
  have hat : va_at (g_D G) vwCl (ad (g_b G) i, .inr (ci, fs)) H := hH.at hi hc
  obtain ⟨r, h1, cell, q1, q2, q3, q4⟩ := hat
  have hr : r = (C, T, n) := Option.some.inj (h1.symm.trans c1)
  subst hr
  obtain ⟨hSs, hfc, kC, hkC, hkind⟩ := hK.1 ci _ c1
  obtain ⟨cf, kf', fi, f, hi', hsl⟩ := hSs kf f1
  have hlay := hts _ (hin _ (u_in_lay f1))
  unfold u_lay at hlay
  rw [if_neg (by rw [f4]; decide)] at hlay
  have hst := (u_facts hfc hkC (u_lays hts hin f1) hi').1
  have hd' : parseFieldDescriptor (T kf).2.2.1 = some ty := by rw [c4 kf f1, f5]
  have h6 := u_store hfc hkC hkind hlay hi' hd' hn hfit
  refine W.putK X.1 X.2.1 (f := f) ⟨X.own, X.tb.word f2 f3 _, ⟨_, _, _, hi'⟩, hst⟩ (by rw [q2]; exact h6) q1 q3 (by rw [hsl]; exact k2_hasslot (q4 kf f1)) rfl rfl hd fun H' e1 e2 e3 => ?_
  rw [hsl] at e1 ⊢
  exact kk H' _ ls (hH.write ⟨_, c1, t_OB.to (V := updV (vp_V fs) kf v) ⟨_, e1, q2, q3, t_set q4 hap f1 v⟩ (fun j _ => vp_updV_set hl v j)⟩ e2 e3) (hS.put e2 e3 (Nat.le_add_right _ _)) hL
theorem e_putF (X : Cx k G own cc nL R) {i idx ci kf : Nat} {ty : FieldType} {fs : List Value} {v : Value} (hin2 : (k_M k).name = "<init>") (hd : decode cc pc = .ok (.putfield idx, 3)) (hF : FL own idx ci kf true ty) (hc : h i = ob ci fs) (hi : i < N) (hl : kf < fs.length) (hn : narrow ty v = v) (hfit : fits ty v = true) (kk : Ev k G nL N cells slots (hup h i (ob ci (fs.set kf v))) (pc + 3) L st) : Ev k G nL N cells slots h pc L (v :: .ref (ad (g_b G) i) :: st) := by
  intro H locs ls hH hS hL
  obtain ⟨C, T, n, ty0, ⟨c1, c2, c3, c4, c5⟩, f1, f2, f3, f4, f5, f6⟩ := hF
  have hts := X.tb.lay c2 c3 (k_a k)
  have hin : ∀ w ∈ u_ws C T n, w ∈ u_ws C T n := fun w h9 => h9
  have hK := X.tb.K
  have hap := va_apart (own := own) hts hin ty0 c4 c5 hK c1
  have hat : va_at (g_D G) vwCl (ad (g_b G) i, .inr (ci, fs)) H := hH.at hi hc
  obtain ⟨r, h1, cell, q1, q2, q3, q4⟩ := hat
  have hr : r = (C, T, n) := Option.some.inj (h1.symm.trans c1)
  subst hr
  obtain ⟨hSs, hfc, kC, hkC, hkind⟩ := hK.1 ci _ c1
  obtain ⟨cf, kf', fi, f, hi', hsl⟩ := hSs kf f1
  have hlay := hts _ (hin _ (u_in_lay f1))
  unfold u_lay at hlay
  rw [if_pos f4] at hlay
  have hst := (u_facts hfc hkC (u_lays hts hin f1) hi').1
  have hd' : parseFieldDescriptor (T kf).2.2.1 = some ty := by rw [c4 kf f1, f5]
  have hcf : (k_m k).cls = cf := by
    obtain ⟨_, _, c', _, _, _, -, -, hf', -, -, -, hown2, -⟩ := Cond.laysFinal_spec hlay
    have e1 : c' = cf := by have := hi'.symm.trans hf'; simp at this; exact this.1.symm
    rw [f6 rfl] at hown2
    rw [← e1]; exact Option.some.inj (X.own.symm.trans hown2)
  have h6 := u_fits hfc hkC hkind (Or.inr hlay) hi' hd' hn hfit
  refine W.putFinK X.1 X.2.1 X.own (X.tb.word f2 f3 _) hi' hst hcf hin2 (by rw [q2]; exact h6) q1 q3 (by rw [hsl]; exact k2_hasslot (q4 kf f1)) rfl rfl hd fun H' e1 e2 e3 => ?_
  rw [hsl] at e1 ⊢
  exact kk H' _ ls (hH.write ⟨_, c1, t_OB.to (V := updV (vp_V fs) kf v) ⟨_, e1, q2, q3, t_set q4 hap f1 v⟩ (fun j _ => vp_updV_set hl v j)⟩ e2 e3) (hS.put e2 e3 (Nat.le_add_right _ _)) hL
theorem e_iald (X : Cx k G own cc nL R) {i n j : Nat} {f : Nat → Int32} (hd : decode cc pc = .ok (.iaload, 1)) (hc : h i = cI G n f) (hi : i < N) (hj : j < n) (hn : n < 2 ^ 31) (kk : Ev k G nL N cells slots h (pc + 1) L (.int (f j) :: st)) : Ev k G nL N cells slots h pc L (.int (nI j) :: .ref (ad (g_b G) i) :: st) := by
  intro H locs ls hH hS hL
  refine va_iald X.1 X.2.1 X.tb.K (hH.one hi hc) 0 1 rfl rfl (vp_in_nI hj hn) hd ?_
  rw [nI_clamp (Nat.lt_trans hj hn)]
  exact kk H locs ls hH hS hL
theorem e_cald (X : Cx k G own cc nL R) {i n j : Nat} {f : Nat → Int32} (hd : decode cc pc = .ok (.caload, 1)) (hc : h i = cC G n f) (hi : i < N) (hj : j < n) (hn : n < 2 ^ 31) (kk : Ev k G nL N cells slots h (pc + 1) L (.int (f j) :: st)) : Ev k G nL N cells slots h pc L (.int (nI j) :: .ref (ad (g_b G) i) :: st) := by
  intro H locs ls hH hS hL
  refine va_cald X.1 X.2.1 X.tb.K (hH.one hi hc) 0 0 rfl rfl (vp_in_nI hj hn) hd ?_
  rw [nI_clamp (Nat.lt_trans hj hn)]
  exact kk H locs ls hH hS hL
theorem e_zald (X : Cx k G own cc nL R) {i n j : Nat} {f : Nat → Int32} (hd : decode cc pc = .ok (.baload, 1)) (hc : h i = cZ G n f) (hi : i < N) (hj : j < n) (hn : n < 2 ^ 31) (kk : Ev k G nL N cells slots h (pc + 1) L (.int (f j) :: st)) : Ev k G nL N cells slots h pc L (.int (nI j) :: .ref (ad (g_b G) i) :: st) := by
  intro H locs ls hH hS hL
  refine va_zald X.1 X.2.1 X.tb.K (hH.one hi hc) 0 2 rfl rfl (vp_in_nI hj hn) hd ?_
  rw [nI_clamp (Nat.lt_trans hj hn)]
  exact kk H locs ls hH hS hL
theorem e_tald (X : Cx k G own cc nL R) {i n j a : Nat} {f : Nat → Option Nat} (hd : decode cc pc = .ok (.aaload, 1)) (hc : h i = cT G n f) (hi : i < N) (hj : j < n) (hn : n < 2 ^ 31) (hv : f j = some a) (kk : Ev k G nL N cells slots h (pc + 1) L (.ref a :: st)) : Ev k G nL N cells slots h pc L (.int (nI j) :: .ref (ad (g_b G) i) :: st) := by
  intro H locs ls hH hS hL
  refine va_aldq X.1 X.2.1 X.tb.K (hH.one hi hc) 0 3 rfl rfl (vp_in_nI hj hn) hd ?_
  rw [nI_clamp (Nat.lt_trans hj hn), hv]
  exact kk H locs ls hH hS hL
theorem e_rald (X : Cx k G own cc nL R) {i n j a : Nat} {f : Nat → Option Nat} (hd : decode cc pc = .ok (.aaload, 1)) (hc : h i = cR G n f) (hi : i < N) (hj : j < n) (hn : n < 2 ^ 31) (hv : f j = some a) (kk : Ev k G nL N cells slots h (pc + 1) L (.ref a :: st)) : Ev k G nL N cells slots h pc L (.int (nI j) :: .ref (ad (g_b G) i) :: st) := by
  intro H locs ls hH hS hL
  refine va_aldq X.1 X.2.1 X.tb.K (hH.one hi hc) 0 4 rfl rfl (vp_in_nI hj hn) hd ?_
  rw [nI_clamp (Nat.lt_trans hj hn), hv]
  exact kk H locs ls hH hS hL
theorem e_clen (X : Cx k G own cc nL R) {i n : Nat} {f : Nat → Int32} (hd : decode cc pc = .ok (.arraylength, 1)) (hc : h i = cC G n f) (hi : i < N) (kk : Ev k G nL N cells slots h (pc + 1) L (.int (nI n) :: st)) : Ev k G nL N cells slots h pc L (.ref (ad (g_b G) i) :: st) := by
  intro H locs ls hH hS hL
  exact va_alen X.1 X.2.1 X.tb.K (hH.one hi hc) 0 0 rfl rfl rfl hd (kk H locs ls hH hS hL)
theorem e_iast (X : Cx k G own cc nL R) {i n j : Nat} {f : Nat → Int32} {x : Int32} (hd : decode cc pc = .ok (.iastore, 1)) (hc : h i = cI G n f) (hi : i < N) (hj : j < n) (hn : n < 2 ^ 31) (kk : Ev k G nL N cells slots (hup h i (cI G n (upd f j x))) (pc + 1) L st) : Ev k G nL N cells slots h pc L (.int x :: .int (nI j) :: .ref (ad (g_b G) i) :: st) := by
  intro H locs ls hH hS hL
  have hat : va_at (g_D G) vwCl (ad (g_b G) i, .inl (g_I G, n, .inl f)) H := hH.at hi hc
  refine W.iast X.1 X.2.1 hat ((X.tb.K.2 1 _ rfl).1 n (fun j => .int (f j))) (fun q => by cases q) (by show ¬ (nI j < 0 ∨ (arrV _ _ _).slots.size ≤ _); rw [arrV_size]; exact vp_in_nI hj hn) rfl rfl hd fun H1 e z oq => ?_
  refine kk H1 _ ls (hH.write ?_ z oq) (hS.put z oq (Nat.le_add_right _ _)) hL
  show H1[ad (g_b G) i]? = some (vp_cell _ _)
  rw [e, vp_cell_i, vp_cell_i, arrV_store, nI_clamp (Nat.lt_trans hj hn)]
  congr 2
  funext q
  by_cases hq : q = j
  · subst hq
    simp [updV, upd]
  · simp [updV, upd, hq]
theorem e_cast (X : Cx k G own cc nL R) {i n j : Nat} {f : Nat → Int32} {x : Int32} (hd : decode cc pc = .ok (.castore, 1)) (hc : h i = cC G n f) (hi : i < N) (hj : j < n) (hn : n < 2 ^ 31) (hx : narrow .char (.int x) = .int x) (kk : Ev k G nL N cells slots (hup h i (cC G n (upd f j x))) (pc + 1) L st) : Ev k G nL N cells slots h pc L (.int x :: .int (nI j) :: .ref (ad (g_b G) i) :: st) := by
  intro H locs ls hH hS hL
  have hat : va_at (g_D G) vwCl (ad (g_b G) i, .inl (g_C G, n, .inl f)) H := hH.at hi hc
  refine W.cast X.1 X.2.1 hat ((X.tb.K.2 0 _ rfl).1 n (fun j => .int (f j))) (fun q => by cases q) (by show ¬ (nI j < 0 ∨ (arrV _ _ _).slots.size ≤ _); rw [arrV_size]; exact vp_in_nI hj hn) rfl rfl hd fun H1 e z oq => ?_
  refine kk H1 _ ls (hH.write ?_ z oq) (hS.put z oq (Nat.le_add_right _ _)) hL
  show H1[ad (g_b G) i]? = some (vp_cell _ _)
  rw [e, hx, vp_cell_i, vp_cell_i, arrV_store, nI_clamp (Nat.lt_trans hj hn)]
  congr 2
  funext q
  by_cases hq : q = j
  · subst hq
    simp [updV, upd]
  · simp [updV, upd, hq]
theorem e_zast (X : Cx k G own cc nL R) {i n j : Nat} {f : Nat → Int32} {x : Int32} (hd : decode cc pc = .ok (.bastore, 1)) (hc : h i = cZ G n f) (hi : i < N) (hj : j < n) (hn : n < 2 ^ 31) (hx : narrow .boolean (.int x) = .int x) (kk : Ev k G nL N cells slots (hup h i (cZ G n (upd f j x))) (pc + 1) L st) : Ev k G nL N cells slots h pc L (.int x :: .int (nI j) :: .ref (ad (g_b G) i) :: st) := by
  intro H locs ls hH hS hL
  have hat : va_at (g_D G) vwCl (ad (g_b G) i, .inl (g_Z G, n, .inl f)) H := hH.at hi hc
  refine W.zast X.1 X.2.1 hat ((X.tb.K.2 2 _ rfl).1 n (fun j => .int (f j))) (fun q => by cases q) (by show ¬ (nI j < 0 ∨ (arrV _ _ _).slots.size ≤ _); rw [arrV_size]; exact vp_in_nI hj hn) rfl rfl hd fun H1 e z oq => ?_
  refine kk H1 _ ls (hH.write ?_ z oq) (hS.put z oq (Nat.le_add_right _ _)) hL
  show H1[ad (g_b G) i]? = some (vp_cell _ _)
  rw [e, hx, vp_cell_i, vp_cell_i, arrV_store, nI_clamp (Nat.lt_trans hj hn)]
  congr 2
  funext q
  by_cases hq : q = j
  · subst hq
    simp [updV, upd]
  · simp [updV, upd, hq]
/-- returns -/
theorem e_ireturn (X : Cx k G own cc nL R) {ty : FieldType} {v : Int32} {post : Option Value → (Nat → va_E) → Prop} (hQ : Rt k G (some ty) N cells slots post) (hd : decode cc pc = .ok (.ireturn, 1)) (hn : narrow ty (.int v) = .int v) (hp : post (some (.int v)) h) : Ev k G nL N cells slots h pc L [.int v] := by
  intro H locs ls hH hS hL
  rw [hQ.1]
  exact W.zret X.1 X.2.1 hQ.2.1 hn (fun t ht hW => ⟨⟨some (.int v), h, rfl, hp, by rw [ht]; exact hH⟩, hS.F ht⟩) hS.2.2 hd hQ.2.2
theorem e_areturn (X : Cx k G own cc nL R) {C : String} {a : Nat} {post : Option Value → (Nat → va_E) → Prop} (hQ : Rt k G (some (.object C)) N cells slots post) (hd : decode cc pc = .ok (.areturn, 1)) (hp : post (some (.ref a)) h) : Ev k G nL N cells slots h pc L [.ref a] := by
  intro H locs ls hH hS hL
  rw [hQ.1]
  exact W.aret X.1 X.2.1 hQ.2.1 (Or.inl ⟨C, rfl⟩) (Or.inr ⟨a, rfl⟩) (fun t ht hW => ⟨⟨some (.ref a), h, rfl, hp, by rw [ht]; exact hH⟩, hS.F ht⟩) hS.2.2 hd hQ.2.2
theorem e_return (X : Cx k G own cc nL R) {post : Option Value → (Nat → va_E) → Prop} (hQ : Rt k G none N cells slots post) (hd : decode cc pc = .ok (.return_, 1)) (hp : post none h) : Ev k G nL N cells slots h pc L [] := by
  intro H locs ls hH hS hL
  rw [hQ.1]
  exact W.vret X.1 X.2.1 hQ.2.1 (fun t ht hW => ⟨⟨none, h, rfl, hp, by rw [ht]; exact hH⟩, hS.F ht⟩) hS.2.2 hd hQ.2.2
end EF
end
section
/-! calls -/
/-- own's pool number idx is the method y, of n parameters; its code is known -/
def CS (own : String) (idx : Nat) (y : MethodName) (cy : ByteArray) (mL : Nat) (ret : Option FieldType) (n : Nat) : Prop :=
  Cond.code y cy mL ret ∈ lw_tbl ∧ Cond.initialized y.cls ∈ lw_tbl ∧ (y.cls ≠ "java/lang/invoke/MethodHandle" ∧ y.cls ≠ "java/lang/invoke/VarHandle") ∧ (parseMethodDescriptor y.desc).map (fun d => d.parameters.length) = some n ∧ Cond.methodLink own idx y ∈ lw_tbl
theorem gw_code {y : MethodName} {c : ByteArray} {m : Nat} {r : Option FieldType} : goodWord (.code y c m r) = true := rfl
theorem gw_init {C : String} : goodWord (.initialized C) = true := rfl
theorem gw_link {o : String} {i : Nat} {y : MethodName} : goodWord (.methodLink o i y) = true := rfl
theorem gw_static {y : MethodName} : goodWord (.static y) = true := rfl
theorem gw_inst {y : MethodName} : goodWord (.instanceMethod y) = true := rfl
theorem gw_sel {C : String} {x y : MethodName} : goodWord (.selects C x y) = true := rfl
theorem gw_cl {o : String} {i : Nat} {C : String} : goodWord (.classLink o i C) = true := rfl
theorem gw_able {C : String} {n : Nat} : goodWord (.instantiable C n) = true := rfl
theorem gw_fl {o : String} {i : Nat} {C n d : String} : goodWord (.fieldLink o i C n d) = true := rfl
theorem gw_const {o : String} {i : Nat} {v : Int32} : goodWord (.constant o i v) = true := rfl
theorem gw_native {y : MethodName} : goodWord (.native y) = true := rfl
theorem cs_w {G : lx_G} {s : State} (hT : Tb G s) {y : MethodName} {cy : ByteArray} {mL : Nat} {ret : Option FieldType} (h : Cond.code y cy mL ret ∈ lw_tbl) : ∀ w ∈ [Cond.code y cy mL ret], ∀ (a' : Array Value) (U : State), s.WarmedH U.vm → w.before a' U = true := by
  intro w hw
  rw [List.mem_singleton.mp hw]
  exact hT.later h gw_code
theorem cs_n {y : MethodName} {n : Nat} (h : (parseMethodDescriptor y.desc).map (fun d => d.parameters.length) = some n) : ∀ sig, parseMethodDescriptor y.desc = some sig → n = sig.parameters.length := by
  intro sig hs
  rw [hs] at h
  exact (Option.some.inj h).symm
theorem cs_B {G : lx_G} {s : State} (hT : Tb G s) {R rm : Room} {args : Array Value} {own : String} {idx : Nat} {y : MethodName} {cy : ByteArray} {mL : Nat} {ret : Option FieldType} {n : Nat} (h : CS own idx y cy mL ret n) (hR : rm.frames + 1 ≤ R.frames ∧ 8 + (mL + 11) + rm.locals ≤ R.locals) : CallB R s args own idx y cy mL ret [Cond.code y cy mL ret] rm rm.cells rm.slots n :=
  ⟨rfl, rfl, hR.1, hR.2, cs_w hT h.1, List.mem_singleton.mpr rfl, hT.word h.1 gw_code _, hT.word h.2.1 gw_init _, h.2.2.1, cs_n h.2.2.2.1, hT.word h.2.2.2.2 gw_link _⟩
section EC
variable {k : lx_K} {G : lx_G} {own : String} {cc : ByteArray} {nL N cells slots pc : Nat} {R : Room} {h : Nat → va_E} {L : List (Option Value)} {st : List Value}
theorem run_after {N' mc ms : Nat} {H : Heap} {locs : List Loc} {ls : Array Slot} {st0 rest : List Value} {a : Array Value} {post : Option Value → (Nat → va_E) → Prop}
    (hr : va_Run (k_p k) (k_l k) (k_e k) (k_R k) (k_s k) (k_m k) (k_a k) (k_b k) (k_M k) (k_c k) H locs cells slots mc ms (F0 (k_m k) pc ls st0) rest (cq G N' post a) (fun q => g_b G ≤ q)) (hS : va_S (fun q => g_b G ≤ q) (k_s k).heap H locs) (hL : LR ls nL L)
    (kk : ∀ (v : Option Value) (h' : Nat → va_E), post v h' → Ev k G nL N' (cells + mc) (slots + ms) h' (pc + 3) L (v.toList ++ rest)) : W (k_p k) (k_l k) (k_e k) (k_R k) (k_s k) (k_m k) (k_a k) (k_b k) (k_M k) (k_c k) H locs cells slots (k_Q k) (F0 (k_m k) pc ls st0) := by
  intro T hT X
  obtain ⟨v, st₀, t, T', Lc, h0, X', hLc, e1, e2, ⟨⟨v', h', hv, hp, hh⟩, hz, hk⟩, stp⟩ := hr T hT X
  cases hv
  rw [h0] at hz hk
  obtain ⟨t2, a1, b1⟩ := kk v h' hp T'.heap (locs ++ Lc) ls (by rw [e1]; exact hh)
    ⟨Nat.le_trans hS.1 (by rw [e1]; exact hz), fun q h1 h2 => by rw [e1, hk q (Nat.lt_of_lt_of_le h1 hS.1) h2]; exact hS.2.1 q h1 h2, fun q hq => by
      rcases List.mem_append.mp hq with h9 | h9
      · exact hS.2.2 q h9
      · exact hLc q h9⟩ hL T' rfl X'
  exact ⟨t2, stp t2 a1, b1⟩
theorem run5_after {N' mc ms : Nat} {H : Heap} {locs : List Loc} {ls : Array Slot} {st0 rest : List Value} {a : Array Value} {post : Option Value → (Nat → va_E) → Prop}
    (hr : va_Run5 (k_p k) (k_l k) (k_e k) (k_R k) (k_s k) (k_m k) (k_a k) (k_b k) (k_M k) (k_c k) H locs cells slots mc ms (F0 (k_m k) pc ls st0) rest (cq G N' post a) (fun q => g_b G ≤ q)) (hS : va_S (fun q => g_b G ≤ q) (k_s k).heap H locs) (hL : LR ls nL L)
    (kk : ∀ (v : Option Value) (h' : Nat → va_E), post v h' → Ev k G nL N' (cells + mc) (slots + ms) h' (pc + 5) L (v.toList ++ rest)) : W (k_p k) (k_l k) (k_e k) (k_R k) (k_s k) (k_m k) (k_a k) (k_b k) (k_M k) (k_c k) H locs cells slots (k_Q k) (F0 (k_m k) pc ls st0) := by
  intro T hT X
  obtain ⟨v, st₀, t, T', Lc, h0, X', hLc, e1, e2, ⟨⟨v', h', hv, hp, hh⟩, hz, hk⟩, stp⟩ := hr T hT X
  cases hv
  rw [h0] at hz hk
  obtain ⟨t2, a1, b1⟩ := kk v h' hp T'.heap (locs ++ Lc) ls (by rw [e1]; exact hh)
    ⟨Nat.le_trans hS.1 (by rw [e1]; exact hz), fun q h1 h2 => by rw [e1, hk q (Nat.lt_of_lt_of_le h1 hS.1) h2]; exact hS.2.1 q h1 h2, fun q hq => by
      rcases List.mem_append.mp hq with h9 | h9
      · exact hS.2.2 q h9
      · exact hLc q h9⟩ hL T' rfl X'
  exact ⟨t2, stp t2 a1, b1⟩
theorem e_callS (X : Cx k G own cc nL R) {idx mL n N' : Nat} {y : MethodName} {cy : ByteArray} {ret : Option FieldType} {rm : Room} {As rest : List Value} {post : Option Value → (Nat → va_E) → Prop} (hd : decode cc pc = .ok (.invokestatic idx, 3)) (hC : CS own idx y cy mL ret n) (hs : Cond.static y ∈ lw_tbl) (hM : Ct (k_l k) G y cy mL ret rm N N' As h post) (hst : st = As.reverse ++ rest) (hR : (rm.frames + 1 ≤ R.frames ∧ 8 + (mL + 11) + rm.locals ≤ R.locals) ∧ (cells + rm.cells ≤ R.cells ∧ slots + rm.slots ≤ R.slots) ∧ As.length = n) (hrs : (rest.map fun v => v.category).sum ≤ 8)
    (kk : ∀ (v : Option Value) (h' : Nat → va_E), post v h' → Ev k G nL N' (cells + rm.cells) (slots + rm.slots) h' (pc + 3) L (v.toList ++ rest)) : Ev k G nL N cells slots h pc L st := by
  intro H locs ls hH hS hL
  subst hst
  have hRk := X.R
  exact run_after (va_runS (Ts := []) (rest := rest) (As := As) ⟨X.1, X.2.1, X.2.2.1, X.own, fun w h9 => by cases h9⟩ hM ⟨cs_B X.tb hC (by rw [hRk]; exact hR.1), X.tb.word hs gw_static _⟩ ⟨ct_blind, fun U hU hW => ⟨rfl, by rw [hU]; exact hH, X.tb.moved hW⟩⟩ rfl hR.2.2 hL.1 rfl (lv_room hrs) hd (by rw [hRk]; exact hR.2.1)) hS hL kk
theorem e_callV (X : Cx k G own cc nL R) {idx mL n N' i ci : Nat} {y : MethodName} {cy : ByteArray} {ret : Option FieldType} {rm : Room} {As rest fs : List Value} {C : String} {T : u_T} {nf : Nat} {post : Option Value → (Nat → va_E) → Prop} (hd : decode cc pc = .ok (.invokevirtual idx, 3)) (hC : CS own idx y cy mL ret n) (hin : Cond.instanceMethod y ∈ lw_tbl ∧ Cond.selects C y y ∈ lw_tbl) (hM : Ct (k_l k) G y cy mL ret rm N N' (.ref (ad (g_b G) i) :: As) h post) (hc : h i = ob ci fs) (hi : i < N) (hcl : vwCl[ci]? = some (C, T, nf)) (hst : st = As.reverse ++ .ref (ad (g_b G) i) :: rest) (hR : (rm.frames + 1 ≤ R.frames ∧ 8 + (mL + 11) + rm.locals ≤ R.locals) ∧ (cells + rm.cells ≤ R.cells ∧ slots + rm.slots ≤ R.slots) ∧ As.length = n) (hrs : (rest.map fun v => v.category).sum ≤ 8)
    (kk : ∀ (v : Option Value) (h' : Nat → va_E), post v h' → Ev k G nL N' (cells + rm.cells) (slots + rm.slots) h' (pc + 3) L (v.toList ++ rest)) : Ev k G nL N cells slots h pc L st := by
  intro H locs ls hH hS hL
  subst hst
  have hRk := X.R
  exact run_after (va_runV (C := C) (Ts := []) (rest := rest) (As := As) ⟨X.1, X.2.1, X.2.2.1, X.own, fun w h9 => by cases h9⟩ hM ⟨cs_B X.tb hC (by rw [hRk]; exact hR.1), X.tb.word hin.1 gw_inst _, X.tb.word hin.2 gw_sel _⟩ ⟨ct_blind, va_recv X.tb.K (hH.one hi hc) (ci := ci) (q0 := 0) hcl rfl, fun U hU hW => ⟨rfl, by rw [hU]; exact hH, X.tb.moved hW⟩⟩ rfl hR.2.2 hL.1 rfl (lv_room hrs) hd (by rw [hRk]; exact hR.2.1)) hS hL kk
theorem e_callI (X : Cx k G own cc nL R) {idx mL n N' i : Nat} {y : MethodName} {cy : ByteArray} {rm : Room} {As rest : List Value} {post : Option Value → (Nat → va_E) → Prop} (hd : decode cc pc = .ok (.invokespecial idx, 3)) (hC : CS own idx y cy mL none n) (hin : Cond.instanceMethod y ∈ lw_tbl ∧ y.name = "<init>") (hM : Ct (k_l k) G y cy mL none rm N N' (.ref (ad (g_b G) i) :: As) h post) (hst : st = As.reverse ++ .ref (ad (g_b G) i) :: rest) (hR : (rm.frames + 1 ≤ R.frames ∧ 8 + (mL + 11) + rm.locals ≤ R.locals) ∧ (cells + rm.cells ≤ R.cells ∧ slots + rm.slots ≤ R.slots) ∧ As.length = n) (hrs : (rest.map fun v => v.category).sum ≤ 8)
    (kk : ∀ (v : Option Value) (h' : Nat → va_E), post v h' → Ev k G nL N' (cells + rm.cells) (slots + rm.slots) h' (pc + 3) L (v.toList ++ rest)) : Ev k G nL N cells slots h pc L st := by
  intro H locs ls hH hS hL
  subst hst
  have hRk := X.R
  exact run_after (va_runI (Ts := []) (rest := rest) (As := As) ⟨X.1, X.2.1, X.2.2.1, X.own, fun w h9 => by cases h9⟩ hM ⟨cs_B X.tb hC (by rw [hRk]; exact hR.1), hin.2, X.tb.word hin.1 gw_inst _⟩ ⟨ct_blind, fun U hU hW => ⟨rfl, by rw [hU]; exact hH, X.tb.moved hW⟩⟩ rfl hR.2.2 hL.1 rfl (lv_room hrs) hd (by rw [hRk]; exact hR.2.1)) hS hL kk
/-- own's pool number idx is the interface's method x, which on a receiver of class C selects y -/
def CF (own : String) (idx : Nat) (C : String) (x y : MethodName) (cy : ByteArray) (mL : Nat) (ret : Option FieldType) (n : Nat) : Prop :=
  Cond.code y cy mL ret ∈ lw_tbl ∧ Cond.initialized y.cls ∈ lw_tbl ∧ (x.cls ≠ "java/lang/invoke/MethodHandle" ∧ x.cls ≠ "java/lang/invoke/VarHandle") ∧ (parseMethodDescriptor x.desc).map (fun d => d.parameters.length) = some n ∧ Cond.methodLink own idx x ∈ lw_tbl ∧ Cond.selects C x y ∈ lw_tbl ∧ Cond.instanceMethod y ∈ lw_tbl ∧ (C, x, y) ∈ fwl
theorem e_callF (X : Cx k G own cc nL R) {idx cnt mL n N' i ci : Nat} {x y : MethodName} {cy : ByteArray} {ret : Option FieldType} {rm : Room} {As rest fs : List Value} {C : String} {T : u_T} {nf : Nat} {post : Option Value → (Nat → va_E) → Prop} (hd : decode cc pc = .ok (.invokeinterface idx cnt, 5)) (hC : CF own idx C x y cy mL ret n) (hM : Ct (k_l k) G y cy mL ret rm N N' (.ref (ad (g_b G) i) :: As) h post) (hc : h i = ob ci fs) (hi : i < N) (hcl : vwCl[ci]? = some (C, T, nf)) (hst : st = As.reverse ++ .ref (ad (g_b G) i) :: rest) (hR : (rm.frames + 1 ≤ R.frames ∧ 8 + (mL + 11) + rm.locals ≤ R.locals) ∧ (cells + rm.cells ≤ R.cells ∧ slots + rm.slots ≤ R.slots) ∧ As.length = n) (hrs : (rest.map fun v => v.category).sum ≤ 8)
    (kk : ∀ (v : Option Value) (h' : Nat → va_E), post v h' → Ev k G nL N' (cells + rm.cells) (slots + rm.slots) h' (pc + 5) L (v.toList ++ rest)) : Ev k G nL N cells slots h pc L st := by
  intro H locs ls hH hS hL
  subst hst
  have hRk := X.R
  obtain ⟨c1, c2, c3, c4, c5, c6, c7, c8⟩ := hC
  have hF := X.tb.2.2.1 _ c8
  have cw : va_CI (k_R k) (k_s k) (k_a k) own C idx x y cy mL ret [Cond.code y cy mL ret] rm rm.cells rm.slots n :=
    ⟨⟨rfl, rfl, by rw [hRk]; exact hR.1.1, by rw [hRk]; exact hR.1.2, cs_w X.tb c1, List.mem_singleton.mpr rfl⟩, X.tb.word c5 gw_link _, va_any rfl hF.1, va_any rfl hF.2.1, X.tb.word c6 gw_sel _, X.tb.word c7 gw_inst _, va_any rfl hF.2.2.1, va_any rfl hF.2.2.2.1, va_any rfl hF.2.2.2.2, X.tb.word c2 gw_init _, X.tb.word c1 gw_code _, c3, cs_n c4⟩
  exact run5_after (va_runF (C := C) (Ts := []) (rest := rest) (As := As) (X.tb.K.1 ci _ hcl).2 ⟨X.1, X.2.1, X.2.2.1, X.own, fun w h9 => by cases h9⟩ hM cw ⟨ct_blind, va_recv X.tb.K (hH.one hi hc) (ci := ci) (q0 := 0) hcl rfl, fun U hU hW => ⟨rfl, by rw [hU]; exact hH, X.tb.moved hW⟩⟩ rfl hR.2.2 hL.1 rfl (lv_room hrs) hd (by rw [hRk]; exact hR.2.1)) hS hL kk
theorem e_mmax (X : Cx k G own cc nL R) {idx : Nat} {x y : Int32} (hd : decode cc pc = .ok (.invokestatic idx, 3)) (hw : Cond.methodLink own idx Lib.Math.max.name ∈ lw_tbl ∧ Cond.static Lib.Math.max.name ∈ lw_tbl ∧ Cond.initialized "java/lang/Math" ∈ lw_tbl ∧ Cond.code Lib.Math.max.name Lib.Math.max.code 2 (some .int) ∈ lw_tbl) (hR : 1 ≤ R.frames ∧ (st.map fun v => v.category).sum + 13 ≤ R.locals ∧ cells ≤ R.cells ∧ slots ≤ R.slots) (kk : Ev k G nL N cells slots h (pc + 3) L (.int (if x < y then y else x) :: st)) : Ev k G nL N cells slots h pc L (.int y :: .int x :: st) := by
  intro H locs ls hH hS hL
  have hRk := X.R
  exact va_mmax X.1 X.2.1 (X.2.2.1.trans hL.1.symm) X.own (X.tb.word hw.1 gw_link _) (X.tb.word hw.2.1 gw_static _) (X.tb.word hw.2.2.1 gw_init _) (X.tb.word hw.2.2.2 gw_code _) (by rw [hRk]; exact hR.1) (by rw [hRk]; exact hR.2.1) (by rw [hRk]; exact hR.2.2.1) (by rw [hRk]; exact hR.2.2.2) hd (kk H locs ls hH hS hL)
/-- System.arraycopy between two char rows, which may be one -/
theorem e_ccopy (X : Cx k G own cc nL R) {idx i0 i1 n0 n1 sp dp n : Nat} {f g : Nat → Int32} (hd : decode cc pc = .ok (.invokestatic idx, 3)) (hw : Cond.methodLink own idx arraycopyName ∈ lw_tbl ∧ Cond.native arraycopyName ∈ lw_tbl ∧ Cond.static arraycopyName ∈ lw_tbl ∧ Cond.initialized "java/lang/System" ∈ lw_tbl) (hc0 : h i0 = cC G n0 f) (hi0 : i0 < N) (hc1 : h i1 = cC G n1 g) (hi1 : i1 < N) (hb0 : n0 < 2 ^ 31) (hb1 : n1 < 2 ^ 31) (h4 : sp + n ≤ n0) (h5 : dp + n ≤ n1) (hfit : ∀ i, i < n → fits .char (.int (f (sp + i))) = true)
    (hR : 1 ≤ R.frames ∧ (st.map fun v => v.category).sum + (nativeFrameWords "java/lang/System" "arraycopy" 5 + 11) ≤ R.locals) (kk : Ev k G nL N cells slots (hup h i1 (cC G n1 (va_cpy f g sp dp n))) (pc + 3) L st) : Ev k G nL N cells slots h pc L (.int (nI n) :: .int (nI dp) :: .ref (ad (g_b G) i1) :: .int (nI sp) :: .ref (ad (g_b G) i0) :: st) := by
  intro H locs ls hH hS hL T hT X1
  have hRk := X.R
  have hn' : n < 2 ^ 31 := by omega
  have hsp' : sp < 2 ^ 31 := by omega
  have hdp' : dp < 2 ^ 31 := by omega
  have hat0 : H[ad (g_b G) i0]? = some (vp_cell (g_C G) (n0, .inl f)) := hH.at hi0 hc0
  have hat1 : H[ad (g_b G) i1]? = some (vp_cell (g_C G) (n1, .inl g)) := hH.at hi1 hc1
  obtain ⟨-, k0, hk0, cm0, hkk0⟩ := (X.tb.K.2 0 _ rfl).1 n0 (fun j => .int (f j))
  obtain ⟨-, k1, hk1, cm1, hkk1⟩ := (X.tb.K.2 0 _ rfl).1 n1 (fun j => .int (g j))
  obtain ⟨vm', X', step⟩ := X1.arraycopy X.1 X.own (X.tb.word hw.1 gw_link _) (X.tb.word hw.2.1 gw_native _) (X.tb.word hw.2.2.1 gw_static _) (X.tb.word hw.2.2.2 gw_init _) (src := ad (g_b G) i0) (dst := ad (g_b G) i1) (cs := vp_cell (g_C G) (n0, .inl f)) (cd := vp_cell (g_C G) (n1, .inl g)) (srcPos := nI sp) (destPos := nI dp) (n := nI n) (by rw [hT]; exact hat0) (by rw [hT]; exact hat1)
    (fun _ h => by cases h) (fun _ h => by cases h) (fun h => by cases h) (fun h => by cases h) hk0 hk1 hkk0 hkk1 (by simp [refKind]) (nI_pos hsp') (nI_pos hdp') (nI_pos hn')
    (by rw [nI_toInt hsp', nI_toInt hn']; show ¬ _ > ((arrV (g_C G) n0 (fun j => .int (f j))).slots.size : Int); rw [arrV_size]; omega)
    (by rw [nI_toInt hdp', nI_toInt hn']; show ¬ _ > ((arrV (g_C G) n1 (fun j => .int (g j))).slots.size : Int); rw [arrV_size]; omega)
    (fun vm₁ _ i hi => by
      rw [nI_clamp hn'] at hi
      have e : (vp_cell (g_C G) (n0, .inl f)).slots.getD ((nI sp).toNatClampNeg + i) .null = .int (f (sp + i)) := by
        rw [nI_clamp hsp']
        show (arrV (g_C G) n0 (fun j => .int (f j))).slots.getD _ _ = _
        rw [Array.getD_eq_getD_getElem?, arrV_read _ _ (by omega)]
        rfl
      refine ⟨?_, ?_⟩
      · rw [e]
        exact hfit i hi
      · rw [e]
        exact trivial)
    (g := F0 (k_m k) pc ls (.int (nI n) :: .int (nI dp) :: .ref (ad (g_b G) i1) :: .int (nI sp) :: .ref (ad (g_b G) i0) :: st)) rfl (by rw [X.2.2.1]; exact hL.1) (rest := st) rfl (by rw [X.2.1]; exact hd) (by rw [hRk]; exact hR.1) (by rw [hRk]; show 2 * 0 + _ + _ ≤ _; omega)
  have e1 : copied (vp_cell (g_C G) (n0, .inl f)) (vp_cell (g_C G) (n1, .inl g)) (nI sp) (nI dp) (nI n) = vp_cell (g_C G) (n1, .inl (va_cpy f g sp dp n)) := by
    have h9 := va_copied (fun z => Value.int z) (g_C G) (g_C G) (n0 := n0) (n1 := n1) (sp := sp) (dp := dp) (n := n) f g h4
    show (arrV (g_C G) n1 (fun j => Value.int (g j))).storeRun (nI dp).toNatClampNeg ((arrV (g_C G) n0 (fun j => Value.int (f j))).stretch (nI sp).toNatClampNeg (nI n).toNatClampNeg) = _
    rw [nI_clamp hsp', nI_clamp hn', nI_clamp hdp']
    exact h9
  rw [e1] at X' step
  have hl : ad (g_b G) i1 < H.size := (Array.getElem?_eq_some_iff.mp hat1).1
  have hheap : ((T.setVm vm').setCell (ad (g_b G) i1) (vp_cell (g_C G) (n1, .inl (va_cpy f g sp dp n)))).heap = H.setIfInBounds (ad (g_b G) i1) (vp_cell (g_C G) (n1, .inl (va_cpy f g sp dp n))) := by rw [← hT]; rfl
  have oq : ∀ q : Nat, q ≠ ad (g_b G) i1 → (H.setIfInBounds (ad (g_b G) i1) (vp_cell (g_C G) (n1, .inl (va_cpy f g sp dp n))))[q]? = H[q]? := fun q hq => by simp [Array.getElem?_setIfInBounds, Ne.symm hq]
  obtain ⟨t, a1, b1⟩ := kk _ _ ls (hH.write (show (H.setIfInBounds (ad (g_b G) i1) _)[ad (g_b G) i1]? = some _ by simp [Array.getElem?_setIfInBounds, hl]) (by simp) oq) ⟨by simp; exact hS.1, fun q g1 g2 => by
      rw [oq q (fun e => g2 (by rw [e]; exact Nat.le_add_right _ _))]
      exact hS.2.1 q g1 g2, fun q hq => by
      rcases List.mem_append.mp hq with h9 | h9
      · exact hS.2.2 q h9
      · obtain ⟨z, -, hz⟩ := List.mem_map.mp h9
        rw [← hz]
        exact Nat.le_add_right _ _⟩ hL _ hheap X'
  exact ⟨t, step t a1, b1⟩
end EC
end
section
/-! new cells: for constructors -/
theorem ra_inj {U : State} {cA cB : ClassId} {ty : FieldType} (hp : ty = .char ∨ ty = .int ∨ ty = .boolean) (h1 : U.vm.findClass ("[" ++ ty.toString) = some cA) (h2 : va_RA U cB ty) : cA = cB := by
  rcases hp with rfl | rfl | rfl <;> exact Option.some.inj (h1.symm.trans h2)
section EN
variable {k : lx_K} {G : lx_G} {own : String} {cc : ByteArray} {nL N cells slots pc : Nat} {R : Room} {h : Nat → va_E} {L : List (Option Value)} {st : List Value}
theorem S_push {s : State} {H H1 : Heap} {locs : List Loc} {b : Nat} (hS : va_S (fun q => b ≤ q) s.heap H locs) (z : H1.size = H.size + 1) (o1 : ∀ q, q < H.size → H1[q]? = H[q]?) : va_S (fun q => b ≤ q) s.heap H1 locs :=
  ⟨Nat.le_trans hS.1 (by omega), fun x h1 h2 => (o1 x (Nat.lt_of_lt_of_le h1 hS.1)).trans (hS.2.1 x h1 h2), hS.2.2⟩
theorem e_objInit (X : Cx k G own cc nL R) {idx a : Nat} (hd : decode cc pc = .ok (.invokespecial idx, 3)) (hw : Cond.methodLink own idx Lib.objectInit ∈ lw_tbl ∧ Cond.instanceMethod Lib.objectInit ∈ lw_tbl ∧ Cond.code Lib.objectInit ⟨#[0xb1]⟩ 1 none ∈ lw_tbl) (hR : 1 ≤ R.frames ∧ (st.map fun v => v.category).sum + 12 ≤ R.locals) (kk : Ev k G nL N cells slots h (pc + 3) L st) : Ev k G nL N cells slots h pc L (.ref a :: st) := by
  intro H locs ls hH hS hL
  have hRk := X.R
  exact W.objInit X.1 X.2.1 X.own (X.tb.word hw.1 gw_link _) (X.tb.word hw.2.1 gw_inst _) (X.tb.word hw.2.2 gw_code _) rfl (by rw [X.2.2.1]; exact hL.1) rfl hd (by rw [hRk]; exact hR.1) (by rw [hRk]; show 2 * 0 + _ + 12 ≤ _; omega) (kk H locs ls hH hS hL)
theorem e_new (X : Cx k G own cc nL R) {idx ci n : Nat} {C : String} {T : u_T} {ty0 : Nat → FieldType} {fs : List Value} (hd : decode cc pc = .ok (.new idx, 3)) (hk : CK ci C T n ty0) (hw : Cond.classLink own idx C ∈ lw_tbl ∧ Cond.instantiable C n ∈ lw_tbl ∧ Cond.initialized C ∈ lw_tbl) (hfs : ∀ j, j < n → defaultValue (ty0 j) = vp_V fs j) (hR : cells + 1 ≤ R.cells ∧ slots + n ≤ R.slots)
    (kk : Ev k G nL (N + 1) (cells + 1) (slots + n) (hup h N (ob ci fs)) (pc + 3) L (.ref (ad (g_b G) N) :: st)) : Ev k G nL N cells slots h pc L st := by
  intro H locs ls hH hS hL
  have hRk := X.R
  obtain ⟨c1, c2, c3, c4, c5⟩ := hk
  have hKn := X.tb.K.1 ci _ c1
  refine W.newcK X.1 X.2.1 X.own (X.tb.word hw.1 gw_cl _) (X.tb.word hw.2.1 gw_able _) (X.tb.word hw.2.2 gw_init _) rfl hd (by rw [hRk]; exact hR.1) (by rw [hRk]; exact hR.2) hKn.2.1 (h := ad (g_b G) N) hH.1 fun H1 kC hkC e1 z1 o1 => ?_
  rw [← show H.size = ad (g_b G) N from hH.1] at z1 o1
  exact kk H1 locs ls (hH.push ⟨_, c1, (u_born ty0 (X.tb.lay c2 c3 (k_a k)) (fun w h9 => h9) hKn hkC e1 c4).to hfs⟩ z1 o1) (S_push hS z1 o1) hL
theorem e_newc (X : Cx k G own cc nL R) {n : Nat} (hd : decode cc pc = .ok (.newarray .char, 2)) (hw : Cond.arrayClass .char ∈ lw_tbl) (hn : n < 2 ^ 20) (hR : cells + 1 ≤ R.cells ∧ slots + n ≤ R.slots)
    (kk : Ev k G nL (N + 1) (cells + 1) (slots + n) (hup h N (cC G n (fun _ => 0))) (pc + 2) L (.ref (ad (g_b G) N) :: st)) : Ev k G nL N cells slots h pc L (.int (nI n) :: st) := by
  intro H locs ls hH hS hL
  have hRk := X.R
  have hb9 : n * componentBytes (newarray.typeOf .char) ≤ 536870912 := by
    have h8 : componentBytes (newarray.typeOf .char) = 2 := rfl
    rw [h8]
    omega
  have hn9 : ¬ nI n < 0 := nI_pos (by omega)
  have hc9 : (nI n).toNatClampNeg = n := nI_clamp (by omega)
  have hw9 : (Cond.arrayClass (newarray.typeOf .char)).before (k_a k) (k_s k) = true := X.tb.word (w := Cond.arrayClass .char) hw rfl _
  have hR1 : cells + 1 ≤ (k_R k).cells := by rw [hRk]; exact hR.1
  have hR2 : slots + n ≤ (k_R k).slots := by rw [hRk]; exact hR.2
  refine va_newaK (g := F0 (k_m k) pc ls (.int (nI n) :: st)) X.1 X.2.1 hw9 rfl hd rfl hn9 hc9 hb9 hR1 hR2 (h := ad (g_b G) N) hH.1 ?_
  intro H1 cA e1 z1 o1 hAr hNm
  rw [← show H.size = ad (g_b G) N from hH.1] at z1 o1
  have hcA : cA = g_C G := ra_inj (ty := newarray.typeOf .char) (Or.inl rfl) hNm (X.tb.K.2 0 (g_C G, newarray.typeOf .char) rfl).2
  subst hcA
  exact kk H1 locs ls (hH.push e1 z1 o1) (S_push hS z1 o1) hL
theorem e_newi (X : Cx k G own cc nL R) {n : Nat} (hd : decode cc pc = .ok (.newarray .int, 2)) (hw : Cond.arrayClass .int ∈ lw_tbl) (hn : n < 2 ^ 20) (hR : cells + 1 ≤ R.cells ∧ slots + n ≤ R.slots)
    (kk : Ev k G nL (N + 1) (cells + 1) (slots + n) (hup h N (cI G n (fun _ => 0))) (pc + 2) L (.ref (ad (g_b G) N) :: st)) : Ev k G nL N cells slots h pc L (.int (nI n) :: st) := by
  intro H locs ls hH hS hL
  have hRk := X.R
  have hb9 : n * componentBytes (newarray.typeOf .int) ≤ 536870912 := by
    have h8 : componentBytes (newarray.typeOf .int) = 4 := rfl
    rw [h8]
    omega
  have hn9 : ¬ nI n < 0 := nI_pos (by omega)
  have hc9 : (nI n).toNatClampNeg = n := nI_clamp (by omega)
  have hw9 : (Cond.arrayClass (newarray.typeOf .int)).before (k_a k) (k_s k) = true := X.tb.word (w := Cond.arrayClass .int) hw rfl _
  have hR1 : cells + 1 ≤ (k_R k).cells := by rw [hRk]; exact hR.1
  have hR2 : slots + n ≤ (k_R k).slots := by rw [hRk]; exact hR.2
  refine va_newaK (g := F0 (k_m k) pc ls (.int (nI n) :: st)) X.1 X.2.1 hw9 rfl hd rfl hn9 hc9 hb9 hR1 hR2 (h := ad (g_b G) N) hH.1 ?_
  intro H1 cA e1 z1 o1 hAr hNm
  rw [← show H.size = ad (g_b G) N from hH.1] at z1 o1
  have hcA : cA = g_I G := ra_inj (ty := newarray.typeOf .int) (Or.inr (Or.inl rfl)) hNm (X.tb.K.2 1 (g_I G, newarray.typeOf .int) rfl).2
  subst hcA
  exact kk H1 locs ls (hH.push e1 z1 o1) (S_push hS z1 o1) hL
theorem e_newz (X : Cx k G own cc nL R) {n : Nat} (hd : decode cc pc = .ok (.newarray .boolean, 2)) (hw : Cond.arrayClass .boolean ∈ lw_tbl) (hn : n < 2 ^ 20) (hR : cells + 1 ≤ R.cells ∧ slots + n ≤ R.slots)
    (kk : Ev k G nL (N + 1) (cells + 1) (slots + n) (hup h N (cZ G n (fun _ => 0))) (pc + 2) L (.ref (ad (g_b G) N) :: st)) : Ev k G nL N cells slots h pc L (.int (nI n) :: st) := by
  intro H locs ls hH hS hL
  have hRk := X.R
  have hb9 : n * componentBytes (newarray.typeOf .boolean) ≤ 536870912 := by
    have h8 : componentBytes (newarray.typeOf .boolean) = 1 := rfl
    rw [h8]
    omega
  have hn9 : ¬ nI n < 0 := nI_pos (by omega)
  have hc9 : (nI n).toNatClampNeg = n := nI_clamp (by omega)
  have hw9 : (Cond.arrayClass (newarray.typeOf .boolean)).before (k_a k) (k_s k) = true := X.tb.word (w := Cond.arrayClass .boolean) hw rfl _
  have hR1 : cells + 1 ≤ (k_R k).cells := by rw [hRk]; exact hR.1
  have hR2 : slots + n ≤ (k_R k).slots := by rw [hRk]; exact hR.2
  refine va_newaK (g := F0 (k_m k) pc ls (.int (nI n) :: st)) X.1 X.2.1 hw9 rfl hd rfl hn9 hc9 hb9 hR1 hR2 (h := ad (g_b G) N) hH.1 ?_
  intro H1 cA e1 z1 o1 hAr hNm
  rw [← show H.size = ad (g_b G) N from hH.1] at z1 o1
  have hcA : cA = g_Z G := ra_inj (ty := newarray.typeOf .boolean) (Or.inr (Or.inr rfl)) hNm (X.tb.K.2 2 (g_Z G, newarray.typeOf .boolean) rfl).2
  subst hcA
  exact kk H1 locs ls (hH.push e1 z1 o1) (S_push hS z1 o1) hL
theorem e_newT (X : Cx k G own cc nL R) {n idx : Nat} (hd : decode cc pc = .ok (.anewarray idx, 3)) (hw : Cond.classLink own idx nm_Text ∈ lw_tbl) (hn : n < 2 ^ 20) (hR : cells + 1 ≤ R.cells ∧ slots + n ≤ R.slots)
    (kk : Ev k G nL (N + 1) (cells + 1) (slots + n) (hup h N (cT G n (fun _ => none))) (pc + 3) L (.ref (ad (g_b G) N) :: st)) : Ev k G nL N cells slots h pc L (.int (nI n) :: st) := by
  intro H locs ls hH hS hL
  have hRk := X.R
  have hcl : (nI n).toNatClampNeg = n := nI_clamp (by omega)
  refine W.anew X.1 X.2.1 X.own (X.tb.word hw gw_cl _) (va_AO.use X.tb.2.2.2.2.1) rfl hd rfl (nI_pos (by omega)) (by rw [hcl]; omega) (by rw [hRk]; exact hR.1) (by rw [hRk, hcl]; exact hR.2) fun cA kA comp f1 f2 f3 f4 => ?_
  rw [hcl, show H.size = ad (g_b G) N from hH.1]
  generalize hH1 : H.push ({ cls := cA, slots := Array.replicate n .null, vm := .none } : Cell) = H1
  have z1 : H1.size = H.size + 1 := by rw [← hH1, Array.size_push]
  have e1 : H1[ad (g_b G) N]? = some (arrV cA n (fun _ => .null)) := by rw [← show H.size = ad (g_b G) N from hH.1, ← hH1, Array.getElem?_push_size, ← arrV_new]
  have o1 : ∀ q : Nat, q < H.size → H1[q]? = H[q]? := fun q hq => by rw [← hH1, Array.getElem?_push, if_neg (Nat.ne_of_lt hq)]
  obtain ⟨kA', comp', r1, r2, r3, r4⟩ := (X.tb.K.2 3 _ rfl).2
  have hcA : cA = g_T G := Option.some.inj (f1.symm.trans r4)
  subst hcA
  exact kk H1 locs ls (hH.push e1 z1 o1) (S_push hS z1 o1) hL
/-- an object into a row of nm_Text: of a class that may lie there -/
theorem e_tast (X : Cx k G own cc nL R) {i n j v ci : Nat} {fs : List Value} {C : String} {T : u_T} {nf : Nat} {f : Nat → Option Nat} (hd : decode cc pc = .ok (.aastore, 1)) (hc : h i = cT G n f) (hi : i < N) (hj : j < n) (hn : n < 2 ^ 31) (hv : h v = ob ci fs) (hvi : v < N) (hcl : vwCl[ci]? = some (C, T, nf)) (hasg : ∀ (comp c0 : ClassId), (k_s k).vm.findClass nm_Text = some comp → (k_s k).vm.findClass C = some c0 → (k_s k).vm.assignable c0 comp = true) (kk : Ev k G nL N cells slots (hup h i (cT G n (va_up f j (some (ad (g_b G) v))))) (pc + 1) L st) : Ev k G nL N cells slots h pc L (.ref (ad (g_b G) v) :: .int (nI j) :: .ref (ad (g_b G) i) :: st) := by
  intro H locs ls hH hS hL
  have hat : va_at (g_D G) vwCl (ad (g_b G) i, .inl (g_T G, n, .inr (.inr (.inr (.inr f))))) H := hH.at hi hc
  obtain ⟨cellV, g1, g3, g4⟩ := va_recv X.tb.K (hH.one hvi hv) (ci := ci) (q0 := 0) hcl rfl
  obtain ⟨kC, hkC, -⟩ := Vm.findClass_spec g4
  obtain ⟨kA, comp, k1, k2, k3, -⟩ := (X.tb.K.2 3 _ rfl).2
  obtain ⟨kE, hkE, -⟩ := Vm.findClass_spec k3
  have hcj : (nI j).toNatClampNeg = j := nI_clamp (Nat.lt_trans hj hn)
  refine W.aast X.1 X.2.1 hat (fun q h => by cases h) (fun h => by cases h) k1 k2 rfl hkE ⟨nI_pos (Nat.lt_trans hj hn), by show _ < (arrV _ _ _).slots.size; rw [arrV_size, hcj]; exact hj⟩ g1 (fun q h => by rw [h] at g3; cases g3) hkC (hasg _ _ k3 g4) rfl rfl hd fun H1 e z oq => ?_
  refine kk H1 _ ls (hH.write ?_ z oq) (hS.put z oq (Nat.le_add_right _ _)) hL
  show H1[ad (g_b G) i]? = some (vp_cell _ _)
  rw [e, vp_cell_q, vp_cell_q, arrV_store, hcj]
  congr 2
  funext q
  by_cases hq : q = j
  · subst hq
    simp [updV, va_up, va_rf]
  · simp [updV, va_up, hq]
theorem e_newR (X : Cx k G own cc nL R) {n idx : Nat} (hd : decode cc pc = .ok (.anewarray idx, 3)) (hw : Cond.classLink own idx nm_Row ∈ lw_tbl) (hn : n < 2 ^ 20) (hR : cells + 1 ≤ R.cells ∧ slots + n ≤ R.slots)
    (kk : Ev k G nL (N + 1) (cells + 1) (slots + n) (hup h N (cR G n (fun _ => none))) (pc + 3) L (.ref (ad (g_b G) N) :: st)) : Ev k G nL N cells slots h pc L (.int (nI n) :: st) := by
  intro H locs ls hH hS hL
  have hRk := X.R
  have hcl : (nI n).toNatClampNeg = n := nI_clamp (by omega)
  refine W.anew X.1 X.2.1 X.own (X.tb.word hw gw_cl _) (va_AO.use X.tb.2.2.2.2.2) rfl hd rfl (nI_pos (by omega)) (by rw [hcl]; omega) (by rw [hRk]; exact hR.1) (by rw [hRk, hcl]; exact hR.2) fun cA kA comp f1 f2 f3 f4 => ?_
  rw [hcl, show H.size = ad (g_b G) N from hH.1]
  generalize hH1 : H.push ({ cls := cA, slots := Array.replicate n .null, vm := .none } : Cell) = H1
  have z1 : H1.size = H.size + 1 := by rw [← hH1, Array.size_push]
  have e1 : H1[ad (g_b G) N]? = some (arrV cA n (fun _ => .null)) := by rw [← show H.size = ad (g_b G) N from hH.1, ← hH1, Array.getElem?_push_size, ← arrV_new]
  have o1 : ∀ q : Nat, q < H.size → H1[q]? = H[q]? := fun q hq => by rw [← hH1, Array.getElem?_push, if_neg (Nat.ne_of_lt hq)]
  obtain ⟨kA', comp', r1, r2, r3, r4⟩ := (X.tb.K.2 4 _ rfl).2
  have hcA : cA = g_R G := Option.some.inj (f1.symm.trans r4)
  subst hcA
  exact kk H1 locs ls (hH.push e1 z1 o1) (S_push hS z1 o1) hL
/-- an object into a row of nm_Row: of a class that may lie there -/
theorem e_rast (X : Cx k G own cc nL R) {i n j v ci : Nat} {fs : List Value} {C : String} {T : u_T} {nf : Nat} {f : Nat → Option Nat} (hd : decode cc pc = .ok (.aastore, 1)) (hc : h i = cR G n f) (hi : i < N) (hj : j < n) (hn : n < 2 ^ 31) (hv : h v = ob ci fs) (hvi : v < N) (hcl : vwCl[ci]? = some (C, T, nf)) (hasg : ∀ (comp c0 : ClassId), (k_s k).vm.findClass nm_Row = some comp → (k_s k).vm.findClass C = some c0 → (k_s k).vm.assignable c0 comp = true) (kk : Ev k G nL N cells slots (hup h i (cR G n (va_up f j (some (ad (g_b G) v))))) (pc + 1) L st) : Ev k G nL N cells slots h pc L (.ref (ad (g_b G) v) :: .int (nI j) :: .ref (ad (g_b G) i) :: st) := by
  intro H locs ls hH hS hL
  have hat : va_at (g_D G) vwCl (ad (g_b G) i, .inl (g_R G, n, .inr (.inr (.inr (.inr f))))) H := hH.at hi hc
  obtain ⟨cellV, g1, g3, g4⟩ := va_recv X.tb.K (hH.one hvi hv) (ci := ci) (q0 := 0) hcl rfl
  obtain ⟨kC, hkC, -⟩ := Vm.findClass_spec g4
  obtain ⟨kA, comp, k1, k2, k3, -⟩ := (X.tb.K.2 4 _ rfl).2
  obtain ⟨kE, hkE, -⟩ := Vm.findClass_spec k3
  have hcj : (nI j).toNatClampNeg = j := nI_clamp (Nat.lt_trans hj hn)
  refine W.aast X.1 X.2.1 hat (fun q h => by cases h) (fun h => by cases h) k1 k2 rfl hkE ⟨nI_pos (Nat.lt_trans hj hn), by show _ < (arrV _ _ _).slots.size; rw [arrV_size, hcj]; exact hj⟩ g1 (fun q h => by rw [h] at g3; cases g3) hkC (hasg _ _ k3 g4) rfl rfl hd fun H1 e z oq => ?_
  refine kk H1 _ ls (hH.write ?_ z oq) (hS.put z oq (Nat.le_add_right _ _)) hL
  show H1[ad (g_b G) i]? = some (vp_cell _ _)
  rw [e, vp_cell_q, vp_cell_q, arrV_store, hcj]
  congr 2
  funext q
  by_cases hq : q = j
  · subst hq
    simp [updV, va_up, va_rf]
  · simp [updV, va_up, hq]
end EN
end
section
/-! ints by their numbers -/
def iI (z : Int) : Int32 := Int32.ofInt z
theorem iI_add (a b : Int) : iI a + iI b = iI (a + b) := (Int32.ofInt_add a b).symm
theorem iI_sub (a b : Int) : iI a - iI b = iI (a - b) := (Int32.ofInt_sub a b).symm
theorem iI_mul (a b : Int) : iI a * iI b = iI (a * b) := (Int32.ofInt_mul a b).symm
theorem iI_toInt {z : Int} (h : -2147483648 ≤ z ∧ z < 2147483648) : (iI z).toInt = z := Int32.toInt_ofInt_of_le (by simpa using h.1) (by simpa using h.2)
theorem iI_of (x : Int32) : x = iI x.toInt := (Int32.ofInt_toInt x).symm
theorem iI_rg (x : Int32) : -2147483648 ≤ x.toInt ∧ x.toInt < 2147483648 := ⟨by simpa using x.minValue_le_toInt, by have := x.toInt_lt; simpa using this⟩
theorem iI_clamp {z : Int} {n : Nat} (h : z = (n : Int)) (hn : n < 2147483648) : (iI z).toNatClampNeg = n := by
  subst h
  show (iI (n : Int)).toInt.toNat = n
  rw [iI_toInt (by omega)]
  omega
theorem iI_lt {a b : Int} (ha : -2147483648 ≤ a ∧ a < 2147483648) (hb : -2147483648 ≤ b ∧ b < 2147483648) : iI a < iI b ↔ a < b := by
  rw [Int32.lt_iff_toInt_lt, iI_toInt ha, iI_toInt hb]
theorem iI_le {a b : Int} (ha : -2147483648 ≤ a ∧ a < 2147483648) (hb : -2147483648 ≤ b ∧ b < 2147483648) : iI a ≤ iI b ↔ a ≤ b := by
  rw [Int32.le_iff_toInt_le, iI_toInt ha, iI_toInt hb]
theorem iI_eq {a b : Int} (ha : -2147483648 ≤ a ∧ a < 2147483648) (hb : -2147483648 ≤ b ∧ b < 2147483648) : iI a = iI b ↔ a = b := by
  constructor
  · intro h
    have := congrArg Int32.toInt h
    rwa [iI_toInt ha, iI_toInt hb] at this
  · intro h
    rw [h]
theorem iI_0 : (0 : Int32) = iI 0 := by decide
theorem iI_nI (n : Nat) : nI n = iI (n : Int) := by
  unfold nI iI
  first | rfl | exact (Int32.ofInt_natCast n).symm | simp
theorem iI_in {z : Int} {n j : Nat} (h : z = (j : Int)) (hj : j < n) (hn : n < 2147483648) : vp_in (iI z) n := by
  subst h
  rw [← iI_nI]
  exact vp_in_nI hj hn
theorem iI_char {z : Int} (h : 0 ≤ z ∧ z < 65536) : narrow .char (.int (iI z)) = .int (iI z) ∧ fits .char (.int (iI z)) = true := by
  obtain ⟨n, rfl⟩ : ∃ n : Nat, z = (n : Int) := ⟨z.toNat, by omega⟩
  rw [← iI_nI]
  exact pk_charN (by omega)
theorem iI_i2c {z : Int} (h : 0 ≤ z ∧ z < 65536) : ((iI z).toUInt32 % 65536).toInt32 = iI z := by
  obtain ⟨n, rfl⟩ : ∃ n : Nat, z = (n : Int) := ⟨z.toNat, by omega⟩
  rw [← iI_nI, pk_char, pk_tn (by omega), Nat.mod_eq_of_lt (by omega)]
theorem iI_rem {a b : Int} (ha : 0 ≤ a ∧ a < 2147483648) (hb : 0 < b ∧ b < 2147483648) : iI a - iI a / iI b * iI b = iI (a % b) := by
  obtain ⟨m, rfl⟩ : ∃ n : Nat, a = (n : Int) := ⟨a.toNat, by omega⟩
  obtain ⟨n, rfl⟩ : ∃ n : Nat, b = (n : Int) := ⟨b.toNat, by omega⟩
  rw [← iI_nI, ← iI_nI, pk_rem (by omega) (by omega) (by omega), iI_nI]
  rfl
def zup (u : Nat → Int) (j : Nat) (z : Int) : Nat → Int := fun q => if q = j then z else u q
theorem zup_eq (u : Nat → Int) (j : Nat) (z : Int) : zup u j z j = z := if_pos rfl
theorem zup_ne {u : Nat → Int} {j q : Nat} {z : Int} (h : q ≠ j) : zup u j z q = u q := if_neg h
theorem upd_z (u : Nat → Int) (j : Nat) (z : Int) : upd (fun q => iI (u q)) j (iI z) = fun q => iI (zup u j z q) := by
  funext q
  by_cases h : q = j
  · simp [upd, zup, h]
  · simp [upd, zup, h]
def zcp (u v : Nat → Int) (sp dp n : Nat) : Nat → Int := va_cpy u v sp dp n
theorem cpy_z (u v : Nat → Int) (sp dp n : Nat) : va_cpy (fun q => iI (u q)) (fun q => iI (v q)) sp dp n = fun q => iI (zcp u v sp dp n q) := by
  funext q
  by_cases h : dp ≤ q ∧ q < dp + n
  · simp [zcp, va_cpy, h]
  · simp [zcp, va_cpy, h]
/-- rows of ints, by their numbers -/
def rC (G : lx_G) (n : Nat) (u : Nat → Int) : va_E := cC G n (fun q => iI (u q))
def rI (G : lx_G) (n : Nat) (u : Nat → Int) : va_E := cI G n (fun q => iI (u q))
def rZ (G : lx_G) (n : Nat) (u : Nat → Int) : va_E := cZ G n (fun q => iI (u q))
/-- a field's or a local's int -/
abbrev vI (z : Int) : Value := .int (iI z)
section EZ
variable {k : lx_K} {G : lx_G} {own : String} {cc : ByteArray} {nL N cells slots pc : Nat} {R : Room} {h : Nat → va_E} {L : List (Option Value)} {st : List Value}
theorem z_iconst (X : Cx k G own cc nL R) {n : Int} (hd : decode cc pc = .ok (.iconst n, 1)) (kk : Ev k G nL N cells slots h (pc + 1) L (vI n :: st)) : Ev k G nL N cells slots h pc L st := e_iconst X hd rfl kk
theorem z_bipush (X : Cx k G own cc nL R) {n : Int} (hd : decode cc pc = .ok (.bipush n, 2)) (hn : (Int8.ofInt n).toInt32 = iI n) (kk : Ev k G nL N cells slots h (pc + 2) L (vI n :: st)) : Ev k G nL N cells slots h pc L st := e_bipush X hd hn kk
theorem z_sipush (X : Cx k G own cc nL R) {n : Int} (hd : decode cc pc = .ok (.sipush n, 3)) (hn : (Int16.ofInt n).toInt32 = iI n) (kk : Ev k G nL N cells slots h (pc + 3) L (vI n :: st)) : Ev k G nL N cells slots h pc L st := e_sipush X hd hn kk
theorem z_ldc (X : Cx k G own cc nL R) {index : Nat} {n : Int} {v : Int32} (hd : decode cc pc = .ok (.ldc index, 2)) (hw : Cond.constant own index v ∈ lw_tbl) (hn : v = iI n) (kk : Ev k G nL N cells slots h (pc + 2) L (vI n :: st)) : Ev k G nL N cells slots h pc L st := e_ldc X hd hw gw_const (hn ▸ kk)
theorem z_iload_n (X : Cx k G own cc nL R) {j : Fin 4} {z : Int} (hd : decode cc pc = .ok (.iload_n j, 1)) (hl : L[(j : Nat)]? = some (some (vI z))) (kk : Ev k G nL N cells slots h (pc + 1) L (vI z :: st)) : Ev k G nL N cells slots h pc L st := e_iload_n X hd hl kk
theorem z_iload (X : Cx k G own cc nL R) {j : Nat} {z : Int} (hd : decode cc pc = .ok (.iload j, 2)) (hl : L[j]? = some (some (vI z))) (kk : Ev k G nL N cells slots h (pc + 2) L (vI z :: st)) : Ev k G nL N cells slots h pc L st := e_iload X hd hl kk
theorem z_iinc (X : Cx k G own cc nL R) {j : Nat} {n z : Int} (hd : decode cc pc = .ok (.iinc j n, 3)) (hl : L[j]? = some (some (vI z))) (hj : j < nL) (kk : Ev k G nL N cells slots h (pc + 3) (L.set j (some (vI (z + n)))) st) : Ev k G nL N cells slots h pc L st := e_iinc X hd hl (iI_add z n) hj kk
theorem z_iadd (X : Cx k G own cc nL R) {a b : Int} (hd : decode cc pc = .ok (.iadd, 1)) (kk : Ev k G nL N cells slots h (pc + 1) L (vI (a + b) :: st)) : Ev k G nL N cells slots h pc L (vI b :: vI a :: st) := e_iadd X hd (e_top (iI_add a b) kk)
theorem z_isub (X : Cx k G own cc nL R) {a b : Int} (hd : decode cc pc = .ok (.isub, 1)) (kk : Ev k G nL N cells slots h (pc + 1) L (vI (a - b) :: st)) : Ev k G nL N cells slots h pc L (vI b :: vI a :: st) := e_isub X hd (e_top (iI_sub a b) kk)
theorem z_imul (X : Cx k G own cc nL R) {a b : Int} (hd : decode cc pc = .ok (.imul, 1)) (kk : Ev k G nL N cells slots h (pc + 1) L (vI (a * b) :: st)) : Ev k G nL N cells slots h pc L (vI b :: vI a :: st) := e_imul X hd (e_top (iI_mul a b) kk)
theorem z_irem (X : Cx k G own cc nL R) {a b : Int} (hd : decode cc pc = .ok (.irem, 1)) (ha : 0 ≤ a ∧ a < 2147483648) (hb : 0 < b ∧ b < 2147483648) (kk : Ev k G nL N cells slots h (pc + 1) L (vI (a % b) :: st)) : Ev k G nL N cells slots h pc L (vI b :: vI a :: st) := e_irem X hd (fun q => by rw [iI_0] at q; have := (iI_eq (by omega) (by omega)).mp q; omega) (e_top (iI_rem ha hb) kk)
theorem z_i2c (X : Cx k G own cc nL R) {z : Int} (hd : decode cc pc = .ok (.i2c, 1)) (hz : 0 ≤ z ∧ z < 65536) (kk : Ev k G nL N cells slots h (pc + 1) L (vI z :: st)) : Ev k G nL N cells slots h pc L (vI z :: st) := e_i2c X hd (iI_i2c hz) kk
theorem z_top {a b : Int} (hv : a = b) (kk : Ev k G nL N cells slots h pc L (vI b :: st)) : Ev k G nL N cells slots h pc L (vI a :: st) := hv ▸ kk
theorem z_if_eq (X : Cx k G own cc nL R) {a : Int} {off : Int} {tgt : Nat} (hd : decode cc pc = .ok (.ifCond .eq off, 3)) (ht : (pc : Int) + off = (tgt : Int)) (hr : (-2147483648 ≤ a ∧ a < 2147483648)) (kt : a = 0 → Ev k G nL N cells slots h tgt L st) (kf : ¬ a = 0 → Ev k G nL N cells slots h (pc + 3) L st) : Ev k G nL N cells slots h pc L (vI a :: st) := e_if_eq X hd ht (fun c9 => kt (by rw [iI_0] at c9; exact (iI_eq hr (by decide)).mp c9)) (fun c9 => kf (fun q => c9 (by rw [iI_0]; exact (iI_eq hr (by decide)).mpr q)))
theorem z_icmp_eq (X : Cx k G own cc nL R) {a b : Int} {off : Int} {tgt : Nat} (hd : decode cc pc = .ok (.if_icmp .eq off, 3)) (ht : (pc : Int) + off = (tgt : Int)) (hr : (-2147483648 ≤ a ∧ a < 2147483648) ∧ (-2147483648 ≤ b ∧ b < 2147483648)) (kt : a = b → Ev k G nL N cells slots h tgt L st) (kf : ¬ a = b → Ev k G nL N cells slots h (pc + 3) L st) : Ev k G nL N cells slots h pc L (vI b :: vI a :: st) := e_icmp_eq X hd ht (fun c9 => kt (by exact (iI_eq hr.1 hr.2).mp c9)) (fun c9 => kf (fun q => c9 (by exact (iI_eq hr.1 hr.2).mpr q)))
theorem z_if_ne (X : Cx k G own cc nL R) {a : Int} {off : Int} {tgt : Nat} (hd : decode cc pc = .ok (.ifCond .ne off, 3)) (ht : (pc : Int) + off = (tgt : Int)) (hr : (-2147483648 ≤ a ∧ a < 2147483648)) (kt : ¬ a = 0 → Ev k G nL N cells slots h tgt L st) (kf : a = 0 → Ev k G nL N cells slots h (pc + 3) L st) : Ev k G nL N cells slots h pc L (vI a :: st) := e_if_ne X hd ht (fun c9 => kt (fun q => c9 (by rw [iI_0]; exact (iI_eq hr (by decide)).mpr q))) (fun c9 => kf (by rw [iI_0] at c9; exact (iI_eq hr (by decide)).mp c9))
theorem z_icmp_ne (X : Cx k G own cc nL R) {a b : Int} {off : Int} {tgt : Nat} (hd : decode cc pc = .ok (.if_icmp .ne off, 3)) (ht : (pc : Int) + off = (tgt : Int)) (hr : (-2147483648 ≤ a ∧ a < 2147483648) ∧ (-2147483648 ≤ b ∧ b < 2147483648)) (kt : ¬ a = b → Ev k G nL N cells slots h tgt L st) (kf : a = b → Ev k G nL N cells slots h (pc + 3) L st) : Ev k G nL N cells slots h pc L (vI b :: vI a :: st) := e_icmp_ne X hd ht (fun c9 => kt (fun q => c9 (by exact (iI_eq hr.1 hr.2).mpr q))) (fun c9 => kf (by exact (iI_eq hr.1 hr.2).mp c9))
theorem z_if_lt (X : Cx k G own cc nL R) {a : Int} {off : Int} {tgt : Nat} (hd : decode cc pc = .ok (.ifCond .lt off, 3)) (ht : (pc : Int) + off = (tgt : Int)) (hr : (-2147483648 ≤ a ∧ a < 2147483648)) (kt : a < 0 → Ev k G nL N cells slots h tgt L st) (kf : 0 ≤ a → Ev k G nL N cells slots h (pc + 3) L st) : Ev k G nL N cells slots h pc L (vI a :: st) := e_if_lt X hd ht (fun c9 => kt (by rw [iI_0] at c9; exact (iI_lt hr (by decide)).mp c9)) (fun c9 => kf (by rw [iI_0] at c9; rw [iI_lt hr (by decide)] at c9; omega))
theorem z_icmp_lt (X : Cx k G own cc nL R) {a b : Int} {off : Int} {tgt : Nat} (hd : decode cc pc = .ok (.if_icmp .lt off, 3)) (ht : (pc : Int) + off = (tgt : Int)) (hr : (-2147483648 ≤ a ∧ a < 2147483648) ∧ (-2147483648 ≤ b ∧ b < 2147483648)) (kt : a < b → Ev k G nL N cells slots h tgt L st) (kf : b ≤ a → Ev k G nL N cells slots h (pc + 3) L st) : Ev k G nL N cells slots h pc L (vI b :: vI a :: st) := e_icmp_lt X hd ht (fun c9 => kt (by exact (iI_lt hr.1 hr.2).mp c9)) (fun c9 => kf (by rw [iI_lt hr.1 hr.2] at c9; omega))
theorem z_if_ge (X : Cx k G own cc nL R) {a : Int} {off : Int} {tgt : Nat} (hd : decode cc pc = .ok (.ifCond .ge off, 3)) (ht : (pc : Int) + off = (tgt : Int)) (hr : (-2147483648 ≤ a ∧ a < 2147483648)) (kt : 0 ≤ a → Ev k G nL N cells slots h tgt L st) (kf : a < 0 → Ev k G nL N cells slots h (pc + 3) L st) : Ev k G nL N cells slots h pc L (vI a :: st) := e_if_ge X hd ht (fun c9 => kt (by rw [iI_0] at c9; exact (iI_le (by decide) hr).mp c9)) (fun c9 => kf (by rw [iI_0] at c9; rw [iI_le (by decide) hr] at c9; omega))
theorem z_icmp_ge (X : Cx k G own cc nL R) {a b : Int} {off : Int} {tgt : Nat} (hd : decode cc pc = .ok (.if_icmp .ge off, 3)) (ht : (pc : Int) + off = (tgt : Int)) (hr : (-2147483648 ≤ a ∧ a < 2147483648) ∧ (-2147483648 ≤ b ∧ b < 2147483648)) (kt : b ≤ a → Ev k G nL N cells slots h tgt L st) (kf : a < b → Ev k G nL N cells slots h (pc + 3) L st) : Ev k G nL N cells slots h pc L (vI b :: vI a :: st) := e_icmp_ge X hd ht (fun c9 => kt (by exact (iI_le hr.2 hr.1).mp c9)) (fun c9 => kf (by rw [iI_le hr.2 hr.1] at c9; omega))
theorem z_if_gt (X : Cx k G own cc nL R) {a : Int} {off : Int} {tgt : Nat} (hd : decode cc pc = .ok (.ifCond .gt off, 3)) (ht : (pc : Int) + off = (tgt : Int)) (hr : (-2147483648 ≤ a ∧ a < 2147483648)) (kt : 0 < a → Ev k G nL N cells slots h tgt L st) (kf : a ≤ 0 → Ev k G nL N cells slots h (pc + 3) L st) : Ev k G nL N cells slots h pc L (vI a :: st) := e_if_gt X hd ht (fun c9 => kt (by rw [iI_0] at c9; exact (iI_lt (by decide) hr).mp c9)) (fun c9 => kf (by rw [iI_0] at c9; rw [iI_lt (by decide) hr] at c9; omega))
theorem z_icmp_gt (X : Cx k G own cc nL R) {a b : Int} {off : Int} {tgt : Nat} (hd : decode cc pc = .ok (.if_icmp .gt off, 3)) (ht : (pc : Int) + off = (tgt : Int)) (hr : (-2147483648 ≤ a ∧ a < 2147483648) ∧ (-2147483648 ≤ b ∧ b < 2147483648)) (kt : b < a → Ev k G nL N cells slots h tgt L st) (kf : a ≤ b → Ev k G nL N cells slots h (pc + 3) L st) : Ev k G nL N cells slots h pc L (vI b :: vI a :: st) := e_icmp_gt X hd ht (fun c9 => kt (by exact (iI_lt hr.2 hr.1).mp c9)) (fun c9 => kf (by rw [iI_lt hr.2 hr.1] at c9; omega))
theorem z_if_le (X : Cx k G own cc nL R) {a : Int} {off : Int} {tgt : Nat} (hd : decode cc pc = .ok (.ifCond .le off, 3)) (ht : (pc : Int) + off = (tgt : Int)) (hr : (-2147483648 ≤ a ∧ a < 2147483648)) (kt : a ≤ 0 → Ev k G nL N cells slots h tgt L st) (kf : 0 < a → Ev k G nL N cells slots h (pc + 3) L st) : Ev k G nL N cells slots h pc L (vI a :: st) := e_if_le X hd ht (fun c9 => kt (by rw [iI_0] at c9; exact (iI_le hr (by decide)).mp c9)) (fun c9 => kf (by rw [iI_0] at c9; rw [iI_le hr (by decide)] at c9; omega))
theorem z_icmp_le (X : Cx k G own cc nL R) {a b : Int} {off : Int} {tgt : Nat} (hd : decode cc pc = .ok (.if_icmp .le off, 3)) (ht : (pc : Int) + off = (tgt : Int)) (hr : (-2147483648 ≤ a ∧ a < 2147483648) ∧ (-2147483648 ≤ b ∧ b < 2147483648)) (kt : a ≤ b → Ev k G nL N cells slots h tgt L st) (kf : b < a → Ev k G nL N cells slots h (pc + 3) L st) : Ev k G nL N cells slots h pc L (vI b :: vI a :: st) := e_icmp_le X hd ht (fun c9 => kt (by exact (iI_le hr.1 hr.2).mp c9)) (fun c9 => kf (by rw [iI_le hr.1 hr.2] at c9; omega))
theorem z_put (X : Cx k G own cc nL R) {i idx ci kf : Nat} {ty : FieldType} {fs : List Value} {v : Value} (hd : decode cc pc = .ok (.putfield idx, 3)) (hF : FL own idx ci kf false ty) (hc : h i = ob ci fs) (hi : i < N) (hl : kf < fs.length) (hn : narrow ty v = v) (hfit : fits ty v = true) (kk : ∀ h1 : Nat → va_E, h1 i = ob ci (fs.set kf v) → (∀ j, j ≠ i → h1 j = h j) → Ev k G nL N cells slots h1 (pc + 3) L st) : Ev k G nL N cells slots h pc L (v :: .ref (ad (g_b G) i) :: st) := e_put X hd hF hc hi hl hn hfit (kk _ (hup_eq _ _ _) (fun _ q => hup_ne q))
theorem z_putF (X : Cx k G own cc nL R) {i idx ci kf : Nat} {ty : FieldType} {fs : List Value} {v : Value} (hin2 : (k_M k).name = "<init>") (hd : decode cc pc = .ok (.putfield idx, 3)) (hF : FL own idx ci kf true ty) (hc : h i = ob ci fs) (hi : i < N) (hl : kf < fs.length) (hn : narrow ty v = v) (hfit : fits ty v = true) (kk : ∀ h1 : Nat → va_E, h1 i = ob ci (fs.set kf v) → (∀ j, j ≠ i → h1 j = h j) → Ev k G nL N cells slots h1 (pc + 3) L st) : Ev k G nL N cells slots h pc L (v :: .ref (ad (g_b G) i) :: st) := e_putF X hin2 hd hF hc hi hl hn hfit (kk _ (hup_eq _ _ _) (fun _ q => hup_ne q))
theorem z_iald (X : Cx k G own cc nL R) {i n j : Nat} {z : Int} {u : Nat → Int} (hd : decode cc pc = .ok (.iaload, 1)) (hc : h i = rI G n u) (hi : i < N) (hz : z = (j : Int)) (hj : j < n ∧ n < 2147483648) (kk : Ev k G nL N cells slots h (pc + 1) L (vI (u j) :: st)) : Ev k G nL N cells slots h pc L (vI z :: .ref (ad (g_b G) i) :: st) := by
  subst hz
  rw [show vI (j : Int) = Value.int (nI j) from congrArg Value.int (iI_nI j).symm]
  exact e_iald X hd (f := fun q => iI (u q)) hc hi hj.1 hj.2 kk
theorem z_cald (X : Cx k G own cc nL R) {i n j : Nat} {z : Int} {u : Nat → Int} (hd : decode cc pc = .ok (.caload, 1)) (hc : h i = rC G n u) (hi : i < N) (hz : z = (j : Int)) (hj : j < n ∧ n < 2147483648) (kk : Ev k G nL N cells slots h (pc + 1) L (vI (u j) :: st)) : Ev k G nL N cells slots h pc L (vI z :: .ref (ad (g_b G) i) :: st) := by
  subst hz
  rw [show vI (j : Int) = Value.int (nI j) from congrArg Value.int (iI_nI j).symm]
  exact e_cald X hd (f := fun q => iI (u q)) hc hi hj.1 hj.2 kk
theorem z_zald (X : Cx k G own cc nL R) {i n j : Nat} {z : Int} {u : Nat → Int} (hd : decode cc pc = .ok (.baload, 1)) (hc : h i = rZ G n u) (hi : i < N) (hz : z = (j : Int)) (hj : j < n ∧ n < 2147483648) (kk : Ev k G nL N cells slots h (pc + 1) L (vI (u j) :: st)) : Ev k G nL N cells slots h pc L (vI z :: .ref (ad (g_b G) i) :: st) := by
  subst hz
  rw [show vI (j : Int) = Value.int (nI j) from congrArg Value.int (iI_nI j).symm]
  exact e_zald X hd (f := fun q => iI (u q)) hc hi hj.1 hj.2 kk
theorem z_iast (X : Cx k G own cc nL R) {i n j : Nat} {z x : Int} {u : Nat → Int} (hd : decode cc pc = .ok (.iastore, 1)) (hc : h i = rI G n u) (hi : i < N) (hz : z = (j : Int)) (hj : j < n ∧ n < 2147483648) (kk : ∀ h1 : Nat → va_E, h1 i = rI G n (zup u j x) → (∀ q, q ≠ i → h1 q = h q) → Ev k G nL N cells slots h1 (pc + 1) L st) : Ev k G nL N cells slots h pc L (vI x :: vI z :: .ref (ad (g_b G) i) :: st) := by
  subst hz
  rw [show vI (j : Int) = Value.int (nI j) from congrArg Value.int (iI_nI j).symm]
  refine e_iast X hd (f := fun q => iI (u q)) hc hi hj.1 hj.2 (kk _ ?_ (fun _ q => hup_ne q))
  rw [hup_eq, upd_z]
  rfl
theorem z_cast (X : Cx k G own cc nL R) {i n j : Nat} {z x : Int} {u : Nat → Int} (hd : decode cc pc = .ok (.castore, 1)) (hc : h i = rC G n u) (hi : i < N) (hz : z = (j : Int)) (hj : j < n ∧ n < 2147483648) (hx : narrow .char (vI x) = vI x) (kk : ∀ h1 : Nat → va_E, h1 i = rC G n (zup u j x) → (∀ q, q ≠ i → h1 q = h q) → Ev k G nL N cells slots h1 (pc + 1) L st) : Ev k G nL N cells slots h pc L (vI x :: vI z :: .ref (ad (g_b G) i) :: st) := by
  subst hz
  rw [show vI (j : Int) = Value.int (nI j) from congrArg Value.int (iI_nI j).symm]
  refine e_cast X hd (f := fun q => iI (u q)) hc hi hj.1 hj.2 hx (kk _ ?_ (fun _ q => hup_ne q))
  rw [hup_eq, upd_z]
  rfl
theorem z_zast (X : Cx k G own cc nL R) {i n j : Nat} {z x : Int} {u : Nat → Int} (hd : decode cc pc = .ok (.bastore, 1)) (hc : h i = rZ G n u) (hi : i < N) (hz : z = (j : Int)) (hj : j < n ∧ n < 2147483648) (hx : narrow .boolean (vI x) = vI x) (kk : ∀ h1 : Nat → va_E, h1 i = rZ G n (zup u j x) → (∀ q, q ≠ i → h1 q = h q) → Ev k G nL N cells slots h1 (pc + 1) L st) : Ev k G nL N cells slots h pc L (vI x :: vI z :: .ref (ad (g_b G) i) :: st) := by
  subst hz
  rw [show vI (j : Int) = Value.int (nI j) from congrArg Value.int (iI_nI j).symm]
  refine e_zast X hd (f := fun q => iI (u q)) hc hi hj.1 hj.2 hx (kk _ ?_ (fun _ q => hup_ne q))
  rw [hup_eq, upd_z]
  rfl
theorem z_tald (X : Cx k G own cc nL R) {i n j r : Nat} {z : Int} {f : Nat → Option Nat} (hd : decode cc pc = .ok (.aaload, 1)) (hc : h i = cT G n f) (hi : i < N) (hz : z = (j : Int)) (hj : j < n ∧ n < 2147483648) (hv : f j = some (ad (g_b G) r)) (kk : Ev k G nL N cells slots h (pc + 1) L (.ref (ad (g_b G) r) :: st)) : Ev k G nL N cells slots h pc L (vI z :: .ref (ad (g_b G) i) :: st) := by
  subst hz
  rw [show vI (j : Int) = Value.int (nI j) from congrArg Value.int (iI_nI j).symm]
  exact e_tald X hd hc hi hj.1 hj.2 hv kk
theorem z_rald (X : Cx k G own cc nL R) {i n j r : Nat} {z : Int} {f : Nat → Option Nat} (hd : decode cc pc = .ok (.aaload, 1)) (hc : h i = cR G n f) (hi : i < N) (hz : z = (j : Int)) (hj : j < n ∧ n < 2147483648) (hv : f j = some (ad (g_b G) r)) (kk : Ev k G nL N cells slots h (pc + 1) L (.ref (ad (g_b G) r) :: st)) : Ev k G nL N cells slots h pc L (vI z :: .ref (ad (g_b G) i) :: st) := by
  subst hz
  rw [show vI (j : Int) = Value.int (nI j) from congrArg Value.int (iI_nI j).symm]
  exact e_rald X hd hc hi hj.1 hj.2 hv kk
theorem z_clen (X : Cx k G own cc nL R) {i n : Nat} {u : Nat → Int} (hd : decode cc pc = .ok (.arraylength, 1)) (hc : h i = rC G n u) (hi : i < N) (kk : Ev k G nL N cells slots h (pc + 1) L (vI (n : Int) :: st)) : Ev k G nL N cells slots h pc L (.ref (ad (g_b G) i) :: st) := e_clen X hd (f := fun q => iI (u q)) hc hi (by rw [iI_nI]; exact kk)
theorem z_ccopy (X : Cx k G own cc nL R) {idx i0 i1 n0 n1 sp dp n : Nat} {zs zd zn : Int} {u v : Nat → Int} (hd : decode cc pc = .ok (.invokestatic idx, 3)) (hw : Cond.methodLink own idx arraycopyName ∈ lw_tbl ∧ Cond.native arraycopyName ∈ lw_tbl ∧ Cond.static arraycopyName ∈ lw_tbl ∧ Cond.initialized "java/lang/System" ∈ lw_tbl) (hc0 : h i0 = rC G n0 u) (hi0 : i0 < N) (hc1 : h i1 = rC G n1 v) (hi1 : i1 < N) (hz : zs = (sp : Int) ∧ zd = (dp : Int) ∧ zn = (n : Int)) (hb : n0 < 2147483648 ∧ n1 < 2147483648 ∧ sp + n ≤ n0 ∧ dp + n ≤ n1) (hfit : ∀ i, i < n → 0 ≤ u (sp + i) ∧ u (sp + i) < 65536)
    (hR : 1 ≤ R.frames ∧ (st.map fun v => v.category).sum + (nativeFrameWords "java/lang/System" "arraycopy" 5 + 11) ≤ R.locals) (kk : ∀ h1 : Nat → va_E, h1 i1 = rC G n1 (zcp u v sp dp n) → (∀ q, q ≠ i1 → h1 q = h q) → Ev k G nL N cells slots h1 (pc + 3) L st) : Ev k G nL N cells slots h pc L (vI zn :: vI zd :: .ref (ad (g_b G) i1) :: vI zs :: .ref (ad (g_b G) i0) :: st) := by
  obtain ⟨rfl, rfl, rfl⟩ := hz
  rw [show vI (sp : Int) = Value.int (nI sp) from congrArg Value.int (iI_nI sp).symm, show vI (dp : Int) = Value.int (nI dp) from congrArg Value.int (iI_nI dp).symm, show vI (n : Int) = Value.int (nI n) from congrArg Value.int (iI_nI n).symm]
  refine e_ccopy X hd hw (f := fun q => iI (u q)) (g := fun q => iI (v q)) hc0 hi0 hc1 hi1 hb.1 hb.2.1 hb.2.2.1 hb.2.2.2 (fun i hi => (iI_char (hfit i hi)).2) hR (kk _ ?_ (fun _ q => hup_ne q))
  rw [hup_eq, cpy_z]
  rfl
theorem z_mmax (X : Cx k G own cc nL R) {idx : Nat} {a b : Int} (hd : decode cc pc = .ok (.invokestatic idx, 3)) (hw : Cond.methodLink own idx Lib.Math.max.name ∈ lw_tbl ∧ Cond.static Lib.Math.max.name ∈ lw_tbl ∧ Cond.initialized "java/lang/Math" ∈ lw_tbl ∧ Cond.code Lib.Math.max.name Lib.Math.max.code 2 (some .int) ∈ lw_tbl) (hR : 1 ≤ R.frames ∧ (st.map fun v => v.category).sum + 13 ≤ R.locals ∧ cells ≤ R.cells ∧ slots ≤ R.slots) (hr : (-2147483648 ≤ a ∧ a < 2147483648) ∧ (-2147483648 ≤ b ∧ b < 2147483648)) (kk : Ev k G nL N cells slots h (pc + 3) L (vI (max a b) :: st)) : Ev k G nL N cells slots h pc L (vI b :: vI a :: st) := by
  refine e_mmax X hd hw hR (e_top ?_ kk)
  by_cases hab : a < b
  · rw [if_pos ((iI_lt hr.1 hr.2).mpr hab), Int.max_eq_right (by omega)]
  · rw [if_neg (fun q => hab ((iI_lt hr.1 hr.2).mp q)), Int.max_eq_left (by omega)]
end EZ
end
section
/-! contracts by the kind of answer; a method is (name, code, locals, return type, room) -/
abbrev lx_M : Type := MethodName × ByteArray × Nat × Option FieldType × Room
abbrev m_y (M : lx_M) : MethodName := M.1
abbrev m_c (M : lx_M) : ByteArray := M.2.1
abbrev m_n (M : lx_M) : Nat := M.2.2.1
abbrev m_r (M : lx_M) : Option FieldType := M.2.2.2.1
abbrev m_R (M : lx_M) : Room := M.2.2.2.2
def pI (post : Int → (Nat → va_E) → Prop) : Option Value → (Nat → va_E) → Prop := fun v h' => ∃ z : Int, v = some (vI z) ∧ post z h'
def pV (post : (Nat → va_E) → Prop) : Option Value → (Nat → va_E) → Prop := fun v h' => v = none ∧ post h'
def pR (G : lx_G) (post : Nat → (Nat → va_E) → Prop) : Option Value → (Nat → va_E) → Prop := fun v h' => ∃ i : Nat, v = some (.ref (ad (g_b G) i)) ∧ post i h'
def CtI (l : Launch) (G : lx_G) (M : lx_M) (N : Nat) (av : List Value) (h : Nat → va_E) (post : Int → (Nat → va_E) → Prop) : Prop := Ct l G (m_y M) (m_c M) (m_n M) (m_r M) (m_R M) N N av h (pI post)
def CtV (l : Launch) (G : lx_G) (M : lx_M) (N : Nat) (av : List Value) (h : Nat → va_E) (post : (Nat → va_E) → Prop) : Prop := Ct l G (m_y M) (m_c M) (m_n M) (m_r M) (m_R M) N N av h (pV post)
def CtR (l : Launch) (G : lx_G) (M : lx_M) (N : Nat) (av : List Value) (h : Nat → va_E) (post : Nat → (Nat → va_E) → Prop) : Prop := Ct l G (m_y M) (m_c M) (m_n M) (m_r M) (m_R M) N N av h (pR G post)
/-- a constructor: N cells before, N' behind -/
def CtN (l : Launch) (G : lx_G) (M : lx_M) (N N' : Nat) (av : List Value) (h : Nat → va_E) (post : (Nat → va_E) → Prop) : Prop := Ct l G (m_y M) (m_c M) (m_n M) (m_r M) (m_R M) N N' av h (pV post)
/-- a post may be weakened -/
theorem Ct.mono {l : Launch} {G : lx_G} {y : MethodName} {cc : ByteArray} {nL : Nat} {ret : Option FieldType} {rm : Room} {N N' : Nat} {av : List Value} {h : Nat → va_E} {post post' : Option Value → (Nat → va_E) → Prop} (hC : Ct l G y cc nL ret rm N N' av h post) (hp : ∀ v h', post v h' → post' v h') : Ct l G y cc nL ret rm N N' av h post' := by
  intro p e ha hc hk s m args below hf happ hP hK
  obtain ⟨t, o, h1, h2, h3, ⟨⟨⟨v, h', e1, e2, e3⟩, e4⟩, e5⟩⟩ := hC p e ha hc hk s m args below hf happ hP hK
  exact ⟨t, o, h1, h2, h3, ⟨⟨⟨v, h', e1, hp v h' e2, e3⟩, e4⟩, e5⟩⟩
def rOKb (M : lx_M) (R : Room) (cells slots nst : Nat) : Bool := (Nat.ble ((m_R M).frames + 1) R.frames && Nat.ble (8 + (m_n M + 11) + (m_R M).locals) R.locals) && (Nat.ble (cells + (m_R M).cells) R.cells && Nat.ble (slots + (m_R M).slots) R.slots) && Nat.ble nst 8
theorem rOK_of {M : lx_M} {R : Room} {cells slots nst : Nat} (h : rOKb M R cells slots nst = true) : ((m_R M).frames + 1 ≤ R.frames ∧ 8 + (m_n M + 11) + (m_R M).locals ≤ R.locals) ∧ (cells + (m_R M).cells ≤ R.cells ∧ slots + (m_R M).slots ≤ R.slots) ∧ nst ≤ 8 := by
  simp only [rOKb, Bool.and_eq_true] at h
  obtain ⟨⟨⟨h1, h2⟩, h3, h4⟩, h5⟩ := h
  exact ⟨⟨Nat.le_of_ble_eq_true h1, Nat.le_of_ble_eq_true h2⟩, ⟨Nat.le_of_ble_eq_true h3, Nat.le_of_ble_eq_true h4⟩, Nat.le_of_ble_eq_true h5⟩
theorem cat_of {av : List Value} (h : av.all (fun v => Nat.beq v.category 1) = true) : ∀ v ∈ av, v.category = 1 := fun v hv => Nat.eq_of_beq_eq_true (List.all_eq_true.mp h v hv)
def CSM (own : String) (idx : Nat) (M : lx_M) (n : Nat) : Prop := CS own idx (m_y M) (m_c M) (m_n M) (m_r M) n
def CSS (own : String) (idx : Nat) (M : lx_M) (n : Nat) : Prop := CSM own idx M n ∧ Cond.static (m_y M) ∈ lw_tbl
def CVM (own : String) (idx : Nat) (M : lx_M) (ci n : Nat) : Prop := CSM own idx M n ∧ ∃ (C : String) (T : u_T) (nf : Nat), vwCl[ci]? = some (C, T, nf) ∧ Cond.instanceMethod (m_y M) ∈ lw_tbl ∧ Cond.selects C (m_y M) (m_y M) ∈ lw_tbl
def CIM (own : String) (idx : Nat) (M : lx_M) (n : Nat) : Prop := CSM own idx M n ∧ Cond.instanceMethod (m_y M) ∈ lw_tbl ∧ (m_y M).name = "<init>" ∧ m_r M = none
def CFM (own : String) (idx : Nat) (ci : Nat) (x : MethodName) (M : lx_M) (n : Nat) : Prop := ∃ (C : String) (T : u_T) (nf : Nat), vwCl[ci]? = some (C, T, nf) ∧ CF own idx C x (m_y M) (m_c M) (m_n M) (m_r M) n
section EK
variable {k : lx_K} {G : lx_G} {own : String} {cc : ByteArray} {nL N cells slots pc : Nat} {R : Room} {h : Nat → va_E} {L : List (Option Value)} {st : List Value}
theorem zI_of {l : Launch} {M : lx_M} {av : List Value} {post : Int → (Nat → va_E) → Prop} (hy : plainName (m_y M).cls = true) (hl : Nat.ble (lg_sl av).length (m_n M) = true) (hc : av.all (fun v => Nat.beq v.category 1) = true) (body : ∀ k : lx_K, Cx k G (m_y M).cls (m_c M) (m_n M) (m_R M) → Rt k G (m_r M) N (m_R M).cells (m_R M).slots (pI post) → Ev k G (m_n M) N 0 0 h 0 (l_in av (m_n M)) []) : CtI l G M N av h post := ct_of hy (Nat.le_of_ble_eq_true hl) (cat_of hc) (fun k X Q _ => body k X Q)
theorem zV_of {l : Launch} {M : lx_M} {av : List Value} {post : (Nat → va_E) → Prop} (hy : plainName (m_y M).cls = true) (hl : Nat.ble (lg_sl av).length (m_n M) = true) (hc : av.all (fun v => Nat.beq v.category 1) = true) (body : ∀ k : lx_K, Cx k G (m_y M).cls (m_c M) (m_n M) (m_R M) → Rt k G (m_r M) N (m_R M).cells (m_R M).slots (pV post) → Ev k G (m_n M) N 0 0 h 0 (l_in av (m_n M)) []) : CtV l G M N av h post := ct_of hy (Nat.le_of_ble_eq_true hl) (cat_of hc) (fun k X Q _ => body k X Q)
theorem zR_of {l : Launch} {M : lx_M} {av : List Value} {post : Nat → (Nat → va_E) → Prop} (hy : plainName (m_y M).cls = true) (hl : Nat.ble (lg_sl av).length (m_n M) = true) (hc : av.all (fun v => Nat.beq v.category 1) = true) (body : ∀ k : lx_K, Cx k G (m_y M).cls (m_c M) (m_n M) (m_R M) → Rt k G (m_r M) N (m_R M).cells (m_R M).slots (pR G post) → Ev k G (m_n M) N 0 0 h 0 (l_in av (m_n M)) []) : CtR l G M N av h post := ct_of hy (Nat.le_of_ble_eq_true hl) (cat_of hc) (fun k X Q _ => body k X Q)
theorem zN_of {l : Launch} {M : lx_M} {N' : Nat} {av : List Value} {post : (Nat → va_E) → Prop} (hy : plainName (m_y M).cls = true) (hl : Nat.ble (lg_sl av).length (m_n M) = true) (hc : av.all (fun v => Nat.beq v.category 1) = true) (body : ∀ k : lx_K, Cx k G (m_y M).cls (m_c M) (m_n M) (m_R M) → Rt k G (m_r M) N' (m_R M).cells (m_R M).slots (pV post) → (k_M k).name = (m_y M).name → Ev k G (m_n M) N 0 0 h 0 (l_in av (m_n M)) []) : CtN l G M N N' av h post := ct_of hy (Nat.le_of_ble_eq_true hl) (cat_of hc) body
theorem z_ireturn (X : Cx k G own cc nL R) {ty : FieldType} {z : Int} {post : Int → (Nat → va_E) → Prop} (hQ : Rt k G (some ty) N cells slots (pI post)) (hd : decode cc pc = .ok (.ireturn, 1)) (hn : narrow ty (vI z) = vI z) (hp : post z h) : Ev k G nL N cells slots h pc L [vI z] := e_ireturn X hQ hd hn ⟨z, rfl, hp⟩
theorem z_areturn (X : Cx k G own cc nL R) {C : String} {i : Nat} {post : Nat → (Nat → va_E) → Prop} (hQ : Rt k G (some (.object C)) N cells slots (pR G post)) (hd : decode cc pc = .ok (.areturn, 1)) (hp : post i h) : Ev k G nL N cells slots h pc L [.ref (ad (g_b G) i)] := e_areturn X hQ hd ⟨i, rfl, hp⟩
theorem z_return (X : Cx k G own cc nL R) {post : (Nat → va_E) → Prop} (hQ : Rt k G none N cells slots (pV post)) (hd : decode cc pc = .ok (.return_, 1)) (hp : post h) : Ev k G nL N cells slots h pc L [] := e_return X hQ hd ⟨rfl, hp⟩
theorem z_callS_I (X : Cx k G own cc nL R) {idx n : Nat} {M : lx_M} {As rest : List Value} {post : Int → (Nat → va_E) → Prop} (hd : decode cc pc = .ok (.invokestatic idx, 3)) (hC : CSS own idx M n) (hM : CtI (k_l k) G M N As h post) (hst : st = As.reverse ++ rest) (hn : As.length = n) (hz : (m_R M).cells = 0 ∧ (m_R M).slots = 0) (hR : rOKb M R cells slots (rest.map fun v => v.category).sum = true) (kk : ∀ (z : Int) (h1 : Nat → va_E), post z h1 → Ev k G nL N cells slots h1 (pc + 3) L (vI z :: rest)) : Ev k G nL N cells slots h pc L st := by
  obtain ⟨hr1, hr2, hr3⟩ := rOK_of hR
  refine e_callS X hd hC.1 hC.2 hM hst ⟨hr1, hr2, hn⟩ hr3 (fun v h1 hp => ?_)
  obtain ⟨z, rfl, hp⟩ := hp
  have K := kk z h1 hp
  rw [hz.1, hz.2]
  exact K
theorem z_callV_I (X : Cx k G own cc nL R) {idx n i ci : Nat} {M : lx_M} {As rest fs : List Value} {post : Int → (Nat → va_E) → Prop} (hd : decode cc pc = .ok (.invokevirtual idx, 3)) (hC : CVM own idx M ci n) (hM : CtI (k_l k) G M N (.ref (ad (g_b G) i) :: As) h post) (hc : h i = ob ci fs) (hi : i < N) (hst : st = As.reverse ++ .ref (ad (g_b G) i) :: rest) (hn : As.length = n) (hz : (m_R M).cells = 0 ∧ (m_R M).slots = 0) (hR : rOKb M R cells slots (rest.map fun v => v.category).sum = true) (kk : ∀ (z : Int) (h1 : Nat → va_E), post z h1 → Ev k G nL N cells slots h1 (pc + 3) L (vI z :: rest)) : Ev k G nL N cells slots h pc L st := by
  obtain ⟨hC1, C, T, nf, hC2, hC3, hC4⟩ := hC
  obtain ⟨hr1, hr2, hr3⟩ := rOK_of hR
  refine e_callV X hd hC1 ⟨hC3, hC4⟩ hM hc hi hC2 hst ⟨hr1, hr2, hn⟩ hr3 (fun v h1 hp => ?_)
  obtain ⟨z, rfl, hp⟩ := hp
  have K := kk z h1 hp
  rw [hz.1, hz.2]
  exact K
theorem z_callF_I (X : Cx k G own cc nL R) {idx cnt n i ci : Nat} {x : MethodName} {M : lx_M} {As rest fs : List Value} {post : Int → (Nat → va_E) → Prop} (hd : decode cc pc = .ok (.invokeinterface idx cnt, 5)) (hC : CFM own idx ci x M n) (hM : CtI (k_l k) G M N (.ref (ad (g_b G) i) :: As) h post) (hc : h i = ob ci fs) (hi : i < N) (hst : st = As.reverse ++ .ref (ad (g_b G) i) :: rest) (hn : As.length = n) (hz : (m_R M).cells = 0 ∧ (m_R M).slots = 0) (hR : rOKb M R cells slots (rest.map fun v => v.category).sum = true) (kk : ∀ (z : Int) (h1 : Nat → va_E), post z h1 → Ev k G nL N cells slots h1 (pc + 5) L (vI z :: rest)) : Ev k G nL N cells slots h pc L st := by
  obtain ⟨C, T, nf, hC2, hC1⟩ := hC
  obtain ⟨hr1, hr2, hr3⟩ := rOK_of hR
  refine e_callF X hd hC1 hM hc hi hC2 hst ⟨hr1, hr2, hn⟩ hr3 (fun v h1 hp => ?_)
  obtain ⟨z, rfl, hp⟩ := hp
  have K := kk z h1 hp
  rw [hz.1, hz.2]
  exact K
theorem z_callS_V (X : Cx k G own cc nL R) {idx n : Nat} {M : lx_M} {As rest : List Value} {post : (Nat → va_E) → Prop} (hd : decode cc pc = .ok (.invokestatic idx, 3)) (hC : CSS own idx M n) (hM : CtV (k_l k) G M N As h post) (hst : st = As.reverse ++ rest) (hn : As.length = n) (hz : (m_R M).cells = 0 ∧ (m_R M).slots = 0) (hR : rOKb M R cells slots (rest.map fun v => v.category).sum = true) (kk : ∀ h1 : Nat → va_E, post h1 → Ev k G nL N cells slots h1 (pc + 3) L rest) : Ev k G nL N cells slots h pc L st := by
  obtain ⟨hr1, hr2, hr3⟩ := rOK_of hR
  refine e_callS X hd hC.1 hC.2 hM hst ⟨hr1, hr2, hn⟩ hr3 (fun v h1 hp => ?_)
  obtain ⟨rfl, hp⟩ := hp
  have K := kk h1 hp
  rw [hz.1, hz.2]
  exact K
theorem z_callV_V (X : Cx k G own cc nL R) {idx n i ci : Nat} {M : lx_M} {As rest fs : List Value} {post : (Nat → va_E) → Prop} (hd : decode cc pc = .ok (.invokevirtual idx, 3)) (hC : CVM own idx M ci n) (hM : CtV (k_l k) G M N (.ref (ad (g_b G) i) :: As) h post) (hc : h i = ob ci fs) (hi : i < N) (hst : st = As.reverse ++ .ref (ad (g_b G) i) :: rest) (hn : As.length = n) (hz : (m_R M).cells = 0 ∧ (m_R M).slots = 0) (hR : rOKb M R cells slots (rest.map fun v => v.category).sum = true) (kk : ∀ h1 : Nat → va_E, post h1 → Ev k G nL N cells slots h1 (pc + 3) L rest) : Ev k G nL N cells slots h pc L st := by
  obtain ⟨hC1, C, T, nf, hC2, hC3, hC4⟩ := hC
  obtain ⟨hr1, hr2, hr3⟩ := rOK_of hR
  refine e_callV X hd hC1 ⟨hC3, hC4⟩ hM hc hi hC2 hst ⟨hr1, hr2, hn⟩ hr3 (fun v h1 hp => ?_)
  obtain ⟨rfl, hp⟩ := hp
  have K := kk h1 hp
  rw [hz.1, hz.2]
  exact K
theorem z_callF_V (X : Cx k G own cc nL R) {idx cnt n i ci : Nat} {x : MethodName} {M : lx_M} {As rest fs : List Value} {post : (Nat → va_E) → Prop} (hd : decode cc pc = .ok (.invokeinterface idx cnt, 5)) (hC : CFM own idx ci x M n) (hM : CtV (k_l k) G M N (.ref (ad (g_b G) i) :: As) h post) (hc : h i = ob ci fs) (hi : i < N) (hst : st = As.reverse ++ .ref (ad (g_b G) i) :: rest) (hn : As.length = n) (hz : (m_R M).cells = 0 ∧ (m_R M).slots = 0) (hR : rOKb M R cells slots (rest.map fun v => v.category).sum = true) (kk : ∀ h1 : Nat → va_E, post h1 → Ev k G nL N cells slots h1 (pc + 5) L rest) : Ev k G nL N cells slots h pc L st := by
  obtain ⟨C, T, nf, hC2, hC1⟩ := hC
  obtain ⟨hr1, hr2, hr3⟩ := rOK_of hR
  refine e_callF X hd hC1 hM hc hi hC2 hst ⟨hr1, hr2, hn⟩ hr3 (fun v h1 hp => ?_)
  obtain ⟨rfl, hp⟩ := hp
  have K := kk h1 hp
  rw [hz.1, hz.2]
  exact K
theorem z_callS_R (X : Cx k G own cc nL R) {idx n : Nat} {M : lx_M} {As rest : List Value} {post : Nat → (Nat → va_E) → Prop} (hd : decode cc pc = .ok (.invokestatic idx, 3)) (hC : CSS own idx M n) (hM : CtR (k_l k) G M N As h post) (hst : st = As.reverse ++ rest) (hn : As.length = n) (hz : (m_R M).cells = 0 ∧ (m_R M).slots = 0) (hR : rOKb M R cells slots (rest.map fun v => v.category).sum = true) (kk : ∀ (i : Nat) (h1 : Nat → va_E), post i h1 → Ev k G nL N cells slots h1 (pc + 3) L (.ref (ad (g_b G) i) :: rest)) : Ev k G nL N cells slots h pc L st := by
  obtain ⟨hr1, hr2, hr3⟩ := rOK_of hR
  refine e_callS X hd hC.1 hC.2 hM hst ⟨hr1, hr2, hn⟩ hr3 (fun v h1 hp => ?_)
  obtain ⟨i, rfl, hp⟩ := hp
  have K := kk i h1 hp
  rw [hz.1, hz.2]
  exact K
theorem z_callV_R (X : Cx k G own cc nL R) {idx n i ci : Nat} {M : lx_M} {As rest fs : List Value} {post : Nat → (Nat → va_E) → Prop} (hd : decode cc pc = .ok (.invokevirtual idx, 3)) (hC : CVM own idx M ci n) (hM : CtR (k_l k) G M N (.ref (ad (g_b G) i) :: As) h post) (hc : h i = ob ci fs) (hi : i < N) (hst : st = As.reverse ++ .ref (ad (g_b G) i) :: rest) (hn : As.length = n) (hz : (m_R M).cells = 0 ∧ (m_R M).slots = 0) (hR : rOKb M R cells slots (rest.map fun v => v.category).sum = true) (kk : ∀ (i : Nat) (h1 : Nat → va_E), post i h1 → Ev k G nL N cells slots h1 (pc + 3) L (.ref (ad (g_b G) i) :: rest)) : Ev k G nL N cells slots h pc L st := by
  obtain ⟨hC1, C, T, nf, hC2, hC3, hC4⟩ := hC
  obtain ⟨hr1, hr2, hr3⟩ := rOK_of hR
  refine e_callV X hd hC1 ⟨hC3, hC4⟩ hM hc hi hC2 hst ⟨hr1, hr2, hn⟩ hr3 (fun v h1 hp => ?_)
  obtain ⟨i, rfl, hp⟩ := hp
  have K := kk i h1 hp
  rw [hz.1, hz.2]
  exact K
theorem z_callF_R (X : Cx k G own cc nL R) {idx cnt n i ci : Nat} {x : MethodName} {M : lx_M} {As rest fs : List Value} {post : Nat → (Nat → va_E) → Prop} (hd : decode cc pc = .ok (.invokeinterface idx cnt, 5)) (hC : CFM own idx ci x M n) (hM : CtR (k_l k) G M N (.ref (ad (g_b G) i) :: As) h post) (hc : h i = ob ci fs) (hi : i < N) (hst : st = As.reverse ++ .ref (ad (g_b G) i) :: rest) (hn : As.length = n) (hz : (m_R M).cells = 0 ∧ (m_R M).slots = 0) (hR : rOKb M R cells slots (rest.map fun v => v.category).sum = true) (kk : ∀ (i : Nat) (h1 : Nat → va_E), post i h1 → Ev k G nL N cells slots h1 (pc + 5) L (.ref (ad (g_b G) i) :: rest)) : Ev k G nL N cells slots h pc L st := by
  obtain ⟨C, T, nf, hC2, hC1⟩ := hC
  obtain ⟨hr1, hr2, hr3⟩ := rOK_of hR
  refine e_callF X hd hC1 hM hc hi hC2 hst ⟨hr1, hr2, hn⟩ hr3 (fun v h1 hp => ?_)
  obtain ⟨i, rfl, hp⟩ := hp
  have K := kk i h1 hp
  rw [hz.1, hz.2]
  exact K
theorem z_callN (X : Cx k G own cc nL R) {idx n i N' c1 s1 : Nat} {M : lx_M} {As rest : List Value} {post : (Nat → va_E) → Prop} (hd : decode cc pc = .ok (.invokespecial idx, 3)) (hC : CIM own idx M n) (hM : CtN (k_l k) G M N N' (.ref (ad (g_b G) i) :: As) h post) (hst : st = As.reverse ++ .ref (ad (g_b G) i) :: rest) (hn : As.length = n) (hz : cells + (m_R M).cells = c1 ∧ slots + (m_R M).slots = s1) (hR : rOKb M R cells slots (rest.map fun v => v.category).sum = true) (kk : ∀ h1 : Nat → va_E, post h1 → Ev k G nL N' c1 s1 h1 (pc + 3) L rest) : Ev k G nL N cells slots h pc L st := by
  obtain ⟨hr1, hr2, hr3⟩ := rOK_of hR
  obtain ⟨hC1, hC2, hC3, hC4⟩ := hC
  have hM' : Ct (k_l k) G (m_y M) (m_c M) (m_n M) none (m_R M) N N' (.ref (ad (g_b G) i) :: As) h (pV post) := hC4 ▸ hM
  have hC1' : CS own idx (m_y M) (m_c M) (m_n M) none n := hC4 ▸ hC1
  refine e_callI X hd hC1' ⟨hC2, hC3⟩ hM' hst ⟨hr1, hr2, hn⟩ hr3 (fun v h1 hp => ?_)
  obtain ⟨rfl, hp⟩ := hp
  rw [hz.1, hz.2]
  exact kk h1 hp
end EK
end
section
abbrev m_VT_init : lx_M := (y_VT_init, b_VT_init, 3, none, rm_VT_init)
abbrev m_Gap_init : lx_M := (y_Gap_init, b_Gap_init, 2, none, rm_Gap_init)
abbrev m_Row_init : lx_M := (y_Row_init, b_Row_init, 2, none, rm_Row_init)
abbrev m_His_init : lx_M := (y_His_init, b_His_init, 2, none, rm_His_init)
abbrev m_Itm_init : lx_M := (y_Itm_init, b_Itm_init, 1, none, rm_Itm_init)
abbrev m_Clu_init : lx_M := (y_Clu_init, b_Clu_init, 1, none, rm_Clu_init)
abbrev m_Sea_init : lx_M := (y_Sea_init, b_Sea_init, 1, none, rm_Sea_init)
abbrev m_VT_type : lx_M := (y_VT_type, b_VT_type, 2, (some (.boolean)), rm_VT_type)
abbrev m_Row_append : lx_M := (y_Row_append, b_Row_append, 2, (some (.boolean)), rm_Row_append)
abbrev m_VT_scrap : lx_M := (y_VT_scrap, b_VT_scrap, 1, none, rm_VT_scrap)
abbrev m_Row_length : lx_M := (y_Row_length, b_Row_length, 1, (some (.int)), rm_Row_length)
abbrev m_Row_cut : lx_M := (y_Row_cut, b_Row_cut, 3, none, rm_Row_cut)
abbrev m_VT_insert : lx_M := (y_VT_insert, b_VT_insert, 3, (some (.boolean)), rm_VT_insert)
abbrev m_VT_canTakeClip : lx_M := (y_VT_canTakeClip, b_VT_canTakeClip, 3, (some (.boolean)), rm_VT_canTakeClip)
abbrev m_VT_canEdit : lx_M := (y_VT_canEdit, b_VT_canEdit, 3, (some (.boolean)), rm_VT_canEdit)
abbrev m_VT_isPlace : lx_M := (y_VT_isPlace, b_VT_isPlace, 2, (some (.boolean)), rm_VT_isPlace)
abbrev m_Gap_length : lx_M := (y_Gap_length, b_Gap_length, 1, (some (.int)), rm_Gap_length)
abbrev m_Itm_measure : lx_M := (y_Itm_measure, b_Itm_measure, 4, none, rm_Itm_measure)
abbrev m_Clu_restart : lx_M := (y_Clu_restart, b_Clu_restart, 1, none, rm_Clu_restart)
abbrev m_Itm_begins : lx_M := (y_Itm_begins, b_Itm_begins, 3, (some (.boolean)), rm_Itm_begins)
abbrev m_Itm_beginsLine : lx_M := (y_Itm_beginsLine, b_Itm_beginsLine, 3, (some (.boolean)), rm_Itm_beginsLine)
abbrev m_Gap_at : lx_M := (y_Gap_at, b_Gap_at, 2, (some (.int)), rm_Gap_at)
abbrev m_Row_at : lx_M := (y_Row_at, b_Row_at, 2, (some (.int)), rm_Row_at)
abbrev m_Itm_isSecondHalf : lx_M := (y_Itm_isSecondHalf, b_Itm_isSecondHalf, 2, (some (.boolean)), rm_Itm_isSecondHalf)
abbrev m_Itm_isFirst : lx_M := (y_Itm_isFirst, b_Itm_isFirst, 1, (some (.boolean)), rm_Itm_isFirst)
abbrev m_Itm_isSecond : lx_M := (y_Itm_isSecond, b_Itm_isSecond, 1, (some (.boolean)), rm_Itm_isSecond)
abbrev m_Itm_codeAt : lx_M := (y_Itm_codeAt, b_Itm_codeAt, 4, (some (.int)), rm_Itm_codeAt)
abbrev m_Clu_isCutBefore : lx_M := (y_Clu_isCutBefore, b_Clu_isCutBefore, 3, (some (.boolean)), rm_Clu_isCutBefore)
abbrev m_Clu_isJoinedTo : lx_M := (y_Clu_isJoinedTo, b_Clu_isJoinedTo, 2, (some (.boolean)), rm_Clu_isJoinedTo)
abbrev m_Clu_isMark : lx_M := (y_Clu_isMark, b_Clu_isMark, 1, (some (.boolean)), rm_Clu_isMark)
abbrev m_Clu_isPicture : lx_M := (y_Clu_isPicture, b_Clu_isPicture, 1, (some (.boolean)), rm_Clu_isPicture)
abbrev m_Clu_isFlag : lx_M := (y_Clu_isFlag, b_Clu_isFlag, 1, (some (.boolean)), rm_Clu_isFlag)
abbrev m_Itm_isInside : lx_M := (y_Itm_isInside, b_Itm_isInside, 2, (some (.boolean)), rm_Itm_isInside)
abbrev m_Itm_having : lx_M := (y_Itm_having, b_Itm_having, 3, (some (.int)), rm_Itm_having)
abbrev m_Gap_put : lx_M := (y_Gap_put, b_Gap_put, 3, none, rm_Gap_put)
abbrev m_Gap_moveGap : lx_M := (y_Gap_moveGap, b_Gap_moveGap, 3, none, rm_Gap_moveGap)
abbrev m_Row_copyInto : lx_M := (y_Row_copyInto, b_Row_copyInto, 3, none, rm_Row_copyInto)
abbrev m_Row_put : lx_M := (y_Row_put, b_Row_put, 3, none, rm_Row_put)
abbrev m_VT_clipIsTyping : lx_M := (y_VT_clipIsTyping, b_VT_clipIsTyping, 1, (some (.boolean)), rm_VT_clipIsTyping)
abbrev m_His_extendStep : lx_M := (y_His_extendStep, b_His_extendStep, 2, none, rm_His_extendStep)
abbrev m_His_latest : lx_M := (y_His_latest, b_His_latest, 1, (some (.object "VersionedText$RowText")), rm_His_latest)
abbrev m_Row_become : lx_M := (y_Row_become, b_Row_become, 3, none, rm_Row_become)
abbrev m_His_addStep : lx_M := (y_His_addStep, b_His_addStep, 2, none, rm_His_addStep)
abbrev m_VT_remove : lx_M := (y_VT_remove, b_VT_remove, 3, (some (.boolean)), rm_VT_remove)
abbrev m_Gap_cut : lx_M := (y_Gap_cut, b_Gap_cut, 3, none, rm_Gap_cut)
abbrev m_VT_addClosedStep : lx_M := (y_VT_addClosedStep, b_VT_addClosedStep, 1, none, rm_VT_addClosedStep)
abbrev m_VT_replace : lx_M := (y_VT_replace, b_VT_replace, 3, (some (.boolean)), rm_VT_replace)
abbrev m_VT_undo : lx_M := (y_VT_undo, b_VT_undo, 1, (some (.boolean)), rm_VT_undo)
abbrev m_His_undoable : lx_M := (y_His_undoable, b_His_undoable, 1, (some (.int)), rm_His_undoable)
abbrev m_His_goBack : lx_M := (y_His_goBack, b_His_goBack, 2, none, rm_His_goBack)
abbrev m_Gap_become : lx_M := (y_Gap_become, b_Gap_become, 3, none, rm_Gap_become)
abbrev m_VT_redo : lx_M := (y_VT_redo, b_VT_redo, 1, (some (.boolean)), rm_VT_redo)
abbrev m_His_redoable : lx_M := (y_His_redoable, b_His_redoable, 1, (some (.int)), rm_His_redoable)
abbrev m_His_goForward : lx_M := (y_His_goForward, b_His_goForward, 2, none, rm_His_goForward)
abbrev m_VT_steps : lx_M := (y_VT_steps, b_VT_steps, 2, (some (.int)), rm_VT_steps)
abbrev m_VT_seal : lx_M := (y_VT_seal, b_VT_seal, 1, none, rm_VT_seal)
abbrev m_VT_guard : lx_M := (y_VT_guard, b_VT_guard, 2, (some (.boolean)), rm_VT_guard)
abbrev m_VT_snapshot : lx_M := (y_VT_snapshot, b_VT_snapshot, 2, (some (.int)), rm_VT_snapshot)
abbrev m_VT_release : lx_M := (y_VT_release, b_VT_release, 2, (some (.boolean)), rm_VT_release)
abbrev m_VT_isVersion : lx_M := (y_VT_isVersion, b_VT_isVersion, 2, (some (.boolean)), rm_VT_isVersion)
abbrev m_VT_unit : lx_M := (y_VT_unit, b_VT_unit, 3, (some (.int)), rm_VT_unit)
abbrev m_VT_count : lx_M := (y_VT_count, b_VT_count, 3, (some (.int)), rm_VT_count)
abbrev m_VT_isMetric : lx_M := (y_VT_isMetric, b_VT_isMetric, 1, (some (.boolean)), rm_VT_isMetric)
abbrev m_Itm_number : lx_M := (y_Itm_number, b_Itm_number, 1, (some (.int)), rm_Itm_number)
abbrev m_VT_place : lx_M := (y_VT_place, b_VT_place, 4, (some (.int)), rm_VT_place)
abbrev m_Itm_beginningOf : lx_M := (y_Itm_beginningOf, b_Itm_beginningOf, 2, (some (.int)), rm_Itm_beginningOf)
abbrev m_VT_item : lx_M := (y_VT_item, b_VT_item, 4, (some (.int)), rm_VT_item)
abbrev m_VT_same : lx_M := (y_VT_same, b_VT_same, 3, (some (.boolean)), rm_VT_same)
abbrev m_VT_haveSameUnits : lx_M := (y_VT_haveSameUnits, b_VT_haveSameUnits, 3, (some (.boolean)), rm_VT_haveSameUnits)
abbrev m_VT_find : lx_M := (y_VT_find, b_VT_find, 3, (some (.int)), rm_VT_find)
abbrev m_Sea_takePattern : lx_M := (y_Sea_takePattern, b_Sea_takePattern, 4, (some (.boolean)), rm_Sea_takePattern)
abbrev m_Sea_firstMatch : lx_M := (y_Sea_firstMatch, b_Sea_firstMatch, 5, (some (.int)), rm_Sea_firstMatch)
abbrev m_Sea_reachFrom : lx_M := (y_Sea_reachFrom, b_Sea_reachFrom, 8, none, rm_Sea_reachFrom)
abbrev m_Sea_standsFor : lx_M := (y_Sea_standsFor, b_Sea_standsFor, 3, (some (.boolean)), rm_Sea_standsFor)
abbrev m_VT_end : lx_M := (y_VT_end, b_VT_end, 1, (some (.int)), rm_VT_end)
abbrev m_Sea_matchEnd : lx_M := (y_Sea_matchEnd, b_Sea_matchEnd, 1, (some (.int)), rm_Sea_matchEnd)
abbrev m_Law_cell : lx_M := (y_Law_cell, b_Law_cell, 2, (some (.int)), rm_Law_cell)
abbrev m_Mod_init : lx_M := (y_Mod_init, b_Mod_init, 2, none, rm_Mod_init)
abbrev m_Mod_type : lx_M := (y_Mod_type, b_Mod_type, 2, (some (.boolean)), rm_Mod_type)
abbrev m_Mod_scrap : lx_M := (y_Mod_scrap, b_Mod_scrap, 1, none, rm_Mod_scrap)
abbrev m_Mod_insert : lx_M := (y_Mod_insert, b_Mod_insert, 3, (some (.boolean)), rm_Mod_insert)
abbrev m_Mod_isPlace : lx_M := (y_Mod_isPlace, b_Mod_isPlace, 2, (some (.boolean)), rm_Mod_isPlace)
abbrev m_Mod_lets : lx_M := (y_Mod_lets, b_Mod_lets, 4, (some (.boolean)), rm_Mod_lets)
abbrev m_Mod_findItems : lx_M := (y_Mod_findItems, b_Mod_findItems, 4, none, rm_Mod_findItems)
abbrev m_Mod_begin : lx_M := (y_Mod_begin, b_Mod_begin, 2, none, rm_Mod_begin)
abbrev m_Mod_findLines : lx_M := (y_Mod_findLines, b_Mod_findLines, 6, none, rm_Mod_findLines)
abbrev m_Mod_findPoints : lx_M := (y_Mod_findPoints, b_Mod_findPoints, 7, none, rm_Mod_findPoints)
abbrev m_Mod_bound : lx_M := (y_Mod_bound, b_Mod_bound, 5, (some (.boolean)), rm_Mod_bound)
abbrev m_Mod_isMark : lx_M := (y_Mod_isMark, b_Mod_isMark, 1, (some (.boolean)), rm_Mod_isMark)
abbrev m_Mod_isPicture : lx_M := (y_Mod_isPicture, b_Mod_isPicture, 1, (some (.boolean)), rm_Mod_isPicture)
abbrev m_Mod_isFlag : lx_M := (y_Mod_isFlag, b_Mod_isFlag, 1, (some (.boolean)), rm_Mod_isFlag)
abbrev m_Mod_make : lx_M := (y_Mod_make, b_Mod_make, 6, none, rm_Mod_make)
abbrev m_Mod_show : lx_M := (y_Mod_show, b_Mod_show, 3, none, rm_Mod_show)
abbrev m_Mod_step : lx_M := (y_Mod_step, b_Mod_step, 2, none, rm_Mod_step)
abbrev m_Mod_copy : lx_M := (y_Mod_copy, b_Mod_copy, 4, none, rm_Mod_copy)
abbrev m_Mod_remove : lx_M := (y_Mod_remove, b_Mod_remove, 3, (some (.boolean)), rm_Mod_remove)
abbrev m_Mod_replace : lx_M := (y_Mod_replace, b_Mod_replace, 3, (some (.boolean)), rm_Mod_replace)
abbrev m_Mod_undo : lx_M := (y_Mod_undo, b_Mod_undo, 1, (some (.boolean)), rm_Mod_undo)
abbrev m_Mod_redo : lx_M := (y_Mod_redo, b_Mod_redo, 1, (some (.boolean)), rm_Mod_redo)
abbrev m_Mod_steps : lx_M := (y_Mod_steps, b_Mod_steps, 2, (some (.int)), rm_Mod_steps)
abbrev m_Mod_seal : lx_M := (y_Mod_seal, b_Mod_seal, 1, none, rm_Mod_seal)
abbrev m_Mod_guard : lx_M := (y_Mod_guard, b_Mod_guard, 2, (some (.boolean)), rm_Mod_guard)
abbrev m_Mod_snapshot : lx_M := (y_Mod_snapshot, b_Mod_snapshot, 2, (some (.int)), rm_Mod_snapshot)
abbrev m_Mod_release : lx_M := (y_Mod_release, b_Mod_release, 2, (some (.boolean)), rm_Mod_release)
abbrev m_Mod_unit : lx_M := (y_Mod_unit, b_Mod_unit, 4, (some (.int)), rm_Mod_unit)
abbrev m_Mod_slot : lx_M := (y_Mod_slot, b_Mod_slot, 2, (some (.int)), rm_Mod_slot)
abbrev m_Mod_count : lx_M := (y_Mod_count, b_Mod_count, 3, (some (.int)), rm_Mod_count)
abbrev m_Mod_looks : lx_M := (y_Mod_looks, b_Mod_looks, 4, (some (.boolean)), rm_Mod_looks)
abbrev m_Mod_place : lx_M := (y_Mod_place, b_Mod_place, 4, (some (.int)), rm_Mod_place)
abbrev m_Mod_item : lx_M := (y_Mod_item, b_Mod_item, 5, (some (.int)), rm_Mod_item)
abbrev m_Mod_same : lx_M := (y_Mod_same, b_Mod_same, 7, (some (.boolean)), rm_Mod_same)
abbrev m_Mod_find : lx_M := (y_Mod_find, b_Mod_find, 6, (some (.int)), rm_Mod_find)
abbrev m_Mod_isPattern : lx_M := (y_Mod_isPattern, b_Mod_isPattern, 3, (some (.boolean)), rm_Mod_isPattern)
abbrev m_Mod_match : lx_M := (y_Mod_match, b_Mod_match, 7, (some (.int)), rm_Mod_match)
abbrev m_Mod_stands : lx_M := (y_Mod_stands, b_Mod_stands, 2, (some (.boolean)), rm_Mod_stands)
abbrev m_Mod_end : lx_M := (y_Mod_end, b_Mod_end, 1, (some (.int)), rm_Mod_end)
set_option maxRecDepth 100000 in
theorem co_ck_Clu : ∀ j, j < 3 → lw_tbl[([115, 117, 119] : List Nat).getD j 0]? = some (u_lay R_Clu F_Clu j) := by decide +kernel
set_option maxRecDepth 100000 in
theorem ck_Clu : CK ci_Clu R_Clu F_Clu 3 t_Clu := ⟨rfl, fun w hw => (by obtain ⟨j, hj, rfl⟩ := List.mem_map.mp hw; exact List.mem_of_getElem? (i := ([115, 117, 119] : List Nat).getD j 0) (co_ck_Clu j (List.mem_range.mp hj))), by decide +kernel, by decide +kernel, by decide +kernel⟩
set_option maxRecDepth 100000 in
theorem co_ck_Gap : ∀ j, j < 3 → lw_tbl[([54, 56, 58] : List Nat).getD j 0]? = some (u_lay R_Gap F_Gap j) := by decide +kernel
set_option maxRecDepth 100000 in
theorem ck_Gap : CK ci_Gap R_Gap F_Gap 3 t_Gap := ⟨rfl, fun w hw => (by obtain ⟨j, hj, rfl⟩ := List.mem_map.mp hw; exact List.mem_of_getElem? (i := ([54, 56, 58] : List Nat).getD j 0) (co_ck_Gap j (List.mem_range.mp hj))), by decide +kernel, by decide +kernel, by decide +kernel⟩
set_option maxRecDepth 100000 in
theorem co_ck_His : ∀ j, j < 4 → lw_tbl[([90, 92, 94, 96] : List Nat).getD j 0]? = some (u_lay R_His F_His j) := by decide +kernel
set_option maxRecDepth 100000 in
theorem ck_His : CK ci_His R_His F_His 4 t_His := ⟨rfl, fun w hw => (by obtain ⟨j, hj, rfl⟩ := List.mem_map.mp hw; exact List.mem_of_getElem? (i := ([90, 92, 94, 96] : List Nat).getD j 0) (co_ck_His j (List.mem_range.mp hj))), by decide +kernel, by decide +kernel, by decide +kernel⟩
set_option maxRecDepth 100000 in
theorem co_ck_Itm : ∀ j, j < 5 → lw_tbl[([128, 130, 132, 134, 136] : List Nat).getD j 0]? = some (u_lay R_Itm F_Itm j) := by decide +kernel
set_option maxRecDepth 100000 in
theorem ck_Itm : CK ci_Itm R_Itm F_Itm 5 t_Itm := ⟨rfl, fun w hw => (by obtain ⟨j, hj, rfl⟩ := List.mem_map.mp hw; exact List.mem_of_getElem? (i := ([128, 130, 132, 134, 136] : List Nat).getD j 0) (co_ck_Itm j (List.mem_range.mp hj))), by decide +kernel, by decide +kernel, by decide +kernel⟩
set_option maxRecDepth 100000 in
theorem co_ck_Row : ∀ j, j < 2 → lw_tbl[([70, 72] : List Nat).getD j 0]? = some (u_lay R_Row F_Row j) := by decide +kernel
set_option maxRecDepth 100000 in
theorem ck_Row : CK ci_Row R_Row F_Row 2 t_Row := ⟨rfl, fun w hw => (by obtain ⟨j, hj, rfl⟩ := List.mem_map.mp hw; exact List.mem_of_getElem? (i := ([70, 72] : List Nat).getD j 0) (co_ck_Row j (List.mem_range.mp hj))), by decide +kernel, by decide +kernel, by decide +kernel⟩
set_option maxRecDepth 100000 in
theorem co_ck_Sea : ∀ j, j < 5 → lw_tbl[([150, 152, 154, 156, 158] : List Nat).getD j 0]? = some (u_lay R_Sea F_Sea j) := by decide +kernel
set_option maxRecDepth 100000 in
theorem ck_Sea : CK ci_Sea R_Sea F_Sea 5 t_Sea := ⟨rfl, fun w hw => (by obtain ⟨j, hj, rfl⟩ := List.mem_map.mp hw; exact List.mem_of_getElem? (i := ([150, 152, 154, 156, 158] : List Nat).getD j 0) (co_ck_Sea j (List.mem_range.mp hj))), by decide +kernel, by decide +kernel, by decide +kernel⟩
set_option maxRecDepth 100000 in
theorem co_ck_VT : ∀ j, j < 9 → lw_tbl[([170, 172, 174, 176, 178, 180, 182, 184, 186] : List Nat).getD j 0]? = some (u_lay R_VT F_VT j) := by decide +kernel
set_option maxRecDepth 100000 in
theorem ck_VT : CK ci_VT R_VT F_VT 9 t_VT := ⟨rfl, fun w hw => (by obtain ⟨j, hj, rfl⟩ := List.mem_map.mp hw; exact List.mem_of_getElem? (i := ([170, 172, 174, 176, 178, 180, 182, 184, 186] : List Nat).getD j 0) (co_ck_VT j (List.mem_range.mp hj))), by decide +kernel, by decide +kernel, by decide +kernel⟩
set_option maxRecDepth 100000 in
theorem co_ck_Mod : ∀ j, j < 18 → lw_tbl[([560, 562, 564, 566, 568, 570, 572, 574, 576, 578, 580, 582, 584, 586, 588, 590, 592, 594] : List Nat).getD j 0]? = some (u_lay R_Mod F_Mod j) := by decide +kernel
set_option maxRecDepth 100000 in
theorem ck_Mod : CK ci_Mod R_Mod F_Mod 18 t_Mod := ⟨rfl, fun w hw => (by obtain ⟨j, hj, rfl⟩ := List.mem_map.mp hw; exact List.mem_of_getElem? (i := ([560, 562, 564, 566, 568, 570, 572, 574, 576, 578, 580, 582, 584, 586, 588, 590, 592, 594] : List Nat).getD j 0) (co_ck_Mod j (List.mem_range.mp hj))), by decide +kernel, by decide +kernel, by decide +kernel⟩
set_option maxRecDepth 100000 in
theorem fl_Gap_9 : FL R_Gap 9 ci_Gap 0 true (.array .char) := ⟨_, _, _, _, ck_Gap, by decide, lw_mem 51 rfl, rfl, rfl, rfl, fun _ => rfl⟩
set_option maxRecDepth 100000 in
theorem fl_Gap_15 : FL R_Gap 15 ci_Gap 1 false (.int) := ⟨_, _, _, _, ck_Gap, by decide, lw_mem 52 rfl, rfl, rfl, rfl, fun h => nomatch h⟩
set_option maxRecDepth 100000 in
theorem fl_Gap_19 : FL R_Gap 19 ci_Gap 2 false (.int) := ⟨_, _, _, _, ck_Gap, by decide, lw_mem 53 rfl, rfl, rfl, rfl, fun h => nomatch h⟩
set_option maxRecDepth 100000 in
theorem fl_Row_9 : FL R_Row 9 ci_Row 0 true (.array .char) := ⟨_, _, _, _, ck_Row, by decide, lw_mem 68 rfl, rfl, rfl, rfl, fun _ => rfl⟩
set_option maxRecDepth 100000 in
theorem fl_Row_15 : FL R_Row 15 ci_Row 1 false (.int) := ⟨_, _, _, _, ck_Row, by decide, lw_mem 69 rfl, rfl, rfl, rfl, fun h => nomatch h⟩
set_option maxRecDepth 100000 in
theorem fl_His_13 : FL R_His 13 ci_His 0 true (.array (.object "VersionedText$RowText")) := ⟨_, _, _, _, ck_His, by decide, lw_mem 86 rfl, rfl, rfl, rfl, fun _ => rfl⟩
set_option maxRecDepth 100000 in
theorem fl_His_20 : FL R_His 20 ci_His 1 false (.int) := ⟨_, _, _, _, ck_His, by decide, lw_mem 87 rfl, rfl, rfl, rfl, fun h => nomatch h⟩
set_option maxRecDepth 100000 in
theorem fl_His_24 : FL R_His 24 ci_His 2 false (.int) := ⟨_, _, _, _, ck_His, by decide, lw_mem 88 rfl, rfl, rfl, rfl, fun h => nomatch h⟩
set_option maxRecDepth 100000 in
theorem fl_His_27 : FL R_His 27 ci_His 3 false (.int) := ⟨_, _, _, _, ck_His, by decide, lw_mem 89 rfl, rfl, rfl, rfl, fun h => nomatch h⟩
set_option maxRecDepth 100000 in
theorem fl_Clu_9 : FL R_Clu 9 ci_Clu 0 false (.int) := ⟨_, _, _, _, ck_Clu, by decide, lw_mem 112 rfl, rfl, rfl, rfl, fun h => nomatch h⟩
set_option maxRecDepth 100000 in
theorem fl_Clu_15 : FL R_Clu 15 ci_Clu 1 false (.int) := ⟨_, _, _, _, ck_Clu, by decide, lw_mem 113 rfl, rfl, rfl, rfl, fun h => nomatch h⟩
set_option maxRecDepth 100000 in
theorem fl_Clu_18 : FL R_Clu 18 ci_Clu 2 false (.int) := ⟨_, _, _, _, ck_Clu, by decide, lw_mem 114 rfl, rfl, rfl, rfl, fun h => nomatch h⟩
set_option maxRecDepth 100000 in
theorem fl_Itm_9 : FL R_Itm 9 ci_Itm 0 true (.array .int) := ⟨_, _, _, _, ck_Itm, by decide, lw_mem 123 rfl, rfl, rfl, rfl, fun _ => rfl⟩
set_option maxRecDepth 100000 in
theorem fl_Itm_18 : FL R_Itm 18 ci_Itm 1 true (.object "VersionedText$ClusterWalk") := ⟨_, _, _, _, ck_Itm, by decide, lw_mem 124 rfl, rfl, rfl, rfl, fun _ => rfl⟩
set_option maxRecDepth 100000 in
theorem fl_Itm_22 : FL R_Itm 22 ci_Itm 2 false (.int) := ⟨_, _, _, _, ck_Itm, by decide, lw_mem 125 rfl, rfl, rfl, rfl, fun h => nomatch h⟩
set_option maxRecDepth 100000 in
theorem fl_Itm_26 : FL R_Itm 26 ci_Itm 3 false (.int) := ⟨_, _, _, _, ck_Itm, by decide, lw_mem 126 rfl, rfl, rfl, rfl, fun h => nomatch h⟩
set_option maxRecDepth 100000 in
theorem fl_Itm_29 : FL R_Itm 29 ci_Itm 4 false (.int) := ⟨_, _, _, _, ck_Itm, by decide, lw_mem 127 rfl, rfl, rfl, rfl, fun h => nomatch h⟩
set_option maxRecDepth 100000 in
theorem fl_Sea_9 : FL R_Sea 9 ci_Sea 0 true (.array .int) := ⟨_, _, _, _, ck_Sea, by decide, lw_mem 145 rfl, rfl, rfl, rfl, fun _ => rfl⟩
set_option maxRecDepth 100000 in
theorem fl_Sea_15 : FL R_Sea 15 ci_Sea 1 true (.array .boolean) := ⟨_, _, _, _, ck_Sea, by decide, lw_mem 146 rfl, rfl, rfl, rfl, fun _ => rfl⟩
set_option maxRecDepth 100000 in
theorem fl_Sea_19 : FL R_Sea 19 ci_Sea 2 true (.array .int) := ⟨_, _, _, _, ck_Sea, by decide, lw_mem 147 rfl, rfl, rfl, rfl, fun _ => rfl⟩
set_option maxRecDepth 100000 in
theorem fl_Sea_22 : FL R_Sea 22 ci_Sea 3 false (.int) := ⟨_, _, _, _, ck_Sea, by decide, lw_mem 148 rfl, rfl, rfl, rfl, fun h => nomatch h⟩
set_option maxRecDepth 100000 in
theorem fl_Sea_26 : FL R_Sea 26 ci_Sea 4 false (.int) := ⟨_, _, _, _, ck_Sea, by decide, lw_mem 149 rfl, rfl, rfl, rfl, fun h => nomatch h⟩
set_option maxRecDepth 100000 in
theorem fl_VT_14 : FL R_VT 14 ci_VT 0 true (.object "VersionedText$Text") := ⟨_, _, _, _, ck_VT, by decide, lw_mem 161 rfl, rfl, rfl, rfl, fun _ => rfl⟩
set_option maxRecDepth 100000 in
theorem fl_VT_21 : FL R_VT 21 ci_VT 1 true (.object "VersionedText$RowText") := ⟨_, _, _, _, ck_VT, by decide, lw_mem 162 rfl, rfl, rfl, rfl, fun _ => rfl⟩
set_option maxRecDepth 100000 in
theorem fl_VT_27 : FL R_VT 27 ci_VT 2 true (.array (.object "VersionedText$Text")) := ⟨_, _, _, _, ck_VT, by decide, lw_mem 163 rfl, rfl, rfl, rfl, fun _ => rfl⟩
set_option maxRecDepth 100000 in
theorem fl_VT_31 : FL R_VT 31 ci_VT 3 true (.array .boolean) := ⟨_, _, _, _, ck_VT, by decide, lw_mem 164 rfl, rfl, rfl, rfl, fun _ => rfl⟩
set_option maxRecDepth 100000 in
theorem fl_VT_38 : FL R_VT 38 ci_VT 4 true (.object "VersionedText$History") := ⟨_, _, _, _, ck_VT, by decide, lw_mem 165 rfl, rfl, rfl, rfl, fun _ => rfl⟩
set_option maxRecDepth 100000 in
theorem fl_VT_45 : FL R_VT 45 ci_VT 5 true (.object "VersionedText$Items") := ⟨_, _, _, _, ck_VT, by decide, lw_mem 166 rfl, rfl, rfl, rfl, fun _ => rfl⟩
set_option maxRecDepth 100000 in
theorem fl_VT_52 : FL R_VT 52 ci_VT 6 true (.object "VersionedText$Search") := ⟨_, _, _, _, ck_VT, by decide, lw_mem 167 rfl, rfl, rfl, rfl, fun _ => rfl⟩
set_option maxRecDepth 100000 in
theorem fl_VT_56 : FL R_VT 56 ci_VT 7 false (.int) := ⟨_, _, _, _, ck_VT, by decide, lw_mem 168 rfl, rfl, rfl, rfl, fun h => nomatch h⟩
set_option maxRecDepth 100000 in
theorem fl_VT_60 : FL R_VT 60 ci_VT 8 false (.int) := ⟨_, _, _, _, ck_VT, by decide, lw_mem 169 rfl, rfl, rfl, rfl, fun h => nomatch h⟩
set_option maxRecDepth 100000 in
theorem fl_Mod_7 : FL R_Mod 7 ci_Mod 0 true (.array .int) := ⟨_, _, _, _, ck_Mod, by decide, lw_mem 542 rfl, rfl, rfl, rfl, fun _ => rfl⟩
set_option maxRecDepth 100000 in
theorem fl_Mod_13 : FL R_Mod 13 ci_Mod 1 true (.array .int) := ⟨_, _, _, _, ck_Mod, by decide, lw_mem 543 rfl, rfl, rfl, rfl, fun _ => rfl⟩
set_option maxRecDepth 100000 in
theorem fl_Mod_48 : FL R_Mod 48 ci_Mod 2 false (.int) := ⟨_, _, _, _, ck_Mod, by decide, lw_mem 544 rfl, rfl, rfl, rfl, fun h => nomatch h⟩
set_option maxRecDepth 100000 in
theorem fl_Mod_102 : FL R_Mod 102 ci_Mod 3 false (.int) := ⟨_, _, _, _, ck_Mod, by decide, lw_mem 545 rfl, rfl, rfl, rfl, fun h => nomatch h⟩
set_option maxRecDepth 100000 in
theorem fl_Mod_16 : FL R_Mod 16 ci_Mod 4 true (.array .boolean) := ⟨_, _, _, _, ck_Mod, by decide, lw_mem 546 rfl, rfl, rfl, rfl, fun _ => rfl⟩
set_option maxRecDepth 100000 in
theorem fl_Mod_20 : FL R_Mod 20 ci_Mod 5 true (.array .int) := ⟨_, _, _, _, ck_Mod, by decide, lw_mem 547 rfl, rfl, rfl, rfl, fun _ => rfl⟩
set_option maxRecDepth 100000 in
theorem fl_Mod_45 : FL R_Mod 45 ci_Mod 6 false (.int) := ⟨_, _, _, _, ck_Mod, by decide, lw_mem 548 rfl, rfl, rfl, rfl, fun h => nomatch h⟩
set_option maxRecDepth 100000 in
theorem fl_Mod_89 : FL R_Mod 89 ci_Mod 7 false (.int) := ⟨_, _, _, _, ck_Mod, by decide, lw_mem 549 rfl, rfl, rfl, rfl, fun h => nomatch h⟩
set_option maxRecDepth 100000 in
theorem fl_Mod_23 : FL R_Mod 23 ci_Mod 8 false (.int) := ⟨_, _, _, _, ck_Mod, by decide, lw_mem 550 rfl, rfl, rfl, rfl, fun h => nomatch h⟩
set_option maxRecDepth 100000 in
theorem fl_Mod_27 : FL R_Mod 27 ci_Mod 9 true (.array .int) := ⟨_, _, _, _, ck_Mod, by decide, lw_mem 551 rfl, rfl, rfl, rfl, fun _ => rfl⟩
set_option maxRecDepth 100000 in
theorem fl_Mod_96 : FL R_Mod 96 ci_Mod 10 false (.int) := ⟨_, _, _, _, ck_Mod, by decide, lw_mem 552 rfl, rfl, rfl, rfl, fun h => nomatch h⟩
set_option maxRecDepth 100000 in
theorem fl_Mod_51 : FL R_Mod 51 ci_Mod 11 false (.int) := ⟨_, _, _, _, ck_Mod, by decide, lw_mem 553 rfl, rfl, rfl, rfl, fun h => nomatch h⟩
set_option maxRecDepth 100000 in
theorem fl_Mod_30 : FL R_Mod 30 ci_Mod 12 true (.array .int) := ⟨_, _, _, _, ck_Mod, by decide, lw_mem 554 rfl, rfl, rfl, rfl, fun _ => rfl⟩
set_option maxRecDepth 100000 in
theorem fl_Mod_33 : FL R_Mod 33 ci_Mod 13 true (.array .int) := ⟨_, _, _, _, ck_Mod, by decide, lw_mem 555 rfl, rfl, rfl, rfl, fun _ => rfl⟩
set_option maxRecDepth 100000 in
theorem fl_Mod_73 : FL R_Mod 73 ci_Mod 14 false (.int) := ⟨_, _, _, _, ck_Mod, by decide, lw_mem 556 rfl, rfl, rfl, rfl, fun h => nomatch h⟩
set_option maxRecDepth 100000 in
theorem fl_Mod_36 : FL R_Mod 36 ci_Mod 15 true (.array .int) := ⟨_, _, _, _, ck_Mod, by decide, lw_mem 557 rfl, rfl, rfl, rfl, fun _ => rfl⟩
set_option maxRecDepth 100000 in
theorem fl_Mod_39 : FL R_Mod 39 ci_Mod 16 true (.array .boolean) := ⟨_, _, _, _, ck_Mod, by decide, lw_mem 558 rfl, rfl, rfl, rfl, fun _ => rfl⟩
set_option maxRecDepth 100000 in
theorem fl_Mod_42 : FL R_Mod 42 ci_Mod 17 false (.int) := ⟨_, _, _, _, ck_Mod, by decide, lw_mem 559 rfl, rfl, rfl, rfl, fun h => nomatch h⟩
set_option maxRecDepth 100000 in
theorem cst_Itm_72 : Cond.constant R_Itm 72 55296 ∈ lw_tbl := lw_mem 279 rfl
set_option maxRecDepth 100000 in
theorem cst_Itm_74 : Cond.constant R_Itm 74 56319 ∈ lw_tbl := lw_mem 280 rfl
set_option maxRecDepth 100000 in
theorem cst_Itm_73 : Cond.constant R_Itm 73 56320 ∈ lw_tbl := lw_mem 284 rfl
set_option maxRecDepth 100000 in
theorem cst_Itm_75 : Cond.constant R_Itm 75 57343 ∈ lw_tbl := lw_mem 285 rfl
set_option maxRecDepth 100000 in
theorem cst_Itm_71 : Cond.constant R_Itm 71 65536 ∈ lw_tbl := lw_mem 289 rfl
set_option maxRecDepth 100000 in
theorem cst_Clu_34 : Cond.constant R_Clu 34 127744 ∈ lw_tbl := lw_mem 304 rfl
set_option maxRecDepth 100000 in
theorem cst_Clu_35 : Cond.constant R_Clu 35 129791 ∈ lw_tbl := lw_mem 305 rfl
set_option maxRecDepth 100000 in
theorem cst_Clu_36 : Cond.constant R_Clu 36 127462 ∈ lw_tbl := lw_mem 309 rfl
set_option maxRecDepth 100000 in
theorem cst_Clu_37 : Cond.constant R_Clu 37 127487 ∈ lw_tbl := lw_mem 310 rfl
set_option maxRecDepth 100000 in
theorem cst_Mod_54 : Cond.constant R_Mod 54 55296 ∈ lw_tbl := lw_mem 633 rfl
set_option maxRecDepth 100000 in
theorem cst_Mod_55 : Cond.constant R_Mod 55 56319 ∈ lw_tbl := lw_mem 634 rfl
set_option maxRecDepth 100000 in
theorem cst_Mod_56 : Cond.constant R_Mod 56 56320 ∈ lw_tbl := lw_mem 635 rfl
set_option maxRecDepth 100000 in
theorem cst_Mod_57 : Cond.constant R_Mod 57 57343 ∈ lw_tbl := lw_mem 636 rfl
set_option maxRecDepth 100000 in
theorem cst_Mod_58 : Cond.constant R_Mod 58 65536 ∈ lw_tbl := lw_mem 637 rfl
set_option maxRecDepth 100000 in
theorem cst_Mod_59 : Cond.constant R_Mod 59 127744 ∈ lw_tbl := lw_mem 648 rfl
set_option maxRecDepth 100000 in
theorem cst_Mod_60 : Cond.constant R_Mod 60 129791 ∈ lw_tbl := lw_mem 649 rfl
set_option maxRecDepth 100000 in
theorem cst_Mod_61 : Cond.constant R_Mod 61 127462 ∈ lw_tbl := lw_mem 653 rfl
set_option maxRecDepth 100000 in
theorem cst_Mod_62 : Cond.constant R_Mod 62 127487 ∈ lw_tbl := lw_mem 654 rfl
set_option maxRecDepth 100000 in
theorem cn_Law_15 : CIM R_Law 15 m_VT_init 1 := ⟨⟨lw_mem 41 rfl, lw_mem 27 rfl, by decide, by decide +kernel, lw_mem 39 rfl⟩, lw_mem 40 rfl, rfl, rfl⟩
set_option maxRecDepth 100000 in
theorem oi_VT : Cond.methodLink R_VT 1 Lib.objectInit ∈ lw_tbl ∧ Cond.instanceMethod Lib.objectInit ∈ lw_tbl ∧ Cond.code Lib.objectInit ⟨#[0xb1]⟩ 1 none ∈ lw_tbl := ⟨lw_mem 42 rfl, lw_mem 43 rfl, lw_mem 44 rfl⟩
set_option maxRecDepth 100000 in
theorem cn_VT_11 : CIM R_VT 11 m_Gap_init 1 := ⟨⟨lw_mem 49 rfl, lw_mem 28 rfl, by decide, by decide +kernel, lw_mem 47 rfl⟩, lw_mem 48 rfl, rfl, rfl⟩
set_option maxRecDepth 100000 in
theorem oi_Gap : Cond.methodLink R_Gap 3 Lib.objectInit ∈ lw_tbl ∧ Cond.instanceMethod Lib.objectInit ∈ lw_tbl ∧ Cond.code Lib.objectInit ⟨#[0xb1]⟩ 1 none ∈ lw_tbl := ⟨lw_mem 50 rfl, lw_mem 43 rfl, lw_mem 44 rfl⟩
set_option maxRecDepth 100000 in
theorem cn_VT_20 : CIM R_VT 20 m_Row_init 1 := ⟨⟨lw_mem 66 rfl, lw_mem 29 rfl, by decide, by decide +kernel, lw_mem 64 rfl⟩, lw_mem 65 rfl, rfl, rfl⟩
set_option maxRecDepth 100000 in
theorem oi_Row : Cond.methodLink R_Row 3 Lib.objectInit ∈ lw_tbl ∧ Cond.instanceMethod Lib.objectInit ∈ lw_tbl ∧ Cond.code Lib.objectInit ⟨#[0xb1]⟩ 1 none ∈ lw_tbl := ⟨lw_mem 67 rfl, lw_mem 43 rfl, lw_mem 44 rfl⟩
set_option maxRecDepth 100000 in
theorem cn_VT_37 : CIM R_VT 37 m_His_init 0 := ⟨⟨lw_mem 81 rfl, lw_mem 30 rfl, by decide, by decide +kernel, lw_mem 79 rfl⟩, lw_mem 80 rfl, rfl, rfl⟩
set_option maxRecDepth 100000 in
theorem oi_His : Cond.methodLink R_His 3 Lib.objectInit ∈ lw_tbl ∧ Cond.instanceMethod Lib.objectInit ∈ lw_tbl ∧ Cond.code Lib.objectInit ⟨#[0xb1]⟩ 1 none ∈ lw_tbl := ⟨lw_mem 82 rfl, lw_mem 43 rfl, lw_mem 44 rfl⟩
set_option maxRecDepth 100000 in
theorem cn_His_17 : CIM R_His 17 m_Row_init 1 := ⟨⟨lw_mem 66 rfl, lw_mem 29 rfl, by decide, by decide +kernel, lw_mem 85 rfl⟩, lw_mem 65 rfl, rfl, rfl⟩
set_option maxRecDepth 100000 in
theorem cn_VT_44 : CIM R_VT 44 m_Itm_init 0 := ⟨⟨lw_mem 104 rfl, lw_mem 31 rfl, by decide, by decide +kernel, lw_mem 102 rfl⟩, lw_mem 103 rfl, rfl, rfl⟩
set_option maxRecDepth 100000 in
theorem oi_Itm : Cond.methodLink R_Itm 3 Lib.objectInit ∈ lw_tbl ∧ Cond.instanceMethod Lib.objectInit ∈ lw_tbl ∧ Cond.code Lib.objectInit ⟨#[0xb1]⟩ 1 none ∈ lw_tbl := ⟨lw_mem 105 rfl, lw_mem 43 rfl, lw_mem 44 rfl⟩
set_option maxRecDepth 100000 in
theorem cn_Itm_17 : CIM R_Itm 17 m_Clu_init 0 := ⟨⟨lw_mem 110 rfl, lw_mem 32 rfl, by decide, by decide +kernel, lw_mem 108 rfl⟩, lw_mem 109 rfl, rfl, rfl⟩
set_option maxRecDepth 100000 in
theorem oi_Clu : Cond.methodLink R_Clu 3 Lib.objectInit ∈ lw_tbl ∧ Cond.instanceMethod Lib.objectInit ∈ lw_tbl ∧ Cond.code Lib.objectInit ⟨#[0xb1]⟩ 1 none ∈ lw_tbl := ⟨lw_mem 111 rfl, lw_mem 43 rfl, lw_mem 44 rfl⟩
set_option maxRecDepth 100000 in
theorem cn_VT_51 : CIM R_VT 51 m_Sea_init 0 := ⟨⟨lw_mem 143 rfl, lw_mem 33 rfl, by decide, by decide +kernel, lw_mem 141 rfl⟩, lw_mem 142 rfl, rfl, rfl⟩
set_option maxRecDepth 100000 in
theorem oi_Sea : Cond.methodLink R_Sea 3 Lib.objectInit ∈ lw_tbl ∧ Cond.instanceMethod Lib.objectInit ∈ lw_tbl ∧ Cond.code Lib.objectInit ⟨#[0xb1]⟩ 1 none ∈ lw_tbl := ⟨lw_mem 144 rfl, lw_mem 43 rfl, lw_mem 44 rfl⟩
set_option maxRecDepth 100000 in
theorem cv_Law_21 : CVM R_Law 21 m_VT_type ci_VT 1 := ⟨⟨lw_mem 192 rfl, lw_mem 27 rfl, by decide, by decide +kernel, lw_mem 189 rfl⟩, _, _, _, rfl, lw_mem 190 rfl, lw_mem 191 rfl⟩
set_option maxRecDepth 100000 in
theorem cv_VT_63 : CVM R_VT 63 m_Row_append ci_Row 1 := ⟨⟨lw_mem 196 rfl, lw_mem 29 rfl, by decide, by decide +kernel, lw_mem 193 rfl⟩, _, _, _, rfl, lw_mem 194 rfl, lw_mem 195 rfl⟩
set_option maxRecDepth 100000 in
theorem cv_Law_26 : CVM R_Law 26 m_VT_scrap ci_VT 0 := ⟨⟨lw_mem 200 rfl, lw_mem 27 rfl, by decide, by decide +kernel, lw_mem 197 rfl⟩, _, _, _, rfl, lw_mem 198 rfl, lw_mem 199 rfl⟩
set_option maxRecDepth 100000 in
theorem cv_VT_67 : CVM R_VT 67 m_Row_length ci_Row 0 := ⟨⟨lw_mem 204 rfl, lw_mem 29 rfl, by decide, by decide +kernel, lw_mem 201 rfl⟩, _, _, _, rfl, lw_mem 202 rfl, lw_mem 203 rfl⟩
set_option maxRecDepth 100000 in
theorem cv_VT_71 : CVM R_VT 71 m_Row_cut ci_Row 2 := ⟨⟨lw_mem 208 rfl, lw_mem 29 rfl, by decide, by decide +kernel, lw_mem 205 rfl⟩, _, _, _, rfl, lw_mem 206 rfl, lw_mem 207 rfl⟩
set_option maxRecDepth 100000 in
theorem ac_Row : Cond.methodLink R_Row 19 arraycopyName ∈ lw_tbl ∧ Cond.native arraycopyName ∈ lw_tbl ∧ Cond.static arraycopyName ∈ lw_tbl ∧ Cond.initialized "java/lang/System" ∈ lw_tbl := ⟨lw_mem 209 rfl, lw_mem 211 rfl, lw_mem 210 rfl, lw_mem 35 rfl⟩
set_option maxRecDepth 100000 in
theorem cv_Law_30 : CVM R_Law 30 m_VT_insert ci_VT 1 := ⟨⟨lw_mem 215 rfl, lw_mem 27 rfl, by decide, by decide +kernel, lw_mem 212 rfl⟩, _, _, _, rfl, lw_mem 213 rfl, lw_mem 214 rfl⟩
set_option maxRecDepth 100000 in
theorem cv_VT_75 : CVM R_VT 75 m_VT_canTakeClip ci_VT 2 := ⟨⟨lw_mem 219 rfl, lw_mem 27 rfl, by decide, by decide +kernel, lw_mem 216 rfl⟩, _, _, _, rfl, lw_mem 218 rfl, lw_mem 0 rfl⟩
set_option maxRecDepth 100000 in
theorem cv_VT_94 : CVM R_VT 94 m_VT_canEdit ci_VT 2 := ⟨⟨lw_mem 223 rfl, lw_mem 27 rfl, by decide, by decide +kernel, lw_mem 220 rfl⟩, _, _, _, rfl, lw_mem 222 rfl, lw_mem 1 rfl⟩
set_option maxRecDepth 100000 in
theorem cs_VT_137 : CSS R_VT 137 m_VT_isPlace 2 := ⟨⟨lw_mem 226 rfl, lw_mem 27 rfl, by decide, by decide +kernel, lw_mem 224 rfl⟩, lw_mem 225 rfl⟩
set_option maxRecDepth 100000 in
theorem cf_VT_159_Row : CFM R_VT 159 ci_Row y_Txt_length m_Row_length 0 := ⟨_, _, _, rfl, lw_mem 204 rfl, lw_mem 29 rfl, by decide, by decide +kernel, lw_mem 228 rfl, lw_mem 238 rfl, lw_mem 202 rfl, by decide +kernel⟩
set_option maxRecDepth 100000 in
theorem cf_VT_159_Gap : CFM R_VT 159 ci_Gap y_Txt_length m_Gap_length 0 := ⟨_, _, _, rfl, lw_mem 236 rfl, lw_mem 28 rfl, by decide, by decide +kernel, lw_mem 228 rfl, lw_mem 232 rfl, lw_mem 234 rfl, by decide +kernel⟩
set_option maxRecDepth 100000 in
theorem cv_VT_127 : CVM R_VT 127 m_Itm_measure ci_Itm 2 := ⟨⟨lw_mem 244 rfl, lw_mem 31 rfl, by decide, by decide +kernel, lw_mem 241 rfl⟩, _, _, _, rfl, lw_mem 242 rfl, lw_mem 243 rfl⟩
set_option maxRecDepth 100000 in
theorem cf_Itm_32_Row : CFM R_Itm 32 ci_Row y_Txt_length m_Row_length 0 := ⟨_, _, _, rfl, lw_mem 204 rfl, lw_mem 29 rfl, by decide, by decide +kernel, lw_mem 246 rfl, lw_mem 238 rfl, lw_mem 202 rfl, by decide +kernel⟩
set_option maxRecDepth 100000 in
theorem cf_Itm_32_Gap : CFM R_Itm 32 ci_Gap y_Txt_length m_Gap_length 0 := ⟨_, _, _, rfl, lw_mem 236 rfl, lw_mem 28 rfl, by decide, by decide +kernel, lw_mem 246 rfl, lw_mem 232 rfl, lw_mem 234 rfl, by decide +kernel⟩
set_option maxRecDepth 100000 in
theorem cv_Itm_37 : CVM R_Itm 37 m_Clu_restart ci_Clu 0 := ⟨⟨lw_mem 250 rfl, lw_mem 32 rfl, by decide, by decide +kernel, lw_mem 247 rfl⟩, _, _, _, rfl, lw_mem 248 rfl, lw_mem 249 rfl⟩
set_option maxRecDepth 100000 in
theorem cv_Itm_40 : CVM R_Itm 40 m_Itm_begins ci_Itm 2 := ⟨⟨lw_mem 254 rfl, lw_mem 31 rfl, by decide, by decide +kernel, lw_mem 251 rfl⟩, _, _, _, rfl, lw_mem 253 rfl, lw_mem 2 rfl⟩
set_option maxRecDepth 100000 in
theorem cs_Itm_48 : CSS R_Itm 48 m_Itm_beginsLine 2 := ⟨⟨lw_mem 257 rfl, lw_mem 31 rfl, by decide, by decide +kernel, lw_mem 255 rfl⟩, lw_mem 256 rfl⟩
set_option maxRecDepth 100000 in
theorem cf_Itm_62_Row : CFM R_Itm 62 ci_Row y_Txt_at m_Row_at 1 := ⟨_, _, _, rfl, lw_mem 272 rfl, lw_mem 29 rfl, by decide, by decide +kernel, lw_mem 259 rfl, lw_mem 268 rfl, lw_mem 270 rfl, by decide +kernel⟩
set_option maxRecDepth 100000 in
theorem cf_Itm_62_Gap : CFM R_Itm 62 ci_Gap y_Txt_at m_Gap_at 1 := ⟨_, _, _, rfl, lw_mem 266 rfl, lw_mem 28 rfl, by decide, by decide +kernel, lw_mem 259 rfl, lw_mem 262 rfl, lw_mem 264 rfl, by decide +kernel⟩
set_option maxRecDepth 100000 in
theorem cv_Gap_22 : CVM R_Gap 22 m_Gap_length ci_Gap 0 := ⟨⟨lw_mem 236 rfl, lw_mem 28 rfl, by decide, by decide +kernel, lw_mem 267 rfl⟩, _, _, _, rfl, lw_mem 234 rfl, lw_mem 754 rfl⟩
set_option maxRecDepth 100000 in
theorem cs_Itm_51 : CSS R_Itm 51 m_Itm_isSecondHalf 2 := ⟨⟨lw_mem 275 rfl, lw_mem 31 rfl, by decide, by decide +kernel, lw_mem 273 rfl⟩, lw_mem 274 rfl⟩
set_option maxRecDepth 100000 in
theorem cs_Itm_65 : CSS R_Itm 65 m_Itm_isFirst 1 := ⟨⟨lw_mem 278 rfl, lw_mem 31 rfl, by decide, by decide +kernel, lw_mem 276 rfl⟩, lw_mem 277 rfl⟩
set_option maxRecDepth 100000 in
theorem cs_Itm_68 : CSS R_Itm 68 m_Itm_isSecond 1 := ⟨⟨lw_mem 283 rfl, lw_mem 31 rfl, by decide, by decide +kernel, lw_mem 281 rfl⟩, lw_mem 282 rfl⟩
set_option maxRecDepth 100000 in
theorem cs_Itm_54 : CSS R_Itm 54 m_Itm_codeAt 2 := ⟨⟨lw_mem 288 rfl, lw_mem 31 rfl, by decide, by decide +kernel, lw_mem 286 rfl⟩, lw_mem 287 rfl⟩
set_option maxRecDepth 100000 in
theorem cv_Itm_58 : CVM R_Itm 58 m_Clu_isCutBefore ci_Clu 1 := ⟨⟨lw_mem 293 rfl, lw_mem 32 rfl, by decide, by decide +kernel, lw_mem 290 rfl⟩, _, _, _, rfl, lw_mem 291 rfl, lw_mem 292 rfl⟩
set_option maxRecDepth 100000 in
theorem cv_Clu_21 : CVM R_Clu 21 m_Clu_isJoinedTo ci_Clu 1 := ⟨⟨lw_mem 297 rfl, lw_mem 32 rfl, by decide, by decide +kernel, lw_mem 294 rfl⟩, _, _, _, rfl, lw_mem 296 rfl, lw_mem 3 rfl⟩
set_option maxRecDepth 100000 in
theorem cs_Clu_28 : CSS R_Clu 28 m_Clu_isMark 1 := ⟨⟨lw_mem 300 rfl, lw_mem 32 rfl, by decide, by decide +kernel, lw_mem 298 rfl⟩, lw_mem 299 rfl⟩
set_option maxRecDepth 100000 in
theorem cs_Clu_31 : CSS R_Clu 31 m_Clu_isPicture 1 := ⟨⟨lw_mem 303 rfl, lw_mem 32 rfl, by decide, by decide +kernel, lw_mem 301 rfl⟩, lw_mem 302 rfl⟩
set_option maxRecDepth 100000 in
theorem cs_Clu_25 : CSS R_Clu 25 m_Clu_isFlag 1 := ⟨⟨lw_mem 308 rfl, lw_mem 32 rfl, by decide, by decide +kernel, lw_mem 306 rfl⟩, lw_mem 307 rfl⟩
set_option maxRecDepth 100000 in
theorem cv_VT_160 : CVM R_VT 160 m_Itm_isInside ci_Itm 1 := ⟨⟨lw_mem 314 rfl, lw_mem 31 rfl, by decide, by decide +kernel, lw_mem 311 rfl⟩, _, _, _, rfl, lw_mem 312 rfl, lw_mem 313 rfl⟩
set_option maxRecDepth 100000 in
theorem cv_Itm_44 : CVM R_Itm 44 m_Itm_having ci_Itm 1 := ⟨⟨lw_mem 318 rfl, lw_mem 31 rfl, by decide, by decide +kernel, lw_mem 315 rfl⟩, _, _, _, rfl, lw_mem 316 rfl, lw_mem 317 rfl⟩
set_option maxRecDepth 100000 in
theorem cf_VT_79_Row : CFM R_VT 79 ci_Row y_Txt_put m_Row_put 2 := ⟨_, _, _, rfl, lw_mem 342 rfl, lw_mem 29 rfl, by decide, by decide +kernel, lw_mem 320 rfl, lw_mem 338 rfl, lw_mem 340 rfl, by decide +kernel⟩
set_option maxRecDepth 100000 in
theorem cf_VT_79_Gap : CFM R_VT 79 ci_Gap y_Txt_put m_Gap_put 2 := ⟨_, _, _, rfl, lw_mem 327 rfl, lw_mem 28 rfl, by decide, by decide +kernel, lw_mem 320 rfl, lw_mem 323 rfl, lw_mem 325 rfl, by decide +kernel⟩
set_option maxRecDepth 100000 in
theorem cv_Gap_26 : CVM R_Gap 26 m_Gap_moveGap ci_Gap 1 := ⟨⟨lw_mem 331 rfl, lw_mem 28 rfl, by decide, by decide +kernel, lw_mem 328 rfl⟩, _, _, _, rfl, lw_mem 330 rfl, lw_mem 4 rfl⟩
set_option maxRecDepth 100000 in
theorem ac_Gap : Cond.methodLink R_Gap 44 arraycopyName ∈ lw_tbl ∧ Cond.native arraycopyName ∈ lw_tbl ∧ Cond.static arraycopyName ∈ lw_tbl ∧ Cond.initialized "java/lang/System" ∈ lw_tbl := ⟨lw_mem 332 rfl, lw_mem 211 rfl, lw_mem 210 rfl, lw_mem 35 rfl⟩
set_option maxRecDepth 100000 in
theorem cv_Gap_30 : CVM R_Gap 30 m_Row_copyInto ci_Row 2 := ⟨⟨lw_mem 336 rfl, lw_mem 29 rfl, by decide, by decide +kernel, lw_mem 333 rfl⟩, _, _, _, rfl, lw_mem 334 rfl, lw_mem 335 rfl⟩
set_option maxRecDepth 100000 in
theorem cv_Gap_36 : CVM R_Gap 36 m_Row_length ci_Row 0 := ⟨⟨lw_mem 204 rfl, lw_mem 29 rfl, by decide, by decide +kernel, lw_mem 337 rfl⟩, _, _, _, rfl, lw_mem 202 rfl, lw_mem 203 rfl⟩
set_option maxRecDepth 100000 in
theorem cv_Row_25 : CVM R_Row 25 m_Row_copyInto ci_Row 2 := ⟨⟨lw_mem 336 rfl, lw_mem 29 rfl, by decide, by decide +kernel, lw_mem 343 rfl⟩, _, _, _, rfl, lw_mem 334 rfl, lw_mem 335 rfl⟩
set_option maxRecDepth 100000 in
theorem cv_VT_83 : CVM R_VT 83 m_VT_clipIsTyping ci_VT 0 := ⟨⟨lw_mem 347 rfl, lw_mem 27 rfl, by decide, by decide +kernel, lw_mem 344 rfl⟩, _, _, _, rfl, lw_mem 346 rfl, lw_mem 5 rfl⟩
set_option maxRecDepth 100000 in
theorem cv_VT_163 : CVM R_VT 163 m_Row_at ci_Row 1 := ⟨⟨lw_mem 272 rfl, lw_mem 29 rfl, by decide, by decide +kernel, lw_mem 348 rfl⟩, _, _, _, rfl, lw_mem 270 rfl, lw_mem 755 rfl⟩
set_option maxRecDepth 100000 in
theorem cv_VT_87 : CVM R_VT 87 m_His_extendStep ci_His 1 := ⟨⟨lw_mem 352 rfl, lw_mem 30 rfl, by decide, by decide +kernel, lw_mem 349 rfl⟩, _, _, _, rfl, lw_mem 350 rfl, lw_mem 351 rfl⟩
set_option maxRecDepth 100000 in
theorem cv_His_30 : CVM R_His 30 m_His_latest ci_His 0 := ⟨⟨lw_mem 356 rfl, lw_mem 30 rfl, by decide, by decide +kernel, lw_mem 353 rfl⟩, _, _, _, rfl, lw_mem 355 rfl, lw_mem 6 rfl⟩
set_option maxRecDepth 100000 in
theorem cv_His_34 : CVM R_His 34 m_Row_become ci_Row 1 := ⟨⟨lw_mem 360 rfl, lw_mem 29 rfl, by decide, by decide +kernel, lw_mem 357 rfl⟩, _, _, _, rfl, lw_mem 358 rfl, lw_mem 359 rfl⟩
set_option maxRecDepth 100000 in
theorem cf_Row_29_Row : CFM R_Row 29 ci_Row y_Txt_length m_Row_length 0 := ⟨_, _, _, rfl, lw_mem 204 rfl, lw_mem 29 rfl, by decide, by decide +kernel, lw_mem 362 rfl, lw_mem 238 rfl, lw_mem 202 rfl, by decide +kernel⟩
set_option maxRecDepth 100000 in
theorem cf_Row_29_Gap : CFM R_Row 29 ci_Gap y_Txt_length m_Gap_length 0 := ⟨_, _, _, rfl, lw_mem 236 rfl, lw_mem 28 rfl, by decide, by decide +kernel, lw_mem 362 rfl, lw_mem 232 rfl, lw_mem 234 rfl, by decide +kernel⟩
set_option maxRecDepth 100000 in
theorem cf_Row_34_Row : CFM R_Row 34 ci_Row y_Txt_at m_Row_at 1 := ⟨_, _, _, rfl, lw_mem 272 rfl, lw_mem 29 rfl, by decide, by decide +kernel, lw_mem 364 rfl, lw_mem 268 rfl, lw_mem 270 rfl, by decide +kernel⟩
set_option maxRecDepth 100000 in
theorem cf_Row_34_Gap : CFM R_Row 34 ci_Gap y_Txt_at m_Gap_at 1 := ⟨_, _, _, rfl, lw_mem 266 rfl, lw_mem 28 rfl, by decide, by decide +kernel, lw_mem 364 rfl, lw_mem 262 rfl, lw_mem 264 rfl, by decide +kernel⟩
set_option maxRecDepth 100000 in
theorem cv_VT_91 : CVM R_VT 91 m_His_addStep ci_His 1 := ⟨⟨lw_mem 368 rfl, lw_mem 30 rfl, by decide, by decide +kernel, lw_mem 365 rfl⟩, _, _, _, rfl, lw_mem 366 rfl, lw_mem 367 rfl⟩
set_option maxRecDepth 100000 in
theorem cv_Law_35 : CVM R_Law 35 m_VT_remove ci_VT 2 := ⟨⟨lw_mem 372 rfl, lw_mem 27 rfl, by decide, by decide +kernel, lw_mem 369 rfl⟩, _, _, _, rfl, lw_mem 370 rfl, lw_mem 371 rfl⟩
set_option maxRecDepth 100000 in
theorem cf_VT_97_Row : CFM R_VT 97 ci_Row y_Txt_cut m_Row_cut 2 := ⟨_, _, _, rfl, lw_mem 208 rfl, lw_mem 29 rfl, by decide, by decide +kernel, lw_mem 374 rfl, lw_mem 382 rfl, lw_mem 206 rfl, by decide +kernel⟩
set_option maxRecDepth 100000 in
theorem cf_VT_97_Gap : CFM R_VT 97 ci_Gap y_Txt_cut m_Gap_cut 2 := ⟨_, _, _, rfl, lw_mem 381 rfl, lw_mem 28 rfl, by decide, by decide +kernel, lw_mem 374 rfl, lw_mem 377 rfl, lw_mem 379 rfl, by decide +kernel⟩
set_option maxRecDepth 100000 in
theorem cv_VT_98 : CVM R_VT 98 m_VT_addClosedStep ci_VT 0 := ⟨⟨lw_mem 388 rfl, lw_mem 27 rfl, by decide, by decide +kernel, lw_mem 385 rfl⟩, _, _, _, rfl, lw_mem 387 rfl, lw_mem 7 rfl⟩
set_option maxRecDepth 100000 in
theorem cv_Law_40 : CVM R_Law 40 m_VT_replace ci_VT 2 := ⟨⟨lw_mem 392 rfl, lw_mem 27 rfl, by decide, by decide +kernel, lw_mem 389 rfl⟩, _, _, _, rfl, lw_mem 390 rfl, lw_mem 391 rfl⟩
set_option maxRecDepth 100000 in
theorem cv_Law_44 : CVM R_Law 44 m_VT_undo ci_VT 0 := ⟨⟨lw_mem 396 rfl, lw_mem 27 rfl, by decide, by decide +kernel, lw_mem 393 rfl⟩, _, _, _, rfl, lw_mem 394 rfl, lw_mem 395 rfl⟩
set_option maxRecDepth 100000 in
theorem cv_VT_101 : CVM R_VT 101 m_His_undoable ci_His 0 := ⟨⟨lw_mem 400 rfl, lw_mem 30 rfl, by decide, by decide +kernel, lw_mem 397 rfl⟩, _, _, _, rfl, lw_mem 398 rfl, lw_mem 399 rfl⟩
set_option maxRecDepth 100000 in
theorem cv_VT_104 : CVM R_VT 104 m_His_goBack ci_His 1 := ⟨⟨lw_mem 404 rfl, lw_mem 30 rfl, by decide, by decide +kernel, lw_mem 401 rfl⟩, _, _, _, rfl, lw_mem 402 rfl, lw_mem 403 rfl⟩
set_option maxRecDepth 100000 in
theorem cf_His_38_Row : CFM R_His 38 ci_Row y_Txt_become m_Row_become 1 := ⟨_, _, _, rfl, lw_mem 360 rfl, lw_mem 29 rfl, by decide, by decide +kernel, lw_mem 406 rfl, lw_mem 418 rfl, lw_mem 358 rfl, by decide +kernel⟩
set_option maxRecDepth 100000 in
theorem cf_His_38_Gap : CFM R_His 38 ci_Gap y_Txt_become m_Gap_become 1 := ⟨_, _, _, rfl, lw_mem 413 rfl, lw_mem 28 rfl, by decide, by decide +kernel, lw_mem 406 rfl, lw_mem 409 rfl, lw_mem 411 rfl, by decide +kernel⟩
set_option maxRecDepth 100000 in
theorem cf_Gap_37_Row : CFM R_Gap 37 ci_Row y_Txt_length m_Row_length 0 := ⟨_, _, _, rfl, lw_mem 204 rfl, lw_mem 29 rfl, by decide, by decide +kernel, lw_mem 415 rfl, lw_mem 238 rfl, lw_mem 202 rfl, by decide +kernel⟩
set_option maxRecDepth 100000 in
theorem cf_Gap_37_Gap : CFM R_Gap 37 ci_Gap y_Txt_length m_Gap_length 0 := ⟨_, _, _, rfl, lw_mem 236 rfl, lw_mem 28 rfl, by decide, by decide +kernel, lw_mem 415 rfl, lw_mem 232 rfl, lw_mem 234 rfl, by decide +kernel⟩
set_option maxRecDepth 100000 in
theorem cf_Gap_40_Row : CFM R_Gap 40 ci_Row y_Txt_at m_Row_at 1 := ⟨_, _, _, rfl, lw_mem 272 rfl, lw_mem 29 rfl, by decide, by decide +kernel, lw_mem 417 rfl, lw_mem 268 rfl, lw_mem 270 rfl, by decide +kernel⟩
set_option maxRecDepth 100000 in
theorem cf_Gap_40_Gap : CFM R_Gap 40 ci_Gap y_Txt_at m_Gap_at 1 := ⟨_, _, _, rfl, lw_mem 266 rfl, lw_mem 28 rfl, by decide, by decide +kernel, lw_mem 417 rfl, lw_mem 262 rfl, lw_mem 264 rfl, by decide +kernel⟩
set_option maxRecDepth 100000 in
theorem cv_Law_49 : CVM R_Law 49 m_VT_redo ci_VT 0 := ⟨⟨lw_mem 424 rfl, lw_mem 27 rfl, by decide, by decide +kernel, lw_mem 421 rfl⟩, _, _, _, rfl, lw_mem 422 rfl, lw_mem 423 rfl⟩
set_option maxRecDepth 100000 in
theorem cv_VT_107 : CVM R_VT 107 m_His_redoable ci_His 0 := ⟨⟨lw_mem 428 rfl, lw_mem 30 rfl, by decide, by decide +kernel, lw_mem 425 rfl⟩, _, _, _, rfl, lw_mem 426 rfl, lw_mem 427 rfl⟩
set_option maxRecDepth 100000 in
theorem cv_VT_110 : CVM R_VT 110 m_His_goForward ci_His 1 := ⟨⟨lw_mem 432 rfl, lw_mem 30 rfl, by decide, by decide +kernel, lw_mem 429 rfl⟩, _, _, _, rfl, lw_mem 430 rfl, lw_mem 431 rfl⟩
set_option maxRecDepth 100000 in
theorem cv_Law_53 : CVM R_Law 53 m_VT_steps ci_VT 1 := ⟨⟨lw_mem 436 rfl, lw_mem 27 rfl, by decide, by decide +kernel, lw_mem 433 rfl⟩, _, _, _, rfl, lw_mem 434 rfl, lw_mem 435 rfl⟩
set_option maxRecDepth 100000 in
theorem cv_Law_58 : CVM R_Law 58 m_VT_seal ci_VT 0 := ⟨⟨lw_mem 440 rfl, lw_mem 27 rfl, by decide, by decide +kernel, lw_mem 437 rfl⟩, _, _, _, rfl, lw_mem 438 rfl, lw_mem 439 rfl⟩
set_option maxRecDepth 100000 in
theorem cv_Law_62 : CVM R_Law 62 m_VT_guard ci_VT 1 := ⟨⟨lw_mem 444 rfl, lw_mem 27 rfl, by decide, by decide +kernel, lw_mem 441 rfl⟩, _, _, _, rfl, lw_mem 442 rfl, lw_mem 443 rfl⟩
set_option maxRecDepth 100000 in
theorem cv_Law_66 : CVM R_Law 66 m_VT_snapshot ci_VT 0 := ⟨⟨lw_mem 448 rfl, lw_mem 27 rfl, by decide, by decide +kernel, lw_mem 445 rfl⟩, _, _, _, rfl, lw_mem 446 rfl, lw_mem 447 rfl⟩
set_option maxRecDepth 100000 in
theorem cf_VT_113_Row : CFM R_VT 113 ci_Row y_Txt_become m_Row_become 1 := ⟨_, _, _, rfl, lw_mem 360 rfl, lw_mem 29 rfl, by decide, by decide +kernel, lw_mem 450 rfl, lw_mem 418 rfl, lw_mem 358 rfl, by decide +kernel⟩
set_option maxRecDepth 100000 in
theorem cf_VT_113_Gap : CFM R_VT 113 ci_Gap y_Txt_become m_Gap_become 1 := ⟨_, _, _, rfl, lw_mem 413 rfl, lw_mem 28 rfl, by decide, by decide +kernel, lw_mem 450 rfl, lw_mem 409 rfl, lw_mem 411 rfl, by decide +kernel⟩
set_option maxRecDepth 100000 in
theorem cv_Law_71 : CVM R_Law 71 m_VT_release ci_VT 1 := ⟨⟨lw_mem 454 rfl, lw_mem 27 rfl, by decide, by decide +kernel, lw_mem 451 rfl⟩, _, _, _, rfl, lw_mem 452 rfl, lw_mem 453 rfl⟩
set_option maxRecDepth 100000 in
theorem cv_VT_116 : CVM R_VT 116 m_VT_isVersion ci_VT 1 := ⟨⟨lw_mem 458 rfl, lw_mem 27 rfl, by decide, by decide +kernel, lw_mem 455 rfl⟩, _, _, _, rfl, lw_mem 457 rfl, lw_mem 8 rfl⟩
set_option maxRecDepth 100000 in
theorem cv_Law_75 : CVM R_Law 75 m_VT_unit ci_VT 2 := ⟨⟨lw_mem 462 rfl, lw_mem 27 rfl, by decide, by decide +kernel, lw_mem 459 rfl⟩, _, _, _, rfl, lw_mem 460 rfl, lw_mem 461 rfl⟩
set_option maxRecDepth 100000 in
theorem cf_VT_120_Row : CFM R_VT 120 ci_Row y_Txt_at m_Row_at 1 := ⟨_, _, _, rfl, lw_mem 272 rfl, lw_mem 29 rfl, by decide, by decide +kernel, lw_mem 464 rfl, lw_mem 268 rfl, lw_mem 270 rfl, by decide +kernel⟩
set_option maxRecDepth 100000 in
theorem cf_VT_120_Gap : CFM R_VT 120 ci_Gap y_Txt_at m_Gap_at 1 := ⟨_, _, _, rfl, lw_mem 266 rfl, lw_mem 28 rfl, by decide, by decide +kernel, lw_mem 464 rfl, lw_mem 262 rfl, lw_mem 264 rfl, by decide +kernel⟩
set_option maxRecDepth 100000 in
theorem cv_Law_80 : CVM R_Law 80 m_VT_count ci_VT 2 := ⟨⟨lw_mem 468 rfl, lw_mem 27 rfl, by decide, by decide +kernel, lw_mem 465 rfl⟩, _, _, _, rfl, lw_mem 466 rfl, lw_mem 467 rfl⟩
set_option maxRecDepth 100000 in
theorem cs_VT_124 : CSS R_VT 124 m_VT_isMetric 1 := ⟨⟨lw_mem 471 rfl, lw_mem 27 rfl, by decide, by decide +kernel, lw_mem 469 rfl⟩, lw_mem 470 rfl⟩
set_option maxRecDepth 100000 in
theorem cv_VT_131 : CVM R_VT 131 m_Itm_number ci_Itm 0 := ⟨⟨lw_mem 475 rfl, lw_mem 31 rfl, by decide, by decide +kernel, lw_mem 472 rfl⟩, _, _, _, rfl, lw_mem 473 rfl, lw_mem 474 rfl⟩
set_option maxRecDepth 100000 in
theorem cv_Law_84 : CVM R_Law 84 m_VT_place ci_VT 3 := ⟨⟨lw_mem 479 rfl, lw_mem 27 rfl, by decide, by decide +kernel, lw_mem 476 rfl⟩, _, _, _, rfl, lw_mem 477 rfl, lw_mem 478 rfl⟩
set_option maxRecDepth 100000 in
theorem cv_VT_134 : CVM R_VT 134 m_Itm_beginningOf ci_Itm 1 := ⟨⟨lw_mem 483 rfl, lw_mem 31 rfl, by decide, by decide +kernel, lw_mem 480 rfl⟩, _, _, _, rfl, lw_mem 481 rfl, lw_mem 482 rfl⟩
set_option maxRecDepth 100000 in
theorem cv_Law_89 : CVM R_Law 89 m_VT_item ci_VT 3 := ⟨⟨lw_mem 487 rfl, lw_mem 27 rfl, by decide, by decide +kernel, lw_mem 484 rfl⟩, _, _, _, rfl, lw_mem 485 rfl, lw_mem 486 rfl⟩
set_option maxRecDepth 100000 in
theorem cv_VT_141 : CVM R_VT 141 m_Itm_having ci_Itm 1 := ⟨⟨lw_mem 318 rfl, lw_mem 31 rfl, by decide, by decide +kernel, lw_mem 488 rfl⟩, _, _, _, rfl, lw_mem 316 rfl, lw_mem 317 rfl⟩
set_option maxRecDepth 100000 in
theorem cv_Law_93 : CVM R_Law 93 m_VT_same ci_VT 2 := ⟨⟨lw_mem 492 rfl, lw_mem 27 rfl, by decide, by decide +kernel, lw_mem 489 rfl⟩, _, _, _, rfl, lw_mem 490 rfl, lw_mem 491 rfl⟩
set_option maxRecDepth 100000 in
theorem cs_VT_144 : CSS R_VT 144 m_VT_haveSameUnits 2 := ⟨⟨lw_mem 495 rfl, lw_mem 27 rfl, by decide, by decide +kernel, lw_mem 493 rfl⟩, lw_mem 494 rfl⟩
set_option maxRecDepth 100000 in
theorem cv_Law_97 : CVM R_Law 97 m_VT_find ci_VT 2 := ⟨⟨lw_mem 499 rfl, lw_mem 27 rfl, by decide, by decide +kernel, lw_mem 496 rfl⟩, _, _, _, rfl, lw_mem 497 rfl, lw_mem 498 rfl⟩
set_option maxRecDepth 100000 in
theorem cv_VT_148 : CVM R_VT 148 m_Sea_takePattern ci_Sea 1 := ⟨⟨lw_mem 503 rfl, lw_mem 33 rfl, by decide, by decide +kernel, lw_mem 500 rfl⟩, _, _, _, rfl, lw_mem 501 rfl, lw_mem 502 rfl⟩
set_option maxRecDepth 100000 in
theorem cv_Sea_29 : CVM R_Sea 29 m_Row_length ci_Row 0 := ⟨⟨lw_mem 204 rfl, lw_mem 29 rfl, by decide, by decide +kernel, lw_mem 504 rfl⟩, _, _, _, rfl, lw_mem 202 rfl, lw_mem 203 rfl⟩
set_option maxRecDepth 100000 in
theorem cv_Sea_35 : CVM R_Sea 35 m_Row_at ci_Row 1 := ⟨⟨lw_mem 272 rfl, lw_mem 29 rfl, by decide, by decide +kernel, lw_mem 505 rfl⟩, _, _, _, rfl, lw_mem 270 rfl, lw_mem 755 rfl⟩
set_option maxRecDepth 100000 in
theorem cv_VT_152 : CVM R_VT 152 m_Sea_firstMatch ci_Sea 2 := ⟨⟨lw_mem 509 rfl, lw_mem 33 rfl, by decide, by decide +kernel, lw_mem 506 rfl⟩, _, _, _, rfl, lw_mem 507 rfl, lw_mem 508 rfl⟩
set_option maxRecDepth 100000 in
theorem cf_Sea_39_Row : CFM R_Sea 39 ci_Row y_Txt_length m_Row_length 0 := ⟨_, _, _, rfl, lw_mem 204 rfl, lw_mem 29 rfl, by decide, by decide +kernel, lw_mem 511 rfl, lw_mem 238 rfl, lw_mem 202 rfl, by decide +kernel⟩
set_option maxRecDepth 100000 in
theorem cf_Sea_39_Gap : CFM R_Sea 39 ci_Gap y_Txt_length m_Gap_length 0 := ⟨_, _, _, rfl, lw_mem 236 rfl, lw_mem 28 rfl, by decide, by decide +kernel, lw_mem 511 rfl, lw_mem 232 rfl, lw_mem 234 rfl, by decide +kernel⟩
set_option maxRecDepth 100000 in
theorem cf_Sea_42_Row : CFM R_Sea 42 ci_Row y_Txt_at m_Row_at 1 := ⟨_, _, _, rfl, lw_mem 272 rfl, lw_mem 29 rfl, by decide, by decide +kernel, lw_mem 513 rfl, lw_mem 268 rfl, lw_mem 270 rfl, by decide +kernel⟩
set_option maxRecDepth 100000 in
theorem cf_Sea_42_Gap : CFM R_Sea 42 ci_Gap y_Txt_at m_Gap_at 1 := ⟨_, _, _, rfl, lw_mem 266 rfl, lw_mem 28 rfl, by decide, by decide +kernel, lw_mem 513 rfl, lw_mem 262 rfl, lw_mem 264 rfl, by decide +kernel⟩
set_option maxRecDepth 100000 in
theorem cv_Sea_43 : CVM R_Sea 43 m_Sea_reachFrom ci_Sea 2 := ⟨⟨lw_mem 517 rfl, lw_mem 33 rfl, by decide, by decide +kernel, lw_mem 514 rfl⟩, _, _, _, rfl, lw_mem 516 rfl, lw_mem 9 rfl⟩
set_option maxRecDepth 100000 in
theorem cv_Sea_47 : CVM R_Sea 47 m_Sea_standsFor ci_Sea 2 := ⟨⟨lw_mem 521 rfl, lw_mem 33 rfl, by decide, by decide +kernel, lw_mem 518 rfl⟩, _, _, _, rfl, lw_mem 520 rfl, lw_mem 10 rfl⟩
set_option maxRecDepth 100000 in
theorem mx_Sea : Cond.methodLink R_Sea 51 Lib.Math.max.name ∈ lw_tbl ∧ Cond.static Lib.Math.max.name ∈ lw_tbl ∧ Cond.initialized "java/lang/Math" ∈ lw_tbl ∧ Cond.code Lib.Math.max.name Lib.Math.max.code 2 (some .int) ∈ lw_tbl := ⟨lw_mem 522 rfl, lw_mem 523 rfl, lw_mem 36 rfl, lw_mem 524 rfl⟩
set_option maxRecDepth 100000 in
theorem cv_Law_101 : CVM R_Law 101 m_VT_end ci_VT 0 := ⟨⟨lw_mem 528 rfl, lw_mem 27 rfl, by decide, by decide +kernel, lw_mem 525 rfl⟩, _, _, _, rfl, lw_mem 526 rfl, lw_mem 527 rfl⟩
set_option maxRecDepth 100000 in
theorem cv_VT_156 : CVM R_VT 156 m_Sea_matchEnd ci_Sea 0 := ⟨⟨lw_mem 532 rfl, lw_mem 33 rfl, by decide, by decide +kernel, lw_mem 529 rfl⟩, _, _, _, rfl, lw_mem 530 rfl, lw_mem 531 rfl⟩
set_option maxRecDepth 100000 in
theorem cs_Law_9 : CSS R_Law 9 m_Law_cell 2 := ⟨⟨lw_mem 535 rfl, lw_mem 26 rfl, by decide, by decide +kernel, lw_mem 533 rfl⟩, lw_mem 534 rfl⟩
set_option maxRecDepth 100000 in
theorem cn_Law_20 : CIM R_Law 20 m_Mod_init 1 := ⟨⟨lw_mem 540 rfl, lw_mem 34 rfl, by decide, by decide +kernel, lw_mem 538 rfl⟩, lw_mem 539 rfl, rfl, rfl⟩
set_option maxRecDepth 100000 in
theorem oi_Mod : Cond.methodLink R_Mod 1 Lib.objectInit ∈ lw_tbl ∧ Cond.instanceMethod Lib.objectInit ∈ lw_tbl ∧ Cond.code Lib.objectInit ⟨#[0xb1]⟩ 1 none ∈ lw_tbl := ⟨lw_mem 541 rfl, lw_mem 43 rfl, lw_mem 44 rfl⟩
set_option maxRecDepth 100000 in
theorem cv_Law_25 : CVM R_Law 25 m_Mod_type ci_Mod 1 := ⟨⟨lw_mem 600 rfl, lw_mem 34 rfl, by decide, by decide +kernel, lw_mem 597 rfl⟩, _, _, _, rfl, lw_mem 598 rfl, lw_mem 599 rfl⟩
set_option maxRecDepth 100000 in
theorem cv_Law_29 : CVM R_Law 29 m_Mod_scrap ci_Mod 0 := ⟨⟨lw_mem 604 rfl, lw_mem 34 rfl, by decide, by decide +kernel, lw_mem 601 rfl⟩, _, _, _, rfl, lw_mem 602 rfl, lw_mem 603 rfl⟩
set_option maxRecDepth 100000 in
theorem cv_Law_34 : CVM R_Law 34 m_Mod_insert ci_Mod 1 := ⟨⟨lw_mem 608 rfl, lw_mem 34 rfl, by decide, by decide +kernel, lw_mem 605 rfl⟩, _, _, _, rfl, lw_mem 606 rfl, lw_mem 607 rfl⟩
set_option maxRecDepth 100000 in
theorem cv_Mod_108 : CVM R_Mod 108 m_Mod_isPlace ci_Mod 1 := ⟨⟨lw_mem 612 rfl, lw_mem 34 rfl, by decide, by decide +kernel, lw_mem 609 rfl⟩, _, _, _, rfl, lw_mem 611 rfl, lw_mem 11 rfl⟩
set_option maxRecDepth 100000 in
theorem cv_Mod_111 : CVM R_Mod 111 m_Mod_lets ci_Mod 1 := ⟨⟨lw_mem 616 rfl, lw_mem 34 rfl, by decide, by decide +kernel, lw_mem 613 rfl⟩, _, _, _, rfl, lw_mem 615 rfl, lw_mem 12 rfl⟩
set_option maxRecDepth 100000 in
theorem cv_Mod_92 : CVM R_Mod 92 m_Mod_findItems ci_Mod 2 := ⟨⟨lw_mem 620 rfl, lw_mem 34 rfl, by decide, by decide +kernel, lw_mem 617 rfl⟩, _, _, _, rfl, lw_mem 619 rfl, lw_mem 13 rfl⟩
set_option maxRecDepth 100000 in
theorem cv_Mod_76 : CVM R_Mod 76 m_Mod_begin ci_Mod 1 := ⟨⟨lw_mem 624 rfl, lw_mem 34 rfl, by decide, by decide +kernel, lw_mem 621 rfl⟩, _, _, _, rfl, lw_mem 623 rfl, lw_mem 14 rfl⟩
set_option maxRecDepth 100000 in
theorem cv_Mod_80 : CVM R_Mod 80 m_Mod_findLines ci_Mod 1 := ⟨⟨lw_mem 628 rfl, lw_mem 34 rfl, by decide, by decide +kernel, lw_mem 625 rfl⟩, _, _, _, rfl, lw_mem 627 rfl, lw_mem 15 rfl⟩
set_option maxRecDepth 100000 in
theorem cv_Mod_83 : CVM R_Mod 83 m_Mod_findPoints ci_Mod 1 := ⟨⟨lw_mem 632 rfl, lw_mem 34 rfl, by decide, by decide +kernel, lw_mem 629 rfl⟩, _, _, _, rfl, lw_mem 631 rfl, lw_mem 16 rfl⟩
set_option maxRecDepth 100000 in
theorem cv_Mod_86 : CVM R_Mod 86 m_Mod_bound ci_Mod 1 := ⟨⟨lw_mem 641 rfl, lw_mem 34 rfl, by decide, by decide +kernel, lw_mem 638 rfl⟩, _, _, _, rfl, lw_mem 640 rfl, lw_mem 17 rfl⟩
set_option maxRecDepth 100000 in
theorem cs_Mod_63 : CSS R_Mod 63 m_Mod_isMark 1 := ⟨⟨lw_mem 644 rfl, lw_mem 34 rfl, by decide, by decide +kernel, lw_mem 642 rfl⟩, lw_mem 643 rfl⟩
set_option maxRecDepth 100000 in
theorem cs_Mod_67 : CSS R_Mod 67 m_Mod_isPicture 1 := ⟨⟨lw_mem 647 rfl, lw_mem 34 rfl, by decide, by decide +kernel, lw_mem 645 rfl⟩, lw_mem 646 rfl⟩
set_option maxRecDepth 100000 in
theorem cs_Mod_70 : CSS R_Mod 70 m_Mod_isFlag 1 := ⟨⟨lw_mem 652 rfl, lw_mem 34 rfl, by decide, by decide +kernel, lw_mem 650 rfl⟩, lw_mem 651 rfl⟩
set_option maxRecDepth 100000 in
theorem cv_Mod_114 : CVM R_Mod 114 m_Mod_make ci_Mod 3 := ⟨⟨lw_mem 658 rfl, lw_mem 34 rfl, by decide, by decide +kernel, lw_mem 655 rfl⟩, _, _, _, rfl, lw_mem 657 rfl, lw_mem 18 rfl⟩
set_option maxRecDepth 100000 in
theorem cv_Mod_105 : CVM R_Mod 105 m_Mod_show ci_Mod 1 := ⟨⟨lw_mem 662 rfl, lw_mem 34 rfl, by decide, by decide +kernel, lw_mem 659 rfl⟩, _, _, _, rfl, lw_mem 661 rfl, lw_mem 19 rfl⟩
set_option maxRecDepth 100000 in
theorem cv_Mod_118 : CVM R_Mod 118 m_Mod_step ci_Mod 0 := ⟨⟨lw_mem 666 rfl, lw_mem 34 rfl, by decide, by decide +kernel, lw_mem 663 rfl⟩, _, _, _, rfl, lw_mem 665 rfl, lw_mem 20 rfl⟩
set_option maxRecDepth 100000 in
theorem cv_Mod_99 : CVM R_Mod 99 m_Mod_copy ci_Mod 2 := ⟨⟨lw_mem 670 rfl, lw_mem 34 rfl, by decide, by decide +kernel, lw_mem 667 rfl⟩, _, _, _, rfl, lw_mem 669 rfl, lw_mem 21 rfl⟩
set_option maxRecDepth 100000 in
theorem cv_Law_39 : CVM R_Law 39 m_Mod_remove ci_Mod 2 := ⟨⟨lw_mem 674 rfl, lw_mem 34 rfl, by decide, by decide +kernel, lw_mem 671 rfl⟩, _, _, _, rfl, lw_mem 672 rfl, lw_mem 673 rfl⟩
set_option maxRecDepth 100000 in
theorem cv_Law_43 : CVM R_Law 43 m_Mod_replace ci_Mod 2 := ⟨⟨lw_mem 678 rfl, lw_mem 34 rfl, by decide, by decide +kernel, lw_mem 675 rfl⟩, _, _, _, rfl, lw_mem 676 rfl, lw_mem 677 rfl⟩
set_option maxRecDepth 100000 in
theorem cv_Law_48 : CVM R_Law 48 m_Mod_undo ci_Mod 0 := ⟨⟨lw_mem 682 rfl, lw_mem 34 rfl, by decide, by decide +kernel, lw_mem 679 rfl⟩, _, _, _, rfl, lw_mem 680 rfl, lw_mem 681 rfl⟩
set_option maxRecDepth 100000 in
theorem cv_Law_52 : CVM R_Law 52 m_Mod_redo ci_Mod 0 := ⟨⟨lw_mem 686 rfl, lw_mem 34 rfl, by decide, by decide +kernel, lw_mem 683 rfl⟩, _, _, _, rfl, lw_mem 684 rfl, lw_mem 685 rfl⟩
set_option maxRecDepth 100000 in
theorem cv_Law_57 : CVM R_Law 57 m_Mod_steps ci_Mod 1 := ⟨⟨lw_mem 690 rfl, lw_mem 34 rfl, by decide, by decide +kernel, lw_mem 687 rfl⟩, _, _, _, rfl, lw_mem 688 rfl, lw_mem 689 rfl⟩
set_option maxRecDepth 100000 in
theorem cv_Law_61 : CVM R_Law 61 m_Mod_seal ci_Mod 0 := ⟨⟨lw_mem 694 rfl, lw_mem 34 rfl, by decide, by decide +kernel, lw_mem 691 rfl⟩, _, _, _, rfl, lw_mem 692 rfl, lw_mem 693 rfl⟩
set_option maxRecDepth 100000 in
theorem cv_Law_65 : CVM R_Law 65 m_Mod_guard ci_Mod 1 := ⟨⟨lw_mem 698 rfl, lw_mem 34 rfl, by decide, by decide +kernel, lw_mem 695 rfl⟩, _, _, _, rfl, lw_mem 696 rfl, lw_mem 697 rfl⟩
set_option maxRecDepth 100000 in
theorem cv_Law_70 : CVM R_Law 70 m_Mod_snapshot ci_Mod 0 := ⟨⟨lw_mem 702 rfl, lw_mem 34 rfl, by decide, by decide +kernel, lw_mem 699 rfl⟩, _, _, _, rfl, lw_mem 700 rfl, lw_mem 701 rfl⟩
set_option maxRecDepth 100000 in
theorem cv_Law_74 : CVM R_Law 74 m_Mod_release ci_Mod 1 := ⟨⟨lw_mem 706 rfl, lw_mem 34 rfl, by decide, by decide +kernel, lw_mem 703 rfl⟩, _, _, _, rfl, lw_mem 704 rfl, lw_mem 705 rfl⟩
set_option maxRecDepth 100000 in
theorem cv_Law_79 : CVM R_Law 79 m_Mod_unit ci_Mod 2 := ⟨⟨lw_mem 710 rfl, lw_mem 34 rfl, by decide, by decide +kernel, lw_mem 707 rfl⟩, _, _, _, rfl, lw_mem 708 rfl, lw_mem 709 rfl⟩
set_option maxRecDepth 100000 in
theorem cv_Mod_121 : CVM R_Mod 121 m_Mod_slot ci_Mod 1 := ⟨⟨lw_mem 714 rfl, lw_mem 34 rfl, by decide, by decide +kernel, lw_mem 711 rfl⟩, _, _, _, rfl, lw_mem 713 rfl, lw_mem 22 rfl⟩
set_option maxRecDepth 100000 in
theorem cv_Law_83 : CVM R_Law 83 m_Mod_count ci_Mod 2 := ⟨⟨lw_mem 718 rfl, lw_mem 34 rfl, by decide, by decide +kernel, lw_mem 715 rfl⟩, _, _, _, rfl, lw_mem 716 rfl, lw_mem 717 rfl⟩
set_option maxRecDepth 100000 in
theorem cv_Mod_125 : CVM R_Mod 125 m_Mod_looks ci_Mod 2 := ⟨⟨lw_mem 722 rfl, lw_mem 34 rfl, by decide, by decide +kernel, lw_mem 719 rfl⟩, _, _, _, rfl, lw_mem 721 rfl, lw_mem 23 rfl⟩
set_option maxRecDepth 100000 in
theorem cv_Law_88 : CVM R_Law 88 m_Mod_place ci_Mod 3 := ⟨⟨lw_mem 726 rfl, lw_mem 34 rfl, by decide, by decide +kernel, lw_mem 723 rfl⟩, _, _, _, rfl, lw_mem 724 rfl, lw_mem 725 rfl⟩
set_option maxRecDepth 100000 in
theorem cv_Law_92 : CVM R_Law 92 m_Mod_item ci_Mod 3 := ⟨⟨lw_mem 730 rfl, lw_mem 34 rfl, by decide, by decide +kernel, lw_mem 727 rfl⟩, _, _, _, rfl, lw_mem 728 rfl, lw_mem 729 rfl⟩
set_option maxRecDepth 100000 in
theorem cv_Law_96 : CVM R_Law 96 m_Mod_same ci_Mod 2 := ⟨⟨lw_mem 734 rfl, lw_mem 34 rfl, by decide, by decide +kernel, lw_mem 731 rfl⟩, _, _, _, rfl, lw_mem 732 rfl, lw_mem 733 rfl⟩
set_option maxRecDepth 100000 in
theorem cv_Law_100 : CVM R_Law 100 m_Mod_find ci_Mod 2 := ⟨⟨lw_mem 738 rfl, lw_mem 34 rfl, by decide, by decide +kernel, lw_mem 735 rfl⟩, _, _, _, rfl, lw_mem 736 rfl, lw_mem 737 rfl⟩
set_option maxRecDepth 100000 in
theorem cv_Mod_132 : CVM R_Mod 132 m_Mod_isPattern ci_Mod 0 := ⟨⟨lw_mem 742 rfl, lw_mem 34 rfl, by decide, by decide +kernel, lw_mem 739 rfl⟩, _, _, _, rfl, lw_mem 741 rfl, lw_mem 24 rfl⟩
set_option maxRecDepth 100000 in
theorem cv_Mod_136 : CVM R_Mod 136 m_Mod_match ci_Mod 2 := ⟨⟨lw_mem 746 rfl, lw_mem 34 rfl, by decide, by decide +kernel, lw_mem 743 rfl⟩, _, _, _, rfl, lw_mem 745 rfl, lw_mem 25 rfl⟩
set_option maxRecDepth 100000 in
theorem cs_Mod_129 : CSS R_Mod 129 m_Mod_stands 2 := ⟨⟨lw_mem 749 rfl, lw_mem 34 rfl, by decide, by decide +kernel, lw_mem 747 rfl⟩, lw_mem 748 rfl⟩
set_option maxRecDepth 100000 in
theorem cv_Law_104 : CVM R_Law 104 m_Mod_end ci_Mod 0 := ⟨⟨lw_mem 753 rfl, lw_mem 34 rfl, by decide, by decide +kernel, lw_mem 750 rfl⟩, _, _, _, rfl, lw_mem 751 rfl, lw_mem 752 rfl⟩
end
section
theorem d_Row_init_0 : decode b_Row_init 0 = .ok (.aload_n 0, 1) := by decide +kernel
theorem d_Row_init_1 : decode b_Row_init 1 = .ok (.invokespecial 3, 3) := by decide +kernel
theorem d_Row_init_4 : decode b_Row_init 4 = .ok (.aload_n 0, 1) := by decide +kernel
theorem d_Row_init_5 : decode b_Row_init 5 = .ok (.iload_n 1, 1) := by decide +kernel
theorem d_Row_init_6 : decode b_Row_init 6 = .ok (.newarray .char, 2) := by decide +kernel
theorem d_Row_init_8 : decode b_Row_init 8 = .ok (.putfield 9, 3) := by decide +kernel
theorem d_Row_init_11 : decode b_Row_init 11 = .ok (.aload_n 0, 1) := by decide +kernel
theorem d_Row_init_12 : decode b_Row_init 12 = .ok (.iconst 0, 1) := by decide +kernel
theorem d_Row_init_13 : decode b_Row_init 13 = .ok (.putfield 15, 3) := by decide +kernel
theorem d_Row_init_16 : decode b_Row_init 16 = .ok (.return_, 1) := by decide +kernel
theorem d_Row_length_0 : decode b_Row_length 0 = .ok (.aload_n 0, 1) := by decide +kernel
theorem d_Row_length_1 : decode b_Row_length 1 = .ok (.getfield 15, 3) := by decide +kernel
theorem d_Row_length_4 : decode b_Row_length 4 = .ok (.ireturn, 1) := by decide +kernel
theorem d_Row_at_0 : decode b_Row_at 0 = .ok (.iload_n 1, 1) := by decide +kernel
theorem d_Row_at_1 : decode b_Row_at 1 = .ok (.ifCond .lt 20, 3) := by decide +kernel
theorem d_Row_at_4 : decode b_Row_at 4 = .ok (.iload_n 1, 1) := by decide +kernel
theorem d_Row_at_5 : decode b_Row_at 5 = .ok (.aload_n 0, 1) := by decide +kernel
theorem d_Row_at_6 : decode b_Row_at 6 = .ok (.getfield 15, 3) := by decide +kernel
theorem d_Row_at_9 : decode b_Row_at 9 = .ok (.if_icmp .ge 12, 3) := by decide +kernel
theorem d_Row_at_12 : decode b_Row_at 12 = .ok (.aload_n 0, 1) := by decide +kernel
theorem d_Row_at_13 : decode b_Row_at 13 = .ok (.getfield 9, 3) := by decide +kernel
theorem d_Row_at_16 : decode b_Row_at 16 = .ok (.iload_n 1, 1) := by decide +kernel
theorem d_Row_at_17 : decode b_Row_at 17 = .ok (.caload, 1) := by decide +kernel
theorem d_Row_at_18 : decode b_Row_at 18 = .ok (.goto 4, 3) := by decide +kernel
theorem d_Row_at_21 : decode b_Row_at 21 = .ok (.iconst (-1), 1) := by decide +kernel
theorem d_Row_at_22 : decode b_Row_at 22 = .ok (.ireturn, 1) := by decide +kernel
theorem d_Row_cut_0 : decode b_Row_cut 0 = .ok (.aload_n 0, 1) := by decide +kernel
theorem d_Row_cut_1 : decode b_Row_cut 1 = .ok (.getfield 9, 3) := by decide +kernel
theorem d_Row_cut_4 : decode b_Row_cut 4 = .ok (.iload_n 2, 1) := by decide +kernel
theorem d_Row_cut_5 : decode b_Row_cut 5 = .ok (.aload_n 0, 1) := by decide +kernel
theorem d_Row_cut_6 : decode b_Row_cut 6 = .ok (.getfield 9, 3) := by decide +kernel
theorem d_Row_cut_9 : decode b_Row_cut 9 = .ok (.iload_n 1, 1) := by decide +kernel
theorem d_Row_cut_10 : decode b_Row_cut 10 = .ok (.aload_n 0, 1) := by decide +kernel
theorem d_Row_cut_11 : decode b_Row_cut 11 = .ok (.getfield 15, 3) := by decide +kernel
theorem d_Row_cut_14 : decode b_Row_cut 14 = .ok (.iload_n 2, 1) := by decide +kernel
theorem d_Row_cut_15 : decode b_Row_cut 15 = .ok (.isub, 1) := by decide +kernel
theorem d_Row_cut_16 : decode b_Row_cut 16 = .ok (.invokestatic 19, 3) := by decide +kernel
theorem d_Row_cut_19 : decode b_Row_cut 19 = .ok (.aload_n 0, 1) := by decide +kernel
theorem d_Row_cut_20 : decode b_Row_cut 20 = .ok (.dup, 1) := by decide +kernel
theorem d_Row_cut_21 : decode b_Row_cut 21 = .ok (.getfield 15, 3) := by decide +kernel
theorem d_Row_cut_24 : decode b_Row_cut 24 = .ok (.iload_n 2, 1) := by decide +kernel
theorem d_Row_cut_25 : decode b_Row_cut 25 = .ok (.iload_n 1, 1) := by decide +kernel
theorem d_Row_cut_26 : decode b_Row_cut 26 = .ok (.isub, 1) := by decide +kernel
theorem d_Row_cut_27 : decode b_Row_cut 27 = .ok (.isub, 1) := by decide +kernel
theorem d_Row_cut_28 : decode b_Row_cut 28 = .ok (.putfield 15, 3) := by decide +kernel
theorem d_Row_cut_31 : decode b_Row_cut 31 = .ok (.return_, 1) := by decide +kernel
theorem d_Row_put_0 : decode b_Row_put 0 = .ok (.aload_n 0, 1) := by decide +kernel
theorem d_Row_put_1 : decode b_Row_put 1 = .ok (.getfield 9, 3) := by decide +kernel
theorem d_Row_put_4 : decode b_Row_put 4 = .ok (.iload_n 1, 1) := by decide +kernel
theorem d_Row_put_5 : decode b_Row_put 5 = .ok (.aload_n 0, 1) := by decide +kernel
theorem d_Row_put_6 : decode b_Row_put 6 = .ok (.getfield 9, 3) := by decide +kernel
theorem d_Row_put_9 : decode b_Row_put 9 = .ok (.iload_n 1, 1) := by decide +kernel
theorem d_Row_put_10 : decode b_Row_put 10 = .ok (.aload_n 2, 1) := by decide +kernel
theorem d_Row_put_11 : decode b_Row_put 11 = .ok (.getfield 15, 3) := by decide +kernel
theorem d_Row_put_14 : decode b_Row_put 14 = .ok (.iadd, 1) := by decide +kernel
theorem d_Row_put_15 : decode b_Row_put 15 = .ok (.aload_n 0, 1) := by decide +kernel
theorem d_Row_put_16 : decode b_Row_put 16 = .ok (.getfield 15, 3) := by decide +kernel
theorem d_Row_put_19 : decode b_Row_put 19 = .ok (.iload_n 1, 1) := by decide +kernel
theorem d_Row_put_20 : decode b_Row_put 20 = .ok (.isub, 1) := by decide +kernel
theorem d_Row_put_21 : decode b_Row_put 21 = .ok (.invokestatic 19, 3) := by decide +kernel
theorem d_Row_put_24 : decode b_Row_put 24 = .ok (.aload_n 2, 1) := by decide +kernel
theorem d_Row_put_25 : decode b_Row_put 25 = .ok (.aload_n 0, 1) := by decide +kernel
theorem d_Row_put_26 : decode b_Row_put 26 = .ok (.getfield 9, 3) := by decide +kernel
theorem d_Row_put_29 : decode b_Row_put 29 = .ok (.iload_n 1, 1) := by decide +kernel
theorem d_Row_put_30 : decode b_Row_put 30 = .ok (.invokevirtual 25, 3) := by decide +kernel
theorem d_Row_put_33 : decode b_Row_put 33 = .ok (.aload_n 0, 1) := by decide +kernel
theorem d_Row_put_34 : decode b_Row_put 34 = .ok (.dup, 1) := by decide +kernel
theorem d_Row_put_35 : decode b_Row_put 35 = .ok (.getfield 15, 3) := by decide +kernel
theorem d_Row_put_38 : decode b_Row_put 38 = .ok (.aload_n 2, 1) := by decide +kernel
theorem d_Row_put_39 : decode b_Row_put 39 = .ok (.getfield 15, 3) := by decide +kernel
theorem d_Row_put_42 : decode b_Row_put 42 = .ok (.iadd, 1) := by decide +kernel
theorem d_Row_put_43 : decode b_Row_put 43 = .ok (.putfield 15, 3) := by decide +kernel
theorem d_Row_put_46 : decode b_Row_put 46 = .ok (.return_, 1) := by decide +kernel
theorem d_Row_become_0 : decode b_Row_become 0 = .ok (.aload_n 0, 1) := by decide +kernel
theorem d_Row_become_1 : decode b_Row_become 1 = .ok (.aload_n 1, 1) := by decide +kernel
theorem d_Row_become_2 : decode b_Row_become 2 = .ok (.invokeinterface 29 1, 5) := by decide +kernel
theorem d_Row_become_7 : decode b_Row_become 7 = .ok (.putfield 15, 3) := by decide +kernel
theorem d_Row_become_10 : decode b_Row_become 10 = .ok (.iconst 0, 1) := by decide +kernel
theorem d_Row_become_11 : decode b_Row_become 11 = .ok (.istore_n 2, 1) := by decide +kernel
theorem d_Row_become_12 : decode b_Row_become 12 = .ok (.iload_n 2, 1) := by decide +kernel
theorem d_Row_become_13 : decode b_Row_become 13 = .ok (.aload_n 0, 1) := by decide +kernel
theorem d_Row_become_14 : decode b_Row_become 14 = .ok (.getfield 15, 3) := by decide +kernel
theorem d_Row_become_17 : decode b_Row_become 17 = .ok (.if_icmp .ge 23, 3) := by decide +kernel
theorem d_Row_become_20 : decode b_Row_become 20 = .ok (.aload_n 0, 1) := by decide +kernel
theorem d_Row_become_21 : decode b_Row_become 21 = .ok (.getfield 9, 3) := by decide +kernel
theorem d_Row_become_24 : decode b_Row_become 24 = .ok (.iload_n 2, 1) := by decide +kernel
theorem d_Row_become_25 : decode b_Row_become 25 = .ok (.aload_n 1, 1) := by decide +kernel
theorem d_Row_become_26 : decode b_Row_become 26 = .ok (.iload_n 2, 1) := by decide +kernel
theorem d_Row_become_27 : decode b_Row_become 27 = .ok (.invokeinterface 34 2, 5) := by decide +kernel
theorem d_Row_become_32 : decode b_Row_become 32 = .ok (.i2c, 1) := by decide +kernel
theorem d_Row_become_33 : decode b_Row_become 33 = .ok (.castore, 1) := by decide +kernel
theorem d_Row_become_34 : decode b_Row_become 34 = .ok (.iinc 2 1, 3) := by decide +kernel
theorem d_Row_become_37 : decode b_Row_become 37 = .ok (.goto (-25), 3) := by decide +kernel
theorem d_Row_become_40 : decode b_Row_become 40 = .ok (.return_, 1) := by decide +kernel
theorem d_Row_append_0 : decode b_Row_append 0 = .ok (.aload_n 0, 1) := by decide +kernel
theorem d_Row_append_1 : decode b_Row_append 1 = .ok (.getfield 15, 3) := by decide +kernel
theorem d_Row_append_4 : decode b_Row_append 4 = .ok (.aload_n 0, 1) := by decide +kernel
theorem d_Row_append_5 : decode b_Row_append 5 = .ok (.getfield 9, 3) := by decide +kernel
theorem d_Row_append_8 : decode b_Row_append 8 = .ok (.arraylength, 1) := by decide +kernel
theorem d_Row_append_9 : decode b_Row_append 9 = .ok (.if_icmp .lt 5, 3) := by decide +kernel
theorem d_Row_append_12 : decode b_Row_append 12 = .ok (.iconst 0, 1) := by decide +kernel
theorem d_Row_append_13 : decode b_Row_append 13 = .ok (.ireturn, 1) := by decide +kernel
theorem d_Row_append_14 : decode b_Row_append 14 = .ok (.aload_n 0, 1) := by decide +kernel
theorem d_Row_append_15 : decode b_Row_append 15 = .ok (.getfield 9, 3) := by decide +kernel
theorem d_Row_append_18 : decode b_Row_append 18 = .ok (.aload_n 0, 1) := by decide +kernel
theorem d_Row_append_19 : decode b_Row_append 19 = .ok (.getfield 15, 3) := by decide +kernel
theorem d_Row_append_22 : decode b_Row_append 22 = .ok (.iload_n 1, 1) := by decide +kernel
theorem d_Row_append_23 : decode b_Row_append 23 = .ok (.castore, 1) := by decide +kernel
theorem d_Row_append_24 : decode b_Row_append 24 = .ok (.aload_n 0, 1) := by decide +kernel
theorem d_Row_append_25 : decode b_Row_append 25 = .ok (.dup, 1) := by decide +kernel
theorem d_Row_append_26 : decode b_Row_append 26 = .ok (.getfield 15, 3) := by decide +kernel
theorem d_Row_append_29 : decode b_Row_append 29 = .ok (.iconst 1, 1) := by decide +kernel
theorem d_Row_append_30 : decode b_Row_append 30 = .ok (.iadd, 1) := by decide +kernel
theorem d_Row_append_31 : decode b_Row_append 31 = .ok (.putfield 15, 3) := by decide +kernel
theorem d_Row_append_34 : decode b_Row_append 34 = .ok (.iconst 1, 1) := by decide +kernel
theorem d_Row_append_35 : decode b_Row_append 35 = .ok (.ireturn, 1) := by decide +kernel
theorem d_Row_copyInto_0 : decode b_Row_copyInto 0 = .ok (.aload_n 0, 1) := by decide +kernel
theorem d_Row_copyInto_1 : decode b_Row_copyInto 1 = .ok (.getfield 9, 3) := by decide +kernel
theorem d_Row_copyInto_4 : decode b_Row_copyInto 4 = .ok (.iconst 0, 1) := by decide +kernel
theorem d_Row_copyInto_5 : decode b_Row_copyInto 5 = .ok (.aload_n 1, 1) := by decide +kernel
theorem d_Row_copyInto_6 : decode b_Row_copyInto 6 = .ok (.iload_n 2, 1) := by decide +kernel
theorem d_Row_copyInto_7 : decode b_Row_copyInto 7 = .ok (.aload_n 0, 1) := by decide +kernel
theorem d_Row_copyInto_8 : decode b_Row_copyInto 8 = .ok (.getfield 15, 3) := by decide +kernel
theorem d_Row_copyInto_11 : decode b_Row_copyInto 11 = .ok (.invokestatic 19, 3) := by decide +kernel
theorem d_Row_copyInto_14 : decode b_Row_copyInto 14 = .ok (.return_, 1) := by decide +kernel
theorem d_Gap_init_0 : decode b_Gap_init 0 = .ok (.aload_n 0, 1) := by decide +kernel
theorem d_Gap_init_1 : decode b_Gap_init 1 = .ok (.invokespecial 3, 3) := by decide +kernel
theorem d_Gap_init_4 : decode b_Gap_init 4 = .ok (.aload_n 0, 1) := by decide +kernel
theorem d_Gap_init_5 : decode b_Gap_init 5 = .ok (.iload_n 1, 1) := by decide +kernel
theorem d_Gap_init_6 : decode b_Gap_init 6 = .ok (.newarray .char, 2) := by decide +kernel
theorem d_Gap_init_8 : decode b_Gap_init 8 = .ok (.putfield 9, 3) := by decide +kernel
theorem d_Gap_init_11 : decode b_Gap_init 11 = .ok (.aload_n 0, 1) := by decide +kernel
theorem d_Gap_init_12 : decode b_Gap_init 12 = .ok (.iconst 0, 1) := by decide +kernel
theorem d_Gap_init_13 : decode b_Gap_init 13 = .ok (.putfield 15, 3) := by decide +kernel
theorem d_Gap_init_16 : decode b_Gap_init 16 = .ok (.aload_n 0, 1) := by decide +kernel
theorem d_Gap_init_17 : decode b_Gap_init 17 = .ok (.iload_n 1, 1) := by decide +kernel
theorem d_Gap_init_18 : decode b_Gap_init 18 = .ok (.putfield 19, 3) := by decide +kernel
theorem d_Gap_init_21 : decode b_Gap_init 21 = .ok (.return_, 1) := by decide +kernel
theorem d_Gap_length_0 : decode b_Gap_length 0 = .ok (.aload_n 0, 1) := by decide +kernel
theorem d_Gap_length_1 : decode b_Gap_length 1 = .ok (.getfield 9, 3) := by decide +kernel
theorem d_Gap_length_4 : decode b_Gap_length 4 = .ok (.arraylength, 1) := by decide +kernel
theorem d_Gap_length_5 : decode b_Gap_length 5 = .ok (.aload_n 0, 1) := by decide +kernel
theorem d_Gap_length_6 : decode b_Gap_length 6 = .ok (.getfield 19, 3) := by decide +kernel
theorem d_Gap_length_9 : decode b_Gap_length 9 = .ok (.aload_n 0, 1) := by decide +kernel
theorem d_Gap_length_10 : decode b_Gap_length 10 = .ok (.getfield 15, 3) := by decide +kernel
theorem d_Gap_length_13 : decode b_Gap_length 13 = .ok (.isub, 1) := by decide +kernel
theorem d_Gap_length_14 : decode b_Gap_length 14 = .ok (.isub, 1) := by decide +kernel
theorem d_Gap_length_15 : decode b_Gap_length 15 = .ok (.ireturn, 1) := by decide +kernel
theorem d_Gap_at_0 : decode b_Gap_at 0 = .ok (.iload_n 1, 1) := by decide +kernel
theorem d_Gap_at_1 : decode b_Gap_at 1 = .ok (.ifCond .lt 11, 3) := by decide +kernel
theorem d_Gap_at_4 : decode b_Gap_at 4 = .ok (.iload_n 1, 1) := by decide +kernel
theorem d_Gap_at_5 : decode b_Gap_at 5 = .ok (.aload_n 0, 1) := by decide +kernel
theorem d_Gap_at_6 : decode b_Gap_at 6 = .ok (.invokevirtual 22, 3) := by decide +kernel
theorem d_Gap_at_9 : decode b_Gap_at 9 = .ok (.if_icmp .lt 5, 3) := by decide +kernel
theorem d_Gap_at_12 : decode b_Gap_at 12 = .ok (.iconst (-1), 1) := by decide +kernel
theorem d_Gap_at_13 : decode b_Gap_at 13 = .ok (.ireturn, 1) := by decide +kernel
theorem d_Gap_at_14 : decode b_Gap_at 14 = .ok (.iload_n 1, 1) := by decide +kernel
theorem d_Gap_at_15 : decode b_Gap_at 15 = .ok (.aload_n 0, 1) := by decide +kernel
theorem d_Gap_at_16 : decode b_Gap_at 16 = .ok (.getfield 15, 3) := by decide +kernel
theorem d_Gap_at_19 : decode b_Gap_at 19 = .ok (.if_icmp .ge 12, 3) := by decide +kernel
theorem d_Gap_at_22 : decode b_Gap_at 22 = .ok (.aload_n 0, 1) := by decide +kernel
theorem d_Gap_at_23 : decode b_Gap_at 23 = .ok (.getfield 9, 3) := by decide +kernel
theorem d_Gap_at_26 : decode b_Gap_at 26 = .ok (.iload_n 1, 1) := by decide +kernel
theorem d_Gap_at_27 : decode b_Gap_at 27 = .ok (.caload, 1) := by decide +kernel
theorem d_Gap_at_28 : decode b_Gap_at 28 = .ok (.goto 19, 3) := by decide +kernel
theorem d_Gap_at_31 : decode b_Gap_at 31 = .ok (.aload_n 0, 1) := by decide +kernel
theorem d_Gap_at_32 : decode b_Gap_at 32 = .ok (.getfield 9, 3) := by decide +kernel
theorem d_Gap_at_35 : decode b_Gap_at 35 = .ok (.iload_n 1, 1) := by decide +kernel
theorem d_Gap_at_36 : decode b_Gap_at 36 = .ok (.aload_n 0, 1) := by decide +kernel
theorem d_Gap_at_37 : decode b_Gap_at 37 = .ok (.getfield 19, 3) := by decide +kernel
theorem d_Gap_at_40 : decode b_Gap_at 40 = .ok (.iadd, 1) := by decide +kernel
theorem d_Gap_at_41 : decode b_Gap_at 41 = .ok (.aload_n 0, 1) := by decide +kernel
theorem d_Gap_at_42 : decode b_Gap_at 42 = .ok (.getfield 15, 3) := by decide +kernel
theorem d_Gap_at_45 : decode b_Gap_at 45 = .ok (.isub, 1) := by decide +kernel
theorem d_Gap_at_46 : decode b_Gap_at 46 = .ok (.caload, 1) := by decide +kernel
theorem d_Gap_at_47 : decode b_Gap_at 47 = .ok (.ireturn, 1) := by decide +kernel
theorem d_Gap_cut_0 : decode b_Gap_cut 0 = .ok (.aload_n 0, 1) := by decide +kernel
theorem d_Gap_cut_1 : decode b_Gap_cut 1 = .ok (.iload_n 1, 1) := by decide +kernel
theorem d_Gap_cut_2 : decode b_Gap_cut 2 = .ok (.invokevirtual 26, 3) := by decide +kernel
theorem d_Gap_cut_5 : decode b_Gap_cut 5 = .ok (.aload_n 0, 1) := by decide +kernel
theorem d_Gap_cut_6 : decode b_Gap_cut 6 = .ok (.dup, 1) := by decide +kernel
theorem d_Gap_cut_7 : decode b_Gap_cut 7 = .ok (.getfield 19, 3) := by decide +kernel
theorem d_Gap_cut_10 : decode b_Gap_cut 10 = .ok (.iload_n 2, 1) := by decide +kernel
theorem d_Gap_cut_11 : decode b_Gap_cut 11 = .ok (.iload_n 1, 1) := by decide +kernel
theorem d_Gap_cut_12 : decode b_Gap_cut 12 = .ok (.isub, 1) := by decide +kernel
theorem d_Gap_cut_13 : decode b_Gap_cut 13 = .ok (.iadd, 1) := by decide +kernel
theorem d_Gap_cut_14 : decode b_Gap_cut 14 = .ok (.putfield 19, 3) := by decide +kernel
theorem d_Gap_cut_17 : decode b_Gap_cut 17 = .ok (.return_, 1) := by decide +kernel
theorem d_Gap_put_0 : decode b_Gap_put 0 = .ok (.aload_n 0, 1) := by decide +kernel
theorem d_Gap_put_1 : decode b_Gap_put 1 = .ok (.iload_n 1, 1) := by decide +kernel
theorem d_Gap_put_2 : decode b_Gap_put 2 = .ok (.invokevirtual 26, 3) := by decide +kernel
theorem d_Gap_put_5 : decode b_Gap_put 5 = .ok (.aload_n 2, 1) := by decide +kernel
theorem d_Gap_put_6 : decode b_Gap_put 6 = .ok (.aload_n 0, 1) := by decide +kernel
theorem d_Gap_put_7 : decode b_Gap_put 7 = .ok (.getfield 9, 3) := by decide +kernel
theorem d_Gap_put_10 : decode b_Gap_put 10 = .ok (.iload_n 1, 1) := by decide +kernel
theorem d_Gap_put_11 : decode b_Gap_put 11 = .ok (.invokevirtual 30, 3) := by decide +kernel
theorem d_Gap_put_14 : decode b_Gap_put 14 = .ok (.aload_n 0, 1) := by decide +kernel
theorem d_Gap_put_15 : decode b_Gap_put 15 = .ok (.dup, 1) := by decide +kernel
theorem d_Gap_put_16 : decode b_Gap_put 16 = .ok (.getfield 15, 3) := by decide +kernel
theorem d_Gap_put_19 : decode b_Gap_put 19 = .ok (.aload_n 2, 1) := by decide +kernel
theorem d_Gap_put_20 : decode b_Gap_put 20 = .ok (.invokevirtual 36, 3) := by decide +kernel
theorem d_Gap_put_23 : decode b_Gap_put 23 = .ok (.iadd, 1) := by decide +kernel
theorem d_Gap_put_24 : decode b_Gap_put 24 = .ok (.putfield 15, 3) := by decide +kernel
theorem d_Gap_put_27 : decode b_Gap_put 27 = .ok (.return_, 1) := by decide +kernel
theorem d_Gap_become_0 : decode b_Gap_become 0 = .ok (.aload_n 0, 1) := by decide +kernel
theorem d_Gap_become_1 : decode b_Gap_become 1 = .ok (.aload_n 1, 1) := by decide +kernel
theorem d_Gap_become_2 : decode b_Gap_become 2 = .ok (.invokeinterface 37 1, 5) := by decide +kernel
theorem d_Gap_become_7 : decode b_Gap_become 7 = .ok (.putfield 15, 3) := by decide +kernel
theorem d_Gap_become_10 : decode b_Gap_become 10 = .ok (.aload_n 0, 1) := by decide +kernel
theorem d_Gap_become_11 : decode b_Gap_become 11 = .ok (.aload_n 0, 1) := by decide +kernel
theorem d_Gap_become_12 : decode b_Gap_become 12 = .ok (.getfield 9, 3) := by decide +kernel
theorem d_Gap_become_15 : decode b_Gap_become 15 = .ok (.arraylength, 1) := by decide +kernel
theorem d_Gap_become_16 : decode b_Gap_become 16 = .ok (.putfield 19, 3) := by decide +kernel
theorem d_Gap_become_19 : decode b_Gap_become 19 = .ok (.iconst 0, 1) := by decide +kernel
theorem d_Gap_become_20 : decode b_Gap_become 20 = .ok (.istore_n 2, 1) := by decide +kernel
theorem d_Gap_become_21 : decode b_Gap_become 21 = .ok (.iload_n 2, 1) := by decide +kernel
theorem d_Gap_become_22 : decode b_Gap_become 22 = .ok (.aload_n 0, 1) := by decide +kernel
theorem d_Gap_become_23 : decode b_Gap_become 23 = .ok (.getfield 15, 3) := by decide +kernel
theorem d_Gap_become_26 : decode b_Gap_become 26 = .ok (.if_icmp .ge 23, 3) := by decide +kernel
theorem d_Gap_become_29 : decode b_Gap_become 29 = .ok (.aload_n 0, 1) := by decide +kernel
theorem d_Gap_become_30 : decode b_Gap_become 30 = .ok (.getfield 9, 3) := by decide +kernel
theorem d_Gap_become_33 : decode b_Gap_become 33 = .ok (.iload_n 2, 1) := by decide +kernel
theorem d_Gap_become_34 : decode b_Gap_become 34 = .ok (.aload_n 1, 1) := by decide +kernel
theorem d_Gap_become_35 : decode b_Gap_become 35 = .ok (.iload_n 2, 1) := by decide +kernel
theorem d_Gap_become_36 : decode b_Gap_become 36 = .ok (.invokeinterface 40 2, 5) := by decide +kernel
theorem d_Gap_become_41 : decode b_Gap_become 41 = .ok (.i2c, 1) := by decide +kernel
theorem d_Gap_become_42 : decode b_Gap_become 42 = .ok (.castore, 1) := by decide +kernel
theorem d_Gap_become_43 : decode b_Gap_become 43 = .ok (.iinc 2 1, 3) := by decide +kernel
theorem d_Gap_become_46 : decode b_Gap_become 46 = .ok (.goto (-25), 3) := by decide +kernel
theorem d_Gap_become_49 : decode b_Gap_become 49 = .ok (.return_, 1) := by decide +kernel
theorem d_Gap_moveGap_0 : decode b_Gap_moveGap 0 = .ok (.aload_n 0, 1) := by decide +kernel
theorem d_Gap_moveGap_1 : decode b_Gap_moveGap 1 = .ok (.getfield 19, 3) := by decide +kernel
theorem d_Gap_moveGap_4 : decode b_Gap_moveGap 4 = .ok (.aload_n 0, 1) := by decide +kernel
theorem d_Gap_moveGap_5 : decode b_Gap_moveGap 5 = .ok (.getfield 15, 3) := by decide +kernel
theorem d_Gap_moveGap_8 : decode b_Gap_moveGap 8 = .ok (.isub, 1) := by decide +kernel
theorem d_Gap_moveGap_9 : decode b_Gap_moveGap 9 = .ok (.istore_n 2, 1) := by decide +kernel
theorem d_Gap_moveGap_10 : decode b_Gap_moveGap 10 = .ok (.iload_n 1, 1) := by decide +kernel
theorem d_Gap_moveGap_11 : decode b_Gap_moveGap 11 = .ok (.aload_n 0, 1) := by decide +kernel
theorem d_Gap_moveGap_12 : decode b_Gap_moveGap 12 = .ok (.getfield 15, 3) := by decide +kernel
theorem d_Gap_moveGap_15 : decode b_Gap_moveGap 15 = .ok (.if_icmp .ge 27, 3) := by decide +kernel
theorem d_Gap_moveGap_18 : decode b_Gap_moveGap 18 = .ok (.aload_n 0, 1) := by decide +kernel
theorem d_Gap_moveGap_19 : decode b_Gap_moveGap 19 = .ok (.getfield 9, 3) := by decide +kernel
theorem d_Gap_moveGap_22 : decode b_Gap_moveGap 22 = .ok (.iload_n 1, 1) := by decide +kernel
theorem d_Gap_moveGap_23 : decode b_Gap_moveGap 23 = .ok (.aload_n 0, 1) := by decide +kernel
theorem d_Gap_moveGap_24 : decode b_Gap_moveGap 24 = .ok (.getfield 9, 3) := by decide +kernel
theorem d_Gap_moveGap_27 : decode b_Gap_moveGap 27 = .ok (.iload_n 1, 1) := by decide +kernel
theorem d_Gap_moveGap_28 : decode b_Gap_moveGap 28 = .ok (.iload_n 2, 1) := by decide +kernel
theorem d_Gap_moveGap_29 : decode b_Gap_moveGap 29 = .ok (.iadd, 1) := by decide +kernel
theorem d_Gap_moveGap_30 : decode b_Gap_moveGap 30 = .ok (.aload_n 0, 1) := by decide +kernel
theorem d_Gap_moveGap_31 : decode b_Gap_moveGap 31 = .ok (.getfield 15, 3) := by decide +kernel
theorem d_Gap_moveGap_34 : decode b_Gap_moveGap 34 = .ok (.iload_n 1, 1) := by decide +kernel
theorem d_Gap_moveGap_35 : decode b_Gap_moveGap 35 = .ok (.isub, 1) := by decide +kernel
theorem d_Gap_moveGap_36 : decode b_Gap_moveGap 36 = .ok (.invokestatic 44, 3) := by decide +kernel
theorem d_Gap_moveGap_39 : decode b_Gap_moveGap 39 = .ok (.goto 28, 3) := by decide +kernel
theorem d_Gap_moveGap_42 : decode b_Gap_moveGap 42 = .ok (.aload_n 0, 1) := by decide +kernel
theorem d_Gap_moveGap_43 : decode b_Gap_moveGap 43 = .ok (.getfield 9, 3) := by decide +kernel
theorem d_Gap_moveGap_46 : decode b_Gap_moveGap 46 = .ok (.aload_n 0, 1) := by decide +kernel
theorem d_Gap_moveGap_47 : decode b_Gap_moveGap 47 = .ok (.getfield 19, 3) := by decide +kernel
theorem d_Gap_moveGap_50 : decode b_Gap_moveGap 50 = .ok (.aload_n 0, 1) := by decide +kernel
theorem d_Gap_moveGap_51 : decode b_Gap_moveGap 51 = .ok (.getfield 9, 3) := by decide +kernel
theorem d_Gap_moveGap_54 : decode b_Gap_moveGap 54 = .ok (.aload_n 0, 1) := by decide +kernel
theorem d_Gap_moveGap_55 : decode b_Gap_moveGap 55 = .ok (.getfield 15, 3) := by decide +kernel
theorem d_Gap_moveGap_58 : decode b_Gap_moveGap 58 = .ok (.iload_n 1, 1) := by decide +kernel
theorem d_Gap_moveGap_59 : decode b_Gap_moveGap 59 = .ok (.aload_n 0, 1) := by decide +kernel
theorem d_Gap_moveGap_60 : decode b_Gap_moveGap 60 = .ok (.getfield 15, 3) := by decide +kernel
theorem d_Gap_moveGap_63 : decode b_Gap_moveGap 63 = .ok (.isub, 1) := by decide +kernel
theorem d_Gap_moveGap_64 : decode b_Gap_moveGap 64 = .ok (.invokestatic 44, 3) := by decide +kernel
theorem d_Gap_moveGap_67 : decode b_Gap_moveGap 67 = .ok (.aload_n 0, 1) := by decide +kernel
theorem d_Gap_moveGap_68 : decode b_Gap_moveGap 68 = .ok (.iload_n 1, 1) := by decide +kernel
theorem d_Gap_moveGap_69 : decode b_Gap_moveGap 69 = .ok (.putfield 15, 3) := by decide +kernel
theorem d_Gap_moveGap_72 : decode b_Gap_moveGap 72 = .ok (.aload_n 0, 1) := by decide +kernel
theorem d_Gap_moveGap_73 : decode b_Gap_moveGap 73 = .ok (.iload_n 1, 1) := by decide +kernel
theorem d_Gap_moveGap_74 : decode b_Gap_moveGap 74 = .ok (.iload_n 2, 1) := by decide +kernel
theorem d_Gap_moveGap_75 : decode b_Gap_moveGap 75 = .ok (.iadd, 1) := by decide +kernel
theorem d_Gap_moveGap_76 : decode b_Gap_moveGap 76 = .ok (.putfield 19, 3) := by decide +kernel
theorem d_Gap_moveGap_79 : decode b_Gap_moveGap 79 = .ok (.return_, 1) := by decide +kernel
theorem d_His_init_0 : decode b_His_init 0 = .ok (.aload_n 0, 1) := by decide +kernel
theorem d_His_init_1 : decode b_His_init 1 = .ok (.invokespecial 3, 3) := by decide +kernel
theorem d_His_init_4 : decode b_His_init 4 = .ok (.aload_n 0, 1) := by decide +kernel
theorem d_His_init_5 : decode b_His_init 5 = .ok (.bipush 9, 2) := by decide +kernel
theorem d_His_init_7 : decode b_His_init 7 = .ok (.anewarray 11, 3) := by decide +kernel
theorem d_His_init_10 : decode b_His_init 10 = .ok (.putfield 13, 3) := by decide +kernel
theorem d_His_init_13 : decode b_His_init 13 = .ok (.iconst 0, 1) := by decide +kernel
theorem d_His_init_14 : decode b_His_init 14 = .ok (.istore_n 1, 1) := by decide +kernel
theorem d_His_init_15 : decode b_His_init 15 = .ok (.iload_n 1, 1) := by decide +kernel
theorem d_His_init_16 : decode b_His_init 16 = .ok (.bipush 9, 2) := by decide +kernel
theorem d_His_init_18 : decode b_His_init 18 = .ok (.if_icmp .ge 25, 3) := by decide +kernel
theorem d_His_init_21 : decode b_His_init 21 = .ok (.aload_n 0, 1) := by decide +kernel
theorem d_His_init_22 : decode b_His_init 22 = .ok (.getfield 13, 3) := by decide +kernel
theorem d_His_init_25 : decode b_His_init 25 = .ok (.iload_n 1, 1) := by decide +kernel
theorem d_His_init_26 : decode b_His_init 26 = .ok (.new 11, 3) := by decide +kernel
theorem d_His_init_29 : decode b_His_init 29 = .ok (.dup, 1) := by decide +kernel
theorem d_His_init_30 : decode b_His_init 30 = .ok (.sipush 160, 3) := by decide +kernel
theorem d_His_init_33 : decode b_His_init 33 = .ok (.invokespecial 17, 3) := by decide +kernel
theorem d_His_init_36 : decode b_His_init 36 = .ok (.aastore, 1) := by decide +kernel
theorem d_His_init_37 : decode b_His_init 37 = .ok (.iinc 1 1, 3) := by decide +kernel
theorem d_His_init_40 : decode b_His_init 40 = .ok (.goto (-25), 3) := by decide +kernel
theorem d_His_init_43 : decode b_His_init 43 = .ok (.aload_n 0, 1) := by decide +kernel
theorem d_His_init_44 : decode b_His_init 44 = .ok (.iconst 0, 1) := by decide +kernel
theorem d_His_init_45 : decode b_His_init 45 = .ok (.putfield 20, 3) := by decide +kernel
theorem d_His_init_48 : decode b_His_init 48 = .ok (.aload_n 0, 1) := by decide +kernel
theorem d_His_init_49 : decode b_His_init 49 = .ok (.iconst 0, 1) := by decide +kernel
theorem d_His_init_50 : decode b_His_init 50 = .ok (.putfield 24, 3) := by decide +kernel
theorem d_His_init_53 : decode b_His_init 53 = .ok (.aload_n 0, 1) := by decide +kernel
theorem d_His_init_54 : decode b_His_init 54 = .ok (.iconst 0, 1) := by decide +kernel
theorem d_His_init_55 : decode b_His_init 55 = .ok (.putfield 27, 3) := by decide +kernel
theorem d_His_init_58 : decode b_His_init 58 = .ok (.return_, 1) := by decide +kernel
theorem d_His_undoable_0 : decode b_His_undoable 0 = .ok (.aload_n 0, 1) := by decide +kernel
theorem d_His_undoable_1 : decode b_His_undoable 1 = .ok (.getfield 24, 3) := by decide +kernel
theorem d_His_undoable_4 : decode b_His_undoable 4 = .ok (.ireturn, 1) := by decide +kernel
theorem d_His_redoable_0 : decode b_His_redoable 0 = .ok (.aload_n 0, 1) := by decide +kernel
theorem d_His_redoable_1 : decode b_His_redoable 1 = .ok (.getfield 27, 3) := by decide +kernel
theorem d_His_redoable_4 : decode b_His_redoable 4 = .ok (.ireturn, 1) := by decide +kernel
theorem d_His_addStep_0 : decode b_His_addStep 0 = .ok (.aload_n 0, 1) := by decide +kernel
theorem d_His_addStep_1 : decode b_His_addStep 1 = .ok (.iconst 0, 1) := by decide +kernel
theorem d_His_addStep_2 : decode b_His_addStep 2 = .ok (.putfield 27, 3) := by decide +kernel
theorem d_His_addStep_5 : decode b_His_addStep 5 = .ok (.aload_n 0, 1) := by decide +kernel
theorem d_His_addStep_6 : decode b_His_addStep 6 = .ok (.getfield 24, 3) := by decide +kernel
theorem d_His_addStep_9 : decode b_His_addStep 9 = .ok (.bipush 8, 2) := by decide +kernel
theorem d_His_addStep_11 : decode b_His_addStep 11 = .ok (.if_icmp .ge 16, 3) := by decide +kernel
theorem d_His_addStep_14 : decode b_His_addStep 14 = .ok (.aload_n 0, 1) := by decide +kernel
theorem d_His_addStep_15 : decode b_His_addStep 15 = .ok (.dup, 1) := by decide +kernel
theorem d_His_addStep_16 : decode b_His_addStep 16 = .ok (.getfield 24, 3) := by decide +kernel
theorem d_His_addStep_19 : decode b_His_addStep 19 = .ok (.iconst 1, 1) := by decide +kernel
theorem d_His_addStep_20 : decode b_His_addStep 20 = .ok (.iadd, 1) := by decide +kernel
theorem d_His_addStep_21 : decode b_His_addStep 21 = .ok (.putfield 24, 3) := by decide +kernel
theorem d_His_addStep_24 : decode b_His_addStep 24 = .ok (.goto 16, 3) := by decide +kernel
theorem d_His_addStep_27 : decode b_His_addStep 27 = .ok (.aload_n 0, 1) := by decide +kernel
theorem d_His_addStep_28 : decode b_His_addStep 28 = .ok (.aload_n 0, 1) := by decide +kernel
theorem d_His_addStep_29 : decode b_His_addStep 29 = .ok (.getfield 20, 3) := by decide +kernel
theorem d_His_addStep_32 : decode b_His_addStep 32 = .ok (.iconst 1, 1) := by decide +kernel
theorem d_His_addStep_33 : decode b_His_addStep 33 = .ok (.iadd, 1) := by decide +kernel
theorem d_His_addStep_34 : decode b_His_addStep 34 = .ok (.bipush 9, 2) := by decide +kernel
theorem d_His_addStep_36 : decode b_His_addStep 36 = .ok (.irem, 1) := by decide +kernel
theorem d_His_addStep_37 : decode b_His_addStep 37 = .ok (.putfield 20, 3) := by decide +kernel
theorem d_His_addStep_40 : decode b_His_addStep 40 = .ok (.aload_n 0, 1) := by decide +kernel
theorem d_His_addStep_41 : decode b_His_addStep 41 = .ok (.invokevirtual 30, 3) := by decide +kernel
theorem d_His_addStep_44 : decode b_His_addStep 44 = .ok (.aload_n 1, 1) := by decide +kernel
theorem d_His_addStep_45 : decode b_His_addStep 45 = .ok (.invokevirtual 34, 3) := by decide +kernel
theorem d_His_addStep_48 : decode b_His_addStep 48 = .ok (.return_, 1) := by decide +kernel
theorem d_His_extendStep_0 : decode b_His_extendStep 0 = .ok (.aload_n 0, 1) := by decide +kernel
theorem d_His_extendStep_1 : decode b_His_extendStep 1 = .ok (.invokevirtual 30, 3) := by decide +kernel
theorem d_His_extendStep_4 : decode b_His_extendStep 4 = .ok (.aload_n 1, 1) := by decide +kernel
theorem d_His_extendStep_5 : decode b_His_extendStep 5 = .ok (.invokevirtual 34, 3) := by decide +kernel
theorem d_His_extendStep_8 : decode b_His_extendStep 8 = .ok (.return_, 1) := by decide +kernel
theorem d_His_goBack_0 : decode b_His_goBack 0 = .ok (.aload_n 0, 1) := by decide +kernel
theorem d_His_goBack_1 : decode b_His_goBack 1 = .ok (.dup, 1) := by decide +kernel
theorem d_His_goBack_2 : decode b_His_goBack 2 = .ok (.getfield 24, 3) := by decide +kernel
theorem d_His_goBack_5 : decode b_His_goBack 5 = .ok (.iconst 1, 1) := by decide +kernel
theorem d_His_goBack_6 : decode b_His_goBack 6 = .ok (.isub, 1) := by decide +kernel
theorem d_His_goBack_7 : decode b_His_goBack 7 = .ok (.putfield 24, 3) := by decide +kernel
theorem d_His_goBack_10 : decode b_His_goBack 10 = .ok (.aload_n 0, 1) := by decide +kernel
theorem d_His_goBack_11 : decode b_His_goBack 11 = .ok (.dup, 1) := by decide +kernel
theorem d_His_goBack_12 : decode b_His_goBack 12 = .ok (.getfield 27, 3) := by decide +kernel
theorem d_His_goBack_15 : decode b_His_goBack 15 = .ok (.iconst 1, 1) := by decide +kernel
theorem d_His_goBack_16 : decode b_His_goBack 16 = .ok (.iadd, 1) := by decide +kernel
theorem d_His_goBack_17 : decode b_His_goBack 17 = .ok (.putfield 27, 3) := by decide +kernel
theorem d_His_goBack_20 : decode b_His_goBack 20 = .ok (.aload_n 1, 1) := by decide +kernel
theorem d_His_goBack_21 : decode b_His_goBack 21 = .ok (.aload_n 0, 1) := by decide +kernel
theorem d_His_goBack_22 : decode b_His_goBack 22 = .ok (.invokevirtual 30, 3) := by decide +kernel
theorem d_His_goBack_25 : decode b_His_goBack 25 = .ok (.invokeinterface 38 2, 5) := by decide +kernel
theorem d_His_goBack_30 : decode b_His_goBack 30 = .ok (.return_, 1) := by decide +kernel
theorem d_His_goForward_0 : decode b_His_goForward 0 = .ok (.aload_n 0, 1) := by decide +kernel
theorem d_His_goForward_1 : decode b_His_goForward 1 = .ok (.dup, 1) := by decide +kernel
theorem d_His_goForward_2 : decode b_His_goForward 2 = .ok (.getfield 24, 3) := by decide +kernel
theorem d_His_goForward_5 : decode b_His_goForward 5 = .ok (.iconst 1, 1) := by decide +kernel
theorem d_His_goForward_6 : decode b_His_goForward 6 = .ok (.iadd, 1) := by decide +kernel
theorem d_His_goForward_7 : decode b_His_goForward 7 = .ok (.putfield 24, 3) := by decide +kernel
theorem d_His_goForward_10 : decode b_His_goForward 10 = .ok (.aload_n 0, 1) := by decide +kernel
theorem d_His_goForward_11 : decode b_His_goForward 11 = .ok (.dup, 1) := by decide +kernel
theorem d_His_goForward_12 : decode b_His_goForward 12 = .ok (.getfield 27, 3) := by decide +kernel
theorem d_His_goForward_15 : decode b_His_goForward 15 = .ok (.iconst 1, 1) := by decide +kernel
theorem d_His_goForward_16 : decode b_His_goForward 16 = .ok (.isub, 1) := by decide +kernel
theorem d_His_goForward_17 : decode b_His_goForward 17 = .ok (.putfield 27, 3) := by decide +kernel
theorem d_His_goForward_20 : decode b_His_goForward 20 = .ok (.aload_n 1, 1) := by decide +kernel
theorem d_His_goForward_21 : decode b_His_goForward 21 = .ok (.aload_n 0, 1) := by decide +kernel
theorem d_His_goForward_22 : decode b_His_goForward 22 = .ok (.invokevirtual 30, 3) := by decide +kernel
theorem d_His_goForward_25 : decode b_His_goForward 25 = .ok (.invokeinterface 38 2, 5) := by decide +kernel
theorem d_His_goForward_30 : decode b_His_goForward 30 = .ok (.return_, 1) := by decide +kernel
theorem d_His_latest_0 : decode b_His_latest 0 = .ok (.aload_n 0, 1) := by decide +kernel
theorem d_His_latest_1 : decode b_His_latest 1 = .ok (.getfield 13, 3) := by decide +kernel
theorem d_His_latest_4 : decode b_His_latest 4 = .ok (.aload_n 0, 1) := by decide +kernel
theorem d_His_latest_5 : decode b_His_latest 5 = .ok (.getfield 20, 3) := by decide +kernel
theorem d_His_latest_8 : decode b_His_latest 8 = .ok (.aload_n 0, 1) := by decide +kernel
theorem d_His_latest_9 : decode b_His_latest 9 = .ok (.getfield 24, 3) := by decide +kernel
theorem d_His_latest_12 : decode b_His_latest 12 = .ok (.iadd, 1) := by decide +kernel
theorem d_His_latest_13 : decode b_His_latest 13 = .ok (.bipush 9, 2) := by decide +kernel
theorem d_His_latest_15 : decode b_His_latest 15 = .ok (.irem, 1) := by decide +kernel
theorem d_His_latest_16 : decode b_His_latest 16 = .ok (.aaload, 1) := by decide +kernel
theorem d_His_latest_17 : decode b_His_latest 17 = .ok (.areturn, 1) := by decide +kernel
theorem d_Clu_init_0 : decode b_Clu_init 0 = .ok (.aload_n 0, 1) := by decide +kernel
theorem d_Clu_init_1 : decode b_Clu_init 1 = .ok (.invokespecial 3, 3) := by decide +kernel
theorem d_Clu_init_4 : decode b_Clu_init 4 = .ok (.aload_n 0, 1) := by decide +kernel
theorem d_Clu_init_5 : decode b_Clu_init 5 = .ok (.iconst (-1), 1) := by decide +kernel
theorem d_Clu_init_6 : decode b_Clu_init 6 = .ok (.putfield 9, 3) := by decide +kernel
theorem d_Clu_init_9 : decode b_Clu_init 9 = .ok (.aload_n 0, 1) := by decide +kernel
theorem d_Clu_init_10 : decode b_Clu_init 10 = .ok (.iconst (-1), 1) := by decide +kernel
theorem d_Clu_init_11 : decode b_Clu_init 11 = .ok (.putfield 15, 3) := by decide +kernel
theorem d_Clu_init_14 : decode b_Clu_init 14 = .ok (.aload_n 0, 1) := by decide +kernel
theorem d_Clu_init_15 : decode b_Clu_init 15 = .ok (.iconst 0, 1) := by decide +kernel
theorem d_Clu_init_16 : decode b_Clu_init 16 = .ok (.putfield 18, 3) := by decide +kernel
theorem d_Clu_init_19 : decode b_Clu_init 19 = .ok (.return_, 1) := by decide +kernel
theorem d_Clu_restart_0 : decode b_Clu_restart 0 = .ok (.aload_n 0, 1) := by decide +kernel
theorem d_Clu_restart_1 : decode b_Clu_restart 1 = .ok (.iconst (-1), 1) := by decide +kernel
theorem d_Clu_restart_2 : decode b_Clu_restart 2 = .ok (.putfield 9, 3) := by decide +kernel
theorem d_Clu_restart_5 : decode b_Clu_restart 5 = .ok (.aload_n 0, 1) := by decide +kernel
theorem d_Clu_restart_6 : decode b_Clu_restart 6 = .ok (.iconst (-1), 1) := by decide +kernel
theorem d_Clu_restart_7 : decode b_Clu_restart 7 = .ok (.putfield 15, 3) := by decide +kernel
theorem d_Clu_restart_10 : decode b_Clu_restart 10 = .ok (.aload_n 0, 1) := by decide +kernel
theorem d_Clu_restart_11 : decode b_Clu_restart 11 = .ok (.iconst 0, 1) := by decide +kernel
theorem d_Clu_restart_12 : decode b_Clu_restart 12 = .ok (.putfield 18, 3) := by decide +kernel
theorem d_Clu_restart_15 : decode b_Clu_restart 15 = .ok (.return_, 1) := by decide +kernel
theorem d_Clu_isCutBefore_0 : decode b_Clu_isCutBefore 0 = .ok (.aload_n 0, 1) := by decide +kernel
theorem d_Clu_isCutBefore_1 : decode b_Clu_isCutBefore 1 = .ok (.getfield 9, 3) := by decide +kernel
theorem d_Clu_isCutBefore_4 : decode b_Clu_isCutBefore 4 = .ok (.iconst (-1), 1) := by decide +kernel
theorem d_Clu_isCutBefore_5 : decode b_Clu_isCutBefore 5 = .ok (.if_icmp .eq 11, 3) := by decide +kernel
theorem d_Clu_isCutBefore_8 : decode b_Clu_isCutBefore 8 = .ok (.aload_n 0, 1) := by decide +kernel
theorem d_Clu_isCutBefore_9 : decode b_Clu_isCutBefore 9 = .ok (.iload_n 1, 1) := by decide +kernel
theorem d_Clu_isCutBefore_10 : decode b_Clu_isCutBefore 10 = .ok (.invokevirtual 21, 3) := by decide +kernel
theorem d_Clu_isCutBefore_13 : decode b_Clu_isCutBefore 13 = .ok (.ifCond .ne 7, 3) := by decide +kernel
theorem d_Clu_isCutBefore_16 : decode b_Clu_isCutBefore 16 = .ok (.iconst 1, 1) := by decide +kernel
theorem d_Clu_isCutBefore_17 : decode b_Clu_isCutBefore 17 = .ok (.goto 4, 3) := by decide +kernel
theorem d_Clu_isCutBefore_20 : decode b_Clu_isCutBefore 20 = .ok (.iconst 0, 1) := by decide +kernel
theorem d_Clu_isCutBefore_21 : decode b_Clu_isCutBefore 21 = .ok (.istore_n 2, 1) := by decide +kernel
theorem d_Clu_isCutBefore_22 : decode b_Clu_isCutBefore 22 = .ok (.aload_n 0, 1) := by decide +kernel
theorem d_Clu_isCutBefore_23 : decode b_Clu_isCutBefore 23 = .ok (.aload_n 0, 1) := by decide +kernel
theorem d_Clu_isCutBefore_24 : decode b_Clu_isCutBefore 24 = .ok (.getfield 9, 3) := by decide +kernel
theorem d_Clu_isCutBefore_27 : decode b_Clu_isCutBefore 27 = .ok (.invokestatic 25, 3) := by decide +kernel
theorem d_Clu_isCutBefore_30 : decode b_Clu_isCutBefore 30 = .ok (.ifCond .eq 12, 3) := by decide +kernel
theorem d_Clu_isCutBefore_33 : decode b_Clu_isCutBefore 33 = .ok (.aload_n 0, 1) := by decide +kernel
theorem d_Clu_isCutBefore_34 : decode b_Clu_isCutBefore 34 = .ok (.getfield 18, 3) := by decide +kernel
theorem d_Clu_isCutBefore_37 : decode b_Clu_isCutBefore 37 = .ok (.iconst 1, 1) := by decide +kernel
theorem d_Clu_isCutBefore_38 : decode b_Clu_isCutBefore 38 = .ok (.iadd, 1) := by decide +kernel
theorem d_Clu_isCutBefore_39 : decode b_Clu_isCutBefore 39 = .ok (.goto 4, 3) := by decide +kernel
theorem d_Clu_isCutBefore_42 : decode b_Clu_isCutBefore 42 = .ok (.iconst 0, 1) := by decide +kernel
theorem d_Clu_isCutBefore_43 : decode b_Clu_isCutBefore 43 = .ok (.putfield 18, 3) := by decide +kernel
theorem d_Clu_isCutBefore_46 : decode b_Clu_isCutBefore 46 = .ok (.aload_n 0, 1) := by decide +kernel
theorem d_Clu_isCutBefore_47 : decode b_Clu_isCutBefore 47 = .ok (.getfield 9, 3) := by decide +kernel
theorem d_Clu_isCutBefore_50 : decode b_Clu_isCutBefore 50 = .ok (.invokestatic 28, 3) := by decide +kernel
theorem d_Clu_isCutBefore_53 : decode b_Clu_isCutBefore 53 = .ok (.ifCond .ne 11, 3) := by decide +kernel
theorem d_Clu_isCutBefore_56 : decode b_Clu_isCutBefore 56 = .ok (.aload_n 0, 1) := by decide +kernel
theorem d_Clu_isCutBefore_57 : decode b_Clu_isCutBefore 57 = .ok (.aload_n 0, 1) := by decide +kernel
theorem d_Clu_isCutBefore_58 : decode b_Clu_isCutBefore 58 = .ok (.getfield 9, 3) := by decide +kernel
theorem d_Clu_isCutBefore_61 : decode b_Clu_isCutBefore 61 = .ok (.putfield 15, 3) := by decide +kernel
theorem d_Clu_isCutBefore_64 : decode b_Clu_isCutBefore 64 = .ok (.aload_n 0, 1) := by decide +kernel
theorem d_Clu_isCutBefore_65 : decode b_Clu_isCutBefore 65 = .ok (.iload_n 1, 1) := by decide +kernel
theorem d_Clu_isCutBefore_66 : decode b_Clu_isCutBefore 66 = .ok (.putfield 9, 3) := by decide +kernel
theorem d_Clu_isCutBefore_69 : decode b_Clu_isCutBefore 69 = .ok (.iload_n 2, 1) := by decide +kernel
theorem d_Clu_isCutBefore_70 : decode b_Clu_isCutBefore 70 = .ok (.ireturn, 1) := by decide +kernel
theorem d_Clu_isJoinedTo_0 : decode b_Clu_isJoinedTo 0 = .ok (.iload_n 1, 1) := by decide +kernel
theorem d_Clu_isJoinedTo_1 : decode b_Clu_isJoinedTo 1 = .ok (.invokestatic 28, 3) := by decide +kernel
theorem d_Clu_isJoinedTo_4 : decode b_Clu_isJoinedTo 4 = .ok (.ifCond .ne 10, 3) := by decide +kernel
theorem d_Clu_isJoinedTo_7 : decode b_Clu_isJoinedTo 7 = .ok (.iload_n 1, 1) := by decide +kernel
theorem d_Clu_isJoinedTo_8 : decode b_Clu_isJoinedTo 8 = .ok (.sipush 8205, 3) := by decide +kernel
theorem d_Clu_isJoinedTo_11 : decode b_Clu_isJoinedTo 11 = .ok (.if_icmp .ne 18, 3) := by decide +kernel
theorem d_Clu_isJoinedTo_14 : decode b_Clu_isJoinedTo 14 = .ok (.aload_n 0, 1) := by decide +kernel
theorem d_Clu_isJoinedTo_15 : decode b_Clu_isJoinedTo 15 = .ok (.getfield 9, 3) := by decide +kernel
theorem d_Clu_isJoinedTo_18 : decode b_Clu_isJoinedTo 18 = .ok (.bipush 31, 2) := by decide +kernel
theorem d_Clu_isJoinedTo_20 : decode b_Clu_isJoinedTo 20 = .ok (.if_icmp .le 7, 3) := by decide +kernel
theorem d_Clu_isJoinedTo_23 : decode b_Clu_isJoinedTo 23 = .ok (.iconst 1, 1) := by decide +kernel
theorem d_Clu_isJoinedTo_24 : decode b_Clu_isJoinedTo 24 = .ok (.goto 4, 3) := by decide +kernel
theorem d_Clu_isJoinedTo_27 : decode b_Clu_isJoinedTo 27 = .ok (.iconst 0, 1) := by decide +kernel
theorem d_Clu_isJoinedTo_28 : decode b_Clu_isJoinedTo 28 = .ok (.ireturn, 1) := by decide +kernel
theorem d_Clu_isJoinedTo_29 : decode b_Clu_isJoinedTo 29 = .ok (.iload_n 1, 1) := by decide +kernel
theorem d_Clu_isJoinedTo_30 : decode b_Clu_isJoinedTo 30 = .ok (.invokestatic 31, 3) := by decide +kernel
theorem d_Clu_isJoinedTo_33 : decode b_Clu_isJoinedTo 33 = .ok (.ifCond .eq 29, 3) := by decide +kernel
theorem d_Clu_isJoinedTo_36 : decode b_Clu_isJoinedTo 36 = .ok (.aload_n 0, 1) := by decide +kernel
theorem d_Clu_isJoinedTo_37 : decode b_Clu_isJoinedTo 37 = .ok (.getfield 9, 3) := by decide +kernel
theorem d_Clu_isJoinedTo_40 : decode b_Clu_isJoinedTo 40 = .ok (.sipush 8205, 3) := by decide +kernel
theorem d_Clu_isJoinedTo_43 : decode b_Clu_isJoinedTo 43 = .ok (.if_icmp .ne 17, 3) := by decide +kernel
theorem d_Clu_isJoinedTo_46 : decode b_Clu_isJoinedTo 46 = .ok (.aload_n 0, 1) := by decide +kernel
theorem d_Clu_isJoinedTo_47 : decode b_Clu_isJoinedTo 47 = .ok (.getfield 15, 3) := by decide +kernel
theorem d_Clu_isJoinedTo_50 : decode b_Clu_isJoinedTo 50 = .ok (.invokestatic 31, 3) := by decide +kernel
theorem d_Clu_isJoinedTo_53 : decode b_Clu_isJoinedTo 53 = .ok (.ifCond .eq 7, 3) := by decide +kernel
theorem d_Clu_isJoinedTo_56 : decode b_Clu_isJoinedTo 56 = .ok (.iconst 1, 1) := by decide +kernel
theorem d_Clu_isJoinedTo_57 : decode b_Clu_isJoinedTo 57 = .ok (.goto 4, 3) := by decide +kernel
theorem d_Clu_isJoinedTo_60 : decode b_Clu_isJoinedTo 60 = .ok (.iconst 0, 1) := by decide +kernel
theorem d_Clu_isJoinedTo_61 : decode b_Clu_isJoinedTo 61 = .ok (.ireturn, 1) := by decide +kernel
theorem d_Clu_isJoinedTo_62 : decode b_Clu_isJoinedTo 62 = .ok (.iload_n 1, 1) := by decide +kernel
theorem d_Clu_isJoinedTo_63 : decode b_Clu_isJoinedTo 63 = .ok (.invokestatic 25, 3) := by decide +kernel
theorem d_Clu_isJoinedTo_66 : decode b_Clu_isJoinedTo 66 = .ok (.ifCond .eq 28, 3) := by decide +kernel
theorem d_Clu_isJoinedTo_69 : decode b_Clu_isJoinedTo 69 = .ok (.aload_n 0, 1) := by decide +kernel
theorem d_Clu_isJoinedTo_70 : decode b_Clu_isJoinedTo 70 = .ok (.getfield 9, 3) := by decide +kernel
theorem d_Clu_isJoinedTo_73 : decode b_Clu_isJoinedTo 73 = .ok (.invokestatic 25, 3) := by decide +kernel
theorem d_Clu_isJoinedTo_76 : decode b_Clu_isJoinedTo 76 = .ok (.ifCond .eq 16, 3) := by decide +kernel
theorem d_Clu_isJoinedTo_79 : decode b_Clu_isJoinedTo 79 = .ok (.aload_n 0, 1) := by decide +kernel
theorem d_Clu_isJoinedTo_80 : decode b_Clu_isJoinedTo 80 = .ok (.getfield 18, 3) := by decide +kernel
theorem d_Clu_isJoinedTo_83 : decode b_Clu_isJoinedTo 83 = .ok (.iconst 2, 1) := by decide +kernel
theorem d_Clu_isJoinedTo_84 : decode b_Clu_isJoinedTo 84 = .ok (.irem, 1) := by decide +kernel
theorem d_Clu_isJoinedTo_85 : decode b_Clu_isJoinedTo 85 = .ok (.ifCond .ne 7, 3) := by decide +kernel
theorem d_Clu_isJoinedTo_88 : decode b_Clu_isJoinedTo 88 = .ok (.iconst 1, 1) := by decide +kernel
theorem d_Clu_isJoinedTo_89 : decode b_Clu_isJoinedTo 89 = .ok (.goto 4, 3) := by decide +kernel
theorem d_Clu_isJoinedTo_92 : decode b_Clu_isJoinedTo 92 = .ok (.iconst 0, 1) := by decide +kernel
theorem d_Clu_isJoinedTo_93 : decode b_Clu_isJoinedTo 93 = .ok (.ireturn, 1) := by decide +kernel
theorem d_Clu_isJoinedTo_94 : decode b_Clu_isJoinedTo 94 = .ok (.aload_n 0, 1) := by decide +kernel
theorem d_Clu_isJoinedTo_95 : decode b_Clu_isJoinedTo 95 = .ok (.getfield 9, 3) := by decide +kernel
theorem d_Clu_isJoinedTo_98 : decode b_Clu_isJoinedTo 98 = .ok (.bipush 13, 2) := by decide +kernel
theorem d_Clu_isJoinedTo_100 : decode b_Clu_isJoinedTo 100 = .ok (.if_icmp .ne 13, 3) := by decide +kernel
theorem d_Clu_isJoinedTo_103 : decode b_Clu_isJoinedTo 103 = .ok (.iload_n 1, 1) := by decide +kernel
theorem d_Clu_isJoinedTo_104 : decode b_Clu_isJoinedTo 104 = .ok (.bipush 10, 2) := by decide +kernel
theorem d_Clu_isJoinedTo_106 : decode b_Clu_isJoinedTo 106 = .ok (.if_icmp .ne 7, 3) := by decide +kernel
theorem d_Clu_isJoinedTo_109 : decode b_Clu_isJoinedTo 109 = .ok (.iconst 1, 1) := by decide +kernel
theorem d_Clu_isJoinedTo_110 : decode b_Clu_isJoinedTo 110 = .ok (.goto 4, 3) := by decide +kernel
theorem d_Clu_isJoinedTo_113 : decode b_Clu_isJoinedTo 113 = .ok (.iconst 0, 1) := by decide +kernel
theorem d_Clu_isJoinedTo_114 : decode b_Clu_isJoinedTo 114 = .ok (.ireturn, 1) := by decide +kernel
theorem d_Clu_isMark_0 : decode b_Clu_isMark 0 = .ok (.iload_n 0, 1) := by decide +kernel
theorem d_Clu_isMark_1 : decode b_Clu_isMark 1 = .ok (.sipush 768, 3) := by decide +kernel
theorem d_Clu_isMark_4 : decode b_Clu_isMark 4 = .ok (.if_icmp .lt 14, 3) := by decide +kernel
theorem d_Clu_isMark_7 : decode b_Clu_isMark 7 = .ok (.iload_n 0, 1) := by decide +kernel
theorem d_Clu_isMark_8 : decode b_Clu_isMark 8 = .ok (.sipush 879, 3) := by decide +kernel
theorem d_Clu_isMark_11 : decode b_Clu_isMark 11 = .ok (.if_icmp .gt 7, 3) := by decide +kernel
theorem d_Clu_isMark_14 : decode b_Clu_isMark 14 = .ok (.iconst 1, 1) := by decide +kernel
theorem d_Clu_isMark_15 : decode b_Clu_isMark 15 = .ok (.goto 4, 3) := by decide +kernel
theorem d_Clu_isMark_18 : decode b_Clu_isMark 18 = .ok (.iconst 0, 1) := by decide +kernel
theorem d_Clu_isMark_19 : decode b_Clu_isMark 19 = .ok (.ireturn, 1) := by decide +kernel
theorem d_Clu_isPicture_0 : decode b_Clu_isPicture 0 = .ok (.iload_n 0, 1) := by decide +kernel
theorem d_Clu_isPicture_1 : decode b_Clu_isPicture 1 = .ok (.ldc 34, 2) := by decide +kernel
theorem d_Clu_isPicture_3 : decode b_Clu_isPicture 3 = .ok (.if_icmp .lt 13, 3) := by decide +kernel
theorem d_Clu_isPicture_6 : decode b_Clu_isPicture 6 = .ok (.iload_n 0, 1) := by decide +kernel
theorem d_Clu_isPicture_7 : decode b_Clu_isPicture 7 = .ok (.ldc 35, 2) := by decide +kernel
theorem d_Clu_isPicture_9 : decode b_Clu_isPicture 9 = .ok (.if_icmp .gt 7, 3) := by decide +kernel
theorem d_Clu_isPicture_12 : decode b_Clu_isPicture 12 = .ok (.iconst 1, 1) := by decide +kernel
theorem d_Clu_isPicture_13 : decode b_Clu_isPicture 13 = .ok (.goto 4, 3) := by decide +kernel
theorem d_Clu_isPicture_16 : decode b_Clu_isPicture 16 = .ok (.iconst 0, 1) := by decide +kernel
theorem d_Clu_isPicture_17 : decode b_Clu_isPicture 17 = .ok (.ireturn, 1) := by decide +kernel
theorem d_Clu_isFlag_0 : decode b_Clu_isFlag 0 = .ok (.iload_n 0, 1) := by decide +kernel
theorem d_Clu_isFlag_1 : decode b_Clu_isFlag 1 = .ok (.ldc 36, 2) := by decide +kernel
theorem d_Clu_isFlag_3 : decode b_Clu_isFlag 3 = .ok (.if_icmp .lt 13, 3) := by decide +kernel
theorem d_Clu_isFlag_6 : decode b_Clu_isFlag 6 = .ok (.iload_n 0, 1) := by decide +kernel
theorem d_Clu_isFlag_7 : decode b_Clu_isFlag 7 = .ok (.ldc 37, 2) := by decide +kernel
theorem d_Clu_isFlag_9 : decode b_Clu_isFlag 9 = .ok (.if_icmp .gt 7, 3) := by decide +kernel
theorem d_Clu_isFlag_12 : decode b_Clu_isFlag 12 = .ok (.iconst 1, 1) := by decide +kernel
theorem d_Clu_isFlag_13 : decode b_Clu_isFlag 13 = .ok (.goto 4, 3) := by decide +kernel
theorem d_Clu_isFlag_16 : decode b_Clu_isFlag 16 = .ok (.iconst 0, 1) := by decide +kernel
theorem d_Clu_isFlag_17 : decode b_Clu_isFlag 17 = .ok (.ireturn, 1) := by decide +kernel
end
section
theorem d_Itm_init_0 : decode b_Itm_init 0 = .ok (.aload_n 0, 1) := by decide +kernel
theorem d_Itm_init_1 : decode b_Itm_init 1 = .ok (.invokespecial 3, 3) := by decide +kernel
theorem d_Itm_init_4 : decode b_Itm_init 4 = .ok (.aload_n 0, 1) := by decide +kernel
theorem d_Itm_init_5 : decode b_Itm_init 5 = .ok (.sipush 161, 3) := by decide +kernel
theorem d_Itm_init_8 : decode b_Itm_init 8 = .ok (.newarray .int, 2) := by decide +kernel
theorem d_Itm_init_10 : decode b_Itm_init 10 = .ok (.putfield 9, 3) := by decide +kernel
theorem d_Itm_init_13 : decode b_Itm_init 13 = .ok (.aload_n 0, 1) := by decide +kernel
theorem d_Itm_init_14 : decode b_Itm_init 14 = .ok (.new 15, 3) := by decide +kernel
theorem d_Itm_init_17 : decode b_Itm_init 17 = .ok (.dup, 1) := by decide +kernel
theorem d_Itm_init_18 : decode b_Itm_init 18 = .ok (.invokespecial 17, 3) := by decide +kernel
theorem d_Itm_init_21 : decode b_Itm_init 21 = .ok (.putfield 18, 3) := by decide +kernel
theorem d_Itm_init_24 : decode b_Itm_init 24 = .ok (.aload_n 0, 1) := by decide +kernel
theorem d_Itm_init_25 : decode b_Itm_init 25 = .ok (.iconst 0, 1) := by decide +kernel
theorem d_Itm_init_26 : decode b_Itm_init 26 = .ok (.putfield 22, 3) := by decide +kernel
theorem d_Itm_init_29 : decode b_Itm_init 29 = .ok (.aload_n 0, 1) := by decide +kernel
theorem d_Itm_init_30 : decode b_Itm_init 30 = .ok (.iconst 0, 1) := by decide +kernel
theorem d_Itm_init_31 : decode b_Itm_init 31 = .ok (.putfield 26, 3) := by decide +kernel
theorem d_Itm_init_34 : decode b_Itm_init 34 = .ok (.aload_n 0, 1) := by decide +kernel
theorem d_Itm_init_35 : decode b_Itm_init 35 = .ok (.iconst 0, 1) := by decide +kernel
theorem d_Itm_init_36 : decode b_Itm_init 36 = .ok (.putfield 29, 3) := by decide +kernel
theorem d_Itm_init_39 : decode b_Itm_init 39 = .ok (.return_, 1) := by decide +kernel
theorem d_Itm_measure_0 : decode b_Itm_measure 0 = .ok (.aload_n 0, 1) := by decide +kernel
theorem d_Itm_measure_1 : decode b_Itm_measure 1 = .ok (.iconst 0, 1) := by decide +kernel
theorem d_Itm_measure_2 : decode b_Itm_measure 2 = .ok (.putfield 22, 3) := by decide +kernel
theorem d_Itm_measure_5 : decode b_Itm_measure 5 = .ok (.aload_n 0, 1) := by decide +kernel
theorem d_Itm_measure_6 : decode b_Itm_measure 6 = .ok (.aload_n 1, 1) := by decide +kernel
theorem d_Itm_measure_7 : decode b_Itm_measure 7 = .ok (.invokeinterface 32 1, 5) := by decide +kernel
theorem d_Itm_measure_12 : decode b_Itm_measure 12 = .ok (.putfield 26, 3) := by decide +kernel
theorem d_Itm_measure_15 : decode b_Itm_measure 15 = .ok (.aload_n 0, 1) := by decide +kernel
theorem d_Itm_measure_16 : decode b_Itm_measure 16 = .ok (.iload_n 2, 1) := by decide +kernel
theorem d_Itm_measure_17 : decode b_Itm_measure 17 = .ok (.putfield 29, 3) := by decide +kernel
theorem d_Itm_measure_20 : decode b_Itm_measure 20 = .ok (.aload_n 0, 1) := by decide +kernel
theorem d_Itm_measure_21 : decode b_Itm_measure 21 = .ok (.getfield 18, 3) := by decide +kernel
theorem d_Itm_measure_24 : decode b_Itm_measure 24 = .ok (.invokevirtual 37, 3) := by decide +kernel
theorem d_Itm_measure_27 : decode b_Itm_measure 27 = .ok (.iconst 0, 1) := by decide +kernel
theorem d_Itm_measure_28 : decode b_Itm_measure 28 = .ok (.istore_n 3, 1) := by decide +kernel
theorem d_Itm_measure_29 : decode b_Itm_measure 29 = .ok (.iload_n 3, 1) := by decide +kernel
theorem d_Itm_measure_30 : decode b_Itm_measure 30 = .ok (.aload_n 0, 1) := by decide +kernel
theorem d_Itm_measure_31 : decode b_Itm_measure 31 = .ok (.getfield 26, 3) := by decide +kernel
theorem d_Itm_measure_34 : decode b_Itm_measure 34 = .ok (.if_icmp .gt 38, 3) := by decide +kernel
theorem d_Itm_measure_37 : decode b_Itm_measure 37 = .ok (.aload_n 0, 1) := by decide +kernel
theorem d_Itm_measure_38 : decode b_Itm_measure 38 = .ok (.aload_n 1, 1) := by decide +kernel
theorem d_Itm_measure_39 : decode b_Itm_measure 39 = .ok (.iload_n 3, 1) := by decide +kernel
theorem d_Itm_measure_40 : decode b_Itm_measure 40 = .ok (.invokevirtual 40, 3) := by decide +kernel
theorem d_Itm_measure_43 : decode b_Itm_measure 43 = .ok (.ifCond .eq 23, 3) := by decide +kernel
theorem d_Itm_measure_46 : decode b_Itm_measure 46 = .ok (.aload_n 0, 1) := by decide +kernel
theorem d_Itm_measure_47 : decode b_Itm_measure 47 = .ok (.getfield 9, 3) := by decide +kernel
theorem d_Itm_measure_50 : decode b_Itm_measure 50 = .ok (.aload_n 0, 1) := by decide +kernel
theorem d_Itm_measure_51 : decode b_Itm_measure 51 = .ok (.getfield 22, 3) := by decide +kernel
theorem d_Itm_measure_54 : decode b_Itm_measure 54 = .ok (.iload_n 3, 1) := by decide +kernel
theorem d_Itm_measure_55 : decode b_Itm_measure 55 = .ok (.iastore, 1) := by decide +kernel
theorem d_Itm_measure_56 : decode b_Itm_measure 56 = .ok (.aload_n 0, 1) := by decide +kernel
theorem d_Itm_measure_57 : decode b_Itm_measure 57 = .ok (.dup, 1) := by decide +kernel
theorem d_Itm_measure_58 : decode b_Itm_measure 58 = .ok (.getfield 22, 3) := by decide +kernel
theorem d_Itm_measure_61 : decode b_Itm_measure 61 = .ok (.iconst 1, 1) := by decide +kernel
theorem d_Itm_measure_62 : decode b_Itm_measure 62 = .ok (.iadd, 1) := by decide +kernel
theorem d_Itm_measure_63 : decode b_Itm_measure 63 = .ok (.putfield 22, 3) := by decide +kernel
theorem d_Itm_measure_66 : decode b_Itm_measure 66 = .ok (.iinc 3 1, 3) := by decide +kernel
theorem d_Itm_measure_69 : decode b_Itm_measure 69 = .ok (.goto (-40), 3) := by decide +kernel
theorem d_Itm_measure_72 : decode b_Itm_measure 72 = .ok (.return_, 1) := by decide +kernel
theorem d_Itm_number_0 : decode b_Itm_number 0 = .ok (.aload_n 0, 1) := by decide +kernel
theorem d_Itm_number_1 : decode b_Itm_number 1 = .ok (.getfield 22, 3) := by decide +kernel
theorem d_Itm_number_4 : decode b_Itm_number 4 = .ok (.ireturn, 1) := by decide +kernel
theorem d_Itm_beginningOf_0 : decode b_Itm_beginningOf 0 = .ok (.iload_n 1, 1) := by decide +kernel
theorem d_Itm_beginningOf_1 : decode b_Itm_beginningOf 1 = .ok (.ifCond .lt 11, 3) := by decide +kernel
theorem d_Itm_beginningOf_4 : decode b_Itm_beginningOf 4 = .ok (.iload_n 1, 1) := by decide +kernel
theorem d_Itm_beginningOf_5 : decode b_Itm_beginningOf 5 = .ok (.aload_n 0, 1) := by decide +kernel
theorem d_Itm_beginningOf_6 : decode b_Itm_beginningOf 6 = .ok (.getfield 22, 3) := by decide +kernel
theorem d_Itm_beginningOf_9 : decode b_Itm_beginningOf 9 = .ok (.if_icmp .le 5, 3) := by decide +kernel
theorem d_Itm_beginningOf_12 : decode b_Itm_beginningOf 12 = .ok (.iconst (-1), 1) := by decide +kernel
theorem d_Itm_beginningOf_13 : decode b_Itm_beginningOf 13 = .ok (.ireturn, 1) := by decide +kernel
theorem d_Itm_beginningOf_14 : decode b_Itm_beginningOf 14 = .ok (.iload_n 1, 1) := by decide +kernel
theorem d_Itm_beginningOf_15 : decode b_Itm_beginningOf 15 = .ok (.aload_n 0, 1) := by decide +kernel
theorem d_Itm_beginningOf_16 : decode b_Itm_beginningOf 16 = .ok (.getfield 22, 3) := by decide +kernel
theorem d_Itm_beginningOf_19 : decode b_Itm_beginningOf 19 = .ok (.if_icmp .ne 10, 3) := by decide +kernel
theorem d_Itm_beginningOf_22 : decode b_Itm_beginningOf 22 = .ok (.aload_n 0, 1) := by decide +kernel
theorem d_Itm_beginningOf_23 : decode b_Itm_beginningOf 23 = .ok (.getfield 26, 3) := by decide +kernel
theorem d_Itm_beginningOf_26 : decode b_Itm_beginningOf 26 = .ok (.goto 9, 3) := by decide +kernel
theorem d_Itm_beginningOf_29 : decode b_Itm_beginningOf 29 = .ok (.aload_n 0, 1) := by decide +kernel
theorem d_Itm_beginningOf_30 : decode b_Itm_beginningOf 30 = .ok (.getfield 9, 3) := by decide +kernel
theorem d_Itm_beginningOf_33 : decode b_Itm_beginningOf 33 = .ok (.iload_n 1, 1) := by decide +kernel
theorem d_Itm_beginningOf_34 : decode b_Itm_beginningOf 34 = .ok (.iaload, 1) := by decide +kernel
theorem d_Itm_beginningOf_35 : decode b_Itm_beginningOf 35 = .ok (.ireturn, 1) := by decide +kernel
theorem d_Itm_having_0 : decode b_Itm_having 0 = .ok (.iload_n 1, 1) := by decide +kernel
theorem d_Itm_having_1 : decode b_Itm_having 1 = .ok (.aload_n 0, 1) := by decide +kernel
theorem d_Itm_having_2 : decode b_Itm_having 2 = .ok (.getfield 26, 3) := by decide +kernel
theorem d_Itm_having_5 : decode b_Itm_having 5 = .ok (.if_icmp .ne 16, 3) := by decide +kernel
theorem d_Itm_having_8 : decode b_Itm_having 8 = .ok (.aload_n 0, 1) := by decide +kernel
theorem d_Itm_having_9 : decode b_Itm_having 9 = .ok (.getfield 29, 3) := by decide +kernel
theorem d_Itm_having_12 : decode b_Itm_having 12 = .ok (.iconst 2, 1) := by decide +kernel
theorem d_Itm_having_13 : decode b_Itm_having 13 = .ok (.if_icmp .eq 8, 3) := by decide +kernel
theorem d_Itm_having_16 : decode b_Itm_having 16 = .ok (.aload_n 0, 1) := by decide +kernel
theorem d_Itm_having_17 : decode b_Itm_having 17 = .ok (.getfield 22, 3) := by decide +kernel
theorem d_Itm_having_20 : decode b_Itm_having 20 = .ok (.ireturn, 1) := by decide +kernel
theorem d_Itm_having_21 : decode b_Itm_having 21 = .ok (.aload_n 0, 1) := by decide +kernel
theorem d_Itm_having_22 : decode b_Itm_having 22 = .ok (.getfield 22, 3) := by decide +kernel
theorem d_Itm_having_25 : decode b_Itm_having 25 = .ok (.iconst 1, 1) := by decide +kernel
theorem d_Itm_having_26 : decode b_Itm_having 26 = .ok (.isub, 1) := by decide +kernel
theorem d_Itm_having_27 : decode b_Itm_having 27 = .ok (.istore_n 2, 1) := by decide +kernel
theorem d_Itm_having_28 : decode b_Itm_having 28 = .ok (.iload_n 2, 1) := by decide +kernel
theorem d_Itm_having_29 : decode b_Itm_having 29 = .ok (.ifCond .le 19, 3) := by decide +kernel
theorem d_Itm_having_32 : decode b_Itm_having 32 = .ok (.aload_n 0, 1) := by decide +kernel
theorem d_Itm_having_33 : decode b_Itm_having 33 = .ok (.getfield 9, 3) := by decide +kernel
theorem d_Itm_having_36 : decode b_Itm_having 36 = .ok (.iload_n 2, 1) := by decide +kernel
theorem d_Itm_having_37 : decode b_Itm_having 37 = .ok (.iaload, 1) := by decide +kernel
theorem d_Itm_having_38 : decode b_Itm_having 38 = .ok (.iload_n 1, 1) := by decide +kernel
theorem d_Itm_having_39 : decode b_Itm_having 39 = .ok (.if_icmp .le 9, 3) := by decide +kernel
theorem d_Itm_having_42 : decode b_Itm_having 42 = .ok (.iinc 2 (-1), 3) := by decide +kernel
theorem d_Itm_having_45 : decode b_Itm_having 45 = .ok (.goto (-17), 3) := by decide +kernel
theorem d_Itm_having_48 : decode b_Itm_having 48 = .ok (.iload_n 2, 1) := by decide +kernel
theorem d_Itm_having_49 : decode b_Itm_having 49 = .ok (.ireturn, 1) := by decide +kernel
theorem d_Itm_isInside_0 : decode b_Itm_isInside 0 = .ok (.iload_n 1, 1) := by decide +kernel
theorem d_Itm_isInside_1 : decode b_Itm_isInside 1 = .ok (.aload_n 0, 1) := by decide +kernel
theorem d_Itm_isInside_2 : decode b_Itm_isInside 2 = .ok (.getfield 26, 3) := by decide +kernel
theorem d_Itm_isInside_5 : decode b_Itm_isInside 5 = .ok (.if_icmp .ge 21, 3) := by decide +kernel
theorem d_Itm_isInside_8 : decode b_Itm_isInside 8 = .ok (.aload_n 0, 1) := by decide +kernel
theorem d_Itm_isInside_9 : decode b_Itm_isInside 9 = .ok (.getfield 9, 3) := by decide +kernel
theorem d_Itm_isInside_12 : decode b_Itm_isInside 12 = .ok (.aload_n 0, 1) := by decide +kernel
theorem d_Itm_isInside_13 : decode b_Itm_isInside 13 = .ok (.iload_n 1, 1) := by decide +kernel
theorem d_Itm_isInside_14 : decode b_Itm_isInside 14 = .ok (.invokevirtual 44, 3) := by decide +kernel
theorem d_Itm_isInside_17 : decode b_Itm_isInside 17 = .ok (.iaload, 1) := by decide +kernel
theorem d_Itm_isInside_18 : decode b_Itm_isInside 18 = .ok (.iload_n 1, 1) := by decide +kernel
theorem d_Itm_isInside_19 : decode b_Itm_isInside 19 = .ok (.if_icmp .eq 7, 3) := by decide +kernel
theorem d_Itm_isInside_22 : decode b_Itm_isInside 22 = .ok (.iconst 1, 1) := by decide +kernel
theorem d_Itm_isInside_23 : decode b_Itm_isInside 23 = .ok (.goto 4, 3) := by decide +kernel
theorem d_Itm_isInside_26 : decode b_Itm_isInside 26 = .ok (.iconst 0, 1) := by decide +kernel
theorem d_Itm_isInside_27 : decode b_Itm_isInside 27 = .ok (.ireturn, 1) := by decide +kernel
theorem d_Itm_begins_0 : decode b_Itm_begins 0 = .ok (.aload_n 0, 1) := by decide +kernel
theorem d_Itm_begins_1 : decode b_Itm_begins 1 = .ok (.getfield 29, 3) := by decide +kernel
theorem d_Itm_begins_4 : decode b_Itm_begins 4 = .ok (.iconst 2, 1) := by decide +kernel
theorem d_Itm_begins_5 : decode b_Itm_begins 5 = .ok (.if_icmp .ne 9, 3) := by decide +kernel
theorem d_Itm_begins_8 : decode b_Itm_begins 8 = .ok (.aload_n 1, 1) := by decide +kernel
theorem d_Itm_begins_9 : decode b_Itm_begins 9 = .ok (.iload_n 2, 1) := by decide +kernel
theorem d_Itm_begins_10 : decode b_Itm_begins 10 = .ok (.invokestatic 48, 3) := by decide +kernel
theorem d_Itm_begins_13 : decode b_Itm_begins 13 = .ok (.ireturn, 1) := by decide +kernel
theorem d_Itm_begins_14 : decode b_Itm_begins 14 = .ok (.iload_n 2, 1) := by decide +kernel
theorem d_Itm_begins_15 : decode b_Itm_begins 15 = .ok (.aload_n 0, 1) := by decide +kernel
theorem d_Itm_begins_16 : decode b_Itm_begins 16 = .ok (.getfield 26, 3) := by decide +kernel
theorem d_Itm_begins_19 : decode b_Itm_begins 19 = .ok (.if_icmp .eq 18, 3) := by decide +kernel
theorem d_Itm_begins_22 : decode b_Itm_begins 22 = .ok (.aload_n 0, 1) := by decide +kernel
theorem d_Itm_begins_23 : decode b_Itm_begins 23 = .ok (.getfield 29, 3) := by decide +kernel
theorem d_Itm_begins_26 : decode b_Itm_begins 26 = .ok (.ifCond .eq 13, 3) := by decide +kernel
theorem d_Itm_begins_29 : decode b_Itm_begins 29 = .ok (.aload_n 1, 1) := by decide +kernel
theorem d_Itm_begins_30 : decode b_Itm_begins 30 = .ok (.iload_n 2, 1) := by decide +kernel
theorem d_Itm_begins_31 : decode b_Itm_begins 31 = .ok (.invokestatic 51, 3) := by decide +kernel
theorem d_Itm_begins_34 : decode b_Itm_begins 34 = .ok (.ifCond .eq 5, 3) := by decide +kernel
theorem d_Itm_begins_37 : decode b_Itm_begins 37 = .ok (.iconst 0, 1) := by decide +kernel
theorem d_Itm_begins_38 : decode b_Itm_begins 38 = .ok (.ireturn, 1) := by decide +kernel
theorem d_Itm_begins_39 : decode b_Itm_begins 39 = .ok (.aload_n 0, 1) := by decide +kernel
theorem d_Itm_begins_40 : decode b_Itm_begins 40 = .ok (.getfield 29, 3) := by decide +kernel
theorem d_Itm_begins_43 : decode b_Itm_begins 43 = .ok (.iconst 3, 1) := by decide +kernel
theorem d_Itm_begins_44 : decode b_Itm_begins 44 = .ok (.if_icmp .ne 18, 3) := by decide +kernel
theorem d_Itm_begins_47 : decode b_Itm_begins 47 = .ok (.aload_n 0, 1) := by decide +kernel
theorem d_Itm_begins_48 : decode b_Itm_begins 48 = .ok (.getfield 18, 3) := by decide +kernel
theorem d_Itm_begins_51 : decode b_Itm_begins 51 = .ok (.aload_n 1, 1) := by decide +kernel
theorem d_Itm_begins_52 : decode b_Itm_begins 52 = .ok (.iload_n 2, 1) := by decide +kernel
theorem d_Itm_begins_53 : decode b_Itm_begins 53 = .ok (.invokestatic 54, 3) := by decide +kernel
theorem d_Itm_begins_56 : decode b_Itm_begins 56 = .ok (.invokevirtual 58, 3) := by decide +kernel
theorem d_Itm_begins_59 : decode b_Itm_begins 59 = .ok (.ifCond .eq 7, 3) := by decide +kernel
theorem d_Itm_begins_62 : decode b_Itm_begins 62 = .ok (.iconst 1, 1) := by decide +kernel
theorem d_Itm_begins_63 : decode b_Itm_begins 63 = .ok (.goto 4, 3) := by decide +kernel
theorem d_Itm_begins_66 : decode b_Itm_begins 66 = .ok (.iconst 0, 1) := by decide +kernel
theorem d_Itm_begins_67 : decode b_Itm_begins 67 = .ok (.ireturn, 1) := by decide +kernel
theorem d_Itm_beginsLine_0 : decode b_Itm_beginsLine 0 = .ok (.aload_n 0, 1) := by decide +kernel
theorem d_Itm_beginsLine_1 : decode b_Itm_beginsLine 1 = .ok (.iload_n 1, 1) := by decide +kernel
theorem d_Itm_beginsLine_2 : decode b_Itm_beginsLine 2 = .ok (.iconst 1, 1) := by decide +kernel
theorem d_Itm_beginsLine_3 : decode b_Itm_beginsLine 3 = .ok (.isub, 1) := by decide +kernel
theorem d_Itm_beginsLine_4 : decode b_Itm_beginsLine 4 = .ok (.invokeinterface 62 2, 5) := by decide +kernel
theorem d_Itm_beginsLine_9 : decode b_Itm_beginsLine 9 = .ok (.istore_n 2, 1) := by decide +kernel
theorem d_Itm_beginsLine_10 : decode b_Itm_beginsLine 10 = .ok (.iload_n 1, 1) := by decide +kernel
theorem d_Itm_beginsLine_11 : decode b_Itm_beginsLine 11 = .ok (.ifCond .eq 27, 3) := by decide +kernel
theorem d_Itm_beginsLine_14 : decode b_Itm_beginsLine 14 = .ok (.iload_n 2, 1) := by decide +kernel
theorem d_Itm_beginsLine_15 : decode b_Itm_beginsLine 15 = .ok (.bipush 10, 2) := by decide +kernel
theorem d_Itm_beginsLine_17 : decode b_Itm_beginsLine 17 = .ok (.if_icmp .eq 21, 3) := by decide +kernel
theorem d_Itm_beginsLine_20 : decode b_Itm_beginsLine 20 = .ok (.iload_n 2, 1) := by decide +kernel
theorem d_Itm_beginsLine_21 : decode b_Itm_beginsLine 21 = .ok (.bipush 13, 2) := by decide +kernel
theorem d_Itm_beginsLine_23 : decode b_Itm_beginsLine 23 = .ok (.if_icmp .ne 19, 3) := by decide +kernel
theorem d_Itm_beginsLine_26 : decode b_Itm_beginsLine 26 = .ok (.aload_n 0, 1) := by decide +kernel
theorem d_Itm_beginsLine_27 : decode b_Itm_beginsLine 27 = .ok (.iload_n 1, 1) := by decide +kernel
theorem d_Itm_beginsLine_28 : decode b_Itm_beginsLine 28 = .ok (.invokeinterface 62 2, 5) := by decide +kernel
theorem d_Itm_beginsLine_33 : decode b_Itm_beginsLine 33 = .ok (.bipush 10, 2) := by decide +kernel
theorem d_Itm_beginsLine_35 : decode b_Itm_beginsLine 35 = .ok (.if_icmp .eq 7, 3) := by decide +kernel
theorem d_Itm_beginsLine_38 : decode b_Itm_beginsLine 38 = .ok (.iconst 1, 1) := by decide +kernel
theorem d_Itm_beginsLine_39 : decode b_Itm_beginsLine 39 = .ok (.goto 4, 3) := by decide +kernel
theorem d_Itm_beginsLine_42 : decode b_Itm_beginsLine 42 = .ok (.iconst 0, 1) := by decide +kernel
theorem d_Itm_beginsLine_43 : decode b_Itm_beginsLine 43 = .ok (.ireturn, 1) := by decide +kernel
theorem d_Itm_isSecondHalf_0 : decode b_Itm_isSecondHalf 0 = .ok (.aload_n 0, 1) := by decide +kernel
theorem d_Itm_isSecondHalf_1 : decode b_Itm_isSecondHalf 1 = .ok (.iload_n 1, 1) := by decide +kernel
theorem d_Itm_isSecondHalf_2 : decode b_Itm_isSecondHalf 2 = .ok (.iconst 1, 1) := by decide +kernel
theorem d_Itm_isSecondHalf_3 : decode b_Itm_isSecondHalf 3 = .ok (.isub, 1) := by decide +kernel
theorem d_Itm_isSecondHalf_4 : decode b_Itm_isSecondHalf 4 = .ok (.invokeinterface 62 2, 5) := by decide +kernel
theorem d_Itm_isSecondHalf_9 : decode b_Itm_isSecondHalf 9 = .ok (.invokestatic 65, 3) := by decide +kernel
theorem d_Itm_isSecondHalf_12 : decode b_Itm_isSecondHalf 12 = .ok (.ifCond .eq 20, 3) := by decide +kernel
theorem d_Itm_isSecondHalf_15 : decode b_Itm_isSecondHalf 15 = .ok (.aload_n 0, 1) := by decide +kernel
theorem d_Itm_isSecondHalf_16 : decode b_Itm_isSecondHalf 16 = .ok (.iload_n 1, 1) := by decide +kernel
theorem d_Itm_isSecondHalf_17 : decode b_Itm_isSecondHalf 17 = .ok (.invokeinterface 62 2, 5) := by decide +kernel
theorem d_Itm_isSecondHalf_22 : decode b_Itm_isSecondHalf 22 = .ok (.invokestatic 68, 3) := by decide +kernel
theorem d_Itm_isSecondHalf_25 : decode b_Itm_isSecondHalf 25 = .ok (.ifCond .eq 7, 3) := by decide +kernel
theorem d_Itm_isSecondHalf_28 : decode b_Itm_isSecondHalf 28 = .ok (.iconst 1, 1) := by decide +kernel
theorem d_Itm_isSecondHalf_29 : decode b_Itm_isSecondHalf 29 = .ok (.goto 4, 3) := by decide +kernel
theorem d_Itm_isSecondHalf_32 : decode b_Itm_isSecondHalf 32 = .ok (.iconst 0, 1) := by decide +kernel
theorem d_Itm_isSecondHalf_33 : decode b_Itm_isSecondHalf 33 = .ok (.ireturn, 1) := by decide +kernel
theorem d_Itm_codeAt_0 : decode b_Itm_codeAt 0 = .ok (.aload_n 0, 1) := by decide +kernel
theorem d_Itm_codeAt_1 : decode b_Itm_codeAt 1 = .ok (.iload_n 1, 1) := by decide +kernel
theorem d_Itm_codeAt_2 : decode b_Itm_codeAt 2 = .ok (.invokeinterface 62 2, 5) := by decide +kernel
theorem d_Itm_codeAt_7 : decode b_Itm_codeAt 7 = .ok (.istore_n 2, 1) := by decide +kernel
theorem d_Itm_codeAt_8 : decode b_Itm_codeAt 8 = .ok (.aload_n 0, 1) := by decide +kernel
theorem d_Itm_codeAt_9 : decode b_Itm_codeAt 9 = .ok (.iload_n 1, 1) := by decide +kernel
theorem d_Itm_codeAt_10 : decode b_Itm_codeAt 10 = .ok (.iconst 1, 1) := by decide +kernel
theorem d_Itm_codeAt_11 : decode b_Itm_codeAt 11 = .ok (.iadd, 1) := by decide +kernel
theorem d_Itm_codeAt_12 : decode b_Itm_codeAt 12 = .ok (.invokeinterface 62 2, 5) := by decide +kernel
theorem d_Itm_codeAt_17 : decode b_Itm_codeAt 17 = .ok (.istore_n 3, 1) := by decide +kernel
theorem d_Itm_codeAt_18 : decode b_Itm_codeAt 18 = .ok (.iload_n 2, 1) := by decide +kernel
theorem d_Itm_codeAt_19 : decode b_Itm_codeAt 19 = .ok (.invokestatic 65, 3) := by decide +kernel
theorem d_Itm_codeAt_22 : decode b_Itm_codeAt 22 = .ok (.ifCond .eq 10, 3) := by decide +kernel
theorem d_Itm_codeAt_25 : decode b_Itm_codeAt 25 = .ok (.iload_n 3, 1) := by decide +kernel
theorem d_Itm_codeAt_26 : decode b_Itm_codeAt 26 = .ok (.invokestatic 68, 3) := by decide +kernel
theorem d_Itm_codeAt_29 : decode b_Itm_codeAt 29 = .ok (.ifCond .ne 5, 3) := by decide +kernel
theorem d_Itm_codeAt_32 : decode b_Itm_codeAt 32 = .ok (.iload_n 2, 1) := by decide +kernel
theorem d_Itm_codeAt_33 : decode b_Itm_codeAt 33 = .ok (.ireturn, 1) := by decide +kernel
theorem d_Itm_codeAt_34 : decode b_Itm_codeAt 34 = .ok (.ldc 71, 2) := by decide +kernel
theorem d_Itm_codeAt_36 : decode b_Itm_codeAt 36 = .ok (.sipush 1024, 3) := by decide +kernel
theorem d_Itm_codeAt_39 : decode b_Itm_codeAt 39 = .ok (.iload_n 2, 1) := by decide +kernel
theorem d_Itm_codeAt_40 : decode b_Itm_codeAt 40 = .ok (.ldc 72, 2) := by decide +kernel
theorem d_Itm_codeAt_42 : decode b_Itm_codeAt 42 = .ok (.isub, 1) := by decide +kernel
theorem d_Itm_codeAt_43 : decode b_Itm_codeAt 43 = .ok (.imul, 1) := by decide +kernel
theorem d_Itm_codeAt_44 : decode b_Itm_codeAt 44 = .ok (.iadd, 1) := by decide +kernel
theorem d_Itm_codeAt_45 : decode b_Itm_codeAt 45 = .ok (.iload_n 3, 1) := by decide +kernel
theorem d_Itm_codeAt_46 : decode b_Itm_codeAt 46 = .ok (.iadd, 1) := by decide +kernel
theorem d_Itm_codeAt_47 : decode b_Itm_codeAt 47 = .ok (.ldc 73, 2) := by decide +kernel
theorem d_Itm_codeAt_49 : decode b_Itm_codeAt 49 = .ok (.isub, 1) := by decide +kernel
theorem d_Itm_codeAt_50 : decode b_Itm_codeAt 50 = .ok (.ireturn, 1) := by decide +kernel
theorem d_Itm_isFirst_0 : decode b_Itm_isFirst 0 = .ok (.iload_n 0, 1) := by decide +kernel
theorem d_Itm_isFirst_1 : decode b_Itm_isFirst 1 = .ok (.ldc 72, 2) := by decide +kernel
theorem d_Itm_isFirst_3 : decode b_Itm_isFirst 3 = .ok (.if_icmp .lt 13, 3) := by decide +kernel
theorem d_Itm_isFirst_6 : decode b_Itm_isFirst 6 = .ok (.iload_n 0, 1) := by decide +kernel
theorem d_Itm_isFirst_7 : decode b_Itm_isFirst 7 = .ok (.ldc 74, 2) := by decide +kernel
theorem d_Itm_isFirst_9 : decode b_Itm_isFirst 9 = .ok (.if_icmp .gt 7, 3) := by decide +kernel
theorem d_Itm_isFirst_12 : decode b_Itm_isFirst 12 = .ok (.iconst 1, 1) := by decide +kernel
theorem d_Itm_isFirst_13 : decode b_Itm_isFirst 13 = .ok (.goto 4, 3) := by decide +kernel
theorem d_Itm_isFirst_16 : decode b_Itm_isFirst 16 = .ok (.iconst 0, 1) := by decide +kernel
theorem d_Itm_isFirst_17 : decode b_Itm_isFirst 17 = .ok (.ireturn, 1) := by decide +kernel
theorem d_Itm_isSecond_0 : decode b_Itm_isSecond 0 = .ok (.iload_n 0, 1) := by decide +kernel
theorem d_Itm_isSecond_1 : decode b_Itm_isSecond 1 = .ok (.ldc 73, 2) := by decide +kernel
theorem d_Itm_isSecond_3 : decode b_Itm_isSecond 3 = .ok (.if_icmp .lt 13, 3) := by decide +kernel
theorem d_Itm_isSecond_6 : decode b_Itm_isSecond 6 = .ok (.iload_n 0, 1) := by decide +kernel
theorem d_Itm_isSecond_7 : decode b_Itm_isSecond 7 = .ok (.ldc 75, 2) := by decide +kernel
theorem d_Itm_isSecond_9 : decode b_Itm_isSecond 9 = .ok (.if_icmp .gt 7, 3) := by decide +kernel
theorem d_Itm_isSecond_12 : decode b_Itm_isSecond 12 = .ok (.iconst 1, 1) := by decide +kernel
theorem d_Itm_isSecond_13 : decode b_Itm_isSecond 13 = .ok (.goto 4, 3) := by decide +kernel
theorem d_Itm_isSecond_16 : decode b_Itm_isSecond 16 = .ok (.iconst 0, 1) := by decide +kernel
theorem d_Itm_isSecond_17 : decode b_Itm_isSecond 17 = .ok (.ireturn, 1) := by decide +kernel
theorem d_Sea_init_0 : decode b_Sea_init 0 = .ok (.aload_n 0, 1) := by decide +kernel
theorem d_Sea_init_1 : decode b_Sea_init 1 = .ok (.invokespecial 3, 3) := by decide +kernel
theorem d_Sea_init_4 : decode b_Sea_init 4 = .ok (.aload_n 0, 1) := by decide +kernel
theorem d_Sea_init_5 : decode b_Sea_init 5 = .ok (.bipush 24, 2) := by decide +kernel
theorem d_Sea_init_7 : decode b_Sea_init 7 = .ok (.newarray .int, 2) := by decide +kernel
theorem d_Sea_init_9 : decode b_Sea_init 9 = .ok (.putfield 9, 3) := by decide +kernel
theorem d_Sea_init_12 : decode b_Sea_init 12 = .ok (.aload_n 0, 1) := by decide +kernel
theorem d_Sea_init_13 : decode b_Sea_init 13 = .ok (.bipush 24, 2) := by decide +kernel
theorem d_Sea_init_15 : decode b_Sea_init 15 = .ok (.newarray .boolean, 2) := by decide +kernel
theorem d_Sea_init_17 : decode b_Sea_init 17 = .ok (.putfield 15, 3) := by decide +kernel
theorem d_Sea_init_20 : decode b_Sea_init 20 = .ok (.aload_n 0, 1) := by decide +kernel
theorem d_Sea_init_21 : decode b_Sea_init 21 = .ok (.bipush 25, 2) := by decide +kernel
theorem d_Sea_init_23 : decode b_Sea_init 23 = .ok (.newarray .int, 2) := by decide +kernel
theorem d_Sea_init_25 : decode b_Sea_init 25 = .ok (.putfield 19, 3) := by decide +kernel
theorem d_Sea_init_28 : decode b_Sea_init 28 = .ok (.aload_n 0, 1) := by decide +kernel
theorem d_Sea_init_29 : decode b_Sea_init 29 = .ok (.iconst 0, 1) := by decide +kernel
theorem d_Sea_init_30 : decode b_Sea_init 30 = .ok (.putfield 22, 3) := by decide +kernel
theorem d_Sea_init_33 : decode b_Sea_init 33 = .ok (.aload_n 0, 1) := by decide +kernel
theorem d_Sea_init_34 : decode b_Sea_init 34 = .ok (.iconst (-1), 1) := by decide +kernel
theorem d_Sea_init_35 : decode b_Sea_init 35 = .ok (.putfield 26, 3) := by decide +kernel
theorem d_Sea_init_38 : decode b_Sea_init 38 = .ok (.return_, 1) := by decide +kernel
theorem d_Sea_takePattern_0 : decode b_Sea_takePattern 0 = .ok (.aload_n 0, 1) := by decide +kernel
theorem d_Sea_takePattern_1 : decode b_Sea_takePattern 1 = .ok (.iconst 0, 1) := by decide +kernel
theorem d_Sea_takePattern_2 : decode b_Sea_takePattern 2 = .ok (.putfield 22, 3) := by decide +kernel
theorem d_Sea_takePattern_5 : decode b_Sea_takePattern 5 = .ok (.iconst 0, 1) := by decide +kernel
theorem d_Sea_takePattern_6 : decode b_Sea_takePattern 6 = .ok (.istore_n 2, 1) := by decide +kernel
theorem d_Sea_takePattern_7 : decode b_Sea_takePattern 7 = .ok (.iload_n 2, 1) := by decide +kernel
theorem d_Sea_takePattern_8 : decode b_Sea_takePattern 8 = .ok (.aload_n 1, 1) := by decide +kernel
theorem d_Sea_takePattern_9 : decode b_Sea_takePattern 9 = .ok (.invokevirtual 29, 3) := by decide +kernel
theorem d_Sea_takePattern_12 : decode b_Sea_takePattern 12 = .ok (.if_icmp .ge 89, 3) := by decide +kernel
theorem d_Sea_takePattern_15 : decode b_Sea_takePattern 15 = .ok (.aload_n 1, 1) := by decide +kernel
theorem d_Sea_takePattern_16 : decode b_Sea_takePattern 16 = .ok (.iload_n 2, 1) := by decide +kernel
theorem d_Sea_takePattern_17 : decode b_Sea_takePattern 17 = .ok (.invokevirtual 35, 3) := by decide +kernel
theorem d_Sea_takePattern_20 : decode b_Sea_takePattern 20 = .ok (.istore_n 3, 1) := by decide +kernel
theorem d_Sea_takePattern_21 : decode b_Sea_takePattern 21 = .ok (.iload_n 3, 1) := by decide +kernel
theorem d_Sea_takePattern_22 : decode b_Sea_takePattern 22 = .ok (.bipush 42, 2) := by decide +kernel
theorem d_Sea_takePattern_24 : decode b_Sea_takePattern 24 = .ok (.if_icmp .eq 36, 3) := by decide +kernel
theorem d_Sea_takePattern_27 : decode b_Sea_takePattern 27 = .ok (.aload_n 0, 1) := by decide +kernel
theorem d_Sea_takePattern_28 : decode b_Sea_takePattern 28 = .ok (.getfield 9, 3) := by decide +kernel
theorem d_Sea_takePattern_31 : decode b_Sea_takePattern 31 = .ok (.aload_n 0, 1) := by decide +kernel
theorem d_Sea_takePattern_32 : decode b_Sea_takePattern 32 = .ok (.getfield 22, 3) := by decide +kernel
theorem d_Sea_takePattern_35 : decode b_Sea_takePattern 35 = .ok (.iload_n 3, 1) := by decide +kernel
theorem d_Sea_takePattern_36 : decode b_Sea_takePattern 36 = .ok (.iastore, 1) := by decide +kernel
theorem d_Sea_takePattern_37 : decode b_Sea_takePattern 37 = .ok (.aload_n 0, 1) := by decide +kernel
theorem d_Sea_takePattern_38 : decode b_Sea_takePattern 38 = .ok (.getfield 15, 3) := by decide +kernel
theorem d_Sea_takePattern_41 : decode b_Sea_takePattern 41 = .ok (.aload_n 0, 1) := by decide +kernel
theorem d_Sea_takePattern_42 : decode b_Sea_takePattern 42 = .ok (.getfield 22, 3) := by decide +kernel
theorem d_Sea_takePattern_45 : decode b_Sea_takePattern 45 = .ok (.iconst 0, 1) := by decide +kernel
theorem d_Sea_takePattern_46 : decode b_Sea_takePattern 46 = .ok (.bastore, 1) := by decide +kernel
theorem d_Sea_takePattern_47 : decode b_Sea_takePattern 47 = .ok (.aload_n 0, 1) := by decide +kernel
theorem d_Sea_takePattern_48 : decode b_Sea_takePattern 48 = .ok (.dup, 1) := by decide +kernel
theorem d_Sea_takePattern_49 : decode b_Sea_takePattern 49 = .ok (.getfield 22, 3) := by decide +kernel
theorem d_Sea_takePattern_52 : decode b_Sea_takePattern 52 = .ok (.iconst 1, 1) := by decide +kernel
theorem d_Sea_takePattern_53 : decode b_Sea_takePattern 53 = .ok (.iadd, 1) := by decide +kernel
theorem d_Sea_takePattern_54 : decode b_Sea_takePattern 54 = .ok (.putfield 22, 3) := by decide +kernel
theorem d_Sea_takePattern_57 : decode b_Sea_takePattern 57 = .ok (.goto 38, 3) := by decide +kernel
theorem d_Sea_takePattern_60 : decode b_Sea_takePattern 60 = .ok (.aload_n 0, 1) := by decide +kernel
theorem d_Sea_takePattern_61 : decode b_Sea_takePattern 61 = .ok (.getfield 22, 3) := by decide +kernel
theorem d_Sea_takePattern_64 : decode b_Sea_takePattern 64 = .ok (.ifCond .eq 17, 3) := by decide +kernel
theorem d_Sea_takePattern_67 : decode b_Sea_takePattern 67 = .ok (.aload_n 0, 1) := by decide +kernel
theorem d_Sea_takePattern_68 : decode b_Sea_takePattern 68 = .ok (.getfield 15, 3) := by decide +kernel
theorem d_Sea_takePattern_71 : decode b_Sea_takePattern 71 = .ok (.aload_n 0, 1) := by decide +kernel
theorem d_Sea_takePattern_72 : decode b_Sea_takePattern 72 = .ok (.getfield 22, 3) := by decide +kernel
theorem d_Sea_takePattern_75 : decode b_Sea_takePattern 75 = .ok (.iconst 1, 1) := by decide +kernel
theorem d_Sea_takePattern_76 : decode b_Sea_takePattern 76 = .ok (.isub, 1) := by decide +kernel
theorem d_Sea_takePattern_77 : decode b_Sea_takePattern 77 = .ok (.baload, 1) := by decide +kernel
theorem d_Sea_takePattern_78 : decode b_Sea_takePattern 78 = .ok (.ifCond .eq 5, 3) := by decide +kernel
theorem d_Sea_takePattern_81 : decode b_Sea_takePattern 81 = .ok (.iconst 0, 1) := by decide +kernel
theorem d_Sea_takePattern_82 : decode b_Sea_takePattern 82 = .ok (.ireturn, 1) := by decide +kernel
theorem d_Sea_takePattern_83 : decode b_Sea_takePattern 83 = .ok (.aload_n 0, 1) := by decide +kernel
theorem d_Sea_takePattern_84 : decode b_Sea_takePattern 84 = .ok (.getfield 15, 3) := by decide +kernel
theorem d_Sea_takePattern_87 : decode b_Sea_takePattern 87 = .ok (.aload_n 0, 1) := by decide +kernel
theorem d_Sea_takePattern_88 : decode b_Sea_takePattern 88 = .ok (.getfield 22, 3) := by decide +kernel
theorem d_Sea_takePattern_91 : decode b_Sea_takePattern 91 = .ok (.iconst 1, 1) := by decide +kernel
theorem d_Sea_takePattern_92 : decode b_Sea_takePattern 92 = .ok (.isub, 1) := by decide +kernel
theorem d_Sea_takePattern_93 : decode b_Sea_takePattern 93 = .ok (.iconst 1, 1) := by decide +kernel
theorem d_Sea_takePattern_94 : decode b_Sea_takePattern 94 = .ok (.bastore, 1) := by decide +kernel
theorem d_Sea_takePattern_95 : decode b_Sea_takePattern 95 = .ok (.iinc 2 1, 3) := by decide +kernel
theorem d_Sea_takePattern_98 : decode b_Sea_takePattern 98 = .ok (.goto (-91), 3) := by decide +kernel
theorem d_Sea_takePattern_101 : decode b_Sea_takePattern 101 = .ok (.aload_n 0, 1) := by decide +kernel
theorem d_Sea_takePattern_102 : decode b_Sea_takePattern 102 = .ok (.getfield 22, 3) := by decide +kernel
theorem d_Sea_takePattern_105 : decode b_Sea_takePattern 105 = .ok (.ifCond .le 7, 3) := by decide +kernel
theorem d_Sea_takePattern_108 : decode b_Sea_takePattern 108 = .ok (.iconst 1, 1) := by decide +kernel
theorem d_Sea_takePattern_109 : decode b_Sea_takePattern 109 = .ok (.goto 4, 3) := by decide +kernel
theorem d_Sea_takePattern_112 : decode b_Sea_takePattern 112 = .ok (.iconst 0, 1) := by decide +kernel
theorem d_Sea_takePattern_113 : decode b_Sea_takePattern 113 = .ok (.ireturn, 1) := by decide +kernel
theorem d_Sea_firstMatch_0 : decode b_Sea_firstMatch 0 = .ok (.iconst (-1), 1) := by decide +kernel
theorem d_Sea_firstMatch_1 : decode b_Sea_firstMatch 1 = .ok (.istore_n 3, 1) := by decide +kernel
theorem d_Sea_firstMatch_2 : decode b_Sea_firstMatch 2 = .ok (.aload_n 1, 1) := by decide +kernel
theorem d_Sea_firstMatch_3 : decode b_Sea_firstMatch 3 = .ok (.invokeinterface 39 1, 5) := by decide +kernel
theorem d_Sea_firstMatch_8 : decode b_Sea_firstMatch 8 = .ok (.istore 4, 2) := by decide +kernel
theorem d_Sea_firstMatch_10 : decode b_Sea_firstMatch 10 = .ok (.iload 4, 2) := by decide +kernel
theorem d_Sea_firstMatch_12 : decode b_Sea_firstMatch 12 = .ok (.iload_n 2, 1) := by decide +kernel
theorem d_Sea_firstMatch_13 : decode b_Sea_firstMatch 13 = .ok (.if_icmp .lt 46, 3) := by decide +kernel
theorem d_Sea_firstMatch_16 : decode b_Sea_firstMatch 16 = .ok (.aload_n 0, 1) := by decide +kernel
theorem d_Sea_firstMatch_17 : decode b_Sea_firstMatch 17 = .ok (.iload 4, 2) := by decide +kernel
theorem d_Sea_firstMatch_19 : decode b_Sea_firstMatch 19 = .ok (.aload_n 1, 1) := by decide +kernel
theorem d_Sea_firstMatch_20 : decode b_Sea_firstMatch 20 = .ok (.iload 4, 2) := by decide +kernel
theorem d_Sea_firstMatch_22 : decode b_Sea_firstMatch 22 = .ok (.invokeinterface 42 2, 5) := by decide +kernel
theorem d_Sea_firstMatch_27 : decode b_Sea_firstMatch 27 = .ok (.invokevirtual 43, 3) := by decide +kernel
theorem d_Sea_firstMatch_30 : decode b_Sea_firstMatch 30 = .ok (.aload_n 0, 1) := by decide +kernel
theorem d_Sea_firstMatch_31 : decode b_Sea_firstMatch 31 = .ok (.getfield 19, 3) := by decide +kernel
theorem d_Sea_firstMatch_34 : decode b_Sea_firstMatch 34 = .ok (.iconst 0, 1) := by decide +kernel
theorem d_Sea_firstMatch_35 : decode b_Sea_firstMatch 35 = .ok (.iaload, 1) := by decide +kernel
theorem d_Sea_firstMatch_36 : decode b_Sea_firstMatch 36 = .ok (.iconst (-1), 1) := by decide +kernel
theorem d_Sea_firstMatch_37 : decode b_Sea_firstMatch 37 = .ok (.if_icmp .eq 16, 3) := by decide +kernel
theorem d_Sea_firstMatch_40 : decode b_Sea_firstMatch 40 = .ok (.iload 4, 2) := by decide +kernel
theorem d_Sea_firstMatch_42 : decode b_Sea_firstMatch 42 = .ok (.istore_n 3, 1) := by decide +kernel
theorem d_Sea_firstMatch_43 : decode b_Sea_firstMatch 43 = .ok (.aload_n 0, 1) := by decide +kernel
theorem d_Sea_firstMatch_44 : decode b_Sea_firstMatch 44 = .ok (.aload_n 0, 1) := by decide +kernel
theorem d_Sea_firstMatch_45 : decode b_Sea_firstMatch 45 = .ok (.getfield 19, 3) := by decide +kernel
theorem d_Sea_firstMatch_48 : decode b_Sea_firstMatch 48 = .ok (.iconst 0, 1) := by decide +kernel
theorem d_Sea_firstMatch_49 : decode b_Sea_firstMatch 49 = .ok (.iaload, 1) := by decide +kernel
theorem d_Sea_firstMatch_50 : decode b_Sea_firstMatch 50 = .ok (.putfield 26, 3) := by decide +kernel
theorem d_Sea_firstMatch_53 : decode b_Sea_firstMatch 53 = .ok (.iinc 4 (-1), 3) := by decide +kernel
theorem d_Sea_firstMatch_56 : decode b_Sea_firstMatch 56 = .ok (.goto (-46), 3) := by decide +kernel
theorem d_Sea_firstMatch_59 : decode b_Sea_firstMatch 59 = .ok (.iload_n 3, 1) := by decide +kernel
theorem d_Sea_firstMatch_60 : decode b_Sea_firstMatch 60 = .ok (.ireturn, 1) := by decide +kernel
theorem d_Sea_matchEnd_0 : decode b_Sea_matchEnd 0 = .ok (.aload_n 0, 1) := by decide +kernel
theorem d_Sea_matchEnd_1 : decode b_Sea_matchEnd 1 = .ok (.getfield 26, 3) := by decide +kernel
theorem d_Sea_matchEnd_4 : decode b_Sea_matchEnd 4 = .ok (.ireturn, 1) := by decide +kernel
theorem d_Sea_reachFrom_0 : decode b_Sea_reachFrom 0 = .ok (.aload_n 0, 1) := by decide +kernel
theorem d_Sea_reachFrom_1 : decode b_Sea_reachFrom 1 = .ok (.getfield 19, 3) := by decide +kernel
theorem d_Sea_reachFrom_4 : decode b_Sea_reachFrom 4 = .ok (.aload_n 0, 1) := by decide +kernel
theorem d_Sea_reachFrom_5 : decode b_Sea_reachFrom 5 = .ok (.getfield 22, 3) := by decide +kernel
theorem d_Sea_reachFrom_8 : decode b_Sea_reachFrom 8 = .ok (.iaload, 1) := by decide +kernel
theorem d_Sea_reachFrom_9 : decode b_Sea_reachFrom 9 = .ok (.istore_n 3, 1) := by decide +kernel
theorem d_Sea_reachFrom_10 : decode b_Sea_reachFrom 10 = .ok (.aload_n 0, 1) := by decide +kernel
theorem d_Sea_reachFrom_11 : decode b_Sea_reachFrom 11 = .ok (.getfield 19, 3) := by decide +kernel
theorem d_Sea_reachFrom_14 : decode b_Sea_reachFrom 14 = .ok (.aload_n 0, 1) := by decide +kernel
theorem d_Sea_reachFrom_15 : decode b_Sea_reachFrom 15 = .ok (.getfield 22, 3) := by decide +kernel
theorem d_Sea_reachFrom_18 : decode b_Sea_reachFrom 18 = .ok (.iload_n 1, 1) := by decide +kernel
theorem d_Sea_reachFrom_19 : decode b_Sea_reachFrom 19 = .ok (.iastore, 1) := by decide +kernel
theorem d_Sea_reachFrom_20 : decode b_Sea_reachFrom 20 = .ok (.aload_n 0, 1) := by decide +kernel
theorem d_Sea_reachFrom_21 : decode b_Sea_reachFrom 21 = .ok (.getfield 22, 3) := by decide +kernel
theorem d_Sea_reachFrom_24 : decode b_Sea_reachFrom 24 = .ok (.iconst 1, 1) := by decide +kernel
theorem d_Sea_reachFrom_25 : decode b_Sea_reachFrom 25 = .ok (.isub, 1) := by decide +kernel
theorem d_Sea_reachFrom_26 : decode b_Sea_reachFrom 26 = .ok (.istore 4, 2) := by decide +kernel
theorem d_Sea_reachFrom_28 : decode b_Sea_reachFrom 28 = .ok (.iload 4, 2) := by decide +kernel
theorem d_Sea_reachFrom_30 : decode b_Sea_reachFrom 30 = .ok (.ifCond .lt 94, 3) := by decide +kernel
theorem d_Sea_reachFrom_33 : decode b_Sea_reachFrom 33 = .ok (.aload_n 0, 1) := by decide +kernel
theorem d_Sea_reachFrom_34 : decode b_Sea_reachFrom 34 = .ok (.getfield 19, 3) := by decide +kernel
theorem d_Sea_reachFrom_37 : decode b_Sea_reachFrom 37 = .ok (.iload 4, 2) := by decide +kernel
theorem d_Sea_reachFrom_39 : decode b_Sea_reachFrom 39 = .ok (.iaload, 1) := by decide +kernel
theorem d_Sea_reachFrom_40 : decode b_Sea_reachFrom 40 = .ok (.istore 5, 2) := by decide +kernel
theorem d_Sea_reachFrom_42 : decode b_Sea_reachFrom 42 = .ok (.aload_n 0, 1) := by decide +kernel
theorem d_Sea_reachFrom_43 : decode b_Sea_reachFrom 43 = .ok (.iload 4, 2) := by decide +kernel
theorem d_Sea_reachFrom_45 : decode b_Sea_reachFrom 45 = .ok (.iload_n 2, 1) := by decide +kernel
theorem d_Sea_reachFrom_46 : decode b_Sea_reachFrom 46 = .ok (.invokevirtual 47, 3) := by decide +kernel
theorem d_Sea_reachFrom_49 : decode b_Sea_reachFrom 49 = .ok (.istore 6, 2) := by decide +kernel
theorem d_Sea_reachFrom_51 : decode b_Sea_reachFrom 51 = .ok (.aload_n 0, 1) := by decide +kernel
theorem d_Sea_reachFrom_52 : decode b_Sea_reachFrom 52 = .ok (.getfield 15, 3) := by decide +kernel
theorem d_Sea_reachFrom_55 : decode b_Sea_reachFrom 55 = .ok (.iload 4, 2) := by decide +kernel
theorem d_Sea_reachFrom_57 : decode b_Sea_reachFrom 57 = .ok (.baload, 1) := by decide +kernel
theorem d_Sea_reachFrom_58 : decode b_Sea_reachFrom 58 = .ok (.ifCond .eq 40, 3) := by decide +kernel
theorem d_Sea_reachFrom_61 : decode b_Sea_reachFrom 61 = .ok (.iload 6, 2) := by decide +kernel
theorem d_Sea_reachFrom_63 : decode b_Sea_reachFrom 63 = .ok (.ifCond .eq 8, 3) := by decide +kernel
theorem d_Sea_reachFrom_66 : decode b_Sea_reachFrom 66 = .ok (.iload 5, 2) := by decide +kernel
theorem d_Sea_reachFrom_68 : decode b_Sea_reachFrom 68 = .ok (.goto 4, 3) := by decide +kernel
theorem d_Sea_reachFrom_71 : decode b_Sea_reachFrom 71 = .ok (.iconst (-1), 1) := by decide +kernel
theorem d_Sea_reachFrom_72 : decode b_Sea_reachFrom 72 = .ok (.istore 7, 2) := by decide +kernel
theorem d_Sea_reachFrom_74 : decode b_Sea_reachFrom 74 = .ok (.aload_n 0, 1) := by decide +kernel
theorem d_Sea_reachFrom_75 : decode b_Sea_reachFrom 75 = .ok (.getfield 19, 3) := by decide +kernel
theorem d_Sea_reachFrom_78 : decode b_Sea_reachFrom 78 = .ok (.iload 4, 2) := by decide +kernel
theorem d_Sea_reachFrom_80 : decode b_Sea_reachFrom 80 = .ok (.iload 7, 2) := by decide +kernel
theorem d_Sea_reachFrom_82 : decode b_Sea_reachFrom 82 = .ok (.aload_n 0, 1) := by decide +kernel
theorem d_Sea_reachFrom_83 : decode b_Sea_reachFrom 83 = .ok (.getfield 19, 3) := by decide +kernel
theorem d_Sea_reachFrom_86 : decode b_Sea_reachFrom 86 = .ok (.iload 4, 2) := by decide +kernel
theorem d_Sea_reachFrom_88 : decode b_Sea_reachFrom 88 = .ok (.iconst 1, 1) := by decide +kernel
theorem d_Sea_reachFrom_89 : decode b_Sea_reachFrom 89 = .ok (.iadd, 1) := by decide +kernel
theorem d_Sea_reachFrom_90 : decode b_Sea_reachFrom 90 = .ok (.iaload, 1) := by decide +kernel
theorem d_Sea_reachFrom_91 : decode b_Sea_reachFrom 91 = .ok (.invokestatic 51, 3) := by decide +kernel
theorem d_Sea_reachFrom_94 : decode b_Sea_reachFrom 94 = .ok (.iastore, 1) := by decide +kernel
theorem d_Sea_reachFrom_95 : decode b_Sea_reachFrom 95 = .ok (.goto 20, 3) := by decide +kernel
theorem d_Sea_reachFrom_98 : decode b_Sea_reachFrom 98 = .ok (.aload_n 0, 1) := by decide +kernel
theorem d_Sea_reachFrom_99 : decode b_Sea_reachFrom 99 = .ok (.getfield 19, 3) := by decide +kernel
theorem d_Sea_reachFrom_102 : decode b_Sea_reachFrom 102 = .ok (.iload 4, 2) := by decide +kernel
theorem d_Sea_reachFrom_104 : decode b_Sea_reachFrom 104 = .ok (.iload 6, 2) := by decide +kernel
theorem d_Sea_reachFrom_106 : decode b_Sea_reachFrom 106 = .ok (.ifCond .eq 7, 3) := by decide +kernel
theorem d_Sea_reachFrom_109 : decode b_Sea_reachFrom 109 = .ok (.iload_n 3, 1) := by decide +kernel
theorem d_Sea_reachFrom_110 : decode b_Sea_reachFrom 110 = .ok (.goto 4, 3) := by decide +kernel
theorem d_Sea_reachFrom_113 : decode b_Sea_reachFrom 113 = .ok (.iconst (-1), 1) := by decide +kernel
theorem d_Sea_reachFrom_114 : decode b_Sea_reachFrom 114 = .ok (.iastore, 1) := by decide +kernel
theorem d_Sea_reachFrom_115 : decode b_Sea_reachFrom 115 = .ok (.iload 5, 2) := by decide +kernel
theorem d_Sea_reachFrom_117 : decode b_Sea_reachFrom 117 = .ok (.istore_n 3, 1) := by decide +kernel
theorem d_Sea_reachFrom_118 : decode b_Sea_reachFrom 118 = .ok (.iinc 4 (-1), 3) := by decide +kernel
theorem d_Sea_reachFrom_121 : decode b_Sea_reachFrom 121 = .ok (.goto (-93), 3) := by decide +kernel
theorem d_Sea_reachFrom_124 : decode b_Sea_reachFrom 124 = .ok (.return_, 1) := by decide +kernel
theorem d_Sea_standsFor_0 : decode b_Sea_standsFor 0 = .ok (.aload_n 0, 1) := by decide +kernel
theorem d_Sea_standsFor_1 : decode b_Sea_standsFor 1 = .ok (.getfield 9, 3) := by decide +kernel
theorem d_Sea_standsFor_4 : decode b_Sea_standsFor 4 = .ok (.iload_n 1, 1) := by decide +kernel
theorem d_Sea_standsFor_5 : decode b_Sea_standsFor 5 = .ok (.iaload, 1) := by decide +kernel
theorem d_Sea_standsFor_6 : decode b_Sea_standsFor 6 = .ok (.bipush 46, 2) := by decide +kernel
theorem d_Sea_standsFor_8 : decode b_Sea_standsFor 8 = .ok (.if_icmp .ne 26, 3) := by decide +kernel
theorem d_Sea_standsFor_11 : decode b_Sea_standsFor 11 = .ok (.iload_n 2, 1) := by decide +kernel
theorem d_Sea_standsFor_12 : decode b_Sea_standsFor 12 = .ok (.iconst (-1), 1) := by decide +kernel
theorem d_Sea_standsFor_13 : decode b_Sea_standsFor 13 = .ok (.if_icmp .eq 19, 3) := by decide +kernel
theorem d_Sea_standsFor_16 : decode b_Sea_standsFor 16 = .ok (.iload_n 2, 1) := by decide +kernel
theorem d_Sea_standsFor_17 : decode b_Sea_standsFor 17 = .ok (.bipush 10, 2) := by decide +kernel
theorem d_Sea_standsFor_19 : decode b_Sea_standsFor 19 = .ok (.if_icmp .eq 13, 3) := by decide +kernel
theorem d_Sea_standsFor_22 : decode b_Sea_standsFor 22 = .ok (.iload_n 2, 1) := by decide +kernel
theorem d_Sea_standsFor_23 : decode b_Sea_standsFor 23 = .ok (.bipush 13, 2) := by decide +kernel
theorem d_Sea_standsFor_25 : decode b_Sea_standsFor 25 = .ok (.if_icmp .eq 7, 3) := by decide +kernel
theorem d_Sea_standsFor_28 : decode b_Sea_standsFor 28 = .ok (.iconst 1, 1) := by decide +kernel
theorem d_Sea_standsFor_29 : decode b_Sea_standsFor 29 = .ok (.goto 4, 3) := by decide +kernel
theorem d_Sea_standsFor_32 : decode b_Sea_standsFor 32 = .ok (.iconst 0, 1) := by decide +kernel
theorem d_Sea_standsFor_33 : decode b_Sea_standsFor 33 = .ok (.ireturn, 1) := by decide +kernel
theorem d_Sea_standsFor_34 : decode b_Sea_standsFor 34 = .ok (.iload_n 2, 1) := by decide +kernel
theorem d_Sea_standsFor_35 : decode b_Sea_standsFor 35 = .ok (.aload_n 0, 1) := by decide +kernel
theorem d_Sea_standsFor_36 : decode b_Sea_standsFor 36 = .ok (.getfield 9, 3) := by decide +kernel
theorem d_Sea_standsFor_39 : decode b_Sea_standsFor 39 = .ok (.iload_n 1, 1) := by decide +kernel
theorem d_Sea_standsFor_40 : decode b_Sea_standsFor 40 = .ok (.iaload, 1) := by decide +kernel
theorem d_Sea_standsFor_41 : decode b_Sea_standsFor 41 = .ok (.if_icmp .ne 7, 3) := by decide +kernel
theorem d_Sea_standsFor_44 : decode b_Sea_standsFor 44 = .ok (.iconst 1, 1) := by decide +kernel
theorem d_Sea_standsFor_45 : decode b_Sea_standsFor 45 = .ok (.goto 4, 3) := by decide +kernel
theorem d_Sea_standsFor_48 : decode b_Sea_standsFor 48 = .ok (.iconst 0, 1) := by decide +kernel
theorem d_Sea_standsFor_49 : decode b_Sea_standsFor 49 = .ok (.ireturn, 1) := by decide +kernel
end
section
theorem d_VT_init_0 : decode b_VT_init 0 = .ok (.aload_n 0, 1) := by decide +kernel
theorem d_VT_init_1 : decode b_VT_init 1 = .ok (.invokespecial 1, 3) := by decide +kernel
theorem d_VT_init_4 : decode b_VT_init 4 = .ok (.iload_n 1, 1) := by decide +kernel
theorem d_VT_init_5 : decode b_VT_init 5 = .ok (.iconst 1, 1) := by decide +kernel
theorem d_VT_init_6 : decode b_VT_init 6 = .ok (.if_icmp .ne 20, 3) := by decide +kernel
theorem d_VT_init_9 : decode b_VT_init 9 = .ok (.aload_n 0, 1) := by decide +kernel
theorem d_VT_init_10 : decode b_VT_init 10 = .ok (.new 9, 3) := by decide +kernel
theorem d_VT_init_13 : decode b_VT_init 13 = .ok (.dup, 1) := by decide +kernel
theorem d_VT_init_14 : decode b_VT_init 14 = .ok (.sipush 160, 3) := by decide +kernel
theorem d_VT_init_17 : decode b_VT_init 17 = .ok (.invokespecial 11, 3) := by decide +kernel
theorem d_VT_init_20 : decode b_VT_init 20 = .ok (.putfield 14, 3) := by decide +kernel
theorem d_VT_init_23 : decode b_VT_init 23 = .ok (.goto 17, 3) := by decide +kernel
theorem d_VT_init_26 : decode b_VT_init 26 = .ok (.aload_n 0, 1) := by decide +kernel
theorem d_VT_init_27 : decode b_VT_init 27 = .ok (.new 18, 3) := by decide +kernel
theorem d_VT_init_30 : decode b_VT_init 30 = .ok (.dup, 1) := by decide +kernel
theorem d_VT_init_31 : decode b_VT_init 31 = .ok (.sipush 160, 3) := by decide +kernel
theorem d_VT_init_34 : decode b_VT_init 34 = .ok (.invokespecial 20, 3) := by decide +kernel
theorem d_VT_init_37 : decode b_VT_init 37 = .ok (.putfield 14, 3) := by decide +kernel
theorem d_VT_init_40 : decode b_VT_init 40 = .ok (.aload_n 0, 1) := by decide +kernel
theorem d_VT_init_41 : decode b_VT_init 41 = .ok (.new 18, 3) := by decide +kernel
theorem d_VT_init_44 : decode b_VT_init 44 = .ok (.dup, 1) := by decide +kernel
theorem d_VT_init_45 : decode b_VT_init 45 = .ok (.bipush 24, 2) := by decide +kernel
theorem d_VT_init_47 : decode b_VT_init 47 = .ok (.invokespecial 20, 3) := by decide +kernel
theorem d_VT_init_50 : decode b_VT_init 50 = .ok (.putfield 21, 3) := by decide +kernel
theorem d_VT_init_53 : decode b_VT_init 53 = .ok (.aload_n 0, 1) := by decide +kernel
theorem d_VT_init_54 : decode b_VT_init 54 = .ok (.iconst 5, 1) := by decide +kernel
theorem d_VT_init_55 : decode b_VT_init 55 = .ok (.anewarray 25, 3) := by decide +kernel
theorem d_VT_init_58 : decode b_VT_init 58 = .ok (.putfield 27, 3) := by decide +kernel
theorem d_VT_init_61 : decode b_VT_init 61 = .ok (.aload_n 0, 1) := by decide +kernel
theorem d_VT_init_62 : decode b_VT_init 62 = .ok (.iconst 5, 1) := by decide +kernel
theorem d_VT_init_63 : decode b_VT_init 63 = .ok (.newarray .boolean, 2) := by decide +kernel
theorem d_VT_init_65 : decode b_VT_init 65 = .ok (.putfield 31, 3) := by decide +kernel
theorem d_VT_init_68 : decode b_VT_init 68 = .ok (.aload_n 0, 1) := by decide +kernel
theorem d_VT_init_69 : decode b_VT_init 69 = .ok (.getfield 27, 3) := by decide +kernel
theorem d_VT_init_72 : decode b_VT_init 72 = .ok (.iconst 0, 1) := by decide +kernel
theorem d_VT_init_73 : decode b_VT_init 73 = .ok (.aload_n 0, 1) := by decide +kernel
theorem d_VT_init_74 : decode b_VT_init 74 = .ok (.getfield 14, 3) := by decide +kernel
theorem d_VT_init_77 : decode b_VT_init 77 = .ok (.aastore, 1) := by decide +kernel
theorem d_VT_init_78 : decode b_VT_init 78 = .ok (.aload_n 0, 1) := by decide +kernel
theorem d_VT_init_79 : decode b_VT_init 79 = .ok (.getfield 31, 3) := by decide +kernel
theorem d_VT_init_82 : decode b_VT_init 82 = .ok (.iconst 0, 1) := by decide +kernel
theorem d_VT_init_83 : decode b_VT_init 83 = .ok (.iconst 1, 1) := by decide +kernel
theorem d_VT_init_84 : decode b_VT_init 84 = .ok (.bastore, 1) := by decide +kernel
theorem d_VT_init_85 : decode b_VT_init 85 = .ok (.iconst 1, 1) := by decide +kernel
theorem d_VT_init_86 : decode b_VT_init 86 = .ok (.istore_n 2, 1) := by decide +kernel
theorem d_VT_init_87 : decode b_VT_init 87 = .ok (.iload_n 2, 1) := by decide +kernel
theorem d_VT_init_88 : decode b_VT_init 88 = .ok (.iconst 4, 1) := by decide +kernel
theorem d_VT_init_89 : decode b_VT_init 89 = .ok (.if_icmp .gt 25, 3) := by decide +kernel
theorem d_VT_init_92 : decode b_VT_init 92 = .ok (.aload_n 0, 1) := by decide +kernel
theorem d_VT_init_93 : decode b_VT_init 93 = .ok (.getfield 27, 3) := by decide +kernel
theorem d_VT_init_96 : decode b_VT_init 96 = .ok (.iload_n 2, 1) := by decide +kernel
theorem d_VT_init_97 : decode b_VT_init 97 = .ok (.new 18, 3) := by decide +kernel
theorem d_VT_init_100 : decode b_VT_init 100 = .ok (.dup, 1) := by decide +kernel
theorem d_VT_init_101 : decode b_VT_init 101 = .ok (.sipush 160, 3) := by decide +kernel
theorem d_VT_init_104 : decode b_VT_init 104 = .ok (.invokespecial 20, 3) := by decide +kernel
theorem d_VT_init_107 : decode b_VT_init 107 = .ok (.aastore, 1) := by decide +kernel
theorem d_VT_init_108 : decode b_VT_init 108 = .ok (.iinc 2 1, 3) := by decide +kernel
theorem d_VT_init_111 : decode b_VT_init 111 = .ok (.goto (-24), 3) := by decide +kernel
theorem d_VT_init_114 : decode b_VT_init 114 = .ok (.aload_n 0, 1) := by decide +kernel
theorem d_VT_init_115 : decode b_VT_init 115 = .ok (.new 35, 3) := by decide +kernel
theorem d_VT_init_118 : decode b_VT_init 118 = .ok (.dup, 1) := by decide +kernel
theorem d_VT_init_119 : decode b_VT_init 119 = .ok (.invokespecial 37, 3) := by decide +kernel
theorem d_VT_init_122 : decode b_VT_init 122 = .ok (.putfield 38, 3) := by decide +kernel
theorem d_VT_init_125 : decode b_VT_init 125 = .ok (.aload_n 0, 1) := by decide +kernel
theorem d_VT_init_126 : decode b_VT_init 126 = .ok (.new 42, 3) := by decide +kernel
theorem d_VT_init_129 : decode b_VT_init 129 = .ok (.dup, 1) := by decide +kernel
theorem d_VT_init_130 : decode b_VT_init 130 = .ok (.invokespecial 44, 3) := by decide +kernel
theorem d_VT_init_133 : decode b_VT_init 133 = .ok (.putfield 45, 3) := by decide +kernel
theorem d_VT_init_136 : decode b_VT_init 136 = .ok (.aload_n 0, 1) := by decide +kernel
theorem d_VT_init_137 : decode b_VT_init 137 = .ok (.new 49, 3) := by decide +kernel
theorem d_VT_init_140 : decode b_VT_init 140 = .ok (.dup, 1) := by decide +kernel
theorem d_VT_init_141 : decode b_VT_init 141 = .ok (.invokespecial 51, 3) := by decide +kernel
theorem d_VT_init_144 : decode b_VT_init 144 = .ok (.putfield 52, 3) := by decide +kernel
theorem d_VT_init_147 : decode b_VT_init 147 = .ok (.aload_n 0, 1) := by decide +kernel
theorem d_VT_init_148 : decode b_VT_init 148 = .ok (.iconst 0, 1) := by decide +kernel
theorem d_VT_init_149 : decode b_VT_init 149 = .ok (.putfield 56, 3) := by decide +kernel
theorem d_VT_init_152 : decode b_VT_init 152 = .ok (.aload_n 0, 1) := by decide +kernel
theorem d_VT_init_153 : decode b_VT_init 153 = .ok (.iconst (-1), 1) := by decide +kernel
theorem d_VT_init_154 : decode b_VT_init 154 = .ok (.putfield 60, 3) := by decide +kernel
theorem d_VT_init_157 : decode b_VT_init 157 = .ok (.return_, 1) := by decide +kernel
theorem d_VT_type_0 : decode b_VT_type 0 = .ok (.aload_n 0, 1) := by decide +kernel
theorem d_VT_type_1 : decode b_VT_type 1 = .ok (.getfield 21, 3) := by decide +kernel
theorem d_VT_type_4 : decode b_VT_type 4 = .ok (.iload_n 1, 1) := by decide +kernel
theorem d_VT_type_5 : decode b_VT_type 5 = .ok (.invokevirtual 63, 3) := by decide +kernel
theorem d_VT_type_8 : decode b_VT_type 8 = .ok (.ireturn, 1) := by decide +kernel
theorem d_VT_scrap_0 : decode b_VT_scrap 0 = .ok (.aload_n 0, 1) := by decide +kernel
theorem d_VT_scrap_1 : decode b_VT_scrap 1 = .ok (.getfield 21, 3) := by decide +kernel
theorem d_VT_scrap_4 : decode b_VT_scrap 4 = .ok (.iconst 0, 1) := by decide +kernel
theorem d_VT_scrap_5 : decode b_VT_scrap 5 = .ok (.aload_n 0, 1) := by decide +kernel
theorem d_VT_scrap_6 : decode b_VT_scrap 6 = .ok (.getfield 21, 3) := by decide +kernel
theorem d_VT_scrap_9 : decode b_VT_scrap 9 = .ok (.invokevirtual 67, 3) := by decide +kernel
theorem d_VT_scrap_12 : decode b_VT_scrap 12 = .ok (.invokevirtual 71, 3) := by decide +kernel
theorem d_VT_scrap_15 : decode b_VT_scrap 15 = .ok (.return_, 1) := by decide +kernel
theorem d_VT_insert_0 : decode b_VT_insert 0 = .ok (.aload_n 0, 1) := by decide +kernel
theorem d_VT_insert_1 : decode b_VT_insert 1 = .ok (.iload_n 1, 1) := by decide +kernel
theorem d_VT_insert_2 : decode b_VT_insert 2 = .ok (.iload_n 1, 1) := by decide +kernel
theorem d_VT_insert_3 : decode b_VT_insert 3 = .ok (.invokevirtual 75, 3) := by decide +kernel
theorem d_VT_insert_6 : decode b_VT_insert 6 = .ok (.ifCond .ne 5, 3) := by decide +kernel
theorem d_VT_insert_9 : decode b_VT_insert 9 = .ok (.iconst 0, 1) := by decide +kernel
theorem d_VT_insert_10 : decode b_VT_insert 10 = .ok (.ireturn, 1) := by decide +kernel
theorem d_VT_insert_11 : decode b_VT_insert 11 = .ok (.aload_n 0, 1) := by decide +kernel
theorem d_VT_insert_12 : decode b_VT_insert 12 = .ok (.getfield 14, 3) := by decide +kernel
theorem d_VT_insert_15 : decode b_VT_insert 15 = .ok (.iload_n 1, 1) := by decide +kernel
theorem d_VT_insert_16 : decode b_VT_insert 16 = .ok (.aload_n 0, 1) := by decide +kernel
theorem d_VT_insert_17 : decode b_VT_insert 17 = .ok (.getfield 21, 3) := by decide +kernel
theorem d_VT_insert_20 : decode b_VT_insert 20 = .ok (.invokeinterface 79 3, 5) := by decide +kernel
theorem d_VT_insert_25 : decode b_VT_insert 25 = .ok (.aload_n 0, 1) := by decide +kernel
theorem d_VT_insert_26 : decode b_VT_insert 26 = .ok (.invokevirtual 83, 3) := by decide +kernel
theorem d_VT_insert_29 : decode b_VT_insert 29 = .ok (.istore_n 2, 1) := by decide +kernel
theorem d_VT_insert_30 : decode b_VT_insert 30 = .ok (.iload_n 2, 1) := by decide +kernel
theorem d_VT_insert_31 : decode b_VT_insert 31 = .ok (.ifCond .eq 25, 3) := by decide +kernel
theorem d_VT_insert_34 : decode b_VT_insert 34 = .ok (.iload_n 1, 1) := by decide +kernel
theorem d_VT_insert_35 : decode b_VT_insert 35 = .ok (.aload_n 0, 1) := by decide +kernel
theorem d_VT_insert_36 : decode b_VT_insert 36 = .ok (.getfield 60, 3) := by decide +kernel
theorem d_VT_insert_39 : decode b_VT_insert 39 = .ok (.if_icmp .ne 17, 3) := by decide +kernel
theorem d_VT_insert_42 : decode b_VT_insert 42 = .ok (.aload_n 0, 1) := by decide +kernel
theorem d_VT_insert_43 : decode b_VT_insert 43 = .ok (.getfield 38, 3) := by decide +kernel
theorem d_VT_insert_46 : decode b_VT_insert 46 = .ok (.aload_n 0, 1) := by decide +kernel
theorem d_VT_insert_47 : decode b_VT_insert 47 = .ok (.getfield 14, 3) := by decide +kernel
theorem d_VT_insert_50 : decode b_VT_insert 50 = .ok (.invokevirtual 87, 3) := by decide +kernel
theorem d_VT_insert_53 : decode b_VT_insert 53 = .ok (.goto 14, 3) := by decide +kernel
theorem d_VT_insert_56 : decode b_VT_insert 56 = .ok (.aload_n 0, 1) := by decide +kernel
theorem d_VT_insert_57 : decode b_VT_insert 57 = .ok (.getfield 38, 3) := by decide +kernel
theorem d_VT_insert_60 : decode b_VT_insert 60 = .ok (.aload_n 0, 1) := by decide +kernel
theorem d_VT_insert_61 : decode b_VT_insert 61 = .ok (.getfield 14, 3) := by decide +kernel
theorem d_VT_insert_64 : decode b_VT_insert 64 = .ok (.invokevirtual 91, 3) := by decide +kernel
theorem d_VT_insert_67 : decode b_VT_insert 67 = .ok (.aload_n 0, 1) := by decide +kernel
theorem d_VT_insert_68 : decode b_VT_insert 68 = .ok (.iload_n 2, 1) := by decide +kernel
theorem d_VT_insert_69 : decode b_VT_insert 69 = .ok (.ifCond .eq 9, 3) := by decide +kernel
theorem d_VT_insert_72 : decode b_VT_insert 72 = .ok (.iload_n 1, 1) := by decide +kernel
theorem d_VT_insert_73 : decode b_VT_insert 73 = .ok (.iconst 1, 1) := by decide +kernel
theorem d_VT_insert_74 : decode b_VT_insert 74 = .ok (.iadd, 1) := by decide +kernel
theorem d_VT_insert_75 : decode b_VT_insert 75 = .ok (.goto 4, 3) := by decide +kernel
theorem d_VT_insert_78 : decode b_VT_insert 78 = .ok (.iconst (-1), 1) := by decide +kernel
theorem d_VT_insert_79 : decode b_VT_insert 79 = .ok (.putfield 60, 3) := by decide +kernel
theorem d_VT_insert_82 : decode b_VT_insert 82 = .ok (.iconst 1, 1) := by decide +kernel
theorem d_VT_insert_83 : decode b_VT_insert 83 = .ok (.ireturn, 1) := by decide +kernel
theorem d_VT_remove_0 : decode b_VT_remove 0 = .ok (.iload_n 1, 1) := by decide +kernel
theorem d_VT_remove_1 : decode b_VT_remove 1 = .ok (.iload_n 2, 1) := by decide +kernel
theorem d_VT_remove_2 : decode b_VT_remove 2 = .ok (.if_icmp .eq 12, 3) := by decide +kernel
theorem d_VT_remove_5 : decode b_VT_remove 5 = .ok (.aload_n 0, 1) := by decide +kernel
theorem d_VT_remove_6 : decode b_VT_remove 6 = .ok (.iload_n 1, 1) := by decide +kernel
theorem d_VT_remove_7 : decode b_VT_remove 7 = .ok (.iload_n 2, 1) := by decide +kernel
theorem d_VT_remove_8 : decode b_VT_remove 8 = .ok (.invokevirtual 94, 3) := by decide +kernel
theorem d_VT_remove_11 : decode b_VT_remove 11 = .ok (.ifCond .ne 5, 3) := by decide +kernel
theorem d_VT_remove_14 : decode b_VT_remove 14 = .ok (.iconst 0, 1) := by decide +kernel
theorem d_VT_remove_15 : decode b_VT_remove 15 = .ok (.ireturn, 1) := by decide +kernel
theorem d_VT_remove_16 : decode b_VT_remove 16 = .ok (.aload_n 0, 1) := by decide +kernel
theorem d_VT_remove_17 : decode b_VT_remove 17 = .ok (.getfield 14, 3) := by decide +kernel
theorem d_VT_remove_20 : decode b_VT_remove 20 = .ok (.iload_n 1, 1) := by decide +kernel
theorem d_VT_remove_21 : decode b_VT_remove 21 = .ok (.iload_n 2, 1) := by decide +kernel
theorem d_VT_remove_22 : decode b_VT_remove 22 = .ok (.invokeinterface 97 3, 5) := by decide +kernel
theorem d_VT_remove_27 : decode b_VT_remove 27 = .ok (.aload_n 0, 1) := by decide +kernel
theorem d_VT_remove_28 : decode b_VT_remove 28 = .ok (.invokevirtual 98, 3) := by decide +kernel
theorem d_VT_remove_31 : decode b_VT_remove 31 = .ok (.iconst 1, 1) := by decide +kernel
theorem d_VT_remove_32 : decode b_VT_remove 32 = .ok (.ireturn, 1) := by decide +kernel
theorem d_VT_replace_0 : decode b_VT_replace 0 = .ok (.aload_n 0, 1) := by decide +kernel
theorem d_VT_replace_1 : decode b_VT_replace 1 = .ok (.iload_n 1, 1) := by decide +kernel
theorem d_VT_replace_2 : decode b_VT_replace 2 = .ok (.iload_n 2, 1) := by decide +kernel
theorem d_VT_replace_3 : decode b_VT_replace 3 = .ok (.invokevirtual 75, 3) := by decide +kernel
theorem d_VT_replace_6 : decode b_VT_replace 6 = .ok (.ifCond .ne 5, 3) := by decide +kernel
theorem d_VT_replace_9 : decode b_VT_replace 9 = .ok (.iconst 0, 1) := by decide +kernel
theorem d_VT_replace_10 : decode b_VT_replace 10 = .ok (.ireturn, 1) := by decide +kernel
theorem d_VT_replace_11 : decode b_VT_replace 11 = .ok (.aload_n 0, 1) := by decide +kernel
theorem d_VT_replace_12 : decode b_VT_replace 12 = .ok (.getfield 14, 3) := by decide +kernel
theorem d_VT_replace_15 : decode b_VT_replace 15 = .ok (.iload_n 1, 1) := by decide +kernel
theorem d_VT_replace_16 : decode b_VT_replace 16 = .ok (.iload_n 2, 1) := by decide +kernel
theorem d_VT_replace_17 : decode b_VT_replace 17 = .ok (.invokeinterface 97 3, 5) := by decide +kernel
theorem d_VT_replace_22 : decode b_VT_replace 22 = .ok (.aload_n 0, 1) := by decide +kernel
theorem d_VT_replace_23 : decode b_VT_replace 23 = .ok (.getfield 14, 3) := by decide +kernel
theorem d_VT_replace_26 : decode b_VT_replace 26 = .ok (.iload_n 1, 1) := by decide +kernel
theorem d_VT_replace_27 : decode b_VT_replace 27 = .ok (.aload_n 0, 1) := by decide +kernel
theorem d_VT_replace_28 : decode b_VT_replace 28 = .ok (.getfield 21, 3) := by decide +kernel
theorem d_VT_replace_31 : decode b_VT_replace 31 = .ok (.invokeinterface 79 3, 5) := by decide +kernel
theorem d_VT_replace_36 : decode b_VT_replace 36 = .ok (.aload_n 0, 1) := by decide +kernel
theorem d_VT_replace_37 : decode b_VT_replace 37 = .ok (.invokevirtual 98, 3) := by decide +kernel
theorem d_VT_replace_40 : decode b_VT_replace 40 = .ok (.iconst 1, 1) := by decide +kernel
theorem d_VT_replace_41 : decode b_VT_replace 41 = .ok (.ireturn, 1) := by decide +kernel
theorem d_VT_undo_0 : decode b_VT_undo 0 = .ok (.aload_n 0, 1) := by decide +kernel
theorem d_VT_undo_1 : decode b_VT_undo 1 = .ok (.getfield 38, 3) := by decide +kernel
theorem d_VT_undo_4 : decode b_VT_undo 4 = .ok (.invokevirtual 101, 3) := by decide +kernel
theorem d_VT_undo_7 : decode b_VT_undo 7 = .ok (.ifCond .ne 5, 3) := by decide +kernel
theorem d_VT_undo_10 : decode b_VT_undo 10 = .ok (.iconst 0, 1) := by decide +kernel
theorem d_VT_undo_11 : decode b_VT_undo 11 = .ok (.ireturn, 1) := by decide +kernel
theorem d_VT_undo_12 : decode b_VT_undo 12 = .ok (.aload_n 0, 1) := by decide +kernel
theorem d_VT_undo_13 : decode b_VT_undo 13 = .ok (.getfield 38, 3) := by decide +kernel
theorem d_VT_undo_16 : decode b_VT_undo 16 = .ok (.aload_n 0, 1) := by decide +kernel
theorem d_VT_undo_17 : decode b_VT_undo 17 = .ok (.getfield 14, 3) := by decide +kernel
theorem d_VT_undo_20 : decode b_VT_undo 20 = .ok (.invokevirtual 104, 3) := by decide +kernel
theorem d_VT_undo_23 : decode b_VT_undo 23 = .ok (.aload_n 0, 1) := by decide +kernel
theorem d_VT_undo_24 : decode b_VT_undo 24 = .ok (.iconst (-1), 1) := by decide +kernel
theorem d_VT_undo_25 : decode b_VT_undo 25 = .ok (.putfield 60, 3) := by decide +kernel
theorem d_VT_undo_28 : decode b_VT_undo 28 = .ok (.iconst 1, 1) := by decide +kernel
theorem d_VT_undo_29 : decode b_VT_undo 29 = .ok (.ireturn, 1) := by decide +kernel
theorem d_VT_redo_0 : decode b_VT_redo 0 = .ok (.aload_n 0, 1) := by decide +kernel
theorem d_VT_redo_1 : decode b_VT_redo 1 = .ok (.getfield 38, 3) := by decide +kernel
theorem d_VT_redo_4 : decode b_VT_redo 4 = .ok (.invokevirtual 107, 3) := by decide +kernel
theorem d_VT_redo_7 : decode b_VT_redo 7 = .ok (.ifCond .ne 5, 3) := by decide +kernel
theorem d_VT_redo_10 : decode b_VT_redo 10 = .ok (.iconst 0, 1) := by decide +kernel
theorem d_VT_redo_11 : decode b_VT_redo 11 = .ok (.ireturn, 1) := by decide +kernel
theorem d_VT_redo_12 : decode b_VT_redo 12 = .ok (.aload_n 0, 1) := by decide +kernel
theorem d_VT_redo_13 : decode b_VT_redo 13 = .ok (.getfield 38, 3) := by decide +kernel
theorem d_VT_redo_16 : decode b_VT_redo 16 = .ok (.aload_n 0, 1) := by decide +kernel
theorem d_VT_redo_17 : decode b_VT_redo 17 = .ok (.getfield 14, 3) := by decide +kernel
theorem d_VT_redo_20 : decode b_VT_redo 20 = .ok (.invokevirtual 110, 3) := by decide +kernel
theorem d_VT_redo_23 : decode b_VT_redo 23 = .ok (.aload_n 0, 1) := by decide +kernel
theorem d_VT_redo_24 : decode b_VT_redo 24 = .ok (.iconst (-1), 1) := by decide +kernel
theorem d_VT_redo_25 : decode b_VT_redo 25 = .ok (.putfield 60, 3) := by decide +kernel
theorem d_VT_redo_28 : decode b_VT_redo 28 = .ok (.iconst 1, 1) := by decide +kernel
theorem d_VT_redo_29 : decode b_VT_redo 29 = .ok (.ireturn, 1) := by decide +kernel
theorem d_VT_steps_0 : decode b_VT_steps 0 = .ok (.iload_n 1, 1) := by decide +kernel
theorem d_VT_steps_1 : decode b_VT_steps 1 = .ok (.lookupswitch 43 #[(0, 27), (1, 35)], 27) := by decide +kernel
theorem d_VT_steps_28 : decode b_VT_steps 28 = .ok (.aload_n 0, 1) := by decide +kernel
theorem d_VT_steps_29 : decode b_VT_steps 29 = .ok (.getfield 38, 3) := by decide +kernel
theorem d_VT_steps_32 : decode b_VT_steps 32 = .ok (.invokevirtual 101, 3) := by decide +kernel
theorem d_VT_steps_35 : decode b_VT_steps 35 = .ok (.ireturn, 1) := by decide +kernel
theorem d_VT_steps_36 : decode b_VT_steps 36 = .ok (.aload_n 0, 1) := by decide +kernel
theorem d_VT_steps_37 : decode b_VT_steps 37 = .ok (.getfield 38, 3) := by decide +kernel
theorem d_VT_steps_40 : decode b_VT_steps 40 = .ok (.invokevirtual 107, 3) := by decide +kernel
theorem d_VT_steps_43 : decode b_VT_steps 43 = .ok (.ireturn, 1) := by decide +kernel
theorem d_VT_steps_44 : decode b_VT_steps 44 = .ok (.iconst (-1), 1) := by decide +kernel
theorem d_VT_steps_45 : decode b_VT_steps 45 = .ok (.ireturn, 1) := by decide +kernel
theorem d_VT_seal_0 : decode b_VT_seal 0 = .ok (.aload_n 0, 1) := by decide +kernel
theorem d_VT_seal_1 : decode b_VT_seal 1 = .ok (.iconst (-1), 1) := by decide +kernel
theorem d_VT_seal_2 : decode b_VT_seal 2 = .ok (.putfield 60, 3) := by decide +kernel
theorem d_VT_seal_5 : decode b_VT_seal 5 = .ok (.return_, 1) := by decide +kernel
theorem d_VT_guard_0 : decode b_VT_guard 0 = .ok (.iload_n 1, 1) := by decide +kernel
theorem d_VT_guard_1 : decode b_VT_guard 1 = .ok (.ifCond .eq 15, 3) := by decide +kernel
theorem d_VT_guard_4 : decode b_VT_guard 4 = .ok (.iload_n 1, 1) := by decide +kernel
theorem d_VT_guard_5 : decode b_VT_guard 5 = .ok (.iconst 1, 1) := by decide +kernel
theorem d_VT_guard_6 : decode b_VT_guard 6 = .ok (.if_icmp .eq 10, 3) := by decide +kernel
theorem d_VT_guard_9 : decode b_VT_guard 9 = .ok (.iload_n 1, 1) := by decide +kernel
theorem d_VT_guard_10 : decode b_VT_guard 10 = .ok (.iconst 3, 1) := by decide +kernel
theorem d_VT_guard_11 : decode b_VT_guard 11 = .ok (.if_icmp .eq 5, 3) := by decide +kernel
theorem d_VT_guard_14 : decode b_VT_guard 14 = .ok (.iconst 0, 1) := by decide +kernel
theorem d_VT_guard_15 : decode b_VT_guard 15 = .ok (.ireturn, 1) := by decide +kernel
theorem d_VT_guard_16 : decode b_VT_guard 16 = .ok (.aload_n 0, 1) := by decide +kernel
theorem d_VT_guard_17 : decode b_VT_guard 17 = .ok (.iload_n 1, 1) := by decide +kernel
theorem d_VT_guard_18 : decode b_VT_guard 18 = .ok (.putfield 56, 3) := by decide +kernel
theorem d_VT_guard_21 : decode b_VT_guard 21 = .ok (.aload_n 0, 1) := by decide +kernel
theorem d_VT_guard_22 : decode b_VT_guard 22 = .ok (.iconst (-1), 1) := by decide +kernel
theorem d_VT_guard_23 : decode b_VT_guard 23 = .ok (.putfield 60, 3) := by decide +kernel
theorem d_VT_guard_26 : decode b_VT_guard 26 = .ok (.iconst 1, 1) := by decide +kernel
theorem d_VT_guard_27 : decode b_VT_guard 27 = .ok (.ireturn, 1) := by decide +kernel
theorem d_VT_snapshot_0 : decode b_VT_snapshot 0 = .ok (.iconst 1, 1) := by decide +kernel
theorem d_VT_snapshot_1 : decode b_VT_snapshot 1 = .ok (.istore_n 1, 1) := by decide +kernel
theorem d_VT_snapshot_2 : decode b_VT_snapshot 2 = .ok (.iload_n 1, 1) := by decide +kernel
theorem d_VT_snapshot_3 : decode b_VT_snapshot 3 = .ok (.iconst 4, 1) := by decide +kernel
theorem d_VT_snapshot_4 : decode b_VT_snapshot 4 = .ok (.if_icmp .gt 42, 3) := by decide +kernel
theorem d_VT_snapshot_7 : decode b_VT_snapshot 7 = .ok (.aload_n 0, 1) := by decide +kernel
theorem d_VT_snapshot_8 : decode b_VT_snapshot 8 = .ok (.getfield 31, 3) := by decide +kernel
theorem d_VT_snapshot_11 : decode b_VT_snapshot 11 = .ok (.iload_n 1, 1) := by decide +kernel
theorem d_VT_snapshot_12 : decode b_VT_snapshot 12 = .ok (.baload, 1) := by decide +kernel
theorem d_VT_snapshot_13 : decode b_VT_snapshot 13 = .ok (.ifCond .ne 27, 3) := by decide +kernel
theorem d_VT_snapshot_16 : decode b_VT_snapshot 16 = .ok (.aload_n 0, 1) := by decide +kernel
theorem d_VT_snapshot_17 : decode b_VT_snapshot 17 = .ok (.getfield 27, 3) := by decide +kernel
theorem d_VT_snapshot_20 : decode b_VT_snapshot 20 = .ok (.iload_n 1, 1) := by decide +kernel
theorem d_VT_snapshot_21 : decode b_VT_snapshot 21 = .ok (.aaload, 1) := by decide +kernel
theorem d_VT_snapshot_22 : decode b_VT_snapshot 22 = .ok (.aload_n 0, 1) := by decide +kernel
theorem d_VT_snapshot_23 : decode b_VT_snapshot 23 = .ok (.getfield 14, 3) := by decide +kernel
theorem d_VT_snapshot_26 : decode b_VT_snapshot 26 = .ok (.invokeinterface 113 2, 5) := by decide +kernel
theorem d_VT_snapshot_31 : decode b_VT_snapshot 31 = .ok (.aload_n 0, 1) := by decide +kernel
theorem d_VT_snapshot_32 : decode b_VT_snapshot 32 = .ok (.getfield 31, 3) := by decide +kernel
theorem d_VT_snapshot_35 : decode b_VT_snapshot 35 = .ok (.iload_n 1, 1) := by decide +kernel
theorem d_VT_snapshot_36 : decode b_VT_snapshot 36 = .ok (.iconst 1, 1) := by decide +kernel
theorem d_VT_snapshot_37 : decode b_VT_snapshot 37 = .ok (.bastore, 1) := by decide +kernel
theorem d_VT_snapshot_38 : decode b_VT_snapshot 38 = .ok (.iload_n 1, 1) := by decide +kernel
theorem d_VT_snapshot_39 : decode b_VT_snapshot 39 = .ok (.ireturn, 1) := by decide +kernel
theorem d_VT_snapshot_40 : decode b_VT_snapshot 40 = .ok (.iinc 1 1, 3) := by decide +kernel
theorem d_VT_snapshot_43 : decode b_VT_snapshot 43 = .ok (.goto (-41), 3) := by decide +kernel
theorem d_VT_snapshot_46 : decode b_VT_snapshot 46 = .ok (.iconst (-1), 1) := by decide +kernel
theorem d_VT_snapshot_47 : decode b_VT_snapshot 47 = .ok (.ireturn, 1) := by decide +kernel
theorem d_VT_release_0 : decode b_VT_release 0 = .ok (.iload_n 1, 1) := by decide +kernel
theorem d_VT_release_1 : decode b_VT_release 1 = .ok (.ifCond .eq 11, 3) := by decide +kernel
theorem d_VT_release_4 : decode b_VT_release 4 = .ok (.aload_n 0, 1) := by decide +kernel
theorem d_VT_release_5 : decode b_VT_release 5 = .ok (.iload_n 1, 1) := by decide +kernel
theorem d_VT_release_6 : decode b_VT_release 6 = .ok (.invokevirtual 116, 3) := by decide +kernel
theorem d_VT_release_9 : decode b_VT_release 9 = .ok (.ifCond .ne 5, 3) := by decide +kernel
theorem d_VT_release_12 : decode b_VT_release 12 = .ok (.iconst 0, 1) := by decide +kernel
theorem d_VT_release_13 : decode b_VT_release 13 = .ok (.ireturn, 1) := by decide +kernel
theorem d_VT_release_14 : decode b_VT_release 14 = .ok (.aload_n 0, 1) := by decide +kernel
theorem d_VT_release_15 : decode b_VT_release 15 = .ok (.getfield 31, 3) := by decide +kernel
theorem d_VT_release_18 : decode b_VT_release 18 = .ok (.iload_n 1, 1) := by decide +kernel
theorem d_VT_release_19 : decode b_VT_release 19 = .ok (.iconst 0, 1) := by decide +kernel
theorem d_VT_release_20 : decode b_VT_release 20 = .ok (.bastore, 1) := by decide +kernel
theorem d_VT_release_21 : decode b_VT_release 21 = .ok (.iconst 1, 1) := by decide +kernel
theorem d_VT_release_22 : decode b_VT_release 22 = .ok (.ireturn, 1) := by decide +kernel
theorem d_VT_unit_0 : decode b_VT_unit 0 = .ok (.aload_n 0, 1) := by decide +kernel
theorem d_VT_unit_1 : decode b_VT_unit 1 = .ok (.iload_n 1, 1) := by decide +kernel
theorem d_VT_unit_2 : decode b_VT_unit 2 = .ok (.invokevirtual 116, 3) := by decide +kernel
theorem d_VT_unit_5 : decode b_VT_unit 5 = .ok (.ifCond .eq 18, 3) := by decide +kernel
theorem d_VT_unit_8 : decode b_VT_unit 8 = .ok (.aload_n 0, 1) := by decide +kernel
theorem d_VT_unit_9 : decode b_VT_unit 9 = .ok (.getfield 27, 3) := by decide +kernel
theorem d_VT_unit_12 : decode b_VT_unit 12 = .ok (.iload_n 1, 1) := by decide +kernel
theorem d_VT_unit_13 : decode b_VT_unit 13 = .ok (.aaload, 1) := by decide +kernel
theorem d_VT_unit_14 : decode b_VT_unit 14 = .ok (.iload_n 2, 1) := by decide +kernel
theorem d_VT_unit_15 : decode b_VT_unit 15 = .ok (.invokeinterface 120 2, 5) := by decide +kernel
theorem d_VT_unit_20 : decode b_VT_unit 20 = .ok (.goto 4, 3) := by decide +kernel
theorem d_VT_unit_23 : decode b_VT_unit 23 = .ok (.iconst (-1), 1) := by decide +kernel
theorem d_VT_unit_24 : decode b_VT_unit 24 = .ok (.ireturn, 1) := by decide +kernel
theorem d_VT_count_0 : decode b_VT_count 0 = .ok (.aload_n 0, 1) := by decide +kernel
theorem d_VT_count_1 : decode b_VT_count 1 = .ok (.iload_n 1, 1) := by decide +kernel
theorem d_VT_count_2 : decode b_VT_count 2 = .ok (.invokevirtual 116, 3) := by decide +kernel
theorem d_VT_count_5 : decode b_VT_count 5 = .ok (.ifCond .eq 10, 3) := by decide +kernel
theorem d_VT_count_8 : decode b_VT_count 8 = .ok (.iload_n 2, 1) := by decide +kernel
theorem d_VT_count_9 : decode b_VT_count 9 = .ok (.invokestatic 124, 3) := by decide +kernel
theorem d_VT_count_12 : decode b_VT_count 12 = .ok (.ifCond .ne 5, 3) := by decide +kernel
theorem d_VT_count_15 : decode b_VT_count 15 = .ok (.iconst (-1), 1) := by decide +kernel
theorem d_VT_count_16 : decode b_VT_count 16 = .ok (.ireturn, 1) := by decide +kernel
theorem d_VT_count_17 : decode b_VT_count 17 = .ok (.aload_n 0, 1) := by decide +kernel
theorem d_VT_count_18 : decode b_VT_count 18 = .ok (.getfield 45, 3) := by decide +kernel
theorem d_VT_count_21 : decode b_VT_count 21 = .ok (.aload_n 0, 1) := by decide +kernel
theorem d_VT_count_22 : decode b_VT_count 22 = .ok (.getfield 27, 3) := by decide +kernel
theorem d_VT_count_25 : decode b_VT_count 25 = .ok (.iload_n 1, 1) := by decide +kernel
theorem d_VT_count_26 : decode b_VT_count 26 = .ok (.aaload, 1) := by decide +kernel
theorem d_VT_count_27 : decode b_VT_count 27 = .ok (.iload_n 2, 1) := by decide +kernel
theorem d_VT_count_28 : decode b_VT_count 28 = .ok (.invokevirtual 127, 3) := by decide +kernel
theorem d_VT_count_31 : decode b_VT_count 31 = .ok (.aload_n 0, 1) := by decide +kernel
theorem d_VT_count_32 : decode b_VT_count 32 = .ok (.getfield 45, 3) := by decide +kernel
theorem d_VT_count_35 : decode b_VT_count 35 = .ok (.invokevirtual 131, 3) := by decide +kernel
theorem d_VT_count_38 : decode b_VT_count 38 = .ok (.ireturn, 1) := by decide +kernel
theorem d_VT_place_0 : decode b_VT_place 0 = .ok (.aload_n 0, 1) := by decide +kernel
theorem d_VT_place_1 : decode b_VT_place 1 = .ok (.iload_n 1, 1) := by decide +kernel
theorem d_VT_place_2 : decode b_VT_place 2 = .ok (.invokevirtual 116, 3) := by decide +kernel
theorem d_VT_place_5 : decode b_VT_place 5 = .ok (.ifCond .eq 10, 3) := by decide +kernel
theorem d_VT_place_8 : decode b_VT_place 8 = .ok (.iload_n 2, 1) := by decide +kernel
theorem d_VT_place_9 : decode b_VT_place 9 = .ok (.invokestatic 124, 3) := by decide +kernel
theorem d_VT_place_12 : decode b_VT_place 12 = .ok (.ifCond .ne 5, 3) := by decide +kernel
theorem d_VT_place_15 : decode b_VT_place 15 = .ok (.iconst (-1), 1) := by decide +kernel
theorem d_VT_place_16 : decode b_VT_place 16 = .ok (.ireturn, 1) := by decide +kernel
theorem d_VT_place_17 : decode b_VT_place 17 = .ok (.aload_n 0, 1) := by decide +kernel
theorem d_VT_place_18 : decode b_VT_place 18 = .ok (.getfield 45, 3) := by decide +kernel
theorem d_VT_place_21 : decode b_VT_place 21 = .ok (.aload_n 0, 1) := by decide +kernel
theorem d_VT_place_22 : decode b_VT_place 22 = .ok (.getfield 27, 3) := by decide +kernel
theorem d_VT_place_25 : decode b_VT_place 25 = .ok (.iload_n 1, 1) := by decide +kernel
theorem d_VT_place_26 : decode b_VT_place 26 = .ok (.aaload, 1) := by decide +kernel
theorem d_VT_place_27 : decode b_VT_place 27 = .ok (.iload_n 2, 1) := by decide +kernel
theorem d_VT_place_28 : decode b_VT_place 28 = .ok (.invokevirtual 127, 3) := by decide +kernel
theorem d_VT_place_31 : decode b_VT_place 31 = .ok (.aload_n 0, 1) := by decide +kernel
theorem d_VT_place_32 : decode b_VT_place 32 = .ok (.getfield 45, 3) := by decide +kernel
theorem d_VT_place_35 : decode b_VT_place 35 = .ok (.iload_n 3, 1) := by decide +kernel
theorem d_VT_place_36 : decode b_VT_place 36 = .ok (.invokevirtual 134, 3) := by decide +kernel
theorem d_VT_place_39 : decode b_VT_place 39 = .ok (.ireturn, 1) := by decide +kernel
theorem d_VT_item_0 : decode b_VT_item 0 = .ok (.aload_n 0, 1) := by decide +kernel
theorem d_VT_item_1 : decode b_VT_item 1 = .ok (.iload_n 1, 1) := by decide +kernel
theorem d_VT_item_2 : decode b_VT_item 2 = .ok (.invokevirtual 116, 3) := by decide +kernel
theorem d_VT_item_5 : decode b_VT_item 5 = .ok (.ifCond .eq 23, 3) := by decide +kernel
theorem d_VT_item_8 : decode b_VT_item 8 = .ok (.iload_n 2, 1) := by decide +kernel
theorem d_VT_item_9 : decode b_VT_item 9 = .ok (.invokestatic 124, 3) := by decide +kernel
theorem d_VT_item_12 : decode b_VT_item 12 = .ok (.ifCond .eq 16, 3) := by decide +kernel
theorem d_VT_item_15 : decode b_VT_item 15 = .ok (.aload_n 0, 1) := by decide +kernel
theorem d_VT_item_16 : decode b_VT_item 16 = .ok (.getfield 27, 3) := by decide +kernel
theorem d_VT_item_19 : decode b_VT_item 19 = .ok (.iload_n 1, 1) := by decide +kernel
theorem d_VT_item_20 : decode b_VT_item 20 = .ok (.aaload, 1) := by decide +kernel
theorem d_VT_item_21 : decode b_VT_item 21 = .ok (.iload_n 3, 1) := by decide +kernel
theorem d_VT_item_22 : decode b_VT_item 22 = .ok (.invokestatic 137, 3) := by decide +kernel
theorem d_VT_item_25 : decode b_VT_item 25 = .ok (.ifCond .ne 5, 3) := by decide +kernel
theorem d_VT_item_28 : decode b_VT_item 28 = .ok (.iconst (-1), 1) := by decide +kernel
theorem d_VT_item_29 : decode b_VT_item 29 = .ok (.ireturn, 1) := by decide +kernel
theorem d_VT_item_30 : decode b_VT_item 30 = .ok (.aload_n 0, 1) := by decide +kernel
theorem d_VT_item_31 : decode b_VT_item 31 = .ok (.getfield 45, 3) := by decide +kernel
theorem d_VT_item_34 : decode b_VT_item 34 = .ok (.aload_n 0, 1) := by decide +kernel
theorem d_VT_item_35 : decode b_VT_item 35 = .ok (.getfield 27, 3) := by decide +kernel
theorem d_VT_item_38 : decode b_VT_item 38 = .ok (.iload_n 1, 1) := by decide +kernel
theorem d_VT_item_39 : decode b_VT_item 39 = .ok (.aaload, 1) := by decide +kernel
theorem d_VT_item_40 : decode b_VT_item 40 = .ok (.iload_n 2, 1) := by decide +kernel
theorem d_VT_item_41 : decode b_VT_item 41 = .ok (.invokevirtual 127, 3) := by decide +kernel
theorem d_VT_item_44 : decode b_VT_item 44 = .ok (.aload_n 0, 1) := by decide +kernel
theorem d_VT_item_45 : decode b_VT_item 45 = .ok (.getfield 45, 3) := by decide +kernel
theorem d_VT_item_48 : decode b_VT_item 48 = .ok (.iload_n 3, 1) := by decide +kernel
theorem d_VT_item_49 : decode b_VT_item 49 = .ok (.invokevirtual 141, 3) := by decide +kernel
theorem d_VT_item_52 : decode b_VT_item 52 = .ok (.ireturn, 1) := by decide +kernel
theorem d_VT_same_0 : decode b_VT_same 0 = .ok (.aload_n 0, 1) := by decide +kernel
theorem d_VT_same_1 : decode b_VT_same 1 = .ok (.iload_n 1, 1) := by decide +kernel
theorem d_VT_same_2 : decode b_VT_same 2 = .ok (.invokevirtual 116, 3) := by decide +kernel
theorem d_VT_same_5 : decode b_VT_same 5 = .ok (.ifCond .eq 33, 3) := by decide +kernel
theorem d_VT_same_8 : decode b_VT_same 8 = .ok (.aload_n 0, 1) := by decide +kernel
theorem d_VT_same_9 : decode b_VT_same 9 = .ok (.iload_n 2, 1) := by decide +kernel
theorem d_VT_same_10 : decode b_VT_same 10 = .ok (.invokevirtual 116, 3) := by decide +kernel
theorem d_VT_same_13 : decode b_VT_same 13 = .ok (.ifCond .eq 25, 3) := by decide +kernel
theorem d_VT_same_16 : decode b_VT_same 16 = .ok (.aload_n 0, 1) := by decide +kernel
theorem d_VT_same_17 : decode b_VT_same 17 = .ok (.getfield 27, 3) := by decide +kernel
theorem d_VT_same_20 : decode b_VT_same 20 = .ok (.iload_n 1, 1) := by decide +kernel
theorem d_VT_same_21 : decode b_VT_same 21 = .ok (.aaload, 1) := by decide +kernel
theorem d_VT_same_22 : decode b_VT_same 22 = .ok (.aload_n 0, 1) := by decide +kernel
theorem d_VT_same_23 : decode b_VT_same 23 = .ok (.getfield 27, 3) := by decide +kernel
theorem d_VT_same_26 : decode b_VT_same 26 = .ok (.iload_n 2, 1) := by decide +kernel
theorem d_VT_same_27 : decode b_VT_same 27 = .ok (.aaload, 1) := by decide +kernel
theorem d_VT_same_28 : decode b_VT_same 28 = .ok (.invokestatic 144, 3) := by decide +kernel
theorem d_VT_same_31 : decode b_VT_same 31 = .ok (.ifCond .eq 7, 3) := by decide +kernel
theorem d_VT_same_34 : decode b_VT_same 34 = .ok (.iconst 1, 1) := by decide +kernel
theorem d_VT_same_35 : decode b_VT_same 35 = .ok (.goto 4, 3) := by decide +kernel
theorem d_VT_same_38 : decode b_VT_same 38 = .ok (.iconst 0, 1) := by decide +kernel
theorem d_VT_same_39 : decode b_VT_same 39 = .ok (.ireturn, 1) := by decide +kernel
theorem d_VT_find_0 : decode b_VT_find 0 = .ok (.aload_n 0, 1) := by decide +kernel
theorem d_VT_find_1 : decode b_VT_find 1 = .ok (.iload_n 1, 1) := by decide +kernel
theorem d_VT_find_2 : decode b_VT_find 2 = .ok (.invokevirtual 116, 3) := by decide +kernel
theorem d_VT_find_5 : decode b_VT_find 5 = .ok (.ifCond .eq 16, 3) := by decide +kernel
theorem d_VT_find_8 : decode b_VT_find 8 = .ok (.aload_n 0, 1) := by decide +kernel
theorem d_VT_find_9 : decode b_VT_find 9 = .ok (.getfield 27, 3) := by decide +kernel
theorem d_VT_find_12 : decode b_VT_find 12 = .ok (.iload_n 1, 1) := by decide +kernel
theorem d_VT_find_13 : decode b_VT_find 13 = .ok (.aaload, 1) := by decide +kernel
theorem d_VT_find_14 : decode b_VT_find 14 = .ok (.iload_n 2, 1) := by decide +kernel
theorem d_VT_find_15 : decode b_VT_find 15 = .ok (.invokestatic 137, 3) := by decide +kernel
theorem d_VT_find_18 : decode b_VT_find 18 = .ok (.ifCond .ne 5, 3) := by decide +kernel
theorem d_VT_find_21 : decode b_VT_find 21 = .ok (.iconst (-1), 1) := by decide +kernel
theorem d_VT_find_22 : decode b_VT_find 22 = .ok (.ireturn, 1) := by decide +kernel
theorem d_VT_find_23 : decode b_VT_find 23 = .ok (.aload_n 0, 1) := by decide +kernel
theorem d_VT_find_24 : decode b_VT_find 24 = .ok (.getfield 52, 3) := by decide +kernel
theorem d_VT_find_27 : decode b_VT_find 27 = .ok (.aload_n 0, 1) := by decide +kernel
theorem d_VT_find_28 : decode b_VT_find 28 = .ok (.getfield 21, 3) := by decide +kernel
theorem d_VT_find_31 : decode b_VT_find 31 = .ok (.invokevirtual 148, 3) := by decide +kernel
theorem d_VT_find_34 : decode b_VT_find 34 = .ok (.ifCond .eq 20, 3) := by decide +kernel
theorem d_VT_find_37 : decode b_VT_find 37 = .ok (.aload_n 0, 1) := by decide +kernel
theorem d_VT_find_38 : decode b_VT_find 38 = .ok (.getfield 52, 3) := by decide +kernel
theorem d_VT_find_41 : decode b_VT_find 41 = .ok (.aload_n 0, 1) := by decide +kernel
theorem d_VT_find_42 : decode b_VT_find 42 = .ok (.getfield 27, 3) := by decide +kernel
theorem d_VT_find_45 : decode b_VT_find 45 = .ok (.iload_n 1, 1) := by decide +kernel
theorem d_VT_find_46 : decode b_VT_find 46 = .ok (.aaload, 1) := by decide +kernel
theorem d_VT_find_47 : decode b_VT_find 47 = .ok (.iload_n 2, 1) := by decide +kernel
theorem d_VT_find_48 : decode b_VT_find 48 = .ok (.invokevirtual 152, 3) := by decide +kernel
theorem d_VT_find_51 : decode b_VT_find 51 = .ok (.goto 4, 3) := by decide +kernel
theorem d_VT_find_54 : decode b_VT_find 54 = .ok (.iconst (-1), 1) := by decide +kernel
theorem d_VT_find_55 : decode b_VT_find 55 = .ok (.ireturn, 1) := by decide +kernel
theorem d_VT_end_0 : decode b_VT_end 0 = .ok (.aload_n 0, 1) := by decide +kernel
theorem d_VT_end_1 : decode b_VT_end 1 = .ok (.getfield 52, 3) := by decide +kernel
theorem d_VT_end_4 : decode b_VT_end 4 = .ok (.invokevirtual 156, 3) := by decide +kernel
theorem d_VT_end_7 : decode b_VT_end 7 = .ok (.ireturn, 1) := by decide +kernel
theorem d_VT_isVersion_0 : decode b_VT_isVersion 0 = .ok (.iload_n 1, 1) := by decide +kernel
theorem d_VT_isVersion_1 : decode b_VT_isVersion 1 = .ok (.ifCond .lt 21, 3) := by decide +kernel
theorem d_VT_isVersion_4 : decode b_VT_isVersion 4 = .ok (.iload_n 1, 1) := by decide +kernel
theorem d_VT_isVersion_5 : decode b_VT_isVersion 5 = .ok (.iconst 4, 1) := by decide +kernel
theorem d_VT_isVersion_6 : decode b_VT_isVersion 6 = .ok (.if_icmp .gt 16, 3) := by decide +kernel
theorem d_VT_isVersion_9 : decode b_VT_isVersion 9 = .ok (.aload_n 0, 1) := by decide +kernel
theorem d_VT_isVersion_10 : decode b_VT_isVersion 10 = .ok (.getfield 31, 3) := by decide +kernel
theorem d_VT_isVersion_13 : decode b_VT_isVersion 13 = .ok (.iload_n 1, 1) := by decide +kernel
theorem d_VT_isVersion_14 : decode b_VT_isVersion 14 = .ok (.baload, 1) := by decide +kernel
theorem d_VT_isVersion_15 : decode b_VT_isVersion 15 = .ok (.ifCond .eq 7, 3) := by decide +kernel
theorem d_VT_isVersion_18 : decode b_VT_isVersion 18 = .ok (.iconst 1, 1) := by decide +kernel
theorem d_VT_isVersion_19 : decode b_VT_isVersion 19 = .ok (.goto 4, 3) := by decide +kernel
theorem d_VT_isVersion_22 : decode b_VT_isVersion 22 = .ok (.iconst 0, 1) := by decide +kernel
theorem d_VT_isVersion_23 : decode b_VT_isVersion 23 = .ok (.ireturn, 1) := by decide +kernel
theorem d_VT_isMetric_0 : decode b_VT_isMetric 0 = .ok (.iload_n 0, 1) := by decide +kernel
theorem d_VT_isMetric_1 : decode b_VT_isMetric 1 = .ok (.ifCond .lt 12, 3) := by decide +kernel
theorem d_VT_isMetric_4 : decode b_VT_isMetric 4 = .ok (.iload_n 0, 1) := by decide +kernel
theorem d_VT_isMetric_5 : decode b_VT_isMetric 5 = .ok (.iconst 3, 1) := by decide +kernel
theorem d_VT_isMetric_6 : decode b_VT_isMetric 6 = .ok (.if_icmp .gt 7, 3) := by decide +kernel
theorem d_VT_isMetric_9 : decode b_VT_isMetric 9 = .ok (.iconst 1, 1) := by decide +kernel
theorem d_VT_isMetric_10 : decode b_VT_isMetric 10 = .ok (.goto 4, 3) := by decide +kernel
theorem d_VT_isMetric_13 : decode b_VT_isMetric 13 = .ok (.iconst 0, 1) := by decide +kernel
theorem d_VT_isMetric_14 : decode b_VT_isMetric 14 = .ok (.ireturn, 1) := by decide +kernel
theorem d_VT_isPlace_0 : decode b_VT_isPlace 0 = .ok (.iload_n 1, 1) := by decide +kernel
theorem d_VT_isPlace_1 : decode b_VT_isPlace 1 = .ok (.ifCond .lt 17, 3) := by decide +kernel
theorem d_VT_isPlace_4 : decode b_VT_isPlace 4 = .ok (.iload_n 1, 1) := by decide +kernel
theorem d_VT_isPlace_5 : decode b_VT_isPlace 5 = .ok (.aload_n 0, 1) := by decide +kernel
theorem d_VT_isPlace_6 : decode b_VT_isPlace 6 = .ok (.invokeinterface 159 1, 5) := by decide +kernel
theorem d_VT_isPlace_11 : decode b_VT_isPlace 11 = .ok (.if_icmp .gt 7, 3) := by decide +kernel
theorem d_VT_isPlace_14 : decode b_VT_isPlace 14 = .ok (.iconst 1, 1) := by decide +kernel
theorem d_VT_isPlace_15 : decode b_VT_isPlace 15 = .ok (.goto 4, 3) := by decide +kernel
theorem d_VT_isPlace_18 : decode b_VT_isPlace 18 = .ok (.iconst 0, 1) := by decide +kernel
theorem d_VT_isPlace_19 : decode b_VT_isPlace 19 = .ok (.ireturn, 1) := by decide +kernel
theorem d_VT_canTakeClip_0 : decode b_VT_canTakeClip 0 = .ok (.aload_n 0, 1) := by decide +kernel
theorem d_VT_canTakeClip_1 : decode b_VT_canTakeClip 1 = .ok (.getfield 21, 3) := by decide +kernel
theorem d_VT_canTakeClip_4 : decode b_VT_canTakeClip 4 = .ok (.invokevirtual 67, 3) := by decide +kernel
theorem d_VT_canTakeClip_7 : decode b_VT_canTakeClip 7 = .ok (.ifCond .le 43, 3) := by decide +kernel
theorem d_VT_canTakeClip_10 : decode b_VT_canTakeClip 10 = .ok (.aload_n 0, 1) := by decide +kernel
theorem d_VT_canTakeClip_11 : decode b_VT_canTakeClip 11 = .ok (.iload_n 1, 1) := by decide +kernel
theorem d_VT_canTakeClip_12 : decode b_VT_canTakeClip 12 = .ok (.iload_n 2, 1) := by decide +kernel
theorem d_VT_canTakeClip_13 : decode b_VT_canTakeClip 13 = .ok (.invokevirtual 94, 3) := by decide +kernel
theorem d_VT_canTakeClip_16 : decode b_VT_canTakeClip 16 = .ok (.ifCond .eq 34, 3) := by decide +kernel
theorem d_VT_canTakeClip_19 : decode b_VT_canTakeClip 19 = .ok (.aload_n 0, 1) := by decide +kernel
theorem d_VT_canTakeClip_20 : decode b_VT_canTakeClip 20 = .ok (.getfield 14, 3) := by decide +kernel
theorem d_VT_canTakeClip_23 : decode b_VT_canTakeClip 23 = .ok (.invokeinterface 159 1, 5) := by decide +kernel
theorem d_VT_canTakeClip_28 : decode b_VT_canTakeClip 28 = .ok (.iload_n 2, 1) := by decide +kernel
theorem d_VT_canTakeClip_29 : decode b_VT_canTakeClip 29 = .ok (.iload_n 1, 1) := by decide +kernel
theorem d_VT_canTakeClip_30 : decode b_VT_canTakeClip 30 = .ok (.isub, 1) := by decide +kernel
theorem d_VT_canTakeClip_31 : decode b_VT_canTakeClip 31 = .ok (.isub, 1) := by decide +kernel
theorem d_VT_canTakeClip_32 : decode b_VT_canTakeClip 32 = .ok (.aload_n 0, 1) := by decide +kernel
theorem d_VT_canTakeClip_33 : decode b_VT_canTakeClip 33 = .ok (.getfield 21, 3) := by decide +kernel
theorem d_VT_canTakeClip_36 : decode b_VT_canTakeClip 36 = .ok (.invokevirtual 67, 3) := by decide +kernel
theorem d_VT_canTakeClip_39 : decode b_VT_canTakeClip 39 = .ok (.iadd, 1) := by decide +kernel
theorem d_VT_canTakeClip_40 : decode b_VT_canTakeClip 40 = .ok (.sipush 160, 3) := by decide +kernel
theorem d_VT_canTakeClip_43 : decode b_VT_canTakeClip 43 = .ok (.if_icmp .gt 7, 3) := by decide +kernel
theorem d_VT_canTakeClip_46 : decode b_VT_canTakeClip 46 = .ok (.iconst 1, 1) := by decide +kernel
theorem d_VT_canTakeClip_47 : decode b_VT_canTakeClip 47 = .ok (.goto 4, 3) := by decide +kernel
theorem d_VT_canTakeClip_50 : decode b_VT_canTakeClip 50 = .ok (.iconst 0, 1) := by decide +kernel
theorem d_VT_canTakeClip_51 : decode b_VT_canTakeClip 51 = .ok (.ireturn, 1) := by decide +kernel
theorem d_VT_canEdit_0 : decode b_VT_canEdit 0 = .ok (.aload_n 0, 1) := by decide +kernel
theorem d_VT_canEdit_1 : decode b_VT_canEdit 1 = .ok (.getfield 14, 3) := by decide +kernel
theorem d_VT_canEdit_4 : decode b_VT_canEdit 4 = .ok (.iload_n 1, 1) := by decide +kernel
theorem d_VT_canEdit_5 : decode b_VT_canEdit 5 = .ok (.invokestatic 137, 3) := by decide +kernel
theorem d_VT_canEdit_8 : decode b_VT_canEdit 8 = .ok (.ifCond .eq 19, 3) := by decide +kernel
theorem d_VT_canEdit_11 : decode b_VT_canEdit 11 = .ok (.aload_n 0, 1) := by decide +kernel
theorem d_VT_canEdit_12 : decode b_VT_canEdit 12 = .ok (.getfield 14, 3) := by decide +kernel
theorem d_VT_canEdit_15 : decode b_VT_canEdit 15 = .ok (.iload_n 2, 1) := by decide +kernel
theorem d_VT_canEdit_16 : decode b_VT_canEdit 16 = .ok (.invokestatic 137, 3) := by decide +kernel
theorem d_VT_canEdit_19 : decode b_VT_canEdit 19 = .ok (.ifCond .eq 8, 3) := by decide +kernel
theorem d_VT_canEdit_22 : decode b_VT_canEdit 22 = .ok (.iload_n 1, 1) := by decide +kernel
theorem d_VT_canEdit_23 : decode b_VT_canEdit 23 = .ok (.iload_n 2, 1) := by decide +kernel
theorem d_VT_canEdit_24 : decode b_VT_canEdit 24 = .ok (.if_icmp .le 5, 3) := by decide +kernel
theorem d_VT_canEdit_27 : decode b_VT_canEdit 27 = .ok (.iconst 0, 1) := by decide +kernel
theorem d_VT_canEdit_28 : decode b_VT_canEdit 28 = .ok (.ireturn, 1) := by decide +kernel
theorem d_VT_canEdit_29 : decode b_VT_canEdit 29 = .ok (.aload_n 0, 1) := by decide +kernel
theorem d_VT_canEdit_30 : decode b_VT_canEdit 30 = .ok (.getfield 45, 3) := by decide +kernel
theorem d_VT_canEdit_33 : decode b_VT_canEdit 33 = .ok (.aload_n 0, 1) := by decide +kernel
theorem d_VT_canEdit_34 : decode b_VT_canEdit 34 = .ok (.getfield 14, 3) := by decide +kernel
theorem d_VT_canEdit_37 : decode b_VT_canEdit 37 = .ok (.aload_n 0, 1) := by decide +kernel
theorem d_VT_canEdit_38 : decode b_VT_canEdit 38 = .ok (.getfield 56, 3) := by decide +kernel
theorem d_VT_canEdit_41 : decode b_VT_canEdit 41 = .ok (.invokevirtual 127, 3) := by decide +kernel
theorem d_VT_canEdit_44 : decode b_VT_canEdit 44 = .ok (.aload_n 0, 1) := by decide +kernel
theorem d_VT_canEdit_45 : decode b_VT_canEdit 45 = .ok (.getfield 45, 3) := by decide +kernel
theorem d_VT_canEdit_48 : decode b_VT_canEdit 48 = .ok (.iload_n 1, 1) := by decide +kernel
theorem d_VT_canEdit_49 : decode b_VT_canEdit 49 = .ok (.invokevirtual 160, 3) := by decide +kernel
theorem d_VT_canEdit_52 : decode b_VT_canEdit 52 = .ok (.ifCond .ne 18, 3) := by decide +kernel
theorem d_VT_canEdit_55 : decode b_VT_canEdit 55 = .ok (.aload_n 0, 1) := by decide +kernel
theorem d_VT_canEdit_56 : decode b_VT_canEdit 56 = .ok (.getfield 45, 3) := by decide +kernel
theorem d_VT_canEdit_59 : decode b_VT_canEdit 59 = .ok (.iload_n 2, 1) := by decide +kernel
theorem d_VT_canEdit_60 : decode b_VT_canEdit 60 = .ok (.invokevirtual 160, 3) := by decide +kernel
theorem d_VT_canEdit_63 : decode b_VT_canEdit 63 = .ok (.ifCond .ne 7, 3) := by decide +kernel
theorem d_VT_canEdit_66 : decode b_VT_canEdit 66 = .ok (.iconst 1, 1) := by decide +kernel
theorem d_VT_canEdit_67 : decode b_VT_canEdit 67 = .ok (.goto 4, 3) := by decide +kernel
theorem d_VT_canEdit_70 : decode b_VT_canEdit 70 = .ok (.iconst 0, 1) := by decide +kernel
theorem d_VT_canEdit_71 : decode b_VT_canEdit 71 = .ok (.ireturn, 1) := by decide +kernel
theorem d_VT_clipIsTyping_0 : decode b_VT_clipIsTyping 0 = .ok (.aload_n 0, 1) := by decide +kernel
theorem d_VT_clipIsTyping_1 : decode b_VT_clipIsTyping 1 = .ok (.getfield 21, 3) := by decide +kernel
theorem d_VT_clipIsTyping_4 : decode b_VT_clipIsTyping 4 = .ok (.invokevirtual 67, 3) := by decide +kernel
theorem d_VT_clipIsTyping_7 : decode b_VT_clipIsTyping 7 = .ok (.iconst 1, 1) := by decide +kernel
theorem d_VT_clipIsTyping_8 : decode b_VT_clipIsTyping 8 = .ok (.if_icmp .ne 33, 3) := by decide +kernel
theorem d_VT_clipIsTyping_11 : decode b_VT_clipIsTyping 11 = .ok (.aload_n 0, 1) := by decide +kernel
theorem d_VT_clipIsTyping_12 : decode b_VT_clipIsTyping 12 = .ok (.getfield 21, 3) := by decide +kernel
theorem d_VT_clipIsTyping_15 : decode b_VT_clipIsTyping 15 = .ok (.iconst 0, 1) := by decide +kernel
theorem d_VT_clipIsTyping_16 : decode b_VT_clipIsTyping 16 = .ok (.invokevirtual 163, 3) := by decide +kernel
theorem d_VT_clipIsTyping_19 : decode b_VT_clipIsTyping 19 = .ok (.bipush 10, 2) := by decide +kernel
theorem d_VT_clipIsTyping_21 : decode b_VT_clipIsTyping 21 = .ok (.if_icmp .eq 20, 3) := by decide +kernel
theorem d_VT_clipIsTyping_24 : decode b_VT_clipIsTyping 24 = .ok (.aload_n 0, 1) := by decide +kernel
theorem d_VT_clipIsTyping_25 : decode b_VT_clipIsTyping 25 = .ok (.getfield 21, 3) := by decide +kernel
theorem d_VT_clipIsTyping_28 : decode b_VT_clipIsTyping 28 = .ok (.iconst 0, 1) := by decide +kernel
theorem d_VT_clipIsTyping_29 : decode b_VT_clipIsTyping 29 = .ok (.invokevirtual 163, 3) := by decide +kernel
theorem d_VT_clipIsTyping_32 : decode b_VT_clipIsTyping 32 = .ok (.bipush 13, 2) := by decide +kernel
theorem d_VT_clipIsTyping_34 : decode b_VT_clipIsTyping 34 = .ok (.if_icmp .eq 7, 3) := by decide +kernel
theorem d_VT_clipIsTyping_37 : decode b_VT_clipIsTyping 37 = .ok (.iconst 1, 1) := by decide +kernel
theorem d_VT_clipIsTyping_38 : decode b_VT_clipIsTyping 38 = .ok (.goto 4, 3) := by decide +kernel
theorem d_VT_clipIsTyping_41 : decode b_VT_clipIsTyping 41 = .ok (.iconst 0, 1) := by decide +kernel
theorem d_VT_clipIsTyping_42 : decode b_VT_clipIsTyping 42 = .ok (.ireturn, 1) := by decide +kernel
theorem d_VT_addClosedStep_0 : decode b_VT_addClosedStep 0 = .ok (.aload_n 0, 1) := by decide +kernel
theorem d_VT_addClosedStep_1 : decode b_VT_addClosedStep 1 = .ok (.getfield 38, 3) := by decide +kernel
theorem d_VT_addClosedStep_4 : decode b_VT_addClosedStep 4 = .ok (.aload_n 0, 1) := by decide +kernel
theorem d_VT_addClosedStep_5 : decode b_VT_addClosedStep 5 = .ok (.getfield 14, 3) := by decide +kernel
theorem d_VT_addClosedStep_8 : decode b_VT_addClosedStep 8 = .ok (.invokevirtual 91, 3) := by decide +kernel
theorem d_VT_addClosedStep_11 : decode b_VT_addClosedStep 11 = .ok (.aload_n 0, 1) := by decide +kernel
theorem d_VT_addClosedStep_12 : decode b_VT_addClosedStep 12 = .ok (.iconst (-1), 1) := by decide +kernel
theorem d_VT_addClosedStep_13 : decode b_VT_addClosedStep 13 = .ok (.putfield 60, 3) := by decide +kernel
theorem d_VT_addClosedStep_16 : decode b_VT_addClosedStep 16 = .ok (.return_, 1) := by decide +kernel
theorem d_VT_haveSameUnits_0 : decode b_VT_haveSameUnits 0 = .ok (.aload_n 0, 1) := by decide +kernel
theorem d_VT_haveSameUnits_1 : decode b_VT_haveSameUnits 1 = .ok (.invokeinterface 159 1, 5) := by decide +kernel
theorem d_VT_haveSameUnits_6 : decode b_VT_haveSameUnits 6 = .ok (.aload_n 1, 1) := by decide +kernel
theorem d_VT_haveSameUnits_7 : decode b_VT_haveSameUnits 7 = .ok (.invokeinterface 159 1, 5) := by decide +kernel
theorem d_VT_haveSameUnits_12 : decode b_VT_haveSameUnits 12 = .ok (.if_icmp .eq 5, 3) := by decide +kernel
theorem d_VT_haveSameUnits_15 : decode b_VT_haveSameUnits 15 = .ok (.iconst 0, 1) := by decide +kernel
theorem d_VT_haveSameUnits_16 : decode b_VT_haveSameUnits 16 = .ok (.ireturn, 1) := by decide +kernel
theorem d_VT_haveSameUnits_17 : decode b_VT_haveSameUnits 17 = .ok (.iconst 0, 1) := by decide +kernel
theorem d_VT_haveSameUnits_18 : decode b_VT_haveSameUnits 18 = .ok (.istore_n 2, 1) := by decide +kernel
theorem d_VT_haveSameUnits_19 : decode b_VT_haveSameUnits 19 = .ok (.iload_n 2, 1) := by decide +kernel
theorem d_VT_haveSameUnits_20 : decode b_VT_haveSameUnits 20 = .ok (.aload_n 0, 1) := by decide +kernel
theorem d_VT_haveSameUnits_21 : decode b_VT_haveSameUnits 21 = .ok (.invokeinterface 159 1, 5) := by decide +kernel
theorem d_VT_haveSameUnits_26 : decode b_VT_haveSameUnits 26 = .ok (.if_icmp .ge 28, 3) := by decide +kernel
theorem d_VT_haveSameUnits_29 : decode b_VT_haveSameUnits 29 = .ok (.aload_n 0, 1) := by decide +kernel
theorem d_VT_haveSameUnits_30 : decode b_VT_haveSameUnits 30 = .ok (.iload_n 2, 1) := by decide +kernel
theorem d_VT_haveSameUnits_31 : decode b_VT_haveSameUnits 31 = .ok (.invokeinterface 120 2, 5) := by decide +kernel
theorem d_VT_haveSameUnits_36 : decode b_VT_haveSameUnits 36 = .ok (.aload_n 1, 1) := by decide +kernel
theorem d_VT_haveSameUnits_37 : decode b_VT_haveSameUnits 37 = .ok (.iload_n 2, 1) := by decide +kernel
theorem d_VT_haveSameUnits_38 : decode b_VT_haveSameUnits 38 = .ok (.invokeinterface 120 2, 5) := by decide +kernel
theorem d_VT_haveSameUnits_43 : decode b_VT_haveSameUnits 43 = .ok (.if_icmp .eq 5, 3) := by decide +kernel
theorem d_VT_haveSameUnits_46 : decode b_VT_haveSameUnits 46 = .ok (.iconst 0, 1) := by decide +kernel
theorem d_VT_haveSameUnits_47 : decode b_VT_haveSameUnits 47 = .ok (.ireturn, 1) := by decide +kernel
theorem d_VT_haveSameUnits_48 : decode b_VT_haveSameUnits 48 = .ok (.iinc 2 1, 3) := by decide +kernel
theorem d_VT_haveSameUnits_51 : decode b_VT_haveSameUnits 51 = .ok (.goto (-32), 3) := by decide +kernel
theorem d_VT_haveSameUnits_54 : decode b_VT_haveSameUnits 54 = .ok (.iconst 1, 1) := by decide +kernel
theorem d_VT_haveSameUnits_55 : decode b_VT_haveSameUnits 55 = .ok (.ireturn, 1) := by decide +kernel
end
section
theorem d_Mod_init_0 : decode b_Mod_init 0 = .ok (.aload_n 0, 1) := by decide +kernel
theorem d_Mod_init_1 : decode b_Mod_init 1 = .ok (.invokespecial 1, 3) := by decide +kernel
theorem d_Mod_init_4 : decode b_Mod_init 4 = .ok (.aload_n 0, 1) := by decide +kernel
theorem d_Mod_init_5 : decode b_Mod_init 5 = .ok (.sipush 2080, 3) := by decide +kernel
theorem d_Mod_init_8 : decode b_Mod_init 8 = .ok (.newarray .int, 2) := by decide +kernel
theorem d_Mod_init_10 : decode b_Mod_init 10 = .ok (.putfield 7, 3) := by decide +kernel
theorem d_Mod_init_13 : decode b_Mod_init 13 = .ok (.aload_n 0, 1) := by decide +kernel
theorem d_Mod_init_14 : decode b_Mod_init 14 = .ok (.bipush 13, 2) := by decide +kernel
theorem d_Mod_init_16 : decode b_Mod_init 16 = .ok (.newarray .int, 2) := by decide +kernel
theorem d_Mod_init_18 : decode b_Mod_init 18 = .ok (.putfield 13, 3) := by decide +kernel
theorem d_Mod_init_21 : decode b_Mod_init 21 = .ok (.aload_n 0, 1) := by decide +kernel
theorem d_Mod_init_22 : decode b_Mod_init 22 = .ok (.iconst 5, 1) := by decide +kernel
theorem d_Mod_init_23 : decode b_Mod_init 23 = .ok (.newarray .boolean, 2) := by decide +kernel
theorem d_Mod_init_25 : decode b_Mod_init 25 = .ok (.putfield 16, 3) := by decide +kernel
theorem d_Mod_init_28 : decode b_Mod_init 28 = .ok (.aload_n 0, 1) := by decide +kernel
theorem d_Mod_init_29 : decode b_Mod_init 29 = .ok (.bipush 24, 2) := by decide +kernel
theorem d_Mod_init_31 : decode b_Mod_init 31 = .ok (.newarray .int, 2) := by decide +kernel
theorem d_Mod_init_33 : decode b_Mod_init 33 = .ok (.putfield 20, 3) := by decide +kernel
theorem d_Mod_init_36 : decode b_Mod_init 36 = .ok (.aload_n 0, 1) := by decide +kernel
theorem d_Mod_init_37 : decode b_Mod_init 37 = .ok (.iconst (-1), 1) := by decide +kernel
theorem d_Mod_init_38 : decode b_Mod_init 38 = .ok (.putfield 23, 3) := by decide +kernel
theorem d_Mod_init_41 : decode b_Mod_init 41 = .ok (.aload_n 0, 1) := by decide +kernel
theorem d_Mod_init_42 : decode b_Mod_init 42 = .ok (.sipush 160, 3) := by decide +kernel
theorem d_Mod_init_45 : decode b_Mod_init 45 = .ok (.newarray .int, 2) := by decide +kernel
theorem d_Mod_init_47 : decode b_Mod_init 47 = .ok (.putfield 27, 3) := by decide +kernel
theorem d_Mod_init_50 : decode b_Mod_init 50 = .ok (.aload_n 0, 1) := by decide +kernel
theorem d_Mod_init_51 : decode b_Mod_init 51 = .ok (.sipush 161, 3) := by decide +kernel
theorem d_Mod_init_54 : decode b_Mod_init 54 = .ok (.newarray .int, 2) := by decide +kernel
theorem d_Mod_init_56 : decode b_Mod_init 56 = .ok (.putfield 30, 3) := by decide +kernel
theorem d_Mod_init_59 : decode b_Mod_init 59 = .ok (.aload_n 0, 1) := by decide +kernel
theorem d_Mod_init_60 : decode b_Mod_init 60 = .ok (.sipush 161, 3) := by decide +kernel
theorem d_Mod_init_63 : decode b_Mod_init 63 = .ok (.newarray .int, 2) := by decide +kernel
theorem d_Mod_init_65 : decode b_Mod_init 65 = .ok (.putfield 33, 3) := by decide +kernel
theorem d_Mod_init_68 : decode b_Mod_init 68 = .ok (.aload_n 0, 1) := by decide +kernel
theorem d_Mod_init_69 : decode b_Mod_init 69 = .ok (.sipush 162, 3) := by decide +kernel
theorem d_Mod_init_72 : decode b_Mod_init 72 = .ok (.newarray .int, 2) := by decide +kernel
theorem d_Mod_init_74 : decode b_Mod_init 74 = .ok (.putfield 36, 3) := by decide +kernel
theorem d_Mod_init_77 : decode b_Mod_init 77 = .ok (.aload_n 0, 1) := by decide +kernel
theorem d_Mod_init_78 : decode b_Mod_init 78 = .ok (.sipush 161, 3) := by decide +kernel
theorem d_Mod_init_81 : decode b_Mod_init 81 = .ok (.newarray .boolean, 2) := by decide +kernel
theorem d_Mod_init_83 : decode b_Mod_init 83 = .ok (.putfield 39, 3) := by decide +kernel
theorem d_Mod_init_86 : decode b_Mod_init 86 = .ok (.aload_n 0, 1) := by decide +kernel
theorem d_Mod_init_87 : decode b_Mod_init 87 = .ok (.iconst (-1), 1) := by decide +kernel
theorem d_Mod_init_88 : decode b_Mod_init 88 = .ok (.putfield 42, 3) := by decide +kernel
theorem d_Mod_init_91 : decode b_Mod_init 91 = .ok (.aload_n 0, 1) := by decide +kernel
theorem d_Mod_init_92 : decode b_Mod_init 92 = .ok (.iload_n 1, 1) := by decide +kernel
theorem d_Mod_init_93 : decode b_Mod_init 93 = .ok (.iconst 1, 1) := by decide +kernel
theorem d_Mod_init_94 : decode b_Mod_init 94 = .ok (.if_icmp .ne 7, 3) := by decide +kernel
theorem d_Mod_init_97 : decode b_Mod_init 97 = .ok (.iconst (-1), 1) := by decide +kernel
theorem d_Mod_init_98 : decode b_Mod_init 98 = .ok (.goto 4, 3) := by decide +kernel
theorem d_Mod_init_101 : decode b_Mod_init 101 = .ok (.iconst (-1), 1) := by decide +kernel
theorem d_Mod_init_102 : decode b_Mod_init 102 = .ok (.putfield 42, 3) := by decide +kernel
theorem d_Mod_init_105 : decode b_Mod_init 105 = .ok (.return_, 1) := by decide +kernel
theorem d_Mod_type_0 : decode b_Mod_type 0 = .ok (.aload_n 0, 1) := by decide +kernel
theorem d_Mod_type_1 : decode b_Mod_type 1 = .ok (.getfield 45, 3) := by decide +kernel
theorem d_Mod_type_4 : decode b_Mod_type 4 = .ok (.bipush 24, 2) := by decide +kernel
theorem d_Mod_type_6 : decode b_Mod_type 6 = .ok (.if_icmp .ne 5, 3) := by decide +kernel
theorem d_Mod_type_9 : decode b_Mod_type 9 = .ok (.iconst 0, 1) := by decide +kernel
theorem d_Mod_type_10 : decode b_Mod_type 10 = .ok (.ireturn, 1) := by decide +kernel
theorem d_Mod_type_11 : decode b_Mod_type 11 = .ok (.aload_n 0, 1) := by decide +kernel
theorem d_Mod_type_12 : decode b_Mod_type 12 = .ok (.getfield 20, 3) := by decide +kernel
theorem d_Mod_type_15 : decode b_Mod_type 15 = .ok (.aload_n 0, 1) := by decide +kernel
theorem d_Mod_type_16 : decode b_Mod_type 16 = .ok (.getfield 45, 3) := by decide +kernel
theorem d_Mod_type_19 : decode b_Mod_type 19 = .ok (.iload_n 1, 1) := by decide +kernel
theorem d_Mod_type_20 : decode b_Mod_type 20 = .ok (.iastore, 1) := by decide +kernel
theorem d_Mod_type_21 : decode b_Mod_type 21 = .ok (.aload_n 0, 1) := by decide +kernel
theorem d_Mod_type_22 : decode b_Mod_type 22 = .ok (.dup, 1) := by decide +kernel
theorem d_Mod_type_23 : decode b_Mod_type 23 = .ok (.getfield 45, 3) := by decide +kernel
theorem d_Mod_type_26 : decode b_Mod_type 26 = .ok (.iconst 1, 1) := by decide +kernel
theorem d_Mod_type_27 : decode b_Mod_type 27 = .ok (.iadd, 1) := by decide +kernel
theorem d_Mod_type_28 : decode b_Mod_type 28 = .ok (.putfield 45, 3) := by decide +kernel
theorem d_Mod_type_31 : decode b_Mod_type 31 = .ok (.iconst 1, 1) := by decide +kernel
theorem d_Mod_type_32 : decode b_Mod_type 32 = .ok (.ireturn, 1) := by decide +kernel
theorem d_Mod_scrap_0 : decode b_Mod_scrap 0 = .ok (.aload_n 0, 1) := by decide +kernel
theorem d_Mod_scrap_1 : decode b_Mod_scrap 1 = .ok (.iconst 0, 1) := by decide +kernel
theorem d_Mod_scrap_2 : decode b_Mod_scrap 2 = .ok (.putfield 45, 3) := by decide +kernel
theorem d_Mod_scrap_5 : decode b_Mod_scrap 5 = .ok (.return_, 1) := by decide +kernel
theorem d_Mod_slot_0 : decode b_Mod_slot 0 = .ok (.iload_n 1, 1) := by decide +kernel
theorem d_Mod_slot_1 : decode b_Mod_slot 1 = .ok (.ifCond .ne 8, 3) := by decide +kernel
theorem d_Mod_slot_4 : decode b_Mod_slot 4 = .ok (.aload_n 0, 1) := by decide +kernel
theorem d_Mod_slot_5 : decode b_Mod_slot 5 = .ok (.getfield 48, 3) := by decide +kernel
theorem d_Mod_slot_8 : decode b_Mod_slot 8 = .ok (.ireturn, 1) := by decide +kernel
theorem d_Mod_slot_9 : decode b_Mod_slot 9 = .ok (.iload_n 1, 1) := by decide +kernel
theorem d_Mod_slot_10 : decode b_Mod_slot 10 = .ok (.iconst 1, 1) := by decide +kernel
theorem d_Mod_slot_11 : decode b_Mod_slot 11 = .ok (.if_icmp .lt 17, 3) := by decide +kernel
theorem d_Mod_slot_14 : decode b_Mod_slot 14 = .ok (.iload_n 1, 1) := by decide +kernel
theorem d_Mod_slot_15 : decode b_Mod_slot 15 = .ok (.iconst 4, 1) := by decide +kernel
theorem d_Mod_slot_16 : decode b_Mod_slot 16 = .ok (.if_icmp .gt 12, 3) := by decide +kernel
theorem d_Mod_slot_19 : decode b_Mod_slot 19 = .ok (.aload_n 0, 1) := by decide +kernel
theorem d_Mod_slot_20 : decode b_Mod_slot 20 = .ok (.getfield 16, 3) := by decide +kernel
theorem d_Mod_slot_23 : decode b_Mod_slot 23 = .ok (.iload_n 1, 1) := by decide +kernel
theorem d_Mod_slot_24 : decode b_Mod_slot 24 = .ok (.baload, 1) := by decide +kernel
theorem d_Mod_slot_25 : decode b_Mod_slot 25 = .ok (.ifCond .ne 7, 3) := by decide +kernel
theorem d_Mod_slot_28 : decode b_Mod_slot 28 = .ok (.iconst (-1), 1) := by decide +kernel
theorem d_Mod_slot_29 : decode b_Mod_slot 29 = .ok (.goto 7, 3) := by decide +kernel
theorem d_Mod_slot_32 : decode b_Mod_slot 32 = .ok (.bipush 8, 2) := by decide +kernel
theorem d_Mod_slot_34 : decode b_Mod_slot 34 = .ok (.iload_n 1, 1) := by decide +kernel
theorem d_Mod_slot_35 : decode b_Mod_slot 35 = .ok (.iadd, 1) := by decide +kernel
theorem d_Mod_slot_36 : decode b_Mod_slot 36 = .ok (.ireturn, 1) := by decide +kernel
theorem d_Mod_findPoints_0 : decode b_Mod_findPoints 0 = .ok (.aload_n 0, 1) := by decide +kernel
theorem d_Mod_findPoints_1 : decode b_Mod_findPoints 1 = .ok (.iconst 0, 1) := by decide +kernel
theorem d_Mod_findPoints_2 : decode b_Mod_findPoints 2 = .ok (.putfield 51, 3) := by decide +kernel
theorem d_Mod_findPoints_5 : decode b_Mod_findPoints 5 = .ok (.aload_n 0, 1) := by decide +kernel
theorem d_Mod_findPoints_6 : decode b_Mod_findPoints 6 = .ok (.getfield 13, 3) := by decide +kernel
theorem d_Mod_findPoints_9 : decode b_Mod_findPoints 9 = .ok (.iload_n 1, 1) := by decide +kernel
theorem d_Mod_findPoints_10 : decode b_Mod_findPoints 10 = .ok (.iaload, 1) := by decide +kernel
theorem d_Mod_findPoints_11 : decode b_Mod_findPoints 11 = .ok (.istore_n 2, 1) := by decide +kernel
theorem d_Mod_findPoints_12 : decode b_Mod_findPoints 12 = .ok (.iconst 0, 1) := by decide +kernel
theorem d_Mod_findPoints_13 : decode b_Mod_findPoints 13 = .ok (.istore_n 3, 1) := by decide +kernel
theorem d_Mod_findPoints_14 : decode b_Mod_findPoints 14 = .ok (.iload_n 3, 1) := by decide +kernel
theorem d_Mod_findPoints_15 : decode b_Mod_findPoints 15 = .ok (.iload_n 2, 1) := by decide +kernel
theorem d_Mod_findPoints_16 : decode b_Mod_findPoints 16 = .ok (.if_icmp .ge 154, 3) := by decide +kernel
theorem d_Mod_findPoints_19 : decode b_Mod_findPoints 19 = .ok (.aload_n 0, 1) := by decide +kernel
theorem d_Mod_findPoints_20 : decode b_Mod_findPoints 20 = .ok (.getfield 7, 3) := by decide +kernel
theorem d_Mod_findPoints_23 : decode b_Mod_findPoints 23 = .ok (.sipush 160, 3) := by decide +kernel
theorem d_Mod_findPoints_26 : decode b_Mod_findPoints 26 = .ok (.iload_n 1, 1) := by decide +kernel
theorem d_Mod_findPoints_27 : decode b_Mod_findPoints 27 = .ok (.imul, 1) := by decide +kernel
theorem d_Mod_findPoints_28 : decode b_Mod_findPoints 28 = .ok (.iload_n 3, 1) := by decide +kernel
theorem d_Mod_findPoints_29 : decode b_Mod_findPoints 29 = .ok (.iadd, 1) := by decide +kernel
theorem d_Mod_findPoints_30 : decode b_Mod_findPoints 30 = .ok (.iaload, 1) := by decide +kernel
theorem d_Mod_findPoints_31 : decode b_Mod_findPoints 31 = .ok (.istore 4, 2) := by decide +kernel
theorem d_Mod_findPoints_33 : decode b_Mod_findPoints 33 = .ok (.iload_n 3, 1) := by decide +kernel
theorem d_Mod_findPoints_34 : decode b_Mod_findPoints 34 = .ok (.iconst 1, 1) := by decide +kernel
theorem d_Mod_findPoints_35 : decode b_Mod_findPoints 35 = .ok (.iadd, 1) := by decide +kernel
theorem d_Mod_findPoints_36 : decode b_Mod_findPoints 36 = .ok (.iload_n 2, 1) := by decide +kernel
theorem d_Mod_findPoints_37 : decode b_Mod_findPoints 37 = .ok (.if_icmp .ge 20, 3) := by decide +kernel
theorem d_Mod_findPoints_40 : decode b_Mod_findPoints 40 = .ok (.aload_n 0, 1) := by decide +kernel
theorem d_Mod_findPoints_41 : decode b_Mod_findPoints 41 = .ok (.getfield 7, 3) := by decide +kernel
theorem d_Mod_findPoints_44 : decode b_Mod_findPoints 44 = .ok (.sipush 160, 3) := by decide +kernel
theorem d_Mod_findPoints_47 : decode b_Mod_findPoints 47 = .ok (.iload_n 1, 1) := by decide +kernel
theorem d_Mod_findPoints_48 : decode b_Mod_findPoints 48 = .ok (.imul, 1) := by decide +kernel
theorem d_Mod_findPoints_49 : decode b_Mod_findPoints 49 = .ok (.iload_n 3, 1) := by decide +kernel
theorem d_Mod_findPoints_50 : decode b_Mod_findPoints 50 = .ok (.iadd, 1) := by decide +kernel
theorem d_Mod_findPoints_51 : decode b_Mod_findPoints 51 = .ok (.iconst 1, 1) := by decide +kernel
theorem d_Mod_findPoints_52 : decode b_Mod_findPoints 52 = .ok (.iadd, 1) := by decide +kernel
theorem d_Mod_findPoints_53 : decode b_Mod_findPoints 53 = .ok (.iaload, 1) := by decide +kernel
theorem d_Mod_findPoints_54 : decode b_Mod_findPoints 54 = .ok (.goto 4, 3) := by decide +kernel
theorem d_Mod_findPoints_57 : decode b_Mod_findPoints 57 = .ok (.iconst 0, 1) := by decide +kernel
theorem d_Mod_findPoints_58 : decode b_Mod_findPoints 58 = .ok (.istore 5, 2) := by decide +kernel
theorem d_Mod_findPoints_60 : decode b_Mod_findPoints 60 = .ok (.iload 4, 2) := by decide +kernel
theorem d_Mod_findPoints_62 : decode b_Mod_findPoints 62 = .ok (.ldc 54, 2) := by decide +kernel
theorem d_Mod_findPoints_64 : decode b_Mod_findPoints 64 = .ok (.if_icmp .lt 28, 3) := by decide +kernel
theorem d_Mod_findPoints_67 : decode b_Mod_findPoints 67 = .ok (.iload 4, 2) := by decide +kernel
theorem d_Mod_findPoints_69 : decode b_Mod_findPoints 69 = .ok (.ldc 55, 2) := by decide +kernel
theorem d_Mod_findPoints_71 : decode b_Mod_findPoints 71 = .ok (.if_icmp .gt 21, 3) := by decide +kernel
theorem d_Mod_findPoints_74 : decode b_Mod_findPoints 74 = .ok (.iload 5, 2) := by decide +kernel
theorem d_Mod_findPoints_76 : decode b_Mod_findPoints 76 = .ok (.ldc 56, 2) := by decide +kernel
theorem d_Mod_findPoints_78 : decode b_Mod_findPoints 78 = .ok (.if_icmp .lt 14, 3) := by decide +kernel
theorem d_Mod_findPoints_81 : decode b_Mod_findPoints 81 = .ok (.iload 5, 2) := by decide +kernel
theorem d_Mod_findPoints_83 : decode b_Mod_findPoints 83 = .ok (.ldc 57, 2) := by decide +kernel
theorem d_Mod_findPoints_85 : decode b_Mod_findPoints 85 = .ok (.if_icmp .gt 7, 3) := by decide +kernel
theorem d_Mod_findPoints_88 : decode b_Mod_findPoints 88 = .ok (.iconst 1, 1) := by decide +kernel
theorem d_Mod_findPoints_89 : decode b_Mod_findPoints 89 = .ok (.goto 4, 3) := by decide +kernel
theorem d_Mod_findPoints_92 : decode b_Mod_findPoints 92 = .ok (.iconst 0, 1) := by decide +kernel
theorem d_Mod_findPoints_93 : decode b_Mod_findPoints 93 = .ok (.istore 6, 2) := by decide +kernel
theorem d_Mod_findPoints_95 : decode b_Mod_findPoints 95 = .ok (.aload_n 0, 1) := by decide +kernel
theorem d_Mod_findPoints_96 : decode b_Mod_findPoints 96 = .ok (.getfield 30, 3) := by decide +kernel
theorem d_Mod_findPoints_99 : decode b_Mod_findPoints 99 = .ok (.aload_n 0, 1) := by decide +kernel
theorem d_Mod_findPoints_100 : decode b_Mod_findPoints 100 = .ok (.getfield 51, 3) := by decide +kernel
theorem d_Mod_findPoints_103 : decode b_Mod_findPoints 103 = .ok (.iload_n 3, 1) := by decide +kernel
theorem d_Mod_findPoints_104 : decode b_Mod_findPoints 104 = .ok (.iastore, 1) := by decide +kernel
theorem d_Mod_findPoints_105 : decode b_Mod_findPoints 105 = .ok (.aload_n 0, 1) := by decide +kernel
theorem d_Mod_findPoints_106 : decode b_Mod_findPoints 106 = .ok (.getfield 33, 3) := by decide +kernel
theorem d_Mod_findPoints_109 : decode b_Mod_findPoints 109 = .ok (.aload_n 0, 1) := by decide +kernel
theorem d_Mod_findPoints_110 : decode b_Mod_findPoints 110 = .ok (.getfield 51, 3) := by decide +kernel
theorem d_Mod_findPoints_113 : decode b_Mod_findPoints 113 = .ok (.iload 6, 2) := by decide +kernel
theorem d_Mod_findPoints_115 : decode b_Mod_findPoints 115 = .ok (.ifCond .eq 24, 3) := by decide +kernel
theorem d_Mod_findPoints_118 : decode b_Mod_findPoints 118 = .ok (.ldc 58, 2) := by decide +kernel
theorem d_Mod_findPoints_120 : decode b_Mod_findPoints 120 = .ok (.sipush 1024, 3) := by decide +kernel
theorem d_Mod_findPoints_123 : decode b_Mod_findPoints 123 = .ok (.iload 4, 2) := by decide +kernel
theorem d_Mod_findPoints_125 : decode b_Mod_findPoints 125 = .ok (.ldc 54, 2) := by decide +kernel
theorem d_Mod_findPoints_127 : decode b_Mod_findPoints 127 = .ok (.isub, 1) := by decide +kernel
theorem d_Mod_findPoints_128 : decode b_Mod_findPoints 128 = .ok (.imul, 1) := by decide +kernel
theorem d_Mod_findPoints_129 : decode b_Mod_findPoints 129 = .ok (.iadd, 1) := by decide +kernel
theorem d_Mod_findPoints_130 : decode b_Mod_findPoints 130 = .ok (.iload 5, 2) := by decide +kernel
theorem d_Mod_findPoints_132 : decode b_Mod_findPoints 132 = .ok (.iadd, 1) := by decide +kernel
theorem d_Mod_findPoints_133 : decode b_Mod_findPoints 133 = .ok (.ldc 56, 2) := by decide +kernel
theorem d_Mod_findPoints_135 : decode b_Mod_findPoints 135 = .ok (.isub, 1) := by decide +kernel
theorem d_Mod_findPoints_136 : decode b_Mod_findPoints 136 = .ok (.goto 5, 3) := by decide +kernel
theorem d_Mod_findPoints_139 : decode b_Mod_findPoints 139 = .ok (.iload 4, 2) := by decide +kernel
theorem d_Mod_findPoints_141 : decode b_Mod_findPoints 141 = .ok (.iastore, 1) := by decide +kernel
theorem d_Mod_findPoints_142 : decode b_Mod_findPoints 142 = .ok (.aload_n 0, 1) := by decide +kernel
theorem d_Mod_findPoints_143 : decode b_Mod_findPoints 143 = .ok (.dup, 1) := by decide +kernel
theorem d_Mod_findPoints_144 : decode b_Mod_findPoints 144 = .ok (.getfield 51, 3) := by decide +kernel
theorem d_Mod_findPoints_147 : decode b_Mod_findPoints 147 = .ok (.iconst 1, 1) := by decide +kernel
theorem d_Mod_findPoints_148 : decode b_Mod_findPoints 148 = .ok (.iadd, 1) := by decide +kernel
theorem d_Mod_findPoints_149 : decode b_Mod_findPoints 149 = .ok (.putfield 51, 3) := by decide +kernel
theorem d_Mod_findPoints_152 : decode b_Mod_findPoints 152 = .ok (.iload 6, 2) := by decide +kernel
theorem d_Mod_findPoints_154 : decode b_Mod_findPoints 154 = .ok (.ifCond .eq 9, 3) := by decide +kernel
theorem d_Mod_findPoints_157 : decode b_Mod_findPoints 157 = .ok (.iload_n 3, 1) := by decide +kernel
theorem d_Mod_findPoints_158 : decode b_Mod_findPoints 158 = .ok (.iconst 2, 1) := by decide +kernel
theorem d_Mod_findPoints_159 : decode b_Mod_findPoints 159 = .ok (.iadd, 1) := by decide +kernel
theorem d_Mod_findPoints_160 : decode b_Mod_findPoints 160 = .ok (.goto 6, 3) := by decide +kernel
theorem d_Mod_findPoints_163 : decode b_Mod_findPoints 163 = .ok (.iload_n 3, 1) := by decide +kernel
theorem d_Mod_findPoints_164 : decode b_Mod_findPoints 164 = .ok (.iconst 1, 1) := by decide +kernel
theorem d_Mod_findPoints_165 : decode b_Mod_findPoints 165 = .ok (.iadd, 1) := by decide +kernel
theorem d_Mod_findPoints_166 : decode b_Mod_findPoints 166 = .ok (.istore_n 3, 1) := by decide +kernel
theorem d_Mod_findPoints_167 : decode b_Mod_findPoints 167 = .ok (.goto (-153), 3) := by decide +kernel
theorem d_Mod_findPoints_170 : decode b_Mod_findPoints 170 = .ok (.return_, 1) := by decide +kernel
theorem d_Mod_isMark_0 : decode b_Mod_isMark 0 = .ok (.iload_n 0, 1) := by decide +kernel
theorem d_Mod_isMark_1 : decode b_Mod_isMark 1 = .ok (.sipush 768, 3) := by decide +kernel
theorem d_Mod_isMark_4 : decode b_Mod_isMark 4 = .ok (.if_icmp .lt 14, 3) := by decide +kernel
theorem d_Mod_isMark_7 : decode b_Mod_isMark 7 = .ok (.iload_n 0, 1) := by decide +kernel
theorem d_Mod_isMark_8 : decode b_Mod_isMark 8 = .ok (.sipush 879, 3) := by decide +kernel
theorem d_Mod_isMark_11 : decode b_Mod_isMark 11 = .ok (.if_icmp .gt 7, 3) := by decide +kernel
theorem d_Mod_isMark_14 : decode b_Mod_isMark 14 = .ok (.iconst 1, 1) := by decide +kernel
theorem d_Mod_isMark_15 : decode b_Mod_isMark 15 = .ok (.goto 4, 3) := by decide +kernel
theorem d_Mod_isMark_18 : decode b_Mod_isMark 18 = .ok (.iconst 0, 1) := by decide +kernel
theorem d_Mod_isMark_19 : decode b_Mod_isMark 19 = .ok (.ireturn, 1) := by decide +kernel
theorem d_Mod_isPicture_0 : decode b_Mod_isPicture 0 = .ok (.iload_n 0, 1) := by decide +kernel
theorem d_Mod_isPicture_1 : decode b_Mod_isPicture 1 = .ok (.ldc 59, 2) := by decide +kernel
theorem d_Mod_isPicture_3 : decode b_Mod_isPicture 3 = .ok (.if_icmp .lt 13, 3) := by decide +kernel
theorem d_Mod_isPicture_6 : decode b_Mod_isPicture 6 = .ok (.iload_n 0, 1) := by decide +kernel
theorem d_Mod_isPicture_7 : decode b_Mod_isPicture 7 = .ok (.ldc 60, 2) := by decide +kernel
theorem d_Mod_isPicture_9 : decode b_Mod_isPicture 9 = .ok (.if_icmp .gt 7, 3) := by decide +kernel
theorem d_Mod_isPicture_12 : decode b_Mod_isPicture 12 = .ok (.iconst 1, 1) := by decide +kernel
theorem d_Mod_isPicture_13 : decode b_Mod_isPicture 13 = .ok (.goto 4, 3) := by decide +kernel
theorem d_Mod_isPicture_16 : decode b_Mod_isPicture 16 = .ok (.iconst 0, 1) := by decide +kernel
theorem d_Mod_isPicture_17 : decode b_Mod_isPicture 17 = .ok (.ireturn, 1) := by decide +kernel
theorem d_Mod_isFlag_0 : decode b_Mod_isFlag 0 = .ok (.iload_n 0, 1) := by decide +kernel
theorem d_Mod_isFlag_1 : decode b_Mod_isFlag 1 = .ok (.ldc 61, 2) := by decide +kernel
theorem d_Mod_isFlag_3 : decode b_Mod_isFlag 3 = .ok (.if_icmp .lt 13, 3) := by decide +kernel
theorem d_Mod_isFlag_6 : decode b_Mod_isFlag 6 = .ok (.iload_n 0, 1) := by decide +kernel
theorem d_Mod_isFlag_7 : decode b_Mod_isFlag 7 = .ok (.ldc 62, 2) := by decide +kernel
theorem d_Mod_isFlag_9 : decode b_Mod_isFlag 9 = .ok (.if_icmp .gt 7, 3) := by decide +kernel
theorem d_Mod_isFlag_12 : decode b_Mod_isFlag 12 = .ok (.iconst 1, 1) := by decide +kernel
theorem d_Mod_isFlag_13 : decode b_Mod_isFlag 13 = .ok (.goto 4, 3) := by decide +kernel
theorem d_Mod_isFlag_16 : decode b_Mod_isFlag 16 = .ok (.iconst 0, 1) := by decide +kernel
theorem d_Mod_isFlag_17 : decode b_Mod_isFlag 17 = .ok (.ireturn, 1) := by decide +kernel
theorem d_Mod_bound_0 : decode b_Mod_bound 0 = .ok (.aload_n 0, 1) := by decide +kernel
theorem d_Mod_bound_1 : decode b_Mod_bound 1 = .ok (.getfield 33, 3) := by decide +kernel
theorem d_Mod_bound_4 : decode b_Mod_bound 4 = .ok (.iload_n 1, 1) := by decide +kernel
theorem d_Mod_bound_5 : decode b_Mod_bound 5 = .ok (.iconst 1, 1) := by decide +kernel
theorem d_Mod_bound_6 : decode b_Mod_bound 6 = .ok (.isub, 1) := by decide +kernel
theorem d_Mod_bound_7 : decode b_Mod_bound 7 = .ok (.iaload, 1) := by decide +kernel
theorem d_Mod_bound_8 : decode b_Mod_bound 8 = .ok (.istore_n 2, 1) := by decide +kernel
theorem d_Mod_bound_9 : decode b_Mod_bound 9 = .ok (.aload_n 0, 1) := by decide +kernel
theorem d_Mod_bound_10 : decode b_Mod_bound 10 = .ok (.getfield 33, 3) := by decide +kernel
theorem d_Mod_bound_13 : decode b_Mod_bound 13 = .ok (.iload_n 1, 1) := by decide +kernel
theorem d_Mod_bound_14 : decode b_Mod_bound 14 = .ok (.iaload, 1) := by decide +kernel
theorem d_Mod_bound_15 : decode b_Mod_bound 15 = .ok (.istore_n 3, 1) := by decide +kernel
theorem d_Mod_bound_16 : decode b_Mod_bound 16 = .ok (.iload_n 2, 1) := by decide +kernel
theorem d_Mod_bound_17 : decode b_Mod_bound 17 = .ok (.bipush 13, 2) := by decide +kernel
theorem d_Mod_bound_19 : decode b_Mod_bound 19 = .ok (.if_icmp .ne 9, 3) := by decide +kernel
theorem d_Mod_bound_22 : decode b_Mod_bound 22 = .ok (.iload_n 3, 1) := by decide +kernel
theorem d_Mod_bound_23 : decode b_Mod_bound 23 = .ok (.bipush 10, 2) := by decide +kernel
theorem d_Mod_bound_25 : decode b_Mod_bound 25 = .ok (.if_icmp .eq 23, 3) := by decide +kernel
theorem d_Mod_bound_28 : decode b_Mod_bound 28 = .ok (.iload_n 2, 1) := by decide +kernel
theorem d_Mod_bound_29 : decode b_Mod_bound 29 = .ok (.bipush 31, 2) := by decide +kernel
theorem d_Mod_bound_31 : decode b_Mod_bound 31 = .ok (.if_icmp .le 19, 3) := by decide +kernel
theorem d_Mod_bound_34 : decode b_Mod_bound 34 = .ok (.iload_n 3, 1) := by decide +kernel
theorem d_Mod_bound_35 : decode b_Mod_bound 35 = .ok (.invokestatic 63, 3) := by decide +kernel
theorem d_Mod_bound_38 : decode b_Mod_bound 38 = .ok (.ifCond .ne 10, 3) := by decide +kernel
theorem d_Mod_bound_41 : decode b_Mod_bound 41 = .ok (.iload_n 3, 1) := by decide +kernel
theorem d_Mod_bound_42 : decode b_Mod_bound 42 = .ok (.sipush 8205, 3) := by decide +kernel
theorem d_Mod_bound_45 : decode b_Mod_bound 45 = .ok (.if_icmp .ne 5, 3) := by decide +kernel
theorem d_Mod_bound_48 : decode b_Mod_bound 48 = .ok (.iconst 1, 1) := by decide +kernel
theorem d_Mod_bound_49 : decode b_Mod_bound 49 = .ok (.ireturn, 1) := by decide +kernel
theorem d_Mod_bound_50 : decode b_Mod_bound 50 = .ok (.iload_n 1, 1) := by decide +kernel
theorem d_Mod_bound_51 : decode b_Mod_bound 51 = .ok (.iconst 2, 1) := by decide +kernel
theorem d_Mod_bound_52 : decode b_Mod_bound 52 = .ok (.isub, 1) := by decide +kernel
theorem d_Mod_bound_53 : decode b_Mod_bound 53 = .ok (.istore 4, 2) := by decide +kernel
theorem d_Mod_bound_55 : decode b_Mod_bound 55 = .ok (.iload_n 2, 1) := by decide +kernel
theorem d_Mod_bound_56 : decode b_Mod_bound 56 = .ok (.sipush 8205, 3) := by decide +kernel
theorem d_Mod_bound_59 : decode b_Mod_bound 59 = .ok (.if_icmp .ne 58, 3) := by decide +kernel
theorem d_Mod_bound_62 : decode b_Mod_bound 62 = .ok (.iload_n 3, 1) := by decide +kernel
theorem d_Mod_bound_63 : decode b_Mod_bound 63 = .ok (.invokestatic 67, 3) := by decide +kernel
theorem d_Mod_bound_66 : decode b_Mod_bound 66 = .ok (.ifCond .eq 51, 3) := by decide +kernel
theorem d_Mod_bound_69 : decode b_Mod_bound 69 = .ok (.iload 4, 2) := by decide +kernel
theorem d_Mod_bound_71 : decode b_Mod_bound 71 = .ok (.ifCond .lt 22, 3) := by decide +kernel
theorem d_Mod_bound_74 : decode b_Mod_bound 74 = .ok (.aload_n 0, 1) := by decide +kernel
theorem d_Mod_bound_75 : decode b_Mod_bound 75 = .ok (.getfield 33, 3) := by decide +kernel
theorem d_Mod_bound_78 : decode b_Mod_bound 78 = .ok (.iload 4, 2) := by decide +kernel
theorem d_Mod_bound_80 : decode b_Mod_bound 80 = .ok (.iaload, 1) := by decide +kernel
theorem d_Mod_bound_81 : decode b_Mod_bound 81 = .ok (.invokestatic 63, 3) := by decide +kernel
theorem d_Mod_bound_84 : decode b_Mod_bound 84 = .ok (.ifCond .eq 9, 3) := by decide +kernel
theorem d_Mod_bound_87 : decode b_Mod_bound 87 = .ok (.iinc 4 (-1), 3) := by decide +kernel
theorem d_Mod_bound_90 : decode b_Mod_bound 90 = .ok (.goto (-21), 3) := by decide +kernel
theorem d_Mod_bound_93 : decode b_Mod_bound 93 = .ok (.iload 4, 2) := by decide +kernel
theorem d_Mod_bound_95 : decode b_Mod_bound 95 = .ok (.ifCond .lt 20, 3) := by decide +kernel
theorem d_Mod_bound_98 : decode b_Mod_bound 98 = .ok (.aload_n 0, 1) := by decide +kernel
theorem d_Mod_bound_99 : decode b_Mod_bound 99 = .ok (.getfield 33, 3) := by decide +kernel
theorem d_Mod_bound_102 : decode b_Mod_bound 102 = .ok (.iload 4, 2) := by decide +kernel
theorem d_Mod_bound_104 : decode b_Mod_bound 104 = .ok (.iaload, 1) := by decide +kernel
theorem d_Mod_bound_105 : decode b_Mod_bound 105 = .ok (.invokestatic 67, 3) := by decide +kernel
theorem d_Mod_bound_108 : decode b_Mod_bound 108 = .ok (.ifCond .eq 7, 3) := by decide +kernel
theorem d_Mod_bound_111 : decode b_Mod_bound 111 = .ok (.iconst 1, 1) := by decide +kernel
theorem d_Mod_bound_112 : decode b_Mod_bound 112 = .ok (.goto 4, 3) := by decide +kernel
theorem d_Mod_bound_115 : decode b_Mod_bound 115 = .ok (.iconst 0, 1) := by decide +kernel
theorem d_Mod_bound_116 : decode b_Mod_bound 116 = .ok (.ireturn, 1) := by decide +kernel
theorem d_Mod_bound_117 : decode b_Mod_bound 117 = .ok (.iload 4, 2) := by decide +kernel
theorem d_Mod_bound_119 : decode b_Mod_bound 119 = .ok (.ifCond .lt 22, 3) := by decide +kernel
theorem d_Mod_bound_122 : decode b_Mod_bound 122 = .ok (.aload_n 0, 1) := by decide +kernel
theorem d_Mod_bound_123 : decode b_Mod_bound 123 = .ok (.getfield 33, 3) := by decide +kernel
theorem d_Mod_bound_126 : decode b_Mod_bound 126 = .ok (.iload 4, 2) := by decide +kernel
theorem d_Mod_bound_128 : decode b_Mod_bound 128 = .ok (.iaload, 1) := by decide +kernel
theorem d_Mod_bound_129 : decode b_Mod_bound 129 = .ok (.invokestatic 70, 3) := by decide +kernel
theorem d_Mod_bound_132 : decode b_Mod_bound 132 = .ok (.ifCond .eq 9, 3) := by decide +kernel
theorem d_Mod_bound_135 : decode b_Mod_bound 135 = .ok (.iinc 4 (-1), 3) := by decide +kernel
theorem d_Mod_bound_138 : decode b_Mod_bound 138 = .ok (.goto (-21), 3) := by decide +kernel
theorem d_Mod_bound_141 : decode b_Mod_bound 141 = .ok (.iload_n 2, 1) := by decide +kernel
theorem d_Mod_bound_142 : decode b_Mod_bound 142 = .ok (.invokestatic 70, 3) := by decide +kernel
theorem d_Mod_bound_145 : decode b_Mod_bound 145 = .ok (.ifCond .eq 25, 3) := by decide +kernel
theorem d_Mod_bound_148 : decode b_Mod_bound 148 = .ok (.iload_n 3, 1) := by decide +kernel
theorem d_Mod_bound_149 : decode b_Mod_bound 149 = .ok (.invokestatic 70, 3) := by decide +kernel
theorem d_Mod_bound_152 : decode b_Mod_bound 152 = .ok (.ifCond .eq 18, 3) := by decide +kernel
theorem d_Mod_bound_155 : decode b_Mod_bound 155 = .ok (.iload_n 1, 1) := by decide +kernel
theorem d_Mod_bound_156 : decode b_Mod_bound 156 = .ok (.iconst 2, 1) := by decide +kernel
theorem d_Mod_bound_157 : decode b_Mod_bound 157 = .ok (.isub, 1) := by decide +kernel
theorem d_Mod_bound_158 : decode b_Mod_bound 158 = .ok (.iload 4, 2) := by decide +kernel
theorem d_Mod_bound_160 : decode b_Mod_bound 160 = .ok (.isub, 1) := by decide +kernel
theorem d_Mod_bound_161 : decode b_Mod_bound 161 = .ok (.iconst 2, 1) := by decide +kernel
theorem d_Mod_bound_162 : decode b_Mod_bound 162 = .ok (.irem, 1) := by decide +kernel
theorem d_Mod_bound_163 : decode b_Mod_bound 163 = .ok (.ifCond .ne 7, 3) := by decide +kernel
theorem d_Mod_bound_166 : decode b_Mod_bound 166 = .ok (.iconst 1, 1) := by decide +kernel
theorem d_Mod_bound_167 : decode b_Mod_bound 167 = .ok (.goto 4, 3) := by decide +kernel
theorem d_Mod_bound_170 : decode b_Mod_bound 170 = .ok (.iconst 0, 1) := by decide +kernel
theorem d_Mod_bound_171 : decode b_Mod_bound 171 = .ok (.ireturn, 1) := by decide +kernel
theorem d_Mod_begin_0 : decode b_Mod_begin 0 = .ok (.aload_n 0, 1) := by decide +kernel
theorem d_Mod_begin_1 : decode b_Mod_begin 1 = .ok (.getfield 36, 3) := by decide +kernel
theorem d_Mod_begin_4 : decode b_Mod_begin 4 = .ok (.aload_n 0, 1) := by decide +kernel
theorem d_Mod_begin_5 : decode b_Mod_begin 5 = .ok (.getfield 73, 3) := by decide +kernel
theorem d_Mod_begin_8 : decode b_Mod_begin 8 = .ok (.iload_n 1, 1) := by decide +kernel
theorem d_Mod_begin_9 : decode b_Mod_begin 9 = .ok (.iastore, 1) := by decide +kernel
theorem d_Mod_begin_10 : decode b_Mod_begin 10 = .ok (.aload_n 0, 1) := by decide +kernel
theorem d_Mod_begin_11 : decode b_Mod_begin 11 = .ok (.dup, 1) := by decide +kernel
theorem d_Mod_begin_12 : decode b_Mod_begin 12 = .ok (.getfield 73, 3) := by decide +kernel
theorem d_Mod_begin_15 : decode b_Mod_begin 15 = .ok (.iconst 1, 1) := by decide +kernel
theorem d_Mod_begin_16 : decode b_Mod_begin 16 = .ok (.iadd, 1) := by decide +kernel
theorem d_Mod_begin_17 : decode b_Mod_begin 17 = .ok (.putfield 73, 3) := by decide +kernel
theorem d_Mod_begin_20 : decode b_Mod_begin 20 = .ok (.return_, 1) := by decide +kernel
theorem d_Mod_findLines_0 : decode b_Mod_findLines 0 = .ok (.aload_n 0, 1) := by decide +kernel
theorem d_Mod_findLines_1 : decode b_Mod_findLines 1 = .ok (.getfield 13, 3) := by decide +kernel
theorem d_Mod_findLines_4 : decode b_Mod_findLines 4 = .ok (.iload_n 1, 1) := by decide +kernel
theorem d_Mod_findLines_5 : decode b_Mod_findLines 5 = .ok (.iaload, 1) := by decide +kernel
theorem d_Mod_findLines_6 : decode b_Mod_findLines 6 = .ok (.istore_n 2, 1) := by decide +kernel
theorem d_Mod_findLines_7 : decode b_Mod_findLines 7 = .ok (.aload_n 0, 1) := by decide +kernel
theorem d_Mod_findLines_8 : decode b_Mod_findLines 8 = .ok (.iconst 0, 1) := by decide +kernel
theorem d_Mod_findLines_9 : decode b_Mod_findLines 9 = .ok (.invokevirtual 76, 3) := by decide +kernel
theorem d_Mod_findLines_12 : decode b_Mod_findLines 12 = .ok (.iconst 1, 1) := by decide +kernel
theorem d_Mod_findLines_13 : decode b_Mod_findLines 13 = .ok (.istore_n 3, 1) := by decide +kernel
theorem d_Mod_findLines_14 : decode b_Mod_findLines 14 = .ok (.iload_n 3, 1) := by decide +kernel
theorem d_Mod_findLines_15 : decode b_Mod_findLines 15 = .ok (.iload_n 2, 1) := by decide +kernel
theorem d_Mod_findLines_16 : decode b_Mod_findLines 16 = .ok (.if_icmp .gt 74, 3) := by decide +kernel
theorem d_Mod_findLines_19 : decode b_Mod_findLines 19 = .ok (.aload_n 0, 1) := by decide +kernel
theorem d_Mod_findLines_20 : decode b_Mod_findLines 20 = .ok (.getfield 7, 3) := by decide +kernel
theorem d_Mod_findLines_23 : decode b_Mod_findLines 23 = .ok (.sipush 160, 3) := by decide +kernel
theorem d_Mod_findLines_26 : decode b_Mod_findLines 26 = .ok (.iload_n 1, 1) := by decide +kernel
theorem d_Mod_findLines_27 : decode b_Mod_findLines 27 = .ok (.imul, 1) := by decide +kernel
theorem d_Mod_findLines_28 : decode b_Mod_findLines 28 = .ok (.iload_n 3, 1) := by decide +kernel
theorem d_Mod_findLines_29 : decode b_Mod_findLines 29 = .ok (.iadd, 1) := by decide +kernel
theorem d_Mod_findLines_30 : decode b_Mod_findLines 30 = .ok (.iconst 1, 1) := by decide +kernel
theorem d_Mod_findLines_31 : decode b_Mod_findLines 31 = .ok (.isub, 1) := by decide +kernel
theorem d_Mod_findLines_32 : decode b_Mod_findLines 32 = .ok (.iaload, 1) := by decide +kernel
theorem d_Mod_findLines_33 : decode b_Mod_findLines 33 = .ok (.istore 4, 2) := by decide +kernel
theorem d_Mod_findLines_35 : decode b_Mod_findLines 35 = .ok (.iload_n 3, 1) := by decide +kernel
theorem d_Mod_findLines_36 : decode b_Mod_findLines 36 = .ok (.iload_n 2, 1) := by decide +kernel
theorem d_Mod_findLines_37 : decode b_Mod_findLines 37 = .ok (.if_icmp .ge 18, 3) := by decide +kernel
theorem d_Mod_findLines_40 : decode b_Mod_findLines 40 = .ok (.aload_n 0, 1) := by decide +kernel
theorem d_Mod_findLines_41 : decode b_Mod_findLines 41 = .ok (.getfield 7, 3) := by decide +kernel
theorem d_Mod_findLines_44 : decode b_Mod_findLines 44 = .ok (.sipush 160, 3) := by decide +kernel
theorem d_Mod_findLines_47 : decode b_Mod_findLines 47 = .ok (.iload_n 1, 1) := by decide +kernel
theorem d_Mod_findLines_48 : decode b_Mod_findLines 48 = .ok (.imul, 1) := by decide +kernel
theorem d_Mod_findLines_49 : decode b_Mod_findLines 49 = .ok (.iload_n 3, 1) := by decide +kernel
theorem d_Mod_findLines_50 : decode b_Mod_findLines 50 = .ok (.iadd, 1) := by decide +kernel
theorem d_Mod_findLines_51 : decode b_Mod_findLines 51 = .ok (.iaload, 1) := by decide +kernel
theorem d_Mod_findLines_52 : decode b_Mod_findLines 52 = .ok (.goto 4, 3) := by decide +kernel
theorem d_Mod_findLines_55 : decode b_Mod_findLines 55 = .ok (.iconst 0, 1) := by decide +kernel
theorem d_Mod_findLines_56 : decode b_Mod_findLines 56 = .ok (.istore 5, 2) := by decide +kernel
theorem d_Mod_findLines_58 : decode b_Mod_findLines 58 = .ok (.iload 4, 2) := by decide +kernel
theorem d_Mod_findLines_60 : decode b_Mod_findLines 60 = .ok (.bipush 10, 2) := by decide +kernel
theorem d_Mod_findLines_62 : decode b_Mod_findLines 62 = .ok (.if_icmp .eq 17, 3) := by decide +kernel
theorem d_Mod_findLines_65 : decode b_Mod_findLines 65 = .ok (.iload 4, 2) := by decide +kernel
theorem d_Mod_findLines_67 : decode b_Mod_findLines 67 = .ok (.bipush 13, 2) := by decide +kernel
theorem d_Mod_findLines_69 : decode b_Mod_findLines 69 = .ok (.if_icmp .ne 15, 3) := by decide +kernel
theorem d_Mod_findLines_72 : decode b_Mod_findLines 72 = .ok (.iload 5, 2) := by decide +kernel
theorem d_Mod_findLines_74 : decode b_Mod_findLines 74 = .ok (.bipush 10, 2) := by decide +kernel
theorem d_Mod_findLines_76 : decode b_Mod_findLines 76 = .ok (.if_icmp .eq 8, 3) := by decide +kernel
theorem d_Mod_findLines_79 : decode b_Mod_findLines 79 = .ok (.aload_n 0, 1) := by decide +kernel
theorem d_Mod_findLines_80 : decode b_Mod_findLines 80 = .ok (.iload_n 3, 1) := by decide +kernel
theorem d_Mod_findLines_81 : decode b_Mod_findLines 81 = .ok (.invokevirtual 76, 3) := by decide +kernel
theorem d_Mod_findLines_84 : decode b_Mod_findLines 84 = .ok (.iinc 3 1, 3) := by decide +kernel
theorem d_Mod_findLines_87 : decode b_Mod_findLines 87 = .ok (.goto (-73), 3) := by decide +kernel
theorem d_Mod_findLines_90 : decode b_Mod_findLines 90 = .ok (.return_, 1) := by decide +kernel
theorem d_Mod_findItems_0 : decode b_Mod_findItems 0 = .ok (.aload_n 0, 1) := by decide +kernel
theorem d_Mod_findItems_1 : decode b_Mod_findItems 1 = .ok (.iconst 0, 1) := by decide +kernel
theorem d_Mod_findItems_2 : decode b_Mod_findItems 2 = .ok (.putfield 73, 3) := by decide +kernel
theorem d_Mod_findItems_5 : decode b_Mod_findItems 5 = .ok (.iload_n 2, 1) := by decide +kernel
theorem d_Mod_findItems_6 : decode b_Mod_findItems 6 = .ok (.ifCond .ne 29, 3) := by decide +kernel
theorem d_Mod_findItems_9 : decode b_Mod_findItems 9 = .ok (.iconst 0, 1) := by decide +kernel
theorem d_Mod_findItems_10 : decode b_Mod_findItems 10 = .ok (.istore_n 3, 1) := by decide +kernel
theorem d_Mod_findItems_11 : decode b_Mod_findItems 11 = .ok (.iload_n 3, 1) := by decide +kernel
theorem d_Mod_findItems_12 : decode b_Mod_findItems 12 = .ok (.aload_n 0, 1) := by decide +kernel
theorem d_Mod_findItems_13 : decode b_Mod_findItems 13 = .ok (.getfield 13, 3) := by decide +kernel
theorem d_Mod_findItems_16 : decode b_Mod_findItems 16 = .ok (.iload_n 1, 1) := by decide +kernel
theorem d_Mod_findItems_17 : decode b_Mod_findItems 17 = .ok (.iaload, 1) := by decide +kernel
theorem d_Mod_findItems_18 : decode b_Mod_findItems 18 = .ok (.if_icmp .ge 14, 3) := by decide +kernel
theorem d_Mod_findItems_21 : decode b_Mod_findItems 21 = .ok (.aload_n 0, 1) := by decide +kernel
theorem d_Mod_findItems_22 : decode b_Mod_findItems 22 = .ok (.iload_n 3, 1) := by decide +kernel
theorem d_Mod_findItems_23 : decode b_Mod_findItems 23 = .ok (.invokevirtual 76, 3) := by decide +kernel
theorem d_Mod_findItems_26 : decode b_Mod_findItems 26 = .ok (.iinc 3 1, 3) := by decide +kernel
theorem d_Mod_findItems_29 : decode b_Mod_findItems 29 = .ok (.goto (-18), 3) := by decide +kernel
theorem d_Mod_findItems_32 : decode b_Mod_findItems 32 = .ok (.goto 64, 3) := by decide +kernel
theorem d_Mod_findItems_35 : decode b_Mod_findItems 35 = .ok (.iload_n 2, 1) := by decide +kernel
theorem d_Mod_findItems_36 : decode b_Mod_findItems 36 = .ok (.iconst 2, 1) := by decide +kernel
theorem d_Mod_findItems_37 : decode b_Mod_findItems 37 = .ok (.if_icmp .ne 11, 3) := by decide +kernel
theorem d_Mod_findItems_40 : decode b_Mod_findItems 40 = .ok (.aload_n 0, 1) := by decide +kernel
theorem d_Mod_findItems_41 : decode b_Mod_findItems 41 = .ok (.iload_n 1, 1) := by decide +kernel
theorem d_Mod_findItems_42 : decode b_Mod_findItems 42 = .ok (.invokevirtual 80, 3) := by decide +kernel
theorem d_Mod_findItems_45 : decode b_Mod_findItems 45 = .ok (.goto 51, 3) := by decide +kernel
theorem d_Mod_findItems_48 : decode b_Mod_findItems 48 = .ok (.aload_n 0, 1) := by decide +kernel
theorem d_Mod_findItems_49 : decode b_Mod_findItems 49 = .ok (.iload_n 1, 1) := by decide +kernel
theorem d_Mod_findItems_50 : decode b_Mod_findItems 50 = .ok (.invokevirtual 83, 3) := by decide +kernel
theorem d_Mod_findItems_53 : decode b_Mod_findItems 53 = .ok (.iconst 0, 1) := by decide +kernel
theorem d_Mod_findItems_54 : decode b_Mod_findItems 54 = .ok (.istore_n 3, 1) := by decide +kernel
theorem d_Mod_findItems_55 : decode b_Mod_findItems 55 = .ok (.iload_n 3, 1) := by decide +kernel
theorem d_Mod_findItems_56 : decode b_Mod_findItems 56 = .ok (.aload_n 0, 1) := by decide +kernel
theorem d_Mod_findItems_57 : decode b_Mod_findItems 57 = .ok (.getfield 51, 3) := by decide +kernel
theorem d_Mod_findItems_60 : decode b_Mod_findItems 60 = .ok (.if_icmp .ge 36, 3) := by decide +kernel
theorem d_Mod_findItems_63 : decode b_Mod_findItems 63 = .ok (.iload_n 2, 1) := by decide +kernel
theorem d_Mod_findItems_64 : decode b_Mod_findItems 64 = .ok (.iconst 1, 1) := by decide +kernel
theorem d_Mod_findItems_65 : decode b_Mod_findItems 65 = .ok (.if_icmp .eq 15, 3) := by decide +kernel
theorem d_Mod_findItems_68 : decode b_Mod_findItems 68 = .ok (.iload_n 3, 1) := by decide +kernel
theorem d_Mod_findItems_69 : decode b_Mod_findItems 69 = .ok (.ifCond .eq 11, 3) := by decide +kernel
theorem d_Mod_findItems_72 : decode b_Mod_findItems 72 = .ok (.aload_n 0, 1) := by decide +kernel
theorem d_Mod_findItems_73 : decode b_Mod_findItems 73 = .ok (.iload_n 3, 1) := by decide +kernel
theorem d_Mod_findItems_74 : decode b_Mod_findItems 74 = .ok (.invokevirtual 86, 3) := by decide +kernel
theorem d_Mod_findItems_77 : decode b_Mod_findItems 77 = .ok (.ifCond .ne 13, 3) := by decide +kernel
theorem d_Mod_findItems_80 : decode b_Mod_findItems 80 = .ok (.aload_n 0, 1) := by decide +kernel
theorem d_Mod_findItems_81 : decode b_Mod_findItems 81 = .ok (.aload_n 0, 1) := by decide +kernel
theorem d_Mod_findItems_82 : decode b_Mod_findItems 82 = .ok (.getfield 30, 3) := by decide +kernel
theorem d_Mod_findItems_85 : decode b_Mod_findItems 85 = .ok (.iload_n 3, 1) := by decide +kernel
theorem d_Mod_findItems_86 : decode b_Mod_findItems 86 = .ok (.iaload, 1) := by decide +kernel
theorem d_Mod_findItems_87 : decode b_Mod_findItems 87 = .ok (.invokevirtual 76, 3) := by decide +kernel
theorem d_Mod_findItems_90 : decode b_Mod_findItems 90 = .ok (.iinc 3 1, 3) := by decide +kernel
theorem d_Mod_findItems_93 : decode b_Mod_findItems 93 = .ok (.goto (-38), 3) := by decide +kernel
theorem d_Mod_findItems_96 : decode b_Mod_findItems 96 = .ok (.aload_n 0, 1) := by decide +kernel
theorem d_Mod_findItems_97 : decode b_Mod_findItems 97 = .ok (.getfield 36, 3) := by decide +kernel
theorem d_Mod_findItems_100 : decode b_Mod_findItems 100 = .ok (.aload_n 0, 1) := by decide +kernel
theorem d_Mod_findItems_101 : decode b_Mod_findItems 101 = .ok (.getfield 73, 3) := by decide +kernel
theorem d_Mod_findItems_104 : decode b_Mod_findItems 104 = .ok (.aload_n 0, 1) := by decide +kernel
theorem d_Mod_findItems_105 : decode b_Mod_findItems 105 = .ok (.getfield 13, 3) := by decide +kernel
theorem d_Mod_findItems_108 : decode b_Mod_findItems 108 = .ok (.iload_n 1, 1) := by decide +kernel
theorem d_Mod_findItems_109 : decode b_Mod_findItems 109 = .ok (.iaload, 1) := by decide +kernel
theorem d_Mod_findItems_110 : decode b_Mod_findItems 110 = .ok (.iastore, 1) := by decide +kernel
theorem d_Mod_findItems_111 : decode b_Mod_findItems 111 = .ok (.return_, 1) := by decide +kernel
theorem d_Mod_lets_0 : decode b_Mod_lets 0 = .ok (.aload_n 0, 1) := by decide +kernel
theorem d_Mod_lets_1 : decode b_Mod_lets 1 = .ok (.getfield 89, 3) := by decide +kernel
theorem d_Mod_lets_4 : decode b_Mod_lets 4 = .ok (.ifCond .ne 7, 3) := by decide +kernel
theorem d_Mod_lets_7 : decode b_Mod_lets 7 = .ok (.iconst 1, 1) := by decide +kernel
theorem d_Mod_lets_8 : decode b_Mod_lets 8 = .ok (.goto 4, 3) := by decide +kernel
theorem d_Mod_lets_11 : decode b_Mod_lets 11 = .ok (.iconst 0, 1) := by decide +kernel
theorem d_Mod_lets_12 : decode b_Mod_lets 12 = .ok (.istore_n 2, 1) := by decide +kernel
theorem d_Mod_lets_13 : decode b_Mod_lets 13 = .ok (.aload_n 0, 1) := by decide +kernel
theorem d_Mod_lets_14 : decode b_Mod_lets 14 = .ok (.aload_n 0, 1) := by decide +kernel
theorem d_Mod_lets_15 : decode b_Mod_lets 15 = .ok (.getfield 48, 3) := by decide +kernel
theorem d_Mod_lets_18 : decode b_Mod_lets 18 = .ok (.aload_n 0, 1) := by decide +kernel
theorem d_Mod_lets_19 : decode b_Mod_lets 19 = .ok (.getfield 89, 3) := by decide +kernel
theorem d_Mod_lets_22 : decode b_Mod_lets 22 = .ok (.invokevirtual 92, 3) := by decide +kernel
theorem d_Mod_lets_25 : decode b_Mod_lets 25 = .ok (.iconst 0, 1) := by decide +kernel
theorem d_Mod_lets_26 : decode b_Mod_lets 26 = .ok (.istore_n 3, 1) := by decide +kernel
theorem d_Mod_lets_27 : decode b_Mod_lets 27 = .ok (.iload_n 3, 1) := by decide +kernel
theorem d_Mod_lets_28 : decode b_Mod_lets 28 = .ok (.aload_n 0, 1) := by decide +kernel
theorem d_Mod_lets_29 : decode b_Mod_lets 29 = .ok (.getfield 73, 3) := by decide +kernel
theorem d_Mod_lets_32 : decode b_Mod_lets 32 = .ok (.if_icmp .gt 29, 3) := by decide +kernel
theorem d_Mod_lets_35 : decode b_Mod_lets 35 = .ok (.iload_n 2, 1) := by decide +kernel
theorem d_Mod_lets_36 : decode b_Mod_lets 36 = .ok (.ifCond .ne 13, 3) := by decide +kernel
theorem d_Mod_lets_39 : decode b_Mod_lets 39 = .ok (.aload_n 0, 1) := by decide +kernel
theorem d_Mod_lets_40 : decode b_Mod_lets 40 = .ok (.getfield 36, 3) := by decide +kernel
theorem d_Mod_lets_43 : decode b_Mod_lets 43 = .ok (.iload_n 3, 1) := by decide +kernel
theorem d_Mod_lets_44 : decode b_Mod_lets 44 = .ok (.iaload, 1) := by decide +kernel
theorem d_Mod_lets_45 : decode b_Mod_lets 45 = .ok (.iload_n 1, 1) := by decide +kernel
theorem d_Mod_lets_46 : decode b_Mod_lets 46 = .ok (.if_icmp .ne 7, 3) := by decide +kernel
theorem d_Mod_lets_49 : decode b_Mod_lets 49 = .ok (.iconst 1, 1) := by decide +kernel
theorem d_Mod_lets_50 : decode b_Mod_lets 50 = .ok (.goto 4, 3) := by decide +kernel
theorem d_Mod_lets_53 : decode b_Mod_lets 53 = .ok (.iconst 0, 1) := by decide +kernel
theorem d_Mod_lets_54 : decode b_Mod_lets 54 = .ok (.istore_n 2, 1) := by decide +kernel
theorem d_Mod_lets_55 : decode b_Mod_lets 55 = .ok (.iinc 3 1, 3) := by decide +kernel
theorem d_Mod_lets_58 : decode b_Mod_lets 58 = .ok (.goto (-31), 3) := by decide +kernel
theorem d_Mod_lets_61 : decode b_Mod_lets 61 = .ok (.iload_n 2, 1) := by decide +kernel
theorem d_Mod_lets_62 : decode b_Mod_lets 62 = .ok (.ireturn, 1) := by decide +kernel
theorem d_Mod_make_0 : decode b_Mod_make 0 = .ok (.aload_n 0, 1) := by decide +kernel
theorem d_Mod_make_1 : decode b_Mod_make 1 = .ok (.iconst 0, 1) := by decide +kernel
theorem d_Mod_make_2 : decode b_Mod_make 2 = .ok (.putfield 96, 3) := by decide +kernel
theorem d_Mod_make_5 : decode b_Mod_make 5 = .ok (.aload_n 0, 1) := by decide +kernel
theorem d_Mod_make_6 : decode b_Mod_make 6 = .ok (.getfield 13, 3) := by decide +kernel
theorem d_Mod_make_9 : decode b_Mod_make 9 = .ok (.aload_n 0, 1) := by decide +kernel
theorem d_Mod_make_10 : decode b_Mod_make 10 = .ok (.getfield 48, 3) := by decide +kernel
theorem d_Mod_make_13 : decode b_Mod_make 13 = .ok (.iaload, 1) := by decide +kernel
theorem d_Mod_make_14 : decode b_Mod_make 14 = .ok (.istore 4, 2) := by decide +kernel
theorem d_Mod_make_16 : decode b_Mod_make 16 = .ok (.iconst 0, 1) := by decide +kernel
theorem d_Mod_make_17 : decode b_Mod_make 17 = .ok (.istore 5, 2) := by decide +kernel
theorem d_Mod_make_19 : decode b_Mod_make 19 = .ok (.iload 5, 2) := by decide +kernel
theorem d_Mod_make_21 : decode b_Mod_make 21 = .ok (.iload_n 1, 1) := by decide +kernel
theorem d_Mod_make_22 : decode b_Mod_make 22 = .ok (.if_icmp .ge 44, 3) := by decide +kernel
theorem d_Mod_make_25 : decode b_Mod_make 25 = .ok (.aload_n 0, 1) := by decide +kernel
theorem d_Mod_make_26 : decode b_Mod_make 26 = .ok (.getfield 27, 3) := by decide +kernel
theorem d_Mod_make_29 : decode b_Mod_make 29 = .ok (.aload_n 0, 1) := by decide +kernel
theorem d_Mod_make_30 : decode b_Mod_make 30 = .ok (.getfield 96, 3) := by decide +kernel
theorem d_Mod_make_33 : decode b_Mod_make 33 = .ok (.aload_n 0, 1) := by decide +kernel
theorem d_Mod_make_34 : decode b_Mod_make 34 = .ok (.getfield 7, 3) := by decide +kernel
theorem d_Mod_make_37 : decode b_Mod_make 37 = .ok (.sipush 160, 3) := by decide +kernel
theorem d_Mod_make_40 : decode b_Mod_make 40 = .ok (.aload_n 0, 1) := by decide +kernel
theorem d_Mod_make_41 : decode b_Mod_make 41 = .ok (.getfield 48, 3) := by decide +kernel
theorem d_Mod_make_44 : decode b_Mod_make 44 = .ok (.imul, 1) := by decide +kernel
theorem d_Mod_make_45 : decode b_Mod_make 45 = .ok (.iload 5, 2) := by decide +kernel
theorem d_Mod_make_47 : decode b_Mod_make 47 = .ok (.iadd, 1) := by decide +kernel
theorem d_Mod_make_48 : decode b_Mod_make 48 = .ok (.iaload, 1) := by decide +kernel
theorem d_Mod_make_49 : decode b_Mod_make 49 = .ok (.iastore, 1) := by decide +kernel
theorem d_Mod_make_50 : decode b_Mod_make 50 = .ok (.aload_n 0, 1) := by decide +kernel
theorem d_Mod_make_51 : decode b_Mod_make 51 = .ok (.dup, 1) := by decide +kernel
theorem d_Mod_make_52 : decode b_Mod_make 52 = .ok (.getfield 96, 3) := by decide +kernel
theorem d_Mod_make_55 : decode b_Mod_make 55 = .ok (.iconst 1, 1) := by decide +kernel
theorem d_Mod_make_56 : decode b_Mod_make 56 = .ok (.iadd, 1) := by decide +kernel
theorem d_Mod_make_57 : decode b_Mod_make 57 = .ok (.putfield 96, 3) := by decide +kernel
theorem d_Mod_make_60 : decode b_Mod_make 60 = .ok (.iinc 5 1, 3) := by decide +kernel
theorem d_Mod_make_63 : decode b_Mod_make 63 = .ok (.goto (-44), 3) := by decide +kernel
theorem d_Mod_make_66 : decode b_Mod_make 66 = .ok (.iconst 0, 1) := by decide +kernel
theorem d_Mod_make_67 : decode b_Mod_make 67 = .ok (.istore 5, 2) := by decide +kernel
theorem d_Mod_make_69 : decode b_Mod_make 69 = .ok (.iload 5, 2) := by decide +kernel
theorem d_Mod_make_71 : decode b_Mod_make 71 = .ok (.iload_n 3, 1) := by decide +kernel
theorem d_Mod_make_72 : decode b_Mod_make 72 = .ok (.if_icmp .ge 35, 3) := by decide +kernel
theorem d_Mod_make_75 : decode b_Mod_make 75 = .ok (.aload_n 0, 1) := by decide +kernel
theorem d_Mod_make_76 : decode b_Mod_make 76 = .ok (.getfield 27, 3) := by decide +kernel
theorem d_Mod_make_79 : decode b_Mod_make 79 = .ok (.aload_n 0, 1) := by decide +kernel
theorem d_Mod_make_80 : decode b_Mod_make 80 = .ok (.getfield 96, 3) := by decide +kernel
theorem d_Mod_make_83 : decode b_Mod_make 83 = .ok (.aload_n 0, 1) := by decide +kernel
theorem d_Mod_make_84 : decode b_Mod_make 84 = .ok (.getfield 20, 3) := by decide +kernel
theorem d_Mod_make_87 : decode b_Mod_make 87 = .ok (.iload 5, 2) := by decide +kernel
theorem d_Mod_make_89 : decode b_Mod_make 89 = .ok (.iaload, 1) := by decide +kernel
theorem d_Mod_make_90 : decode b_Mod_make 90 = .ok (.iastore, 1) := by decide +kernel
theorem d_Mod_make_91 : decode b_Mod_make 91 = .ok (.aload_n 0, 1) := by decide +kernel
theorem d_Mod_make_92 : decode b_Mod_make 92 = .ok (.dup, 1) := by decide +kernel
theorem d_Mod_make_93 : decode b_Mod_make 93 = .ok (.getfield 96, 3) := by decide +kernel
theorem d_Mod_make_96 : decode b_Mod_make 96 = .ok (.iconst 1, 1) := by decide +kernel
theorem d_Mod_make_97 : decode b_Mod_make 97 = .ok (.iadd, 1) := by decide +kernel
theorem d_Mod_make_98 : decode b_Mod_make 98 = .ok (.putfield 96, 3) := by decide +kernel
theorem d_Mod_make_101 : decode b_Mod_make 101 = .ok (.iinc 5 1, 3) := by decide +kernel
theorem d_Mod_make_104 : decode b_Mod_make 104 = .ok (.goto (-35), 3) := by decide +kernel
theorem d_Mod_make_107 : decode b_Mod_make 107 = .ok (.iload_n 2, 1) := by decide +kernel
theorem d_Mod_make_108 : decode b_Mod_make 108 = .ok (.istore 5, 2) := by decide +kernel
theorem d_Mod_make_110 : decode b_Mod_make 110 = .ok (.iload 5, 2) := by decide +kernel
theorem d_Mod_make_112 : decode b_Mod_make 112 = .ok (.iload 4, 2) := by decide +kernel
theorem d_Mod_make_114 : decode b_Mod_make 114 = .ok (.if_icmp .ge 44, 3) := by decide +kernel
theorem d_Mod_make_117 : decode b_Mod_make 117 = .ok (.aload_n 0, 1) := by decide +kernel
theorem d_Mod_make_118 : decode b_Mod_make 118 = .ok (.getfield 27, 3) := by decide +kernel
theorem d_Mod_make_121 : decode b_Mod_make 121 = .ok (.aload_n 0, 1) := by decide +kernel
theorem d_Mod_make_122 : decode b_Mod_make 122 = .ok (.getfield 96, 3) := by decide +kernel
theorem d_Mod_make_125 : decode b_Mod_make 125 = .ok (.aload_n 0, 1) := by decide +kernel
theorem d_Mod_make_126 : decode b_Mod_make 126 = .ok (.getfield 7, 3) := by decide +kernel
theorem d_Mod_make_129 : decode b_Mod_make 129 = .ok (.sipush 160, 3) := by decide +kernel
theorem d_Mod_make_132 : decode b_Mod_make 132 = .ok (.aload_n 0, 1) := by decide +kernel
theorem d_Mod_make_133 : decode b_Mod_make 133 = .ok (.getfield 48, 3) := by decide +kernel
theorem d_Mod_make_136 : decode b_Mod_make 136 = .ok (.imul, 1) := by decide +kernel
theorem d_Mod_make_137 : decode b_Mod_make 137 = .ok (.iload 5, 2) := by decide +kernel
theorem d_Mod_make_139 : decode b_Mod_make 139 = .ok (.iadd, 1) := by decide +kernel
theorem d_Mod_make_140 : decode b_Mod_make 140 = .ok (.iaload, 1) := by decide +kernel
theorem d_Mod_make_141 : decode b_Mod_make 141 = .ok (.iastore, 1) := by decide +kernel
theorem d_Mod_make_142 : decode b_Mod_make 142 = .ok (.aload_n 0, 1) := by decide +kernel
theorem d_Mod_make_143 : decode b_Mod_make 143 = .ok (.dup, 1) := by decide +kernel
theorem d_Mod_make_144 : decode b_Mod_make 144 = .ok (.getfield 96, 3) := by decide +kernel
theorem d_Mod_make_147 : decode b_Mod_make 147 = .ok (.iconst 1, 1) := by decide +kernel
theorem d_Mod_make_148 : decode b_Mod_make 148 = .ok (.iadd, 1) := by decide +kernel
theorem d_Mod_make_149 : decode b_Mod_make 149 = .ok (.putfield 96, 3) := by decide +kernel
theorem d_Mod_make_152 : decode b_Mod_make 152 = .ok (.iinc 5 1, 3) := by decide +kernel
theorem d_Mod_make_155 : decode b_Mod_make 155 = .ok (.goto (-45), 3) := by decide +kernel
theorem d_Mod_make_158 : decode b_Mod_make 158 = .ok (.return_, 1) := by decide +kernel
theorem d_Mod_show_0 : decode b_Mod_show 0 = .ok (.iconst 0, 1) := by decide +kernel
theorem d_Mod_show_1 : decode b_Mod_show 1 = .ok (.istore_n 2, 1) := by decide +kernel
theorem d_Mod_show_2 : decode b_Mod_show 2 = .ok (.iload_n 2, 1) := by decide +kernel
theorem d_Mod_show_3 : decode b_Mod_show 3 = .ok (.aload_n 0, 1) := by decide +kernel
theorem d_Mod_show_4 : decode b_Mod_show 4 = .ok (.getfield 96, 3) := by decide +kernel
theorem d_Mod_show_7 : decode b_Mod_show 7 = .ok (.if_icmp .ge 27, 3) := by decide +kernel
theorem d_Mod_show_10 : decode b_Mod_show 10 = .ok (.aload_n 0, 1) := by decide +kernel
theorem d_Mod_show_11 : decode b_Mod_show 11 = .ok (.getfield 7, 3) := by decide +kernel
theorem d_Mod_show_14 : decode b_Mod_show 14 = .ok (.sipush 160, 3) := by decide +kernel
theorem d_Mod_show_17 : decode b_Mod_show 17 = .ok (.iload_n 1, 1) := by decide +kernel
theorem d_Mod_show_18 : decode b_Mod_show 18 = .ok (.imul, 1) := by decide +kernel
theorem d_Mod_show_19 : decode b_Mod_show 19 = .ok (.iload_n 2, 1) := by decide +kernel
theorem d_Mod_show_20 : decode b_Mod_show 20 = .ok (.iadd, 1) := by decide +kernel
theorem d_Mod_show_21 : decode b_Mod_show 21 = .ok (.aload_n 0, 1) := by decide +kernel
theorem d_Mod_show_22 : decode b_Mod_show 22 = .ok (.getfield 27, 3) := by decide +kernel
theorem d_Mod_show_25 : decode b_Mod_show 25 = .ok (.iload_n 2, 1) := by decide +kernel
theorem d_Mod_show_26 : decode b_Mod_show 26 = .ok (.iaload, 1) := by decide +kernel
theorem d_Mod_show_27 : decode b_Mod_show 27 = .ok (.iastore, 1) := by decide +kernel
theorem d_Mod_show_28 : decode b_Mod_show 28 = .ok (.iinc 2 1, 3) := by decide +kernel
theorem d_Mod_show_31 : decode b_Mod_show 31 = .ok (.goto (-29), 3) := by decide +kernel
theorem d_Mod_show_34 : decode b_Mod_show 34 = .ok (.aload_n 0, 1) := by decide +kernel
theorem d_Mod_show_35 : decode b_Mod_show 35 = .ok (.getfield 13, 3) := by decide +kernel
theorem d_Mod_show_38 : decode b_Mod_show 38 = .ok (.iload_n 1, 1) := by decide +kernel
theorem d_Mod_show_39 : decode b_Mod_show 39 = .ok (.aload_n 0, 1) := by decide +kernel
theorem d_Mod_show_40 : decode b_Mod_show 40 = .ok (.getfield 96, 3) := by decide +kernel
theorem d_Mod_show_43 : decode b_Mod_show 43 = .ok (.iastore, 1) := by decide +kernel
theorem d_Mod_show_44 : decode b_Mod_show 44 = .ok (.return_, 1) := by decide +kernel
theorem d_Mod_step_0 : decode b_Mod_step 0 = .ok (.aload_n 0, 1) := by decide +kernel
theorem d_Mod_step_1 : decode b_Mod_step 1 = .ok (.getfield 48, 3) := by decide +kernel
theorem d_Mod_step_4 : decode b_Mod_step 4 = .ok (.bipush 8, 2) := by decide +kernel
theorem d_Mod_step_6 : decode b_Mod_step 6 = .ok (.if_icmp .ne 31, 3) := by decide +kernel
theorem d_Mod_step_9 : decode b_Mod_step 9 = .ok (.iconst 0, 1) := by decide +kernel
theorem d_Mod_step_10 : decode b_Mod_step 10 = .ok (.istore_n 1, 1) := by decide +kernel
theorem d_Mod_step_11 : decode b_Mod_step 11 = .ok (.iload_n 1, 1) := by decide +kernel
theorem d_Mod_step_12 : decode b_Mod_step 12 = .ok (.bipush 8, 2) := by decide +kernel
theorem d_Mod_step_14 : decode b_Mod_step 14 = .ok (.if_icmp .ge 17, 3) := by decide +kernel
theorem d_Mod_step_17 : decode b_Mod_step 17 = .ok (.aload_n 0, 1) := by decide +kernel
theorem d_Mod_step_18 : decode b_Mod_step 18 = .ok (.iload_n 1, 1) := by decide +kernel
theorem d_Mod_step_19 : decode b_Mod_step 19 = .ok (.iconst 1, 1) := by decide +kernel
theorem d_Mod_step_20 : decode b_Mod_step 20 = .ok (.iadd, 1) := by decide +kernel
theorem d_Mod_step_21 : decode b_Mod_step 21 = .ok (.iload_n 1, 1) := by decide +kernel
theorem d_Mod_step_22 : decode b_Mod_step 22 = .ok (.invokevirtual 99, 3) := by decide +kernel
theorem d_Mod_step_25 : decode b_Mod_step 25 = .ok (.iinc 1 1, 3) := by decide +kernel
theorem d_Mod_step_28 : decode b_Mod_step 28 = .ok (.goto (-17), 3) := by decide +kernel
theorem d_Mod_step_31 : decode b_Mod_step 31 = .ok (.aload_n 0, 1) := by decide +kernel
theorem d_Mod_step_32 : decode b_Mod_step 32 = .ok (.bipush 7, 2) := by decide +kernel
theorem d_Mod_step_34 : decode b_Mod_step 34 = .ok (.putfield 48, 3) := by decide +kernel
theorem d_Mod_step_37 : decode b_Mod_step 37 = .ok (.aload_n 0, 1) := by decide +kernel
theorem d_Mod_step_38 : decode b_Mod_step 38 = .ok (.dup, 1) := by decide +kernel
theorem d_Mod_step_39 : decode b_Mod_step 39 = .ok (.getfield 48, 3) := by decide +kernel
theorem d_Mod_step_42 : decode b_Mod_step 42 = .ok (.iconst 1, 1) := by decide +kernel
theorem d_Mod_step_43 : decode b_Mod_step 43 = .ok (.iadd, 1) := by decide +kernel
theorem d_Mod_step_44 : decode b_Mod_step 44 = .ok (.putfield 48, 3) := by decide +kernel
theorem d_Mod_step_47 : decode b_Mod_step 47 = .ok (.aload_n 0, 1) := by decide +kernel
theorem d_Mod_step_48 : decode b_Mod_step 48 = .ok (.aload_n 0, 1) := by decide +kernel
theorem d_Mod_step_49 : decode b_Mod_step 49 = .ok (.getfield 48, 3) := by decide +kernel
theorem d_Mod_step_52 : decode b_Mod_step 52 = .ok (.putfield 102, 3) := by decide +kernel
theorem d_Mod_step_55 : decode b_Mod_step 55 = .ok (.aload_n 0, 1) := by decide +kernel
theorem d_Mod_step_56 : decode b_Mod_step 56 = .ok (.aload_n 0, 1) := by decide +kernel
theorem d_Mod_step_57 : decode b_Mod_step 57 = .ok (.getfield 48, 3) := by decide +kernel
theorem d_Mod_step_60 : decode b_Mod_step 60 = .ok (.invokevirtual 105, 3) := by decide +kernel
theorem d_Mod_step_63 : decode b_Mod_step 63 = .ok (.return_, 1) := by decide +kernel
theorem d_Mod_copy_0 : decode b_Mod_copy 0 = .ok (.iconst 0, 1) := by decide +kernel
theorem d_Mod_copy_1 : decode b_Mod_copy 1 = .ok (.istore_n 3, 1) := by decide +kernel
theorem d_Mod_copy_2 : decode b_Mod_copy 2 = .ok (.iload_n 3, 1) := by decide +kernel
theorem d_Mod_copy_3 : decode b_Mod_copy 3 = .ok (.aload_n 0, 1) := by decide +kernel
theorem d_Mod_copy_4 : decode b_Mod_copy 4 = .ok (.getfield 13, 3) := by decide +kernel
theorem d_Mod_copy_7 : decode b_Mod_copy 7 = .ok (.iload_n 1, 1) := by decide +kernel
theorem d_Mod_copy_8 : decode b_Mod_copy 8 = .ok (.iaload, 1) := by decide +kernel
theorem d_Mod_copy_9 : decode b_Mod_copy 9 = .ok (.if_icmp .ge 33, 3) := by decide +kernel
theorem d_Mod_copy_12 : decode b_Mod_copy 12 = .ok (.aload_n 0, 1) := by decide +kernel
theorem d_Mod_copy_13 : decode b_Mod_copy 13 = .ok (.getfield 7, 3) := by decide +kernel
theorem d_Mod_copy_16 : decode b_Mod_copy 16 = .ok (.sipush 160, 3) := by decide +kernel
theorem d_Mod_copy_19 : decode b_Mod_copy 19 = .ok (.iload_n 2, 1) := by decide +kernel
theorem d_Mod_copy_20 : decode b_Mod_copy 20 = .ok (.imul, 1) := by decide +kernel
theorem d_Mod_copy_21 : decode b_Mod_copy 21 = .ok (.iload_n 3, 1) := by decide +kernel
theorem d_Mod_copy_22 : decode b_Mod_copy 22 = .ok (.iadd, 1) := by decide +kernel
theorem d_Mod_copy_23 : decode b_Mod_copy 23 = .ok (.aload_n 0, 1) := by decide +kernel
theorem d_Mod_copy_24 : decode b_Mod_copy 24 = .ok (.getfield 7, 3) := by decide +kernel
theorem d_Mod_copy_27 : decode b_Mod_copy 27 = .ok (.sipush 160, 3) := by decide +kernel
theorem d_Mod_copy_30 : decode b_Mod_copy 30 = .ok (.iload_n 1, 1) := by decide +kernel
theorem d_Mod_copy_31 : decode b_Mod_copy 31 = .ok (.imul, 1) := by decide +kernel
theorem d_Mod_copy_32 : decode b_Mod_copy 32 = .ok (.iload_n 3, 1) := by decide +kernel
theorem d_Mod_copy_33 : decode b_Mod_copy 33 = .ok (.iadd, 1) := by decide +kernel
theorem d_Mod_copy_34 : decode b_Mod_copy 34 = .ok (.iaload, 1) := by decide +kernel
theorem d_Mod_copy_35 : decode b_Mod_copy 35 = .ok (.iastore, 1) := by decide +kernel
theorem d_Mod_copy_36 : decode b_Mod_copy 36 = .ok (.iinc 3 1, 3) := by decide +kernel
theorem d_Mod_copy_39 : decode b_Mod_copy 39 = .ok (.goto (-37), 3) := by decide +kernel
theorem d_Mod_copy_42 : decode b_Mod_copy 42 = .ok (.aload_n 0, 1) := by decide +kernel
theorem d_Mod_copy_43 : decode b_Mod_copy 43 = .ok (.getfield 13, 3) := by decide +kernel
theorem d_Mod_copy_46 : decode b_Mod_copy 46 = .ok (.iload_n 2, 1) := by decide +kernel
theorem d_Mod_copy_47 : decode b_Mod_copy 47 = .ok (.aload_n 0, 1) := by decide +kernel
theorem d_Mod_copy_48 : decode b_Mod_copy 48 = .ok (.getfield 13, 3) := by decide +kernel
theorem d_Mod_copy_51 : decode b_Mod_copy 51 = .ok (.iload_n 1, 1) := by decide +kernel
theorem d_Mod_copy_52 : decode b_Mod_copy 52 = .ok (.iaload, 1) := by decide +kernel
theorem d_Mod_copy_53 : decode b_Mod_copy 53 = .ok (.iastore, 1) := by decide +kernel
theorem d_Mod_copy_54 : decode b_Mod_copy 54 = .ok (.return_, 1) := by decide +kernel
theorem d_Mod_isPlace_0 : decode b_Mod_isPlace 0 = .ok (.iload_n 1, 1) := by decide +kernel
theorem d_Mod_isPlace_1 : decode b_Mod_isPlace 1 = .ok (.ifCond .lt 20, 3) := by decide +kernel
theorem d_Mod_isPlace_4 : decode b_Mod_isPlace 4 = .ok (.iload_n 1, 1) := by decide +kernel
theorem d_Mod_isPlace_5 : decode b_Mod_isPlace 5 = .ok (.aload_n 0, 1) := by decide +kernel
theorem d_Mod_isPlace_6 : decode b_Mod_isPlace 6 = .ok (.getfield 13, 3) := by decide +kernel
theorem d_Mod_isPlace_9 : decode b_Mod_isPlace 9 = .ok (.aload_n 0, 1) := by decide +kernel
theorem d_Mod_isPlace_10 : decode b_Mod_isPlace 10 = .ok (.getfield 48, 3) := by decide +kernel
theorem d_Mod_isPlace_13 : decode b_Mod_isPlace 13 = .ok (.iaload, 1) := by decide +kernel
theorem d_Mod_isPlace_14 : decode b_Mod_isPlace 14 = .ok (.if_icmp .gt 7, 3) := by decide +kernel
theorem d_Mod_isPlace_17 : decode b_Mod_isPlace 17 = .ok (.iconst 1, 1) := by decide +kernel
theorem d_Mod_isPlace_18 : decode b_Mod_isPlace 18 = .ok (.goto 4, 3) := by decide +kernel
theorem d_Mod_isPlace_21 : decode b_Mod_isPlace 21 = .ok (.iconst 0, 1) := by decide +kernel
theorem d_Mod_isPlace_22 : decode b_Mod_isPlace 22 = .ok (.ireturn, 1) := by decide +kernel
theorem d_Mod_insert_0 : decode b_Mod_insert 0 = .ok (.aload_n 0, 1) := by decide +kernel
theorem d_Mod_insert_1 : decode b_Mod_insert 1 = .ok (.iload_n 1, 1) := by decide +kernel
theorem d_Mod_insert_2 : decode b_Mod_insert 2 = .ok (.invokevirtual 108, 3) := by decide +kernel
theorem d_Mod_insert_5 : decode b_Mod_insert 5 = .ok (.ifCond .eq 38, 3) := by decide +kernel
theorem d_Mod_insert_8 : decode b_Mod_insert 8 = .ok (.aload_n 0, 1) := by decide +kernel
theorem d_Mod_insert_9 : decode b_Mod_insert 9 = .ok (.getfield 45, 3) := by decide +kernel
theorem d_Mod_insert_12 : decode b_Mod_insert 12 = .ok (.ifCond .eq 31, 3) := by decide +kernel
theorem d_Mod_insert_15 : decode b_Mod_insert 15 = .ok (.aload_n 0, 1) := by decide +kernel
theorem d_Mod_insert_16 : decode b_Mod_insert 16 = .ok (.getfield 13, 3) := by decide +kernel
theorem d_Mod_insert_19 : decode b_Mod_insert 19 = .ok (.aload_n 0, 1) := by decide +kernel
theorem d_Mod_insert_20 : decode b_Mod_insert 20 = .ok (.getfield 48, 3) := by decide +kernel
theorem d_Mod_insert_23 : decode b_Mod_insert 23 = .ok (.iaload, 1) := by decide +kernel
theorem d_Mod_insert_24 : decode b_Mod_insert 24 = .ok (.aload_n 0, 1) := by decide +kernel
theorem d_Mod_insert_25 : decode b_Mod_insert 25 = .ok (.getfield 45, 3) := by decide +kernel
theorem d_Mod_insert_28 : decode b_Mod_insert 28 = .ok (.iadd, 1) := by decide +kernel
theorem d_Mod_insert_29 : decode b_Mod_insert 29 = .ok (.sipush 160, 3) := by decide +kernel
theorem d_Mod_insert_32 : decode b_Mod_insert 32 = .ok (.if_icmp .gt 11, 3) := by decide +kernel
theorem d_Mod_insert_35 : decode b_Mod_insert 35 = .ok (.aload_n 0, 1) := by decide +kernel
theorem d_Mod_insert_36 : decode b_Mod_insert 36 = .ok (.iload_n 1, 1) := by decide +kernel
theorem d_Mod_insert_37 : decode b_Mod_insert 37 = .ok (.invokevirtual 111, 3) := by decide +kernel
theorem d_Mod_insert_40 : decode b_Mod_insert 40 = .ok (.ifCond .ne 5, 3) := by decide +kernel
theorem d_Mod_insert_43 : decode b_Mod_insert 43 = .ok (.iconst 0, 1) := by decide +kernel
theorem d_Mod_insert_44 : decode b_Mod_insert 44 = .ok (.ireturn, 1) := by decide +kernel
end
section
theorem d_Mod_insert_45 : decode b_Mod_insert 45 = .ok (.aload_n 0, 1) := by decide +kernel
theorem d_Mod_insert_46 : decode b_Mod_insert 46 = .ok (.getfield 45, 3) := by decide +kernel
theorem d_Mod_insert_49 : decode b_Mod_insert 49 = .ok (.iconst 1, 1) := by decide +kernel
theorem d_Mod_insert_50 : decode b_Mod_insert 50 = .ok (.if_icmp .ne 29, 3) := by decide +kernel
theorem d_Mod_insert_53 : decode b_Mod_insert 53 = .ok (.aload_n 0, 1) := by decide +kernel
theorem d_Mod_insert_54 : decode b_Mod_insert 54 = .ok (.getfield 20, 3) := by decide +kernel
theorem d_Mod_insert_57 : decode b_Mod_insert 57 = .ok (.iconst 0, 1) := by decide +kernel
theorem d_Mod_insert_58 : decode b_Mod_insert 58 = .ok (.iaload, 1) := by decide +kernel
theorem d_Mod_insert_59 : decode b_Mod_insert 59 = .ok (.bipush 10, 2) := by decide +kernel
theorem d_Mod_insert_61 : decode b_Mod_insert 61 = .ok (.if_icmp .eq 18, 3) := by decide +kernel
theorem d_Mod_insert_64 : decode b_Mod_insert 64 = .ok (.aload_n 0, 1) := by decide +kernel
theorem d_Mod_insert_65 : decode b_Mod_insert 65 = .ok (.getfield 20, 3) := by decide +kernel
theorem d_Mod_insert_68 : decode b_Mod_insert 68 = .ok (.iconst 0, 1) := by decide +kernel
theorem d_Mod_insert_69 : decode b_Mod_insert 69 = .ok (.iaload, 1) := by decide +kernel
theorem d_Mod_insert_70 : decode b_Mod_insert 70 = .ok (.bipush 13, 2) := by decide +kernel
theorem d_Mod_insert_72 : decode b_Mod_insert 72 = .ok (.if_icmp .eq 7, 3) := by decide +kernel
theorem d_Mod_insert_75 : decode b_Mod_insert 75 = .ok (.iconst 1, 1) := by decide +kernel
theorem d_Mod_insert_76 : decode b_Mod_insert 76 = .ok (.goto 4, 3) := by decide +kernel
theorem d_Mod_insert_79 : decode b_Mod_insert 79 = .ok (.iconst 0, 1) := by decide +kernel
theorem d_Mod_insert_80 : decode b_Mod_insert 80 = .ok (.istore_n 2, 1) := by decide +kernel
theorem d_Mod_insert_81 : decode b_Mod_insert 81 = .ok (.aload_n 0, 1) := by decide +kernel
theorem d_Mod_insert_82 : decode b_Mod_insert 82 = .ok (.iload_n 1, 1) := by decide +kernel
theorem d_Mod_insert_83 : decode b_Mod_insert 83 = .ok (.iload_n 1, 1) := by decide +kernel
theorem d_Mod_insert_84 : decode b_Mod_insert 84 = .ok (.aload_n 0, 1) := by decide +kernel
theorem d_Mod_insert_85 : decode b_Mod_insert 85 = .ok (.getfield 45, 3) := by decide +kernel
theorem d_Mod_insert_88 : decode b_Mod_insert 88 = .ok (.invokevirtual 114, 3) := by decide +kernel
theorem d_Mod_insert_91 : decode b_Mod_insert 91 = .ok (.iload_n 2, 1) := by decide +kernel
theorem d_Mod_insert_92 : decode b_Mod_insert 92 = .ok (.ifCond .eq 22, 3) := by decide +kernel
theorem d_Mod_insert_95 : decode b_Mod_insert 95 = .ok (.aload_n 0, 1) := by decide +kernel
theorem d_Mod_insert_96 : decode b_Mod_insert 96 = .ok (.getfield 23, 3) := by decide +kernel
theorem d_Mod_insert_99 : decode b_Mod_insert 99 = .ok (.iload_n 1, 1) := by decide +kernel
theorem d_Mod_insert_100 : decode b_Mod_insert 100 = .ok (.if_icmp .ne 14, 3) := by decide +kernel
theorem d_Mod_insert_103 : decode b_Mod_insert 103 = .ok (.aload_n 0, 1) := by decide +kernel
theorem d_Mod_insert_104 : decode b_Mod_insert 104 = .ok (.aload_n 0, 1) := by decide +kernel
theorem d_Mod_insert_105 : decode b_Mod_insert 105 = .ok (.getfield 48, 3) := by decide +kernel
theorem d_Mod_insert_108 : decode b_Mod_insert 108 = .ok (.invokevirtual 105, 3) := by decide +kernel
theorem d_Mod_insert_111 : decode b_Mod_insert 111 = .ok (.goto 7, 3) := by decide +kernel
theorem d_Mod_insert_114 : decode b_Mod_insert 114 = .ok (.aload_n 0, 1) := by decide +kernel
theorem d_Mod_insert_115 : decode b_Mod_insert 115 = .ok (.invokevirtual 118, 3) := by decide +kernel
theorem d_Mod_insert_118 : decode b_Mod_insert 118 = .ok (.aload_n 0, 1) := by decide +kernel
theorem d_Mod_insert_119 : decode b_Mod_insert 119 = .ok (.iload_n 2, 1) := by decide +kernel
theorem d_Mod_insert_120 : decode b_Mod_insert 120 = .ok (.ifCond .eq 9, 3) := by decide +kernel
theorem d_Mod_insert_123 : decode b_Mod_insert 123 = .ok (.iload_n 1, 1) := by decide +kernel
theorem d_Mod_insert_124 : decode b_Mod_insert 124 = .ok (.iconst 1, 1) := by decide +kernel
theorem d_Mod_insert_125 : decode b_Mod_insert 125 = .ok (.iadd, 1) := by decide +kernel
theorem d_Mod_insert_126 : decode b_Mod_insert 126 = .ok (.goto 4, 3) := by decide +kernel
theorem d_Mod_insert_129 : decode b_Mod_insert 129 = .ok (.iconst (-1), 1) := by decide +kernel
theorem d_Mod_insert_130 : decode b_Mod_insert 130 = .ok (.putfield 23, 3) := by decide +kernel
theorem d_Mod_insert_133 : decode b_Mod_insert 133 = .ok (.iconst 1, 1) := by decide +kernel
theorem d_Mod_insert_134 : decode b_Mod_insert 134 = .ok (.ireturn, 1) := by decide +kernel
theorem d_Mod_remove_0 : decode b_Mod_remove 0 = .ok (.aload_n 0, 1) := by decide +kernel
theorem d_Mod_remove_1 : decode b_Mod_remove 1 = .ok (.iload_n 1, 1) := by decide +kernel
theorem d_Mod_remove_2 : decode b_Mod_remove 2 = .ok (.invokevirtual 108, 3) := by decide +kernel
theorem d_Mod_remove_5 : decode b_Mod_remove 5 = .ok (.ifCond .eq 32, 3) := by decide +kernel
theorem d_Mod_remove_8 : decode b_Mod_remove 8 = .ok (.aload_n 0, 1) := by decide +kernel
theorem d_Mod_remove_9 : decode b_Mod_remove 9 = .ok (.iload_n 2, 1) := by decide +kernel
theorem d_Mod_remove_10 : decode b_Mod_remove 10 = .ok (.invokevirtual 108, 3) := by decide +kernel
theorem d_Mod_remove_13 : decode b_Mod_remove 13 = .ok (.ifCond .eq 24, 3) := by decide +kernel
theorem d_Mod_remove_16 : decode b_Mod_remove 16 = .ok (.iload_n 1, 1) := by decide +kernel
theorem d_Mod_remove_17 : decode b_Mod_remove 17 = .ok (.iload_n 2, 1) := by decide +kernel
theorem d_Mod_remove_18 : decode b_Mod_remove 18 = .ok (.if_icmp .ge 19, 3) := by decide +kernel
theorem d_Mod_remove_21 : decode b_Mod_remove 21 = .ok (.aload_n 0, 1) := by decide +kernel
theorem d_Mod_remove_22 : decode b_Mod_remove 22 = .ok (.iload_n 1, 1) := by decide +kernel
theorem d_Mod_remove_23 : decode b_Mod_remove 23 = .ok (.invokevirtual 111, 3) := by decide +kernel
theorem d_Mod_remove_26 : decode b_Mod_remove 26 = .ok (.ifCond .eq 11, 3) := by decide +kernel
theorem d_Mod_remove_29 : decode b_Mod_remove 29 = .ok (.aload_n 0, 1) := by decide +kernel
theorem d_Mod_remove_30 : decode b_Mod_remove 30 = .ok (.iload_n 2, 1) := by decide +kernel
theorem d_Mod_remove_31 : decode b_Mod_remove 31 = .ok (.invokevirtual 111, 3) := by decide +kernel
theorem d_Mod_remove_34 : decode b_Mod_remove 34 = .ok (.ifCond .ne 5, 3) := by decide +kernel
theorem d_Mod_remove_37 : decode b_Mod_remove 37 = .ok (.iconst 0, 1) := by decide +kernel
theorem d_Mod_remove_38 : decode b_Mod_remove 38 = .ok (.ireturn, 1) := by decide +kernel
theorem d_Mod_remove_39 : decode b_Mod_remove 39 = .ok (.aload_n 0, 1) := by decide +kernel
theorem d_Mod_remove_40 : decode b_Mod_remove 40 = .ok (.iload_n 1, 1) := by decide +kernel
theorem d_Mod_remove_41 : decode b_Mod_remove 41 = .ok (.iload_n 2, 1) := by decide +kernel
theorem d_Mod_remove_42 : decode b_Mod_remove 42 = .ok (.iconst 0, 1) := by decide +kernel
theorem d_Mod_remove_43 : decode b_Mod_remove 43 = .ok (.invokevirtual 114, 3) := by decide +kernel
theorem d_Mod_remove_46 : decode b_Mod_remove 46 = .ok (.aload_n 0, 1) := by decide +kernel
theorem d_Mod_remove_47 : decode b_Mod_remove 47 = .ok (.invokevirtual 118, 3) := by decide +kernel
theorem d_Mod_remove_50 : decode b_Mod_remove 50 = .ok (.aload_n 0, 1) := by decide +kernel
theorem d_Mod_remove_51 : decode b_Mod_remove 51 = .ok (.iconst (-1), 1) := by decide +kernel
theorem d_Mod_remove_52 : decode b_Mod_remove 52 = .ok (.putfield 23, 3) := by decide +kernel
theorem d_Mod_remove_55 : decode b_Mod_remove 55 = .ok (.iconst 1, 1) := by decide +kernel
theorem d_Mod_remove_56 : decode b_Mod_remove 56 = .ok (.ireturn, 1) := by decide +kernel
theorem d_Mod_replace_0 : decode b_Mod_replace 0 = .ok (.aload_n 0, 1) := by decide +kernel
theorem d_Mod_replace_1 : decode b_Mod_replace 1 = .ok (.iload_n 1, 1) := by decide +kernel
theorem d_Mod_replace_2 : decode b_Mod_replace 2 = .ok (.invokevirtual 108, 3) := by decide +kernel
theorem d_Mod_replace_5 : decode b_Mod_replace 5 = .ok (.ifCond .eq 63, 3) := by decide +kernel
theorem d_Mod_replace_8 : decode b_Mod_replace 8 = .ok (.aload_n 0, 1) := by decide +kernel
theorem d_Mod_replace_9 : decode b_Mod_replace 9 = .ok (.iload_n 2, 1) := by decide +kernel
theorem d_Mod_replace_10 : decode b_Mod_replace 10 = .ok (.invokevirtual 108, 3) := by decide +kernel
theorem d_Mod_replace_13 : decode b_Mod_replace 13 = .ok (.ifCond .eq 55, 3) := by decide +kernel
theorem d_Mod_replace_16 : decode b_Mod_replace 16 = .ok (.iload_n 1, 1) := by decide +kernel
theorem d_Mod_replace_17 : decode b_Mod_replace 17 = .ok (.iload_n 2, 1) := by decide +kernel
theorem d_Mod_replace_18 : decode b_Mod_replace 18 = .ok (.if_icmp .gt 50, 3) := by decide +kernel
theorem d_Mod_replace_21 : decode b_Mod_replace 21 = .ok (.aload_n 0, 1) := by decide +kernel
theorem d_Mod_replace_22 : decode b_Mod_replace 22 = .ok (.getfield 45, 3) := by decide +kernel
theorem d_Mod_replace_25 : decode b_Mod_replace 25 = .ok (.ifCond .eq 43, 3) := by decide +kernel
theorem d_Mod_replace_28 : decode b_Mod_replace 28 = .ok (.aload_n 0, 1) := by decide +kernel
theorem d_Mod_replace_29 : decode b_Mod_replace 29 = .ok (.getfield 13, 3) := by decide +kernel
theorem d_Mod_replace_32 : decode b_Mod_replace 32 = .ok (.aload_n 0, 1) := by decide +kernel
theorem d_Mod_replace_33 : decode b_Mod_replace 33 = .ok (.getfield 48, 3) := by decide +kernel
theorem d_Mod_replace_36 : decode b_Mod_replace 36 = .ok (.iaload, 1) := by decide +kernel
theorem d_Mod_replace_37 : decode b_Mod_replace 37 = .ok (.iload_n 2, 1) := by decide +kernel
theorem d_Mod_replace_38 : decode b_Mod_replace 38 = .ok (.iload_n 1, 1) := by decide +kernel
theorem d_Mod_replace_39 : decode b_Mod_replace 39 = .ok (.isub, 1) := by decide +kernel
theorem d_Mod_replace_40 : decode b_Mod_replace 40 = .ok (.isub, 1) := by decide +kernel
theorem d_Mod_replace_41 : decode b_Mod_replace 41 = .ok (.aload_n 0, 1) := by decide +kernel
theorem d_Mod_replace_42 : decode b_Mod_replace 42 = .ok (.getfield 45, 3) := by decide +kernel
theorem d_Mod_replace_45 : decode b_Mod_replace 45 = .ok (.iadd, 1) := by decide +kernel
theorem d_Mod_replace_46 : decode b_Mod_replace 46 = .ok (.sipush 160, 3) := by decide +kernel
theorem d_Mod_replace_49 : decode b_Mod_replace 49 = .ok (.if_icmp .gt 19, 3) := by decide +kernel
theorem d_Mod_replace_52 : decode b_Mod_replace 52 = .ok (.aload_n 0, 1) := by decide +kernel
theorem d_Mod_replace_53 : decode b_Mod_replace 53 = .ok (.iload_n 1, 1) := by decide +kernel
theorem d_Mod_replace_54 : decode b_Mod_replace 54 = .ok (.invokevirtual 111, 3) := by decide +kernel
theorem d_Mod_replace_57 : decode b_Mod_replace 57 = .ok (.ifCond .eq 11, 3) := by decide +kernel
theorem d_Mod_replace_60 : decode b_Mod_replace 60 = .ok (.aload_n 0, 1) := by decide +kernel
theorem d_Mod_replace_61 : decode b_Mod_replace 61 = .ok (.iload_n 2, 1) := by decide +kernel
theorem d_Mod_replace_62 : decode b_Mod_replace 62 = .ok (.invokevirtual 111, 3) := by decide +kernel
theorem d_Mod_replace_65 : decode b_Mod_replace 65 = .ok (.ifCond .ne 5, 3) := by decide +kernel
theorem d_Mod_replace_68 : decode b_Mod_replace 68 = .ok (.iconst 0, 1) := by decide +kernel
theorem d_Mod_replace_69 : decode b_Mod_replace 69 = .ok (.ireturn, 1) := by decide +kernel
theorem d_Mod_replace_70 : decode b_Mod_replace 70 = .ok (.aload_n 0, 1) := by decide +kernel
theorem d_Mod_replace_71 : decode b_Mod_replace 71 = .ok (.iload_n 1, 1) := by decide +kernel
theorem d_Mod_replace_72 : decode b_Mod_replace 72 = .ok (.iload_n 2, 1) := by decide +kernel
theorem d_Mod_replace_73 : decode b_Mod_replace 73 = .ok (.aload_n 0, 1) := by decide +kernel
theorem d_Mod_replace_74 : decode b_Mod_replace 74 = .ok (.getfield 45, 3) := by decide +kernel
theorem d_Mod_replace_77 : decode b_Mod_replace 77 = .ok (.invokevirtual 114, 3) := by decide +kernel
theorem d_Mod_replace_80 : decode b_Mod_replace 80 = .ok (.aload_n 0, 1) := by decide +kernel
theorem d_Mod_replace_81 : decode b_Mod_replace 81 = .ok (.invokevirtual 118, 3) := by decide +kernel
theorem d_Mod_replace_84 : decode b_Mod_replace 84 = .ok (.aload_n 0, 1) := by decide +kernel
theorem d_Mod_replace_85 : decode b_Mod_replace 85 = .ok (.iconst (-1), 1) := by decide +kernel
theorem d_Mod_replace_86 : decode b_Mod_replace 86 = .ok (.putfield 23, 3) := by decide +kernel
theorem d_Mod_replace_89 : decode b_Mod_replace 89 = .ok (.iconst 1, 1) := by decide +kernel
theorem d_Mod_replace_90 : decode b_Mod_replace 90 = .ok (.ireturn, 1) := by decide +kernel
theorem d_Mod_undo_0 : decode b_Mod_undo 0 = .ok (.aload_n 0, 1) := by decide +kernel
theorem d_Mod_undo_1 : decode b_Mod_undo 1 = .ok (.getfield 48, 3) := by decide +kernel
theorem d_Mod_undo_4 : decode b_Mod_undo 4 = .ok (.ifCond .ne 5, 3) := by decide +kernel
theorem d_Mod_undo_7 : decode b_Mod_undo 7 = .ok (.iconst 0, 1) := by decide +kernel
theorem d_Mod_undo_8 : decode b_Mod_undo 8 = .ok (.ireturn, 1) := by decide +kernel
theorem d_Mod_undo_9 : decode b_Mod_undo 9 = .ok (.aload_n 0, 1) := by decide +kernel
theorem d_Mod_undo_10 : decode b_Mod_undo 10 = .ok (.dup, 1) := by decide +kernel
theorem d_Mod_undo_11 : decode b_Mod_undo 11 = .ok (.getfield 48, 3) := by decide +kernel
theorem d_Mod_undo_14 : decode b_Mod_undo 14 = .ok (.iconst 1, 1) := by decide +kernel
theorem d_Mod_undo_15 : decode b_Mod_undo 15 = .ok (.isub, 1) := by decide +kernel
theorem d_Mod_undo_16 : decode b_Mod_undo 16 = .ok (.putfield 48, 3) := by decide +kernel
theorem d_Mod_undo_19 : decode b_Mod_undo 19 = .ok (.aload_n 0, 1) := by decide +kernel
theorem d_Mod_undo_20 : decode b_Mod_undo 20 = .ok (.iconst (-1), 1) := by decide +kernel
theorem d_Mod_undo_21 : decode b_Mod_undo 21 = .ok (.putfield 23, 3) := by decide +kernel
theorem d_Mod_undo_24 : decode b_Mod_undo 24 = .ok (.iconst 1, 1) := by decide +kernel
theorem d_Mod_undo_25 : decode b_Mod_undo 25 = .ok (.ireturn, 1) := by decide +kernel
theorem d_Mod_redo_0 : decode b_Mod_redo 0 = .ok (.aload_n 0, 1) := by decide +kernel
theorem d_Mod_redo_1 : decode b_Mod_redo 1 = .ok (.getfield 48, 3) := by decide +kernel
theorem d_Mod_redo_4 : decode b_Mod_redo 4 = .ok (.aload_n 0, 1) := by decide +kernel
theorem d_Mod_redo_5 : decode b_Mod_redo 5 = .ok (.getfield 102, 3) := by decide +kernel
theorem d_Mod_redo_8 : decode b_Mod_redo 8 = .ok (.if_icmp .ne 5, 3) := by decide +kernel
theorem d_Mod_redo_11 : decode b_Mod_redo 11 = .ok (.iconst 0, 1) := by decide +kernel
theorem d_Mod_redo_12 : decode b_Mod_redo 12 = .ok (.ireturn, 1) := by decide +kernel
theorem d_Mod_redo_13 : decode b_Mod_redo 13 = .ok (.aload_n 0, 1) := by decide +kernel
theorem d_Mod_redo_14 : decode b_Mod_redo 14 = .ok (.dup, 1) := by decide +kernel
theorem d_Mod_redo_15 : decode b_Mod_redo 15 = .ok (.getfield 48, 3) := by decide +kernel
theorem d_Mod_redo_18 : decode b_Mod_redo 18 = .ok (.iconst 1, 1) := by decide +kernel
theorem d_Mod_redo_19 : decode b_Mod_redo 19 = .ok (.iadd, 1) := by decide +kernel
theorem d_Mod_redo_20 : decode b_Mod_redo 20 = .ok (.putfield 48, 3) := by decide +kernel
theorem d_Mod_redo_23 : decode b_Mod_redo 23 = .ok (.aload_n 0, 1) := by decide +kernel
theorem d_Mod_redo_24 : decode b_Mod_redo 24 = .ok (.iconst (-1), 1) := by decide +kernel
theorem d_Mod_redo_25 : decode b_Mod_redo 25 = .ok (.putfield 23, 3) := by decide +kernel
theorem d_Mod_redo_28 : decode b_Mod_redo 28 = .ok (.iconst 1, 1) := by decide +kernel
theorem d_Mod_redo_29 : decode b_Mod_redo 29 = .ok (.ireturn, 1) := by decide +kernel
theorem d_Mod_steps_0 : decode b_Mod_steps 0 = .ok (.iload_n 1, 1) := by decide +kernel
theorem d_Mod_steps_1 : decode b_Mod_steps 1 = .ok (.ifCond .ne 10, 3) := by decide +kernel
theorem d_Mod_steps_4 : decode b_Mod_steps 4 = .ok (.aload_n 0, 1) := by decide +kernel
theorem d_Mod_steps_5 : decode b_Mod_steps 5 = .ok (.getfield 48, 3) := by decide +kernel
theorem d_Mod_steps_8 : decode b_Mod_steps 8 = .ok (.goto 21, 3) := by decide +kernel
theorem d_Mod_steps_11 : decode b_Mod_steps 11 = .ok (.iload_n 1, 1) := by decide +kernel
theorem d_Mod_steps_12 : decode b_Mod_steps 12 = .ok (.iconst 1, 1) := by decide +kernel
theorem d_Mod_steps_13 : decode b_Mod_steps 13 = .ok (.if_icmp .ne 15, 3) := by decide +kernel
theorem d_Mod_steps_16 : decode b_Mod_steps 16 = .ok (.aload_n 0, 1) := by decide +kernel
theorem d_Mod_steps_17 : decode b_Mod_steps 17 = .ok (.getfield 102, 3) := by decide +kernel
theorem d_Mod_steps_20 : decode b_Mod_steps 20 = .ok (.aload_n 0, 1) := by decide +kernel
theorem d_Mod_steps_21 : decode b_Mod_steps 21 = .ok (.getfield 48, 3) := by decide +kernel
theorem d_Mod_steps_24 : decode b_Mod_steps 24 = .ok (.isub, 1) := by decide +kernel
theorem d_Mod_steps_25 : decode b_Mod_steps 25 = .ok (.goto 4, 3) := by decide +kernel
theorem d_Mod_steps_28 : decode b_Mod_steps 28 = .ok (.iconst (-1), 1) := by decide +kernel
theorem d_Mod_steps_29 : decode b_Mod_steps 29 = .ok (.ireturn, 1) := by decide +kernel
theorem d_Mod_seal_0 : decode b_Mod_seal 0 = .ok (.aload_n 0, 1) := by decide +kernel
theorem d_Mod_seal_1 : decode b_Mod_seal 1 = .ok (.iconst (-1), 1) := by decide +kernel
theorem d_Mod_seal_2 : decode b_Mod_seal 2 = .ok (.putfield 23, 3) := by decide +kernel
theorem d_Mod_seal_5 : decode b_Mod_seal 5 = .ok (.return_, 1) := by decide +kernel
theorem d_Mod_guard_0 : decode b_Mod_guard 0 = .ok (.iload_n 1, 1) := by decide +kernel
theorem d_Mod_guard_1 : decode b_Mod_guard 1 = .ok (.ifCond .eq 15, 3) := by decide +kernel
theorem d_Mod_guard_4 : decode b_Mod_guard 4 = .ok (.iload_n 1, 1) := by decide +kernel
theorem d_Mod_guard_5 : decode b_Mod_guard 5 = .ok (.iconst 1, 1) := by decide +kernel
theorem d_Mod_guard_6 : decode b_Mod_guard 6 = .ok (.if_icmp .eq 10, 3) := by decide +kernel
theorem d_Mod_guard_9 : decode b_Mod_guard 9 = .ok (.iload_n 1, 1) := by decide +kernel
theorem d_Mod_guard_10 : decode b_Mod_guard 10 = .ok (.iconst 3, 1) := by decide +kernel
theorem d_Mod_guard_11 : decode b_Mod_guard 11 = .ok (.if_icmp .eq 5, 3) := by decide +kernel
theorem d_Mod_guard_14 : decode b_Mod_guard 14 = .ok (.iconst 0, 1) := by decide +kernel
theorem d_Mod_guard_15 : decode b_Mod_guard 15 = .ok (.ireturn, 1) := by decide +kernel
theorem d_Mod_guard_16 : decode b_Mod_guard 16 = .ok (.aload_n 0, 1) := by decide +kernel
theorem d_Mod_guard_17 : decode b_Mod_guard 17 = .ok (.iload_n 1, 1) := by decide +kernel
theorem d_Mod_guard_18 : decode b_Mod_guard 18 = .ok (.putfield 89, 3) := by decide +kernel
theorem d_Mod_guard_21 : decode b_Mod_guard 21 = .ok (.aload_n 0, 1) := by decide +kernel
theorem d_Mod_guard_22 : decode b_Mod_guard 22 = .ok (.iconst (-1), 1) := by decide +kernel
theorem d_Mod_guard_23 : decode b_Mod_guard 23 = .ok (.putfield 23, 3) := by decide +kernel
theorem d_Mod_guard_26 : decode b_Mod_guard 26 = .ok (.iconst 1, 1) := by decide +kernel
theorem d_Mod_guard_27 : decode b_Mod_guard 27 = .ok (.ireturn, 1) := by decide +kernel
theorem d_Mod_snapshot_0 : decode b_Mod_snapshot 0 = .ok (.iconst 1, 1) := by decide +kernel
theorem d_Mod_snapshot_1 : decode b_Mod_snapshot 1 = .ok (.istore_n 1, 1) := by decide +kernel
theorem d_Mod_snapshot_2 : decode b_Mod_snapshot 2 = .ok (.iload_n 1, 1) := by decide +kernel
theorem d_Mod_snapshot_3 : decode b_Mod_snapshot 3 = .ok (.iconst 4, 1) := by decide +kernel
theorem d_Mod_snapshot_4 : decode b_Mod_snapshot 4 = .ok (.if_icmp .gt 18, 3) := by decide +kernel
theorem d_Mod_snapshot_7 : decode b_Mod_snapshot 7 = .ok (.aload_n 0, 1) := by decide +kernel
theorem d_Mod_snapshot_8 : decode b_Mod_snapshot 8 = .ok (.getfield 16, 3) := by decide +kernel
theorem d_Mod_snapshot_11 : decode b_Mod_snapshot 11 = .ok (.iload_n 1, 1) := by decide +kernel
theorem d_Mod_snapshot_12 : decode b_Mod_snapshot 12 = .ok (.baload, 1) := by decide +kernel
theorem d_Mod_snapshot_13 : decode b_Mod_snapshot 13 = .ok (.ifCond .eq 9, 3) := by decide +kernel
theorem d_Mod_snapshot_16 : decode b_Mod_snapshot 16 = .ok (.iinc 1 1, 3) := by decide +kernel
theorem d_Mod_snapshot_19 : decode b_Mod_snapshot 19 = .ok (.goto (-17), 3) := by decide +kernel
theorem d_Mod_snapshot_22 : decode b_Mod_snapshot 22 = .ok (.iload_n 1, 1) := by decide +kernel
theorem d_Mod_snapshot_23 : decode b_Mod_snapshot 23 = .ok (.iconst 4, 1) := by decide +kernel
theorem d_Mod_snapshot_24 : decode b_Mod_snapshot 24 = .ok (.if_icmp .le 5, 3) := by decide +kernel
theorem d_Mod_snapshot_27 : decode b_Mod_snapshot 27 = .ok (.iconst (-1), 1) := by decide +kernel
theorem d_Mod_snapshot_28 : decode b_Mod_snapshot 28 = .ok (.ireturn, 1) := by decide +kernel
theorem d_Mod_snapshot_29 : decode b_Mod_snapshot 29 = .ok (.aload_n 0, 1) := by decide +kernel
theorem d_Mod_snapshot_30 : decode b_Mod_snapshot 30 = .ok (.getfield 16, 3) := by decide +kernel
theorem d_Mod_snapshot_33 : decode b_Mod_snapshot 33 = .ok (.iload_n 1, 1) := by decide +kernel
theorem d_Mod_snapshot_34 : decode b_Mod_snapshot 34 = .ok (.iconst 1, 1) := by decide +kernel
theorem d_Mod_snapshot_35 : decode b_Mod_snapshot 35 = .ok (.bastore, 1) := by decide +kernel
theorem d_Mod_snapshot_36 : decode b_Mod_snapshot 36 = .ok (.aload_n 0, 1) := by decide +kernel
theorem d_Mod_snapshot_37 : decode b_Mod_snapshot 37 = .ok (.aload_n 0, 1) := by decide +kernel
theorem d_Mod_snapshot_38 : decode b_Mod_snapshot 38 = .ok (.getfield 48, 3) := by decide +kernel
theorem d_Mod_snapshot_41 : decode b_Mod_snapshot 41 = .ok (.bipush 8, 2) := by decide +kernel
theorem d_Mod_snapshot_43 : decode b_Mod_snapshot 43 = .ok (.iload_n 1, 1) := by decide +kernel
theorem d_Mod_snapshot_44 : decode b_Mod_snapshot 44 = .ok (.iadd, 1) := by decide +kernel
theorem d_Mod_snapshot_45 : decode b_Mod_snapshot 45 = .ok (.invokevirtual 99, 3) := by decide +kernel
theorem d_Mod_snapshot_48 : decode b_Mod_snapshot 48 = .ok (.iload_n 1, 1) := by decide +kernel
theorem d_Mod_snapshot_49 : decode b_Mod_snapshot 49 = .ok (.ireturn, 1) := by decide +kernel
theorem d_Mod_release_0 : decode b_Mod_release 0 = .ok (.iload_n 1, 1) := by decide +kernel
theorem d_Mod_release_1 : decode b_Mod_release 1 = .ok (.iconst 1, 1) := by decide +kernel
theorem d_Mod_release_2 : decode b_Mod_release 2 = .ok (.if_icmp .lt 17, 3) := by decide +kernel
theorem d_Mod_release_5 : decode b_Mod_release 5 = .ok (.iload_n 1, 1) := by decide +kernel
theorem d_Mod_release_6 : decode b_Mod_release 6 = .ok (.iconst 4, 1) := by decide +kernel
theorem d_Mod_release_7 : decode b_Mod_release 7 = .ok (.if_icmp .gt 12, 3) := by decide +kernel
theorem d_Mod_release_10 : decode b_Mod_release 10 = .ok (.aload_n 0, 1) := by decide +kernel
theorem d_Mod_release_11 : decode b_Mod_release 11 = .ok (.getfield 16, 3) := by decide +kernel
theorem d_Mod_release_14 : decode b_Mod_release 14 = .ok (.iload_n 1, 1) := by decide +kernel
theorem d_Mod_release_15 : decode b_Mod_release 15 = .ok (.baload, 1) := by decide +kernel
theorem d_Mod_release_16 : decode b_Mod_release 16 = .ok (.ifCond .ne 5, 3) := by decide +kernel
theorem d_Mod_release_19 : decode b_Mod_release 19 = .ok (.iconst 0, 1) := by decide +kernel
theorem d_Mod_release_20 : decode b_Mod_release 20 = .ok (.ireturn, 1) := by decide +kernel
theorem d_Mod_release_21 : decode b_Mod_release 21 = .ok (.aload_n 0, 1) := by decide +kernel
theorem d_Mod_release_22 : decode b_Mod_release 22 = .ok (.getfield 16, 3) := by decide +kernel
theorem d_Mod_release_25 : decode b_Mod_release 25 = .ok (.iload_n 1, 1) := by decide +kernel
theorem d_Mod_release_26 : decode b_Mod_release 26 = .ok (.iconst 0, 1) := by decide +kernel
theorem d_Mod_release_27 : decode b_Mod_release 27 = .ok (.bastore, 1) := by decide +kernel
theorem d_Mod_release_28 : decode b_Mod_release 28 = .ok (.iconst 1, 1) := by decide +kernel
theorem d_Mod_release_29 : decode b_Mod_release 29 = .ok (.ireturn, 1) := by decide +kernel
theorem d_Mod_unit_0 : decode b_Mod_unit 0 = .ok (.aload_n 0, 1) := by decide +kernel
theorem d_Mod_unit_1 : decode b_Mod_unit 1 = .ok (.iload_n 1, 1) := by decide +kernel
theorem d_Mod_unit_2 : decode b_Mod_unit 2 = .ok (.invokevirtual 121, 3) := by decide +kernel
theorem d_Mod_unit_5 : decode b_Mod_unit 5 = .ok (.istore_n 3, 1) := by decide +kernel
theorem d_Mod_unit_6 : decode b_Mod_unit 6 = .ok (.iload_n 3, 1) := by decide +kernel
theorem d_Mod_unit_7 : decode b_Mod_unit 7 = .ok (.ifCond .lt 17, 3) := by decide +kernel
theorem d_Mod_unit_10 : decode b_Mod_unit 10 = .ok (.iload_n 2, 1) := by decide +kernel
theorem d_Mod_unit_11 : decode b_Mod_unit 11 = .ok (.ifCond .lt 13, 3) := by decide +kernel
theorem d_Mod_unit_14 : decode b_Mod_unit 14 = .ok (.iload_n 2, 1) := by decide +kernel
theorem d_Mod_unit_15 : decode b_Mod_unit 15 = .ok (.aload_n 0, 1) := by decide +kernel
theorem d_Mod_unit_16 : decode b_Mod_unit 16 = .ok (.getfield 13, 3) := by decide +kernel
theorem d_Mod_unit_19 : decode b_Mod_unit 19 = .ok (.iload_n 3, 1) := by decide +kernel
theorem d_Mod_unit_20 : decode b_Mod_unit 20 = .ok (.iaload, 1) := by decide +kernel
theorem d_Mod_unit_21 : decode b_Mod_unit 21 = .ok (.if_icmp .lt 7, 3) := by decide +kernel
theorem d_Mod_unit_24 : decode b_Mod_unit 24 = .ok (.iconst (-1), 1) := by decide +kernel
theorem d_Mod_unit_25 : decode b_Mod_unit 25 = .ok (.goto 15, 3) := by decide +kernel
theorem d_Mod_unit_28 : decode b_Mod_unit 28 = .ok (.aload_n 0, 1) := by decide +kernel
theorem d_Mod_unit_29 : decode b_Mod_unit 29 = .ok (.getfield 7, 3) := by decide +kernel
theorem d_Mod_unit_32 : decode b_Mod_unit 32 = .ok (.sipush 160, 3) := by decide +kernel
theorem d_Mod_unit_35 : decode b_Mod_unit 35 = .ok (.iload_n 3, 1) := by decide +kernel
theorem d_Mod_unit_36 : decode b_Mod_unit 36 = .ok (.imul, 1) := by decide +kernel
theorem d_Mod_unit_37 : decode b_Mod_unit 37 = .ok (.iload_n 2, 1) := by decide +kernel
theorem d_Mod_unit_38 : decode b_Mod_unit 38 = .ok (.iadd, 1) := by decide +kernel
theorem d_Mod_unit_39 : decode b_Mod_unit 39 = .ok (.iaload, 1) := by decide +kernel
theorem d_Mod_unit_40 : decode b_Mod_unit 40 = .ok (.ireturn, 1) := by decide +kernel
theorem d_Mod_looks_0 : decode b_Mod_looks 0 = .ok (.aload_n 0, 1) := by decide +kernel
theorem d_Mod_looks_1 : decode b_Mod_looks 1 = .ok (.iload_n 1, 1) := by decide +kernel
theorem d_Mod_looks_2 : decode b_Mod_looks 2 = .ok (.invokevirtual 121, 3) := by decide +kernel
theorem d_Mod_looks_5 : decode b_Mod_looks 5 = .ok (.istore_n 3, 1) := by decide +kernel
theorem d_Mod_looks_6 : decode b_Mod_looks 6 = .ok (.iload_n 3, 1) := by decide +kernel
theorem d_Mod_looks_7 : decode b_Mod_looks 7 = .ok (.ifCond .lt 12, 3) := by decide +kernel
theorem d_Mod_looks_10 : decode b_Mod_looks 10 = .ok (.iload_n 2, 1) := by decide +kernel
theorem d_Mod_looks_11 : decode b_Mod_looks 11 = .ok (.ifCond .lt 8, 3) := by decide +kernel
theorem d_Mod_looks_14 : decode b_Mod_looks 14 = .ok (.iload_n 2, 1) := by decide +kernel
theorem d_Mod_looks_15 : decode b_Mod_looks 15 = .ok (.iconst 3, 1) := by decide +kernel
theorem d_Mod_looks_16 : decode b_Mod_looks 16 = .ok (.if_icmp .le 5, 3) := by decide +kernel
theorem d_Mod_looks_19 : decode b_Mod_looks 19 = .ok (.iconst 0, 1) := by decide +kernel
theorem d_Mod_looks_20 : decode b_Mod_looks 20 = .ok (.ireturn, 1) := by decide +kernel
theorem d_Mod_looks_21 : decode b_Mod_looks 21 = .ok (.aload_n 0, 1) := by decide +kernel
theorem d_Mod_looks_22 : decode b_Mod_looks 22 = .ok (.iload_n 3, 1) := by decide +kernel
theorem d_Mod_looks_23 : decode b_Mod_looks 23 = .ok (.iload_n 2, 1) := by decide +kernel
theorem d_Mod_looks_24 : decode b_Mod_looks 24 = .ok (.invokevirtual 92, 3) := by decide +kernel
theorem d_Mod_looks_27 : decode b_Mod_looks 27 = .ok (.iconst 1, 1) := by decide +kernel
theorem d_Mod_looks_28 : decode b_Mod_looks 28 = .ok (.ireturn, 1) := by decide +kernel
theorem d_Mod_count_0 : decode b_Mod_count 0 = .ok (.aload_n 0, 1) := by decide +kernel
theorem d_Mod_count_1 : decode b_Mod_count 1 = .ok (.iload_n 1, 1) := by decide +kernel
theorem d_Mod_count_2 : decode b_Mod_count 2 = .ok (.iload_n 2, 1) := by decide +kernel
theorem d_Mod_count_3 : decode b_Mod_count 3 = .ok (.invokevirtual 125, 3) := by decide +kernel
theorem d_Mod_count_6 : decode b_Mod_count 6 = .ok (.ifCond .eq 10, 3) := by decide +kernel
theorem d_Mod_count_9 : decode b_Mod_count 9 = .ok (.aload_n 0, 1) := by decide +kernel
theorem d_Mod_count_10 : decode b_Mod_count 10 = .ok (.getfield 73, 3) := by decide +kernel
theorem d_Mod_count_13 : decode b_Mod_count 13 = .ok (.goto 4, 3) := by decide +kernel
theorem d_Mod_count_16 : decode b_Mod_count 16 = .ok (.iconst (-1), 1) := by decide +kernel
theorem d_Mod_count_17 : decode b_Mod_count 17 = .ok (.ireturn, 1) := by decide +kernel
theorem d_Mod_place_0 : decode b_Mod_place 0 = .ok (.aload_n 0, 1) := by decide +kernel
theorem d_Mod_place_1 : decode b_Mod_place 1 = .ok (.iload_n 1, 1) := by decide +kernel
theorem d_Mod_place_2 : decode b_Mod_place 2 = .ok (.iload_n 2, 1) := by decide +kernel
theorem d_Mod_place_3 : decode b_Mod_place 3 = .ok (.invokevirtual 125, 3) := by decide +kernel
theorem d_Mod_place_6 : decode b_Mod_place 6 = .ok (.ifCond .eq 24, 3) := by decide +kernel
theorem d_Mod_place_9 : decode b_Mod_place 9 = .ok (.iload_n 3, 1) := by decide +kernel
theorem d_Mod_place_10 : decode b_Mod_place 10 = .ok (.ifCond .lt 20, 3) := by decide +kernel
theorem d_Mod_place_13 : decode b_Mod_place 13 = .ok (.iload_n 3, 1) := by decide +kernel
theorem d_Mod_place_14 : decode b_Mod_place 14 = .ok (.aload_n 0, 1) := by decide +kernel
theorem d_Mod_place_15 : decode b_Mod_place 15 = .ok (.getfield 73, 3) := by decide +kernel
theorem d_Mod_place_18 : decode b_Mod_place 18 = .ok (.if_icmp .gt 12, 3) := by decide +kernel
theorem d_Mod_place_21 : decode b_Mod_place 21 = .ok (.aload_n 0, 1) := by decide +kernel
theorem d_Mod_place_22 : decode b_Mod_place 22 = .ok (.getfield 36, 3) := by decide +kernel
theorem d_Mod_place_25 : decode b_Mod_place 25 = .ok (.iload_n 3, 1) := by decide +kernel
theorem d_Mod_place_26 : decode b_Mod_place 26 = .ok (.iaload, 1) := by decide +kernel
theorem d_Mod_place_27 : decode b_Mod_place 27 = .ok (.goto 4, 3) := by decide +kernel
theorem d_Mod_place_30 : decode b_Mod_place 30 = .ok (.iconst (-1), 1) := by decide +kernel
theorem d_Mod_place_31 : decode b_Mod_place 31 = .ok (.ireturn, 1) := by decide +kernel
theorem d_Mod_item_0 : decode b_Mod_item 0 = .ok (.aload_n 0, 1) := by decide +kernel
theorem d_Mod_item_1 : decode b_Mod_item 1 = .ok (.iload_n 1, 1) := by decide +kernel
theorem d_Mod_item_2 : decode b_Mod_item 2 = .ok (.iload_n 2, 1) := by decide +kernel
theorem d_Mod_item_3 : decode b_Mod_item 3 = .ok (.invokevirtual 125, 3) := by decide +kernel
theorem d_Mod_item_6 : decode b_Mod_item 6 = .ok (.ifCond .eq 20, 3) := by decide +kernel
theorem d_Mod_item_9 : decode b_Mod_item 9 = .ok (.iload_n 3, 1) := by decide +kernel
theorem d_Mod_item_10 : decode b_Mod_item 10 = .ok (.ifCond .lt 16, 3) := by decide +kernel
theorem d_Mod_item_13 : decode b_Mod_item 13 = .ok (.iload_n 3, 1) := by decide +kernel
theorem d_Mod_item_14 : decode b_Mod_item 14 = .ok (.aload_n 0, 1) := by decide +kernel
theorem d_Mod_item_15 : decode b_Mod_item 15 = .ok (.getfield 36, 3) := by decide +kernel
theorem d_Mod_item_18 : decode b_Mod_item 18 = .ok (.aload_n 0, 1) := by decide +kernel
theorem d_Mod_item_19 : decode b_Mod_item 19 = .ok (.getfield 73, 3) := by decide +kernel
theorem d_Mod_item_22 : decode b_Mod_item 22 = .ok (.iaload, 1) := by decide +kernel
theorem d_Mod_item_23 : decode b_Mod_item 23 = .ok (.if_icmp .le 5, 3) := by decide +kernel
theorem d_Mod_item_26 : decode b_Mod_item 26 = .ok (.iconst (-1), 1) := by decide +kernel
theorem d_Mod_item_27 : decode b_Mod_item 27 = .ok (.ireturn, 1) := by decide +kernel
theorem d_Mod_item_28 : decode b_Mod_item 28 = .ok (.iconst 0, 1) := by decide +kernel
theorem d_Mod_item_29 : decode b_Mod_item 29 = .ok (.istore 4, 2) := by decide +kernel
theorem d_Mod_item_31 : decode b_Mod_item 31 = .ok (.iload 4, 2) := by decide +kernel
theorem d_Mod_item_33 : decode b_Mod_item 33 = .ok (.iconst 1, 1) := by decide +kernel
theorem d_Mod_item_34 : decode b_Mod_item 34 = .ok (.iadd, 1) := by decide +kernel
theorem d_Mod_item_35 : decode b_Mod_item 35 = .ok (.aload_n 0, 1) := by decide +kernel
theorem d_Mod_item_36 : decode b_Mod_item 36 = .ok (.getfield 73, 3) := by decide +kernel
theorem d_Mod_item_39 : decode b_Mod_item 39 = .ok (.if_icmp .ge 22, 3) := by decide +kernel
theorem d_Mod_item_42 : decode b_Mod_item 42 = .ok (.aload_n 0, 1) := by decide +kernel
theorem d_Mod_item_43 : decode b_Mod_item 43 = .ok (.getfield 36, 3) := by decide +kernel
theorem d_Mod_item_46 : decode b_Mod_item 46 = .ok (.iload 4, 2) := by decide +kernel
theorem d_Mod_item_48 : decode b_Mod_item 48 = .ok (.iconst 1, 1) := by decide +kernel
theorem d_Mod_item_49 : decode b_Mod_item 49 = .ok (.iadd, 1) := by decide +kernel
theorem d_Mod_item_50 : decode b_Mod_item 50 = .ok (.iaload, 1) := by decide +kernel
theorem d_Mod_item_51 : decode b_Mod_item 51 = .ok (.iload_n 3, 1) := by decide +kernel
theorem d_Mod_item_52 : decode b_Mod_item 52 = .ok (.if_icmp .gt 9, 3) := by decide +kernel
theorem d_Mod_item_55 : decode b_Mod_item 55 = .ok (.iinc 4 1, 3) := by decide +kernel
theorem d_Mod_item_58 : decode b_Mod_item 58 = .ok (.goto (-27), 3) := by decide +kernel
theorem d_Mod_item_61 : decode b_Mod_item 61 = .ok (.iload_n 2, 1) := by decide +kernel
theorem d_Mod_item_62 : decode b_Mod_item 62 = .ok (.iconst 2, 1) := by decide +kernel
theorem d_Mod_item_63 : decode b_Mod_item 63 = .ok (.if_icmp .eq 23, 3) := by decide +kernel
theorem d_Mod_item_66 : decode b_Mod_item 66 = .ok (.iload_n 3, 1) := by decide +kernel
theorem d_Mod_item_67 : decode b_Mod_item 67 = .ok (.aload_n 0, 1) := by decide +kernel
theorem d_Mod_item_68 : decode b_Mod_item 68 = .ok (.getfield 36, 3) := by decide +kernel
theorem d_Mod_item_71 : decode b_Mod_item 71 = .ok (.aload_n 0, 1) := by decide +kernel
theorem d_Mod_item_72 : decode b_Mod_item 72 = .ok (.getfield 73, 3) := by decide +kernel
theorem d_Mod_item_75 : decode b_Mod_item 75 = .ok (.iaload, 1) := by decide +kernel
theorem d_Mod_item_76 : decode b_Mod_item 76 = .ok (.if_icmp .ne 10, 3) := by decide +kernel
theorem d_Mod_item_79 : decode b_Mod_item 79 = .ok (.aload_n 0, 1) := by decide +kernel
theorem d_Mod_item_80 : decode b_Mod_item 80 = .ok (.getfield 73, 3) := by decide +kernel
theorem d_Mod_item_83 : decode b_Mod_item 83 = .ok (.goto 5, 3) := by decide +kernel
theorem d_Mod_item_86 : decode b_Mod_item 86 = .ok (.iload 4, 2) := by decide +kernel
theorem d_Mod_item_88 : decode b_Mod_item 88 = .ok (.ireturn, 1) := by decide +kernel
theorem d_Mod_same_0 : decode b_Mod_same 0 = .ok (.aload_n 0, 1) := by decide +kernel
theorem d_Mod_same_1 : decode b_Mod_same 1 = .ok (.iload_n 1, 1) := by decide +kernel
theorem d_Mod_same_2 : decode b_Mod_same 2 = .ok (.invokevirtual 121, 3) := by decide +kernel
theorem d_Mod_same_5 : decode b_Mod_same 5 = .ok (.istore_n 3, 1) := by decide +kernel
theorem d_Mod_same_6 : decode b_Mod_same 6 = .ok (.aload_n 0, 1) := by decide +kernel
theorem d_Mod_same_7 : decode b_Mod_same 7 = .ok (.iload_n 2, 1) := by decide +kernel
theorem d_Mod_same_8 : decode b_Mod_same 8 = .ok (.invokevirtual 121, 3) := by decide +kernel
theorem d_Mod_same_11 : decode b_Mod_same 11 = .ok (.istore 4, 2) := by decide +kernel
theorem d_Mod_same_13 : decode b_Mod_same 13 = .ok (.iload_n 3, 1) := by decide +kernel
theorem d_Mod_same_14 : decode b_Mod_same 14 = .ok (.ifCond .lt 28, 3) := by decide +kernel
theorem d_Mod_same_17 : decode b_Mod_same 17 = .ok (.iload 4, 2) := by decide +kernel
theorem d_Mod_same_19 : decode b_Mod_same 19 = .ok (.ifCond .lt 23, 3) := by decide +kernel
theorem d_Mod_same_22 : decode b_Mod_same 22 = .ok (.aload_n 0, 1) := by decide +kernel
theorem d_Mod_same_23 : decode b_Mod_same 23 = .ok (.getfield 13, 3) := by decide +kernel
theorem d_Mod_same_26 : decode b_Mod_same 26 = .ok (.iload_n 3, 1) := by decide +kernel
theorem d_Mod_same_27 : decode b_Mod_same 27 = .ok (.iaload, 1) := by decide +kernel
theorem d_Mod_same_28 : decode b_Mod_same 28 = .ok (.aload_n 0, 1) := by decide +kernel
theorem d_Mod_same_29 : decode b_Mod_same 29 = .ok (.getfield 13, 3) := by decide +kernel
theorem d_Mod_same_32 : decode b_Mod_same 32 = .ok (.iload 4, 2) := by decide +kernel
theorem d_Mod_same_34 : decode b_Mod_same 34 = .ok (.iaload, 1) := by decide +kernel
theorem d_Mod_same_35 : decode b_Mod_same 35 = .ok (.if_icmp .ne 7, 3) := by decide +kernel
theorem d_Mod_same_38 : decode b_Mod_same 38 = .ok (.iconst 1, 1) := by decide +kernel
theorem d_Mod_same_39 : decode b_Mod_same 39 = .ok (.goto 4, 3) := by decide +kernel
theorem d_Mod_same_42 : decode b_Mod_same 42 = .ok (.iconst 0, 1) := by decide +kernel
theorem d_Mod_same_43 : decode b_Mod_same 43 = .ok (.istore 5, 2) := by decide +kernel
theorem d_Mod_same_45 : decode b_Mod_same 45 = .ok (.iconst 0, 1) := by decide +kernel
theorem d_Mod_same_46 : decode b_Mod_same 46 = .ok (.istore 6, 2) := by decide +kernel
theorem d_Mod_same_48 : decode b_Mod_same 48 = .ok (.iload 5, 2) := by decide +kernel
theorem d_Mod_same_50 : decode b_Mod_same 50 = .ok (.ifCond .eq 57, 3) := by decide +kernel
theorem d_Mod_same_53 : decode b_Mod_same 53 = .ok (.iload 6, 2) := by decide +kernel
theorem d_Mod_same_55 : decode b_Mod_same 55 = .ok (.aload_n 0, 1) := by decide +kernel
theorem d_Mod_same_56 : decode b_Mod_same 56 = .ok (.getfield 13, 3) := by decide +kernel
theorem d_Mod_same_59 : decode b_Mod_same 59 = .ok (.iload_n 3, 1) := by decide +kernel
theorem d_Mod_same_60 : decode b_Mod_same 60 = .ok (.iaload, 1) := by decide +kernel
theorem d_Mod_same_61 : decode b_Mod_same 61 = .ok (.if_icmp .ge 46, 3) := by decide +kernel
theorem d_Mod_same_64 : decode b_Mod_same 64 = .ok (.aload_n 0, 1) := by decide +kernel
theorem d_Mod_same_65 : decode b_Mod_same 65 = .ok (.getfield 7, 3) := by decide +kernel
theorem d_Mod_same_68 : decode b_Mod_same 68 = .ok (.sipush 160, 3) := by decide +kernel
theorem d_Mod_same_71 : decode b_Mod_same 71 = .ok (.iload_n 3, 1) := by decide +kernel
theorem d_Mod_same_72 : decode b_Mod_same 72 = .ok (.imul, 1) := by decide +kernel
theorem d_Mod_same_73 : decode b_Mod_same 73 = .ok (.iload 6, 2) := by decide +kernel
theorem d_Mod_same_75 : decode b_Mod_same 75 = .ok (.iadd, 1) := by decide +kernel
theorem d_Mod_same_76 : decode b_Mod_same 76 = .ok (.iaload, 1) := by decide +kernel
theorem d_Mod_same_77 : decode b_Mod_same 77 = .ok (.aload_n 0, 1) := by decide +kernel
theorem d_Mod_same_78 : decode b_Mod_same 78 = .ok (.getfield 7, 3) := by decide +kernel
theorem d_Mod_same_81 : decode b_Mod_same 81 = .ok (.sipush 160, 3) := by decide +kernel
theorem d_Mod_same_84 : decode b_Mod_same 84 = .ok (.iload 4, 2) := by decide +kernel
theorem d_Mod_same_86 : decode b_Mod_same 86 = .ok (.imul, 1) := by decide +kernel
theorem d_Mod_same_87 : decode b_Mod_same 87 = .ok (.iload 6, 2) := by decide +kernel
theorem d_Mod_same_89 : decode b_Mod_same 89 = .ok (.iadd, 1) := by decide +kernel
theorem d_Mod_same_90 : decode b_Mod_same 90 = .ok (.iaload, 1) := by decide +kernel
theorem d_Mod_same_91 : decode b_Mod_same 91 = .ok (.if_icmp .ne 7, 3) := by decide +kernel
theorem d_Mod_same_94 : decode b_Mod_same 94 = .ok (.iconst 1, 1) := by decide +kernel
theorem d_Mod_same_95 : decode b_Mod_same 95 = .ok (.goto 4, 3) := by decide +kernel
theorem d_Mod_same_98 : decode b_Mod_same 98 = .ok (.iconst 0, 1) := by decide +kernel
theorem d_Mod_same_99 : decode b_Mod_same 99 = .ok (.istore 5, 2) := by decide +kernel
theorem d_Mod_same_101 : decode b_Mod_same 101 = .ok (.iinc 6 1, 3) := by decide +kernel
theorem d_Mod_same_104 : decode b_Mod_same 104 = .ok (.goto (-56), 3) := by decide +kernel
theorem d_Mod_same_107 : decode b_Mod_same 107 = .ok (.iload 5, 2) := by decide +kernel
theorem d_Mod_same_109 : decode b_Mod_same 109 = .ok (.ireturn, 1) := by decide +kernel
theorem d_Mod_isPattern_0 : decode b_Mod_isPattern 0 = .ok (.aload_n 0, 1) := by decide +kernel
theorem d_Mod_isPattern_1 : decode b_Mod_isPattern 1 = .ok (.getfield 45, 3) := by decide +kernel
theorem d_Mod_isPattern_4 : decode b_Mod_isPattern 4 = .ok (.ifCond .le 7, 3) := by decide +kernel
theorem d_Mod_isPattern_7 : decode b_Mod_isPattern 7 = .ok (.iconst 1, 1) := by decide +kernel
theorem d_Mod_isPattern_8 : decode b_Mod_isPattern 8 = .ok (.goto 4, 3) := by decide +kernel
theorem d_Mod_isPattern_11 : decode b_Mod_isPattern 11 = .ok (.iconst 0, 1) := by decide +kernel
theorem d_Mod_isPattern_12 : decode b_Mod_isPattern 12 = .ok (.istore_n 1, 1) := by decide +kernel
theorem d_Mod_isPattern_13 : decode b_Mod_isPattern 13 = .ok (.iconst 0, 1) := by decide +kernel
theorem d_Mod_isPattern_14 : decode b_Mod_isPattern 14 = .ok (.istore_n 2, 1) := by decide +kernel
theorem d_Mod_isPattern_15 : decode b_Mod_isPattern 15 = .ok (.iload_n 2, 1) := by decide +kernel
theorem d_Mod_isPattern_16 : decode b_Mod_isPattern 16 = .ok (.aload_n 0, 1) := by decide +kernel
theorem d_Mod_isPattern_17 : decode b_Mod_isPattern 17 = .ok (.getfield 45, 3) := by decide +kernel
theorem d_Mod_isPattern_20 : decode b_Mod_isPattern 20 = .ok (.if_icmp .ge 47, 3) := by decide +kernel
theorem d_Mod_isPattern_23 : decode b_Mod_isPattern 23 = .ok (.iload_n 1, 1) := by decide +kernel
theorem d_Mod_isPattern_24 : decode b_Mod_isPattern 24 = .ok (.ifCond .eq 35, 3) := by decide +kernel
theorem d_Mod_isPattern_27 : decode b_Mod_isPattern 27 = .ok (.aload_n 0, 1) := by decide +kernel
theorem d_Mod_isPattern_28 : decode b_Mod_isPattern 28 = .ok (.getfield 20, 3) := by decide +kernel
theorem d_Mod_isPattern_31 : decode b_Mod_isPattern 31 = .ok (.iload_n 2, 1) := by decide +kernel
theorem d_Mod_isPattern_32 : decode b_Mod_isPattern 32 = .ok (.iaload, 1) := by decide +kernel
theorem d_Mod_isPattern_33 : decode b_Mod_isPattern 33 = .ok (.bipush 42, 2) := by decide +kernel
theorem d_Mod_isPattern_35 : decode b_Mod_isPattern 35 = .ok (.if_icmp .ne 20, 3) := by decide +kernel
theorem d_Mod_isPattern_38 : decode b_Mod_isPattern 38 = .ok (.iload_n 2, 1) := by decide +kernel
theorem d_Mod_isPattern_39 : decode b_Mod_isPattern 39 = .ok (.ifCond .le 20, 3) := by decide +kernel
theorem d_Mod_isPattern_42 : decode b_Mod_isPattern 42 = .ok (.aload_n 0, 1) := by decide +kernel
theorem d_Mod_isPattern_43 : decode b_Mod_isPattern 43 = .ok (.getfield 20, 3) := by decide +kernel
theorem d_Mod_isPattern_46 : decode b_Mod_isPattern 46 = .ok (.iload_n 2, 1) := by decide +kernel
theorem d_Mod_isPattern_47 : decode b_Mod_isPattern 47 = .ok (.iconst 1, 1) := by decide +kernel
theorem d_Mod_isPattern_48 : decode b_Mod_isPattern 48 = .ok (.isub, 1) := by decide +kernel
theorem d_Mod_isPattern_49 : decode b_Mod_isPattern 49 = .ok (.iaload, 1) := by decide +kernel
theorem d_Mod_isPattern_50 : decode b_Mod_isPattern 50 = .ok (.bipush 42, 2) := by decide +kernel
theorem d_Mod_isPattern_52 : decode b_Mod_isPattern 52 = .ok (.if_icmp .eq 7, 3) := by decide +kernel
theorem d_Mod_isPattern_55 : decode b_Mod_isPattern 55 = .ok (.iconst 1, 1) := by decide +kernel
theorem d_Mod_isPattern_56 : decode b_Mod_isPattern 56 = .ok (.goto 4, 3) := by decide +kernel
theorem d_Mod_isPattern_59 : decode b_Mod_isPattern 59 = .ok (.iconst 0, 1) := by decide +kernel
theorem d_Mod_isPattern_60 : decode b_Mod_isPattern 60 = .ok (.istore_n 1, 1) := by decide +kernel
theorem d_Mod_isPattern_61 : decode b_Mod_isPattern 61 = .ok (.iinc 2 1, 3) := by decide +kernel
theorem d_Mod_isPattern_64 : decode b_Mod_isPattern 64 = .ok (.goto (-49), 3) := by decide +kernel
theorem d_Mod_isPattern_67 : decode b_Mod_isPattern 67 = .ok (.iload_n 1, 1) := by decide +kernel
theorem d_Mod_isPattern_68 : decode b_Mod_isPattern 68 = .ok (.ireturn, 1) := by decide +kernel
theorem d_Mod_stands_0 : decode b_Mod_stands 0 = .ok (.iload_n 0, 1) := by decide +kernel
theorem d_Mod_stands_1 : decode b_Mod_stands 1 = .ok (.bipush 46, 2) := by decide +kernel
theorem d_Mod_stands_3 : decode b_Mod_stands 3 = .ok (.if_icmp .ne 23, 3) := by decide +kernel
theorem d_Mod_stands_6 : decode b_Mod_stands 6 = .ok (.iload_n 1, 1) := by decide +kernel
theorem d_Mod_stands_7 : decode b_Mod_stands 7 = .ok (.bipush 10, 2) := by decide +kernel
theorem d_Mod_stands_9 : decode b_Mod_stands 9 = .ok (.if_icmp .eq 13, 3) := by decide +kernel
theorem d_Mod_stands_12 : decode b_Mod_stands 12 = .ok (.iload_n 1, 1) := by decide +kernel
theorem d_Mod_stands_13 : decode b_Mod_stands 13 = .ok (.bipush 13, 2) := by decide +kernel
theorem d_Mod_stands_15 : decode b_Mod_stands 15 = .ok (.if_icmp .eq 7, 3) := by decide +kernel
theorem d_Mod_stands_18 : decode b_Mod_stands 18 = .ok (.iconst 1, 1) := by decide +kernel
theorem d_Mod_stands_19 : decode b_Mod_stands 19 = .ok (.goto 17, 3) := by decide +kernel
theorem d_Mod_stands_22 : decode b_Mod_stands 22 = .ok (.iconst 0, 1) := by decide +kernel
theorem d_Mod_stands_23 : decode b_Mod_stands 23 = .ok (.goto 13, 3) := by decide +kernel
theorem d_Mod_stands_26 : decode b_Mod_stands 26 = .ok (.iload_n 1, 1) := by decide +kernel
theorem d_Mod_stands_27 : decode b_Mod_stands 27 = .ok (.iload_n 0, 1) := by decide +kernel
theorem d_Mod_stands_28 : decode b_Mod_stands 28 = .ok (.if_icmp .ne 7, 3) := by decide +kernel
theorem d_Mod_stands_31 : decode b_Mod_stands 31 = .ok (.iconst 1, 1) := by decide +kernel
theorem d_Mod_stands_32 : decode b_Mod_stands 32 = .ok (.goto 4, 3) := by decide +kernel
theorem d_Mod_stands_35 : decode b_Mod_stands 35 = .ok (.iconst 0, 1) := by decide +kernel
theorem d_Mod_stands_36 : decode b_Mod_stands 36 = .ok (.ireturn, 1) := by decide +kernel
theorem d_Mod_match_0 : decode b_Mod_match 0 = .ok (.aload_n 0, 1) := by decide +kernel
theorem d_Mod_match_1 : decode b_Mod_match 1 = .ok (.getfield 13, 3) := by decide +kernel
theorem d_Mod_match_4 : decode b_Mod_match 4 = .ok (.iload_n 1, 1) := by decide +kernel
theorem d_Mod_match_5 : decode b_Mod_match 5 = .ok (.iaload, 1) := by decide +kernel
theorem d_Mod_match_6 : decode b_Mod_match 6 = .ok (.istore_n 3, 1) := by decide +kernel
theorem d_Mod_match_7 : decode b_Mod_match 7 = .ok (.iconst 0, 1) := by decide +kernel
theorem d_Mod_match_8 : decode b_Mod_match 8 = .ok (.istore 4, 2) := by decide +kernel
theorem d_Mod_match_10 : decode b_Mod_match 10 = .ok (.iload 4, 2) := by decide +kernel
theorem d_Mod_match_12 : decode b_Mod_match 12 = .ok (.iload_n 3, 1) := by decide +kernel
theorem d_Mod_match_13 : decode b_Mod_match 13 = .ok (.if_icmp .gt 27, 3) := by decide +kernel
theorem d_Mod_match_16 : decode b_Mod_match 16 = .ok (.aload_n 0, 1) := by decide +kernel
theorem d_Mod_match_17 : decode b_Mod_match 17 = .ok (.getfield 39, 3) := by decide +kernel
theorem d_Mod_match_20 : decode b_Mod_match 20 = .ok (.iload 4, 2) := by decide +kernel
theorem d_Mod_match_22 : decode b_Mod_match 22 = .ok (.iload 4, 2) := by decide +kernel
theorem d_Mod_match_24 : decode b_Mod_match 24 = .ok (.iload_n 2, 1) := by decide +kernel
theorem d_Mod_match_25 : decode b_Mod_match 25 = .ok (.if_icmp .ne 7, 3) := by decide +kernel
theorem d_Mod_match_28 : decode b_Mod_match 28 = .ok (.iconst 1, 1) := by decide +kernel
theorem d_Mod_match_29 : decode b_Mod_match 29 = .ok (.goto 4, 3) := by decide +kernel
theorem d_Mod_match_32 : decode b_Mod_match 32 = .ok (.iconst 0, 1) := by decide +kernel
theorem d_Mod_match_33 : decode b_Mod_match 33 = .ok (.bastore, 1) := by decide +kernel
theorem d_Mod_match_34 : decode b_Mod_match 34 = .ok (.iinc 4 1, 3) := by decide +kernel
theorem d_Mod_match_37 : decode b_Mod_match 37 = .ok (.goto (-27), 3) := by decide +kernel
theorem d_Mod_match_40 : decode b_Mod_match 40 = .ok (.iconst 0, 1) := by decide +kernel
theorem d_Mod_match_41 : decode b_Mod_match 41 = .ok (.istore 4, 2) := by decide +kernel
theorem d_Mod_match_43 : decode b_Mod_match 43 = .ok (.iload 4, 2) := by decide +kernel
theorem d_Mod_match_45 : decode b_Mod_match 45 = .ok (.aload_n 0, 1) := by decide +kernel
theorem d_Mod_match_46 : decode b_Mod_match 46 = .ok (.getfield 45, 3) := by decide +kernel
theorem d_Mod_match_49 : decode b_Mod_match 49 = .ok (.if_icmp .ge 224, 3) := by decide +kernel
theorem d_Mod_match_52 : decode b_Mod_match 52 = .ok (.iload 4, 2) := by decide +kernel
theorem d_Mod_match_54 : decode b_Mod_match 54 = .ok (.iconst 1, 1) := by decide +kernel
theorem d_Mod_match_55 : decode b_Mod_match 55 = .ok (.iadd, 1) := by decide +kernel
theorem d_Mod_match_56 : decode b_Mod_match 56 = .ok (.aload_n 0, 1) := by decide +kernel
theorem d_Mod_match_57 : decode b_Mod_match 57 = .ok (.getfield 45, 3) := by decide +kernel
theorem d_Mod_match_60 : decode b_Mod_match 60 = .ok (.if_icmp .ge 21, 3) := by decide +kernel
theorem d_Mod_match_63 : decode b_Mod_match 63 = .ok (.aload_n 0, 1) := by decide +kernel
theorem d_Mod_match_64 : decode b_Mod_match 64 = .ok (.getfield 20, 3) := by decide +kernel
theorem d_Mod_match_67 : decode b_Mod_match 67 = .ok (.iload 4, 2) := by decide +kernel
theorem d_Mod_match_69 : decode b_Mod_match 69 = .ok (.iconst 1, 1) := by decide +kernel
theorem d_Mod_match_70 : decode b_Mod_match 70 = .ok (.iadd, 1) := by decide +kernel
theorem d_Mod_match_71 : decode b_Mod_match 71 = .ok (.iaload, 1) := by decide +kernel
theorem d_Mod_match_72 : decode b_Mod_match 72 = .ok (.bipush 42, 2) := by decide +kernel
theorem d_Mod_match_74 : decode b_Mod_match 74 = .ok (.if_icmp .ne 7, 3) := by decide +kernel
theorem d_Mod_match_77 : decode b_Mod_match 77 = .ok (.iconst 1, 1) := by decide +kernel
theorem d_Mod_match_78 : decode b_Mod_match 78 = .ok (.goto 4, 3) := by decide +kernel
theorem d_Mod_match_81 : decode b_Mod_match 81 = .ok (.iconst 0, 1) := by decide +kernel
theorem d_Mod_match_82 : decode b_Mod_match 82 = .ok (.istore 5, 2) := by decide +kernel
theorem d_Mod_match_84 : decode b_Mod_match 84 = .ok (.aload_n 0, 1) := by decide +kernel
theorem d_Mod_match_85 : decode b_Mod_match 85 = .ok (.getfield 20, 3) := by decide +kernel
theorem d_Mod_match_88 : decode b_Mod_match 88 = .ok (.iload 4, 2) := by decide +kernel
theorem d_Mod_match_90 : decode b_Mod_match 90 = .ok (.iaload, 1) := by decide +kernel
theorem d_Mod_match_91 : decode b_Mod_match 91 = .ok (.bipush 42, 2) := by decide +kernel
theorem d_Mod_match_93 : decode b_Mod_match 93 = .ok (.if_icmp .eq 88, 3) := by decide +kernel
theorem d_Mod_match_96 : decode b_Mod_match 96 = .ok (.iload 5, 2) := by decide +kernel
theorem d_Mod_match_98 : decode b_Mod_match 98 = .ok (.ifCond .eq 83, 3) := by decide +kernel
theorem d_Mod_match_101 : decode b_Mod_match 101 = .ok (.iload_n 2, 1) := by decide +kernel
theorem d_Mod_match_102 : decode b_Mod_match 102 = .ok (.istore 6, 2) := by decide +kernel
theorem d_Mod_match_104 : decode b_Mod_match 104 = .ok (.iload 6, 2) := by decide +kernel
theorem d_Mod_match_106 : decode b_Mod_match 106 = .ok (.iload_n 3, 1) := by decide +kernel
theorem d_Mod_match_107 : decode b_Mod_match 107 = .ok (.if_icmp .ge 71, 3) := by decide +kernel
theorem d_Mod_match_110 : decode b_Mod_match 110 = .ok (.aload_n 0, 1) := by decide +kernel
theorem d_Mod_match_111 : decode b_Mod_match 111 = .ok (.getfield 39, 3) := by decide +kernel
theorem d_Mod_match_114 : decode b_Mod_match 114 = .ok (.iload 6, 2) := by decide +kernel
theorem d_Mod_match_116 : decode b_Mod_match 116 = .ok (.iconst 1, 1) := by decide +kernel
theorem d_Mod_match_117 : decode b_Mod_match 117 = .ok (.iadd, 1) := by decide +kernel
theorem d_Mod_match_118 : decode b_Mod_match 118 = .ok (.aload_n 0, 1) := by decide +kernel
theorem d_Mod_match_119 : decode b_Mod_match 119 = .ok (.getfield 39, 3) := by decide +kernel
theorem d_Mod_match_122 : decode b_Mod_match 122 = .ok (.iload 6, 2) := by decide +kernel
theorem d_Mod_match_124 : decode b_Mod_match 124 = .ok (.iconst 1, 1) := by decide +kernel
theorem d_Mod_match_125 : decode b_Mod_match 125 = .ok (.iadd, 1) := by decide +kernel
theorem d_Mod_match_126 : decode b_Mod_match 126 = .ok (.baload, 1) := by decide +kernel
theorem d_Mod_match_127 : decode b_Mod_match 127 = .ok (.ifCond .ne 39, 3) := by decide +kernel
theorem d_Mod_match_130 : decode b_Mod_match 130 = .ok (.aload_n 0, 1) := by decide +kernel
theorem d_Mod_match_131 : decode b_Mod_match 131 = .ok (.getfield 39, 3) := by decide +kernel
theorem d_Mod_match_134 : decode b_Mod_match 134 = .ok (.iload 6, 2) := by decide +kernel
theorem d_Mod_match_136 : decode b_Mod_match 136 = .ok (.baload, 1) := by decide +kernel
theorem d_Mod_match_137 : decode b_Mod_match 137 = .ok (.ifCond .eq 33, 3) := by decide +kernel
theorem d_Mod_match_140 : decode b_Mod_match 140 = .ok (.aload_n 0, 1) := by decide +kernel
theorem d_Mod_match_141 : decode b_Mod_match 141 = .ok (.getfield 20, 3) := by decide +kernel
theorem d_Mod_match_144 : decode b_Mod_match 144 = .ok (.iload 4, 2) := by decide +kernel
theorem d_Mod_match_146 : decode b_Mod_match 146 = .ok (.iaload, 1) := by decide +kernel
theorem d_Mod_match_147 : decode b_Mod_match 147 = .ok (.aload_n 0, 1) := by decide +kernel
theorem d_Mod_match_148 : decode b_Mod_match 148 = .ok (.getfield 7, 3) := by decide +kernel
theorem d_Mod_match_151 : decode b_Mod_match 151 = .ok (.sipush 160, 3) := by decide +kernel
theorem d_Mod_match_154 : decode b_Mod_match 154 = .ok (.iload_n 1, 1) := by decide +kernel
theorem d_Mod_match_155 : decode b_Mod_match 155 = .ok (.imul, 1) := by decide +kernel
theorem d_Mod_match_156 : decode b_Mod_match 156 = .ok (.iload 6, 2) := by decide +kernel
theorem d_Mod_match_158 : decode b_Mod_match 158 = .ok (.iadd, 1) := by decide +kernel
theorem d_Mod_match_159 : decode b_Mod_match 159 = .ok (.iaload, 1) := by decide +kernel
theorem d_Mod_match_160 : decode b_Mod_match 160 = .ok (.invokestatic 129, 3) := by decide +kernel
theorem d_Mod_match_163 : decode b_Mod_match 163 = .ok (.ifCond .eq 7, 3) := by decide +kernel
theorem d_Mod_match_166 : decode b_Mod_match 166 = .ok (.iconst 1, 1) := by decide +kernel
theorem d_Mod_match_167 : decode b_Mod_match 167 = .ok (.goto 4, 3) := by decide +kernel
theorem d_Mod_match_170 : decode b_Mod_match 170 = .ok (.iconst 0, 1) := by decide +kernel
theorem d_Mod_match_171 : decode b_Mod_match 171 = .ok (.bastore, 1) := by decide +kernel
theorem d_Mod_match_172 : decode b_Mod_match 172 = .ok (.iinc 6 1, 3) := by decide +kernel
theorem d_Mod_match_175 : decode b_Mod_match 175 = .ok (.goto (-71), 3) := by decide +kernel
theorem d_Mod_match_178 : decode b_Mod_match 178 = .ok (.goto 89, 3) := by decide +kernel
theorem d_Mod_match_181 : decode b_Mod_match 181 = .ok (.aload_n 0, 1) := by decide +kernel
theorem d_Mod_match_182 : decode b_Mod_match 182 = .ok (.getfield 20, 3) := by decide +kernel
theorem d_Mod_match_185 : decode b_Mod_match 185 = .ok (.iload 4, 2) := by decide +kernel
theorem d_Mod_match_187 : decode b_Mod_match 187 = .ok (.iaload, 1) := by decide +kernel
theorem d_Mod_match_188 : decode b_Mod_match 188 = .ok (.bipush 42, 2) := by decide +kernel
theorem d_Mod_match_190 : decode b_Mod_match 190 = .ok (.if_icmp .eq 77, 3) := by decide +kernel
theorem d_Mod_match_193 : decode b_Mod_match 193 = .ok (.iload_n 3, 1) := by decide +kernel
theorem d_Mod_match_194 : decode b_Mod_match 194 = .ok (.istore 6, 2) := by decide +kernel
theorem d_Mod_match_196 : decode b_Mod_match 196 = .ok (.iload 6, 2) := by decide +kernel
theorem d_Mod_match_198 : decode b_Mod_match 198 = .ok (.iload_n 2, 1) := by decide +kernel
theorem d_Mod_match_199 : decode b_Mod_match 199 = .ok (.if_icmp .le 61, 3) := by decide +kernel
theorem d_Mod_match_202 : decode b_Mod_match 202 = .ok (.aload_n 0, 1) := by decide +kernel
theorem d_Mod_match_203 : decode b_Mod_match 203 = .ok (.getfield 39, 3) := by decide +kernel
theorem d_Mod_match_206 : decode b_Mod_match 206 = .ok (.iload 6, 2) := by decide +kernel
theorem d_Mod_match_208 : decode b_Mod_match 208 = .ok (.aload_n 0, 1) := by decide +kernel
theorem d_Mod_match_209 : decode b_Mod_match 209 = .ok (.getfield 39, 3) := by decide +kernel
theorem d_Mod_match_212 : decode b_Mod_match 212 = .ok (.iload 6, 2) := by decide +kernel
theorem d_Mod_match_214 : decode b_Mod_match 214 = .ok (.iconst 1, 1) := by decide +kernel
theorem d_Mod_match_215 : decode b_Mod_match 215 = .ok (.isub, 1) := by decide +kernel
theorem d_Mod_match_216 : decode b_Mod_match 216 = .ok (.baload, 1) := by decide +kernel
theorem d_Mod_match_217 : decode b_Mod_match 217 = .ok (.ifCond .eq 35, 3) := by decide +kernel
theorem d_Mod_match_220 : decode b_Mod_match 220 = .ok (.aload_n 0, 1) := by decide +kernel
theorem d_Mod_match_221 : decode b_Mod_match 221 = .ok (.getfield 20, 3) := by decide +kernel
theorem d_Mod_match_224 : decode b_Mod_match 224 = .ok (.iload 4, 2) := by decide +kernel
theorem d_Mod_match_226 : decode b_Mod_match 226 = .ok (.iaload, 1) := by decide +kernel
theorem d_Mod_match_227 : decode b_Mod_match 227 = .ok (.aload_n 0, 1) := by decide +kernel
theorem d_Mod_match_228 : decode b_Mod_match 228 = .ok (.getfield 7, 3) := by decide +kernel
theorem d_Mod_match_231 : decode b_Mod_match 231 = .ok (.sipush 160, 3) := by decide +kernel
theorem d_Mod_match_234 : decode b_Mod_match 234 = .ok (.iload_n 1, 1) := by decide +kernel
theorem d_Mod_match_235 : decode b_Mod_match 235 = .ok (.imul, 1) := by decide +kernel
theorem d_Mod_match_236 : decode b_Mod_match 236 = .ok (.iload 6, 2) := by decide +kernel
theorem d_Mod_match_238 : decode b_Mod_match 238 = .ok (.iadd, 1) := by decide +kernel
theorem d_Mod_match_239 : decode b_Mod_match 239 = .ok (.iconst 1, 1) := by decide +kernel
theorem d_Mod_match_240 : decode b_Mod_match 240 = .ok (.isub, 1) := by decide +kernel
theorem d_Mod_match_241 : decode b_Mod_match 241 = .ok (.iaload, 1) := by decide +kernel
theorem d_Mod_match_242 : decode b_Mod_match 242 = .ok (.invokestatic 129, 3) := by decide +kernel
theorem d_Mod_match_245 : decode b_Mod_match 245 = .ok (.ifCond .eq 7, 3) := by decide +kernel
theorem d_Mod_match_248 : decode b_Mod_match 248 = .ok (.iconst 1, 1) := by decide +kernel
theorem d_Mod_match_249 : decode b_Mod_match 249 = .ok (.goto 4, 3) := by decide +kernel
theorem d_Mod_match_252 : decode b_Mod_match 252 = .ok (.iconst 0, 1) := by decide +kernel
theorem d_Mod_match_253 : decode b_Mod_match 253 = .ok (.bastore, 1) := by decide +kernel
theorem d_Mod_match_254 : decode b_Mod_match 254 = .ok (.iinc 6 (-1), 3) := by decide +kernel
theorem d_Mod_match_257 : decode b_Mod_match 257 = .ok (.goto (-61), 3) := by decide +kernel
theorem d_Mod_match_260 : decode b_Mod_match 260 = .ok (.aload_n 0, 1) := by decide +kernel
theorem d_Mod_match_261 : decode b_Mod_match 261 = .ok (.getfield 39, 3) := by decide +kernel
theorem d_Mod_match_264 : decode b_Mod_match 264 = .ok (.iload_n 2, 1) := by decide +kernel
theorem d_Mod_match_265 : decode b_Mod_match 265 = .ok (.iconst 0, 1) := by decide +kernel
theorem d_Mod_match_266 : decode b_Mod_match 266 = .ok (.bastore, 1) := by decide +kernel
theorem d_Mod_match_267 : decode b_Mod_match 267 = .ok (.iinc 4 1, 3) := by decide +kernel
theorem d_Mod_match_270 : decode b_Mod_match 270 = .ok (.goto (-227), 3) := by decide +kernel
theorem d_Mod_match_273 : decode b_Mod_match 273 = .ok (.iload_n 3, 1) := by decide +kernel
theorem d_Mod_match_274 : decode b_Mod_match 274 = .ok (.istore 4, 2) := by decide +kernel
theorem d_Mod_match_276 : decode b_Mod_match 276 = .ok (.iload 4, 2) := by decide +kernel
theorem d_Mod_match_278 : decode b_Mod_match 278 = .ok (.iload_n 2, 1) := by decide +kernel
theorem d_Mod_match_279 : decode b_Mod_match 279 = .ok (.if_icmp .lt 19, 3) := by decide +kernel
theorem d_Mod_match_282 : decode b_Mod_match 282 = .ok (.aload_n 0, 1) := by decide +kernel
theorem d_Mod_match_283 : decode b_Mod_match 283 = .ok (.getfield 39, 3) := by decide +kernel
theorem d_Mod_match_286 : decode b_Mod_match 286 = .ok (.iload 4, 2) := by decide +kernel
theorem d_Mod_match_288 : decode b_Mod_match 288 = .ok (.baload, 1) := by decide +kernel
theorem d_Mod_match_289 : decode b_Mod_match 289 = .ok (.ifCond .ne 9, 3) := by decide +kernel
theorem d_Mod_match_292 : decode b_Mod_match 292 = .ok (.iinc 4 (-1), 3) := by decide +kernel
theorem d_Mod_match_295 : decode b_Mod_match 295 = .ok (.goto (-19), 3) := by decide +kernel
theorem d_Mod_match_298 : decode b_Mod_match 298 = .ok (.iload 4, 2) := by decide +kernel
theorem d_Mod_match_300 : decode b_Mod_match 300 = .ok (.iload_n 2, 1) := by decide +kernel
theorem d_Mod_match_301 : decode b_Mod_match 301 = .ok (.if_icmp .ge 7, 3) := by decide +kernel
theorem d_Mod_match_304 : decode b_Mod_match 304 = .ok (.iconst (-1), 1) := by decide +kernel
theorem d_Mod_match_305 : decode b_Mod_match 305 = .ok (.goto 5, 3) := by decide +kernel
theorem d_Mod_match_308 : decode b_Mod_match 308 = .ok (.iload 4, 2) := by decide +kernel
theorem d_Mod_match_310 : decode b_Mod_match 310 = .ok (.ireturn, 1) := by decide +kernel
theorem d_Mod_find_0 : decode b_Mod_find 0 = .ok (.aload_n 0, 1) := by decide +kernel
theorem d_Mod_find_1 : decode b_Mod_find 1 = .ok (.iload_n 1, 1) := by decide +kernel
theorem d_Mod_find_2 : decode b_Mod_find 2 = .ok (.invokevirtual 121, 3) := by decide +kernel
theorem d_Mod_find_5 : decode b_Mod_find 5 = .ok (.istore_n 3, 1) := by decide +kernel
theorem d_Mod_find_6 : decode b_Mod_find 6 = .ok (.iload_n 3, 1) := by decide +kernel
theorem d_Mod_find_7 : decode b_Mod_find 7 = .ok (.ifCond .lt 24, 3) := by decide +kernel
theorem d_Mod_find_10 : decode b_Mod_find 10 = .ok (.iload_n 2, 1) := by decide +kernel
theorem d_Mod_find_11 : decode b_Mod_find 11 = .ok (.ifCond .lt 20, 3) := by decide +kernel
theorem d_Mod_find_14 : decode b_Mod_find 14 = .ok (.iload_n 2, 1) := by decide +kernel
theorem d_Mod_find_15 : decode b_Mod_find 15 = .ok (.aload_n 0, 1) := by decide +kernel
theorem d_Mod_find_16 : decode b_Mod_find 16 = .ok (.getfield 13, 3) := by decide +kernel
theorem d_Mod_find_19 : decode b_Mod_find 19 = .ok (.iload_n 3, 1) := by decide +kernel
theorem d_Mod_find_20 : decode b_Mod_find 20 = .ok (.iaload, 1) := by decide +kernel
theorem d_Mod_find_21 : decode b_Mod_find 21 = .ok (.if_icmp .gt 10, 3) := by decide +kernel
theorem d_Mod_find_24 : decode b_Mod_find 24 = .ok (.aload_n 0, 1) := by decide +kernel
theorem d_Mod_find_25 : decode b_Mod_find 25 = .ok (.invokevirtual 132, 3) := by decide +kernel
theorem d_Mod_find_28 : decode b_Mod_find 28 = .ok (.ifCond .ne 5, 3) := by decide +kernel
theorem d_Mod_find_31 : decode b_Mod_find 31 = .ok (.iconst (-1), 1) := by decide +kernel
theorem d_Mod_find_32 : decode b_Mod_find 32 = .ok (.ireturn, 1) := by decide +kernel
theorem d_Mod_find_33 : decode b_Mod_find 33 = .ok (.iload_n 2, 1) := by decide +kernel
theorem d_Mod_find_34 : decode b_Mod_find 34 = .ok (.istore 4, 2) := by decide +kernel
theorem d_Mod_find_36 : decode b_Mod_find 36 = .ok (.iload 4, 2) := by decide +kernel
theorem d_Mod_find_38 : decode b_Mod_find 38 = .ok (.aload_n 0, 1) := by decide +kernel
theorem d_Mod_find_39 : decode b_Mod_find 39 = .ok (.getfield 13, 3) := by decide +kernel
theorem d_Mod_find_42 : decode b_Mod_find 42 = .ok (.iload_n 3, 1) := by decide +kernel
theorem d_Mod_find_43 : decode b_Mod_find 43 = .ok (.iaload, 1) := by decide +kernel
theorem d_Mod_find_44 : decode b_Mod_find 44 = .ok (.if_icmp .gt 32, 3) := by decide +kernel
theorem d_Mod_find_47 : decode b_Mod_find 47 = .ok (.aload_n 0, 1) := by decide +kernel
theorem d_Mod_find_48 : decode b_Mod_find 48 = .ok (.iload_n 3, 1) := by decide +kernel
theorem d_Mod_find_49 : decode b_Mod_find 49 = .ok (.iload 4, 2) := by decide +kernel
theorem d_Mod_find_51 : decode b_Mod_find 51 = .ok (.invokevirtual 136, 3) := by decide +kernel
theorem d_Mod_find_54 : decode b_Mod_find 54 = .ok (.istore 5, 2) := by decide +kernel
theorem d_Mod_find_56 : decode b_Mod_find 56 = .ok (.iload 5, 2) := by decide +kernel
theorem d_Mod_find_58 : decode b_Mod_find 58 = .ok (.ifCond .lt 12, 3) := by decide +kernel
theorem d_Mod_find_61 : decode b_Mod_find 61 = .ok (.aload_n 0, 1) := by decide +kernel
theorem d_Mod_find_62 : decode b_Mod_find 62 = .ok (.iload 5, 2) := by decide +kernel
theorem d_Mod_find_64 : decode b_Mod_find 64 = .ok (.putfield 42, 3) := by decide +kernel
theorem d_Mod_find_67 : decode b_Mod_find 67 = .ok (.iload 4, 2) := by decide +kernel
theorem d_Mod_find_69 : decode b_Mod_find 69 = .ok (.ireturn, 1) := by decide +kernel
theorem d_Mod_find_70 : decode b_Mod_find 70 = .ok (.iinc 4 1, 3) := by decide +kernel
theorem d_Mod_find_73 : decode b_Mod_find 73 = .ok (.goto (-37), 3) := by decide +kernel
theorem d_Mod_find_76 : decode b_Mod_find 76 = .ok (.iconst (-1), 1) := by decide +kernel
theorem d_Mod_find_77 : decode b_Mod_find 77 = .ok (.ireturn, 1) := by decide +kernel
theorem d_Mod_end_0 : decode b_Mod_end 0 = .ok (.aload_n 0, 1) := by decide +kernel
theorem d_Mod_end_1 : decode b_Mod_end 1 = .ok (.getfield 42, 3) := by decide +kernel
theorem d_Mod_end_4 : decode b_Mod_end 4 = .ok (.ireturn, 1) := by decide +kernel
end
section
abbrev b_Law_law : ByteArray := code
theorem d_Law_cell_0 : decode b_Law_cell 0 = .ok (.iload_n 1, 1) := by decide +kernel
theorem d_Law_cell_1 : decode b_Law_cell 1 = .ok (.aload_n 0, 1) := by decide +kernel
theorem d_Law_cell_2 : decode b_Law_cell 2 = .ok (.arraylength, 1) := by decide +kernel
theorem d_Law_cell_3 : decode b_Law_cell 3 = .ok (.if_icmp .ge 9, 3) := by decide +kernel
theorem d_Law_cell_6 : decode b_Law_cell 6 = .ok (.aload_n 0, 1) := by decide +kernel
theorem d_Law_cell_7 : decode b_Law_cell 7 = .ok (.iload_n 1, 1) := by decide +kernel
theorem d_Law_cell_8 : decode b_Law_cell 8 = .ok (.iaload, 1) := by decide +kernel
theorem d_Law_cell_9 : decode b_Law_cell 9 = .ok (.goto 4, 3) := by decide +kernel
theorem d_Law_cell_12 : decode b_Law_cell 12 = .ok (.iconst 0, 1) := by decide +kernel
theorem d_Law_cell_13 : decode b_Law_cell 13 = .ok (.ireturn, 1) := by decide +kernel
theorem d_Law_law_0 : decode b_Law_law 0 = .ok (.new 7, 3) := by decide +kernel
theorem d_Law_law_3 : decode b_Law_law 3 = .ok (.dup, 1) := by decide +kernel
theorem d_Law_law_4 : decode b_Law_law 4 = .ok (.aload_n 0, 1) := by decide +kernel
theorem d_Law_law_5 : decode b_Law_law 5 = .ok (.iconst 0, 1) := by decide +kernel
theorem d_Law_law_6 : decode b_Law_law 6 = .ok (.invokestatic 9, 3) := by decide +kernel
theorem d_Law_law_9 : decode b_Law_law 9 = .ok (.invokespecial 15, 3) := by decide +kernel
theorem d_Law_law_12 : decode b_Law_law 12 = .ok (.astore_n 1, 1) := by decide +kernel
theorem d_Law_law_13 : decode b_Law_law 13 = .ok (.new 18, 3) := by decide +kernel
theorem d_Law_law_16 : decode b_Law_law 16 = .ok (.dup, 1) := by decide +kernel
theorem d_Law_law_17 : decode b_Law_law 17 = .ok (.aload_n 0, 1) := by decide +kernel
theorem d_Law_law_18 : decode b_Law_law 18 = .ok (.iconst 0, 1) := by decide +kernel
theorem d_Law_law_19 : decode b_Law_law 19 = .ok (.invokestatic 9, 3) := by decide +kernel
theorem d_Law_law_22 : decode b_Law_law 22 = .ok (.invokespecial 20, 3) := by decide +kernel
theorem d_Law_law_25 : decode b_Law_law 25 = .ok (.astore_n 2, 1) := by decide +kernel
theorem d_Law_law_26 : decode b_Law_law 26 = .ok (.iconst 1, 1) := by decide +kernel
theorem d_Law_law_27 : decode b_Law_law 27 = .ok (.istore_n 3, 1) := by decide +kernel
theorem d_Law_law_28 : decode b_Law_law 28 = .ok (.iload_n 3, 1) := by decide +kernel
theorem d_Law_law_29 : decode b_Law_law 29 = .ok (.aload_n 0, 1) := by decide +kernel
theorem d_Law_law_30 : decode b_Law_law 30 = .ok (.arraylength, 1) := by decide +kernel
theorem d_Law_law_31 : decode b_Law_law 31 = .ok (.iconst 4, 1) := by decide +kernel
theorem d_Law_law_32 : decode b_Law_law 32 = .ok (.isub, 1) := by decide +kernel
theorem d_Law_law_33 : decode b_Law_law 33 = .ok (.if_icmp .gt 580, 3) := by decide +kernel
theorem d_Law_law_36 : decode b_Law_law 36 = .ok (.aload_n 0, 1) := by decide +kernel
theorem d_Law_law_37 : decode b_Law_law 37 = .ok (.iload_n 3, 1) := by decide +kernel
theorem d_Law_law_38 : decode b_Law_law 38 = .ok (.iaload, 1) := by decide +kernel
theorem d_Law_law_39 : decode b_Law_law 39 = .ok (.bipush 31, 2) := by decide +kernel
theorem d_Law_law_41 : decode b_Law_law 41 = .ok (.iand, 1) := by decide +kernel
theorem d_Law_law_42 : decode b_Law_law 42 = .ok (.tableswitch 565 0 18 #[90, 115, 126, 149, 182, 215, 228, 241, 264, 275, 298, 311, 334, 367, 400, 443, 486, 519, 552], 90) := by decide +kernel
theorem d_Law_law_132 : decode b_Law_law 132 = .ok (.aload_n 1, 1) := by decide +kernel
theorem d_Law_law_133 : decode b_Law_law 133 = .ok (.aload_n 0, 1) := by decide +kernel
theorem d_Law_law_134 : decode b_Law_law 134 = .ok (.iload_n 3, 1) := by decide +kernel
theorem d_Law_law_135 : decode b_Law_law 135 = .ok (.iconst 1, 1) := by decide +kernel
theorem d_Law_law_136 : decode b_Law_law 136 = .ok (.iadd, 1) := by decide +kernel
theorem d_Law_law_137 : decode b_Law_law 137 = .ok (.iaload, 1) := by decide +kernel
theorem d_Law_law_138 : decode b_Law_law 138 = .ok (.i2c, 1) := by decide +kernel
theorem d_Law_law_139 : decode b_Law_law 139 = .ok (.invokevirtual 21, 3) := by decide +kernel
theorem d_Law_law_142 : decode b_Law_law 142 = .ok (.aload_n 2, 1) := by decide +kernel
theorem d_Law_law_143 : decode b_Law_law 143 = .ok (.aload_n 0, 1) := by decide +kernel
theorem d_Law_law_144 : decode b_Law_law 144 = .ok (.iload_n 3, 1) := by decide +kernel
theorem d_Law_law_145 : decode b_Law_law 145 = .ok (.iconst 1, 1) := by decide +kernel
theorem d_Law_law_146 : decode b_Law_law 146 = .ok (.iadd, 1) := by decide +kernel
theorem d_Law_law_147 : decode b_Law_law 147 = .ok (.iaload, 1) := by decide +kernel
theorem d_Law_law_148 : decode b_Law_law 148 = .ok (.i2c, 1) := by decide +kernel
theorem d_Law_law_149 : decode b_Law_law 149 = .ok (.invokevirtual 25, 3) := by decide +kernel
theorem d_Law_law_152 : decode b_Law_law 152 = .ok (.if_icmp .eq 455, 3) := by decide +kernel
theorem d_Law_law_155 : decode b_Law_law 155 = .ok (.iconst 0, 1) := by decide +kernel
theorem d_Law_law_156 : decode b_Law_law 156 = .ok (.ireturn, 1) := by decide +kernel
theorem d_Law_law_157 : decode b_Law_law 157 = .ok (.aload_n 1, 1) := by decide +kernel
theorem d_Law_law_158 : decode b_Law_law 158 = .ok (.invokevirtual 26, 3) := by decide +kernel
theorem d_Law_law_161 : decode b_Law_law 161 = .ok (.aload_n 2, 1) := by decide +kernel
theorem d_Law_law_162 : decode b_Law_law 162 = .ok (.invokevirtual 29, 3) := by decide +kernel
theorem d_Law_law_165 : decode b_Law_law 165 = .ok (.goto 442, 3) := by decide +kernel
theorem d_Law_law_168 : decode b_Law_law 168 = .ok (.aload_n 1, 1) := by decide +kernel
theorem d_Law_law_169 : decode b_Law_law 169 = .ok (.aload_n 0, 1) := by decide +kernel
theorem d_Law_law_170 : decode b_Law_law 170 = .ok (.iload_n 3, 1) := by decide +kernel
theorem d_Law_law_171 : decode b_Law_law 171 = .ok (.iconst 1, 1) := by decide +kernel
theorem d_Law_law_172 : decode b_Law_law 172 = .ok (.iadd, 1) := by decide +kernel
theorem d_Law_law_173 : decode b_Law_law 173 = .ok (.iaload, 1) := by decide +kernel
theorem d_Law_law_174 : decode b_Law_law 174 = .ok (.invokevirtual 30, 3) := by decide +kernel
theorem d_Law_law_177 : decode b_Law_law 177 = .ok (.aload_n 2, 1) := by decide +kernel
theorem d_Law_law_178 : decode b_Law_law 178 = .ok (.aload_n 0, 1) := by decide +kernel
theorem d_Law_law_179 : decode b_Law_law 179 = .ok (.iload_n 3, 1) := by decide +kernel
theorem d_Law_law_180 : decode b_Law_law 180 = .ok (.iconst 1, 1) := by decide +kernel
theorem d_Law_law_181 : decode b_Law_law 181 = .ok (.iadd, 1) := by decide +kernel
theorem d_Law_law_182 : decode b_Law_law 182 = .ok (.iaload, 1) := by decide +kernel
theorem d_Law_law_183 : decode b_Law_law 183 = .ok (.invokevirtual 34, 3) := by decide +kernel
theorem d_Law_law_186 : decode b_Law_law 186 = .ok (.if_icmp .eq 421, 3) := by decide +kernel
theorem d_Law_law_189 : decode b_Law_law 189 = .ok (.iconst 0, 1) := by decide +kernel
theorem d_Law_law_190 : decode b_Law_law 190 = .ok (.ireturn, 1) := by decide +kernel
theorem d_Law_law_191 : decode b_Law_law 191 = .ok (.aload_n 1, 1) := by decide +kernel
theorem d_Law_law_192 : decode b_Law_law 192 = .ok (.aload_n 0, 1) := by decide +kernel
theorem d_Law_law_193 : decode b_Law_law 193 = .ok (.iload_n 3, 1) := by decide +kernel
theorem d_Law_law_194 : decode b_Law_law 194 = .ok (.iconst 1, 1) := by decide +kernel
theorem d_Law_law_195 : decode b_Law_law 195 = .ok (.iadd, 1) := by decide +kernel
theorem d_Law_law_196 : decode b_Law_law 196 = .ok (.iaload, 1) := by decide +kernel
theorem d_Law_law_197 : decode b_Law_law 197 = .ok (.aload_n 0, 1) := by decide +kernel
theorem d_Law_law_198 : decode b_Law_law 198 = .ok (.iload_n 3, 1) := by decide +kernel
theorem d_Law_law_199 : decode b_Law_law 199 = .ok (.iconst 2, 1) := by decide +kernel
theorem d_Law_law_200 : decode b_Law_law 200 = .ok (.iadd, 1) := by decide +kernel
theorem d_Law_law_201 : decode b_Law_law 201 = .ok (.iaload, 1) := by decide +kernel
theorem d_Law_law_202 : decode b_Law_law 202 = .ok (.invokevirtual 35, 3) := by decide +kernel
theorem d_Law_law_205 : decode b_Law_law 205 = .ok (.aload_n 2, 1) := by decide +kernel
theorem d_Law_law_206 : decode b_Law_law 206 = .ok (.aload_n 0, 1) := by decide +kernel
theorem d_Law_law_207 : decode b_Law_law 207 = .ok (.iload_n 3, 1) := by decide +kernel
theorem d_Law_law_208 : decode b_Law_law 208 = .ok (.iconst 1, 1) := by decide +kernel
theorem d_Law_law_209 : decode b_Law_law 209 = .ok (.iadd, 1) := by decide +kernel
theorem d_Law_law_210 : decode b_Law_law 210 = .ok (.iaload, 1) := by decide +kernel
theorem d_Law_law_211 : decode b_Law_law 211 = .ok (.aload_n 0, 1) := by decide +kernel
theorem d_Law_law_212 : decode b_Law_law 212 = .ok (.iload_n 3, 1) := by decide +kernel
theorem d_Law_law_213 : decode b_Law_law 213 = .ok (.iconst 2, 1) := by decide +kernel
theorem d_Law_law_214 : decode b_Law_law 214 = .ok (.iadd, 1) := by decide +kernel
theorem d_Law_law_215 : decode b_Law_law 215 = .ok (.iaload, 1) := by decide +kernel
theorem d_Law_law_216 : decode b_Law_law 216 = .ok (.invokevirtual 39, 3) := by decide +kernel
theorem d_Law_law_219 : decode b_Law_law 219 = .ok (.if_icmp .eq 388, 3) := by decide +kernel
theorem d_Law_law_222 : decode b_Law_law 222 = .ok (.iconst 0, 1) := by decide +kernel
theorem d_Law_law_223 : decode b_Law_law 223 = .ok (.ireturn, 1) := by decide +kernel
theorem d_Law_law_224 : decode b_Law_law 224 = .ok (.aload_n 1, 1) := by decide +kernel
theorem d_Law_law_225 : decode b_Law_law 225 = .ok (.aload_n 0, 1) := by decide +kernel
theorem d_Law_law_226 : decode b_Law_law 226 = .ok (.iload_n 3, 1) := by decide +kernel
theorem d_Law_law_227 : decode b_Law_law 227 = .ok (.iconst 1, 1) := by decide +kernel
theorem d_Law_law_228 : decode b_Law_law 228 = .ok (.iadd, 1) := by decide +kernel
theorem d_Law_law_229 : decode b_Law_law 229 = .ok (.iaload, 1) := by decide +kernel
theorem d_Law_law_230 : decode b_Law_law 230 = .ok (.aload_n 0, 1) := by decide +kernel
theorem d_Law_law_231 : decode b_Law_law 231 = .ok (.iload_n 3, 1) := by decide +kernel
theorem d_Law_law_232 : decode b_Law_law 232 = .ok (.iconst 2, 1) := by decide +kernel
theorem d_Law_law_233 : decode b_Law_law 233 = .ok (.iadd, 1) := by decide +kernel
theorem d_Law_law_234 : decode b_Law_law 234 = .ok (.iaload, 1) := by decide +kernel
theorem d_Law_law_235 : decode b_Law_law 235 = .ok (.invokevirtual 40, 3) := by decide +kernel
theorem d_Law_law_238 : decode b_Law_law 238 = .ok (.aload_n 2, 1) := by decide +kernel
theorem d_Law_law_239 : decode b_Law_law 239 = .ok (.aload_n 0, 1) := by decide +kernel
theorem d_Law_law_240 : decode b_Law_law 240 = .ok (.iload_n 3, 1) := by decide +kernel
theorem d_Law_law_241 : decode b_Law_law 241 = .ok (.iconst 1, 1) := by decide +kernel
theorem d_Law_law_242 : decode b_Law_law 242 = .ok (.iadd, 1) := by decide +kernel
theorem d_Law_law_243 : decode b_Law_law 243 = .ok (.iaload, 1) := by decide +kernel
theorem d_Law_law_244 : decode b_Law_law 244 = .ok (.aload_n 0, 1) := by decide +kernel
theorem d_Law_law_245 : decode b_Law_law 245 = .ok (.iload_n 3, 1) := by decide +kernel
theorem d_Law_law_246 : decode b_Law_law 246 = .ok (.iconst 2, 1) := by decide +kernel
theorem d_Law_law_247 : decode b_Law_law 247 = .ok (.iadd, 1) := by decide +kernel
theorem d_Law_law_248 : decode b_Law_law 248 = .ok (.iaload, 1) := by decide +kernel
theorem d_Law_law_249 : decode b_Law_law 249 = .ok (.invokevirtual 43, 3) := by decide +kernel
theorem d_Law_law_252 : decode b_Law_law 252 = .ok (.if_icmp .eq 355, 3) := by decide +kernel
theorem d_Law_law_255 : decode b_Law_law 255 = .ok (.iconst 0, 1) := by decide +kernel
theorem d_Law_law_256 : decode b_Law_law 256 = .ok (.ireturn, 1) := by decide +kernel
theorem d_Law_law_257 : decode b_Law_law 257 = .ok (.aload_n 1, 1) := by decide +kernel
theorem d_Law_law_258 : decode b_Law_law 258 = .ok (.invokevirtual 44, 3) := by decide +kernel
theorem d_Law_law_261 : decode b_Law_law 261 = .ok (.aload_n 2, 1) := by decide +kernel
theorem d_Law_law_262 : decode b_Law_law 262 = .ok (.invokevirtual 48, 3) := by decide +kernel
theorem d_Law_law_265 : decode b_Law_law 265 = .ok (.if_icmp .eq 342, 3) := by decide +kernel
theorem d_Law_law_268 : decode b_Law_law 268 = .ok (.iconst 0, 1) := by decide +kernel
theorem d_Law_law_269 : decode b_Law_law 269 = .ok (.ireturn, 1) := by decide +kernel
theorem d_Law_law_270 : decode b_Law_law 270 = .ok (.aload_n 1, 1) := by decide +kernel
theorem d_Law_law_271 : decode b_Law_law 271 = .ok (.invokevirtual 49, 3) := by decide +kernel
theorem d_Law_law_274 : decode b_Law_law 274 = .ok (.aload_n 2, 1) := by decide +kernel
theorem d_Law_law_275 : decode b_Law_law 275 = .ok (.invokevirtual 52, 3) := by decide +kernel
theorem d_Law_law_278 : decode b_Law_law 278 = .ok (.if_icmp .eq 329, 3) := by decide +kernel
theorem d_Law_law_281 : decode b_Law_law 281 = .ok (.iconst 0, 1) := by decide +kernel
theorem d_Law_law_282 : decode b_Law_law 282 = .ok (.ireturn, 1) := by decide +kernel
theorem d_Law_law_283 : decode b_Law_law 283 = .ok (.aload_n 1, 1) := by decide +kernel
theorem d_Law_law_284 : decode b_Law_law 284 = .ok (.aload_n 0, 1) := by decide +kernel
theorem d_Law_law_285 : decode b_Law_law 285 = .ok (.iload_n 3, 1) := by decide +kernel
theorem d_Law_law_286 : decode b_Law_law 286 = .ok (.iconst 1, 1) := by decide +kernel
theorem d_Law_law_287 : decode b_Law_law 287 = .ok (.iadd, 1) := by decide +kernel
theorem d_Law_law_288 : decode b_Law_law 288 = .ok (.iaload, 1) := by decide +kernel
theorem d_Law_law_289 : decode b_Law_law 289 = .ok (.invokevirtual 53, 3) := by decide +kernel
theorem d_Law_law_292 : decode b_Law_law 292 = .ok (.aload_n 2, 1) := by decide +kernel
theorem d_Law_law_293 : decode b_Law_law 293 = .ok (.aload_n 0, 1) := by decide +kernel
theorem d_Law_law_294 : decode b_Law_law 294 = .ok (.iload_n 3, 1) := by decide +kernel
theorem d_Law_law_295 : decode b_Law_law 295 = .ok (.iconst 1, 1) := by decide +kernel
theorem d_Law_law_296 : decode b_Law_law 296 = .ok (.iadd, 1) := by decide +kernel
theorem d_Law_law_297 : decode b_Law_law 297 = .ok (.iaload, 1) := by decide +kernel
theorem d_Law_law_298 : decode b_Law_law 298 = .ok (.invokevirtual 57, 3) := by decide +kernel
theorem d_Law_law_301 : decode b_Law_law 301 = .ok (.if_icmp .eq 306, 3) := by decide +kernel
theorem d_Law_law_304 : decode b_Law_law 304 = .ok (.iconst 0, 1) := by decide +kernel
theorem d_Law_law_305 : decode b_Law_law 305 = .ok (.ireturn, 1) := by decide +kernel
theorem d_Law_law_306 : decode b_Law_law 306 = .ok (.aload_n 1, 1) := by decide +kernel
theorem d_Law_law_307 : decode b_Law_law 307 = .ok (.invokevirtual 58, 3) := by decide +kernel
theorem d_Law_law_310 : decode b_Law_law 310 = .ok (.aload_n 2, 1) := by decide +kernel
theorem d_Law_law_311 : decode b_Law_law 311 = .ok (.invokevirtual 61, 3) := by decide +kernel
theorem d_Law_law_314 : decode b_Law_law 314 = .ok (.goto 293, 3) := by decide +kernel
theorem d_Law_law_317 : decode b_Law_law 317 = .ok (.aload_n 1, 1) := by decide +kernel
theorem d_Law_law_318 : decode b_Law_law 318 = .ok (.aload_n 0, 1) := by decide +kernel
theorem d_Law_law_319 : decode b_Law_law 319 = .ok (.iload_n 3, 1) := by decide +kernel
theorem d_Law_law_320 : decode b_Law_law 320 = .ok (.iconst 1, 1) := by decide +kernel
theorem d_Law_law_321 : decode b_Law_law 321 = .ok (.iadd, 1) := by decide +kernel
theorem d_Law_law_322 : decode b_Law_law 322 = .ok (.iaload, 1) := by decide +kernel
theorem d_Law_law_323 : decode b_Law_law 323 = .ok (.invokevirtual 62, 3) := by decide +kernel
theorem d_Law_law_326 : decode b_Law_law 326 = .ok (.aload_n 2, 1) := by decide +kernel
theorem d_Law_law_327 : decode b_Law_law 327 = .ok (.aload_n 0, 1) := by decide +kernel
theorem d_Law_law_328 : decode b_Law_law 328 = .ok (.iload_n 3, 1) := by decide +kernel
theorem d_Law_law_329 : decode b_Law_law 329 = .ok (.iconst 1, 1) := by decide +kernel
theorem d_Law_law_330 : decode b_Law_law 330 = .ok (.iadd, 1) := by decide +kernel
theorem d_Law_law_331 : decode b_Law_law 331 = .ok (.iaload, 1) := by decide +kernel
theorem d_Law_law_332 : decode b_Law_law 332 = .ok (.invokevirtual 65, 3) := by decide +kernel
theorem d_Law_law_335 : decode b_Law_law 335 = .ok (.if_icmp .eq 272, 3) := by decide +kernel
theorem d_Law_law_338 : decode b_Law_law 338 = .ok (.iconst 0, 1) := by decide +kernel
theorem d_Law_law_339 : decode b_Law_law 339 = .ok (.ireturn, 1) := by decide +kernel
theorem d_Law_law_340 : decode b_Law_law 340 = .ok (.aload_n 1, 1) := by decide +kernel
theorem d_Law_law_341 : decode b_Law_law 341 = .ok (.invokevirtual 66, 3) := by decide +kernel
theorem d_Law_law_344 : decode b_Law_law 344 = .ok (.aload_n 2, 1) := by decide +kernel
theorem d_Law_law_345 : decode b_Law_law 345 = .ok (.invokevirtual 70, 3) := by decide +kernel
theorem d_Law_law_348 : decode b_Law_law 348 = .ok (.if_icmp .eq 259, 3) := by decide +kernel
theorem d_Law_law_351 : decode b_Law_law 351 = .ok (.iconst 0, 1) := by decide +kernel
theorem d_Law_law_352 : decode b_Law_law 352 = .ok (.ireturn, 1) := by decide +kernel
theorem d_Law_law_353 : decode b_Law_law 353 = .ok (.aload_n 1, 1) := by decide +kernel
theorem d_Law_law_354 : decode b_Law_law 354 = .ok (.aload_n 0, 1) := by decide +kernel
theorem d_Law_law_355 : decode b_Law_law 355 = .ok (.iload_n 3, 1) := by decide +kernel
theorem d_Law_law_356 : decode b_Law_law 356 = .ok (.iconst 1, 1) := by decide +kernel
theorem d_Law_law_357 : decode b_Law_law 357 = .ok (.iadd, 1) := by decide +kernel
theorem d_Law_law_358 : decode b_Law_law 358 = .ok (.iaload, 1) := by decide +kernel
theorem d_Law_law_359 : decode b_Law_law 359 = .ok (.invokevirtual 71, 3) := by decide +kernel
theorem d_Law_law_362 : decode b_Law_law 362 = .ok (.aload_n 2, 1) := by decide +kernel
theorem d_Law_law_363 : decode b_Law_law 363 = .ok (.aload_n 0, 1) := by decide +kernel
theorem d_Law_law_364 : decode b_Law_law 364 = .ok (.iload_n 3, 1) := by decide +kernel
theorem d_Law_law_365 : decode b_Law_law 365 = .ok (.iconst 1, 1) := by decide +kernel
theorem d_Law_law_366 : decode b_Law_law 366 = .ok (.iadd, 1) := by decide +kernel
theorem d_Law_law_367 : decode b_Law_law 367 = .ok (.iaload, 1) := by decide +kernel
theorem d_Law_law_368 : decode b_Law_law 368 = .ok (.invokevirtual 74, 3) := by decide +kernel
theorem d_Law_law_371 : decode b_Law_law 371 = .ok (.if_icmp .eq 236, 3) := by decide +kernel
theorem d_Law_law_374 : decode b_Law_law 374 = .ok (.iconst 0, 1) := by decide +kernel
theorem d_Law_law_375 : decode b_Law_law 375 = .ok (.ireturn, 1) := by decide +kernel
theorem d_Law_law_376 : decode b_Law_law 376 = .ok (.aload_n 1, 1) := by decide +kernel
theorem d_Law_law_377 : decode b_Law_law 377 = .ok (.aload_n 0, 1) := by decide +kernel
theorem d_Law_law_378 : decode b_Law_law 378 = .ok (.iload_n 3, 1) := by decide +kernel
theorem d_Law_law_379 : decode b_Law_law 379 = .ok (.iconst 1, 1) := by decide +kernel
theorem d_Law_law_380 : decode b_Law_law 380 = .ok (.iadd, 1) := by decide +kernel
theorem d_Law_law_381 : decode b_Law_law 381 = .ok (.iaload, 1) := by decide +kernel
theorem d_Law_law_382 : decode b_Law_law 382 = .ok (.aload_n 0, 1) := by decide +kernel
theorem d_Law_law_383 : decode b_Law_law 383 = .ok (.iload_n 3, 1) := by decide +kernel
theorem d_Law_law_384 : decode b_Law_law 384 = .ok (.iconst 2, 1) := by decide +kernel
theorem d_Law_law_385 : decode b_Law_law 385 = .ok (.iadd, 1) := by decide +kernel
theorem d_Law_law_386 : decode b_Law_law 386 = .ok (.iaload, 1) := by decide +kernel
theorem d_Law_law_387 : decode b_Law_law 387 = .ok (.invokevirtual 75, 3) := by decide +kernel
theorem d_Law_law_390 : decode b_Law_law 390 = .ok (.aload_n 2, 1) := by decide +kernel
theorem d_Law_law_391 : decode b_Law_law 391 = .ok (.aload_n 0, 1) := by decide +kernel
theorem d_Law_law_392 : decode b_Law_law 392 = .ok (.iload_n 3, 1) := by decide +kernel
theorem d_Law_law_393 : decode b_Law_law 393 = .ok (.iconst 1, 1) := by decide +kernel
theorem d_Law_law_394 : decode b_Law_law 394 = .ok (.iadd, 1) := by decide +kernel
theorem d_Law_law_395 : decode b_Law_law 395 = .ok (.iaload, 1) := by decide +kernel
theorem d_Law_law_396 : decode b_Law_law 396 = .ok (.aload_n 0, 1) := by decide +kernel
theorem d_Law_law_397 : decode b_Law_law 397 = .ok (.iload_n 3, 1) := by decide +kernel
theorem d_Law_law_398 : decode b_Law_law 398 = .ok (.iconst 2, 1) := by decide +kernel
theorem d_Law_law_399 : decode b_Law_law 399 = .ok (.iadd, 1) := by decide +kernel
theorem d_Law_law_400 : decode b_Law_law 400 = .ok (.iaload, 1) := by decide +kernel
theorem d_Law_law_401 : decode b_Law_law 401 = .ok (.invokevirtual 79, 3) := by decide +kernel
theorem d_Law_law_404 : decode b_Law_law 404 = .ok (.if_icmp .eq 203, 3) := by decide +kernel
theorem d_Law_law_407 : decode b_Law_law 407 = .ok (.iconst 0, 1) := by decide +kernel
theorem d_Law_law_408 : decode b_Law_law 408 = .ok (.ireturn, 1) := by decide +kernel
theorem d_Law_law_409 : decode b_Law_law 409 = .ok (.aload_n 1, 1) := by decide +kernel
theorem d_Law_law_410 : decode b_Law_law 410 = .ok (.aload_n 0, 1) := by decide +kernel
theorem d_Law_law_411 : decode b_Law_law 411 = .ok (.iload_n 3, 1) := by decide +kernel
theorem d_Law_law_412 : decode b_Law_law 412 = .ok (.iconst 1, 1) := by decide +kernel
theorem d_Law_law_413 : decode b_Law_law 413 = .ok (.iadd, 1) := by decide +kernel
theorem d_Law_law_414 : decode b_Law_law 414 = .ok (.iaload, 1) := by decide +kernel
theorem d_Law_law_415 : decode b_Law_law 415 = .ok (.aload_n 0, 1) := by decide +kernel
theorem d_Law_law_416 : decode b_Law_law 416 = .ok (.iload_n 3, 1) := by decide +kernel
theorem d_Law_law_417 : decode b_Law_law 417 = .ok (.iconst 2, 1) := by decide +kernel
theorem d_Law_law_418 : decode b_Law_law 418 = .ok (.iadd, 1) := by decide +kernel
theorem d_Law_law_419 : decode b_Law_law 419 = .ok (.iaload, 1) := by decide +kernel
theorem d_Law_law_420 : decode b_Law_law 420 = .ok (.invokevirtual 80, 3) := by decide +kernel
theorem d_Law_law_423 : decode b_Law_law 423 = .ok (.aload_n 2, 1) := by decide +kernel
theorem d_Law_law_424 : decode b_Law_law 424 = .ok (.aload_n 0, 1) := by decide +kernel
theorem d_Law_law_425 : decode b_Law_law 425 = .ok (.iload_n 3, 1) := by decide +kernel
theorem d_Law_law_426 : decode b_Law_law 426 = .ok (.iconst 1, 1) := by decide +kernel
theorem d_Law_law_427 : decode b_Law_law 427 = .ok (.iadd, 1) := by decide +kernel
theorem d_Law_law_428 : decode b_Law_law 428 = .ok (.iaload, 1) := by decide +kernel
theorem d_Law_law_429 : decode b_Law_law 429 = .ok (.aload_n 0, 1) := by decide +kernel
theorem d_Law_law_430 : decode b_Law_law 430 = .ok (.iload_n 3, 1) := by decide +kernel
theorem d_Law_law_431 : decode b_Law_law 431 = .ok (.iconst 2, 1) := by decide +kernel
theorem d_Law_law_432 : decode b_Law_law 432 = .ok (.iadd, 1) := by decide +kernel
theorem d_Law_law_433 : decode b_Law_law 433 = .ok (.iaload, 1) := by decide +kernel
theorem d_Law_law_434 : decode b_Law_law 434 = .ok (.invokevirtual 83, 3) := by decide +kernel
theorem d_Law_law_437 : decode b_Law_law 437 = .ok (.if_icmp .eq 170, 3) := by decide +kernel
theorem d_Law_law_440 : decode b_Law_law 440 = .ok (.iconst 0, 1) := by decide +kernel
theorem d_Law_law_441 : decode b_Law_law 441 = .ok (.ireturn, 1) := by decide +kernel
theorem d_Law_law_442 : decode b_Law_law 442 = .ok (.aload_n 1, 1) := by decide +kernel
theorem d_Law_law_443 : decode b_Law_law 443 = .ok (.aload_n 0, 1) := by decide +kernel
theorem d_Law_law_444 : decode b_Law_law 444 = .ok (.iload_n 3, 1) := by decide +kernel
theorem d_Law_law_445 : decode b_Law_law 445 = .ok (.iconst 1, 1) := by decide +kernel
theorem d_Law_law_446 : decode b_Law_law 446 = .ok (.iadd, 1) := by decide +kernel
theorem d_Law_law_447 : decode b_Law_law 447 = .ok (.iaload, 1) := by decide +kernel
theorem d_Law_law_448 : decode b_Law_law 448 = .ok (.aload_n 0, 1) := by decide +kernel
theorem d_Law_law_449 : decode b_Law_law 449 = .ok (.iload_n 3, 1) := by decide +kernel
theorem d_Law_law_450 : decode b_Law_law 450 = .ok (.iconst 2, 1) := by decide +kernel
theorem d_Law_law_451 : decode b_Law_law 451 = .ok (.iadd, 1) := by decide +kernel
theorem d_Law_law_452 : decode b_Law_law 452 = .ok (.iaload, 1) := by decide +kernel
theorem d_Law_law_453 : decode b_Law_law 453 = .ok (.aload_n 0, 1) := by decide +kernel
theorem d_Law_law_454 : decode b_Law_law 454 = .ok (.iload_n 3, 1) := by decide +kernel
theorem d_Law_law_455 : decode b_Law_law 455 = .ok (.iconst 3, 1) := by decide +kernel
theorem d_Law_law_456 : decode b_Law_law 456 = .ok (.iadd, 1) := by decide +kernel
theorem d_Law_law_457 : decode b_Law_law 457 = .ok (.iaload, 1) := by decide +kernel
theorem d_Law_law_458 : decode b_Law_law 458 = .ok (.invokevirtual 84, 3) := by decide +kernel
theorem d_Law_law_461 : decode b_Law_law 461 = .ok (.aload_n 2, 1) := by decide +kernel
theorem d_Law_law_462 : decode b_Law_law 462 = .ok (.aload_n 0, 1) := by decide +kernel
theorem d_Law_law_463 : decode b_Law_law 463 = .ok (.iload_n 3, 1) := by decide +kernel
theorem d_Law_law_464 : decode b_Law_law 464 = .ok (.iconst 1, 1) := by decide +kernel
theorem d_Law_law_465 : decode b_Law_law 465 = .ok (.iadd, 1) := by decide +kernel
theorem d_Law_law_466 : decode b_Law_law 466 = .ok (.iaload, 1) := by decide +kernel
theorem d_Law_law_467 : decode b_Law_law 467 = .ok (.aload_n 0, 1) := by decide +kernel
theorem d_Law_law_468 : decode b_Law_law 468 = .ok (.iload_n 3, 1) := by decide +kernel
theorem d_Law_law_469 : decode b_Law_law 469 = .ok (.iconst 2, 1) := by decide +kernel
theorem d_Law_law_470 : decode b_Law_law 470 = .ok (.iadd, 1) := by decide +kernel
theorem d_Law_law_471 : decode b_Law_law 471 = .ok (.iaload, 1) := by decide +kernel
theorem d_Law_law_472 : decode b_Law_law 472 = .ok (.aload_n 0, 1) := by decide +kernel
theorem d_Law_law_473 : decode b_Law_law 473 = .ok (.iload_n 3, 1) := by decide +kernel
theorem d_Law_law_474 : decode b_Law_law 474 = .ok (.iconst 3, 1) := by decide +kernel
theorem d_Law_law_475 : decode b_Law_law 475 = .ok (.iadd, 1) := by decide +kernel
theorem d_Law_law_476 : decode b_Law_law 476 = .ok (.iaload, 1) := by decide +kernel
theorem d_Law_law_477 : decode b_Law_law 477 = .ok (.invokevirtual 88, 3) := by decide +kernel
theorem d_Law_law_480 : decode b_Law_law 480 = .ok (.if_icmp .eq 127, 3) := by decide +kernel
theorem d_Law_law_483 : decode b_Law_law 483 = .ok (.iconst 0, 1) := by decide +kernel
theorem d_Law_law_484 : decode b_Law_law 484 = .ok (.ireturn, 1) := by decide +kernel
theorem d_Law_law_485 : decode b_Law_law 485 = .ok (.aload_n 1, 1) := by decide +kernel
theorem d_Law_law_486 : decode b_Law_law 486 = .ok (.aload_n 0, 1) := by decide +kernel
theorem d_Law_law_487 : decode b_Law_law 487 = .ok (.iload_n 3, 1) := by decide +kernel
theorem d_Law_law_488 : decode b_Law_law 488 = .ok (.iconst 1, 1) := by decide +kernel
theorem d_Law_law_489 : decode b_Law_law 489 = .ok (.iadd, 1) := by decide +kernel
theorem d_Law_law_490 : decode b_Law_law 490 = .ok (.iaload, 1) := by decide +kernel
theorem d_Law_law_491 : decode b_Law_law 491 = .ok (.aload_n 0, 1) := by decide +kernel
theorem d_Law_law_492 : decode b_Law_law 492 = .ok (.iload_n 3, 1) := by decide +kernel
theorem d_Law_law_493 : decode b_Law_law 493 = .ok (.iconst 2, 1) := by decide +kernel
theorem d_Law_law_494 : decode b_Law_law 494 = .ok (.iadd, 1) := by decide +kernel
theorem d_Law_law_495 : decode b_Law_law 495 = .ok (.iaload, 1) := by decide +kernel
theorem d_Law_law_496 : decode b_Law_law 496 = .ok (.aload_n 0, 1) := by decide +kernel
theorem d_Law_law_497 : decode b_Law_law 497 = .ok (.iload_n 3, 1) := by decide +kernel
theorem d_Law_law_498 : decode b_Law_law 498 = .ok (.iconst 3, 1) := by decide +kernel
theorem d_Law_law_499 : decode b_Law_law 499 = .ok (.iadd, 1) := by decide +kernel
theorem d_Law_law_500 : decode b_Law_law 500 = .ok (.iaload, 1) := by decide +kernel
theorem d_Law_law_501 : decode b_Law_law 501 = .ok (.invokevirtual 89, 3) := by decide +kernel
theorem d_Law_law_504 : decode b_Law_law 504 = .ok (.aload_n 2, 1) := by decide +kernel
theorem d_Law_law_505 : decode b_Law_law 505 = .ok (.aload_n 0, 1) := by decide +kernel
theorem d_Law_law_506 : decode b_Law_law 506 = .ok (.iload_n 3, 1) := by decide +kernel
theorem d_Law_law_507 : decode b_Law_law 507 = .ok (.iconst 1, 1) := by decide +kernel
theorem d_Law_law_508 : decode b_Law_law 508 = .ok (.iadd, 1) := by decide +kernel
theorem d_Law_law_509 : decode b_Law_law 509 = .ok (.iaload, 1) := by decide +kernel
theorem d_Law_law_510 : decode b_Law_law 510 = .ok (.aload_n 0, 1) := by decide +kernel
theorem d_Law_law_511 : decode b_Law_law 511 = .ok (.iload_n 3, 1) := by decide +kernel
theorem d_Law_law_512 : decode b_Law_law 512 = .ok (.iconst 2, 1) := by decide +kernel
theorem d_Law_law_513 : decode b_Law_law 513 = .ok (.iadd, 1) := by decide +kernel
theorem d_Law_law_514 : decode b_Law_law 514 = .ok (.iaload, 1) := by decide +kernel
theorem d_Law_law_515 : decode b_Law_law 515 = .ok (.aload_n 0, 1) := by decide +kernel
theorem d_Law_law_516 : decode b_Law_law 516 = .ok (.iload_n 3, 1) := by decide +kernel
theorem d_Law_law_517 : decode b_Law_law 517 = .ok (.iconst 3, 1) := by decide +kernel
theorem d_Law_law_518 : decode b_Law_law 518 = .ok (.iadd, 1) := by decide +kernel
theorem d_Law_law_519 : decode b_Law_law 519 = .ok (.iaload, 1) := by decide +kernel
theorem d_Law_law_520 : decode b_Law_law 520 = .ok (.invokevirtual 92, 3) := by decide +kernel
theorem d_Law_law_523 : decode b_Law_law 523 = .ok (.if_icmp .eq 84, 3) := by decide +kernel
theorem d_Law_law_526 : decode b_Law_law 526 = .ok (.iconst 0, 1) := by decide +kernel
theorem d_Law_law_527 : decode b_Law_law 527 = .ok (.ireturn, 1) := by decide +kernel
theorem d_Law_law_528 : decode b_Law_law 528 = .ok (.aload_n 1, 1) := by decide +kernel
theorem d_Law_law_529 : decode b_Law_law 529 = .ok (.aload_n 0, 1) := by decide +kernel
theorem d_Law_law_530 : decode b_Law_law 530 = .ok (.iload_n 3, 1) := by decide +kernel
theorem d_Law_law_531 : decode b_Law_law 531 = .ok (.iconst 1, 1) := by decide +kernel
theorem d_Law_law_532 : decode b_Law_law 532 = .ok (.iadd, 1) := by decide +kernel
theorem d_Law_law_533 : decode b_Law_law 533 = .ok (.iaload, 1) := by decide +kernel
theorem d_Law_law_534 : decode b_Law_law 534 = .ok (.aload_n 0, 1) := by decide +kernel
theorem d_Law_law_535 : decode b_Law_law 535 = .ok (.iload_n 3, 1) := by decide +kernel
theorem d_Law_law_536 : decode b_Law_law 536 = .ok (.iconst 2, 1) := by decide +kernel
theorem d_Law_law_537 : decode b_Law_law 537 = .ok (.iadd, 1) := by decide +kernel
theorem d_Law_law_538 : decode b_Law_law 538 = .ok (.iaload, 1) := by decide +kernel
theorem d_Law_law_539 : decode b_Law_law 539 = .ok (.invokevirtual 93, 3) := by decide +kernel
theorem d_Law_law_542 : decode b_Law_law 542 = .ok (.aload_n 2, 1) := by decide +kernel
theorem d_Law_law_543 : decode b_Law_law 543 = .ok (.aload_n 0, 1) := by decide +kernel
theorem d_Law_law_544 : decode b_Law_law 544 = .ok (.iload_n 3, 1) := by decide +kernel
theorem d_Law_law_545 : decode b_Law_law 545 = .ok (.iconst 1, 1) := by decide +kernel
theorem d_Law_law_546 : decode b_Law_law 546 = .ok (.iadd, 1) := by decide +kernel
theorem d_Law_law_547 : decode b_Law_law 547 = .ok (.iaload, 1) := by decide +kernel
theorem d_Law_law_548 : decode b_Law_law 548 = .ok (.aload_n 0, 1) := by decide +kernel
theorem d_Law_law_549 : decode b_Law_law 549 = .ok (.iload_n 3, 1) := by decide +kernel
theorem d_Law_law_550 : decode b_Law_law 550 = .ok (.iconst 2, 1) := by decide +kernel
theorem d_Law_law_551 : decode b_Law_law 551 = .ok (.iadd, 1) := by decide +kernel
theorem d_Law_law_552 : decode b_Law_law 552 = .ok (.iaload, 1) := by decide +kernel
theorem d_Law_law_553 : decode b_Law_law 553 = .ok (.invokevirtual 96, 3) := by decide +kernel
theorem d_Law_law_556 : decode b_Law_law 556 = .ok (.if_icmp .eq 51, 3) := by decide +kernel
theorem d_Law_law_559 : decode b_Law_law 559 = .ok (.iconst 0, 1) := by decide +kernel
theorem d_Law_law_560 : decode b_Law_law 560 = .ok (.ireturn, 1) := by decide +kernel
theorem d_Law_law_561 : decode b_Law_law 561 = .ok (.aload_n 1, 1) := by decide +kernel
theorem d_Law_law_562 : decode b_Law_law 562 = .ok (.aload_n 0, 1) := by decide +kernel
theorem d_Law_law_563 : decode b_Law_law 563 = .ok (.iload_n 3, 1) := by decide +kernel
theorem d_Law_law_564 : decode b_Law_law 564 = .ok (.iconst 1, 1) := by decide +kernel
theorem d_Law_law_565 : decode b_Law_law 565 = .ok (.iadd, 1) := by decide +kernel
theorem d_Law_law_566 : decode b_Law_law 566 = .ok (.iaload, 1) := by decide +kernel
theorem d_Law_law_567 : decode b_Law_law 567 = .ok (.aload_n 0, 1) := by decide +kernel
theorem d_Law_law_568 : decode b_Law_law 568 = .ok (.iload_n 3, 1) := by decide +kernel
theorem d_Law_law_569 : decode b_Law_law 569 = .ok (.iconst 2, 1) := by decide +kernel
theorem d_Law_law_570 : decode b_Law_law 570 = .ok (.iadd, 1) := by decide +kernel
theorem d_Law_law_571 : decode b_Law_law 571 = .ok (.iaload, 1) := by decide +kernel
theorem d_Law_law_572 : decode b_Law_law 572 = .ok (.invokevirtual 97, 3) := by decide +kernel
theorem d_Law_law_575 : decode b_Law_law 575 = .ok (.aload_n 2, 1) := by decide +kernel
theorem d_Law_law_576 : decode b_Law_law 576 = .ok (.aload_n 0, 1) := by decide +kernel
theorem d_Law_law_577 : decode b_Law_law 577 = .ok (.iload_n 3, 1) := by decide +kernel
theorem d_Law_law_578 : decode b_Law_law 578 = .ok (.iconst 1, 1) := by decide +kernel
theorem d_Law_law_579 : decode b_Law_law 579 = .ok (.iadd, 1) := by decide +kernel
theorem d_Law_law_580 : decode b_Law_law 580 = .ok (.iaload, 1) := by decide +kernel
theorem d_Law_law_581 : decode b_Law_law 581 = .ok (.aload_n 0, 1) := by decide +kernel
theorem d_Law_law_582 : decode b_Law_law 582 = .ok (.iload_n 3, 1) := by decide +kernel
theorem d_Law_law_583 : decode b_Law_law 583 = .ok (.iconst 2, 1) := by decide +kernel
theorem d_Law_law_584 : decode b_Law_law 584 = .ok (.iadd, 1) := by decide +kernel
theorem d_Law_law_585 : decode b_Law_law 585 = .ok (.iaload, 1) := by decide +kernel
theorem d_Law_law_586 : decode b_Law_law 586 = .ok (.invokevirtual 100, 3) := by decide +kernel
theorem d_Law_law_589 : decode b_Law_law 589 = .ok (.if_icmp .eq 18, 3) := by decide +kernel
theorem d_Law_law_592 : decode b_Law_law 592 = .ok (.iconst 0, 1) := by decide +kernel
theorem d_Law_law_593 : decode b_Law_law 593 = .ok (.ireturn, 1) := by decide +kernel
theorem d_Law_law_594 : decode b_Law_law 594 = .ok (.aload_n 1, 1) := by decide +kernel
theorem d_Law_law_595 : decode b_Law_law 595 = .ok (.invokevirtual 101, 3) := by decide +kernel
theorem d_Law_law_598 : decode b_Law_law 598 = .ok (.aload_n 2, 1) := by decide +kernel
theorem d_Law_law_599 : decode b_Law_law 599 = .ok (.invokevirtual 104, 3) := by decide +kernel
theorem d_Law_law_602 : decode b_Law_law 602 = .ok (.if_icmp .eq 5, 3) := by decide +kernel
theorem d_Law_law_605 : decode b_Law_law 605 = .ok (.iconst 0, 1) := by decide +kernel
theorem d_Law_law_606 : decode b_Law_law 606 = .ok (.ireturn, 1) := by decide +kernel
theorem d_Law_law_607 : decode b_Law_law 607 = .ok (.iinc 3 4, 3) := by decide +kernel
theorem d_Law_law_610 : decode b_Law_law 610 = .ok (.goto (-582), 3) := by decide +kernel
theorem d_Law_law_613 : decode b_Law_law 613 = .ok (.iconst 1, 1) := by decide +kernel
theorem d_Law_law_614 : decode b_Law_law 614 = .ok (.ireturn, 1) := by decide +kernel
end
section
/-! WHAT A TEXT IS: n units t 0 .. t (n - 1); behind them t is -1 -/
def tx_ok (n : Nat) (t : Nat → Int) : Prop := (∀ i, i < n → 0 ≤ t i ∧ t i < 65536) ∧ ∀ i, n ≤ i → t i = -1
theorem tx_ge {n : Nat} {t : Nat → Int} (h : tx_ok n t) (i : Nat) : -1 ≤ t i ∧ t i < 65536 := by
  rcases Nat.lt_or_ge i n with h1 | h1
  · have := h.1 i h1
    omega
  · have := h.2 i h1
    omega
theorem tx_none {n : Nat} {t : Nat → Int} (h : tx_ok n t) (i : Nat) : t i = -1 ↔ n ≤ i := by
  constructor
  · intro h1
    rcases Nat.lt_or_ge i n with h2 | h2
    · have := h.1 i h2
      omega
    · exact h2
  · exact h.2 i
/-- the first n units of a row -/
def tx_of (n : Nat) (u : Nat → Int) : Nat → Int := fun i => if i < n then u i else -1
theorem tx_of_lt {n i : Nat} {u : Nat → Int} (h : i < n) : tx_of n u i = u i := if_pos h
theorem tx_of_ge {n i : Nat} {u : Nat → Int} (h : n ≤ i) : tx_of n u i = -1 := if_neg (Nat.not_lt.mpr h)
theorem tx_of_ok {n : Nat} {u : Nat → Int} (h : ∀ i, i < n → 0 ≤ u i ∧ u i < 65536) : tx_ok n (tx_of n u) := ⟨fun i hi => by rw [tx_of_lt hi]; exact h i hi, fun i hi => tx_of_ge hi⟩
theorem tx_of_eq {n : Nat} {u t : Nat → Int} (ht : tx_ok n t) (h : ∀ i, i < n → u i = t i) : tx_of n u = t := by
  funext i
  rcases Nat.lt_or_ge i n with h1 | h1
  · rw [tx_of_lt h1, h i h1]
  · rw [tx_of_ge h1, ht.2 i h1]
theorem tx_ext {n : Nat} {t t' : Nat → Int} (ht : tx_ok n t) (ht' : tx_ok n t') (h : ∀ i, i < n → t i = t' i) : t = t' := by
  funext i
  rcases Nat.lt_or_ge i n with h1 | h1
  · exact h i h1
  · rw [ht.2 i h1, ht'.2 i h1]
/-- units a .. b - 1 go, and c units of p come in at a -/
def tx_ed (t : Nat → Int) (a b c : Nat) (p : Nat → Int) : Nat → Int := fun i => if i < a then t i else if i < a + c then p (i - a) else t (i - (a + c) + b)
theorem tx_ed_ok {n : Nat} {t p : Nat → Int} {a b c : Nat} (h : tx_ok n t) (hab : a ≤ b) (hb : b ≤ n) (hp : ∀ i, i < c → 0 ≤ p i ∧ p i < 65536) : tx_ok (n - (b - a) + c) (tx_ed t a b c p) := by
  refine ⟨fun i hi => ?_, fun i hi => ?_⟩
  · unfold tx_ed
    split
    · exact h.1 i (by omega)
    · split
      · exact hp _ (by omega)
      · exact h.1 _ (by omega)
  · unfold tx_ed
    rw [if_neg (by omega), if_neg (by omega)]
    exact h.2 _ (by omega)
/-! HOW MANY, AND WHERE -/
def cnt (B : Nat → Bool) : Nat → Nat
  | 0 => 0
  | p + 1 => if B p then cnt B p + 1 else cnt B p
theorem cnt_t {B : Nat → Bool} {p : Nat} (h : B p = true) : cnt B (p + 1) = cnt B p + 1 := by simp [cnt, h]
theorem cnt_f {B : Nat → Bool} {p : Nat} (h : B p = false) : cnt B (p + 1) = cnt B p := by simp [cnt, h]
theorem cnt_mono {B : Nat → Bool} {p q : Nat} (h : p ≤ q) : cnt B p ≤ cnt B q := by
  induction q with
  | zero =>
    have : p = 0 := by omega
    subst this
    exact Nat.le_refl _
  | succ q ih =>
    rcases Nat.lt_or_ge p (q + 1) with h1 | h1
    · have h2 := ih (by omega)
      cases hb : B q with
      | true => rw [cnt_t hb]; omega
      | false => rw [cnt_f hb]; omega
    · have : p = q + 1 := by omega
      subst this
      exact Nat.le_refl _
theorem cnt_le {B : Nat → Bool} (p : Nat) : cnt B p ≤ p := by
  induction p with
  | zero => exact Nat.le_refl _
  | succ p ih =>
    cases hb : B p with
    | true => rw [cnt_t hb]; omega
    | false => rw [cnt_f hb]; omega
theorem cnt_lt {B : Nat → Bool} {p q : Nat} (hp : B p = true) (h : p < q) : cnt B p < cnt B q := by
  have h1 := cnt_mono (B := B) (show p + 1 ≤ q by omega)
  rw [cnt_t hp] at h1
  omega
/-- every number below the count is the count at a place that has B -/
theorem cnt_at {B : Nat → Bool} {p j : Nat} (h : j < cnt B p) : ∃ q, q < p ∧ B q = true ∧ cnt B q = j := by
  induction p with
  | zero => simp [cnt] at h
  | succ p ih =>
    cases hb : B p with
    | true =>
      rw [cnt_t hb] at h
      rcases Nat.lt_or_ge j (cnt B p) with h1 | h1
      · obtain ⟨q, q1, q2, q3⟩ := ih h1
        exact ⟨q, by omega, q2, q3⟩
      · exact ⟨p, by omega, hb, by omega⟩
    | false =>
      rw [cnt_f hb] at h
      obtain ⟨q, q1, q2, q3⟩ := ih h
      exact ⟨q, by omega, q2, q3⟩
theorem cnt_congr {B B' : Nat → Bool} {p : Nat} (h : ∀ q, q < p → B q = B' q) : cnt B p = cnt B' p := by
  induction p with
  | zero => rfl
  | succ p ih =>
    have h1 := ih (fun q hq => h q (by omega))
    have h2 := h p (by omega)
    cases hb : B p with
    | true => rw [cnt_t hb, cnt_t (by rw [← h2]; exact hb), h1]
    | false => rw [cnt_f hb, cnt_f (by rw [← h2]; exact hb), h1]
/-- f holds, in order, the places below p that have B -/
def sel (B : Nat → Bool) (p : Nat) (f : Nat → Int) : Prop := ∀ q, q < p → B q = true → f (cnt B q) = (q : Int)
theorem sel_t {B : Nat → Bool} {p : Nat} {f : Nat → Int} (h : sel B p f) (hb : B p = true) : sel B (p + 1) (zup f (cnt B p) (p : Int)) := by
  intro q hq hbq
  rcases Nat.lt_or_ge q p with h1 | h1
  · rw [zup_ne (by have := cnt_lt hbq h1; omega)]
    exact h q h1 hbq
  · have : q = p := by omega
    subst this
    exact zup_eq _ _ _
theorem sel_f {B : Nat → Bool} {p : Nat} {f : Nat → Int} (h : sel B p f) (hb : B p = false) : sel B (p + 1) f := by
  intro q hq hbq
  rcases Nat.lt_or_ge q p with h1 | h1
  · exact h q h1 hbq
  · have : q = p := by omega
    subst this
    rw [hb] at hbq
    cases hbq
/-! POINTS, LINES, CLUSTERS: where an item begins -/
def u_hi (x : Int) : Bool := decide (55296 ≤ x ∧ x ≤ 56319)
def u_lo (x : Int) : Bool := decide (56320 ≤ x ∧ x ≤ 57343)
def is_mark (x : Int) : Bool := decide (768 ≤ x ∧ x ≤ 879)
def is_pic (x : Int) : Bool := decide (127744 ≤ x ∧ x ≤ 129791)
def is_flag (x : Int) : Bool := decide (127462 ≤ x ∧ x ≤ 127487)
/-- the unit before place p -/
def t_pre (t : Nat → Int) : Nat → Int
  | 0 => -1
  | p + 1 => t p
def bg1 (t : Nat → Int) (p : Nat) : Bool := decide (t p ≠ -1) && !(u_hi (t_pre t p) && u_lo (t p))
def bg2 (n : Nat) (t : Nat → Int) (p : Nat) : Bool := decide (p ≤ n) && (decide (p = 0) || decide (t_pre t p = 10) || (decide (t_pre t p = 13) && decide (t p ≠ 10)))
def cod (t : Nat → Int) (p : Nat) : Int := if u_hi (t p) && u_lo (t (p + 1)) then 65536 + 1024 * (t p - 55296) + t (p + 1) - 56320 else t p
/-- whether the point x is joined to what the walk has come to: the last point, the latest before it that is no mark, the flags before it -/
def jn (last lead : Int) (fl : Nat) (x : Int) : Bool :=
  if is_mark x || decide (x = 8205) then decide (31 < last)
  else if is_pic x then decide (last = 8205) && is_pic lead
  else if is_flag x then is_flag last && decide (fl % 2 = 0)
  else decide (last = 13) && decide (x = 10)
/-- the walk over the points before place p -/
def wk (t : Nat → Int) : Nat → Int × Int × Nat
  | 0 => (-1, -1, 0)
  | p + 1 => if bg1 t p then (cod t p, if is_mark (wk t p).1 then (wk t p).2.1 else (wk t p).1, if is_flag (wk t p).1 then (wk t p).2.2 + 1 else 0) else wk t p
def bg3 (t : Nat → Int) (p : Nat) : Bool := bg1 t p && (decide ((wk t p).1 = -1) || !jn (wk t p).1 (wk t p).2.1 (wk t p).2.2 (cod t p))
def bg (m : Int) (n : Nat) (t : Nat → Int) (p : Nat) : Bool :=
  if m = 0 then decide (p < n) else if m = 1 then bg1 t p else if m = 2 then bg2 n t p else bg3 t p
/-! rows that hold texts -/
def tat (t : Nat → Int) (a : Int) : Int := if a < 0 then -1 else t a.toNat
theorem tat_neg {t : Nat → Int} {a : Int} (h : a < 0) : tat t a = -1 := if_pos h
theorem tat_n (t : Nat → Int) (j : Nat) : tat t (j : Int) = t j := by
  unfold tat
  rw [if_neg (by omega)]
  rfl
theorem tat_ge {n : Nat} {t : Nat → Int} {a : Int} (ht : tx_ok n t) (h : (n : Int) ≤ a) : tat t a = -1 := by
  unfold tat
  rw [if_neg (by omega)]
  exact ht.2 _ (by omega)
theorem tat_rg {n : Nat} {t : Nat → Int} (ht : tx_ok n t) (a : Int) : -1 ≤ tat t a ∧ tat t a < 65536 := by
  unfold tat
  split
  · omega
  · exact tx_ge ht _
def ch (x : Int) : Prop := 0 ≤ x ∧ x < 65536
theorem zcp_in {u v : Nat → Int} {sp dp n k : Nat} (h : dp ≤ k ∧ k < dp + n) : zcp u v sp dp n k = u (sp + (k - dp)) := if_pos h
theorem zcp_out {u v : Nat → Int} {sp dp n k : Nat} (h : ¬ (dp ≤ k ∧ k < dp + n)) : zcp u v sp dp n k = v k := if_neg h
theorem zcp_ch {u v : Nat → Int} {sp dp n n0 n1 : Nat} (hu : ∀ k, k < n0 → 0 ≤ u k ∧ u k < 65536) (hv : ∀ k, k < n1 → 0 ≤ v k ∧ v k < 65536) (hs : sp + n ≤ n0) : ∀ k, k < n1 → 0 ≤ zcp u v sp dp n k ∧ zcp u v sp dp n k < 65536 := by
  intro k hk
  by_cases h : dp ≤ k ∧ k < dp + n
  · rw [zcp_in h]
    exact hu _ (by omega)
  · rw [zcp_out h]
    exact hv k hk
theorem tx_zup {n : Nat} {t : Nat → Int} {c : Int} (h : tx_ok n t) (hc : 0 ≤ c ∧ c < 65536) : tx_ok (n + 1) (zup t n c) := by
  refine ⟨fun i hi => ?_, fun i hi => ?_⟩
  · by_cases h1 : i = n
    · rw [h1, zup_eq]; exact hc
    · rw [zup_ne h1]; exact h.1 i (by omega)
  · rw [zup_ne (by omega)]; exact h.2 i (by omega)
/-- the cut of a row -/
theorem row_cut {u t p : Nat → Int} {n a b : Nat} (hut : ∀ k, k < n → u k = t k) (hab : a ≤ b) (hb : b ≤ n) : ∀ k, k < n - (b - a) → zcp u u b a (n - b) k = tx_ed t a b 0 p k := by
  intro k hk
  unfold tx_ed
  by_cases h : k < a
  · rw [if_pos h, zcp_out (by omega)]
    exact hut k (by omega)
  · rw [if_neg h, if_neg (by omega), zcp_in (by omega), hut _ (by omega)]
    congr 1
    omega
/-- what comes in at a place of a row: its rest moves, then the clip is laid -/
theorem row_put {u v t p : Nat → Int} {n a c : Nat} (hut : ∀ k, k < n → u k = t k) (ha : a ≤ n) (h1 : ∀ k, a ≤ k → k < a + c → v k = p (k - a)) (h2 : ∀ k, ¬ (a ≤ k ∧ k < a + c) → v k = zcp u u a (a + c) (n - a) k) : ∀ k, k < n + c → v k = tx_ed t a a c p k := by
  intro k hk
  unfold tx_ed
  by_cases h : k < a
  · rw [if_pos h, h2 k (by omega), zcp_out (by omega)]
    exact hut k (by omega)
  · rw [if_neg h]
    by_cases h3 : k < a + c
    · rw [if_pos h3]
      exact h1 k (by omega) h3
    · rw [if_neg h3, h2 k (by omega), zcp_in (by omega), hut _ (by omega)]
      congr 1
      omega
theorem tx_ed_ed {t p q : Nat → Int} {a b c : Nat} (hab : a ≤ b) : tx_ed (tx_ed t a b 0 q) a a c p = tx_ed t a b c p := by
  funext k
  unfold tx_ed
  by_cases h : k < a
  · simp [h]
  · by_cases h3 : k < a + c
    · simp [h, h3]
    · rw [if_neg h, if_neg h3, if_neg (by omega), if_neg (by omega), if_neg h, if_neg h3]
      congr 1
      omega
theorem zup_ch {u : Nat → Int} {n cap : Nat} {x : Int} (hu : ∀ k, k < cap → 0 ≤ u k ∧ u k < 65536) (hx : 0 ≤ x ∧ x < 65536) : ∀ k, k < cap → 0 ≤ zup u n x k ∧ zup u n x k < 65536 := by
  intro k hk
  by_cases h9 : k = n
  · rw [h9, zup_eq]; exact hx
  · rw [zup_ne h9]; exact hu k hk
theorem zup_ag {u t : Nat → Int} {n : Nat} {x : Int} (h : ∀ k, k < n → u k = t k) : ∀ k, k < n + 1 → zup u n x k = zup t n x k := by
  intro k hk
  by_cases h9 : k = n
  · rw [h9, zup_eq, zup_eq]
  · rw [zup_ne h9, zup_ne h9]; exact h k (by omega)
/-! a row with a gap: units before gs, and from ge on; g = ge - gs -/
theorem gap_l {u t : Nat → Int} {n gs g a : Nat} (h1 : ∀ k, k < gs → u k = t k) (h2 : ∀ k, gs ≤ k → k < n → u (k + g) = t k) (ha : a < gs) : (∀ k, k < a → zcp u u a (a + g) (gs - a) k = t k) ∧ ∀ k, a ≤ k → k < n → zcp u u a (a + g) (gs - a) (k + g) = t k := by
  refine ⟨fun k hk => ?_, fun k hk hn => ?_⟩
  · rw [zcp_out (by omega)]
    exact h1 k (by omega)
  · by_cases h : k < gs
    · rw [zcp_in (by omega), show a + (k + g - (a + g)) = k by omega]
      exact h1 k h
    · rw [zcp_out (by omega)]
      exact h2 k (by omega) hn
theorem gap_r {u t : Nat → Int} {n gs g a : Nat} (h1 : ∀ k, k < gs → u k = t k) (h2 : ∀ k, gs ≤ k → k < n → u (k + g) = t k) (ha : gs ≤ a) (hn : a ≤ n) : (∀ k, k < a → zcp u u (gs + g) gs (a - gs) k = t k) ∧ ∀ k, a ≤ k → k < n → zcp u u (gs + g) gs (a - gs) (k + g) = t k := by
  refine ⟨fun k hk => ?_, fun k hk hkn => ?_⟩
  · by_cases h : k < gs
    · rw [zcp_out (by omega)]
      exact h1 k h
    · rw [zcp_in (by omega), show gs + g + (k - gs) = k + g by omega]
      exact h2 k (by omega) (by omega)
  · rw [zcp_out (by omega)]
    exact h2 k (by omega) hkn
theorem gap_cut {u t p : Nat → Int} {n g a b : Nat} (h1 : ∀ k, k < a → u k = t k) (h2 : ∀ k, a ≤ k → k < n → u (k + g) = t k) (hab : a ≤ b) (hb : b ≤ n) : (∀ k, k < a → u k = tx_ed t a b 0 p k) ∧ ∀ k, a ≤ k → k < n - (b - a) → u (k + (g + (b - a))) = tx_ed t a b 0 p k := by
  refine ⟨fun k hk => ?_, fun k hk hkn => ?_⟩
  · unfold tx_ed
    rw [if_pos hk]
    exact h1 k hk
  · unfold tx_ed
    rw [if_neg (by omega), if_neg (by omega), show k + (g + (b - a)) = (k - (a + 0) + b) + g by omega]
    exact h2 _ (by omega) (by omega)
theorem gap_put {u v t p : Nat → Int} {n g a c : Nat} (h1 : ∀ k, k < a → u k = t k) (h2 : ∀ k, a ≤ k → k < n → u (k + g) = t k) (hc : c ≤ g) (hv1 : ∀ k, a ≤ k → k < a + c → v k = p (k - a)) (hv2 : ∀ k, ¬ (a ≤ k ∧ k < a + c) → v k = u k) : (∀ k, k < a + c → v k = tx_ed t a a c p k) ∧ ∀ k, a + c ≤ k → k < n + c → v (k + (g - c)) = tx_ed t a a c p k := by
  refine ⟨fun k hk => ?_, fun k hk hkn => ?_⟩
  · unfold tx_ed
    by_cases h : k < a
    · rw [if_pos h, hv2 k (by omega)]
      exact h1 k h
    · rw [if_neg h, if_pos hk]
      exact hv1 k (by omega) hk
  · unfold tx_ed
    rw [if_neg (by omega), if_neg (by omega), hv2 _ (by omega), show k + (g - c) = (k - (a + c) + a) + g by omega]
    exact h2 _ (by omega) (by omega)
end
section
/-! RowText: its cell i, its row i + 1 -/
def Rw (G : lx_G) (h : Nat → va_E) (i cap n : Nat) (t : Nat → Int) : Prop := ∃ u : Nat → Int, h i = ob ci_Row [.ref (ad (g_b G) (i + 1)), vI (n : Int)] ∧ h (i + 1) = rC G cap u ∧ n ≤ cap ∧ cap ≤ 160 ∧ (∀ k, k < cap → 0 ≤ u k ∧ u k < 65536) ∧ (∀ k, k < n → u k = t k) ∧ tx_ok n t
theorem Rw.fr {G : lx_G} {h h' : Nat → va_E} {i cap n : Nat} {t : Nat → Int} (hT : Rw G h i cap n t) (e0 : h' i = h i) (e1 : h' (i + 1) = h (i + 1)) : Rw G h' i cap n t := by
  obtain ⟨u, c0, c1, r⟩ := hT
  exact ⟨u, e0.trans c0, e1.trans c1, r⟩
theorem Rw.ok {G : lx_G} {h : Nat → va_E} {i cap n : Nat} {t : Nat → Int} (hT : Rw G h i cap n t) : tx_ok n t := by
  obtain ⟨u, c0, c1, h1, h2, h3, h4, h5⟩ := hT
  exact h5
theorem Rw.le {G : lx_G} {h : Nat → va_E} {i cap n : Nat} {t : Nat → Int} (hT : Rw G h i cap n t) : n ≤ cap ∧ cap ≤ 160 := by
  obtain ⟨u, c0, c1, h1, h2, h3, h4, h5⟩ := hT
  exact ⟨h1, h2⟩

set_option maxRecDepth 100000 in
set_option maxHeartbeats 4000000 in
theorem c_Row_length {l : Launch} {G : lx_G} {N : Nat} {h : Nat → va_E} {i cap n : Nat} {t : Nat → Int} (hT : Rw G h i cap n t) (hN : i + 1 < N) : CtI l G m_Row_length N [.ref (ad (g_b G) i)] h (fun z h' => z = (n : Int) ∧ h' = h) := by
  obtain ⟨u, hc0, hc1, hcap, hcap2, hch, hut, htx⟩ := hT
  refine zI_of (by decide) rfl rfl ?_
  intro k X Q
  have X : Cx k G R_Row b_Row_length 1 rm_Row_length := X
  have Q : Rt k G (some (.int)) N 0 0 (pI (fun z h' => z = (n : Int) ∧ h' = h)) := Q
  show Ev k G 1 N 0 0 h 0 [some (.ref (ad (g_b G) i))] []
  refine e_aload_n X d_Row_length_0 rfl ?_
  refine e_get X d_Row_length_1 fl_Row_15 hc0 (by omega) rfl ?_
  exact z_ireturn X Q d_Row_length_4 rfl ⟨rfl, rfl⟩

set_option maxRecDepth 100000 in
set_option maxHeartbeats 4000000 in
theorem c_Row_at {l : Launch} {G : lx_G} {N : Nat} {h : Nat → va_E} {i cap n : Nat} {t : Nat → Int} {a : Int} (hT : Rw G h i cap n t) (hN : i + 1 < N) (ha : -2147483648 ≤ a ∧ a < 2147483648) : CtI l G m_Row_at N [.ref (ad (g_b G) i), vI (a)] h (fun z h' => z = tat t a ∧ h' = h) := by
  obtain ⟨u, hc0, hc1, hcap, hcap2, hch, hut, htx⟩ := hT
  refine zI_of (by decide) rfl rfl ?_
  intro k X Q
  have X : Cx k G R_Row b_Row_at 2 rm_Row_at := X
  have Q : Rt k G (some (.int)) N 0 0 (pI (fun z h' => z = tat t a ∧ h' = h)) := Q
  show Ev k G 2 N 0 0 h 0 [some (.ref (ad (g_b G) i)), some (vI (a))] []
  refine z_iload_n X d_Row_at_0 rfl ?_
  refine z_if_lt (tgt := 21) X d_Row_at_1 (by decide) (by omega) (fun q1 => ?_) (fun q1 => ?_)
  · refine z_iconst X d_Row_at_21 ?_
    exact z_ireturn X Q d_Row_at_22 rfl ⟨(tat_neg q1).symm, rfl⟩
  · refine z_iload_n X d_Row_at_4 rfl ?_
    refine e_aload_n X d_Row_at_5 rfl ?_
    refine e_get X d_Row_at_6 fl_Row_15 hc0 (by omega) rfl ?_
    refine z_icmp_ge (tgt := 21) X d_Row_at_9 (by decide) (by omega) (fun q2 => ?_) (fun q2 => ?_)
    · refine z_iconst X d_Row_at_21 ?_
      exact z_ireturn X Q d_Row_at_22 rfl ⟨(tat_ge htx q2).symm, rfl⟩
    · obtain ⟨j, rfl⟩ : ∃ j : Nat, a = (j : Int) := ⟨a.toNat, by omega⟩
      refine e_aload_n X d_Row_at_12 rfl ?_
      refine e_get X d_Row_at_13 fl_Row_9 hc0 (by omega) rfl ?_
      refine z_iload_n X d_Row_at_16 rfl ?_
      refine z_cald X d_Row_at_17 (j := j) hc1 (by omega) (by omega) (by omega) ?_
      refine e_goto (tgt := 22) X d_Row_at_18 (by decide) ?_
      exact z_ireturn X Q d_Row_at_22 rfl ⟨(hut j (by omega)).trans (tat_n t j).symm, rfl⟩

set_option maxRecDepth 100000 in
set_option maxHeartbeats 4000000 in
theorem c_Row_cut {l : Launch} {G : lx_G} {N : Nat} {h : Nat → va_E} {i cap n : Nat} {t : Nat → Int} {a b : Nat} (hT : Rw G h i cap n t) (hN : i + 1 < N) (hab : a ≤ b) (hb : b ≤ n) : CtV l G m_Row_cut N [.ref (ad (g_b G) i), vI ((a : Nat) : Int), vI ((b : Nat) : Int)] h (fun h' => Rw G h' i cap (n - (b - a)) (tx_ed t a b 0 t) ∧ ∀ j, j ≠ i → j ≠ i + 1 → h' j = h j) := by
  obtain ⟨u, hc0, hc1, hcap, hcap2, hch, hut, htx⟩ := hT
  refine zV_of (by decide) rfl rfl ?_
  intro k X Q
  have X : Cx k G R_Row b_Row_cut 3 rm_Row_cut := X
  have Q : Rt k G none N 0 0 (pV (fun h' => Rw G h' i cap (n - (b - a)) (tx_ed t a b 0 t) ∧ ∀ j, j ≠ i → j ≠ i + 1 → h' j = h j)) := Q
  show Ev k G 3 N 0 0 h 0 [some (.ref (ad (g_b G) i)), some (vI ((a : Nat) : Int)), some (vI ((b : Nat) : Int))] []
  refine e_aload_n X d_Row_cut_0 rfl ?_
  refine e_get X d_Row_cut_1 fl_Row_9 hc0 (by omega) rfl ?_
  refine z_iload_n X d_Row_cut_4 rfl ?_
  refine e_aload_n X d_Row_cut_5 rfl ?_
  refine e_get X d_Row_cut_6 fl_Row_9 hc0 (by omega) rfl ?_
  refine z_iload_n X d_Row_cut_9 rfl ?_
  refine e_aload_n X d_Row_cut_10 rfl ?_
  refine e_get X d_Row_cut_11 fl_Row_15 hc0 (by omega) rfl ?_
  refine z_iload_n X d_Row_cut_14 rfl ?_
  refine z_isub X d_Row_cut_15 ?_
  refine z_ccopy X d_Row_cut_16 ac_Row (sp := b) (dp := a) (n := n - b) hc1 (by omega) hc1 (by omega) (by omega) (by omega) (fun k9 hk9 => hch _ (by omega)) ⟨Nat.le_of_ble_eq_true rfl, Nat.le_of_ble_eq_true rfl⟩ (fun h1 c2 fr3 => ?_)
  have c4 := (fr3 i (by omega)).trans hc0
  refine e_aload_n X d_Row_cut_19 rfl ?_
  refine e_dup X d_Row_cut_20 rfl ?_
  refine e_get X d_Row_cut_21 fl_Row_15 c4 (by omega) rfl ?_
  refine z_iload_n X d_Row_cut_24 rfl ?_
  refine z_iload_n X d_Row_cut_25 rfl ?_
  refine z_isub X d_Row_cut_26 ?_
  refine z_isub X d_Row_cut_27 ?_
  refine z_top (show _ = ((n - (b - a) : Nat) : Int) by omega) ?_
  refine z_put X d_Row_cut_28 fl_Row_15 c4 (by omega) (Nat.le_of_ble_eq_true rfl) rfl rfl (fun h5 c6 fr7 => ?_)
  have c6 : h5 i = ob ci_Row [.ref (ad (g_b G) (i + 1)), vI ((n - (b - a) : Nat) : Int)] := c6
  have c8 := (fr7 (i + 1) (by omega)).trans c2
  have e0 := c6
  have e1 := c8
  exact z_return X Q d_Row_cut_31 ⟨⟨_, e0, e1, by omega, hcap2, zcp_ch hch hch (by omega), row_cut hut hab hb, tx_ed_ok htx hab hb (fun k9 hk9 => absurd hk9 (Nat.not_lt_zero _))⟩, fun j q1 q2 => (fr7 j q1).trans (fr3 j q2)⟩

set_option maxRecDepth 100000 in
set_option maxHeartbeats 4000000 in
theorem c_Row_copyInto {l : Launch} {G : lx_G} {N : Nat} {h : Nat → va_E} {i cap n : Nat} {t : Nat → Int} {r cr a : Nat} {v : Nat → Int} (hT : Rw G h i cap n t) (hN : i + 1 < N) (hr : h r = rC G cr v) (hrN : r < N ∧ r ≠ i ∧ r ≠ i + 1) (hcr : cr ≤ 160 ∧ a + n ≤ cr) (hv : ∀ k, k < cr → 0 ≤ v k ∧ v k < 65536) : CtV l G m_Row_copyInto N [.ref (ad (g_b G) i), .ref (ad (g_b G) r), vI ((a : Nat) : Int)] h (fun h' => ∃ v', h' r = rC G cr v' ∧ (∀ k, k < cr → 0 ≤ v' k ∧ v' k < 65536) ∧ (∀ k, a ≤ k → k < a + n → v' k = t (k - a)) ∧ (∀ k, ¬ (a ≤ k ∧ k < a + n) → v' k = v k) ∧ ∀ j, j ≠ r → h' j = h j) := by
  obtain ⟨u, hc0, hc1, hcap, hcap2, hch, hut, htx⟩ := hT
  refine zV_of (by decide) rfl rfl ?_
  intro k X Q
  have X : Cx k G R_Row b_Row_copyInto 3 rm_Row_copyInto := X
  have Q : Rt k G none N 0 0 (pV (fun h' => ∃ v', h' r = rC G cr v' ∧ (∀ k, k < cr → 0 ≤ v' k ∧ v' k < 65536) ∧ (∀ k, a ≤ k → k < a + n → v' k = t (k - a)) ∧ (∀ k, ¬ (a ≤ k ∧ k < a + n) → v' k = v k) ∧ ∀ j, j ≠ r → h' j = h j)) := Q
  show Ev k G 3 N 0 0 h 0 [some (.ref (ad (g_b G) i)), some (.ref (ad (g_b G) r)), some (vI ((a : Nat) : Int))] []
  refine e_aload_n X d_Row_copyInto_0 rfl ?_
  refine e_get X d_Row_copyInto_1 fl_Row_9 hc0 (by omega) rfl ?_
  refine z_iconst X d_Row_copyInto_4 ?_
  refine e_aload_n X d_Row_copyInto_5 rfl ?_
  refine z_iload_n X d_Row_copyInto_6 rfl ?_
  refine e_aload_n X d_Row_copyInto_7 rfl ?_
  refine e_get X d_Row_copyInto_8 fl_Row_15 hc0 (by omega) rfl ?_
  refine z_ccopy X d_Row_copyInto_11 ac_Row (sp := 0) (dp := a) (n := n) hc1 (by omega) hr (by omega) (by omega) (by omega) (fun k9 hk9 => hch _ (by omega)) ⟨Nat.le_of_ble_eq_true rfl, Nat.le_of_ble_eq_true rfl⟩ (fun h1 c2 fr3 => ?_)
  have c4 := (fr3 i (by omega)).trans hc0
  have c5 := (fr3 (i + 1) (by omega)).trans hc1
  have e1 := c2
  exact z_return X Q d_Row_copyInto_14 ⟨_, e1, zcp_ch hch hv (by omega), fun k9 h1 h2 => by rw [zcp_in ⟨h1, h2⟩, hut _ (by omega), Nat.zero_add], fun k9 h1 => zcp_out h1, fun j q => fr3 j q⟩

set_option maxRecDepth 100000 in
set_option maxHeartbeats 4000000 in
theorem c_Row_put {l : Launch} {G : lx_G} {N : Nat} {h : Nat → va_E} {i cap n : Nat} {t : Nat → Int} {o oc c a : Nat} {p : Nat → Int} (hT : Rw G h i cap n t) (hN : i + 1 < N) (hO : Rw G h o oc c p) (hoN : o + 1 < N) (hne : o ≠ i ∧ o ≠ i + 1 ∧ o + 1 ≠ i) (ha : a ≤ n) (hfit : n + c ≤ cap) : CtV l G m_Row_put N [.ref (ad (g_b G) i), vI ((a : Nat) : Int), .ref (ad (g_b G) o)] h (fun h' => Rw G h' i cap (n + c) (tx_ed t a a c p) ∧ ∀ j, j ≠ i → j ≠ i + 1 → h' j = h j) := by
  obtain ⟨u, hc0, hc1, hcap, hcap2, hch, hut, htx⟩ := hT
  obtain ⟨ou, ho0, ho1, hoc, hoc2, hoch, hout, hotx⟩ := hO
  refine zV_of (by decide) rfl rfl ?_
  intro k X Q
  have X : Cx k G R_Row b_Row_put 3 rm_Row_put := X
  have Q : Rt k G none N 0 0 (pV (fun h' => Rw G h' i cap (n + c) (tx_ed t a a c p) ∧ ∀ j, j ≠ i → j ≠ i + 1 → h' j = h j)) := Q
  show Ev k G 3 N 0 0 h 0 [some (.ref (ad (g_b G) i)), some (vI ((a : Nat) : Int)), some (.ref (ad (g_b G) o))] []
  refine e_aload_n X d_Row_put_0 rfl ?_
  refine e_get X d_Row_put_1 fl_Row_9 hc0 (by omega) rfl ?_
  refine z_iload_n X d_Row_put_4 rfl ?_
  refine e_aload_n X d_Row_put_5 rfl ?_
  refine e_get X d_Row_put_6 fl_Row_9 hc0 (by omega) rfl ?_
  refine z_iload_n X d_Row_put_9 rfl ?_
  refine e_aload_n X d_Row_put_10 rfl ?_
  refine e_get X d_Row_put_11 fl_Row_15 ho0 (by omega) rfl ?_
  refine z_iadd X d_Row_put_14 ?_
  refine e_aload_n X d_Row_put_15 rfl ?_
  refine e_get X d_Row_put_16 fl_Row_15 hc0 (by omega) rfl ?_
  refine z_iload_n X d_Row_put_19 rfl ?_
  refine z_isub X d_Row_put_20 ?_
  refine z_ccopy X d_Row_put_21 ac_Row (sp := a) (dp := a + c) (n := n - a) hc1 (by omega) hc1 (by omega) (by omega) (by omega) (fun k9 hk9 => hch _ (by omega)) ⟨Nat.le_of_ble_eq_true rfl, Nat.le_of_ble_eq_true rfl⟩ (fun h1 c2 fr3 => ?_)
  have c4 := (fr3 i (by omega)).trans hc0
  have c5 := (fr3 o (by omega)).trans ho0
  have c6 := (fr3 (o + 1) (by omega)).trans ho1
  refine e_aload_n X d_Row_put_24 rfl ?_
  refine e_aload_n X d_Row_put_25 rfl ?_
  refine e_get X d_Row_put_26 fl_Row_9 c4 (by omega) rfl ?_
  refine z_iload_n X d_Row_put_29 rfl ?_
  have hT2 : Rw G h1 o oc c p := ⟨ou, c5, c6, hoc, hoc2, hoch, hout, hotx⟩
  have hch1 := zcp_ch (sp := a) (dp := a + c) (n := n - a) hch hch (by omega)
  refine z_callV_V X d_Row_put_30 cv_Row_25 (c_Row_copyInto hT2 (by omega) c2 (by omega) (by omega) hch1) c5 (by omega) rfl rfl ⟨rfl, rfl⟩ rfl (fun h7 hp8 => ?_)
  obtain ⟨v1, hv1, hvc, hva, hvb, hvf⟩ := hp8
  have c10 := (hvf i (by omega)).trans c4
  have c11 := (hvf o (by omega)).trans c5
  have c12 := (hvf (o + 1) (by omega)).trans c6
  refine e_aload_n X d_Row_put_33 rfl ?_
  refine e_dup X d_Row_put_34 rfl ?_
  refine e_get X d_Row_put_35 fl_Row_15 c10 (by omega) rfl ?_
  refine e_aload_n X d_Row_put_38 rfl ?_
  refine e_get X d_Row_put_39 fl_Row_15 c11 (by omega) rfl ?_
  refine z_iadd X d_Row_put_42 ?_
  refine z_top (show _ = ((n + c : Nat) : Int) by omega) ?_
  refine z_put X d_Row_put_43 fl_Row_15 c10 (by omega) (Nat.le_of_ble_eq_true rfl) rfl rfl (fun h13 c14 fr15 => ?_)
  have c14 : h13 i = ob ci_Row [.ref (ad (g_b G) (i + 1)), vI ((n + c : Nat) : Int)] := c14
  have c16 := (fr15 (i + 1) (by omega)).trans hv1
  have c17 := (fr15 o (by omega)).trans c11
  have c18 := (fr15 (o + 1) (by omega)).trans c12
  have e0 := c14
  have e1 := c16
  exact z_return X Q d_Row_put_46 ⟨⟨_, e0, e1, by omega, hcap2, hvc, row_put hut ha hva hvb, by have h9 := tx_ed_ok (c := c) (p := p) htx (Nat.le_refl a) ha hotx.1; rw [Nat.sub_self, Nat.sub_zero] at h9; exact h9⟩, fun j q1 q2 => (fr15 j q1).trans ((hvf j q2).trans (fr3 j q2))⟩

set_option maxRecDepth 100000 in
set_option maxHeartbeats 4000000 in
theorem c_Row_append {l : Launch} {G : lx_G} {N : Nat} {h : Nat → va_E} {i cap n : Nat} {t : Nat → Int} {x : Int} (hT : Rw G h i cap n t) (hN : i + 1 < N) (hx : 0 ≤ x ∧ x < 65536) : CtI l G m_Row_append N [.ref (ad (g_b G) i), vI (x)] h (fun z h' => (n < cap ∧ z = 1 ∧ Rw G h' i cap (n + 1) (zup t n x) ∧ ∀ j, j ≠ i → j ≠ i + 1 → h' j = h j) ∨ (cap ≤ n ∧ z = 0 ∧ h' = h)) := by
  obtain ⟨u, hc0, hc1, hcap, hcap2, hch, hut, htx⟩ := hT
  refine zI_of (by decide) rfl rfl ?_
  intro k X Q
  have X : Cx k G R_Row b_Row_append 2 rm_Row_append := X
  have Q : Rt k G (some (.boolean)) N 0 0 (pI (fun z h' => (n < cap ∧ z = 1 ∧ Rw G h' i cap (n + 1) (zup t n x) ∧ ∀ j, j ≠ i → j ≠ i + 1 → h' j = h j) ∨ (cap ≤ n ∧ z = 0 ∧ h' = h))) := Q
  show Ev k G 2 N 0 0 h 0 [some (.ref (ad (g_b G) i)), some (vI (x))] []
  refine e_aload_n X d_Row_append_0 rfl ?_
  refine e_get X d_Row_append_1 fl_Row_15 hc0 (by omega) rfl ?_
  refine e_aload_n X d_Row_append_4 rfl ?_
  refine e_get X d_Row_append_5 fl_Row_9 hc0 (by omega) rfl ?_
  refine z_clen X d_Row_append_8 hc1 (by omega) ?_
  refine z_icmp_lt (tgt := 14) X d_Row_append_9 (by decide) (by omega) (fun q1 => ?_) (fun q1 => ?_)
  · refine e_aload_n X d_Row_append_14 rfl ?_
    refine e_get X d_Row_append_15 fl_Row_9 hc0 (by omega) rfl ?_
    refine e_aload_n X d_Row_append_18 rfl ?_
    refine e_get X d_Row_append_19 fl_Row_15 hc0 (by omega) rfl ?_
    refine z_iload_n X d_Row_append_22 rfl ?_
    refine z_cast X d_Row_append_23 (j := n) hc1 (by omega) (by omega) (by omega) (iI_char (by omega)).1 (fun h1 c2 fr3 => ?_)
    have c4 := (fr3 i (by omega)).trans hc0
    refine e_aload_n X d_Row_append_24 rfl ?_
    refine e_dup X d_Row_append_25 rfl ?_
    refine e_get X d_Row_append_26 fl_Row_15 c4 (by omega) rfl ?_
    refine z_iconst X d_Row_append_29 ?_
    refine z_iadd X d_Row_append_30 ?_
    refine z_top (show _ = ((n + 1 : Nat) : Int) by omega) ?_
    refine z_put X d_Row_append_31 fl_Row_15 c4 (by omega) (Nat.le_of_ble_eq_true rfl) rfl rfl (fun h5 c6 fr7 => ?_)
    have c6 : h5 i = ob ci_Row [.ref (ad (g_b G) (i + 1)), vI ((n + 1 : Nat) : Int)] := c6
    have c8 := (fr7 (i + 1) (by omega)).trans c2
    refine z_iconst X d_Row_append_34 ?_
    have e0 := c6
    have e1 := c8
    exact z_ireturn X Q d_Row_append_35 rfl (Or.inl ⟨by omega, rfl, ⟨_, e0, e1, by omega, hcap2, zup_ch hch hx, zup_ag hut, tx_zup htx hx⟩, fun j q1 q2 => (fr7 j q1).trans (fr3 j q2)⟩)
  · refine z_iconst X d_Row_append_12 ?_
    exact z_ireturn X Q d_Row_append_13 rfl (Or.inr ⟨by omega, rfl, rfl⟩)
end
section
/-! GapText: its cell i, its row i + 1 -/
def Gpx (G : lx_G) (h : Nat → va_E) (i cap n : Nat) (t : Nat → Int) (gs g : Nat) : Prop := ∃ u : Nat → Int, h i = ob ci_Gap [.ref (ad (g_b G) (i + 1)), vI (gs : Int), vI ((gs + g : Nat) : Int)] ∧ h (i + 1) = rC G cap u ∧ cap ≤ 160 ∧ gs ≤ n ∧ n + g = cap ∧ (∀ k, k < cap → 0 ≤ u k ∧ u k < 65536) ∧ (∀ k, k < gs → u k = t k) ∧ (∀ k, gs ≤ k → k < n → u (k + g) = t k) ∧ tx_ok n t
def Gp (G : lx_G) (h : Nat → va_E) (i cap n : Nat) (t : Nat → Int) : Prop := ∃ gs g : Nat, Gpx G h i cap n t gs g
theorem Gp.fr {G : lx_G} {h h' : Nat → va_E} {i cap n : Nat} {t : Nat → Int} (hT : Gp G h i cap n t) (e0 : h' i = h i) (e1 : h' (i + 1) = h (i + 1)) : Gp G h' i cap n t := by
  obtain ⟨gs, g, u, c0, c1, r⟩ := hT
  exact ⟨gs, g, u, e0.trans c0, e1.trans c1, r⟩
theorem Gp.ok {G : lx_G} {h : Nat → va_E} {i cap n : Nat} {t : Nat → Int} (hT : Gp G h i cap n t) : tx_ok n t ∧ n ≤ cap ∧ cap ≤ 160 := by
  obtain ⟨gs, g, u, c0, c1, h1, h2, h3, h4, h5, h6, h7⟩ := hT
  exact ⟨h7, by omega, h1⟩

set_option maxRecDepth 100000 in
set_option maxHeartbeats 4000000 in
theorem c_Gap_length {l : Launch} {G : lx_G} {N : Nat} {h : Nat → va_E} {i cap n : Nat} {t : Nat → Int} (hT : Gp G h i cap n t) (hN : i + 1 < N) : CtI l G m_Gap_length N [.ref (ad (g_b G) i)] h (fun z h' => z = (n : Int) ∧ h' = h) := by
  obtain ⟨gs, g, hT⟩ := hT
  have hTx := hT
  obtain ⟨u, hc0, hc1, hcap2, hgs, hg, hch, hu1, hu2, htx⟩ := hT
  refine zI_of (by decide) rfl rfl ?_
  intro k X Q
  have X : Cx k G R_Gap b_Gap_length 1 rm_Gap_length := X
  have Q : Rt k G (some (.int)) N 0 0 (pI (fun z h' => z = (n : Int) ∧ h' = h)) := Q
  show Ev k G 1 N 0 0 h 0 [some (.ref (ad (g_b G) i))] []
  refine e_aload_n X d_Gap_length_0 rfl ?_
  refine e_get X d_Gap_length_1 fl_Gap_9 hc0 (by omega) rfl ?_
  refine z_clen X d_Gap_length_4 hc1 (by omega) ?_
  refine e_aload_n X d_Gap_length_5 rfl ?_
  refine e_get X d_Gap_length_6 fl_Gap_19 hc0 (by omega) rfl ?_
  refine e_aload_n X d_Gap_length_9 rfl ?_
  refine e_get X d_Gap_length_10 fl_Gap_15 hc0 (by omega) rfl ?_
  refine z_isub X d_Gap_length_13 ?_
  refine z_isub X d_Gap_length_14 ?_
  exact z_ireturn X Q d_Gap_length_15 rfl ⟨by omega, rfl⟩

set_option maxRecDepth 100000 in
set_option maxHeartbeats 4000000 in
theorem c_Gap_at {l : Launch} {G : lx_G} {N : Nat} {h : Nat → va_E} {i cap n : Nat} {t : Nat → Int} {a : Int} (hT : Gp G h i cap n t) (hN : i + 1 < N) (ha : -2147483648 ≤ a ∧ a < 2147483648) : CtI l G m_Gap_at N [.ref (ad (g_b G) i), vI (a)] h (fun z h' => z = tat t a ∧ h' = h) := by
  obtain ⟨gs, g, hT⟩ := hT
  have hTx := hT
  obtain ⟨u, hc0, hc1, hcap2, hgs, hg, hch, hu1, hu2, htx⟩ := hT
  refine zI_of (by decide) rfl rfl ?_
  intro k X Q
  have X : Cx k G R_Gap b_Gap_at 2 rm_Gap_at := X
  have Q : Rt k G (some (.int)) N 0 0 (pI (fun z h' => z = tat t a ∧ h' = h)) := Q
  show Ev k G 2 N 0 0 h 0 [some (.ref (ad (g_b G) i)), some (vI (a))] []
  refine z_iload_n X d_Gap_at_0 rfl ?_
  refine z_if_lt (tgt := 12) X d_Gap_at_1 (by decide) (by omega) (fun q1 => ?_) (fun q1 => ?_)
  · refine z_iconst X d_Gap_at_12 ?_
    exact z_ireturn X Q d_Gap_at_13 rfl ⟨(tat_neg q1).symm, rfl⟩
  · refine z_iload_n X d_Gap_at_4 rfl ?_
    refine e_aload_n X d_Gap_at_5 rfl ?_
    refine z_callV_I X d_Gap_at_6 cv_Gap_22 (c_Gap_length ⟨gs, g, hTx⟩ hN) hc0 (by omega) rfl rfl ⟨rfl, rfl⟩ rfl (fun z3 h1 hp2 => ?_)
    obtain ⟨rfl, hh4⟩ := hp2
    rw [hh4]
    refine z_icmp_lt (tgt := 14) X d_Gap_at_9 (by decide) (by omega) (fun q2 => ?_) (fun q2 => ?_)
    · obtain ⟨j, rfl⟩ : ∃ j : Nat, a = (j : Int) := ⟨a.toNat, by omega⟩
      refine z_iload_n X d_Gap_at_14 rfl ?_
      refine e_aload_n X d_Gap_at_15 rfl ?_
      refine e_get X d_Gap_at_16 fl_Gap_15 hc0 (by omega) rfl ?_
      refine z_icmp_ge (tgt := 31) X d_Gap_at_19 (by decide) (by omega) (fun q3 => ?_) (fun q3 => ?_)
      · refine e_aload_n X d_Gap_at_31 rfl ?_
        refine e_get X d_Gap_at_32 fl_Gap_9 hc0 (by omega) rfl ?_
        refine z_iload_n X d_Gap_at_35 rfl ?_
        refine e_aload_n X d_Gap_at_36 rfl ?_
        refine e_get X d_Gap_at_37 fl_Gap_19 hc0 (by omega) rfl ?_
        refine z_iadd X d_Gap_at_40 ?_
        refine e_aload_n X d_Gap_at_41 rfl ?_
        refine e_get X d_Gap_at_42 fl_Gap_15 hc0 (by omega) rfl ?_
        refine z_isub X d_Gap_at_45 ?_
        refine z_top (show _ = ((j + g : Nat) : Int) by omega) ?_
        refine z_cald X d_Gap_at_46 (j := (j + g)) hc1 (by omega) (by omega) (by omega) ?_
        exact z_ireturn X Q d_Gap_at_47 rfl ⟨(hu2 j (by omega) (by omega)).trans (tat_n t j).symm, rfl⟩
      · refine e_aload_n X d_Gap_at_22 rfl ?_
        refine e_get X d_Gap_at_23 fl_Gap_9 hc0 (by omega) rfl ?_
        refine z_iload_n X d_Gap_at_26 rfl ?_
        refine z_cald X d_Gap_at_27 (j := j) hc1 (by omega) (by omega) (by omega) ?_
        refine e_goto (tgt := 47) X d_Gap_at_28 (by decide) ?_
        exact z_ireturn X Q d_Gap_at_47 rfl ⟨(hu1 j (by omega)).trans (tat_n t j).symm, rfl⟩
    · refine z_iconst X d_Gap_at_12 ?_
      exact z_ireturn X Q d_Gap_at_13 rfl ⟨(tat_ge htx q2).symm, rfl⟩

set_option maxRecDepth 100000 in
set_option maxHeartbeats 4000000 in
theorem c_Gap_moveGap {l : Launch} {G : lx_G} {N : Nat} {h : Nat → va_E} {i cap n gs g a : Nat} {t : Nat → Int} (hT : Gpx G h i cap n t gs g) (hN : i + 1 < N) (ha : a ≤ n) : CtV l G m_Gap_moveGap N [.ref (ad (g_b G) i), vI ((a : Nat) : Int)] h (fun h' => Gpx G h' i cap n t a g ∧ ∀ j, j ≠ i → j ≠ i + 1 → h' j = h j) := by
  obtain ⟨u, hc0, hc1, hcap2, hgs, hg, hch, hu1, hu2, htx⟩ := hT
  refine zV_of (by decide) rfl rfl ?_
  intro k X Q
  have X : Cx k G R_Gap b_Gap_moveGap 3 rm_Gap_moveGap := X
  have Q : Rt k G none N 0 0 (pV (fun h' => Gpx G h' i cap n t a g ∧ ∀ j, j ≠ i → j ≠ i + 1 → h' j = h j)) := Q
  show Ev k G 3 N 0 0 h 0 [some (.ref (ad (g_b G) i)), some (vI ((a : Nat) : Int)), none] []
  refine e_aload_n X d_Gap_moveGap_0 rfl ?_
  refine e_get X d_Gap_moveGap_1 fl_Gap_19 hc0 (by omega) rfl ?_
  refine e_aload_n X d_Gap_moveGap_4 rfl ?_
  refine e_get X d_Gap_moveGap_5 fl_Gap_15 hc0 (by omega) rfl ?_
  refine z_isub X d_Gap_moveGap_8 ?_
  refine z_top (show _ = ((g : Nat) : Int) by omega) ?_
  refine e_istore_n X d_Gap_moveGap_9 (by decide) ?_
  refine z_iload_n X d_Gap_moveGap_10 rfl ?_
  refine e_aload_n X d_Gap_moveGap_11 rfl ?_
  refine e_get X d_Gap_moveGap_12 fl_Gap_15 hc0 (by omega) rfl ?_
  refine z_icmp_ge (tgt := 42) X d_Gap_moveGap_15 (by decide) (by omega) (fun q1 => ?_) (fun q1 => ?_)
  · refine e_aload_n X d_Gap_moveGap_42 rfl ?_
    refine e_get X d_Gap_moveGap_43 fl_Gap_9 hc0 (by omega) rfl ?_
    refine e_aload_n X d_Gap_moveGap_46 rfl ?_
    refine e_get X d_Gap_moveGap_47 fl_Gap_19 hc0 (by omega) rfl ?_
    refine e_aload_n X d_Gap_moveGap_50 rfl ?_
    refine e_get X d_Gap_moveGap_51 fl_Gap_9 hc0 (by omega) rfl ?_
    refine e_aload_n X d_Gap_moveGap_54 rfl ?_
    refine e_get X d_Gap_moveGap_55 fl_Gap_15 hc0 (by omega) rfl ?_
    refine z_iload_n X d_Gap_moveGap_58 rfl ?_
    refine e_aload_n X d_Gap_moveGap_59 rfl ?_
    refine e_get X d_Gap_moveGap_60 fl_Gap_15 hc0 (by omega) rfl ?_
    refine z_isub X d_Gap_moveGap_63 ?_
    refine z_ccopy X d_Gap_moveGap_64 ac_Gap (sp := gs + g) (dp := gs) (n := a - gs) hc1 (by omega) hc1 (by omega) (by omega) (by omega) (fun k9 hk9 => hch _ (by omega)) ⟨Nat.le_of_ble_eq_true rfl, Nat.le_of_ble_eq_true rfl⟩ (fun h1 c2 fr3 => ?_)
    have c4 := (fr3 i (by omega)).trans hc0
    refine e_aload_n X d_Gap_moveGap_67 rfl ?_
    refine z_iload_n X d_Gap_moveGap_68 rfl ?_
    refine z_put X d_Gap_moveGap_69 fl_Gap_15 c4 (by omega) (Nat.le_of_ble_eq_true rfl) rfl rfl (fun h5 c6 fr7 => ?_)
    have c6 : h5 i = ob ci_Gap [.ref (ad (g_b G) (i + 1)), vI ((a : Nat) : Int), vI ((gs + g : Nat) : Int)] := c6
    have c8 := (fr7 (i + 1) (by omega)).trans c2
    refine e_aload_n X d_Gap_moveGap_72 rfl ?_
    refine z_iload_n X d_Gap_moveGap_73 rfl ?_
    refine z_iload_n X d_Gap_moveGap_74 rfl ?_
    refine z_iadd X d_Gap_moveGap_75 ?_
    refine z_top (show _ = ((a + g : Nat) : Int) by omega) ?_
    refine z_put X d_Gap_moveGap_76 fl_Gap_19 c6 (by omega) (Nat.le_of_ble_eq_true rfl) rfl rfl (fun h9 c10 fr11 => ?_)
    have c10 : h9 i = ob ci_Gap [.ref (ad (g_b G) (i + 1)), vI ((a : Nat) : Int), vI ((a + g : Nat) : Int)] := c10
    have c12 := (fr11 (i + 1) (by omega)).trans c8
    have e0 := c10
    have e1 := c12
    exact z_return X Q d_Gap_moveGap_79 ⟨⟨_, e0, e1, hcap2, ha, hg, zcp_ch hch hch (by omega), (gap_r hu1 hu2 (by omega) ha).1, (gap_r hu1 hu2 (by omega) ha).2, htx⟩, fun j q1 q2 => (fr11 j q1).trans ((fr7 j q1).trans (fr3 j q2))⟩
  · refine e_aload_n X d_Gap_moveGap_18 rfl ?_
    refine e_get X d_Gap_moveGap_19 fl_Gap_9 hc0 (by omega) rfl ?_
    refine z_iload_n X d_Gap_moveGap_22 rfl ?_
    refine e_aload_n X d_Gap_moveGap_23 rfl ?_
    refine e_get X d_Gap_moveGap_24 fl_Gap_9 hc0 (by omega) rfl ?_
    refine z_iload_n X d_Gap_moveGap_27 rfl ?_
    refine z_iload_n X d_Gap_moveGap_28 rfl ?_
    refine z_iadd X d_Gap_moveGap_29 ?_
    refine e_aload_n X d_Gap_moveGap_30 rfl ?_
    refine e_get X d_Gap_moveGap_31 fl_Gap_15 hc0 (by omega) rfl ?_
    refine z_iload_n X d_Gap_moveGap_34 rfl ?_
    refine z_isub X d_Gap_moveGap_35 ?_
    refine z_ccopy X d_Gap_moveGap_36 ac_Gap (sp := a) (dp := a + g) (n := gs - a) hc1 (by omega) hc1 (by omega) (by omega) (by omega) (fun k9 hk9 => hch _ (by omega)) ⟨Nat.le_of_ble_eq_true rfl, Nat.le_of_ble_eq_true rfl⟩ (fun h13 c14 fr15 => ?_)
    have c16 := (fr15 i (by omega)).trans hc0
    refine e_goto (tgt := 67) X d_Gap_moveGap_39 (by decide) ?_
    refine e_aload_n X d_Gap_moveGap_67 rfl ?_
    refine z_iload_n X d_Gap_moveGap_68 rfl ?_
    refine z_put X d_Gap_moveGap_69 fl_Gap_15 c16 (by omega) (Nat.le_of_ble_eq_true rfl) rfl rfl (fun h17 c18 fr19 => ?_)
    have c18 : h17 i = ob ci_Gap [.ref (ad (g_b G) (i + 1)), vI ((a : Nat) : Int), vI ((gs + g : Nat) : Int)] := c18
    have c20 := (fr19 (i + 1) (by omega)).trans c14
    refine e_aload_n X d_Gap_moveGap_72 rfl ?_
    refine z_iload_n X d_Gap_moveGap_73 rfl ?_
    refine z_iload_n X d_Gap_moveGap_74 rfl ?_
    refine z_iadd X d_Gap_moveGap_75 ?_
    refine z_top (show _ = ((a + g : Nat) : Int) by omega) ?_
    refine z_put X d_Gap_moveGap_76 fl_Gap_19 c18 (by omega) (Nat.le_of_ble_eq_true rfl) rfl rfl (fun h21 c22 fr23 => ?_)
    have c22 : h21 i = ob ci_Gap [.ref (ad (g_b G) (i + 1)), vI ((a : Nat) : Int), vI ((a + g : Nat) : Int)] := c22
    have c24 := (fr23 (i + 1) (by omega)).trans c20
    have e0 := c22
    have e1 := c24
    exact z_return X Q d_Gap_moveGap_79 ⟨⟨_, e0, e1, hcap2, ha, hg, zcp_ch hch hch (by omega), (gap_l hu1 hu2 (by omega)).1, (gap_l hu1 hu2 (by omega)).2, htx⟩, fun j q1 q2 => (fr23 j q1).trans ((fr19 j q1).trans (fr15 j q2))⟩

set_option maxRecDepth 100000 in
set_option maxHeartbeats 4000000 in
theorem c_Gap_cut {l : Launch} {G : lx_G} {N : Nat} {h : Nat → va_E} {i cap n : Nat} {t : Nat → Int} {a b : Nat} (hT : Gp G h i cap n t) (hN : i + 1 < N) (hab : a ≤ b) (hb : b ≤ n) : CtV l G m_Gap_cut N [.ref (ad (g_b G) i), vI ((a : Nat) : Int), vI ((b : Nat) : Int)] h (fun h' => Gp G h' i cap (n - (b - a)) (tx_ed t a b 0 t) ∧ ∀ j, j ≠ i → j ≠ i + 1 → h' j = h j) := by
  obtain ⟨gs, g, hT⟩ := hT
  have hTx := hT
  obtain ⟨u, hc0, hc1, hcap2, hgs, hg, hch, hu1, hu2, htx⟩ := hT
  refine zV_of (by decide) rfl rfl ?_
  intro k X Q
  have X : Cx k G R_Gap b_Gap_cut 3 rm_Gap_cut := X
  have Q : Rt k G none N 0 0 (pV (fun h' => Gp G h' i cap (n - (b - a)) (tx_ed t a b 0 t) ∧ ∀ j, j ≠ i → j ≠ i + 1 → h' j = h j)) := Q
  show Ev k G 3 N 0 0 h 0 [some (.ref (ad (g_b G) i)), some (vI ((a : Nat) : Int)), some (vI ((b : Nat) : Int))] []
  refine e_aload_n X d_Gap_cut_0 rfl ?_
  refine z_iload_n X d_Gap_cut_1 rfl ?_
  refine z_callV_V X d_Gap_cut_2 cv_Gap_26 (c_Gap_moveGap hTx hN (by omega)) hc0 (by omega) rfl rfl ⟨rfl, rfl⟩ rfl (fun h1 hp2 => ?_)
  obtain ⟨⟨u1, hd0, hd1, -, hags, -, hch1, hv1, hv2, -⟩, hfr⟩ := hp2
  refine e_aload_n X d_Gap_cut_5 rfl ?_
  refine e_dup X d_Gap_cut_6 rfl ?_
  refine e_get X d_Gap_cut_7 fl_Gap_19 hd0 (by omega) rfl ?_
  refine z_iload_n X d_Gap_cut_10 rfl ?_
  refine z_iload_n X d_Gap_cut_11 rfl ?_
  refine z_isub X d_Gap_cut_12 ?_
  refine z_iadd X d_Gap_cut_13 ?_
  refine z_top (show _ = ((a + (g + (b - a)) : Nat) : Int) by omega) ?_
  refine z_put X d_Gap_cut_14 fl_Gap_19 hd0 (by omega) (Nat.le_of_ble_eq_true rfl) rfl rfl (fun h4 c5 fr6 => ?_)
  have c5 : h4 i = ob ci_Gap [.ref (ad (g_b G) (i + 1)), vI ((a : Nat) : Int), vI ((a + (g + (b - a)) : Nat) : Int)] := c5
  have c7 := (fr6 (i + 1) (by omega)).trans hd1
  have e0 := c5
  have e1 := c7
  exact z_return X Q d_Gap_cut_17 ⟨⟨a, g + (b - a), _, e0, e1, hcap2, by omega, by omega, hch1, (gap_cut hv1 hv2 hab hb).1, (gap_cut hv1 hv2 hab hb).2, tx_ed_ok htx hab hb (fun k9 hk9 => absurd hk9 (Nat.not_lt_zero _))⟩, fun j q1 q2 => (fr6 j q1).trans (hfr j q1 q2)⟩

set_option maxRecDepth 100000 in
set_option maxHeartbeats 4000000 in
theorem c_Gap_put {l : Launch} {G : lx_G} {N : Nat} {h : Nat → va_E} {i cap n : Nat} {t : Nat → Int} {o oc c a : Nat} {p : Nat → Int} (hT : Gp G h i cap n t) (hN : i + 1 < N) (hO : Rw G h o oc c p) (hoN : o + 1 < N) (hne : o ≠ i ∧ o ≠ i + 1 ∧ o + 1 ≠ i) (ha : a ≤ n) (hfit : n + c ≤ cap) : CtV l G m_Gap_put N [.ref (ad (g_b G) i), vI ((a : Nat) : Int), .ref (ad (g_b G) o)] h (fun h' => Gp G h' i cap (n + c) (tx_ed t a a c p) ∧ ∀ j, j ≠ i → j ≠ i + 1 → h' j = h j) := by
  obtain ⟨gs, g, hT⟩ := hT
  have hTx := hT
  obtain ⟨u, hc0, hc1, hcap2, hgs, hg, hch, hu1, hu2, htx⟩ := hT
  refine zV_of (by decide) rfl rfl ?_
  intro k X Q
  have X : Cx k G R_Gap b_Gap_put 3 rm_Gap_put := X
  have Q : Rt k G none N 0 0 (pV (fun h' => Gp G h' i cap (n + c) (tx_ed t a a c p) ∧ ∀ j, j ≠ i → j ≠ i + 1 → h' j = h j)) := Q
  show Ev k G 3 N 0 0 h 0 [some (.ref (ad (g_b G) i)), some (vI ((a : Nat) : Int)), some (.ref (ad (g_b G) o))] []
  refine e_aload_n X d_Gap_put_0 rfl ?_
  refine z_iload_n X d_Gap_put_1 rfl ?_
  refine z_callV_V X d_Gap_put_2 cv_Gap_26 (c_Gap_moveGap hTx hN (by omega)) hc0 (by omega) rfl rfl ⟨rfl, rfl⟩ rfl (fun h1 hp2 => ?_)
  obtain ⟨⟨u1, hd0, hd1, -, hags, -, hch1, hv1, hv2, -⟩, hfr⟩ := hp2
  have hO1 : Rw G h1 o oc c p := hO.fr (hfr o (by omega) (by omega)) (hfr (o + 1) (by omega) (by omega))
  have hOl := hO.le
  obtain ⟨ou, ho0, ho1, hoc, hoc2, hoch, hout, hotx⟩ := id hO1
  refine e_aload_n X d_Gap_put_5 rfl ?_
  refine e_aload_n X d_Gap_put_6 rfl ?_
  refine e_get X d_Gap_put_7 fl_Gap_9 hd0 (by omega) rfl ?_
  refine z_iload_n X d_Gap_put_10 rfl ?_
  refine z_callV_V X d_Gap_put_11 cv_Gap_30 (c_Row_copyInto hO1 (by omega) hd1 (by omega) (by omega) hch1) ho0 (by omega) rfl rfl ⟨rfl, rfl⟩ rfl (fun h4 hp5 => ?_)
  obtain ⟨v1, hw1, hwc, hwa, hwb, hwf⟩ := hp5
  have c7 := (hwf i (by omega)).trans hd0
  have c8 := (hwf o (by omega)).trans ho0
  refine e_aload_n X d_Gap_put_14 rfl ?_
  refine e_dup X d_Gap_put_15 rfl ?_
  refine e_get X d_Gap_put_16 fl_Gap_15 c7 (by omega) rfl ?_
  refine e_aload_n X d_Gap_put_19 rfl ?_
  have hO2 : Rw G h4 o oc c p := hO1.fr (hwf o (by omega)) (hwf (o + 1) (by omega))
  refine z_callV_I X d_Gap_put_20 cv_Gap_36 (c_Row_length hO2 (by omega)) c8 (by omega) rfl rfl ⟨rfl, rfl⟩ rfl (fun z11 h9 hp10 => ?_)
  obtain ⟨rfl, hh12⟩ := hp10
  rw [hh12]
  refine z_iadd X d_Gap_put_23 ?_
  refine z_top (show _ = ((a + c : Nat) : Int) by omega) ?_
  refine z_put X d_Gap_put_24 fl_Gap_15 c7 (by omega) (Nat.le_of_ble_eq_true rfl) rfl rfl (fun h13 c14 fr15 => ?_)
  have c14 : h13 i = ob ci_Gap [.ref (ad (g_b G) (i + 1)), vI ((a + c : Nat) : Int), vI ((a + g : Nat) : Int)] := c14
  have c16 := (fr15 (i + 1) (by omega)).trans hw1
  have c17 := (fr15 o (by omega)).trans c8
  have e0 := c14
  have e1 := c16
  rw [show a + g = a + c + (g - c) by omega] at e0
  exact z_return X Q d_Gap_put_27 ⟨⟨a + c, g - c, _, e0, e1, hcap2, by omega, by omega, hwc, (gap_put hv1 hv2 (by omega) hwa hwb).1, (gap_put hv1 hv2 (by omega) hwa hwb).2, by have h9 := tx_ed_ok (c := c) (p := p) htx (Nat.le_refl a) ha hotx.1; rw [Nat.sub_self, Nat.sub_zero] at h9; exact h9⟩, fun j q1 q2 => (fr15 j q1).trans ((hwf j q2).trans (hfr j q1 q2))⟩
end
section
theorem zup_cp {v s : Nat → Int} {j : Nat} (h : ∀ k, k < j → v k = s k) : ∀ k, k < j + 1 → zup v j (s j) k = s k := by
  intro k hk
  by_cases h8 : k = j
  · rw [h8, zup_eq]
  · rw [zup_ne h8]; exact h k (by omega)
/-! a Text: a RowText or a GapText of 160 -/
def Tx (G : lx_G) (h : Nat → va_E) (i n : Nat) (t : Nat → Int) : Prop := Rw G h i 160 n t ∨ Gp G h i 160 n t
theorem Tx.fr {G : lx_G} {h h' : Nat → va_E} {i n : Nat} {t : Nat → Int} (hT : Tx G h i n t) (e0 : h' i = h i) (e1 : h' (i + 1) = h (i + 1)) : Tx G h' i n t := by
  rcases hT with hT | hT
  · exact Or.inl (hT.fr e0 e1)
  · exact Or.inr (hT.fr e0 e1)
theorem Tx.ok {G : lx_G} {h : Nat → va_E} {i n : Nat} {t : Nat → Int} (hT : Tx G h i n t) : tx_ok n t := by
  rcases hT with hT | hT
  · exact hT.ok
  · exact hT.ok.1
theorem Tx.le {G : lx_G} {h : Nat → va_E} {i n : Nat} {t : Nat → Int} (hT : Tx G h i n t) : n ≤ 160 := by
  rcases hT with hT | hT
  · exact Nat.le_trans hT.le.1 hT.le.2
  · exact hT.ok.2.1
def rOK2 (M M' : lx_M) (R : Room) (cells slots nst : Nat) : Bool := rOKb M R cells slots nst && rOKb M' R cells slots nst
section TX
variable {k : lx_K} {G : lx_G} {own : String} {cc : ByteArray} {nL N cells slots pc : Nat} {R : Room} {h : Nat → va_E} {L : List (Option Value)} {rest : List Value}
theorem z_Tlen (X : Cx k G own cc nL R) {idx cnt i n : Nat} {t : Nat → Int}  (hd : decode cc pc = .ok (.invokeinterface idx cnt, 5)) (hC1 : CFM own idx ci_Row y_Txt_length m_Row_length 0) (hC2 : CFM own idx ci_Gap y_Txt_length m_Gap_length 0) (hT : Tx G h i n t) (hi : i + 1 < N)  (hR : rOK2 m_Row_length m_Gap_length R cells slots (rest.map fun v => v.category).sum = true) (kk : Ev k G nL N cells slots h (pc + 5) L (vI (n : Int) :: rest)) : Ev k G nL N cells slots h pc L (.ref (ad (g_b G) i) :: rest) := by
  simp only [rOK2, Bool.and_eq_true] at hR
  rcases hT with hT | hT
  · obtain ⟨u, hc0, -⟩ := id hT
    refine z_callF_I X hd hC1 (As := []) (c_Row_length hT hi) hc0 (by omega) rfl rfl ⟨rfl, rfl⟩ hR.1 (fun z h1 hp => ?_)
    obtain ⟨rfl, rfl⟩ := hp
    exact kk
  · obtain ⟨gs, g, u, hc0, -⟩ := id hT
    refine z_callF_I X hd hC2 (As := []) (c_Gap_length hT hi) hc0 (by omega) rfl rfl ⟨rfl, rfl⟩ hR.2 (fun z h1 hp => ?_)
    obtain ⟨rfl, rfl⟩ := hp
    exact kk
theorem z_Tat (X : Cx k G own cc nL R) {idx cnt i n : Nat} {t : Nat → Int} {a : Int} (hd : decode cc pc = .ok (.invokeinterface idx cnt, 5)) (hC1 : CFM own idx ci_Row y_Txt_at m_Row_at 1) (hC2 : CFM own idx ci_Gap y_Txt_at m_Gap_at 1) (hT : Tx G h i n t) (hi : i + 1 < N) (ha : -2147483648 ≤ a ∧ a < 2147483648) (hR : rOK2 m_Row_at m_Gap_at R cells slots (rest.map fun v => v.category).sum = true) (kk : Ev k G nL N cells slots h (pc + 5) L (vI (tat t a) :: rest)) : Ev k G nL N cells slots h pc L (vI a :: .ref (ad (g_b G) i) :: rest) := by
  simp only [rOK2, Bool.and_eq_true] at hR
  rcases hT with hT | hT
  · obtain ⟨u, hc0, -⟩ := id hT
    refine z_callF_I X hd hC1 (As := [vI a]) (c_Row_at hT hi ha) hc0 (by omega) rfl rfl ⟨rfl, rfl⟩ hR.1 (fun z h1 hp => ?_)
    obtain ⟨rfl, rfl⟩ := hp
    exact kk
  · obtain ⟨gs, g, u, hc0, -⟩ := id hT
    refine z_callF_I X hd hC2 (As := [vI a]) (c_Gap_at hT hi ha) hc0 (by omega) rfl rfl ⟨rfl, rfl⟩ hR.2 (fun z h1 hp => ?_)
    obtain ⟨rfl, rfl⟩ := hp
    exact kk
end TX
set_option maxRecDepth 100000 in
set_option maxHeartbeats 4000000 in
theorem c_Row_become {l : Launch} {G : lx_G} {N : Nat} {h : Nat → va_E} {i cap n o m : Nat} {t s : Nat → Int} (hT : Rw G h i cap n t) (hN : i + 1 < N) (hO : Tx G h o m s) (hoN : o + 1 < N) (hne : o ≠ i ∧ o ≠ i + 1 ∧ o + 1 ≠ i) (hmc : m ≤ cap) : CtV l G m_Row_become N [.ref (ad (g_b G) i), .ref (ad (g_b G) o)] h (fun h' => Rw G h' i cap m s ∧ ∀ j, j ≠ i → j ≠ i + 1 → h' j = h j) := by
  obtain ⟨u, hc0, hc1, hcap, hcap2, hch, hut, htx⟩ := hT
  refine zV_of (by decide) rfl rfl ?_
  intro k X Q
  have X : Cx k G R_Row b_Row_become 3 rm_Row_become := X
  have Q : Rt k G none N 0 0 (pV (fun h' => Rw G h' i cap m s ∧ ∀ j, j ≠ i → j ≠ i + 1 → h' j = h j)) := Q
  show Ev k G 3 N 0 0 h 0 [some (.ref (ad (g_b G) i)), some (.ref (ad (g_b G) o)), none] []
  refine e_aload_n X d_Row_become_0 rfl ?_
  refine e_aload_n X d_Row_become_1 rfl ?_
  refine z_Tlen X d_Row_become_2 cf_Row_29_Row cf_Row_29_Gap hO (by omega) rfl ?_
  refine z_put X d_Row_become_7 fl_Row_15 hc0 (by omega) (Nat.le_of_ble_eq_true rfl) rfl rfl (fun h1 c2 fr3 => ?_)
  have c2 : h1 i = ob ci_Row [.ref (ad (g_b G) (i + 1)), vI ((m : Nat) : Int)] := c2
  have c4 := (fr3 (i + 1) (by omega)).trans hc1
  refine z_iconst X d_Row_become_10 ?_
  refine e_istore_n X d_Row_become_11 (by decide) ?_
  have loop : ∀ (d9 : Nat) (j : Nat) (v : Nat → Int) (h2 : Nat → va_E), m - j < d9 → j ≤ m → h2 i = ob ci_Row [.ref (ad (g_b G) (i + 1)), vI (m : Int)] → h2 (i + 1) = rC G cap v → (∀ k, k < cap → 0 ≤ v k ∧ v k < 65536) → (∀ k, k < j → v k = s k) → (∀ q, q ≠ i → q ≠ i + 1 → h2 q = h q) → Ev k G 3 N 0 0 h2 12 [some (.ref (ad (g_b G) i)), some (.ref (ad (g_b G) o)), some (vI ((j : Nat) : Int))] [] := by
    intro d9
    induction d9 with
    | zero =>
      intro j v h2 hm9
      exact absurd hm9 (Nat.not_lt_zero _)
    | succ d9 ih =>
      intro j v h2 hm9 hj e0 e1 hv hs hf
      refine z_iload_n X d_Row_become_12 rfl ?_
      refine e_aload_n X d_Row_become_13 rfl ?_
      refine e_get X d_Row_become_14 fl_Row_15 e0 (by omega) rfl ?_
      refine z_icmp_ge (tgt := 40) X d_Row_become_17 (by decide) (by omega) (fun q1 => ?_) (fun q1 => ?_)
      · have hjm : j = m := by omega
        subst hjm
        exact z_return X Q d_Row_become_40 ⟨⟨v, e0, e1, hmc, hcap2, hv, hs, hO.ok⟩, hf⟩
      · refine e_aload_n X d_Row_become_20 rfl ?_
        refine e_get X d_Row_become_21 fl_Row_9 e0 (by omega) rfl ?_
        refine z_iload_n X d_Row_become_24 rfl ?_
        refine e_aload_n X d_Row_become_25 rfl ?_
        refine z_iload_n X d_Row_become_26 rfl ?_
        have hO2 : Tx G h2 o m s := hO.fr (hf o (by omega) (by omega)) (hf (o + 1) (by omega) (by omega))
        have hsj := hO.ok.1 j (by omega)
        refine z_Tat X d_Row_become_27 cf_Row_34_Row cf_Row_34_Gap hO2 (by omega) (by omega) rfl ?_
        refine z_top (tat_n s j) ?_
        refine z_i2c X d_Row_become_32 (by omega) ?_
        refine z_cast X d_Row_become_33 (j := j) e1 (by omega) (by omega) (by omega) (iI_char (by omega)).1 (fun h5 c6 fr7 => ?_)
        have c8 := (fr7 i (by omega)).trans e0
        refine z_iinc X d_Row_become_34 rfl (by decide) ?_
        refine e_goto (tgt := 12) X d_Row_become_37 (by decide) ?_
        exact ih (j + 1) _ _ (by omega) (by omega) c8 c6 (zup_ch hv hsj) (zup_cp hs) (fun q q1 q2 => (fr7 q q2).trans (hf q q1 q2))
  exact loop _ 0 u _ (Nat.lt_succ_self _) (Nat.zero_le _) c2 c4 hch (fun k9 h9 => absurd h9 (Nat.not_lt_zero _)) (fun q q1 q2 => fr3 q q1)

set_option maxRecDepth 100000 in
set_option maxHeartbeats 4000000 in
theorem c_Gap_become {l : Launch} {G : lx_G} {N : Nat} {h : Nat → va_E} {i cap n o m : Nat} {t s : Nat → Int} (hT : Gp G h i cap n t) (hN : i + 1 < N) (hO : Tx G h o m s) (hoN : o + 1 < N) (hne : o ≠ i ∧ o ≠ i + 1 ∧ o + 1 ≠ i) (hmc : m ≤ cap) : CtV l G m_Gap_become N [.ref (ad (g_b G) i), .ref (ad (g_b G) o)] h (fun h' => Gp G h' i cap m s ∧ ∀ j, j ≠ i → j ≠ i + 1 → h' j = h j) := by
  obtain ⟨gs, g, u, hc0, hc1, hcap2, hgs, hg, hch, hu1, hu2, htx⟩ := hT
  refine zV_of (by decide) rfl rfl ?_
  intro k X Q
  have X : Cx k G R_Gap b_Gap_become 3 rm_Gap_become := X
  have Q : Rt k G none N 0 0 (pV (fun h' => Gp G h' i cap m s ∧ ∀ j, j ≠ i → j ≠ i + 1 → h' j = h j)) := Q
  show Ev k G 3 N 0 0 h 0 [some (.ref (ad (g_b G) i)), some (.ref (ad (g_b G) o)), none] []
  refine e_aload_n X d_Gap_become_0 rfl ?_
  refine e_aload_n X d_Gap_become_1 rfl ?_
  refine z_Tlen X d_Gap_become_2 cf_Gap_37_Row cf_Gap_37_Gap hO (by omega) rfl ?_
  refine z_put X d_Gap_become_7 fl_Gap_15 hc0 (by omega) (Nat.le_of_ble_eq_true rfl) rfl rfl (fun h1 c2 fr3 => ?_)
  have c2 : h1 i = ob ci_Gap [.ref (ad (g_b G) (i + 1)), vI ((m : Nat) : Int), vI ((gs + g : Nat) : Int)] := c2
  have c4 := (fr3 (i + 1) (by omega)).trans hc1
  refine e_aload_n X d_Gap_become_10 rfl ?_
  refine e_aload_n X d_Gap_become_11 rfl ?_
  refine e_get X d_Gap_become_12 fl_Gap_9 c2 (by omega) rfl ?_
  refine z_clen X d_Gap_become_15 c4 (by omega) ?_
  refine z_put X d_Gap_become_16 fl_Gap_19 c2 (by omega) (Nat.le_of_ble_eq_true rfl) rfl rfl (fun h5 c6 fr7 => ?_)
  have c6 : h5 i = ob ci_Gap [.ref (ad (g_b G) (i + 1)), vI ((m : Nat) : Int), vI ((cap : Nat) : Int)] := c6
  have c8 := (fr7 (i + 1) (by omega)).trans c4
  refine z_iconst X d_Gap_become_19 ?_
  refine e_istore_n X d_Gap_become_20 (by decide) ?_
  have loop : ∀ (d9 : Nat) (j : Nat) (v : Nat → Int) (h2 : Nat → va_E), m - j < d9 → j ≤ m → h2 i = ob ci_Gap [.ref (ad (g_b G) (i + 1)), vI (m : Int), vI (cap : Int)] → h2 (i + 1) = rC G cap v → (∀ k, k < cap → 0 ≤ v k ∧ v k < 65536) → (∀ k, k < j → v k = s k) → (∀ q, q ≠ i → q ≠ i + 1 → h2 q = h q) → Ev k G 3 N 0 0 h2 21 [some (.ref (ad (g_b G) i)), some (.ref (ad (g_b G) o)), some (vI ((j : Nat) : Int))] [] := by
    intro d9
    induction d9 with
    | zero =>
      intro j v h2 hm9
      exact absurd hm9 (Nat.not_lt_zero _)
    | succ d9 ih =>
      intro j v h2 hm9 hj e0 e1 hv hs hf
      refine z_iload_n X d_Gap_become_21 rfl ?_
      refine e_aload_n X d_Gap_become_22 rfl ?_
      refine e_get X d_Gap_become_23 fl_Gap_15 e0 (by omega) rfl ?_
      refine z_icmp_ge (tgt := 49) X d_Gap_become_26 (by decide) (by omega) (fun q1 => ?_) (fun q1 => ?_)
      · have hjm : j = m := by omega
        subst hjm
        have e0 : h2 i = ob ci_Gap [.ref (ad (g_b G) (i + 1)), vI (j : Int), vI ((j + (cap - j) : Nat) : Int)] := by rw [e0, show j + (cap - j) = cap by omega]
        exact z_return X Q d_Gap_become_49 ⟨⟨j, cap - j, v, e0, e1, hcap2, Nat.le_refl _, by omega, hv, hs, fun k9 h9 h8 => absurd h8 (by omega), hO.ok⟩, hf⟩
      · refine e_aload_n X d_Gap_become_29 rfl ?_
        refine e_get X d_Gap_become_30 fl_Gap_9 e0 (by omega) rfl ?_
        refine z_iload_n X d_Gap_become_33 rfl ?_
        refine e_aload_n X d_Gap_become_34 rfl ?_
        refine z_iload_n X d_Gap_become_35 rfl ?_
        have hO2 : Tx G h2 o m s := hO.fr (hf o (by omega) (by omega)) (hf (o + 1) (by omega) (by omega))
        have hsj := hO.ok.1 j (by omega)
        refine z_Tat X d_Gap_become_36 cf_Gap_40_Row cf_Gap_40_Gap hO2 (by omega) (by omega) rfl ?_
        refine z_top (tat_n s j) ?_
        refine z_i2c X d_Gap_become_41 (by omega) ?_
        refine z_cast X d_Gap_become_42 (j := j) e1 (by omega) (by omega) (by omega) (iI_char (by omega)).1 (fun h9 c10 fr11 => ?_)
        have c12 := (fr11 i (by omega)).trans e0
        refine z_iinc X d_Gap_become_43 rfl (by decide) ?_
        refine e_goto (tgt := 21) X d_Gap_become_46 (by decide) ?_
        exact ih (j + 1) _ _ (by omega) (by omega) c12 c10 (zup_ch hv hsj) (zup_cp hs) (fun q q1 q2 => (fr11 q q2).trans (hf q q1 q2))
  exact loop _ 0 u _ (Nat.lt_succ_self _) (Nat.zero_le _) c6 c8 hch (fun k9 h9 => absurd h9 (Nat.not_lt_zero _)) (fun q q1 q2 => (fr7 q q1).trans (fr3 q q1))
end
section
section TX2
variable {k : lx_K} {G : lx_G} {own : String} {cc : ByteArray} {nL N cells slots pc : Nat} {R : Room} {h : Nat → va_E} {L : List (Option Value)} {rest : List Value}
theorem z_Tcut (X : Cx k G own cc nL R) {idx cnt i n : Nat} {t : Nat → Int} {a b : Nat} (hd : decode cc pc = .ok (.invokeinterface idx cnt, 5)) (hC1 : CFM own idx ci_Row y_Txt_cut m_Row_cut 2) (hC2 : CFM own idx ci_Gap y_Txt_cut m_Gap_cut 2) (hT : Tx G h i n t) (hi : i + 1 < N) (hab : a ≤ b) (hb : b ≤ n) (hR : rOK2 m_Row_cut m_Gap_cut R cells slots (rest.map fun v => v.category).sum = true) (kk : ∀ h1 : Nat → va_E, Tx G h1 i (n - (b - a)) (tx_ed t a b 0 t) → (∀ j, j ≠ i → j ≠ i + 1 → h1 j = h j) → Ev k G nL N cells slots h1 (pc + 5) L rest) : Ev k G nL N cells slots h pc L (vI (b : Int) :: vI (a : Int) :: .ref (ad (g_b G) i) :: rest) := by
  simp only [rOK2, Bool.and_eq_true] at hR
  rcases hT with hT | hT
  · obtain ⟨u, hc0, -⟩ := id hT
    refine z_callF_V X hd hC1 (As := [vI (a : Int), vI (b : Int)]) (c_Row_cut hT hi hab hb) hc0 (by omega) rfl rfl ⟨rfl, rfl⟩ hR.1 (fun h1 hp => ?_)
    exact kk h1 (Or.inl hp.1) hp.2
  · obtain ⟨gs, g, u, hc0, -⟩ := id hT
    refine z_callF_V X hd hC2 (As := [vI (a : Int), vI (b : Int)]) (c_Gap_cut hT hi hab hb) hc0 (by omega) rfl rfl ⟨rfl, rfl⟩ hR.2 (fun h1 hp => ?_)
    exact kk h1 (Or.inr hp.1) hp.2
theorem z_Tput (X : Cx k G own cc nL R) {idx cnt i n : Nat} {t : Nat → Int} {a o oc c : Nat} {p : Nat → Int} (hd : decode cc pc = .ok (.invokeinterface idx cnt, 5)) (hC1 : CFM own idx ci_Row y_Txt_put m_Row_put 2) (hC2 : CFM own idx ci_Gap y_Txt_put m_Gap_put 2) (hT : Tx G h i n t) (hi : i + 1 < N) (hO : Rw G h o oc c p) (hoN : o + 1 < N) (hne : o ≠ i ∧ o ≠ i + 1 ∧ o + 1 ≠ i) (ha : a ≤ n) (hfit : n + c ≤ 160) (hR : rOK2 m_Row_put m_Gap_put R cells slots (rest.map fun v => v.category).sum = true) (kk : ∀ h1 : Nat → va_E, Tx G h1 i (n + c) (tx_ed t a a c p) → (∀ j, j ≠ i → j ≠ i + 1 → h1 j = h j) → Ev k G nL N cells slots h1 (pc + 5) L rest) : Ev k G nL N cells slots h pc L (.ref (ad (g_b G) o) :: vI (a : Int) :: .ref (ad (g_b G) i) :: rest) := by
  simp only [rOK2, Bool.and_eq_true] at hR
  rcases hT with hT | hT
  · obtain ⟨u, hc0, -⟩ := id hT
    refine z_callF_V X hd hC1 (As := [vI (a : Int), .ref (ad (g_b G) o)]) (c_Row_put hT hi hO hoN hne ha hfit) hc0 (by omega) rfl rfl ⟨rfl, rfl⟩ hR.1 (fun h1 hp => ?_)
    exact kk h1 (Or.inl hp.1) hp.2
  · obtain ⟨gs, g, u, hc0, -⟩ := id hT
    refine z_callF_V X hd hC2 (As := [vI (a : Int), .ref (ad (g_b G) o)]) (c_Gap_put hT hi hO hoN hne ha hfit) hc0 (by omega) rfl rfl ⟨rfl, rfl⟩ hR.2 (fun h1 hp => ?_)
    exact kk h1 (Or.inr hp.1) hp.2
theorem z_Tbecome (X : Cx k G own cc nL R) {idx cnt i n : Nat} {t : Nat → Int} {o m : Nat} {s : Nat → Int} (hd : decode cc pc = .ok (.invokeinterface idx cnt, 5)) (hC1 : CFM own idx ci_Row y_Txt_become m_Row_become 1) (hC2 : CFM own idx ci_Gap y_Txt_become m_Gap_become 1) (hT : Tx G h i n t) (hi : i + 1 < N) (hO : Tx G h o m s) (hoN : o + 1 < N) (hne : o ≠ i ∧ o ≠ i + 1 ∧ o + 1 ≠ i) (hR : rOK2 m_Row_become m_Gap_become R cells slots (rest.map fun v => v.category).sum = true) (kk : ∀ h1 : Nat → va_E, Tx G h1 i m s → (∀ j, j ≠ i → j ≠ i + 1 → h1 j = h j) → Ev k G nL N cells slots h1 (pc + 5) L rest) : Ev k G nL N cells slots h pc L (.ref (ad (g_b G) o) :: .ref (ad (g_b G) i) :: rest) := by
  simp only [rOK2, Bool.and_eq_true] at hR
  rcases hT with hT | hT
  · obtain ⟨u, hc0, -⟩ := id hT
    refine z_callF_V X hd hC1 (As := [.ref (ad (g_b G) o)]) (c_Row_become hT hi hO hoN hne hO.le) hc0 (by omega) rfl rfl ⟨rfl, rfl⟩ hR.1 (fun h1 hp => ?_)
    exact kk h1 (Or.inl hp.1) hp.2
  · obtain ⟨gs, g, u, hc0, -⟩ := id hT
    refine z_callF_V X hd hC2 (As := [.ref (ad (g_b G) o)]) (c_Gap_become hT hi hO hoN hne hO.le) hc0 (by omega) rfl rfl ⟨rfl, rfl⟩ hR.2 (fun h1 hp => ?_)
    exact kk h1 (Or.inr hp.1) hp.2
end TX2
end
section
/-! History: its cell H, the row of texts H + 1, text r of the ring at H + 2 + 2 * r -/
def hfun (G : lx_G) (H : Nat) : Nat → Option Nat := fun j => some (ad (g_b G) (H + 2 + 2 * j))
abbrev tx_T : Type := Nat × (Nat → Int)
def Hist (G : lx_G) (h : Nat → va_E) (H now last : Nat) (T : Nat → tx_T) : Prop := ∃ old : Nat, h H = ob ci_His [.ref (ad (g_b G) (H + 1)), vI (old : Int), vI (now : Int), vI ((last - now : Nat) : Int)] ∧ h (H + 1) = cR G 9 (hfun G H) ∧ old < 9 ∧ now ≤ last ∧ last ≤ 8 ∧ (∀ j, j ≤ last → Rw G h (H + 2 + 2 * ((old + j) % 9)) 160 (T j).1 (T j).2) ∧ ∀ r, r < 9 → ∃ n t, Rw G h (H + 2 + 2 * r) 160 n t
theorem Hist.fr {G : lx_G} {h h' : Nat → va_E} {H now last : Nat} {T : Nat → tx_T} (hT : Hist G h H now last T) (e : ∀ q, H ≤ q → q < H + 20 → h' q = h q) : Hist G h' H now last T := by
  obtain ⟨old, h0, h1, h2, h3, h4, h5, h6⟩ := hT
  refine ⟨old, (e H (by omega) (by omega)).trans h0, (e (H + 1) (by omega) (by omega)).trans h1, h2, h3, h4, fun j hj => (h5 j hj).fr (e _ (by omega) (by omega)) (e _ (by omega) (by omega)), fun r hr => ?_⟩
  obtain ⟨n, t, h9⟩ := h6 r hr
  exact ⟨n, t, h9.fr (e _ (by omega) (by omega)) (e _ (by omega) (by omega))⟩
def hp_now (now : Nat) : Nat := if now < 8 then now + 1 else 8
def hp_T (now : Nat) (T : Nat → tx_T) (x : tx_T) : Nat → tx_T := fun j => if now < 8 then (if j = now + 1 then x else T j) else (if j = 8 then x else T (j + 1))

set_option maxRecDepth 100000 in
set_option maxHeartbeats 4000000 in
theorem c_His_undoable {l : Launch} {G : lx_G} {N : Nat} {h : Nat → va_E} {H now last : Nat} {T : Nat → tx_T} (hT : Hist G h H now last T) (hN : H + 19 < N) : CtI l G m_His_undoable N [.ref (ad (g_b G) H)] h (fun z h' => z = ((now : Nat) : Int) ∧ h' = h) := by
  obtain ⟨old, hc0, hc1, hold, hnl, hl8, hrows, hall⟩ := hT
  refine zI_of (by decide) rfl rfl ?_
  intro k X Q
  have X : Cx k G R_His b_His_undoable 1 rm_His_undoable := X
  have Q : Rt k G (some (.int)) N 0 0 (pI (fun z h' => z = ((now : Nat) : Int) ∧ h' = h)) := Q
  show Ev k G 1 N 0 0 h 0 [some (.ref (ad (g_b G) H))] []
  refine e_aload_n X d_His_undoable_0 rfl ?_
  refine e_get X d_His_undoable_1 fl_His_24 hc0 (by omega) rfl ?_
  exact z_ireturn X Q d_His_undoable_4 rfl ⟨rfl, rfl⟩

set_option maxRecDepth 100000 in
set_option maxHeartbeats 4000000 in
theorem c_His_redoable {l : Launch} {G : lx_G} {N : Nat} {h : Nat → va_E} {H now last : Nat} {T : Nat → tx_T} (hT : Hist G h H now last T) (hN : H + 19 < N) : CtI l G m_His_redoable N [.ref (ad (g_b G) H)] h (fun z h' => z = ((last - now : Nat) : Int) ∧ h' = h) := by
  obtain ⟨old, hc0, hc1, hold, hnl, hl8, hrows, hall⟩ := hT
  refine zI_of (by decide) rfl rfl ?_
  intro k X Q
  have X : Cx k G R_His b_His_redoable 1 rm_His_redoable := X
  have Q : Rt k G (some (.int)) N 0 0 (pI (fun z h' => z = ((last - now : Nat) : Int) ∧ h' = h)) := Q
  show Ev k G 1 N 0 0 h 0 [some (.ref (ad (g_b G) H))] []
  refine e_aload_n X d_His_redoable_0 rfl ?_
  refine e_get X d_His_redoable_1 fl_His_27 hc0 (by omega) rfl ?_
  exact z_ireturn X Q d_His_redoable_4 rfl ⟨rfl, rfl⟩

set_option maxRecDepth 100000 in
set_option maxHeartbeats 4000000 in
theorem c_His_latest {l : Launch} {G : lx_G} {N : Nat} {h : Nat → va_E} {H old dn : Nat} {un : Int} (hc0 : h H = ob ci_His [.ref (ad (g_b G) (H + 1)), vI (old : Int), vI (dn : Int), vI un]) (hc1 : h (H + 1) = cR G 9 (hfun G H)) (hold : old < 9) (hdn : dn ≤ 8) (hN : H + 1 < N) : CtR l G m_His_latest N [.ref (ad (g_b G) H)] h (fun i h' => i = H + 2 + 2 * ((old + dn) % 9) ∧ h' = h) := by
  refine zR_of (by decide) rfl rfl ?_
  intro k X Q
  have X : Cx k G R_His b_His_latest 1 rm_His_latest := X
  have Q : Rt k G (some (.object "VersionedText$RowText")) N 0 0 (pR G (fun i h' => i = H + 2 + 2 * ((old + dn) % 9) ∧ h' = h)) := Q
  show Ev k G 1 N 0 0 h 0 [some (.ref (ad (g_b G) H))] []
  refine e_aload_n X d_His_latest_0 rfl ?_
  refine e_get X d_His_latest_1 fl_His_13 hc0 (by omega) rfl ?_
  refine e_aload_n X d_His_latest_4 rfl ?_
  refine e_get X d_His_latest_5 fl_His_20 hc0 (by omega) rfl ?_
  refine e_aload_n X d_His_latest_8 rfl ?_
  refine e_get X d_His_latest_9 fl_His_24 hc0 (by omega) rfl ?_
  refine z_iadd X d_His_latest_12 ?_
  refine z_bipush X d_His_latest_13 (by decide) ?_
  refine z_irem X d_His_latest_15 (by omega) (by omega) ?_
  refine z_rald X d_His_latest_16 (j := (((old + dn) % 9))) hc1 (by omega) (by omega) (by omega) rfl ?_
  exact z_areturn X Q d_His_latest_17 ⟨rfl, rfl⟩

set_option maxRecDepth 100000 in
set_option maxHeartbeats 4000000 in
theorem c_His_addStep {l : Launch} {G : lx_G} {N : Nat} {h : Nat → va_E} {H now last : Nat} {T : Nat → tx_T} {e m : Nat} {s : Nat → Int} (hT : Hist G h H now last T) (hN : H + 19 < N) (hE : Tx G h e m s) (heN : e + 1 < N) (hne : e + 1 < H ∨ H + 20 ≤ e) : CtV l G m_His_addStep N [.ref (ad (g_b G) H), .ref (ad (g_b G) e)] h (fun h' => Hist G h' H (hp_now now) (hp_now now) (hp_T now T (m, s)) ∧ ∀ q, (q < H ∨ H + 20 ≤ q) → h' q = h q) := by
  obtain ⟨old, hc0, hc1, hold, hnl, hl8, hrows, hall⟩ := hT
  refine zV_of (by decide) rfl rfl ?_
  intro k X Q
  have X : Cx k G R_His b_His_addStep 2 rm_His_addStep := X
  have Q : Rt k G none N 0 0 (pV (fun h' => Hist G h' H (hp_now now) (hp_now now) (hp_T now T (m, s)) ∧ ∀ q, (q < H ∨ H + 20 ≤ q) → h' q = h q)) := Q
  show Ev k G 2 N 0 0 h 0 [some (.ref (ad (g_b G) H)), some (.ref (ad (g_b G) e))] []
  refine e_aload_n X d_His_addStep_0 rfl ?_
  refine z_iconst X d_His_addStep_1 ?_
  refine z_put X d_His_addStep_2 fl_His_27 hc0 (by omega) (Nat.le_of_ble_eq_true rfl) rfl rfl (fun h1 c2 fr3 => ?_)
  have c2 : h1 H = ob ci_His [.ref (ad (g_b G) (H + 1)), vI ((old : Nat) : Int), vI ((now : Nat) : Int), vI 0] := c2
  have c4 := (fr3 (H + 1) (by omega)).trans hc1
  refine e_aload_n X d_His_addStep_5 rfl ?_
  refine e_get X d_His_addStep_6 fl_His_24 c2 (by omega) rfl ?_
  refine z_bipush X d_His_addStep_9 (by decide) ?_
  refine z_icmp_ge (tgt := 27) X d_His_addStep_11 (by decide) (by omega) (fun q1 => ?_) (fun q1 => ?_)
  · have hn8 : now = 8 := by omega
    subst hn8
    have hl9 : last = 8 := by omega
    subst hl9
    refine e_aload_n X d_His_addStep_27 rfl ?_
    refine e_aload_n X d_His_addStep_28 rfl ?_
    refine e_get X d_His_addStep_29 fl_His_20 c2 (by omega) rfl ?_
    refine z_iconst X d_His_addStep_32 ?_
    refine z_iadd X d_His_addStep_33 ?_
    refine z_bipush X d_His_addStep_34 (by decide) ?_
    refine z_irem X d_His_addStep_36 (by omega) (by omega) ?_
    refine z_top (show _ = (((old + 1) % 9 : Nat) : Int) by omega) ?_
    refine z_put X d_His_addStep_37 fl_His_20 c2 (by omega) (Nat.le_of_ble_eq_true rfl) rfl rfl (fun h16 c17 fr18 => ?_)
    have c17 : h16 H = ob ci_His [.ref (ad (g_b G) (H + 1)), vI (((old + 1) % 9 : Nat) : Int), vI ((8 : Nat) : Int), vI 0] := c17
    have c19 := (fr18 (H + 1) (by omega)).trans c4
    refine e_aload_n X d_His_addStep_40 rfl ?_
    have hfr : ∀ q, q ≠ H → h16 q = h q := fun q q1 => (fr18 q q1).trans (fr3 q q1)
    have hE1 : Tx G h16 e m s := hE.fr (hfr _ (by omega)) (hfr _ (by omega))
    refine z_callV_R X d_His_addStep_41 cv_His_30 (c_His_latest c17 c19 (by omega) (by omega) (by omega)) c17 (by omega) rfl rfl ⟨rfl, rfl⟩ rfl (fun z22 h20 hp21 => ?_)
    obtain ⟨rfl, hh23⟩ := hp21
    rw [hh23]
    obtain ⟨n9, t9, hR9⟩ := hall ((((old + 1) % 9) + 8) % 9) (by omega)
    have hR8 : Rw G h16 (H + 2 + 2 * ((((old + 1) % 9) + 8) % 9)) 160 n9 t9 := hR9.fr (hfr _ (by omega)) (hfr _ (by omega))
    obtain ⟨u9, hr0, -⟩ := id hR8
    refine e_aload_n X d_His_addStep_44 rfl ?_
    refine z_callV_V X d_His_addStep_45 cv_His_34 (c_Row_become hR8 (by omega) hE1 (by omega) (by omega) hE1.le) hr0 (by omega) rfl rfl ⟨rfl, rfl⟩ rfl (fun h24 hp25 => ?_)
    obtain ⟨hB, hBf⟩ := hp25
    have e0 := (hBf H (by omega) (by omega)).trans c17
    have e1 := (hBf (H + 1) (by omega) (by omega)).trans c19
    have hn9 : hp_now 8 = 8 := if_neg (by omega)
    rw [← show ((8 - 8 : Nat) : Int) = 0 by omega] at e0
    have hrw : ∀ j, j ≤ 8 → Rw G h24 (H + 2 + 2 * (((old + 1) % 9 + j) % 9)) 160 (hp_T 8 T (m, s) j).1 (hp_T 8 T (m, s) j).2 := by
      intro j hj
      unfold hp_T
      rw [if_neg (show ¬ 8 < 8 by omega)]
      by_cases h9 : j = 8
      · rw [if_pos h9, h9]; exact hB
      · rw [if_neg h9]
        have h7 := hrows (j + 1) (by omega)
        rw [show (old + (j + 1)) % 9 = ((old + 1) % 9 + j) % 9 by omega] at h7
        exact (h7.fr (hfr _ (by omega)) (hfr _ (by omega))).fr (hBf _ (by omega) (by omega)) (hBf _ (by omega) (by omega))
    have hal : ∀ r, r < 9 → ∃ n t, Rw G h24 (H + 2 + 2 * r) 160 n t := by
      intro r hr
      by_cases h9 : r = ((old + 1) % 9 + 8) % 9
      · rw [h9]; exact ⟨_, _, hB⟩
      · obtain ⟨n8, t8, h8⟩ := hall r hr
        exact ⟨n8, t8, (h8.fr (hfr _ (by omega)) (hfr _ (by omega))).fr (hBf _ (by omega) (by omega)) (hBf _ (by omega) (by omega))⟩
    exact z_return X Q d_His_addStep_48 (by rw [hn9]; exact ⟨⟨(old + 1) % 9, e0, e1, by omega, Nat.le_refl _, by omega, hrw, hal⟩, fun q hq => (hBf q (by omega) (by omega)).trans (hfr q (by omega))⟩)
  · refine e_aload_n X d_His_addStep_14 rfl ?_
    refine e_dup X d_His_addStep_15 rfl ?_
    refine e_get X d_His_addStep_16 fl_His_24 c2 (by omega) rfl ?_
    refine z_iconst X d_His_addStep_19 ?_
    refine z_iadd X d_His_addStep_20 ?_
    refine z_top (show _ = ((now + 1 : Nat) : Int) by omega) ?_
    refine z_put X d_His_addStep_21 fl_His_24 c2 (by omega) (Nat.le_of_ble_eq_true rfl) rfl rfl (fun h5 c6 fr7 => ?_)
    have c6 : h5 H = ob ci_His [.ref (ad (g_b G) (H + 1)), vI ((old : Nat) : Int), vI ((now + 1 : Nat) : Int), vI 0] := c6
    have c8 := (fr7 (H + 1) (by omega)).trans c4
    refine e_goto (tgt := 40) X d_His_addStep_24 (by decide) ?_
    have hfr : ∀ q, q ≠ H → h5 q = h q := fun q q1 => (fr7 q q1).trans (fr3 q q1)
    have hE1 : Tx G h5 e m s := hE.fr (hfr _ (by omega)) (hfr _ (by omega))
    refine e_aload_n X d_His_addStep_40 rfl ?_
    refine z_callV_R X d_His_addStep_41 cv_His_30 (c_His_latest c6 c8 (by omega) (by omega) (by omega)) c6 (by omega) rfl rfl ⟨rfl, rfl⟩ rfl (fun z11 h9 hp10 => ?_)
    obtain ⟨rfl, hh12⟩ := hp10
    rw [hh12]
    obtain ⟨n9, t9, hR9⟩ := hall ((old + (now + 1)) % 9) (by omega)
    have hR8 : Rw G h5 (H + 2 + 2 * ((old + (now + 1)) % 9)) 160 n9 t9 := hR9.fr (hfr _ (by omega)) (hfr _ (by omega))
    obtain ⟨u9, hr0, -⟩ := id hR8
    refine e_aload_n X d_His_addStep_44 rfl ?_
    refine z_callV_V X d_His_addStep_45 cv_His_34 (c_Row_become hR8 (by omega) hE1 (by omega) (by omega) hE1.le) hr0 (by omega) rfl rfl ⟨rfl, rfl⟩ rfl (fun h13 hp14 => ?_)
    obtain ⟨hB, hBf⟩ := hp14
    have e0 := (hBf H (by omega) (by omega)).trans c6
    have e1 := (hBf (H + 1) (by omega) (by omega)).trans c8
    have hn9 : hp_now now = now + 1 := if_pos (by omega)
    rw [← show ((now + 1 - (now + 1) : Nat) : Int) = 0 by omega] at e0
    have hrw : ∀ j, j ≤ now + 1 → Rw G h13 (H + 2 + 2 * ((old + j) % 9)) 160 (hp_T now T (m, s) j).1 (hp_T now T (m, s) j).2 := by
      intro j hj
      unfold hp_T
      rw [if_pos (show now < 8 by omega)]
      by_cases h9 : j = now + 1
      · rw [if_pos h9, h9]; exact hB
      · rw [if_neg h9]
        exact ((hrows j (by omega)).fr (hfr _ (by omega)) (hfr _ (by omega))).fr (hBf _ (by omega) (by omega)) (hBf _ (by omega) (by omega))
    have hal : ∀ r, r < 9 → ∃ n t, Rw G h13 (H + 2 + 2 * r) 160 n t := by
      intro r hr
      by_cases h9 : r = (old + (now + 1)) % 9
      · rw [h9]; exact ⟨_, _, hB⟩
      · obtain ⟨n8, t8, h8⟩ := hall r hr
        exact ⟨n8, t8, (h8.fr (hfr _ (by omega)) (hfr _ (by omega))).fr (hBf _ (by omega) (by omega)) (hBf _ (by omega) (by omega))⟩
    exact z_return X Q d_His_addStep_48 (by rw [hn9]; exact ⟨⟨old, e0, e1, hold, Nat.le_refl _, by omega, hrw, hal⟩, fun q hq => (hBf q (by omega) (by omega)).trans (hfr q (by omega))⟩)

set_option maxRecDepth 100000 in
set_option maxHeartbeats 4000000 in
theorem c_His_extendStep {l : Launch} {G : lx_G} {N : Nat} {h : Nat → va_E} {H now last : Nat} {T : Nat → tx_T} {e m : Nat} {s : Nat → Int} (hT : Hist G h H now last T) (hN : H + 19 < N) (hE : Tx G h e m s) (heN : e + 1 < N) (hne : e + 1 < H ∨ H + 20 ≤ e) : CtV l G m_His_extendStep N [.ref (ad (g_b G) H), .ref (ad (g_b G) e)] h (fun h' => Hist G h' H now last (fun j => if j = now then (m, s) else T j) ∧ ∀ q, (q < H ∨ H + 20 ≤ q) → h' q = h q) := by
  obtain ⟨old, hc0, hc1, hold, hnl, hl8, hrows, hall⟩ := hT
  refine zV_of (by decide) rfl rfl ?_
  intro k X Q
  have X : Cx k G R_His b_His_extendStep 2 rm_His_extendStep := X
  have Q : Rt k G none N 0 0 (pV (fun h' => Hist G h' H now last (fun j => if j = now then (m, s) else T j) ∧ ∀ q, (q < H ∨ H + 20 ≤ q) → h' q = h q)) := Q
  show Ev k G 2 N 0 0 h 0 [some (.ref (ad (g_b G) H)), some (.ref (ad (g_b G) e))] []
  refine e_aload_n X d_His_extendStep_0 rfl ?_
  refine z_callV_R X d_His_extendStep_1 cv_His_30 (c_His_latest hc0 hc1 (by omega) (by omega) (by omega)) hc0 (by omega) rfl rfl ⟨rfl, rfl⟩ rfl (fun z3 h1 hp2 => ?_)
  obtain ⟨rfl, hh4⟩ := hp2
  rw [hh4]
  have hR8 := hrows now hnl
  obtain ⟨u9, hr0, -⟩ := id hR8
  refine e_aload_n X d_His_extendStep_4 rfl ?_
  refine z_callV_V X d_His_extendStep_5 cv_His_34 (c_Row_become hR8 (by omega) hE (by omega) (by omega) hE.le) hr0 (by omega) rfl rfl ⟨rfl, rfl⟩ rfl (fun h5 hp6 => ?_)
  obtain ⟨hB, hBf⟩ := hp6
  have hrw : ∀ j, j ≤ last → Rw G h5 (H + 2 + 2 * ((old + j) % 9)) 160 (if j = now then (m, s) else T j).1 (if j = now then (m, s) else T j).2 := by
    intro j hj
    by_cases h9 : j = now
    · rw [if_pos h9, h9]; exact hB
    · rw [if_neg h9]; exact (hrows j hj).fr (hBf _ (by omega) (by omega)) (hBf _ (by omega) (by omega))
  have hal : ∀ r, r < 9 → ∃ n t, Rw G h5 (H + 2 + 2 * r) 160 n t := by
    intro r hr
    by_cases h9 : r = (old + now) % 9
    · rw [h9]; exact ⟨_, _, hB⟩
    · obtain ⟨n8, t8, h8⟩ := hall r hr
      exact ⟨n8, t8, h8.fr (hBf _ (by omega) (by omega)) (hBf _ (by omega) (by omega))⟩
  exact z_return X Q d_His_extendStep_8 ⟨⟨old, (hBf H (by omega) (by omega)).trans hc0, (hBf (H + 1) (by omega) (by omega)).trans hc1, hold, hnl, hl8, hrw, hal⟩, fun q hq => hBf q (by omega) (by omega)⟩

set_option maxRecDepth 100000 in
set_option maxHeartbeats 4000000 in
theorem c_His_goBack {l : Launch} {G : lx_G} {N : Nat} {h : Nat → va_E} {H now last : Nat} {T : Nat → tx_T} {e m : Nat} {s : Nat → Int} (hT : Hist G h H now last T) (hN : H + 19 < N) (hE : Tx G h e m s) (heN : e + 1 < N) (hne : e + 1 < H ∨ H + 20 ≤ e) (hgo : 0 < now) : CtV l G m_His_goBack N [.ref (ad (g_b G) H), .ref (ad (g_b G) e)] h (fun h' => Hist G h' H (now - 1) last T ∧ Tx G h' e (T (now - 1)).1 (T (now - 1)).2 ∧ ∀ q, (q < H ∨ H + 20 ≤ q) → (q ≠ e ∧ q ≠ e + 1) → h' q = h q) := by
  obtain ⟨old, hc0, hc1, hold, hnl, hl8, hrows, hall⟩ := hT
  refine zV_of (by decide) rfl rfl ?_
  intro k X Q
  have X : Cx k G R_His b_His_goBack 2 rm_His_goBack := X
  have Q : Rt k G none N 0 0 (pV (fun h' => Hist G h' H (now - 1) last T ∧ Tx G h' e (T (now - 1)).1 (T (now - 1)).2 ∧ ∀ q, (q < H ∨ H + 20 ≤ q) → (q ≠ e ∧ q ≠ e + 1) → h' q = h q)) := Q
  show Ev k G 2 N 0 0 h 0 [some (.ref (ad (g_b G) H)), some (.ref (ad (g_b G) e))] []
  refine e_aload_n X d_His_goBack_0 rfl ?_
  refine e_dup X d_His_goBack_1 rfl ?_
  refine e_get X d_His_goBack_2 fl_His_24 hc0 (by omega) rfl ?_
  refine z_iconst X d_His_goBack_5 ?_
  refine z_isub X d_His_goBack_6 ?_
  refine z_top (show _ = ((now - 1 : Nat) : Int) by omega) ?_
  refine z_put X d_His_goBack_7 fl_His_24 hc0 (by omega) (Nat.le_of_ble_eq_true rfl) rfl rfl (fun h1 c2 fr3 => ?_)
  have c2 : h1 H = ob ci_His [.ref (ad (g_b G) (H + 1)), vI ((old : Nat) : Int), vI ((now - 1 : Nat) : Int), vI ((last - now : Nat) : Int)] := c2
  have c4 := (fr3 (H + 1) (by omega)).trans hc1
  refine e_aload_n X d_His_goBack_10 rfl ?_
  refine e_dup X d_His_goBack_11 rfl ?_
  refine e_get X d_His_goBack_12 fl_His_27 c2 (by omega) rfl ?_
  refine z_iconst X d_His_goBack_15 ?_
  refine z_iadd X d_His_goBack_16 ?_
  refine z_top (show _ = ((last - (now - 1) : Nat) : Int) by omega) ?_
  refine z_put X d_His_goBack_17 fl_His_27 c2 (by omega) (Nat.le_of_ble_eq_true rfl) rfl rfl (fun h5 c6 fr7 => ?_)
  have c6 : h5 H = ob ci_His [.ref (ad (g_b G) (H + 1)), vI ((old : Nat) : Int), vI ((now - 1 : Nat) : Int), vI ((last - (now - 1) : Nat) : Int)] := c6
  have c8 := (fr7 (H + 1) (by omega)).trans c4
  refine e_aload_n X d_His_goBack_20 rfl ?_
  refine e_aload_n X d_His_goBack_21 rfl ?_
  have hfr : ∀ q, q ≠ H → h5 q = h q := fun q q1 => (fr7 q q1).trans (fr3 q q1)
  have hE1 : Tx G h5 e m s := hE.fr (hfr _ (by omega)) (hfr _ (by omega))
  refine z_callV_R X d_His_goBack_22 cv_His_30 (c_His_latest c6 c8 (by omega) (by omega) (by omega)) c6 (by omega) rfl rfl ⟨rfl, rfl⟩ rfl (fun z11 h9 hp10 => ?_)
  obtain ⟨rfl, hh12⟩ := hp10
  rw [hh12]
  have hR8 : Rw G h5 (H + 2 + 2 * ((old + (now - 1)) % 9)) 160 (T (now - 1)).1 (T (now - 1)).2 := (hrows (now - 1) (by omega)).fr (hfr _ (by omega)) (hfr _ (by omega))
  refine z_Tbecome X d_His_goBack_25 cf_His_38_Row cf_His_38_Gap hE1 (by omega) (Or.inl hR8) (by omega) (by omega) rfl (fun h13 hB14 hBf15 => ?_)
  exact z_return X Q d_His_goBack_30 ⟨⟨old, (hBf15 H (by omega) (by omega)).trans c6, (hBf15 (H + 1) (by omega) (by omega)).trans c8, hold, by omega, hl8, fun j hj => ((hrows j hj).fr (hfr _ (by omega)) (hfr _ (by omega))).fr (hBf15 _ (by omega) (by omega)) (hBf15 _ (by omega) (by omega)), fun r hr => (by obtain ⟨n8, t8, h8⟩ := hall r hr; exact ⟨n8, t8, (h8.fr (hfr _ (by omega)) (hfr _ (by omega))).fr (hBf15 _ (by omega) (by omega)) (hBf15 _ (by omega) (by omega))⟩)⟩, hB14, fun q h8 h9 => (hBf15 q (by omega) (by omega)).trans (hfr q (by omega))⟩

set_option maxRecDepth 100000 in
set_option maxHeartbeats 4000000 in
theorem c_His_goForward {l : Launch} {G : lx_G} {N : Nat} {h : Nat → va_E} {H now last : Nat} {T : Nat → tx_T} {e m : Nat} {s : Nat → Int} (hT : Hist G h H now last T) (hN : H + 19 < N) (hE : Tx G h e m s) (heN : e + 1 < N) (hne : e + 1 < H ∨ H + 20 ≤ e) (hgo : now < last) : CtV l G m_His_goForward N [.ref (ad (g_b G) H), .ref (ad (g_b G) e)] h (fun h' => Hist G h' H (now + 1) last T ∧ Tx G h' e (T (now + 1)).1 (T (now + 1)).2 ∧ ∀ q, (q < H ∨ H + 20 ≤ q) → (q ≠ e ∧ q ≠ e + 1) → h' q = h q) := by
  obtain ⟨old, hc0, hc1, hold, hnl, hl8, hrows, hall⟩ := hT
  refine zV_of (by decide) rfl rfl ?_
  intro k X Q
  have X : Cx k G R_His b_His_goForward 2 rm_His_goForward := X
  have Q : Rt k G none N 0 0 (pV (fun h' => Hist G h' H (now + 1) last T ∧ Tx G h' e (T (now + 1)).1 (T (now + 1)).2 ∧ ∀ q, (q < H ∨ H + 20 ≤ q) → (q ≠ e ∧ q ≠ e + 1) → h' q = h q)) := Q
  show Ev k G 2 N 0 0 h 0 [some (.ref (ad (g_b G) H)), some (.ref (ad (g_b G) e))] []
  refine e_aload_n X d_His_goForward_0 rfl ?_
  refine e_dup X d_His_goForward_1 rfl ?_
  refine e_get X d_His_goForward_2 fl_His_24 hc0 (by omega) rfl ?_
  refine z_iconst X d_His_goForward_5 ?_
  refine z_iadd X d_His_goForward_6 ?_
  refine z_top (show _ = ((now + 1 : Nat) : Int) by omega) ?_
  refine z_put X d_His_goForward_7 fl_His_24 hc0 (by omega) (Nat.le_of_ble_eq_true rfl) rfl rfl (fun h1 c2 fr3 => ?_)
  have c2 : h1 H = ob ci_His [.ref (ad (g_b G) (H + 1)), vI ((old : Nat) : Int), vI ((now + 1 : Nat) : Int), vI ((last - now : Nat) : Int)] := c2
  have c4 := (fr3 (H + 1) (by omega)).trans hc1
  refine e_aload_n X d_His_goForward_10 rfl ?_
  refine e_dup X d_His_goForward_11 rfl ?_
  refine e_get X d_His_goForward_12 fl_His_27 c2 (by omega) rfl ?_
  refine z_iconst X d_His_goForward_15 ?_
  refine z_isub X d_His_goForward_16 ?_
  refine z_top (show _ = ((last - (now + 1) : Nat) : Int) by omega) ?_
  refine z_put X d_His_goForward_17 fl_His_27 c2 (by omega) (Nat.le_of_ble_eq_true rfl) rfl rfl (fun h5 c6 fr7 => ?_)
  have c6 : h5 H = ob ci_His [.ref (ad (g_b G) (H + 1)), vI ((old : Nat) : Int), vI ((now + 1 : Nat) : Int), vI ((last - (now + 1) : Nat) : Int)] := c6
  have c8 := (fr7 (H + 1) (by omega)).trans c4
  refine e_aload_n X d_His_goForward_20 rfl ?_
  refine e_aload_n X d_His_goForward_21 rfl ?_
  have hfr : ∀ q, q ≠ H → h5 q = h q := fun q q1 => (fr7 q q1).trans (fr3 q q1)
  have hE1 : Tx G h5 e m s := hE.fr (hfr _ (by omega)) (hfr _ (by omega))
  refine z_callV_R X d_His_goForward_22 cv_His_30 (c_His_latest c6 c8 (by omega) (by omega) (by omega)) c6 (by omega) rfl rfl ⟨rfl, rfl⟩ rfl (fun z11 h9 hp10 => ?_)
  obtain ⟨rfl, hh12⟩ := hp10
  rw [hh12]
  have hR8 : Rw G h5 (H + 2 + 2 * ((old + (now + 1)) % 9)) 160 (T (now + 1)).1 (T (now + 1)).2 := (hrows (now + 1) (by omega)).fr (hfr _ (by omega)) (hfr _ (by omega))
  refine z_Tbecome X d_His_goForward_25 cf_His_38_Row cf_His_38_Gap hE1 (by omega) (Or.inl hR8) (by omega) (by omega) rfl (fun h13 hB14 hBf15 => ?_)
  exact z_return X Q d_His_goForward_30 ⟨⟨old, (hBf15 H (by omega) (by omega)).trans c6, (hBf15 (H + 1) (by omega) (by omega)).trans c8, hold, by omega, hl8, fun j hj => ((hrows j hj).fr (hfr _ (by omega)) (hfr _ (by omega))).fr (hBf15 _ (by omega) (by omega)) (hBf15 _ (by omega) (by omega)), fun r hr => (by obtain ⟨n8, t8, h8⟩ := hall r hr; exact ⟨n8, t8, (h8.fr (hfr _ (by omega)) (hfr _ (by omega))).fr (hBf15 _ (by omega) (by omega)) (hBf15 _ (by omega) (by omega))⟩)⟩, hB14, fun q h8 h9 => (hBf15 q (by omega) (by omega)).trans (hfr q (by omega))⟩
end
section
/-! booleans as ints -/
def b2z (b : Bool) : Int := if b = true then 1 else 0
theorem b2z_t {b : Bool} (h : b = true) : b2z b = 1 := if_pos h
theorem b2z_f {b : Bool} (h : b = false) : b2z b = 0 := if_neg (by rw [h]; decide)
theorem b2z_eq {b : Bool} (h : b2z b = 0) : b = false := by
  cases b with
  | true => rw [b2z_t rfl] at h; omega
  | false => rfl
theorem b2z_ne {b : Bool} (h : ¬ b2z b = 0) : b = true := by
  cases b with
  | true => rfl
  | false => exact absurd (b2z_f rfl) h
theorem b2z_rg (b : Bool) : 0 ≤ b2z b ∧ b2z b ≤ 1 := by
  cases b with
  | true => rw [b2z_t rfl]; omega
  | false => rw [b2z_f rfl]; omega
theorem b2z_nar (b : Bool) : narrow .boolean (vI (b2z b)) = vI (b2z b) := by
  cases b with
  | true => rfl
  | false => rfl
theorem tat_pre {t : Nat → Int} (p : Nat) : tat t ((p : Int) - 1) = t_pre t p := by
  cases p with
  | zero => rfl
  | succ p =>
    rw [show ((p + 1 : Nat) : Int) - 1 = (p : Int) by omega, tat_n]
    rfl
theorem t_pre_rg {n : Nat} {t : Nat → Int} (ht : tx_ok n t) (p : Nat) : -1 ≤ t_pre t p ∧ t_pre t p < 65536 := by
  cases p with
  | zero => exact ⟨Int.le_refl _, (by decide : (-1 : Int) < 65536)⟩
  | succ p => exact tx_ge ht p
theorem u_hi_iff {x : Int} : u_hi x = true ↔ 55296 ≤ x ∧ x ≤ 56319 := by simp [u_hi]
theorem u_lo_iff {x : Int} : u_lo x = true ↔ 56320 ≤ x ∧ x ≤ 57343 := by simp [u_lo]
theorem cod_rg {n : Nat} {t : Nat → Int} (ht : tx_ok n t) {p : Nat} (hp : p < n) : 0 ≤ cod t p ∧ cod t p < 1114112 := by
  unfold cod
  have h1 := ht.1 p hp
  split
  · rename_i h
    simp only [Bool.and_eq_true] at h
    have h2 := u_hi_iff.mp h.1
    have h3 := u_lo_iff.mp h.2
    omega
  · omega
theorem bg1_lt {n : Nat} {t : Nat → Int} (ht : tx_ok n t) {p : Nat} (h : bg1 t p = true) : p < n := by
  unfold bg1 at h
  simp only [Bool.and_eq_true, decide_eq_true_eq] at h
  rcases Nat.lt_or_ge p n with h1 | h1
  · exact h1
  · exact absurd (ht.2 p h1) h.1
theorem wk_rg {n : Nat} {t : Nat → Int} (ht : tx_ok n t) (p : Nat) : (-1 ≤ (wk t p).1 ∧ (wk t p).1 < 1114112) ∧ (-1 ≤ (wk t p).2.1 ∧ (wk t p).2.1 < 1114112) ∧ (wk t p).2.2 ≤ p := by
  induction p with
  | zero => simp [wk]
  | succ p ih =>
    unfold wk
    split
    · rename_i h
      have h1 := cod_rg ht (bg1_lt ht h)
      refine ⟨by omega, ?_, ?_⟩
      · dsimp only
        split <;> omega
      · dsimp only
        split <;> omega
    · omega
/-- what the class's walk does at a point -/
theorem wk_t {t : Nat → Int} {p : Nat} (h : bg1 t p = true) : wk t (p + 1) = (cod t p, if is_mark (wk t p).1 then (wk t p).2.1 else (wk t p).1, if is_flag (wk t p).1 then (wk t p).2.2 + 1 else 0) := by
  rw [wk, if_pos h]
theorem wk_f {t : Nat → Int} {p : Nat} (h : bg1 t p = false) : wk t (p + 1) = wk t p := by
  rw [wk, if_neg (by rw [h]; decide)]
theorem bg_0 {n : Nat} {t : Nat → Int} {p : Nat} : bg 0 n t p = decide (p < n) := if_pos rfl
theorem bg_1 {n : Nat} {t : Nat → Int} {p : Nat} : bg 1 n t p = bg1 t p := by simp [bg]
theorem bg_2 {n : Nat} {t : Nat → Int} {p : Nat} : bg 2 n t p = bg2 n t p := by simp [bg]
theorem bg_3 {n : Nat} {t : Nat → Int} {p : Nat} : bg 3 n t p = bg3 t p := by simp [bg]
theorem b2z_r (b : Bool) : -2147483648 ≤ b2z b ∧ b2z b < 2147483648 := by
  have := b2z_rg b
  omega
end
section
set_option maxRecDepth 100000 in
set_option maxHeartbeats 4000000 in
theorem c_Clu_isMark {l : Launch} {G : lx_G} {N : Nat} {h : Nat → va_E} {x : Int} (hr : -2147483648 ≤ x ∧ x < 2147483648) : CtI l G m_Clu_isMark N [vI (x)] h (fun z h' => z = b2z (is_mark x) ∧ h' = h) := by
  refine zI_of (by decide) rfl rfl ?_
  intro k X Q
  have X : Cx k G R_Clu b_Clu_isMark 1 rm_Clu_isMark := X
  have Q : Rt k G (some (.boolean)) N 0 0 (pI (fun z h' => z = b2z (is_mark x) ∧ h' = h)) := Q
  show Ev k G 1 N 0 0 h 0 [some (vI (x))] []
  refine z_iload_n X d_Clu_isMark_0 rfl ?_
  refine z_sipush X d_Clu_isMark_1 (by decide) ?_
  refine z_icmp_lt (tgt := 18) X d_Clu_isMark_4 (by decide) (by omega) (fun q1 => ?_) (fun q1 => ?_)
  · refine z_iconst X d_Clu_isMark_18 ?_
    exact z_ireturn X Q d_Clu_isMark_19 rfl ⟨(b2z_f (decide_eq_false (by omega))).symm, rfl⟩
  · refine z_iload_n X d_Clu_isMark_7 rfl ?_
    refine z_sipush X d_Clu_isMark_8 (by decide) ?_
    refine z_icmp_gt (tgt := 18) X d_Clu_isMark_11 (by decide) (by omega) (fun q2 => ?_) (fun q2 => ?_)
    · refine z_iconst X d_Clu_isMark_18 ?_
      exact z_ireturn X Q d_Clu_isMark_19 rfl ⟨(b2z_f (decide_eq_false (by omega))).symm, rfl⟩
    · refine z_iconst X d_Clu_isMark_14 ?_
      refine e_goto (tgt := 19) X d_Clu_isMark_15 (by decide) ?_
      exact z_ireturn X Q d_Clu_isMark_19 rfl ⟨(b2z_t (decide_eq_true (by omega))).symm, rfl⟩

set_option maxRecDepth 100000 in
set_option maxHeartbeats 4000000 in
theorem c_Clu_isPicture {l : Launch} {G : lx_G} {N : Nat} {h : Nat → va_E} {x : Int} (hr : -2147483648 ≤ x ∧ x < 2147483648) : CtI l G m_Clu_isPicture N [vI (x)] h (fun z h' => z = b2z (is_pic x) ∧ h' = h) := by
  refine zI_of (by decide) rfl rfl ?_
  intro k X Q
  have X : Cx k G R_Clu b_Clu_isPicture 1 rm_Clu_isPicture := X
  have Q : Rt k G (some (.boolean)) N 0 0 (pI (fun z h' => z = b2z (is_pic x) ∧ h' = h)) := Q
  show Ev k G 1 N 0 0 h 0 [some (vI (x))] []
  refine z_iload_n X d_Clu_isPicture_0 rfl ?_
  refine z_ldc (n := 127744) X d_Clu_isPicture_1 cst_Clu_34 (by decide) ?_
  refine z_icmp_lt (tgt := 16) X d_Clu_isPicture_3 (by decide) (by omega) (fun q1 => ?_) (fun q1 => ?_)
  · refine z_iconst X d_Clu_isPicture_16 ?_
    exact z_ireturn X Q d_Clu_isPicture_17 rfl ⟨(b2z_f (decide_eq_false (by omega))).symm, rfl⟩
  · refine z_iload_n X d_Clu_isPicture_6 rfl ?_
    refine z_ldc (n := 129791) X d_Clu_isPicture_7 cst_Clu_35 (by decide) ?_
    refine z_icmp_gt (tgt := 16) X d_Clu_isPicture_9 (by decide) (by omega) (fun q2 => ?_) (fun q2 => ?_)
    · refine z_iconst X d_Clu_isPicture_16 ?_
      exact z_ireturn X Q d_Clu_isPicture_17 rfl ⟨(b2z_f (decide_eq_false (by omega))).symm, rfl⟩
    · refine z_iconst X d_Clu_isPicture_12 ?_
      refine e_goto (tgt := 17) X d_Clu_isPicture_13 (by decide) ?_
      exact z_ireturn X Q d_Clu_isPicture_17 rfl ⟨(b2z_t (decide_eq_true (by omega))).symm, rfl⟩

set_option maxRecDepth 100000 in
set_option maxHeartbeats 4000000 in
theorem c_Clu_isFlag {l : Launch} {G : lx_G} {N : Nat} {h : Nat → va_E} {x : Int} (hr : -2147483648 ≤ x ∧ x < 2147483648) : CtI l G m_Clu_isFlag N [vI (x)] h (fun z h' => z = b2z (is_flag x) ∧ h' = h) := by
  refine zI_of (by decide) rfl rfl ?_
  intro k X Q
  have X : Cx k G R_Clu b_Clu_isFlag 1 rm_Clu_isFlag := X
  have Q : Rt k G (some (.boolean)) N 0 0 (pI (fun z h' => z = b2z (is_flag x) ∧ h' = h)) := Q
  show Ev k G 1 N 0 0 h 0 [some (vI (x))] []
  refine z_iload_n X d_Clu_isFlag_0 rfl ?_
  refine z_ldc (n := 127462) X d_Clu_isFlag_1 cst_Clu_36 (by decide) ?_
  refine z_icmp_lt (tgt := 16) X d_Clu_isFlag_3 (by decide) (by omega) (fun q1 => ?_) (fun q1 => ?_)
  · refine z_iconst X d_Clu_isFlag_16 ?_
    exact z_ireturn X Q d_Clu_isFlag_17 rfl ⟨(b2z_f (decide_eq_false (by omega))).symm, rfl⟩
  · refine z_iload_n X d_Clu_isFlag_6 rfl ?_
    refine z_ldc (n := 127487) X d_Clu_isFlag_7 cst_Clu_37 (by decide) ?_
    refine z_icmp_gt (tgt := 16) X d_Clu_isFlag_9 (by decide) (by omega) (fun q2 => ?_) (fun q2 => ?_)
    · refine z_iconst X d_Clu_isFlag_16 ?_
      exact z_ireturn X Q d_Clu_isFlag_17 rfl ⟨(b2z_f (decide_eq_false (by omega))).symm, rfl⟩
    · refine z_iconst X d_Clu_isFlag_12 ?_
      refine e_goto (tgt := 17) X d_Clu_isFlag_13 (by decide) ?_
      exact z_ireturn X Q d_Clu_isFlag_17 rfl ⟨(b2z_t (decide_eq_true (by omega))).symm, rfl⟩

set_option maxRecDepth 100000 in
set_option maxHeartbeats 4000000 in
theorem c_Mod_isMark {l : Launch} {G : lx_G} {N : Nat} {h : Nat → va_E} {x : Int} (hr : -2147483648 ≤ x ∧ x < 2147483648) : CtI l G m_Mod_isMark N [vI (x)] h (fun z h' => z = b2z (is_mark x) ∧ h' = h) := by
  refine zI_of (by decide) rfl rfl ?_
  intro k X Q
  have X : Cx k G R_Mod b_Mod_isMark 1 rm_Mod_isMark := X
  have Q : Rt k G (some (.boolean)) N 0 0 (pI (fun z h' => z = b2z (is_mark x) ∧ h' = h)) := Q
  show Ev k G 1 N 0 0 h 0 [some (vI (x))] []
  refine z_iload_n X d_Mod_isMark_0 rfl ?_
  refine z_sipush X d_Mod_isMark_1 (by decide) ?_
  refine z_icmp_lt (tgt := 18) X d_Mod_isMark_4 (by decide) (by omega) (fun q1 => ?_) (fun q1 => ?_)
  · refine z_iconst X d_Mod_isMark_18 ?_
    exact z_ireturn X Q d_Mod_isMark_19 rfl ⟨(b2z_f (decide_eq_false (by omega))).symm, rfl⟩
  · refine z_iload_n X d_Mod_isMark_7 rfl ?_
    refine z_sipush X d_Mod_isMark_8 (by decide) ?_
    refine z_icmp_gt (tgt := 18) X d_Mod_isMark_11 (by decide) (by omega) (fun q2 => ?_) (fun q2 => ?_)
    · refine z_iconst X d_Mod_isMark_18 ?_
      exact z_ireturn X Q d_Mod_isMark_19 rfl ⟨(b2z_f (decide_eq_false (by omega))).symm, rfl⟩
    · refine z_iconst X d_Mod_isMark_14 ?_
      refine e_goto (tgt := 19) X d_Mod_isMark_15 (by decide) ?_
      exact z_ireturn X Q d_Mod_isMark_19 rfl ⟨(b2z_t (decide_eq_true (by omega))).symm, rfl⟩

set_option maxRecDepth 100000 in
set_option maxHeartbeats 4000000 in
theorem c_Mod_isPicture {l : Launch} {G : lx_G} {N : Nat} {h : Nat → va_E} {x : Int} (hr : -2147483648 ≤ x ∧ x < 2147483648) : CtI l G m_Mod_isPicture N [vI (x)] h (fun z h' => z = b2z (is_pic x) ∧ h' = h) := by
  refine zI_of (by decide) rfl rfl ?_
  intro k X Q
  have X : Cx k G R_Mod b_Mod_isPicture 1 rm_Mod_isPicture := X
  have Q : Rt k G (some (.boolean)) N 0 0 (pI (fun z h' => z = b2z (is_pic x) ∧ h' = h)) := Q
  show Ev k G 1 N 0 0 h 0 [some (vI (x))] []
  refine z_iload_n X d_Mod_isPicture_0 rfl ?_
  refine z_ldc (n := 127744) X d_Mod_isPicture_1 cst_Mod_59 (by decide) ?_
  refine z_icmp_lt (tgt := 16) X d_Mod_isPicture_3 (by decide) (by omega) (fun q1 => ?_) (fun q1 => ?_)
  · refine z_iconst X d_Mod_isPicture_16 ?_
    exact z_ireturn X Q d_Mod_isPicture_17 rfl ⟨(b2z_f (decide_eq_false (by omega))).symm, rfl⟩
  · refine z_iload_n X d_Mod_isPicture_6 rfl ?_
    refine z_ldc (n := 129791) X d_Mod_isPicture_7 cst_Mod_60 (by decide) ?_
    refine z_icmp_gt (tgt := 16) X d_Mod_isPicture_9 (by decide) (by omega) (fun q2 => ?_) (fun q2 => ?_)
    · refine z_iconst X d_Mod_isPicture_16 ?_
      exact z_ireturn X Q d_Mod_isPicture_17 rfl ⟨(b2z_f (decide_eq_false (by omega))).symm, rfl⟩
    · refine z_iconst X d_Mod_isPicture_12 ?_
      refine e_goto (tgt := 17) X d_Mod_isPicture_13 (by decide) ?_
      exact z_ireturn X Q d_Mod_isPicture_17 rfl ⟨(b2z_t (decide_eq_true (by omega))).symm, rfl⟩

set_option maxRecDepth 100000 in
set_option maxHeartbeats 4000000 in
theorem c_Mod_isFlag {l : Launch} {G : lx_G} {N : Nat} {h : Nat → va_E} {x : Int} (hr : -2147483648 ≤ x ∧ x < 2147483648) : CtI l G m_Mod_isFlag N [vI (x)] h (fun z h' => z = b2z (is_flag x) ∧ h' = h) := by
  refine zI_of (by decide) rfl rfl ?_
  intro k X Q
  have X : Cx k G R_Mod b_Mod_isFlag 1 rm_Mod_isFlag := X
  have Q : Rt k G (some (.boolean)) N 0 0 (pI (fun z h' => z = b2z (is_flag x) ∧ h' = h)) := Q
  show Ev k G 1 N 0 0 h 0 [some (vI (x))] []
  refine z_iload_n X d_Mod_isFlag_0 rfl ?_
  refine z_ldc (n := 127462) X d_Mod_isFlag_1 cst_Mod_61 (by decide) ?_
  refine z_icmp_lt (tgt := 16) X d_Mod_isFlag_3 (by decide) (by omega) (fun q1 => ?_) (fun q1 => ?_)
  · refine z_iconst X d_Mod_isFlag_16 ?_
    exact z_ireturn X Q d_Mod_isFlag_17 rfl ⟨(b2z_f (decide_eq_false (by omega))).symm, rfl⟩
  · refine z_iload_n X d_Mod_isFlag_6 rfl ?_
    refine z_ldc (n := 127487) X d_Mod_isFlag_7 cst_Mod_62 (by decide) ?_
    refine z_icmp_gt (tgt := 16) X d_Mod_isFlag_9 (by decide) (by omega) (fun q2 => ?_) (fun q2 => ?_)
    · refine z_iconst X d_Mod_isFlag_16 ?_
      exact z_ireturn X Q d_Mod_isFlag_17 rfl ⟨(b2z_f (decide_eq_false (by omega))).symm, rfl⟩
    · refine z_iconst X d_Mod_isFlag_12 ?_
      refine e_goto (tgt := 17) X d_Mod_isFlag_13 (by decide) ?_
      exact z_ireturn X Q d_Mod_isFlag_17 rfl ⟨(b2z_t (decide_eq_true (by omega))).symm, rfl⟩

set_option maxRecDepth 100000 in
set_option maxHeartbeats 4000000 in
theorem c_Itm_isFirst {l : Launch} {G : lx_G} {N : Nat} {h : Nat → va_E} {x : Int} (hr : -2147483648 ≤ x ∧ x < 2147483648) : CtI l G m_Itm_isFirst N [vI (x)] h (fun z h' => z = b2z (u_hi x) ∧ h' = h) := by
  refine zI_of (by decide) rfl rfl ?_
  intro k X Q
  have X : Cx k G R_Itm b_Itm_isFirst 1 rm_Itm_isFirst := X
  have Q : Rt k G (some (.boolean)) N 0 0 (pI (fun z h' => z = b2z (u_hi x) ∧ h' = h)) := Q
  show Ev k G 1 N 0 0 h 0 [some (vI (x))] []
  refine z_iload_n X d_Itm_isFirst_0 rfl ?_
  refine z_ldc (n := 55296) X d_Itm_isFirst_1 cst_Itm_72 (by decide) ?_
  refine z_icmp_lt (tgt := 16) X d_Itm_isFirst_3 (by decide) (by omega) (fun q1 => ?_) (fun q1 => ?_)
  · refine z_iconst X d_Itm_isFirst_16 ?_
    exact z_ireturn X Q d_Itm_isFirst_17 rfl ⟨(b2z_f (decide_eq_false (by omega))).symm, rfl⟩
  · refine z_iload_n X d_Itm_isFirst_6 rfl ?_
    refine z_ldc (n := 56319) X d_Itm_isFirst_7 cst_Itm_74 (by decide) ?_
    refine z_icmp_gt (tgt := 16) X d_Itm_isFirst_9 (by decide) (by omega) (fun q2 => ?_) (fun q2 => ?_)
    · refine z_iconst X d_Itm_isFirst_16 ?_
      exact z_ireturn X Q d_Itm_isFirst_17 rfl ⟨(b2z_f (decide_eq_false (by omega))).symm, rfl⟩
    · refine z_iconst X d_Itm_isFirst_12 ?_
      refine e_goto (tgt := 17) X d_Itm_isFirst_13 (by decide) ?_
      exact z_ireturn X Q d_Itm_isFirst_17 rfl ⟨(b2z_t (decide_eq_true (by omega))).symm, rfl⟩

set_option maxRecDepth 100000 in
set_option maxHeartbeats 4000000 in
theorem c_Itm_isSecond {l : Launch} {G : lx_G} {N : Nat} {h : Nat → va_E} {x : Int} (hr : -2147483648 ≤ x ∧ x < 2147483648) : CtI l G m_Itm_isSecond N [vI (x)] h (fun z h' => z = b2z (u_lo x) ∧ h' = h) := by
  refine zI_of (by decide) rfl rfl ?_
  intro k X Q
  have X : Cx k G R_Itm b_Itm_isSecond 1 rm_Itm_isSecond := X
  have Q : Rt k G (some (.boolean)) N 0 0 (pI (fun z h' => z = b2z (u_lo x) ∧ h' = h)) := Q
  show Ev k G 1 N 0 0 h 0 [some (vI (x))] []
  refine z_iload_n X d_Itm_isSecond_0 rfl ?_
  refine z_ldc (n := 56320) X d_Itm_isSecond_1 cst_Itm_73 (by decide) ?_
  refine z_icmp_lt (tgt := 16) X d_Itm_isSecond_3 (by decide) (by omega) (fun q1 => ?_) (fun q1 => ?_)
  · refine z_iconst X d_Itm_isSecond_16 ?_
    exact z_ireturn X Q d_Itm_isSecond_17 rfl ⟨(b2z_f (decide_eq_false (by omega))).symm, rfl⟩
  · refine z_iload_n X d_Itm_isSecond_6 rfl ?_
    refine z_ldc (n := 57343) X d_Itm_isSecond_7 cst_Itm_75 (by decide) ?_
    refine z_icmp_gt (tgt := 16) X d_Itm_isSecond_9 (by decide) (by omega) (fun q2 => ?_) (fun q2 => ?_)
    · refine z_iconst X d_Itm_isSecond_16 ?_
      exact z_ireturn X Q d_Itm_isSecond_17 rfl ⟨(b2z_f (decide_eq_false (by omega))).symm, rfl⟩
    · refine z_iconst X d_Itm_isSecond_12 ?_
      refine e_goto (tgt := 17) X d_Itm_isSecond_13 (by decide) ?_
      exact z_ireturn X Q d_Itm_isSecond_17 rfl ⟨(b2z_t (decide_eq_true (by omega))).symm, rfl⟩

set_option maxRecDepth 100000 in
set_option maxHeartbeats 4000000 in
theorem c_Clu_restart {l : Launch} {G : lx_G} {N : Nat} {h : Nat → va_E} {i fl : Nat} {last lead : Int} (hc0 : h i = ob ci_Clu [vI last, vI lead, vI (fl : Int)]) (hN : i < N) : CtV l G m_Clu_restart N [.ref (ad (g_b G) i)] h (fun h' => h' i = ob ci_Clu [vI (-1), vI (-1), vI ((0 : Nat) : Int)] ∧ ∀ q, q ≠ i → h' q = h q) := by
  refine zV_of (by decide) rfl rfl ?_
  intro k X Q
  have X : Cx k G R_Clu b_Clu_restart 1 rm_Clu_restart := X
  have Q : Rt k G none N 0 0 (pV (fun h' => h' i = ob ci_Clu [vI (-1), vI (-1), vI ((0 : Nat) : Int)] ∧ ∀ q, q ≠ i → h' q = h q)) := Q
  show Ev k G 1 N 0 0 h 0 [some (.ref (ad (g_b G) i))] []
  refine e_aload_n X d_Clu_restart_0 rfl ?_
  refine z_iconst X d_Clu_restart_1 ?_
  refine z_put X d_Clu_restart_2 fl_Clu_9 hc0 (by omega) (Nat.le_of_ble_eq_true rfl) rfl rfl (fun h1 c2 fr3 => ?_)
  have c2 : h1 i = ob ci_Clu [vI (-1), vI (lead), vI ((fl : Nat) : Int)] := c2
  refine e_aload_n X d_Clu_restart_5 rfl ?_
  refine z_iconst X d_Clu_restart_6 ?_
  refine z_put X d_Clu_restart_7 fl_Clu_15 c2 (by omega) (Nat.le_of_ble_eq_true rfl) rfl rfl (fun h4 c5 fr6 => ?_)
  have c5 : h4 i = ob ci_Clu [vI (-1), vI (-1), vI ((fl : Nat) : Int)] := c5
  refine e_aload_n X d_Clu_restart_10 rfl ?_
  refine z_iconst X d_Clu_restart_11 ?_
  refine z_put X d_Clu_restart_12 fl_Clu_18 c5 (by omega) (Nat.le_of_ble_eq_true rfl) rfl rfl (fun h7 c8 fr9 => ?_)
  have c8 : h7 i = ob ci_Clu [vI (-1), vI (-1), vI 0] := c8
  exact z_return X Q d_Clu_restart_15 ⟨c8, fun q q1 => (fr9 q q1).trans ((fr6 q q1).trans (fr3 q q1))⟩

set_option maxRecDepth 100000 in
set_option maxHeartbeats 4000000 in
theorem c_Clu_isJoinedTo {l : Launch} {G : lx_G} {N : Nat} {h : Nat → va_E} {i fl : Nat} {last lead : Int} {x : Int} (hc0 : h i = ob ci_Clu [vI last, vI lead, vI (fl : Int)]) (hN : i < N) (hr1 : -1 ≤ last ∧ last < 1114112) (hr2 : -1 ≤ lead ∧ lead < 1114112) (hr3 : fl ≤ 200) (hr : -1 ≤ x ∧ x < 1114112) : CtI l G m_Clu_isJoinedTo N [.ref (ad (g_b G) i), vI (x)] h (fun z h' => z = b2z (jn last lead fl x) ∧ h' = h) := by
  refine zI_of (by decide) rfl rfl ?_
  intro k X Q
  have X : Cx k G R_Clu b_Clu_isJoinedTo 2 rm_Clu_isJoinedTo := X
  have Q : Rt k G (some (.boolean)) N 0 0 (pI (fun z h' => z = b2z (jn last lead fl x) ∧ h' = h)) := Q
  show Ev k G 2 N 0 0 h 0 [some (.ref (ad (g_b G) i)), some (vI (x))] []
  refine z_iload_n X d_Clu_isJoinedTo_0 rfl ?_
  refine z_callS_I X d_Clu_isJoinedTo_1 cs_Clu_28 (c_Clu_isMark (by omega)) rfl rfl ⟨rfl, rfl⟩ rfl (fun z3 h1 hp2 => ?_)
  obtain ⟨rfl, hh4⟩ := hp2
  rw [hh4]
  refine z_if_ne (tgt := 14) X d_Clu_isJoinedTo_4 (by decide) (b2z_r _) (fun q5 => ?_) (fun q5 => ?_)
  · have g7 : (is_mark x) = true := b2z_ne q5
    refine e_aload_n X d_Clu_isJoinedTo_14 rfl ?_
    refine e_get X d_Clu_isJoinedTo_15 fl_Clu_9 hc0 (by omega) rfl ?_
    refine z_bipush X d_Clu_isJoinedTo_18 (by decide) ?_
    refine z_icmp_le (tgt := 27) X d_Clu_isJoinedTo_20 (by decide) (by omega) (fun q8 => ?_) (fun q8 => ?_)
    · have g9 : decide (31 < last) = false := decide_eq_false (by omega)
      refine z_iconst X d_Clu_isJoinedTo_27 ?_
      exact z_ireturn X Q d_Clu_isJoinedTo_28 rfl ⟨by simp [jn, b2z, g7, g9], rfl⟩
    · have g10 : decide (31 < last) = true := decide_eq_true (by omega)
      refine z_iconst X d_Clu_isJoinedTo_23 ?_
      refine e_goto (tgt := 28) X d_Clu_isJoinedTo_24 (by decide) ?_
      exact z_ireturn X Q d_Clu_isJoinedTo_28 rfl ⟨by simp [jn, b2z, g7, g10], rfl⟩
  · have g6 : (is_mark x) = false := b2z_eq q5
    refine z_iload_n X d_Clu_isJoinedTo_7 rfl ?_
    refine z_sipush X d_Clu_isJoinedTo_8 (by decide) ?_
    refine z_icmp_ne (tgt := 29) X d_Clu_isJoinedTo_11 (by decide) (by omega) (fun q11 => ?_) (fun q11 => ?_)
    · have g12 : decide (x = 8205) = false := decide_eq_false (by omega)
      refine z_iload_n X d_Clu_isJoinedTo_29 rfl ?_
      refine z_callS_I X d_Clu_isJoinedTo_30 cs_Clu_31 (c_Clu_isPicture (by omega)) rfl rfl ⟨rfl, rfl⟩ rfl (fun z16 h14 hp15 => ?_)
      obtain ⟨rfl, hh17⟩ := hp15
      rw [hh17]
      refine z_if_eq (tgt := 62) X d_Clu_isJoinedTo_33 (by decide) (b2z_r _) (fun q18 => ?_) (fun q18 => ?_)
      · have g19 : (is_pic x) = false := b2z_eq q18
        refine z_iload_n X d_Clu_isJoinedTo_62 rfl ?_
        refine z_callS_I X d_Clu_isJoinedTo_63 cs_Clu_25 (c_Clu_isFlag (by omega)) rfl rfl ⟨rfl, rfl⟩ rfl (fun z23 h21 hp22 => ?_)
        obtain ⟨rfl, hh24⟩ := hp22
        rw [hh24]
        refine z_if_eq (tgt := 94) X d_Clu_isJoinedTo_66 (by decide) (b2z_r _) (fun q25 => ?_) (fun q25 => ?_)
        · have g26 : (is_flag x) = false := b2z_eq q25
          refine e_aload_n X d_Clu_isJoinedTo_94 rfl ?_
          refine e_get X d_Clu_isJoinedTo_95 fl_Clu_9 hc0 (by omega) rfl ?_
          refine z_bipush X d_Clu_isJoinedTo_98 (by decide) ?_
          refine z_icmp_ne (tgt := 113) X d_Clu_isJoinedTo_100 (by decide) (by omega) (fun q28 => ?_) (fun q28 => ?_)
          · have g29 : decide (last = 13) = false := decide_eq_false (by omega)
            refine z_iconst X d_Clu_isJoinedTo_113 ?_
            exact z_ireturn X Q d_Clu_isJoinedTo_114 rfl ⟨by simp [jn, b2z, g6, g12, g19, g26, g29], rfl⟩
          · have g30 : decide (last = 13) = true := decide_eq_true (by omega)
            refine z_iload_n X d_Clu_isJoinedTo_103 rfl ?_
            refine z_bipush X d_Clu_isJoinedTo_104 (by decide) ?_
            refine z_icmp_ne (tgt := 113) X d_Clu_isJoinedTo_106 (by decide) (by omega) (fun q31 => ?_) (fun q31 => ?_)
            · have g32 : decide (x = 10) = false := decide_eq_false (by omega)
              refine z_iconst X d_Clu_isJoinedTo_113 ?_
              exact z_ireturn X Q d_Clu_isJoinedTo_114 rfl ⟨by simp [jn, b2z, g6, g12, g19, g26, g30, g32], rfl⟩
            · have g33 : decide (x = 10) = true := decide_eq_true (by omega)
              refine z_iconst X d_Clu_isJoinedTo_109 ?_
              refine e_goto (tgt := 114) X d_Clu_isJoinedTo_110 (by decide) ?_
              exact z_ireturn X Q d_Clu_isJoinedTo_114 rfl ⟨by simp [jn, b2z, g6, g12, g19, g26, g30, g33], rfl⟩
        · have g27 : (is_flag x) = true := b2z_ne q25
          refine e_aload_n X d_Clu_isJoinedTo_69 rfl ?_
          refine e_get X d_Clu_isJoinedTo_70 fl_Clu_9 hc0 (by omega) rfl ?_
          refine z_callS_I X d_Clu_isJoinedTo_73 cs_Clu_25 (c_Clu_isFlag (by omega)) rfl rfl ⟨rfl, rfl⟩ rfl (fun z36 h34 hp35 => ?_)
          obtain ⟨rfl, hh37⟩ := hp35
          rw [hh37]
          refine z_if_eq (tgt := 92) X d_Clu_isJoinedTo_76 (by decide) (b2z_r _) (fun q38 => ?_) (fun q38 => ?_)
          · have g39 : (is_flag last) = false := b2z_eq q38
            refine z_iconst X d_Clu_isJoinedTo_92 ?_
            exact z_ireturn X Q d_Clu_isJoinedTo_93 rfl ⟨by simp [jn, b2z, g6, g12, g19, g27, g39], rfl⟩
          · have g40 : (is_flag last) = true := b2z_ne q38
            refine e_aload_n X d_Clu_isJoinedTo_79 rfl ?_
            refine e_get X d_Clu_isJoinedTo_80 fl_Clu_18 hc0 (by omega) rfl ?_
            refine z_iconst X d_Clu_isJoinedTo_83 ?_
            refine z_irem X d_Clu_isJoinedTo_84 (by omega) (by omega) ?_
            refine z_if_ne (tgt := 92) X d_Clu_isJoinedTo_85 (by decide) (by omega) (fun q41 => ?_) (fun q41 => ?_)
            · have g42 : decide (fl % 2 = 0) = false := decide_eq_false (by omega)
              refine z_iconst X d_Clu_isJoinedTo_92 ?_
              exact z_ireturn X Q d_Clu_isJoinedTo_93 rfl ⟨by simp [jn, b2z, g6, g12, g19, g27, g40, g42], rfl⟩
            · have g43 : decide (fl % 2 = 0) = true := decide_eq_true (by omega)
              refine z_iconst X d_Clu_isJoinedTo_88 ?_
              refine e_goto (tgt := 93) X d_Clu_isJoinedTo_89 (by decide) ?_
              exact z_ireturn X Q d_Clu_isJoinedTo_93 rfl ⟨by simp [jn, b2z, g6, g12, g19, g27, g40, g43], rfl⟩
      · have g20 : (is_pic x) = true := b2z_ne q18
        refine e_aload_n X d_Clu_isJoinedTo_36 rfl ?_
        refine e_get X d_Clu_isJoinedTo_37 fl_Clu_9 hc0 (by omega) rfl ?_
        refine z_sipush X d_Clu_isJoinedTo_40 (by decide) ?_
        refine z_icmp_ne (tgt := 60) X d_Clu_isJoinedTo_43 (by decide) (by omega) (fun q44 => ?_) (fun q44 => ?_)
        · have g45 : decide (last = 8205) = false := decide_eq_false (by omega)
          refine z_iconst X d_Clu_isJoinedTo_60 ?_
          exact z_ireturn X Q d_Clu_isJoinedTo_61 rfl ⟨by simp [jn, b2z, g6, g12, g20, g45], rfl⟩
        · have g46 : decide (last = 8205) = true := decide_eq_true (by omega)
          refine e_aload_n X d_Clu_isJoinedTo_46 rfl ?_
          refine e_get X d_Clu_isJoinedTo_47 fl_Clu_15 hc0 (by omega) rfl ?_
          refine z_callS_I X d_Clu_isJoinedTo_50 cs_Clu_31 (c_Clu_isPicture (by omega)) rfl rfl ⟨rfl, rfl⟩ rfl (fun z49 h47 hp48 => ?_)
          obtain ⟨rfl, hh50⟩ := hp48
          rw [hh50]
          refine z_if_eq (tgt := 60) X d_Clu_isJoinedTo_53 (by decide) (b2z_r _) (fun q51 => ?_) (fun q51 => ?_)
          · have g52 : (is_pic lead) = false := b2z_eq q51
            refine z_iconst X d_Clu_isJoinedTo_60 ?_
            exact z_ireturn X Q d_Clu_isJoinedTo_61 rfl ⟨by simp [jn, b2z, g6, g12, g20, g46, g52], rfl⟩
          · have g53 : (is_pic lead) = true := b2z_ne q51
            refine z_iconst X d_Clu_isJoinedTo_56 ?_
            refine e_goto (tgt := 61) X d_Clu_isJoinedTo_57 (by decide) ?_
            exact z_ireturn X Q d_Clu_isJoinedTo_61 rfl ⟨by simp [jn, b2z, g6, g12, g20, g46, g53], rfl⟩
    · have g13 : decide (x = 8205) = true := decide_eq_true (by omega)
      refine e_aload_n X d_Clu_isJoinedTo_14 rfl ?_
      refine e_get X d_Clu_isJoinedTo_15 fl_Clu_9 hc0 (by omega) rfl ?_
      refine z_bipush X d_Clu_isJoinedTo_18 (by decide) ?_
      refine z_icmp_le (tgt := 27) X d_Clu_isJoinedTo_20 (by decide) (by omega) (fun q54 => ?_) (fun q54 => ?_)
      · have g55 : decide (31 < last) = false := decide_eq_false (by omega)
        refine z_iconst X d_Clu_isJoinedTo_27 ?_
        exact z_ireturn X Q d_Clu_isJoinedTo_28 rfl ⟨by simp [jn, b2z, g6, g13, g55], rfl⟩
      · have g56 : decide (31 < last) = true := decide_eq_true (by omega)
        refine z_iconst X d_Clu_isJoinedTo_23 ?_
        refine e_goto (tgt := 28) X d_Clu_isJoinedTo_24 (by decide) ?_
        exact z_ireturn X Q d_Clu_isJoinedTo_28 rfl ⟨by simp [jn, b2z, g6, g13, g56], rfl⟩

set_option maxRecDepth 100000 in
set_option maxHeartbeats 4000000 in
theorem c_Clu_isCutBefore {l : Launch} {G : lx_G} {N : Nat} {h : Nat → va_E} {i fl : Nat} {last lead : Int} {x : Int} (hc0 : h i = ob ci_Clu [vI last, vI lead, vI (fl : Int)]) (hN : i < N) (hr1 : -1 ≤ last ∧ last < 1114112) (hr2 : -1 ≤ lead ∧ lead < 1114112) (hr3 : fl ≤ 200) (hr : -1 ≤ x ∧ x < 1114112) : CtI l G m_Clu_isCutBefore N [.ref (ad (g_b G) i), vI (x)] h (fun z h' => z = b2z (decide (last = -1) || !jn last lead fl x) ∧ h' i = ob ci_Clu [vI x, vI (if is_mark last then lead else last), vI (((if is_flag last then fl + 1 else 0) : Nat) : Int)] ∧ ∀ q, q ≠ i → h' q = h q) := by
  refine zI_of (by decide) rfl rfl ?_
  intro k X Q
  have X : Cx k G R_Clu b_Clu_isCutBefore 3 rm_Clu_isCutBefore := X
  have Q : Rt k G (some (.boolean)) N 0 0 (pI (fun z h' => z = b2z (decide (last = -1) || !jn last lead fl x) ∧ h' i = ob ci_Clu [vI x, vI (if is_mark last then lead else last), vI (((if is_flag last then fl + 1 else 0) : Nat) : Int)] ∧ ∀ q, q ≠ i → h' q = h q)) := Q
  show Ev k G 3 N 0 0 h 0 [some (.ref (ad (g_b G) i)), some (vI (x)), none] []
  have J1 : Ev k G 3 N 0 0 h 21 [some (.ref (ad (g_b G) i)), some (vI (x)), none] [vI (b2z (decide (last = -1) || !jn last lead fl x))] := by
    refine e_istore_n X d_Clu_isCutBefore_21 (by decide) ?_
    refine e_aload_n X d_Clu_isCutBefore_22 rfl ?_
    refine e_aload_n X d_Clu_isCutBefore_23 rfl ?_
    refine e_get X d_Clu_isCutBefore_24 fl_Clu_9 hc0 (by omega) rfl ?_
    refine z_callS_I X d_Clu_isCutBefore_27 cs_Clu_25 (c_Clu_isFlag (by omega)) rfl rfl ⟨rfl, rfl⟩ rfl (fun z3 h1 hp2 => ?_)
    obtain ⟨rfl, hh4⟩ := hp2
    rw [hh4]
    have J2 : Ev k G 3 N 0 0 h 43 [some (.ref (ad (g_b G) i)), some (vI (x)), some (vI (b2z (decide (last = -1) || !jn last lead fl x)))] [vI (((if is_flag last then fl + 1 else 0) : Nat) : Int), .ref (ad (g_b G) i)] := by
      refine z_put X d_Clu_isCutBefore_43 fl_Clu_18 hc0 (by omega) (Nat.le_of_ble_eq_true rfl) rfl rfl (fun h5 c6 fr7 => ?_)
      have c6 : h5 i = ob ci_Clu [vI (last), vI (lead), vI (((if is_flag last then fl + 1 else 0) : Nat) : Int)] := c6
      refine e_aload_n X d_Clu_isCutBefore_46 rfl ?_
      refine e_get X d_Clu_isCutBefore_47 fl_Clu_9 c6 (by omega) rfl ?_
      refine z_callS_I X d_Clu_isCutBefore_50 cs_Clu_28 (c_Clu_isMark (by omega)) rfl rfl ⟨rfl, rfl⟩ rfl (fun z10 h8 hp9 => ?_)
      obtain ⟨rfl, hh11⟩ := hp9
      rw [hh11]
      refine z_if_ne (tgt := 64) X d_Clu_isCutBefore_53 (by decide) (b2z_r _) (fun q5 => ?_) (fun q5 => ?_)
      · refine e_aload_n X d_Clu_isCutBefore_64 rfl ?_
        refine z_iload_n X d_Clu_isCutBefore_65 rfl ?_
        refine z_put X d_Clu_isCutBefore_66 fl_Clu_9 c6 (by omega) (Nat.le_of_ble_eq_true rfl) rfl rfl (fun h12 c13 fr14 => ?_)
        have c13 : h12 i = ob ci_Clu [vI (x), vI (lead), vI (((if is_flag last then fl + 1 else 0) : Nat) : Int)] := c13
        refine z_iload_n X d_Clu_isCutBefore_69 rfl ?_
        have hm : is_mark last = true := b2z_ne q5
        have e0 := c13
        exact z_ireturn X Q d_Clu_isCutBefore_70 (b2z_nar _) ⟨rfl, by rw [e0, if_pos hm], fun q q1 => (fr14 q q1).trans (fr7 q q1)⟩
      · refine e_aload_n X d_Clu_isCutBefore_56 rfl ?_
        refine e_aload_n X d_Clu_isCutBefore_57 rfl ?_
        refine e_get X d_Clu_isCutBefore_58 fl_Clu_9 c6 (by omega) rfl ?_
        refine z_put X d_Clu_isCutBefore_61 fl_Clu_15 c6 (by omega) (Nat.le_of_ble_eq_true rfl) rfl rfl (fun h15 c16 fr17 => ?_)
        have c16 : h15 i = ob ci_Clu [vI (last), vI (last), vI (((if is_flag last then fl + 1 else 0) : Nat) : Int)] := c16
        refine e_aload_n X d_Clu_isCutBefore_64 rfl ?_
        refine z_iload_n X d_Clu_isCutBefore_65 rfl ?_
        refine z_put X d_Clu_isCutBefore_66 fl_Clu_9 c16 (by omega) (Nat.le_of_ble_eq_true rfl) rfl rfl (fun h18 c19 fr20 => ?_)
        have c19 : h18 i = ob ci_Clu [vI (x), vI (last), vI (((if is_flag last then fl + 1 else 0) : Nat) : Int)] := c19
        refine z_iload_n X d_Clu_isCutBefore_69 rfl ?_
        have hm : is_mark last = false := b2z_eq q5
        have e0 := c19
        exact z_ireturn X Q d_Clu_isCutBefore_70 (b2z_nar _) ⟨rfl, by rw [e0, if_neg (show ¬ is_mark last = true by rw [hm]; decide)], fun q q1 => (fr20 q q1).trans ((fr17 q q1).trans (fr7 q q1))⟩
    refine z_if_eq (tgt := 42) X d_Clu_isCutBefore_30 (by decide) (b2z_r _) (fun q6 => ?_) (fun q6 => ?_)
    · refine z_iconst X d_Clu_isCutBefore_42 ?_
      refine z_top (show _ = (((if is_flag last then fl + 1 else 0) : Nat) : Int) by rw [if_neg (by rw [b2z_eq q6]; decide)]; rfl) ?_
      exact J2
    · refine e_aload_n X d_Clu_isCutBefore_33 rfl ?_
      refine e_get X d_Clu_isCutBefore_34 fl_Clu_18 hc0 (by omega) rfl ?_
      refine z_iconst X d_Clu_isCutBefore_37 ?_
      refine z_iadd X d_Clu_isCutBefore_38 ?_
      refine e_goto (tgt := 43) X d_Clu_isCutBefore_39 (by decide) ?_
      refine z_top (show _ = (((if is_flag last then fl + 1 else 0) : Nat) : Int) by rw [if_pos (b2z_ne q6)]; omega) ?_
      exact J2
  refine e_aload_n X d_Clu_isCutBefore_0 rfl ?_
  refine e_get X d_Clu_isCutBefore_1 fl_Clu_9 hc0 (by omega) rfl ?_
  refine z_iconst X d_Clu_isCutBefore_4 ?_
  refine z_icmp_eq (tgt := 16) X d_Clu_isCutBefore_5 (by decide) (by omega) (fun q1 => ?_) (fun q1 => ?_)
  · refine z_iconst X d_Clu_isCutBefore_16 ?_
    refine e_goto (tgt := 21) X d_Clu_isCutBefore_17 (by decide) ?_
    refine z_top (show _ = b2z (decide (last = -1) || !jn last lead fl x) from (b2z_t (by simp [q1])).symm) ?_
    exact J1
  · refine e_aload_n X d_Clu_isCutBefore_8 rfl ?_
    refine z_iload_n X d_Clu_isCutBefore_9 rfl ?_
    refine z_callV_I X d_Clu_isCutBefore_10 cv_Clu_21 (c_Clu_isJoinedTo hc0 hN hr1 hr2 hr3 hr) hc0 (by omega) rfl rfl ⟨rfl, rfl⟩ rfl (fun z23 h21 hp22 => ?_)
    obtain ⟨rfl, hh24⟩ := hp22
    rw [hh24]
    refine z_if_ne (tgt := 20) X d_Clu_isCutBefore_13 (by decide) (b2z_r _) (fun q2 => ?_) (fun q2 => ?_)
    · refine z_iconst X d_Clu_isCutBefore_20 ?_
      refine z_top (show _ = b2z (decide (last = -1) || !jn last lead fl x) from (b2z_f (by simp [q1, b2z_ne q2])).symm) ?_
      exact J1
    · refine z_iconst X d_Clu_isCutBefore_16 ?_
      refine e_goto (tgt := 21) X d_Clu_isCutBefore_17 (by decide) ?_
      refine z_top (show _ = b2z (decide (last = -1) || !jn last lead fl x) from (b2z_t (by simp [b2z_eq q2])).symm) ?_
      exact J1
end
section
theorem bg1_end {n : Nat} {t : Nat → Int} (ht : tx_ok n t) : bg1 t n = false := by
  cases h : bg1 t n with
  | false => rfl
  | true => exact absurd (bg1_lt ht h) (Nat.lt_irrefl _)
theorem bg_end {n : Nat} {t : Nat → Int} {m : Int} (ht : tx_ok n t) (hm : ¬ m = 2) : bg m n t n = false := by
  unfold bg
  split
  · simp
  · split
    · exact bg1_end ht
    · unfold bg3
      rw [bg1_end ht]
      rfl
theorem bg1_sec {t : Nat → Int} {p : Nat} (h : (u_hi (t_pre t p) && u_lo (t p)) = true) : bg1 t p = false := by
  unfold bg1
  rw [h]
  simp
theorem bg1_one {n : Nat} {t : Nat → Int} {p : Nat} (ht : tx_ok n t) (hp : p < n) (h : (u_hi (t_pre t p) && u_lo (t p)) = false) : bg1 t p = true := by
  unfold bg1
  rw [h]
  have := ht.1 p hp
  simp
  omega
theorem bg_sec {n : Nat} {t : Nat → Int} {p : Nat} {m : Int} (h : (u_hi (t_pre t p) && u_lo (t p)) = true) (h0 : ¬ m = 0) (h2 : ¬ m = 2) : bg m n t p = false := by
  unfold bg
  rw [if_neg h0]
  split
  · exact bg1_sec h
  · unfold bg3
    rw [bg1_sec h]
    rfl
theorem bg_zero {n : Nat} {t : Nat → Int} {m : Int} (ht : tx_ok n t) (h : 0 < n ∨ m = 2) : bg m n t 0 = true := by
  unfold bg
  by_cases h2 : m = 2
  · subst h2
    simp [bg2]
  · have hn : 0 < n := by
      rcases h with h | h
      · exact h
      · exact absurd h h2
    have h1 : bg1 t 0 = true := bg1_one ht hn (by simp [t_pre, u_hi])
    split
    · simpa using hn
    · split
      · exact h1
      · unfold bg3
        rw [h1]
        simp [wk]
/-- the place of the k-th -/
def nthp (B : Nat → Bool) : Nat → Nat → Int
  | 0, _ => -1
  | p + 1, k => if B p = true ∧ cnt B p = k then (p : Int) else nthp B p k
theorem sel_nth {B : Nat → Bool} {p : Nat} {f : Nat → Int} (h : sel B p f) {k : Nat} (hk : k < cnt B p) : f k = nthp B p k := by
  induction p with
  | zero => simp [cnt] at hk
  | succ p ih =>
    unfold nthp
    by_cases hb : B p = true ∧ cnt B p = k
    · rw [if_pos hb, ← hb.2]
      exact h p (by omega) hb.1
    · rw [if_neg hb]
      refine ih (fun q hq => h q (by omega)) ?_
      cases hp : B p with
      | true =>
        rw [cnt_t hp] at hk
        rcases Nat.lt_or_ge k (cnt B p) with h1 | h1
        · exact h1
        · exact absurd ⟨hp, by omega⟩ hb
      | false =>
        rwa [cnt_f hp] at hk
theorem sel_gt {B : Nat → Bool} {p c : Nat} {f : Nat → Int} (h : sel B c f) {k : Nat} (hk : k < cnt B c) : (p : Int) < f k ↔ cnt B (p + 1) ≤ k := by
  obtain ⟨q, q1, q2, q3⟩ := cnt_at hk
  have h1 := h q q1 q2
  rw [q3] at h1
  rw [h1]
  constructor
  · intro h2
    have := cnt_mono (B := B) (show p + 1 ≤ q by omega)
    omega
  · intro h2
    rcases Nat.lt_or_ge p q with h3 | h3
    · omega
    · have := cnt_lt (q := p + 1) q2 (by omega)
      omega
theorem sel_rg {B : Nat → Bool} {c : Nat} {f : Nat → Int} (h : sel B c f) {k : Nat} (hk : k < cnt B c) : 0 ≤ f k ∧ f k < c := by
  obtain ⟨q, q1, q2, q3⟩ := cnt_at hk
  have h1 := h q q1 q2
  rw [q3] at h1
  omega
theorem sel_in {B : Nat → Bool} {p c : Nat} {f : Nat → Int} (h : sel B c f) (hp : p < c) (h0 : B 0 = true) : f (cnt B (p + 1) - 1) = (p : Int) ↔ B p = true := by
  constructor
  · intro h1
    cases hb : B p with
    | true => rfl
    | false =>
      rw [cnt_f hb] at h1
      have h2 : 0 < cnt B p := by
        rcases Nat.eq_zero_or_pos p with h3 | h3
        · rw [h3] at hb
          rw [h0] at hb
          cases hb
        · have := cnt_lt h0 h3
          omega
      obtain ⟨q, q1, q2, q3⟩ := cnt_at (show cnt B p - 1 < cnt B p by omega)
      have h4 := h q (by omega) q2
      rw [q3, h1] at h4
      omega
  · intro hb
    rw [cnt_t hb]
    exact h p hp hb
theorem cnt_pos {B : Nat → Bool} (h0 : B 0 = true) (p : Nat) : 0 < cnt B (p + 1) := by
  have := cnt_lt h0 (show 0 < p + 1 by omega)
  omega
theorem tat_s (t : Nat → Int) (p : Nat) : tat t ((p : Int) + 1) = t (p + 1) := by
  rw [show ((p : Nat) : Int) + 1 = ((p + 1 : Nat) : Int) by omega]
  exact tat_n t (p + 1)
end
section
set_option maxRecDepth 100000 in
set_option maxHeartbeats 4000000 in
theorem c_Itm_isSecondHalf {l : Launch} {G : lx_G} {N : Nat} {h : Nat → va_E} {e n p : Nat} {t : Nat → Int} (hT : Tx G h e n t) (heN : e + 1 < N) (hpn : p ≤ n) : CtI l G m_Itm_isSecondHalf N [.ref (ad (g_b G) e), vI ((p : Nat) : Int)] h (fun z h' => z = b2z (u_hi (t_pre t p) && u_lo (t p)) ∧ h' = h) := by
  have ht := hT.ok
  have hle := hT.le
  have hp1 := t_pre_rg ht p
  have hp2 := tx_ge ht p
  have hp3 := tx_ge ht (p + 1)
  refine zI_of (by decide) rfl rfl ?_
  intro k X Q
  have X : Cx k G R_Itm b_Itm_isSecondHalf 2 rm_Itm_isSecondHalf := X
  have Q : Rt k G (some (.boolean)) N 0 0 (pI (fun z h' => z = b2z (u_hi (t_pre t p) && u_lo (t p)) ∧ h' = h)) := Q
  show Ev k G 2 N 0 0 h 0 [some (.ref (ad (g_b G) e)), some (vI ((p : Nat) : Int))] []
  refine e_aload_n X d_Itm_isSecondHalf_0 rfl ?_
  refine z_iload_n X d_Itm_isSecondHalf_1 rfl ?_
  refine z_iconst X d_Itm_isSecondHalf_2 ?_
  refine z_isub X d_Itm_isSecondHalf_3 ?_
  refine z_Tat X d_Itm_isSecondHalf_4 cf_Itm_62_Row cf_Itm_62_Gap hT heN (by omega) rfl ?_
  refine z_top (show _ = (t_pre t p) from tat_pre p) ?_
  refine z_callS_I X d_Itm_isSecondHalf_9 cs_Itm_65 (c_Itm_isFirst (by omega)) rfl rfl ⟨rfl, rfl⟩ rfl (fun z3 h1 hp2 => ?_)
  obtain ⟨rfl, hh4⟩ := hp2
  rw [hh4]
  refine z_if_eq (tgt := 32) X d_Itm_isSecondHalf_12 (by decide) (b2z_r _) (fun q5 => ?_) (fun q5 => ?_)
  · have g6 : (u_hi (t_pre t p)) = false := b2z_eq q5
    refine z_iconst X d_Itm_isSecondHalf_32 ?_
    exact z_ireturn X Q d_Itm_isSecondHalf_33 rfl ⟨by simp [b2z, g6], rfl⟩
  · have g7 : (u_hi (t_pre t p)) = true := b2z_ne q5
    refine e_aload_n X d_Itm_isSecondHalf_15 rfl ?_
    refine z_iload_n X d_Itm_isSecondHalf_16 rfl ?_
    refine z_Tat X d_Itm_isSecondHalf_17 cf_Itm_62_Row cf_Itm_62_Gap hT heN (by omega) rfl ?_
    refine z_top (show _ = (t p) from tat_n t p) ?_
    refine z_callS_I X d_Itm_isSecondHalf_22 cs_Itm_68 (c_Itm_isSecond (by omega)) rfl rfl ⟨rfl, rfl⟩ rfl (fun z10 h8 hp9 => ?_)
    obtain ⟨rfl, hh11⟩ := hp9
    rw [hh11]
    refine z_if_eq (tgt := 32) X d_Itm_isSecondHalf_25 (by decide) (b2z_r _) (fun q12 => ?_) (fun q12 => ?_)
    · have g13 : (u_lo (t p)) = false := b2z_eq q12
      refine z_iconst X d_Itm_isSecondHalf_32 ?_
      exact z_ireturn X Q d_Itm_isSecondHalf_33 rfl ⟨by simp [b2z, g7, g13], rfl⟩
    · have g14 : (u_lo (t p)) = true := b2z_ne q12
      refine z_iconst X d_Itm_isSecondHalf_28 ?_
      refine e_goto (tgt := 33) X d_Itm_isSecondHalf_29 (by decide) ?_
      exact z_ireturn X Q d_Itm_isSecondHalf_33 rfl ⟨by simp [b2z, g7, g14], rfl⟩

set_option maxRecDepth 100000 in
set_option maxHeartbeats 4000000 in
theorem c_Itm_beginsLine {l : Launch} {G : lx_G} {N : Nat} {h : Nat → va_E} {e n p : Nat} {t : Nat → Int} (hT : Tx G h e n t) (heN : e + 1 < N) (hpn : p ≤ n) : CtI l G m_Itm_beginsLine N [.ref (ad (g_b G) e), vI ((p : Nat) : Int)] h (fun z h' => z = b2z (bg2 n t p) ∧ h' = h) := by
  have ht := hT.ok
  have hle := hT.le
  have hp1 := t_pre_rg ht p
  have hp2 := tx_ge ht p
  have hp3 := tx_ge ht (p + 1)
  refine zI_of (by decide) rfl rfl ?_
  intro k X Q
  have X : Cx k G R_Itm b_Itm_beginsLine 3 rm_Itm_beginsLine := X
  have Q : Rt k G (some (.boolean)) N 0 0 (pI (fun z h' => z = b2z (bg2 n t p) ∧ h' = h)) := Q
  show Ev k G 3 N 0 0 h 0 [some (.ref (ad (g_b G) e)), some (vI ((p : Nat) : Int)), none] []
  refine e_aload_n X d_Itm_beginsLine_0 rfl ?_
  refine z_iload_n X d_Itm_beginsLine_1 rfl ?_
  refine z_iconst X d_Itm_beginsLine_2 ?_
  refine z_isub X d_Itm_beginsLine_3 ?_
  refine z_Tat X d_Itm_beginsLine_4 cf_Itm_62_Row cf_Itm_62_Gap hT heN (by omega) rfl ?_
  refine z_top (show _ = (t_pre t p) from tat_pre p) ?_
  refine e_istore_n X d_Itm_beginsLine_9 (by decide) ?_
  refine z_iload_n X d_Itm_beginsLine_10 rfl ?_
  refine z_if_eq (tgt := 38) X d_Itm_beginsLine_11 (by decide) (by omega) (fun q1 => ?_) (fun q1 => ?_)
  · have g2 : decide (p = 0) = true := decide_eq_true (by omega)
    refine z_iconst X d_Itm_beginsLine_38 ?_
    refine e_goto (tgt := 43) X d_Itm_beginsLine_39 (by decide) ?_
    exact z_ireturn X Q d_Itm_beginsLine_43 rfl ⟨by simp [bg2, b2z, hpn, g2], rfl⟩
  · have g3 : decide (p = 0) = false := decide_eq_false (by omega)
    refine z_iload_n X d_Itm_beginsLine_14 rfl ?_
    refine z_bipush X d_Itm_beginsLine_15 (by decide) ?_
    refine z_icmp_eq (tgt := 38) X d_Itm_beginsLine_17 (by decide) (by omega) (fun q4 => ?_) (fun q4 => ?_)
    · have g5 : decide (t_pre t p = 10) = true := decide_eq_true (by omega)
      refine z_iconst X d_Itm_beginsLine_38 ?_
      refine e_goto (tgt := 43) X d_Itm_beginsLine_39 (by decide) ?_
      exact z_ireturn X Q d_Itm_beginsLine_43 rfl ⟨by simp [bg2, b2z, hpn, g3, g5], rfl⟩
    · have g6 : decide (t_pre t p = 10) = false := decide_eq_false (by omega)
      refine z_iload_n X d_Itm_beginsLine_20 rfl ?_
      refine z_bipush X d_Itm_beginsLine_21 (by decide) ?_
      refine z_icmp_ne (tgt := 42) X d_Itm_beginsLine_23 (by decide) (by omega) (fun q7 => ?_) (fun q7 => ?_)
      · have g8 : decide (t_pre t p = 13) = false := decide_eq_false (by omega)
        refine z_iconst X d_Itm_beginsLine_42 ?_
        exact z_ireturn X Q d_Itm_beginsLine_43 rfl ⟨by simp [bg2, b2z, hpn, g3, g6, g8], rfl⟩
      · have g9 : decide (t_pre t p = 13) = true := decide_eq_true (by omega)
        refine e_aload_n X d_Itm_beginsLine_26 rfl ?_
        refine z_iload_n X d_Itm_beginsLine_27 rfl ?_
        refine z_Tat X d_Itm_beginsLine_28 cf_Itm_62_Row cf_Itm_62_Gap hT heN (by omega) rfl ?_
        refine z_top (show _ = (t p) from tat_n t p) ?_
        refine z_bipush X d_Itm_beginsLine_33 (by decide) ?_
        refine z_icmp_eq (tgt := 42) X d_Itm_beginsLine_35 (by decide) (by omega) (fun q10 => ?_) (fun q10 => ?_)
        · have g11 : decide (t p = 10) = true := decide_eq_true (by omega)
          refine z_iconst X d_Itm_beginsLine_42 ?_
          exact z_ireturn X Q d_Itm_beginsLine_43 rfl ⟨by simp [bg2, b2z, hpn, g3, g6, g9, g11], rfl⟩
        · have g12 : decide (t p = 10) = false := decide_eq_false (by omega)
          refine z_iconst X d_Itm_beginsLine_38 ?_
          refine e_goto (tgt := 43) X d_Itm_beginsLine_39 (by decide) ?_
          exact z_ireturn X Q d_Itm_beginsLine_43 rfl ⟨by simp [bg2, b2z, hpn, g3, g6, g9, g12], rfl⟩

set_option maxRecDepth 100000 in
set_option maxHeartbeats 4000000 in
theorem c_Itm_codeAt {l : Launch} {G : lx_G} {N : Nat} {h : Nat → va_E} {e n p : Nat} {t : Nat → Int} (hT : Tx G h e n t) (heN : e + 1 < N) (hpn : p ≤ n) : CtI l G m_Itm_codeAt N [.ref (ad (g_b G) e), vI ((p : Nat) : Int)] h (fun z h' => z = cod t p ∧ h' = h) := by
  have ht := hT.ok
  have hle := hT.le
  have hp1 := t_pre_rg ht p
  have hp2 := tx_ge ht p
  have hp3 := tx_ge ht (p + 1)
  refine zI_of (by decide) rfl rfl ?_
  intro k X Q
  have X : Cx k G R_Itm b_Itm_codeAt 4 rm_Itm_codeAt := X
  have Q : Rt k G (some (.int)) N 0 0 (pI (fun z h' => z = cod t p ∧ h' = h)) := Q
  show Ev k G 4 N 0 0 h 0 [some (.ref (ad (g_b G) e)), some (vI ((p : Nat) : Int)), none, none] []
  refine e_aload_n X d_Itm_codeAt_0 rfl ?_
  refine z_iload_n X d_Itm_codeAt_1 rfl ?_
  refine z_Tat X d_Itm_codeAt_2 cf_Itm_62_Row cf_Itm_62_Gap hT heN (by omega) rfl ?_
  refine z_top (show _ = (t p) from tat_n t p) ?_
  refine e_istore_n X d_Itm_codeAt_7 (by decide) ?_
  refine e_aload_n X d_Itm_codeAt_8 rfl ?_
  refine z_iload_n X d_Itm_codeAt_9 rfl ?_
  refine z_iconst X d_Itm_codeAt_10 ?_
  refine z_iadd X d_Itm_codeAt_11 ?_
  refine z_Tat X d_Itm_codeAt_12 cf_Itm_62_Row cf_Itm_62_Gap hT heN (by omega) rfl ?_
  refine z_top (show _ = (t (p + 1)) from tat_s t p) ?_
  refine e_istore_n X d_Itm_codeAt_17 (by decide) ?_
  refine z_iload_n X d_Itm_codeAt_18 rfl ?_
  refine z_callS_I X d_Itm_codeAt_19 cs_Itm_65 (c_Itm_isFirst (by omega)) rfl rfl ⟨rfl, rfl⟩ rfl (fun z3 h1 hp2 => ?_)
  obtain ⟨rfl, hh4⟩ := hp2
  rw [hh4]
  refine z_if_eq (tgt := 32) X d_Itm_codeAt_22 (by decide) (b2z_r _) (fun q5 => ?_) (fun q5 => ?_)
  · have g6 : (u_hi (t p)) = false := b2z_eq q5
    refine z_iload_n X d_Itm_codeAt_32 rfl ?_
    exact z_ireturn X Q d_Itm_codeAt_33 rfl ⟨by simp [cod, g6], rfl⟩
  · have g7 : (u_hi (t p)) = true := b2z_ne q5
    refine z_iload_n X d_Itm_codeAt_25 rfl ?_
    refine z_callS_I X d_Itm_codeAt_26 cs_Itm_68 (c_Itm_isSecond (by omega)) rfl rfl ⟨rfl, rfl⟩ rfl (fun z10 h8 hp9 => ?_)
    obtain ⟨rfl, hh11⟩ := hp9
    rw [hh11]
    refine z_if_ne (tgt := 34) X d_Itm_codeAt_29 (by decide) (b2z_r _) (fun q12 => ?_) (fun q12 => ?_)
    · have g14 : (u_lo (t (p + 1))) = true := b2z_ne q12
      refine z_ldc (n := 65536) X d_Itm_codeAt_34 cst_Itm_71 (by decide) ?_
      refine z_sipush X d_Itm_codeAt_36 (by decide) ?_
      refine z_iload_n X d_Itm_codeAt_39 rfl ?_
      refine z_ldc (n := 55296) X d_Itm_codeAt_40 cst_Itm_72 (by decide) ?_
      refine z_isub X d_Itm_codeAt_42 ?_
      refine z_imul X d_Itm_codeAt_43 ?_
      refine z_iadd X d_Itm_codeAt_44 ?_
      refine z_iload_n X d_Itm_codeAt_45 rfl ?_
      refine z_iadd X d_Itm_codeAt_46 ?_
      refine z_ldc (n := 56320) X d_Itm_codeAt_47 cst_Itm_73 (by decide) ?_
      refine z_isub X d_Itm_codeAt_49 ?_
      exact z_ireturn X Q d_Itm_codeAt_50 rfl ⟨by simp [cod, g7, g14], rfl⟩
    · have g13 : (u_lo (t (p + 1))) = false := b2z_eq q12
      refine z_iload_n X d_Itm_codeAt_32 rfl ?_
      exact z_ireturn X Q d_Itm_codeAt_33 rfl ⟨by simp [cod, g7, g13], rfl⟩

/-- the cells of an Items: it, its row, its walk -/
def ItC (G : lx_G) (h : Nat → va_E) (I : Nat) (num len met : Int) (f : Nat → Int) (v1 v2 : Int) (v3 : Nat) : Prop := h I = ob ci_Itm [.ref (ad (g_b G) (I + 1)), .ref (ad (g_b G) (I + 2)), vI num, vI len, vI met] ∧ h (I + 1) = rI G 161 f ∧ h (I + 2) = ob ci_Clu [vI v1, vI v2, vI (v3 : Int)]
set_option maxRecDepth 100000 in
set_option maxHeartbeats 4000000 in
theorem c_Itm_begins {l : Launch} {G : lx_G} {N : Nat} {h : Nat → va_E} {e n p : Nat} {t : Nat → Int} {I : Nat} {num m v1 v2 : Int} {v3 : Nat} {f : Nat → Int} (hI : ItC G h I num (n : Int) m f v1 v2 v3) (hIN : I + 2 < N) (hT : Tx G h e n t) (heN : e + 1 < N) (hpn : p ≤ n) (hm : 0 ≤ m ∧ m ≤ 3) (hv : m = 3 → (v1, v2, v3) = wk t p) : CtI l G m_Itm_begins N [.ref (ad (g_b G) I), .ref (ad (g_b G) e), vI ((p : Nat) : Int)] h (fun z h' => z = b2z (bg m n t p) ∧ ∃ (w1 w2 : Int) (w3 : Nat), h' (I + 2) = ob ci_Clu [vI w1, vI w2, vI (w3 : Int)] ∧ (m = 3 → (w1, w2, w3) = wk t (p + 1)) ∧ ∀ q, q ≠ I + 2 → h' q = h q) := by
  obtain ⟨hc0, hc1, hc2⟩ := hI
  have ht := hT.ok
  have hle := hT.le
  have hp1 := t_pre_rg ht p
  have hp2 := tx_ge ht p
  have hp3 := tx_ge ht (p + 1)
  refine zI_of (by decide) rfl rfl ?_
  intro k X Q
  have X : Cx k G R_Itm b_Itm_begins 3 rm_Itm_begins := X
  have Q : Rt k G (some (.boolean)) N 0 0 (pI (fun z h' => z = b2z (bg m n t p) ∧ ∃ (w1 w2 : Int) (w3 : Nat), h' (I + 2) = ob ci_Clu [vI w1, vI w2, vI (w3 : Int)] ∧ (m = 3 → (w1, w2, w3) = wk t (p + 1)) ∧ ∀ q, q ≠ I + 2 → h' q = h q)) := Q
  show Ev k G 3 N 0 0 h 0 [some (.ref (ad (g_b G) I)), some (.ref (ad (g_b G) e)), some (vI ((p : Nat) : Int))] []
  refine e_aload_n X d_Itm_begins_0 rfl ?_
  refine e_get X d_Itm_begins_1 fl_Itm_29 hc0 (by omega) rfl ?_
  refine z_iconst X d_Itm_begins_4 ?_
  refine z_icmp_ne (tgt := 14) X d_Itm_begins_5 (by decide) (by omega) (fun q1 => ?_) (fun q1 => ?_)
  · refine z_iload_n X d_Itm_begins_14 rfl ?_
    refine e_aload_n X d_Itm_begins_15 rfl ?_
    refine e_get X d_Itm_begins_16 fl_Itm_26 hc0 (by omega) rfl ?_
    refine z_icmp_eq (tgt := 37) X d_Itm_begins_19 (by decide) (by omega) (fun q2 => ?_) (fun q2 => ?_)
    · refine z_iconst X d_Itm_begins_37 ?_
      have hpn2 : p = n := by omega
      subst hpn2
      exact z_ireturn X Q d_Itm_begins_38 rfl ⟨by rw [bg_end ht q1]; rfl, v1, v2, v3, hc2, fun h9 => by rw [wk_f (bg1_end ht)]; exact hv h9, fun q _ => rfl⟩
    · refine e_aload_n X d_Itm_begins_22 rfl ?_
      refine e_get X d_Itm_begins_23 fl_Itm_29 hc0 (by omega) rfl ?_
      have hpl : p < n := by omega
      refine z_if_eq (tgt := 39) X d_Itm_begins_26 (by decide) (by omega) (fun q3 => ?_) (fun q3 => ?_)
      · refine e_aload_n X d_Itm_begins_39 rfl ?_
        refine e_get X d_Itm_begins_40 fl_Itm_29 hc0 (by omega) rfl ?_
        refine z_iconst X d_Itm_begins_43 ?_
        refine z_icmp_ne (tgt := 62) X d_Itm_begins_44 (by decide) (by omega) (fun q5 => ?_) (fun q5 => ?_)
        · refine z_iconst X d_Itm_begins_62 ?_
          refine e_goto (tgt := 67) X d_Itm_begins_63 (by decide) ?_
          exact z_ireturn X Q d_Itm_begins_67 rfl ⟨by rw [q3, bg_0, decide_eq_true hpl]; rfl, v1, v2, v3, hc2, fun h9 => absurd h9 q5, fun q _ => rfl⟩
        · omega
      · refine e_aload_n X d_Itm_begins_29 rfl ?_
        refine z_iload_n X d_Itm_begins_30 rfl ?_
        refine z_callS_I X d_Itm_begins_31 cs_Itm_51 (c_Itm_isSecondHalf hT heN hpn) rfl rfl ⟨rfl, rfl⟩ rfl (fun z7 h5 hp6 => ?_)
        obtain ⟨rfl, hh8⟩ := hp6
        rw [hh8]
        refine z_if_eq (tgt := 39) X d_Itm_begins_34 (by decide) (b2z_r _) (fun q4 => ?_) (fun q4 => ?_)
        · have hs := b2z_eq q4
          refine e_aload_n X d_Itm_begins_39 rfl ?_
          refine e_get X d_Itm_begins_40 fl_Itm_29 hc0 (by omega) rfl ?_
          refine z_iconst X d_Itm_begins_43 ?_
          refine z_icmp_ne (tgt := 62) X d_Itm_begins_44 (by decide) (by omega) (fun q5 => ?_) (fun q5 => ?_)
          · refine z_iconst X d_Itm_begins_62 ?_
            refine e_goto (tgt := 67) X d_Itm_begins_63 (by decide) ?_
            exact z_ireturn X Q d_Itm_begins_67 rfl ⟨by rw [show m = 1 by omega, bg_1, bg1_one ht hpl hs]; rfl, v1, v2, v3, hc2, fun h9 => absurd h9 q5, fun q _ => rfl⟩
          · refine e_aload_n X d_Itm_begins_47 rfl ?_
            refine e_get X d_Itm_begins_48 fl_Itm_18 hc0 (by omega) rfl ?_
            refine e_aload_n X d_Itm_begins_51 rfl ?_
            refine z_iload_n X d_Itm_begins_52 rfl ?_
            refine z_callS_I X d_Itm_begins_53 cs_Itm_54 (c_Itm_codeAt hT heN hpn) rfl rfl ⟨rfl, rfl⟩ rfl (fun z11 h9 hp10 => ?_)
            obtain ⟨rfl, hh12⟩ := hp10
            rw [hh12]
            have hb1 := bg1_one ht hpl hs
            have hcr := cod_rg ht hpl
            have hw := wk_rg ht p
            have hvw := hv q5
            have e1 : v1 = (wk t p).1 := congrArg (fun z => z.1) hvw
            have e2 : v2 = (wk t p).2.1 := congrArg (fun z => z.2.1) hvw
            have e3 : v3 = (wk t p).2.2 := congrArg (fun z => z.2.2) hvw
            refine z_callV_I X d_Itm_begins_56 cv_Itm_58 (c_Clu_isCutBefore hc2 (by omega) (by omega) (by omega) (by omega) (by omega)) hc2 (by omega) rfl rfl ⟨rfl, rfl⟩ rfl (fun z15 h13 hp14 => ?_)
            obtain ⟨rfl, hd2, hdf⟩ := hp14
            have hb3 : bg m n t p = (decide (v1 = -1) || !jn v1 v2 v3 (cod t p)) := by
              rw [q5, bg_3, bg3, hb1, Bool.true_and, e1, e2, e3]
            have hnx : (cod t p, (if is_mark v1 then v2 else v1), (if is_flag v1 then v3 + 1 else 0)) = wk t (p + 1) := by
              rw [wk_t hb1, e1, e2, e3]
            refine z_if_eq (tgt := 66) X d_Itm_begins_59 (by decide) (b2z_r _) (fun q6 => ?_) (fun q6 => ?_)
            · refine z_iconst X d_Itm_begins_66 ?_
              exact z_ireturn X Q d_Itm_begins_67 rfl ⟨by rw [hb3, b2z_eq q6]; rfl, _, _, _, hd2, fun _ => hnx, hdf⟩
            · refine z_iconst X d_Itm_begins_62 ?_
              refine e_goto (tgt := 67) X d_Itm_begins_63 (by decide) ?_
              exact z_ireturn X Q d_Itm_begins_67 rfl ⟨by rw [hb3, b2z_ne q6]; rfl, _, _, _, hd2, fun _ => hnx, hdf⟩
        · have hs := b2z_ne q4
          refine z_iconst X d_Itm_begins_37 ?_
          exact z_ireturn X Q d_Itm_begins_38 rfl ⟨by rw [bg_sec hs q3 q1]; rfl, v1, v2, v3, hc2, fun h9 => by rw [wk_f (bg1_sec hs)]; exact hv h9, fun q _ => rfl⟩
  · refine e_aload_n X d_Itm_begins_8 rfl ?_
    refine z_iload_n X d_Itm_begins_9 rfl ?_
    refine z_callS_I X d_Itm_begins_10 cs_Itm_48 (c_Itm_beginsLine hT heN hpn) rfl rfl ⟨rfl, rfl⟩ rfl (fun z3 h1 hp2 => ?_)
    obtain ⟨rfl, hh4⟩ := hp2
    rw [hh4]
    exact z_ireturn X Q d_Itm_begins_13 (b2z_nar _) ⟨by rw [q1, bg_2], v1, v2, v3, hc2, fun h9 => absurd h9 (by omega), fun q _ => rfl⟩
end
section
def Its (G : lx_G) (h : Nat → va_E) (I : Nat) : Prop := ∃ (num len met : Int) (f : Nat → Int) (v1 v2 : Int) (v3 : Nat), ItC G h I num len met f v1 v2 v3
/-- the Items I has measured the text t of n by the metric m -/
def Ms (G : lx_G) (h : Nat → va_E) (I : Nat) (m : Int) (n : Nat) (t : Nat → Int) : Prop := ∃ (f : Nat → Int) (v1 v2 : Int) (v3 : Nat), ItC G h I ((cnt (bg m n t) (n + 1) : Nat) : Int) (n : Int) m f v1 v2 v3 ∧ sel (bg m n t) (n + 1) f
theorem Its.fr {G : lx_G} {h h' : Nat → va_E} {I : Nat} (hT : Its G h I) (e : ∀ q, I ≤ q → q < I + 3 → h' q = h q) : Its G h' I := by
  obtain ⟨num, len, met, f, v1, v2, v3, h0, h1, h2⟩ := hT
  exact ⟨num, len, met, f, v1, v2, v3, (e I (by omega) (by omega)).trans h0, (e _ (by omega) (by omega)).trans h1, (e _ (by omega) (by omega)).trans h2⟩
theorem Ms.its {G : lx_G} {h : Nat → va_E} {I : Nat} {m : Int} {n : Nat} {t : Nat → Int} (hM : Ms G h I m n t) : Its G h I := by
  obtain ⟨f, v1, v2, v3, h0, -⟩ := hM
  exact ⟨_, _, _, f, v1, v2, v3, h0⟩
def it_place (m : Int) (n : Nat) (t : Nat → Int) (k : Int) : Int := if k < 0 ∨ ((cnt (bg m n t) (n + 1) : Nat) : Int) < k then -1 else if k = ((cnt (bg m n t) (n + 1) : Nat) : Int) then (n : Int) else nthp (bg m n t) (n + 1) k.toNat
def it_item (m : Int) (n : Nat) (t : Nat → Int) (p : Nat) : Int := if p = n ∧ ¬ m = 2 then ((cnt (bg m n t) (n + 1) : Nat) : Int) else ((cnt (bg m n t) (p + 1) - 1 : Nat) : Int)

set_option maxRecDepth 100000 in
set_option maxHeartbeats 4000000 in
theorem c_Itm_measure {l : Launch} {G : lx_G} {N : Nat} {h : Nat → va_E} {I e n : Nat} {m : Int} {t : Nat → Int} (hI : Its G h I) (hIN : I + 2 < N) (hT : Tx G h e n t) (heN : e + 1 < N) (hne : e + 1 < I ∨ I + 3 ≤ e) (hm : 0 ≤ m ∧ m ≤ 3) : CtV l G m_Itm_measure N [.ref (ad (g_b G) I), .ref (ad (g_b G) e), vI (m)] h (fun h' => Ms G h' I m n t ∧ ∀ q, q ≠ I → q ≠ I + 1 → q ≠ I + 2 → h' q = h q) := by
  obtain ⟨num, len, met, f0, v01, v02, v03, hc0, hc1, hc2⟩ := hI
  have ht := hT.ok
  have hle := hT.le
  refine zV_of (by decide) rfl rfl ?_
  intro k X Q
  have X : Cx k G R_Itm b_Itm_measure 4 rm_Itm_measure := X
  have Q : Rt k G none N 0 0 (pV (fun h' => Ms G h' I m n t ∧ ∀ q, q ≠ I → q ≠ I + 1 → q ≠ I + 2 → h' q = h q)) := Q
  show Ev k G 4 N 0 0 h 0 [some (.ref (ad (g_b G) I)), some (.ref (ad (g_b G) e)), some (vI (m)), none] []
  refine e_aload_n X d_Itm_measure_0 rfl ?_
  refine z_iconst X d_Itm_measure_1 ?_
  refine z_put X d_Itm_measure_2 fl_Itm_22 hc0 (by omega) (Nat.le_of_ble_eq_true rfl) rfl rfl (fun h1 c2 fr3 => ?_)
  have c2 : h1 I = ob ci_Itm [.ref (ad (g_b G) (I + 1)), .ref (ad (g_b G) (I + 2)), vI 0, vI (len), vI (met)] := c2
  have c4 := (fr3 (I + 1) (by omega)).trans hc1
  have c5 := (fr3 (I + 2) (by omega)).trans hc2
  refine e_aload_n X d_Itm_measure_5 rfl ?_
  refine e_aload_n X d_Itm_measure_6 rfl ?_
  have hT1 : Tx G h1 e n t := hT.fr (fr3 _ (by omega)) (fr3 _ (by omega))
  refine z_Tlen X d_Itm_measure_7 cf_Itm_32_Row cf_Itm_32_Gap hT1 (by omega) rfl ?_
  refine z_put X d_Itm_measure_12 fl_Itm_26 c2 (by omega) (Nat.le_of_ble_eq_true rfl) rfl rfl (fun h6 c7 fr8 => ?_)
  have c7 : h6 I = ob ci_Itm [.ref (ad (g_b G) (I + 1)), .ref (ad (g_b G) (I + 2)), vI 0, vI ((n : Nat) : Int), vI (met)] := c7
  have c9 := (fr8 (I + 1) (by omega)).trans c4
  have c10 := (fr8 (I + 2) (by omega)).trans c5
  refine e_aload_n X d_Itm_measure_15 rfl ?_
  refine z_iload_n X d_Itm_measure_16 rfl ?_
  refine z_put X d_Itm_measure_17 fl_Itm_29 c7 (by omega) (Nat.le_of_ble_eq_true rfl) rfl rfl (fun h11 c12 fr13 => ?_)
  have c12 : h11 I = ob ci_Itm [.ref (ad (g_b G) (I + 1)), .ref (ad (g_b G) (I + 2)), vI 0, vI ((n : Nat) : Int), vI (m)] := c12
  have c14 := (fr13 (I + 1) (by omega)).trans c9
  have c15 := (fr13 (I + 2) (by omega)).trans c10
  refine e_aload_n X d_Itm_measure_20 rfl ?_
  refine e_get X d_Itm_measure_21 fl_Itm_18 c12 (by omega) rfl ?_
  refine z_callV_V X d_Itm_measure_24 cv_Itm_37 (c_Clu_restart c15 (by omega)) c15 (by omega) rfl rfl ⟨rfl, rfl⟩ rfl (fun h16 hp17 => ?_)
  obtain ⟨hr0, hrf⟩ := hp17
  have c19 := (hrf I (by omega)).trans c12
  have c20 := (hrf (I + 1) (by omega)).trans c14
  refine z_iconst X d_Itm_measure_27 ?_
  refine e_istore_n X d_Itm_measure_28 (by decide) ?_
  have loop : ∀ (d9 : Nat) (p : Nat) (f : Nat → Int) (v1 : Int) (v2 : Int) (v3 : Nat) (h2 : Nat → va_E), n + 1 - p < d9 → p ≤ n + 1 → ItC G h2 I ((cnt (bg m n t) p : Nat) : Int) (n : Int) m f v1 v2 v3 → sel (bg m n t) p f → (m = 3 → (v1, v2, v3) = wk t p) → (∀ q, q ≠ I → q ≠ I + 1 → q ≠ I + 2 → h2 q = h q) → Ev k G 4 N 0 0 h2 29 [some (.ref (ad (g_b G) I)), some (.ref (ad (g_b G) e)), some (vI (m)), some (vI ((p : Nat) : Int))] [] := by
    intro d9
    induction d9 with
    | zero =>
      intro p f v1 v2 v3 h2 hm9
      exact absurd hm9 (Nat.not_lt_zero _)
    | succ d9 ih =>
      intro p f v1 v2 v3 h2 hm9 hp hI2 hsel hv hf
      obtain ⟨e0, e1, e2⟩ := id hI2
      have hT2 : Tx G h2 e n t := hT.fr (hf _ (by omega) (by omega) (by omega)) (hf _ (by omega) (by omega) (by omega))
      have hcl := cnt_le (B := bg m n t) p
      refine z_iload_n X d_Itm_measure_29 rfl ?_
      refine e_aload_n X d_Itm_measure_30 rfl ?_
      refine e_get X d_Itm_measure_31 fl_Itm_26 e0 (by omega) rfl ?_
      refine z_icmp_gt (tgt := 72) X d_Itm_measure_34 (by decide) (by omega) (fun q1 => ?_) (fun q1 => ?_)
      · have hpe : p = n + 1 := by omega
        subst hpe
        exact z_return X Q d_Itm_measure_72 ⟨⟨f, v1, v2, v3, hI2, hsel⟩, hf⟩
      · refine e_aload_n X d_Itm_measure_37 rfl ?_
        refine e_aload_n X d_Itm_measure_38 rfl ?_
        refine z_iload_n X d_Itm_measure_39 rfl ?_
        refine z_callV_I X d_Itm_measure_40 cv_Itm_40 (c_Itm_begins hI2 (by omega) hT2 (by omega) (by omega) hm hv) e0 (by omega) rfl rfl ⟨rfl, rfl⟩ rfl (fun z23 h21 hp22 => ?_)
        obtain ⟨rfl, w1, w2, w3, hw0, hw1, hwf⟩ := hp22
        have c24 := (hwf I (by omega)).trans e0
        have c25 := (hwf (I + 1) (by omega)).trans e1
        refine z_if_eq (tgt := 66) X d_Itm_measure_43 (by decide) (b2z_r _) (fun q2 => ?_) (fun q2 => ?_)
        · have hb := b2z_eq q2
          refine z_iinc X d_Itm_measure_66 rfl (by decide) ?_
          refine e_goto (tgt := 29) X d_Itm_measure_69 (by decide) ?_
          exact ih (p + 1) _ w1 w2 w3 _ (by omega) (by omega) ⟨(by rw [cnt_f hb]; exact c24), c25, hw0⟩ (sel_f hsel hb) hw1 (fun q q1 q2 q3 => (hwf q q3).trans (hf q q1 q2 q3))
        · have hb := b2z_ne q2
          refine e_aload_n X d_Itm_measure_46 rfl ?_
          refine e_get X d_Itm_measure_47 fl_Itm_9 c24 (by omega) rfl ?_
          refine e_aload_n X d_Itm_measure_50 rfl ?_
          refine e_get X d_Itm_measure_51 fl_Itm_22 c24 (by omega) rfl ?_
          refine z_iload_n X d_Itm_measure_54 rfl ?_
          refine z_iast X d_Itm_measure_55 (j := (cnt (bg m n t) p)) c25 (by omega) (by omega) (by omega) (fun h26 c27 fr28 => ?_)
          have c29 := (fr28 I (by omega)).trans c24
          have c30 := (fr28 (I + 2) (by omega)).trans hw0
          refine e_aload_n X d_Itm_measure_56 rfl ?_
          refine e_dup X d_Itm_measure_57 rfl ?_
          refine e_get X d_Itm_measure_58 fl_Itm_22 c29 (by omega) rfl ?_
          refine z_iconst X d_Itm_measure_61 ?_
          refine z_iadd X d_Itm_measure_62 ?_
          refine z_top (show _ = ((cnt (bg m n t) p + 1 : Nat) : Int) by omega) ?_
          refine z_put X d_Itm_measure_63 fl_Itm_22 c29 (by omega) (Nat.le_of_ble_eq_true rfl) rfl rfl (fun h31 c32 fr33 => ?_)
          have c32 : h31 I = ob ci_Itm [.ref (ad (g_b G) (I + 1)), .ref (ad (g_b G) (I + 2)), vI ((cnt (bg m n t) p + 1 : Nat) : Int), vI ((n : Nat) : Int), vI (m)] := c32
          have c34 := (fr33 (I + 1) (by omega)).trans c27
          have c35 := (fr33 (I + 2) (by omega)).trans c30
          refine z_iinc X d_Itm_measure_66 rfl (by decide) ?_
          refine e_goto (tgt := 29) X d_Itm_measure_69 (by decide) ?_
          exact ih (p + 1) _ w1 w2 w3 _ (by omega) (by omega) ⟨(by rw [cnt_t hb]; exact c32), c34, c35⟩ (sel_t hsel hb) hw1 (fun q q1 q2 q3 => (fr33 q q1).trans ((fr28 q q2).trans ((hwf q q3).trans (hf q q1 q2 q3))))
  exact loop _ 0 f0 (-1) (-1) 0 _ (Nat.lt_succ_self _) (Nat.zero_le _) ⟨c19, c20, hr0⟩ (fun q hq => absurd hq (Nat.not_lt_zero _)) (fun _ => rfl) (fun q q1 q2 q3 => (hrf q q3).trans ((fr13 q q1).trans ((fr8 q q1).trans (fr3 q q1))))

set_option maxRecDepth 100000 in
set_option maxHeartbeats 4000000 in
theorem c_Itm_number {l : Launch} {G : lx_G} {N : Nat} {h : Nat → va_E} {I n : Nat} {m : Int} {t : Nat → Int} (hM : Ms G h I m n t) (hIN : I + 2 < N) (hn : n ≤ 160) : CtI l G m_Itm_number N [.ref (ad (g_b G) I)] h (fun z h' => z = ((cnt (bg m n t) (n + 1) : Nat) : Int) ∧ h' = h) := by
  have hM9 := hM
  obtain ⟨f, v1, v2, v3, ⟨hc0, hc1, hc2⟩, hsel⟩ := hM
  have hcl := cnt_le (B := bg m n t) (n + 1)
  refine zI_of (by decide) rfl rfl ?_
  intro k X Q
  have X : Cx k G R_Itm b_Itm_number 1 rm_Itm_number := X
  have Q : Rt k G (some (.int)) N 0 0 (pI (fun z h' => z = ((cnt (bg m n t) (n + 1) : Nat) : Int) ∧ h' = h)) := Q
  show Ev k G 1 N 0 0 h 0 [some (.ref (ad (g_b G) I))] []
  refine e_aload_n X d_Itm_number_0 rfl ?_
  refine e_get X d_Itm_number_1 fl_Itm_22 hc0 (by omega) rfl ?_
  exact z_ireturn X Q d_Itm_number_4 rfl ⟨rfl, rfl⟩

set_option maxRecDepth 100000 in
set_option maxHeartbeats 4000000 in
theorem c_Itm_beginningOf {l : Launch} {G : lx_G} {N : Nat} {h : Nat → va_E} {I n : Nat} {m : Int} {t : Nat → Int} {a : Int} (hM : Ms G h I m n t) (hIN : I + 2 < N) (hn : n ≤ 160) (ha : -2147483648 ≤ a ∧ a < 2147483648) : CtI l G m_Itm_beginningOf N [.ref (ad (g_b G) I), vI (a)] h (fun z h' => z = it_place m n t a ∧ h' = h) := by
  have hM9 := hM
  obtain ⟨f, v1, v2, v3, ⟨hc0, hc1, hc2⟩, hsel⟩ := hM
  have hcl := cnt_le (B := bg m n t) (n + 1)
  refine zI_of (by decide) rfl rfl ?_
  intro k X Q
  have X : Cx k G R_Itm b_Itm_beginningOf 2 rm_Itm_beginningOf := X
  have Q : Rt k G (some (.int)) N 0 0 (pI (fun z h' => z = it_place m n t a ∧ h' = h)) := Q
  show Ev k G 2 N 0 0 h 0 [some (.ref (ad (g_b G) I)), some (vI (a))] []
  refine z_iload_n X d_Itm_beginningOf_0 rfl ?_
  refine z_if_lt (tgt := 12) X d_Itm_beginningOf_1 (by decide) (by omega) (fun q1 => ?_) (fun q1 => ?_)
  · refine z_iconst X d_Itm_beginningOf_12 ?_
    exact z_ireturn X Q d_Itm_beginningOf_13 rfl ⟨by unfold it_place; rw [if_pos (Or.inl q1)], rfl⟩
  · refine z_iload_n X d_Itm_beginningOf_4 rfl ?_
    refine e_aload_n X d_Itm_beginningOf_5 rfl ?_
    refine e_get X d_Itm_beginningOf_6 fl_Itm_22 hc0 (by omega) rfl ?_
    refine z_icmp_le (tgt := 14) X d_Itm_beginningOf_9 (by decide) (by omega) (fun q2 => ?_) (fun q2 => ?_)
    · refine z_iload_n X d_Itm_beginningOf_14 rfl ?_
      refine e_aload_n X d_Itm_beginningOf_15 rfl ?_
      refine e_get X d_Itm_beginningOf_16 fl_Itm_22 hc0 (by omega) rfl ?_
      refine z_icmp_ne (tgt := 29) X d_Itm_beginningOf_19 (by decide) (by omega) (fun q3 => ?_) (fun q3 => ?_)
      · obtain ⟨j, rfl⟩ : ∃ j : Nat, a = (j : Int) := ⟨a.toNat, by omega⟩
        refine e_aload_n X d_Itm_beginningOf_29 rfl ?_
        refine e_get X d_Itm_beginningOf_30 fl_Itm_9 hc0 (by omega) rfl ?_
        refine z_iload_n X d_Itm_beginningOf_33 rfl ?_
        refine z_iald X d_Itm_beginningOf_34 (j := j) hc1 (by omega) (by omega) (by omega) ?_
        exact z_ireturn X Q d_Itm_beginningOf_35 rfl ⟨by unfold it_place; rw [if_neg (by omega), if_neg q3]; exact sel_nth hsel (by omega), rfl⟩
      · refine e_aload_n X d_Itm_beginningOf_22 rfl ?_
        refine e_get X d_Itm_beginningOf_23 fl_Itm_26 hc0 (by omega) rfl ?_
        refine e_goto (tgt := 35) X d_Itm_beginningOf_26 (by decide) ?_
        exact z_ireturn X Q d_Itm_beginningOf_35 rfl ⟨by unfold it_place; rw [if_neg (by omega), if_pos q3], rfl⟩
    · refine z_iconst X d_Itm_beginningOf_12 ?_
      exact z_ireturn X Q d_Itm_beginningOf_13 rfl ⟨by unfold it_place; rw [if_pos (Or.inr q2)], rfl⟩

set_option maxRecDepth 100000 in
set_option maxHeartbeats 4000000 in
theorem c_Itm_having {l : Launch} {G : lx_G} {N : Nat} {h : Nat → va_E} {I n : Nat} {m : Int} {t : Nat → Int} {p : Nat} (hM : Ms G h I m n t) (hIN : I + 2 < N) (hn : n ≤ 160) (ht : tx_ok n t) (hp : p ≤ n) (hm : 0 ≤ m ∧ m ≤ 3) : CtI l G m_Itm_having N [.ref (ad (g_b G) I), vI ((p : Nat) : Int)] h (fun z h' => z = it_item m n t p ∧ h' = h) := by
  have hM9 := hM
  obtain ⟨f, v1, v2, v3, ⟨hc0, hc1, hc2⟩, hsel⟩ := hM
  have hcl := cnt_le (B := bg m n t) (n + 1)
  refine zI_of (by decide) rfl rfl ?_
  intro k X Q
  have X : Cx k G R_Itm b_Itm_having 3 rm_Itm_having := X
  have Q : Rt k G (some (.int)) N 0 0 (pI (fun z h' => z = it_item m n t p ∧ h' = h)) := Q
  show Ev k G 3 N 0 0 h 0 [some (.ref (ad (g_b G) I)), some (vI ((p : Nat) : Int)), none] []
  refine z_iload_n X d_Itm_having_0 rfl ?_
  refine e_aload_n X d_Itm_having_1 rfl ?_
  refine e_get X d_Itm_having_2 fl_Itm_26 hc0 (by omega) rfl ?_
  refine z_icmp_ne (tgt := 21) X d_Itm_having_5 (by decide) (by omega) (fun q1 => ?_) (fun q1 => ?_)
  · have h0 : bg m n t 0 = true := bg_zero ht (by omega)
    have hc := cnt_pos h0 p
    have hc2 := cnt_mono (B := bg m n t) (show p + 1 ≤ n + 1 by omega)
    have hit : it_item m n t p = ((cnt (bg m n t) (p + 1) - 1 : Nat) : Int) := if_neg (by omega)
    refine e_aload_n X d_Itm_having_21 rfl ?_
    refine e_get X d_Itm_having_22 fl_Itm_22 hc0 (by omega) rfl ?_
    refine z_iconst X d_Itm_having_25 ?_
    refine z_isub X d_Itm_having_26 ?_
    refine z_top (show _ = ((cnt (bg m n t) (n + 1) - 1 : Nat) : Int) by omega) ?_
    refine e_istore_n X d_Itm_having_27 (by decide) ?_
    have loop : ∀ (d9 : Nat) (k9 : Nat), k9 < d9 → cnt (bg m n t) (p + 1) - 1 ≤ k9 → k9 < cnt (bg m n t) (n + 1) → Ev k G 3 N 0 0 h 28 [some (.ref (ad (g_b G) I)), some (vI ((p : Nat) : Int)), some (vI ((k9 : Nat) : Int))] [] := by
      intro d9
      induction d9 with
      | zero =>
        intro k9 hm9
        exact absurd hm9 (Nat.not_lt_zero _)
      | succ d9 ih =>
        intro k9 hm9 hk1 hk2
        refine z_iload_n X d_Itm_having_28 rfl ?_
        refine z_if_le (tgt := 48) X d_Itm_having_29 (by decide) (by omega) (fun q5 => ?_) (fun q5 => ?_)
        · refine z_iload_n X d_Itm_having_48 rfl ?_
          exact z_ireturn X Q d_Itm_having_49 rfl ⟨by rw [hit]; omega, rfl⟩
        · have hrg := sel_rg hsel hk2
          have hgt := sel_gt (p := p) hsel hk2
          refine e_aload_n X d_Itm_having_32 rfl ?_
          refine e_get X d_Itm_having_33 fl_Itm_9 hc0 (by omega) rfl ?_
          refine z_iload_n X d_Itm_having_36 rfl ?_
          refine z_iald X d_Itm_having_37 (j := k9) hc1 (by omega) (by omega) (by omega) ?_
          refine z_iload_n X d_Itm_having_38 rfl ?_
          refine z_icmp_le (tgt := 48) X d_Itm_having_39 (by decide) (by omega) (fun q6 => ?_) (fun q6 => ?_)
          · refine z_iload_n X d_Itm_having_48 rfl ?_
            have hk3 : ¬ cnt (bg m n t) (p + 1) ≤ k9 := fun q9 => absurd (hgt.mpr q9) (by omega)
            exact z_ireturn X Q d_Itm_having_49 rfl ⟨by rw [hit]; omega, rfl⟩
          · refine z_iinc X d_Itm_having_42 rfl (by decide) ?_
            refine e_goto (tgt := 28) X d_Itm_having_45 (by decide) ?_
            have hk3 := hgt.mp q6
            rw [show ((k9 : Nat) : Int) + (-1) = ((k9 - 1 : Nat) : Int) by omega]
            exact ih (k9 - 1) (by omega) (by omega) (by omega)
    exact loop _ _ (Nat.lt_succ_self _) (by omega) (by omega)
  · refine e_aload_n X d_Itm_having_8 rfl ?_
    refine e_get X d_Itm_having_9 fl_Itm_29 hc0 (by omega) rfl ?_
    refine z_iconst X d_Itm_having_12 ?_
    refine z_icmp_eq (tgt := 21) X d_Itm_having_13 (by decide) (by omega) (fun q2 => ?_) (fun q2 => ?_)
    · have h0 : bg m n t 0 = true := bg_zero ht (by omega)
      have hc := cnt_pos h0 p
      have hc2 := cnt_mono (B := bg m n t) (show p + 1 ≤ n + 1 by omega)
      have hit : it_item m n t p = ((cnt (bg m n t) (p + 1) - 1 : Nat) : Int) := if_neg (by omega)
      refine e_aload_n X d_Itm_having_21 rfl ?_
      refine e_get X d_Itm_having_22 fl_Itm_22 hc0 (by omega) rfl ?_
      refine z_iconst X d_Itm_having_25 ?_
      refine z_isub X d_Itm_having_26 ?_
      refine z_top (show _ = ((cnt (bg m n t) (n + 1) - 1 : Nat) : Int) by omega) ?_
      refine e_istore_n X d_Itm_having_27 (by decide) ?_
      have loop : ∀ (d9 : Nat) (k9 : Nat), k9 < d9 → cnt (bg m n t) (p + 1) - 1 ≤ k9 → k9 < cnt (bg m n t) (n + 1) → Ev k G 3 N 0 0 h 28 [some (.ref (ad (g_b G) I)), some (vI ((p : Nat) : Int)), some (vI ((k9 : Nat) : Int))] [] := by
        intro d9
        induction d9 with
        | zero =>
          intro k9 hm9
          exact absurd hm9 (Nat.not_lt_zero _)
        | succ d9 ih =>
          intro k9 hm9 hk1 hk2
          refine z_iload_n X d_Itm_having_28 rfl ?_
          refine z_if_le (tgt := 48) X d_Itm_having_29 (by decide) (by omega) (fun q5 => ?_) (fun q5 => ?_)
          · refine z_iload_n X d_Itm_having_48 rfl ?_
            exact z_ireturn X Q d_Itm_having_49 rfl ⟨by rw [hit]; omega, rfl⟩
          · have hrg := sel_rg hsel hk2
            have hgt := sel_gt (p := p) hsel hk2
            refine e_aload_n X d_Itm_having_32 rfl ?_
            refine e_get X d_Itm_having_33 fl_Itm_9 hc0 (by omega) rfl ?_
            refine z_iload_n X d_Itm_having_36 rfl ?_
            refine z_iald X d_Itm_having_37 (j := k9) hc1 (by omega) (by omega) (by omega) ?_
            refine z_iload_n X d_Itm_having_38 rfl ?_
            refine z_icmp_le (tgt := 48) X d_Itm_having_39 (by decide) (by omega) (fun q6 => ?_) (fun q6 => ?_)
            · refine z_iload_n X d_Itm_having_48 rfl ?_
              have hk3 : ¬ cnt (bg m n t) (p + 1) ≤ k9 := fun q9 => absurd (hgt.mpr q9) (by omega)
              exact z_ireturn X Q d_Itm_having_49 rfl ⟨by rw [hit]; omega, rfl⟩
            · refine z_iinc X d_Itm_having_42 rfl (by decide) ?_
              refine e_goto (tgt := 28) X d_Itm_having_45 (by decide) ?_
              have hk3 := hgt.mp q6
              rw [show ((k9 : Nat) : Int) + (-1) = ((k9 - 1 : Nat) : Int) by omega]
              exact ih (k9 - 1) (by omega) (by omega) (by omega)
      exact loop _ _ (Nat.lt_succ_self _) (by omega) (by omega)
    · refine e_aload_n X d_Itm_having_16 rfl ?_
      refine e_get X d_Itm_having_17 fl_Itm_22 hc0 (by omega) rfl ?_
      exact z_ireturn X Q d_Itm_having_20 rfl ⟨(if_pos ⟨by omega, q2⟩).symm, rfl⟩

set_option maxRecDepth 100000 in
set_option maxHeartbeats 4000000 in
theorem c_Itm_isInside {l : Launch} {G : lx_G} {N : Nat} {h : Nat → va_E} {I n : Nat} {m : Int} {t : Nat → Int} {p : Nat} (hM : Ms G h I m n t) (hIN : I + 2 < N) (hn : n ≤ 160) (ht : tx_ok n t) (hp : p ≤ n) (hm : 0 ≤ m ∧ m ≤ 3) : CtI l G m_Itm_isInside N [.ref (ad (g_b G) I), vI ((p : Nat) : Int)] h (fun z h' => z = b2z (decide (p < n) && !bg m n t p) ∧ h' = h) := by
  have hM9 := hM
  obtain ⟨f, v1, v2, v3, ⟨hc0, hc1, hc2⟩, hsel⟩ := hM
  have hcl := cnt_le (B := bg m n t) (n + 1)
  refine zI_of (by decide) rfl rfl ?_
  intro k X Q
  have X : Cx k G R_Itm b_Itm_isInside 2 rm_Itm_isInside := X
  have Q : Rt k G (some (.boolean)) N 0 0 (pI (fun z h' => z = b2z (decide (p < n) && !bg m n t p) ∧ h' = h)) := Q
  show Ev k G 2 N 0 0 h 0 [some (.ref (ad (g_b G) I)), some (vI ((p : Nat) : Int))] []
  refine z_iload_n X d_Itm_isInside_0 rfl ?_
  refine e_aload_n X d_Itm_isInside_1 rfl ?_
  refine e_get X d_Itm_isInside_2 fl_Itm_26 hc0 (by omega) rfl ?_
  refine z_icmp_ge (tgt := 26) X d_Itm_isInside_5 (by decide) (by omega) (fun q1 => ?_) (fun q1 => ?_)
  · refine z_iconst X d_Itm_isInside_26 ?_
    exact z_ireturn X Q d_Itm_isInside_27 rfl ⟨(b2z_f (by simp; omega)).symm, rfl⟩
  · refine e_aload_n X d_Itm_isInside_8 rfl ?_
    refine e_get X d_Itm_isInside_9 fl_Itm_9 hc0 (by omega) rfl ?_
    refine e_aload_n X d_Itm_isInside_12 rfl ?_
    refine z_iload_n X d_Itm_isInside_13 rfl ?_
    have h0 : bg m n t 0 = true := bg_zero ht (by omega)
    have hc := cnt_pos h0 p
    have hc3 := cnt_mono (B := bg m n t) (show p + 1 ≤ n + 1 by omega)
    have hit : it_item m n t p = ((cnt (bg m n t) (p + 1) - 1 : Nat) : Int) := if_neg (by omega)
    refine z_callV_I X d_Itm_isInside_14 cv_Itm_44 (c_Itm_having hM9 hIN hn ht hp hm) hc0 (by omega) rfl rfl ⟨rfl, rfl⟩ rfl (fun z3 h1 hp2 => ?_)
    obtain ⟨rfl, hh4⟩ := hp2
    rw [hh4]
    refine z_top hit ?_
    have hrg := sel_rg hsel (show cnt (bg m n t) (p + 1) - 1 < cnt (bg m n t) (n + 1) by omega)
    have hsi := sel_in hsel (show p < n + 1 by omega) h0
    refine z_iald X d_Itm_isInside_17 (j := (cnt (bg m n t) (p + 1) - 1)) hc1 (by omega) (by omega) (by omega) ?_
    refine z_iload_n X d_Itm_isInside_18 rfl ?_
    refine z_icmp_eq (tgt := 26) X d_Itm_isInside_19 (by decide) (by omega) (fun q2 => ?_) (fun q2 => ?_)
    · refine z_iconst X d_Itm_isInside_26 ?_
      exact z_ireturn X Q d_Itm_isInside_27 rfl ⟨(b2z_f (by rw [hsi.mp q2]; simp)).symm, rfl⟩
    · refine z_iconst X d_Itm_isInside_22 ?_
      refine e_goto (tgt := 27) X d_Itm_isInside_23 (by decide) ?_
      exact z_ireturn X Q d_Itm_isInside_27 rfl ⟨(b2z_t (by have h9 : bg m n t p = false := Bool.eq_false_iff.mpr (fun q9 => q2 (hsi.mpr q9)); rw [h9]; simp; omega)).symm, rfl⟩
end
section
/-! PATTERNS: unit 42 is the star -/
def nsc (p : Nat → Int) (i : Nat) : Bool := decide (¬ p i = 42)
def patb (p : Nat → Int) : Nat → Bool
  | 0 => true
  | i + 1 => patb p i && (decide (¬ p i = 42) || (decide (0 < i) && decide (¬ p (i - 1) = 42)))
def pat (c : Nat) (p : Nat → Int) : Bool := decide (0 < c) && patb p c
def pat_ar (p : Nat → Int) (i : Nat) (w s : Nat → Int) : Prop := ∀ k, k < i → nsc p k = true → w (cnt (nsc p) k) = p k ∧ s (cnt (nsc p) k) = b2z (decide (k + 1 < i ∧ p (k + 1) = 42))
theorem patb_k {p : Nat → Int} {i : Nat} (h : patb p i = true) {k : Nat} (hk : k < i) (h4 : p k = 42) : 0 < k ∧ ¬ p (k - 1) = 42 := by
  induction i with
  | zero => omega
  | succ i ih =>
    simp only [patb, Bool.and_eq_true] at h
    rcases Nat.lt_or_ge k i with h1 | h1
    · exact ih h.1 h1
    · have : k = i := by omega
      subst this
      have h2 := h.2
      simp [h4] at h2
      exact h2
theorem nsc_t {p : Nat → Int} {i : Nat} (h : ¬ p i = 42) : nsc p i = true := decide_eq_true h
theorem nsc_f {p : Nat → Int} {i : Nat} (h : p i = 42) : nsc p i = false := decide_eq_false (fun q => q h)
theorem nsc_n {p : Nat → Int} {i : Nat} (h : nsc p i = true) : ¬ p i = 42 := of_decide_eq_true h
theorem pat_pos {p : Nat → Int} {i : Nat} (h : patb p i = true) : cnt (nsc p) i = 0 ↔ i = 0 := by
  constructor
  · intro h1
    rcases Nat.eq_zero_or_pos i with h2 | h2
    · exact h2
    · have h3 : nsc p 0 = true := nsc_t (fun q => absurd (patb_k h h2 q).1 (Nat.lt_irrefl _))
      have := cnt_lt h3 h2
      omega
  · intro h1
    rw [h1]
    rfl
theorem pat_one {p : Nat → Int} {i : Nat} {w s : Nat → Int} (ha : pat_ar p i w s) (h : ¬ p i = 42) : pat_ar p (i + 1) (zup w (cnt (nsc p) i) (p i)) (zup s (cnt (nsc p) i) 0) := by
  intro k hk hn
  rcases Nat.lt_or_ge k i with h1 | h1
  · have h2 := cnt_lt hn h1
    obtain ⟨h3, h4⟩ := ha k h1 hn
    rw [zup_ne (by omega), zup_ne (by omega)]
    refine ⟨h3, h4.trans ?_⟩
    congr 1
    by_cases h5 : k + 1 = i
    · rw [decide_eq_false (by omega), decide_eq_false (by rw [h5]; exact fun q => h q.2)]
    · exact decide_eq_decide.mpr ⟨fun q => ⟨by omega, q.2⟩, fun q => ⟨by omega, q.2⟩⟩
  · have : k = i := by omega
    subst this
    rw [zup_eq, zup_eq]
    exact ⟨rfl, (b2z_f (decide_eq_false (by omega))).symm⟩
theorem pat_star {p : Nat → Int} {i : Nat} {w s : Nat → Int} (ha : pat_ar p i w s) (h : p i = 42) (hi : 0 < i) (h1 : ¬ p (i - 1) = 42) : pat_ar p (i + 1) w (zup s (cnt (nsc p) i - 1) 1) ∧ 0 < cnt (nsc p) i := by
  have hc : cnt (nsc p) i = cnt (nsc p) (i - 1) + 1 := by
    have := cnt_t (nsc_t h1)
    rwa [Nat.sub_add_cancel hi] at this
  refine ⟨fun k hk hn => ?_, by omega⟩
  have hki : k < i := by
    rcases Nat.lt_or_ge k i with h2 | h2
    · exact h2
    · have : k = i := by omega
      rw [this, nsc_f h] at hn
      cases hn
  obtain ⟨h3, h4⟩ := ha k hki hn
  refine ⟨h3, ?_⟩
  by_cases h5 : k = i - 1
  · subst h5
    rw [show cnt (nsc p) i - 1 = cnt (nsc p) (i - 1) by omega, zup_eq, Nat.sub_add_cancel hi]
    exact (b2z_t (decide_eq_true ⟨by omega, h⟩)).symm
  · have h6 := cnt_lt (q := i - 1) hn (by omega)
    rw [zup_ne (by omega)]
    refine h4.trans ?_
    congr 1
    exact decide_eq_decide.mpr ⟨fun q => ⟨by omega, q.2⟩, fun q => ⟨by omega, q.2⟩⟩
theorem pat_prev {p : Nat → Int} {i : Nat} {w s : Nat → Int} (h : patb p i = true) (ha : pat_ar p i w s) (hi : 0 < i) : s (cnt (nsc p) i - 1) = b2z (decide (p (i - 1) = 42)) := by
  by_cases h1 : p (i - 1) = 42
  · obtain ⟨h2, h3⟩ := patb_k h (show i - 1 < i by omega) h1
    have e1 : cnt (nsc p) i = cnt (nsc p) (i - 1) := by
      have := cnt_f (nsc_f h1)
      rwa [Nat.sub_add_cancel hi] at this
    have e2 : cnt (nsc p) (i - 1) = cnt (nsc p) (i - 1 - 1) + 1 := by
      have := cnt_t (nsc_t h3)
      rwa [Nat.sub_add_cancel h2] at this
    have h4 := (ha (i - 1 - 1) (by omega) (nsc_t h3)).2
    rw [show cnt (nsc p) i - 1 = cnt (nsc p) (i - 1 - 1) by omega, h4]
    congr 1
    rw [Nat.sub_add_cancel h2]
    exact decide_eq_decide.mpr ⟨fun q => q.2, fun q => ⟨by omega, q⟩⟩
  · have e1 : cnt (nsc p) i = cnt (nsc p) (i - 1) + 1 := by
      have := cnt_t (nsc_t h1)
      rwa [Nat.sub_add_cancel hi] at this
    have h4 := (ha (i - 1) (by omega) (nsc_t h1)).2
    rw [show cnt (nsc p) i - 1 = cnt (nsc p) (i - 1) by omega, h4, decide_eq_false (by omega), decide_eq_false h1]
theorem patb_one {p : Nat → Int} {i : Nat} (h : patb p i = true) (h4 : ¬ p i = 42) : patb p (i + 1) = true := by simp [patb, h, h4]
theorem patb_star {p : Nat → Int} {i : Nat} (h : patb p i = true) (hi : 0 < i) (h1 : ¬ p (i - 1) = 42) : patb p (i + 1) = true := by simp [patb, h, hi, h1]
theorem patb_bad {p : Nat → Int} {i : Nat} (h4 : p i = 42) (h : i = 0 ∨ p (i - 1) = 42) : patb p (i + 1) = false := by
  rcases h with h | h
  · subst h
    simp [patb, h4]
  · simp [patb, h4, h]
theorem patb_mono {p : Nat → Int} {i : Nat} (h : patb p i = false) : ∀ c, i ≤ c → patb p c = false := by
  intro c hc
  induction c with
  | zero =>
    have : i = 0 := by omega
    rwa [this] at h
  | succ c ih =>
    rcases Nat.lt_or_ge i (c + 1) with h1 | h1
    · simp [patb, ih (by omega)]
    · have : i = c + 1 := by omega
      rwa [this] at h
/-! WHERE A PATTERN MATCHES TO: rrow is the row for a place P with the unit u, over the row of the next place -/
def stn (w u : Int) : Bool := if w = 46 then decide (¬ u = -1) && (decide (¬ u = 10) && decide (¬ u = 13)) else decide (u = w)
def rrow (E : Nat) (w : Nat → Int) (s : Nat → Bool) (P u : Int) (prev : Nat → Int) : Nat → Int
  | 0 => P
  | m + 1 => if s (E - (m + 1)) then max (if stn (w (E - (m + 1))) u then prev (m + 1) else -1) (rrow E w s P u prev m) else if stn (w (E - (m + 1))) u then prev m else -1
def rmt (E : Nat) (w : Nat → Int) (s : Nat → Bool) (n : Nat) (t : Nat → Int) : Nat → Nat → Int
  | 0 => rrow E w s (n : Int) (t n) (fun _ => -1)
  | d + 1 => rrow E w s ((n - (d + 1) : Nat) : Int) (t (n - (d + 1))) (rmt E w s n t d)
theorem stn_none {w : Int} (h : 0 ≤ w) : stn w (-1) = false := by
  unfold stn
  split
  · simp
  · simp; omega
theorem rrow_congr {E : Nat} {w w' : Nat → Int} {s s' : Nat → Bool} {P u : Int} {prev prev' : Nat → Int} (hw : ∀ e, e < E → w e = w' e) (hs : ∀ e, e < E → s e = s' e) : ∀ m, m ≤ E → (∀ e, e < E → stn (w e) u = true → ∀ m, m ≤ E → prev m = prev' m) → rrow E w s P u prev m = rrow E w' s' P u prev' m := by
  intro m hm hp
  induction m with
  | zero => rfl
  | succ m ih =>
    unfold rrow
    rw [ih (by omega), ← hs _ (show E - (m + 1) < E by omega), ← hw _ (show E - (m + 1) < E by omega)]
    by_cases hk : stn (w (E - (m + 1))) u = true
    · rw [hp _ (by omega) hk (m + 1) hm, hp _ (by omega) hk m (by omega)]
    · simp [hk]
theorem rrow_rg {E : Nat} {w : Nat → Int} {s : Nat → Bool} {P u : Int} {prev : Nat → Int} (hP : 0 ≤ P ∧ P ≤ 160) (hp : ∀ e, e < E → stn (w e) u = true → ∀ m, m ≤ E → -1 ≤ prev m ∧ prev m ≤ 160) : ∀ m, m ≤ E → -1 ≤ rrow E w s P u prev m ∧ rrow E w s P u prev m ≤ 160 := by
  intro m hm
  induction m with
  | zero => unfold rrow; omega
  | succ m ih =>
    have h1 := ih (by omega)
    unfold rrow
    by_cases hk : stn (w (E - (m + 1))) u = true
    · have h2 := hp _ (by omega) hk (m + 1) hm
      have h3 := hp _ (by omega) hk m (by omega)
      simp only [hk, if_true]
      split <;> omega
    · simp only [hk]
      split
      · simp; omega
      · simp
theorem rmt_rg {E : Nat} {w : Nat → Int} {s : Nat → Bool} {n : Nat} {t : Nat → Int} (hn : n ≤ 160) : ∀ d m, m ≤ E → -1 ≤ rmt E w s n t d m ∧ rmt E w s n t d m ≤ 160 := by
  intro d
  induction d with
  | zero =>
    intro m hm
    unfold rmt
    exact rrow_rg (by omega) (fun _ _ _ _ _ => by omega) m hm
  | succ d ih =>
    intro m hm
    unfold rmt
    exact rrow_rg (by omega) (fun _ _ _ m hm => ih m hm) m hm
theorem rmt_congr {E : Nat} {w w' : Nat → Int} {s s' : Nat → Bool} {n : Nat} {t : Nat → Int} (hw : ∀ e, e < E → w e = w' e) (hs : ∀ e, e < E → s e = s' e) : ∀ d m, m ≤ E → rmt E w s n t d m = rmt E w' s' n t d m := by
  intro d
  induction d with
  | zero =>
    intro m hm
    unfold rmt
    exact rrow_congr hw hs m hm (fun _ _ _ _ _ => rfl)
  | succ d ih =>
    intro m hm
    unfold rmt
    exact rrow_congr hw hs m hm (fun _ _ _ m hm => ih m hm)
/-- the first place, going on from the text's end, and where the match from it goes to -/
def ffd (E : Nat) (w : Nat → Int) (s : Nat → Bool) (n : Nat) (t : Nat → Int) (e0 : Int) : Nat → Int × Int
  | 0 => (-1, e0)
  | d + 1 => if rmt E w s n t d E = -1 then ffd E w s n t e0 d else (((n - d : Nat) : Int), rmt E w s n t d E)
theorem ffd_congr {E : Nat} {w w' : Nat → Int} {s s' : Nat → Bool} {n : Nat} {t : Nat → Int} {e0 : Int} (hw : ∀ e, e < E → w e = w' e) (hs : ∀ e, e < E → s e = s' e) (d : Nat) : ffd E w s n t e0 d = ffd E w' s' n t e0 d := by
  induction d with
  | zero => rfl
  | succ d ih =>
    unfold ffd
    rw [rmt_congr hw hs d E (Nat.le_refl _), ih]
/-- the elements of a pattern of c units -/
def el_w (c : Nat) (p : Nat → Int) (e : Nat) : Int := p (nthp (nsc p) c e).toNat
def el_s (c : Nat) (p : Nat → Int) (e : Nat) : Bool := decide (p ((nthp (nsc p) c e).toNat + 1) = 42)
theorem pat_el {c : Nat} {p w s : Nat → Int} (hp : tx_ok c p) (ha : pat_ar p c w s) {e : Nat} (he : e < cnt (nsc p) c) : w e = el_w c p e ∧ s e = b2z (el_s c p e) := by
  obtain ⟨k, k1, k2, k3⟩ := cnt_at he
  have h1 : nthp (nsc p) c e = (k : Int) := by
    have h2 : ∀ q f, sel (nsc p) q f → k < q → f (cnt (nsc p) k) = (k : Int) := fun q f hf hq => hf k hq k2
    have hs : sel (nsc p) c (fun j => nthp (nsc p) c j) := by
      intro q hq hb
      have h3 : ∀ r, q < r → nthp (nsc p) r (cnt (nsc p) q) = (q : Int) := by
        intro r hr
        induction r with
        | zero => omega
        | succ r ih =>
          unfold nthp
          by_cases h4 : q = r
          · rw [← h4, if_pos ⟨hb, rfl⟩]
          · rw [if_neg (fun z => by have := cnt_lt hb (show q < r by omega); omega)]
            exact ih (by omega)
      exact h3 c hq
    rw [← k3]
    exact h2 c _ hs k1
  obtain ⟨h5, h6⟩ := ha k k1 k2
  rw [k3] at h5 h6
  unfold el_w el_s
  rw [h1]
  refine ⟨h5, h6.trans ?_⟩
  congr 1
  refine decide_eq_decide.mpr ⟨fun q => q.2, fun q => ⟨?_, q⟩⟩
  rcases Nat.lt_or_ge (k + 1) c with h7 | h7
  · exact h7
  · have := hp.2 (k + 1) h7
    have q' : p (k + 1) = 42 := q
    omega
/-- what find answers, and what end answers behind it -/
def fd (c : Nat) (p : Nat → Int) (n : Nat) (t : Nat → Int) (e0 : Int) (a : Nat) : Int × Int := if pat c p then ffd (cnt (nsc p) c) (el_w c p) (el_s c p) n t e0 (n - a + 1) else (-1, e0)
end
section
theorem LR.clear {ls : Array Slot} {nL : Nat} {L : List (Option Value)} (h : LR ls nL L) (j : Nat) : LR ls nL (L.set j none) := by
  refine ⟨h.1, h.2.1, fun i v hi => ?_⟩
  by_cases hij : i = j
  · subst hij
    have hl : i < L.length := by
      have := (List.getElem?_eq_some_iff.mp hi).1
      rwa [List.length_set] at this
    rw [List.getElem?_set_self hl] at hi
    cases hi
  · rw [List.getElem?_set_ne (Ne.symm hij)] at hi
    exact h.2.2 i v hi
theorem e_clear {k : lx_K} {G : lx_G} {nL N cells slots pc : Nat} {h : Nat → va_E} {L : List (Option Value)} {st : List Value} (j : Nat) (kk : Ev k G nL N cells slots h pc (L.set j none) st) : Ev k G nL N cells slots h pc L st := fun H locs ls hH hS hL => kk H locs ls hH hS (hL.clear j)
theorem zup_hi {g F : Nat → Int} {E j : Nat} {v : Int} (h : ∀ e, j ≤ e → e ≤ E → g e = F e) (hj : 0 < j) (hv : v = F (j - 1)) : ∀ e, j - 1 ≤ e → e ≤ E → zup g (j - 1) v e = F e := by
  intro e h8 h9
  by_cases h7 : e = j - 1
  · rw [h7, zup_eq]; exact hv
  · rw [zup_ne h7]; exact h e (by omega) h9
theorem rrow_step {E : Nat} {w : Nat → Int} {s : Nat → Bool} {P u : Int} {prev : Nat → Int} {j : Nat} (h1 : 0 < j) (h2 : j ≤ E) : rrow E w s P u prev (E - (j - 1)) = if s (j - 1) then max (if stn (w (j - 1)) u then prev (E - (j - 1)) else -1) (rrow E w s P u prev (E - j)) else if stn (w (j - 1)) u then prev (E - j) else -1 := by
  rw [show E - (j - 1) = (E - j) + 1 by omega]
  rw [rrow, show E - (E - j + 1) = j - 1 by omega]
/-- the cells of a Search: it, wanted, starred, reached -/
def SeC (G : lx_G) (h : Nat → va_E) (S : Nat) (E en : Int) (w z f : Nat → Int) : Prop := h S = ob ci_Sea [.ref (ad (g_b G) (S + 1)), .ref (ad (g_b G) (S + 2)), .ref (ad (g_b G) (S + 3)), vI E, vI en] ∧ h (S + 1) = rI G 24 w ∧ h (S + 2) = rZ G 24 z ∧ h (S + 3) = rI G 25 f
def Sea (G : lx_G) (h : Nat → va_E) (S : Nat) (en : Int) : Prop := (-1 ≤ en ∧ en ≤ 160) ∧ ∃ (E : Int) (w z f : Nat → Int), SeC G h S E en w z f
theorem Sea.fr {G : lx_G} {h h' : Nat → va_E} {S : Nat} {en : Int} (hT : Sea G h S en) (e : ∀ q, S ≤ q → q < S + 4 → h' q = h q) : Sea G h' S en := by
  obtain ⟨h9, E, w, z, f, h0, h1, h2, h3⟩ := hT
  exact ⟨h9, E, w, z, f, (e S (by omega) (by omega)).trans h0, (e _ (by omega) (by omega)).trans h1, (e _ (by omega) (by omega)).trans h2, (e _ (by omega) (by omega)).trans h3⟩

set_option maxRecDepth 100000 in
set_option maxHeartbeats 4000000 in
theorem c_Sea_matchEnd {l : Launch} {G : lx_G} {N : Nat} {h : Nat → va_E} {S : Nat} {en : Int} (hS : Sea G h S en) (hN : S + 3 < N) : CtI l G m_Sea_matchEnd N [.ref (ad (g_b G) S)] h (fun z h' => z = en ∧ h' = h) := by
  obtain ⟨h9, E, w, z, f, hc0, hc1, hc2, hc3⟩ := hS
  refine zI_of (by decide) rfl rfl ?_
  intro k X Q
  have X : Cx k G R_Sea b_Sea_matchEnd 1 rm_Sea_matchEnd := X
  have Q : Rt k G (some (.int)) N 0 0 (pI (fun z h' => z = en ∧ h' = h)) := Q
  show Ev k G 1 N 0 0 h 0 [some (.ref (ad (g_b G) S))] []
  refine e_aload_n X d_Sea_matchEnd_0 rfl ?_
  refine e_get X d_Sea_matchEnd_1 fl_Sea_26 hc0 (by omega) rfl ?_
  exact z_ireturn X Q d_Sea_matchEnd_4 rfl ⟨rfl, rfl⟩

set_option maxRecDepth 100000 in
set_option maxHeartbeats 4000000 in
theorem c_Sea_standsFor {l : Launch} {G : lx_G} {N : Nat} {h : Nat → va_E} {S e : Nat} {E en u : Int} {w z f : Nat → Int} (hS : SeC G h S E en w z f) (hN : S + 3 < N) (he : e < 24) (hw : 0 ≤ w e ∧ w e < 65536) (hu : -1 ≤ u ∧ u < 65536) : CtI l G m_Sea_standsFor N [.ref (ad (g_b G) S), vI ((e : Nat) : Int), vI (u)] h (fun z h' => z = b2z (stn (w e) u) ∧ h' = h) := by
  obtain ⟨hc0, hc1, hc2, hc3⟩ := hS
  refine zI_of (by decide) rfl rfl ?_
  intro k X Q
  have X : Cx k G R_Sea b_Sea_standsFor 3 rm_Sea_standsFor := X
  have Q : Rt k G (some (.boolean)) N 0 0 (pI (fun z h' => z = b2z (stn (w e) u) ∧ h' = h)) := Q
  show Ev k G 3 N 0 0 h 0 [some (.ref (ad (g_b G) S)), some (vI ((e : Nat) : Int)), some (vI (u))] []
  refine e_aload_n X d_Sea_standsFor_0 rfl ?_
  refine e_get X d_Sea_standsFor_1 fl_Sea_9 hc0 (by omega) rfl ?_
  refine z_iload_n X d_Sea_standsFor_4 rfl ?_
  refine z_iald X d_Sea_standsFor_5 (j := e) hc1 (by omega) (by omega) (by omega) ?_
  refine z_bipush X d_Sea_standsFor_6 (by decide) ?_
  refine z_icmp_ne (tgt := 34) X d_Sea_standsFor_8 (by decide) (by omega) (fun q1 => ?_) (fun q1 => ?_)
  · have g2 : decide (w e = 46) = false := decide_eq_false (by omega)
    refine z_iload_n X d_Sea_standsFor_34 rfl ?_
    refine e_aload_n X d_Sea_standsFor_35 rfl ?_
    refine e_get X d_Sea_standsFor_36 fl_Sea_9 hc0 (by omega) rfl ?_
    refine z_iload_n X d_Sea_standsFor_39 rfl ?_
    refine z_iald X d_Sea_standsFor_40 (j := e) hc1 (by omega) (by omega) (by omega) ?_
    refine z_icmp_ne (tgt := 48) X d_Sea_standsFor_41 (by decide) (by omega) (fun q4 => ?_) (fun q4 => ?_)
    · have g5 : decide (u = w e) = false := decide_eq_false (by omega)
      refine z_iconst X d_Sea_standsFor_48 ?_
      exact z_ireturn X Q d_Sea_standsFor_49 rfl ⟨by simp [stn, b2z, g2, g5], rfl⟩
    · have g6 : decide (u = w e) = true := decide_eq_true (by omega)
      refine z_iconst X d_Sea_standsFor_44 ?_
      refine e_goto (tgt := 49) X d_Sea_standsFor_45 (by decide) ?_
      exact z_ireturn X Q d_Sea_standsFor_49 rfl ⟨by simp [stn, b2z, g2, g6], rfl⟩
  · have g3 : decide (w e = 46) = true := decide_eq_true (by omega)
    refine z_iload_n X d_Sea_standsFor_11 rfl ?_
    refine z_iconst X d_Sea_standsFor_12 ?_
    refine z_icmp_eq (tgt := 32) X d_Sea_standsFor_13 (by decide) (by omega) (fun q7 => ?_) (fun q7 => ?_)
    · have g8 : decide (u = -1) = true := decide_eq_true (by omega)
      refine z_iconst X d_Sea_standsFor_32 ?_
      exact z_ireturn X Q d_Sea_standsFor_33 rfl ⟨by simp [stn, b2z, g3, g8], rfl⟩
    · have g9 : decide (u = -1) = false := decide_eq_false (by omega)
      refine z_iload_n X d_Sea_standsFor_16 rfl ?_
      refine z_bipush X d_Sea_standsFor_17 (by decide) ?_
      refine z_icmp_eq (tgt := 32) X d_Sea_standsFor_19 (by decide) (by omega) (fun q10 => ?_) (fun q10 => ?_)
      · have g11 : decide (u = 10) = true := decide_eq_true (by omega)
        refine z_iconst X d_Sea_standsFor_32 ?_
        exact z_ireturn X Q d_Sea_standsFor_33 rfl ⟨by simp [stn, b2z, g3, g9, g11], rfl⟩
      · have g12 : decide (u = 10) = false := decide_eq_false (by omega)
        refine z_iload_n X d_Sea_standsFor_22 rfl ?_
        refine z_bipush X d_Sea_standsFor_23 (by decide) ?_
        refine z_icmp_eq (tgt := 32) X d_Sea_standsFor_25 (by decide) (by omega) (fun q13 => ?_) (fun q13 => ?_)
        · have g14 : decide (u = 13) = true := decide_eq_true (by omega)
          refine z_iconst X d_Sea_standsFor_32 ?_
          exact z_ireturn X Q d_Sea_standsFor_33 rfl ⟨by simp [stn, b2z, g3, g9, g12, g14], rfl⟩
        · have g15 : decide (u = 13) = false := decide_eq_false (by omega)
          refine z_iconst X d_Sea_standsFor_28 ?_
          refine e_goto (tgt := 33) X d_Sea_standsFor_29 (by decide) ?_
          exact z_ireturn X Q d_Sea_standsFor_33 rfl ⟨by simp [stn, b2z, g3, g9, g12, g15], rfl⟩

set_option maxRecDepth 100000 in
set_option maxHeartbeats 4000000 in
theorem c_Sea_reachFrom {l : Launch} {G : lx_G} {N : Nat} {h : Nat → va_E} {S E P : Nat} {en u : Int} {w z f : Nat → Int} {s : Nat → Bool} (hS : SeC G h S (E : Int) en w z f) (hN : S + 3 < N) (hE : E ≤ 24) (hw : ∀ e, e < E → 0 ≤ w e ∧ w e < 65536) (hz : ∀ e, e < E → z e = b2z (s e)) (hP : P ≤ 160) (hu : -1 ≤ u ∧ u < 65536) (hprev : ∀ e, e < E → stn (w e) u = true → ∀ m, m ≤ E → -1 ≤ (fun m => f (E - m)) m ∧ (fun m => f (E - m)) m ≤ 160) : CtV l G m_Sea_reachFrom N [.ref (ad (g_b G) S), vI ((P : Nat) : Int), vI (u)] h (fun h' => ∃ f', h' (S + 3) = rI G 25 f' ∧ (∀ e, e ≤ E → f' e = rrow E w s ((P : Nat) : Int) u (fun m => f (E - m)) (E - e)) ∧ ∀ q, q ≠ S + 3 → h' q = h q) := by
  have hS9 := hS
  obtain ⟨hc0, hc1, hc2, hc3⟩ := hS
  refine zV_of (by decide) rfl rfl ?_
  intro k X Q
  have X : Cx k G R_Sea b_Sea_reachFrom 8 rm_Sea_reachFrom := X
  have Q : Rt k G none N 0 0 (pV (fun h' => ∃ f', h' (S + 3) = rI G 25 f' ∧ (∀ e, e ≤ E → f' e = rrow E w s ((P : Nat) : Int) u (fun m => f (E - m)) (E - e)) ∧ ∀ q, q ≠ S + 3 → h' q = h q)) := Q
  show Ev k G 8 N 0 0 h 0 [some (.ref (ad (g_b G) S)), some (vI ((P : Nat) : Int)), some (vI (u)), none, none, none, none, none] []
  refine e_aload_n X d_Sea_reachFrom_0 rfl ?_
  refine e_get X d_Sea_reachFrom_1 fl_Sea_19 hc0 (by omega) rfl ?_
  refine e_aload_n X d_Sea_reachFrom_4 rfl ?_
  refine e_get X d_Sea_reachFrom_5 fl_Sea_22 hc0 (by omega) rfl ?_
  refine z_iald X d_Sea_reachFrom_8 (j := E) hc3 (by omega) (by omega) (by omega) ?_
  refine e_istore_n X d_Sea_reachFrom_9 (by decide) ?_
  refine e_aload_n X d_Sea_reachFrom_10 rfl ?_
  refine e_get X d_Sea_reachFrom_11 fl_Sea_19 hc0 (by omega) rfl ?_
  refine e_aload_n X d_Sea_reachFrom_14 rfl ?_
  refine e_get X d_Sea_reachFrom_15 fl_Sea_22 hc0 (by omega) rfl ?_
  refine z_iload_n X d_Sea_reachFrom_18 rfl ?_
  refine z_iast X d_Sea_reachFrom_19 (j := E) hc3 (by omega) (by omega) (by omega) (fun h1 c2 fr3 => ?_)
  have c4 := (fr3 S (by omega)).trans hc0
  have c5 := (fr3 (S + 1) (by omega)).trans hc1
  have c6 := (fr3 (S + 2) (by omega)).trans hc2
  refine e_aload_n X d_Sea_reachFrom_20 rfl ?_
  refine e_get X d_Sea_reachFrom_21 fl_Sea_22 c4 (by omega) rfl ?_
  refine z_iconst X d_Sea_reachFrom_24 ?_
  refine z_isub X d_Sea_reachFrom_25 ?_
  refine e_istore X d_Sea_reachFrom_26 (by decide) ?_
  have loop : ∀ (d9 : Nat) (j : Nat) (g : Nat → Int) (h2 : Nat → va_E), j < d9 → j ≤ E → h2 (S + 3) = rI G 25 g → (∀ e, j ≤ e → e ≤ E → g e = rrow E w s ((P : Nat) : Int) u (fun m => f (E - m)) (E - e)) → (∀ e, e < j → g e = f e) → (∀ q, q ≠ S + 3 → h2 q = h q) → Ev k G 8 N 0 0 h2 28 [some (.ref (ad (g_b G) S)), some (vI ((P : Nat) : Int)), some (vI (u)), some (vI (f j)), some (vI (((j : Nat) : Int) - 1)), none, none, none] [] := by
    intro d9
    induction d9 with
    | zero =>
      intro j g h2 hm9
      exact absurd hm9 (Nat.not_lt_zero _)
    | succ d9 ih =>
      intro j g h2 hm9 hj e3 hg1 hg2 hf
      have e0 := (hf S (by omega)).trans hc0
      have e1 := (hf (S + 1) (by omega)).trans hc1
      have e2 := (hf (S + 2) (by omega)).trans hc2
      refine z_iload X d_Sea_reachFrom_28 rfl ?_
      refine z_if_lt (tgt := 124) X d_Sea_reachFrom_30 (by decide) (by omega) (fun q1 => ?_) (fun q1 => ?_)
      · have hj0 : j = 0 := by omega
        subst hj0
        exact z_return X Q d_Sea_reachFrom_124 ⟨g, e3, fun e h9 => hg1 e (Nat.zero_le _) h9, hf⟩
      · have hj1 : 0 < j := by omega
        rw [show ((j : Nat) : Int) - 1 = ((j - 1 : Nat) : Int) by omega]
        refine e_aload_n X d_Sea_reachFrom_33 rfl ?_
        refine e_get X d_Sea_reachFrom_34 fl_Sea_19 e0 (by omega) rfl ?_
        refine z_iload X d_Sea_reachFrom_37 rfl ?_
        refine z_iald X d_Sea_reachFrom_39 (j := (j - 1)) e3 (by omega) (by omega) (by omega) ?_
        refine z_top (show _ = (f (j - 1)) from hg2 (j - 1) (by omega)) ?_
        refine e_istore X d_Sea_reachFrom_40 (by decide) ?_
        refine e_aload_n X d_Sea_reachFrom_42 rfl ?_
        refine z_iload X d_Sea_reachFrom_43 rfl ?_
        refine z_iload_n X d_Sea_reachFrom_45 rfl ?_
        refine z_callV_I X d_Sea_reachFrom_46 cv_Sea_47 (c_Sea_standsFor ⟨e0, e1, e2, e3⟩ hN (by omega) (hw _ (by omega)) hu) e0 (by omega) rfl rfl ⟨rfl, rfl⟩ rfl (fun z9 h7 hp8 => ?_)
        obtain ⟨rfl, hh10⟩ := hp8
        rw [hh10]
        refine e_istore X d_Sea_reachFrom_49 (by decide) ?_
        refine e_aload_n X d_Sea_reachFrom_51 rfl ?_
        refine e_get X d_Sea_reachFrom_52 fl_Sea_15 e0 (by omega) rfl ?_
        refine z_iload X d_Sea_reachFrom_55 rfl ?_
        refine z_zald X d_Sea_reachFrom_57 (j := (j - 1)) e2 (by omega) (by omega) (by omega) ?_
        refine z_top (show _ = (b2z (s (j - 1))) from hz (j - 1) (by omega)) ?_
        have hst := rrow_step (w := w) (s := s) (P := ((P : Nat) : Int)) (u := u) (prev := fun m => f (E - m)) hj1 hj
        have hgj : g j = rrow E w s ((P : Nat) : Int) u (fun m => f (E - m)) (E - j) := hg1 j (Nat.le_refl _) hj
        have hrj := rrow_rg (w := w) (s := s) (P := ((P : Nat) : Int)) (u := u) (prev := fun m => f (E - m)) (by omega) hprev (E - j) (by omega)
        rw [show E - (E - (j - 1)) = j - 1 by omega, show E - (E - j) = j by omega] at hst
        refine z_if_eq (tgt := 98) X d_Sea_reachFrom_58 (by decide) (b2z_r _) (fun q2 => ?_) (fun q2 => ?_)
        · have hs1 : s (j - 1) = false := b2z_eq q2
          refine e_aload_n X d_Sea_reachFrom_98 rfl ?_
          refine e_get X d_Sea_reachFrom_99 fl_Sea_19 e0 (by omega) rfl ?_
          refine z_iload X d_Sea_reachFrom_102 rfl ?_
          refine z_iload X d_Sea_reachFrom_104 rfl ?_
          refine z_if_eq (tgt := 113) X d_Sea_reachFrom_106 (by decide) (b2z_r _) (fun q3 => ?_) (fun q3 => ?_)
          · have ht1 : stn (w (j - 1)) u = false := b2z_eq q3
            refine z_iconst X d_Sea_reachFrom_113 ?_
            have hval : (-1) = rrow E w s ((P : Nat) : Int) u (fun m => f (E - m)) (E - (j - 1)) := by rw [hst, hs1, ht1]; simp
            refine z_iast X d_Sea_reachFrom_114 (j := (j - 1)) e3 (by omega) (by omega) (by omega) (fun h11 c12 fr13 => ?_)
            have c14 := (fr13 S (by omega)).trans e0
            have c15 := (fr13 (S + 1) (by omega)).trans e1
            have c16 := (fr13 (S + 2) (by omega)).trans e2
            refine z_iload X d_Sea_reachFrom_115 rfl ?_
            refine e_istore_n X d_Sea_reachFrom_117 (by decide) ?_
            refine z_iinc X d_Sea_reachFrom_118 rfl (by decide) ?_
            refine e_goto (tgt := 28) X d_Sea_reachFrom_121 (by decide) ?_
            refine e_clear 5 ?_
            refine e_clear 6 ?_
            refine e_clear 7 ?_
            rw [show ((j - 1 : Nat) : Int) + (-1) = ((j - 1 : Nat) : Int) - 1 by omega]
            exact ih (j - 1) _ _ (by omega) (by omega) c12 (zup_hi hg1 hj1 hval) (fun e h9 => by rw [zup_ne (by omega)]; exact hg2 e (by omega)) (fun q q9 => (fr13 q q9).trans (hf q q9))
          · have ht1 : stn (w (j - 1)) u = true := b2z_ne q3
            have hpr := hprev (j - 1) (by omega) ht1
            have hpr1 := hpr (E - (j - 1)) (by omega)
            have hpr2 := hpr (E - j) (by omega)
            dsimp only at hpr1 hpr2
            rw [show E - (E - (j - 1)) = j - 1 by omega] at hpr1
            rw [show E - (E - j) = j by omega] at hpr2
            refine z_iload_n X d_Sea_reachFrom_109 rfl ?_
            refine e_goto (tgt := 114) X d_Sea_reachFrom_110 (by decide) ?_
            have hval : (f j) = rrow E w s ((P : Nat) : Int) u (fun m => f (E - m)) (E - (j - 1)) := by rw [hst, hs1, ht1]; simp
            refine z_iast X d_Sea_reachFrom_114 (j := (j - 1)) e3 (by omega) (by omega) (by omega) (fun h17 c18 fr19 => ?_)
            have c20 := (fr19 S (by omega)).trans e0
            have c21 := (fr19 (S + 1) (by omega)).trans e1
            have c22 := (fr19 (S + 2) (by omega)).trans e2
            refine z_iload X d_Sea_reachFrom_115 rfl ?_
            refine e_istore_n X d_Sea_reachFrom_117 (by decide) ?_
            refine z_iinc X d_Sea_reachFrom_118 rfl (by decide) ?_
            refine e_goto (tgt := 28) X d_Sea_reachFrom_121 (by decide) ?_
            refine e_clear 5 ?_
            refine e_clear 6 ?_
            refine e_clear 7 ?_
            rw [show ((j - 1 : Nat) : Int) + (-1) = ((j - 1 : Nat) : Int) - 1 by omega]
            exact ih (j - 1) _ _ (by omega) (by omega) c18 (zup_hi hg1 hj1 hval) (fun e h9 => by rw [zup_ne (by omega)]; exact hg2 e (by omega)) (fun q q9 => (fr19 q q9).trans (hf q q9))
        · have hs1 : s (j - 1) = true := b2z_ne q2
          refine z_iload X d_Sea_reachFrom_61 rfl ?_
          refine z_if_eq (tgt := 71) X d_Sea_reachFrom_63 (by decide) (b2z_r _) (fun q3 => ?_) (fun q3 => ?_)
          · have ht1 : stn (w (j - 1)) u = false := b2z_eq q3
            refine z_iconst X d_Sea_reachFrom_71 ?_
            refine e_istore X d_Sea_reachFrom_72 (by decide) ?_
            refine e_aload_n X d_Sea_reachFrom_74 rfl ?_
            refine e_get X d_Sea_reachFrom_75 fl_Sea_19 e0 (by omega) rfl ?_
            refine z_iload X d_Sea_reachFrom_78 rfl ?_
            refine z_iload X d_Sea_reachFrom_80 rfl ?_
            refine e_aload_n X d_Sea_reachFrom_82 rfl ?_
            refine e_get X d_Sea_reachFrom_83 fl_Sea_19 e0 (by omega) rfl ?_
            refine z_iload X d_Sea_reachFrom_86 rfl ?_
            refine z_iconst X d_Sea_reachFrom_88 ?_
            refine z_iadd X d_Sea_reachFrom_89 ?_
            refine z_iald X d_Sea_reachFrom_90 (j := ((j - 1) + 1)) e3 (by omega) (by omega) (by omega) ?_
            refine z_top (show _ = (g j) from (by rw [show j - 1 + 1 = j by omega])) ?_
            have hval : max (-1) (g j) = rrow E w s ((P : Nat) : Int) u (fun m => f (E - m)) (E - (j - 1)) := by rw [hst, hs1, ht1, hgj]; simp
            refine z_mmax X d_Sea_reachFrom_91 mx_Sea ⟨Nat.le_of_ble_eq_true rfl, Nat.le_of_ble_eq_true rfl, Nat.zero_le _, Nat.zero_le _⟩ (by omega) ?_
            refine z_iast X d_Sea_reachFrom_94 (j := (j - 1)) e3 (by omega) (by omega) (by omega) (fun h23 c24 fr25 => ?_)
            have c26 := (fr25 S (by omega)).trans e0
            have c27 := (fr25 (S + 1) (by omega)).trans e1
            have c28 := (fr25 (S + 2) (by omega)).trans e2
            refine e_goto (tgt := 115) X d_Sea_reachFrom_95 (by decide) ?_
            refine z_iload X d_Sea_reachFrom_115 rfl ?_
            refine e_istore_n X d_Sea_reachFrom_117 (by decide) ?_
            refine z_iinc X d_Sea_reachFrom_118 rfl (by decide) ?_
            refine e_goto (tgt := 28) X d_Sea_reachFrom_121 (by decide) ?_
            refine e_clear 5 ?_
            refine e_clear 6 ?_
            refine e_clear 7 ?_
            rw [show ((j - 1 : Nat) : Int) + (-1) = ((j - 1 : Nat) : Int) - 1 by omega]
            exact ih (j - 1) _ _ (by omega) (by omega) c24 (zup_hi hg1 hj1 hval) (fun e h9 => by rw [zup_ne (by omega)]; exact hg2 e (by omega)) (fun q q9 => (fr25 q q9).trans (hf q q9))
          · have ht1 : stn (w (j - 1)) u = true := b2z_ne q3
            have hpr := hprev (j - 1) (by omega) ht1
            have hpr1 := hpr (E - (j - 1)) (by omega)
            have hpr2 := hpr (E - j) (by omega)
            dsimp only at hpr1 hpr2
            rw [show E - (E - (j - 1)) = j - 1 by omega] at hpr1
            rw [show E - (E - j) = j by omega] at hpr2
            refine z_iload X d_Sea_reachFrom_66 rfl ?_
            refine e_goto (tgt := 72) X d_Sea_reachFrom_68 (by decide) ?_
            refine e_istore X d_Sea_reachFrom_72 (by decide) ?_
            refine e_aload_n X d_Sea_reachFrom_74 rfl ?_
            refine e_get X d_Sea_reachFrom_75 fl_Sea_19 e0 (by omega) rfl ?_
            refine z_iload X d_Sea_reachFrom_78 rfl ?_
            refine z_iload X d_Sea_reachFrom_80 rfl ?_
            refine e_aload_n X d_Sea_reachFrom_82 rfl ?_
            refine e_get X d_Sea_reachFrom_83 fl_Sea_19 e0 (by omega) rfl ?_
            refine z_iload X d_Sea_reachFrom_86 rfl ?_
            refine z_iconst X d_Sea_reachFrom_88 ?_
            refine z_iadd X d_Sea_reachFrom_89 ?_
            refine z_iald X d_Sea_reachFrom_90 (j := ((j - 1) + 1)) e3 (by omega) (by omega) (by omega) ?_
            refine z_top (show _ = (g j) from (by rw [show j - 1 + 1 = j by omega])) ?_
            have hval : max (f (j - 1)) (g j) = rrow E w s ((P : Nat) : Int) u (fun m => f (E - m)) (E - (j - 1)) := by rw [hst, hs1, ht1, hgj]; simp
            refine z_mmax X d_Sea_reachFrom_91 mx_Sea ⟨Nat.le_of_ble_eq_true rfl, Nat.le_of_ble_eq_true rfl, Nat.zero_le _, Nat.zero_le _⟩ (by omega) ?_
            refine z_iast X d_Sea_reachFrom_94 (j := (j - 1)) e3 (by omega) (by omega) (by omega) (fun h29 c30 fr31 => ?_)
            have c32 := (fr31 S (by omega)).trans e0
            have c33 := (fr31 (S + 1) (by omega)).trans e1
            have c34 := (fr31 (S + 2) (by omega)).trans e2
            refine e_goto (tgt := 115) X d_Sea_reachFrom_95 (by decide) ?_
            refine z_iload X d_Sea_reachFrom_115 rfl ?_
            refine e_istore_n X d_Sea_reachFrom_117 (by decide) ?_
            refine z_iinc X d_Sea_reachFrom_118 rfl (by decide) ?_
            refine e_goto (tgt := 28) X d_Sea_reachFrom_121 (by decide) ?_
            refine e_clear 5 ?_
            refine e_clear 6 ?_
            refine e_clear 7 ?_
            rw [show ((j - 1 : Nat) : Int) + (-1) = ((j - 1 : Nat) : Int) - 1 by omega]
            exact ih (j - 1) _ _ (by omega) (by omega) c30 (zup_hi hg1 hj1 hval) (fun e h9 => by rw [zup_ne (by omega)]; exact hg2 e (by omega)) (fun q q9 => (fr31 q q9).trans (hf q q9))
  have hb9 : ∀ e, E ≤ e → e ≤ E → zup f E ((P : Nat) : Int) e = rrow E w s ((P : Nat) : Int) u (fun m => f (E - m)) (E - e) := by
    intro e h8 h9
    have h7 : e = E := by omega
    rw [h7, zup_eq, Nat.sub_self]
    rfl
  exact loop _ E _ _ (Nat.lt_succ_self _) (Nat.le_refl _) c2 hb9 (fun e h9 => zup_ne (by omega)) (fun q q9 => fr3 q q9)
end
section
set_option maxRecDepth 100000 in
set_option maxHeartbeats 4000000 in
theorem c_Sea_takePattern {l : Launch} {G : lx_G} {N : Nat} {h : Nat → va_E} {S o c : Nat} {en : Int} {p : Nat → Int} (hS : Sea G h S en) (hN : S + 3 < N) (hO : Rw G h o 24 c p) (hoN : o + 1 < N) (hne : o + 1 < S ∨ S + 4 ≤ o) : CtI l G m_Sea_takePattern N [.ref (ad (g_b G) S), .ref (ad (g_b G) o)] h (fun z h' => (z = 1 ∧ pat c p = true ∧ ∃ w s f, SeC G h' S ((cnt (nsc p) c : Nat) : Int) en w s f ∧ pat_ar p c w s ∧ ∀ q, q ≠ S → q ≠ S + 1 → q ≠ S + 2 → h' q = h q) ∨ (z = 0 ∧ pat c p = false ∧ Sea G h' S en ∧ ∀ q, q ≠ S → q ≠ S + 1 → q ≠ S + 2 → h' q = h q)) := by
  obtain ⟨hen, E0, w0, z0, f0, hc0, hc1, hc2, hc3⟩ := hS
  have hoc := hO.le
  refine zI_of (by decide) rfl rfl ?_
  intro k X Q
  have X : Cx k G R_Sea b_Sea_takePattern 4 rm_Sea_takePattern := X
  have Q : Rt k G (some (.boolean)) N 0 0 (pI (fun z h' => (z = 1 ∧ pat c p = true ∧ ∃ w s f, SeC G h' S ((cnt (nsc p) c : Nat) : Int) en w s f ∧ pat_ar p c w s ∧ ∀ q, q ≠ S → q ≠ S + 1 → q ≠ S + 2 → h' q = h q) ∨ (z = 0 ∧ pat c p = false ∧ Sea G h' S en ∧ ∀ q, q ≠ S → q ≠ S + 1 → q ≠ S + 2 → h' q = h q))) := Q
  show Ev k G 4 N 0 0 h 0 [some (.ref (ad (g_b G) S)), some (.ref (ad (g_b G) o)), none, none] []
  refine e_aload_n X d_Sea_takePattern_0 rfl ?_
  refine z_iconst X d_Sea_takePattern_1 ?_
  refine z_put X d_Sea_takePattern_2 fl_Sea_22 hc0 (by omega) (Nat.le_of_ble_eq_true rfl) rfl rfl (fun h1 c2 fr3 => ?_)
  have c2 : h1 S = ob ci_Sea [.ref (ad (g_b G) (S + 1)), .ref (ad (g_b G) (S + 2)), .ref (ad (g_b G) (S + 3)), vI 0, vI (en)] := c2
  have c4 := (fr3 (S + 1) (by omega)).trans hc1
  have c5 := (fr3 (S + 2) (by omega)).trans hc2
  have c6 := (fr3 (S + 3) (by omega)).trans hc3
  refine z_iconst X d_Sea_takePattern_5 ?_
  refine e_istore_n X d_Sea_takePattern_6 (by decide) ?_
  have loop : ∀ (d9 : Nat) (i : Nat) (w : Nat → Int) (z : Nat → Int) (h2 : Nat → va_E), c - i < d9 → i ≤ c → SeC G h2 S ((cnt (nsc p) i : Nat) : Int) en w z f0 → patb p i = true → pat_ar p i w z → (∀ q, q ≠ S → q ≠ S + 1 → q ≠ S + 2 → h2 q = h q) → Ev k G 4 N 0 0 h2 7 [some (.ref (ad (g_b G) S)), some (.ref (ad (g_b G) o)), some (vI ((i : Nat) : Int)), none] [] := by
    intro d9
    induction d9 with
    | zero =>
      intro i w z h2 hm9
      exact absurd hm9 (Nat.not_lt_zero _)
    | succ d9 ih =>
      intro i w z h2 hm9 hi hS2 hok har hf
      obtain ⟨e0, e1, e2, e3⟩ := id hS2
      have hO2 : Rw G h2 o 24 c p := hO.fr (hf _ (by omega) (by omega) (by omega)) (hf _ (by omega) (by omega) (by omega))
      obtain ⟨ou, ho0, -⟩ := id hO2
      have hcl := cnt_le (B := nsc p) i
      refine z_iload_n X d_Sea_takePattern_7 rfl ?_
      refine e_aload_n X d_Sea_takePattern_8 rfl ?_
      refine z_callV_I X d_Sea_takePattern_9 cv_Sea_29 (c_Row_length hO2 (by omega)) ho0 (by omega) rfl rfl ⟨rfl, rfl⟩ rfl (fun z9 h7 hp8 => ?_)
      obtain ⟨rfl, hh10⟩ := hp8
      rw [hh10]
      refine z_icmp_ge (tgt := 101) X d_Sea_takePattern_12 (by decide) (by omega) (fun q1 => ?_) (fun q1 => ?_)
      · have hic : i = c := by omega
        subst hic
        refine e_aload_n X d_Sea_takePattern_101 rfl ?_
        refine e_get X d_Sea_takePattern_102 fl_Sea_22 e0 (by omega) rfl ?_
        refine z_if_le (tgt := 112) X d_Sea_takePattern_105 (by decide) (by omega) (fun q2 => ?_) (fun q2 => ?_)
        · refine z_iconst X d_Sea_takePattern_112 ?_
          exact z_ireturn X Q d_Sea_takePattern_113 rfl (Or.inr ⟨rfl, by have h9 := (pat_pos hok).mp (by omega); rw [h9]; rfl, ⟨hen, _, w, z, f0, hS2⟩, hf⟩)
        · refine z_iconst X d_Sea_takePattern_108 ?_
          refine e_goto (tgt := 113) X d_Sea_takePattern_109 (by decide) ?_
          exact z_ireturn X Q d_Sea_takePattern_113 rfl (Or.inl ⟨rfl, by unfold pat; rw [hok, decide_eq_true (by have h9 := pat_pos hok; omega)]; rfl, w, z, f0, hS2, har, hf⟩)
      · refine e_aload_n X d_Sea_takePattern_15 rfl ?_
        refine z_iload_n X d_Sea_takePattern_16 rfl ?_
        refine z_callV_I X d_Sea_takePattern_17 cv_Sea_35 (c_Row_at (a := ((i : Nat) : Int)) hO2 (by omega) (by omega)) ho0 (by omega) rfl rfl ⟨rfl, rfl⟩ rfl (fun z13 h11 hp12 => ?_)
        obtain ⟨rfl, hh14⟩ := hp12
        rw [hh14]
        refine z_top (show _ = (p i) from tat_n p i) ?_
        have hpi := hO2.ok.1 i (by omega)
        refine e_istore_n X d_Sea_takePattern_20 (by decide) ?_
        refine z_iload_n X d_Sea_takePattern_21 rfl ?_
        refine z_bipush X d_Sea_takePattern_22 (by decide) ?_
        refine z_icmp_eq (tgt := 60) X d_Sea_takePattern_24 (by decide) (by omega) (fun q3 => ?_) (fun q3 => ?_)
        · refine e_aload_n X d_Sea_takePattern_60 rfl ?_
          refine e_get X d_Sea_takePattern_61 fl_Sea_22 e0 (by omega) rfl ?_
          refine z_if_eq (tgt := 81) X d_Sea_takePattern_64 (by decide) (by omega) (fun q4 => ?_) (fun q4 => ?_)
          · refine z_iconst X d_Sea_takePattern_81 ?_
            exact z_ireturn X Q d_Sea_takePattern_82 rfl (Or.inr ⟨rfl, by unfold pat; rw [patb_mono (patb_bad q3 (by have h9 := pat_pos hok; omega)) c (by omega), Bool.and_false], ⟨hen, _, w, z, f0, hS2⟩, hf⟩)
          · have hi0 : 0 < i := by have h9 := pat_pos hok; omega
            refine e_aload_n X d_Sea_takePattern_67 rfl ?_
            refine e_get X d_Sea_takePattern_68 fl_Sea_15 e0 (by omega) rfl ?_
            refine e_aload_n X d_Sea_takePattern_71 rfl ?_
            refine e_get X d_Sea_takePattern_72 fl_Sea_22 e0 (by omega) rfl ?_
            refine z_iconst X d_Sea_takePattern_75 ?_
            refine z_isub X d_Sea_takePattern_76 ?_
            refine z_zald X d_Sea_takePattern_77 (j := ((cnt (nsc p) i) - 1)) e2 (by omega) (by omega) (by omega) ?_
            refine z_top (show _ = (b2z (decide (p (i - 1) = 42))) from pat_prev hok har hi0) ?_
            refine z_if_eq (tgt := 83) X d_Sea_takePattern_78 (by decide) (b2z_r _) (fun q5 => ?_) (fun q5 => ?_)
            · have hp1 : ¬ p (i - 1) = 42 := of_decide_eq_false (b2z_eq q5)
              refine e_aload_n X d_Sea_takePattern_83 rfl ?_
              refine e_get X d_Sea_takePattern_84 fl_Sea_15 e0 (by omega) rfl ?_
              refine e_aload_n X d_Sea_takePattern_87 rfl ?_
              refine e_get X d_Sea_takePattern_88 fl_Sea_22 e0 (by omega) rfl ?_
              refine z_iconst X d_Sea_takePattern_91 ?_
              refine z_isub X d_Sea_takePattern_92 ?_
              refine z_iconst X d_Sea_takePattern_93 ?_
              refine z_zast X d_Sea_takePattern_94 (j := ((cnt (nsc p) i) - 1)) e2 (by omega) (by omega) (by omega) rfl (fun h36 c37 fr38 => ?_)
              have c39 := (fr38 S (by omega)).trans e0
              have c40 := (fr38 (S + 1) (by omega)).trans e1
              have c41 := (fr38 (S + 3) (by omega)).trans e3
              have c42 := (fr38 o (by omega)).trans ho0
              refine z_iinc X d_Sea_takePattern_95 rfl (by decide) ?_
              refine e_goto (tgt := 7) X d_Sea_takePattern_98 (by decide) ?_
              refine e_clear 3 ?_
              exact ih (i + 1) _ _ _ (by omega) (by omega) ⟨(by rw [cnt_f (nsc_f q3)]; exact c39), c40, c37, c41⟩ (patb_star hok hi0 hp1) (pat_star har q3 hi0 hp1).1 (fun q q1 q2 q3 => (fr38 q q3).trans (hf q q1 q2 q3))
            · refine z_iconst X d_Sea_takePattern_81 ?_
              exact z_ireturn X Q d_Sea_takePattern_82 rfl (Or.inr ⟨rfl, by unfold pat; rw [patb_mono (patb_bad q3 (by exact Or.inr (of_decide_eq_true (b2z_ne q5)))) c (by omega), Bool.and_false], ⟨hen, _, w, z, f0, hS2⟩, hf⟩)
        · refine e_aload_n X d_Sea_takePattern_27 rfl ?_
          refine e_get X d_Sea_takePattern_28 fl_Sea_9 e0 (by omega) rfl ?_
          refine e_aload_n X d_Sea_takePattern_31 rfl ?_
          refine e_get X d_Sea_takePattern_32 fl_Sea_22 e0 (by omega) rfl ?_
          refine z_iload_n X d_Sea_takePattern_35 rfl ?_
          refine z_iast X d_Sea_takePattern_36 (j := (cnt (nsc p) i)) e1 (by omega) (by omega) (by omega) (fun h15 c16 fr17 => ?_)
          have c18 := (fr17 S (by omega)).trans e0
          have c19 := (fr17 (S + 2) (by omega)).trans e2
          have c20 := (fr17 (S + 3) (by omega)).trans e3
          have c21 := (fr17 o (by omega)).trans ho0
          refine e_aload_n X d_Sea_takePattern_37 rfl ?_
          refine e_get X d_Sea_takePattern_38 fl_Sea_15 c18 (by omega) rfl ?_
          refine e_aload_n X d_Sea_takePattern_41 rfl ?_
          refine e_get X d_Sea_takePattern_42 fl_Sea_22 c18 (by omega) rfl ?_
          refine z_iconst X d_Sea_takePattern_45 ?_
          refine z_zast X d_Sea_takePattern_46 (j := (cnt (nsc p) i)) c19 (by omega) (by omega) (by omega) rfl (fun h22 c23 fr24 => ?_)
          have c25 := (fr24 S (by omega)).trans c18
          have c26 := (fr24 (S + 1) (by omega)).trans c16
          have c27 := (fr24 (S + 3) (by omega)).trans c20
          have c28 := (fr24 o (by omega)).trans c21
          refine e_aload_n X d_Sea_takePattern_47 rfl ?_
          refine e_dup X d_Sea_takePattern_48 rfl ?_
          refine e_get X d_Sea_takePattern_49 fl_Sea_22 c25 (by omega) rfl ?_
          refine z_iconst X d_Sea_takePattern_52 ?_
          refine z_iadd X d_Sea_takePattern_53 ?_
          refine z_top (show _ = ((cnt (nsc p) i + 1 : Nat) : Int) by omega) ?_
          refine z_put X d_Sea_takePattern_54 fl_Sea_22 c25 (by omega) (Nat.le_of_ble_eq_true rfl) rfl rfl (fun h29 c30 fr31 => ?_)
          have c30 : h29 S = ob ci_Sea [.ref (ad (g_b G) (S + 1)), .ref (ad (g_b G) (S + 2)), .ref (ad (g_b G) (S + 3)), vI ((cnt (nsc p) i + 1 : Nat) : Int), vI (en)] := c30
          have c32 := (fr31 (S + 1) (by omega)).trans c26
          have c33 := (fr31 (S + 2) (by omega)).trans c23
          have c34 := (fr31 (S + 3) (by omega)).trans c27
          have c35 := (fr31 o (by omega)).trans c28
          refine e_goto (tgt := 95) X d_Sea_takePattern_57 (by decide) ?_
          refine z_iinc X d_Sea_takePattern_95 rfl (by decide) ?_
          refine e_goto (tgt := 7) X d_Sea_takePattern_98 (by decide) ?_
          refine e_clear 3 ?_
          exact ih (i + 1) _ _ _ (by omega) (by omega) ⟨(by rw [cnt_t (nsc_t q3)]; exact c30), c32, c33, c34⟩ (patb_one hok q3) (pat_one har q3) (fun q q1 q2 q3 => (fr31 q q1).trans ((fr24 q q3).trans ((fr17 q q2).trans (hf q q1 q2 q3))))
  exact loop _ 0 w0 z0 _ (Nat.lt_succ_self _) (Nat.zero_le _) ⟨c2, c4, c5, c6⟩ rfl (fun k9 h9 => absurd h9 (Nat.not_lt_zero _)) (fun q q1 q2 q3 => fr3 q q1)

theorem ffd_rg {E : Nat} {w : Nat → Int} {s : Nat → Bool} {n : Nat} {t : Nat → Int} {e0 : Int} (hn : n ≤ 160) (he : -1 ≤ e0 ∧ e0 ≤ 160) (d : Nat) : -1 ≤ (ffd E w s n t e0 d).2 ∧ (ffd E w s n t e0 d).2 ≤ 160 := by
  induction d with
  | zero => exact he
  | succ d ih =>
    unfold ffd
    split
    · exact ih
    · exact rmt_rg hn d E (Nat.le_refl _)
set_option maxRecDepth 100000 in
set_option maxHeartbeats 4000000 in
theorem c_Sea_firstMatch {l : Launch} {G : lx_G} {N : Nat} {h : Nat → va_E} {S e E n a : Nat} {en : Int} {w z f t : Nat → Int} {s : Nat → Bool} (hS9 : SeC G h S (E : Int) en w z f) (hN : S + 3 < N) (hE : E ≤ 24) (hw : ∀ e, e < E → 0 ≤ w e ∧ w e < 65536) (hz : ∀ e, e < E → z e = b2z (s e)) (hen : -1 ≤ en ∧ en ≤ 160) (hT : Tx G h e n t) (heN : e + 1 < N) (hne : e + 1 < S ∨ S + 4 ≤ e) (ha : a ≤ n) : CtI l G m_Sea_firstMatch N [.ref (ad (g_b G) S), .ref (ad (g_b G) e), vI ((a : Nat) : Int)] h (fun z h' => z = (ffd E w s n t en (n - a + 1)).1 ∧ Sea G h' S (ffd E w s n t en (n - a + 1)).2 ∧ ∀ q, (q < S ∨ S + 4 ≤ q) → h' q = h q) := by
  obtain ⟨hc0, hc1, hc2, hc3⟩ := id hS9
  have ht := hT.ok
  have hle := hT.le
  refine zI_of (by decide) rfl rfl ?_
  intro k X Q
  have X : Cx k G R_Sea b_Sea_firstMatch 5 rm_Sea_firstMatch := X
  have Q : Rt k G (some (.int)) N 0 0 (pI (fun z h' => z = (ffd E w s n t en (n - a + 1)).1 ∧ Sea G h' S (ffd E w s n t en (n - a + 1)).2 ∧ ∀ q, (q < S ∨ S + 4 ≤ q) → h' q = h q)) := Q
  show Ev k G 5 N 0 0 h 0 [some (.ref (ad (g_b G) S)), some (.ref (ad (g_b G) e)), some (vI ((a : Nat) : Int)), none, none] []
  refine z_iconst X d_Sea_firstMatch_0 ?_
  refine e_istore_n X d_Sea_firstMatch_1 (by decide) ?_
  refine e_aload_n X d_Sea_firstMatch_2 rfl ?_
  refine z_Tlen X d_Sea_firstMatch_3 cf_Sea_39_Row cf_Sea_39_Gap hT (by omega) rfl ?_
  refine e_istore X d_Sea_firstMatch_8 (by decide) ?_
  have loop : ∀ (d9 : Nat) (d : Nat) (g : Nat → Int) (h2 : Nat → va_E), n + 2 - d < d9 → d ≤ n - a + 1 → SeC G h2 S (E : Int) (ffd E w s n t en d).2 w z g → (0 < d → ∀ e, e ≤ E → g e = rmt E w s n t (d - 1) (E - e)) → (∀ q, (q < S ∨ S + 4 ≤ q) → h2 q = h q) → Ev k G 5 N 0 0 h2 10 [some (.ref (ad (g_b G) S)), some (.ref (ad (g_b G) e)), some (vI ((a : Nat) : Int)), some (vI (ffd E w s n t en d).1), some (vI (((n : Nat) : Int) - ((d : Nat) : Int)))] [] := by
    intro d9
    induction d9 with
    | zero =>
      intro d g h2 hm9
      exact absurd hm9 (Nat.not_lt_zero _)
    | succ d9 ih =>
      intro d g h2 hm9 hd hS2 hg hf
      obtain ⟨e0, e1, e2, e3⟩ := id hS2
      have hT2 : Tx G h2 e n t := hT.fr (hf _ (by omega)) (hf _ (by omega))
      refine z_iload X d_Sea_firstMatch_10 rfl ?_
      refine z_iload_n X d_Sea_firstMatch_12 rfl ?_
      refine z_icmp_lt (tgt := 59) X d_Sea_firstMatch_13 (by decide) (by omega) (fun q1 => ?_) (fun q1 => ?_)
      · have hda : d = n - a + 1 := by omega
        subst hda
        refine z_iload_n X d_Sea_firstMatch_59 rfl ?_
        exact z_ireturn X Q d_Sea_firstMatch_60 rfl ⟨rfl, ⟨ffd_rg hle hen _, _, w, z, g, hS2⟩, hf⟩
      · have hdn : d ≤ n := by omega
        rw [show ((n : Nat) : Int) - ((d : Nat) : Int) = ((n - d : Nat) : Int) by omega]
        refine e_aload_n X d_Sea_firstMatch_16 rfl ?_
        refine z_iload X d_Sea_firstMatch_17 rfl ?_
        refine e_aload_n X d_Sea_firstMatch_19 rfl ?_
        refine z_iload X d_Sea_firstMatch_20 rfl ?_
        refine z_Tat X d_Sea_firstMatch_22 cf_Sea_42_Row cf_Sea_42_Gap hT2 (by omega) (by omega) rfl ?_
        refine z_top (show _ = (t (n - d)) from tat_n t (n - d)) ?_
        have htr := tx_ge ht (n - d)
        have hprev : ∀ e, e < E → stn (w e) (t (n - d)) = true → ∀ m, m ≤ E → -1 ≤ (fun m => g (E - m)) m ∧ (fun m => g (E - m)) m ≤ 160 := by
          intro e he hst m hm
          have hd0 : 0 < d := by
            rcases Nat.eq_zero_or_pos d with h9 | h9
            · subst h9
              rw [Nat.sub_zero, ht.2 n (Nat.le_refl _), stn_none (hw e he).1] at hst
              cases hst
            · exact h9
          show -1 ≤ g (E - m) ∧ g (E - m) ≤ 160
          rw [hg hd0 (E - m) (by omega)]
          exact rmt_rg hle (d - 1) _ (by omega)
        refine z_callV_V X d_Sea_firstMatch_27 cv_Sea_43 (c_Sea_reachFrom hS2 hN hE hw hz (by omega) (by omega) hprev) e0 (by omega) rfl rfl ⟨rfl, rfl⟩ rfl (fun h1 hp2 => ?_)
        obtain ⟨g2, hr3, hrv, hrf⟩ := hp2
        have c4 := (hrf S (by omega)).trans e0
        have c5 := (hrf (S + 1) (by omega)).trans e1
        have c6 := (hrf (S + 2) (by omega)).trans e2
        have hrow : ∀ e, e ≤ E → g2 e = rmt E w s n t d (E - e) := by
          intro e he
          rw [hrv e he]
          cases d with
          | zero =>
            exact rrow_congr (fun _ _ => rfl) (fun _ _ => rfl) _ (by omega) (fun e9 he9 hst => by rw [Nat.sub_zero, ht.2 n (Nat.le_refl _), stn_none (hw e9 he9).1] at hst; cases hst)
          | succ d =>
            exact rrow_congr (fun _ _ => rfl) (fun _ _ => rfl) _ (by omega) (fun e9 he9 hst m hm => by rw [hg (Nat.succ_pos _) (E - m) (by omega), show E - (E - m) = m by omega]; rfl)
        refine e_aload_n X d_Sea_firstMatch_30 rfl ?_
        refine e_get X d_Sea_firstMatch_31 fl_Sea_19 c4 (by omega) rfl ?_
        refine z_iconst X d_Sea_firstMatch_34 ?_
        refine z_iald X d_Sea_firstMatch_35 (j := 0) hr3 (by omega) (by omega) (by omega) ?_
        refine z_top (show _ = (rmt E w s n t d E) from (by rw [hrow 0 (Nat.zero_le _)]; rfl)) ?_
        have hrr := rmt_rg (w := w) (s := s) (t := t) (E := E) hle d E (Nat.le_refl _)
        refine z_iconst X d_Sea_firstMatch_36 ?_
        refine z_icmp_eq (tgt := 53) X d_Sea_firstMatch_37 (by decide) (by omega) (fun q2 => ?_) (fun q2 => ?_)
        · refine z_iinc X d_Sea_firstMatch_53 rfl (by decide) ?_
          refine e_goto (tgt := 10) X d_Sea_firstMatch_56 (by decide) ?_
          have hff : ffd E w s n t en (d + 1) = ffd E w s n t en d := by rw [ffd, if_pos q2]
          rw [show ((n - d : Nat) : Int) + (-1) = ((n : Nat) : Int) - ((d + 1 : Nat) : Int) by omega]
          rw [← hff]
          exact ih (d + 1) g2 _ (by omega) (by omega) ⟨(by rw [hff]; exact c4), c5, c6, hr3⟩ (fun _ => hrow) (fun q q9 => (hrf q (by omega)).trans (hf q q9))
        · refine z_iload X d_Sea_firstMatch_40 rfl ?_
          refine e_istore_n X d_Sea_firstMatch_42 (by decide) ?_
          refine e_aload_n X d_Sea_firstMatch_43 rfl ?_
          refine e_aload_n X d_Sea_firstMatch_44 rfl ?_
          refine e_get X d_Sea_firstMatch_45 fl_Sea_19 c4 (by omega) rfl ?_
          refine z_iconst X d_Sea_firstMatch_48 ?_
          refine z_iald X d_Sea_firstMatch_49 (j := 0) hr3 (by omega) (by omega) (by omega) ?_
          refine z_top (show _ = (rmt E w s n t d E) from (by rw [hrow 0 (Nat.zero_le _)]; rfl)) ?_
          refine z_put X d_Sea_firstMatch_50 fl_Sea_26 c4 (by omega) (Nat.le_of_ble_eq_true rfl) rfl rfl (fun h7 c8 fr9 => ?_)
          have c8 : h7 S = ob ci_Sea [.ref (ad (g_b G) (S + 1)), .ref (ad (g_b G) (S + 2)), .ref (ad (g_b G) (S + 3)), vI ((E : Nat) : Int), vI (rmt E w s n t d E)] := c8
          have c10 := (fr9 (S + 1) (by omega)).trans c5
          have c11 := (fr9 (S + 2) (by omega)).trans c6
          have c12 := (fr9 (S + 3) (by omega)).trans hr3
          refine z_iinc X d_Sea_firstMatch_53 rfl (by decide) ?_
          refine e_goto (tgt := 10) X d_Sea_firstMatch_56 (by decide) ?_
          have hff : ffd E w s n t en (d + 1) = (((n - d : Nat) : Int), rmt E w s n t d E) := by rw [ffd, if_neg q2]
          rw [show ((n - d : Nat) : Int) + (-1) = ((n : Nat) : Int) - ((d + 1 : Nat) : Int) by omega]
          rw [show ((n - d : Nat) : Int) = (ffd E w s n t en (d + 1)).1 by rw [hff]]
          exact ih (d + 1) g2 _ (by omega) (by omega) ⟨(by rw [hff]; exact c8), c10, c11, c12⟩ (fun _ => hrow) (fun q q9 => (fr9 q (by omega)).trans ((hrf q (by omega)).trans (hf q q9)))
  exact loop _ 0 f _ (Nat.lt_succ_self _) (by omega) hS9 (fun h9 => absurd h9 (Nat.lt_irrefl _)) (fun q q9 => rfl)
end
section
/-! VersionedText: its cell 0; the text 1, the clip 3, versions 5, kept 6, the snapshots 7 .. 14, History 15, Items 35, Search 38: 42 cells -/
def vix (j : Nat) : Nat := if j = 0 then 1 else 5 + 2 * j
def vfun (G : lx_G) : Nat → Option Nat := fun j => some (ad (g_b G) (vix j))
def VT (G : lx_G) (h : Nat → va_E) (n : Nat) (t : Nat → Int) (now last : Nat) (T : Nat → tx_T) (c : Nat) (p : Nat → Int) (kp : Nat → Bool) (V : Nat → tx_T) (g o en : Int) : Prop :=
  h 0 = ob ci_VT [.ref (ad (g_b G) 1), .ref (ad (g_b G) 3), .ref (ad (g_b G) 5), .ref (ad (g_b G) 6), .ref (ad (g_b G) 15), .ref (ad (g_b G) 35), .ref (ad (g_b G) 38), vI g, vI o] ∧ Tx G h 1 n t ∧ Rw G h 3 24 c p ∧ h 5 = cT G 5 (vfun G) ∧ (∃ ku : Nat → Int, h 6 = rZ G 5 ku ∧ ku 0 = 1 ∧ ∀ j, 1 ≤ j → j ≤ 4 → ku j = b2z (kp j)) ∧ (∀ j, 1 ≤ j → j ≤ 4 → kp j = true → Rw G h (5 + 2 * j) 160 (V j).1 (V j).2) ∧ (∀ j, 1 ≤ j → j ≤ 4 → ∃ n t, Rw G h (5 + 2 * j) 160 n t) ∧ Hist G h 15 now last T ∧ Its G h 35 ∧ Sea G h 38 en ∧ (g = 0 ∨ g = 1 ∨ g = 3) ∧ (-1 ≤ o ∧ o ≤ 161)
theorem VT.fr {G : lx_G} {h h' : Nat → va_E} {n : Nat} {t : Nat → Int} {now last : Nat} {T : Nat → tx_T} {c : Nat} {p : Nat → Int} {kp : Nat → Bool} {V : Nat → tx_T} {g o en : Int} (hV : VT G h n t now last T c p kp V g o en)  (hf : ∀ q, q < 42 → h' q = h q) : VT G h' n t now last T c p kp V g o en := by
  obtain ⟨h0, h1, h2, h3, h4, h5, h6, h7, h8, h9, h10, h11⟩ := hV
  exact ⟨(hf 0 (by omega)).trans h0, h1.fr (hf _ (by omega)) (hf _ (by omega)), h2.fr (hf _ (by omega)) (hf _ (by omega)), (hf 5 (by omega)).trans h3, (by obtain ⟨ku, k1, k2⟩ := h4; exact ⟨ku, (hf 6 (by omega)).trans k1, k2⟩), fun j j1 j2 j3 => (h5 j j1 j2 j3).fr (hf _ (by omega)) (hf _ (by omega)), fun j j1 j2 => (by obtain ⟨n9, t9, h9⟩ := h6 j j1 j2; exact ⟨n9, t9, h9.fr (hf _ (by omega)) (hf _ (by omega))⟩), h7.fr (fun q q1 q2 => hf q (by omega)), h8.fr (fun q q1 q2 => hf q (by omega)), h9.fr (fun q q1 q2 => hf q (by omega)), h10, h11⟩
theorem VT.items {G : lx_G} {h h' : Nat → va_E} {n : Nat} {t : Nat → Int} {now last : Nat} {T : Nat → tx_T} {c : Nat} {p : Nat → Int} {kp : Nat → Bool} {V : Nat → tx_T} {g o en : Int} (hV : VT G h n t now last T c p kp V g o en) (hN : Its G h' 35) (hf : ∀ q, (q < 35 ∨ 38 ≤ q) → h' q = h q) : VT G h' n t now last T c p kp V g o en := by
  obtain ⟨h0, h1, h2, h3, h4, h5, h6, h7, h8, h9, h10, h11⟩ := hV
  exact ⟨(hf 0 (by omega)).trans h0, h1.fr (hf _ (by omega)) (hf _ (by omega)), h2.fr (hf _ (by omega)) (hf _ (by omega)), (hf 5 (by omega)).trans h3, (by obtain ⟨ku, k1, k2⟩ := h4; exact ⟨ku, (hf 6 (by omega)).trans k1, k2⟩), fun j j1 j2 j3 => (h5 j j1 j2 j3).fr (hf _ (by omega)) (hf _ (by omega)), fun j j1 j2 => (by obtain ⟨n9, t9, h9⟩ := h6 j j1 j2; exact ⟨n9, t9, h9.fr (hf _ (by omega)) (hf _ (by omega))⟩), h7.fr (fun q q1 q2 => hf q (by omega)), hN, h9.fr (fun q q1 q2 => hf q (by omega)), h10, h11⟩
theorem VT.sea {G : lx_G} {h h' : Nat → va_E} {n : Nat} {t : Nat → Int} {now last : Nat} {T : Nat → tx_T} {c : Nat} {p : Nat → Int} {kp : Nat → Bool} {V : Nat → tx_T} {g o en : Int} (hV : VT G h n t now last T c p kp V g o en) {en' : Int} (hN : Sea G h' 38 en') (hf : ∀ q, (q < 38 ∨ 42 ≤ q) → h' q = h q) : VT G h' n t now last T c p kp V g o en' := by
  obtain ⟨h0, h1, h2, h3, h4, h5, h6, h7, h8, h9, h10, h11⟩ := hV
  exact ⟨(hf 0 (by omega)).trans h0, h1.fr (hf _ (by omega)) (hf _ (by omega)), h2.fr (hf _ (by omega)) (hf _ (by omega)), (hf 5 (by omega)).trans h3, (by obtain ⟨ku, k1, k2⟩ := h4; exact ⟨ku, (hf 6 (by omega)).trans k1, k2⟩), fun j j1 j2 j3 => (h5 j j1 j2 j3).fr (hf _ (by omega)) (hf _ (by omega)), fun j j1 j2 => (by obtain ⟨n9, t9, h9⟩ := h6 j j1 j2; exact ⟨n9, t9, h9.fr (hf _ (by omega)) (hf _ (by omega))⟩), h7.fr (fun q q1 q2 => hf q (by omega)), h8.fr (fun q q1 q2 => hf q (by omega)), hN, h10, h11⟩
theorem VT.clip {G : lx_G} {h h' : Nat → va_E} {n : Nat} {t : Nat → Int} {now last : Nat} {T : Nat → tx_T} {c : Nat} {p : Nat → Int} {kp : Nat → Bool} {V : Nat → tx_T} {g o en : Int} (hV : VT G h n t now last T c p kp V g o en) {c' : Nat} {p' : Nat → Int} (hN : Rw G h' 3 24 c' p') (hf : ∀ q, (q < 3 ∨ 5 ≤ q) → h' q = h q) : VT G h' n t now last T c' p' kp V g o en := by
  obtain ⟨h0, h1, h2, h3, h4, h5, h6, h7, h8, h9, h10, h11⟩ := hV
  exact ⟨(hf 0 (by omega)).trans h0, h1.fr (hf _ (by omega)) (hf _ (by omega)), hN, (hf 5 (by omega)).trans h3, (by obtain ⟨ku, k1, k2⟩ := h4; exact ⟨ku, (hf 6 (by omega)).trans k1, k2⟩), fun j j1 j2 j3 => (h5 j j1 j2 j3).fr (hf _ (by omega)) (hf _ (by omega)), fun j j1 j2 => (by obtain ⟨n9, t9, h9⟩ := h6 j j1 j2; exact ⟨n9, t9, h9.fr (hf _ (by omega)) (hf _ (by omega))⟩), h7.fr (fun q q1 q2 => hf q (by omega)), h8.fr (fun q q1 q2 => hf q (by omega)), h9.fr (fun q q1 q2 => hf q (by omega)), h10, h11⟩
theorem VT.text {G : lx_G} {h h' : Nat → va_E} {n : Nat} {t : Nat → Int} {now last : Nat} {T : Nat → tx_T} {c : Nat} {p : Nat → Int} {kp : Nat → Bool} {V : Nat → tx_T} {g o en : Int} (hV : VT G h n t now last T c p kp V g o en) {n' : Nat} {t' : Nat → Int} (hN : Tx G h' 1 n' t') (hf : ∀ q, (q < 1 ∨ 3 ≤ q) → h' q = h q) : VT G h' n' t' now last T c p kp V g o en := by
  obtain ⟨h0, h1, h2, h3, h4, h5, h6, h7, h8, h9, h10, h11⟩ := hV
  exact ⟨(hf 0 (by omega)).trans h0, hN, h2.fr (hf _ (by omega)) (hf _ (by omega)), (hf 5 (by omega)).trans h3, (by obtain ⟨ku, k1, k2⟩ := h4; exact ⟨ku, (hf 6 (by omega)).trans k1, k2⟩), fun j j1 j2 j3 => (h5 j j1 j2 j3).fr (hf _ (by omega)) (hf _ (by omega)), fun j j1 j2 => (by obtain ⟨n9, t9, h9⟩ := h6 j j1 j2; exact ⟨n9, t9, h9.fr (hf _ (by omega)) (hf _ (by omega))⟩), h7.fr (fun q q1 q2 => hf q (by omega)), h8.fr (fun q q1 q2 => hf q (by omega)), h9.fr (fun q q1 q2 => hf q (by omega)), h10, h11⟩
theorem VT.hist {G : lx_G} {h h' : Nat → va_E} {n : Nat} {t : Nat → Int} {now last : Nat} {T : Nat → tx_T} {c : Nat} {p : Nat → Int} {kp : Nat → Bool} {V : Nat → tx_T} {g o en : Int} (hV : VT G h n t now last T c p kp V g o en) {now' last' : Nat} {T' : Nat → tx_T} (hN : Hist G h' 15 now' last' T') (hf : ∀ q, (q < 15 ∨ 35 ≤ q) → h' q = h q) : VT G h' n t now' last' T' c p kp V g o en := by
  obtain ⟨h0, h1, h2, h3, h4, h5, h6, h7, h8, h9, h10, h11⟩ := hV
  exact ⟨(hf 0 (by omega)).trans h0, h1.fr (hf _ (by omega)) (hf _ (by omega)), h2.fr (hf _ (by omega)) (hf _ (by omega)), (hf 5 (by omega)).trans h3, (by obtain ⟨ku, k1, k2⟩ := h4; exact ⟨ku, (hf 6 (by omega)).trans k1, k2⟩), fun j j1 j2 j3 => (h5 j j1 j2 j3).fr (hf _ (by omega)) (hf _ (by omega)), fun j j1 j2 => (by obtain ⟨n9, t9, h9⟩ := h6 j j1 j2; exact ⟨n9, t9, h9.fr (hf _ (by omega)) (hf _ (by omega))⟩), hN, h8.fr (fun q q1 q2 => hf q (by omega)), h9.fr (fun q q1 q2 => hf q (by omega)), h10, h11⟩
theorem VT.both {G : lx_G} {h h' : Nat → va_E} {n : Nat} {t : Nat → Int} {now last : Nat} {T : Nat → tx_T} {c : Nat} {p : Nat → Int} {kp : Nat → Bool} {V : Nat → tx_T} {g o en : Int} (hV : VT G h n t now last T c p kp V g o en) {n' : Nat} {t' : Nat → Int} {now' last' : Nat} {T' : Nat → tx_T} (hN1 : Tx G h' 1 n' t') (hN : Hist G h' 15 now' last' T') (hf : ∀ q, ((q < 1 ∨ 3 ≤ q) ∧ (q < 15 ∨ 35 ≤ q)) → h' q = h q) : VT G h' n' t' now' last' T' c p kp V g o en := by
  obtain ⟨h0, h1, h2, h3, h4, h5, h6, h7, h8, h9, h10, h11⟩ := hV
  exact ⟨(hf 0 (by omega)).trans h0, hN1, h2.fr (hf _ (by omega)) (hf _ (by omega)), (hf 5 (by omega)).trans h3, (by obtain ⟨ku, k1, k2⟩ := h4; exact ⟨ku, (hf 6 (by omega)).trans k1, k2⟩), fun j j1 j2 j3 => (h5 j j1 j2 j3).fr (hf _ (by omega)) (hf _ (by omega)), fun j j1 j2 => (by obtain ⟨n9, t9, h9⟩ := h6 j j1 j2; exact ⟨n9, t9, h9.fr (hf _ (by omega)) (hf _ (by omega))⟩), hN, h8.fr (fun q q1 q2 => hf q (by omega)), h9.fr (fun q q1 q2 => hf q (by omega)), h10, h11⟩
theorem VT.obj {G : lx_G} {h h' : Nat → va_E} {n : Nat} {t : Nat → Int} {now last : Nat} {T : Nat → tx_T} {c : Nat} {p : Nat → Int} {kp : Nat → Bool} {V : Nat → tx_T} {g o en : Int} (hV : VT G h n t now last T c p kp V g o en) {g' o' : Int} (hN : h' 0 = ob ci_VT [.ref (ad (g_b G) 1), .ref (ad (g_b G) 3), .ref (ad (g_b G) 5), .ref (ad (g_b G) 6), .ref (ad (g_b G) 15), .ref (ad (g_b G) 35), .ref (ad (g_b G) 38), vI g', vI o']) (hg : g' = 0 ∨ g' = 1 ∨ g' = 3) (ho : -1 ≤ o' ∧ o' ≤ 161) (hf : ∀ q, ¬ q = 0 → h' q = h q) : VT G h' n t now last T c p kp V g' o' en := by
  obtain ⟨h0, h1, h2, h3, h4, h5, h6, h7, h8, h9, h10, h11⟩ := hV
  exact ⟨hN, h1.fr (hf _ (by omega)) (hf _ (by omega)), h2.fr (hf _ (by omega)) (hf _ (by omega)), (hf 5 (by omega)).trans h3, (by obtain ⟨ku, k1, k2⟩ := h4; exact ⟨ku, (hf 6 (by omega)).trans k1, k2⟩), fun j j1 j2 j3 => (h5 j j1 j2 j3).fr (hf _ (by omega)) (hf _ (by omega)), fun j j1 j2 => (by obtain ⟨n9, t9, h9⟩ := h6 j j1 j2; exact ⟨n9, t9, h9.fr (hf _ (by omega)) (hf _ (by omega))⟩), h7.fr (fun q q1 q2 => hf q (by omega)), h8.fr (fun q q1 q2 => hf q (by omega)), h9.fr (fun q q1 q2 => hf q (by omega)), hg, ho⟩
theorem VT.rel {G : lx_G} {h h' : Nat → va_E} {n : Nat} {t : Nat → Int} {now last : Nat} {T : Nat → tx_T} {c : Nat} {p : Nat → Int} {kp : Nat → Bool} {V : Nat → tx_T} {g o en : Int} (hV : VT G h n t now last T c p kp V g o en) {v : Nat} (hv : 1 ≤ v ∧ v ≤ 4) {ku : Nat → Int} (k2 : ku 0 = 1) (k3 : ∀ j, 1 ≤ j → j ≤ 4 → ku j = b2z (kp j)) (k1 : h' 6 = rZ G 5 (zup ku v 0)) (hf : ∀ q, q ≠ 6 → h' q = h q) : VT G h' n t now last T c p (fun j => if j = v then false else kp j) V g o en := by
  obtain ⟨h0, h1, h2, h3, -, h5, h6, h7, h8, h9, h10, h11⟩ := hV
  refine ⟨(hf 0 (by omega)).trans h0, h1.fr (hf _ (by omega)) (hf _ (by omega)), h2.fr (hf _ (by omega)) (hf _ (by omega)), (hf 5 (by omega)).trans h3, ⟨_, k1, ?_, fun j j1 j2 => ?_⟩, fun j j1 j2 j3 => ?_, fun j j1 j2 => ?_, h7.fr (fun q q1 q2 => hf q (by omega)), h8.fr (fun q q1 q2 => hf q (by omega)), h9.fr (fun q q1 q2 => hf q (by omega)), h10, h11⟩
  · rw [zup_ne (by omega)]; exact k2
  · dsimp only
    by_cases e : j = v
    · rw [e, zup_eq, if_pos rfl]; rfl
    · rw [zup_ne e, if_neg e]; exact k3 j j1 j2
  · dsimp only at j3
    by_cases e : j = v
    · rw [if_pos e] at j3; cases j3
    · rw [if_neg e] at j3
      exact (h5 j j1 j2 j3).fr (hf _ (by omega)) (hf _ (by omega))
  · obtain ⟨n9, t9, e9⟩ := h6 j j1 j2
    exact ⟨n9, t9, e9.fr (hf _ (by omega)) (hf _ (by omega))⟩
theorem VT.snap {G : lx_G} {h h' : Nat → va_E} {n : Nat} {t : Nat → Int} {now last : Nat} {T : Nat → tx_T} {c : Nat} {p : Nat → Int} {kp : Nat → Bool} {V : Nat → tx_T} {g o en : Int} (hV : VT G h n t now last T c p kp V g o en) {v : Nat} (hv : 1 ≤ v ∧ v ≤ 4) {ku : Nat → Int} (k2 : ku 0 = 1) (k3 : ∀ j, 1 ≤ j → j ≤ 4 → ku j = b2z (kp j)) (k1 : h' 6 = rZ G 5 (zup ku v 1)) (hR : Rw G h' (5 + 2 * v) 160 n t) (hf : ∀ q, q ≠ 6 → q ≠ 5 + 2 * v → q ≠ 5 + 2 * v + 1 → h' q = h q) : VT G h' n t now last T c p (fun j => if j = v then true else kp j) (fun j => if j = v then (n, t) else V j) g o en := by
  obtain ⟨h0, h1, h2, h3, -, h5, h6, h7, h8, h9, h10, h11⟩ := hV
  refine ⟨(hf 0 (by omega) (by omega) (by omega)).trans h0, h1.fr (hf _ (by omega) (by omega) (by omega)) (hf _ (by omega) (by omega) (by omega)), h2.fr (hf _ (by omega) (by omega) (by omega)) (hf _ (by omega) (by omega) (by omega)), (hf 5 (by omega) (by omega) (by omega)).trans h3, ⟨_, k1, ?_, fun j j1 j2 => ?_⟩, fun j j1 j2 j3 => ?_, fun j j1 j2 => ?_, h7.fr (fun q q1 q2 => hf q (by omega) (by omega) (by omega)), h8.fr (fun q q1 q2 => hf q (by omega) (by omega) (by omega)), h9.fr (fun q q1 q2 => hf q (by omega) (by omega) (by omega)), h10, h11⟩
  · rw [zup_ne (by omega)]; exact k2
  · dsimp only
    by_cases e : j = v
    · rw [e, zup_eq, if_pos rfl]; rfl
    · rw [zup_ne e, if_neg e]; exact k3 j j1 j2
  · dsimp only at j3 ⊢
    by_cases e : j = v
    · rw [if_pos e, e]; exact hR
    · rw [if_neg e] at j3 ⊢
      exact (h5 j j1 j2 j3).fr (hf _ (by omega) (by omega) (by omega)) (hf _ (by omega) (by omega) (by omega))
  · by_cases e : j = v
    · rw [e]; exact ⟨_, _, hR⟩
    · obtain ⟨n9, t9, e9⟩ := h6 j j1 j2
      exact ⟨n9, t9, e9.fr (hf _ (by omega) (by omega) (by omega)) (hf _ (by omega) (by omega) (by omega))⟩
/-- versions -/
def isv (kp : Nat → Bool) (v : Int) : Bool := decide (v = 0) || (decide (1 ≤ v ∧ v ≤ 4) && kp v.toNat)
def vtx (n : Nat) (t : Nat → Int) (V : Nat → tx_T) (j : Nat) : tx_T := if j = 0 then (n, t) else V j
theorem VT.ver {G : lx_G} {h : Nat → va_E} {n : Nat} {t : Nat → Int} {now last : Nat} {T : Nat → tx_T} {c : Nat} {p : Nat → Int} {kp : Nat → Bool} {V : Nat → tx_T} {g o en : Int} (hV : VT G h n t now last T c p kp V g o en) {v : Int} (hv : isv kp v = true) : ∃ j : Nat, v = (j : Int) ∧ j ≤ 4 ∧ (vix j = 1 ∨ (7 ≤ vix j ∧ vix j + 1 ≤ 14)) ∧ Tx G h (vix j) (vtx n t V j).1 (vtx n t V j).2 := by
  simp only [isv, Bool.or_eq_true, Bool.and_eq_true, decide_eq_true_eq] at hv
  rcases hv with hv | ⟨⟨h1, h2⟩, h3⟩
  · refine ⟨0, by omega, by omega, Or.inl rfl, ?_⟩
    exact hV.2.1
  · obtain ⟨j, rfl⟩ : ∃ j : Nat, v = (j : Int) := ⟨v.toNat, by omega⟩
    have e1 : vix j = 5 + 2 * j := if_neg (by omega)
    have e2 : vtx n t V j = V j := if_neg (by omega)
    refine ⟨j, rfl, by omega, Or.inr (by omega), ?_⟩
    rw [e1, e2]
    exact Or.inl (hV.2.2.2.2.2.1 j (by omega) (by omega) h3)
end
section
set_option maxRecDepth 100000 in
set_option maxHeartbeats 4000000 in
theorem c_VT_isMetric {l : Launch} {G : lx_G} {N : Nat} {h : Nat → va_E} {a : Int} (hr_a : -2147483648 ≤ a ∧ a < 2147483648) : CtI l G m_VT_isMetric N [vI (a)] h (fun z h' => z = b2z (decide (0 ≤ a) && decide (a ≤ 3)) ∧ h' = h) := by
  refine zI_of (by decide) rfl rfl ?_
  intro k X Q
  have X : Cx k G R_VT b_VT_isMetric 1 rm_VT_isMetric := X
  have Q : Rt k G (some (.boolean)) N 0 0 (pI (fun z h' => z = b2z (decide (0 ≤ a) && decide (a ≤ 3)) ∧ h' = h)) := Q
  show Ev k G 1 N 0 0 h 0 [some (vI (a))] []
  refine z_iload_n X d_VT_isMetric_0 rfl ?_
  refine z_if_lt (tgt := 13) X d_VT_isMetric_1 (by decide) (by omega) (fun q1 => ?_) (fun q1 => ?_)
  · have g2 : decide (0 ≤ a) = false := decide_eq_false (by omega)
    refine z_iconst X d_VT_isMetric_13 ?_
    exact z_ireturn X Q d_VT_isMetric_14 rfl ⟨by simp [b2z, g2], rfl⟩
  · have g3 : decide (0 ≤ a) = true := decide_eq_true (by omega)
    refine z_iload_n X d_VT_isMetric_4 rfl ?_
    refine z_iconst X d_VT_isMetric_5 ?_
    refine z_icmp_gt (tgt := 13) X d_VT_isMetric_6 (by decide) (by omega) (fun q4 => ?_) (fun q4 => ?_)
    · have g5 : decide (a ≤ 3) = false := decide_eq_false (by omega)
      refine z_iconst X d_VT_isMetric_13 ?_
      exact z_ireturn X Q d_VT_isMetric_14 rfl ⟨by simp [b2z, g3, g5], rfl⟩
    · have g6 : decide (a ≤ 3) = true := decide_eq_true (by omega)
      refine z_iconst X d_VT_isMetric_9 ?_
      refine e_goto (tgt := 14) X d_VT_isMetric_10 (by decide) ?_
      exact z_ireturn X Q d_VT_isMetric_14 rfl ⟨by simp [b2z, g3, g6], rfl⟩

set_option maxRecDepth 100000 in
set_option maxHeartbeats 4000000 in
theorem c_VT_isPlace {l : Launch} {G : lx_G} {N : Nat} {h : Nat → va_E} {e n : Nat} {t : Nat → Int} {a : Int} (hT : Tx G h e n t) (heN : e + 1 < N) (hr_a : -2147483648 ≤ a ∧ a < 2147483648) : CtI l G m_VT_isPlace N [.ref (ad (g_b G) e), vI (a)] h (fun z h' => z = b2z (decide (0 ≤ a) && decide (a ≤ ((n : Nat) : Int))) ∧ h' = h) := by
  have hle := hT.le
  refine zI_of (by decide) rfl rfl ?_
  intro k X Q
  have X : Cx k G R_VT b_VT_isPlace 2 rm_VT_isPlace := X
  have Q : Rt k G (some (.boolean)) N 0 0 (pI (fun z h' => z = b2z (decide (0 ≤ a) && decide (a ≤ ((n : Nat) : Int))) ∧ h' = h)) := Q
  show Ev k G 2 N 0 0 h 0 [some (.ref (ad (g_b G) e)), some (vI (a))] []
  refine z_iload_n X d_VT_isPlace_0 rfl ?_
  refine z_if_lt (tgt := 18) X d_VT_isPlace_1 (by decide) (by omega) (fun q1 => ?_) (fun q1 => ?_)
  · have g2 : decide (0 ≤ a) = false := decide_eq_false (by omega)
    refine z_iconst X d_VT_isPlace_18 ?_
    exact z_ireturn X Q d_VT_isPlace_19 rfl ⟨by simp [b2z, g2], rfl⟩
  · have g3 : decide (0 ≤ a) = true := decide_eq_true (by omega)
    refine z_iload_n X d_VT_isPlace_4 rfl ?_
    refine e_aload_n X d_VT_isPlace_5 rfl ?_
    refine z_Tlen X d_VT_isPlace_6 cf_VT_159_Row cf_VT_159_Gap hT heN rfl ?_
    refine z_icmp_gt (tgt := 18) X d_VT_isPlace_11 (by decide) (by omega) (fun q4 => ?_) (fun q4 => ?_)
    · have g5 : decide (a ≤ ((n : Nat) : Int)) = false := decide_eq_false (by omega)
      refine z_iconst X d_VT_isPlace_18 ?_
      exact z_ireturn X Q d_VT_isPlace_19 rfl ⟨by simp [b2z, g3, g5], rfl⟩
    · have g6 : decide (a ≤ ((n : Nat) : Int)) = true := decide_eq_true (by omega)
      refine z_iconst X d_VT_isPlace_14 ?_
      refine e_goto (tgt := 19) X d_VT_isPlace_15 (by decide) ?_
      exact z_ireturn X Q d_VT_isPlace_19 rfl ⟨by simp [b2z, g3, g6], rfl⟩

def smu (n : Nat) (t : Nat → Int) (n' : Nat) (t' : Nat → Int) : Bool := decide (n = n' ∧ ∀ i, i < n → t i = t' i)
set_option maxRecDepth 100000 in
set_option maxHeartbeats 4000000 in
theorem c_VT_haveSameUnits {l : Launch} {G : lx_G} {N : Nat} {h : Nat → va_E} {e d n m : Nat} {t s : Nat → Int} (hT : Tx G h e n t) (heN : e + 1 < N) (hD : Tx G h d m s) (hdN : d + 1 < N) : CtI l G m_VT_haveSameUnits N [.ref (ad (g_b G) e), .ref (ad (g_b G) d)] h (fun z h' => z = b2z (smu n t m s) ∧ h' = h) := by
  have hle := hT.le
  have hle2 := hD.le
  refine zI_of (by decide) rfl rfl ?_
  intro k X Q
  have X : Cx k G R_VT b_VT_haveSameUnits 3 rm_VT_haveSameUnits := X
  have Q : Rt k G (some (.boolean)) N 0 0 (pI (fun z h' => z = b2z (smu n t m s) ∧ h' = h)) := Q
  show Ev k G 3 N 0 0 h 0 [some (.ref (ad (g_b G) e)), some (.ref (ad (g_b G) d)), none] []
  refine e_aload_n X d_VT_haveSameUnits_0 rfl ?_
  refine z_Tlen X d_VT_haveSameUnits_1 cf_VT_159_Row cf_VT_159_Gap hT heN rfl ?_
  refine e_aload_n X d_VT_haveSameUnits_6 rfl ?_
  refine z_Tlen X d_VT_haveSameUnits_7 cf_VT_159_Row cf_VT_159_Gap hD hdN rfl ?_
  refine z_icmp_eq (tgt := 17) X d_VT_haveSameUnits_12 (by decide) (by omega) (fun q1 => ?_) (fun q1 => ?_)
  · have hnm : n = m := by omega
    refine z_iconst X d_VT_haveSameUnits_17 ?_
    refine e_istore_n X d_VT_haveSameUnits_18 (by decide) ?_
    have loop : ∀ (d9 : Nat) (i : Nat), n - i < d9 → i ≤ n → (∀ k, k < i → t k = s k) → Ev k G 3 N 0 0 h 19 [some (.ref (ad (g_b G) e)), some (.ref (ad (g_b G) d)), some (vI ((i : Nat) : Int))] [] := by
      intro d9
      induction d9 with
      | zero =>
        intro i hm9
        exact absurd hm9 (Nat.not_lt_zero _)
      | succ d9 ih =>
        intro i hm9 hi hs
        refine z_iload_n X d_VT_haveSameUnits_19 rfl ?_
        refine e_aload_n X d_VT_haveSameUnits_20 rfl ?_
        refine z_Tlen X d_VT_haveSameUnits_21 cf_VT_159_Row cf_VT_159_Gap hT heN rfl ?_
        refine z_icmp_ge (tgt := 54) X d_VT_haveSameUnits_26 (by decide) (by omega) (fun q2 => ?_) (fun q2 => ?_)
        · refine z_iconst X d_VT_haveSameUnits_54 ?_
          exact z_ireturn X Q d_VT_haveSameUnits_55 rfl ⟨(b2z_t (decide_eq_true ⟨hnm, fun k9 h9 => hs k9 (by omega)⟩)).symm, rfl⟩
        · have hr1 := tx_ge hT.ok i
          have hr2 := tx_ge hD.ok i
          refine e_aload_n X d_VT_haveSameUnits_29 rfl ?_
          refine z_iload_n X d_VT_haveSameUnits_30 rfl ?_
          refine z_Tat X d_VT_haveSameUnits_31 cf_VT_120_Row cf_VT_120_Gap hT heN (by omega) rfl ?_
          refine z_top (show _ = (t i) from tat_n t i) ?_
          refine e_aload_n X d_VT_haveSameUnits_36 rfl ?_
          refine z_iload_n X d_VT_haveSameUnits_37 rfl ?_
          refine z_Tat X d_VT_haveSameUnits_38 cf_VT_120_Row cf_VT_120_Gap hD hdN (by omega) rfl ?_
          refine z_top (show _ = (s i) from tat_n s i) ?_
          refine z_icmp_eq (tgt := 48) X d_VT_haveSameUnits_43 (by decide) (by omega) (fun q3 => ?_) (fun q3 => ?_)
          · refine z_iinc X d_VT_haveSameUnits_48 rfl (by decide) ?_
            refine e_goto (tgt := 19) X d_VT_haveSameUnits_51 (by decide) ?_
            exact ih (i + 1) (by omega) (by omega) (fun k9 h9 => by rcases Nat.lt_or_ge k9 i with h8 | h8; exact hs k9 h8; rw [show k9 = i by omega]; exact q3)
          · refine z_iconst X d_VT_haveSameUnits_46 ?_
            exact z_ireturn X Q d_VT_haveSameUnits_47 rfl ⟨(b2z_f (decide_eq_false (fun q9 => q3 (q9.2 i (by omega))))).symm, rfl⟩
    exact loop _ 0 (Nat.lt_succ_self _) (Nat.zero_le _) (fun k9 h9 => absurd h9 (Nat.not_lt_zero _))
  · refine z_iconst X d_VT_haveSameUnits_15 ?_
    exact z_ireturn X Q d_VT_haveSameUnits_16 rfl ⟨(b2z_f (decide_eq_false (fun q9 => q1 (by omega)))).symm, rfl⟩

set_option maxRecDepth 100000 in
set_option maxHeartbeats 4000000 in
theorem c_VT_isVersion {l : Launch} {G : lx_G} {N : Nat} {h : Nat → va_E} {n : Nat} {t : Nat → Int} {now last : Nat} {T : Nat → tx_T} {c : Nat} {p : Nat → Int} {kp : Nat → Bool} {V : Nat → tx_T} {g o en : Int} {v : Int} (hV : VT G h n t now last T c p kp V g o en) (hN : 42 ≤ N) (hr_v : -2147483648 ≤ v ∧ v < 2147483648) : CtI l G m_VT_isVersion N [.ref (ad (g_b G) 0), vI (v)] h (fun z h' => z = b2z (isv kp v) ∧ h' = h) := by
  refine zI_of (by decide) rfl rfl ?_
  intro k X Q
  have X : Cx k G R_VT b_VT_isVersion 2 rm_VT_isVersion := X
  have Q : Rt k G (some (.boolean)) N 0 0 (pI (fun z h' => z = b2z (isv kp v) ∧ h' = h)) := Q
  show Ev k G 2 N 0 0 h 0 [some (.ref (ad (g_b G) 0)), some (vI (v))] []
  have c0 := hV.1
  have c5 := hV.2.2.2.1
  obtain ⟨ku, k0, k1, k2⟩ := hV.2.2.2.2.1
  refine z_iload_n X d_VT_isVersion_0 rfl ?_
  refine z_if_lt (tgt := 22) X d_VT_isVersion_1 (by decide) (by omega) (fun q1 => ?_) (fun q1 => ?_)
  · refine z_iconst X d_VT_isVersion_22 ?_
    exact z_ireturn X Q d_VT_isVersion_23 rfl ⟨by unfold isv; rw [decide_eq_false (show ¬ v = 0 by omega), decide_eq_false (show ¬ (1 ≤ v ∧ v ≤ 4) by omega)]; rfl, rfl⟩
  · refine z_iload_n X d_VT_isVersion_4 rfl ?_
    refine z_iconst X d_VT_isVersion_5 ?_
    refine z_icmp_gt (tgt := 22) X d_VT_isVersion_6 (by decide) (by omega) (fun q2 => ?_) (fun q2 => ?_)
    · refine z_iconst X d_VT_isVersion_22 ?_
      exact z_ireturn X Q d_VT_isVersion_23 rfl ⟨by unfold isv; rw [decide_eq_false (show ¬ v = 0 by omega), decide_eq_false (show ¬ (1 ≤ v ∧ v ≤ 4) by omega)]; rfl, rfl⟩
    · obtain ⟨j, rfl⟩ : ∃ j : Nat, v = (j : Int) := ⟨v.toNat, by omega⟩
      have hkj : ku j = b2z (isv kp ((j : Nat) : Int)) := by
        unfold isv
        rcases Nat.eq_zero_or_pos j with h9 | h9
        · rw [h9, k1]; rfl
        · rw [k2 j h9 (by omega), decide_eq_false (show ¬ ((j : Nat) : Int) = 0 by omega), decide_eq_true (show 1 ≤ ((j : Nat) : Int) ∧ ((j : Nat) : Int) ≤ 4 by omega), Bool.false_or, Bool.true_and]; rfl
      refine e_aload_n X d_VT_isVersion_9 rfl ?_
      refine e_get X d_VT_isVersion_10 fl_VT_31 c0 (by omega) rfl ?_
      refine z_iload_n X d_VT_isVersion_13 rfl ?_
      refine z_zald X d_VT_isVersion_14 (j := j) k0 (by omega) (by omega) (by omega) ?_
      refine z_top (show _ = (b2z (isv kp ((j : Nat) : Int))) from hkj) ?_
      refine z_if_eq (tgt := 22) X d_VT_isVersion_15 (by decide) (b2z_r _) (fun q3 => ?_) (fun q3 => ?_)
      · refine z_iconst X d_VT_isVersion_22 ?_
        exact z_ireturn X Q d_VT_isVersion_23 rfl ⟨q3.symm, rfl⟩
      · refine z_iconst X d_VT_isVersion_18 ?_
        refine e_goto (tgt := 23) X d_VT_isVersion_19 (by decide) ?_
        exact z_ireturn X Q d_VT_isVersion_23 rfl ⟨(b2z_t (b2z_ne q3)).symm, rfl⟩

def ctp (c : Nat) (p : Nat → Int) : Bool := decide (c = 1) && (decide (¬ p 0 = 10) && decide (¬ p 0 = 13))
set_option maxRecDepth 100000 in
set_option maxHeartbeats 4000000 in
theorem c_VT_clipIsTyping {l : Launch} {G : lx_G} {N : Nat} {h : Nat → va_E} {n : Nat} {t : Nat → Int} {now last : Nat} {T : Nat → tx_T} {c : Nat} {p : Nat → Int} {kp : Nat → Bool} {V : Nat → tx_T} {g o en : Int} (hV : VT G h n t now last T c p kp V g o en) (hN : 42 ≤ N) : CtI l G m_VT_clipIsTyping N [.ref (ad (g_b G) 0)] h (fun z h' => z = b2z (ctp c p) ∧ h' = h) := by
  have hcl := hV.2.2.1.le
  have hp0 := tx_ge hV.2.2.1.ok 0
  refine zI_of (by decide) rfl rfl ?_
  intro k X Q
  have X : Cx k G R_VT b_VT_clipIsTyping 1 rm_VT_clipIsTyping := X
  have Q : Rt k G (some (.boolean)) N 0 0 (pI (fun z h' => z = b2z (ctp c p) ∧ h' = h)) := Q
  show Ev k G 1 N 0 0 h 0 [some (.ref (ad (g_b G) 0))] []
  have c0 := hV.1
  have c5 := hV.2.2.2.1
  obtain ⟨_, c3, -⟩ := id (hV.2.2.1)
  refine e_aload_n X d_VT_clipIsTyping_0 rfl ?_
  refine e_get X d_VT_clipIsTyping_1 fl_VT_21 c0 (by omega) rfl ?_
  refine z_callV_I X d_VT_clipIsTyping_4 cv_VT_67 (c_Row_length hV.2.2.1 (by omega)) c3 (by omega) rfl rfl ⟨rfl, rfl⟩ rfl (fun z3 h1 hp2 => ?_)
  obtain ⟨rfl, hh4⟩ := hp2
  rw [hh4]
  refine z_iconst X d_VT_clipIsTyping_7 ?_
  refine z_icmp_ne (tgt := 41) X d_VT_clipIsTyping_8 (by decide) (by omega) (fun q5 => ?_) (fun q5 => ?_)
  · have g6 : decide (c = 1) = false := decide_eq_false (by omega)
    refine z_iconst X d_VT_clipIsTyping_41 ?_
    exact z_ireturn X Q d_VT_clipIsTyping_42 rfl ⟨by simp [ctp, b2z, g6], rfl⟩
  · have g7 : decide (c = 1) = true := decide_eq_true (by omega)
    refine e_aload_n X d_VT_clipIsTyping_11 rfl ?_
    refine e_get X d_VT_clipIsTyping_12 fl_VT_21 c0 (by omega) rfl ?_
    refine z_iconst X d_VT_clipIsTyping_15 ?_
    refine z_callV_I X d_VT_clipIsTyping_16 cv_VT_163 (c_Row_at (a := 0) hV.2.2.1 (by omega) (by omega)) c3 (by omega) rfl rfl ⟨rfl, rfl⟩ rfl (fun z10 h8 hp9 => ?_)
    obtain ⟨rfl, hh11⟩ := hp9
    rw [hh11]
    refine z_top (show _ = (p 0) from rfl) ?_
    refine z_bipush X d_VT_clipIsTyping_19 (by decide) ?_
    refine z_icmp_eq (tgt := 41) X d_VT_clipIsTyping_21 (by decide) (by omega) (fun q12 => ?_) (fun q12 => ?_)
    · have g13 : decide (p 0 = 10) = true := decide_eq_true (by omega)
      refine z_iconst X d_VT_clipIsTyping_41 ?_
      exact z_ireturn X Q d_VT_clipIsTyping_42 rfl ⟨by simp [ctp, b2z, g7, g13], rfl⟩
    · have g14 : decide (p 0 = 10) = false := decide_eq_false (by omega)
      refine e_aload_n X d_VT_clipIsTyping_24 rfl ?_
      refine e_get X d_VT_clipIsTyping_25 fl_VT_21 c0 (by omega) rfl ?_
      refine z_iconst X d_VT_clipIsTyping_28 ?_
      refine z_callV_I X d_VT_clipIsTyping_29 cv_VT_163 (c_Row_at (a := 0) hV.2.2.1 (by omega) (by omega)) c3 (by omega) rfl rfl ⟨rfl, rfl⟩ rfl (fun z17 h15 hp16 => ?_)
      obtain ⟨rfl, hh18⟩ := hp16
      rw [hh18]
      refine z_top (show _ = (p 0) from rfl) ?_
      refine z_bipush X d_VT_clipIsTyping_32 (by decide) ?_
      refine z_icmp_eq (tgt := 41) X d_VT_clipIsTyping_34 (by decide) (by omega) (fun q19 => ?_) (fun q19 => ?_)
      · have g20 : decide (p 0 = 13) = true := decide_eq_true (by omega)
        refine z_iconst X d_VT_clipIsTyping_41 ?_
        exact z_ireturn X Q d_VT_clipIsTyping_42 rfl ⟨by simp [ctp, b2z, g7, g14, g20], rfl⟩
      · have g21 : decide (p 0 = 13) = false := decide_eq_false (by omega)
        refine z_iconst X d_VT_clipIsTyping_37 ?_
        refine e_goto (tgt := 42) X d_VT_clipIsTyping_38 (by decide) ?_
        exact z_ireturn X Q d_VT_clipIsTyping_42 rfl ⟨by simp [ctp, b2z, g7, g14, g21], rfl⟩

def fre (m : Int) (n : Nat) (t : Nat → Int) (a : Int) : Bool := !(decide (a < ((n : Nat) : Int)) && !bg m n t a.toNat)
def ced (m : Int) (n : Nat) (t : Nat → Int) (a b : Int) : Bool := decide (0 ≤ a ∧ a ≤ b ∧ b ≤ ((n : Nat) : Int)) && (fre m n t a && fre m n t b)
set_option maxRecDepth 100000 in
set_option maxHeartbeats 4000000 in
theorem c_VT_canEdit {l : Launch} {G : lx_G} {N : Nat} {h : Nat → va_E} {n : Nat} {t : Nat → Int} {now last : Nat} {T : Nat → tx_T} {c : Nat} {p : Nat → Int} {kp : Nat → Bool} {V : Nat → tx_T} {g o en : Int} {a b : Int} (hV : VT G h n t now last T c p kp V g o en) (hN : 42 ≤ N) (hr_a : -2147483648 ≤ a ∧ a < 2147483648) (hr_b : -2147483648 ≤ b ∧ b < 2147483648) : CtI l G m_VT_canEdit N [.ref (ad (g_b G) 0), vI (a), vI (b)] h (fun z h' => z = b2z (ced g n t a b) ∧ VT G h' n t now last T c p kp V g o en ∧ (∀ q, 42 ≤ q → h' q = h q)) := by
  refine zI_of (by decide) rfl rfl ?_
  intro k X Q
  have X : Cx k G R_VT b_VT_canEdit 3 rm_VT_canEdit := X
  have Q : Rt k G (some (.boolean)) N 0 0 (pI (fun z h' => z = b2z (ced g n t a b) ∧ VT G h' n t now last T c p kp V g o en ∧ (∀ q, 42 ≤ q → h' q = h q))) := Q
  show Ev k G 3 N 0 0 h 0 [some (.ref (ad (g_b G) 0)), some (vI (a)), some (vI (b))] []
  have c0 := hV.1
  have c5 := hV.2.2.2.1
  obtain ⟨_, _, _, _, _, _, _, c35, -⟩ := id (hV.2.2.2.2.2.2.2.2.1)
  refine e_aload_n X d_VT_canEdit_0 rfl ?_
  refine e_get X d_VT_canEdit_1 fl_VT_14 c0 (by omega) rfl ?_
  refine z_iload_n X d_VT_canEdit_4 rfl ?_
  refine z_callS_I X d_VT_canEdit_5 cs_VT_137 (c_VT_isPlace hV.2.1 (by omega) hr_a) rfl rfl ⟨rfl, rfl⟩ rfl (fun z3 h1 hp2 => ?_)
  obtain ⟨rfl, hh4⟩ := hp2
  rw [hh4]
  refine z_if_eq (tgt := 27) X d_VT_canEdit_8 (by decide) (b2z_r _) (fun q1 => ?_) (fun q1 => ?_)
  · refine z_iconst X d_VT_canEdit_27 ?_
    have g1 := b2z_eq q1
    simp at g1
    exact z_ireturn X Q d_VT_canEdit_28 rfl ⟨(b2z_f (by unfold ced; rw [decide_eq_false (by omega)]; rfl)).symm, hV, fun q _ => rfl⟩
  · have g1 := b2z_ne q1
    simp at g1
    refine e_aload_n X d_VT_canEdit_11 rfl ?_
    refine e_get X d_VT_canEdit_12 fl_VT_14 c0 (by omega) rfl ?_
    refine z_iload_n X d_VT_canEdit_15 rfl ?_
    refine z_callS_I X d_VT_canEdit_16 cs_VT_137 (c_VT_isPlace hV.2.1 (by omega) hr_b) rfl rfl ⟨rfl, rfl⟩ rfl (fun z7 h5 hp6 => ?_)
    obtain ⟨rfl, hh8⟩ := hp6
    rw [hh8]
    refine z_if_eq (tgt := 27) X d_VT_canEdit_19 (by decide) (b2z_r _) (fun q2 => ?_) (fun q2 => ?_)
    · refine z_iconst X d_VT_canEdit_27 ?_
      have g2 := b2z_eq q2
      simp at g2
      exact z_ireturn X Q d_VT_canEdit_28 rfl ⟨(b2z_f (by unfold ced; rw [decide_eq_false (by omega)]; rfl)).symm, hV, fun q _ => rfl⟩
    · have g2 := b2z_ne q2
      simp at g2
      refine z_iload_n X d_VT_canEdit_22 rfl ?_
      refine z_iload_n X d_VT_canEdit_23 rfl ?_
      refine z_icmp_le (tgt := 29) X d_VT_canEdit_24 (by decide) (by omega) (fun q3 => ?_) (fun q3 => ?_)
      · obtain ⟨i, rfl⟩ : ∃ i : Nat, a = (i : Int) := ⟨a.toNat, by omega⟩
        obtain ⟨j, rfl⟩ : ∃ j : Nat, b = (j : Int) := ⟨b.toNat, by omega⟩
        have hle := hV.2.1.le
        have hgg := hV.2.2.2.2.2.2.2.2.2.2.1
        refine e_aload_n X d_VT_canEdit_29 rfl ?_
        refine e_get X d_VT_canEdit_30 fl_VT_45 c0 (by omega) rfl ?_
        refine e_aload_n X d_VT_canEdit_33 rfl ?_
        refine e_get X d_VT_canEdit_34 fl_VT_14 c0 (by omega) rfl ?_
        refine e_aload_n X d_VT_canEdit_37 rfl ?_
        refine e_get X d_VT_canEdit_38 fl_VT_56 c0 (by omega) rfl ?_
        refine z_callV_V X d_VT_canEdit_41 cv_VT_127 (c_Itm_measure hV.2.2.2.2.2.2.2.2.1 (by omega) hV.2.1 (by omega) (by omega) (by omega)) c35 (by omega) rfl rfl ⟨rfl, rfl⟩ rfl (fun h9 hp10 => ?_)
        obtain ⟨hM, hMf⟩ := hp10
        have hV2 := hV.items hM.its (fun q q9 => hMf q (by omega) (by omega) (by omega))
        have c0b := hV2.1
        have c5b := hV2.2.2.2.1
        obtain ⟨_, _, _, _, _, _, _, c35b, -⟩ := id (hV2.2.2.2.2.2.2.2.2.1)
        refine e_aload_n X d_VT_canEdit_44 rfl ?_
        refine e_get X d_VT_canEdit_45 fl_VT_45 c0b (by omega) rfl ?_
        refine z_iload_n X d_VT_canEdit_48 rfl ?_
        have hfi : ∀ i : Nat, fre g n t ((i : Nat) : Int) = !(decide (i < n) && !bg g n t i) := by intro i; unfold fre; rw [show ((i : Nat) : Int).toNat = i from rfl, decide_eq_decide.mpr (show ((i : Nat) : Int) < ((n : Nat) : Int) ↔ i < n by omega)]
        have hok : decide (0 ≤ ((i : Nat) : Int) ∧ ((i : Nat) : Int) ≤ ((j : Nat) : Int) ∧ ((j : Nat) : Int) ≤ ((n : Nat) : Int)) = true := decide_eq_true (by omega)
        refine z_callV_I X d_VT_canEdit_49 cv_VT_160 (c_Itm_isInside hM (by omega) hle hV.2.1.ok (by omega) (by omega)) c35b (by omega) rfl rfl ⟨rfl, rfl⟩ rfl (fun z14 h12 hp13 => ?_)
        obtain ⟨rfl, hh15⟩ := hp13
        rw [hh15]
        refine z_if_ne (tgt := 70) X d_VT_canEdit_52 (by decide) (b2z_r _) (fun q4 => ?_) (fun q4 => ?_)
        · refine z_iconst X d_VT_canEdit_70 ?_
          exact z_ireturn X Q d_VT_canEdit_71 rfl ⟨(b2z_f (by unfold ced; rw [hok, hfi i, b2z_ne q4]; rfl)).symm, hV2, fun q q9 => hMf q (by omega) (by omega) (by omega)⟩
        · refine e_aload_n X d_VT_canEdit_55 rfl ?_
          refine e_get X d_VT_canEdit_56 fl_VT_45 c0b (by omega) rfl ?_
          refine z_iload_n X d_VT_canEdit_59 rfl ?_
          refine z_callV_I X d_VT_canEdit_60 cv_VT_160 (c_Itm_isInside hM (by omega) hle hV.2.1.ok (by omega) (by omega)) c35b (by omega) rfl rfl ⟨rfl, rfl⟩ rfl (fun z18 h16 hp17 => ?_)
          obtain ⟨rfl, hh19⟩ := hp17
          rw [hh19]
          refine z_if_ne (tgt := 70) X d_VT_canEdit_63 (by decide) (b2z_r _) (fun q5 => ?_) (fun q5 => ?_)
          · refine z_iconst X d_VT_canEdit_70 ?_
            exact z_ireturn X Q d_VT_canEdit_71 rfl ⟨(b2z_f (by unfold ced; rw [hok, hfi i, hfi j, b2z_eq q4, b2z_ne q5]; rfl)).symm, hV2, fun q q9 => hMf q (by omega) (by omega) (by omega)⟩
          · refine z_iconst X d_VT_canEdit_66 ?_
            refine e_goto (tgt := 71) X d_VT_canEdit_67 (by decide) ?_
            exact z_ireturn X Q d_VT_canEdit_71 rfl ⟨(b2z_t (by unfold ced; rw [hok, hfi i, hfi j, b2z_eq q4, b2z_eq q5]; rfl)).symm, hV2, fun q q9 => hMf q (by omega) (by omega) (by omega)⟩
      · refine z_iconst X d_VT_canEdit_27 ?_
        exact z_ireturn X Q d_VT_canEdit_28 rfl ⟨(b2z_f (by unfold ced; rw [decide_eq_false (by omega)]; rfl)).symm, hV, fun q _ => rfl⟩

def ctk (m : Int) (n : Nat) (t : Nat → Int) (c : Nat) (a b : Int) : Bool := decide (0 < c) && (ced m n t a b && decide (((n : Nat) : Int) - (b - a) + ((c : Nat) : Int) ≤ 160))
theorem ced_rg {m : Int} {n : Nat} {t : Nat → Int} {a b : Int} (h : ced m n t a b = true) : 0 ≤ a ∧ a ≤ b ∧ b ≤ ((n : Nat) : Int) := by
  simp only [ced, Bool.and_eq_true, decide_eq_true_eq] at h
  exact h.1
set_option maxRecDepth 100000 in
set_option maxHeartbeats 4000000 in
theorem c_VT_canTakeClip {l : Launch} {G : lx_G} {N : Nat} {h : Nat → va_E} {n : Nat} {t : Nat → Int} {now last : Nat} {T : Nat → tx_T} {c : Nat} {p : Nat → Int} {kp : Nat → Bool} {V : Nat → tx_T} {g o en : Int} {a b : Int} (hV : VT G h n t now last T c p kp V g o en) (hN : 42 ≤ N) (hr_a : -2147483648 ≤ a ∧ a < 2147483648) (hr_b : -2147483648 ≤ b ∧ b < 2147483648) : CtI l G m_VT_canTakeClip N [.ref (ad (g_b G) 0), vI (a), vI (b)] h (fun z h' => z = b2z (ctk g n t c a b) ∧ VT G h' n t now last T c p kp V g o en ∧ (∀ q, 42 ≤ q → h' q = h q)) := by
  refine zI_of (by decide) rfl rfl ?_
  intro k X Q
  have X : Cx k G R_VT b_VT_canTakeClip 3 rm_VT_canTakeClip := X
  have Q : Rt k G (some (.boolean)) N 0 0 (pI (fun z h' => z = b2z (ctk g n t c a b) ∧ VT G h' n t now last T c p kp V g o en ∧ (∀ q, 42 ≤ q → h' q = h q))) := Q
  show Ev k G 3 N 0 0 h 0 [some (.ref (ad (g_b G) 0)), some (vI (a)), some (vI (b))] []
  have c0 := hV.1
  have c5 := hV.2.2.2.1
  obtain ⟨_, c3, -⟩ := id (hV.2.2.1)
  have hcl := hV.2.2.1.le
  have hle := hV.2.1.le
  refine e_aload_n X d_VT_canTakeClip_0 rfl ?_
  refine e_get X d_VT_canTakeClip_1 fl_VT_21 c0 (by omega) rfl ?_
  refine z_callV_I X d_VT_canTakeClip_4 cv_VT_67 (c_Row_length hV.2.2.1 (by omega)) c3 (by omega) rfl rfl ⟨rfl, rfl⟩ rfl (fun z3 h1 hp2 => ?_)
  obtain ⟨rfl, hh4⟩ := hp2
  rw [hh4]
  refine z_if_le (tgt := 50) X d_VT_canTakeClip_7 (by decide) (by omega) (fun q1 => ?_) (fun q1 => ?_)
  · refine z_iconst X d_VT_canTakeClip_50 ?_
    exact z_ireturn X Q d_VT_canTakeClip_51 rfl ⟨(b2z_f (by unfold ctk; rw [decide_eq_false (show ¬ 0 < c by omega)]; rfl)).symm, hV, fun q _ => rfl⟩
  · refine e_aload_n X d_VT_canTakeClip_10 rfl ?_
    refine z_iload_n X d_VT_canTakeClip_11 rfl ?_
    refine z_iload_n X d_VT_canTakeClip_12 rfl ?_
    refine z_callV_I X d_VT_canTakeClip_13 cv_VT_94 (c_VT_canEdit hV hN hr_a hr_b) c0 (by omega) rfl rfl ⟨rfl, rfl⟩ rfl (fun z7 h5 hp6 => ?_)
    obtain ⟨rfl, hV2, hf2⟩ := hp6
    have c0b := hV2.1
    have c5b := hV2.2.2.2.1
    obtain ⟨_, c3b, -⟩ := id (hV2.2.2.1)
    have hc9 : decide (0 < c) = true := decide_eq_true (by omega)
    refine z_if_eq (tgt := 50) X d_VT_canTakeClip_16 (by decide) (b2z_r _) (fun q2 => ?_) (fun q2 => ?_)
    · refine z_iconst X d_VT_canTakeClip_50 ?_
      exact z_ireturn X Q d_VT_canTakeClip_51 rfl ⟨(b2z_f (by unfold ctk; rw [b2z_eq q2]; simp)).symm, hV2, hf2⟩
    · have hrg := ced_rg (b2z_ne q2)
      refine e_aload_n X d_VT_canTakeClip_19 rfl ?_
      refine e_get X d_VT_canTakeClip_20 fl_VT_14 c0b (by omega) rfl ?_
      refine z_Tlen X d_VT_canTakeClip_23 cf_VT_159_Row cf_VT_159_Gap hV2.2.1 (by omega) rfl ?_
      refine z_iload_n X d_VT_canTakeClip_28 rfl ?_
      refine z_iload_n X d_VT_canTakeClip_29 rfl ?_
      refine z_isub X d_VT_canTakeClip_30 ?_
      refine z_isub X d_VT_canTakeClip_31 ?_
      refine e_aload_n X d_VT_canTakeClip_32 rfl ?_
      refine e_get X d_VT_canTakeClip_33 fl_VT_21 c0b (by omega) rfl ?_
      refine z_callV_I X d_VT_canTakeClip_36 cv_VT_67 (c_Row_length hV2.2.2.1 (by omega)) c3b (by omega) rfl rfl ⟨rfl, rfl⟩ rfl (fun z10 h8 hp9 => ?_)
      obtain ⟨rfl, hh11⟩ := hp9
      rw [hh11]
      refine z_iadd X d_VT_canTakeClip_39 ?_
      refine z_sipush X d_VT_canTakeClip_40 (by decide) ?_
      refine z_icmp_gt (tgt := 50) X d_VT_canTakeClip_43 (by decide) (by omega) (fun q3 => ?_) (fun q3 => ?_)
      · refine z_iconst X d_VT_canTakeClip_50 ?_
        exact z_ireturn X Q d_VT_canTakeClip_51 rfl ⟨(b2z_f (by unfold ctk; rw [decide_eq_false (show ¬ ((n : Nat) : Int) - (b - a) + ((c : Nat) : Int) ≤ 160 by omega)]; simp)).symm, hV2, hf2⟩
      · refine z_iconst X d_VT_canTakeClip_46 ?_
        refine e_goto (tgt := 51) X d_VT_canTakeClip_47 (by decide) ?_
        exact z_ireturn X Q d_VT_canTakeClip_51 rfl ⟨(b2z_t (by unfold ctk; rw [hc9, b2z_ne q2, decide_eq_true (show ((n : Nat) : Int) - (b - a) + ((c : Nat) : Int) ≤ 160 by omega)]; rfl)).symm, hV2, hf2⟩

set_option maxRecDepth 100000 in
set_option maxHeartbeats 4000000 in
theorem c_VT_addClosedStep {l : Launch} {G : lx_G} {N : Nat} {h : Nat → va_E} {n : Nat} {t : Nat → Int} {now last : Nat} {T : Nat → tx_T} {c : Nat} {p : Nat → Int} {kp : Nat → Bool} {V : Nat → tx_T} {g o en : Int} (hV : VT G h n t now last T c p kp V g o en) (hN : 42 ≤ N) : CtV l G m_VT_addClosedStep N [.ref (ad (g_b G) 0)] h (fun h' => VT G h' n t (hp_now now) (hp_now now) (hp_T now T (n, t)) c p kp V g (-1) en ∧ (∀ q, 42 ≤ q → h' q = h q)) := by
  refine zV_of (by decide) rfl rfl ?_
  intro k X Q
  have X : Cx k G R_VT b_VT_addClosedStep 1 rm_VT_addClosedStep := X
  have Q : Rt k G none N 0 0 (pV (fun h' => VT G h' n t (hp_now now) (hp_now now) (hp_T now T (n, t)) c p kp V g (-1) en ∧ (∀ q, 42 ≤ q → h' q = h q))) := Q
  show Ev k G 1 N 0 0 h 0 [some (.ref (ad (g_b G) 0))] []
  have c0 := hV.1
  have c5 := hV.2.2.2.1
  obtain ⟨_, c15, -⟩ := id (hV.2.2.2.2.2.2.2.1)
  refine e_aload_n X d_VT_addClosedStep_0 rfl ?_
  refine e_get X d_VT_addClosedStep_1 fl_VT_38 c0 (by omega) rfl ?_
  refine e_aload_n X d_VT_addClosedStep_4 rfl ?_
  refine e_get X d_VT_addClosedStep_5 fl_VT_14 c0 (by omega) rfl ?_
  refine z_callV_V X d_VT_addClosedStep_8 cv_VT_91 (c_His_addStep hV.2.2.2.2.2.2.2.1 (by omega) hV.2.1 (by omega) (by omega)) c15 (by omega) rfl rfl ⟨rfl, rfl⟩ rfl (fun h1 hp2 => ?_)
  obtain ⟨hH, hHf⟩ := hp2
  have hV2 := hV.hist hH (fun q q9 => hHf q q9)
  have c0b := hV2.1
  have c5b := hV2.2.2.2.1
  refine e_aload_n X d_VT_addClosedStep_11 rfl ?_
  refine z_iconst X d_VT_addClosedStep_12 ?_
  refine z_put X d_VT_addClosedStep_13 fl_VT_60 c0b (by omega) (Nat.le_of_ble_eq_true rfl) rfl rfl (fun h4 c5 fr6 => ?_)
  have c5 : h4 0 = ob ci_VT [.ref (ad (g_b G) 1), .ref (ad (g_b G) 3), .ref (ad (g_b G) 5), .ref (ad (g_b G) 6), .ref (ad (g_b G) 15), .ref (ad (g_b G) 35), .ref (ad (g_b G) 38), vI (g), vI (-1)] := c5
  have c7 := (fr6 5 (by omega)).trans c5b
  exact z_return X Q d_VT_addClosedStep_16 ⟨hV2.obj c5 hV.2.2.2.2.2.2.2.2.2.2.1 (by omega) (fun q q9 => fr6 q q9), fun q q9 => (fr6 q (by omega)).trans (hHf q (by omega))⟩
end
section
theorem z_lookup {k : lx_K} {G : lx_G} {own : String} {cc : ByteArray} {nL N cells slots pc : Nat} {R : Room} {h : Nat → va_E} {L : List (Option Value)} {st : List Value} (X : Cx k G own cc nL R) {dflt z off : Int} {ps : Array (Int × Int)} {len tgt : Nat} (hd : decode cc pc = .ok (.lookupswitch dflt ps, len)) (hp : (ps.toList.zip (ps.toList.drop 1)).all (fun (a, next) => a.1 < next.1) = true) (hr : -2147483648 ≤ z ∧ z < 2147483648) (ho : Op.lookupswitch.offset ps.toList dflt z = off) (ht : (pc : Int) + off = (tgt : Int)) (kk : Ev k G nL N cells slots h tgt L st) : Ev k G nL N cells slots h pc L (vI z :: st) := fun H locs ls hH hS hL => lv_lookup X.1 X.2.1 hd hp (by rw [iI_toInt hr]; exact ho) ht (kk H locs ls hH hS hL)
/-- the steps behind an edit: it goes on with the latest one (e), or is a new one -/
def hn (e : Bool) (now : Nat) : Nat := if e = true then now else hp_now now
def hl (e : Bool) (now last : Nat) : Nat := if e = true then last else hp_now now
def hT (e : Bool) (now : Nat) (T : Nat → tx_T) (x : tx_T) : Nat → tx_T := if e = true then (fun j => if j = now then x else T j) else hp_T now T x
theorem tx_ed_0 (t p q : Nat → Int) (a b : Nat) : tx_ed t a b 0 p = tx_ed t a b 0 q := by
  funext k
  unfold tx_ed
  by_cases h : k < a
  · simp [h]
  · simp [h]
set_option maxRecDepth 100000 in
set_option maxHeartbeats 4000000 in
theorem c_VT_type {l : Launch} {G : lx_G} {N : Nat} {h : Nat → va_E} {n : Nat} {t : Nat → Int} {now last : Nat} {T : Nat → tx_T} {c : Nat} {p : Nat → Int} {kp : Nat → Bool} {V : Nat → tx_T} {g o en : Int} {x : Int} (hV : VT G h n t now last T c p kp V g o en) (hN : 42 ≤ N) (hx : 0 ≤ x ∧ x < 65536) : CtI l G m_VT_type N [.ref (ad (g_b G) 0), vI (x)] h (fun z h' => (c < 24 ∧ z = 1 ∧ VT G h' n t now last T (c + 1) (zup p c x) kp V g o en ∧ (∀ q, 42 ≤ q → h' q = h q)) ∨ (24 ≤ c ∧ z = 0 ∧ VT G h' n t now last T c p kp V g o en ∧ (∀ q, 42 ≤ q → h' q = h q))) := by
  refine zI_of (by decide) rfl rfl ?_
  intro k X Q
  have X : Cx k G R_VT b_VT_type 2 rm_VT_type := X
  have Q : Rt k G (some (.boolean)) N 0 0 (pI (fun z h' => (c < 24 ∧ z = 1 ∧ VT G h' n t now last T (c + 1) (zup p c x) kp V g o en ∧ (∀ q, 42 ≤ q → h' q = h q)) ∨ (24 ≤ c ∧ z = 0 ∧ VT G h' n t now last T c p kp V g o en ∧ (∀ q, 42 ≤ q → h' q = h q)))) := Q
  show Ev k G 2 N 0 0 h 0 [some (.ref (ad (g_b G) 0)), some (vI (x))] []
  have c0 := hV.1
  have c5 := hV.2.2.2.1
  obtain ⟨_, c3, -⟩ := id (hV.2.2.1)
  refine e_aload_n X d_VT_type_0 rfl ?_
  refine e_get X d_VT_type_1 fl_VT_21 c0 (by omega) rfl ?_
  refine z_iload_n X d_VT_type_4 rfl ?_
  refine z_callV_I X d_VT_type_5 cv_VT_63 (c_Row_append hV.2.2.1 (by omega) hx) c3 (by omega) rfl rfl ⟨rfl, rfl⟩ rfl (fun z3 h1 hp2 => ?_)
  rcases hp2 with ⟨h7, rfl, h8, h9⟩ | ⟨h7, rfl, rfl⟩
  · exact z_ireturn X Q d_VT_type_8 rfl (Or.inl ⟨h7, rfl, hV.clip h8 (fun q q9 => h9 q (by omega) (by omega)), fun q q9 => h9 q (by omega) (by omega)⟩)
  · exact z_ireturn X Q d_VT_type_8 rfl (Or.inr ⟨h7, rfl, hV, fun q _ => rfl⟩)

set_option maxRecDepth 100000 in
set_option maxHeartbeats 4000000 in
theorem c_VT_scrap {l : Launch} {G : lx_G} {N : Nat} {h : Nat → va_E} {n : Nat} {t : Nat → Int} {now last : Nat} {T : Nat → tx_T} {c : Nat} {p : Nat → Int} {kp : Nat → Bool} {V : Nat → tx_T} {g o en : Int} (hV : VT G h n t now last T c p kp V g o en) (hN : 42 ≤ N) : CtV l G m_VT_scrap N [.ref (ad (g_b G) 0)] h (fun h' => VT G h' n t now last T 0 (fun _ => -1) kp V g o en ∧ (∀ q, 42 ≤ q → h' q = h q)) := by
  refine zV_of (by decide) rfl rfl ?_
  intro k X Q
  have X : Cx k G R_VT b_VT_scrap 1 rm_VT_scrap := X
  have Q : Rt k G none N 0 0 (pV (fun h' => VT G h' n t now last T 0 (fun _ => -1) kp V g o en ∧ (∀ q, 42 ≤ q → h' q = h q))) := Q
  show Ev k G 1 N 0 0 h 0 [some (.ref (ad (g_b G) 0))] []
  have c0 := hV.1
  have c5 := hV.2.2.2.1
  obtain ⟨_, c3, -⟩ := id (hV.2.2.1)
  refine e_aload_n X d_VT_scrap_0 rfl ?_
  refine e_get X d_VT_scrap_1 fl_VT_21 c0 (by omega) rfl ?_
  refine z_iconst X d_VT_scrap_4 ?_
  refine e_aload_n X d_VT_scrap_5 rfl ?_
  refine e_get X d_VT_scrap_6 fl_VT_21 c0 (by omega) rfl ?_
  refine z_callV_I X d_VT_scrap_9 cv_VT_67 (c_Row_length hV.2.2.1 (by omega)) c3 (by omega) rfl rfl ⟨rfl, rfl⟩ rfl (fun z3 h1 hp2 => ?_)
  obtain ⟨rfl, hh4⟩ := hp2
  rw [hh4]
  refine z_callV_V X d_VT_scrap_12 cv_VT_71 (c_Row_cut (a := 0) (b := c) hV.2.2.1 (by omega) (Nat.zero_le _) (Nat.le_refl _)) c3 (by omega) rfl rfl ⟨rfl, rfl⟩ rfl (fun h5 hp6 => ?_)
  obtain ⟨h8, h9⟩ := hp6
  rw [Nat.sub_zero, Nat.sub_self] at h8
  have hz0 : tx_ed p 0 c 0 p = fun _ => -1 := by
    refine tx_ext (n := 0) h8.ok ⟨fun i hi => absurd hi (Nat.not_lt_zero _), fun _ _ => rfl⟩ (fun i hi => absurd hi (Nat.not_lt_zero _))
  rw [hz0] at h8
  exact z_return X Q d_VT_scrap_15 ⟨hV.clip h8 (fun q q9 => h9 q (by omega) (by omega)), fun q q9 => h9 q (by omega) (by omega)⟩

set_option maxRecDepth 100000 in
set_option maxHeartbeats 4000000 in
theorem c_VT_insert {l : Launch} {G : lx_G} {N : Nat} {h : Nat → va_E} {n : Nat} {t : Nat → Int} {now last : Nat} {T : Nat → tx_T} {c : Nat} {p : Nat → Int} {kp : Nat → Bool} {V : Nat → tx_T} {g o en : Int} {a : Int} (hV : VT G h n t now last T c p kp V g o en) (hN : 42 ≤ N) (hr_a : -2147483648 ≤ a ∧ a < 2147483648) : CtI l G m_VT_insert N [.ref (ad (g_b G) 0), vI (a)] h (fun z h' => (ctk g n t c a a = true ∧ z = 1 ∧ VT G h' (n + c) (tx_ed t a.toNat a.toNat c p) (hn (ctp c p && decide (a = o)) now) (hl (ctp c p && decide (a = o)) now last) (hT (ctp c p && decide (a = o)) now T (n + c, tx_ed t a.toNat a.toNat c p)) c p kp V g (if ctp c p then a + 1 else -1) en ∧ (∀ q, 42 ≤ q → h' q = h q)) ∨ (ctk g n t c a a = false ∧ z = 0 ∧ VT G h' n t now last T c p kp V g o en ∧ (∀ q, 42 ≤ q → h' q = h q))) := by
  refine zI_of (by decide) rfl rfl ?_
  intro k X Q
  have X : Cx k G R_VT b_VT_insert 3 rm_VT_insert := X
  have Q : Rt k G (some (.boolean)) N 0 0 (pI (fun z h' => (ctk g n t c a a = true ∧ z = 1 ∧ VT G h' (n + c) (tx_ed t a.toNat a.toNat c p) (hn (ctp c p && decide (a = o)) now) (hl (ctp c p && decide (a = o)) now last) (hT (ctp c p && decide (a = o)) now T (n + c, tx_ed t a.toNat a.toNat c p)) c p kp V g (if ctp c p then a + 1 else -1) en ∧ (∀ q, 42 ≤ q → h' q = h q)) ∨ (ctk g n t c a a = false ∧ z = 0 ∧ VT G h' n t now last T c p kp V g o en ∧ (∀ q, 42 ≤ q → h' q = h q)))) := Q
  show Ev k G 3 N 0 0 h 0 [some (.ref (ad (g_b G) 0)), some (vI (a)), none] []
  have c0 := hV.1
  have c5 := hV.2.2.2.1
  refine e_aload_n X d_VT_insert_0 rfl ?_
  refine z_iload_n X d_VT_insert_1 rfl ?_
  refine z_iload_n X d_VT_insert_2 rfl ?_
  refine z_callV_I X d_VT_insert_3 cv_VT_75 (c_VT_canTakeClip hV hN hr_a hr_a) c0 (by omega) rfl rfl ⟨rfl, rfl⟩ rfl (fun z3 h1 hp2 => ?_)
  obtain ⟨rfl, hV2, hf2⟩ := hp2
  have c0b := hV2.1
  have c5b := hV2.2.2.2.1
  refine z_if_ne (tgt := 11) X d_VT_insert_6 (by decide) (b2z_r _) (fun q1 => ?_) (fun q1 => ?_)
  · have hck := b2z_ne q1
    have hck2 := hck
    simp only [ctk, Bool.and_eq_true, decide_eq_true_eq] at hck2
    have hrg := ced_rg hck2.2.1
    obtain ⟨i, rfl⟩ : ∃ i : Nat, a = (i : Int) := ⟨a.toNat, by omega⟩
    have hcl := hV.2.2.1.le
    have hle := hV.2.1.le
    refine e_aload_n X d_VT_insert_11 rfl ?_
    refine e_get X d_VT_insert_12 fl_VT_14 c0b (by omega) rfl ?_
    refine z_iload_n X d_VT_insert_15 rfl ?_
    refine e_aload_n X d_VT_insert_16 rfl ?_
    refine e_get X d_VT_insert_17 fl_VT_21 c0b (by omega) rfl ?_
    refine z_Tput X d_VT_insert_20 cf_VT_79_Row cf_VT_79_Gap hV2.2.1 (by omega) hV2.2.2.1 (by omega) (by omega) (by omega) (by omega) rfl (fun h4 hB5 hBf6 => ?_)
    have hV3 := hV2.text hB5 (fun q q9 => hBf6 q (by omega) (by omega))
    have c0c := hV3.1
    have c5c := hV3.2.2.2.1
    obtain ⟨_, c15c, -⟩ := id (hV3.2.2.2.2.2.2.2.1)
    have hf3 : ∀ q, 42 ≤ q → h4 q = h q := fun q q9 => (hBf6 q (by omega) (by omega)).trans (hf2 q q9)
    refine e_aload_n X d_VT_insert_25 rfl ?_
    refine z_callV_I X d_VT_insert_26 cv_VT_83 (c_VT_clipIsTyping hV3 hN) c0c (by omega) rfl rfl ⟨rfl, rfl⟩ rfl (fun z9 h7 hp8 => ?_)
    obtain ⟨rfl, hh10⟩ := hp8
    rw [hh10]
    refine e_istore_n X d_VT_insert_29 (by decide) ?_
    refine z_iload_n X d_VT_insert_30 rfl ?_
    refine z_if_eq (tgt := 56) X d_VT_insert_31 (by decide) (b2z_r _) (fun q2 => ?_) (fun q2 => ?_)
    · have hty := b2z_eq q2
      refine e_aload_n X d_VT_insert_56 rfl ?_
      refine e_get X d_VT_insert_57 fl_VT_38 c0c (by omega) rfl ?_
      refine e_aload_n X d_VT_insert_60 rfl ?_
      refine e_get X d_VT_insert_61 fl_VT_14 c0c (by omega) rfl ?_
      refine z_callV_V X d_VT_insert_64 cv_VT_91 (c_His_addStep hV3.2.2.2.2.2.2.2.1 (by omega) hV3.2.1 (by omega) (by omega)) c15c (by omega) rfl rfl ⟨rfl, rfl⟩ rfl (fun h11 hp12 => ?_)
      obtain ⟨hH, hHf⟩ := hp12
      have hV4 := hV3.hist hH (fun q q9 => hHf q q9)
      have c0d := hV4.1
      have c5d := hV4.2.2.2.1
      have hf4 : ∀ q, 42 ≤ q → h11 q = h q := fun q q9 => (hHf q (by omega)).trans (hf3 q q9)
      refine e_aload_n X d_VT_insert_67 rfl ?_
      refine z_iload_n X d_VT_insert_68 rfl ?_
      refine z_if_eq (tgt := 78) X d_VT_insert_69 (by decide) (b2z_r _) (fun q8 => ?_) (fun q8 => ?_)
      · refine z_iconst X d_VT_insert_78 ?_
        refine z_put X d_VT_insert_79 fl_VT_60 c0d (by omega) (Nat.le_of_ble_eq_true rfl) rfl rfl (fun h14 c15 fr16 => ?_)
        have c15 : h14 0 = ob ci_VT [.ref (ad (g_b G) 1), .ref (ad (g_b G) 3), .ref (ad (g_b G) 5), .ref (ad (g_b G) 6), .ref (ad (g_b G) 15), .ref (ad (g_b G) 35), .ref (ad (g_b G) 38), vI (g), vI (-1)] := c15
        have c17 := (fr16 5 (by omega)).trans c5d
        refine z_iconst X d_VT_insert_82 ?_
        have hVf := hV4.obj c15 hV.2.2.2.2.2.2.2.2.2.2.1 (by omega) (fun q q9 => fr16 q q9)
        exact z_ireturn X Q d_VT_insert_83 rfl (Or.inl ⟨hck, rfl, (by rw [hty, show (false && decide (((i : Nat) : Int) = o)) = false from rfl]; exact hVf), fun q q9 => (fr16 q (by omega)).trans (hf4 q q9)⟩)
      · exact absurd (b2z_ne q8) (by rw [hty]; decide)
    · have hty := b2z_ne q2
      have hoo := hV.2.2.2.2.2.2.2.2.2.2.2
      refine z_iload_n X d_VT_insert_34 rfl ?_
      refine e_aload_n X d_VT_insert_35 rfl ?_
      refine e_get X d_VT_insert_36 fl_VT_60 c0c (by omega) rfl ?_
      refine z_icmp_ne (tgt := 56) X d_VT_insert_39 (by decide) (by omega) (fun q3 => ?_) (fun q3 => ?_)
      · have hio : ¬ ((i : Nat) : Int) = o := q3
        refine e_aload_n X d_VT_insert_56 rfl ?_
        refine e_get X d_VT_insert_57 fl_VT_38 c0c (by omega) rfl ?_
        refine e_aload_n X d_VT_insert_60 rfl ?_
        refine e_get X d_VT_insert_61 fl_VT_14 c0c (by omega) rfl ?_
        refine z_callV_V X d_VT_insert_64 cv_VT_91 (c_His_addStep hV3.2.2.2.2.2.2.2.1 (by omega) hV3.2.1 (by omega) (by omega)) c15c (by omega) rfl rfl ⟨rfl, rfl⟩ rfl (fun h18 hp19 => ?_)
        obtain ⟨hH, hHf⟩ := hp19
        have hV4 := hV3.hist hH (fun q q9 => hHf q q9)
        have c0d := hV4.1
        have c5d := hV4.2.2.2.1
        have hf4 : ∀ q, 42 ≤ q → h18 q = h q := fun q q9 => (hHf q (by omega)).trans (hf3 q q9)
        refine e_aload_n X d_VT_insert_67 rfl ?_
        refine z_iload_n X d_VT_insert_68 rfl ?_
        refine z_if_eq (tgt := 78) X d_VT_insert_69 (by decide) (b2z_r _) (fun q8 => ?_) (fun q8 => ?_)
        · exact absurd (b2z_eq q8) (by rw [hty]; decide)
        · refine z_iload_n X d_VT_insert_72 rfl ?_
          refine z_iconst X d_VT_insert_73 ?_
          refine z_iadd X d_VT_insert_74 ?_
          refine e_goto (tgt := 79) X d_VT_insert_75 (by decide) ?_
          refine z_put X d_VT_insert_79 fl_VT_60 c0d (by omega) (Nat.le_of_ble_eq_true rfl) rfl rfl (fun h21 c22 fr23 => ?_)
          have c22 : h21 0 = ob ci_VT [.ref (ad (g_b G) 1), .ref (ad (g_b G) 3), .ref (ad (g_b G) 5), .ref (ad (g_b G) 6), .ref (ad (g_b G) 15), .ref (ad (g_b G) 35), .ref (ad (g_b G) 38), vI (g), vI (((i : Nat) : Int) + 1)] := c22
          have c24 := (fr23 5 (by omega)).trans c5d
          refine z_iconst X d_VT_insert_82 ?_
          have hVf := hV4.obj c22 hV.2.2.2.2.2.2.2.2.2.2.1 (by omega) (fun q q9 => fr23 q q9)
          exact z_ireturn X Q d_VT_insert_83 rfl (Or.inl ⟨hck, rfl, (by rw [hty, show (true && decide (((i : Nat) : Int) = o)) = false from by rw [decide_eq_false hio]; rfl]; exact hVf), fun q q9 => (fr23 q (by omega)).trans (hf4 q q9)⟩)
      · have hio : ((i : Nat) : Int) = o := q3
        refine e_aload_n X d_VT_insert_42 rfl ?_
        refine e_get X d_VT_insert_43 fl_VT_38 c0c (by omega) rfl ?_
        refine e_aload_n X d_VT_insert_46 rfl ?_
        refine e_get X d_VT_insert_47 fl_VT_14 c0c (by omega) rfl ?_
        refine z_callV_V X d_VT_insert_50 cv_VT_87 (c_His_extendStep hV3.2.2.2.2.2.2.2.1 (by omega) hV3.2.1 (by omega) (by omega)) c15c (by omega) rfl rfl ⟨rfl, rfl⟩ rfl (fun h25 hp26 => ?_)
        obtain ⟨hH, hHf⟩ := hp26
        have hV4 := hV3.hist hH (fun q q9 => hHf q q9)
        have c0d := hV4.1
        have c5d := hV4.2.2.2.1
        have hf4 : ∀ q, 42 ≤ q → h25 q = h q := fun q q9 => (hHf q (by omega)).trans (hf3 q q9)
        refine e_goto (tgt := 67) X d_VT_insert_53 (by decide) ?_
        refine e_aload_n X d_VT_insert_67 rfl ?_
        refine z_iload_n X d_VT_insert_68 rfl ?_
        refine z_if_eq (tgt := 78) X d_VT_insert_69 (by decide) (b2z_r _) (fun q8 => ?_) (fun q8 => ?_)
        · exact absurd (b2z_eq q8) (by rw [hty]; decide)
        · refine z_iload_n X d_VT_insert_72 rfl ?_
          refine z_iconst X d_VT_insert_73 ?_
          refine z_iadd X d_VT_insert_74 ?_
          refine e_goto (tgt := 79) X d_VT_insert_75 (by decide) ?_
          refine z_put X d_VT_insert_79 fl_VT_60 c0d (by omega) (Nat.le_of_ble_eq_true rfl) rfl rfl (fun h28 c29 fr30 => ?_)
          have c29 : h28 0 = ob ci_VT [.ref (ad (g_b G) 1), .ref (ad (g_b G) 3), .ref (ad (g_b G) 5), .ref (ad (g_b G) 6), .ref (ad (g_b G) 15), .ref (ad (g_b G) 35), .ref (ad (g_b G) 38), vI (g), vI (((i : Nat) : Int) + 1)] := c29
          have c31 := (fr30 5 (by omega)).trans c5d
          refine z_iconst X d_VT_insert_82 ?_
          have hVf := hV4.obj c29 hV.2.2.2.2.2.2.2.2.2.2.1 (by omega) (fun q q9 => fr30 q q9)
          exact z_ireturn X Q d_VT_insert_83 rfl (Or.inl ⟨hck, rfl, (by rw [hty, decide_eq_true hio]; exact hVf), fun q q9 => (fr30 q (by omega)).trans (hf4 q q9)⟩)
  · refine z_iconst X d_VT_insert_9 ?_
    exact z_ireturn X Q d_VT_insert_10 rfl (Or.inr ⟨b2z_eq q1, rfl, hV2, hf2⟩)
end
section
set_option maxRecDepth 100000 in
set_option maxHeartbeats 4000000 in
theorem c_VT_remove {l : Launch} {G : lx_G} {N : Nat} {h : Nat → va_E} {n : Nat} {t : Nat → Int} {now last : Nat} {T : Nat → tx_T} {c : Nat} {p : Nat → Int} {kp : Nat → Bool} {V : Nat → tx_T} {g o en : Int} {a b : Int} (hV : VT G h n t now last T c p kp V g o en) (hN : 42 ≤ N) (hr_a : -2147483648 ≤ a ∧ a < 2147483648) (hr_b : -2147483648 ≤ b ∧ b < 2147483648) : CtI l G m_VT_remove N [.ref (ad (g_b G) 0), vI (a), vI (b)] h (fun z h' => ((decide (¬ a = b) && ced g n t a b) = true ∧ z = 1 ∧ VT G h' (n - (b.toNat - a.toNat)) (tx_ed t a.toNat b.toNat 0 t) (hp_now now) (hp_now now) (hp_T now T ((n - (b.toNat - a.toNat)), tx_ed t a.toNat b.toNat 0 t)) c p kp V g (-1) en ∧ (∀ q, 42 ≤ q → h' q = h q)) ∨ ((decide (¬ a = b) && ced g n t a b) = false ∧ z = 0 ∧ VT G h' n t now last T c p kp V g o en ∧ (∀ q, 42 ≤ q → h' q = h q))) := by
  refine zI_of (by decide) rfl rfl ?_
  intro k X Q
  have X : Cx k G R_VT b_VT_remove 3 rm_VT_remove := X
  have Q : Rt k G (some (.boolean)) N 0 0 (pI (fun z h' => ((decide (¬ a = b) && ced g n t a b) = true ∧ z = 1 ∧ VT G h' (n - (b.toNat - a.toNat)) (tx_ed t a.toNat b.toNat 0 t) (hp_now now) (hp_now now) (hp_T now T ((n - (b.toNat - a.toNat)), tx_ed t a.toNat b.toNat 0 t)) c p kp V g (-1) en ∧ (∀ q, 42 ≤ q → h' q = h q)) ∨ ((decide (¬ a = b) && ced g n t a b) = false ∧ z = 0 ∧ VT G h' n t now last T c p kp V g o en ∧ (∀ q, 42 ≤ q → h' q = h q)))) := Q
  show Ev k G 3 N 0 0 h 0 [some (.ref (ad (g_b G) 0)), some (vI (a)), some (vI (b))] []
  have c0 := hV.1
  have c5 := hV.2.2.2.1
  refine z_iload_n X d_VT_remove_0 rfl ?_
  refine z_iload_n X d_VT_remove_1 rfl ?_
  refine z_icmp_eq (tgt := 14) X d_VT_remove_2 (by decide) (by omega) (fun q1 => ?_) (fun q1 => ?_)
  · refine z_iconst X d_VT_remove_14 ?_
    exact z_ireturn X Q d_VT_remove_15 rfl (Or.inr ⟨by rw [decide_eq_false (show ¬ ¬ a = b from fun q9 => q9 q1)]; rfl, rfl, hV, fun q _ => rfl⟩)
  · have hab : decide (¬ a = b) = true := decide_eq_true q1
    refine e_aload_n X d_VT_remove_5 rfl ?_
    refine z_iload_n X d_VT_remove_6 rfl ?_
    refine z_iload_n X d_VT_remove_7 rfl ?_
    refine z_callV_I X d_VT_remove_8 cv_VT_94 (c_VT_canEdit hV hN hr_a hr_b) c0 (by omega) rfl rfl ⟨rfl, rfl⟩ rfl (fun z3 h1 hp2 => ?_)
    obtain ⟨rfl, hV2, hf2⟩ := hp2
    have c0b := hV2.1
    have c5b := hV2.2.2.2.1
    refine z_if_ne (tgt := 16) X d_VT_remove_11 (by decide) (b2z_r _) (fun q2 => ?_) (fun q2 => ?_)
    · have hck := b2z_ne q2
      have hrg := ced_rg hck
      have hle := hV.2.1.le
      obtain ⟨i, rfl⟩ : ∃ i : Nat, a = (i : Int) := ⟨a.toNat, by omega⟩
      obtain ⟨j, rfl⟩ : ∃ j : Nat, b = (j : Int) := ⟨b.toNat, by omega⟩
      refine e_aload_n X d_VT_remove_16 rfl ?_
      refine e_get X d_VT_remove_17 fl_VT_14 c0b (by omega) rfl ?_
      refine z_iload_n X d_VT_remove_20 rfl ?_
      refine z_iload_n X d_VT_remove_21 rfl ?_
      refine z_Tcut X d_VT_remove_22 cf_VT_97_Row cf_VT_97_Gap hV2.2.1 (by omega) (by omega) (by omega) rfl (fun h4 hB5 hBf6 => ?_)
      have hV3 := hV2.text hB5 (fun q q9 => hBf6 q (by omega) (by omega))
      have c0c := hV3.1
      have c5c := hV3.2.2.2.1
      refine e_aload_n X d_VT_remove_27 rfl ?_
      refine z_callV_V X d_VT_remove_28 cv_VT_98 (c_VT_addClosedStep hV3 hN) c0c (by omega) rfl rfl ⟨rfl, rfl⟩ rfl (fun h7 hp8 => ?_)
      obtain ⟨hV4, hf4⟩ := hp8
      refine z_iconst X d_VT_remove_31 ?_
      exact z_ireturn X Q d_VT_remove_32 rfl (Or.inl ⟨by rw [hab, hck]; rfl, rfl, hV4, fun q q9 => (hf4 q q9).trans ((hBf6 q (by omega) (by omega)).trans (hf2 q q9))⟩)
    · refine z_iconst X d_VT_remove_14 ?_
      exact z_ireturn X Q d_VT_remove_15 rfl (Or.inr ⟨by rw [hab, b2z_eq q2]; rfl, rfl, hV2, hf2⟩)

set_option maxRecDepth 100000 in
set_option maxHeartbeats 4000000 in
theorem c_VT_replace {l : Launch} {G : lx_G} {N : Nat} {h : Nat → va_E} {n : Nat} {t : Nat → Int} {now last : Nat} {T : Nat → tx_T} {c : Nat} {p : Nat → Int} {kp : Nat → Bool} {V : Nat → tx_T} {g o en : Int} {a b : Int} (hV : VT G h n t now last T c p kp V g o en) (hN : 42 ≤ N) (hr_a : -2147483648 ≤ a ∧ a < 2147483648) (hr_b : -2147483648 ≤ b ∧ b < 2147483648) : CtI l G m_VT_replace N [.ref (ad (g_b G) 0), vI (a), vI (b)] h (fun z h' => (ctk g n t c a b = true ∧ z = 1 ∧ VT G h' (n - (b.toNat - a.toNat) + c) (tx_ed t a.toNat b.toNat c p) (hp_now now) (hp_now now) (hp_T now T ((n - (b.toNat - a.toNat) + c), tx_ed t a.toNat b.toNat c p)) c p kp V g (-1) en ∧ (∀ q, 42 ≤ q → h' q = h q)) ∨ (ctk g n t c a b = false ∧ z = 0 ∧ VT G h' n t now last T c p kp V g o en ∧ (∀ q, 42 ≤ q → h' q = h q))) := by
  refine zI_of (by decide) rfl rfl ?_
  intro k X Q
  have X : Cx k G R_VT b_VT_replace 3 rm_VT_replace := X
  have Q : Rt k G (some (.boolean)) N 0 0 (pI (fun z h' => (ctk g n t c a b = true ∧ z = 1 ∧ VT G h' (n - (b.toNat - a.toNat) + c) (tx_ed t a.toNat b.toNat c p) (hp_now now) (hp_now now) (hp_T now T ((n - (b.toNat - a.toNat) + c), tx_ed t a.toNat b.toNat c p)) c p kp V g (-1) en ∧ (∀ q, 42 ≤ q → h' q = h q)) ∨ (ctk g n t c a b = false ∧ z = 0 ∧ VT G h' n t now last T c p kp V g o en ∧ (∀ q, 42 ≤ q → h' q = h q)))) := Q
  show Ev k G 3 N 0 0 h 0 [some (.ref (ad (g_b G) 0)), some (vI (a)), some (vI (b))] []
  have c0 := hV.1
  have c5 := hV.2.2.2.1
  refine e_aload_n X d_VT_replace_0 rfl ?_
  refine z_iload_n X d_VT_replace_1 rfl ?_
  refine z_iload_n X d_VT_replace_2 rfl ?_
  refine z_callV_I X d_VT_replace_3 cv_VT_75 (c_VT_canTakeClip hV hN hr_a hr_b) c0 (by omega) rfl rfl ⟨rfl, rfl⟩ rfl (fun z3 h1 hp2 => ?_)
  obtain ⟨rfl, hV2, hf2⟩ := hp2
  have c0b := hV2.1
  have c5b := hV2.2.2.2.1
  refine z_if_ne (tgt := 11) X d_VT_replace_6 (by decide) (b2z_r _) (fun q1 => ?_) (fun q1 => ?_)
  · have hck := b2z_ne q1
    have hck2 := hck
    simp only [ctk, Bool.and_eq_true, decide_eq_true_eq] at hck2
    have hrg := ced_rg hck2.2.1
    obtain ⟨i, rfl⟩ : ∃ i : Nat, a = (i : Int) := ⟨a.toNat, by omega⟩
    obtain ⟨j, rfl⟩ : ∃ j : Nat, b = (j : Int) := ⟨b.toNat, by omega⟩
    have hcl := hV.2.2.1.le
    have hle := hV.2.1.le
    refine e_aload_n X d_VT_replace_11 rfl ?_
    refine e_get X d_VT_replace_12 fl_VT_14 c0b (by omega) rfl ?_
    refine z_iload_n X d_VT_replace_15 rfl ?_
    refine z_iload_n X d_VT_replace_16 rfl ?_
    refine z_Tcut X d_VT_replace_17 cf_VT_97_Row cf_VT_97_Gap hV2.2.1 (by omega) (by omega) (by omega) rfl (fun h4 hB5 hBf6 => ?_)
    have hV3 := hV2.text hB5 (fun q q9 => hBf6 q (by omega) (by omega))
    have c0c := hV3.1
    have c5c := hV3.2.2.2.1
    refine e_aload_n X d_VT_replace_22 rfl ?_
    refine e_get X d_VT_replace_23 fl_VT_14 c0c (by omega) rfl ?_
    refine z_iload_n X d_VT_replace_26 rfl ?_
    refine e_aload_n X d_VT_replace_27 rfl ?_
    refine e_get X d_VT_replace_28 fl_VT_21 c0c (by omega) rfl ?_
    refine z_Tput X d_VT_replace_31 cf_VT_79_Row cf_VT_79_Gap hV3.2.1 (by omega) hV3.2.2.1 (by omega) (by omega) (by omega) (by omega) rfl (fun h7 hB8 hBf9 => ?_)
    have hV4 := hV3.text hB8 (fun q q9 => hBf9 q (by omega) (by omega))
    have c0d := hV4.1
    have c5d := hV4.2.2.2.1
    rw [tx_ed_ed (by omega)] at hV4
    refine e_aload_n X d_VT_replace_36 rfl ?_
    refine z_callV_V X d_VT_replace_37 cv_VT_98 (c_VT_addClosedStep hV4 hN) c0d (by omega) rfl rfl ⟨rfl, rfl⟩ rfl (fun h10 hp11 => ?_)
    obtain ⟨hV5, hf5⟩ := hp11
    refine z_iconst X d_VT_replace_40 ?_
    exact z_ireturn X Q d_VT_replace_41 rfl (Or.inl ⟨hck, rfl, hV5, fun q q9 => (hf5 q q9).trans ((hBf9 q (by omega) (by omega)).trans ((hBf6 q (by omega) (by omega)).trans (hf2 q q9)))⟩)
  · refine z_iconst X d_VT_replace_9 ?_
    exact z_ireturn X Q d_VT_replace_10 rfl (Or.inr ⟨b2z_eq q1, rfl, hV2, hf2⟩)

set_option maxRecDepth 100000 in
set_option maxHeartbeats 4000000 in
theorem c_VT_undo {l : Launch} {G : lx_G} {N : Nat} {h : Nat → va_E} {n : Nat} {t : Nat → Int} {now last : Nat} {T : Nat → tx_T} {c : Nat} {p : Nat → Int} {kp : Nat → Bool} {V : Nat → tx_T} {g o en : Int} (hV : VT G h n t now last T c p kp V g o en) (hN : 42 ≤ N) : CtI l G m_VT_undo N [.ref (ad (g_b G) 0)] h (fun z h' => (0 < now ∧ z = 1 ∧ VT G h' (T (now - 1)).1 (T (now - 1)).2 (now - 1) last T c p kp V g (-1) en ∧ (∀ q, 42 ≤ q → h' q = h q)) ∨ (now = 0 ∧ z = 0 ∧ VT G h' n t now last T c p kp V g o en ∧ (∀ q, 42 ≤ q → h' q = h q))) := by
  refine zI_of (by decide) rfl rfl ?_
  intro k X Q
  have X : Cx k G R_VT b_VT_undo 1 rm_VT_undo := X
  have Q : Rt k G (some (.boolean)) N 0 0 (pI (fun z h' => (0 < now ∧ z = 1 ∧ VT G h' (T (now - 1)).1 (T (now - 1)).2 (now - 1) last T c p kp V g (-1) en ∧ (∀ q, 42 ≤ q → h' q = h q)) ∨ (now = 0 ∧ z = 0 ∧ VT G h' n t now last T c p kp V g o en ∧ (∀ q, 42 ≤ q → h' q = h q)))) := Q
  show Ev k G 1 N 0 0 h 0 [some (.ref (ad (g_b G) 0))] []
  have c0 := hV.1
  have c5 := hV.2.2.2.1
  obtain ⟨_, c15, -⟩ := id (hV.2.2.2.2.2.2.2.1)
  obtain ⟨old9, -, -, -, hnl, hl8, -, -⟩ := id hV.2.2.2.2.2.2.2.1
  refine e_aload_n X d_VT_undo_0 rfl ?_
  refine e_get X d_VT_undo_1 fl_VT_38 c0 (by omega) rfl ?_
  refine z_callV_I X d_VT_undo_4 cv_VT_101 (c_His_undoable hV.2.2.2.2.2.2.2.1 (by omega)) c15 (by omega) rfl rfl ⟨rfl, rfl⟩ rfl (fun z3 h1 hp2 => ?_)
  obtain ⟨rfl, hh4⟩ := hp2
  rw [hh4]
  refine z_if_ne (tgt := 12) X d_VT_undo_7 (by decide) (by omega) (fun q1 => ?_) (fun q1 => ?_)
  · refine e_aload_n X d_VT_undo_12 rfl ?_
    refine e_get X d_VT_undo_13 fl_VT_38 c0 (by omega) rfl ?_
    refine e_aload_n X d_VT_undo_16 rfl ?_
    refine e_get X d_VT_undo_17 fl_VT_14 c0 (by omega) rfl ?_
    refine z_callV_V X d_VT_undo_20 cv_VT_104 (c_His_goBack hV.2.2.2.2.2.2.2.1 (by omega) hV.2.1 (by omega) (by omega) (by omega)) c15 (by omega) rfl rfl ⟨rfl, rfl⟩ rfl (fun h5 hp6 => ?_)
    obtain ⟨hH, hT1, hHf⟩ := hp6
    have hV2 := hV.both hT1 hH (fun q q9 => hHf q (by omega) (by omega))
    have c0b := hV2.1
    have c5b := hV2.2.2.2.1
    refine e_aload_n X d_VT_undo_23 rfl ?_
    refine z_iconst X d_VT_undo_24 ?_
    refine z_put X d_VT_undo_25 fl_VT_60 c0b (by omega) (Nat.le_of_ble_eq_true rfl) rfl rfl (fun h8 c9 fr10 => ?_)
    have c9 : h8 0 = ob ci_VT [.ref (ad (g_b G) 1), .ref (ad (g_b G) 3), .ref (ad (g_b G) 5), .ref (ad (g_b G) 6), .ref (ad (g_b G) 15), .ref (ad (g_b G) 35), .ref (ad (g_b G) 38), vI (g), vI (-1)] := c9
    have c11 := (fr10 5 (by omega)).trans c5b
    refine z_iconst X d_VT_undo_28 ?_
    exact z_ireturn X Q d_VT_undo_29 rfl (Or.inl ⟨by omega, rfl, hV2.obj c9 hV.2.2.2.2.2.2.2.2.2.2.1 (by omega) (fun q q9 => fr10 q q9), fun q q9 => (fr10 q (by omega)).trans (hHf q (by omega) (by omega))⟩)
  · refine z_iconst X d_VT_undo_10 ?_
    exact z_ireturn X Q d_VT_undo_11 rfl (Or.inr ⟨by omega, rfl, hV, fun q _ => rfl⟩)

set_option maxRecDepth 100000 in
set_option maxHeartbeats 4000000 in
theorem c_VT_redo {l : Launch} {G : lx_G} {N : Nat} {h : Nat → va_E} {n : Nat} {t : Nat → Int} {now last : Nat} {T : Nat → tx_T} {c : Nat} {p : Nat → Int} {kp : Nat → Bool} {V : Nat → tx_T} {g o en : Int} (hV : VT G h n t now last T c p kp V g o en) (hN : 42 ≤ N) : CtI l G m_VT_redo N [.ref (ad (g_b G) 0)] h (fun z h' => (now < last ∧ z = 1 ∧ VT G h' (T (now + 1)).1 (T (now + 1)).2 (now + 1) last T c p kp V g (-1) en ∧ (∀ q, 42 ≤ q → h' q = h q)) ∨ (last ≤ now ∧ z = 0 ∧ VT G h' n t now last T c p kp V g o en ∧ (∀ q, 42 ≤ q → h' q = h q))) := by
  refine zI_of (by decide) rfl rfl ?_
  intro k X Q
  have X : Cx k G R_VT b_VT_redo 1 rm_VT_redo := X
  have Q : Rt k G (some (.boolean)) N 0 0 (pI (fun z h' => (now < last ∧ z = 1 ∧ VT G h' (T (now + 1)).1 (T (now + 1)).2 (now + 1) last T c p kp V g (-1) en ∧ (∀ q, 42 ≤ q → h' q = h q)) ∨ (last ≤ now ∧ z = 0 ∧ VT G h' n t now last T c p kp V g o en ∧ (∀ q, 42 ≤ q → h' q = h q)))) := Q
  show Ev k G 1 N 0 0 h 0 [some (.ref (ad (g_b G) 0))] []
  have c0 := hV.1
  have c5 := hV.2.2.2.1
  obtain ⟨_, c15, -⟩ := id (hV.2.2.2.2.2.2.2.1)
  obtain ⟨old9, -, -, -, hnl, hl8, -, -⟩ := id hV.2.2.2.2.2.2.2.1
  refine e_aload_n X d_VT_redo_0 rfl ?_
  refine e_get X d_VT_redo_1 fl_VT_38 c0 (by omega) rfl ?_
  refine z_callV_I X d_VT_redo_4 cv_VT_107 (c_His_redoable hV.2.2.2.2.2.2.2.1 (by omega)) c15 (by omega) rfl rfl ⟨rfl, rfl⟩ rfl (fun z3 h1 hp2 => ?_)
  obtain ⟨rfl, hh4⟩ := hp2
  rw [hh4]
  refine z_if_ne (tgt := 12) X d_VT_redo_7 (by decide) (by omega) (fun q1 => ?_) (fun q1 => ?_)
  · refine e_aload_n X d_VT_redo_12 rfl ?_
    refine e_get X d_VT_redo_13 fl_VT_38 c0 (by omega) rfl ?_
    refine e_aload_n X d_VT_redo_16 rfl ?_
    refine e_get X d_VT_redo_17 fl_VT_14 c0 (by omega) rfl ?_
    refine z_callV_V X d_VT_redo_20 cv_VT_110 (c_His_goForward hV.2.2.2.2.2.2.2.1 (by omega) hV.2.1 (by omega) (by omega) (by omega)) c15 (by omega) rfl rfl ⟨rfl, rfl⟩ rfl (fun h5 hp6 => ?_)
    obtain ⟨hH, hT1, hHf⟩ := hp6
    have hV2 := hV.both hT1 hH (fun q q9 => hHf q (by omega) (by omega))
    have c0b := hV2.1
    have c5b := hV2.2.2.2.1
    refine e_aload_n X d_VT_redo_23 rfl ?_
    refine z_iconst X d_VT_redo_24 ?_
    refine z_put X d_VT_redo_25 fl_VT_60 c0b (by omega) (Nat.le_of_ble_eq_true rfl) rfl rfl (fun h8 c9 fr10 => ?_)
    have c9 : h8 0 = ob ci_VT [.ref (ad (g_b G) 1), .ref (ad (g_b G) 3), .ref (ad (g_b G) 5), .ref (ad (g_b G) 6), .ref (ad (g_b G) 15), .ref (ad (g_b G) 35), .ref (ad (g_b G) 38), vI (g), vI (-1)] := c9
    have c11 := (fr10 5 (by omega)).trans c5b
    refine z_iconst X d_VT_redo_28 ?_
    exact z_ireturn X Q d_VT_redo_29 rfl (Or.inl ⟨by omega, rfl, hV2.obj c9 hV.2.2.2.2.2.2.2.2.2.2.1 (by omega) (fun q q9 => fr10 q q9), fun q q9 => (fr10 q (by omega)).trans (hHf q (by omega) (by omega))⟩)
  · refine z_iconst X d_VT_redo_10 ?_
    exact z_ireturn X Q d_VT_redo_11 rfl (Or.inr ⟨by omega, rfl, hV, fun q _ => rfl⟩)

def stp (now last : Nat) (a : Int) : Int := if a = 0 then ((now : Nat) : Int) else if a = 1 then ((last - now : Nat) : Int) else -1
set_option maxRecDepth 100000 in
set_option maxHeartbeats 4000000 in
theorem c_VT_steps {l : Launch} {G : lx_G} {N : Nat} {h : Nat → va_E} {n : Nat} {t : Nat → Int} {now last : Nat} {T : Nat → tx_T} {c : Nat} {p : Nat → Int} {kp : Nat → Bool} {V : Nat → tx_T} {g o en : Int} {a : Int} (hV : VT G h n t now last T c p kp V g o en) (hN : 42 ≤ N) (hr_a : -2147483648 ≤ a ∧ a < 2147483648) : CtI l G m_VT_steps N [.ref (ad (g_b G) 0), vI (a)] h (fun z h' => z = stp now last a ∧ h' = h) := by
  refine zI_of (by decide) rfl rfl ?_
  intro k X Q
  have X : Cx k G R_VT b_VT_steps 2 rm_VT_steps := X
  have Q : Rt k G (some (.int)) N 0 0 (pI (fun z h' => z = stp now last a ∧ h' = h)) := Q
  show Ev k G 2 N 0 0 h 0 [some (.ref (ad (g_b G) 0)), some (vI (a))] []
  have c0 := hV.1
  have c5 := hV.2.2.2.1
  obtain ⟨_, c15, -⟩ := id (hV.2.2.2.2.2.2.2.1)
  refine z_iload_n X d_VT_steps_0 rfl ?_
  by_cases h0 : a = 0
  · refine z_lookup (off := 27) (tgt := 28) X d_VT_steps_1 (by decide) hr_a (by rw [h0]; rfl) (by decide) ?_
    refine e_aload_n X d_VT_steps_28 rfl ?_
    refine e_get X d_VT_steps_29 fl_VT_38 c0 (by omega) rfl ?_
    refine z_callV_I X d_VT_steps_32 cv_VT_101 (c_His_undoable hV.2.2.2.2.2.2.2.1 (by omega)) c15 (by omega) rfl rfl ⟨rfl, rfl⟩ rfl (fun z3 h1 hp2 => ?_)
    obtain ⟨rfl, hh4⟩ := hp2
    rw [hh4]
    exact z_ireturn X Q d_VT_steps_35 rfl ⟨by unfold stp; rw [if_pos h0], rfl⟩
  · by_cases h1 : a = 1
    · refine z_lookup (off := 35) (tgt := 36) X d_VT_steps_1 (by decide) hr_a (by rw [h1]; rfl) (by decide) ?_
      refine e_aload_n X d_VT_steps_36 rfl ?_
      refine e_get X d_VT_steps_37 fl_VT_38 c0 (by omega) rfl ?_
      refine z_callV_I X d_VT_steps_40 cv_VT_107 (c_His_redoable hV.2.2.2.2.2.2.2.1 (by omega)) c15 (by omega) rfl rfl ⟨rfl, rfl⟩ rfl (fun z7 h5 hp6 => ?_)
      obtain ⟨rfl, hh8⟩ := hp6
      rw [hh8]
      exact z_ireturn X Q d_VT_steps_43 rfl ⟨by unfold stp; rw [if_neg h0, if_pos h1], rfl⟩
    · refine z_lookup (off := 43) (tgt := 44) X d_VT_steps_1 (by decide) hr_a (by show Op.lookupswitch.offset [(0, 27), (1, 35)] 43 a = 43; rw [Op.lookupswitch.offset_cons, if_neg (fun q9 => h0 q9.symm), Op.lookupswitch.offset_cons, if_neg (fun q9 => h1 q9.symm)]; rfl) (by decide) ?_
      refine z_iconst X d_VT_steps_44 ?_
      exact z_ireturn X Q d_VT_steps_45 rfl ⟨by unfold stp; rw [if_neg h0, if_neg h1], rfl⟩

set_option maxRecDepth 100000 in
set_option maxHeartbeats 4000000 in
theorem c_VT_seal {l : Launch} {G : lx_G} {N : Nat} {h : Nat → va_E} {n : Nat} {t : Nat → Int} {now last : Nat} {T : Nat → tx_T} {c : Nat} {p : Nat → Int} {kp : Nat → Bool} {V : Nat → tx_T} {g o en : Int} (hV : VT G h n t now last T c p kp V g o en) (hN : 42 ≤ N) : CtV l G m_VT_seal N [.ref (ad (g_b G) 0)] h (fun h' => VT G h' n t now last T c p kp V g (-1) en ∧ (∀ q, 42 ≤ q → h' q = h q)) := by
  refine zV_of (by decide) rfl rfl ?_
  intro k X Q
  have X : Cx k G R_VT b_VT_seal 1 rm_VT_seal := X
  have Q : Rt k G none N 0 0 (pV (fun h' => VT G h' n t now last T c p kp V g (-1) en ∧ (∀ q, 42 ≤ q → h' q = h q))) := Q
  show Ev k G 1 N 0 0 h 0 [some (.ref (ad (g_b G) 0))] []
  have c0 := hV.1
  have c5 := hV.2.2.2.1
  refine e_aload_n X d_VT_seal_0 rfl ?_
  refine z_iconst X d_VT_seal_1 ?_
  refine z_put X d_VT_seal_2 fl_VT_60 c0 (by omega) (Nat.le_of_ble_eq_true rfl) rfl rfl (fun h1 c2 fr3 => ?_)
  have c2 : h1 0 = ob ci_VT [.ref (ad (g_b G) 1), .ref (ad (g_b G) 3), .ref (ad (g_b G) 5), .ref (ad (g_b G) 6), .ref (ad (g_b G) 15), .ref (ad (g_b G) 35), .ref (ad (g_b G) 38), vI (g), vI (-1)] := c2
  have c4 := (fr3 5 (by omega)).trans c5
  exact z_return X Q d_VT_seal_5 ⟨hV.obj c2 hV.2.2.2.2.2.2.2.2.2.2.1 (by omega) (fun q q9 => fr3 q q9), fun q q9 => fr3 q (by omega)⟩

set_option maxRecDepth 100000 in
set_option maxHeartbeats 4000000 in
theorem c_VT_guard {l : Launch} {G : lx_G} {N : Nat} {h : Nat → va_E} {n : Nat} {t : Nat → Int} {now last : Nat} {T : Nat → tx_T} {c : Nat} {p : Nat → Int} {kp : Nat → Bool} {V : Nat → tx_T} {g o en : Int} {a : Int} (hV : VT G h n t now last T c p kp V g o en) (hN : 42 ≤ N) (hr_a : -2147483648 ≤ a ∧ a < 2147483648) : CtI l G m_VT_guard N [.ref (ad (g_b G) 0), vI (a)] h (fun z h' => ((a = 0 ∨ a = 1 ∨ a = 3) ∧ z = 1 ∧ VT G h' n t now last T c p kp V a (-1) en ∧ (∀ q, 42 ≤ q → h' q = h q)) ∨ (¬ (a = 0 ∨ a = 1 ∨ a = 3) ∧ z = 0 ∧ VT G h' n t now last T c p kp V g o en ∧ (∀ q, 42 ≤ q → h' q = h q))) := by
  refine zI_of (by decide) rfl rfl ?_
  intro k X Q
  have X : Cx k G R_VT b_VT_guard 2 rm_VT_guard := X
  have Q : Rt k G (some (.boolean)) N 0 0 (pI (fun z h' => ((a = 0 ∨ a = 1 ∨ a = 3) ∧ z = 1 ∧ VT G h' n t now last T c p kp V a (-1) en ∧ (∀ q, 42 ≤ q → h' q = h q)) ∨ (¬ (a = 0 ∨ a = 1 ∨ a = 3) ∧ z = 0 ∧ VT G h' n t now last T c p kp V g o en ∧ (∀ q, 42 ≤ q → h' q = h q)))) := Q
  show Ev k G 2 N 0 0 h 0 [some (.ref (ad (g_b G) 0)), some (vI (a))] []
  have c0 := hV.1
  have c5 := hV.2.2.2.1
  refine z_iload_n X d_VT_guard_0 rfl ?_
  refine z_if_eq (tgt := 16) X d_VT_guard_1 (by decide) (by omega) (fun q1 => ?_) (fun q1 => ?_)
  · refine e_aload_n X d_VT_guard_16 rfl ?_
    refine z_iload_n X d_VT_guard_17 rfl ?_
    refine z_put X d_VT_guard_18 fl_VT_56 c0 (by omega) (Nat.le_of_ble_eq_true rfl) rfl rfl (fun h2 c3 fr4 => ?_)
    have c3 : h2 0 = ob ci_VT [.ref (ad (g_b G) 1), .ref (ad (g_b G) 3), .ref (ad (g_b G) 5), .ref (ad (g_b G) 6), .ref (ad (g_b G) 15), .ref (ad (g_b G) 35), .ref (ad (g_b G) 38), vI (a), vI (o)] := c3
    have c5 := (fr4 5 (by omega)).trans c5
    refine e_aload_n X d_VT_guard_21 rfl ?_
    refine z_iconst X d_VT_guard_22 ?_
    refine z_put X d_VT_guard_23 fl_VT_60 c3 (by omega) (Nat.le_of_ble_eq_true rfl) rfl rfl (fun h6 c7 fr8 => ?_)
    have c7 : h6 0 = ob ci_VT [.ref (ad (g_b G) 1), .ref (ad (g_b G) 3), .ref (ad (g_b G) 5), .ref (ad (g_b G) 6), .ref (ad (g_b G) 15), .ref (ad (g_b G) 35), .ref (ad (g_b G) 38), vI (a), vI (-1)] := c7
    have c9 := (fr8 5 (by omega)).trans c5
    refine z_iconst X d_VT_guard_26 ?_
    exact z_ireturn X Q d_VT_guard_27 rfl (Or.inl ⟨by omega, rfl, hV.obj c7 (by omega) (by omega) (fun q q9 => (fr8 q q9).trans (fr4 q q9)), fun q q9 => (fr8 q (by omega)).trans (fr4 q (by omega))⟩)
  · refine z_iload_n X d_VT_guard_4 rfl ?_
    refine z_iconst X d_VT_guard_5 ?_
    refine z_icmp_eq (tgt := 16) X d_VT_guard_6 (by decide) (by omega) (fun q10 => ?_) (fun q10 => ?_)
    · refine e_aload_n X d_VT_guard_16 rfl ?_
      refine z_iload_n X d_VT_guard_17 rfl ?_
      refine z_put X d_VT_guard_18 fl_VT_56 c0 (by omega) (Nat.le_of_ble_eq_true rfl) rfl rfl (fun h11 c12 fr13 => ?_)
      have c12 : h11 0 = ob ci_VT [.ref (ad (g_b G) 1), .ref (ad (g_b G) 3), .ref (ad (g_b G) 5), .ref (ad (g_b G) 6), .ref (ad (g_b G) 15), .ref (ad (g_b G) 35), .ref (ad (g_b G) 38), vI (a), vI (o)] := c12
      have c14 := (fr13 5 (by omega)).trans c5
      refine e_aload_n X d_VT_guard_21 rfl ?_
      refine z_iconst X d_VT_guard_22 ?_
      refine z_put X d_VT_guard_23 fl_VT_60 c12 (by omega) (Nat.le_of_ble_eq_true rfl) rfl rfl (fun h15 c16 fr17 => ?_)
      have c16 : h15 0 = ob ci_VT [.ref (ad (g_b G) 1), .ref (ad (g_b G) 3), .ref (ad (g_b G) 5), .ref (ad (g_b G) 6), .ref (ad (g_b G) 15), .ref (ad (g_b G) 35), .ref (ad (g_b G) 38), vI (a), vI (-1)] := c16
      have c18 := (fr17 5 (by omega)).trans c14
      refine z_iconst X d_VT_guard_26 ?_
      exact z_ireturn X Q d_VT_guard_27 rfl (Or.inl ⟨by omega, rfl, hV.obj c16 (by omega) (by omega) (fun q q9 => (fr17 q q9).trans (fr13 q q9)), fun q q9 => (fr17 q (by omega)).trans (fr13 q (by omega))⟩)
    · refine z_iload_n X d_VT_guard_9 rfl ?_
      refine z_iconst X d_VT_guard_10 ?_
      refine z_icmp_eq (tgt := 16) X d_VT_guard_11 (by decide) (by omega) (fun q19 => ?_) (fun q19 => ?_)
      · refine e_aload_n X d_VT_guard_16 rfl ?_
        refine z_iload_n X d_VT_guard_17 rfl ?_
        refine z_put X d_VT_guard_18 fl_VT_56 c0 (by omega) (Nat.le_of_ble_eq_true rfl) rfl rfl (fun h20 c21 fr22 => ?_)
        have c21 : h20 0 = ob ci_VT [.ref (ad (g_b G) 1), .ref (ad (g_b G) 3), .ref (ad (g_b G) 5), .ref (ad (g_b G) 6), .ref (ad (g_b G) 15), .ref (ad (g_b G) 35), .ref (ad (g_b G) 38), vI (a), vI (o)] := c21
        have c23 := (fr22 5 (by omega)).trans c5
        refine e_aload_n X d_VT_guard_21 rfl ?_
        refine z_iconst X d_VT_guard_22 ?_
        refine z_put X d_VT_guard_23 fl_VT_60 c21 (by omega) (Nat.le_of_ble_eq_true rfl) rfl rfl (fun h24 c25 fr26 => ?_)
        have c25 : h24 0 = ob ci_VT [.ref (ad (g_b G) 1), .ref (ad (g_b G) 3), .ref (ad (g_b G) 5), .ref (ad (g_b G) 6), .ref (ad (g_b G) 15), .ref (ad (g_b G) 35), .ref (ad (g_b G) 38), vI (a), vI (-1)] := c25
        have c27 := (fr26 5 (by omega)).trans c23
        refine z_iconst X d_VT_guard_26 ?_
        exact z_ireturn X Q d_VT_guard_27 rfl (Or.inl ⟨by omega, rfl, hV.obj c25 (by omega) (by omega) (fun q q9 => (fr26 q q9).trans (fr22 q q9)), fun q q9 => (fr26 q (by omega)).trans (fr22 q (by omega))⟩)
      · refine z_iconst X d_VT_guard_14 ?_
        exact z_ireturn X Q d_VT_guard_15 rfl (Or.inr ⟨by omega, rfl, hV, fun q _ => rfl⟩)

set_option maxRecDepth 100000 in
set_option maxHeartbeats 4000000 in
theorem c_VT_snapshot {l : Launch} {G : lx_G} {N : Nat} {h : Nat → va_E} {n : Nat} {t : Nat → Int} {now last : Nat} {T : Nat → tx_T} {c : Nat} {p : Nat → Int} {kp : Nat → Bool} {V : Nat → tx_T} {g o en : Int} (hV : VT G h n t now last T c p kp V g o en) (hN : 42 ≤ N) : CtI l G m_VT_snapshot N [.ref (ad (g_b G) 0)] h (fun z h' => (∃ v : Nat, (1 ≤ v ∧ v ≤ 4) ∧ z = ((v : Nat) : Int) ∧ kp v = false ∧ (∀ j, 1 ≤ j → j < v → kp j = true) ∧ VT G h' n t now last T c p (fun j => if j = v then true else kp j) (fun j => if j = v then (n, t) else V j) g o en ∧ (∀ q, 42 ≤ q → h' q = h q)) ∨ (z = -1 ∧ (∀ j, 1 ≤ j → j ≤ 4 → kp j = true) ∧ VT G h' n t now last T c p kp V g o en ∧ (∀ q, 42 ≤ q → h' q = h q))) := by
  refine zI_of (by decide) rfl rfl ?_
  intro k X Q
  have X : Cx k G R_VT b_VT_snapshot 2 rm_VT_snapshot := X
  have Q : Rt k G (some (.int)) N 0 0 (pI (fun z h' => (∃ v : Nat, (1 ≤ v ∧ v ≤ 4) ∧ z = ((v : Nat) : Int) ∧ kp v = false ∧ (∀ j, 1 ≤ j → j < v → kp j = true) ∧ VT G h' n t now last T c p (fun j => if j = v then true else kp j) (fun j => if j = v then (n, t) else V j) g o en ∧ (∀ q, 42 ≤ q → h' q = h q)) ∨ (z = -1 ∧ (∀ j, 1 ≤ j → j ≤ 4 → kp j = true) ∧ VT G h' n t now last T c p kp V g o en ∧ (∀ q, 42 ≤ q → h' q = h q)))) := Q
  show Ev k G 2 N 0 0 h 0 [some (.ref (ad (g_b G) 0)), none] []
  have c0 := hV.1
  have c5 := hV.2.2.2.1
  obtain ⟨ku, k0, k1, k2⟩ := hV.2.2.2.2.1
  refine z_iconst X d_VT_snapshot_0 ?_
  refine e_istore_n X d_VT_snapshot_1 (by decide) ?_
  have loop : ∀ (d9 : Nat) (v : Nat), 5 - v < d9 → 1 ≤ v ∧ v ≤ 5 → (∀ j, 1 ≤ j → j < v → kp j = true) → Ev k G 2 N 0 0 h 2 [some (.ref (ad (g_b G) 0)), some (vI ((v : Nat) : Int))] [] := by
    intro d9
    induction d9 with
    | zero =>
      intro v hm9
      exact absurd hm9 (Nat.not_lt_zero _)
    | succ d9 ih =>
      intro v hm9 hv hk
      refine z_iload_n X d_VT_snapshot_2 rfl ?_
      refine z_iconst X d_VT_snapshot_3 ?_
      refine z_icmp_gt (tgt := 46) X d_VT_snapshot_4 (by decide) (by omega) (fun q1 => ?_) (fun q1 => ?_)
      · refine z_iconst X d_VT_snapshot_46 ?_
        exact z_ireturn X Q d_VT_snapshot_47 rfl (Or.inr ⟨rfl, fun j j1 j2 => hk j j1 (by omega), hV, fun q _ => rfl⟩)
      · refine e_aload_n X d_VT_snapshot_7 rfl ?_
        refine e_get X d_VT_snapshot_8 fl_VT_31 c0 (by omega) rfl ?_
        refine z_iload_n X d_VT_snapshot_11 rfl ?_
        refine z_zald X d_VT_snapshot_12 (j := v) k0 (by omega) (by omega) (by omega) ?_
        refine z_top (show _ = (b2z (kp v)) from k2 v (by omega) (by omega)) ?_
        refine z_if_ne (tgt := 40) X d_VT_snapshot_13 (by decide) (b2z_r _) (fun q2 => ?_) (fun q2 => ?_)
        · refine z_iinc X d_VT_snapshot_40 rfl (by decide) ?_
          refine e_goto (tgt := 2) X d_VT_snapshot_43 (by decide) ?_
          exact ih (v + 1) (by omega) (by omega) (fun j j1 j2 => by rcases Nat.lt_or_ge j v with h8 | h8; exact hk j j1 h8; rw [show j = v by omega]; exact b2z_ne q2)
        · have hvx : vix v = 5 + 2 * v := if_neg (by omega)
          obtain ⟨n9, t9, hR9⟩ := hV.2.2.2.2.2.2.1 v (by omega) (by omega)
          refine e_aload_n X d_VT_snapshot_16 rfl ?_
          refine e_get X d_VT_snapshot_17 fl_VT_27 c0 (by omega) rfl ?_
          refine z_iload_n X d_VT_snapshot_20 rfl ?_
          refine z_tald X d_VT_snapshot_21 (j := v) c5 (by omega) (by omega) (by omega) rfl ?_
          refine e_aload_n X d_VT_snapshot_22 rfl ?_
          refine e_get X d_VT_snapshot_23 fl_VT_14 c0 (by omega) rfl ?_
          rw [hvx]
          obtain ⟨u9, hr9, -⟩ := id hR9
          refine z_callF_V X d_VT_snapshot_26 cf_VT_113_Row (As := [.ref (ad (g_b G) 1)]) (c_Row_become hR9 (by omega) hV.2.1 (by omega) (by omega) hV.2.1.le) hr9 (by omega) rfl rfl ⟨rfl, rfl⟩ rfl (fun h1 hp2 => ?_)
          obtain ⟨hB, hBf⟩ := hp2
          have c0b := (hBf 0 (by omega) (by omega)).trans c0
          have k0b := (hBf 6 (by omega) (by omega)).trans k0
          refine e_aload_n X d_VT_snapshot_31 rfl ?_
          refine e_get X d_VT_snapshot_32 fl_VT_31 c0b (by omega) rfl ?_
          refine z_iload_n X d_VT_snapshot_35 rfl ?_
          refine z_iconst X d_VT_snapshot_36 ?_
          refine z_zast X d_VT_snapshot_37 (j := v) k0b (by omega) (by omega) (by omega) rfl (fun h3 c4 fr5 => ?_)
          have c6 := (fr5 0 (by omega)).trans c0b
          refine z_iload_n X d_VT_snapshot_38 rfl ?_
          exact z_ireturn X Q d_VT_snapshot_39 rfl (Or.inl ⟨v, by omega, rfl, b2z_eq q2, hk, hV.snap (by omega) k1 k2 c4 (hB.fr (fr5 _ (by omega)) (fr5 _ (by omega))) (fun q q7 q8 q9 => (fr5 q q7).trans (hBf q q8 q9)), fun q q9 => (fr5 q (by omega)).trans (hBf q (by omega) (by omega))⟩)
  exact loop _ 1 (Nat.lt_succ_self _) (by omega) (fun j j1 j2 => absurd j2 (by omega))

set_option maxRecDepth 100000 in
set_option maxHeartbeats 4000000 in
theorem c_VT_release {l : Launch} {G : lx_G} {N : Nat} {h : Nat → va_E} {n : Nat} {t : Nat → Int} {now last : Nat} {T : Nat → tx_T} {c : Nat} {p : Nat → Int} {kp : Nat → Bool} {V : Nat → tx_T} {g o en : Int} {a : Int} (hV : VT G h n t now last T c p kp V g o en) (hN : 42 ≤ N) (hr_a : -2147483648 ≤ a ∧ a < 2147483648) : CtI l G m_VT_release N [.ref (ad (g_b G) 0), vI (a)] h (fun z h' => ((decide (¬ a = 0) && isv kp a) = true ∧ z = 1 ∧ VT G h' n t now last T c p (fun j => if j = a.toNat then false else kp j) V g o en ∧ (∀ q, 42 ≤ q → h' q = h q)) ∨ ((decide (¬ a = 0) && isv kp a) = false ∧ z = 0 ∧ VT G h' n t now last T c p kp V g o en ∧ (∀ q, 42 ≤ q → h' q = h q))) := by
  refine zI_of (by decide) rfl rfl ?_
  intro k X Q
  have X : Cx k G R_VT b_VT_release 2 rm_VT_release := X
  have Q : Rt k G (some (.boolean)) N 0 0 (pI (fun z h' => ((decide (¬ a = 0) && isv kp a) = true ∧ z = 1 ∧ VT G h' n t now last T c p (fun j => if j = a.toNat then false else kp j) V g o en ∧ (∀ q, 42 ≤ q → h' q = h q)) ∨ ((decide (¬ a = 0) && isv kp a) = false ∧ z = 0 ∧ VT G h' n t now last T c p kp V g o en ∧ (∀ q, 42 ≤ q → h' q = h q)))) := Q
  show Ev k G 2 N 0 0 h 0 [some (.ref (ad (g_b G) 0)), some (vI (a))] []
  have c0 := hV.1
  have c5 := hV.2.2.2.1
  obtain ⟨ku, k0, k1, k2⟩ := hV.2.2.2.2.1
  refine z_iload_n X d_VT_release_0 rfl ?_
  refine z_if_eq (tgt := 12) X d_VT_release_1 (by decide) (by omega) (fun q1 => ?_) (fun q1 => ?_)
  · refine z_iconst X d_VT_release_12 ?_
    exact z_ireturn X Q d_VT_release_13 rfl (Or.inr ⟨by rw [decide_eq_false (fun q9 => q9 q1)]; rfl, rfl, hV, fun q _ => rfl⟩)
  · refine e_aload_n X d_VT_release_4 rfl ?_
    refine z_iload_n X d_VT_release_5 rfl ?_
    refine z_callV_I X d_VT_release_6 cv_VT_116 (c_VT_isVersion hV hN hr_a) c0 (by omega) rfl rfl ⟨rfl, rfl⟩ rfl (fun z3 h1 hp2 => ?_)
    obtain ⟨rfl, hh4⟩ := hp2
    rw [hh4]
    refine z_if_ne (tgt := 14) X d_VT_release_9 (by decide) (b2z_r _) (fun q2 => ?_) (fun q2 => ?_)
    · have his := b2z_ne q2
      have hrl : (decide (¬ a = 0) && isv kp a) = true := by rw [decide_eq_true q1, his]; rfl
      obtain ⟨j, rfl, hj4, -, -⟩ := hV.ver his
      refine e_aload_n X d_VT_release_14 rfl ?_
      refine e_get X d_VT_release_15 fl_VT_31 c0 (by omega) rfl ?_
      refine z_iload_n X d_VT_release_18 rfl ?_
      refine z_iconst X d_VT_release_19 ?_
      refine z_zast X d_VT_release_20 (j := j) k0 (by omega) (by omega) (by omega) rfl (fun h5 c6 fr7 => ?_)
      have c8 := (fr7 0 (by omega)).trans c0
      have c9 := (fr7 5 (by omega)).trans c5
      refine z_iconst X d_VT_release_21 ?_
      exact z_ireturn X Q d_VT_release_22 rfl (Or.inl ⟨hrl, rfl, hV.rel (by omega) k1 k2 c6 (fun q q9 => fr7 q q9), fun q q9 => fr7 q (by omega)⟩)
    · refine z_iconst X d_VT_release_12 ?_
      exact z_ireturn X Q d_VT_release_13 rfl (Or.inr ⟨by rw [b2z_eq q2, Bool.and_false], rfl, hV, fun q _ => rfl⟩)
end
section
def s_unit (n : Nat) (t : Nat → Int) (kp : Nat → Bool) (V : Nat → tx_T) (v a : Int) : Int := if isv kp v then tat (vtx n t V v.toNat).2 a else -1
set_option maxRecDepth 100000 in
set_option maxHeartbeats 4000000 in
theorem c_VT_unit {l : Launch} {G : lx_G} {N : Nat} {h : Nat → va_E} {n : Nat} {t : Nat → Int} {now last : Nat} {T : Nat → tx_T} {c : Nat} {p : Nat → Int} {kp : Nat → Bool} {V : Nat → tx_T} {g o en : Int} {v a : Int} (hV : VT G h n t now last T c p kp V g o en) (hN : 42 ≤ N) (hr_v : -2147483648 ≤ v ∧ v < 2147483648) (hr_a : -2147483648 ≤ a ∧ a < 2147483648) : CtI l G m_VT_unit N [.ref (ad (g_b G) 0), vI (v), vI (a)] h (fun z h' => z = s_unit n t kp V v a ∧ h' = h) := by
  refine zI_of (by decide) rfl rfl ?_
  intro k X Q
  have X : Cx k G R_VT b_VT_unit 3 rm_VT_unit := X
  have Q : Rt k G (some (.int)) N 0 0 (pI (fun z h' => z = s_unit n t kp V v a ∧ h' = h)) := Q
  show Ev k G 3 N 0 0 h 0 [some (.ref (ad (g_b G) 0)), some (vI (v)), some (vI (a))] []
  have c0 := hV.1
  have c5 := hV.2.2.2.1
  refine e_aload_n X d_VT_unit_0 rfl ?_
  refine z_iload_n X d_VT_unit_1 rfl ?_
  refine z_callV_I X d_VT_unit_2 cv_VT_116 (c_VT_isVersion hV hN hr_v) c0 (by omega) rfl rfl ⟨rfl, rfl⟩ rfl (fun z3 h1 hp2 => ?_)
  obtain ⟨rfl, hh4⟩ := hp2
  rw [hh4]
  refine z_if_eq (tgt := 23) X d_VT_unit_5 (by decide) (b2z_r _) (fun q1 => ?_) (fun q1 => ?_)
  · refine z_iconst X d_VT_unit_23 ?_
    exact z_ireturn X Q d_VT_unit_24 rfl ⟨by unfold s_unit; rw [b2z_eq q1]; rfl, rfl⟩
  · have his_v := b2z_ne q1
    obtain ⟨j, rfl, hj4_v, hvx_v, hTv_v⟩ := hV.ver his_v
    have hle_v := hTv_v.le
    have htx_v := hTv_v.ok
    refine e_aload_n X d_VT_unit_8 rfl ?_
    refine e_get X d_VT_unit_9 fl_VT_27 c0 (by omega) rfl ?_
    refine z_iload_n X d_VT_unit_12 rfl ?_
    refine z_tald X d_VT_unit_13 (j := j) c5 (by omega) (by omega) (by omega) rfl ?_
    refine z_iload_n X d_VT_unit_14 rfl ?_
    refine z_Tat X d_VT_unit_15 cf_VT_120_Row cf_VT_120_Gap hTv_v (by omega) (by omega) rfl ?_
    refine z_top (show _ = (tat (vtx n t V j).2 a) from rfl) ?_
    refine e_goto (tgt := 24) X d_VT_unit_20 (by decide) ?_
    exact z_ireturn X Q d_VT_unit_24 rfl ⟨by unfold s_unit; rw [his_v]; rfl, rfl⟩

def mok (m : Int) : Bool := decide (0 ≤ m) && decide (m ≤ 3)
def s_count (n : Nat) (t : Nat → Int) (kp : Nat → Bool) (V : Nat → tx_T) (v m : Int) : Int := if isv kp v && mok m then ((cnt (bg m (vtx n t V v.toNat).1 (vtx n t V v.toNat).2) ((vtx n t V v.toNat).1 + 1) : Nat) : Int) else -1
def s_place (n : Nat) (t : Nat → Int) (kp : Nat → Bool) (V : Nat → tx_T) (v m k : Int) : Int := if isv kp v && mok m then it_place m (vtx n t V v.toNat).1 (vtx n t V v.toNat).2 k else -1
def s_item (n : Nat) (t : Nat → Int) (kp : Nat → Bool) (V : Nat → tx_T) (v m a : Int) : Int := if isv kp v && (mok m && (decide (0 ≤ a) && decide (a ≤ (((vtx n t V v.toNat).1 : Nat) : Int)))) then it_item m (vtx n t V v.toNat).1 (vtx n t V v.toNat).2 a.toNat else -1
set_option maxRecDepth 100000 in
set_option maxHeartbeats 4000000 in
theorem c_VT_count {l : Launch} {G : lx_G} {N : Nat} {h : Nat → va_E} {n : Nat} {t : Nat → Int} {now last : Nat} {T : Nat → tx_T} {c : Nat} {p : Nat → Int} {kp : Nat → Bool} {V : Nat → tx_T} {g o en : Int} {v m : Int} (hV : VT G h n t now last T c p kp V g o en) (hN : 42 ≤ N) (hr_v : -2147483648 ≤ v ∧ v < 2147483648) (hr_m : -2147483648 ≤ m ∧ m < 2147483648) : CtI l G m_VT_count N [.ref (ad (g_b G) 0), vI (v), vI (m)] h (fun z h' => z = s_count n t kp V v m ∧ VT G h' n t now last T c p kp V g o en ∧ (∀ q, 42 ≤ q → h' q = h q)) := by
  refine zI_of (by decide) rfl rfl ?_
  intro k X Q
  have X : Cx k G R_VT b_VT_count 3 rm_VT_count := X
  have Q : Rt k G (some (.int)) N 0 0 (pI (fun z h' => z = s_count n t kp V v m ∧ VT G h' n t now last T c p kp V g o en ∧ (∀ q, 42 ≤ q → h' q = h q))) := Q
  show Ev k G 3 N 0 0 h 0 [some (.ref (ad (g_b G) 0)), some (vI (v)), some (vI (m))] []
  have c0 := hV.1
  have c5 := hV.2.2.2.1
  obtain ⟨_, _, _, _, _, _, _, c35, -⟩ := id (hV.2.2.2.2.2.2.2.2.1)
  refine e_aload_n X d_VT_count_0 rfl ?_
  refine z_iload_n X d_VT_count_1 rfl ?_
  refine z_callV_I X d_VT_count_2 cv_VT_116 (c_VT_isVersion hV hN hr_v) c0 (by omega) rfl rfl ⟨rfl, rfl⟩ rfl (fun z3 h1 hp2 => ?_)
  obtain ⟨rfl, hh4⟩ := hp2
  rw [hh4]
  refine z_if_eq (tgt := 15) X d_VT_count_5 (by decide) (b2z_r _) (fun q1 => ?_) (fun q1 => ?_)
  · refine z_iconst X d_VT_count_15 ?_
    exact z_ireturn X Q d_VT_count_16 rfl ⟨by unfold s_count; rw [b2z_eq q1]; rfl, hV, fun q _ => rfl⟩
  · refine z_iload_n X d_VT_count_8 rfl ?_
    refine z_callS_I X d_VT_count_9 cs_VT_124 (c_VT_isMetric hr_m) rfl rfl ⟨rfl, rfl⟩ rfl (fun z7 h5 hp6 => ?_)
    obtain ⟨rfl, hh8⟩ := hp6
    rw [hh8]
    refine z_if_ne (tgt := 17) X d_VT_count_12 (by decide) (b2z_r _) (fun q2 => ?_) (fun q2 => ?_)
    · have hmk : mok m = true := b2z_ne q2
      have hm := hmk
      simp [mok] at hm
      have his_v := b2z_ne q1
      obtain ⟨j, rfl, hj4_v, hvx_v, hTv_v⟩ := hV.ver his_v
      have hle_v := hTv_v.le
      have htx_v := hTv_v.ok
      refine e_aload_n X d_VT_count_17 rfl ?_
      refine e_get X d_VT_count_18 fl_VT_45 c0 (by omega) rfl ?_
      refine e_aload_n X d_VT_count_21 rfl ?_
      refine e_get X d_VT_count_22 fl_VT_27 c0 (by omega) rfl ?_
      refine z_iload_n X d_VT_count_25 rfl ?_
      refine z_tald X d_VT_count_26 (j := j) c5 (by omega) (by omega) (by omega) rfl ?_
      refine z_iload_n X d_VT_count_27 rfl ?_
      refine z_callV_V X d_VT_count_28 cv_VT_127 (c_Itm_measure hV.2.2.2.2.2.2.2.2.1 (by omega) hTv_v (by omega) (by omega) (by omega)) c35 (by omega) rfl rfl ⟨rfl, rfl⟩ rfl (fun h9 hp10 => ?_)
      obtain ⟨hM, hMf⟩ := hp10
      have hV2 := hV.items hM.its (fun q q9 => hMf q (by omega) (by omega) (by omega))
      have c0b := hV2.1
      have c5b := hV2.2.2.2.1
      obtain ⟨_, _, _, _, _, _, _, c35b, -⟩ := id (hV2.2.2.2.2.2.2.2.2.1)
      refine e_aload_n X d_VT_count_31 rfl ?_
      refine e_get X d_VT_count_32 fl_VT_45 c0b (by omega) rfl ?_
      refine z_callV_I X d_VT_count_35 cv_VT_131 (c_Itm_number hM (by omega) hle_v) c35b (by omega) rfl rfl ⟨rfl, rfl⟩ rfl (fun z14 h12 hp13 => ?_)
      obtain ⟨rfl, hh15⟩ := hp13
      rw [hh15]
      exact z_ireturn X Q d_VT_count_38 rfl ⟨by unfold s_count; rw [his_v, hmk]; rfl, hV2, fun q q9 => hMf q (by omega) (by omega) (by omega)⟩
    · refine z_iconst X d_VT_count_15 ?_
      exact z_ireturn X Q d_VT_count_16 rfl ⟨by unfold s_count; rw [show mok m = false from b2z_eq q2, Bool.and_false]; rfl, hV, fun q _ => rfl⟩

set_option maxRecDepth 100000 in
set_option maxHeartbeats 4000000 in
theorem c_VT_place {l : Launch} {G : lx_G} {N : Nat} {h : Nat → va_E} {n : Nat} {t : Nat → Int} {now last : Nat} {T : Nat → tx_T} {c : Nat} {p : Nat → Int} {kp : Nat → Bool} {V : Nat → tx_T} {g o en : Int} {v m a : Int} (hV : VT G h n t now last T c p kp V g o en) (hN : 42 ≤ N) (hr_v : -2147483648 ≤ v ∧ v < 2147483648) (hr_m : -2147483648 ≤ m ∧ m < 2147483648) (hr_a : -2147483648 ≤ a ∧ a < 2147483648) : CtI l G m_VT_place N [.ref (ad (g_b G) 0), vI (v), vI (m), vI (a)] h (fun z h' => z = s_place n t kp V v m a ∧ VT G h' n t now last T c p kp V g o en ∧ (∀ q, 42 ≤ q → h' q = h q)) := by
  refine zI_of (by decide) rfl rfl ?_
  intro k X Q
  have X : Cx k G R_VT b_VT_place 4 rm_VT_place := X
  have Q : Rt k G (some (.int)) N 0 0 (pI (fun z h' => z = s_place n t kp V v m a ∧ VT G h' n t now last T c p kp V g o en ∧ (∀ q, 42 ≤ q → h' q = h q))) := Q
  show Ev k G 4 N 0 0 h 0 [some (.ref (ad (g_b G) 0)), some (vI (v)), some (vI (m)), some (vI (a))] []
  have c0 := hV.1
  have c5 := hV.2.2.2.1
  obtain ⟨_, _, _, _, _, _, _, c35, -⟩ := id (hV.2.2.2.2.2.2.2.2.1)
  refine e_aload_n X d_VT_place_0 rfl ?_
  refine z_iload_n X d_VT_place_1 rfl ?_
  refine z_callV_I X d_VT_place_2 cv_VT_116 (c_VT_isVersion hV hN hr_v) c0 (by omega) rfl rfl ⟨rfl, rfl⟩ rfl (fun z3 h1 hp2 => ?_)
  obtain ⟨rfl, hh4⟩ := hp2
  rw [hh4]
  refine z_if_eq (tgt := 15) X d_VT_place_5 (by decide) (b2z_r _) (fun q1 => ?_) (fun q1 => ?_)
  · refine z_iconst X d_VT_place_15 ?_
    exact z_ireturn X Q d_VT_place_16 rfl ⟨by unfold s_place; rw [b2z_eq q1]; rfl, hV, fun q _ => rfl⟩
  · refine z_iload_n X d_VT_place_8 rfl ?_
    refine z_callS_I X d_VT_place_9 cs_VT_124 (c_VT_isMetric hr_m) rfl rfl ⟨rfl, rfl⟩ rfl (fun z7 h5 hp6 => ?_)
    obtain ⟨rfl, hh8⟩ := hp6
    rw [hh8]
    refine z_if_ne (tgt := 17) X d_VT_place_12 (by decide) (b2z_r _) (fun q2 => ?_) (fun q2 => ?_)
    · have hmk : mok m = true := b2z_ne q2
      have hm := hmk
      simp [mok] at hm
      have his_v := b2z_ne q1
      obtain ⟨j, rfl, hj4_v, hvx_v, hTv_v⟩ := hV.ver his_v
      have hle_v := hTv_v.le
      have htx_v := hTv_v.ok
      refine e_aload_n X d_VT_place_17 rfl ?_
      refine e_get X d_VT_place_18 fl_VT_45 c0 (by omega) rfl ?_
      refine e_aload_n X d_VT_place_21 rfl ?_
      refine e_get X d_VT_place_22 fl_VT_27 c0 (by omega) rfl ?_
      refine z_iload_n X d_VT_place_25 rfl ?_
      refine z_tald X d_VT_place_26 (j := j) c5 (by omega) (by omega) (by omega) rfl ?_
      refine z_iload_n X d_VT_place_27 rfl ?_
      refine z_callV_V X d_VT_place_28 cv_VT_127 (c_Itm_measure hV.2.2.2.2.2.2.2.2.1 (by omega) hTv_v (by omega) (by omega) (by omega)) c35 (by omega) rfl rfl ⟨rfl, rfl⟩ rfl (fun h9 hp10 => ?_)
      obtain ⟨hM, hMf⟩ := hp10
      have hV2 := hV.items hM.its (fun q q9 => hMf q (by omega) (by omega) (by omega))
      have c0b := hV2.1
      have c5b := hV2.2.2.2.1
      obtain ⟨_, _, _, _, _, _, _, c35b, -⟩ := id (hV2.2.2.2.2.2.2.2.2.1)
      refine e_aload_n X d_VT_place_31 rfl ?_
      refine e_get X d_VT_place_32 fl_VT_45 c0b (by omega) rfl ?_
      refine z_iload_n X d_VT_place_35 rfl ?_
      refine z_callV_I X d_VT_place_36 cv_VT_134 (c_Itm_beginningOf hM (by omega) hle_v hr_a) c35b (by omega) rfl rfl ⟨rfl, rfl⟩ rfl (fun z14 h12 hp13 => ?_)
      obtain ⟨rfl, hh15⟩ := hp13
      rw [hh15]
      exact z_ireturn X Q d_VT_place_39 rfl ⟨by unfold s_place; rw [his_v, hmk]; rfl, hV2, fun q q9 => hMf q (by omega) (by omega) (by omega)⟩
    · refine z_iconst X d_VT_place_15 ?_
      exact z_ireturn X Q d_VT_place_16 rfl ⟨by unfold s_place; rw [show mok m = false from b2z_eq q2, Bool.and_false]; rfl, hV, fun q _ => rfl⟩

set_option maxRecDepth 100000 in
set_option maxHeartbeats 4000000 in
theorem c_VT_item {l : Launch} {G : lx_G} {N : Nat} {h : Nat → va_E} {n : Nat} {t : Nat → Int} {now last : Nat} {T : Nat → tx_T} {c : Nat} {p : Nat → Int} {kp : Nat → Bool} {V : Nat → tx_T} {g o en : Int} {v m a : Int} (hV : VT G h n t now last T c p kp V g o en) (hN : 42 ≤ N) (hr_v : -2147483648 ≤ v ∧ v < 2147483648) (hr_m : -2147483648 ≤ m ∧ m < 2147483648) (hr_a : -2147483648 ≤ a ∧ a < 2147483648) : CtI l G m_VT_item N [.ref (ad (g_b G) 0), vI (v), vI (m), vI (a)] h (fun z h' => z = s_item n t kp V v m a ∧ VT G h' n t now last T c p kp V g o en ∧ (∀ q, 42 ≤ q → h' q = h q)) := by
  refine zI_of (by decide) rfl rfl ?_
  intro k X Q
  have X : Cx k G R_VT b_VT_item 4 rm_VT_item := X
  have Q : Rt k G (some (.int)) N 0 0 (pI (fun z h' => z = s_item n t kp V v m a ∧ VT G h' n t now last T c p kp V g o en ∧ (∀ q, 42 ≤ q → h' q = h q))) := Q
  show Ev k G 4 N 0 0 h 0 [some (.ref (ad (g_b G) 0)), some (vI (v)), some (vI (m)), some (vI (a))] []
  have c0 := hV.1
  have c5 := hV.2.2.2.1
  obtain ⟨_, _, _, _, _, _, _, c35, -⟩ := id (hV.2.2.2.2.2.2.2.2.1)
  refine e_aload_n X d_VT_item_0 rfl ?_
  refine z_iload_n X d_VT_item_1 rfl ?_
  refine z_callV_I X d_VT_item_2 cv_VT_116 (c_VT_isVersion hV hN hr_v) c0 (by omega) rfl rfl ⟨rfl, rfl⟩ rfl (fun z3 h1 hp2 => ?_)
  obtain ⟨rfl, hh4⟩ := hp2
  rw [hh4]
  refine z_if_eq (tgt := 28) X d_VT_item_5 (by decide) (b2z_r _) (fun q1 => ?_) (fun q1 => ?_)
  · refine z_iconst X d_VT_item_28 ?_
    exact z_ireturn X Q d_VT_item_29 rfl ⟨by unfold s_item; rw [b2z_eq q1]; rfl, hV, fun q _ => rfl⟩
  · refine z_iload_n X d_VT_item_8 rfl ?_
    refine z_callS_I X d_VT_item_9 cs_VT_124 (c_VT_isMetric hr_m) rfl rfl ⟨rfl, rfl⟩ rfl (fun z7 h5 hp6 => ?_)
    obtain ⟨rfl, hh8⟩ := hp6
    rw [hh8]
    refine z_if_eq (tgt := 28) X d_VT_item_12 (by decide) (b2z_r _) (fun q2 => ?_) (fun q2 => ?_)
    · refine z_iconst X d_VT_item_28 ?_
      exact z_ireturn X Q d_VT_item_29 rfl ⟨by unfold s_item; rw [show mok m = false from b2z_eq q2, Bool.false_and, Bool.and_false]; rfl, hV, fun q _ => rfl⟩
    · have hmk : mok m = true := b2z_ne q2
      have hm := hmk
      simp [mok] at hm
      have his_v := b2z_ne q1
      obtain ⟨j, rfl, hj4_v, hvx_v, hTv_v⟩ := hV.ver his_v
      have hle_v := hTv_v.le
      have htx_v := hTv_v.ok
      refine e_aload_n X d_VT_item_15 rfl ?_
      refine e_get X d_VT_item_16 fl_VT_27 c0 (by omega) rfl ?_
      refine z_iload_n X d_VT_item_19 rfl ?_
      refine z_tald X d_VT_item_20 (j := j) c5 (by omega) (by omega) (by omega) rfl ?_
      refine z_iload_n X d_VT_item_21 rfl ?_
      refine z_callS_I X d_VT_item_22 cs_VT_137 (c_VT_isPlace hTv_v (by omega) hr_a) rfl rfl ⟨rfl, rfl⟩ rfl (fun z11 h9 hp10 => ?_)
      obtain ⟨rfl, hh12⟩ := hp10
      rw [hh12]
      refine z_if_ne (tgt := 30) X d_VT_item_25 (by decide) (b2z_r _) (fun q3 => ?_) (fun q3 => ?_)
      · have hpk : (decide (0 ≤ a) && decide (a ≤ (((vtx n t V j).1 : Nat) : Int))) = true := b2z_ne q3
        have hp := hpk
        simp only [Bool.and_eq_true, decide_eq_true_eq] at hp
        obtain ⟨i, rfl⟩ : ∃ i : Nat, a = (i : Int) := ⟨a.toNat, by omega⟩
        refine e_aload_n X d_VT_item_30 rfl ?_
        refine e_get X d_VT_item_31 fl_VT_45 c0 (by omega) rfl ?_
        refine e_aload_n X d_VT_item_34 rfl ?_
        refine e_get X d_VT_item_35 fl_VT_27 c0 (by omega) rfl ?_
        refine z_iload_n X d_VT_item_38 rfl ?_
        refine z_tald X d_VT_item_39 (j := j) c5 (by omega) (by omega) (by omega) rfl ?_
        refine z_iload_n X d_VT_item_40 rfl ?_
        refine z_callV_V X d_VT_item_41 cv_VT_127 (c_Itm_measure hV.2.2.2.2.2.2.2.2.1 (by omega) hTv_v (by omega) (by omega) (by omega)) c35 (by omega) rfl rfl ⟨rfl, rfl⟩ rfl (fun h13 hp14 => ?_)
        obtain ⟨hM, hMf⟩ := hp14
        have hV2 := hV.items hM.its (fun q q9 => hMf q (by omega) (by omega) (by omega))
        have c0b := hV2.1
        have c5b := hV2.2.2.2.1
        obtain ⟨_, _, _, _, _, _, _, c35b, -⟩ := id (hV2.2.2.2.2.2.2.2.2.1)
        refine e_aload_n X d_VT_item_44 rfl ?_
        refine e_get X d_VT_item_45 fl_VT_45 c0b (by omega) rfl ?_
        refine z_iload_n X d_VT_item_48 rfl ?_
        refine z_callV_I X d_VT_item_49 cv_VT_141 (c_Itm_having hM (by omega) hle_v htx_v (by omega) (by omega)) c35b (by omega) rfl rfl ⟨rfl, rfl⟩ rfl (fun z18 h16 hp17 => ?_)
        obtain ⟨rfl, hh19⟩ := hp17
        rw [hh19]
        exact z_ireturn X Q d_VT_item_52 rfl ⟨by unfold s_item; rw [show ((j : Nat) : Int).toNat = j from rfl, his_v, hmk, hpk]; rfl, hV2, fun q q9 => hMf q (by omega) (by omega) (by omega)⟩
      · refine z_iconst X d_VT_item_28 ?_
        have hpk : (decide (0 ≤ a) && decide (a ≤ (((vtx n t V j).1 : Nat) : Int))) = false := b2z_eq q3
        exact z_ireturn X Q d_VT_item_29 rfl ⟨by unfold s_item; rw [show ((j : Nat) : Int).toNat = j from rfl, hpk, Bool.and_false, Bool.and_false]; rfl, hV, fun q _ => rfl⟩

def s_same (n : Nat) (t : Nat → Int) (kp : Nat → Bool) (V : Nat → tx_T) (v a : Int) : Bool := isv kp v && (isv kp a && smu (vtx n t V v.toNat).1 (vtx n t V v.toNat).2 (vtx n t V a.toNat).1 (vtx n t V a.toNat).2)
set_option maxRecDepth 100000 in
set_option maxHeartbeats 4000000 in
theorem c_VT_same {l : Launch} {G : lx_G} {N : Nat} {h : Nat → va_E} {n : Nat} {t : Nat → Int} {now last : Nat} {T : Nat → tx_T} {c : Nat} {p : Nat → Int} {kp : Nat → Bool} {V : Nat → tx_T} {g o en : Int} {v a : Int} (hV : VT G h n t now last T c p kp V g o en) (hN : 42 ≤ N) (hr_v : -2147483648 ≤ v ∧ v < 2147483648) (hr_a : -2147483648 ≤ a ∧ a < 2147483648) : CtI l G m_VT_same N [.ref (ad (g_b G) 0), vI (v), vI (a)] h (fun z h' => z = b2z (s_same n t kp V v a) ∧ h' = h) := by
  refine zI_of (by decide) rfl rfl ?_
  intro k X Q
  have X : Cx k G R_VT b_VT_same 3 rm_VT_same := X
  have Q : Rt k G (some (.boolean)) N 0 0 (pI (fun z h' => z = b2z (s_same n t kp V v a) ∧ h' = h)) := Q
  show Ev k G 3 N 0 0 h 0 [some (.ref (ad (g_b G) 0)), some (vI (v)), some (vI (a))] []
  have c0 := hV.1
  have c5 := hV.2.2.2.1
  refine e_aload_n X d_VT_same_0 rfl ?_
  refine z_iload_n X d_VT_same_1 rfl ?_
  refine z_callV_I X d_VT_same_2 cv_VT_116 (c_VT_isVersion hV hN hr_v) c0 (by omega) rfl rfl ⟨rfl, rfl⟩ rfl (fun z3 h1 hp2 => ?_)
  obtain ⟨rfl, hh4⟩ := hp2
  rw [hh4]
  refine z_if_eq (tgt := 38) X d_VT_same_5 (by decide) (b2z_r _) (fun q1 => ?_) (fun q1 => ?_)
  · refine z_iconst X d_VT_same_38 ?_
    exact z_ireturn X Q d_VT_same_39 rfl ⟨by unfold s_same; rw [b2z_eq q1]; rfl, rfl⟩
  · refine e_aload_n X d_VT_same_8 rfl ?_
    refine z_iload_n X d_VT_same_9 rfl ?_
    refine z_callV_I X d_VT_same_10 cv_VT_116 (c_VT_isVersion hV hN hr_a) c0 (by omega) rfl rfl ⟨rfl, rfl⟩ rfl (fun z7 h5 hp6 => ?_)
    obtain ⟨rfl, hh8⟩ := hp6
    rw [hh8]
    refine z_if_eq (tgt := 38) X d_VT_same_13 (by decide) (b2z_r _) (fun q2 => ?_) (fun q2 => ?_)
    · refine z_iconst X d_VT_same_38 ?_
      exact z_ireturn X Q d_VT_same_39 rfl ⟨by unfold s_same; rw [b2z_eq q2, Bool.false_and, Bool.and_false]; rfl, rfl⟩
    · have his_v := b2z_ne q1
      obtain ⟨j, rfl, hj4_v, hvx_v, hTv_v⟩ := hV.ver his_v
      have hle_v := hTv_v.le
      have htx_v := hTv_v.ok
      have his_a := b2z_ne q2
      obtain ⟨i, rfl, hj4_a, hvx_a, hTv_a⟩ := hV.ver his_a
      have hle_a := hTv_a.le
      have htx_a := hTv_a.ok
      refine e_aload_n X d_VT_same_16 rfl ?_
      refine e_get X d_VT_same_17 fl_VT_27 c0 (by omega) rfl ?_
      refine z_iload_n X d_VT_same_20 rfl ?_
      refine z_tald X d_VT_same_21 (j := j) c5 (by omega) (by omega) (by omega) rfl ?_
      refine e_aload_n X d_VT_same_22 rfl ?_
      refine e_get X d_VT_same_23 fl_VT_27 c0 (by omega) rfl ?_
      refine z_iload_n X d_VT_same_26 rfl ?_
      refine z_tald X d_VT_same_27 (j := i) c5 (by omega) (by omega) (by omega) rfl ?_
      refine z_callS_I X d_VT_same_28 cs_VT_144 (c_VT_haveSameUnits hTv_v (by omega) hTv_a (by omega)) rfl rfl ⟨rfl, rfl⟩ rfl (fun z11 h9 hp10 => ?_)
      obtain ⟨rfl, hh12⟩ := hp10
      rw [hh12]
      refine z_if_eq (tgt := 38) X d_VT_same_31 (by decide) (b2z_r _) (fun q3 => ?_) (fun q3 => ?_)
      · refine z_iconst X d_VT_same_38 ?_
        exact z_ireturn X Q d_VT_same_39 rfl ⟨by unfold s_same; rw [show ((j : Nat) : Int).toNat = j from rfl, show ((i : Nat) : Int).toNat = i from rfl, his_v, his_a, b2z_eq q3]; rfl, rfl⟩
      · refine z_iconst X d_VT_same_34 ?_
        refine e_goto (tgt := 39) X d_VT_same_35 (by decide) ?_
        exact z_ireturn X Q d_VT_same_39 rfl ⟨by unfold s_same; rw [show ((j : Nat) : Int).toNat = j from rfl, show ((i : Nat) : Int).toNat = i from rfl, his_v, his_a, b2z_ne q3]; rfl, rfl⟩

def s_find (n : Nat) (t : Nat → Int) (c : Nat) (p : Nat → Int) (kp : Nat → Bool) (V : Nat → tx_T) (en v a : Int) : Int × Int := if isv kp v && (decide (0 ≤ a) && decide (a ≤ (((vtx n t V v.toNat).1 : Nat) : Int))) then fd c p (vtx n t V v.toNat).1 (vtx n t V v.toNat).2 en a.toNat else (-1, en)
set_option maxRecDepth 100000 in
set_option maxHeartbeats 4000000 in
theorem c_VT_find {l : Launch} {G : lx_G} {N : Nat} {h : Nat → va_E} {n : Nat} {t : Nat → Int} {now last : Nat} {T : Nat → tx_T} {c : Nat} {p : Nat → Int} {kp : Nat → Bool} {V : Nat → tx_T} {g o en : Int} {v a : Int} (hV : VT G h n t now last T c p kp V g o en) (hN : 42 ≤ N) (hr_v : -2147483648 ≤ v ∧ v < 2147483648) (hr_a : -2147483648 ≤ a ∧ a < 2147483648) : CtI l G m_VT_find N [.ref (ad (g_b G) 0), vI (v), vI (a)] h (fun z h' => z = (s_find n t c p kp V en v a).1 ∧ VT G h' n t now last T c p kp V g o (s_find n t c p kp V en v a).2 ∧ (∀ q, 42 ≤ q → h' q = h q)) := by
  refine zI_of (by decide) rfl rfl ?_
  intro k X Q
  have X : Cx k G R_VT b_VT_find 3 rm_VT_find := X
  have Q : Rt k G (some (.int)) N 0 0 (pI (fun z h' => z = (s_find n t c p kp V en v a).1 ∧ VT G h' n t now last T c p kp V g o (s_find n t c p kp V en v a).2 ∧ (∀ q, 42 ≤ q → h' q = h q))) := Q
  show Ev k G 3 N 0 0 h 0 [some (.ref (ad (g_b G) 0)), some (vI (v)), some (vI (a))] []
  have c0 := hV.1
  have c5 := hV.2.2.2.1
  obtain ⟨-, _, _, _, _, c38, -⟩ := id (hV.2.2.2.2.2.2.2.2.2.1)
  have hcl := hV.2.2.1.le
  refine e_aload_n X d_VT_find_0 rfl ?_
  refine z_iload_n X d_VT_find_1 rfl ?_
  refine z_callV_I X d_VT_find_2 cv_VT_116 (c_VT_isVersion hV hN hr_v) c0 (by omega) rfl rfl ⟨rfl, rfl⟩ rfl (fun z3 h1 hp2 => ?_)
  obtain ⟨rfl, hh4⟩ := hp2
  rw [hh4]
  refine z_if_eq (tgt := 21) X d_VT_find_5 (by decide) (b2z_r _) (fun q1 => ?_) (fun q1 => ?_)
  · refine z_iconst X d_VT_find_21 ?_
    have hs9 : s_find n t c p kp V en v a = (-1, en) := by unfold s_find; rw [b2z_eq q1]; rfl
    exact z_ireturn X Q d_VT_find_22 rfl ⟨by rw [hs9], by rw [hs9]; exact hV, fun q _ => rfl⟩
  · have his_v := b2z_ne q1
    obtain ⟨j, rfl, hj4_v, hvx_v, hTv_v⟩ := hV.ver his_v
    have hle_v := hTv_v.le
    have htx_v := hTv_v.ok
    refine e_aload_n X d_VT_find_8 rfl ?_
    refine e_get X d_VT_find_9 fl_VT_27 c0 (by omega) rfl ?_
    refine z_iload_n X d_VT_find_12 rfl ?_
    refine z_tald X d_VT_find_13 (j := j) c5 (by omega) (by omega) (by omega) rfl ?_
    refine z_iload_n X d_VT_find_14 rfl ?_
    refine z_callS_I X d_VT_find_15 cs_VT_137 (c_VT_isPlace hTv_v (by omega) hr_a) rfl rfl ⟨rfl, rfl⟩ rfl (fun z7 h5 hp6 => ?_)
    obtain ⟨rfl, hh8⟩ := hp6
    rw [hh8]
    refine z_if_ne (tgt := 23) X d_VT_find_18 (by decide) (b2z_r _) (fun q3 => ?_) (fun q3 => ?_)
    · have hpk : (decide (0 ≤ a) && decide (a ≤ (((vtx n t V j).1 : Nat) : Int))) = true := b2z_ne q3
      have hp := hpk
      simp only [Bool.and_eq_true, decide_eq_true_eq] at hp
      obtain ⟨i, rfl⟩ : ∃ i : Nat, a = (i : Int) := ⟨a.toNat, by omega⟩
      have hs9 : s_find n t c p kp V en ((j : Nat) : Int) ((i : Nat) : Int) = fd c p (vtx n t V j).1 (vtx n t V j).2 en i := by unfold s_find; rw [show ((j : Nat) : Int).toNat = j from rfl, his_v, hpk]; rfl
      refine e_aload_n X d_VT_find_23 rfl ?_
      refine e_get X d_VT_find_24 fl_VT_52 c0 (by omega) rfl ?_
      refine e_aload_n X d_VT_find_27 rfl ?_
      refine e_get X d_VT_find_28 fl_VT_21 c0 (by omega) rfl ?_
      refine z_callV_I X d_VT_find_31 cv_VT_148 (c_Sea_takePattern hV.2.2.2.2.2.2.2.2.2.1 (by omega) hV.2.2.1 (by omega) (by omega)) c38 (by omega) rfl rfl ⟨rfl, rfl⟩ rfl (fun z11 h9 hp10 => ?_)
      rcases hp10 with ⟨rfl, hpt, w, s, f, hSc, har, hsf⟩ | ⟨rfl, hpt, hS2, hsf⟩
      · refine z_if_eq (tgt := 54) X d_VT_find_34 (by decide) (by omega) (fun q5 => ?_) (fun q5 => ?_)
        · exact absurd q5 (by decide)
        · have hen := hV.2.2.2.2.2.2.2.2.2.1.1
          have hcn := cnt_le (B := nsc p) c
          have hptx := hV.2.2.1.ok
          have hV2 := hV.sea ⟨hen, _, w, s, f, hSc⟩ (fun q q9 => hsf q (by omega) (by omega) (by omega))
          have hT2 := hTv_v.fr (hsf _ (by omega) (by omega) (by omega)) (hsf _ (by omega) (by omega) (by omega))
          have c0b := hV2.1
          have c5b := hV2.2.2.2.1
          obtain ⟨-, _, _, _, _, c38b, -⟩ := id (hV2.2.2.2.2.2.2.2.2.2.1)
          have hww : ∀ e, e < cnt (nsc p) c → 0 ≤ w e ∧ w e < 65536 := by
            intro e he
            obtain ⟨k9, k1, k2, k3⟩ := cnt_at he
            have h9 := (har k9 k1 k2).1
            rw [k3] at h9
            rw [h9]
            exact hptx.1 k9 k1
          refine e_aload_n X d_VT_find_37 rfl ?_
          refine e_get X d_VT_find_38 fl_VT_52 c0b (by omega) rfl ?_
          refine e_aload_n X d_VT_find_41 rfl ?_
          refine e_get X d_VT_find_42 fl_VT_27 c0b (by omega) rfl ?_
          refine z_iload_n X d_VT_find_45 rfl ?_
          refine z_tald X d_VT_find_46 (j := j) c5b (by omega) (by omega) (by omega) rfl ?_
          refine z_iload_n X d_VT_find_47 rfl ?_
          refine z_callV_I X d_VT_find_48 cv_VT_152 (c_Sea_firstMatch (s := el_s c p) hSc (by omega) (by omega) hww (fun e he => (pat_el hptx har he).2) hen hT2 (by omega) (by omega) (by omega)) c38b (by omega) rfl rfl ⟨rfl, rfl⟩ rfl (fun z14 h12 hp13 => ?_)
          obtain ⟨rfl, hS3, hsf3⟩ := hp13
          have hcg := ffd_congr (E := cnt (nsc p) c) (s := el_s c p) (s' := el_s c p) (n := (vtx n t V j).1) (t := (vtx n t V j).2) (e0 := en) (fun e he => (pat_el hptx har he).1) (fun _ _ => rfl) ((vtx n t V j).1 - i + 1)
          have hs8 : fd c p (vtx n t V j).1 (vtx n t V j).2 en i = ffd (cnt (nsc p) c) w (el_s c p) (vtx n t V j).1 (vtx n t V j).2 en ((vtx n t V j).1 - i + 1) := by unfold fd; rw [hpt, hcg]; rfl
          refine e_goto (tgt := 55) X d_VT_find_51 (by decide) ?_
          exact z_ireturn X Q d_VT_find_55 rfl ⟨by rw [hs9, hs8], by rw [hs9, hs8]; exact hV2.sea hS3 (fun q q9 => hsf3 q q9), fun q q9 => (hsf3 q (by omega)).trans (hsf q (by omega) (by omega) (by omega))⟩
      · have hV2 := hV.sea hS2 (fun q q9 => hsf q (by omega) (by omega) (by omega))
        refine z_if_eq (tgt := 54) X d_VT_find_34 (by decide) (by omega) (fun q5 => ?_) (fun q5 => ?_)
        · refine z_iconst X d_VT_find_54 ?_
          have hs8 : fd c p (vtx n t V j).1 (vtx n t V j).2 en i = (-1, en) := by unfold fd; rw [hpt]; rfl
          exact z_ireturn X Q d_VT_find_55 rfl ⟨by rw [hs9, hs8], by rw [hs9, hs8]; exact hV2, fun q q9 => hsf q (by omega) (by omega) (by omega)⟩
        · exact absurd rfl q5
    · refine z_iconst X d_VT_find_21 ?_
      have hpk : (decide (0 ≤ a) && decide (a ≤ (((vtx n t V j).1 : Nat) : Int))) = false := b2z_eq q3
      have hs9 : s_find n t c p kp V en ((j : Nat) : Int) a = (-1, en) := by unfold s_find; rw [show ((j : Nat) : Int).toNat = j from rfl, hpk, Bool.and_false]; rfl
      exact z_ireturn X Q d_VT_find_22 rfl ⟨by rw [hs9], by rw [hs9]; exact hV, fun q _ => rfl⟩

set_option maxRecDepth 100000 in
set_option maxHeartbeats 4000000 in
theorem c_VT_end {l : Launch} {G : lx_G} {N : Nat} {h : Nat → va_E} {n : Nat} {t : Nat → Int} {now last : Nat} {T : Nat → tx_T} {c : Nat} {p : Nat → Int} {kp : Nat → Bool} {V : Nat → tx_T} {g o en : Int} (hV : VT G h n t now last T c p kp V g o en) (hN : 42 ≤ N) : CtI l G m_VT_end N [.ref (ad (g_b G) 0)] h (fun z h' => z = en ∧ h' = h) := by
  refine zI_of (by decide) rfl rfl ?_
  intro k X Q
  have X : Cx k G R_VT b_VT_end 1 rm_VT_end := X
  have Q : Rt k G (some (.int)) N 0 0 (pI (fun z h' => z = en ∧ h' = h)) := Q
  show Ev k G 1 N 0 0 h 0 [some (.ref (ad (g_b G) 0))] []
  have c0 := hV.1
  have c5 := hV.2.2.2.1
  obtain ⟨-, _, _, _, _, c38, -⟩ := id (hV.2.2.2.2.2.2.2.2.2.1)
  refine e_aload_n X d_VT_end_0 rfl ?_
  refine e_get X d_VT_end_1 fl_VT_52 c0 (by omega) rfl ?_
  refine z_callV_I X d_VT_end_4 cv_VT_156 (c_Sea_matchEnd hV.2.2.2.2.2.2.2.2.2.1 (by omega)) c38 (by omega) rfl rfl ⟨rfl, rfl⟩ rfl (fun z3 h1 hp2 => ?_)
  obtain ⟨rfl, hh4⟩ := hp2
  rw [hh4]
  exact z_ireturn X Q d_VT_end_7 rfl ⟨rfl, rfl⟩
end
section
/-! the reference's own way to the clusters -/
def ld (c : Nat → Int) : Nat → Int
  | 0 => -1
  | k + 1 => if is_mark (c k) then ld c k else c k
def fr (c : Nat → Int) : Nat → Nat
  | 0 => 0
  | k + 1 => if is_flag (c k) then fr c k + 1 else 0
def mbn (a lead : Int) (fl : Nat) (b : Int) : Bool := if (decide (a = 13) && decide (b = 10)) || (decide (31 < a) && (is_mark b || decide (b = 8205))) then true else if decide (a = 8205) && is_pic b then is_pic lead else is_flag a && (is_flag b && decide (fl % 2 = 0))
theorem is_mark_iff {x : Int} : is_mark x = true ↔ 768 ≤ x ∧ x ≤ 879 := by simp [is_mark]
theorem is_pic_iff {x : Int} : is_pic x = true ↔ 127744 ≤ x ∧ x ≤ 129791 := by simp [is_pic]
theorem is_flag_iff {x : Int} : is_flag x = true ↔ 127462 ≤ x ∧ x ≤ 127487 := by simp [is_flag]
theorem mbn_jn (a lead : Int) (fl : Nat) (b : Int) : mbn a lead fl b = jn a lead fl b := by
  unfold mbn jn
  have h1 := @is_mark_iff b
  have h2 := @is_pic_iff b
  have h3 := @is_flag_iff b
  cases hm : is_mark b <;> cases hp : is_pic b <;> cases hf : is_flag b <;> rw [hm] at h1 <;> rw [hp] at h2 <;> rw [hf] at h3 <;> by_cases h8 : b = 8205 <;> by_cases h9 : b = 10 <;> by_cases ha : a = 13 <;> by_cases hj : a = 8205 <;> by_cases h31 : 31 < a <;> simp [h8, h9, ha, hj, h31] at h1 h2 h3 ⊢ <;> omega
theorem wk_codes {n : Nat} {t c : Nat → Int} (ht : tx_ok n t) (q : Nat) (hc : ∀ r, r < q → bg1 t r = true → c (cnt (bg1 t) r) = cod t r) : wk t q = if cnt (bg1 t) q = 0 then (-1, -1, 0) else (c (cnt (bg1 t) q - 1), ld c (cnt (bg1 t) q - 1), fr c (cnt (bg1 t) q - 1)) := by
  induction q with
  | zero => rfl
  | succ q ih =>
    have h1 := ih (fun r hr => hc r (by omega))
    cases hb : bg1 t q with
    | false => rw [wk_f hb, cnt_f hb, h1]
    | true =>
      have e0 : ¬ (cnt (bg1 t) q + 1 = 0) := by omega
      rw [wk_t hb, cnt_t hb, if_neg e0, Nat.add_sub_cancel, hc q (by omega) hb, h1]
      by_cases h0 : cnt (bg1 t) q = 0
      · rw [if_pos h0, h0]
        rfl
      · rw [if_neg h0]
        dsimp only
        obtain ⟨k, hk⟩ : ∃ k, cnt (bg1 t) q = k + 1 := ⟨cnt (bg1 t) q - 1, by omega⟩
        rw [hk, Nat.add_sub_cancel]
        rfl
theorem cnt_eq_no {B : Nat → Bool} {r q : Nat} (h : r ≤ q) (he : cnt B r = cnt B q) : ∀ x, r ≤ x → x < q → B x = false := by
  intro x h1 h2
  cases hb : B x with
  | false => rfl
  | true =>
    have a1 := cnt_mono (B := B) h1
    have a2 := cnt_lt hb h2
    omega
theorem cnt_no {B : Nat → Bool} {r q : Nat} (h : r ≤ q) (hn : ∀ x, r ≤ x → x < q → B x = false) : cnt B q = cnt B r := by
  induction q with
  | zero =>
    have : r = 0 := by omega
    rw [this]
  | succ q ih =>
    rcases Nat.lt_or_ge r (q + 1) with h1 | h1
    · rw [cnt_f (hn q (by omega) (by omega))]
      exact ih (by omega) (fun x a b => hn x a (by omega))
    · have : r = q + 1 := by omega
      rw [this]
theorem sel_no {B : Nat → Bool} {r q : Nat} {f : Nat → Int} (hs : sel B r f) (hn : ∀ x, r ≤ x → x < q → B x = false) : sel B q f := by
  intro x hx hb
  rcases Nat.lt_or_ge x r with h1 | h1
  · exact hs x h1 hb
  · rw [hn x h1 hx] at hb
    cases hb
theorem bg_sub {m : Int} {n : Nat} {t : Nat → Int} (hm : m = 1 ∨ m = 3) {x : Nat} (h : bg1 t x = false) : bg m n t x = false := by
  rcases hm with rfl | rfl
  · rw [bg_1, h]
  · rw [bg_3, bg3, h]
    rfl
/-- whether one of the first k of f is a -/
def anyb (f : Nat → Int) (a : Int) : Nat → Bool
  | 0 => false
  | k + 1 => anyb f a k || decide (f k = a)
theorem anyb_iff {f : Nat → Int} {a : Int} {k : Nat} : anyb f a k = true ↔ ∃ j, j < k ∧ f j = a := by
  induction k with
  | zero => simp [anyb]
  | succ k ih =>
    simp only [anyb, Bool.or_eq_true, decide_eq_true_eq, ih]
    constructor
    · rintro (⟨j, h1, h2⟩ | h)
      · exact ⟨j, by omega, h2⟩
      · exact ⟨k, by omega, h⟩
    · rintro ⟨j, h1, h2⟩
      rcases Nat.lt_or_ge j k with h3 | h3
      · exact Or.inl ⟨j, h3, h2⟩
      · rw [show j = k by omega] at h2
        exact Or.inr h2
theorem lets_fre {g : Int} {n : Nat} {t f : Nat → Int} {a : Nat} (ht : tx_ok n t) (ha : a ≤ n) (hs : sel (bg g n t) (n + 1) f) (hf : f (cnt (bg g n t) (n + 1)) = (n : Int)) : (decide (g = 0) || anyb f ((a : Nat) : Int) (cnt (bg g n t) (n + 1) + 1)) = fre g n t ((a : Nat) : Int) := by
  have e1 : fre g n t ((a : Nat) : Int) = !(decide (a < n) && !bg g n t a) := by
    unfold fre
    rw [show ((a : Nat) : Int).toNat = a from rfl, decide_eq_decide.mpr (show ((a : Nat) : Int) < ((n : Nat) : Int) ↔ a < n by omega)]
  rw [e1]
  by_cases hg : g = 0
  · subst hg
    rw [bg_0]
    cases decide (a < n) <;> rfl
  · rw [decide_eq_false hg, Bool.false_or]
    rcases Nat.lt_or_ge a n with h1 | h1
    · rw [decide_eq_true h1, Bool.true_and, Bool.not_not]
      cases hb : bg g n t a with
      | true => exact anyb_iff.mpr ⟨cnt (bg g n t) a, by have := cnt_lt (q := n + 1) hb (by omega); omega, hs a (by omega) hb⟩
      | false =>
        refine Bool.eq_false_iff.mpr (fun h => ?_)
        obtain ⟨j, j1, j2⟩ := anyb_iff.mp h
        rcases Nat.lt_or_ge j (cnt (bg g n t) (n + 1)) with h3 | h3
        · obtain ⟨q, q1, q2, q3⟩ := cnt_at h3
          have := hs q q1 q2
          rw [q3, j2] at this
          rw [show q = a by omega, hb] at q2
          cases q2
        · rw [show j = cnt (bg g n t) (n + 1) by omega, hf] at j2
          omega
    · rw [decide_eq_false (by omega), Bool.false_and, Bool.not_false]
      exact anyb_iff.mpr ⟨_, Nat.lt_succ_self _, by rw [hf]; omega⟩
end
section
/-! VersionedTextModel: its cell 42, its rows 43 .. 51 -/
def MC (G : lx_G) (h : Nat → va_E) (U Ls K C : Nat → Int) (now last cl g o en : Int) (Md : Nat → Int) (ml pts its : Int) (PP CD PL AT : Nat → Int) : Prop :=
  h 42 = ob ci_Mod [.ref (ad (g_b G) 43), .ref (ad (g_b G) 44), vI now, vI last, .ref (ad (g_b G) 45), .ref (ad (g_b G) 46), vI cl, vI g, vI o, .ref (ad (g_b G) 47), vI ml, vI pts, .ref (ad (g_b G) 48), .ref (ad (g_b G) 49), vI its, .ref (ad (g_b G) 50), .ref (ad (g_b G) 51), vI en] ∧ h 43 = rI G 2080 U ∧ h 44 = rI G 13 Ls ∧ h 45 = rZ G 5 K ∧ h 46 = rI G 24 C ∧ h 47 = rI G 160 Md ∧ h 48 = rI G 161 PP ∧ h 49 = rI G 161 CD ∧ h 50 = rI G 162 PL ∧ h 51 = rZ G 161 AT
/-- slot s of the reference holds the text x -/
def Sl (U Ls : Nat → Int) (s : Nat) (x : tx_T) : Prop := Ls s = ((x.1 : Nat) : Int) ∧ x.1 ≤ 160 ∧ (∀ k, k < x.1 → U (160 * s + k) = x.2 k) ∧ tx_ok x.1 x.2
set_option maxRecDepth 100000 in
set_option maxHeartbeats 4000000 in
theorem c_Mod_begin {l : Launch} {G : lx_G} {N : Nat} {h : Nat → va_E} {U Ls K C : Nat → Int} {now last cl g o en : Int} {Md : Nat → Int} {ml pts : Int} {PP CD PL AT : Nat → Int} {it : Nat} {a : Int} (hM : MC G h U Ls K C now last cl g o en Md ml pts ((it : Nat) : Int) PP CD PL AT) (hN : 52 ≤ N) (hit : it < 162) : CtV l G m_Mod_begin N [.ref (ad (g_b G) 42), vI (a)] h (fun h' => MC G h' U Ls K C now last cl g o en Md ml pts ((it + 1 : Nat) : Int) PP CD (zup PL it a) AT ∧ ∀ q, (q < 42 ∨ 52 ≤ q) → h' q = h q) := by
  refine zV_of (by decide) rfl rfl ?_
  intro k X Q
  have X : Cx k G R_Mod b_Mod_begin 2 rm_Mod_begin := X
  have Q : Rt k G none N 0 0 (pV (fun h' => MC G h' U Ls K C now last cl g o en Md ml pts ((it + 1 : Nat) : Int) PP CD (zup PL it a) AT ∧ ∀ q, (q < 42 ∨ 52 ≤ q) → h' q = h q)) := Q
  show Ev k G 2 N 0 0 h 0 [some (.ref (ad (g_b G) 42)), some (vI (a))] []
  obtain ⟨d42, d43, d44, d45, d46, d47, d48, d49, d50, d51⟩ := id hM
  refine e_aload_n X d_Mod_begin_0 rfl ?_
  refine e_get X d_Mod_begin_1 fl_Mod_36 d42 (by omega) rfl ?_
  refine e_aload_n X d_Mod_begin_4 rfl ?_
  refine e_get X d_Mod_begin_5 fl_Mod_73 d42 (by omega) rfl ?_
  refine z_iload_n X d_Mod_begin_8 rfl ?_
  refine z_iast X d_Mod_begin_9 (j := it) d50 (by omega) (by omega) (by omega) (fun h1 c2 fr3 => ?_)
  have c4 := (fr3 42 (by omega)).trans d42
  have c5 := (fr3 43 (by omega)).trans d43
  have c6 := (fr3 44 (by omega)).trans d44
  have c7 := (fr3 45 (by omega)).trans d45
  have c8 := (fr3 46 (by omega)).trans d46
  have c9 := (fr3 47 (by omega)).trans d47
  have c10 := (fr3 48 (by omega)).trans d48
  have c11 := (fr3 49 (by omega)).trans d49
  have c12 := (fr3 51 (by omega)).trans d51
  refine e_aload_n X d_Mod_begin_10 rfl ?_
  refine e_dup X d_Mod_begin_11 rfl ?_
  refine e_get X d_Mod_begin_12 fl_Mod_73 c4 (by omega) rfl ?_
  refine z_iconst X d_Mod_begin_15 ?_
  refine z_iadd X d_Mod_begin_16 ?_
  refine z_top (show _ = ((it + 1 : Nat) : Int) by omega) ?_
  refine z_put X d_Mod_begin_17 fl_Mod_73 c4 (by omega) (Nat.le_of_ble_eq_true rfl) rfl rfl (fun h13 c14 fr15 => ?_)
  have c14 : h13 42 = ob ci_Mod [.ref (ad (g_b G) 43), .ref (ad (g_b G) 44), vI (now), vI (last), .ref (ad (g_b G) 45), .ref (ad (g_b G) 46), vI (cl), vI (g), vI (o), .ref (ad (g_b G) 47), vI (ml), vI (pts), .ref (ad (g_b G) 48), .ref (ad (g_b G) 49), vI ((it + 1 : Nat) : Int), .ref (ad (g_b G) 50), .ref (ad (g_b G) 51), vI (en)] := c14
  have c16 := (fr15 43 (by omega)).trans c5
  have c17 := (fr15 44 (by omega)).trans c6
  have c18 := (fr15 45 (by omega)).trans c7
  have c19 := (fr15 46 (by omega)).trans c8
  have c20 := (fr15 47 (by omega)).trans c9
  have c21 := (fr15 48 (by omega)).trans c10
  have c22 := (fr15 49 (by omega)).trans c11
  have c23 := (fr15 50 (by omega)).trans c2
  have c24 := (fr15 51 (by omega)).trans c12
  exact z_return X Q d_Mod_begin_20 ⟨⟨c14, c16, c17, c18, c19, c20, c21, c22, c23, c24⟩, fun q q1 => (fr15 q (by omega)).trans (fr3 q (by omega))⟩

theorem codes_t {t c : Nat → Int} {k : Nat} (h : ∀ q, q < k → bg1 t q = true → c (cnt (bg1 t) q) = cod t q) (hb : bg1 t k = true) : ∀ q, q < k + 1 → bg1 t q = true → zup c (cnt (bg1 t) k) (cod t k) (cnt (bg1 t) q) = cod t q := by
  intro q hq hbq
  rcases Nat.lt_or_ge q k with h1 | h1
  · rw [zup_ne (by have := cnt_lt hbq h1; omega)]
    exact h q h1 hbq
  · rw [show q = k by omega, zup_eq]
theorem codes_f {t c : Nat → Int} {k : Nat} (h : ∀ q, q < k → bg1 t q = true → c (cnt (bg1 t) q) = cod t q) (hb : bg1 t k = false) : ∀ q, q < k + 1 → bg1 t q = true → c (cnt (bg1 t) q) = cod t q := by
  intro q hq hbq
  rcases Nat.lt_or_ge q k with h1 | h1
  · exact h q h1 hbq
  · rw [show q = k by omega, hb] at hbq
    cases hbq
set_option maxRecDepth 100000 in
set_option maxHeartbeats 4000000 in
theorem c_Mod_findPoints {l : Launch} {G : lx_G} {N : Nat} {h : Nat → va_E} {U Ls K C : Nat → Int} {now last cl g o en : Int} {Md : Nat → Int} {ml pts its : Int} {PP CD PL AT : Nat → Int} {s n : Nat} {t : Nat → Int} (hM : MC G h U Ls K C now last cl g o en Md ml pts its PP CD PL AT) (hN : 52 ≤ N) (hs13 : s < 13) (hS : Sl U Ls s (n, t)) : CtV l G m_Mod_findPoints N [.ref (ad (g_b G) 42), vI ((s : Nat) : Int)] h (fun h' => (∃ PP' CD', MC G h' U Ls K C now last cl g o en Md ml ((cnt (bg1 t) n : Nat) : Int) its PP' CD' PL AT ∧ sel (bg1 t) n PP' ∧ ∀ q, q < n → bg1 t q = true → CD' (cnt (bg1 t) q) = cod t q) ∧ ∀ q, (q < 42 ∨ 52 ≤ q) → h' q = h q) := by
  refine zV_of (by decide) rfl rfl ?_
  intro k X Q
  have X : Cx k G R_Mod b_Mod_findPoints 7 rm_Mod_findPoints := X
  have Q : Rt k G none N 0 0 (pV (fun h' => (∃ PP' CD', MC G h' U Ls K C now last cl g o en Md ml ((cnt (bg1 t) n : Nat) : Int) its PP' CD' PL AT ∧ sel (bg1 t) n PP' ∧ ∀ q, q < n → bg1 t q = true → CD' (cnt (bg1 t) q) = cod t q) ∧ ∀ q, (q < 42 ∨ 52 ≤ q) → h' q = h q)) := Q
  show Ev k G 7 N 0 0 h 0 [some (.ref (ad (g_b G) 42)), some (vI ((s : Nat) : Int)), none, none, none, none, none] []
  obtain ⟨d42, d43, d44, d45, d46, d47, d48, d49, d50, d51⟩ := id hM
  obtain ⟨hl0, hl1, hl2, ht⟩ := hS
  dsimp only at hl0 hl1 hl2 ht
  refine e_aload_n X d_Mod_findPoints_0 rfl ?_
  refine z_iconst X d_Mod_findPoints_1 ?_
  refine z_put X d_Mod_findPoints_2 fl_Mod_51 d42 (by omega) (Nat.le_of_ble_eq_true rfl) rfl rfl (fun h1 c2 fr3 => ?_)
  have c2 : h1 42 = ob ci_Mod [.ref (ad (g_b G) 43), .ref (ad (g_b G) 44), vI (now), vI (last), .ref (ad (g_b G) 45), .ref (ad (g_b G) 46), vI (cl), vI (g), vI (o), .ref (ad (g_b G) 47), vI (ml), vI 0, .ref (ad (g_b G) 48), .ref (ad (g_b G) 49), vI (its), .ref (ad (g_b G) 50), .ref (ad (g_b G) 51), vI (en)] := c2
  have c4 := (fr3 43 (by omega)).trans d43
  have c5 := (fr3 44 (by omega)).trans d44
  have c6 := (fr3 45 (by omega)).trans d45
  have c7 := (fr3 46 (by omega)).trans d46
  have c8 := (fr3 47 (by omega)).trans d47
  have c9 := (fr3 48 (by omega)).trans d48
  have c10 := (fr3 49 (by omega)).trans d49
  have c11 := (fr3 50 (by omega)).trans d50
  have c12 := (fr3 51 (by omega)).trans d51
  refine e_aload_n X d_Mod_findPoints_5 rfl ?_
  refine e_get X d_Mod_findPoints_6 fl_Mod_13 c2 (by omega) rfl ?_
  refine z_iload_n X d_Mod_findPoints_9 rfl ?_
  refine z_iald X d_Mod_findPoints_10 (j := s) c5 (by omega) (by omega) (by omega) ?_
  refine z_top (show _ = ((n : Nat) : Int) from hl0) ?_
  refine e_istore_n X d_Mod_findPoints_11 (by decide) ?_
  refine z_iconst X d_Mod_findPoints_12 ?_
  refine e_istore_n X d_Mod_findPoints_13 (by decide) ?_
  have loop : ∀ (d9 : Nat) (k9 : Nat) (PP1 : Nat → Int) (CD1 : Nat → Int) (h2 : Nat → va_E), n - k9 < d9 → k9 ≤ n → (bg1 t k9 = true ∨ k9 = n) → MC G h2 U Ls K C now last cl g o en Md ml ((cnt (bg1 t) k9 : Nat) : Int) its PP1 CD1 PL AT → sel (bg1 t) k9 PP1 → (∀ q, q < k9 → bg1 t q = true → CD1 (cnt (bg1 t) q) = cod t q) → (∀ q, (q < 42 ∨ 52 ≤ q) → h2 q = h q) → Ev k G 7 N 0 0 h2 14 [some (.ref (ad (g_b G) 42)), some (vI ((s : Nat) : Int)), some (vI ((n : Nat) : Int)), some (vI ((k9 : Nat) : Int)), none, none, none] [] := by
    intro d9
    induction d9 with
    | zero =>
      intro k9 PP1 CD1 h2 hm9
      exact absurd hm9 (Nat.not_lt_zero _)
    | succ d9 ih =>
      intro k9 PP1 CD1 h2 hm9 hk hkb hM2 hs1 hs2 hf
      have hcl := cnt_le (B := bg1 t) k9
      obtain ⟨d42b, d43b, d44b, d45b, d46b, d47b, d48b, d49b, d50b, d51b⟩ := id hM2
      refine z_iload_n X d_Mod_findPoints_14 rfl ?_
      refine z_iload_n X d_Mod_findPoints_15 rfl ?_
      refine z_icmp_ge (tgt := 170) X d_Mod_findPoints_16 (by decide) (by omega) (fun q1 => ?_) (fun q1 => ?_)
      · have hkn : k9 = n := by omega
        subst hkn
        exact z_return X Q d_Mod_findPoints_170 ⟨⟨PP1, CD1, hM2, hs1, hs2⟩, hf⟩
      · have hb1 : bg1 t k9 = true := by rcases hkb with h9 | h9; exact h9; omega
        have hr1 := ht.1 k9 (by omega)
        have hr2 := tx_ge ht (k9 + 1)
        refine e_aload_n X d_Mod_findPoints_19 rfl ?_
        refine e_get X d_Mod_findPoints_20 fl_Mod_7 d42b (by omega) rfl ?_
        refine z_sipush X d_Mod_findPoints_23 (by decide) ?_
        refine z_iload_n X d_Mod_findPoints_26 rfl ?_
        refine z_imul X d_Mod_findPoints_27 ?_
        refine z_iload_n X d_Mod_findPoints_28 rfl ?_
        refine z_iadd X d_Mod_findPoints_29 ?_
        refine z_iald X d_Mod_findPoints_30 (j := ((160 * s) + k9)) d43b (by omega) (by omega) (by omega) ?_
        refine z_top (show _ = (t k9) from hl2 k9 (by omega)) ?_
        refine e_istore X d_Mod_findPoints_31 (by decide) ?_
        refine z_iload_n X d_Mod_findPoints_33 rfl ?_
        refine z_iconst X d_Mod_findPoints_34 ?_
        refine z_iadd X d_Mod_findPoints_35 ?_
        refine z_iload_n X d_Mod_findPoints_36 rfl ?_
        refine z_icmp_ge (tgt := 57) X d_Mod_findPoints_37 (by decide) (by omega) (fun q2 => ?_) (fun q2 => ?_)
        · have htn : t (k9 + 1) = -1 := ht.2 _ (by omega)
          refine z_iconst X d_Mod_findPoints_57 ?_
          refine e_istore X d_Mod_findPoints_58 (by decide) ?_
          refine z_iload X d_Mod_findPoints_60 rfl ?_
          refine z_ldc (n := 55296) X d_Mod_findPoints_62 cst_Mod_54 (by decide) ?_
          refine z_icmp_lt (tgt := 92) X d_Mod_findPoints_64 (by decide) (by omega) (fun q13 => ?_) (fun q13 => ?_)
          · refine z_iconst X d_Mod_findPoints_92 ?_
            have hpr : (u_hi (t k9) && u_lo (t (k9 + 1))) = false := by  simp [u_hi, u_lo]; omega
            refine e_istore X d_Mod_findPoints_93 (by decide) ?_
            refine e_aload_n X d_Mod_findPoints_95 rfl ?_
            refine e_get X d_Mod_findPoints_96 fl_Mod_30 d42b (by omega) rfl ?_
            refine e_aload_n X d_Mod_findPoints_99 rfl ?_
            refine e_get X d_Mod_findPoints_100 fl_Mod_51 d42b (by omega) rfl ?_
            refine z_iload_n X d_Mod_findPoints_103 rfl ?_
            refine z_iast X d_Mod_findPoints_104 (j := (cnt (bg1 t) k9)) d48b (by omega) (by omega) (by omega) (fun h14 c15 fr16 => ?_)
            have c17 := (fr16 42 (by omega)).trans d42b
            have c18 := (fr16 43 (by omega)).trans d43b
            have c19 := (fr16 44 (by omega)).trans d44b
            have c20 := (fr16 45 (by omega)).trans d45b
            have c21 := (fr16 46 (by omega)).trans d46b
            have c22 := (fr16 47 (by omega)).trans d47b
            have c23 := (fr16 49 (by omega)).trans d49b
            have c24 := (fr16 50 (by omega)).trans d50b
            have c25 := (fr16 51 (by omega)).trans d51b
            refine e_aload_n X d_Mod_findPoints_105 rfl ?_
            refine e_get X d_Mod_findPoints_106 fl_Mod_33 c17 (by omega) rfl ?_
            refine e_aload_n X d_Mod_findPoints_109 rfl ?_
            refine e_get X d_Mod_findPoints_110 fl_Mod_51 c17 (by omega) rfl ?_
            refine z_iload X d_Mod_findPoints_113 rfl ?_
            refine z_if_eq (tgt := 139) X d_Mod_findPoints_115 (by decide) (by omega) (fun q7 => ?_) (fun q7 => ?_)
            · refine z_iload X d_Mod_findPoints_139 rfl ?_
              refine z_top (show _ = (cod t k9) from (by unfold cod; rw [hpr]; rfl)) ?_
              refine z_iast X d_Mod_findPoints_141 (j := (cnt (bg1 t) k9)) c23 (by omega) (by omega) (by omega) (fun h26 c27 fr28 => ?_)
              have c29 := (fr28 42 (by omega)).trans c17
              have c30 := (fr28 43 (by omega)).trans c18
              have c31 := (fr28 44 (by omega)).trans c19
              have c32 := (fr28 45 (by omega)).trans c20
              have c33 := (fr28 46 (by omega)).trans c21
              have c34 := (fr28 47 (by omega)).trans c22
              have c35 := (fr28 48 (by omega)).trans c15
              have c36 := (fr28 50 (by omega)).trans c24
              have c37 := (fr28 51 (by omega)).trans c25
              refine e_aload_n X d_Mod_findPoints_142 rfl ?_
              refine e_dup X d_Mod_findPoints_143 rfl ?_
              refine e_get X d_Mod_findPoints_144 fl_Mod_51 c29 (by omega) rfl ?_
              refine z_iconst X d_Mod_findPoints_147 ?_
              refine z_iadd X d_Mod_findPoints_148 ?_
              refine z_top (show _ = ((cnt (bg1 t) k9 + 1 : Nat) : Int) by omega) ?_
              refine z_put X d_Mod_findPoints_149 fl_Mod_51 c29 (by omega) (Nat.le_of_ble_eq_true rfl) rfl rfl (fun h38 c39 fr40 => ?_)
              have c39 : h38 42 = ob ci_Mod [.ref (ad (g_b G) 43), .ref (ad (g_b G) 44), vI (now), vI (last), .ref (ad (g_b G) 45), .ref (ad (g_b G) 46), vI (cl), vI (g), vI (o), .ref (ad (g_b G) 47), vI (ml), vI ((cnt (bg1 t) k9 + 1 : Nat) : Int), .ref (ad (g_b G) 48), .ref (ad (g_b G) 49), vI (its), .ref (ad (g_b G) 50), .ref (ad (g_b G) 51), vI (en)] := c39
              have c41 := (fr40 43 (by omega)).trans c30
              have c42 := (fr40 44 (by omega)).trans c31
              have c43 := (fr40 45 (by omega)).trans c32
              have c44 := (fr40 46 (by omega)).trans c33
              have c45 := (fr40 47 (by omega)).trans c34
              have c46 := (fr40 48 (by omega)).trans c35
              have c47 := (fr40 49 (by omega)).trans c27
              have c48 := (fr40 50 (by omega)).trans c36
              have c49 := (fr40 51 (by omega)).trans c37
              refine z_iload X d_Mod_findPoints_152 rfl ?_
              refine z_if_eq (tgt := 163) X d_Mod_findPoints_154 (by decide) (by omega) (fun q8 => ?_) (fun q8 => ?_)
              · refine z_iload_n X d_Mod_findPoints_163 rfl ?_
                refine z_iconst X d_Mod_findPoints_164 ?_
                refine z_iadd X d_Mod_findPoints_165 ?_
                refine e_istore_n X d_Mod_findPoints_166 (by decide) ?_
                refine e_goto (tgt := 14) X d_Mod_findPoints_167 (by decide) ?_
                refine e_clear 4 ?_
                refine e_clear 5 ?_
                refine e_clear 6 ?_
                have hnx : bg1 t (k9 + 1) = true ∨ k9 + 1 = n := by rcases Nat.lt_or_ge (k9 + 1) n with h9 | h9; exact Or.inl (bg1_one ht h9 hpr); exact Or.inr (by omega)
                exact ih (k9 + 1) _ _ _ (by omega) (by omega) hnx (by rw [cnt_t hb1]; exact ⟨c39, c41, c42, c43, c44, c45, c46, c47, c48, c49⟩) (sel_t hs1 hb1) (codes_t hs2 hb1) (fun q q1 => ((fr40 q (by omega)).trans ((fr28 q (by omega)).trans (fr16 q (by omega)))).trans (hf q q1))
              · exact absurd q8 (by decide)
            · exact absurd q7 (by decide)
          · refine z_iload X d_Mod_findPoints_67 rfl ?_
            refine z_ldc (n := 56319) X d_Mod_findPoints_69 cst_Mod_55 (by decide) ?_
            refine z_icmp_gt (tgt := 92) X d_Mod_findPoints_71 (by decide) (by omega) (fun q50 => ?_) (fun q50 => ?_)
            · refine z_iconst X d_Mod_findPoints_92 ?_
              have hpr : (u_hi (t k9) && u_lo (t (k9 + 1))) = false := by  simp [u_hi, u_lo]; omega
              refine e_istore X d_Mod_findPoints_93 (by decide) ?_
              refine e_aload_n X d_Mod_findPoints_95 rfl ?_
              refine e_get X d_Mod_findPoints_96 fl_Mod_30 d42b (by omega) rfl ?_
              refine e_aload_n X d_Mod_findPoints_99 rfl ?_
              refine e_get X d_Mod_findPoints_100 fl_Mod_51 d42b (by omega) rfl ?_
              refine z_iload_n X d_Mod_findPoints_103 rfl ?_
              refine z_iast X d_Mod_findPoints_104 (j := (cnt (bg1 t) k9)) d48b (by omega) (by omega) (by omega) (fun h51 c52 fr53 => ?_)
              have c54 := (fr53 42 (by omega)).trans d42b
              have c55 := (fr53 43 (by omega)).trans d43b
              have c56 := (fr53 44 (by omega)).trans d44b
              have c57 := (fr53 45 (by omega)).trans d45b
              have c58 := (fr53 46 (by omega)).trans d46b
              have c59 := (fr53 47 (by omega)).trans d47b
              have c60 := (fr53 49 (by omega)).trans d49b
              have c61 := (fr53 50 (by omega)).trans d50b
              have c62 := (fr53 51 (by omega)).trans d51b
              refine e_aload_n X d_Mod_findPoints_105 rfl ?_
              refine e_get X d_Mod_findPoints_106 fl_Mod_33 c54 (by omega) rfl ?_
              refine e_aload_n X d_Mod_findPoints_109 rfl ?_
              refine e_get X d_Mod_findPoints_110 fl_Mod_51 c54 (by omega) rfl ?_
              refine z_iload X d_Mod_findPoints_113 rfl ?_
              refine z_if_eq (tgt := 139) X d_Mod_findPoints_115 (by decide) (by omega) (fun q7 => ?_) (fun q7 => ?_)
              · refine z_iload X d_Mod_findPoints_139 rfl ?_
                refine z_top (show _ = (cod t k9) from (by unfold cod; rw [hpr]; rfl)) ?_
                refine z_iast X d_Mod_findPoints_141 (j := (cnt (bg1 t) k9)) c60 (by omega) (by omega) (by omega) (fun h63 c64 fr65 => ?_)
                have c66 := (fr65 42 (by omega)).trans c54
                have c67 := (fr65 43 (by omega)).trans c55
                have c68 := (fr65 44 (by omega)).trans c56
                have c69 := (fr65 45 (by omega)).trans c57
                have c70 := (fr65 46 (by omega)).trans c58
                have c71 := (fr65 47 (by omega)).trans c59
                have c72 := (fr65 48 (by omega)).trans c52
                have c73 := (fr65 50 (by omega)).trans c61
                have c74 := (fr65 51 (by omega)).trans c62
                refine e_aload_n X d_Mod_findPoints_142 rfl ?_
                refine e_dup X d_Mod_findPoints_143 rfl ?_
                refine e_get X d_Mod_findPoints_144 fl_Mod_51 c66 (by omega) rfl ?_
                refine z_iconst X d_Mod_findPoints_147 ?_
                refine z_iadd X d_Mod_findPoints_148 ?_
                refine z_top (show _ = ((cnt (bg1 t) k9 + 1 : Nat) : Int) by omega) ?_
                refine z_put X d_Mod_findPoints_149 fl_Mod_51 c66 (by omega) (Nat.le_of_ble_eq_true rfl) rfl rfl (fun h75 c76 fr77 => ?_)
                have c76 : h75 42 = ob ci_Mod [.ref (ad (g_b G) 43), .ref (ad (g_b G) 44), vI (now), vI (last), .ref (ad (g_b G) 45), .ref (ad (g_b G) 46), vI (cl), vI (g), vI (o), .ref (ad (g_b G) 47), vI (ml), vI ((cnt (bg1 t) k9 + 1 : Nat) : Int), .ref (ad (g_b G) 48), .ref (ad (g_b G) 49), vI (its), .ref (ad (g_b G) 50), .ref (ad (g_b G) 51), vI (en)] := c76
                have c78 := (fr77 43 (by omega)).trans c67
                have c79 := (fr77 44 (by omega)).trans c68
                have c80 := (fr77 45 (by omega)).trans c69
                have c81 := (fr77 46 (by omega)).trans c70
                have c82 := (fr77 47 (by omega)).trans c71
                have c83 := (fr77 48 (by omega)).trans c72
                have c84 := (fr77 49 (by omega)).trans c64
                have c85 := (fr77 50 (by omega)).trans c73
                have c86 := (fr77 51 (by omega)).trans c74
                refine z_iload X d_Mod_findPoints_152 rfl ?_
                refine z_if_eq (tgt := 163) X d_Mod_findPoints_154 (by decide) (by omega) (fun q8 => ?_) (fun q8 => ?_)
                · refine z_iload_n X d_Mod_findPoints_163 rfl ?_
                  refine z_iconst X d_Mod_findPoints_164 ?_
                  refine z_iadd X d_Mod_findPoints_165 ?_
                  refine e_istore_n X d_Mod_findPoints_166 (by decide) ?_
                  refine e_goto (tgt := 14) X d_Mod_findPoints_167 (by decide) ?_
                  refine e_clear 4 ?_
                  refine e_clear 5 ?_
                  refine e_clear 6 ?_
                  have hnx : bg1 t (k9 + 1) = true ∨ k9 + 1 = n := by rcases Nat.lt_or_ge (k9 + 1) n with h9 | h9; exact Or.inl (bg1_one ht h9 hpr); exact Or.inr (by omega)
                  exact ih (k9 + 1) _ _ _ (by omega) (by omega) hnx (by rw [cnt_t hb1]; exact ⟨c76, c78, c79, c80, c81, c82, c83, c84, c85, c86⟩) (sel_t hs1 hb1) (codes_t hs2 hb1) (fun q q1 => ((fr77 q (by omega)).trans ((fr65 q (by omega)).trans (fr53 q (by omega)))).trans (hf q q1))
                · exact absurd q8 (by decide)
              · exact absurd q7 (by decide)
            · refine z_iload X d_Mod_findPoints_74 rfl ?_
              refine z_ldc (n := 56320) X d_Mod_findPoints_76 cst_Mod_56 (by decide) ?_
              refine z_icmp_lt (tgt := 92) X d_Mod_findPoints_78 (by decide) (by omega) (fun q87 => ?_) (fun q87 => ?_)
              · refine z_iconst X d_Mod_findPoints_92 ?_
                have hpr : (u_hi (t k9) && u_lo (t (k9 + 1))) = false := by  simp [u_hi, u_lo]; omega
                refine e_istore X d_Mod_findPoints_93 (by decide) ?_
                refine e_aload_n X d_Mod_findPoints_95 rfl ?_
                refine e_get X d_Mod_findPoints_96 fl_Mod_30 d42b (by omega) rfl ?_
                refine e_aload_n X d_Mod_findPoints_99 rfl ?_
                refine e_get X d_Mod_findPoints_100 fl_Mod_51 d42b (by omega) rfl ?_
                refine z_iload_n X d_Mod_findPoints_103 rfl ?_
                refine z_iast X d_Mod_findPoints_104 (j := (cnt (bg1 t) k9)) d48b (by omega) (by omega) (by omega) (fun h88 c89 fr90 => ?_)
                have c91 := (fr90 42 (by omega)).trans d42b
                have c92 := (fr90 43 (by omega)).trans d43b
                have c93 := (fr90 44 (by omega)).trans d44b
                have c94 := (fr90 45 (by omega)).trans d45b
                have c95 := (fr90 46 (by omega)).trans d46b
                have c96 := (fr90 47 (by omega)).trans d47b
                have c97 := (fr90 49 (by omega)).trans d49b
                have c98 := (fr90 50 (by omega)).trans d50b
                have c99 := (fr90 51 (by omega)).trans d51b
                refine e_aload_n X d_Mod_findPoints_105 rfl ?_
                refine e_get X d_Mod_findPoints_106 fl_Mod_33 c91 (by omega) rfl ?_
                refine e_aload_n X d_Mod_findPoints_109 rfl ?_
                refine e_get X d_Mod_findPoints_110 fl_Mod_51 c91 (by omega) rfl ?_
                refine z_iload X d_Mod_findPoints_113 rfl ?_
                refine z_if_eq (tgt := 139) X d_Mod_findPoints_115 (by decide) (by omega) (fun q7 => ?_) (fun q7 => ?_)
                · refine z_iload X d_Mod_findPoints_139 rfl ?_
                  refine z_top (show _ = (cod t k9) from (by unfold cod; rw [hpr]; rfl)) ?_
                  refine z_iast X d_Mod_findPoints_141 (j := (cnt (bg1 t) k9)) c97 (by omega) (by omega) (by omega) (fun h100 c101 fr102 => ?_)
                  have c103 := (fr102 42 (by omega)).trans c91
                  have c104 := (fr102 43 (by omega)).trans c92
                  have c105 := (fr102 44 (by omega)).trans c93
                  have c106 := (fr102 45 (by omega)).trans c94
                  have c107 := (fr102 46 (by omega)).trans c95
                  have c108 := (fr102 47 (by omega)).trans c96
                  have c109 := (fr102 48 (by omega)).trans c89
                  have c110 := (fr102 50 (by omega)).trans c98
                  have c111 := (fr102 51 (by omega)).trans c99
                  refine e_aload_n X d_Mod_findPoints_142 rfl ?_
                  refine e_dup X d_Mod_findPoints_143 rfl ?_
                  refine e_get X d_Mod_findPoints_144 fl_Mod_51 c103 (by omega) rfl ?_
                  refine z_iconst X d_Mod_findPoints_147 ?_
                  refine z_iadd X d_Mod_findPoints_148 ?_
                  refine z_top (show _ = ((cnt (bg1 t) k9 + 1 : Nat) : Int) by omega) ?_
                  refine z_put X d_Mod_findPoints_149 fl_Mod_51 c103 (by omega) (Nat.le_of_ble_eq_true rfl) rfl rfl (fun h112 c113 fr114 => ?_)
                  have c113 : h112 42 = ob ci_Mod [.ref (ad (g_b G) 43), .ref (ad (g_b G) 44), vI (now), vI (last), .ref (ad (g_b G) 45), .ref (ad (g_b G) 46), vI (cl), vI (g), vI (o), .ref (ad (g_b G) 47), vI (ml), vI ((cnt (bg1 t) k9 + 1 : Nat) : Int), .ref (ad (g_b G) 48), .ref (ad (g_b G) 49), vI (its), .ref (ad (g_b G) 50), .ref (ad (g_b G) 51), vI (en)] := c113
                  have c115 := (fr114 43 (by omega)).trans c104
                  have c116 := (fr114 44 (by omega)).trans c105
                  have c117 := (fr114 45 (by omega)).trans c106
                  have c118 := (fr114 46 (by omega)).trans c107
                  have c119 := (fr114 47 (by omega)).trans c108
                  have c120 := (fr114 48 (by omega)).trans c109
                  have c121 := (fr114 49 (by omega)).trans c101
                  have c122 := (fr114 50 (by omega)).trans c110
                  have c123 := (fr114 51 (by omega)).trans c111
                  refine z_iload X d_Mod_findPoints_152 rfl ?_
                  refine z_if_eq (tgt := 163) X d_Mod_findPoints_154 (by decide) (by omega) (fun q8 => ?_) (fun q8 => ?_)
                  · refine z_iload_n X d_Mod_findPoints_163 rfl ?_
                    refine z_iconst X d_Mod_findPoints_164 ?_
                    refine z_iadd X d_Mod_findPoints_165 ?_
                    refine e_istore_n X d_Mod_findPoints_166 (by decide) ?_
                    refine e_goto (tgt := 14) X d_Mod_findPoints_167 (by decide) ?_
                    refine e_clear 4 ?_
                    refine e_clear 5 ?_
                    refine e_clear 6 ?_
                    have hnx : bg1 t (k9 + 1) = true ∨ k9 + 1 = n := by rcases Nat.lt_or_ge (k9 + 1) n with h9 | h9; exact Or.inl (bg1_one ht h9 hpr); exact Or.inr (by omega)
                    exact ih (k9 + 1) _ _ _ (by omega) (by omega) hnx (by rw [cnt_t hb1]; exact ⟨c113, c115, c116, c117, c118, c119, c120, c121, c122, c123⟩) (sel_t hs1 hb1) (codes_t hs2 hb1) (fun q q1 => ((fr114 q (by omega)).trans ((fr102 q (by omega)).trans (fr90 q (by omega)))).trans (hf q q1))
                  · exact absurd q8 (by decide)
                · exact absurd q7 (by decide)
              · refine z_iload X d_Mod_findPoints_81 rfl ?_
                refine z_ldc (n := 57343) X d_Mod_findPoints_83 cst_Mod_57 (by decide) ?_
                refine z_icmp_gt (tgt := 92) X d_Mod_findPoints_85 (by decide) (by omega) (fun q124 => ?_) (fun q124 => ?_)
                · refine z_iconst X d_Mod_findPoints_92 ?_
                  have hpr : (u_hi (t k9) && u_lo (t (k9 + 1))) = false := by  simp [u_hi, u_lo]; omega
                  refine e_istore X d_Mod_findPoints_93 (by decide) ?_
                  refine e_aload_n X d_Mod_findPoints_95 rfl ?_
                  refine e_get X d_Mod_findPoints_96 fl_Mod_30 d42b (by omega) rfl ?_
                  refine e_aload_n X d_Mod_findPoints_99 rfl ?_
                  refine e_get X d_Mod_findPoints_100 fl_Mod_51 d42b (by omega) rfl ?_
                  refine z_iload_n X d_Mod_findPoints_103 rfl ?_
                  refine z_iast X d_Mod_findPoints_104 (j := (cnt (bg1 t) k9)) d48b (by omega) (by omega) (by omega) (fun h125 c126 fr127 => ?_)
                  have c128 := (fr127 42 (by omega)).trans d42b
                  have c129 := (fr127 43 (by omega)).trans d43b
                  have c130 := (fr127 44 (by omega)).trans d44b
                  have c131 := (fr127 45 (by omega)).trans d45b
                  have c132 := (fr127 46 (by omega)).trans d46b
                  have c133 := (fr127 47 (by omega)).trans d47b
                  have c134 := (fr127 49 (by omega)).trans d49b
                  have c135 := (fr127 50 (by omega)).trans d50b
                  have c136 := (fr127 51 (by omega)).trans d51b
                  refine e_aload_n X d_Mod_findPoints_105 rfl ?_
                  refine e_get X d_Mod_findPoints_106 fl_Mod_33 c128 (by omega) rfl ?_
                  refine e_aload_n X d_Mod_findPoints_109 rfl ?_
                  refine e_get X d_Mod_findPoints_110 fl_Mod_51 c128 (by omega) rfl ?_
                  refine z_iload X d_Mod_findPoints_113 rfl ?_
                  refine z_if_eq (tgt := 139) X d_Mod_findPoints_115 (by decide) (by omega) (fun q7 => ?_) (fun q7 => ?_)
                  · refine z_iload X d_Mod_findPoints_139 rfl ?_
                    refine z_top (show _ = (cod t k9) from (by unfold cod; rw [hpr]; rfl)) ?_
                    refine z_iast X d_Mod_findPoints_141 (j := (cnt (bg1 t) k9)) c134 (by omega) (by omega) (by omega) (fun h137 c138 fr139 => ?_)
                    have c140 := (fr139 42 (by omega)).trans c128
                    have c141 := (fr139 43 (by omega)).trans c129
                    have c142 := (fr139 44 (by omega)).trans c130
                    have c143 := (fr139 45 (by omega)).trans c131
                    have c144 := (fr139 46 (by omega)).trans c132
                    have c145 := (fr139 47 (by omega)).trans c133
                    have c146 := (fr139 48 (by omega)).trans c126
                    have c147 := (fr139 50 (by omega)).trans c135
                    have c148 := (fr139 51 (by omega)).trans c136
                    refine e_aload_n X d_Mod_findPoints_142 rfl ?_
                    refine e_dup X d_Mod_findPoints_143 rfl ?_
                    refine e_get X d_Mod_findPoints_144 fl_Mod_51 c140 (by omega) rfl ?_
                    refine z_iconst X d_Mod_findPoints_147 ?_
                    refine z_iadd X d_Mod_findPoints_148 ?_
                    refine z_top (show _ = ((cnt (bg1 t) k9 + 1 : Nat) : Int) by omega) ?_
                    refine z_put X d_Mod_findPoints_149 fl_Mod_51 c140 (by omega) (Nat.le_of_ble_eq_true rfl) rfl rfl (fun h149 c150 fr151 => ?_)
                    have c150 : h149 42 = ob ci_Mod [.ref (ad (g_b G) 43), .ref (ad (g_b G) 44), vI (now), vI (last), .ref (ad (g_b G) 45), .ref (ad (g_b G) 46), vI (cl), vI (g), vI (o), .ref (ad (g_b G) 47), vI (ml), vI ((cnt (bg1 t) k9 + 1 : Nat) : Int), .ref (ad (g_b G) 48), .ref (ad (g_b G) 49), vI (its), .ref (ad (g_b G) 50), .ref (ad (g_b G) 51), vI (en)] := c150
                    have c152 := (fr151 43 (by omega)).trans c141
                    have c153 := (fr151 44 (by omega)).trans c142
                    have c154 := (fr151 45 (by omega)).trans c143
                    have c155 := (fr151 46 (by omega)).trans c144
                    have c156 := (fr151 47 (by omega)).trans c145
                    have c157 := (fr151 48 (by omega)).trans c146
                    have c158 := (fr151 49 (by omega)).trans c138
                    have c159 := (fr151 50 (by omega)).trans c147
                    have c160 := (fr151 51 (by omega)).trans c148
                    refine z_iload X d_Mod_findPoints_152 rfl ?_
                    refine z_if_eq (tgt := 163) X d_Mod_findPoints_154 (by decide) (by omega) (fun q8 => ?_) (fun q8 => ?_)
                    · refine z_iload_n X d_Mod_findPoints_163 rfl ?_
                      refine z_iconst X d_Mod_findPoints_164 ?_
                      refine z_iadd X d_Mod_findPoints_165 ?_
                      refine e_istore_n X d_Mod_findPoints_166 (by decide) ?_
                      refine e_goto (tgt := 14) X d_Mod_findPoints_167 (by decide) ?_
                      refine e_clear 4 ?_
                      refine e_clear 5 ?_
                      refine e_clear 6 ?_
                      have hnx : bg1 t (k9 + 1) = true ∨ k9 + 1 = n := by rcases Nat.lt_or_ge (k9 + 1) n with h9 | h9; exact Or.inl (bg1_one ht h9 hpr); exact Or.inr (by omega)
                      exact ih (k9 + 1) _ _ _ (by omega) (by omega) hnx (by rw [cnt_t hb1]; exact ⟨c150, c152, c153, c154, c155, c156, c157, c158, c159, c160⟩) (sel_t hs1 hb1) (codes_t hs2 hb1) (fun q q1 => ((fr151 q (by omega)).trans ((fr139 q (by omega)).trans (fr127 q (by omega)))).trans (hf q q1))
                    · exact absurd q8 (by decide)
                  · exact absurd q7 (by decide)
                · refine z_iconst X d_Mod_findPoints_88 ?_
                  refine e_goto (tgt := 93) X d_Mod_findPoints_89 (by decide) ?_
                  omega
        · refine e_aload_n X d_Mod_findPoints_40 rfl ?_
          refine e_get X d_Mod_findPoints_41 fl_Mod_7 d42b (by omega) rfl ?_
          refine z_sipush X d_Mod_findPoints_44 (by decide) ?_
          refine z_iload_n X d_Mod_findPoints_47 rfl ?_
          refine z_imul X d_Mod_findPoints_48 ?_
          refine z_iload_n X d_Mod_findPoints_49 rfl ?_
          refine z_iadd X d_Mod_findPoints_50 ?_
          refine z_iconst X d_Mod_findPoints_51 ?_
          refine z_iadd X d_Mod_findPoints_52 ?_
          refine z_iald X d_Mod_findPoints_53 (j := (((160 * s) + k9) + 1)) d43b (by omega) (by omega) (by omega) ?_
          refine z_top (show _ = (t (k9 + 1)) from (by rw [Nat.add_assoc]; exact hl2 (k9 + 1) (by omega))) ?_
          refine e_goto (tgt := 58) X d_Mod_findPoints_54 (by decide) ?_
          refine e_istore X d_Mod_findPoints_58 (by decide) ?_
          refine z_iload X d_Mod_findPoints_60 rfl ?_
          refine z_ldc (n := 55296) X d_Mod_findPoints_62 cst_Mod_54 (by decide) ?_
          refine z_icmp_lt (tgt := 92) X d_Mod_findPoints_64 (by decide) (by omega) (fun q161 => ?_) (fun q161 => ?_)
          · refine z_iconst X d_Mod_findPoints_92 ?_
            have hpr : (u_hi (t k9) && u_lo (t (k9 + 1))) = false := by  simp [u_hi, u_lo]; omega
            refine e_istore X d_Mod_findPoints_93 (by decide) ?_
            refine e_aload_n X d_Mod_findPoints_95 rfl ?_
            refine e_get X d_Mod_findPoints_96 fl_Mod_30 d42b (by omega) rfl ?_
            refine e_aload_n X d_Mod_findPoints_99 rfl ?_
            refine e_get X d_Mod_findPoints_100 fl_Mod_51 d42b (by omega) rfl ?_
            refine z_iload_n X d_Mod_findPoints_103 rfl ?_
            refine z_iast X d_Mod_findPoints_104 (j := (cnt (bg1 t) k9)) d48b (by omega) (by omega) (by omega) (fun h162 c163 fr164 => ?_)
            have c165 := (fr164 42 (by omega)).trans d42b
            have c166 := (fr164 43 (by omega)).trans d43b
            have c167 := (fr164 44 (by omega)).trans d44b
            have c168 := (fr164 45 (by omega)).trans d45b
            have c169 := (fr164 46 (by omega)).trans d46b
            have c170 := (fr164 47 (by omega)).trans d47b
            have c171 := (fr164 49 (by omega)).trans d49b
            have c172 := (fr164 50 (by omega)).trans d50b
            have c173 := (fr164 51 (by omega)).trans d51b
            refine e_aload_n X d_Mod_findPoints_105 rfl ?_
            refine e_get X d_Mod_findPoints_106 fl_Mod_33 c165 (by omega) rfl ?_
            refine e_aload_n X d_Mod_findPoints_109 rfl ?_
            refine e_get X d_Mod_findPoints_110 fl_Mod_51 c165 (by omega) rfl ?_
            refine z_iload X d_Mod_findPoints_113 rfl ?_
            refine z_if_eq (tgt := 139) X d_Mod_findPoints_115 (by decide) (by omega) (fun q7 => ?_) (fun q7 => ?_)
            · refine z_iload X d_Mod_findPoints_139 rfl ?_
              refine z_top (show _ = (cod t k9) from (by unfold cod; rw [hpr]; rfl)) ?_
              refine z_iast X d_Mod_findPoints_141 (j := (cnt (bg1 t) k9)) c171 (by omega) (by omega) (by omega) (fun h174 c175 fr176 => ?_)
              have c177 := (fr176 42 (by omega)).trans c165
              have c178 := (fr176 43 (by omega)).trans c166
              have c179 := (fr176 44 (by omega)).trans c167
              have c180 := (fr176 45 (by omega)).trans c168
              have c181 := (fr176 46 (by omega)).trans c169
              have c182 := (fr176 47 (by omega)).trans c170
              have c183 := (fr176 48 (by omega)).trans c163
              have c184 := (fr176 50 (by omega)).trans c172
              have c185 := (fr176 51 (by omega)).trans c173
              refine e_aload_n X d_Mod_findPoints_142 rfl ?_
              refine e_dup X d_Mod_findPoints_143 rfl ?_
              refine e_get X d_Mod_findPoints_144 fl_Mod_51 c177 (by omega) rfl ?_
              refine z_iconst X d_Mod_findPoints_147 ?_
              refine z_iadd X d_Mod_findPoints_148 ?_
              refine z_top (show _ = ((cnt (bg1 t) k9 + 1 : Nat) : Int) by omega) ?_
              refine z_put X d_Mod_findPoints_149 fl_Mod_51 c177 (by omega) (Nat.le_of_ble_eq_true rfl) rfl rfl (fun h186 c187 fr188 => ?_)
              have c187 : h186 42 = ob ci_Mod [.ref (ad (g_b G) 43), .ref (ad (g_b G) 44), vI (now), vI (last), .ref (ad (g_b G) 45), .ref (ad (g_b G) 46), vI (cl), vI (g), vI (o), .ref (ad (g_b G) 47), vI (ml), vI ((cnt (bg1 t) k9 + 1 : Nat) : Int), .ref (ad (g_b G) 48), .ref (ad (g_b G) 49), vI (its), .ref (ad (g_b G) 50), .ref (ad (g_b G) 51), vI (en)] := c187
              have c189 := (fr188 43 (by omega)).trans c178
              have c190 := (fr188 44 (by omega)).trans c179
              have c191 := (fr188 45 (by omega)).trans c180
              have c192 := (fr188 46 (by omega)).trans c181
              have c193 := (fr188 47 (by omega)).trans c182
              have c194 := (fr188 48 (by omega)).trans c183
              have c195 := (fr188 49 (by omega)).trans c175
              have c196 := (fr188 50 (by omega)).trans c184
              have c197 := (fr188 51 (by omega)).trans c185
              refine z_iload X d_Mod_findPoints_152 rfl ?_
              refine z_if_eq (tgt := 163) X d_Mod_findPoints_154 (by decide) (by omega) (fun q8 => ?_) (fun q8 => ?_)
              · refine z_iload_n X d_Mod_findPoints_163 rfl ?_
                refine z_iconst X d_Mod_findPoints_164 ?_
                refine z_iadd X d_Mod_findPoints_165 ?_
                refine e_istore_n X d_Mod_findPoints_166 (by decide) ?_
                refine e_goto (tgt := 14) X d_Mod_findPoints_167 (by decide) ?_
                refine e_clear 4 ?_
                refine e_clear 5 ?_
                refine e_clear 6 ?_
                have hnx : bg1 t (k9 + 1) = true ∨ k9 + 1 = n := by rcases Nat.lt_or_ge (k9 + 1) n with h9 | h9; exact Or.inl (bg1_one ht h9 hpr); exact Or.inr (by omega)
                exact ih (k9 + 1) _ _ _ (by omega) (by omega) hnx (by rw [cnt_t hb1]; exact ⟨c187, c189, c190, c191, c192, c193, c194, c195, c196, c197⟩) (sel_t hs1 hb1) (codes_t hs2 hb1) (fun q q1 => ((fr188 q (by omega)).trans ((fr176 q (by omega)).trans (fr164 q (by omega)))).trans (hf q q1))
              · exact absurd q8 (by decide)
            · exact absurd q7 (by decide)
          · refine z_iload X d_Mod_findPoints_67 rfl ?_
            refine z_ldc (n := 56319) X d_Mod_findPoints_69 cst_Mod_55 (by decide) ?_
            refine z_icmp_gt (tgt := 92) X d_Mod_findPoints_71 (by decide) (by omega) (fun q198 => ?_) (fun q198 => ?_)
            · refine z_iconst X d_Mod_findPoints_92 ?_
              have hpr : (u_hi (t k9) && u_lo (t (k9 + 1))) = false := by  simp [u_hi, u_lo]; omega
              refine e_istore X d_Mod_findPoints_93 (by decide) ?_
              refine e_aload_n X d_Mod_findPoints_95 rfl ?_
              refine e_get X d_Mod_findPoints_96 fl_Mod_30 d42b (by omega) rfl ?_
              refine e_aload_n X d_Mod_findPoints_99 rfl ?_
              refine e_get X d_Mod_findPoints_100 fl_Mod_51 d42b (by omega) rfl ?_
              refine z_iload_n X d_Mod_findPoints_103 rfl ?_
              refine z_iast X d_Mod_findPoints_104 (j := (cnt (bg1 t) k9)) d48b (by omega) (by omega) (by omega) (fun h199 c200 fr201 => ?_)
              have c202 := (fr201 42 (by omega)).trans d42b
              have c203 := (fr201 43 (by omega)).trans d43b
              have c204 := (fr201 44 (by omega)).trans d44b
              have c205 := (fr201 45 (by omega)).trans d45b
              have c206 := (fr201 46 (by omega)).trans d46b
              have c207 := (fr201 47 (by omega)).trans d47b
              have c208 := (fr201 49 (by omega)).trans d49b
              have c209 := (fr201 50 (by omega)).trans d50b
              have c210 := (fr201 51 (by omega)).trans d51b
              refine e_aload_n X d_Mod_findPoints_105 rfl ?_
              refine e_get X d_Mod_findPoints_106 fl_Mod_33 c202 (by omega) rfl ?_
              refine e_aload_n X d_Mod_findPoints_109 rfl ?_
              refine e_get X d_Mod_findPoints_110 fl_Mod_51 c202 (by omega) rfl ?_
              refine z_iload X d_Mod_findPoints_113 rfl ?_
              refine z_if_eq (tgt := 139) X d_Mod_findPoints_115 (by decide) (by omega) (fun q7 => ?_) (fun q7 => ?_)
              · refine z_iload X d_Mod_findPoints_139 rfl ?_
                refine z_top (show _ = (cod t k9) from (by unfold cod; rw [hpr]; rfl)) ?_
                refine z_iast X d_Mod_findPoints_141 (j := (cnt (bg1 t) k9)) c208 (by omega) (by omega) (by omega) (fun h211 c212 fr213 => ?_)
                have c214 := (fr213 42 (by omega)).trans c202
                have c215 := (fr213 43 (by omega)).trans c203
                have c216 := (fr213 44 (by omega)).trans c204
                have c217 := (fr213 45 (by omega)).trans c205
                have c218 := (fr213 46 (by omega)).trans c206
                have c219 := (fr213 47 (by omega)).trans c207
                have c220 := (fr213 48 (by omega)).trans c200
                have c221 := (fr213 50 (by omega)).trans c209
                have c222 := (fr213 51 (by omega)).trans c210
                refine e_aload_n X d_Mod_findPoints_142 rfl ?_
                refine e_dup X d_Mod_findPoints_143 rfl ?_
                refine e_get X d_Mod_findPoints_144 fl_Mod_51 c214 (by omega) rfl ?_
                refine z_iconst X d_Mod_findPoints_147 ?_
                refine z_iadd X d_Mod_findPoints_148 ?_
                refine z_top (show _ = ((cnt (bg1 t) k9 + 1 : Nat) : Int) by omega) ?_
                refine z_put X d_Mod_findPoints_149 fl_Mod_51 c214 (by omega) (Nat.le_of_ble_eq_true rfl) rfl rfl (fun h223 c224 fr225 => ?_)
                have c224 : h223 42 = ob ci_Mod [.ref (ad (g_b G) 43), .ref (ad (g_b G) 44), vI (now), vI (last), .ref (ad (g_b G) 45), .ref (ad (g_b G) 46), vI (cl), vI (g), vI (o), .ref (ad (g_b G) 47), vI (ml), vI ((cnt (bg1 t) k9 + 1 : Nat) : Int), .ref (ad (g_b G) 48), .ref (ad (g_b G) 49), vI (its), .ref (ad (g_b G) 50), .ref (ad (g_b G) 51), vI (en)] := c224
                have c226 := (fr225 43 (by omega)).trans c215
                have c227 := (fr225 44 (by omega)).trans c216
                have c228 := (fr225 45 (by omega)).trans c217
                have c229 := (fr225 46 (by omega)).trans c218
                have c230 := (fr225 47 (by omega)).trans c219
                have c231 := (fr225 48 (by omega)).trans c220
                have c232 := (fr225 49 (by omega)).trans c212
                have c233 := (fr225 50 (by omega)).trans c221
                have c234 := (fr225 51 (by omega)).trans c222
                refine z_iload X d_Mod_findPoints_152 rfl ?_
                refine z_if_eq (tgt := 163) X d_Mod_findPoints_154 (by decide) (by omega) (fun q8 => ?_) (fun q8 => ?_)
                · refine z_iload_n X d_Mod_findPoints_163 rfl ?_
                  refine z_iconst X d_Mod_findPoints_164 ?_
                  refine z_iadd X d_Mod_findPoints_165 ?_
                  refine e_istore_n X d_Mod_findPoints_166 (by decide) ?_
                  refine e_goto (tgt := 14) X d_Mod_findPoints_167 (by decide) ?_
                  refine e_clear 4 ?_
                  refine e_clear 5 ?_
                  refine e_clear 6 ?_
                  have hnx : bg1 t (k9 + 1) = true ∨ k9 + 1 = n := by rcases Nat.lt_or_ge (k9 + 1) n with h9 | h9; exact Or.inl (bg1_one ht h9 hpr); exact Or.inr (by omega)
                  exact ih (k9 + 1) _ _ _ (by omega) (by omega) hnx (by rw [cnt_t hb1]; exact ⟨c224, c226, c227, c228, c229, c230, c231, c232, c233, c234⟩) (sel_t hs1 hb1) (codes_t hs2 hb1) (fun q q1 => ((fr225 q (by omega)).trans ((fr213 q (by omega)).trans (fr201 q (by omega)))).trans (hf q q1))
                · exact absurd q8 (by decide)
              · exact absurd q7 (by decide)
            · refine z_iload X d_Mod_findPoints_74 rfl ?_
              refine z_ldc (n := 56320) X d_Mod_findPoints_76 cst_Mod_56 (by decide) ?_
              refine z_icmp_lt (tgt := 92) X d_Mod_findPoints_78 (by decide) (by omega) (fun q235 => ?_) (fun q235 => ?_)
              · refine z_iconst X d_Mod_findPoints_92 ?_
                have hpr : (u_hi (t k9) && u_lo (t (k9 + 1))) = false := by  simp [u_hi, u_lo]; omega
                refine e_istore X d_Mod_findPoints_93 (by decide) ?_
                refine e_aload_n X d_Mod_findPoints_95 rfl ?_
                refine e_get X d_Mod_findPoints_96 fl_Mod_30 d42b (by omega) rfl ?_
                refine e_aload_n X d_Mod_findPoints_99 rfl ?_
                refine e_get X d_Mod_findPoints_100 fl_Mod_51 d42b (by omega) rfl ?_
                refine z_iload_n X d_Mod_findPoints_103 rfl ?_
                refine z_iast X d_Mod_findPoints_104 (j := (cnt (bg1 t) k9)) d48b (by omega) (by omega) (by omega) (fun h236 c237 fr238 => ?_)
                have c239 := (fr238 42 (by omega)).trans d42b
                have c240 := (fr238 43 (by omega)).trans d43b
                have c241 := (fr238 44 (by omega)).trans d44b
                have c242 := (fr238 45 (by omega)).trans d45b
                have c243 := (fr238 46 (by omega)).trans d46b
                have c244 := (fr238 47 (by omega)).trans d47b
                have c245 := (fr238 49 (by omega)).trans d49b
                have c246 := (fr238 50 (by omega)).trans d50b
                have c247 := (fr238 51 (by omega)).trans d51b
                refine e_aload_n X d_Mod_findPoints_105 rfl ?_
                refine e_get X d_Mod_findPoints_106 fl_Mod_33 c239 (by omega) rfl ?_
                refine e_aload_n X d_Mod_findPoints_109 rfl ?_
                refine e_get X d_Mod_findPoints_110 fl_Mod_51 c239 (by omega) rfl ?_
                refine z_iload X d_Mod_findPoints_113 rfl ?_
                refine z_if_eq (tgt := 139) X d_Mod_findPoints_115 (by decide) (by omega) (fun q7 => ?_) (fun q7 => ?_)
                · refine z_iload X d_Mod_findPoints_139 rfl ?_
                  refine z_top (show _ = (cod t k9) from (by unfold cod; rw [hpr]; rfl)) ?_
                  refine z_iast X d_Mod_findPoints_141 (j := (cnt (bg1 t) k9)) c245 (by omega) (by omega) (by omega) (fun h248 c249 fr250 => ?_)
                  have c251 := (fr250 42 (by omega)).trans c239
                  have c252 := (fr250 43 (by omega)).trans c240
                  have c253 := (fr250 44 (by omega)).trans c241
                  have c254 := (fr250 45 (by omega)).trans c242
                  have c255 := (fr250 46 (by omega)).trans c243
                  have c256 := (fr250 47 (by omega)).trans c244
                  have c257 := (fr250 48 (by omega)).trans c237
                  have c258 := (fr250 50 (by omega)).trans c246
                  have c259 := (fr250 51 (by omega)).trans c247
                  refine e_aload_n X d_Mod_findPoints_142 rfl ?_
                  refine e_dup X d_Mod_findPoints_143 rfl ?_
                  refine e_get X d_Mod_findPoints_144 fl_Mod_51 c251 (by omega) rfl ?_
                  refine z_iconst X d_Mod_findPoints_147 ?_
                  refine z_iadd X d_Mod_findPoints_148 ?_
                  refine z_top (show _ = ((cnt (bg1 t) k9 + 1 : Nat) : Int) by omega) ?_
                  refine z_put X d_Mod_findPoints_149 fl_Mod_51 c251 (by omega) (Nat.le_of_ble_eq_true rfl) rfl rfl (fun h260 c261 fr262 => ?_)
                  have c261 : h260 42 = ob ci_Mod [.ref (ad (g_b G) 43), .ref (ad (g_b G) 44), vI (now), vI (last), .ref (ad (g_b G) 45), .ref (ad (g_b G) 46), vI (cl), vI (g), vI (o), .ref (ad (g_b G) 47), vI (ml), vI ((cnt (bg1 t) k9 + 1 : Nat) : Int), .ref (ad (g_b G) 48), .ref (ad (g_b G) 49), vI (its), .ref (ad (g_b G) 50), .ref (ad (g_b G) 51), vI (en)] := c261
                  have c263 := (fr262 43 (by omega)).trans c252
                  have c264 := (fr262 44 (by omega)).trans c253
                  have c265 := (fr262 45 (by omega)).trans c254
                  have c266 := (fr262 46 (by omega)).trans c255
                  have c267 := (fr262 47 (by omega)).trans c256
                  have c268 := (fr262 48 (by omega)).trans c257
                  have c269 := (fr262 49 (by omega)).trans c249
                  have c270 := (fr262 50 (by omega)).trans c258
                  have c271 := (fr262 51 (by omega)).trans c259
                  refine z_iload X d_Mod_findPoints_152 rfl ?_
                  refine z_if_eq (tgt := 163) X d_Mod_findPoints_154 (by decide) (by omega) (fun q8 => ?_) (fun q8 => ?_)
                  · refine z_iload_n X d_Mod_findPoints_163 rfl ?_
                    refine z_iconst X d_Mod_findPoints_164 ?_
                    refine z_iadd X d_Mod_findPoints_165 ?_
                    refine e_istore_n X d_Mod_findPoints_166 (by decide) ?_
                    refine e_goto (tgt := 14) X d_Mod_findPoints_167 (by decide) ?_
                    refine e_clear 4 ?_
                    refine e_clear 5 ?_
                    refine e_clear 6 ?_
                    have hnx : bg1 t (k9 + 1) = true ∨ k9 + 1 = n := by rcases Nat.lt_or_ge (k9 + 1) n with h9 | h9; exact Or.inl (bg1_one ht h9 hpr); exact Or.inr (by omega)
                    exact ih (k9 + 1) _ _ _ (by omega) (by omega) hnx (by rw [cnt_t hb1]; exact ⟨c261, c263, c264, c265, c266, c267, c268, c269, c270, c271⟩) (sel_t hs1 hb1) (codes_t hs2 hb1) (fun q q1 => ((fr262 q (by omega)).trans ((fr250 q (by omega)).trans (fr238 q (by omega)))).trans (hf q q1))
                  · exact absurd q8 (by decide)
                · exact absurd q7 (by decide)
              · refine z_iload X d_Mod_findPoints_81 rfl ?_
                refine z_ldc (n := 57343) X d_Mod_findPoints_83 cst_Mod_57 (by decide) ?_
                refine z_icmp_gt (tgt := 92) X d_Mod_findPoints_85 (by decide) (by omega) (fun q272 => ?_) (fun q272 => ?_)
                · refine z_iconst X d_Mod_findPoints_92 ?_
                  have hpr : (u_hi (t k9) && u_lo (t (k9 + 1))) = false := by  simp [u_hi, u_lo]; omega
                  refine e_istore X d_Mod_findPoints_93 (by decide) ?_
                  refine e_aload_n X d_Mod_findPoints_95 rfl ?_
                  refine e_get X d_Mod_findPoints_96 fl_Mod_30 d42b (by omega) rfl ?_
                  refine e_aload_n X d_Mod_findPoints_99 rfl ?_
                  refine e_get X d_Mod_findPoints_100 fl_Mod_51 d42b (by omega) rfl ?_
                  refine z_iload_n X d_Mod_findPoints_103 rfl ?_
                  refine z_iast X d_Mod_findPoints_104 (j := (cnt (bg1 t) k9)) d48b (by omega) (by omega) (by omega) (fun h273 c274 fr275 => ?_)
                  have c276 := (fr275 42 (by omega)).trans d42b
                  have c277 := (fr275 43 (by omega)).trans d43b
                  have c278 := (fr275 44 (by omega)).trans d44b
                  have c279 := (fr275 45 (by omega)).trans d45b
                  have c280 := (fr275 46 (by omega)).trans d46b
                  have c281 := (fr275 47 (by omega)).trans d47b
                  have c282 := (fr275 49 (by omega)).trans d49b
                  have c283 := (fr275 50 (by omega)).trans d50b
                  have c284 := (fr275 51 (by omega)).trans d51b
                  refine e_aload_n X d_Mod_findPoints_105 rfl ?_
                  refine e_get X d_Mod_findPoints_106 fl_Mod_33 c276 (by omega) rfl ?_
                  refine e_aload_n X d_Mod_findPoints_109 rfl ?_
                  refine e_get X d_Mod_findPoints_110 fl_Mod_51 c276 (by omega) rfl ?_
                  refine z_iload X d_Mod_findPoints_113 rfl ?_
                  refine z_if_eq (tgt := 139) X d_Mod_findPoints_115 (by decide) (by omega) (fun q7 => ?_) (fun q7 => ?_)
                  · refine z_iload X d_Mod_findPoints_139 rfl ?_
                    refine z_top (show _ = (cod t k9) from (by unfold cod; rw [hpr]; rfl)) ?_
                    refine z_iast X d_Mod_findPoints_141 (j := (cnt (bg1 t) k9)) c282 (by omega) (by omega) (by omega) (fun h285 c286 fr287 => ?_)
                    have c288 := (fr287 42 (by omega)).trans c276
                    have c289 := (fr287 43 (by omega)).trans c277
                    have c290 := (fr287 44 (by omega)).trans c278
                    have c291 := (fr287 45 (by omega)).trans c279
                    have c292 := (fr287 46 (by omega)).trans c280
                    have c293 := (fr287 47 (by omega)).trans c281
                    have c294 := (fr287 48 (by omega)).trans c274
                    have c295 := (fr287 50 (by omega)).trans c283
                    have c296 := (fr287 51 (by omega)).trans c284
                    refine e_aload_n X d_Mod_findPoints_142 rfl ?_
                    refine e_dup X d_Mod_findPoints_143 rfl ?_
                    refine e_get X d_Mod_findPoints_144 fl_Mod_51 c288 (by omega) rfl ?_
                    refine z_iconst X d_Mod_findPoints_147 ?_
                    refine z_iadd X d_Mod_findPoints_148 ?_
                    refine z_top (show _ = ((cnt (bg1 t) k9 + 1 : Nat) : Int) by omega) ?_
                    refine z_put X d_Mod_findPoints_149 fl_Mod_51 c288 (by omega) (Nat.le_of_ble_eq_true rfl) rfl rfl (fun h297 c298 fr299 => ?_)
                    have c298 : h297 42 = ob ci_Mod [.ref (ad (g_b G) 43), .ref (ad (g_b G) 44), vI (now), vI (last), .ref (ad (g_b G) 45), .ref (ad (g_b G) 46), vI (cl), vI (g), vI (o), .ref (ad (g_b G) 47), vI (ml), vI ((cnt (bg1 t) k9 + 1 : Nat) : Int), .ref (ad (g_b G) 48), .ref (ad (g_b G) 49), vI (its), .ref (ad (g_b G) 50), .ref (ad (g_b G) 51), vI (en)] := c298
                    have c300 := (fr299 43 (by omega)).trans c289
                    have c301 := (fr299 44 (by omega)).trans c290
                    have c302 := (fr299 45 (by omega)).trans c291
                    have c303 := (fr299 46 (by omega)).trans c292
                    have c304 := (fr299 47 (by omega)).trans c293
                    have c305 := (fr299 48 (by omega)).trans c294
                    have c306 := (fr299 49 (by omega)).trans c286
                    have c307 := (fr299 50 (by omega)).trans c295
                    have c308 := (fr299 51 (by omega)).trans c296
                    refine z_iload X d_Mod_findPoints_152 rfl ?_
                    refine z_if_eq (tgt := 163) X d_Mod_findPoints_154 (by decide) (by omega) (fun q8 => ?_) (fun q8 => ?_)
                    · refine z_iload_n X d_Mod_findPoints_163 rfl ?_
                      refine z_iconst X d_Mod_findPoints_164 ?_
                      refine z_iadd X d_Mod_findPoints_165 ?_
                      refine e_istore_n X d_Mod_findPoints_166 (by decide) ?_
                      refine e_goto (tgt := 14) X d_Mod_findPoints_167 (by decide) ?_
                      refine e_clear 4 ?_
                      refine e_clear 5 ?_
                      refine e_clear 6 ?_
                      have hnx : bg1 t (k9 + 1) = true ∨ k9 + 1 = n := by rcases Nat.lt_or_ge (k9 + 1) n with h9 | h9; exact Or.inl (bg1_one ht h9 hpr); exact Or.inr (by omega)
                      exact ih (k9 + 1) _ _ _ (by omega) (by omega) hnx (by rw [cnt_t hb1]; exact ⟨c298, c300, c301, c302, c303, c304, c305, c306, c307, c308⟩) (sel_t hs1 hb1) (codes_t hs2 hb1) (fun q q1 => ((fr299 q (by omega)).trans ((fr287 q (by omega)).trans (fr275 q (by omega)))).trans (hf q q1))
                    · exact absurd q8 (by decide)
                  · exact absurd q7 (by decide)
                · refine z_iconst X d_Mod_findPoints_88 ?_
                  refine e_goto (tgt := 93) X d_Mod_findPoints_89 (by decide) ?_
                  have hpr : (u_hi (t k9) && u_lo (t (k9 + 1))) = true := by  simp [u_hi, u_lo]; omega
                  refine e_istore X d_Mod_findPoints_93 (by decide) ?_
                  refine e_aload_n X d_Mod_findPoints_95 rfl ?_
                  refine e_get X d_Mod_findPoints_96 fl_Mod_30 d42b (by omega) rfl ?_
                  refine e_aload_n X d_Mod_findPoints_99 rfl ?_
                  refine e_get X d_Mod_findPoints_100 fl_Mod_51 d42b (by omega) rfl ?_
                  refine z_iload_n X d_Mod_findPoints_103 rfl ?_
                  refine z_iast X d_Mod_findPoints_104 (j := (cnt (bg1 t) k9)) d48b (by omega) (by omega) (by omega) (fun h309 c310 fr311 => ?_)
                  have c312 := (fr311 42 (by omega)).trans d42b
                  have c313 := (fr311 43 (by omega)).trans d43b
                  have c314 := (fr311 44 (by omega)).trans d44b
                  have c315 := (fr311 45 (by omega)).trans d45b
                  have c316 := (fr311 46 (by omega)).trans d46b
                  have c317 := (fr311 47 (by omega)).trans d47b
                  have c318 := (fr311 49 (by omega)).trans d49b
                  have c319 := (fr311 50 (by omega)).trans d50b
                  have c320 := (fr311 51 (by omega)).trans d51b
                  refine e_aload_n X d_Mod_findPoints_105 rfl ?_
                  refine e_get X d_Mod_findPoints_106 fl_Mod_33 c312 (by omega) rfl ?_
                  refine e_aload_n X d_Mod_findPoints_109 rfl ?_
                  refine e_get X d_Mod_findPoints_110 fl_Mod_51 c312 (by omega) rfl ?_
                  refine z_iload X d_Mod_findPoints_113 rfl ?_
                  refine z_if_eq (tgt := 139) X d_Mod_findPoints_115 (by decide) (by omega) (fun q7 => ?_) (fun q7 => ?_)
                  · exact absurd q7 (by decide)
                  · refine z_ldc (n := 65536) X d_Mod_findPoints_118 cst_Mod_58 (by decide) ?_
                    refine z_sipush X d_Mod_findPoints_120 (by decide) ?_
                    refine z_iload X d_Mod_findPoints_123 rfl ?_
                    refine z_ldc (n := 55296) X d_Mod_findPoints_125 cst_Mod_54 (by decide) ?_
                    refine z_isub X d_Mod_findPoints_127 ?_
                    refine z_imul X d_Mod_findPoints_128 ?_
                    refine z_iadd X d_Mod_findPoints_129 ?_
                    refine z_iload X d_Mod_findPoints_130 rfl ?_
                    refine z_iadd X d_Mod_findPoints_132 ?_
                    refine z_ldc (n := 56320) X d_Mod_findPoints_133 cst_Mod_56 (by decide) ?_
                    refine z_isub X d_Mod_findPoints_135 ?_
                    refine e_goto (tgt := 141) X d_Mod_findPoints_136 (by decide) ?_
                    refine z_top (show _ = (cod t k9) from (by unfold cod; rw [hpr]; rfl)) ?_
                    refine z_iast X d_Mod_findPoints_141 (j := (cnt (bg1 t) k9)) c318 (by omega) (by omega) (by omega) (fun h321 c322 fr323 => ?_)
                    have c324 := (fr323 42 (by omega)).trans c312
                    have c325 := (fr323 43 (by omega)).trans c313
                    have c326 := (fr323 44 (by omega)).trans c314
                    have c327 := (fr323 45 (by omega)).trans c315
                    have c328 := (fr323 46 (by omega)).trans c316
                    have c329 := (fr323 47 (by omega)).trans c317
                    have c330 := (fr323 48 (by omega)).trans c310
                    have c331 := (fr323 50 (by omega)).trans c319
                    have c332 := (fr323 51 (by omega)).trans c320
                    refine e_aload_n X d_Mod_findPoints_142 rfl ?_
                    refine e_dup X d_Mod_findPoints_143 rfl ?_
                    refine e_get X d_Mod_findPoints_144 fl_Mod_51 c324 (by omega) rfl ?_
                    refine z_iconst X d_Mod_findPoints_147 ?_
                    refine z_iadd X d_Mod_findPoints_148 ?_
                    refine z_top (show _ = ((cnt (bg1 t) k9 + 1 : Nat) : Int) by omega) ?_
                    refine z_put X d_Mod_findPoints_149 fl_Mod_51 c324 (by omega) (Nat.le_of_ble_eq_true rfl) rfl rfl (fun h333 c334 fr335 => ?_)
                    have c334 : h333 42 = ob ci_Mod [.ref (ad (g_b G) 43), .ref (ad (g_b G) 44), vI (now), vI (last), .ref (ad (g_b G) 45), .ref (ad (g_b G) 46), vI (cl), vI (g), vI (o), .ref (ad (g_b G) 47), vI (ml), vI ((cnt (bg1 t) k9 + 1 : Nat) : Int), .ref (ad (g_b G) 48), .ref (ad (g_b G) 49), vI (its), .ref (ad (g_b G) 50), .ref (ad (g_b G) 51), vI (en)] := c334
                    have c336 := (fr335 43 (by omega)).trans c325
                    have c337 := (fr335 44 (by omega)).trans c326
                    have c338 := (fr335 45 (by omega)).trans c327
                    have c339 := (fr335 46 (by omega)).trans c328
                    have c340 := (fr335 47 (by omega)).trans c329
                    have c341 := (fr335 48 (by omega)).trans c330
                    have c342 := (fr335 49 (by omega)).trans c322
                    have c343 := (fr335 50 (by omega)).trans c331
                    have c344 := (fr335 51 (by omega)).trans c332
                    refine z_iload X d_Mod_findPoints_152 rfl ?_
                    refine z_if_eq (tgt := 163) X d_Mod_findPoints_154 (by decide) (by omega) (fun q8 => ?_) (fun q8 => ?_)
                    · exact absurd q8 (by decide)
                    · refine z_iload_n X d_Mod_findPoints_157 rfl ?_
                      refine z_iconst X d_Mod_findPoints_158 ?_
                      refine z_iadd X d_Mod_findPoints_159 ?_
                      refine e_goto (tgt := 166) X d_Mod_findPoints_160 (by decide) ?_
                      refine e_istore_n X d_Mod_findPoints_166 (by decide) ?_
                      refine e_goto (tgt := 14) X d_Mod_findPoints_167 (by decide) ?_
                      refine e_clear 4 ?_
                      refine e_clear 5 ?_
                      refine e_clear 6 ?_
                      have hlt : k9 + 1 < n := by rcases Nat.lt_or_ge (k9 + 1) n with h9 | h9; exact h9; have h8 := ht.2 (k9 + 1) h9; rw [h8] at hpr; simp [u_lo] at hpr
                      have hb2 : bg1 t (k9 + 1) = false := bg1_sec hpr
                      have hnx : bg1 t (k9 + 2) = true ∨ k9 + 2 = n := by rcases Nat.lt_or_ge (k9 + 2) n with h9 | h9; exact Or.inl (bg1_one ht h9 (by simp only [Bool.and_eq_true] at hpr; have h8 := u_lo_iff.mp hpr.2; show (u_hi (t (k9 + 1)) && u_lo (t (k9 + 2))) = false; have h7 : u_hi (t (k9 + 1)) = false := decide_eq_false (by omega); rw [h7]; rfl)); exact Or.inr (by omega)
                      exact ih (k9 + 2) _ _ _ (by omega) (by omega) hnx (by rw [cnt_f hb2, cnt_t hb1]; exact ⟨c334, c336, c337, c338, c339, c340, c341, c342, c343, c344⟩) (sel_f (sel_t hs1 hb1) hb2) (codes_f (codes_t hs2 hb1) hb2) (fun q q1 => ((fr335 q (by omega)).trans ((fr323 q (by omega)).trans (fr311 q (by omega)))).trans (hf q q1))
  exact loop _ 0 PP CD _ (Nat.lt_succ_self _) (Nat.zero_le _) (by rcases Nat.eq_zero_or_pos n with h9 | h9; exact Or.inr h9.symm; exact Or.inl (bg1_one ht h9 (by simp [t_pre, u_hi]))) ⟨c2, c4, c5, c6, c7, c8, c9, c10, c11, c12⟩ (fun q hq => absurd hq (Nat.not_lt_zero _)) (fun q hq => absurd hq (Nat.not_lt_zero _)) (fun q q1 => fr3 q (by omega))
end
