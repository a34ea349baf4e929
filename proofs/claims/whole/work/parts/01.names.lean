-- ===== PART A: goes FIRST, ahead of the names: the tables' words, and 'selects' of the private methods out of them =====
/-- a private method of a class that the tables say can be made, by its rows of tables_1 -/
def lw_okq (q : MethodName × Nat) : Prop := (q.1.cls ≠ "java/lang/invoke/MethodHandle" ∧ q.1.cls ≠ "java/lang/invoke/VarHandle") ∧ Cond.instantiable q.1.cls q.2 ∈ tables_1 ∧ Cond.privateMethod q.1 ∈ tables_1 ∧ Cond.instanceMethod q.1 ∈ tables_1
theorem lw_p0 : lw_okq (⟨"VersionedText", "canTakeClip", "(II)Z"⟩, 9) := ⟨⟨by decide +kernel, by decide +kernel⟩, List.mem_of_getElem? (i := 12) (by decide +kernel), List.mem_of_getElem? (i := 191) (by decide +kernel), List.mem_of_getElem? (i := 192) (by decide +kernel)⟩
theorem lw_p1 : lw_okq (⟨"VersionedText", "canEdit", "(II)Z"⟩, 9) := ⟨⟨by decide +kernel, by decide +kernel⟩, List.mem_of_getElem? (i := 12) (by decide +kernel), List.mem_of_getElem? (i := 195) (by decide +kernel), List.mem_of_getElem? (i := 196) (by decide +kernel)⟩
theorem lw_p2 : lw_okq (⟨"VersionedText$Items", "begins", "(LVersionedText$Text;I)Z"⟩, 5) := ⟨⟨by decide +kernel, by decide +kernel⟩, List.mem_of_getElem? (i := 75) (by decide +kernel), List.mem_of_getElem? (i := 226) (by decide +kernel), List.mem_of_getElem? (i := 227) (by decide +kernel)⟩
theorem lw_p3 : lw_okq (⟨"VersionedText$ClusterWalk", "isJoinedTo", "(I)Z"⟩, 3) := ⟨⟨by decide +kernel, by decide +kernel⟩, List.mem_of_getElem? (i := 81) (by decide +kernel), List.mem_of_getElem? (i := 269) (by decide +kernel), List.mem_of_getElem? (i := 270) (by decide +kernel)⟩
theorem lw_p4 : lw_okq (⟨"VersionedText$GapText", "moveGap", "(I)V"⟩, 3) := ⟨⟨by decide +kernel, by decide +kernel⟩, List.mem_of_getElem? (i := 20) (by decide +kernel), List.mem_of_getElem? (i := 303) (by decide +kernel), List.mem_of_getElem? (i := 304) (by decide +kernel)⟩
theorem lw_p5 : lw_okq (⟨"VersionedText", "clipIsTyping", "()Z"⟩, 9) := ⟨⟨by decide +kernel, by decide +kernel⟩, List.mem_of_getElem? (i := 12) (by decide +kernel), List.mem_of_getElem? (i := 319) (by decide +kernel), List.mem_of_getElem? (i := 320) (by decide +kernel)⟩
theorem lw_p6 : lw_okq (⟨"VersionedText$History", "latest", "()LVersionedText$RowText;"⟩, 4) := ⟨⟨by decide +kernel, by decide +kernel⟩, List.mem_of_getElem? (i := 52) (by decide +kernel), List.mem_of_getElem? (i := 328) (by decide +kernel), List.mem_of_getElem? (i := 329) (by decide +kernel)⟩
theorem lw_p7 : lw_okq (⟨"VersionedText", "addClosedStep", "()V"⟩, 9) := ⟨⟨by decide +kernel, by decide +kernel⟩, List.mem_of_getElem? (i := 12) (by decide +kernel), List.mem_of_getElem? (i := 360) (by decide +kernel), List.mem_of_getElem? (i := 361) (by decide +kernel)⟩
theorem lw_p8 : lw_okq (⟨"VersionedText", "isVersion", "(I)Z"⟩, 9) := ⟨⟨by decide +kernel, by decide +kernel⟩, List.mem_of_getElem? (i := 12) (by decide +kernel), List.mem_of_getElem? (i := 430) (by decide +kernel), List.mem_of_getElem? (i := 431) (by decide +kernel)⟩
theorem lw_p9 : lw_okq (⟨"VersionedText$Search", "reachFrom", "(II)V"⟩, 5) := ⟨⟨by decide +kernel, by decide +kernel⟩, List.mem_of_getElem? (i := 114) (by decide +kernel), List.mem_of_getElem? (i := 489) (by decide +kernel), List.mem_of_getElem? (i := 490) (by decide +kernel)⟩
theorem lw_p10 : lw_okq (⟨"VersionedText$Search", "standsFor", "(II)Z"⟩, 5) := ⟨⟨by decide +kernel, by decide +kernel⟩, List.mem_of_getElem? (i := 114) (by decide +kernel), List.mem_of_getElem? (i := 493) (by decide +kernel), List.mem_of_getElem? (i := 494) (by decide +kernel)⟩
theorem lw_p11 : lw_okq (⟨"VersionedTextModel", "isPlace", "(I)Z"⟩, 18) := ⟨⟨by decide +kernel, by decide +kernel⟩, List.mem_of_getElem? (i := 511) (by decide +kernel), List.mem_of_getElem? (i := 584) (by decide +kernel), List.mem_of_getElem? (i := 585) (by decide +kernel)⟩
theorem lw_p12 : lw_okq (⟨"VersionedTextModel", "lets", "(I)Z"⟩, 18) := ⟨⟨by decide +kernel, by decide +kernel⟩, List.mem_of_getElem? (i := 511) (by decide +kernel), List.mem_of_getElem? (i := 588) (by decide +kernel), List.mem_of_getElem? (i := 589) (by decide +kernel)⟩
theorem lw_p13 : lw_okq (⟨"VersionedTextModel", "findItems", "(II)V"⟩, 18) := ⟨⟨by decide +kernel, by decide +kernel⟩, List.mem_of_getElem? (i := 511) (by decide +kernel), List.mem_of_getElem? (i := 592) (by decide +kernel), List.mem_of_getElem? (i := 593) (by decide +kernel)⟩
theorem lw_p14 : lw_okq (⟨"VersionedTextModel", "begin", "(I)V"⟩, 18) := ⟨⟨by decide +kernel, by decide +kernel⟩, List.mem_of_getElem? (i := 511) (by decide +kernel), List.mem_of_getElem? (i := 596) (by decide +kernel), List.mem_of_getElem? (i := 597) (by decide +kernel)⟩
theorem lw_p15 : lw_okq (⟨"VersionedTextModel", "findLines", "(I)V"⟩, 18) := ⟨⟨by decide +kernel, by decide +kernel⟩, List.mem_of_getElem? (i := 511) (by decide +kernel), List.mem_of_getElem? (i := 600) (by decide +kernel), List.mem_of_getElem? (i := 601) (by decide +kernel)⟩
def lw_privs_1 : List (MethodName × Nat) := [(⟨"VersionedText", "canTakeClip", "(II)Z"⟩, 9), (⟨"VersionedText", "canEdit", "(II)Z"⟩, 9), (⟨"VersionedText$Items", "begins", "(LVersionedText$Text;I)Z"⟩, 5), (⟨"VersionedText$ClusterWalk", "isJoinedTo", "(I)Z"⟩, 3), (⟨"VersionedText$GapText", "moveGap", "(I)V"⟩, 3), (⟨"VersionedText", "clipIsTyping", "()Z"⟩, 9), (⟨"VersionedText$History", "latest", "()LVersionedText$RowText;"⟩, 4), (⟨"VersionedText", "addClosedStep", "()V"⟩, 9), (⟨"VersionedText", "isVersion", "(I)Z"⟩, 9), (⟨"VersionedText$Search", "reachFrom", "(II)V"⟩, 5), (⟨"VersionedText$Search", "standsFor", "(II)Z"⟩, 5), (⟨"VersionedTextModel", "isPlace", "(I)Z"⟩, 18), (⟨"VersionedTextModel", "lets", "(I)Z"⟩, 18), (⟨"VersionedTextModel", "findItems", "(II)V"⟩, 18), (⟨"VersionedTextModel", "begin", "(I)V"⟩, 18), (⟨"VersionedTextModel", "findLines", "(I)V"⟩, 18)]
theorem lw_r1 : ∀ q ∈ lw_privs_1, lw_okq q := List.forall_mem_cons.mpr ⟨lw_p0, List.forall_mem_cons.mpr ⟨lw_p1, List.forall_mem_cons.mpr ⟨lw_p2, List.forall_mem_cons.mpr ⟨lw_p3, List.forall_mem_cons.mpr ⟨lw_p4, List.forall_mem_cons.mpr ⟨lw_p5, List.forall_mem_cons.mpr ⟨lw_p6, List.forall_mem_cons.mpr ⟨lw_p7, List.forall_mem_cons.mpr ⟨lw_p8, List.forall_mem_cons.mpr ⟨lw_p9, List.forall_mem_cons.mpr ⟨lw_p10, List.forall_mem_cons.mpr ⟨lw_p11, List.forall_mem_cons.mpr ⟨lw_p12, List.forall_mem_cons.mpr ⟨lw_p13, List.forall_mem_cons.mpr ⟨lw_p14, List.forall_mem_cons.mpr ⟨lw_p15, fun _ h => absurd h List.not_mem_nil⟩⟩⟩⟩⟩⟩⟩⟩⟩⟩⟩⟩⟩⟩⟩⟩
theorem lw_p16 : lw_okq (⟨"VersionedTextModel", "findPoints", "(I)V"⟩, 18) := ⟨⟨by decide +kernel, by decide +kernel⟩, List.mem_of_getElem? (i := 511) (by decide +kernel), List.mem_of_getElem? (i := 604) (by decide +kernel), List.mem_of_getElem? (i := 605) (by decide +kernel)⟩
theorem lw_p17 : lw_okq (⟨"VersionedTextModel", "bound", "(I)Z"⟩, 18) := ⟨⟨by decide +kernel, by decide +kernel⟩, List.mem_of_getElem? (i := 511) (by decide +kernel), List.mem_of_getElem? (i := 613) (by decide +kernel), List.mem_of_getElem? (i := 614) (by decide +kernel)⟩
theorem lw_p18 : lw_okq (⟨"VersionedTextModel", "make", "(III)V"⟩, 18) := ⟨⟨by decide +kernel, by decide +kernel⟩, List.mem_of_getElem? (i := 511) (by decide +kernel), List.mem_of_getElem? (i := 630) (by decide +kernel), List.mem_of_getElem? (i := 631) (by decide +kernel)⟩
theorem lw_p19 : lw_okq (⟨"VersionedTextModel", "show", "(I)V"⟩, 18) := ⟨⟨by decide +kernel, by decide +kernel⟩, List.mem_of_getElem? (i := 511) (by decide +kernel), List.mem_of_getElem? (i := 634) (by decide +kernel), List.mem_of_getElem? (i := 635) (by decide +kernel)⟩
theorem lw_p20 : lw_okq (⟨"VersionedTextModel", "step", "()V"⟩, 18) := ⟨⟨by decide +kernel, by decide +kernel⟩, List.mem_of_getElem? (i := 511) (by decide +kernel), List.mem_of_getElem? (i := 638) (by decide +kernel), List.mem_of_getElem? (i := 639) (by decide +kernel)⟩
theorem lw_p21 : lw_okq (⟨"VersionedTextModel", "copy", "(II)V"⟩, 18) := ⟨⟨by decide +kernel, by decide +kernel⟩, List.mem_of_getElem? (i := 511) (by decide +kernel), List.mem_of_getElem? (i := 642) (by decide +kernel), List.mem_of_getElem? (i := 643) (by decide +kernel)⟩
theorem lw_p22 : lw_okq (⟨"VersionedTextModel", "slot", "(I)I"⟩, 18) := ⟨⟨by decide +kernel, by decide +kernel⟩, List.mem_of_getElem? (i := 511) (by decide +kernel), List.mem_of_getElem? (i := 686) (by decide +kernel), List.mem_of_getElem? (i := 687) (by decide +kernel)⟩
theorem lw_p23 : lw_okq (⟨"VersionedTextModel", "looks", "(II)Z"⟩, 18) := ⟨⟨by decide +kernel, by decide +kernel⟩, List.mem_of_getElem? (i := 511) (by decide +kernel), List.mem_of_getElem? (i := 694) (by decide +kernel), List.mem_of_getElem? (i := 695) (by decide +kernel)⟩
theorem lw_p24 : lw_okq (⟨"VersionedTextModel", "isPattern", "()Z"⟩, 18) := ⟨⟨by decide +kernel, by decide +kernel⟩, List.mem_of_getElem? (i := 511) (by decide +kernel), List.mem_of_getElem? (i := 714) (by decide +kernel), List.mem_of_getElem? (i := 715) (by decide +kernel)⟩
theorem lw_p25 : lw_okq (⟨"VersionedTextModel", "match", "(II)I"⟩, 18) := ⟨⟨by decide +kernel, by decide +kernel⟩, List.mem_of_getElem? (i := 511) (by decide +kernel), List.mem_of_getElem? (i := 718) (by decide +kernel), List.mem_of_getElem? (i := 719) (by decide +kernel)⟩
def lw_privs_2 : List (MethodName × Nat) := [(⟨"VersionedTextModel", "findPoints", "(I)V"⟩, 18), (⟨"VersionedTextModel", "bound", "(I)Z"⟩, 18), (⟨"VersionedTextModel", "make", "(III)V"⟩, 18), (⟨"VersionedTextModel", "show", "(I)V"⟩, 18), (⟨"VersionedTextModel", "step", "()V"⟩, 18), (⟨"VersionedTextModel", "copy", "(II)V"⟩, 18), (⟨"VersionedTextModel", "slot", "(I)I"⟩, 18), (⟨"VersionedTextModel", "looks", "(II)Z"⟩, 18), (⟨"VersionedTextModel", "isPattern", "()Z"⟩, 18), (⟨"VersionedTextModel", "match", "(II)I"⟩, 18)]
theorem lw_r2 : ∀ q ∈ lw_privs_2, lw_okq q := List.forall_mem_cons.mpr ⟨lw_p16, List.forall_mem_cons.mpr ⟨lw_p17, List.forall_mem_cons.mpr ⟨lw_p18, List.forall_mem_cons.mpr ⟨lw_p19, List.forall_mem_cons.mpr ⟨lw_p20, List.forall_mem_cons.mpr ⟨lw_p21, List.forall_mem_cons.mpr ⟨lw_p22, List.forall_mem_cons.mpr ⟨lw_p23, List.forall_mem_cons.mpr ⟨lw_p24, List.forall_mem_cons.mpr ⟨lw_p25, fun _ h => absurd h List.not_mem_nil⟩⟩⟩⟩⟩⟩⟩⟩⟩⟩
def lw_privs : List (MethodName × Nat) := lw_privs_1 ++ (lw_privs_2)
def lw_tbl : List Cond := k2_sels lw_privs ++ tables_1
theorem lw_privs_ok : ∀ q ∈ lw_privs, lw_okq q := by
  show ∀ q ∈ lw_privs_1 ++ (lw_privs_2), lw_okq q
  exact List.forall_mem_append.mpr ⟨lw_r1, lw_r2⟩

theorem lw_mem (i : Nat) {w : Cond} (h : lw_tbl[i]? = some w) : w ∈ lw_tbl := List.mem_of_getElem? h
def R_Clu : String := "VersionedText$ClusterWalk"
def F_Clu : u_T := fun k => match k with
  | 0 => ("VersionedText$ClusterWalk", "last", "I", false)
  | 1 => ("VersionedText$ClusterWalk", "lead", "I", false)
  | _ => ("VersionedText$ClusterWalk", "flagsBeforeLast", "I", false)
def t_Clu : Nat → FieldType := fun k => match k with
  | 0 => .int
  | 1 => .int
  | _ => .int
abbrev ci_Clu : Nat := 0
def R_Gap : String := "VersionedText$GapText"
def F_Gap : u_T := fun k => match k with
  | 0 => ("VersionedText$GapText", "units", "[C", true)
  | 1 => ("VersionedText$GapText", "gapStart", "I", false)
  | _ => ("VersionedText$GapText", "gapEnd", "I", false)
def t_Gap : Nat → FieldType := fun k => match k with
  | 0 => .array .char
  | 1 => .int
  | _ => .int
abbrev ci_Gap : Nat := 1
def R_His : String := "VersionedText$History"
def F_His : u_T := fun k => match k with
  | 0 => ("VersionedText$History", "texts", "[LVersionedText$RowText;", true)
  | 1 => ("VersionedText$History", "oldest", "I", false)
  | 2 => ("VersionedText$History", "done", "I", false)
  | _ => ("VersionedText$History", "undone", "I", false)
def t_His : Nat → FieldType := fun k => match k with
  | 0 => .array (.object "VersionedText$RowText")
  | 1 => .int
  | 2 => .int
  | _ => .int
abbrev ci_His : Nat := 2
def R_Itm : String := "VersionedText$Items"
def F_Itm : u_T := fun k => match k with
  | 0 => ("VersionedText$Items", "beginnings", "[I", true)
  | 1 => ("VersionedText$Items", "clusters", "LVersionedText$ClusterWalk;", true)
  | 2 => ("VersionedText$Items", "number", "I", false)
  | 3 => ("VersionedText$Items", "length", "I", false)
  | _ => ("VersionedText$Items", "metric", "I", false)
def t_Itm : Nat → FieldType := fun k => match k with
  | 0 => .array .int
  | 1 => .object "VersionedText$ClusterWalk"
  | 2 => .int
  | 3 => .int
  | _ => .int
abbrev ci_Itm : Nat := 3
def R_Row : String := "VersionedText$RowText"
def F_Row : u_T := fun k => match k with
  | 0 => ("VersionedText$RowText", "units", "[C", true)
  | _ => ("VersionedText$RowText", "length", "I", false)
def t_Row : Nat → FieldType := fun k => match k with
  | 0 => .array .char
  | _ => .int
abbrev ci_Row : Nat := 4
def R_Sea : String := "VersionedText$Search"
def F_Sea : u_T := fun k => match k with
  | 0 => ("VersionedText$Search", "wanted", "[I", true)
  | 1 => ("VersionedText$Search", "starred", "[Z", true)
  | 2 => ("VersionedText$Search", "reached", "[I", true)
  | 3 => ("VersionedText$Search", "elements", "I", false)
  | _ => ("VersionedText$Search", "end", "I", false)
def t_Sea : Nat → FieldType := fun k => match k with
  | 0 => .array .int
  | 1 => .array .boolean
  | 2 => .array .int
  | 3 => .int
  | _ => .int
abbrev ci_Sea : Nat := 5
def R_VT : String := "VersionedText"
def F_VT : u_T := fun k => match k with
  | 0 => ("VersionedText", "text", "LVersionedText$Text;", true)
  | 1 => ("VersionedText", "clip", "LVersionedText$RowText;", true)
  | 2 => ("VersionedText", "versions", "[LVersionedText$Text;", true)
  | 3 => ("VersionedText", "kept", "[Z", true)
  | 4 => ("VersionedText", "history", "LVersionedText$History;", true)
  | 5 => ("VersionedText", "items", "LVersionedText$Items;", true)
  | 6 => ("VersionedText", "search", "LVersionedText$Search;", true)
  | 7 => ("VersionedText", "guardMetric", "I", false)
  | _ => ("VersionedText", "typingPlace", "I", false)
def t_VT : Nat → FieldType := fun k => match k with
  | 0 => .object "VersionedText$Text"
  | 1 => .object "VersionedText$RowText"
  | 2 => .array (.object "VersionedText$Text")
  | 3 => .array .boolean
  | 4 => .object "VersionedText$History"
  | 5 => .object "VersionedText$Items"
  | 6 => .object "VersionedText$Search"
  | 7 => .int
  | _ => .int
abbrev ci_VT : Nat := 6
def R_Mod : String := "VersionedTextModel"
def F_Mod : u_T := fun k => match k with
  | 0 => ("VersionedTextModel", "units", "[I", true)
  | 1 => ("VersionedTextModel", "lengths", "[I", true)
  | 2 => ("VersionedTextModel", "now", "I", false)
  | 3 => ("VersionedTextModel", "last", "I", false)
  | 4 => ("VersionedTextModel", "kept", "[Z", true)
  | 5 => ("VersionedTextModel", "clip", "[I", true)
  | 6 => ("VersionedTextModel", "clipped", "I", false)
  | 7 => ("VersionedTextModel", "guarded", "I", false)
  | 8 => ("VersionedTextModel", "open", "I", false)
  | 9 => ("VersionedTextModel", "made", "[I", true)
  | 10 => ("VersionedTextModel", "madeLength", "I", false)
  | 11 => ("VersionedTextModel", "points", "I", false)
  | 12 => ("VersionedTextModel", "pointPlace", "[I", true)
  | 13 => ("VersionedTextModel", "codes", "[I", true)
  | 14 => ("VersionedTextModel", "items", "I", false)
  | 15 => ("VersionedTextModel", "places", "[I", true)
  | 16 => ("VersionedTextModel", "at", "[Z", true)
  | _ => ("VersionedTextModel", "foundEnd", "I", false)
def t_Mod : Nat → FieldType := fun k => match k with
  | 0 => .array .int
  | 1 => .array .int
  | 2 => .int
  | 3 => .int
  | 4 => .array .boolean
  | 5 => .array .int
  | 6 => .int
  | 7 => .int
  | 8 => .int
  | 9 => .array .int
  | 10 => .int
  | 11 => .int
  | 12 => .array .int
  | 13 => .array .int
  | 14 => .int
  | 15 => .array .int
  | 16 => .array .boolean
  | _ => .int
abbrev ci_Mod : Nat := 7
def R_Law : String := "VersionedTextLaw"
def nm_Text : String := "VersionedText$Text"
def nm_Row : String := "VersionedText$RowText"
abbrev vwCl : List vw_C := [(R_Clu, F_Clu, 3), (R_Gap, F_Gap, 3), (R_His, F_His, 4), (R_Itm, F_Itm, 5), (R_Row, F_Row, 2), (R_Sea, F_Sea, 5), (R_VT, F_VT, 9), (R_Mod, F_Mod, 18)]
abbrev b_VT_init : ByteArray := prog_1_method_1_code
def y_VT_init : MethodName := ⟨R_VT, "<init>", "(I)V"⟩
abbrev rm_VT_init : Room := { frames := 3, cells := 41, slots := 2615, locals := 62 }
abbrev b_Gap_init : ByteArray := prog_3_method_1_code
def y_Gap_init : MethodName := ⟨R_Gap, "<init>", "(I)V"⟩
abbrev rm_Gap_init : Room := { frames := 1, cells := 1, slots := 160, locals := 20 }
abbrev b_Row_init : ByteArray := prog_6_method_1_code
def y_Row_init : MethodName := ⟨R_Row, "<init>", "(I)V"⟩
abbrev rm_Row_init : Room := { frames := 1, cells := 1, slots := 160, locals := 20 }
abbrev b_His_init : ByteArray := prog_4_method_1_code
def y_His_init : MethodName := ⟨R_His, "<init>", "()V"⟩
abbrev rm_His_init : Room := { frames := 2, cells := 19, slots := 1467, locals := 41 }
abbrev b_Itm_init : ByteArray := prog_5_method_1_code
def y_Itm_init : MethodName := ⟨R_Itm, "<init>", "()V"⟩
abbrev rm_Itm_init : Room := { frames := 2, cells := 2, slots := 164, locals := 40 }
abbrev b_Clu_init : ByteArray := prog_2_method_1_code
def y_Clu_init : MethodName := ⟨R_Clu, "<init>", "()V"⟩
abbrev rm_Clu_init : Room := { frames := 1, cells := 0, slots := 0, locals := 20 }
abbrev b_Sea_init : ByteArray := prog_7_method_1_code
def y_Sea_init : MethodName := ⟨R_Sea, "<init>", "()V"⟩
abbrev rm_Sea_init : Room := { frames := 1, cells := 3, slots := 73, locals := 20 }
abbrev b_VT_type : ByteArray := prog_1_method_2_code
def y_VT_type : MethodName := ⟨R_VT, "type", "(C)Z"⟩
abbrev rm_VT_type : Room := { frames := 1, cells := 0, slots := 0, locals := 21 }
abbrev b_Row_append : ByteArray := prog_6_method_7_code
def y_Row_append : MethodName := ⟨R_Row, "append", "(C)Z"⟩
abbrev rm_Row_append : Room := { frames := 0, cells := 0, slots := 0, locals := 0 }
abbrev b_VT_scrap : ByteArray := prog_1_method_3_code
def y_VT_scrap : MethodName := ⟨R_VT, "scrap", "()V"⟩
abbrev rm_VT_scrap : Room := { frames := 2, cells := 0, slots := 0, locals := 54 }
abbrev b_Row_length : ByteArray := prog_6_method_2_code
def y_Row_length : MethodName := ⟨R_Row, "length", "()I"⟩
abbrev rm_Row_length : Room := { frames := 0, cells := 0, slots := 0, locals := 0 }
abbrev b_Row_cut : ByteArray := prog_6_method_4_code
def y_Row_cut : MethodName := ⟨R_Row, "cut", "(II)V"⟩
abbrev rm_Row_cut : Room := { frames := 1, cells := 0, slots := 0, locals := 32 }
abbrev b_VT_insert : ByteArray := prog_1_method_4_code
def y_VT_insert : MethodName := ⟨R_VT, "insert", "(I)Z"⟩
abbrev rm_VT_insert : Room := { frames := 7, cells := 0, slots := 0, locals := 153 }
abbrev b_VT_canTakeClip : ByteArray := prog_1_method_24_code
def y_VT_canTakeClip : MethodName := ⟨R_VT, "canTakeClip", "(II)Z"⟩
abbrev rm_VT_canTakeClip : Room := { frames := 6, cells := 0, slots := 0, locals := 131 }
abbrev b_VT_canEdit : ByteArray := prog_1_method_25_code
def y_VT_canEdit : MethodName := ⟨R_VT, "canEdit", "(II)Z"⟩
abbrev rm_VT_canEdit : Room := { frames := 5, cells := 0, slots := 0, locals := 109 }
abbrev b_VT_isPlace : ByteArray := prog_1_method_23_code
def y_VT_isPlace : MethodName := ⟨R_VT, "isPlace", "(LVersionedText$Text;I)Z"⟩
abbrev rm_VT_isPlace : Room := { frames := 1, cells := 0, slots := 0, locals := 20 }
abbrev b_Gap_length : ByteArray := prog_3_method_2_code
def y_Gap_length : MethodName := ⟨R_Gap, "length", "()I"⟩
abbrev rm_Gap_length : Room := { frames := 0, cells := 0, slots := 0, locals := 0 }
abbrev b_Itm_measure : ByteArray := prog_5_method_2_code
def y_Itm_measure : MethodName := ⟨R_Itm, "measure", "(LVersionedText$Text;I)V"⟩
abbrev rm_Itm_measure : Room := { frames := 4, cells := 0, slots := 0, locals := 86 }
abbrev b_Clu_restart : ByteArray := prog_2_method_2_code
def y_Clu_restart : MethodName := ⟨R_Clu, "restart", "()V"⟩
abbrev rm_Clu_restart : Room := { frames := 0, cells := 0, slots := 0, locals := 0 }
abbrev b_Itm_begins : ByteArray := prog_5_method_7_code
def y_Itm_begins : MethodName := ⟨R_Itm, "begins", "(LVersionedText$Text;I)Z"⟩
abbrev rm_Itm_begins : Room := { frames := 3, cells := 0, slots := 0, locals := 64 }
abbrev b_Itm_beginsLine : ByteArray := prog_5_method_8_code
def y_Itm_beginsLine : MethodName := ⟨R_Itm, "beginsLine", "(LVersionedText$Text;I)Z"⟩
abbrev rm_Itm_beginsLine : Room := { frames := 2, cells := 0, slots := 0, locals := 41 }
abbrev b_Gap_at : ByteArray := prog_3_method_3_code
def y_Gap_at : MethodName := ⟨R_Gap, "at", "(I)I"⟩
abbrev rm_Gap_at : Room := { frames := 1, cells := 0, slots := 0, locals := 20 }
abbrev b_Row_at : ByteArray := prog_6_method_3_code
def y_Row_at : MethodName := ⟨R_Row, "at", "(I)I"⟩
abbrev rm_Row_at : Room := { frames := 0, cells := 0, slots := 0, locals := 0 }
abbrev b_Itm_isSecondHalf : ByteArray := prog_5_method_9_code
def y_Itm_isSecondHalf : MethodName := ⟨R_Itm, "isSecondHalf", "(LVersionedText$Text;I)Z"⟩
abbrev rm_Itm_isSecondHalf : Room := { frames := 2, cells := 0, slots := 0, locals := 41 }
abbrev b_Itm_isFirst : ByteArray := prog_5_method_11_code
def y_Itm_isFirst : MethodName := ⟨R_Itm, "isFirst", "(I)Z"⟩
abbrev rm_Itm_isFirst : Room := { frames := 0, cells := 0, slots := 0, locals := 0 }
abbrev b_Itm_isSecond : ByteArray := prog_5_method_12_code
def y_Itm_isSecond : MethodName := ⟨R_Itm, "isSecond", "(I)Z"⟩
abbrev rm_Itm_isSecond : Room := { frames := 0, cells := 0, slots := 0, locals := 0 }
abbrev b_Itm_codeAt : ByteArray := prog_5_method_10_code
def y_Itm_codeAt : MethodName := ⟨R_Itm, "codeAt", "(LVersionedText$Text;I)I"⟩
abbrev rm_Itm_codeAt : Room := { frames := 2, cells := 0, slots := 0, locals := 41 }
abbrev b_Clu_isCutBefore : ByteArray := prog_2_method_3_code
def y_Clu_isCutBefore : MethodName := ⟨R_Clu, "isCutBefore", "(I)Z"⟩
abbrev rm_Clu_isCutBefore : Room := { frames := 2, cells := 0, slots := 0, locals := 41 }
abbrev b_Clu_isJoinedTo : ByteArray := prog_2_method_4_code
def y_Clu_isJoinedTo : MethodName := ⟨R_Clu, "isJoinedTo", "(I)Z"⟩
abbrev rm_Clu_isJoinedTo : Room := { frames := 1, cells := 0, slots := 0, locals := 20 }
abbrev b_Clu_isMark : ByteArray := prog_2_method_5_code
def y_Clu_isMark : MethodName := ⟨R_Clu, "isMark", "(I)Z"⟩
abbrev rm_Clu_isMark : Room := { frames := 0, cells := 0, slots := 0, locals := 0 }
abbrev b_Clu_isPicture : ByteArray := prog_2_method_6_code
def y_Clu_isPicture : MethodName := ⟨R_Clu, "isPicture", "(I)Z"⟩
abbrev rm_Clu_isPicture : Room := { frames := 0, cells := 0, slots := 0, locals := 0 }
abbrev b_Clu_isFlag : ByteArray := prog_2_method_7_code
def y_Clu_isFlag : MethodName := ⟨R_Clu, "isFlag", "(I)Z"⟩
abbrev rm_Clu_isFlag : Room := { frames := 0, cells := 0, slots := 0, locals := 0 }
abbrev b_Itm_isInside : ByteArray := prog_5_method_6_code
def y_Itm_isInside : MethodName := ⟨R_Itm, "isInside", "(I)Z"⟩
abbrev rm_Itm_isInside : Room := { frames := 1, cells := 0, slots := 0, locals := 22 }
abbrev b_Itm_having : ByteArray := prog_5_method_5_code
def y_Itm_having : MethodName := ⟨R_Itm, "having", "(I)I"⟩
abbrev rm_Itm_having : Room := { frames := 0, cells := 0, slots := 0, locals := 0 }
abbrev b_Gap_put : ByteArray := prog_3_method_5_code
def y_Gap_put : MethodName := ⟨R_Gap, "put", "(ILVersionedText$RowText;)V"⟩
abbrev rm_Gap_put : Room := { frames := 2, cells := 0, slots := 0, locals := 54 }
abbrev b_Gap_moveGap : ByteArray := prog_3_method_7_code
def y_Gap_moveGap : MethodName := ⟨R_Gap, "moveGap", "(I)V"⟩
abbrev rm_Gap_moveGap : Room := { frames := 1, cells := 0, slots := 0, locals := 32 }
abbrev b_Row_copyInto : ByteArray := prog_6_method_8_code
def y_Row_copyInto : MethodName := ⟨R_Row, "copyInto", "([CI)V"⟩
abbrev rm_Row_copyInto : Room := { frames := 1, cells := 0, slots := 0, locals := 32 }
abbrev b_Row_put : ByteArray := prog_6_method_5_code
def y_Row_put : MethodName := ⟨R_Row, "put", "(ILVersionedText$RowText;)V"⟩
abbrev rm_Row_put : Room := { frames := 2, cells := 0, slots := 0, locals := 54 }
abbrev b_VT_clipIsTyping : ByteArray := prog_1_method_26_code
def y_VT_clipIsTyping : MethodName := ⟨R_VT, "clipIsTyping", "()Z"⟩
abbrev rm_VT_clipIsTyping : Room := { frames := 1, cells := 0, slots := 0, locals := 21 }
abbrev b_His_extendStep : ByteArray := prog_4_method_5_code
def y_His_extendStep : MethodName := ⟨R_His, "extendStep", "(LVersionedText$Text;)V"⟩
abbrev rm_His_extendStep : Room := { frames := 3, cells := 0, slots := 0, locals := 63 }
abbrev b_His_latest : ByteArray := prog_4_method_8_code
def y_His_latest : MethodName := ⟨R_His, "latest", "()LVersionedText$RowText;"⟩
abbrev rm_His_latest : Room := { frames := 0, cells := 0, slots := 0, locals := 0 }
abbrev b_Row_become : ByteArray := prog_6_method_6_code
def y_Row_become : MethodName := ⟨R_Row, "become", "(LVersionedText$Text;)V"⟩
abbrev rm_Row_become : Room := { frames := 2, cells := 0, slots := 0, locals := 41 }
abbrev b_His_addStep : ByteArray := prog_4_method_4_code
def y_His_addStep : MethodName := ⟨R_His, "addStep", "(LVersionedText$Text;)V"⟩
abbrev rm_His_addStep : Room := { frames := 3, cells := 0, slots := 0, locals := 63 }
abbrev b_VT_remove : ByteArray := prog_1_method_5_code
def y_VT_remove : MethodName := ⟨R_VT, "remove", "(II)Z"⟩
abbrev rm_VT_remove : Room := { frames := 6, cells := 0, slots := 0, locals := 131 }
abbrev b_Gap_cut : ByteArray := prog_3_method_4_code
def y_Gap_cut : MethodName := ⟨R_Gap, "cut", "(II)V"⟩
abbrev rm_Gap_cut : Room := { frames := 2, cells := 0, slots := 0, locals := 54 }
abbrev b_VT_addClosedStep : ByteArray := prog_1_method_27_code
def y_VT_addClosedStep : MethodName := ⟨R_VT, "addClosedStep", "()V"⟩
abbrev rm_VT_addClosedStep : Room := { frames := 4, cells := 0, slots := 0, locals := 84 }
abbrev b_VT_replace : ByteArray := prog_1_method_6_code
def y_VT_replace : MethodName := ⟨R_VT, "replace", "(II)Z"⟩
abbrev rm_VT_replace : Room := { frames := 7, cells := 0, slots := 0, locals := 153 }
abbrev b_VT_undo : ByteArray := prog_1_method_7_code
def y_VT_undo : MethodName := ⟨R_VT, "undo", "()Z"⟩
abbrev rm_VT_undo : Room := { frames := 4, cells := 0, slots := 0, locals := 84 }
abbrev b_His_undoable : ByteArray := prog_4_method_2_code
def y_His_undoable : MethodName := ⟨R_His, "undoable", "()I"⟩
abbrev rm_His_undoable : Room := { frames := 0, cells := 0, slots := 0, locals := 0 }
abbrev b_His_goBack : ByteArray := prog_4_method_6_code
def y_His_goBack : MethodName := ⟨R_His, "goBack", "(LVersionedText$Text;)V"⟩
abbrev rm_His_goBack : Room := { frames := 3, cells := 0, slots := 0, locals := 63 }
abbrev b_Gap_become : ByteArray := prog_3_method_6_code
def y_Gap_become : MethodName := ⟨R_Gap, "become", "(LVersionedText$Text;)V"⟩
abbrev rm_Gap_become : Room := { frames := 2, cells := 0, slots := 0, locals := 41 }
abbrev b_VT_redo : ByteArray := prog_1_method_8_code
def y_VT_redo : MethodName := ⟨R_VT, "redo", "()Z"⟩
abbrev rm_VT_redo : Room := { frames := 4, cells := 0, slots := 0, locals := 84 }
abbrev b_His_redoable : ByteArray := prog_4_method_3_code
def y_His_redoable : MethodName := ⟨R_His, "redoable", "()I"⟩
abbrev rm_His_redoable : Room := { frames := 0, cells := 0, slots := 0, locals := 0 }
abbrev b_His_goForward : ByteArray := prog_4_method_7_code
def y_His_goForward : MethodName := ⟨R_His, "goForward", "(LVersionedText$Text;)V"⟩
abbrev rm_His_goForward : Room := { frames := 3, cells := 0, slots := 0, locals := 63 }
abbrev b_VT_steps : ByteArray := prog_1_method_9_code
def y_VT_steps : MethodName := ⟨R_VT, "steps", "(I)I"⟩
abbrev rm_VT_steps : Room := { frames := 1, cells := 0, slots := 0, locals := 20 }
abbrev b_VT_seal : ByteArray := prog_1_method_10_code
def y_VT_seal : MethodName := ⟨R_VT, "seal", "()V"⟩
abbrev rm_VT_seal : Room := { frames := 0, cells := 0, slots := 0, locals := 0 }
abbrev b_VT_guard : ByteArray := prog_1_method_11_code
def y_VT_guard : MethodName := ⟨R_VT, "guard", "(I)Z"⟩
abbrev rm_VT_guard : Room := { frames := 0, cells := 0, slots := 0, locals := 0 }
abbrev b_VT_snapshot : ByteArray := prog_1_method_12_code
def y_VT_snapshot : MethodName := ⟨R_VT, "snapshot", "()I"⟩
abbrev rm_VT_snapshot : Room := { frames := 3, cells := 0, slots := 0, locals := 63 }
abbrev b_VT_release : ByteArray := prog_1_method_13_code
def y_VT_release : MethodName := ⟨R_VT, "release", "(I)Z"⟩
abbrev rm_VT_release : Room := { frames := 1, cells := 0, slots := 0, locals := 21 }
abbrev b_VT_isVersion : ByteArray := prog_1_method_21_code
def y_VT_isVersion : MethodName := ⟨R_VT, "isVersion", "(I)Z"⟩
abbrev rm_VT_isVersion : Room := { frames := 0, cells := 0, slots := 0, locals := 0 }
abbrev b_VT_unit : ByteArray := prog_1_method_14_code
def y_VT_unit : MethodName := ⟨R_VT, "unit", "(II)I"⟩
abbrev rm_VT_unit : Room := { frames := 2, cells := 0, slots := 0, locals := 41 }
abbrev b_VT_count : ByteArray := prog_1_method_15_code
def y_VT_count : MethodName := ⟨R_VT, "count", "(II)I"⟩
abbrev rm_VT_count : Room := { frames := 5, cells := 0, slots := 0, locals := 109 }
abbrev b_VT_isMetric : ByteArray := prog_1_method_22_code
def y_VT_isMetric : MethodName := ⟨R_VT, "isMetric", "(I)Z"⟩
abbrev rm_VT_isMetric : Room := { frames := 0, cells := 0, slots := 0, locals := 0 }
abbrev b_Itm_number : ByteArray := prog_5_method_3_code
def y_Itm_number : MethodName := ⟨R_Itm, "number", "()I"⟩
abbrev rm_Itm_number : Room := { frames := 0, cells := 0, slots := 0, locals := 0 }
abbrev b_VT_place : ByteArray := prog_1_method_16_code
def y_VT_place : MethodName := ⟨R_VT, "place", "(III)I"⟩
abbrev rm_VT_place : Room := { frames := 5, cells := 0, slots := 0, locals := 109 }
abbrev b_Itm_beginningOf : ByteArray := prog_5_method_4_code
def y_Itm_beginningOf : MethodName := ⟨R_Itm, "beginningOf", "(I)I"⟩
abbrev rm_Itm_beginningOf : Room := { frames := 0, cells := 0, slots := 0, locals := 0 }
abbrev b_VT_item : ByteArray := prog_1_method_17_code
def y_VT_item : MethodName := ⟨R_VT, "item", "(III)I"⟩
abbrev rm_VT_item : Room := { frames := 5, cells := 0, slots := 0, locals := 109 }
abbrev b_VT_same : ByteArray := prog_1_method_18_code
def y_VT_same : MethodName := ⟨R_VT, "same", "(II)Z"⟩
abbrev rm_VT_same : Room := { frames := 3, cells := 0, slots := 0, locals := 63 }
abbrev b_VT_haveSameUnits : ByteArray := prog_1_method_28_code
def y_VT_haveSameUnits : MethodName := ⟨R_VT, "haveSameUnits", "(LVersionedText$Text;LVersionedText$Text;)Z"⟩
abbrev rm_VT_haveSameUnits : Room := { frames := 2, cells := 0, slots := 0, locals := 41 }
abbrev b_VT_find : ByteArray := prog_1_method_19_code
def y_VT_find : MethodName := ⟨R_VT, "find", "(II)I"⟩
abbrev rm_VT_find : Room := { frames := 3, cells := 0, slots := 0, locals := 73 }
abbrev b_Sea_takePattern : ByteArray := prog_7_method_2_code
def y_Sea_takePattern : MethodName := ⟨R_Sea, "takePattern", "(LVersionedText$RowText;)Z"⟩
abbrev rm_Sea_takePattern : Room := { frames := 1, cells := 0, slots := 0, locals := 21 }
abbrev b_Sea_firstMatch : ByteArray := prog_7_method_3_code
def y_Sea_firstMatch : MethodName := ⟨R_Sea, "firstMatch", "(LVersionedText$Text;I)I"⟩
abbrev rm_Sea_firstMatch : Room := { frames := 2, cells := 0, slots := 0, locals := 49 }
abbrev b_Sea_reachFrom : ByteArray := prog_7_method_5_code
def y_Sea_reachFrom : MethodName := ⟨R_Sea, "reachFrom", "(II)V"⟩
abbrev rm_Sea_reachFrom : Room := { frames := 1, cells := 0, slots := 0, locals := 22 }
abbrev b_Sea_standsFor : ByteArray := prog_7_method_6_code
def y_Sea_standsFor : MethodName := ⟨R_Sea, "standsFor", "(II)Z"⟩
abbrev rm_Sea_standsFor : Room := { frames := 0, cells := 0, slots := 0, locals := 0 }
abbrev b_VT_end : ByteArray := prog_1_method_20_code
def y_VT_end : MethodName := ⟨R_VT, "end", "()I"⟩
abbrev rm_VT_end : Room := { frames := 1, cells := 0, slots := 0, locals := 20 }
abbrev b_Sea_matchEnd : ByteArray := prog_7_method_4_code
def y_Sea_matchEnd : MethodName := ⟨R_Sea, "matchEnd", "()I"⟩
abbrev rm_Sea_matchEnd : Room := { frames := 0, cells := 0, slots := 0, locals := 0 }
abbrev b_Law_cell : ByteArray := method_2_code
def y_Law_cell : MethodName := ⟨R_Law, "cell", "([II)I"⟩
abbrev rm_Law_cell : Room := { frames := 0, cells := 0, slots := 0, locals := 0 }
abbrev b_Mod_init : ByteArray := prog_10_method_1_code
def y_Mod_init : MethodName := ⟨R_Mod, "<init>", "(I)V"⟩
abbrev rm_Mod_init : Room := { frames := 1, cells := 9, slots := 2927, locals := 20 }
abbrev b_Mod_type : ByteArray := prog_10_method_2_code
def y_Mod_type : MethodName := ⟨R_Mod, "type", "(C)Z"⟩
abbrev rm_Mod_type : Room := { frames := 0, cells := 0, slots := 0, locals := 0 }
abbrev b_Mod_scrap : ByteArray := prog_10_method_3_code
def y_Mod_scrap : MethodName := ⟨R_Mod, "scrap", "()V"⟩
abbrev rm_Mod_scrap : Room := { frames := 0, cells := 0, slots := 0, locals := 0 }
abbrev b_Mod_insert : ByteArray := prog_10_method_19_code
def y_Mod_insert : MethodName := ⟨R_Mod, "insert", "(I)Z"⟩
abbrev rm_Mod_insert : Room := { frames := 4, cells := 0, slots := 0, locals := 92 }
abbrev b_Mod_isPlace : ByteArray := prog_10_method_18_code
def y_Mod_isPlace : MethodName := ⟨R_Mod, "isPlace", "(I)Z"⟩
abbrev rm_Mod_isPlace : Room := { frames := 0, cells := 0, slots := 0, locals := 0 }
abbrev b_Mod_lets : ByteArray := prog_10_method_13_code
def y_Mod_lets : MethodName := ⟨R_Mod, "lets", "(I)Z"⟩
abbrev rm_Mod_lets : Room := { frames := 3, cells := 0, slots := 0, locals := 69 }
abbrev b_Mod_findItems : ByteArray := prog_10_method_12_code
def y_Mod_findItems : MethodName := ⟨R_Mod, "findItems", "(II)V"⟩
abbrev rm_Mod_findItems : Room := { frames := 2, cells := 0, slots := 0, locals := 46 }
abbrev b_Mod_begin : ByteArray := prog_10_method_10_code
def y_Mod_begin : MethodName := ⟨R_Mod, "begin", "(I)V"⟩
abbrev rm_Mod_begin : Room := { frames := 0, cells := 0, slots := 0, locals := 0 }
abbrev b_Mod_findLines : ByteArray := prog_10_method_11_code
def y_Mod_findLines : MethodName := ⟨R_Mod, "findLines", "(I)V"⟩
abbrev rm_Mod_findLines : Room := { frames := 1, cells := 0, slots := 0, locals := 21 }
abbrev b_Mod_findPoints : ByteArray := prog_10_method_5_code
def y_Mod_findPoints : MethodName := ⟨R_Mod, "findPoints", "(I)V"⟩
abbrev rm_Mod_findPoints : Room := { frames := 0, cells := 0, slots := 0, locals := 0 }
abbrev b_Mod_bound : ByteArray := prog_10_method_9_code
def y_Mod_bound : MethodName := ⟨R_Mod, "bound", "(I)Z"⟩
abbrev rm_Mod_bound : Room := { frames := 1, cells := 0, slots := 0, locals := 20 }
abbrev b_Mod_isMark : ByteArray := prog_10_method_6_code
def y_Mod_isMark : MethodName := ⟨R_Mod, "isMark", "(I)Z"⟩
abbrev rm_Mod_isMark : Room := { frames := 0, cells := 0, slots := 0, locals := 0 }
abbrev b_Mod_isPicture : ByteArray := prog_10_method_7_code
def y_Mod_isPicture : MethodName := ⟨R_Mod, "isPicture", "(I)Z"⟩
abbrev rm_Mod_isPicture : Room := { frames := 0, cells := 0, slots := 0, locals := 0 }
abbrev b_Mod_isFlag : ByteArray := prog_10_method_8_code
def y_Mod_isFlag : MethodName := ⟨R_Mod, "isFlag", "(I)Z"⟩
abbrev rm_Mod_isFlag : Room := { frames := 0, cells := 0, slots := 0, locals := 0 }
abbrev b_Mod_make : ByteArray := prog_10_method_14_code
def y_Mod_make : MethodName := ⟨R_Mod, "make", "(III)V"⟩
abbrev rm_Mod_make : Room := { frames := 0, cells := 0, slots := 0, locals := 0 }
abbrev b_Mod_show : ByteArray := prog_10_method_15_code
def y_Mod_show : MethodName := ⟨R_Mod, "show", "(I)V"⟩
abbrev rm_Mod_show : Room := { frames := 0, cells := 0, slots := 0, locals := 0 }
abbrev b_Mod_step : ByteArray := prog_10_method_16_code
def y_Mod_step : MethodName := ⟨R_Mod, "step", "()V"⟩
abbrev rm_Mod_step : Room := { frames := 1, cells := 0, slots := 0, locals := 23 }
abbrev b_Mod_copy : ByteArray := prog_10_method_17_code
def y_Mod_copy : MethodName := ⟨R_Mod, "copy", "(II)V"⟩
abbrev rm_Mod_copy : Room := { frames := 0, cells := 0, slots := 0, locals := 0 }
abbrev b_Mod_remove : ByteArray := prog_10_method_20_code
def y_Mod_remove : MethodName := ⟨R_Mod, "remove", "(II)Z"⟩
abbrev rm_Mod_remove : Room := { frames := 4, cells := 0, slots := 0, locals := 92 }
abbrev b_Mod_replace : ByteArray := prog_10_method_21_code
def y_Mod_replace : MethodName := ⟨R_Mod, "replace", "(II)Z"⟩
abbrev rm_Mod_replace : Room := { frames := 4, cells := 0, slots := 0, locals := 92 }
abbrev b_Mod_undo : ByteArray := prog_10_method_22_code
def y_Mod_undo : MethodName := ⟨R_Mod, "undo", "()Z"⟩
abbrev rm_Mod_undo : Room := { frames := 0, cells := 0, slots := 0, locals := 0 }
abbrev b_Mod_redo : ByteArray := prog_10_method_23_code
def y_Mod_redo : MethodName := ⟨R_Mod, "redo", "()Z"⟩
abbrev rm_Mod_redo : Room := { frames := 0, cells := 0, slots := 0, locals := 0 }
abbrev b_Mod_steps : ByteArray := prog_10_method_24_code
def y_Mod_steps : MethodName := ⟨R_Mod, "steps", "(I)I"⟩
abbrev rm_Mod_steps : Room := { frames := 0, cells := 0, slots := 0, locals := 0 }
abbrev b_Mod_seal : ByteArray := prog_10_method_25_code
def y_Mod_seal : MethodName := ⟨R_Mod, "seal", "()V"⟩
abbrev rm_Mod_seal : Room := { frames := 0, cells := 0, slots := 0, locals := 0 }
abbrev b_Mod_guard : ByteArray := prog_10_method_26_code
def y_Mod_guard : MethodName := ⟨R_Mod, "guard", "(I)Z"⟩
abbrev rm_Mod_guard : Room := { frames := 0, cells := 0, slots := 0, locals := 0 }
abbrev b_Mod_snapshot : ByteArray := prog_10_method_27_code
def y_Mod_snapshot : MethodName := ⟨R_Mod, "snapshot", "()I"⟩
abbrev rm_Mod_snapshot : Room := { frames := 1, cells := 0, slots := 0, locals := 23 }
abbrev b_Mod_release : ByteArray := prog_10_method_28_code
def y_Mod_release : MethodName := ⟨R_Mod, "release", "(I)Z"⟩
abbrev rm_Mod_release : Room := { frames := 0, cells := 0, slots := 0, locals := 0 }
abbrev b_Mod_unit : ByteArray := prog_10_method_29_code
def y_Mod_unit : MethodName := ⟨R_Mod, "unit", "(II)I"⟩
abbrev rm_Mod_unit : Room := { frames := 1, cells := 0, slots := 0, locals := 21 }
abbrev b_Mod_slot : ByteArray := prog_10_method_4_code
def y_Mod_slot : MethodName := ⟨R_Mod, "slot", "(I)I"⟩
abbrev rm_Mod_slot : Room := { frames := 0, cells := 0, slots := 0, locals := 0 }
abbrev b_Mod_count : ByteArray := prog_10_method_31_code
def y_Mod_count : MethodName := ⟨R_Mod, "count", "(II)I"⟩
abbrev rm_Mod_count : Room := { frames := 4, cells := 0, slots := 0, locals := 92 }
abbrev b_Mod_looks : ByteArray := prog_10_method_30_code
def y_Mod_looks : MethodName := ⟨R_Mod, "looks", "(II)Z"⟩
abbrev rm_Mod_looks : Room := { frames := 3, cells := 0, slots := 0, locals := 69 }
abbrev b_Mod_place : ByteArray := prog_10_method_32_code
def y_Mod_place : MethodName := ⟨R_Mod, "place", "(III)I"⟩
abbrev rm_Mod_place : Room := { frames := 4, cells := 0, slots := 0, locals := 92 }
abbrev b_Mod_item : ByteArray := prog_10_method_33_code
def y_Mod_item : MethodName := ⟨R_Mod, "item", "(III)I"⟩
abbrev rm_Mod_item : Room := { frames := 4, cells := 0, slots := 0, locals := 92 }
abbrev b_Mod_same : ByteArray := prog_10_method_34_code
def y_Mod_same : MethodName := ⟨R_Mod, "same", "(II)Z"⟩
abbrev rm_Mod_same : Room := { frames := 1, cells := 0, slots := 0, locals := 21 }
abbrev b_Mod_find : ByteArray := prog_10_method_38_code
def y_Mod_find : MethodName := ⟨R_Mod, "find", "(II)I"⟩
abbrev rm_Mod_find : Room := { frames := 2, cells := 0, slots := 0, locals := 47 }
abbrev b_Mod_isPattern : ByteArray := prog_10_method_35_code
def y_Mod_isPattern : MethodName := ⟨R_Mod, "isPattern", "()Z"⟩
abbrev rm_Mod_isPattern : Room := { frames := 0, cells := 0, slots := 0, locals := 0 }
abbrev b_Mod_match : ByteArray := prog_10_method_37_code
def y_Mod_match : MethodName := ⟨R_Mod, "match", "(II)I"⟩
abbrev rm_Mod_match : Room := { frames := 1, cells := 0, slots := 0, locals := 21 }
abbrev b_Mod_stands : ByteArray := prog_10_method_36_code
def y_Mod_stands : MethodName := ⟨R_Mod, "stands", "(II)Z"⟩
abbrev rm_Mod_stands : Room := { frames := 0, cells := 0, slots := 0, locals := 0 }
abbrev b_Mod_end : ByteArray := prog_10_method_39_code
def y_Mod_end : MethodName := ⟨R_Mod, "end", "()I"⟩
abbrev rm_Mod_end : Room := { frames := 0, cells := 0, slots := 0, locals := 0 }
def y_Txt_length : MethodName := ⟨nm_Text, "length", "()I"⟩
def y_Txt_at : MethodName := ⟨nm_Text, "at", "(I)I"⟩
def y_Txt_cut : MethodName := ⟨nm_Text, "cut", "(II)V"⟩
def y_Txt_put : MethodName := ⟨nm_Text, "put", "(ILVersionedText$RowText;)V"⟩
def y_Txt_become : MethodName := ⟨nm_Text, "become", "(LVersionedText$Text;)V"⟩
def fwl : List (String × MethodName × MethodName) := [(R_Row, y_Txt_length, y_Row_length), (R_Row, y_Txt_at, y_Row_at), (R_Row, y_Txt_cut, y_Row_cut), (R_Row, y_Txt_put, y_Row_put), (R_Row, y_Txt_become, y_Row_become), (R_Gap, y_Txt_length, y_Gap_length), (R_Gap, y_Txt_at, y_Gap_at), (R_Gap, y_Txt_cut, y_Gap_cut), (R_Gap, y_Txt_put, y_Gap_put), (R_Gap, y_Txt_become, y_Gap_become)]
theorem fwl_ok : ∀ q ∈ fwl, q.2.1.cls ≠ "java/lang/invoke/MethodHandle" ∧ q.2.1.cls ≠ "java/lang/invoke/VarHandle" := by decide +kernel
