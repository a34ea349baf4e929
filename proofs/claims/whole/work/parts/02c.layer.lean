/-! calls -/
/-- own's pool number idx is the method y, of n parameters; its code is known -/
def CS (own : String) (idx : Nat) (y : MethodName) (cy : ByteArray) (mL : Nat) (ret : Option FieldType) (n : Nat) : Prop :=
  Cond.code y cy mL ret ∈ lw_tbl ∧ Cond.initialized y.cls ∈ lw_tbl ∧ (y.cls ≠ "java/lang/invoke/MethodHandle" ∧ y.cls ≠ "java/lang/invoke/VarHandle") ∧ (parseMethodDescriptor y.desc).map (fun d => d.parameters.length) = some n ∧ Cond.methodLink own idx y ∈ lw_tbl
theorem gw_code {y : MethodName} {c : ByteArray} {m : Nat} {r : Option FieldType} : goodWord (.code y c m r) = true := rfl
theorem gw_init {C : String} : goodWord (.initialized C) = true := rfl
theorem gw_link {o : String} {i : Nat} {y : MethodName} : goodWord (.methodLink o i y) = true := rfl
theorem gw_static {y : MethodName} : goodWord (.static y) = true := rfl
theorem gw_inst {y : MethodName} : goodWord (.instanceMethod y) = true := rfl
theorem gw_sel {C : String} {x y : MethodName} : goodWord (.selects C x y) = true := rfl
theorem gw_cl {o : String} {i : Nat} {C : String} : goodWord (.classLink o i C) = true := rfl
theorem gw_able {C : String} {n : Nat} : goodWord (.instantiable C n) = true := rfl
theorem gw_fl {o : String} {i : Nat} {C n d : String} : goodWord (.fieldLink o i C n d) = true := rfl
theorem gw_const {o : String} {i : Nat} {v : Int32} : goodWord (.constant o i v) = true := rfl
theorem gw_native {y : MethodName} : goodWord (.native y) = true := rfl
theorem cs_w {G : lx_G} {s : State} (hT : Tb G s) {y : MethodName} {cy : ByteArray} {mL : Nat} {ret : Option FieldType} (h : Cond.code y cy mL ret ∈ lw_tbl) : ∀ w ∈ [Cond.code y cy mL ret], ∀ (a' : Array Value) (U : State), s.WarmedH U.vm → w.before a' U = true := by
  intro w hw
  rw [List.mem_singleton.mp hw]
  exact hT.later h gw_code
theorem cs_n {y : MethodName} {n : Nat} (h : (parseMethodDescriptor y.desc).map (fun d => d.parameters.length) = some n) : ∀ sig, parseMethodDescriptor y.desc = some sig → n = sig.parameters.length := by
  intro sig hs
  rw [hs] at h
  exact (Option.some.inj h).symm
theorem cs_B {G : lx_G} {s : State} (hT : Tb G s) {R rm : Room} {args : Array Value} {own : String} {idx : Nat} {y : MethodName} {cy : ByteArray} {mL : Nat} {ret : Option FieldType} {n : Nat} (h : CS own idx y cy mL ret n) (hR : rm.frames + 1 ≤ R.frames ∧ 8 + (mL + 11) + rm.locals ≤ R.locals) : CallB R s args own idx y cy mL ret [Cond.code y cy mL ret] rm rm.cells rm.slots n :=
  ⟨rfl, rfl, hR.1, hR.2, cs_w hT h.1, List.mem_singleton.mpr rfl, hT.word h.1 gw_code _, hT.word h.2.1 gw_init _, h.2.2.1, cs_n h.2.2.2.1, hT.word h.2.2.2.2 gw_link _⟩
section EC
variable {k : lx_K} {G : lx_G} {own : String} {cc : ByteArray} {nL N cells slots pc : Nat} {R : Room} {h : Nat → va_E} {L : List (Option Value)} {st : List Value}
theorem run_after {N' mc ms : Nat} {H : Heap} {locs : List Loc} {ls : Array Slot} {st0 rest : List Value} {a : Array Value} {post : Option Value → (Nat → va_E) → Prop}
    (hr : va_Run (k_p k) (k_l k) (k_e k) (k_R k) (k_s k) (k_m k) (k_a k) (k_b k) (k_M k) (k_c k) H locs cells slots mc ms (F0 (k_m k) pc ls st0) rest (cq G N' post a) (fun q => g_b G ≤ q)) (hS : va_S (fun q => g_b G ≤ q) (k_s k).heap H locs) (hL : LR ls nL L)
    (kk : ∀ (v : Option Value) (h' : Nat → va_E), post v h' → Ev k G nL N' (cells + mc) (slots + ms) h' (pc + 3) L (v.toList ++ rest)) : W (k_p k) (k_l k) (k_e k) (k_R k) (k_s k) (k_m k) (k_a k) (k_b k) (k_M k) (k_c k) H locs cells slots (k_Q k) (F0 (k_m k) pc ls st0) := by
  intro T hT X
  obtain ⟨v, st₀, t, T', Lc, h0, X', hLc, e1, e2, ⟨⟨v', h', hv, hp, hh⟩, hz, hk⟩, stp⟩ := hr T hT X
  cases hv
  rw [h0] at hz hk
  obtain ⟨t2, a1, b1⟩ := kk v h' hp T'.heap (locs ++ Lc) ls (by rw [e1]; exact hh)
    ⟨Nat.le_trans hS.1 (by rw [e1]; exact hz), fun q h1 h2 => by rw [e1, hk q (Nat.lt_of_lt_of_le h1 hS.1) h2]; exact hS.2.1 q h1 h2, fun q hq => by
      rcases List.mem_append.mp hq with h9 | h9
      · exact hS.2.2 q h9
      · exact hLc q h9⟩ hL T' rfl X'
  exact ⟨t2, stp t2 a1, b1⟩
theorem run5_after {N' mc ms : Nat} {H : Heap} {locs : List Loc} {ls : Array Slot} {st0 rest : List Value} {a : Array Value} {post : Option Value → (Nat → va_E) → Prop}
    (hr : va_Run5 (k_p k) (k_l k) (k_e k) (k_R k) (k_s k) (k_m k) (k_a k) (k_b k) (k_M k) (k_c k) H locs cells slots mc ms (F0 (k_m k) pc ls st0) rest (cq G N' post a) (fun q => g_b G ≤ q)) (hS : va_S (fun q => g_b G ≤ q) (k_s k).heap H locs) (hL : LR ls nL L)
    (kk : ∀ (v : Option Value) (h' : Nat → va_E), post v h' → Ev k G nL N' (cells + mc) (slots + ms) h' (pc + 5) L (v.toList ++ rest)) : W (k_p k) (k_l k) (k_e k) (k_R k) (k_s k) (k_m k) (k_a k) (k_b k) (k_M k) (k_c k) H locs cells slots (k_Q k) (F0 (k_m k) pc ls st0) := by
  intro T hT X
  obtain ⟨v, st₀, t, T', Lc, h0, X', hLc, e1, e2, ⟨⟨v', h', hv, hp, hh⟩, hz, hk⟩, stp⟩ := hr T hT X
  cases hv
  rw [h0] at hz hk
  obtain ⟨t2, a1, b1⟩ := kk v h' hp T'.heap (locs ++ Lc) ls (by rw [e1]; exact hh)
    ⟨Nat.le_trans hS.1 (by rw [e1]; exact hz), fun q h1 h2 => by rw [e1, hk q (Nat.lt_of_lt_of_le h1 hS.1) h2]; exact hS.2.1 q h1 h2, fun q hq => by
      rcases List.mem_append.mp hq with h9 | h9
      · exact hS.2.2 q h9
      · exact hLc q h9⟩ hL T' rfl X'
  exact ⟨t2, stp t2 a1, b1⟩
theorem e_callS (X : Cx k G own cc nL R) {idx mL n N' : Nat} {y : MethodName} {cy : ByteArray} {ret : Option FieldType} {rm : Room} {As rest : List Value} {post : Option Value → (Nat → va_E) → Prop} (hd : decode cc pc = .ok (.invokestatic idx, 3)) (hC : CS own idx y cy mL ret n) (hs : Cond.static y ∈ lw_tbl) (hM : Ct (k_l k) G y cy mL ret rm N N' As h post) (hst : st = As.reverse ++ rest) (hR : (rm.frames + 1 ≤ R.frames ∧ 8 + (mL + 11) + rm.locals ≤ R.locals) ∧ (cells + rm.cells ≤ R.cells ∧ slots + rm.slots ≤ R.slots) ∧ As.length = n) (hrs : (rest.map fun v => v.category).sum ≤ 8)
    (kk : ∀ (v : Option Value) (h' : Nat → va_E), post v h' → Ev k G nL N' (cells + rm.cells) (slots + rm.slots) h' (pc + 3) L (v.toList ++ rest)) : Ev k G nL N cells slots h pc L st := by
  intro H locs ls hH hS hL
  subst hst
  have hRk := X.R
  exact run_after (va_runS (Ts := []) (rest := rest) (As := As) ⟨X.1, X.2.1, X.2.2.1, X.own, fun w h9 => by cases h9⟩ hM ⟨cs_B X.tb hC (by rw [hRk]; exact hR.1), X.tb.word hs gw_static _⟩ ⟨ct_blind, fun U hU hW => ⟨rfl, by rw [hU]; exact hH, X.tb.moved hW⟩⟩ rfl hR.2.2 hL.1 rfl (lv_room hrs) hd (by rw [hRk]; exact hR.2.1)) hS hL kk
theorem e_callV (X : Cx k G own cc nL R) {idx mL n N' i ci : Nat} {y : MethodName} {cy : ByteArray} {ret : Option FieldType} {rm : Room} {As rest fs : List Value} {C : String} {T : u_T} {nf : Nat} {post : Option Value → (Nat → va_E) → Prop} (hd : decode cc pc = .ok (.invokevirtual idx, 3)) (hC : CS own idx y cy mL ret n) (hin : Cond.instanceMethod y ∈ lw_tbl ∧ Cond.selects C y y ∈ lw_tbl) (hM : Ct (k_l k) G y cy mL ret rm N N' (.ref (ad (g_b G) i) :: As) h post) (hc : h i = ob ci fs) (hi : i < N) (hcl : vwCl[ci]? = some (C, T, nf)) (hst : st = As.reverse ++ .ref (ad (g_b G) i) :: rest) (hR : (rm.frames + 1 ≤ R.frames ∧ 8 + (mL + 11) + rm.locals ≤ R.locals) ∧ (cells + rm.cells ≤ R.cells ∧ slots + rm.slots ≤ R.slots) ∧ As.length = n) (hrs : (rest.map fun v => v.category).sum ≤ 8)
    (kk : ∀ (v : Option Value) (h' : Nat → va_E), post v h' → Ev k G nL N' (cells + rm.cells) (slots + rm.slots) h' (pc + 3) L (v.toList ++ rest)) : Ev k G nL N cells slots h pc L st := by
  intro H locs ls hH hS hL
  subst hst
  have hRk := X.R
  exact run_after (va_runV (C := C) (Ts := []) (rest := rest) (As := As) ⟨X.1, X.2.1, X.2.2.1, X.own, fun w h9 => by cases h9⟩ hM ⟨cs_B X.tb hC (by rw [hRk]; exact hR.1), X.tb.word hin.1 gw_inst _, X.tb.word hin.2 gw_sel _⟩ ⟨ct_blind, va_recv X.tb.K (hH.one hi hc) (ci := ci) (q0 := 0) hcl rfl, fun U hU hW => ⟨rfl, by rw [hU]; exact hH, X.tb.moved hW⟩⟩ rfl hR.2.2 hL.1 rfl (lv_room hrs) hd (by rw [hRk]; exact hR.2.1)) hS hL kk
theorem e_callI (X : Cx k G own cc nL R) {idx mL n N' i : Nat} {y : MethodName} {cy : ByteArray} {rm : Room} {As rest : List Value} {post : Option Value → (Nat → va_E) → Prop} (hd : decode cc pc = .ok (.invokespecial idx, 3)) (hC : CS own idx y cy mL none n) (hin : Cond.instanceMethod y ∈ lw_tbl ∧ y.name = "<init>") (hM : Ct (k_l k) G y cy mL none rm N N' (.ref (ad (g_b G) i) :: As) h post) (hst : st = As.reverse ++ .ref (ad (g_b G) i) :: rest) (hR : (rm.frames + 1 ≤ R.frames ∧ 8 + (mL + 11) + rm.locals ≤ R.locals) ∧ (cells + rm.cells ≤ R.cells ∧ slots + rm.slots ≤ R.slots) ∧ As.length = n) (hrs : (rest.map fun v => v.category).sum ≤ 8)
    (kk : ∀ (v : Option Value) (h' : Nat → va_E), post v h' → Ev k G nL N' (cells + rm.cells) (slots + rm.slots) h' (pc + 3) L (v.toList ++ rest)) : Ev k G nL N cells slots h pc L st := by
  intro H locs ls hH hS hL
  subst hst
  have hRk := X.R
  exact run_after (va_runI (Ts := []) (rest := rest) (As := As) ⟨X.1, X.2.1, X.2.2.1, X.own, fun w h9 => by cases h9⟩ hM ⟨cs_B X.tb hC (by rw [hRk]; exact hR.1), hin.2, X.tb.word hin.1 gw_inst _⟩ ⟨ct_blind, fun U hU hW => ⟨rfl, by rw [hU]; exact hH, X.tb.moved hW⟩⟩ rfl hR.2.2 hL.1 rfl (lv_room hrs) hd (by rw [hRk]; exact hR.2.1)) hS hL kk
/-- own's pool number idx is the interface's method x, which on a receiver of class C selects y -/
def CF (own : String) (idx : Nat) (C : String) (x y : MethodName) (cy : ByteArray) (mL : Nat) (ret : Option FieldType) (n : Nat) : Prop :=
  Cond.code y cy mL ret ∈ lw_tbl ∧ Cond.initialized y.cls ∈ lw_tbl ∧ (x.cls ≠ "java/lang/invoke/MethodHandle" ∧ x.cls ≠ "java/lang/invoke/VarHandle") ∧ (parseMethodDescriptor x.desc).map (fun d => d.parameters.length) = some n ∧ Cond.methodLink own idx x ∈ lw_tbl ∧ Cond.selects C x y ∈ lw_tbl ∧ Cond.instanceMethod y ∈ lw_tbl ∧ (C, x, y) ∈ fwl
theorem e_callF (X : Cx k G own cc nL R) {idx cnt mL n N' i ci : Nat} {x y : MethodName} {cy : ByteArray} {ret : Option FieldType} {rm : Room} {As rest fs : List Value} {C : String} {T : u_T} {nf : Nat} {post : Option Value → (Nat → va_E) → Prop} (hd : decode cc pc = .ok (.invokeinterface idx cnt, 5)) (hC : CF own idx C x y cy mL ret n) (hM : Ct (k_l k) G y cy mL ret rm N N' (.ref (ad (g_b G) i) :: As) h post) (hc : h i = ob ci fs) (hi : i < N) (hcl : vwCl[ci]? = some (C, T, nf)) (hst : st = As.reverse ++ .ref (ad (g_b G) i) :: rest) (hR : (rm.frames + 1 ≤ R.frames ∧ 8 + (mL + 11) + rm.locals ≤ R.locals) ∧ (cells + rm.cells ≤ R.cells ∧ slots + rm.slots ≤ R.slots) ∧ As.length = n) (hrs : (rest.map fun v => v.category).sum ≤ 8)
    (kk : ∀ (v : Option Value) (h' : Nat → va_E), post v h' → Ev k G nL N' (cells + rm.cells) (slots + rm.slots) h' (pc + 5) L (v.toList ++ rest)) : Ev k G nL N cells slots h pc L st := by
  intro H locs ls hH hS hL
  subst hst
  have hRk := X.R
  obtain ⟨c1, c2, c3, c4, c5, c6, c7, c8⟩ := hC
  have hF := X.tb.2.2.1 _ c8
  have cw : va_CI (k_R k) (k_s k) (k_a k) own C idx x y cy mL ret [Cond.code y cy mL ret] rm rm.cells rm.slots n :=
    ⟨⟨rfl, rfl, by rw [hRk]; exact hR.1.1, by rw [hRk]; exact hR.1.2, cs_w X.tb c1, List.mem_singleton.mpr rfl⟩, X.tb.word c5 gw_link _, va_any rfl hF.1, va_any rfl hF.2.1, X.tb.word c6 gw_sel _, X.tb.word c7 gw_inst _, va_any rfl hF.2.2.1, va_any rfl hF.2.2.2.1, va_any rfl hF.2.2.2.2, X.tb.word c2 gw_init _, X.tb.word c1 gw_code _, c3, cs_n c4⟩
  exact run5_after (va_runF (C := C) (Ts := []) (rest := rest) (As := As) (X.tb.K.1 ci _ hcl).2 ⟨X.1, X.2.1, X.2.2.1, X.own, fun w h9 => by cases h9⟩ hM cw ⟨ct_blind, va_recv X.tb.K (hH.one hi hc) (ci := ci) (q0 := 0) hcl rfl, fun U hU hW => ⟨rfl, by rw [hU]; exact hH, X.tb.moved hW⟩⟩ rfl hR.2.2 hL.1 rfl (lv_room hrs) hd (by rw [hRk]; exact hR.2.1)) hS hL kk
theorem e_mmax (X : Cx k G own cc nL R) {idx : Nat} {x y : Int32} (hd : decode cc pc = .ok (.invokestatic idx, 3)) (hw : Cond.methodLink own idx Lib.Math.max.name ∈ lw_tbl ∧ Cond.static Lib.Math.max.name ∈ lw_tbl ∧ Cond.initialized "java/lang/Math" ∈ lw_tbl ∧ Cond.code Lib.Math.max.name Lib.Math.max.code 2 (some .int) ∈ lw_tbl) (hR : 1 ≤ R.frames ∧ (st.map fun v => v.category).sum + 13 ≤ R.locals ∧ cells ≤ R.cells ∧ slots ≤ R.slots) (kk : Ev k G nL N cells slots h (pc + 3) L (.int (if x < y then y else x) :: st)) : Ev k G nL N cells slots h pc L (.int y :: .int x :: st) := by
  intro H locs ls hH hS hL
  have hRk := X.R
  exact va_mmax X.1 X.2.1 (X.2.2.1.trans hL.1.symm) X.own (X.tb.word hw.1 gw_link _) (X.tb.word hw.2.1 gw_static _) (X.tb.word hw.2.2.1 gw_init _) (X.tb.word hw.2.2.2 gw_code _) (by rw [hRk]; exact hR.1) (by rw [hRk]; exact hR.2.1) (by rw [hRk]; exact hR.2.2.1) (by rw [hRk]; exact hR.2.2.2) hd (kk H locs ls hH hS hL)
/-- System.arraycopy between two char rows, which may be one -/
theorem e_ccopy (X : Cx k G own cc nL R) {idx i0 i1 n0 n1 sp dp n : Nat} {f g : Nat → Int32} (hd : decode cc pc = .ok (.invokestatic idx, 3)) (hw : Cond.methodLink own idx arraycopyName ∈ lw_tbl ∧ Cond.native arraycopyName ∈ lw_tbl ∧ Cond.static arraycopyName ∈ lw_tbl ∧ Cond.initialized "java/lang/System" ∈ lw_tbl) (hc0 : h i0 = cC G n0 f) (hi0 : i0 < N) (hc1 : h i1 = cC G n1 g) (hi1 : i1 < N) (hb0 : n0 < 2 ^ 31) (hb1 : n1 < 2 ^ 31) (h4 : sp + n ≤ n0) (h5 : dp + n ≤ n1) (hfit : ∀ i, i < n → fits .char (.int (f (sp + i))) = true)
    (hR : 1 ≤ R.frames ∧ (st.map fun v => v.category).sum + (nativeFrameWords "java/lang/System" "arraycopy" 5 + 11) ≤ R.locals) (kk : Ev k G nL N cells slots (hup h i1 (cC G n1 (va_cpy f g sp dp n))) (pc + 3) L st) : Ev k G nL N cells slots h pc L (.int (nI n) :: .int (nI dp) :: .ref (ad (g_b G) i1) :: .int (nI sp) :: .ref (ad (g_b G) i0) :: st) := by
  intro H locs ls hH hS hL T hT X1
  have hRk := X.R
  have hn' : n < 2 ^ 31 := by omega
  have hsp' : sp < 2 ^ 31 := by omega
  have hdp' : dp < 2 ^ 31 := by omega
  have hat0 : H[ad (g_b G) i0]? = some (vp_cell (g_C G) (n0, .inl f)) := hH.at hi0 hc0
  have hat1 : H[ad (g_b G) i1]? = some (vp_cell (g_C G) (n1, .inl g)) := hH.at hi1 hc1
  obtain ⟨-, k0, hk0, cm0, hkk0⟩ := (X.tb.K.2 0 _ rfl).1 n0 (fun j => .int (f j))
  obtain ⟨-, k1, hk1, cm1, hkk1⟩ := (X.tb.K.2 0 _ rfl).1 n1 (fun j => .int (g j))
  obtain ⟨vm', X', step⟩ := X1.arraycopy X.1 X.own (X.tb.word hw.1 gw_link _) (X.tb.word hw.2.1 gw_native _) (X.tb.word hw.2.2.1 gw_static _) (X.tb.word hw.2.2.2 gw_init _) (src := ad (g_b G) i0) (dst := ad (g_b G) i1) (cs := vp_cell (g_C G) (n0, .inl f)) (cd := vp_cell (g_C G) (n1, .inl g)) (srcPos := nI sp) (destPos := nI dp) (n := nI n) (by rw [hT]; exact hat0) (by rw [hT]; exact hat1)
    (fun _ h => by cases h) (fun _ h => by cases h) (fun h => by cases h) (fun h => by cases h) hk0 hk1 hkk0 hkk1 (by simp [refKind]) (nI_pos hsp') (nI_pos hdp') (nI_pos hn')
    (by rw [nI_toInt hsp', nI_toInt hn']; show ¬ _ > ((arrV (g_C G) n0 (fun j => .int (f j))).slots.size : Int); rw [arrV_size]; omega)
    (by rw [nI_toInt hdp', nI_toInt hn']; show ¬ _ > ((arrV (g_C G) n1 (fun j => .int (g j))).slots.size : Int); rw [arrV_size]; omega)
    (fun vm₁ _ i hi => by
      rw [nI_clamp hn'] at hi
      have e : (vp_cell (g_C G) (n0, .inl f)).slots.getD ((nI sp).toNatClampNeg + i) .null = .int (f (sp + i)) := by
        rw [nI_clamp hsp']
        show (arrV (g_C G) n0 (fun j => .int (f j))).slots.getD _ _ = _
        rw [Array.getD_eq_getD_getElem?, arrV_read _ _ (by omega)]
        rfl
      refine ⟨?_, ?_⟩
      · rw [e]
        exact hfit i hi
      · rw [e]
        exact trivial)
    (g := F0 (k_m k) pc ls (.int (nI n) :: .int (nI dp) :: .ref (ad (g_b G) i1) :: .int (nI sp) :: .ref (ad (g_b G) i0) :: st)) rfl (by rw [X.2.2.1]; exact hL.1) (rest := st) rfl (by rw [X.2.1]; exact hd) (by rw [hRk]; exact hR.1) (by rw [hRk]; show 2 * 0 + _ + _ ≤ _; omega)
  have e1 : copied (vp_cell (g_C G) (n0, .inl f)) (vp_cell (g_C G) (n1, .inl g)) (nI sp) (nI dp) (nI n) = vp_cell (g_C G) (n1, .inl (va_cpy f g sp dp n)) := by
    have h9 := va_copied (fun z => Value.int z) (g_C G) (g_C G) (n0 := n0) (n1 := n1) (sp := sp) (dp := dp) (n := n) f g h4
    show (arrV (g_C G) n1 (fun j => Value.int (g j))).storeRun (nI dp).toNatClampNeg ((arrV (g_C G) n0 (fun j => Value.int (f j))).stretch (nI sp).toNatClampNeg (nI n).toNatClampNeg) = _
    rw [nI_clamp hsp', nI_clamp hn', nI_clamp hdp']
    exact h9
  rw [e1] at X' step
  have hl : ad (g_b G) i1 < H.size := (Array.getElem?_eq_some_iff.mp hat1).1
  have hheap : ((T.setVm vm').setCell (ad (g_b G) i1) (vp_cell (g_C G) (n1, .inl (va_cpy f g sp dp n)))).heap = H.setIfInBounds (ad (g_b G) i1) (vp_cell (g_C G) (n1, .inl (va_cpy f g sp dp n))) := by rw [← hT]; rfl
  have oq : ∀ q : Nat, q ≠ ad (g_b G) i1 → (H.setIfInBounds (ad (g_b G) i1) (vp_cell (g_C G) (n1, .inl (va_cpy f g sp dp n))))[q]? = H[q]? := fun q hq => by simp [Array.getElem?_setIfInBounds, Ne.symm hq]
  obtain ⟨t, a1, b1⟩ := kk _ _ ls (hH.write (show (H.setIfInBounds (ad (g_b G) i1) _)[ad (g_b G) i1]? = some _ by simp [Array.getElem?_setIfInBounds, hl]) (by simp) oq) ⟨by simp; exact hS.1, fun q g1 g2 => by
      rw [oq q (fun e => g2 (by rw [e]; exact Nat.le_add_right _ _))]
      exact hS.2.1 q g1 g2, fun q hq => by
      rcases List.mem_append.mp hq with h9 | h9
      · exact hS.2.2 q h9
      · obtain ⟨z, -, hz⟩ := List.mem_map.mp h9
        rw [← hz]
        exact Nat.le_add_right _ _⟩ hL _ hheap X'
  exact ⟨t, step t a1, b1⟩
end EC
