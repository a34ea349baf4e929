/-! THE LAYER: the heap from the address b on is a family of N cells, cell i at b + i. -/
def ad (b i : Nat) : Nat := b + i
theorem ad_inj {b i j : Nat} (h : ad b i = ad b j) : i = j := Nat.add_left_cancel h
def hup (h : Nat → va_E) (i : Nat) (e : va_E) : Nat → va_E := fun j => if j = i then e else h j
theorem hup_eq (h : Nat → va_E) (i : Nat) (e : va_E) : hup h i e i = e := if_pos rfl
theorem hup_ne {h : Nat → va_E} {i j : Nat} {e : va_E} (hn : j ≠ i) : hup h i e j = h j := if_neg hn
/-- D (numbers of the classes), the array classes char[], int[], boolean[], Text[], RowText[], and b -/
abbrev lx_G : Type := va_G × ClassId × ClassId × ClassId × ClassId × ClassId × Nat
abbrev g_D (G : lx_G) : va_G := G.1
abbrev g_C (G : lx_G) : ClassId := G.2.1
abbrev g_I (G : lx_G) : ClassId := G.2.2.1
abbrev g_Z (G : lx_G) : ClassId := G.2.2.2.1
abbrev g_T (G : lx_G) : ClassId := G.2.2.2.2.1
abbrev g_R (G : lx_G) : ClassId := G.2.2.2.2.2.1
abbrev g_b (G : lx_G) : Nat := G.2.2.2.2.2.2
def g_ty (G : lx_G) : List (ClassId × FieldType) := [(g_C G, .char), (g_I G, .int), (g_Z G, .boolean), (g_T G, .object nm_Text), (g_R G, .object nm_Row)]
def ob (ci : Nat) (fs : List Value) : va_E := .inr (ci, fs)
def cC (G : lx_G) (n : Nat) (f : Nat → Int32) : va_E := .inl (g_C G, n, .inl f)
def cI (G : lx_G) (n : Nat) (f : Nat → Int32) : va_E := .inl (g_I G, n, .inl f)
def cZ (G : lx_G) (n : Nat) (f : Nat → Int32) : va_E := .inl (g_Z G, n, .inl f)
def cT (G : lx_G) (n : Nat) (f : Nat → Option Nat) : va_E := .inl (g_T G, n, .inr (.inr (.inr (.inr f))))
def cR (G : lx_G) (n : Nat) (f : Nat → Option Nat) : va_E := .inl (g_R G, n, .inr (.inr (.inr (.inr f))))
def Hp (G : lx_G) (N : Nat) (h : Nat → va_E) (H : Heap) : Prop := H.size = g_b G + N ∧ ∀ i, i < N → va_at (g_D G) vwCl (ad (g_b G) i, h i) H
theorem Hp.write {G : lx_G} {N i : Nat} {h : Nat → va_E} {H H1 : Heap} {e : va_E} (hH : Hp G N h H) (he : va_at (g_D G) vwCl (ad (g_b G) i, e) H1) (z : H1.size = H.size) (oq : ∀ q : Nat, q ≠ ad (g_b G) i → H1[q]? = H[q]?) : Hp G N (hup h i e) H1 := by
  refine ⟨z.trans hH.1, fun j hj => ?_⟩
  by_cases hji : j = i
  · subst hji
    rw [hup_eq]
    exact he
  · rw [hup_ne hji]
    exact (hH.2 j hj).kept (oq _ (fun q => hji (ad_inj q)))
theorem Hp.push {G : lx_G} {N : Nat} {h : Nat → va_E} {H H1 : Heap} {e : va_E} (hH : Hp G N h H) (he : va_at (g_D G) vwCl (ad (g_b G) N, e) H1) (z : H1.size = H.size + 1) (oq : ∀ q : Nat, q < H.size → H1[q]? = H[q]?) : Hp G (N + 1) (hup h N e) H1 := by
  refine ⟨by rw [z, hH.1]; omega, fun j hj => ?_⟩
  by_cases hji : j = N
  · subst hji
    rw [hup_eq]
    exact he
  · rw [hup_ne hji]
    exact (hH.2 j (by omega)).kept (oq _ (by rw [hH.1]; show g_b G + j < _; omega))
theorem Hp.one {G : lx_G} {N i : Nat} {h : Nat → va_E} {H : Heap} {e : va_E} (hH : Hp G N h H) (hi : i < N) (he : h i = e) : va_P (g_D G) vwCl [(ad (g_b G) i, e)] H := by
  intro k q hq
  have hk : k < 1 := (List.getElem?_eq_some_iff.mp hq).1
  have : k = 0 := by omega
  subst this
  cases hq
  rw [← he]
  exact hH.2 i hi
theorem Hp.at {G : lx_G} {N i : Nat} {h : Nat → va_E} {H : Heap} {e : va_E} (hH : Hp G N h H) (hi : i < N) (he : h i = e) : va_at (g_D G) vwCl (ad (g_b G) i, e) H := he ▸ hH.2 i hi
/-! the words of the tables, as the methods need them -/
def isNest : Cond → Bool
  | .methodLinkNest .. => true
  | .fieldLinkNest .. => true
  | .castable .. => true
  | _ => false
theorem isNest_on {w : Cond} (h : isNest w = true) : w.onTables = true := by
  cases w <;> first | rfl | (simp [isNest] at h)
def Tb (G : lx_G) (U : State) : Prop := (∀ w ∈ lw_tbl, goodWord w = true → w.before #[] U = true) ∧ (∀ w ∈ lw_tbl, isNest w = true → va_Nw w U) ∧ (∀ q ∈ fwl, va_Fw q.1 q.2.1 q.2.2 U) ∧ va_K (g_D G) vwCl (g_ty G) U ∧ va_AO nm_Text U ∧ va_AO nm_Row U
theorem Tb.moved {G : lx_G} {s U : State} (hW : s.WarmedH U.vm) (h : Tb G s) : Tb G U := by
  obtain ⟨h1, h2, h3, h4, h5, h6⟩ := h
  refine ⟨fun w hw hg => word_at hW (good_of_word hg) (h1 w hw hg), fun w hw hn => ?_, fun q hq => va_Fw.moved (fwl_ok q hq) hW.alike (h3 q hq), va_K.moved hW.alike h4, va_AO.moved hW.alike h5, va_AO.moved hW.alike h6⟩
  have h9 := h2 w hw hn
  cases w <;> first | exact va_Nw.warmM hW h9 | exact va_Nw.warmF hW h9 | exact va_Nw.warmC hW h9 | (simp [isNest] at hn)
theorem Tb.word {G : lx_G} {s : State} (h : Tb G s) {w : Cond} (hw : w ∈ lw_tbl) (hg : goodWord w = true) (args : Array Value) : w.before args s = true := word_at (State.WarmedH.refl s) (good_of_word hg) (h.1 w hw hg)
theorem Tb.later {G : lx_G} {s : State} (h : Tb G s) {w : Cond} (hw : w ∈ lw_tbl) (hg : goodWord w = true) : ∀ (a' : Array Value) (U : State), s.WarmedH U.vm → w.before a' U = true := fun _ _ hW => word_at hW (good_of_word hg) (h.1 w hw hg)
theorem Tb.lay {G : lx_G} {s : State} (h : Tb G s) {C : String} {T : u_T} {n : Nat} (hin : ∀ w ∈ u_ws C T n, w ∈ lw_tbl) (hg : ∀ w ∈ u_ws C T n, goodWord w = true) (args : Array Value) : ∀ w ∈ u_ws C T n, w.before args s = true := fun w hw => h.word (hin w hw) (hg w hw) args
/-! the locals -/
def LR (ls : Array Slot) (nL : Nat) (L : List (Option Value)) : Prop := ls.size = nL ∧ lv_wf ls ∧ ∀ (i : Nat) (v : Value), L[i]? = some (some v) → ls[i]? = some (.val v) ∧ v.category = 1
theorem LR.at {ls : Array Slot} {nL : Nat} {L : List (Option Value)} (h : LR ls nL L) {i : Nat} {v : Value} (hi : L[i]? = some (some v)) : ls[i]? = some (.val v) := (h.2.2 i v hi).1
def l_as (L : List (Option Value)) : List (Nat × Value) := (List.range L.length).filterMap (fun j => (L[j]?.join).map (fun v => (j, v)))
theorem l_as_mem {L : List (Option Value)} {q : Nat × Value} : q ∈ l_as L ↔ L[q.1]? = some (some q.2) := by
  unfold l_as
  rw [List.mem_filterMap]
  constructor
  · rintro ⟨j, hj, h⟩
    cases hx : L[j]? with
    | none => rw [hx] at h; simp at h
    | some o =>
      cases o with
      | none => rw [hx] at h; simp at h
      | some v =>
        rw [hx] at h
        simp at h
        subst h
        exact hx
  · intro h
    refine ⟨q.1, List.mem_range.mpr (List.getElem?_eq_some_iff.mp h).1, ?_⟩
    rw [h]
    rfl
theorem LR.has {ls : Array Slot} {nL : Nat} {L : List (Option Value)} (h : LR ls nL L) : lv_has ls nL (l_as L) := ⟨h.1, h.2.1, fun q hq => (h.2.2 q.1 q.2 (l_as_mem.mp hq)).1⟩
theorem LR.back {ls ls' : Array Slot} {nL i : Nat} {v : Value} {L : List (Option Value)} (h : LR ls nL L) (hv : v.category = 1) (h' : lv_has ls' nL ((i, v) :: (l_as L).filter (fun q => !(q.1 == i) && !(q.1 + 1 == i && q.2.category == 2)))) : LR ls' nL (L.set i (some v)) := by
  refine ⟨h'.1, h'.2.1, fun j w hj => ?_⟩
  by_cases hji : j = i
  · subst hji
    have hl : j < L.length := by
      have := (List.getElem?_eq_some_iff.mp hj).1
      rwa [List.length_set] at this
    rw [List.getElem?_set_self hl] at hj
    cases hj
    exact ⟨h'.2.2 (j, v) List.mem_cons_self, hv⟩
  · rw [List.getElem?_set_ne (Ne.symm hji)] at hj
    have hw := (h.2.2 j w hj).2
    refine ⟨h'.2.2 (j, w) (List.mem_cons_of_mem _ (List.mem_filter.mpr ⟨l_as_mem.mpr hj, ?_⟩)), hw⟩
    simp [hji, hw]
theorem lv_args_mem : ∀ (vs : List Value) (k : Nat), (∀ v ∈ vs, v.category = 1) → ∀ (i : Nat) (v : Value), vs[i]? = some v → (k + i, v) ∈ lv_args k vs
  | [], _, _, i, v, h => by simp at h
  | a :: vs, k, hc, i, v, h => by
    have ha : a.category = 1 := hc a List.mem_cons_self
    have hn : ¬ a.category = 2 := by omega
    cases i with
    | zero =>
      rw [List.getElem?_cons_zero] at h
      cases h
      exact List.mem_cons_self
    | succ i =>
      rw [List.getElem?_cons_succ] at h
      have := lv_args_mem vs (k + 1) (fun w hw => hc w (List.mem_cons_of_mem _ hw)) i v h
      rw [show k + 1 + i = k + (i + 1) by omega] at this
      show (k + (i + 1), v) ∈ (k, a) :: lv_args (if a.category = 2 then k + 2 else k + 1) vs
      rw [if_neg hn]
      exact List.mem_cons_of_mem _ this
def l_in (av : List Value) (n : Nat) : List (Option Value) := av.map some ++ List.replicate (n - av.length) none
theorem LR.entry (av : List Value) {n : Nat} (hl : (lg_sl av).length ≤ n) (hc : ∀ v ∈ av, v.category = 1) : LR ((lg_sl av ++ List.replicate (n - (lg_sl av).length) Slot.unset).toArray) n (l_in av n) := by
  have h := lv_entry av hl
  refine ⟨h.1, h.2.1, fun i v hi => ?_⟩
  have hav : av[i]? = some v := by
    unfold l_in at hi
    by_cases hlt : i < av.length
    · rw [List.getElem?_append_left (by simpa using hlt), List.getElem?_map] at hi
      cases hx : av[i]? with
      | none => rw [hx] at hi; simp at hi
      | some w => rw [hx] at hi; simp at hi; rw [hi]
    · rw [List.getElem?_append_right (by simp; omega)] at hi
      have := List.eq_of_mem_replicate (List.mem_of_getElem? hi)
      cases this
  have hm := lv_args_mem av 0 hc i v hav
  rw [Nat.zero_add] at hm
  exact ⟨h.2.2 (i, v) hm, hc v (List.mem_of_getElem? hav)⟩
/-! THE JUDGEMENT -/
abbrev lx_K : Type := Program × Launch × Env × Room × State × MethodId × Array Value × List Frame × Method × Code × (State → Prop)
abbrev k_p (k : lx_K) : Program := k.1
abbrev k_l (k : lx_K) : Launch := k.2.1
abbrev k_e (k : lx_K) : Env := k.2.2.1
abbrev k_R (k : lx_K) : Room := k.2.2.2.1
abbrev k_s (k : lx_K) : State := k.2.2.2.2.1
abbrev k_m (k : lx_K) : MethodId := k.2.2.2.2.2.1
abbrev k_a (k : lx_K) : Array Value := k.2.2.2.2.2.2.1
abbrev k_b (k : lx_K) : List Frame := k.2.2.2.2.2.2.2.1
abbrev k_M (k : lx_K) : Method := k.2.2.2.2.2.2.2.2.1
abbrev k_c (k : lx_K) : Code := k.2.2.2.2.2.2.2.2.2.1
abbrev k_Q (k : lx_K) : State → Prop := k.2.2.2.2.2.2.2.2.2.2
def Ev (k : lx_K) (G : lx_G) (nL N cells slots : Nat) (h : Nat → va_E) (pc : Nat) (L : List (Option Value)) (st : List Value) : Prop :=
  ∀ (H : Heap) (locs : List Loc) (ls : Array Slot), Hp G N h H → va_S (fun q => g_b G ≤ q) (k_s k).heap H locs → LR ls nL L →
    W (k_p k) (k_l k) (k_e k) (k_R k) (k_s k) (k_m k) (k_a k) (k_b k) (k_M k) (k_c k) H locs cells slots (k_Q k) (F0 (k_m k) pc ls st)
/-- what a method's walk may use -/
def Cx (k : lx_K) (G : lx_G) (own : String) (cc : ByteArray) (nL : Nat) (R : Room) : Prop :=
  (k_p k).tables.exec = Jvm.exec ∧ (k_c k).code = cc ∧ (k_c k).maxLocals = nL ∧ (k_s k).vm.findClass own = some (k_m k).cls ∧ Tb G (k_s k) ∧ g_b G ≤ (k_s k).heap.size ∧ k_R k = R
/-- a contract's end -/
def cq (G : lx_G) (N' : Nat) (post : Option Value → (Nat → va_E) → Prop) : Array Value → State → Outcome → State → Prop := fun _ st oc t =>
  (∃ (v : Option Value) (h' : Nat → va_E), oc = .returned v ∧ post v h' ∧ Hp G N' h' t.heap) ∧ va_F (fun q => g_b G ≤ q) st t
def Rt (k : lx_K) (G : lx_G) (ret : Option FieldType) (N' mc ms : Nat) (post : Option Value → (Nat → va_E) → Prop) : Prop :=
  k_Q k = MQ (k_b k) (cq G N' post) (k_a k) (k_s k) mc ms (fun q => g_b G ≤ q) ∧ (k_M k).sig.returnType = ret ∧ (k_M k).locks = false
/-- a contract: y, called with av in the heap h of N cells, returns v and the heap h' of N' cells, with 'post v h'' -/
def Ct (l : Launch) (G : lx_G) (y : MethodName) (cc : ByteArray) (nL : Nat) (ret : Option FieldType) (rm : Room) (N N' : Nat) (av : List Value) (h : Nat → va_E) (post : Option Value → (Nat → va_E) → Prop) : Prop :=
  Met l y [Cond.code y cc nL ret] rm (va_Pc av (fun U => Hp G N h U.heap ∧ Tb G U)) (cq G N' post) rm.cells rm.slots (fun q => g_b G ≤ q)
theorem ct_blind {G : lx_G} {N : Nat} {h : Nat → va_E} {av : List Value} : FrameBlind (va_Pc av (fun U => Hp G N h U.heap ∧ Tb G U)) := fun a U g mk q => ⟨q.1, q.2.1, Tb.moved (s := U) (U := U.calling g mk a) (State.WarmedH.refl U) q.2.2⟩
theorem ct_of {l : Launch} {G : lx_G} {y : MethodName} {cc : ByteArray} {nL : Nat} {ret : Option FieldType} {rm : Room} {N N' : Nat} {av : List Value} {h : Nat → va_E} {post : Option Value → (Nat → va_E) → Prop}
    (hy : plainName y.cls = true) (hl : (lg_sl av).length ≤ nL) (hc : ∀ v ∈ av, v.category = 1)
    (body : ∀ k : lx_K, Cx k G y.cls cc nL rm → Rt k G ret N' rm.cells rm.slots post → (k_M k).name = y.name → Ev k G nL N 0 0 h 0 (l_in av nL) []) : Ct l G y cc nL ret rm N N' av h post := by
  refine Met.ofW (cc := cc) (maxL := nL) (ret := ret) hy rfl ?_
  intro p e s m args below meth c s₁ B hml hv
  obtain ⟨rfl, hH, hT⟩ := hv
  have hb : g_b G ≤ s.heap.size := by rw [hH.1]; omega
  have K := body (p, l, e, rm, s, m, av.toArray, below, meth, c, MQ below (cq G N' post) av.toArray s rm.cells rm.slots (fun q => g_b G ≤ q)) ⟨B.exec, B.bytes, hml, findClass_of_methodNamed B.named, hT, hb, rfl⟩ ⟨rfl, B.returns, B.notSynchronized⟩ (name_of_methodNamed B.named B.method).1
  have W0 := K s.heap [] _ hH va_S.rf (LR.entry av hl hc)
  rw [lg_entry_eq]
  exact W0
section EV
variable {k : lx_K} {G : lx_G} {own : String} {cc : ByteArray} {nL N cells slots pc : Nat} {R : Room} {h : Nat → va_E} {L : List (Option Value)} {st : List Value}

theorem e_iconst (X : Cx k G own cc nL R) {n : Int} {v : Int32} (hd : decode cc pc = .ok (.iconst n, 1)) (hv : Int32.ofInt n = v) (kk : Ev k G nL N cells slots h (pc + 1) L (.int v :: st)) : Ev k G nL N cells slots h pc L st := fun H locs ls hH hS hL => lv_iconst X.1 X.2.1 hd hv (kk H locs ls hH hS hL)
theorem e_bipush (X : Cx k G own cc nL R) {n : Int} {v : Int32} (hd : decode cc pc = .ok (.bipush n, 2)) (hv : (Int8.ofInt n).toInt32 = v) (kk : Ev k G nL N cells slots h (pc + 2) L (.int v :: st)) : Ev k G nL N cells slots h pc L st := fun H locs ls hH hS hL => lv_bipush X.1 X.2.1 hd hv (kk H locs ls hH hS hL)
theorem e_sipush (X : Cx k G own cc nL R) {n : Int} {v : Int32} (hd : decode cc pc = .ok (.sipush n, 3)) (hv : (Int16.ofInt n).toInt32 = v) (kk : Ev k G nL N cells slots h (pc + 3) L (.int v :: st)) : Ev k G nL N cells slots h pc L st := fun H locs ls hH hS hL => lv_sipush X.1 X.2.1 hd hv (kk H locs ls hH hS hL)
theorem e_ldc (X : Cx k G own cc nL R) {index : Nat} {v : Int32} (hd : decode cc pc = .ok (.ldc index, 2)) (hw : Cond.constant own index v ∈ lw_tbl) (hg : goodWord (Cond.constant own index v) = true) (kk : Ev k G nL N cells slots h (pc + 2) L (.int v :: st)) : Ev k G nL N cells slots h pc L st := fun H locs ls hH hS hL => lv_ldc X.1 X.2.1 X.2.2.2.1 (X.2.2.2.2.1.word hw hg _) hd (kk H locs ls hH hS hL)
theorem e_iload_n (X : Cx k G own cc nL R) {j : Fin 4} {x : Int32} (hd : decode cc pc = .ok (.iload_n j, 1)) (hl : L[(j : Nat)]? = some (some (.int x))) (kk : Ev k G nL N cells slots h (pc + 1) L (.int x :: st)) : Ev k G nL N cells slots h pc L st := fun H locs ls hH hS hL => lv_iload_n X.1 X.2.1 hd rfl (hL.at hl) (kk H locs ls hH hS hL)
theorem e_iload (X : Cx k G own cc nL R) {j : Nat} {x : Int32} (hd : decode cc pc = .ok (.iload j, 2)) (hl : L[j]? = some (some (.int x))) (kk : Ev k G nL N cells slots h (pc + 2) L (.int x :: st)) : Ev k G nL N cells slots h pc L st := fun H locs ls hH hS hL => lv_iload X.1 X.2.1 hd (hL.at hl) (kk H locs ls hH hS hL)
theorem e_istore_n (X : Cx k G own cc nL R) {j : Fin 4} {x : Int32} (hd : decode cc pc = .ok (.istore_n j, 1)) (hj : (j : Nat) < nL) (kk : Ev k G nL N cells slots h (pc + 1) (L.set (j : Nat) (some (.int x))) st) : Ev k G nL N cells slots h pc L (.int x :: st) := fun H locs ls hH hS hL => lv_istore_n X.1 X.2.1 hd rfl hL.has hj rfl (fun ls' h9 => kk H locs ls' hH hS (hL.back rfl h9))
theorem e_istore (X : Cx k G own cc nL R) {j : Nat} {x : Int32} (hd : decode cc pc = .ok (.istore j, 2)) (hj : j < nL) (kk : Ev k G nL N cells slots h (pc + 2) (L.set j (some (.int x))) st) : Ev k G nL N cells slots h pc L (.int x :: st) := fun H locs ls hH hS hL => lv_istore X.1 X.2.1 hd hL.has hj rfl (fun ls' h9 => kk H locs ls' hH hS (hL.back rfl h9))
theorem e_aload_n (X : Cx k G own cc nL R) {j : Fin 4} {x : Nat} (hd : decode cc pc = .ok (.aload_n j, 1)) (hl : L[(j : Nat)]? = some (some (.ref x))) (kk : Ev k G nL N cells slots h (pc + 1) L (.ref x :: st)) : Ev k G nL N cells slots h pc L st := fun H locs ls hH hS hL => lv_aload_n X.1 X.2.1 hd rfl (hL.at hl) (kk H locs ls hH hS hL)
theorem e_aload (X : Cx k G own cc nL R) {j : Nat} {x : Nat} (hd : decode cc pc = .ok (.aload j, 2)) (hl : L[j]? = some (some (.ref x))) (kk : Ev k G nL N cells slots h (pc + 2) L (.ref x :: st)) : Ev k G nL N cells slots h pc L st := fun H locs ls hH hS hL => lv_aload X.1 X.2.1 hd (hL.at hl) (kk H locs ls hH hS hL)
theorem e_astore_n (X : Cx k G own cc nL R) {j : Fin 4} {x : Nat} (hd : decode cc pc = .ok (.astore_n j, 1)) (hj : (j : Nat) < nL) (kk : Ev k G nL N cells slots h (pc + 1) (L.set (j : Nat) (some (.ref x))) st) : Ev k G nL N cells slots h pc L (.ref x :: st) := fun H locs ls hH hS hL => lv_astore_n X.1 X.2.1 hd rfl hL.has hj rfl (fun ls' h9 => kk H locs ls' hH hS (hL.back rfl h9))
theorem e_astore (X : Cx k G own cc nL R) {j : Nat} {x : Nat} (hd : decode cc pc = .ok (.astore j, 2)) (hj : j < nL) (kk : Ev k G nL N cells slots h (pc + 2) (L.set j (some (.ref x))) st) : Ev k G nL N cells slots h pc L (.ref x :: st) := fun H locs ls hH hS hL => lv_astore X.1 X.2.1 hd hL.has hj rfl (fun ls' h9 => kk H locs ls' hH hS (hL.back rfl h9))
theorem e_iinc (X : Cx k G own cc nL R) {j : Nat} {n : Int} {x v : Int32} (hd : decode cc pc = .ok (.iinc j n, 3)) (hl : L[j]? = some (some (.int x))) (hv : x + Int32.ofInt n = v) (hj : j < nL) (kk : Ev k G nL N cells slots h (pc + 3) (L.set j (some (.int v))) st) : Ev k G nL N cells slots h pc L st := by
  intro H locs ls hH hS hL
  obtain ⟨p9, hp9⟩ := List.getElem?_of_mem (l_as_mem.mpr (show L[((j, Value.int x) : Nat × Value).1]? = some (some ((j, Value.int x) : Nat × Value).2) from hl))
  exact lv_iinc X.1 X.2.1 hd hL.has hp9 hv hj rfl (fun ls' h9 => kk H locs ls' hH hS (hL.back rfl h9))
theorem e_iadd (X : Cx k G own cc nL R) {x y : Int32} (hd : decode cc pc = .ok (.iadd, 1)) (kk : Ev k G nL N cells slots h (pc + 1) L (.int (x + y) :: st)) : Ev k G nL N cells slots h pc L (.int y :: .int x :: st) := fun H locs ls hH hS hL => lv_iadd X.1 X.2.1 hd (kk H locs ls hH hS hL)
theorem e_isub (X : Cx k G own cc nL R) {x y : Int32} (hd : decode cc pc = .ok (.isub, 1)) (kk : Ev k G nL N cells slots h (pc + 1) L (.int (x - y) :: st)) : Ev k G nL N cells slots h pc L (.int y :: .int x :: st) := fun H locs ls hH hS hL => lv_isub X.1 X.2.1 hd (kk H locs ls hH hS hL)
theorem e_imul (X : Cx k G own cc nL R) {x y : Int32} (hd : decode cc pc = .ok (.imul, 1)) (kk : Ev k G nL N cells slots h (pc + 1) L (.int (x * y) :: st)) : Ev k G nL N cells slots h pc L (.int y :: .int x :: st) := fun H locs ls hH hS hL => lv_imul X.1 X.2.1 hd (kk H locs ls hH hS hL)
theorem e_iand (X : Cx k G own cc nL R) {x y : Int32} (hd : decode cc pc = .ok (.iand, 1)) (kk : Ev k G nL N cells slots h (pc + 1) L (.int (x &&& y) :: st)) : Ev k G nL N cells slots h pc L (.int y :: .int x :: st) := fun H locs ls hH hS hL => lv_iand X.1 X.2.1 hd (kk H locs ls hH hS hL)
theorem e_irem (X : Cx k G own cc nL R) {x y : Int32} (hd : decode cc pc = .ok (.irem, 1)) (hne : ¬ y = 0) (kk : Ev k G nL N cells slots h (pc + 1) L (.int (x - x / y * y) :: st)) : Ev k G nL N cells slots h pc L (.int y :: .int x :: st) := fun H locs ls hH hS hL => lv_irem X.1 X.2.1 hd hne (kk H locs ls hH hS hL)
theorem e_i2c (X : Cx k G own cc nL R) {x v : Int32} (hd : decode cc pc = .ok (.i2c, 1)) (hv : (x.toUInt32 % 65536).toInt32 = v) (kk : Ev k G nL N cells slots h (pc + 1) L (.int v :: st)) : Ev k G nL N cells slots h pc L (.int x :: st) := fun H locs ls hH hS hL => lv_i2c X.1 X.2.1 hd hv (kk H locs ls hH hS hL)
theorem e_dup (X : Cx k G own cc nL R) {va : Value} (hd : decode cc pc = .ok (.dup, 1)) (hc : va.category = 1) (kk : Ev k G nL N cells slots h (pc + 1) L (va :: va :: st)) : Ev k G nL N cells slots h pc L (va :: st) := fun H locs ls hH hS hL => lv_dup X.1 X.2.1 hd hc (kk H locs ls hH hS hL)
theorem e_pop (X : Cx k G own cc nL R) {va : Value} (hd : decode cc pc = .ok (.pop, 1)) (hc : va.category = 1) (kk : Ev k G nL N cells slots h (pc + 1) L st) : Ev k G nL N cells slots h pc L (va :: st) := fun H locs ls hH hS hL => lv_pop X.1 X.2.1 hd hc (kk H locs ls hH hS hL)
theorem e_top {x y : Int32} (hv : x = y) (kk : Ev k G nL N cells slots h pc L (.int y :: st)) : Ev k G nL N cells slots h pc L (.int x :: st) := hv ▸ kk
theorem e_goto (X : Cx k G own cc nL R) {off : Int} {tgt : Nat} (hd : decode cc pc = .ok (.goto off, 3)) (ht : (pc : Int) + off = (tgt : Int)) (kk : Ev k G nL N cells slots h tgt L st) : Ev k G nL N cells slots h pc L st := fun H locs ls hH hS hL => lv_goto X.1 X.2.1 hd ht (kk H locs ls hH hS hL)
theorem e_if_eq (X : Cx k G own cc nL R) {x : Int32} {off : Int} {tgt : Nat} (hd : decode cc pc = .ok (.ifCond .eq off, 3)) (ht : (pc : Int) + off = (tgt : Int)) (kt : x = 0 → Ev k G nL N cells slots h tgt L st) (kf : ¬ (x = 0) → Ev k G nL N cells slots h (pc + 3) L st) : Ev k G nL N cells slots h pc L (.int x :: st) := fun H locs ls hH hS hL => lv_if_eq X.1 X.2.1 hd ht (fun c9 => kt c9 H locs ls hH hS hL) (fun c9 => kf c9 H locs ls hH hS hL)
theorem e_icmp_eq (X : Cx k G own cc nL R) {x y : Int32} {off : Int} {tgt : Nat} (hd : decode cc pc = .ok (.if_icmp .eq off, 3)) (ht : (pc : Int) + off = (tgt : Int)) (kt : x = y → Ev k G nL N cells slots h tgt L st) (kf : ¬ (x = y) → Ev k G nL N cells slots h (pc + 3) L st) : Ev k G nL N cells slots h pc L (.int y :: .int x :: st) := fun H locs ls hH hS hL => lv_icmp_eq X.1 X.2.1 hd ht (fun c9 => kt c9 H locs ls hH hS hL) (fun c9 => kf c9 H locs ls hH hS hL)
theorem e_if_ne (X : Cx k G own cc nL R) {x : Int32} {off : Int} {tgt : Nat} (hd : decode cc pc = .ok (.ifCond .ne off, 3)) (ht : (pc : Int) + off = (tgt : Int)) (kt : ¬ x = 0 → Ev k G nL N cells slots h tgt L st) (kf : x = 0 → Ev k G nL N cells slots h (pc + 3) L st) : Ev k G nL N cells slots h pc L (.int x :: st) := fun H locs ls hH hS hL => lv_if_ne X.1 X.2.1 hd ht (fun c9 => kt c9 H locs ls hH hS hL) (fun c9 => kf c9 H locs ls hH hS hL)
theorem e_icmp_ne (X : Cx k G own cc nL R) {x y : Int32} {off : Int} {tgt : Nat} (hd : decode cc pc = .ok (.if_icmp .ne off, 3)) (ht : (pc : Int) + off = (tgt : Int)) (kt : ¬ x = y → Ev k G nL N cells slots h tgt L st) (kf : x = y → Ev k G nL N cells slots h (pc + 3) L st) : Ev k G nL N cells slots h pc L (.int y :: .int x :: st) := fun H locs ls hH hS hL => lv_icmp_ne X.1 X.2.1 hd ht (fun c9 => kt c9 H locs ls hH hS hL) (fun c9 => kf c9 H locs ls hH hS hL)
theorem e_if_lt (X : Cx k G own cc nL R) {x : Int32} {off : Int} {tgt : Nat} (hd : decode cc pc = .ok (.ifCond .lt off, 3)) (ht : (pc : Int) + off = (tgt : Int)) (kt : x < 0 → Ev k G nL N cells slots h tgt L st) (kf : ¬ (x < 0) → Ev k G nL N cells slots h (pc + 3) L st) : Ev k G nL N cells slots h pc L (.int x :: st) := fun H locs ls hH hS hL => lv_if_lt X.1 X.2.1 hd ht (fun c9 => kt c9 H locs ls hH hS hL) (fun c9 => kf c9 H locs ls hH hS hL)
theorem e_icmp_lt (X : Cx k G own cc nL R) {x y : Int32} {off : Int} {tgt : Nat} (hd : decode cc pc = .ok (.if_icmp .lt off, 3)) (ht : (pc : Int) + off = (tgt : Int)) (kt : x < y → Ev k G nL N cells slots h tgt L st) (kf : ¬ (x < y) → Ev k G nL N cells slots h (pc + 3) L st) : Ev k G nL N cells slots h pc L (.int y :: .int x :: st) := fun H locs ls hH hS hL => lv_icmp_lt X.1 X.2.1 hd ht (fun c9 => kt c9 H locs ls hH hS hL) (fun c9 => kf c9 H locs ls hH hS hL)
theorem e_if_ge (X : Cx k G own cc nL R) {x : Int32} {off : Int} {tgt : Nat} (hd : decode cc pc = .ok (.ifCond .ge off, 3)) (ht : (pc : Int) + off = (tgt : Int)) (kt : 0 ≤ x → Ev k G nL N cells slots h tgt L st) (kf : ¬ (0 ≤ x) → Ev k G nL N cells slots h (pc + 3) L st) : Ev k G nL N cells slots h pc L (.int x :: st) := fun H locs ls hH hS hL => lv_if_ge X.1 X.2.1 hd ht (fun c9 => kt c9 H locs ls hH hS hL) (fun c9 => kf c9 H locs ls hH hS hL)
theorem e_icmp_ge (X : Cx k G own cc nL R) {x y : Int32} {off : Int} {tgt : Nat} (hd : decode cc pc = .ok (.if_icmp .ge off, 3)) (ht : (pc : Int) + off = (tgt : Int)) (kt : y ≤ x → Ev k G nL N cells slots h tgt L st) (kf : ¬ (y ≤ x) → Ev k G nL N cells slots h (pc + 3) L st) : Ev k G nL N cells slots h pc L (.int y :: .int x :: st) := fun H locs ls hH hS hL => lv_icmp_ge X.1 X.2.1 hd ht (fun c9 => kt c9 H locs ls hH hS hL) (fun c9 => kf c9 H locs ls hH hS hL)
theorem e_if_gt (X : Cx k G own cc nL R) {x : Int32} {off : Int} {tgt : Nat} (hd : decode cc pc = .ok (.ifCond .gt off, 3)) (ht : (pc : Int) + off = (tgt : Int)) (kt : 0 < x → Ev k G nL N cells slots h tgt L st) (kf : ¬ (0 < x) → Ev k G nL N cells slots h (pc + 3) L st) : Ev k G nL N cells slots h pc L (.int x :: st) := fun H locs ls hH hS hL => lv_if_gt X.1 X.2.1 hd ht (fun c9 => kt c9 H locs ls hH hS hL) (fun c9 => kf c9 H locs ls hH hS hL)
theorem e_icmp_gt (X : Cx k G own cc nL R) {x y : Int32} {off : Int} {tgt : Nat} (hd : decode cc pc = .ok (.if_icmp .gt off, 3)) (ht : (pc : Int) + off = (tgt : Int)) (kt : y < x → Ev k G nL N cells slots h tgt L st) (kf : ¬ (y < x) → Ev k G nL N cells slots h (pc + 3) L st) : Ev k G nL N cells slots h pc L (.int y :: .int x :: st) := fun H locs ls hH hS hL => lv_icmp_gt X.1 X.2.1 hd ht (fun c9 => kt c9 H locs ls hH hS hL) (fun c9 => kf c9 H locs ls hH hS hL)
theorem e_if_le (X : Cx k G own cc nL R) {x : Int32} {off : Int} {tgt : Nat} (hd : decode cc pc = .ok (.ifCond .le off, 3)) (ht : (pc : Int) + off = (tgt : Int)) (kt : x ≤ 0 → Ev k G nL N cells slots h tgt L st) (kf : ¬ (x ≤ 0) → Ev k G nL N cells slots h (pc + 3) L st) : Ev k G nL N cells slots h pc L (.int x :: st) := fun H locs ls hH hS hL => lv_if_le X.1 X.2.1 hd ht (fun c9 => kt c9 H locs ls hH hS hL) (fun c9 => kf c9 H locs ls hH hS hL)
theorem e_icmp_le (X : Cx k G own cc nL R) {x y : Int32} {off : Int} {tgt : Nat} (hd : decode cc pc = .ok (.if_icmp .le off, 3)) (ht : (pc : Int) + off = (tgt : Int)) (kt : x ≤ y → Ev k G nL N cells slots h tgt L st) (kf : ¬ (x ≤ y) → Ev k G nL N cells slots h (pc + 3) L st) : Ev k G nL N cells slots h pc L (.int y :: .int x :: st) := fun H locs ls hH hS hL => lv_icmp_le X.1 X.2.1 hd ht (fun c9 => kt c9 H locs ls hH hS hL) (fun c9 => kf c9 H locs ls hH hS hL)
end EV
