/-! contracts by the kind of answer; a method is (name, code, locals, return type, room) -/
abbrev lx_M : Type := MethodName × ByteArray × Nat × Option FieldType × Room
abbrev m_y (M : lx_M) : MethodName := M.1
abbrev m_c (M : lx_M) : ByteArray := M.2.1
abbrev m_n (M : lx_M) : Nat := M.2.2.1
abbrev m_r (M : lx_M) : Option FieldType := M.2.2.2.1
abbrev m_R (M : lx_M) : Room := M.2.2.2.2
def pI (post : Int → (Nat → va_E) → Prop) : Option Value → (Nat → va_E) → Prop := fun v h' => ∃ z : Int, v = some (vI z) ∧ post z h'
def pV (post : (Nat → va_E) → Prop) : Option Value → (Nat → va_E) → Prop := fun v h' => v = none ∧ post h'
def pR (G : lx_G) (post : Nat → (Nat → va_E) → Prop) : Option Value → (Nat → va_E) → Prop := fun v h' => ∃ i : Nat, v = some (.ref (ad (g_b G) i)) ∧ post i h'
def CtI (l : Launch) (G : lx_G) (M : lx_M) (N : Nat) (av : List Value) (h : Nat → va_E) (post : Int → (Nat → va_E) → Prop) : Prop := Ct l G (m_y M) (m_c M) (m_n M) (m_r M) (m_R M) N N av h (pI post)
def CtV (l : Launch) (G : lx_G) (M : lx_M) (N : Nat) (av : List Value) (h : Nat → va_E) (post : (Nat → va_E) → Prop) : Prop := Ct l G (m_y M) (m_c M) (m_n M) (m_r M) (m_R M) N N av h (pV post)
def CtR (l : Launch) (G : lx_G) (M : lx_M) (N : Nat) (av : List Value) (h : Nat → va_E) (post : Nat → (Nat → va_E) → Prop) : Prop := Ct l G (m_y M) (m_c M) (m_n M) (m_r M) (m_R M) N N av h (pR G post)
/-- a constructor: N cells before, N' behind -/
def CtN (l : Launch) (G : lx_G) (M : lx_M) (N N' : Nat) (av : List Value) (h : Nat → va_E) (post : (Nat → va_E) → Prop) : Prop := Ct l G (m_y M) (m_c M) (m_n M) (m_r M) (m_R M) N N' av h (pV post)
/-- a post may be weakened -/
theorem Ct.mono {l : Launch} {G : lx_G} {y : MethodName} {cc : ByteArray} {nL : Nat} {ret : Option FieldType} {rm : Room} {N N' : Nat} {av : List Value} {h : Nat → va_E} {post post' : Option Value → (Nat → va_E) → Prop} (hC : Ct l G y cc nL ret rm N N' av h post) (hp : ∀ v h', post v h' → post' v h') : Ct l G y cc nL ret rm N N' av h post' := by
  intro p e ha hc hk s m args below hf happ hP hK
  obtain ⟨t, o, h1, h2, h3, ⟨⟨⟨v, h', e1, e2, e3⟩, e4⟩, e5⟩⟩ := hC p e ha hc hk s m args below hf happ hP hK
  exact ⟨t, o, h1, h2, h3, ⟨⟨⟨v, h', e1, hp v h' e2, e3⟩, e4⟩, e5⟩⟩
def rOKb (M : lx_M) (R : Room) (cells slots nst : Nat) : Bool := (Nat.ble ((m_R M).frames + 1) R.frames && Nat.ble (8 + (m_n M + 11) + (m_R M).locals) R.locals) && (Nat.ble (cells + (m_R M).cells) R.cells && Nat.ble (slots + (m_R M).slots) R.slots) && Nat.ble nst 8
theorem rOK_of {M : lx_M} {R : Room} {cells slots nst : Nat} (h : rOKb M R cells slots nst = true) : ((m_R M).frames + 1 ≤ R.frames ∧ 8 + (m_n M + 11) + (m_R M).locals ≤ R.locals) ∧ (cells + (m_R M).cells ≤ R.cells ∧ slots + (m_R M).slots ≤ R.slots) ∧ nst ≤ 8 := by
  simp only [rOKb, Bool.and_eq_true] at h
  obtain ⟨⟨⟨h1, h2⟩, h3, h4⟩, h5⟩ := h
  exact ⟨⟨Nat.le_of_ble_eq_true h1, Nat.le_of_ble_eq_true h2⟩, ⟨Nat.le_of_ble_eq_true h3, Nat.le_of_ble_eq_true h4⟩, Nat.le_of_ble_eq_true h5⟩
theorem cat_of {av : List Value} (h : av.all (fun v => Nat.beq v.category 1) = true) : ∀ v ∈ av, v.category = 1 := fun v hv => Nat.eq_of_beq_eq_true (List.all_eq_true.mp h v hv)
def CSM (own : String) (idx : Nat) (M : lx_M) (n : Nat) : Prop := CS own idx (m_y M) (m_c M) (m_n M) (m_r M) n
def CSS (own : String) (idx : Nat) (M : lx_M) (n : Nat) : Prop := CSM own idx M n ∧ Cond.static (m_y M) ∈ lw_tbl
def CVM (own : String) (idx : Nat) (M : lx_M) (ci n : Nat) : Prop := CSM own idx M n ∧ ∃ (C : String) (T : u_T) (nf : Nat), vwCl[ci]? = some (C, T, nf) ∧ Cond.instanceMethod (m_y M) ∈ lw_tbl ∧ Cond.selects C (m_y M) (m_y M) ∈ lw_tbl
def CIM (own : String) (idx : Nat) (M : lx_M) (n : Nat) : Prop := CSM own idx M n ∧ Cond.instanceMethod (m_y M) ∈ lw_tbl ∧ (m_y M).name = "<init>" ∧ m_r M = none
def CFM (own : String) (idx : Nat) (ci : Nat) (x : MethodName) (M : lx_M) (n : Nat) : Prop := ∃ (C : String) (T : u_T) (nf : Nat), vwCl[ci]? = some (C, T, nf) ∧ CF own idx C x (m_y M) (m_c M) (m_n M) (m_r M) n
section EK
variable {k : lx_K} {G : lx_G} {own : String} {cc : ByteArray} {nL N cells slots pc : Nat} {R : Room} {h : Nat → va_E} {L : List (Option Value)} {st : List Value}
theorem zI_of {l : Launch} {M : lx_M} {av : List Value} {post : Int → (Nat → va_E) → Prop} (hy : plainName (m_y M).cls = true) (hl : Nat.ble (lg_sl av).length (m_n M) = true) (hc : av.all (fun v => Nat.beq v.category 1) = true) (body : ∀ k : lx_K, Cx k G (m_y M).cls (m_c M) (m_n M) (m_R M) → Rt k G (m_r M) N (m_R M).cells (m_R M).slots (pI post) → Ev k G (m_n M) N 0 0 h 0 (l_in av (m_n M)) []) : CtI l G M N av h post := ct_of hy (Nat.le_of_ble_eq_true hl) (cat_of hc) (fun k X Q _ => body k X Q)
theorem zV_of {l : Launch} {M : lx_M} {av : List Value} {post : (Nat → va_E) → Prop} (hy : plainName (m_y M).cls = true) (hl : Nat.ble (lg_sl av).length (m_n M) = true) (hc : av.all (fun v => Nat.beq v.category 1) = true) (body : ∀ k : lx_K, Cx k G (m_y M).cls (m_c M) (m_n M) (m_R M) → Rt k G (m_r M) N (m_R M).cells (m_R M).slots (pV post) → Ev k G (m_n M) N 0 0 h 0 (l_in av (m_n M)) []) : CtV l G M N av h post := ct_of hy (Nat.le_of_ble_eq_true hl) (cat_of hc) (fun k X Q _ => body k X Q)
theorem zR_of {l : Launch} {M : lx_M} {av : List Value} {post : Nat → (Nat → va_E) → Prop} (hy : plainName (m_y M).cls = true) (hl : Nat.ble (lg_sl av).length (m_n M) = true) (hc : av.all (fun v => Nat.beq v.category 1) = true) (body : ∀ k : lx_K, Cx k G (m_y M).cls (m_c M) (m_n M) (m_R M) → Rt k G (m_r M) N (m_R M).cells (m_R M).slots (pR G post) → Ev k G (m_n M) N 0 0 h 0 (l_in av (m_n M)) []) : CtR l G M N av h post := ct_of hy (Nat.le_of_ble_eq_true hl) (cat_of hc) (fun k X Q _ => body k X Q)
theorem zN_of {l : Launch} {M : lx_M} {N' : Nat} {av : List Value} {post : (Nat → va_E) → Prop} (hy : plainName (m_y M).cls = true) (hl : Nat.ble (lg_sl av).length (m_n M) = true) (hc : av.all (fun v => Nat.beq v.category 1) = true) (body : ∀ k : lx_K, Cx k G (m_y M).cls (m_c M) (m_n M) (m_R M) → Rt k G (m_r M) N' (m_R M).cells (m_R M).slots (pV post) → (k_M k).name = (m_y M).name → Ev k G (m_n M) N 0 0 h 0 (l_in av (m_n M)) []) : CtN l G M N N' av h post := ct_of hy (Nat.le_of_ble_eq_true hl) (cat_of hc) body
theorem z_ireturn (X : Cx k G own cc nL R) {ty : FieldType} {z : Int} {post : Int → (Nat → va_E) → Prop} (hQ : Rt k G (some ty) N cells slots (pI post)) (hd : decode cc pc = .ok (.ireturn, 1)) (hn : narrow ty (vI z) = vI z) (hp : post z h) : Ev k G nL N cells slots h pc L [vI z] := e_ireturn X hQ hd hn ⟨z, rfl, hp⟩
theorem z_areturn (X : Cx k G own cc nL R) {C : String} {i : Nat} {post : Nat → (Nat → va_E) → Prop} (hQ : Rt k G (some (.object C)) N cells slots (pR G post)) (hd : decode cc pc = .ok (.areturn, 1)) (hp : post i h) : Ev k G nL N cells slots h pc L [.ref (ad (g_b G) i)] := e_areturn X hQ hd ⟨i, rfl, hp⟩
theorem z_return (X : Cx k G own cc nL R) {post : (Nat → va_E) → Prop} (hQ : Rt k G none N cells slots (pV post)) (hd : decode cc pc = .ok (.return_, 1)) (hp : post h) : Ev k G nL N cells slots h pc L [] := e_return X hQ hd ⟨rfl, hp⟩
theorem z_callS_I (X : Cx k G own cc nL R) {idx n : Nat} {M : lx_M} {As rest : List Value} {post : Int → (Nat → va_E) → Prop} (hd : decode cc pc = .ok (.invokestatic idx, 3)) (hC : CSS own idx M n) (hM : CtI (k_l k) G M N As h post) (hst : st = As.reverse ++ rest) (hn : As.length = n) (hz : (m_R M).cells = 0 ∧ (m_R M).slots = 0) (hR : rOKb M R cells slots (rest.map fun v => v.category).sum = true) (kk : ∀ (z : Int) (h1 : Nat → va_E), post z h1 → Ev k G nL N cells slots h1 (pc + 3) L (vI z :: rest)) : Ev k G nL N cells slots h pc L st := by
  obtain ⟨hr1, hr2, hr3⟩ := rOK_of hR
  refine e_callS X hd hC.1 hC.2 hM hst ⟨hr1, hr2, hn⟩ hr3 (fun v h1 hp => ?_)
  obtain ⟨z, rfl, hp⟩ := hp
  have K := kk z h1 hp
  rw [hz.1, hz.2]
  exact K
theorem z_callV_I (X : Cx k G own cc nL R) {idx n i ci : Nat} {M : lx_M} {As rest fs : List Value} {post : Int → (Nat → va_E) → Prop} (hd : decode cc pc = .ok (.invokevirtual idx, 3)) (hC : CVM own idx M ci n) (hM : CtI (k_l k) G M N (.ref (ad (g_b G) i) :: As) h post) (hc : h i = ob ci fs) (hi : i < N) (hst : st = As.reverse ++ .ref (ad (g_b G) i) :: rest) (hn : As.length = n) (hz : (m_R M).cells = 0 ∧ (m_R M).slots = 0) (hR : rOKb M R cells slots (rest.map fun v => v.category).sum = true) (kk : ∀ (z : Int) (h1 : Nat → va_E), post z h1 → Ev k G nL N cells slots h1 (pc + 3) L (vI z :: rest)) : Ev k G nL N cells slots h pc L st := by
  obtain ⟨hC1, C, T, nf, hC2, hC3, hC4⟩ := hC
  obtain ⟨hr1, hr2, hr3⟩ := rOK_of hR
  refine e_callV X hd hC1 ⟨hC3, hC4⟩ hM hc hi hC2 hst ⟨hr1, hr2, hn⟩ hr3 (fun v h1 hp => ?_)
  obtain ⟨z, rfl, hp⟩ := hp
  have K := kk z h1 hp
  rw [hz.1, hz.2]
  exact K
theorem z_callF_I (X : Cx k G own cc nL R) {idx cnt n i ci : Nat} {x : MethodName} {M : lx_M} {As rest fs : List Value} {post : Int → (Nat → va_E) → Prop} (hd : decode cc pc = .ok (.invokeinterface idx cnt, 5)) (hC : CFM own idx ci x M n) (hM : CtI (k_l k) G M N (.ref (ad (g_b G) i) :: As) h post) (hc : h i = ob ci fs) (hi : i < N) (hst : st = As.reverse ++ .ref (ad (g_b G) i) :: rest) (hn : As.length = n) (hz : (m_R M).cells = 0 ∧ (m_R M).slots = 0) (hR : rOKb M R cells slots (rest.map fun v => v.category).sum = true) (kk : ∀ (z : Int) (h1 : Nat → va_E), post z h1 → Ev k G nL N cells slots h1 (pc + 5) L (vI z :: rest)) : Ev k G nL N cells slots h pc L st := by
  obtain ⟨C, T, nf, hC2, hC1⟩ := hC
  obtain ⟨hr1, hr2, hr3⟩ := rOK_of hR
  refine e_callF X hd hC1 hM hc hi hC2 hst ⟨hr1, hr2, hn⟩ hr3 (fun v h1 hp => ?_)
  obtain ⟨z, rfl, hp⟩ := hp
  have K := kk z h1 hp
  rw [hz.1, hz.2]
  exact K
theorem z_callS_V (X : Cx k G own cc nL R) {idx n : Nat} {M : lx_M} {As rest : List Value} {post : (Nat → va_E) → Prop} (hd : decode cc pc = .ok (.invokestatic idx, 3)) (hC : CSS own idx M n) (hM : CtV (k_l k) G M N As h post) (hst : st = As.reverse ++ rest) (hn : As.length = n) (hz : (m_R M).cells = 0 ∧ (m_R M).slots = 0) (hR : rOKb M R cells slots (rest.map fun v => v.category).sum = true) (kk : ∀ h1 : Nat → va_E, post h1 → Ev k G nL N cells slots h1 (pc + 3) L rest) : Ev k G nL N cells slots h pc L st := by
  obtain ⟨hr1, hr2, hr3⟩ := rOK_of hR
  refine e_callS X hd hC.1 hC.2 hM hst ⟨hr1, hr2, hn⟩ hr3 (fun v h1 hp => ?_)
  obtain ⟨rfl, hp⟩ := hp
  have K := kk h1 hp
  rw [hz.1, hz.2]
  exact K
theorem z_callV_V (X : Cx k G own cc nL R) {idx n i ci : Nat} {M : lx_M} {As rest fs : List Value} {post : (Nat → va_E) → Prop} (hd : decode cc pc = .ok (.invokevirtual idx, 3)) (hC : CVM own idx M ci n) (hM : CtV (k_l k) G M N (.ref (ad (g_b G) i) :: As) h post) (hc : h i = ob ci fs) (hi : i < N) (hst : st = As.reverse ++ .ref (ad (g_b G) i) :: rest) (hn : As.length = n) (hz : (m_R M).cells = 0 ∧ (m_R M).slots = 0) (hR : rOKb M R cells slots (rest.map fun v => v.category).sum = true) (kk : ∀ h1 : Nat → va_E, post h1 → Ev k G nL N cells slots h1 (pc + 3) L rest) : Ev k G nL N cells slots h pc L st := by
  obtain ⟨hC1, C, T, nf, hC2, hC3, hC4⟩ := hC
  obtain ⟨hr1, hr2, hr3⟩ := rOK_of hR
  refine e_callV X hd hC1 ⟨hC3, hC4⟩ hM hc hi hC2 hst ⟨hr1, hr2, hn⟩ hr3 (fun v h1 hp => ?_)
  obtain ⟨rfl, hp⟩ := hp
  have K := kk h1 hp
  rw [hz.1, hz.2]
  exact K
theorem z_callF_V (X : Cx k G own cc nL R) {idx cnt n i ci : Nat} {x : MethodName} {M : lx_M} {As rest fs : List Value} {post : (Nat → va_E) → Prop} (hd : decode cc pc = .ok (.invokeinterface idx cnt, 5)) (hC : CFM own idx ci x M n) (hM : CtV (k_l k) G M N (.ref (ad (g_b G) i) :: As) h post) (hc : h i = ob ci fs) (hi : i < N) (hst : st = As.reverse ++ .ref (ad (g_b G) i) :: rest) (hn : As.length = n) (hz : (m_R M).cells = 0 ∧ (m_R M).slots = 0) (hR : rOKb M R cells slots (rest.map fun v => v.category).sum = true) (kk : ∀ h1 : Nat → va_E, post h1 → Ev k G nL N cells slots h1 (pc + 5) L rest) : Ev k G nL N cells slots h pc L st := by
  obtain ⟨C, T, nf, hC2, hC1⟩ := hC
  obtain ⟨hr1, hr2, hr3⟩ := rOK_of hR
  refine e_callF X hd hC1 hM hc hi hC2 hst ⟨hr1, hr2, hn⟩ hr3 (fun v h1 hp => ?_)
  obtain ⟨rfl, hp⟩ := hp
  have K := kk h1 hp
  rw [hz.1, hz.2]
  exact K
theorem z_callS_R (X : Cx k G own cc nL R) {idx n : Nat} {M : lx_M} {As rest : List Value} {post : Nat → (Nat → va_E) → Prop} (hd : decode cc pc = .ok (.invokestatic idx, 3)) (hC : CSS own idx M n) (hM : CtR (k_l k) G M N As h post) (hst : st = As.reverse ++ rest) (hn : As.length = n) (hz : (m_R M).cells = 0 ∧ (m_R M).slots = 0) (hR : rOKb M R cells slots (rest.map fun v => v.category).sum = true) (kk : ∀ (i : Nat) (h1 : Nat → va_E), post i h1 → Ev k G nL N cells slots h1 (pc + 3) L (.ref (ad (g_b G) i) :: rest)) : Ev k G nL N cells slots h pc L st := by
  obtain ⟨hr1, hr2, hr3⟩ := rOK_of hR
  refine e_callS X hd hC.1 hC.2 hM hst ⟨hr1, hr2, hn⟩ hr3 (fun v h1 hp => ?_)
  obtain ⟨i, rfl, hp⟩ := hp
  have K := kk i h1 hp
  rw [hz.1, hz.2]
  exact K
theorem z_callV_R (X : Cx k G own cc nL R) {idx n i ci : Nat} {M : lx_M} {As rest fs : List Value} {post : Nat → (Nat → va_E) → Prop} (hd : decode cc pc = .ok (.invokevirtual idx, 3)) (hC : CVM own idx M ci n) (hM : CtR (k_l k) G M N (.ref (ad (g_b G) i) :: As) h post) (hc : h i = ob ci fs) (hi : i < N) (hst : st = As.reverse ++ .ref (ad (g_b G) i) :: rest) (hn : As.length = n) (hz : (m_R M).cells = 0 ∧ (m_R M).slots = 0) (hR : rOKb M R cells slots (rest.map fun v => v.category).sum = true) (kk : ∀ (i : Nat) (h1 : Nat → va_E), post i h1 → Ev k G nL N cells slots h1 (pc + 3) L (.ref (ad (g_b G) i) :: rest)) : Ev k G nL N cells slots h pc L st := by
  obtain ⟨hC1, C, T, nf, hC2, hC3, hC4⟩ := hC
  obtain ⟨hr1, hr2, hr3⟩ := rOK_of hR
  refine e_callV X hd hC1 ⟨hC3, hC4⟩ hM hc hi hC2 hst ⟨hr1, hr2, hn⟩ hr3 (fun v h1 hp => ?_)
  obtain ⟨i, rfl, hp⟩ := hp
  have K := kk i h1 hp
  rw [hz.1, hz.2]
  exact K
theorem z_callF_R (X : Cx k G own cc nL R) {idx cnt n i ci : Nat} {x : MethodName} {M : lx_M} {As rest fs : List Value} {post : Nat → (Nat → va_E) → Prop} (hd : decode cc pc = .ok (.invokeinterface idx cnt, 5)) (hC : CFM own idx ci x M n) (hM : CtR (k_l k) G M N (.ref (ad (g_b G) i) :: As) h post) (hc : h i = ob ci fs) (hi : i < N) (hst : st = As.reverse ++ .ref (ad (g_b G) i) :: rest) (hn : As.length = n) (hz : (m_R M).cells = 0 ∧ (m_R M).slots = 0) (hR : rOKb M R cells slots (rest.map fun v => v.category).sum = true) (kk : ∀ (i : Nat) (h1 : Nat → va_E), post i h1 → Ev k G nL N cells slots h1 (pc + 5) L (.ref (ad (g_b G) i) :: rest)) : Ev k G nL N cells slots h pc L st := by
  obtain ⟨C, T, nf, hC2, hC1⟩ := hC
  obtain ⟨hr1, hr2, hr3⟩ := rOK_of hR
  refine e_callF X hd hC1 hM hc hi hC2 hst ⟨hr1, hr2, hn⟩ hr3 (fun v h1 hp => ?_)
  obtain ⟨i, rfl, hp⟩ := hp
  have K := kk i h1 hp
  rw [hz.1, hz.2]
  exact K
theorem z_callN (X : Cx k G own cc nL R) {idx n i N' c1 s1 : Nat} {M : lx_M} {As rest : List Value} {post : (Nat → va_E) → Prop} (hd : decode cc pc = .ok (.invokespecial idx, 3)) (hC : CIM own idx M n) (hM : CtN (k_l k) G M N N' (.ref (ad (g_b G) i) :: As) h post) (hst : st = As.reverse ++ .ref (ad (g_b G) i) :: rest) (hn : As.length = n) (hz : cells + (m_R M).cells = c1 ∧ slots + (m_R M).slots = s1) (hR : rOKb M R cells slots (rest.map fun v => v.category).sum = true) (kk : ∀ h1 : Nat → va_E, post h1 → Ev k G nL N' c1 s1 h1 (pc + 3) L rest) : Ev k G nL N cells slots h pc L st := by
  obtain ⟨hr1, hr2, hr3⟩ := rOK_of hR
  obtain ⟨hC1, hC2, hC3, hC4⟩ := hC
  have hM' : Ct (k_l k) G (m_y M) (m_c M) (m_n M) none (m_R M) N N' (.ref (ad (g_b G) i) :: As) h (pV post) := hC4 ▸ hM
  have hC1' : CS own idx (m_y M) (m_c M) (m_n M) none n := hC4 ▸ hC1
  refine e_callI X hd hC1' ⟨hC2, hC3⟩ hM' hst ⟨hr1, hr2, hn⟩ hr3 (fun v h1 hp => ?_)
  obtain ⟨rfl, hp⟩ := hp
  rw [hz.1, hz.2]
  exact kk h1 hp
end EK
