/-! new cells: for constructors -/
theorem ra_inj {U : State} {cA cB : ClassId} {ty : FieldType} (hp : ty = .char ∨ ty = .int ∨ ty = .boolean) (h1 : U.vm.findClass ("[" ++ ty.toString) = some cA) (h2 : va_RA U cB ty) : cA = cB := by
  rcases hp with rfl | rfl | rfl <;> exact Option.some.inj (h1.symm.trans h2)
section EN
variable {k : lx_K} {G : lx_G} {own : String} {cc : ByteArray} {nL N cells slots pc : Nat} {R : Room} {h : Nat → va_E} {L : List (Option Value)} {st : List Value}
theorem S_push {s : State} {H H1 : Heap} {locs : List Loc} {b : Nat} (hS : va_S (fun q => b ≤ q) s.heap H locs) (z : H1.size = H.size + 1) (o1 : ∀ q, q < H.size → H1[q]? = H[q]?) : va_S (fun q => b ≤ q) s.heap H1 locs :=
  ⟨Nat.le_trans hS.1 (by omega), fun x h1 h2 => (o1 x (Nat.lt_of_lt_of_le h1 hS.1)).trans (hS.2.1 x h1 h2), hS.2.2⟩
theorem e_objInit (X : Cx k G own cc nL R) {idx a : Nat} (hd : decode cc pc = .ok (.invokespecial idx, 3)) (hw : Cond.methodLink own idx Lib.objectInit ∈ lw_tbl ∧ Cond.instanceMethod Lib.objectInit ∈ lw_tbl ∧ Cond.code Lib.objectInit ⟨#[0xb1]⟩ 1 none ∈ lw_tbl) (hR : 1 ≤ R.frames ∧ (st.map fun v => v.category).sum + 12 ≤ R.locals) (kk : Ev k G nL N cells slots h (pc + 3) L st) : Ev k G nL N cells slots h pc L (.ref a :: st) := by
  intro H locs ls hH hS hL
  have hRk := X.R
  exact W.objInit X.1 X.2.1 X.own (X.tb.word hw.1 gw_link _) (X.tb.word hw.2.1 gw_inst _) (X.tb.word hw.2.2 gw_code _) rfl (by rw [X.2.2.1]; exact hL.1) rfl hd (by rw [hRk]; exact hR.1) (by rw [hRk]; show 2 * 0 + _ + 12 ≤ _; omega) (kk H locs ls hH hS hL)
theorem e_new (X : Cx k G own cc nL R) {idx ci n : Nat} {C : String} {T : u_T} {ty0 : Nat → FieldType} {fs : List Value} (hd : decode cc pc = .ok (.new idx, 3)) (hk : CK ci C T n ty0) (hw : Cond.classLink own idx C ∈ lw_tbl ∧ Cond.instantiable C n ∈ lw_tbl ∧ Cond.initialized C ∈ lw_tbl) (hfs : ∀ j, j < n → defaultValue (ty0 j) = vp_V fs j) (hR : cells + 1 ≤ R.cells ∧ slots + n ≤ R.slots)
    (kk : Ev k G nL (N + 1) (cells + 1) (slots + n) (hup h N (ob ci fs)) (pc + 3) L (.ref (ad (g_b G) N) :: st)) : Ev k G nL N cells slots h pc L st := by
  intro H locs ls hH hS hL
  have hRk := X.R
  obtain ⟨c1, c2, c3, c4, c5⟩ := hk
  have hKn := X.tb.K.1 ci _ c1
  refine W.newcK X.1 X.2.1 X.own (X.tb.word hw.1 gw_cl _) (X.tb.word hw.2.1 gw_able _) (X.tb.word hw.2.2 gw_init _) rfl hd (by rw [hRk]; exact hR.1) (by rw [hRk]; exact hR.2) hKn.2.1 (h := ad (g_b G) N) hH.1 fun H1 kC hkC e1 z1 o1 => ?_
  rw [← show H.size = ad (g_b G) N from hH.1] at z1 o1
  exact kk H1 locs ls (hH.push ⟨_, c1, (u_born ty0 (X.tb.lay c2 c3 (k_a k)) (fun w h9 => h9) hKn hkC e1 c4).to hfs⟩ z1 o1) (S_push hS z1 o1) hL
theorem e_newc (X : Cx k G own cc nL R) {n : Nat} (hd : decode cc pc = .ok (.newarray .char, 2)) (hw : Cond.arrayClass .char ∈ lw_tbl) (hn : n < 2 ^ 20) (hR : cells + 1 ≤ R.cells ∧ slots + n ≤ R.slots)
    (kk : Ev k G nL (N + 1) (cells + 1) (slots + n) (hup h N (cC G n (fun _ => 0))) (pc + 2) L (.ref (ad (g_b G) N) :: st)) : Ev k G nL N cells slots h pc L (.int (nI n) :: st) := by
  intro H locs ls hH hS hL
  have hRk := X.R
  have hb9 : n * componentBytes (newarray.typeOf .char) ≤ 536870912 := by
    have h8 : componentBytes (newarray.typeOf .char) = 2 := rfl
    rw [h8]
    omega
  have hn9 : ¬ nI n < 0 := nI_pos (by omega)
  have hc9 : (nI n).toNatClampNeg = n := nI_clamp (by omega)
  have hw9 : (Cond.arrayClass (newarray.typeOf .char)).before (k_a k) (k_s k) = true := X.tb.word (w := Cond.arrayClass .char) hw rfl _
  have hR1 : cells + 1 ≤ (k_R k).cells := by rw [hRk]; exact hR.1
  have hR2 : slots + n ≤ (k_R k).slots := by rw [hRk]; exact hR.2
  refine va_newaK (g := F0 (k_m k) pc ls (.int (nI n) :: st)) X.1 X.2.1 hw9 rfl hd rfl hn9 hc9 hb9 hR1 hR2 (h := ad (g_b G) N) hH.1 ?_
  intro H1 cA e1 z1 o1 hAr hNm
  rw [← show H.size = ad (g_b G) N from hH.1] at z1 o1
  have hcA : cA = g_C G := ra_inj (ty := newarray.typeOf .char) (Or.inl rfl) hNm (X.tb.K.2 0 (g_C G, newarray.typeOf .char) rfl).2
  subst hcA
  exact kk H1 locs ls (hH.push e1 z1 o1) (S_push hS z1 o1) hL
theorem e_newi (X : Cx k G own cc nL R) {n : Nat} (hd : decode cc pc = .ok (.newarray .int, 2)) (hw : Cond.arrayClass .int ∈ lw_tbl) (hn : n < 2 ^ 20) (hR : cells + 1 ≤ R.cells ∧ slots + n ≤ R.slots)
    (kk : Ev k G nL (N + 1) (cells + 1) (slots + n) (hup h N (cI G n (fun _ => 0))) (pc + 2) L (.ref (ad (g_b G) N) :: st)) : Ev k G nL N cells slots h pc L (.int (nI n) :: st) := by
  intro H locs ls hH hS hL
  have hRk := X.R
  have hb9 : n * componentBytes (newarray.typeOf .int) ≤ 536870912 := by
    have h8 : componentBytes (newarray.typeOf .int) = 4 := rfl
    rw [h8]
    omega
  have hn9 : ¬ nI n < 0 := nI_pos (by omega)
  have hc9 : (nI n).toNatClampNeg = n := nI_clamp (by omega)
  have hw9 : (Cond.arrayClass (newarray.typeOf .int)).before (k_a k) (k_s k) = true := X.tb.word (w := Cond.arrayClass .int) hw rfl _
  have hR1 : cells + 1 ≤ (k_R k).cells := by rw [hRk]; exact hR.1
  have hR2 : slots + n ≤ (k_R k).slots := by rw [hRk]; exact hR.2
  refine va_newaK (g := F0 (k_m k) pc ls (.int (nI n) :: st)) X.1 X.2.1 hw9 rfl hd rfl hn9 hc9 hb9 hR1 hR2 (h := ad (g_b G) N) hH.1 ?_
  intro H1 cA e1 z1 o1 hAr hNm
  rw [← show H.size = ad (g_b G) N from hH.1] at z1 o1
  have hcA : cA = g_I G := ra_inj (ty := newarray.typeOf .int) (Or.inr (Or.inl rfl)) hNm (X.tb.K.2 1 (g_I G, newarray.typeOf .int) rfl).2
  subst hcA
  exact kk H1 locs ls (hH.push e1 z1 o1) (S_push hS z1 o1) hL
theorem e_newz (X : Cx k G own cc nL R) {n : Nat} (hd : decode cc pc = .ok (.newarray .boolean, 2)) (hw : Cond.arrayClass .boolean ∈ lw_tbl) (hn : n < 2 ^ 20) (hR : cells + 1 ≤ R.cells ∧ slots + n ≤ R.slots)
    (kk : Ev k G nL (N + 1) (cells + 1) (slots + n) (hup h N (cZ G n (fun _ => 0))) (pc + 2) L (.ref (ad (g_b G) N) :: st)) : Ev k G nL N cells slots h pc L (.int (nI n) :: st) := by
  intro H locs ls hH hS hL
  have hRk := X.R
  have hb9 : n * componentBytes (newarray.typeOf .boolean) ≤ 536870912 := by
    have h8 : componentBytes (newarray.typeOf .boolean) = 1 := rfl
    rw [h8]
    omega
  have hn9 : ¬ nI n < 0 := nI_pos (by omega)
  have hc9 : (nI n).toNatClampNeg = n := nI_clamp (by omega)
  have hw9 : (Cond.arrayClass (newarray.typeOf .boolean)).before (k_a k) (k_s k) = true := X.tb.word (w := Cond.arrayClass .boolean) hw rfl _
  have hR1 : cells + 1 ≤ (k_R k).cells := by rw [hRk]; exact hR.1
  have hR2 : slots + n ≤ (k_R k).slots := by rw [hRk]; exact hR.2
  refine va_newaK (g := F0 (k_m k) pc ls (.int (nI n) :: st)) X.1 X.2.1 hw9 rfl hd rfl hn9 hc9 hb9 hR1 hR2 (h := ad (g_b G) N) hH.1 ?_
  intro H1 cA e1 z1 o1 hAr hNm
  rw [← show H.size = ad (g_b G) N from hH.1] at z1 o1
  have hcA : cA = g_Z G := ra_inj (ty := newarray.typeOf .boolean) (Or.inr (Or.inr rfl)) hNm (X.tb.K.2 2 (g_Z G, newarray.typeOf .boolean) rfl).2
  subst hcA
  exact kk H1 locs ls (hH.push e1 z1 o1) (S_push hS z1 o1) hL
theorem e_newT (X : Cx k G own cc nL R) {n idx : Nat} (hd : decode cc pc = .ok (.anewarray idx, 3)) (hw : Cond.classLink own idx nm_Text ∈ lw_tbl) (hn : n < 2 ^ 20) (hR : cells + 1 ≤ R.cells ∧ slots + n ≤ R.slots)
    (kk : Ev k G nL (N + 1) (cells + 1) (slots + n) (hup h N (cT G n (fun _ => none))) (pc + 3) L (.ref (ad (g_b G) N) :: st)) : Ev k G nL N cells slots h pc L (.int (nI n) :: st) := by
  intro H locs ls hH hS hL
  have hRk := X.R
  have hcl : (nI n).toNatClampNeg = n := nI_clamp (by omega)
  refine W.anew X.1 X.2.1 X.own (X.tb.word hw gw_cl _) (va_AO.use X.tb.2.2.2.2.1) rfl hd rfl (nI_pos (by omega)) (by rw [hcl]; omega) (by rw [hRk]; exact hR.1) (by rw [hRk, hcl]; exact hR.2) fun cA kA comp f1 f2 f3 f4 => ?_
  rw [hcl, show H.size = ad (g_b G) N from hH.1]
  generalize hH1 : H.push ({ cls := cA, slots := Array.replicate n .null, vm := .none } : Cell) = H1
  have z1 : H1.size = H.size + 1 := by rw [← hH1, Array.size_push]
  have e1 : H1[ad (g_b G) N]? = some (arrV cA n (fun _ => .null)) := by rw [← show H.size = ad (g_b G) N from hH.1, ← hH1, Array.getElem?_push_size, ← arrV_new]
  have o1 : ∀ q : Nat, q < H.size → H1[q]? = H[q]? := fun q hq => by rw [← hH1, Array.getElem?_push, if_neg (Nat.ne_of_lt hq)]
  obtain ⟨kA', comp', r1, r2, r3, r4⟩ := (X.tb.K.2 3 _ rfl).2
  have hcA : cA = g_T G := Option.some.inj (f1.symm.trans r4)
  subst hcA
  exact kk H1 locs ls (hH.push e1 z1 o1) (S_push hS z1 o1) hL
/-- an object into a row of nm_Text: of a class that may lie there -/
theorem e_tast (X : Cx k G own cc nL R) {i n j v ci : Nat} {fs : List Value} {C : String} {T : u_T} {nf : Nat} {f : Nat → Option Nat} (hd : decode cc pc = .ok (.aastore, 1)) (hc : h i = cT G n f) (hi : i < N) (hj : j < n) (hn : n < 2 ^ 31) (hv : h v = ob ci fs) (hvi : v < N) (hcl : vwCl[ci]? = some (C, T, nf)) (hasg : ∀ (comp c0 : ClassId), (k_s k).vm.findClass nm_Text = some comp → (k_s k).vm.findClass C = some c0 → (k_s k).vm.assignable c0 comp = true) (kk : Ev k G nL N cells slots (hup h i (cT G n (va_up f j (some (ad (g_b G) v))))) (pc + 1) L st) : Ev k G nL N cells slots h pc L (.ref (ad (g_b G) v) :: .int (nI j) :: .ref (ad (g_b G) i) :: st) := by
  intro H locs ls hH hS hL
  have hat : va_at (g_D G) vwCl (ad (g_b G) i, .inl (g_T G, n, .inr (.inr (.inr (.inr f))))) H := hH.at hi hc
  obtain ⟨cellV, g1, g3, g4⟩ := va_recv X.tb.K (hH.one hvi hv) (ci := ci) (q0 := 0) hcl rfl
  obtain ⟨kC, hkC, -⟩ := Vm.findClass_spec g4
  obtain ⟨kA, comp, k1, k2, k3, -⟩ := (X.tb.K.2 3 _ rfl).2
  obtain ⟨kE, hkE, -⟩ := Vm.findClass_spec k3
  have hcj : (nI j).toNatClampNeg = j := nI_clamp (Nat.lt_trans hj hn)
  refine W.aast X.1 X.2.1 hat (fun q h => by cases h) (fun h => by cases h) k1 k2 rfl hkE ⟨nI_pos (Nat.lt_trans hj hn), by show _ < (arrV _ _ _).slots.size; rw [arrV_size, hcj]; exact hj⟩ g1 (fun q h => by rw [h] at g3; cases g3) hkC (hasg _ _ k3 g4) rfl rfl hd fun H1 e z oq => ?_
  refine kk H1 _ ls (hH.write ?_ z oq) (hS.put z oq (Nat.le_add_right _ _)) hL
  show H1[ad (g_b G) i]? = some (vp_cell _ _)
  rw [e, vp_cell_q, vp_cell_q, arrV_store, hcj]
  congr 2
  funext q
  by_cases hq : q = j
  · subst hq
    simp [updV, va_up, va_rf]
  · simp [updV, va_up, hq]
theorem e_newR (X : Cx k G own cc nL R) {n idx : Nat} (hd : decode cc pc = .ok (.anewarray idx, 3)) (hw : Cond.classLink own idx nm_Row ∈ lw_tbl) (hn : n < 2 ^ 20) (hR : cells + 1 ≤ R.cells ∧ slots + n ≤ R.slots)
    (kk : Ev k G nL (N + 1) (cells + 1) (slots + n) (hup h N (cR G n (fun _ => none))) (pc + 3) L (.ref (ad (g_b G) N) :: st)) : Ev k G nL N cells slots h pc L (.int (nI n) :: st) := by
  intro H locs ls hH hS hL
  have hRk := X.R
  have hcl : (nI n).toNatClampNeg = n := nI_clamp (by omega)
  refine W.anew X.1 X.2.1 X.own (X.tb.word hw gw_cl _) (va_AO.use X.tb.2.2.2.2.2) rfl hd rfl (nI_pos (by omega)) (by rw [hcl]; omega) (by rw [hRk]; exact hR.1) (by rw [hRk, hcl]; exact hR.2) fun cA kA comp f1 f2 f3 f4 => ?_
  rw [hcl, show H.size = ad (g_b G) N from hH.1]
  generalize hH1 : H.push ({ cls := cA, slots := Array.replicate n .null, vm := .none } : Cell) = H1
  have z1 : H1.size = H.size + 1 := by rw [← hH1, Array.size_push]
  have e1 : H1[ad (g_b G) N]? = some (arrV cA n (fun _ => .null)) := by rw [← show H.size = ad (g_b G) N from hH.1, ← hH1, Array.getElem?_push_size, ← arrV_new]
  have o1 : ∀ q : Nat, q < H.size → H1[q]? = H[q]? := fun q hq => by rw [← hH1, Array.getElem?_push, if_neg (Nat.ne_of_lt hq)]
  obtain ⟨kA', comp', r1, r2, r3, r4⟩ := (X.tb.K.2 4 _ rfl).2
  have hcA : cA = g_R G := Option.some.inj (f1.symm.trans r4)
  subst hcA
  exact kk H1 locs ls (hH.push e1 z1 o1) (S_push hS z1 o1) hL
/-- an object into a row of nm_Row: of a class that may lie there -/
theorem e_rast (X : Cx k G own cc nL R) {i n j v ci : Nat} {fs : List Value} {C : String} {T : u_T} {nf : Nat} {f : Nat → Option Nat} (hd : decode cc pc = .ok (.aastore, 1)) (hc : h i = cR G n f) (hi : i < N) (hj : j < n) (hn : n < 2 ^ 31) (hv : h v = ob ci fs) (hvi : v < N) (hcl : vwCl[ci]? = some (C, T, nf)) (hasg : ∀ (comp c0 : ClassId), (k_s k).vm.findClass nm_Row = some comp → (k_s k).vm.findClass C = some c0 → (k_s k).vm.assignable c0 comp = true) (kk : Ev k G nL N cells slots (hup h i (cR G n (va_up f j (some (ad (g_b G) v))))) (pc + 1) L st) : Ev k G nL N cells slots h pc L (.ref (ad (g_b G) v) :: .int (nI j) :: .ref (ad (g_b G) i) :: st) := by
  intro H locs ls hH hS hL
  have hat : va_at (g_D G) vwCl (ad (g_b G) i, .inl (g_R G, n, .inr (.inr (.inr (.inr f))))) H := hH.at hi hc
  obtain ⟨cellV, g1, g3, g4⟩ := va_recv X.tb.K (hH.one hvi hv) (ci := ci) (q0 := 0) hcl rfl
  obtain ⟨kC, hkC, -⟩ := Vm.findClass_spec g4
  obtain ⟨kA, comp, k1, k2, k3, -⟩ := (X.tb.K.2 4 _ rfl).2
  obtain ⟨kE, hkE, -⟩ := Vm.findClass_spec k3
  have hcj : (nI j).toNatClampNeg = j := nI_clamp (Nat.lt_trans hj hn)
  refine W.aast X.1 X.2.1 hat (fun q h => by cases h) (fun h => by cases h) k1 k2 rfl hkE ⟨nI_pos (Nat.lt_trans hj hn), by show _ < (arrV _ _ _).slots.size; rw [arrV_size, hcj]; exact hj⟩ g1 (fun q h => by rw [h] at g3; cases g3) hkC (hasg _ _ k3 g4) rfl rfl hd fun H1 e z oq => ?_
  refine kk H1 _ ls (hH.write ?_ z oq) (hS.put z oq (Nat.le_add_right _ _)) hL
  show H1[ad (g_b G) i]? = some (vp_cell _ _)
  rw [e, vp_cell_q, vp_cell_q, arrV_store, hcj]
  congr 2
  funext q
  by_cases hq : q = j
  · subst hq
    simp [updV, va_up, va_rf]
  · simp [updV, va_up, hq]
end EN
