/-! fields, arrays, calls, returns -/
theorem Cx.R {k : lx_K} {G : lx_G} {own : String} {cc : ByteArray} {nL : Nat} {R : Room} (X : Cx k G own cc nL R) : k_R k = R := X.2.2.2.2.2.2
theorem Cx.tb {k : lx_K} {G : lx_G} {own : String} {cc : ByteArray} {nL : Nat} {R : Room} (X : Cx k G own cc nL R) : Tb G (k_s k) := X.2.2.2.2.1
theorem Cx.own {k : lx_K} {G : lx_G} {own : String} {cc : ByteArray} {nL : Nat} {R : Room} (X : Cx k G own cc nL R) : (k_s k).vm.findClass own = some (k_m k).cls := X.2.2.2.1
theorem Tb.K {G : lx_G} {s : State} (h : Tb G s) : va_K (g_D G) vwCl (g_ty G) s := h.2.2.2.1
/-- a class by its number: name, fields, how many, their types -/
def CK (ci : Nat) (C : String) (T : u_T) (n : Nat) (ty0 : Nat → FieldType) : Prop := vwCl[ci]? = some (C, T, n) ∧ (∀ w ∈ u_ws C T n, w ∈ lw_tbl) ∧ (∀ w ∈ u_ws C T n, goodWord w = true) ∧ (∀ k, k < n → parseFieldDescriptor (T k).2.2.1 = some (ty0 k)) ∧ ∀ a, a < n → ∀ b, b < n → a ≠ b → (T a).2.1 ≠ (T b).2.1
/-- own's pool number idx is field kf of class ci -/
def FL (own : String) (idx ci kf : Nat) (fin : Bool) (ty : FieldType) : Prop := ∃ (C : String) (T : u_T) (n : Nat) (ty0 : Nat → FieldType), CK ci C T n ty0 ∧ kf < n ∧ Cond.fieldLink own idx (T kf).1 (T kf).2.1 (T kf).2.2.1 ∈ lw_tbl ∧ goodWord (Cond.fieldLink own idx (T kf).1 (T kf).2.1 (T kf).2.2.1) = true ∧ (T kf).2.2.2 = fin ∧ ty0 kf = ty ∧ (fin = true → (T kf).1 = own)
section EF
variable {k : lx_K} {G : lx_G} {own : String} {cc : ByteArray} {nL N cells slots pc : Nat} {R : Room} {h : Nat → va_E} {L : List (Option Value)} {st : List Value}
theorem e_get (X : Cx k G own cc nL R) {i idx ci kf : Nat} {fin : Bool} {ty : FieldType} {fs : List Value} {v : Value} (hd : decode cc pc = .ok (.getfield idx, 3)) (hF : FL own idx ci kf fin ty) (hc : h i = ob ci fs) (hi : i < N) (hv : fs[kf]? = some v) (kk : Ev k G nL N cells slots h (pc + 3) L (v :: st)) : Ev k G nL N cells slots h pc L (.ref (ad (g_b G) i) :: st) := by
  intro H locs ls hH hS hL
  obtain ⟨C, T, n, ty0, ⟨c1, c2, c3, c4, c5⟩, f1, f2, f3, f4, f5, f6⟩ := hF
  exact va_get X.1 X.2.1 (X.tb.lay c2 c3 _) (fun w h9 => h9) X.own X.tb.K (hH.one hi hc) 0 rfl c1 kf f1 (X.tb.word f2 f3 _) (fun _ h9 => h9) hv hd (kk H locs ls hH hS hL)
theorem e_put (X : Cx k G own cc nL R) {i idx ci kf : Nat} {ty : FieldType} {fs : List Value} {v : Value} (hd : decode cc pc = .ok (.putfield idx, 3)) (hF : FL own idx ci kf false ty) (hc : h i = ob ci fs) (hi : i < N) (hl : kf < fs.length) (hn : narrow ty v = v) (hfit : fits ty v = true) (kk : Ev k G nL N cells slots (hup h i (ob ci (fs.set kf v))) (pc + 3) L st) : Ev k G nL N cells slots h pc L (v :: .ref (ad (g_b G) i) :: st) := by
  intro H locs ls hH hS hL
  obtain ⟨C, T, n, ty0, ⟨c1, c2, c3, c4, c5⟩, f1, f2, f3, f4, f5, f6⟩ := hF
  have hts := X.tb.lay c2 c3 (k_a k)
  have hin : ∀ w ∈ u_ws C T n, w ∈ u_ws C T n := fun w h9 => h9
  have hK := X.tb.K
  have hap := va_apart (own := own) hts hin ty0 c4 c5 hK c1
  have hat : va_at (g_D G) vwCl (ad (g_b G) i, .inr (ci, fs)) H := hH.at hi hc
  obtain ⟨r, h1, cell, q1, q2, q3, q4⟩ := hat
  have hr : r = (C, T, n) := Option.some.inj (h1.symm.trans c1)
  subst hr
  obtain ⟨hSs, hfc, kC, hkC, hkind⟩ := hK.1 ci _ c1
  obtain ⟨cf, kf', fi, f, hi', hsl⟩ := hSs kf f1
  have hlay := hts _ (hin _ (u_in_lay f1))
  unfold u_lay at hlay
  rw [if_neg (by rw [f4]; decide)] at hlay
  have hst := (u_facts hfc hkC (u_lays hts hin f1) hi').1
  have hd' : parseFieldDescriptor (T kf).2.2.1 = some ty := by rw [c4 kf f1, f5]
  have h6 := u_store hfc hkC hkind hlay hi' hd' hn hfit
  refine W.putK X.1 X.2.1 (f := f) ⟨X.own, X.tb.word f2 f3 _, ⟨_, _, _, hi'⟩, hst⟩ (by rw [q2]; exact h6) q1 q3 (by rw [hsl]; exact k2_hasslot (q4 kf f1)) rfl rfl hd fun H' e1 e2 e3 => ?_
  rw [hsl] at e1 ⊢
  exact kk H' _ ls (hH.write ⟨_, c1, t_OB.to (V := updV (vp_V fs) kf v) ⟨_, e1, q2, q3, t_set q4 hap f1 v⟩ (fun j _ => vp_updV_set hl v j)⟩ e2 e3) (hS.put e2 e3 (Nat.le_add_right _ _)) hL
theorem e_putF (X : Cx k G own cc nL R) {i idx ci kf : Nat} {ty : FieldType} {fs : List Value} {v : Value} (hin2 : (k_M k).name = "<init>") (hd : decode cc pc = .ok (.putfield idx, 3)) (hF : FL own idx ci kf true ty) (hc : h i = ob ci fs) (hi : i < N) (hl : kf < fs.length) (hn : narrow ty v = v) (hfit : fits ty v = true) (kk : Ev k G nL N cells slots (hup h i (ob ci (fs.set kf v))) (pc + 3) L st) : Ev k G nL N cells slots h pc L (v :: .ref (ad (g_b G) i) :: st) := by
  intro H locs ls hH hS hL
  obtain ⟨C, T, n, ty0, ⟨c1, c2, c3, c4, c5⟩, f1, f2, f3, f4, f5, f6⟩ := hF
  have hts := X.tb.lay c2 c3 (k_a k)
  have hin : ∀ w ∈ u_ws C T n, w ∈ u_ws C T n := fun w h9 => h9
  have hK := X.tb.K
  have hap := va_apart (own := own) hts hin ty0 c4 c5 hK c1
  have hat : va_at (g_D G) vwCl (ad (g_b G) i, .inr (ci, fs)) H := hH.at hi hc
  obtain ⟨r, h1, cell, q1, q2, q3, q4⟩ := hat
  have hr : r = (C, T, n) := Option.some.inj (h1.symm.trans c1)
  subst hr
  obtain ⟨hSs, hfc, kC, hkC, hkind⟩ := hK.1 ci _ c1
  obtain ⟨cf, kf', fi, f, hi', hsl⟩ := hSs kf f1
  have hlay := hts _ (hin _ (u_in_lay f1))
  unfold u_lay at hlay
  rw [if_pos f4] at hlay
  have hst := (u_facts hfc hkC (u_lays hts hin f1) hi').1
  have hd' : parseFieldDescriptor (T kf).2.2.1 = some ty := by rw [c4 kf f1, f5]
  have hcf : (k_m k).cls = cf := by
    obtain ⟨_, _, c', _, _, _, -, -, hf', -, -, -, hown2, -⟩ := Cond.laysFinal_spec hlay
    have e1 : c' = cf := by have := hi'.symm.trans hf'; simp at this; exact this.1.symm
    rw [f6 rfl] at hown2
    rw [← e1]; exact Option.some.inj (X.own.symm.trans hown2)
  have h6 := u_fits hfc hkC hkind (Or.inr hlay) hi' hd' hn hfit
  refine W.putFinK X.1 X.2.1 X.own (X.tb.word f2 f3 _) hi' hst hcf hin2 (by rw [q2]; exact h6) q1 q3 (by rw [hsl]; exact k2_hasslot (q4 kf f1)) rfl rfl hd fun H' e1 e2 e3 => ?_
  rw [hsl] at e1 ⊢
  exact kk H' _ ls (hH.write ⟨_, c1, t_OB.to (V := updV (vp_V fs) kf v) ⟨_, e1, q2, q3, t_set q4 hap f1 v⟩ (fun j _ => vp_updV_set hl v j)⟩ e2 e3) (hS.put e2 e3 (Nat.le_add_right _ _)) hL
theorem e_iald (X : Cx k G own cc nL R) {i n j : Nat} {f : Nat → Int32} (hd : decode cc pc = .ok (.iaload, 1)) (hc : h i = cI G n f) (hi : i < N) (hj : j < n) (hn : n < 2 ^ 31) (kk : Ev k G nL N cells slots h (pc + 1) L (.int (f j) :: st)) : Ev k G nL N cells slots h pc L (.int (nI j) :: .ref (ad (g_b G) i) :: st) := by
  intro H locs ls hH hS hL
  refine va_iald X.1 X.2.1 X.tb.K (hH.one hi hc) 0 1 rfl rfl (vp_in_nI hj hn) hd ?_
  rw [nI_clamp (Nat.lt_trans hj hn)]
  exact kk H locs ls hH hS hL
theorem e_cald (X : Cx k G own cc nL R) {i n j : Nat} {f : Nat → Int32} (hd : decode cc pc = .ok (.caload, 1)) (hc : h i = cC G n f) (hi : i < N) (hj : j < n) (hn : n < 2 ^ 31) (kk : Ev k G nL N cells slots h (pc + 1) L (.int (f j) :: st)) : Ev k G nL N cells slots h pc L (.int (nI j) :: .ref (ad (g_b G) i) :: st) := by
  intro H locs ls hH hS hL
  refine va_cald X.1 X.2.1 X.tb.K (hH.one hi hc) 0 0 rfl rfl (vp_in_nI hj hn) hd ?_
  rw [nI_clamp (Nat.lt_trans hj hn)]
  exact kk H locs ls hH hS hL
theorem e_zald (X : Cx k G own cc nL R) {i n j : Nat} {f : Nat → Int32} (hd : decode cc pc = .ok (.baload, 1)) (hc : h i = cZ G n f) (hi : i < N) (hj : j < n) (hn : n < 2 ^ 31) (kk : Ev k G nL N cells slots h (pc + 1) L (.int (f j) :: st)) : Ev k G nL N cells slots h pc L (.int (nI j) :: .ref (ad (g_b G) i) :: st) := by
  intro H locs ls hH hS hL
  refine va_zald X.1 X.2.1 X.tb.K (hH.one hi hc) 0 2 rfl rfl (vp_in_nI hj hn) hd ?_
  rw [nI_clamp (Nat.lt_trans hj hn)]
  exact kk H locs ls hH hS hL
theorem e_tald (X : Cx k G own cc nL R) {i n j a : Nat} {f : Nat → Option Nat} (hd : decode cc pc = .ok (.aaload, 1)) (hc : h i = cT G n f) (hi : i < N) (hj : j < n) (hn : n < 2 ^ 31) (hv : f j = some a) (kk : Ev k G nL N cells slots h (pc + 1) L (.ref a :: st)) : Ev k G nL N cells slots h pc L (.int (nI j) :: .ref (ad (g_b G) i) :: st) := by
  intro H locs ls hH hS hL
  refine va_aldq X.1 X.2.1 X.tb.K (hH.one hi hc) 0 3 rfl rfl (vp_in_nI hj hn) hd ?_
  rw [nI_clamp (Nat.lt_trans hj hn), hv]
  exact kk H locs ls hH hS hL
theorem e_rald (X : Cx k G own cc nL R) {i n j a : Nat} {f : Nat → Option Nat} (hd : decode cc pc = .ok (.aaload, 1)) (hc : h i = cR G n f) (hi : i < N) (hj : j < n) (hn : n < 2 ^ 31) (hv : f j = some a) (kk : Ev k G nL N cells slots h (pc + 1) L (.ref a :: st)) : Ev k G nL N cells slots h pc L (.int (nI j) :: .ref (ad (g_b G) i) :: st) := by
  intro H locs ls hH hS hL
  refine va_aldq X.1 X.2.1 X.tb.K (hH.one hi hc) 0 4 rfl rfl (vp_in_nI hj hn) hd ?_
  rw [nI_clamp (Nat.lt_trans hj hn), hv]
  exact kk H locs ls hH hS hL
theorem e_clen (X : Cx k G own cc nL R) {i n : Nat} {f : Nat → Int32} (hd : decode cc pc = .ok (.arraylength, 1)) (hc : h i = cC G n f) (hi : i < N) (kk : Ev k G nL N cells slots h (pc + 1) L (.int (nI n) :: st)) : Ev k G nL N cells slots h pc L (.ref (ad (g_b G) i) :: st) := by
  intro H locs ls hH hS hL
  exact va_alen X.1 X.2.1 X.tb.K (hH.one hi hc) 0 0 rfl rfl rfl hd (kk H locs ls hH hS hL)
theorem e_iast (X : Cx k G own cc nL R) {i n j : Nat} {f : Nat → Int32} {x : Int32} (hd : decode cc pc = .ok (.iastore, 1)) (hc : h i = cI G n f) (hi : i < N) (hj : j < n) (hn : n < 2 ^ 31) (kk : Ev k G nL N cells slots (hup h i (cI G n (upd f j x))) (pc + 1) L st) : Ev k G nL N cells slots h pc L (.int x :: .int (nI j) :: .ref (ad (g_b G) i) :: st) := by
  intro H locs ls hH hS hL
  have hat : va_at (g_D G) vwCl (ad (g_b G) i, .inl (g_I G, n, .inl f)) H := hH.at hi hc
  refine W.iast X.1 X.2.1 hat ((X.tb.K.2 1 _ rfl).1 n (fun j => .int (f j))) (fun q => by cases q) (by show ¬ (nI j < 0 ∨ (arrV _ _ _).slots.size ≤ _); rw [arrV_size]; exact vp_in_nI hj hn) rfl rfl hd fun H1 e z oq => ?_
  refine kk H1 _ ls (hH.write ?_ z oq) (hS.put z oq (Nat.le_add_right _ _)) hL
  show H1[ad (g_b G) i]? = some (vp_cell _ _)
  rw [e, vp_cell_i, vp_cell_i, arrV_store, nI_clamp (Nat.lt_trans hj hn)]
  congr 2
  funext q
  by_cases hq : q = j
  · subst hq
    simp [updV, upd]
  · simp [updV, upd, hq]
theorem e_cast (X : Cx k G own cc nL R) {i n j : Nat} {f : Nat → Int32} {x : Int32} (hd : decode cc pc = .ok (.castore, 1)) (hc : h i = cC G n f) (hi : i < N) (hj : j < n) (hn : n < 2 ^ 31) (hx : narrow .char (.int x) = .int x) (kk : Ev k G nL N cells slots (hup h i (cC G n (upd f j x))) (pc + 1) L st) : Ev k G nL N cells slots h pc L (.int x :: .int (nI j) :: .ref (ad (g_b G) i) :: st) := by
  intro H locs ls hH hS hL
  have hat : va_at (g_D G) vwCl (ad (g_b G) i, .inl (g_C G, n, .inl f)) H := hH.at hi hc
  refine W.cast X.1 X.2.1 hat ((X.tb.K.2 0 _ rfl).1 n (fun j => .int (f j))) (fun q => by cases q) (by show ¬ (nI j < 0 ∨ (arrV _ _ _).slots.size ≤ _); rw [arrV_size]; exact vp_in_nI hj hn) rfl rfl hd fun H1 e z oq => ?_
  refine kk H1 _ ls (hH.write ?_ z oq) (hS.put z oq (Nat.le_add_right _ _)) hL
  show H1[ad (g_b G) i]? = some (vp_cell _ _)
  rw [e, hx, vp_cell_i, vp_cell_i, arrV_store, nI_clamp (Nat.lt_trans hj hn)]
  congr 2
  funext q
  by_cases hq : q = j
  · subst hq
    simp [updV, upd]
  · simp [updV, upd, hq]
theorem e_zast (X : Cx k G own cc nL R) {i n j : Nat} {f : Nat → Int32} {x : Int32} (hd : decode cc pc = .ok (.bastore, 1)) (hc : h i = cZ G n f) (hi : i < N) (hj : j < n) (hn : n < 2 ^ 31) (hx : narrow .boolean (.int x) = .int x) (kk : Ev k G nL N cells slots (hup h i (cZ G n (upd f j x))) (pc + 1) L st) : Ev k G nL N cells slots h pc L (.int x :: .int (nI j) :: .ref (ad (g_b G) i) :: st) := by
  intro H locs ls hH hS hL
  have hat : va_at (g_D G) vwCl (ad (g_b G) i, .inl (g_Z G, n, .inl f)) H := hH.at hi hc
  refine W.zast X.1 X.2.1 hat ((X.tb.K.2 2 _ rfl).1 n (fun j => .int (f j))) (fun q => by cases q) (by show ¬ (nI j < 0 ∨ (arrV _ _ _).slots.size ≤ _); rw [arrV_size]; exact vp_in_nI hj hn) rfl rfl hd fun H1 e z oq => ?_
  refine kk H1 _ ls (hH.write ?_ z oq) (hS.put z oq (Nat.le_add_right _ _)) hL
  show H1[ad (g_b G) i]? = some (vp_cell _ _)
  rw [e, hx, vp_cell_i, vp_cell_i, arrV_store, nI_clamp (Nat.lt_trans hj hn)]
  congr 2
  funext q
  by_cases hq : q = j
  · subst hq
    simp [updV, upd]
  · simp [updV, upd, hq]
/-- returns -/
theorem e_ireturn (X : Cx k G own cc nL R) {ty : FieldType} {v : Int32} {post : Option Value → (Nat → va_E) → Prop} (hQ : Rt k G (some ty) N cells slots post) (hd : decode cc pc = .ok (.ireturn, 1)) (hn : narrow ty (.int v) = .int v) (hp : post (some (.int v)) h) : Ev k G nL N cells slots h pc L [.int v] := by
  intro H locs ls hH hS hL
  rw [hQ.1]
  exact W.zret X.1 X.2.1 hQ.2.1 hn (fun t ht hW => ⟨⟨some (.int v), h, rfl, hp, by rw [ht]; exact hH⟩, hS.F ht⟩) hS.2.2 hd hQ.2.2
theorem e_areturn (X : Cx k G own cc nL R) {C : String} {a : Nat} {post : Option Value → (Nat → va_E) → Prop} (hQ : Rt k G (some (.object C)) N cells slots post) (hd : decode cc pc = .ok (.areturn, 1)) (hp : post (some (.ref a)) h) : Ev k G nL N cells slots h pc L [.ref a] := by
  intro H locs ls hH hS hL
  rw [hQ.1]
  exact W.aret X.1 X.2.1 hQ.2.1 (Or.inl ⟨C, rfl⟩) (Or.inr ⟨a, rfl⟩) (fun t ht hW => ⟨⟨some (.ref a), h, rfl, hp, by rw [ht]; exact hH⟩, hS.F ht⟩) hS.2.2 hd hQ.2.2
theorem e_return (X : Cx k G own cc nL R) {post : Option Value → (Nat → va_E) → Prop} (hQ : Rt k G none N cells slots post) (hd : decode cc pc = .ok (.return_, 1)) (hp : post none h) : Ev k G nL N cells slots h pc L [] := by
  intro H locs ls hH hS hL
  rw [hQ.1]
  exact W.vret X.1 X.2.1 hQ.2.1 (fun t ht hW => ⟨⟨none, h, rfl, hp, by rw [ht]; exact hH⟩, hS.F ht⟩) hS.2.2 hd hQ.2.2
end EF
