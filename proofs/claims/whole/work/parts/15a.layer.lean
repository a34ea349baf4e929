/-! new cells, by their numbers -/
section EV8
variable {k : lx_K} {G : lx_G} {own : String} {cc : ByteArray} {nL N cells slots pc : Nat} {R : Room} {h : Nat → va_E} {L : List (Option Value)} {st : List Value}
theorem e_wide {c1 s1 : Nat} (h1 : cells ≤ c1) (h2 : slots ≤ s1) (kk : Ev k G nL N c1 s1 h pc L st) : Ev k G nL N cells slots h pc L st := fun H locs ls hH hS hL => W.widen h1 h2 (kk H locs ls hH hS hL)
def rmOK (R : Room) (c1 s1 : Nat) : Bool := Nat.ble c1 R.cells && Nat.ble s1 R.slots
theorem rmOK_of {R : Room} {c1 s1 cells slots n : Nat} (h : rmOK R c1 s1 = true) (hz : cells + 1 ≤ c1 ∧ slots + n ≤ s1) : cells + 1 ≤ R.cells ∧ slots + n ≤ R.slots := by
  simp only [rmOK, Bool.and_eq_true] at h
  exact ⟨Nat.le_trans hz.1 (Nat.le_of_ble_eq_true h.1), Nat.le_trans hz.2 (Nat.le_of_ble_eq_true h.2)⟩
theorem z_new (X : Cx k G own cc nL R) {idx ci n N' c1 s1 : Nat} {C : String} {T : u_T} {ty0 : Nat → FieldType} {fs : List Value} (hd : decode cc pc = .ok (.new idx, 3)) (hk : CK ci C T n ty0) (hw : Cond.classLink own idx C ∈ lw_tbl ∧ Cond.instantiable C n ∈ lw_tbl ∧ Cond.initialized C ∈ lw_tbl) (hfs : ∀ j, j < n → defaultValue (ty0 j) = vp_V fs j) (hz : (cells + 1 ≤ c1 ∧ slots + n ≤ s1) ∧ N + 1 = N') (hR : rmOK R c1 s1 = true)
    (kk : ∀ h1 : Nat → va_E, h1 N = ob ci fs → (∀ j, j ≠ N → h1 j = h j) → Ev k G nL N' c1 s1 h1 (pc + 3) L (.ref (ad (g_b G) N) :: st)) : Ev k G nL N cells slots h pc L st := by
  obtain ⟨hz1, rfl⟩ := hz
  exact e_new X hd hk hw hfs (rmOK_of hR hz1) (e_wide hz1.1 hz1.2 (kk _ (hup_eq _ _ _) (fun _ q => hup_ne q)))
theorem z_newc (X : Cx k G own cc nL R) {n N' c1 s1 : Nat} {z : Int} (hd : decode cc pc = .ok (.newarray .char, 2)) (hw : Cond.arrayClass .char ∈ lw_tbl) (hzn : z = (n : Int)) (hn : n < 1048576) (hz : (cells + 1 ≤ c1 ∧ slots + n ≤ s1) ∧ N + 1 = N') (hR : rmOK R c1 s1 = true)
    (kk : ∀ h1 : Nat → va_E, h1 N = rC G n (fun _ => 0) → (∀ j, j ≠ N → h1 j = h j) → Ev k G nL N' c1 s1 h1 (pc + 2) L (.ref (ad (g_b G) N) :: st)) : Ev k G nL N cells slots h pc L (vI z :: st) := by
  obtain ⟨hz1, rfl⟩ := hz
  subst hzn
  rw [show vI (n : Int) = Value.int (nI n) from congrArg Value.int (iI_nI n).symm]
  exact e_newc X hd hw hn (rmOK_of hR hz1) (e_wide hz1.1 hz1.2 (kk _ (by rw [hup_eq, iI_0]; rfl) (fun _ q => hup_ne q)))
theorem z_newi (X : Cx k G own cc nL R) {n N' c1 s1 : Nat} {z : Int} (hd : decode cc pc = .ok (.newarray .int, 2)) (hw : Cond.arrayClass .int ∈ lw_tbl) (hzn : z = (n : Int)) (hn : n < 1048576) (hz : (cells + 1 ≤ c1 ∧ slots + n ≤ s1) ∧ N + 1 = N') (hR : rmOK R c1 s1 = true)
    (kk : ∀ h1 : Nat → va_E, h1 N = rI G n (fun _ => 0) → (∀ j, j ≠ N → h1 j = h j) → Ev k G nL N' c1 s1 h1 (pc + 2) L (.ref (ad (g_b G) N) :: st)) : Ev k G nL N cells slots h pc L (vI z :: st) := by
  obtain ⟨hz1, rfl⟩ := hz
  subst hzn
  rw [show vI (n : Int) = Value.int (nI n) from congrArg Value.int (iI_nI n).symm]
  exact e_newi X hd hw hn (rmOK_of hR hz1) (e_wide hz1.1 hz1.2 (kk _ (by rw [hup_eq, iI_0]; rfl) (fun _ q => hup_ne q)))
theorem z_newz (X : Cx k G own cc nL R) {n N' c1 s1 : Nat} {z : Int} (hd : decode cc pc = .ok (.newarray .boolean, 2)) (hw : Cond.arrayClass .boolean ∈ lw_tbl) (hzn : z = (n : Int)) (hn : n < 1048576) (hz : (cells + 1 ≤ c1 ∧ slots + n ≤ s1) ∧ N + 1 = N') (hR : rmOK R c1 s1 = true)
    (kk : ∀ h1 : Nat → va_E, h1 N = rZ G n (fun _ => 0) → (∀ j, j ≠ N → h1 j = h j) → Ev k G nL N' c1 s1 h1 (pc + 2) L (.ref (ad (g_b G) N) :: st)) : Ev k G nL N cells slots h pc L (vI z :: st) := by
  obtain ⟨hz1, rfl⟩ := hz
  subst hzn
  rw [show vI (n : Int) = Value.int (nI n) from congrArg Value.int (iI_nI n).symm]
  exact e_newz X hd hw hn (rmOK_of hR hz1) (e_wide hz1.1 hz1.2 (kk _ (by rw [hup_eq, iI_0]; rfl) (fun _ q => hup_ne q)))
theorem z_newT (X : Cx k G own cc nL R) {n idx N' c1 s1 : Nat} {z : Int} (hd : decode cc pc = .ok (.anewarray idx, 3)) (hw : Cond.classLink own idx nm_Text ∈ lw_tbl) (hzn : z = (n : Int)) (hn : n < 1048576) (hz : (cells + 1 ≤ c1 ∧ slots + n ≤ s1) ∧ N + 1 = N') (hR : rmOK R c1 s1 = true)
    (kk : ∀ h1 : Nat → va_E, h1 N = cT G n (fun _ => none) → (∀ j, j ≠ N → h1 j = h j) → Ev k G nL N' c1 s1 h1 (pc + 3) L (.ref (ad (g_b G) N) :: st)) : Ev k G nL N cells slots h pc L (vI z :: st) := by
  obtain ⟨hz1, rfl⟩ := hz
  subst hzn
  rw [show vI (n : Int) = Value.int (nI n) from congrArg Value.int (iI_nI n).symm]
  exact e_newT X hd hw hn (rmOK_of hR hz1) (e_wide hz1.1 hz1.2 (kk _ (hup_eq _ _ _) (fun _ q => hup_ne q)))
theorem z_newR (X : Cx k G own cc nL R) {n idx N' c1 s1 : Nat} {z : Int} (hd : decode cc pc = .ok (.anewarray idx, 3)) (hw : Cond.classLink own idx nm_Row ∈ lw_tbl) (hzn : z = (n : Int)) (hn : n < 1048576) (hz : (cells + 1 ≤ c1 ∧ slots + n ≤ s1) ∧ N + 1 = N') (hR : rmOK R c1 s1 = true)
    (kk : ∀ h1 : Nat → va_E, h1 N = cR G n (fun _ => none) → (∀ j, j ≠ N → h1 j = h j) → Ev k G nL N' c1 s1 h1 (pc + 3) L (.ref (ad (g_b G) N) :: st)) : Ev k G nL N cells slots h pc L (vI z :: st) := by
  obtain ⟨hz1, rfl⟩ := hz
  subst hzn
  rw [show vI (n : Int) = Value.int (nI n) from congrArg Value.int (iI_nI n).symm]
  exact e_newR X hd hw hn (rmOK_of hR hz1) (e_wide hz1.1 hz1.2 (kk _ (hup_eq _ _ _) (fun _ q => hup_ne q)))
theorem z_tast (X : Cx k G own cc nL R) {i n j v ci : Nat} {z : Int} {fs : List Value} {C : String} {T : u_T} {nf : Nat} {f : Nat → Option Nat} (hd : decode cc pc = .ok (.aastore, 1)) (hc : h i = cT G n f) (hi : i < N) (hzj : z = (j : Int)) (hj : j < n ∧ n < 2147483648) (hv : h v = ob ci fs) (hvi : v < N) (hcl : vwCl[ci]? = some (C, T, nf)) (hasg : Cond.castable C nm_Text ∈ lw_tbl ∨ C = nm_Text) (kk : ∀ h1 : Nat → va_E, h1 i = cT G n (va_up f j (some (ad (g_b G) v))) → (∀ q, q ≠ i → h1 q = h q) → Ev k G nL N cells slots h1 (pc + 1) L st) : Ev k G nL N cells slots h pc L (.ref (ad (g_b G) v) :: vI z :: .ref (ad (g_b G) i) :: st) := by
  subst hzj
  rw [show vI (j : Int) = Value.int (nI j) from congrArg Value.int (iI_nI j).symm]
  refine e_tast X hd hc hi hj.1 hj.2 hv hvi hcl ?_ (kk _ (hup_eq _ _ _) (fun _ q => hup_ne q))
  rcases hasg with hw | rfl
  · exact vb_asgC (X.tb.2.1 _ hw rfl)
  · exact vb_asgS
theorem z_rast (X : Cx k G own cc nL R) {i n j v ci : Nat} {z : Int} {fs : List Value} {C : String} {T : u_T} {nf : Nat} {f : Nat → Option Nat} (hd : decode cc pc = .ok (.aastore, 1)) (hc : h i = cR G n f) (hi : i < N) (hzj : z = (j : Int)) (hj : j < n ∧ n < 2147483648) (hv : h v = ob ci fs) (hvi : v < N) (hcl : vwCl[ci]? = some (C, T, nf)) (hasg : Cond.castable C nm_Row ∈ lw_tbl ∨ C = nm_Row) (kk : ∀ h1 : Nat → va_E, h1 i = cR G n (va_up f j (some (ad (g_b G) v))) → (∀ q, q ≠ i → h1 q = h q) → Ev k G nL N cells slots h1 (pc + 1) L st) : Ev k G nL N cells slots h pc L (.ref (ad (g_b G) v) :: vI z :: .ref (ad (g_b G) i) :: st) := by
  subst hzj
  rw [show vI (j : Int) = Value.int (nI j) from congrArg Value.int (iI_nI j).symm]
  refine e_rast X hd hc hi hj.1 hj.2 hv hvi hcl ?_ (kk _ (hup_eq _ _ _) (fun _ q => hup_ne q))
  rcases hasg with hw | rfl
  · exact vb_asgC (X.tb.2.1 _ hw rfl)
  · exact vb_asgS
theorem z_tsame {i n : Nat} {f f' : Nat → Option Nat} (hc : h i = cT G n f) (hf : ∀ j, j < n → f j = f' j) (kk : ∀ h1 : Nat → va_E, h1 i = cT G n f' → (∀ q, q ≠ i → h1 q = h q) → Ev k G nL N cells slots h1 pc L st) : Ev k G nL N cells slots h pc L st := by
  intro H locs ls hH hS hL
  refine kk (hup h i (cT G n f')) (hup_eq _ _ _) (fun _ q => hup_ne q) H locs ls ⟨hH.1, fun j hj => ?_⟩ hS hL
  by_cases hji : j = i
  · subst hji
    rw [hup_eq]
    have h9 : va_at (g_D G) vwCl (ad (g_b G) j, cT G n f) H := hH.at hj hc
    have h8 : H[ad (g_b G) j]? = some (vp_cell (g_T G) (n, .inr (.inr (.inr (.inr f))))) := h9
    show H[ad (g_b G) j]? = some (vp_cell (g_T G) (n, .inr (.inr (.inr (.inr f')))))
    rw [h8, vp_cell_q, vp_cell_q]
    congr 1
    unfold arrV
    congr 1
    refine congrArg Array.ofFn (funext fun q => ?_)
    exact congrArg va_rf (hf q.val q.isLt)
  · rw [hup_ne hji]
    exact hH.2 j hj
theorem z_rsame {i n : Nat} {f f' : Nat → Option Nat} (hc : h i = cR G n f) (hf : ∀ j, j < n → f j = f' j) (kk : ∀ h1 : Nat → va_E, h1 i = cR G n f' → (∀ q, q ≠ i → h1 q = h q) → Ev k G nL N cells slots h1 pc L st) : Ev k G nL N cells slots h pc L st := by
  intro H locs ls hH hS hL
  refine kk (hup h i (cR G n f')) (hup_eq _ _ _) (fun _ q => hup_ne q) H locs ls ⟨hH.1, fun j hj => ?_⟩ hS hL
  by_cases hji : j = i
  · subst hji
    rw [hup_eq]
    have h9 : va_at (g_D G) vwCl (ad (g_b G) j, cR G n f) H := hH.at hj hc
    have h8 : H[ad (g_b G) j]? = some (vp_cell (g_R G) (n, .inr (.inr (.inr (.inr f))))) := h9
    show H[ad (g_b G) j]? = some (vp_cell (g_R G) (n, .inr (.inr (.inr (.inr f')))))
    rw [h8, vp_cell_q, vp_cell_q]
    congr 1
    unfold arrV
    congr 1
    refine congrArg Array.ofFn (funext fun q => ?_)
    exact congrArg va_rf (hf q.val q.isLt)
  · rw [hup_ne hji]
    exact hH.2 j hj
end EV8
theorem tx_0 : tx_ok 0 (fun _ => -1) := ⟨fun i hi => absurd hi (Nat.not_lt_zero _), fun _ _ => rfl⟩
abbrev tx_e : tx_T := (0, fun _ => -1)
theorem nf_Clu : ∀ j, j < 3 → defaultValue (t_Clu j) = vp_V [vI 0, vI 0, vI 0] j := by
  intro j hj
  match j, hj with
  | 0, _ => rfl
  | 1, _ => rfl
  | 2, _ => rfl
  | n + 3, h => exact absurd h (by omega)
theorem nf_Gap : ∀ j, j < 3 → defaultValue (t_Gap j) = vp_V [.null, vI 0, vI 0] j := by
  intro j hj
  match j, hj with
  | 0, _ => rfl
  | 1, _ => rfl
  | 2, _ => rfl
  | n + 3, h => exact absurd h (by omega)
theorem nf_His : ∀ j, j < 4 → defaultValue (t_His j) = vp_V [.null, vI 0, vI 0, vI 0] j := by
  intro j hj
  match j, hj with
  | 0, _ => rfl
  | 1, _ => rfl
  | 2, _ => rfl
  | 3, _ => rfl
  | n + 4, h => exact absurd h (by omega)
theorem nf_Itm : ∀ j, j < 5 → defaultValue (t_Itm j) = vp_V [.null, .null, vI 0, vI 0, vI 0] j := by
  intro j hj
  match j, hj with
  | 0, _ => rfl
  | 1, _ => rfl
  | 2, _ => rfl
  | 3, _ => rfl
  | 4, _ => rfl
  | n + 5, h => exact absurd h (by omega)
theorem nf_Row : ∀ j, j < 2 → defaultValue (t_Row j) = vp_V [.null, vI 0] j := by
  intro j hj
  match j, hj with
  | 0, _ => rfl
  | 1, _ => rfl
  | n + 2, h => exact absurd h (by omega)
theorem nf_Sea : ∀ j, j < 5 → defaultValue (t_Sea j) = vp_V [.null, .null, .null, vI 0, vI 0] j := by
  intro j hj
  match j, hj with
  | 0, _ => rfl
  | 1, _ => rfl
  | 2, _ => rfl
  | 3, _ => rfl
  | 4, _ => rfl
  | n + 5, h => exact absurd h (by omega)
theorem nf_VT : ∀ j, j < 9 → defaultValue (t_VT j) = vp_V [.null, .null, .null, .null, .null, .null, .null, vI 0, vI 0] j := by
  intro j hj
  match j, hj with
  | 0, _ => rfl
  | 1, _ => rfl
  | 2, _ => rfl
  | 3, _ => rfl
  | 4, _ => rfl
  | 5, _ => rfl
  | 6, _ => rfl
  | 7, _ => rfl
  | 8, _ => rfl
  | n + 9, h => exact absurd h (by omega)
theorem nf_Mod : ∀ j, j < 18 → defaultValue (t_Mod j) = vp_V [.null, .null, vI 0, vI 0, .null, .null, vI 0, vI 0, vI 0, .null, vI 0, vI 0, .null, .null, vI 0, .null, .null, vI 0] j := by
  intro j hj
  match j, hj with
  | 0, _ => rfl
  | 1, _ => rfl
  | 2, _ => rfl
  | 3, _ => rfl
  | 4, _ => rfl
  | 5, _ => rfl
  | 6, _ => rfl
  | 7, _ => rfl
  | 8, _ => rfl
  | 9, _ => rfl
  | 10, _ => rfl
  | 11, _ => rfl
  | 12, _ => rfl
  | 13, _ => rfl
  | 14, _ => rfl
  | 15, _ => rfl
  | 16, _ => rfl
  | 17, _ => rfl
  | n + 18, h => exact absurd h (by omega)
set_option maxRecDepth 100000 in
theorem cl_Law_7 : Cond.classLink R_Law 7 R_VT ∈ lw_tbl ∧ Cond.instantiable R_VT 9 ∈ lw_tbl ∧ Cond.initialized R_VT ∈ lw_tbl := ⟨lw_mem 37 rfl, lw_mem 38 rfl, lw_mem 27 rfl⟩
set_option maxRecDepth 100000 in
theorem cl_VT_9 : Cond.classLink R_VT 9 R_Gap ∈ lw_tbl ∧ Cond.instantiable R_Gap 3 ∈ lw_tbl ∧ Cond.initialized R_Gap ∈ lw_tbl := ⟨lw_mem 45 rfl, lw_mem 46 rfl, lw_mem 28 rfl⟩
set_option maxRecDepth 100000 in
theorem cl_VT_18 : Cond.classLink R_VT 18 R_Row ∈ lw_tbl ∧ Cond.instantiable R_Row 2 ∈ lw_tbl ∧ Cond.initialized R_Row ∈ lw_tbl := ⟨lw_mem 62 rfl, lw_mem 63 rfl, lw_mem 29 rfl⟩
set_option maxRecDepth 100000 in
theorem ca_VT_25 : Cond.classLink R_VT 25 nm_Text ∈ lw_tbl := lw_mem 75 rfl
set_option maxRecDepth 100000 in
theorem cl_VT_35 : Cond.classLink R_VT 35 R_His ∈ lw_tbl ∧ Cond.instantiable R_His 4 ∈ lw_tbl ∧ Cond.initialized R_His ∈ lw_tbl := ⟨lw_mem 77 rfl, lw_mem 78 rfl, lw_mem 30 rfl⟩
set_option maxRecDepth 100000 in
theorem cl_His_11 : Cond.classLink R_His 11 R_Row ∈ lw_tbl ∧ Cond.instantiable R_Row 2 ∈ lw_tbl ∧ Cond.initialized R_Row ∈ lw_tbl := ⟨lw_mem 83 rfl, lw_mem 63 rfl, lw_mem 29 rfl⟩
set_option maxRecDepth 100000 in
theorem ca_His_11 : Cond.classLink R_His 11 nm_Row ∈ lw_tbl := lw_mem 83 rfl
set_option maxRecDepth 100000 in
theorem cl_VT_42 : Cond.classLink R_VT 42 R_Itm ∈ lw_tbl ∧ Cond.instantiable R_Itm 5 ∈ lw_tbl ∧ Cond.initialized R_Itm ∈ lw_tbl := ⟨lw_mem 100 rfl, lw_mem 101 rfl, lw_mem 31 rfl⟩
set_option maxRecDepth 100000 in
theorem cl_Itm_15 : Cond.classLink R_Itm 15 R_Clu ∈ lw_tbl ∧ Cond.instantiable R_Clu 3 ∈ lw_tbl ∧ Cond.initialized R_Clu ∈ lw_tbl := ⟨lw_mem 106 rfl, lw_mem 107 rfl, lw_mem 32 rfl⟩
set_option maxRecDepth 100000 in
theorem cl_VT_49 : Cond.classLink R_VT 49 R_Sea ∈ lw_tbl ∧ Cond.instantiable R_Sea 5 ∈ lw_tbl ∧ Cond.initialized R_Sea ∈ lw_tbl := ⟨lw_mem 139 rfl, lw_mem 140 rfl, lw_mem 33 rfl⟩
set_option maxRecDepth 100000 in
theorem cl_Law_18 : Cond.classLink R_Law 18 R_Mod ∈ lw_tbl ∧ Cond.instantiable R_Mod 18 ∈ lw_tbl ∧ Cond.initialized R_Mod ∈ lw_tbl := ⟨lw_mem 536 rfl, lw_mem 537 rfl, lw_mem 34 rfl⟩
set_option maxRecDepth 100000 in
theorem aw_char : Cond.arrayClass .char ∈ lw_tbl := lw_mem 61 rfl
set_option maxRecDepth 100000 in
theorem aw_int : Cond.arrayClass .int ∈ lw_tbl := lw_mem 122 rfl
set_option maxRecDepth 100000 in
theorem aw_boolean : Cond.arrayClass .boolean ∈ lw_tbl := lw_mem 99 rfl
set_option maxRecDepth 100000 in
theorem as_Row : Cond.castable R_Row nm_Text ∈ lw_tbl := lw_mem 237 rfl
set_option maxRecDepth 100000 in
theorem as_Gap : Cond.castable R_Gap nm_Text ∈ lw_tbl := lw_mem 231 rfl
