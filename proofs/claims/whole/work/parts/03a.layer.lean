/-! ints by their numbers -/
def iI (z : Int) : Int32 := Int32.ofInt z
theorem iI_add (a b : Int) : iI a + iI b = iI (a + b) := (Int32.ofInt_add a b).symm
theorem iI_sub (a b : Int) : iI a - iI b = iI (a - b) := (Int32.ofInt_sub a b).symm
theorem iI_mul (a b : Int) : iI a * iI b = iI (a * b) := (Int32.ofInt_mul a b).symm
theorem iI_toInt {z : Int} (h : -2147483648 ≤ z ∧ z < 2147483648) : (iI z).toInt = z := Int32.toInt_ofInt_of_le (by simpa using h.1) (by simpa using h.2)
theorem iI_of (x : Int32) : x = iI x.toInt := (Int32.ofInt_toInt x).symm
theorem iI_rg (x : Int32) : -2147483648 ≤ x.toInt ∧ x.toInt < 2147483648 := ⟨by simpa using x.minValue_le_toInt, by have := x.toInt_lt; simpa using this⟩
theorem iI_clamp {z : Int} {n : Nat} (h : z = (n : Int)) (hn : n < 2147483648) : (iI z).toNatClampNeg = n := by
  subst h
  show (iI (n : Int)).toInt.toNat = n
  rw [iI_toInt (by omega)]
  omega
theorem iI_lt {a b : Int} (ha : -2147483648 ≤ a ∧ a < 2147483648) (hb : -2147483648 ≤ b ∧ b < 2147483648) : iI a < iI b ↔ a < b := by
  rw [Int32.lt_iff_toInt_lt, iI_toInt ha, iI_toInt hb]
theorem iI_le {a b : Int} (ha : -2147483648 ≤ a ∧ a < 2147483648) (hb : -2147483648 ≤ b ∧ b < 2147483648) : iI a ≤ iI b ↔ a ≤ b := by
  rw [Int32.le_iff_toInt_le, iI_toInt ha, iI_toInt hb]
theorem iI_eq {a b : Int} (ha : -2147483648 ≤ a ∧ a < 2147483648) (hb : -2147483648 ≤ b ∧ b < 2147483648) : iI a = iI b ↔ a = b := by
  constructor
  · intro h
    have := congrArg Int32.toInt h
    rwa [iI_toInt ha, iI_toInt hb] at this
  · intro h
    rw [h]
theorem iI_0 : (0 : Int32) = iI 0 := by decide
theorem iI_nI (n : Nat) : nI n = iI (n : Int) := by
  unfold nI iI
  first | rfl | exact (Int32.ofInt_natCast n).symm | simp
theorem iI_in {z : Int} {n j : Nat} (h : z = (j : Int)) (hj : j < n) (hn : n < 2147483648) : vp_in (iI z) n := by
  subst h
  rw [← iI_nI]
  exact vp_in_nI hj hn
theorem iI_char {z : Int} (h : 0 ≤ z ∧ z < 65536) : narrow .char (.int (iI z)) = .int (iI z) ∧ fits .char (.int (iI z)) = true := by
  obtain ⟨n, rfl⟩ : ∃ n : Nat, z = (n : Int) := ⟨z.toNat, by omega⟩
  rw [← iI_nI]
  exact pk_charN (by omega)
theorem iI_i2c {z : Int} (h : 0 ≤ z ∧ z < 65536) : ((iI z).toUInt32 % 65536).toInt32 = iI z := by
  obtain ⟨n, rfl⟩ : ∃ n : Nat, z = (n : Int) := ⟨z.toNat, by omega⟩
  rw [← iI_nI, pk_char, pk_tn (by omega), Nat.mod_eq_of_lt (by omega)]
theorem iI_rem {a b : Int} (ha : 0 ≤ a ∧ a < 2147483648) (hb : 0 < b ∧ b < 2147483648) : iI a - iI a / iI b * iI b = iI (a % b) := by
  obtain ⟨m, rfl⟩ : ∃ n : Nat, a = (n : Int) := ⟨a.toNat, by omega⟩
  obtain ⟨n, rfl⟩ : ∃ n : Nat, b = (n : Int) := ⟨b.toNat, by omega⟩
  rw [← iI_nI, ← iI_nI, pk_rem (by omega) (by omega) (by omega), iI_nI]
  rfl
def zup (u : Nat → Int) (j : Nat) (z : Int) : Nat → Int := fun q => if q = j then z else u q
theorem zup_eq (u : Nat → Int) (j : Nat) (z : Int) : zup u j z j = z := if_pos rfl
theorem zup_ne {u : Nat → Int} {j q : Nat} {z : Int} (h : q ≠ j) : zup u j z q = u q := if_neg h
theorem upd_z (u : Nat → Int) (j : Nat) (z : Int) : upd (fun q => iI (u q)) j (iI z) = fun q => iI (zup u j z q) := by
  funext q
  by_cases h : q = j
  · simp [upd, zup, h]
  · simp [upd, zup, h]
def zcp (u v : Nat → Int) (sp dp n : Nat) : Nat → Int := va_cpy u v sp dp n
theorem cpy_z (u v : Nat → Int) (sp dp n : Nat) : va_cpy (fun q => iI (u q)) (fun q => iI (v q)) sp dp n = fun q => iI (zcp u v sp dp n q) := by
  funext q
  by_cases h : dp ≤ q ∧ q < dp + n
  · simp [zcp, va_cpy, h]
  · simp [zcp, va_cpy, h]
/-- rows of ints, by their numbers -/
def rC (G : lx_G) (n : Nat) (u : Nat → Int) : va_E := cC G n (fun q => iI (u q))
def rI (G : lx_G) (n : Nat) (u : Nat → Int) : va_E := cI G n (fun q => iI (u q))
def rZ (G : lx_G) (n : Nat) (u : Nat → Int) : va_E := cZ G n (fun q => iI (u q))
/-- a field's or a local's int -/
abbrev vI (z : Int) : Value := .int (iI z)
section EZ
variable {k : lx_K} {G : lx_G} {own : String} {cc : ByteArray} {nL N cells slots pc : Nat} {R : Room} {h : Nat → va_E} {L : List (Option Value)} {st : List Value}
theorem z_iconst (X : Cx k G own cc nL R) {n : Int} (hd : decode cc pc = .ok (.iconst n, 1)) (kk : Ev k G nL N cells slots h (pc + 1) L (vI n :: st)) : Ev k G nL N cells slots h pc L st := e_iconst X hd rfl kk
theorem z_bipush (X : Cx k G own cc nL R) {n : Int} (hd : decode cc pc = .ok (.bipush n, 2)) (hn : (Int8.ofInt n).toInt32 = iI n) (kk : Ev k G nL N cells slots h (pc + 2) L (vI n :: st)) : Ev k G nL N cells slots h pc L st := e_bipush X hd hn kk
theorem z_sipush (X : Cx k G own cc nL R) {n : Int} (hd : decode cc pc = .ok (.sipush n, 3)) (hn : (Int16.ofInt n).toInt32 = iI n) (kk : Ev k G nL N cells slots h (pc + 3) L (vI n :: st)) : Ev k G nL N cells slots h pc L st := e_sipush X hd hn kk
theorem z_ldc (X : Cx k G own cc nL R) {index : Nat} {n : Int} {v : Int32} (hd : decode cc pc = .ok (.ldc index, 2)) (hw : Cond.constant own index v ∈ lw_tbl) (hn : v = iI n) (kk : Ev k G nL N cells slots h (pc + 2) L (vI n :: st)) : Ev k G nL N cells slots h pc L st := e_ldc X hd hw gw_const (hn ▸ kk)
theorem z_iload_n (X : Cx k G own cc nL R) {j : Fin 4} {z : Int} (hd : decode cc pc = .ok (.iload_n j, 1)) (hl : L[(j : Nat)]? = some (some (vI z))) (kk : Ev k G nL N cells slots h (pc + 1) L (vI z :: st)) : Ev k G nL N cells slots h pc L st := e_iload_n X hd hl kk
theorem z_iload (X : Cx k G own cc nL R) {j : Nat} {z : Int} (hd : decode cc pc = .ok (.iload j, 2)) (hl : L[j]? = some (some (vI z))) (kk : Ev k G nL N cells slots h (pc + 2) L (vI z :: st)) : Ev k G nL N cells slots h pc L st := e_iload X hd hl kk
theorem z_iinc (X : Cx k G own cc nL R) {j : Nat} {n z : Int} (hd : decode cc pc = .ok (.iinc j n, 3)) (hl : L[j]? = some (some (vI z))) (hj : j < nL) (kk : Ev k G nL N cells slots h (pc + 3) (L.set j (some (vI (z + n)))) st) : Ev k G nL N cells slots h pc L st := e_iinc X hd hl (iI_add z n) hj kk
theorem z_iadd (X : Cx k G own cc nL R) {a b : Int} (hd : decode cc pc = .ok (.iadd, 1)) (kk : Ev k G nL N cells slots h (pc + 1) L (vI (a + b) :: st)) : Ev k G nL N cells slots h pc L (vI b :: vI a :: st) := e_iadd X hd (e_top (iI_add a b) kk)
theorem z_isub (X : Cx k G own cc nL R) {a b : Int} (hd : decode cc pc = .ok (.isub, 1)) (kk : Ev k G nL N cells slots h (pc + 1) L (vI (a - b) :: st)) : Ev k G nL N cells slots h pc L (vI b :: vI a :: st) := e_isub X hd (e_top (iI_sub a b) kk)
theorem z_imul (X : Cx k G own cc nL R) {a b : Int} (hd : decode cc pc = .ok (.imul, 1)) (kk : Ev k G nL N cells slots h (pc + 1) L (vI (a * b) :: st)) : Ev k G nL N cells slots h pc L (vI b :: vI a :: st) := e_imul X hd (e_top (iI_mul a b) kk)
theorem z_irem (X : Cx k G own cc nL R) {a b : Int} (hd : decode cc pc = .ok (.irem, 1)) (ha : 0 ≤ a ∧ a < 2147483648) (hb : 0 < b ∧ b < 2147483648) (kk : Ev k G nL N cells slots h (pc + 1) L (vI (a % b) :: st)) : Ev k G nL N cells slots h pc L (vI b :: vI a :: st) := e_irem X hd (fun q => by rw [iI_0] at q; have := (iI_eq (by omega) (by omega)).mp q; omega) (e_top (iI_rem ha hb) kk)
theorem z_i2c (X : Cx k G own cc nL R) {z : Int} (hd : decode cc pc = .ok (.i2c, 1)) (hz : 0 ≤ z ∧ z < 65536) (kk : Ev k G nL N cells slots h (pc + 1) L (vI z :: st)) : Ev k G nL N cells slots h pc L (vI z :: st) := e_i2c X hd (iI_i2c hz) kk
theorem z_top {a b : Int} (hv : a = b) (kk : Ev k G nL N cells slots h pc L (vI b :: st)) : Ev k G nL N cells slots h pc L (vI a :: st) := hv ▸ kk
theorem z_if_eq (X : Cx k G own cc nL R) {a : Int} {off : Int} {tgt : Nat} (hd : decode cc pc = .ok (.ifCond .eq off, 3)) (ht : (pc : Int) + off = (tgt : Int)) (hr : (-2147483648 ≤ a ∧ a < 2147483648)) (kt : a = 0 → Ev k G nL N cells slots h tgt L st) (kf : ¬ a = 0 → Ev k G nL N cells slots h (pc + 3) L st) : Ev k G nL N cells slots h pc L (vI a :: st) := e_if_eq X hd ht (fun c9 => kt (by rw [iI_0] at c9; exact (iI_eq hr (by decide)).mp c9)) (fun c9 => kf (fun q => c9 (by rw [iI_0]; exact (iI_eq hr (by decide)).mpr q)))
theorem z_icmp_eq (X : Cx k G own cc nL R) {a b : Int} {off : Int} {tgt : Nat} (hd : decode cc pc = .ok (.if_icmp .eq off, 3)) (ht : (pc : Int) + off = (tgt : Int)) (hr : (-2147483648 ≤ a ∧ a < 2147483648) ∧ (-2147483648 ≤ b ∧ b < 2147483648)) (kt : a = b → Ev k G nL N cells slots h tgt L st) (kf : ¬ a = b → Ev k G nL N cells slots h (pc + 3) L st) : Ev k G nL N cells slots h pc L (vI b :: vI a :: st) := e_icmp_eq X hd ht (fun c9 => kt (by exact (iI_eq hr.1 hr.2).mp c9)) (fun c9 => kf (fun q => c9 (by exact (iI_eq hr.1 hr.2).mpr q)))
theorem z_if_ne (X : Cx k G own cc nL R) {a : Int} {off : Int} {tgt : Nat} (hd : decode cc pc = .ok (.ifCond .ne off, 3)) (ht : (pc : Int) + off = (tgt : Int)) (hr : (-2147483648 ≤ a ∧ a < 2147483648)) (kt : ¬ a = 0 → Ev k G nL N cells slots h tgt L st) (kf : a = 0 → Ev k G nL N cells slots h (pc + 3) L st) : Ev k G nL N cells slots h pc L (vI a :: st) := e_if_ne X hd ht (fun c9 => kt (fun q => c9 (by rw [iI_0]; exact (iI_eq hr (by decide)).mpr q))) (fun c9 => kf (by rw [iI_0] at c9; exact (iI_eq hr (by decide)).mp c9))
theorem z_icmp_ne (X : Cx k G own cc nL R) {a b : Int} {off : Int} {tgt : Nat} (hd : decode cc pc = .ok (.if_icmp .ne off, 3)) (ht : (pc : Int) + off = (tgt : Int)) (hr : (-2147483648 ≤ a ∧ a < 2147483648) ∧ (-2147483648 ≤ b ∧ b < 2147483648)) (kt : ¬ a = b → Ev k G nL N cells slots h tgt L st) (kf : a = b → Ev k G nL N cells slots h (pc + 3) L st) : Ev k G nL N cells slots h pc L (vI b :: vI a :: st) := e_icmp_ne X hd ht (fun c9 => kt (fun q => c9 (by exact (iI_eq hr.1 hr.2).mpr q))) (fun c9 => kf (by exact (iI_eq hr.1 hr.2).mp c9))
theorem z_if_lt (X : Cx k G own cc nL R) {a : Int} {off : Int} {tgt : Nat} (hd : decode cc pc = .ok (.ifCond .lt off, 3)) (ht : (pc : Int) + off = (tgt : Int)) (hr : (-2147483648 ≤ a ∧ a < 2147483648)) (kt : a < 0 → Ev k G nL N cells slots h tgt L st) (kf : 0 ≤ a → Ev k G nL N cells slots h (pc + 3) L st) : Ev k G nL N cells slots h pc L (vI a :: st) := e_if_lt X hd ht (fun c9 => kt (by rw [iI_0] at c9; exact (iI_lt hr (by decide)).mp c9)) (fun c9 => kf (by rw [iI_0] at c9; rw [iI_lt hr (by decide)] at c9; omega))
theorem z_icmp_lt (X : Cx k G own cc nL R) {a b : Int} {off : Int} {tgt : Nat} (hd : decode cc pc = .ok (.if_icmp .lt off, 3)) (ht : (pc : Int) + off = (tgt : Int)) (hr : (-2147483648 ≤ a ∧ a < 2147483648) ∧ (-2147483648 ≤ b ∧ b < 2147483648)) (kt : a < b → Ev k G nL N cells slots h tgt L st) (kf : b ≤ a → Ev k G nL N cells slots h (pc + 3) L st) : Ev k G nL N cells slots h pc L (vI b :: vI a :: st) := e_icmp_lt X hd ht (fun c9 => kt (by exact (iI_lt hr.1 hr.2).mp c9)) (fun c9 => kf (by rw [iI_lt hr.1 hr.2] at c9; omega))
theorem z_if_ge (X : Cx k G own cc nL R) {a : Int} {off : Int} {tgt : Nat} (hd : decode cc pc = .ok (.ifCond .ge off, 3)) (ht : (pc : Int) + off = (tgt : Int)) (hr : (-2147483648 ≤ a ∧ a < 2147483648)) (kt : 0 ≤ a → Ev k G nL N cells slots h tgt L st) (kf : a < 0 → Ev k G nL N cells slots h (pc + 3) L st) : Ev k G nL N cells slots h pc L (vI a :: st) := e_if_ge X hd ht (fun c9 => kt (by rw [iI_0] at c9; exact (iI_le (by decide) hr).mp c9)) (fun c9 => kf (by rw [iI_0] at c9; rw [iI_le (by decide) hr] at c9; omega))
theorem z_icmp_ge (X : Cx k G own cc nL R) {a b : Int} {off : Int} {tgt : Nat} (hd : decode cc pc = .ok (.if_icmp .ge off, 3)) (ht : (pc : Int) + off = (tgt : Int)) (hr : (-2147483648 ≤ a ∧ a < 2147483648) ∧ (-2147483648 ≤ b ∧ b < 2147483648)) (kt : b ≤ a → Ev k G nL N cells slots h tgt L st) (kf : a < b → Ev k G nL N cells slots h (pc + 3) L st) : Ev k G nL N cells slots h pc L (vI b :: vI a :: st) := e_icmp_ge X hd ht (fun c9 => kt (by exact (iI_le hr.2 hr.1).mp c9)) (fun c9 => kf (by rw [iI_le hr.2 hr.1] at c9; omega))
theorem z_if_gt (X : Cx k G own cc nL R) {a : Int} {off : Int} {tgt : Nat} (hd : decode cc pc = .ok (.ifCond .gt off, 3)) (ht : (pc : Int) + off = (tgt : Int)) (hr : (-2147483648 ≤ a ∧ a < 2147483648)) (kt : 0 < a → Ev k G nL N cells slots h tgt L st) (kf : a ≤ 0 → Ev k G nL N cells slots h (pc + 3) L st) : Ev k G nL N cells slots h pc L (vI a :: st) := e_if_gt X hd ht (fun c9 => kt (by rw [iI_0] at c9; exact (iI_lt (by decide) hr).mp c9)) (fun c9 => kf (by rw [iI_0] at c9; rw [iI_lt (by decide) hr] at c9; omega))
theorem z_icmp_gt (X : Cx k G own cc nL R) {a b : Int} {off : Int} {tgt : Nat} (hd : decode cc pc = .ok (.if_icmp .gt off, 3)) (ht : (pc : Int) + off = (tgt : Int)) (hr : (-2147483648 ≤ a ∧ a < 2147483648) ∧ (-2147483648 ≤ b ∧ b < 2147483648)) (kt : b < a → Ev k G nL N cells slots h tgt L st) (kf : a ≤ b → Ev k G nL N cells slots h (pc + 3) L st) : Ev k G nL N cells slots h pc L (vI b :: vI a :: st) := e_icmp_gt X hd ht (fun c9 => kt (by exact (iI_lt hr.2 hr.1).mp c9)) (fun c9 => kf (by rw [iI_lt hr.2 hr.1] at c9; omega))
theorem z_if_le (X : Cx k G own cc nL R) {a : Int} {off : Int} {tgt : Nat} (hd : decode cc pc = .ok (.ifCond .le off, 3)) (ht : (pc : Int) + off = (tgt : Int)) (hr : (-2147483648 ≤ a ∧ a < 2147483648)) (kt : a ≤ 0 → Ev k G nL N cells slots h tgt L st) (kf : 0 < a → Ev k G nL N cells slots h (pc + 3) L st) : Ev k G nL N cells slots h pc L (vI a :: st) := e_if_le X hd ht (fun c9 => kt (by rw [iI_0] at c9; exact (iI_le hr (by decide)).mp c9)) (fun c9 => kf (by rw [iI_0] at c9; rw [iI_le hr (by decide)] at c9; omega))
theorem z_icmp_le (X : Cx k G own cc nL R) {a b : Int} {off : Int} {tgt : Nat} (hd : decode cc pc = .ok (.if_icmp .le off, 3)) (ht : (pc : Int) + off = (tgt : Int)) (hr : (-2147483648 ≤ a ∧ a < 2147483648) ∧ (-2147483648 ≤ b ∧ b < 2147483648)) (kt : a ≤ b → Ev k G nL N cells slots h tgt L st) (kf : b < a → Ev k G nL N cells slots h (pc + 3) L st) : Ev k G nL N cells slots h pc L (vI b :: vI a :: st) := e_icmp_le X hd ht (fun c9 => kt (by exact (iI_le hr.1 hr.2).mp c9)) (fun c9 => kf (by rw [iI_le hr.1 hr.2] at c9; omega))
theorem z_put (X : Cx k G own cc nL R) {i idx ci kf : Nat} {ty : FieldType} {fs : List Value} {v : Value} (hd : decode cc pc = .ok (.putfield idx, 3)) (hF : FL own idx ci kf false ty) (hc : h i = ob ci fs) (hi : i < N) (hl : kf < fs.length) (hn : narrow ty v = v) (hfit : fits ty v = true) (kk : ∀ h1 : Nat → va_E, h1 i = ob ci (fs.set kf v) → (∀ j, j ≠ i → h1 j = h j) → Ev k G nL N cells slots h1 (pc + 3) L st) : Ev k G nL N cells slots h pc L (v :: .ref (ad (g_b G) i) :: st) := e_put X hd hF hc hi hl hn hfit (kk _ (hup_eq _ _ _) (fun _ q => hup_ne q))
theorem z_putF (X : Cx k G own cc nL R) {i idx ci kf : Nat} {ty : FieldType} {fs : List Value} {v : Value} (hin2 : (k_M k).name = "<init>") (hd : decode cc pc = .ok (.putfield idx, 3)) (hF : FL own idx ci kf true ty) (hc : h i = ob ci fs) (hi : i < N) (hl : kf < fs.length) (hn : narrow ty v = v) (hfit : fits ty v = true) (kk : ∀ h1 : Nat → va_E, h1 i = ob ci (fs.set kf v) → (∀ j, j ≠ i → h1 j = h j) → Ev k G nL N cells slots h1 (pc + 3) L st) : Ev k G nL N cells slots h pc L (v :: .ref (ad (g_b G) i) :: st) := e_putF X hin2 hd hF hc hi hl hn hfit (kk _ (hup_eq _ _ _) (fun _ q => hup_ne q))
theorem z_iald (X : Cx k G own cc nL R) {i n j : Nat} {z : Int} {u : Nat → Int} (hd : decode cc pc = .ok (.iaload, 1)) (hc : h i = rI G n u) (hi : i < N) (hz : z = (j : Int)) (hj : j < n ∧ n < 2147483648) (kk : Ev k G nL N cells slots h (pc + 1) L (vI (u j) :: st)) : Ev k G nL N cells slots h pc L (vI z :: .ref (ad (g_b G) i) :: st) := by
  subst hz
  rw [show vI (j : Int) = Value.int (nI j) from congrArg Value.int (iI_nI j).symm]
  exact e_iald X hd (f := fun q => iI (u q)) hc hi hj.1 hj.2 kk
theorem z_cald (X : Cx k G own cc nL R) {i n j : Nat} {z : Int} {u : Nat → Int} (hd : decode cc pc = .ok (.caload, 1)) (hc : h i = rC G n u) (hi : i < N) (hz : z = (j : Int)) (hj : j < n ∧ n < 2147483648) (kk : Ev k G nL N cells slots h (pc + 1) L (vI (u j) :: st)) : Ev k G nL N cells slots h pc L (vI z :: .ref (ad (g_b G) i) :: st) := by
  subst hz
  rw [show vI (j : Int) = Value.int (nI j) from congrArg Value.int (iI_nI j).symm]
  exact e_cald X hd (f := fun q => iI (u q)) hc hi hj.1 hj.2 kk
theorem z_zald (X : Cx k G own cc nL R) {i n j : Nat} {z : Int} {u : Nat → Int} (hd : decode cc pc = .ok (.baload, 1)) (hc : h i = rZ G n u) (hi : i < N) (hz : z = (j : Int)) (hj : j < n ∧ n < 2147483648) (kk : Ev k G nL N cells slots h (pc + 1) L (vI (u j) :: st)) : Ev k G nL N cells slots h pc L (vI z :: .ref (ad (g_b G) i) :: st) := by
  subst hz
  rw [show vI (j : Int) = Value.int (nI j) from congrArg Value.int (iI_nI j).symm]
  exact e_zald X hd (f := fun q => iI (u q)) hc hi hj.1 hj.2 kk
theorem z_iast (X : Cx k G own cc nL R) {i n j : Nat} {z x : Int} {u : Nat → Int} (hd : decode cc pc = .ok (.iastore, 1)) (hc : h i = rI G n u) (hi : i < N) (hz : z = (j : Int)) (hj : j < n ∧ n < 2147483648) (kk : ∀ h1 : Nat → va_E, h1 i = rI G n (zup u j x) → (∀ q, q ≠ i → h1 q = h q) → Ev k G nL N cells slots h1 (pc + 1) L st) : Ev k G nL N cells slots h pc L (vI x :: vI z :: .ref (ad (g_b G) i) :: st) := by
  subst hz
  rw [show vI (j : Int) = Value.int (nI j) from congrArg Value.int (iI_nI j).symm]
  refine e_iast X hd (f := fun q => iI (u q)) hc hi hj.1 hj.2 (kk _ ?_ (fun _ q => hup_ne q))
  rw [hup_eq, upd_z]
  rfl
theorem z_cast (X : Cx k G own cc nL R) {i n j : Nat} {z x : Int} {u : Nat → Int} (hd : decode cc pc = .ok (.castore, 1)) (hc : h i = rC G n u) (hi : i < N) (hz : z = (j : Int)) (hj : j < n ∧ n < 2147483648) (hx : narrow .char (vI x) = vI x) (kk : ∀ h1 : Nat → va_E, h1 i = rC G n (zup u j x) → (∀ q, q ≠ i → h1 q = h q) → Ev k G nL N cells slots h1 (pc + 1) L st) : Ev k G nL N cells slots h pc L (vI x :: vI z :: .ref (ad (g_b G) i) :: st) := by
  subst hz
  rw [show vI (j : Int) = Value.int (nI j) from congrArg Value.int (iI_nI j).symm]
  refine e_cast X hd (f := fun q => iI (u q)) hc hi hj.1 hj.2 hx (kk _ ?_ (fun _ q => hup_ne q))
  rw [hup_eq, upd_z]
  rfl
theorem z_zast (X : Cx k G own cc nL R) {i n j : Nat} {z x : Int} {u : Nat → Int} (hd : decode cc pc = .ok (.bastore, 1)) (hc : h i = rZ G n u) (hi : i < N) (hz : z = (j : Int)) (hj : j < n ∧ n < 2147483648) (hx : narrow .boolean (vI x) = vI x) (kk : ∀ h1 : Nat → va_E, h1 i = rZ G n (zup u j x) → (∀ q, q ≠ i → h1 q = h q) → Ev k G nL N cells slots h1 (pc + 1) L st) : Ev k G nL N cells slots h pc L (vI x :: vI z :: .ref (ad (g_b G) i) :: st) := by
  subst hz
  rw [show vI (j : Int) = Value.int (nI j) from congrArg Value.int (iI_nI j).symm]
  refine e_zast X hd (f := fun q => iI (u q)) hc hi hj.1 hj.2 hx (kk _ ?_ (fun _ q => hup_ne q))
  rw [hup_eq, upd_z]
  rfl
theorem z_tald (X : Cx k G own cc nL R) {i n j r : Nat} {z : Int} {f : Nat → Option Nat} (hd : decode cc pc = .ok (.aaload, 1)) (hc : h i = cT G n f) (hi : i < N) (hz : z = (j : Int)) (hj : j < n ∧ n < 2147483648) (hv : f j = some (ad (g_b G) r)) (kk : Ev k G nL N cells slots h (pc + 1) L (.ref (ad (g_b G) r) :: st)) : Ev k G nL N cells slots h pc L (vI z :: .ref (ad (g_b G) i) :: st) := by
  subst hz
  rw [show vI (j : Int) = Value.int (nI j) from congrArg Value.int (iI_nI j).symm]
  exact e_tald X hd hc hi hj.1 hj.2 hv kk
theorem z_rald (X : Cx k G own cc nL R) {i n j r : Nat} {z : Int} {f : Nat → Option Nat} (hd : decode cc pc = .ok (.aaload, 1)) (hc : h i = cR G n f) (hi : i < N) (hz : z = (j : Int)) (hj : j < n ∧ n < 2147483648) (hv : f j = some (ad (g_b G) r)) (kk : Ev k G nL N cells slots h (pc + 1) L (.ref (ad (g_b G) r) :: st)) : Ev k G nL N cells slots h pc L (vI z :: .ref (ad (g_b G) i) :: st) := by
  subst hz
  rw [show vI (j : Int) = Value.int (nI j) from congrArg Value.int (iI_nI j).symm]
  exact e_rald X hd hc hi hj.1 hj.2 hv kk
theorem z_clen (X : Cx k G own cc nL R) {i n : Nat} {u : Nat → Int} (hd : decode cc pc = .ok (.arraylength, 1)) (hc : h i = rC G n u) (hi : i < N) (kk : Ev k G nL N cells slots h (pc + 1) L (vI (n : Int) :: st)) : Ev k G nL N cells slots h pc L (.ref (ad (g_b G) i) :: st) := e_clen X hd (f := fun q => iI (u q)) hc hi (by rw [iI_nI]; exact kk)
theorem z_ccopy (X : Cx k G own cc nL R) {idx i0 i1 n0 n1 sp dp n : Nat} {zs zd zn : Int} {u v : Nat → Int} (hd : decode cc pc = .ok (.invokestatic idx, 3)) (hw : Cond.methodLink own idx arraycopyName ∈ lw_tbl ∧ Cond.native arraycopyName ∈ lw_tbl ∧ Cond.static arraycopyName ∈ lw_tbl ∧ Cond.initialized "java/lang/System" ∈ lw_tbl) (hc0 : h i0 = rC G n0 u) (hi0 : i0 < N) (hc1 : h i1 = rC G n1 v) (hi1 : i1 < N) (hz : zs = (sp : Int) ∧ zd = (dp : Int) ∧ zn = (n : Int)) (hb : n0 < 2147483648 ∧ n1 < 2147483648 ∧ sp + n ≤ n0 ∧ dp + n ≤ n1) (hfit : ∀ i, i < n → 0 ≤ u (sp + i) ∧ u (sp + i) < 65536)
    (hR : 1 ≤ R.frames ∧ (st.map fun v => v.category).sum + (nativeFrameWords "java/lang/System" "arraycopy" 5 + 11) ≤ R.locals) (kk : ∀ h1 : Nat → va_E, h1 i1 = rC G n1 (zcp u v sp dp n) → (∀ q, q ≠ i1 → h1 q = h q) → Ev k G nL N cells slots h1 (pc + 3) L st) : Ev k G nL N cells slots h pc L (vI zn :: vI zd :: .ref (ad (g_b G) i1) :: vI zs :: .ref (ad (g_b G) i0) :: st) := by
  obtain ⟨rfl, rfl, rfl⟩ := hz
  rw [show vI (sp : Int) = Value.int (nI sp) from congrArg Value.int (iI_nI sp).symm, show vI (dp : Int) = Value.int (nI dp) from congrArg Value.int (iI_nI dp).symm, show vI (n : Int) = Value.int (nI n) from congrArg Value.int (iI_nI n).symm]
  refine e_ccopy X hd hw (f := fun q => iI (u q)) (g := fun q => iI (v q)) hc0 hi0 hc1 hi1 hb.1 hb.2.1 hb.2.2.1 hb.2.2.2 (fun i hi => (iI_char (hfit i hi)).2) hR (kk _ ?_ (fun _ q => hup_ne q))
  rw [hup_eq, cpy_z]
  rfl
theorem z_mmax (X : Cx k G own cc nL R) {idx : Nat} {a b : Int} (hd : decode cc pc = .ok (.invokestatic idx, 3)) (hw : Cond.methodLink own idx Lib.Math.max.name ∈ lw_tbl ∧ Cond.static Lib.Math.max.name ∈ lw_tbl ∧ Cond.initialized "java/lang/Math" ∈ lw_tbl ∧ Cond.code Lib.Math.max.name Lib.Math.max.code 2 (some .int) ∈ lw_tbl) (hR : 1 ≤ R.frames ∧ (st.map fun v => v.category).sum + 13 ≤ R.locals ∧ cells ≤ R.cells ∧ slots ≤ R.slots) (hr : (-2147483648 ≤ a ∧ a < 2147483648) ∧ (-2147483648 ≤ b ∧ b < 2147483648)) (kk : Ev k G nL N cells slots h (pc + 3) L (vI (max a b) :: st)) : Ev k G nL N cells slots h pc L (vI b :: vI a :: st) := by
  refine e_mmax X hd hw hR (e_top ?_ kk)
  by_cases hab : a < b
  · rw [if_pos ((iI_lt hr.1 hr.2).mpr hab), Int.max_eq_right (by omega)]
  · rw [if_neg (fun q => hab ((iI_lt hr.1 hr.2).mp q)), Int.max_eq_left (by omega)]
end EZ
