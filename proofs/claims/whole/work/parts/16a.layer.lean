/-! the law's own: the script, its reads, cell, the switch -/
def SX (k : lx_K) (G : lx_G) (b Lx : Nat) (xs : Nat → Int32) : Prop := va_X b Lx xs (k_s k) (k_s k).heap ∧ b < (k_s k).heap.size ∧ b < g_b G ∧ Lx < 2147483648
section EV9
variable {k : lx_K} {G : lx_G} {own : String} {cc : ByteArray} {nL N cells slots pc : Nat} {R : Room} {h : Nat → va_E} {L : List (Option Value)} {st : List Value}
theorem z_sld (X : Cx k G own cc nL R) {b Lx j : Nat} {xs : Nat → Int32} {z : Int} (hX : SX k G b Lx xs) (hd : decode cc pc = .ok (.iaload, 1)) (hz : z = (j : Int)) (hj : j < Lx) (kk : Ev k G nL N cells slots h (pc + 1) L (vI (xs j).toInt :: st)) : Ev k G nL N cells slots h pc L (vI z :: .ref b :: st) := by
  intro H locs ls hH hS hL
  refine va_sld X.1 X.2.1 hX.1 hX.2.1 (fun q => absurd hX.2.2.1 (Nat.not_lt.mpr q)) hS (iI_in hz hj hX.2.2.2) hd ?_
  rw [iI_clamp hz (Nat.lt_trans hj hX.2.2.2), iI_of (xs j)]
  exact kk H locs ls hH hS hL
theorem z_slen (X : Cx k G own cc nL R) {b Lx : Nat} {xs : Nat → Int32} (hX : SX k G b Lx xs) (hd : decode cc pc = .ok (.arraylength, 1)) (kk : Ev k G nL N cells slots h (pc + 1) L (vI (Lx : Int) :: st)) : Ev k G nL N cells slots h pc L (.ref b :: st) := by
  intro H locs ls hH hS hL
  refine va_slen X.1 X.2.1 hX.1 hX.2.1 (fun q => absurd hX.2.2.1 (Nat.not_lt.mpr q)) hS hd ?_
  rw [show Int32.ofNat Lx = iI (Lx : Int) from iI_nI Lx]
  exact kk H locs ls hH hS hL
/-- any int as a char -/
def chz (x : Int) : Int := (((iI x).toBitVec.toNat % 65536 : Nat) : Int)
theorem chz_rg (x : Int) : 0 ≤ chz x ∧ chz x < 65536 := by
  unfold chz
  have := Nat.mod_lt (iI x).toBitVec.toNat (show 0 < 65536 by omega)
  omega
theorem z_i2cU (X : Cx k G own cc nL R) {z : Int} (hd : decode cc pc = .ok (.i2c, 1)) (kk : Ev k G nL N cells slots h (pc + 1) L (vI (chz z) :: st)) : Ev k G nL N cells slots h pc L (vI z :: st) := by
  refine e_i2c X hd (v := iI (chz z)) ?_ kk
  rw [pk_char, iI_nI]
  rfl
theorem z_same (X : Cx k G own cc nL R) {z : Int} {off : Int} {tgt : Nat} (hd : decode cc pc = .ok (.if_icmp .eq off, 3)) (ht : (pc : Int) + off = (tgt : Int)) (kk : Ev k G nL N cells slots h tgt L st) : Ev k G nL N cells slots h pc L (vI z :: vI z :: st) := e_icmp_eq X hd ht (fun _ => kk) (fun q => absurd rfl q)
theorem e_tblIn (X : Cx k G own cc nL R) {dflt lo hi : Int} {offs : Array Int} {len : Nat} {x : Int32} {off : Int} {tgt : Nat} (hd : decode cc pc = .ok (.tableswitch dflt lo hi offs, len)) (h1 : ¬ x.toInt < lo) (h2 : ¬ hi < x.toInt) (ho : offs[(x.toInt - lo).toNat]? = some off) (ht : (pc : Int) + off = (tgt : Int)) (kk : Ev k G nL N cells slots h tgt L st) : Ev k G nL N cells slots h pc L (.int x :: st) := fun H locs ls hH hS hL => lv_tableIn X.1 X.2.1 hd h1 h2 ho ht (kk H locs ls hH hS hL)
theorem e_tblOut (X : Cx k G own cc nL R) {dflt lo hi : Int} {offs : Array Int} {len : Nat} {x : Int32} {tgt : Nat} (hd : decode cc pc = .ok (.tableswitch dflt lo hi offs, len)) (h9 : x.toInt < lo ∨ hi < x.toInt) (ht : (pc : Int) + dflt = (tgt : Int)) (kk : Ev k G nL N cells slots h tgt L st) : Ev k G nL N cells slots h pc L (.int x :: st) := fun H locs ls hH hS hL => lv_tableOut X.1 X.2.1 hd h9 ht (kk H locs ls hH hS hL)
end EV9
/-- cell's contract: the script lies there too -/
def xP (G : lx_G) (b Lx : Nat) (xs : Nat → Int32) (N : Nat) (h : Nat → va_E) (av : List Value) : Array Value → State → Prop := va_Pc av (fun U => Hp G N h U.heap ∧ Tb G U ∧ va_X b Lx xs U U.heap)
theorem x_blind {G : lx_G} {b Lx : Nat} {xs : Nat → Int32} {N : Nat} {h : Nat → va_E} {av : List Value} : FrameBlind (xP G b Lx xs N h av) := fun a U g mk q => ⟨q.1, q.2.1, Tb.moved (s := U) (U := U.calling g mk a) (State.WarmedH.refl U) q.2.2.1, va_X.moved (u := U) (U := U.calling g mk a) (State.WarmedH.refl U).alike q.2.2.2⟩
def CtX (l : Launch) (G : lx_G) (b Lx : Nat) (xs : Nat → Int32) (M : lx_M) (N : Nat) (av : List Value) (h : Nat → va_E) (post : Int → (Nat → va_E) → Prop) : Prop := Met l (m_y M) [Cond.code (m_y M) (m_c M) (m_n M) (m_r M)] (m_R M) (xP G b Lx xs N h av) (cq G N (pI post)) (m_R M).cells (m_R M).slots (fun q => g_b G ≤ q)
theorem zX_of {l : Launch} {G : lx_G} {b Lx : Nat} {xs : Nat → Int32} {N : Nat} {h : Nat → va_E} {M : lx_M} {av : List Value} {post : Int → (Nat → va_E) → Prop} (hbG : b < g_b G) (hLx : Lx < 2147483648) (hy : plainName (m_y M).cls = true) (hl : Nat.ble (lg_sl av).length (m_n M) = true) (hc : av.all (fun v => Nat.beq v.category 1) = true)
    (body : ∀ k : lx_K, Cx k G (m_y M).cls (m_c M) (m_n M) (m_R M) → SX k G b Lx xs → Rt k G (m_r M) N (m_R M).cells (m_R M).slots (pI post) → Ev k G (m_n M) N 0 0 h 0 (l_in av (m_n M)) []) : CtX l G b Lx xs M N av h post := by
  refine Met.ofW (cc := m_c M) (maxL := m_n M) (ret := m_r M) hy rfl ?_
  intro p e s m args below meth c s₁ B hml hv
  obtain ⟨rfl, hH, hT, hX⟩ := hv
  have hb : g_b G ≤ s.heap.size := by rw [hH.1]; omega
  have K := body (p, l, e, m_R M, s, m, av.toArray, below, meth, c, MQ below (cq G N (pI post)) av.toArray s (m_R M).cells (m_R M).slots (fun q => g_b G ≤ q)) ⟨B.exec, B.bytes, hml, findClass_of_methodNamed B.named, hT, hb, rfl⟩ ⟨hX, Nat.lt_of_lt_of_le hbG hb, hbG, hLx⟩ ⟨rfl, B.returns, B.notSynchronized⟩
  have W0 := K s.heap [] _ hH va_S.rf (LR.entry av (Nat.le_of_ble_eq_true hl) (cat_of hc))
  rw [lg_entry_eq]
  exact W0
theorem z_callX {k : lx_K} {G : lx_G} {own : String} {cc : ByteArray} {nL N cells slots pc : Nat} {R : Room} {h : Nat → va_E} {L : List (Option Value)} {st : List Value} (X : Cx k G own cc nL R) {b Lx : Nat} {xs : Nat → Int32} (hX : SX k G b Lx xs) {idx n : Nat} {M : lx_M} {As rest : List Value} {post : Int → (Nat → va_E) → Prop} (hd : decode cc pc = .ok (.invokestatic idx, 3)) (hC : CSS own idx M n) (hM : CtX (k_l k) G b Lx xs M N As h post) (hst : st = As.reverse ++ rest) (hn : As.length = n) (hz : (m_R M).cells = 0 ∧ (m_R M).slots = 0) (hR : rOKb M R cells slots (rest.map fun v => v.category).sum = true) (kk : ∀ (z : Int) (h1 : Nat → va_E), post z h1 → Ev k G nL N cells slots h1 (pc + 3) L (vI z :: rest)) : Ev k G nL N cells slots h pc L st := by
  intro H locs ls hH hS hL
  subst hst
  have hRk := X.R
  obtain ⟨hr1, hr2, hr3⟩ := rOK_of hR
  refine run_after (va_runS (Ts := []) (rest := rest) (As := As) ⟨X.1, X.2.1, X.2.2.1, X.own, fun w h9 => by cases h9⟩ hM ⟨cs_B X.tb hC.1 (by rw [hRk]; exact hr1), X.tb.word hC.2 gw_static _⟩ ⟨x_blind, fun U hU hW => ⟨rfl, by rw [hU]; exact hH, X.tb.moved hW, ?_⟩⟩ rfl hn hL.1 rfl (lv_room hr3) hd (by rw [hRk]; exact hr2)) hS hL (fun v h1 hp => ?_)
  · rw [hU]
    exact va_X.kept (va_X.moved hW.alike hX.1) (hS.2.1 b hX.2.1 (fun q => absurd hX.2.2.1 (Nat.not_lt.mpr q)))
  · obtain ⟨z, rfl, hp⟩ := hp
    have K := kk z h1 hp
    rw [hz.1, hz.2]
    exact K
/-- the text of the newest step, under the words of both sides -/
theorem hp_at {now : Nat} {T : Nat → tx_T} {x : tx_T} (h : now ≤ 8) : hp_T now T x (hp_now now) = x := by
  unfold hp_T hp_now
  by_cases h9 : now < 8
  · rw [if_pos h9, if_pos h9, if_pos rfl]
  · rw [if_neg h9, if_neg h9, if_pos rfl]
theorem hT_at {e : Bool} {now : Nat} {T : Nat → tx_T} {x : tx_T} (h : now ≤ 8) : hT e now T x (hn e now) = x := by
  unfold hT hn
  cases e
  · exact hp_at h
  · exact if_pos rfl
