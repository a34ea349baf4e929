/-- the tables give the layer its ground -/
theorem hb_tb {args : Array Value} {s : State} (hts : ∀ w ∈ lw_tbl, w.before args s = true) {w : Cond} (i : Nat) (h : lw_tbl[i]? = some w) : w.before args s = true := hts w (lw_mem i h)
theorem ra_of {args : Array Value} {s : State} {ty : FieldType} (hp : ty = .char ∨ ty = .int ∨ ty = .boolean) (h : (Cond.arrayClass ty).before args s = true) : ∃ cA : ClassId, ArrOfT s cA ty ∧ va_RA s cA ty := by
  obtain ⟨cA, kA, comp, h1, h2, h3⟩ := Cond.arrayClass_spec h
  refine ⟨cA, ?_, ?_⟩
  · rcases hp with rfl | rfl | rfl <;> exact fun n z => ⟨fun k h => (by cases h), kA, h2, comp, h3⟩
  · rcases hp with rfl | rfl | rfl <;> exact h1
theorem rb_of {s : State} {C : String} (h : va_AO C s) : ∃ cA : ClassId, ArrOfT s cA (.object C) ∧ va_RA s cA (.object C) := by
  obtain ⟨comp, cA, kA, h1, h2, h3, h4, h5⟩ := Cond.arrayOver_spec h
  exact ⟨cA, fun n z => ⟨fun k h => (by cases h), kA, h3, comp, h4⟩, kA, comp, h3, h4, h1, h5⟩
set_option maxRecDepth 100000 in
set_option maxHeartbeats 4000000 in
theorem tb_start {args : Array Value} {s : State} (hts : ∀ w ∈ lw_tbl, w.before args s = true) : ∃ G : lx_G, g_b G = s.heap.size ∧ Tb G s := by
  obtain ⟨c0, i0, h0⟩ := u_known (C := R_Clu) (T := F_Clu) (N := 3) (n := 3) hts ck_Clu.2.1 (hb_tb hts 107 rfl)
  obtain ⟨c1, i1, h1⟩ := u_known (C := R_Gap) (T := F_Gap) (N := 3) (n := 3) hts ck_Gap.2.1 (hb_tb hts 46 rfl)
  obtain ⟨c2, i2, h2⟩ := u_known (C := R_His) (T := F_His) (N := 4) (n := 4) hts ck_His.2.1 (hb_tb hts 78 rfl)
  obtain ⟨c3, i3, h3⟩ := u_known (C := R_Itm) (T := F_Itm) (N := 5) (n := 5) hts ck_Itm.2.1 (hb_tb hts 101 rfl)
  obtain ⟨c4, i4, h4⟩ := u_known (C := R_Row) (T := F_Row) (N := 2) (n := 2) hts ck_Row.2.1 (hb_tb hts 63 rfl)
  obtain ⟨c5, i5, h5⟩ := u_known (C := R_Sea) (T := F_Sea) (N := 5) (n := 5) hts ck_Sea.2.1 (hb_tb hts 140 rfl)
  obtain ⟨c6, i6, h6⟩ := u_known (C := R_VT) (T := F_VT) (N := 9) (n := 9) hts ck_VT.2.1 (hb_tb hts 38 rfl)
  obtain ⟨c7, i7, h7⟩ := u_known (C := R_Mod) (T := F_Mod) (N := 18) (n := 18) hts ck_Mod.2.1 (hb_tb hts 537 rfl)
  obtain ⟨aC, rC⟩ := ra_of (Or.inl rfl) (hb_tb (w := Cond.arrayClass .char) hts 61 rfl)
  obtain ⟨aI, rI⟩ := ra_of (Or.inr (Or.inl rfl)) (hb_tb (w := Cond.arrayClass .int) hts 122 rfl)
  obtain ⟨aZ, rZ⟩ := ra_of (Or.inr (Or.inr rfl)) (hb_tb (w := Cond.arrayClass .boolean) hts 99 rfl)
  have oT : va_AO nm_Text s := va_AO.of (hb_tb (w := Cond.arrayOver (.object nm_Text)) hts 76 rfl)
  obtain ⟨aT, rT⟩ := rb_of oT
  have oR : va_AO nm_Row s := va_AO.of (hb_tb (w := Cond.arrayOver (.object nm_Row)) hts 84 rfl)
  obtain ⟨aR, rR⟩ := rb_of oR
  refine ⟨((fun c => match c with | 0 => c0 | 1 => c1 | 2 => c2 | 3 => c3 | 4 => c4 | 5 => c5 | 6 => c6 | _ => c7, fun c => match c with | 0 => i0 | 1 => i1 | 2 => i2 | 3 => i3 | 4 => i4 | 5 => i5 | 6 => i6 | _ => i7), aC, aI, aZ, aT, aR, s.heap.size), rfl, fun w hw hg => word_at (State.WarmedH.refl s) (good_of_word hg) (hts w hw), fun w hw hn => va_Nw.of (isNest_on hn) (hts w hw), fun q hq => ?_, ⟨fun c q hq => ?_, fun k q hq => ?_⟩, oT, oR⟩
  · have hq : q ∈ [(R_Row, y_Txt_length, y_Row_length), (R_Row, y_Txt_at, y_Row_at), (R_Row, y_Txt_cut, y_Row_cut), (R_Row, y_Txt_put, y_Row_put), (R_Row, y_Txt_become, y_Row_become), (R_Gap, y_Txt_length, y_Gap_length), (R_Gap, y_Txt_at, y_Gap_at), (R_Gap, y_Txt_cut, y_Gap_cut), (R_Gap, y_Txt_put, y_Gap_put), (R_Gap, y_Txt_become, y_Gap_become)] := hq
    rcases List.mem_cons.mp hq with rfl | hq
    · exact va_Fw.of (hb_tb hts 230 rfl) (hb_tb hts 229 rfl) (hb_tb hts 240 rfl) (hb_tb hts 239 rfl) (hb_tb hts 237 rfl)
    rcases List.mem_cons.mp hq with rfl | hq
    · exact va_Fw.of (hb_tb hts 261 rfl) (hb_tb hts 260 rfl) (hb_tb hts 271 rfl) (hb_tb hts 269 rfl) (hb_tb hts 237 rfl)
    rcases List.mem_cons.mp hq with rfl | hq
    · exact va_Fw.of (hb_tb hts 376 rfl) (hb_tb hts 375 rfl) (hb_tb hts 384 rfl) (hb_tb hts 383 rfl) (hb_tb hts 237 rfl)
    rcases List.mem_cons.mp hq with rfl | hq
    · exact va_Fw.of (hb_tb hts 322 rfl) (hb_tb hts 321 rfl) (hb_tb hts 341 rfl) (hb_tb hts 339 rfl) (hb_tb hts 237 rfl)
    rcases List.mem_cons.mp hq with rfl | hq
    · exact va_Fw.of (hb_tb hts 408 rfl) (hb_tb hts 407 rfl) (hb_tb hts 420 rfl) (hb_tb hts 419 rfl) (hb_tb hts 237 rfl)
    rcases List.mem_cons.mp hq with rfl | hq
    · exact va_Fw.of (hb_tb hts 230 rfl) (hb_tb hts 229 rfl) (hb_tb hts 235 rfl) (hb_tb hts 233 rfl) (hb_tb hts 231 rfl)
    rcases List.mem_cons.mp hq with rfl | hq
    · exact va_Fw.of (hb_tb hts 261 rfl) (hb_tb hts 260 rfl) (hb_tb hts 265 rfl) (hb_tb hts 263 rfl) (hb_tb hts 231 rfl)
    rcases List.mem_cons.mp hq with rfl | hq
    · exact va_Fw.of (hb_tb hts 376 rfl) (hb_tb hts 375 rfl) (hb_tb hts 380 rfl) (hb_tb hts 378 rfl) (hb_tb hts 231 rfl)
    rcases List.mem_cons.mp hq with rfl | hq
    · exact va_Fw.of (hb_tb hts 322 rfl) (hb_tb hts 321 rfl) (hb_tb hts 326 rfl) (hb_tb hts 324 rfl) (hb_tb hts 231 rfl)
    rcases List.mem_cons.mp hq with rfl | hq
    · exact va_Fw.of (hb_tb hts 408 rfl) (hb_tb hts 407 rfl) (hb_tb hts 412 rfl) (hb_tb hts 410 rfl) (hb_tb hts 231 rfl)
    cases hq
  · match c, hq with
    | 0, hq => cases hq; exact h0
    | 1, hq => cases hq; exact h1
    | 2, hq => cases hq; exact h2
    | 3, hq => cases hq; exact h3
    | 4, hq => cases hq; exact h4
    | 5, hq => cases hq; exact h5
    | 6, hq => cases hq; exact h6
    | 7, hq => cases hq; exact h7
    | n + 8, hq => cases hq
  · match k, hq with
    | 0, hq => cases hq; exact rC
    | 1, hq => cases hq; exact rI
    | 2, hq => cases hq; exact rZ
    | 3, hq => cases hq; exact rT
    | 4, hq => cases hq; exact rR
    | n + 5, hq => cases hq
