set_option maxRecDepth 100000 in
set_option maxHeartbeats 4000000 in
theorem c_Row_init {l : Launch} {G : lx_G} {i cap : Nat} {z : Int} {h : Nat → va_E} (hc : h i = ob ci_Row [.null, vI 0]) (hz : z = ((cap : Nat) : Int)) (hcap : cap ≤ 160) : CtN l G m_Row_init (i + 1) (i + 2) [.ref (ad (g_b G) i), vI (z)] h (fun h' => Rw G h' i cap 0 (fun _ => -1) ∧ ∀ q, q < i → h' q = h q) := by
  refine zN_of (by decide) rfl rfl ?_
  intro k X Q hin
  have X : Cx k G R_Row b_Row_init 2 rm_Row_init := X
  have Q : Rt k G none (i + 2) 1 160 (pV (fun h' => Rw G h' i cap 0 (fun _ => -1) ∧ ∀ q, q < i → h' q = h q)) := Q
  show Ev k G 2 (i + 1) 0 0 h 0 [some (.ref (ad (g_b G) i)), some (vI (z))] []
  refine e_aload_n X d_Row_init_0 rfl ?_
  refine e_objInit X d_Row_init_1 oi_Row (by decide) ?_
  refine e_aload_n X d_Row_init_4 rfl ?_
  refine z_iload_n X d_Row_init_5 rfl ?_
  refine z_newc (n := cap) (N' := (i + 2)) (c1 := 1) (s1 := 160) X d_Row_init_6 aw_char (by omega) (by omega) (by omega) rfl (fun h1 c2 fr3 => ?_)
  have c4 := (fr3 i (by omega)).trans hc
  refine z_putF X hin d_Row_init_8 fl_Row_9 c4 (by omega) (Nat.le_of_ble_eq_true rfl) rfl rfl (fun h5 c6 fr7 => ?_)
  have c6 : h5 i = ob ci_Row [.ref (ad (g_b G) (i + 1)), vI 0] := c6
  have c8 := (fr7 (i + 1) (by omega)).trans c2
  refine e_aload_n X d_Row_init_11 rfl ?_
  refine z_iconst X d_Row_init_12 ?_
  refine z_put X d_Row_init_13 fl_Row_15 c6 (by omega) (Nat.le_of_ble_eq_true rfl) rfl rfl (fun h9 c10 fr11 => ?_)
  have c10 : h9 i = ob ci_Row [.ref (ad (g_b G) (i + 1)), vI 0] := c10
  have c12 := (fr11 (i + 1) (by omega)).trans c8
  exact z_return X Q d_Row_init_16 ⟨⟨_, c10, c12, Nat.zero_le _, hcap, fun k _ => by omega, fun k hk => absurd hk (Nat.not_lt_zero _), tx_0⟩, fun q hq => (fr11 q (by omega)).trans ((fr7 q (by omega)).trans (fr3 q (by omega)))⟩

set_option maxRecDepth 100000 in
set_option maxHeartbeats 4000000 in
theorem c_Gap_init {l : Launch} {G : lx_G} {i cap : Nat} {z : Int} {h : Nat → va_E} (hc : h i = ob ci_Gap [.null, vI 0, vI 0]) (hz : z = ((cap : Nat) : Int)) (hcap : cap ≤ 160) : CtN l G m_Gap_init (i + 1) (i + 2) [.ref (ad (g_b G) i), vI (z)] h (fun h' => Gp G h' i cap 0 (fun _ => -1) ∧ ∀ q, q < i → h' q = h q) := by
  refine zN_of (by decide) rfl rfl ?_
  intro k X Q hin
  have X : Cx k G R_Gap b_Gap_init 2 rm_Gap_init := X
  have Q : Rt k G none (i + 2) 1 160 (pV (fun h' => Gp G h' i cap 0 (fun _ => -1) ∧ ∀ q, q < i → h' q = h q)) := Q
  show Ev k G 2 (i + 1) 0 0 h 0 [some (.ref (ad (g_b G) i)), some (vI (z))] []
  refine e_aload_n X d_Gap_init_0 rfl ?_
  refine e_objInit X d_Gap_init_1 oi_Gap (by decide) ?_
  refine e_aload_n X d_Gap_init_4 rfl ?_
  refine z_iload_n X d_Gap_init_5 rfl ?_
  refine z_newc (n := cap) (N' := (i + 2)) (c1 := 1) (s1 := 160) X d_Gap_init_6 aw_char (by omega) (by omega) (by omega) rfl (fun h1 c2 fr3 => ?_)
  have c4 := (fr3 i (by omega)).trans hc
  refine z_putF X hin d_Gap_init_8 fl_Gap_9 c4 (by omega) (Nat.le_of_ble_eq_true rfl) rfl rfl (fun h5 c6 fr7 => ?_)
  have c6 : h5 i = ob ci_Gap [.ref (ad (g_b G) (i + 1)), vI 0, vI 0] := c6
  have c8 := (fr7 (i + 1) (by omega)).trans c2
  refine e_aload_n X d_Gap_init_11 rfl ?_
  refine z_iconst X d_Gap_init_12 ?_
  refine z_put X d_Gap_init_13 fl_Gap_15 c6 (by omega) (Nat.le_of_ble_eq_true rfl) rfl rfl (fun h9 c10 fr11 => ?_)
  have c10 : h9 i = ob ci_Gap [.ref (ad (g_b G) (i + 1)), vI 0, vI 0] := c10
  have c12 := (fr11 (i + 1) (by omega)).trans c8
  refine e_aload_n X d_Gap_init_16 rfl ?_
  refine z_iload_n X d_Gap_init_17 rfl ?_
  refine z_put X d_Gap_init_18 fl_Gap_19 c10 (by omega) (Nat.le_of_ble_eq_true rfl) rfl rfl (fun h13 c14 fr15 => ?_)
  have c14 : h13 i = ob ci_Gap [.ref (ad (g_b G) (i + 1)), vI 0, vI (z)] := c14
  have c16 := (fr15 (i + 1) (by omega)).trans c12
  exact z_return X Q d_Gap_init_21 ⟨⟨0, cap, _, by rw [hz] at *; simpa using c14, c16, hcap, Nat.le_refl _, Nat.zero_add _, fun k _ => by omega, fun k hk => absurd hk (Nat.not_lt_zero _), fun k _ hk => absurd hk (Nat.not_lt_zero _), tx_0⟩, fun q hq => (fr15 q (by omega)).trans ((fr11 q (by omega)).trans ((fr7 q (by omega)).trans (fr3 q (by omega))))⟩

set_option maxRecDepth 100000 in
set_option maxHeartbeats 4000000 in
theorem c_Clu_init {l : Launch} {G : lx_G} {h : Nat → va_E} (hc : h 37 = ob ci_Clu [vI 0, vI 0, vI 0]) : CtN l G m_Clu_init 38 38 [.ref (ad (g_b G) 37)] h (fun h' => h' 37 = ob ci_Clu [vI (-1), vI (-1), vI 0] ∧ ∀ q, q < 37 → h' q = h q) := by
  refine zN_of (by decide) rfl rfl ?_
  intro k X Q hin
  have X : Cx k G R_Clu b_Clu_init 1 rm_Clu_init := X
  have Q : Rt k G none 38 0 0 (pV (fun h' => h' 37 = ob ci_Clu [vI (-1), vI (-1), vI 0] ∧ ∀ q, q < 37 → h' q = h q)) := Q
  show Ev k G 1 38 0 0 h 0 [some (.ref (ad (g_b G) 37))] []
  refine e_aload_n X d_Clu_init_0 rfl ?_
  refine e_objInit X d_Clu_init_1 oi_Clu (by decide) ?_
  refine e_aload_n X d_Clu_init_4 rfl ?_
  refine z_iconst X d_Clu_init_5 ?_
  refine z_put X d_Clu_init_6 fl_Clu_9 hc (by omega) (Nat.le_of_ble_eq_true rfl) rfl rfl (fun h1 c2 fr3 => ?_)
  have c2 : h1 37 = ob ci_Clu [vI (-1), vI 0, vI 0] := c2
  refine e_aload_n X d_Clu_init_9 rfl ?_
  refine z_iconst X d_Clu_init_10 ?_
  refine z_put X d_Clu_init_11 fl_Clu_15 c2 (by omega) (Nat.le_of_ble_eq_true rfl) rfl rfl (fun h4 c5 fr6 => ?_)
  have c5 : h4 37 = ob ci_Clu [vI (-1), vI (-1), vI 0] := c5
  refine e_aload_n X d_Clu_init_14 rfl ?_
  refine z_iconst X d_Clu_init_15 ?_
  refine z_put X d_Clu_init_16 fl_Clu_18 c5 (by omega) (Nat.le_of_ble_eq_true rfl) rfl rfl (fun h7 c8 fr9 => ?_)
  have c8 : h7 37 = ob ci_Clu [vI (-1), vI (-1), vI 0] := c8
  exact z_return X Q d_Clu_init_19 ⟨c8, fun q hq => (fr9 q (by omega)).trans ((fr6 q (by omega)).trans (fr3 q (by omega)))⟩

set_option maxRecDepth 100000 in
set_option maxHeartbeats 4000000 in
theorem c_Itm_init {l : Launch} {G : lx_G} {h : Nat → va_E} (hc : h 35 = ob ci_Itm [.null, .null, vI 0, vI 0, vI 0]) : CtN l G m_Itm_init 36 38 [.ref (ad (g_b G) 35)] h (fun h' => Its G h' 35 ∧ ∀ q, q < 35 → h' q = h q) := by
  refine zN_of (by decide) rfl rfl ?_
  intro k X Q hin
  have X : Cx k G R_Itm b_Itm_init 1 rm_Itm_init := X
  have Q : Rt k G none 38 2 164 (pV (fun h' => Its G h' 35 ∧ ∀ q, q < 35 → h' q = h q)) := Q
  show Ev k G 1 36 0 0 h 0 [some (.ref (ad (g_b G) 35))] []
  refine e_aload_n X d_Itm_init_0 rfl ?_
  refine e_objInit X d_Itm_init_1 oi_Itm (by decide) ?_
  refine e_aload_n X d_Itm_init_4 rfl ?_
  refine z_sipush X d_Itm_init_5 (by decide) ?_
  refine z_newi (n := 161) (N' := 37) (c1 := 1) (s1 := 161) X d_Itm_init_8 aw_int (by omega) (by omega) (by omega) rfl (fun h1 c2 fr3 => ?_)
  have c4 := (fr3 35 (by omega)).trans hc
  refine z_putF X hin d_Itm_init_10 fl_Itm_9 c4 (by omega) (Nat.le_of_ble_eq_true rfl) rfl rfl (fun h5 c6 fr7 => ?_)
  have c6 : h5 35 = ob ci_Itm [.ref (ad (g_b G) 36), .null, vI 0, vI 0, vI 0] := c6
  have c8 := (fr7 36 (by omega)).trans c2
  refine e_aload_n X d_Itm_init_13 rfl ?_
  refine z_new (N' := 38) (c1 := 2) (s1 := 164) X d_Itm_init_14 ck_Clu cl_Itm_15 nf_Clu (by omega) rfl (fun h9 c10 fr11 => ?_)
  have c12 := (fr11 35 (by omega)).trans c6
  have c13 := (fr11 36 (by omega)).trans c8
  refine e_dup X d_Itm_init_17 rfl ?_
  refine z_callN (N' := 38) (c1 := 2) (s1 := 164) X d_Itm_init_18 cn_Itm_17 (c_Clu_init c10) rfl rfl ⟨rfl, rfl⟩ rfl (fun h14 hp15 => ?_)
  obtain ⟨hr16, fr17⟩ := hp15
  have c18 := (fr17 35 (by omega)).trans c12
  have c19 := (fr17 36 (by omega)).trans c13
  refine z_putF X hin d_Itm_init_21 fl_Itm_18 c18 (by omega) (Nat.le_of_ble_eq_true rfl) rfl rfl (fun h20 c21 fr22 => ?_)
  have c21 : h20 35 = ob ci_Itm [.ref (ad (g_b G) 36), .ref (ad (g_b G) 37), vI 0, vI 0, vI 0] := c21
  have c23 := (fr22 36 (by omega)).trans c19
  have c24 := (fr22 37 (by omega)).trans hr16
  refine e_aload_n X d_Itm_init_24 rfl ?_
  refine z_iconst X d_Itm_init_25 ?_
  refine z_put X d_Itm_init_26 fl_Itm_22 c21 (by omega) (Nat.le_of_ble_eq_true rfl) rfl rfl (fun h25 c26 fr27 => ?_)
  have c26 : h25 35 = ob ci_Itm [.ref (ad (g_b G) 36), .ref (ad (g_b G) 37), vI 0, vI 0, vI 0] := c26
  have c28 := (fr27 36 (by omega)).trans c23
  have c29 := (fr27 37 (by omega)).trans c24
  refine e_aload_n X d_Itm_init_29 rfl ?_
  refine z_iconst X d_Itm_init_30 ?_
  refine z_put X d_Itm_init_31 fl_Itm_26 c26 (by omega) (Nat.le_of_ble_eq_true rfl) rfl rfl (fun h30 c31 fr32 => ?_)
  have c31 : h30 35 = ob ci_Itm [.ref (ad (g_b G) 36), .ref (ad (g_b G) 37), vI 0, vI 0, vI 0] := c31
  have c33 := (fr32 36 (by omega)).trans c28
  have c34 := (fr32 37 (by omega)).trans c29
  refine e_aload_n X d_Itm_init_34 rfl ?_
  refine z_iconst X d_Itm_init_35 ?_
  refine z_put X d_Itm_init_36 fl_Itm_29 c31 (by omega) (Nat.le_of_ble_eq_true rfl) rfl rfl (fun h35 c36 fr37 => ?_)
  have c36 : h35 35 = ob ci_Itm [.ref (ad (g_b G) 36), .ref (ad (g_b G) 37), vI 0, vI 0, vI 0] := c36
  have c38 := (fr37 36 (by omega)).trans c33
  have c39 := (fr37 37 (by omega)).trans c34
  exact z_return X Q d_Itm_init_39 ⟨⟨0, 0, 0, _, -1, -1, 0, c36, c38, c39⟩, fun q hq => (fr37 q (by omega)).trans ((fr32 q (by omega)).trans ((fr27 q (by omega)).trans ((fr22 q (by omega)).trans ((fr17 q (by omega)).trans ((fr11 q (by omega)).trans ((fr7 q (by omega)).trans (fr3 q (by omega))))))))⟩

set_option maxRecDepth 100000 in
set_option maxHeartbeats 4000000 in
theorem c_Sea_init {l : Launch} {G : lx_G} {h : Nat → va_E} (hc : h 38 = ob ci_Sea [.null, .null, .null, vI 0, vI 0]) : CtN l G m_Sea_init 39 42 [.ref (ad (g_b G) 38)] h (fun h' => Sea G h' 38 (-1) ∧ ∀ q, q < 38 → h' q = h q) := by
  refine zN_of (by decide) rfl rfl ?_
  intro k X Q hin
  have X : Cx k G R_Sea b_Sea_init 1 rm_Sea_init := X
  have Q : Rt k G none 42 3 73 (pV (fun h' => Sea G h' 38 (-1) ∧ ∀ q, q < 38 → h' q = h q)) := Q
  show Ev k G 1 39 0 0 h 0 [some (.ref (ad (g_b G) 38))] []
  refine e_aload_n X d_Sea_init_0 rfl ?_
  refine e_objInit X d_Sea_init_1 oi_Sea (by decide) ?_
  refine e_aload_n X d_Sea_init_4 rfl ?_
  refine z_bipush X d_Sea_init_5 (by decide) ?_
  refine z_newi (n := 24) (N' := 40) (c1 := 1) (s1 := 24) X d_Sea_init_7 aw_int (by omega) (by omega) (by omega) rfl (fun h1 c2 fr3 => ?_)
  have c4 := (fr3 38 (by omega)).trans hc
  refine z_putF X hin d_Sea_init_9 fl_Sea_9 c4 (by omega) (Nat.le_of_ble_eq_true rfl) rfl rfl (fun h5 c6 fr7 => ?_)
  have c6 : h5 38 = ob ci_Sea [.ref (ad (g_b G) 39), .null, .null, vI 0, vI 0] := c6
  have c8 := (fr7 39 (by omega)).trans c2
  refine e_aload_n X d_Sea_init_12 rfl ?_
  refine z_bipush X d_Sea_init_13 (by decide) ?_
  refine z_newz (n := 24) (N' := 41) (c1 := 2) (s1 := 48) X d_Sea_init_15 aw_boolean (by omega) (by omega) (by omega) rfl (fun h9 c10 fr11 => ?_)
  have c12 := (fr11 38 (by omega)).trans c6
  have c13 := (fr11 39 (by omega)).trans c8
  refine z_putF X hin d_Sea_init_17 fl_Sea_15 c12 (by omega) (Nat.le_of_ble_eq_true rfl) rfl rfl (fun h14 c15 fr16 => ?_)
  have c15 : h14 38 = ob ci_Sea [.ref (ad (g_b G) 39), .ref (ad (g_b G) 40), .null, vI 0, vI 0] := c15
  have c17 := (fr16 39 (by omega)).trans c13
  have c18 := (fr16 40 (by omega)).trans c10
  refine e_aload_n X d_Sea_init_20 rfl ?_
  refine z_bipush X d_Sea_init_21 (by decide) ?_
  refine z_newi (n := 25) (N' := 42) (c1 := 3) (s1 := 73) X d_Sea_init_23 aw_int (by omega) (by omega) (by omega) rfl (fun h19 c20 fr21 => ?_)
  have c22 := (fr21 38 (by omega)).trans c15
  have c23 := (fr21 39 (by omega)).trans c17
  have c24 := (fr21 40 (by omega)).trans c18
  refine z_putF X hin d_Sea_init_25 fl_Sea_19 c22 (by omega) (Nat.le_of_ble_eq_true rfl) rfl rfl (fun h25 c26 fr27 => ?_)
  have c26 : h25 38 = ob ci_Sea [.ref (ad (g_b G) 39), .ref (ad (g_b G) 40), .ref (ad (g_b G) 41), vI 0, vI 0] := c26
  have c28 := (fr27 39 (by omega)).trans c23
  have c29 := (fr27 40 (by omega)).trans c24
  have c30 := (fr27 41 (by omega)).trans c20
  refine e_aload_n X d_Sea_init_28 rfl ?_
  refine z_iconst X d_Sea_init_29 ?_
  refine z_put X d_Sea_init_30 fl_Sea_22 c26 (by omega) (Nat.le_of_ble_eq_true rfl) rfl rfl (fun h31 c32 fr33 => ?_)
  have c32 : h31 38 = ob ci_Sea [.ref (ad (g_b G) 39), .ref (ad (g_b G) 40), .ref (ad (g_b G) 41), vI 0, vI 0] := c32
  have c34 := (fr33 39 (by omega)).trans c28
  have c35 := (fr33 40 (by omega)).trans c29
  have c36 := (fr33 41 (by omega)).trans c30
  refine e_aload_n X d_Sea_init_33 rfl ?_
  refine z_iconst X d_Sea_init_34 ?_
  refine z_put X d_Sea_init_35 fl_Sea_26 c32 (by omega) (Nat.le_of_ble_eq_true rfl) rfl rfl (fun h37 c38 fr39 => ?_)
  have c38 : h37 38 = ob ci_Sea [.ref (ad (g_b G) 39), .ref (ad (g_b G) 40), .ref (ad (g_b G) 41), vI 0, vI (-1)] := c38
  have c40 := (fr39 39 (by omega)).trans c34
  have c41 := (fr39 40 (by omega)).trans c35
  have c42 := (fr39 41 (by omega)).trans c36
  exact z_return X Q d_Sea_init_38 ⟨⟨by omega, 0, _, _, _, c38, c40, c41, c42⟩, fun q hq => (fr39 q (by omega)).trans ((fr33 q (by omega)).trans ((fr27 q (by omega)).trans ((fr21 q (by omega)).trans ((fr16 q (by omega)).trans ((fr11 q (by omega)).trans ((fr7 q (by omega)).trans (fr3 q (by omega))))))))⟩

set_option maxRecDepth 100000 in
set_option maxHeartbeats 4000000 in
theorem c_His_init {l : Launch} {G : lx_G} {h : Nat → va_E} (hc : h 15 = ob ci_His [.null, vI 0, vI 0, vI 0]) : CtN l G m_His_init 16 35 [.ref (ad (g_b G) 15)] h (fun h' => Hist G h' 15 0 0 (fun _ => tx_e) ∧ ∀ q, q < 15 → h' q = h q) := by
  refine zN_of (by decide) rfl rfl ?_
  intro k X Q hin
  have X : Cx k G R_His b_His_init 2 rm_His_init := X
  have Q : Rt k G none 35 19 1467 (pV (fun h' => Hist G h' 15 0 0 (fun _ => tx_e) ∧ ∀ q, q < 15 → h' q = h q)) := Q
  show Ev k G 2 16 0 0 h 0 [some (.ref (ad (g_b G) 15)), none] []
  refine e_aload_n X d_His_init_0 rfl ?_
  refine e_objInit X d_His_init_1 oi_His (by decide) ?_
  refine e_aload_n X d_His_init_4 rfl ?_
  refine z_bipush X d_His_init_5 (by decide) ?_
  refine z_newR (n := 9) (N' := 17) (c1 := 1) (s1 := 9) X d_His_init_7 ca_His_11 (by omega) (by omega) (by omega) rfl (fun h1 c2 fr3 => ?_)
  have c4 := (fr3 15 (by omega)).trans hc
  refine z_putF X hin d_His_init_10 fl_His_13 c4 (by omega) (Nat.le_of_ble_eq_true rfl) rfl rfl (fun h5 c6 fr7 => ?_)
  have c6 : h5 15 = ob ci_His [.ref (ad (g_b G) 16), vI 0, vI 0, vI 0] := c6
  have c8 := (fr7 16 (by omega)).trans c2
  refine z_iconst X d_His_init_13 ?_
  refine e_istore_n X d_His_init_14 (by decide) ?_
  refine z_iload_n X d_His_init_15 rfl ?_
  refine z_bipush X d_His_init_16 (by decide) ?_
  refine z_icmp_ge (tgt := 43) X d_His_init_18 (by decide) (by omega) (fun q0 => ?_) (fun q0 => ?_)
  · omega
  · refine e_aload_n X d_His_init_21 rfl ?_
    refine e_get X d_His_init_22 fl_His_13 c6 (by omega) rfl ?_
    refine z_iload_n X d_His_init_25 rfl ?_
    refine z_new (N' := 18) (c1 := 2) (s1 := 11) X d_His_init_26 ck_Row cl_His_11 nf_Row (by omega) rfl (fun h9 c10 fr11 => ?_)
    have c12 := (fr11 15 (by omega)).trans c6
    have c13 := (fr11 16 (by omega)).trans c8
    refine e_dup X d_His_init_29 rfl ?_
    refine z_sipush X d_His_init_30 (by decide) ?_
    refine z_callN (N' := 19) (c1 := 3) (s1 := 171) X d_His_init_33 cn_His_17 (c_Row_init (cap := 160) c10 (by omega) (by omega)) rfl rfl ⟨rfl, rfl⟩ rfl (fun h14 hp15 => ?_)
    obtain ⟨hr16, fr17⟩ := hp15
    have c18 := (fr17 15 (by omega)).trans c12
    have c19 := (fr17 16 (by omega)).trans c13
    obtain ⟨u0, hob0, hre0⟩ := id hr16
    have hx20 : ∀ r, r < 1 → Rw G h14 (15 + 2 + 2 * r) 160 0 (fun _ => -1) := fun r hr => by rw [show r = 0 by omega]; exact hr16
    refine z_rast (j := 0) X d_His_init_36 c19 (by omega) (by omega) (by omega) hob0 (by omega) rfl (Or.inr rfl) (fun h21 c22 fr23 => ?_)
    have c24 := (fr23 15 (by omega)).trans c18
    have hx25 : ∀ r, r < 1 → Rw G h21 (15 + 2 + 2 * r) 160 0 (fun _ => -1) := fun r hr => (hx20 r hr).fr (fr23 _ (by omega)) (fr23 _ (by omega))
    refine z_iinc X d_His_init_37 rfl (by decide) ?_
    refine e_goto (tgt := 15) X d_His_init_40 (by decide) ?_
    show Ev k G 2 19 3 171 h21 15 [some (.ref (ad (g_b G) 15)), some (vI 1)] []
    refine z_iload_n X d_His_init_15 rfl ?_
    refine z_bipush X d_His_init_16 (by decide) ?_
    refine z_icmp_ge (tgt := 43) X d_His_init_18 (by decide) (by omega) (fun q1 => ?_) (fun q1 => ?_)
    · omega
    · refine e_aload_n X d_His_init_21 rfl ?_
      refine e_get X d_His_init_22 fl_His_13 c24 (by omega) rfl ?_
      refine z_iload_n X d_His_init_25 rfl ?_
      refine z_new (N' := 20) (c1 := 4) (s1 := 173) X d_His_init_26 ck_Row cl_His_11 nf_Row (by omega) rfl (fun h26 c27 fr28 => ?_)
      have c29 := (fr28 15 (by omega)).trans c24
      have c30 := (fr28 16 (by omega)).trans c22
      have hx31 : ∀ r, r < 1 → Rw G h26 (15 + 2 + 2 * r) 160 0 (fun _ => -1) := fun r hr => (hx25 r hr).fr (fr28 _ (by omega)) (fr28 _ (by omega))
      refine e_dup X d_His_init_29 rfl ?_
      refine z_sipush X d_His_init_30 (by decide) ?_
      refine z_callN (N' := 21) (c1 := 5) (s1 := 333) X d_His_init_33 cn_His_17 (c_Row_init (cap := 160) c27 (by omega) (by omega)) rfl rfl ⟨rfl, rfl⟩ rfl (fun h32 hp33 => ?_)
      obtain ⟨hr34, fr35⟩ := hp33
      have c36 := (fr35 15 (by omega)).trans c29
      have c37 := (fr35 16 (by omega)).trans c30
      have hx38 : ∀ r, r < 1 → Rw G h32 (15 + 2 + 2 * r) 160 0 (fun _ => -1) := fun r hr => (hx31 r hr).fr (fr35 _ (by omega)) (fr35 _ (by omega))
      obtain ⟨u1, hob1, hre1⟩ := id hr34
      have hx39 : ∀ r, r < 2 → Rw G h32 (15 + 2 + 2 * r) 160 0 (fun _ => -1) := fun r hr => by rcases Nat.lt_or_ge r 1 with h9 | h9; exact hx38 r h9; rw [show r = 1 by omega]; exact hr34
      refine z_rast (j := 1) X d_His_init_36 c37 (by omega) (by omega) (by omega) hob1 (by omega) rfl (Or.inr rfl) (fun h40 c41 fr42 => ?_)
      have c43 := (fr42 15 (by omega)).trans c36
      have hx44 : ∀ r, r < 2 → Rw G h40 (15 + 2 + 2 * r) 160 0 (fun _ => -1) := fun r hr => (hx39 r hr).fr (fr42 _ (by omega)) (fr42 _ (by omega))
      refine z_iinc X d_His_init_37 rfl (by decide) ?_
      refine e_goto (tgt := 15) X d_His_init_40 (by decide) ?_
      show Ev k G 2 21 5 333 h40 15 [some (.ref (ad (g_b G) 15)), some (vI 2)] []
      refine z_iload_n X d_His_init_15 rfl ?_
      refine z_bipush X d_His_init_16 (by decide) ?_
      refine z_icmp_ge (tgt := 43) X d_His_init_18 (by decide) (by omega) (fun q2 => ?_) (fun q2 => ?_)
      · omega
      · refine e_aload_n X d_His_init_21 rfl ?_
        refine e_get X d_His_init_22 fl_His_13 c43 (by omega) rfl ?_
        refine z_iload_n X d_His_init_25 rfl ?_
        refine z_new (N' := 22) (c1 := 6) (s1 := 335) X d_His_init_26 ck_Row cl_His_11 nf_Row (by omega) rfl (fun h45 c46 fr47 => ?_)
        have c48 := (fr47 15 (by omega)).trans c43
        have c49 := (fr47 16 (by omega)).trans c41
        have hx50 : ∀ r, r < 2 → Rw G h45 (15 + 2 + 2 * r) 160 0 (fun _ => -1) := fun r hr => (hx44 r hr).fr (fr47 _ (by omega)) (fr47 _ (by omega))
        refine e_dup X d_His_init_29 rfl ?_
        refine z_sipush X d_His_init_30 (by decide) ?_
        refine z_callN (N' := 23) (c1 := 7) (s1 := 495) X d_His_init_33 cn_His_17 (c_Row_init (cap := 160) c46 (by omega) (by omega)) rfl rfl ⟨rfl, rfl⟩ rfl (fun h51 hp52 => ?_)
        obtain ⟨hr53, fr54⟩ := hp52
        have c55 := (fr54 15 (by omega)).trans c48
        have c56 := (fr54 16 (by omega)).trans c49
        have hx57 : ∀ r, r < 2 → Rw G h51 (15 + 2 + 2 * r) 160 0 (fun _ => -1) := fun r hr => (hx50 r hr).fr (fr54 _ (by omega)) (fr54 _ (by omega))
        obtain ⟨u2, hob2, hre2⟩ := id hr53
        have hx58 : ∀ r, r < 3 → Rw G h51 (15 + 2 + 2 * r) 160 0 (fun _ => -1) := fun r hr => by rcases Nat.lt_or_ge r 2 with h9 | h9; exact hx57 r h9; rw [show r = 2 by omega]; exact hr53
        refine z_rast (j := 2) X d_His_init_36 c56 (by omega) (by omega) (by omega) hob2 (by omega) rfl (Or.inr rfl) (fun h59 c60 fr61 => ?_)
        have c62 := (fr61 15 (by omega)).trans c55
        have hx63 : ∀ r, r < 3 → Rw G h59 (15 + 2 + 2 * r) 160 0 (fun _ => -1) := fun r hr => (hx58 r hr).fr (fr61 _ (by omega)) (fr61 _ (by omega))
        refine z_iinc X d_His_init_37 rfl (by decide) ?_
        refine e_goto (tgt := 15) X d_His_init_40 (by decide) ?_
        show Ev k G 2 23 7 495 h59 15 [some (.ref (ad (g_b G) 15)), some (vI 3)] []
        refine z_iload_n X d_His_init_15 rfl ?_
        refine z_bipush X d_His_init_16 (by decide) ?_
        refine z_icmp_ge (tgt := 43) X d_His_init_18 (by decide) (by omega) (fun q3 => ?_) (fun q3 => ?_)
        · omega
        · refine e_aload_n X d_His_init_21 rfl ?_
          refine e_get X d_His_init_22 fl_His_13 c62 (by omega) rfl ?_
          refine z_iload_n X d_His_init_25 rfl ?_
          refine z_new (N' := 24) (c1 := 8) (s1 := 497) X d_His_init_26 ck_Row cl_His_11 nf_Row (by omega) rfl (fun h64 c65 fr66 => ?_)
          have c67 := (fr66 15 (by omega)).trans c62
          have c68 := (fr66 16 (by omega)).trans c60
          have hx69 : ∀ r, r < 3 → Rw G h64 (15 + 2 + 2 * r) 160 0 (fun _ => -1) := fun r hr => (hx63 r hr).fr (fr66 _ (by omega)) (fr66 _ (by omega))
          refine e_dup X d_His_init_29 rfl ?_
          refine z_sipush X d_His_init_30 (by decide) ?_
          refine z_callN (N' := 25) (c1 := 9) (s1 := 657) X d_His_init_33 cn_His_17 (c_Row_init (cap := 160) c65 (by omega) (by omega)) rfl rfl ⟨rfl, rfl⟩ rfl (fun h70 hp71 => ?_)
          obtain ⟨hr72, fr73⟩ := hp71
          have c74 := (fr73 15 (by omega)).trans c67
          have c75 := (fr73 16 (by omega)).trans c68
          have hx76 : ∀ r, r < 3 → Rw G h70 (15 + 2 + 2 * r) 160 0 (fun _ => -1) := fun r hr => (hx69 r hr).fr (fr73 _ (by omega)) (fr73 _ (by omega))
          obtain ⟨u3, hob3, hre3⟩ := id hr72
          have hx77 : ∀ r, r < 4 → Rw G h70 (15 + 2 + 2 * r) 160 0 (fun _ => -1) := fun r hr => by rcases Nat.lt_or_ge r 3 with h9 | h9; exact hx76 r h9; rw [show r = 3 by omega]; exact hr72
          refine z_rast (j := 3) X d_His_init_36 c75 (by omega) (by omega) (by omega) hob3 (by omega) rfl (Or.inr rfl) (fun h78 c79 fr80 => ?_)
          have c81 := (fr80 15 (by omega)).trans c74
          have hx82 : ∀ r, r < 4 → Rw G h78 (15 + 2 + 2 * r) 160 0 (fun _ => -1) := fun r hr => (hx77 r hr).fr (fr80 _ (by omega)) (fr80 _ (by omega))
          refine z_iinc X d_His_init_37 rfl (by decide) ?_
          refine e_goto (tgt := 15) X d_His_init_40 (by decide) ?_
          show Ev k G 2 25 9 657 h78 15 [some (.ref (ad (g_b G) 15)), some (vI 4)] []
          refine z_iload_n X d_His_init_15 rfl ?_
          refine z_bipush X d_His_init_16 (by decide) ?_
          refine z_icmp_ge (tgt := 43) X d_His_init_18 (by decide) (by omega) (fun q4 => ?_) (fun q4 => ?_)
          · omega
          · refine e_aload_n X d_His_init_21 rfl ?_
            refine e_get X d_His_init_22 fl_His_13 c81 (by omega) rfl ?_
            refine z_iload_n X d_His_init_25 rfl ?_
            refine z_new (N' := 26) (c1 := 10) (s1 := 659) X d_His_init_26 ck_Row cl_His_11 nf_Row (by omega) rfl (fun h83 c84 fr85 => ?_)
            have c86 := (fr85 15 (by omega)).trans c81
            have c87 := (fr85 16 (by omega)).trans c79
            have hx88 : ∀ r, r < 4 → Rw G h83 (15 + 2 + 2 * r) 160 0 (fun _ => -1) := fun r hr => (hx82 r hr).fr (fr85 _ (by omega)) (fr85 _ (by omega))
            refine e_dup X d_His_init_29 rfl ?_
            refine z_sipush X d_His_init_30 (by decide) ?_
            refine z_callN (N' := 27) (c1 := 11) (s1 := 819) X d_His_init_33 cn_His_17 (c_Row_init (cap := 160) c84 (by omega) (by omega)) rfl rfl ⟨rfl, rfl⟩ rfl (fun h89 hp90 => ?_)
            obtain ⟨hr91, fr92⟩ := hp90
            have c93 := (fr92 15 (by omega)).trans c86
            have c94 := (fr92 16 (by omega)).trans c87
            have hx95 : ∀ r, r < 4 → Rw G h89 (15 + 2 + 2 * r) 160 0 (fun _ => -1) := fun r hr => (hx88 r hr).fr (fr92 _ (by omega)) (fr92 _ (by omega))
            obtain ⟨u4, hob4, hre4⟩ := id hr91
            have hx96 : ∀ r, r < 5 → Rw G h89 (15 + 2 + 2 * r) 160 0 (fun _ => -1) := fun r hr => by rcases Nat.lt_or_ge r 4 with h9 | h9; exact hx95 r h9; rw [show r = 4 by omega]; exact hr91
            refine z_rast (j := 4) X d_His_init_36 c94 (by omega) (by omega) (by omega) hob4 (by omega) rfl (Or.inr rfl) (fun h97 c98 fr99 => ?_)
            have c100 := (fr99 15 (by omega)).trans c93
            have hx101 : ∀ r, r < 5 → Rw G h97 (15 + 2 + 2 * r) 160 0 (fun _ => -1) := fun r hr => (hx96 r hr).fr (fr99 _ (by omega)) (fr99 _ (by omega))
            refine z_iinc X d_His_init_37 rfl (by decide) ?_
            refine e_goto (tgt := 15) X d_His_init_40 (by decide) ?_
            show Ev k G 2 27 11 819 h97 15 [some (.ref (ad (g_b G) 15)), some (vI 5)] []
            refine z_iload_n X d_His_init_15 rfl ?_
            refine z_bipush X d_His_init_16 (by decide) ?_
            refine z_icmp_ge (tgt := 43) X d_His_init_18 (by decide) (by omega) (fun q5 => ?_) (fun q5 => ?_)
            · omega
            · refine e_aload_n X d_His_init_21 rfl ?_
              refine e_get X d_His_init_22 fl_His_13 c100 (by omega) rfl ?_
              refine z_iload_n X d_His_init_25 rfl ?_
              refine z_new (N' := 28) (c1 := 12) (s1 := 821) X d_His_init_26 ck_Row cl_His_11 nf_Row (by omega) rfl (fun h102 c103 fr104 => ?_)
              have c105 := (fr104 15 (by omega)).trans c100
              have c106 := (fr104 16 (by omega)).trans c98
              have hx107 : ∀ r, r < 5 → Rw G h102 (15 + 2 + 2 * r) 160 0 (fun _ => -1) := fun r hr => (hx101 r hr).fr (fr104 _ (by omega)) (fr104 _ (by omega))
              refine e_dup X d_His_init_29 rfl ?_
              refine z_sipush X d_His_init_30 (by decide) ?_
              refine z_callN (N' := 29) (c1 := 13) (s1 := 981) X d_His_init_33 cn_His_17 (c_Row_init (cap := 160) c103 (by omega) (by omega)) rfl rfl ⟨rfl, rfl⟩ rfl (fun h108 hp109 => ?_)
              obtain ⟨hr110, fr111⟩ := hp109
              have c112 := (fr111 15 (by omega)).trans c105
              have c113 := (fr111 16 (by omega)).trans c106
              have hx114 : ∀ r, r < 5 → Rw G h108 (15 + 2 + 2 * r) 160 0 (fun _ => -1) := fun r hr => (hx107 r hr).fr (fr111 _ (by omega)) (fr111 _ (by omega))
              obtain ⟨u5, hob5, hre5⟩ := id hr110
              have hx115 : ∀ r, r < 6 → Rw G h108 (15 + 2 + 2 * r) 160 0 (fun _ => -1) := fun r hr => by rcases Nat.lt_or_ge r 5 with h9 | h9; exact hx114 r h9; rw [show r = 5 by omega]; exact hr110
              refine z_rast (j := 5) X d_His_init_36 c113 (by omega) (by omega) (by omega) hob5 (by omega) rfl (Or.inr rfl) (fun h116 c117 fr118 => ?_)
              have c119 := (fr118 15 (by omega)).trans c112
              have hx120 : ∀ r, r < 6 → Rw G h116 (15 + 2 + 2 * r) 160 0 (fun _ => -1) := fun r hr => (hx115 r hr).fr (fr118 _ (by omega)) (fr118 _ (by omega))
              refine z_iinc X d_His_init_37 rfl (by decide) ?_
              refine e_goto (tgt := 15) X d_His_init_40 (by decide) ?_
              show Ev k G 2 29 13 981 h116 15 [some (.ref (ad (g_b G) 15)), some (vI 6)] []
              refine z_iload_n X d_His_init_15 rfl ?_
              refine z_bipush X d_His_init_16 (by decide) ?_
              refine z_icmp_ge (tgt := 43) X d_His_init_18 (by decide) (by omega) (fun q6 => ?_) (fun q6 => ?_)
              · omega
              · refine e_aload_n X d_His_init_21 rfl ?_
                refine e_get X d_His_init_22 fl_His_13 c119 (by omega) rfl ?_
                refine z_iload_n X d_His_init_25 rfl ?_
                refine z_new (N' := 30) (c1 := 14) (s1 := 983) X d_His_init_26 ck_Row cl_His_11 nf_Row (by omega) rfl (fun h121 c122 fr123 => ?_)
                have c124 := (fr123 15 (by omega)).trans c119
                have c125 := (fr123 16 (by omega)).trans c117
                have hx126 : ∀ r, r < 6 → Rw G h121 (15 + 2 + 2 * r) 160 0 (fun _ => -1) := fun r hr => (hx120 r hr).fr (fr123 _ (by omega)) (fr123 _ (by omega))
                refine e_dup X d_His_init_29 rfl ?_
                refine z_sipush X d_His_init_30 (by decide) ?_
                refine z_callN (N' := 31) (c1 := 15) (s1 := 1143) X d_His_init_33 cn_His_17 (c_Row_init (cap := 160) c122 (by omega) (by omega)) rfl rfl ⟨rfl, rfl⟩ rfl (fun h127 hp128 => ?_)
                obtain ⟨hr129, fr130⟩ := hp128
                have c131 := (fr130 15 (by omega)).trans c124
                have c132 := (fr130 16 (by omega)).trans c125
                have hx133 : ∀ r, r < 6 → Rw G h127 (15 + 2 + 2 * r) 160 0 (fun _ => -1) := fun r hr => (hx126 r hr).fr (fr130 _ (by omega)) (fr130 _ (by omega))
                obtain ⟨u6, hob6, hre6⟩ := id hr129
                have hx134 : ∀ r, r < 7 → Rw G h127 (15 + 2 + 2 * r) 160 0 (fun _ => -1) := fun r hr => by rcases Nat.lt_or_ge r 6 with h9 | h9; exact hx133 r h9; rw [show r = 6 by omega]; exact hr129
                refine z_rast (j := 6) X d_His_init_36 c132 (by omega) (by omega) (by omega) hob6 (by omega) rfl (Or.inr rfl) (fun h135 c136 fr137 => ?_)
                have c138 := (fr137 15 (by omega)).trans c131
                have hx139 : ∀ r, r < 7 → Rw G h135 (15 + 2 + 2 * r) 160 0 (fun _ => -1) := fun r hr => (hx134 r hr).fr (fr137 _ (by omega)) (fr137 _ (by omega))
                refine z_iinc X d_His_init_37 rfl (by decide) ?_
                refine e_goto (tgt := 15) X d_His_init_40 (by decide) ?_
                show Ev k G 2 31 15 1143 h135 15 [some (.ref (ad (g_b G) 15)), some (vI 7)] []
                refine z_iload_n X d_His_init_15 rfl ?_
                refine z_bipush X d_His_init_16 (by decide) ?_
                refine z_icmp_ge (tgt := 43) X d_His_init_18 (by decide) (by omega) (fun q7 => ?_) (fun q7 => ?_)
                · omega
                · refine e_aload_n X d_His_init_21 rfl ?_
                  refine e_get X d_His_init_22 fl_His_13 c138 (by omega) rfl ?_
                  refine z_iload_n X d_His_init_25 rfl ?_
                  refine z_new (N' := 32) (c1 := 16) (s1 := 1145) X d_His_init_26 ck_Row cl_His_11 nf_Row (by omega) rfl (fun h140 c141 fr142 => ?_)
                  have c143 := (fr142 15 (by omega)).trans c138
                  have c144 := (fr142 16 (by omega)).trans c136
                  have hx145 : ∀ r, r < 7 → Rw G h140 (15 + 2 + 2 * r) 160 0 (fun _ => -1) := fun r hr => (hx139 r hr).fr (fr142 _ (by omega)) (fr142 _ (by omega))
                  refine e_dup X d_His_init_29 rfl ?_
                  refine z_sipush X d_His_init_30 (by decide) ?_
                  refine z_callN (N' := 33) (c1 := 17) (s1 := 1305) X d_His_init_33 cn_His_17 (c_Row_init (cap := 160) c141 (by omega) (by omega)) rfl rfl ⟨rfl, rfl⟩ rfl (fun h146 hp147 => ?_)
                  obtain ⟨hr148, fr149⟩ := hp147
                  have c150 := (fr149 15 (by omega)).trans c143
                  have c151 := (fr149 16 (by omega)).trans c144
                  have hx152 : ∀ r, r < 7 → Rw G h146 (15 + 2 + 2 * r) 160 0 (fun _ => -1) := fun r hr => (hx145 r hr).fr (fr149 _ (by omega)) (fr149 _ (by omega))
                  obtain ⟨u7, hob7, hre7⟩ := id hr148
                  have hx153 : ∀ r, r < 8 → Rw G h146 (15 + 2 + 2 * r) 160 0 (fun _ => -1) := fun r hr => by rcases Nat.lt_or_ge r 7 with h9 | h9; exact hx152 r h9; rw [show r = 7 by omega]; exact hr148
                  refine z_rast (j := 7) X d_His_init_36 c151 (by omega) (by omega) (by omega) hob7 (by omega) rfl (Or.inr rfl) (fun h154 c155 fr156 => ?_)
                  have c157 := (fr156 15 (by omega)).trans c150
                  have hx158 : ∀ r, r < 8 → Rw G h154 (15 + 2 + 2 * r) 160 0 (fun _ => -1) := fun r hr => (hx153 r hr).fr (fr156 _ (by omega)) (fr156 _ (by omega))
                  refine z_iinc X d_His_init_37 rfl (by decide) ?_
                  refine e_goto (tgt := 15) X d_His_init_40 (by decide) ?_
                  show Ev k G 2 33 17 1305 h154 15 [some (.ref (ad (g_b G) 15)), some (vI 8)] []
                  refine z_iload_n X d_His_init_15 rfl ?_
                  refine z_bipush X d_His_init_16 (by decide) ?_
                  refine z_icmp_ge (tgt := 43) X d_His_init_18 (by decide) (by omega) (fun q8 => ?_) (fun q8 => ?_)
                  · omega
                  · refine e_aload_n X d_His_init_21 rfl ?_
                    refine e_get X d_His_init_22 fl_His_13 c157 (by omega) rfl ?_
                    refine z_iload_n X d_His_init_25 rfl ?_
                    refine z_new (N' := 34) (c1 := 18) (s1 := 1307) X d_His_init_26 ck_Row cl_His_11 nf_Row (by omega) rfl (fun h159 c160 fr161 => ?_)
                    have c162 := (fr161 15 (by omega)).trans c157
                    have c163 := (fr161 16 (by omega)).trans c155
                    have hx164 : ∀ r, r < 8 → Rw G h159 (15 + 2 + 2 * r) 160 0 (fun _ => -1) := fun r hr => (hx158 r hr).fr (fr161 _ (by omega)) (fr161 _ (by omega))
                    refine e_dup X d_His_init_29 rfl ?_
                    refine z_sipush X d_His_init_30 (by decide) ?_
                    refine z_callN (N' := 35) (c1 := 19) (s1 := 1467) X d_His_init_33 cn_His_17 (c_Row_init (cap := 160) c160 (by omega) (by omega)) rfl rfl ⟨rfl, rfl⟩ rfl (fun h165 hp166 => ?_)
                    obtain ⟨hr167, fr168⟩ := hp166
                    have c169 := (fr168 15 (by omega)).trans c162
                    have c170 := (fr168 16 (by omega)).trans c163
                    have hx171 : ∀ r, r < 8 → Rw G h165 (15 + 2 + 2 * r) 160 0 (fun _ => -1) := fun r hr => (hx164 r hr).fr (fr168 _ (by omega)) (fr168 _ (by omega))
                    obtain ⟨u8, hob8, hre8⟩ := id hr167
                    have hx172 : ∀ r, r < 9 → Rw G h165 (15 + 2 + 2 * r) 160 0 (fun _ => -1) := fun r hr => by rcases Nat.lt_or_ge r 8 with h9 | h9; exact hx171 r h9; rw [show r = 8 by omega]; exact hr167
                    refine z_rast (j := 8) X d_His_init_36 c170 (by omega) (by omega) (by omega) hob8 (by omega) rfl (Or.inr rfl) (fun h173 c174 fr175 => ?_)
                    have c176 := (fr175 15 (by omega)).trans c169
                    have hx177 : ∀ r, r < 9 → Rw G h173 (15 + 2 + 2 * r) 160 0 (fun _ => -1) := fun r hr => (hx172 r hr).fr (fr175 _ (by omega)) (fr175 _ (by omega))
                    refine z_iinc X d_His_init_37 rfl (by decide) ?_
                    refine e_goto (tgt := 15) X d_His_init_40 (by decide) ?_
                    show Ev k G 2 35 19 1467 h173 15 [some (.ref (ad (g_b G) 15)), some (vI 9)] []
                    refine z_iload_n X d_His_init_15 rfl ?_
                    refine z_bipush X d_His_init_16 (by decide) ?_
                    refine z_icmp_ge (tgt := 43) X d_His_init_18 (by decide) (by omega) (fun q9 => ?_) (fun q9 => ?_)
                    · refine z_rsame (f' := hfun G 15) c174 (fun j hj => match j, hj with | 0, _ => rfl | 1, _ => rfl | 2, _ => rfl | 3, _ => rfl | 4, _ => rfl | 5, _ => rfl | 6, _ => rfl | 7, _ => rfl | 8, _ => rfl | n + 9, h => absurd h (by omega)) (fun h178 c179 fr180 => ?_)
                      have c181 := (fr180 15 (by omega)).trans c176
                      have hx182 : ∀ r, r < 9 → Rw G h178 (15 + 2 + 2 * r) 160 0 (fun _ => -1) := fun r hr => (hx177 r hr).fr (fr180 _ (by omega)) (fr180 _ (by omega))
                      refine e_aload_n X d_His_init_43 rfl ?_
                      refine z_iconst X d_His_init_44 ?_
                      refine z_put X d_His_init_45 fl_His_20 c181 (by omega) (Nat.le_of_ble_eq_true rfl) rfl rfl (fun h183 c184 fr185 => ?_)
                      have c184 : h183 15 = ob ci_His [.ref (ad (g_b G) 16), vI 0, vI 0, vI 0] := c184
                      have c186 := (fr185 16 (by omega)).trans c179
                      have hx187 : ∀ r, r < 9 → Rw G h183 (15 + 2 + 2 * r) 160 0 (fun _ => -1) := fun r hr => (hx182 r hr).fr (fr185 _ (by omega)) (fr185 _ (by omega))
                      refine e_aload_n X d_His_init_48 rfl ?_
                      refine z_iconst X d_His_init_49 ?_
                      refine z_put X d_His_init_50 fl_His_24 c184 (by omega) (Nat.le_of_ble_eq_true rfl) rfl rfl (fun h188 c189 fr190 => ?_)
                      have c189 : h188 15 = ob ci_His [.ref (ad (g_b G) 16), vI 0, vI 0, vI 0] := c189
                      have c191 := (fr190 16 (by omega)).trans c186
                      have hx192 : ∀ r, r < 9 → Rw G h188 (15 + 2 + 2 * r) 160 0 (fun _ => -1) := fun r hr => (hx187 r hr).fr (fr190 _ (by omega)) (fr190 _ (by omega))
                      refine e_aload_n X d_His_init_53 rfl ?_
                      refine z_iconst X d_His_init_54 ?_
                      refine z_put X d_His_init_55 fl_His_27 c189 (by omega) (Nat.le_of_ble_eq_true rfl) rfl rfl (fun h193 c194 fr195 => ?_)
                      have c194 : h193 15 = ob ci_His [.ref (ad (g_b G) 16), vI 0, vI 0, vI 0] := c194
                      have c196 := (fr195 16 (by omega)).trans c191
                      have hx197 : ∀ r, r < 9 → Rw G h193 (15 + 2 + 2 * r) 160 0 (fun _ => -1) := fun r hr => (hx192 r hr).fr (fr195 _ (by omega)) (fr195 _ (by omega))
                      exact z_return X Q d_His_init_58 ⟨⟨0, c194, c196, by omega, by omega, by omega, fun j hj => hx197 ((0 + j) % 9) (by omega), fun r hr => ⟨0, _, hx197 r hr⟩⟩, fun q hq => (fr195 q (by omega)).trans ((fr190 q (by omega)).trans ((fr185 q (by omega)).trans ((fr180 q (by omega)).trans ((fr175 q (by omega)).trans ((fr168 q (by omega)).trans ((fr161 q (by omega)).trans ((fr156 q (by omega)).trans ((fr149 q (by omega)).trans ((fr142 q (by omega)).trans ((fr137 q (by omega)).trans ((fr130 q (by omega)).trans ((fr123 q (by omega)).trans ((fr118 q (by omega)).trans ((fr111 q (by omega)).trans ((fr104 q (by omega)).trans ((fr99 q (by omega)).trans ((fr92 q (by omega)).trans ((fr85 q (by omega)).trans ((fr80 q (by omega)).trans ((fr73 q (by omega)).trans ((fr66 q (by omega)).trans ((fr61 q (by omega)).trans ((fr54 q (by omega)).trans ((fr47 q (by omega)).trans ((fr42 q (by omega)).trans ((fr35 q (by omega)).trans ((fr28 q (by omega)).trans ((fr23 q (by omega)).trans ((fr17 q (by omega)).trans ((fr11 q (by omega)).trans ((fr7 q (by omega)).trans (fr3 q (by omega)))))))))))))))))))))))))))))))))⟩
                    · omega

set_option maxRecDepth 100000 in
set_option maxHeartbeats 4000000 in
theorem c_Mod_init {l : Launch} {G : lx_G} {x : Int} {h : Nat → va_E} (hc : h 42 = ob ci_Mod [.null, .null, vI 0, vI 0, .null, .null, vI 0, vI 0, vI 0, .null, vI 0, vI 0, .null, .null, vI 0, .null, .null, vI 0]) (hx : -2147483648 ≤ x ∧ x < 2147483648) : CtN l G m_Mod_init 43 52 [.ref (ad (g_b G) 42), vI (x)] h (fun h' => MD G h' 0 0 (fun _ => tx_e) 0 (fun _ => -1) (fun _ => false) (fun _ => tx_e) 0 (-1) (-1) ∧ ∀ q, q < 42 → h' q = h q) := by
  refine zN_of (by decide) rfl rfl ?_
  intro k X Q hin
  have X : Cx k G R_Mod b_Mod_init 2 rm_Mod_init := X
  have Q : Rt k G none 52 9 2927 (pV (fun h' => MD G h' 0 0 (fun _ => tx_e) 0 (fun _ => -1) (fun _ => false) (fun _ => tx_e) 0 (-1) (-1) ∧ ∀ q, q < 42 → h' q = h q)) := Q
  show Ev k G 2 43 0 0 h 0 [some (.ref (ad (g_b G) 42)), some (vI (x))] []
  refine e_aload_n X d_Mod_init_0 rfl ?_
  refine e_objInit X d_Mod_init_1 oi_Mod (by decide) ?_
  refine e_aload_n X d_Mod_init_4 rfl ?_
  refine z_sipush X d_Mod_init_5 (by decide) ?_
  refine z_newi (n := 2080) (N' := 44) (c1 := 1) (s1 := 2080) X d_Mod_init_8 aw_int (by omega) (by omega) (by omega) rfl (fun h1 c2 fr3 => ?_)
  have c4 := (fr3 42 (by omega)).trans hc
  refine z_putF X hin d_Mod_init_10 fl_Mod_7 c4 (by omega) (Nat.le_of_ble_eq_true rfl) rfl rfl (fun h5 c6 fr7 => ?_)
  have c6 : h5 42 = ob ci_Mod [.ref (ad (g_b G) 43), .null, vI 0, vI 0, .null, .null, vI 0, vI 0, vI 0, .null, vI 0, vI 0, .null, .null, vI 0, .null, .null, vI 0] := c6
  have c8 := (fr7 43 (by omega)).trans c2
  refine e_aload_n X d_Mod_init_13 rfl ?_
  refine z_bipush X d_Mod_init_14 (by decide) ?_
  refine z_newi (n := 13) (N' := 45) (c1 := 2) (s1 := 2093) X d_Mod_init_16 aw_int (by omega) (by omega) (by omega) rfl (fun h9 c10 fr11 => ?_)
  have c12 := (fr11 42 (by omega)).trans c6
  have c13 := (fr11 43 (by omega)).trans c8
  refine z_putF X hin d_Mod_init_18 fl_Mod_13 c12 (by omega) (Nat.le_of_ble_eq_true rfl) rfl rfl (fun h14 c15 fr16 => ?_)
  have c15 : h14 42 = ob ci_Mod [.ref (ad (g_b G) 43), .ref (ad (g_b G) 44), vI 0, vI 0, .null, .null, vI 0, vI 0, vI 0, .null, vI 0, vI 0, .null, .null, vI 0, .null, .null, vI 0] := c15
  have c17 := (fr16 43 (by omega)).trans c13
  have c18 := (fr16 44 (by omega)).trans c10
  refine e_aload_n X d_Mod_init_21 rfl ?_
  refine z_iconst X d_Mod_init_22 ?_
  refine z_newz (n := 5) (N' := 46) (c1 := 3) (s1 := 2098) X d_Mod_init_23 aw_boolean (by omega) (by omega) (by omega) rfl (fun h19 c20 fr21 => ?_)
  have c22 := (fr21 42 (by omega)).trans c15
  have c23 := (fr21 43 (by omega)).trans c17
  have c24 := (fr21 44 (by omega)).trans c18
  refine z_putF X hin d_Mod_init_25 fl_Mod_16 c22 (by omega) (Nat.le_of_ble_eq_true rfl) rfl rfl (fun h25 c26 fr27 => ?_)
  have c26 : h25 42 = ob ci_Mod [.ref (ad (g_b G) 43), .ref (ad (g_b G) 44), vI 0, vI 0, .ref (ad (g_b G) 45), .null, vI 0, vI 0, vI 0, .null, vI 0, vI 0, .null, .null, vI 0, .null, .null, vI 0] := c26
  have c28 := (fr27 43 (by omega)).trans c23
  have c29 := (fr27 44 (by omega)).trans c24
  have c30 := (fr27 45 (by omega)).trans c20
  refine e_aload_n X d_Mod_init_28 rfl ?_
  refine z_bipush X d_Mod_init_29 (by decide) ?_
  refine z_newi (n := 24) (N' := 47) (c1 := 4) (s1 := 2122) X d_Mod_init_31 aw_int (by omega) (by omega) (by omega) rfl (fun h31 c32 fr33 => ?_)
  have c34 := (fr33 42 (by omega)).trans c26
  have c35 := (fr33 43 (by omega)).trans c28
  have c36 := (fr33 44 (by omega)).trans c29
  have c37 := (fr33 45 (by omega)).trans c30
  refine z_putF X hin d_Mod_init_33 fl_Mod_20 c34 (by omega) (Nat.le_of_ble_eq_true rfl) rfl rfl (fun h38 c39 fr40 => ?_)
  have c39 : h38 42 = ob ci_Mod [.ref (ad (g_b G) 43), .ref (ad (g_b G) 44), vI 0, vI 0, .ref (ad (g_b G) 45), .ref (ad (g_b G) 46), vI 0, vI 0, vI 0, .null, vI 0, vI 0, .null, .null, vI 0, .null, .null, vI 0] := c39
  have c41 := (fr40 43 (by omega)).trans c35
  have c42 := (fr40 44 (by omega)).trans c36
  have c43 := (fr40 45 (by omega)).trans c37
  have c44 := (fr40 46 (by omega)).trans c32
  refine e_aload_n X d_Mod_init_36 rfl ?_
  refine z_iconst X d_Mod_init_37 ?_
  refine z_put X d_Mod_init_38 fl_Mod_23 c39 (by omega) (Nat.le_of_ble_eq_true rfl) rfl rfl (fun h45 c46 fr47 => ?_)
  have c46 : h45 42 = ob ci_Mod [.ref (ad (g_b G) 43), .ref (ad (g_b G) 44), vI 0, vI 0, .ref (ad (g_b G) 45), .ref (ad (g_b G) 46), vI 0, vI 0, vI (-1), .null, vI 0, vI 0, .null, .null, vI 0, .null, .null, vI 0] := c46
  have c48 := (fr47 43 (by omega)).trans c41
  have c49 := (fr47 44 (by omega)).trans c42
  have c50 := (fr47 45 (by omega)).trans c43
  have c51 := (fr47 46 (by omega)).trans c44
  refine e_aload_n X d_Mod_init_41 rfl ?_
  refine z_sipush X d_Mod_init_42 (by decide) ?_
  refine z_newi (n := 160) (N' := 48) (c1 := 5) (s1 := 2282) X d_Mod_init_45 aw_int (by omega) (by omega) (by omega) rfl (fun h52 c53 fr54 => ?_)
  have c55 := (fr54 42 (by omega)).trans c46
  have c56 := (fr54 43 (by omega)).trans c48
  have c57 := (fr54 44 (by omega)).trans c49
  have c58 := (fr54 45 (by omega)).trans c50
  have c59 := (fr54 46 (by omega)).trans c51
  refine z_putF X hin d_Mod_init_47 fl_Mod_27 c55 (by omega) (Nat.le_of_ble_eq_true rfl) rfl rfl (fun h60 c61 fr62 => ?_)
  have c61 : h60 42 = ob ci_Mod [.ref (ad (g_b G) 43), .ref (ad (g_b G) 44), vI 0, vI 0, .ref (ad (g_b G) 45), .ref (ad (g_b G) 46), vI 0, vI 0, vI (-1), .ref (ad (g_b G) 47), vI 0, vI 0, .null, .null, vI 0, .null, .null, vI 0] := c61
  have c63 := (fr62 43 (by omega)).trans c56
  have c64 := (fr62 44 (by omega)).trans c57
  have c65 := (fr62 45 (by omega)).trans c58
  have c66 := (fr62 46 (by omega)).trans c59
  have c67 := (fr62 47 (by omega)).trans c53
  refine e_aload_n X d_Mod_init_50 rfl ?_
  refine z_sipush X d_Mod_init_51 (by decide) ?_
  refine z_newi (n := 161) (N' := 49) (c1 := 6) (s1 := 2443) X d_Mod_init_54 aw_int (by omega) (by omega) (by omega) rfl (fun h68 c69 fr70 => ?_)
  have c71 := (fr70 42 (by omega)).trans c61
  have c72 := (fr70 43 (by omega)).trans c63
  have c73 := (fr70 44 (by omega)).trans c64
  have c74 := (fr70 45 (by omega)).trans c65
  have c75 := (fr70 46 (by omega)).trans c66
  have c76 := (fr70 47 (by omega)).trans c67
  refine z_putF X hin d_Mod_init_56 fl_Mod_30 c71 (by omega) (Nat.le_of_ble_eq_true rfl) rfl rfl (fun h77 c78 fr79 => ?_)
  have c78 : h77 42 = ob ci_Mod [.ref (ad (g_b G) 43), .ref (ad (g_b G) 44), vI 0, vI 0, .ref (ad (g_b G) 45), .ref (ad (g_b G) 46), vI 0, vI 0, vI (-1), .ref (ad (g_b G) 47), vI 0, vI 0, .ref (ad (g_b G) 48), .null, vI 0, .null, .null, vI 0] := c78
  have c80 := (fr79 43 (by omega)).trans c72
  have c81 := (fr79 44 (by omega)).trans c73
  have c82 := (fr79 45 (by omega)).trans c74
  have c83 := (fr79 46 (by omega)).trans c75
  have c84 := (fr79 47 (by omega)).trans c76
  have c85 := (fr79 48 (by omega)).trans c69
  refine e_aload_n X d_Mod_init_59 rfl ?_
  refine z_sipush X d_Mod_init_60 (by decide) ?_
  refine z_newi (n := 161) (N' := 50) (c1 := 7) (s1 := 2604) X d_Mod_init_63 aw_int (by omega) (by omega) (by omega) rfl (fun h86 c87 fr88 => ?_)
  have c89 := (fr88 42 (by omega)).trans c78
  have c90 := (fr88 43 (by omega)).trans c80
  have c91 := (fr88 44 (by omega)).trans c81
  have c92 := (fr88 45 (by omega)).trans c82
  have c93 := (fr88 46 (by omega)).trans c83
  have c94 := (fr88 47 (by omega)).trans c84
  have c95 := (fr88 48 (by omega)).trans c85
  refine z_putF X hin d_Mod_init_65 fl_Mod_33 c89 (by omega) (Nat.le_of_ble_eq_true rfl) rfl rfl (fun h96 c97 fr98 => ?_)
  have c97 : h96 42 = ob ci_Mod [.ref (ad (g_b G) 43), .ref (ad (g_b G) 44), vI 0, vI 0, .ref (ad (g_b G) 45), .ref (ad (g_b G) 46), vI 0, vI 0, vI (-1), .ref (ad (g_b G) 47), vI 0, vI 0, .ref (ad (g_b G) 48), .ref (ad (g_b G) 49), vI 0, .null, .null, vI 0] := c97
  have c99 := (fr98 43 (by omega)).trans c90
  have c100 := (fr98 44 (by omega)).trans c91
  have c101 := (fr98 45 (by omega)).trans c92
  have c102 := (fr98 46 (by omega)).trans c93
  have c103 := (fr98 47 (by omega)).trans c94
  have c104 := (fr98 48 (by omega)).trans c95
  have c105 := (fr98 49 (by omega)).trans c87
  refine e_aload_n X d_Mod_init_68 rfl ?_
  refine z_sipush X d_Mod_init_69 (by decide) ?_
  refine z_newi (n := 162) (N' := 51) (c1 := 8) (s1 := 2766) X d_Mod_init_72 aw_int (by omega) (by omega) (by omega) rfl (fun h106 c107 fr108 => ?_)
  have c109 := (fr108 42 (by omega)).trans c97
  have c110 := (fr108 43 (by omega)).trans c99
  have c111 := (fr108 44 (by omega)).trans c100
  have c112 := (fr108 45 (by omega)).trans c101
  have c113 := (fr108 46 (by omega)).trans c102
  have c114 := (fr108 47 (by omega)).trans c103
  have c115 := (fr108 48 (by omega)).trans c104
  have c116 := (fr108 49 (by omega)).trans c105
  refine z_putF X hin d_Mod_init_74 fl_Mod_36 c109 (by omega) (Nat.le_of_ble_eq_true rfl) rfl rfl (fun h117 c118 fr119 => ?_)
  have c118 : h117 42 = ob ci_Mod [.ref (ad (g_b G) 43), .ref (ad (g_b G) 44), vI 0, vI 0, .ref (ad (g_b G) 45), .ref (ad (g_b G) 46), vI 0, vI 0, vI (-1), .ref (ad (g_b G) 47), vI 0, vI 0, .ref (ad (g_b G) 48), .ref (ad (g_b G) 49), vI 0, .ref (ad (g_b G) 50), .null, vI 0] := c118
  have c120 := (fr119 43 (by omega)).trans c110
  have c121 := (fr119 44 (by omega)).trans c111
  have c122 := (fr119 45 (by omega)).trans c112
  have c123 := (fr119 46 (by omega)).trans c113
  have c124 := (fr119 47 (by omega)).trans c114
  have c125 := (fr119 48 (by omega)).trans c115
  have c126 := (fr119 49 (by omega)).trans c116
  have c127 := (fr119 50 (by omega)).trans c107
  refine e_aload_n X d_Mod_init_77 rfl ?_
  refine z_sipush X d_Mod_init_78 (by decide) ?_
  refine z_newz (n := 161) (N' := 52) (c1 := 9) (s1 := 2927) X d_Mod_init_81 aw_boolean (by omega) (by omega) (by omega) rfl (fun h128 c129 fr130 => ?_)
  have c131 := (fr130 42 (by omega)).trans c118
  have c132 := (fr130 43 (by omega)).trans c120
  have c133 := (fr130 44 (by omega)).trans c121
  have c134 := (fr130 45 (by omega)).trans c122
  have c135 := (fr130 46 (by omega)).trans c123
  have c136 := (fr130 47 (by omega)).trans c124
  have c137 := (fr130 48 (by omega)).trans c125
  have c138 := (fr130 49 (by omega)).trans c126
  have c139 := (fr130 50 (by omega)).trans c127
  refine z_putF X hin d_Mod_init_83 fl_Mod_39 c131 (by omega) (Nat.le_of_ble_eq_true rfl) rfl rfl (fun h140 c141 fr142 => ?_)
  have c141 : h140 42 = ob ci_Mod [.ref (ad (g_b G) 43), .ref (ad (g_b G) 44), vI 0, vI 0, .ref (ad (g_b G) 45), .ref (ad (g_b G) 46), vI 0, vI 0, vI (-1), .ref (ad (g_b G) 47), vI 0, vI 0, .ref (ad (g_b G) 48), .ref (ad (g_b G) 49), vI 0, .ref (ad (g_b G) 50), .ref (ad (g_b G) 51), vI 0] := c141
  have c143 := (fr142 43 (by omega)).trans c132
  have c144 := (fr142 44 (by omega)).trans c133
  have c145 := (fr142 45 (by omega)).trans c134
  have c146 := (fr142 46 (by omega)).trans c135
  have c147 := (fr142 47 (by omega)).trans c136
  have c148 := (fr142 48 (by omega)).trans c137
  have c149 := (fr142 49 (by omega)).trans c138
  have c150 := (fr142 50 (by omega)).trans c139
  have c151 := (fr142 51 (by omega)).trans c129
  refine e_aload_n X d_Mod_init_86 rfl ?_
  refine z_iconst X d_Mod_init_87 ?_
  refine z_put X d_Mod_init_88 fl_Mod_42 c141 (by omega) (Nat.le_of_ble_eq_true rfl) rfl rfl (fun h152 c153 fr154 => ?_)
  have c153 : h152 42 = ob ci_Mod [.ref (ad (g_b G) 43), .ref (ad (g_b G) 44), vI 0, vI 0, .ref (ad (g_b G) 45), .ref (ad (g_b G) 46), vI 0, vI 0, vI (-1), .ref (ad (g_b G) 47), vI 0, vI 0, .ref (ad (g_b G) 48), .ref (ad (g_b G) 49), vI 0, .ref (ad (g_b G) 50), .ref (ad (g_b G) 51), vI (-1)] := c153
  have c155 := (fr154 43 (by omega)).trans c143
  have c156 := (fr154 44 (by omega)).trans c144
  have c157 := (fr154 45 (by omega)).trans c145
  have c158 := (fr154 46 (by omega)).trans c146
  have c159 := (fr154 47 (by omega)).trans c147
  have c160 := (fr154 48 (by omega)).trans c148
  have c161 := (fr154 49 (by omega)).trans c149
  have c162 := (fr154 50 (by omega)).trans c150
  have c163 := (fr154 51 (by omega)).trans c151
  refine e_aload_n X d_Mod_init_91 rfl ?_
  refine z_iload_n X d_Mod_init_92 rfl ?_
  refine z_iconst X d_Mod_init_93 ?_
  refine z_icmp_ne (tgt := 101) X d_Mod_init_94 (by decide) (by omega) (fun q1 => ?_) (fun q1 => ?_)
  · refine z_iconst X d_Mod_init_101 ?_
    refine z_put X d_Mod_init_102 fl_Mod_42 c153 (by omega) (Nat.le_of_ble_eq_true rfl) rfl rfl (fun h164 c165 fr166 => ?_)
    have c165 : h164 42 = ob ci_Mod [.ref (ad (g_b G) 43), .ref (ad (g_b G) 44), vI 0, vI 0, .ref (ad (g_b G) 45), .ref (ad (g_b G) 46), vI 0, vI 0, vI (-1), .ref (ad (g_b G) 47), vI 0, vI 0, .ref (ad (g_b G) 48), .ref (ad (g_b G) 49), vI 0, .ref (ad (g_b G) 50), .ref (ad (g_b G) 51), vI (-1)] := c165
    have c167 := (fr166 43 (by omega)).trans c155
    have c168 := (fr166 44 (by omega)).trans c156
    have c169 := (fr166 45 (by omega)).trans c157
    have c170 := (fr166 46 (by omega)).trans c158
    have c171 := (fr166 47 (by omega)).trans c159
    have c172 := (fr166 48 (by omega)).trans c160
    have c173 := (fr166 49 (by omega)).trans c161
    have c174 := (fr166 50 (by omega)).trans c162
    have c175 := (fr166 51 (by omega)).trans c163
    exact z_return X Q d_Mod_init_105 ⟨⟨_, _, _, _, _, 0, 0, 0, _, _, _, _, ⟨c165, c167, c168, c169, c170, c171, c172, c173, c174, c175⟩, fun j hj => ⟨rfl, Nat.zero_le _, fun k hk => absurd hk (Nat.not_lt_zero _), tx_0⟩, fun j j1 j2 j3 => absurd j3 Bool.false_ne_true, fun j j1 j2 => rfl, fun k hk => absurd hk (Nat.not_lt_zero _), tx_0, by omega, by omega, Or.inl rfl, by omega, by omega⟩, fun q hq => (fr166 q (by omega)).trans ((fr154 q (by omega)).trans ((fr142 q (by omega)).trans ((fr130 q (by omega)).trans ((fr119 q (by omega)).trans ((fr108 q (by omega)).trans ((fr98 q (by omega)).trans ((fr88 q (by omega)).trans ((fr79 q (by omega)).trans ((fr70 q (by omega)).trans ((fr62 q (by omega)).trans ((fr54 q (by omega)).trans ((fr47 q (by omega)).trans ((fr40 q (by omega)).trans ((fr33 q (by omega)).trans ((fr27 q (by omega)).trans ((fr21 q (by omega)).trans ((fr16 q (by omega)).trans ((fr11 q (by omega)).trans ((fr7 q (by omega)).trans (fr3 q (by omega)))))))))))))))))))))⟩
  · refine z_iconst X d_Mod_init_97 ?_
    refine e_goto (tgt := 102) X d_Mod_init_98 (by decide) ?_
    refine z_put X d_Mod_init_102 fl_Mod_42 c153 (by omega) (Nat.le_of_ble_eq_true rfl) rfl rfl (fun h176 c177 fr178 => ?_)
    have c177 : h176 42 = ob ci_Mod [.ref (ad (g_b G) 43), .ref (ad (g_b G) 44), vI 0, vI 0, .ref (ad (g_b G) 45), .ref (ad (g_b G) 46), vI 0, vI 0, vI (-1), .ref (ad (g_b G) 47), vI 0, vI 0, .ref (ad (g_b G) 48), .ref (ad (g_b G) 49), vI 0, .ref (ad (g_b G) 50), .ref (ad (g_b G) 51), vI (-1)] := c177
    have c179 := (fr178 43 (by omega)).trans c155
    have c180 := (fr178 44 (by omega)).trans c156
    have c181 := (fr178 45 (by omega)).trans c157
    have c182 := (fr178 46 (by omega)).trans c158
    have c183 := (fr178 47 (by omega)).trans c159
    have c184 := (fr178 48 (by omega)).trans c160
    have c185 := (fr178 49 (by omega)).trans c161
    have c186 := (fr178 50 (by omega)).trans c162
    have c187 := (fr178 51 (by omega)).trans c163
    exact z_return X Q d_Mod_init_105 ⟨⟨_, _, _, _, _, 0, 0, 0, _, _, _, _, ⟨c177, c179, c180, c181, c182, c183, c184, c185, c186, c187⟩, fun j hj => ⟨rfl, Nat.zero_le _, fun k hk => absurd hk (Nat.not_lt_zero _), tx_0⟩, fun j j1 j2 j3 => absurd j3 Bool.false_ne_true, fun j j1 j2 => rfl, fun k hk => absurd hk (Nat.not_lt_zero _), tx_0, by omega, by omega, Or.inl rfl, by omega, by omega⟩, fun q hq => (fr178 q (by omega)).trans ((fr154 q (by omega)).trans ((fr142 q (by omega)).trans ((fr130 q (by omega)).trans ((fr119 q (by omega)).trans ((fr108 q (by omega)).trans ((fr98 q (by omega)).trans ((fr88 q (by omega)).trans ((fr79 q (by omega)).trans ((fr70 q (by omega)).trans ((fr62 q (by omega)).trans ((fr54 q (by omega)).trans ((fr47 q (by omega)).trans ((fr40 q (by omega)).trans ((fr33 q (by omega)).trans ((fr27 q (by omega)).trans ((fr21 q (by omega)).trans ((fr16 q (by omega)).trans ((fr11 q (by omega)).trans ((fr7 q (by omega)).trans (fr3 q (by omega)))))))))))))))))))))⟩

