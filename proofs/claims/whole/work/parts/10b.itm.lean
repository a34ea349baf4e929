set_option maxRecDepth 100000 in
set_option maxHeartbeats 4000000 in
theorem c_Itm_isSecondHalf {l : Launch} {G : lx_G} {N : Nat} {h : Nat → va_E} {e n p : Nat} {t : Nat → Int} (hT : Tx G h e n t) (heN : e + 1 < N) (hpn : p ≤ n) : CtI l G m_Itm_isSecondHalf N [.ref (ad (g_b G) e), vI ((p : Nat) : Int)] h (fun z h' => z = b2z (u_hi (t_pre t p) && u_lo (t p)) ∧ h' = h) := by
  have ht := hT.ok
  have hle := hT.le
  have hp1 := t_pre_rg ht p
  have hp2 := tx_ge ht p
  have hp3 := tx_ge ht (p + 1)
  refine zI_of (by decide) rfl rfl ?_
  intro k X Q
  have X : Cx k G R_Itm b_Itm_isSecondHalf 2 rm_Itm_isSecondHalf := X
  have Q : Rt k G (some (.boolean)) N 0 0 (pI (fun z h' => z = b2z (u_hi (t_pre t p) && u_lo (t p)) ∧ h' = h)) := Q
  show Ev k G 2 N 0 0 h 0 [some (.ref (ad (g_b G) e)), some (vI ((p : Nat) : Int))] []
  refine e_aload_n X d_Itm_isSecondHalf_0 rfl ?_
  refine z_iload_n X d_Itm_isSecondHalf_1 rfl ?_
  refine z_iconst X d_Itm_isSecondHalf_2 ?_
  refine z_isub X d_Itm_isSecondHalf_3 ?_
  refine z_Tat X d_Itm_isSecondHalf_4 cf_Itm_62_Row cf_Itm_62_Gap hT heN (by omega) rfl ?_
  refine z_top (show _ = (t_pre t p) from tat_pre p) ?_
  refine z_callS_I X d_Itm_isSecondHalf_9 cs_Itm_65 (c_Itm_isFirst (by omega)) rfl rfl ⟨rfl, rfl⟩ rfl (fun z3 h1 hp2 => ?_)
  obtain ⟨rfl, hh4⟩ := hp2
  rw [hh4]
  refine z_if_eq (tgt := 32) X d_Itm_isSecondHalf_12 (by decide) (b2z_r _) (fun q5 => ?_) (fun q5 => ?_)
  · have g6 : (u_hi (t_pre t p)) = false := b2z_eq q5
    refine z_iconst X d_Itm_isSecondHalf_32 ?_
    exact z_ireturn X Q d_Itm_isSecondHalf_33 rfl ⟨by simp [b2z, g6], rfl⟩
  · have g7 : (u_hi (t_pre t p)) = true := b2z_ne q5
    refine e_aload_n X d_Itm_isSecondHalf_15 rfl ?_
    refine z_iload_n X d_Itm_isSecondHalf_16 rfl ?_
    refine z_Tat X d_Itm_isSecondHalf_17 cf_Itm_62_Row cf_Itm_62_Gap hT heN (by omega) rfl ?_
    refine z_top (show _ = (t p) from tat_n t p) ?_
    refine z_callS_I X d_Itm_isSecondHalf_22 cs_Itm_68 (c_Itm_isSecond (by omega)) rfl rfl ⟨rfl, rfl⟩ rfl (fun z10 h8 hp9 => ?_)
    obtain ⟨rfl, hh11⟩ := hp9
    rw [hh11]
    refine z_if_eq (tgt := 32) X d_Itm_isSecondHalf_25 (by decide) (b2z_r _) (fun q12 => ?_) (fun q12 => ?_)
    · have g13 : (u_lo (t p)) = false := b2z_eq q12
      refine z_iconst X d_Itm_isSecondHalf_32 ?_
      exact z_ireturn X Q d_Itm_isSecondHalf_33 rfl ⟨by simp [b2z, g7, g13], rfl⟩
    · have g14 : (u_lo (t p)) = true := b2z_ne q12
      refine z_iconst X d_Itm_isSecondHalf_28 ?_
      refine e_goto (tgt := 33) X d_Itm_isSecondHalf_29 (by decide) ?_
      exact z_ireturn X Q d_Itm_isSecondHalf_33 rfl ⟨by simp [b2z, g7, g14], rfl⟩

set_option maxRecDepth 100000 in
set_option maxHeartbeats 4000000 in
theorem c_Itm_beginsLine {l : Launch} {G : lx_G} {N : Nat} {h : Nat → va_E} {e n p : Nat} {t : Nat → Int} (hT : Tx G h e n t) (heN : e + 1 < N) (hpn : p ≤ n) : CtI l G m_Itm_beginsLine N [.ref (ad (g_b G) e), vI ((p : Nat) : Int)] h (fun z h' => z = b2z (bg2 n t p) ∧ h' = h) := by
  have ht := hT.ok
  have hle := hT.le
  have hp1 := t_pre_rg ht p
  have hp2 := tx_ge ht p
  have hp3 := tx_ge ht (p + 1)
  refine zI_of (by decide) rfl rfl ?_
  intro k X Q
  have X : Cx k G R_Itm b_Itm_beginsLine 3 rm_Itm_beginsLine := X
  have Q : Rt k G (some (.boolean)) N 0 0 (pI (fun z h' => z = b2z (bg2 n t p) ∧ h' = h)) := Q
  show Ev k G 3 N 0 0 h 0 [some (.ref (ad (g_b G) e)), some (vI ((p : Nat) : Int)), none] []
  refine e_aload_n X d_Itm_beginsLine_0 rfl ?_
  refine z_iload_n X d_Itm_beginsLine_1 rfl ?_
  refine z_iconst X d_Itm_beginsLine_2 ?_
  refine z_isub X d_Itm_beginsLine_3 ?_
  refine z_Tat X d_Itm_beginsLine_4 cf_Itm_62_Row cf_Itm_62_Gap hT heN (by omega) rfl ?_
  refine z_top (show _ = (t_pre t p) from tat_pre p) ?_
  refine e_istore_n X d_Itm_beginsLine_9 (by decide) ?_
  refine z_iload_n X d_Itm_beginsLine_10 rfl ?_
  refine z_if_eq (tgt := 38) X d_Itm_beginsLine_11 (by decide) (by omega) (fun q1 => ?_) (fun q1 => ?_)
  · have g2 : decide (p = 0) = true := decide_eq_true (by omega)
    refine z_iconst X d_Itm_beginsLine_38 ?_
    refine e_goto (tgt := 43) X d_Itm_beginsLine_39 (by decide) ?_
    exact z_ireturn X Q d_Itm_beginsLine_43 rfl ⟨by simp [bg2, b2z, hpn, g2], rfl⟩
  · have g3 : decide (p = 0) = false := decide_eq_false (by omega)
    refine z_iload_n X d_Itm_beginsLine_14 rfl ?_
    refine z_bipush X d_Itm_beginsLine_15 (by decide) ?_
    refine z_icmp_eq (tgt := 38) X d_Itm_beginsLine_17 (by decide) (by omega) (fun q4 => ?_) (fun q4 => ?_)
    · have g5 : decide (t_pre t p = 10) = true := decide_eq_true (by omega)
      refine z_iconst X d_Itm_beginsLine_38 ?_
      refine e_goto (tgt := 43) X d_Itm_beginsLine_39 (by decide) ?_
      exact z_ireturn X Q d_Itm_beginsLine_43 rfl ⟨by simp [bg2, b2z, hpn, g3, g5], rfl⟩
    · have g6 : decide (t_pre t p = 10) = false := decide_eq_false (by omega)
      refine z_iload_n X d_Itm_beginsLine_20 rfl ?_
      refine z_bipush X d_Itm_beginsLine_21 (by decide) ?_
      refine z_icmp_ne (tgt := 42) X d_Itm_beginsLine_23 (by decide) (by omega) (fun q7 => ?_) (fun q7 => ?_)
      · have g8 : decide (t_pre t p = 13) = false := decide_eq_false (by omega)
        refine z_iconst X d_Itm_beginsLine_42 ?_
        exact z_ireturn X Q d_Itm_beginsLine_43 rfl ⟨by simp [bg2, b2z, hpn, g3, g6, g8], rfl⟩
      · have g9 : decide (t_pre t p = 13) = true := decide_eq_true (by omega)
        refine e_aload_n X d_Itm_beginsLine_26 rfl ?_
        refine z_iload_n X d_Itm_beginsLine_27 rfl ?_
        refine z_Tat X d_Itm_beginsLine_28 cf_Itm_62_Row cf_Itm_62_Gap hT heN (by omega) rfl ?_
        refine z_top (show _ = (t p) from tat_n t p) ?_
        refine z_bipush X d_Itm_beginsLine_33 (by decide) ?_
        refine z_icmp_eq (tgt := 42) X d_Itm_beginsLine_35 (by decide) (by omega) (fun q10 => ?_) (fun q10 => ?_)
        · have g11 : decide (t p = 10) = true := decide_eq_true (by omega)
          refine z_iconst X d_Itm_beginsLine_42 ?_
          exact z_ireturn X Q d_Itm_beginsLine_43 rfl ⟨by simp [bg2, b2z, hpn, g3, g6, g9, g11], rfl⟩
        · have g12 : decide (t p = 10) = false := decide_eq_false (by omega)
          refine z_iconst X d_Itm_beginsLine_38 ?_
          refine e_goto (tgt := 43) X d_Itm_beginsLine_39 (by decide) ?_
          exact z_ireturn X Q d_Itm_beginsLine_43 rfl ⟨by simp [bg2, b2z, hpn, g3, g6, g9, g12], rfl⟩

set_option maxRecDepth 100000 in
set_option maxHeartbeats 4000000 in
theorem c_Itm_codeAt {l : Launch} {G : lx_G} {N : Nat} {h : Nat → va_E} {e n p : Nat} {t : Nat → Int} (hT : Tx G h e n t) (heN : e + 1 < N) (hpn : p ≤ n) : CtI l G m_Itm_codeAt N [.ref (ad (g_b G) e), vI ((p : Nat) : Int)] h (fun z h' => z = cod t p ∧ h' = h) := by
  have ht := hT.ok
  have hle := hT.le
  have hp1 := t_pre_rg ht p
  have hp2 := tx_ge ht p
  have hp3 := tx_ge ht (p + 1)
  refine zI_of (by decide) rfl rfl ?_
  intro k X Q
  have X : Cx k G R_Itm b_Itm_codeAt 4 rm_Itm_codeAt := X
  have Q : Rt k G (some (.int)) N 0 0 (pI (fun z h' => z = cod t p ∧ h' = h)) := Q
  show Ev k G 4 N 0 0 h 0 [some (.ref (ad (g_b G) e)), some (vI ((p : Nat) : Int)), none, none] []
  refine e_aload_n X d_Itm_codeAt_0 rfl ?_
  refine z_iload_n X d_Itm_codeAt_1 rfl ?_
  refine z_Tat X d_Itm_codeAt_2 cf_Itm_62_Row cf_Itm_62_Gap hT heN (by omega) rfl ?_
  refine z_top (show _ = (t p) from tat_n t p) ?_
  refine e_istore_n X d_Itm_codeAt_7 (by decide) ?_
  refine e_aload_n X d_Itm_codeAt_8 rfl ?_
  refine z_iload_n X d_Itm_codeAt_9 rfl ?_
  refine z_iconst X d_Itm_codeAt_10 ?_
  refine z_iadd X d_Itm_codeAt_11 ?_
  refine z_Tat X d_Itm_codeAt_12 cf_Itm_62_Row cf_Itm_62_Gap hT heN (by omega) rfl ?_
  refine z_top (show _ = (t (p + 1)) from tat_s t p) ?_
  refine e_istore_n X d_Itm_codeAt_17 (by decide) ?_
  refine z_iload_n X d_Itm_codeAt_18 rfl ?_
  refine z_callS_I X d_Itm_codeAt_19 cs_Itm_65 (c_Itm_isFirst (by omega)) rfl rfl ⟨rfl, rfl⟩ rfl (fun z3 h1 hp2 => ?_)
  obtain ⟨rfl, hh4⟩ := hp2
  rw [hh4]
  refine z_if_eq (tgt := 32) X d_Itm_codeAt_22 (by decide) (b2z_r _) (fun q5 => ?_) (fun q5 => ?_)
  · have g6 : (u_hi (t p)) = false := b2z_eq q5
    refine z_iload_n X d_Itm_codeAt_32 rfl ?_
    exact z_ireturn X Q d_Itm_codeAt_33 rfl ⟨by simp [cod, g6], rfl⟩
  · have g7 : (u_hi (t p)) = true := b2z_ne q5
    refine z_iload_n X d_Itm_codeAt_25 rfl ?_
    refine z_callS_I X d_Itm_codeAt_26 cs_Itm_68 (c_Itm_isSecond (by omega)) rfl rfl ⟨rfl, rfl⟩ rfl (fun z10 h8 hp9 => ?_)
    obtain ⟨rfl, hh11⟩ := hp9
    rw [hh11]
    refine z_if_ne (tgt := 34) X d_Itm_codeAt_29 (by decide) (b2z_r _) (fun q12 => ?_) (fun q12 => ?_)
    · have g14 : (u_lo (t (p + 1))) = true := b2z_ne q12
      refine z_ldc (n := 65536) X d_Itm_codeAt_34 cst_Itm_71 (by decide) ?_
      refine z_sipush X d_Itm_codeAt_36 (by decide) ?_
      refine z_iload_n X d_Itm_codeAt_39 rfl ?_
      refine z_ldc (n := 55296) X d_Itm_codeAt_40 cst_Itm_72 (by decide) ?_
      refine z_isub X d_Itm_codeAt_42 ?_
      refine z_imul X d_Itm_codeAt_43 ?_
      refine z_iadd X d_Itm_codeAt_44 ?_
      refine z_iload_n X d_Itm_codeAt_45 rfl ?_
      refine z_iadd X d_Itm_codeAt_46 ?_
      refine z_ldc (n := 56320) X d_Itm_codeAt_47 cst_Itm_73 (by decide) ?_
      refine z_isub X d_Itm_codeAt_49 ?_
      exact z_ireturn X Q d_Itm_codeAt_50 rfl ⟨by simp [cod, g7, g14], rfl⟩
    · have g13 : (u_lo (t (p + 1))) = false := b2z_eq q12
      refine z_iload_n X d_Itm_codeAt_32 rfl ?_
      exact z_ireturn X Q d_Itm_codeAt_33 rfl ⟨by simp [cod, g7, g13], rfl⟩

/-- the cells of an Items: it, its row, its walk -/
def ItC (G : lx_G) (h : Nat → va_E) (I : Nat) (num len met : Int) (f : Nat → Int) (v1 v2 : Int) (v3 : Nat) : Prop := h I = ob ci_Itm [.ref (ad (g_b G) (I + 1)), .ref (ad (g_b G) (I + 2)), vI num, vI len, vI met] ∧ h (I + 1) = rI G 161 f ∧ h (I + 2) = ob ci_Clu [vI v1, vI v2, vI (v3 : Int)]
set_option maxRecDepth 100000 in
set_option maxHeartbeats 4000000 in
theorem c_Itm_begins {l : Launch} {G : lx_G} {N : Nat} {h : Nat → va_E} {e n p : Nat} {t : Nat → Int} {I : Nat} {num m v1 v2 : Int} {v3 : Nat} {f : Nat → Int} (hI : ItC G h I num (n : Int) m f v1 v2 v3) (hIN : I + 2 < N) (hT : Tx G h e n t) (heN : e + 1 < N) (hpn : p ≤ n) (hm : 0 ≤ m ∧ m ≤ 3) (hv : m = 3 → (v1, v2, v3) = wk t p) : CtI l G m_Itm_begins N [.ref (ad (g_b G) I), .ref (ad (g_b G) e), vI ((p : Nat) : Int)] h (fun z h' => z = b2z (bg m n t p) ∧ ∃ (w1 w2 : Int) (w3 : Nat), h' (I + 2) = ob ci_Clu [vI w1, vI w2, vI (w3 : Int)] ∧ (m = 3 → (w1, w2, w3) = wk t (p + 1)) ∧ ∀ q, q ≠ I + 2 → h' q = h q) := by
  obtain ⟨hc0, hc1, hc2⟩ := hI
  have ht := hT.ok
  have hle := hT.le
  have hp1 := t_pre_rg ht p
  have hp2 := tx_ge ht p
  have hp3 := tx_ge ht (p + 1)
  refine zI_of (by decide) rfl rfl ?_
  intro k X Q
  have X : Cx k G R_Itm b_Itm_begins 3 rm_Itm_begins := X
  have Q : Rt k G (some (.boolean)) N 0 0 (pI (fun z h' => z = b2z (bg m n t p) ∧ ∃ (w1 w2 : Int) (w3 : Nat), h' (I + 2) = ob ci_Clu [vI w1, vI w2, vI (w3 : Int)] ∧ (m = 3 → (w1, w2, w3) = wk t (p + 1)) ∧ ∀ q, q ≠ I + 2 → h' q = h q)) := Q
  show Ev k G 3 N 0 0 h 0 [some (.ref (ad (g_b G) I)), some (.ref (ad (g_b G) e)), some (vI ((p : Nat) : Int))] []
  refine e_aload_n X d_Itm_begins_0 rfl ?_
  refine e_get X d_Itm_begins_1 fl_Itm_29 hc0 (by omega) rfl ?_
  refine z_iconst X d_Itm_begins_4 ?_
  refine z_icmp_ne (tgt := 14) X d_Itm_begins_5 (by decide) (by omega) (fun q1 => ?_) (fun q1 => ?_)
  · refine z_iload_n X d_Itm_begins_14 rfl ?_
    refine e_aload_n X d_Itm_begins_15 rfl ?_
    refine e_get X d_Itm_begins_16 fl_Itm_26 hc0 (by omega) rfl ?_
    refine z_icmp_eq (tgt := 37) X d_Itm_begins_19 (by decide) (by omega) (fun q2 => ?_) (fun q2 => ?_)
    · refine z_iconst X d_Itm_begins_37 ?_
      have hpn2 : p = n := by omega
      subst hpn2
      exact z_ireturn X Q d_Itm_begins_38 rfl ⟨by rw [bg_end ht q1]; rfl, v1, v2, v3, hc2, fun h9 => by rw [wk_f (bg1_end ht)]; exact hv h9, fun q _ => rfl⟩
    · refine e_aload_n X d_Itm_begins_22 rfl ?_
      refine e_get X d_Itm_begins_23 fl_Itm_29 hc0 (by omega) rfl ?_
      have hpl : p < n := by omega
      refine z_if_eq (tgt := 39) X d_Itm_begins_26 (by decide) (by omega) (fun q3 => ?_) (fun q3 => ?_)
      · refine e_aload_n X d_Itm_begins_39 rfl ?_
        refine e_get X d_Itm_begins_40 fl_Itm_29 hc0 (by omega) rfl ?_
        refine z_iconst X d_Itm_begins_43 ?_
        refine z_icmp_ne (tgt := 62) X d_Itm_begins_44 (by decide) (by omega) (fun q5 => ?_) (fun q5 => ?_)
        · refine z_iconst X d_Itm_begins_62 ?_
          refine e_goto (tgt := 67) X d_Itm_begins_63 (by decide) ?_
          exact z_ireturn X Q d_Itm_begins_67 rfl ⟨by rw [q3, bg_0, decide_eq_true hpl]; rfl, v1, v2, v3, hc2, fun h9 => absurd h9 q5, fun q _ => rfl⟩
        · omega
      · refine e_aload_n X d_Itm_begins_29 rfl ?_
        refine z_iload_n X d_Itm_begins_30 rfl ?_
        refine z_callS_I X d_Itm_begins_31 cs_Itm_51 (c_Itm_isSecondHalf hT heN hpn) rfl rfl ⟨rfl, rfl⟩ rfl (fun z7 h5 hp6 => ?_)
        obtain ⟨rfl, hh8⟩ := hp6
        rw [hh8]
        refine z_if_eq (tgt := 39) X d_Itm_begins_34 (by decide) (b2z_r _) (fun q4 => ?_) (fun q4 => ?_)
        · have hs := b2z_eq q4
          refine e_aload_n X d_Itm_begins_39 rfl ?_
          refine e_get X d_Itm_begins_40 fl_Itm_29 hc0 (by omega) rfl ?_
          refine z_iconst X d_Itm_begins_43 ?_
          refine z_icmp_ne (tgt := 62) X d_Itm_begins_44 (by decide) (by omega) (fun q5 => ?_) (fun q5 => ?_)
          · refine z_iconst X d_Itm_begins_62 ?_
            refine e_goto (tgt := 67) X d_Itm_begins_63 (by decide) ?_
            exact z_ireturn X Q d_Itm_begins_67 rfl ⟨by rw [show m = 1 by omega, bg_1, bg1_one ht hpl hs]; rfl, v1, v2, v3, hc2, fun h9 => absurd h9 q5, fun q _ => rfl⟩
          · refine e_aload_n X d_Itm_begins_47 rfl ?_
            refine e_get X d_Itm_begins_48 fl_Itm_18 hc0 (by omega) rfl ?_
            refine e_aload_n X d_Itm_begins_51 rfl ?_
            refine z_iload_n X d_Itm_begins_52 rfl ?_
            refine z_callS_I X d_Itm_begins_53 cs_Itm_54 (c_Itm_codeAt hT heN hpn) rfl rfl ⟨rfl, rfl⟩ rfl (fun z11 h9 hp10 => ?_)
            obtain ⟨rfl, hh12⟩ := hp10
            rw [hh12]
            have hb1 := bg1_one ht hpl hs
            have hcr := cod_rg ht hpl
            have hw := wk_rg ht p
            have hvw := hv q5
            have e1 : v1 = (wk t p).1 := congrArg (fun z => z.1) hvw
            have e2 : v2 = (wk t p).2.1 := congrArg (fun z => z.2.1) hvw
            have e3 : v3 = (wk t p).2.2 := congrArg (fun z => z.2.2) hvw
            refine z_callV_I X d_Itm_begins_56 cv_Itm_58 (c_Clu_isCutBefore hc2 (by omega) (by omega) (by omega) (by omega) (by omega)) hc2 (by omega) rfl rfl ⟨rfl, rfl⟩ rfl (fun z15 h13 hp14 => ?_)
            obtain ⟨rfl, hd2, hdf⟩ := hp14
            have hb3 : bg m n t p = (decide (v1 = -1) || !jn v1 v2 v3 (cod t p)) := by
              rw [q5, bg_3, bg3, hb1, Bool.true_and, e1, e2, e3]
            have hnx : (cod t p, (if is_mark v1 then v2 else v1), (if is_flag v1 then v3 + 1 else 0)) = wk t (p + 1) := by
              rw [wk_t hb1, e1, e2, e3]
            refine z_if_eq (tgt := 66) X d_Itm_begins_59 (by decide) (b2z_r _) (fun q6 => ?_) (fun q6 => ?_)
            · refine z_iconst X d_Itm_begins_66 ?_
              exact z_ireturn X Q d_Itm_begins_67 rfl ⟨by rw [hb3, b2z_eq q6]; rfl, _, _, _, hd2, fun _ => hnx, hdf⟩
            · refine z_iconst X d_Itm_begins_62 ?_
              refine e_goto (tgt := 67) X d_Itm_begins_63 (by decide) ?_
              exact z_ireturn X Q d_Itm_begins_67 rfl ⟨by rw [hb3, b2z_ne q6]; rfl, _, _, _, hd2, fun _ => hnx, hdf⟩
        · have hs := b2z_ne q4
          refine z_iconst X d_Itm_begins_37 ?_
          exact z_ireturn X Q d_Itm_begins_38 rfl ⟨by rw [bg_sec hs q3 q1]; rfl, v1, v2, v3, hc2, fun h9 => by rw [wk_f (bg1_sec hs)]; exact hv h9, fun q _ => rfl⟩
  · refine e_aload_n X d_Itm_begins_8 rfl ?_
    refine z_iload_n X d_Itm_begins_9 rfl ?_
    refine z_callS_I X d_Itm_begins_10 cs_Itm_48 (c_Itm_beginsLine hT heN hpn) rfl rfl ⟨rfl, rfl⟩ rfl (fun z3 h1 hp2 => ?_)
    obtain ⟨rfl, hh4⟩ := hp2
    rw [hh4]
    exact z_ireturn X Q d_Itm_begins_13 (b2z_nar _) ⟨by rw [q1, bg_2], v1, v2, v3, hc2, fun h9 => absurd h9 (by omega), fun q _ => rfl⟩

