set_option maxRecDepth 100000 in
set_option maxHeartbeats 4000000 in
theorem c_Clu_isMark {l : Launch} {G : lx_G} {N : Nat} {h : Nat → va_E} {x : Int} (hr : -2147483648 ≤ x ∧ x < 2147483648) : CtI l G m_Clu_isMark N [vI (x)] h (fun z h' => z = b2z (is_mark x) ∧ h' = h) := by
  refine zI_of (by decide) rfl rfl ?_
  intro k X Q
  have X : Cx k G R_Clu b_Clu_isMark 1 rm_Clu_isMark := X
  have Q : Rt k G (some (.boolean)) N 0 0 (pI (fun z h' => z = b2z (is_mark x) ∧ h' = h)) := Q
  show Ev k G 1 N 0 0 h 0 [some (vI (x))] []
  refine z_iload_n X d_Clu_isMark_0 rfl ?_
  refine z_sipush X d_Clu_isMark_1 (by decide) ?_
  refine z_icmp_lt (tgt := 18) X d_Clu_isMark_4 (by decide) (by omega) (fun q1 => ?_) (fun q1 => ?_)
  · refine z_iconst X d_Clu_isMark_18 ?_
    exact z_ireturn X Q d_Clu_isMark_19 rfl ⟨(b2z_f (decide_eq_false (by omega))).symm, rfl⟩
  · refine z_iload_n X d_Clu_isMark_7 rfl ?_
    refine z_sipush X d_Clu_isMark_8 (by decide) ?_
    refine z_icmp_gt (tgt := 18) X d_Clu_isMark_11 (by decide) (by omega) (fun q2 => ?_) (fun q2 => ?_)
    · refine z_iconst X d_Clu_isMark_18 ?_
      exact z_ireturn X Q d_Clu_isMark_19 rfl ⟨(b2z_f (decide_eq_false (by omega))).symm, rfl⟩
    · refine z_iconst X d_Clu_isMark_14 ?_
      refine e_goto (tgt := 19) X d_Clu_isMark_15 (by decide) ?_
      exact z_ireturn X Q d_Clu_isMark_19 rfl ⟨(b2z_t (decide_eq_true (by omega))).symm, rfl⟩

set_option maxRecDepth 100000 in
set_option maxHeartbeats 4000000 in
theorem c_Clu_isPicture {l : Launch} {G : lx_G} {N : Nat} {h : Nat → va_E} {x : Int} (hr : -2147483648 ≤ x ∧ x < 2147483648) : CtI l G m_Clu_isPicture N [vI (x)] h (fun z h' => z = b2z (is_pic x) ∧ h' = h) := by
  refine zI_of (by decide) rfl rfl ?_
  intro k X Q
  have X : Cx k G R_Clu b_Clu_isPicture 1 rm_Clu_isPicture := X
  have Q : Rt k G (some (.boolean)) N 0 0 (pI (fun z h' => z = b2z (is_pic x) ∧ h' = h)) := Q
  show Ev k G 1 N 0 0 h 0 [some (vI (x))] []
  refine z_iload_n X d_Clu_isPicture_0 rfl ?_
  refine z_ldc (n := 127744) X d_Clu_isPicture_1 cst_Clu_34 (by decide) ?_
  refine z_icmp_lt (tgt := 16) X d_Clu_isPicture_3 (by decide) (by omega) (fun q1 => ?_) (fun q1 => ?_)
  · refine z_iconst X d_Clu_isPicture_16 ?_
    exact z_ireturn X Q d_Clu_isPicture_17 rfl ⟨(b2z_f (decide_eq_false (by omega))).symm, rfl⟩
  · refine z_iload_n X d_Clu_isPicture_6 rfl ?_
    refine z_ldc (n := 129791) X d_Clu_isPicture_7 cst_Clu_35 (by decide) ?_
    refine z_icmp_gt (tgt := 16) X d_Clu_isPicture_9 (by decide) (by omega) (fun q2 => ?_) (fun q2 => ?_)
    · refine z_iconst X d_Clu_isPicture_16 ?_
      exact z_ireturn X Q d_Clu_isPicture_17 rfl ⟨(b2z_f (decide_eq_false (by omega))).symm, rfl⟩
    · refine z_iconst X d_Clu_isPicture_12 ?_
      refine e_goto (tgt := 17) X d_Clu_isPicture_13 (by decide) ?_
      exact z_ireturn X Q d_Clu_isPicture_17 rfl ⟨(b2z_t (decide_eq_true (by omega))).symm, rfl⟩

set_option maxRecDepth 100000 in
set_option maxHeartbeats 4000000 in
theorem c_Clu_isFlag {l : Launch} {G : lx_G} {N : Nat} {h : Nat → va_E} {x : Int} (hr : -2147483648 ≤ x ∧ x < 2147483648) : CtI l G m_Clu_isFlag N [vI (x)] h (fun z h' => z = b2z (is_flag x) ∧ h' = h) := by
  refine zI_of (by decide) rfl rfl ?_
  intro k X Q
  have X : Cx k G R_Clu b_Clu_isFlag 1 rm_Clu_isFlag := X
  have Q : Rt k G (some (.boolean)) N 0 0 (pI (fun z h' => z = b2z (is_flag x) ∧ h' = h)) := Q
  show Ev k G 1 N 0 0 h 0 [some (vI (x))] []
  refine z_iload_n X d_Clu_isFlag_0 rfl ?_
  refine z_ldc (n := 127462) X d_Clu_isFlag_1 cst_Clu_36 (by decide) ?_
  refine z_icmp_lt (tgt := 16) X d_Clu_isFlag_3 (by decide) (by omega) (fun q1 => ?_) (fun q1 => ?_)
  · refine z_iconst X d_Clu_isFlag_16 ?_
    exact z_ireturn X Q d_Clu_isFlag_17 rfl ⟨(b2z_f (decide_eq_false (by omega))).symm, rfl⟩
  · refine z_iload_n X d_Clu_isFlag_6 rfl ?_
    refine z_ldc (n := 127487) X d_Clu_isFlag_7 cst_Clu_37 (by decide) ?_
    refine z_icmp_gt (tgt := 16) X d_Clu_isFlag_9 (by decide) (by omega) (fun q2 => ?_) (fun q2 => ?_)
    · refine z_iconst X d_Clu_isFlag_16 ?_
      exact z_ireturn X Q d_Clu_isFlag_17 rfl ⟨(b2z_f (decide_eq_false (by omega))).symm, rfl⟩
    · refine z_iconst X d_Clu_isFlag_12 ?_
      refine e_goto (tgt := 17) X d_Clu_isFlag_13 (by decide) ?_
      exact z_ireturn X Q d_Clu_isFlag_17 rfl ⟨(b2z_t (decide_eq_true (by omega))).symm, rfl⟩

set_option maxRecDepth 100000 in
set_option maxHeartbeats 4000000 in
theorem c_Mod_isMark {l : Launch} {G : lx_G} {N : Nat} {h : Nat → va_E} {x : Int} (hr : -2147483648 ≤ x ∧ x < 2147483648) : CtI l G m_Mod_isMark N [vI (x)] h (fun z h' => z = b2z (is_mark x) ∧ h' = h) := by
  refine zI_of (by decide) rfl rfl ?_
  intro k X Q
  have X : Cx k G R_Mod b_Mod_isMark 1 rm_Mod_isMark := X
  have Q : Rt k G (some (.boolean)) N 0 0 (pI (fun z h' => z = b2z (is_mark x) ∧ h' = h)) := Q
  show Ev k G 1 N 0 0 h 0 [some (vI (x))] []
  refine z_iload_n X d_Mod_isMark_0 rfl ?_
  refine z_sipush X d_Mod_isMark_1 (by decide) ?_
  refine z_icmp_lt (tgt := 18) X d_Mod_isMark_4 (by decide) (by omega) (fun q1 => ?_) (fun q1 => ?_)
  · refine z_iconst X d_Mod_isMark_18 ?_
    exact z_ireturn X Q d_Mod_isMark_19 rfl ⟨(b2z_f (decide_eq_false (by omega))).symm, rfl⟩
  · refine z_iload_n X d_Mod_isMark_7 rfl ?_
    refine z_sipush X d_Mod_isMark_8 (by decide) ?_
    refine z_icmp_gt (tgt := 18) X d_Mod_isMark_11 (by decide) (by omega) (fun q2 => ?_) (fun q2 => ?_)
    · refine z_iconst X d_Mod_isMark_18 ?_
      exact z_ireturn X Q d_Mod_isMark_19 rfl ⟨(b2z_f (decide_eq_false (by omega))).symm, rfl⟩
    · refine z_iconst X d_Mod_isMark_14 ?_
      refine e_goto (tgt := 19) X d_Mod_isMark_15 (by decide) ?_
      exact z_ireturn X Q d_Mod_isMark_19 rfl ⟨(b2z_t (decide_eq_true (by omega))).symm, rfl⟩

set_option maxRecDepth 100000 in
set_option maxHeartbeats 4000000 in
theorem c_Mod_isPicture {l : Launch} {G : lx_G} {N : Nat} {h : Nat → va_E} {x : Int} (hr : -2147483648 ≤ x ∧ x < 2147483648) : CtI l G m_Mod_isPicture N [vI (x)] h (fun z h' => z = b2z (is_pic x) ∧ h' = h) := by
  refine zI_of (by decide) rfl rfl ?_
  intro k X Q
  have X : Cx k G R_Mod b_Mod_isPicture 1 rm_Mod_isPicture := X
  have Q : Rt k G (some (.boolean)) N 0 0 (pI (fun z h' => z = b2z (is_pic x) ∧ h' = h)) := Q
  show Ev k G 1 N 0 0 h 0 [some (vI (x))] []
  refine z_iload_n X d_Mod_isPicture_0 rfl ?_
  refine z_ldc (n := 127744) X d_Mod_isPicture_1 cst_Mod_59 (by decide) ?_
  refine z_icmp_lt (tgt := 16) X d_Mod_isPicture_3 (by decide) (by omega) (fun q1 => ?_) (fun q1 => ?_)
  · refine z_iconst X d_Mod_isPicture_16 ?_
    exact z_ireturn X Q d_Mod_isPicture_17 rfl ⟨(b2z_f (decide_eq_false (by omega))).symm, rfl⟩
  · refine z_iload_n X d_Mod_isPicture_6 rfl ?_
    refine z_ldc (n := 129791) X d_Mod_isPicture_7 cst_Mod_60 (by decide) ?_
    refine z_icmp_gt (tgt := 16) X d_Mod_isPicture_9 (by decide) (by omega) (fun q2 => ?_) (fun q2 => ?_)
    · refine z_iconst X d_Mod_isPicture_16 ?_
      exact z_ireturn X Q d_Mod_isPicture_17 rfl ⟨(b2z_f (decide_eq_false (by omega))).symm, rfl⟩
    · refine z_iconst X d_Mod_isPicture_12 ?_
      refine e_goto (tgt := 17) X d_Mod_isPicture_13 (by decide) ?_
      exact z_ireturn X Q d_Mod_isPicture_17 rfl ⟨(b2z_t (decide_eq_true (by omega))).symm, rfl⟩

set_option maxRecDepth 100000 in
set_option maxHeartbeats 4000000 in
theorem c_Mod_isFlag {l : Launch} {G : lx_G} {N : Nat} {h : Nat → va_E} {x : Int} (hr : -2147483648 ≤ x ∧ x < 2147483648) : CtI l G m_Mod_isFlag N [vI (x)] h (fun z h' => z = b2z (is_flag x) ∧ h' = h) := by
  refine zI_of (by decide) rfl rfl ?_
  intro k X Q
  have X : Cx k G R_Mod b_Mod_isFlag 1 rm_Mod_isFlag := X
  have Q : Rt k G (some (.boolean)) N 0 0 (pI (fun z h' => z = b2z (is_flag x) ∧ h' = h)) := Q
  show Ev k G 1 N 0 0 h 0 [some (vI (x))] []
  refine z_iload_n X d_Mod_isFlag_0 rfl ?_
  refine z_ldc (n := 127462) X d_Mod_isFlag_1 cst_Mod_61 (by decide) ?_
  refine z_icmp_lt (tgt := 16) X d_Mod_isFlag_3 (by decide) (by omega) (fun q1 => ?_) (fun q1 => ?_)
  · refine z_iconst X d_Mod_isFlag_16 ?_
    exact z_ireturn X Q d_Mod_isFlag_17 rfl ⟨(b2z_f (decide_eq_false (by omega))).symm, rfl⟩
  · refine z_iload_n X d_Mod_isFlag_6 rfl ?_
    refine z_ldc (n := 127487) X d_Mod_isFlag_7 cst_Mod_62 (by decide) ?_
    refine z_icmp_gt (tgt := 16) X d_Mod_isFlag_9 (by decide) (by omega) (fun q2 => ?_) (fun q2 => ?_)
    · refine z_iconst X d_Mod_isFlag_16 ?_
      exact z_ireturn X Q d_Mod_isFlag_17 rfl ⟨(b2z_f (decide_eq_false (by omega))).symm, rfl⟩
    · refine z_iconst X d_Mod_isFlag_12 ?_
      refine e_goto (tgt := 17) X d_Mod_isFlag_13 (by decide) ?_
      exact z_ireturn X Q d_Mod_isFlag_17 rfl ⟨(b2z_t (decide_eq_true (by omega))).symm, rfl⟩

set_option maxRecDepth 100000 in
set_option maxHeartbeats 4000000 in
theorem c_Itm_isFirst {l : Launch} {G : lx_G} {N : Nat} {h : Nat → va_E} {x : Int} (hr : -2147483648 ≤ x ∧ x < 2147483648) : CtI l G m_Itm_isFirst N [vI (x)] h (fun z h' => z = b2z (u_hi x) ∧ h' = h) := by
  refine zI_of (by decide) rfl rfl ?_
  intro k X Q
  have X : Cx k G R_Itm b_Itm_isFirst 1 rm_Itm_isFirst := X
  have Q : Rt k G (some (.boolean)) N 0 0 (pI (fun z h' => z = b2z (u_hi x) ∧ h' = h)) := Q
  show Ev k G 1 N 0 0 h 0 [some (vI (x))] []
  refine z_iload_n X d_Itm_isFirst_0 rfl ?_
  refine z_ldc (n := 55296) X d_Itm_isFirst_1 cst_Itm_72 (by decide) ?_
  refine z_icmp_lt (tgt := 16) X d_Itm_isFirst_3 (by decide) (by omega) (fun q1 => ?_) (fun q1 => ?_)
  · refine z_iconst X d_Itm_isFirst_16 ?_
    exact z_ireturn X Q d_Itm_isFirst_17 rfl ⟨(b2z_f (decide_eq_false (by omega))).symm, rfl⟩
  · refine z_iload_n X d_Itm_isFirst_6 rfl ?_
    refine z_ldc (n := 56319) X d_Itm_isFirst_7 cst_Itm_74 (by decide) ?_
    refine z_icmp_gt (tgt := 16) X d_Itm_isFirst_9 (by decide) (by omega) (fun q2 => ?_) (fun q2 => ?_)
    · refine z_iconst X d_Itm_isFirst_16 ?_
      exact z_ireturn X Q d_Itm_isFirst_17 rfl ⟨(b2z_f (decide_eq_false (by omega))).symm, rfl⟩
    · refine z_iconst X d_Itm_isFirst_12 ?_
      refine e_goto (tgt := 17) X d_Itm_isFirst_13 (by decide) ?_
      exact z_ireturn X Q d_Itm_isFirst_17 rfl ⟨(b2z_t (decide_eq_true (by omega))).symm, rfl⟩

set_option maxRecDepth 100000 in
set_option maxHeartbeats 4000000 in
theorem c_Itm_isSecond {l : Launch} {G : lx_G} {N : Nat} {h : Nat → va_E} {x : Int} (hr : -2147483648 ≤ x ∧ x < 2147483648) : CtI l G m_Itm_isSecond N [vI (x)] h (fun z h' => z = b2z (u_lo x) ∧ h' = h) := by
  refine zI_of (by decide) rfl rfl ?_
  intro k X Q
  have X : Cx k G R_Itm b_Itm_isSecond 1 rm_Itm_isSecond := X
  have Q : Rt k G (some (.boolean)) N 0 0 (pI (fun z h' => z = b2z (u_lo x) ∧ h' = h)) := Q
  show Ev k G 1 N 0 0 h 0 [some (vI (x))] []
  refine z_iload_n X d_Itm_isSecond_0 rfl ?_
  refine z_ldc (n := 56320) X d_Itm_isSecond_1 cst_Itm_73 (by decide) ?_
  refine z_icmp_lt (tgt := 16) X d_Itm_isSecond_3 (by decide) (by omega) (fun q1 => ?_) (fun q1 => ?_)
  · refine z_iconst X d_Itm_isSecond_16 ?_
    exact z_ireturn X Q d_Itm_isSecond_17 rfl ⟨(b2z_f (decide_eq_false (by omega))).symm, rfl⟩
  · refine z_iload_n X d_Itm_isSecond_6 rfl ?_
    refine z_ldc (n := 57343) X d_Itm_isSecond_7 cst_Itm_75 (by decide) ?_
    refine z_icmp_gt (tgt := 16) X d_Itm_isSecond_9 (by decide) (by omega) (fun q2 => ?_) (fun q2 => ?_)
    · refine z_iconst X d_Itm_isSecond_16 ?_
      exact z_ireturn X Q d_Itm_isSecond_17 rfl ⟨(b2z_f (decide_eq_false (by omega))).symm, rfl⟩
    · refine z_iconst X d_Itm_isSecond_12 ?_
      refine e_goto (tgt := 17) X d_Itm_isSecond_13 (by decide) ?_
      exact z_ireturn X Q d_Itm_isSecond_17 rfl ⟨(b2z_t (decide_eq_true (by omega))).symm, rfl⟩

set_option maxRecDepth 100000 in
set_option maxHeartbeats 4000000 in
theorem c_Clu_restart {l : Launch} {G : lx_G} {N : Nat} {h : Nat → va_E} {i fl : Nat} {last lead : Int} (hc0 : h i = ob ci_Clu [vI last, vI lead, vI (fl : Int)]) (hN : i < N) : CtV l G m_Clu_restart N [.ref (ad (g_b G) i)] h (fun h' => h' i = ob ci_Clu [vI (-1), vI (-1), vI ((0 : Nat) : Int)] ∧ ∀ q, q ≠ i → h' q = h q) := by
  refine zV_of (by decide) rfl rfl ?_
  intro k X Q
  have X : Cx k G R_Clu b_Clu_restart 1 rm_Clu_restart := X
  have Q : Rt k G none N 0 0 (pV (fun h' => h' i = ob ci_Clu [vI (-1), vI (-1), vI ((0 : Nat) : Int)] ∧ ∀ q, q ≠ i → h' q = h q)) := Q
  show Ev k G 1 N 0 0 h 0 [some (.ref (ad (g_b G) i))] []
  refine e_aload_n X d_Clu_restart_0 rfl ?_
  refine z_iconst X d_Clu_restart_1 ?_
  refine z_put X d_Clu_restart_2 fl_Clu_9 hc0 (by omega) (Nat.le_of_ble_eq_true rfl) rfl rfl (fun h1 c2 fr3 => ?_)
  have c2 : h1 i = ob ci_Clu [vI (-1), vI (lead), vI ((fl : Nat) : Int)] := c2
  refine e_aload_n X d_Clu_restart_5 rfl ?_
  refine z_iconst X d_Clu_restart_6 ?_
  refine z_put X d_Clu_restart_7 fl_Clu_15 c2 (by omega) (Nat.le_of_ble_eq_true rfl) rfl rfl (fun h4 c5 fr6 => ?_)
  have c5 : h4 i = ob ci_Clu [vI (-1), vI (-1), vI ((fl : Nat) : Int)] := c5
  refine e_aload_n X d_Clu_restart_10 rfl ?_
  refine z_iconst X d_Clu_restart_11 ?_
  refine z_put X d_Clu_restart_12 fl_Clu_18 c5 (by omega) (Nat.le_of_ble_eq_true rfl) rfl rfl (fun h7 c8 fr9 => ?_)
  have c8 : h7 i = ob ci_Clu [vI (-1), vI (-1), vI 0] := c8
  exact z_return X Q d_Clu_restart_15 ⟨c8, fun q q1 => (fr9 q q1).trans ((fr6 q q1).trans (fr3 q q1))⟩

set_option maxRecDepth 100000 in
set_option maxHeartbeats 4000000 in
theorem c_Clu_isJoinedTo {l : Launch} {G : lx_G} {N : Nat} {h : Nat → va_E} {i fl : Nat} {last lead : Int} {x : Int} (hc0 : h i = ob ci_Clu [vI last, vI lead, vI (fl : Int)]) (hN : i < N) (hr1 : -1 ≤ last ∧ last < 1114112) (hr2 : -1 ≤ lead ∧ lead < 1114112) (hr3 : fl ≤ 200) (hr : -1 ≤ x ∧ x < 1114112) : CtI l G m_Clu_isJoinedTo N [.ref (ad (g_b G) i), vI (x)] h (fun z h' => z = b2z (jn last lead fl x) ∧ h' = h) := by
  refine zI_of (by decide) rfl rfl ?_
  intro k X Q
  have X : Cx k G R_Clu b_Clu_isJoinedTo 2 rm_Clu_isJoinedTo := X
  have Q : Rt k G (some (.boolean)) N 0 0 (pI (fun z h' => z = b2z (jn last lead fl x) ∧ h' = h)) := Q
  show Ev k G 2 N 0 0 h 0 [some (.ref (ad (g_b G) i)), some (vI (x))] []
  refine z_iload_n X d_Clu_isJoinedTo_0 rfl ?_
  refine z_callS_I X d_Clu_isJoinedTo_1 cs_Clu_28 (c_Clu_isMark (by omega)) rfl rfl ⟨rfl, rfl⟩ rfl (fun z3 h1 hp2 => ?_)
  obtain ⟨rfl, hh4⟩ := hp2
  rw [hh4]
  refine z_if_ne (tgt := 14) X d_Clu_isJoinedTo_4 (by decide) (b2z_r _) (fun q5 => ?_) (fun q5 => ?_)
  · have g7 : (is_mark x) = true := b2z_ne q5
    refine e_aload_n X d_Clu_isJoinedTo_14 rfl ?_
    refine e_get X d_Clu_isJoinedTo_15 fl_Clu_9 hc0 (by omega) rfl ?_
    refine z_bipush X d_Clu_isJoinedTo_18 (by decide) ?_
    refine z_icmp_le (tgt := 27) X d_Clu_isJoinedTo_20 (by decide) (by omega) (fun q8 => ?_) (fun q8 => ?_)
    · have g9 : decide (31 < last) = false := decide_eq_false (by omega)
      refine z_iconst X d_Clu_isJoinedTo_27 ?_
      exact z_ireturn X Q d_Clu_isJoinedTo_28 rfl ⟨by simp [jn, b2z, g7, g9], rfl⟩
    · have g10 : decide (31 < last) = true := decide_eq_true (by omega)
      refine z_iconst X d_Clu_isJoinedTo_23 ?_
      refine e_goto (tgt := 28) X d_Clu_isJoinedTo_24 (by decide) ?_
      exact z_ireturn X Q d_Clu_isJoinedTo_28 rfl ⟨by simp [jn, b2z, g7, g10], rfl⟩
  · have g6 : (is_mark x) = false := b2z_eq q5
    refine z_iload_n X d_Clu_isJoinedTo_7 rfl ?_
    refine z_sipush X d_Clu_isJoinedTo_8 (by decide) ?_
    refine z_icmp_ne (tgt := 29) X d_Clu_isJoinedTo_11 (by decide) (by omega) (fun q11 => ?_) (fun q11 => ?_)
    · have g12 : decide (x = 8205) = false := decide_eq_false (by omega)
      refine z_iload_n X d_Clu_isJoinedTo_29 rfl ?_
      refine z_callS_I X d_Clu_isJoinedTo_30 cs_Clu_31 (c_Clu_isPicture (by omega)) rfl rfl ⟨rfl, rfl⟩ rfl (fun z16 h14 hp15 => ?_)
      obtain ⟨rfl, hh17⟩ := hp15
      rw [hh17]
      refine z_if_eq (tgt := 62) X d_Clu_isJoinedTo_33 (by decide) (b2z_r _) (fun q18 => ?_) (fun q18 => ?_)
      · have g19 : (is_pic x) = false := b2z_eq q18
        refine z_iload_n X d_Clu_isJoinedTo_62 rfl ?_
        refine z_callS_I X d_Clu_isJoinedTo_63 cs_Clu_25 (c_Clu_isFlag (by omega)) rfl rfl ⟨rfl, rfl⟩ rfl (fun z23 h21 hp22 => ?_)
        obtain ⟨rfl, hh24⟩ := hp22
        rw [hh24]
        refine z_if_eq (tgt := 94) X d_Clu_isJoinedTo_66 (by decide) (b2z_r _) (fun q25 => ?_) (fun q25 => ?_)
        · have g26 : (is_flag x) = false := b2z_eq q25
          refine e_aload_n X d_Clu_isJoinedTo_94 rfl ?_
          refine e_get X d_Clu_isJoinedTo_95 fl_Clu_9 hc0 (by omega) rfl ?_
          refine z_bipush X d_Clu_isJoinedTo_98 (by decide) ?_
          refine z_icmp_ne (tgt := 113) X d_Clu_isJoinedTo_100 (by decide) (by omega) (fun q28 => ?_) (fun q28 => ?_)
          · have g29 : decide (last = 13) = false := decide_eq_false (by omega)
            refine z_iconst X d_Clu_isJoinedTo_113 ?_
            exact z_ireturn X Q d_Clu_isJoinedTo_114 rfl ⟨by simp [jn, b2z, g6, g12, g19, g26, g29], rfl⟩
          · have g30 : decide (last = 13) = true := decide_eq_true (by omega)
            refine z_iload_n X d_Clu_isJoinedTo_103 rfl ?_
            refine z_bipush X d_Clu_isJoinedTo_104 (by decide) ?_
            refine z_icmp_ne (tgt := 113) X d_Clu_isJoinedTo_106 (by decide) (by omega) (fun q31 => ?_) (fun q31 => ?_)
            · have g32 : decide (x = 10) = false := decide_eq_false (by omega)
              refine z_iconst X d_Clu_isJoinedTo_113 ?_
              exact z_ireturn X Q d_Clu_isJoinedTo_114 rfl ⟨by simp [jn, b2z, g6, g12, g19, g26, g30, g32], rfl⟩
            · have g33 : decide (x = 10) = true := decide_eq_true (by omega)
              refine z_iconst X d_Clu_isJoinedTo_109 ?_
              refine e_goto (tgt := 114) X d_Clu_isJoinedTo_110 (by decide) ?_
              exact z_ireturn X Q d_Clu_isJoinedTo_114 rfl ⟨by simp [jn, b2z, g6, g12, g19, g26, g30, g33], rfl⟩
        · have g27 : (is_flag x) = true := b2z_ne q25
          refine e_aload_n X d_Clu_isJoinedTo_69 rfl ?_
          refine e_get X d_Clu_isJoinedTo_70 fl_Clu_9 hc0 (by omega) rfl ?_
          refine z_callS_I X d_Clu_isJoinedTo_73 cs_Clu_25 (c_Clu_isFlag (by omega)) rfl rfl ⟨rfl, rfl⟩ rfl (fun z36 h34 hp35 => ?_)
          obtain ⟨rfl, hh37⟩ := hp35
          rw [hh37]
          refine z_if_eq (tgt := 92) X d_Clu_isJoinedTo_76 (by decide) (b2z_r _) (fun q38 => ?_) (fun q38 => ?_)
          · have g39 : (is_flag last) = false := b2z_eq q38
            refine z_iconst X d_Clu_isJoinedTo_92 ?_
            exact z_ireturn X Q d_Clu_isJoinedTo_93 rfl ⟨by simp [jn, b2z, g6, g12, g19, g27, g39], rfl⟩
          · have g40 : (is_flag last) = true := b2z_ne q38
            refine e_aload_n X d_Clu_isJoinedTo_79 rfl ?_
            refine e_get X d_Clu_isJoinedTo_80 fl_Clu_18 hc0 (by omega) rfl ?_
            refine z_iconst X d_Clu_isJoinedTo_83 ?_
            refine z_irem X d_Clu_isJoinedTo_84 (by omega) (by omega) ?_
            refine z_if_ne (tgt := 92) X d_Clu_isJoinedTo_85 (by decide) (by omega) (fun q41 => ?_) (fun q41 => ?_)
            · have g42 : decide (fl % 2 = 0) = false := decide_eq_false (by omega)
              refine z_iconst X d_Clu_isJoinedTo_92 ?_
              exact z_ireturn X Q d_Clu_isJoinedTo_93 rfl ⟨by simp [jn, b2z, g6, g12, g19, g27, g40, g42], rfl⟩
            · have g43 : decide (fl % 2 = 0) = true := decide_eq_true (by omega)
              refine z_iconst X d_Clu_isJoinedTo_88 ?_
              refine e_goto (tgt := 93) X d_Clu_isJoinedTo_89 (by decide) ?_
              exact z_ireturn X Q d_Clu_isJoinedTo_93 rfl ⟨by simp [jn, b2z, g6, g12, g19, g27, g40, g43], rfl⟩
      · have g20 : (is_pic x) = true := b2z_ne q18
        refine e_aload_n X d_Clu_isJoinedTo_36 rfl ?_
        refine e_get X d_Clu_isJoinedTo_37 fl_Clu_9 hc0 (by omega) rfl ?_
        refine z_sipush X d_Clu_isJoinedTo_40 (by decide) ?_
        refine z_icmp_ne (tgt := 60) X d_Clu_isJoinedTo_43 (by decide) (by omega) (fun q44 => ?_) (fun q44 => ?_)
        · have g45 : decide (last = 8205) = false := decide_eq_false (by omega)
          refine z_iconst X d_Clu_isJoinedTo_60 ?_
          exact z_ireturn X Q d_Clu_isJoinedTo_61 rfl ⟨by simp [jn, b2z, g6, g12, g20, g45], rfl⟩
        · have g46 : decide (last = 8205) = true := decide_eq_true (by omega)
          refine e_aload_n X d_Clu_isJoinedTo_46 rfl ?_
          refine e_get X d_Clu_isJoinedTo_47 fl_Clu_15 hc0 (by omega) rfl ?_
          refine z_callS_I X d_Clu_isJoinedTo_50 cs_Clu_31 (c_Clu_isPicture (by omega)) rfl rfl ⟨rfl, rfl⟩ rfl (fun z49 h47 hp48 => ?_)
          obtain ⟨rfl, hh50⟩ := hp48
          rw [hh50]
          refine z_if_eq (tgt := 60) X d_Clu_isJoinedTo_53 (by decide) (b2z_r _) (fun q51 => ?_) (fun q51 => ?_)
          · have g52 : (is_pic lead) = false := b2z_eq q51
            refine z_iconst X d_Clu_isJoinedTo_60 ?_
            exact z_ireturn X Q d_Clu_isJoinedTo_61 rfl ⟨by simp [jn, b2z, g6, g12, g20, g46, g52], rfl⟩
          · have g53 : (is_pic lead) = true := b2z_ne q51
            refine z_iconst X d_Clu_isJoinedTo_56 ?_
            refine e_goto (tgt := 61) X d_Clu_isJoinedTo_57 (by decide) ?_
            exact z_ireturn X Q d_Clu_isJoinedTo_61 rfl ⟨by simp [jn, b2z, g6, g12, g20, g46, g53], rfl⟩
    · have g13 : decide (x = 8205) = true := decide_eq_true (by omega)
      refine e_aload_n X d_Clu_isJoinedTo_14 rfl ?_
      refine e_get X d_Clu_isJoinedTo_15 fl_Clu_9 hc0 (by omega) rfl ?_
      refine z_bipush X d_Clu_isJoinedTo_18 (by decide) ?_
      refine z_icmp_le (tgt := 27) X d_Clu_isJoinedTo_20 (by decide) (by omega) (fun q54 => ?_) (fun q54 => ?_)
      · have g55 : decide (31 < last) = false := decide_eq_false (by omega)
        refine z_iconst X d_Clu_isJoinedTo_27 ?_
        exact z_ireturn X Q d_Clu_isJoinedTo_28 rfl ⟨by simp [jn, b2z, g6, g13, g55], rfl⟩
      · have g56 : decide (31 < last) = true := decide_eq_true (by omega)
        refine z_iconst X d_Clu_isJoinedTo_23 ?_
        refine e_goto (tgt := 28) X d_Clu_isJoinedTo_24 (by decide) ?_
        exact z_ireturn X Q d_Clu_isJoinedTo_28 rfl ⟨by simp [jn, b2z, g6, g13, g56], rfl⟩

set_option maxRecDepth 100000 in
set_option maxHeartbeats 4000000 in
theorem c_Clu_isCutBefore {l : Launch} {G : lx_G} {N : Nat} {h : Nat → va_E} {i fl : Nat} {last lead : Int} {x : Int} (hc0 : h i = ob ci_Clu [vI last, vI lead, vI (fl : Int)]) (hN : i < N) (hr1 : -1 ≤ last ∧ last < 1114112) (hr2 : -1 ≤ lead ∧ lead < 1114112) (hr3 : fl ≤ 200) (hr : -1 ≤ x ∧ x < 1114112) : CtI l G m_Clu_isCutBefore N [.ref (ad (g_b G) i), vI (x)] h (fun z h' => z = b2z (decide (last = -1) || !jn last lead fl x) ∧ h' i = ob ci_Clu [vI x, vI (if is_mark last then lead else last), vI (((if is_flag last then fl + 1 else 0) : Nat) : Int)] ∧ ∀ q, q ≠ i → h' q = h q) := by
  refine zI_of (by decide) rfl rfl ?_
  intro k X Q
  have X : Cx k G R_Clu b_Clu_isCutBefore 3 rm_Clu_isCutBefore := X
  have Q : Rt k G (some (.boolean)) N 0 0 (pI (fun z h' => z = b2z (decide (last = -1) || !jn last lead fl x) ∧ h' i = ob ci_Clu [vI x, vI (if is_mark last then lead else last), vI (((if is_flag last then fl + 1 else 0) : Nat) : Int)] ∧ ∀ q, q ≠ i → h' q = h q)) := Q
  show Ev k G 3 N 0 0 h 0 [some (.ref (ad (g_b G) i)), some (vI (x)), none] []
  have J1 : Ev k G 3 N 0 0 h 21 [some (.ref (ad (g_b G) i)), some (vI (x)), none] [vI (b2z (decide (last = -1) || !jn last lead fl x))] := by
    refine e_istore_n X d_Clu_isCutBefore_21 (by decide) ?_
    refine e_aload_n X d_Clu_isCutBefore_22 rfl ?_
    refine e_aload_n X d_Clu_isCutBefore_23 rfl ?_
    refine e_get X d_Clu_isCutBefore_24 fl_Clu_9 hc0 (by omega) rfl ?_
    refine z_callS_I X d_Clu_isCutBefore_27 cs_Clu_25 (c_Clu_isFlag (by omega)) rfl rfl ⟨rfl, rfl⟩ rfl (fun z3 h1 hp2 => ?_)
    obtain ⟨rfl, hh4⟩ := hp2
    rw [hh4]
    have J2 : Ev k G 3 N 0 0 h 43 [some (.ref (ad (g_b G) i)), some (vI (x)), some (vI (b2z (decide (last = -1) || !jn last lead fl x)))] [vI (((if is_flag last then fl + 1 else 0) : Nat) : Int), .ref (ad (g_b G) i)] := by
      refine z_put X d_Clu_isCutBefore_43 fl_Clu_18 hc0 (by omega) (Nat.le_of_ble_eq_true rfl) rfl rfl (fun h5 c6 fr7 => ?_)
      have c6 : h5 i = ob ci_Clu [vI (last), vI (lead), vI (((if is_flag last then fl + 1 else 0) : Nat) : Int)] := c6
      refine e_aload_n X d_Clu_isCutBefore_46 rfl ?_
      refine e_get X d_Clu_isCutBefore_47 fl_Clu_9 c6 (by omega) rfl ?_
      refine z_callS_I X d_Clu_isCutBefore_50 cs_Clu_28 (c_Clu_isMark (by omega)) rfl rfl ⟨rfl, rfl⟩ rfl (fun z10 h8 hp9 => ?_)
      obtain ⟨rfl, hh11⟩ := hp9
      rw [hh11]
      refine z_if_ne (tgt := 64) X d_Clu_isCutBefore_53 (by decide) (b2z_r _) (fun q5 => ?_) (fun q5 => ?_)
      · refine e_aload_n X d_Clu_isCutBefore_64 rfl ?_
        refine z_iload_n X d_Clu_isCutBefore_65 rfl ?_
        refine z_put X d_Clu_isCutBefore_66 fl_Clu_9 c6 (by omega) (Nat.le_of_ble_eq_true rfl) rfl rfl (fun h12 c13 fr14 => ?_)
        have c13 : h12 i = ob ci_Clu [vI (x), vI (lead), vI (((if is_flag last then fl + 1 else 0) : Nat) : Int)] := c13
        refine z_iload_n X d_Clu_isCutBefore_69 rfl ?_
        have hm : is_mark last = true := b2z_ne q5
        have e0 := c13
        exact z_ireturn X Q d_Clu_isCutBefore_70 (b2z_nar _) ⟨rfl, by rw [e0, if_pos hm], fun q q1 => (fr14 q q1).trans (fr7 q q1)⟩
      · refine e_aload_n X d_Clu_isCutBefore_56 rfl ?_
        refine e_aload_n X d_Clu_isCutBefore_57 rfl ?_
        refine e_get X d_Clu_isCutBefore_58 fl_Clu_9 c6 (by omega) rfl ?_
        refine z_put X d_Clu_isCutBefore_61 fl_Clu_15 c6 (by omega) (Nat.le_of_ble_eq_true rfl) rfl rfl (fun h15 c16 fr17 => ?_)
        have c16 : h15 i = ob ci_Clu [vI (last), vI (last), vI (((if is_flag last then fl + 1 else 0) : Nat) : Int)] := c16
        refine e_aload_n X d_Clu_isCutBefore_64 rfl ?_
        refine z_iload_n X d_Clu_isCutBefore_65 rfl ?_
        refine z_put X d_Clu_isCutBefore_66 fl_Clu_9 c16 (by omega) (Nat.le_of_ble_eq_true rfl) rfl rfl (fun h18 c19 fr20 => ?_)
        have c19 : h18 i = ob ci_Clu [vI (x), vI (last), vI (((if is_flag last then fl + 1 else 0) : Nat) : Int)] := c19
        refine z_iload_n X d_Clu_isCutBefore_69 rfl ?_
        have hm : is_mark last = false := b2z_eq q5
        have e0 := c19
        exact z_ireturn X Q d_Clu_isCutBefore_70 (b2z_nar _) ⟨rfl, by rw [e0, if_neg (show ¬ is_mark last = true by rw [hm]; decide)], fun q q1 => (fr20 q q1).trans ((fr17 q q1).trans (fr7 q q1))⟩
    refine z_if_eq (tgt := 42) X d_Clu_isCutBefore_30 (by decide) (b2z_r _) (fun q6 => ?_) (fun q6 => ?_)
    · refine z_iconst X d_Clu_isCutBefore_42 ?_
      refine z_top (show _ = (((if is_flag last then fl + 1 else 0) : Nat) : Int) by rw [if_neg (by rw [b2z_eq q6]; decide)]; rfl) ?_
      exact J2
    · refine e_aload_n X d_Clu_isCutBefore_33 rfl ?_
      refine e_get X d_Clu_isCutBefore_34 fl_Clu_18 hc0 (by omega) rfl ?_
      refine z_iconst X d_Clu_isCutBefore_37 ?_
      refine z_iadd X d_Clu_isCutBefore_38 ?_
      refine e_goto (tgt := 43) X d_Clu_isCutBefore_39 (by decide) ?_
      refine z_top (show _ = (((if is_flag last then fl + 1 else 0) : Nat) : Int) by rw [if_pos (b2z_ne q6)]; omega) ?_
      exact J2
  refine e_aload_n X d_Clu_isCutBefore_0 rfl ?_
  refine e_get X d_Clu_isCutBefore_1 fl_Clu_9 hc0 (by omega) rfl ?_
  refine z_iconst X d_Clu_isCutBefore_4 ?_
  refine z_icmp_eq (tgt := 16) X d_Clu_isCutBefore_5 (by decide) (by omega) (fun q1 => ?_) (fun q1 => ?_)
  · refine z_iconst X d_Clu_isCutBefore_16 ?_
    refine e_goto (tgt := 21) X d_Clu_isCutBefore_17 (by decide) ?_
    refine z_top (show _ = b2z (decide (last = -1) || !jn last lead fl x) from (b2z_t (by simp [q1])).symm) ?_
    exact J1
  · refine e_aload_n X d_Clu_isCutBefore_8 rfl ?_
    refine z_iload_n X d_Clu_isCutBefore_9 rfl ?_
    refine z_callV_I X d_Clu_isCutBefore_10 cv_Clu_21 (c_Clu_isJoinedTo hc0 hN hr1 hr2 hr3 hr) hc0 (by omega) rfl rfl ⟨rfl, rfl⟩ rfl (fun z23 h21 hp22 => ?_)
    obtain ⟨rfl, hh24⟩ := hp22
    rw [hh24]
    refine z_if_ne (tgt := 20) X d_Clu_isCutBefore_13 (by decide) (b2z_r _) (fun q2 => ?_) (fun q2 => ?_)
    · refine z_iconst X d_Clu_isCutBefore_20 ?_
      refine z_top (show _ = b2z (decide (last = -1) || !jn last lead fl x) from (b2z_f (by simp [q1, b2z_ne q2])).symm) ?_
      exact J1
    · refine z_iconst X d_Clu_isCutBefore_16 ?_
      refine e_goto (tgt := 21) X d_Clu_isCutBefore_17 (by decide) ?_
      refine z_top (show _ = b2z (decide (last = -1) || !jn last lead fl x) from (b2z_t (by simp [b2z_eq q2])).symm) ?_
      exact J1

