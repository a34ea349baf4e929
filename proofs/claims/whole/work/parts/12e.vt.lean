def s_unit (n : Nat) (t : Nat → Int) (kp : Nat → Bool) (V : Nat → tx_T) (v a : Int) : Int := if isv kp v then tat (vtx n t V v.toNat).2 a else -1
set_option maxRecDepth 100000 in
set_option maxHeartbeats 4000000 in
theorem c_VT_unit {l : Launch} {G : lx_G} {N : Nat} {h : Nat → va_E} {n : Nat} {t : Nat → Int} {now last : Nat} {T : Nat → tx_T} {c : Nat} {p : Nat → Int} {kp : Nat → Bool} {V : Nat → tx_T} {g o en : Int} {v a : Int} (hV : VT G h n t now last T c p kp V g o en) (hN : 42 ≤ N) (hr_v : -2147483648 ≤ v ∧ v < 2147483648) (hr_a : -2147483648 ≤ a ∧ a < 2147483648) : CtI l G m_VT_unit N [.ref (ad (g_b G) 0), vI (v), vI (a)] h (fun z h' => z = s_unit n t kp V v a ∧ h' = h) := by
  refine zI_of (by decide) rfl rfl ?_
  intro k X Q
  have X : Cx k G R_VT b_VT_unit 3 rm_VT_unit := X
  have Q : Rt k G (some (.int)) N 0 0 (pI (fun z h' => z = s_unit n t kp V v a ∧ h' = h)) := Q
  show Ev k G 3 N 0 0 h 0 [some (.ref (ad (g_b G) 0)), some (vI (v)), some (vI (a))] []
  have c0 := hV.1
  have c5 := hV.2.2.2.1
  refine e_aload_n X d_VT_unit_0 rfl ?_
  refine z_iload_n X d_VT_unit_1 rfl ?_
  refine z_callV_I X d_VT_unit_2 cv_VT_116 (c_VT_isVersion hV hN hr_v) c0 (by omega) rfl rfl ⟨rfl, rfl⟩ rfl (fun z3 h1 hp2 => ?_)
  obtain ⟨rfl, hh4⟩ := hp2
  rw [hh4]
  refine z_if_eq (tgt := 23) X d_VT_unit_5 (by decide) (b2z_r _) (fun q1 => ?_) (fun q1 => ?_)
  · refine z_iconst X d_VT_unit_23 ?_
    exact z_ireturn X Q d_VT_unit_24 rfl ⟨by unfold s_unit; rw [b2z_eq q1]; rfl, rfl⟩
  · have his_v := b2z_ne q1
    obtain ⟨j, rfl, hj4_v, hvx_v, hTv_v⟩ := hV.ver his_v
    have hle_v := hTv_v.le
    have htx_v := hTv_v.ok
    refine e_aload_n X d_VT_unit_8 rfl ?_
    refine e_get X d_VT_unit_9 fl_VT_27 c0 (by omega) rfl ?_
    refine z_iload_n X d_VT_unit_12 rfl ?_
    refine z_tald X d_VT_unit_13 (j := j) c5 (by omega) (by omega) (by omega) rfl ?_
    refine z_iload_n X d_VT_unit_14 rfl ?_
    refine z_Tat X d_VT_unit_15 cf_VT_120_Row cf_VT_120_Gap hTv_v (by omega) (by omega) rfl ?_
    refine z_top (show _ = (tat (vtx n t V j).2 a) from rfl) ?_
    refine e_goto (tgt := 24) X d_VT_unit_20 (by decide) ?_
    exact z_ireturn X Q d_VT_unit_24 rfl ⟨by unfold s_unit; rw [his_v]; rfl, rfl⟩

def mok (m : Int) : Bool := decide (0 ≤ m) && decide (m ≤ 3)
def s_count (n : Nat) (t : Nat → Int) (kp : Nat → Bool) (V : Nat → tx_T) (v m : Int) : Int := if isv kp v && mok m then ((cnt (bg m (vtx n t V v.toNat).1 (vtx n t V v.toNat).2) ((vtx n t V v.toNat).1 + 1) : Nat) : Int) else -1
def s_place (n : Nat) (t : Nat → Int) (kp : Nat → Bool) (V : Nat → tx_T) (v m k : Int) : Int := if isv kp v && mok m then it_place m (vtx n t V v.toNat).1 (vtx n t V v.toNat).2 k else -1
def s_item (n : Nat) (t : Nat → Int) (kp : Nat → Bool) (V : Nat → tx_T) (v m a : Int) : Int := if isv kp v && (mok m && (decide (0 ≤ a) && decide (a ≤ (((vtx n t V v.toNat).1 : Nat) : Int)))) then it_item m (vtx n t V v.toNat).1 (vtx n t V v.toNat).2 a.toNat else -1
set_option maxRecDepth 100000 in
set_option maxHeartbeats 4000000 in
theorem c_VT_count {l : Launch} {G : lx_G} {N : Nat} {h : Nat → va_E} {n : Nat} {t : Nat → Int} {now last : Nat} {T : Nat → tx_T} {c : Nat} {p : Nat → Int} {kp : Nat → Bool} {V : Nat → tx_T} {g o en : Int} {v m : Int} (hV : VT G h n t now last T c p kp V g o en) (hN : 42 ≤ N) (hr_v : -2147483648 ≤ v ∧ v < 2147483648) (hr_m : -2147483648 ≤ m ∧ m < 2147483648) : CtI l G m_VT_count N [.ref (ad (g_b G) 0), vI (v), vI (m)] h (fun z h' => z = s_count n t kp V v m ∧ VT G h' n t now last T c p kp V g o en ∧ (∀ q, 42 ≤ q → h' q = h q)) := by
  refine zI_of (by decide) rfl rfl ?_
  intro k X Q
  have X : Cx k G R_VT b_VT_count 3 rm_VT_count := X
  have Q : Rt k G (some (.int)) N 0 0 (pI (fun z h' => z = s_count n t kp V v m ∧ VT G h' n t now last T c p kp V g o en ∧ (∀ q, 42 ≤ q → h' q = h q))) := Q
  show Ev k G 3 N 0 0 h 0 [some (.ref (ad (g_b G) 0)), some (vI (v)), some (vI (m))] []
  have c0 := hV.1
  have c5 := hV.2.2.2.1
  obtain ⟨_, _, _, _, _, _, _, c35, -⟩ := id (hV.2.2.2.2.2.2.2.2.1)
  refine e_aload_n X d_VT_count_0 rfl ?_
  refine z_iload_n X d_VT_count_1 rfl ?_
  refine z_callV_I X d_VT_count_2 cv_VT_116 (c_VT_isVersion hV hN hr_v) c0 (by omega) rfl rfl ⟨rfl, rfl⟩ rfl (fun z3 h1 hp2 => ?_)
  obtain ⟨rfl, hh4⟩ := hp2
  rw [hh4]
  refine z_if_eq (tgt := 15) X d_VT_count_5 (by decide) (b2z_r _) (fun q1 => ?_) (fun q1 => ?_)
  · refine z_iconst X d_VT_count_15 ?_
    exact z_ireturn X Q d_VT_count_16 rfl ⟨by unfold s_count; rw [b2z_eq q1]; rfl, hV, fun q _ => rfl⟩
  · refine z_iload_n X d_VT_count_8 rfl ?_
    refine z_callS_I X d_VT_count_9 cs_VT_124 (c_VT_isMetric hr_m) rfl rfl ⟨rfl, rfl⟩ rfl (fun z7 h5 hp6 => ?_)
    obtain ⟨rfl, hh8⟩ := hp6
    rw [hh8]
    refine z_if_ne (tgt := 17) X d_VT_count_12 (by decide) (b2z_r _) (fun q2 => ?_) (fun q2 => ?_)
    · have hmk : mok m = true := b2z_ne q2
      have hm := hmk
      simp [mok] at hm
      have his_v := b2z_ne q1
      obtain ⟨j, rfl, hj4_v, hvx_v, hTv_v⟩ := hV.ver his_v
      have hle_v := hTv_v.le
      have htx_v := hTv_v.ok
      refine e_aload_n X d_VT_count_17 rfl ?_
      refine e_get X d_VT_count_18 fl_VT_45 c0 (by omega) rfl ?_
      refine e_aload_n X d_VT_count_21 rfl ?_
      refine e_get X d_VT_count_22 fl_VT_27 c0 (by omega) rfl ?_
      refine z_iload_n X d_VT_count_25 rfl ?_
      refine z_tald X d_VT_count_26 (j := j) c5 (by omega) (by omega) (by omega) rfl ?_
      refine z_iload_n X d_VT_count_27 rfl ?_
      refine z_callV_V X d_VT_count_28 cv_VT_127 (c_Itm_measure hV.2.2.2.2.2.2.2.2.1 (by omega) hTv_v (by omega) (by omega) (by omega)) c35 (by omega) rfl rfl ⟨rfl, rfl⟩ rfl (fun h9 hp10 => ?_)
      obtain ⟨hM, hMf⟩ := hp10
      have hV2 := hV.items hM.its (fun q q9 => hMf q (by omega) (by omega) (by omega))
      have c0b := hV2.1
      have c5b := hV2.2.2.2.1
      obtain ⟨_, _, _, _, _, _, _, c35b, -⟩ := id (hV2.2.2.2.2.2.2.2.2.1)
      refine e_aload_n X d_VT_count_31 rfl ?_
      refine e_get X d_VT_count_32 fl_VT_45 c0b (by omega) rfl ?_
      refine z_callV_I X d_VT_count_35 cv_VT_131 (c_Itm_number hM (by omega) hle_v) c35b (by omega) rfl rfl ⟨rfl, rfl⟩ rfl (fun z14 h12 hp13 => ?_)
      obtain ⟨rfl, hh15⟩ := hp13
      rw [hh15]
      exact z_ireturn X Q d_VT_count_38 rfl ⟨by unfold s_count; rw [his_v, hmk]; rfl, hV2, fun q q9 => hMf q (by omega) (by omega) (by omega)⟩
    · refine z_iconst X d_VT_count_15 ?_
      exact z_ireturn X Q d_VT_count_16 rfl ⟨by unfold s_count; rw [show mok m = false from b2z_eq q2, Bool.and_false]; rfl, hV, fun q _ => rfl⟩

set_option maxRecDepth 100000 in
set_option maxHeartbeats 4000000 in
theorem c_VT_place {l : Launch} {G : lx_G} {N : Nat} {h : Nat → va_E} {n : Nat} {t : Nat → Int} {now last : Nat} {T : Nat → tx_T} {c : Nat} {p : Nat → Int} {kp : Nat → Bool} {V : Nat → tx_T} {g o en : Int} {v m a : Int} (hV : VT G h n t now last T c p kp V g o en) (hN : 42 ≤ N) (hr_v : -2147483648 ≤ v ∧ v < 2147483648) (hr_m : -2147483648 ≤ m ∧ m < 2147483648) (hr_a : -2147483648 ≤ a ∧ a < 2147483648) : CtI l G m_VT_place N [.ref (ad (g_b G) 0), vI (v), vI (m), vI (a)] h (fun z h' => z = s_place n t kp V v m a ∧ VT G h' n t now last T c p kp V g o en ∧ (∀ q, 42 ≤ q → h' q = h q)) := by
  refine zI_of (by decide) rfl rfl ?_
  intro k X Q
  have X : Cx k G R_VT b_VT_place 4 rm_VT_place := X
  have Q : Rt k G (some (.int)) N 0 0 (pI (fun z h' => z = s_place n t kp V v m a ∧ VT G h' n t now last T c p kp V g o en ∧ (∀ q, 42 ≤ q → h' q = h q))) := Q
  show Ev k G 4 N 0 0 h 0 [some (.ref (ad (g_b G) 0)), some (vI (v)), some (vI (m)), some (vI (a))] []
  have c0 := hV.1
  have c5 := hV.2.2.2.1
  obtain ⟨_, _, _, _, _, _, _, c35, -⟩ := id (hV.2.2.2.2.2.2.2.2.1)
  refine e_aload_n X d_VT_place_0 rfl ?_
  refine z_iload_n X d_VT_place_1 rfl ?_
  refine z_callV_I X d_VT_place_2 cv_VT_116 (c_VT_isVersion hV hN hr_v) c0 (by omega) rfl rfl ⟨rfl, rfl⟩ rfl (fun z3 h1 hp2 => ?_)
  obtain ⟨rfl, hh4⟩ := hp2
  rw [hh4]
  refine z_if_eq (tgt := 15) X d_VT_place_5 (by decide) (b2z_r _) (fun q1 => ?_) (fun q1 => ?_)
  · refine z_iconst X d_VT_place_15 ?_
    exact z_ireturn X Q d_VT_place_16 rfl ⟨by unfold s_place; rw [b2z_eq q1]; rfl, hV, fun q _ => rfl⟩
  · refine z_iload_n X d_VT_place_8 rfl ?_
    refine z_callS_I X d_VT_place_9 cs_VT_124 (c_VT_isMetric hr_m) rfl rfl ⟨rfl, rfl⟩ rfl (fun z7 h5 hp6 => ?_)
    obtain ⟨rfl, hh8⟩ := hp6
    rw [hh8]
    refine z_if_ne (tgt := 17) X d_VT_place_12 (by decide) (b2z_r _) (fun q2 => ?_) (fun q2 => ?_)
    · have hmk : mok m = true := b2z_ne q2
      have hm := hmk
      simp [mok] at hm
      have his_v := b2z_ne q1
      obtain ⟨j, rfl, hj4_v, hvx_v, hTv_v⟩ := hV.ver his_v
      have hle_v := hTv_v.le
      have htx_v := hTv_v.ok
      refine e_aload_n X d_VT_place_17 rfl ?_
      refine e_get X d_VT_place_18 fl_VT_45 c0 (by omega) rfl ?_
      refine e_aload_n X d_VT_place_21 rfl ?_
      refine e_get X d_VT_place_22 fl_VT_27 c0 (by omega) rfl ?_
      refine z_iload_n X d_VT_place_25 rfl ?_
      refine z_tald X d_VT_place_26 (j := j) c5 (by omega) (by omega) (by omega) rfl ?_
      refine z_iload_n X d_VT_place_27 rfl ?_
      refine z_callV_V X d_VT_place_28 cv_VT_127 (c_Itm_measure hV.2.2.2.2.2.2.2.2.1 (by omega) hTv_v (by omega) (by omega) (by omega)) c35 (by omega) rfl rfl ⟨rfl, rfl⟩ rfl (fun h9 hp10 => ?_)
      obtain ⟨hM, hMf⟩ := hp10
      have hV2 := hV.items hM.its (fun q q9 => hMf q (by omega) (by omega) (by omega))
      have c0b := hV2.1
      have c5b := hV2.2.2.2.1
      obtain ⟨_, _, _, _, _, _, _, c35b, -⟩ := id (hV2.2.2.2.2.2.2.2.2.1)
      refine e_aload_n X d_VT_place_31 rfl ?_
      refine e_get X d_VT_place_32 fl_VT_45 c0b (by omega) rfl ?_
      refine z_iload_n X d_VT_place_35 rfl ?_
      refine z_callV_I X d_VT_place_36 cv_VT_134 (c_Itm_beginningOf hM (by omega) hle_v hr_a) c35b (by omega) rfl rfl ⟨rfl, rfl⟩ rfl (fun z14 h12 hp13 => ?_)
      obtain ⟨rfl, hh15⟩ := hp13
      rw [hh15]
      exact z_ireturn X Q d_VT_place_39 rfl ⟨by unfold s_place; rw [his_v, hmk]; rfl, hV2, fun q q9 => hMf q (by omega) (by omega) (by omega)⟩
    · refine z_iconst X d_VT_place_15 ?_
      exact z_ireturn X Q d_VT_place_16 rfl ⟨by unfold s_place; rw [show mok m = false from b2z_eq q2, Bool.and_false]; rfl, hV, fun q _ => rfl⟩

set_option maxRecDepth 100000 in
set_option maxHeartbeats 4000000 in
theorem c_VT_item {l : Launch} {G : lx_G} {N : Nat} {h : Nat → va_E} {n : Nat} {t : Nat → Int} {now last : Nat} {T : Nat → tx_T} {c : Nat} {p : Nat → Int} {kp : Nat → Bool} {V : Nat → tx_T} {g o en : Int} {v m a : Int} (hV : VT G h n t now last T c p kp V g o en) (hN : 42 ≤ N) (hr_v : -2147483648 ≤ v ∧ v < 2147483648) (hr_m : -2147483648 ≤ m ∧ m < 2147483648) (hr_a : -2147483648 ≤ a ∧ a < 2147483648) : CtI l G m_VT_item N [.ref (ad (g_b G) 0), vI (v), vI (m), vI (a)] h (fun z h' => z = s_item n t kp V v m a ∧ VT G h' n t now last T c p kp V g o en ∧ (∀ q, 42 ≤ q → h' q = h q)) := by
  refine zI_of (by decide) rfl rfl ?_
  intro k X Q
  have X : Cx k G R_VT b_VT_item 4 rm_VT_item := X
  have Q : Rt k G (some (.int)) N 0 0 (pI (fun z h' => z = s_item n t kp V v m a ∧ VT G h' n t now last T c p kp V g o en ∧ (∀ q, 42 ≤ q → h' q = h q))) := Q
  show Ev k G 4 N 0 0 h 0 [some (.ref (ad (g_b G) 0)), some (vI (v)), some (vI (m)), some (vI (a))] []
  have c0 := hV.1
  have c5 := hV.2.2.2.1
  obtain ⟨_, _, _, _, _, _, _, c35, -⟩ := id (hV.2.2.2.2.2.2.2.2.1)
  refine e_aload_n X d_VT_item_0 rfl ?_
  refine z_iload_n X d_VT_item_1 rfl ?_
  refine z_callV_I X d_VT_item_2 cv_VT_116 (c_VT_isVersion hV hN hr_v) c0 (by omega) rfl rfl ⟨rfl, rfl⟩ rfl (fun z3 h1 hp2 => ?_)
  obtain ⟨rfl, hh4⟩ := hp2
  rw [hh4]
  refine z_if_eq (tgt := 28) X d_VT_item_5 (by decide) (b2z_r _) (fun q1 => ?_) (fun q1 => ?_)
  · refine z_iconst X d_VT_item_28 ?_
    exact z_ireturn X Q d_VT_item_29 rfl ⟨by unfold s_item; rw [b2z_eq q1]; rfl, hV, fun q _ => rfl⟩
  · refine z_iload_n X d_VT_item_8 rfl ?_
    refine z_callS_I X d_VT_item_9 cs_VT_124 (c_VT_isMetric hr_m) rfl rfl ⟨rfl, rfl⟩ rfl (fun z7 h5 hp6 => ?_)
    obtain ⟨rfl, hh8⟩ := hp6
    rw [hh8]
    refine z_if_eq (tgt := 28) X d_VT_item_12 (by decide) (b2z_r _) (fun q2 => ?_) (fun q2 => ?_)
    · refine z_iconst X d_VT_item_28 ?_
      exact z_ireturn X Q d_VT_item_29 rfl ⟨by unfold s_item; rw [show mok m = false from b2z_eq q2, Bool.false_and, Bool.and_false]; rfl, hV, fun q _ => rfl⟩
    · have hmk : mok m = true := b2z_ne q2
      have hm := hmk
      simp [mok] at hm
      have his_v := b2z_ne q1
      obtain ⟨j, rfl, hj4_v, hvx_v, hTv_v⟩ := hV.ver his_v
      have hle_v := hTv_v.le
      have htx_v := hTv_v.ok
      refine e_aload_n X d_VT_item_15 rfl ?_
      refine e_get X d_VT_item_16 fl_VT_27 c0 (by omega) rfl ?_
      refine z_iload_n X d_VT_item_19 rfl ?_
      refine z_tald X d_VT_item_20 (j := j) c5 (by omega) (by omega) (by omega) rfl ?_
      refine z_iload_n X d_VT_item_21 rfl ?_
      refine z_callS_I X d_VT_item_22 cs_VT_137 (c_VT_isPlace hTv_v (by omega) hr_a) rfl rfl ⟨rfl, rfl⟩ rfl (fun z11 h9 hp10 => ?_)
      obtain ⟨rfl, hh12⟩ := hp10
      rw [hh12]
      refine z_if_ne (tgt := 30) X d_VT_item_25 (by decide) (b2z_r _) (fun q3 => ?_) (fun q3 => ?_)
      · have hpk : (decide (0 ≤ a) && decide (a ≤ (((vtx n t V j).1 : Nat) : Int))) = true := b2z_ne q3
        have hp := hpk
        simp only [Bool.and_eq_true, decide_eq_true_eq] at hp
        obtain ⟨i, rfl⟩ : ∃ i : Nat, a = (i : Int) := ⟨a.toNat, by omega⟩
        refine e_aload_n X d_VT_item_30 rfl ?_
        refine e_get X d_VT_item_31 fl_VT_45 c0 (by omega) rfl ?_
        refine e_aload_n X d_VT_item_34 rfl ?_
        refine e_get X d_VT_item_35 fl_VT_27 c0 (by omega) rfl ?_
        refine z_iload_n X d_VT_item_38 rfl ?_
        refine z_tald X d_VT_item_39 (j := j) c5 (by omega) (by omega) (by omega) rfl ?_
        refine z_iload_n X d_VT_item_40 rfl ?_
        refine z_callV_V X d_VT_item_41 cv_VT_127 (c_Itm_measure hV.2.2.2.2.2.2.2.2.1 (by omega) hTv_v (by omega) (by omega) (by omega)) c35 (by omega) rfl rfl ⟨rfl, rfl⟩ rfl (fun h13 hp14 => ?_)
        obtain ⟨hM, hMf⟩ := hp14
        have hV2 := hV.items hM.its (fun q q9 => hMf q (by omega) (by omega) (by omega))
        have c0b := hV2.1
        have c5b := hV2.2.2.2.1
        obtain ⟨_, _, _, _, _, _, _, c35b, -⟩ := id (hV2.2.2.2.2.2.2.2.2.1)
        refine e_aload_n X d_VT_item_44 rfl ?_
        refine e_get X d_VT_item_45 fl_VT_45 c0b (by omega) rfl ?_
        refine z_iload_n X d_VT_item_48 rfl ?_
        refine z_callV_I X d_VT_item_49 cv_VT_141 (c_Itm_having hM (by omega) hle_v htx_v (by omega) (by omega)) c35b (by omega) rfl rfl ⟨rfl, rfl⟩ rfl (fun z18 h16 hp17 => ?_)
        obtain ⟨rfl, hh19⟩ := hp17
        rw [hh19]
        exact z_ireturn X Q d_VT_item_52 rfl ⟨by unfold s_item; rw [show ((j : Nat) : Int).toNat = j from rfl, his_v, hmk, hpk]; rfl, hV2, fun q q9 => hMf q (by omega) (by omega) (by omega)⟩
      · refine z_iconst X d_VT_item_28 ?_
        have hpk : (decide (0 ≤ a) && decide (a ≤ (((vtx n t V j).1 : Nat) : Int))) = false := b2z_eq q3
        exact z_ireturn X Q d_VT_item_29 rfl ⟨by unfold s_item; rw [show ((j : Nat) : Int).toNat = j from rfl, hpk, Bool.and_false, Bool.and_false]; rfl, hV, fun q _ => rfl⟩

def s_same (n : Nat) (t : Nat → Int) (kp : Nat → Bool) (V : Nat → tx_T) (v a : Int) : Bool := isv kp v && (isv kp a && smu (vtx n t V v.toNat).1 (vtx n t V v.toNat).2 (vtx n t V a.toNat).1 (vtx n t V a.toNat).2)
set_option maxRecDepth 100000 in
set_option maxHeartbeats 4000000 in
theorem c_VT_same {l : Launch} {G : lx_G} {N : Nat} {h : Nat → va_E} {n : Nat} {t : Nat → Int} {now last : Nat} {T : Nat → tx_T} {c : Nat} {p : Nat → Int} {kp : Nat → Bool} {V : Nat → tx_T} {g o en : Int} {v a : Int} (hV : VT G h n t now last T c p kp V g o en) (hN : 42 ≤ N) (hr_v : -2147483648 ≤ v ∧ v < 2147483648) (hr_a : -2147483648 ≤ a ∧ a < 2147483648) : CtI l G m_VT_same N [.ref (ad (g_b G) 0), vI (v), vI (a)] h (fun z h' => z = b2z (s_same n t kp V v a) ∧ h' = h) := by
  refine zI_of (by decide) rfl rfl ?_
  intro k X Q
  have X : Cx k G R_VT b_VT_same 3 rm_VT_same := X
  have Q : Rt k G (some (.boolean)) N 0 0 (pI (fun z h' => z = b2z (s_same n t kp V v a) ∧ h' = h)) := Q
  show Ev k G 3 N 0 0 h 0 [some (.ref (ad (g_b G) 0)), some (vI (v)), some (vI (a))] []
  have c0 := hV.1
  have c5 := hV.2.2.2.1
  refine e_aload_n X d_VT_same_0 rfl ?_
  refine z_iload_n X d_VT_same_1 rfl ?_
  refine z_callV_I X d_VT_same_2 cv_VT_116 (c_VT_isVersion hV hN hr_v) c0 (by omega) rfl rfl ⟨rfl, rfl⟩ rfl (fun z3 h1 hp2 => ?_)
  obtain ⟨rfl, hh4⟩ := hp2
  rw [hh4]
  refine z_if_eq (tgt := 38) X d_VT_same_5 (by decide) (b2z_r _) (fun q1 => ?_) (fun q1 => ?_)
  · refine z_iconst X d_VT_same_38 ?_
    exact z_ireturn X Q d_VT_same_39 rfl ⟨by unfold s_same; rw [b2z_eq q1]; rfl, rfl⟩
  · refine e_aload_n X d_VT_same_8 rfl ?_
    refine z_iload_n X d_VT_same_9 rfl ?_
    refine z_callV_I X d_VT_same_10 cv_VT_116 (c_VT_isVersion hV hN hr_a) c0 (by omega) rfl rfl ⟨rfl, rfl⟩ rfl (fun z7 h5 hp6 => ?_)
    obtain ⟨rfl, hh8⟩ := hp6
    rw [hh8]
    refine z_if_eq (tgt := 38) X d_VT_same_13 (by decide) (b2z_r _) (fun q2 => ?_) (fun q2 => ?_)
    · refine z_iconst X d_VT_same_38 ?_
      exact z_ireturn X Q d_VT_same_39 rfl ⟨by unfold s_same; rw [b2z_eq q2, Bool.false_and, Bool.and_false]; rfl, rfl⟩
    · have his_v := b2z_ne q1
      obtain ⟨j, rfl, hj4_v, hvx_v, hTv_v⟩ := hV.ver his_v
      have hle_v := hTv_v.le
      have htx_v := hTv_v.ok
      have his_a := b2z_ne q2
      obtain ⟨i, rfl, hj4_a, hvx_a, hTv_a⟩ := hV.ver his_a
      have hle_a := hTv_a.le
      have htx_a := hTv_a.ok
      refine e_aload_n X d_VT_same_16 rfl ?_
      refine e_get X d_VT_same_17 fl_VT_27 c0 (by omega) rfl ?_
      refine z_iload_n X d_VT_same_20 rfl ?_
      refine z_tald X d_VT_same_21 (j := j) c5 (by omega) (by omega) (by omega) rfl ?_
      refine e_aload_n X d_VT_same_22 rfl ?_
      refine e_get X d_VT_same_23 fl_VT_27 c0 (by omega) rfl ?_
      refine z_iload_n X d_VT_same_26 rfl ?_
      refine z_tald X d_VT_same_27 (j := i) c5 (by omega) (by omega) (by omega) rfl ?_
      refine z_callS_I X d_VT_same_28 cs_VT_144 (c_VT_haveSameUnits hTv_v (by omega) hTv_a (by omega)) rfl rfl ⟨rfl, rfl⟩ rfl (fun z11 h9 hp10 => ?_)
      obtain ⟨rfl, hh12⟩ := hp10
      rw [hh12]
      refine z_if_eq (tgt := 38) X d_VT_same_31 (by decide) (b2z_r _) (fun q3 => ?_) (fun q3 => ?_)
      · refine z_iconst X d_VT_same_38 ?_
        exact z_ireturn X Q d_VT_same_39 rfl ⟨by unfold s_same; rw [show ((j : Nat) : Int).toNat = j from rfl, show ((i : Nat) : Int).toNat = i from rfl, his_v, his_a, b2z_eq q3]; rfl, rfl⟩
      · refine z_iconst X d_VT_same_34 ?_
        refine e_goto (tgt := 39) X d_VT_same_35 (by decide) ?_
        exact z_ireturn X Q d_VT_same_39 rfl ⟨by unfold s_same; rw [show ((j : Nat) : Int).toNat = j from rfl, show ((i : Nat) : Int).toNat = i from rfl, his_v, his_a, b2z_ne q3]; rfl, rfl⟩

def s_find (n : Nat) (t : Nat → Int) (c : Nat) (p : Nat → Int) (kp : Nat → Bool) (V : Nat → tx_T) (en v a : Int) : Int × Int := if isv kp v && (decide (0 ≤ a) && decide (a ≤ (((vtx n t V v.toNat).1 : Nat) : Int))) then fd c p (vtx n t V v.toNat).1 (vtx n t V v.toNat).2 en a.toNat else (-1, en)
set_option maxRecDepth 100000 in
set_option maxHeartbeats 4000000 in
theorem c_VT_find {l : Launch} {G : lx_G} {N : Nat} {h : Nat → va_E} {n : Nat} {t : Nat → Int} {now last : Nat} {T : Nat → tx_T} {c : Nat} {p : Nat → Int} {kp : Nat → Bool} {V : Nat → tx_T} {g o en : Int} {v a : Int} (hV : VT G h n t now last T c p kp V g o en) (hN : 42 ≤ N) (hr_v : -2147483648 ≤ v ∧ v < 2147483648) (hr_a : -2147483648 ≤ a ∧ a < 2147483648) : CtI l G m_VT_find N [.ref (ad (g_b G) 0), vI (v), vI (a)] h (fun z h' => z = (s_find n t c p kp V en v a).1 ∧ VT G h' n t now last T c p kp V g o (s_find n t c p kp V en v a).2 ∧ (∀ q, 42 ≤ q → h' q = h q)) := by
  refine zI_of (by decide) rfl rfl ?_
  intro k X Q
  have X : Cx k G R_VT b_VT_find 3 rm_VT_find := X
  have Q : Rt k G (some (.int)) N 0 0 (pI (fun z h' => z = (s_find n t c p kp V en v a).1 ∧ VT G h' n t now last T c p kp V g o (s_find n t c p kp V en v a).2 ∧ (∀ q, 42 ≤ q → h' q = h q))) := Q
  show Ev k G 3 N 0 0 h 0 [some (.ref (ad (g_b G) 0)), some (vI (v)), some (vI (a))] []
  have c0 := hV.1
  have c5 := hV.2.2.2.1
  obtain ⟨-, _, _, _, _, c38, -⟩ := id (hV.2.2.2.2.2.2.2.2.2.1)
  have hcl := hV.2.2.1.le
  refine e_aload_n X d_VT_find_0 rfl ?_
  refine z_iload_n X d_VT_find_1 rfl ?_
  refine z_callV_I X d_VT_find_2 cv_VT_116 (c_VT_isVersion hV hN hr_v) c0 (by omega) rfl rfl ⟨rfl, rfl⟩ rfl (fun z3 h1 hp2 => ?_)
  obtain ⟨rfl, hh4⟩ := hp2
  rw [hh4]
  refine z_if_eq (tgt := 21) X d_VT_find_5 (by decide) (b2z_r _) (fun q1 => ?_) (fun q1 => ?_)
  · refine z_iconst X d_VT_find_21 ?_
    have hs9 : s_find n t c p kp V en v a = (-1, en) := by unfold s_find; rw [b2z_eq q1]; rfl
    exact z_ireturn X Q d_VT_find_22 rfl ⟨by rw [hs9], by rw [hs9]; exact hV, fun q _ => rfl⟩
  · have his_v := b2z_ne q1
    obtain ⟨j, rfl, hj4_v, hvx_v, hTv_v⟩ := hV.ver his_v
    have hle_v := hTv_v.le
    have htx_v := hTv_v.ok
    refine e_aload_n X d_VT_find_8 rfl ?_
    refine e_get X d_VT_find_9 fl_VT_27 c0 (by omega) rfl ?_
    refine z_iload_n X d_VT_find_12 rfl ?_
    refine z_tald X d_VT_find_13 (j := j) c5 (by omega) (by omega) (by omega) rfl ?_
    refine z_iload_n X d_VT_find_14 rfl ?_
    refine z_callS_I X d_VT_find_15 cs_VT_137 (c_VT_isPlace hTv_v (by omega) hr_a) rfl rfl ⟨rfl, rfl⟩ rfl (fun z7 h5 hp6 => ?_)
    obtain ⟨rfl, hh8⟩ := hp6
    rw [hh8]
    refine z_if_ne (tgt := 23) X d_VT_find_18 (by decide) (b2z_r _) (fun q3 => ?_) (fun q3 => ?_)
    · have hpk : (decide (0 ≤ a) && decide (a ≤ (((vtx n t V j).1 : Nat) : Int))) = true := b2z_ne q3
      have hp := hpk
      simp only [Bool.and_eq_true, decide_eq_true_eq] at hp
      obtain ⟨i, rfl⟩ : ∃ i : Nat, a = (i : Int) := ⟨a.toNat, by omega⟩
      have hs9 : s_find n t c p kp V en ((j : Nat) : Int) ((i : Nat) : Int) = fd c p (vtx n t V j).1 (vtx n t V j).2 en i := by unfold s_find; rw [show ((j : Nat) : Int).toNat = j from rfl, his_v, hpk]; rfl
      refine e_aload_n X d_VT_find_23 rfl ?_
      refine e_get X d_VT_find_24 fl_VT_52 c0 (by omega) rfl ?_
      refine e_aload_n X d_VT_find_27 rfl ?_
      refine e_get X d_VT_find_28 fl_VT_21 c0 (by omega) rfl ?_
      refine z_callV_I X d_VT_find_31 cv_VT_148 (c_Sea_takePattern hV.2.2.2.2.2.2.2.2.2.1 (by omega) hV.2.2.1 (by omega) (by omega)) c38 (by omega) rfl rfl ⟨rfl, rfl⟩ rfl (fun z11 h9 hp10 => ?_)
      rcases hp10 with ⟨rfl, hpt, w, s, f, hSc, har, hsf⟩ | ⟨rfl, hpt, hS2, hsf⟩
      · refine z_if_eq (tgt := 54) X d_VT_find_34 (by decide) (by omega) (fun q5 => ?_) (fun q5 => ?_)
        · exact absurd q5 (by decide)
        · have hen := hV.2.2.2.2.2.2.2.2.2.1.1
          have hcn := cnt_le (B := nsc p) c
          have hptx := hV.2.2.1.ok
          have hV2 := hV.sea ⟨hen, _, w, s, f, hSc⟩ (fun q q9 => hsf q (by omega) (by omega) (by omega))
          have hT2 := hTv_v.fr (hsf _ (by omega) (by omega) (by omega)) (hsf _ (by omega) (by omega) (by omega))
          have c0b := hV2.1
          have c5b := hV2.2.2.2.1
          obtain ⟨-, _, _, _, _, c38b, -⟩ := id (hV2.2.2.2.2.2.2.2.2.2.1)
          have hww : ∀ e, e < cnt (nsc p) c → 0 ≤ w e ∧ w e < 65536 := by
            intro e he
            obtain ⟨k9, k1, k2, k3⟩ := cnt_at he
            have h9 := (har k9 k1 k2).1
            rw [k3] at h9
            rw [h9]
            exact hptx.1 k9 k1
          refine e_aload_n X d_VT_find_37 rfl ?_
          refine e_get X d_VT_find_38 fl_VT_52 c0b (by omega) rfl ?_
          refine e_aload_n X d_VT_find_41 rfl ?_
          refine e_get X d_VT_find_42 fl_VT_27 c0b (by omega) rfl ?_
          refine z_iload_n X d_VT_find_45 rfl ?_
          refine z_tald X d_VT_find_46 (j := j) c5b (by omega) (by omega) (by omega) rfl ?_
          refine z_iload_n X d_VT_find_47 rfl ?_
          refine z_callV_I X d_VT_find_48 cv_VT_152 (c_Sea_firstMatch (s := el_s c p) hSc (by omega) (by omega) hww (fun e he => (pat_el hptx har he).2) hen hT2 (by omega) (by omega) (by omega)) c38b (by omega) rfl rfl ⟨rfl, rfl⟩ rfl (fun z14 h12 hp13 => ?_)
          obtain ⟨rfl, hS3, hsf3⟩ := hp13
          have hcg := ffd_congr (E := cnt (nsc p) c) (s := el_s c p) (s' := el_s c p) (n := (vtx n t V j).1) (t := (vtx n t V j).2) (e0 := en) (fun e he => (pat_el hptx har he).1) (fun _ _ => rfl) ((vtx n t V j).1 - i + 1)
          have hs8 : fd c p (vtx n t V j).1 (vtx n t V j).2 en i = ffd (cnt (nsc p) c) w (el_s c p) (vtx n t V j).1 (vtx n t V j).2 en ((vtx n t V j).1 - i + 1) := by unfold fd; rw [hpt, hcg]; rfl
          refine e_goto (tgt := 55) X d_VT_find_51 (by decide) ?_
          exact z_ireturn X Q d_VT_find_55 rfl ⟨by rw [hs9, hs8], by rw [hs9, hs8]; exact hV2.sea hS3 (fun q q9 => hsf3 q q9), fun q q9 => (hsf3 q (by omega)).trans (hsf q (by omega) (by omega) (by omega))⟩
      · have hV2 := hV.sea hS2 (fun q q9 => hsf q (by omega) (by omega) (by omega))
        refine z_if_eq (tgt := 54) X d_VT_find_34 (by decide) (by omega) (fun q5 => ?_) (fun q5 => ?_)
        · refine z_iconst X d_VT_find_54 ?_
          have hs8 : fd c p (vtx n t V j).1 (vtx n t V j).2 en i = (-1, en) := by unfold fd; rw [hpt]; rfl
          exact z_ireturn X Q d_VT_find_55 rfl ⟨by rw [hs9, hs8], by rw [hs9, hs8]; exact hV2, fun q q9 => hsf q (by omega) (by omega) (by omega)⟩
        · exact absurd rfl q5
    · refine z_iconst X d_VT_find_21 ?_
      have hpk : (decide (0 ≤ a) && decide (a ≤ (((vtx n t V j).1 : Nat) : Int))) = false := b2z_eq q3
      have hs9 : s_find n t c p kp V en ((j : Nat) : Int) a = (-1, en) := by unfold s_find; rw [show ((j : Nat) : Int).toNat = j from rfl, hpk, Bool.and_false]; rfl
      exact z_ireturn X Q d_VT_find_22 rfl ⟨by rw [hs9], by rw [hs9]; exact hV, fun q _ => rfl⟩

set_option maxRecDepth 100000 in
set_option maxHeartbeats 4000000 in
theorem c_VT_end {l : Launch} {G : lx_G} {N : Nat} {h : Nat → va_E} {n : Nat} {t : Nat → Int} {now last : Nat} {T : Nat → tx_T} {c : Nat} {p : Nat → Int} {kp : Nat → Bool} {V : Nat → tx_T} {g o en : Int} (hV : VT G h n t now last T c p kp V g o en) (hN : 42 ≤ N) : CtI l G m_VT_end N [.ref (ad (g_b G) 0)] h (fun z h' => z = en ∧ h' = h) := by
  refine zI_of (by decide) rfl rfl ?_
  intro k X Q
  have X : Cx k G R_VT b_VT_end 1 rm_VT_end := X
  have Q : Rt k G (some (.int)) N 0 0 (pI (fun z h' => z = en ∧ h' = h)) := Q
  show Ev k G 1 N 0 0 h 0 [some (.ref (ad (g_b G) 0))] []
  have c0 := hV.1
  have c5 := hV.2.2.2.1
  obtain ⟨-, _, _, _, _, c38, -⟩ := id (hV.2.2.2.2.2.2.2.2.2.1)
  refine e_aload_n X d_VT_end_0 rfl ?_
  refine e_get X d_VT_end_1 fl_VT_52 c0 (by omega) rfl ?_
  refine z_callV_I X d_VT_end_4 cv_VT_156 (c_Sea_matchEnd hV.2.2.2.2.2.2.2.2.2.1 (by omega)) c38 (by omega) rfl rfl ⟨rfl, rfl⟩ rfl (fun z3 h1 hp2 => ?_)
  obtain ⟨rfl, hh4⟩ := hp2
  rw [hh4]
  exact z_ireturn X Q d_VT_end_7 rfl ⟨rfl, rfl⟩

