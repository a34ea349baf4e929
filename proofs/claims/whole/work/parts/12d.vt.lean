set_option maxRecDepth 100000 in
set_option maxHeartbeats 4000000 in
theorem c_VT_remove {l : Launch} {G : lx_G} {N : Nat} {h : Nat → va_E} {n : Nat} {t : Nat → Int} {now last : Nat} {T : Nat → tx_T} {c : Nat} {p : Nat → Int} {kp : Nat → Bool} {V : Nat → tx_T} {g o en : Int} {a b : Int} (hV : VT G h n t now last T c p kp V g o en) (hN : 42 ≤ N) (hr_a : -2147483648 ≤ a ∧ a < 2147483648) (hr_b : -2147483648 ≤ b ∧ b < 2147483648) : CtI l G m_VT_remove N [.ref (ad (g_b G) 0), vI (a), vI (b)] h (fun z h' => ((decide (¬ a = b) && ced g n t a b) = true ∧ z = 1 ∧ VT G h' (n - (b.toNat - a.toNat)) (tx_ed t a.toNat b.toNat 0 t) (hp_now now) (hp_now now) (hp_T now T ((n - (b.toNat - a.toNat)), tx_ed t a.toNat b.toNat 0 t)) c p kp V g (-1) en ∧ (∀ q, 42 ≤ q → h' q = h q)) ∨ ((decide (¬ a = b) && ced g n t a b) = false ∧ z = 0 ∧ VT G h' n t now last T c p kp V g o en ∧ (∀ q, 42 ≤ q → h' q = h q))) := by
  refine zI_of (by decide) rfl rfl ?_
  intro k X Q
  have X : Cx k G R_VT b_VT_remove 3 rm_VT_remove := X
  have Q : Rt k G (some (.boolean)) N 0 0 (pI (fun z h' => ((decide (¬ a = b) && ced g n t a b) = true ∧ z = 1 ∧ VT G h' (n - (b.toNat - a.toNat)) (tx_ed t a.toNat b.toNat 0 t) (hp_now now) (hp_now now) (hp_T now T ((n - (b.toNat - a.toNat)), tx_ed t a.toNat b.toNat 0 t)) c p kp V g (-1) en ∧ (∀ q, 42 ≤ q → h' q = h q)) ∨ ((decide (¬ a = b) && ced g n t a b) = false ∧ z = 0 ∧ VT G h' n t now last T c p kp V g o en ∧ (∀ q, 42 ≤ q → h' q = h q)))) := Q
  show Ev k G 3 N 0 0 h 0 [some (.ref (ad (g_b G) 0)), some (vI (a)), some (vI (b))] []
  have c0 := hV.1
  have c5 := hV.2.2.2.1
  refine z_iload_n X d_VT_remove_0 rfl ?_
  refine z_iload_n X d_VT_remove_1 rfl ?_
  refine z_icmp_eq (tgt := 14) X d_VT_remove_2 (by decide) (by omega) (fun q1 => ?_) (fun q1 => ?_)
  · refine z_iconst X d_VT_remove_14 ?_
    exact z_ireturn X Q d_VT_remove_15 rfl (Or.inr ⟨by rw [decide_eq_false (show ¬ ¬ a = b from fun q9 => q9 q1)]; rfl, rfl, hV, fun q _ => rfl⟩)
  · have hab : decide (¬ a = b) = true := decide_eq_true q1
    refine e_aload_n X d_VT_remove_5 rfl ?_
    refine z_iload_n X d_VT_remove_6 rfl ?_
    refine z_iload_n X d_VT_remove_7 rfl ?_
    refine z_callV_I X d_VT_remove_8 cv_VT_94 (c_VT_canEdit hV hN hr_a hr_b) c0 (by omega) rfl rfl ⟨rfl, rfl⟩ rfl (fun z3 h1 hp2 => ?_)
    obtain ⟨rfl, hV2, hf2⟩ := hp2
    have c0b := hV2.1
    have c5b := hV2.2.2.2.1
    refine z_if_ne (tgt := 16) X d_VT_remove_11 (by decide) (b2z_r _) (fun q2 => ?_) (fun q2 => ?_)
    · have hck := b2z_ne q2
      have hrg := ced_rg hck
      have hle := hV.2.1.le
      obtain ⟨i, rfl⟩ : ∃ i : Nat, a = (i : Int) := ⟨a.toNat, by omega⟩
      obtain ⟨j, rfl⟩ : ∃ j : Nat, b = (j : Int) := ⟨b.toNat, by omega⟩
      refine e_aload_n X d_VT_remove_16 rfl ?_
      refine e_get X d_VT_remove_17 fl_VT_14 c0b (by omega) rfl ?_
      refine z_iload_n X d_VT_remove_20 rfl ?_
      refine z_iload_n X d_VT_remove_21 rfl ?_
      refine z_Tcut X d_VT_remove_22 cf_VT_97_Row cf_VT_97_Gap hV2.2.1 (by omega) (by omega) (by omega) rfl (fun h4 hB5 hBf6 => ?_)
      have hV3 := hV2.text hB5 (fun q q9 => hBf6 q (by omega) (by omega))
      have c0c := hV3.1
      have c5c := hV3.2.2.2.1
      refine e_aload_n X d_VT_remove_27 rfl ?_
      refine z_callV_V X d_VT_remove_28 cv_VT_98 (c_VT_addClosedStep hV3 hN) c0c (by omega) rfl rfl ⟨rfl, rfl⟩ rfl (fun h7 hp8 => ?_)
      obtain ⟨hV4, hf4⟩ := hp8
      refine z_iconst X d_VT_remove_31 ?_
      exact z_ireturn X Q d_VT_remove_32 rfl (Or.inl ⟨by rw [hab, hck]; rfl, rfl, hV4, fun q q9 => (hf4 q q9).trans ((hBf6 q (by omega) (by omega)).trans (hf2 q q9))⟩)
    · refine z_iconst X d_VT_remove_14 ?_
      exact z_ireturn X Q d_VT_remove_15 rfl (Or.inr ⟨by rw [hab, b2z_eq q2]; rfl, rfl, hV2, hf2⟩)

set_option maxRecDepth 100000 in
set_option maxHeartbeats 4000000 in
theorem c_VT_replace {l : Launch} {G : lx_G} {N : Nat} {h : Nat → va_E} {n : Nat} {t : Nat → Int} {now last : Nat} {T : Nat → tx_T} {c : Nat} {p : Nat → Int} {kp : Nat → Bool} {V : Nat → tx_T} {g o en : Int} {a b : Int} (hV : VT G h n t now last T c p kp V g o en) (hN : 42 ≤ N) (hr_a : -2147483648 ≤ a ∧ a < 2147483648) (hr_b : -2147483648 ≤ b ∧ b < 2147483648) : CtI l G m_VT_replace N [.ref (ad (g_b G) 0), vI (a), vI (b)] h (fun z h' => (ctk g n t c a b = true ∧ z = 1 ∧ VT G h' (n - (b.toNat - a.toNat) + c) (tx_ed t a.toNat b.toNat c p) (hp_now now) (hp_now now) (hp_T now T ((n - (b.toNat - a.toNat) + c), tx_ed t a.toNat b.toNat c p)) c p kp V g (-1) en ∧ (∀ q, 42 ≤ q → h' q = h q)) ∨ (ctk g n t c a b = false ∧ z = 0 ∧ VT G h' n t now last T c p kp V g o en ∧ (∀ q, 42 ≤ q → h' q = h q))) := by
  refine zI_of (by decide) rfl rfl ?_
  intro k X Q
  have X : Cx k G R_VT b_VT_replace 3 rm_VT_replace := X
  have Q : Rt k G (some (.boolean)) N 0 0 (pI (fun z h' => (ctk g n t c a b = true ∧ z = 1 ∧ VT G h' (n - (b.toNat - a.toNat) + c) (tx_ed t a.toNat b.toNat c p) (hp_now now) (hp_now now) (hp_T now T ((n - (b.toNat - a.toNat) + c), tx_ed t a.toNat b.toNat c p)) c p kp V g (-1) en ∧ (∀ q, 42 ≤ q → h' q = h q)) ∨ (ctk g n t c a b = false ∧ z = 0 ∧ VT G h' n t now last T c p kp V g o en ∧ (∀ q, 42 ≤ q → h' q = h q)))) := Q
  show Ev k G 3 N 0 0 h 0 [some (.ref (ad (g_b G) 0)), some (vI (a)), some (vI (b))] []
  have c0 := hV.1
  have c5 := hV.2.2.2.1
  refine e_aload_n X d_VT_replace_0 rfl ?_
  refine z_iload_n X d_VT_replace_1 rfl ?_
  refine z_iload_n X d_VT_replace_2 rfl ?_
  refine z_callV_I X d_VT_replace_3 cv_VT_75 (c_VT_canTakeClip hV hN hr_a hr_b) c0 (by omega) rfl rfl ⟨rfl, rfl⟩ rfl (fun z3 h1 hp2 => ?_)
  obtain ⟨rfl, hV2, hf2⟩ := hp2
  have c0b := hV2.1
  have c5b := hV2.2.2.2.1
  refine z_if_ne (tgt := 11) X d_VT_replace_6 (by decide) (b2z_r _) (fun q1 => ?_) (fun q1 => ?_)
  · have hck := b2z_ne q1
    have hck2 := hck
    simp only [ctk, Bool.and_eq_true, decide_eq_true_eq] at hck2
    have hrg := ced_rg hck2.2.1
    obtain ⟨i, rfl⟩ : ∃ i : Nat, a = (i : Int) := ⟨a.toNat, by omega⟩
    obtain ⟨j, rfl⟩ : ∃ j : Nat, b = (j : Int) := ⟨b.toNat, by omega⟩
    have hcl := hV.2.2.1.le
    have hle := hV.2.1.le
    refine e_aload_n X d_VT_replace_11 rfl ?_
    refine e_get X d_VT_replace_12 fl_VT_14 c0b (by omega) rfl ?_
    refine z_iload_n X d_VT_replace_15 rfl ?_
    refine z_iload_n X d_VT_replace_16 rfl ?_
    refine z_Tcut X d_VT_replace_17 cf_VT_97_Row cf_VT_97_Gap hV2.2.1 (by omega) (by omega) (by omega) rfl (fun h4 hB5 hBf6 => ?_)
    have hV3 := hV2.text hB5 (fun q q9 => hBf6 q (by omega) (by omega))
    have c0c := hV3.1
    have c5c := hV3.2.2.2.1
    refine e_aload_n X d_VT_replace_22 rfl ?_
    refine e_get X d_VT_replace_23 fl_VT_14 c0c (by omega) rfl ?_
    refine z_iload_n X d_VT_replace_26 rfl ?_
    refine e_aload_n X d_VT_replace_27 rfl ?_
    refine e_get X d_VT_replace_28 fl_VT_21 c0c (by omega) rfl ?_
    refine z_Tput X d_VT_replace_31 cf_VT_79_Row cf_VT_79_Gap hV3.2.1 (by omega) hV3.2.2.1 (by omega) (by omega) (by omega) (by omega) rfl (fun h7 hB8 hBf9 => ?_)
    have hV4 := hV3.text hB8 (fun q q9 => hBf9 q (by omega) (by omega))
    have c0d := hV4.1
    have c5d := hV4.2.2.2.1
    rw [tx_ed_ed (by omega)] at hV4
    refine e_aload_n X d_VT_replace_36 rfl ?_
    refine z_callV_V X d_VT_replace_37 cv_VT_98 (c_VT_addClosedStep hV4 hN) c0d (by omega) rfl rfl ⟨rfl, rfl⟩ rfl (fun h10 hp11 => ?_)
    obtain ⟨hV5, hf5⟩ := hp11
    refine z_iconst X d_VT_replace_40 ?_
    exact z_ireturn X Q d_VT_replace_41 rfl (Or.inl ⟨hck, rfl, hV5, fun q q9 => (hf5 q q9).trans ((hBf9 q (by omega) (by omega)).trans ((hBf6 q (by omega) (by omega)).trans (hf2 q q9)))⟩)
  · refine z_iconst X d_VT_replace_9 ?_
    exact z_ireturn X Q d_VT_replace_10 rfl (Or.inr ⟨b2z_eq q1, rfl, hV2, hf2⟩)

set_option maxRecDepth 100000 in
set_option maxHeartbeats 4000000 in
theorem c_VT_undo {l : Launch} {G : lx_G} {N : Nat} {h : Nat → va_E} {n : Nat} {t : Nat → Int} {now last : Nat} {T : Nat → tx_T} {c : Nat} {p : Nat → Int} {kp : Nat → Bool} {V : Nat → tx_T} {g o en : Int} (hV : VT G h n t now last T c p kp V g o en) (hN : 42 ≤ N) : CtI l G m_VT_undo N [.ref (ad (g_b G) 0)] h (fun z h' => (0 < now ∧ z = 1 ∧ VT G h' (T (now - 1)).1 (T (now - 1)).2 (now - 1) last T c p kp V g (-1) en ∧ (∀ q, 42 ≤ q → h' q = h q)) ∨ (now = 0 ∧ z = 0 ∧ VT G h' n t now last T c p kp V g o en ∧ (∀ q, 42 ≤ q → h' q = h q))) := by
  refine zI_of (by decide) rfl rfl ?_
  intro k X Q
  have X : Cx k G R_VT b_VT_undo 1 rm_VT_undo := X
  have Q : Rt k G (some (.boolean)) N 0 0 (pI (fun z h' => (0 < now ∧ z = 1 ∧ VT G h' (T (now - 1)).1 (T (now - 1)).2 (now - 1) last T c p kp V g (-1) en ∧ (∀ q, 42 ≤ q → h' q = h q)) ∨ (now = 0 ∧ z = 0 ∧ VT G h' n t now last T c p kp V g o en ∧ (∀ q, 42 ≤ q → h' q = h q)))) := Q
  show Ev k G 1 N 0 0 h 0 [some (.ref (ad (g_b G) 0))] []
  have c0 := hV.1
  have c5 := hV.2.2.2.1
  obtain ⟨_, c15, -⟩ := id (hV.2.2.2.2.2.2.2.1)
  obtain ⟨old9, -, -, -, hnl, hl8, -, -⟩ := id hV.2.2.2.2.2.2.2.1
  refine e_aload_n X d_VT_undo_0 rfl ?_
  refine e_get X d_VT_undo_1 fl_VT_38 c0 (by omega) rfl ?_
  refine z_callV_I X d_VT_undo_4 cv_VT_101 (c_His_undoable hV.2.2.2.2.2.2.2.1 (by omega)) c15 (by omega) rfl rfl ⟨rfl, rfl⟩ rfl (fun z3 h1 hp2 => ?_)
  obtain ⟨rfl, hh4⟩ := hp2
  rw [hh4]
  refine z_if_ne (tgt := 12) X d_VT_undo_7 (by decide) (by omega) (fun q1 => ?_) (fun q1 => ?_)
  · refine e_aload_n X d_VT_undo_12 rfl ?_
    refine e_get X d_VT_undo_13 fl_VT_38 c0 (by omega) rfl ?_
    refine e_aload_n X d_VT_undo_16 rfl ?_
    refine e_get X d_VT_undo_17 fl_VT_14 c0 (by omega) rfl ?_
    refine z_callV_V X d_VT_undo_20 cv_VT_104 (c_His_goBack hV.2.2.2.2.2.2.2.1 (by omega) hV.2.1 (by omega) (by omega) (by omega)) c15 (by omega) rfl rfl ⟨rfl, rfl⟩ rfl (fun h5 hp6 => ?_)
    obtain ⟨hH, hT1, hHf⟩ := hp6
    have hV2 := hV.both hT1 hH (fun q q9 => hHf q (by omega) (by omega))
    have c0b := hV2.1
    have c5b := hV2.2.2.2.1
    refine e_aload_n X d_VT_undo_23 rfl ?_
    refine z_iconst X d_VT_undo_24 ?_
    refine z_put X d_VT_undo_25 fl_VT_60 c0b (by omega) (Nat.le_of_ble_eq_true rfl) rfl rfl (fun h8 c9 fr10 => ?_)
    have c9 : h8 0 = ob ci_VT [.ref (ad (g_b G) 1), .ref (ad (g_b G) 3), .ref (ad (g_b G) 5), .ref (ad (g_b G) 6), .ref (ad (g_b G) 15), .ref (ad (g_b G) 35), .ref (ad (g_b G) 38), vI (g), vI (-1)] := c9
    have c11 := (fr10 5 (by omega)).trans c5b
    refine z_iconst X d_VT_undo_28 ?_
    exact z_ireturn X Q d_VT_undo_29 rfl (Or.inl ⟨by omega, rfl, hV2.obj c9 hV.2.2.2.2.2.2.2.2.2.2.1 (by omega) (fun q q9 => fr10 q q9), fun q q9 => (fr10 q (by omega)).trans (hHf q (by omega) (by omega))⟩)
  · refine z_iconst X d_VT_undo_10 ?_
    exact z_ireturn X Q d_VT_undo_11 rfl (Or.inr ⟨by omega, rfl, hV, fun q _ => rfl⟩)

set_option maxRecDepth 100000 in
set_option maxHeartbeats 4000000 in
theorem c_VT_redo {l : Launch} {G : lx_G} {N : Nat} {h : Nat → va_E} {n : Nat} {t : Nat → Int} {now last : Nat} {T : Nat → tx_T} {c : Nat} {p : Nat → Int} {kp : Nat → Bool} {V : Nat → tx_T} {g o en : Int} (hV : VT G h n t now last T c p kp V g o en) (hN : 42 ≤ N) : CtI l G m_VT_redo N [.ref (ad (g_b G) 0)] h (fun z h' => (now < last ∧ z = 1 ∧ VT G h' (T (now + 1)).1 (T (now + 1)).2 (now + 1) last T c p kp V g (-1) en ∧ (∀ q, 42 ≤ q → h' q = h q)) ∨ (last ≤ now ∧ z = 0 ∧ VT G h' n t now last T c p kp V g o en ∧ (∀ q, 42 ≤ q → h' q = h q))) := by
  refine zI_of (by decide) rfl rfl ?_
  intro k X Q
  have X : Cx k G R_VT b_VT_redo 1 rm_VT_redo := X
  have Q : Rt k G (some (.boolean)) N 0 0 (pI (fun z h' => (now < last ∧ z = 1 ∧ VT G h' (T (now + 1)).1 (T (now + 1)).2 (now + 1) last T c p kp V g (-1) en ∧ (∀ q, 42 ≤ q → h' q = h q)) ∨ (last ≤ now ∧ z = 0 ∧ VT G h' n t now last T c p kp V g o en ∧ (∀ q, 42 ≤ q → h' q = h q)))) := Q
  show Ev k G 1 N 0 0 h 0 [some (.ref (ad (g_b G) 0))] []
  have c0 := hV.1
  have c5 := hV.2.2.2.1
  obtain ⟨_, c15, -⟩ := id (hV.2.2.2.2.2.2.2.1)
  obtain ⟨old9, -, -, -, hnl, hl8, -, -⟩ := id hV.2.2.2.2.2.2.2.1
  refine e_aload_n X d_VT_redo_0 rfl ?_
  refine e_get X d_VT_redo_1 fl_VT_38 c0 (by omega) rfl ?_
  refine z_callV_I X d_VT_redo_4 cv_VT_107 (c_His_redoable hV.2.2.2.2.2.2.2.1 (by omega)) c15 (by omega) rfl rfl ⟨rfl, rfl⟩ rfl (fun z3 h1 hp2 => ?_)
  obtain ⟨rfl, hh4⟩ := hp2
  rw [hh4]
  refine z_if_ne (tgt := 12) X d_VT_redo_7 (by decide) (by omega) (fun q1 => ?_) (fun q1 => ?_)
  · refine e_aload_n X d_VT_redo_12 rfl ?_
    refine e_get X d_VT_redo_13 fl_VT_38 c0 (by omega) rfl ?_
    refine e_aload_n X d_VT_redo_16 rfl ?_
    refine e_get X d_VT_redo_17 fl_VT_14 c0 (by omega) rfl ?_
    refine z_callV_V X d_VT_redo_20 cv_VT_110 (c_His_goForward hV.2.2.2.2.2.2.2.1 (by omega) hV.2.1 (by omega) (by omega) (by omega)) c15 (by omega) rfl rfl ⟨rfl, rfl⟩ rfl (fun h5 hp6 => ?_)
    obtain ⟨hH, hT1, hHf⟩ := hp6
    have hV2 := hV.both hT1 hH (fun q q9 => hHf q (by omega) (by omega))
    have c0b := hV2.1
    have c5b := hV2.2.2.2.1
    refine e_aload_n X d_VT_redo_23 rfl ?_
    refine z_iconst X d_VT_redo_24 ?_
    refine z_put X d_VT_redo_25 fl_VT_60 c0b (by omega) (Nat.le_of_ble_eq_true rfl) rfl rfl (fun h8 c9 fr10 => ?_)
    have c9 : h8 0 = ob ci_VT [.ref (ad (g_b G) 1), .ref (ad (g_b G) 3), .ref (ad (g_b G) 5), .ref (ad (g_b G) 6), .ref (ad (g_b G) 15), .ref (ad (g_b G) 35), .ref (ad (g_b G) 38), vI (g), vI (-1)] := c9
    have c11 := (fr10 5 (by omega)).trans c5b
    refine z_iconst X d_VT_redo_28 ?_
    exact z_ireturn X Q d_VT_redo_29 rfl (Or.inl ⟨by omega, rfl, hV2.obj c9 hV.2.2.2.2.2.2.2.2.2.2.1 (by omega) (fun q q9 => fr10 q q9), fun q q9 => (fr10 q (by omega)).trans (hHf q (by omega) (by omega))⟩)
  · refine z_iconst X d_VT_redo_10 ?_
    exact z_ireturn X Q d_VT_redo_11 rfl (Or.inr ⟨by omega, rfl, hV, fun q _ => rfl⟩)

def stp (now last : Nat) (a : Int) : Int := if a = 0 then ((now : Nat) : Int) else if a = 1 then ((last - now : Nat) : Int) else -1
set_option maxRecDepth 100000 in
set_option maxHeartbeats 4000000 in
theorem c_VT_steps {l : Launch} {G : lx_G} {N : Nat} {h : Nat → va_E} {n : Nat} {t : Nat → Int} {now last : Nat} {T : Nat → tx_T} {c : Nat} {p : Nat → Int} {kp : Nat → Bool} {V : Nat → tx_T} {g o en : Int} {a : Int} (hV : VT G h n t now last T c p kp V g o en) (hN : 42 ≤ N) (hr_a : -2147483648 ≤ a ∧ a < 2147483648) : CtI l G m_VT_steps N [.ref (ad (g_b G) 0), vI (a)] h (fun z h' => z = stp now last a ∧ h' = h) := by
  refine zI_of (by decide) rfl rfl ?_
  intro k X Q
  have X : Cx k G R_VT b_VT_steps 2 rm_VT_steps := X
  have Q : Rt k G (some (.int)) N 0 0 (pI (fun z h' => z = stp now last a ∧ h' = h)) := Q
  show Ev k G 2 N 0 0 h 0 [some (.ref (ad (g_b G) 0)), some (vI (a))] []
  have c0 := hV.1
  have c5 := hV.2.2.2.1
  obtain ⟨_, c15, -⟩ := id (hV.2.2.2.2.2.2.2.1)
  refine z_iload_n X d_VT_steps_0 rfl ?_
  by_cases h0 : a = 0
  · refine z_lookup (off := 27) (tgt := 28) X d_VT_steps_1 (by decide) hr_a (by rw [h0]; rfl) (by decide) ?_
    refine e_aload_n X d_VT_steps_28 rfl ?_
    refine e_get X d_VT_steps_29 fl_VT_38 c0 (by omega) rfl ?_
    refine z_callV_I X d_VT_steps_32 cv_VT_101 (c_His_undoable hV.2.2.2.2.2.2.2.1 (by omega)) c15 (by omega) rfl rfl ⟨rfl, rfl⟩ rfl (fun z3 h1 hp2 => ?_)
    obtain ⟨rfl, hh4⟩ := hp2
    rw [hh4]
    exact z_ireturn X Q d_VT_steps_35 rfl ⟨by unfold stp; rw [if_pos h0], rfl⟩
  · by_cases h1 : a = 1
    · refine z_lookup (off := 35) (tgt := 36) X d_VT_steps_1 (by decide) hr_a (by rw [h1]; rfl) (by decide) ?_
      refine e_aload_n X d_VT_steps_36 rfl ?_
      refine e_get X d_VT_steps_37 fl_VT_38 c0 (by omega) rfl ?_
      refine z_callV_I X d_VT_steps_40 cv_VT_107 (c_His_redoable hV.2.2.2.2.2.2.2.1 (by omega)) c15 (by omega) rfl rfl ⟨rfl, rfl⟩ rfl (fun z7 h5 hp6 => ?_)
      obtain ⟨rfl, hh8⟩ := hp6
      rw [hh8]
      exact z_ireturn X Q d_VT_steps_43 rfl ⟨by unfold stp; rw [if_neg h0, if_pos h1], rfl⟩
    · refine z_lookup (off := 43) (tgt := 44) X d_VT_steps_1 (by decide) hr_a (by show Op.lookupswitch.offset [(0, 27), (1, 35)] 43 a = 43; rw [Op.lookupswitch.offset_cons, if_neg (fun q9 => h0 q9.symm), Op.lookupswitch.offset_cons, if_neg (fun q9 => h1 q9.symm)]; rfl) (by decide) ?_
      refine z_iconst X d_VT_steps_44 ?_
      exact z_ireturn X Q d_VT_steps_45 rfl ⟨by unfold stp; rw [if_neg h0, if_neg h1], rfl⟩

set_option maxRecDepth 100000 in
set_option maxHeartbeats 4000000 in
theorem c_VT_seal {l : Launch} {G : lx_G} {N : Nat} {h : Nat → va_E} {n : Nat} {t : Nat → Int} {now last : Nat} {T : Nat → tx_T} {c : Nat} {p : Nat → Int} {kp : Nat → Bool} {V : Nat → tx_T} {g o en : Int} (hV : VT G h n t now last T c p kp V g o en) (hN : 42 ≤ N) : CtV l G m_VT_seal N [.ref (ad (g_b G) 0)] h (fun h' => VT G h' n t now last T c p kp V g (-1) en ∧ (∀ q, 42 ≤ q → h' q = h q)) := by
  refine zV_of (by decide) rfl rfl ?_
  intro k X Q
  have X : Cx k G R_VT b_VT_seal 1 rm_VT_seal := X
  have Q : Rt k G none N 0 0 (pV (fun h' => VT G h' n t now last T c p kp V g (-1) en ∧ (∀ q, 42 ≤ q → h' q = h q))) := Q
  show Ev k G 1 N 0 0 h 0 [some (.ref (ad (g_b G) 0))] []
  have c0 := hV.1
  have c5 := hV.2.2.2.1
  refine e_aload_n X d_VT_seal_0 rfl ?_
  refine z_iconst X d_VT_seal_1 ?_
  refine z_put X d_VT_seal_2 fl_VT_60 c0 (by omega) (Nat.le_of_ble_eq_true rfl) rfl rfl (fun h1 c2 fr3 => ?_)
  have c2 : h1 0 = ob ci_VT [.ref (ad (g_b G) 1), .ref (ad (g_b G) 3), .ref (ad (g_b G) 5), .ref (ad (g_b G) 6), .ref (ad (g_b G) 15), .ref (ad (g_b G) 35), .ref (ad (g_b G) 38), vI (g), vI (-1)] := c2
  have c4 := (fr3 5 (by omega)).trans c5
  exact z_return X Q d_VT_seal_5 ⟨hV.obj c2 hV.2.2.2.2.2.2.2.2.2.2.1 (by omega) (fun q q9 => fr3 q q9), fun q q9 => fr3 q (by omega)⟩

set_option maxRecDepth 100000 in
set_option maxHeartbeats 4000000 in
theorem c_VT_guard {l : Launch} {G : lx_G} {N : Nat} {h : Nat → va_E} {n : Nat} {t : Nat → Int} {now last : Nat} {T : Nat → tx_T} {c : Nat} {p : Nat → Int} {kp : Nat → Bool} {V : Nat → tx_T} {g o en : Int} {a : Int} (hV : VT G h n t now last T c p kp V g o en) (hN : 42 ≤ N) (hr_a : -2147483648 ≤ a ∧ a < 2147483648) : CtI l G m_VT_guard N [.ref (ad (g_b G) 0), vI (a)] h (fun z h' => ((a = 0 ∨ a = 1 ∨ a = 3) ∧ z = 1 ∧ VT G h' n t now last T c p kp V a (-1) en ∧ (∀ q, 42 ≤ q → h' q = h q)) ∨ (¬ (a = 0 ∨ a = 1 ∨ a = 3) ∧ z = 0 ∧ VT G h' n t now last T c p kp V g o en ∧ (∀ q, 42 ≤ q → h' q = h q))) := by
  refine zI_of (by decide) rfl rfl ?_
  intro k X Q
  have X : Cx k G R_VT b_VT_guard 2 rm_VT_guard := X
  have Q : Rt k G (some (.boolean)) N 0 0 (pI (fun z h' => ((a = 0 ∨ a = 1 ∨ a = 3) ∧ z = 1 ∧ VT G h' n t now last T c p kp V a (-1) en ∧ (∀ q, 42 ≤ q → h' q = h q)) ∨ (¬ (a = 0 ∨ a = 1 ∨ a = 3) ∧ z = 0 ∧ VT G h' n t now last T c p kp V g o en ∧ (∀ q, 42 ≤ q → h' q = h q)))) := Q
  show Ev k G 2 N 0 0 h 0 [some (.ref (ad (g_b G) 0)), some (vI (a))] []
  have c0 := hV.1
  have c5 := hV.2.2.2.1
  refine z_iload_n X d_VT_guard_0 rfl ?_
  refine z_if_eq (tgt := 16) X d_VT_guard_1 (by decide) (by omega) (fun q1 => ?_) (fun q1 => ?_)
  · refine e_aload_n X d_VT_guard_16 rfl ?_
    refine z_iload_n X d_VT_guard_17 rfl ?_
    refine z_put X d_VT_guard_18 fl_VT_56 c0 (by omega) (Nat.le_of_ble_eq_true rfl) rfl rfl (fun h2 c3 fr4 => ?_)
    have c3 : h2 0 = ob ci_VT [.ref (ad (g_b G) 1), .ref (ad (g_b G) 3), .ref (ad (g_b G) 5), .ref (ad (g_b G) 6), .ref (ad (g_b G) 15), .ref (ad (g_b G) 35), .ref (ad (g_b G) 38), vI (a), vI (o)] := c3
    have c5 := (fr4 5 (by omega)).trans c5
    refine e_aload_n X d_VT_guard_21 rfl ?_
    refine z_iconst X d_VT_guard_22 ?_
    refine z_put X d_VT_guard_23 fl_VT_60 c3 (by omega) (Nat.le_of_ble_eq_true rfl) rfl rfl (fun h6 c7 fr8 => ?_)
    have c7 : h6 0 = ob ci_VT [.ref (ad (g_b G) 1), .ref (ad (g_b G) 3), .ref (ad (g_b G) 5), .ref (ad (g_b G) 6), .ref (ad (g_b G) 15), .ref (ad (g_b G) 35), .ref (ad (g_b G) 38), vI (a), vI (-1)] := c7
    have c9 := (fr8 5 (by omega)).trans c5
    refine z_iconst X d_VT_guard_26 ?_
    exact z_ireturn X Q d_VT_guard_27 rfl (Or.inl ⟨by omega, rfl, hV.obj c7 (by omega) (by omega) (fun q q9 => (fr8 q q9).trans (fr4 q q9)), fun q q9 => (fr8 q (by omega)).trans (fr4 q (by omega))⟩)
  · refine z_iload_n X d_VT_guard_4 rfl ?_
    refine z_iconst X d_VT_guard_5 ?_
    refine z_icmp_eq (tgt := 16) X d_VT_guard_6 (by decide) (by omega) (fun q10 => ?_) (fun q10 => ?_)
    · refine e_aload_n X d_VT_guard_16 rfl ?_
      refine z_iload_n X d_VT_guard_17 rfl ?_
      refine z_put X d_VT_guard_18 fl_VT_56 c0 (by omega) (Nat.le_of_ble_eq_true rfl) rfl rfl (fun h11 c12 fr13 => ?_)
      have c12 : h11 0 = ob ci_VT [.ref (ad (g_b G) 1), .ref (ad (g_b G) 3), .ref (ad (g_b G) 5), .ref (ad (g_b G) 6), .ref (ad (g_b G) 15), .ref (ad (g_b G) 35), .ref (ad (g_b G) 38), vI (a), vI (o)] := c12
      have c14 := (fr13 5 (by omega)).trans c5
      refine e_aload_n X d_VT_guard_21 rfl ?_
      refine z_iconst X d_VT_guard_22 ?_
      refine z_put X d_VT_guard_23 fl_VT_60 c12 (by omega) (Nat.le_of_ble_eq_true rfl) rfl rfl (fun h15 c16 fr17 => ?_)
      have c16 : h15 0 = ob ci_VT [.ref (ad (g_b G) 1), .ref (ad (g_b G) 3), .ref (ad (g_b G) 5), .ref (ad (g_b G) 6), .ref (ad (g_b G) 15), .ref (ad (g_b G) 35), .ref (ad (g_b G) 38), vI (a), vI (-1)] := c16
      have c18 := (fr17 5 (by omega)).trans c14
      refine z_iconst X d_VT_guard_26 ?_
      exact z_ireturn X Q d_VT_guard_27 rfl (Or.inl ⟨by omega, rfl, hV.obj c16 (by omega) (by omega) (fun q q9 => (fr17 q q9).trans (fr13 q q9)), fun q q9 => (fr17 q (by omega)).trans (fr13 q (by omega))⟩)
    · refine z_iload_n X d_VT_guard_9 rfl ?_
      refine z_iconst X d_VT_guard_10 ?_
      refine z_icmp_eq (tgt := 16) X d_VT_guard_11 (by decide) (by omega) (fun q19 => ?_) (fun q19 => ?_)
      · refine e_aload_n X d_VT_guard_16 rfl ?_
        refine z_iload_n X d_VT_guard_17 rfl ?_
        refine z_put X d_VT_guard_18 fl_VT_56 c0 (by omega) (Nat.le_of_ble_eq_true rfl) rfl rfl (fun h20 c21 fr22 => ?_)
        have c21 : h20 0 = ob ci_VT [.ref (ad (g_b G) 1), .ref (ad (g_b G) 3), .ref (ad (g_b G) 5), .ref (ad (g_b G) 6), .ref (ad (g_b G) 15), .ref (ad (g_b G) 35), .ref (ad (g_b G) 38), vI (a), vI (o)] := c21
        have c23 := (fr22 5 (by omega)).trans c5
        refine e_aload_n X d_VT_guard_21 rfl ?_
        refine z_iconst X d_VT_guard_22 ?_
        refine z_put X d_VT_guard_23 fl_VT_60 c21 (by omega) (Nat.le_of_ble_eq_true rfl) rfl rfl (fun h24 c25 fr26 => ?_)
        have c25 : h24 0 = ob ci_VT [.ref (ad (g_b G) 1), .ref (ad (g_b G) 3), .ref (ad (g_b G) 5), .ref (ad (g_b G) 6), .ref (ad (g_b G) 15), .ref (ad (g_b G) 35), .ref (ad (g_b G) 38), vI (a), vI (-1)] := c25
        have c27 := (fr26 5 (by omega)).trans c23
        refine z_iconst X d_VT_guard_26 ?_
        exact z_ireturn X Q d_VT_guard_27 rfl (Or.inl ⟨by omega, rfl, hV.obj c25 (by omega) (by omega) (fun q q9 => (fr26 q q9).trans (fr22 q q9)), fun q q9 => (fr26 q (by omega)).trans (fr22 q (by omega))⟩)
      · refine z_iconst X d_VT_guard_14 ?_
        exact z_ireturn X Q d_VT_guard_15 rfl (Or.inr ⟨by omega, rfl, hV, fun q _ => rfl⟩)

set_option maxRecDepth 100000 in
set_option maxHeartbeats 4000000 in
theorem c_VT_snapshot {l : Launch} {G : lx_G} {N : Nat} {h : Nat → va_E} {n : Nat} {t : Nat → Int} {now last : Nat} {T : Nat → tx_T} {c : Nat} {p : Nat → Int} {kp : Nat → Bool} {V : Nat → tx_T} {g o en : Int} (hV : VT G h n t now last T c p kp V g o en) (hN : 42 ≤ N) : CtI l G m_VT_snapshot N [.ref (ad (g_b G) 0)] h (fun z h' => (∃ v : Nat, (1 ≤ v ∧ v ≤ 4) ∧ z = ((v : Nat) : Int) ∧ kp v = false ∧ (∀ j, 1 ≤ j → j < v → kp j = true) ∧ VT G h' n t now last T c p (fun j => if j = v then true else kp j) (fun j => if j = v then (n, t) else V j) g o en ∧ (∀ q, 42 ≤ q → h' q = h q)) ∨ (z = -1 ∧ (∀ j, 1 ≤ j → j ≤ 4 → kp j = true) ∧ VT G h' n t now last T c p kp V g o en ∧ (∀ q, 42 ≤ q → h' q = h q))) := by
  refine zI_of (by decide) rfl rfl ?_
  intro k X Q
  have X : Cx k G R_VT b_VT_snapshot 2 rm_VT_snapshot := X
  have Q : Rt k G (some (.int)) N 0 0 (pI (fun z h' => (∃ v : Nat, (1 ≤ v ∧ v ≤ 4) ∧ z = ((v : Nat) : Int) ∧ kp v = false ∧ (∀ j, 1 ≤ j → j < v → kp j = true) ∧ VT G h' n t now last T c p (fun j => if j = v then true else kp j) (fun j => if j = v then (n, t) else V j) g o en ∧ (∀ q, 42 ≤ q → h' q = h q)) ∨ (z = -1 ∧ (∀ j, 1 ≤ j → j ≤ 4 → kp j = true) ∧ VT G h' n t now last T c p kp V g o en ∧ (∀ q, 42 ≤ q → h' q = h q)))) := Q
  show Ev k G 2 N 0 0 h 0 [some (.ref (ad (g_b G) 0)), none] []
  have c0 := hV.1
  have c5 := hV.2.2.2.1
  obtain ⟨ku, k0, k1, k2⟩ := hV.2.2.2.2.1
  refine z_iconst X d_VT_snapshot_0 ?_
  refine e_istore_n X d_VT_snapshot_1 (by decide) ?_
  have loop : ∀ (d9 : Nat) (v : Nat), 5 - v < d9 → 1 ≤ v ∧ v ≤ 5 → (∀ j, 1 ≤ j → j < v → kp j = true) → Ev k G 2 N 0 0 h 2 [some (.ref (ad (g_b G) 0)), some (vI ((v : Nat) : Int))] [] := by
    intro d9
    induction d9 with
    | zero =>
      intro v hm9
      exact absurd hm9 (Nat.not_lt_zero _)
    | succ d9 ih =>
      intro v hm9 hv hk
      refine z_iload_n X d_VT_snapshot_2 rfl ?_
      refine z_iconst X d_VT_snapshot_3 ?_
      refine z_icmp_gt (tgt := 46) X d_VT_snapshot_4 (by decide) (by omega) (fun q1 => ?_) (fun q1 => ?_)
      · refine z_iconst X d_VT_snapshot_46 ?_
        exact z_ireturn X Q d_VT_snapshot_47 rfl (Or.inr ⟨rfl, fun j j1 j2 => hk j j1 (by omega), hV, fun q _ => rfl⟩)
      · refine e_aload_n X d_VT_snapshot_7 rfl ?_
        refine e_get X d_VT_snapshot_8 fl_VT_31 c0 (by omega) rfl ?_
        refine z_iload_n X d_VT_snapshot_11 rfl ?_
        refine z_zald X d_VT_snapshot_12 (j := v) k0 (by omega) (by omega) (by omega) ?_
        refine z_top (show _ = (b2z (kp v)) from k2 v (by omega) (by omega)) ?_
        refine z_if_ne (tgt := 40) X d_VT_snapshot_13 (by decide) (b2z_r _) (fun q2 => ?_) (fun q2 => ?_)
        · refine z_iinc X d_VT_snapshot_40 rfl (by decide) ?_
          refine e_goto (tgt := 2) X d_VT_snapshot_43 (by decide) ?_
          exact ih (v + 1) (by omega) (by omega) (fun j j1 j2 => by rcases Nat.lt_or_ge j v with h8 | h8; exact hk j j1 h8; rw [show j = v by omega]; exact b2z_ne q2)
        · have hvx : vix v = 5 + 2 * v := if_neg (by omega)
          obtain ⟨n9, t9, hR9⟩ := hV.2.2.2.2.2.2.1 v (by omega) (by omega)
          refine e_aload_n X d_VT_snapshot_16 rfl ?_
          refine e_get X d_VT_snapshot_17 fl_VT_27 c0 (by omega) rfl ?_
          refine z_iload_n X d_VT_snapshot_20 rfl ?_
          refine z_tald X d_VT_snapshot_21 (j := v) c5 (by omega) (by omega) (by omega) rfl ?_
          refine e_aload_n X d_VT_snapshot_22 rfl ?_
          refine e_get X d_VT_snapshot_23 fl_VT_14 c0 (by omega) rfl ?_
          rw [hvx]
          obtain ⟨u9, hr9, -⟩ := id hR9
          refine z_callF_V X d_VT_snapshot_26 cf_VT_113_Row (As := [.ref (ad (g_b G) 1)]) (c_Row_become hR9 (by omega) hV.2.1 (by omega) (by omega) hV.2.1.le) hr9 (by omega) rfl rfl ⟨rfl, rfl⟩ rfl (fun h1 hp2 => ?_)
          obtain ⟨hB, hBf⟩ := hp2
          have c0b := (hBf 0 (by omega) (by omega)).trans c0
          have k0b := (hBf 6 (by omega) (by omega)).trans k0
          refine e_aload_n X d_VT_snapshot_31 rfl ?_
          refine e_get X d_VT_snapshot_32 fl_VT_31 c0b (by omega) rfl ?_
          refine z_iload_n X d_VT_snapshot_35 rfl ?_
          refine z_iconst X d_VT_snapshot_36 ?_
          refine z_zast X d_VT_snapshot_37 (j := v) k0b (by omega) (by omega) (by omega) rfl (fun h3 c4 fr5 => ?_)
          have c6 := (fr5 0 (by omega)).trans c0b
          refine z_iload_n X d_VT_snapshot_38 rfl ?_
          exact z_ireturn X Q d_VT_snapshot_39 rfl (Or.inl ⟨v, by omega, rfl, b2z_eq q2, hk, hV.snap (by omega) k1 k2 c4 (hB.fr (fr5 _ (by omega)) (fr5 _ (by omega))) (fun q q7 q8 q9 => (fr5 q q7).trans (hBf q q8 q9)), fun q q9 => (fr5 q (by omega)).trans (hBf q (by omega) (by omega))⟩)
  exact loop _ 1 (Nat.lt_succ_self _) (by omega) (fun j j1 j2 => absurd j2 (by omega))

set_option maxRecDepth 100000 in
set_option maxHeartbeats 4000000 in
theorem c_VT_release {l : Launch} {G : lx_G} {N : Nat} {h : Nat → va_E} {n : Nat} {t : Nat → Int} {now last : Nat} {T : Nat → tx_T} {c : Nat} {p : Nat → Int} {kp : Nat → Bool} {V : Nat → tx_T} {g o en : Int} {a : Int} (hV : VT G h n t now last T c p kp V g o en) (hN : 42 ≤ N) (hr_a : -2147483648 ≤ a ∧ a < 2147483648) : CtI l G m_VT_release N [.ref (ad (g_b G) 0), vI (a)] h (fun z h' => ((decide (¬ a = 0) && isv kp a) = true ∧ z = 1 ∧ VT G h' n t now last T c p (fun j => if j = a.toNat then false else kp j) V g o en ∧ (∀ q, 42 ≤ q → h' q = h q)) ∨ ((decide (¬ a = 0) && isv kp a) = false ∧ z = 0 ∧ VT G h' n t now last T c p kp V g o en ∧ (∀ q, 42 ≤ q → h' q = h q))) := by
  refine zI_of (by decide) rfl rfl ?_
  intro k X Q
  have X : Cx k G R_VT b_VT_release 2 rm_VT_release := X
  have Q : Rt k G (some (.boolean)) N 0 0 (pI (fun z h' => ((decide (¬ a = 0) && isv kp a) = true ∧ z = 1 ∧ VT G h' n t now last T c p (fun j => if j = a.toNat then false else kp j) V g o en ∧ (∀ q, 42 ≤ q → h' q = h q)) ∨ ((decide (¬ a = 0) && isv kp a) = false ∧ z = 0 ∧ VT G h' n t now last T c p kp V g o en ∧ (∀ q, 42 ≤ q → h' q = h q)))) := Q
  show Ev k G 2 N 0 0 h 0 [some (.ref (ad (g_b G) 0)), some (vI (a))] []
  have c0 := hV.1
  have c5 := hV.2.2.2.1
  obtain ⟨ku, k0, k1, k2⟩ := hV.2.2.2.2.1
  refine z_iload_n X d_VT_release_0 rfl ?_
  refine z_if_eq (tgt := 12) X d_VT_release_1 (by decide) (by omega) (fun q1 => ?_) (fun q1 => ?_)
  · refine z_iconst X d_VT_release_12 ?_
    exact z_ireturn X Q d_VT_release_13 rfl (Or.inr ⟨by rw [decide_eq_false (fun q9 => q9 q1)]; rfl, rfl, hV, fun q _ => rfl⟩)
  · refine e_aload_n X d_VT_release_4 rfl ?_
    refine z_iload_n X d_VT_release_5 rfl ?_
    refine z_callV_I X d_VT_release_6 cv_VT_116 (c_VT_isVersion hV hN hr_a) c0 (by omega) rfl rfl ⟨rfl, rfl⟩ rfl (fun z3 h1 hp2 => ?_)
    obtain ⟨rfl, hh4⟩ := hp2
    rw [hh4]
    refine z_if_ne (tgt := 14) X d_VT_release_9 (by decide) (b2z_r _) (fun q2 => ?_) (fun q2 => ?_)
    · have his := b2z_ne q2
      have hrl : (decide (¬ a = 0) && isv kp a) = true := by rw [decide_eq_true q1, his]; rfl
      obtain ⟨j, rfl, hj4, -, -⟩ := hV.ver his
      refine e_aload_n X d_VT_release_14 rfl ?_
      refine e_get X d_VT_release_15 fl_VT_31 c0 (by omega) rfl ?_
      refine z_iload_n X d_VT_release_18 rfl ?_
      refine z_iconst X d_VT_release_19 ?_
      refine z_zast X d_VT_release_20 (j := j) k0 (by omega) (by omega) (by omega) rfl (fun h5 c6 fr7 => ?_)
      have c8 := (fr7 0 (by omega)).trans c0
      have c9 := (fr7 5 (by omega)).trans c5
      refine z_iconst X d_VT_release_21 ?_
      exact z_ireturn X Q d_VT_release_22 rfl (Or.inl ⟨hrl, rfl, hV.rel (by omega) k1 k2 c6 (fun q q9 => fr7 q q9), fun q q9 => fr7 q (by omega)⟩)
    · refine z_iconst X d_VT_release_12 ?_
      exact z_ireturn X Q d_VT_release_13 rfl (Or.inr ⟨by rw [b2z_eq q2, Bool.and_false], rfl, hV, fun q _ => rfl⟩)

