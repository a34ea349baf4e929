set_option maxRecDepth 100000 in
set_option maxHeartbeats 4000000 in
theorem c_VT_isMetric {l : Launch} {G : lx_G} {N : Nat} {h : Nat → va_E} {a : Int} (hr_a : -2147483648 ≤ a ∧ a < 2147483648) : CtI l G m_VT_isMetric N [vI (a)] h (fun z h' => z = b2z (decide (0 ≤ a) && decide (a ≤ 3)) ∧ h' = h) := by
  refine zI_of (by decide) rfl rfl ?_
  intro k X Q
  have X : Cx k G R_VT b_VT_isMetric 1 rm_VT_isMetric := X
  have Q : Rt k G (some (.boolean)) N 0 0 (pI (fun z h' => z = b2z (decide (0 ≤ a) && decide (a ≤ 3)) ∧ h' = h)) := Q
  show Ev k G 1 N 0 0 h 0 [some (vI (a))] []
  refine z_iload_n X d_VT_isMetric_0 rfl ?_
  refine z_if_lt (tgt := 13) X d_VT_isMetric_1 (by decide) (by omega) (fun q1 => ?_) (fun q1 => ?_)
  · have g2 : decide (0 ≤ a) = false := decide_eq_false (by omega)
    refine z_iconst X d_VT_isMetric_13 ?_
    exact z_ireturn X Q d_VT_isMetric_14 rfl ⟨by simp [b2z, g2], rfl⟩
  · have g3 : decide (0 ≤ a) = true := decide_eq_true (by omega)
    refine z_iload_n X d_VT_isMetric_4 rfl ?_
    refine z_iconst X d_VT_isMetric_5 ?_
    refine z_icmp_gt (tgt := 13) X d_VT_isMetric_6 (by decide) (by omega) (fun q4 => ?_) (fun q4 => ?_)
    · have g5 : decide (a ≤ 3) = false := decide_eq_false (by omega)
      refine z_iconst X d_VT_isMetric_13 ?_
      exact z_ireturn X Q d_VT_isMetric_14 rfl ⟨by simp [b2z, g3, g5], rfl⟩
    · have g6 : decide (a ≤ 3) = true := decide_eq_true (by omega)
      refine z_iconst X d_VT_isMetric_9 ?_
      refine e_goto (tgt := 14) X d_VT_isMetric_10 (by decide) ?_
      exact z_ireturn X Q d_VT_isMetric_14 rfl ⟨by simp [b2z, g3, g6], rfl⟩

set_option maxRecDepth 100000 in
set_option maxHeartbeats 4000000 in
theorem c_VT_isPlace {l : Launch} {G : lx_G} {N : Nat} {h : Nat → va_E} {e n : Nat} {t : Nat → Int} {a : Int} (hT : Tx G h e n t) (heN : e + 1 < N) (hr_a : -2147483648 ≤ a ∧ a < 2147483648) : CtI l G m_VT_isPlace N [.ref (ad (g_b G) e), vI (a)] h (fun z h' => z = b2z (decide (0 ≤ a) && decide (a ≤ ((n : Nat) : Int))) ∧ h' = h) := by
  have hle := hT.le
  refine zI_of (by decide) rfl rfl ?_
  intro k X Q
  have X : Cx k G R_VT b_VT_isPlace 2 rm_VT_isPlace := X
  have Q : Rt k G (some (.boolean)) N 0 0 (pI (fun z h' => z = b2z (decide (0 ≤ a) && decide (a ≤ ((n : Nat) : Int))) ∧ h' = h)) := Q
  show Ev k G 2 N 0 0 h 0 [some (.ref (ad (g_b G) e)), some (vI (a))] []
  refine z_iload_n X d_VT_isPlace_0 rfl ?_
  refine z_if_lt (tgt := 18) X d_VT_isPlace_1 (by decide) (by omega) (fun q1 => ?_) (fun q1 => ?_)
  · have g2 : decide (0 ≤ a) = false := decide_eq_false (by omega)
    refine z_iconst X d_VT_isPlace_18 ?_
    exact z_ireturn X Q d_VT_isPlace_19 rfl ⟨by simp [b2z, g2], rfl⟩
  · have g3 : decide (0 ≤ a) = true := decide_eq_true (by omega)
    refine z_iload_n X d_VT_isPlace_4 rfl ?_
    refine e_aload_n X d_VT_isPlace_5 rfl ?_
    refine z_Tlen X d_VT_isPlace_6 cf_VT_159_Row cf_VT_159_Gap hT heN rfl ?_
    refine z_icmp_gt (tgt := 18) X d_VT_isPlace_11 (by decide) (by omega) (fun q4 => ?_) (fun q4 => ?_)
    · have g5 : decide (a ≤ ((n : Nat) : Int)) = false := decide_eq_false (by omega)
      refine z_iconst X d_VT_isPlace_18 ?_
      exact z_ireturn X Q d_VT_isPlace_19 rfl ⟨by simp [b2z, g3, g5], rfl⟩
    · have g6 : decide (a ≤ ((n : Nat) : Int)) = true := decide_eq_true (by omega)
      refine z_iconst X d_VT_isPlace_14 ?_
      refine e_goto (tgt := 19) X d_VT_isPlace_15 (by decide) ?_
      exact z_ireturn X Q d_VT_isPlace_19 rfl ⟨by simp [b2z, g3, g6], rfl⟩

def smu (n : Nat) (t : Nat → Int) (n' : Nat) (t' : Nat → Int) : Bool := decide (n = n' ∧ ∀ i, i < n → t i = t' i)
set_option maxRecDepth 100000 in
set_option maxHeartbeats 4000000 in
theorem c_VT_haveSameUnits {l : Launch} {G : lx_G} {N : Nat} {h : Nat → va_E} {e d n m : Nat} {t s : Nat → Int} (hT : Tx G h e n t) (heN : e + 1 < N) (hD : Tx G h d m s) (hdN : d + 1 < N) : CtI l G m_VT_haveSameUnits N [.ref (ad (g_b G) e), .ref (ad (g_b G) d)] h (fun z h' => z = b2z (smu n t m s) ∧ h' = h) := by
  have hle := hT.le
  have hle2 := hD.le
  refine zI_of (by decide) rfl rfl ?_
  intro k X Q
  have X : Cx k G R_VT b_VT_haveSameUnits 3 rm_VT_haveSameUnits := X
  have Q : Rt k G (some (.boolean)) N 0 0 (pI (fun z h' => z = b2z (smu n t m s) ∧ h' = h)) := Q
  show Ev k G 3 N 0 0 h 0 [some (.ref (ad (g_b G) e)), some (.ref (ad (g_b G) d)), none] []
  refine e_aload_n X d_VT_haveSameUnits_0 rfl ?_
  refine z_Tlen X d_VT_haveSameUnits_1 cf_VT_159_Row cf_VT_159_Gap hT heN rfl ?_
  refine e_aload_n X d_VT_haveSameUnits_6 rfl ?_
  refine z_Tlen X d_VT_haveSameUnits_7 cf_VT_159_Row cf_VT_159_Gap hD hdN rfl ?_
  refine z_icmp_eq (tgt := 17) X d_VT_haveSameUnits_12 (by decide) (by omega) (fun q1 => ?_) (fun q1 => ?_)
  · have hnm : n = m := by omega
    refine z_iconst X d_VT_haveSameUnits_17 ?_
    refine e_istore_n X d_VT_haveSameUnits_18 (by decide) ?_
    have loop : ∀ (d9 : Nat) (i : Nat), n - i < d9 → i ≤ n → (∀ k, k < i → t k = s k) → Ev k G 3 N 0 0 h 19 [some (.ref (ad (g_b G) e)), some (.ref (ad (g_b G) d)), some (vI ((i : Nat) : Int))] [] := by
      intro d9
      induction d9 with
      | zero =>
        intro i hm9
        exact absurd hm9 (Nat.not_lt_zero _)
      | succ d9 ih =>
        intro i hm9 hi hs
        refine z_iload_n X d_VT_haveSameUnits_19 rfl ?_
        refine e_aload_n X d_VT_haveSameUnits_20 rfl ?_
        refine z_Tlen X d_VT_haveSameUnits_21 cf_VT_159_Row cf_VT_159_Gap hT heN rfl ?_
        refine z_icmp_ge (tgt := 54) X d_VT_haveSameUnits_26 (by decide) (by omega) (fun q2 => ?_) (fun q2 => ?_)
        · refine z_iconst X d_VT_haveSameUnits_54 ?_
          exact z_ireturn X Q d_VT_haveSameUnits_55 rfl ⟨(b2z_t (decide_eq_true ⟨hnm, fun k9 h9 => hs k9 (by omega)⟩)).symm, rfl⟩
        · have hr1 := tx_ge hT.ok i
          have hr2 := tx_ge hD.ok i
          refine e_aload_n X d_VT_haveSameUnits_29 rfl ?_
          refine z_iload_n X d_VT_haveSameUnits_30 rfl ?_
          refine z_Tat X d_VT_haveSameUnits_31 cf_VT_120_Row cf_VT_120_Gap hT heN (by omega) rfl ?_
          refine z_top (show _ = (t i) from tat_n t i) ?_
          refine e_aload_n X d_VT_haveSameUnits_36 rfl ?_
          refine z_iload_n X d_VT_haveSameUnits_37 rfl ?_
          refine z_Tat X d_VT_haveSameUnits_38 cf_VT_120_Row cf_VT_120_Gap hD hdN (by omega) rfl ?_
          refine z_top (show _ = (s i) from tat_n s i) ?_
          refine z_icmp_eq (tgt := 48) X d_VT_haveSameUnits_43 (by decide) (by omega) (fun q3 => ?_) (fun q3 => ?_)
          · refine z_iinc X d_VT_haveSameUnits_48 rfl (by decide) ?_
            refine e_goto (tgt := 19) X d_VT_haveSameUnits_51 (by decide) ?_
            exact ih (i + 1) (by omega) (by omega) (fun k9 h9 => by rcases Nat.lt_or_ge k9 i with h8 | h8; exact hs k9 h8; rw [show k9 = i by omega]; exact q3)
          · refine z_iconst X d_VT_haveSameUnits_46 ?_
            exact z_ireturn X Q d_VT_haveSameUnits_47 rfl ⟨(b2z_f (decide_eq_false (fun q9 => q3 (q9.2 i (by omega))))).symm, rfl⟩
    exact loop _ 0 (Nat.lt_succ_self _) (Nat.zero_le _) (fun k9 h9 => absurd h9 (Nat.not_lt_zero _))
  · refine z_iconst X d_VT_haveSameUnits_15 ?_
    exact z_ireturn X Q d_VT_haveSameUnits_16 rfl ⟨(b2z_f (decide_eq_false (fun q9 => q1 (by omega)))).symm, rfl⟩

set_option maxRecDepth 100000 in
set_option maxHeartbeats 4000000 in
theorem c_VT_isVersion {l : Launch} {G : lx_G} {N : Nat} {h : Nat → va_E} {n : Nat} {t : Nat → Int} {now last : Nat} {T : Nat → tx_T} {c : Nat} {p : Nat → Int} {kp : Nat → Bool} {V : Nat → tx_T} {g o en : Int} {v : Int} (hV : VT G h n t now last T c p kp V g o en) (hN : 42 ≤ N) (hr_v : -2147483648 ≤ v ∧ v < 2147483648) : CtI l G m_VT_isVersion N [.ref (ad (g_b G) 0), vI (v)] h (fun z h' => z = b2z (isv kp v) ∧ h' = h) := by
  refine zI_of (by decide) rfl rfl ?_
  intro k X Q
  have X : Cx k G R_VT b_VT_isVersion 2 rm_VT_isVersion := X
  have Q : Rt k G (some (.boolean)) N 0 0 (pI (fun z h' => z = b2z (isv kp v) ∧ h' = h)) := Q
  show Ev k G 2 N 0 0 h 0 [some (.ref (ad (g_b G) 0)), some (vI (v))] []
  have c0 := hV.1
  have c5 := hV.2.2.2.1
  obtain ⟨ku, k0, k1, k2⟩ := hV.2.2.2.2.1
  refine z_iload_n X d_VT_isVersion_0 rfl ?_
  refine z_if_lt (tgt := 22) X d_VT_isVersion_1 (by decide) (by omega) (fun q1 => ?_) (fun q1 => ?_)
  · refine z_iconst X d_VT_isVersion_22 ?_
    exact z_ireturn X Q d_VT_isVersion_23 rfl ⟨by unfold isv; rw [decide_eq_false (show ¬ v = 0 by omega), decide_eq_false (show ¬ (1 ≤ v ∧ v ≤ 4) by omega)]; rfl, rfl⟩
  · refine z_iload_n X d_VT_isVersion_4 rfl ?_
    refine z_iconst X d_VT_isVersion_5 ?_
    refine z_icmp_gt (tgt := 22) X d_VT_isVersion_6 (by decide) (by omega) (fun q2 => ?_) (fun q2 => ?_)
    · refine z_iconst X d_VT_isVersion_22 ?_
      exact z_ireturn X Q d_VT_isVersion_23 rfl ⟨by unfold isv; rw [decide_eq_false (show ¬ v = 0 by omega), decide_eq_false (show ¬ (1 ≤ v ∧ v ≤ 4) by omega)]; rfl, rfl⟩
    · obtain ⟨j, rfl⟩ : ∃ j : Nat, v = (j : Int) := ⟨v.toNat, by omega⟩
      have hkj : ku j = b2z (isv kp ((j : Nat) : Int)) := by
        unfold isv
        rcases Nat.eq_zero_or_pos j with h9 | h9
        · rw [h9, k1]; rfl
        · rw [k2 j h9 (by omega), decide_eq_false (show ¬ ((j : Nat) : Int) = 0 by omega), decide_eq_true (show 1 ≤ ((j : Nat) : Int) ∧ ((j : Nat) : Int) ≤ 4 by omega), Bool.false_or, Bool.true_and]; rfl
      refine e_aload_n X d_VT_isVersion_9 rfl ?_
      refine e_get X d_VT_isVersion_10 fl_VT_31 c0 (by omega) rfl ?_
      refine z_iload_n X d_VT_isVersion_13 rfl ?_
      refine z_zald X d_VT_isVersion_14 (j := j) k0 (by omega) (by omega) (by omega) ?_
      refine z_top (show _ = (b2z (isv kp ((j : Nat) : Int))) from hkj) ?_
      refine z_if_eq (tgt := 22) X d_VT_isVersion_15 (by decide) (b2z_r _) (fun q3 => ?_) (fun q3 => ?_)
      · refine z_iconst X d_VT_isVersion_22 ?_
        exact z_ireturn X Q d_VT_isVersion_23 rfl ⟨q3.symm, rfl⟩
      · refine z_iconst X d_VT_isVersion_18 ?_
        refine e_goto (tgt := 23) X d_VT_isVersion_19 (by decide) ?_
        exact z_ireturn X Q d_VT_isVersion_23 rfl ⟨(b2z_t (b2z_ne q3)).symm, rfl⟩

def ctp (c : Nat) (p : Nat → Int) : Bool := decide (c = 1) && (decide (¬ p 0 = 10) && decide (¬ p 0 = 13))
set_option maxRecDepth 100000 in
set_option maxHeartbeats 4000000 in
theorem c_VT_clipIsTyping {l : Launch} {G : lx_G} {N : Nat} {h : Nat → va_E} {n : Nat} {t : Nat → Int} {now last : Nat} {T : Nat → tx_T} {c : Nat} {p : Nat → Int} {kp : Nat → Bool} {V : Nat → tx_T} {g o en : Int} (hV : VT G h n t now last T c p kp V g o en) (hN : 42 ≤ N) : CtI l G m_VT_clipIsTyping N [.ref (ad (g_b G) 0)] h (fun z h' => z = b2z (ctp c p) ∧ h' = h) := by
  have hcl := hV.2.2.1.le
  have hp0 := tx_ge hV.2.2.1.ok 0
  refine zI_of (by decide) rfl rfl ?_
  intro k X Q
  have X : Cx k G R_VT b_VT_clipIsTyping 1 rm_VT_clipIsTyping := X
  have Q : Rt k G (some (.boolean)) N 0 0 (pI (fun z h' => z = b2z (ctp c p) ∧ h' = h)) := Q
  show Ev k G 1 N 0 0 h 0 [some (.ref (ad (g_b G) 0))] []
  have c0 := hV.1
  have c5 := hV.2.2.2.1
  obtain ⟨_, c3, -⟩ := id (hV.2.2.1)
  refine e_aload_n X d_VT_clipIsTyping_0 rfl ?_
  refine e_get X d_VT_clipIsTyping_1 fl_VT_21 c0 (by omega) rfl ?_
  refine z_callV_I X d_VT_clipIsTyping_4 cv_VT_67 (c_Row_length hV.2.2.1 (by omega)) c3 (by omega) rfl rfl ⟨rfl, rfl⟩ rfl (fun z3 h1 hp2 => ?_)
  obtain ⟨rfl, hh4⟩ := hp2
  rw [hh4]
  refine z_iconst X d_VT_clipIsTyping_7 ?_
  refine z_icmp_ne (tgt := 41) X d_VT_clipIsTyping_8 (by decide) (by omega) (fun q5 => ?_) (fun q5 => ?_)
  · have g6 : decide (c = 1) = false := decide_eq_false (by omega)
    refine z_iconst X d_VT_clipIsTyping_41 ?_
    exact z_ireturn X Q d_VT_clipIsTyping_42 rfl ⟨by simp [ctp, b2z, g6], rfl⟩
  · have g7 : decide (c = 1) = true := decide_eq_true (by omega)
    refine e_aload_n X d_VT_clipIsTyping_11 rfl ?_
    refine e_get X d_VT_clipIsTyping_12 fl_VT_21 c0 (by omega) rfl ?_
    refine z_iconst X d_VT_clipIsTyping_15 ?_
    refine z_callV_I X d_VT_clipIsTyping_16 cv_VT_163 (c_Row_at (a := 0) hV.2.2.1 (by omega) (by omega)) c3 (by omega) rfl rfl ⟨rfl, rfl⟩ rfl (fun z10 h8 hp9 => ?_)
    obtain ⟨rfl, hh11⟩ := hp9
    rw [hh11]
    refine z_top (show _ = (p 0) from rfl) ?_
    refine z_bipush X d_VT_clipIsTyping_19 (by decide) ?_
    refine z_icmp_eq (tgt := 41) X d_VT_clipIsTyping_21 (by decide) (by omega) (fun q12 => ?_) (fun q12 => ?_)
    · have g13 : decide (p 0 = 10) = true := decide_eq_true (by omega)
      refine z_iconst X d_VT_clipIsTyping_41 ?_
      exact z_ireturn X Q d_VT_clipIsTyping_42 rfl ⟨by simp [ctp, b2z, g7, g13], rfl⟩
    · have g14 : decide (p 0 = 10) = false := decide_eq_false (by omega)
      refine e_aload_n X d_VT_clipIsTyping_24 rfl ?_
      refine e_get X d_VT_clipIsTyping_25 fl_VT_21 c0 (by omega) rfl ?_
      refine z_iconst X d_VT_clipIsTyping_28 ?_
      refine z_callV_I X d_VT_clipIsTyping_29 cv_VT_163 (c_Row_at (a := 0) hV.2.2.1 (by omega) (by omega)) c3 (by omega) rfl rfl ⟨rfl, rfl⟩ rfl (fun z17 h15 hp16 => ?_)
      obtain ⟨rfl, hh18⟩ := hp16
      rw [hh18]
      refine z_top (show _ = (p 0) from rfl) ?_
      refine z_bipush X d_VT_clipIsTyping_32 (by decide) ?_
      refine z_icmp_eq (tgt := 41) X d_VT_clipIsTyping_34 (by decide) (by omega) (fun q19 => ?_) (fun q19 => ?_)
      · have g20 : decide (p 0 = 13) = true := decide_eq_true (by omega)
        refine z_iconst X d_VT_clipIsTyping_41 ?_
        exact z_ireturn X Q d_VT_clipIsTyping_42 rfl ⟨by simp [ctp, b2z, g7, g14, g20], rfl⟩
      · have g21 : decide (p 0 = 13) = false := decide_eq_false (by omega)
        refine z_iconst X d_VT_clipIsTyping_37 ?_
        refine e_goto (tgt := 42) X d_VT_clipIsTyping_38 (by decide) ?_
        exact z_ireturn X Q d_VT_clipIsTyping_42 rfl ⟨by simp [ctp, b2z, g7, g14, g21], rfl⟩

def fre (m : Int) (n : Nat) (t : Nat → Int) (a : Int) : Bool := !(decide (a < ((n : Nat) : Int)) && !bg m n t a.toNat)
def ced (m : Int) (n : Nat) (t : Nat → Int) (a b : Int) : Bool := decide (0 ≤ a ∧ a ≤ b ∧ b ≤ ((n : Nat) : Int)) && (fre m n t a && fre m n t b)
set_option maxRecDepth 100000 in
set_option maxHeartbeats 4000000 in
theorem c_VT_canEdit {l : Launch} {G : lx_G} {N : Nat} {h : Nat → va_E} {n : Nat} {t : Nat → Int} {now last : Nat} {T : Nat → tx_T} {c : Nat} {p : Nat → Int} {kp : Nat → Bool} {V : Nat → tx_T} {g o en : Int} {a b : Int} (hV : VT G h n t now last T c p kp V g o en) (hN : 42 ≤ N) (hr_a : -2147483648 ≤ a ∧ a < 2147483648) (hr_b : -2147483648 ≤ b ∧ b < 2147483648) : CtI l G m_VT_canEdit N [.ref (ad (g_b G) 0), vI (a), vI (b)] h (fun z h' => z = b2z (ced g n t a b) ∧ VT G h' n t now last T c p kp V g o en ∧ (∀ q, 42 ≤ q → h' q = h q)) := by
  refine zI_of (by decide) rfl rfl ?_
  intro k X Q
  have X : Cx k G R_VT b_VT_canEdit 3 rm_VT_canEdit := X
  have Q : Rt k G (some (.boolean)) N 0 0 (pI (fun z h' => z = b2z (ced g n t a b) ∧ VT G h' n t now last T c p kp V g o en ∧ (∀ q, 42 ≤ q → h' q = h q))) := Q
  show Ev k G 3 N 0 0 h 0 [some (.ref (ad (g_b G) 0)), some (vI (a)), some (vI (b))] []
  have c0 := hV.1
  have c5 := hV.2.2.2.1
  obtain ⟨_, _, _, _, _, _, _, c35, -⟩ := id (hV.2.2.2.2.2.2.2.2.1)
  refine e_aload_n X d_VT_canEdit_0 rfl ?_
  refine e_get X d_VT_canEdit_1 fl_VT_14 c0 (by omega) rfl ?_
  refine z_iload_n X d_VT_canEdit_4 rfl ?_
  refine z_callS_I X d_VT_canEdit_5 cs_VT_137 (c_VT_isPlace hV.2.1 (by omega) hr_a) rfl rfl ⟨rfl, rfl⟩ rfl (fun z3 h1 hp2 => ?_)
  obtain ⟨rfl, hh4⟩ := hp2
  rw [hh4]
  refine z_if_eq (tgt := 27) X d_VT_canEdit_8 (by decide) (b2z_r _) (fun q1 => ?_) (fun q1 => ?_)
  · refine z_iconst X d_VT_canEdit_27 ?_
    have g1 := b2z_eq q1
    simp at g1
    exact z_ireturn X Q d_VT_canEdit_28 rfl ⟨(b2z_f (by unfold ced; rw [decide_eq_false (by omega)]; rfl)).symm, hV, fun q _ => rfl⟩
  · have g1 := b2z_ne q1
    simp at g1
    refine e_aload_n X d_VT_canEdit_11 rfl ?_
    refine e_get X d_VT_canEdit_12 fl_VT_14 c0 (by omega) rfl ?_
    refine z_iload_n X d_VT_canEdit_15 rfl ?_
    refine z_callS_I X d_VT_canEdit_16 cs_VT_137 (c_VT_isPlace hV.2.1 (by omega) hr_b) rfl rfl ⟨rfl, rfl⟩ rfl (fun z7 h5 hp6 => ?_)
    obtain ⟨rfl, hh8⟩ := hp6
    rw [hh8]
    refine z_if_eq (tgt := 27) X d_VT_canEdit_19 (by decide) (b2z_r _) (fun q2 => ?_) (fun q2 => ?_)
    · refine z_iconst X d_VT_canEdit_27 ?_
      have g2 := b2z_eq q2
      simp at g2
      exact z_ireturn X Q d_VT_canEdit_28 rfl ⟨(b2z_f (by unfold ced; rw [decide_eq_false (by omega)]; rfl)).symm, hV, fun q _ => rfl⟩
    · have g2 := b2z_ne q2
      simp at g2
      refine z_iload_n X d_VT_canEdit_22 rfl ?_
      refine z_iload_n X d_VT_canEdit_23 rfl ?_
      refine z_icmp_le (tgt := 29) X d_VT_canEdit_24 (by decide) (by omega) (fun q3 => ?_) (fun q3 => ?_)
      · obtain ⟨i, rfl⟩ : ∃ i : Nat, a = (i : Int) := ⟨a.toNat, by omega⟩
        obtain ⟨j, rfl⟩ : ∃ j : Nat, b = (j : Int) := ⟨b.toNat, by omega⟩
        have hle := hV.2.1.le
        have hgg := hV.2.2.2.2.2.2.2.2.2.2.1
        refine e_aload_n X d_VT_canEdit_29 rfl ?_
        refine e_get X d_VT_canEdit_30 fl_VT_45 c0 (by omega) rfl ?_
        refine e_aload_n X d_VT_canEdit_33 rfl ?_
        refine e_get X d_VT_canEdit_34 fl_VT_14 c0 (by omega) rfl ?_
        refine e_aload_n X d_VT_canEdit_37 rfl ?_
        refine e_get X d_VT_canEdit_38 fl_VT_56 c0 (by omega) rfl ?_
        refine z_callV_V X d_VT_canEdit_41 cv_VT_127 (c_Itm_measure hV.2.2.2.2.2.2.2.2.1 (by omega) hV.2.1 (by omega) (by omega) (by omega)) c35 (by omega) rfl rfl ⟨rfl, rfl⟩ rfl (fun h9 hp10 => ?_)
        obtain ⟨hM, hMf⟩ := hp10
        have hV2 := hV.items hM.its (fun q q9 => hMf q (by omega) (by omega) (by omega))
        have c0b := hV2.1
        have c5b := hV2.2.2.2.1
        obtain ⟨_, _, _, _, _, _, _, c35b, -⟩ := id (hV2.2.2.2.2.2.2.2.2.1)
        refine e_aload_n X d_VT_canEdit_44 rfl ?_
        refine e_get X d_VT_canEdit_45 fl_VT_45 c0b (by omega) rfl ?_
        refine z_iload_n X d_VT_canEdit_48 rfl ?_
        have hfi : ∀ i : Nat, fre g n t ((i : Nat) : Int) = !(decide (i < n) && !bg g n t i) := by intro i; unfold fre; rw [show ((i : Nat) : Int).toNat = i from rfl, decide_eq_decide.mpr (show ((i : Nat) : Int) < ((n : Nat) : Int) ↔ i < n by omega)]
        have hok : decide (0 ≤ ((i : Nat) : Int) ∧ ((i : Nat) : Int) ≤ ((j : Nat) : Int) ∧ ((j : Nat) : Int) ≤ ((n : Nat) : Int)) = true := decide_eq_true (by omega)
        refine z_callV_I X d_VT_canEdit_49 cv_VT_160 (c_Itm_isInside hM (by omega) hle hV.2.1.ok (by omega) (by omega)) c35b (by omega) rfl rfl ⟨rfl, rfl⟩ rfl (fun z14 h12 hp13 => ?_)
        obtain ⟨rfl, hh15⟩ := hp13
        rw [hh15]
        refine z_if_ne (tgt := 70) X d_VT_canEdit_52 (by decide) (b2z_r _) (fun q4 => ?_) (fun q4 => ?_)
        · refine z_iconst X d_VT_canEdit_70 ?_
          exact z_ireturn X Q d_VT_canEdit_71 rfl ⟨(b2z_f (by unfold ced; rw [hok, hfi i, b2z_ne q4]; rfl)).symm, hV2, fun q q9 => hMf q (by omega) (by omega) (by omega)⟩
        · refine e_aload_n X d_VT_canEdit_55 rfl ?_
          refine e_get X d_VT_canEdit_56 fl_VT_45 c0b (by omega) rfl ?_
          refine z_iload_n X d_VT_canEdit_59 rfl ?_
          refine z_callV_I X d_VT_canEdit_60 cv_VT_160 (c_Itm_isInside hM (by omega) hle hV.2.1.ok (by omega) (by omega)) c35b (by omega) rfl rfl ⟨rfl, rfl⟩ rfl (fun z18 h16 hp17 => ?_)
          obtain ⟨rfl, hh19⟩ := hp17
          rw [hh19]
          refine z_if_ne (tgt := 70) X d_VT_canEdit_63 (by decide) (b2z_r _) (fun q5 => ?_) (fun q5 => ?_)
          · refine z_iconst X d_VT_canEdit_70 ?_
            exact z_ireturn X Q d_VT_canEdit_71 rfl ⟨(b2z_f (by unfold ced; rw [hok, hfi i, hfi j, b2z_eq q4, b2z_ne q5]; rfl)).symm, hV2, fun q q9 => hMf q (by omega) (by omega) (by omega)⟩
          · refine z_iconst X d_VT_canEdit_66 ?_
            refine e_goto (tgt := 71) X d_VT_canEdit_67 (by decide) ?_
            exact z_ireturn X Q d_VT_canEdit_71 rfl ⟨(b2z_t (by unfold ced; rw [hok, hfi i, hfi j, b2z_eq q4, b2z_eq q5]; rfl)).symm, hV2, fun q q9 => hMf q (by omega) (by omega) (by omega)⟩
      · refine z_iconst X d_VT_canEdit_27 ?_
        exact z_ireturn X Q d_VT_canEdit_28 rfl ⟨(b2z_f (by unfold ced; rw [decide_eq_false (by omega)]; rfl)).symm, hV, fun q _ => rfl⟩

def ctk (m : Int) (n : Nat) (t : Nat → Int) (c : Nat) (a b : Int) : Bool := decide (0 < c) && (ced m n t a b && decide (((n : Nat) : Int) - (b - a) + ((c : Nat) : Int) ≤ 160))
theorem ced_rg {m : Int} {n : Nat} {t : Nat → Int} {a b : Int} (h : ced m n t a b = true) : 0 ≤ a ∧ a ≤ b ∧ b ≤ ((n : Nat) : Int) := by
  simp only [ced, Bool.and_eq_true, decide_eq_true_eq] at h
  exact h.1
set_option maxRecDepth 100000 in
set_option maxHeartbeats 4000000 in
theorem c_VT_canTakeClip {l : Launch} {G : lx_G} {N : Nat} {h : Nat → va_E} {n : Nat} {t : Nat → Int} {now last : Nat} {T : Nat → tx_T} {c : Nat} {p : Nat → Int} {kp : Nat → Bool} {V : Nat → tx_T} {g o en : Int} {a b : Int} (hV : VT G h n t now last T c p kp V g o en) (hN : 42 ≤ N) (hr_a : -2147483648 ≤ a ∧ a < 2147483648) (hr_b : -2147483648 ≤ b ∧ b < 2147483648) : CtI l G m_VT_canTakeClip N [.ref (ad (g_b G) 0), vI (a), vI (b)] h (fun z h' => z = b2z (ctk g n t c a b) ∧ VT G h' n t now last T c p kp V g o en ∧ (∀ q, 42 ≤ q → h' q = h q)) := by
  refine zI_of (by decide) rfl rfl ?_
  intro k X Q
  have X : Cx k G R_VT b_VT_canTakeClip 3 rm_VT_canTakeClip := X
  have Q : Rt k G (some (.boolean)) N 0 0 (pI (fun z h' => z = b2z (ctk g n t c a b) ∧ VT G h' n t now last T c p kp V g o en ∧ (∀ q, 42 ≤ q → h' q = h q))) := Q
  show Ev k G 3 N 0 0 h 0 [some (.ref (ad (g_b G) 0)), some (vI (a)), some (vI (b))] []
  have c0 := hV.1
  have c5 := hV.2.2.2.1
  obtain ⟨_, c3, -⟩ := id (hV.2.2.1)
  have hcl := hV.2.2.1.le
  have hle := hV.2.1.le
  refine e_aload_n X d_VT_canTakeClip_0 rfl ?_
  refine e_get X d_VT_canTakeClip_1 fl_VT_21 c0 (by omega) rfl ?_
  refine z_callV_I X d_VT_canTakeClip_4 cv_VT_67 (c_Row_length hV.2.2.1 (by omega)) c3 (by omega) rfl rfl ⟨rfl, rfl⟩ rfl (fun z3 h1 hp2 => ?_)
  obtain ⟨rfl, hh4⟩ := hp2
  rw [hh4]
  refine z_if_le (tgt := 50) X d_VT_canTakeClip_7 (by decide) (by omega) (fun q1 => ?_) (fun q1 => ?_)
  · refine z_iconst X d_VT_canTakeClip_50 ?_
    exact z_ireturn X Q d_VT_canTakeClip_51 rfl ⟨(b2z_f (by unfold ctk; rw [decide_eq_false (show ¬ 0 < c by omega)]; rfl)).symm, hV, fun q _ => rfl⟩
  · refine e_aload_n X d_VT_canTakeClip_10 rfl ?_
    refine z_iload_n X d_VT_canTakeClip_11 rfl ?_
    refine z_iload_n X d_VT_canTakeClip_12 rfl ?_
    refine z_callV_I X d_VT_canTakeClip_13 cv_VT_94 (c_VT_canEdit hV hN hr_a hr_b) c0 (by omega) rfl rfl ⟨rfl, rfl⟩ rfl (fun z7 h5 hp6 => ?_)
    obtain ⟨rfl, hV2, hf2⟩ := hp6
    have c0b := hV2.1
    have c5b := hV2.2.2.2.1
    obtain ⟨_, c3b, -⟩ := id (hV2.2.2.1)
    have hc9 : decide (0 < c) = true := decide_eq_true (by omega)
    refine z_if_eq (tgt := 50) X d_VT_canTakeClip_16 (by decide) (b2z_r _) (fun q2 => ?_) (fun q2 => ?_)
    · refine z_iconst X d_VT_canTakeClip_50 ?_
      exact z_ireturn X Q d_VT_canTakeClip_51 rfl ⟨(b2z_f (by unfold ctk; rw [b2z_eq q2]; simp)).symm, hV2, hf2⟩
    · have hrg := ced_rg (b2z_ne q2)
      refine e_aload_n X d_VT_canTakeClip_19 rfl ?_
      refine e_get X d_VT_canTakeClip_20 fl_VT_14 c0b (by omega) rfl ?_
      refine z_Tlen X d_VT_canTakeClip_23 cf_VT_159_Row cf_VT_159_Gap hV2.2.1 (by omega) rfl ?_
      refine z_iload_n X d_VT_canTakeClip_28 rfl ?_
      refine z_iload_n X d_VT_canTakeClip_29 rfl ?_
      refine z_isub X d_VT_canTakeClip_30 ?_
      refine z_isub X d_VT_canTakeClip_31 ?_
      refine e_aload_n X d_VT_canTakeClip_32 rfl ?_
      refine e_get X d_VT_canTakeClip_33 fl_VT_21 c0b (by omega) rfl ?_
      refine z_callV_I X d_VT_canTakeClip_36 cv_VT_67 (c_Row_length hV2.2.2.1 (by omega)) c3b (by omega) rfl rfl ⟨rfl, rfl⟩ rfl (fun z10 h8 hp9 => ?_)
      obtain ⟨rfl, hh11⟩ := hp9
      rw [hh11]
      refine z_iadd X d_VT_canTakeClip_39 ?_
      refine z_sipush X d_VT_canTakeClip_40 (by decide) ?_
      refine z_icmp_gt (tgt := 50) X d_VT_canTakeClip_43 (by decide) (by omega) (fun q3 => ?_) (fun q3 => ?_)
      · refine z_iconst X d_VT_canTakeClip_50 ?_
        exact z_ireturn X Q d_VT_canTakeClip_51 rfl ⟨(b2z_f (by unfold ctk; rw [decide_eq_false (show ¬ ((n : Nat) : Int) - (b - a) + ((c : Nat) : Int) ≤ 160 by omega)]; simp)).symm, hV2, hf2⟩
      · refine z_iconst X d_VT_canTakeClip_46 ?_
        refine e_goto (tgt := 51) X d_VT_canTakeClip_47 (by decide) ?_
        exact z_ireturn X Q d_VT_canTakeClip_51 rfl ⟨(b2z_t (by unfold ctk; rw [hc9, b2z_ne q2, decide_eq_true (show ((n : Nat) : Int) - (b - a) + ((c : Nat) : Int) ≤ 160 by omega)]; rfl)).symm, hV2, hf2⟩

set_option maxRecDepth 100000 in
set_option maxHeartbeats 4000000 in
theorem c_VT_addClosedStep {l : Launch} {G : lx_G} {N : Nat} {h : Nat → va_E} {n : Nat} {t : Nat → Int} {now last : Nat} {T : Nat → tx_T} {c : Nat} {p : Nat → Int} {kp : Nat → Bool} {V : Nat → tx_T} {g o en : Int} (hV : VT G h n t now last T c p kp V g o en) (hN : 42 ≤ N) : CtV l G m_VT_addClosedStep N [.ref (ad (g_b G) 0)] h (fun h' => VT G h' n t (hp_now now) (hp_now now) (hp_T now T (n, t)) c p kp V g (-1) en ∧ (∀ q, 42 ≤ q → h' q = h q)) := by
  refine zV_of (by decide) rfl rfl ?_
  intro k X Q
  have X : Cx k G R_VT b_VT_addClosedStep 1 rm_VT_addClosedStep := X
  have Q : Rt k G none N 0 0 (pV (fun h' => VT G h' n t (hp_now now) (hp_now now) (hp_T now T (n, t)) c p kp V g (-1) en ∧ (∀ q, 42 ≤ q → h' q = h q))) := Q
  show Ev k G 1 N 0 0 h 0 [some (.ref (ad (g_b G) 0))] []
  have c0 := hV.1
  have c5 := hV.2.2.2.1
  obtain ⟨_, c15, -⟩ := id (hV.2.2.2.2.2.2.2.1)
  refine e_aload_n X d_VT_addClosedStep_0 rfl ?_
  refine e_get X d_VT_addClosedStep_1 fl_VT_38 c0 (by omega) rfl ?_
  refine e_aload_n X d_VT_addClosedStep_4 rfl ?_
  refine e_get X d_VT_addClosedStep_5 fl_VT_14 c0 (by omega) rfl ?_
  refine z_callV_V X d_VT_addClosedStep_8 cv_VT_91 (c_His_addStep hV.2.2.2.2.2.2.2.1 (by omega) hV.2.1 (by omega) (by omega)) c15 (by omega) rfl rfl ⟨rfl, rfl⟩ rfl (fun h1 hp2 => ?_)
  obtain ⟨hH, hHf⟩ := hp2
  have hV2 := hV.hist hH (fun q q9 => hHf q q9)
  have c0b := hV2.1
  have c5b := hV2.2.2.2.1
  refine e_aload_n X d_VT_addClosedStep_11 rfl ?_
  refine z_iconst X d_VT_addClosedStep_12 ?_
  refine z_put X d_VT_addClosedStep_13 fl_VT_60 c0b (by omega) (Nat.le_of_ble_eq_true rfl) rfl rfl (fun h4 c5 fr6 => ?_)
  have c5 : h4 0 = ob ci_VT [.ref (ad (g_b G) 1), .ref (ad (g_b G) 3), .ref (ad (g_b G) 5), .ref (ad (g_b G) 6), .ref (ad (g_b G) 15), .ref (ad (g_b G) 35), .ref (ad (g_b G) 38), vI (g), vI (-1)] := c5
  have c7 := (fr6 5 (by omega)).trans c5b
  exact z_return X Q d_VT_addClosedStep_16 ⟨hV2.obj c5 hV.2.2.2.2.2.2.2.2.2.2.1 (by omega) (fun q q9 => fr6 q q9), fun q q9 => (fr6 q (by omega)).trans (hHf q (by omega))⟩

