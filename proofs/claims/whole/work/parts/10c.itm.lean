def Its (G : lx_G) (h : Nat → va_E) (I : Nat) : Prop := ∃ (num len met : Int) (f : Nat → Int) (v1 v2 : Int) (v3 : Nat), ItC G h I num len met f v1 v2 v3
/-- the Items I has measured the text t of n by the metric m -/
def Ms (G : lx_G) (h : Nat → va_E) (I : Nat) (m : Int) (n : Nat) (t : Nat → Int) : Prop := ∃ (f : Nat → Int) (v1 v2 : Int) (v3 : Nat), ItC G h I ((cnt (bg m n t) (n + 1) : Nat) : Int) (n : Int) m f v1 v2 v3 ∧ sel (bg m n t) (n + 1) f
theorem Its.fr {G : lx_G} {h h' : Nat → va_E} {I : Nat} (hT : Its G h I) (e : ∀ q, I ≤ q → q < I + 3 → h' q = h q) : Its G h' I := by
  obtain ⟨num, len, met, f, v1, v2, v3, h0, h1, h2⟩ := hT
  exact ⟨num, len, met, f, v1, v2, v3, (e I (by omega) (by omega)).trans h0, (e _ (by omega) (by omega)).trans h1, (e _ (by omega) (by omega)).trans h2⟩
theorem Ms.its {G : lx_G} {h : Nat → va_E} {I : Nat} {m : Int} {n : Nat} {t : Nat → Int} (hM : Ms G h I m n t) : Its G h I := by
  obtain ⟨f, v1, v2, v3, h0, -⟩ := hM
  exact ⟨_, _, _, f, v1, v2, v3, h0⟩
def it_place (m : Int) (n : Nat) (t : Nat → Int) (k : Int) : Int := if k < 0 ∨ ((cnt (bg m n t) (n + 1) : Nat) : Int) < k then -1 else if k = ((cnt (bg m n t) (n + 1) : Nat) : Int) then (n : Int) else nthp (bg m n t) (n + 1) k.toNat
def it_item (m : Int) (n : Nat) (t : Nat → Int) (p : Nat) : Int := if p = n ∧ ¬ m = 2 then ((cnt (bg m n t) (n + 1) : Nat) : Int) else ((cnt (bg m n t) (p + 1) - 1 : Nat) : Int)

set_option maxRecDepth 100000 in
set_option maxHeartbeats 4000000 in
theorem c_Itm_measure {l : Launch} {G : lx_G} {N : Nat} {h : Nat → va_E} {I e n : Nat} {m : Int} {t : Nat → Int} (hI : Its G h I) (hIN : I + 2 < N) (hT : Tx G h e n t) (heN : e + 1 < N) (hne : e + 1 < I ∨ I + 3 ≤ e) (hm : 0 ≤ m ∧ m ≤ 3) : CtV l G m_Itm_measure N [.ref (ad (g_b G) I), .ref (ad (g_b G) e), vI (m)] h (fun h' => Ms G h' I m n t ∧ ∀ q, q ≠ I → q ≠ I + 1 → q ≠ I + 2 → h' q = h q) := by
  obtain ⟨num, len, met, f0, v01, v02, v03, hc0, hc1, hc2⟩ := hI
  have ht := hT.ok
  have hle := hT.le
  refine zV_of (by decide) rfl rfl ?_
  intro k X Q
  have X : Cx k G R_Itm b_Itm_measure 4 rm_Itm_measure := X
  have Q : Rt k G none N 0 0 (pV (fun h' => Ms G h' I m n t ∧ ∀ q, q ≠ I → q ≠ I + 1 → q ≠ I + 2 → h' q = h q)) := Q
  show Ev k G 4 N 0 0 h 0 [some (.ref (ad (g_b G) I)), some (.ref (ad (g_b G) e)), some (vI (m)), none] []
  refine e_aload_n X d_Itm_measure_0 rfl ?_
  refine z_iconst X d_Itm_measure_1 ?_
  refine z_put X d_Itm_measure_2 fl_Itm_22 hc0 (by omega) (Nat.le_of_ble_eq_true rfl) rfl rfl (fun h1 c2 fr3 => ?_)
  have c2 : h1 I = ob ci_Itm [.ref (ad (g_b G) (I + 1)), .ref (ad (g_b G) (I + 2)), vI 0, vI (len), vI (met)] := c2
  have c4 := (fr3 (I + 1) (by omega)).trans hc1
  have c5 := (fr3 (I + 2) (by omega)).trans hc2
  refine e_aload_n X d_Itm_measure_5 rfl ?_
  refine e_aload_n X d_Itm_measure_6 rfl ?_
  have hT1 : Tx G h1 e n t := hT.fr (fr3 _ (by omega)) (fr3 _ (by omega))
  refine z_Tlen X d_Itm_measure_7 cf_Itm_32_Row cf_Itm_32_Gap hT1 (by omega) rfl ?_
  refine z_put X d_Itm_measure_12 fl_Itm_26 c2 (by omega) (Nat.le_of_ble_eq_true rfl) rfl rfl (fun h6 c7 fr8 => ?_)
  have c7 : h6 I = ob ci_Itm [.ref (ad (g_b G) (I + 1)), .ref (ad (g_b G) (I + 2)), vI 0, vI ((n : Nat) : Int), vI (met)] := c7
  have c9 := (fr8 (I + 1) (by omega)).trans c4
  have c10 := (fr8 (I + 2) (by omega)).trans c5
  refine e_aload_n X d_Itm_measure_15 rfl ?_
  refine z_iload_n X d_Itm_measure_16 rfl ?_
  refine z_put X d_Itm_measure_17 fl_Itm_29 c7 (by omega) (Nat.le_of_ble_eq_true rfl) rfl rfl (fun h11 c12 fr13 => ?_)
  have c12 : h11 I = ob ci_Itm [.ref (ad (g_b G) (I + 1)), .ref (ad (g_b G) (I + 2)), vI 0, vI ((n : Nat) : Int), vI (m)] := c12
  have c14 := (fr13 (I + 1) (by omega)).trans c9
  have c15 := (fr13 (I + 2) (by omega)).trans c10
  refine e_aload_n X d_Itm_measure_20 rfl ?_
  refine e_get X d_Itm_measure_21 fl_Itm_18 c12 (by omega) rfl ?_
  refine z_callV_V X d_Itm_measure_24 cv_Itm_37 (c_Clu_restart c15 (by omega)) c15 (by omega) rfl rfl ⟨rfl, rfl⟩ rfl (fun h16 hp17 => ?_)
  obtain ⟨hr0, hrf⟩ := hp17
  have c19 := (hrf I (by omega)).trans c12
  have c20 := (hrf (I + 1) (by omega)).trans c14
  refine z_iconst X d_Itm_measure_27 ?_
  refine e_istore_n X d_Itm_measure_28 (by decide) ?_
  have loop : ∀ (d9 : Nat) (p : Nat) (f : Nat → Int) (v1 : Int) (v2 : Int) (v3 : Nat) (h2 : Nat → va_E), n + 1 - p < d9 → p ≤ n + 1 → ItC G h2 I ((cnt (bg m n t) p : Nat) : Int) (n : Int) m f v1 v2 v3 → sel (bg m n t) p f → (m = 3 → (v1, v2, v3) = wk t p) → (∀ q, q ≠ I → q ≠ I + 1 → q ≠ I + 2 → h2 q = h q) → Ev k G 4 N 0 0 h2 29 [some (.ref (ad (g_b G) I)), some (.ref (ad (g_b G) e)), some (vI (m)), some (vI ((p : Nat) : Int))] [] := by
    intro d9
    induction d9 with
    | zero =>
      intro p f v1 v2 v3 h2 hm9
      exact absurd hm9 (Nat.not_lt_zero _)
    | succ d9 ih =>
      intro p f v1 v2 v3 h2 hm9 hp hI2 hsel hv hf
      obtain ⟨e0, e1, e2⟩ := id hI2
      have hT2 : Tx G h2 e n t := hT.fr (hf _ (by omega) (by omega) (by omega)) (hf _ (by omega) (by omega) (by omega))
      have hcl := cnt_le (B := bg m n t) p
      refine z_iload_n X d_Itm_measure_29 rfl ?_
      refine e_aload_n X d_Itm_measure_30 rfl ?_
      refine e_get X d_Itm_measure_31 fl_Itm_26 e0 (by omega) rfl ?_
      refine z_icmp_gt (tgt := 72) X d_Itm_measure_34 (by decide) (by omega) (fun q1 => ?_) (fun q1 => ?_)
      · have hpe : p = n + 1 := by omega
        subst hpe
        exact z_return X Q d_Itm_measure_72 ⟨⟨f, v1, v2, v3, hI2, hsel⟩, hf⟩
      · refine e_aload_n X d_Itm_measure_37 rfl ?_
        refine e_aload_n X d_Itm_measure_38 rfl ?_
        refine z_iload_n X d_Itm_measure_39 rfl ?_
        refine z_callV_I X d_Itm_measure_40 cv_Itm_40 (c_Itm_begins hI2 (by omega) hT2 (by omega) (by omega) hm hv) e0 (by omega) rfl rfl ⟨rfl, rfl⟩ rfl (fun z23 h21 hp22 => ?_)
        obtain ⟨rfl, w1, w2, w3, hw0, hw1, hwf⟩ := hp22
        have c24 := (hwf I (by omega)).trans e0
        have c25 := (hwf (I + 1) (by omega)).trans e1
        refine z_if_eq (tgt := 66) X d_Itm_measure_43 (by decide) (b2z_r _) (fun q2 => ?_) (fun q2 => ?_)
        · have hb := b2z_eq q2
          refine z_iinc X d_Itm_measure_66 rfl (by decide) ?_
          refine e_goto (tgt := 29) X d_Itm_measure_69 (by decide) ?_
          exact ih (p + 1) _ w1 w2 w3 _ (by omega) (by omega) ⟨(by rw [cnt_f hb]; exact c24), c25, hw0⟩ (sel_f hsel hb) hw1 (fun q q1 q2 q3 => (hwf q q3).trans (hf q q1 q2 q3))
        · have hb := b2z_ne q2
          refine e_aload_n X d_Itm_measure_46 rfl ?_
          refine e_get X d_Itm_measure_47 fl_Itm_9 c24 (by omega) rfl ?_
          refine e_aload_n X d_Itm_measure_50 rfl ?_
          refine e_get X d_Itm_measure_51 fl_Itm_22 c24 (by omega) rfl ?_
          refine z_iload_n X d_Itm_measure_54 rfl ?_
          refine z_iast X d_Itm_measure_55 (j := (cnt (bg m n t) p)) c25 (by omega) (by omega) (by omega) (fun h26 c27 fr28 => ?_)
          have c29 := (fr28 I (by omega)).trans c24
          have c30 := (fr28 (I + 2) (by omega)).trans hw0
          refine e_aload_n X d_Itm_measure_56 rfl ?_
          refine e_dup X d_Itm_measure_57 rfl ?_
          refine e_get X d_Itm_measure_58 fl_Itm_22 c29 (by omega) rfl ?_
          refine z_iconst X d_Itm_measure_61 ?_
          refine z_iadd X d_Itm_measure_62 ?_
          refine z_top (show _ = ((cnt (bg m n t) p + 1 : Nat) : Int) by omega) ?_
          refine z_put X d_Itm_measure_63 fl_Itm_22 c29 (by omega) (Nat.le_of_ble_eq_true rfl) rfl rfl (fun h31 c32 fr33 => ?_)
          have c32 : h31 I = ob ci_Itm [.ref (ad (g_b G) (I + 1)), .ref (ad (g_b G) (I + 2)), vI ((cnt (bg m n t) p + 1 : Nat) : Int), vI ((n : Nat) : Int), vI (m)] := c32
          have c34 := (fr33 (I + 1) (by omega)).trans c27
          have c35 := (fr33 (I + 2) (by omega)).trans c30
          refine z_iinc X d_Itm_measure_66 rfl (by decide) ?_
          refine e_goto (tgt := 29) X d_Itm_measure_69 (by decide) ?_
          exact ih (p + 1) _ w1 w2 w3 _ (by omega) (by omega) ⟨(by rw [cnt_t hb]; exact c32), c34, c35⟩ (sel_t hsel hb) hw1 (fun q q1 q2 q3 => (fr33 q q1).trans ((fr28 q q2).trans ((hwf q q3).trans (hf q q1 q2 q3))))
  exact loop _ 0 f0 (-1) (-1) 0 _ (Nat.lt_succ_self _) (Nat.zero_le _) ⟨c19, c20, hr0⟩ (fun q hq => absurd hq (Nat.not_lt_zero _)) (fun _ => rfl) (fun q q1 q2 q3 => (hrf q q3).trans ((fr13 q q1).trans ((fr8 q q1).trans (fr3 q q1))))

set_option maxRecDepth 100000 in
set_option maxHeartbeats 4000000 in
theorem c_Itm_number {l : Launch} {G : lx_G} {N : Nat} {h : Nat → va_E} {I n : Nat} {m : Int} {t : Nat → Int} (hM : Ms G h I m n t) (hIN : I + 2 < N) (hn : n ≤ 160) : CtI l G m_Itm_number N [.ref (ad (g_b G) I)] h (fun z h' => z = ((cnt (bg m n t) (n + 1) : Nat) : Int) ∧ h' = h) := by
  have hM9 := hM
  obtain ⟨f, v1, v2, v3, ⟨hc0, hc1, hc2⟩, hsel⟩ := hM
  have hcl := cnt_le (B := bg m n t) (n + 1)
  refine zI_of (by decide) rfl rfl ?_
  intro k X Q
  have X : Cx k G R_Itm b_Itm_number 1 rm_Itm_number := X
  have Q : Rt k G (some (.int)) N 0 0 (pI (fun z h' => z = ((cnt (bg m n t) (n + 1) : Nat) : Int) ∧ h' = h)) := Q
  show Ev k G 1 N 0 0 h 0 [some (.ref (ad (g_b G) I))] []
  refine e_aload_n X d_Itm_number_0 rfl ?_
  refine e_get X d_Itm_number_1 fl_Itm_22 hc0 (by omega) rfl ?_
  exact z_ireturn X Q d_Itm_number_4 rfl ⟨rfl, rfl⟩

set_option maxRecDepth 100000 in
set_option maxHeartbeats 4000000 in
theorem c_Itm_beginningOf {l : Launch} {G : lx_G} {N : Nat} {h : Nat → va_E} {I n : Nat} {m : Int} {t : Nat → Int} {a : Int} (hM : Ms G h I m n t) (hIN : I + 2 < N) (hn : n ≤ 160) (ha : -2147483648 ≤ a ∧ a < 2147483648) : CtI l G m_Itm_beginningOf N [.ref (ad (g_b G) I), vI (a)] h (fun z h' => z = it_place m n t a ∧ h' = h) := by
  have hM9 := hM
  obtain ⟨f, v1, v2, v3, ⟨hc0, hc1, hc2⟩, hsel⟩ := hM
  have hcl := cnt_le (B := bg m n t) (n + 1)
  refine zI_of (by decide) rfl rfl ?_
  intro k X Q
  have X : Cx k G R_Itm b_Itm_beginningOf 2 rm_Itm_beginningOf := X
  have Q : Rt k G (some (.int)) N 0 0 (pI (fun z h' => z = it_place m n t a ∧ h' = h)) := Q
  show Ev k G 2 N 0 0 h 0 [some (.ref (ad (g_b G) I)), some (vI (a))] []
  refine z_iload_n X d_Itm_beginningOf_0 rfl ?_
  refine z_if_lt (tgt := 12) X d_Itm_beginningOf_1 (by decide) (by omega) (fun q1 => ?_) (fun q1 => ?_)
  · refine z_iconst X d_Itm_beginningOf_12 ?_
    exact z_ireturn X Q d_Itm_beginningOf_13 rfl ⟨by unfold it_place; rw [if_pos (Or.inl q1)], rfl⟩
  · refine z_iload_n X d_Itm_beginningOf_4 rfl ?_
    refine e_aload_n X d_Itm_beginningOf_5 rfl ?_
    refine e_get X d_Itm_beginningOf_6 fl_Itm_22 hc0 (by omega) rfl ?_
    refine z_icmp_le (tgt := 14) X d_Itm_beginningOf_9 (by decide) (by omega) (fun q2 => ?_) (fun q2 => ?_)
    · refine z_iload_n X d_Itm_beginningOf_14 rfl ?_
      refine e_aload_n X d_Itm_beginningOf_15 rfl ?_
      refine e_get X d_Itm_beginningOf_16 fl_Itm_22 hc0 (by omega) rfl ?_
      refine z_icmp_ne (tgt := 29) X d_Itm_beginningOf_19 (by decide) (by omega) (fun q3 => ?_) (fun q3 => ?_)
      · obtain ⟨j, rfl⟩ : ∃ j : Nat, a = (j : Int) := ⟨a.toNat, by omega⟩
        refine e_aload_n X d_Itm_beginningOf_29 rfl ?_
        refine e_get X d_Itm_beginningOf_30 fl_Itm_9 hc0 (by omega) rfl ?_
        refine z_iload_n X d_Itm_beginningOf_33 rfl ?_
        refine z_iald X d_Itm_beginningOf_34 (j := j) hc1 (by omega) (by omega) (by omega) ?_
        exact z_ireturn X Q d_Itm_beginningOf_35 rfl ⟨by unfold it_place; rw [if_neg (by omega), if_neg q3]; exact sel_nth hsel (by omega), rfl⟩
      · refine e_aload_n X d_Itm_beginningOf_22 rfl ?_
        refine e_get X d_Itm_beginningOf_23 fl_Itm_26 hc0 (by omega) rfl ?_
        refine e_goto (tgt := 35) X d_Itm_beginningOf_26 (by decide) ?_
        exact z_ireturn X Q d_Itm_beginningOf_35 rfl ⟨by unfold it_place; rw [if_neg (by omega), if_pos q3], rfl⟩
    · refine z_iconst X d_Itm_beginningOf_12 ?_
      exact z_ireturn X Q d_Itm_beginningOf_13 rfl ⟨by unfold it_place; rw [if_pos (Or.inr q2)], rfl⟩

set_option maxRecDepth 100000 in
set_option maxHeartbeats 4000000 in
theorem c_Itm_having {l : Launch} {G : lx_G} {N : Nat} {h : Nat → va_E} {I n : Nat} {m : Int} {t : Nat → Int} {p : Nat} (hM : Ms G h I m n t) (hIN : I + 2 < N) (hn : n ≤ 160) (ht : tx_ok n t) (hp : p ≤ n) (hm : 0 ≤ m ∧ m ≤ 3) : CtI l G m_Itm_having N [.ref (ad (g_b G) I), vI ((p : Nat) : Int)] h (fun z h' => z = it_item m n t p ∧ h' = h) := by
  have hM9 := hM
  obtain ⟨f, v1, v2, v3, ⟨hc0, hc1, hc2⟩, hsel⟩ := hM
  have hcl := cnt_le (B := bg m n t) (n + 1)
  refine zI_of (by decide) rfl rfl ?_
  intro k X Q
  have X : Cx k G R_Itm b_Itm_having 3 rm_Itm_having := X
  have Q : Rt k G (some (.int)) N 0 0 (pI (fun z h' => z = it_item m n t p ∧ h' = h)) := Q
  show Ev k G 3 N 0 0 h 0 [some (.ref (ad (g_b G) I)), some (vI ((p : Nat) : Int)), none] []
  refine z_iload_n X d_Itm_having_0 rfl ?_
  refine e_aload_n X d_Itm_having_1 rfl ?_
  refine e_get X d_Itm_having_2 fl_Itm_26 hc0 (by omega) rfl ?_
  refine z_icmp_ne (tgt := 21) X d_Itm_having_5 (by decide) (by omega) (fun q1 => ?_) (fun q1 => ?_)
  · have h0 : bg m n t 0 = true := bg_zero ht (by omega)
    have hc := cnt_pos h0 p
    have hc2 := cnt_mono (B := bg m n t) (show p + 1 ≤ n + 1 by omega)
    have hit : it_item m n t p = ((cnt (bg m n t) (p + 1) - 1 : Nat) : Int) := if_neg (by omega)
    refine e_aload_n X d_Itm_having_21 rfl ?_
    refine e_get X d_Itm_having_22 fl_Itm_22 hc0 (by omega) rfl ?_
    refine z_iconst X d_Itm_having_25 ?_
    refine z_isub X d_Itm_having_26 ?_
    refine z_top (show _ = ((cnt (bg m n t) (n + 1) - 1 : Nat) : Int) by omega) ?_
    refine e_istore_n X d_Itm_having_27 (by decide) ?_
    have loop : ∀ (d9 : Nat) (k9 : Nat), k9 < d9 → cnt (bg m n t) (p + 1) - 1 ≤ k9 → k9 < cnt (bg m n t) (n + 1) → Ev k G 3 N 0 0 h 28 [some (.ref (ad (g_b G) I)), some (vI ((p : Nat) : Int)), some (vI ((k9 : Nat) : Int))] [] := by
      intro d9
      induction d9 with
      | zero =>
        intro k9 hm9
        exact absurd hm9 (Nat.not_lt_zero _)
      | succ d9 ih =>
        intro k9 hm9 hk1 hk2
        refine z_iload_n X d_Itm_having_28 rfl ?_
        refine z_if_le (tgt := 48) X d_Itm_having_29 (by decide) (by omega) (fun q5 => ?_) (fun q5 => ?_)
        · refine z_iload_n X d_Itm_having_48 rfl ?_
          exact z_ireturn X Q d_Itm_having_49 rfl ⟨by rw [hit]; omega, rfl⟩
        · have hrg := sel_rg hsel hk2
          have hgt := sel_gt (p := p) hsel hk2
          refine e_aload_n X d_Itm_having_32 rfl ?_
          refine e_get X d_Itm_having_33 fl_Itm_9 hc0 (by omega) rfl ?_
          refine z_iload_n X d_Itm_having_36 rfl ?_
          refine z_iald X d_Itm_having_37 (j := k9) hc1 (by omega) (by omega) (by omega) ?_
          refine z_iload_n X d_Itm_having_38 rfl ?_
          refine z_icmp_le (tgt := 48) X d_Itm_having_39 (by decide) (by omega) (fun q6 => ?_) (fun q6 => ?_)
          · refine z_iload_n X d_Itm_having_48 rfl ?_
            have hk3 : ¬ cnt (bg m n t) (p + 1) ≤ k9 := fun q9 => absurd (hgt.mpr q9) (by omega)
            exact z_ireturn X Q d_Itm_having_49 rfl ⟨by rw [hit]; omega, rfl⟩
          · refine z_iinc X d_Itm_having_42 rfl (by decide) ?_
            refine e_goto (tgt := 28) X d_Itm_having_45 (by decide) ?_
            have hk3 := hgt.mp q6
            rw [show ((k9 : Nat) : Int) + (-1) = ((k9 - 1 : Nat) : Int) by omega]
            exact ih (k9 - 1) (by omega) (by omega) (by omega)
    exact loop _ _ (Nat.lt_succ_self _) (by omega) (by omega)
  · refine e_aload_n X d_Itm_having_8 rfl ?_
    refine e_get X d_Itm_having_9 fl_Itm_29 hc0 (by omega) rfl ?_
    refine z_iconst X d_Itm_having_12 ?_
    refine z_icmp_eq (tgt := 21) X d_Itm_having_13 (by decide) (by omega) (fun q2 => ?_) (fun q2 => ?_)
    · have h0 : bg m n t 0 = true := bg_zero ht (by omega)
      have hc := cnt_pos h0 p
      have hc2 := cnt_mono (B := bg m n t) (show p + 1 ≤ n + 1 by omega)
      have hit : it_item m n t p = ((cnt (bg m n t) (p + 1) - 1 : Nat) : Int) := if_neg (by omega)
      refine e_aload_n X d_Itm_having_21 rfl ?_
      refine e_get X d_Itm_having_22 fl_Itm_22 hc0 (by omega) rfl ?_
      refine z_iconst X d_Itm_having_25 ?_
      refine z_isub X d_Itm_having_26 ?_
      refine z_top (show _ = ((cnt (bg m n t) (n + 1) - 1 : Nat) : Int) by omega) ?_
      refine e_istore_n X d_Itm_having_27 (by decide) ?_
      have loop : ∀ (d9 : Nat) (k9 : Nat), k9 < d9 → cnt (bg m n t) (p + 1) - 1 ≤ k9 → k9 < cnt (bg m n t) (n + 1) → Ev k G 3 N 0 0 h 28 [some (.ref (ad (g_b G) I)), some (vI ((p : Nat) : Int)), some (vI ((k9 : Nat) : Int))] [] := by
        intro d9
        induction d9 with
        | zero =>
          intro k9 hm9
          exact absurd hm9 (Nat.not_lt_zero _)
        | succ d9 ih =>
          intro k9 hm9 hk1 hk2
          refine z_iload_n X d_Itm_having_28 rfl ?_
          refine z_if_le (tgt := 48) X d_Itm_having_29 (by decide) (by omega) (fun q5 => ?_) (fun q5 => ?_)
          · refine z_iload_n X d_Itm_having_48 rfl ?_
            exact z_ireturn X Q d_Itm_having_49 rfl ⟨by rw [hit]; omega, rfl⟩
          · have hrg := sel_rg hsel hk2
            have hgt := sel_gt (p := p) hsel hk2
            refine e_aload_n X d_Itm_having_32 rfl ?_
            refine e_get X d_Itm_having_33 fl_Itm_9 hc0 (by omega) rfl ?_
            refine z_iload_n X d_Itm_having_36 rfl ?_
            refine z_iald X d_Itm_having_37 (j := k9) hc1 (by omega) (by omega) (by omega) ?_
            refine z_iload_n X d_Itm_having_38 rfl ?_
            refine z_icmp_le (tgt := 48) X d_Itm_having_39 (by decide) (by omega) (fun q6 => ?_) (fun q6 => ?_)
            · refine z_iload_n X d_Itm_having_48 rfl ?_
              have hk3 : ¬ cnt (bg m n t) (p + 1) ≤ k9 := fun q9 => absurd (hgt.mpr q9) (by omega)
              exact z_ireturn X Q d_Itm_having_49 rfl ⟨by rw [hit]; omega, rfl⟩
            · refine z_iinc X d_Itm_having_42 rfl (by decide) ?_
              refine e_goto (tgt := 28) X d_Itm_having_45 (by decide) ?_
              have hk3 := hgt.mp q6
              rw [show ((k9 : Nat) : Int) + (-1) = ((k9 - 1 : Nat) : Int) by omega]
              exact ih (k9 - 1) (by omega) (by omega) (by omega)
      exact loop _ _ (Nat.lt_succ_self _) (by omega) (by omega)
    · refine e_aload_n X d_Itm_having_16 rfl ?_
      refine e_get X d_Itm_having_17 fl_Itm_22 hc0 (by omega) rfl ?_
      exact z_ireturn X Q d_Itm_having_20 rfl ⟨(if_pos ⟨by omega, q2⟩).symm, rfl⟩

set_option maxRecDepth 100000 in
set_option maxHeartbeats 4000000 in
theorem c_Itm_isInside {l : Launch} {G : lx_G} {N : Nat} {h : Nat → va_E} {I n : Nat} {m : Int} {t : Nat → Int} {p : Nat} (hM : Ms G h I m n t) (hIN : I + 2 < N) (hn : n ≤ 160) (ht : tx_ok n t) (hp : p ≤ n) (hm : 0 ≤ m ∧ m ≤ 3) : CtI l G m_Itm_isInside N [.ref (ad (g_b G) I), vI ((p : Nat) : Int)] h (fun z h' => z = b2z (decide (p < n) && !bg m n t p) ∧ h' = h) := by
  have hM9 := hM
  obtain ⟨f, v1, v2, v3, ⟨hc0, hc1, hc2⟩, hsel⟩ := hM
  have hcl := cnt_le (B := bg m n t) (n + 1)
  refine zI_of (by decide) rfl rfl ?_
  intro k X Q
  have X : Cx k G R_Itm b_Itm_isInside 2 rm_Itm_isInside := X
  have Q : Rt k G (some (.boolean)) N 0 0 (pI (fun z h' => z = b2z (decide (p < n) && !bg m n t p) ∧ h' = h)) := Q
  show Ev k G 2 N 0 0 h 0 [some (.ref (ad (g_b G) I)), some (vI ((p : Nat) : Int))] []
  refine z_iload_n X d_Itm_isInside_0 rfl ?_
  refine e_aload_n X d_Itm_isInside_1 rfl ?_
  refine e_get X d_Itm_isInside_2 fl_Itm_26 hc0 (by omega) rfl ?_
  refine z_icmp_ge (tgt := 26) X d_Itm_isInside_5 (by decide) (by omega) (fun q1 => ?_) (fun q1 => ?_)
  · refine z_iconst X d_Itm_isInside_26 ?_
    exact z_ireturn X Q d_Itm_isInside_27 rfl ⟨(b2z_f (by simp; omega)).symm, rfl⟩
  · refine e_aload_n X d_Itm_isInside_8 rfl ?_
    refine e_get X d_Itm_isInside_9 fl_Itm_9 hc0 (by omega) rfl ?_
    refine e_aload_n X d_Itm_isInside_12 rfl ?_
    refine z_iload_n X d_Itm_isInside_13 rfl ?_
    have h0 : bg m n t 0 = true := bg_zero ht (by omega)
    have hc := cnt_pos h0 p
    have hc3 := cnt_mono (B := bg m n t) (show p + 1 ≤ n + 1 by omega)
    have hit : it_item m n t p = ((cnt (bg m n t) (p + 1) - 1 : Nat) : Int) := if_neg (by omega)
    refine z_callV_I X d_Itm_isInside_14 cv_Itm_44 (c_Itm_having hM9 hIN hn ht hp hm) hc0 (by omega) rfl rfl ⟨rfl, rfl⟩ rfl (fun z3 h1 hp2 => ?_)
    obtain ⟨rfl, hh4⟩ := hp2
    rw [hh4]
    refine z_top hit ?_
    have hrg := sel_rg hsel (show cnt (bg m n t) (p + 1) - 1 < cnt (bg m n t) (n + 1) by omega)
    have hsi := sel_in hsel (show p < n + 1 by omega) h0
    refine z_iald X d_Itm_isInside_17 (j := (cnt (bg m n t) (p + 1) - 1)) hc1 (by omega) (by omega) (by omega) ?_
    refine z_iload_n X d_Itm_isInside_18 rfl ?_
    refine z_icmp_eq (tgt := 26) X d_Itm_isInside_19 (by decide) (by omega) (fun q2 => ?_) (fun q2 => ?_)
    · refine z_iconst X d_Itm_isInside_26 ?_
      exact z_ireturn X Q d_Itm_isInside_27 rfl ⟨(b2z_f (by rw [hsi.mp q2]; simp)).symm, rfl⟩
    · refine z_iconst X d_Itm_isInside_22 ?_
      refine e_goto (tgt := 27) X d_Itm_isInside_23 (by decide) ?_
      exact z_ireturn X Q d_Itm_isInside_27 rfl ⟨(b2z_t (by have h9 : bg m n t p = false := Bool.eq_false_iff.mpr (fun q9 => q2 (hsi.mpr q9)); rw [h9]; simp; omega)).symm, rfl⟩

