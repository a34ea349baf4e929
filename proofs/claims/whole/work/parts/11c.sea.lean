set_option maxRecDepth 100000 in
set_option maxHeartbeats 4000000 in
theorem c_Sea_takePattern {l : Launch} {G : lx_G} {N : Nat} {h : Nat → va_E} {S o c : Nat} {en : Int} {p : Nat → Int} (hS : Sea G h S en) (hN : S + 3 < N) (hO : Rw G h o 24 c p) (hoN : o + 1 < N) (hne : o + 1 < S ∨ S + 4 ≤ o) : CtI l G m_Sea_takePattern N [.ref (ad (g_b G) S), .ref (ad (g_b G) o)] h (fun z h' => (z = 1 ∧ pat c p = true ∧ ∃ w s f, SeC G h' S ((cnt (nsc p) c : Nat) : Int) en w s f ∧ pat_ar p c w s ∧ ∀ q, q ≠ S → q ≠ S + 1 → q ≠ S + 2 → h' q = h q) ∨ (z = 0 ∧ pat c p = false ∧ Sea G h' S en ∧ ∀ q, q ≠ S → q ≠ S + 1 → q ≠ S + 2 → h' q = h q)) := by
  obtain ⟨hen, E0, w0, z0, f0, hc0, hc1, hc2, hc3⟩ := hS
  have hoc := hO.le
  refine zI_of (by decide) rfl rfl ?_
  intro k X Q
  have X : Cx k G R_Sea b_Sea_takePattern 4 rm_Sea_takePattern := X
  have Q : Rt k G (some (.boolean)) N 0 0 (pI (fun z h' => (z = 1 ∧ pat c p = true ∧ ∃ w s f, SeC G h' S ((cnt (nsc p) c : Nat) : Int) en w s f ∧ pat_ar p c w s ∧ ∀ q, q ≠ S → q ≠ S + 1 → q ≠ S + 2 → h' q = h q) ∨ (z = 0 ∧ pat c p = false ∧ Sea G h' S en ∧ ∀ q, q ≠ S → q ≠ S + 1 → q ≠ S + 2 → h' q = h q))) := Q
  show Ev k G 4 N 0 0 h 0 [some (.ref (ad (g_b G) S)), some (.ref (ad (g_b G) o)), none, none] []
  refine e_aload_n X d_Sea_takePattern_0 rfl ?_
  refine z_iconst X d_Sea_takePattern_1 ?_
  refine z_put X d_Sea_takePattern_2 fl_Sea_22 hc0 (by omega) (Nat.le_of_ble_eq_true rfl) rfl rfl (fun h1 c2 fr3 => ?_)
  have c2 : h1 S = ob ci_Sea [.ref (ad (g_b G) (S + 1)), .ref (ad (g_b G) (S + 2)), .ref (ad (g_b G) (S + 3)), vI 0, vI (en)] := c2
  have c4 := (fr3 (S + 1) (by omega)).trans hc1
  have c5 := (fr3 (S + 2) (by omega)).trans hc2
  have c6 := (fr3 (S + 3) (by omega)).trans hc3
  refine z_iconst X d_Sea_takePattern_5 ?_
  refine e_istore_n X d_Sea_takePattern_6 (by decide) ?_
  have loop : ∀ (d9 : Nat) (i : Nat) (w : Nat → Int) (z : Nat → Int) (h2 : Nat → va_E), c - i < d9 → i ≤ c → SeC G h2 S ((cnt (nsc p) i : Nat) : Int) en w z f0 → patb p i = true → pat_ar p i w z → (∀ q, q ≠ S → q ≠ S + 1 → q ≠ S + 2 → h2 q = h q) → Ev k G 4 N 0 0 h2 7 [some (.ref (ad (g_b G) S)), some (.ref (ad (g_b G) o)), some (vI ((i : Nat) : Int)), none] [] := by
    intro d9
    induction d9 with
    | zero =>
      intro i w z h2 hm9
      exact absurd hm9 (Nat.not_lt_zero _)
    | succ d9 ih =>
      intro i w z h2 hm9 hi hS2 hok har hf
      obtain ⟨e0, e1, e2, e3⟩ := id hS2
      have hO2 : Rw G h2 o 24 c p := hO.fr (hf _ (by omega) (by omega) (by omega)) (hf _ (by omega) (by omega) (by omega))
      obtain ⟨ou, ho0, -⟩ := id hO2
      have hcl := cnt_le (B := nsc p) i
      refine z_iload_n X d_Sea_takePattern_7 rfl ?_
      refine e_aload_n X d_Sea_takePattern_8 rfl ?_
      refine z_callV_I X d_Sea_takePattern_9 cv_Sea_29 (c_Row_length hO2 (by omega)) ho0 (by omega) rfl rfl ⟨rfl, rfl⟩ rfl (fun z9 h7 hp8 => ?_)
      obtain ⟨rfl, hh10⟩ := hp8
      rw [hh10]
      refine z_icmp_ge (tgt := 101) X d_Sea_takePattern_12 (by decide) (by omega) (fun q1 => ?_) (fun q1 => ?_)
      · have hic : i = c := by omega
        subst hic
        refine e_aload_n X d_Sea_takePattern_101 rfl ?_
        refine e_get X d_Sea_takePattern_102 fl_Sea_22 e0 (by omega) rfl ?_
        refine z_if_le (tgt := 112) X d_Sea_takePattern_105 (by decide) (by omega) (fun q2 => ?_) (fun q2 => ?_)
        · refine z_iconst X d_Sea_takePattern_112 ?_
          exact z_ireturn X Q d_Sea_takePattern_113 rfl (Or.inr ⟨rfl, by have h9 := (pat_pos hok).mp (by omega); rw [h9]; rfl, ⟨hen, _, w, z, f0, hS2⟩, hf⟩)
        · refine z_iconst X d_Sea_takePattern_108 ?_
          refine e_goto (tgt := 113) X d_Sea_takePattern_109 (by decide) ?_
          exact z_ireturn X Q d_Sea_takePattern_113 rfl (Or.inl ⟨rfl, by unfold pat; rw [hok, decide_eq_true (by have h9 := pat_pos hok; omega)]; rfl, w, z, f0, hS2, har, hf⟩)
      · refine e_aload_n X d_Sea_takePattern_15 rfl ?_
        refine z_iload_n X d_Sea_takePattern_16 rfl ?_
        refine z_callV_I X d_Sea_takePattern_17 cv_Sea_35 (c_Row_at (a := ((i : Nat) : Int)) hO2 (by omega) (by omega)) ho0 (by omega) rfl rfl ⟨rfl, rfl⟩ rfl (fun z13 h11 hp12 => ?_)
        obtain ⟨rfl, hh14⟩ := hp12
        rw [hh14]
        refine z_top (show _ = (p i) from tat_n p i) ?_
        have hpi := hO2.ok.1 i (by omega)
        refine e_istore_n X d_Sea_takePattern_20 (by decide) ?_
        refine z_iload_n X d_Sea_takePattern_21 rfl ?_
        refine z_bipush X d_Sea_takePattern_22 (by decide) ?_
        refine z_icmp_eq (tgt := 60) X d_Sea_takePattern_24 (by decide) (by omega) (fun q3 => ?_) (fun q3 => ?_)
        · refine e_aload_n X d_Sea_takePattern_60 rfl ?_
          refine e_get X d_Sea_takePattern_61 fl_Sea_22 e0 (by omega) rfl ?_
          refine z_if_eq (tgt := 81) X d_Sea_takePattern_64 (by decide) (by omega) (fun q4 => ?_) (fun q4 => ?_)
          · refine z_iconst X d_Sea_takePattern_81 ?_
            exact z_ireturn X Q d_Sea_takePattern_82 rfl (Or.inr ⟨rfl, by unfold pat; rw [patb_mono (patb_bad q3 (by have h9 := pat_pos hok; omega)) c (by omega), Bool.and_false], ⟨hen, _, w, z, f0, hS2⟩, hf⟩)
          · have hi0 : 0 < i := by have h9 := pat_pos hok; omega
            refine e_aload_n X d_Sea_takePattern_67 rfl ?_
            refine e_get X d_Sea_takePattern_68 fl_Sea_15 e0 (by omega) rfl ?_
            refine e_aload_n X d_Sea_takePattern_71 rfl ?_
            refine e_get X d_Sea_takePattern_72 fl_Sea_22 e0 (by omega) rfl ?_
            refine z_iconst X d_Sea_takePattern_75 ?_
            refine z_isub X d_Sea_takePattern_76 ?_
            refine z_zald X d_Sea_takePattern_77 (j := ((cnt (nsc p) i) - 1)) e2 (by omega) (by omega) (by omega) ?_
            refine z_top (show _ = (b2z (decide (p (i - 1) = 42))) from pat_prev hok har hi0) ?_
            refine z_if_eq (tgt := 83) X d_Sea_takePattern_78 (by decide) (b2z_r _) (fun q5 => ?_) (fun q5 => ?_)
            · have hp1 : ¬ p (i - 1) = 42 := of_decide_eq_false (b2z_eq q5)
              refine e_aload_n X d_Sea_takePattern_83 rfl ?_
              refine e_get X d_Sea_takePattern_84 fl_Sea_15 e0 (by omega) rfl ?_
              refine e_aload_n X d_Sea_takePattern_87 rfl ?_
              refine e_get X d_Sea_takePattern_88 fl_Sea_22 e0 (by omega) rfl ?_
              refine z_iconst X d_Sea_takePattern_91 ?_
              refine z_isub X d_Sea_takePattern_92 ?_
              refine z_iconst X d_Sea_takePattern_93 ?_
              refine z_zast X d_Sea_takePattern_94 (j := ((cnt (nsc p) i) - 1)) e2 (by omega) (by omega) (by omega) rfl (fun h36 c37 fr38 => ?_)
              have c39 := (fr38 S (by omega)).trans e0
              have c40 := (fr38 (S + 1) (by omega)).trans e1
              have c41 := (fr38 (S + 3) (by omega)).trans e3
              have c42 := (fr38 o (by omega)).trans ho0
              refine z_iinc X d_Sea_takePattern_95 rfl (by decide) ?_
              refine e_goto (tgt := 7) X d_Sea_takePattern_98 (by decide) ?_
              refine e_clear 3 ?_
              exact ih (i + 1) _ _ _ (by omega) (by omega) ⟨(by rw [cnt_f (nsc_f q3)]; exact c39), c40, c37, c41⟩ (patb_star hok hi0 hp1) (pat_star har q3 hi0 hp1).1 (fun q q1 q2 q3 => (fr38 q q3).trans (hf q q1 q2 q3))
            · refine z_iconst X d_Sea_takePattern_81 ?_
              exact z_ireturn X Q d_Sea_takePattern_82 rfl (Or.inr ⟨rfl, by unfold pat; rw [patb_mono (patb_bad q3 (by exact Or.inr (of_decide_eq_true (b2z_ne q5)))) c (by omega), Bool.and_false], ⟨hen, _, w, z, f0, hS2⟩, hf⟩)
        · refine e_aload_n X d_Sea_takePattern_27 rfl ?_
          refine e_get X d_Sea_takePattern_28 fl_Sea_9 e0 (by omega) rfl ?_
          refine e_aload_n X d_Sea_takePattern_31 rfl ?_
          refine e_get X d_Sea_takePattern_32 fl_Sea_22 e0 (by omega) rfl ?_
          refine z_iload_n X d_Sea_takePattern_35 rfl ?_
          refine z_iast X d_Sea_takePattern_36 (j := (cnt (nsc p) i)) e1 (by omega) (by omega) (by omega) (fun h15 c16 fr17 => ?_)
          have c18 := (fr17 S (by omega)).trans e0
          have c19 := (fr17 (S + 2) (by omega)).trans e2
          have c20 := (fr17 (S + 3) (by omega)).trans e3
          have c21 := (fr17 o (by omega)).trans ho0
          refine e_aload_n X d_Sea_takePattern_37 rfl ?_
          refine e_get X d_Sea_takePattern_38 fl_Sea_15 c18 (by omega) rfl ?_
          refine e_aload_n X d_Sea_takePattern_41 rfl ?_
          refine e_get X d_Sea_takePattern_42 fl_Sea_22 c18 (by omega) rfl ?_
          refine z_iconst X d_Sea_takePattern_45 ?_
          refine z_zast X d_Sea_takePattern_46 (j := (cnt (nsc p) i)) c19 (by omega) (by omega) (by omega) rfl (fun h22 c23 fr24 => ?_)
          have c25 := (fr24 S (by omega)).trans c18
          have c26 := (fr24 (S + 1) (by omega)).trans c16
          have c27 := (fr24 (S + 3) (by omega)).trans c20
          have c28 := (fr24 o (by omega)).trans c21
          refine e_aload_n X d_Sea_takePattern_47 rfl ?_
          refine e_dup X d_Sea_takePattern_48 rfl ?_
          refine e_get X d_Sea_takePattern_49 fl_Sea_22 c25 (by omega) rfl ?_
          refine z_iconst X d_Sea_takePattern_52 ?_
          refine z_iadd X d_Sea_takePattern_53 ?_
          refine z_top (show _ = ((cnt (nsc p) i + 1 : Nat) : Int) by omega) ?_
          refine z_put X d_Sea_takePattern_54 fl_Sea_22 c25 (by omega) (Nat.le_of_ble_eq_true rfl) rfl rfl (fun h29 c30 fr31 => ?_)
          have c30 : h29 S = ob ci_Sea [.ref (ad (g_b G) (S + 1)), .ref (ad (g_b G) (S + 2)), .ref (ad (g_b G) (S + 3)), vI ((cnt (nsc p) i + 1 : Nat) : Int), vI (en)] := c30
          have c32 := (fr31 (S + 1) (by omega)).trans c26
          have c33 := (fr31 (S + 2) (by omega)).trans c23
          have c34 := (fr31 (S + 3) (by omega)).trans c27
          have c35 := (fr31 o (by omega)).trans c28
          refine e_goto (tgt := 95) X d_Sea_takePattern_57 (by decide) ?_
          refine z_iinc X d_Sea_takePattern_95 rfl (by decide) ?_
          refine e_goto (tgt := 7) X d_Sea_takePattern_98 (by decide) ?_
          refine e_clear 3 ?_
          exact ih (i + 1) _ _ _ (by omega) (by omega) ⟨(by rw [cnt_t (nsc_t q3)]; exact c30), c32, c33, c34⟩ (patb_one hok q3) (pat_one har q3) (fun q q1 q2 q3 => (fr31 q q1).trans ((fr24 q q3).trans ((fr17 q q2).trans (hf q q1 q2 q3))))
  exact loop _ 0 w0 z0 _ (Nat.lt_succ_self _) (Nat.zero_le _) ⟨c2, c4, c5, c6⟩ rfl (fun k9 h9 => absurd h9 (Nat.not_lt_zero _)) (fun q q1 q2 q3 => fr3 q q1)

theorem ffd_rg {E : Nat} {w : Nat → Int} {s : Nat → Bool} {n : Nat} {t : Nat → Int} {e0 : Int} (hn : n ≤ 160) (he : -1 ≤ e0 ∧ e0 ≤ 160) (d : Nat) : -1 ≤ (ffd E w s n t e0 d).2 ∧ (ffd E w s n t e0 d).2 ≤ 160 := by
  induction d with
  | zero => exact he
  | succ d ih =>
    unfold ffd
    split
    · exact ih
    · exact rmt_rg hn d E (Nat.le_refl _)
set_option maxRecDepth 100000 in
set_option maxHeartbeats 4000000 in
theorem c_Sea_firstMatch {l : Launch} {G : lx_G} {N : Nat} {h : Nat → va_E} {S e E n a : Nat} {en : Int} {w z f t : Nat → Int} {s : Nat → Bool} (hS9 : SeC G h S (E : Int) en w z f) (hN : S + 3 < N) (hE : E ≤ 24) (hw : ∀ e, e < E → 0 ≤ w e ∧ w e < 65536) (hz : ∀ e, e < E → z e = b2z (s e)) (hen : -1 ≤ en ∧ en ≤ 160) (hT : Tx G h e n t) (heN : e + 1 < N) (hne : e + 1 < S ∨ S + 4 ≤ e) (ha : a ≤ n) : CtI l G m_Sea_firstMatch N [.ref (ad (g_b G) S), .ref (ad (g_b G) e), vI ((a : Nat) : Int)] h (fun z h' => z = (ffd E w s n t en (n - a + 1)).1 ∧ Sea G h' S (ffd E w s n t en (n - a + 1)).2 ∧ ∀ q, (q < S ∨ S + 4 ≤ q) → h' q = h q) := by
  obtain ⟨hc0, hc1, hc2, hc3⟩ := id hS9
  have ht := hT.ok
  have hle := hT.le
  refine zI_of (by decide) rfl rfl ?_
  intro k X Q
  have X : Cx k G R_Sea b_Sea_firstMatch 5 rm_Sea_firstMatch := X
  have Q : Rt k G (some (.int)) N 0 0 (pI (fun z h' => z = (ffd E w s n t en (n - a + 1)).1 ∧ Sea G h' S (ffd E w s n t en (n - a + 1)).2 ∧ ∀ q, (q < S ∨ S + 4 ≤ q) → h' q = h q)) := Q
  show Ev k G 5 N 0 0 h 0 [some (.ref (ad (g_b G) S)), some (.ref (ad (g_b G) e)), some (vI ((a : Nat) : Int)), none, none] []
  refine z_iconst X d_Sea_firstMatch_0 ?_
  refine e_istore_n X d_Sea_firstMatch_1 (by decide) ?_
  refine e_aload_n X d_Sea_firstMatch_2 rfl ?_
  refine z_Tlen X d_Sea_firstMatch_3 cf_Sea_39_Row cf_Sea_39_Gap hT (by omega) rfl ?_
  refine e_istore X d_Sea_firstMatch_8 (by decide) ?_
  have loop : ∀ (d9 : Nat) (d : Nat) (g : Nat → Int) (h2 : Nat → va_E), n + 2 - d < d9 → d ≤ n - a + 1 → SeC G h2 S (E : Int) (ffd E w s n t en d).2 w z g → (0 < d → ∀ e, e ≤ E → g e = rmt E w s n t (d - 1) (E - e)) → (∀ q, (q < S ∨ S + 4 ≤ q) → h2 q = h q) → Ev k G 5 N 0 0 h2 10 [some (.ref (ad (g_b G) S)), some (.ref (ad (g_b G) e)), some (vI ((a : Nat) : Int)), some (vI (ffd E w s n t en d).1), some (vI (((n : Nat) : Int) - ((d : Nat) : Int)))] [] := by
    intro d9
    induction d9 with
    | zero =>
      intro d g h2 hm9
      exact absurd hm9 (Nat.not_lt_zero _)
    | succ d9 ih =>
      intro d g h2 hm9 hd hS2 hg hf
      obtain ⟨e0, e1, e2, e3⟩ := id hS2
      have hT2 : Tx G h2 e n t := hT.fr (hf _ (by omega)) (hf _ (by omega))
      refine z_iload X d_Sea_firstMatch_10 rfl ?_
      refine z_iload_n X d_Sea_firstMatch_12 rfl ?_
      refine z_icmp_lt (tgt := 59) X d_Sea_firstMatch_13 (by decide) (by omega) (fun q1 => ?_) (fun q1 => ?_)
      · have hda : d = n - a + 1 := by omega
        subst hda
        refine z_iload_n X d_Sea_firstMatch_59 rfl ?_
        exact z_ireturn X Q d_Sea_firstMatch_60 rfl ⟨rfl, ⟨ffd_rg hle hen _, _, w, z, g, hS2⟩, hf⟩
      · have hdn : d ≤ n := by omega
        rw [show ((n : Nat) : Int) - ((d : Nat) : Int) = ((n - d : Nat) : Int) by omega]
        refine e_aload_n X d_Sea_firstMatch_16 rfl ?_
        refine z_iload X d_Sea_firstMatch_17 rfl ?_
        refine e_aload_n X d_Sea_firstMatch_19 rfl ?_
        refine z_iload X d_Sea_firstMatch_20 rfl ?_
        refine z_Tat X d_Sea_firstMatch_22 cf_Sea_42_Row cf_Sea_42_Gap hT2 (by omega) (by omega) rfl ?_
        refine z_top (show _ = (t (n - d)) from tat_n t (n - d)) ?_
        have htr := tx_ge ht (n - d)
        have hprev : ∀ e, e < E → stn (w e) (t (n - d)) = true → ∀ m, m ≤ E → -1 ≤ (fun m => g (E - m)) m ∧ (fun m => g (E - m)) m ≤ 160 := by
          intro e he hst m hm
          have hd0 : 0 < d := by
            rcases Nat.eq_zero_or_pos d with h9 | h9
            · subst h9
              rw [Nat.sub_zero, ht.2 n (Nat.le_refl _), stn_none (hw e he).1] at hst
              cases hst
            · exact h9
          show -1 ≤ g (E - m) ∧ g (E - m) ≤ 160
          rw [hg hd0 (E - m) (by omega)]
          exact rmt_rg hle (d - 1) _ (by omega)
        refine z_callV_V X d_Sea_firstMatch_27 cv_Sea_43 (c_Sea_reachFrom hS2 hN hE hw hz (by omega) (by omega) hprev) e0 (by omega) rfl rfl ⟨rfl, rfl⟩ rfl (fun h1 hp2 => ?_)
        obtain ⟨g2, hr3, hrv, hrf⟩ := hp2
        have c4 := (hrf S (by omega)).trans e0
        have c5 := (hrf (S + 1) (by omega)).trans e1
        have c6 := (hrf (S + 2) (by omega)).trans e2
        have hrow : ∀ e, e ≤ E → g2 e = rmt E w s n t d (E - e) := by
          intro e he
          rw [hrv e he]
          cases d with
          | zero =>
            exact rrow_congr (fun _ _ => rfl) (fun _ _ => rfl) _ (by omega) (fun e9 he9 hst => by rw [Nat.sub_zero, ht.2 n (Nat.le_refl _), stn_none (hw e9 he9).1] at hst; cases hst)
          | succ d =>
            exact rrow_congr (fun _ _ => rfl) (fun _ _ => rfl) _ (by omega) (fun e9 he9 hst m hm => by rw [hg (Nat.succ_pos _) (E - m) (by omega), show E - (E - m) = m by omega]; rfl)
        refine e_aload_n X d_Sea_firstMatch_30 rfl ?_
        refine e_get X d_Sea_firstMatch_31 fl_Sea_19 c4 (by omega) rfl ?_
        refine z_iconst X d_Sea_firstMatch_34 ?_
        refine z_iald X d_Sea_firstMatch_35 (j := 0) hr3 (by omega) (by omega) (by omega) ?_
        refine z_top (show _ = (rmt E w s n t d E) from (by rw [hrow 0 (Nat.zero_le _)]; rfl)) ?_
        have hrr := rmt_rg (w := w) (s := s) (t := t) (E := E) hle d E (Nat.le_refl _)
        refine z_iconst X d_Sea_firstMatch_36 ?_
        refine z_icmp_eq (tgt := 53) X d_Sea_firstMatch_37 (by decide) (by omega) (fun q2 => ?_) (fun q2 => ?_)
        · refine z_iinc X d_Sea_firstMatch_53 rfl (by decide) ?_
          refine e_goto (tgt := 10) X d_Sea_firstMatch_56 (by decide) ?_
          have hff : ffd E w s n t en (d + 1) = ffd E w s n t en d := by rw [ffd, if_pos q2]
          rw [show ((n - d : Nat) : Int) + (-1) = ((n : Nat) : Int) - ((d + 1 : Nat) : Int) by omega]
          rw [← hff]
          exact ih (d + 1) g2 _ (by omega) (by omega) ⟨(by rw [hff]; exact c4), c5, c6, hr3⟩ (fun _ => hrow) (fun q q9 => (hrf q (by omega)).trans (hf q q9))
        · refine z_iload X d_Sea_firstMatch_40 rfl ?_
          refine e_istore_n X d_Sea_firstMatch_42 (by decide) ?_
          refine e_aload_n X d_Sea_firstMatch_43 rfl ?_
          refine e_aload_n X d_Sea_firstMatch_44 rfl ?_
          refine e_get X d_Sea_firstMatch_45 fl_Sea_19 c4 (by omega) rfl ?_
          refine z_iconst X d_Sea_firstMatch_48 ?_
          refine z_iald X d_Sea_firstMatch_49 (j := 0) hr3 (by omega) (by omega) (by omega) ?_
          refine z_top (show _ = (rmt E w s n t d E) from (by rw [hrow 0 (Nat.zero_le _)]; rfl)) ?_
          refine z_put X d_Sea_firstMatch_50 fl_Sea_26 c4 (by omega) (Nat.le_of_ble_eq_true rfl) rfl rfl (fun h7 c8 fr9 => ?_)
          have c8 : h7 S = ob ci_Sea [.ref (ad (g_b G) (S + 1)), .ref (ad (g_b G) (S + 2)), .ref (ad (g_b G) (S + 3)), vI ((E : Nat) : Int), vI (rmt E w s n t d E)] := c8
          have c10 := (fr9 (S + 1) (by omega)).trans c5
          have c11 := (fr9 (S + 2) (by omega)).trans c6
          have c12 := (fr9 (S + 3) (by omega)).trans hr3
          refine z_iinc X d_Sea_firstMatch_53 rfl (by decide) ?_
          refine e_goto (tgt := 10) X d_Sea_firstMatch_56 (by decide) ?_
          have hff : ffd E w s n t en (d + 1) = (((n - d : Nat) : Int), rmt E w s n t d E) := by rw [ffd, if_neg q2]
          rw [show ((n - d : Nat) : Int) + (-1) = ((n : Nat) : Int) - ((d + 1 : Nat) : Int) by omega]
          rw [show ((n - d : Nat) : Int) = (ffd E w s n t en (d + 1)).1 by rw [hff]]
          exact ih (d + 1) g2 _ (by omega) (by omega) ⟨(by rw [hff]; exact c8), c10, c11, c12⟩ (fun _ => hrow) (fun q q9 => (fr9 q (by omega)).trans ((hrf q (by omega)).trans (hf q q9)))
  exact loop _ 0 f _ (Nat.lt_succ_self _) (by omega) hS9 (fun h9 => absurd h9 (Nat.lt_irrefl _)) (fun q q9 => rfl)

