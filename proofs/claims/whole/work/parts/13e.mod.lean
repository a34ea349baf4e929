theorem zup_x {f X : Nat → Int} {n : Nat} {v : Int} (h : ∀ k, k < n → f k = X k) (hv : v = X n) : ∀ k, k < n + 1 → zup f n v k = X k := by
  intro k hk
  by_cases h9 : k = n
  · rw [h9, zup_eq]; exact hv
  · rw [zup_ne h9]; exact h k (by omega)
theorem ed_lo {t p : Nat → Int} {a b c k : Nat} (h : k < a) : t k = tx_ed t a b c p k := by
  unfold tx_ed; rw [if_pos h]
theorem ed_mid {t p : Nat → Int} {a b c k : Nat} (h : k < c) : p k = tx_ed t a b c p (a + k) := by
  unfold tx_ed; rw [if_neg (by omega), if_pos (by omega), Nat.add_sub_cancel_left]
theorem ed_hi {t p : Nat → Int} {a b c k : Nat} (h : b ≤ k) : t k = tx_ed t a b c p (a + c + (k - b)) := by
  unfold tx_ed; rw [if_neg (by omega), if_neg (by omega)]
  congr 1
  omega
theorem Sl.keep {U Ls U' Ls' : Nat → Int} {s : Nat} {x : tx_T} (h : Sl U Ls s x) (hU : ∀ q, 160 * s ≤ q → q < 160 * s + 160 → U' q = U q) (hL : Ls' s = Ls s) : Sl U' Ls' s x := by
  obtain ⟨h1, h2, h3, h4⟩ := h
  exact ⟨hL.trans h1, h2, fun k hk => (hU _ (by omega) (by omega)).trans (h3 k hk), h4⟩
set_option maxRecDepth 100000 in
set_option maxHeartbeats 4000000 in
theorem c_Mod_make {l : Launch} {G : lx_G} {N : Nat} {h : Nat → va_E} {U Ls K C : Nat → Int} {nw : Nat} {last cl g o en : Int} {Md : Nat → Int} {ml pts its : Int} {PP CD PL AT : Nat → Int} {n a b cc : Nat} {t p : Nat → Int} (hM : MC G h U Ls K C ((nw : Nat) : Int) last cl g o en Md ml pts its PP CD PL AT) (hN : 52 ≤ N) (hnw : nw ≤ 8) (hS : Sl U Ls nw (n, t)) (hab : a ≤ b ∧ b ≤ n) (hcc : cc ≤ 24) (hp : ∀ k, k < cc → C k = p k) (hfit : n - (b - a) + cc ≤ 160) : CtV l G m_Mod_make N [.ref (ad (g_b G) 42), vI ((a : Nat) : Int), vI ((b : Nat) : Int), vI ((cc : Nat) : Int)] h (fun h' => (∃ Md', MC G h' U Ls K C ((nw : Nat) : Int) last cl g o en Md' ((n - (b - a) + cc : Nat) : Int) pts its PP CD PL AT ∧ ∀ k, k < n - (b - a) + cc → Md' k = (tx_ed t a b cc p) k) ∧ ∀ q, (q < 42 ∨ 52 ≤ q) → h' q = h q) := by
  refine zV_of (by decide) rfl rfl ?_
  intro k X Q
  have X : Cx k G R_Mod b_Mod_make 6 rm_Mod_make := X
  have Q : Rt k G none N 0 0 (pV (fun h' => (∃ Md', MC G h' U Ls K C ((nw : Nat) : Int) last cl g o en Md' ((n - (b - a) + cc : Nat) : Int) pts its PP CD PL AT ∧ ∀ k, k < n - (b - a) + cc → Md' k = (tx_ed t a b cc p) k) ∧ ∀ q, (q < 42 ∨ 52 ≤ q) → h' q = h q)) := Q
  show Ev k G 6 N 0 0 h 0 [some (.ref (ad (g_b G) 42)), some (vI ((a : Nat) : Int)), some (vI ((b : Nat) : Int)), some (vI ((cc : Nat) : Int)), none, none] []
  obtain ⟨d42, d43, d44, d45, d46, d47, d48, d49, d50, d51⟩ := id hM
  obtain ⟨hl0, hl1, hl2, ht⟩ := hS
  dsimp only at hl0 hl1 hl2 ht
  refine e_aload_n X d_Mod_make_0 rfl ?_
  refine z_iconst X d_Mod_make_1 ?_
  refine z_put X d_Mod_make_2 fl_Mod_96 d42 (by omega) (Nat.le_of_ble_eq_true rfl) rfl rfl (fun h1 c2 fr3 => ?_)
  have c2 : h1 42 = ob ci_Mod [.ref (ad (g_b G) 43), .ref (ad (g_b G) 44), vI ((nw : Nat) : Int), vI (last), .ref (ad (g_b G) 45), .ref (ad (g_b G) 46), vI (cl), vI (g), vI (o), .ref (ad (g_b G) 47), vI 0, vI (pts), .ref (ad (g_b G) 48), .ref (ad (g_b G) 49), vI (its), .ref (ad (g_b G) 50), .ref (ad (g_b G) 51), vI (en)] := c2
  have c4 := (fr3 43 (by omega)).trans d43
  have c5 := (fr3 44 (by omega)).trans d44
  have c6 := (fr3 45 (by omega)).trans d45
  have c7 := (fr3 46 (by omega)).trans d46
  have c8 := (fr3 47 (by omega)).trans d47
  have c9 := (fr3 48 (by omega)).trans d48
  have c10 := (fr3 49 (by omega)).trans d49
  have c11 := (fr3 50 (by omega)).trans d50
  have c12 := (fr3 51 (by omega)).trans d51
  refine e_aload_n X d_Mod_make_5 rfl ?_
  refine e_get X d_Mod_make_6 fl_Mod_13 c2 (by omega) rfl ?_
  refine e_aload_n X d_Mod_make_9 rfl ?_
  refine e_get X d_Mod_make_10 fl_Mod_48 c2 (by omega) rfl ?_
  refine z_iald X d_Mod_make_13 (j := nw) c5 (by omega) (by omega) (by omega) ?_
  refine z_top (show _ = ((n : Nat) : Int) from hl0) ?_
  refine e_istore X d_Mod_make_14 (by decide) ?_
  refine z_iconst X d_Mod_make_16 ?_
  refine e_istore X d_Mod_make_17 (by decide) ?_
  have loop3 : ∀ (d9 : Nat) (k9 : Nat) (Md1 : Nat → Int) (h2 : Nat → va_E), n - k9 < d9 → b ≤ k9 ∧ k9 ≤ n → MC G h2 U Ls K C ((nw : Nat) : Int) last cl g o en Md1 ((a + cc + (k9 - b) : Nat) : Int) pts its PP CD PL AT → (∀ k, k < a + cc + (k9 - b) → Md1 k = (tx_ed t a b cc p) k) → (∀ q, (q < 42 ∨ 52 ≤ q) → h2 q = h q) → Ev k G 6 N 0 0 h2 110 [some (.ref (ad (g_b G) 42)), some (vI ((a : Nat) : Int)), some (vI ((b : Nat) : Int)), some (vI ((cc : Nat) : Int)), some (vI ((n : Nat) : Int)), some (vI ((k9 : Nat) : Int))] [] := by
    intro d9
    induction d9 with
    | zero =>
      intro k9 Md1 h2 hm9
      exact absurd hm9 (Nat.not_lt_zero _)
    | succ d9 ih =>
      intro k9 Md1 h2 hm9 hk hM2 hx hf
      obtain ⟨d42b, d43b, d44b, d45b, d46b, d47b, d48b, d49b, d50b, d51b⟩ := id hM2
      refine z_iload X d_Mod_make_110 rfl ?_
      refine z_iload X d_Mod_make_112 rfl ?_
      refine z_icmp_ge (tgt := 158) X d_Mod_make_114 (by decide) (by omega) (fun q1 => ?_) (fun q1 => ?_)
      · have hkn : k9 = n := by omega
        subst hkn
        rw [show a + cc + (k9 - b) = k9 - (b - a) + cc by omega] at hM2 hx
        exact z_return X Q d_Mod_make_158 ⟨⟨Md1, hM2, hx⟩, hf⟩
      · refine e_aload_n X d_Mod_make_117 rfl ?_
        refine e_get X d_Mod_make_118 fl_Mod_27 d42b (by omega) rfl ?_
        refine e_aload_n X d_Mod_make_121 rfl ?_
        refine e_get X d_Mod_make_122 fl_Mod_96 d42b (by omega) rfl ?_
        refine e_aload_n X d_Mod_make_125 rfl ?_
        refine e_get X d_Mod_make_126 fl_Mod_7 d42b (by omega) rfl ?_
        refine z_sipush X d_Mod_make_129 (by decide) ?_
        refine e_aload_n X d_Mod_make_132 rfl ?_
        refine e_get X d_Mod_make_133 fl_Mod_48 d42b (by omega) rfl ?_
        refine z_imul X d_Mod_make_136 ?_
        refine z_iload X d_Mod_make_137 rfl ?_
        refine z_iadd X d_Mod_make_139 ?_
        refine z_iald X d_Mod_make_140 (j := ((160 * nw) + k9)) d43b (by omega) (by omega) (by omega) ?_
        refine z_top (show _ = (t k9) from hl2 k9 (by omega)) ?_
        refine z_iast X d_Mod_make_141 (j := (a + cc + (k9 - b))) d47b (by omega) (by omega) (by omega) (fun h13 c14 fr15 => ?_)
        have c16 := (fr15 42 (by omega)).trans d42b
        have c17 := (fr15 43 (by omega)).trans d43b
        have c18 := (fr15 44 (by omega)).trans d44b
        have c19 := (fr15 45 (by omega)).trans d45b
        have c20 := (fr15 46 (by omega)).trans d46b
        have c21 := (fr15 48 (by omega)).trans d48b
        have c22 := (fr15 49 (by omega)).trans d49b
        have c23 := (fr15 50 (by omega)).trans d50b
        have c24 := (fr15 51 (by omega)).trans d51b
        refine e_aload_n X d_Mod_make_142 rfl ?_
        refine e_dup X d_Mod_make_143 rfl ?_
        refine e_get X d_Mod_make_144 fl_Mod_96 c16 (by omega) rfl ?_
        refine z_iconst X d_Mod_make_147 ?_
        refine z_iadd X d_Mod_make_148 ?_
        refine z_top (show _ = ((a + cc + (k9 + 1 - b) : Nat) : Int) by omega) ?_
        refine z_put X d_Mod_make_149 fl_Mod_96 c16 (by omega) (Nat.le_of_ble_eq_true rfl) rfl rfl (fun h25 c26 fr27 => ?_)
        have c26 : h25 42 = ob ci_Mod [.ref (ad (g_b G) 43), .ref (ad (g_b G) 44), vI ((nw : Nat) : Int), vI (last), .ref (ad (g_b G) 45), .ref (ad (g_b G) 46), vI (cl), vI (g), vI (o), .ref (ad (g_b G) 47), vI ((a + cc + (k9 + 1 - b) : Nat) : Int), vI (pts), .ref (ad (g_b G) 48), .ref (ad (g_b G) 49), vI (its), .ref (ad (g_b G) 50), .ref (ad (g_b G) 51), vI (en)] := c26
        have c28 := (fr27 43 (by omega)).trans c17
        have c29 := (fr27 44 (by omega)).trans c18
        have c30 := (fr27 45 (by omega)).trans c19
        have c31 := (fr27 46 (by omega)).trans c20
        have c32 := (fr27 47 (by omega)).trans c14
        have c33 := (fr27 48 (by omega)).trans c21
        have c34 := (fr27 49 (by omega)).trans c22
        have c35 := (fr27 50 (by omega)).trans c23
        have c36 := (fr27 51 (by omega)).trans c24
        refine z_iinc X d_Mod_make_152 rfl (by decide) ?_
        refine e_goto (tgt := 110) X d_Mod_make_155 (by decide) ?_
        exact ih (k9 + 1) (zup Md1 (a + cc + (k9 - b)) (t k9)) _ (by omega) (by omega) (by exact ⟨c26, c28, c29, c30, c31, c32, c33, c34, c35, c36⟩) (by rw [show a + cc + (k9 + 1 - b) = a + cc + (k9 - b) + 1 by omega]; exact zup_x hx (ed_hi (by omega))) (fun q q1 => ((fr27 q (by omega)).trans (fr15 q (by omega))).trans (hf q q1))
  have loop2 : ∀ (d9 : Nat) (k9 : Nat) (Md1 : Nat → Int) (h2 : Nat → va_E), cc - k9 < d9 → k9 ≤ cc → MC G h2 U Ls K C ((nw : Nat) : Int) last cl g o en Md1 ((a + k9 : Nat) : Int) pts its PP CD PL AT → (∀ k, k < a + k9 → Md1 k = (tx_ed t a b cc p) k) → (∀ q, (q < 42 ∨ 52 ≤ q) → h2 q = h q) → Ev k G 6 N 0 0 h2 69 [some (.ref (ad (g_b G) 42)), some (vI ((a : Nat) : Int)), some (vI ((b : Nat) : Int)), some (vI ((cc : Nat) : Int)), some (vI ((n : Nat) : Int)), some (vI ((k9 : Nat) : Int))] [] := by
    intro d9
    induction d9 with
    | zero =>
      intro k9 Md1 h2 hm9
      exact absurd hm9 (Nat.not_lt_zero _)
    | succ d9 ih =>
      intro k9 Md1 h2 hm9 hk hM2 hx hf
      obtain ⟨d42b, d43b, d44b, d45b, d46b, d47b, d48b, d49b, d50b, d51b⟩ := id hM2
      refine z_iload X d_Mod_make_69 rfl ?_
      refine z_iload_n X d_Mod_make_71 rfl ?_
      refine z_icmp_ge (tgt := 107) X d_Mod_make_72 (by decide) (by omega) (fun q1 => ?_) (fun q1 => ?_)
      · refine z_iload_n X d_Mod_make_107 rfl ?_
        refine e_istore X d_Mod_make_108 (by decide) ?_
        have hkn : k9 = cc := by omega
        subst hkn
        exact loop3 _ b Md1 _ (Nat.lt_succ_self _) (by omega) (by rw [Nat.sub_self, Nat.add_zero]; exact hM2) (by rw [Nat.sub_self, Nat.add_zero]; exact hx) hf
      · refine e_aload_n X d_Mod_make_75 rfl ?_
        refine e_get X d_Mod_make_76 fl_Mod_27 d42b (by omega) rfl ?_
        refine e_aload_n X d_Mod_make_79 rfl ?_
        refine e_get X d_Mod_make_80 fl_Mod_96 d42b (by omega) rfl ?_
        refine e_aload_n X d_Mod_make_83 rfl ?_
        refine e_get X d_Mod_make_84 fl_Mod_20 d42b (by omega) rfl ?_
        refine z_iload X d_Mod_make_87 rfl ?_
        refine z_iald X d_Mod_make_89 (j := k9) d46b (by omega) (by omega) (by omega) ?_
        refine z_top (show _ = (p k9) from hp k9 (by omega)) ?_
        refine z_iast X d_Mod_make_90 (j := (a + k9)) d47b (by omega) (by omega) (by omega) (fun h37 c38 fr39 => ?_)
        have c40 := (fr39 42 (by omega)).trans d42b
        have c41 := (fr39 43 (by omega)).trans d43b
        have c42 := (fr39 44 (by omega)).trans d44b
        have c43 := (fr39 45 (by omega)).trans d45b
        have c44 := (fr39 46 (by omega)).trans d46b
        have c45 := (fr39 48 (by omega)).trans d48b
        have c46 := (fr39 49 (by omega)).trans d49b
        have c47 := (fr39 50 (by omega)).trans d50b
        have c48 := (fr39 51 (by omega)).trans d51b
        refine e_aload_n X d_Mod_make_91 rfl ?_
        refine e_dup X d_Mod_make_92 rfl ?_
        refine e_get X d_Mod_make_93 fl_Mod_96 c40 (by omega) rfl ?_
        refine z_iconst X d_Mod_make_96 ?_
        refine z_iadd X d_Mod_make_97 ?_
        refine z_top (show _ = ((a + k9 + 1 : Nat) : Int) by omega) ?_
        refine z_put X d_Mod_make_98 fl_Mod_96 c40 (by omega) (Nat.le_of_ble_eq_true rfl) rfl rfl (fun h49 c50 fr51 => ?_)
        have c50 : h49 42 = ob ci_Mod [.ref (ad (g_b G) 43), .ref (ad (g_b G) 44), vI ((nw : Nat) : Int), vI (last), .ref (ad (g_b G) 45), .ref (ad (g_b G) 46), vI (cl), vI (g), vI (o), .ref (ad (g_b G) 47), vI ((a + k9 + 1 : Nat) : Int), vI (pts), .ref (ad (g_b G) 48), .ref (ad (g_b G) 49), vI (its), .ref (ad (g_b G) 50), .ref (ad (g_b G) 51), vI (en)] := c50
        have c52 := (fr51 43 (by omega)).trans c41
        have c53 := (fr51 44 (by omega)).trans c42
        have c54 := (fr51 45 (by omega)).trans c43
        have c55 := (fr51 46 (by omega)).trans c44
        have c56 := (fr51 47 (by omega)).trans c38
        have c57 := (fr51 48 (by omega)).trans c45
        have c58 := (fr51 49 (by omega)).trans c46
        have c59 := (fr51 50 (by omega)).trans c47
        have c60 := (fr51 51 (by omega)).trans c48
        refine z_iinc X d_Mod_make_101 rfl (by decide) ?_
        refine e_goto (tgt := 69) X d_Mod_make_104 (by decide) ?_
        exact ih (k9 + 1) (zup Md1 (a + k9) (p k9)) _ (by omega) (by omega) (by exact ⟨c50, c52, c53, c54, c55, c56, c57, c58, c59, c60⟩) (zup_x hx (ed_mid (by omega))) (fun q q1 => ((fr51 q (by omega)).trans (fr39 q (by omega))).trans (hf q q1))
  have loop1 : ∀ (d9 : Nat) (k9 : Nat) (Md1 : Nat → Int) (h2 : Nat → va_E), a - k9 < d9 → k9 ≤ a → MC G h2 U Ls K C ((nw : Nat) : Int) last cl g o en Md1 ((k9 : Nat) : Int) pts its PP CD PL AT → (∀ k, k < k9 → Md1 k = (tx_ed t a b cc p) k) → (∀ q, (q < 42 ∨ 52 ≤ q) → h2 q = h q) → Ev k G 6 N 0 0 h2 19 [some (.ref (ad (g_b G) 42)), some (vI ((a : Nat) : Int)), some (vI ((b : Nat) : Int)), some (vI ((cc : Nat) : Int)), some (vI ((n : Nat) : Int)), some (vI ((k9 : Nat) : Int))] [] := by
    intro d9
    induction d9 with
    | zero =>
      intro k9 Md1 h2 hm9
      exact absurd hm9 (Nat.not_lt_zero _)
    | succ d9 ih =>
      intro k9 Md1 h2 hm9 hk hM2 hx hf
      obtain ⟨d42b, d43b, d44b, d45b, d46b, d47b, d48b, d49b, d50b, d51b⟩ := id hM2
      refine z_iload X d_Mod_make_19 rfl ?_
      refine z_iload_n X d_Mod_make_21 rfl ?_
      refine z_icmp_ge (tgt := 66) X d_Mod_make_22 (by decide) (by omega) (fun q1 => ?_) (fun q1 => ?_)
      · refine z_iconst X d_Mod_make_66 ?_
        refine e_istore X d_Mod_make_67 (by decide) ?_
        have hkn : k9 = a := by omega
        subst hkn
        exact loop2 _ 0 Md1 _ (Nat.lt_succ_self _) (Nat.zero_le _) hM2 hx hf
      · refine e_aload_n X d_Mod_make_25 rfl ?_
        refine e_get X d_Mod_make_26 fl_Mod_27 d42b (by omega) rfl ?_
        refine e_aload_n X d_Mod_make_29 rfl ?_
        refine e_get X d_Mod_make_30 fl_Mod_96 d42b (by omega) rfl ?_
        refine e_aload_n X d_Mod_make_33 rfl ?_
        refine e_get X d_Mod_make_34 fl_Mod_7 d42b (by omega) rfl ?_
        refine z_sipush X d_Mod_make_37 (by decide) ?_
        refine e_aload_n X d_Mod_make_40 rfl ?_
        refine e_get X d_Mod_make_41 fl_Mod_48 d42b (by omega) rfl ?_
        refine z_imul X d_Mod_make_44 ?_
        refine z_iload X d_Mod_make_45 rfl ?_
        refine z_iadd X d_Mod_make_47 ?_
        refine z_iald X d_Mod_make_48 (j := ((160 * nw) + k9)) d43b (by omega) (by omega) (by omega) ?_
        refine z_top (show _ = (t k9) from hl2 k9 (by omega)) ?_
        refine z_iast X d_Mod_make_49 (j := k9) d47b (by omega) (by omega) (by omega) (fun h61 c62 fr63 => ?_)
        have c64 := (fr63 42 (by omega)).trans d42b
        have c65 := (fr63 43 (by omega)).trans d43b
        have c66 := (fr63 44 (by omega)).trans d44b
        have c67 := (fr63 45 (by omega)).trans d45b
        have c68 := (fr63 46 (by omega)).trans d46b
        have c69 := (fr63 48 (by omega)).trans d48b
        have c70 := (fr63 49 (by omega)).trans d49b
        have c71 := (fr63 50 (by omega)).trans d50b
        have c72 := (fr63 51 (by omega)).trans d51b
        refine e_aload_n X d_Mod_make_50 rfl ?_
        refine e_dup X d_Mod_make_51 rfl ?_
        refine e_get X d_Mod_make_52 fl_Mod_96 c64 (by omega) rfl ?_
        refine z_iconst X d_Mod_make_55 ?_
        refine z_iadd X d_Mod_make_56 ?_
        refine z_top (show _ = ((k9 + 1 : Nat) : Int) by omega) ?_
        refine z_put X d_Mod_make_57 fl_Mod_96 c64 (by omega) (Nat.le_of_ble_eq_true rfl) rfl rfl (fun h73 c74 fr75 => ?_)
        have c74 : h73 42 = ob ci_Mod [.ref (ad (g_b G) 43), .ref (ad (g_b G) 44), vI ((nw : Nat) : Int), vI (last), .ref (ad (g_b G) 45), .ref (ad (g_b G) 46), vI (cl), vI (g), vI (o), .ref (ad (g_b G) 47), vI ((k9 + 1 : Nat) : Int), vI (pts), .ref (ad (g_b G) 48), .ref (ad (g_b G) 49), vI (its), .ref (ad (g_b G) 50), .ref (ad (g_b G) 51), vI (en)] := c74
        have c76 := (fr75 43 (by omega)).trans c65
        have c77 := (fr75 44 (by omega)).trans c66
        have c78 := (fr75 45 (by omega)).trans c67
        have c79 := (fr75 46 (by omega)).trans c68
        have c80 := (fr75 47 (by omega)).trans c62
        have c81 := (fr75 48 (by omega)).trans c69
        have c82 := (fr75 49 (by omega)).trans c70
        have c83 := (fr75 50 (by omega)).trans c71
        have c84 := (fr75 51 (by omega)).trans c72
        refine z_iinc X d_Mod_make_60 rfl (by decide) ?_
        refine e_goto (tgt := 19) X d_Mod_make_63 (by decide) ?_
        exact ih (k9 + 1) (zup Md1 (k9) (t k9)) _ (by omega) (by omega) (by exact ⟨c74, c76, c77, c78, c79, c80, c81, c82, c83, c84⟩) (zup_x hx (ed_lo (by omega))) (fun q q1 => ((fr75 q (by omega)).trans (fr63 q (by omega))).trans (hf q q1))
  exact loop1 _ 0 Md _ (Nat.lt_succ_self _) (Nat.zero_le _) ⟨c2, c4, c5, c6, c7, c8, c9, c10, c11, c12⟩ (fun q hq => absurd hq (Nat.not_lt_zero _)) (fun q q1 => fr3 q (by omega))

set_option maxRecDepth 100000 in
set_option maxHeartbeats 4000000 in
theorem c_Mod_show {l : Launch} {G : lx_G} {N : Nat} {h : Nat → va_E} {U Ls K C : Nat → Int} {now last cl g o en : Int} {Md : Nat → Int} {pts its : Int} {m9 : Nat} {PP CD PL AT : Nat → Int} {s : Nat} (hM : MC G h U Ls K C now last cl g o en Md ((m9 : Nat) : Int) pts its PP CD PL AT) (hN : 52 ≤ N) (hs : s < 13) (hm9 : m9 ≤ 160) : CtV l G m_Mod_show N [.ref (ad (g_b G) 42), vI ((s : Nat) : Int)] h (fun h' => (∃ U', MC G h' U' (zup Ls s ((m9 : Nat) : Int)) K C now last cl g o en Md ((m9 : Nat) : Int) pts its PP CD PL AT ∧ (∀ k, k < m9 → U' (160 * s + k) = Md k) ∧ ∀ q, (q < 160 * s ∨ 160 * s + 160 ≤ q) → U' q = U q) ∧ ∀ q, (q < 42 ∨ 52 ≤ q) → h' q = h q) := by
  refine zV_of (by decide) rfl rfl ?_
  intro k X Q
  have X : Cx k G R_Mod b_Mod_show 3 rm_Mod_show := X
  have Q : Rt k G none N 0 0 (pV (fun h' => (∃ U', MC G h' U' (zup Ls s ((m9 : Nat) : Int)) K C now last cl g o en Md ((m9 : Nat) : Int) pts its PP CD PL AT ∧ (∀ k, k < m9 → U' (160 * s + k) = Md k) ∧ ∀ q, (q < 160 * s ∨ 160 * s + 160 ≤ q) → U' q = U q) ∧ ∀ q, (q < 42 ∨ 52 ≤ q) → h' q = h q)) := Q
  show Ev k G 3 N 0 0 h 0 [some (.ref (ad (g_b G) 42)), some (vI ((s : Nat) : Int)), none] []
  obtain ⟨d42, d43, d44, d45, d46, d47, d48, d49, d50, d51⟩ := id hM
  refine z_iconst X d_Mod_show_0 ?_
  refine e_istore_n X d_Mod_show_1 (by decide) ?_
  have loop : ∀ (d9 : Nat) (k9 : Nat) (U1 : Nat → Int) (h2 : Nat → va_E), m9 - k9 < d9 → k9 ≤ m9 → MC G h2 U1 Ls K C now last cl g o en Md ((m9 : Nat) : Int) pts its PP CD PL AT → (∀ k, k < k9 → U1 (160 * s + k) = Md k) → (∀ q, (q < 160 * s ∨ 160 * s + 160 ≤ q) → U1 q = U q) → (∀ q, (q < 42 ∨ 52 ≤ q) → h2 q = h q) → Ev k G 3 N 0 0 h2 2 [some (.ref (ad (g_b G) 42)), some (vI ((s : Nat) : Int)), some (vI ((k9 : Nat) : Int))] [] := by
    intro d9
    induction d9 with
    | zero =>
      intro k9 U1 h2 hm9
      exact absurd hm9 (Nat.not_lt_zero _)
    | succ d9 ih =>
      intro k9 U1 h2 hm9 hk hM2 hu1 hu2 hf
      obtain ⟨d42b, d43b, d44b, d45b, d46b, d47b, d48b, d49b, d50b, d51b⟩ := id hM2
      refine z_iload_n X d_Mod_show_2 rfl ?_
      refine e_aload_n X d_Mod_show_3 rfl ?_
      refine e_get X d_Mod_show_4 fl_Mod_96 d42b (by omega) rfl ?_
      refine z_icmp_ge (tgt := 34) X d_Mod_show_7 (by decide) (by omega) (fun q1 => ?_) (fun q1 => ?_)
      · have hkn : k9 = m9 := by omega
        subst hkn
        refine e_aload_n X d_Mod_show_34 rfl ?_
        refine e_get X d_Mod_show_35 fl_Mod_13 d42b (by omega) rfl ?_
        refine z_iload_n X d_Mod_show_38 rfl ?_
        refine e_aload_n X d_Mod_show_39 rfl ?_
        refine e_get X d_Mod_show_40 fl_Mod_96 d42b (by omega) rfl ?_
        refine z_iast X d_Mod_show_43 (j := s) d44b (by omega) (by omega) (by omega) (fun h1 c2 fr3 => ?_)
        have c4 := (fr3 42 (by omega)).trans d42b
        have c5 := (fr3 43 (by omega)).trans d43b
        have c6 := (fr3 45 (by omega)).trans d45b
        have c7 := (fr3 46 (by omega)).trans d46b
        have c8 := (fr3 47 (by omega)).trans d47b
        have c9 := (fr3 48 (by omega)).trans d48b
        have c10 := (fr3 49 (by omega)).trans d49b
        have c11 := (fr3 50 (by omega)).trans d50b
        have c12 := (fr3 51 (by omega)).trans d51b
        exact z_return X Q d_Mod_show_44 ⟨⟨U1, ⟨c4, c5, c2, c6, c7, c8, c9, c10, c11, c12⟩, hu1, hu2⟩, fun q q1 => (fr3 q (by omega)).trans (hf q q1)⟩
      · refine e_aload_n X d_Mod_show_10 rfl ?_
        refine e_get X d_Mod_show_11 fl_Mod_7 d42b (by omega) rfl ?_
        refine z_sipush X d_Mod_show_14 (by decide) ?_
        refine z_iload_n X d_Mod_show_17 rfl ?_
        refine z_imul X d_Mod_show_18 ?_
        refine z_iload_n X d_Mod_show_19 rfl ?_
        refine z_iadd X d_Mod_show_20 ?_
        refine e_aload_n X d_Mod_show_21 rfl ?_
        refine e_get X d_Mod_show_22 fl_Mod_27 d42b (by omega) rfl ?_
        refine z_iload_n X d_Mod_show_25 rfl ?_
        refine z_iald X d_Mod_show_26 (j := k9) d47b (by omega) (by omega) (by omega) ?_
        refine z_iast X d_Mod_show_27 (j := ((160 * s) + k9)) d43b (by omega) (by omega) (by omega) (fun h13 c14 fr15 => ?_)
        have c16 := (fr15 42 (by omega)).trans d42b
        have c17 := (fr15 44 (by omega)).trans d44b
        have c18 := (fr15 45 (by omega)).trans d45b
        have c19 := (fr15 46 (by omega)).trans d46b
        have c20 := (fr15 47 (by omega)).trans d47b
        have c21 := (fr15 48 (by omega)).trans d48b
        have c22 := (fr15 49 (by omega)).trans d49b
        have c23 := (fr15 50 (by omega)).trans d50b
        have c24 := (fr15 51 (by omega)).trans d51b
        refine z_iinc X d_Mod_show_28 rfl (by decide) ?_
        refine e_goto (tgt := 2) X d_Mod_show_31 (by decide) ?_
        exact ih (k9 + 1) _ _ (by omega) (by omega) ⟨c16, c14, c17, c18, c19, c20, c21, c22, c23, c24⟩ (fun k hk => by rcases Nat.lt_or_ge k k9 with h9 | h9; rw [zup_ne (by omega)]; exact hu1 k h9; rw [show k = k9 by omega, zup_eq]) (fun q q1 => by rw [zup_ne (by omega)]; exact hu2 q q1) (fun q q1 => (fr15 q (by omega)).trans (hf q q1))
  exact loop _ 0 U _ (Nat.lt_succ_self _) (Nat.zero_le _) hM (fun q hq => absurd hq (Nat.not_lt_zero _)) (fun q _ => rfl) (fun q _ => rfl)

set_option maxRecDepth 100000 in
set_option maxHeartbeats 4000000 in
theorem c_Mod_copy {l : Launch} {G : lx_G} {N : Nat} {h : Nat → va_E} {U Ls K C : Nat → Int} {now last cl g o en : Int} {Md : Nat → Int} {ml pts its : Int} {PP CD PL AT : Nat → Int} {a b n : Nat} (hM : MC G h U Ls K C now last cl g o en Md ml pts its PP CD PL AT) (hN : 52 ≤ N) (hab : a < 13 ∧ b < 13 ∧ a ≠ b) (hl0 : Ls a = ((n : Nat) : Int)) (hl1 : n ≤ 160) : CtV l G m_Mod_copy N [.ref (ad (g_b G) 42), vI ((a : Nat) : Int), vI ((b : Nat) : Int)] h (fun h' => (∃ U', MC G h' U' (zup Ls b ((n : Nat) : Int)) K C now last cl g o en Md ml pts its PP CD PL AT ∧ (∀ k, k < n → U' (160 * b + k) = U (160 * a + k)) ∧ ∀ q, (q < 160 * b ∨ 160 * b + 160 ≤ q) → U' q = U q) ∧ ∀ q, (q < 42 ∨ 52 ≤ q) → h' q = h q) := by
  refine zV_of (by decide) rfl rfl ?_
  intro k X Q
  have X : Cx k G R_Mod b_Mod_copy 4 rm_Mod_copy := X
  have Q : Rt k G none N 0 0 (pV (fun h' => (∃ U', MC G h' U' (zup Ls b ((n : Nat) : Int)) K C now last cl g o en Md ml pts its PP CD PL AT ∧ (∀ k, k < n → U' (160 * b + k) = U (160 * a + k)) ∧ ∀ q, (q < 160 * b ∨ 160 * b + 160 ≤ q) → U' q = U q) ∧ ∀ q, (q < 42 ∨ 52 ≤ q) → h' q = h q)) := Q
  show Ev k G 4 N 0 0 h 0 [some (.ref (ad (g_b G) 42)), some (vI ((a : Nat) : Int)), some (vI ((b : Nat) : Int)), none] []
  refine z_iconst X d_Mod_copy_0 ?_
  refine e_istore_n X d_Mod_copy_1 (by decide) ?_
  have loop : ∀ (d9 : Nat) (k9 : Nat) (U1 : Nat → Int) (h2 : Nat → va_E), n - k9 < d9 → k9 ≤ n → MC G h2 U1 Ls K C now last cl g o en Md ml pts its PP CD PL AT → (∀ k, k < k9 → U1 (160 * b + k) = U (160 * a + k)) → (∀ q, (q < 160 * b ∨ 160 * b + 160 ≤ q) → U1 q = U q) → (∀ q, (q < 42 ∨ 52 ≤ q) → h2 q = h q) → Ev k G 4 N 0 0 h2 2 [some (.ref (ad (g_b G) 42)), some (vI ((a : Nat) : Int)), some (vI ((b : Nat) : Int)), some (vI ((k9 : Nat) : Int))] [] := by
    intro d9
    induction d9 with
    | zero =>
      intro k9 U1 h2 hm9
      exact absurd hm9 (Nat.not_lt_zero _)
    | succ d9 ih =>
      intro k9 U1 h2 hm9 hk hM2 hu1 hu2 hf
      obtain ⟨d42b, d43b, d44b, d45b, d46b, d47b, d48b, d49b, d50b, d51b⟩ := id hM2
      refine z_iload_n X d_Mod_copy_2 rfl ?_
      refine e_aload_n X d_Mod_copy_3 rfl ?_
      refine e_get X d_Mod_copy_4 fl_Mod_13 d42b (by omega) rfl ?_
      refine z_iload_n X d_Mod_copy_7 rfl ?_
      refine z_iald X d_Mod_copy_8 (j := a) d44b (by omega) (by omega) (by omega) ?_
      refine z_top (show _ = ((n : Nat) : Int) from hl0) ?_
      refine z_icmp_ge (tgt := 42) X d_Mod_copy_9 (by decide) (by omega) (fun q1 => ?_) (fun q1 => ?_)
      · have hkn : k9 = n := by omega
        subst hkn
        refine e_aload_n X d_Mod_copy_42 rfl ?_
        refine e_get X d_Mod_copy_43 fl_Mod_13 d42b (by omega) rfl ?_
        refine z_iload_n X d_Mod_copy_46 rfl ?_
        refine e_aload_n X d_Mod_copy_47 rfl ?_
        refine e_get X d_Mod_copy_48 fl_Mod_13 d42b (by omega) rfl ?_
        refine z_iload_n X d_Mod_copy_51 rfl ?_
        refine z_iald X d_Mod_copy_52 (j := a) d44b (by omega) (by omega) (by omega) ?_
        refine z_top (show _ = ((k9 : Nat) : Int) from hl0) ?_
        refine z_iast X d_Mod_copy_53 (j := b) d44b (by omega) (by omega) (by omega) (fun h1 c2 fr3 => ?_)
        have c4 := (fr3 42 (by omega)).trans d42b
        have c5 := (fr3 43 (by omega)).trans d43b
        have c6 := (fr3 45 (by omega)).trans d45b
        have c7 := (fr3 46 (by omega)).trans d46b
        have c8 := (fr3 47 (by omega)).trans d47b
        have c9 := (fr3 48 (by omega)).trans d48b
        have c10 := (fr3 49 (by omega)).trans d49b
        have c11 := (fr3 50 (by omega)).trans d50b
        have c12 := (fr3 51 (by omega)).trans d51b
        exact z_return X Q d_Mod_copy_54 ⟨⟨U1, ⟨c4, c5, c2, c6, c7, c8, c9, c10, c11, c12⟩, hu1, hu2⟩, fun q q1 => (fr3 q (by omega)).trans (hf q q1)⟩
      · refine e_aload_n X d_Mod_copy_12 rfl ?_
        refine e_get X d_Mod_copy_13 fl_Mod_7 d42b (by omega) rfl ?_
        refine z_sipush X d_Mod_copy_16 (by decide) ?_
        refine z_iload_n X d_Mod_copy_19 rfl ?_
        refine z_imul X d_Mod_copy_20 ?_
        refine z_iload_n X d_Mod_copy_21 rfl ?_
        refine z_iadd X d_Mod_copy_22 ?_
        refine e_aload_n X d_Mod_copy_23 rfl ?_
        refine e_get X d_Mod_copy_24 fl_Mod_7 d42b (by omega) rfl ?_
        refine z_sipush X d_Mod_copy_27 (by decide) ?_
        refine z_iload_n X d_Mod_copy_30 rfl ?_
        refine z_imul X d_Mod_copy_31 ?_
        refine z_iload_n X d_Mod_copy_32 rfl ?_
        refine z_iadd X d_Mod_copy_33 ?_
        refine z_iald X d_Mod_copy_34 (j := ((160 * a) + k9)) d43b (by omega) (by omega) (by omega) ?_
        refine z_top (show _ = (U (160 * a + k9)) from hu2 _ (by omega)) ?_
        refine z_iast X d_Mod_copy_35 (j := ((160 * b) + k9)) d43b (by omega) (by omega) (by omega) (fun h13 c14 fr15 => ?_)
        have c16 := (fr15 42 (by omega)).trans d42b
        have c17 := (fr15 44 (by omega)).trans d44b
        have c18 := (fr15 45 (by omega)).trans d45b
        have c19 := (fr15 46 (by omega)).trans d46b
        have c20 := (fr15 47 (by omega)).trans d47b
        have c21 := (fr15 48 (by omega)).trans d48b
        have c22 := (fr15 49 (by omega)).trans d49b
        have c23 := (fr15 50 (by omega)).trans d50b
        have c24 := (fr15 51 (by omega)).trans d51b
        refine z_iinc X d_Mod_copy_36 rfl (by decide) ?_
        refine e_goto (tgt := 2) X d_Mod_copy_39 (by decide) ?_
        exact ih (k9 + 1) _ _ (by omega) (by omega) ⟨c16, c14, c17, c18, c19, c20, c21, c22, c23, c24⟩ (fun k hk => by rcases Nat.lt_or_ge k k9 with h9 | h9; rw [zup_ne (by omega)]; exact hu1 k h9; rw [show k = k9 by omega, zup_eq]) (fun q q1 => by rw [zup_ne (by omega)]; exact hu2 q q1) (fun q q1 => (fr15 q (by omega)).trans (hf q q1))
  exact loop _ 0 U _ (Nat.lt_succ_self _) (Nat.zero_le _) hM (fun q hq => absurd hq (Nat.not_lt_zero _)) (fun q _ => rfl) (fun q _ => rfl)

set_option maxRecDepth 100000 in
set_option maxHeartbeats 4000000 in
theorem c_Mod_isPlace {l : Launch} {G : lx_G} {N : Nat} {h : Nat → va_E} {U Ls K C : Nat → Int} {nw : Nat} {last cl g o en : Int} {Md : Nat → Int} {ml pts its : Int} {PP CD PL AT : Nat → Int} {n : Nat} {t : Nat → Int} {a : Int} (hM : MC G h U Ls K C ((nw : Nat) : Int) last cl g o en Md ml pts its PP CD PL AT) (hN : 52 ≤ N) (hnw : nw ≤ 8) (hS : Sl U Ls nw (n, t)) (hr_a : -2147483648 ≤ a ∧ a < 2147483648) : CtI l G m_Mod_isPlace N [.ref (ad (g_b G) 42), vI (a)] h (fun z h' => z = b2z (decide (0 ≤ a) && decide (a ≤ ((n : Nat) : Int))) ∧ h' = h) := by
  refine zI_of (by decide) rfl rfl ?_
  intro k X Q
  have X : Cx k G R_Mod b_Mod_isPlace 2 rm_Mod_isPlace := X
  have Q : Rt k G (some (.boolean)) N 0 0 (pI (fun z h' => z = b2z (decide (0 ≤ a) && decide (a ≤ ((n : Nat) : Int))) ∧ h' = h)) := Q
  show Ev k G 2 N 0 0 h 0 [some (.ref (ad (g_b G) 42)), some (vI (a))] []
  obtain ⟨d42, d43, d44, d45, d46, d47, d48, d49, d50, d51⟩ := id hM
  obtain ⟨hl0, hl1, -, -⟩ := hS
  dsimp only at hl0 hl1
  refine z_iload_n X d_Mod_isPlace_0 rfl ?_
  refine z_if_lt (tgt := 21) X d_Mod_isPlace_1 (by decide) (by omega) (fun q1 => ?_) (fun q1 => ?_)
  · refine z_iconst X d_Mod_isPlace_21 ?_
    exact z_ireturn X Q d_Mod_isPlace_22 rfl ⟨(b2z_f (by rw [decide_eq_false (show ¬ 0 ≤ a by omega)]; rfl)).symm, rfl⟩
  · refine z_iload_n X d_Mod_isPlace_4 rfl ?_
    refine e_aload_n X d_Mod_isPlace_5 rfl ?_
    refine e_get X d_Mod_isPlace_6 fl_Mod_13 d42 (by omega) rfl ?_
    refine e_aload_n X d_Mod_isPlace_9 rfl ?_
    refine e_get X d_Mod_isPlace_10 fl_Mod_48 d42 (by omega) rfl ?_
    refine z_iald X d_Mod_isPlace_13 (j := nw) d44 (by omega) (by omega) (by omega) ?_
    refine z_top (show _ = ((n : Nat) : Int) from hl0) ?_
    refine z_icmp_gt (tgt := 21) X d_Mod_isPlace_14 (by decide) (by omega) (fun q2 => ?_) (fun q2 => ?_)
    · refine z_iconst X d_Mod_isPlace_21 ?_
      exact z_ireturn X Q d_Mod_isPlace_22 rfl ⟨(b2z_f (by rw [decide_eq_false (show ¬ a ≤ ((n : Nat) : Int) by omega), Bool.and_false])).symm, rfl⟩
    · refine z_iconst X d_Mod_isPlace_17 ?_
      refine e_goto (tgt := 22) X d_Mod_isPlace_18 (by decide) ?_
      exact z_ireturn X Q d_Mod_isPlace_22 rfl ⟨(b2z_t (by rw [decide_eq_true q1, decide_eq_true q2]; rfl)).symm, rfl⟩

def slz (nw : Nat) (kp : Nat → Bool) (v : Int) : Int := if isv kp v then (if v = 0 then ((nw : Nat) : Int) else 8 + v) else -1
set_option maxRecDepth 100000 in
set_option maxHeartbeats 4000000 in
theorem c_Mod_slot {l : Launch} {G : lx_G} {N : Nat} {h : Nat → va_E} {U Ls K C : Nat → Int} {nw : Nat} {last cl g o en : Int} {Md : Nat → Int} {ml pts its : Int} {PP CD PL AT : Nat → Int} {kp : Nat → Bool} {v : Int} (hM : MC G h U Ls K C ((nw : Nat) : Int) last cl g o en Md ml pts its PP CD PL AT) (hN : 52 ≤ N) (hK : ∀ j, 1 ≤ j → j ≤ 4 → K j = b2z (kp j)) (hr_v : -2147483648 ≤ v ∧ v < 2147483648) : CtI l G m_Mod_slot N [.ref (ad (g_b G) 42), vI (v)] h (fun z h' => z = slz nw kp v ∧ h' = h) := by
  refine zI_of (by decide) rfl rfl ?_
  intro k X Q
  have X : Cx k G R_Mod b_Mod_slot 2 rm_Mod_slot := X
  have Q : Rt k G (some (.int)) N 0 0 (pI (fun z h' => z = slz nw kp v ∧ h' = h)) := Q
  show Ev k G 2 N 0 0 h 0 [some (.ref (ad (g_b G) 42)), some (vI (v))] []
  obtain ⟨d42, d43, d44, d45, d46, d47, d48, d49, d50, d51⟩ := id hM
  refine z_iload_n X d_Mod_slot_0 rfl ?_
  refine z_if_ne (tgt := 9) X d_Mod_slot_1 (by decide) (by omega) (fun q1 => ?_) (fun q1 => ?_)
  · refine z_iload_n X d_Mod_slot_9 rfl ?_
    refine z_iconst X d_Mod_slot_10 ?_
    refine z_icmp_lt (tgt := 28) X d_Mod_slot_11 (by decide) (by omega) (fun q2 => ?_) (fun q2 => ?_)
    · refine z_iconst X d_Mod_slot_28 ?_
      refine e_goto (tgt := 36) X d_Mod_slot_29 (by decide) ?_
      exact z_ireturn X Q d_Mod_slot_36 rfl ⟨by unfold slz; rw [show isv kp v = false by unfold isv; rw [decide_eq_false (show ¬ v = 0 by omega), decide_eq_false (show ¬ (1 ≤ v ∧ v ≤ 4) by omega)]; rfl]; rfl, rfl⟩
    · refine z_iload_n X d_Mod_slot_14 rfl ?_
      refine z_iconst X d_Mod_slot_15 ?_
      refine z_icmp_gt (tgt := 28) X d_Mod_slot_16 (by decide) (by omega) (fun q3 => ?_) (fun q3 => ?_)
      · refine z_iconst X d_Mod_slot_28 ?_
        refine e_goto (tgt := 36) X d_Mod_slot_29 (by decide) ?_
        exact z_ireturn X Q d_Mod_slot_36 rfl ⟨by unfold slz; rw [show isv kp v = false by unfold isv; rw [decide_eq_false (show ¬ v = 0 by omega), decide_eq_false (show ¬ (1 ≤ v ∧ v ≤ 4) by omega)]; rfl]; rfl, rfl⟩
      · obtain ⟨j, rfl⟩ : ∃ j : Nat, v = (j : Int) := ⟨v.toNat, by omega⟩
        refine e_aload_n X d_Mod_slot_19 rfl ?_
        refine e_get X d_Mod_slot_20 fl_Mod_16 d42 (by omega) rfl ?_
        refine z_iload_n X d_Mod_slot_23 rfl ?_
        refine z_zald X d_Mod_slot_24 (j := j) d45 (by omega) (by omega) (by omega) ?_
        refine z_top (show _ = (b2z (kp j)) from hK j (by omega) (by omega)) ?_
        have hiv : isv kp ((j : Nat) : Int) = kp j := by unfold isv; rw [decide_eq_false (show ¬ ((j : Nat) : Int) = 0 by omega), decide_eq_true (show 1 ≤ ((j : Nat) : Int) ∧ ((j : Nat) : Int) ≤ 4 by omega), Bool.false_or, Bool.true_and]; rfl
        refine z_if_ne (tgt := 32) X d_Mod_slot_25 (by decide) (b2z_r _) (fun q4 => ?_) (fun q4 => ?_)
        · refine z_bipush X d_Mod_slot_32 (by decide) ?_
          refine z_iload_n X d_Mod_slot_34 rfl ?_
          refine z_iadd X d_Mod_slot_35 ?_
          exact z_ireturn X Q d_Mod_slot_36 rfl ⟨by unfold slz; rw [hiv, b2z_ne q4, if_pos rfl, if_neg (by omega)], rfl⟩
        · refine z_iconst X d_Mod_slot_28 ?_
          refine e_goto (tgt := 36) X d_Mod_slot_29 (by decide) ?_
          exact z_ireturn X Q d_Mod_slot_36 rfl ⟨by unfold slz; rw [hiv, b2z_eq q4]; rfl, rfl⟩
  · refine e_aload_n X d_Mod_slot_4 rfl ?_
    refine e_get X d_Mod_slot_5 fl_Mod_48 d42 (by omega) rfl ?_
    exact z_ireturn X Q d_Mod_slot_8 rfl ⟨by unfold slz; rw [show isv kp v = true by unfold isv; rw [decide_eq_true q1]; rfl, if_pos rfl, if_pos q1], rfl⟩

