/-! VersionedTextModel: its cell 42, its rows 43 .. 51 -/
def MC (G : lx_G) (h : Nat → va_E) (U Ls K C : Nat → Int) (now last cl g o en : Int) (Md : Nat → Int) (ml pts its : Int) (PP CD PL AT : Nat → Int) : Prop :=
  h 42 = ob ci_Mod [.ref (ad (g_b G) 43), .ref (ad (g_b G) 44), vI now, vI last, .ref (ad (g_b G) 45), .ref (ad (g_b G) 46), vI cl, vI g, vI o, .ref (ad (g_b G) 47), vI ml, vI pts, .ref (ad (g_b G) 48), .ref (ad (g_b G) 49), vI its, .ref (ad (g_b G) 50), .ref (ad (g_b G) 51), vI en] ∧ h 43 = rI G 2080 U ∧ h 44 = rI G 13 Ls ∧ h 45 = rZ G 5 K ∧ h 46 = rI G 24 C ∧ h 47 = rI G 160 Md ∧ h 48 = rI G 161 PP ∧ h 49 = rI G 161 CD ∧ h 50 = rI G 162 PL ∧ h 51 = rZ G 161 AT
/-- slot s of the reference holds the text x -/
def Sl (U Ls : Nat → Int) (s : Nat) (x : tx_T) : Prop := Ls s = ((x.1 : Nat) : Int) ∧ x.1 ≤ 160 ∧ (∀ k, k < x.1 → U (160 * s + k) = x.2 k) ∧ tx_ok x.1 x.2
set_option maxRecDepth 100000 in
set_option maxHeartbeats 4000000 in
theorem c_Mod_begin {l : Launch} {G : lx_G} {N : Nat} {h : Nat → va_E} {U Ls K C : Nat → Int} {now last cl g o en : Int} {Md : Nat → Int} {ml pts : Int} {PP CD PL AT : Nat → Int} {it : Nat} {a : Int} (hM : MC G h U Ls K C now last cl g o en Md ml pts ((it : Nat) : Int) PP CD PL AT) (hN : 52 ≤ N) (hit : it < 162) : CtV l G m_Mod_begin N [.ref (ad (g_b G) 42), vI (a)] h (fun h' => MC G h' U Ls K C now last cl g o en Md ml pts ((it + 1 : Nat) : Int) PP CD (zup PL it a) AT ∧ ∀ q, (q < 42 ∨ 52 ≤ q) → h' q = h q) := by
  refine zV_of (by decide) rfl rfl ?_
  intro k X Q
  have X : Cx k G R_Mod b_Mod_begin 2 rm_Mod_begin := X
  have Q : Rt k G none N 0 0 (pV (fun h' => MC G h' U Ls K C now last cl g o en Md ml pts ((it + 1 : Nat) : Int) PP CD (zup PL it a) AT ∧ ∀ q, (q < 42 ∨ 52 ≤ q) → h' q = h q)) := Q
  show Ev k G 2 N 0 0 h 0 [some (.ref (ad (g_b G) 42)), some (vI (a))] []
  obtain ⟨d42, d43, d44, d45, d46, d47, d48, d49, d50, d51⟩ := id hM
  refine e_aload_n X d_Mod_begin_0 rfl ?_
  refine e_get X d_Mod_begin_1 fl_Mod_36 d42 (by omega) rfl ?_
  refine e_aload_n X d_Mod_begin_4 rfl ?_
  refine e_get X d_Mod_begin_5 fl_Mod_73 d42 (by omega) rfl ?_
  refine z_iload_n X d_Mod_begin_8 rfl ?_
  refine z_iast X d_Mod_begin_9 (j := it) d50 (by omega) (by omega) (by omega) (fun h1 c2 fr3 => ?_)
  have c4 := (fr3 42 (by omega)).trans d42
  have c5 := (fr3 43 (by omega)).trans d43
  have c6 := (fr3 44 (by omega)).trans d44
  have c7 := (fr3 45 (by omega)).trans d45
  have c8 := (fr3 46 (by omega)).trans d46
  have c9 := (fr3 47 (by omega)).trans d47
  have c10 := (fr3 48 (by omega)).trans d48
  have c11 := (fr3 49 (by omega)).trans d49
  have c12 := (fr3 51 (by omega)).trans d51
  refine e_aload_n X d_Mod_begin_10 rfl ?_
  refine e_dup X d_Mod_begin_11 rfl ?_
  refine e_get X d_Mod_begin_12 fl_Mod_73 c4 (by omega) rfl ?_
  refine z_iconst X d_Mod_begin_15 ?_
  refine z_iadd X d_Mod_begin_16 ?_
  refine z_top (show _ = ((it + 1 : Nat) : Int) by omega) ?_
  refine z_put X d_Mod_begin_17 fl_Mod_73 c4 (by omega) (Nat.le_of_ble_eq_true rfl) rfl rfl (fun h13 c14 fr15 => ?_)
  have c14 : h13 42 = ob ci_Mod [.ref (ad (g_b G) 43), .ref (ad (g_b G) 44), vI (now), vI (last), .ref (ad (g_b G) 45), .ref (ad (g_b G) 46), vI (cl), vI (g), vI (o), .ref (ad (g_b G) 47), vI (ml), vI (pts), .ref (ad (g_b G) 48), .ref (ad (g_b G) 49), vI ((it + 1 : Nat) : Int), .ref (ad (g_b G) 50), .ref (ad (g_b G) 51), vI (en)] := c14
  have c16 := (fr15 43 (by omega)).trans c5
  have c17 := (fr15 44 (by omega)).trans c6
  have c18 := (fr15 45 (by omega)).trans c7
  have c19 := (fr15 46 (by omega)).trans c8
  have c20 := (fr15 47 (by omega)).trans c9
  have c21 := (fr15 48 (by omega)).trans c10
  have c22 := (fr15 49 (by omega)).trans c11
  have c23 := (fr15 50 (by omega)).trans c2
  have c24 := (fr15 51 (by omega)).trans c12
  exact z_return X Q d_Mod_begin_20 ⟨⟨c14, c16, c17, c18, c19, c20, c21, c22, c23, c24⟩, fun q q1 => (fr15 q (by omega)).trans (fr3 q (by omega))⟩

theorem codes_t {t c : Nat → Int} {k : Nat} (h : ∀ q, q < k → bg1 t q = true → c (cnt (bg1 t) q) = cod t q) (hb : bg1 t k = true) : ∀ q, q < k + 1 → bg1 t q = true → zup c (cnt (bg1 t) k) (cod t k) (cnt (bg1 t) q) = cod t q := by
  intro q hq hbq
  rcases Nat.lt_or_ge q k with h1 | h1
  · rw [zup_ne (by have := cnt_lt hbq h1; omega)]
    exact h q h1 hbq
  · rw [show q = k by omega, zup_eq]
theorem codes_f {t c : Nat → Int} {k : Nat} (h : ∀ q, q < k → bg1 t q = true → c (cnt (bg1 t) q) = cod t q) (hb : bg1 t k = false) : ∀ q, q < k + 1 → bg1 t q = true → c (cnt (bg1 t) q) = cod t q := by
  intro q hq hbq
  rcases Nat.lt_or_ge q k with h1 | h1
  · exact h q h1 hbq
  · rw [show q = k by omega, hb] at hbq
    cases hbq
set_option maxRecDepth 100000 in
set_option maxHeartbeats 4000000 in
theorem c_Mod_findPoints {l : Launch} {G : lx_G} {N : Nat} {h : Nat → va_E} {U Ls K C : Nat → Int} {now last cl g o en : Int} {Md : Nat → Int} {ml pts its : Int} {PP CD PL AT : Nat → Int} {s n : Nat} {t : Nat → Int} (hM : MC G h U Ls K C now last cl g o en Md ml pts its PP CD PL AT) (hN : 52 ≤ N) (hs13 : s < 13) (hS : Sl U Ls s (n, t)) : CtV l G m_Mod_findPoints N [.ref (ad (g_b G) 42), vI ((s : Nat) : Int)] h (fun h' => (∃ PP' CD', MC G h' U Ls K C now last cl g o en Md ml ((cnt (bg1 t) n : Nat) : Int) its PP' CD' PL AT ∧ sel (bg1 t) n PP' ∧ ∀ q, q < n → bg1 t q = true → CD' (cnt (bg1 t) q) = cod t q) ∧ ∀ q, (q < 42 ∨ 52 ≤ q) → h' q = h q) := by
  refine zV_of (by decide) rfl rfl ?_
  intro k X Q
  have X : Cx k G R_Mod b_Mod_findPoints 7 rm_Mod_findPoints := X
  have Q : Rt k G none N 0 0 (pV (fun h' => (∃ PP' CD', MC G h' U Ls K C now last cl g o en Md ml ((cnt (bg1 t) n : Nat) : Int) its PP' CD' PL AT ∧ sel (bg1 t) n PP' ∧ ∀ q, q < n → bg1 t q = true → CD' (cnt (bg1 t) q) = cod t q) ∧ ∀ q, (q < 42 ∨ 52 ≤ q) → h' q = h q)) := Q
  show Ev k G 7 N 0 0 h 0 [some (.ref (ad (g_b G) 42)), some (vI ((s : Nat) : Int)), none, none, none, none, none] []
  obtain ⟨d42, d43, d44, d45, d46, d47, d48, d49, d50, d51⟩ := id hM
  obtain ⟨hl0, hl1, hl2, ht⟩ := hS
  dsimp only at hl0 hl1 hl2 ht
  refine e_aload_n X d_Mod_findPoints_0 rfl ?_
  refine z_iconst X d_Mod_findPoints_1 ?_
  refine z_put X d_Mod_findPoints_2 fl_Mod_51 d42 (by omega) (Nat.le_of_ble_eq_true rfl) rfl rfl (fun h1 c2 fr3 => ?_)
  have c2 : h1 42 = ob ci_Mod [.ref (ad (g_b G) 43), .ref (ad (g_b G) 44), vI (now), vI (last), .ref (ad (g_b G) 45), .ref (ad (g_b G) 46), vI (cl), vI (g), vI (o), .ref (ad (g_b G) 47), vI (ml), vI 0, .ref (ad (g_b G) 48), .ref (ad (g_b G) 49), vI (its), .ref (ad (g_b G) 50), .ref (ad (g_b G) 51), vI (en)] := c2
  have c4 := (fr3 43 (by omega)).trans d43
  have c5 := (fr3 44 (by omega)).trans d44
  have c6 := (fr3 45 (by omega)).trans d45
  have c7 := (fr3 46 (by omega)).trans d46
  have c8 := (fr3 47 (by omega)).trans d47
  have c9 := (fr3 48 (by omega)).trans d48
  have c10 := (fr3 49 (by omega)).trans d49
  have c11 := (fr3 50 (by omega)).trans d50
  have c12 := (fr3 51 (by omega)).trans d51
  refine e_aload_n X d_Mod_findPoints_5 rfl ?_
  refine e_get X d_Mod_findPoints_6 fl_Mod_13 c2 (by omega) rfl ?_
  refine z_iload_n X d_Mod_findPoints_9 rfl ?_
  refine z_iald X d_Mod_findPoints_10 (j := s) c5 (by omega) (by omega) (by omega) ?_
  refine z_top (show _ = ((n : Nat) : Int) from hl0) ?_
  refine e_istore_n X d_Mod_findPoints_11 (by decide) ?_
  refine z_iconst X d_Mod_findPoints_12 ?_
  refine e_istore_n X d_Mod_findPoints_13 (by decide) ?_
  have loop : ∀ (d9 : Nat) (k9 : Nat) (PP1 : Nat → Int) (CD1 : Nat → Int) (h2 : Nat → va_E), n - k9 < d9 → k9 ≤ n → (bg1 t k9 = true ∨ k9 = n) → MC G h2 U Ls K C now last cl g o en Md ml ((cnt (bg1 t) k9 : Nat) : Int) its PP1 CD1 PL AT → sel (bg1 t) k9 PP1 → (∀ q, q < k9 → bg1 t q = true → CD1 (cnt (bg1 t) q) = cod t q) → (∀ q, (q < 42 ∨ 52 ≤ q) → h2 q = h q) → Ev k G 7 N 0 0 h2 14 [some (.ref (ad (g_b G) 42)), some (vI ((s : Nat) : Int)), some (vI ((n : Nat) : Int)), some (vI ((k9 : Nat) : Int)), none, none, none] [] := by
    intro d9
    induction d9 with
    | zero =>
      intro k9 PP1 CD1 h2 hm9
      exact absurd hm9 (Nat.not_lt_zero _)
    | succ d9 ih =>
      intro k9 PP1 CD1 h2 hm9 hk hkb hM2 hs1 hs2 hf
      have hcl := cnt_le (B := bg1 t) k9
      obtain ⟨d42b, d43b, d44b, d45b, d46b, d47b, d48b, d49b, d50b, d51b⟩ := id hM2
      refine z_iload_n X d_Mod_findPoints_14 rfl ?_
      refine z_iload_n X d_Mod_findPoints_15 rfl ?_
      refine z_icmp_ge (tgt := 170) X d_Mod_findPoints_16 (by decide) (by omega) (fun q1 => ?_) (fun q1 => ?_)
      · have hkn : k9 = n := by omega
        subst hkn
        exact z_return X Q d_Mod_findPoints_170 ⟨⟨PP1, CD1, hM2, hs1, hs2⟩, hf⟩
      · have hb1 : bg1 t k9 = true := by rcases hkb with h9 | h9; exact h9; omega
        have hr1 := ht.1 k9 (by omega)
        have hr2 := tx_ge ht (k9 + 1)
        refine e_aload_n X d_Mod_findPoints_19 rfl ?_
        refine e_get X d_Mod_findPoints_20 fl_Mod_7 d42b (by omega) rfl ?_
        refine z_sipush X d_Mod_findPoints_23 (by decide) ?_
        refine z_iload_n X d_Mod_findPoints_26 rfl ?_
        refine z_imul X d_Mod_findPoints_27 ?_
        refine z_iload_n X d_Mod_findPoints_28 rfl ?_
        refine z_iadd X d_Mod_findPoints_29 ?_
        refine z_iald X d_Mod_findPoints_30 (j := ((160 * s) + k9)) d43b (by omega) (by omega) (by omega) ?_
        refine z_top (show _ = (t k9) from hl2 k9 (by omega)) ?_
        refine e_istore X d_Mod_findPoints_31 (by decide) ?_
        refine z_iload_n X d_Mod_findPoints_33 rfl ?_
        refine z_iconst X d_Mod_findPoints_34 ?_
        refine z_iadd X d_Mod_findPoints_35 ?_
        refine z_iload_n X d_Mod_findPoints_36 rfl ?_
        refine z_icmp_ge (tgt := 57) X d_Mod_findPoints_37 (by decide) (by omega) (fun q2 => ?_) (fun q2 => ?_)
        · have htn : t (k9 + 1) = -1 := ht.2 _ (by omega)
          refine z_iconst X d_Mod_findPoints_57 ?_
          refine e_istore X d_Mod_findPoints_58 (by decide) ?_
          refine z_iload X d_Mod_findPoints_60 rfl ?_
          refine z_ldc (n := 55296) X d_Mod_findPoints_62 cst_Mod_54 (by decide) ?_
          refine z_icmp_lt (tgt := 92) X d_Mod_findPoints_64 (by decide) (by omega) (fun q13 => ?_) (fun q13 => ?_)
          · refine z_iconst X d_Mod_findPoints_92 ?_
            have hpr : (u_hi (t k9) && u_lo (t (k9 + 1))) = false := by  simp [u_hi, u_lo]; omega
            refine e_istore X d_Mod_findPoints_93 (by decide) ?_
            refine e_aload_n X d_Mod_findPoints_95 rfl ?_
            refine e_get X d_Mod_findPoints_96 fl_Mod_30 d42b (by omega) rfl ?_
            refine e_aload_n X d_Mod_findPoints_99 rfl ?_
            refine e_get X d_Mod_findPoints_100 fl_Mod_51 d42b (by omega) rfl ?_
            refine z_iload_n X d_Mod_findPoints_103 rfl ?_
            refine z_iast X d_Mod_findPoints_104 (j := (cnt (bg1 t) k9)) d48b (by omega) (by omega) (by omega) (fun h14 c15 fr16 => ?_)
            have c17 := (fr16 42 (by omega)).trans d42b
            have c18 := (fr16 43 (by omega)).trans d43b
            have c19 := (fr16 44 (by omega)).trans d44b
            have c20 := (fr16 45 (by omega)).trans d45b
            have c21 := (fr16 46 (by omega)).trans d46b
            have c22 := (fr16 47 (by omega)).trans d47b
            have c23 := (fr16 49 (by omega)).trans d49b
            have c24 := (fr16 50 (by omega)).trans d50b
            have c25 := (fr16 51 (by omega)).trans d51b
            refine e_aload_n X d_Mod_findPoints_105 rfl ?_
            refine e_get X d_Mod_findPoints_106 fl_Mod_33 c17 (by omega) rfl ?_
            refine e_aload_n X d_Mod_findPoints_109 rfl ?_
            refine e_get X d_Mod_findPoints_110 fl_Mod_51 c17 (by omega) rfl ?_
            refine z_iload X d_Mod_findPoints_113 rfl ?_
            refine z_if_eq (tgt := 139) X d_Mod_findPoints_115 (by decide) (by omega) (fun q7 => ?_) (fun q7 => ?_)
            · refine z_iload X d_Mod_findPoints_139 rfl ?_
              refine z_top (show _ = (cod t k9) from (by unfold cod; rw [hpr]; rfl)) ?_
              refine z_iast X d_Mod_findPoints_141 (j := (cnt (bg1 t) k9)) c23 (by omega) (by omega) (by omega) (fun h26 c27 fr28 => ?_)
              have c29 := (fr28 42 (by omega)).trans c17
              have c30 := (fr28 43 (by omega)).trans c18
              have c31 := (fr28 44 (by omega)).trans c19
              have c32 := (fr28 45 (by omega)).trans c20
              have c33 := (fr28 46 (by omega)).trans c21
              have c34 := (fr28 47 (by omega)).trans c22
              have c35 := (fr28 48 (by omega)).trans c15
              have c36 := (fr28 50 (by omega)).trans c24
              have c37 := (fr28 51 (by omega)).trans c25
              refine e_aload_n X d_Mod_findPoints_142 rfl ?_
              refine e_dup X d_Mod_findPoints_143 rfl ?_
              refine e_get X d_Mod_findPoints_144 fl_Mod_51 c29 (by omega) rfl ?_
              refine z_iconst X d_Mod_findPoints_147 ?_
              refine z_iadd X d_Mod_findPoints_148 ?_
              refine z_top (show _ = ((cnt (bg1 t) k9 + 1 : Nat) : Int) by omega) ?_
              refine z_put X d_Mod_findPoints_149 fl_Mod_51 c29 (by omega) (Nat.le_of_ble_eq_true rfl) rfl rfl (fun h38 c39 fr40 => ?_)
              have c39 : h38 42 = ob ci_Mod [.ref (ad (g_b G) 43), .ref (ad (g_b G) 44), vI (now), vI (last), .ref (ad (g_b G) 45), .ref (ad (g_b G) 46), vI (cl), vI (g), vI (o), .ref (ad (g_b G) 47), vI (ml), vI ((cnt (bg1 t) k9 + 1 : Nat) : Int), .ref (ad (g_b G) 48), .ref (ad (g_b G) 49), vI (its), .ref (ad (g_b G) 50), .ref (ad (g_b G) 51), vI (en)] := c39
              have c41 := (fr40 43 (by omega)).trans c30
              have c42 := (fr40 44 (by omega)).trans c31
              have c43 := (fr40 45 (by omega)).trans c32
              have c44 := (fr40 46 (by omega)).trans c33
              have c45 := (fr40 47 (by omega)).trans c34
              have c46 := (fr40 48 (by omega)).trans c35
              have c47 := (fr40 49 (by omega)).trans c27
              have c48 := (fr40 50 (by omega)).trans c36
              have c49 := (fr40 51 (by omega)).trans c37
              refine z_iload X d_Mod_findPoints_152 rfl ?_
              refine z_if_eq (tgt := 163) X d_Mod_findPoints_154 (by decide) (by omega) (fun q8 => ?_) (fun q8 => ?_)
              · refine z_iload_n X d_Mod_findPoints_163 rfl ?_
                refine z_iconst X d_Mod_findPoints_164 ?_
                refine z_iadd X d_Mod_findPoints_165 ?_
                refine e_istore_n X d_Mod_findPoints_166 (by decide) ?_
                refine e_goto (tgt := 14) X d_Mod_findPoints_167 (by decide) ?_
                refine e_clear 4 ?_
                refine e_clear 5 ?_
                refine e_clear 6 ?_
                have hnx : bg1 t (k9 + 1) = true ∨ k9 + 1 = n := by rcases Nat.lt_or_ge (k9 + 1) n with h9 | h9; exact Or.inl (bg1_one ht h9 hpr); exact Or.inr (by omega)
                exact ih (k9 + 1) _ _ _ (by omega) (by omega) hnx (by rw [cnt_t hb1]; exact ⟨c39, c41, c42, c43, c44, c45, c46, c47, c48, c49⟩) (sel_t hs1 hb1) (codes_t hs2 hb1) (fun q q1 => ((fr40 q (by omega)).trans ((fr28 q (by omega)).trans (fr16 q (by omega)))).trans (hf q q1))
              · exact absurd q8 (by decide)
            · exact absurd q7 (by decide)
          · refine z_iload X d_Mod_findPoints_67 rfl ?_
            refine z_ldc (n := 56319) X d_Mod_findPoints_69 cst_Mod_55 (by decide) ?_
            refine z_icmp_gt (tgt := 92) X d_Mod_findPoints_71 (by decide) (by omega) (fun q50 => ?_) (fun q50 => ?_)
            · refine z_iconst X d_Mod_findPoints_92 ?_
              have hpr : (u_hi (t k9) && u_lo (t (k9 + 1))) = false := by  simp [u_hi, u_lo]; omega
              refine e_istore X d_Mod_findPoints_93 (by decide) ?_
              refine e_aload_n X d_Mod_findPoints_95 rfl ?_
              refine e_get X d_Mod_findPoints_96 fl_Mod_30 d42b (by omega) rfl ?_
              refine e_aload_n X d_Mod_findPoints_99 rfl ?_
              refine e_get X d_Mod_findPoints_100 fl_Mod_51 d42b (by omega) rfl ?_
              refine z_iload_n X d_Mod_findPoints_103 rfl ?_
              refine z_iast X d_Mod_findPoints_104 (j := (cnt (bg1 t) k9)) d48b (by omega) (by omega) (by omega) (fun h51 c52 fr53 => ?_)
              have c54 := (fr53 42 (by omega)).trans d42b
              have c55 := (fr53 43 (by omega)).trans d43b
              have c56 := (fr53 44 (by omega)).trans d44b
              have c57 := (fr53 45 (by omega)).trans d45b
              have c58 := (fr53 46 (by omega)).trans d46b
              have c59 := (fr53 47 (by omega)).trans d47b
              have c60 := (fr53 49 (by omega)).trans d49b
              have c61 := (fr53 50 (by omega)).trans d50b
              have c62 := (fr53 51 (by omega)).trans d51b
              refine e_aload_n X d_Mod_findPoints_105 rfl ?_
              refine e_get X d_Mod_findPoints_106 fl_Mod_33 c54 (by omega) rfl ?_
              refine e_aload_n X d_Mod_findPoints_109 rfl ?_
              refine e_get X d_Mod_findPoints_110 fl_Mod_51 c54 (by omega) rfl ?_
              refine z_iload X d_Mod_findPoints_113 rfl ?_
              refine z_if_eq (tgt := 139) X d_Mod_findPoints_115 (by decide) (by omega) (fun q7 => ?_) (fun q7 => ?_)
              · refine z_iload X d_Mod_findPoints_139 rfl ?_
                refine z_top (show _ = (cod t k9) from (by unfold cod; rw [hpr]; rfl)) ?_
                refine z_iast X d_Mod_findPoints_141 (j := (cnt (bg1 t) k9)) c60 (by omega) (by omega) (by omega) (fun h63 c64 fr65 => ?_)
                have c66 := (fr65 42 (by omega)).trans c54
                have c67 := (fr65 43 (by omega)).trans c55
                have c68 := (fr65 44 (by omega)).trans c56
                have c69 := (fr65 45 (by omega)).trans c57
                have c70 := (fr65 46 (by omega)).trans c58
                have c71 := (fr65 47 (by omega)).trans c59
                have c72 := (fr65 48 (by omega)).trans c52
                have c73 := (fr65 50 (by omega)).trans c61
                have c74 := (fr65 51 (by omega)).trans c62
                refine e_aload_n X d_Mod_findPoints_142 rfl ?_
                refine e_dup X d_Mod_findPoints_143 rfl ?_
                refine e_get X d_Mod_findPoints_144 fl_Mod_51 c66 (by omega) rfl ?_
                refine z_iconst X d_Mod_findPoints_147 ?_
                refine z_iadd X d_Mod_findPoints_148 ?_
                refine z_top (show _ = ((cnt (bg1 t) k9 + 1 : Nat) : Int) by omega) ?_
                refine z_put X d_Mod_findPoints_149 fl_Mod_51 c66 (by omega) (Nat.le_of_ble_eq_true rfl) rfl rfl (fun h75 c76 fr77 => ?_)
                have c76 : h75 42 = ob ci_Mod [.ref (ad (g_b G) 43), .ref (ad (g_b G) 44), vI (now), vI (last), .ref (ad (g_b G) 45), .ref (ad (g_b G) 46), vI (cl), vI (g), vI (o), .ref (ad (g_b G) 47), vI (ml), vI ((cnt (bg1 t) k9 + 1 : Nat) : Int), .ref (ad (g_b G) 48), .ref (ad (g_b G) 49), vI (its), .ref (ad (g_b G) 50), .ref (ad (g_b G) 51), vI (en)] := c76
                have c78 := (fr77 43 (by omega)).trans c67
                have c79 := (fr77 44 (by omega)).trans c68
                have c80 := (fr77 45 (by omega)).trans c69
                have c81 := (fr77 46 (by omega)).trans c70
                have c82 := (fr77 47 (by omega)).trans c71
                have c83 := (fr77 48 (by omega)).trans c72
                have c84 := (fr77 49 (by omega)).trans c64
                have c85 := (fr77 50 (by omega)).trans c73
                have c86 := (fr77 51 (by omega)).trans c74
                refine z_iload X d_Mod_findPoints_152 rfl ?_
                refine z_if_eq (tgt := 163) X d_Mod_findPoints_154 (by decide) (by omega) (fun q8 => ?_) (fun q8 => ?_)
                · refine z_iload_n X d_Mod_findPoints_163 rfl ?_
                  refine z_iconst X d_Mod_findPoints_164 ?_
                  refine z_iadd X d_Mod_findPoints_165 ?_
                  refine e_istore_n X d_Mod_findPoints_166 (by decide) ?_
                  refine e_goto (tgt := 14) X d_Mod_findPoints_167 (by decide) ?_
                  refine e_clear 4 ?_
                  refine e_clear 5 ?_
                  refine e_clear 6 ?_
                  have hnx : bg1 t (k9 + 1) = true ∨ k9 + 1 = n := by rcases Nat.lt_or_ge (k9 + 1) n with h9 | h9; exact Or.inl (bg1_one ht h9 hpr); exact Or.inr (by omega)
                  exact ih (k9 + 1) _ _ _ (by omega) (by omega) hnx (by rw [cnt_t hb1]; exact ⟨c76, c78, c79, c80, c81, c82, c83, c84, c85, c86⟩) (sel_t hs1 hb1) (codes_t hs2 hb1) (fun q q1 => ((fr77 q (by omega)).trans ((fr65 q (by omega)).trans (fr53 q (by omega)))).trans (hf q q1))
                · exact absurd q8 (by decide)
              · exact absurd q7 (by decide)
            · refine z_iload X d_Mod_findPoints_74 rfl ?_
              refine z_ldc (n := 56320) X d_Mod_findPoints_76 cst_Mod_56 (by decide) ?_
              refine z_icmp_lt (tgt := 92) X d_Mod_findPoints_78 (by decide) (by omega) (fun q87 => ?_) (fun q87 => ?_)
              · refine z_iconst X d_Mod_findPoints_92 ?_
                have hpr : (u_hi (t k9) && u_lo (t (k9 + 1))) = false := by  simp [u_hi, u_lo]; omega
                refine e_istore X d_Mod_findPoints_93 (by decide) ?_
                refine e_aload_n X d_Mod_findPoints_95 rfl ?_
                refine e_get X d_Mod_findPoints_96 fl_Mod_30 d42b (by omega) rfl ?_
                refine e_aload_n X d_Mod_findPoints_99 rfl ?_
                refine e_get X d_Mod_findPoints_100 fl_Mod_51 d42b (by omega) rfl ?_
                refine z_iload_n X d_Mod_findPoints_103 rfl ?_
                refine z_iast X d_Mod_findPoints_104 (j := (cnt (bg1 t) k9)) d48b (by omega) (by omega) (by omega) (fun h88 c89 fr90 => ?_)
                have c91 := (fr90 42 (by omega)).trans d42b
                have c92 := (fr90 43 (by omega)).trans d43b
                have c93 := (fr90 44 (by omega)).trans d44b
                have c94 := (fr90 45 (by omega)).trans d45b
                have c95 := (fr90 46 (by omega)).trans d46b
                have c96 := (fr90 47 (by omega)).trans d47b
                have c97 := (fr90 49 (by omega)).trans d49b
                have c98 := (fr90 50 (by omega)).trans d50b
                have c99 := (fr90 51 (by omega)).trans d51b
                refine e_aload_n X d_Mod_findPoints_105 rfl ?_
                refine e_get X d_Mod_findPoints_106 fl_Mod_33 c91 (by omega) rfl ?_
                refine e_aload_n X d_Mod_findPoints_109 rfl ?_
                refine e_get X d_Mod_findPoints_110 fl_Mod_51 c91 (by omega) rfl ?_
                refine z_iload X d_Mod_findPoints_113 rfl ?_
                refine z_if_eq (tgt := 139) X d_Mod_findPoints_115 (by decide) (by omega) (fun q7 => ?_) (fun q7 => ?_)
                · refine z_iload X d_Mod_findPoints_139 rfl ?_
                  refine z_top (show _ = (cod t k9) from (by unfold cod; rw [hpr]; rfl)) ?_
                  refine z_iast X d_Mod_findPoints_141 (j := (cnt (bg1 t) k9)) c97 (by omega) (by omega) (by omega) (fun h100 c101 fr102 => ?_)
                  have c103 := (fr102 42 (by omega)).trans c91
                  have c104 := (fr102 43 (by omega)).trans c92
                  have c105 := (fr102 44 (by omega)).trans c93
                  have c106 := (fr102 45 (by omega)).trans c94
                  have c107 := (fr102 46 (by omega)).trans c95
                  have c108 := (fr102 47 (by omega)).trans c96
                  have c109 := (fr102 48 (by omega)).trans c89
                  have c110 := (fr102 50 (by omega)).trans c98
                  have c111 := (fr102 51 (by omega)).trans c99
                  refine e_aload_n X d_Mod_findPoints_142 rfl ?_
                  refine e_dup X d_Mod_findPoints_143 rfl ?_
                  refine e_get X d_Mod_findPoints_144 fl_Mod_51 c103 (by omega) rfl ?_
                  refine z_iconst X d_Mod_findPoints_147 ?_
                  refine z_iadd X d_Mod_findPoints_148 ?_
                  refine z_top (show _ = ((cnt (bg1 t) k9 + 1 : Nat) : Int) by omega) ?_
                  refine z_put X d_Mod_findPoints_149 fl_Mod_51 c103 (by omega) (Nat.le_of_ble_eq_true rfl) rfl rfl (fun h112 c113 fr114 => ?_)
                  have c113 : h112 42 = ob ci_Mod [.ref (ad (g_b G) 43), .ref (ad (g_b G) 44), vI (now), vI (last), .ref (ad (g_b G) 45), .ref (ad (g_b G) 46), vI (cl), vI (g), vI (o), .ref (ad (g_b G) 47), vI (ml), vI ((cnt (bg1 t) k9 + 1 : Nat) : Int), .ref (ad (g_b G) 48), .ref (ad (g_b G) 49), vI (its), .ref (ad (g_b G) 50), .ref (ad (g_b G) 51), vI (en)] := c113
                  have c115 := (fr114 43 (by omega)).trans c104
                  have c116 := (fr114 44 (by omega)).trans c105
                  have c117 := (fr114 45 (by omega)).trans c106
                  have c118 := (fr114 46 (by omega)).trans c107
                  have c119 := (fr114 47 (by omega)).trans c108
                  have c120 := (fr114 48 (by omega)).trans c109
                  have c121 := (fr114 49 (by omega)).trans c101
                  have c122 := (fr114 50 (by omega)).trans c110
                  have c123 := (fr114 51 (by omega)).trans c111
                  refine z_iload X d_Mod_findPoints_152 rfl ?_
                  refine z_if_eq (tgt := 163) X d_Mod_findPoints_154 (by decide) (by omega) (fun q8 => ?_) (fun q8 => ?_)
                  · refine z_iload_n X d_Mod_findPoints_163 rfl ?_
                    refine z_iconst X d_Mod_findPoints_164 ?_
                    refine z_iadd X d_Mod_findPoints_165 ?_
                    refine e_istore_n X d_Mod_findPoints_166 (by decide) ?_
                    refine e_goto (tgt := 14) X d_Mod_findPoints_167 (by decide) ?_
                    refine e_clear 4 ?_
                    refine e_clear 5 ?_
                    refine e_clear 6 ?_
                    have hnx : bg1 t (k9 + 1) = true ∨ k9 + 1 = n := by rcases Nat.lt_or_ge (k9 + 1) n with h9 | h9; exact Or.inl (bg1_one ht h9 hpr); exact Or.inr (by omega)
                    exact ih (k9 + 1) _ _ _ (by omega) (by omega) hnx (by rw [cnt_t hb1]; exact ⟨c113, c115, c116, c117, c118, c119, c120, c121, c122, c123⟩) (sel_t hs1 hb1) (codes_t hs2 hb1) (fun q q1 => ((fr114 q (by omega)).trans ((fr102 q (by omega)).trans (fr90 q (by omega)))).trans (hf q q1))
                  · exact absurd q8 (by decide)
                · exact absurd q7 (by decide)
              · refine z_iload X d_Mod_findPoints_81 rfl ?_
                refine z_ldc (n := 57343) X d_Mod_findPoints_83 cst_Mod_57 (by decide) ?_
                refine z_icmp_gt (tgt := 92) X d_Mod_findPoints_85 (by decide) (by omega) (fun q124 => ?_) (fun q124 => ?_)
                · refine z_iconst X d_Mod_findPoints_92 ?_
                  have hpr : (u_hi (t k9) && u_lo (t (k9 + 1))) = false := by  simp [u_hi, u_lo]; omega
                  refine e_istore X d_Mod_findPoints_93 (by decide) ?_
                  refine e_aload_n X d_Mod_findPoints_95 rfl ?_
                  refine e_get X d_Mod_findPoints_96 fl_Mod_30 d42b (by omega) rfl ?_
                  refine e_aload_n X d_Mod_findPoints_99 rfl ?_
                  refine e_get X d_Mod_findPoints_100 fl_Mod_51 d42b (by omega) rfl ?_
                  refine z_iload_n X d_Mod_findPoints_103 rfl ?_
                  refine z_iast X d_Mod_findPoints_104 (j := (cnt (bg1 t) k9)) d48b (by omega) (by omega) (by omega) (fun h125 c126 fr127 => ?_)
                  have c128 := (fr127 42 (by omega)).trans d42b
                  have c129 := (fr127 43 (by omega)).trans d43b
                  have c130 := (fr127 44 (by omega)).trans d44b
                  have c131 := (fr127 45 (by omega)).trans d45b
                  have c132 := (fr127 46 (by omega)).trans d46b
                  have c133 := (fr127 47 (by omega)).trans d47b
                  have c134 := (fr127 49 (by omega)).trans d49b
                  have c135 := (fr127 50 (by omega)).trans d50b
                  have c136 := (fr127 51 (by omega)).trans d51b
                  refine e_aload_n X d_Mod_findPoints_105 rfl ?_
                  refine e_get X d_Mod_findPoints_106 fl_Mod_33 c128 (by omega) rfl ?_
                  refine e_aload_n X d_Mod_findPoints_109 rfl ?_
                  refine e_get X d_Mod_findPoints_110 fl_Mod_51 c128 (by omega) rfl ?_
                  refine z_iload X d_Mod_findPoints_113 rfl ?_
                  refine z_if_eq (tgt := 139) X d_Mod_findPoints_115 (by decide) (by omega) (fun q7 => ?_) (fun q7 => ?_)
                  · refine z_iload X d_Mod_findPoints_139 rfl ?_
                    refine z_top (show _ = (cod t k9) from (by unfold cod; rw [hpr]; rfl)) ?_
                    refine z_iast X d_Mod_findPoints_141 (j := (cnt (bg1 t) k9)) c134 (by omega) (by omega) (by omega) (fun h137 c138 fr139 => ?_)
                    have c140 := (fr139 42 (by omega)).trans c128
                    have c141 := (fr139 43 (by omega)).trans c129
                    have c142 := (fr139 44 (by omega)).trans c130
                    have c143 := (fr139 45 (by omega)).trans c131
                    have c144 := (fr139 46 (by omega)).trans c132
                    have c145 := (fr139 47 (by omega)).trans c133
                    have c146 := (fr139 48 (by omega)).trans c126
                    have c147 := (fr139 50 (by omega)).trans c135
                    have c148 := (fr139 51 (by omega)).trans c136
                    refine e_aload_n X d_Mod_findPoints_142 rfl ?_
                    refine e_dup X d_Mod_findPoints_143 rfl ?_
                    refine e_get X d_Mod_findPoints_144 fl_Mod_51 c140 (by omega) rfl ?_
                    refine z_iconst X d_Mod_findPoints_147 ?_
                    refine z_iadd X d_Mod_findPoints_148 ?_
                    refine z_top (show _ = ((cnt (bg1 t) k9 + 1 : Nat) : Int) by omega) ?_
                    refine z_put X d_Mod_findPoints_149 fl_Mod_51 c140 (by omega) (Nat.le_of_ble_eq_true rfl) rfl rfl (fun h149 c150 fr151 => ?_)
                    have c150 : h149 42 = ob ci_Mod [.ref (ad (g_b G) 43), .ref (ad (g_b G) 44), vI (now), vI (last), .ref (ad (g_b G) 45), .ref (ad (g_b G) 46), vI (cl), vI (g), vI (o), .ref (ad (g_b G) 47), vI (ml), vI ((cnt (bg1 t) k9 + 1 : Nat) : Int), .ref (ad (g_b G) 48), .ref (ad (g_b G) 49), vI (its), .ref (ad (g_b G) 50), .ref (ad (g_b G) 51), vI (en)] := c150
                    have c152 := (fr151 43 (by omega)).trans c141
                    have c153 := (fr151 44 (by omega)).trans c142
                    have c154 := (fr151 45 (by omega)).trans c143
                    have c155 := (fr151 46 (by omega)).trans c144
                    have c156 := (fr151 47 (by omega)).trans c145
                    have c157 := (fr151 48 (by omega)).trans c146
                    have c158 := (fr151 49 (by omega)).trans c138
                    have c159 := (fr151 50 (by omega)).trans c147
                    have c160 := (fr151 51 (by omega)).trans c148
                    refine z_iload X d_Mod_findPoints_152 rfl ?_
                    refine z_if_eq (tgt := 163) X d_Mod_findPoints_154 (by decide) (by omega) (fun q8 => ?_) (fun q8 => ?_)
                    · refine z_iload_n X d_Mod_findPoints_163 rfl ?_
                      refine z_iconst X d_Mod_findPoints_164 ?_
                      refine z_iadd X d_Mod_findPoints_165 ?_
                      refine e_istore_n X d_Mod_findPoints_166 (by decide) ?_
                      refine e_goto (tgt := 14) X d_Mod_findPoints_167 (by decide) ?_
                      refine e_clear 4 ?_
                      refine e_clear 5 ?_
                      refine e_clear 6 ?_
                      have hnx : bg1 t (k9 + 1) = true ∨ k9 + 1 = n := by rcases Nat.lt_or_ge (k9 + 1) n with h9 | h9; exact Or.inl (bg1_one ht h9 hpr); exact Or.inr (by omega)
                      exact ih (k9 + 1) _ _ _ (by omega) (by omega) hnx (by rw [cnt_t hb1]; exact ⟨c150, c152, c153, c154, c155, c156, c157, c158, c159, c160⟩) (sel_t hs1 hb1) (codes_t hs2 hb1) (fun q q1 => ((fr151 q (by omega)).trans ((fr139 q (by omega)).trans (fr127 q (by omega)))).trans (hf q q1))
                    · exact absurd q8 (by decide)
                  · exact absurd q7 (by decide)
                · refine z_iconst X d_Mod_findPoints_88 ?_
                  refine e_goto (tgt := 93) X d_Mod_findPoints_89 (by decide) ?_
                  omega
        · refine e_aload_n X d_Mod_findPoints_40 rfl ?_
          refine e_get X d_Mod_findPoints_41 fl_Mod_7 d42b (by omega) rfl ?_
          refine z_sipush X d_Mod_findPoints_44 (by decide) ?_
          refine z_iload_n X d_Mod_findPoints_47 rfl ?_
          refine z_imul X d_Mod_findPoints_48 ?_
          refine z_iload_n X d_Mod_findPoints_49 rfl ?_
          refine z_iadd X d_Mod_findPoints_50 ?_
          refine z_iconst X d_Mod_findPoints_51 ?_
          refine z_iadd X d_Mod_findPoints_52 ?_
          refine z_iald X d_Mod_findPoints_53 (j := (((160 * s) + k9) + 1)) d43b (by omega) (by omega) (by omega) ?_
          refine z_top (show _ = (t (k9 + 1)) from (by rw [Nat.add_assoc]; exact hl2 (k9 + 1) (by omega))) ?_
          refine e_goto (tgt := 58) X d_Mod_findPoints_54 (by decide) ?_
          refine e_istore X d_Mod_findPoints_58 (by decide) ?_
          refine z_iload X d_Mod_findPoints_60 rfl ?_
          refine z_ldc (n := 55296) X d_Mod_findPoints_62 cst_Mod_54 (by decide) ?_
          refine z_icmp_lt (tgt := 92) X d_Mod_findPoints_64 (by decide) (by omega) (fun q161 => ?_) (fun q161 => ?_)
          · refine z_iconst X d_Mod_findPoints_92 ?_
            have hpr : (u_hi (t k9) && u_lo (t (k9 + 1))) = false := by  simp [u_hi, u_lo]; omega
            refine e_istore X d_Mod_findPoints_93 (by decide) ?_
            refine e_aload_n X d_Mod_findPoints_95 rfl ?_
            refine e_get X d_Mod_findPoints_96 fl_Mod_30 d42b (by omega) rfl ?_
            refine e_aload_n X d_Mod_findPoints_99 rfl ?_
            refine e_get X d_Mod_findPoints_100 fl_Mod_51 d42b (by omega) rfl ?_
            refine z_iload_n X d_Mod_findPoints_103 rfl ?_
            refine z_iast X d_Mod_findPoints_104 (j := (cnt (bg1 t) k9)) d48b (by omega) (by omega) (by omega) (fun h162 c163 fr164 => ?_)
            have c165 := (fr164 42 (by omega)).trans d42b
            have c166 := (fr164 43 (by omega)).trans d43b
            have c167 := (fr164 44 (by omega)).trans d44b
            have c168 := (fr164 45 (by omega)).trans d45b
            have c169 := (fr164 46 (by omega)).trans d46b
            have c170 := (fr164 47 (by omega)).trans d47b
            have c171 := (fr164 49 (by omega)).trans d49b
            have c172 := (fr164 50 (by omega)).trans d50b
            have c173 := (fr164 51 (by omega)).trans d51b
            refine e_aload_n X d_Mod_findPoints_105 rfl ?_
            refine e_get X d_Mod_findPoints_106 fl_Mod_33 c165 (by omega) rfl ?_
            refine e_aload_n X d_Mod_findPoints_109 rfl ?_
            refine e_get X d_Mod_findPoints_110 fl_Mod_51 c165 (by omega) rfl ?_
            refine z_iload X d_Mod_findPoints_113 rfl ?_
            refine z_if_eq (tgt := 139) X d_Mod_findPoints_115 (by decide) (by omega) (fun q7 => ?_) (fun q7 => ?_)
            · refine z_iload X d_Mod_findPoints_139 rfl ?_
              refine z_top (show _ = (cod t k9) from (by unfold cod; rw [hpr]; rfl)) ?_
              refine z_iast X d_Mod_findPoints_141 (j := (cnt (bg1 t) k9)) c171 (by omega) (by omega) (by omega) (fun h174 c175 fr176 => ?_)
              have c177 := (fr176 42 (by omega)).trans c165
              have c178 := (fr176 43 (by omega)).trans c166
              have c179 := (fr176 44 (by omega)).trans c167
              have c180 := (fr176 45 (by omega)).trans c168
              have c181 := (fr176 46 (by omega)).trans c169
              have c182 := (fr176 47 (by omega)).trans c170
              have c183 := (fr176 48 (by omega)).trans c163
              have c184 := (fr176 50 (by omega)).trans c172
              have c185 := (fr176 51 (by omega)).trans c173
              refine e_aload_n X d_Mod_findPoints_142 rfl ?_
              refine e_dup X d_Mod_findPoints_143 rfl ?_
              refine e_get X d_Mod_findPoints_144 fl_Mod_51 c177 (by omega) rfl ?_
              refine z_iconst X d_Mod_findPoints_147 ?_
              refine z_iadd X d_Mod_findPoints_148 ?_
              refine z_top (show _ = ((cnt (bg1 t) k9 + 1 : Nat) : Int) by omega) ?_
              refine z_put X d_Mod_findPoints_149 fl_Mod_51 c177 (by omega) (Nat.le_of_ble_eq_true rfl) rfl rfl (fun h186 c187 fr188 => ?_)
              have c187 : h186 42 = ob ci_Mod [.ref (ad (g_b G) 43), .ref (ad (g_b G) 44), vI (now), vI (last), .ref (ad (g_b G) 45), .ref (ad (g_b G) 46), vI (cl), vI (g), vI (o), .ref (ad (g_b G) 47), vI (ml), vI ((cnt (bg1 t) k9 + 1 : Nat) : Int), .ref (ad (g_b G) 48), .ref (ad (g_b G) 49), vI (its), .ref (ad (g_b G) 50), .ref (ad (g_b G) 51), vI (en)] := c187
              have c189 := (fr188 43 (by omega)).trans c178
              have c190 := (fr188 44 (by omega)).trans c179
              have c191 := (fr188 45 (by omega)).trans c180
              have c192 := (fr188 46 (by omega)).trans c181
              have c193 := (fr188 47 (by omega)).trans c182
              have c194 := (fr188 48 (by omega)).trans c183
              have c195 := (fr188 49 (by omega)).trans c175
              have c196 := (fr188 50 (by omega)).trans c184
              have c197 := (fr188 51 (by omega)).trans c185
              refine z_iload X d_Mod_findPoints_152 rfl ?_
              refine z_if_eq (tgt := 163) X d_Mod_findPoints_154 (by decide) (by omega) (fun q8 => ?_) (fun q8 => ?_)
              · refine z_iload_n X d_Mod_findPoints_163 rfl ?_
                refine z_iconst X d_Mod_findPoints_164 ?_
                refine z_iadd X d_Mod_findPoints_165 ?_
                refine e_istore_n X d_Mod_findPoints_166 (by decide) ?_
                refine e_goto (tgt := 14) X d_Mod_findPoints_167 (by decide) ?_
                refine e_clear 4 ?_
                refine e_clear 5 ?_
                refine e_clear 6 ?_
                have hnx : bg1 t (k9 + 1) = true ∨ k9 + 1 = n := by rcases Nat.lt_or_ge (k9 + 1) n with h9 | h9; exact Or.inl (bg1_one ht h9 hpr); exact Or.inr (by omega)
                exact ih (k9 + 1) _ _ _ (by omega) (by omega) hnx (by rw [cnt_t hb1]; exact ⟨c187, c189, c190, c191, c192, c193, c194, c195, c196, c197⟩) (sel_t hs1 hb1) (codes_t hs2 hb1) (fun q q1 => ((fr188 q (by omega)).trans ((fr176 q (by omega)).trans (fr164 q (by omega)))).trans (hf q q1))
              · exact absurd q8 (by decide)
            · exact absurd q7 (by decide)
          · refine z_iload X d_Mod_findPoints_67 rfl ?_
            refine z_ldc (n := 56319) X d_Mod_findPoints_69 cst_Mod_55 (by decide) ?_
            refine z_icmp_gt (tgt := 92) X d_Mod_findPoints_71 (by decide) (by omega) (fun q198 => ?_) (fun q198 => ?_)
            · refine z_iconst X d_Mod_findPoints_92 ?_
              have hpr : (u_hi (t k9) && u_lo (t (k9 + 1))) = false := by  simp [u_hi, u_lo]; omega
              refine e_istore X d_Mod_findPoints_93 (by decide) ?_
              refine e_aload_n X d_Mod_findPoints_95 rfl ?_
              refine e_get X d_Mod_findPoints_96 fl_Mod_30 d42b (by omega) rfl ?_
              refine e_aload_n X d_Mod_findPoints_99 rfl ?_
              refine e_get X d_Mod_findPoints_100 fl_Mod_51 d42b (by omega) rfl ?_
              refine z_iload_n X d_Mod_findPoints_103 rfl ?_
              refine z_iast X d_Mod_findPoints_104 (j := (cnt (bg1 t) k9)) d48b (by omega) (by omega) (by omega) (fun h199 c200 fr201 => ?_)
              have c202 := (fr201 42 (by omega)).trans d42b
              have c203 := (fr201 43 (by omega)).trans d43b
              have c204 := (fr201 44 (by omega)).trans d44b
              have c205 := (fr201 45 (by omega)).trans d45b
              have c206 := (fr201 46 (by omega)).trans d46b
              have c207 := (fr201 47 (by omega)).trans d47b
              have c208 := (fr201 49 (by omega)).trans d49b
              have c209 := (fr201 50 (by omega)).trans d50b
              have c210 := (fr201 51 (by omega)).trans d51b
              refine e_aload_n X d_Mod_findPoints_105 rfl ?_
              refine e_get X d_Mod_findPoints_106 fl_Mod_33 c202 (by omega) rfl ?_
              refine e_aload_n X d_Mod_findPoints_109 rfl ?_
              refine e_get X d_Mod_findPoints_110 fl_Mod_51 c202 (by omega) rfl ?_
              refine z_iload X d_Mod_findPoints_113 rfl ?_
              refine z_if_eq (tgt := 139) X d_Mod_findPoints_115 (by decide) (by omega) (fun q7 => ?_) (fun q7 => ?_)
              · refine z_iload X d_Mod_findPoints_139 rfl ?_
                refine z_top (show _ = (cod t k9) from (by unfold cod; rw [hpr]; rfl)) ?_
                refine z_iast X d_Mod_findPoints_141 (j := (cnt (bg1 t) k9)) c208 (by omega) (by omega) (by omega) (fun h211 c212 fr213 => ?_)
                have c214 := (fr213 42 (by omega)).trans c202
                have c215 := (fr213 43 (by omega)).trans c203
                have c216 := (fr213 44 (by omega)).trans c204
                have c217 := (fr213 45 (by omega)).trans c205
                have c218 := (fr213 46 (by omega)).trans c206
                have c219 := (fr213 47 (by omega)).trans c207
                have c220 := (fr213 48 (by omega)).trans c200
                have c221 := (fr213 50 (by omega)).trans c209
                have c222 := (fr213 51 (by omega)).trans c210
                refine e_aload_n X d_Mod_findPoints_142 rfl ?_
                refine e_dup X d_Mod_findPoints_143 rfl ?_
                refine e_get X d_Mod_findPoints_144 fl_Mod_51 c214 (by omega) rfl ?_
                refine z_iconst X d_Mod_findPoints_147 ?_
                refine z_iadd X d_Mod_findPoints_148 ?_
                refine z_top (show _ = ((cnt (bg1 t) k9 + 1 : Nat) : Int) by omega) ?_
                refine z_put X d_Mod_findPoints_149 fl_Mod_51 c214 (by omega) (Nat.le_of_ble_eq_true rfl) rfl rfl (fun h223 c224 fr225 => ?_)
                have c224 : h223 42 = ob ci_Mod [.ref (ad (g_b G) 43), .ref (ad (g_b G) 44), vI (now), vI (last), .ref (ad (g_b G) 45), .ref (ad (g_b G) 46), vI (cl), vI (g), vI (o), .ref (ad (g_b G) 47), vI (ml), vI ((cnt (bg1 t) k9 + 1 : Nat) : Int), .ref (ad (g_b G) 48), .ref (ad (g_b G) 49), vI (its), .ref (ad (g_b G) 50), .ref (ad (g_b G) 51), vI (en)] := c224
                have c226 := (fr225 43 (by omega)).trans c215
                have c227 := (fr225 44 (by omega)).trans c216
                have c228 := (fr225 45 (by omega)).trans c217
                have c229 := (fr225 46 (by omega)).trans c218
                have c230 := (fr225 47 (by omega)).trans c219
                have c231 := (fr225 48 (by omega)).trans c220
                have c232 := (fr225 49 (by omega)).trans c212
                have c233 := (fr225 50 (by omega)).trans c221
                have c234 := (fr225 51 (by omega)).trans c222
                refine z_iload X d_Mod_findPoints_152 rfl ?_
                refine z_if_eq (tgt := 163) X d_Mod_findPoints_154 (by decide) (by omega) (fun q8 => ?_) (fun q8 => ?_)
                · refine z_iload_n X d_Mod_findPoints_163 rfl ?_
                  refine z_iconst X d_Mod_findPoints_164 ?_
                  refine z_iadd X d_Mod_findPoints_165 ?_
                  refine e_istore_n X d_Mod_findPoints_166 (by decide) ?_
                  refine e_goto (tgt := 14) X d_Mod_findPoints_167 (by decide) ?_
                  refine e_clear 4 ?_
                  refine e_clear 5 ?_
                  refine e_clear 6 ?_
                  have hnx : bg1 t (k9 + 1) = true ∨ k9 + 1 = n := by rcases Nat.lt_or_ge (k9 + 1) n with h9 | h9; exact Or.inl (bg1_one ht h9 hpr); exact Or.inr (by omega)
                  exact ih (k9 + 1) _ _ _ (by omega) (by omega) hnx (by rw [cnt_t hb1]; exact ⟨c224, c226, c227, c228, c229, c230, c231, c232, c233, c234⟩) (sel_t hs1 hb1) (codes_t hs2 hb1) (fun q q1 => ((fr225 q (by omega)).trans ((fr213 q (by omega)).trans (fr201 q (by omega)))).trans (hf q q1))
                · exact absurd q8 (by decide)
              · exact absurd q7 (by decide)
            · refine z_iload X d_Mod_findPoints_74 rfl ?_
              refine z_ldc (n := 56320) X d_Mod_findPoints_76 cst_Mod_56 (by decide) ?_
              refine z_icmp_lt (tgt := 92) X d_Mod_findPoints_78 (by decide) (by omega) (fun q235 => ?_) (fun q235 => ?_)
              · refine z_iconst X d_Mod_findPoints_92 ?_
                have hpr : (u_hi (t k9) && u_lo (t (k9 + 1))) = false := by  simp [u_hi, u_lo]; omega
                refine e_istore X d_Mod_findPoints_93 (by decide) ?_
                refine e_aload_n X d_Mod_findPoints_95 rfl ?_
                refine e_get X d_Mod_findPoints_96 fl_Mod_30 d42b (by omega) rfl ?_
                refine e_aload_n X d_Mod_findPoints_99 rfl ?_
                refine e_get X d_Mod_findPoints_100 fl_Mod_51 d42b (by omega) rfl ?_
                refine z_iload_n X d_Mod_findPoints_103 rfl ?_
                refine z_iast X d_Mod_findPoints_104 (j := (cnt (bg1 t) k9)) d48b (by omega) (by omega) (by omega) (fun h236 c237 fr238 => ?_)
                have c239 := (fr238 42 (by omega)).trans d42b
                have c240 := (fr238 43 (by omega)).trans d43b
                have c241 := (fr238 44 (by omega)).trans d44b
                have c242 := (fr238 45 (by omega)).trans d45b
                have c243 := (fr238 46 (by omega)).trans d46b
                have c244 := (fr238 47 (by omega)).trans d47b
                have c245 := (fr238 49 (by omega)).trans d49b
                have c246 := (fr238 50 (by omega)).trans d50b
                have c247 := (fr238 51 (by omega)).trans d51b
                refine e_aload_n X d_Mod_findPoints_105 rfl ?_
                refine e_get X d_Mod_findPoints_106 fl_Mod_33 c239 (by omega) rfl ?_
                refine e_aload_n X d_Mod_findPoints_109 rfl ?_
                refine e_get X d_Mod_findPoints_110 fl_Mod_51 c239 (by omega) rfl ?_
                refine z_iload X d_Mod_findPoints_113 rfl ?_
                refine z_if_eq (tgt := 139) X d_Mod_findPoints_115 (by decide) (by omega) (fun q7 => ?_) (fun q7 => ?_)
                · refine z_iload X d_Mod_findPoints_139 rfl ?_
                  refine z_top (show _ = (cod t k9) from (by unfold cod; rw [hpr]; rfl)) ?_
                  refine z_iast X d_Mod_findPoints_141 (j := (cnt (bg1 t) k9)) c245 (by omega) (by omega) (by omega) (fun h248 c249 fr250 => ?_)
                  have c251 := (fr250 42 (by omega)).trans c239
                  have c252 := (fr250 43 (by omega)).trans c240
                  have c253 := (fr250 44 (by omega)).trans c241
                  have c254 := (fr250 45 (by omega)).trans c242
                  have c255 := (fr250 46 (by omega)).trans c243
                  have c256 := (fr250 47 (by omega)).trans c244
                  have c257 := (fr250 48 (by omega)).trans c237
                  have c258 := (fr250 50 (by omega)).trans c246
                  have c259 := (fr250 51 (by omega)).trans c247
                  refine e_aload_n X d_Mod_findPoints_142 rfl ?_
                  refine e_dup X d_Mod_findPoints_143 rfl ?_
                  refine e_get X d_Mod_findPoints_144 fl_Mod_51 c251 (by omega) rfl ?_
                  refine z_iconst X d_Mod_findPoints_147 ?_
                  refine z_iadd X d_Mod_findPoints_148 ?_
                  refine z_top (show _ = ((cnt (bg1 t) k9 + 1 : Nat) : Int) by omega) ?_
                  refine z_put X d_Mod_findPoints_149 fl_Mod_51 c251 (by omega) (Nat.le_of_ble_eq_true rfl) rfl rfl (fun h260 c261 fr262 => ?_)
                  have c261 : h260 42 = ob ci_Mod [.ref (ad (g_b G) 43), .ref (ad (g_b G) 44), vI (now), vI (last), .ref (ad (g_b G) 45), .ref (ad (g_b G) 46), vI (cl), vI (g), vI (o), .ref (ad (g_b G) 47), vI (ml), vI ((cnt (bg1 t) k9 + 1 : Nat) : Int), .ref (ad (g_b G) 48), .ref (ad (g_b G) 49), vI (its), .ref (ad (g_b G) 50), .ref (ad (g_b G) 51), vI (en)] := c261
                  have c263 := (fr262 43 (by omega)).trans c252
                  have c264 := (fr262 44 (by omega)).trans c253
                  have c265 := (fr262 45 (by omega)).trans c254
                  have c266 := (fr262 46 (by omega)).trans c255
                  have c267 := (fr262 47 (by omega)).trans c256
                  have c268 := (fr262 48 (by omega)).trans c257
                  have c269 := (fr262 49 (by omega)).trans c249
                  have c270 := (fr262 50 (by omega)).trans c258
                  have c271 := (fr262 51 (by omega)).trans c259
                  refine z_iload X d_Mod_findPoints_152 rfl ?_
                  refine z_if_eq (tgt := 163) X d_Mod_findPoints_154 (by decide) (by omega) (fun q8 => ?_) (fun q8 => ?_)
                  · refine z_iload_n X d_Mod_findPoints_163 rfl ?_
                    refine z_iconst X d_Mod_findPoints_164 ?_
                    refine z_iadd X d_Mod_findPoints_165 ?_
                    refine e_istore_n X d_Mod_findPoints_166 (by decide) ?_
                    refine e_goto (tgt := 14) X d_Mod_findPoints_167 (by decide) ?_
                    refine e_clear 4 ?_
                    refine e_clear 5 ?_
                    refine e_clear 6 ?_
                    have hnx : bg1 t (k9 + 1) = true ∨ k9 + 1 = n := by rcases Nat.lt_or_ge (k9 + 1) n with h9 | h9; exact Or.inl (bg1_one ht h9 hpr); exact Or.inr (by omega)
                    exact ih (k9 + 1) _ _ _ (by omega) (by omega) hnx (by rw [cnt_t hb1]; exact ⟨c261, c263, c264, c265, c266, c267, c268, c269, c270, c271⟩) (sel_t hs1 hb1) (codes_t hs2 hb1) (fun q q1 => ((fr262 q (by omega)).trans ((fr250 q (by omega)).trans (fr238 q (by omega)))).trans (hf q q1))
                  · exact absurd q8 (by decide)
                · exact absurd q7 (by decide)
              · refine z_iload X d_Mod_findPoints_81 rfl ?_
                refine z_ldc (n := 57343) X d_Mod_findPoints_83 cst_Mod_57 (by decide) ?_
                refine z_icmp_gt (tgt := 92) X d_Mod_findPoints_85 (by decide) (by omega) (fun q272 => ?_) (fun q272 => ?_)
                · refine z_iconst X d_Mod_findPoints_92 ?_
                  have hpr : (u_hi (t k9) && u_lo (t (k9 + 1))) = false := by  simp [u_hi, u_lo]; omega
                  refine e_istore X d_Mod_findPoints_93 (by decide) ?_
                  refine e_aload_n X d_Mod_findPoints_95 rfl ?_
                  refine e_get X d_Mod_findPoints_96 fl_Mod_30 d42b (by omega) rfl ?_
                  refine e_aload_n X d_Mod_findPoints_99 rfl ?_
                  refine e_get X d_Mod_findPoints_100 fl_Mod_51 d42b (by omega) rfl ?_
                  refine z_iload_n X d_Mod_findPoints_103 rfl ?_
                  refine z_iast X d_Mod_findPoints_104 (j := (cnt (bg1 t) k9)) d48b (by omega) (by omega) (by omega) (fun h273 c274 fr275 => ?_)
                  have c276 := (fr275 42 (by omega)).trans d42b
                  have c277 := (fr275 43 (by omega)).trans d43b
                  have c278 := (fr275 44 (by omega)).trans d44b
                  have c279 := (fr275 45 (by omega)).trans d45b
                  have c280 := (fr275 46 (by omega)).trans d46b
                  have c281 := (fr275 47 (by omega)).trans d47b
                  have c282 := (fr275 49 (by omega)).trans d49b
                  have c283 := (fr275 50 (by omega)).trans d50b
                  have c284 := (fr275 51 (by omega)).trans d51b
                  refine e_aload_n X d_Mod_findPoints_105 rfl ?_
                  refine e_get X d_Mod_findPoints_106 fl_Mod_33 c276 (by omega) rfl ?_
                  refine e_aload_n X d_Mod_findPoints_109 rfl ?_
                  refine e_get X d_Mod_findPoints_110 fl_Mod_51 c276 (by omega) rfl ?_
                  refine z_iload X d_Mod_findPoints_113 rfl ?_
                  refine z_if_eq (tgt := 139) X d_Mod_findPoints_115 (by decide) (by omega) (fun q7 => ?_) (fun q7 => ?_)
                  · refine z_iload X d_Mod_findPoints_139 rfl ?_
                    refine z_top (show _ = (cod t k9) from (by unfold cod; rw [hpr]; rfl)) ?_
                    refine z_iast X d_Mod_findPoints_141 (j := (cnt (bg1 t) k9)) c282 (by omega) (by omega) (by omega) (fun h285 c286 fr287 => ?_)
                    have c288 := (fr287 42 (by omega)).trans c276
                    have c289 := (fr287 43 (by omega)).trans c277
                    have c290 := (fr287 44 (by omega)).trans c278
                    have c291 := (fr287 45 (by omega)).trans c279
                    have c292 := (fr287 46 (by omega)).trans c280
                    have c293 := (fr287 47 (by omega)).trans c281
                    have c294 := (fr287 48 (by omega)).trans c274
                    have c295 := (fr287 50 (by omega)).trans c283
                    have c296 := (fr287 51 (by omega)).trans c284
                    refine e_aload_n X d_Mod_findPoints_142 rfl ?_
                    refine e_dup X d_Mod_findPoints_143 rfl ?_
                    refine e_get X d_Mod_findPoints_144 fl_Mod_51 c288 (by omega) rfl ?_
                    refine z_iconst X d_Mod_findPoints_147 ?_
                    refine z_iadd X d_Mod_findPoints_148 ?_
                    refine z_top (show _ = ((cnt (bg1 t) k9 + 1 : Nat) : Int) by omega) ?_
                    refine z_put X d_Mod_findPoints_149 fl_Mod_51 c288 (by omega) (Nat.le_of_ble_eq_true rfl) rfl rfl (fun h297 c298 fr299 => ?_)
                    have c298 : h297 42 = ob ci_Mod [.ref (ad (g_b G) 43), .ref (ad (g_b G) 44), vI (now), vI (last), .ref (ad (g_b G) 45), .ref (ad (g_b G) 46), vI (cl), vI (g), vI (o), .ref (ad (g_b G) 47), vI (ml), vI ((cnt (bg1 t) k9 + 1 : Nat) : Int), .ref (ad (g_b G) 48), .ref (ad (g_b G) 49), vI (its), .ref (ad (g_b G) 50), .ref (ad (g_b G) 51), vI (en)] := c298
                    have c300 := (fr299 43 (by omega)).trans c289
                    have c301 := (fr299 44 (by omega)).trans c290
                    have c302 := (fr299 45 (by omega)).trans c291
                    have c303 := (fr299 46 (by omega)).trans c292
                    have c304 := (fr299 47 (by omega)).trans c293
                    have c305 := (fr299 48 (by omega)).trans c294
                    have c306 := (fr299 49 (by omega)).trans c286
                    have c307 := (fr299 50 (by omega)).trans c295
                    have c308 := (fr299 51 (by omega)).trans c296
                    refine z_iload X d_Mod_findPoints_152 rfl ?_
                    refine z_if_eq (tgt := 163) X d_Mod_findPoints_154 (by decide) (by omega) (fun q8 => ?_) (fun q8 => ?_)
                    · refine z_iload_n X d_Mod_findPoints_163 rfl ?_
                      refine z_iconst X d_Mod_findPoints_164 ?_
                      refine z_iadd X d_Mod_findPoints_165 ?_
                      refine e_istore_n X d_Mod_findPoints_166 (by decide) ?_
                      refine e_goto (tgt := 14) X d_Mod_findPoints_167 (by decide) ?_
                      refine e_clear 4 ?_
                      refine e_clear 5 ?_
                      refine e_clear 6 ?_
                      have hnx : bg1 t (k9 + 1) = true ∨ k9 + 1 = n := by rcases Nat.lt_or_ge (k9 + 1) n with h9 | h9; exact Or.inl (bg1_one ht h9 hpr); exact Or.inr (by omega)
                      exact ih (k9 + 1) _ _ _ (by omega) (by omega) hnx (by rw [cnt_t hb1]; exact ⟨c298, c300, c301, c302, c303, c304, c305, c306, c307, c308⟩) (sel_t hs1 hb1) (codes_t hs2 hb1) (fun q q1 => ((fr299 q (by omega)).trans ((fr287 q (by omega)).trans (fr275 q (by omega)))).trans (hf q q1))
                    · exact absurd q8 (by decide)
                  · exact absurd q7 (by decide)
                · refine z_iconst X d_Mod_findPoints_88 ?_
                  refine e_goto (tgt := 93) X d_Mod_findPoints_89 (by decide) ?_
                  have hpr : (u_hi (t k9) && u_lo (t (k9 + 1))) = true := by  simp [u_hi, u_lo]; omega
                  refine e_istore X d_Mod_findPoints_93 (by decide) ?_
                  refine e_aload_n X d_Mod_findPoints_95 rfl ?_
                  refine e_get X d_Mod_findPoints_96 fl_Mod_30 d42b (by omega) rfl ?_
                  refine e_aload_n X d_Mod_findPoints_99 rfl ?_
                  refine e_get X d_Mod_findPoints_100 fl_Mod_51 d42b (by omega) rfl ?_
                  refine z_iload_n X d_Mod_findPoints_103 rfl ?_
                  refine z_iast X d_Mod_findPoints_104 (j := (cnt (bg1 t) k9)) d48b (by omega) (by omega) (by omega) (fun h309 c310 fr311 => ?_)
                  have c312 := (fr311 42 (by omega)).trans d42b
                  have c313 := (fr311 43 (by omega)).trans d43b
                  have c314 := (fr311 44 (by omega)).trans d44b
                  have c315 := (fr311 45 (by omega)).trans d45b
                  have c316 := (fr311 46 (by omega)).trans d46b
                  have c317 := (fr311 47 (by omega)).trans d47b
                  have c318 := (fr311 49 (by omega)).trans d49b
                  have c319 := (fr311 50 (by omega)).trans d50b
                  have c320 := (fr311 51 (by omega)).trans d51b
                  refine e_aload_n X d_Mod_findPoints_105 rfl ?_
                  refine e_get X d_Mod_findPoints_106 fl_Mod_33 c312 (by omega) rfl ?_
                  refine e_aload_n X d_Mod_findPoints_109 rfl ?_
                  refine e_get X d_Mod_findPoints_110 fl_Mod_51 c312 (by omega) rfl ?_
                  refine z_iload X d_Mod_findPoints_113 rfl ?_
                  refine z_if_eq (tgt := 139) X d_Mod_findPoints_115 (by decide) (by omega) (fun q7 => ?_) (fun q7 => ?_)
                  · exact absurd q7 (by decide)
                  · refine z_ldc (n := 65536) X d_Mod_findPoints_118 cst_Mod_58 (by decide) ?_
                    refine z_sipush X d_Mod_findPoints_120 (by decide) ?_
                    refine z_iload X d_Mod_findPoints_123 rfl ?_
                    refine z_ldc (n := 55296) X d_Mod_findPoints_125 cst_Mod_54 (by decide) ?_
                    refine z_isub X d_Mod_findPoints_127 ?_
                    refine z_imul X d_Mod_findPoints_128 ?_
                    refine z_iadd X d_Mod_findPoints_129 ?_
                    refine z_iload X d_Mod_findPoints_130 rfl ?_
                    refine z_iadd X d_Mod_findPoints_132 ?_
                    refine z_ldc (n := 56320) X d_Mod_findPoints_133 cst_Mod_56 (by decide) ?_
                    refine z_isub X d_Mod_findPoints_135 ?_
                    refine e_goto (tgt := 141) X d_Mod_findPoints_136 (by decide) ?_
                    refine z_top (show _ = (cod t k9) from (by unfold cod; rw [hpr]; rfl)) ?_
                    refine z_iast X d_Mod_findPoints_141 (j := (cnt (bg1 t) k9)) c318 (by omega) (by omega) (by omega) (fun h321 c322 fr323 => ?_)
                    have c324 := (fr323 42 (by omega)).trans c312
                    have c325 := (fr323 43 (by omega)).trans c313
                    have c326 := (fr323 44 (by omega)).trans c314
                    have c327 := (fr323 45 (by omega)).trans c315
                    have c328 := (fr323 46 (by omega)).trans c316
                    have c329 := (fr323 47 (by omega)).trans c317
                    have c330 := (fr323 48 (by omega)).trans c310
                    have c331 := (fr323 50 (by omega)).trans c319
                    have c332 := (fr323 51 (by omega)).trans c320
                    refine e_aload_n X d_Mod_findPoints_142 rfl ?_
                    refine e_dup X d_Mod_findPoints_143 rfl ?_
                    refine e_get X d_Mod_findPoints_144 fl_Mod_51 c324 (by omega) rfl ?_
                    refine z_iconst X d_Mod_findPoints_147 ?_
                    refine z_iadd X d_Mod_findPoints_148 ?_
                    refine z_top (show _ = ((cnt (bg1 t) k9 + 1 : Nat) : Int) by omega) ?_
                    refine z_put X d_Mod_findPoints_149 fl_Mod_51 c324 (by omega) (Nat.le_of_ble_eq_true rfl) rfl rfl (fun h333 c334 fr335 => ?_)
                    have c334 : h333 42 = ob ci_Mod [.ref (ad (g_b G) 43), .ref (ad (g_b G) 44), vI (now), vI (last), .ref (ad (g_b G) 45), .ref (ad (g_b G) 46), vI (cl), vI (g), vI (o), .ref (ad (g_b G) 47), vI (ml), vI ((cnt (bg1 t) k9 + 1 : Nat) : Int), .ref (ad (g_b G) 48), .ref (ad (g_b G) 49), vI (its), .ref (ad (g_b G) 50), .ref (ad (g_b G) 51), vI (en)] := c334
                    have c336 := (fr335 43 (by omega)).trans c325
                    have c337 := (fr335 44 (by omega)).trans c326
                    have c338 := (fr335 45 (by omega)).trans c327
                    have c339 := (fr335 46 (by omega)).trans c328
                    have c340 := (fr335 47 (by omega)).trans c329
                    have c341 := (fr335 48 (by omega)).trans c330
                    have c342 := (fr335 49 (by omega)).trans c322
                    have c343 := (fr335 50 (by omega)).trans c331
                    have c344 := (fr335 51 (by omega)).trans c332
                    refine z_iload X d_Mod_findPoints_152 rfl ?_
                    refine z_if_eq (tgt := 163) X d_Mod_findPoints_154 (by decide) (by omega) (fun q8 => ?_) (fun q8 => ?_)
                    · exact absurd q8 (by decide)
                    · refine z_iload_n X d_Mod_findPoints_157 rfl ?_
                      refine z_iconst X d_Mod_findPoints_158 ?_
                      refine z_iadd X d_Mod_findPoints_159 ?_
                      refine e_goto (tgt := 166) X d_Mod_findPoints_160 (by decide) ?_
                      refine e_istore_n X d_Mod_findPoints_166 (by decide) ?_
                      refine e_goto (tgt := 14) X d_Mod_findPoints_167 (by decide) ?_
                      refine e_clear 4 ?_
                      refine e_clear 5 ?_
                      refine e_clear 6 ?_
                      have hlt : k9 + 1 < n := by rcases Nat.lt_or_ge (k9 + 1) n with h9 | h9; exact h9; have h8 := ht.2 (k9 + 1) h9; rw [h8] at hpr; simp [u_lo] at hpr
                      have hb2 : bg1 t (k9 + 1) = false := bg1_sec hpr
                      have hnx : bg1 t (k9 + 2) = true ∨ k9 + 2 = n := by rcases Nat.lt_or_ge (k9 + 2) n with h9 | h9; exact Or.inl (bg1_one ht h9 (by simp only [Bool.and_eq_true] at hpr; have h8 := u_lo_iff.mp hpr.2; show (u_hi (t (k9 + 1)) && u_lo (t (k9 + 2))) = false; have h7 : u_hi (t (k9 + 1)) = false := decide_eq_false (by omega); rw [h7]; rfl)); exact Or.inr (by omega)
                      exact ih (k9 + 2) _ _ _ (by omega) (by omega) hnx (by rw [cnt_f hb2, cnt_t hb1]; exact ⟨c334, c336, c337, c338, c339, c340, c341, c342, c343, c344⟩) (sel_f (sel_t hs1 hb1) hb2) (codes_f (codes_t hs2 hb1) hb2) (fun q q1 => ((fr335 q (by omega)).trans ((fr323 q (by omega)).trans (fr311 q (by omega)))).trans (hf q q1))
  exact loop _ 0 PP CD _ (Nat.lt_succ_self _) (Nat.zero_le _) (by rcases Nat.eq_zero_or_pos n with h9 | h9; exact Or.inr h9.symm; exact Or.inl (bg1_one ht h9 (by simp [t_pre, u_hi]))) ⟨c2, c4, c5, c6, c7, c8, c9, c10, c11, c12⟩ (fun q hq => absurd hq (Nat.not_lt_zero _)) (fun q hq => absurd hq (Nat.not_lt_zero _)) (fun q q1 => fr3 q (by omega))

