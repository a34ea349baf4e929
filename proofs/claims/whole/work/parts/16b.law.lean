theorem MD.c42 {G : lx_G} {h : Nat → va_E} {now last : Nat} {T : Nat → tx_T} {c : Nat} {p : Nat → Int} {kp : Nat → Bool} {V : Nat → tx_T} {g o en : Int} (hD : MD G h now last T c p kp V g o en) : (∃ fs, h 42 = ob ci_Mod fs) ∧ now ≤ last ∧ last ≤ 8 := by
  obtain ⟨U, Ls, K, C, Md, ml, pts, its, PP, CD, PL, AT, hM, hsl, hsv, hK, hC, hcx, hc24, hnl, hgg, hoo, hee⟩ := hD
  exact ⟨⟨_, hM.1⟩, hnl⟩
theorem cn2_Law_15 : CIM R_Law 15 m2_VT_init 1 := cn_Law_15
set_option maxRecDepth 100000 in
set_option maxHeartbeats 4000000 in
theorem c_Law_cell {l : Launch} {G : lx_G} {b Lx : Nat} {xs : Nat → Int32} {N : Nat} {h : Nat → va_E} (hbG : b < g_b G) (hLx : Lx < 2147483648) : CtX l G b Lx xs m_Law_cell N [.ref b, vI 0] h (fun z h' => (-2147483648 ≤ z ∧ z < 2147483648) ∧ h' = h) := by
  refine zX_of hbG hLx (by decide) rfl rfl ?_
  intro k X hX Q
  have X : Cx k G R_Law b_Law_cell 2 rm_Law_cell := X
  have Q : Rt k G (some (.int)) N 0 0 (pI (fun z h' => (-2147483648 ≤ z ∧ z < 2147483648) ∧ h' = h)) := Q
  show Ev k G 2 N 0 0 h 0 [some (.ref b), some (vI 0)] []
  have hLx := hX.2.2.2
  refine z_iload_n X d_Law_cell_0 rfl ?_
  refine e_aload_n X d_Law_cell_1 rfl ?_
  refine z_slen X hX d_Law_cell_2 ?_
  refine z_icmp_ge (tgt := 12) X d_Law_cell_3 (by decide) (by omega) (fun q1 => ?_) (fun q1 => ?_)
  · refine z_iconst X d_Law_cell_12 ?_
    exact z_ireturn X Q d_Law_cell_13 rfl ⟨by omega, rfl⟩
  · refine e_aload_n X d_Law_cell_6 rfl ?_
    refine z_iload_n X d_Law_cell_7 rfl ?_
    refine z_sld X hX d_Law_cell_8 (j := 0) (by omega) (by omega) ?_
    refine e_goto (tgt := 13) X d_Law_cell_9 (by decide) ?_
    exact z_ireturn X Q d_Law_cell_13 rfl ⟨iI_rg _, rfl⟩

set_option maxRecDepth 100000 in
set_option maxHeartbeats 8000000 in
theorem law_ev {k : lx_K} {G : lx_G} {b Lx : Nat} {xs : Nat → Int32} {h : Nat → va_E} (X : Cx k G R_Law b_Law_law 4 room_1) (hX : SX k G b Lx xs) (hL9 : Lx ≤ 2049) (ret : ∀ (h1 : Nat → va_E) (L1 : List (Option Value)), Ev k G 4 52 52 5655 h1 614 L1 [vI 1]) : Ev k G 4 0 0 0 h 0 [some (.ref b), none, none, none] [] := by
  have hLx := hX.2.2.2
  have loop : ∀ (d9 i : Nat) (h2 : Nat → va_E) (n : Nat) (t : Nat → Int) (now last : Nat) (T : Nat → tx_T) (c : Nat) (p : Nat → Int) (kp : Nat → Bool) (V : Nat → tx_T) (g o en : Int), Lx + 4 - i < d9 → (1 ≤ i ∧ i ≤ Lx + 1) → VT G h2 n t now last T c p kp V g o en → MD G h2 now last T c p kp V g o en → T now = (n, t) → Ev k G 4 52 52 5655 h2 28 [some (.ref b), some (.ref (ad (g_b G) 0)), some (.ref (ad (g_b G) 42)), some (vI ((i : Nat) : Int))] [] := by
    intro d9
    induction d9 with
    | zero =>
      intro i h2 n t now last T c p kp V g o en hm9
      exact absurd hm9 (Nat.not_lt_zero _)
    | succ d9 ih =>
      intro i h2 n t now last T c p kp V g o en hm9 hi hV hD hnt
      have hc42 := hD.c42
      obtain ⟨⟨fs42, d42⟩, hnl⟩ := hc42
      have hN : 42 ≤ 52 := by omega
      have hN2 : 52 ≤ 52 := Nat.le_refl _
      refine z_iload_n X d_Law_law_28 rfl ?_
      refine e_aload_n X d_Law_law_29 rfl ?_
      refine z_slen X hX d_Law_law_30 ?_
      refine z_iconst X d_Law_law_31 ?_
      refine z_isub X d_Law_law_32 ?_
      refine z_icmp_gt (tgt := 613) X d_Law_law_33 (by decide) (by omega) (fun q0 => ?_) (fun q0 => ?_)
      · refine z_iconst X d_Law_law_613 ?_
        exact ret _ _
      · have hi4 : i + 3 < Lx := by omega
        refine e_aload_n X d_Law_law_36 rfl ?_
        refine z_iload_n X d_Law_law_37 rfl ?_
        refine z_sld X hX d_Law_law_38 (j := i) (by omega) (by omega) ?_
        refine z_bipush X d_Law_law_39 (by decide) ?_
        refine e_iand X d_Law_law_41 ?_
        generalize iI (xs i).toInt &&& iI 31 = y
        by_cases e0 : y.toInt = 0
        · refine e_tblIn (off := 90) (tgt := 132) X d_Law_law_42 (by omega) (by omega) (by rw [e0]; rfl) (by decide) ?_
          refine e_aload_n X d_Law_law_132 rfl ?_
          refine e_aload_n X d_Law_law_133 rfl ?_
          refine z_iload_n X d_Law_law_134 rfl ?_
          refine z_iconst X d_Law_law_135 ?_
          refine z_iadd X d_Law_law_136 ?_
          refine z_sld X hX d_Law_law_137 (j := (i + 1)) (by omega) (by omega) ?_
          refine z_i2cU X d_Law_law_138 ?_
          refine z_callV_I X d_Law_law_139 cv_Law_21 (c_VT_type hV hN (chz_rg _)) hV.1 (by omega) rfl rfl ⟨rfl, rfl⟩ rfl (fun z3 h1 hp2 => ?_)
          rcases hp2 with ⟨g1, rfl, hV1, hf1⟩ | ⟨g1, rfl, hV1, hf1⟩
          · have hD1 := hD.fr (fun q q1 q2 => hf1 q (by omega))
            have d42b := (hf1 42 (by omega)).trans d42
            refine e_aload_n X d_Law_law_142 rfl ?_
            refine e_aload_n X d_Law_law_143 rfl ?_
            refine z_iload_n X d_Law_law_144 rfl ?_
            refine z_iconst X d_Law_law_145 ?_
            refine z_iadd X d_Law_law_146 ?_
            refine z_sld X hX d_Law_law_147 (j := (i + 1)) (by omega) (by omega) ?_
            refine z_i2cU X d_Law_law_148 ?_
            refine z_callV_I X d_Law_law_149 cv_Law_25 (c_Mod_type hD1 hN2 (chz_rg _)) d42b (by omega) rfl rfl ⟨rfl, rfl⟩ rfl (fun z6 h4 hp5 => ?_)
            rcases hp5 with ⟨g2, rfl, hD2, hf2⟩ | ⟨g2, rfl, hD2, hf2⟩
            · have hV2 := hV1.fr (fun q q1 => hf2 q (by omega))
              refine z_same (tgt := 607) X d_Law_law_152 (by decide) ?_
              refine z_iinc X d_Law_law_607 rfl (by decide) ?_
              refine e_goto (tgt := 28) X d_Law_law_610 (by decide) ?_
              exact ih (i + 4) _ _ _ _ _ _ _ _ _ _ _ _ _ (by omega) (by omega) hV2 hD2 hnt
            · omega
          · have hD1 := hD.fr (fun q q1 q2 => hf1 q (by omega))
            have d42b := (hf1 42 (by omega)).trans d42
            refine e_aload_n X d_Law_law_142 rfl ?_
            refine e_aload_n X d_Law_law_143 rfl ?_
            refine z_iload_n X d_Law_law_144 rfl ?_
            refine z_iconst X d_Law_law_145 ?_
            refine z_iadd X d_Law_law_146 ?_
            refine z_sld X hX d_Law_law_147 (j := (i + 1)) (by omega) (by omega) ?_
            refine z_i2cU X d_Law_law_148 ?_
            refine z_callV_I X d_Law_law_149 cv_Law_25 (c_Mod_type hD1 hN2 (chz_rg _)) d42b (by omega) rfl rfl ⟨rfl, rfl⟩ rfl (fun z9 h7 hp8 => ?_)
            rcases hp8 with ⟨g2, rfl, hD2, hf2⟩ | ⟨g2, rfl, hD2, hf2⟩
            · omega
            · have hV2 := hV1.fr (fun q q1 => hf2 q (by omega))
              refine z_same (tgt := 607) X d_Law_law_152 (by decide) ?_
              refine z_iinc X d_Law_law_607 rfl (by decide) ?_
              refine e_goto (tgt := 28) X d_Law_law_610 (by decide) ?_
              exact ih (i + 4) _ _ _ _ _ _ _ _ _ _ _ _ _ (by omega) (by omega) hV2 hD2 hnt
        by_cases e1 : y.toInt = 1
        · refine e_tblIn (off := 115) (tgt := 157) X d_Law_law_42 (by omega) (by omega) (by rw [e1]; rfl) (by decide) ?_
          refine e_aload_n X d_Law_law_157 rfl ?_
          refine z_callV_V X d_Law_law_158 cv_Law_26 (c_VT_scrap hV hN ) hV.1 (by omega) rfl rfl ⟨rfl, rfl⟩ rfl (fun h10 hp11 => ?_)
          obtain ⟨hV1, hf1⟩ := hp11
          have hD1 := hD.fr (fun q q1 q2 => hf1 q (by omega))
          have d42b := (hf1 42 (by omega)).trans d42
          refine e_aload_n X d_Law_law_161 rfl ?_
          refine z_callV_V X d_Law_law_162 cv_Law_29 (c_Mod_scrap hD1 hN2 ) d42b (by omega) rfl rfl ⟨rfl, rfl⟩ rfl (fun h13 hp14 => ?_)
          obtain ⟨hD2, hf2⟩ := hp14
          have hV2 := hV1.fr (fun q q1 => hf2 q (by omega))
          refine e_goto (tgt := 607) X d_Law_law_165 (by decide) ?_
          refine z_iinc X d_Law_law_607 rfl (by decide) ?_
          refine e_goto (tgt := 28) X d_Law_law_610 (by decide) ?_
          exact ih (i + 4) _ _ _ _ _ _ _ _ _ _ _ _ _ (by omega) (by omega) hV2 hD2 hnt
        by_cases e2 : y.toInt = 2
        · refine e_tblIn (off := 126) (tgt := 168) X d_Law_law_42 (by omega) (by omega) (by rw [e2]; rfl) (by decide) ?_
          refine e_aload_n X d_Law_law_168 rfl ?_
          refine e_aload_n X d_Law_law_169 rfl ?_
          refine z_iload_n X d_Law_law_170 rfl ?_
          refine z_iconst X d_Law_law_171 ?_
          refine z_iadd X d_Law_law_172 ?_
          refine z_sld X hX d_Law_law_173 (j := (i + 1)) (by omega) (by omega) ?_
          refine z_callV_I X d_Law_law_174 cv_Law_30 (c_VT_insert hV hN (iI_rg _)) hV.1 (by omega) rfl rfl ⟨rfl, rfl⟩ rfl (fun z18 h16 hp17 => ?_)
          rcases hp17 with ⟨g1, rfl, hV1, hf1⟩ | ⟨g1, rfl, hV1, hf1⟩
          · have hD1 := hD.fr (fun q q1 q2 => hf1 q (by omega))
            have d42b := (hf1 42 (by omega)).trans d42
            refine e_aload_n X d_Law_law_177 rfl ?_
            refine e_aload_n X d_Law_law_178 rfl ?_
            refine z_iload_n X d_Law_law_179 rfl ?_
            refine z_iconst X d_Law_law_180 ?_
            refine z_iadd X d_Law_law_181 ?_
            refine z_sld X hX d_Law_law_182 (j := (i + 1)) (by omega) (by omega) ?_
            refine z_callV_I X d_Law_law_183 cv_Law_34 (c_Mod_insert hD1 hN2 hnt (iI_rg _)) d42b (by omega) rfl rfl ⟨rfl, rfl⟩ rfl (fun z21 h19 hp20 => ?_)
            rcases hp20 with ⟨g2, rfl, hD2, hf2⟩ | ⟨g2, rfl, hD2, hf2⟩
            · have hV2 := hV1.fr (fun q q1 => hf2 q (by omega))
              refine z_same (tgt := 607) X d_Law_law_186 (by decide) ?_
              refine z_iinc X d_Law_law_607 rfl (by decide) ?_
              refine e_goto (tgt := 28) X d_Law_law_610 (by decide) ?_
              exact ih (i + 4) _ _ _ _ _ _ _ _ _ _ _ _ _ (by omega) (by omega) hV2 hD2 (hT_at (by omega))
            · exact absurd (g1.symm.trans g2) (by decide)
          · have hD1 := hD.fr (fun q q1 q2 => hf1 q (by omega))
            have d42b := (hf1 42 (by omega)).trans d42
            refine e_aload_n X d_Law_law_177 rfl ?_
            refine e_aload_n X d_Law_law_178 rfl ?_
            refine z_iload_n X d_Law_law_179 rfl ?_
            refine z_iconst X d_Law_law_180 ?_
            refine z_iadd X d_Law_law_181 ?_
            refine z_sld X hX d_Law_law_182 (j := (i + 1)) (by omega) (by omega) ?_
            refine z_callV_I X d_Law_law_183 cv_Law_34 (c_Mod_insert hD1 hN2 hnt (iI_rg _)) d42b (by omega) rfl rfl ⟨rfl, rfl⟩ rfl (fun z24 h22 hp23 => ?_)
            rcases hp23 with ⟨g2, rfl, hD2, hf2⟩ | ⟨g2, rfl, hD2, hf2⟩
            · exact absurd (g1.symm.trans g2) (by decide)
            · have hV2 := hV1.fr (fun q q1 => hf2 q (by omega))
              refine z_same (tgt := 607) X d_Law_law_186 (by decide) ?_
              refine z_iinc X d_Law_law_607 rfl (by decide) ?_
              refine e_goto (tgt := 28) X d_Law_law_610 (by decide) ?_
              exact ih (i + 4) _ _ _ _ _ _ _ _ _ _ _ _ _ (by omega) (by omega) hV2 hD2 hnt
        by_cases e3 : y.toInt = 3
        · refine e_tblIn (off := 149) (tgt := 191) X d_Law_law_42 (by omega) (by omega) (by rw [e3]; rfl) (by decide) ?_
          refine e_aload_n X d_Law_law_191 rfl ?_
          refine e_aload_n X d_Law_law_192 rfl ?_
          refine z_iload_n X d_Law_law_193 rfl ?_
          refine z_iconst X d_Law_law_194 ?_
          refine z_iadd X d_Law_law_195 ?_
          refine z_sld X hX d_Law_law_196 (j := (i + 1)) (by omega) (by omega) ?_
          refine e_aload_n X d_Law_law_197 rfl ?_
          refine z_iload_n X d_Law_law_198 rfl ?_
          refine z_iconst X d_Law_law_199 ?_
          refine z_iadd X d_Law_law_200 ?_
          refine z_sld X hX d_Law_law_201 (j := (i + 2)) (by omega) (by omega) ?_
          refine z_callV_I X d_Law_law_202 cv_Law_35 (c_VT_remove hV hN (iI_rg _) (iI_rg _)) hV.1 (by omega) rfl rfl ⟨rfl, rfl⟩ rfl (fun z27 h25 hp26 => ?_)
          rcases hp26 with ⟨g1, rfl, hV1, hf1⟩ | ⟨g1, rfl, hV1, hf1⟩
          · have hD1 := hD.fr (fun q q1 q2 => hf1 q (by omega))
            have d42b := (hf1 42 (by omega)).trans d42
            refine e_aload_n X d_Law_law_205 rfl ?_
            refine e_aload_n X d_Law_law_206 rfl ?_
            refine z_iload_n X d_Law_law_207 rfl ?_
            refine z_iconst X d_Law_law_208 ?_
            refine z_iadd X d_Law_law_209 ?_
            refine z_sld X hX d_Law_law_210 (j := (i + 1)) (by omega) (by omega) ?_
            refine e_aload_n X d_Law_law_211 rfl ?_
            refine z_iload_n X d_Law_law_212 rfl ?_
            refine z_iconst X d_Law_law_213 ?_
            refine z_iadd X d_Law_law_214 ?_
            refine z_sld X hX d_Law_law_215 (j := (i + 2)) (by omega) (by omega) ?_
            refine z_callV_I X d_Law_law_216 cv_Law_39 (c_Mod_remove hD1 hN2 hnt (iI_rg _) (iI_rg _)) d42b (by omega) rfl rfl ⟨rfl, rfl⟩ rfl (fun z30 h28 hp29 => ?_)
            rcases hp29 with ⟨g2, rfl, hD2, hf2⟩ | ⟨g2, rfl, hD2, hf2⟩
            · have hV2 := hV1.fr (fun q q1 => hf2 q (by omega))
              refine z_same (tgt := 607) X d_Law_law_219 (by decide) ?_
              refine z_iinc X d_Law_law_607 rfl (by decide) ?_
              refine e_goto (tgt := 28) X d_Law_law_610 (by decide) ?_
              exact ih (i + 4) _ _ _ _ _ _ _ _ _ _ _ _ _ (by omega) (by omega) hV2 hD2 (hp_at (by omega))
            · exact absurd (g1.symm.trans g2) (by decide)
          · have hD1 := hD.fr (fun q q1 q2 => hf1 q (by omega))
            have d42b := (hf1 42 (by omega)).trans d42
            refine e_aload_n X d_Law_law_205 rfl ?_
            refine e_aload_n X d_Law_law_206 rfl ?_
            refine z_iload_n X d_Law_law_207 rfl ?_
            refine z_iconst X d_Law_law_208 ?_
            refine z_iadd X d_Law_law_209 ?_
            refine z_sld X hX d_Law_law_210 (j := (i + 1)) (by omega) (by omega) ?_
            refine e_aload_n X d_Law_law_211 rfl ?_
            refine z_iload_n X d_Law_law_212 rfl ?_
            refine z_iconst X d_Law_law_213 ?_
            refine z_iadd X d_Law_law_214 ?_
            refine z_sld X hX d_Law_law_215 (j := (i + 2)) (by omega) (by omega) ?_
            refine z_callV_I X d_Law_law_216 cv_Law_39 (c_Mod_remove hD1 hN2 hnt (iI_rg _) (iI_rg _)) d42b (by omega) rfl rfl ⟨rfl, rfl⟩ rfl (fun z33 h31 hp32 => ?_)
            rcases hp32 with ⟨g2, rfl, hD2, hf2⟩ | ⟨g2, rfl, hD2, hf2⟩
            · exact absurd (g1.symm.trans g2) (by decide)
            · have hV2 := hV1.fr (fun q q1 => hf2 q (by omega))
              refine z_same (tgt := 607) X d_Law_law_219 (by decide) ?_
              refine z_iinc X d_Law_law_607 rfl (by decide) ?_
              refine e_goto (tgt := 28) X d_Law_law_610 (by decide) ?_
              exact ih (i + 4) _ _ _ _ _ _ _ _ _ _ _ _ _ (by omega) (by omega) hV2 hD2 hnt
        by_cases e4 : y.toInt = 4
        · refine e_tblIn (off := 182) (tgt := 224) X d_Law_law_42 (by omega) (by omega) (by rw [e4]; rfl) (by decide) ?_
          refine e_aload_n X d_Law_law_224 rfl ?_
          refine e_aload_n X d_Law_law_225 rfl ?_
          refine z_iload_n X d_Law_law_226 rfl ?_
          refine z_iconst X d_Law_law_227 ?_
          refine z_iadd X d_Law_law_228 ?_
          refine z_sld X hX d_Law_law_229 (j := (i + 1)) (by omega) (by omega) ?_
          refine e_aload_n X d_Law_law_230 rfl ?_
          refine z_iload_n X d_Law_law_231 rfl ?_
          refine z_iconst X d_Law_law_232 ?_
          refine z_iadd X d_Law_law_233 ?_
          refine z_sld X hX d_Law_law_234 (j := (i + 2)) (by omega) (by omega) ?_
          refine z_callV_I X d_Law_law_235 cv_Law_40 (c_VT_replace hV hN (iI_rg _) (iI_rg _)) hV.1 (by omega) rfl rfl ⟨rfl, rfl⟩ rfl (fun z36 h34 hp35 => ?_)
          rcases hp35 with ⟨g1, rfl, hV1, hf1⟩ | ⟨g1, rfl, hV1, hf1⟩
          · have hD1 := hD.fr (fun q q1 q2 => hf1 q (by omega))
            have d42b := (hf1 42 (by omega)).trans d42
            refine e_aload_n X d_Law_law_238 rfl ?_
            refine e_aload_n X d_Law_law_239 rfl ?_
            refine z_iload_n X d_Law_law_240 rfl ?_
            refine z_iconst X d_Law_law_241 ?_
            refine z_iadd X d_Law_law_242 ?_
            refine z_sld X hX d_Law_law_243 (j := (i + 1)) (by omega) (by omega) ?_
            refine e_aload_n X d_Law_law_244 rfl ?_
            refine z_iload_n X d_Law_law_245 rfl ?_
            refine z_iconst X d_Law_law_246 ?_
            refine z_iadd X d_Law_law_247 ?_
            refine z_sld X hX d_Law_law_248 (j := (i + 2)) (by omega) (by omega) ?_
            refine z_callV_I X d_Law_law_249 cv_Law_43 (c_Mod_replace hD1 hN2 hnt (iI_rg _) (iI_rg _)) d42b (by omega) rfl rfl ⟨rfl, rfl⟩ rfl (fun z39 h37 hp38 => ?_)
            rcases hp38 with ⟨g2, rfl, hD2, hf2⟩ | ⟨g2, rfl, hD2, hf2⟩
            · have hV2 := hV1.fr (fun q q1 => hf2 q (by omega))
              refine z_same (tgt := 607) X d_Law_law_252 (by decide) ?_
              refine z_iinc X d_Law_law_607 rfl (by decide) ?_
              refine e_goto (tgt := 28) X d_Law_law_610 (by decide) ?_
              exact ih (i + 4) _ _ _ _ _ _ _ _ _ _ _ _ _ (by omega) (by omega) hV2 hD2 (hp_at (by omega))
            · exact absurd (g1.symm.trans g2) (by decide)
          · have hD1 := hD.fr (fun q q1 q2 => hf1 q (by omega))
            have d42b := (hf1 42 (by omega)).trans d42
            refine e_aload_n X d_Law_law_238 rfl ?_
            refine e_aload_n X d_Law_law_239 rfl ?_
            refine z_iload_n X d_Law_law_240 rfl ?_
            refine z_iconst X d_Law_law_241 ?_
            refine z_iadd X d_Law_law_242 ?_
            refine z_sld X hX d_Law_law_243 (j := (i + 1)) (by omega) (by omega) ?_
            refine e_aload_n X d_Law_law_244 rfl ?_
            refine z_iload_n X d_Law_law_245 rfl ?_
            refine z_iconst X d_Law_law_246 ?_
            refine z_iadd X d_Law_law_247 ?_
            refine z_sld X hX d_Law_law_248 (j := (i + 2)) (by omega) (by omega) ?_
            refine z_callV_I X d_Law_law_249 cv_Law_43 (c_Mod_replace hD1 hN2 hnt (iI_rg _) (iI_rg _)) d42b (by omega) rfl rfl ⟨rfl, rfl⟩ rfl (fun z42 h40 hp41 => ?_)
            rcases hp41 with ⟨g2, rfl, hD2, hf2⟩ | ⟨g2, rfl, hD2, hf2⟩
            · exact absurd (g1.symm.trans g2) (by decide)
            · have hV2 := hV1.fr (fun q q1 => hf2 q (by omega))
              refine z_same (tgt := 607) X d_Law_law_252 (by decide) ?_
              refine z_iinc X d_Law_law_607 rfl (by decide) ?_
              refine e_goto (tgt := 28) X d_Law_law_610 (by decide) ?_
              exact ih (i + 4) _ _ _ _ _ _ _ _ _ _ _ _ _ (by omega) (by omega) hV2 hD2 hnt
        by_cases e5 : y.toInt = 5
        · refine e_tblIn (off := 215) (tgt := 257) X d_Law_law_42 (by omega) (by omega) (by rw [e5]; rfl) (by decide) ?_
          refine e_aload_n X d_Law_law_257 rfl ?_
          refine z_callV_I X d_Law_law_258 cv_Law_44 (c_VT_undo hV hN ) hV.1 (by omega) rfl rfl ⟨rfl, rfl⟩ rfl (fun z45 h43 hp44 => ?_)
          rcases hp44 with ⟨g1, rfl, hV1, hf1⟩ | ⟨g1, rfl, hV1, hf1⟩
          · have hD1 := hD.fr (fun q q1 q2 => hf1 q (by omega))
            have d42b := (hf1 42 (by omega)).trans d42
            refine e_aload_n X d_Law_law_261 rfl ?_
            refine z_callV_I X d_Law_law_262 cv_Law_48 (c_Mod_undo hD1 hN2 ) d42b (by omega) rfl rfl ⟨rfl, rfl⟩ rfl (fun z48 h46 hp47 => ?_)
            rcases hp47 with ⟨g2, rfl, hD2, hf2⟩ | ⟨g2, rfl, hD2, hf2⟩
            · have hV2 := hV1.fr (fun q q1 => hf2 q (by omega))
              refine z_same (tgt := 607) X d_Law_law_265 (by decide) ?_
              refine z_iinc X d_Law_law_607 rfl (by decide) ?_
              refine e_goto (tgt := 28) X d_Law_law_610 (by decide) ?_
              exact ih (i + 4) _ _ _ _ _ _ _ _ _ _ _ _ _ (by omega) (by omega) hV2 hD2 rfl
            · omega
          · have hD1 := hD.fr (fun q q1 q2 => hf1 q (by omega))
            have d42b := (hf1 42 (by omega)).trans d42
            refine e_aload_n X d_Law_law_261 rfl ?_
            refine z_callV_I X d_Law_law_262 cv_Law_48 (c_Mod_undo hD1 hN2 ) d42b (by omega) rfl rfl ⟨rfl, rfl⟩ rfl (fun z51 h49 hp50 => ?_)
            rcases hp50 with ⟨g2, rfl, hD2, hf2⟩ | ⟨g2, rfl, hD2, hf2⟩
            · omega
            · have hV2 := hV1.fr (fun q q1 => hf2 q (by omega))
              refine z_same (tgt := 607) X d_Law_law_265 (by decide) ?_
              refine z_iinc X d_Law_law_607 rfl (by decide) ?_
              refine e_goto (tgt := 28) X d_Law_law_610 (by decide) ?_
              exact ih (i + 4) _ _ _ _ _ _ _ _ _ _ _ _ _ (by omega) (by omega) hV2 hD2 hnt
        by_cases e6 : y.toInt = 6
        · refine e_tblIn (off := 228) (tgt := 270) X d_Law_law_42 (by omega) (by omega) (by rw [e6]; rfl) (by decide) ?_
          refine e_aload_n X d_Law_law_270 rfl ?_
          refine z_callV_I X d_Law_law_271 cv_Law_49 (c_VT_redo hV hN ) hV.1 (by omega) rfl rfl ⟨rfl, rfl⟩ rfl (fun z54 h52 hp53 => ?_)
          rcases hp53 with ⟨g1, rfl, hV1, hf1⟩ | ⟨g1, rfl, hV1, hf1⟩
          · have hD1 := hD.fr (fun q q1 q2 => hf1 q (by omega))
            have d42b := (hf1 42 (by omega)).trans d42
            refine e_aload_n X d_Law_law_274 rfl ?_
            refine z_callV_I X d_Law_law_275 cv_Law_52 (c_Mod_redo hD1 hN2 ) d42b (by omega) rfl rfl ⟨rfl, rfl⟩ rfl (fun z57 h55 hp56 => ?_)
            rcases hp56 with ⟨g2, rfl, hD2, hf2⟩ | ⟨g2, rfl, hD2, hf2⟩
            · have hV2 := hV1.fr (fun q q1 => hf2 q (by omega))
              refine z_same (tgt := 607) X d_Law_law_278 (by decide) ?_
              refine z_iinc X d_Law_law_607 rfl (by decide) ?_
              refine e_goto (tgt := 28) X d_Law_law_610 (by decide) ?_
              exact ih (i + 4) _ _ _ _ _ _ _ _ _ _ _ _ _ (by omega) (by omega) hV2 hD2 rfl
            · omega
          · have hD1 := hD.fr (fun q q1 q2 => hf1 q (by omega))
            have d42b := (hf1 42 (by omega)).trans d42
            refine e_aload_n X d_Law_law_274 rfl ?_
            refine z_callV_I X d_Law_law_275 cv_Law_52 (c_Mod_redo hD1 hN2 ) d42b (by omega) rfl rfl ⟨rfl, rfl⟩ rfl (fun z60 h58 hp59 => ?_)
            rcases hp59 with ⟨g2, rfl, hD2, hf2⟩ | ⟨g2, rfl, hD2, hf2⟩
            · omega
            · have hV2 := hV1.fr (fun q q1 => hf2 q (by omega))
              refine z_same (tgt := 607) X d_Law_law_278 (by decide) ?_
              refine z_iinc X d_Law_law_607 rfl (by decide) ?_
              refine e_goto (tgt := 28) X d_Law_law_610 (by decide) ?_
              exact ih (i + 4) _ _ _ _ _ _ _ _ _ _ _ _ _ (by omega) (by omega) hV2 hD2 hnt
        by_cases e7 : y.toInt = 7
        · refine e_tblIn (off := 241) (tgt := 283) X d_Law_law_42 (by omega) (by omega) (by rw [e7]; rfl) (by decide) ?_
          refine e_aload_n X d_Law_law_283 rfl ?_
          refine e_aload_n X d_Law_law_284 rfl ?_
          refine z_iload_n X d_Law_law_285 rfl ?_
          refine z_iconst X d_Law_law_286 ?_
          refine z_iadd X d_Law_law_287 ?_
          refine z_sld X hX d_Law_law_288 (j := (i + 1)) (by omega) (by omega) ?_
          have hD1 := hD
          refine z_callV_I X d_Law_law_289 cv_Law_53 (c_VT_steps hV hN (iI_rg _)) hV.1 (by omega) rfl rfl ⟨rfl, rfl⟩ rfl (fun z63 h61 hp62 => ?_)
          obtain ⟨rfl, he1⟩ := hp62
          rw [he1]
          refine e_aload_n X d_Law_law_292 rfl ?_
          refine e_aload_n X d_Law_law_293 rfl ?_
          refine z_iload_n X d_Law_law_294 rfl ?_
          refine z_iconst X d_Law_law_295 ?_
          refine z_iadd X d_Law_law_296 ?_
          refine z_sld X hX d_Law_law_297 (j := (i + 1)) (by omega) (by omega) ?_
          refine z_callV_I X d_Law_law_298 cv_Law_57 (c_Mod_steps hD1 hN2 (iI_rg _)) d42 (by omega) rfl rfl ⟨rfl, rfl⟩ rfl (fun z66 h64 hp65 => ?_)
          obtain ⟨rfl, he2⟩ := hp65
          rw [he2]
          refine z_same (tgt := 607) X d_Law_law_301 (by decide) ?_
          refine z_iinc X d_Law_law_607 rfl (by decide) ?_
          refine e_goto (tgt := 28) X d_Law_law_610 (by decide) ?_
          exact ih (i + 4) _ _ _ _ _ _ _ _ _ _ _ _ _ (by omega) (by omega) hV hD hnt
        by_cases e8 : y.toInt = 8
        · refine e_tblIn (off := 264) (tgt := 306) X d_Law_law_42 (by omega) (by omega) (by rw [e8]; rfl) (by decide) ?_
          refine e_aload_n X d_Law_law_306 rfl ?_
          refine z_callV_V X d_Law_law_307 cv_Law_58 (c_VT_seal hV hN ) hV.1 (by omega) rfl rfl ⟨rfl, rfl⟩ rfl (fun h67 hp68 => ?_)
          obtain ⟨hV1, hf1⟩ := hp68
          have hD1 := hD.fr (fun q q1 q2 => hf1 q (by omega))
          have d42b := (hf1 42 (by omega)).trans d42
          refine e_aload_n X d_Law_law_310 rfl ?_
          refine z_callV_V X d_Law_law_311 cv_Law_61 (c_Mod_seal hD1 hN2 ) d42b (by omega) rfl rfl ⟨rfl, rfl⟩ rfl (fun h70 hp71 => ?_)
          obtain ⟨hD2, hf2⟩ := hp71
          have hV2 := hV1.fr (fun q q1 => hf2 q (by omega))
          refine e_goto (tgt := 607) X d_Law_law_314 (by decide) ?_
          refine z_iinc X d_Law_law_607 rfl (by decide) ?_
          refine e_goto (tgt := 28) X d_Law_law_610 (by decide) ?_
          exact ih (i + 4) _ _ _ _ _ _ _ _ _ _ _ _ _ (by omega) (by omega) hV2 hD2 hnt
        by_cases e9 : y.toInt = 9
        · refine e_tblIn (off := 275) (tgt := 317) X d_Law_law_42 (by omega) (by omega) (by rw [e9]; rfl) (by decide) ?_
          refine e_aload_n X d_Law_law_317 rfl ?_
          refine e_aload_n X d_Law_law_318 rfl ?_
          refine z_iload_n X d_Law_law_319 rfl ?_
          refine z_iconst X d_Law_law_320 ?_
          refine z_iadd X d_Law_law_321 ?_
          refine z_sld X hX d_Law_law_322 (j := (i + 1)) (by omega) (by omega) ?_
          refine z_callV_I X d_Law_law_323 cv_Law_62 (c_VT_guard hV hN (iI_rg _)) hV.1 (by omega) rfl rfl ⟨rfl, rfl⟩ rfl (fun z75 h73 hp74 => ?_)
          rcases hp74 with ⟨g1, rfl, hV1, hf1⟩ | ⟨g1, rfl, hV1, hf1⟩
          · have hD1 := hD.fr (fun q q1 q2 => hf1 q (by omega))
            have d42b := (hf1 42 (by omega)).trans d42
            refine e_aload_n X d_Law_law_326 rfl ?_
            refine e_aload_n X d_Law_law_327 rfl ?_
            refine z_iload_n X d_Law_law_328 rfl ?_
            refine z_iconst X d_Law_law_329 ?_
            refine z_iadd X d_Law_law_330 ?_
            refine z_sld X hX d_Law_law_331 (j := (i + 1)) (by omega) (by omega) ?_
            refine z_callV_I X d_Law_law_332 cv_Law_65 (c_Mod_guard hD1 hN2 (iI_rg _)) d42b (by omega) rfl rfl ⟨rfl, rfl⟩ rfl (fun z78 h76 hp77 => ?_)
            rcases hp77 with ⟨g2, rfl, hD2, hf2⟩ | ⟨g2, rfl, hD2, hf2⟩
            · have hV2 := hV1.fr (fun q q1 => hf2 q (by omega))
              refine z_same (tgt := 607) X d_Law_law_335 (by decide) ?_
              refine z_iinc X d_Law_law_607 rfl (by decide) ?_
              refine e_goto (tgt := 28) X d_Law_law_610 (by decide) ?_
              exact ih (i + 4) _ _ _ _ _ _ _ _ _ _ _ _ _ (by omega) (by omega) hV2 hD2 hnt
            · exact absurd g1 g2
          · have hD1 := hD.fr (fun q q1 q2 => hf1 q (by omega))
            have d42b := (hf1 42 (by omega)).trans d42
            refine e_aload_n X d_Law_law_326 rfl ?_
            refine e_aload_n X d_Law_law_327 rfl ?_
            refine z_iload_n X d_Law_law_328 rfl ?_
            refine z_iconst X d_Law_law_329 ?_
            refine z_iadd X d_Law_law_330 ?_
            refine z_sld X hX d_Law_law_331 (j := (i + 1)) (by omega) (by omega) ?_
            refine z_callV_I X d_Law_law_332 cv_Law_65 (c_Mod_guard hD1 hN2 (iI_rg _)) d42b (by omega) rfl rfl ⟨rfl, rfl⟩ rfl (fun z81 h79 hp80 => ?_)
            rcases hp80 with ⟨g2, rfl, hD2, hf2⟩ | ⟨g2, rfl, hD2, hf2⟩
            · exact absurd g2 g1
            · have hV2 := hV1.fr (fun q q1 => hf2 q (by omega))
              refine z_same (tgt := 607) X d_Law_law_335 (by decide) ?_
              refine z_iinc X d_Law_law_607 rfl (by decide) ?_
              refine e_goto (tgt := 28) X d_Law_law_610 (by decide) ?_
              exact ih (i + 4) _ _ _ _ _ _ _ _ _ _ _ _ _ (by omega) (by omega) hV2 hD2 hnt
        by_cases e10 : y.toInt = 10
        · refine e_tblIn (off := 298) (tgt := 340) X d_Law_law_42 (by omega) (by omega) (by rw [e10]; rfl) (by decide) ?_
          refine e_aload_n X d_Law_law_340 rfl ?_
          refine z_callV_I X d_Law_law_341 cv_Law_66 (c_VT_snapshot hV hN ) hV.1 (by omega) rfl rfl ⟨rfl, rfl⟩ rfl (fun z84 h82 hp83 => ?_)
          rcases hp83 with ⟨v1, hv1, rfl, g1, g2, hV1, hf1⟩ | ⟨rfl, g2, hV1, hf1⟩
          · have hD1 := hD.fr (fun q q1 q2 => hf1 q (by omega))
            have d42b := (hf1 42 (by omega)).trans d42
            refine e_aload_n X d_Law_law_344 rfl ?_
            refine z_callV_I X d_Law_law_345 cv_Law_70 (c_Mod_snapshot hD1 hN2 hnt ) d42b (by omega) rfl rfl ⟨rfl, rfl⟩ rfl (fun z87 h85 hp86 => ?_)
            rcases hp86 with ⟨v2, hv2, rfl, g3, g4, hD2, hf2⟩ | ⟨rfl, g4, hD2, hf2⟩
            · have hvv : v2 = v1 := by
                rcases Nat.lt_trichotomy v2 v1 with h9 | h9 | h9
                · exact absurd ((g2 v2 hv2.1 h9).symm.trans g3) (by decide)
                · exact h9
                · exact absurd ((g4 v1 hv1.1 h9).symm.trans g1) (by decide)
              subst hvv
              have hV2 := hV1.fr (fun q q1 => hf2 q (by omega))
              refine z_same (tgt := 607) X d_Law_law_348 (by decide) ?_
              refine z_iinc X d_Law_law_607 rfl (by decide) ?_
              refine e_goto (tgt := 28) X d_Law_law_610 (by decide) ?_
              exact ih (i + 4) _ _ _ _ _ _ _ _ _ _ _ _ _ (by omega) (by omega) hV2 hD2 hnt
            · exact absurd ((g4 v1 hv1.1 hv1.2).symm.trans g1) (by decide)
          · have hD1 := hD.fr (fun q q1 q2 => hf1 q (by omega))
            have d42b := (hf1 42 (by omega)).trans d42
            refine e_aload_n X d_Law_law_344 rfl ?_
            refine z_callV_I X d_Law_law_345 cv_Law_70 (c_Mod_snapshot hD1 hN2 hnt ) d42b (by omega) rfl rfl ⟨rfl, rfl⟩ rfl (fun z90 h88 hp89 => ?_)
            rcases hp89 with ⟨v2, hv2, rfl, g3, g4, hD2, hf2⟩ | ⟨rfl, g4, hD2, hf2⟩
            · exact absurd ((g2 v2 hv2.1 hv2.2).symm.trans g3) (by decide)
            · have hV2 := hV1.fr (fun q q1 => hf2 q (by omega))
              refine z_same (tgt := 607) X d_Law_law_348 (by decide) ?_
              refine z_iinc X d_Law_law_607 rfl (by decide) ?_
              refine e_goto (tgt := 28) X d_Law_law_610 (by decide) ?_
              exact ih (i + 4) _ _ _ _ _ _ _ _ _ _ _ _ _ (by omega) (by omega) hV2 hD2 hnt
        by_cases e11 : y.toInt = 11
        · refine e_tblIn (off := 311) (tgt := 353) X d_Law_law_42 (by omega) (by omega) (by rw [e11]; rfl) (by decide) ?_
          refine e_aload_n X d_Law_law_353 rfl ?_
          refine e_aload_n X d_Law_law_354 rfl ?_
          refine z_iload_n X d_Law_law_355 rfl ?_
          refine z_iconst X d_Law_law_356 ?_
          refine z_iadd X d_Law_law_357 ?_
          refine z_sld X hX d_Law_law_358 (j := (i + 1)) (by omega) (by omega) ?_
          refine z_callV_I X d_Law_law_359 cv_Law_71 (c_VT_release hV hN (iI_rg _)) hV.1 (by omega) rfl rfl ⟨rfl, rfl⟩ rfl (fun z93 h91 hp92 => ?_)
          rcases hp92 with ⟨g1, rfl, hV1, hf1⟩ | ⟨g1, rfl, hV1, hf1⟩
          · have hD1 := hD.fr (fun q q1 q2 => hf1 q (by omega))
            have d42b := (hf1 42 (by omega)).trans d42
            refine e_aload_n X d_Law_law_362 rfl ?_
            refine e_aload_n X d_Law_law_363 rfl ?_
            refine z_iload_n X d_Law_law_364 rfl ?_
            refine z_iconst X d_Law_law_365 ?_
            refine z_iadd X d_Law_law_366 ?_
            refine z_sld X hX d_Law_law_367 (j := (i + 1)) (by omega) (by omega) ?_
            refine z_callV_I X d_Law_law_368 cv_Law_74 (c_Mod_release hD1 hN2 (iI_rg _)) d42b (by omega) rfl rfl ⟨rfl, rfl⟩ rfl (fun z96 h94 hp95 => ?_)
            rcases hp95 with ⟨g2, rfl, hD2, hf2⟩ | ⟨g2, rfl, hD2, hf2⟩
            · have hV2 := hV1.fr (fun q q1 => hf2 q (by omega))
              refine z_same (tgt := 607) X d_Law_law_371 (by decide) ?_
              refine z_iinc X d_Law_law_607 rfl (by decide) ?_
              refine e_goto (tgt := 28) X d_Law_law_610 (by decide) ?_
              exact ih (i + 4) _ _ _ _ _ _ _ _ _ _ _ _ _ (by omega) (by omega) hV2 hD2 hnt
            · exact absurd (g1.symm.trans g2) (by decide)
          · have hD1 := hD.fr (fun q q1 q2 => hf1 q (by omega))
            have d42b := (hf1 42 (by omega)).trans d42
            refine e_aload_n X d_Law_law_362 rfl ?_
            refine e_aload_n X d_Law_law_363 rfl ?_
            refine z_iload_n X d_Law_law_364 rfl ?_
            refine z_iconst X d_Law_law_365 ?_
            refine z_iadd X d_Law_law_366 ?_
            refine z_sld X hX d_Law_law_367 (j := (i + 1)) (by omega) (by omega) ?_
            refine z_callV_I X d_Law_law_368 cv_Law_74 (c_Mod_release hD1 hN2 (iI_rg _)) d42b (by omega) rfl rfl ⟨rfl, rfl⟩ rfl (fun z99 h97 hp98 => ?_)
            rcases hp98 with ⟨g2, rfl, hD2, hf2⟩ | ⟨g2, rfl, hD2, hf2⟩
            · exact absurd (g1.symm.trans g2) (by decide)
            · have hV2 := hV1.fr (fun q q1 => hf2 q (by omega))
              refine z_same (tgt := 607) X d_Law_law_371 (by decide) ?_
              refine z_iinc X d_Law_law_607 rfl (by decide) ?_
              refine e_goto (tgt := 28) X d_Law_law_610 (by decide) ?_
              exact ih (i + 4) _ _ _ _ _ _ _ _ _ _ _ _ _ (by omega) (by omega) hV2 hD2 hnt
        by_cases e12 : y.toInt = 12
        · refine e_tblIn (off := 334) (tgt := 376) X d_Law_law_42 (by omega) (by omega) (by rw [e12]; rfl) (by decide) ?_
          refine e_aload_n X d_Law_law_376 rfl ?_
          refine e_aload_n X d_Law_law_377 rfl ?_
          refine z_iload_n X d_Law_law_378 rfl ?_
          refine z_iconst X d_Law_law_379 ?_
          refine z_iadd X d_Law_law_380 ?_
          refine z_sld X hX d_Law_law_381 (j := (i + 1)) (by omega) (by omega) ?_
          refine e_aload_n X d_Law_law_382 rfl ?_
          refine z_iload_n X d_Law_law_383 rfl ?_
          refine z_iconst X d_Law_law_384 ?_
          refine z_iadd X d_Law_law_385 ?_
          refine z_sld X hX d_Law_law_386 (j := (i + 2)) (by omega) (by omega) ?_
          have hD1 := hD
          refine z_callV_I X d_Law_law_387 cv_Law_75 (c_VT_unit hV hN (iI_rg _) (iI_rg _)) hV.1 (by omega) rfl rfl ⟨rfl, rfl⟩ rfl (fun z102 h100 hp101 => ?_)
          obtain ⟨rfl, he1⟩ := hp101
          rw [he1]
          refine e_aload_n X d_Law_law_390 rfl ?_
          refine e_aload_n X d_Law_law_391 rfl ?_
          refine z_iload_n X d_Law_law_392 rfl ?_
          refine z_iconst X d_Law_law_393 ?_
          refine z_iadd X d_Law_law_394 ?_
          refine z_sld X hX d_Law_law_395 (j := (i + 1)) (by omega) (by omega) ?_
          refine e_aload_n X d_Law_law_396 rfl ?_
          refine z_iload_n X d_Law_law_397 rfl ?_
          refine z_iconst X d_Law_law_398 ?_
          refine z_iadd X d_Law_law_399 ?_
          refine z_sld X hX d_Law_law_400 (j := (i + 2)) (by omega) (by omega) ?_
          refine z_callV_I X d_Law_law_401 cv_Law_79 (c_Mod_unit hD1 hN2 hnt (iI_rg _) (iI_rg _)) d42 (by omega) rfl rfl ⟨rfl, rfl⟩ rfl (fun z105 h103 hp104 => ?_)
          obtain ⟨rfl, he2⟩ := hp104
          rw [he2]
          refine z_same (tgt := 607) X d_Law_law_404 (by decide) ?_
          refine z_iinc X d_Law_law_607 rfl (by decide) ?_
          refine e_goto (tgt := 28) X d_Law_law_610 (by decide) ?_
          exact ih (i + 4) _ _ _ _ _ _ _ _ _ _ _ _ _ (by omega) (by omega) hV hD hnt
        by_cases e13 : y.toInt = 13
        · refine e_tblIn (off := 367) (tgt := 409) X d_Law_law_42 (by omega) (by omega) (by rw [e13]; rfl) (by decide) ?_
          refine e_aload_n X d_Law_law_409 rfl ?_
          refine e_aload_n X d_Law_law_410 rfl ?_
          refine z_iload_n X d_Law_law_411 rfl ?_
          refine z_iconst X d_Law_law_412 ?_
          refine z_iadd X d_Law_law_413 ?_
          refine z_sld X hX d_Law_law_414 (j := (i + 1)) (by omega) (by omega) ?_
          refine e_aload_n X d_Law_law_415 rfl ?_
          refine z_iload_n X d_Law_law_416 rfl ?_
          refine z_iconst X d_Law_law_417 ?_
          refine z_iadd X d_Law_law_418 ?_
          refine z_sld X hX d_Law_law_419 (j := (i + 2)) (by omega) (by omega) ?_
          refine z_callV_I X d_Law_law_420 cv_Law_80 (c_VT_count hV hN (iI_rg _) (iI_rg _)) hV.1 (by omega) rfl rfl ⟨rfl, rfl⟩ rfl (fun z108 h106 hp107 => ?_)
          obtain ⟨rfl, hV1, hf1⟩ := hp107
          have hD1 := hD.fr (fun q q1 q2 => hf1 q (by omega))
          have d42b := (hf1 42 (by omega)).trans d42
          refine e_aload_n X d_Law_law_423 rfl ?_
          refine e_aload_n X d_Law_law_424 rfl ?_
          refine z_iload_n X d_Law_law_425 rfl ?_
          refine z_iconst X d_Law_law_426 ?_
          refine z_iadd X d_Law_law_427 ?_
          refine z_sld X hX d_Law_law_428 (j := (i + 1)) (by omega) (by omega) ?_
          refine e_aload_n X d_Law_law_429 rfl ?_
          refine z_iload_n X d_Law_law_430 rfl ?_
          refine z_iconst X d_Law_law_431 ?_
          refine z_iadd X d_Law_law_432 ?_
          refine z_sld X hX d_Law_law_433 (j := (i + 2)) (by omega) (by omega) ?_
          refine z_callV_I X d_Law_law_434 cv_Law_83 (c_Mod_count hD1 hN2 hnt (iI_rg _) (iI_rg _)) d42b (by omega) rfl rfl ⟨rfl, rfl⟩ rfl (fun z111 h109 hp110 => ?_)
          obtain ⟨rfl, hD2, hf2⟩ := hp110
          have hV2 := hV1.fr (fun q q1 => hf2 q (by omega))
          refine z_same (tgt := 607) X d_Law_law_437 (by decide) ?_
          refine z_iinc X d_Law_law_607 rfl (by decide) ?_
          refine e_goto (tgt := 28) X d_Law_law_610 (by decide) ?_
          exact ih (i + 4) _ _ _ _ _ _ _ _ _ _ _ _ _ (by omega) (by omega) hV2 hD2 hnt
        by_cases e14 : y.toInt = 14
        · refine e_tblIn (off := 400) (tgt := 442) X d_Law_law_42 (by omega) (by omega) (by rw [e14]; rfl) (by decide) ?_
          refine e_aload_n X d_Law_law_442 rfl ?_
          refine e_aload_n X d_Law_law_443 rfl ?_
          refine z_iload_n X d_Law_law_444 rfl ?_
          refine z_iconst X d_Law_law_445 ?_
          refine z_iadd X d_Law_law_446 ?_
          refine z_sld X hX d_Law_law_447 (j := (i + 1)) (by omega) (by omega) ?_
          refine e_aload_n X d_Law_law_448 rfl ?_
          refine z_iload_n X d_Law_law_449 rfl ?_
          refine z_iconst X d_Law_law_450 ?_
          refine z_iadd X d_Law_law_451 ?_
          refine z_sld X hX d_Law_law_452 (j := (i + 2)) (by omega) (by omega) ?_
          refine e_aload_n X d_Law_law_453 rfl ?_
          refine z_iload_n X d_Law_law_454 rfl ?_
          refine z_iconst X d_Law_law_455 ?_
          refine z_iadd X d_Law_law_456 ?_
          refine z_sld X hX d_Law_law_457 (j := (i + 3)) (by omega) (by omega) ?_
          refine z_callV_I X d_Law_law_458 cv_Law_84 (c_VT_place hV hN (iI_rg _) (iI_rg _) (iI_rg _)) hV.1 (by omega) rfl rfl ⟨rfl, rfl⟩ rfl (fun z114 h112 hp113 => ?_)
          obtain ⟨rfl, hV1, hf1⟩ := hp113
          have hD1 := hD.fr (fun q q1 q2 => hf1 q (by omega))
          have d42b := (hf1 42 (by omega)).trans d42
          refine e_aload_n X d_Law_law_461 rfl ?_
          refine e_aload_n X d_Law_law_462 rfl ?_
          refine z_iload_n X d_Law_law_463 rfl ?_
          refine z_iconst X d_Law_law_464 ?_
          refine z_iadd X d_Law_law_465 ?_
          refine z_sld X hX d_Law_law_466 (j := (i + 1)) (by omega) (by omega) ?_
          refine e_aload_n X d_Law_law_467 rfl ?_
          refine z_iload_n X d_Law_law_468 rfl ?_
          refine z_iconst X d_Law_law_469 ?_
          refine z_iadd X d_Law_law_470 ?_
          refine z_sld X hX d_Law_law_471 (j := (i + 2)) (by omega) (by omega) ?_
          refine e_aload_n X d_Law_law_472 rfl ?_
          refine z_iload_n X d_Law_law_473 rfl ?_
          refine z_iconst X d_Law_law_474 ?_
          refine z_iadd X d_Law_law_475 ?_
          refine z_sld X hX d_Law_law_476 (j := (i + 3)) (by omega) (by omega) ?_
          refine z_callV_I X d_Law_law_477 cv_Law_88 (c_Mod_place hD1 hN2 hnt (iI_rg _) (iI_rg _) (iI_rg _)) d42b (by omega) rfl rfl ⟨rfl, rfl⟩ rfl (fun z117 h115 hp116 => ?_)
          obtain ⟨rfl, hD2, hf2⟩ := hp116
          have hV2 := hV1.fr (fun q q1 => hf2 q (by omega))
          refine z_same (tgt := 607) X d_Law_law_480 (by decide) ?_
          refine z_iinc X d_Law_law_607 rfl (by decide) ?_
          refine e_goto (tgt := 28) X d_Law_law_610 (by decide) ?_
          exact ih (i + 4) _ _ _ _ _ _ _ _ _ _ _ _ _ (by omega) (by omega) hV2 hD2 hnt
        by_cases e15 : y.toInt = 15
        · refine e_tblIn (off := 443) (tgt := 485) X d_Law_law_42 (by omega) (by omega) (by rw [e15]; rfl) (by decide) ?_
          refine e_aload_n X d_Law_law_485 rfl ?_
          refine e_aload_n X d_Law_law_486 rfl ?_
          refine z_iload_n X d_Law_law_487 rfl ?_
          refine z_iconst X d_Law_law_488 ?_
          refine z_iadd X d_Law_law_489 ?_
          refine z_sld X hX d_Law_law_490 (j := (i + 1)) (by omega) (by omega) ?_
          refine e_aload_n X d_Law_law_491 rfl ?_
          refine z_iload_n X d_Law_law_492 rfl ?_
          refine z_iconst X d_Law_law_493 ?_
          refine z_iadd X d_Law_law_494 ?_
          refine z_sld X hX d_Law_law_495 (j := (i + 2)) (by omega) (by omega) ?_
          refine e_aload_n X d_Law_law_496 rfl ?_
          refine z_iload_n X d_Law_law_497 rfl ?_
          refine z_iconst X d_Law_law_498 ?_
          refine z_iadd X d_Law_law_499 ?_
          refine z_sld X hX d_Law_law_500 (j := (i + 3)) (by omega) (by omega) ?_
          refine z_callV_I X d_Law_law_501 cv_Law_89 (c_VT_item hV hN (iI_rg _) (iI_rg _) (iI_rg _)) hV.1 (by omega) rfl rfl ⟨rfl, rfl⟩ rfl (fun z120 h118 hp119 => ?_)
          obtain ⟨rfl, hV1, hf1⟩ := hp119
          have hD1 := hD.fr (fun q q1 q2 => hf1 q (by omega))
          have d42b := (hf1 42 (by omega)).trans d42
          refine e_aload_n X d_Law_law_504 rfl ?_
          refine e_aload_n X d_Law_law_505 rfl ?_
          refine z_iload_n X d_Law_law_506 rfl ?_
          refine z_iconst X d_Law_law_507 ?_
          refine z_iadd X d_Law_law_508 ?_
          refine z_sld X hX d_Law_law_509 (j := (i + 1)) (by omega) (by omega) ?_
          refine e_aload_n X d_Law_law_510 rfl ?_
          refine z_iload_n X d_Law_law_511 rfl ?_
          refine z_iconst X d_Law_law_512 ?_
          refine z_iadd X d_Law_law_513 ?_
          refine z_sld X hX d_Law_law_514 (j := (i + 2)) (by omega) (by omega) ?_
          refine e_aload_n X d_Law_law_515 rfl ?_
          refine z_iload_n X d_Law_law_516 rfl ?_
          refine z_iconst X d_Law_law_517 ?_
          refine z_iadd X d_Law_law_518 ?_
          refine z_sld X hX d_Law_law_519 (j := (i + 3)) (by omega) (by omega) ?_
          refine z_callV_I X d_Law_law_520 cv_Law_92 (c_Mod_item hD1 hN2 hnt (iI_rg _) (iI_rg _) (iI_rg _)) d42b (by omega) rfl rfl ⟨rfl, rfl⟩ rfl (fun z123 h121 hp122 => ?_)
          obtain ⟨rfl, hD2, hf2⟩ := hp122
          have hV2 := hV1.fr (fun q q1 => hf2 q (by omega))
          refine z_same (tgt := 607) X d_Law_law_523 (by decide) ?_
          refine z_iinc X d_Law_law_607 rfl (by decide) ?_
          refine e_goto (tgt := 28) X d_Law_law_610 (by decide) ?_
          exact ih (i + 4) _ _ _ _ _ _ _ _ _ _ _ _ _ (by omega) (by omega) hV2 hD2 hnt
        by_cases e16 : y.toInt = 16
        · refine e_tblIn (off := 486) (tgt := 528) X d_Law_law_42 (by omega) (by omega) (by rw [e16]; rfl) (by decide) ?_
          refine e_aload_n X d_Law_law_528 rfl ?_
          refine e_aload_n X d_Law_law_529 rfl ?_
          refine z_iload_n X d_Law_law_530 rfl ?_
          refine z_iconst X d_Law_law_531 ?_
          refine z_iadd X d_Law_law_532 ?_
          refine z_sld X hX d_Law_law_533 (j := (i + 1)) (by omega) (by omega) ?_
          refine e_aload_n X d_Law_law_534 rfl ?_
          refine z_iload_n X d_Law_law_535 rfl ?_
          refine z_iconst X d_Law_law_536 ?_
          refine z_iadd X d_Law_law_537 ?_
          refine z_sld X hX d_Law_law_538 (j := (i + 2)) (by omega) (by omega) ?_
          have hD1 := hD
          refine z_callV_I X d_Law_law_539 cv_Law_93 (c_VT_same hV hN (iI_rg _) (iI_rg _)) hV.1 (by omega) rfl rfl ⟨rfl, rfl⟩ rfl (fun z126 h124 hp125 => ?_)
          obtain ⟨rfl, he1⟩ := hp125
          rw [he1]
          refine e_aload_n X d_Law_law_542 rfl ?_
          refine e_aload_n X d_Law_law_543 rfl ?_
          refine z_iload_n X d_Law_law_544 rfl ?_
          refine z_iconst X d_Law_law_545 ?_
          refine z_iadd X d_Law_law_546 ?_
          refine z_sld X hX d_Law_law_547 (j := (i + 1)) (by omega) (by omega) ?_
          refine e_aload_n X d_Law_law_548 rfl ?_
          refine z_iload_n X d_Law_law_549 rfl ?_
          refine z_iconst X d_Law_law_550 ?_
          refine z_iadd X d_Law_law_551 ?_
          refine z_sld X hX d_Law_law_552 (j := (i + 2)) (by omega) (by omega) ?_
          refine z_callV_I X d_Law_law_553 cv_Law_96 (c_Mod_same hD1 hN2 hnt (iI_rg _) (iI_rg _)) d42 (by omega) rfl rfl ⟨rfl, rfl⟩ rfl (fun z129 h127 hp128 => ?_)
          obtain ⟨rfl, he2⟩ := hp128
          rw [he2]
          refine z_same (tgt := 607) X d_Law_law_556 (by decide) ?_
          refine z_iinc X d_Law_law_607 rfl (by decide) ?_
          refine e_goto (tgt := 28) X d_Law_law_610 (by decide) ?_
          exact ih (i + 4) _ _ _ _ _ _ _ _ _ _ _ _ _ (by omega) (by omega) hV hD hnt
        by_cases e17 : y.toInt = 17
        · refine e_tblIn (off := 519) (tgt := 561) X d_Law_law_42 (by omega) (by omega) (by rw [e17]; rfl) (by decide) ?_
          refine e_aload_n X d_Law_law_561 rfl ?_
          refine e_aload_n X d_Law_law_562 rfl ?_
          refine z_iload_n X d_Law_law_563 rfl ?_
          refine z_iconst X d_Law_law_564 ?_
          refine z_iadd X d_Law_law_565 ?_
          refine z_sld X hX d_Law_law_566 (j := (i + 1)) (by omega) (by omega) ?_
          refine e_aload_n X d_Law_law_567 rfl ?_
          refine z_iload_n X d_Law_law_568 rfl ?_
          refine z_iconst X d_Law_law_569 ?_
          refine z_iadd X d_Law_law_570 ?_
          refine z_sld X hX d_Law_law_571 (j := (i + 2)) (by omega) (by omega) ?_
          refine z_callV_I X d_Law_law_572 cv_Law_97 (c_VT_find hV hN (iI_rg _) (iI_rg _)) hV.1 (by omega) rfl rfl ⟨rfl, rfl⟩ rfl (fun z132 h130 hp131 => ?_)
          obtain ⟨rfl, hV1, hf1⟩ := hp131
          have hD1 := hD.fr (fun q q1 q2 => hf1 q (by omega))
          have d42b := (hf1 42 (by omega)).trans d42
          refine e_aload_n X d_Law_law_575 rfl ?_
          refine e_aload_n X d_Law_law_576 rfl ?_
          refine z_iload_n X d_Law_law_577 rfl ?_
          refine z_iconst X d_Law_law_578 ?_
          refine z_iadd X d_Law_law_579 ?_
          refine z_sld X hX d_Law_law_580 (j := (i + 1)) (by omega) (by omega) ?_
          refine e_aload_n X d_Law_law_581 rfl ?_
          refine z_iload_n X d_Law_law_582 rfl ?_
          refine z_iconst X d_Law_law_583 ?_
          refine z_iadd X d_Law_law_584 ?_
          refine z_sld X hX d_Law_law_585 (j := (i + 2)) (by omega) (by omega) ?_
          refine z_callV_I X d_Law_law_586 cv_Law_100 (c_Mod_find hD1 hN2 hnt (iI_rg _) (iI_rg _)) d42b (by omega) rfl rfl ⟨rfl, rfl⟩ rfl (fun z135 h133 hp134 => ?_)
          obtain ⟨rfl, hD2, hf2⟩ := hp134
          have hV2 := hV1.fr (fun q q1 => hf2 q (by omega))
          refine z_same (tgt := 607) X d_Law_law_589 (by decide) ?_
          refine z_iinc X d_Law_law_607 rfl (by decide) ?_
          refine e_goto (tgt := 28) X d_Law_law_610 (by decide) ?_
          exact ih (i + 4) _ _ _ _ _ _ _ _ _ _ _ _ _ (by omega) (by omega) hV2 hD2 hnt
        by_cases e18 : y.toInt = 18
        · refine e_tblIn (off := 552) (tgt := 594) X d_Law_law_42 (by omega) (by omega) (by rw [e18]; rfl) (by decide) ?_
          refine e_aload_n X d_Law_law_594 rfl ?_
          have hD1 := hD
          refine z_callV_I X d_Law_law_595 cv_Law_101 (c_VT_end hV hN ) hV.1 (by omega) rfl rfl ⟨rfl, rfl⟩ rfl (fun z138 h136 hp137 => ?_)
          obtain ⟨rfl, he1⟩ := hp137
          rw [he1]
          refine e_aload_n X d_Law_law_598 rfl ?_
          refine z_callV_I X d_Law_law_599 cv_Law_104 (c_Mod_end hD1 hN2 ) d42 (by omega) rfl rfl ⟨rfl, rfl⟩ rfl (fun z141 h139 hp140 => ?_)
          obtain ⟨rfl, he2⟩ := hp140
          rw [he2]
          refine z_same (tgt := 607) X d_Law_law_602 (by decide) ?_
          refine z_iinc X d_Law_law_607 rfl (by decide) ?_
          refine e_goto (tgt := 28) X d_Law_law_610 (by decide) ?_
          exact ih (i + 4) _ _ _ _ _ _ _ _ _ _ _ _ _ (by omega) (by omega) hV hD hnt
        refine e_tblOut (tgt := 607) X d_Law_law_42 (by omega) (by decide) ?_
        refine z_iinc X d_Law_law_607 rfl (by decide) ?_
        refine e_goto (tgt := 28) X d_Law_law_610 (by decide) ?_
        exact ih (i + 4) _ _ _ _ _ _ _ _ _ _ _ _ _ (by omega) (by omega) hV hD hnt
  refine z_new (N' := 1) (c1 := 1) (s1 := 9) X d_Law_law_0 ck_VT cl_Law_7 nf_VT (by omega) rfl (fun h142 c143 fr144 => ?_)
  refine e_dup X d_Law_law_3 rfl ?_
  refine e_aload_n X d_Law_law_4 rfl ?_
  refine z_iconst X d_Law_law_5 ?_
  refine z_callX X hX d_Law_law_6 cs_Law_9 (c_Law_cell hX.2.2.1 hX.2.2.2) rfl rfl ⟨rfl, rfl⟩ rfl (fun z147 h145 hp146 => ?_)
  obtain ⟨hrz147, hez147⟩ := hp146
  rw [hez147]
  refine z_callN (M := m2_VT_init) (N' := 42) (c1 := 42) (s1 := 2710) X d_Law_law_9 cn2_Law_15 (c_VT_init c143 hrz147) rfl rfl ⟨rfl, rfl⟩ rfl (fun hA hV0 => ?_)
  refine e_astore_n X d_Law_law_12 (by decide) ?_
  refine z_new (N' := 43) (c1 := 43) (s1 := 2728) X d_Law_law_13 ck_Mod cl_Law_18 nf_Mod (by omega) rfl (fun h148 c149 fr150 => ?_)
  have hx151 : VT G h148 0 (fun _ => -1) 0 0 (fun _ => tx_e) 0 (fun _ => -1) (fun _ => false) (fun _ => tx_e) 0 (-1) (-1) := hV0.fr (fun q q1 => fr150 _ (by omega))
  refine e_dup X d_Law_law_16 rfl ?_
  refine e_aload_n X d_Law_law_17 rfl ?_
  refine z_iconst X d_Law_law_18 ?_
  refine z_callX X hX d_Law_law_19 cs_Law_9 (c_Law_cell hX.2.2.1 hX.2.2.2) rfl rfl ⟨rfl, rfl⟩ rfl (fun z154 h152 hp153 => ?_)
  obtain ⟨hrz154, hez154⟩ := hp153
  rw [hez154]
  refine z_callN (N' := 52) (c1 := 52) (s1 := 5655) X d_Law_law_22 cn_Law_20 (c_Mod_init c149 hrz154) rfl rfl ⟨rfl, rfl⟩ rfl (fun hB hp9 => ?_)
  obtain ⟨hD0, hf0⟩ := hp9
  have hV9 : VT G hB 0 (fun _ => -1) 0 0 (fun _ => tx_e) 0 (fun _ => -1) (fun _ => false) (fun _ => tx_e) 0 (-1) (-1) := hx151.fr (fun q q1 => hf0 q q1)
  refine e_astore_n X d_Law_law_25 (by decide) ?_
  refine z_iconst X d_Law_law_26 ?_
  refine e_istore_n X d_Law_law_27 (by decide) ?_
  exact loop _ 1 _ _ _ _ _ _ _ _ _ _ _ _ _ (Nat.lt_succ_self _) (by omega) hV9 hD0 rfl

