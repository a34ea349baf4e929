set_option maxRecDepth 100000 in
set_option maxHeartbeats 4000000 in
theorem c_Mod_bound {l : Launch} {G : lx_G} {N : Nat} {h : Nat → va_E} {U Ls K C : Nat → Int} {now last cl g o en : Int} {Md : Nat → Int} {ml pts its : Int} {PP CD PL AT : Nat → Int} {k9 : Nat} (hM : MC G h U Ls K C now last cl g o en Md ml pts its PP CD PL AT) (hN : 52 ≤ N) (hk : 1 ≤ k9 ∧ k9 < 161) (hcd : ∀ j, j ≤ k9 → 0 ≤ CD j ∧ CD j < 1114112) : CtI l G m_Mod_bound N [.ref (ad (g_b G) 42), vI ((k9 : Nat) : Int)] h (fun z h' => z = b2z (mbn (CD (k9 - 1)) (ld CD (k9 - 1)) (fr CD (k9 - 1)) (CD k9)) ∧ h' = h) := by
  refine zI_of (by decide) rfl rfl ?_
  intro k X Q
  have X : Cx k G R_Mod b_Mod_bound 5 rm_Mod_bound := X
  have Q : Rt k G (some (.boolean)) N 0 0 (pI (fun z h' => z = b2z (mbn (CD (k9 - 1)) (ld CD (k9 - 1)) (fr CD (k9 - 1)) (CD k9)) ∧ h' = h)) := Q
  show Ev k G 5 N 0 0 h 0 [some (.ref (ad (g_b G) 42)), some (vI ((k9 : Nat) : Int)), none, none, none] []
  obtain ⟨d42, d43, d44, d45, d46, d47, d48, d49, d50, d51⟩ := id hM
  refine e_aload_n X d_Mod_bound_0 rfl ?_
  refine e_get X d_Mod_bound_1 fl_Mod_33 d42 (by omega) rfl ?_
  refine z_iload_n X d_Mod_bound_4 rfl ?_
  refine z_iconst X d_Mod_bound_5 ?_
  refine z_isub X d_Mod_bound_6 ?_
  refine z_iald X d_Mod_bound_7 (j := (k9 - 1)) d49 (by omega) (by omega) (by omega) ?_
  refine z_top (show _ = (CD (k9 - 1)) from rfl) ?_
  refine e_istore_n X d_Mod_bound_8 (by decide) ?_
  refine e_aload_n X d_Mod_bound_9 rfl ?_
  refine e_get X d_Mod_bound_10 fl_Mod_33 d42 (by omega) rfl ?_
  refine z_iload_n X d_Mod_bound_13 rfl ?_
  refine z_iald X d_Mod_bound_14 (j := k9) d49 (by omega) (by omega) (by omega) ?_
  refine e_istore_n X d_Mod_bound_15 (by decide) ?_
  have hra := hcd (k9 - 1) (by omega)
  have hrb := hcd k9 (Nat.le_refl _)
  refine z_iload_n X d_Mod_bound_16 rfl ?_
  refine z_bipush X d_Mod_bound_17 (by decide) ?_
  refine z_icmp_ne (tgt := 28) X d_Mod_bound_19 (by decide) (by omega) (fun q1 => ?_) (fun q1 => ?_)
  · have g2 : decide ((CD (k9 - 1)) = 13) = false := decide_eq_false (by omega)
    refine z_iload_n X d_Mod_bound_28 rfl ?_
    refine z_bipush X d_Mod_bound_29 (by decide) ?_
    refine z_icmp_le (tgt := 50) X d_Mod_bound_31 (by decide) (by omega) (fun q4 => ?_) (fun q4 => ?_)
    · have g5 : decide (31 < (CD (k9 - 1))) = false := decide_eq_false (by omega)
      refine z_iload_n X d_Mod_bound_50 rfl ?_
      refine z_iconst X d_Mod_bound_51 ?_
      refine z_isub X d_Mod_bound_52 ?_
      refine e_istore X d_Mod_bound_53 (by decide) ?_
      refine z_iload_n X d_Mod_bound_55 rfl ?_
      refine z_sipush X d_Mod_bound_56 (by decide) ?_
      refine z_icmp_ne (tgt := 117) X d_Mod_bound_59 (by decide) (by omega) (fun q7 => ?_) (fun q7 => ?_)
      · have g8 : decide ((CD (k9 - 1)) = 8205) = false := decide_eq_false (by omega)
        have loopB : ∀ (d9 : Nat) (r : Nat), r < d9 → r ≤ k9 - 1 → fr CD (k9 - 1) = fr CD r + (k9 - 1 - r) → Ev k G 5 N 0 0 h 117 [some (.ref (ad (g_b G) 42)), some (vI ((k9 : Nat) : Int)), some (vI (CD (k9 - 1))), some (vI (CD k9)), some (vI (((r : Nat) : Int) - 1))] [] := by
          intro d9
          induction d9 with
          | zero =>
            intro r hm9
            exact absurd hm9 (Nat.not_lt_zero _)
          | succ d9 ih =>
            intro r hm9 hr1 hrl
            refine z_iload X d_Mod_bound_117 rfl ?_
            refine z_if_lt (tgt := 141) X d_Mod_bound_119 (by decide) (by omega) (fun p1 => ?_) (fun p1 => ?_)
            · have hr0 : r = 0 := by omega
              have hfe : fr CD (k9 - 1) = k9 - 1 - r := by rw [hrl, hr0]; simp [fr]
              refine z_iload_n X d_Mod_bound_141 rfl ?_
              refine z_callS_I X d_Mod_bound_142 cs_Mod_70 (c_Mod_isFlag (by omega)) rfl rfl ⟨rfl, rfl⟩ rfl (fun z12 h10 hp11 => ?_)
              obtain ⟨rfl, hh13⟩ := hp11
              rw [hh13]
              refine z_if_eq (tgt := 170) X d_Mod_bound_145 (by decide) (b2z_r _) (fun p6 => ?_) (fun p6 => ?_)
              · have xg6 := b2z_eq p6
                refine z_iconst X d_Mod_bound_170 ?_
                exact z_ireturn X Q d_Mod_bound_171 rfl ⟨by simp [mbn, b2z, xg6, g2, g5, g8], rfl⟩
              · have xg6 := b2z_ne p6
                refine z_iload_n X d_Mod_bound_148 rfl ?_
                refine z_callS_I X d_Mod_bound_149 cs_Mod_70 (c_Mod_isFlag (by omega)) rfl rfl ⟨rfl, rfl⟩ rfl (fun z16 h14 hp15 => ?_)
                obtain ⟨rfl, hh17⟩ := hp15
                rw [hh17]
                refine z_if_eq (tgt := 170) X d_Mod_bound_152 (by decide) (b2z_r _) (fun p7 => ?_) (fun p7 => ?_)
                · have xg7 := b2z_eq p7
                  refine z_iconst X d_Mod_bound_170 ?_
                  exact z_ireturn X Q d_Mod_bound_171 rfl ⟨by simp [mbn, b2z, xg6, xg7, g2, g5, g8], rfl⟩
                · have xg7 := b2z_ne p7
                  refine z_iload_n X d_Mod_bound_155 rfl ?_
                  refine z_iconst X d_Mod_bound_156 ?_
                  refine z_isub X d_Mod_bound_157 ?_
                  refine z_iload X d_Mod_bound_158 rfl ?_
                  refine z_isub X d_Mod_bound_160 ?_
                  refine z_top (show _ = (((fr CD (k9 - 1)) : Nat) : Int) from (by omega)) ?_
                  refine z_iconst X d_Mod_bound_161 ?_
                  refine z_irem X d_Mod_bound_162 (by omega) (by omega) ?_
                  refine z_if_ne (tgt := 170) X d_Mod_bound_163 (by decide) (by omega) (fun p8 => ?_) (fun p8 => ?_)
                  · have xg8 : decide ((fr CD (k9 - 1)) % 2 = 0) = false := decide_eq_false (by omega)
                    refine z_iconst X d_Mod_bound_170 ?_
                    exact z_ireturn X Q d_Mod_bound_171 rfl ⟨by simp [mbn, b2z, xg6, xg7, xg8, g2, g5, g8], rfl⟩
                  · have xg8 : decide ((fr CD (k9 - 1)) % 2 = 0) = true := decide_eq_true (by omega)
                    refine z_iconst X d_Mod_bound_166 ?_
                    refine e_goto (tgt := 171) X d_Mod_bound_167 (by decide) ?_
                    exact z_ireturn X Q d_Mod_bound_171 rfl ⟨by simp [mbn, b2z, xg6, xg7, xg8, g2, g5, g8], rfl⟩
            · obtain ⟨r, rfl⟩ : ∃ r9, r = r9 + 1 := ⟨r - 1, by omega⟩
              rw [show ((r + 1 : Nat) : Int) - 1 = ((r : Nat) : Int) by omega]
              have hrr := hcd r (by omega)
              refine e_aload_n X d_Mod_bound_122 rfl ?_
              refine e_get X d_Mod_bound_123 fl_Mod_33 d42 (by omega) rfl ?_
              refine z_iload X d_Mod_bound_126 rfl ?_
              refine z_iald X d_Mod_bound_128 (j := r) d49 (by omega) (by omega) (by omega) ?_
              refine z_callS_I X d_Mod_bound_129 cs_Mod_70 (c_Mod_isFlag (by omega)) rfl rfl ⟨rfl, rfl⟩ rfl (fun z20 h18 hp19 => ?_)
              obtain ⟨rfl, hh21⟩ := hp19
              rw [hh21]
              refine z_if_eq (tgt := 141) X d_Mod_bound_132 (by decide) (b2z_r _) (fun p3 => ?_) (fun p3 => ?_)
              · have hfl := b2z_eq p3
                have hfe : fr CD (k9 - 1) = k9 - 1 - (r + 1) := by rw [hrl]; simp [fr, hfl]
                refine z_iload_n X d_Mod_bound_141 rfl ?_
                refine z_callS_I X d_Mod_bound_142 cs_Mod_70 (c_Mod_isFlag (by omega)) rfl rfl ⟨rfl, rfl⟩ rfl (fun z24 h22 hp23 => ?_)
                obtain ⟨rfl, hh25⟩ := hp23
                rw [hh25]
                refine z_if_eq (tgt := 170) X d_Mod_bound_145 (by decide) (b2z_r _) (fun p6 => ?_) (fun p6 => ?_)
                · have xg6 := b2z_eq p6
                  refine z_iconst X d_Mod_bound_170 ?_
                  exact z_ireturn X Q d_Mod_bound_171 rfl ⟨by simp [mbn, b2z, xg6, g2, g5, g8], rfl⟩
                · have xg6 := b2z_ne p6
                  refine z_iload_n X d_Mod_bound_148 rfl ?_
                  refine z_callS_I X d_Mod_bound_149 cs_Mod_70 (c_Mod_isFlag (by omega)) rfl rfl ⟨rfl, rfl⟩ rfl (fun z28 h26 hp27 => ?_)
                  obtain ⟨rfl, hh29⟩ := hp27
                  rw [hh29]
                  refine z_if_eq (tgt := 170) X d_Mod_bound_152 (by decide) (b2z_r _) (fun p7 => ?_) (fun p7 => ?_)
                  · have xg7 := b2z_eq p7
                    refine z_iconst X d_Mod_bound_170 ?_
                    exact z_ireturn X Q d_Mod_bound_171 rfl ⟨by simp [mbn, b2z, xg6, xg7, g2, g5, g8], rfl⟩
                  · have xg7 := b2z_ne p7
                    refine z_iload_n X d_Mod_bound_155 rfl ?_
                    refine z_iconst X d_Mod_bound_156 ?_
                    refine z_isub X d_Mod_bound_157 ?_
                    refine z_iload X d_Mod_bound_158 rfl ?_
                    refine z_isub X d_Mod_bound_160 ?_
                    refine z_top (show _ = (((fr CD (k9 - 1)) : Nat) : Int) from (by omega)) ?_
                    refine z_iconst X d_Mod_bound_161 ?_
                    refine z_irem X d_Mod_bound_162 (by omega) (by omega) ?_
                    refine z_if_ne (tgt := 170) X d_Mod_bound_163 (by decide) (by omega) (fun p8 => ?_) (fun p8 => ?_)
                    · have xg8 : decide ((fr CD (k9 - 1)) % 2 = 0) = false := decide_eq_false (by omega)
                      refine z_iconst X d_Mod_bound_170 ?_
                      exact z_ireturn X Q d_Mod_bound_171 rfl ⟨by simp [mbn, b2z, xg6, xg7, xg8, g2, g5, g8], rfl⟩
                    · have xg8 : decide ((fr CD (k9 - 1)) % 2 = 0) = true := decide_eq_true (by omega)
                      refine z_iconst X d_Mod_bound_166 ?_
                      refine e_goto (tgt := 171) X d_Mod_bound_167 (by decide) ?_
                      exact z_ireturn X Q d_Mod_bound_171 rfl ⟨by simp [mbn, b2z, xg6, xg7, xg8, g2, g5, g8], rfl⟩
              · have hfl := b2z_ne p3
                have hl9 : fr CD (r + 1) = fr CD r + 1 := by simp [fr, hfl]
                refine z_iinc X d_Mod_bound_135 rfl (by decide) ?_
                refine e_goto (tgt := 117) X d_Mod_bound_138 (by decide) ?_
                rw [show ((r : Nat) : Int) + (-1) = ((r : Nat) : Int) - 1 by omega]
                exact ih r (by omega) (by omega) (by omega)
        rw [show ((k9 : Nat) : Int) - 2 = ((k9 - 1 : Nat) : Int) - 1 by omega]
        exact loopB _ (k9 - 1) (Nat.lt_succ_self _) (Nat.le_refl _) (by omega)
      · have g9 : decide ((CD (k9 - 1)) = 8205) = true := decide_eq_true (by omega)
        refine z_iload_n X d_Mod_bound_62 rfl ?_
        refine z_callS_I X d_Mod_bound_63 cs_Mod_67 (c_Mod_isPicture (by omega)) rfl rfl ⟨rfl, rfl⟩ rfl (fun z32 h30 hp31 => ?_)
        obtain ⟨rfl, hh33⟩ := hp31
        rw [hh33]
        refine z_if_eq (tgt := 117) X d_Mod_bound_66 (by decide) (b2z_r _) (fun q34 => ?_) (fun q34 => ?_)
        · have g35 : (is_pic (CD k9)) = false := b2z_eq q34
          have loopB : ∀ (d9 : Nat) (r : Nat), r < d9 → r ≤ k9 - 1 → fr CD (k9 - 1) = fr CD r + (k9 - 1 - r) → Ev k G 5 N 0 0 h 117 [some (.ref (ad (g_b G) 42)), some (vI ((k9 : Nat) : Int)), some (vI (CD (k9 - 1))), some (vI (CD k9)), some (vI (((r : Nat) : Int) - 1))] [] := by
            intro d9
            induction d9 with
            | zero =>
              intro r hm9
              exact absurd hm9 (Nat.not_lt_zero _)
            | succ d9 ih =>
              intro r hm9 hr1 hrl
              refine z_iload X d_Mod_bound_117 rfl ?_
              refine z_if_lt (tgt := 141) X d_Mod_bound_119 (by decide) (by omega) (fun p1 => ?_) (fun p1 => ?_)
              · have hr0 : r = 0 := by omega
                have hfe : fr CD (k9 - 1) = k9 - 1 - r := by rw [hrl, hr0]; simp [fr]
                refine z_iload_n X d_Mod_bound_141 rfl ?_
                refine z_callS_I X d_Mod_bound_142 cs_Mod_70 (c_Mod_isFlag (by omega)) rfl rfl ⟨rfl, rfl⟩ rfl (fun z39 h37 hp38 => ?_)
                obtain ⟨rfl, hh40⟩ := hp38
                rw [hh40]
                refine z_if_eq (tgt := 170) X d_Mod_bound_145 (by decide) (b2z_r _) (fun p6 => ?_) (fun p6 => ?_)
                · have xg6 := b2z_eq p6
                  refine z_iconst X d_Mod_bound_170 ?_
                  exact z_ireturn X Q d_Mod_bound_171 rfl ⟨by simp [mbn, b2z, xg6, g2, g5, g9, g35], rfl⟩
                · have xg6 := b2z_ne p6
                  refine z_iload_n X d_Mod_bound_148 rfl ?_
                  refine z_callS_I X d_Mod_bound_149 cs_Mod_70 (c_Mod_isFlag (by omega)) rfl rfl ⟨rfl, rfl⟩ rfl (fun z43 h41 hp42 => ?_)
                  obtain ⟨rfl, hh44⟩ := hp42
                  rw [hh44]
                  refine z_if_eq (tgt := 170) X d_Mod_bound_152 (by decide) (b2z_r _) (fun p7 => ?_) (fun p7 => ?_)
                  · have xg7 := b2z_eq p7
                    refine z_iconst X d_Mod_bound_170 ?_
                    exact z_ireturn X Q d_Mod_bound_171 rfl ⟨by simp [mbn, b2z, xg6, xg7, g2, g5, g9, g35], rfl⟩
                  · have xg7 := b2z_ne p7
                    refine z_iload_n X d_Mod_bound_155 rfl ?_
                    refine z_iconst X d_Mod_bound_156 ?_
                    refine z_isub X d_Mod_bound_157 ?_
                    refine z_iload X d_Mod_bound_158 rfl ?_
                    refine z_isub X d_Mod_bound_160 ?_
                    refine z_top (show _ = (((fr CD (k9 - 1)) : Nat) : Int) from (by omega)) ?_
                    refine z_iconst X d_Mod_bound_161 ?_
                    refine z_irem X d_Mod_bound_162 (by omega) (by omega) ?_
                    refine z_if_ne (tgt := 170) X d_Mod_bound_163 (by decide) (by omega) (fun p8 => ?_) (fun p8 => ?_)
                    · have xg8 : decide ((fr CD (k9 - 1)) % 2 = 0) = false := decide_eq_false (by omega)
                      refine z_iconst X d_Mod_bound_170 ?_
                      exact z_ireturn X Q d_Mod_bound_171 rfl ⟨by simp [mbn, b2z, xg6, xg7, xg8, g2, g5, g9, g35], rfl⟩
                    · have xg8 : decide ((fr CD (k9 - 1)) % 2 = 0) = true := decide_eq_true (by omega)
                      refine z_iconst X d_Mod_bound_166 ?_
                      refine e_goto (tgt := 171) X d_Mod_bound_167 (by decide) ?_
                      exact z_ireturn X Q d_Mod_bound_171 rfl ⟨by simp [mbn, b2z, xg6, xg7, xg8, g2, g5, g9, g35], rfl⟩
              · obtain ⟨r, rfl⟩ : ∃ r9, r = r9 + 1 := ⟨r - 1, by omega⟩
                rw [show ((r + 1 : Nat) : Int) - 1 = ((r : Nat) : Int) by omega]
                have hrr := hcd r (by omega)
                refine e_aload_n X d_Mod_bound_122 rfl ?_
                refine e_get X d_Mod_bound_123 fl_Mod_33 d42 (by omega) rfl ?_
                refine z_iload X d_Mod_bound_126 rfl ?_
                refine z_iald X d_Mod_bound_128 (j := r) d49 (by omega) (by omega) (by omega) ?_
                refine z_callS_I X d_Mod_bound_129 cs_Mod_70 (c_Mod_isFlag (by omega)) rfl rfl ⟨rfl, rfl⟩ rfl (fun z47 h45 hp46 => ?_)
                obtain ⟨rfl, hh48⟩ := hp46
                rw [hh48]
                refine z_if_eq (tgt := 141) X d_Mod_bound_132 (by decide) (b2z_r _) (fun p3 => ?_) (fun p3 => ?_)
                · have hfl := b2z_eq p3
                  have hfe : fr CD (k9 - 1) = k9 - 1 - (r + 1) := by rw [hrl]; simp [fr, hfl]
                  refine z_iload_n X d_Mod_bound_141 rfl ?_
                  refine z_callS_I X d_Mod_bound_142 cs_Mod_70 (c_Mod_isFlag (by omega)) rfl rfl ⟨rfl, rfl⟩ rfl (fun z51 h49 hp50 => ?_)
                  obtain ⟨rfl, hh52⟩ := hp50
                  rw [hh52]
                  refine z_if_eq (tgt := 170) X d_Mod_bound_145 (by decide) (b2z_r _) (fun p6 => ?_) (fun p6 => ?_)
                  · have xg6 := b2z_eq p6
                    refine z_iconst X d_Mod_bound_170 ?_
                    exact z_ireturn X Q d_Mod_bound_171 rfl ⟨by simp [mbn, b2z, xg6, g2, g5, g9, g35], rfl⟩
                  · have xg6 := b2z_ne p6
                    refine z_iload_n X d_Mod_bound_148 rfl ?_
                    refine z_callS_I X d_Mod_bound_149 cs_Mod_70 (c_Mod_isFlag (by omega)) rfl rfl ⟨rfl, rfl⟩ rfl (fun z55 h53 hp54 => ?_)
                    obtain ⟨rfl, hh56⟩ := hp54
                    rw [hh56]
                    refine z_if_eq (tgt := 170) X d_Mod_bound_152 (by decide) (b2z_r _) (fun p7 => ?_) (fun p7 => ?_)
                    · have xg7 := b2z_eq p7
                      refine z_iconst X d_Mod_bound_170 ?_
                      exact z_ireturn X Q d_Mod_bound_171 rfl ⟨by simp [mbn, b2z, xg6, xg7, g2, g5, g9, g35], rfl⟩
                    · have xg7 := b2z_ne p7
                      refine z_iload_n X d_Mod_bound_155 rfl ?_
                      refine z_iconst X d_Mod_bound_156 ?_
                      refine z_isub X d_Mod_bound_157 ?_
                      refine z_iload X d_Mod_bound_158 rfl ?_
                      refine z_isub X d_Mod_bound_160 ?_
                      refine z_top (show _ = (((fr CD (k9 - 1)) : Nat) : Int) from (by omega)) ?_
                      refine z_iconst X d_Mod_bound_161 ?_
                      refine z_irem X d_Mod_bound_162 (by omega) (by omega) ?_
                      refine z_if_ne (tgt := 170) X d_Mod_bound_163 (by decide) (by omega) (fun p8 => ?_) (fun p8 => ?_)
                      · have xg8 : decide ((fr CD (k9 - 1)) % 2 = 0) = false := decide_eq_false (by omega)
                        refine z_iconst X d_Mod_bound_170 ?_
                        exact z_ireturn X Q d_Mod_bound_171 rfl ⟨by simp [mbn, b2z, xg6, xg7, xg8, g2, g5, g9, g35], rfl⟩
                      · have xg8 : decide ((fr CD (k9 - 1)) % 2 = 0) = true := decide_eq_true (by omega)
                        refine z_iconst X d_Mod_bound_166 ?_
                        refine e_goto (tgt := 171) X d_Mod_bound_167 (by decide) ?_
                        exact z_ireturn X Q d_Mod_bound_171 rfl ⟨by simp [mbn, b2z, xg6, xg7, xg8, g2, g5, g9, g35], rfl⟩
                · have hfl := b2z_ne p3
                  have hl9 : fr CD (r + 1) = fr CD r + 1 := by simp [fr, hfl]
                  refine z_iinc X d_Mod_bound_135 rfl (by decide) ?_
                  refine e_goto (tgt := 117) X d_Mod_bound_138 (by decide) ?_
                  rw [show ((r : Nat) : Int) + (-1) = ((r : Nat) : Int) - 1 by omega]
                  exact ih r (by omega) (by omega) (by omega)
          rw [show ((k9 : Nat) : Int) - 2 = ((k9 - 1 : Nat) : Int) - 1 by omega]
          exact loopB _ (k9 - 1) (Nat.lt_succ_self _) (Nat.le_refl _) (by omega)
        · have g36 : (is_pic (CD k9)) = true := b2z_ne q34
          have loopA : ∀ (d9 : Nat) (r : Nat), r < d9 → r ≤ k9 - 1 → ld CD (k9 - 1) = ld CD r → Ev k G 5 N 0 0 h 69 [some (.ref (ad (g_b G) 42)), some (vI ((k9 : Nat) : Int)), some (vI (CD (k9 - 1))), some (vI (CD k9)), some (vI (((r : Nat) : Int) - 1))] [] := by
            intro d9
            induction d9 with
            | zero =>
              intro r hm9
              exact absurd hm9 (Nat.not_lt_zero _)
            | succ d9 ih =>
              intro r hm9 hr1 hrl
              refine z_iload X d_Mod_bound_69 rfl ?_
              refine z_if_lt (tgt := 93) X d_Mod_bound_71 (by decide) (by omega) (fun p1 => ?_) (fun p1 => ?_)
              · have hr0 : r = 0 := by omega
                subst hr0
                refine z_iload X d_Mod_bound_93 rfl ?_
                refine z_if_lt (tgt := 115) X d_Mod_bound_95 (by decide) (by omega) (fun p2 => ?_) (fun p2 => ?_)
                · refine z_iconst X d_Mod_bound_115 ?_
                  have hl0 : ld CD 0 = -1 := rfl
                  have hpn : is_pic (-1) = false := by decide
                  exact z_ireturn X Q d_Mod_bound_116 rfl ⟨by simp [mbn, b2z, hrl, hl0, hpn, g2, g5, g9, g36], rfl⟩
                · omega
              · obtain ⟨r, rfl⟩ : ∃ r9, r = r9 + 1 := ⟨r - 1, by omega⟩
                rw [show ((r + 1 : Nat) : Int) - 1 = ((r : Nat) : Int) by omega]
                have hrr := hcd r (by omega)
                refine e_aload_n X d_Mod_bound_74 rfl ?_
                refine e_get X d_Mod_bound_75 fl_Mod_33 d42 (by omega) rfl ?_
                refine z_iload X d_Mod_bound_78 rfl ?_
                refine z_iald X d_Mod_bound_80 (j := r) d49 (by omega) (by omega) (by omega) ?_
                refine z_callS_I X d_Mod_bound_81 cs_Mod_63 (c_Mod_isMark (by omega)) rfl rfl ⟨rfl, rfl⟩ rfl (fun z59 h57 hp58 => ?_)
                obtain ⟨rfl, hh60⟩ := hp58
                rw [hh60]
                refine z_if_eq (tgt := 93) X d_Mod_bound_84 (by decide) (b2z_r _) (fun p3 => ?_) (fun p3 => ?_)
                · have hmk := b2z_eq p3
                  have hl9 : ld CD (r + 1) = CD r := by simp [ld, hmk]
                  refine z_iload X d_Mod_bound_93 rfl ?_
                  refine z_if_lt (tgt := 115) X d_Mod_bound_95 (by decide) (by omega) (fun p4 => ?_) (fun p4 => ?_)
                  · omega
                  · refine e_aload_n X d_Mod_bound_98 rfl ?_
                    refine e_get X d_Mod_bound_99 fl_Mod_33 d42 (by omega) rfl ?_
                    refine z_iload X d_Mod_bound_102 rfl ?_
                    refine z_iald X d_Mod_bound_104 (j := r) d49 (by omega) (by omega) (by omega) ?_
                    refine z_callS_I X d_Mod_bound_105 cs_Mod_67 (c_Mod_isPicture (by omega)) rfl rfl ⟨rfl, rfl⟩ rfl (fun z63 h61 hp62 => ?_)
                    obtain ⟨rfl, hh64⟩ := hp62
                    rw [hh64]
                    refine z_if_eq (tgt := 115) X d_Mod_bound_108 (by decide) (b2z_r _) (fun p5 => ?_) (fun p5 => ?_)
                    · refine z_iconst X d_Mod_bound_115 ?_
                      have hp9 := b2z_eq p5
                      exact z_ireturn X Q d_Mod_bound_116 rfl ⟨by simp [mbn, b2z, hrl, hl9, hp9, g2, g5, g9, g36], rfl⟩
                    · refine z_iconst X d_Mod_bound_111 ?_
                      refine e_goto (tgt := 116) X d_Mod_bound_112 (by decide) ?_
                      have hp9 := b2z_ne p5
                      exact z_ireturn X Q d_Mod_bound_116 rfl ⟨by simp [mbn, b2z, hrl, hl9, hp9, g2, g5, g9, g36], rfl⟩
                · have hmk := b2z_ne p3
                  have hl9 : ld CD (r + 1) = ld CD r := by simp [ld, hmk]
                  refine z_iinc X d_Mod_bound_87 rfl (by decide) ?_
                  refine e_goto (tgt := 69) X d_Mod_bound_90 (by decide) ?_
                  rw [show ((r : Nat) : Int) + (-1) = ((r : Nat) : Int) - 1 by omega]
                  exact ih r (by omega) (by omega) (hrl.trans hl9)
          rw [show ((k9 : Nat) : Int) - 2 = ((k9 - 1 : Nat) : Int) - 1 by omega]
          exact loopA _ (k9 - 1) (Nat.lt_succ_self _) (Nat.le_refl _) rfl
    · have g6 : decide (31 < (CD (k9 - 1))) = true := decide_eq_true (by omega)
      refine z_iload_n X d_Mod_bound_34 rfl ?_
      refine z_callS_I X d_Mod_bound_35 cs_Mod_63 (c_Mod_isMark (by omega)) rfl rfl ⟨rfl, rfl⟩ rfl (fun z67 h65 hp66 => ?_)
      obtain ⟨rfl, hh68⟩ := hp66
      rw [hh68]
      refine z_if_ne (tgt := 48) X d_Mod_bound_38 (by decide) (b2z_r _) (fun q69 => ?_) (fun q69 => ?_)
      · have g71 : (is_mark (CD k9)) = true := b2z_ne q69
        refine z_iconst X d_Mod_bound_48 ?_
        exact z_ireturn X Q d_Mod_bound_49 rfl ⟨by simp [mbn, b2z, g2, g6, g71], rfl⟩
      · have g70 : (is_mark (CD k9)) = false := b2z_eq q69
        refine z_iload_n X d_Mod_bound_41 rfl ?_
        refine z_sipush X d_Mod_bound_42 (by decide) ?_
        refine z_icmp_ne (tgt := 50) X d_Mod_bound_45 (by decide) (by omega) (fun q72 => ?_) (fun q72 => ?_)
        · have g73 : decide ((CD k9) = 8205) = false := decide_eq_false (by omega)
          refine z_iload_n X d_Mod_bound_50 rfl ?_
          refine z_iconst X d_Mod_bound_51 ?_
          refine z_isub X d_Mod_bound_52 ?_
          refine e_istore X d_Mod_bound_53 (by decide) ?_
          refine z_iload_n X d_Mod_bound_55 rfl ?_
          refine z_sipush X d_Mod_bound_56 (by decide) ?_
          refine z_icmp_ne (tgt := 117) X d_Mod_bound_59 (by decide) (by omega) (fun q75 => ?_) (fun q75 => ?_)
          · have g76 : decide ((CD (k9 - 1)) = 8205) = false := decide_eq_false (by omega)
            have loopB : ∀ (d9 : Nat) (r : Nat), r < d9 → r ≤ k9 - 1 → fr CD (k9 - 1) = fr CD r + (k9 - 1 - r) → Ev k G 5 N 0 0 h 117 [some (.ref (ad (g_b G) 42)), some (vI ((k9 : Nat) : Int)), some (vI (CD (k9 - 1))), some (vI (CD k9)), some (vI (((r : Nat) : Int) - 1))] [] := by
              intro d9
              induction d9 with
              | zero =>
                intro r hm9
                exact absurd hm9 (Nat.not_lt_zero _)
              | succ d9 ih =>
                intro r hm9 hr1 hrl
                refine z_iload X d_Mod_bound_117 rfl ?_
                refine z_if_lt (tgt := 141) X d_Mod_bound_119 (by decide) (by omega) (fun p1 => ?_) (fun p1 => ?_)
                · have hr0 : r = 0 := by omega
                  have hfe : fr CD (k9 - 1) = k9 - 1 - r := by rw [hrl, hr0]; simp [fr]
                  refine z_iload_n X d_Mod_bound_141 rfl ?_
                  refine z_callS_I X d_Mod_bound_142 cs_Mod_70 (c_Mod_isFlag (by omega)) rfl rfl ⟨rfl, rfl⟩ rfl (fun z80 h78 hp79 => ?_)
                  obtain ⟨rfl, hh81⟩ := hp79
                  rw [hh81]
                  refine z_if_eq (tgt := 170) X d_Mod_bound_145 (by decide) (b2z_r _) (fun p6 => ?_) (fun p6 => ?_)
                  · have xg6 := b2z_eq p6
                    refine z_iconst X d_Mod_bound_170 ?_
                    exact z_ireturn X Q d_Mod_bound_171 rfl ⟨by simp [mbn, b2z, xg6, g2, g6, g70, g73, g76], rfl⟩
                  · have xg6 := b2z_ne p6
                    refine z_iload_n X d_Mod_bound_148 rfl ?_
                    refine z_callS_I X d_Mod_bound_149 cs_Mod_70 (c_Mod_isFlag (by omega)) rfl rfl ⟨rfl, rfl⟩ rfl (fun z84 h82 hp83 => ?_)
                    obtain ⟨rfl, hh85⟩ := hp83
                    rw [hh85]
                    refine z_if_eq (tgt := 170) X d_Mod_bound_152 (by decide) (b2z_r _) (fun p7 => ?_) (fun p7 => ?_)
                    · have xg7 := b2z_eq p7
                      refine z_iconst X d_Mod_bound_170 ?_
                      exact z_ireturn X Q d_Mod_bound_171 rfl ⟨by simp [mbn, b2z, xg6, xg7, g2, g6, g70, g73, g76], rfl⟩
                    · have xg7 := b2z_ne p7
                      refine z_iload_n X d_Mod_bound_155 rfl ?_
                      refine z_iconst X d_Mod_bound_156 ?_
                      refine z_isub X d_Mod_bound_157 ?_
                      refine z_iload X d_Mod_bound_158 rfl ?_
                      refine z_isub X d_Mod_bound_160 ?_
                      refine z_top (show _ = (((fr CD (k9 - 1)) : Nat) : Int) from (by omega)) ?_
                      refine z_iconst X d_Mod_bound_161 ?_
                      refine z_irem X d_Mod_bound_162 (by omega) (by omega) ?_
                      refine z_if_ne (tgt := 170) X d_Mod_bound_163 (by decide) (by omega) (fun p8 => ?_) (fun p8 => ?_)
                      · have xg8 : decide ((fr CD (k9 - 1)) % 2 = 0) = false := decide_eq_false (by omega)
                        refine z_iconst X d_Mod_bound_170 ?_
                        exact z_ireturn X Q d_Mod_bound_171 rfl ⟨by simp [mbn, b2z, xg6, xg7, xg8, g2, g6, g70, g73, g76], rfl⟩
                      · have xg8 : decide ((fr CD (k9 - 1)) % 2 = 0) = true := decide_eq_true (by omega)
                        refine z_iconst X d_Mod_bound_166 ?_
                        refine e_goto (tgt := 171) X d_Mod_bound_167 (by decide) ?_
                        exact z_ireturn X Q d_Mod_bound_171 rfl ⟨by simp [mbn, b2z, xg6, xg7, xg8, g2, g6, g70, g73, g76], rfl⟩
                · obtain ⟨r, rfl⟩ : ∃ r9, r = r9 + 1 := ⟨r - 1, by omega⟩
                  rw [show ((r + 1 : Nat) : Int) - 1 = ((r : Nat) : Int) by omega]
                  have hrr := hcd r (by omega)
                  refine e_aload_n X d_Mod_bound_122 rfl ?_
                  refine e_get X d_Mod_bound_123 fl_Mod_33 d42 (by omega) rfl ?_
                  refine z_iload X d_Mod_bound_126 rfl ?_
                  refine z_iald X d_Mod_bound_128 (j := r) d49 (by omega) (by omega) (by omega) ?_
                  refine z_callS_I X d_Mod_bound_129 cs_Mod_70 (c_Mod_isFlag (by omega)) rfl rfl ⟨rfl, rfl⟩ rfl (fun z88 h86 hp87 => ?_)
                  obtain ⟨rfl, hh89⟩ := hp87
                  rw [hh89]
                  refine z_if_eq (tgt := 141) X d_Mod_bound_132 (by decide) (b2z_r _) (fun p3 => ?_) (fun p3 => ?_)
                  · have hfl := b2z_eq p3
                    have hfe : fr CD (k9 - 1) = k9 - 1 - (r + 1) := by rw [hrl]; simp [fr, hfl]
                    refine z_iload_n X d_Mod_bound_141 rfl ?_
                    refine z_callS_I X d_Mod_bound_142 cs_Mod_70 (c_Mod_isFlag (by omega)) rfl rfl ⟨rfl, rfl⟩ rfl (fun z92 h90 hp91 => ?_)
                    obtain ⟨rfl, hh93⟩ := hp91
                    rw [hh93]
                    refine z_if_eq (tgt := 170) X d_Mod_bound_145 (by decide) (b2z_r _) (fun p6 => ?_) (fun p6 => ?_)
                    · have xg6 := b2z_eq p6
                      refine z_iconst X d_Mod_bound_170 ?_
                      exact z_ireturn X Q d_Mod_bound_171 rfl ⟨by simp [mbn, b2z, xg6, g2, g6, g70, g73, g76], rfl⟩
                    · have xg6 := b2z_ne p6
                      refine z_iload_n X d_Mod_bound_148 rfl ?_
                      refine z_callS_I X d_Mod_bound_149 cs_Mod_70 (c_Mod_isFlag (by omega)) rfl rfl ⟨rfl, rfl⟩ rfl (fun z96 h94 hp95 => ?_)
                      obtain ⟨rfl, hh97⟩ := hp95
                      rw [hh97]
                      refine z_if_eq (tgt := 170) X d_Mod_bound_152 (by decide) (b2z_r _) (fun p7 => ?_) (fun p7 => ?_)
                      · have xg7 := b2z_eq p7
                        refine z_iconst X d_Mod_bound_170 ?_
                        exact z_ireturn X Q d_Mod_bound_171 rfl ⟨by simp [mbn, b2z, xg6, xg7, g2, g6, g70, g73, g76], rfl⟩
                      · have xg7 := b2z_ne p7
                        refine z_iload_n X d_Mod_bound_155 rfl ?_
                        refine z_iconst X d_Mod_bound_156 ?_
                        refine z_isub X d_Mod_bound_157 ?_
                        refine z_iload X d_Mod_bound_158 rfl ?_
                        refine z_isub X d_Mod_bound_160 ?_
                        refine z_top (show _ = (((fr CD (k9 - 1)) : Nat) : Int) from (by omega)) ?_
                        refine z_iconst X d_Mod_bound_161 ?_
                        refine z_irem X d_Mod_bound_162 (by omega) (by omega) ?_
                        refine z_if_ne (tgt := 170) X d_Mod_bound_163 (by decide) (by omega) (fun p8 => ?_) (fun p8 => ?_)
                        · have xg8 : decide ((fr CD (k9 - 1)) % 2 = 0) = false := decide_eq_false (by omega)
                          refine z_iconst X d_Mod_bound_170 ?_
                          exact z_ireturn X Q d_Mod_bound_171 rfl ⟨by simp [mbn, b2z, xg6, xg7, xg8, g2, g6, g70, g73, g76], rfl⟩
                        · have xg8 : decide ((fr CD (k9 - 1)) % 2 = 0) = true := decide_eq_true (by omega)
                          refine z_iconst X d_Mod_bound_166 ?_
                          refine e_goto (tgt := 171) X d_Mod_bound_167 (by decide) ?_
                          exact z_ireturn X Q d_Mod_bound_171 rfl ⟨by simp [mbn, b2z, xg6, xg7, xg8, g2, g6, g70, g73, g76], rfl⟩
                  · have hfl := b2z_ne p3
                    have hl9 : fr CD (r + 1) = fr CD r + 1 := by simp [fr, hfl]
                    refine z_iinc X d_Mod_bound_135 rfl (by decide) ?_
                    refine e_goto (tgt := 117) X d_Mod_bound_138 (by decide) ?_
                    rw [show ((r : Nat) : Int) + (-1) = ((r : Nat) : Int) - 1 by omega]
                    exact ih r (by omega) (by omega) (by omega)
            rw [show ((k9 : Nat) : Int) - 2 = ((k9 - 1 : Nat) : Int) - 1 by omega]
            exact loopB _ (k9 - 1) (Nat.lt_succ_self _) (Nat.le_refl _) (by omega)
          · have g77 : decide ((CD (k9 - 1)) = 8205) = true := decide_eq_true (by omega)
            refine z_iload_n X d_Mod_bound_62 rfl ?_
            refine z_callS_I X d_Mod_bound_63 cs_Mod_67 (c_Mod_isPicture (by omega)) rfl rfl ⟨rfl, rfl⟩ rfl (fun z100 h98 hp99 => ?_)
            obtain ⟨rfl, hh101⟩ := hp99
            rw [hh101]
            refine z_if_eq (tgt := 117) X d_Mod_bound_66 (by decide) (b2z_r _) (fun q102 => ?_) (fun q102 => ?_)
            · have g103 : (is_pic (CD k9)) = false := b2z_eq q102
              have loopB : ∀ (d9 : Nat) (r : Nat), r < d9 → r ≤ k9 - 1 → fr CD (k9 - 1) = fr CD r + (k9 - 1 - r) → Ev k G 5 N 0 0 h 117 [some (.ref (ad (g_b G) 42)), some (vI ((k9 : Nat) : Int)), some (vI (CD (k9 - 1))), some (vI (CD k9)), some (vI (((r : Nat) : Int) - 1))] [] := by
                intro d9
                induction d9 with
                | zero =>
                  intro r hm9
                  exact absurd hm9 (Nat.not_lt_zero _)
                | succ d9 ih =>
                  intro r hm9 hr1 hrl
                  refine z_iload X d_Mod_bound_117 rfl ?_
                  refine z_if_lt (tgt := 141) X d_Mod_bound_119 (by decide) (by omega) (fun p1 => ?_) (fun p1 => ?_)
                  · have hr0 : r = 0 := by omega
                    have hfe : fr CD (k9 - 1) = k9 - 1 - r := by rw [hrl, hr0]; simp [fr]
                    refine z_iload_n X d_Mod_bound_141 rfl ?_
                    refine z_callS_I X d_Mod_bound_142 cs_Mod_70 (c_Mod_isFlag (by omega)) rfl rfl ⟨rfl, rfl⟩ rfl (fun z107 h105 hp106 => ?_)
                    obtain ⟨rfl, hh108⟩ := hp106
                    rw [hh108]
                    refine z_if_eq (tgt := 170) X d_Mod_bound_145 (by decide) (b2z_r _) (fun p6 => ?_) (fun p6 => ?_)
                    · have xg6 := b2z_eq p6
                      refine z_iconst X d_Mod_bound_170 ?_
                      exact z_ireturn X Q d_Mod_bound_171 rfl ⟨by simp [mbn, b2z, xg6, g2, g6, g70, g73, g77, g103], rfl⟩
                    · have xg6 := b2z_ne p6
                      refine z_iload_n X d_Mod_bound_148 rfl ?_
                      refine z_callS_I X d_Mod_bound_149 cs_Mod_70 (c_Mod_isFlag (by omega)) rfl rfl ⟨rfl, rfl⟩ rfl (fun z111 h109 hp110 => ?_)
                      obtain ⟨rfl, hh112⟩ := hp110
                      rw [hh112]
                      refine z_if_eq (tgt := 170) X d_Mod_bound_152 (by decide) (b2z_r _) (fun p7 => ?_) (fun p7 => ?_)
                      · have xg7 := b2z_eq p7
                        refine z_iconst X d_Mod_bound_170 ?_
                        exact z_ireturn X Q d_Mod_bound_171 rfl ⟨by simp [mbn, b2z, xg6, xg7, g2, g6, g70, g73, g77, g103], rfl⟩
                      · have xg7 := b2z_ne p7
                        refine z_iload_n X d_Mod_bound_155 rfl ?_
                        refine z_iconst X d_Mod_bound_156 ?_
                        refine z_isub X d_Mod_bound_157 ?_
                        refine z_iload X d_Mod_bound_158 rfl ?_
                        refine z_isub X d_Mod_bound_160 ?_
                        refine z_top (show _ = (((fr CD (k9 - 1)) : Nat) : Int) from (by omega)) ?_
                        refine z_iconst X d_Mod_bound_161 ?_
                        refine z_irem X d_Mod_bound_162 (by omega) (by omega) ?_
                        refine z_if_ne (tgt := 170) X d_Mod_bound_163 (by decide) (by omega) (fun p8 => ?_) (fun p8 => ?_)
                        · have xg8 : decide ((fr CD (k9 - 1)) % 2 = 0) = false := decide_eq_false (by omega)
                          refine z_iconst X d_Mod_bound_170 ?_
                          exact z_ireturn X Q d_Mod_bound_171 rfl ⟨by simp [mbn, b2z, xg6, xg7, xg8, g2, g6, g70, g73, g77, g103], rfl⟩
                        · have xg8 : decide ((fr CD (k9 - 1)) % 2 = 0) = true := decide_eq_true (by omega)
                          refine z_iconst X d_Mod_bound_166 ?_
                          refine e_goto (tgt := 171) X d_Mod_bound_167 (by decide) ?_
                          exact z_ireturn X Q d_Mod_bound_171 rfl ⟨by simp [mbn, b2z, xg6, xg7, xg8, g2, g6, g70, g73, g77, g103], rfl⟩
                  · obtain ⟨r, rfl⟩ : ∃ r9, r = r9 + 1 := ⟨r - 1, by omega⟩
                    rw [show ((r + 1 : Nat) : Int) - 1 = ((r : Nat) : Int) by omega]
                    have hrr := hcd r (by omega)
                    refine e_aload_n X d_Mod_bound_122 rfl ?_
                    refine e_get X d_Mod_bound_123 fl_Mod_33 d42 (by omega) rfl ?_
                    refine z_iload X d_Mod_bound_126 rfl ?_
                    refine z_iald X d_Mod_bound_128 (j := r) d49 (by omega) (by omega) (by omega) ?_
                    refine z_callS_I X d_Mod_bound_129 cs_Mod_70 (c_Mod_isFlag (by omega)) rfl rfl ⟨rfl, rfl⟩ rfl (fun z115 h113 hp114 => ?_)
                    obtain ⟨rfl, hh116⟩ := hp114
                    rw [hh116]
                    refine z_if_eq (tgt := 141) X d_Mod_bound_132 (by decide) (b2z_r _) (fun p3 => ?_) (fun p3 => ?_)
                    · have hfl := b2z_eq p3
                      have hfe : fr CD (k9 - 1) = k9 - 1 - (r + 1) := by rw [hrl]; simp [fr, hfl]
                      refine z_iload_n X d_Mod_bound_141 rfl ?_
                      refine z_callS_I X d_Mod_bound_142 cs_Mod_70 (c_Mod_isFlag (by omega)) rfl rfl ⟨rfl, rfl⟩ rfl (fun z119 h117 hp118 => ?_)
                      obtain ⟨rfl, hh120⟩ := hp118
                      rw [hh120]
                      refine z_if_eq (tgt := 170) X d_Mod_bound_145 (by decide) (b2z_r _) (fun p6 => ?_) (fun p6 => ?_)
                      · have xg6 := b2z_eq p6
                        refine z_iconst X d_Mod_bound_170 ?_
                        exact z_ireturn X Q d_Mod_bound_171 rfl ⟨by simp [mbn, b2z, xg6, g2, g6, g70, g73, g77, g103], rfl⟩
                      · have xg6 := b2z_ne p6
                        refine z_iload_n X d_Mod_bound_148 rfl ?_
                        refine z_callS_I X d_Mod_bound_149 cs_Mod_70 (c_Mod_isFlag (by omega)) rfl rfl ⟨rfl, rfl⟩ rfl (fun z123 h121 hp122 => ?_)
                        obtain ⟨rfl, hh124⟩ := hp122
                        rw [hh124]
                        refine z_if_eq (tgt := 170) X d_Mod_bound_152 (by decide) (b2z_r _) (fun p7 => ?_) (fun p7 => ?_)
                        · have xg7 := b2z_eq p7
                          refine z_iconst X d_Mod_bound_170 ?_
                          exact z_ireturn X Q d_Mod_bound_171 rfl ⟨by simp [mbn, b2z, xg6, xg7, g2, g6, g70, g73, g77, g103], rfl⟩
                        · have xg7 := b2z_ne p7
                          refine z_iload_n X d_Mod_bound_155 rfl ?_
                          refine z_iconst X d_Mod_bound_156 ?_
                          refine z_isub X d_Mod_bound_157 ?_
                          refine z_iload X d_Mod_bound_158 rfl ?_
                          refine z_isub X d_Mod_bound_160 ?_
                          refine z_top (show _ = (((fr CD (k9 - 1)) : Nat) : Int) from (by omega)) ?_
                          refine z_iconst X d_Mod_bound_161 ?_
                          refine z_irem X d_Mod_bound_162 (by omega) (by omega) ?_
                          refine z_if_ne (tgt := 170) X d_Mod_bound_163 (by decide) (by omega) (fun p8 => ?_) (fun p8 => ?_)
                          · have xg8 : decide ((fr CD (k9 - 1)) % 2 = 0) = false := decide_eq_false (by omega)
                            refine z_iconst X d_Mod_bound_170 ?_
                            exact z_ireturn X Q d_Mod_bound_171 rfl ⟨by simp [mbn, b2z, xg6, xg7, xg8, g2, g6, g70, g73, g77, g103], rfl⟩
                          · have xg8 : decide ((fr CD (k9 - 1)) % 2 = 0) = true := decide_eq_true (by omega)
                            refine z_iconst X d_Mod_bound_166 ?_
                            refine e_goto (tgt := 171) X d_Mod_bound_167 (by decide) ?_
                            exact z_ireturn X Q d_Mod_bound_171 rfl ⟨by simp [mbn, b2z, xg6, xg7, xg8, g2, g6, g70, g73, g77, g103], rfl⟩
                    · have hfl := b2z_ne p3
                      have hl9 : fr CD (r + 1) = fr CD r + 1 := by simp [fr, hfl]
                      refine z_iinc X d_Mod_bound_135 rfl (by decide) ?_
                      refine e_goto (tgt := 117) X d_Mod_bound_138 (by decide) ?_
                      rw [show ((r : Nat) : Int) + (-1) = ((r : Nat) : Int) - 1 by omega]
                      exact ih r (by omega) (by omega) (by omega)
              rw [show ((k9 : Nat) : Int) - 2 = ((k9 - 1 : Nat) : Int) - 1 by omega]
              exact loopB _ (k9 - 1) (Nat.lt_succ_self _) (Nat.le_refl _) (by omega)
            · have g104 : (is_pic (CD k9)) = true := b2z_ne q102
              have loopA : ∀ (d9 : Nat) (r : Nat), r < d9 → r ≤ k9 - 1 → ld CD (k9 - 1) = ld CD r → Ev k G 5 N 0 0 h 69 [some (.ref (ad (g_b G) 42)), some (vI ((k9 : Nat) : Int)), some (vI (CD (k9 - 1))), some (vI (CD k9)), some (vI (((r : Nat) : Int) - 1))] [] := by
                intro d9
                induction d9 with
                | zero =>
                  intro r hm9
                  exact absurd hm9 (Nat.not_lt_zero _)
                | succ d9 ih =>
                  intro r hm9 hr1 hrl
                  refine z_iload X d_Mod_bound_69 rfl ?_
                  refine z_if_lt (tgt := 93) X d_Mod_bound_71 (by decide) (by omega) (fun p1 => ?_) (fun p1 => ?_)
                  · have hr0 : r = 0 := by omega
                    subst hr0
                    refine z_iload X d_Mod_bound_93 rfl ?_
                    refine z_if_lt (tgt := 115) X d_Mod_bound_95 (by decide) (by omega) (fun p2 => ?_) (fun p2 => ?_)
                    · refine z_iconst X d_Mod_bound_115 ?_
                      have hl0 : ld CD 0 = -1 := rfl
                      have hpn : is_pic (-1) = false := by decide
                      exact z_ireturn X Q d_Mod_bound_116 rfl ⟨by simp [mbn, b2z, hrl, hl0, hpn, g2, g6, g70, g73, g77, g104], rfl⟩
                    · omega
                  · obtain ⟨r, rfl⟩ : ∃ r9, r = r9 + 1 := ⟨r - 1, by omega⟩
                    rw [show ((r + 1 : Nat) : Int) - 1 = ((r : Nat) : Int) by omega]
                    have hrr := hcd r (by omega)
                    refine e_aload_n X d_Mod_bound_74 rfl ?_
                    refine e_get X d_Mod_bound_75 fl_Mod_33 d42 (by omega) rfl ?_
                    refine z_iload X d_Mod_bound_78 rfl ?_
                    refine z_iald X d_Mod_bound_80 (j := r) d49 (by omega) (by omega) (by omega) ?_
                    refine z_callS_I X d_Mod_bound_81 cs_Mod_63 (c_Mod_isMark (by omega)) rfl rfl ⟨rfl, rfl⟩ rfl (fun z127 h125 hp126 => ?_)
                    obtain ⟨rfl, hh128⟩ := hp126
                    rw [hh128]
                    refine z_if_eq (tgt := 93) X d_Mod_bound_84 (by decide) (b2z_r _) (fun p3 => ?_) (fun p3 => ?_)
                    · have hmk := b2z_eq p3
                      have hl9 : ld CD (r + 1) = CD r := by simp [ld, hmk]
                      refine z_iload X d_Mod_bound_93 rfl ?_
                      refine z_if_lt (tgt := 115) X d_Mod_bound_95 (by decide) (by omega) (fun p4 => ?_) (fun p4 => ?_)
                      · omega
                      · refine e_aload_n X d_Mod_bound_98 rfl ?_
                        refine e_get X d_Mod_bound_99 fl_Mod_33 d42 (by omega) rfl ?_
                        refine z_iload X d_Mod_bound_102 rfl ?_
                        refine z_iald X d_Mod_bound_104 (j := r) d49 (by omega) (by omega) (by omega) ?_
                        refine z_callS_I X d_Mod_bound_105 cs_Mod_67 (c_Mod_isPicture (by omega)) rfl rfl ⟨rfl, rfl⟩ rfl (fun z131 h129 hp130 => ?_)
                        obtain ⟨rfl, hh132⟩ := hp130
                        rw [hh132]
                        refine z_if_eq (tgt := 115) X d_Mod_bound_108 (by decide) (b2z_r _) (fun p5 => ?_) (fun p5 => ?_)
                        · refine z_iconst X d_Mod_bound_115 ?_
                          have hp9 := b2z_eq p5
                          exact z_ireturn X Q d_Mod_bound_116 rfl ⟨by simp [mbn, b2z, hrl, hl9, hp9, g2, g6, g70, g73, g77, g104], rfl⟩
                        · refine z_iconst X d_Mod_bound_111 ?_
                          refine e_goto (tgt := 116) X d_Mod_bound_112 (by decide) ?_
                          have hp9 := b2z_ne p5
                          exact z_ireturn X Q d_Mod_bound_116 rfl ⟨by simp [mbn, b2z, hrl, hl9, hp9, g2, g6, g70, g73, g77, g104], rfl⟩
                    · have hmk := b2z_ne p3
                      have hl9 : ld CD (r + 1) = ld CD r := by simp [ld, hmk]
                      refine z_iinc X d_Mod_bound_87 rfl (by decide) ?_
                      refine e_goto (tgt := 69) X d_Mod_bound_90 (by decide) ?_
                      rw [show ((r : Nat) : Int) + (-1) = ((r : Nat) : Int) - 1 by omega]
                      exact ih r (by omega) (by omega) (hrl.trans hl9)
              rw [show ((k9 : Nat) : Int) - 2 = ((k9 - 1 : Nat) : Int) - 1 by omega]
              exact loopA _ (k9 - 1) (Nat.lt_succ_self _) (Nat.le_refl _) rfl
        · have g74 : decide ((CD k9) = 8205) = true := decide_eq_true (by omega)
          refine z_iconst X d_Mod_bound_48 ?_
          exact z_ireturn X Q d_Mod_bound_49 rfl ⟨by simp [mbn, b2z, g2, g6, g70, g74], rfl⟩
  · have g3 : decide ((CD (k9 - 1)) = 13) = true := decide_eq_true (by omega)
    refine z_iload_n X d_Mod_bound_22 rfl ?_
    refine z_bipush X d_Mod_bound_23 (by decide) ?_
    refine z_icmp_eq (tgt := 48) X d_Mod_bound_25 (by decide) (by omega) (fun q133 => ?_) (fun q133 => ?_)
    · have g134 : decide ((CD k9) = 10) = true := decide_eq_true (by omega)
      refine z_iconst X d_Mod_bound_48 ?_
      exact z_ireturn X Q d_Mod_bound_49 rfl ⟨by simp [mbn, b2z, g3, g134], rfl⟩
    · have g135 : decide ((CD k9) = 10) = false := decide_eq_false (by omega)
      refine z_iload_n X d_Mod_bound_28 rfl ?_
      refine z_bipush X d_Mod_bound_29 (by decide) ?_
      refine z_icmp_le (tgt := 50) X d_Mod_bound_31 (by decide) (by omega) (fun q136 => ?_) (fun q136 => ?_)
      · have g137 : decide (31 < (CD (k9 - 1))) = false := decide_eq_false (by omega)
        refine z_iload_n X d_Mod_bound_50 rfl ?_
        refine z_iconst X d_Mod_bound_51 ?_
        refine z_isub X d_Mod_bound_52 ?_
        refine e_istore X d_Mod_bound_53 (by decide) ?_
        refine z_iload_n X d_Mod_bound_55 rfl ?_
        refine z_sipush X d_Mod_bound_56 (by decide) ?_
        refine z_icmp_ne (tgt := 117) X d_Mod_bound_59 (by decide) (by omega) (fun q139 => ?_) (fun q139 => ?_)
        · have g140 : decide ((CD (k9 - 1)) = 8205) = false := decide_eq_false (by omega)
          have loopB : ∀ (d9 : Nat) (r : Nat), r < d9 → r ≤ k9 - 1 → fr CD (k9 - 1) = fr CD r + (k9 - 1 - r) → Ev k G 5 N 0 0 h 117 [some (.ref (ad (g_b G) 42)), some (vI ((k9 : Nat) : Int)), some (vI (CD (k9 - 1))), some (vI (CD k9)), some (vI (((r : Nat) : Int) - 1))] [] := by
            intro d9
            induction d9 with
            | zero =>
              intro r hm9
              exact absurd hm9 (Nat.not_lt_zero _)
            | succ d9 ih =>
              intro r hm9 hr1 hrl
              refine z_iload X d_Mod_bound_117 rfl ?_
              refine z_if_lt (tgt := 141) X d_Mod_bound_119 (by decide) (by omega) (fun p1 => ?_) (fun p1 => ?_)
              · have hr0 : r = 0 := by omega
                have hfe : fr CD (k9 - 1) = k9 - 1 - r := by rw [hrl, hr0]; simp [fr]
                refine z_iload_n X d_Mod_bound_141 rfl ?_
                refine z_callS_I X d_Mod_bound_142 cs_Mod_70 (c_Mod_isFlag (by omega)) rfl rfl ⟨rfl, rfl⟩ rfl (fun z144 h142 hp143 => ?_)
                obtain ⟨rfl, hh145⟩ := hp143
                rw [hh145]
                refine z_if_eq (tgt := 170) X d_Mod_bound_145 (by decide) (b2z_r _) (fun p6 => ?_) (fun p6 => ?_)
                · have xg6 := b2z_eq p6
                  refine z_iconst X d_Mod_bound_170 ?_
                  exact z_ireturn X Q d_Mod_bound_171 rfl ⟨by simp [mbn, b2z, xg6, g3, g135, g137, g140], rfl⟩
                · have xg6 := b2z_ne p6
                  refine z_iload_n X d_Mod_bound_148 rfl ?_
                  refine z_callS_I X d_Mod_bound_149 cs_Mod_70 (c_Mod_isFlag (by omega)) rfl rfl ⟨rfl, rfl⟩ rfl (fun z148 h146 hp147 => ?_)
                  obtain ⟨rfl, hh149⟩ := hp147
                  rw [hh149]
                  refine z_if_eq (tgt := 170) X d_Mod_bound_152 (by decide) (b2z_r _) (fun p7 => ?_) (fun p7 => ?_)
                  · have xg7 := b2z_eq p7
                    refine z_iconst X d_Mod_bound_170 ?_
                    exact z_ireturn X Q d_Mod_bound_171 rfl ⟨by simp [mbn, b2z, xg6, xg7, g3, g135, g137, g140], rfl⟩
                  · have xg7 := b2z_ne p7
                    refine z_iload_n X d_Mod_bound_155 rfl ?_
                    refine z_iconst X d_Mod_bound_156 ?_
                    refine z_isub X d_Mod_bound_157 ?_
                    refine z_iload X d_Mod_bound_158 rfl ?_
                    refine z_isub X d_Mod_bound_160 ?_
                    refine z_top (show _ = (((fr CD (k9 - 1)) : Nat) : Int) from (by omega)) ?_
                    refine z_iconst X d_Mod_bound_161 ?_
                    refine z_irem X d_Mod_bound_162 (by omega) (by omega) ?_
                    refine z_if_ne (tgt := 170) X d_Mod_bound_163 (by decide) (by omega) (fun p8 => ?_) (fun p8 => ?_)
                    · have xg8 : decide ((fr CD (k9 - 1)) % 2 = 0) = false := decide_eq_false (by omega)
                      refine z_iconst X d_Mod_bound_170 ?_
                      exact z_ireturn X Q d_Mod_bound_171 rfl ⟨by simp [mbn, b2z, xg6, xg7, xg8, g3, g135, g137, g140], rfl⟩
                    · have xg8 : decide ((fr CD (k9 - 1)) % 2 = 0) = true := decide_eq_true (by omega)
                      refine z_iconst X d_Mod_bound_166 ?_
                      refine e_goto (tgt := 171) X d_Mod_bound_167 (by decide) ?_
                      exact z_ireturn X Q d_Mod_bound_171 rfl ⟨by simp [mbn, b2z, xg6, xg7, xg8, g3, g135, g137, g140], rfl⟩
              · obtain ⟨r, rfl⟩ : ∃ r9, r = r9 + 1 := ⟨r - 1, by omega⟩
                rw [show ((r + 1 : Nat) : Int) - 1 = ((r : Nat) : Int) by omega]
                have hrr := hcd r (by omega)
                refine e_aload_n X d_Mod_bound_122 rfl ?_
                refine e_get X d_Mod_bound_123 fl_Mod_33 d42 (by omega) rfl ?_
                refine z_iload X d_Mod_bound_126 rfl ?_
                refine z_iald X d_Mod_bound_128 (j := r) d49 (by omega) (by omega) (by omega) ?_
                refine z_callS_I X d_Mod_bound_129 cs_Mod_70 (c_Mod_isFlag (by omega)) rfl rfl ⟨rfl, rfl⟩ rfl (fun z152 h150 hp151 => ?_)
                obtain ⟨rfl, hh153⟩ := hp151
                rw [hh153]
                refine z_if_eq (tgt := 141) X d_Mod_bound_132 (by decide) (b2z_r _) (fun p3 => ?_) (fun p3 => ?_)
                · have hfl := b2z_eq p3
                  have hfe : fr CD (k9 - 1) = k9 - 1 - (r + 1) := by rw [hrl]; simp [fr, hfl]
                  refine z_iload_n X d_Mod_bound_141 rfl ?_
                  refine z_callS_I X d_Mod_bound_142 cs_Mod_70 (c_Mod_isFlag (by omega)) rfl rfl ⟨rfl, rfl⟩ rfl (fun z156 h154 hp155 => ?_)
                  obtain ⟨rfl, hh157⟩ := hp155
                  rw [hh157]
                  refine z_if_eq (tgt := 170) X d_Mod_bound_145 (by decide) (b2z_r _) (fun p6 => ?_) (fun p6 => ?_)
                  · have xg6 := b2z_eq p6
                    refine z_iconst X d_Mod_bound_170 ?_
                    exact z_ireturn X Q d_Mod_bound_171 rfl ⟨by simp [mbn, b2z, xg6, g3, g135, g137, g140], rfl⟩
                  · have xg6 := b2z_ne p6
                    refine z_iload_n X d_Mod_bound_148 rfl ?_
                    refine z_callS_I X d_Mod_bound_149 cs_Mod_70 (c_Mod_isFlag (by omega)) rfl rfl ⟨rfl, rfl⟩ rfl (fun z160 h158 hp159 => ?_)
                    obtain ⟨rfl, hh161⟩ := hp159
                    rw [hh161]
                    refine z_if_eq (tgt := 170) X d_Mod_bound_152 (by decide) (b2z_r _) (fun p7 => ?_) (fun p7 => ?_)
                    · have xg7 := b2z_eq p7
                      refine z_iconst X d_Mod_bound_170 ?_
                      exact z_ireturn X Q d_Mod_bound_171 rfl ⟨by simp [mbn, b2z, xg6, xg7, g3, g135, g137, g140], rfl⟩
                    · have xg7 := b2z_ne p7
                      refine z_iload_n X d_Mod_bound_155 rfl ?_
                      refine z_iconst X d_Mod_bound_156 ?_
                      refine z_isub X d_Mod_bound_157 ?_
                      refine z_iload X d_Mod_bound_158 rfl ?_
                      refine z_isub X d_Mod_bound_160 ?_
                      refine z_top (show _ = (((fr CD (k9 - 1)) : Nat) : Int) from (by omega)) ?_
                      refine z_iconst X d_Mod_bound_161 ?_
                      refine z_irem X d_Mod_bound_162 (by omega) (by omega) ?_
                      refine z_if_ne (tgt := 170) X d_Mod_bound_163 (by decide) (by omega) (fun p8 => ?_) (fun p8 => ?_)
                      · have xg8 : decide ((fr CD (k9 - 1)) % 2 = 0) = false := decide_eq_false (by omega)
                        refine z_iconst X d_Mod_bound_170 ?_
                        exact z_ireturn X Q d_Mod_bound_171 rfl ⟨by simp [mbn, b2z, xg6, xg7, xg8, g3, g135, g137, g140], rfl⟩
                      · have xg8 : decide ((fr CD (k9 - 1)) % 2 = 0) = true := decide_eq_true (by omega)
                        refine z_iconst X d_Mod_bound_166 ?_
                        refine e_goto (tgt := 171) X d_Mod_bound_167 (by decide) ?_
                        exact z_ireturn X Q d_Mod_bound_171 rfl ⟨by simp [mbn, b2z, xg6, xg7, xg8, g3, g135, g137, g140], rfl⟩
                · have hfl := b2z_ne p3
                  have hl9 : fr CD (r + 1) = fr CD r + 1 := by simp [fr, hfl]
                  refine z_iinc X d_Mod_bound_135 rfl (by decide) ?_
                  refine e_goto (tgt := 117) X d_Mod_bound_138 (by decide) ?_
                  rw [show ((r : Nat) : Int) + (-1) = ((r : Nat) : Int) - 1 by omega]
                  exact ih r (by omega) (by omega) (by omega)
          rw [show ((k9 : Nat) : Int) - 2 = ((k9 - 1 : Nat) : Int) - 1 by omega]
          exact loopB _ (k9 - 1) (Nat.lt_succ_self _) (Nat.le_refl _) (by omega)
        · have g141 : decide ((CD (k9 - 1)) = 8205) = true := decide_eq_true (by omega)
          refine z_iload_n X d_Mod_bound_62 rfl ?_
          refine z_callS_I X d_Mod_bound_63 cs_Mod_67 (c_Mod_isPicture (by omega)) rfl rfl ⟨rfl, rfl⟩ rfl (fun z164 h162 hp163 => ?_)
          obtain ⟨rfl, hh165⟩ := hp163
          rw [hh165]
          refine z_if_eq (tgt := 117) X d_Mod_bound_66 (by decide) (b2z_r _) (fun q166 => ?_) (fun q166 => ?_)
          · have g167 : (is_pic (CD k9)) = false := b2z_eq q166
            have loopB : ∀ (d9 : Nat) (r : Nat), r < d9 → r ≤ k9 - 1 → fr CD (k9 - 1) = fr CD r + (k9 - 1 - r) → Ev k G 5 N 0 0 h 117 [some (.ref (ad (g_b G) 42)), some (vI ((k9 : Nat) : Int)), some (vI (CD (k9 - 1))), some (vI (CD k9)), some (vI (((r : Nat) : Int) - 1))] [] := by
              intro d9
              induction d9 with
              | zero =>
                intro r hm9
                exact absurd hm9 (Nat.not_lt_zero _)
              | succ d9 ih =>
                intro r hm9 hr1 hrl
                refine z_iload X d_Mod_bound_117 rfl ?_
                refine z_if_lt (tgt := 141) X d_Mod_bound_119 (by decide) (by omega) (fun p1 => ?_) (fun p1 => ?_)
                · have hr0 : r = 0 := by omega
                  have hfe : fr CD (k9 - 1) = k9 - 1 - r := by rw [hrl, hr0]; simp [fr]
                  refine z_iload_n X d_Mod_bound_141 rfl ?_
                  refine z_callS_I X d_Mod_bound_142 cs_Mod_70 (c_Mod_isFlag (by omega)) rfl rfl ⟨rfl, rfl⟩ rfl (fun z171 h169 hp170 => ?_)
                  obtain ⟨rfl, hh172⟩ := hp170
                  rw [hh172]
                  refine z_if_eq (tgt := 170) X d_Mod_bound_145 (by decide) (b2z_r _) (fun p6 => ?_) (fun p6 => ?_)
                  · have xg6 := b2z_eq p6
                    refine z_iconst X d_Mod_bound_170 ?_
                    exact z_ireturn X Q d_Mod_bound_171 rfl ⟨by simp [mbn, b2z, xg6, g3, g135, g137, g141, g167], rfl⟩
                  · have xg6 := b2z_ne p6
                    refine z_iload_n X d_Mod_bound_148 rfl ?_
                    refine z_callS_I X d_Mod_bound_149 cs_Mod_70 (c_Mod_isFlag (by omega)) rfl rfl ⟨rfl, rfl⟩ rfl (fun z175 h173 hp174 => ?_)
                    obtain ⟨rfl, hh176⟩ := hp174
                    rw [hh176]
                    refine z_if_eq (tgt := 170) X d_Mod_bound_152 (by decide) (b2z_r _) (fun p7 => ?_) (fun p7 => ?_)
                    · have xg7 := b2z_eq p7
                      refine z_iconst X d_Mod_bound_170 ?_
                      exact z_ireturn X Q d_Mod_bound_171 rfl ⟨by simp [mbn, b2z, xg6, xg7, g3, g135, g137, g141, g167], rfl⟩
                    · have xg7 := b2z_ne p7
                      refine z_iload_n X d_Mod_bound_155 rfl ?_
                      refine z_iconst X d_Mod_bound_156 ?_
                      refine z_isub X d_Mod_bound_157 ?_
                      refine z_iload X d_Mod_bound_158 rfl ?_
                      refine z_isub X d_Mod_bound_160 ?_
                      refine z_top (show _ = (((fr CD (k9 - 1)) : Nat) : Int) from (by omega)) ?_
                      refine z_iconst X d_Mod_bound_161 ?_
                      refine z_irem X d_Mod_bound_162 (by omega) (by omega) ?_
                      refine z_if_ne (tgt := 170) X d_Mod_bound_163 (by decide) (by omega) (fun p8 => ?_) (fun p8 => ?_)
                      · have xg8 : decide ((fr CD (k9 - 1)) % 2 = 0) = false := decide_eq_false (by omega)
                        refine z_iconst X d_Mod_bound_170 ?_
                        exact z_ireturn X Q d_Mod_bound_171 rfl ⟨by simp [mbn, b2z, xg6, xg7, xg8, g3, g135, g137, g141, g167], rfl⟩
                      · have xg8 : decide ((fr CD (k9 - 1)) % 2 = 0) = true := decide_eq_true (by omega)
                        refine z_iconst X d_Mod_bound_166 ?_
                        refine e_goto (tgt := 171) X d_Mod_bound_167 (by decide) ?_
                        exact z_ireturn X Q d_Mod_bound_171 rfl ⟨by simp [mbn, b2z, xg6, xg7, xg8, g3, g135, g137, g141, g167], rfl⟩
                · obtain ⟨r, rfl⟩ : ∃ r9, r = r9 + 1 := ⟨r - 1, by omega⟩
                  rw [show ((r + 1 : Nat) : Int) - 1 = ((r : Nat) : Int) by omega]
                  have hrr := hcd r (by omega)
                  refine e_aload_n X d_Mod_bound_122 rfl ?_
                  refine e_get X d_Mod_bound_123 fl_Mod_33 d42 (by omega) rfl ?_
                  refine z_iload X d_Mod_bound_126 rfl ?_
                  refine z_iald X d_Mod_bound_128 (j := r) d49 (by omega) (by omega) (by omega) ?_
                  refine z_callS_I X d_Mod_bound_129 cs_Mod_70 (c_Mod_isFlag (by omega)) rfl rfl ⟨rfl, rfl⟩ rfl (fun z179 h177 hp178 => ?_)
                  obtain ⟨rfl, hh180⟩ := hp178
                  rw [hh180]
                  refine z_if_eq (tgt := 141) X d_Mod_bound_132 (by decide) (b2z_r _) (fun p3 => ?_) (fun p3 => ?_)
                  · have hfl := b2z_eq p3
                    have hfe : fr CD (k9 - 1) = k9 - 1 - (r + 1) := by rw [hrl]; simp [fr, hfl]
                    refine z_iload_n X d_Mod_bound_141 rfl ?_
                    refine z_callS_I X d_Mod_bound_142 cs_Mod_70 (c_Mod_isFlag (by omega)) rfl rfl ⟨rfl, rfl⟩ rfl (fun z183 h181 hp182 => ?_)
                    obtain ⟨rfl, hh184⟩ := hp182
                    rw [hh184]
                    refine z_if_eq (tgt := 170) X d_Mod_bound_145 (by decide) (b2z_r _) (fun p6 => ?_) (fun p6 => ?_)
                    · have xg6 := b2z_eq p6
                      refine z_iconst X d_Mod_bound_170 ?_
                      exact z_ireturn X Q d_Mod_bound_171 rfl ⟨by simp [mbn, b2z, xg6, g3, g135, g137, g141, g167], rfl⟩
                    · have xg6 := b2z_ne p6
                      refine z_iload_n X d_Mod_bound_148 rfl ?_
                      refine z_callS_I X d_Mod_bound_149 cs_Mod_70 (c_Mod_isFlag (by omega)) rfl rfl ⟨rfl, rfl⟩ rfl (fun z187 h185 hp186 => ?_)
                      obtain ⟨rfl, hh188⟩ := hp186
                      rw [hh188]
                      refine z_if_eq (tgt := 170) X d_Mod_bound_152 (by decide) (b2z_r _) (fun p7 => ?_) (fun p7 => ?_)
                      · have xg7 := b2z_eq p7
                        refine z_iconst X d_Mod_bound_170 ?_
                        exact z_ireturn X Q d_Mod_bound_171 rfl ⟨by simp [mbn, b2z, xg6, xg7, g3, g135, g137, g141, g167], rfl⟩
                      · have xg7 := b2z_ne p7
                        refine z_iload_n X d_Mod_bound_155 rfl ?_
                        refine z_iconst X d_Mod_bound_156 ?_
                        refine z_isub X d_Mod_bound_157 ?_
                        refine z_iload X d_Mod_bound_158 rfl ?_
                        refine z_isub X d_Mod_bound_160 ?_
                        refine z_top (show _ = (((fr CD (k9 - 1)) : Nat) : Int) from (by omega)) ?_
                        refine z_iconst X d_Mod_bound_161 ?_
                        refine z_irem X d_Mod_bound_162 (by omega) (by omega) ?_
                        refine z_if_ne (tgt := 170) X d_Mod_bound_163 (by decide) (by omega) (fun p8 => ?_) (fun p8 => ?_)
                        · have xg8 : decide ((fr CD (k9 - 1)) % 2 = 0) = false := decide_eq_false (by omega)
                          refine z_iconst X d_Mod_bound_170 ?_
                          exact z_ireturn X Q d_Mod_bound_171 rfl ⟨by simp [mbn, b2z, xg6, xg7, xg8, g3, g135, g137, g141, g167], rfl⟩
                        · have xg8 : decide ((fr CD (k9 - 1)) % 2 = 0) = true := decide_eq_true (by omega)
                          refine z_iconst X d_Mod_bound_166 ?_
                          refine e_goto (tgt := 171) X d_Mod_bound_167 (by decide) ?_
                          exact z_ireturn X Q d_Mod_bound_171 rfl ⟨by simp [mbn, b2z, xg6, xg7, xg8, g3, g135, g137, g141, g167], rfl⟩
                  · have hfl := b2z_ne p3
                    have hl9 : fr CD (r + 1) = fr CD r + 1 := by simp [fr, hfl]
                    refine z_iinc X d_Mod_bound_135 rfl (by decide) ?_
                    refine e_goto (tgt := 117) X d_Mod_bound_138 (by decide) ?_
                    rw [show ((r : Nat) : Int) + (-1) = ((r : Nat) : Int) - 1 by omega]
                    exact ih r (by omega) (by omega) (by omega)
            rw [show ((k9 : Nat) : Int) - 2 = ((k9 - 1 : Nat) : Int) - 1 by omega]
            exact loopB _ (k9 - 1) (Nat.lt_succ_self _) (Nat.le_refl _) (by omega)
          · have g168 : (is_pic (CD k9)) = true := b2z_ne q166
            have loopA : ∀ (d9 : Nat) (r : Nat), r < d9 → r ≤ k9 - 1 → ld CD (k9 - 1) = ld CD r → Ev k G 5 N 0 0 h 69 [some (.ref (ad (g_b G) 42)), some (vI ((k9 : Nat) : Int)), some (vI (CD (k9 - 1))), some (vI (CD k9)), some (vI (((r : Nat) : Int) - 1))] [] := by
              intro d9
              induction d9 with
              | zero =>
                intro r hm9
                exact absurd hm9 (Nat.not_lt_zero _)
              | succ d9 ih =>
                intro r hm9 hr1 hrl
                refine z_iload X d_Mod_bound_69 rfl ?_
                refine z_if_lt (tgt := 93) X d_Mod_bound_71 (by decide) (by omega) (fun p1 => ?_) (fun p1 => ?_)
                · have hr0 : r = 0 := by omega
                  subst hr0
                  refine z_iload X d_Mod_bound_93 rfl ?_
                  refine z_if_lt (tgt := 115) X d_Mod_bound_95 (by decide) (by omega) (fun p2 => ?_) (fun p2 => ?_)
                  · refine z_iconst X d_Mod_bound_115 ?_
                    have hl0 : ld CD 0 = -1 := rfl
                    have hpn : is_pic (-1) = false := by decide
                    exact z_ireturn X Q d_Mod_bound_116 rfl ⟨by simp [mbn, b2z, hrl, hl0, hpn, g3, g135, g137, g141, g168], rfl⟩
                  · omega
                · obtain ⟨r, rfl⟩ : ∃ r9, r = r9 + 1 := ⟨r - 1, by omega⟩
                  rw [show ((r + 1 : Nat) : Int) - 1 = ((r : Nat) : Int) by omega]
                  have hrr := hcd r (by omega)
                  refine e_aload_n X d_Mod_bound_74 rfl ?_
                  refine e_get X d_Mod_bound_75 fl_Mod_33 d42 (by omega) rfl ?_
                  refine z_iload X d_Mod_bound_78 rfl ?_
                  refine z_iald X d_Mod_bound_80 (j := r) d49 (by omega) (by omega) (by omega) ?_
                  refine z_callS_I X d_Mod_bound_81 cs_Mod_63 (c_Mod_isMark (by omega)) rfl rfl ⟨rfl, rfl⟩ rfl (fun z191 h189 hp190 => ?_)
                  obtain ⟨rfl, hh192⟩ := hp190
                  rw [hh192]
                  refine z_if_eq (tgt := 93) X d_Mod_bound_84 (by decide) (b2z_r _) (fun p3 => ?_) (fun p3 => ?_)
                  · have hmk := b2z_eq p3
                    have hl9 : ld CD (r + 1) = CD r := by simp [ld, hmk]
                    refine z_iload X d_Mod_bound_93 rfl ?_
                    refine z_if_lt (tgt := 115) X d_Mod_bound_95 (by decide) (by omega) (fun p4 => ?_) (fun p4 => ?_)
                    · omega
                    · refine e_aload_n X d_Mod_bound_98 rfl ?_
                      refine e_get X d_Mod_bound_99 fl_Mod_33 d42 (by omega) rfl ?_
                      refine z_iload X d_Mod_bound_102 rfl ?_
                      refine z_iald X d_Mod_bound_104 (j := r) d49 (by omega) (by omega) (by omega) ?_
                      refine z_callS_I X d_Mod_bound_105 cs_Mod_67 (c_Mod_isPicture (by omega)) rfl rfl ⟨rfl, rfl⟩ rfl (fun z195 h193 hp194 => ?_)
                      obtain ⟨rfl, hh196⟩ := hp194
                      rw [hh196]
                      refine z_if_eq (tgt := 115) X d_Mod_bound_108 (by decide) (b2z_r _) (fun p5 => ?_) (fun p5 => ?_)
                      · refine z_iconst X d_Mod_bound_115 ?_
                        have hp9 := b2z_eq p5
                        exact z_ireturn X Q d_Mod_bound_116 rfl ⟨by simp [mbn, b2z, hrl, hl9, hp9, g3, g135, g137, g141, g168], rfl⟩
                      · refine z_iconst X d_Mod_bound_111 ?_
                        refine e_goto (tgt := 116) X d_Mod_bound_112 (by decide) ?_
                        have hp9 := b2z_ne p5
                        exact z_ireturn X Q d_Mod_bound_116 rfl ⟨by simp [mbn, b2z, hrl, hl9, hp9, g3, g135, g137, g141, g168], rfl⟩
                  · have hmk := b2z_ne p3
                    have hl9 : ld CD (r + 1) = ld CD r := by simp [ld, hmk]
                    refine z_iinc X d_Mod_bound_87 rfl (by decide) ?_
                    refine e_goto (tgt := 69) X d_Mod_bound_90 (by decide) ?_
                    rw [show ((r : Nat) : Int) + (-1) = ((r : Nat) : Int) - 1 by omega]
                    exact ih r (by omega) (by omega) (hrl.trans hl9)
            rw [show ((k9 : Nat) : Int) - 2 = ((k9 - 1 : Nat) : Int) - 1 by omega]
            exact loopA _ (k9 - 1) (Nat.lt_succ_self _) (Nat.le_refl _) rfl
      · have g138 : decide (31 < (CD (k9 - 1))) = true := decide_eq_true (by omega)
        refine z_iload_n X d_Mod_bound_34 rfl ?_
        refine z_callS_I X d_Mod_bound_35 cs_Mod_63 (c_Mod_isMark (by omega)) rfl rfl ⟨rfl, rfl⟩ rfl (fun z199 h197 hp198 => ?_)
        obtain ⟨rfl, hh200⟩ := hp198
        rw [hh200]
        refine z_if_ne (tgt := 48) X d_Mod_bound_38 (by decide) (b2z_r _) (fun q201 => ?_) (fun q201 => ?_)
        · have g203 : (is_mark (CD k9)) = true := b2z_ne q201
          refine z_iconst X d_Mod_bound_48 ?_
          exact z_ireturn X Q d_Mod_bound_49 rfl ⟨by simp [mbn, b2z, g3, g135, g138, g203], rfl⟩
        · have g202 : (is_mark (CD k9)) = false := b2z_eq q201
          refine z_iload_n X d_Mod_bound_41 rfl ?_
          refine z_sipush X d_Mod_bound_42 (by decide) ?_
          refine z_icmp_ne (tgt := 50) X d_Mod_bound_45 (by decide) (by omega) (fun q204 => ?_) (fun q204 => ?_)
          · have g205 : decide ((CD k9) = 8205) = false := decide_eq_false (by omega)
            refine z_iload_n X d_Mod_bound_50 rfl ?_
            refine z_iconst X d_Mod_bound_51 ?_
            refine z_isub X d_Mod_bound_52 ?_
            refine e_istore X d_Mod_bound_53 (by decide) ?_
            refine z_iload_n X d_Mod_bound_55 rfl ?_
            refine z_sipush X d_Mod_bound_56 (by decide) ?_
            refine z_icmp_ne (tgt := 117) X d_Mod_bound_59 (by decide) (by omega) (fun q207 => ?_) (fun q207 => ?_)
            · have g208 : decide ((CD (k9 - 1)) = 8205) = false := decide_eq_false (by omega)
              have loopB : ∀ (d9 : Nat) (r : Nat), r < d9 → r ≤ k9 - 1 → fr CD (k9 - 1) = fr CD r + (k9 - 1 - r) → Ev k G 5 N 0 0 h 117 [some (.ref (ad (g_b G) 42)), some (vI ((k9 : Nat) : Int)), some (vI (CD (k9 - 1))), some (vI (CD k9)), some (vI (((r : Nat) : Int) - 1))] [] := by
                intro d9
                induction d9 with
                | zero =>
                  intro r hm9
                  exact absurd hm9 (Nat.not_lt_zero _)
                | succ d9 ih =>
                  intro r hm9 hr1 hrl
                  refine z_iload X d_Mod_bound_117 rfl ?_
                  refine z_if_lt (tgt := 141) X d_Mod_bound_119 (by decide) (by omega) (fun p1 => ?_) (fun p1 => ?_)
                  · have hr0 : r = 0 := by omega
                    have hfe : fr CD (k9 - 1) = k9 - 1 - r := by rw [hrl, hr0]; simp [fr]
                    refine z_iload_n X d_Mod_bound_141 rfl ?_
                    refine z_callS_I X d_Mod_bound_142 cs_Mod_70 (c_Mod_isFlag (by omega)) rfl rfl ⟨rfl, rfl⟩ rfl (fun z212 h210 hp211 => ?_)
                    obtain ⟨rfl, hh213⟩ := hp211
                    rw [hh213]
                    refine z_if_eq (tgt := 170) X d_Mod_bound_145 (by decide) (b2z_r _) (fun p6 => ?_) (fun p6 => ?_)
                    · have xg6 := b2z_eq p6
                      refine z_iconst X d_Mod_bound_170 ?_
                      exact z_ireturn X Q d_Mod_bound_171 rfl ⟨by simp [mbn, b2z, xg6, g3, g135, g138, g202, g205, g208], rfl⟩
                    · have xg6 := b2z_ne p6
                      refine z_iload_n X d_Mod_bound_148 rfl ?_
                      refine z_callS_I X d_Mod_bound_149 cs_Mod_70 (c_Mod_isFlag (by omega)) rfl rfl ⟨rfl, rfl⟩ rfl (fun z216 h214 hp215 => ?_)
                      obtain ⟨rfl, hh217⟩ := hp215
                      rw [hh217]
                      refine z_if_eq (tgt := 170) X d_Mod_bound_152 (by decide) (b2z_r _) (fun p7 => ?_) (fun p7 => ?_)
                      · have xg7 := b2z_eq p7
                        refine z_iconst X d_Mod_bound_170 ?_
                        exact z_ireturn X Q d_Mod_bound_171 rfl ⟨by simp [mbn, b2z, xg6, xg7, g3, g135, g138, g202, g205, g208], rfl⟩
                      · have xg7 := b2z_ne p7
                        refine z_iload_n X d_Mod_bound_155 rfl ?_
                        refine z_iconst X d_Mod_bound_156 ?_
                        refine z_isub X d_Mod_bound_157 ?_
                        refine z_iload X d_Mod_bound_158 rfl ?_
                        refine z_isub X d_Mod_bound_160 ?_
                        refine z_top (show _ = (((fr CD (k9 - 1)) : Nat) : Int) from (by omega)) ?_
                        refine z_iconst X d_Mod_bound_161 ?_
                        refine z_irem X d_Mod_bound_162 (by omega) (by omega) ?_
                        refine z_if_ne (tgt := 170) X d_Mod_bound_163 (by decide) (by omega) (fun p8 => ?_) (fun p8 => ?_)
                        · have xg8 : decide ((fr CD (k9 - 1)) % 2 = 0) = false := decide_eq_false (by omega)
                          refine z_iconst X d_Mod_bound_170 ?_
                          exact z_ireturn X Q d_Mod_bound_171 rfl ⟨by simp [mbn, b2z, xg6, xg7, xg8, g3, g135, g138, g202, g205, g208], rfl⟩
                        · have xg8 : decide ((fr CD (k9 - 1)) % 2 = 0) = true := decide_eq_true (by omega)
                          refine z_iconst X d_Mod_bound_166 ?_
                          refine e_goto (tgt := 171) X d_Mod_bound_167 (by decide) ?_
                          exact z_ireturn X Q d_Mod_bound_171 rfl ⟨by simp [mbn, b2z, xg6, xg7, xg8, g3, g135, g138, g202, g205, g208], rfl⟩
                  · obtain ⟨r, rfl⟩ : ∃ r9, r = r9 + 1 := ⟨r - 1, by omega⟩
                    rw [show ((r + 1 : Nat) : Int) - 1 = ((r : Nat) : Int) by omega]
                    have hrr := hcd r (by omega)
                    refine e_aload_n X d_Mod_bound_122 rfl ?_
                    refine e_get X d_Mod_bound_123 fl_Mod_33 d42 (by omega) rfl ?_
                    refine z_iload X d_Mod_bound_126 rfl ?_
                    refine z_iald X d_Mod_bound_128 (j := r) d49 (by omega) (by omega) (by omega) ?_
                    refine z_callS_I X d_Mod_bound_129 cs_Mod_70 (c_Mod_isFlag (by omega)) rfl rfl ⟨rfl, rfl⟩ rfl (fun z220 h218 hp219 => ?_)
                    obtain ⟨rfl, hh221⟩ := hp219
                    rw [hh221]
                    refine z_if_eq (tgt := 141) X d_Mod_bound_132 (by decide) (b2z_r _) (fun p3 => ?_) (fun p3 => ?_)
                    · have hfl := b2z_eq p3
                      have hfe : fr CD (k9 - 1) = k9 - 1 - (r + 1) := by rw [hrl]; simp [fr, hfl]
                      refine z_iload_n X d_Mod_bound_141 rfl ?_
                      refine z_callS_I X d_Mod_bound_142 cs_Mod_70 (c_Mod_isFlag (by omega)) rfl rfl ⟨rfl, rfl⟩ rfl (fun z224 h222 hp223 => ?_)
                      obtain ⟨rfl, hh225⟩ := hp223
                      rw [hh225]
                      refine z_if_eq (tgt := 170) X d_Mod_bound_145 (by decide) (b2z_r _) (fun p6 => ?_) (fun p6 => ?_)
                      · have xg6 := b2z_eq p6
                        refine z_iconst X d_Mod_bound_170 ?_
                        exact z_ireturn X Q d_Mod_bound_171 rfl ⟨by simp [mbn, b2z, xg6, g3, g135, g138, g202, g205, g208], rfl⟩
                      · have xg6 := b2z_ne p6
                        refine z_iload_n X d_Mod_bound_148 rfl ?_
                        refine z_callS_I X d_Mod_bound_149 cs_Mod_70 (c_Mod_isFlag (by omega)) rfl rfl ⟨rfl, rfl⟩ rfl (fun z228 h226 hp227 => ?_)
                        obtain ⟨rfl, hh229⟩ := hp227
                        rw [hh229]
                        refine z_if_eq (tgt := 170) X d_Mod_bound_152 (by decide) (b2z_r _) (fun p7 => ?_) (fun p7 => ?_)
                        · have xg7 := b2z_eq p7
                          refine z_iconst X d_Mod_bound_170 ?_
                          exact z_ireturn X Q d_Mod_bound_171 rfl ⟨by simp [mbn, b2z, xg6, xg7, g3, g135, g138, g202, g205, g208], rfl⟩
                        · have xg7 := b2z_ne p7
                          refine z_iload_n X d_Mod_bound_155 rfl ?_
                          refine z_iconst X d_Mod_bound_156 ?_
                          refine z_isub X d_Mod_bound_157 ?_
                          refine z_iload X d_Mod_bound_158 rfl ?_
                          refine z_isub X d_Mod_bound_160 ?_
                          refine z_top (show _ = (((fr CD (k9 - 1)) : Nat) : Int) from (by omega)) ?_
                          refine z_iconst X d_Mod_bound_161 ?_
                          refine z_irem X d_Mod_bound_162 (by omega) (by omega) ?_
                          refine z_if_ne (tgt := 170) X d_Mod_bound_163 (by decide) (by omega) (fun p8 => ?_) (fun p8 => ?_)
                          · have xg8 : decide ((fr CD (k9 - 1)) % 2 = 0) = false := decide_eq_false (by omega)
                            refine z_iconst X d_Mod_bound_170 ?_
                            exact z_ireturn X Q d_Mod_bound_171 rfl ⟨by simp [mbn, b2z, xg6, xg7, xg8, g3, g135, g138, g202, g205, g208], rfl⟩
                          · have xg8 : decide ((fr CD (k9 - 1)) % 2 = 0) = true := decide_eq_true (by omega)
                            refine z_iconst X d_Mod_bound_166 ?_
                            refine e_goto (tgt := 171) X d_Mod_bound_167 (by decide) ?_
                            exact z_ireturn X Q d_Mod_bound_171 rfl ⟨by simp [mbn, b2z, xg6, xg7, xg8, g3, g135, g138, g202, g205, g208], rfl⟩
                    · have hfl := b2z_ne p3
                      have hl9 : fr CD (r + 1) = fr CD r + 1 := by simp [fr, hfl]
                      refine z_iinc X d_Mod_bound_135 rfl (by decide) ?_
                      refine e_goto (tgt := 117) X d_Mod_bound_138 (by decide) ?_
                      rw [show ((r : Nat) : Int) + (-1) = ((r : Nat) : Int) - 1 by omega]
                      exact ih r (by omega) (by omega) (by omega)
              rw [show ((k9 : Nat) : Int) - 2 = ((k9 - 1 : Nat) : Int) - 1 by omega]
              exact loopB _ (k9 - 1) (Nat.lt_succ_self _) (Nat.le_refl _) (by omega)
            · have g209 : decide ((CD (k9 - 1)) = 8205) = true := decide_eq_true (by omega)
              refine z_iload_n X d_Mod_bound_62 rfl ?_
              refine z_callS_I X d_Mod_bound_63 cs_Mod_67 (c_Mod_isPicture (by omega)) rfl rfl ⟨rfl, rfl⟩ rfl (fun z232 h230 hp231 => ?_)
              obtain ⟨rfl, hh233⟩ := hp231
              rw [hh233]
              refine z_if_eq (tgt := 117) X d_Mod_bound_66 (by decide) (b2z_r _) (fun q234 => ?_) (fun q234 => ?_)
              · have g235 : (is_pic (CD k9)) = false := b2z_eq q234
                have loopB : ∀ (d9 : Nat) (r : Nat), r < d9 → r ≤ k9 - 1 → fr CD (k9 - 1) = fr CD r + (k9 - 1 - r) → Ev k G 5 N 0 0 h 117 [some (.ref (ad (g_b G) 42)), some (vI ((k9 : Nat) : Int)), some (vI (CD (k9 - 1))), some (vI (CD k9)), some (vI (((r : Nat) : Int) - 1))] [] := by
                  intro d9
                  induction d9 with
                  | zero =>
                    intro r hm9
                    exact absurd hm9 (Nat.not_lt_zero _)
                  | succ d9 ih =>
                    intro r hm9 hr1 hrl
                    refine z_iload X d_Mod_bound_117 rfl ?_
                    refine z_if_lt (tgt := 141) X d_Mod_bound_119 (by decide) (by omega) (fun p1 => ?_) (fun p1 => ?_)
                    · have hr0 : r = 0 := by omega
                      have hfe : fr CD (k9 - 1) = k9 - 1 - r := by rw [hrl, hr0]; simp [fr]
                      refine z_iload_n X d_Mod_bound_141 rfl ?_
                      refine z_callS_I X d_Mod_bound_142 cs_Mod_70 (c_Mod_isFlag (by omega)) rfl rfl ⟨rfl, rfl⟩ rfl (fun z239 h237 hp238 => ?_)
                      obtain ⟨rfl, hh240⟩ := hp238
                      rw [hh240]
                      refine z_if_eq (tgt := 170) X d_Mod_bound_145 (by decide) (b2z_r _) (fun p6 => ?_) (fun p6 => ?_)
                      · have xg6 := b2z_eq p6
                        refine z_iconst X d_Mod_bound_170 ?_
                        exact z_ireturn X Q d_Mod_bound_171 rfl ⟨by simp [mbn, b2z, xg6, g3, g135, g138, g202, g205, g209, g235], rfl⟩
                      · have xg6 := b2z_ne p6
                        refine z_iload_n X d_Mod_bound_148 rfl ?_
                        refine z_callS_I X d_Mod_bound_149 cs_Mod_70 (c_Mod_isFlag (by omega)) rfl rfl ⟨rfl, rfl⟩ rfl (fun z243 h241 hp242 => ?_)
                        obtain ⟨rfl, hh244⟩ := hp242
                        rw [hh244]
                        refine z_if_eq (tgt := 170) X d_Mod_bound_152 (by decide) (b2z_r _) (fun p7 => ?_) (fun p7 => ?_)
                        · have xg7 := b2z_eq p7
                          refine z_iconst X d_Mod_bound_170 ?_
                          exact z_ireturn X Q d_Mod_bound_171 rfl ⟨by simp [mbn, b2z, xg6, xg7, g3, g135, g138, g202, g205, g209, g235], rfl⟩
                        · have xg7 := b2z_ne p7
                          refine z_iload_n X d_Mod_bound_155 rfl ?_
                          refine z_iconst X d_Mod_bound_156 ?_
                          refine z_isub X d_Mod_bound_157 ?_
                          refine z_iload X d_Mod_bound_158 rfl ?_
                          refine z_isub X d_Mod_bound_160 ?_
                          refine z_top (show _ = (((fr CD (k9 - 1)) : Nat) : Int) from (by omega)) ?_
                          refine z_iconst X d_Mod_bound_161 ?_
                          refine z_irem X d_Mod_bound_162 (by omega) (by omega) ?_
                          refine z_if_ne (tgt := 170) X d_Mod_bound_163 (by decide) (by omega) (fun p8 => ?_) (fun p8 => ?_)
                          · have xg8 : decide ((fr CD (k9 - 1)) % 2 = 0) = false := decide_eq_false (by omega)
                            refine z_iconst X d_Mod_bound_170 ?_
                            exact z_ireturn X Q d_Mod_bound_171 rfl ⟨by simp [mbn, b2z, xg6, xg7, xg8, g3, g135, g138, g202, g205, g209, g235], rfl⟩
                          · have xg8 : decide ((fr CD (k9 - 1)) % 2 = 0) = true := decide_eq_true (by omega)
                            refine z_iconst X d_Mod_bound_166 ?_
                            refine e_goto (tgt := 171) X d_Mod_bound_167 (by decide) ?_
                            exact z_ireturn X Q d_Mod_bound_171 rfl ⟨by simp [mbn, b2z, xg6, xg7, xg8, g3, g135, g138, g202, g205, g209, g235], rfl⟩
                    · obtain ⟨r, rfl⟩ : ∃ r9, r = r9 + 1 := ⟨r - 1, by omega⟩
                      rw [show ((r + 1 : Nat) : Int) - 1 = ((r : Nat) : Int) by omega]
                      have hrr := hcd r (by omega)
                      refine e_aload_n X d_Mod_bound_122 rfl ?_
                      refine e_get X d_Mod_bound_123 fl_Mod_33 d42 (by omega) rfl ?_
                      refine z_iload X d_Mod_bound_126 rfl ?_
                      refine z_iald X d_Mod_bound_128 (j := r) d49 (by omega) (by omega) (by omega) ?_
                      refine z_callS_I X d_Mod_bound_129 cs_Mod_70 (c_Mod_isFlag (by omega)) rfl rfl ⟨rfl, rfl⟩ rfl (fun z247 h245 hp246 => ?_)
                      obtain ⟨rfl, hh248⟩ := hp246
                      rw [hh248]
                      refine z_if_eq (tgt := 141) X d_Mod_bound_132 (by decide) (b2z_r _) (fun p3 => ?_) (fun p3 => ?_)
                      · have hfl := b2z_eq p3
                        have hfe : fr CD (k9 - 1) = k9 - 1 - (r + 1) := by rw [hrl]; simp [fr, hfl]
                        refine z_iload_n X d_Mod_bound_141 rfl ?_
                        refine z_callS_I X d_Mod_bound_142 cs_Mod_70 (c_Mod_isFlag (by omega)) rfl rfl ⟨rfl, rfl⟩ rfl (fun z251 h249 hp250 => ?_)
                        obtain ⟨rfl, hh252⟩ := hp250
                        rw [hh252]
                        refine z_if_eq (tgt := 170) X d_Mod_bound_145 (by decide) (b2z_r _) (fun p6 => ?_) (fun p6 => ?_)
                        · have xg6 := b2z_eq p6
                          refine z_iconst X d_Mod_bound_170 ?_
                          exact z_ireturn X Q d_Mod_bound_171 rfl ⟨by simp [mbn, b2z, xg6, g3, g135, g138, g202, g205, g209, g235], rfl⟩
                        · have xg6 := b2z_ne p6
                          refine z_iload_n X d_Mod_bound_148 rfl ?_
                          refine z_callS_I X d_Mod_bound_149 cs_Mod_70 (c_Mod_isFlag (by omega)) rfl rfl ⟨rfl, rfl⟩ rfl (fun z255 h253 hp254 => ?_)
                          obtain ⟨rfl, hh256⟩ := hp254
                          rw [hh256]
                          refine z_if_eq (tgt := 170) X d_Mod_bound_152 (by decide) (b2z_r _) (fun p7 => ?_) (fun p7 => ?_)
                          · have xg7 := b2z_eq p7
                            refine z_iconst X d_Mod_bound_170 ?_
                            exact z_ireturn X Q d_Mod_bound_171 rfl ⟨by simp [mbn, b2z, xg6, xg7, g3, g135, g138, g202, g205, g209, g235], rfl⟩
                          · have xg7 := b2z_ne p7
                            refine z_iload_n X d_Mod_bound_155 rfl ?_
                            refine z_iconst X d_Mod_bound_156 ?_
                            refine z_isub X d_Mod_bound_157 ?_
                            refine z_iload X d_Mod_bound_158 rfl ?_
                            refine z_isub X d_Mod_bound_160 ?_
                            refine z_top (show _ = (((fr CD (k9 - 1)) : Nat) : Int) from (by omega)) ?_
                            refine z_iconst X d_Mod_bound_161 ?_
                            refine z_irem X d_Mod_bound_162 (by omega) (by omega) ?_
                            refine z_if_ne (tgt := 170) X d_Mod_bound_163 (by decide) (by omega) (fun p8 => ?_) (fun p8 => ?_)
                            · have xg8 : decide ((fr CD (k9 - 1)) % 2 = 0) = false := decide_eq_false (by omega)
                              refine z_iconst X d_Mod_bound_170 ?_
                              exact z_ireturn X Q d_Mod_bound_171 rfl ⟨by simp [mbn, b2z, xg6, xg7, xg8, g3, g135, g138, g202, g205, g209, g235], rfl⟩
                            · have xg8 : decide ((fr CD (k9 - 1)) % 2 = 0) = true := decide_eq_true (by omega)
                              refine z_iconst X d_Mod_bound_166 ?_
                              refine e_goto (tgt := 171) X d_Mod_bound_167 (by decide) ?_
                              exact z_ireturn X Q d_Mod_bound_171 rfl ⟨by simp [mbn, b2z, xg6, xg7, xg8, g3, g135, g138, g202, g205, g209, g235], rfl⟩
                      · have hfl := b2z_ne p3
                        have hl9 : fr CD (r + 1) = fr CD r + 1 := by simp [fr, hfl]
                        refine z_iinc X d_Mod_bound_135 rfl (by decide) ?_
                        refine e_goto (tgt := 117) X d_Mod_bound_138 (by decide) ?_
                        rw [show ((r : Nat) : Int) + (-1) = ((r : Nat) : Int) - 1 by omega]
                        exact ih r (by omega) (by omega) (by omega)
                rw [show ((k9 : Nat) : Int) - 2 = ((k9 - 1 : Nat) : Int) - 1 by omega]
                exact loopB _ (k9 - 1) (Nat.lt_succ_self _) (Nat.le_refl _) (by omega)
              · have g236 : (is_pic (CD k9)) = true := b2z_ne q234
                have loopA : ∀ (d9 : Nat) (r : Nat), r < d9 → r ≤ k9 - 1 → ld CD (k9 - 1) = ld CD r → Ev k G 5 N 0 0 h 69 [some (.ref (ad (g_b G) 42)), some (vI ((k9 : Nat) : Int)), some (vI (CD (k9 - 1))), some (vI (CD k9)), some (vI (((r : Nat) : Int) - 1))] [] := by
                  intro d9
                  induction d9 with
                  | zero =>
                    intro r hm9
                    exact absurd hm9 (Nat.not_lt_zero _)
                  | succ d9 ih =>
                    intro r hm9 hr1 hrl
                    refine z_iload X d_Mod_bound_69 rfl ?_
                    refine z_if_lt (tgt := 93) X d_Mod_bound_71 (by decide) (by omega) (fun p1 => ?_) (fun p1 => ?_)
                    · have hr0 : r = 0 := by omega
                      subst hr0
                      refine z_iload X d_Mod_bound_93 rfl ?_
                      refine z_if_lt (tgt := 115) X d_Mod_bound_95 (by decide) (by omega) (fun p2 => ?_) (fun p2 => ?_)
                      · refine z_iconst X d_Mod_bound_115 ?_
                        have hl0 : ld CD 0 = -1 := rfl
                        have hpn : is_pic (-1) = false := by decide
                        exact z_ireturn X Q d_Mod_bound_116 rfl ⟨by simp [mbn, b2z, hrl, hl0, hpn, g3, g135, g138, g202, g205, g209, g236], rfl⟩
                      · omega
                    · obtain ⟨r, rfl⟩ : ∃ r9, r = r9 + 1 := ⟨r - 1, by omega⟩
                      rw [show ((r + 1 : Nat) : Int) - 1 = ((r : Nat) : Int) by omega]
                      have hrr := hcd r (by omega)
                      refine e_aload_n X d_Mod_bound_74 rfl ?_
                      refine e_get X d_Mod_bound_75 fl_Mod_33 d42 (by omega) rfl ?_
                      refine z_iload X d_Mod_bound_78 rfl ?_
                      refine z_iald X d_Mod_bound_80 (j := r) d49 (by omega) (by omega) (by omega) ?_
                      refine z_callS_I X d_Mod_bound_81 cs_Mod_63 (c_Mod_isMark (by omega)) rfl rfl ⟨rfl, rfl⟩ rfl (fun z259 h257 hp258 => ?_)
                      obtain ⟨rfl, hh260⟩ := hp258
                      rw [hh260]
                      refine z_if_eq (tgt := 93) X d_Mod_bound_84 (by decide) (b2z_r _) (fun p3 => ?_) (fun p3 => ?_)
                      · have hmk := b2z_eq p3
                        have hl9 : ld CD (r + 1) = CD r := by simp [ld, hmk]
                        refine z_iload X d_Mod_bound_93 rfl ?_
                        refine z_if_lt (tgt := 115) X d_Mod_bound_95 (by decide) (by omega) (fun p4 => ?_) (fun p4 => ?_)
                        · omega
                        · refine e_aload_n X d_Mod_bound_98 rfl ?_
                          refine e_get X d_Mod_bound_99 fl_Mod_33 d42 (by omega) rfl ?_
                          refine z_iload X d_Mod_bound_102 rfl ?_
                          refine z_iald X d_Mod_bound_104 (j := r) d49 (by omega) (by omega) (by omega) ?_
                          refine z_callS_I X d_Mod_bound_105 cs_Mod_67 (c_Mod_isPicture (by omega)) rfl rfl ⟨rfl, rfl⟩ rfl (fun z263 h261 hp262 => ?_)
                          obtain ⟨rfl, hh264⟩ := hp262
                          rw [hh264]
                          refine z_if_eq (tgt := 115) X d_Mod_bound_108 (by decide) (b2z_r _) (fun p5 => ?_) (fun p5 => ?_)
                          · refine z_iconst X d_Mod_bound_115 ?_
                            have hp9 := b2z_eq p5
                            exact z_ireturn X Q d_Mod_bound_116 rfl ⟨by simp [mbn, b2z, hrl, hl9, hp9, g3, g135, g138, g202, g205, g209, g236], rfl⟩
                          · refine z_iconst X d_Mod_bound_111 ?_
                            refine e_goto (tgt := 116) X d_Mod_bound_112 (by decide) ?_
                            have hp9 := b2z_ne p5
                            exact z_ireturn X Q d_Mod_bound_116 rfl ⟨by simp [mbn, b2z, hrl, hl9, hp9, g3, g135, g138, g202, g205, g209, g236], rfl⟩
                      · have hmk := b2z_ne p3
                        have hl9 : ld CD (r + 1) = ld CD r := by simp [ld, hmk]
                        refine z_iinc X d_Mod_bound_87 rfl (by decide) ?_
                        refine e_goto (tgt := 69) X d_Mod_bound_90 (by decide) ?_
                        rw [show ((r : Nat) : Int) + (-1) = ((r : Nat) : Int) - 1 by omega]
                        exact ih r (by omega) (by omega) (hrl.trans hl9)
                rw [show ((k9 : Nat) : Int) - 2 = ((k9 - 1 : Nat) : Int) - 1 by omega]
                exact loopA _ (k9 - 1) (Nat.lt_succ_self _) (Nat.le_refl _) rfl
          · have g206 : decide ((CD k9) = 8205) = true := decide_eq_true (by omega)
            refine z_iconst X d_Mod_bound_48 ?_
            exact z_ireturn X Q d_Mod_bound_49 rfl ⟨by simp [mbn, b2z, g3, g135, g138, g202, g206], rfl⟩

theorem bg2_s {n : Nat} {t : Nat → Int} {j : Nat} (h : j + 1 ≤ n) : bg2 n t (j + 1) = (decide (t j = 10) || (decide (t j = 13) && !decide (t (j + 1) = 10))) := by
  unfold bg2
  rw [decide_eq_true h, decide_eq_false (show ¬ j + 1 = 0 by omega), Bool.true_and, Bool.false_or]
  show (decide (t j = 10) || (decide (t j = 13) && decide (t (j + 1) ≠ 10))) = _
  rw [show decide (t (j + 1) ≠ 10) = !decide (t (j + 1) = 10) from decide_not]
set_option maxRecDepth 100000 in
set_option maxHeartbeats 4000000 in
theorem c_Mod_findLines {l : Launch} {G : lx_G} {N : Nat} {h : Nat → va_E} {U Ls K C : Nat → Int} {now last cl g o en : Int} {Md : Nat → Int} {ml pts : Int} {PP CD PL AT : Nat → Int} {s n : Nat} {t : Nat → Int} (hM : MC G h U Ls K C now last cl g o en Md ml pts ((0 : Nat) : Int) PP CD PL AT) (hN : 52 ≤ N) (hs13 : s < 13) (hS : Sl U Ls s (n, t)) : CtV l G m_Mod_findLines N [.ref (ad (g_b G) 42), vI ((s : Nat) : Int)] h (fun h' => (∃ PL', MC G h' U Ls K C now last cl g o en Md ml pts ((cnt (bg2 n t) (n + 1) : Nat) : Int) PP CD PL' AT ∧ sel (bg2 n t) (n + 1) PL') ∧ ∀ q, (q < 42 ∨ 52 ≤ q) → h' q = h q) := by
  refine zV_of (by decide) rfl rfl ?_
  intro k X Q
  have X : Cx k G R_Mod b_Mod_findLines 6 rm_Mod_findLines := X
  have Q : Rt k G none N 0 0 (pV (fun h' => (∃ PL', MC G h' U Ls K C now last cl g o en Md ml pts ((cnt (bg2 n t) (n + 1) : Nat) : Int) PP CD PL' AT ∧ sel (bg2 n t) (n + 1) PL') ∧ ∀ q, (q < 42 ∨ 52 ≤ q) → h' q = h q)) := Q
  show Ev k G 6 N 0 0 h 0 [some (.ref (ad (g_b G) 42)), some (vI ((s : Nat) : Int)), none, none, none, none] []
  obtain ⟨d42, d43, d44, d45, d46, d47, d48, d49, d50, d51⟩ := id hM
  obtain ⟨hl0, hl1, hl2, ht⟩ := hS
  dsimp only at hl0 hl1 hl2 ht
  refine e_aload_n X d_Mod_findLines_0 rfl ?_
  refine e_get X d_Mod_findLines_1 fl_Mod_13 d42 (by omega) rfl ?_
  refine z_iload_n X d_Mod_findLines_4 rfl ?_
  refine z_iald X d_Mod_findLines_5 (j := s) d44 (by omega) (by omega) (by omega) ?_
  refine z_top (show _ = ((n : Nat) : Int) from hl0) ?_
  refine e_istore_n X d_Mod_findLines_6 (by decide) ?_
  refine e_aload_n X d_Mod_findLines_7 rfl ?_
  refine z_iconst X d_Mod_findLines_8 ?_
  refine z_callV_V X d_Mod_findLines_9 cv_Mod_76 (c_Mod_begin (it := 0) (a := 0) hM hN (by omega)) d42 (by omega) rfl rfl ⟨rfl, rfl⟩ rfl (fun h1 hp2 => ?_)
  obtain ⟨hM1, hf1⟩ := hp2
  have hb0 : bg2 n t 0 = true := by simp [bg2]
  refine z_iconst X d_Mod_findLines_12 ?_
  refine e_istore_n X d_Mod_findLines_13 (by decide) ?_
  have loop : ∀ (d9 : Nat) (k9 : Nat) (PL1 : Nat → Int) (h2 : Nat → va_E), n + 1 - k9 < d9 → 1 ≤ k9 ∧ k9 ≤ n + 1 → MC G h2 U Ls K C now last cl g o en Md ml pts ((cnt (bg2 n t) k9 : Nat) : Int) PP CD PL1 AT → sel (bg2 n t) k9 PL1 → (∀ q, (q < 42 ∨ 52 ≤ q) → h2 q = h q) → Ev k G 6 N 0 0 h2 14 [some (.ref (ad (g_b G) 42)), some (vI ((s : Nat) : Int)), some (vI ((n : Nat) : Int)), some (vI ((k9 : Nat) : Int)), none, none] [] := by
    intro d9
    induction d9 with
    | zero =>
      intro k9 PL1 h2 hm9
      exact absurd hm9 (Nat.not_lt_zero _)
    | succ d9 ih =>
      intro k9 PL1 h2 hm9 hk hM2 hs1 hf
      have hcl := cnt_le (B := (bg2 n t)) k9
      obtain ⟨d42b, d43b, d44b, d45b, d46b, d47b, d48b, d49b, d50b, d51b⟩ := id hM2
      refine z_iload_n X d_Mod_findLines_14 rfl ?_
      refine z_iload_n X d_Mod_findLines_15 rfl ?_
      refine z_icmp_gt (tgt := 90) X d_Mod_findLines_16 (by decide) (by omega) (fun q1 => ?_) (fun q1 => ?_)
      · have hkn : k9 = n + 1 := by omega
        subst hkn
        exact z_return X Q d_Mod_findLines_90 ⟨⟨PL1, hM2, hs1⟩, hf⟩
      · obtain ⟨j, rfl⟩ : ∃ j, k9 = j + 1 := ⟨k9 - 1, by omega⟩
        have hr1 := ht.1 j (by omega)
        have hr2 := tx_ge ht (j + 1)
        refine e_aload_n X d_Mod_findLines_19 rfl ?_
        refine e_get X d_Mod_findLines_20 fl_Mod_7 d42b (by omega) rfl ?_
        refine z_sipush X d_Mod_findLines_23 (by decide) ?_
        refine z_iload_n X d_Mod_findLines_26 rfl ?_
        refine z_imul X d_Mod_findLines_27 ?_
        refine z_iload_n X d_Mod_findLines_28 rfl ?_
        refine z_iadd X d_Mod_findLines_29 ?_
        refine z_iconst X d_Mod_findLines_30 ?_
        refine z_isub X d_Mod_findLines_31 ?_
        refine z_top (show _ = ((160 * s + j : Nat) : Int) by omega) ?_
        refine z_iald X d_Mod_findLines_32 (j := (160 * s + j)) d43b (by omega) (by omega) (by omega) ?_
        refine z_top (show _ = (t j) from hl2 j (by omega)) ?_
        refine e_istore X d_Mod_findLines_33 (by decide) ?_
        refine z_iload_n X d_Mod_findLines_35 rfl ?_
        refine z_iload_n X d_Mod_findLines_36 rfl ?_
        refine z_icmp_ge (tgt := 55) X d_Mod_findLines_37 (by decide) (by omega) (fun q2 => ?_) (fun q2 => ?_)
        · have htn : t (j + 1) = -1 := ht.2 _ (by omega)
          refine z_iconst X d_Mod_findLines_55 ?_
          refine e_istore X d_Mod_findLines_56 (by decide) ?_
          refine z_iload X d_Mod_findLines_58 rfl ?_
          refine z_bipush X d_Mod_findLines_60 (by decide) ?_
          refine z_icmp_eq (tgt := 79) X d_Mod_findLines_62 (by decide) (by omega) (fun q4 => ?_) (fun q4 => ?_)
          · have g5 : decide (t j = 10) = true := decide_eq_true (by omega)
            have hb : bg2 n t (j + 1) = true := by rw [bg2_s (by omega), g5]; rfl
            refine e_aload_n X d_Mod_findLines_79 rfl ?_
            refine z_iload_n X d_Mod_findLines_80 rfl ?_
            refine z_callV_V X d_Mod_findLines_81 cv_Mod_76 (c_Mod_begin hM2 hN (by omega)) d42b (by omega) rfl rfl ⟨rfl, rfl⟩ rfl (fun h7 hp8 => ?_)
            obtain ⟨hM3, hf3⟩ := hp8
            refine z_iinc X d_Mod_findLines_84 rfl (by decide) ?_
            refine e_goto (tgt := 14) X d_Mod_findLines_87 (by decide) ?_
            refine e_clear 4 ?_
            refine e_clear 5 ?_
            exact ih (j + 1 + 1) _ _ (by omega) (by omega) (by rw [cnt_t hb]; exact hM3) (sel_t hs1 hb) (fun q q1 => (hf3 q q1).trans (hf q q1))
          · have g6 : decide (t j = 10) = false := decide_eq_false (by omega)
            refine z_iload X d_Mod_findLines_65 rfl ?_
            refine z_bipush X d_Mod_findLines_67 (by decide) ?_
            refine z_icmp_ne (tgt := 84) X d_Mod_findLines_69 (by decide) (by omega) (fun q10 => ?_) (fun q10 => ?_)
            · have g11 : decide (t j = 13) = false := decide_eq_false (by omega)
              have hb : bg2 n t (j + 1) = false := by rw [bg2_s (by omega), g6, g11]; rfl
              refine z_iinc X d_Mod_findLines_84 rfl (by decide) ?_
              refine e_goto (tgt := 14) X d_Mod_findLines_87 (by decide) ?_
              refine e_clear 4 ?_
              refine e_clear 5 ?_
              exact ih (j + 1 + 1) _ _ (by omega) (by omega) (by rw [cnt_f hb]; exact hM2) (sel_f hs1 hb) hf
            · have g12 : decide (t j = 13) = true := decide_eq_true (by omega)
              refine z_iload X d_Mod_findLines_72 rfl ?_
              refine z_bipush X d_Mod_findLines_74 (by decide) ?_
              refine z_icmp_eq (tgt := 84) X d_Mod_findLines_76 (by decide) (by omega) (fun q13 => ?_) (fun q13 => ?_)
              · have g14 : decide (t (j + 1) = 10) = true := decide_eq_true (by omega)
                have hb : bg2 n t (j + 1) = false := by rw [bg2_s (by omega), g6, g12, g14]; rfl
                refine z_iinc X d_Mod_findLines_84 rfl (by decide) ?_
                refine e_goto (tgt := 14) X d_Mod_findLines_87 (by decide) ?_
                refine e_clear 4 ?_
                refine e_clear 5 ?_
                exact ih (j + 1 + 1) _ _ (by omega) (by omega) (by rw [cnt_f hb]; exact hM2) (sel_f hs1 hb) hf
              · have g15 : decide (t (j + 1) = 10) = false := decide_eq_false (by omega)
                have hb : bg2 n t (j + 1) = true := by rw [bg2_s (by omega), g6, g12, g15]; rfl
                refine e_aload_n X d_Mod_findLines_79 rfl ?_
                refine z_iload_n X d_Mod_findLines_80 rfl ?_
                refine z_callV_V X d_Mod_findLines_81 cv_Mod_76 (c_Mod_begin hM2 hN (by omega)) d42b (by omega) rfl rfl ⟨rfl, rfl⟩ rfl (fun h16 hp17 => ?_)
                obtain ⟨hM3, hf3⟩ := hp17
                refine z_iinc X d_Mod_findLines_84 rfl (by decide) ?_
                refine e_goto (tgt := 14) X d_Mod_findLines_87 (by decide) ?_
                refine e_clear 4 ?_
                refine e_clear 5 ?_
                exact ih (j + 1 + 1) _ _ (by omega) (by omega) (by rw [cnt_t hb]; exact hM3) (sel_t hs1 hb) (fun q q1 => (hf3 q q1).trans (hf q q1))
        · refine e_aload_n X d_Mod_findLines_40 rfl ?_
          refine e_get X d_Mod_findLines_41 fl_Mod_7 d42b (by omega) rfl ?_
          refine z_sipush X d_Mod_findLines_44 (by decide) ?_
          refine z_iload_n X d_Mod_findLines_47 rfl ?_
          refine z_imul X d_Mod_findLines_48 ?_
          refine z_iload_n X d_Mod_findLines_49 rfl ?_
          refine z_iadd X d_Mod_findLines_50 ?_
          refine z_iald X d_Mod_findLines_51 (j := ((160 * s) + (j + 1))) d43b (by omega) (by omega) (by omega) ?_
          refine z_top (show _ = (t (j + 1)) from hl2 (j + 1) (by omega)) ?_
          refine e_goto (tgt := 56) X d_Mod_findLines_52 (by decide) ?_
          refine e_istore X d_Mod_findLines_56 (by decide) ?_
          refine z_iload X d_Mod_findLines_58 rfl ?_
          refine z_bipush X d_Mod_findLines_60 (by decide) ?_
          refine z_icmp_eq (tgt := 79) X d_Mod_findLines_62 (by decide) (by omega) (fun q19 => ?_) (fun q19 => ?_)
          · have g20 : decide (t j = 10) = true := decide_eq_true (by omega)
            have hb : bg2 n t (j + 1) = true := by rw [bg2_s (by omega), g20]; rfl
            refine e_aload_n X d_Mod_findLines_79 rfl ?_
            refine z_iload_n X d_Mod_findLines_80 rfl ?_
            refine z_callV_V X d_Mod_findLines_81 cv_Mod_76 (c_Mod_begin hM2 hN (by omega)) d42b (by omega) rfl rfl ⟨rfl, rfl⟩ rfl (fun h22 hp23 => ?_)
            obtain ⟨hM3, hf3⟩ := hp23
            refine z_iinc X d_Mod_findLines_84 rfl (by decide) ?_
            refine e_goto (tgt := 14) X d_Mod_findLines_87 (by decide) ?_
            refine e_clear 4 ?_
            refine e_clear 5 ?_
            exact ih (j + 1 + 1) _ _ (by omega) (by omega) (by rw [cnt_t hb]; exact hM3) (sel_t hs1 hb) (fun q q1 => (hf3 q q1).trans (hf q q1))
          · have g21 : decide (t j = 10) = false := decide_eq_false (by omega)
            refine z_iload X d_Mod_findLines_65 rfl ?_
            refine z_bipush X d_Mod_findLines_67 (by decide) ?_
            refine z_icmp_ne (tgt := 84) X d_Mod_findLines_69 (by decide) (by omega) (fun q25 => ?_) (fun q25 => ?_)
            · have g26 : decide (t j = 13) = false := decide_eq_false (by omega)
              have hb : bg2 n t (j + 1) = false := by rw [bg2_s (by omega), g21, g26]; rfl
              refine z_iinc X d_Mod_findLines_84 rfl (by decide) ?_
              refine e_goto (tgt := 14) X d_Mod_findLines_87 (by decide) ?_
              refine e_clear 4 ?_
              refine e_clear 5 ?_
              exact ih (j + 1 + 1) _ _ (by omega) (by omega) (by rw [cnt_f hb]; exact hM2) (sel_f hs1 hb) hf
            · have g27 : decide (t j = 13) = true := decide_eq_true (by omega)
              refine z_iload X d_Mod_findLines_72 rfl ?_
              refine z_bipush X d_Mod_findLines_74 (by decide) ?_
              refine z_icmp_eq (tgt := 84) X d_Mod_findLines_76 (by decide) (by omega) (fun q28 => ?_) (fun q28 => ?_)
              · have g29 : decide (t (j + 1) = 10) = true := decide_eq_true (by omega)
                have hb : bg2 n t (j + 1) = false := by rw [bg2_s (by omega), g21, g27, g29]; rfl
                refine z_iinc X d_Mod_findLines_84 rfl (by decide) ?_
                refine e_goto (tgt := 14) X d_Mod_findLines_87 (by decide) ?_
                refine e_clear 4 ?_
                refine e_clear 5 ?_
                exact ih (j + 1 + 1) _ _ (by omega) (by omega) (by rw [cnt_f hb]; exact hM2) (sel_f hs1 hb) hf
              · have g30 : decide (t (j + 1) = 10) = false := decide_eq_false (by omega)
                have hb : bg2 n t (j + 1) = true := by rw [bg2_s (by omega), g21, g27, g30]; rfl
                refine e_aload_n X d_Mod_findLines_79 rfl ?_
                refine z_iload_n X d_Mod_findLines_80 rfl ?_
                refine z_callV_V X d_Mod_findLines_81 cv_Mod_76 (c_Mod_begin hM2 hN (by omega)) d42b (by omega) rfl rfl ⟨rfl, rfl⟩ rfl (fun h31 hp32 => ?_)
                obtain ⟨hM3, hf3⟩ := hp32
                refine z_iinc X d_Mod_findLines_84 rfl (by decide) ?_
                refine e_goto (tgt := 14) X d_Mod_findLines_87 (by decide) ?_
                refine e_clear 4 ?_
                refine e_clear 5 ?_
                exact ih (j + 1 + 1) _ _ (by omega) (by omega) (by rw [cnt_t hb]; exact hM3) (sel_t hs1 hb) (fun q q1 => (hf3 q q1).trans (hf q q1))
  exact loop _ 1 _ _ (Nat.lt_succ_self _) (by omega) (by rw [show cnt (bg2 n t) 1 = 0 + 1 from cnt_t hb0]; exact hM1) (by have h9 := sel_t (B := (bg2 n t)) (p := 0) (f := PL) (fun q hq => absurd hq (Nat.not_lt_zero _)) hb0; exact h9) (fun q q1 => hf1 q q1)

