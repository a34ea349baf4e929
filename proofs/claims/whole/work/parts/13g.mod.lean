set_option maxRecDepth 100000 in
set_option maxHeartbeats 4000000 in
theorem c_Mod_insert {l : Launch} {G : lx_G} {N : Nat} {h : Nat → va_E} {now last : Nat} {T : Nat → tx_T} {c : Nat} {p : Nat → Int} {kp : Nat → Bool} {V : Nat → tx_T} {g o en : Int} {n : Nat} {t : Nat → Int} {a : Int} (hD : MD G h now last T c p kp V g o en) (hN : 52 ≤ N) (hnt : T now = (n, t)) (hr_a : -2147483648 ≤ a ∧ a < 2147483648) : CtI l G m_Mod_insert N [.ref (ad (g_b G) 42), vI (a)] h (fun z h' => (ctk g n t c a a = true ∧ z = 1 ∧ MD G h' (hn (ctp c p && decide (a = o)) now) (hl (ctp c p && decide (a = o)) now last) (hT (ctp c p && decide (a = o)) now T (n + c, tx_ed t a.toNat a.toNat c p)) c p kp V g (if ctp c p then a + 1 else -1) en ∧ (∀ q, (q < 42 ∨ 52 ≤ q) → h' q = h q)) ∨ (ctk g n t c a a = false ∧ z = 0 ∧ MD G h' now last T c p kp V g o en ∧ (∀ q, (q < 42 ∨ 52 ≤ q) → h' q = h q))) := by
  obtain ⟨U, Ls, K, C, Md, ml, pts, its, PP, CD, PL, AT, hM, hsl, hsv, hK, hC, hcx, hc24, hnl, hgg, hoo, hee⟩ := hD
  have hS := hsl now hnl.1
  rw [hnt] at hS
  have hl1 := hS.2.1
  have htx := hS.2.2.2
  dsimp only at hl1 htx
  refine zI_of (by decide) rfl rfl ?_
  intro k X Q
  have X : Cx k G R_Mod b_Mod_insert 3 rm_Mod_insert := X
  have Q : Rt k G (some (.boolean)) N 0 0 (pI (fun z h' => (ctk g n t c a a = true ∧ z = 1 ∧ MD G h' (hn (ctp c p && decide (a = o)) now) (hl (ctp c p && decide (a = o)) now last) (hT (ctp c p && decide (a = o)) now T (n + c, tx_ed t a.toNat a.toNat c p)) c p kp V g (if ctp c p then a + 1 else -1) en ∧ (∀ q, (q < 42 ∨ 52 ≤ q) → h' q = h q)) ∨ (ctk g n t c a a = false ∧ z = 0 ∧ MD G h' now last T c p kp V g o en ∧ (∀ q, (q < 42 ∨ 52 ≤ q) → h' q = h q)))) := Q
  show Ev k G 3 N 0 0 h 0 [some (.ref (ad (g_b G) 42)), some (vI (a)), none] []
  obtain ⟨d42, d43, d44, d45, d46, d47, d48, d49, d50, d51⟩ := id hM
  refine e_aload_n X d_Mod_insert_0 rfl ?_
  refine z_iload_n X d_Mod_insert_1 rfl ?_
  refine z_callV_I X d_Mod_insert_2 cv_Mod_108 (c_Mod_isPlace hM hN (by omega) hS hr_a) d42 (by omega) rfl rfl ⟨rfl, rfl⟩ rfl (fun z3 h1 hp2 => ?_)
  obtain ⟨rfl, hh4⟩ := hp2
  rw [hh4]
  refine z_if_eq (tgt := 43) X d_Mod_insert_5 (by decide) (b2z_r _) (fun q1 => ?_) (fun q1 => ?_)
  · have g1 := b2z_eq q1
    simp at g1
    refine z_iconst X d_Mod_insert_43 ?_
    exact z_ireturn X Q d_Mod_insert_44 rfl (Or.inr ⟨by unfold ctk ced; rw [decide_eq_false (show ¬ (0 ≤ a ∧ a ≤ a ∧ a ≤ ((n : Nat) : Int)) by omega)]; simp, rfl, ⟨_, _, _, _, _, _, _, _, _, _, _, _, hM, hsl, hsv, hK, hC, hcx, hc24, hnl, hgg, hoo, hee⟩, fun q _ => rfl⟩)
  · have g1 := b2z_ne q1
    simp only [Bool.and_eq_true, decide_eq_true_eq] at g1
    refine e_aload_n X d_Mod_insert_8 rfl ?_
    refine e_get X d_Mod_insert_9 fl_Mod_45 d42 (by omega) rfl ?_
    refine z_if_eq (tgt := 43) X d_Mod_insert_12 (by decide) (by omega) (fun q2 => ?_) (fun q2 => ?_)
    · refine z_iconst X d_Mod_insert_43 ?_
      exact z_ireturn X Q d_Mod_insert_44 rfl (Or.inr ⟨by unfold ctk; rw [decide_eq_false (show ¬ 0 < c by omega)]; simp, rfl, ⟨_, _, _, _, _, _, _, _, _, _, _, _, hM, hsl, hsv, hK, hC, hcx, hc24, hnl, hgg, hoo, hee⟩, fun q _ => rfl⟩)
    · refine e_aload_n X d_Mod_insert_15 rfl ?_
      refine e_get X d_Mod_insert_16 fl_Mod_13 d42 (by omega) rfl ?_
      refine e_aload_n X d_Mod_insert_19 rfl ?_
      refine e_get X d_Mod_insert_20 fl_Mod_48 d42 (by omega) rfl ?_
      refine z_iald X d_Mod_insert_23 (j := now) d44 (by omega) (by omega) (by omega) ?_
      refine z_top (show _ = ((n : Nat) : Int) from hS.1) ?_
      refine e_aload_n X d_Mod_insert_24 rfl ?_
      refine e_get X d_Mod_insert_25 fl_Mod_45 d42 (by omega) rfl ?_
      refine z_iadd X d_Mod_insert_28 ?_
      refine z_sipush X d_Mod_insert_29 (by decide) ?_
      refine z_icmp_gt (tgt := 43) X d_Mod_insert_32 (by decide) (by omega) (fun q3 => ?_) (fun q3 => ?_)
      · refine z_iconst X d_Mod_insert_43 ?_
        exact z_ireturn X Q d_Mod_insert_44 rfl (Or.inr ⟨by unfold ctk; rw [decide_eq_false (show ¬ ((n : Nat) : Int) - (a - a) + ((c : Nat) : Int) ≤ 160 by omega)]; simp, rfl, ⟨_, _, _, _, _, _, _, _, _, _, _, _, hM, hsl, hsv, hK, hC, hcx, hc24, hnl, hgg, hoo, hee⟩, fun q _ => rfl⟩)
      · obtain ⟨i, rfl⟩ : ∃ i : Nat, a = (i : Int) := ⟨a.toNat, by omega⟩
        refine e_aload_n X d_Mod_insert_35 rfl ?_
        refine z_iload_n X d_Mod_insert_36 rfl ?_
        refine z_callV_I X d_Mod_insert_37 cv_Mod_111 (c_Mod_lets hM hN (by omega) hS hgg (by omega)) d42 (by omega) rfl rfl ⟨rfl, rfl⟩ rfl (fun z7 h5 hp6 => ?_)
        obtain ⟨rfl, ⟨ptl, itl, PPl, CDl, PLl, hMl⟩, hfl⟩ := hp6
        obtain ⟨d42l, d43l, d44l, d45l, d46l, d47l, d48l, d49l, d50l, d51l⟩ := id hMl
        have hgl : ∀ q, (q < 42 ∨ 52 ≤ q) → h5 q = h q := fun q q1 => hfl q q1
        refine z_if_ne (tgt := 45) X d_Mod_insert_40 (by decide) (b2z_r _) (fun q4 => ?_) (fun q4 => ?_)
        · have hck : ctk g n t c ((i : Nat) : Int) ((i : Nat) : Int) = true := by unfold ctk ced; rw [b2z_ne q4, decide_eq_true (show 0 < c by omega), decide_eq_true (show (0 ≤ ((i : Nat) : Int) ∧ ((i : Nat) : Int) ≤ ((i : Nat) : Int) ∧ ((i : Nat) : Int) ≤ ((n : Nat) : Int)) by omega), decide_eq_true (show ((n : Nat) : Int) - (((i : Nat) : Int) - ((i : Nat) : Int)) + ((c : Nat) : Int) ≤ 160 by omega)]; rfl
          have J1 : Ev k G 3 N 0 0 h5 80 [some (.ref (ad (g_b G) 42)), some (vI ((i : Nat) : Int)), none] [vI (b2z (ctp c p))] := by
            refine e_istore_n X d_Mod_insert_80 (by decide) ?_
            refine e_aload_n X d_Mod_insert_81 rfl ?_
            refine z_iload_n X d_Mod_insert_82 rfl ?_
            refine z_iload_n X d_Mod_insert_83 rfl ?_
            refine e_aload_n X d_Mod_insert_84 rfl ?_
            refine e_get X d_Mod_insert_85 fl_Mod_45 d42l (by omega) rfl ?_
            refine z_callV_V X d_Mod_insert_88 cv_Mod_114 (c_Mod_make (p := p) hMl hN (by omega) hS (by omega) hc24 hC (by omega)) d42l (by omega) rfl rfl ⟨rfl, rfl⟩ rfl (fun h8 hp9 => ?_)
            obtain ⟨⟨Md1, hM1, hx1⟩, hf1⟩ := hp9
            rw [Nat.sub_self, Nat.sub_zero] at hM1 hx1
            obtain ⟨d42m, d43m, d44m, d45m, d46m, d47m, d48m, d49m, d50m, d51m⟩ := id hM1
            have htx1 : tx_ok (n + c) (tx_ed t i i c p) := by have h9 := tx_ed_ok (c := c) (p := p) htx (Nat.le_refl i) (by omega) hcx.1; rw [Nat.sub_self, Nat.sub_zero] at h9; exact h9
            have hg1 : ∀ q, (q < 42 ∨ 52 ≤ q) → h8 q = h q := fun q q1 => (hf1 q q1).trans (hgl q q1)
            refine z_iload_n X d_Mod_insert_91 rfl ?_
            refine z_if_eq (tgt := 114) X d_Mod_insert_92 (by decide) (b2z_r _) (fun q5 => ?_) (fun q5 => ?_)
            · have hty := b2z_eq q5
              refine e_aload_n X d_Mod_insert_114 rfl ?_
              refine z_callV_V X d_Mod_insert_115 cv_Mod_118 (c_Mod_step (T := T) (X9 := (tx_ed t i i c p)) hM1 hN hnl hsl (by omega) hx1 htx1) d42m (by omega) rfl rfl ⟨rfl, rfl⟩ rfl (fun h11 hp12 => ?_)
              obtain ⟨⟨U2, Ls2, hM2, hs2, hk2⟩, hf2⟩ := hp12
              obtain ⟨d42s, d43s, d44s, d45s, d46s, d47s, d48s, d49s, d50s, d51s⟩ := id hM2
              have hg2 : ∀ q, (q < 42 ∨ 52 ≤ q) → h11 q = h q := fun q q1 => (hf2 q q1).trans (hg1 q q1)
              have hpn : hp_now now ≤ 8 := by unfold hp_now; split <;> omega
              refine e_aload_n X d_Mod_insert_118 rfl ?_
              refine z_iload_n X d_Mod_insert_119 rfl ?_
              refine z_if_eq (tgt := 129) X d_Mod_insert_120 (by decide) (b2z_r _) (fun q8 => ?_) (fun q8 => ?_)
              · refine z_iconst X d_Mod_insert_129 ?_
                refine z_put X d_Mod_insert_130 fl_Mod_23 d42s (by omega) (Nat.le_of_ble_eq_true rfl) rfl rfl (fun h14 c15 fr16 => ?_)
                have c15 : h14 42 = ob ci_Mod [.ref (ad (g_b G) 43), .ref (ad (g_b G) 44), vI ((hp_now now : Nat) : Int), vI ((hp_now now : Nat) : Int), .ref (ad (g_b G) 45), .ref (ad (g_b G) 46), vI ((c : Nat) : Int), vI (g), vI (-1), .ref (ad (g_b G) 47), vI ((n + c : Nat) : Int), vI (ptl), .ref (ad (g_b G) 48), .ref (ad (g_b G) 49), vI (itl), .ref (ad (g_b G) 50), .ref (ad (g_b G) 51), vI (en)] := c15
                have c17 := (fr16 43 (by omega)).trans d43s
                have c18 := (fr16 44 (by omega)).trans d44s
                have c19 := (fr16 45 (by omega)).trans d45s
                have c20 := (fr16 46 (by omega)).trans d46s
                have c21 := (fr16 47 (by omega)).trans d47s
                have c22 := (fr16 48 (by omega)).trans d48s
                have c23 := (fr16 49 (by omega)).trans d49s
                have c24 := (fr16 50 (by omega)).trans d50s
                have c25 := (fr16 51 (by omega)).trans d51s
                refine z_iconst X d_Mod_insert_133 ?_
                
                exact z_ireturn X Q d_Mod_insert_134 rfl (Or.inl ⟨hck, rfl, by rw [hty, show (false && decide (((i : Nat) : Int) = o)) = false from rfl]; exact ⟨_, _, _, _, _, _, _, _, _, _, _, _, ⟨c15, c17, c18, c19, c20, c21, c22, c23, c24, c25⟩, hs2, fun j j1 j2 j3 => hk2 _ (by omega) (by omega) _ (hsv j j1 j2 j3), hK, hC, hcx, hc24, ⟨Nat.le_refl _, hpn⟩, hgg, (by omega), hee⟩, fun q q1 => (fr16 q (by omega)).trans (hg2 q q1)⟩)
              · exact absurd (b2z_ne q8) (by rw [hty]; decide)
            · have hty := b2z_ne q5
              refine e_aload_n X d_Mod_insert_95 rfl ?_
              refine e_get X d_Mod_insert_96 fl_Mod_23 d42m (by omega) rfl ?_
              refine z_iload_n X d_Mod_insert_99 rfl ?_
              refine z_icmp_ne (tgt := 114) X d_Mod_insert_100 (by decide) (by omega) (fun q6 => ?_) (fun q6 => ?_)
              · have hio : ¬ o = ((i : Nat) : Int) := q6
                refine e_aload_n X d_Mod_insert_114 rfl ?_
                refine z_callV_V X d_Mod_insert_115 cv_Mod_118 (c_Mod_step (T := T) (X9 := (tx_ed t i i c p)) hM1 hN hnl hsl (by omega) hx1 htx1) d42m (by omega) rfl rfl ⟨rfl, rfl⟩ rfl (fun h26 hp27 => ?_)
                obtain ⟨⟨U2, Ls2, hM2, hs2, hk2⟩, hf2⟩ := hp27
                obtain ⟨d42s, d43s, d44s, d45s, d46s, d47s, d48s, d49s, d50s, d51s⟩ := id hM2
                have hg2 : ∀ q, (q < 42 ∨ 52 ≤ q) → h26 q = h q := fun q q1 => (hf2 q q1).trans (hg1 q q1)
                have hpn : hp_now now ≤ 8 := by unfold hp_now; split <;> omega
                refine e_aload_n X d_Mod_insert_118 rfl ?_
                refine z_iload_n X d_Mod_insert_119 rfl ?_
                refine z_if_eq (tgt := 129) X d_Mod_insert_120 (by decide) (b2z_r _) (fun q8 => ?_) (fun q8 => ?_)
                · exact absurd (b2z_eq q8) (by rw [hty]; decide)
                · refine z_iload_n X d_Mod_insert_123 rfl ?_
                  refine z_iconst X d_Mod_insert_124 ?_
                  refine z_iadd X d_Mod_insert_125 ?_
                  refine e_goto (tgt := 130) X d_Mod_insert_126 (by decide) ?_
                  refine z_put X d_Mod_insert_130 fl_Mod_23 d42s (by omega) (Nat.le_of_ble_eq_true rfl) rfl rfl (fun h29 c30 fr31 => ?_)
                  have c30 : h29 42 = ob ci_Mod [.ref (ad (g_b G) 43), .ref (ad (g_b G) 44), vI ((hp_now now : Nat) : Int), vI ((hp_now now : Nat) : Int), .ref (ad (g_b G) 45), .ref (ad (g_b G) 46), vI ((c : Nat) : Int), vI (g), vI (((i : Nat) : Int) + 1), .ref (ad (g_b G) 47), vI ((n + c : Nat) : Int), vI (ptl), .ref (ad (g_b G) 48), .ref (ad (g_b G) 49), vI (itl), .ref (ad (g_b G) 50), .ref (ad (g_b G) 51), vI (en)] := c30
                  have c32 := (fr31 43 (by omega)).trans d43s
                  have c33 := (fr31 44 (by omega)).trans d44s
                  have c34 := (fr31 45 (by omega)).trans d45s
                  have c35 := (fr31 46 (by omega)).trans d46s
                  have c36 := (fr31 47 (by omega)).trans d47s
                  have c37 := (fr31 48 (by omega)).trans d48s
                  have c38 := (fr31 49 (by omega)).trans d49s
                  have c39 := (fr31 50 (by omega)).trans d50s
                  have c40 := (fr31 51 (by omega)).trans d51s
                  refine z_iconst X d_Mod_insert_133 ?_
                  
                  exact z_ireturn X Q d_Mod_insert_134 rfl (Or.inl ⟨hck, rfl, by rw [hty, show (true && decide (((i : Nat) : Int) = o)) = false from by rw [decide_eq_false (fun q9 => hio q9.symm)]; rfl]; exact ⟨_, _, _, _, _, _, _, _, _, _, _, _, ⟨c30, c32, c33, c34, c35, c36, c37, c38, c39, c40⟩, hs2, fun j j1 j2 j3 => hk2 _ (by omega) (by omega) _ (hsv j j1 j2 j3), hK, hC, hcx, hc24, ⟨Nat.le_refl _, hpn⟩, hgg, (by omega), hee⟩, fun q q1 => (fr31 q (by omega)).trans (hg2 q q1)⟩)
              · have hio : o = ((i : Nat) : Int) := q6
                refine e_aload_n X d_Mod_insert_103 rfl ?_
                refine e_aload_n X d_Mod_insert_104 rfl ?_
                refine e_get X d_Mod_insert_105 fl_Mod_48 d42m (by omega) rfl ?_
                refine z_callV_V X d_Mod_insert_108 cv_Mod_105 (c_Mod_show hM1 hN (by omega) (by omega)) d42m (by omega) rfl rfl ⟨rfl, rfl⟩ rfl (fun h41 hp42 => ?_)
                obtain ⟨⟨U2, hM2, hu1, hu2⟩, hf2⟩ := hp42
                obtain ⟨d42s, d43s, d44s, d45s, d46s, d47s, d48s, d49s, d50s, d51s⟩ := id hM2
                have hg2 : ∀ q, (q < 42 ∨ 52 ≤ q) → h41 q = h q := fun q q1 => (hf2 q q1).trans (hg1 q q1)
                have hkp : ∀ j y, ¬ j = now → Sl U Ls j y → Sl U2 (zup Ls now ((n + c : Nat) : Int)) j y := fun j y hj hy => hy.keep (fun q q1 q2 => hu2 q (by omega)) (zup_ne hj)
                have hs2 : ∀ j, j ≤ last → Sl U2 (zup Ls now ((n + c : Nat) : Int)) j ((fun j => if j = now then (n + c, (tx_ed t i i c p)) else T j) j) := by
                  intro j hj
                  dsimp only
                  by_cases h9 : j = now
                  · rw [if_pos h9, h9]; exact ⟨zup_eq _ _ _, by show n + c ≤ 160; omega, fun k hk => (hu1 k hk).trans (hx1 k hk), htx1⟩
                  · rw [if_neg h9]; exact hkp j _ h9 (hsl j hj)
                refine e_goto (tgt := 118) X d_Mod_insert_111 (by decide) ?_
                refine e_aload_n X d_Mod_insert_118 rfl ?_
                refine z_iload_n X d_Mod_insert_119 rfl ?_
                refine z_if_eq (tgt := 129) X d_Mod_insert_120 (by decide) (b2z_r _) (fun q8 => ?_) (fun q8 => ?_)
                · exact absurd (b2z_eq q8) (by rw [hty]; decide)
                · refine z_iload_n X d_Mod_insert_123 rfl ?_
                  refine z_iconst X d_Mod_insert_124 ?_
                  refine z_iadd X d_Mod_insert_125 ?_
                  refine e_goto (tgt := 130) X d_Mod_insert_126 (by decide) ?_
                  refine z_put X d_Mod_insert_130 fl_Mod_23 d42s (by omega) (Nat.le_of_ble_eq_true rfl) rfl rfl (fun h44 c45 fr46 => ?_)
                  have c45 : h44 42 = ob ci_Mod [.ref (ad (g_b G) 43), .ref (ad (g_b G) 44), vI ((now : Nat) : Int), vI ((last : Nat) : Int), .ref (ad (g_b G) 45), .ref (ad (g_b G) 46), vI ((c : Nat) : Int), vI (g), vI (((i : Nat) : Int) + 1), .ref (ad (g_b G) 47), vI ((n + c : Nat) : Int), vI (ptl), .ref (ad (g_b G) 48), .ref (ad (g_b G) 49), vI (itl), .ref (ad (g_b G) 50), .ref (ad (g_b G) 51), vI (en)] := c45
                  have c47 := (fr46 43 (by omega)).trans d43s
                  have c48 := (fr46 44 (by omega)).trans d44s
                  have c49 := (fr46 45 (by omega)).trans d45s
                  have c50 := (fr46 46 (by omega)).trans d46s
                  have c51 := (fr46 47 (by omega)).trans d47s
                  have c52 := (fr46 48 (by omega)).trans d48s
                  have c53 := (fr46 49 (by omega)).trans d49s
                  have c54 := (fr46 50 (by omega)).trans d50s
                  have c55 := (fr46 51 (by omega)).trans d51s
                  refine z_iconst X d_Mod_insert_133 ?_
                  
                  exact z_ireturn X Q d_Mod_insert_134 rfl (Or.inl ⟨hck, rfl, by rw [hty, decide_eq_true hio.symm]; exact ⟨_, _, _, _, _, _, _, _, _, _, _, _, ⟨c45, c47, c48, c49, c50, c51, c52, c53, c54, c55⟩, hs2, fun j j1 j2 j3 => hkp _ _ (by omega) (hsv j j1 j2 j3), hK, hC, hcx, hc24, hnl, hgg, (by omega), hee⟩, fun q q1 => (fr46 q (by omega)).trans (hg2 q q1)⟩)
          have hp0 : 0 < c → C 0 = p 0 := fun h9 => hC 0 h9
          have hpr := tx_ge hcx 0
          refine e_aload_n X d_Mod_insert_45 rfl ?_
          refine e_get X d_Mod_insert_46 fl_Mod_45 d42l (by omega) rfl ?_
          refine z_iconst X d_Mod_insert_49 ?_
          refine z_icmp_ne (tgt := 79) X d_Mod_insert_50 (by decide) (by omega) (fun q56 => ?_) (fun q56 => ?_)
          · have g57 : decide (c = 1) = false := decide_eq_false (by omega)
            refine z_iconst X d_Mod_insert_79 ?_
            refine z_top (show _ = b2z (ctp c p) from by simp [ctp, b2z, g57]) ?_
            exact J1
          · have g58 : decide (c = 1) = true := decide_eq_true (by omega)
            refine e_aload_n X d_Mod_insert_53 rfl ?_
            refine e_get X d_Mod_insert_54 fl_Mod_20 d42l (by omega) rfl ?_
            refine z_iconst X d_Mod_insert_57 ?_
            refine z_iald X d_Mod_insert_58 (j := 0) d46l (by omega) (by omega) (by omega) ?_
            refine z_top (show _ = (p 0) from hp0 (by omega)) ?_
            refine z_bipush X d_Mod_insert_59 (by decide) ?_
            refine z_icmp_eq (tgt := 79) X d_Mod_insert_61 (by decide) (by omega) (fun q59 => ?_) (fun q59 => ?_)
            · have g60 : decide (p 0 = 10) = true := decide_eq_true (by omega)
              refine z_iconst X d_Mod_insert_79 ?_
              refine z_top (show _ = b2z (ctp c p) from by simp [ctp, b2z, g58, g60]) ?_
              exact J1
            · have g61 : decide (p 0 = 10) = false := decide_eq_false (by omega)
              refine e_aload_n X d_Mod_insert_64 rfl ?_
              refine e_get X d_Mod_insert_65 fl_Mod_20 d42l (by omega) rfl ?_
              refine z_iconst X d_Mod_insert_68 ?_
              refine z_iald X d_Mod_insert_69 (j := 0) d46l (by omega) (by omega) (by omega) ?_
              refine z_top (show _ = (p 0) from hp0 (by omega)) ?_
              refine z_bipush X d_Mod_insert_70 (by decide) ?_
              refine z_icmp_eq (tgt := 79) X d_Mod_insert_72 (by decide) (by omega) (fun q62 => ?_) (fun q62 => ?_)
              · have g63 : decide (p 0 = 13) = true := decide_eq_true (by omega)
                refine z_iconst X d_Mod_insert_79 ?_
                refine z_top (show _ = b2z (ctp c p) from by simp [ctp, b2z, g58, g61, g63]) ?_
                exact J1
              · have g64 : decide (p 0 = 13) = false := decide_eq_false (by omega)
                refine z_iconst X d_Mod_insert_75 ?_
                refine e_goto (tgt := 80) X d_Mod_insert_76 (by decide) ?_
                refine z_top (show _ = b2z (ctp c p) from by simp [ctp, b2z, g58, g61, g64]) ?_
                exact J1
        · refine z_iconst X d_Mod_insert_43 ?_
          exact z_ireturn X Q d_Mod_insert_44 rfl (Or.inr ⟨by unfold ctk ced; rw [b2z_eq q4]; simp, rfl, ⟨_, _, _, _, _, _, _, _, _, _, _, _, hMl, hsl, hsv, hK, hC, hcx, hc24, hnl, hgg, hoo, hee⟩, hgl⟩)

