set_option maxRecDepth 100000 in
set_option maxHeartbeats 4000000 in
theorem c_Mod_stands {l : Launch} {G : lx_G} {N : Nat} {h : Nat → va_E} {x u : Int} (hx : 0 ≤ x ∧ x < 65536) (hu : 0 ≤ u ∧ u < 65536) : CtI l G m_Mod_stands N [vI (x), vI (u)] h (fun z h' => z = b2z (stn x u) ∧ h' = h) := by
  have hu9 : ¬ u = -1 := by omega
  refine zI_of (by decide) rfl rfl ?_
  intro k X Q
  have X : Cx k G R_Mod b_Mod_stands 2 rm_Mod_stands := X
  have Q : Rt k G (some (.boolean)) N 0 0 (pI (fun z h' => z = b2z (stn x u) ∧ h' = h)) := Q
  show Ev k G 2 N 0 0 h 0 [some (vI (x)), some (vI (u))] []
  refine z_iload_n X d_Mod_stands_0 rfl ?_
  refine z_bipush X d_Mod_stands_1 (by decide) ?_
  refine z_icmp_ne (tgt := 26) X d_Mod_stands_3 (by decide) (by omega) (fun q1 => ?_) (fun q1 => ?_)
  · have g2 : decide (x = 46) = false := decide_eq_false (by omega)
    refine z_iload_n X d_Mod_stands_26 rfl ?_
    refine z_iload_n X d_Mod_stands_27 rfl ?_
    refine z_icmp_ne (tgt := 35) X d_Mod_stands_28 (by decide) (by omega) (fun q4 => ?_) (fun q4 => ?_)
    · have g5 : decide (u = x) = false := decide_eq_false (by omega)
      refine z_iconst X d_Mod_stands_35 ?_
      exact z_ireturn X Q d_Mod_stands_36 rfl ⟨by simp [stn, b2z, hu9, g2, g5], rfl⟩
    · have g6 : decide (u = x) = true := decide_eq_true (by omega)
      refine z_iconst X d_Mod_stands_31 ?_
      refine e_goto (tgt := 36) X d_Mod_stands_32 (by decide) ?_
      exact z_ireturn X Q d_Mod_stands_36 rfl ⟨by simp [stn, b2z, hu9, g2, g6], rfl⟩
  · have g3 : decide (x = 46) = true := decide_eq_true (by omega)
    refine z_iload_n X d_Mod_stands_6 rfl ?_
    refine z_bipush X d_Mod_stands_7 (by decide) ?_
    refine z_icmp_eq (tgt := 22) X d_Mod_stands_9 (by decide) (by omega) (fun q7 => ?_) (fun q7 => ?_)
    · have g8 : decide (u = 10) = true := decide_eq_true (by omega)
      refine z_iconst X d_Mod_stands_22 ?_
      refine e_goto (tgt := 36) X d_Mod_stands_23 (by decide) ?_
      exact z_ireturn X Q d_Mod_stands_36 rfl ⟨by simp [stn, b2z, hu9, g3, g8], rfl⟩
    · have g9 : decide (u = 10) = false := decide_eq_false (by omega)
      refine z_iload_n X d_Mod_stands_12 rfl ?_
      refine z_bipush X d_Mod_stands_13 (by decide) ?_
      refine z_icmp_eq (tgt := 22) X d_Mod_stands_15 (by decide) (by omega) (fun q10 => ?_) (fun q10 => ?_)
      · have g11 : decide (u = 13) = true := decide_eq_true (by omega)
        refine z_iconst X d_Mod_stands_22 ?_
        refine e_goto (tgt := 36) X d_Mod_stands_23 (by decide) ?_
        exact z_ireturn X Q d_Mod_stands_36 rfl ⟨by simp [stn, b2z, hu9, g3, g9, g11], rfl⟩
      · have g12 : decide (u = 13) = false := decide_eq_false (by omega)
        refine z_iconst X d_Mod_stands_18 ?_
        refine e_goto (tgt := 36) X d_Mod_stands_19 (by decide) ?_
        exact z_ireturn X Q d_Mod_stands_36 rfl ⟨by simp [stn, b2z, hu9, g3, g9, g12], rfl⟩

set_option maxRecDepth 100000 in
set_option maxHeartbeats 4000000 in
theorem c_Mod_isPattern {l : Launch} {G : lx_G} {N : Nat} {h : Nat → va_E} {U Ls K C : Nat → Int} {now last : Int} {c : Nat} {g o en : Int} {Md : Nat → Int} {ml pts its : Int} {PP CD PL AT : Nat → Int} {p : Nat → Int} (hM : MC G h U Ls K C now last ((c : Nat) : Int) g o en Md ml pts its PP CD PL AT) (hN : 52 ≤ N) (hC : ∀ k, k < c → C k = p k) (hcx : tx_ok c p) (hc24 : c ≤ 24) : CtI l G m_Mod_isPattern N [.ref (ad (g_b G) 42)] h (fun z h' => z = b2z (pat c p) ∧ h' = h) := by
  refine zI_of (by decide) rfl rfl ?_
  intro k X Q
  have X : Cx k G R_Mod b_Mod_isPattern 3 rm_Mod_isPattern := X
  have Q : Rt k G (some (.boolean)) N 0 0 (pI (fun z h' => z = b2z (pat c p) ∧ h' = h)) := Q
  show Ev k G 3 N 0 0 h 0 [some (.ref (ad (g_b G) 42)), none, none] []
  obtain ⟨d42, d43, d44, d45, d46, d47, d48, d49, d50, d51⟩ := id hM
  refine e_aload_n X d_Mod_isPattern_0 rfl ?_
  refine e_get X d_Mod_isPattern_1 fl_Mod_45 d42 (by omega) rfl ?_
  have J1 : Ev k G 3 N 0 0 h 12 [some (.ref (ad (g_b G) 42)), none, none] [vI (b2z (decide (0 < c) && patb p 0))] := by
    refine e_istore_n X d_Mod_isPattern_12 (by decide) ?_
    refine z_iconst X d_Mod_isPattern_13 ?_
    refine e_istore_n X d_Mod_isPattern_14 (by decide) ?_
    have loop : ∀ (d9 : Nat) (k9 : Nat), c - k9 < d9 → k9 ≤ c → Ev k G 3 N 0 0 h 15 [some (.ref (ad (g_b G) 42)), some (vI (b2z (decide (0 < c) && patb p k9))), some (vI ((k9 : Nat) : Int))] [] := by
      intro d9
      induction d9 with
      | zero =>
        intro k9 hm9
        exact absurd hm9 (Nat.not_lt_zero _)
      | succ d9 ih =>
        intro k9 hm9 hk
        refine z_iload_n X d_Mod_isPattern_15 rfl ?_
        refine e_aload_n X d_Mod_isPattern_16 rfl ?_
        refine e_get X d_Mod_isPattern_17 fl_Mod_45 d42 (by omega) rfl ?_
        refine z_icmp_ge (tgt := 67) X d_Mod_isPattern_20 (by decide) (by omega) (fun q1 => ?_) (fun q1 => ?_)
        · have hkc : k9 = c := by omega
          refine z_iload_n X d_Mod_isPattern_67 rfl ?_
          exact z_ireturn X Q d_Mod_isPattern_68 (b2z_nar _) ⟨by rw [hkc]; rfl, rfl⟩
        · have hck := hC k9 (by omega)
          have hrk := hcx.1 k9 (by omega)
          refine z_iload_n X d_Mod_isPattern_23 rfl ?_
          refine z_if_eq (tgt := 59) X d_Mod_isPattern_24 (by decide) (b2z_r _) (fun q2 => ?_) (fun q2 => ?_)
          · have g0 := b2z_eq q2
            refine z_iconst X d_Mod_isPattern_59 ?_
            refine z_top (show _ = (b2z (decide (0 < c) && patb p (k9 + 1))) from (b2z_f (by rw [patb, ← Bool.and_assoc, g0]; rfl)).symm) ?_
            refine e_istore_n X d_Mod_isPattern_60 (by decide) ?_
            refine z_iinc X d_Mod_isPattern_61 rfl (by decide) ?_
            refine e_goto (tgt := 15) X d_Mod_isPattern_64 (by decide) ?_
            exact ih (k9 + 1) (by omega) (by omega)
          · have g0 := b2z_ne q2
            refine e_aload_n X d_Mod_isPattern_27 rfl ?_
            refine e_get X d_Mod_isPattern_28 fl_Mod_20 d42 (by omega) rfl ?_
            refine z_iload_n X d_Mod_isPattern_31 rfl ?_
            refine z_iald X d_Mod_isPattern_32 (j := k9) d46 (by omega) (by omega) (by omega) ?_
            refine z_top (show _ = (p k9) from hck) ?_
            refine z_bipush X d_Mod_isPattern_33 (by decide) ?_
            refine z_icmp_ne (tgt := 55) X d_Mod_isPattern_35 (by decide) (by omega) (fun q3 => ?_) (fun q3 => ?_)
            · refine z_iconst X d_Mod_isPattern_55 ?_
              refine e_goto (tgt := 60) X d_Mod_isPattern_56 (by decide) ?_
              refine z_top (show _ = (b2z (decide (0 < c) && patb p (k9 + 1))) from (b2z_t (by rw [patb, ← Bool.and_assoc, g0, decide_eq_true q3]; rfl)).symm) ?_
              refine e_istore_n X d_Mod_isPattern_60 (by decide) ?_
              refine z_iinc X d_Mod_isPattern_61 rfl (by decide) ?_
              refine e_goto (tgt := 15) X d_Mod_isPattern_64 (by decide) ?_
              exact ih (k9 + 1) (by omega) (by omega)
            · refine z_iload_n X d_Mod_isPattern_38 rfl ?_
              refine z_if_le (tgt := 59) X d_Mod_isPattern_39 (by decide) (by omega) (fun q4 => ?_) (fun q4 => ?_)
              · refine z_iconst X d_Mod_isPattern_59 ?_
                refine z_top (show _ = (b2z (decide (0 < c) && patb p (k9 + 1))) from (b2z_f (by rw [patb, ← Bool.and_assoc, g0, decide_eq_false (show ¬ ¬ p k9 = 42 from fun q9 => q9 q3), decide_eq_false (show ¬ 0 < k9 by omega)]; rfl)).symm) ?_
                refine e_istore_n X d_Mod_isPattern_60 (by decide) ?_
                refine z_iinc X d_Mod_isPattern_61 rfl (by decide) ?_
                refine e_goto (tgt := 15) X d_Mod_isPattern_64 (by decide) ?_
                exact ih (k9 + 1) (by omega) (by omega)
              · have hck2 := hC (k9 - 1) (by omega)
                have hrk2 := hcx.1 (k9 - 1) (by omega)
                refine e_aload_n X d_Mod_isPattern_42 rfl ?_
                refine e_get X d_Mod_isPattern_43 fl_Mod_20 d42 (by omega) rfl ?_
                refine z_iload_n X d_Mod_isPattern_46 rfl ?_
                refine z_iconst X d_Mod_isPattern_47 ?_
                refine z_isub X d_Mod_isPattern_48 ?_
                refine z_iald X d_Mod_isPattern_49 (j := (k9 - 1)) d46 (by omega) (by omega) (by omega) ?_
                refine z_top (show _ = (p (k9 - 1)) from hck2) ?_
                refine z_bipush X d_Mod_isPattern_50 (by decide) ?_
                refine z_icmp_eq (tgt := 59) X d_Mod_isPattern_52 (by decide) (by omega) (fun q5 => ?_) (fun q5 => ?_)
                · refine z_iconst X d_Mod_isPattern_59 ?_
                  refine z_top (show _ = (b2z (decide (0 < c) && patb p (k9 + 1))) from (b2z_f (by rw [patb, ← Bool.and_assoc, g0, decide_eq_false (show ¬ ¬ p k9 = 42 from fun q9 => q9 q3), decide_eq_false (show ¬ ¬ p (k9 - 1) = 42 from fun q9 => q9 q5), Bool.and_false]; rfl)).symm) ?_
                  refine e_istore_n X d_Mod_isPattern_60 (by decide) ?_
                  refine z_iinc X d_Mod_isPattern_61 rfl (by decide) ?_
                  refine e_goto (tgt := 15) X d_Mod_isPattern_64 (by decide) ?_
                  exact ih (k9 + 1) (by omega) (by omega)
                · refine z_iconst X d_Mod_isPattern_55 ?_
                  refine e_goto (tgt := 60) X d_Mod_isPattern_56 (by decide) ?_
                  refine z_top (show _ = (b2z (decide (0 < c) && patb p (k9 + 1))) from (b2z_t (by rw [patb, ← Bool.and_assoc, g0, decide_eq_true (show 0 < k9 by omega), decide_eq_true q5, Bool.and_self, Bool.or_true]; rfl)).symm) ?_
                  refine e_istore_n X d_Mod_isPattern_60 (by decide) ?_
                  refine z_iinc X d_Mod_isPattern_61 rfl (by decide) ?_
                  refine e_goto (tgt := 15) X d_Mod_isPattern_64 (by decide) ?_
                  exact ih (k9 + 1) (by omega) (by omega)
    exact loop _ 0 (Nat.lt_succ_self _) (Nat.zero_le _)
  refine z_if_le (tgt := 11) X d_Mod_isPattern_4 (by decide) (by omega) (fun q0 => ?_) (fun q0 => ?_)
  · refine z_iconst X d_Mod_isPattern_11 ?_
    refine z_top (show _ = b2z (decide (0 < c) && patb p 0) from (b2z_f (by rw [decide_eq_false (show ¬ 0 < c by omega)]; rfl)).symm) ?_
    exact J1
  · refine z_iconst X d_Mod_isPattern_7 ?_
    refine e_goto (tgt := 12) X d_Mod_isPattern_8 (by decide) ?_
    refine z_top (show _ = b2z (decide (0 < c) && patb p 0) from (b2z_t (by rw [decide_eq_true (show 0 < c by omega)]; rfl)).symm) ?_
    exact J1

theorem stc_a {f : Nat → Bool} {w : Int} {t : Nat → Int} {a : Nat} : stc f w t a a = f a := by
  cases a with
  | zero => rfl
  | succ a => rw [stc, decide_eq_false (show ¬ a + 1 ≤ a by omega), Bool.false_and, Bool.or_false]
theorem sht_a {f : Nat → Bool} {w : Int} {t : Nat → Int} {a : Nat} : sht f w t a a = false := by
  cases a with
  | zero => rfl
  | succ a => rw [sht, decide_eq_false (show ¬ a + 1 ≤ a by omega), Bool.false_and]
set_option maxRecDepth 100000 in
set_option maxHeartbeats 4000000 in
theorem c_Mod_match {l : Launch} {G : lx_G} {N : Nat} {h : Nat → va_E} {U Ls K C : Nat → Int} {now last : Int} {c : Nat} {g o en : Int} {Md : Nat → Int} {ml pts its : Int} {PP CD PL AT : Nat → Int} {p t : Nat → Int} {s n a : Nat} (hM : MC G h U Ls K C now last ((c : Nat) : Int) g o en Md ml pts its PP CD PL AT) (hN : 52 ≤ N) (hs13 : s < 13) (hS : Sl U Ls s (n, t)) (hC : ∀ k, k < c → C k = p k) (hcx : tx_ok c p) (hc24 : c ≤ 24) (ha : a ≤ n) : CtI l G m_Mod_match N [.ref (ad (g_b G) 42), vI ((s : Nat) : Int), vI ((a : Nat) : Int)] h (fun z h' => z = rmt (cnt (nsc p) c) (el_w c p) (el_s c p) n t (n - a) (cnt (nsc p) c) ∧ (∃ A', MC G h' U Ls K C now last ((c : Nat) : Int) g o en Md ml pts its PP CD PL A') ∧ ∀ q, (q < 42 ∨ 52 ≤ q) → h' q = h q) := by
  refine zI_of (by decide) rfl rfl ?_
  intro k X Q
  have X : Cx k G R_Mod b_Mod_match 7 rm_Mod_match := X
  have Q : Rt k G (some (.int)) N 0 0 (pI (fun z h' => z = rmt (cnt (nsc p) c) (el_w c p) (el_s c p) n t (n - a) (cnt (nsc p) c) ∧ (∃ A', MC G h' U Ls K C now last ((c : Nat) : Int) g o en Md ml pts its PP CD PL A') ∧ ∀ q, (q < 42 ∨ 52 ≤ q) → h' q = h q)) := Q
  show Ev k G 7 N 0 0 h 0 [some (.ref (ad (g_b G) 42)), some (vI ((s : Nat) : Int)), some (vI ((a : Nat) : Int)), none, none, none, none] []
  obtain ⟨d42, d43, d44, d45, d46, d47, d48, d49, d50, d51⟩ := id hM
  obtain ⟨hl0, hl1, hl2, ht⟩ := hS
  dsimp only at hl0 hl1 hl2 ht
  refine e_aload_n X d_Mod_match_0 rfl ?_
  refine e_get X d_Mod_match_1 fl_Mod_13 d42 (by omega) rfl ?_
  refine z_iload_n X d_Mod_match_4 rfl ?_
  refine z_iald X d_Mod_match_5 (j := s) d44 (by omega) (by omega) (by omega) ?_
  refine z_top (show _ = ((n : Nat) : Int) from hl0) ?_
  refine e_istore_n X d_Mod_match_6 (by decide) ?_
  refine z_iconst X d_Mod_match_7 ?_
  refine e_istore X d_Mod_match_8 (by decide) ?_
  have loopE : ∀ (d9 : Nat) (r : Nat) (A1 : Nat → Int) (h2 : Nat → va_E), r < d9 → a ≤ r ∧ r ≤ n + 1 → MC G h2 U Ls K C now last ((c : Nat) : Int) g o en Md ml pts its PP CD PL A1 → (∀ q, a ≤ q → q ≤ n → A1 q = b2z (Fw (el_w c p) (el_s c p) t a (cnt (nsc p) c) q)) → (∀ q, r ≤ q → q ≤ n → Fw (el_w c p) (el_s c p) t a (cnt (nsc p) c) q = false) → (∀ q, (q < 42 ∨ 52 ≤ q) → h2 q = h q) → Ev k G 7 N 0 0 h2 276 [some (.ref (ad (g_b G) 42)), some (vI ((s : Nat) : Int)), some (vI ((a : Nat) : Int)), some (vI ((n : Nat) : Int)), some (vI (((r : Nat) : Int) - 1)), none, none] [] := by
    intro d9
    induction d9 with
    | zero =>
      intro r A1 h2 hm9
      exact absurd hm9 (Nat.not_lt_zero _)
    | succ d9 ih =>
      intro r A1 h2 hm9 hr hM2 hA hno hf
      obtain ⟨d42e, d43e, d44e, d45e, d46e, d47e, d48e, d49e, d50e, d51e⟩ := id hM2
      refine z_iload X d_Mod_match_276 rfl ?_
      refine z_iload_n X d_Mod_match_278 rfl ?_
      refine z_icmp_lt (tgt := 298) X d_Mod_match_279 (by decide) (by omega) (fun q1 => ?_) (fun q1 => ?_)
      · refine z_iload X d_Mod_match_298 rfl ?_
        refine z_iload_n X d_Mod_match_300 rfl ?_
        refine z_icmp_ge (tgt := 308) X d_Mod_match_301 (by decide) (by omega) (fun q2 => ?_) (fun q2 => ?_)
        · omega
        · refine z_iconst X d_Mod_match_304 ?_
          refine e_goto (tgt := 310) X d_Mod_match_305 (by decide) ?_
          exact z_ireturn X Q d_Mod_match_310 rfl ⟨end_none hl1 ht (el_pos hcx) ha (fun q q3 q4 => hno q (by omega) q4), ⟨A1, hM2⟩, hf⟩
      · obtain ⟨r, rfl⟩ : ∃ r9, r = r9 + 1 := ⟨r - 1, by omega⟩
        rw [show ((r + 1 : Nat) : Int) - 1 = ((r : Nat) : Int) by omega]
        refine e_aload_n X d_Mod_match_282 rfl ?_
        refine e_get X d_Mod_match_283 fl_Mod_39 d42e (by omega) rfl ?_
        refine z_iload X d_Mod_match_286 rfl ?_
        refine z_zald X d_Mod_match_288 (j := r) d51e (by omega) (by omega) (by omega) ?_
        refine z_top (show _ = (b2z (Fw (el_w c p) (el_s c p) t a (cnt (nsc p) c) r)) from hA r (by omega) (by omega)) ?_
        refine z_if_ne (tgt := 298) X d_Mod_match_289 (by decide) (b2z_r _) (fun q2 => ?_) (fun q2 => ?_)
        · refine z_iload X d_Mod_match_298 rfl ?_
          refine z_iload_n X d_Mod_match_300 rfl ?_
          refine z_icmp_ge (tgt := 308) X d_Mod_match_301 (by decide) (by omega) (fun q3 => ?_) (fun q3 => ?_)
          · refine z_iload X d_Mod_match_308 rfl ?_
            exact z_ireturn X Q d_Mod_match_310 rfl ⟨end_some hl1 ht (el_pos hcx) ha (by omega) (b2z_ne q2) (fun x x1 x2 => hno x (by omega) x2), ⟨A1, hM2⟩, hf⟩
          · omega
        · refine z_iinc X d_Mod_match_292 rfl (by decide) ?_
          refine e_goto (tgt := 276) X d_Mod_match_295 (by decide) ?_
          rw [show ((r : Nat) : Int) + (-1) = ((r : Nat) : Int) - 1 by omega]
          exact ih r A1 _ (by omega) (by omega) hM2 hA (fun q q3 q4 => by rcases Nat.lt_or_ge r q with h8 | h8; exact hno q (by omega) q4; rw [show q = r by omega]; exact b2z_eq q2) hf
  have loopK : ∀ (d9 : Nat) (k9 : Nat) (A1 : Nat → Int) (h2 : Nat → va_E), c - k9 < d9 → k9 ≤ c → MC G h2 U Ls K C now last ((c : Nat) : Int) g o en Md ml pts its PP CD PL A1 → (∀ q, a ≤ q → q ≤ n → A1 q = b2z (Fw (el_w c p) (el_s c p) t a (cnt (nsc p) k9) q)) → (∀ q, (q < 42 ∨ 52 ≤ q) → h2 q = h q) → Ev k G 7 N 0 0 h2 43 [some (.ref (ad (g_b G) 42)), some (vI ((s : Nat) : Int)), some (vI ((a : Nat) : Int)), some (vI ((n : Nat) : Int)), some (vI ((k9 : Nat) : Int)), none, none] [] := by
    intro d9
    induction d9 with
    | zero =>
      intro k9 A1 h2 hm9
      exact absurd hm9 (Nat.not_lt_zero _)
    | succ d9 ih =>
      intro k9 A1 h2 hm9 hk hM2 hA hf
      obtain ⟨d42f, d43f, d44f, d45f, d46f, d47f, d48f, d49f, d50f, d51f⟩ := id hM2
      refine z_iload X d_Mod_match_43 rfl ?_
      refine e_aload_n X d_Mod_match_45 rfl ?_
      refine e_get X d_Mod_match_46 fl_Mod_45 d42f (by omega) rfl ?_
      refine z_icmp_ge (tgt := 273) X d_Mod_match_49 (by decide) (by omega) (fun q1 => ?_) (fun q1 => ?_)
      · have hkc : k9 = c := by omega
        subst hkc
        refine z_iload_n X d_Mod_match_273 rfl ?_
        refine e_istore X d_Mod_match_274 (by decide) ?_
        have hE := loopE _ (n + 1) A1 _ (Nat.lt_succ_self _) (by omega) hM2 hA (fun q q3 q4 => absurd q3 (by omega)) hf
        rw [show ((n + 1 : Nat) : Int) - 1 = ((n : Nat) : Int) by omega] at hE
        exact hE
      · have hck := hC k9 (by omega)
        have hrk := hcx.1 k9 (by omega)
        have hr1 := tx_ge hcx (k9 + 1)
        have ih0 := ih
        have J82 : Ev k G 7 N 0 0 h2 82 [some (.ref (ad (g_b G) 42)), some (vI ((s : Nat) : Int)), some (vI ((a : Nat) : Int)), some (vI ((n : Nat) : Int)), some (vI ((k9 : Nat) : Int)), none, none] [vI (b2z (decide (p (k9 + 1) = 42)))] := by
          refine e_istore X d_Mod_match_82 (by decide) ?_
          refine e_aload_n X d_Mod_match_84 rfl ?_
          refine e_get X d_Mod_match_85 fl_Mod_20 d42f (by omega) rfl ?_
          refine z_iload X d_Mod_match_88 rfl ?_
          refine z_iald X d_Mod_match_90 (j := k9) d46f (by omega) (by omega) (by omega) ?_
          refine z_top (show _ = (p k9) from hck) ?_
          refine z_bipush X d_Mod_match_91 (by decide) ?_
          refine z_icmp_eq (tgt := 181) X d_Mod_match_93 (by decide) (by omega) (fun q3 => ?_) (fun q3 => ?_)
          · refine e_aload_n X d_Mod_match_181 rfl ?_
            refine e_get X d_Mod_match_182 fl_Mod_20 d42f (by omega) rfl ?_
            refine z_iload X d_Mod_match_185 rfl ?_
            refine z_iald X d_Mod_match_187 (j := k9) d46f (by omega) (by omega) (by omega) ?_
            refine z_top (show _ = (p k9) from hck) ?_
            refine z_bipush X d_Mod_match_188 (by decide) ?_
            refine z_icmp_eq (tgt := 267) X d_Mod_match_190 (by decide) (by omega) (fun q4 => ?_) (fun q4 => ?_)
            · refine z_iinc X d_Mod_match_267 rfl (by decide) ?_
              refine e_goto (tgt := 43) X d_Mod_match_270 (by decide) ?_
              refine e_clear 5 ?_
              refine e_clear 6 ?_
              exact ih (k9 + 1) A1 _ (by omega) (by omega) hM2 (by rw [cnt_f (nsc_f q3)]; exact hA) hf
            · exact absurd q3 q4
          · refine z_iload X d_Mod_match_96 rfl ?_
            refine z_if_eq (tgt := 181) X d_Mod_match_98 (by decide) (b2z_r _) (fun q5 => ?_) (fun q5 => ?_)
            · have hmy : (decide (p (k9 + 1) = 42)) = false := b2z_eq q5
              have hel := el_at (c := c) (show k9 < c by omega) q3
              have hFn : Fw (el_w c p) (el_s c p) t a (cnt (nsc p) (k9 + 1)) = sht (Fw (el_w c p) (el_s c p) t a (cnt (nsc p) k9)) (p k9) t a := by rw [cnt_t (nsc_t q3), Fw, hel.2, hel.1, hmy]; rfl
              refine e_aload_n X d_Mod_match_181 rfl ?_
              refine e_get X d_Mod_match_182 fl_Mod_20 d42f (by omega) rfl ?_
              refine z_iload X d_Mod_match_185 rfl ?_
              refine z_iald X d_Mod_match_187 (j := k9) d46f (by omega) (by omega) (by omega) ?_
              refine z_top (show _ = (p k9) from hck) ?_
              refine z_bipush X d_Mod_match_188 (by decide) ?_
              refine z_icmp_eq (tgt := 267) X d_Mod_match_190 (by decide) (by omega) (fun q4 => ?_) (fun q4 => ?_)
              · exact absurd q4 q3
              · refine z_iload_n X d_Mod_match_193 rfl ?_
                refine e_istore X d_Mod_match_194 (by decide) ?_
                have loopO : ∀ (d9 : Nat) (x9 : Nat) (A2 : Nat → Int) (h3 : Nat → va_E), x9 < d9 → a ≤ x9 ∧ x9 ≤ n → MC G h3 U Ls K C now last ((c : Nat) : Int) g o en Md ml pts its PP CD PL A2 → (∀ q, a ≤ q → q ≤ x9 → A2 q = b2z (Fw (el_w c p) (el_s c p) t a (cnt (nsc p) k9) q)) → (∀ q, x9 < q → q ≤ n → A2 q = b2z (sht (Fw (el_w c p) (el_s c p) t a (cnt (nsc p) k9)) (p k9) t a q)) → (∀ q, (q < 42 ∨ 52 ≤ q) → h3 q = h q) → Ev k G 7 N 0 0 h3 196 [some (.ref (ad (g_b G) 42)), some (vI ((s : Nat) : Int)), some (vI ((a : Nat) : Int)), some (vI ((n : Nat) : Int)), some (vI ((k9 : Nat) : Int)), some (vI (b2z (decide (p (k9 + 1) = 42)))), some (vI ((x9 : Nat) : Int))] [] := by
                  intro d9
                  induction d9 with
                  | zero =>
                    intro x9 A2 h3 hm9
                    exact absurd hm9 (Nat.not_lt_zero _)
                  | succ d9 ih =>
                    intro x9 A2 h3 hm9 hx hM3 hA1 hA2 hf3
                    obtain ⟨d42g, d43g, d44g, d45g, d46g, d47g, d48g, d49g, d50g, d51g⟩ := id hM3
                    refine z_iload X d_Mod_match_196 rfl ?_
                    refine z_iload_n X d_Mod_match_198 rfl ?_
                    refine z_icmp_le (tgt := 260) X d_Mod_match_199 (by decide) (by omega) (fun p1 => ?_) (fun p1 => ?_)
                    · have hxa : x9 = a := by omega
                      refine e_aload_n X d_Mod_match_260 rfl ?_
                      refine e_get X d_Mod_match_261 fl_Mod_39 d42g (by omega) rfl ?_
                      refine z_iload_n X d_Mod_match_264 rfl ?_
                      refine z_iconst X d_Mod_match_265 ?_
                      refine z_zast X d_Mod_match_266 (j := a) d51g (by omega) (by omega) (by omega) rfl (fun h53 c54 fr55 => ?_)
                      have c56 := (fr55 42 (by omega)).trans d42g
                      have c57 := (fr55 43 (by omega)).trans d43g
                      have c58 := (fr55 44 (by omega)).trans d44g
                      have c59 := (fr55 45 (by omega)).trans d45g
                      have c60 := (fr55 46 (by omega)).trans d46g
                      have c61 := (fr55 47 (by omega)).trans d47g
                      have c62 := (fr55 48 (by omega)).trans d48g
                      have c63 := (fr55 49 (by omega)).trans d49g
                      have c64 := (fr55 50 (by omega)).trans d50g
                      refine z_iinc X d_Mod_match_267 rfl (by decide) ?_
                      refine e_goto (tgt := 43) X d_Mod_match_270 (by decide) ?_
                      refine e_clear 5 ?_
                      refine e_clear 6 ?_
                      exact ih0 (k9 + 1) _ _ (by omega) (by omega) ⟨c56, c57, c58, c59, c60, c61, c62, c63, c64, c54⟩ (by rw [hFn]; exact (fun q q3 q4 => by by_cases h8 : q = a; rw [h8, zup_eq, sht_a]; rfl; rw [zup_ne h8]; exact hA2 q (by omega) q4)) (fun q q3 => (fr55 q (by omega)).trans (hf3 q q3))
                    · obtain ⟨x9, rfl⟩ : ∃ r9, x9 = r9 + 1 := ⟨x9 - 1, by omega⟩
                      have htr := ht.1 x9 (by omega)
                      refine e_aload_n X d_Mod_match_202 rfl ?_
                      refine e_get X d_Mod_match_203 fl_Mod_39 d42g (by omega) rfl ?_
                      refine z_iload X d_Mod_match_206 rfl ?_
                      refine e_aload_n X d_Mod_match_208 rfl ?_
                      refine e_get X d_Mod_match_209 fl_Mod_39 d42g (by omega) rfl ?_
                      refine z_iload X d_Mod_match_212 rfl ?_
                      refine z_iconst X d_Mod_match_214 ?_
                      refine z_isub X d_Mod_match_215 ?_
                      refine z_top (show _ = ((x9 : Nat) : Int) by omega) ?_
                      refine z_zald X d_Mod_match_216 (j := x9) d51g (by omega) (by omega) (by omega) ?_
                      refine z_top (show _ = (b2z (Fw (el_w c p) (el_s c p) t a (cnt (nsc p) k9) x9)) from hA1 x9 (by omega) (by omega)) ?_
                      refine z_if_eq (tgt := 252) X d_Mod_match_217 (by decide) (b2z_r _) (fun p2 => ?_) (fun p2 => ?_)
                      · refine z_iconst X d_Mod_match_252 ?_
                        refine z_top (show _ = (b2z (sht (Fw (el_w c p) (el_s c p) t a (cnt (nsc p) k9)) (p k9) t a (x9 + 1))) from (b2z_f (by rw [sht, b2z_eq p2]; simp)).symm) ?_
                        refine z_zast X d_Mod_match_253 (j := (x9 + 1)) d51g (by omega) (by omega) (by omega) (b2z_nar _) (fun h65 c66 fr67 => ?_)
                        have c68 := (fr67 42 (by omega)).trans d42g
                        have c69 := (fr67 43 (by omega)).trans d43g
                        have c70 := (fr67 44 (by omega)).trans d44g
                        have c71 := (fr67 45 (by omega)).trans d45g
                        have c72 := (fr67 46 (by omega)).trans d46g
                        have c73 := (fr67 47 (by omega)).trans d47g
                        have c74 := (fr67 48 (by omega)).trans d48g
                        have c75 := (fr67 49 (by omega)).trans d49g
                        have c76 := (fr67 50 (by omega)).trans d50g
                        refine z_iinc X d_Mod_match_254 rfl (by decide) ?_
                        refine e_goto (tgt := 196) X d_Mod_match_257 (by decide) ?_
                        rw [show ((x9 + 1 : Nat) : Int) + (-1) = ((x9 : Nat) : Int) by omega]
                        exact ih x9 _ _ (by omega) (by omega) ⟨c68, c69, c70, c71, c72, c73, c74, c75, c76, c66⟩ (fun q q3 q4 => by rw [zup_ne (by omega)]; exact hA1 q q3 (by omega)) (fun q q3 q4 => by by_cases h8 : q = x9 + 1; rw [h8, zup_eq]; rw [zup_ne h8]; exact hA2 q (by omega) q4) (fun q q3 => (fr67 q (by omega)).trans (hf3 q q3))
                      · refine e_aload_n X d_Mod_match_220 rfl ?_
                        refine e_get X d_Mod_match_221 fl_Mod_20 d42g (by omega) rfl ?_
                        refine z_iload X d_Mod_match_224 rfl ?_
                        refine z_iald X d_Mod_match_226 (j := k9) d46g (by omega) (by omega) (by omega) ?_
                        refine z_top (show _ = (p k9) from hck) ?_
                        refine e_aload_n X d_Mod_match_227 rfl ?_
                        refine e_get X d_Mod_match_228 fl_Mod_7 d42g (by omega) rfl ?_
                        refine z_sipush X d_Mod_match_231 (by decide) ?_
                        refine z_iload_n X d_Mod_match_234 rfl ?_
                        refine z_imul X d_Mod_match_235 ?_
                        refine z_iload X d_Mod_match_236 rfl ?_
                        refine z_iadd X d_Mod_match_238 ?_
                        refine z_iconst X d_Mod_match_239 ?_
                        refine z_isub X d_Mod_match_240 ?_
                        refine z_top (show _ = ((160 * s + x9 : Nat) : Int) by omega) ?_
                        refine z_iald X d_Mod_match_241 (j := (160 * s + x9)) d43g (by omega) (by omega) (by omega) ?_
                        refine z_top (show _ = (t x9) from hl2 x9 (by omega)) ?_
                        refine z_callS_I X d_Mod_match_242 cs_Mod_129 (c_Mod_stands hrk htr) rfl rfl ⟨rfl, rfl⟩ rfl (fun z79 h77 hp78 => ?_)
                        obtain ⟨rfl, hh80⟩ := hp78
                        rw [hh80]
                        refine z_if_eq (tgt := 252) X d_Mod_match_245 (by decide) (b2z_r _) (fun p3 => ?_) (fun p3 => ?_)
                        · refine z_iconst X d_Mod_match_252 ?_
                          refine z_top (show _ = (b2z (sht (Fw (el_w c p) (el_s c p) t a (cnt (nsc p) k9)) (p k9) t a (x9 + 1))) from (b2z_f (by rw [sht, b2z_eq p3]; simp)).symm) ?_
                          refine z_zast X d_Mod_match_253 (j := (x9 + 1)) d51g (by omega) (by omega) (by omega) (b2z_nar _) (fun h81 c82 fr83 => ?_)
                          have c84 := (fr83 42 (by omega)).trans d42g
                          have c85 := (fr83 43 (by omega)).trans d43g
                          have c86 := (fr83 44 (by omega)).trans d44g
                          have c87 := (fr83 45 (by omega)).trans d45g
                          have c88 := (fr83 46 (by omega)).trans d46g
                          have c89 := (fr83 47 (by omega)).trans d47g
                          have c90 := (fr83 48 (by omega)).trans d48g
                          have c91 := (fr83 49 (by omega)).trans d49g
                          have c92 := (fr83 50 (by omega)).trans d50g
                          refine z_iinc X d_Mod_match_254 rfl (by decide) ?_
                          refine e_goto (tgt := 196) X d_Mod_match_257 (by decide) ?_
                          rw [show ((x9 + 1 : Nat) : Int) + (-1) = ((x9 : Nat) : Int) by omega]
                          exact ih x9 _ _ (by omega) (by omega) ⟨c84, c85, c86, c87, c88, c89, c90, c91, c92, c82⟩ (fun q q3 q4 => by rw [zup_ne (by omega)]; exact hA1 q q3 (by omega)) (fun q q3 q4 => by by_cases h8 : q = x9 + 1; rw [h8, zup_eq]; rw [zup_ne h8]; exact hA2 q (by omega) q4) (fun q q3 => (fr83 q (by omega)).trans (hf3 q q3))
                        · refine z_iconst X d_Mod_match_248 ?_
                          refine e_goto (tgt := 253) X d_Mod_match_249 (by decide) ?_
                          refine z_top (show _ = (b2z (sht (Fw (el_w c p) (el_s c p) t a (cnt (nsc p) k9)) (p k9) t a (x9 + 1))) from (b2z_t (by rw [sht, b2z_ne p2, b2z_ne p3, decide_eq_true (show a ≤ x9 by omega)]; rfl)).symm) ?_
                          refine z_zast X d_Mod_match_253 (j := (x9 + 1)) d51g (by omega) (by omega) (by omega) (b2z_nar _) (fun h93 c94 fr95 => ?_)
                          have c96 := (fr95 42 (by omega)).trans d42g
                          have c97 := (fr95 43 (by omega)).trans d43g
                          have c98 := (fr95 44 (by omega)).trans d44g
                          have c99 := (fr95 45 (by omega)).trans d45g
                          have c100 := (fr95 46 (by omega)).trans d46g
                          have c101 := (fr95 47 (by omega)).trans d47g
                          have c102 := (fr95 48 (by omega)).trans d48g
                          have c103 := (fr95 49 (by omega)).trans d49g
                          have c104 := (fr95 50 (by omega)).trans d50g
                          refine z_iinc X d_Mod_match_254 rfl (by decide) ?_
                          refine e_goto (tgt := 196) X d_Mod_match_257 (by decide) ?_
                          rw [show ((x9 + 1 : Nat) : Int) + (-1) = ((x9 : Nat) : Int) by omega]
                          exact ih x9 _ _ (by omega) (by omega) ⟨c96, c97, c98, c99, c100, c101, c102, c103, c104, c94⟩ (fun q q3 q4 => by rw [zup_ne (by omega)]; exact hA1 q q3 (by omega)) (fun q q3 q4 => by by_cases h8 : q = x9 + 1; rw [h8, zup_eq]; rw [zup_ne h8]; exact hA2 q (by omega) q4) (fun q q3 => (fr95 q (by omega)).trans (hf3 q q3))
                exact loopO _ n A1 _ (Nat.lt_succ_self _) (by omega) hM2 (fun q q3 q4 => hA q q3 q4) (fun q q3 q4 => absurd q3 (by omega)) hf
            · have hmy : (decide (p (k9 + 1) = 42)) = true := b2z_ne q5
              have hel := el_at (c := c) (show k9 < c by omega) q3
              have hFn : Fw (el_w c p) (el_s c p) t a (cnt (nsc p) (k9 + 1)) = stc (Fw (el_w c p) (el_s c p) t a (cnt (nsc p) k9)) (p k9) t a := by rw [cnt_t (nsc_t q3), Fw, hel.2, hel.1, hmy]; rfl
              refine z_iload_n X d_Mod_match_101 rfl ?_
              refine e_istore X d_Mod_match_102 (by decide) ?_
              have loopS : ∀ (d9 : Nat) (x9 : Nat) (A2 : Nat → Int) (h3 : Nat → va_E), n - x9 < d9 → a ≤ x9 ∧ x9 ≤ n → MC G h3 U Ls K C now last ((c : Nat) : Int) g o en Md ml pts its PP CD PL A2 → (∀ q, a ≤ q → q ≤ x9 → A2 q = b2z (stc (Fw (el_w c p) (el_s c p) t a (cnt (nsc p) k9)) (p k9) t a q)) → (∀ q, x9 < q → q ≤ n → A2 q = b2z (Fw (el_w c p) (el_s c p) t a (cnt (nsc p) k9) q)) → (∀ q, (q < 42 ∨ 52 ≤ q) → h3 q = h q) → Ev k G 7 N 0 0 h3 104 [some (.ref (ad (g_b G) 42)), some (vI ((s : Nat) : Int)), some (vI ((a : Nat) : Int)), some (vI ((n : Nat) : Int)), some (vI ((k9 : Nat) : Int)), some (vI (b2z (decide (p (k9 + 1) = 42)))), some (vI ((x9 : Nat) : Int))] [] := by
                intro d9
                induction d9 with
                | zero =>
                  intro x9 A2 h3 hm9
                  exact absurd hm9 (Nat.not_lt_zero _)
                | succ d9 ih =>
                  intro x9 A2 h3 hm9 hx hM3 hA1 hA2 hf3
                  obtain ⟨d42g, d43g, d44g, d45g, d46g, d47g, d48g, d49g, d50g, d51g⟩ := id hM3
                  refine z_iload X d_Mod_match_104 rfl ?_
                  refine z_iload_n X d_Mod_match_106 rfl ?_
                  refine z_icmp_ge (tgt := 178) X d_Mod_match_107 (by decide) (by omega) (fun p1 => ?_) (fun p1 => ?_)
                  · refine e_goto (tgt := 267) X d_Mod_match_178 (by decide) ?_
                    have hxn : x9 = n := by omega
                    refine z_iinc X d_Mod_match_267 rfl (by decide) ?_
                    refine e_goto (tgt := 43) X d_Mod_match_270 (by decide) ?_
                    refine e_clear 5 ?_
                    refine e_clear 6 ?_
                    exact ih0 (k9 + 1) A2 _ (by omega) (by omega) hM3 (by rw [hFn]; exact (fun q q3 q4 => hA1 q q3 (by omega))) hf3
                  · have htr := ht.1 x9 (by omega)
                    refine e_aload_n X d_Mod_match_110 rfl ?_
                    refine e_get X d_Mod_match_111 fl_Mod_39 d42g (by omega) rfl ?_
                    refine z_iload X d_Mod_match_114 rfl ?_
                    refine z_iconst X d_Mod_match_116 ?_
                    refine z_iadd X d_Mod_match_117 ?_
                    refine e_aload_n X d_Mod_match_118 rfl ?_
                    refine e_get X d_Mod_match_119 fl_Mod_39 d42g (by omega) rfl ?_
                    refine z_iload X d_Mod_match_122 rfl ?_
                    refine z_iconst X d_Mod_match_124 ?_
                    refine z_iadd X d_Mod_match_125 ?_
                    refine z_zald X d_Mod_match_126 (j := (x9 + 1)) d51g (by omega) (by omega) (by omega) ?_
                    refine z_top (show _ = (b2z (Fw (el_w c p) (el_s c p) t a (cnt (nsc p) k9) (x9 + 1))) from hA2 (x9 + 1) (by omega) (by omega)) ?_
                    refine z_if_ne (tgt := 166) X d_Mod_match_127 (by decide) (b2z_r _) (fun p2 => ?_) (fun p2 => ?_)
                    · refine z_iconst X d_Mod_match_166 ?_
                      refine e_goto (tgt := 171) X d_Mod_match_167 (by decide) ?_
                      refine z_top (show _ = (b2z (stc (Fw (el_w c p) (el_s c p) t a (cnt (nsc p) k9)) (p k9) t a (x9 + 1))) from (b2z_t (by rw [stc, b2z_ne p2]; rfl)).symm) ?_
                      refine z_zast X d_Mod_match_171 (j := (x9 + 1)) d51g (by omega) (by omega) (by omega) (b2z_nar _) (fun h1 c2 fr3 => ?_)
                      have c4 := (fr3 42 (by omega)).trans d42g
                      have c5 := (fr3 43 (by omega)).trans d43g
                      have c6 := (fr3 44 (by omega)).trans d44g
                      have c7 := (fr3 45 (by omega)).trans d45g
                      have c8 := (fr3 46 (by omega)).trans d46g
                      have c9 := (fr3 47 (by omega)).trans d47g
                      have c10 := (fr3 48 (by omega)).trans d48g
                      have c11 := (fr3 49 (by omega)).trans d49g
                      have c12 := (fr3 50 (by omega)).trans d50g
                      refine z_iinc X d_Mod_match_172 rfl (by decide) ?_
                      refine e_goto (tgt := 104) X d_Mod_match_175 (by decide) ?_
                      exact ih (x9 + 1) _ _ (by omega) (by omega) ⟨c4, c5, c6, c7, c8, c9, c10, c11, c12, c2⟩ (fun q q3 q4 => by by_cases h8 : q = x9 + 1; rw [h8, zup_eq]; rw [zup_ne h8]; exact hA1 q q3 (by omega)) (fun q q3 q4 => by rw [zup_ne (by omega)]; exact hA2 q (by omega) q4) (fun q q3 => (fr3 q (by omega)).trans (hf3 q q3))
                    · refine e_aload_n X d_Mod_match_130 rfl ?_
                      refine e_get X d_Mod_match_131 fl_Mod_39 d42g (by omega) rfl ?_
                      refine z_iload X d_Mod_match_134 rfl ?_
                      refine z_zald X d_Mod_match_136 (j := x9) d51g (by omega) (by omega) (by omega) ?_
                      refine z_top (show _ = (b2z (stc (Fw (el_w c p) (el_s c p) t a (cnt (nsc p) k9)) (p k9) t a x9)) from hA1 x9 (by omega) (by omega)) ?_
                      refine z_if_eq (tgt := 170) X d_Mod_match_137 (by decide) (b2z_r _) (fun p3 => ?_) (fun p3 => ?_)
                      · refine z_iconst X d_Mod_match_170 ?_
                        refine z_top (show _ = (b2z (stc (Fw (el_w c p) (el_s c p) t a (cnt (nsc p) k9)) (p k9) t a (x9 + 1))) from (b2z_f (by rw [stc, b2z_eq p2, b2z_eq p3]; simp)).symm) ?_
                        refine z_zast X d_Mod_match_171 (j := (x9 + 1)) d51g (by omega) (by omega) (by omega) (b2z_nar _) (fun h13 c14 fr15 => ?_)
                        have c16 := (fr15 42 (by omega)).trans d42g
                        have c17 := (fr15 43 (by omega)).trans d43g
                        have c18 := (fr15 44 (by omega)).trans d44g
                        have c19 := (fr15 45 (by omega)).trans d45g
                        have c20 := (fr15 46 (by omega)).trans d46g
                        have c21 := (fr15 47 (by omega)).trans d47g
                        have c22 := (fr15 48 (by omega)).trans d48g
                        have c23 := (fr15 49 (by omega)).trans d49g
                        have c24 := (fr15 50 (by omega)).trans d50g
                        refine z_iinc X d_Mod_match_172 rfl (by decide) ?_
                        refine e_goto (tgt := 104) X d_Mod_match_175 (by decide) ?_
                        exact ih (x9 + 1) _ _ (by omega) (by omega) ⟨c16, c17, c18, c19, c20, c21, c22, c23, c24, c14⟩ (fun q q3 q4 => by by_cases h8 : q = x9 + 1; rw [h8, zup_eq]; rw [zup_ne h8]; exact hA1 q q3 (by omega)) (fun q q3 q4 => by rw [zup_ne (by omega)]; exact hA2 q (by omega) q4) (fun q q3 => (fr15 q (by omega)).trans (hf3 q q3))
                      · refine e_aload_n X d_Mod_match_140 rfl ?_
                        refine e_get X d_Mod_match_141 fl_Mod_20 d42g (by omega) rfl ?_
                        refine z_iload X d_Mod_match_144 rfl ?_
                        refine z_iald X d_Mod_match_146 (j := k9) d46g (by omega) (by omega) (by omega) ?_
                        refine z_top (show _ = (p k9) from hck) ?_
                        refine e_aload_n X d_Mod_match_147 rfl ?_
                        refine e_get X d_Mod_match_148 fl_Mod_7 d42g (by omega) rfl ?_
                        refine z_sipush X d_Mod_match_151 (by decide) ?_
                        refine z_iload_n X d_Mod_match_154 rfl ?_
                        refine z_imul X d_Mod_match_155 ?_
                        refine z_iload X d_Mod_match_156 rfl ?_
                        refine z_iadd X d_Mod_match_158 ?_
                        refine z_iald X d_Mod_match_159 (j := ((160 * s) + x9)) d43g (by omega) (by omega) (by omega) ?_
                        refine z_top (show _ = (t x9) from hl2 x9 (by omega)) ?_
                        refine z_callS_I X d_Mod_match_160 cs_Mod_129 (c_Mod_stands hrk htr) rfl rfl ⟨rfl, rfl⟩ rfl (fun z27 h25 hp26 => ?_)
                        obtain ⟨rfl, hh28⟩ := hp26
                        rw [hh28]
                        refine z_if_eq (tgt := 170) X d_Mod_match_163 (by decide) (b2z_r _) (fun p4 => ?_) (fun p4 => ?_)
                        · refine z_iconst X d_Mod_match_170 ?_
                          refine z_top (show _ = (b2z (stc (Fw (el_w c p) (el_s c p) t a (cnt (nsc p) k9)) (p k9) t a (x9 + 1))) from (b2z_f (by rw [stc, b2z_eq p2, b2z_eq p4]; simp)).symm) ?_
                          refine z_zast X d_Mod_match_171 (j := (x9 + 1)) d51g (by omega) (by omega) (by omega) (b2z_nar _) (fun h29 c30 fr31 => ?_)
                          have c32 := (fr31 42 (by omega)).trans d42g
                          have c33 := (fr31 43 (by omega)).trans d43g
                          have c34 := (fr31 44 (by omega)).trans d44g
                          have c35 := (fr31 45 (by omega)).trans d45g
                          have c36 := (fr31 46 (by omega)).trans d46g
                          have c37 := (fr31 47 (by omega)).trans d47g
                          have c38 := (fr31 48 (by omega)).trans d48g
                          have c39 := (fr31 49 (by omega)).trans d49g
                          have c40 := (fr31 50 (by omega)).trans d50g
                          refine z_iinc X d_Mod_match_172 rfl (by decide) ?_
                          refine e_goto (tgt := 104) X d_Mod_match_175 (by decide) ?_
                          exact ih (x9 + 1) _ _ (by omega) (by omega) ⟨c32, c33, c34, c35, c36, c37, c38, c39, c40, c30⟩ (fun q q3 q4 => by by_cases h8 : q = x9 + 1; rw [h8, zup_eq]; rw [zup_ne h8]; exact hA1 q q3 (by omega)) (fun q q3 q4 => by rw [zup_ne (by omega)]; exact hA2 q (by omega) q4) (fun q q3 => (fr31 q (by omega)).trans (hf3 q q3))
                        · refine z_iconst X d_Mod_match_166 ?_
                          refine e_goto (tgt := 171) X d_Mod_match_167 (by decide) ?_
                          refine z_top (show _ = (b2z (stc (Fw (el_w c p) (el_s c p) t a (cnt (nsc p) k9)) (p k9) t a (x9 + 1))) from (b2z_t (by rw [stc, b2z_eq p2, b2z_ne p3, b2z_ne p4, decide_eq_true (show a ≤ x9 by omega)]; rfl)).symm) ?_
                          refine z_zast X d_Mod_match_171 (j := (x9 + 1)) d51g (by omega) (by omega) (by omega) (b2z_nar _) (fun h41 c42 fr43 => ?_)
                          have c44 := (fr43 42 (by omega)).trans d42g
                          have c45 := (fr43 43 (by omega)).trans d43g
                          have c46 := (fr43 44 (by omega)).trans d44g
                          have c47 := (fr43 45 (by omega)).trans d45g
                          have c48 := (fr43 46 (by omega)).trans d46g
                          have c49 := (fr43 47 (by omega)).trans d47g
                          have c50 := (fr43 48 (by omega)).trans d48g
                          have c51 := (fr43 49 (by omega)).trans d49g
                          have c52 := (fr43 50 (by omega)).trans d50g
                          refine z_iinc X d_Mod_match_172 rfl (by decide) ?_
                          refine e_goto (tgt := 104) X d_Mod_match_175 (by decide) ?_
                          exact ih (x9 + 1) _ _ (by omega) (by omega) ⟨c44, c45, c46, c47, c48, c49, c50, c51, c52, c42⟩ (fun q q3 q4 => by by_cases h8 : q = x9 + 1; rw [h8, zup_eq]; rw [zup_ne h8]; exact hA1 q q3 (by omega)) (fun q q3 q4 => by rw [zup_ne (by omega)]; exact hA2 q (by omega) q4) (fun q q3 => (fr43 q (by omega)).trans (hf3 q q3))
              exact loopS _ a A1 _ (Nat.lt_succ_self _) (by omega) hM2 (fun q q3 q4 => by rw [show q = a by omega, hA a (Nat.le_refl _) ha, stc_a]) (fun q q3 q4 => hA q (by omega) q4) hf
        refine z_iload X d_Mod_match_52 rfl ?_
        refine z_iconst X d_Mod_match_54 ?_
        refine z_iadd X d_Mod_match_55 ?_
        refine e_aload_n X d_Mod_match_56 rfl ?_
        refine e_get X d_Mod_match_57 fl_Mod_45 d42f (by omega) rfl ?_
        refine z_icmp_ge (tgt := 81) X d_Mod_match_60 (by decide) (by omega) (fun q2 => ?_) (fun q2 => ?_)
        · refine z_iconst X d_Mod_match_81 ?_
          refine z_top (show _ = b2z (decide (p (k9 + 1) = 42)) from (b2z_f (decide_eq_false (by have h9 := hcx.2 (k9 + 1) (by omega); omega))).symm) ?_
          exact J82
        · refine e_aload_n X d_Mod_match_63 rfl ?_
          refine e_get X d_Mod_match_64 fl_Mod_20 d42f (by omega) rfl ?_
          refine z_iload X d_Mod_match_67 rfl ?_
          refine z_iconst X d_Mod_match_69 ?_
          refine z_iadd X d_Mod_match_70 ?_
          refine z_iald X d_Mod_match_71 (j := (k9 + 1)) d46f (by omega) (by omega) (by omega) ?_
          refine z_top (show _ = (p (k9 + 1)) from hC (k9 + 1) (by omega)) ?_
          refine z_bipush X d_Mod_match_72 (by decide) ?_
          refine z_icmp_ne (tgt := 81) X d_Mod_match_74 (by decide) (by omega) (fun q6 => ?_) (fun q6 => ?_)
          · refine z_iconst X d_Mod_match_81 ?_
            refine z_top (show _ = b2z (decide (p (k9 + 1) = 42)) from (b2z_f (decide_eq_false q6)).symm) ?_
            exact J82
          · refine z_iconst X d_Mod_match_77 ?_
            refine e_goto (tgt := 82) X d_Mod_match_78 (by decide) ?_
            refine z_top (show _ = b2z (decide (p (k9 + 1) = 42)) from (b2z_t (decide_eq_true q6)).symm) ?_
            exact J82
  have loopA : ∀ (d9 : Nat) (k9 : Nat) (A1 : Nat → Int) (h2 : Nat → va_E), n + 1 - k9 < d9 → k9 ≤ n + 1 → MC G h2 U Ls K C now last ((c : Nat) : Int) g o en Md ml pts its PP CD PL A1 → (∀ q, q < k9 → A1 q = b2z (decide (q = a))) → (∀ q, (q < 42 ∨ 52 ≤ q) → h2 q = h q) → Ev k G 7 N 0 0 h2 10 [some (.ref (ad (g_b G) 42)), some (vI ((s : Nat) : Int)), some (vI ((a : Nat) : Int)), some (vI ((n : Nat) : Int)), some (vI ((k9 : Nat) : Int)), none, none] [] := by
    intro d9
    induction d9 with
    | zero =>
      intro k9 A1 h2 hm9
      exact absurd hm9 (Nat.not_lt_zero _)
    | succ d9 ih =>
      intro k9 A1 h2 hm9 hk hM2 hA hf
      obtain ⟨d42a, d43a, d44a, d45a, d46a, d47a, d48a, d49a, d50a, d51a⟩ := id hM2
      refine z_iload X d_Mod_match_10 rfl ?_
      refine z_iload_n X d_Mod_match_12 rfl ?_
      refine z_icmp_gt (tgt := 40) X d_Mod_match_13 (by decide) (by omega) (fun q1 => ?_) (fun q1 => ?_)
      · refine z_iconst X d_Mod_match_40 ?_
        refine e_istore X d_Mod_match_41 (by decide) ?_
        exact loopK _ 0 A1 _ (Nat.lt_succ_self _) (Nat.zero_le _) hM2 (fun q q3 q4 => hA q (by omega)) hf
      · refine e_aload_n X d_Mod_match_16 rfl ?_
        refine e_get X d_Mod_match_17 fl_Mod_39 d42a (by omega) rfl ?_
        refine z_iload X d_Mod_match_20 rfl ?_
        refine z_iload X d_Mod_match_22 rfl ?_
        refine z_iload_n X d_Mod_match_24 rfl ?_
        refine z_icmp_ne (tgt := 32) X d_Mod_match_25 (by decide) (by omega) (fun q2 => ?_) (fun q2 => ?_)
        · refine z_iconst X d_Mod_match_32 ?_
          refine z_top (show _ = (b2z (decide (k9 = a))) from (b2z_f (decide_eq_false (by omega))).symm) ?_
          refine z_zast X d_Mod_match_33 (j := k9) d51a (by omega) (by omega) (by omega) (b2z_nar _) (fun h105 c106 fr107 => ?_)
          have c108 := (fr107 42 (by omega)).trans d42a
          have c109 := (fr107 43 (by omega)).trans d43a
          have c110 := (fr107 44 (by omega)).trans d44a
          have c111 := (fr107 45 (by omega)).trans d45a
          have c112 := (fr107 46 (by omega)).trans d46a
          have c113 := (fr107 47 (by omega)).trans d47a
          have c114 := (fr107 48 (by omega)).trans d48a
          have c115 := (fr107 49 (by omega)).trans d49a
          have c116 := (fr107 50 (by omega)).trans d50a
          refine z_iinc X d_Mod_match_34 rfl (by decide) ?_
          refine e_goto (tgt := 10) X d_Mod_match_37 (by decide) ?_
          exact ih (k9 + 1) _ _ (by omega) (by omega) ⟨c108, c109, c110, c111, c112, c113, c114, c115, c116, c106⟩ (fun q q3 => by by_cases h8 : q = k9; rw [h8, zup_eq]; rw [zup_ne h8]; exact hA q (by omega)) (fun q q3 => (fr107 q (by omega)).trans (hf q q3))
        · refine z_iconst X d_Mod_match_28 ?_
          refine e_goto (tgt := 33) X d_Mod_match_29 (by decide) ?_
          refine z_top (show _ = (b2z (decide (k9 = a))) from (b2z_t (decide_eq_true (by omega))).symm) ?_
          refine z_zast X d_Mod_match_33 (j := k9) d51a (by omega) (by omega) (by omega) (b2z_nar _) (fun h117 c118 fr119 => ?_)
          have c120 := (fr119 42 (by omega)).trans d42a
          have c121 := (fr119 43 (by omega)).trans d43a
          have c122 := (fr119 44 (by omega)).trans d44a
          have c123 := (fr119 45 (by omega)).trans d45a
          have c124 := (fr119 46 (by omega)).trans d46a
          have c125 := (fr119 47 (by omega)).trans d47a
          have c126 := (fr119 48 (by omega)).trans d48a
          have c127 := (fr119 49 (by omega)).trans d49a
          have c128 := (fr119 50 (by omega)).trans d50a
          refine z_iinc X d_Mod_match_34 rfl (by decide) ?_
          refine e_goto (tgt := 10) X d_Mod_match_37 (by decide) ?_
          exact ih (k9 + 1) _ _ (by omega) (by omega) ⟨c120, c121, c122, c123, c124, c125, c126, c127, c128, c118⟩ (fun q q3 => by by_cases h8 : q = k9; rw [h8, zup_eq]; rw [zup_ne h8]; exact hA q (by omega)) (fun q q3 => (fr119 q (by omega)).trans (hf q q3))
  exact loopA _ 0 AT _ (Nat.lt_succ_self _) (Nat.zero_le _) hM (fun q hq => absurd hq (Nat.not_lt_zero _)) (fun q _ => rfl)

set_option maxRecDepth 100000 in
set_option maxHeartbeats 4000000 in
theorem c_Mod_find {l : Launch} {G : lx_G} {N : Nat} {h : Nat → va_E} {now last : Nat} {T : Nat → tx_T} {c : Nat} {p : Nat → Int} {kp : Nat → Bool} {V : Nat → tx_T} {g o en : Int} {n : Nat} {t : Nat → Int} {v a : Int} (hD : MD G h now last T c p kp V g o en) (hN : 52 ≤ N) (hnt : T now = (n, t)) (hr_v : -2147483648 ≤ v ∧ v < 2147483648) (hr_a : -2147483648 ≤ a ∧ a < 2147483648) : CtI l G m_Mod_find N [.ref (ad (g_b G) 42), vI (v), vI (a)] h (fun z h' => z = (s_find n t c p kp V en v a).1 ∧ MD G h' now last T c p kp V g o (s_find n t c p kp V en v a).2 ∧ (∀ q, (q < 42 ∨ 52 ≤ q) → h' q = h q)) := by
  obtain ⟨U, Ls, K, C, Md, ml, pts, its, PP, CD, PL, AT, hM, hsl, hsv, hK, hC, hcx, hc24, hnl, hgg, hoo, hee⟩ := hD
  have hS := hsl now hnl.1
  rw [hnt] at hS
  have hl1 := hS.2.1
  have htx := hS.2.2.2
  dsimp only at hl1 htx
  refine zI_of (by decide) rfl rfl ?_
  intro k X Q
  have X : Cx k G R_Mod b_Mod_find 6 rm_Mod_find := X
  have Q : Rt k G (some (.int)) N 0 0 (pI (fun z h' => z = (s_find n t c p kp V en v a).1 ∧ MD G h' now last T c p kp V g o (s_find n t c p kp V en v a).2 ∧ (∀ q, (q < 42 ∨ 52 ≤ q) → h' q = h q))) := Q
  show Ev k G 6 N 0 0 h 0 [some (.ref (ad (g_b G) 42)), some (vI (v)), some (vI (a)), none, none, none] []
  obtain ⟨d42, d43, d44, d45, d46, d47, d48, d49, d50, d51⟩ := id hM
  refine e_aload_n X d_Mod_find_0 rfl ?_
  refine z_iload_n X d_Mod_find_1 rfl ?_
  refine z_callV_I X d_Mod_find_2 cv_Mod_121 (c_Mod_slot (kp := kp) hM hN hK hr_v) d42 (by omega) rfl rfl ⟨rfl, rfl⟩ rfl (fun z3 h1 hp2 => ?_)
  obtain ⟨rfl, hh4⟩ := hp2
  rw [hh4]
  cases hv_v : isv kp v
  · refine z_top (show _ = -1 from slz_no hv_v) ?_
    refine e_istore_n X d_Mod_find_5 (by decide) ?_
    refine z_iload_n X d_Mod_find_6 rfl ?_
    refine z_if_lt (tgt := 31) X d_Mod_find_7 (by decide) (by omega) (fun q1 => ?_) (fun q1 => ?_)
    · refine z_iconst X d_Mod_find_31 ?_
      have hs9 : s_find n t c p kp V en v a = (-1, en) := by unfold s_find; rw [hv_v]; rfl
      exact z_ireturn X Q d_Mod_find_32 rfl ⟨by rw [hs9], by rw [hs9]; exact ⟨_, _, _, _, _, _, _, _, _, _, _, _, hM, hsl, hsv, hK, hC, hcx, hc24, hnl, hgg, hoo, hee⟩, fun q _ => rfl⟩
    · omega
  · obtain ⟨j, rfl, hj4_v, hsz_v, hs13_v, hSv_v⟩ := md_ver hnt hsl hsv hnl hv_v
    refine z_top (show _ = ((svx now j : Nat) : Int) from hsz_v) ?_
    have hl1_v := hSv_v.2.1
    have htx_v := hSv_v.2.2.2
    refine e_istore_n X d_Mod_find_5 (by decide) ?_
    refine z_iload_n X d_Mod_find_6 rfl ?_
    refine z_if_lt (tgt := 31) X d_Mod_find_7 (by decide) (by omega) (fun q1 => ?_) (fun q1 => ?_)
    · omega
    · refine z_iload_n X d_Mod_find_10 rfl ?_
      refine z_if_lt (tgt := 31) X d_Mod_find_11 (by decide) (by omega) (fun q2 => ?_) (fun q2 => ?_)
      · refine z_iconst X d_Mod_find_31 ?_
        have hs9 : s_find n t c p kp V en ((j : Nat) : Int) a = (-1, en) := by unfold s_find; rw [hv_v, Bool.true_and, show ((j : Nat) : Int).toNat = j from rfl, decide_eq_false (show ¬ 0 ≤ a by omega)]; rfl
        exact z_ireturn X Q d_Mod_find_32 rfl ⟨by rw [hs9], by rw [hs9]; exact ⟨_, _, _, _, _, _, _, _, _, _, _, _, hM, hsl, hsv, hK, hC, hcx, hc24, hnl, hgg, hoo, hee⟩, fun q _ => rfl⟩
      · refine z_iload_n X d_Mod_find_14 rfl ?_
        refine e_aload_n X d_Mod_find_15 rfl ?_
        refine e_get X d_Mod_find_16 fl_Mod_13 d42 (by omega) rfl ?_
        refine z_iload_n X d_Mod_find_19 rfl ?_
        refine z_iald X d_Mod_find_20 (j := (svx now j)) d44 (by omega) (by omega) (by omega) ?_
        refine z_top (show _ = (((vtx n t V j).1 : Nat) : Int) from hSv_v.1) ?_
        refine z_icmp_gt (tgt := 31) X d_Mod_find_21 (by decide) (by omega) (fun q3 => ?_) (fun q3 => ?_)
        · refine z_iconst X d_Mod_find_31 ?_
          have hs9 : s_find n t c p kp V en ((j : Nat) : Int) a = (-1, en) := by unfold s_find; rw [hv_v, Bool.true_and, show ((j : Nat) : Int).toNat = j from rfl, decide_eq_false (show ¬ a ≤ (((vtx n t V j).1 : Nat) : Int) by omega), Bool.and_false]; rfl
          exact z_ireturn X Q d_Mod_find_32 rfl ⟨by rw [hs9], by rw [hs9]; exact ⟨_, _, _, _, _, _, _, _, _, _, _, _, hM, hsl, hsv, hK, hC, hcx, hc24, hnl, hgg, hoo, hee⟩, fun q _ => rfl⟩
        · refine e_aload_n X d_Mod_find_24 rfl ?_
          refine z_callV_I X d_Mod_find_25 cv_Mod_132 (c_Mod_isPattern hM hN hC hcx hc24) d42 (by omega) rfl rfl ⟨rfl, rfl⟩ rfl (fun z7 h5 hp6 => ?_)
          obtain ⟨rfl, hh8⟩ := hp6
          rw [hh8]
          refine z_if_ne (tgt := 33) X d_Mod_find_28 (by decide) (b2z_r _) (fun q4 => ?_) (fun q4 => ?_)
          · obtain ⟨i, rfl⟩ : ∃ i : Nat, a = (i : Int) := ⟨a.toNat, by omega⟩
            have hs9 : s_find n t c p kp V en ((j : Nat) : Int) ((i : Nat) : Int) = ffd (cnt (nsc p) c) (el_w c p) (el_s c p) (vtx n t V j).1 (vtx n t V j).2 en ((vtx n t V j).1 + 1 - i) := by
              unfold s_find; rw [hv_v, Bool.true_and, show ((j : Nat) : Int).toNat = j from rfl, decide_eq_true (show 0 ≤ ((i : Nat) : Int) by omega), decide_eq_true (show ((i : Nat) : Int) ≤ (((vtx n t V j).1 : Nat) : Int) by omega)]
              show fd c p _ _ en i = _
              unfold fd; rw [b2z_ne q4, if_pos rfl, show (vtx n t V j).1 + 1 - i = (vtx n t V j).1 - i + 1 by omega]
            refine z_iload_n X d_Mod_find_33 rfl ?_
            refine e_istore X d_Mod_find_34 (by decide) ?_
            have loop : ∀ (d9 : Nat) (k9 : Nat) (A1 : Nat → Int) (h2 : Nat → va_E), (vtx n t V j).1 + 1 - k9 < d9 → i ≤ k9 ∧ k9 ≤ (vtx n t V j).1 + 1 → MC G h2 U Ls K C ((now : Nat) : Int) ((last : Nat) : Int) ((c : Nat) : Int) g o en Md ml pts its PP CD PL A1 → ffd (cnt (nsc p) c) (el_w c p) (el_s c p) (vtx n t V j).1 (vtx n t V j).2 en ((vtx n t V j).1 + 1 - i) = ffd (cnt (nsc p) c) (el_w c p) (el_s c p) (vtx n t V j).1 (vtx n t V j).2 en ((vtx n t V j).1 + 1 - k9) → (∀ q, (q < 42 ∨ 52 ≤ q) → h2 q = h q) → Ev k G 6 N 0 0 h2 36 [some (.ref (ad (g_b G) 42)), some (vI ((j : Nat) : Int)), some (vI ((i : Nat) : Int)), some (vI ((svx now j : Nat) : Int)), some (vI ((k9 : Nat) : Int)), none] [] := by
              intro d9
              induction d9 with
              | zero =>
                intro k9 A1 h2 hm9
                exact absurd hm9 (Nat.not_lt_zero _)
              | succ d9 ih =>
                intro k9 A1 h2 hm9 hk hM2 hff hf
                obtain ⟨d42e, d43e, d44e, d45e, d46e, d47e, d48e, d49e, d50e, d51e⟩ := id hM2
                refine z_iload X d_Mod_find_36 rfl ?_
                refine e_aload_n X d_Mod_find_38 rfl ?_
                refine e_get X d_Mod_find_39 fl_Mod_13 d42e (by omega) rfl ?_
                refine z_iload_n X d_Mod_find_42 rfl ?_
                refine z_iald X d_Mod_find_43 (j := (svx now j)) d44e (by omega) (by omega) (by omega) ?_
                refine z_top (show _ = (((vtx n t V j).1 : Nat) : Int) from hSv_v.1) ?_
                refine z_icmp_gt (tgt := 76) X d_Mod_find_44 (by decide) (by omega) (fun q5 => ?_) (fun q5 => ?_)
                · have hke : (vtx n t V j).1 + 1 - k9 = 0 := by omega
                  rw [hke] at hff
                  refine z_iconst X d_Mod_find_76 ?_
                  exact z_ireturn X Q d_Mod_find_77 rfl ⟨by rw [hs9, hff]; rfl, by rw [hs9, hff]; exact ⟨_, _, _, _, _, _, _, _, _, _, _, _, hM2, hsl, hsv, hK, hC, hcx, hc24, hnl, hgg, hoo, hee⟩, hf⟩
                · refine e_aload_n X d_Mod_find_47 rfl ?_
                  refine z_iload_n X d_Mod_find_48 rfl ?_
                  refine z_iload X d_Mod_find_49 rfl ?_
                  refine z_callV_I X d_Mod_find_51 cv_Mod_136 (c_Mod_match (n := (vtx n t V j).1) (t := (vtx n t V j).2) hM2 hN hs13_v hSv_v hC hcx hc24 (by omega)) d42e (by omega) rfl rfl ⟨rfl, rfl⟩ rfl (fun z11 h9 hp10 => ?_)
                  obtain ⟨rfl, ⟨A2, hM3⟩, hf3⟩ := hp10
                  obtain ⟨d42m, d43m, d44m, d45m, d46m, d47m, d48m, d49m, d50m, d51m⟩ := id hM3
                  have hrr := rmt_rg (w := el_w c p) (s := el_s c p) (t := (vtx n t V j).2) (E := cnt (nsc p) c) hl1_v ((vtx n t V j).1 - k9) (cnt (nsc p) c) (Nat.le_refl _)
                  have hst : ffd (cnt (nsc p) c) (el_w c p) (el_s c p) (vtx n t V j).1 (vtx n t V j).2 en ((vtx n t V j).1 + 1 - k9) = if rmt (cnt (nsc p) c) (el_w c p) (el_s c p) (vtx n t V j).1 (vtx n t V j).2 ((vtx n t V j).1 - k9) (cnt (nsc p) c) = -1 then ffd (cnt (nsc p) c) (el_w c p) (el_s c p) (vtx n t V j).1 (vtx n t V j).2 en ((vtx n t V j).1 + 1 - (k9 + 1)) else (((k9 : Nat) : Int), rmt (cnt (nsc p) c) (el_w c p) (el_s c p) (vtx n t V j).1 (vtx n t V j).2 ((vtx n t V j).1 - k9) (cnt (nsc p) c)) := by rw [show (vtx n t V j).1 + 1 - k9 = ((vtx n t V j).1 - k9) + 1 by omega, ffd, show (vtx n t V j).1 + 1 - (k9 + 1) = (vtx n t V j).1 - k9 by omega, show (vtx n t V j).1 - ((vtx n t V j).1 - k9) = k9 by omega]
                  have hf4 : ∀ q, (q < 42 ∨ 52 ≤ q) → h9 q = h q := fun q q1 => (hf3 q q1).trans (hf q q1)
                  refine e_istore X d_Mod_find_54 (by decide) ?_
                  refine z_iload X d_Mod_find_56 rfl ?_
                  refine z_if_lt (tgt := 70) X d_Mod_find_58 (by decide) (by omega) (fun q6 => ?_) (fun q6 => ?_)
                  · refine z_iinc X d_Mod_find_70 rfl (by decide) ?_
                    refine e_goto (tgt := 36) X d_Mod_find_73 (by decide) ?_
                    refine e_clear 5 ?_
                    exact ih (k9 + 1) A2 _ (by omega) (by omega) hM3 (by rw [hff, hst, if_pos (by omega)]) hf4
                  · refine e_aload_n X d_Mod_find_61 rfl ?_
                    refine z_iload X d_Mod_find_62 rfl ?_
                    refine z_put X d_Mod_find_64 fl_Mod_42 d42m (by omega) (Nat.le_of_ble_eq_true rfl) rfl rfl (fun h12 c13 fr14 => ?_)
                    have c13 : h12 42 = ob ci_Mod [.ref (ad (g_b G) 43), .ref (ad (g_b G) 44), vI ((now : Nat) : Int), vI ((last : Nat) : Int), .ref (ad (g_b G) 45), .ref (ad (g_b G) 46), vI ((c : Nat) : Int), vI (g), vI (o), .ref (ad (g_b G) 47), vI (ml), vI (pts), .ref (ad (g_b G) 48), .ref (ad (g_b G) 49), vI (its), .ref (ad (g_b G) 50), .ref (ad (g_b G) 51), vI (rmt (cnt (nsc p) c) (el_w c p) (el_s c p) (vtx n t V j).1 (vtx n t V j).2 ((vtx n t V j).1 - k9) (cnt (nsc p) c))] := c13
                    have c15 := (fr14 43 (by omega)).trans d43m
                    have c16 := (fr14 44 (by omega)).trans d44m
                    have c17 := (fr14 45 (by omega)).trans d45m
                    have c18 := (fr14 46 (by omega)).trans d46m
                    have c19 := (fr14 47 (by omega)).trans d47m
                    have c20 := (fr14 48 (by omega)).trans d48m
                    have c21 := (fr14 49 (by omega)).trans d49m
                    have c22 := (fr14 50 (by omega)).trans d50m
                    have c23 := (fr14 51 (by omega)).trans d51m
                    refine z_iload X d_Mod_find_67 rfl ?_
                    rw [if_neg (by omega)] at hst
                    exact z_ireturn X Q d_Mod_find_69 rfl ⟨by rw [hs9, hff, hst], by rw [hs9, hff, hst]; exact ⟨_, _, _, _, _, _, _, _, _, _, _, _, ⟨c13, c15, c16, c17, c18, c19, c20, c21, c22, c23⟩, hsl, hsv, hK, hC, hcx, hc24, hnl, hgg, hoo, (by omega)⟩, fun q q1 => (fr14 q (by omega)).trans (hf4 q q1)⟩
            exact loop _ i AT _ (Nat.lt_succ_self _) (by omega) hM rfl (fun q _ => rfl)
          · refine z_iconst X d_Mod_find_31 ?_
            have hs9 : s_find n t c p kp V en ((j : Nat) : Int) a = (-1, en) := by unfold s_find; rw [hv_v, Bool.true_and, show ((j : Nat) : Int).toNat = j from rfl, decide_eq_true (show 0 ≤ a by omega), decide_eq_true (show a ≤ (((vtx n t V j).1 : Nat) : Int) by omega)]; show fd c p _ _ en _ = _; unfold fd; rw [b2z_eq q4]; rfl
            exact z_ireturn X Q d_Mod_find_32 rfl ⟨by rw [hs9], by rw [hs9]; exact ⟨_, _, _, _, _, _, _, _, _, _, _, _, hM, hsl, hsv, hK, hC, hcx, hc24, hnl, hgg, hoo, hee⟩, fun q _ => rfl⟩

