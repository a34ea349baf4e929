theorem sel_zup {B : Nat → Bool} {p : Nat} {f : Nat → Int} {v : Int} (h : sel B p f) : sel B p (zup f (cnt B p) v) := by
  intro q hq hb
  rw [zup_ne (by have := cnt_lt hb hq; omega)]
  exact h q hq hb
theorem bg3_at {n : Nat} {t c : Nat → Int} (ht : tx_ok n t) (hc : ∀ r, r < n → bg1 t r = true → c (cnt (bg1 t) r) = cod t r) {q : Nat} (hq : q < n) (hb : bg1 t q = true) : bg3 t q = if cnt (bg1 t) q = 0 then true else !mbn (c (cnt (bg1 t) q - 1)) (ld c (cnt (bg1 t) q - 1)) (fr c (cnt (bg1 t) q - 1)) (c (cnt (bg1 t) q)) := by
  have hw := wk_codes ht q (fun r hr hbr => hc r (by omega) hbr)
  unfold bg3
  rw [hb, Bool.true_and]
  by_cases h0 : cnt (bg1 t) q = 0
  · rw [if_pos h0] at hw
    rw [if_pos h0, hw]
    rfl
  · rw [if_neg h0] at hw
    rw [if_neg h0, hw, mbn_jn, hc q hq hb]
    dsimp only
    obtain ⟨r, r1, r2, r3⟩ := cnt_at (show cnt (bg1 t) q - 1 < cnt (bg1 t) q by omega)
    have h5 := hc r (by omega) r2
    rw [r3] at h5
    have h6 := cod_rg ht (show r < n by omega)
    rw [decide_eq_false (show ¬ c (cnt (bg1 t) q - 1) = -1 by rw [h5]; omega), Bool.false_or]
theorem cd_rg {n : Nat} {t c : Nat → Int} (ht : tx_ok n t) (hc : ∀ r, r < n → bg1 t r = true → c (cnt (bg1 t) r) = cod t r) {j : Nat} (hj : j < cnt (bg1 t) n) : 0 ≤ c j ∧ c j < 1114112 := by
  obtain ⟨r, r1, r2, r3⟩ := cnt_at hj
  have h5 := hc r r1 r2
  rw [r3] at h5
  rw [h5]
  exact cod_rg ht r1
set_option maxRecDepth 100000 in
set_option maxHeartbeats 4000000 in
theorem c_Mod_findItems {l : Launch} {G : lx_G} {N : Nat} {h : Nat → va_E} {U Ls K C : Nat → Int} {now last cl g o en : Int} {Md : Nat → Int} {ml pts its : Int} {PP CD PL AT : Nat → Int} {s n : Nat} {t : Nat → Int} {m : Int} (hM : MC G h U Ls K C now last cl g o en Md ml pts its PP CD PL AT) (hN : 52 ≤ N) (hs13 : s < 13) (hS : Sl U Ls s (n, t)) (hm : 0 ≤ m ∧ m ≤ 3) : CtV l G m_Mod_findItems N [.ref (ad (g_b G) 42), vI ((s : Nat) : Int), vI (m)] h (fun h' => (∃ pts' PP' CD' PL', MC G h' U Ls K C now last cl g o en Md ml pts' ((cnt (bg m n t) (n + 1) : Nat) : Int) PP' CD' PL' AT ∧ sel (bg m n t) (n + 1) PL' ∧ PL' (cnt (bg m n t) (n + 1)) = ((n : Nat) : Int)) ∧ ∀ q, (q < 42 ∨ 52 ≤ q) → h' q = h q) := by
  refine zV_of (by decide) rfl rfl ?_
  intro k X Q
  have X : Cx k G R_Mod b_Mod_findItems 4 rm_Mod_findItems := X
  have Q : Rt k G none N 0 0 (pV (fun h' => (∃ pts' PP' CD' PL', MC G h' U Ls K C now last cl g o en Md ml pts' ((cnt (bg m n t) (n + 1) : Nat) : Int) PP' CD' PL' AT ∧ sel (bg m n t) (n + 1) PL' ∧ PL' (cnt (bg m n t) (n + 1)) = ((n : Nat) : Int)) ∧ ∀ q, (q < 42 ∨ 52 ≤ q) → h' q = h q)) := Q
  show Ev k G 4 N 0 0 h 0 [some (.ref (ad (g_b G) 42)), some (vI ((s : Nat) : Int)), some (vI (m)), none] []
  obtain ⟨d42, d43, d44, d45, d46, d47, d48, d49, d50, d51⟩ := id hM
  obtain ⟨hl0, hl1, hl2, ht⟩ := hS
  dsimp only at hl0 hl1 hl2 ht
  refine e_aload_n X d_Mod_findItems_0 rfl ?_
  refine z_iconst X d_Mod_findItems_1 ?_
  refine z_put X d_Mod_findItems_2 fl_Mod_73 d42 (by omega) (Nat.le_of_ble_eq_true rfl) rfl rfl (fun h1 c2 fr3 => ?_)
  have c2 : h1 42 = ob ci_Mod [.ref (ad (g_b G) 43), .ref (ad (g_b G) 44), vI (now), vI (last), .ref (ad (g_b G) 45), .ref (ad (g_b G) 46), vI (cl), vI (g), vI (o), .ref (ad (g_b G) 47), vI (ml), vI (pts), .ref (ad (g_b G) 48), .ref (ad (g_b G) 49), vI 0, .ref (ad (g_b G) 50), .ref (ad (g_b G) 51), vI (en)] := c2
  have c4 := (fr3 43 (by omega)).trans d43
  have c5 := (fr3 44 (by omega)).trans d44
  have c6 := (fr3 45 (by omega)).trans d45
  have c7 := (fr3 46 (by omega)).trans d46
  have c8 := (fr3 47 (by omega)).trans d47
  have c9 := (fr3 48 (by omega)).trans d48
  have c10 := (fr3 49 (by omega)).trans d49
  have c11 := (fr3 50 (by omega)).trans d50
  have c12 := (fr3 51 (by omega)).trans d51
  refine z_iload_n X d_Mod_findItems_5 rfl ?_
  have hM0 : MC G h1 U Ls K C now last cl g o en Md ml pts ((0 : Nat) : Int) PP CD PL AT := ⟨c2, c4, c5, c6, c7, c8, c9, c10, c11, c12⟩
  have hf0 : ∀ q, (q < 42 ∨ 52 ≤ q) → h1 q = h q := fun q q1 => fr3 q (by omega)
  refine z_if_ne (tgt := 35) X d_Mod_findItems_6 (by decide) (by omega) (fun q1 => ?_) (fun q1 => ?_)
  · refine z_iload_n X d_Mod_findItems_35 rfl ?_
    refine z_iconst X d_Mod_findItems_36 ?_
    refine z_icmp_ne (tgt := 48) X d_Mod_findItems_37 (by decide) (by omega) (fun q2 => ?_) (fun q2 => ?_)
    · have hm13 : m = 1 ∨ m = 3 := by omega
      refine e_aload_n X d_Mod_findItems_48 rfl ?_
      refine z_iload_n X d_Mod_findItems_49 rfl ?_
      refine z_callV_V X d_Mod_findItems_50 cv_Mod_83 (c_Mod_findPoints hM0 hN hs13 ⟨hl0, hl1, hl2, ht⟩) c2 (by omega) rfl rfl ⟨rfl, rfl⟩ rfl (fun h43 hp44 => ?_)
      obtain ⟨⟨PP1, CD1, hM1, hsp, hcd⟩, hf1⟩ := hp44
      refine z_iconst X d_Mod_findItems_53 ?_
      refine e_istore_n X d_Mod_findItems_54 (by decide) ?_
      have hf2 : ∀ q, (q < 42 ∨ 52 ≤ q) → h43 q = h q := fun q q1 => (hf1 q q1).trans (hf0 q q1)
      have loop : ∀ (d9 : Nat) (k9 : Nat) (r : Nat) (PL1 : Nat → Int) (h2 : Nat → va_E), cnt (bg1 t) n + 1 - k9 < d9 → r ≤ n → cnt (bg1 t) r = k9 → MC G h2 U Ls K C now last cl g o en Md ml ((cnt (bg1 t) n : Nat) : Int) ((cnt (bg m n t) r : Nat) : Int) PP1 CD1 PL1 AT → sel (bg m n t) r PL1 → (∀ q, (q < 42 ∨ 52 ≤ q) → h2 q = h q) → Ev k G 4 N 0 0 h2 55 [some (.ref (ad (g_b G) 42)), some (vI ((s : Nat) : Int)), some (vI (m)), some (vI ((k9 : Nat) : Int))] [] := by
        intro d9
        induction d9 with
        | zero =>
          intro k9 r PL1 h2 hm9
          exact absurd hm9 (Nat.not_lt_zero _)
        | succ d9 ih =>
          intro k9 r PL1 h2 hm9 hr hkr hM2 hs1 hf
          have hcl := cnt_le (B := (bg m n t)) r
          have hcn := cnt_le (B := bg1 t) n
          have hcm := cnt_mono (B := bg1 t) hr
          obtain ⟨d42b, d43b, d44b, d45b, d46b, d47b, d48b, d49b, d50b, d51b⟩ := id hM2
          refine z_iload_n X d_Mod_findItems_55 rfl ?_
          refine e_aload_n X d_Mod_findItems_56 rfl ?_
          refine e_get X d_Mod_findItems_57 fl_Mod_51 d42b (by omega) rfl ?_
          refine z_icmp_ge (tgt := 96) X d_Mod_findItems_60 (by decide) (by omega) (fun q3 => ?_) (fun q3 => ?_)
          · have hno := cnt_eq_no hr (show cnt (bg1 t) r = cnt (bg1 t) n by omega)
            have hnB : ∀ x, r ≤ x → x < n + 1 → bg m n t x = false := by intro x x1 x2; rcases Nat.lt_or_ge x n with h9 | h9; exact bg_sub hm13 (hno x x1 h9); rw [show x = n by omega]; exact bg_end ht q2
            rw [← cnt_no (by omega) hnB] at hM2
            obtain ⟨d42z, d43z, d44z, d45z, d46z, d47z, d48z, d49z, d50z, d51z⟩ := id hM2
            have hclz := cnt_le (B := (bg m n t)) (n + 1)
            refine e_aload_n X d_Mod_findItems_96 rfl ?_
            refine e_get X d_Mod_findItems_97 fl_Mod_36 d42z (by omega) rfl ?_
            refine e_aload_n X d_Mod_findItems_100 rfl ?_
            refine e_get X d_Mod_findItems_101 fl_Mod_73 d42z (by omega) rfl ?_
            refine e_aload_n X d_Mod_findItems_104 rfl ?_
            refine e_get X d_Mod_findItems_105 fl_Mod_13 d42z (by omega) rfl ?_
            refine z_iload_n X d_Mod_findItems_108 rfl ?_
            refine z_iald X d_Mod_findItems_109 (j := s) d44z (by omega) (by omega) (by omega) ?_
            refine z_top (show _ = ((n : Nat) : Int) from hl0) ?_
            refine z_iast X d_Mod_findItems_110 (j := (cnt (bg m n t) (n + 1))) d50z (by omega) (by omega) (by omega) (fun h46 c47 fr48 => ?_)
            have c49 := (fr48 42 (by omega)).trans d42z
            have c50 := (fr48 43 (by omega)).trans d43z
            have c51 := (fr48 44 (by omega)).trans d44z
            have c52 := (fr48 45 (by omega)).trans d45z
            have c53 := (fr48 46 (by omega)).trans d46z
            have c54 := (fr48 47 (by omega)).trans d47z
            have c55 := (fr48 48 (by omega)).trans d48z
            have c56 := (fr48 49 (by omega)).trans d49z
            have c57 := (fr48 51 (by omega)).trans d51z
            exact z_return X Q d_Mod_findItems_111 ⟨⟨_, _, _, _, ⟨c49, c50, c51, c52, c53, c54, c55, c56, c47, c57⟩, sel_zup (sel_no hs1 hnB), zup_eq _ _ _⟩, fun q q1 => (fr48 q (by omega)).trans (hf q q1)⟩
          · obtain ⟨q, q4, hbq, hcq⟩ := cnt_at (show k9 < cnt (bg1 t) n by omega)
            have hrq : r ≤ q := by rcases Nat.lt_or_ge q r with h9 | h9; have h8 := cnt_lt hbq h9; omega; exact h9
            have hno := cnt_eq_no hrq (show cnt (bg1 t) r = cnt (bg1 t) q by omega)
            have hnB : ∀ x, r ≤ x → x < q → bg m n t x = false := fun x x1 x2 => bg_sub hm13 (hno x x1 x2)
            rw [← cnt_no hrq hnB] at hM2
            have hs2 := sel_no hs1 hnB
            have hclq := cnt_le (B := (bg m n t)) q
            have hPP : PP1 k9 = ((q : Nat) : Int) := by rw [← hcq]; exact hsp q q4 hbq
            obtain ⟨d42c, d43c, d44c, d45c, d46c, d47c, d48c, d49c, d50c, d51c⟩ := id hM2
            refine z_iload_n X d_Mod_findItems_63 rfl ?_
            refine z_iconst X d_Mod_findItems_64 ?_
            refine z_icmp_eq (tgt := 80) X d_Mod_findItems_65 (by decide) (by omega) (fun q5 => ?_) (fun q5 => ?_)
            · have hb : bg m n t q = true := by rw [q5, bg_1]; exact hbq
              refine e_aload_n X d_Mod_findItems_80 rfl ?_
              refine e_aload_n X d_Mod_findItems_81 rfl ?_
              refine e_get X d_Mod_findItems_82 fl_Mod_30 d42c (by omega) rfl ?_
              refine z_iload_n X d_Mod_findItems_85 rfl ?_
              refine z_iald X d_Mod_findItems_86 (j := k9) d48c (by omega) (by omega) (by omega) ?_
              refine z_top (show _ = ((q : Nat) : Int) from hPP) ?_
              refine z_callV_V X d_Mod_findItems_87 cv_Mod_76 (c_Mod_begin hM2 hN (by omega)) d42c (by omega) rfl rfl ⟨rfl, rfl⟩ rfl (fun h58 hp59 => ?_)
              obtain ⟨hM3, hf3⟩ := hp59
              refine z_iinc X d_Mod_findItems_90 rfl (by decide) ?_
              refine e_goto (tgt := 55) X d_Mod_findItems_93 (by decide) ?_
              exact ih (k9 + 1) (q + 1) _ _ (by omega) (by omega) (by rw [cnt_t hbq, hcq]) (by rw [cnt_t hb]; exact hM3) (sel_t hs2 hb) (fun q9 q1 => (hf3 q9 q1).trans (hf q9 q1))
            · have hm3 : m = 3 := by omega
              have hb3 := bg3_at ht hcd q4 hbq
              rw [hcq] at hb3
              refine z_iload_n X d_Mod_findItems_68 rfl ?_
              refine z_if_eq (tgt := 80) X d_Mod_findItems_69 (by decide) (by omega) (fun q6 => ?_) (fun q6 => ?_)
              · have hb : bg m n t q = true := by rw [hm3, bg_3, hb3, if_pos (by omega)]
                refine e_aload_n X d_Mod_findItems_80 rfl ?_
                refine e_aload_n X d_Mod_findItems_81 rfl ?_
                refine e_get X d_Mod_findItems_82 fl_Mod_30 d42c (by omega) rfl ?_
                refine z_iload_n X d_Mod_findItems_85 rfl ?_
                refine z_iald X d_Mod_findItems_86 (j := k9) d48c (by omega) (by omega) (by omega) ?_
                refine z_top (show _ = ((q : Nat) : Int) from hPP) ?_
                refine z_callV_V X d_Mod_findItems_87 cv_Mod_76 (c_Mod_begin hM2 hN (by omega)) d42c (by omega) rfl rfl ⟨rfl, rfl⟩ rfl (fun h61 hp62 => ?_)
                obtain ⟨hM3, hf3⟩ := hp62
                refine z_iinc X d_Mod_findItems_90 rfl (by decide) ?_
                refine e_goto (tgt := 55) X d_Mod_findItems_93 (by decide) ?_
                exact ih (k9 + 1) (q + 1) _ _ (by omega) (by omega) (by rw [cnt_t hbq, hcq]) (by rw [cnt_t hb]; exact hM3) (sel_t hs2 hb) (fun q9 q1 => (hf3 q9 q1).trans (hf q9 q1))
              · refine e_aload_n X d_Mod_findItems_72 rfl ?_
                refine z_iload_n X d_Mod_findItems_73 rfl ?_
                refine z_callV_I X d_Mod_findItems_74 cv_Mod_86 (c_Mod_bound hM2 hN (by omega) (fun j hj => cd_rg ht hcd (by omega))) d42c (by omega) rfl rfl ⟨rfl, rfl⟩ rfl (fun z66 h64 hp65 => ?_)
                obtain ⟨rfl, hh67⟩ := hp65
                rw [hh67]
                refine z_if_ne (tgt := 90) X d_Mod_findItems_77 (by decide) (b2z_r _) (fun q7 => ?_) (fun q7 => ?_)
                · have hb : bg m n t q = false := by rw [hm3, bg_3, hb3, if_neg (by omega), b2z_ne q7]; rfl
                  refine z_iinc X d_Mod_findItems_90 rfl (by decide) ?_
                  refine e_goto (tgt := 55) X d_Mod_findItems_93 (by decide) ?_
                  exact ih (k9 + 1) (q + 1) _ _ (by omega) (by omega) (by rw [cnt_t hbq, hcq]) (by rw [cnt_f hb]; exact hM2) (sel_f hs2 hb) hf
                · have hb : bg m n t q = true := by rw [hm3, bg_3, hb3, if_neg (by omega), b2z_eq q7]; rfl
                  refine e_aload_n X d_Mod_findItems_80 rfl ?_
                  refine e_aload_n X d_Mod_findItems_81 rfl ?_
                  refine e_get X d_Mod_findItems_82 fl_Mod_30 d42c (by omega) rfl ?_
                  refine z_iload_n X d_Mod_findItems_85 rfl ?_
                  refine z_iald X d_Mod_findItems_86 (j := k9) d48c (by omega) (by omega) (by omega) ?_
                  refine z_top (show _ = ((q : Nat) : Int) from hPP) ?_
                  refine z_callV_V X d_Mod_findItems_87 cv_Mod_76 (c_Mod_begin hM2 hN (by omega)) d42c (by omega) rfl rfl ⟨rfl, rfl⟩ rfl (fun h68 hp69 => ?_)
                  obtain ⟨hM3, hf3⟩ := hp69
                  refine z_iinc X d_Mod_findItems_90 rfl (by decide) ?_
                  refine e_goto (tgt := 55) X d_Mod_findItems_93 (by decide) ?_
                  exact ih (k9 + 1) (q + 1) _ _ (by omega) (by omega) (by rw [cnt_t hbq, hcq]) (by rw [cnt_t hb]; exact hM3) (sel_t hs2 hb) (fun q9 q1 => (hf3 q9 q1).trans (hf q9 q1))
      exact loop _ 0 0 PL _ (Nat.lt_succ_self _) (Nat.zero_le _) rfl hM1 (fun q hq => absurd hq (Nat.not_lt_zero _)) hf2
    · refine e_aload_n X d_Mod_findItems_40 rfl ?_
      refine z_iload_n X d_Mod_findItems_41 rfl ?_
      refine z_callV_V X d_Mod_findItems_42 cv_Mod_80 (c_Mod_findLines hM0 hN hs13 ⟨hl0, hl1, hl2, ht⟩) c2 (by omega) rfl rfl ⟨rfl, rfl⟩ rfl (fun h28 hp29 => ?_)
      obtain ⟨⟨PL1, hM1, hs1⟩, hf1⟩ := hp29
      subst q2
      have hB2 : bg 2 n t = bg2 n t := funext (fun x => bg_2)
      rw [← hB2] at hM1 hs1
      refine e_goto (tgt := 96) X d_Mod_findItems_45 (by decide) ?_
      have hf2 : ∀ q, (q < 42 ∨ 52 ≤ q) → h28 q = h q := fun q q1 => (hf1 q q1).trans (hf0 q q1)
      obtain ⟨d42z, d43z, d44z, d45z, d46z, d47z, d48z, d49z, d50z, d51z⟩ := id hM1
      have hclz := cnt_le (B := bg 2 n t) (n + 1)
      refine e_aload_n X d_Mod_findItems_96 rfl ?_
      refine e_get X d_Mod_findItems_97 fl_Mod_36 d42z (by omega) rfl ?_
      refine e_aload_n X d_Mod_findItems_100 rfl ?_
      refine e_get X d_Mod_findItems_101 fl_Mod_73 d42z (by omega) rfl ?_
      refine e_aload_n X d_Mod_findItems_104 rfl ?_
      refine e_get X d_Mod_findItems_105 fl_Mod_13 d42z (by omega) rfl ?_
      refine z_iload_n X d_Mod_findItems_108 rfl ?_
      refine z_iald X d_Mod_findItems_109 (j := s) d44z (by omega) (by omega) (by omega) ?_
      refine z_top (show _ = ((n : Nat) : Int) from hl0) ?_
      refine z_iast X d_Mod_findItems_110 (j := (cnt (bg 2 n t) (n + 1))) d50z (by omega) (by omega) (by omega) (fun h31 c32 fr33 => ?_)
      have c34 := (fr33 42 (by omega)).trans d42z
      have c35 := (fr33 43 (by omega)).trans d43z
      have c36 := (fr33 44 (by omega)).trans d44z
      have c37 := (fr33 45 (by omega)).trans d45z
      have c38 := (fr33 46 (by omega)).trans d46z
      have c39 := (fr33 47 (by omega)).trans d47z
      have c40 := (fr33 48 (by omega)).trans d48z
      have c41 := (fr33 49 (by omega)).trans d49z
      have c42 := (fr33 51 (by omega)).trans d51z
      exact z_return X Q d_Mod_findItems_111 ⟨⟨_, _, _, _, ⟨c34, c35, c36, c37, c38, c39, c40, c41, c32, c42⟩, sel_zup hs1, zup_eq _ _ _⟩, fun q q1 => (fr33 q (by omega)).trans (hf2 q q1)⟩
  · subst q1
    refine z_iconst X d_Mod_findItems_9 ?_
    refine e_istore_n X d_Mod_findItems_10 (by decide) ?_
    have loop : ∀ (d9 : Nat) (k9 : Nat) (PL1 : Nat → Int) (h2 : Nat → va_E), n - k9 < d9 → k9 ≤ n → MC G h2 U Ls K C now last cl g o en Md ml pts ((cnt (bg 0 n t) k9 : Nat) : Int) PP CD PL1 AT → sel (bg 0 n t) k9 PL1 → (∀ q, (q < 42 ∨ 52 ≤ q) → h2 q = h q) → Ev k G 4 N 0 0 h2 11 [some (.ref (ad (g_b G) 42)), some (vI ((s : Nat) : Int)), some (vI 0), some (vI ((k9 : Nat) : Int))] [] := by
      intro d9
      induction d9 with
      | zero =>
        intro k9 PL1 h2 hm9
        exact absurd hm9 (Nat.not_lt_zero _)
      | succ d9 ih =>
        intro k9 PL1 h2 hm9 hk hM2 hs1 hf
        have hcl := cnt_le (B := bg 0 n t) k9
        obtain ⟨d42b, d43b, d44b, d45b, d46b, d47b, d48b, d49b, d50b, d51b⟩ := id hM2
        refine z_iload_n X d_Mod_findItems_11 rfl ?_
        refine e_aload_n X d_Mod_findItems_12 rfl ?_
        refine e_get X d_Mod_findItems_13 fl_Mod_13 d42b (by omega) rfl ?_
        refine z_iload_n X d_Mod_findItems_16 rfl ?_
        refine z_iald X d_Mod_findItems_17 (j := s) d44b (by omega) (by omega) (by omega) ?_
        refine z_top (show _ = ((n : Nat) : Int) from hl0) ?_
        refine z_icmp_ge (tgt := 32) X d_Mod_findItems_18 (by decide) (by omega) (fun q2 => ?_) (fun q2 => ?_)
        · have hkn : k9 = n := by omega
          subst hkn
          refine e_goto (tgt := 96) X d_Mod_findItems_32 (by decide) ?_
          have hbe : bg 0 k9 t k9 = false := bg_end ht (by decide)
          rw [← cnt_f hbe] at hM2
          obtain ⟨d42z, d43z, d44z, d45z, d46z, d47z, d48z, d49z, d50z, d51z⟩ := id hM2
          have hclz := cnt_le (B := bg 0 k9 t) (k9 + 1)
          refine e_aload_n X d_Mod_findItems_96 rfl ?_
          refine e_get X d_Mod_findItems_97 fl_Mod_36 d42z (by omega) rfl ?_
          refine e_aload_n X d_Mod_findItems_100 rfl ?_
          refine e_get X d_Mod_findItems_101 fl_Mod_73 d42z (by omega) rfl ?_
          refine e_aload_n X d_Mod_findItems_104 rfl ?_
          refine e_get X d_Mod_findItems_105 fl_Mod_13 d42z (by omega) rfl ?_
          refine z_iload_n X d_Mod_findItems_108 rfl ?_
          refine z_iald X d_Mod_findItems_109 (j := s) d44z (by omega) (by omega) (by omega) ?_
          refine z_top (show _ = ((k9 : Nat) : Int) from hl0) ?_
          refine z_iast X d_Mod_findItems_110 (j := (cnt (bg 0 k9 t) (k9 + 1))) d50z (by omega) (by omega) (by omega) (fun h13 c14 fr15 => ?_)
          have c16 := (fr15 42 (by omega)).trans d42z
          have c17 := (fr15 43 (by omega)).trans d43z
          have c18 := (fr15 44 (by omega)).trans d44z
          have c19 := (fr15 45 (by omega)).trans d45z
          have c20 := (fr15 46 (by omega)).trans d46z
          have c21 := (fr15 47 (by omega)).trans d47z
          have c22 := (fr15 48 (by omega)).trans d48z
          have c23 := (fr15 49 (by omega)).trans d49z
          have c24 := (fr15 51 (by omega)).trans d51z
          exact z_return X Q d_Mod_findItems_111 ⟨⟨_, _, _, _, ⟨c16, c17, c18, c19, c20, c21, c22, c23, c14, c24⟩, sel_zup (sel_f hs1 hbe), zup_eq _ _ _⟩, fun q q1 => (fr15 q (by omega)).trans (hf q q1)⟩
        · refine e_aload_n X d_Mod_findItems_21 rfl ?_
          refine z_iload_n X d_Mod_findItems_22 rfl ?_
          refine z_callV_V X d_Mod_findItems_23 cv_Mod_76 (c_Mod_begin hM2 hN (by omega)) d42b (by omega) rfl rfl ⟨rfl, rfl⟩ rfl (fun h25 hp26 => ?_)
          obtain ⟨hM3, hf3⟩ := hp26
          refine z_iinc X d_Mod_findItems_26 rfl (by decide) ?_
          refine e_goto (tgt := 11) X d_Mod_findItems_29 (by decide) ?_
          have hb : bg 0 n t k9 = true := by rw [bg_0]; exact decide_eq_true (by omega)
          exact ih (k9 + 1) _ _ (by omega) (by omega) (by rw [cnt_t hb]; exact hM3) (sel_t hs1 hb) (fun q q1 => (hf3 q q1).trans (hf q q1))
    exact loop _ 0 PL _ (Nat.lt_succ_self _) (Nat.zero_le _) hM0 (fun q hq => absurd hq (Nat.not_lt_zero _)) hf0

set_option maxRecDepth 100000 in
set_option maxHeartbeats 4000000 in
theorem c_Mod_lets {l : Launch} {G : lx_G} {N : Nat} {h : Nat → va_E} {U Ls K C : Nat → Int} {nw : Nat} {last cl g o en : Int} {Md : Nat → Int} {ml pts its : Int} {PP CD PL AT : Nat → Int} {n a : Nat} {t : Nat → Int} (hM : MC G h U Ls K C ((nw : Nat) : Int) last cl g o en Md ml pts its PP CD PL AT) (hN : 52 ≤ N) (hnw : nw ≤ 8) (hS : Sl U Ls nw (n, t)) (hg : g = 0 ∨ g = 1 ∨ g = 3) (ha : a ≤ n) : CtI l G m_Mod_lets N [.ref (ad (g_b G) 42), vI ((a : Nat) : Int)] h (fun z h' => z = b2z (fre g n t ((a : Nat) : Int)) ∧ (∃ pts' its' PP' CD' PL', MC G h' U Ls K C ((nw : Nat) : Int) last cl g o en Md ml pts' its' PP' CD' PL' AT) ∧ ∀ q, (q < 42 ∨ 52 ≤ q) → h' q = h q) := by
  refine zI_of (by decide) rfl rfl ?_
  intro k X Q
  have X : Cx k G R_Mod b_Mod_lets 4 rm_Mod_lets := X
  have Q : Rt k G (some (.boolean)) N 0 0 (pI (fun z h' => z = b2z (fre g n t ((a : Nat) : Int)) ∧ (∃ pts' its' PP' CD' PL', MC G h' U Ls K C ((nw : Nat) : Int) last cl g o en Md ml pts' its' PP' CD' PL' AT) ∧ ∀ q, (q < 42 ∨ 52 ≤ q) → h' q = h q)) := Q
  show Ev k G 4 N 0 0 h 0 [some (.ref (ad (g_b G) 42)), some (vI ((a : Nat) : Int)), none, none] []
  obtain ⟨d42, d43, d44, d45, d46, d47, d48, d49, d50, d51⟩ := id hM
  refine e_aload_n X d_Mod_lets_0 rfl ?_
  refine e_get X d_Mod_lets_1 fl_Mod_89 d42 (by omega) rfl ?_
  have J1 : Ev k G 4 N 0 0 h 12 [some (.ref (ad (g_b G) 42)), some (vI ((a : Nat) : Int)), none, none] [vI (b2z (decide (g = 0)))] := by
    refine e_istore_n X d_Mod_lets_12 (by decide) ?_
    refine e_aload_n X d_Mod_lets_13 rfl ?_
    refine e_aload_n X d_Mod_lets_14 rfl ?_
    refine e_get X d_Mod_lets_15 fl_Mod_48 d42 (by omega) rfl ?_
    refine e_aload_n X d_Mod_lets_18 rfl ?_
    refine e_get X d_Mod_lets_19 fl_Mod_89 d42 (by omega) rfl ?_
    refine z_callV_V X d_Mod_lets_22 cv_Mod_92 (c_Mod_findItems hM hN (by omega) hS (by omega)) d42 (by omega) rfl rfl ⟨rfl, rfl⟩ rfl (fun h1 hp2 => ?_)
    obtain ⟨⟨pt1, PP1, CD1, PL1, hM1, hs1, hp1⟩, hf1⟩ := hp2
    refine z_iconst X d_Mod_lets_25 ?_
    refine e_istore_n X d_Mod_lets_26 (by decide) ?_
    have hcl := cnt_le (B := (bg g n t)) (n + 1)
    have hl1 := hS.2.1
    have htx := hS.2.2.2
    dsimp only at hl1 htx
    have hprg : ∀ j, j < cnt (bg g n t) (n + 1) + 1 → 0 ≤ PL1 j ∧ PL1 j ≤ ((n : Nat) : Int) := by intro j hj; rcases Nat.lt_or_ge j (cnt (bg g n t) (n + 1)) with h9 | h9; have h8 := sel_rg hs1 h9; omega; rw [show j = cnt (bg g n t) (n + 1) by omega, hp1]; omega
    obtain ⟨d42b, d43b, d44b, d45b, d46b, d47b, d48b, d49b, d50b, d51b⟩ := id hM1
    have loop : ∀ (d9 : Nat) (k9 : Nat), cnt (bg g n t) (n + 1) + 2 - k9 < d9 → k9 ≤ cnt (bg g n t) (n + 1) + 1 → Ev k G 4 N 0 0 h1 27 [some (.ref (ad (g_b G) 42)), some (vI ((a : Nat) : Int)), some (vI (b2z ((decide (g = 0)) || anyb PL1 ((a : Nat) : Int) k9))), some (vI ((k9 : Nat) : Int))] [] := by
      intro d9
      induction d9 with
      | zero =>
        intro k9 hm9
        exact absurd hm9 (Nat.not_lt_zero _)
      | succ d9 ih =>
        intro k9 hm9 hk
        refine z_iload_n X d_Mod_lets_27 rfl ?_
        refine e_aload_n X d_Mod_lets_28 rfl ?_
        refine e_get X d_Mod_lets_29 fl_Mod_73 d42b (by omega) rfl ?_
        refine z_icmp_gt (tgt := 61) X d_Mod_lets_32 (by decide) (by omega) (fun q1 => ?_) (fun q1 => ?_)
        · have hke : k9 = cnt (bg g n t) (n + 1) + 1 := by omega
          subst hke
          refine z_iload_n X d_Mod_lets_61 rfl ?_
          exact z_ireturn X Q d_Mod_lets_62 (b2z_nar _) ⟨by rw [lets_fre htx ha hs1 hp1], ⟨pt1, _, PP1, CD1, PL1, hM1⟩, hf1⟩
        · refine z_iload_n X d_Mod_lets_35 rfl ?_
          refine z_if_ne (tgt := 49) X d_Mod_lets_36 (by decide) (b2z_r _) (fun q2 => ?_) (fun q2 => ?_)
          · have hfx := b2z_ne q2
            refine z_iconst X d_Mod_lets_49 ?_
            refine e_goto (tgt := 54) X d_Mod_lets_50 (by decide) ?_
            refine z_top (show _ = (b2z ((decide (g = 0)) || anyb PL1 ((a : Nat) : Int) (k9 + 1))) from (b2z_t (by rw [anyb, ← Bool.or_assoc, hfx]; rfl)).symm) ?_
            refine e_istore_n X d_Mod_lets_54 (by decide) ?_
            refine z_iinc X d_Mod_lets_55 rfl (by decide) ?_
            refine e_goto (tgt := 27) X d_Mod_lets_58 (by decide) ?_
            exact ih (k9 + 1) (by omega) (by omega)
          · have hfx := b2z_eq q2
            have hpr := hprg k9 (by omega)
            refine e_aload_n X d_Mod_lets_39 rfl ?_
            refine e_get X d_Mod_lets_40 fl_Mod_36 d42b (by omega) rfl ?_
            refine z_iload_n X d_Mod_lets_43 rfl ?_
            refine z_iald X d_Mod_lets_44 (j := k9) d50b (by omega) (by omega) (by omega) ?_
            refine z_iload_n X d_Mod_lets_45 rfl ?_
            refine z_icmp_ne (tgt := 53) X d_Mod_lets_46 (by decide) (by omega) (fun q3 => ?_) (fun q3 => ?_)
            · refine z_iconst X d_Mod_lets_53 ?_
              refine z_top (show _ = (b2z ((decide (g = 0)) || anyb PL1 ((a : Nat) : Int) (k9 + 1))) from (b2z_f (by rw [anyb, ← Bool.or_assoc, hfx, decide_eq_false q3]; rfl)).symm) ?_
              refine e_istore_n X d_Mod_lets_54 (by decide) ?_
              refine z_iinc X d_Mod_lets_55 rfl (by decide) ?_
              refine e_goto (tgt := 27) X d_Mod_lets_58 (by decide) ?_
              exact ih (k9 + 1) (by omega) (by omega)
            · refine z_iconst X d_Mod_lets_49 ?_
              refine e_goto (tgt := 54) X d_Mod_lets_50 (by decide) ?_
              refine z_top (show _ = (b2z ((decide (g = 0)) || anyb PL1 ((a : Nat) : Int) (k9 + 1))) from (b2z_t (by rw [anyb, ← Bool.or_assoc, hfx, decide_eq_true q3]; rfl)).symm) ?_
              refine e_istore_n X d_Mod_lets_54 (by decide) ?_
              refine z_iinc X d_Mod_lets_55 rfl (by decide) ?_
              refine e_goto (tgt := 27) X d_Mod_lets_58 (by decide) ?_
              exact ih (k9 + 1) (by omega) (by omega)
    rw [show b2z (decide (g = 0)) = b2z ((decide (g = 0)) || anyb PL1 ((a : Nat) : Int) 0) by rw [anyb, Bool.or_false]]
    exact loop _ 0 (Nat.lt_succ_self _) (Nat.zero_le _)
  refine z_if_ne (tgt := 11) X d_Mod_lets_4 (by decide) (by omega) (fun q0 => ?_) (fun q0 => ?_)
  · refine z_iconst X d_Mod_lets_11 ?_
    refine z_top (show _ = b2z (decide (g = 0)) from (b2z_f (decide_eq_false q0)).symm) ?_
    exact J1
  · refine z_iconst X d_Mod_lets_7 ?_
    refine e_goto (tgt := 12) X d_Mod_lets_8 (by decide) ?_
    refine z_top (show _ = b2z (decide (g = 0)) from (b2z_t (decide_eq_true q0)).symm) ?_
    exact J1

