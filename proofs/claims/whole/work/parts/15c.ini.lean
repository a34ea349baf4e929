theorem z_tastT {k : lx_K} {G : lx_G} {own : String} {cc : ByteArray} {nL N cells slots pc : Nat} {R : Room} {h : Nat → va_E} {L : List (Option Value)} {st : List Value} (X : Cx k G own cc nL R) {i n j v n9 : Nat} {t9 : Nat → Int} {z : Int} {f : Nat → Option Nat} (hd : decode cc pc = .ok (.aastore, 1)) (hc : h i = cT G n f) (hi : i < N) (hzj : z = (j : Int)) (hj : j < n ∧ n < 2147483648) (hv : Tx G h v n9 t9) (hvi : v < N) (kk : ∀ h1 : Nat → va_E, h1 i = cT G n (va_up f j (some (ad (g_b G) v))) → (∀ q, q ≠ i → h1 q = h q) → Ev k G nL N cells slots h1 (pc + 1) L st) : Ev k G nL N cells slots h pc L (.ref (ad (g_b G) v) :: vI z :: .ref (ad (g_b G) i) :: st) := by
  rcases hv with hT | hT
  · obtain ⟨u, h1, -⟩ := hT
    exact z_tast X hd hc hi hzj hj h1 hvi rfl (Or.inl as_Row) kk
  · obtain ⟨gs, g, u, h1, -⟩ := hT
    exact z_tast X hd hc hi hzj hj h1 hvi rfl (Or.inl as_Gap) kk
abbrev rm2_VT_init : Room := { frames := 3, cells := 41, slots := 2701, locals := 62 }
abbrev m2_VT_init : lx_M := (y_VT_init, b_VT_init, 3, none, rm2_VT_init)
set_option maxRecDepth 100000 in
set_option maxHeartbeats 4000000 in
theorem c_VT_init {l : Launch} {G : lx_G} {x : Int} {h : Nat → va_E} (hc : h 0 = ob ci_VT [.null, .null, .null, .null, .null, .null, .null, vI 0, vI 0]) (hx : -2147483648 ≤ x ∧ x < 2147483648) : CtN l G m2_VT_init 1 42 [.ref (ad (g_b G) 0), vI (x)] h (fun h' => VT G h' 0 (fun _ => -1) 0 0 (fun _ => tx_e) 0 (fun _ => -1) (fun _ => false) (fun _ => tx_e) 0 (-1) (-1)) := by
  refine zN_of (by decide) rfl rfl ?_
  intro k X Q hin
  have X : Cx k G R_VT b_VT_init 3 rm2_VT_init := X
  have Q : Rt k G none 42 41 2701 (pV (fun h' => VT G h' 0 (fun _ => -1) 0 0 (fun _ => tx_e) 0 (fun _ => -1) (fun _ => false) (fun _ => tx_e) 0 (-1) (-1))) := Q
  show Ev k G 3 1 0 0 h 0 [some (.ref (ad (g_b G) 0)), some (vI (x)), none] []
  refine e_aload_n X d_VT_init_0 rfl ?_
  refine e_objInit X d_VT_init_1 oi_VT (by decide) ?_
  refine z_iload_n X d_VT_init_4 rfl ?_
  refine z_iconst X d_VT_init_5 ?_
  have J40 : ∀ h2 : Nat → va_E, h2 0 = ob ci_VT [.ref (ad (g_b G) 1), .null, .null, .null, .null, .null, .null, vI 0, vI 0] → Tx G h2 1 0 (fun _ => -1) → Ev k G 3 3 2 163 h2 40 [some (.ref (ad (g_b G) 0)), some (vI (x)), none] [] := by
    intro h2 hc2 hT2
    refine e_aload_n X d_VT_init_40 rfl ?_
    refine z_new (N' := 4) (c1 := 3) (s1 := 165) X d_VT_init_41 ck_Row cl_VT_18 nf_Row (by omega) rfl (fun h1 c2 fr3 => ?_)
    have c4 := (fr3 0 (by omega)).trans hc2
    have hx5 : Tx G h1 1 0 (fun _ => -1) := hT2.fr (fr3 _ (by omega)) (fr3 _ (by omega))
    refine e_dup X d_VT_init_44 rfl ?_
    refine z_bipush X d_VT_init_45 (by decide) ?_
    refine z_callN (N' := 5) (c1 := 4) (s1 := 325) X d_VT_init_47 cn_VT_20 (c_Row_init (cap := 24) c2 (by omega) (by omega)) rfl rfl ⟨rfl, rfl⟩ rfl (fun h6 hp7 => ?_)
    obtain ⟨hr8, fr9⟩ := hp7
    have c10 := (fr9 0 (by omega)).trans c4
    have hx11 : Tx G h6 1 0 (fun _ => -1) := hx5.fr (fr9 _ (by omega)) (fr9 _ (by omega))
    refine z_putF X hin d_VT_init_50 fl_VT_21 c10 (by omega) (Nat.le_of_ble_eq_true rfl) rfl rfl (fun h12 c13 fr14 => ?_)
    have c13 : h12 0 = ob ci_VT [.ref (ad (g_b G) 1), .ref (ad (g_b G) 3), .null, .null, .null, .null, .null, vI 0, vI 0] := c13
    have hx15 : Tx G h12 1 0 (fun _ => -1) := hx11.fr (fr14 _ (by omega)) (fr14 _ (by omega))
    have hx16 : Rw G h12 3 24 0 (fun _ => -1) := hr8.fr (fr14 _ (by omega)) (fr14 _ (by omega))
    refine e_aload_n X d_VT_init_53 rfl ?_
    refine z_iconst X d_VT_init_54 ?_
    refine z_newT (n := 5) (N' := 6) (c1 := 5) (s1 := 330) X d_VT_init_55 ca_VT_25 (by omega) (by omega) (by omega) rfl (fun h17 c18 fr19 => ?_)
    have c20 := (fr19 0 (by omega)).trans c13
    have hx21 : Tx G h17 1 0 (fun _ => -1) := hx15.fr (fr19 _ (by omega)) (fr19 _ (by omega))
    have hx22 : Rw G h17 3 24 0 (fun _ => -1) := hx16.fr (fr19 _ (by omega)) (fr19 _ (by omega))
    refine z_putF X hin d_VT_init_58 fl_VT_27 c20 (by omega) (Nat.le_of_ble_eq_true rfl) rfl rfl (fun h23 c24 fr25 => ?_)
    have c24 : h23 0 = ob ci_VT [.ref (ad (g_b G) 1), .ref (ad (g_b G) 3), .ref (ad (g_b G) 5), .null, .null, .null, .null, vI 0, vI 0] := c24
    have c26 := (fr25 5 (by omega)).trans c18
    have hx27 : Tx G h23 1 0 (fun _ => -1) := hx21.fr (fr25 _ (by omega)) (fr25 _ (by omega))
    have hx28 : Rw G h23 3 24 0 (fun _ => -1) := hx22.fr (fr25 _ (by omega)) (fr25 _ (by omega))
    refine e_aload_n X d_VT_init_61 rfl ?_
    refine z_iconst X d_VT_init_62 ?_
    refine z_newz (n := 5) (N' := 7) (c1 := 6) (s1 := 335) X d_VT_init_63 aw_boolean (by omega) (by omega) (by omega) rfl (fun h29 c30 fr31 => ?_)
    have c32 := (fr31 0 (by omega)).trans c24
    have c33 := (fr31 5 (by omega)).trans c26
    have hx34 : Tx G h29 1 0 (fun _ => -1) := hx27.fr (fr31 _ (by omega)) (fr31 _ (by omega))
    have hx35 : Rw G h29 3 24 0 (fun _ => -1) := hx28.fr (fr31 _ (by omega)) (fr31 _ (by omega))
    refine z_putF X hin d_VT_init_65 fl_VT_31 c32 (by omega) (Nat.le_of_ble_eq_true rfl) rfl rfl (fun h36 c37 fr38 => ?_)
    have c37 : h36 0 = ob ci_VT [.ref (ad (g_b G) 1), .ref (ad (g_b G) 3), .ref (ad (g_b G) 5), .ref (ad (g_b G) 6), .null, .null, .null, vI 0, vI 0] := c37
    have c39 := (fr38 5 (by omega)).trans c33
    have c40 := (fr38 6 (by omega)).trans c30
    have hx41 : Tx G h36 1 0 (fun _ => -1) := hx34.fr (fr38 _ (by omega)) (fr38 _ (by omega))
    have hx42 : Rw G h36 3 24 0 (fun _ => -1) := hx35.fr (fr38 _ (by omega)) (fr38 _ (by omega))
    refine e_aload_n X d_VT_init_68 rfl ?_
    refine e_get X d_VT_init_69 fl_VT_27 c37 (by omega) rfl ?_
    refine z_iconst X d_VT_init_72 ?_
    refine e_aload_n X d_VT_init_73 rfl ?_
    refine e_get X d_VT_init_74 fl_VT_14 c37 (by omega) rfl ?_
    refine z_tastT (j := 0) X d_VT_init_77 c39 (by omega) (by omega) (by omega) hx41 (by omega) (fun h43 c44 fr45 => ?_)
    have c46 := (fr45 0 (by omega)).trans c37
    have c47 := (fr45 6 (by omega)).trans c40
    have hx48 : Tx G h43 1 0 (fun _ => -1) := hx41.fr (fr45 _ (by omega)) (fr45 _ (by omega))
    have hx49 : Rw G h43 3 24 0 (fun _ => -1) := hx42.fr (fr45 _ (by omega)) (fr45 _ (by omega))
    refine e_aload_n X d_VT_init_78 rfl ?_
    refine e_get X d_VT_init_79 fl_VT_31 c46 (by omega) rfl ?_
    refine z_iconst X d_VT_init_82 ?_
    refine z_iconst X d_VT_init_83 ?_
    refine z_zast X d_VT_init_84 (j := 0) c47 (by omega) (by omega) (by omega) rfl (fun h50 c51 fr52 => ?_)
    have c53 := (fr52 0 (by omega)).trans c46
    have c54 := (fr52 5 (by omega)).trans c44
    have hx55 : Tx G h50 1 0 (fun _ => -1) := hx48.fr (fr52 _ (by omega)) (fr52 _ (by omega))
    have hx56 : Rw G h50 3 24 0 (fun _ => -1) := hx49.fr (fr52 _ (by omega)) (fr52 _ (by omega))
    refine z_iconst X d_VT_init_85 ?_
    refine e_istore_n X d_VT_init_86 (by decide) ?_
    refine z_iload_n X d_VT_init_87 rfl ?_
    refine z_iconst X d_VT_init_88 ?_
    refine z_icmp_gt (tgt := 114) X d_VT_init_89 (by decide) (by omega) (fun q1 => ?_) (fun q1 => ?_)
    · omega
    · refine e_aload_n X d_VT_init_92 rfl ?_
      refine e_get X d_VT_init_93 fl_VT_27 c53 (by omega) rfl ?_
      refine z_iload_n X d_VT_init_96 rfl ?_
      refine z_new (N' := 8) (c1 := 7) (s1 := 337) X d_VT_init_97 ck_Row cl_VT_18 nf_Row (by omega) rfl (fun h57 c58 fr59 => ?_)
      have c60 := (fr59 0 (by omega)).trans c53
      have c61 := (fr59 5 (by omega)).trans c54
      have c62 := (fr59 6 (by omega)).trans c51
      have hx63 : Tx G h57 1 0 (fun _ => -1) := hx55.fr (fr59 _ (by omega)) (fr59 _ (by omega))
      have hx64 : Rw G h57 3 24 0 (fun _ => -1) := hx56.fr (fr59 _ (by omega)) (fr59 _ (by omega))
      refine e_dup X d_VT_init_100 rfl ?_
      refine z_sipush X d_VT_init_101 (by decide) ?_
      refine z_callN (N' := 9) (c1 := 8) (s1 := 497) X d_VT_init_104 cn_VT_20 (c_Row_init (cap := 160) c58 (by omega) (by omega)) rfl rfl ⟨rfl, rfl⟩ rfl (fun h65 hp66 => ?_)
      obtain ⟨hr67, fr68⟩ := hp66
      have c69 := (fr68 0 (by omega)).trans c60
      have c70 := (fr68 5 (by omega)).trans c61
      have c71 := (fr68 6 (by omega)).trans c62
      have hx72 : Tx G h65 1 0 (fun _ => -1) := hx63.fr (fr68 _ (by omega)) (fr68 _ (by omega))
      have hx73 : Rw G h65 3 24 0 (fun _ => -1) := hx64.fr (fr68 _ (by omega)) (fr68 _ (by omega))
      obtain ⟨u1, hob1, hre1⟩ := id hr67
      have hx74 : ∀ j, 1 ≤ j → j ≤ 1 → Rw G h65 (5 + 2 * j) 160 0 (fun _ => -1) := fun j j1 j2 => by rw [show j = 1 by omega]; exact hr67
      refine z_tast (j := 1) X d_VT_init_107 c70 (by omega) (by omega) (by omega) hob1 (by omega) rfl (Or.inl as_Row) (fun h75 c76 fr77 => ?_)
      have c78 := (fr77 0 (by omega)).trans c69
      have c79 := (fr77 6 (by omega)).trans c71
      have hx80 : Tx G h75 1 0 (fun _ => -1) := hx72.fr (fr77 _ (by omega)) (fr77 _ (by omega))
      have hx81 : Rw G h75 3 24 0 (fun _ => -1) := hx73.fr (fr77 _ (by omega)) (fr77 _ (by omega))
      have hx82 : ∀ j, 1 ≤ j → j ≤ 1 → Rw G h75 (5 + 2 * j) 160 0 (fun _ => -1) := fun j j1 j2 => (hx74 j j1 j2).fr (fr77 _ (by omega)) (fr77 _ (by omega))
      refine z_iinc X d_VT_init_108 rfl (by decide) ?_
      refine e_goto (tgt := 87) X d_VT_init_111 (by decide) ?_
      show Ev k G 3 9 8 497 h75 87 [some (.ref (ad (g_b G) 0)), some (vI (x)), some (vI 2)] []
      refine z_iload_n X d_VT_init_87 rfl ?_
      refine z_iconst X d_VT_init_88 ?_
      refine z_icmp_gt (tgt := 114) X d_VT_init_89 (by decide) (by omega) (fun q2 => ?_) (fun q2 => ?_)
      · omega
      · refine e_aload_n X d_VT_init_92 rfl ?_
        refine e_get X d_VT_init_93 fl_VT_27 c78 (by omega) rfl ?_
        refine z_iload_n X d_VT_init_96 rfl ?_
        refine z_new (N' := 10) (c1 := 9) (s1 := 499) X d_VT_init_97 ck_Row cl_VT_18 nf_Row (by omega) rfl (fun h83 c84 fr85 => ?_)
        have c86 := (fr85 0 (by omega)).trans c78
        have c87 := (fr85 5 (by omega)).trans c76
        have c88 := (fr85 6 (by omega)).trans c79
        have hx89 : Tx G h83 1 0 (fun _ => -1) := hx80.fr (fr85 _ (by omega)) (fr85 _ (by omega))
        have hx90 : Rw G h83 3 24 0 (fun _ => -1) := hx81.fr (fr85 _ (by omega)) (fr85 _ (by omega))
        have hx91 : ∀ j, 1 ≤ j → j ≤ 1 → Rw G h83 (5 + 2 * j) 160 0 (fun _ => -1) := fun j j1 j2 => (hx82 j j1 j2).fr (fr85 _ (by omega)) (fr85 _ (by omega))
        refine e_dup X d_VT_init_100 rfl ?_
        refine z_sipush X d_VT_init_101 (by decide) ?_
        refine z_callN (N' := 11) (c1 := 10) (s1 := 659) X d_VT_init_104 cn_VT_20 (c_Row_init (cap := 160) c84 (by omega) (by omega)) rfl rfl ⟨rfl, rfl⟩ rfl (fun h92 hp93 => ?_)
        obtain ⟨hr94, fr95⟩ := hp93
        have c96 := (fr95 0 (by omega)).trans c86
        have c97 := (fr95 5 (by omega)).trans c87
        have c98 := (fr95 6 (by omega)).trans c88
        have hx99 : Tx G h92 1 0 (fun _ => -1) := hx89.fr (fr95 _ (by omega)) (fr95 _ (by omega))
        have hx100 : Rw G h92 3 24 0 (fun _ => -1) := hx90.fr (fr95 _ (by omega)) (fr95 _ (by omega))
        have hx101 : ∀ j, 1 ≤ j → j ≤ 1 → Rw G h92 (5 + 2 * j) 160 0 (fun _ => -1) := fun j j1 j2 => (hx91 j j1 j2).fr (fr95 _ (by omega)) (fr95 _ (by omega))
        obtain ⟨u2, hob2, hre2⟩ := id hr94
        have hx102 : ∀ j, 1 ≤ j → j ≤ 2 → Rw G h92 (5 + 2 * j) 160 0 (fun _ => -1) := fun j j1 j2 => by rcases Nat.lt_or_ge j 2 with h9 | h9; exact hx101 j j1 (by omega); rw [show j = 2 by omega]; exact hr94
        refine z_tast (j := 2) X d_VT_init_107 c97 (by omega) (by omega) (by omega) hob2 (by omega) rfl (Or.inl as_Row) (fun h103 c104 fr105 => ?_)
        have c106 := (fr105 0 (by omega)).trans c96
        have c107 := (fr105 6 (by omega)).trans c98
        have hx108 : Tx G h103 1 0 (fun _ => -1) := hx99.fr (fr105 _ (by omega)) (fr105 _ (by omega))
        have hx109 : Rw G h103 3 24 0 (fun _ => -1) := hx100.fr (fr105 _ (by omega)) (fr105 _ (by omega))
        have hx110 : ∀ j, 1 ≤ j → j ≤ 2 → Rw G h103 (5 + 2 * j) 160 0 (fun _ => -1) := fun j j1 j2 => (hx102 j j1 j2).fr (fr105 _ (by omega)) (fr105 _ (by omega))
        refine z_iinc X d_VT_init_108 rfl (by decide) ?_
        refine e_goto (tgt := 87) X d_VT_init_111 (by decide) ?_
        show Ev k G 3 11 10 659 h103 87 [some (.ref (ad (g_b G) 0)), some (vI (x)), some (vI 3)] []
        refine z_iload_n X d_VT_init_87 rfl ?_
        refine z_iconst X d_VT_init_88 ?_
        refine z_icmp_gt (tgt := 114) X d_VT_init_89 (by decide) (by omega) (fun q3 => ?_) (fun q3 => ?_)
        · omega
        · refine e_aload_n X d_VT_init_92 rfl ?_
          refine e_get X d_VT_init_93 fl_VT_27 c106 (by omega) rfl ?_
          refine z_iload_n X d_VT_init_96 rfl ?_
          refine z_new (N' := 12) (c1 := 11) (s1 := 661) X d_VT_init_97 ck_Row cl_VT_18 nf_Row (by omega) rfl (fun h111 c112 fr113 => ?_)
          have c114 := (fr113 0 (by omega)).trans c106
          have c115 := (fr113 5 (by omega)).trans c104
          have c116 := (fr113 6 (by omega)).trans c107
          have hx117 : Tx G h111 1 0 (fun _ => -1) := hx108.fr (fr113 _ (by omega)) (fr113 _ (by omega))
          have hx118 : Rw G h111 3 24 0 (fun _ => -1) := hx109.fr (fr113 _ (by omega)) (fr113 _ (by omega))
          have hx119 : ∀ j, 1 ≤ j → j ≤ 2 → Rw G h111 (5 + 2 * j) 160 0 (fun _ => -1) := fun j j1 j2 => (hx110 j j1 j2).fr (fr113 _ (by omega)) (fr113 _ (by omega))
          refine e_dup X d_VT_init_100 rfl ?_
          refine z_sipush X d_VT_init_101 (by decide) ?_
          refine z_callN (N' := 13) (c1 := 12) (s1 := 821) X d_VT_init_104 cn_VT_20 (c_Row_init (cap := 160) c112 (by omega) (by omega)) rfl rfl ⟨rfl, rfl⟩ rfl (fun h120 hp121 => ?_)
          obtain ⟨hr122, fr123⟩ := hp121
          have c124 := (fr123 0 (by omega)).trans c114
          have c125 := (fr123 5 (by omega)).trans c115
          have c126 := (fr123 6 (by omega)).trans c116
          have hx127 : Tx G h120 1 0 (fun _ => -1) := hx117.fr (fr123 _ (by omega)) (fr123 _ (by omega))
          have hx128 : Rw G h120 3 24 0 (fun _ => -1) := hx118.fr (fr123 _ (by omega)) (fr123 _ (by omega))
          have hx129 : ∀ j, 1 ≤ j → j ≤ 2 → Rw G h120 (5 + 2 * j) 160 0 (fun _ => -1) := fun j j1 j2 => (hx119 j j1 j2).fr (fr123 _ (by omega)) (fr123 _ (by omega))
          obtain ⟨u3, hob3, hre3⟩ := id hr122
          have hx130 : ∀ j, 1 ≤ j → j ≤ 3 → Rw G h120 (5 + 2 * j) 160 0 (fun _ => -1) := fun j j1 j2 => by rcases Nat.lt_or_ge j 3 with h9 | h9; exact hx129 j j1 (by omega); rw [show j = 3 by omega]; exact hr122
          refine z_tast (j := 3) X d_VT_init_107 c125 (by omega) (by omega) (by omega) hob3 (by omega) rfl (Or.inl as_Row) (fun h131 c132 fr133 => ?_)
          have c134 := (fr133 0 (by omega)).trans c124
          have c135 := (fr133 6 (by omega)).trans c126
          have hx136 : Tx G h131 1 0 (fun _ => -1) := hx127.fr (fr133 _ (by omega)) (fr133 _ (by omega))
          have hx137 : Rw G h131 3 24 0 (fun _ => -1) := hx128.fr (fr133 _ (by omega)) (fr133 _ (by omega))
          have hx138 : ∀ j, 1 ≤ j → j ≤ 3 → Rw G h131 (5 + 2 * j) 160 0 (fun _ => -1) := fun j j1 j2 => (hx130 j j1 j2).fr (fr133 _ (by omega)) (fr133 _ (by omega))
          refine z_iinc X d_VT_init_108 rfl (by decide) ?_
          refine e_goto (tgt := 87) X d_VT_init_111 (by decide) ?_
          show Ev k G 3 13 12 821 h131 87 [some (.ref (ad (g_b G) 0)), some (vI (x)), some (vI 4)] []
          refine z_iload_n X d_VT_init_87 rfl ?_
          refine z_iconst X d_VT_init_88 ?_
          refine z_icmp_gt (tgt := 114) X d_VT_init_89 (by decide) (by omega) (fun q4 => ?_) (fun q4 => ?_)
          · omega
          · refine e_aload_n X d_VT_init_92 rfl ?_
            refine e_get X d_VT_init_93 fl_VT_27 c134 (by omega) rfl ?_
            refine z_iload_n X d_VT_init_96 rfl ?_
            refine z_new (N' := 14) (c1 := 13) (s1 := 823) X d_VT_init_97 ck_Row cl_VT_18 nf_Row (by omega) rfl (fun h139 c140 fr141 => ?_)
            have c142 := (fr141 0 (by omega)).trans c134
            have c143 := (fr141 5 (by omega)).trans c132
            have c144 := (fr141 6 (by omega)).trans c135
            have hx145 : Tx G h139 1 0 (fun _ => -1) := hx136.fr (fr141 _ (by omega)) (fr141 _ (by omega))
            have hx146 : Rw G h139 3 24 0 (fun _ => -1) := hx137.fr (fr141 _ (by omega)) (fr141 _ (by omega))
            have hx147 : ∀ j, 1 ≤ j → j ≤ 3 → Rw G h139 (5 + 2 * j) 160 0 (fun _ => -1) := fun j j1 j2 => (hx138 j j1 j2).fr (fr141 _ (by omega)) (fr141 _ (by omega))
            refine e_dup X d_VT_init_100 rfl ?_
            refine z_sipush X d_VT_init_101 (by decide) ?_
            refine z_callN (N' := 15) (c1 := 14) (s1 := 983) X d_VT_init_104 cn_VT_20 (c_Row_init (cap := 160) c140 (by omega) (by omega)) rfl rfl ⟨rfl, rfl⟩ rfl (fun h148 hp149 => ?_)
            obtain ⟨hr150, fr151⟩ := hp149
            have c152 := (fr151 0 (by omega)).trans c142
            have c153 := (fr151 5 (by omega)).trans c143
            have c154 := (fr151 6 (by omega)).trans c144
            have hx155 : Tx G h148 1 0 (fun _ => -1) := hx145.fr (fr151 _ (by omega)) (fr151 _ (by omega))
            have hx156 : Rw G h148 3 24 0 (fun _ => -1) := hx146.fr (fr151 _ (by omega)) (fr151 _ (by omega))
            have hx157 : ∀ j, 1 ≤ j → j ≤ 3 → Rw G h148 (5 + 2 * j) 160 0 (fun _ => -1) := fun j j1 j2 => (hx147 j j1 j2).fr (fr151 _ (by omega)) (fr151 _ (by omega))
            obtain ⟨u4, hob4, hre4⟩ := id hr150
            have hx158 : ∀ j, 1 ≤ j → j ≤ 4 → Rw G h148 (5 + 2 * j) 160 0 (fun _ => -1) := fun j j1 j2 => by rcases Nat.lt_or_ge j 4 with h9 | h9; exact hx157 j j1 (by omega); rw [show j = 4 by omega]; exact hr150
            refine z_tast (j := 4) X d_VT_init_107 c153 (by omega) (by omega) (by omega) hob4 (by omega) rfl (Or.inl as_Row) (fun h159 c160 fr161 => ?_)
            have c162 := (fr161 0 (by omega)).trans c152
            have c163 := (fr161 6 (by omega)).trans c154
            have hx164 : Tx G h159 1 0 (fun _ => -1) := hx155.fr (fr161 _ (by omega)) (fr161 _ (by omega))
            have hx165 : Rw G h159 3 24 0 (fun _ => -1) := hx156.fr (fr161 _ (by omega)) (fr161 _ (by omega))
            have hx166 : ∀ j, 1 ≤ j → j ≤ 4 → Rw G h159 (5 + 2 * j) 160 0 (fun _ => -1) := fun j j1 j2 => (hx158 j j1 j2).fr (fr161 _ (by omega)) (fr161 _ (by omega))
            refine z_iinc X d_VT_init_108 rfl (by decide) ?_
            refine e_goto (tgt := 87) X d_VT_init_111 (by decide) ?_
            show Ev k G 3 15 14 983 h159 87 [some (.ref (ad (g_b G) 0)), some (vI (x)), some (vI 5)] []
            refine z_iload_n X d_VT_init_87 rfl ?_
            refine z_iconst X d_VT_init_88 ?_
            refine z_icmp_gt (tgt := 114) X d_VT_init_89 (by decide) (by omega) (fun q5 => ?_) (fun q5 => ?_)
            · refine z_tsame (f' := vfun G) c160 (fun j hj => match j, hj with | 0, _ => rfl | 1, _ => rfl | 2, _ => rfl | 3, _ => rfl | 4, _ => rfl | n + 5, h => absurd h (by omega)) (fun h167 c168 fr169 => ?_)
              have c170 := (fr169 0 (by omega)).trans c162
              have c171 := (fr169 6 (by omega)).trans c163
              have hx172 : Tx G h167 1 0 (fun _ => -1) := hx164.fr (fr169 _ (by omega)) (fr169 _ (by omega))
              have hx173 : Rw G h167 3 24 0 (fun _ => -1) := hx165.fr (fr169 _ (by omega)) (fr169 _ (by omega))
              have hx174 : ∀ j, 1 ≤ j → j ≤ 4 → Rw G h167 (5 + 2 * j) 160 0 (fun _ => -1) := fun j j1 j2 => (hx166 j j1 j2).fr (fr169 _ (by omega)) (fr169 _ (by omega))
              refine e_aload_n X d_VT_init_114 rfl ?_
              refine z_new (N' := 16) (c1 := 15) (s1 := 987) X d_VT_init_115 ck_His cl_VT_35 nf_His (by omega) rfl (fun h175 c176 fr177 => ?_)
              have c178 := (fr177 0 (by omega)).trans c170
              have c179 := (fr177 5 (by omega)).trans c168
              have c180 := (fr177 6 (by omega)).trans c171
              have hx181 : Tx G h175 1 0 (fun _ => -1) := hx172.fr (fr177 _ (by omega)) (fr177 _ (by omega))
              have hx182 : Rw G h175 3 24 0 (fun _ => -1) := hx173.fr (fr177 _ (by omega)) (fr177 _ (by omega))
              have hx183 : ∀ j, 1 ≤ j → j ≤ 4 → Rw G h175 (5 + 2 * j) 160 0 (fun _ => -1) := fun j j1 j2 => (hx174 j j1 j2).fr (fr177 _ (by omega)) (fr177 _ (by omega))
              refine e_dup X d_VT_init_118 rfl ?_
              refine z_callN (N' := 35) (c1 := 34) (s1 := 2454) X d_VT_init_119 cn_VT_37 (c_His_init c176) rfl rfl ⟨rfl, rfl⟩ rfl (fun h184 hp185 => ?_)
              obtain ⟨hr186, fr187⟩ := hp185
              have c188 := (fr187 0 (by omega)).trans c178
              have c189 := (fr187 5 (by omega)).trans c179
              have c190 := (fr187 6 (by omega)).trans c180
              have hx191 : Tx G h184 1 0 (fun _ => -1) := hx181.fr (fr187 _ (by omega)) (fr187 _ (by omega))
              have hx192 : Rw G h184 3 24 0 (fun _ => -1) := hx182.fr (fr187 _ (by omega)) (fr187 _ (by omega))
              have hx193 : ∀ j, 1 ≤ j → j ≤ 4 → Rw G h184 (5 + 2 * j) 160 0 (fun _ => -1) := fun j j1 j2 => (hx183 j j1 j2).fr (fr187 _ (by omega)) (fr187 _ (by omega))
              refine z_putF X hin d_VT_init_122 fl_VT_38 c188 (by omega) (Nat.le_of_ble_eq_true rfl) rfl rfl (fun h194 c195 fr196 => ?_)
              have c195 : h194 0 = ob ci_VT [.ref (ad (g_b G) 1), .ref (ad (g_b G) 3), .ref (ad (g_b G) 5), .ref (ad (g_b G) 6), .ref (ad (g_b G) 15), .null, .null, vI 0, vI 0] := c195
              have c197 := (fr196 5 (by omega)).trans c189
              have c198 := (fr196 6 (by omega)).trans c190
              have hx199 : Tx G h194 1 0 (fun _ => -1) := hx191.fr (fr196 _ (by omega)) (fr196 _ (by omega))
              have hx200 : Rw G h194 3 24 0 (fun _ => -1) := hx192.fr (fr196 _ (by omega)) (fr196 _ (by omega))
              have hx201 : ∀ j, 1 ≤ j → j ≤ 4 → Rw G h194 (5 + 2 * j) 160 0 (fun _ => -1) := fun j j1 j2 => (hx193 j j1 j2).fr (fr196 _ (by omega)) (fr196 _ (by omega))
              have hx202 : Hist G h194 15 0 0 (fun _ => tx_e) := hr186.fr (fun q q1 q2 => fr196 _ (by omega))
              refine e_aload_n X d_VT_init_125 rfl ?_
              refine z_new (N' := 36) (c1 := 35) (s1 := 2459) X d_VT_init_126 ck_Itm cl_VT_42 nf_Itm (by omega) rfl (fun h203 c204 fr205 => ?_)
              have c206 := (fr205 0 (by omega)).trans c195
              have c207 := (fr205 5 (by omega)).trans c197
              have c208 := (fr205 6 (by omega)).trans c198
              have hx209 : Tx G h203 1 0 (fun _ => -1) := hx199.fr (fr205 _ (by omega)) (fr205 _ (by omega))
              have hx210 : Rw G h203 3 24 0 (fun _ => -1) := hx200.fr (fr205 _ (by omega)) (fr205 _ (by omega))
              have hx211 : ∀ j, 1 ≤ j → j ≤ 4 → Rw G h203 (5 + 2 * j) 160 0 (fun _ => -1) := fun j j1 j2 => (hx201 j j1 j2).fr (fr205 _ (by omega)) (fr205 _ (by omega))
              have hx212 : Hist G h203 15 0 0 (fun _ => tx_e) := hx202.fr (fun q q1 q2 => fr205 _ (by omega))
              refine e_dup X d_VT_init_129 rfl ?_
              refine z_callN (N' := 38) (c1 := 37) (s1 := 2623) X d_VT_init_130 cn_VT_44 (c_Itm_init c204) rfl rfl ⟨rfl, rfl⟩ rfl (fun h213 hp214 => ?_)
              obtain ⟨hr215, fr216⟩ := hp214
              have c217 := (fr216 0 (by omega)).trans c206
              have c218 := (fr216 5 (by omega)).trans c207
              have c219 := (fr216 6 (by omega)).trans c208
              have hx220 : Tx G h213 1 0 (fun _ => -1) := hx209.fr (fr216 _ (by omega)) (fr216 _ (by omega))
              have hx221 : Rw G h213 3 24 0 (fun _ => -1) := hx210.fr (fr216 _ (by omega)) (fr216 _ (by omega))
              have hx222 : ∀ j, 1 ≤ j → j ≤ 4 → Rw G h213 (5 + 2 * j) 160 0 (fun _ => -1) := fun j j1 j2 => (hx211 j j1 j2).fr (fr216 _ (by omega)) (fr216 _ (by omega))
              have hx223 : Hist G h213 15 0 0 (fun _ => tx_e) := hx212.fr (fun q q1 q2 => fr216 _ (by omega))
              refine z_putF X hin d_VT_init_133 fl_VT_45 c217 (by omega) (Nat.le_of_ble_eq_true rfl) rfl rfl (fun h224 c225 fr226 => ?_)
              have c225 : h224 0 = ob ci_VT [.ref (ad (g_b G) 1), .ref (ad (g_b G) 3), .ref (ad (g_b G) 5), .ref (ad (g_b G) 6), .ref (ad (g_b G) 15), .ref (ad (g_b G) 35), .null, vI 0, vI 0] := c225
              have c227 := (fr226 5 (by omega)).trans c218
              have c228 := (fr226 6 (by omega)).trans c219
              have hx229 : Tx G h224 1 0 (fun _ => -1) := hx220.fr (fr226 _ (by omega)) (fr226 _ (by omega))
              have hx230 : Rw G h224 3 24 0 (fun _ => -1) := hx221.fr (fr226 _ (by omega)) (fr226 _ (by omega))
              have hx231 : ∀ j, 1 ≤ j → j ≤ 4 → Rw G h224 (5 + 2 * j) 160 0 (fun _ => -1) := fun j j1 j2 => (hx222 j j1 j2).fr (fr226 _ (by omega)) (fr226 _ (by omega))
              have hx232 : Hist G h224 15 0 0 (fun _ => tx_e) := hx223.fr (fun q q1 q2 => fr226 _ (by omega))
              have hx233 : Its G h224 35 := hr215.fr (fun q q1 q2 => fr226 _ (by omega))
              refine e_aload_n X d_VT_init_136 rfl ?_
              refine z_new (N' := 39) (c1 := 38) (s1 := 2628) X d_VT_init_137 ck_Sea cl_VT_49 nf_Sea (by omega) rfl (fun h234 c235 fr236 => ?_)
              have c237 := (fr236 0 (by omega)).trans c225
              have c238 := (fr236 5 (by omega)).trans c227
              have c239 := (fr236 6 (by omega)).trans c228
              have hx240 : Tx G h234 1 0 (fun _ => -1) := hx229.fr (fr236 _ (by omega)) (fr236 _ (by omega))
              have hx241 : Rw G h234 3 24 0 (fun _ => -1) := hx230.fr (fr236 _ (by omega)) (fr236 _ (by omega))
              have hx242 : ∀ j, 1 ≤ j → j ≤ 4 → Rw G h234 (5 + 2 * j) 160 0 (fun _ => -1) := fun j j1 j2 => (hx231 j j1 j2).fr (fr236 _ (by omega)) (fr236 _ (by omega))
              have hx243 : Hist G h234 15 0 0 (fun _ => tx_e) := hx232.fr (fun q q1 q2 => fr236 _ (by omega))
              have hx244 : Its G h234 35 := hx233.fr (fun q q1 q2 => fr236 _ (by omega))
              refine e_dup X d_VT_init_140 rfl ?_
              refine z_callN (N' := 42) (c1 := 41) (s1 := 2701) X d_VT_init_141 cn_VT_51 (c_Sea_init c235) rfl rfl ⟨rfl, rfl⟩ rfl (fun h245 hp246 => ?_)
              obtain ⟨hr247, fr248⟩ := hp246
              have c249 := (fr248 0 (by omega)).trans c237
              have c250 := (fr248 5 (by omega)).trans c238
              have c251 := (fr248 6 (by omega)).trans c239
              have hx252 : Tx G h245 1 0 (fun _ => -1) := hx240.fr (fr248 _ (by omega)) (fr248 _ (by omega))
              have hx253 : Rw G h245 3 24 0 (fun _ => -1) := hx241.fr (fr248 _ (by omega)) (fr248 _ (by omega))
              have hx254 : ∀ j, 1 ≤ j → j ≤ 4 → Rw G h245 (5 + 2 * j) 160 0 (fun _ => -1) := fun j j1 j2 => (hx242 j j1 j2).fr (fr248 _ (by omega)) (fr248 _ (by omega))
              have hx255 : Hist G h245 15 0 0 (fun _ => tx_e) := hx243.fr (fun q q1 q2 => fr248 _ (by omega))
              have hx256 : Its G h245 35 := hx244.fr (fun q q1 q2 => fr248 _ (by omega))
              refine z_putF X hin d_VT_init_144 fl_VT_52 c249 (by omega) (Nat.le_of_ble_eq_true rfl) rfl rfl (fun h257 c258 fr259 => ?_)
              have c258 : h257 0 = ob ci_VT [.ref (ad (g_b G) 1), .ref (ad (g_b G) 3), .ref (ad (g_b G) 5), .ref (ad (g_b G) 6), .ref (ad (g_b G) 15), .ref (ad (g_b G) 35), .ref (ad (g_b G) 38), vI 0, vI 0] := c258
              have c260 := (fr259 5 (by omega)).trans c250
              have c261 := (fr259 6 (by omega)).trans c251
              have hx262 : Tx G h257 1 0 (fun _ => -1) := hx252.fr (fr259 _ (by omega)) (fr259 _ (by omega))
              have hx263 : Rw G h257 3 24 0 (fun _ => -1) := hx253.fr (fr259 _ (by omega)) (fr259 _ (by omega))
              have hx264 : ∀ j, 1 ≤ j → j ≤ 4 → Rw G h257 (5 + 2 * j) 160 0 (fun _ => -1) := fun j j1 j2 => (hx254 j j1 j2).fr (fr259 _ (by omega)) (fr259 _ (by omega))
              have hx265 : Hist G h257 15 0 0 (fun _ => tx_e) := hx255.fr (fun q q1 q2 => fr259 _ (by omega))
              have hx266 : Its G h257 35 := hx256.fr (fun q q1 q2 => fr259 _ (by omega))
              have hx267 : Sea G h257 38 (-1) := hr247.fr (fun q q1 q2 => fr259 _ (by omega))
              refine e_aload_n X d_VT_init_147 rfl ?_
              refine z_iconst X d_VT_init_148 ?_
              refine z_put X d_VT_init_149 fl_VT_56 c258 (by omega) (Nat.le_of_ble_eq_true rfl) rfl rfl (fun h268 c269 fr270 => ?_)
              have c269 : h268 0 = ob ci_VT [.ref (ad (g_b G) 1), .ref (ad (g_b G) 3), .ref (ad (g_b G) 5), .ref (ad (g_b G) 6), .ref (ad (g_b G) 15), .ref (ad (g_b G) 35), .ref (ad (g_b G) 38), vI 0, vI 0] := c269
              have c271 := (fr270 5 (by omega)).trans c260
              have c272 := (fr270 6 (by omega)).trans c261
              have hx273 : Tx G h268 1 0 (fun _ => -1) := hx262.fr (fr270 _ (by omega)) (fr270 _ (by omega))
              have hx274 : Rw G h268 3 24 0 (fun _ => -1) := hx263.fr (fr270 _ (by omega)) (fr270 _ (by omega))
              have hx275 : ∀ j, 1 ≤ j → j ≤ 4 → Rw G h268 (5 + 2 * j) 160 0 (fun _ => -1) := fun j j1 j2 => (hx264 j j1 j2).fr (fr270 _ (by omega)) (fr270 _ (by omega))
              have hx276 : Hist G h268 15 0 0 (fun _ => tx_e) := hx265.fr (fun q q1 q2 => fr270 _ (by omega))
              have hx277 : Its G h268 35 := hx266.fr (fun q q1 q2 => fr270 _ (by omega))
              have hx278 : Sea G h268 38 (-1) := hx267.fr (fun q q1 q2 => fr270 _ (by omega))
              refine e_aload_n X d_VT_init_152 rfl ?_
              refine z_iconst X d_VT_init_153 ?_
              refine z_put X d_VT_init_154 fl_VT_60 c269 (by omega) (Nat.le_of_ble_eq_true rfl) rfl rfl (fun h279 c280 fr281 => ?_)
              have c280 : h279 0 = ob ci_VT [.ref (ad (g_b G) 1), .ref (ad (g_b G) 3), .ref (ad (g_b G) 5), .ref (ad (g_b G) 6), .ref (ad (g_b G) 15), .ref (ad (g_b G) 35), .ref (ad (g_b G) 38), vI 0, vI (-1)] := c280
              have c282 := (fr281 5 (by omega)).trans c271
              have c283 := (fr281 6 (by omega)).trans c272
              have hx284 : Tx G h279 1 0 (fun _ => -1) := hx273.fr (fr281 _ (by omega)) (fr281 _ (by omega))
              have hx285 : Rw G h279 3 24 0 (fun _ => -1) := hx274.fr (fr281 _ (by omega)) (fr281 _ (by omega))
              have hx286 : ∀ j, 1 ≤ j → j ≤ 4 → Rw G h279 (5 + 2 * j) 160 0 (fun _ => -1) := fun j j1 j2 => (hx275 j j1 j2).fr (fr281 _ (by omega)) (fr281 _ (by omega))
              have hx287 : Hist G h279 15 0 0 (fun _ => tx_e) := hx276.fr (fun q q1 q2 => fr281 _ (by omega))
              have hx288 : Its G h279 35 := hx277.fr (fun q q1 q2 => fr281 _ (by omega))
              have hx289 : Sea G h279 38 (-1) := hx278.fr (fun q q1 q2 => fr281 _ (by omega))
              exact z_return X Q d_VT_init_157 ⟨c280, hx284, hx285, c282, ⟨_, c283, zup_eq _ _ _, fun j j1 j2 => zup_ne (by omega)⟩, fun j j1 j2 j3 => absurd j3 Bool.false_ne_true, fun j j1 j2 => ⟨0, _, hx286 j j1 j2⟩, hx287, hx288, hx289, Or.inl rfl, by omega⟩
            · omega
  refine z_icmp_ne (tgt := 26) X d_VT_init_6 (by decide) (by omega) (fun q0 => ?_) (fun q0 => ?_)
  · refine e_aload_n X d_VT_init_26 rfl ?_
    refine z_new (N' := 2) (c1 := 1) (s1 := 2) X d_VT_init_27 ck_Row cl_VT_18 nf_Row (by omega) rfl (fun h290 c291 fr292 => ?_)
    have c293 := (fr292 0 (by omega)).trans hc
    refine e_dup X d_VT_init_30 rfl ?_
    refine z_sipush X d_VT_init_31 (by decide) ?_
    refine z_callN (N' := 3) (c1 := 2) (s1 := 162) X d_VT_init_34 cn_VT_20 (c_Row_init (cap := 160) c291 (by omega) (by omega)) rfl rfl ⟨rfl, rfl⟩ rfl (fun h294 hp295 => ?_)
    obtain ⟨hr296, fr297⟩ := hp295
    have c298 := (fr297 0 (by omega)).trans c293
    refine z_putF X hin d_VT_init_37 fl_VT_14 c298 (by omega) (Nat.le_of_ble_eq_true rfl) rfl rfl (fun h299 c300 fr301 => ?_)
    have c300 : h299 0 = ob ci_VT [.ref (ad (g_b G) 1), .null, .null, .null, .null, .null, .null, vI 0, vI 0] := c300
    have hx302 : Rw G h299 1 160 0 (fun _ => -1) := hr296.fr (fr301 _ (by omega)) (fr301 _ (by omega))
    refine e_wide (c1 := 2) (s1 := 163) (by omega) (by omega) ?_
    exact J40 _ c300 (Or.inl hx302)
  · refine e_aload_n X d_VT_init_9 rfl ?_
    refine z_new (N' := 2) (c1 := 1) (s1 := 3) X d_VT_init_10 ck_Gap cl_VT_9 nf_Gap (by omega) rfl (fun h303 c304 fr305 => ?_)
    have c306 := (fr305 0 (by omega)).trans hc
    refine e_dup X d_VT_init_13 rfl ?_
    refine z_sipush X d_VT_init_14 (by decide) ?_
    refine z_callN (N' := 3) (c1 := 2) (s1 := 163) X d_VT_init_17 cn_VT_11 (c_Gap_init (cap := 160) c304 (by omega) (by omega)) rfl rfl ⟨rfl, rfl⟩ rfl (fun h307 hp308 => ?_)
    obtain ⟨hr309, fr310⟩ := hp308
    have c311 := (fr310 0 (by omega)).trans c306
    refine z_putF X hin d_VT_init_20 fl_VT_14 c311 (by omega) (Nat.le_of_ble_eq_true rfl) rfl rfl (fun h312 c313 fr314 => ?_)
    have c313 : h312 0 = ob ci_VT [.ref (ad (g_b G) 1), .null, .null, .null, .null, .null, .null, vI 0, vI 0] := c313
    have hx315 : Gp G h312 1 160 0 (fun _ => -1) := hr309.fr (fr314 _ (by omega)) (fr314 _ (by omega))
    refine e_goto (tgt := 40) X d_VT_init_23 (by decide) ?_
    refine e_wide (c1 := 2) (s1 := 163) (by omega) (by omega) ?_
    exact J40 _ c313 (Or.inr hx315)

