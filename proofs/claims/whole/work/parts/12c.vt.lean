theorem z_lookup {k : lx_K} {G : lx_G} {own : String} {cc : ByteArray} {nL N cells slots pc : Nat} {R : Room} {h : Nat → va_E} {L : List (Option Value)} {st : List Value} (X : Cx k G own cc nL R) {dflt z off : Int} {ps : Array (Int × Int)} {len tgt : Nat} (hd : decode cc pc = .ok (.lookupswitch dflt ps, len)) (hp : (ps.toList.zip (ps.toList.drop 1)).all (fun (a, next) => a.1 < next.1) = true) (hr : -2147483648 ≤ z ∧ z < 2147483648) (ho : Op.lookupswitch.offset ps.toList dflt z = off) (ht : (pc : Int) + off = (tgt : Int)) (kk : Ev k G nL N cells slots h tgt L st) : Ev k G nL N cells slots h pc L (vI z :: st) := fun H locs ls hH hS hL => lv_lookup X.1 X.2.1 hd hp (by rw [iI_toInt hr]; exact ho) ht (kk H locs ls hH hS hL)
/-- the steps behind an edit: it goes on with the latest one (e), or is a new one -/
def hn (e : Bool) (now : Nat) : Nat := if e = true then now else hp_now now
def hl (e : Bool) (now last : Nat) : Nat := if e = true then last else hp_now now
def hT (e : Bool) (now : Nat) (T : Nat → tx_T) (x : tx_T) : Nat → tx_T := if e = true then (fun j => if j = now then x else T j) else hp_T now T x
theorem tx_ed_0 (t p q : Nat → Int) (a b : Nat) : tx_ed t a b 0 p = tx_ed t a b 0 q := by
  funext k
  unfold tx_ed
  by_cases h : k < a
  · simp [h]
  · simp [h]
set_option maxRecDepth 100000 in
set_option maxHeartbeats 4000000 in
theorem c_VT_type {l : Launch} {G : lx_G} {N : Nat} {h : Nat → va_E} {n : Nat} {t : Nat → Int} {now last : Nat} {T : Nat → tx_T} {c : Nat} {p : Nat → Int} {kp : Nat → Bool} {V : Nat → tx_T} {g o en : Int} {x : Int} (hV : VT G h n t now last T c p kp V g o en) (hN : 42 ≤ N) (hx : 0 ≤ x ∧ x < 65536) : CtI l G m_VT_type N [.ref (ad (g_b G) 0), vI (x)] h (fun z h' => (c < 24 ∧ z = 1 ∧ VT G h' n t now last T (c + 1) (zup p c x) kp V g o en ∧ (∀ q, 42 ≤ q → h' q = h q)) ∨ (24 ≤ c ∧ z = 0 ∧ VT G h' n t now last T c p kp V g o en ∧ (∀ q, 42 ≤ q → h' q = h q))) := by
  refine zI_of (by decide) rfl rfl ?_
  intro k X Q
  have X : Cx k G R_VT b_VT_type 2 rm_VT_type := X
  have Q : Rt k G (some (.boolean)) N 0 0 (pI (fun z h' => (c < 24 ∧ z = 1 ∧ VT G h' n t now last T (c + 1) (zup p c x) kp V g o en ∧ (∀ q, 42 ≤ q → h' q = h q)) ∨ (24 ≤ c ∧ z = 0 ∧ VT G h' n t now last T c p kp V g o en ∧ (∀ q, 42 ≤ q → h' q = h q)))) := Q
  show Ev k G 2 N 0 0 h 0 [some (.ref (ad (g_b G) 0)), some (vI (x))] []
  have c0 := hV.1
  have c5 := hV.2.2.2.1
  obtain ⟨_, c3, -⟩ := id (hV.2.2.1)
  refine e_aload_n X d_VT_type_0 rfl ?_
  refine e_get X d_VT_type_1 fl_VT_21 c0 (by omega) rfl ?_
  refine z_iload_n X d_VT_type_4 rfl ?_
  refine z_callV_I X d_VT_type_5 cv_VT_63 (c_Row_append hV.2.2.1 (by omega) hx) c3 (by omega) rfl rfl ⟨rfl, rfl⟩ rfl (fun z3 h1 hp2 => ?_)
  rcases hp2 with ⟨h7, rfl, h8, h9⟩ | ⟨h7, rfl, rfl⟩
  · exact z_ireturn X Q d_VT_type_8 rfl (Or.inl ⟨h7, rfl, hV.clip h8 (fun q q9 => h9 q (by omega) (by omega)), fun q q9 => h9 q (by omega) (by omega)⟩)
  · exact z_ireturn X Q d_VT_type_8 rfl (Or.inr ⟨h7, rfl, hV, fun q _ => rfl⟩)

set_option maxRecDepth 100000 in
set_option maxHeartbeats 4000000 in
theorem c_VT_scrap {l : Launch} {G : lx_G} {N : Nat} {h : Nat → va_E} {n : Nat} {t : Nat → Int} {now last : Nat} {T : Nat → tx_T} {c : Nat} {p : Nat → Int} {kp : Nat → Bool} {V : Nat → tx_T} {g o en : Int} (hV : VT G h n t now last T c p kp V g o en) (hN : 42 ≤ N) : CtV l G m_VT_scrap N [.ref (ad (g_b G) 0)] h (fun h' => VT G h' n t now last T 0 (fun _ => -1) kp V g o en ∧ (∀ q, 42 ≤ q → h' q = h q)) := by
  refine zV_of (by decide) rfl rfl ?_
  intro k X Q
  have X : Cx k G R_VT b_VT_scrap 1 rm_VT_scrap := X
  have Q : Rt k G none N 0 0 (pV (fun h' => VT G h' n t now last T 0 (fun _ => -1) kp V g o en ∧ (∀ q, 42 ≤ q → h' q = h q))) := Q
  show Ev k G 1 N 0 0 h 0 [some (.ref (ad (g_b G) 0))] []
  have c0 := hV.1
  have c5 := hV.2.2.2.1
  obtain ⟨_, c3, -⟩ := id (hV.2.2.1)
  refine e_aload_n X d_VT_scrap_0 rfl ?_
  refine e_get X d_VT_scrap_1 fl_VT_21 c0 (by omega) rfl ?_
  refine z_iconst X d_VT_scrap_4 ?_
  refine e_aload_n X d_VT_scrap_5 rfl ?_
  refine e_get X d_VT_scrap_6 fl_VT_21 c0 (by omega) rfl ?_
  refine z_callV_I X d_VT_scrap_9 cv_VT_67 (c_Row_length hV.2.2.1 (by omega)) c3 (by omega) rfl rfl ⟨rfl, rfl⟩ rfl (fun z3 h1 hp2 => ?_)
  obtain ⟨rfl, hh4⟩ := hp2
  rw [hh4]
  refine z_callV_V X d_VT_scrap_12 cv_VT_71 (c_Row_cut (a := 0) (b := c) hV.2.2.1 (by omega) (Nat.zero_le _) (Nat.le_refl _)) c3 (by omega) rfl rfl ⟨rfl, rfl⟩ rfl (fun h5 hp6 => ?_)
  obtain ⟨h8, h9⟩ := hp6
  rw [Nat.sub_zero, Nat.sub_self] at h8
  have hz0 : tx_ed p 0 c 0 p = fun _ => -1 := by
    refine tx_ext (n := 0) h8.ok ⟨fun i hi => absurd hi (Nat.not_lt_zero _), fun _ _ => rfl⟩ (fun i hi => absurd hi (Nat.not_lt_zero _))
  rw [hz0] at h8
  exact z_return X Q d_VT_scrap_15 ⟨hV.clip h8 (fun q q9 => h9 q (by omega) (by omega)), fun q q9 => h9 q (by omega) (by omega)⟩

set_option maxRecDepth 100000 in
set_option maxHeartbeats 4000000 in
theorem c_VT_insert {l : Launch} {G : lx_G} {N : Nat} {h : Nat → va_E} {n : Nat} {t : Nat → Int} {now last : Nat} {T : Nat → tx_T} {c : Nat} {p : Nat → Int} {kp : Nat → Bool} {V : Nat → tx_T} {g o en : Int} {a : Int} (hV : VT G h n t now last T c p kp V g o en) (hN : 42 ≤ N) (hr_a : -2147483648 ≤ a ∧ a < 2147483648) : CtI l G m_VT_insert N [.ref (ad (g_b G) 0), vI (a)] h (fun z h' => (ctk g n t c a a = true ∧ z = 1 ∧ VT G h' (n + c) (tx_ed t a.toNat a.toNat c p) (hn (ctp c p && decide (a = o)) now) (hl (ctp c p && decide (a = o)) now last) (hT (ctp c p && decide (a = o)) now T (n + c, tx_ed t a.toNat a.toNat c p)) c p kp V g (if ctp c p then a + 1 else -1) en ∧ (∀ q, 42 ≤ q → h' q = h q)) ∨ (ctk g n t c a a = false ∧ z = 0 ∧ VT G h' n t now last T c p kp V g o en ∧ (∀ q, 42 ≤ q → h' q = h q))) := by
  refine zI_of (by decide) rfl rfl ?_
  intro k X Q
  have X : Cx k G R_VT b_VT_insert 3 rm_VT_insert := X
  have Q : Rt k G (some (.boolean)) N 0 0 (pI (fun z h' => (ctk g n t c a a = true ∧ z = 1 ∧ VT G h' (n + c) (tx_ed t a.toNat a.toNat c p) (hn (ctp c p && decide (a = o)) now) (hl (ctp c p && decide (a = o)) now last) (hT (ctp c p && decide (a = o)) now T (n + c, tx_ed t a.toNat a.toNat c p)) c p kp V g (if ctp c p then a + 1 else -1) en ∧ (∀ q, 42 ≤ q → h' q = h q)) ∨ (ctk g n t c a a = false ∧ z = 0 ∧ VT G h' n t now last T c p kp V g o en ∧ (∀ q, 42 ≤ q → h' q = h q)))) := Q
  show Ev k G 3 N 0 0 h 0 [some (.ref (ad (g_b G) 0)), some (vI (a)), none] []
  have c0 := hV.1
  have c5 := hV.2.2.2.1
  refine e_aload_n X d_VT_insert_0 rfl ?_
  refine z_iload_n X d_VT_insert_1 rfl ?_
  refine z_iload_n X d_VT_insert_2 rfl ?_
  refine z_callV_I X d_VT_insert_3 cv_VT_75 (c_VT_canTakeClip hV hN hr_a hr_a) c0 (by omega) rfl rfl ⟨rfl, rfl⟩ rfl (fun z3 h1 hp2 => ?_)
  obtain ⟨rfl, hV2, hf2⟩ := hp2
  have c0b := hV2.1
  have c5b := hV2.2.2.2.1
  refine z_if_ne (tgt := 11) X d_VT_insert_6 (by decide) (b2z_r _) (fun q1 => ?_) (fun q1 => ?_)
  · have hck := b2z_ne q1
    have hck2 := hck
    simp only [ctk, Bool.and_eq_true, decide_eq_true_eq] at hck2
    have hrg := ced_rg hck2.2.1
    obtain ⟨i, rfl⟩ : ∃ i : Nat, a = (i : Int) := ⟨a.toNat, by omega⟩
    have hcl := hV.2.2.1.le
    have hle := hV.2.1.le
    refine e_aload_n X d_VT_insert_11 rfl ?_
    refine e_get X d_VT_insert_12 fl_VT_14 c0b (by omega) rfl ?_
    refine z_iload_n X d_VT_insert_15 rfl ?_
    refine e_aload_n X d_VT_insert_16 rfl ?_
    refine e_get X d_VT_insert_17 fl_VT_21 c0b (by omega) rfl ?_
    refine z_Tput X d_VT_insert_20 cf_VT_79_Row cf_VT_79_Gap hV2.2.1 (by omega) hV2.2.2.1 (by omega) (by omega) (by omega) (by omega) rfl (fun h4 hB5 hBf6 => ?_)
    have hV3 := hV2.text hB5 (fun q q9 => hBf6 q (by omega) (by omega))
    have c0c := hV3.1
    have c5c := hV3.2.2.2.1
    obtain ⟨_, c15c, -⟩ := id (hV3.2.2.2.2.2.2.2.1)
    have hf3 : ∀ q, 42 ≤ q → h4 q = h q := fun q q9 => (hBf6 q (by omega) (by omega)).trans (hf2 q q9)
    refine e_aload_n X d_VT_insert_25 rfl ?_
    refine z_callV_I X d_VT_insert_26 cv_VT_83 (c_VT_clipIsTyping hV3 hN) c0c (by omega) rfl rfl ⟨rfl, rfl⟩ rfl (fun z9 h7 hp8 => ?_)
    obtain ⟨rfl, hh10⟩ := hp8
    rw [hh10]
    refine e_istore_n X d_VT_insert_29 (by decide) ?_
    refine z_iload_n X d_VT_insert_30 rfl ?_
    refine z_if_eq (tgt := 56) X d_VT_insert_31 (by decide) (b2z_r _) (fun q2 => ?_) (fun q2 => ?_)
    · have hty := b2z_eq q2
      refine e_aload_n X d_VT_insert_56 rfl ?_
      refine e_get X d_VT_insert_57 fl_VT_38 c0c (by omega) rfl ?_
      refine e_aload_n X d_VT_insert_60 rfl ?_
      refine e_get X d_VT_insert_61 fl_VT_14 c0c (by omega) rfl ?_
      refine z_callV_V X d_VT_insert_64 cv_VT_91 (c_His_addStep hV3.2.2.2.2.2.2.2.1 (by omega) hV3.2.1 (by omega) (by omega)) c15c (by omega) rfl rfl ⟨rfl, rfl⟩ rfl (fun h11 hp12 => ?_)
      obtain ⟨hH, hHf⟩ := hp12
      have hV4 := hV3.hist hH (fun q q9 => hHf q q9)
      have c0d := hV4.1
      have c5d := hV4.2.2.2.1
      have hf4 : ∀ q, 42 ≤ q → h11 q = h q := fun q q9 => (hHf q (by omega)).trans (hf3 q q9)
      refine e_aload_n X d_VT_insert_67 rfl ?_
      refine z_iload_n X d_VT_insert_68 rfl ?_
      refine z_if_eq (tgt := 78) X d_VT_insert_69 (by decide) (b2z_r _) (fun q8 => ?_) (fun q8 => ?_)
      · refine z_iconst X d_VT_insert_78 ?_
        refine z_put X d_VT_insert_79 fl_VT_60 c0d (by omega) (Nat.le_of_ble_eq_true rfl) rfl rfl (fun h14 c15 fr16 => ?_)
        have c15 : h14 0 = ob ci_VT [.ref (ad (g_b G) 1), .ref (ad (g_b G) 3), .ref (ad (g_b G) 5), .ref (ad (g_b G) 6), .ref (ad (g_b G) 15), .ref (ad (g_b G) 35), .ref (ad (g_b G) 38), vI (g), vI (-1)] := c15
        have c17 := (fr16 5 (by omega)).trans c5d
        refine z_iconst X d_VT_insert_82 ?_
        have hVf := hV4.obj c15 hV.2.2.2.2.2.2.2.2.2.2.1 (by omega) (fun q q9 => fr16 q q9)
        exact z_ireturn X Q d_VT_insert_83 rfl (Or.inl ⟨hck, rfl, (by rw [hty, show (false && decide (((i : Nat) : Int) = o)) = false from rfl]; exact hVf), fun q q9 => (fr16 q (by omega)).trans (hf4 q q9)⟩)
      · exact absurd (b2z_ne q8) (by rw [hty]; decide)
    · have hty := b2z_ne q2
      have hoo := hV.2.2.2.2.2.2.2.2.2.2.2
      refine z_iload_n X d_VT_insert_34 rfl ?_
      refine e_aload_n X d_VT_insert_35 rfl ?_
      refine e_get X d_VT_insert_36 fl_VT_60 c0c (by omega) rfl ?_
      refine z_icmp_ne (tgt := 56) X d_VT_insert_39 (by decide) (by omega) (fun q3 => ?_) (fun q3 => ?_)
      · have hio : ¬ ((i : Nat) : Int) = o := q3
        refine e_aload_n X d_VT_insert_56 rfl ?_
        refine e_get X d_VT_insert_57 fl_VT_38 c0c (by omega) rfl ?_
        refine e_aload_n X d_VT_insert_60 rfl ?_
        refine e_get X d_VT_insert_61 fl_VT_14 c0c (by omega) rfl ?_
        refine z_callV_V X d_VT_insert_64 cv_VT_91 (c_His_addStep hV3.2.2.2.2.2.2.2.1 (by omega) hV3.2.1 (by omega) (by omega)) c15c (by omega) rfl rfl ⟨rfl, rfl⟩ rfl (fun h18 hp19 => ?_)
        obtain ⟨hH, hHf⟩ := hp19
        have hV4 := hV3.hist hH (fun q q9 => hHf q q9)
        have c0d := hV4.1
        have c5d := hV4.2.2.2.1
        have hf4 : ∀ q, 42 ≤ q → h18 q = h q := fun q q9 => (hHf q (by omega)).trans (hf3 q q9)
        refine e_aload_n X d_VT_insert_67 rfl ?_
        refine z_iload_n X d_VT_insert_68 rfl ?_
        refine z_if_eq (tgt := 78) X d_VT_insert_69 (by decide) (b2z_r _) (fun q8 => ?_) (fun q8 => ?_)
        · exact absurd (b2z_eq q8) (by rw [hty]; decide)
        · refine z_iload_n X d_VT_insert_72 rfl ?_
          refine z_iconst X d_VT_insert_73 ?_
          refine z_iadd X d_VT_insert_74 ?_
          refine e_goto (tgt := 79) X d_VT_insert_75 (by decide) ?_
          refine z_put X d_VT_insert_79 fl_VT_60 c0d (by omega) (Nat.le_of_ble_eq_true rfl) rfl rfl (fun h21 c22 fr23 => ?_)
          have c22 : h21 0 = ob ci_VT [.ref (ad (g_b G) 1), .ref (ad (g_b G) 3), .ref (ad (g_b G) 5), .ref (ad (g_b G) 6), .ref (ad (g_b G) 15), .ref (ad (g_b G) 35), .ref (ad (g_b G) 38), vI (g), vI (((i : Nat) : Int) + 1)] := c22
          have c24 := (fr23 5 (by omega)).trans c5d
          refine z_iconst X d_VT_insert_82 ?_
          have hVf := hV4.obj c22 hV.2.2.2.2.2.2.2.2.2.2.1 (by omega) (fun q q9 => fr23 q q9)
          exact z_ireturn X Q d_VT_insert_83 rfl (Or.inl ⟨hck, rfl, (by rw [hty, show (true && decide (((i : Nat) : Int) = o)) = false from by rw [decide_eq_false hio]; rfl]; exact hVf), fun q q9 => (fr23 q (by omega)).trans (hf4 q q9)⟩)
      · have hio : ((i : Nat) : Int) = o := q3
        refine e_aload_n X d_VT_insert_42 rfl ?_
        refine e_get X d_VT_insert_43 fl_VT_38 c0c (by omega) rfl ?_
        refine e_aload_n X d_VT_insert_46 rfl ?_
        refine e_get X d_VT_insert_47 fl_VT_14 c0c (by omega) rfl ?_
        refine z_callV_V X d_VT_insert_50 cv_VT_87 (c_His_extendStep hV3.2.2.2.2.2.2.2.1 (by omega) hV3.2.1 (by omega) (by omega)) c15c (by omega) rfl rfl ⟨rfl, rfl⟩ rfl (fun h25 hp26 => ?_)
        obtain ⟨hH, hHf⟩ := hp26
        have hV4 := hV3.hist hH (fun q q9 => hHf q q9)
        have c0d := hV4.1
        have c5d := hV4.2.2.2.1
        have hf4 : ∀ q, 42 ≤ q → h25 q = h q := fun q q9 => (hHf q (by omega)).trans (hf3 q q9)
        refine e_goto (tgt := 67) X d_VT_insert_53 (by decide) ?_
        refine e_aload_n X d_VT_insert_67 rfl ?_
        refine z_iload_n X d_VT_insert_68 rfl ?_
        refine z_if_eq (tgt := 78) X d_VT_insert_69 (by decide) (b2z_r _) (fun q8 => ?_) (fun q8 => ?_)
        · exact absurd (b2z_eq q8) (by rw [hty]; decide)
        · refine z_iload_n X d_VT_insert_72 rfl ?_
          refine z_iconst X d_VT_insert_73 ?_
          refine z_iadd X d_VT_insert_74 ?_
          refine e_goto (tgt := 79) X d_VT_insert_75 (by decide) ?_
          refine z_put X d_VT_insert_79 fl_VT_60 c0d (by omega) (Nat.le_of_ble_eq_true rfl) rfl rfl (fun h28 c29 fr30 => ?_)
          have c29 : h28 0 = ob ci_VT [.ref (ad (g_b G) 1), .ref (ad (g_b G) 3), .ref (ad (g_b G) 5), .ref (ad (g_b G) 6), .ref (ad (g_b G) 15), .ref (ad (g_b G) 35), .ref (ad (g_b G) 38), vI (g), vI (((i : Nat) : Int) + 1)] := c29
          have c31 := (fr30 5 (by omega)).trans c5d
          refine z_iconst X d_VT_insert_82 ?_
          have hVf := hV4.obj c29 hV.2.2.2.2.2.2.2.2.2.2.1 (by omega) (fun q q9 => fr30 q q9)
          exact z_ireturn X Q d_VT_insert_83 rfl (Or.inl ⟨hck, rfl, (by rw [hty, decide_eq_true hio]; exact hVf), fun q q9 => (fr30 q (by omega)).trans (hf4 q q9)⟩)
  · refine z_iconst X d_VT_insert_9 ?_
    exact z_ireturn X Q d_VT_insert_10 rfl (Or.inr ⟨b2z_eq q1, rfl, hV2, hf2⟩)

