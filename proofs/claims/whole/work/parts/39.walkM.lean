abbrev rmM_limit : Room := { frames := 1, cells := 0, slots := 0, locals := 22 }
set_option maxHeartbeats 4000000 in
set_option maxRecDepth 100000 in
theorem cM_limit (l : Launch) (D : va_G) (ad : Nat → Nat) (c3 : ClassId × ClassId × ClassId) (M : mMem) (x1 : Int32)  {r : Int32} {M' : mMem} (hf : fM_limit M x1 = some (r, M')) : kIM l D ad c3 yM_limit wM_limit rmM_limit [.ref (ad 0), .int x1] M r M' := by
  refine m_oI (cc := bM_limit) (maxL := 3) (ty := .int) (own := R_M) nestM (by decide) rfl (Nat.le_of_ble_eq_true rfl) rfl (fun p e s m args below meth c Q hx hb hml hown hts hK hN hret ls hZ hl => ?_)
  have hl : lv_has ls 3 [(0, .ref (ad 0)), (1, .int x1)] := hl
  unfold fM_limit at hf
  refine lv_iload_n hx hb dM_limit_0 rfl (lv_at hl 1 rfl) ?_
  refine lv_iconst (v := 1) hx hb dM_limit_1 (by decide) ?_
  refine lv_sipush (v := 1000) hx hb dM_limit_2 (by decide) ?_
  obtain ⟨r_1, hc, hf⟩ := m_b1x hf
  refine m_ci (va_runS (As := [.int x1, .int 1, .int 1000]) (rest := []) ⟨hx, hb, hml, hown, hts⟩ (cM_within l D ad c3 M x1 1 1000 hc) (cwS 3 hts (gS9 k3_175 k3_176 k1_8 kc_M_within) rfl rfl rfl (by decide +kernel) ⟨by decide, by decide⟩) (m_preS hK hN hZ) rfl rfl hl.1 rfl (lv_room (Nat.le_of_ble_eq_true rfl)) dM_limit_5 ⟨Nat.zero_le _, Nat.zero_le _⟩) hZ (fun H locs hZ => ?_)
  refine lv_if_ne (tgt := 13) hx hb dM_limit_8 (by decide) (fun c_2 => ?_) (fun c_2 => ?_)
  · have hf := m_f hf c_2
    refine lv_aload_n hx hb dM_limit_13 rfl (lv_at hl 0 rfl) ?_
    refine m_get hx hb hts in_M hown hK hZ (by decide) rfl rfl 31 (by decide) (hts _ k3_70) (fun _ h9 => h9) rfl dM_limit_14 ?_
    obtain ⟨x2_3, ex2_3, hf⟩ := m_lx hf
    refine m_topi ex2_3 ?_
    refine lv_istore_n (lv' := [(2, .int x2_3), (0, .ref (ad 0)), (1, .int x1)]) hx hb dM_limit_17 rfl hl (by decide) rfl (fun ls hl => ?_)
    refine lv_aload_n hx hb dM_limit_18 rfl (lv_at hl 1 rfl) ?_
    refine lv_iload_n hx hb dM_limit_19 rfl (lv_at hl 2 rfl) ?_
    obtain ⟨M_4, eM_4, hf⟩ := m_lx hf
    refine m_put (ty := .int) hx hb hts in_M ⟨ty_M_ok, nm_M_ok⟩ hown hK hZ (by decide) rfl rfl 31 (by decide) (hts _ k3_70) (fun _ h9 => h9) rfl (by decide +kernel) rfl rfl rfl dM_limit_20 eM_4 (fun H locs hZ => ?_)
    refine lv_iload_n hx hb dM_limit_23 rfl (lv_at hl 0 rfl) ?_
    exact hret _ _ _ _ _ _ hf rfl hZ dM_limit_24
  · have hf := m_t hf c_2
    refine lv_iconst (v := (-1)) hx hb dM_limit_11 (by decide) ?_
    exact hret _ _ _ _ _ _ hf rfl hZ dM_limit_12
abbrev rmM_driftsOff : Room := { frames := 2, cells := 0, slots := 0, locals := 49 }
set_option maxHeartbeats 4000000 in
set_option maxRecDepth 100000 in
theorem cM_driftsOff (l : Launch) (D : va_G) (ad : Nat → Nat) (c3 : ClassId × ClassId × ClassId) (M : mMem) (x1 : Int32)  {r : Int32} (hf : fM_driftsOff M x1 = some r) : kPM l D ad c3 yM_driftsOff wM_driftsOff rmM_driftsOff [.ref (ad 0), .int x1] M r := by
  refine m_oP (cc := bM_driftsOff) (maxL := 7) (ty := .boolean) (own := R_M) nestM (by decide) rfl (Nat.le_of_ble_eq_true rfl) rfl (fun p e s m args below meth c Q hx hb hml hown hts hK hN hret ls hZ hl => ?_)
  have hl : lv_has ls 7 [(0, .ref (ad 0)), (1, .int x1)] := hl
  unfold fM_driftsOff at hf
  have B108 : ∀ (x4 : Int32) (x5 : Int32), fM_driftsOff_B108 M x4 x5 = some r → ∀ (H : Heap) (locs : List Loc) (ls : Array Slot), zM D ad c3 s H locs M → lv_has ls 7 [(4, .int x4), (5, .int x5)] → W p l e rmM_driftsOff s m args below meth c H locs 0 0 Q (F0 m 108 ls []) := by
    intro x4 x5 hf H locs ls hZ hl
    unfold fM_driftsOff_B108 at hf
    refine lv_iload hx hb dM_driftsOff_108 (lv_at hl 0 rfl) ?_
    refine lv_iconst (v := 5) hx hb dM_driftsOff_110 (by decide) ?_
    refine lv_icmp_eq (tgt := 120) hx hb dM_driftsOff_111 (by decide) (fun c_5 => ?_) (fun c_5 => ?_)
    · have hf := m_t hf c_5
      refine lv_iconst (v := 1) hx hb dM_driftsOff_120 (by decide) ?_
      refine lv_goto (tgt := 125) hx hb dM_driftsOff_121 (by decide) ?_
      exact hret _ _ _ _ _ (fun _ _ => 0) hf rfl hZ dM_driftsOff_125
    · have hf := m_f hf c_5
      refine lv_iload hx hb dM_driftsOff_114 (lv_at hl 1 rfl) ?_
      refine lv_iconst (v := 5) hx hb dM_driftsOff_116 (by decide) ?_
      refine lv_icmp_ne (tgt := 124) hx hb dM_driftsOff_117 (by decide) (fun c_6 => ?_) (fun c_6 => ?_)
      · have hf := m_f hf c_6
        refine lv_iconst (v := 0) hx hb dM_driftsOff_124 (by decide) ?_
        exact hret _ _ _ _ _ (fun _ _ => 0) hf rfl hZ dM_driftsOff_125
      · have hf := m_t hf c_6
        refine lv_iconst (v := 1) hx hb dM_driftsOff_120 (by decide) ?_
        refine lv_goto (tgt := 125) hx hb dM_driftsOff_121 (by decide) ?_
        exact hret _ _ _ _ _ (fun _ _ => 0) hf rfl hZ dM_driftsOff_125
  have L30 : ∀ (x2 : Int32) (n30 : Nat) (x3 : Int32) (x4 : Int32) (x5 : Int32) (x6 : Int32), fM_driftsOff_L30 x1 M x2 n30 x3 x4 x5 x6 = some r → ∀ (H : Heap) (locs : List Loc) (ls : Array Slot), zM D ad c3 s H locs M → lv_has ls 7 [(0, .ref (ad 0)), (1, .int x1), (2, .int x2), (3, .int x3), (4, .int x4), (5, .int x5), (6, .int x6)] → W p l e rmM_driftsOff s m args below meth c H locs 0 0 Q (F0 m 30 ls []) := by
    intro x2 n30
    induction n30 with
    | zero => intro x3 x4 x5 x6 hf; exact m_none hf
    | succ n30 ih30 =>
      intro x3 x4 x5 x6 hf H locs ls hZ hl
      rw [fM_driftsOff_L30] at hf
      have B75 : ∀ (x3 : Int32) (x5 : Int32) (x6 : Int32) (s0 : Int32) (s1 : Int32), fM_driftsOff_B75 (fM_driftsOff_L30 x1 M x2 n30) x2 M x3 x5 x6 s0 s1 = some r → ∀ (H : Heap) (locs : List Loc) (ls : Array Slot), zM D ad c3 s H locs M → lv_has ls 7 [(0, .ref (ad 0)), (1, .int x1), (2, .int x2), (3, .int x3), (5, .int x5), (6, .int x6)] → W p l e rmM_driftsOff s m args below meth c H locs 0 0 Q (F0 m 75 ls [.int s1, .int s0]) := by
        intro x3 x5 x6 s0 s1 hf H locs ls hZ hl
        unfold fM_driftsOff_B75 at hf
        refine lv_iadd hx hb dM_driftsOff_75 ?_
        obtain ⟨x4_12, ex4_12, hf⟩ := m_lx hf
        refine m_topi ex4_12 ?_
        refine lv_istore (lv' := [(4, .int x4_12), (0, .ref (ad 0)), (1, .int x1), (2, .int x2), (3, .int x3), (5, .int x5), (6, .int x6)]) hx hb dM_driftsOff_76 hl (by decide) rfl (fun ls hl => ?_)
        refine lv_iload hx hb dM_driftsOff_78 (lv_at hl 5 rfl) ?_
        refine lv_aload_n hx hb dM_driftsOff_80 rfl (lv_at hl 1 rfl) ?_
        refine m_getR (k' := 20) hx hb hts in_M hown hK hZ (by decide) rfl rfl 34 (by decide) (hts _ k3_73) (fun _ h9 => h9) rfl dM_driftsOff_81 ?_
        refine lv_iload hx hb dM_driftsOff_84 (lv_at hl 6 rfl) ?_
        obtain ⟨h_13, hf⟩ := m_gx hf
        refine m_iald hx hb hK hZ (by decide) rfl h_13 dM_driftsOff_86 ?_
        refine lv_iload_n hx hb dM_driftsOff_87 rfl (lv_at hl 3 rfl) ?_
        refine lv_bipush (v := 10) hx hb dM_driftsOff_88 (by decide) ?_
        refine lv_isub hx hb dM_driftsOff_90 ?_
        refine lv_icmp_ge (tgt := 98) hx hb dM_driftsOff_91 (by decide) (fun c_14 => ?_) (fun c_14 => ?_)
        · have hf := m_t hf c_14
          refine lv_iconst (v := 0) hx hb dM_driftsOff_98 (by decide) ?_
          refine lv_iadd hx hb dM_driftsOff_99 ?_
          obtain ⟨x5_15, ex5_15, hf⟩ := m_lx hf
          refine m_topi ex5_15 ?_
          refine lv_istore (lv' := [(5, .int x5_15), (4, .int x4_12), (0, .ref (ad 0)), (1, .int x1), (2, .int x2), (3, .int x3), (6, .int x6)]) hx hb dM_driftsOff_100 hl (by decide) rfl (fun ls hl => ?_)
          obtain ⟨x6_16, ex6_16, hf⟩ := m_lx hf
          refine lv_iinc (v := x6_16) (lv' := [(6, .int x6_16), (5, .int x5_15), (4, .int x4_12), (0, .ref (ad 0)), (1, .int x1), (2, .int x2), (3, .int x3)]) hx hb dM_driftsOff_102 hl (k := 6) rfl (by rw [ex6_16]; rfl) (by decide) rfl (fun ls hl => ?_)
          refine lv_goto (tgt := 30) hx hb dM_driftsOff_105 (by decide) ?_
          exact ih30 _ _ _ _ hf _ _ _ hZ (lv_sub hl [3, 4, 5, 6, 2, 1, 0] rfl)
        · have hf := m_f hf c_14
          refine lv_iconst (v := 1) hx hb dM_driftsOff_94 (by decide) ?_
          refine lv_goto (tgt := 99) hx hb dM_driftsOff_95 (by decide) ?_
          refine lv_iadd hx hb dM_driftsOff_99 ?_
          obtain ⟨x5_17, ex5_17, hf⟩ := m_lx hf
          refine m_topi ex5_17 ?_
          refine lv_istore (lv' := [(5, .int x5_17), (4, .int x4_12), (0, .ref (ad 0)), (1, .int x1), (2, .int x2), (3, .int x3), (6, .int x6)]) hx hb dM_driftsOff_100 hl (by decide) rfl (fun ls hl => ?_)
          obtain ⟨x6_18, ex6_18, hf⟩ := m_lx hf
          refine lv_iinc (v := x6_18) (lv' := [(6, .int x6_18), (5, .int x5_17), (4, .int x4_12), (0, .ref (ad 0)), (1, .int x1), (2, .int x2), (3, .int x3)]) hx hb dM_driftsOff_102 hl (k := 6) rfl (by rw [ex6_18]; rfl) (by decide) rfl (fun ls hl => ?_)
          refine lv_goto (tgt := 30) hx hb dM_driftsOff_105 (by decide) ?_
          exact ih30 _ _ _ _ hf _ _ _ hZ (lv_sub hl [3, 4, 5, 6, 2, 1, 0] rfl)
      refine lv_iload hx hb dM_driftsOff_30 (lv_at hl 6 rfl) ?_
      refine lv_if_lt (tgt := 108) hx hb dM_driftsOff_32 (by decide) (fun c_4 => ?_) (fun c_4 => ?_)
      · have hf := m_t hf c_4
        exact B108 x4 x5 hf _ _ _ hZ (lv_sub hl [4, 5] rfl)
      · have hf := m_f hf c_4
        refine lv_iload_n hx hb dM_driftsOff_35 rfl (lv_at hl 3 rfl) ?_
        refine lv_iconst (v := 5) hx hb dM_driftsOff_36 (by decide) ?_
        refine lv_icmp_ge (tgt := 108) hx hb dM_driftsOff_37 (by decide) (fun c_7 => ?_) (fun c_7 => ?_)
        · have hf := m_t hf c_7
          exact B108 x4 x5 hf _ _ _ hZ (lv_sub hl [4, 5] rfl)
        · have hf := m_f hf c_7
          refine lv_aload_n hx hb dM_driftsOff_40 rfl (lv_at hl 0 rfl) ?_
          refine m_getR (k' := 19) hx hb hts in_M hown hK hZ (by decide) rfl rfl 33 (by decide) (hts _ k3_72) (fun _ h9 => h9) rfl dM_driftsOff_41 ?_
          refine lv_iload hx hb dM_driftsOff_44 (lv_at hl 6 rfl) ?_
          obtain ⟨h_8, hf⟩ := m_gx hf
          refine m_iald hx hb hK hZ (by decide) rfl h_8 dM_driftsOff_46 ?_
          refine lv_iload_n hx hb dM_driftsOff_47 rfl (lv_at hl 1 rfl) ?_
          refine lv_icmp_ne (tgt := 102) hx hb dM_driftsOff_48 (by decide) (fun c_9 => ?_) (fun c_9 => ?_)
          · have hf := m_f hf c_9
            obtain ⟨x6_19, ex6_19, hf⟩ := m_lx hf
            refine lv_iinc (v := x6_19) (lv' := [(6, .int x6_19), (0, .ref (ad 0)), (1, .int x1), (2, .int x2), (3, .int x3), (4, .int x4), (5, .int x5)]) hx hb dM_driftsOff_102 hl (k := 6) rfl (by rw [ex6_19]; rfl) (by decide) rfl (fun ls hl => ?_)
            refine lv_goto (tgt := 30) hx hb dM_driftsOff_105 (by decide) ?_
            exact ih30 _ _ _ _ hf _ _ _ hZ (lv_sub hl [1, 2, 3, 4, 5, 6, 0] rfl)
          · have hf := m_t hf c_9
            obtain ⟨x3_10, ex3_10, hf⟩ := m_lx hf
            refine lv_iinc (v := x3_10) (lv' := [(3, .int x3_10), (0, .ref (ad 0)), (1, .int x1), (2, .int x2), (4, .int x4), (5, .int x5), (6, .int x6)]) hx hb dM_driftsOff_51 hl (k := 3) rfl (by rw [ex3_10]; rfl) (by decide) rfl (fun ls hl => ?_)
            refine lv_iload hx hb dM_driftsOff_54 (lv_at hl 4 rfl) ?_
            refine lv_aload_n hx hb dM_driftsOff_56 rfl (lv_at hl 1 rfl) ?_
            refine m_getR (k' := 20) hx hb hts in_M hown hK hZ (by decide) rfl rfl 34 (by decide) (hts _ k3_73) (fun _ h9 => h9) rfl dM_driftsOff_57 ?_
            refine lv_iload hx hb dM_driftsOff_60 (lv_at hl 6 rfl) ?_
            refine m_iald hx hb hK hZ (by decide) rfl h_8 dM_driftsOff_62 ?_
            refine lv_iload_n hx hb dM_driftsOff_63 rfl (lv_at hl 3 rfl) ?_
            refine lv_bipush (v := 10) hx hb dM_driftsOff_64 (by decide) ?_
            refine lv_iadd hx hb dM_driftsOff_66 ?_
            refine lv_icmp_le (tgt := 74) hx hb dM_driftsOff_67 (by decide) (fun c_11 => ?_) (fun c_11 => ?_)
            · have hf := m_t hf c_11
              refine lv_iconst (v := 0) hx hb dM_driftsOff_74 (by decide) ?_
              exact B75 x3_10 x5 x6 x4 0 hf _ _ _ hZ (lv_sub hl [1, 2, 3, 0, 5, 6] rfl)
            · have hf := m_f hf c_11
              refine lv_iconst (v := 1) hx hb dM_driftsOff_70 (by decide) ?_
              refine lv_goto (tgt := 75) hx hb dM_driftsOff_71 (by decide) ?_
              exact B75 x3_10 x5 x6 x4 1 hf _ _ _ hZ (lv_sub hl [1, 2, 3, 0, 5, 6] rfl)
  refine lv_aload_n hx hb dM_driftsOff_0 rfl (lv_at hl 0 rfl) ?_
  refine lv_aload_n hx hb dM_driftsOff_1 rfl (lv_at hl 0 rfl) ?_
  refine m_getR (k' := 13) hx hb hts in_M hown hK hZ (by decide) rfl rfl 19 (by decide) (hts _ k3_58) (fun _ h9 => h9) rfl dM_driftsOff_2 ?_
  refine lv_iload_n hx hb dM_driftsOff_5 rfl (lv_at hl 1 rfl) ?_
  refine lv_iconst (v := 0) hx hb dM_driftsOff_6 (by decide) ?_
  obtain ⟨r_1, hc, hf⟩ := m_b1x hf
  refine m_ci (va_runV (As := [.ref (ad 13), .int x1, .int 0]) (rest := []) ⟨hx, hb, hml, hown, hts⟩ (cM_endOf l D ad c3 M 13 x1 0 ⟨rfl, (by decide)⟩ hc) (cwV 3 hts (gV k3_238 k4_0 kp_22 k1_8 kc_M_endOf) rfl rfl rfl (by decide +kernel) ⟨by decide, by decide⟩) (m_preV hK hN hZ (by decide) rfl rfl) rfl rfl hl.1 rfl (lv_room (Nat.le_of_ble_eq_true rfl)) dM_driftsOff_7 ⟨Nat.zero_le _, Nat.zero_le _⟩) hZ (fun H locs hZ => ?_)
  refine lv_bipush (v := 100) hx hb dM_driftsOff_10 (by decide) ?_
  refine lv_idiv hx hb dM_driftsOff_12 (by decide) ?_
  obtain ⟨x2_2, ex2_2, hf⟩ := m_lx hf
  refine m_topi ex2_2 ?_
  refine lv_istore_n (lv' := [(2, .int x2_2), (0, .ref (ad 0)), (1, .int x1)]) hx hb dM_driftsOff_13 rfl hl (by decide) rfl (fun ls hl => ?_)
  refine lv_iconst (v := 0) hx hb dM_driftsOff_14 (by decide) ?_
  refine lv_istore_n (lv' := [(3, .int 0), (2, .int x2_2), (0, .ref (ad 0)), (1, .int x1)]) hx hb dM_driftsOff_15 rfl hl (by decide) rfl (fun ls hl => ?_)
  refine lv_iconst (v := 0) hx hb dM_driftsOff_16 (by decide) ?_
  refine lv_istore (lv' := [(4, .int 0), (3, .int 0), (2, .int x2_2), (0, .ref (ad 0)), (1, .int x1)]) hx hb dM_driftsOff_17 hl (by decide) rfl (fun ls hl => ?_)
  refine lv_iconst (v := 0) hx hb dM_driftsOff_19 (by decide) ?_
  refine lv_istore (lv' := [(5, .int 0), (4, .int 0), (3, .int 0), (2, .int x2_2), (0, .ref (ad 0)), (1, .int x1)]) hx hb dM_driftsOff_20 hl (by decide) rfl (fun ls hl => ?_)
  refine lv_aload_n hx hb dM_driftsOff_22 rfl (lv_at hl 4 rfl) ?_
  refine m_get hx hb hts in_M hown hK hZ (by decide) rfl rfl 32 (by decide) (hts _ k3_71) (fun _ h9 => h9) rfl dM_driftsOff_23 ?_
  refine lv_iconst (v := 1) hx hb dM_driftsOff_26 (by decide) ?_
  refine lv_isub hx hb dM_driftsOff_27 ?_
  obtain ⟨x6_3, ex6_3, hf⟩ := m_lx hf
  refine m_topi ex6_3 ?_
  refine lv_istore (lv' := [(6, .int x6_3), (5, .int 0), (4, .int 0), (3, .int 0), (2, .int x2_2), (0, .ref (ad 0)), (1, .int x1)]) hx hb dM_driftsOff_28 hl (by decide) rfl (fun ls hl => ?_)
  exact L30 x2_2 128 0 0 0 x6_3 hf _ _ _ hZ (lv_sub hl [5, 6, 4, 3, 2, 1, 0] rfl)
