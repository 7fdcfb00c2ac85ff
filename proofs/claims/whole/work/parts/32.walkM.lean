abbrev rmM_takes : Room := { frames := 0, cells := 0, slots := 0, locals := 0 }
set_option maxHeartbeats 4000000 in
set_option maxRecDepth 100000 in
theorem cM_takes (l : Launch) (D : va_G) (ad : Nat → Nat) (c3 : ClassId × ClassId × ClassId) (M : mMem) (x1 : Int32)  {r : Int32} {M' : mMem} (hf : fM_takes M x1 = some (r, M')) : kIM l D ad c3 yM_takes wM_takes rmM_takes [.ref (ad 0), .int x1] M r M' := by
  refine m_oI (cc := bM_takes) (maxL := 3) (ty := .boolean) (own := R_M) nestM (by decide) rfl (Nat.le_of_ble_eq_true rfl) rfl (fun p e s m args below meth c Q hx hb hml hown hts hK hN hret ls hZ hl => ?_)
  have hl : lv_has ls 3 [(0, .ref (ad 0)), (1, .int x1)] := hl
  unfold fM_takes at hf
  have B28 : ∀ (M : mMem), fM_takes_B28 M = some (r, M') → ∀ (H : Heap) (locs : List Loc) (ls : Array Slot), zM D ad c3 s H locs M → lv_has ls 3 [(0, .ref (ad 0))] → W p l e rmM_takes s m args below meth c H locs 0 0 Q (F0 m 28 ls []) := by
    intro M hf H locs ls hZ hl
    unfold fM_takes_B28 at hf
    refine lv_iconst (v := 0) hx hb dM_takes_28 (by decide) ?_
    refine lv_istore_n (lv' := [(2, .int 0), (0, .ref (ad 0))]) hx hb dM_takes_29 rfl hl (by decide) rfl (fun ls hl => ?_)
    refine lv_aload_n hx hb dM_takes_30 rfl (lv_at hl 1 rfl) ?_
    refine lv_dup hx hb dM_takes_31 rfl ?_
    refine m_get hx hb hts in_M hown hK hZ (by decide) rfl rfl 15 (by decide) (hts _ k3_54) (fun _ h9 => h9) rfl dM_takes_32 ?_
    refine lv_iload_n hx hb dM_takes_35 rfl (lv_at hl 0 rfl) ?_
    refine lv_if_eq (tgt := 43) hx hb dM_takes_36 (by decide) (fun _ => ?_) (fun c => absurd c (by decide))
    refine lv_iconst (v := 0) hx hb dM_takes_43 (by decide) ?_
    refine lv_iadd hx hb dM_takes_44 ?_
    obtain ⟨M_2, eM_2, hf⟩ := m_lx hf
    refine m_put (ty := .int) hx hb hts in_M ⟨ty_M_ok, nm_M_ok⟩ hown hK hZ (by decide) rfl rfl 15 (by decide) (hts _ k3_54) (fun _ h9 => h9) rfl (by decide +kernel) rfl rfl rfl dM_takes_45 eM_2 (fun H locs hZ => ?_)
    refine lv_iload_n hx hb dM_takes_48 rfl (lv_at hl 0 rfl) ?_
    exact hret _ _ _ _ _ _ hf rfl hZ dM_takes_49
  refine lv_aload_n hx hb dM_takes_0 rfl (lv_at hl 0 rfl) ?_
  refine m_get hx hb hts in_M hown hK hZ (by decide) rfl rfl 15 (by decide) (hts _ k3_54) (fun _ h9 => h9) rfl dM_takes_1 ?_
  refine lv_aload_n hx hb dM_takes_4 rfl (lv_at hl 0 rfl) ?_
  refine m_get hx hb hts in_M hown hK hZ (by decide) rfl rfl 13 (by decide) (hts _ k3_52) (fun _ h9 => h9) rfl dM_takes_5 ?_
  refine lv_icmp_ge (tgt := 28) hx hb dM_takes_8 (by decide) (fun c_1 => ?_) (fun c_1 => ?_)
  · have hf := m_t hf c_1
    exact B28 M hf _ _ _ hZ (lv_sub hl [0] rfl)
  · have hf := m_f hf c_1
    refine lv_aload_n hx hb dM_takes_11 rfl (lv_at hl 0 rfl) ?_
    refine m_getR (k' := 10) hx hb hts in_M hown hK hZ (by decide) rfl rfl 14 (by decide) (hts _ k3_53) (fun _ h9 => h9) rfl dM_takes_12 ?_
    refine lv_aload_n hx hb dM_takes_15 rfl (lv_at hl 0 rfl) ?_
    refine m_get hx hb hts in_M hown hK hZ (by decide) rfl rfl 15 (by decide) (hts _ k3_54) (fun _ h9 => h9) rfl dM_takes_16 ?_
    obtain ⟨h_3, hf⟩ := m_gx hf
    refine m_iald hx hb hK hZ (by decide) rfl h_3 dM_takes_19 ?_
    refine lv_iload_n hx hb dM_takes_20 rfl (lv_at hl 1 rfl) ?_
    refine lv_icmp_ne (tgt := 28) hx hb dM_takes_21 (by decide) (fun c_4 => ?_) (fun c_4 => ?_)
    · have hf := m_f hf c_4
      exact B28 M hf _ _ _ hZ (lv_sub hl [0] rfl)
    · have hf := m_t hf c_4
      refine lv_iconst (v := 1) hx hb dM_takes_24 (by decide) ?_
      refine lv_goto (tgt := 29) hx hb dM_takes_25 (by decide) ?_
      refine lv_istore_n (lv' := [(2, .int 1), (0, .ref (ad 0)), (1, .int x1)]) hx hb dM_takes_29 rfl hl (by decide) rfl (fun ls hl => ?_)
      refine lv_aload_n hx hb dM_takes_30 rfl (lv_at hl 1 rfl) ?_
      refine lv_dup hx hb dM_takes_31 rfl ?_
      refine m_get hx hb hts in_M hown hK hZ (by decide) rfl rfl 15 (by decide) (hts _ k3_54) (fun _ h9 => h9) rfl dM_takes_32 ?_
      refine lv_iload_n hx hb dM_takes_35 rfl (lv_at hl 0 rfl) ?_
      refine lv_if_eq (tgt := 43) hx hb dM_takes_36 (by decide) (fun c => absurd c (by decide)) (fun _ => ?_)
      refine lv_iconst (v := 1) hx hb dM_takes_39 (by decide) ?_
      refine lv_goto (tgt := 44) hx hb dM_takes_40 (by decide) ?_
      refine lv_iadd hx hb dM_takes_44 ?_
      obtain ⟨M_5, eM_5, hf⟩ := m_lx hf
      refine m_put (ty := .int) hx hb hts in_M ⟨ty_M_ok, nm_M_ok⟩ hown hK hZ (by decide) rfl rfl 15 (by decide) (hts _ k3_54) (fun _ h9 => h9) rfl (by decide +kernel) rfl rfl rfl dM_takes_45 eM_5 (fun H locs hZ => ?_)
      refine lv_iload_n hx hb dM_takes_48 rfl (lv_at hl 0 rfl) ?_
      exact hret _ _ _ _ _ _ hf rfl hZ dM_takes_49
abbrev rmM_readBands : Room := { frames := 2, cells := 0, slots := 0, locals := 42 }
set_option maxHeartbeats 4000000 in
set_option maxRecDepth 100000 in
theorem cM_readBands (l : Launch) (D : va_G) (ad : Nat → Nat) (c3 : ClassId × ClassId × ClassId) (M : mMem)   {r : Int32} {M' : mMem} (hf : fM_readBands M  = some (r, M')) : kIM l D ad c3 yM_readBands wM_readBands rmM_readBands [.ref (ad 0)] M r M' := by
  refine m_oI (cc := bM_readBands) (maxL := 7) (ty := .int) (own := R_M) nestM (by decide) rfl (Nat.le_of_ble_eq_true rfl) rfl (fun p e s m args below meth c Q hx hb hml hown hts hK hN hret ls hZ hl => ?_)
  have hl : lv_has ls 7 [(0, .ref (ad 0))] := hl
  unfold fM_readBands at hf
  have B128 : ∀ (M : mMem) (x1 : Int32), fM_readBands_B128 M x1 = some (r, M') → ∀ (H : Heap) (locs : List Loc) (ls : Array Slot), zM D ad c3 s H locs M → lv_has ls 7 [(0, .ref (ad 0)), (1, .int x1)] → W p l e rmM_readBands s m args below meth c H locs 0 0 Q (F0 m 128 ls []) := by
    intro M x1 hf H locs ls hZ hl
    unfold fM_readBands_B128 at hf
    refine lv_aload_n hx hb dM_readBands_128 rfl (lv_at hl 0 rfl) ?_
    refine m_get hx hb hts in_M hown hK hZ (by decide) rfl rfl 15 (by decide) (hts _ k3_54) (fun _ h9 => h9) rfl dM_readBands_129 ?_
    refine lv_aload_n hx hb dM_readBands_132 rfl (lv_at hl 0 rfl) ?_
    refine m_get hx hb hts in_M hown hK hZ (by decide) rfl rfl 13 (by decide) (hts _ k3_52) (fun _ h9 => h9) rfl dM_readBands_133 ?_
    refine lv_icmp_ne (tgt := 143) hx hb dM_readBands_136 (by decide) (fun c_3 => ?_) (fun c_3 => ?_)
    · have hf := m_f hf c_3
      refine lv_iconst (v := (-1)) hx hb dM_readBands_143 (by decide) ?_
      exact hret _ _ _ _ _ _ hf rfl hZ dM_readBands_144
    · have hf := m_t hf c_3
      refine lv_iload_n hx hb dM_readBands_139 rfl (lv_at hl 1 rfl) ?_
      refine lv_goto (tgt := 144) hx hb dM_readBands_140 (by decide) ?_
      exact hret _ _ _ _ _ _ hf rfl hZ dM_readBands_144
  have L9 : ∀ (n9 : Nat) (M : mMem) (x1 : Int32) (x2 : Int32), fM_readBands_L9 n9 M x1 x2 = some (r, M') → ∀ (H : Heap) (locs : List Loc) (ls : Array Slot), zM D ad c3 s H locs M → lv_has ls 7 [(0, .ref (ad 0)), (1, .int x1), (2, .int x2)] → W p l e rmM_readBands s m args below meth c H locs 0 0 Q (F0 m 9 ls []) := by
    intro n9
    induction n9 with
    | zero => intro M x1 x2 hf; exact m_none hf
    | succ n9 ih9 =>
      intro M x1 x2 hf H locs ls hZ hl
      rw [fM_readBands_L9] at hf
      have B68 : ∀ (M : mMem) (x1 : Int32) (x3 : Int32) (x4 : Int32) (x5 : Int32) (s0 : Int32), fM_readBands_B68 (fM_readBands_L9 n9) M x1 x3 x4 x5 s0 = some (r, M') → ∀ (H : Heap) (locs : List Loc) (ls : Array Slot), zM D ad c3 s H locs M → lv_has ls 7 [(0, .ref (ad 0)), (1, .int x1), (3, .int x3), (4, .int x4), (5, .int x5)] → W p l e rmM_readBands s m args below meth c H locs 0 0 Q (F0 m 68 ls [.int s0]) := by
        intro M x1 x3 x4 x5 s0 hf H locs ls hZ hl
        unfold fM_readBands_B68 at hf
        refine lv_istore (lv' := [(6, .int s0), (0, .ref (ad 0)), (1, .int x1), (3, .int x3), (4, .int x4), (5, .int x5)]) hx hb dM_readBands_68 hl (by decide) rfl (fun ls hl => ?_)
        refine lv_iload hx hb dM_readBands_70 (lv_at hl 5 rfl) ?_
        refine lv_if_eq (tgt := 80) hx hb dM_readBands_72 (by decide) (fun c_10 => ?_) (fun c_10 => ?_)
        · have hf := m_t hf c_10
          refine lv_iconst (v := (-1)) hx hb dM_readBands_80 (by decide) ?_
          exact hret _ _ _ _ _ _ hf rfl hZ dM_readBands_81
        · have hf := m_f hf c_10
          refine lv_iload hx hb dM_readBands_75 (lv_at hl 0 rfl) ?_
          refine lv_if_ge (tgt := 82) hx hb dM_readBands_77 (by decide) (fun c_11 => ?_) (fun c_11 => ?_)
          · have hf := m_t hf c_11
            refine lv_iload hx hb dM_readBands_82 (lv_at hl 4 rfl) ?_
            refine lv_iload hx hb dM_readBands_84 (lv_at hl 0 rfl) ?_
            obtain ⟨r_12, hc, hf⟩ := m_b1x hf
            refine m_ci (va_runS (As := [.int x4, .int s0]) (rest := []) ⟨hx, hb, hml, hown, hts⟩ (cM_isBand l D ad c3 M x4 s0 hc) (cwS 2 hts (gS9 k3_155 k3_156 k1_8 kc_M_isBand) rfl rfl rfl (by decide +kernel) ⟨by decide, by decide⟩) (m_preS hK hN hZ) rfl rfl hl.1 rfl (lv_room (Nat.le_of_ble_eq_true rfl)) dM_readBands_86 ⟨Nat.zero_le _, Nat.zero_le _⟩) hZ (fun H locs hZ => ?_)
            refine lv_if_ne (tgt := 99) hx hb dM_readBands_89 (by decide) (fun c_13 => ?_) (fun c_13 => ?_)
            · have hf := m_f hf c_13
              refine lv_aload_n hx hb dM_readBands_99 rfl (lv_at hl 1 rfl) ?_
              refine m_getR (k' := 11) hx hb hts in_M hown hK hZ (by decide) rfl rfl 16 (by decide) (hts _ k3_55) (fun _ h9 => h9) rfl dM_readBands_100 ?_
              refine lv_iload_n hx hb dM_readBands_103 rfl (lv_at hl 2 rfl) ?_
              refine lv_iload hx hb dM_readBands_104 (lv_at hl 4 rfl) ?_
              obtain ⟨h_15, hf⟩ := m_gx hf
              obtain ⟨M_16, eM_16, hf⟩ := m_lx hf
              refine m_iast hx hb hK hZ (by decide) rfl h_15 dM_readBands_106 eM_16 (fun H locs hZ => ?_)
              refine lv_aload_n hx hb dM_readBands_107 rfl (lv_at hl 1 rfl) ?_
              refine m_getR (k' := 12) hx hb hts in_M hown hK hZ (by decide) rfl rfl 17 (by decide) (hts _ k3_56) (fun _ h9 => h9) rfl dM_readBands_108 ?_
              refine lv_iload_n hx hb dM_readBands_111 rfl (lv_at hl 2 rfl) ?_
              refine lv_iload hx hb dM_readBands_112 (lv_at hl 0 rfl) ?_
              obtain ⟨M_17, eM_17, hf⟩ := m_lx hf
              refine m_iast hx hb hK hZ (by decide) rfl h_15 dM_readBands_114 eM_17 (fun H locs hZ => ?_)
              obtain ⟨x1_18, ex1_18, hf⟩ := m_lx hf
              refine lv_iinc (v := x1_18) (lv' := [(1, .int x1_18), (6, .int s0), (0, .ref (ad 0)), (3, .int x3), (4, .int x4), (5, .int x5)]) hx hb dM_readBands_115 hl (k := 2) rfl (by rw [ex1_18]; rfl) (by decide) rfl (fun ls hl => ?_)
              refine lv_aload_n hx hb dM_readBands_118 rfl (lv_at hl 2 rfl) ?_
              refine lv_bipush (v := 44) hx hb dM_readBands_119 (by decide) ?_
              obtain ⟨r_19, M_20, hc, hf⟩ := m_b2x hf
              refine m_ci (va_runV (As := [.int 44]) (rest := []) ⟨hx, hb, hml, hown, hts⟩ (cM_takes l D ad c3 M_17 44 hc) (cwV 1 hts (gV k3_214 k3_216 kp_17 k1_8 kc_M_takes) rfl rfl rfl (by decide +kernel) ⟨by decide, by decide⟩) (m_preV hK hN hZ (by decide) rfl rfl) rfl rfl hl.1 rfl (lv_room (Nat.le_of_ble_eq_true rfl)) dM_readBands_121 ⟨Nat.zero_le _, Nat.zero_le _⟩) hZ (fun H locs hZ => ?_)
              refine lv_istore_n (lv' := [(2, .int r_19), (1, .int x1_18), (6, .int s0), (0, .ref (ad 0)), (3, .int x3), (4, .int x4), (5, .int x5)]) hx hb dM_readBands_124 rfl hl (by decide) rfl (fun ls hl => ?_)
              refine lv_goto (tgt := 9) hx hb dM_readBands_125 (by decide) ?_
              exact ih9 _ _ _ hf _ _ _ hZ (lv_sub hl [3, 1, 0] rfl)
            · have hf := m_t hf c_13
              refine lv_aload_n hx hb dM_readBands_92 rfl (lv_at hl 1 rfl) ?_
              refine lv_iload_n hx hb dM_readBands_93 rfl (lv_at hl 3 rfl) ?_
              obtain ⟨M_14, eM_14, hf⟩ := m_lx hf
              refine m_put (ty := .int) hx hb hts in_M ⟨ty_M_ok, nm_M_ok⟩ hown hK hZ (by decide) rfl rfl 15 (by decide) (hts _ k3_54) (fun _ h9 => h9) rfl (by decide +kernel) rfl rfl rfl dM_readBands_94 eM_14 (fun H locs hZ => ?_)
              refine lv_iconst (v := (-1)) hx hb dM_readBands_97 (by decide) ?_
              exact hret _ _ _ _ _ _ hf rfl hZ dM_readBands_98
          · have hf := m_f hf c_11
            refine lv_iconst (v := (-1)) hx hb dM_readBands_80 (by decide) ?_
            exact hret _ _ _ _ _ _ hf rfl hZ dM_readBands_81
      have B53 : ∀ (M : mMem) (x1 : Int32) (x3 : Int32) (x4 : Int32) (s0 : Int32), fM_readBands_B53 (fM_readBands_L9 n9) M x1 x3 x4 s0 = some (r, M') → ∀ (H : Heap) (locs : List Loc) (ls : Array Slot), zM D ad c3 s H locs M → lv_has ls 7 [(0, .ref (ad 0)), (1, .int x1), (3, .int x3), (4, .int x4)] → W p l e rmM_readBands s m args below meth c H locs 0 0 Q (F0 m 53 ls [.int s0]) := by
        intro M x1 x3 x4 s0 hf H locs ls hZ hl
        unfold fM_readBands_B53 at hf
        refine lv_istore (lv' := [(5, .int s0), (0, .ref (ad 0)), (1, .int x1), (3, .int x3), (4, .int x4)]) hx hb dM_readBands_53 hl (by decide) rfl (fun ls hl => ?_)
        refine lv_iload hx hb dM_readBands_55 (lv_at hl 0 rfl) ?_
        refine lv_if_eq (tgt := 67) hx hb dM_readBands_57 (by decide) (fun c_9 => ?_) (fun c_9 => ?_)
        · have hf := m_t hf c_9
          refine lv_iconst (v := (-1)) hx hb dM_readBands_67 (by decide) ?_
          exact B68 M x1 x3 x4 s0 (-1) hf _ _ _ hZ (lv_sub hl [1, 2, 3, 4, 0] rfl)
        · have hf := m_f hf c_9
          refine lv_aload_n hx hb dM_readBands_60 rfl (lv_at hl 1 rfl) ?_
          obtain ⟨r_21, M_22, hc, hf⟩ := m_b2x hf
          refine m_ci (va_runV (As := []) (rest := []) ⟨hx, hb, hml, hown, hts⟩ (cM_number l D ad c3 M hc) (cwV 0 hts (gV k3_206 k3_208 kp_15 k1_8 kc_M_number) rfl rfl rfl (by decide +kernel) ⟨by decide, by decide⟩) (m_preV hK hN hZ (by decide) rfl rfl) rfl rfl hl.1 rfl (lv_room (Nat.le_of_ble_eq_true rfl)) dM_readBands_61 ⟨Nat.zero_le _, Nat.zero_le _⟩) hZ (fun H locs hZ => ?_)
          refine lv_goto (tgt := 68) hx hb dM_readBands_64 (by decide) ?_
          exact B68 M_22 x1 x3 x4 s0 r_21 hf _ _ _ hZ (lv_sub hl [1, 2, 3, 4, 0] rfl)
      have B52 : ∀ (M : mMem) (x1 : Int32) (x3 : Int32) (x4 : Int32), fM_readBands_B52 (fM_readBands_L9 n9) M x1 x3 x4 = some (r, M') → ∀ (H : Heap) (locs : List Loc) (ls : Array Slot), zM D ad c3 s H locs M → lv_has ls 7 [(0, .ref (ad 0)), (1, .int x1), (3, .int x3), (4, .int x4)] → W p l e rmM_readBands s m args below meth c H locs 0 0 Q (F0 m 52 ls []) := by
        intro M x1 x3 x4 hf H locs ls hZ hl
        unfold fM_readBands_B52 at hf
        refine lv_iconst (v := 0) hx hb dM_readBands_52 (by decide) ?_
        exact B53 M x1 x3 x4 0 hf _ _ _ hZ (lv_sub hl [0, 1, 2, 3] rfl)
      refine lv_iload_n hx hb dM_readBands_9 rfl (lv_at hl 2 rfl) ?_
      refine lv_if_eq (tgt := 128) hx hb dM_readBands_10 (by decide) (fun c_2 => ?_) (fun c_2 => ?_)
      · have hf := m_t hf c_2
        exact B128 M x1 hf _ _ _ hZ (lv_sub hl [0, 1] rfl)
      · have hf := m_f hf c_2
        refine lv_aload_n hx hb dM_readBands_13 rfl (lv_at hl 0 rfl) ?_
        refine m_get hx hb hts in_M hown hK hZ (by decide) rfl rfl 15 (by decide) (hts _ k3_54) (fun _ h9 => h9) rfl dM_readBands_14 ?_
        obtain ⟨x3_4, ex3_4, hf⟩ := m_lx hf
        refine m_topi ex3_4 ?_
        refine lv_istore_n (lv' := [(3, .int x3_4), (0, .ref (ad 0)), (1, .int x1), (2, .int x2)]) hx hb dM_readBands_17 rfl hl (by decide) rfl (fun ls hl => ?_)
        refine lv_iload_n hx hb dM_readBands_18 rfl (lv_at hl 2 rfl) ?_
        refine lv_aload_n hx hb dM_readBands_19 rfl (lv_at hl 1 rfl) ?_
        refine m_get hx hb hts in_M hown hK hZ (by decide) rfl rfl 0 (by decide) (hts _ k3_39) (fun _ h9 => h9) rfl dM_readBands_20 ?_
        refine lv_icmp_ne (tgt := 28) hx hb dM_readBands_23 (by decide) (fun c_5 => ?_) (fun c_5 => ?_)
        · have hf := m_f hf c_5
          refine lv_aload_n hx hb dM_readBands_28 rfl (lv_at hl 1 rfl) ?_
          obtain ⟨r_6, M_7, hc, hf⟩ := m_b2x hf
          refine m_ci (va_runV (As := []) (rest := []) ⟨hx, hb, hml, hown, hts⟩ (cM_number l D ad c3 M hc) (cwV 0 hts (gV k3_206 k3_208 kp_15 k1_8 kc_M_number) rfl rfl rfl (by decide +kernel) ⟨by decide, by decide⟩) (m_preV hK hN hZ (by decide) rfl rfl) rfl rfl hl.1 rfl (lv_room (Nat.le_of_ble_eq_true rfl)) dM_readBands_29 ⟨Nat.zero_le _, Nat.zero_le _⟩) hZ (fun H locs hZ => ?_)
          refine lv_istore (lv' := [(4, .int r_6), (3, .int x3_4), (0, .ref (ad 0)), (1, .int x1), (2, .int x2)]) hx hb dM_readBands_32 hl (by decide) rfl (fun ls hl => ?_)
          refine lv_iload hx hb dM_readBands_34 (lv_at hl 0 rfl) ?_
          refine lv_if_lt (tgt := 52) hx hb dM_readBands_36 (by decide) (fun c_8 => ?_) (fun c_8 => ?_)
          · have hf := m_t hf c_8
            exact B52 M_7 x1 x3_4 r_6 hf _ _ _ hZ (lv_sub hl [2, 3, 1, 0] rfl)
          · have hf := m_f hf c_8
            refine lv_aload_n hx hb dM_readBands_39 rfl (lv_at hl 2 rfl) ?_
            refine lv_bipush (v := 45) hx hb dM_readBands_40 (by decide) ?_
            obtain ⟨r_23, M_24, hc, hf⟩ := m_b2x hf
            refine m_ci (va_runV (As := [.int 45]) (rest := []) ⟨hx, hb, hml, hown, hts⟩ (cM_takes l D ad c3 M_7 45 hc) (cwV 1 hts (gV k3_214 k3_216 kp_17 k1_8 kc_M_takes) rfl rfl rfl (by decide +kernel) ⟨by decide, by decide⟩) (m_preV hK hN hZ (by decide) rfl rfl) rfl rfl hl.1 rfl (lv_room (Nat.le_of_ble_eq_true rfl)) dM_readBands_42 ⟨Nat.zero_le _, Nat.zero_le _⟩) hZ (fun H locs hZ => ?_)
            refine lv_if_eq (tgt := 52) hx hb dM_readBands_45 (by decide) (fun c_25 => ?_) (fun c_25 => ?_)
            · have hf := m_t hf c_25
              exact B52 M_24 x1 x3_4 r_6 hf _ _ _ hZ (lv_sub hl [2, 3, 1, 0] rfl)
            · have hf := m_f hf c_25
              refine lv_iconst (v := 1) hx hb dM_readBands_48 (by decide) ?_
              refine lv_goto (tgt := 53) hx hb dM_readBands_49 (by decide) ?_
              exact B53 M_24 x1 x3_4 r_6 1 hf _ _ _ hZ (lv_sub hl [2, 3, 1, 0] rfl)
        · have hf := m_t hf c_5
          refine lv_iconst (v := (-1)) hx hb dM_readBands_26 (by decide) ?_
          exact hret _ _ _ _ _ _ hf rfl hZ dM_readBands_27
  refine lv_aload_n hx hb dM_readBands_0 rfl (lv_at hl 0 rfl) ?_
  refine lv_iconst (v := 0) hx hb dM_readBands_1 (by decide) ?_
  obtain ⟨M_1, eM_1, hf⟩ := m_lx hf
  refine m_put (ty := .int) hx hb hts in_M ⟨ty_M_ok, nm_M_ok⟩ hown hK hZ (by decide) rfl rfl 15 (by decide) (hts _ k3_54) (fun _ h9 => h9) rfl (by decide +kernel) rfl rfl rfl dM_readBands_2 eM_1 (fun H locs hZ => ?_)
  refine lv_iconst (v := 0) hx hb dM_readBands_5 (by decide) ?_
  refine lv_istore_n (lv' := [(1, .int 0), (0, .ref (ad 0))]) hx hb dM_readBands_6 rfl hl (by decide) rfl (fun ls hl => ?_)
  refine lv_iconst (v := 1) hx hb dM_readBands_7 (by decide) ?_
  refine lv_istore_n (lv' := [(2, .int 1), (1, .int 0), (0, .ref (ad 0))]) hx hb dM_readBands_8 rfl hl (by decide) rfl (fun ls hl => ?_)
  exact L9 128 M_1 0 1 hf _ _ _ hZ (lv_sub hl [2, 1, 0] rfl)
abbrev rmM_read : Room := { frames := 3, cells := 0, slots := 0, locals := 68 }
set_option maxHeartbeats 4000000 in
set_option maxRecDepth 100000 in
theorem cM_read (l : Launch) (D : va_G) (ad : Nat → Nat) (c3 : ClassId × ClassId × ClassId) (M : mMem)   {r : Int32} {M' : mMem} (hf : fM_read M  = some (r, M')) : kIM l D ad c3 yM_read wM_read rmM_read [.ref (ad 0)] M r M' := by
  refine m_oI (cc := bM_read) (maxL := 3) (ty := .int) (own := R_M) nestM (by decide) rfl (Nat.le_of_ble_eq_true rfl) rfl (fun p e s m args below meth c Q hx hb hml hown hts hK hN hret ls hZ hl => ?_)
  have hl : lv_has ls 3 [(0, .ref (ad 0))] := hl
  unfold fM_read at hf
  have B58 : ∀ (M : mMem) (x1 : Int32), fM_read_B58 M x1 = some (r, M') → ∀ (H : Heap) (locs : List Loc) (ls : Array Slot), zM D ad c3 s H locs M → lv_has ls 3 [(0, .ref (ad 0)), (1, .int x1)] → W p l e rmM_read s m args below meth c H locs 0 0 Q (F0 m 58 ls []) := by
    intro M x1 hf H locs ls hZ hl
    unfold fM_read_B58 at hf
    refine lv_aload_n hx hb dM_read_58 rfl (lv_at hl 0 rfl) ?_
    obtain ⟨M_6, hc, hf⟩ := m_b1x hf
    refine m_cv (va_runV (As := []) (rest := []) ⟨hx, hb, hml, hown, hts⟩ (cM_changed l D ad c3 M hc) (cwV 0 hts (gV k3_158 k3_160 kp_11 k1_8 kc_M_changed) rfl rfl rfl (by decide +kernel) ⟨by decide, by decide⟩) (m_preV hK hN hZ (by decide) rfl rfl) rfl rfl hl.1 rfl (lv_room (Nat.le_of_ble_eq_true rfl)) dM_read_59 ⟨Nat.zero_le _, Nat.zero_le _⟩) hZ (fun H locs hZ => ?_)
    refine lv_iload_n hx hb dM_read_62 rfl (lv_at hl 1 rfl) ?_
    exact hret _ _ _ _ _ _ hf rfl hZ dM_read_63
  have L23 : ∀ (x1 : Int32) (n23 : Nat) (M : mMem) (x2 : Int32), fM_read_L23 x1 n23 M x2 = some (r, M') → ∀ (H : Heap) (locs : List Loc) (ls : Array Slot), zM D ad c3 s H locs M → lv_has ls 3 [(0, .ref (ad 0)), (1, .int x1), (2, .int x2)] → W p l e rmM_read s m args below meth c H locs 0 0 Q (F0 m 23 ls []) := by
    intro x1 n23
    induction n23 with
    | zero => intro M x2 hf; exact m_none hf
    | succ n23 ih23 =>
      intro M x2 hf H locs ls hZ hl
      rw [fM_read_L23] at hf
      refine lv_iload_n hx hb dM_read_23 rfl (lv_at hl 2 rfl) ?_
      refine lv_iload_n hx hb dM_read_24 rfl (lv_at hl 1 rfl) ?_
      refine lv_icmp_ge (tgt := 58) hx hb dM_read_25 (by decide) (fun c_5 => ?_) (fun c_5 => ?_)
      · have hf := m_t hf c_5
        exact B58 M x1 hf _ _ _ hZ (lv_sub hl [0, 1] rfl)
      · have hf := m_f hf c_5
        refine lv_aload_n hx hb dM_read_28 rfl (lv_at hl 0 rfl) ?_
        refine m_getR (k' := 1) hx hb hts in_M hown hK hZ (by decide) rfl rfl 1 (by decide) (hts _ k3_40) (fun _ h9 => h9) rfl dM_read_29 ?_
        refine lv_iload_n hx hb dM_read_32 rfl (lv_at hl 2 rfl) ?_
        refine lv_aload_n hx hb dM_read_33 rfl (lv_at hl 0 rfl) ?_
        refine m_getR (k' := 11) hx hb hts in_M hown hK hZ (by decide) rfl rfl 16 (by decide) (hts _ k3_55) (fun _ h9 => h9) rfl dM_read_34 ?_
        refine lv_iload_n hx hb dM_read_37 rfl (lv_at hl 2 rfl) ?_
        obtain ⟨h_7, hf⟩ := m_gx hf
        refine m_iald hx hb hK hZ (by decide) rfl h_7 dM_read_38 ?_
        obtain ⟨M_8, eM_8, hf⟩ := m_lx hf
        refine m_iast hx hb hK hZ (by decide) rfl h_7 dM_read_39 eM_8 (fun H locs hZ => ?_)
        refine lv_aload_n hx hb dM_read_40 rfl (lv_at hl 0 rfl) ?_
        refine m_getR (k' := 2) hx hb hts in_M hown hK hZ (by decide) rfl rfl 2 (by decide) (hts _ k3_41) (fun _ h9 => h9) rfl dM_read_41 ?_
        refine lv_iload_n hx hb dM_read_44 rfl (lv_at hl 2 rfl) ?_
        refine lv_aload_n hx hb dM_read_45 rfl (lv_at hl 0 rfl) ?_
        refine m_getR (k' := 12) hx hb hts in_M hown hK hZ (by decide) rfl rfl 17 (by decide) (hts _ k3_56) (fun _ h9 => h9) rfl dM_read_46 ?_
        refine lv_iload_n hx hb dM_read_49 rfl (lv_at hl 2 rfl) ?_
        refine m_iald hx hb hK hZ (by decide) rfl h_7 dM_read_50 ?_
        obtain ⟨M_9, eM_9, hf⟩ := m_lx hf
        refine m_iast hx hb hK hZ (by decide) rfl h_7 dM_read_51 eM_9 (fun H locs hZ => ?_)
        obtain ⟨x2_10, ex2_10, hf⟩ := m_lx hf
        refine lv_iinc (v := x2_10) (lv' := [(2, .int x2_10), (0, .ref (ad 0)), (1, .int x1)]) hx hb dM_read_52 hl (k := 2) rfl (by rw [ex2_10]; rfl) (by decide) rfl (fun ls hl => ?_)
        refine lv_goto (tgt := 23) hx hb dM_read_55 (by decide) ?_
        exact ih23 _ _ hf _ _ _ hZ (lv_sub hl [1, 2, 0] rfl)
  refine lv_aload_n hx hb dM_read_0 rfl (lv_at hl 0 rfl) ?_
  obtain ⟨r_1, M_2, hc, hf⟩ := m_b2x hf
  refine m_ci (va_runV (As := []) (rest := []) ⟨hx, hb, hml, hown, hts⟩ (cM_readBands l D ad c3 M hc) (cwV 0 hts (gV k3_202 k3_204 kp_14 k1_8 kc_M_readBands) rfl rfl rfl (by decide +kernel) ⟨by decide, by decide⟩) (m_preV hK hN hZ (by decide) rfl rfl) rfl rfl hl.1 rfl (lv_room (Nat.le_of_ble_eq_true rfl)) dM_read_1 ⟨Nat.zero_le _, Nat.zero_le _⟩) hZ (fun H locs hZ => ?_)
  refine lv_istore_n (lv' := [(1, .int r_1), (0, .ref (ad 0))]) hx hb dM_read_4 rfl hl (by decide) rfl (fun ls hl => ?_)
  refine lv_aload_n hx hb dM_read_5 rfl (lv_at hl 1 rfl) ?_
  refine lv_iconst (v := 0) hx hb dM_read_6 (by decide) ?_
  obtain ⟨M_3, eM_3, hf⟩ := m_lx hf
  refine m_put (ty := .int) hx hb hts in_M ⟨ty_M_ok, nm_M_ok⟩ hown hK hZ (by decide) rfl rfl 13 (by decide) (hts _ k3_52) (fun _ h9 => h9) rfl (by decide +kernel) rfl rfl rfl dM_read_7 eM_3 (fun H locs hZ => ?_)
  refine lv_iload_n hx hb dM_read_10 rfl (lv_at hl 0 rfl) ?_
  refine lv_if_ge (tgt := 21) hx hb dM_read_11 (by decide) (fun c_4 => ?_) (fun c_4 => ?_)
  · have hf := m_t hf c_4
    refine lv_iconst (v := 0) hx hb dM_read_21 (by decide) ?_
    refine lv_istore_n (lv' := [(2, .int 0), (1, .int r_1), (0, .ref (ad 0))]) hx hb dM_read_22 rfl hl (by decide) rfl (fun ls hl => ?_)
    exact L23 r_1 128 M_3 0 hf _ _ _ hZ (lv_sub hl [2, 1, 0] rfl)
  · have hf := m_f hf c_4
    refine lv_iconst (v := (-1)) hx hb dM_read_14 (by decide) ?_
    refine lv_aload_n hx hb dM_read_15 rfl (lv_at hl 1 rfl) ?_
    refine m_get hx hb hts in_M hown hK hZ (by decide) rfl rfl 15 (by decide) (hts _ k3_54) (fun _ h9 => h9) rfl dM_read_16 ?_
    refine lv_isub hx hb dM_read_19 ?_
    exact hret _ _ _ _ _ _ hf rfl hZ dM_read_20
abbrev rmM_lowerPart : Room := { frames := 0, cells := 0, slots := 0, locals := 0 }
set_option maxHeartbeats 4000000 in
set_option maxRecDepth 100000 in
theorem cM_lowerPart (l : Launch) (D : va_G) (ad : Nat → Nat) (c3 : ClassId × ClassId × ClassId) (M : mMem) (x1 : Int32) (x2 : Int32)  {r : Int32} (hf : fM_lowerPart M x1 x2 = some r) : kPM l D ad c3 yM_lowerPart wM_lowerPart rmM_lowerPart [.ref (ad 0), .int x1, .int x2] M r := by
  refine m_oP (cc := bM_lowerPart) (maxL := 4) (ty := .int) (own := R_M) nestM (by decide) rfl (Nat.le_of_ble_eq_true rfl) rfl (fun p e s m args below meth c Q hx hb hml hown hts hK hN hret ls hZ hl => ?_)
  have hl : lv_has ls 4 [(0, .ref (ad 0)), (1, .int x1), (2, .int x2)] := hl
  unfold fM_lowerPart at hf
  refine lv_aload_n hx hb dM_lowerPart_0 rfl (lv_at hl 0 rfl) ?_
  refine m_getR (k' := 8) hx hb hts in_M hown hK hZ (by decide) rfl rfl 9 (by decide) (hts _ k3_48) (fun _ h9 => h9) rfl dM_lowerPart_1 ?_
  refine lv_bipush (v := 6) hx hb dM_lowerPart_4 (by decide) ?_
  refine lv_iload_n hx hb dM_lowerPart_6 rfl (lv_at hl 1 rfl) ?_
  refine lv_imul hx hb dM_lowerPart_7 ?_
  refine lv_iload_n hx hb dM_lowerPart_8 rfl (lv_at hl 2 rfl) ?_
  refine lv_iadd hx hb dM_lowerPart_9 ?_
  obtain ⟨h_1, hf⟩ := m_gx hf
  refine m_iald hx hb hK hZ (by decide) rfl h_1 dM_lowerPart_10 ?_
  refine lv_aload_n hx hb dM_lowerPart_11 rfl (lv_at hl 0 rfl) ?_
  refine m_getR (k' := 9) hx hb hts in_M hown hK hZ (by decide) rfl rfl 10 (by decide) (hts _ k3_49) (fun _ h9 => h9) rfl dM_lowerPart_12 ?_
  refine lv_bipush (v := 6) hx hb dM_lowerPart_15 (by decide) ?_
  refine lv_iload_n hx hb dM_lowerPart_17 rfl (lv_at hl 1 rfl) ?_
  refine lv_imul hx hb dM_lowerPart_18 ?_
  refine lv_iload_n hx hb dM_lowerPart_19 rfl (lv_at hl 2 rfl) ?_
  refine lv_iadd hx hb dM_lowerPart_20 ?_
  refine m_iald hx hb hK hZ (by decide) rfl h_1 dM_lowerPart_21 ?_
  refine lv_isub hx hb dM_lowerPart_22 ?_
  obtain ⟨x3_2, ex3_2, hf⟩ := m_lx hf
  refine m_topi ex3_2 ?_
  refine lv_istore_n (lv' := [(3, .int x3_2), (0, .ref (ad 0)), (1, .int x1), (2, .int x2)]) hx hb dM_lowerPart_23 rfl hl (by decide) rfl (fun ls hl => ?_)
  refine lv_iload_n hx hb dM_lowerPart_24 rfl (lv_at hl 0 rfl) ?_
  refine lv_if_ge (tgt := 32) hx hb dM_lowerPart_25 (by decide) (fun c_3 => ?_) (fun c_3 => ?_)
  · have hf := m_t hf c_3
    refine lv_iload_n hx hb dM_lowerPart_32 rfl (lv_at hl 0 rfl) ?_
    exact hret _ _ _ _ _ (fun _ _ => 0) hf rfl hZ dM_lowerPart_33
  · have hf := m_f hf c_3
    refine lv_iconst (v := 0) hx hb dM_lowerPart_28 (by decide) ?_
    refine lv_goto (tgt := 33) hx hb dM_lowerPart_29 (by decide) ?_
    exact hret _ _ _ _ _ (fun _ _ => 0) hf rfl hZ dM_lowerPart_33
