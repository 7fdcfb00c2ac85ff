abbrev rmL_drifts : Room := { frames := 0, cells := 0, slots := 0, locals := 0 }
set_option maxHeartbeats 4000000 in
set_option maxRecDepth 100000 in
theorem cL_drifts (l : Launch) (D : va_G) (ad : Nat → Nat) (c3 : ClassId × ClassId × ClassId) (M : mMem) (x1 : Int32) (x2 : Int32)  {r : Int32} (hf : fL_drifts M x1 x2 = some r) : kPX l D ad c3 yL_drifts wL_drifts rmL_drifts [.ref (ad 71), .int x1, .int x2] M r := by
  refine m_oP (cc := bL_drifts) (maxL := 7) (ty := .boolean) (own := R_L) nestX (by decide) rfl (Nat.le_of_ble_eq_true rfl) rfl (fun p e s m args below meth c Q hx hb hml hown hts hK hN hret ls hZ hl => ?_)
  have hl : lv_has ls 7 [(0, .ref (ad 71)), (1, .int x1), (2, .int x2)] := hl
  unfold fL_drifts at hf
  have B75 : ∀ (x4 : Int32) (x5 : Int32), fL_drifts_B75 M x4 x5 = some r → ∀ (H : Heap) (locs : List Loc) (ls : Array Slot), zX D ad c3 s H locs M → lv_has ls 7 [(4, .int x4), (5, .int x5)] → W p l e rmL_drifts s m args below meth c H locs 0 0 Q (F0 m 75 ls []) := by
    intro x4 x5 hf H locs ls hZ hl
    unfold fL_drifts_B75 at hf
    refine lv_iload hx hb dL_drifts_75 (lv_at hl 0 rfl) ?_
    refine lv_iconst (v := 5) hx hb dL_drifts_77 (by decide) ?_
    refine lv_icmp_eq (tgt := 87) hx hb dL_drifts_78 (by decide) (fun c_5 => ?_) (fun c_5 => ?_)
    · have hf := m_t hf c_5
      refine lv_iconst (v := 1) hx hb dL_drifts_87 (by decide) ?_
      refine lv_goto (tgt := 92) hx hb dL_drifts_88 (by decide) ?_
      exact hret _ _ _ _ _ (fun _ _ => 0) hf rfl hZ dL_drifts_92
    · have hf := m_f hf c_5
      refine lv_iload hx hb dL_drifts_81 (lv_at hl 1 rfl) ?_
      refine lv_iconst (v := 5) hx hb dL_drifts_83 (by decide) ?_
      refine lv_icmp_ne (tgt := 91) hx hb dL_drifts_84 (by decide) (fun c_6 => ?_) (fun c_6 => ?_)
      · have hf := m_f hf c_6
        refine lv_iconst (v := 0) hx hb dL_drifts_91 (by decide) ?_
        exact hret _ _ _ _ _ (fun _ _ => 0) hf rfl hZ dL_drifts_92
      · have hf := m_t hf c_6
        refine lv_iconst (v := 1) hx hb dL_drifts_87 (by decide) ?_
        refine lv_goto (tgt := 92) hx hb dL_drifts_88 (by decide) ?_
        exact hret _ _ _ _ _ (fun _ _ => 0) hf rfl hZ dL_drifts_92
  have L25 : ∀ (x3 : Int32) (n25 : Nat) (x4 : Int32) (x5 : Int32) (x6 : Int32), fL_drifts_L25 x1 x2 M x3 n25 x4 x5 x6 = some r → ∀ (H : Heap) (locs : List Loc) (ls : Array Slot), zX D ad c3 s H locs M → lv_has ls 7 [(0, .ref (ad 71)), (1, .int x1), (2, .int x2), (3, .int x3), (4, .int x4), (5, .int x5), (6, .int x6)] → W p l e rmL_drifts s m args below meth c H locs 0 0 Q (F0 m 25 ls []) := by
    intro x3 n25
    induction n25 with
    | zero => intro x4 x5 x6 hf; exact m_none hf
    | succ n25 ih25 =>
      intro x4 x5 x6 hf H locs ls hZ hl
      rw [fL_drifts_L25] at hf
      refine lv_iload hx hb dL_drifts_25 (lv_at hl 6 rfl) ?_
      refine lv_iload_n hx hb dL_drifts_27 rfl (lv_at hl 3 rfl) ?_
      refine lv_icmp_ge (tgt := 75) hx hb dL_drifts_28 (by decide) (fun c_4 => ?_) (fun c_4 => ?_)
      · have hf := m_t hf c_4
        exact B75 x4 x5 hf _ _ _ hZ (lv_sub hl [4, 5] rfl)
      · have hf := m_f hf c_4
        refine lv_aload_n hx hb dL_drifts_31 rfl (lv_at hl 0 rfl) ?_
        refine m_getR (k' := 73) hx hb hts in_L hown hK hZ (by decide) rfl rfl 2 (by decide) (hts _ k1_224) (fun _ h9 => h9) rfl dL_drifts_32 ?_
        refine lv_iload_n hx hb dL_drifts_35 rfl (lv_at hl 1 rfl) ?_
        obtain ⟨h_inb_x1_6, hf⟩ := m_gx hf
        refine m_aald hx hb hK hZ (by decide) rfl h_inb_x1_6 dL_drifts_36 ?_
        refine lv_iload hx hb dL_drifts_37 (lv_at hl 6 rfl) ?_
        obtain ⟨h_7, hf⟩ := m_gx hf
        refine m_iald hx hb hK hZ (grX_73 _ (m_lt h_inb_x1_6)).2 (grX_73 _ (m_lt h_inb_x1_6)).1 h_7 dL_drifts_39 ?_
        refine lv_iload_n hx hb dL_drifts_40 rfl (lv_at hl 2 rfl) ?_
        refine lv_bipush (v := 10) hx hb dL_drifts_41 (by decide) ?_
        refine lv_iadd hx hb dL_drifts_43 ?_
        refine lv_icmp_le (tgt := 50) hx hb dL_drifts_44 (by decide) (fun c_8 => ?_) (fun c_8 => ?_)
        · have hf := m_t hf c_8
          refine lv_aload_n hx hb dL_drifts_50 rfl (lv_at hl 0 rfl) ?_
          refine m_getR (k' := 73) hx hb hts in_L hown hK hZ (by decide) rfl rfl 2 (by decide) (hts _ k1_224) (fun _ h9 => h9) rfl dL_drifts_51 ?_
          refine lv_iload_n hx hb dL_drifts_54 rfl (lv_at hl 1 rfl) ?_
          refine m_aald hx hb hK hZ (by decide) rfl h_inb_x1_6 dL_drifts_55 ?_
          refine lv_iload hx hb dL_drifts_56 (lv_at hl 6 rfl) ?_
          refine m_iald hx hb hK hZ (grX_73 _ (m_lt h_inb_x1_6)).2 (grX_73 _ (m_lt h_inb_x1_6)).1 h_7 dL_drifts_58 ?_
          refine lv_iload_n hx hb dL_drifts_59 rfl (lv_at hl 2 rfl) ?_
          refine lv_bipush (v := 10) hx hb dL_drifts_60 (by decide) ?_
          refine lv_isub hx hb dL_drifts_62 ?_
          refine lv_icmp_ge (tgt := 69) hx hb dL_drifts_63 (by decide) (fun c_9 => ?_) (fun c_9 => ?_)
          · have hf := m_t hf c_9
            obtain ⟨x6_10, ex6_10, hf⟩ := m_lx hf
            refine lv_iinc (v := x6_10) (lv' := [(6, .int x6_10), (0, .ref (ad 71)), (1, .int x1), (2, .int x2), (3, .int x3), (4, .int x4), (5, .int x5)]) hx hb dL_drifts_69 hl (k := 6) rfl (by rw [ex6_10]; rfl) (by decide) rfl (fun ls hl => ?_)
            refine lv_goto (tgt := 25) hx hb dL_drifts_72 (by decide) ?_
            exact ih25 _ _ _ hf _ _ _ hZ (lv_sub hl [1, 2, 3, 4, 5, 6, 0] rfl)
          · have hf := m_f hf c_9
            obtain ⟨x5_11, ex5_11, hf⟩ := m_lx hf
            refine lv_iinc (v := x5_11) (lv' := [(5, .int x5_11), (0, .ref (ad 71)), (1, .int x1), (2, .int x2), (3, .int x3), (4, .int x4), (6, .int x6)]) hx hb dL_drifts_66 hl (k := 5) rfl (by rw [ex5_11]; rfl) (by decide) rfl (fun ls hl => ?_)
            obtain ⟨x6_12, ex6_12, hf⟩ := m_lx hf
            refine lv_iinc (v := x6_12) (lv' := [(6, .int x6_12), (5, .int x5_11), (0, .ref (ad 71)), (1, .int x1), (2, .int x2), (3, .int x3), (4, .int x4)]) hx hb dL_drifts_69 hl (k := 6) rfl (by rw [ex6_12]; rfl) (by decide) rfl (fun ls hl => ?_)
            refine lv_goto (tgt := 25) hx hb dL_drifts_72 (by decide) ?_
            exact ih25 _ _ _ hf _ _ _ hZ (lv_sub hl [2, 3, 4, 5, 6, 1, 0] rfl)
        · have hf := m_f hf c_8
          obtain ⟨x4_13, ex4_13, hf⟩ := m_lx hf
          refine lv_iinc (v := x4_13) (lv' := [(4, .int x4_13), (0, .ref (ad 71)), (1, .int x1), (2, .int x2), (3, .int x3), (5, .int x5), (6, .int x6)]) hx hb dL_drifts_47 hl (k := 4) rfl (by rw [ex4_13]; rfl) (by decide) rfl (fun ls hl => ?_)
          refine lv_aload_n hx hb dL_drifts_50 rfl (lv_at hl 1 rfl) ?_
          refine m_getR (k' := 73) hx hb hts in_L hown hK hZ (by decide) rfl rfl 2 (by decide) (hts _ k1_224) (fun _ h9 => h9) rfl dL_drifts_51 ?_
          refine lv_iload_n hx hb dL_drifts_54 rfl (lv_at hl 2 rfl) ?_
          refine m_aald hx hb hK hZ (by decide) rfl h_inb_x1_6 dL_drifts_55 ?_
          refine lv_iload hx hb dL_drifts_56 (lv_at hl 6 rfl) ?_
          refine m_iald hx hb hK hZ (grX_73 _ (m_lt h_inb_x1_6)).2 (grX_73 _ (m_lt h_inb_x1_6)).1 h_7 dL_drifts_58 ?_
          refine lv_iload_n hx hb dL_drifts_59 rfl (lv_at hl 3 rfl) ?_
          refine lv_bipush (v := 10) hx hb dL_drifts_60 (by decide) ?_
          refine lv_isub hx hb dL_drifts_62 ?_
          refine lv_icmp_ge (tgt := 69) hx hb dL_drifts_63 (by decide) (fun c_14 => ?_) (fun c_14 => ?_)
          · have hf := m_t hf c_14
            obtain ⟨x6_15, ex6_15, hf⟩ := m_lx hf
            refine lv_iinc (v := x6_15) (lv' := [(6, .int x6_15), (4, .int x4_13), (0, .ref (ad 71)), (1, .int x1), (2, .int x2), (3, .int x3), (5, .int x5)]) hx hb dL_drifts_69 hl (k := 6) rfl (by rw [ex6_15]; rfl) (by decide) rfl (fun ls hl => ?_)
            refine lv_goto (tgt := 25) hx hb dL_drifts_72 (by decide) ?_
            exact ih25 _ _ _ hf _ _ _ hZ (lv_sub hl [2, 3, 4, 5, 1, 6, 0] rfl)
          · have hf := m_f hf c_14
            obtain ⟨x5_16, ex5_16, hf⟩ := m_lx hf
            refine lv_iinc (v := x5_16) (lv' := [(5, .int x5_16), (4, .int x4_13), (0, .ref (ad 71)), (1, .int x1), (2, .int x2), (3, .int x3), (6, .int x6)]) hx hb dL_drifts_66 hl (k := 5) rfl (by rw [ex5_16]; rfl) (by decide) rfl (fun ls hl => ?_)
            obtain ⟨x6_17, ex6_17, hf⟩ := m_lx hf
            refine lv_iinc (v := x6_17) (lv' := [(6, .int x6_17), (5, .int x5_16), (4, .int x4_13), (0, .ref (ad 71)), (1, .int x1), (2, .int x2), (3, .int x3)]) hx hb dL_drifts_69 hl (k := 6) rfl (by rw [ex6_17]; rfl) (by decide) rfl (fun ls hl => ?_)
            refine lv_goto (tgt := 25) hx hb dL_drifts_72 (by decide) ?_
            exact ih25 _ _ _ hf _ _ _ hZ (lv_sub hl [3, 4, 5, 6, 2, 1, 0] rfl)
  refine lv_aload_n hx hb dL_drifts_0 rfl (lv_at hl 0 rfl) ?_
  refine m_getR (k' := 72) hx hb hts in_L hown hK hZ (by decide) rfl rfl 1 (by decide) (hts _ k1_223) (fun _ h9 => h9) rfl dL_drifts_1 ?_
  refine lv_iload_n hx hb dL_drifts_4 rfl (lv_at hl 1 rfl) ?_
  obtain ⟨h_inb_x1_6, hf⟩ := m_gx hf
  refine m_iald hx hb hK hZ (by decide) rfl h_inb_x1_6 dL_drifts_5 ?_
  obtain ⟨x3_1, ex3_1, hf⟩ := m_lx hf
  refine m_topi ex3_1 ?_
  refine lv_istore_n (lv' := [(3, .int x3_1), (0, .ref (ad 71)), (1, .int x1), (2, .int x2)]) hx hb dL_drifts_6 rfl hl (by decide) rfl (fun ls hl => ?_)
  refine lv_iload_n hx hb dL_drifts_7 rfl (lv_at hl 0 rfl) ?_
  refine lv_iconst (v := 5) hx hb dL_drifts_8 (by decide) ?_
  refine lv_icmp_ge (tgt := 14) hx hb dL_drifts_9 (by decide) (fun c_2 => ?_) (fun c_2 => ?_)
  · have hf := m_t hf c_2
    refine lv_iconst (v := 0) hx hb dL_drifts_14 (by decide) ?_
    refine lv_istore (lv' := [(4, .int 0), (3, .int x3_1), (0, .ref (ad 71)), (1, .int x1), (2, .int x2)]) hx hb dL_drifts_15 hl (by decide) rfl (fun ls hl => ?_)
    refine lv_iconst (v := 0) hx hb dL_drifts_17 (by decide) ?_
    refine lv_istore (lv' := [(5, .int 0), (4, .int 0), (3, .int x3_1), (0, .ref (ad 71)), (1, .int x1), (2, .int x2)]) hx hb dL_drifts_18 hl (by decide) rfl (fun ls hl => ?_)
    refine lv_iload_n hx hb dL_drifts_20 rfl (lv_at hl 2 rfl) ?_
    refine lv_iconst (v := 5) hx hb dL_drifts_21 (by decide) ?_
    refine lv_isub hx hb dL_drifts_22 ?_
    obtain ⟨x6_3, ex6_3, hf⟩ := m_lx hf
    refine m_topi ex6_3 ?_
    refine lv_istore (lv' := [(6, .int x6_3), (5, .int 0), (4, .int 0), (3, .int x3_1), (0, .ref (ad 71)), (1, .int x1), (2, .int x2)]) hx hb dL_drifts_23 hl (by decide) rfl (fun ls hl => ?_)
    exact L25 x3_1 128 0 0 x6_3 hf _ _ _ hZ (lv_sub hl [4, 5, 6, 3, 2, 1, 0] rfl)
  · have hf := m_f hf c_2
    refine lv_iconst (v := 0) hx hb dL_drifts_12 (by decide) ?_
    exact hret _ _ _ _ _ (fun _ _ => 0) hf rfl hZ dL_drifts_13
abbrev rmL_jumps : Room := { frames := 1, cells := 0, slots := 0, locals := 24 }
set_option maxHeartbeats 4000000 in
set_option maxRecDepth 100000 in
theorem cL_jumps (l : Launch) (D : va_G) (ad : Nat → Nat) (c3 : ClassId × ClassId × ClassId) (M : mMem) (x1 : Int32) (x2 : Int32)  {r : Int32} (hf : fL_jumps M x1 x2 = some r) : kPX l D ad c3 yL_jumps wL_jumps rmL_jumps [.ref (ad 71), .int x1, .int x2] M r := by
  refine m_oP (cc := bL_jumps) (maxL := 4) (ty := .boolean) (own := R_L) nestX (by decide) rfl (Nat.le_of_ble_eq_true rfl) rfl (fun p e s m args below meth c Q hx hb hml hown hts hK hN hret ls hZ hl => ?_)
  have hl : lv_has ls 4 [(0, .ref (ad 71)), (1, .int x1), (2, .int x2)] := hl
  unfold fL_jumps at hf
  refine lv_aload_n hx hb dL_jumps_0 rfl (lv_at hl 0 rfl) ?_
  refine m_getR (k' := 72) hx hb hts in_L hown hK hZ (by decide) rfl rfl 1 (by decide) (hts _ k1_223) (fun _ h9 => h9) rfl dL_jumps_1 ?_
  refine lv_iload_n hx hb dL_jumps_4 rfl (lv_at hl 1 rfl) ?_
  obtain ⟨h_inb_x1_6, hf⟩ := m_gx hf
  refine m_iald hx hb hK hZ (by decide) rfl h_inb_x1_6 dL_jumps_5 ?_
  obtain ⟨x3_1, ex3_1, hf⟩ := m_lx hf
  refine m_topi ex3_1 ?_
  refine lv_istore_n (lv' := [(3, .int x3_1), (0, .ref (ad 71)), (1, .int x1), (2, .int x2)]) hx hb dL_jumps_6 rfl hl (by decide) rfl (fun ls hl => ?_)
  refine lv_iload_n hx hb dL_jumps_7 rfl (lv_at hl 0 rfl) ?_
  refine lv_iconst (v := 2) hx hb dL_jumps_8 (by decide) ?_
  refine lv_icmp_lt (tgt := 44) hx hb dL_jumps_9 (by decide) (fun c_2 => ?_) (fun c_2 => ?_)
  · have hf := m_t hf c_2
    refine lv_iconst (v := 0) hx hb dL_jumps_44 (by decide) ?_
    exact hret _ _ _ _ _ (fun _ _ => 0) hf rfl hZ dL_jumps_45
  · have hf := m_f hf c_2
    refine lv_aload_n hx hb dL_jumps_12 rfl (lv_at hl 1 rfl) ?_
    refine m_getR (k' := 73) hx hb hts in_L hown hK hZ (by decide) rfl rfl 2 (by decide) (hts _ k1_224) (fun _ h9 => h9) rfl dL_jumps_13 ?_
    refine lv_iload_n hx hb dL_jumps_16 rfl (lv_at hl 2 rfl) ?_
    refine m_aald hx hb hK hZ (by decide) rfl h_inb_x1_6 dL_jumps_17 ?_
    refine lv_iload_n hx hb dL_jumps_18 rfl (lv_at hl 0 rfl) ?_
    refine lv_iconst (v := 1) hx hb dL_jumps_19 (by decide) ?_
    refine lv_isub hx hb dL_jumps_20 ?_
    obtain ⟨h_3, hf⟩ := m_gx hf
    refine m_iald hx hb hK hZ (grX_73 _ (m_lt h_inb_x1_6)).2 (grX_73 _ (m_lt h_inb_x1_6)).1 h_3 dL_jumps_21 ?_
    refine lv_aload_n hx hb dL_jumps_22 rfl (lv_at hl 1 rfl) ?_
    refine m_getR (k' := 73) hx hb hts in_L hown hK hZ (by decide) rfl rfl 2 (by decide) (hts _ k1_224) (fun _ h9 => h9) rfl dL_jumps_23 ?_
    refine lv_iload_n hx hb dL_jumps_26 rfl (lv_at hl 2 rfl) ?_
    refine m_aald hx hb hK hZ (by decide) rfl h_inb_x1_6 dL_jumps_27 ?_
    refine lv_iload_n hx hb dL_jumps_28 rfl (lv_at hl 0 rfl) ?_
    refine lv_iconst (v := 2) hx hb dL_jumps_29 (by decide) ?_
    refine lv_isub hx hb dL_jumps_30 ?_
    obtain ⟨h_4, hf⟩ := m_gx hf
    refine m_iald hx hb hK hZ (grX_73 _ (m_lt h_inb_x1_6)).2 (grX_73 _ (m_lt h_inb_x1_6)).1 h_4 dL_jumps_31 ?_
    refine lv_isub hx hb dL_jumps_32 ?_
    refine va_mabs hx hb (hml.trans hl.1.symm) hown (hts _ k3_18) (hts _ k3_19) (hts _ k1_9) (hts _ kc_math_abs) (by decide) (Nat.le_of_ble_eq_true rfl) (Nat.zero_le _) (Nat.zero_le _) dL_jumps_33 ?_
    refine lv_iload_n hx hb dL_jumps_36 rfl (lv_at hl 3 rfl) ?_
    refine lv_icmp_le (tgt := 44) hx hb dL_jumps_37 (by decide) (fun c_5 => ?_) (fun c_5 => ?_)
    · have hf := m_t hf c_5
      refine lv_iconst (v := 0) hx hb dL_jumps_44 (by decide) ?_
      exact hret _ _ _ _ _ (fun _ _ => 0) hf rfl hZ dL_jumps_45
    · have hf := m_f hf c_5
      refine lv_iconst (v := 1) hx hb dL_jumps_40 (by decide) ?_
      refine lv_goto (tgt := 45) hx hb dL_jumps_41 (by decide) ?_
      exact hret _ _ _ _ _ (fun _ _ => 0) hf rfl hZ dL_jumps_45
abbrev rmG_firstRule : Room := { frames := 2, cells := 0, slots := 0, locals := 47 }
set_option maxHeartbeats 4000000 in
set_option maxRecDepth 100000 in
theorem cG_firstRule (l : Launch) (D : va_G) (ad : Nat → Nat) (c3 : ClassId × ClassId × ClassId) (M : mMem) (x1 : Int32) (x2 : Int32)  {r : Int32} (hf : fG_firstRule M x1 x2 = some r) : kPX l D ad c3 yG_firstRule wG_firstRule rmG_firstRule [.ref (ad 0), .int x1, .int x2] M r := by
  refine m_oP (cc := bG_firstRule) (maxL := 3) (ty := .int) (own := R_G) nestX (by decide) rfl (Nat.le_of_ble_eq_true rfl) rfl (fun p e s m args below meth c Q hx hb hml hown hts hK hN hret ls hZ hl => ?_)
  have hl : lv_has ls 3 [(0, .ref (ad 0)), (1, .int x1), (2, .int x2)] := hl
  unfold fG_firstRule at hf
  refine lv_iload_n hx hb dG_firstRule_0 rfl (lv_at hl 2 rfl) ?_
  refine lv_aload_n hx hb dG_firstRule_1 rfl (lv_at hl 0 rfl) ?_
  refine m_getR (k' := 1) hx hb hts in_G hown hK hZ (by decide) rfl rfl 0 (by decide) (hts _ k2_8) (fun _ h9 => h9) rfl dG_firstRule_2 ?_
  refine m_getR (k' := 2) hx hb hts in_P hown hK hZ (by decide) rfl rfl 4 (by decide) (hts _ k1_41) (fun _ h9 => h9) rfl dG_firstRule_5 ?_
  refine lv_iload_n hx hb dG_firstRule_8 rfl (lv_at hl 1 rfl) ?_
  obtain ⟨h_inb_x1_6, hf⟩ := m_gx hf
  refine m_iald hx hb hK hZ (by decide) rfl h_inb_x1_6 dG_firstRule_9 ?_
  refine lv_aload_n hx hb dG_firstRule_10 rfl (lv_at hl 0 rfl) ?_
  refine m_getR (k' := 1) hx hb hts in_G hown hK hZ (by decide) rfl rfl 0 (by decide) (hts _ k2_8) (fun _ h9 => h9) rfl dG_firstRule_11 ?_
  refine m_getR (k' := 3) hx hb hts in_P hown hK hZ (by decide) rfl rfl 5 (by decide) (hts _ k1_44) (fun _ h9 => h9) rfl dG_firstRule_14 ?_
  refine lv_iload_n hx hb dG_firstRule_17 rfl (lv_at hl 1 rfl) ?_
  refine m_iald hx hb hK hZ (by decide) rfl h_inb_x1_6 dG_firstRule_18 ?_
  obtain ⟨r_1, hc, hf⟩ := m_b1x hf
  refine m_ci (va_runS (As := [.int x2, .int (M 2 x1.toNatClampNeg), .int (M 3 x1.toNatClampNeg)]) (rest := []) ⟨hx, hb, hml, hown, hts⟩ (cG_within l D ad c3 M x2 (M 2 x1.toNatClampNeg) (M 3 x1.toNatClampNeg) hc) (cwS 3 hts (gS9 k2_68 k2_69 k1_1 kc_G_within) rfl rfl rfl (by decide +kernel) ⟨by decide, by decide⟩) (m_preS hK hN hZ) rfl rfl hl.1 rfl (lv_room (Nat.le_of_ble_eq_true rfl)) dG_firstRule_19 ⟨Nat.zero_le _, Nat.zero_le _⟩) hZ (fun H locs hZ => ?_)
  refine lv_if_ne (tgt := 27) hx hb dG_firstRule_22 (by decide) (fun c_2 => ?_) (fun c_2 => ?_)
  · have hf := m_f hf c_2
    refine lv_aload_n hx hb dG_firstRule_27 rfl (lv_at hl 0 rfl) ?_
    refine m_getR (k' := 66) hx hb hts in_G hown hK hZ (by decide) rfl rfl 4 (by decide) (hts _ k2_12) (fun _ h9 => h9) rfl dG_firstRule_28 ?_
    refine m_get hx hb hts in_X hown hK hZ (by decide) rfl rfl 0 (by decide) (hts _ k1_110) (fun _ h9 => h9) rfl dG_firstRule_31 ?_
    refine lv_if_eq (tgt := 72) hx hb dG_firstRule_34 (by decide) (fun c_3 => ?_) (fun c_3 => ?_)
    · have hf := m_t hf c_3
      refine lv_aload_n hx hb dG_firstRule_72 rfl (lv_at hl 0 rfl) ?_
      refine m_getR (k' := 71) hx hb hts in_G hown hK hZ (by decide) rfl rfl 6 (by decide) (hts _ k2_14) (fun _ h9 => h9) rfl dG_firstRule_73 ?_
      refine lv_iload_n hx hb dG_firstRule_76 rfl (lv_at hl 1 rfl) ?_
      refine lv_aload_n hx hb dG_firstRule_77 rfl (lv_at hl 0 rfl) ?_
      refine m_get hx hb hts in_G hown hK hZ (by decide) rfl rfl 8 (by decide) (hts _ k2_16) (fun _ h9 => h9) rfl dG_firstRule_78 ?_
      obtain ⟨r_4, hc, hf⟩ := m_b1x hf
      refine m_ci (va_runV (As := [.int x1, .int (M 0 8)]) (rest := []) ⟨hx, hb, hml, hown, hts⟩ (cL_jumps l D ad c3 M x1 (M 0 8) hc) (cwV 2 hts (gV k3_14 k3_15 k3_16 k1_7 kc_L_jumps) rfl rfl rfl (by decide +kernel) ⟨by decide, by decide⟩) (m_preV hK hN hZ (by decide) rfl rfl) rfl rfl hl.1 rfl (lv_room (Nat.le_of_ble_eq_true rfl)) dG_firstRule_81 ⟨Nat.zero_le _, Nat.zero_le _⟩) hZ (fun H locs hZ => ?_)
      refine lv_if_eq (tgt := 91) hx hb dG_firstRule_84 (by decide) (fun c_5 => ?_) (fun c_5 => ?_)
      · have hf := m_t hf c_5
        refine lv_iconst (v := 0) hx hb dG_firstRule_91 (by decide) ?_
        exact hret _ _ _ _ _ (fun _ _ => 0) hf rfl hZ dG_firstRule_92
      · have hf := m_f hf c_5
        refine lv_iconst (v := 3) hx hb dG_firstRule_87 (by decide) ?_
        refine lv_goto (tgt := 92) hx hb dG_firstRule_88 (by decide) ?_
        exact hret _ _ _ _ _ (fun _ _ => 0) hf rfl hZ dG_firstRule_92
    · have hf := m_f hf c_3
      refine lv_aload_n hx hb dG_firstRule_37 rfl (lv_at hl 0 rfl) ?_
      refine m_getR (k' := 71) hx hb hts in_G hown hK hZ (by decide) rfl rfl 6 (by decide) (hts _ k2_14) (fun _ h9 => h9) rfl dG_firstRule_38 ?_
      refine lv_iload_n hx hb dG_firstRule_41 rfl (lv_at hl 1 rfl) ?_
      refine lv_aload_n hx hb dG_firstRule_42 rfl (lv_at hl 0 rfl) ?_
      refine m_getR (k' := 1) hx hb hts in_G hown hK hZ (by decide) rfl rfl 0 (by decide) (hts _ k2_8) (fun _ h9 => h9) rfl dG_firstRule_43 ?_
      refine lv_iload_n hx hb dG_firstRule_46 rfl (lv_at hl 1 rfl) ?_
      refine lv_aload_n hx hb dG_firstRule_47 rfl (lv_at hl 0 rfl) ?_
      refine m_getR (k' := 1) hx hb hts in_G hown hK hZ (by decide) rfl rfl 0 (by decide) (hts _ k2_8) (fun _ h9 => h9) rfl dG_firstRule_48 ?_
      refine m_getR (k' := 9) hx hb hts in_P hown hK hZ (by decide) rfl rfl 11 (by decide) (hts _ k1_57) (fun _ h9 => h9) rfl dG_firstRule_51 ?_
      refine lv_aload_n hx hb dG_firstRule_54 rfl (lv_at hl 0 rfl) ?_
      refine m_getR (k' := 66) hx hb hts in_G hown hK hZ (by decide) rfl rfl 4 (by decide) (hts _ k2_12) (fun _ h9 => h9) rfl dG_firstRule_55 ?_
      obtain ⟨r_6, hc, hf⟩ := m_b1x hf
      refine m_ci (va_runV (As := [.int x1, .ref (ad 9), .ref (ad 66)]) (rest := [.int x1, .ref (ad 71)]) ⟨hx, hb, hml, hown, hts⟩ (cP_sumAt l D ad c3 M x1 9 66 ⟨rfl, by decide, grX_9⟩ isX_X_66 hc) (cwV 3 hts (gV k2_192 k2_193 k2_194 k1_2 kc_P_sumAt) rfl rfl rfl (by decide +kernel) ⟨by decide, by decide⟩) (m_preV hK hN hZ (by decide) rfl rfl) rfl rfl hl.1 rfl (lv_room (Nat.le_of_ble_eq_true rfl)) dG_firstRule_58 ⟨Nat.zero_le _, Nat.zero_le _⟩) hZ (fun H locs hZ => ?_)
      refine lv_bipush (v := 100) hx hb dG_firstRule_61 (by decide) ?_
      refine lv_idiv hx hb dG_firstRule_63 (by decide) ?_
      obtain ⟨r_7, hc, hf⟩ := m_b1x hf
      refine m_ci (va_runV (As := [.int x1, .int (r_6 / 100)]) (rest := []) ⟨hx, hb, hml, hown, hts⟩ (cL_drifts l D ad c3 M x1 (r_6 / 100) hc) (cwV 2 hts (gV k3_10 k3_11 k3_12 k1_7 kc_L_drifts) rfl rfl rfl (by decide +kernel) ⟨by decide, by decide⟩) (m_preV hK hN hZ (by decide) rfl rfl) rfl rfl hl.1 rfl (lv_room (Nat.le_of_ble_eq_true rfl)) dG_firstRule_64 ⟨Nat.zero_le _, Nat.zero_le _⟩) hZ (fun H locs hZ => ?_)
      refine lv_if_eq (tgt := 72) hx hb dG_firstRule_67 (by decide) (fun c_8 => ?_) (fun c_8 => ?_)
      · have hf := m_t hf c_8
        refine lv_aload_n hx hb dG_firstRule_72 rfl (lv_at hl 0 rfl) ?_
        refine m_getR (k' := 71) hx hb hts in_G hown hK hZ (by decide) rfl rfl 6 (by decide) (hts _ k2_14) (fun _ h9 => h9) rfl dG_firstRule_73 ?_
        refine lv_iload_n hx hb dG_firstRule_76 rfl (lv_at hl 1 rfl) ?_
        refine lv_aload_n hx hb dG_firstRule_77 rfl (lv_at hl 0 rfl) ?_
        refine m_get hx hb hts in_G hown hK hZ (by decide) rfl rfl 8 (by decide) (hts _ k2_16) (fun _ h9 => h9) rfl dG_firstRule_78 ?_
        obtain ⟨r_9, hc, hf⟩ := m_b1x hf
        refine m_ci (va_runV (As := [.int x1, .int (M 0 8)]) (rest := []) ⟨hx, hb, hml, hown, hts⟩ (cL_jumps l D ad c3 M x1 (M 0 8) hc) (cwV 2 hts (gV k3_14 k3_15 k3_16 k1_7 kc_L_jumps) rfl rfl rfl (by decide +kernel) ⟨by decide, by decide⟩) (m_preV hK hN hZ (by decide) rfl rfl) rfl rfl hl.1 rfl (lv_room (Nat.le_of_ble_eq_true rfl)) dG_firstRule_81 ⟨Nat.zero_le _, Nat.zero_le _⟩) hZ (fun H locs hZ => ?_)
        refine lv_if_eq (tgt := 91) hx hb dG_firstRule_84 (by decide) (fun c_10 => ?_) (fun c_10 => ?_)
        · have hf := m_t hf c_10
          refine lv_iconst (v := 0) hx hb dG_firstRule_91 (by decide) ?_
          exact hret _ _ _ _ _ (fun _ _ => 0) hf rfl hZ dG_firstRule_92
        · have hf := m_f hf c_10
          refine lv_iconst (v := 3) hx hb dG_firstRule_87 (by decide) ?_
          refine lv_goto (tgt := 92) hx hb dG_firstRule_88 (by decide) ?_
          exact hret _ _ _ _ _ (fun _ _ => 0) hf rfl hZ dG_firstRule_92
      · have hf := m_f hf c_8
        refine lv_iconst (v := 2) hx hb dG_firstRule_70 (by decide) ?_
        exact hret _ _ _ _ _ (fun _ _ => 0) hf rfl hZ dG_firstRule_71
  · have hf := m_t hf c_2
    refine lv_iconst (v := 1) hx hb dG_firstRule_25 (by decide) ?_
    exact hret _ _ _ _ _ (fun _ _ => 0) hf rfl hZ dG_firstRule_26
abbrev rmL_addFired : Room := { frames := 0, cells := 0, slots := 0, locals := 0 }
set_option maxHeartbeats 4000000 in
set_option maxRecDepth 100000 in
theorem cL_addFired (l : Launch) (D : va_G) (ad : Nat → Nat) (c3 : ClassId × ClassId × ClassId) (M : mMem) (x1 : Int32) (x2 : Int32)  {M' : mMem} (hf : fL_addFired M x1 x2 = some M') : kVX l D ad c3 yL_addFired wL_addFired rmL_addFired [.ref (ad 71), .int x1, .int x2] M M' := by
  refine m_oV (cc := bL_addFired) (maxL := 3) (own := R_L) nestX (by decide) rfl (Nat.le_of_ble_eq_true rfl) rfl (fun p e s m args below meth c Q hx hb hml hown hts hK hN hret ls hZ hl => ?_)
  have hl : lv_has ls 3 [(0, .ref (ad 71)), (1, .int x1), (2, .int x2)] := hl
  unfold fL_addFired at hf
  refine lv_aload_n hx hb dL_addFired_0 rfl (lv_at hl 0 rfl) ?_
  refine m_getR (k' := 80) hx hb hts in_L hown hK hZ (by decide) rfl rfl 4 (by decide) (hts _ k1_227) (fun _ h9 => h9) rfl dL_addFired_1 ?_
  refine lv_aload_n hx hb dL_addFired_4 rfl (lv_at hl 0 rfl) ?_
  refine m_get hx hb hts in_L hown hK hZ (by decide) rfl rfl 3 (by decide) (hts _ k1_225) (fun _ h9 => h9) rfl dL_addFired_5 ?_
  refine lv_iload_n hx hb dL_addFired_8 rfl (lv_at hl 1 rfl) ?_
  obtain ⟨h_1, hf⟩ := m_gx hf
  obtain ⟨M_2, eM_2, hf⟩ := m_lx hf
  refine m_iast hx hb hK hZ (by decide) rfl h_1 dL_addFired_9 eM_2 (fun H locs hZ => ?_)
  refine lv_aload_n hx hb dL_addFired_10 rfl (lv_at hl 0 rfl) ?_
  refine m_getR (k' := 81) hx hb hts in_L hown hK hZ (by decide) rfl rfl 5 (by decide) (hts _ k1_229) (fun _ h9 => h9) rfl dL_addFired_11 ?_
  refine lv_aload_n hx hb dL_addFired_14 rfl (lv_at hl 0 rfl) ?_
  refine m_get hx hb hts in_L hown hK hZ (by decide) rfl rfl 3 (by decide) (hts _ k1_225) (fun _ h9 => h9) rfl dL_addFired_15 ?_
  refine lv_aload_n hx hb dL_addFired_18 rfl (lv_at hl 0 rfl) ?_
  refine m_getR (k' := 72) hx hb hts in_L hown hK hZ (by decide) rfl rfl 1 (by decide) (hts _ k1_223) (fun _ h9 => h9) rfl dL_addFired_19 ?_
  refine lv_iload_n hx hb dL_addFired_22 rfl (lv_at hl 1 rfl) ?_
  obtain ⟨h_inb_x1_6, hf⟩ := m_gx hf
  refine m_iald hx hb hK hZ (by decide) rfl h_inb_x1_6 dL_addFired_23 ?_
  refine lv_iconst (v := 1) hx hb dL_addFired_24 (by decide) ?_
  refine lv_isub hx hb dL_addFired_25 ?_
  obtain ⟨h_3, hf⟩ := m_gx hf
  obtain ⟨M_4, eM_4, hf⟩ := m_lx hf
  refine m_iast hx hb hK hZ (by decide) rfl h_3 dL_addFired_26 eM_4 (fun H locs hZ => ?_)
  refine lv_aload_n hx hb dL_addFired_27 rfl (lv_at hl 0 rfl) ?_
  refine m_getR (k' := 82) hx hb hts in_L hown hK hZ (by decide) rfl rfl 6 (by decide) (hts _ k1_231) (fun _ h9 => h9) rfl dL_addFired_28 ?_
  refine lv_aload_n hx hb dL_addFired_31 rfl (lv_at hl 0 rfl) ?_
  refine m_get hx hb hts in_L hown hK hZ (by decide) rfl rfl 3 (by decide) (hts _ k1_225) (fun _ h9 => h9) rfl dL_addFired_32 ?_
  refine lv_iload_n hx hb dL_addFired_35 rfl (lv_at hl 2 rfl) ?_
  obtain ⟨h_5, hf⟩ := m_gx hf
  obtain ⟨M_6, eM_6, hf⟩ := m_lx hf
  refine m_iast hx hb hK hZ (by decide) rfl h_5 dL_addFired_36 eM_6 (fun H locs hZ => ?_)
  refine lv_aload_n hx hb dL_addFired_37 rfl (lv_at hl 0 rfl) ?_
  refine lv_dup hx hb dL_addFired_38 rfl ?_
  refine m_get hx hb hts in_L hown hK hZ (by decide) rfl rfl 3 (by decide) (hts _ k1_225) (fun _ h9 => h9) rfl dL_addFired_39 ?_
  refine lv_iconst (v := 1) hx hb dL_addFired_42 (by decide) ?_
  refine lv_iadd hx hb dL_addFired_43 ?_
  obtain ⟨M_7, eM_7, hf⟩ := m_lx hf
  refine m_put (ty := .int) hx hb hts in_L ⟨ty_L_ok, nm_L_ok⟩ hown hK hZ (by decide) rfl rfl 3 (by decide) (hts _ k1_225) (fun _ h9 => h9) rfl (by decide +kernel) rfl rfl rfl dL_addFired_44 eM_7 (fun H locs hZ => ?_)
  exact hret _ _ _ _ _ hf hZ dL_addFired_47
