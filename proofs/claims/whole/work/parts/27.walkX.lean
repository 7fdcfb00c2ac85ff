abbrev rmG_cost : Room := { frames := 0, cells := 0, slots := 0, locals := 0 }
set_option maxHeartbeats 4000000 in
set_option maxRecDepth 100000 in
theorem cG_cost (l : Launch) (D : va_G) (ad : Nat → Nat) (c3 : ClassId × ClassId × ClassId) (M : mMem)   {r : Int32} (hf : fG_cost M  = some r) : kPX l D ad c3 yG_cost wG_cost rmG_cost [.ref (ad 0)] M r := by
  refine m_oP (cc := bG_cost) (maxL := 1) (ty := .int) (own := R_G) nestX (by decide) rfl (Nat.le_of_ble_eq_true rfl) rfl (fun p e s m args below meth c Q hx hb hml hown hts hK hN hret ls hZ hl => ?_)
  have hl : lv_has ls 1 [(0, .ref (ad 0))] := hl
  unfold fG_cost at hf
  refine lv_aload_n hx hb dG_cost_0 rfl (lv_at hl 0 rfl) ?_
  refine m_getR (k' := 66) hx hb hts in_G hown hK hZ (by decide) rfl rfl 4 (by decide) (hts _ k2_12) (fun _ h9 => h9) rfl dG_cost_1 ?_
  refine m_get hx hb hts in_X hown hK hZ (by decide) rfl rfl 0 (by decide) (hts _ k1_110) (fun _ h9 => h9) rfl dG_cost_4 ?_
  refine lv_if_eq (tgt := 20) hx hb dG_cost_7 (by decide) (fun c_1 => ?_) (fun c_1 => ?_)
  · have hf := m_t hf c_1
    refine lv_iconst (v := (-1)) hx hb dG_cost_20 (by decide) ?_
    exact hret _ _ _ _ _ (fun _ _ => 0) hf rfl hZ dG_cost_21
  · have hf := m_f hf c_1
    refine lv_aload_n hx hb dG_cost_10 rfl (lv_at hl 0 rfl) ?_
    refine m_getR (k' := 66) hx hb hts in_G hown hK hZ (by decide) rfl rfl 4 (by decide) (hts _ k2_12) (fun _ h9 => h9) rfl dG_cost_11 ?_
    refine m_get hx hb hts in_X hown hK hZ (by decide) rfl rfl 2 (by decide) (hts _ k1_117) (fun _ h9 => h9) rfl dG_cost_14 ?_
    refine lv_goto (tgt := 21) hx hb dG_cost_17 (by decide) ?_
    exact hret _ _ _ _ _ (fun _ _ => 0) hf rfl hZ dG_cost_21
abbrev rmG_lonely : Room := { frames := 11, cells := 0, slots := 0, locals := 299 }
set_option maxHeartbeats 4000000 in
set_option maxRecDepth 100000 in
theorem cG_lonely (l : Launch) (D : va_G) (ad : Nat → Nat) (c3 : ClassId × ClassId × ClassId) (M : mMem) (x1 : Int32)  {r : Int32} {M' : mMem} (hf : fG_lonely M x1 = some (r, M')) : kIX l D ad c3 yG_lonely wG_lonely rmG_lonely [.ref (ad 0), .int x1] M r M' := by
  refine m_oI (cc := bG_lonely) (maxL := 4) (ty := .int) (own := R_G) nestX (by decide) rfl (Nat.le_of_ble_eq_true rfl) rfl (fun p e s m args below meth c Q hx hb hml hown hts hK hN hret ls hZ hl => ?_)
  have hl : lv_has ls 4 [(0, .ref (ad 0)), (1, .int x1)] := hl
  unfold fG_lonely at hf
  have L20 : ∀ (M : mMem) (n20 : Nat) (x2 : Int32) (x3 : Int32), fG_lonely_L20 x1 M n20 x2 x3 = some (r, M') → ∀ (H : Heap) (locs : List Loc) (ls : Array Slot), zX D ad c3 s H locs M → lv_has ls 4 [(0, .ref (ad 0)), (1, .int x1), (2, .int x2), (3, .int x3)] → W p l e rmG_lonely s m args below meth c H locs 0 0 Q (F0 m 20 ls []) := by
    intro M n20
    induction n20 with
    | zero => intro x2 x3 hf; exact m_none hf
    | succ n20 ih20 =>
      intro x2 x3 hf H locs ls hZ hl
      rw [fG_lonely_L20] at hf
      refine lv_iload_n hx hb dG_lonely_20 rfl (lv_at hl 3 rfl) ?_
      refine lv_aload_n hx hb dG_lonely_21 rfl (lv_at hl 0 rfl) ?_
      refine m_getR (k' := 1) hx hb hts in_G hown hK hZ (by decide) rfl rfl 0 (by decide) (hts _ k2_8) (fun _ h9 => h9) rfl dG_lonely_22 ?_
      refine m_get hx hb hts in_P hown hK hZ (by decide) rfl rfl 0 (by decide) (hts _ k1_28) (fun _ h9 => h9) rfl dG_lonely_25 ?_
      refine lv_icmp_ge (tgt := 59) hx hb dG_lonely_28 (by decide) (fun c_3 => ?_) (fun c_3 => ?_)
      · have hf := m_t hf c_3
        refine lv_iconst (v := (-1)) hx hb dG_lonely_59 (by decide) ?_
        exact hret _ _ _ _ _ _ hf rfl hZ dG_lonely_60
      · have hf := m_f hf c_3
        refine lv_aload_n hx hb dG_lonely_31 rfl (lv_at hl 0 rfl) ?_
        refine m_getR (k' := 24) hx hb hts in_G hown hK hZ (by decide) rfl rfl 1 (by decide) (hts _ k2_9) (fun _ h9 => h9) rfl dG_lonely_32 ?_
        refine m_getR (k' := 38) hx hb hts in_S hown hK hZ (by decide) rfl rfl 6 (by decide) (hts _ k1_137) (fun _ h9 => h9) rfl dG_lonely_35 ?_
        refine lv_iload_n hx hb dG_lonely_38 rfl (lv_at hl 3 rfl) ?_
        obtain ⟨h_4, hf⟩ := m_gx hf
        refine m_zald hx hb hK hZ (by decide) rfl h_4 dG_lonely_39 ?_
        refine lv_if_ne (tgt := 53) hx hb dG_lonely_40 (by decide) (fun c_5 => ?_) (fun c_5 => ?_)
        · have hf := m_f hf c_5
          obtain ⟨x3_9, ex3_9, hf⟩ := m_lx hf
          refine lv_iinc (v := x3_9) (lv' := [(3, .int x3_9), (0, .ref (ad 0)), (1, .int x1), (2, .int x2)]) hx hb dG_lonely_53 hl (k := 3) rfl (by rw [ex3_9]; rfl) (by decide) rfl (fun ls hl => ?_)
          refine lv_goto (tgt := 20) hx hb dG_lonely_56 (by decide) ?_
          exact ih20 _ _ hf _ _ _ hZ (lv_sub hl [1, 2, 3, 0] rfl)
        · have hf := m_t hf c_5
          refine lv_iload_n hx hb dG_lonely_43 rfl (lv_at hl 2 rfl) ?_
          refine lv_iload_n hx hb dG_lonely_44 rfl (lv_at hl 1 rfl) ?_
          refine lv_icmp_ne (tgt := 50) hx hb dG_lonely_45 (by decide) (fun c_6 => ?_) (fun c_6 => ?_)
          · have hf := m_f hf c_6
            obtain ⟨x2_7, ex2_7, hf⟩ := m_lx hf
            refine lv_iinc (v := x2_7) (lv' := [(2, .int x2_7), (0, .ref (ad 0)), (1, .int x1), (3, .int x3)]) hx hb dG_lonely_50 hl (k := 2) rfl (by rw [ex2_7]; rfl) (by decide) rfl (fun ls hl => ?_)
            obtain ⟨x3_8, ex3_8, hf⟩ := m_lx hf
            refine lv_iinc (v := x3_8) (lv' := [(3, .int x3_8), (2, .int x2_7), (0, .ref (ad 0)), (1, .int x1)]) hx hb dG_lonely_53 hl (k := 3) rfl (by rw [ex3_8]; rfl) (by decide) rfl (fun ls hl => ?_)
            refine lv_goto (tgt := 20) hx hb dG_lonely_56 (by decide) ?_
            exact ih20 _ _ hf _ _ _ hZ (lv_sub hl [2, 3, 1, 0] rfl)
          · have hf := m_t hf c_6
            refine lv_iload_n hx hb dG_lonely_48 rfl (lv_at hl 3 rfl) ?_
            exact hret _ _ _ _ _ _ hf rfl hZ dG_lonely_49
  refine lv_aload_n hx hb dG_lonely_0 rfl (lv_at hl 0 rfl) ?_
  obtain ⟨M_1, hc, hf⟩ := m_b1x hf
  refine m_cv (va_runV (As := []) (rest := []) ⟨hx, hb, hml, hown, hts⟩ (cG_searchOnce l D ad c3 M hc) (cwV 0 hts (gV k2_140 k2_142 kp_4 k1_1 kc_G_searchOnce) rfl rfl rfl (by decide +kernel) ⟨by decide, by decide⟩) (m_preV hK hN hZ (by decide) rfl rfl) rfl rfl hl.1 rfl (lv_room (Nat.le_of_ble_eq_true rfl)) dG_lonely_1 ⟨Nat.zero_le _, Nat.zero_le _⟩) hZ (fun H locs hZ => ?_)
  refine lv_aload_n hx hb dG_lonely_4 rfl (lv_at hl 0 rfl) ?_
  refine m_getR (k' := 24) hx hb hts in_G hown hK hZ (by decide) rfl rfl 1 (by decide) (hts _ k2_9) (fun _ h9 => h9) rfl dG_lonely_5 ?_
  refine m_get hx hb hts in_S hown hK hZ (by decide) rfl rfl 9 (by decide) (hts _ k1_143) (fun _ h9 => h9) rfl dG_lonely_8 ?_
  refine lv_if_ne (tgt := 16) hx hb dG_lonely_11 (by decide) (fun c_2 => ?_) (fun c_2 => ?_)
  · have hf := m_f hf c_2
    refine lv_iconst (v := 0) hx hb dG_lonely_16 (by decide) ?_
    refine lv_istore_n (lv' := [(2, .int 0), (0, .ref (ad 0)), (1, .int x1)]) hx hb dG_lonely_17 rfl hl (by decide) rfl (fun ls hl => ?_)
    refine lv_iconst (v := 0) hx hb dG_lonely_18 (by decide) ?_
    refine lv_istore_n (lv' := [(3, .int 0), (2, .int 0), (0, .ref (ad 0)), (1, .int x1)]) hx hb dG_lonely_19 rfl hl (by decide) rfl (fun ls hl => ?_)
    exact L20 M_1 128 0 0 hf _ _ _ hZ (lv_sub hl [2, 3, 1, 0] rfl)
  · have hf := m_t hf c_2
    refine lv_iconst (v := (-1)) hx hb dG_lonely_14 (by decide) ?_
    exact hret _ _ _ _ _ _ hf rfl hZ dG_lonely_15
abbrev rmS_widen : Room := { frames := 1, cells := 0, slots := 0, locals := 24 }
set_option maxHeartbeats 4000000 in
set_option maxRecDepth 100000 in
theorem cS_widen (l : Launch) (D : va_G) (ad : Nat → Nat) (c3 : ClassId × ClassId × ClassId) (M : mMem) (b : Nat) (x1 : Int32) (x2 : Int32) (x3 : Int32) (qb : isX_S b) {M' : mMem} (hf : fS_widen M b x1 x2 x3 = some M') : kVX l D ad c3 yS_widen wS_widen rmS_widen [.ref (ad b), .int x1, .int x2, .int x3] M M' := by
  refine m_oV (cc := bS_widen) (maxL := 4) (own := R_S) nestX (by decide) rfl (Nat.le_of_ble_eq_true rfl) rfl (fun p e s m args below meth c Q hx hb hml hown hts hK hN hret ls hZ hl => ?_)
  have hl : lv_has ls 4 [(0, .ref (ad b)), (1, .int x1), (2, .int x2), (3, .int x3)] := hl
  unfold fS_widen at hf
  refine lv_iload_n hx hb dS_widen_0 rfl (lv_at hl 2 rfl) ?_
  refine lv_if_eq (tgt := 33) hx hb dS_widen_1 (by decide) (fun c_1 => ?_) (fun c_1 => ?_)
  · have hf := m_t hf c_1
    refine lv_aload_n hx hb dS_widen_33 rfl (lv_at hl 0 rfl) ?_
    refine m_getR (k' := (b + 1)) hx hb hts in_S hown hK hZ (qb 0 (by decide)).2 (qb 0 (by decide)).1 rfl 1 (by decide) (hts _ k1_131) (fun _ h9 => h9) rfl dS_widen_34 ?_
    refine lv_iload_n hx hb dS_widen_37 rfl (lv_at hl 1 rfl) ?_
    refine lv_bipush (v := 100) hx hb dS_widen_38 (by decide) ?_
    refine lv_iconst (v := 0) hx hb dS_widen_40 (by decide) ?_
    refine lv_aload_n hx hb dS_widen_41 rfl (lv_at hl 0 rfl) ?_
    refine m_getR (k' := 1) hx hb hts in_S hown hK hZ (qb 0 (by decide)).2 (qb 0 (by decide)).1 rfl 0 (by decide) (hts _ k1_130) (fun _ h9 => h9) rfl dS_widen_42 ?_
    refine m_getR (k' := 2) hx hb hts in_P hown hK hZ (by decide) rfl rfl 4 (by decide) (hts _ k1_40) (fun _ h9 => h9) rfl dS_widen_45 ?_
    refine lv_iload_n hx hb dS_widen_48 rfl (lv_at hl 1 rfl) ?_
    obtain ⟨h_inb_x1_6, hf⟩ := m_gx hf
    refine m_iald hx hb hK hZ (by decide) rfl h_inb_x1_6 dS_widen_49 ?_
    refine lv_iload_n hx hb dS_widen_50 rfl (lv_at hl 3 rfl) ?_
    refine lv_isub hx hb dS_widen_51 ?_
    refine va_mmax hx hb (hml.trans hl.1.symm) hown (hts _ k2_162) (hts _ k2_88) (hts _ k1_9) (hts _ kc_math_max) (by decide) (Nat.le_of_ble_eq_true rfl) (Nat.zero_le _) (Nat.zero_le _) dS_widen_52 ?_
    refine lv_imul hx hb dS_widen_55 ?_
    obtain ⟨M_2, eM_2, hf⟩ := m_lx hf
    refine m_iast hx hb hK hZ (qb 1 (by decide)).2 (qb 1 (by decide)).1 h_inb_x1_6 dS_widen_56 eM_2 (fun H locs hZ => ?_)
    exact hret _ _ _ _ _ hf hZ dS_widen_57
  · have hf := m_f hf c_1
    refine lv_aload_n hx hb dS_widen_4 rfl (lv_at hl 0 rfl) ?_
    refine m_getR (k' := (b + 2)) hx hb hts in_S hown hK hZ (qb 0 (by decide)).2 (qb 0 (by decide)).1 rfl 2 (by decide) (hts _ k1_132) (fun _ h9 => h9) rfl dS_widen_5 ?_
    refine lv_iload_n hx hb dS_widen_8 rfl (lv_at hl 1 rfl) ?_
    refine lv_bipush (v := 100) hx hb dS_widen_9 (by decide) ?_
    refine lv_sipush (v := 1000) hx hb dS_widen_11 (by decide) ?_
    refine lv_aload_n hx hb dS_widen_14 rfl (lv_at hl 0 rfl) ?_
    refine m_getR (k' := 1) hx hb hts in_S hown hK hZ (qb 0 (by decide)).2 (qb 0 (by decide)).1 rfl 0 (by decide) (hts _ k1_130) (fun _ h9 => h9) rfl dS_widen_15 ?_
    refine m_getR (k' := 3) hx hb hts in_P hown hK hZ (by decide) rfl rfl 5 (by decide) (hts _ k1_43) (fun _ h9 => h9) rfl dS_widen_18 ?_
    refine lv_iload_n hx hb dS_widen_21 rfl (lv_at hl 1 rfl) ?_
    obtain ⟨h_inb_x1_6, hf⟩ := m_gx hf
    refine m_iald hx hb hK hZ (by decide) rfl h_inb_x1_6 dS_widen_22 ?_
    refine lv_iload_n hx hb dS_widen_23 rfl (lv_at hl 3 rfl) ?_
    refine lv_iadd hx hb dS_widen_24 ?_
    refine va_mmin hx hb (hml.trans hl.1.symm) hown (hts _ k2_156) (hts _ k2_91) (hts _ k1_9) (hts _ kc_math_min) (by decide) (Nat.le_of_ble_eq_true rfl) (Nat.zero_le _) (Nat.zero_le _) dS_widen_25 ?_
    refine lv_imul hx hb dS_widen_28 ?_
    obtain ⟨M_3, eM_3, hf⟩ := m_lx hf
    refine m_iast hx hb hK hZ (qb 2 (by decide)).2 (qb 2 (by decide)).1 h_inb_x1_6 dS_widen_29 eM_3 (fun H locs hZ => ?_)
    refine lv_goto (tgt := 57) hx hb dS_widen_30 (by decide) ?_
    exact hret _ _ _ _ _ hf hZ dS_widen_57
abbrev rmG_worth : Room := { frames := 11, cells := 0, slots := 0, locals := 299 }
set_option maxHeartbeats 4000000 in
set_option maxRecDepth 100000 in
theorem cG_worth (l : Launch) (D : va_G) (ad : Nat → Nat) (c3 : ClassId × ClassId × ClassId) (M : mMem) (x1 : Int32) (x2 : Int32) (x3 : Int32)  {r : Int32} {M' : mMem} (hf : fG_worth M x1 x2 x3 = some (r, M')) : kIX l D ad c3 yG_worth wG_worth rmG_worth [.ref (ad 0), .int x1, .int x2, .int x3] M r M' := by
  refine m_oI (cc := bG_worth) (maxL := 4) (ty := .int) (own := R_G) nestX (by decide) rfl (Nat.le_of_ble_eq_true rfl) rfl (fun p e s m args below meth c Q hx hb hml hown hts hK hN hret ls hZ hl => ?_)
  have hl : lv_has ls 4 [(0, .ref (ad 0)), (1, .int x1), (2, .int x2), (3, .int x3)] := hl
  unfold fG_worth at hf
  refine lv_aload_n hx hb dG_worth_0 rfl (lv_at hl 0 rfl) ?_
  refine m_getR (k' := 1) hx hb hts in_G hown hK hZ (by decide) rfl rfl 0 (by decide) (hts _ k2_8) (fun _ h9 => h9) rfl dG_worth_1 ?_
  refine lv_iload_n hx hb dG_worth_4 rfl (lv_at hl 1 rfl) ?_
  obtain ⟨r_1, hc, hf⟩ := m_b1x hf
  refine m_ci (va_runV (As := [.int x1]) (rest := []) ⟨hx, hb, hml, hown, hts⟩ (cP_hasSieve l D ad c3 M x1 hc) (cwV 1 hts (gV k2_59 k2_60 k2_61 k1_2 kc_P_hasSieve) rfl rfl rfl (by decide +kernel) ⟨by decide, by decide⟩) (m_preV hK hN hZ (by decide) rfl rfl) rfl rfl hl.1 rfl (lv_room (Nat.le_of_ble_eq_true rfl)) dG_worth_5 ⟨Nat.zero_le _, Nat.zero_le _⟩) hZ (fun H locs hZ => ?_)
  refine lv_if_eq (tgt := 22) hx hb dG_worth_8 (by decide) (fun c_2 => ?_) (fun c_2 => ?_)
  · have hf := m_t hf c_2
    refine lv_iconst (v := (-1)) hx hb dG_worth_22 (by decide) ?_
    exact hret _ _ _ _ _ _ hf rfl hZ dG_worth_23
  · have hf := m_f hf c_2
    refine lv_iload_n hx hb dG_worth_11 rfl (lv_at hl 3 rfl) ?_
    refine lv_iconst (v := 0) hx hb dG_worth_12 (by decide) ?_
    refine lv_sipush (v := 1000) hx hb dG_worth_13 (by decide) ?_
    obtain ⟨r_3, hc, hf⟩ := m_b1x hf
    refine m_ci (va_runS (As := [.int x3, .int 0, .int 1000]) (rest := []) ⟨hx, hb, hml, hown, hts⟩ (cG_within l D ad c3 M x3 0 1000 hc) (cwS 3 hts (gS9 k2_68 k2_69 k1_1 kc_G_within) rfl rfl rfl (by decide +kernel) ⟨by decide, by decide⟩) (m_preS hK hN hZ) rfl rfl hl.1 rfl (lv_room (Nat.le_of_ble_eq_true rfl)) dG_worth_16 ⟨Nat.zero_le _, Nat.zero_le _⟩) hZ (fun H locs hZ => ?_)
    refine lv_if_ne (tgt := 24) hx hb dG_worth_19 (by decide) (fun c_4 => ?_) (fun c_4 => ?_)
    · have hf := m_f hf c_4
      refine lv_aload_n hx hb dG_worth_24 rfl (lv_at hl 0 rfl) ?_
      obtain ⟨M_5, hc, hf⟩ := m_b1x hf
      refine m_cv (va_runV (As := []) (rest := []) ⟨hx, hb, hml, hown, hts⟩ (cG_searchOnce l D ad c3 M hc) (cwV 0 hts (gV k2_140 k2_142 kp_4 k1_1 kc_G_searchOnce) rfl rfl rfl (by decide +kernel) ⟨by decide, by decide⟩) (m_preV hK hN hZ (by decide) rfl rfl) rfl rfl hl.1 rfl (lv_room (Nat.le_of_ble_eq_true rfl)) dG_worth_25 ⟨Nat.zero_le _, Nat.zero_le _⟩) hZ (fun H locs hZ => ?_)
      refine lv_aload_n hx hb dG_worth_28 rfl (lv_at hl 0 rfl) ?_
      refine m_getR (k' := 24) hx hb hts in_G hown hK hZ (by decide) rfl rfl 1 (by decide) (hts _ k2_9) (fun _ h9 => h9) rfl dG_worth_29 ?_
      refine m_getR (k' := 39) hx hb hts in_S hown hK hZ (by decide) rfl rfl 7 (by decide) (hts _ k1_139) (fun _ h9 => h9) rfl dG_worth_32 ?_
      refine m_get hx hb hts in_X hown hK hZ (by decide) rfl rfl 0 (by decide) (hts _ k1_110) (fun _ h9 => h9) rfl dG_worth_35 ?_
      refine lv_if_ne (tgt := 43) hx hb dG_worth_38 (by decide) (fun c_6 => ?_) (fun c_6 => ?_)
      · have hf := m_f hf c_6
        refine lv_aload_n hx hb dG_worth_43 rfl (lv_at hl 0 rfl) ?_
        refine m_getR (k' := 43) hx hb hts in_G hown hK hZ (by decide) rfl rfl 2 (by decide) (hts _ k2_10) (fun _ h9 => h9) rfl dG_worth_44 ?_
        obtain ⟨M_7, hc, hf⟩ := m_b1x hf
        refine m_cv (va_runV (As := []) (rest := []) ⟨hx, hb, hml, hown, hts⟩ (cS_useBands l D ad c3 M_5 43 isX_S_43 hc) (cwV 0 hts (gV k2_144 k2_145 k2_146 k1_3 kc_S_useBands) rfl rfl rfl (by decide +kernel) ⟨by decide, by decide⟩) (m_preV hK hN hZ (by decide) rfl rfl) rfl rfl hl.1 rfl (lv_room (Nat.le_of_ble_eq_true rfl)) dG_worth_47 ⟨Nat.zero_le _, Nat.zero_le _⟩) hZ (fun H locs hZ => ?_)
        refine lv_aload_n hx hb dG_worth_50 rfl (lv_at hl 0 rfl) ?_
        refine m_getR (k' := 43) hx hb hts in_G hown hK hZ (by decide) rfl rfl 2 (by decide) (hts _ k2_10) (fun _ h9 => h9) rfl dG_worth_51 ?_
        refine lv_iload_n hx hb dG_worth_54 rfl (lv_at hl 1 rfl) ?_
        refine lv_iload_n hx hb dG_worth_55 rfl (lv_at hl 2 rfl) ?_
        refine lv_iload_n hx hb dG_worth_56 rfl (lv_at hl 3 rfl) ?_
        obtain ⟨M_8, hc, hf⟩ := m_b1x hf
        refine m_cv (va_runV (As := [.int x1, .int x2, .int x3]) (rest := []) ⟨hx, hb, hml, hown, hts⟩ (cS_widen l D ad c3 M_7 43 x1 x2 x3 isX_S_43 hc) (cwV 3 hts (gV k2_213 k2_214 k2_215 k1_3 kc_S_widen) rfl rfl rfl (by decide +kernel) ⟨by decide, by decide⟩) (m_preV hK hN hZ (by decide) rfl rfl) rfl rfl hl.1 rfl (lv_room (Nat.le_of_ble_eq_true rfl)) dG_worth_57 ⟨Nat.zero_le _, Nat.zero_le _⟩) hZ (fun H locs hZ => ?_)
        refine lv_aload_n hx hb dG_worth_60 rfl (lv_at hl 0 rfl) ?_
        refine m_getR (k' := 43) hx hb hts in_G hown hK hZ (by decide) rfl rfl 2 (by decide) (hts _ k2_10) (fun _ h9 => h9) rfl dG_worth_61 ?_
        obtain ⟨M_9, hc, hf⟩ := m_b1x hf
        refine m_cv (va_runV (As := []) (rest := []) ⟨hx, hb, hml, hown, hts⟩ (cS_lookAtAll l D ad c3 M_8 43 isX_S_43 hc) (cwV 0 hts (gV k2_148 k2_149 k2_150 k1_3 kc_S_lookAtAll) rfl rfl rfl (by decide +kernel) ⟨by decide, by decide⟩) (m_preV hK hN hZ (by decide) rfl rfl) rfl rfl hl.1 rfl (lv_room (Nat.le_of_ble_eq_true rfl)) dG_worth_64 ⟨Nat.zero_le _, Nat.zero_le _⟩) hZ (fun H locs hZ => ?_)
        refine lv_aload_n hx hb dG_worth_67 rfl (lv_at hl 0 rfl) ?_
        refine m_getR (k' := 24) hx hb hts in_G hown hK hZ (by decide) rfl rfl 1 (by decide) (hts _ k2_9) (fun _ h9 => h9) rfl dG_worth_68 ?_
        refine m_getR (k' := 39) hx hb hts in_S hown hK hZ (by decide) rfl rfl 7 (by decide) (hts _ k1_139) (fun _ h9 => h9) rfl dG_worth_71 ?_
        refine m_get hx hb hts in_X hown hK hZ (by decide) rfl rfl 2 (by decide) (hts _ k1_117) (fun _ h9 => h9) rfl dG_worth_74 ?_
        refine lv_aload_n hx hb dG_worth_77 rfl (lv_at hl 0 rfl) ?_
        refine m_getR (k' := 43) hx hb hts in_G hown hK hZ (by decide) rfl rfl 2 (by decide) (hts _ k2_10) (fun _ h9 => h9) rfl dG_worth_78 ?_
        refine m_getR (k' := 58) hx hb hts in_S hown hK hZ (by decide) rfl rfl 7 (by decide) (hts _ k1_139) (fun _ h9 => h9) rfl dG_worth_81 ?_
        refine m_get hx hb hts in_X hown hK hZ (by decide) rfl rfl 2 (by decide) (hts _ k1_117) (fun _ h9 => h9) rfl dG_worth_84 ?_
        refine lv_isub hx hb dG_worth_87 ?_
        exact hret _ _ _ _ _ _ hf rfl hZ dG_worth_88
      · have hf := m_t hf c_6
        refine lv_iconst (v := (-1)) hx hb dG_worth_41 (by decide) ?_
        exact hret _ _ _ _ _ _ hf rfl hZ dG_worth_42
    · have hf := m_t hf c_4
      refine lv_iconst (v := (-1)) hx hb dG_worth_22 (by decide) ?_
      exact hret _ _ _ _ _ _ hf rfl hZ dG_worth_23
abbrev rmG_water : Room := { frames := 1, cells := 0, slots := 0, locals := 22 }
set_option maxHeartbeats 4000000 in
set_option maxRecDepth 100000 in
theorem cG_water (l : Launch) (D : va_G) (ad : Nat → Nat) (c3 : ClassId × ClassId × ClassId) (M : mMem) (x1 : Int32) (x2 : Int32)  {r : Int32} {M' : mMem} (hf : fG_water M x1 x2 = some (r, M')) : kIX l D ad c3 yG_water wG_water rmG_water [.ref (ad 0), .int x1, .int x2] M r M' := by
  refine m_oI (cc := bG_water) (maxL := 4) (ty := .int) (own := R_G) nestX (by decide) rfl (Nat.le_of_ble_eq_true rfl) rfl (fun p e s m args below meth c Q hx hb hml hown hts hK hN hret ls hZ hl => ?_)
  have hl : lv_has ls 4 [(0, .ref (ad 0)), (1, .int x1), (2, .int x2)] := hl
  unfold fG_water at hf
  refine lv_aload_n hx hb dG_water_0 rfl (lv_at hl 0 rfl) ?_
  refine m_getR (k' := 1) hx hb hts in_G hown hK hZ (by decide) rfl rfl 0 (by decide) (hts _ k2_8) (fun _ h9 => h9) rfl dG_water_1 ?_
  refine lv_iload_n hx hb dG_water_4 rfl (lv_at hl 1 rfl) ?_
  obtain ⟨r_1, hc, hf⟩ := m_b1x hf
  refine m_ci (va_runV (As := [.int x1]) (rest := []) ⟨hx, hb, hml, hown, hts⟩ (cP_hasStock l D ad c3 M x1 hc) (cwV 1 hts (gV k2_79 k2_80 k2_81 k1_2 kc_P_hasStock) rfl rfl rfl (by decide +kernel) ⟨by decide, by decide⟩) (m_preV hK hN hZ (by decide) rfl rfl) rfl rfl hl.1 rfl (lv_room (Nat.le_of_ble_eq_true rfl)) dG_water_5 ⟨Nat.zero_le _, Nat.zero_le _⟩) hZ (fun H locs hZ => ?_)
  refine lv_if_eq (tgt := 22) hx hb dG_water_8 (by decide) (fun c_2 => ?_) (fun c_2 => ?_)
  · have hf := m_t hf c_2
    refine lv_iconst (v := (-1)) hx hb dG_water_22 (by decide) ?_
    exact hret _ _ _ _ _ _ hf rfl hZ dG_water_23
  · have hf := m_f hf c_2
    refine lv_iload_n hx hb dG_water_11 rfl (lv_at hl 2 rfl) ?_
    refine lv_iconst (v := 0) hx hb dG_water_12 (by decide) ?_
    refine lv_sipush (v := 300) hx hb dG_water_13 (by decide) ?_
    obtain ⟨r_3, hc, hf⟩ := m_b1x hf
    refine m_ci (va_runS (As := [.int x2, .int 0, .int 300]) (rest := []) ⟨hx, hb, hml, hown, hts⟩ (cG_within l D ad c3 M x2 0 300 hc) (cwS 3 hts (gS9 k2_68 k2_69 k1_1 kc_G_within) rfl rfl rfl (by decide +kernel) ⟨by decide, by decide⟩) (m_preS hK hN hZ) rfl rfl hl.1 rfl (lv_room (Nat.le_of_ble_eq_true rfl)) dG_water_16 ⟨Nat.zero_le _, Nat.zero_le _⟩) hZ (fun H locs hZ => ?_)
    refine lv_if_ne (tgt := 24) hx hb dG_water_19 (by decide) (fun c_4 => ?_) (fun c_4 => ?_)
    · have hf := m_f hf c_4
      refine lv_aload_n hx hb dG_water_24 rfl (lv_at hl 0 rfl) ?_
      refine m_getR (k' := 1) hx hb hts in_G hown hK hZ (by decide) rfl rfl 0 (by decide) (hts _ k2_8) (fun _ h9 => h9) rfl dG_water_25 ?_
      refine m_getR (k' := 8) hx hb hts in_P hown hK hZ (by decide) rfl rfl 10 (by decide) (hts _ k1_55) (fun _ h9 => h9) rfl dG_water_28 ?_
      refine lv_iload_n hx hb dG_water_31 rfl (lv_at hl 1 rfl) ?_
      obtain ⟨h_inb_x1_4, hf⟩ := m_gx hf
      refine m_iald hx hb hK hZ (by decide) rfl h_inb_x1_4 dG_water_32 ?_
      obtain ⟨x3_5, ex3_5, hf⟩ := m_lx hf
      refine m_topi ex3_5 ?_
      refine lv_istore_n (lv' := [(3, .int x3_5), (0, .ref (ad 0)), (1, .int x1), (2, .int x2)]) hx hb dG_water_33 rfl hl (by decide) rfl (fun ls hl => ?_)
      refine lv_aload_n hx hb dG_water_34 rfl (lv_at hl 1 rfl) ?_
      refine m_getR (k' := 1) hx hb hts in_G hown hK hZ (by decide) rfl rfl 0 (by decide) (hts _ k2_8) (fun _ h9 => h9) rfl dG_water_35 ?_
      refine m_getR (k' := 8) hx hb hts in_P hown hK hZ (by decide) rfl rfl 10 (by decide) (hts _ k1_55) (fun _ h9 => h9) rfl dG_water_38 ?_
      refine lv_iload_n hx hb dG_water_41 rfl (lv_at hl 2 rfl) ?_
      refine lv_iload_n hx hb dG_water_42 rfl (lv_at hl 3 rfl) ?_
      obtain ⟨M_6, eM_6, hf⟩ := m_lx hf
      refine m_iast hx hb hK hZ (by decide) rfl h_inb_x1_4 dG_water_43 eM_6 (fun H locs hZ => ?_)
      refine lv_iload_n hx hb dG_water_44 rfl (lv_at hl 0 rfl) ?_
      exact hret _ _ _ _ _ _ hf rfl hZ dG_water_45
    · have hf := m_t hf c_4
      refine lv_iconst (v := (-1)) hx hb dG_water_22 (by decide) ?_
      exact hret _ _ _ _ _ _ hf rfl hZ dG_water_23
