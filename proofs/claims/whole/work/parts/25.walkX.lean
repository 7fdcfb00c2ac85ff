def rmS_fillFrom (n : Nat) : Room := { frames := 2 + 1 * n, cells := 0, slots := 0, locals := 55 + 29 * n }
set_option maxHeartbeats 4000000 in
set_option maxRecDepth 100000 in
theorem cS_fillFrom (l : Launch) (D : va_G) (ad : Nat → Nat) (c3 : ClassId × ClassId × ClassId) : ∀ (n : Nat) (M : mMem) (b : Nat) (x1 : Int32) (x2 : Int32) (x3 : Int32) (x4 : Int32) (qb : isX_S b) {M' : mMem}, fS_fillFrom n M b x1 x2 x3 x4 = some M' → kVX l D ad c3 yS_fillFrom wS_fillFrom (rmS_fillFrom n) [.ref (ad b), .int x1, .int x2, .int x3, .int x4] M M'
  | 0, _, _, _, _, _, _, _, _ => fun hf => m_none hf
  | n + 1, M, b, x1, x2, x3, x4, qb, M' => fun hf => by
    have ih := cS_fillFrom l D ad c3 n
    rw [fS_fillFrom] at hf
    refine m_oV (cc := bS_fillFrom) (maxL := 10) (own := R_S) nestX (by decide) rfl (Nat.le_of_ble_eq_true rfl) rfl (fun p e s m args below meth c Q hx hb hml hown hts hK hN hret ls hZ hl => ?_)
    have hl : lv_has ls 10 [(0, .ref (ad b)), (1, .int x1), (2, .int x2), (3, .int x3), (4, .int x4)] := hl
    have L121 : ∀ (x6 : Int32) (n121 : Nat) (M : mMem) (x7 : Int32), fS_fillFrom_L121 (fS_fillFrom n) b x1 x2 x3 x4 x6 n121 M x7 = some M' → ∀ (H : Heap) (locs : List Loc) (ls : Array Slot), zX D ad c3 s H locs M → lv_has ls 10 [(0, .ref (ad b)), (1, .int x1), (2, .int x2), (3, .int x3), (4, .int x4), (6, .int x6), (7, .int x7)] → W p l e (rmS_fillFrom (n + 1)) s m args below meth c H locs 0 0 Q (F0 m 121 ls []) := by
      intro x6 n121
      induction n121 with
      | zero => intro M x7 hf; exact m_none hf
      | succ n121 ih121 =>
        intro M x7 hf H locs ls hZ hl
        rw [fS_fillFrom_L121] at hf
        have B191 : ∀ (M : mMem) (x7 : Int32) (x8 : Int32) (s0 : Int32), fS_fillFrom_B191 (fS_fillFrom_L121 (fS_fillFrom n) b x1 x2 x3 x4 x6 n121) (fS_fillFrom n) b x1 x2 x4 M x7 x8 s0 = some M' → ∀ (H : Heap) (locs : List Loc) (ls : Array Slot), zX D ad c3 s H locs M → lv_has ls 10 [(0, .ref (ad b)), (1, .int x1), (2, .int x2), (3, .int x3), (4, .int x4), (6, .int x6), (7, .int x7), (8, .int x8)] → W p l e (rmS_fillFrom (n + 1)) s m args below meth c H locs 0 0 Q (F0 m 191 ls [.int s0]) := by
          intro M x7 x8 s0 hf H locs ls hZ hl
          unfold fS_fillFrom_B191 at hf
          refine lv_istore (lv' := [(9, .int s0), (0, .ref (ad b)), (1, .int x1), (2, .int x2), (3, .int x3), (4, .int x4), (6, .int x6), (7, .int x7), (8, .int x8)]) hx hb dS_fillFrom_191 hl (by decide) rfl (fun ls hl => ?_)
          refine lv_aload_n hx hb dS_fillFrom_193 rfl (lv_at hl 1 rfl) ?_
          refine lv_iload_n hx hb dS_fillFrom_194 rfl (lv_at hl 2 rfl) ?_
          refine lv_iconst (v := 1) hx hb dS_fillFrom_195 (by decide) ?_
          refine lv_iadd hx hb dS_fillFrom_196 ?_
          refine lv_iload_n hx hb dS_fillFrom_197 rfl (lv_at hl 3 rfl) ?_
          refine lv_iload hx hb dS_fillFrom_198 (lv_at hl 8 rfl) ?_
          refine lv_isub hx hb dS_fillFrom_200 ?_
          refine lv_iload hx hb dS_fillFrom_201 (lv_at hl 0 rfl) ?_
          refine lv_iload hx hb dS_fillFrom_203 (lv_at hl 5 rfl) ?_
          refine lv_iload hx hb dS_fillFrom_205 (lv_at hl 8 rfl) ?_
          refine lv_aload_n hx hb dS_fillFrom_207 rfl (lv_at hl 1 rfl) ?_
          refine m_getR (k' := 1) hx hb hts in_S hown hK hZ (qb 0 (by decide)).2 (qb 0 (by decide)).1 rfl 0 (by decide) (hts _ k1_130) (fun _ h9 => h9) rfl dS_fillFrom_208 ?_
          refine m_getR (k' := 4) hx hb hts in_P hown hK hZ (by decide) rfl rfl 6 (by decide) (hts _ k1_46) (fun _ h9 => h9) rfl dS_fillFrom_211 ?_
          refine lv_iload_n hx hb dS_fillFrom_214 rfl (lv_at hl 2 rfl) ?_
          obtain ⟨h_inb_x1_4, hf⟩ := m_gx hf
          refine m_iald hx hb hK hZ (by decide) rfl h_inb_x1_4 dS_fillFrom_215 ?_
          refine lv_imul hx hb dS_fillFrom_216 ?_
          refine lv_iadd hx hb dS_fillFrom_217 ?_
          obtain ⟨M_19, hc, hf⟩ := m_b1x hf
          refine m_cv (va_runV (As := [.int (x1 + 1), .int (x2 - x8), .int s0, .int (x4 + (x8 * (M 4 x1.toNatClampNeg)))]) (rest := []) ⟨hx, hb, hml, hown, hts⟩ (ih M b (x1 + 1) (x2 - x8) s0 (x4 + (x8 * (M 4 x1.toNatClampNeg))) qb hc) (cwV 4 hts (gV k2_152 k2_154 kp_5 k1_3 kc_S_fillFrom) rfl rfl rfl (by decide +kernel) ⟨by simp only [rmS_fillFrom, rmS_fillFrom]; omega, by simp only [rmS_fillFrom, rmS_fillFrom]; omega⟩) (m_preV hK hN hZ (qb 0 (by decide)).2 (qb 0 (by decide)).1 rfl) rfl rfl hl.1 rfl (lv_room (Nat.le_of_ble_eq_true rfl)) dS_fillFrom_218 ⟨Nat.zero_le _, Nat.zero_le _⟩) hZ (fun H locs hZ => ?_)
          obtain ⟨x7_20, ex7_20, hf⟩ := m_lx hf
          refine lv_iinc (v := x7_20) (lv' := [(7, .int x7_20), (9, .int s0), (0, .ref (ad b)), (1, .int x1), (2, .int x2), (3, .int x3), (4, .int x4), (6, .int x6), (8, .int x8)]) hx hb dS_fillFrom_221 hl (k := 7) rfl (by rw [ex7_20]; rfl) (by decide) rfl (fun ls hl => ?_)
          refine lv_goto (tgt := 121) hx hb dS_fillFrom_224 (by decide) ?_
          exact ih121 _ _ hf _ _ _ hZ (lv_sub hl [2, 3, 4, 5, 6, 7, 0] rfl)
        refine lv_iload hx hb dS_fillFrom_121 (lv_at hl 6 rfl) ?_
        refine lv_bipush (v := 100) hx hb dS_fillFrom_123 (by decide) ?_
        refine lv_icmp_gt (tgt := 227) hx hb dS_fillFrom_125 (by decide) (fun c_12 => ?_) (fun c_12 => ?_)
        · have hf := m_t hf c_12
          exact hret _ _ _ _ _ hf hZ dS_fillFrom_227
        · have hf := m_f hf c_12
          refine lv_iload hx hb dS_fillFrom_128 (lv_at hl 6 rfl) ?_
          refine lv_aload_n hx hb dS_fillFrom_130 rfl (lv_at hl 0 rfl) ?_
          refine m_getR (k' := 1) hx hb hts in_S hown hK hZ (qb 0 (by decide)).2 (qb 0 (by decide)).1 rfl 0 (by decide) (hts _ k1_130) (fun _ h9 => h9) rfl dS_fillFrom_131 ?_
          refine m_get hx hb hts in_P hown hK hZ (by decide) rfl rfl 3 (by decide) (hts _ k1_37) (fun _ h9 => h9) rfl dS_fillFrom_134 ?_
          refine lv_imul hx hb dS_fillFrom_137 ?_
          obtain ⟨x8_13, ex8_13, hf⟩ := m_lx hf
          refine m_topi ex8_13 ?_
          refine lv_istore (lv' := [(8, .int x8_13), (0, .ref (ad b)), (1, .int x1), (2, .int x2), (3, .int x3), (4, .int x4), (6, .int x6), (7, .int x7)]) hx hb dS_fillFrom_138 hl (by decide) rfl (fun ls hl => ?_)
          refine lv_iload hx hb dS_fillFrom_140 (lv_at hl 0 rfl) ?_
          refine lv_iload hx hb dS_fillFrom_142 (lv_at hl 6 rfl) ?_
          refine lv_icmp_le (tgt := 150) hx hb dS_fillFrom_144 (by decide) (fun c_14 => ?_) (fun c_14 => ?_)
          · have hf := m_t hf c_14
            refine lv_iload hx hb dS_fillFrom_150 (lv_at hl 0 rfl) ?_
            refine lv_aload_n hx hb dS_fillFrom_152 rfl (lv_at hl 1 rfl) ?_
            refine m_getR (k' := 1) hx hb hts in_S hown hK hZ (qb 0 (by decide)).2 (qb 0 (by decide)).1 rfl 0 (by decide) (hts _ k1_130) (fun _ h9 => h9) rfl dS_fillFrom_153 ?_
            refine m_getR (k' := 5) hx hb hts in_P hown hK hZ (by decide) rfl rfl 7 (by decide) (hts _ k1_48) (fun _ h9 => h9) rfl dS_fillFrom_156 ?_
            refine lv_iload_n hx hb dS_fillFrom_159 rfl (lv_at hl 2 rfl) ?_
            obtain ⟨h_inb_x1_4, hf⟩ := m_gx hf
            refine m_iald hx hb hK hZ (by decide) rfl h_inb_x1_4 dS_fillFrom_160 ?_
            refine lv_icmp_lt (tgt := 221) hx hb dS_fillFrom_161 (by decide) (fun c_15 => ?_) (fun c_15 => ?_)
            · have hf := m_t hf c_15
              obtain ⟨x7_16, ex7_16, hf⟩ := m_lx hf
              refine lv_iinc (v := x7_16) (lv' := [(7, .int x7_16), (8, .int x8_13), (0, .ref (ad b)), (1, .int x1), (2, .int x2), (3, .int x3), (4, .int x4), (6, .int x6)]) hx hb dS_fillFrom_221 hl (k := 7) rfl (by rw [ex7_16]; rfl) (by decide) rfl (fun ls hl => ?_)
              refine lv_goto (tgt := 121) hx hb dS_fillFrom_224 (by decide) ?_
              exact ih121 _ _ hf _ _ _ hZ (lv_sub hl [2, 3, 4, 5, 6, 7, 0] rfl)
            · have hf := m_f hf c_15
              refine lv_aload_n hx hb dS_fillFrom_164 rfl (lv_at hl 1 rfl) ?_
              refine lv_iload_n hx hb dS_fillFrom_165 rfl (lv_at hl 2 rfl) ?_
              refine lv_iload hx hb dS_fillFrom_166 (lv_at hl 0 rfl) ?_
              obtain ⟨M_17, hc, hf⟩ := m_b1x hf
              refine m_cv (va_runV (As := [.int x1, .int x8_13]) (rest := []) ⟨hx, hb, hml, hown, hts⟩ (cS_putShare l D ad c3 M b x1 x8_13 qb hc) (cwV 2 hts (gV k2_171 k2_173 kp_8 k1_3 kc_S_putShare) rfl rfl rfl (by decide +kernel) ⟨by simp only [rmS_fillFrom, rmS_putShare]; omega, by simp only [rmS_fillFrom, rmS_putShare]; omega⟩) (m_preV hK hN hZ (qb 0 (by decide)).2 (qb 0 (by decide)).1 rfl) rfl rfl hl.1 rfl (lv_room (Nat.le_of_ble_eq_true rfl)) dS_fillFrom_168 ⟨Nat.zero_le _, Nat.zero_le _⟩) hZ (fun H locs hZ => ?_)
              refine lv_aload_n hx hb dS_fillFrom_171 rfl (lv_at hl 1 rfl) ?_
              refine m_getR (k' := 1) hx hb hts in_S hown hK hZ (qb 0 (by decide)).2 (qb 0 (by decide)).1 rfl 0 (by decide) (hts _ k1_130) (fun _ h9 => h9) rfl dS_fillFrom_172 ?_
              refine m_getR (k' := 7) hx hb hts in_P hown hK hZ (by decide) rfl rfl 9 (by decide) (hts _ k1_52) (fun _ h9 => h9) rfl dS_fillFrom_175 ?_
              refine lv_iload_n hx hb dS_fillFrom_178 rfl (lv_at hl 2 rfl) ?_
              refine m_zald hx hb hK hZ (by decide) rfl h_inb_x1_4 dS_fillFrom_179 ?_
              refine lv_if_eq (tgt := 190) hx hb dS_fillFrom_180 (by decide) (fun c_18 => ?_) (fun c_18 => ?_)
              · have hf := m_t hf c_18
                refine lv_iload_n hx hb dS_fillFrom_190 rfl (lv_at hl 4 rfl) ?_
                exact B191 M_17 x7 x8_13 x3 hf _ _ _ hZ (lv_sub hl [1, 2, 3, 4, 5, 6, 7, 0] rfl)
              · have hf := m_f hf c_18
                refine lv_iload_n hx hb dS_fillFrom_183 rfl (lv_at hl 4 rfl) ?_
                refine lv_iload hx hb dS_fillFrom_184 (lv_at hl 0 rfl) ?_
                refine lv_isub hx hb dS_fillFrom_186 ?_
                refine lv_goto (tgt := 191) hx hb dS_fillFrom_187 (by decide) ?_
                exact B191 M_17 x7 x8_13 (x3 - x8_13) hf _ _ _ hZ (lv_sub hl [1, 2, 3, 4, 5, 6, 7, 0] rfl)
          · have hf := m_f hf c_14
            refine lv_goto (tgt := 227) hx hb dS_fillFrom_147 (by decide) ?_
            exact hret _ _ _ _ _ hf hZ dS_fillFrom_227
    have B37 : ∀ (M : mMem) (s0 : Int32), fS_fillFrom_B37 (fS_fillFrom n) b x1 x2 x3 x4 M s0 = some M' → ∀ (H : Heap) (locs : List Loc) (ls : Array Slot), zX D ad c3 s H locs M → lv_has ls 10 [(0, .ref (ad b)), (1, .int x1), (2, .int x2), (3, .int x3), (4, .int x4)] → W p l e (rmS_fillFrom (n + 1)) s m args below meth c H locs 0 0 Q (F0 m 37 ls [.int s0]) := by
      intro M s0 hf H locs ls hZ hl
      unfold fS_fillFrom_B37 at hf
      refine lv_istore (lv' := [(5, .int s0), (0, .ref (ad b)), (1, .int x1), (2, .int x2), (3, .int x3), (4, .int x4)]) hx hb dS_fillFrom_37 hl (by decide) rfl (fun ls hl => ?_)
      refine lv_iload hx hb dS_fillFrom_39 (lv_at hl 0 rfl) ?_
      refine lv_aload_n hx hb dS_fillFrom_41 rfl (lv_at hl 1 rfl) ?_
      refine m_getR (k' := 1) hx hb hts in_S hown hK hZ (qb 0 (by decide)).2 (qb 0 (by decide)).1 rfl 0 (by decide) (hts _ k1_130) (fun _ h9 => h9) rfl dS_fillFrom_42 ?_
      refine m_getR (k' := 6) hx hb hts in_P hown hK hZ (by decide) rfl rfl 8 (by decide) (hts _ k1_50) (fun _ h9 => h9) rfl dS_fillFrom_45 ?_
      refine lv_iload_n hx hb dS_fillFrom_48 rfl (lv_at hl 2 rfl) ?_
      obtain ⟨h_inb_x1_4, hf⟩ := m_gx hf
      refine m_iald hx hb hK hZ (by decide) rfl h_inb_x1_4 dS_fillFrom_49 ?_
      refine va_mmin hx hb (hml.trans hl.1.symm) hown (hts _ k2_156) (hts _ k2_91) (hts _ k1_9) (hts _ kc_math_min) (by simp only [rmS_fillFrom]; omega) (Nat.le_of_ble_eq_true rfl) (Nat.zero_le _) (Nat.zero_le _) dS_fillFrom_50 ?_
      obtain ⟨x6_4, ex6_4, hf⟩ := m_lx hf
      refine m_topi ex6_4 ?_
      refine lv_istore (lv' := [(6, .int x6_4), (5, .int s0), (0, .ref (ad b)), (1, .int x1), (2, .int x2), (3, .int x3), (4, .int x4)]) hx hb dS_fillFrom_53 hl (by decide) rfl (fun ls hl => ?_)
      refine lv_iload_n hx hb dS_fillFrom_55 rfl (lv_at hl 3 rfl) ?_
      refine lv_aload_n hx hb dS_fillFrom_56 rfl (lv_at hl 2 rfl) ?_
      refine m_getR (k' := 1) hx hb hts in_S hown hK hZ (qb 0 (by decide)).2 (qb 0 (by decide)).1 rfl 0 (by decide) (hts _ k1_130) (fun _ h9 => h9) rfl dS_fillFrom_57 ?_
      refine m_get hx hb hts in_P hown hK hZ (by decide) rfl rfl 1 (by decide) (hts _ k1_32) (fun _ h9 => h9) rfl dS_fillFrom_60 ?_
      refine lv_iconst (v := 1) hx hb dS_fillFrom_63 (by decide) ?_
      refine lv_isub hx hb dS_fillFrom_64 ?_
      refine lv_icmp_ne (tgt := 118) hx hb dS_fillFrom_65 (by decide) (fun c_5 => ?_) (fun c_5 => ?_)
      · have hf := m_f hf c_5
        refine lv_iconst (v := 0) hx hb dS_fillFrom_118 (by decide) ?_
        refine lv_istore (lv' := [(7, .int 0), (6, .int x6_4), (5, .int s0), (0, .ref (ad b)), (1, .int x1), (2, .int x2), (3, .int x3), (4, .int x4)]) hx hb dS_fillFrom_119 hl (by decide) rfl (fun ls hl => ?_)
        exact L121 x6_4 128 M 0 hf _ _ _ hZ (lv_sub hl [3, 4, 5, 6, 7, 1, 0] rfl)
      · have hf := m_t hf c_5
        refine lv_iload_n hx hb dS_fillFrom_68 rfl (lv_at hl 4 rfl) ?_
        refine lv_aload_n hx hb dS_fillFrom_69 rfl (lv_at hl 2 rfl) ?_
        refine m_getR (k' := 1) hx hb hts in_S hown hK hZ (qb 0 (by decide)).2 (qb 0 (by decide)).1 rfl 0 (by decide) (hts _ k1_130) (fun _ h9 => h9) rfl dS_fillFrom_70 ?_
        refine m_getR (k' := 5) hx hb hts in_P hown hK hZ (by decide) rfl rfl 7 (by decide) (hts _ k1_48) (fun _ h9 => h9) rfl dS_fillFrom_73 ?_
        refine lv_iload_n hx hb dS_fillFrom_76 rfl (lv_at hl 3 rfl) ?_
        refine m_iald hx hb hK hZ (by decide) rfl h_inb_x1_4 dS_fillFrom_77 ?_
        refine lv_iload hx hb dS_fillFrom_78 (lv_at hl 0 rfl) ?_
        obtain ⟨r_6, hc, hf⟩ := m_b1x hf
        refine m_ci (va_runSN (As := [.int x2, .int (M 5 x1.toNatClampNeg), .int x6_4]) (rest := []) ⟨hx, hb, hml, hown, hts⟩ (cG_within l D ad c3 M x2 (M 5 x1.toNatClampNeg) x6_4 hc) ⟨va_cnB 3 hts (gN kc_G_within) rfl rfl rfl (hN.2 _ nk_8) (hts _ k1_1) (by decide +kernel) ⟨by simp only [rmS_fillFrom, rmG_within]; omega, by simp only [rmS_fillFrom, rmG_within]; omega⟩, (hts _ k2_69), trivial⟩ (m_preS hK hN hZ) rfl rfl hl.1 rfl (lv_room (Nat.le_of_ble_eq_true rfl)) dS_fillFrom_80 ⟨Nat.zero_le _, Nat.zero_le _⟩) hZ (fun H locs hZ => ?_)
        refine lv_if_eq (tgt := 117) hx hb dS_fillFrom_83 (by decide) (fun c_7 => ?_) (fun c_7 => ?_)
        · have hf := m_t hf c_7
          exact hret _ _ _ _ _ hf hZ dS_fillFrom_117
        · have hf := m_f hf c_7
          refine lv_aload_n hx hb dS_fillFrom_86 rfl (lv_at hl 2 rfl) ?_
          refine m_getR (k' := (b + 3)) hx hb hts in_S hown hK hZ (qb 0 (by decide)).2 (qb 0 (by decide)).1 rfl 3 (by decide) (hts _ k1_133) (fun _ h9 => h9) rfl dS_fillFrom_87 ?_
          refine lv_iload_n hx hb dS_fillFrom_90 rfl (lv_at hl 3 rfl) ?_
          refine lv_iload_n hx hb dS_fillFrom_91 rfl (lv_at hl 4 rfl) ?_
          obtain ⟨M_8, eM_8, hf⟩ := m_lx hf
          refine m_iast hx hb hK hZ (qb 3 (by decide)).2 (qb 3 (by decide)).1 h_inb_x1_4 dS_fillFrom_92 eM_8 (fun H locs hZ => ?_)
          refine lv_aload_n hx hb dS_fillFrom_93 rfl (lv_at hl 2 rfl) ?_
          refine lv_iload hx hb dS_fillFrom_94 (lv_at hl 6 rfl) ?_
          refine lv_iload_n hx hb dS_fillFrom_96 rfl (lv_at hl 4 rfl) ?_
          refine lv_aload_n hx hb dS_fillFrom_97 rfl (lv_at hl 2 rfl) ?_
          refine m_getR (k' := 1) hx hb hts in_S hown hK hZ (qb 0 (by decide)).2 (qb 0 (by decide)).1 rfl 0 (by decide) (hts _ k1_130) (fun _ h9 => h9) rfl dS_fillFrom_98 ?_
          refine m_getR (k' := 4) hx hb hts in_P hown hK hZ (by decide) rfl rfl 6 (by decide) (hts _ k1_46) (fun _ h9 => h9) rfl dS_fillFrom_101 ?_
          refine lv_iload_n hx hb dS_fillFrom_104 rfl (lv_at hl 3 rfl) ?_
          refine m_iald hx hb hK hZ (by decide) rfl h_inb_x1_4 dS_fillFrom_105 ?_
          refine lv_imul hx hb dS_fillFrom_106 ?_
          refine lv_iadd hx hb dS_fillFrom_107 ?_
          refine lv_aload_n hx hb dS_fillFrom_108 rfl (lv_at hl 2 rfl) ?_
          refine lv_iload_n hx hb dS_fillFrom_109 rfl (lv_at hl 3 rfl) ?_
          refine lv_iload_n hx hb dS_fillFrom_110 rfl (lv_at hl 4 rfl) ?_
          obtain ⟨r_9, M_10, hc, hf⟩ := m_b2x hf
          refine m_ci (va_runV (As := [.int x1, .int x2]) (rest := [.int (x4 + (x2 * (M_8 4 x1.toNatClampNeg))), .ref (ad b)]) ⟨hx, hb, hml, hown, hts⟩ (cS_missOfAll l D ad c3 M_8 b x1 x2 qb hc) (cwV 2 hts (gV k2_158 k2_160 kp_6 k1_3 kc_S_missOfAll) rfl rfl rfl (by decide +kernel) ⟨by simp only [rmS_fillFrom, rmS_missOfAll]; omega, by simp only [rmS_fillFrom, rmS_missOfAll]; omega⟩) (m_preV hK hN hZ (qb 0 (by decide)).2 (qb 0 (by decide)).1 rfl) rfl rfl hl.1 rfl (lv_room (Nat.le_of_ble_eq_true rfl)) dS_fillFrom_111 ⟨Nat.zero_le _, Nat.zero_le _⟩) hZ (fun H locs hZ => ?_)
          obtain ⟨M_11, hc, hf⟩ := m_b1x hf
          refine m_cv (va_runV (As := [.int (x4 + (x2 * (M_8 4 x1.toNatClampNeg))), .int r_9]) (rest := []) ⟨hx, hb, hml, hown, hts⟩ (cS_lookAt l D ad c3 M_10 b (x4 + (x2 * (M_8 4 x1.toNatClampNeg))) r_9 qb hc) (cwV 2 hts (gV k2_163 k2_165 kp_7 k1_3 kc_S_lookAt) rfl rfl rfl (by decide +kernel) ⟨by simp only [rmS_fillFrom, rmS_lookAt]; omega, by simp only [rmS_fillFrom, rmS_lookAt]; omega⟩) (m_preV hK hN hZ (qb 0 (by decide)).2 (qb 0 (by decide)).1 rfl) rfl rfl hl.1 rfl (lv_room (Nat.le_of_ble_eq_true rfl)) dS_fillFrom_114 ⟨Nat.zero_le _, Nat.zero_le _⟩) hZ (fun H locs hZ => ?_)
          exact hret _ _ _ _ _ hf hZ dS_fillFrom_117
    refine lv_iload_n hx hb dS_fillFrom_0 rfl (lv_at hl 1 rfl) ?_
    refine lv_if_lt (tgt := 15) hx hb dS_fillFrom_1 (by decide) (fun c_1 => ?_) (fun c_1 => ?_)
    · have hf := m_t hf c_1
      exact hret _ _ _ _ _ hf hZ dS_fillFrom_15
    · have hf := m_f hf c_1
      refine lv_iload_n hx hb dS_fillFrom_4 rfl (lv_at hl 1 rfl) ?_
      refine lv_aload_n hx hb dS_fillFrom_5 rfl (lv_at hl 0 rfl) ?_
      refine m_getR (k' := 1) hx hb hts in_S hown hK hZ (qb 0 (by decide)).2 (qb 0 (by decide)).1 rfl 0 (by decide) (hts _ k1_130) (fun _ h9 => h9) rfl dS_fillFrom_6 ?_
      refine m_get hx hb hts in_P hown hK hZ (by decide) rfl rfl 1 (by decide) (hts _ k1_32) (fun _ h9 => h9) rfl dS_fillFrom_9 ?_
      refine lv_icmp_lt (tgt := 16) hx hb dS_fillFrom_12 (by decide) (fun c_2 => ?_) (fun c_2 => ?_)
      · have hf := m_t hf c_2
        refine lv_aload_n hx hb dS_fillFrom_16 rfl (lv_at hl 0 rfl) ?_
        refine m_getR (k' := 1) hx hb hts in_S hown hK hZ (qb 0 (by decide)).2 (qb 0 (by decide)).1 rfl 0 (by decide) (hts _ k1_130) (fun _ h9 => h9) rfl dS_fillFrom_17 ?_
        refine m_getR (k' := 7) hx hb hts in_P hown hK hZ (by decide) rfl rfl 9 (by decide) (hts _ k1_52) (fun _ h9 => h9) rfl dS_fillFrom_20 ?_
        refine lv_iload_n hx hb dS_fillFrom_23 rfl (lv_at hl 1 rfl) ?_
        obtain ⟨h_inb_x1_4, hf⟩ := m_gx hf
        refine m_zald hx hb hK hZ (by decide) rfl h_inb_x1_4 dS_fillFrom_24 ?_
        refine lv_if_eq (tgt := 36) hx hb dS_fillFrom_25 (by decide) (fun c_3 => ?_) (fun c_3 => ?_)
        · have hf := m_t hf c_3
          refine lv_iload_n hx hb dS_fillFrom_36 rfl (lv_at hl 2 rfl) ?_
          exact B37 M x2 hf _ _ _ hZ (lv_sub hl [0, 1, 2, 3, 4] rfl)
        · have hf := m_f hf c_3
          refine lv_iload_n hx hb dS_fillFrom_28 rfl (lv_at hl 2 rfl) ?_
          refine lv_iload_n hx hb dS_fillFrom_29 rfl (lv_at hl 3 rfl) ?_
          refine va_mmin hx hb (hml.trans hl.1.symm) hown (hts _ k2_156) (hts _ k2_91) (hts _ k1_9) (hts _ kc_math_min) (by simp only [rmS_fillFrom]; omega) (Nat.le_of_ble_eq_true rfl) (Nat.zero_le _) (Nat.zero_le _) dS_fillFrom_30 ?_
          refine lv_goto (tgt := 37) hx hb dS_fillFrom_33 (by decide) ?_
          exact B37 M (if x3 < x2 then x3 else x2) hf _ _ _ hZ (lv_sub hl [0, 1, 2, 3, 4] rfl)
      · have hf := m_f hf c_2
        exact hret _ _ _ _ _ hf hZ dS_fillFrom_15
abbrev rmS_lookAtAll : Room := { frames := 9, cells := 0, slots := 0, locals := 258 }
set_option maxHeartbeats 4000000 in
set_option maxRecDepth 100000 in
theorem cS_lookAtAll (l : Launch) (D : va_G) (ad : Nat → Nat) (c3 : ClassId × ClassId × ClassId) (M : mMem) (b : Nat) (qb : isX_S b) {M' : mMem} (hf : fS_lookAtAll M b = some M') : kVX l D ad c3 yS_lookAtAll wS_lookAtAll rmS_lookAtAll [.ref (ad b)] M M' := by
  refine m_oV (cc := bS_lookAtAll) (maxL := 2) (own := R_S) nestX (by decide) rfl (Nat.le_of_ble_eq_true rfl) rfl (fun p e s m args below meth c Q hx hb hml hown hts hK hN hret ls hZ hl => ?_)
  have hl : lv_has ls 2 [(0, .ref (ad b))] := hl
  unfold fS_lookAtAll at hf
  have B47 : ∀ (M : mMem), fS_lookAtAll_B47 b M = some M' → ∀ (H : Heap) (locs : List Loc) (ls : Array Slot), zX D ad c3 s H locs M → lv_has ls 2 [(0, .ref (ad b))] → W p l e rmS_lookAtAll s m args below meth c H locs 0 0 Q (F0 m 47 ls []) := by
    intro M hf H locs ls hZ hl
    unfold fS_lookAtAll_B47 at hf
    refine lv_aload_n hx hb dS_lookAtAll_47 rfl (lv_at hl 0 rfl) ?_
    refine lv_iconst (v := 0) hx hb dS_lookAtAll_48 (by decide) ?_
    refine lv_bipush (v := 100) hx hb dS_lookAtAll_49 (by decide) ?_
    refine lv_aload_n hx hb dS_lookAtAll_51 rfl (lv_at hl 0 rfl) ?_
    refine m_getR (k' := 1) hx hb hts in_S hown hK hZ (qb 0 (by decide)).2 (qb 0 (by decide)).1 rfl 0 (by decide) (hts _ k1_130) (fun _ h9 => h9) rfl dS_lookAtAll_52 ?_
    refine m_get hx hb hts in_P hown hK hZ (by decide) rfl rfl 2 (by decide) (hts _ k1_34) (fun _ h9 => h9) rfl dS_lookAtAll_55 ?_
    refine lv_iconst (v := 0) hx hb dS_lookAtAll_58 (by decide) ?_
    obtain ⟨M_6, hc, hf⟩ := m_b1x hf
    refine m_cv (va_runV (As := [.int 0, .int 100, .int (M 1 2), .int 0]) (rest := []) ⟨hx, hb, hml, hown, hts⟩ (cS_fillFrom l D ad c3 6 M b 0 100 (M 1 2) 0 qb hc) (cwV 4 hts (gV k2_152 k2_154 kp_5 k1_3 kc_S_fillFrom) rfl rfl rfl (by decide +kernel) ⟨by simp only [rmS_lookAtAll, rmS_fillFrom]; omega, by simp only [rmS_lookAtAll, rmS_fillFrom]; omega⟩) (m_preV hK hN hZ (qb 0 (by decide)).2 (qb 0 (by decide)).1 rfl) rfl rfl hl.1 rfl (lv_room (Nat.le_of_ble_eq_true rfl)) dS_lookAtAll_59 ⟨Nat.zero_le _, Nat.zero_le _⟩) hZ (fun H locs hZ => ?_)
    exact hret _ _ _ _ _ hf hZ dS_lookAtAll_62
  have L28 : ∀ (n28 : Nat) (M : mMem) (x1 : Int32), fS_lookAtAll_L28 b n28 M x1 = some M' → ∀ (H : Heap) (locs : List Loc) (ls : Array Slot), zX D ad c3 s H locs M → lv_has ls 2 [(0, .ref (ad b)), (1, .int x1)] → W p l e rmS_lookAtAll s m args below meth c H locs 0 0 Q (F0 m 28 ls []) := by
    intro n28
    induction n28 with
    | zero => intro M x1 hf; exact m_none hf
    | succ n28 ih28 =>
      intro M x1 hf H locs ls hZ hl
      rw [fS_lookAtAll_L28] at hf
      refine lv_iload_n hx hb dS_lookAtAll_28 rfl (lv_at hl 1 rfl) ?_
      refine lv_bipush (v := 6) hx hb dS_lookAtAll_29 (by decide) ?_
      refine lv_icmp_ge (tgt := 47) hx hb dS_lookAtAll_31 (by decide) (fun c_5 => ?_) (fun c_5 => ?_)
      · have hf := m_t hf c_5
        exact B47 M hf _ _ _ hZ (lv_sub hl [0] rfl)
      · have hf := m_f hf c_5
        refine lv_aload_n hx hb dS_lookAtAll_34 rfl (lv_at hl 0 rfl) ?_
        refine m_getR (k' := (b + 14)) hx hb hts in_S hown hK hZ (qb 0 (by decide)).2 (qb 0 (by decide)).1 rfl 6 (by decide) (hts _ k1_136) (fun _ h9 => h9) rfl dS_lookAtAll_35 ?_
        refine lv_iload_n hx hb dS_lookAtAll_38 rfl (lv_at hl 1 rfl) ?_
        refine lv_iconst (v := 0) hx hb dS_lookAtAll_39 (by decide) ?_
        obtain ⟨h_7, hf⟩ := m_gx hf
        obtain ⟨M_8, eM_8, hf⟩ := m_lx hf
        refine m_zast hx hb hK hZ (qb 14 (by decide)).2 (qb 14 (by decide)).1 h_7 dS_lookAtAll_40 eM_8 (by decide) (fun H locs hZ => ?_)
        obtain ⟨x1_9, ex1_9, hf⟩ := m_lx hf
        refine lv_iinc (v := x1_9) (lv' := [(1, .int x1_9), (0, .ref (ad b))]) hx hb dS_lookAtAll_41 hl (k := 1) rfl (by rw [ex1_9]; rfl) (by decide) rfl (fun ls hl => ?_)
        refine lv_goto (tgt := 28) hx hb dS_lookAtAll_44 (by decide) ?_
        exact ih28 _ _ hf _ _ _ hZ (lv_sub hl [1, 0] rfl)
  refine lv_aload_n hx hb dS_lookAtAll_0 rfl (lv_at hl 0 rfl) ?_
  refine lv_iconst (v := 0) hx hb dS_lookAtAll_1 (by decide) ?_
  obtain ⟨M_1, eM_1, hf⟩ := m_lx hf
  refine m_put (ty := .int) hx hb hts in_S ⟨ty_S_ok, nm_S_ok⟩ hown hK hZ (qb 0 (by decide)).2 (qb 0 (by decide)).1 rfl 9 (by decide) (hts _ k1_142) (fun _ h9 => h9) rfl (by decide +kernel) rfl rfl rfl dS_lookAtAll_2 eM_1 (fun H locs hZ => ?_)
  refine lv_aload_n hx hb dS_lookAtAll_5 rfl (lv_at hl 0 rfl) ?_
  refine lv_iconst (v := 0) hx hb dS_lookAtAll_6 (by decide) ?_
  obtain ⟨M_2, eM_2, hf⟩ := m_lx hf
  refine m_put (ty := .int) hx hb hts in_S ⟨ty_S_ok, nm_S_ok⟩ hown hK hZ (qb 0 (by decide)).2 (qb 0 (by decide)).1 rfl 10 (by decide) (hts _ k1_144) (fun _ h9 => h9) rfl (by decide +kernel) rfl rfl rfl dS_lookAtAll_7 eM_2 (fun H locs hZ => ?_)
  refine lv_aload_n hx hb dS_lookAtAll_10 rfl (lv_at hl 0 rfl) ?_
  refine m_getR (k' := (b + 15)) hx hb hts in_S hown hK hZ (qb 0 (by decide)).2 (qb 0 (by decide)).1 rfl 7 (by decide) (hts _ k1_138) (fun _ h9 => h9) rfl dS_lookAtAll_11 ?_
  refine lv_iconst (v := 0) hx hb dS_lookAtAll_14 (by decide) ?_
  obtain ⟨M_3, eM_3, hf⟩ := m_lx hf
  refine m_put (ty := .boolean) hx hb hts in_X ⟨ty_X_ok, nm_X_ok⟩ hown hK hZ (qb 15 (by decide)).2 (qb 15 (by decide)).1 rfl 0 (by decide) (hts _ k1_109) (fun _ h9 => h9) rfl (by decide +kernel) rfl rfl rfl dS_lookAtAll_15 eM_3 (fun H locs hZ => ?_)
  refine lv_aload_n hx hb dS_lookAtAll_18 rfl (lv_at hl 0 rfl) ?_
  refine m_getR (k' := (b + 17)) hx hb hts in_S hown hK hZ (qb 0 (by decide)).2 (qb 0 (by decide)).1 rfl 8 (by decide) (hts _ k1_140) (fun _ h9 => h9) rfl dS_lookAtAll_19 ?_
  refine lv_iconst (v := 0) hx hb dS_lookAtAll_22 (by decide) ?_
  obtain ⟨M_4, eM_4, hf⟩ := m_lx hf
  refine m_put (ty := .boolean) hx hb hts in_X ⟨ty_X_ok, nm_X_ok⟩ hown hK hZ (qb 17 (by decide)).2 (qb 17 (by decide)).1 rfl 0 (by decide) (hts _ k1_109) (fun _ h9 => h9) rfl (by decide +kernel) rfl rfl rfl dS_lookAtAll_23 eM_4 (fun H locs hZ => ?_)
  refine lv_iconst (v := 0) hx hb dS_lookAtAll_26 (by decide) ?_
  refine lv_istore_n (lv' := [(1, .int 0), (0, .ref (ad b))]) hx hb dS_lookAtAll_27 rfl hl (by decide) rfl (fun ls hl => ?_)
  exact L28 128 M_4 0 hf _ _ _ hZ (lv_sub hl [1, 0] rfl)
abbrev rmG_searchOnce : Room := { frames := 10, cells := 0, slots := 0, locals := 279 }
set_option maxHeartbeats 4000000 in
set_option maxRecDepth 100000 in
theorem cG_searchOnce (l : Launch) (D : va_G) (ad : Nat → Nat) (c3 : ClassId × ClassId × ClassId) (M : mMem)   {M' : mMem} (hf : fG_searchOnce M  = some M') : kVX l D ad c3 yG_searchOnce wG_searchOnce rmG_searchOnce [.ref (ad 0)] M M' := by
  refine m_oV (cc := bG_searchOnce) (maxL := 1) (own := R_G) nestX (by decide) rfl (Nat.le_of_ble_eq_true rfl) rfl (fun p e s m args below meth c Q hx hb hml hown hts hK hN hret ls hZ hl => ?_)
  have hl : lv_has ls 1 [(0, .ref (ad 0))] := hl
  unfold fG_searchOnce at hf
  refine lv_aload_n hx hb dG_searchOnce_0 rfl (lv_at hl 0 rfl) ?_
  refine m_get hx hb hts in_G hown hK hZ (by decide) rfl rfl 7 (by decide) (hts _ k2_15) (fun _ h9 => h9) rfl dG_searchOnce_1 ?_
  refine lv_if_ne (tgt := 26) hx hb dG_searchOnce_4 (by decide) (fun c_1 => ?_) (fun c_1 => ?_)
  · have hf := m_f hf c_1
    exact hret _ _ _ _ _ hf hZ dG_searchOnce_26
  · have hf := m_t hf c_1
    refine lv_aload_n hx hb dG_searchOnce_7 rfl (lv_at hl 0 rfl) ?_
    refine m_getR (k' := 24) hx hb hts in_G hown hK hZ (by decide) rfl rfl 1 (by decide) (hts _ k2_9) (fun _ h9 => h9) rfl dG_searchOnce_8 ?_
    obtain ⟨M_2, hc, hf⟩ := m_b1x hf
    refine m_cv (va_runV (As := []) (rest := []) ⟨hx, hb, hml, hown, hts⟩ (cS_useBands l D ad c3 M 24 isX_S_24 hc) (cwV 0 hts (gV k2_144 k2_145 k2_146 k1_3 kc_S_useBands) rfl rfl rfl (by decide +kernel) ⟨by decide, by decide⟩) (m_preV hK hN hZ (by decide) rfl rfl) rfl rfl hl.1 rfl (lv_room (Nat.le_of_ble_eq_true rfl)) dG_searchOnce_11 ⟨Nat.zero_le _, Nat.zero_le _⟩) hZ (fun H locs hZ => ?_)
    refine lv_aload_n hx hb dG_searchOnce_14 rfl (lv_at hl 0 rfl) ?_
    refine m_getR (k' := 24) hx hb hts in_G hown hK hZ (by decide) rfl rfl 1 (by decide) (hts _ k2_9) (fun _ h9 => h9) rfl dG_searchOnce_15 ?_
    obtain ⟨M_3, hc, hf⟩ := m_b1x hf
    refine m_cv (va_runV (As := []) (rest := []) ⟨hx, hb, hml, hown, hts⟩ (cS_lookAtAll l D ad c3 M_2 24 isX_S_24 hc) (cwV 0 hts (gV k2_148 k2_149 k2_150 k1_3 kc_S_lookAtAll) rfl rfl rfl (by decide +kernel) ⟨by decide, by decide⟩) (m_preV hK hN hZ (by decide) rfl rfl) rfl rfl hl.1 rfl (lv_room (Nat.le_of_ble_eq_true rfl)) dG_searchOnce_18 ⟨Nat.zero_le _, Nat.zero_le _⟩) hZ (fun H locs hZ => ?_)
    refine lv_aload_n hx hb dG_searchOnce_21 rfl (lv_at hl 0 rfl) ?_
    refine lv_iconst (v := 1) hx hb dG_searchOnce_22 (by decide) ?_
    obtain ⟨M_4, eM_4, hf⟩ := m_lx hf
    refine m_put (ty := .boolean) hx hb hts in_G ⟨ty_G_ok, nm_G_ok⟩ hown hK hZ (by decide) rfl rfl 7 (by decide) (hts _ k2_15) (fun _ h9 => h9) rfl (by decide +kernel) rfl rfl rfl dG_searchOnce_23 eM_4 (fun H locs hZ => ?_)
    exact hret _ _ _ _ _ hf hZ dG_searchOnce_26
