abbrev rmM_goThrough : Room := { frames := 4, cells := 0, slots := 0, locals := 103 }
set_option maxHeartbeats 4000000 in
set_option maxRecDepth 100000 in
theorem cM_goThrough (l : Launch) (D : va_G) (ad : Nat → Nat) (c3 : ClassId × ClassId × ClassId) (M : mMem) (x1 : Int32) (x2 : Int32) (x3 : Int32) (x4 : Int32)  {M' : mMem} (hf : fM_goThrough M x1 x2 x3 x4 = some M') : kVM l D ad c3 yM_goThrough wM_goThrough rmM_goThrough [.ref (ad 0), .int x1, .int x2, .int x3, .int x4] M M' := by
  refine m_oV (cc := bM_goThrough) (maxL := 8) (own := R_M) nestM (by decide) rfl (Nat.le_of_ble_eq_true rfl) rfl (fun p e s m args below meth c Q hx hb hml hown hts hK hN hret ls hZ hl => ?_)
  have hl : lv_has ls 8 [(0, .ref (ad 0)), (1, .int x1), (2, .int x2), (3, .int x3), (4, .int x4)] := hl
  unfold fM_goThrough at hf
  have L42 : ∀ (n42 : Nat) (M : mMem) (x5 : Int32), fM_goThrough_L42 x1 x2 x3 x4 n42 M x5 = some M' → ∀ (H : Heap) (locs : List Loc) (ls : Array Slot), zM D ad c3 s H locs M → lv_has ls 8 [(0, .ref (ad 0)), (1, .int x1), (2, .int x2), (3, .int x3), (4, .int x4), (5, .int x5)] → W p l e rmM_goThrough s m args below meth c H locs 0 0 Q (F0 m 42 ls []) := by
    intro n42
    induction n42 with
    | zero => intro M x5 hf; exact m_none hf
    | succ n42 ih42 =>
      intro M x5 hf H locs ls hZ hl
      rw [fM_goThrough_L42] at hf
      have B197 : ∀ (M : mMem) (x5 : Int32), fM_goThrough_B197 (fM_goThrough_L42 x1 x2 x3 x4 n42) M x5 = some M' → ∀ (H : Heap) (locs : List Loc) (ls : Array Slot), zM D ad c3 s H locs M → lv_has ls 8 [(0, .ref (ad 0)), (1, .int x1), (2, .int x2), (3, .int x3), (4, .int x4), (5, .int x5)] → W p l e rmM_goThrough s m args below meth c H locs 0 0 Q (F0 m 197 ls []) := by
        intro M x5 hf H locs ls hZ hl
        unfold fM_goThrough_B197 at hf
        refine lv_iload hx hb dM_goThrough_197 (lv_at hl 5 rfl) ?_
        refine lv_aload_n hx hb dM_goThrough_199 rfl (lv_at hl 0 rfl) ?_
        refine m_get hx hb hts in_M hown hK hZ (by decide) rfl rfl 12 (by decide) (hts _ k3_51) (fun _ h9 => h9) rfl dM_goThrough_200 ?_
        refine lv_iadd hx hb dM_goThrough_203 ?_
        obtain ⟨x5_8, ex5_8, hf⟩ := m_lx hf
        refine m_topi ex5_8 ?_
        refine lv_istore (lv' := [(5, .int x5_8), (0, .ref (ad 0)), (1, .int x1), (2, .int x2), (3, .int x3), (4, .int x4)]) hx hb dM_goThrough_204 hl (by decide) rfl (fun ls hl => ?_)
        refine lv_goto (tgt := 42) hx hb dM_goThrough_206 (by decide) ?_
        exact ih42 _ _ hf _ _ _ hZ (lv_sub hl [1, 2, 3, 4, 5, 0] rfl)
      have L60 : ∀ (x5 : Int32) (n60 : Nat) (M : mMem) (x6 : Int32), fM_goThrough_L60 (fM_goThrough_L42 x1 x2 x3 x4 n42) x1 x2 x3 x4 x5 n60 M x6 = some M' → ∀ (H : Heap) (locs : List Loc) (ls : Array Slot), zM D ad c3 s H locs M → lv_has ls 8 [(0, .ref (ad 0)), (1, .int x1), (2, .int x2), (3, .int x3), (4, .int x4), (5, .int x5), (6, .int x6)] → W p l e rmM_goThrough s m args below meth c H locs 0 0 Q (F0 m 60 ls []) := by
        intro x5 n60
        induction n60 with
        | zero => intro M x6 hf; exact m_none hf
        | succ n60 ih60 =>
          intro M x6 hf H locs ls hZ hl
          rw [fM_goThrough_L60] at hf
          have B185 : ∀ (M : mMem) (x6 : Int32), fM_goThrough_B185 (fM_goThrough_L60 (fM_goThrough_L42 x1 x2 x3 x4 n42) x1 x2 x3 x4 x5 n60) M x6 = some M' → ∀ (H : Heap) (locs : List Loc) (ls : Array Slot), zM D ad c3 s H locs M → lv_has ls 8 [(0, .ref (ad 0)), (1, .int x1), (2, .int x2), (3, .int x3), (4, .int x4), (5, .int x5), (6, .int x6)] → W p l e rmM_goThrough s m args below meth c H locs 0 0 Q (F0 m 185 ls []) := by
            intro M x6 hf H locs ls hZ hl
            unfold fM_goThrough_B185 at hf
            refine lv_iload hx hb dM_goThrough_185 (lv_at hl 6 rfl) ?_
            refine lv_aload_n hx hb dM_goThrough_187 rfl (lv_at hl 0 rfl) ?_
            refine m_get hx hb hts in_M hown hK hZ (by decide) rfl rfl 12 (by decide) (hts _ k3_51) (fun _ h9 => h9) rfl dM_goThrough_188 ?_
            refine lv_iadd hx hb dM_goThrough_191 ?_
            obtain ⟨x6_12, ex6_12, hf⟩ := m_lx hf
            refine m_topi ex6_12 ?_
            refine lv_istore (lv' := [(6, .int x6_12), (0, .ref (ad 0)), (1, .int x1), (2, .int x2), (3, .int x3), (4, .int x4), (5, .int x5)]) hx hb dM_goThrough_192 hl (by decide) rfl (fun ls hl => ?_)
            refine lv_goto (tgt := 60) hx hb dM_goThrough_194 (by decide) ?_
            exact ih60 _ _ hf _ _ _ hZ (lv_sub hl [1, 2, 3, 4, 5, 6, 0] rfl)
          have L94 : ∀ (x6 : Int32) (n94 : Nat) (M : mMem) (x7 : Int32), fM_goThrough_L94 (fM_goThrough_L60 (fM_goThrough_L42 x1 x2 x3 x4 n42) x1 x2 x3 x4 x5 n60) x1 x2 x3 x4 x5 x6 n94 M x7 = some M' → ∀ (H : Heap) (locs : List Loc) (ls : Array Slot), zM D ad c3 s H locs M → lv_has ls 8 [(0, .ref (ad 0)), (1, .int x1), (2, .int x2), (3, .int x3), (4, .int x4), (5, .int x5), (6, .int x6), (7, .int x7)] → W p l e rmM_goThrough s m args below meth c H locs 0 0 Q (F0 m 94 ls []) := by
            intro x6 n94
            induction n94 with
            | zero => intro M x7 hf; exact m_none hf
            | succ n94 ih94 =>
              intro M x7 hf H locs ls hZ hl
              rw [fM_goThrough_L94] at hf
              have B156 : ∀ (M : mMem) (x7 : Int32) (s2 : Int32), fM_goThrough_B156 (fM_goThrough_L94 (fM_goThrough_L60 (fM_goThrough_L42 x1 x2 x3 x4 n42) x1 x2 x3 x4 x5 n60) x1 x2 x3 x4 x5 x6 n94) x1 x2 x3 x4 M x7 s2 = some M' → ∀ (H : Heap) (locs : List Loc) (ls : Array Slot), zM D ad c3 s H locs M → lv_has ls 8 [(0, .ref (ad 0)), (1, .int x1), (2, .int x2), (3, .int x3), (4, .int x4), (5, .int x5), (6, .int x6), (7, .int x7)] → W p l e rmM_goThrough s m args below meth c H locs 0 0 Q (F0 m 156 ls [.int s2, .int 3, .ref (ad 14)]) := by
                intro M x7 s2 hf H locs ls hZ hl
                unfold fM_goThrough_B156 at hf
                obtain ⟨M_16, eM_16, hf⟩ := m_lx hf
                refine m_iast hx hb hK hZ (by decide) rfl (by decide) dM_goThrough_156 eM_16 (fun H locs hZ => ?_)
                refine lv_aload_n hx hb dM_goThrough_157 rfl (lv_at hl 0 rfl) ?_
                obtain ⟨r_17, hc, hf⟩ := m_b1x hf
                refine m_ci (va_runV (As := []) (rest := []) ⟨hx, hb, hml, hown, hts⟩ (cM_isMix l D ad c3 M_16 hc) (cwV 0 hts (gV k3_226 k3_228 kp_19 k1_8 kc_M_isMix) rfl rfl rfl (by decide +kernel) ⟨by decide, by decide⟩) (m_preV hK hN hZ (by decide) rfl rfl) rfl rfl hl.1 rfl (lv_room (Nat.le_of_ble_eq_true rfl)) dM_goThrough_158 ⟨Nat.zero_le _, Nat.zero_le _⟩) hZ (fun H locs hZ => ?_)
                refine lv_if_eq (tgt := 173) hx hb dM_goThrough_161 (by decide) (fun c_18 => ?_) (fun c_18 => ?_)
                · have hf := m_t hf c_18
                  refine lv_iload hx hb dM_goThrough_173 (lv_at hl 7 rfl) ?_
                  refine lv_aload_n hx hb dM_goThrough_175 rfl (lv_at hl 0 rfl) ?_
                  refine m_get hx hb hts in_M hown hK hZ (by decide) rfl rfl 12 (by decide) (hts _ k3_51) (fun _ h9 => h9) rfl dM_goThrough_176 ?_
                  refine lv_iadd hx hb dM_goThrough_179 ?_
                  obtain ⟨x7_19, ex7_19, hf⟩ := m_lx hf
                  refine m_topi ex7_19 ?_
                  refine lv_istore (lv' := [(7, .int x7_19), (0, .ref (ad 0)), (1, .int x1), (2, .int x2), (3, .int x3), (4, .int x4), (5, .int x5), (6, .int x6)]) hx hb dM_goThrough_180 hl (by decide) rfl (fun ls hl => ?_)
                  refine lv_goto (tgt := 94) hx hb dM_goThrough_182 (by decide) ?_
                  exact ih94 _ _ hf _ _ _ hZ (lv_sub hl [1, 2, 3, 4, 5, 6, 7, 0] rfl)
                · have hf := m_f hf c_18
                  refine lv_aload_n hx hb dM_goThrough_164 rfl (lv_at hl 0 rfl) ?_
                  refine lv_iload_n hx hb dM_goThrough_165 rfl (lv_at hl 1 rfl) ?_
                  refine lv_iload_n hx hb dM_goThrough_166 rfl (lv_at hl 2 rfl) ?_
                  refine lv_iload_n hx hb dM_goThrough_167 rfl (lv_at hl 3 rfl) ?_
                  refine lv_iload hx hb dM_goThrough_168 (lv_at hl 4 rfl) ?_
                  obtain ⟨M_20, hc, hf⟩ := m_b1x hf
                  refine m_cv (va_runV (As := [.int x1, .int x2, .int x3, .int x4]) (rest := []) ⟨hx, hb, hml, hown, hts⟩ (cM_look l D ad c3 M_16 x1 x2 x3 x4 hc) (cwV 4 hts (gV k3_230 k3_232 kp_20 k1_8 kc_M_look) rfl rfl rfl (by decide +kernel) ⟨by decide, by decide⟩) (m_preV hK hN hZ (by decide) rfl rfl) rfl rfl hl.1 rfl (lv_room (Nat.le_of_ble_eq_true rfl)) dM_goThrough_170 ⟨Nat.zero_le _, Nat.zero_le _⟩) hZ (fun H locs hZ => ?_)
                  refine lv_iload hx hb dM_goThrough_173 (lv_at hl 7 rfl) ?_
                  refine lv_aload_n hx hb dM_goThrough_175 rfl (lv_at hl 0 rfl) ?_
                  refine m_get hx hb hts in_M hown hK hZ (by decide) rfl rfl 12 (by decide) (hts _ k3_51) (fun _ h9 => h9) rfl dM_goThrough_176 ?_
                  refine lv_iadd hx hb dM_goThrough_179 ?_
                  obtain ⟨x7_21, ex7_21, hf⟩ := m_lx hf
                  refine m_topi ex7_21 ?_
                  refine lv_istore (lv' := [(7, .int x7_21), (0, .ref (ad 0)), (1, .int x1), (2, .int x2), (3, .int x3), (4, .int x4), (5, .int x5), (6, .int x6)]) hx hb dM_goThrough_180 hl (by decide) rfl (fun ls hl => ?_)
                  refine lv_goto (tgt := 94) hx hb dM_goThrough_182 (by decide) ?_
                  exact ih94 _ _ hf _ _ _ hZ (lv_sub hl [1, 2, 3, 4, 5, 6, 7, 0] rfl)
              have B120 : ∀ (M : mMem) (x7 : Int32), fM_goThrough_B120 (fM_goThrough_L94 (fM_goThrough_L60 (fM_goThrough_L42 x1 x2 x3 x4 n42) x1 x2 x3 x4 x5 n60) x1 x2 x3 x4 x5 x6 n94) x1 x2 x3 x4 x5 x6 M x7 = some M' → ∀ (H : Heap) (locs : List Loc) (ls : Array Slot), zM D ad c3 s H locs M → lv_has ls 8 [(0, .ref (ad 0)), (1, .int x1), (2, .int x2), (3, .int x3), (4, .int x4), (5, .int x5), (6, .int x6), (7, .int x7)] → W p l e rmM_goThrough s m args below meth c H locs 0 0 Q (F0 m 120 ls []) := by
                intro M x7 hf H locs ls hZ hl
                unfold fM_goThrough_B120 at hf
                refine lv_aload_n hx hb dM_goThrough_120 rfl (lv_at hl 0 rfl) ?_
                refine m_getR (k' := 14) hx hb hts in_M hown hK hZ (by decide) rfl rfl 20 (by decide) (hts _ k3_59) (fun _ h9 => h9) rfl dM_goThrough_121 ?_
                refine lv_iconst (v := 2) hx hb dM_goThrough_124 (by decide) ?_
                refine lv_iload hx hb dM_goThrough_125 (lv_at hl 7 rfl) ?_
                obtain ⟨M_14, eM_14, hf⟩ := m_lx hf
                refine m_iast hx hb hK hZ (by decide) rfl (by decide) dM_goThrough_127 eM_14 (fun H locs hZ => ?_)
                refine lv_aload_n hx hb dM_goThrough_128 rfl (lv_at hl 0 rfl) ?_
                refine m_getR (k' := 14) hx hb hts in_M hown hK hZ (by decide) rfl rfl 20 (by decide) (hts _ k3_59) (fun _ h9 => h9) rfl dM_goThrough_129 ?_
                refine lv_iconst (v := 3) hx hb dM_goThrough_132 (by decide) ?_
                refine lv_aload_n hx hb dM_goThrough_133 rfl (lv_at hl 0 rfl) ?_
                refine m_get hx hb hts in_M hown hK hZ (by decide) rfl rfl 3 (by decide) (hts _ k3_42) (fun _ h9 => h9) rfl dM_goThrough_134 ?_
                refine lv_iconst (v := 3) hx hb dM_goThrough_137 (by decide) ?_
                refine lv_icmp_le (tgt := 155) hx hb dM_goThrough_138 (by decide) (fun c_15 => ?_) (fun c_15 => ?_)
                · have hf := m_t hf c_15
                  refine lv_iconst (v := 0) hx hb dM_goThrough_155 (by decide) ?_
                  exact B156 M_14 x7 0 hf _ _ _ hZ (lv_sub hl [0, 1, 2, 3, 4, 5, 6, 7] rfl)
                · have hf := m_f hf c_15
                  refine lv_bipush (v := 100) hx hb dM_goThrough_141 (by decide) ?_
                  refine lv_iload hx hb dM_goThrough_143 (lv_at hl 5 rfl) ?_
                  refine lv_isub hx hb dM_goThrough_145 ?_
                  refine lv_iload hx hb dM_goThrough_146 (lv_at hl 6 rfl) ?_
                  refine lv_isub hx hb dM_goThrough_148 ?_
                  refine lv_iload hx hb dM_goThrough_149 (lv_at hl 7 rfl) ?_
                  refine lv_isub hx hb dM_goThrough_151 ?_
                  refine lv_goto (tgt := 156) hx hb dM_goThrough_152 (by decide) ?_
                  exact B156 M_14 x7 (((100 - x5) - x6) - x7) hf _ _ _ hZ (lv_sub hl [0, 1, 2, 3, 4, 5, 6, 7] rfl)
              refine lv_iload hx hb dM_goThrough_94 (lv_at hl 5 rfl) ?_
              refine lv_iload hx hb dM_goThrough_96 (lv_at hl 6 rfl) ?_
              refine lv_iadd hx hb dM_goThrough_98 ?_
              refine lv_iload hx hb dM_goThrough_99 (lv_at hl 7 rfl) ?_
              refine lv_iadd hx hb dM_goThrough_101 ?_
              refine lv_bipush (v := 100) hx hb dM_goThrough_102 (by decide) ?_
              refine lv_icmp_gt (tgt := 185) hx hb dM_goThrough_104 (by decide) (fun c_11 => ?_) (fun c_11 => ?_)
              · have hf := m_t hf c_11
                exact B185 M x6 hf _ _ _ hZ (lv_sub hl [0, 1, 2, 3, 4, 5, 6] rfl)
              · have hf := m_f hf c_11
                refine lv_iload hx hb dM_goThrough_107 (lv_at hl 7 rfl) ?_
                refine lv_if_eq (tgt := 120) hx hb dM_goThrough_109 (by decide) (fun c_13 => ?_) (fun c_13 => ?_)
                · have hf := m_t hf c_13
                  exact B120 M x7 hf _ _ _ hZ (lv_sub hl [0, 1, 2, 3, 4, 5, 6, 7] rfl)
                · have hf := m_f hf c_13
                  refine lv_aload_n hx hb dM_goThrough_112 rfl (lv_at hl 0 rfl) ?_
                  refine m_get hx hb hts in_M hown hK hZ (by decide) rfl rfl 3 (by decide) (hts _ k3_42) (fun _ h9 => h9) rfl dM_goThrough_113 ?_
                  refine lv_iconst (v := 2) hx hb dM_goThrough_116 (by decide) ?_
                  refine lv_icmp_le (tgt := 185) hx hb dM_goThrough_117 (by decide) (fun c_22 => ?_) (fun c_22 => ?_)
                  · have hf := m_t hf c_22
                    exact B185 M x6 hf _ _ _ hZ (lv_sub hl [0, 1, 2, 3, 4, 5, 6] rfl)
                  · have hf := m_f hf c_22
                    exact B120 M x7 hf _ _ _ hZ (lv_sub hl [0, 1, 2, 3, 4, 5, 6, 7] rfl)
          refine lv_iload hx hb dM_goThrough_60 (lv_at hl 5 rfl) ?_
          refine lv_iload hx hb dM_goThrough_62 (lv_at hl 6 rfl) ?_
          refine lv_iadd hx hb dM_goThrough_64 ?_
          refine lv_bipush (v := 100) hx hb dM_goThrough_65 (by decide) ?_
          refine lv_icmp_gt (tgt := 197) hx hb dM_goThrough_67 (by decide) (fun c_7 => ?_) (fun c_7 => ?_)
          · have hf := m_t hf c_7
            exact B197 M x5 hf _ _ _ hZ (lv_sub hl [0, 1, 2, 3, 4, 5] rfl)
          · have hf := m_f hf c_7
            refine lv_iload hx hb dM_goThrough_70 (lv_at hl 6 rfl) ?_
            refine lv_if_eq (tgt := 83) hx hb dM_goThrough_72 (by decide) (fun c_9 => ?_) (fun c_9 => ?_)
            · have hf := m_t hf c_9
              refine lv_aload_n hx hb dM_goThrough_83 rfl (lv_at hl 0 rfl) ?_
              refine m_getR (k' := 14) hx hb hts in_M hown hK hZ (by decide) rfl rfl 20 (by decide) (hts _ k3_59) (fun _ h9 => h9) rfl dM_goThrough_84 ?_
              refine lv_iconst (v := 1) hx hb dM_goThrough_87 (by decide) ?_
              refine lv_iload hx hb dM_goThrough_88 (lv_at hl 6 rfl) ?_
              obtain ⟨M_10, eM_10, hf⟩ := m_lx hf
              refine m_iast hx hb hK hZ (by decide) rfl (by decide) dM_goThrough_90 eM_10 (fun H locs hZ => ?_)
              refine lv_iconst (v := 0) hx hb dM_goThrough_91 (by decide) ?_
              refine lv_istore (lv' := [(7, .int 0), (0, .ref (ad 0)), (1, .int x1), (2, .int x2), (3, .int x3), (4, .int x4), (5, .int x5), (6, .int x6)]) hx hb dM_goThrough_92 hl (by decide) rfl (fun ls hl => ?_)
              exact L94 x6 128 M_10 0 hf _ _ _ hZ (lv_sub hl [1, 2, 3, 4, 5, 6, 7, 0] rfl)
            · have hf := m_f hf c_9
              refine lv_aload_n hx hb dM_goThrough_75 rfl (lv_at hl 0 rfl) ?_
              refine m_get hx hb hts in_M hown hK hZ (by decide) rfl rfl 3 (by decide) (hts _ k3_42) (fun _ h9 => h9) rfl dM_goThrough_76 ?_
              refine lv_iconst (v := 1) hx hb dM_goThrough_79 (by decide) ?_
              refine lv_icmp_le (tgt := 197) hx hb dM_goThrough_80 (by decide) (fun c_23 => ?_) (fun c_23 => ?_)
              · have hf := m_t hf c_23
                exact B197 M x5 hf _ _ _ hZ (lv_sub hl [0, 1, 2, 3, 4, 5] rfl)
              · have hf := m_f hf c_23
                refine lv_aload_n hx hb dM_goThrough_83 rfl (lv_at hl 0 rfl) ?_
                refine m_getR (k' := 14) hx hb hts in_M hown hK hZ (by decide) rfl rfl 20 (by decide) (hts _ k3_59) (fun _ h9 => h9) rfl dM_goThrough_84 ?_
                refine lv_iconst (v := 1) hx hb dM_goThrough_87 (by decide) ?_
                refine lv_iload hx hb dM_goThrough_88 (lv_at hl 6 rfl) ?_
                obtain ⟨M_24, eM_24, hf⟩ := m_lx hf
                refine m_iast hx hb hK hZ (by decide) rfl (by decide) dM_goThrough_90 eM_24 (fun H locs hZ => ?_)
                refine lv_iconst (v := 0) hx hb dM_goThrough_91 (by decide) ?_
                refine lv_istore (lv' := [(7, .int 0), (0, .ref (ad 0)), (1, .int x1), (2, .int x2), (3, .int x3), (4, .int x4), (5, .int x5), (6, .int x6)]) hx hb dM_goThrough_92 hl (by decide) rfl (fun ls hl => ?_)
                exact L94 x6 128 M_24 0 hf _ _ _ hZ (lv_sub hl [1, 2, 3, 4, 5, 6, 7, 0] rfl)
      refine lv_iload hx hb dM_goThrough_42 (lv_at hl 5 rfl) ?_
      refine lv_bipush (v := 100) hx hb dM_goThrough_44 (by decide) ?_
      refine lv_icmp_gt (tgt := 209) hx hb dM_goThrough_46 (by decide) (fun c_5 => ?_) (fun c_5 => ?_)
      · have hf := m_t hf c_5
        exact hret _ _ _ _ _ hf hZ dM_goThrough_209
      · have hf := m_f hf c_5
        refine lv_aload_n hx hb dM_goThrough_49 rfl (lv_at hl 0 rfl) ?_
        refine m_getR (k' := 14) hx hb hts in_M hown hK hZ (by decide) rfl rfl 20 (by decide) (hts _ k3_59) (fun _ h9 => h9) rfl dM_goThrough_50 ?_
        refine lv_iconst (v := 0) hx hb dM_goThrough_53 (by decide) ?_
        refine lv_iload hx hb dM_goThrough_54 (lv_at hl 5 rfl) ?_
        obtain ⟨M_6, eM_6, hf⟩ := m_lx hf
        refine m_iast hx hb hK hZ (by decide) rfl (by decide) dM_goThrough_56 eM_6 (fun H locs hZ => ?_)
        refine lv_iconst (v := 0) hx hb dM_goThrough_57 (by decide) ?_
        refine lv_istore (lv' := [(6, .int 0), (0, .ref (ad 0)), (1, .int x1), (2, .int x2), (3, .int x3), (4, .int x4), (5, .int x5)]) hx hb dM_goThrough_58 hl (by decide) rfl (fun ls hl => ?_)
        exact L60 x5 128 M_6 0 hf _ _ _ hZ (lv_sub hl [1, 2, 3, 4, 5, 6, 0] rfl)
  have L18 : ∀ (n18 : Nat) (M : mMem) (x5 : Int32), fM_goThrough_L18 x1 x2 x3 x4 n18 M x5 = some M' → ∀ (H : Heap) (locs : List Loc) (ls : Array Slot), zM D ad c3 s H locs M → lv_has ls 8 [(0, .ref (ad 0)), (1, .int x1), (2, .int x2), (3, .int x3), (4, .int x4), (5, .int x5)] → W p l e rmM_goThrough s m args below meth c H locs 0 0 Q (F0 m 18 ls []) := by
    intro n18
    induction n18 with
    | zero => intro M x5 hf; exact m_none hf
    | succ n18 ih18 =>
      intro M x5 hf H locs ls hZ hl
      rw [fM_goThrough_L18] at hf
      refine lv_iload hx hb dM_goThrough_18 (lv_at hl 5 rfl) ?_
      refine lv_bipush (v := 6) hx hb dM_goThrough_20 (by decide) ?_
      refine lv_icmp_ge (tgt := 39) hx hb dM_goThrough_22 (by decide) (fun c_4 => ?_) (fun c_4 => ?_)
      · have hf := m_t hf c_4
        refine lv_iconst (v := 0) hx hb dM_goThrough_39 (by decide) ?_
        refine lv_istore (lv' := [(5, .int 0), (0, .ref (ad 0)), (1, .int x1), (2, .int x2), (3, .int x3), (4, .int x4)]) hx hb dM_goThrough_40 hl (by decide) rfl (fun ls hl => ?_)
        exact L42 128 M 0 hf _ _ _ hZ (lv_sub hl [1, 2, 3, 4, 5, 0] rfl)
      · have hf := m_f hf c_4
        refine lv_aload_n hx hb dM_goThrough_25 rfl (lv_at hl 0 rfl) ?_
        refine m_getR (k' := 16) hx hb hts in_M hown hK hZ (by decide) rfl rfl 27 (by decide) (hts _ k3_66) (fun _ h9 => h9) rfl dM_goThrough_26 ?_
        refine lv_iload hx hb dM_goThrough_29 (lv_at hl 5 rfl) ?_
        refine lv_iconst (v := 0) hx hb dM_goThrough_31 (by decide) ?_
        obtain ⟨h_25, hf⟩ := m_gx hf
        obtain ⟨M_26, eM_26, hf⟩ := m_lx hf
        refine m_zast hx hb hK hZ (by decide) rfl h_25 dM_goThrough_32 eM_26 (by decide) (fun H locs hZ => ?_)
        obtain ⟨x5_27, ex5_27, hf⟩ := m_lx hf
        refine lv_iinc (v := x5_27) (lv' := [(5, .int x5_27), (0, .ref (ad 0)), (1, .int x1), (2, .int x2), (3, .int x3), (4, .int x4)]) hx hb dM_goThrough_33 hl (k := 5) rfl (by rw [ex5_27]; rfl) (by decide) rfl (fun ls hl => ?_)
        refine lv_goto (tgt := 18) hx hb dM_goThrough_36 (by decide) ?_
        exact ih18 _ _ hf _ _ _ hZ (lv_sub hl [1, 2, 3, 4, 5, 0] rfl)
  refine lv_aload_n hx hb dM_goThrough_0 rfl (lv_at hl 0 rfl) ?_
  refine lv_iconst (v := 0) hx hb dM_goThrough_1 (by decide) ?_
  obtain ⟨M_1, eM_1, hf⟩ := m_lx hf
  refine m_put (ty := .boolean) hx hb hts in_M ⟨ty_M_ok, nm_M_ok⟩ hown hK hZ (by decide) rfl rfl 22 (by decide) (hts _ k3_61) (fun _ h9 => h9) rfl (by decide +kernel) rfl rfl rfl dM_goThrough_2 eM_1 (fun H locs hZ => ?_)
  refine lv_aload_n hx hb dM_goThrough_5 rfl (lv_at hl 0 rfl) ?_
  refine lv_iconst (v := 0) hx hb dM_goThrough_6 (by decide) ?_
  obtain ⟨M_2, eM_2, hf⟩ := m_lx hf
  refine m_put (ty := .int) hx hb hts in_M ⟨ty_M_ok, nm_M_ok⟩ hown hK hZ (by decide) rfl rfl 25 (by decide) (hts _ k3_64) (fun _ h9 => h9) rfl (by decide +kernel) rfl rfl rfl dM_goThrough_7 eM_2 (fun H locs hZ => ?_)
  refine lv_aload_n hx hb dM_goThrough_10 rfl (lv_at hl 0 rfl) ?_
  refine lv_iconst (v := 0) hx hb dM_goThrough_11 (by decide) ?_
  obtain ⟨M_3, eM_3, hf⟩ := m_lx hf
  refine m_put (ty := .int) hx hb hts in_M ⟨ty_M_ok, nm_M_ok⟩ hown hK hZ (by decide) rfl rfl 26 (by decide) (hts _ k3_65) (fun _ h9 => h9) rfl (by decide +kernel) rfl rfl rfl dM_goThrough_12 eM_3 (fun H locs hZ => ?_)
  refine lv_iconst (v := 0) hx hb dM_goThrough_15 (by decide) ?_
  refine lv_istore (lv' := [(5, .int 0), (0, .ref (ad 0)), (1, .int x1), (2, .int x2), (3, .int x3), (4, .int x4)]) hx hb dM_goThrough_16 hl (by decide) rfl (fun ls hl => ?_)
  exact L18 128 M_3 0 hf _ _ _ hZ (lv_sub hl [1, 2, 3, 4, 5, 0] rfl)
abbrev rmM_take : Room := { frames := 0, cells := 0, slots := 0, locals := 0 }
set_option maxHeartbeats 4000000 in
set_option maxRecDepth 100000 in
theorem cM_take (l : Launch) (D : va_G) (ad : Nat → Nat) (c3 : ClassId × ClassId × ClassId) (M : mMem)   {M' : mMem} (hf : fM_take M  = some M') : kVM l D ad c3 yM_take wM_take rmM_take [.ref (ad 0)] M M' := by
  refine m_oV (cc := bM_take) (maxL := 2) (own := R_M) nestM (by decide) rfl (Nat.le_of_ble_eq_true rfl) rfl (fun p e s m args below meth c Q hx hb hml hown hts hK hN hret ls hZ hl => ?_)
  have hl : lv_has ls 2 [(0, .ref (ad 0))] := hl
  unfold fM_take at hf
  have B25 : ∀ (M : mMem), fM_take_B25 M = some M' → ∀ (H : Heap) (locs : List Loc) (ls : Array Slot), zM D ad c3 s H locs M → lv_has ls 2 [(0, .ref (ad 0))] → W p l e rmM_take s m args below meth c H locs 0 0 Q (F0 m 25 ls []) := by
    intro M hf H locs ls hZ hl
    unfold fM_take_B25 at hf
    refine lv_aload_n hx hb dM_take_25 rfl (lv_at hl 0 rfl) ?_
    refine lv_iconst (v := 1) hx hb dM_take_26 (by decide) ?_
    obtain ⟨M_2, eM_2, hf⟩ := m_lx hf
    refine m_put (ty := .boolean) hx hb hts in_M ⟨ty_M_ok, nm_M_ok⟩ hown hK hZ (by decide) rfl rfl 18 (by decide) (hts _ k3_57) (fun _ h9 => h9) rfl (by decide +kernel) rfl rfl rfl dM_take_27 eM_2 (fun H locs hZ => ?_)
    refine lv_aload_n hx hb dM_take_30 rfl (lv_at hl 0 rfl) ?_
    refine lv_iconst (v := 0) hx hb dM_take_31 (by decide) ?_
    obtain ⟨M_3, eM_3, hf⟩ := m_lx hf
    refine m_put (ty := .boolean) hx hb hts in_M ⟨ty_M_ok, nm_M_ok⟩ hown hK hZ (by decide) rfl rfl 28 (by decide) (hts _ k3_67) (fun _ h9 => h9) rfl (by decide +kernel) rfl rfl rfl dM_take_32 eM_3 (fun H locs hZ => ?_)
    exact hret _ _ _ _ _ hf hZ dM_take_35
  have L2 : ∀ (n2 : Nat) (M : mMem) (x1 : Int32), fM_take_L2 n2 M x1 = some M' → ∀ (H : Heap) (locs : List Loc) (ls : Array Slot), zM D ad c3 s H locs M → lv_has ls 2 [(0, .ref (ad 0)), (1, .int x1)] → W p l e rmM_take s m args below meth c H locs 0 0 Q (F0 m 2 ls []) := by
    intro n2
    induction n2 with
    | zero => intro M x1 hf; exact m_none hf
    | succ n2 ih2 =>
      intro M x1 hf H locs ls hZ hl
      rw [fM_take_L2] at hf
      refine lv_iload_n hx hb dM_take_2 rfl (lv_at hl 1 rfl) ?_
      refine lv_iconst (v := 4) hx hb dM_take_3 (by decide) ?_
      refine lv_icmp_ge (tgt := 25) hx hb dM_take_4 (by decide) (fun c_1 => ?_) (fun c_1 => ?_)
      · have hf := m_t hf c_1
        exact B25 M hf _ _ _ hZ (lv_sub hl [0] rfl)
      · have hf := m_f hf c_1
        refine lv_aload_n hx hb dM_take_7 rfl (lv_at hl 0 rfl) ?_
        refine m_getR (k' := 13) hx hb hts in_M hown hK hZ (by decide) rfl rfl 19 (by decide) (hts _ k3_58) (fun _ h9 => h9) rfl dM_take_8 ?_
        refine lv_iload_n hx hb dM_take_11 rfl (lv_at hl 1 rfl) ?_
        refine lv_aload_n hx hb dM_take_12 rfl (lv_at hl 0 rfl) ?_
        refine m_getR (k' := 15) hx hb hts in_M hown hK hZ (by decide) rfl rfl 21 (by decide) (hts _ k3_60) (fun _ h9 => h9) rfl dM_take_13 ?_
        refine lv_iload_n hx hb dM_take_16 rfl (lv_at hl 1 rfl) ?_
        obtain ⟨h_4, hf⟩ := m_gx hf
        refine m_iald hx hb hK hZ (by decide) rfl h_4 dM_take_17 ?_
        obtain ⟨M_5, eM_5, hf⟩ := m_lx hf
        refine m_iast hx hb hK hZ (by decide) rfl h_4 dM_take_18 eM_5 (fun H locs hZ => ?_)
        obtain ⟨x1_6, ex1_6, hf⟩ := m_lx hf
        refine lv_iinc (v := x1_6) (lv' := [(1, .int x1_6), (0, .ref (ad 0))]) hx hb dM_take_19 hl (k := 1) rfl (by rw [ex1_6]; rfl) (by decide) rfl (fun ls hl => ?_)
        refine lv_goto (tgt := 2) hx hb dM_take_22 (by decide) ?_
        exact ih2 _ _ hf _ _ _ hZ (lv_sub hl [1, 0] rfl)
  refine lv_iconst (v := 0) hx hb dM_take_0 (by decide) ?_
  refine lv_istore_n (lv' := [(1, .int 0), (0, .ref (ad 0))]) hx hb dM_take_1 rfl hl (by decide) rfl (fun ls hl => ?_)
  exact L2 128 M 0 hf _ _ _ hZ (lv_sub hl [1, 0] rfl)
abbrev rmM_run : Room := { frames := 5, cells := 0, slots := 0, locals := 130 }
set_option maxHeartbeats 4000000 in
set_option maxRecDepth 100000 in
theorem cM_run (l : Launch) (D : va_G) (ad : Nat → Nat) (c3 : ClassId × ClassId × ClassId) (M : mMem)   {r : Int32} {M' : mMem} (hf : fM_run M  = some (r, M')) : kIM l D ad c3 yM_run wM_run rmM_run [.ref (ad 0)] M r M' := by
  refine m_oI (cc := bM_run) (maxL := 1) (ty := .int) (own := R_M) nestM (by decide) rfl (Nat.le_of_ble_eq_true rfl) rfl (fun p e s m args below meth c Q hx hb hml hown hts hK hN hret ls hZ hl => ?_)
  have hl : lv_has ls 1 [(0, .ref (ad 0))] := hl
  unfold fM_run at hf
  refine lv_aload_n hx hb dM_run_0 rfl (lv_at hl 0 rfl) ?_
  refine lv_iconst (v := 0) hx hb dM_run_1 (by decide) ?_
  refine lv_iconst (v := (-1)) hx hb dM_run_2 (by decide) ?_
  refine lv_iconst (v := 0) hx hb dM_run_3 (by decide) ?_
  refine lv_iconst (v := 0) hx hb dM_run_4 (by decide) ?_
  obtain ⟨M_1, hc, hf⟩ := m_b1x hf
  refine m_cv (va_runV (As := [.int 0, .int (-1), .int 0, .int 0]) (rest := []) ⟨hx, hb, hml, hown, hts⟩ (cM_goThrough l D ad c3 M 0 (-1) 0 0 hc) (cwV 4 hts (gV k3_222 k3_224 kp_18 k1_8 kc_M_goThrough) rfl rfl rfl (by decide +kernel) ⟨by decide, by decide⟩) (m_preV hK hN hZ (by decide) rfl rfl) rfl rfl hl.1 rfl (lv_room (Nat.le_of_ble_eq_true rfl)) dM_run_5 ⟨Nat.zero_le _, Nat.zero_le _⟩) hZ (fun H locs hZ => ?_)
  refine lv_aload_n hx hb dM_run_8 rfl (lv_at hl 0 rfl) ?_
  refine m_get hx hb hts in_M hown hK hZ (by decide) rfl rfl 22 (by decide) (hts _ k3_61) (fun _ h9 => h9) rfl dM_run_9 ?_
  refine lv_if_ne (tgt := 17) hx hb dM_run_12 (by decide) (fun c_2 => ?_) (fun c_2 => ?_)
  · have hf := m_f hf c_2
    refine lv_aload_n hx hb dM_run_17 rfl (lv_at hl 0 rfl) ?_
    obtain ⟨M_3, hc, hf⟩ := m_b1x hf
    refine m_cv (va_runV (As := []) (rest := []) ⟨hx, hb, hml, hown, hts⟩ (cM_take l D ad c3 M_1 hc) (cwV 0 hts (gV k4_14 k4_16 kp_26 k1_8 kc_M_take) rfl rfl rfl (by decide +kernel) ⟨by decide, by decide⟩) (m_preV hK hN hZ (by decide) rfl rfl) rfl rfl hl.1 rfl (lv_room (Nat.le_of_ble_eq_true rfl)) dM_run_18 ⟨Nat.zero_le _, Nat.zero_le _⟩) hZ (fun H locs hZ => ?_)
    refine lv_aload_n hx hb dM_run_21 rfl (lv_at hl 0 rfl) ?_
    refine m_get hx hb hts in_M hown hK hZ (by decide) rfl rfl 24 (by decide) (hts _ k3_63) (fun _ h9 => h9) rfl dM_run_22 ?_
    exact hret _ _ _ _ _ _ hf rfl hZ dM_run_25
  · have hf := m_t hf c_2
    refine lv_iconst (v := (-1)) hx hb dM_run_15 (by decide) ?_
    exact hret _ _ _ _ _ _ hf rfl hZ dM_run_16
