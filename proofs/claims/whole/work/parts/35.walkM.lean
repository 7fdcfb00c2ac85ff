abbrev rmM_look : Room := { frames := 3, cells := 0, slots := 0, locals := 75 }
set_option maxHeartbeats 4000000 in
set_option maxRecDepth 100000 in
theorem cM_look (l : Launch) (D : va_G) (ad : Nat → Nat) (c3 : ClassId × ClassId × ClassId) (M : mMem) (x1 : Int32) (x2 : Int32) (x3 : Int32) (x4 : Int32)  {M' : mMem} (hf : fM_look M x1 x2 x3 x4 = some M') : kVM l D ad c3 yM_look wM_look rmM_look [.ref (ad 0), .int x1, .int x2, .int x3, .int x4] M M' := by
  refine m_oV (cc := bM_look) (maxL := 9) (own := R_M) nestM (by decide) rfl (Nat.le_of_ble_eq_true rfl) rfl (fun p e s m args below meth c Q hx hb hml hown hts hK hN hret ls hZ hl => ?_)
  have hl : lv_has ls 9 [(0, .ref (ad 0)), (1, .int x1), (2, .int x2), (3, .int x3), (4, .int x4)] := hl
  unfold fM_look at hf
  have L223 : ∀ (n223 : Nat) (M : mMem) (x8 : Int32), fM_look_L223 n223 M x8 = some M' → ∀ (H : Heap) (locs : List Loc) (ls : Array Slot), zM D ad c3 s H locs M → lv_has ls 9 [(0, .ref (ad 0)), (8, .int x8)] → W p l e rmM_look s m args below meth c H locs 0 0 Q (F0 m 223 ls []) := by
    intro n223
    induction n223 with
    | zero => intro M x8 hf; exact m_none hf
    | succ n223 ih223 =>
      intro M x8 hf H locs ls hZ hl
      rw [fM_look_L223] at hf
      refine lv_iload hx hb dM_look_223 (lv_at hl 1 rfl) ?_
      refine lv_iconst (v := 4) hx hb dM_look_225 (by decide) ?_
      refine lv_icmp_ge (tgt := 249) hx hb dM_look_226 (by decide) (fun c_13 => ?_) (fun c_13 => ?_)
      · have hf := m_t hf c_13
        exact hret _ _ _ _ _ hf hZ dM_look_249
      · have hf := m_f hf c_13
        refine lv_aload_n hx hb dM_look_229 rfl (lv_at hl 0 rfl) ?_
        refine m_getR (k' := 15) hx hb hts in_M hown hK hZ (by decide) rfl rfl 21 (by decide) (hts _ k3_60) (fun _ h9 => h9) rfl dM_look_230 ?_
        refine lv_iload hx hb dM_look_233 (lv_at hl 1 rfl) ?_
        refine lv_aload_n hx hb dM_look_235 rfl (lv_at hl 0 rfl) ?_
        refine m_getR (k' := 14) hx hb hts in_M hown hK hZ (by decide) rfl rfl 20 (by decide) (hts _ k3_59) (fun _ h9 => h9) rfl dM_look_236 ?_
        refine lv_iload hx hb dM_look_239 (lv_at hl 1 rfl) ?_
        obtain ⟨h_14, hf⟩ := m_gx hf
        refine m_iald hx hb hK hZ (by decide) rfl h_14 dM_look_241 ?_
        obtain ⟨M_15, eM_15, hf⟩ := m_lx hf
        refine m_iast hx hb hK hZ (by decide) rfl h_14 dM_look_242 eM_15 (fun H locs hZ => ?_)
        obtain ⟨x8_16, ex8_16, hf⟩ := m_lx hf
        refine lv_iinc (v := x8_16) (lv' := [(8, .int x8_16), (0, .ref (ad 0))]) hx hb dM_look_243 hl (k := 1) rfl (by rw [ex8_16]; rfl) (by decide) rfl (fun ls hl => ?_)
        refine lv_goto (tgt := 223) hx hb dM_look_246 (by decide) ?_
        exact ih223 _ _ hf _ _ _ hZ (lv_sub hl [1, 0] rfl)
  have B198 : ∀ (M : mMem) (x5 : Int32) (x6 : Int32) (x7 : Int32), fM_look_B198 M x5 x6 x7 = some M' → ∀ (H : Heap) (locs : List Loc) (ls : Array Slot), zM D ad c3 s H locs M → lv_has ls 9 [(0, .ref (ad 0)), (5, .int x5), (6, .int x6), (7, .int x7)] → W p l e rmM_look s m args below meth c H locs 0 0 Q (F0 m 198 ls []) := by
    intro M x5 x6 x7 hf H locs ls hZ hl
    unfold fM_look_B198 at hf
    refine lv_iload hx hb dM_look_198 (lv_at hl 3 rfl) ?_
    refine lv_if_eq (tgt := 249) hx hb dM_look_200 (by decide) (fun c_9 => ?_) (fun c_9 => ?_)
    · have hf := m_t hf c_9
      exact hret _ _ _ _ _ hf hZ dM_look_249
    · have hf := m_f hf c_9
      refine lv_aload_n hx hb dM_look_203 rfl (lv_at hl 0 rfl) ?_
      refine lv_iconst (v := 1) hx hb dM_look_204 (by decide) ?_
      obtain ⟨M_10, eM_10, hf⟩ := m_lx hf
      refine m_put (ty := .boolean) hx hb hts in_M ⟨ty_M_ok, nm_M_ok⟩ hown hK hZ (by decide) rfl rfl 22 (by decide) (hts _ k3_61) (fun _ h9 => h9) rfl (by decide +kernel) rfl rfl rfl dM_look_205 eM_10 (fun H locs hZ => ?_)
      refine lv_aload_n hx hb dM_look_208 rfl (lv_at hl 0 rfl) ?_
      refine lv_iload hx hb dM_look_209 (lv_at hl 1 rfl) ?_
      obtain ⟨M_11, eM_11, hf⟩ := m_lx hf
      refine m_put (ty := .int) hx hb hts in_M ⟨ty_M_ok, nm_M_ok⟩ hown hK hZ (by decide) rfl rfl 23 (by decide) (hts _ k3_62) (fun _ h9 => h9) rfl (by decide +kernel) rfl rfl rfl dM_look_211 eM_11 (fun H locs hZ => ?_)
      refine lv_aload_n hx hb dM_look_214 rfl (lv_at hl 0 rfl) ?_
      refine lv_iload hx hb dM_look_215 (lv_at hl 2 rfl) ?_
      obtain ⟨M_12, eM_12, hf⟩ := m_lx hf
      refine m_put (ty := .int) hx hb hts in_M ⟨ty_M_ok, nm_M_ok⟩ hown hK hZ (by decide) rfl rfl 24 (by decide) (hts _ k3_63) (fun _ h9 => h9) rfl (by decide +kernel) rfl rfl rfl dM_look_217 eM_12 (fun H locs hZ => ?_)
      refine lv_iconst (v := 0) hx hb dM_look_220 (by decide) ?_
      refine lv_istore (lv' := [(8, .int 0), (0, .ref (ad 0)), (5, .int x5), (6, .int x6), (7, .int x7)]) hx hb dM_look_221 hl (by decide) rfl (fun ls hl => ?_)
      exact L223 128 M_12 0 hf _ _ _ hZ (lv_sub hl [1, 0] rfl)
  have B187 : ∀ (M : mMem) (x5 : Int32) (x6 : Int32) (s0 : Int32), fM_look_B187 x1 M x5 x6 s0 = some M' → ∀ (H : Heap) (locs : List Loc) (ls : Array Slot), zM D ad c3 s H locs M → lv_has ls 9 [(0, .ref (ad 0)), (1, .int x1), (5, .int x5), (6, .int x6)] → W p l e rmM_look s m args below meth c H locs 0 0 Q (F0 m 187 ls [.int s0]) := by
    intro M x5 x6 s0 hf H locs ls hZ hl
    unfold fM_look_B187 at hf
    refine lv_istore (lv' := [(7, .int s0), (0, .ref (ad 0)), (1, .int x1), (5, .int x5), (6, .int x6)]) hx hb dM_look_187 hl (by decide) rfl (fun ls hl => ?_)
    refine lv_iload_n hx hb dM_look_189 rfl (lv_at hl 2 rfl) ?_
    refine lv_if_ne (tgt := 198) hx hb dM_look_190 (by decide) (fun c_7 => ?_) (fun c_7 => ?_)
    · have hf := m_f hf c_7
      exact B198 M x5 x6 s0 hf _ _ _ hZ (lv_sub hl [1, 3, 4, 0] rfl)
    · have hf := m_t hf c_7
      refine lv_iload hx hb dM_look_193 (lv_at hl 3 rfl) ?_
      refine lv_if_ne (tgt := 249) hx hb dM_look_195 (by decide) (fun c_8 => ?_) (fun c_8 => ?_)
      · have hf := m_f hf c_8
        exact hret _ _ _ _ _ hf hZ dM_look_249
      · have hf := m_t hf c_8
        exact B198 M x5 x6 s0 hf _ _ _ hZ (lv_sub hl [1, 3, 4, 0] rfl)
  have B186 : ∀ (M : mMem) (x5 : Int32) (x6 : Int32), fM_look_B186 x1 M x5 x6 = some M' → ∀ (H : Heap) (locs : List Loc) (ls : Array Slot), zM D ad c3 s H locs M → lv_has ls 9 [(0, .ref (ad 0)), (1, .int x1), (5, .int x5), (6, .int x6)] → W p l e rmM_look s m args below meth c H locs 0 0 Q (F0 m 186 ls []) := by
    intro M x5 x6 hf H locs ls hZ hl
    unfold fM_look_B186 at hf
    refine lv_iconst (v := 0) hx hb dM_look_186 (by decide) ?_
    exact B187 M x5 x6 0 hf _ _ _ hZ (lv_sub hl [0, 1, 2, 3] rfl)
  have B182 : ∀ (M : mMem) (x5 : Int32) (x6 : Int32), fM_look_B182 x1 M x5 x6 = some M' → ∀ (H : Heap) (locs : List Loc) (ls : Array Slot), zM D ad c3 s H locs M → lv_has ls 9 [(0, .ref (ad 0)), (1, .int x1), (5, .int x5), (6, .int x6)] → W p l e rmM_look s m args below meth c H locs 0 0 Q (F0 m 182 ls []) := by
    intro M x5 x6 hf H locs ls hZ hl
    unfold fM_look_B182 at hf
    refine lv_iconst (v := 1) hx hb dM_look_182 (by decide) ?_
    refine lv_goto (tgt := 187) hx hb dM_look_183 (by decide) ?_
    exact B187 M x5 x6 1 hf _ _ _ hZ (lv_sub hl [0, 1, 2, 3] rfl)
  have B173 : ∀ (M : mMem) (x5 : Int32) (x6 : Int32), fM_look_B173 x1 M x5 x6 = some M' → ∀ (H : Heap) (locs : List Loc) (ls : Array Slot), zM D ad c3 s H locs M → lv_has ls 9 [(0, .ref (ad 0)), (1, .int x1), (5, .int x5), (6, .int x6)] → W p l e rmM_look s m args below meth c H locs 0 0 Q (F0 m 173 ls []) := by
    intro M x5 x6 hf H locs ls hZ hl
    unfold fM_look_B173 at hf
    refine lv_iload hx hb dM_look_173 (lv_at hl 3 rfl) ?_
    refine lv_aload_n hx hb dM_look_175 rfl (lv_at hl 0 rfl) ?_
    refine m_get hx hb hts in_M hown hK hZ (by decide) rfl rfl 24 (by decide) (hts _ k3_63) (fun _ h9 => h9) rfl dM_look_176 ?_
    refine lv_icmp_ge (tgt := 186) hx hb dM_look_179 (by decide) (fun c_18 => ?_) (fun c_18 => ?_)
    · have hf := m_t hf c_18
      exact B186 M x5 x6 hf _ _ _ hZ (lv_sub hl [0, 1, 2, 3] rfl)
    · have hf := m_f hf c_18
      exact B182 M x5 x6 hf _ _ _ hZ (lv_sub hl [0, 1, 2, 3] rfl)
  have B127 : ∀ (M : mMem) (x5 : Int32) (s1 : Int32) (s2 : Int32), fM_look_B127 x1 M x5 s1 s2 = some M' → ∀ (H : Heap) (locs : List Loc) (ls : Array Slot), zM D ad c3 s H locs M → lv_has ls 9 [(0, .ref (ad 0)), (1, .int x1), (5, .int x5)] → W p l e rmM_look s m args below meth c H locs 0 0 Q (F0 m 127 ls [.int s2, .int s1, .ref (ad 0)]) := by
    intro M x5 s1 s2 hf H locs ls hZ hl
    unfold fM_look_B127 at hf
    refine lv_iadd hx hb dM_look_127 ?_
    obtain ⟨M_4, eM_4, hf⟩ := m_lx hf
    refine m_put (ty := .int) hx hb hts in_M ⟨ty_M_ok, nm_M_ok⟩ hown hK hZ (by decide) rfl rfl 26 (by decide) (hts _ k3_65) (fun _ h9 => h9) rfl (by decide +kernel) rfl rfl rfl dM_look_128 eM_4 (fun H locs hZ => ?_)
    refine lv_aload_n hx hb dM_look_131 rfl (lv_at hl 0 rfl) ?_
    refine lv_aload_n hx hb dM_look_132 rfl (lv_at hl 0 rfl) ?_
    refine m_getR (k' := 14) hx hb hts in_M hown hK hZ (by decide) rfl rfl 20 (by decide) (hts _ k3_59) (fun _ h9 => h9) rfl dM_look_133 ?_
    obtain ⟨r_5, hc, hf⟩ := m_b1x hf
    refine m_ci (va_runV (As := [.ref (ad 14)]) (rest := []) ⟨hx, hb, hml, hown, hts⟩ (cM_costOf l D ad c3 M_4 14 ⟨rfl, (by decide)⟩ hc) (cwV 1 hts (gV k4_10 k4_12 kp_25 k1_8 kc_M_costOf) rfl rfl rfl (by decide +kernel) ⟨by decide, by decide⟩) (m_preV hK hN hZ (by decide) rfl rfl) rfl rfl hl.1 rfl (lv_room (Nat.le_of_ble_eq_true rfl)) dM_look_136 ⟨Nat.zero_le _, Nat.zero_le _⟩) hZ (fun H locs hZ => ?_)
    refine lv_istore (lv' := [(6, .int r_5), (0, .ref (ad 0)), (1, .int x1), (5, .int x5)]) hx hb dM_look_139 hl (by decide) rfl (fun ls hl => ?_)
    refine lv_aload_n hx hb dM_look_141 rfl (lv_at hl 1 rfl) ?_
    refine m_get hx hb hts in_M hown hK hZ (by decide) rfl rfl 22 (by decide) (hts _ k3_61) (fun _ h9 => h9) rfl dM_look_142 ?_
    refine lv_if_eq (tgt := 182) hx hb dM_look_145 (by decide) (fun c_6 => ?_) (fun c_6 => ?_)
    · have hf := m_t hf c_6
      exact B182 M_4 x5 r_5 hf _ _ _ hZ (lv_sub hl [1, 2, 3, 0] rfl)
    · have hf := m_f hf c_6
      refine lv_iload_n hx hb dM_look_148 rfl (lv_at hl 2 rfl) ?_
      refine lv_if_eq (tgt := 173) hx hb dM_look_149 (by decide) (fun c_17 => ?_) (fun c_17 => ?_)
      · have hf := m_t hf c_17
        exact B173 M_4 x5 r_5 hf _ _ _ hZ (lv_sub hl [1, 2, 3, 0] rfl)
      · have hf := m_f hf c_17
        refine lv_iload hx hb dM_look_152 (lv_at hl 3 rfl) ?_
        refine lv_aload_n hx hb dM_look_154 rfl (lv_at hl 1 rfl) ?_
        refine m_get hx hb hts in_M hown hK hZ (by decide) rfl rfl 23 (by decide) (hts _ k3_62) (fun _ h9 => h9) rfl dM_look_155 ?_
        refine lv_icmp_eq (tgt := 173) hx hb dM_look_158 (by decide) (fun c_19 => ?_) (fun c_19 => ?_)
        · have hf := m_t hf c_19
          exact B173 M_4 x5 r_5 hf _ _ _ hZ (lv_sub hl [1, 2, 3, 0] rfl)
        · have hf := m_f hf c_19
          refine lv_iload hx hb dM_look_161 (lv_at hl 3 rfl) ?_
          refine lv_aload_n hx hb dM_look_163 rfl (lv_at hl 1 rfl) ?_
          refine m_get hx hb hts in_M hown hK hZ (by decide) rfl rfl 23 (by decide) (hts _ k3_62) (fun _ h9 => h9) rfl dM_look_164 ?_
          refine lv_icmp_ge (tgt := 186) hx hb dM_look_167 (by decide) (fun c_20 => ?_) (fun c_20 => ?_)
          · have hf := m_t hf c_20
            exact B186 M_4 x5 r_5 hf _ _ _ hZ (lv_sub hl [1, 2, 3, 0] rfl)
          · have hf := m_f hf c_20
            refine lv_goto (tgt := 182) hx hb dM_look_170 (by decide) ?_
            exact B182 M_4 x5 r_5 hf _ _ _ hZ (lv_sub hl [1, 2, 3, 0] rfl)
  have B102 : ∀ (M : mMem) (x5 : Int32), fM_look_B102 x1 M x5 = some M' → ∀ (H : Heap) (locs : List Loc) (ls : Array Slot), zM D ad c3 s H locs M → lv_has ls 9 [(0, .ref (ad 0)), (1, .int x1), (5, .int x5)] → W p l e rmM_look s m args below meth c H locs 0 0 Q (F0 m 102 ls []) := by
    intro M x5 hf H locs ls hZ hl
    unfold fM_look_B102 at hf
    refine lv_aload_n hx hb dM_look_102 rfl (lv_at hl 0 rfl) ?_
    refine lv_dup hx hb dM_look_103 rfl ?_
    refine m_get hx hb hts in_M hown hK hZ (by decide) rfl rfl 25 (by decide) (hts _ k3_64) (fun _ h9 => h9) rfl dM_look_104 ?_
    refine lv_iconst (v := 1) hx hb dM_look_107 (by decide) ?_
    refine lv_iadd hx hb dM_look_108 ?_
    obtain ⟨M_2, eM_2, hf⟩ := m_lx hf
    refine m_put (ty := .int) hx hb hts in_M ⟨ty_M_ok, nm_M_ok⟩ hown hK hZ (by decide) rfl rfl 25 (by decide) (hts _ k3_64) (fun _ h9 => h9) rfl (by decide +kernel) rfl rfl rfl dM_look_109 eM_2 (fun H locs hZ => ?_)
    refine lv_aload_n hx hb dM_look_112 rfl (lv_at hl 0 rfl) ?_
    refine lv_dup hx hb dM_look_113 rfl ?_
    refine m_get hx hb hts in_M hown hK hZ (by decide) rfl rfl 26 (by decide) (hts _ k3_65) (fun _ h9 => h9) rfl dM_look_114 ?_
    refine lv_iload hx hb dM_look_117 (lv_at hl 2 rfl) ?_
    refine lv_if_ne (tgt := 126) hx hb dM_look_119 (by decide) (fun c_3 => ?_) (fun c_3 => ?_)
    · have hf := m_f hf c_3
      refine lv_iconst (v := 0) hx hb dM_look_126 (by decide) ?_
      exact B127 M_2 x5 (M_2 0 26) 0 hf _ _ _ hZ (lv_sub hl [0, 1, 2] rfl)
    · have hf := m_t hf c_3
      refine lv_iconst (v := 1) hx hb dM_look_122 (by decide) ?_
      refine lv_goto (tgt := 127) hx hb dM_look_123 (by decide) ?_
      exact B127 M_2 x5 (M_2 0 26) 1 hf _ _ _ hZ (lv_sub hl [0, 1, 2] rfl)
  have L6 : ∀ (n6 : Nat) (M : mMem) (x5 : Int32) (x6 : Int32), fM_look_L6 x1 x2 x3 x4 n6 M x5 x6 = some M' → ∀ (H : Heap) (locs : List Loc) (ls : Array Slot), zM D ad c3 s H locs M → lv_has ls 9 [(0, .ref (ad 0)), (1, .int x1), (2, .int x2), (3, .int x3), (4, .int x4), (5, .int x5), (6, .int x6)] → W p l e rmM_look s m args below meth c H locs 0 0 Q (F0 m 6 ls []) := by
    intro n6
    induction n6 with
    | zero => intro M x5 x6 hf; exact m_none hf
    | succ n6 ih6 =>
      intro M x5 x6 hf H locs ls hZ hl
      rw [fM_look_L6] at hf
      have B57 : ∀ (M : mMem) (x5 : Int32) (x6 : Int32) (s2 : Int32) (s3 : Int32) (s4 : Int32), fM_look_B57 (fM_look_L6 x1 x2 x3 x4 n6) M x5 x6 s2 s3 s4 = some M' → ∀ (H : Heap) (locs : List Loc) (ls : Array Slot), zM D ad c3 s H locs M → lv_has ls 9 [(0, .ref (ad 0)), (1, .int x1), (2, .int x2), (3, .int x3), (4, .int x4), (5, .int x5), (6, .int x6)] → W p l e rmM_look s m args below meth c H locs 0 0 Q (F0 m 57 ls [.int s4, .int s3, .int s2, .ref (ad 14), .ref (ad 0)]) := by
        intro M x5 x6 s2 s3 s4 hf H locs ls hZ hl
        unfold fM_look_B57 at hf
        obtain ⟨r_23, hc, hf⟩ := m_b1x hf
        refine m_ci (va_runV (As := [.ref (ad 14), .int s2, .int s3, .int s4]) (rest := []) ⟨hx, hb, hml, hown, hts⟩ (cM_missOf l D ad c3 M 14 s2 s3 s4 ⟨rfl, (by decide)⟩ hc) (cwV 4 hts (gV k3_234 k3_236 kp_21 k1_8 kc_M_missOf) rfl rfl rfl (by decide +kernel) ⟨by decide, by decide⟩) (m_preV hK hN hZ (by decide) rfl rfl) rfl rfl hl.1 rfl (lv_room (Nat.le_of_ble_eq_true rfl)) dM_look_57 ⟨Nat.zero_le _, Nat.zero_le _⟩) hZ (fun H locs hZ => ?_)
        refine lv_istore (lv' := [(7, .int r_23), (0, .ref (ad 0)), (1, .int x1), (2, .int x2), (3, .int x3), (4, .int x4), (5, .int x5), (6, .int x6)]) hx hb dM_look_60 hl (by decide) rfl (fun ls hl => ?_)
        refine lv_aload_n hx hb dM_look_62 rfl (lv_at hl 1 rfl) ?_
        refine m_getR (k' := 16) hx hb hts in_M hown hK hZ (by decide) rfl rfl 27 (by decide) (hts _ k3_66) (fun _ h9 => h9) rfl dM_look_63 ?_
        refine lv_iload hx hb dM_look_66 (lv_at hl 7 rfl) ?_
        refine lv_aload_n hx hb dM_look_68 rfl (lv_at hl 1 rfl) ?_
        refine m_getR (k' := 16) hx hb hts in_M hown hK hZ (by decide) rfl rfl 27 (by decide) (hts _ k3_66) (fun _ h9 => h9) rfl dM_look_69 ?_
        refine lv_iload hx hb dM_look_72 (lv_at hl 7 rfl) ?_
        obtain ⟨h_24, hf⟩ := m_gx hf
        refine m_zald hx hb hK hZ (by decide) rfl h_24 dM_look_74 ?_
        refine lv_if_ne (tgt := 83) hx hb dM_look_75 (by decide) (fun c_25 => ?_) (fun c_25 => ?_)
        · have hf := m_f hf c_25
          refine lv_iconst (v := 1) hx hb dM_look_83 (by decide) ?_
          refine lv_goto (tgt := 88) hx hb dM_look_84 (by decide) ?_
          obtain ⟨M_33, eM_33, hf⟩ := m_lx hf
          refine m_zast hx hb hK hZ (by decide) rfl h_24 dM_look_88 eM_33 (by decide) (fun H locs hZ => ?_)
          refine lv_iload hx hb dM_look_89 (lv_at hl 6 rfl) ?_
          refine lv_iload hx hb dM_look_91 (lv_at hl 0 rfl) ?_
          refine lv_iadd hx hb dM_look_93 ?_
          obtain ⟨x5_34, ex5_34, hf⟩ := m_lx hf
          refine m_topi ex5_34 ?_
          refine lv_istore (lv' := [(5, .int x5_34), (7, .int r_23), (0, .ref (ad 0)), (1, .int x1), (2, .int x2), (3, .int x3), (4, .int x4), (6, .int x6)]) hx hb dM_look_94 hl (by decide) rfl (fun ls hl => ?_)
          obtain ⟨x6_35, ex6_35, hf⟩ := m_lx hf
          refine lv_iinc (v := x6_35) (lv' := [(6, .int x6_35), (5, .int x5_34), (7, .int r_23), (0, .ref (ad 0)), (1, .int x1), (2, .int x2), (3, .int x3), (4, .int x4)]) hx hb dM_look_96 hl (k := 7) rfl (by rw [ex6_35]; rfl) (by decide) rfl (fun ls hl => ?_)
          refine lv_goto (tgt := 6) hx hb dM_look_99 (by decide) ?_
          exact ih6 _ _ _ hf _ _ _ hZ (lv_sub hl [3, 4, 5, 6, 7, 1, 0] rfl)
        · have hf := m_t hf c_25
          refine lv_iload hx hb dM_look_78 (lv_at hl 0 rfl) ?_
          refine lv_if_ne (tgt := 87) hx hb dM_look_80 (by decide) (fun c_26 => ?_) (fun c_26 => ?_)
          · have hf := m_f hf c_26
            refine lv_iconst (v := 0) hx hb dM_look_87 (by decide) ?_
            obtain ⟨M_30, eM_30, hf⟩ := m_lx hf
            refine m_zast hx hb hK hZ (by decide) rfl h_24 dM_look_88 eM_30 (by decide) (fun H locs hZ => ?_)
            refine lv_iload hx hb dM_look_89 (lv_at hl 6 rfl) ?_
            refine lv_iload hx hb dM_look_91 (lv_at hl 0 rfl) ?_
            refine lv_iadd hx hb dM_look_93 ?_
            obtain ⟨x5_31, ex5_31, hf⟩ := m_lx hf
            refine m_topi ex5_31 ?_
            refine lv_istore (lv' := [(5, .int x5_31), (7, .int r_23), (0, .ref (ad 0)), (1, .int x1), (2, .int x2), (3, .int x3), (4, .int x4), (6, .int x6)]) hx hb dM_look_94 hl (by decide) rfl (fun ls hl => ?_)
            obtain ⟨x6_32, ex6_32, hf⟩ := m_lx hf
            refine lv_iinc (v := x6_32) (lv' := [(6, .int x6_32), (5, .int x5_31), (7, .int r_23), (0, .ref (ad 0)), (1, .int x1), (2, .int x2), (3, .int x3), (4, .int x4)]) hx hb dM_look_96 hl (k := 7) rfl (by rw [ex6_32]; rfl) (by decide) rfl (fun ls hl => ?_)
            refine lv_goto (tgt := 6) hx hb dM_look_99 (by decide) ?_
            exact ih6 _ _ _ hf _ _ _ hZ (lv_sub hl [3, 4, 5, 6, 7, 1, 0] rfl)
          · have hf := m_t hf c_26
            refine lv_iconst (v := 1) hx hb dM_look_83 (by decide) ?_
            refine lv_goto (tgt := 88) hx hb dM_look_84 (by decide) ?_
            obtain ⟨M_27, eM_27, hf⟩ := m_lx hf
            refine m_zast hx hb hK hZ (by decide) rfl h_24 dM_look_88 eM_27 (by decide) (fun H locs hZ => ?_)
            refine lv_iload hx hb dM_look_89 (lv_at hl 6 rfl) ?_
            refine lv_iload hx hb dM_look_91 (lv_at hl 0 rfl) ?_
            refine lv_iadd hx hb dM_look_93 ?_
            obtain ⟨x5_28, ex5_28, hf⟩ := m_lx hf
            refine m_topi ex5_28 ?_
            refine lv_istore (lv' := [(5, .int x5_28), (7, .int r_23), (0, .ref (ad 0)), (1, .int x1), (2, .int x2), (3, .int x3), (4, .int x4), (6, .int x6)]) hx hb dM_look_94 hl (by decide) rfl (fun ls hl => ?_)
            obtain ⟨x6_29, ex6_29, hf⟩ := m_lx hf
            refine lv_iinc (v := x6_29) (lv' := [(6, .int x6_29), (5, .int x5_28), (7, .int r_23), (0, .ref (ad 0)), (1, .int x1), (2, .int x2), (3, .int x3), (4, .int x4)]) hx hb dM_look_96 hl (k := 7) rfl (by rw [ex6_29]; rfl) (by decide) rfl (fun ls hl => ?_)
            refine lv_goto (tgt := 6) hx hb dM_look_99 (by decide) ?_
            exact ih6 _ _ _ hf _ _ _ hZ (lv_sub hl [3, 4, 5, 6, 7, 1, 0] rfl)
      have B39 : ∀ (M : mMem) (x5 : Int32) (x6 : Int32) (s2 : Int32) (s3 : Int32), fM_look_B39 (fM_look_L6 x1 x2 x3 x4 n6) x2 x4 M x5 x6 s2 s3 = some M' → ∀ (H : Heap) (locs : List Loc) (ls : Array Slot), zM D ad c3 s H locs M → lv_has ls 9 [(0, .ref (ad 0)), (1, .int x1), (2, .int x2), (3, .int x3), (4, .int x4), (5, .int x5), (6, .int x6)] → W p l e rmM_look s m args below meth c H locs 0 0 Q (F0 m 39 ls [.int s3, .int s2, .ref (ad 14), .ref (ad 0)]) := by
        intro M x5 x6 s2 s3 hf H locs ls hZ hl
        unfold fM_look_B39 at hf
        refine lv_iload hx hb dM_look_39 (lv_at hl 6 rfl) ?_
        refine lv_iload_n hx hb dM_look_41 rfl (lv_at hl 2 rfl) ?_
        refine lv_icmp_ne (tgt := 50) hx hb dM_look_42 (by decide) (fun c_22 => ?_) (fun c_22 => ?_)
        · have hf := m_f hf c_22
          refine lv_aload_n hx hb dM_look_50 rfl (lv_at hl 0 rfl) ?_
          refine m_getR (k' := 2) hx hb hts in_M hown hK hZ (by decide) rfl rfl 2 (by decide) (hts _ k3_41) (fun _ h9 => h9) rfl dM_look_51 ?_
          refine lv_iload hx hb dM_look_54 (lv_at hl 6 rfl) ?_
          obtain ⟨h_36, hf⟩ := m_gx hf
          refine m_iald hx hb hK hZ (by decide) rfl h_36 dM_look_56 ?_
          exact B57 M x5 x6 s2 s3 (M 2 x6.toNatClampNeg) hf _ _ _ hZ (lv_sub hl [0, 1, 2, 3, 4, 5, 6] rfl)
        · have hf := m_t hf c_22
          refine lv_iload hx hb dM_look_45 (lv_at hl 4 rfl) ?_
          refine lv_goto (tgt := 57) hx hb dM_look_47 (by decide) ?_
          exact B57 M x5 x6 s2 s3 x4 hf _ _ _ hZ (lv_sub hl [0, 1, 2, 3, 4, 5, 6] rfl)
      refine lv_iload hx hb dM_look_6 (lv_at hl 6 rfl) ?_
      refine lv_aload_n hx hb dM_look_8 rfl (lv_at hl 0 rfl) ?_
      refine m_get hx hb hts in_M hown hK hZ (by decide) rfl rfl 0 (by decide) (hts _ k3_39) (fun _ h9 => h9) rfl dM_look_9 ?_
      refine lv_icmp_ge (tgt := 102) hx hb dM_look_12 (by decide) (fun c_1 => ?_) (fun c_1 => ?_)
      · have hf := m_t hf c_1
        exact B102 M x5 hf _ _ _ hZ (lv_sub hl [0, 1, 5] rfl)
      · have hf := m_f hf c_1
        refine lv_aload_n hx hb dM_look_15 rfl (lv_at hl 0 rfl) ?_
        refine lv_aload_n hx hb dM_look_16 rfl (lv_at hl 0 rfl) ?_
        refine m_getR (k' := 14) hx hb hts in_M hown hK hZ (by decide) rfl rfl 20 (by decide) (hts _ k3_59) (fun _ h9 => h9) rfl dM_look_17 ?_
        refine lv_iload hx hb dM_look_20 (lv_at hl 6 rfl) ?_
        refine lv_iload hx hb dM_look_22 (lv_at hl 6 rfl) ?_
        refine lv_iload_n hx hb dM_look_24 rfl (lv_at hl 2 rfl) ?_
        refine lv_icmp_ne (tgt := 32) hx hb dM_look_25 (by decide) (fun c_21 => ?_) (fun c_21 => ?_)
        · have hf := m_f hf c_21
          refine lv_aload_n hx hb dM_look_32 rfl (lv_at hl 0 rfl) ?_
          refine m_getR (k' := 1) hx hb hts in_M hown hK hZ (by decide) rfl rfl 1 (by decide) (hts _ k3_40) (fun _ h9 => h9) rfl dM_look_33 ?_
          refine lv_iload hx hb dM_look_36 (lv_at hl 6 rfl) ?_
          obtain ⟨h_37, hf⟩ := m_gx hf
          refine m_iald hx hb hK hZ (by decide) rfl h_37 dM_look_38 ?_
          exact B39 M x5 x6 x6 (M 1 x6.toNatClampNeg) hf _ _ _ hZ (lv_sub hl [0, 1, 2, 3, 4, 5, 6] rfl)
        · have hf := m_t hf c_21
          refine lv_iload_n hx hb dM_look_28 rfl (lv_at hl 3 rfl) ?_
          refine lv_goto (tgt := 39) hx hb dM_look_29 (by decide) ?_
          exact B39 M x5 x6 x6 x3 hf _ _ _ hZ (lv_sub hl [0, 1, 2, 3, 4, 5, 6] rfl)
  refine lv_iconst (v := 0) hx hb dM_look_0 (by decide) ?_
  refine lv_istore (lv' := [(5, .int 0), (0, .ref (ad 0)), (1, .int x1), (2, .int x2), (3, .int x3), (4, .int x4)]) hx hb dM_look_1 hl (by decide) rfl (fun ls hl => ?_)
  refine lv_iconst (v := 0) hx hb dM_look_3 (by decide) ?_
  refine lv_istore (lv' := [(6, .int 0), (5, .int 0), (0, .ref (ad 0)), (1, .int x1), (2, .int x2), (3, .int x3), (4, .int x4)]) hx hb dM_look_4 hl (by decide) rfl (fun ls hl => ?_)
  exact L6 128 M 0 0 hf _ _ _ hZ (lv_sub hl [2, 3, 4, 5, 6, 1, 0] rfl)
