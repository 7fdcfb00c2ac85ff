abbrev rmM_test : Room := { frames := 3, cells := 0, slots := 0, locals := 75 }
set_option maxHeartbeats 4000000 in
set_option maxRecDepth 100000 in
theorem cM_test (l : Launch) (D : va_G) (ad : Nat → Nat) (c3 : ClassId × ClassId × ClassId) (M : mMem) (x1 : Int32) (x2 : Int32)  {r : Int32} {M' : mMem} (hf : fM_test M x1 x2 = some (r, M')) : kIM l D ad c3 yM_test wM_test rmM_test [.ref (ad 0), .int x1, .int x2] M r M' := by
  refine m_oI (cc := bM_test) (maxL := 7) (ty := .int) (own := R_M) nestM (by decide) rfl (Nat.le_of_ble_eq_true rfl) rfl (fun p e s m args below meth c Q hx hb hml hown hts hK hN hret ls hZ hl => ?_)
  have hl : lv_has ls 7 [(0, .ref (ad 0)), (1, .int x1), (2, .int x2)] := hl
  unfold fM_test at hf
  have B178 : ∀ (M : mMem) (x5 : Int32), fM_test_B178 M x5 = some (r, M') → ∀ (H : Heap) (locs : List Loc) (ls : Array Slot), zM D ad c3 s H locs M → lv_has ls 7 [(0, .ref (ad 0)), (5, .int x5)] → W p l e rmM_test s m args below meth c H locs 0 0 Q (F0 m 178 ls []) := by
    intro M x5 hf H locs ls hZ hl
    unfold fM_test_B178 at hf
    refine lv_iload hx hb dM_test_178 (lv_at hl 1 rfl) ?_
    refine lv_aload_n hx hb dM_test_180 rfl (lv_at hl 0 rfl) ?_
    refine m_get hx hb hts in_M hown hK hZ (by decide) rfl rfl 31 (by decide) (hts _ k3_70) (fun _ h9 => h9) rfl dM_test_181 ?_
    refine lv_icmp_le (tgt := 191) hx hb dM_test_184 (by decide) (fun c_20 => ?_) (fun c_20 => ?_)
    · have hf := m_t hf c_20
      refine lv_iconst (v := 0) hx hb dM_test_191 (by decide) ?_
      refine lv_istore (lv' := [(6, .int 0), (0, .ref (ad 0)), (5, .int x5)]) hx hb dM_test_192 hl (by decide) rfl (fun ls hl => ?_)
      refine lv_aload_n hx hb dM_test_194 rfl (lv_at hl 1 rfl) ?_
      refine m_getR (k' := 22) hx hb hts in_M hown hK hZ (by decide) rfl rfl 36 (by decide) (hts _ k3_75) (fun _ h9 => h9) rfl dM_test_195 ?_
      refine lv_aload_n hx hb dM_test_198 rfl (lv_at hl 1 rfl) ?_
      refine m_get hx hb hts in_M hown hK hZ (by decide) rfl rfl 32 (by decide) (hts _ k3_71) (fun _ h9 => h9) rfl dM_test_199 ?_
      refine lv_iconst (v := 1) hx hb dM_test_202 (by decide) ?_
      refine lv_isub hx hb dM_test_203 ?_
      refine lv_iload hx hb dM_test_204 (lv_at hl 0 rfl) ?_
      obtain ⟨h_21, hf⟩ := m_gx hf
      obtain ⟨M_22, eM_22, hf⟩ := m_lx hf
      refine m_iast hx hb hK hZ (by decide) rfl h_21 dM_test_206 eM_22 (fun H locs hZ => ?_)
      refine lv_iload hx hb dM_test_207 (lv_at hl 0 rfl) ?_
      exact hret _ _ _ _ _ _ hf rfl hZ dM_test_209
    · have hf := m_f hf c_20
      refine lv_iconst (v := 3) hx hb dM_test_187 (by decide) ?_
      refine lv_goto (tgt := 192) hx hb dM_test_188 (by decide) ?_
      refine lv_istore (lv' := [(6, .int 3), (0, .ref (ad 0)), (5, .int x5)]) hx hb dM_test_192 hl (by decide) rfl (fun ls hl => ?_)
      refine lv_aload_n hx hb dM_test_194 rfl (lv_at hl 1 rfl) ?_
      refine m_getR (k' := 22) hx hb hts in_M hown hK hZ (by decide) rfl rfl 36 (by decide) (hts _ k3_75) (fun _ h9 => h9) rfl dM_test_195 ?_
      refine lv_aload_n hx hb dM_test_198 rfl (lv_at hl 1 rfl) ?_
      refine m_get hx hb hts in_M hown hK hZ (by decide) rfl rfl 32 (by decide) (hts _ k3_71) (fun _ h9 => h9) rfl dM_test_199 ?_
      refine lv_iconst (v := 1) hx hb dM_test_202 (by decide) ?_
      refine lv_isub hx hb dM_test_203 ?_
      refine lv_iload hx hb dM_test_204 (lv_at hl 0 rfl) ?_
      obtain ⟨h_23, hf⟩ := m_gx hf
      obtain ⟨M_24, eM_24, hf⟩ := m_lx hf
      refine m_iast hx hb hK hZ (by decide) rfl h_23 dM_test_206 eM_24 (fun H locs hZ => ?_)
      refine lv_iload hx hb dM_test_207 (lv_at hl 0 rfl) ?_
      exact hret _ _ _ _ _ _ hf rfl hZ dM_test_209
  have B133 : ∀ (M : mMem) (s0 : Int32), fM_test_B133 x1 x2 M s0 = some (r, M') → ∀ (H : Heap) (locs : List Loc) (ls : Array Slot), zM D ad c3 s H locs M → lv_has ls 7 [(0, .ref (ad 0)), (1, .int x1), (2, .int x2)] → W p l e rmM_test s m args below meth c H locs 0 0 Q (F0 m 133 ls [.int s0]) := by
    intro M s0 hf H locs ls hZ hl
    unfold fM_test_B133 at hf
    refine lv_istore (lv' := [(5, .int s0), (0, .ref (ad 0)), (1, .int x1), (2, .int x2)]) hx hb dM_test_133 hl (by decide) rfl (fun ls hl => ?_)
    refine lv_iload_n hx hb dM_test_135 rfl (lv_at hl 3 rfl) ?_
    refine lv_aload_n hx hb dM_test_136 rfl (lv_at hl 1 rfl) ?_
    refine m_getR (k' := 1) hx hb hts in_M hown hK hZ (by decide) rfl rfl 1 (by decide) (hts _ k3_40) (fun _ h9 => h9) rfl dM_test_137 ?_
    refine lv_iload_n hx hb dM_test_140 rfl (lv_at hl 2 rfl) ?_
    obtain ⟨h_inb_x1_6, hf⟩ := m_gx hf
    refine m_iald hx hb hK hZ (by decide) rfl h_inb_x1_6 dM_test_141 ?_
    refine lv_icmp_lt (tgt := 155) hx hb dM_test_142 (by decide) (fun c_15 => ?_) (fun c_15 => ?_)
    · have hf := m_t hf c_15
      refine lv_iconst (v := 1) hx hb dM_test_155 (by decide) ?_
      refine lv_goto (tgt := 192) hx hb dM_test_156 (by decide) ?_
      refine lv_istore (lv' := [(6, .int 1), (5, .int s0), (0, .ref (ad 0)), (1, .int x1), (2, .int x2)]) hx hb dM_test_192 hl (by decide) rfl (fun ls hl => ?_)
      refine lv_aload_n hx hb dM_test_194 rfl (lv_at hl 2 rfl) ?_
      refine m_getR (k' := 22) hx hb hts in_M hown hK hZ (by decide) rfl rfl 36 (by decide) (hts _ k3_75) (fun _ h9 => h9) rfl dM_test_195 ?_
      refine lv_aload_n hx hb dM_test_198 rfl (lv_at hl 2 rfl) ?_
      refine m_get hx hb hts in_M hown hK hZ (by decide) rfl rfl 32 (by decide) (hts _ k3_71) (fun _ h9 => h9) rfl dM_test_199 ?_
      refine lv_iconst (v := 1) hx hb dM_test_202 (by decide) ?_
      refine lv_isub hx hb dM_test_203 ?_
      refine lv_iload hx hb dM_test_204 (lv_at hl 0 rfl) ?_
      obtain ⟨h_16, hf⟩ := m_gx hf
      obtain ⟨M_17, eM_17, hf⟩ := m_lx hf
      refine m_iast hx hb hK hZ (by decide) rfl h_16 dM_test_206 eM_17 (fun H locs hZ => ?_)
      refine lv_iload hx hb dM_test_207 (lv_at hl 0 rfl) ?_
      exact hret _ _ _ _ _ _ hf rfl hZ dM_test_209
    · have hf := m_f hf c_15
      refine lv_iload_n hx hb dM_test_145 rfl (lv_at hl 3 rfl) ?_
      refine lv_aload_n hx hb dM_test_146 rfl (lv_at hl 1 rfl) ?_
      refine m_getR (k' := 2) hx hb hts in_M hown hK hZ (by decide) rfl rfl 2 (by decide) (hts _ k3_41) (fun _ h9 => h9) rfl dM_test_147 ?_
      refine lv_iload_n hx hb dM_test_150 rfl (lv_at hl 2 rfl) ?_
      refine m_iald hx hb hK hZ (by decide) rfl h_inb_x1_6 dM_test_151 ?_
      refine lv_icmp_le (tgt := 159) hx hb dM_test_152 (by decide) (fun c_18 => ?_) (fun c_18 => ?_)
      · have hf := m_t hf c_18
        refine lv_aload_n hx hb dM_test_159 rfl (lv_at hl 1 rfl) ?_
        refine m_get hx hb hts in_M hown hK hZ (by decide) rfl rfl 18 (by decide) (hts _ k3_57) (fun _ h9 => h9) rfl dM_test_160 ?_
        refine lv_if_eq (tgt := 178) hx hb dM_test_163 (by decide) (fun c_19 => ?_) (fun c_19 => ?_)
        · have hf := m_t hf c_19
          exact B178 M s0 hf _ _ _ hZ (lv_sub hl [1, 0] rfl)
        · have hf := m_f hf c_19
          refine lv_aload_n hx hb dM_test_166 rfl (lv_at hl 1 rfl) ?_
          refine lv_iload_n hx hb dM_test_167 rfl (lv_at hl 2 rfl) ?_
          obtain ⟨r_25, hc, hf⟩ := m_b1x hf
          refine m_ci (va_runV (As := [.int x1]) (rest := []) ⟨hx, hb, hml, hown, hts⟩ (cM_driftsOff l D ad c3 M x1 hc) (cwV 1 hts (gV k4_65 k4_67 kp_27 k1_8 kc_M_driftsOff) rfl rfl rfl (by decide +kernel) ⟨by decide, by decide⟩) (m_preV hK hN hZ (by decide) rfl rfl) rfl rfl hl.1 rfl (lv_room (Nat.le_of_ble_eq_true rfl)) dM_test_168 ⟨Nat.zero_le _, Nat.zero_le _⟩) hZ (fun H locs hZ => ?_)
          refine lv_if_eq (tgt := 178) hx hb dM_test_171 (by decide) (fun c_26 => ?_) (fun c_26 => ?_)
          · have hf := m_t hf c_26
            exact B178 M s0 hf _ _ _ hZ (lv_sub hl [1, 0] rfl)
          · have hf := m_f hf c_26
            refine lv_iconst (v := 2) hx hb dM_test_174 (by decide) ?_
            refine lv_goto (tgt := 192) hx hb dM_test_175 (by decide) ?_
            refine lv_istore (lv' := [(6, .int 2), (5, .int s0), (0, .ref (ad 0)), (1, .int x1), (2, .int x2)]) hx hb dM_test_192 hl (by decide) rfl (fun ls hl => ?_)
            refine lv_aload_n hx hb dM_test_194 rfl (lv_at hl 2 rfl) ?_
            refine m_getR (k' := 22) hx hb hts in_M hown hK hZ (by decide) rfl rfl 36 (by decide) (hts _ k3_75) (fun _ h9 => h9) rfl dM_test_195 ?_
            refine lv_aload_n hx hb dM_test_198 rfl (lv_at hl 2 rfl) ?_
            refine m_get hx hb hts in_M hown hK hZ (by decide) rfl rfl 32 (by decide) (hts _ k3_71) (fun _ h9 => h9) rfl dM_test_199 ?_
            refine lv_iconst (v := 1) hx hb dM_test_202 (by decide) ?_
            refine lv_isub hx hb dM_test_203 ?_
            refine lv_iload hx hb dM_test_204 (lv_at hl 0 rfl) ?_
            obtain ⟨h_27, hf⟩ := m_gx hf
            obtain ⟨M_28, eM_28, hf⟩ := m_lx hf
            refine m_iast hx hb hK hZ (by decide) rfl h_27 dM_test_206 eM_28 (fun H locs hZ => ?_)
            refine lv_iload hx hb dM_test_207 (lv_at hl 0 rfl) ?_
            exact hret _ _ _ _ _ _ hf rfl hZ dM_test_209
      · have hf := m_f hf c_18
        refine lv_iconst (v := 1) hx hb dM_test_155 (by decide) ?_
        refine lv_goto (tgt := 192) hx hb dM_test_156 (by decide) ?_
        refine lv_istore (lv' := [(6, .int 1), (5, .int s0), (0, .ref (ad 0)), (1, .int x1), (2, .int x2)]) hx hb dM_test_192 hl (by decide) rfl (fun ls hl => ?_)
        refine lv_aload_n hx hb dM_test_194 rfl (lv_at hl 2 rfl) ?_
        refine m_getR (k' := 22) hx hb hts in_M hown hK hZ (by decide) rfl rfl 36 (by decide) (hts _ k3_75) (fun _ h9 => h9) rfl dM_test_195 ?_
        refine lv_aload_n hx hb dM_test_198 rfl (lv_at hl 2 rfl) ?_
        refine m_get hx hb hts in_M hown hK hZ (by decide) rfl rfl 32 (by decide) (hts _ k3_71) (fun _ h9 => h9) rfl dM_test_199 ?_
        refine lv_iconst (v := 1) hx hb dM_test_202 (by decide) ?_
        refine lv_isub hx hb dM_test_203 ?_
        refine lv_iload hx hb dM_test_204 (lv_at hl 0 rfl) ?_
        obtain ⟨h_29, hf⟩ := m_gx hf
        obtain ⟨M_30, eM_30, hf⟩ := m_lx hf
        refine m_iast hx hb hK hZ (by decide) rfl h_29 dM_test_206 eM_30 (fun H locs hZ => ?_)
        refine lv_iload hx hb dM_test_207 (lv_at hl 0 rfl) ?_
        exact hret _ _ _ _ _ _ hf rfl hZ dM_test_209
  have B76 : ∀ (M : mMem) (x3 : Int32) (x4 : Int32), fM_test_B76 x1 x2 M x3 x4 = some (r, M') → ∀ (H : Heap) (locs : List Loc) (ls : Array Slot), zM D ad c3 s H locs M → lv_has ls 7 [(0, .ref (ad 0)), (1, .int x1), (2, .int x2), (3, .int x3), (4, .int x4)] → W p l e rmM_test s m args below meth c H locs 0 0 Q (F0 m 76 ls []) := by
    intro M x3 x4 hf H locs ls hZ hl
    unfold fM_test_B76 at hf
    refine lv_aload_n hx hb dM_test_76 rfl (lv_at hl 0 rfl) ?_
    refine m_getR (k' := 19) hx hb hts in_M hown hK hZ (by decide) rfl rfl 33 (by decide) (hts _ k3_72) (fun _ h9 => h9) rfl dM_test_77 ?_
    refine lv_aload_n hx hb dM_test_80 rfl (lv_at hl 0 rfl) ?_
    refine m_get hx hb hts in_M hown hK hZ (by decide) rfl rfl 32 (by decide) (hts _ k3_71) (fun _ h9 => h9) rfl dM_test_81 ?_
    refine lv_iload_n hx hb dM_test_84 rfl (lv_at hl 1 rfl) ?_
    obtain ⟨h_7, hf⟩ := m_gx hf
    obtain ⟨M_8, eM_8, hf⟩ := m_lx hf
    refine m_iast hx hb hK hZ (by decide) rfl h_7 dM_test_85 eM_8 (fun H locs hZ => ?_)
    refine lv_aload_n hx hb dM_test_86 rfl (lv_at hl 0 rfl) ?_
    refine m_getR (k' := 20) hx hb hts in_M hown hK hZ (by decide) rfl rfl 34 (by decide) (hts _ k3_73) (fun _ h9 => h9) rfl dM_test_87 ?_
    refine lv_aload_n hx hb dM_test_90 rfl (lv_at hl 0 rfl) ?_
    refine m_get hx hb hts in_M hown hK hZ (by decide) rfl rfl 32 (by decide) (hts _ k3_71) (fun _ h9 => h9) rfl dM_test_91 ?_
    refine lv_iload_n hx hb dM_test_94 rfl (lv_at hl 2 rfl) ?_
    obtain ⟨h_9, hf⟩ := m_gx hf
    obtain ⟨M_10, eM_10, hf⟩ := m_lx hf
    refine m_iast hx hb hK hZ (by decide) rfl h_9 dM_test_95 eM_10 (fun H locs hZ => ?_)
    refine lv_aload_n hx hb dM_test_96 rfl (lv_at hl 0 rfl) ?_
    refine m_getR (k' := 21) hx hb hts in_M hown hK hZ (by decide) rfl rfl 35 (by decide) (hts _ k3_74) (fun _ h9 => h9) rfl dM_test_97 ?_
    refine lv_aload_n hx hb dM_test_100 rfl (lv_at hl 0 rfl) ?_
    refine m_get hx hb hts in_M hown hK hZ (by decide) rfl rfl 32 (by decide) (hts _ k3_71) (fun _ h9 => h9) rfl dM_test_101 ?_
    refine lv_iload_n hx hb dM_test_104 rfl (lv_at hl 3 rfl) ?_
    obtain ⟨h_11, hf⟩ := m_gx hf
    obtain ⟨M_12, eM_12, hf⟩ := m_lx hf
    refine m_iast hx hb hK hZ (by decide) rfl h_11 dM_test_105 eM_12 (fun H locs hZ => ?_)
    refine lv_aload_n hx hb dM_test_106 rfl (lv_at hl 0 rfl) ?_
    refine lv_dup hx hb dM_test_107 rfl ?_
    refine m_get hx hb hts in_M hown hK hZ (by decide) rfl rfl 32 (by decide) (hts _ k3_71) (fun _ h9 => h9) rfl dM_test_108 ?_
    refine lv_iconst (v := 1) hx hb dM_test_111 (by decide) ?_
    refine lv_iadd hx hb dM_test_112 ?_
    obtain ⟨M_13, eM_13, hf⟩ := m_lx hf
    refine m_put (ty := .int) hx hb hts in_M ⟨ty_M_ok, nm_M_ok⟩ hown hK hZ (by decide) rfl rfl 32 (by decide) (hts _ k3_71) (fun _ h9 => h9) rfl (by decide +kernel) rfl rfl rfl dM_test_113 eM_13 (fun H locs hZ => ?_)
    refine lv_iload_n hx hb dM_test_116 rfl (lv_at hl 2 rfl) ?_
    refine lv_iload hx hb dM_test_117 (lv_at hl 4 rfl) ?_
    refine lv_icmp_le (tgt := 129) hx hb dM_test_119 (by decide) (fun c_14 => ?_) (fun c_14 => ?_)
    · have hf := m_t hf c_14
      refine lv_iload hx hb dM_test_129 (lv_at hl 4 rfl) ?_
      refine lv_iload_n hx hb dM_test_131 rfl (lv_at hl 2 rfl) ?_
      refine lv_isub hx hb dM_test_132 ?_
      exact B133 M_13 (x4 - x2) hf _ _ _ hZ (lv_sub hl [0, 1, 2] rfl)
    · have hf := m_f hf c_14
      refine lv_iload_n hx hb dM_test_122 rfl (lv_at hl 2 rfl) ?_
      refine lv_iload hx hb dM_test_123 (lv_at hl 4 rfl) ?_
      refine lv_isub hx hb dM_test_125 ?_
      refine lv_goto (tgt := 133) hx hb dM_test_126 (by decide) ?_
      exact B133 M_13 (x2 - x4) hf _ _ _ hZ (lv_sub hl [0, 1, 2] rfl)
  have L38 : ∀ (M : mMem) (n38 : Nat) (x3 : Int32) (x4 : Int32) (x5 : Int32), fM_test_L38 x1 x2 M n38 x3 x4 x5 = some (r, M') → ∀ (H : Heap) (locs : List Loc) (ls : Array Slot), zM D ad c3 s H locs M → lv_has ls 7 [(0, .ref (ad 0)), (1, .int x1), (2, .int x2), (3, .int x3), (4, .int x4), (5, .int x5)] → W p l e rmM_test s m args below meth c H locs 0 0 Q (F0 m 38 ls []) := by
    intro M n38
    induction n38 with
    | zero => intro x3 x4 x5 hf; exact m_none hf
    | succ n38 ih38 =>
      intro x3 x4 x5 hf H locs ls hZ hl
      rw [fM_test_L38] at hf
      refine lv_iload hx hb dM_test_38 (lv_at hl 5 rfl) ?_
      refine lv_aload_n hx hb dM_test_40 rfl (lv_at hl 0 rfl) ?_
      refine m_get hx hb hts in_M hown hK hZ (by decide) rfl rfl 32 (by decide) (hts _ k3_71) (fun _ h9 => h9) rfl dM_test_41 ?_
      refine lv_icmp_ge (tgt := 76) hx hb dM_test_44 (by decide) (fun c_6 => ?_) (fun c_6 => ?_)
      · have hf := m_t hf c_6
        exact B76 M x3 x4 hf _ _ _ hZ (lv_sub hl [0, 1, 2, 3, 4] rfl)
      · have hf := m_f hf c_6
        refine lv_aload_n hx hb dM_test_47 rfl (lv_at hl 0 rfl) ?_
        refine m_getR (k' := 19) hx hb hts in_M hown hK hZ (by decide) rfl rfl 33 (by decide) (hts _ k3_72) (fun _ h9 => h9) rfl dM_test_48 ?_
        refine lv_iload hx hb dM_test_51 (lv_at hl 5 rfl) ?_
        obtain ⟨h_31, hf⟩ := m_gx hf
        refine m_iald hx hb hK hZ (by decide) rfl h_31 dM_test_53 ?_
        refine lv_iload_n hx hb dM_test_54 rfl (lv_at hl 1 rfl) ?_
        refine lv_icmp_ne (tgt := 70) hx hb dM_test_55 (by decide) (fun c_32 => ?_) (fun c_32 => ?_)
        · have hf := m_f hf c_32
          obtain ⟨x5_36, ex5_36, hf⟩ := m_lx hf
          refine lv_iinc (v := x5_36) (lv' := [(5, .int x5_36), (0, .ref (ad 0)), (1, .int x1), (2, .int x2), (3, .int x3), (4, .int x4)]) hx hb dM_test_70 hl (k := 5) rfl (by rw [ex5_36]; rfl) (by decide) rfl (fun ls hl => ?_)
          refine lv_goto (tgt := 38) hx hb dM_test_73 (by decide) ?_
          exact ih38 _ _ _ hf _ _ _ hZ (lv_sub hl [1, 2, 3, 4, 5, 0] rfl)
        · have hf := m_t hf c_32
          obtain ⟨x3_33, ex3_33, hf⟩ := m_lx hf
          refine lv_iinc (v := x3_33) (lv' := [(3, .int x3_33), (0, .ref (ad 0)), (1, .int x1), (2, .int x2), (4, .int x4), (5, .int x5)]) hx hb dM_test_58 hl (k := 3) rfl (by rw [ex3_33]; rfl) (by decide) rfl (fun ls hl => ?_)
          refine lv_aload_n hx hb dM_test_61 rfl (lv_at hl 1 rfl) ?_
          refine m_getR (k' := 20) hx hb hts in_M hown hK hZ (by decide) rfl rfl 34 (by decide) (hts _ k3_73) (fun _ h9 => h9) rfl dM_test_62 ?_
          refine lv_iload hx hb dM_test_65 (lv_at hl 5 rfl) ?_
          refine m_iald hx hb hK hZ (by decide) rfl h_31 dM_test_67 ?_
          obtain ⟨x4_34, ex4_34, hf⟩ := m_lx hf
          refine m_topi ex4_34 ?_
          refine lv_istore (lv' := [(4, .int x4_34), (3, .int x3_33), (0, .ref (ad 0)), (1, .int x1), (2, .int x2), (5, .int x5)]) hx hb dM_test_68 hl (by decide) rfl (fun ls hl => ?_)
          obtain ⟨x5_35, ex5_35, hf⟩ := m_lx hf
          refine lv_iinc (v := x5_35) (lv' := [(5, .int x5_35), (4, .int x4_34), (3, .int x3_33), (0, .ref (ad 0)), (1, .int x1), (2, .int x2)]) hx hb dM_test_70 hl (k := 5) rfl (by rw [ex5_35]; rfl) (by decide) rfl (fun ls hl => ?_)
          refine lv_goto (tgt := 38) hx hb dM_test_73 (by decide) ?_
          exact ih38 _ _ _ hf _ _ _ hZ (lv_sub hl [3, 4, 5, 2, 1, 0] rfl)
  refine lv_aload_n hx hb dM_test_0 rfl (lv_at hl 0 rfl) ?_
  refine lv_iload_n hx hb dM_test_1 rfl (lv_at hl 1 rfl) ?_
  obtain ⟨r_1, hc, hf⟩ := m_b1x hf
  refine m_ci (va_runV (As := [.int x1]) (rest := []) ⟨hx, hb, hml, hown, hts⟩ (cM_isSieve l D ad c3 M x1 hc) (cwV 1 hts (gV k3_166 k3_168 kp_12 k1_8 kc_M_isSieve) rfl rfl rfl (by decide +kernel) ⟨by decide, by decide⟩) (m_preV hK hN hZ (by decide) rfl rfl) rfl rfl hl.1 rfl (lv_room (Nat.le_of_ble_eq_true rfl)) dM_test_2 ⟨Nat.zero_le _, Nat.zero_le _⟩) hZ (fun H locs hZ => ?_)
  refine lv_if_eq (tgt := 28) hx hb dM_test_5 (by decide) (fun c_2 => ?_) (fun c_2 => ?_)
  · have hf := m_t hf c_2
    refine lv_iconst (v := (-1)) hx hb dM_test_28 (by decide) ?_
    exact hret _ _ _ _ _ _ hf rfl hZ dM_test_29
  · have hf := m_f hf c_2
    refine lv_iload_n hx hb dM_test_8 rfl (lv_at hl 2 rfl) ?_
    refine lv_iconst (v := 0) hx hb dM_test_9 (by decide) ?_
    refine lv_sipush (v := 1000) hx hb dM_test_10 (by decide) ?_
    obtain ⟨r_3, hc, hf⟩ := m_b1x hf
    refine m_ci (va_runS (As := [.int x2, .int 0, .int 1000]) (rest := []) ⟨hx, hb, hml, hown, hts⟩ (cM_within l D ad c3 M x2 0 1000 hc) (cwS 3 hts (gS9 k3_175 k3_176 k1_8 kc_M_within) rfl rfl rfl (by decide +kernel) ⟨by decide, by decide⟩) (m_preS hK hN hZ) rfl rfl hl.1 rfl (lv_room (Nat.le_of_ble_eq_true rfl)) dM_test_13 ⟨Nat.zero_le _, Nat.zero_le _⟩) hZ (fun H locs hZ => ?_)
    refine lv_if_eq (tgt := 28) hx hb dM_test_16 (by decide) (fun c_4 => ?_) (fun c_4 => ?_)
    · have hf := m_t hf c_4
      refine lv_iconst (v := (-1)) hx hb dM_test_28 (by decide) ?_
      exact hret _ _ _ _ _ _ hf rfl hZ dM_test_29
    · have hf := m_f hf c_4
      refine lv_aload_n hx hb dM_test_19 rfl (lv_at hl 0 rfl) ?_
      refine m_get hx hb hts in_M hown hK hZ (by decide) rfl rfl 32 (by decide) (hts _ k3_71) (fun _ h9 => h9) rfl dM_test_20 ?_
      refine lv_bipush (v := 100) hx hb dM_test_23 (by decide) ?_
      refine lv_icmp_ne (tgt := 30) hx hb dM_test_25 (by decide) (fun c_5 => ?_) (fun c_5 => ?_)
      · have hf := m_f hf c_5
        refine lv_iconst (v := 0) hx hb dM_test_30 (by decide) ?_
        refine lv_istore_n (lv' := [(3, .int 0), (0, .ref (ad 0)), (1, .int x1), (2, .int x2)]) hx hb dM_test_31 rfl hl (by decide) rfl (fun ls hl => ?_)
        refine lv_iload_n hx hb dM_test_32 rfl (lv_at hl 3 rfl) ?_
        refine lv_istore (lv' := [(4, .int x2), (3, .int 0), (0, .ref (ad 0)), (1, .int x1), (2, .int x2)]) hx hb dM_test_33 hl (by decide) rfl (fun ls hl => ?_)
        refine lv_iconst (v := 0) hx hb dM_test_35 (by decide) ?_
        refine lv_istore (lv' := [(5, .int 0), (4, .int x2), (3, .int 0), (0, .ref (ad 0)), (1, .int x1), (2, .int x2)]) hx hb dM_test_36 hl (by decide) rfl (fun ls hl => ?_)
        exact L38 M 128 0 x2 0 hf _ _ _ hZ (lv_sub hl [3, 4, 5, 2, 1, 0] rfl)
      · have hf := m_t hf c_5
        refine lv_iconst (v := (-1)) hx hb dM_test_28 (by decide) ?_
        exact hret _ _ _ _ _ _ hf rfl hZ dM_test_29
abbrev rmM_fired : Room := { frames := 1, cells := 0, slots := 0, locals := 22 }
set_option maxHeartbeats 4000000 in
set_option maxRecDepth 100000 in
theorem cM_fired (l : Launch) (D : va_G) (ad : Nat → Nat) (c3 : ClassId × ClassId × ClassId) (M : mMem) (x1 : Int32) (x2 : Int32)  {r : Int32} (hf : fM_fired M x1 x2 = some r) : kPM l D ad c3 yM_fired wM_fired rmM_fired [.ref (ad 0), .int x1, .int x2] M r := by
  refine m_oP (cc := bM_fired) (maxL := 5) (ty := .int) (own := R_M) nestM (by decide) rfl (Nat.le_of_ble_eq_true rfl) rfl (fun p e s m args below meth c Q hx hb hml hown hts hK hN hret ls hZ hl => ?_)
  have hl : lv_has ls 5 [(0, .ref (ad 0)), (1, .int x1), (2, .int x2)] := hl
  unfold fM_fired at hf
  have L16 : ∀ (n16 : Nat) (x3 : Int32) (x4 : Int32), fM_fired_L16 x2 M n16 x3 x4 = some r → ∀ (H : Heap) (locs : List Loc) (ls : Array Slot), zM D ad c3 s H locs M → lv_has ls 5 [(0, .ref (ad 0)), (2, .int x2), (3, .int x3), (4, .int x4)] → W p l e rmM_fired s m args below meth c H locs 0 0 Q (F0 m 16 ls []) := by
    intro n16
    induction n16 with
    | zero => intro x3 x4 hf; exact m_none hf
    | succ n16 ih16 =>
      intro x3 x4 hf H locs ls hZ hl
      rw [fM_fired_L16] at hf
      refine lv_iload hx hb dM_fired_16 (lv_at hl 3 rfl) ?_
      refine lv_aload_n hx hb dM_fired_18 rfl (lv_at hl 0 rfl) ?_
      refine m_get hx hb hts in_M hown hK hZ (by decide) rfl rfl 32 (by decide) (hts _ k3_71) (fun _ h9 => h9) rfl dM_fired_19 ?_
      refine lv_icmp_ge (tgt := 89) hx hb dM_fired_22 (by decide) (fun c_3 => ?_) (fun c_3 => ?_)
      · have hf := m_t hf c_3
        refine lv_iconst (v := (-1)) hx hb dM_fired_89 (by decide) ?_
        exact hret _ _ _ _ _ (fun _ _ => 0) hf rfl hZ dM_fired_90
      · have hf := m_f hf c_3
        refine lv_iload_n hx hb dM_fired_25 rfl (lv_at hl 2 rfl) ?_
        refine lv_if_lt (tgt := 89) hx hb dM_fired_26 (by decide) (fun c_4 => ?_) (fun c_4 => ?_)
        · have hf := m_t hf c_4
          refine lv_iconst (v := (-1)) hx hb dM_fired_89 (by decide) ?_
          exact hret _ _ _ _ _ (fun _ _ => 0) hf rfl hZ dM_fired_90
        · have hf := m_f hf c_4
          refine lv_aload_n hx hb dM_fired_29 rfl (lv_at hl 0 rfl) ?_
          refine m_getR (k' := 22) hx hb hts in_M hown hK hZ (by decide) rfl rfl 36 (by decide) (hts _ k3_75) (fun _ h9 => h9) rfl dM_fired_30 ?_
          refine lv_iload hx hb dM_fired_33 (lv_at hl 3 rfl) ?_
          obtain ⟨h_5, hf⟩ := m_gx hf
          refine m_iald hx hb hK hZ (by decide) rfl h_5 dM_fired_35 ?_
          refine lv_if_le (tgt := 83) hx hb dM_fired_36 (by decide) (fun c_6 => ?_) (fun c_6 => ?_)
          · have hf := m_t hf c_6
            obtain ⟨x4_7, ex4_7, hf⟩ := m_lx hf
            refine lv_iinc (v := x4_7) (lv' := [(4, .int x4_7), (0, .ref (ad 0)), (2, .int x2), (3, .int x3)]) hx hb dM_fired_83 hl (k := 3) rfl (by rw [ex4_7]; rfl) (by decide) rfl (fun ls hl => ?_)
            refine lv_goto (tgt := 16) hx hb dM_fired_86 (by decide) ?_
            exact ih16 _ _ hf _ _ _ hZ (lv_sub hl [1, 2, 3, 0] rfl)
          · have hf := m_f hf c_6
            refine lv_iload_n hx hb dM_fired_39 rfl (lv_at hl 2 rfl) ?_
            refine lv_if_ne (tgt := 80) hx hb dM_fired_40 (by decide) (fun c_8 => ?_) (fun c_8 => ?_)
            · have hf := m_f hf c_8
              obtain ⟨x3_11, ex3_11, hf⟩ := m_lx hf
              refine lv_iinc (v := x3_11) (lv' := [(3, .int x3_11), (0, .ref (ad 0)), (2, .int x2), (4, .int x4)]) hx hb dM_fired_80 hl (k := 2) rfl (by rw [ex3_11]; rfl) (by decide) rfl (fun ls hl => ?_)
              obtain ⟨x4_12, ex4_12, hf⟩ := m_lx hf
              refine lv_iinc (v := x4_12) (lv' := [(4, .int x4_12), (3, .int x3_11), (0, .ref (ad 0)), (2, .int x2)]) hx hb dM_fired_83 hl (k := 3) rfl (by rw [ex4_12]; rfl) (by decide) rfl (fun ls hl => ?_)
              refine lv_goto (tgt := 16) hx hb dM_fired_86 (by decide) ?_
              exact ih16 _ _ hf _ _ _ hZ (lv_sub hl [2, 3, 1, 0] rfl)
            · have hf := m_t hf c_8
              refine lv_iload_n hx hb dM_fired_43 rfl (lv_at hl 1 rfl) ?_
              refine lv_if_ne (tgt := 57) hx hb dM_fired_44 (by decide) (fun c_9 => ?_) (fun c_9 => ?_)
              · have hf := m_f hf c_9
                refine lv_iload_n hx hb dM_fired_57 rfl (lv_at hl 1 rfl) ?_
                refine lv_iconst (v := 1) hx hb dM_fired_58 (by decide) ?_
                refine lv_icmp_ne (tgt := 72) hx hb dM_fired_59 (by decide) (fun c_10 => ?_) (fun c_10 => ?_)
                · have hf := m_f hf c_10
                  refine lv_aload_n hx hb dM_fired_72 rfl (lv_at hl 0 rfl) ?_
                  refine m_getR (k' := 22) hx hb hts in_M hown hK hZ (by decide) rfl rfl 36 (by decide) (hts _ k3_75) (fun _ h9 => h9) rfl dM_fired_73 ?_
                  refine lv_iload hx hb dM_fired_76 (lv_at hl 3 rfl) ?_
                  refine m_iald hx hb hK hZ (by decide) rfl h_5 dM_fired_78 ?_
                  exact hret _ _ _ _ _ (fun _ _ => 0) hf rfl hZ dM_fired_79
                · have hf := m_t hf c_10
                  refine lv_aload_n hx hb dM_fired_62 rfl (lv_at hl 0 rfl) ?_
                  refine m_getR (k' := 21) hx hb hts in_M hown hK hZ (by decide) rfl rfl 35 (by decide) (hts _ k3_74) (fun _ h9 => h9) rfl dM_fired_63 ?_
                  refine lv_iload hx hb dM_fired_66 (lv_at hl 3 rfl) ?_
                  refine m_iald hx hb hK hZ (by decide) rfl h_5 dM_fired_68 ?_
                  refine lv_goto (tgt := 79) hx hb dM_fired_69 (by decide) ?_
                  exact hret _ _ _ _ _ (fun _ _ => 0) hf rfl hZ dM_fired_79
              · have hf := m_t hf c_9
                refine lv_aload_n hx hb dM_fired_47 rfl (lv_at hl 0 rfl) ?_
                refine m_getR (k' := 19) hx hb hts in_M hown hK hZ (by decide) rfl rfl 33 (by decide) (hts _ k3_72) (fun _ h9 => h9) rfl dM_fired_48 ?_
                refine lv_iload hx hb dM_fired_51 (lv_at hl 3 rfl) ?_
                refine m_iald hx hb hK hZ (by decide) rfl h_5 dM_fired_53 ?_
                refine lv_goto (tgt := 79) hx hb dM_fired_54 (by decide) ?_
                exact hret _ _ _ _ _ (fun _ _ => 0) hf rfl hZ dM_fired_79
  refine lv_iload_n hx hb dM_fired_0 rfl (lv_at hl 2 rfl) ?_
  refine lv_iconst (v := 0) hx hb dM_fired_1 (by decide) ?_
  refine lv_iconst (v := 2) hx hb dM_fired_2 (by decide) ?_
  obtain ⟨r_1, hc, hf⟩ := m_b1x hf
  refine m_ci (va_runS (As := [.int x2, .int 0, .int 2]) (rest := []) ⟨hx, hb, hml, hown, hts⟩ (cM_within l D ad c3 M x2 0 2 hc) (cwS 3 hts (gS9 k3_175 k3_176 k1_8 kc_M_within) rfl rfl rfl (by decide +kernel) ⟨by decide, by decide⟩) (m_preS hK hN hZ) rfl rfl hl.1 rfl (lv_room (Nat.le_of_ble_eq_true rfl)) dM_fired_3 ⟨Nat.zero_le _, Nat.zero_le _⟩) hZ (fun H locs hZ => ?_)
  refine lv_if_ne (tgt := 11) hx hb dM_fired_6 (by decide) (fun c_2 => ?_) (fun c_2 => ?_)
  · have hf := m_f hf c_2
    refine lv_iload_n hx hb dM_fired_11 rfl (lv_at hl 1 rfl) ?_
    refine lv_istore_n (lv' := [(3, .int x1), (0, .ref (ad 0)), (1, .int x1), (2, .int x2)]) hx hb dM_fired_12 rfl hl (by decide) rfl (fun ls hl => ?_)
    refine lv_iconst (v := 0) hx hb dM_fired_13 (by decide) ?_
    refine lv_istore (lv' := [(4, .int 0), (3, .int x1), (0, .ref (ad 0)), (1, .int x1), (2, .int x2)]) hx hb dM_fired_14 hl (by decide) rfl (fun ls hl => ?_)
    exact L16 128 x1 0 hf _ _ _ hZ (lv_sub hl [2, 4, 1, 0] rfl)
  · have hf := m_t hf c_2
    refine lv_iconst (v := (-1)) hx hb dM_fired_9 (by decide) ?_
    exact hret _ _ _ _ _ (fun _ _ => 0) hf rfl hZ dM_fired_10
