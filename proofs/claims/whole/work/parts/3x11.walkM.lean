abbrev rmM_count : Room := { frames := 5, cells := 0, slots := 0, locals := 130 }
set_option maxHeartbeats 4000000 in
set_option maxRecDepth 100000 in
theorem cM_count (l : Launch) (D : va_G) (ad : Nat → Nat) (c3 : ClassId × ClassId × ClassId) (M : mMem) (x1 : Int32)  {r : Int32} {M' : mMem} (hf : fM_count M x1 = some (r, M')) : kIM l D ad c3 yM_count wM_count rmM_count [.ref (ad 0), .int x1] M r M' := by
  refine m_oI (cc := bM_count) (maxL := 4) (ty := .int) (own := R_M) nestM (by decide) rfl (Nat.le_of_ble_eq_true rfl) rfl (fun p e s m args below meth c Q hx hb hml hown hts hK hN hret ls hZ hl => ?_)
  have hl : lv_has ls 4 [(0, .ref (ad 0)), (1, .int x1)] := hl
  unfold fM_count at hf
  have L57 : ∀ (M : mMem) (n57 : Nat) (x2 : Int32) (x3 : Int32), fM_count_L57 M n57 x2 x3 = some (r, M') → ∀ (H : Heap) (locs : List Loc) (ls : Array Slot), zM D ad c3 s H locs M → lv_has ls 4 [(0, .ref (ad 0)), (2, .int x2), (3, .int x3)] → W p l e rmM_count s m args below meth c H locs 0 0 Q (F0 m 57 ls []) := by
    intro M n57
    induction n57 with
    | zero => intro x2 x3 hf; exact m_none hf
    | succ n57 ih57 =>
      intro x2 x3 hf H locs ls hZ hl
      rw [fM_count_L57] at hf
      refine lv_iload_n hx hb dM_count_57 rfl (lv_at hl 2 rfl) ?_
      refine lv_aload_n hx hb dM_count_58 rfl (lv_at hl 0 rfl) ?_
      refine m_get hx hb hts in_M hown hK hZ (by decide) rfl rfl 32 (by decide) (hts _ k3_71) (fun _ h9 => h9) rfl dM_count_59 ?_
      refine lv_icmp_ge (tgt := 88) hx hb dM_count_62 (by decide) (fun c_5 => ?_) (fun c_5 => ?_)
      · have hf := m_t hf c_5
        refine lv_iload_n hx hb dM_count_88 rfl (lv_at hl 1 rfl) ?_
        exact hret _ _ _ _ _ _ hf rfl hZ dM_count_89
      · have hf := m_f hf c_5
        refine lv_iload_n hx hb dM_count_65 rfl (lv_at hl 1 rfl) ?_
        refine lv_aload_n hx hb dM_count_66 rfl (lv_at hl 0 rfl) ?_
        refine m_getR (k' := 22) hx hb hts in_M hown hK hZ (by decide) rfl rfl 36 (by decide) (hts _ k3_75) (fun _ h9 => h9) rfl dM_count_67 ?_
        refine lv_iload_n hx hb dM_count_70 rfl (lv_at hl 2 rfl) ?_
        obtain ⟨h_6, hf⟩ := m_gx hf
        refine m_iald hx hb hK hZ (by decide) rfl h_6 dM_count_71 ?_
        refine lv_if_le (tgt := 79) hx hb dM_count_72 (by decide) (fun c_7 => ?_) (fun c_7 => ?_)
        · have hf := m_t hf c_7
          refine lv_iconst (v := 0) hx hb dM_count_79 (by decide) ?_
          refine lv_iadd hx hb dM_count_80 ?_
          obtain ⟨x2_8, ex2_8, hf⟩ := m_lx hf
          refine m_topi ex2_8 ?_
          refine lv_istore_n (lv' := [(2, .int x2_8), (0, .ref (ad 0)), (3, .int x3)]) hx hb dM_count_81 rfl hl (by decide) rfl (fun ls hl => ?_)
          obtain ⟨x3_9, ex3_9, hf⟩ := m_lx hf
          refine lv_iinc (v := x3_9) (lv' := [(3, .int x3_9), (2, .int x2_8), (0, .ref (ad 0))]) hx hb dM_count_82 hl (k := 2) rfl (by rw [ex3_9]; rfl) (by decide) rfl (fun ls hl => ?_)
          refine lv_goto (tgt := 57) hx hb dM_count_85 (by decide) ?_
          exact ih57 _ _ hf _ _ _ hZ (lv_sub hl [2, 1, 0] rfl)
        · have hf := m_f hf c_7
          refine lv_iconst (v := 1) hx hb dM_count_75 (by decide) ?_
          refine lv_goto (tgt := 80) hx hb dM_count_76 (by decide) ?_
          refine lv_iadd hx hb dM_count_80 ?_
          obtain ⟨x2_10, ex2_10, hf⟩ := m_lx hf
          refine m_topi ex2_10 ?_
          refine lv_istore_n (lv' := [(2, .int x2_10), (0, .ref (ad 0)), (3, .int x3)]) hx hb dM_count_81 rfl hl (by decide) rfl (fun ls hl => ?_)
          obtain ⟨x3_11, ex3_11, hf⟩ := m_lx hf
          refine lv_iinc (v := x3_11) (lv' := [(3, .int x3_11), (2, .int x2_10), (0, .ref (ad 0))]) hx hb dM_count_82 hl (k := 2) rfl (by rw [ex3_11]; rfl) (by decide) rfl (fun ls hl => ?_)
          refine lv_goto (tgt := 57) hx hb dM_count_85 (by decide) ?_
          exact ih57 _ _ hf _ _ _ hZ (lv_sub hl [2, 1, 0] rfl)
  refine lv_iconst (v := 0) hx hb dM_count_0 (by decide) ?_
  refine lv_istore_n (lv' := [(2, .int 0), (0, .ref (ad 0)), (1, .int x1)]) hx hb dM_count_1 rfl hl (by decide) rfl (fun ls hl => ?_)
  refine lv_iload_n hx hb dM_count_2 rfl (lv_at hl 2 rfl) ?_
  by_cases c_1 : x1 = 0
  · have hf := m_t hf c_1
    refine lv_tableIn (tgt := 40) hx hb dM_count_3 (by rw [c_1]; decide) (by rw [c_1]; decide) (by rw [c_1]; rfl) (by decide) ?_
    refine lv_aload_n hx hb dM_count_40 rfl (lv_at hl 1 rfl) ?_
    refine m_get hx hb hts in_M hown hK hZ (by decide) rfl rfl 0 (by decide) (hts _ k3_39) (fun _ h9 => h9) rfl dM_count_41 ?_
    exact hret _ _ _ _ _ _ hf rfl hZ dM_count_44
  have hf := m_f hf c_1
  by_cases c_2 : x1 = 1
  · have hf := m_t hf c_2
    refine lv_tableIn (tgt := 45) hx hb dM_count_3 (by rw [c_2]; decide) (by rw [c_2]; decide) (by rw [c_2]; rfl) (by decide) ?_
    refine lv_aload_n hx hb dM_count_45 rfl (lv_at hl 1 rfl) ?_
    refine m_get hx hb hts in_M hown hK hZ (by decide) rfl rfl 3 (by decide) (hts _ k3_42) (fun _ h9 => h9) rfl dM_count_46 ?_
    exact hret _ _ _ _ _ _ hf rfl hZ dM_count_49
  have hf := m_f hf c_2
  by_cases c_3 : x1 = 2
  · have hf := m_t hf c_3
    refine lv_tableIn (tgt := 50) hx hb dM_count_3 (by rw [c_3]; decide) (by rw [c_3]; decide) (by rw [c_3]; rfl) (by decide) ?_
    refine lv_aload_n hx hb dM_count_50 rfl (lv_at hl 1 rfl) ?_
    refine m_get hx hb hts in_M hown hK hZ (by decide) rfl rfl 32 (by decide) (hts _ k3_71) (fun _ h9 => h9) rfl dM_count_51 ?_
    exact hret _ _ _ _ _ _ hf rfl hZ dM_count_54
  have hf := m_f hf c_3
  by_cases c_4 : x1 = 3
  · have hf := m_t hf c_4
    refine lv_tableIn (tgt := 55) hx hb dM_count_3 (by rw [c_4]; decide) (by rw [c_4]; decide) (by rw [c_4]; rfl) (by decide) ?_
    refine lv_iconst (v := 0) hx hb dM_count_55 (by decide) ?_
    refine lv_istore_n (lv' := [(3, .int 0), (2, .int 0), (0, .ref (ad 0)), (1, .int x1)]) hx hb dM_count_56 rfl hl (by decide) rfl (fun ls hl => ?_)
    exact L57 M 128 0 0 hf _ _ _ hZ (lv_sub hl [2, 1, 0] rfl)
  have hf := m_f hf c_4
  by_cases c_12 : x1 = 4
  · have hf := m_t hf c_12
    refine lv_tableIn (tgt := 90) hx hb dM_count_3 (by rw [c_12]; decide) (by rw [c_12]; decide) (by rw [c_12]; rfl) (by decide) ?_
    refine lv_aload_n hx hb dM_count_90 rfl (lv_at hl 1 rfl) ?_
    refine lv_iconst (v := 1) hx hb dM_count_91 (by decide) ?_
    refine lv_iconst (v := (-1)) hx hb dM_count_92 (by decide) ?_
    refine lv_iconst (v := 0) hx hb dM_count_93 (by decide) ?_
    refine lv_iconst (v := 0) hx hb dM_count_94 (by decide) ?_
    obtain ⟨M_13, hc, hf⟩ := m_b1x hf
    refine m_cv (va_runV (As := [.int 1, .int (-1), .int 0, .int 0]) (rest := []) ⟨hx, hb, hml, hown, hts⟩ (cM_goThrough l D ad c3 M 1 (-1) 0 0 hc) (cwV 4 hts (gV k3_222 k3_224 kp_18 k1_8 kc_M_goThrough) rfl rfl rfl (by decide +kernel) ⟨by decide, by decide⟩) (m_preV hK hN hZ (by decide) rfl rfl) rfl rfl hl.1 rfl (lv_room (Nat.le_of_ble_eq_true rfl)) dM_count_95 ⟨Nat.zero_le _, Nat.zero_le _⟩) hZ (fun H locs hZ => ?_)
    refine lv_aload_n hx hb dM_count_98 rfl (lv_at hl 1 rfl) ?_
    refine m_get hx hb hts in_M hown hK hZ (by decide) rfl rfl 25 (by decide) (hts _ k3_64) (fun _ h9 => h9) rfl dM_count_99 ?_
    exact hret _ _ _ _ _ _ hf rfl hZ dM_count_102
  have hf := m_f hf c_12
  by_cases c_14 : x1 = 5
  · have hf := m_t hf c_14
    refine lv_tableIn (tgt := 103) hx hb dM_count_3 (by rw [c_14]; decide) (by rw [c_14]; decide) (by rw [c_14]; rfl) (by decide) ?_
    refine lv_aload_n hx hb dM_count_103 rfl (lv_at hl 1 rfl) ?_
    refine lv_iconst (v := 1) hx hb dM_count_104 (by decide) ?_
    refine lv_iconst (v := (-1)) hx hb dM_count_105 (by decide) ?_
    refine lv_iconst (v := 0) hx hb dM_count_106 (by decide) ?_
    refine lv_iconst (v := 0) hx hb dM_count_107 (by decide) ?_
    obtain ⟨M_15, hc, hf⟩ := m_b1x hf
    refine m_cv (va_runV (As := [.int 1, .int (-1), .int 0, .int 0]) (rest := []) ⟨hx, hb, hml, hown, hts⟩ (cM_goThrough l D ad c3 M 1 (-1) 0 0 hc) (cwV 4 hts (gV k3_222 k3_224 kp_18 k1_8 kc_M_goThrough) rfl rfl rfl (by decide +kernel) ⟨by decide, by decide⟩) (m_preV hK hN hZ (by decide) rfl rfl) rfl rfl hl.1 rfl (lv_room (Nat.le_of_ble_eq_true rfl)) dM_count_108 ⟨Nat.zero_le _, Nat.zero_le _⟩) hZ (fun H locs hZ => ?_)
    refine lv_aload_n hx hb dM_count_111 rfl (lv_at hl 1 rfl) ?_
    refine m_get hx hb hts in_M hown hK hZ (by decide) rfl rfl 26 (by decide) (hts _ k3_65) (fun _ h9 => h9) rfl dM_count_112 ?_
    exact hret _ _ _ _ _ _ hf rfl hZ dM_count_115
  have hf := m_f hf c_14
  refine lv_tableOut (tgt := 116) hx hb dM_count_3 (m_sw0_5 c_1 c_2 c_3 c_4 c_12 c_14) (by decide) ?_
  refine lv_iconst (v := (-1)) hx hb dM_count_116 (by decide) ?_
  exact hret _ _ _ _ _ _ hf rfl hZ dM_count_117
