abbrev rmM_isMix : Room := { frames := 1, cells := 0, slots := 0, locals := 22 }
set_option maxHeartbeats 4000000 in
set_option maxRecDepth 100000 in
theorem cM_isMix (l : Launch) (D : va_G) (ad : Nat → Nat) (c3 : ClassId × ClassId × ClassId) (M : mMem)   {r : Int32} (hf : fM_isMix M  = some r) : kPM l D ad c3 yM_isMix wM_isMix rmM_isMix [.ref (ad 0)] M r := by
  refine m_oP (cc := bM_isMix) (maxL := 5) (ty := .boolean) (own := R_M) nestM (by decide) rfl (Nat.le_of_ble_eq_true rfl) rfl (fun p e s m args below meth c Q hx hb hml hown hts hK hN hret ls hZ hl => ?_)
  have hl : lv_has ls 5 [(0, .ref (ad 0))] := hl
  unfold fM_isMix at hf
  have B111 : ∀ (x1 : Int32) (x2 : Int32), fM_isMix_B111 M x1 x2 = some r → ∀ (H : Heap) (locs : List Loc) (ls : Array Slot), zM D ad c3 s H locs M → lv_has ls 5 [(0, .ref (ad 0)), (1, .int x1), (2, .int x2)] → W p l e rmM_isMix s m args below meth c H locs 0 0 Q (F0 m 111 ls []) := by
    intro x1 x2 hf H locs ls hZ hl
    unfold fM_isMix_B111 at hf
    refine lv_iload_n hx hb dM_isMix_111 rfl (lv_at hl 1 rfl) ?_
    refine lv_bipush (v := 100) hx hb dM_isMix_112 (by decide) ?_
    refine lv_icmp_ne (tgt := 129) hx hb dM_isMix_114 (by decide) (fun c_2 => ?_) (fun c_2 => ?_)
    · have hf := m_f hf c_2
      refine lv_iconst (v := 0) hx hb dM_isMix_129 (by decide) ?_
      exact hret _ _ _ _ _ (fun _ _ => 0) hf rfl hZ dM_isMix_130
    · have hf := m_t hf c_2
      refine lv_iload_n hx hb dM_isMix_117 rfl (lv_at hl 2 rfl) ?_
      refine lv_aload_n hx hb dM_isMix_118 rfl (lv_at hl 0 rfl) ?_
      refine m_get hx hb hts in_M hown hK hZ (by decide) rfl rfl 11 (by decide) (hts _ k3_50) (fun _ h9 => h9) rfl dM_isMix_119 ?_
      refine lv_icmp_gt (tgt := 129) hx hb dM_isMix_122 (by decide) (fun c_3 => ?_) (fun c_3 => ?_)
      · have hf := m_t hf c_3
        refine lv_iconst (v := 0) hx hb dM_isMix_129 (by decide) ?_
        exact hret _ _ _ _ _ (fun _ _ => 0) hf rfl hZ dM_isMix_130
      · have hf := m_f hf c_3
        refine lv_iconst (v := 1) hx hb dM_isMix_125 (by decide) ?_
        refine lv_goto (tgt := 130) hx hb dM_isMix_126 (by decide) ?_
        exact hret _ _ _ _ _ (fun _ _ => 0) hf rfl hZ dM_isMix_130
  have L6 : ∀ (n6 : Nat) (x1 : Int32) (x2 : Int32) (x3 : Int32), fM_isMix_L6 M n6 x1 x2 x3 = some r → ∀ (H : Heap) (locs : List Loc) (ls : Array Slot), zM D ad c3 s H locs M → lv_has ls 5 [(0, .ref (ad 0)), (1, .int x1), (2, .int x2), (3, .int x3)] → W p l e rmM_isMix s m args below meth c H locs 0 0 Q (F0 m 6 ls []) := by
    intro n6
    induction n6 with
    | zero => intro x1 x2 x3 hf; exact m_none hf
    | succ n6 ih6 =>
      intro x1 x2 x3 hf H locs ls hZ hl
      rw [fM_isMix_L6] at hf
      have B57 : ∀ (x1 : Int32) (x2 : Int32) (x3 : Int32) (s0 : Int32), fM_isMix_B57 (fM_isMix_L6 M n6) M x1 x2 x3 s0 = some r → ∀ (H : Heap) (locs : List Loc) (ls : Array Slot), zM D ad c3 s H locs M → lv_has ls 5 [(0, .ref (ad 0)), (1, .int x1), (2, .int x2), (3, .int x3)] → W p l e rmM_isMix s m args below meth c H locs 0 0 Q (F0 m 57 ls [.int s0]) := by
        intro x1 x2 x3 s0 hf H locs ls hZ hl
        unfold fM_isMix_B57 at hf
        refine lv_istore (lv' := [(4, .int s0), (0, .ref (ad 0)), (1, .int x1), (2, .int x2), (3, .int x3)]) hx hb dM_isMix_57 hl (by decide) rfl (fun ls hl => ?_)
        refine lv_iload hx hb dM_isMix_59 (lv_at hl 0 rfl) ?_
        refine lv_if_ne (tgt := 66) hx hb dM_isMix_61 (by decide) (fun c_7 => ?_) (fun c_7 => ?_)
        · have hf := m_f hf c_7
          refine lv_iload_n hx hb dM_isMix_66 rfl (lv_at hl 2 rfl) ?_
          refine lv_aload_n hx hb dM_isMix_67 rfl (lv_at hl 1 rfl) ?_
          refine m_getR (k' := 14) hx hb hts in_M hown hK hZ (by decide) rfl rfl 20 (by decide) (hts _ k3_59) (fun _ h9 => h9) rfl dM_isMix_68 ?_
          refine lv_iload_n hx hb dM_isMix_71 rfl (lv_at hl 4 rfl) ?_
          obtain ⟨h_8, hf⟩ := m_gx hf
          refine m_iald hx hb hK hZ (by decide) rfl h_8 dM_isMix_72 ?_
          refine lv_iadd hx hb dM_isMix_73 ?_
          obtain ⟨x1_9, ex1_9, hf⟩ := m_lx hf
          refine m_topi ex1_9 ?_
          refine lv_istore_n (lv' := [(1, .int x1_9), (4, .int s0), (0, .ref (ad 0)), (2, .int x2), (3, .int x3)]) hx hb dM_isMix_74 rfl hl (by decide) rfl (fun ls hl => ?_)
          refine lv_iload_n hx hb dM_isMix_75 rfl (lv_at hl 3 rfl) ?_
          refine lv_iload_n hx hb dM_isMix_76 rfl (lv_at hl 4 rfl) ?_
          refine lv_aload_n hx hb dM_isMix_77 rfl (lv_at hl 2 rfl) ?_
          refine m_get hx hb hts in_M hown hK hZ (by decide) rfl rfl 3 (by decide) (hts _ k3_42) (fun _ h9 => h9) rfl dM_isMix_78 ?_
          refine lv_icmp_ge (tgt := 102) hx hb dM_isMix_81 (by decide) (fun c_10 => ?_) (fun c_10 => ?_)
          · have hf := m_t hf c_10
            refine lv_iconst (v := 0) hx hb dM_isMix_102 (by decide) ?_
            refine lv_iadd hx hb dM_isMix_103 ?_
            obtain ⟨x2_11, ex2_11, hf⟩ := m_lx hf
            refine m_topi ex2_11 ?_
            refine lv_istore_n (lv' := [(2, .int x2_11), (1, .int x1_9), (4, .int s0), (0, .ref (ad 0)), (3, .int x3)]) hx hb dM_isMix_104 rfl hl (by decide) rfl (fun ls hl => ?_)
            obtain ⟨x3_12, ex3_12, hf⟩ := m_lx hf
            refine lv_iinc (v := x3_12) (lv' := [(3, .int x3_12), (2, .int x2_11), (1, .int x1_9), (4, .int s0), (0, .ref (ad 0))]) hx hb dM_isMix_105 hl (k := 4) rfl (by rw [ex3_12]; rfl) (by decide) rfl (fun ls hl => ?_)
            refine lv_goto (tgt := 6) hx hb dM_isMix_108 (by decide) ?_
            exact ih6 _ _ _ hf _ _ _ hZ (lv_sub hl [4, 2, 1, 0] rfl)
          · have hf := m_f hf c_10
            refine lv_aload_n hx hb dM_isMix_84 rfl (lv_at hl 2 rfl) ?_
            refine m_getR (k' := 6) hx hb hts in_M hown hK hZ (by decide) rfl rfl 7 (by decide) (hts _ k3_46) (fun _ h9 => h9) rfl dM_isMix_85 ?_
            refine lv_iload_n hx hb dM_isMix_88 rfl (lv_at hl 4 rfl) ?_
            refine m_zald hx hb hK hZ (by decide) rfl h_8 dM_isMix_89 ?_
            refine lv_if_eq (tgt := 102) hx hb dM_isMix_90 (by decide) (fun c_13 => ?_) (fun c_13 => ?_)
            · have hf := m_t hf c_13
              refine lv_iconst (v := 0) hx hb dM_isMix_102 (by decide) ?_
              refine lv_iadd hx hb dM_isMix_103 ?_
              obtain ⟨x2_14, ex2_14, hf⟩ := m_lx hf
              refine m_topi ex2_14 ?_
              refine lv_istore_n (lv' := [(2, .int x2_14), (1, .int x1_9), (4, .int s0), (0, .ref (ad 0)), (3, .int x3)]) hx hb dM_isMix_104 rfl hl (by decide) rfl (fun ls hl => ?_)
              obtain ⟨x3_15, ex3_15, hf⟩ := m_lx hf
              refine lv_iinc (v := x3_15) (lv' := [(3, .int x3_15), (2, .int x2_14), (1, .int x1_9), (4, .int s0), (0, .ref (ad 0))]) hx hb dM_isMix_105 hl (k := 4) rfl (by rw [ex3_15]; rfl) (by decide) rfl (fun ls hl => ?_)
              refine lv_goto (tgt := 6) hx hb dM_isMix_108 (by decide) ?_
              exact ih6 _ _ _ hf _ _ _ hZ (lv_sub hl [4, 2, 1, 0] rfl)
            · have hf := m_f hf c_13
              refine lv_aload_n hx hb dM_isMix_93 rfl (lv_at hl 2 rfl) ?_
              refine m_getR (k' := 14) hx hb hts in_M hown hK hZ (by decide) rfl rfl 20 (by decide) (hts _ k3_59) (fun _ h9 => h9) rfl dM_isMix_94 ?_
              refine lv_iload_n hx hb dM_isMix_97 rfl (lv_at hl 4 rfl) ?_
              refine m_iald hx hb hK hZ (by decide) rfl h_8 dM_isMix_98 ?_
              refine lv_goto (tgt := 103) hx hb dM_isMix_99 (by decide) ?_
              refine lv_iadd hx hb dM_isMix_103 ?_
              obtain ⟨x2_16, ex2_16, hf⟩ := m_lx hf
              refine m_topi ex2_16 ?_
              refine lv_istore_n (lv' := [(2, .int x2_16), (1, .int x1_9), (4, .int s0), (0, .ref (ad 0)), (3, .int x3)]) hx hb dM_isMix_104 rfl hl (by decide) rfl (fun ls hl => ?_)
              obtain ⟨x3_17, ex3_17, hf⟩ := m_lx hf
              refine lv_iinc (v := x3_17) (lv' := [(3, .int x3_17), (2, .int x2_16), (1, .int x1_9), (4, .int s0), (0, .ref (ad 0))]) hx hb dM_isMix_105 hl (k := 4) rfl (by rw [ex3_17]; rfl) (by decide) rfl (fun ls hl => ?_)
              refine lv_goto (tgt := 6) hx hb dM_isMix_108 (by decide) ?_
              exact ih6 _ _ _ hf _ _ _ hZ (lv_sub hl [4, 2, 1, 0] rfl)
        · have hf := m_t hf c_7
          refine lv_iconst (v := 0) hx hb dM_isMix_64 (by decide) ?_
          exact hret _ _ _ _ _ (fun _ _ => 0) hf rfl hZ dM_isMix_65
      refine lv_iload_n hx hb dM_isMix_6 rfl (lv_at hl 3 rfl) ?_
      refine lv_iconst (v := 4) hx hb dM_isMix_7 (by decide) ?_
      refine lv_icmp_ge (tgt := 111) hx hb dM_isMix_8 (by decide) (fun c_1 => ?_) (fun c_1 => ?_)
      · have hf := m_t hf c_1
        exact B111 x1 x2 hf _ _ _ hZ (lv_sub hl [0, 1, 2] rfl)
      · have hf := m_f hf c_1
        refine lv_iload_n hx hb dM_isMix_11 rfl (lv_at hl 3 rfl) ?_
        refine lv_aload_n hx hb dM_isMix_12 rfl (lv_at hl 0 rfl) ?_
        refine m_get hx hb hts in_M hown hK hZ (by decide) rfl rfl 3 (by decide) (hts _ k3_42) (fun _ h9 => h9) rfl dM_isMix_13 ?_
        refine lv_icmp_ge (tgt := 43) hx hb dM_isMix_16 (by decide) (fun c_4 => ?_) (fun c_4 => ?_)
        · have hf := m_t hf c_4
          refine lv_aload_n hx hb dM_isMix_43 rfl (lv_at hl 0 rfl) ?_
          refine m_getR (k' := 14) hx hb hts in_M hown hK hZ (by decide) rfl rfl 20 (by decide) (hts _ k3_59) (fun _ h9 => h9) rfl dM_isMix_44 ?_
          refine lv_iload_n hx hb dM_isMix_47 rfl (lv_at hl 3 rfl) ?_
          obtain ⟨h_5, hf⟩ := m_gx hf
          refine m_iald hx hb hK hZ (by decide) rfl h_5 dM_isMix_48 ?_
          refine lv_if_ne (tgt := 56) hx hb dM_isMix_49 (by decide) (fun c_6 => ?_) (fun c_6 => ?_)
          · have hf := m_f hf c_6
            refine lv_iconst (v := 0) hx hb dM_isMix_56 (by decide) ?_
            exact B57 x1 x2 x3 0 hf _ _ _ hZ (lv_sub hl [0, 1, 2, 3] rfl)
          · have hf := m_t hf c_6
            refine lv_iconst (v := 1) hx hb dM_isMix_52 (by decide) ?_
            refine lv_goto (tgt := 57) hx hb dM_isMix_53 (by decide) ?_
            exact B57 x1 x2 x3 1 hf _ _ _ hZ (lv_sub hl [0, 1, 2, 3] rfl)
        · have hf := m_f hf c_4
          refine lv_aload_n hx hb dM_isMix_19 rfl (lv_at hl 0 rfl) ?_
          refine m_getR (k' := 14) hx hb hts in_M hown hK hZ (by decide) rfl rfl 20 (by decide) (hts _ k3_59) (fun _ h9 => h9) rfl dM_isMix_20 ?_
          refine lv_iload_n hx hb dM_isMix_23 rfl (lv_at hl 3 rfl) ?_
          obtain ⟨h_18, hf⟩ := m_gx hf
          refine m_iald hx hb hK hZ (by decide) rfl h_18 dM_isMix_24 ?_
          refine lv_aload_n hx hb dM_isMix_25 rfl (lv_at hl 0 rfl) ?_
          refine m_getR (k' := 4) hx hb hts in_M hown hK hZ (by decide) rfl rfl 5 (by decide) (hts _ k3_44) (fun _ h9 => h9) rfl dM_isMix_26 ?_
          refine lv_iload_n hx hb dM_isMix_29 rfl (lv_at hl 3 rfl) ?_
          refine m_iald hx hb hK hZ (by decide) rfl h_18 dM_isMix_30 ?_
          refine lv_aload_n hx hb dM_isMix_31 rfl (lv_at hl 0 rfl) ?_
          refine m_getR (k' := 5) hx hb hts in_M hown hK hZ (by decide) rfl rfl 6 (by decide) (hts _ k3_45) (fun _ h9 => h9) rfl dM_isMix_32 ?_
          refine lv_iload_n hx hb dM_isMix_35 rfl (lv_at hl 3 rfl) ?_
          refine m_iald hx hb hK hZ (by decide) rfl h_18 dM_isMix_36 ?_
          obtain ⟨r_19, hc, hf⟩ := m_b1x hf
          refine m_ci (va_runS (As := [.int (M 14 x3.toNatClampNeg), .int (M 4 x3.toNatClampNeg), .int (M 5 x3.toNatClampNeg)]) (rest := []) ⟨hx, hb, hml, hown, hts⟩ (cM_within l D ad c3 M (M 14 x3.toNatClampNeg) (M 4 x3.toNatClampNeg) (M 5 x3.toNatClampNeg) hc) (cwS 3 hts (gS9 k3_175 k3_176 k1_8 kc_M_within) rfl rfl rfl (by decide +kernel) ⟨by decide, by decide⟩) (m_preS hK hN hZ) rfl rfl hl.1 rfl (lv_room (Nat.le_of_ble_eq_true rfl)) dM_isMix_37 ⟨Nat.zero_le _, Nat.zero_le _⟩) hZ (fun H locs hZ => ?_)
          refine lv_goto (tgt := 57) hx hb dM_isMix_40 (by decide) ?_
          exact B57 x1 x2 x3 r_19 hf _ _ _ hZ (lv_sub hl [0, 1, 2, 3] rfl)
  refine lv_iconst (v := 0) hx hb dM_isMix_0 (by decide) ?_
  refine lv_istore_n (lv' := [(1, .int 0), (0, .ref (ad 0))]) hx hb dM_isMix_1 rfl hl (by decide) rfl (fun ls hl => ?_)
  refine lv_iconst (v := 0) hx hb dM_isMix_2 (by decide) ?_
  refine lv_istore_n (lv' := [(2, .int 0), (1, .int 0), (0, .ref (ad 0))]) hx hb dM_isMix_3 rfl hl (by decide) rfl (fun ls hl => ?_)
  refine lv_iconst (v := 0) hx hb dM_isMix_4 (by decide) ?_
  refine lv_istore_n (lv' := [(3, .int 0), (2, .int 0), (1, .int 0), (0, .ref (ad 0))]) hx hb dM_isMix_5 rfl hl (by decide) rfl (fun ls hl => ?_)
  exact L6 128 0 0 0 hf _ _ _ hZ (lv_sub hl [3, 2, 1, 0] rfl)
