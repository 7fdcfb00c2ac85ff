set_option maxHeartbeats 4000000 in
set_option maxRecDepth 100000 in
theorem law_loop {p : Program} {l : Launch} {e : Env} {s : State} {m : MethodId} {below : List Frame} {meth : Method} {c : Code} {D : va_G} {c3 : ClassId × ClassId × ClassId} {adX adM : Nat → Nat} {b L : Nat} {xs : Nat → Int32} (hL9 : L ≤ 2560) (C0 : lw_At p s m meth c b L xs) (hK : va_K D vCl (m_ty c3) s) (hNX : (∀ w ∈ nwX, ∃ a i x h, w = Cond.methodLinkNest a i x h) ∧ ∀ w ∈ nwX, va_Nw w s) (hNM : (∀ w ∈ nwM, ∃ a i x h, w = Cond.methodLinkNest a i x h) ∧ ∀ w ∈ nwM, va_Nw w s) :
    ∀ (n i : Nat) (x3 : Int32), i ≤ L → L + 1 ≤ i + n → x3 = nI i → ∀ (X Y : mMem), Rel X Y → ∀ (H : Heap) (locs : List Loc), m2 vCl D c3 lyX 83 adX lyM 23 adM s.heap H locs X Y → ∀ (ls : Array Slot), lv_has ls 4 [(0, .ref b), (1, .ref (adX 0)), (2, .ref (adM 0)), (3, .int x3)] → W p l e room_1 s m #[Value.ref b] below meth c H locs 600000 7302250 (lw_Z below #[Value.ref b] s) (F0 m 18 ls []) := by
  obtain ⟨hx, hb, hr, hml, hown, hts, hX, hbl, hlocks, hgv⟩ := C0
  have hts : ∀ w ∈ wA, w.before #[Value.ref b] s = true := fun w h => hts w (wA_in h)
  have hbA : ¬ (fun q : Nat => s.heap.size ≤ q) b := Nat.not_le.mpr hbl
  intro n
  induction n with
  | zero =>
    intro i x3 h1 h2
    exact absurd h2 (by omega)
  | succ n ih =>
    intro i x3 hi hin ex3 X Y hR H locs hL ls hl
    refine lv_iload_n hx hb dW_law_18 rfl (lv_at hl 3 rfl) ?_
    refine lv_aload_n hx hb dW_law_19 rfl (lv_at hl 0 rfl) ?_
    refine va_slen hx hb hX hbl hbA hL.2.2.2.2.2.2.2 dW_law_20 ?_
    refine lv_iconst (v := 5) hx hb dW_law_21 (by decide) ?_
    refine lv_isub hx hb dW_law_22 ?_
    refine lv_icmp_gt (tgt := 816) hx hb dW_law_23 (by decide) (fun c_1 => ?_) (fun c_1 => ?_)
    · refine lv_iconst (v := 1) hx hb dW_law_816 (by decide) ?_
      refine va_forget (fun q hq => hL.2.2.2.2.2.2.2.2.2 q hq) ?_
      refine W.widen (k := 600000) (n := 7302250) (Nat.le_refl _) (Nat.le_refl _) ?_
      exact lw_ret hx hb hr hlocks dW_law_817
    · have h5 : i + 5 ≤ L := law_lt hL9 hi (by rw [← ex3]; exact c_1)
      have v0 : vp_in x3 L := by rw [ex3]; exact vp_in_nI (by omega) (by omega)
      obtain ⟨a0, ea0⟩ : ∃ a : Int32, a = xs x3.toNatClampNeg := ⟨_, rfl⟩
      have v1 : vp_in (x3 + 1) L := by rw [ex3, show nI i + 1 = nI (i + 1) from nI_add i 1]; exact vp_in_nI (by omega) (by omega)
      obtain ⟨a1, ea1⟩ : ∃ a : Int32, a = xs (x3 + 1).toNatClampNeg := ⟨_, rfl⟩
      have v2 : vp_in (x3 + 2) L := by rw [ex3, show nI i + 2 = nI (i + 2) from nI_add i 2]; exact vp_in_nI (by omega) (by omega)
      obtain ⟨a2, ea2⟩ : ∃ a : Int32, a = xs (x3 + 2).toNatClampNeg := ⟨_, rfl⟩
      have v3 : vp_in (x3 + 3) L := by rw [ex3, show nI i + 3 = nI (i + 3) from nI_add i 3]; exact vp_in_nI (by omega) (by omega)
      obtain ⟨a3, ea3⟩ : ∃ a : Int32, a = xs (x3 + 3).toNatClampNeg := ⟨_, rfl⟩
      have v4 : vp_in (x3 + 4) L := by rw [ex3, show nI i + 4 = nI (i + 4) from nI_add i 4]; exact vp_in_nI (by omega) (by omega)
      obtain ⟨a4, ea4⟩ : ∃ a : Int32, a = xs (x3 + 4).toNatClampNeg := ⟨_, rfl⟩
      have tail : ∀ (X Y : mMem), Rel X Y → ∀ (H : Heap) (locs : List Loc), m2 vCl D c3 lyX 83 adX lyM 23 adM s.heap H locs X Y → W p l e room_1 s m #[Value.ref b] below meth c H locs 600000 7302250 (lw_Z below #[Value.ref b] s) (F0 m 810 ls []) := by
        intro X Y hR H locs hL
        obtain ⟨x3_1, ex3_1⟩ : ∃ y : Int32, y = x3 + 5 := ⟨_, rfl⟩
        refine lv_iinc (v := x3_1) (lv' := [(3, .int x3_1), (0, .ref b), (1, .ref (adX 0)), (2, .ref (adM 0))]) hx hb dW_law_810 hl (k := 3) rfl (by rw [ex3_1]; rfl) (by decide) rfl (fun ls hl => ?_)
        refine lv_goto (tgt := 18) hx hb dW_law_813 (by decide) ?_
        exact ih (i + 5) x3_1 h5 (by omega) (by rw [ex3_1, ex3]; exact nI_add i 5) X Y hR H locs hL ls (lv_sub hl [1, 2, 3, 0] rfl)
      refine lv_aload_n hx hb dW_law_26 rfl (lv_at hl 0 rfl) ?_
      refine lv_iload_n hx hb dW_law_27 rfl (lv_at hl 3 rfl) ?_
      refine va_sld hx hb hX hbl hbA hL.2.2.2.2.2.2.2 v0 dW_law_28 ?_
      refine m_topi ea0 ?_
      refine lv_bipush (v := 31) hx hb dW_law_29 (by decide) ?_
      refine lv_iand hx hb dW_law_31 ?_
      obtain ⟨sw, esw⟩ : ∃ y : Int32, y = a0 &&& 31 := ⟨_, rfl⟩
      refine m_topi esw ?_
      by_cases k0 : sw = 0
      · refine lv_tableIn (tgt := 136) hx hb dW_law_32 (by rw [k0]; decide) (by rw [k0]; decide) (by rw [k0]; rfl) (by decide) ?_
        refine lv_aload_n hx hb dW_law_136 rfl (lv_at hl 1 rfl) ?_
        refine lv_aload_n hx hb dW_law_137 rfl (lv_at hl 0 rfl) ?_
        refine lv_iload_n hx hb dW_law_138 rfl (lv_at hl 3 rfl) ?_
        refine lv_iconst (v := 1) hx hb dW_law_139 (by decide) ?_
        refine lv_iadd hx hb dW_law_140 ?_
        refine va_sld hx hb hX hbl hbA hL.2.2.2.2.2.2.2 v1 dW_law_141 ?_
        refine m_topi ea1 ?_
        refine lv_aload_n hx hb dW_law_142 rfl (lv_at hl 0 rfl) ?_
        refine lv_iload_n hx hb dW_law_143 rfl (lv_at hl 3 rfl) ?_
        refine lv_iconst (v := 2) hx hb dW_law_144 (by decide) ?_
        refine lv_iadd hx hb dW_law_145 ?_
        refine va_sld hx hb hX hbl hbA hL.2.2.2.2.2.2.2 v2 dW_law_146 ?_
        refine m_topi ea2 ?_
        obtain ⟨r, X', Y', hfX, hfM, hR⟩ := e_sieve hR a1 a2
        refine m_lci (va_runV (As := [.int a1, .int a2]) (rest := []) ⟨hx, hb, hml, hown, hts⟩ (cG_sieve l D adX c3 X a1 a2 hfX) (cwV 2 hts (gV k2_36 k2_37 k2_38 k1_1 kc_G_sieve) rfl rfl rfl (by decide +kernel) ⟨by decide, by decide⟩) (m_preL hK hNX hL (by decide) rfl rfl) rfl rfl hl.1 rfl (lv_room (Nat.le_of_ble_eq_true rfl)) dW_law_147 ⟨Nat.le_of_ble_eq_true rfl, Nat.le_of_ble_eq_true rfl⟩) hL (fun H locs hL => ?_)
        have hL := m2_sw hL
        refine lv_aload_n hx hb dW_law_150 rfl (lv_at hl 2 rfl) ?_
        refine lv_aload_n hx hb dW_law_151 rfl (lv_at hl 0 rfl) ?_
        refine lv_iload_n hx hb dW_law_152 rfl (lv_at hl 3 rfl) ?_
        refine lv_iconst (v := 1) hx hb dW_law_153 (by decide) ?_
        refine lv_iadd hx hb dW_law_154 ?_
        refine va_sld hx hb hX hbl hbA hL.2.2.2.2.2.2.2 v1 dW_law_155 ?_
        refine m_topi ea1 ?_
        refine lv_aload_n hx hb dW_law_156 rfl (lv_at hl 0 rfl) ?_
        refine lv_iload_n hx hb dW_law_157 rfl (lv_at hl 3 rfl) ?_
        refine lv_iconst (v := 2) hx hb dW_law_158 (by decide) ?_
        refine lv_iadd hx hb dW_law_159 ?_
        refine va_sld hx hb hX hbl hbA hL.2.2.2.2.2.2.2 v2 dW_law_160 ?_
        refine m_topi ea2 ?_
        refine m_lci (va_runV (As := [.int a1, .int a2]) (rest := [.int r]) ⟨hx, hb, hml, hown, hts⟩ (cM_sieve l D adM c3 Y a1 a2 hfM) (cwV 2 hts (gV k3_151 k3_152 k3_153 k1_8 kc_M_sieve) rfl rfl rfl (by decide +kernel) ⟨by decide, by decide⟩) (m_preL hK hNM hL (by decide) rfl rfl) rfl rfl hl.1 rfl (lv_room (Nat.le_of_ble_eq_true rfl)) dW_law_161 ⟨Nat.le_of_ble_eq_true rfl, Nat.le_of_ble_eq_true rfl⟩) hL (fun H locs hL => ?_)
        have hL := m2_sw hL
        refine lv_icmp_eq (tgt := 810) hx hb dW_law_164 (by decide) (fun _ => ?_) (fun q => absurd rfl q)
        exact tail X' Y' hR H locs hL
      by_cases k1 : sw = 1
      · refine lv_tableIn (tgt := 169) hx hb dW_law_32 (by rw [k1]; decide) (by rw [k1]; decide) (by rw [k1]; rfl) (by decide) ?_
        refine lv_aload_n hx hb dW_law_169 rfl (lv_at hl 1 rfl) ?_
        refine lv_aload_n hx hb dW_law_170 rfl (lv_at hl 0 rfl) ?_
        refine lv_iload_n hx hb dW_law_171 rfl (lv_at hl 3 rfl) ?_
        refine lv_iconst (v := 1) hx hb dW_law_172 (by decide) ?_
        refine lv_iadd hx hb dW_law_173 ?_
        refine va_sld hx hb hX hbl hbA hL.2.2.2.2.2.2.2 v1 dW_law_174 ?_
        refine m_topi ea1 ?_
        refine lv_aload_n hx hb dW_law_175 rfl (lv_at hl 0 rfl) ?_
        refine lv_iload_n hx hb dW_law_176 rfl (lv_at hl 3 rfl) ?_
        refine lv_iconst (v := 2) hx hb dW_law_177 (by decide) ?_
        refine lv_iadd hx hb dW_law_178 ?_
        refine va_sld hx hb hX hbl hbA hL.2.2.2.2.2.2.2 v2 dW_law_179 ?_
        refine m_topi ea2 ?_
        refine lv_aload_n hx hb dW_law_180 rfl (lv_at hl 0 rfl) ?_
        refine lv_iload_n hx hb dW_law_181 rfl (lv_at hl 3 rfl) ?_
        refine lv_iconst (v := 3) hx hb dW_law_182 (by decide) ?_
        refine lv_iadd hx hb dW_law_183 ?_
        refine va_sld hx hb hX hbl hbA hL.2.2.2.2.2.2.2 v3 dW_law_184 ?_
        refine m_topi ea3 ?_
        obtain ⟨r, X', Y', hfX, hfM, hR⟩ := e_band hR a1 a2 a3
        refine m_lci (va_runV (As := [.int a1, .int a2, .int a3]) (rest := []) ⟨hx, hb, hml, hown, hts⟩ (cG_band l D adX c3 X a1 a2 a3 hfX) (cwV 3 hts (gV k2_55 k2_56 k2_57 k1_1 kc_G_band) rfl rfl rfl (by decide +kernel) ⟨by decide, by decide⟩) (m_preL hK hNX hL (by decide) rfl rfl) rfl rfl hl.1 rfl (lv_room (Nat.le_of_ble_eq_true rfl)) dW_law_185 ⟨Nat.le_of_ble_eq_true rfl, Nat.le_of_ble_eq_true rfl⟩) hL (fun H locs hL => ?_)
        have hL := m2_sw hL
        refine lv_aload_n hx hb dW_law_188 rfl (lv_at hl 2 rfl) ?_
        refine lv_aload_n hx hb dW_law_189 rfl (lv_at hl 0 rfl) ?_
        refine lv_iload_n hx hb dW_law_190 rfl (lv_at hl 3 rfl) ?_
        refine lv_iconst (v := 1) hx hb dW_law_191 (by decide) ?_
        refine lv_iadd hx hb dW_law_192 ?_
        refine va_sld hx hb hX hbl hbA hL.2.2.2.2.2.2.2 v1 dW_law_193 ?_
        refine m_topi ea1 ?_
        refine lv_aload_n hx hb dW_law_194 rfl (lv_at hl 0 rfl) ?_
        refine lv_iload_n hx hb dW_law_195 rfl (lv_at hl 3 rfl) ?_
        refine lv_iconst (v := 2) hx hb dW_law_196 (by decide) ?_
        refine lv_iadd hx hb dW_law_197 ?_
        refine va_sld hx hb hX hbl hbA hL.2.2.2.2.2.2.2 v2 dW_law_198 ?_
        refine m_topi ea2 ?_
        refine lv_aload_n hx hb dW_law_199 rfl (lv_at hl 0 rfl) ?_
        refine lv_iload_n hx hb dW_law_200 rfl (lv_at hl 3 rfl) ?_
        refine lv_iconst (v := 3) hx hb dW_law_201 (by decide) ?_
        refine lv_iadd hx hb dW_law_202 ?_
        refine va_sld hx hb hX hbl hbA hL.2.2.2.2.2.2.2 v3 dW_law_203 ?_
        refine m_topi ea3 ?_
        refine m_lci (va_runV (As := [.int a1, .int a2, .int a3]) (rest := [.int r]) ⟨hx, hb, hml, hown, hts⟩ (cM_band l D adM c3 Y a1 a2 a3 hfM) (cwV 3 hts (gV k3_162 k3_163 k3_164 k1_8 kc_M_band) rfl rfl rfl (by decide +kernel) ⟨by decide, by decide⟩) (m_preL hK hNM hL (by decide) rfl rfl) rfl rfl hl.1 rfl (lv_room (Nat.le_of_ble_eq_true rfl)) dW_law_204 ⟨Nat.le_of_ble_eq_true rfl, Nat.le_of_ble_eq_true rfl⟩) hL (fun H locs hL => ?_)
        have hL := m2_sw hL
        refine lv_icmp_eq (tgt := 810) hx hb dW_law_207 (by decide) (fun _ => ?_) (fun q => absurd rfl q)
        exact tail X' Y' hR H locs hL
      by_cases k2 : sw = 2
      · refine lv_tableIn (tgt := 212) hx hb dW_law_32 (by rw [k2]; decide) (by rw [k2]; decide) (by rw [k2]; rfl) (by decide) ?_
        refine lv_aload_n hx hb dW_law_212 rfl (lv_at hl 1 rfl) ?_
        refine lv_aload_n hx hb dW_law_213 rfl (lv_at hl 0 rfl) ?_
        refine lv_iload_n hx hb dW_law_214 rfl (lv_at hl 3 rfl) ?_
        refine lv_iconst (v := 1) hx hb dW_law_215 (by decide) ?_
        refine lv_iadd hx hb dW_law_216 ?_
        refine va_sld hx hb hX hbl hbA hL.2.2.2.2.2.2.2 v1 dW_law_217 ?_
        refine m_topi ea1 ?_
        refine lv_aload_n hx hb dW_law_218 rfl (lv_at hl 0 rfl) ?_
        refine lv_iload_n hx hb dW_law_219 rfl (lv_at hl 3 rfl) ?_
        refine lv_iconst (v := 2) hx hb dW_law_220 (by decide) ?_
        refine lv_iadd hx hb dW_law_221 ?_
        refine va_sld hx hb hX hbl hbA hL.2.2.2.2.2.2.2 v2 dW_law_222 ?_
        refine m_topi ea2 ?_
        refine lv_aload_n hx hb dW_law_223 rfl (lv_at hl 0 rfl) ?_
        refine lv_iload_n hx hb dW_law_224 rfl (lv_at hl 3 rfl) ?_
        refine lv_iconst (v := 3) hx hb dW_law_225 (by decide) ?_
        refine lv_iadd hx hb dW_law_226 ?_
        refine va_sld hx hb hX hbl hbA hL.2.2.2.2.2.2.2 v3 dW_law_227 ?_
        refine m_topi ea3 ?_
        refine lv_aload_n hx hb dW_law_228 rfl (lv_at hl 0 rfl) ?_
        refine lv_iload_n hx hb dW_law_229 rfl (lv_at hl 3 rfl) ?_
        refine lv_iconst (v := 4) hx hb dW_law_230 (by decide) ?_
        refine lv_iadd hx hb dW_law_231 ?_
        refine va_sld hx hb hX hbl hbA hL.2.2.2.2.2.2.2 v4 dW_law_232 ?_
        refine m_topi ea4 ?_
        refine lv_if_eq (tgt := 240) hx hb dW_law_233 (by decide) (fun za4 => ?_) (fun za4 => ?_)
        · refine lv_iconst (v := 0) hx hb dW_law_240 (by decide) ?_
          obtain ⟨r, X', Y', hfX, hfM, hR⟩ := e_stock hR a1 a2 a3 0
          refine m_lci (va_runV (As := [.int a1, .int a2, .int a3, .int 0]) (rest := []) ⟨hx, hb, hml, hown, hts⟩ (cG_stock l D adX c3 X a1 a2 a3 0 hfX) (cwV 4 hts (gV k2_63 k2_64 k2_65 k1_1 kc_G_stock) rfl rfl rfl (by decide +kernel) ⟨by decide, by decide⟩) (m_preL hK hNX hL (by decide) rfl rfl) rfl rfl hl.1 rfl (lv_room (Nat.le_of_ble_eq_true rfl)) dW_law_241 ⟨Nat.le_of_ble_eq_true rfl, Nat.le_of_ble_eq_true rfl⟩) hL (fun H locs hL => ?_)
          have hL := m2_sw hL
          refine lv_aload_n hx hb dW_law_244 rfl (lv_at hl 2 rfl) ?_
          refine lv_aload_n hx hb dW_law_245 rfl (lv_at hl 0 rfl) ?_
          refine lv_iload_n hx hb dW_law_246 rfl (lv_at hl 3 rfl) ?_
          refine lv_iconst (v := 1) hx hb dW_law_247 (by decide) ?_
          refine lv_iadd hx hb dW_law_248 ?_
          refine va_sld hx hb hX hbl hbA hL.2.2.2.2.2.2.2 v1 dW_law_249 ?_
          refine m_topi ea1 ?_
          refine lv_aload_n hx hb dW_law_250 rfl (lv_at hl 0 rfl) ?_
          refine lv_iload_n hx hb dW_law_251 rfl (lv_at hl 3 rfl) ?_
          refine lv_iconst (v := 2) hx hb dW_law_252 (by decide) ?_
          refine lv_iadd hx hb dW_law_253 ?_
          refine va_sld hx hb hX hbl hbA hL.2.2.2.2.2.2.2 v2 dW_law_254 ?_
          refine m_topi ea2 ?_
          refine lv_aload_n hx hb dW_law_255 rfl (lv_at hl 0 rfl) ?_
          refine lv_iload_n hx hb dW_law_256 rfl (lv_at hl 3 rfl) ?_
          refine lv_iconst (v := 3) hx hb dW_law_257 (by decide) ?_
          refine lv_iadd hx hb dW_law_258 ?_
          refine va_sld hx hb hX hbl hbA hL.2.2.2.2.2.2.2 v3 dW_law_259 ?_
          refine m_topi ea3 ?_
          refine lv_aload_n hx hb dW_law_260 rfl (lv_at hl 0 rfl) ?_
          refine lv_iload_n hx hb dW_law_261 rfl (lv_at hl 3 rfl) ?_
          refine lv_iconst (v := 4) hx hb dW_law_262 (by decide) ?_
          refine lv_iadd hx hb dW_law_263 ?_
          refine va_sld hx hb hX hbl hbA hL.2.2.2.2.2.2.2 v4 dW_law_264 ?_
          refine m_topi ea4 ?_
          refine lv_if_eq (tgt := 272) hx hb dW_law_265 (by decide) (fun _ => ?_) (fun q => absurd za4 q)
          refine lv_iconst (v := 0) hx hb dW_law_272 (by decide) ?_
          refine m_lci (va_runV (As := [.int a1, .int a2, .int a3, .int 0]) (rest := [.int r]) ⟨hx, hb, hml, hown, hts⟩ (cM_stock l D adM c3 Y a1 a2 a3 0 hfM) (cwV 4 hts (gV k3_170 k3_171 k3_172 k1_8 kc_M_stock) rfl rfl rfl (by decide +kernel) ⟨by decide, by decide⟩) (m_preL hK hNM hL (by decide) rfl rfl) rfl rfl hl.1 rfl (lv_room (Nat.le_of_ble_eq_true rfl)) dW_law_273 ⟨Nat.le_of_ble_eq_true rfl, Nat.le_of_ble_eq_true rfl⟩) hL (fun H locs hL => ?_)
          have hL := m2_sw hL
          refine lv_icmp_eq (tgt := 810) hx hb dW_law_276 (by decide) (fun _ => ?_) (fun q => absurd rfl q)
          exact tail X' Y' hR H locs hL
        · refine lv_iconst (v := 1) hx hb dW_law_236 (by decide) ?_
          refine lv_goto (tgt := 241) hx hb dW_law_237 (by decide) ?_
          obtain ⟨r, X', Y', hfX, hfM, hR⟩ := e_stock hR a1 a2 a3 1
          refine m_lci (va_runV (As := [.int a1, .int a2, .int a3, .int 1]) (rest := []) ⟨hx, hb, hml, hown, hts⟩ (cG_stock l D adX c3 X a1 a2 a3 1 hfX) (cwV 4 hts (gV k2_63 k2_64 k2_65 k1_1 kc_G_stock) rfl rfl rfl (by decide +kernel) ⟨by decide, by decide⟩) (m_preL hK hNX hL (by decide) rfl rfl) rfl rfl hl.1 rfl (lv_room (Nat.le_of_ble_eq_true rfl)) dW_law_241 ⟨Nat.le_of_ble_eq_true rfl, Nat.le_of_ble_eq_true rfl⟩) hL (fun H locs hL => ?_)
          have hL := m2_sw hL
          refine lv_aload_n hx hb dW_law_244 rfl (lv_at hl 2 rfl) ?_
          refine lv_aload_n hx hb dW_law_245 rfl (lv_at hl 0 rfl) ?_
          refine lv_iload_n hx hb dW_law_246 rfl (lv_at hl 3 rfl) ?_
          refine lv_iconst (v := 1) hx hb dW_law_247 (by decide) ?_
          refine lv_iadd hx hb dW_law_248 ?_
          refine va_sld hx hb hX hbl hbA hL.2.2.2.2.2.2.2 v1 dW_law_249 ?_
          refine m_topi ea1 ?_
          refine lv_aload_n hx hb dW_law_250 rfl (lv_at hl 0 rfl) ?_
          refine lv_iload_n hx hb dW_law_251 rfl (lv_at hl 3 rfl) ?_
          refine lv_iconst (v := 2) hx hb dW_law_252 (by decide) ?_
          refine lv_iadd hx hb dW_law_253 ?_
          refine va_sld hx hb hX hbl hbA hL.2.2.2.2.2.2.2 v2 dW_law_254 ?_
          refine m_topi ea2 ?_
          refine lv_aload_n hx hb dW_law_255 rfl (lv_at hl 0 rfl) ?_
          refine lv_iload_n hx hb dW_law_256 rfl (lv_at hl 3 rfl) ?_
          refine lv_iconst (v := 3) hx hb dW_law_257 (by decide) ?_
          refine lv_iadd hx hb dW_law_258 ?_
          refine va_sld hx hb hX hbl hbA hL.2.2.2.2.2.2.2 v3 dW_law_259 ?_
          refine m_topi ea3 ?_
          refine lv_aload_n hx hb dW_law_260 rfl (lv_at hl 0 rfl) ?_
          refine lv_iload_n hx hb dW_law_261 rfl (lv_at hl 3 rfl) ?_
          refine lv_iconst (v := 4) hx hb dW_law_262 (by decide) ?_
          refine lv_iadd hx hb dW_law_263 ?_
          refine va_sld hx hb hX hbl hbA hL.2.2.2.2.2.2.2 v4 dW_law_264 ?_
          refine m_topi ea4 ?_
          refine lv_if_eq (tgt := 272) hx hb dW_law_265 (by decide) (fun q => absurd q za4) (fun _ => ?_)
          refine lv_iconst (v := 1) hx hb dW_law_268 (by decide) ?_
          refine lv_goto (tgt := 273) hx hb dW_law_269 (by decide) ?_
          refine m_lci (va_runV (As := [.int a1, .int a2, .int a3, .int 1]) (rest := [.int r]) ⟨hx, hb, hml, hown, hts⟩ (cM_stock l D adM c3 Y a1 a2 a3 1 hfM) (cwV 4 hts (gV k3_170 k3_171 k3_172 k1_8 kc_M_stock) rfl rfl rfl (by decide +kernel) ⟨by decide, by decide⟩) (m_preL hK hNM hL (by decide) rfl rfl) rfl rfl hl.1 rfl (lv_room (Nat.le_of_ble_eq_true rfl)) dW_law_273 ⟨Nat.le_of_ble_eq_true rfl, Nat.le_of_ble_eq_true rfl⟩) hL (fun H locs hL => ?_)
          have hL := m2_sw hL
          refine lv_icmp_eq (tgt := 810) hx hb dW_law_276 (by decide) (fun _ => ?_) (fun q => absurd rfl q)
          exact tail X' Y' hR H locs hL
      by_cases k3 : sw = 3
      · refine lv_tableIn (tgt := 281) hx hb dW_law_32 (by rw [k3]; decide) (by rw [k3]; decide) (by rw [k3]; rfl) (by decide) ?_
        refine lv_aload_n hx hb dW_law_281 rfl (lv_at hl 1 rfl) ?_
        refine lv_aload_n hx hb dW_law_282 rfl (lv_at hl 0 rfl) ?_
        refine lv_iload_n hx hb dW_law_283 rfl (lv_at hl 3 rfl) ?_
        refine lv_iconst (v := 1) hx hb dW_law_284 (by decide) ?_
        refine lv_iadd hx hb dW_law_285 ?_
        refine va_sld hx hb hX hbl hbA hL.2.2.2.2.2.2.2 v1 dW_law_286 ?_
        refine m_topi ea1 ?_
        refine lv_aload_n hx hb dW_law_287 rfl (lv_at hl 0 rfl) ?_
        refine lv_iload_n hx hb dW_law_288 rfl (lv_at hl 3 rfl) ?_
        refine lv_iconst (v := 2) hx hb dW_law_289 (by decide) ?_
        refine lv_iadd hx hb dW_law_290 ?_
        refine va_sld hx hb hX hbl hbA hL.2.2.2.2.2.2.2 v2 dW_law_291 ?_
        refine m_topi ea2 ?_
        refine lv_aload_n hx hb dW_law_292 rfl (lv_at hl 0 rfl) ?_
        refine lv_iload_n hx hb dW_law_293 rfl (lv_at hl 3 rfl) ?_
        refine lv_iconst (v := 3) hx hb dW_law_294 (by decide) ?_
        refine lv_iadd hx hb dW_law_295 ?_
        refine va_sld hx hb hX hbl hbA hL.2.2.2.2.2.2.2 v3 dW_law_296 ?_
        refine m_topi ea3 ?_
        refine lv_aload_n hx hb dW_law_297 rfl (lv_at hl 0 rfl) ?_
        refine lv_iload_n hx hb dW_law_298 rfl (lv_at hl 3 rfl) ?_
        refine lv_iconst (v := 4) hx hb dW_law_299 (by decide) ?_
        refine lv_iadd hx hb dW_law_300 ?_
        refine va_sld hx hb hX hbl hbA hL.2.2.2.2.2.2.2 v4 dW_law_301 ?_
        refine m_topi ea4 ?_
        obtain ⟨r, X', Y', hfX, hfM, hR⟩ := e_passes hR a1 a2 a3 a4
        refine m_lci (va_runV (As := [.int a1, .int a2, .int a3, .int a4]) (rest := []) ⟨hx, hb, hml, hown, hts⟩ (cG_passes l D adX c3 X a1 a2 a3 a4 hfX) (cwV 4 hts (gV k2_75 k2_76 k2_77 k1_1 kc_G_passes) rfl rfl rfl (by decide +kernel) ⟨by decide, by decide⟩) (m_preL hK hNX hL (by decide) rfl rfl) rfl rfl hl.1 rfl (lv_room (Nat.le_of_ble_eq_true rfl)) dW_law_302 ⟨Nat.le_of_ble_eq_true rfl, Nat.le_of_ble_eq_true rfl⟩) hL (fun H locs hL => ?_)
        have hL := m2_sw hL
        refine lv_aload_n hx hb dW_law_305 rfl (lv_at hl 2 rfl) ?_
        refine lv_aload_n hx hb dW_law_306 rfl (lv_at hl 0 rfl) ?_
        refine lv_iload_n hx hb dW_law_307 rfl (lv_at hl 3 rfl) ?_
        refine lv_iconst (v := 1) hx hb dW_law_308 (by decide) ?_
        refine lv_iadd hx hb dW_law_309 ?_
        refine va_sld hx hb hX hbl hbA hL.2.2.2.2.2.2.2 v1 dW_law_310 ?_
        refine m_topi ea1 ?_
        refine lv_aload_n hx hb dW_law_311 rfl (lv_at hl 0 rfl) ?_
        refine lv_iload_n hx hb dW_law_312 rfl (lv_at hl 3 rfl) ?_
        refine lv_iconst (v := 2) hx hb dW_law_313 (by decide) ?_
        refine lv_iadd hx hb dW_law_314 ?_
        refine va_sld hx hb hX hbl hbA hL.2.2.2.2.2.2.2 v2 dW_law_315 ?_
        refine m_topi ea2 ?_
        refine lv_aload_n hx hb dW_law_316 rfl (lv_at hl 0 rfl) ?_
        refine lv_iload_n hx hb dW_law_317 rfl (lv_at hl 3 rfl) ?_
        refine lv_iconst (v := 3) hx hb dW_law_318 (by decide) ?_
        refine lv_iadd hx hb dW_law_319 ?_
        refine va_sld hx hb hX hbl hbA hL.2.2.2.2.2.2.2 v3 dW_law_320 ?_
        refine m_topi ea3 ?_
        refine lv_aload_n hx hb dW_law_321 rfl (lv_at hl 0 rfl) ?_
        refine lv_iload_n hx hb dW_law_322 rfl (lv_at hl 3 rfl) ?_
        refine lv_iconst (v := 4) hx hb dW_law_323 (by decide) ?_
        refine lv_iadd hx hb dW_law_324 ?_
        refine va_sld hx hb hX hbl hbA hL.2.2.2.2.2.2.2 v4 dW_law_325 ?_
        refine m_topi ea4 ?_
        refine m_lci (va_runV (As := [.int a1, .int a2, .int a3, .int a4]) (rest := [.int r]) ⟨hx, hb, hml, hown, hts⟩ (cM_passes l D adM c3 Y a1 a2 a3 a4 hfM) (cwV 4 hts (gV k3_178 k3_179 k3_180 k1_8 kc_M_passes) rfl rfl rfl (by decide +kernel) ⟨by decide, by decide⟩) (m_preL hK hNM hL (by decide) rfl rfl) rfl rfl hl.1 rfl (lv_room (Nat.le_of_ble_eq_true rfl)) dW_law_326 ⟨Nat.le_of_ble_eq_true rfl, Nat.le_of_ble_eq_true rfl⟩) hL (fun H locs hL => ?_)
        have hL := m2_sw hL
        refine lv_icmp_eq (tgt := 810) hx hb dW_law_329 (by decide) (fun _ => ?_) (fun q => absurd rfl q)
        exact tail X' Y' hR H locs hL
      by_cases k4 : sw = 4
      · refine lv_tableIn (tgt := 334) hx hb dW_law_32 (by rw [k4]; decide) (by rw [k4]; decide) (by rw [k4]; rfl) (by decide) ?_
        refine lv_aload_n hx hb dW_law_334 rfl (lv_at hl 1 rfl) ?_
        refine lv_aload_n hx hb dW_law_335 rfl (lv_at hl 0 rfl) ?_
        refine lv_iload_n hx hb dW_law_336 rfl (lv_at hl 3 rfl) ?_
        refine lv_iconst (v := 1) hx hb dW_law_337 (by decide) ?_
        refine lv_iadd hx hb dW_law_338 ?_
        refine va_sld hx hb hX hbl hbA hL.2.2.2.2.2.2.2 v1 dW_law_339 ?_
        refine m_topi ea1 ?_
        obtain ⟨r, X', Y', hfX, hfM, hR⟩ := e_cap hR a1
        refine m_lci (va_runV (As := [.int a1]) (rest := []) ⟨hx, hb, hml, hown, hts⟩ (cG_cap l D adX c3 X a1 hfX) (cwV 1 hts (gV k2_93 k2_94 k2_95 k1_1 kc_G_cap) rfl rfl rfl (by decide +kernel) ⟨by decide, by decide⟩) (m_preL hK hNX hL (by decide) rfl rfl) rfl rfl hl.1 rfl (lv_room (Nat.le_of_ble_eq_true rfl)) dW_law_340 ⟨Nat.le_of_ble_eq_true rfl, Nat.le_of_ble_eq_true rfl⟩) hL (fun H locs hL => ?_)
        have hL := m2_sw hL
        refine lv_aload_n hx hb dW_law_343 rfl (lv_at hl 2 rfl) ?_
        refine lv_aload_n hx hb dW_law_344 rfl (lv_at hl 0 rfl) ?_
        refine lv_iload_n hx hb dW_law_345 rfl (lv_at hl 3 rfl) ?_
        refine lv_iconst (v := 1) hx hb dW_law_346 (by decide) ?_
        refine lv_iadd hx hb dW_law_347 ?_
        refine va_sld hx hb hX hbl hbA hL.2.2.2.2.2.2.2 v1 dW_law_348 ?_
        refine m_topi ea1 ?_
        refine m_lci (va_runV (As := [.int a1]) (rest := [.int r]) ⟨hx, hb, hml, hown, hts⟩ (cM_cap l D adM c3 Y a1 hfM) (cwV 1 hts (gV k3_186 k3_187 k3_188 k1_8 kc_M_cap) rfl rfl rfl (by decide +kernel) ⟨by decide, by decide⟩) (m_preL hK hNM hL (by decide) rfl rfl) rfl rfl hl.1 rfl (lv_room (Nat.le_of_ble_eq_true rfl)) dW_law_349 ⟨Nat.le_of_ble_eq_true rfl, Nat.le_of_ble_eq_true rfl⟩) hL (fun H locs hL => ?_)
        have hL := m2_sw hL
        refine lv_icmp_eq (tgt := 810) hx hb dW_law_352 (by decide) (fun _ => ?_) (fun q => absurd rfl q)
        exact tail X' Y' hR H locs hL
      by_cases k5 : sw = 5
      · refine lv_tableIn (tgt := 357) hx hb dW_law_32 (by rw [k5]; decide) (by rw [k5]; decide) (by rw [k5]; rfl) (by decide) ?_
        refine lv_aload_n hx hb dW_law_357 rfl (lv_at hl 1 rfl) ?_
        refine lv_aload_n hx hb dW_law_358 rfl (lv_at hl 0 rfl) ?_
        refine lv_iload_n hx hb dW_law_359 rfl (lv_at hl 3 rfl) ?_
        refine lv_iconst (v := 1) hx hb dW_law_360 (by decide) ?_
        refine lv_iadd hx hb dW_law_361 ?_
        refine va_sld hx hb hX hbl hbA hL.2.2.2.2.2.2.2 v1 dW_law_362 ?_
        refine m_topi ea1 ?_
        obtain ⟨r, X', Y', hfX, hfM, hR⟩ := e_step hR a1
        refine m_lci (va_runV (As := [.int a1]) (rest := []) ⟨hx, hb, hml, hown, hts⟩ (cG_step l D adX c3 X a1 hfX) (cwV 1 hts (gV k2_97 k2_98 k2_99 k1_1 kc_G_step) rfl rfl rfl (by decide +kernel) ⟨by decide, by decide⟩) (m_preL hK hNX hL (by decide) rfl rfl) rfl rfl hl.1 rfl (lv_room (Nat.le_of_ble_eq_true rfl)) dW_law_363 ⟨Nat.le_of_ble_eq_true rfl, Nat.le_of_ble_eq_true rfl⟩) hL (fun H locs hL => ?_)
        have hL := m2_sw hL
        refine lv_aload_n hx hb dW_law_366 rfl (lv_at hl 2 rfl) ?_
        refine lv_aload_n hx hb dW_law_367 rfl (lv_at hl 0 rfl) ?_
        refine lv_iload_n hx hb dW_law_368 rfl (lv_at hl 3 rfl) ?_
        refine lv_iconst (v := 1) hx hb dW_law_369 (by decide) ?_
        refine lv_iadd hx hb dW_law_370 ?_
        refine va_sld hx hb hX hbl hbA hL.2.2.2.2.2.2.2 v1 dW_law_371 ?_
        refine m_topi ea1 ?_
        refine m_lci (va_runV (As := [.int a1]) (rest := [.int r]) ⟨hx, hb, hml, hown, hts⟩ (cM_step l D adM c3 Y a1 hfM) (cwV 1 hts (gV k3_190 k3_191 k3_192 k1_8 kc_M_step) rfl rfl rfl (by decide +kernel) ⟨by decide, by decide⟩) (m_preL hK hNM hL (by decide) rfl rfl) rfl rfl hl.1 rfl (lv_room (Nat.le_of_ble_eq_true rfl)) dW_law_372 ⟨Nat.le_of_ble_eq_true rfl, Nat.le_of_ble_eq_true rfl⟩) hL (fun H locs hL => ?_)
        have hL := m2_sw hL
        refine lv_icmp_eq (tgt := 810) hx hb dW_law_375 (by decide) (fun _ => ?_) (fun q => absurd rfl q)
        exact tail X' Y' hR H locs hL
      by_cases k6 : sw = 6
      · refine lv_tableIn (tgt := 380) hx hb dW_law_32 (by rw [k6]; decide) (by rw [k6]; decide) (by rw [k6]; rfl) (by decide) ?_
        refine lv_aload_n hx hb dW_law_380 rfl (lv_at hl 1 rfl) ?_
        refine lv_aload_n hx hb dW_law_381 rfl (lv_at hl 0 rfl) ?_
        refine lv_iload_n hx hb dW_law_382 rfl (lv_at hl 3 rfl) ?_
        refine lv_iconst (v := 1) hx hb dW_law_383 (by decide) ?_
        refine lv_iadd hx hb dW_law_384 ?_
        refine va_sld hx hb hX hbl hbA hL.2.2.2.2.2.2.2 v1 dW_law_385 ?_
        refine m_topi ea1 ?_
        obtain ⟨r, X', Y', hfX, hfM, hR⟩ := e_unit hR a1
        refine m_lci (va_runV (As := [.int a1]) (rest := []) ⟨hx, hb, hml, hown, hts⟩ (cG_unit l D adX c3 X a1 hfX) (cwV 1 hts (gV k2_101 k2_102 k2_103 k1_1 kc_G_unit) rfl rfl rfl (by decide +kernel) ⟨by decide, by decide⟩) (m_preL hK hNX hL (by decide) rfl rfl) rfl rfl hl.1 rfl (lv_room (Nat.le_of_ble_eq_true rfl)) dW_law_386 ⟨Nat.le_of_ble_eq_true rfl, Nat.le_of_ble_eq_true rfl⟩) hL (fun H locs hL => ?_)
        have hL := m2_sw hL
        refine lv_aload_n hx hb dW_law_389 rfl (lv_at hl 2 rfl) ?_
        refine lv_aload_n hx hb dW_law_390 rfl (lv_at hl 0 rfl) ?_
        refine lv_iload_n hx hb dW_law_391 rfl (lv_at hl 3 rfl) ?_
        refine lv_iconst (v := 1) hx hb dW_law_392 (by decide) ?_
        refine lv_iadd hx hb dW_law_393 ?_
        refine va_sld hx hb hX hbl hbA hL.2.2.2.2.2.2.2 v1 dW_law_394 ?_
        refine m_topi ea1 ?_
        refine m_lci (va_runV (As := [.int a1]) (rest := [.int r]) ⟨hx, hb, hml, hown, hts⟩ (cM_unit l D adM c3 Y a1 hfM) (cwV 1 hts (gV k3_194 k3_195 k3_196 k1_8 kc_M_unit) rfl rfl rfl (by decide +kernel) ⟨by decide, by decide⟩) (m_preL hK hNM hL (by decide) rfl rfl) rfl rfl hl.1 rfl (lv_room (Nat.le_of_ble_eq_true rfl)) dW_law_395 ⟨Nat.le_of_ble_eq_true rfl, Nat.le_of_ble_eq_true rfl⟩) hL (fun H locs hL => ?_)
        have hL := m2_sw hL
        refine lv_icmp_eq (tgt := 810) hx hb dW_law_398 (by decide) (fun _ => ?_) (fun q => absurd rfl q)
        exact tail X' Y' hR H locs hL
      by_cases k7 : sw = 7
      · refine lv_tableIn (tgt := 403) hx hb dW_law_32 (by rw [k7]; decide) (by rw [k7]; decide) (by rw [k7]; rfl) (by decide) ?_
        refine lv_aload_n hx hb dW_law_403 rfl (lv_at hl 1 rfl) ?_
        obtain ⟨r, X', Y', hfX, hfM, hR⟩ := e_read hR
        refine m_lci (va_runV (As := []) (rest := []) ⟨hx, hb, hml, hown, hts⟩ (cG_read l D adX c3 X  hfX) (cwV 0 hts (gV k2_110 k2_111 k2_112 k1_1 kc_G_read) rfl rfl rfl (by decide +kernel) ⟨by decide, by decide⟩) (m_preL hK hNX hL (by decide) rfl rfl) rfl rfl hl.1 rfl (lv_room (Nat.le_of_ble_eq_true rfl)) dW_law_404 ⟨Nat.le_of_ble_eq_true rfl, Nat.le_of_ble_eq_true rfl⟩) hL (fun H locs hL => ?_)
        have hL := m2_sw hL
        refine lv_aload_n hx hb dW_law_407 rfl (lv_at hl 2 rfl) ?_
        refine m_lci (va_runV (As := []) (rest := [.int r]) ⟨hx, hb, hml, hown, hts⟩ (cM_read l D adM c3 Y  hfM) (cwV 0 hts (gV k3_198 k3_199 k3_200 k1_8 kc_M_read) rfl rfl rfl (by decide +kernel) ⟨by decide, by decide⟩) (m_preL hK hNM hL (by decide) rfl rfl) rfl rfl hl.1 rfl (lv_room (Nat.le_of_ble_eq_true rfl)) dW_law_408 ⟨Nat.le_of_ble_eq_true rfl, Nat.le_of_ble_eq_true rfl⟩) hL (fun H locs hL => ?_)
        have hL := m2_sw hL
        refine lv_icmp_eq (tgt := 810) hx hb dW_law_411 (by decide) (fun _ => ?_) (fun q => absurd rfl q)
        exact tail X' Y' hR H locs hL
      by_cases k8 : sw = 8
      · refine lv_tableIn (tgt := 416) hx hb dW_law_32 (by rw [k8]; decide) (by rw [k8]; decide) (by rw [k8]; rfl) (by decide) ?_
        refine lv_aload_n hx hb dW_law_416 rfl (lv_at hl 1 rfl) ?_
        obtain ⟨r, X', Y', hfX, hfM, hR⟩ := e_run hR
        refine m_lci (va_runV (As := []) (rest := []) ⟨hx, hb, hml, hown, hts⟩ (cG_run l D adX c3 X  hfX) (cwV 0 hts (gV k2_136 k2_137 k2_138 k1_1 kc_G_run) rfl rfl rfl (by decide +kernel) ⟨by decide, by decide⟩) (m_preL hK hNX hL (by decide) rfl rfl) rfl rfl hl.1 rfl (lv_room (Nat.le_of_ble_eq_true rfl)) dW_law_417 ⟨Nat.le_of_ble_eq_true rfl, Nat.le_of_ble_eq_true rfl⟩) hL (fun H locs hL => ?_)
        have hL := m2_sw hL
        refine lv_aload_n hx hb dW_law_420 rfl (lv_at hl 2 rfl) ?_
        refine m_lci (va_runV (As := []) (rest := [.int r]) ⟨hx, hb, hml, hown, hts⟩ (cM_run l D adM c3 Y  hfM) (cwV 0 hts (gV k3_218 k3_219 k3_220 k1_8 kc_M_run) rfl rfl rfl (by decide +kernel) ⟨by decide, by decide⟩) (m_preL hK hNM hL (by decide) rfl rfl) rfl rfl hl.1 rfl (lv_room (Nat.le_of_ble_eq_true rfl)) dW_law_421 ⟨Nat.le_of_ble_eq_true rfl, Nat.le_of_ble_eq_true rfl⟩) hL (fun H locs hL => ?_)
        have hL := m2_sw hL
        refine lv_icmp_eq (tgt := 810) hx hb dW_law_424 (by decide) (fun _ => ?_) (fun q => absurd rfl q)
        exact tail X' Y' hR H locs hL
      by_cases k9 : sw = 9
      · refine lv_tableIn (tgt := 429) hx hb dW_law_32 (by rw [k9]; decide) (by rw [k9]; decide) (by rw [k9]; rfl) (by decide) ?_
        refine lv_aload_n hx hb dW_law_429 rfl (lv_at hl 1 rfl) ?_
        obtain ⟨r, X', Y', hfX, hfM, hR⟩ := e_near hR
        refine m_lci (va_runV (As := []) (rest := []) ⟨hx, hb, hml, hown, hts⟩ (cG_near l D adX c3 X  hfX) (cwV 0 hts (gV k2_180 k2_181 k2_182 k1_1 kc_G_near) rfl rfl rfl (by decide +kernel) ⟨by decide, by decide⟩) (m_preL hK hNX hL (by decide) rfl rfl) rfl rfl hl.1 rfl (lv_room (Nat.le_of_ble_eq_true rfl)) dW_law_430 ⟨Nat.le_of_ble_eq_true rfl, Nat.le_of_ble_eq_true rfl⟩) hL (fun H locs hL => ?_)
        have hL := m2_sw hL
        refine lv_aload_n hx hb dW_law_433 rfl (lv_at hl 2 rfl) ?_
        refine m_lci (va_runV (As := []) (rest := [.int r]) ⟨hx, hb, hml, hown, hts⟩ (cM_near l D adM c3 Y  hfM) (cwV 0 hts (gV k4_18 k4_19 k4_20 k1_8 kc_M_near) rfl rfl rfl (by decide +kernel) ⟨by decide, by decide⟩) (m_preL hK hNM hL (by decide) rfl rfl) rfl rfl hl.1 rfl (lv_room (Nat.le_of_ble_eq_true rfl)) dW_law_434 ⟨Nat.le_of_ble_eq_true rfl, Nat.le_of_ble_eq_true rfl⟩) hL (fun H locs hL => ?_)
        have hL := m2_sw hL
        refine lv_icmp_eq (tgt := 810) hx hb dW_law_437 (by decide) (fun _ => ?_) (fun q => absurd rfl q)
        exact tail X' Y' hR H locs hL
      by_cases k10 : sw = 10
      · refine lv_tableIn (tgt := 442) hx hb dW_law_32 (by rw [k10]; decide) (by rw [k10]; decide) (by rw [k10]; rfl) (by decide) ?_
        refine lv_aload_n hx hb dW_law_442 rfl (lv_at hl 1 rfl) ?_
        refine lv_aload_n hx hb dW_law_443 rfl (lv_at hl 0 rfl) ?_
        refine lv_iload_n hx hb dW_law_444 rfl (lv_at hl 3 rfl) ?_
        refine lv_iconst (v := 1) hx hb dW_law_445 (by decide) ?_
        refine lv_iadd hx hb dW_law_446 ?_
        refine va_sld hx hb hX hbl hbA hL.2.2.2.2.2.2.2 v1 dW_law_447 ?_
        refine m_topi ea1 ?_
        obtain ⟨r, hfX, hfM⟩ := e_share hR a1
        refine m_lci (va_runV (As := [.int a1]) (rest := []) ⟨hx, hb, hml, hown, hts⟩ (cG_share l D adX c3 X a1 hfX) (cwV 1 hts (gV k2_184 k2_185 k2_186 k1_1 kc_G_share) rfl rfl rfl (by decide +kernel) ⟨by decide, by decide⟩) (m_preL hK hNX hL (by decide) rfl rfl) rfl rfl hl.1 rfl (lv_room (Nat.le_of_ble_eq_true rfl)) dW_law_448 ⟨Nat.le_of_ble_eq_true rfl, Nat.le_of_ble_eq_true rfl⟩) hL (fun H locs hL => ?_)
        have hL := m2_sw hL
        refine lv_aload_n hx hb dW_law_451 rfl (lv_at hl 2 rfl) ?_
        refine lv_aload_n hx hb dW_law_452 rfl (lv_at hl 0 rfl) ?_
        refine lv_iload_n hx hb dW_law_453 rfl (lv_at hl 3 rfl) ?_
        refine lv_iconst (v := 1) hx hb dW_law_454 (by decide) ?_
        refine lv_iadd hx hb dW_law_455 ?_
        refine va_sld hx hb hX hbl hbA hL.2.2.2.2.2.2.2 v1 dW_law_456 ?_
        refine m_topi ea1 ?_
        refine m_lci (va_runV (As := [.int a1]) (rest := [.int r]) ⟨hx, hb, hml, hown, hts⟩ (cM_share l D adM c3 Y a1 hfM) (cwV 1 hts (gV k4_22 k4_23 k4_24 k1_8 kc_M_share) rfl rfl rfl (by decide +kernel) ⟨by decide, by decide⟩) (m_preL hK hNM hL (by decide) rfl rfl) rfl rfl hl.1 rfl (lv_room (Nat.le_of_ble_eq_true rfl)) dW_law_457 ⟨Nat.le_of_ble_eq_true rfl, Nat.le_of_ble_eq_true rfl⟩) hL (fun H locs hL => ?_)
        have hL := m2_sw hL
        refine lv_icmp_eq (tgt := 810) hx hb dW_law_460 (by decide) (fun _ => ?_) (fun q => absurd rfl q)
        exact tail X Y hR H locs hL
      by_cases k11 : sw = 11
      · refine lv_tableIn (tgt := 465) hx hb dW_law_32 (by rw [k11]; decide) (by rw [k11]; decide) (by rw [k11]; rfl) (by decide) ?_
        refine lv_aload_n hx hb dW_law_465 rfl (lv_at hl 1 rfl) ?_
        refine lv_aload_n hx hb dW_law_466 rfl (lv_at hl 0 rfl) ?_
        refine lv_iload_n hx hb dW_law_467 rfl (lv_at hl 3 rfl) ?_
        refine lv_iconst (v := 1) hx hb dW_law_468 (by decide) ?_
        refine lv_iadd hx hb dW_law_469 ?_
        refine va_sld hx hb hX hbl hbA hL.2.2.2.2.2.2.2 v1 dW_law_470 ?_
        refine m_topi ea1 ?_
        refine lv_aload_n hx hb dW_law_471 rfl (lv_at hl 0 rfl) ?_
        refine lv_iload_n hx hb dW_law_472 rfl (lv_at hl 3 rfl) ?_
        refine lv_iconst (v := 2) hx hb dW_law_473 (by decide) ?_
        refine lv_iadd hx hb dW_law_474 ?_
        refine va_sld hx hb hX hbl hbA hL.2.2.2.2.2.2.2 v2 dW_law_475 ?_
        refine m_topi ea2 ?_
        obtain ⟨r, hfX, hfM⟩ := e_told hR a1 a2
        refine m_lci (va_runV (As := [.int a1, .int a2]) (rest := []) ⟨hx, hb, hml, hown, hts⟩ (cG_told l D adX c3 X a1 a2 hfX) (cwV 2 hts (gV k2_188 k2_189 k2_190 k1_1 kc_G_told) rfl rfl rfl (by decide +kernel) ⟨by decide, by decide⟩) (m_preL hK hNX hL (by decide) rfl rfl) rfl rfl hl.1 rfl (lv_room (Nat.le_of_ble_eq_true rfl)) dW_law_476 ⟨Nat.le_of_ble_eq_true rfl, Nat.le_of_ble_eq_true rfl⟩) hL (fun H locs hL => ?_)
        have hL := m2_sw hL
        refine lv_aload_n hx hb dW_law_479 rfl (lv_at hl 2 rfl) ?_
        refine lv_aload_n hx hb dW_law_480 rfl (lv_at hl 0 rfl) ?_
        refine lv_iload_n hx hb dW_law_481 rfl (lv_at hl 3 rfl) ?_
        refine lv_iconst (v := 1) hx hb dW_law_482 (by decide) ?_
        refine lv_iadd hx hb dW_law_483 ?_
        refine va_sld hx hb hX hbl hbA hL.2.2.2.2.2.2.2 v1 dW_law_484 ?_
        refine m_topi ea1 ?_
        refine lv_aload_n hx hb dW_law_485 rfl (lv_at hl 0 rfl) ?_
        refine lv_iload_n hx hb dW_law_486 rfl (lv_at hl 3 rfl) ?_
        refine lv_iconst (v := 2) hx hb dW_law_487 (by decide) ?_
        refine lv_iadd hx hb dW_law_488 ?_
        refine va_sld hx hb hX hbl hbA hL.2.2.2.2.2.2.2 v2 dW_law_489 ?_
        refine m_topi ea2 ?_
        refine m_lci (va_runV (As := [.int a1, .int a2]) (rest := [.int r]) ⟨hx, hb, hml, hown, hts⟩ (cM_told l D adM c3 Y a1 a2 hfM) (cwV 2 hts (gV k4_26 k4_27 k4_28 k1_8 kc_M_told) rfl rfl rfl (by decide +kernel) ⟨by decide, by decide⟩) (m_preL hK hNM hL (by decide) rfl rfl) rfl rfl hl.1 rfl (lv_room (Nat.le_of_ble_eq_true rfl)) dW_law_490 ⟨Nat.le_of_ble_eq_true rfl, Nat.le_of_ble_eq_true rfl⟩) hL (fun H locs hL => ?_)
        have hL := m2_sw hL
        refine lv_icmp_eq (tgt := 810) hx hb dW_law_493 (by decide) (fun _ => ?_) (fun q => absurd rfl q)
        exact tail X Y hR H locs hL
      by_cases k12 : sw = 12
      · refine lv_tableIn (tgt := 498) hx hb dW_law_32 (by rw [k12]; decide) (by rw [k12]; decide) (by rw [k12]; rfl) (by decide) ?_
        refine lv_aload_n hx hb dW_law_498 rfl (lv_at hl 1 rfl) ?_
        obtain ⟨r, hfX, hfM⟩ := e_cost hR
        refine m_lci (va_runV (As := []) (rest := []) ⟨hx, hb, hml, hown, hts⟩ (cG_cost l D adX c3 X  hfX) (cwV 0 hts (gV k2_201 k2_202 k2_203 k1_1 kc_G_cost) rfl rfl rfl (by decide +kernel) ⟨by decide, by decide⟩) (m_preL hK hNX hL (by decide) rfl rfl) rfl rfl hl.1 rfl (lv_room (Nat.le_of_ble_eq_true rfl)) dW_law_499 ⟨Nat.le_of_ble_eq_true rfl, Nat.le_of_ble_eq_true rfl⟩) hL (fun H locs hL => ?_)
        have hL := m2_sw hL
        refine lv_aload_n hx hb dW_law_502 rfl (lv_at hl 2 rfl) ?_
        refine m_lci (va_runV (As := []) (rest := [.int r]) ⟨hx, hb, hml, hown, hts⟩ (cM_cost l D adM c3 Y  hfM) (cwV 0 hts (gV k4_30 k4_31 k4_32 k1_8 kc_M_cost) rfl rfl rfl (by decide +kernel) ⟨by decide, by decide⟩) (m_preL hK hNM hL (by decide) rfl rfl) rfl rfl hl.1 rfl (lv_room (Nat.le_of_ble_eq_true rfl)) dW_law_503 ⟨Nat.le_of_ble_eq_true rfl, Nat.le_of_ble_eq_true rfl⟩) hL (fun H locs hL => ?_)
        have hL := m2_sw hL
        refine lv_icmp_eq (tgt := 810) hx hb dW_law_506 (by decide) (fun _ => ?_) (fun q => absurd rfl q)
        exact tail X Y hR H locs hL
      by_cases k13 : sw = 13
      · refine lv_tableIn (tgt := 511) hx hb dW_law_32 (by rw [k13]; decide) (by rw [k13]; decide) (by rw [k13]; rfl) (by decide) ?_
        refine lv_aload_n hx hb dW_law_511 rfl (lv_at hl 1 rfl) ?_
        refine lv_aload_n hx hb dW_law_512 rfl (lv_at hl 0 rfl) ?_
        refine lv_iload_n hx hb dW_law_513 rfl (lv_at hl 3 rfl) ?_
        refine lv_iconst (v := 1) hx hb dW_law_514 (by decide) ?_
        refine lv_iadd hx hb dW_law_515 ?_
        refine va_sld hx hb hX hbl hbA hL.2.2.2.2.2.2.2 v1 dW_law_516 ?_
        refine m_topi ea1 ?_
        obtain ⟨r, X', Y', hfX, hfM, hR⟩ := e_lonely hR a1
        refine m_lci (va_runV (As := [.int a1]) (rest := []) ⟨hx, hb, hml, hown, hts⟩ (cG_lonely l D adX c3 X a1 hfX) (cwV 1 hts (gV k2_205 k2_206 k2_207 k1_1 kc_G_lonely) rfl rfl rfl (by decide +kernel) ⟨by decide, by decide⟩) (m_preL hK hNX hL (by decide) rfl rfl) rfl rfl hl.1 rfl (lv_room (Nat.le_of_ble_eq_true rfl)) dW_law_517 ⟨Nat.le_of_ble_eq_true rfl, Nat.le_of_ble_eq_true rfl⟩) hL (fun H locs hL => ?_)
        have hL := m2_sw hL
        refine lv_aload_n hx hb dW_law_520 rfl (lv_at hl 2 rfl) ?_
        refine lv_aload_n hx hb dW_law_521 rfl (lv_at hl 0 rfl) ?_
        refine lv_iload_n hx hb dW_law_522 rfl (lv_at hl 3 rfl) ?_
        refine lv_iconst (v := 1) hx hb dW_law_523 (by decide) ?_
        refine lv_iadd hx hb dW_law_524 ?_
        refine va_sld hx hb hX hbl hbA hL.2.2.2.2.2.2.2 v1 dW_law_525 ?_
        refine m_topi ea1 ?_
        refine m_lci (va_runV (As := [.int a1]) (rest := [.int r]) ⟨hx, hb, hml, hown, hts⟩ (cM_lonely l D adM c3 Y a1 hfM) (cwV 1 hts (gV k4_34 k4_35 k4_36 k1_8 kc_M_lonely) rfl rfl rfl (by decide +kernel) ⟨by decide, by decide⟩) (m_preL hK hNM hL (by decide) rfl rfl) rfl rfl hl.1 rfl (lv_room (Nat.le_of_ble_eq_true rfl)) dW_law_526 ⟨Nat.le_of_ble_eq_true rfl, Nat.le_of_ble_eq_true rfl⟩) hL (fun H locs hL => ?_)
        have hL := m2_sw hL
        refine lv_icmp_eq (tgt := 810) hx hb dW_law_529 (by decide) (fun _ => ?_) (fun q => absurd rfl q)
        exact tail X' Y' hR H locs hL
      by_cases k14 : sw = 14
      · refine lv_tableIn (tgt := 534) hx hb dW_law_32 (by rw [k14]; decide) (by rw [k14]; decide) (by rw [k14]; rfl) (by decide) ?_
        refine lv_aload_n hx hb dW_law_534 rfl (lv_at hl 1 rfl) ?_
        refine lv_aload_n hx hb dW_law_535 rfl (lv_at hl 0 rfl) ?_
        refine lv_iload_n hx hb dW_law_536 rfl (lv_at hl 3 rfl) ?_
        refine lv_iconst (v := 1) hx hb dW_law_537 (by decide) ?_
        refine lv_iadd hx hb dW_law_538 ?_
        refine va_sld hx hb hX hbl hbA hL.2.2.2.2.2.2.2 v1 dW_law_539 ?_
        refine m_topi ea1 ?_
        refine lv_aload_n hx hb dW_law_540 rfl (lv_at hl 0 rfl) ?_
        refine lv_iload_n hx hb dW_law_541 rfl (lv_at hl 3 rfl) ?_
        refine lv_iconst (v := 2) hx hb dW_law_542 (by decide) ?_
        refine lv_iadd hx hb dW_law_543 ?_
        refine va_sld hx hb hX hbl hbA hL.2.2.2.2.2.2.2 v2 dW_law_544 ?_
        refine m_topi ea2 ?_
        refine lv_if_eq (tgt := 552) hx hb dW_law_545 (by decide) (fun za2 => ?_) (fun za2 => ?_)
        · refine lv_iconst (v := 0) hx hb dW_law_552 (by decide) ?_
          refine lv_aload_n hx hb dW_law_553 rfl (lv_at hl 0 rfl) ?_
          refine lv_iload_n hx hb dW_law_554 rfl (lv_at hl 3 rfl) ?_
          refine lv_iconst (v := 3) hx hb dW_law_555 (by decide) ?_
          refine lv_iadd hx hb dW_law_556 ?_
          refine va_sld hx hb hX hbl hbA hL.2.2.2.2.2.2.2 v3 dW_law_557 ?_
          refine m_topi ea3 ?_
          obtain ⟨r, X', Y', hfX, hfM, hR⟩ := e_worth hR a1 0 a3
          refine m_lci (va_runV (As := [.int a1, .int 0, .int a3]) (rest := []) ⟨hx, hb, hml, hown, hts⟩ (cG_worth l D adX c3 X a1 0 a3 hfX) (cwV 3 hts (gV k2_209 k2_210 k2_211 k1_1 kc_G_worth) rfl rfl rfl (by decide +kernel) ⟨by decide, by decide⟩) (m_preL hK hNX hL (by decide) rfl rfl) rfl rfl hl.1 rfl (lv_room (Nat.le_of_ble_eq_true rfl)) dW_law_558 ⟨Nat.le_of_ble_eq_true rfl, Nat.le_of_ble_eq_true rfl⟩) hL (fun H locs hL => ?_)
          have hL := m2_sw hL
          refine lv_aload_n hx hb dW_law_561 rfl (lv_at hl 2 rfl) ?_
          refine lv_aload_n hx hb dW_law_562 rfl (lv_at hl 0 rfl) ?_
          refine lv_iload_n hx hb dW_law_563 rfl (lv_at hl 3 rfl) ?_
          refine lv_iconst (v := 1) hx hb dW_law_564 (by decide) ?_
          refine lv_iadd hx hb dW_law_565 ?_
          refine va_sld hx hb hX hbl hbA hL.2.2.2.2.2.2.2 v1 dW_law_566 ?_
          refine m_topi ea1 ?_
          refine lv_aload_n hx hb dW_law_567 rfl (lv_at hl 0 rfl) ?_
          refine lv_iload_n hx hb dW_law_568 rfl (lv_at hl 3 rfl) ?_
          refine lv_iconst (v := 2) hx hb dW_law_569 (by decide) ?_
          refine lv_iadd hx hb dW_law_570 ?_
          refine va_sld hx hb hX hbl hbA hL.2.2.2.2.2.2.2 v2 dW_law_571 ?_
          refine m_topi ea2 ?_
          refine lv_if_eq (tgt := 579) hx hb dW_law_572 (by decide) (fun _ => ?_) (fun q => absurd za2 q)
          refine lv_iconst (v := 0) hx hb dW_law_579 (by decide) ?_
          refine lv_aload_n hx hb dW_law_580 rfl (lv_at hl 0 rfl) ?_
          refine lv_iload_n hx hb dW_law_581 rfl (lv_at hl 3 rfl) ?_
          refine lv_iconst (v := 3) hx hb dW_law_582 (by decide) ?_
          refine lv_iadd hx hb dW_law_583 ?_
          refine va_sld hx hb hX hbl hbA hL.2.2.2.2.2.2.2 v3 dW_law_584 ?_
          refine m_topi ea3 ?_
          refine m_lci (va_runV (As := [.int a1, .int 0, .int a3]) (rest := [.int r]) ⟨hx, hb, hml, hown, hts⟩ (cM_worth l D adM c3 Y a1 0 a3 hfM) (cwV 3 hts (gV k4_38 k4_39 k4_40 k1_8 kc_M_worth) rfl rfl rfl (by decide +kernel) ⟨by decide, by decide⟩) (m_preL hK hNM hL (by decide) rfl rfl) rfl rfl hl.1 rfl (lv_room (Nat.le_of_ble_eq_true rfl)) dW_law_585 ⟨Nat.le_of_ble_eq_true rfl, Nat.le_of_ble_eq_true rfl⟩) hL (fun H locs hL => ?_)
          have hL := m2_sw hL
          refine lv_icmp_eq (tgt := 810) hx hb dW_law_588 (by decide) (fun _ => ?_) (fun q => absurd rfl q)
          exact tail X' Y' hR H locs hL
        · refine lv_iconst (v := 1) hx hb dW_law_548 (by decide) ?_
          refine lv_goto (tgt := 553) hx hb dW_law_549 (by decide) ?_
          refine lv_aload_n hx hb dW_law_553 rfl (lv_at hl 0 rfl) ?_
          refine lv_iload_n hx hb dW_law_554 rfl (lv_at hl 3 rfl) ?_
          refine lv_iconst (v := 3) hx hb dW_law_555 (by decide) ?_
          refine lv_iadd hx hb dW_law_556 ?_
          refine va_sld hx hb hX hbl hbA hL.2.2.2.2.2.2.2 v3 dW_law_557 ?_
          refine m_topi ea3 ?_
          obtain ⟨r, X', Y', hfX, hfM, hR⟩ := e_worth hR a1 1 a3
          refine m_lci (va_runV (As := [.int a1, .int 1, .int a3]) (rest := []) ⟨hx, hb, hml, hown, hts⟩ (cG_worth l D adX c3 X a1 1 a3 hfX) (cwV 3 hts (gV k2_209 k2_210 k2_211 k1_1 kc_G_worth) rfl rfl rfl (by decide +kernel) ⟨by decide, by decide⟩) (m_preL hK hNX hL (by decide) rfl rfl) rfl rfl hl.1 rfl (lv_room (Nat.le_of_ble_eq_true rfl)) dW_law_558 ⟨Nat.le_of_ble_eq_true rfl, Nat.le_of_ble_eq_true rfl⟩) hL (fun H locs hL => ?_)
          have hL := m2_sw hL
          refine lv_aload_n hx hb dW_law_561 rfl (lv_at hl 2 rfl) ?_
          refine lv_aload_n hx hb dW_law_562 rfl (lv_at hl 0 rfl) ?_
          refine lv_iload_n hx hb dW_law_563 rfl (lv_at hl 3 rfl) ?_
          refine lv_iconst (v := 1) hx hb dW_law_564 (by decide) ?_
          refine lv_iadd hx hb dW_law_565 ?_
          refine va_sld hx hb hX hbl hbA hL.2.2.2.2.2.2.2 v1 dW_law_566 ?_
          refine m_topi ea1 ?_
          refine lv_aload_n hx hb dW_law_567 rfl (lv_at hl 0 rfl) ?_
          refine lv_iload_n hx hb dW_law_568 rfl (lv_at hl 3 rfl) ?_
          refine lv_iconst (v := 2) hx hb dW_law_569 (by decide) ?_
          refine lv_iadd hx hb dW_law_570 ?_
          refine va_sld hx hb hX hbl hbA hL.2.2.2.2.2.2.2 v2 dW_law_571 ?_
          refine m_topi ea2 ?_
          refine lv_if_eq (tgt := 579) hx hb dW_law_572 (by decide) (fun q => absurd q za2) (fun _ => ?_)
          refine lv_iconst (v := 1) hx hb dW_law_575 (by decide) ?_
          refine lv_goto (tgt := 580) hx hb dW_law_576 (by decide) ?_
          refine lv_aload_n hx hb dW_law_580 rfl (lv_at hl 0 rfl) ?_
          refine lv_iload_n hx hb dW_law_581 rfl (lv_at hl 3 rfl) ?_
          refine lv_iconst (v := 3) hx hb dW_law_582 (by decide) ?_
          refine lv_iadd hx hb dW_law_583 ?_
          refine va_sld hx hb hX hbl hbA hL.2.2.2.2.2.2.2 v3 dW_law_584 ?_
          refine m_topi ea3 ?_
          refine m_lci (va_runV (As := [.int a1, .int 1, .int a3]) (rest := [.int r]) ⟨hx, hb, hml, hown, hts⟩ (cM_worth l D adM c3 Y a1 1 a3 hfM) (cwV 3 hts (gV k4_38 k4_39 k4_40 k1_8 kc_M_worth) rfl rfl rfl (by decide +kernel) ⟨by decide, by decide⟩) (m_preL hK hNM hL (by decide) rfl rfl) rfl rfl hl.1 rfl (lv_room (Nat.le_of_ble_eq_true rfl)) dW_law_585 ⟨Nat.le_of_ble_eq_true rfl, Nat.le_of_ble_eq_true rfl⟩) hL (fun H locs hL => ?_)
          have hL := m2_sw hL
          refine lv_icmp_eq (tgt := 810) hx hb dW_law_588 (by decide) (fun _ => ?_) (fun q => absurd rfl q)
          exact tail X' Y' hR H locs hL
      by_cases k15 : sw = 15
      · refine lv_tableIn (tgt := 593) hx hb dW_law_32 (by rw [k15]; decide) (by rw [k15]; decide) (by rw [k15]; rfl) (by decide) ?_
        refine lv_aload_n hx hb dW_law_593 rfl (lv_at hl 1 rfl) ?_
        refine lv_aload_n hx hb dW_law_594 rfl (lv_at hl 0 rfl) ?_
        refine lv_iload_n hx hb dW_law_595 rfl (lv_at hl 3 rfl) ?_
        refine lv_iconst (v := 1) hx hb dW_law_596 (by decide) ?_
        refine lv_iadd hx hb dW_law_597 ?_
        refine va_sld hx hb hX hbl hbA hL.2.2.2.2.2.2.2 v1 dW_law_598 ?_
        refine m_topi ea1 ?_
        refine lv_aload_n hx hb dW_law_599 rfl (lv_at hl 0 rfl) ?_
        refine lv_iload_n hx hb dW_law_600 rfl (lv_at hl 3 rfl) ?_
        refine lv_iconst (v := 2) hx hb dW_law_601 (by decide) ?_
        refine lv_iadd hx hb dW_law_602 ?_
        refine va_sld hx hb hX hbl hbA hL.2.2.2.2.2.2.2 v2 dW_law_603 ?_
        refine m_topi ea2 ?_
        obtain ⟨r, X', Y', hfX, hfM, hR⟩ := e_water hR a1 a2
        refine m_lci (va_runV (As := [.int a1, .int a2]) (rest := []) ⟨hx, hb, hml, hown, hts⟩ (cG_water l D adX c3 X a1 a2 hfX) (cwV 2 hts (gV k2_217 k2_218 k2_219 k1_1 kc_G_water) rfl rfl rfl (by decide +kernel) ⟨by decide, by decide⟩) (m_preL hK hNX hL (by decide) rfl rfl) rfl rfl hl.1 rfl (lv_room (Nat.le_of_ble_eq_true rfl)) dW_law_604 ⟨Nat.le_of_ble_eq_true rfl, Nat.le_of_ble_eq_true rfl⟩) hL (fun H locs hL => ?_)
        have hL := m2_sw hL
        refine lv_aload_n hx hb dW_law_607 rfl (lv_at hl 2 rfl) ?_
        refine lv_aload_n hx hb dW_law_608 rfl (lv_at hl 0 rfl) ?_
        refine lv_iload_n hx hb dW_law_609 rfl (lv_at hl 3 rfl) ?_
        refine lv_iconst (v := 1) hx hb dW_law_610 (by decide) ?_
        refine lv_iadd hx hb dW_law_611 ?_
        refine va_sld hx hb hX hbl hbA hL.2.2.2.2.2.2.2 v1 dW_law_612 ?_
        refine m_topi ea1 ?_
        refine lv_aload_n hx hb dW_law_613 rfl (lv_at hl 0 rfl) ?_
        refine lv_iload_n hx hb dW_law_614 rfl (lv_at hl 3 rfl) ?_
        refine lv_iconst (v := 2) hx hb dW_law_615 (by decide) ?_
        refine lv_iadd hx hb dW_law_616 ?_
        refine va_sld hx hb hX hbl hbA hL.2.2.2.2.2.2.2 v2 dW_law_617 ?_
        refine m_topi ea2 ?_
        refine m_lci (va_runV (As := [.int a1, .int a2]) (rest := [.int r]) ⟨hx, hb, hml, hown, hts⟩ (cM_water l D adM c3 Y a1 a2 hfM) (cwV 2 hts (gV k4_42 k4_43 k4_44 k1_8 kc_M_water) rfl rfl rfl (by decide +kernel) ⟨by decide, by decide⟩) (m_preL hK hNM hL (by decide) rfl rfl) rfl rfl hl.1 rfl (lv_room (Nat.le_of_ble_eq_true rfl)) dW_law_618 ⟨Nat.le_of_ble_eq_true rfl, Nat.le_of_ble_eq_true rfl⟩) hL (fun H locs hL => ?_)
        have hL := m2_sw hL
        refine lv_icmp_eq (tgt := 810) hx hb dW_law_621 (by decide) (fun _ => ?_) (fun q => absurd rfl q)
        exact tail X' Y' hR H locs hL
      by_cases k16 : sw = 16
      · refine lv_tableIn (tgt := 626) hx hb dW_law_32 (by rw [k16]; decide) (by rw [k16]; decide) (by rw [k16]; rfl) (by decide) ?_
        refine lv_aload_n hx hb dW_law_626 rfl (lv_at hl 1 rfl) ?_
        refine lv_aload_n hx hb dW_law_627 rfl (lv_at hl 0 rfl) ?_
        refine lv_iload_n hx hb dW_law_628 rfl (lv_at hl 3 rfl) ?_
        refine lv_iconst (v := 1) hx hb dW_law_629 (by decide) ?_
        refine lv_iadd hx hb dW_law_630 ?_
        refine va_sld hx hb hX hbl hbA hL.2.2.2.2.2.2.2 v1 dW_law_631 ?_
        refine m_topi ea1 ?_
        obtain ⟨r, X', Y', hfX, hfM, hR⟩ := e_batch hR a1
        refine m_lci (va_runV (As := [.int a1]) (rest := []) ⟨hx, hb, hml, hown, hts⟩ (cG_batch l D adX c3 X a1 hfX) (cwV 1 hts (gV k2_221 k2_222 k2_223 k1_1 kc_G_batch) rfl rfl rfl (by decide +kernel) ⟨by decide, by decide⟩) (m_preL hK hNX hL (by decide) rfl rfl) rfl rfl hl.1 rfl (lv_room (Nat.le_of_ble_eq_true rfl)) dW_law_632 ⟨Nat.le_of_ble_eq_true rfl, Nat.le_of_ble_eq_true rfl⟩) hL (fun H locs hL => ?_)
        have hL := m2_sw hL
        refine lv_aload_n hx hb dW_law_635 rfl (lv_at hl 2 rfl) ?_
        refine lv_aload_n hx hb dW_law_636 rfl (lv_at hl 0 rfl) ?_
        refine lv_iload_n hx hb dW_law_637 rfl (lv_at hl 3 rfl) ?_
        refine lv_iconst (v := 1) hx hb dW_law_638 (by decide) ?_
        refine lv_iadd hx hb dW_law_639 ?_
        refine va_sld hx hb hX hbl hbA hL.2.2.2.2.2.2.2 v1 dW_law_640 ?_
        refine m_topi ea1 ?_
        refine m_lci (va_runV (As := [.int a1]) (rest := [.int r]) ⟨hx, hb, hml, hown, hts⟩ (cM_batch l D adM c3 Y a1 hfM) (cwV 1 hts (gV k4_46 k4_47 k4_48 k1_8 kc_M_batch) rfl rfl rfl (by decide +kernel) ⟨by decide, by decide⟩) (m_preL hK hNM hL (by decide) rfl rfl) rfl rfl hl.1 rfl (lv_room (Nat.le_of_ble_eq_true rfl)) dW_law_641 ⟨Nat.le_of_ble_eq_true rfl, Nat.le_of_ble_eq_true rfl⟩) hL (fun H locs hL => ?_)
        have hL := m2_sw hL
        refine lv_icmp_eq (tgt := 810) hx hb dW_law_644 (by decide) (fun _ => ?_) (fun q => absurd rfl q)
        exact tail X' Y' hR H locs hL
      by_cases k17 : sw = 17
      · refine lv_tableIn (tgt := 649) hx hb dW_law_32 (by rw [k17]; decide) (by rw [k17]; decide) (by rw [k17]; rfl) (by decide) ?_
        refine lv_aload_n hx hb dW_law_649 rfl (lv_at hl 1 rfl) ?_
        refine lv_aload_n hx hb dW_law_650 rfl (lv_at hl 0 rfl) ?_
        refine lv_iload_n hx hb dW_law_651 rfl (lv_at hl 3 rfl) ?_
        refine lv_iconst (v := 1) hx hb dW_law_652 (by decide) ?_
        refine lv_iadd hx hb dW_law_653 ?_
        refine va_sld hx hb hX hbl hbA hL.2.2.2.2.2.2.2 v1 dW_law_654 ?_
        refine m_topi ea1 ?_
        refine lv_aload_n hx hb dW_law_655 rfl (lv_at hl 0 rfl) ?_
        refine lv_iload_n hx hb dW_law_656 rfl (lv_at hl 3 rfl) ?_
        refine lv_iconst (v := 2) hx hb dW_law_657 (by decide) ?_
        refine lv_iadd hx hb dW_law_658 ?_
        refine va_sld hx hb hX hbl hbA hL.2.2.2.2.2.2.2 v2 dW_law_659 ?_
        refine m_topi ea2 ?_
        refine lv_if_eq (tgt := 667) hx hb dW_law_660 (by decide) (fun za2 => ?_) (fun za2 => ?_)
        · refine lv_iconst (v := 0) hx hb dW_law_667 (by decide) ?_
          obtain ⟨r, hfX, hfM⟩ := e_mass hR a1 0
          refine m_lci (va_runV (As := [.int a1, .int 0]) (rest := []) ⟨hx, hb, hml, hown, hts⟩ (cG_mass l D adX c3 X a1 0 hfX) (cwV 2 hts (gV k2_230 k2_231 k2_232 k1_1 kc_G_mass) rfl rfl rfl (by decide +kernel) ⟨by decide, by decide⟩) (m_preL hK hNX hL (by decide) rfl rfl) rfl rfl hl.1 rfl (lv_room (Nat.le_of_ble_eq_true rfl)) dW_law_668 ⟨Nat.le_of_ble_eq_true rfl, Nat.le_of_ble_eq_true rfl⟩) hL (fun H locs hL => ?_)
          have hL := m2_sw hL
          refine lv_aload_n hx hb dW_law_671 rfl (lv_at hl 2 rfl) ?_
          refine lv_aload_n hx hb dW_law_672 rfl (lv_at hl 0 rfl) ?_
          refine lv_iload_n hx hb dW_law_673 rfl (lv_at hl 3 rfl) ?_
          refine lv_iconst (v := 1) hx hb dW_law_674 (by decide) ?_
          refine lv_iadd hx hb dW_law_675 ?_
          refine va_sld hx hb hX hbl hbA hL.2.2.2.2.2.2.2 v1 dW_law_676 ?_
          refine m_topi ea1 ?_
          refine lv_aload_n hx hb dW_law_677 rfl (lv_at hl 0 rfl) ?_
          refine lv_iload_n hx hb dW_law_678 rfl (lv_at hl 3 rfl) ?_
          refine lv_iconst (v := 2) hx hb dW_law_679 (by decide) ?_
          refine lv_iadd hx hb dW_law_680 ?_
          refine va_sld hx hb hX hbl hbA hL.2.2.2.2.2.2.2 v2 dW_law_681 ?_
          refine m_topi ea2 ?_
          refine lv_if_eq (tgt := 689) hx hb dW_law_682 (by decide) (fun _ => ?_) (fun q => absurd za2 q)
          refine lv_iconst (v := 0) hx hb dW_law_689 (by decide) ?_
          refine m_lci (va_runV (As := [.int a1, .int 0]) (rest := [.int r]) ⟨hx, hb, hml, hown, hts⟩ (cM_mass l D adM c3 Y a1 0 hfM) (cwV 2 hts (gV k4_53 k4_54 k4_55 k1_8 kc_M_mass) rfl rfl rfl (by decide +kernel) ⟨by decide, by decide⟩) (m_preL hK hNM hL (by decide) rfl rfl) rfl rfl hl.1 rfl (lv_room (Nat.le_of_ble_eq_true rfl)) dW_law_690 ⟨Nat.le_of_ble_eq_true rfl, Nat.le_of_ble_eq_true rfl⟩) hL (fun H locs hL => ?_)
          have hL := m2_sw hL
          refine lv_icmp_eq (tgt := 810) hx hb dW_law_693 (by decide) (fun _ => ?_) (fun q => absurd rfl q)
          exact tail X Y hR H locs hL
        · refine lv_iconst (v := 1) hx hb dW_law_663 (by decide) ?_
          refine lv_goto (tgt := 668) hx hb dW_law_664 (by decide) ?_
          obtain ⟨r, hfX, hfM⟩ := e_mass hR a1 1
          refine m_lci (va_runV (As := [.int a1, .int 1]) (rest := []) ⟨hx, hb, hml, hown, hts⟩ (cG_mass l D adX c3 X a1 1 hfX) (cwV 2 hts (gV k2_230 k2_231 k2_232 k1_1 kc_G_mass) rfl rfl rfl (by decide +kernel) ⟨by decide, by decide⟩) (m_preL hK hNX hL (by decide) rfl rfl) rfl rfl hl.1 rfl (lv_room (Nat.le_of_ble_eq_true rfl)) dW_law_668 ⟨Nat.le_of_ble_eq_true rfl, Nat.le_of_ble_eq_true rfl⟩) hL (fun H locs hL => ?_)
          have hL := m2_sw hL
          refine lv_aload_n hx hb dW_law_671 rfl (lv_at hl 2 rfl) ?_
          refine lv_aload_n hx hb dW_law_672 rfl (lv_at hl 0 rfl) ?_
          refine lv_iload_n hx hb dW_law_673 rfl (lv_at hl 3 rfl) ?_
          refine lv_iconst (v := 1) hx hb dW_law_674 (by decide) ?_
          refine lv_iadd hx hb dW_law_675 ?_
          refine va_sld hx hb hX hbl hbA hL.2.2.2.2.2.2.2 v1 dW_law_676 ?_
          refine m_topi ea1 ?_
          refine lv_aload_n hx hb dW_law_677 rfl (lv_at hl 0 rfl) ?_
          refine lv_iload_n hx hb dW_law_678 rfl (lv_at hl 3 rfl) ?_
          refine lv_iconst (v := 2) hx hb dW_law_679 (by decide) ?_
          refine lv_iadd hx hb dW_law_680 ?_
          refine va_sld hx hb hX hbl hbA hL.2.2.2.2.2.2.2 v2 dW_law_681 ?_
          refine m_topi ea2 ?_
          refine lv_if_eq (tgt := 689) hx hb dW_law_682 (by decide) (fun q => absurd q za2) (fun _ => ?_)
          refine lv_iconst (v := 1) hx hb dW_law_685 (by decide) ?_
          refine lv_goto (tgt := 690) hx hb dW_law_686 (by decide) ?_
          refine m_lci (va_runV (As := [.int a1, .int 1]) (rest := [.int r]) ⟨hx, hb, hml, hown, hts⟩ (cM_mass l D adM c3 Y a1 1 hfM) (cwV 2 hts (gV k4_53 k4_54 k4_55 k1_8 kc_M_mass) rfl rfl rfl (by decide +kernel) ⟨by decide, by decide⟩) (m_preL hK hNM hL (by decide) rfl rfl) rfl rfl hl.1 rfl (lv_room (Nat.le_of_ble_eq_true rfl)) dW_law_690 ⟨Nat.le_of_ble_eq_true rfl, Nat.le_of_ble_eq_true rfl⟩) hL (fun H locs hL => ?_)
          have hL := m2_sw hL
          refine lv_icmp_eq (tgt := 810) hx hb dW_law_693 (by decide) (fun _ => ?_) (fun q => absurd rfl q)
          exact tail X Y hR H locs hL
      by_cases k18 : sw = 18
      · refine lv_tableIn (tgt := 698) hx hb dW_law_32 (by rw [k18]; decide) (by rw [k18]; decide) (by rw [k18]; rfl) (by decide) ?_
        refine lv_aload_n hx hb dW_law_698 rfl (lv_at hl 1 rfl) ?_
        refine lv_aload_n hx hb dW_law_699 rfl (lv_at hl 0 rfl) ?_
        refine lv_iload_n hx hb dW_law_700 rfl (lv_at hl 3 rfl) ?_
        refine lv_iconst (v := 1) hx hb dW_law_701 (by decide) ?_
        refine lv_iadd hx hb dW_law_702 ?_
        refine va_sld hx hb hX hbl hbA hL.2.2.2.2.2.2.2 v1 dW_law_703 ?_
        refine m_topi ea1 ?_
        obtain ⟨r, X', Y', hfX, hfM, hR⟩ := e_limit hR a1
        refine m_lci (va_runV (As := [.int a1]) (rest := []) ⟨hx, hb, hml, hown, hts⟩ (cG_limit l D adX c3 X a1 hfX) (cwV 1 hts (gV k2_234 k2_235 k2_236 k1_1 kc_G_limit) rfl rfl rfl (by decide +kernel) ⟨by decide, by decide⟩) (m_preL hK hNX hL (by decide) rfl rfl) rfl rfl hl.1 rfl (lv_room (Nat.le_of_ble_eq_true rfl)) dW_law_704 ⟨Nat.le_of_ble_eq_true rfl, Nat.le_of_ble_eq_true rfl⟩) hL (fun H locs hL => ?_)
        have hL := m2_sw hL
        refine lv_aload_n hx hb dW_law_707 rfl (lv_at hl 2 rfl) ?_
        refine lv_aload_n hx hb dW_law_708 rfl (lv_at hl 0 rfl) ?_
        refine lv_iload_n hx hb dW_law_709 rfl (lv_at hl 3 rfl) ?_
        refine lv_iconst (v := 1) hx hb dW_law_710 (by decide) ?_
        refine lv_iadd hx hb dW_law_711 ?_
        refine va_sld hx hb hX hbl hbA hL.2.2.2.2.2.2.2 v1 dW_law_712 ?_
        refine m_topi ea1 ?_
        refine m_lci (va_runV (As := [.int a1]) (rest := [.int r]) ⟨hx, hb, hml, hown, hts⟩ (cM_limit l D adM c3 Y a1 hfM) (cwV 1 hts (gV k4_57 k4_58 k4_59 k1_8 kc_M_limit) rfl rfl rfl (by decide +kernel) ⟨by decide, by decide⟩) (m_preL hK hNM hL (by decide) rfl rfl) rfl rfl hl.1 rfl (lv_room (Nat.le_of_ble_eq_true rfl)) dW_law_713 ⟨Nat.le_of_ble_eq_true rfl, Nat.le_of_ble_eq_true rfl⟩) hL (fun H locs hL => ?_)
        have hL := m2_sw hL
        refine lv_icmp_eq (tgt := 810) hx hb dW_law_716 (by decide) (fun _ => ?_) (fun q => absurd rfl q)
        exact tail X' Y' hR H locs hL
      by_cases k19 : sw = 19
      · refine lv_tableIn (tgt := 721) hx hb dW_law_32 (by rw [k19]; decide) (by rw [k19]; decide) (by rw [k19]; rfl) (by decide) ?_
        refine lv_aload_n hx hb dW_law_721 rfl (lv_at hl 1 rfl) ?_
        refine lv_aload_n hx hb dW_law_722 rfl (lv_at hl 0 rfl) ?_
        refine lv_iload_n hx hb dW_law_723 rfl (lv_at hl 3 rfl) ?_
        refine lv_iconst (v := 1) hx hb dW_law_724 (by decide) ?_
        refine lv_iadd hx hb dW_law_725 ?_
        refine va_sld hx hb hX hbl hbA hL.2.2.2.2.2.2.2 v1 dW_law_726 ?_
        refine m_topi ea1 ?_
        refine lv_aload_n hx hb dW_law_727 rfl (lv_at hl 0 rfl) ?_
        refine lv_iload_n hx hb dW_law_728 rfl (lv_at hl 3 rfl) ?_
        refine lv_iconst (v := 2) hx hb dW_law_729 (by decide) ?_
        refine lv_iadd hx hb dW_law_730 ?_
        refine va_sld hx hb hX hbl hbA hL.2.2.2.2.2.2.2 v2 dW_law_731 ?_
        refine m_topi ea2 ?_
        obtain ⟨r, X', Y', hfX, hfM, hR⟩ := e_test hR a1 a2
        refine m_lci (va_runV (As := [.int a1, .int a2]) (rest := []) ⟨hx, hb, hml, hown, hts⟩ (cG_test l D adX c3 X a1 a2 hfX) (cwV 2 hts (gV k2_238 k2_239 k3_0 k1_1 kc_G_test) rfl rfl rfl (by decide +kernel) ⟨by decide, by decide⟩) (m_preL hK hNX hL (by decide) rfl rfl) rfl rfl hl.1 rfl (lv_room (Nat.le_of_ble_eq_true rfl)) dW_law_732 ⟨Nat.le_of_ble_eq_true rfl, Nat.le_of_ble_eq_true rfl⟩) hL (fun H locs hL => ?_)
        have hL := m2_sw hL
        refine lv_aload_n hx hb dW_law_735 rfl (lv_at hl 2 rfl) ?_
        refine lv_aload_n hx hb dW_law_736 rfl (lv_at hl 0 rfl) ?_
        refine lv_iload_n hx hb dW_law_737 rfl (lv_at hl 3 rfl) ?_
        refine lv_iconst (v := 1) hx hb dW_law_738 (by decide) ?_
        refine lv_iadd hx hb dW_law_739 ?_
        refine va_sld hx hb hX hbl hbA hL.2.2.2.2.2.2.2 v1 dW_law_740 ?_
        refine m_topi ea1 ?_
        refine lv_aload_n hx hb dW_law_741 rfl (lv_at hl 0 rfl) ?_
        refine lv_iload_n hx hb dW_law_742 rfl (lv_at hl 3 rfl) ?_
        refine lv_iconst (v := 2) hx hb dW_law_743 (by decide) ?_
        refine lv_iadd hx hb dW_law_744 ?_
        refine va_sld hx hb hX hbl hbA hL.2.2.2.2.2.2.2 v2 dW_law_745 ?_
        refine m_topi ea2 ?_
        refine m_lci (va_runV (As := [.int a1, .int a2]) (rest := [.int r]) ⟨hx, hb, hml, hown, hts⟩ (cM_test l D adM c3 Y a1 a2 hfM) (cwV 2 hts (gV k4_61 k4_62 k4_63 k1_8 kc_M_test) rfl rfl rfl (by decide +kernel) ⟨by decide, by decide⟩) (m_preL hK hNM hL (by decide) rfl rfl) rfl rfl hl.1 rfl (lv_room (Nat.le_of_ble_eq_true rfl)) dW_law_746 ⟨Nat.le_of_ble_eq_true rfl, Nat.le_of_ble_eq_true rfl⟩) hL (fun H locs hL => ?_)
        have hL := m2_sw hL
        refine lv_icmp_eq (tgt := 810) hx hb dW_law_749 (by decide) (fun _ => ?_) (fun q => absurd rfl q)
        exact tail X' Y' hR H locs hL
      by_cases k20 : sw = 20
      · refine lv_tableIn (tgt := 754) hx hb dW_law_32 (by rw [k20]; decide) (by rw [k20]; decide) (by rw [k20]; rfl) (by decide) ?_
        refine lv_aload_n hx hb dW_law_754 rfl (lv_at hl 1 rfl) ?_
        refine lv_aload_n hx hb dW_law_755 rfl (lv_at hl 0 rfl) ?_
        refine lv_iload_n hx hb dW_law_756 rfl (lv_at hl 3 rfl) ?_
        refine lv_iconst (v := 1) hx hb dW_law_757 (by decide) ?_
        refine lv_iadd hx hb dW_law_758 ?_
        refine va_sld hx hb hX hbl hbA hL.2.2.2.2.2.2.2 v1 dW_law_759 ?_
        refine m_topi ea1 ?_
        refine lv_aload_n hx hb dW_law_760 rfl (lv_at hl 0 rfl) ?_
        refine lv_iload_n hx hb dW_law_761 rfl (lv_at hl 3 rfl) ?_
        refine lv_iconst (v := 2) hx hb dW_law_762 (by decide) ?_
        refine lv_iadd hx hb dW_law_763 ?_
        refine va_sld hx hb hX hbl hbA hL.2.2.2.2.2.2.2 v2 dW_law_764 ?_
        refine m_topi ea2 ?_
        obtain ⟨r, hfX, hfM⟩ := e_fired hR a1 a2
        refine m_lci (va_runV (As := [.int a1, .int a2]) (rest := []) ⟨hx, hb, hml, hown, hts⟩ (cG_fired l D adX c3 X a1 a2 hfX) (cwV 2 hts (gV k3_25 k3_26 k3_27 k1_1 kc_G_fired) rfl rfl rfl (by decide +kernel) ⟨by decide, by decide⟩) (m_preL hK hNX hL (by decide) rfl rfl) rfl rfl hl.1 rfl (lv_room (Nat.le_of_ble_eq_true rfl)) dW_law_765 ⟨Nat.le_of_ble_eq_true rfl, Nat.le_of_ble_eq_true rfl⟩) hL (fun H locs hL => ?_)
        have hL := m2_sw hL
        refine lv_aload_n hx hb dW_law_768 rfl (lv_at hl 2 rfl) ?_
        refine lv_aload_n hx hb dW_law_769 rfl (lv_at hl 0 rfl) ?_
        refine lv_iload_n hx hb dW_law_770 rfl (lv_at hl 3 rfl) ?_
        refine lv_iconst (v := 1) hx hb dW_law_771 (by decide) ?_
        refine lv_iadd hx hb dW_law_772 ?_
        refine va_sld hx hb hX hbl hbA hL.2.2.2.2.2.2.2 v1 dW_law_773 ?_
        refine m_topi ea1 ?_
        refine lv_aload_n hx hb dW_law_774 rfl (lv_at hl 0 rfl) ?_
        refine lv_iload_n hx hb dW_law_775 rfl (lv_at hl 3 rfl) ?_
        refine lv_iconst (v := 2) hx hb dW_law_776 (by decide) ?_
        refine lv_iadd hx hb dW_law_777 ?_
        refine va_sld hx hb hX hbl hbA hL.2.2.2.2.2.2.2 v2 dW_law_778 ?_
        refine m_topi ea2 ?_
        refine m_lci (va_runV (As := [.int a1, .int a2]) (rest := [.int r]) ⟨hx, hb, hml, hown, hts⟩ (cM_fired l D adM c3 Y a1 a2 hfM) (cwV 2 hts (gV k4_69 k4_70 k4_71 k1_8 kc_M_fired) rfl rfl rfl (by decide +kernel) ⟨by decide, by decide⟩) (m_preL hK hNM hL (by decide) rfl rfl) rfl rfl hl.1 rfl (lv_room (Nat.le_of_ble_eq_true rfl)) dW_law_779 ⟨Nat.le_of_ble_eq_true rfl, Nat.le_of_ble_eq_true rfl⟩) hL (fun H locs hL => ?_)
        have hL := m2_sw hL
        refine lv_icmp_eq (tgt := 810) hx hb dW_law_782 (by decide) (fun _ => ?_) (fun q => absurd rfl q)
        exact tail X Y hR H locs hL
      by_cases k21 : sw = 21
      · refine lv_tableIn (tgt := 787) hx hb dW_law_32 (by rw [k21]; decide) (by rw [k21]; decide) (by rw [k21]; rfl) (by decide) ?_
        refine lv_aload_n hx hb dW_law_787 rfl (lv_at hl 1 rfl) ?_
        refine lv_aload_n hx hb dW_law_788 rfl (lv_at hl 0 rfl) ?_
        refine lv_iload_n hx hb dW_law_789 rfl (lv_at hl 3 rfl) ?_
        refine lv_iconst (v := 1) hx hb dW_law_790 (by decide) ?_
        refine lv_iadd hx hb dW_law_791 ?_
        refine va_sld hx hb hX hbl hbA hL.2.2.2.2.2.2.2 v1 dW_law_792 ?_
        refine m_topi ea1 ?_
        obtain ⟨r, X', Y', hfX, hfM, hR⟩ := e_count hR a1
        refine m_lci (va_runV (As := [.int a1]) (rest := []) ⟨hx, hb, hml, hown, hts⟩ (cG_count l D adX c3 X a1 hfX) (cwV 1 hts (gV k3_29 k3_30 k3_31 k1_1 kc_G_count) rfl rfl rfl (by decide +kernel) ⟨by decide, by decide⟩) (m_preL hK hNX hL (by decide) rfl rfl) rfl rfl hl.1 rfl (lv_room (Nat.le_of_ble_eq_true rfl)) dW_law_793 ⟨Nat.le_of_ble_eq_true rfl, Nat.le_of_ble_eq_true rfl⟩) hL (fun H locs hL => ?_)
        have hL := m2_sw hL
        refine lv_aload_n hx hb dW_law_796 rfl (lv_at hl 2 rfl) ?_
        refine lv_aload_n hx hb dW_law_797 rfl (lv_at hl 0 rfl) ?_
        refine lv_iload_n hx hb dW_law_798 rfl (lv_at hl 3 rfl) ?_
        refine lv_iconst (v := 1) hx hb dW_law_799 (by decide) ?_
        refine lv_iadd hx hb dW_law_800 ?_
        refine va_sld hx hb hX hbl hbA hL.2.2.2.2.2.2.2 v1 dW_law_801 ?_
        refine m_topi ea1 ?_
        refine m_lci (va_runV (As := [.int a1]) (rest := [.int r]) ⟨hx, hb, hml, hown, hts⟩ (cM_count l D adM c3 Y a1 hfM) (cwV 1 hts (gV k4_73 k4_74 k4_75 k1_8 kc_M_count) rfl rfl rfl (by decide +kernel) ⟨by decide, by decide⟩) (m_preL hK hNM hL (by decide) rfl rfl) rfl rfl hl.1 rfl (lv_room (Nat.le_of_ble_eq_true rfl)) dW_law_802 ⟨Nat.le_of_ble_eq_true rfl, Nat.le_of_ble_eq_true rfl⟩) hL (fun H locs hL => ?_)
        have hL := m2_sw hL
        refine lv_icmp_eq (tgt := 810) hx hb dW_law_805 (by decide) (fun _ => ?_) (fun q => absurd rfl q)
        exact tail X' Y' hR H locs hL
      refine lv_tableOut (tgt := 810) hx hb dW_law_32 (m_sw0_21 k0 k1 k2 k3 k4 k5 k6 k7 k8 k9 k10 k11 k12 k13 k14 k15 k16 k17 k18 k19 k20 k21) (by decide) ?_
      exact tail X Y hR H locs hL
