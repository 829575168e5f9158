def R_law : String := "LetterAlgebraLaw"
theorem lw_c0 {Δ : zv_D} {Γ : zv_C} {Q : State → Prop} {nm : String} {b L x y i sz ce sl : Nat} {hp : zv_M} {xs : Nat → Int32} (F : zv_F Δ Γ R_law nm code 4 ret room_1) (hX : va_X b L xs Γ.2.2.2.2.1 Δ.1) (hbl : b < Δ.1.size) (hL : L ≤ 2560) (hi : i + 5 ≤ L) (J : jt_at Δ hp sz x y) (hce : ce ≤ 100 + i) (hsl : sl ≤ 20000 + 3 * i) (K : lw_K Δ Γ Q b x y i) : zv_V Δ Γ Q 128 [some (.ref b), some (.ref x), some (.ref y), some (.int (nI i))] [] hp sz ce sl := by
  have J0 := J
  obtain ⟨c, e, n, acc, g, wd, pr, rs, ls, bs, ns, gg, gd, wd2, pr2, hLA, hMO, hR, hA, hxy, hys⟩ := J
  have f0 := hLA.1
  obtain ⟨⟨op, fi, se, st, m0⟩, -⟩ := id hMO
  refine zv_aload_n F d_Lw_law_128 rfl ?_
  refine zv_aload_n F d_Lw_law_129 rfl ?_
  refine zv_iload_n F d_Lw_law_130 rfl ?_
  refine zn_iconst (x := 1) F d_Lw_law_131 (by decide) ?_
  refine zn_iadd F d_Lw_law_132 ?_
  refine zn_sld F d_Lw_law_133 hX hbl (by omega) (by omega) ?_
  refine zv_mV1 F rfl (by assumption) k_LA.1 d_Lw_law_134 (LA_basic_ok hLA hR.1 (by omega) (zx_lt xs _)) Y_LA_basic Yi_LA_basic Yv_LA_basic ln_Lw_13 ⟨(Nat.le_of_ble_eq_true rfl), (Nat.le_of_ble_eq_true rfl)⟩ (Nat.le_of_ble_eq_true rfl) ⟨(by show _ ≤ 600000; omega), (by show _ ≤ 7302250; omega)⟩ (fun r hp134 sz134 q134 => ?_)
  obtain ⟨v, rfl, hs1, fr1, hv⟩ := q134
  have hMO1 := hMO.moved (hp1 := hp134) (fun q q1 q2 => fr1 q (by omega))
  obtain ⟨⟨op1, fi1, se1, st1, m1⟩, -⟩ := id hMO1
  try simp only [Option.toList, List.cons_append, List.nil_append]
  refine zv_aload_n F d_Lw_law_137 rfl ?_
  refine zv_aload_n F d_Lw_law_138 rfl ?_
  refine zv_iload_n F d_Lw_law_139 rfl ?_
  refine zn_iconst (x := 1) F d_Lw_law_140 (by decide) ?_
  refine zn_iadd F d_Lw_law_141 ?_
  refine zn_sld F d_Lw_law_142 hX hbl (by omega) (by omega) ?_
  refine zv_mV1 F rfl (by assumption) k_Mo.1 d_Lw_law_143 (Mo_basic_ok hMO1 hR.1 hR.2.1 (zx_lt xs _)) Y_Mo_basic Yi_Mo_basic Yv_Mo_basic ln_Lw_17 ⟨(Nat.le_of_ble_eq_true rfl), (Nat.le_of_ble_eq_true rfl)⟩ (Nat.le_of_ble_eq_true rfl) ⟨(by show _ ≤ 600000; omega), (by show _ ≤ 7302250; omega)⟩ (fun r hp143 sz143 q143 => ?_)
  obtain ⟨v2, rfl, rfl, fr2, hv2⟩ := q143
  have hj : v2 = v ∧ jt_at Δ hp143 sz143 x y := by
    rcases hv with ⟨a1, a2, a3⟩ | ⟨a1, a2⟩
    · rcases hv2 with ⟨b1, b2, b3⟩ | ⟨b1, b2⟩
      · exact ⟨by rw [a2, b2], c, e, n, acc, g, wd, pr, rs, ls, bs, ns, gg, gd, wd2, pr2, a3.moved (fun q q1 q2 => fr2 q (by omega)), b3, hR, hA, hxy, by omega⟩
      · exact absurd b1 a1
    · rcases hv2 with ⟨b1, b2, b3⟩ | ⟨b1, b2⟩
      · exact absurd a1 b1
      · exact jt_make hR hA (fun w => Iff.rfl) a2 b2 (fun q q1 q2 => fr2 q (by omega)) hxy (by omega)
  try simp only [Option.toList, List.cons_append, List.nil_append]
  refine zn_icmp_same (tgt := 709) F d_Lw_law_146 rfl (by rw [hj.1]) ?_
  exact K _ _ _ _ hj.2 (by omega) (by omega)
theorem lw_c1 {Δ : zv_D} {Γ : zv_C} {Q : State → Prop} {nm : String} {b L x y i sz ce sl : Nat} {hp : zv_M} {xs : Nat → Int32} (F : zv_F Δ Γ R_law nm code 4 ret room_1) (hX : va_X b L xs Γ.2.2.2.2.1 Δ.1) (hbl : b < Δ.1.size) (hL : L ≤ 2560) (hi : i + 5 ≤ L) (J : jt_at Δ hp sz x y) (hce : ce ≤ 100 + i) (hsl : sl ≤ 20000 + 3 * i) (K : lw_K Δ Γ Q b x y i) : zv_V Δ Γ Q 151 [some (.ref b), some (.ref x), some (.ref y), some (.int (nI i))] [] hp sz ce sl := by
  have J0 := J
  obtain ⟨c, e, n, acc, g, wd, pr, rs, ls, bs, ns, gg, gd, wd2, pr2, hLA, hMO, hR, hA, hxy, hys⟩ := J
  have f0 := hLA.1
  obtain ⟨⟨op, fi, se, st, m0⟩, -⟩ := id hMO
  refine zv_aload_n F d_Lw_law_151 rfl ?_
  refine zv_aload_n F d_Lw_law_152 rfl ?_
  refine zv_iload_n F d_Lw_law_153 rfl ?_
  refine zn_iconst (x := 1) F d_Lw_law_154 (by decide) ?_
  refine zn_iadd F d_Lw_law_155 ?_
  refine zn_sld F d_Lw_law_156 hX hbl (by omega) (by omega) ?_
  refine zv_aload_n F d_Lw_law_157 rfl ?_
  refine zv_iload_n F d_Lw_law_158 rfl ?_
  refine zn_iconst (x := 2) F d_Lw_law_159 (by decide) ?_
  refine zn_iadd F d_Lw_law_160 ?_
  refine zn_sld F d_Lw_law_161 hX hbl (by omega) (by omega) ?_
  refine zv_mV2 F rfl (by assumption) k_LA.1 d_Lw_law_162 (LA_unite_ok hLA hR.1 (by omega) (zx_lt xs _) (zx_lt xs _)) Y_LA_unite Yi_LA_unite Yv_LA_unite ln_Lw_18 ⟨(Nat.le_of_ble_eq_true rfl), (Nat.le_of_ble_eq_true rfl)⟩ (Nat.le_of_ble_eq_true rfl) ⟨(by show _ ≤ 600000; omega), (by show _ ≤ 7302250; omega)⟩ (fun r hp162 sz162 q162 => ?_)
  obtain ⟨v, rfl, hs1, fr1, hv⟩ := q162
  have hMO1 := hMO.moved (hp1 := hp162) (fun q q1 q2 => fr1 q (by omega))
  obtain ⟨⟨op1, fi1, se1, st1, m1⟩, -⟩ := id hMO1
  try simp only [Option.toList, List.cons_append, List.nil_append]
  refine zv_aload_n F d_Lw_law_165 rfl ?_
  refine zv_aload_n F d_Lw_law_166 rfl ?_
  refine zv_iload_n F d_Lw_law_167 rfl ?_
  refine zn_iconst (x := 1) F d_Lw_law_168 (by decide) ?_
  refine zn_iadd F d_Lw_law_169 ?_
  refine zn_sld F d_Lw_law_170 hX hbl (by omega) (by omega) ?_
  refine zv_aload_n F d_Lw_law_171 rfl ?_
  refine zv_iload_n F d_Lw_law_172 rfl ?_
  refine zn_iconst (x := 2) F d_Lw_law_173 (by decide) ?_
  refine zn_iadd F d_Lw_law_174 ?_
  refine zn_sld F d_Lw_law_175 hX hbl (by omega) (by omega) ?_
  refine zv_mV2 F rfl (by assumption) k_Mo.1 d_Lw_law_176 (Mo_unite_ok hMO1 hR.1 hR.2.1 (zx_lt xs _) (zx_lt xs _)) Y_Mo_unite Yi_Mo_unite Yv_Mo_unite ln_Lw_22 ⟨(Nat.le_of_ble_eq_true rfl), (Nat.le_of_ble_eq_true rfl)⟩ (Nat.le_of_ble_eq_true rfl) ⟨(by show _ ≤ 600000; omega), (by show _ ≤ 7302250; omega)⟩ (fun r hp176 sz176 q176 => ?_)
  obtain ⟨v2, rfl, rfl, fr2, hv2⟩ := q176
  have hj : v2 = v ∧ jt_at Δ hp176 sz176 x y := by
    rcases hv with ⟨a1, a2, a3⟩ | ⟨a1, a2⟩
    · rcases hv2 with ⟨b1, b2, b3⟩ | ⟨b1, b2⟩
      · exact ⟨by rw [a2, b2], c, e, n, acc, g, wd, pr, rs, ls, bs, ns, gg, gd, wd2, pr2, a3.moved (fun q q1 q2 => fr2 q (by omega)), b3, hR, hA, hxy, by omega⟩
      · exact absurd b1 a1
    · rcases hv2 with ⟨b1, b2, b3⟩ | ⟨b1, b2⟩
      · exact absurd a1 b1
      · exact jt_make hR hA (jt_pair false (hR.2.2 _ b1.1) (hR.2.2 _ b1.2)) a2 b2 (fun q q1 q2 => fr2 q (by omega)) hxy (by omega)
  try simp only [Option.toList, List.cons_append, List.nil_append]
  refine zn_icmp_same (tgt := 709) F d_Lw_law_179 rfl (by rw [hj.1]) ?_
  exact K _ _ _ _ hj.2 (by omega) (by omega)
theorem lw_c2 {Δ : zv_D} {Γ : zv_C} {Q : State → Prop} {nm : String} {b L x y i sz ce sl : Nat} {hp : zv_M} {xs : Nat → Int32} (F : zv_F Δ Γ R_law nm code 4 ret room_1) (hX : va_X b L xs Γ.2.2.2.2.1 Δ.1) (hbl : b < Δ.1.size) (hL : L ≤ 2560) (hi : i + 5 ≤ L) (J : jt_at Δ hp sz x y) (hce : ce ≤ 100 + i) (hsl : sl ≤ 20000 + 3 * i) (K : lw_K Δ Γ Q b x y i) : zv_V Δ Γ Q 184 [some (.ref b), some (.ref x), some (.ref y), some (.int (nI i))] [] hp sz ce sl := by
  have J0 := J
  obtain ⟨c, e, n, acc, g, wd, pr, rs, ls, bs, ns, gg, gd, wd2, pr2, hLA, hMO, hR, hA, hxy, hys⟩ := J
  have f0 := hLA.1
  obtain ⟨⟨op, fi, se, st, m0⟩, -⟩ := id hMO
  refine zv_aload_n F d_Lw_law_184 rfl ?_
  refine zv_aload_n F d_Lw_law_185 rfl ?_
  refine zv_iload_n F d_Lw_law_186 rfl ?_
  refine zn_iconst (x := 1) F d_Lw_law_187 (by decide) ?_
  refine zn_iadd F d_Lw_law_188 ?_
  refine zn_sld F d_Lw_law_189 hX hbl (by omega) (by omega) ?_
  refine zv_aload_n F d_Lw_law_190 rfl ?_
  refine zv_iload_n F d_Lw_law_191 rfl ?_
  refine zn_iconst (x := 2) F d_Lw_law_192 (by decide) ?_
  refine zn_iadd F d_Lw_law_193 ?_
  refine zn_sld F d_Lw_law_194 hX hbl (by omega) (by omega) ?_
  refine zv_mV2 F rfl (by assumption) k_LA.1 d_Lw_law_195 (LA_meet_ok hLA hR.1 (by omega) (zx_lt xs _) (zx_lt xs _)) Y_LA_meet Yi_LA_meet Yv_LA_meet ln_Lw_23 ⟨(Nat.le_of_ble_eq_true rfl), (Nat.le_of_ble_eq_true rfl)⟩ (Nat.le_of_ble_eq_true rfl) ⟨(by show _ ≤ 600000; omega), (by show _ ≤ 7302250; omega)⟩ (fun r hp195 sz195 q195 => ?_)
  obtain ⟨v, rfl, hs1, fr1, hv⟩ := q195
  have hMO1 := hMO.moved (hp1 := hp195) (fun q q1 q2 => fr1 q (by omega))
  obtain ⟨⟨op1, fi1, se1, st1, m1⟩, -⟩ := id hMO1
  try simp only [Option.toList, List.cons_append, List.nil_append]
  refine zv_aload_n F d_Lw_law_198 rfl ?_
  refine zv_aload_n F d_Lw_law_199 rfl ?_
  refine zv_iload_n F d_Lw_law_200 rfl ?_
  refine zn_iconst (x := 1) F d_Lw_law_201 (by decide) ?_
  refine zn_iadd F d_Lw_law_202 ?_
  refine zn_sld F d_Lw_law_203 hX hbl (by omega) (by omega) ?_
  refine zv_aload_n F d_Lw_law_204 rfl ?_
  refine zv_iload_n F d_Lw_law_205 rfl ?_
  refine zn_iconst (x := 2) F d_Lw_law_206 (by decide) ?_
  refine zn_iadd F d_Lw_law_207 ?_
  refine zn_sld F d_Lw_law_208 hX hbl (by omega) (by omega) ?_
  refine zv_mV2 F rfl (by assumption) k_Mo.1 d_Lw_law_209 (Mo_meet_ok hMO1 hR.1 hR.2.1 (zx_lt xs _) (zx_lt xs _)) Y_Mo_meet Yi_Mo_meet Yv_Mo_meet ln_Lw_26 ⟨(Nat.le_of_ble_eq_true rfl), (Nat.le_of_ble_eq_true rfl)⟩ (Nat.le_of_ble_eq_true rfl) ⟨(by show _ ≤ 600000; omega), (by show _ ≤ 7302250; omega)⟩ (fun r hp209 sz209 q209 => ?_)
  obtain ⟨v2, rfl, rfl, fr2, hv2⟩ := q209
  have hj : v2 = v ∧ jt_at Δ hp209 sz209 x y := by
    rcases hv with ⟨a1, a2, a3⟩ | ⟨a1, a2⟩
    · rcases hv2 with ⟨b1, b2, b3⟩ | ⟨b1, b2⟩
      · exact ⟨by rw [a2, b2], c, e, n, acc, g, wd, pr, rs, ls, bs, ns, gg, gd, wd2, pr2, a3.moved (fun q q1 q2 => fr2 q (by omega)), b3, hR, hA, hxy, by omega⟩
      · exact absurd b1 a1
    · rcases hv2 with ⟨b1, b2, b3⟩ | ⟨b1, b2⟩
      · exact absurd a1 b1
      · exact jt_make hR hA (jt_pair true (hR.2.2 _ b1.1) (hR.2.2 _ b1.2)) a2 b2 (fun q q1 q2 => fr2 q (by omega)) hxy (by omega)
  try simp only [Option.toList, List.cons_append, List.nil_append]
  refine zn_icmp_same (tgt := 709) F d_Lw_law_212 rfl (by rw [hj.1]) ?_
  exact K _ _ _ _ hj.2 (by omega) (by omega)
theorem lw_c3 {Δ : zv_D} {Γ : zv_C} {Q : State → Prop} {nm : String} {b L x y i sz ce sl : Nat} {hp : zv_M} {xs : Nat → Int32} (F : zv_F Δ Γ R_law nm code 4 ret room_1) (hX : va_X b L xs Γ.2.2.2.2.1 Δ.1) (hbl : b < Δ.1.size) (hL : L ≤ 2560) (hi : i + 5 ≤ L) (J : jt_at Δ hp sz x y) (hce : ce ≤ 100 + i) (hsl : sl ≤ 20000 + 3 * i) (K : lw_K Δ Γ Q b x y i) : zv_V Δ Γ Q 217 [some (.ref b), some (.ref x), some (.ref y), some (.int (nI i))] [] hp sz ce sl := by
  have J0 := J
  obtain ⟨c, e, n, acc, g, wd, pr, rs, ls, bs, ns, gg, gd, wd2, pr2, hLA, hMO, hR, hA, hxy, hys⟩ := J
  have f0 := hLA.1
  obtain ⟨⟨op, fi, se, st, m0⟩, -⟩ := id hMO
  refine zv_aload_n F d_Lw_law_217 rfl ?_
  refine zv_aload_n F d_Lw_law_218 rfl ?_
  refine zv_iload_n F d_Lw_law_219 rfl ?_
  refine zn_iconst (x := 1) F d_Lw_law_220 (by decide) ?_
  refine zn_iadd F d_Lw_law_221 ?_
  refine zn_sld F d_Lw_law_222 hX hbl (by omega) (by omega) ?_
  refine zv_aload_n F d_Lw_law_223 rfl ?_
  refine zv_iload_n F d_Lw_law_224 rfl ?_
  refine zn_iconst (x := 2) F d_Lw_law_225 (by decide) ?_
  refine zn_iadd F d_Lw_law_226 ?_
  refine zn_sld F d_Lw_law_227 hX hbl (by omega) (by omega) ?_
  refine zv_mV2 F rfl (by assumption) k_LA.1 d_Lw_law_228 (LA_chain_ok hLA hR.1 (by omega) (zx_lt xs _) (zx_lt xs _)) Y_LA_chain Yi_LA_chain Yv_LA_chain ln_Lw_27 ⟨(Nat.le_of_ble_eq_true rfl), (Nat.le_of_ble_eq_true rfl)⟩ (Nat.le_of_ble_eq_true rfl) ⟨(by show _ ≤ 600000; omega), (by show _ ≤ 7302250; omega)⟩ (fun r hp228 sz228 q228 => ?_)
  obtain ⟨v, rfl, hs1, fr1, hv⟩ := q228
  have hMO1 := hMO.moved (hp1 := hp228) (fun q q1 q2 => fr1 q (by omega))
  obtain ⟨⟨op1, fi1, se1, st1, m1⟩, -⟩ := id hMO1
  try simp only [Option.toList, List.cons_append, List.nil_append]
  refine zv_aload_n F d_Lw_law_231 rfl ?_
  refine zv_aload_n F d_Lw_law_232 rfl ?_
  refine zv_iload_n F d_Lw_law_233 rfl ?_
  refine zn_iconst (x := 1) F d_Lw_law_234 (by decide) ?_
  refine zn_iadd F d_Lw_law_235 ?_
  refine zn_sld F d_Lw_law_236 hX hbl (by omega) (by omega) ?_
  refine zv_aload_n F d_Lw_law_237 rfl ?_
  refine zv_iload_n F d_Lw_law_238 rfl ?_
  refine zn_iconst (x := 2) F d_Lw_law_239 (by decide) ?_
  refine zn_iadd F d_Lw_law_240 ?_
  refine zn_sld F d_Lw_law_241 hX hbl (by omega) (by omega) ?_
  refine zv_mV2 F rfl (by assumption) k_Mo.1 d_Lw_law_242 (Mo_chain_ok hMO1 hR.1 hR.2.1 (zx_lt xs _) (zx_lt xs _)) Y_Mo_chain Yi_Mo_chain Yv_Mo_chain ln_Lw_30 ⟨(Nat.le_of_ble_eq_true rfl), (Nat.le_of_ble_eq_true rfl)⟩ (Nat.le_of_ble_eq_true rfl) ⟨(by show _ ≤ 600000; omega), (by show _ ≤ 7302250; omega)⟩ (fun r hp242 sz242 q242 => ?_)
  obtain ⟨v2, rfl, rfl, fr2, hv2⟩ := q242
  have hj : v2 = v ∧ jt_at Δ hp242 sz242 x y := by
    rcases hv with ⟨a1, a2, a3⟩ | ⟨a1, a2⟩
    · rcases hv2 with ⟨b1, b2, b3⟩ | ⟨b1, b2⟩
      · exact ⟨by rw [a2, b2], c, e, n, acc, g, wd, pr, rs, ls, bs, ns, gg, gd, wd2, pr2, a3.moved (fun q q1 q2 => fr2 q (by omega)), b3, hR, hA, hxy, by omega⟩
      · exact absurd b1 a1
    · rcases hv2 with ⟨b1, b2, b3⟩ | ⟨b1, b2⟩
      · exact absurd a1 b1
      · exact jt_make hR hA (jt_chain (hR.2.2 _ b1.1) (hR.2.2 _ b1.2)) a2 b2 (fun q q1 q2 => fr2 q (by omega)) hxy (by omega)
  try simp only [Option.toList, List.cons_append, List.nil_append]
  refine zn_icmp_same (tgt := 709) F d_Lw_law_245 rfl (by rw [hj.1]) ?_
  exact K _ _ _ _ hj.2 (by omega) (by omega)
theorem lw_c4 {Δ : zv_D} {Γ : zv_C} {Q : State → Prop} {nm : String} {b L x y i sz ce sl : Nat} {hp : zv_M} {xs : Nat → Int32} (F : zv_F Δ Γ R_law nm code 4 ret room_1) (hX : va_X b L xs Γ.2.2.2.2.1 Δ.1) (hbl : b < Δ.1.size) (hL : L ≤ 2560) (hi : i + 5 ≤ L) (J : jt_at Δ hp sz x y) (hce : ce ≤ 100 + i) (hsl : sl ≤ 20000 + 3 * i) (K : lw_K Δ Γ Q b x y i) : zv_V Δ Γ Q 250 [some (.ref b), some (.ref x), some (.ref y), some (.int (nI i))] [] hp sz ce sl := by
  have J0 := J
  obtain ⟨c, e, n, acc, g, wd, pr, rs, ls, bs, ns, gg, gd, wd2, pr2, hLA, hMO, hR, hA, hxy, hys⟩ := J
  have f0 := hLA.1
  obtain ⟨⟨op, fi, se, st, m0⟩, -⟩ := id hMO
  refine zv_aload_n F d_Lw_law_250 rfl ?_
  refine zv_aload_n F d_Lw_law_251 rfl ?_
  refine zv_iload_n F d_Lw_law_252 rfl ?_
  refine zn_iconst (x := 1) F d_Lw_law_253 (by decide) ?_
  refine zn_iadd F d_Lw_law_254 ?_
  refine zn_sld F d_Lw_law_255 hX hbl (by omega) (by omega) ?_
  refine zv_mV1 F rfl (by assumption) k_LA.1 d_Lw_law_256 (LA_star_ok hLA hR.1 (by omega) (zx_lt xs _)) Y_LA_star Yi_LA_star Yv_LA_star ln_Lw_31 ⟨(Nat.le_of_ble_eq_true rfl), (Nat.le_of_ble_eq_true rfl)⟩ (Nat.le_of_ble_eq_true rfl) ⟨(by show _ ≤ 600000; omega), (by show _ ≤ 7302250; omega)⟩ (fun r hp256 sz256 q256 => ?_)
  obtain ⟨v, rfl, hs1, fr1, hv⟩ := q256
  have hMO1 := hMO.moved (hp1 := hp256) (fun q q1 q2 => fr1 q (by omega))
  obtain ⟨⟨op1, fi1, se1, st1, m1⟩, -⟩ := id hMO1
  try simp only [Option.toList, List.cons_append, List.nil_append]
  refine zv_aload_n F d_Lw_law_259 rfl ?_
  refine zv_aload_n F d_Lw_law_260 rfl ?_
  refine zv_iload_n F d_Lw_law_261 rfl ?_
  refine zn_iconst (x := 1) F d_Lw_law_262 (by decide) ?_
  refine zn_iadd F d_Lw_law_263 ?_
  refine zn_sld F d_Lw_law_264 hX hbl (by omega) (by omega) ?_
  refine zv_mV1 F rfl (by assumption) k_Mo.1 d_Lw_law_265 (Mo_star_ok hMO1 hR.1 hR.2.1 (zx_lt xs _)) Y_Mo_star Yi_Mo_star Yv_Mo_star ln_Lw_34 ⟨(Nat.le_of_ble_eq_true rfl), (Nat.le_of_ble_eq_true rfl)⟩ (Nat.le_of_ble_eq_true rfl) ⟨(by show _ ≤ 600000; omega), (by show _ ≤ 7302250; omega)⟩ (fun r hp265 sz265 q265 => ?_)
  obtain ⟨v2, rfl, rfl, fr2, hv2⟩ := q265
  have hj : v2 = v ∧ jt_at Δ hp265 sz265 x y := by
    rcases hv with ⟨a1, a2, a3⟩ | ⟨a1, a2⟩
    · rcases hv2 with ⟨b1, b2, b3⟩ | ⟨b1, b2⟩
      · exact ⟨by rw [a2, b2], c, e, n, acc, g, wd, pr, rs, ls, bs, ns, gg, gd, wd2, pr2, a3.moved (fun q q1 q2 => fr2 q (by omega)), b3, hR, hA, hxy, by omega⟩
      · exact absurd b1 a1
    · rcases hv2 with ⟨b1, b2, b3⟩ | ⟨b1, b2⟩
      · exact absurd a1 b1
      · exact jt_make hR hA (jt_star (hR.2.2 _ b1)) a2 b2 (fun q q1 q2 => fr2 q (by omega)) hxy (by omega)
  try simp only [Option.toList, List.cons_append, List.nil_append]
  refine zn_icmp_same (tgt := 709) F d_Lw_law_268 rfl (by rw [hj.1]) ?_
  exact K _ _ _ _ hj.2 (by omega) (by omega)
theorem lw_c5 {Δ : zv_D} {Γ : zv_C} {Q : State → Prop} {nm : String} {b L x y i sz ce sl : Nat} {hp : zv_M} {xs : Nat → Int32} (F : zv_F Δ Γ R_law nm code 4 ret room_1) (hX : va_X b L xs Γ.2.2.2.2.1 Δ.1) (hbl : b < Δ.1.size) (hL : L ≤ 2560) (hi : i + 5 ≤ L) (J : jt_at Δ hp sz x y) (hce : ce ≤ 100 + i) (hsl : sl ≤ 20000 + 3 * i) (K : lw_K Δ Γ Q b x y i) : zv_V Δ Γ Q 273 [some (.ref b), some (.ref x), some (.ref y), some (.int (nI i))] [] hp sz ce sl := by
  have J0 := J
  obtain ⟨c, e, n, acc, g, wd, pr, rs, ls, bs, ns, gg, gd, wd2, pr2, hLA, hMO, hR, hA, hxy, hys⟩ := J
  have f0 := hLA.1
  obtain ⟨⟨op, fi, se, st, m0⟩, -⟩ := id hMO
  refine zv_aload_n F d_Lw_law_273 rfl ?_
  refine zv_aload_n F d_Lw_law_274 rfl ?_
  refine zv_iload_n F d_Lw_law_275 rfl ?_
  refine zn_iconst (x := 1) F d_Lw_law_276 (by decide) ?_
  refine zn_iadd F d_Lw_law_277 ?_
  refine zn_sld F d_Lw_law_278 hX hbl (by omega) (by omega) ?_
  refine zv_mV1 F rfl (by assumption) k_LA.1 d_Lw_law_279 (LA_invert_ok hLA hR.1 (by omega) (zx_lt xs _)) Y_LA_invert Yi_LA_invert Yv_LA_invert ln_Lw_35 ⟨(Nat.le_of_ble_eq_true rfl), (Nat.le_of_ble_eq_true rfl)⟩ (Nat.le_of_ble_eq_true rfl) ⟨(by show _ ≤ 600000; omega), (by show _ ≤ 7302250; omega)⟩ (fun r hp279 sz279 q279 => ?_)
  obtain ⟨v, rfl, hs1, fr1, hv⟩ := q279
  have hMO1 := hMO.moved (hp1 := hp279) (fun q q1 q2 => fr1 q (by omega))
  obtain ⟨⟨op1, fi1, se1, st1, m1⟩, -⟩ := id hMO1
  try simp only [Option.toList, List.cons_append, List.nil_append]
  refine zv_aload_n F d_Lw_law_282 rfl ?_
  refine zv_aload_n F d_Lw_law_283 rfl ?_
  refine zv_iload_n F d_Lw_law_284 rfl ?_
  refine zn_iconst (x := 1) F d_Lw_law_285 (by decide) ?_
  refine zn_iadd F d_Lw_law_286 ?_
  refine zn_sld F d_Lw_law_287 hX hbl (by omega) (by omega) ?_
  refine zv_mV1 F rfl (by assumption) k_Mo.1 d_Lw_law_288 (Mo_invert_ok hMO1 hR.1 hR.2.1 (zx_lt xs _)) Y_Mo_invert Yi_Mo_invert Yv_Mo_invert ln_Lw_38 ⟨(Nat.le_of_ble_eq_true rfl), (Nat.le_of_ble_eq_true rfl)⟩ (Nat.le_of_ble_eq_true rfl) ⟨(by show _ ≤ 600000; omega), (by show _ ≤ 7302250; omega)⟩ (fun r hp288 sz288 q288 => ?_)
  obtain ⟨v2, rfl, rfl, fr2, hv2⟩ := q288
  have hj : v2 = v ∧ jt_at Δ hp288 sz288 x y := by
    rcases hv with ⟨a1, a2, a3⟩ | ⟨a1, a2⟩
    · rcases hv2 with ⟨b1, b2, b3⟩ | ⟨b1, b2⟩
      · exact ⟨by rw [a2, b2], c, e, n, acc, g, wd, pr, rs, ls, bs, ns, gg, gd, wd2, pr2, a3.moved (fun q q1 q2 => fr2 q (by omega)), b3, hR, hA, hxy, by omega⟩
      · exact absurd b1 a1
    · rcases hv2 with ⟨b1, b2, b3⟩ | ⟨b1, b2⟩
      · exact absurd a1 b1
      · exact jt_make hR hA (jt_inv (hR.2.2 _ b1)) a2 b2 (fun q q1 q2 => fr2 q (by omega)) hxy (by omega)
  try simp only [Option.toList, List.cons_append, List.nil_append]
  refine zn_icmp_same (tgt := 709) F d_Lw_law_291 rfl (by rw [hj.1]) ?_
  exact K _ _ _ _ hj.2 (by omega) (by omega)
theorem lw_c6 {Δ : zv_D} {Γ : zv_C} {Q : State → Prop} {nm : String} {b L x y i sz ce sl : Nat} {hp : zv_M} {xs : Nat → Int32} (F : zv_F Δ Γ R_law nm code 4 ret room_1) (hX : va_X b L xs Γ.2.2.2.2.1 Δ.1) (hbl : b < Δ.1.size) (hL : L ≤ 2560) (hi : i + 5 ≤ L) (J : jt_at Δ hp sz x y) (hce : ce ≤ 100 + i) (hsl : sl ≤ 20000 + 3 * i) (K : lw_K Δ Γ Q b x y i) : zv_V Δ Γ Q 296 [some (.ref b), some (.ref x), some (.ref y), some (.int (nI i))] [] hp sz ce sl := by
  have J0 := J
  obtain ⟨c, e, n, acc, g, wd, pr, rs, ls, bs, ns, gg, gd, wd2, pr2, hLA, hMO, hR, hA, hxy, hys⟩ := J
  have f0 := hLA.1
  obtain ⟨⟨op, fi, se, st, m0⟩, -⟩ := id hMO
  refine zv_aload_n F d_Lw_law_296 rfl ?_
  refine zv_mV0 F rfl (by assumption) k_LA.1 d_Lw_law_297 (LA_forget_ok hLA hR.1) Y_LA_forget Yi_LA_forget Yv_LA_forget ln_Lw_39 ⟨(Nat.le_of_ble_eq_true rfl), (Nat.le_of_ble_eq_true rfl)⟩ (Nat.le_of_ble_eq_true rfl) ⟨(by show _ ≤ 600000; omega), (by show _ ≤ 7302250; omega)⟩ (fun r hp297 sz297 q297 => ?_)
  obtain ⟨v, rfl, rfl, fr1, hv, hLA1⟩ := q297
  have hMO1 := hMO.moved (hp1 := hp297) (fun q q1 q2 => fr1 q (by omega))
  obtain ⟨⟨op1, fi1, se1, st1, m1⟩, -⟩ := id hMO1
  try simp only [Option.toList, List.cons_append, List.nil_append]
  refine zv_aload_n F d_Lw_law_300 rfl ?_
  refine zv_mV0 F rfl (by assumption) k_Mo.1 d_Lw_law_301 (Mo_forget_ok hMO1 hR.1) Y_Mo_forget Yi_Mo_forget Yv_Mo_forget ln_Lw_43 ⟨(Nat.le_of_ble_eq_true rfl), (Nat.le_of_ble_eq_true rfl)⟩ (Nat.le_of_ble_eq_true rfl) ⟨(by show _ ≤ 600000; omega), (by show _ ≤ 7302250; omega)⟩ (fun r hp301 sz301 q301 => ?_)
  obtain ⟨v2, rfl, rfl, fr2, hv2, hMO2⟩ := q301
  try simp only [Option.toList, List.cons_append, List.nil_append]
  refine zn_icmp_same (tgt := 709) F d_Lw_law_304 rfl (by rw [hv, hv2]) ?_
  exact K _ _ _ _ (⟨c - 1, e, n, acc, g, wd, pr, rs, ls, bs, ns, gg, gd, wd2, pr2, hLA1.moved (fun q q1 q2 => fr2 q (by omega)), hMO2, ⟨by have := hR.1; omega, hR.2.1, fun i hi => hR.2.2 i (by omega)⟩, hA, hxy, hys⟩ : jt_at Δ hp301 _ x y) (by omega) (by omega)
theorem lw_c7 {Δ : zv_D} {Γ : zv_C} {Q : State → Prop} {nm : String} {b L x y i sz ce sl : Nat} {hp : zv_M} {xs : Nat → Int32} (F : zv_F Δ Γ R_law nm code 4 ret room_1) (hX : va_X b L xs Γ.2.2.2.2.1 Δ.1) (hbl : b < Δ.1.size) (hL : L ≤ 2560) (hi : i + 5 ≤ L) (J : jt_at Δ hp sz x y) (hce : ce ≤ 100 + i) (hsl : sl ≤ 20000 + 3 * i) (K : lw_K Δ Γ Q b x y i) : zv_V Δ Γ Q 309 [some (.ref b), some (.ref x), some (.ref y), some (.int (nI i))] [] hp sz ce sl := by
  have J0 := J
  obtain ⟨c, e, n, acc, g, wd, pr, rs, ls, bs, ns, gg, gd, wd2, pr2, hLA, hMO, hR, hA, hxy, hys⟩ := J
  have f0 := hLA.1
  obtain ⟨⟨op, fi, se, st, m0⟩, -⟩ := id hMO
  refine zv_aload_n F d_Lw_law_309 rfl ?_
  refine zv_pV0 F rfl (by assumption) k_LA.1 d_Lw_law_310 (LA_count_ok f0) Y_LA_count Yi_LA_count Yv_LA_count ln_Lw_44 ⟨(Nat.le_of_ble_eq_true rfl), (Nat.le_of_ble_eq_true rfl)⟩ (Nat.le_of_ble_eq_true rfl) ⟨(by show _ ≤ 600000; omega), (by show _ ≤ 7302250; omega)⟩ ?_
  refine zv_aload_n F d_Lw_law_313 rfl ?_
  refine zv_pV0 F rfl (by assumption) k_Mo.1 d_Lw_law_314 (Mo_count_ok hMO) Y_Mo_count Yi_Mo_count Yv_Mo_count ln_Lw_48 ⟨(Nat.le_of_ble_eq_true rfl), (Nat.le_of_ble_eq_true rfl)⟩ (Nat.le_of_ble_eq_true rfl) ⟨(by show _ ≤ 600000; omega), (by show _ ≤ 7302250; omega)⟩ ?_
  refine zn_icmp_same (tgt := 709) F d_Lw_law_317 rfl (rfl) ?_
  exact K _ _ _ _ J0 (by omega) (by omega)
theorem lw_c8 {Δ : zv_D} {Γ : zv_C} {Q : State → Prop} {nm : String} {b L x y i sz ce sl : Nat} {hp : zv_M} {xs : Nat → Int32} (F : zv_F Δ Γ R_law nm code 4 ret room_1) (hX : va_X b L xs Γ.2.2.2.2.1 Δ.1) (hbl : b < Δ.1.size) (hL : L ≤ 2560) (hi : i + 5 ≤ L) (J : jt_at Δ hp sz x y) (hce : ce ≤ 100 + i) (hsl : sl ≤ 20000 + 3 * i) (K : lw_K Δ Γ Q b x y i) : zv_V Δ Γ Q 322 [some (.ref b), some (.ref x), some (.ref y), some (.int (nI i))] [] hp sz ce sl := by
  have J0 := J
  obtain ⟨c, e, n, acc, g, wd, pr, rs, ls, bs, ns, gg, gd, wd2, pr2, hLA, hMO, hR, hA, hxy, hys⟩ := J
  have f0 := hLA.1
  obtain ⟨⟨op, fi, se, st, m0⟩, -⟩ := id hMO
  refine zv_aload_n F d_Lw_law_322 rfl ?_
  refine zv_aload_n F d_Lw_law_323 rfl ?_
  refine zv_iload_n F d_Lw_law_324 rfl ?_
  refine zn_iconst (x := 1) F d_Lw_law_325 (by decide) ?_
  refine zn_iadd F d_Lw_law_326 ?_
  refine zn_sld F d_Lw_law_327 hX hbl (by omega) (by omega) ?_
  refine zv_pV1 F rfl (by assumption) k_LA.1 d_Lw_law_328 (LA_states_ok hLA hR.1 (zx_lt xs _)) Y_LA_states Yi_LA_states Yv_LA_states ln_Lw_49 ⟨(Nat.le_of_ble_eq_true rfl), (Nat.le_of_ble_eq_true rfl)⟩ (Nat.le_of_ble_eq_true rfl) ⟨(by show _ ≤ 600000; omega), (by show _ ≤ 7302250; omega)⟩ ?_
  refine zv_aload_n F d_Lw_law_331 rfl ?_
  refine zv_aload_n F d_Lw_law_332 rfl ?_
  refine zv_iload_n F d_Lw_law_333 rfl ?_
  refine zn_iconst (x := 1) F d_Lw_law_334 (by decide) ?_
  refine zn_iadd F d_Lw_law_335 ?_
  refine zn_sld F d_Lw_law_336 hX hbl (by omega) (by omega) ?_
  refine zv_pV1 F rfl (by assumption) k_Mo.1 d_Lw_law_337 (Mo_states_ok hMO hR.1 (zx_lt xs _)) Y_Mo_states Yi_Mo_states Yv_Mo_states ln_Lw_52 ⟨(Nat.le_of_ble_eq_true rfl), (Nat.le_of_ble_eq_true rfl)⟩ (Nat.le_of_ble_eq_true rfl) ⟨(by show _ ≤ 600000; omega), (by show _ ≤ 7302250; omega)⟩ ?_
  refine zn_icmp_same (tgt := 709) F d_Lw_law_340 rfl (congrArg nI (if h : zx xs (i + 1) < c then (by rw [if_pos h, if_pos h, (hR.2.2 _ h).1]) else (by rw [if_neg h, if_neg h]))) ?_
  exact K _ _ _ _ J0 (by omega) (by omega)
theorem lw_c9 {Δ : zv_D} {Γ : zv_C} {Q : State → Prop} {nm : String} {b L x y i sz ce sl : Nat} {hp : zv_M} {xs : Nat → Int32} (F : zv_F Δ Γ R_law nm code 4 ret room_1) (hX : va_X b L xs Γ.2.2.2.2.1 Δ.1) (hbl : b < Δ.1.size) (hL : L ≤ 2560) (hi : i + 5 ≤ L) (J : jt_at Δ hp sz x y) (hce : ce ≤ 100 + i) (hsl : sl ≤ 20000 + 3 * i) (K : lw_K Δ Γ Q b x y i) : zv_V Δ Γ Q 345 [some (.ref b), some (.ref x), some (.ref y), some (.int (nI i))] [] hp sz ce sl := by
  have J0 := J
  obtain ⟨c, e, n, acc, g, wd, pr, rs, ls, bs, ns, gg, gd, wd2, pr2, hLA, hMO, hR, hA, hxy, hys⟩ := J
  have f0 := hLA.1
  obtain ⟨⟨op, fi, se, st, m0⟩, -⟩ := id hMO
  refine zv_aload_n F d_Lw_law_345 rfl ?_
  refine zv_aload_n F d_Lw_law_346 rfl ?_
  refine zv_iload_n F d_Lw_law_347 rfl ?_
  refine zn_iconst (x := 1) F d_Lw_law_348 (by decide) ?_
  refine zn_iadd F d_Lw_law_349 ?_
  refine zn_sld F d_Lw_law_350 hX hbl (by omega) (by omega) ?_
  refine zv_aload_n F d_Lw_law_351 rfl ?_
  refine zv_iload_n F d_Lw_law_352 rfl ?_
  refine zn_iconst (x := 2) F d_Lw_law_353 (by decide) ?_
  refine zn_iadd F d_Lw_law_354 ?_
  refine zn_sld F d_Lw_law_355 hX hbl (by omega) (by omega) ?_
  refine zv_aload_n F d_Lw_law_356 rfl ?_
  refine zv_iload_n F d_Lw_law_357 rfl ?_
  refine zn_iconst (x := 3) F d_Lw_law_358 (by decide) ?_
  refine zn_iadd F d_Lw_law_359 ?_
  refine zn_sld F d_Lw_law_360 hX hbl (by omega) (by omega) ?_
  refine zv_pV3 F rfl (by assumption) k_LA.1 d_Lw_law_361 (LA_next_ok hLA hR.1 (zx_lt xs _) (zx_lt xs _) (zx_lt xs _)) Y_LA_next Yi_LA_next Yv_LA_next ln_Lw_53 ⟨(Nat.le_of_ble_eq_true rfl), (Nat.le_of_ble_eq_true rfl)⟩ (Nat.le_of_ble_eq_true rfl) ⟨(by show _ ≤ 600000; omega), (by show _ ≤ 7302250; omega)⟩ ?_
  refine zv_aload_n F d_Lw_law_364 rfl ?_
  refine zv_aload_n F d_Lw_law_365 rfl ?_
  refine zv_iload_n F d_Lw_law_366 rfl ?_
  refine zn_iconst (x := 1) F d_Lw_law_367 (by decide) ?_
  refine zn_iadd F d_Lw_law_368 ?_
  refine zn_sld F d_Lw_law_369 hX hbl (by omega) (by omega) ?_
  refine zv_aload_n F d_Lw_law_370 rfl ?_
  refine zv_iload_n F d_Lw_law_371 rfl ?_
  refine zn_iconst (x := 2) F d_Lw_law_372 (by decide) ?_
  refine zn_iadd F d_Lw_law_373 ?_
  refine zn_sld F d_Lw_law_374 hX hbl (by omega) (by omega) ?_
  refine zv_aload_n F d_Lw_law_375 rfl ?_
  refine zv_iload_n F d_Lw_law_376 rfl ?_
  refine zn_iconst (x := 3) F d_Lw_law_377 (by decide) ?_
  refine zn_iadd F d_Lw_law_378 ?_
  refine zn_sld F d_Lw_law_379 hX hbl (by omega) (by omega) ?_
  refine zv_pV3 F rfl (by assumption) k_Mo.1 d_Lw_law_380 (Mo_next_ok hMO hR.1 (zx_lt xs _) (zx_lt xs _) (zx_lt xs _) (fun h => by rw [(hR.2.2 _ h).1]; exact (hR.2.2 _ h).2.2.2.1)) Y_Mo_next Yi_Mo_next Yv_Mo_next ln_Lw_57 ⟨(Nat.le_of_ble_eq_true rfl), (Nat.le_of_ble_eq_true rfl)⟩ (Nat.le_of_ble_eq_true rfl) ⟨(by show _ ≤ 600000; omega), (by show _ ≤ 7302250; omega)⟩ ?_
  have hq : (if zx xs (i + 1) < c ∧ zx xs (i + 2) < n (zx xs (i + 1)) ∧ zx xs (i + 3) < 2 then g (zx xs (i + 1)) (2 * zx xs (i + 2) + zx xs (i + 3)) else 4294967295) = (if zx xs (i + 1) < c ∧ zx xs (i + 2) < ns (zx xs (i + 1)) ∧ zx xs (i + 3) < 2 then mo_G gg (zx xs (i + 1)) (2 * zx xs (i + 2) + zx xs (i + 3)) else 4294967295) := by
    by_cases h : zx xs (i + 1) < c
    · obtain ⟨e1, e2, e3, -⟩ := hR.2.2 _ h
      rw [e1]
      by_cases h2 : zx xs (i + 1) < c ∧ zx xs (i + 2) < n (zx xs (i + 1)) ∧ zx xs (i + 3) < 2
      · rw [if_pos h2, if_pos h2, e3 _ (by omega)]
      · rw [if_neg h2, if_neg h2]
    · rw [if_neg (fun z => h z.1), if_neg (fun z => h z.1)]
  refine zn_icmp_same (tgt := 709) F d_Lw_law_383 rfl (congrArg nI hq) ?_
  exact K _ _ _ _ J0 (by omega) (by omega)
theorem lw_c10 {Δ : zv_D} {Γ : zv_C} {Q : State → Prop} {nm : String} {b L x y i sz ce sl : Nat} {hp : zv_M} {xs : Nat → Int32} (F : zv_F Δ Γ R_law nm code 4 ret room_1) (hX : va_X b L xs Γ.2.2.2.2.1 Δ.1) (hbl : b < Δ.1.size) (hL : L ≤ 2560) (hi : i + 5 ≤ L) (J : jt_at Δ hp sz x y) (hce : ce ≤ 100 + i) (hsl : sl ≤ 20000 + 3 * i) (K : lw_K Δ Γ Q b x y i) : zv_V Δ Γ Q 388 [some (.ref b), some (.ref x), some (.ref y), some (.int (nI i))] [] hp sz ce sl := by
  have J0 := J
  obtain ⟨c, e, n, acc, g, wd, pr, rs, ls, bs, ns, gg, gd, wd2, pr2, hLA, hMO, hR, hA, hxy, hys⟩ := J
  have f0 := hLA.1
  obtain ⟨⟨op, fi, se, st, m0⟩, -⟩ := id hMO
  refine zv_aload_n F d_Lw_law_388 rfl ?_
  refine zv_aload_n F d_Lw_law_389 rfl ?_
  refine zv_iload_n F d_Lw_law_390 rfl ?_
  refine zn_iconst (x := 1) F d_Lw_law_391 (by decide) ?_
  refine zn_iadd F d_Lw_law_392 ?_
  refine zn_sld F d_Lw_law_393 hX hbl (by omega) (by omega) ?_
  refine zv_aload_n F d_Lw_law_394 rfl ?_
  refine zv_iload_n F d_Lw_law_395 rfl ?_
  refine zn_iconst (x := 2) F d_Lw_law_396 (by decide) ?_
  refine zn_iadd F d_Lw_law_397 ?_
  refine zn_sld F d_Lw_law_398 hX hbl (by omega) (by omega) ?_
  refine zv_pV2 F rfl (by assumption) k_LA.1 d_Lw_law_399 (LA_accepts_ok hLA hR.1 (zx_lt xs _) (zx_lt xs _)) Y_LA_accepts Yi_LA_accepts Yv_LA_accepts ln_Lw_58 ⟨(Nat.le_of_ble_eq_true rfl), (Nat.le_of_ble_eq_true rfl)⟩ (Nat.le_of_ble_eq_true rfl) ⟨(by show _ ≤ 600000; omega), (by show _ ≤ 7302250; omega)⟩ ?_
  refine zv_aload_n F d_Lw_law_402 rfl ?_
  refine zv_aload_n F d_Lw_law_403 rfl ?_
  refine zv_iload_n F d_Lw_law_404 rfl ?_
  refine zn_iconst (x := 1) F d_Lw_law_405 (by decide) ?_
  refine zn_iadd F d_Lw_law_406 ?_
  refine zn_sld F d_Lw_law_407 hX hbl (by omega) (by omega) ?_
  refine zv_aload_n F d_Lw_law_408 rfl ?_
  refine zv_iload_n F d_Lw_law_409 rfl ?_
  refine zn_iconst (x := 2) F d_Lw_law_410 (by decide) ?_
  refine zn_iadd F d_Lw_law_411 ?_
  refine zn_sld F d_Lw_law_412 hX hbl (by omega) (by omega) ?_
  refine zv_pV2 F rfl (by assumption) k_Mo.1 d_Lw_law_413 (Mo_accepts_ok hMO hR.1 hR.2.1 (zx_lt xs _) (zx_lt xs _) (fun h => by rw [(hR.2.2 _ h).1]; exact (hR.2.2 _ h).2.2.2.1)) Y_Mo_accepts Yi_Mo_accepts Yv_Mo_accepts ln_Lw_62 ⟨(Nat.le_of_ble_eq_true rfl), (Nat.le_of_ble_eq_true rfl)⟩ (Nat.le_of_ble_eq_true rfl) ⟨(by show _ ≤ 600000; omega), (by show _ ≤ 7302250; omega)⟩ ?_
  refine zn_icmp_same (tgt := 709) F d_Lw_law_416 rfl (congrArg (fun t : Bool => nI t.toNat) (if h : zx xs (i + 1) < c then (by rw [(hR.2.2 _ h).1, (hR.2.2 _ h).2.1]) else (decide_eq_decide.mpr ⟨fun z => absurd z.1 h, fun z => absurd z.1 h⟩))) ?_
  exact K _ _ _ _ J0 (by omega) (by omega)
theorem lw_c11 {Δ : zv_D} {Γ : zv_C} {Q : State → Prop} {nm : String} {b L x y i sz ce sl : Nat} {hp : zv_M} {xs : Nat → Int32} (F : zv_F Δ Γ R_law nm code 4 ret room_1) (hX : va_X b L xs Γ.2.2.2.2.1 Δ.1) (hbl : b < Δ.1.size) (hL : L ≤ 2560) (hi : i + 5 ≤ L) (J : jt_at Δ hp sz x y) (hce : ce ≤ 100 + i) (hsl : sl ≤ 20000 + 3 * i) (K : lw_K Δ Γ Q b x y i) : zv_V Δ Γ Q 421 [some (.ref b), some (.ref x), some (.ref y), some (.int (nI i))] [] hp sz ce sl := by
  have J0 := J
  obtain ⟨c, e, n, acc, g, wd, pr, rs, ls, bs, ns, gg, gd, wd2, pr2, hLA, hMO, hR, hA, hxy, hys⟩ := J
  have f0 := hLA.1
  obtain ⟨⟨op, fi, se, st, m0⟩, -⟩ := id hMO
  refine zv_aload_n F d_Lw_law_421 rfl ?_
  refine zv_aload_n F d_Lw_law_422 rfl ?_
  refine zv_iload_n F d_Lw_law_423 rfl ?_
  refine zn_iconst (x := 1) F d_Lw_law_424 (by decide) ?_
  refine zn_iadd F d_Lw_law_425 ?_
  refine zn_sld F d_Lw_law_426 hX hbl (by omega) (by omega) ?_
  refine zv_aload_n F d_Lw_law_427 rfl ?_
  refine zv_iload_n F d_Lw_law_428 rfl ?_
  refine zn_iconst (x := 2) F d_Lw_law_429 (by decide) ?_
  refine zn_iadd F d_Lw_law_430 ?_
  refine zn_sld F d_Lw_law_431 hX hbl (by omega) (by omega) ?_
  refine zv_i2l F d_Lw_law_432 ?_
  refine zn_bipush (x := 32) F d_Lw_law_433 (by decide) ?_
  refine zv_lshl F d_Lw_law_435 ?_
  refine zv_aload_n F d_Lw_law_436 rfl ?_
  refine zv_iload_n F d_Lw_law_437 rfl ?_
  refine zn_iconst (x := 3) F d_Lw_law_438 (by decide) ?_
  refine zn_iadd F d_Lw_law_439 ?_
  refine zn_sld F d_Lw_law_440 hX hbl (by omega) (by omega) ?_
  refine zv_i2l F d_Lw_law_441 ?_
  refine zn_ldc2 (x := 4294967295) F d_Lw_law_442 ln_Lw_63 (by decide) ?_
  refine zv_land F d_Lw_law_445 ?_
  refine zv_lor F d_Lw_law_446 ?_
  refine zv_topL (fun w hw ew => ?_)
  refine zv_aload_n F d_Lw_law_447 rfl ?_
  refine zv_iload_n F d_Lw_law_448 rfl ?_
  refine zn_iconst (x := 4) F d_Lw_law_449 (by decide) ?_
  refine zn_iadd F d_Lw_law_450 ?_
  refine zn_sld F d_Lw_law_451 hX hbl (by omega) (by omega) ?_
  refine zv_pV3 F rfl (by assumption) k_LA.1 d_Lw_law_452 (LA_contains_ok hLA hR.1 (zx_lt xs _) hw (zx_lt xs _)) Y_LA_contains Yi_LA_contains Yv_LA_contains ln_Lw_65 ⟨(Nat.le_of_ble_eq_true rfl), (Nat.le_of_ble_eq_true rfl)⟩ (Nat.le_of_ble_eq_true rfl) ⟨(by show _ ≤ 600000; omega), (by show _ ≤ 7302250; omega)⟩ ?_
  refine zv_aload_n F d_Lw_law_455 rfl ?_
  refine zv_aload_n F d_Lw_law_456 rfl ?_
  refine zv_iload_n F d_Lw_law_457 rfl ?_
  refine zn_iconst (x := 1) F d_Lw_law_458 (by decide) ?_
  refine zn_iadd F d_Lw_law_459 ?_
  refine zn_sld F d_Lw_law_460 hX hbl (by omega) (by omega) ?_
  refine zv_aload_n F d_Lw_law_461 rfl ?_
  refine zv_iload_n F d_Lw_law_462 rfl ?_
  refine zn_iconst (x := 2) F d_Lw_law_463 (by decide) ?_
  refine zn_iadd F d_Lw_law_464 ?_
  refine zn_sld F d_Lw_law_465 hX hbl (by omega) (by omega) ?_
  refine zv_i2l F d_Lw_law_466 ?_
  refine zn_bipush (x := 32) F d_Lw_law_467 (by decide) ?_
  refine zv_lshl F d_Lw_law_469 ?_
  refine zv_aload_n F d_Lw_law_470 rfl ?_
  refine zv_iload_n F d_Lw_law_471 rfl ?_
  refine zn_iconst (x := 3) F d_Lw_law_472 (by decide) ?_
  refine zn_iadd F d_Lw_law_473 ?_
  refine zn_sld F d_Lw_law_474 hX hbl (by omega) (by omega) ?_
  refine zv_i2l F d_Lw_law_475 ?_
  refine zn_ldc2 (x := 4294967295) F d_Lw_law_476 ln_Lw_63 (by decide) ?_
  refine zv_land F d_Lw_law_479 ?_
  refine zv_lor F d_Lw_law_480 ?_
  refine zv_topL (fun w2 hw2 ew2 => ?_)
  have eww : w2 = w := (zn_linj hw2 hw).mp (ew2.symm.trans ew)
  subst eww
  refine zv_aload_n F d_Lw_law_481 rfl ?_
  refine zv_iload_n F d_Lw_law_482 rfl ?_
  refine zn_iconst (x := 4) F d_Lw_law_483 (by decide) ?_
  refine zn_iadd F d_Lw_law_484 ?_
  refine zn_sld F d_Lw_law_485 hX hbl (by omega) (by omega) ?_
  refine zv_pV3 F rfl (by assumption) k_Mo.1 d_Lw_law_486 (Mo_contains_ok hMO hR.1 hR.2.1 (zx_lt xs _) hw (zx_lt xs _)) Y_Mo_contains Yi_Mo_contains Yv_Mo_contains ln_Lw_69 ⟨(Nat.le_of_ble_eq_true rfl), (Nat.le_of_ble_eq_true rfl)⟩ (Nat.le_of_ble_eq_true rfl) ⟨(by show _ ≤ 600000; omega), (by show _ ≤ 7302250; omega)⟩ ?_
  refine zn_icmp_same (tgt := 709) F d_Lw_law_489 rfl (congrArg (fun t : Bool => nI t.toNat) (if h : zx xs (i + 1) < c then (by obtain ⟨p0, l0⟩ := (hR.2.2 _ h).lt; obtain ⟨e1, e2, e3, -⟩ := hR.2.2 _ h; rw [e2, (la_go_congr e3 l0 p0 _ _).2]) else (decide_eq_decide.mpr ⟨fun z => absurd z.1 h, fun z => absurd z.1 h⟩))) ?_
  exact K _ _ _ _ J0 (by omega) (by omega)
theorem lw_c12 {Δ : zv_D} {Γ : zv_C} {Q : State → Prop} {nm : String} {b L x y i sz ce sl : Nat} {hp : zv_M} {xs : Nat → Int32} (F : zv_F Δ Γ R_law nm code 4 ret room_1) (hX : va_X b L xs Γ.2.2.2.2.1 Δ.1) (hbl : b < Δ.1.size) (hL : L ≤ 2560) (hi : i + 5 ≤ L) (J : jt_at Δ hp sz x y) (hce : ce ≤ 100 + i) (hsl : sl ≤ 20000 + 3 * i) (K : lw_K Δ Γ Q b x y i) : zv_V Δ Γ Q 494 [some (.ref b), some (.ref x), some (.ref y), some (.int (nI i))] [] hp sz ce sl := by
  have J0 := J
  obtain ⟨c, e, n, acc, g, wd, pr, rs, ls, bs, ns, gg, gd, wd2, pr2, hLA, hMO, hR, hA, hxy, hys⟩ := J
  have f0 := hLA.1
  obtain ⟨⟨op, fi, se, st, m0⟩, -⟩ := id hMO
  obtain ⟨r0, hr0⟩ : ∃ r0 : Bool, r0 = true ↔ (zx xs (i + 1) < c ∧ zx xs (i + 2) < c ∧ n (zx xs (i + 1)) = n (zx xs (i + 2)) ∧ acc (zx xs (i + 1)) = acc (zx xs (i + 2)) ∧ ∀ s, s < 2 * n (zx xs (i + 1)) → g (zx xs (i + 1)) s = g (zx xs (i + 2)) s) := by
    by_cases h : zx xs (i + 1) < c ∧ zx xs (i + 2) < c ∧ n (zx xs (i + 1)) = n (zx xs (i + 2)) ∧ acc (zx xs (i + 1)) = acc (zx xs (i + 2)) ∧ ∀ s, s < 2 * n (zx xs (i + 1)) → g (zx xs (i + 1)) s = g (zx xs (i + 2)) s
    · exact ⟨true, fun _ => h, fun _ => rfl⟩
    · exact ⟨false, (fun z => by cases z), fun z => absurd z h⟩
  refine zv_aload_n F d_Lw_law_494 rfl ?_
  refine zv_aload_n F d_Lw_law_495 rfl ?_
  refine zv_iload_n F d_Lw_law_496 rfl ?_
  refine zn_iconst (x := 1) F d_Lw_law_497 (by decide) ?_
  refine zn_iadd F d_Lw_law_498 ?_
  refine zn_sld F d_Lw_law_499 hX hbl (by omega) (by omega) ?_
  refine zv_aload_n F d_Lw_law_500 rfl ?_
  refine zv_iload_n F d_Lw_law_501 rfl ?_
  refine zn_iconst (x := 2) F d_Lw_law_502 (by decide) ?_
  refine zn_iadd F d_Lw_law_503 ?_
  refine zn_sld F d_Lw_law_504 hX hbl (by omega) (by omega) ?_
  refine zv_pV2 F rfl (by assumption) k_LA.1 d_Lw_law_505 (LA_same_ok hLA hR.1 (zx_lt xs _) (zx_lt xs _) r0 hr0) Y_LA_same Yi_LA_same Yv_LA_same ln_Lw_70 ⟨(Nat.le_of_ble_eq_true rfl), (Nat.le_of_ble_eq_true rfl)⟩ (Nat.le_of_ble_eq_true rfl) ⟨(by show _ ≤ 600000; omega), (by show _ ≤ 7302250; omega)⟩ ?_
  refine zv_aload_n F d_Lw_law_508 rfl ?_
  refine zv_aload_n F d_Lw_law_509 rfl ?_
  refine zv_iload_n F d_Lw_law_510 rfl ?_
  refine zn_iconst (x := 1) F d_Lw_law_511 (by decide) ?_
  refine zn_iadd F d_Lw_law_512 ?_
  refine zn_sld F d_Lw_law_513 hX hbl (by omega) (by omega) ?_
  refine zv_aload_n F d_Lw_law_514 rfl ?_
  refine zv_iload_n F d_Lw_law_515 rfl ?_
  refine zn_iconst (x := 2) F d_Lw_law_516 (by decide) ?_
  refine zn_iadd F d_Lw_law_517 ?_
  refine zn_sld F d_Lw_law_518 hX hbl (by omega) (by omega) ?_
  refine zv_pV2 F rfl (by assumption) k_Mo.1 d_Lw_law_519 (Mo_same_ok hMO hR.1 hR.2.1 (zx_lt xs _) (zx_lt xs _) (fun i hi => by obtain ⟨p0, l0⟩ := (hR.2.2 _ hi).lt; obtain ⟨e1, e2, e3, e4, -⟩ := hR.2.2 _ hi; rw [e1]; exact ⟨e4, p0, fun k hk => by rw [e3 k hk]; exact l0 k hk⟩) r0 (hr0.trans ⟨fun z => ⟨z.1, z.2.1, (jt_same (hR.2.2 _ z.1) (hR.2.2 _ z.2.1)).mp z.2.2⟩, fun z => ⟨z.1, z.2.1, (jt_same (hR.2.2 _ z.1) (hR.2.2 _ z.2.1)).mpr z.2.2⟩⟩)) Y_Mo_same Yi_Mo_same Yv_Mo_same ln_Lw_73 ⟨(Nat.le_of_ble_eq_true rfl), (Nat.le_of_ble_eq_true rfl)⟩ (Nat.le_of_ble_eq_true rfl) ⟨(by show _ ≤ 600000; omega), (by show _ ≤ 7302250; omega)⟩ ?_
  refine zn_icmp_same (tgt := 709) F d_Lw_law_522 rfl (rfl) ?_
  exact K _ _ _ _ J0 (by omega) (by omega)
theorem lw_c13 {Δ : zv_D} {Γ : zv_C} {Q : State → Prop} {nm : String} {b L x y i sz ce sl : Nat} {hp : zv_M} {xs : Nat → Int32} (F : zv_F Δ Γ R_law nm code 4 ret room_1) (hX : va_X b L xs Γ.2.2.2.2.1 Δ.1) (hbl : b < Δ.1.size) (hL : L ≤ 2560) (hi : i + 5 ≤ L) (J : jt_at Δ hp sz x y) (hce : ce ≤ 100 + i) (hsl : sl ≤ 20000 + 3 * i) (K : lw_K Δ Γ Q b x y i) : zv_V Δ Γ Q 527 [some (.ref b), some (.ref x), some (.ref y), some (.int (nI i))] [] hp sz ce sl := by
  have J0 := J
  obtain ⟨c, e, n, acc, g, wd, pr, rs, ls, bs, ns, gg, gd, wd2, pr2, hLA, hMO, hR, hA, hxy, hys⟩ := J
  have f0 := hLA.1
  obtain ⟨⟨op, fi, se, st, m0⟩, -⟩ := id hMO
  refine zv_aload_n F d_Lw_law_527 rfl ?_
  refine zv_aload_n F d_Lw_law_528 rfl ?_
  refine zv_iload_n F d_Lw_law_529 rfl ?_
  refine zn_iconst (x := 1) F d_Lw_law_530 (by decide) ?_
  refine zn_iadd F d_Lw_law_531 ?_
  refine zn_sld F d_Lw_law_532 hX hbl (by omega) (by omega) ?_
  refine zv_mV1 F rfl (by assumption) k_LA.1 d_Lw_law_533 (LA_study_ok hLA hR.1 (zx_lt xs _) (fun h => (hR.2.2 _ h).lt.2)) Y_LA_study Yi_LA_study Yv_LA_study ln_Lw_74 ⟨(Nat.le_of_ble_eq_true rfl), (Nat.le_of_ble_eq_true rfl)⟩ (Nat.le_of_ble_eq_true rfl) ⟨(by show _ ≤ 600000; omega), (by show _ ≤ 7302250; omega)⟩ (fun r hp533 sz533 q533 => ?_)
  obtain ⟨v, rfl, rfl, fr1, hv⟩ := q533
  have hMO1 := hMO.moved (hp1 := hp533) (fun q q1 q2 => fr1 q (by omega))
  obtain ⟨⟨op1, fi1, se1, st1, m1⟩, -⟩ := id hMO1
  try simp only [Option.toList, List.cons_append, List.nil_append]
  refine zv_aload_n F d_Lw_law_536 rfl ?_
  refine zv_aload_n F d_Lw_law_537 rfl ?_
  refine zv_iload_n F d_Lw_law_538 rfl ?_
  refine zn_iconst (x := 1) F d_Lw_law_539 (by decide) ?_
  refine zn_iadd F d_Lw_law_540 ?_
  refine zn_sld F d_Lw_law_541 hX hbl (by omega) (by omega) ?_
  refine zv_mV1 F rfl (by assumption) k_Mo.1 d_Lw_law_542 (Mo_study_ok hMO1 hR.1 (zx_lt xs _) (fun h => by rw [(hR.2.2 _ h).1]; exact (hR.2.2 _ h).2.2.2.1) (fun h => by obtain ⟨p0, l0⟩ := (hR.2.2 _ h).lt; obtain ⟨e1, e2, e3, e4, -⟩ := hR.2.2 _ h; rw [e1]; exact fun k hk => by rw [e3 k hk]; exact l0 k hk)) Y_Mo_study Yi_Mo_study Yv_Mo_study ln_Lw_77 ⟨(Nat.le_of_ble_eq_true rfl), (Nat.le_of_ble_eq_true rfl)⟩ (Nat.le_of_ble_eq_true rfl) ⟨(by show _ ≤ 600000; omega), (by show _ ≤ 7302250; omega)⟩ (fun r hp542 sz542 q542 => ?_)
  obtain ⟨v2, rfl, rfl, fr2, hv2⟩ := q542
  have mv : ∀ q, x ≤ q → q < x + 43 → hp542 q = hp533 q := fun q q1 q2 => fr2 q (by omega)
  have hj : v2 = v ∧ jt_at Δ hp542 sz542 x y := by
    rcases hv with ⟨a1, a2, a3⟩ | ⟨a1, a2, a3, a4⟩ | ⟨a1, wd1, pr1, rs1, ls1, bs1, a2, a3, a4⟩
    · rcases hv2 with ⟨b1, b2, b3⟩ | ⟨b1, b2, b3, b4⟩ | ⟨b1, wd3, pr3, b2, b3⟩
      · exact ⟨by rw [a2, b2], c, e, n, acc, g, wd, pr, rs, ls, bs, ns, gg, gd, wd2, pr2, a3.moved mv, b3, hR, hA, hxy, hys⟩
      · exact absurd b1 a1
      · exact absurd b1 a1
    · rcases hv2 with ⟨b1, b2, b3⟩ | ⟨b1, b2, b3, b4⟩ | ⟨b1, wd3, pr3, b2, b3⟩
      · exact absurd a1 b1
      · exact ⟨by rw [a3, b3], c, e, n, acc, g, wd, pr, rs, ls, bs, ns, gg, gd, wd2, pr2, a4.moved mv, b4, hR, hA, hxy, hys⟩
      · exact (jt_study_no2 (hR.2.2 _ b1) b3 a2).elim
    · rcases hv2 with ⟨b1, b2, b3⟩ | ⟨b1, b2, b3, b4⟩ | ⟨b1, wd3, pr3, b2, b3⟩
      · exact absurd a1 b1
      · exact (jt_study_no (hR.2.2 _ b1) a3 b2).elim
      · obtain ⟨q1, q2⟩ := jt_study (hR.2.2 _ b1) a3 a4 b3
        subst q1
        exact ⟨rfl, c, v2, n, acc, g, wd1, pr1, rs1, ls1, bs1, ns, gg, gd, wd3, pr3, a2.moved mv, b2, hR, q2, hxy, hys⟩
  try simp only [Option.toList, List.cons_append, List.nil_append]
  refine zn_icmp_same (tgt := 709) F d_Lw_law_545 rfl (by rw [hj.1]) ?_
  exact K _ _ _ _ hj.2 (by omega) (by omega)
theorem lw_c14 {Δ : zv_D} {Γ : zv_C} {Q : State → Prop} {nm : String} {b L x y i sz ce sl : Nat} {hp : zv_M} {xs : Nat → Int32} (F : zv_F Δ Γ R_law nm code 4 ret room_1) (hX : va_X b L xs Γ.2.2.2.2.1 Δ.1) (hbl : b < Δ.1.size) (hL : L ≤ 2560) (hi : i + 5 ≤ L) (J : jt_at Δ hp sz x y) (hce : ce ≤ 100 + i) (hsl : sl ≤ 20000 + 3 * i) (K : lw_K Δ Γ Q b x y i) : zv_V Δ Γ Q 550 [some (.ref b), some (.ref x), some (.ref y), some (.int (nI i))] [] hp sz ce sl := by
  have J0 := J
  obtain ⟨c, e, n, acc, g, wd, pr, rs, ls, bs, ns, gg, gd, wd2, pr2, hLA, hMO, hR, hA, hxy, hys⟩ := J
  have f0 := hLA.1
  obtain ⟨⟨op, fi, se, st, m0⟩, -⟩ := id hMO
  obtain ⟨he, hsb, hpr, hpr2, hpp, hww, hss⟩ := hA.sets
  refine zv_aload_n F d_Lw_law_550 rfl ?_
  refine zv_pV0 F rfl (by assumption) k_LA.1 d_Lw_law_551 (LA_elements_ok hLA he) Y_LA_elements Yi_LA_elements Yv_LA_elements ln_Lw_78 ⟨(Nat.le_of_ble_eq_true rfl), (Nat.le_of_ble_eq_true rfl)⟩ (Nat.le_of_ble_eq_true rfl) ⟨(by show _ ≤ 600000; omega), (by show _ ≤ 7302250; omega)⟩ ?_
  refine zv_aload_n F d_Lw_law_554 rfl ?_
  refine zv_pV0 F rfl (by assumption) k_Mo.1 d_Lw_law_555 (Mo_elements_ok hMO he) Y_Mo_elements Yi_Mo_elements Yv_Mo_elements ln_Lw_81 ⟨(Nat.le_of_ble_eq_true rfl), (Nat.le_of_ble_eq_true rfl)⟩ (Nat.le_of_ble_eq_true rfl) ⟨(by show _ ≤ 600000; omega), (by show _ ≤ 7302250; omega)⟩ ?_
  refine zn_icmp_same (tgt := 709) F d_Lw_law_558 rfl (rfl) ?_
  exact K _ _ _ _ J0 (by omega) (by omega)
theorem lw_c15 {Δ : zv_D} {Γ : zv_C} {Q : State → Prop} {nm : String} {b L x y i sz ce sl : Nat} {hp : zv_M} {xs : Nat → Int32} (F : zv_F Δ Γ R_law nm code 4 ret room_1) (hX : va_X b L xs Γ.2.2.2.2.1 Δ.1) (hbl : b < Δ.1.size) (hL : L ≤ 2560) (hi : i + 5 ≤ L) (J : jt_at Δ hp sz x y) (hce : ce ≤ 100 + i) (hsl : sl ≤ 20000 + 3 * i) (K : lw_K Δ Γ Q b x y i) : zv_V Δ Γ Q 563 [some (.ref b), some (.ref x), some (.ref y), some (.int (nI i))] [] hp sz ce sl := by
  have J0 := J
  obtain ⟨c, e, n, acc, g, wd, pr, rs, ls, bs, ns, gg, gd, wd2, pr2, hLA, hMO, hR, hA, hxy, hys⟩ := J
  have f0 := hLA.1
  obtain ⟨⟨op, fi, se, st, m0⟩, -⟩ := id hMO
  obtain ⟨he, hsb, hpr, hpr2, hpp, hww, hss⟩ := hA.sets
  refine zv_aload_n F d_Lw_law_563 rfl ?_
  refine zv_aload_n F d_Lw_law_564 rfl ?_
  refine zv_iload_n F d_Lw_law_565 rfl ?_
  refine zn_iconst (x := 1) F d_Lw_law_566 (by decide) ?_
  refine zn_iadd F d_Lw_law_567 ?_
  refine zn_sld F d_Lw_law_568 hX hbl (by omega) (by omega) ?_
  refine zv_pV1 F rfl (by assumption) k_LA.1 d_Lw_law_569 (LA_word_ok hLA he (zx_lt xs _)) Y_LA_word Yi_LA_word Yv_LA_word ln_Lw_82 ⟨(Nat.le_of_ble_eq_true rfl), (Nat.le_of_ble_eq_true rfl)⟩ (Nat.le_of_ble_eq_true rfl) ⟨(by show _ ≤ 600000; omega), (by show _ ≤ 7302250; omega)⟩ ?_
  refine zv_aload_n F d_Lw_law_572 rfl ?_
  refine zv_aload_n F d_Lw_law_573 rfl ?_
  refine zv_iload_n F d_Lw_law_574 rfl ?_
  refine zn_iconst (x := 1) F d_Lw_law_575 (by decide) ?_
  refine zn_iadd F d_Lw_law_576 ?_
  refine zn_sld F d_Lw_law_577 hX hbl (by omega) (by omega) ?_
  refine zv_pV1 F rfl (by assumption) k_Mo.1 d_Lw_law_578 (Mo_word_ok hMO he (zx_lt xs _)) Y_Mo_word Yi_Mo_word Yv_Mo_word ln_Lw_86 ⟨(Nat.le_of_ble_eq_true rfl), (Nat.le_of_ble_eq_true rfl)⟩ (Nat.le_of_ble_eq_true rfl) ⟨(by show _ ≤ 600000; omega), (by show _ ≤ 7302250; omega)⟩ ?_
  refine zn_lcmp_same F d_Lw_law_581 (congrArg lN (if h : zx xs (i + 1) < e then (by rw [if_pos h, if_pos h, hww _ h]) else (by rw [if_neg h, if_neg h]))) ?_
  refine zn_if_eq (x := 0) (tgt := 709) F d_Lw_law_582 rfl (by decide) (fun _ => ?_) (fun h => absurd rfl h)
  exact K _ _ _ _ J0 (by omega) (by omega)
theorem lw_c16 {Δ : zv_D} {Γ : zv_C} {Q : State → Prop} {nm : String} {b L x y i sz ce sl : Nat} {hp : zv_M} {xs : Nat → Int32} (F : zv_F Δ Γ R_law nm code 4 ret room_1) (hX : va_X b L xs Γ.2.2.2.2.1 Δ.1) (hbl : b < Δ.1.size) (hL : L ≤ 2560) (hi : i + 5 ≤ L) (J : jt_at Δ hp sz x y) (hce : ce ≤ 100 + i) (hsl : sl ≤ 20000 + 3 * i) (K : lw_K Δ Γ Q b x y i) : zv_V Δ Γ Q 587 [some (.ref b), some (.ref x), some (.ref y), some (.int (nI i))] [] hp sz ce sl := by
  have J0 := J
  obtain ⟨c, e, n, acc, g, wd, pr, rs, ls, bs, ns, gg, gd, wd2, pr2, hLA, hMO, hR, hA, hxy, hys⟩ := J
  have f0 := hLA.1
  obtain ⟨⟨op, fi, se, st, m0⟩, -⟩ := id hMO
  obtain ⟨he, hsb, hpr, hpr2, hpp, hww, hss⟩ := hA.sets
  refine zv_aload_n F d_Lw_law_587 rfl ?_
  refine zv_aload_n F d_Lw_law_588 rfl ?_
  refine zv_iload_n F d_Lw_law_589 rfl ?_
  refine zn_iconst (x := 1) F d_Lw_law_590 (by decide) ?_
  refine zn_iadd F d_Lw_law_591 ?_
  refine zn_sld F d_Lw_law_592 hX hbl (by omega) (by omega) ?_
  refine zv_aload_n F d_Lw_law_593 rfl ?_
  refine zv_iload_n F d_Lw_law_594 rfl ?_
  refine zn_iconst (x := 2) F d_Lw_law_595 (by decide) ?_
  refine zn_iadd F d_Lw_law_596 ?_
  refine zn_sld F d_Lw_law_597 hX hbl (by omega) (by omega) ?_
  refine zv_pV2 F rfl (by assumption) k_LA.1 d_Lw_law_598 (LA_product_ok hLA he (zx_lt xs _) (zx_lt xs _)) Y_LA_product Yi_LA_product Yv_LA_product ln_Lw_87 ⟨(Nat.le_of_ble_eq_true rfl), (Nat.le_of_ble_eq_true rfl)⟩ (Nat.le_of_ble_eq_true rfl) ⟨(by show _ ≤ 600000; omega), (by show _ ≤ 7302250; omega)⟩ ?_
  refine zv_aload_n F d_Lw_law_601 rfl ?_
  refine zv_aload_n F d_Lw_law_602 rfl ?_
  refine zv_iload_n F d_Lw_law_603 rfl ?_
  refine zn_iconst (x := 1) F d_Lw_law_604 (by decide) ?_
  refine zn_iadd F d_Lw_law_605 ?_
  refine zn_sld F d_Lw_law_606 hX hbl (by omega) (by omega) ?_
  refine zv_aload_n F d_Lw_law_607 rfl ?_
  refine zv_iload_n F d_Lw_law_608 rfl ?_
  refine zn_iconst (x := 2) F d_Lw_law_609 (by decide) ?_
  refine zn_iadd F d_Lw_law_610 ?_
  refine zn_sld F d_Lw_law_611 hX hbl (by omega) (by omega) ?_
  refine zv_pV2 F rfl (by assumption) k_Mo.1 d_Lw_law_612 (Mo_product_ok hMO he (zx_lt xs _) (zx_lt xs _)) Y_Mo_product Yi_Mo_product Yv_Mo_product ln_Lw_90 ⟨(Nat.le_of_ble_eq_true rfl), (Nat.le_of_ble_eq_true rfl)⟩ (Nat.le_of_ble_eq_true rfl) ⟨(by show _ ≤ 600000; omega), (by show _ ≤ 7302250; omega)⟩ ?_
  refine zn_icmp_same (tgt := 709) F d_Lw_law_615 rfl (congrArg nI (if h : zx xs (i + 1) < e ∧ zx xs (i + 2) < e then (by rw [if_pos h, if_pos h, hpp _ _ h.1 h.2]) else (by rw [if_neg h, if_neg h]))) ?_
  exact K _ _ _ _ J0 (by omega) (by omega)
theorem lw_c17 {Δ : zv_D} {Γ : zv_C} {Q : State → Prop} {nm : String} {b L x y i sz ce sl : Nat} {hp : zv_M} {xs : Nat → Int32} (F : zv_F Δ Γ R_law nm code 4 ret room_1) (hX : va_X b L xs Γ.2.2.2.2.1 Δ.1) (hbl : b < Δ.1.size) (hL : L ≤ 2560) (hi : i + 5 ≤ L) (J : jt_at Δ hp sz x y) (hce : ce ≤ 100 + i) (hsl : sl ≤ 20000 + 3 * i) (K : lw_K Δ Γ Q b x y i) : zv_V Δ Γ Q 620 [some (.ref b), some (.ref x), some (.ref y), some (.int (nI i))] [] hp sz ce sl := by
  have J0 := J
  obtain ⟨c, e, n, acc, g, wd, pr, rs, ls, bs, ns, gg, gd, wd2, pr2, hLA, hMO, hR, hA, hxy, hys⟩ := J
  have f0 := hLA.1
  obtain ⟨⟨op, fi, se, st, m0⟩, -⟩ := id hMO
  obtain ⟨he, hsb, hpr, hpr2, hpp, hww, hss⟩ := hA.sets
  refine zv_aload_n F d_Lw_law_620 rfl ?_
  refine zv_aload_n F d_Lw_law_621 rfl ?_
  refine zv_iload_n F d_Lw_law_622 rfl ?_
  refine zn_iconst (x := 1) F d_Lw_law_623 (by decide) ?_
  refine zn_iadd F d_Lw_law_624 ?_
  refine zn_sld F d_Lw_law_625 hX hbl (by omega) (by omega) ?_
  refine zv_aload_n F d_Lw_law_626 rfl ?_
  refine zv_iload_n F d_Lw_law_627 rfl ?_
  refine zn_iconst (x := 2) F d_Lw_law_628 (by decide) ?_
  refine zn_iadd F d_Lw_law_629 ?_
  refine zn_sld F d_Lw_law_630 hX hbl (by omega) (by omega) ?_
  refine zv_aload_n F d_Lw_law_631 rfl ?_
  refine zv_iload_n F d_Lw_law_632 rfl ?_
  refine zn_iconst (x := 3) F d_Lw_law_633 (by decide) ?_
  refine zn_iadd F d_Lw_law_634 ?_
  refine zn_sld F d_Lw_law_635 hX hbl (by omega) (by omega) ?_
  refine zv_pV3 F rfl (by assumption) k_LA.1 d_Lw_law_636 (LA_related_ok hLA he hsb (zx_lt xs _) (zx_lt xs _) (zx_lt xs _)) Y_LA_related Yi_LA_related Yv_LA_related ln_Lw_91 ⟨(Nat.le_of_ble_eq_true rfl), (Nat.le_of_ble_eq_true rfl)⟩ (Nat.le_of_ble_eq_true rfl) ⟨(by show _ ≤ 600000; omega), (by show _ ≤ 7302250; omega)⟩ ?_
  refine zv_aload_n F d_Lw_law_639 rfl ?_
  refine zv_aload_n F d_Lw_law_640 rfl ?_
  refine zv_iload_n F d_Lw_law_641 rfl ?_
  refine zn_iconst (x := 1) F d_Lw_law_642 (by decide) ?_
  refine zn_iadd F d_Lw_law_643 ?_
  refine zn_sld F d_Lw_law_644 hX hbl (by omega) (by omega) ?_
  refine zv_aload_n F d_Lw_law_645 rfl ?_
  refine zv_iload_n F d_Lw_law_646 rfl ?_
  refine zn_iconst (x := 2) F d_Lw_law_647 (by decide) ?_
  refine zn_iadd F d_Lw_law_648 ?_
  refine zn_sld F d_Lw_law_649 hX hbl (by omega) (by omega) ?_
  refine zv_aload_n F d_Lw_law_650 rfl ?_
  refine zv_iload_n F d_Lw_law_651 rfl ?_
  refine zn_iconst (x := 3) F d_Lw_law_652 (by decide) ?_
  refine zn_iadd F d_Lw_law_653 ?_
  refine zn_sld F d_Lw_law_654 hX hbl (by omega) (by omega) ?_
  refine zv_pV3 F rfl (by assumption) k_Mo.1 d_Lw_law_655 (Mo_related_ok hMO he hpr2 (zx_lt xs _) (zx_lt xs _) (zx_lt xs _)) Y_Mo_related Yi_Mo_related Yv_Mo_related ln_Lw_95 ⟨(Nat.le_of_ble_eq_true rfl), (Nat.le_of_ble_eq_true rfl)⟩ (Nat.le_of_ble_eq_true rfl) ⟨(by show _ ≤ 600000; omega), (by show _ ≤ 7302250; omega)⟩ ?_
  refine zn_icmp_same (tgt := 709) F d_Lw_law_658 rfl (congrArg (fun t : Bool => nI t.toNat) (if h : zx xs (i + 2) < e ∧ zx xs (i + 3) < e then (by rw [jt_rl hss h.1 h.2]) else (decide_eq_decide.mpr ⟨fun z => absurd ⟨z.2.1, z.2.2.1⟩ h, fun z => absurd ⟨z.2.1, z.2.2.1⟩ h⟩))) ?_
  exact K _ _ _ _ J0 (by omega) (by omega)
theorem lw_c18 {Δ : zv_D} {Γ : zv_C} {Q : State → Prop} {nm : String} {b L x y i sz ce sl : Nat} {hp : zv_M} {xs : Nat → Int32} (F : zv_F Δ Γ R_law nm code 4 ret room_1) (hX : va_X b L xs Γ.2.2.2.2.1 Δ.1) (hbl : b < Δ.1.size) (hL : L ≤ 2560) (hi : i + 5 ≤ L) (J : jt_at Δ hp sz x y) (hce : ce ≤ 100 + i) (hsl : sl ≤ 20000 + 3 * i) (K : lw_K Δ Γ Q b x y i) : zv_V Δ Γ Q 663 [some (.ref b), some (.ref x), some (.ref y), some (.int (nI i))] [] hp sz ce sl := by
  have J0 := J
  obtain ⟨c, e, n, acc, g, wd, pr, rs, ls, bs, ns, gg, gd, wd2, pr2, hLA, hMO, hR, hA, hxy, hys⟩ := J
  have f0 := hLA.1
  obtain ⟨⟨op, fi, se, st, m0⟩, -⟩ := id hMO
  obtain ⟨he, hsb, hpr, hpr2, hpp, hww, hss⟩ := hA.sets
  refine zv_aload_n F d_Lw_law_663 rfl ?_
  refine zv_aload_n F d_Lw_law_664 rfl ?_
  refine zv_iload_n F d_Lw_law_665 rfl ?_
  refine zn_iconst (x := 1) F d_Lw_law_666 (by decide) ?_
  refine zn_iadd F d_Lw_law_667 ?_
  refine zn_sld F d_Lw_law_668 hX hbl (by omega) (by omega) ?_
  refine zv_pV1 F rfl (by assumption) k_LA.1 d_Lw_law_669 (LA_classes_ok hLA he hsb (zx_lt xs _)) Y_LA_classes Yi_LA_classes Yv_LA_classes ln_Lw_96 ⟨(Nat.le_of_ble_eq_true rfl), (Nat.le_of_ble_eq_true rfl)⟩ (Nat.le_of_ble_eq_true rfl) ⟨(by show _ ≤ 600000; omega), (by show _ ≤ 7302250; omega)⟩ ?_
  refine zv_aload_n F d_Lw_law_672 rfl ?_
  refine zv_aload_n F d_Lw_law_673 rfl ?_
  refine zv_iload_n F d_Lw_law_674 rfl ?_
  refine zn_iconst (x := 1) F d_Lw_law_675 (by decide) ?_
  refine zn_iadd F d_Lw_law_676 ?_
  refine zn_sld F d_Lw_law_677 hX hbl (by omega) (by omega) ?_
  refine zv_pV1 F rfl (by assumption) k_Mo.1 d_Lw_law_678 (Mo_classes_ok hMO he hpr2 (zx_lt xs _)) Y_Mo_classes Yi_Mo_classes Yv_Mo_classes ln_Lw_99 ⟨(Nat.le_of_ble_eq_true rfl), (Nat.le_of_ble_eq_true rfl)⟩ (Nat.le_of_ble_eq_true rfl) ⟨(by show _ ≤ 600000; omega), (by show _ ≤ 7302250; omega)⟩ ?_
  refine zn_icmp_same (tgt := 709) F d_Lw_law_681 rfl (by rw [jt_cc hA]) ?_
  exact K _ _ _ _ J0 (by omega) (by omega)
theorem lw_c19 {Δ : zv_D} {Γ : zv_C} {Q : State → Prop} {nm : String} {b L x y i sz ce sl : Nat} {hp : zv_M} {xs : Nat → Int32} (F : zv_F Δ Γ R_law nm code 4 ret room_1) (hX : va_X b L xs Γ.2.2.2.2.1 Δ.1) (hbl : b < Δ.1.size) (hL : L ≤ 2560) (hi : i + 5 ≤ L) (J : jt_at Δ hp sz x y) (hce : ce ≤ 100 + i) (hsl : sl ≤ 20000 + 3 * i) (K : lw_K Δ Γ Q b x y i) : zv_V Δ Γ Q 686 [some (.ref b), some (.ref x), some (.ref y), some (.int (nI i))] [] hp sz ce sl := by
  have J0 := J
  obtain ⟨c, e, n, acc, g, wd, pr, rs, ls, bs, ns, gg, gd, wd2, pr2, hLA, hMO, hR, hA, hxy, hys⟩ := J
  have f0 := hLA.1
  obtain ⟨⟨op, fi, se, st, m0⟩, -⟩ := id hMO
  obtain ⟨he, hsb, hpr, hpr2, hpp, hww, hss⟩ := hA.sets
  refine zv_aload_n F d_Lw_law_686 rfl ?_
  refine zv_aload_n F d_Lw_law_687 rfl ?_
  refine zv_iload_n F d_Lw_law_688 rfl ?_
  refine zn_iconst (x := 1) F d_Lw_law_689 (by decide) ?_
  refine zn_iadd F d_Lw_law_690 ?_
  refine zn_sld F d_Lw_law_691 hX hbl (by omega) (by omega) ?_
  refine zv_pV1 F rfl (by assumption) k_LA.1 d_Lw_law_692 (LA_witness_ok hLA he hsb hpr (zx_lt xs _)) Y_LA_witness Yi_LA_witness Yv_LA_witness ln_Lw_100 ⟨(Nat.le_of_ble_eq_true rfl), (Nat.le_of_ble_eq_true rfl)⟩ (Nat.le_of_ble_eq_true rfl) ⟨(by show _ ≤ 600000; omega), (by show _ ≤ 7302250; omega)⟩ ?_
  refine zv_aload_n F d_Lw_law_695 rfl ?_
  refine zv_aload_n F d_Lw_law_696 rfl ?_
  refine zv_iload_n F d_Lw_law_697 rfl ?_
  refine zn_iconst (x := 1) F d_Lw_law_698 (by decide) ?_
  refine zn_iadd F d_Lw_law_699 ?_
  refine zn_sld F d_Lw_law_700 hX hbl (by omega) (by omega) ?_
  refine zv_pV1 F rfl (by assumption) k_Mo.1 d_Lw_law_701 (Mo_witness_ok hMO he hpr2 (zx_lt xs _)) Y_Mo_witness Yi_Mo_witness Yv_Mo_witness ln_Lw_103 ⟨(Nat.le_of_ble_eq_true rfl), (Nat.le_of_ble_eq_true rfl)⟩ (Nat.le_of_ble_eq_true rfl) ⟨(by show _ ≤ 600000; omega), (by show _ ≤ 7302250; omega)⟩ ?_
  refine zn_icmp_same (tgt := 709) F d_Lw_law_704 rfl (by rw [jt_wt (fun j k hj hk => jt_ag hA hj hk)]) ?_
  exact K _ _ _ _ J0 (by omega) (by omega)

