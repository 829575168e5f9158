theorem LA_study_ok {l : Launch} {Δ : zv_D} {hp : zv_M} {sz : Nat} {x c i e : Nat} {n acc : Nat → Nat} {g : Nat → Nat → Nat} {wd pr rs ls bs : Nat → Nat} (hL : la_at Δ hp x c n acc g e wd pr rs ls bs) (hc : c ≤ 12) (hi : i < 4294967296) (hgn : i < c → ∀ j, j < 2 * n i → g i j < n i) : zv_E l Δ 4 y_LA_study b_LA_study 2 ((some (FieldType.int))) [.ref x, .int (nI i)] hp sz 0 0 (fun r hp1 sz1 => ∃ v : Nat, r = some (.int (nI v)) ∧ sz1 = sz ∧ (∀ q, q < x ∨ x + 43 ≤ q → hp1 q = hp q) ∧ ((¬ i < c ∧ v = 4294967295 ∧ la_at Δ hp1 x c n acc g e wd pr rs ls bs) ∨ (i < c ∧ al_big (n i) (g i) 61 ∧ v = 4294967293 ∧ la_at Δ hp1 x c n acc g e wd pr rs ls bs) ∨ (i < c ∧ ∃ wd1 pr1 rs1 ls1 bs1 : Nat → Nat, la_at Δ hp1 x c n acc g v wd1 pr1 rs1 ls1 bs1 ∧ al_ok (n i) (g i) v wd1 pr1 ∧ al_sets v pr1 rs1 ls1 bs1))) := by
  refine zv_E.intro (lv0 := [some (.ref x), some (.int (nI i))]) rfl (Nat.le_of_ble_eq_true rfl) rfl ?_
  intro Γ hl F
  clear hl
  have hL0 := hL
  obtain ⟨f0, ⟨fa, f1, hfa⟩, f2, f3, hau⟩ := hL
  have f5 := f3.1
  refine zv_aload_n F d_LA_study_0 rfl ?_
  refine zv_iload_n F d_LA_study_1 rfl ?_
  refine zv_pV1 F rfl (by assumption) k_LA.1 d_LA_study_2 (LA_isListed_ok f0 hc hi) Y_LA_isListed Yi_LA_isListed Yv_LA_isListed ln_LA_39 ⟨(Nat.le_of_ble_eq_true rfl), (Nat.le_of_ble_eq_true rfl)⟩ (Nat.le_of_ble_eq_true rfl) ⟨(Nat.le_of_ble_eq_true rfl), (Nat.le_of_ble_eq_true rfl)⟩ ?_
  first | refine zn_bif_ne (tgt := 10) F d_LA_study_5 rfl (fun h5 => ?_) (fun h5 => ?_) | refine zn_if_ne (tgt := 10) F d_LA_study_5 rfl (by omega) (fun h5 => ?_) (fun h5 => ?_)
  · have h5 := of_decide_eq_true h5
    refine zv_aload_n F d_LA_study_10 rfl ?_
    refine zv_get F d_LA_study_11 (by assumption) k_LA 3 (Nat.le_of_ble_eq_true rfl) ln_LA_25 rfl (by rfl) ?_
    refine zv_aload_n F d_LA_study_14 rfl ?_
    refine zv_get F d_LA_study_15 (by assumption) k_LA 0 (Nat.le_of_ble_eq_true rfl) ln_LA_11 rfl (by rfl) ?_
    refine zv_iload_n F d_LA_study_18 rfl ?_
    refine zv_aald (t0 := 3) F d_LA_study_19 (by assumption) rfl (vp_in_nI (by omega) (by omega)) (by rw [nI_clamp (by omega)]; exact hfa _ (by omega)) ?_
    refine zv_mV1 F rfl (by assumption) k_Al.1 d_LA_study_20 (Al_workOut_ok f3 (hau i (by omega)).1 (hau i (by omega)).2 (hgn h5) (by omega)) Y_Al_workOut Yi_Al_workOut Yv_Al_workOut ln_LA_82 ⟨(Nat.le_of_ble_eq_true rfl), (Nat.le_of_ble_eq_true rfl)⟩ (Nat.le_of_ble_eq_true rfl) ⟨(Nat.le_of_ble_eq_true rfl), (Nat.le_of_ble_eq_true rfl)⟩ (fun r hp20 sz20 q20 => ?_)
    obtain ⟨bb, rfl, rfl, fr, hF, hT⟩ := q20
    have g0 := (fr x (by omega)).trans f0
    have g1 := (fr (x + 1) (by omega)).trans f1
    have g2 := f2.moved (hp1 := hp20) (fun q q1 q2 => fr q (by omega))
    have g4 : ∀ i, i < 12 → au_at Δ hp20 (x + 19 + 2 * i) (n i) (acc i) (g i) ∧ au_ok (n i) (acc i) (g i) := fun i hi => ⟨(hau i hi).1.moved (fr _ (by omega)) (fr _ (by omega)), (hau i hi).2⟩
    try simp only [Option.toList, List.cons_append, List.nil_append]
    first | refine zn_bif_eq (tgt := 36) F d_LA_study_23 rfl (fun h23 => ?_) (fun h23 => ?_) | refine zn_if_eq (tgt := 36) F d_LA_study_23 rfl (by omega) (fun h23 => ?_) (fun h23 => ?_)
    · refine zn_bipush (x := 4294967293) F d_LA_study_36 (by decide) ?_
      exact zv_iret F d_LA_study_38 (Nat.le_of_ble_eq_true rfl) (Nat.le_of_ble_eq_true rfl) (by first | exact ⟨e1, rfl, rfl, fun q hq => fr q (by omega), Or.inr (Or.inr ⟨h5, wd1, pr1, rs1, ls1, bs1, ⟨g0, ⟨fa, g1, hfa⟩, g2, k1, g4⟩, k2, k3⟩)⟩ | exact ⟨4294967293, rfl, rfl, fun q hq => fr q (by omega), Or.inr (Or.inl ⟨h5, (hF h23).1, rfl, g0, ⟨fa, g1, hfa⟩, g2, (hF h23).2, g4⟩)⟩)
    · obtain ⟨e1, wd1, pr1, rs1, ls1, bs1, k1, k2, k3⟩ := hT h23
      have k0 := k1.1
      refine zv_aload_n F d_LA_study_26 rfl ?_
      refine zv_get F d_LA_study_27 (by assumption) k_LA 3 (Nat.le_of_ble_eq_true rfl) ln_LA_25 rfl (by rfl) ?_
      refine zv_getN F d_LA_study_30 (by assumption) k_Al 4 (Nat.le_of_ble_eq_true rfl) ln_LA_85 rfl (by rfl) ?_
      refine zv_goto (tgt := 38) F d_LA_study_33 rfl ?_
      exact zv_iret F d_LA_study_38 (Nat.le_of_ble_eq_true rfl) (Nat.le_of_ble_eq_true rfl) (by first | exact ⟨e1, rfl, rfl, fun q hq => fr q (by omega), Or.inr (Or.inr ⟨h5, wd1, pr1, rs1, ls1, bs1, ⟨g0, ⟨fa, g1, hfa⟩, g2, k1, g4⟩, k2, k3⟩)⟩ | exact ⟨4294967293, rfl, rfl, fun q hq => fr q (by omega), Or.inr (Or.inl ⟨h5, (hF h23).1, rfl, g0, ⟨fa, g1, hfa⟩, g2, (hF h23).2, g4⟩)⟩)
  · have h5 := of_decide_eq_false h5
    refine zn_iconst (x := 4294967295) F d_LA_study_8 (by decide) ?_
    exact zv_iret F d_LA_study_9 (Nat.le_of_ble_eq_true rfl) (Nat.le_of_ble_eq_true rfl) ⟨4294967295, rfl, rfl, fun q _ => rfl, Or.inl ⟨h5, rfl, hL0⟩⟩
theorem LA_elements_ok {l : Launch} {Δ : zv_D} {hp : zv_M} {sz : Nat} {x c e : Nat} {n acc : Nat → Nat} {g : Nat → Nat → Nat} {wd pr rs ls bs : Nat → Nat} (hL : la_at Δ hp x c n acc g e wd pr rs ls bs) (he : e ≤ 60) : zv_P l Δ 1 y_LA_elements b_LA_elements 1 ((some (FieldType.int))) [.ref x] hp sz (.int (nI (if 0 < e then e else 4294967295))) := by
  refine zv_E.intro (lv0 := [some (.ref x)]) rfl (Nat.le_of_ble_eq_true rfl) rfl ?_
  intro Γ hl F
  clear hl
  obtain ⟨f0, -, -, f3, -⟩ := hL
  have f5 := f3.1
  refine zv_aload_n F d_LA_elements_0 rfl ?_
  refine zv_get F d_LA_elements_1 (by assumption) k_LA 3 (Nat.le_of_ble_eq_true rfl) ln_LA_25 rfl (by rfl) ?_
  refine zv_pV0 F rfl (by assumption) k_Al.1 d_LA_elements_4 (Al_isWorkedOut_ok f5 he) Y_Al_isWorkedOut Yi_Al_isWorkedOut Yv_Al_isWorkedOut ln_LA_86 ⟨(Nat.le_of_ble_eq_true rfl), (Nat.le_of_ble_eq_true rfl)⟩ (Nat.le_of_ble_eq_true rfl) ⟨(Nat.le_of_ble_eq_true rfl), (Nat.le_of_ble_eq_true rfl)⟩ ?_
  first | refine zn_bif_eq (tgt := 20) F d_LA_elements_7 rfl (fun h7 => ?_) (fun h7 => ?_) | refine zn_if_eq (tgt := 20) F d_LA_elements_7 rfl (by omega) (fun h7 => ?_) (fun h7 => ?_)
  · have h7 := of_decide_eq_false h7
    refine zn_iconst (x := 4294967295) F d_LA_elements_20 (by decide) ?_
    exact zv_iret F d_LA_elements_21 (Nat.le_of_ble_eq_true rfl) (Nat.le_of_ble_eq_true rfl) ⟨zn_rt (by first | rw [if_pos h7] | rw [if_neg h7]), rfl, rfl⟩
  · have h7 := of_decide_eq_true h7
    refine zv_aload_n F d_LA_elements_10 rfl ?_
    refine zv_get F d_LA_elements_11 (by assumption) k_LA 3 (Nat.le_of_ble_eq_true rfl) ln_LA_25 rfl (by rfl) ?_
    refine zv_getN F d_LA_elements_14 (by assumption) k_Al 4 (Nat.le_of_ble_eq_true rfl) ln_LA_85 rfl (by rfl) ?_
    refine zv_goto (tgt := 21) F d_LA_elements_17 rfl ?_
    exact zv_iret F d_LA_elements_21 (Nat.le_of_ble_eq_true rfl) (Nat.le_of_ble_eq_true rfl) ⟨zn_rt (by first | rw [if_pos h7] | rw [if_neg h7]), rfl, rfl⟩
theorem LA_word_ok {l : Launch} {Δ : zv_D} {hp : zv_M} {sz : Nat} {x c k e : Nat} {n acc : Nat → Nat} {g : Nat → Nat → Nat} {wd pr rs ls bs : Nat → Nat} (hL : la_at Δ hp x c n acc g e wd pr rs ls bs) (he : e ≤ 60) (hk : k < 4294967296) : zv_P l Δ 1 y_LA_word b_LA_word 2 ((some (FieldType.long))) [.ref x, .int (nI k)] hp sz (.long (lN (if k < e then wd k else 18446744073709551615))) := by
  refine zv_E.intro (lv0 := [some (.ref x), some (.int (nI k))]) rfl (Nat.le_of_ble_eq_true rfl) rfl ?_
  intro Γ hl F
  clear hl
  obtain ⟨f0, -, -, f3, -⟩ := hL
  have f5 := f3.1
  have a5 := f3.2.2.1
  refine zv_aload_n F d_LA_word_0 rfl ?_
  refine zv_get F d_LA_word_1 (by assumption) k_LA 3 (Nat.le_of_ble_eq_true rfl) ln_LA_25 rfl (by rfl) ?_
  refine zv_iload_n F d_LA_word_4 rfl ?_
  refine zv_pV1 F rfl (by assumption) k_Al.1 d_LA_word_5 (Al_hasElement_ok f5 he hk) Y_Al_hasElement Yi_Al_hasElement Yv_Al_hasElement ln_LA_90 ⟨(Nat.le_of_ble_eq_true rfl), (Nat.le_of_ble_eq_true rfl)⟩ (Nat.le_of_ble_eq_true rfl) ⟨(Nat.le_of_ble_eq_true rfl), (Nat.le_of_ble_eq_true rfl)⟩ ?_
  first | refine zn_bif_eq (tgt := 23) F d_LA_word_8 rfl (fun h8 => ?_) (fun h8 => ?_) | refine zn_if_eq (tgt := 23) F d_LA_word_8 rfl (by omega) (fun h8 => ?_) (fun h8 => ?_)
  · have h8 := of_decide_eq_false h8
    refine zn_ldc2 (x := 18446744073709551615) F d_LA_word_23 ln_LA_97 (by decide) ?_
    exact zv_lret F d_LA_word_26 (Nat.le_of_ble_eq_true rfl) (Nat.le_of_ble_eq_true rfl) ⟨zn_rl (by first | rw [if_pos h8] | rw [if_neg h8]), rfl, rfl⟩
  · have h8 := of_decide_eq_true h8
    refine zv_aload_n F d_LA_word_11 rfl ?_
    refine zv_get F d_LA_word_12 (by assumption) k_LA 3 (Nat.le_of_ble_eq_true rfl) ln_LA_25 rfl (by rfl) ?_
    refine zv_getN F d_LA_word_15 (by assumption) k_Al 5 (Nat.le_of_ble_eq_true rfl) ln_LA_93 rfl (by rfl) ?_
    refine zv_iload_n F d_LA_word_18 rfl ?_
    refine zn_lald F d_LA_word_19 (by assumption) (by omega) (by omega) ?_
    refine zv_goto (tgt := 26) F d_LA_word_20 rfl ?_
    exact zv_lret F d_LA_word_26 (Nat.le_of_ble_eq_true rfl) (Nat.le_of_ble_eq_true rfl) ⟨zn_rl (by first | rw [if_pos h8] | rw [if_neg h8]), rfl, rfl⟩
theorem LA_product_ok {l : Launch} {Δ : zv_D} {hp : zv_M} {sz : Nat} {x c j k e : Nat} {n acc : Nat → Nat} {g : Nat → Nat → Nat} {wd pr rs ls bs : Nat → Nat} (hL : la_at Δ hp x c n acc g e wd pr rs ls bs) (he : e ≤ 60) (hj : j < 4294967296) (hk : k < 4294967296) : zv_P l Δ 1 y_LA_product b_LA_product 3 ((some (FieldType.int))) [.ref x, .int (nI j), .int (nI k)] hp sz (.int (nI (if j < e ∧ k < e then pr (60 * j + k) else 4294967295))) := by
  refine zv_E.intro (lv0 := [some (.ref x), some (.int (nI j)), some (.int (nI k))]) rfl (Nat.le_of_ble_eq_true rfl) rfl ?_
  intro Γ hl F
  clear hl
  obtain ⟨f0, -, -, f3, -⟩ := hL
  have f5 := f3.1
  have a6 := f3.2.2.2.1
  refine zv_aload_n F d_LA_product_0 rfl ?_
  refine zv_get F d_LA_product_1 (by assumption) k_LA 3 (Nat.le_of_ble_eq_true rfl) ln_LA_25 rfl (by rfl) ?_
  refine zv_iload_n F d_LA_product_4 rfl ?_
  refine zv_pV1 F rfl (by assumption) k_Al.1 d_LA_product_5 (Al_hasElement_ok f5 he hj) Y_Al_hasElement Yi_Al_hasElement Yv_Al_hasElement ln_LA_90 ⟨(Nat.le_of_ble_eq_true rfl), (Nat.le_of_ble_eq_true rfl)⟩ (Nat.le_of_ble_eq_true rfl) ⟨(Nat.le_of_ble_eq_true rfl), (Nat.le_of_ble_eq_true rfl)⟩ ?_
  first | refine zn_bif_eq (tgt := 22) F d_LA_product_8 rfl (fun h8 => ?_) (fun h8 => ?_) | refine zn_if_eq (tgt := 22) F d_LA_product_8 rfl (by omega) (fun h8 => ?_) (fun h8 => ?_)
  · have h8 := of_decide_eq_false h8
    refine zn_iconst (x := 4294967295) F d_LA_product_22 (by decide) ?_
    exact zv_iret F d_LA_product_23 (Nat.le_of_ble_eq_true rfl) (Nat.le_of_ble_eq_true rfl) ⟨zn_rt (by rw [if_neg (by omega)]), rfl, rfl⟩
  · have h8 := of_decide_eq_true h8
    refine zv_aload_n F d_LA_product_11 rfl ?_
    refine zv_get F d_LA_product_12 (by assumption) k_LA 3 (Nat.le_of_ble_eq_true rfl) ln_LA_25 rfl (by rfl) ?_
    refine zv_iload_n F d_LA_product_15 rfl ?_
    refine zv_pV1 F rfl (by assumption) k_Al.1 d_LA_product_16 (Al_hasElement_ok f5 he hk) Y_Al_hasElement Yi_Al_hasElement Yv_Al_hasElement ln_LA_90 ⟨(Nat.le_of_ble_eq_true rfl), (Nat.le_of_ble_eq_true rfl)⟩ (Nat.le_of_ble_eq_true rfl) ⟨(Nat.le_of_ble_eq_true rfl), (Nat.le_of_ble_eq_true rfl)⟩ ?_
    first | refine zn_bif_ne (tgt := 24) F d_LA_product_19 rfl (fun h19 => ?_) (fun h19 => ?_) | refine zn_if_ne (tgt := 24) F d_LA_product_19 rfl (by omega) (fun h19 => ?_) (fun h19 => ?_)
    · have h19 := of_decide_eq_true h19
      refine zv_aload_n F d_LA_product_24 rfl ?_
      refine zv_get F d_LA_product_25 (by assumption) k_LA 3 (Nat.le_of_ble_eq_true rfl) ln_LA_25 rfl (by rfl) ?_
      refine zv_iload_n F d_LA_product_28 rfl ?_
      refine zv_iload_n F d_LA_product_29 rfl ?_
      refine zv_pV2 F rfl (by assumption) k_Al.1 d_LA_product_30 (Al_multiply_ok f5 a6 (by omega) (by omega)) Y_Al_multiply Yi_Al_multiply Yv_Al_multiply ln_LA_99 ⟨(Nat.le_of_ble_eq_true rfl), (Nat.le_of_ble_eq_true rfl)⟩ (Nat.le_of_ble_eq_true rfl) ⟨(Nat.le_of_ble_eq_true rfl), (Nat.le_of_ble_eq_true rfl)⟩ ?_
      exact zv_iret F d_LA_product_33 (Nat.le_of_ble_eq_true rfl) (Nat.le_of_ble_eq_true rfl) ⟨zn_rt (by rw [if_pos ⟨h8, h19⟩]), rfl, rfl⟩
    · have h19 := of_decide_eq_false h19
      refine zn_iconst (x := 4294967295) F d_LA_product_22 (by decide) ?_
      exact zv_iret F d_LA_product_23 (Nat.le_of_ble_eq_true rfl) (Nat.le_of_ble_eq_true rfl) ⟨zn_rt (by rw [if_neg (by omega)]), rfl, rfl⟩
theorem LA_related_ok {l : Launch} {Δ : zv_D} {hp : zv_M} {sz : Nat} {x c w j k e : Nat} {n acc : Nat → Nat} {g : Nat → Nat → Nat} {wd pr rs ls bs : Nat → Nat} (hL : la_at Δ hp x c n acc g e wd pr rs ls bs) (he : e ≤ 60) (hb : al_sb e rs ls bs) (hw : w < 4294967296) (hj : j < 4294967296) (hk : k < 4294967296) : zv_P l Δ 1 y_LA_related b_LA_related 4 ((some (FieldType.boolean))) [.ref x, .int (nI w), .int (nI j), .int (nI k)] hp sz (.int (nI (decide (w < 4 ∧ j < e ∧ k < e ∧ al_rl rs ls bs w j k = true)).toNat)) := by
  refine zv_E.intro (lv0 := [some (.ref x), some (.int (nI w)), some (.int (nI j)), some (.int (nI k))]) rfl (Nat.le_of_ble_eq_true rfl) rfl ?_
  intro Γ hl F
  clear hl
  obtain ⟨f0, -, -, f3, -⟩ := hL
  obtain ⟨f5, -, -, -, a7, a8, a9⟩ := f3
  refine zv_iload_n F d_LA_related_0 rfl ?_
  refine zv_pS1 F rfl d_LA_related_1 (LA_isRelation_ok hw) Y_LA_isRelation Ys_LA_isRelation ln_LA_102 ⟨(Nat.le_of_ble_eq_true rfl), (Nat.le_of_ble_eq_true rfl)⟩ (Nat.le_of_ble_eq_true rfl) ⟨(Nat.le_of_ble_eq_true rfl), (Nat.le_of_ble_eq_true rfl)⟩ ?_
  first | refine zn_bif_eq (tgt := 46) F d_LA_related_4 rfl (fun h4 => ?_) (fun h4 => ?_) | refine zn_if_eq (tgt := 46) F d_LA_related_4 rfl (by omega) (fun h4 => ?_) (fun h4 => ?_)
  · have h4 := of_decide_eq_false h4
    refine zn_iconst (x := 0) F d_LA_related_46 (by decide) ?_
    exact zv_zret F d_LA_related_47 (Nat.le_of_ble_eq_true rfl) (Nat.le_of_ble_eq_true rfl) (by first | rfl | exact zn_nb _) (by first | exact ⟨zn_bt (decide_eq_true ⟨h4, h15, h26, h39⟩), rfl, rfl⟩ | exact ⟨zn_bf (decide_eq_false (fun h => by rw [h39] at h; exact absurd h.2.2.2 (by decide))), rfl, rfl⟩ | exact ⟨zn_bf (decide_eq_false (fun h => h26 h.2.2.1)), rfl, rfl⟩ | exact ⟨zn_bf (decide_eq_false (fun h => h15 h.2.1)), rfl, rfl⟩ | exact ⟨zn_bf (decide_eq_false (fun h => h4 h.1)), rfl, rfl⟩)
  · have h4 := of_decide_eq_true h4
    refine zv_aload_n F d_LA_related_7 rfl ?_
    refine zv_get F d_LA_related_8 (by assumption) k_LA 3 (Nat.le_of_ble_eq_true rfl) ln_LA_25 rfl (by rfl) ?_
    refine zv_iload_n F d_LA_related_11 rfl ?_
    refine zv_pV1 F rfl (by assumption) k_Al.1 d_LA_related_12 (Al_hasElement_ok f5 he hj) Y_Al_hasElement Yi_Al_hasElement Yv_Al_hasElement ln_LA_90 ⟨(Nat.le_of_ble_eq_true rfl), (Nat.le_of_ble_eq_true rfl)⟩ (Nat.le_of_ble_eq_true rfl) ⟨(Nat.le_of_ble_eq_true rfl), (Nat.le_of_ble_eq_true rfl)⟩ ?_
    first | refine zn_bif_eq (tgt := 46) F d_LA_related_15 rfl (fun h15 => ?_) (fun h15 => ?_) | refine zn_if_eq (tgt := 46) F d_LA_related_15 rfl (by omega) (fun h15 => ?_) (fun h15 => ?_)
    · have h15 := of_decide_eq_false h15
      refine zn_iconst (x := 0) F d_LA_related_46 (by decide) ?_
      exact zv_zret F d_LA_related_47 (Nat.le_of_ble_eq_true rfl) (Nat.le_of_ble_eq_true rfl) (by first | rfl | exact zn_nb _) (by first | exact ⟨zn_bt (decide_eq_true ⟨h4, h15, h26, h39⟩), rfl, rfl⟩ | exact ⟨zn_bf (decide_eq_false (fun h => by rw [h39] at h; exact absurd h.2.2.2 (by decide))), rfl, rfl⟩ | exact ⟨zn_bf (decide_eq_false (fun h => h26 h.2.2.1)), rfl, rfl⟩ | exact ⟨zn_bf (decide_eq_false (fun h => h15 h.2.1)), rfl, rfl⟩ | exact ⟨zn_bf (decide_eq_false (fun h => h4 h.1)), rfl, rfl⟩)
    · have h15 := of_decide_eq_true h15
      refine zv_aload_n F d_LA_related_18 rfl ?_
      refine zv_get F d_LA_related_19 (by assumption) k_LA 3 (Nat.le_of_ble_eq_true rfl) ln_LA_25 rfl (by rfl) ?_
      refine zv_iload_n F d_LA_related_22 rfl ?_
      refine zv_pV1 F rfl (by assumption) k_Al.1 d_LA_related_23 (Al_hasElement_ok f5 he hk) Y_Al_hasElement Yi_Al_hasElement Yv_Al_hasElement ln_LA_90 ⟨(Nat.le_of_ble_eq_true rfl), (Nat.le_of_ble_eq_true rfl)⟩ (Nat.le_of_ble_eq_true rfl) ⟨(Nat.le_of_ble_eq_true rfl), (Nat.le_of_ble_eq_true rfl)⟩ ?_
      first | refine zn_bif_eq (tgt := 46) F d_LA_related_26 rfl (fun h26 => ?_) (fun h26 => ?_) | refine zn_if_eq (tgt := 46) F d_LA_related_26 rfl (by omega) (fun h26 => ?_) (fun h26 => ?_)
      · have h26 := of_decide_eq_false h26
        refine zn_iconst (x := 0) F d_LA_related_46 (by decide) ?_
        exact zv_zret F d_LA_related_47 (Nat.le_of_ble_eq_true rfl) (Nat.le_of_ble_eq_true rfl) (by first | rfl | exact zn_nb _) (by first | exact ⟨zn_bt (decide_eq_true ⟨h4, h15, h26, h39⟩), rfl, rfl⟩ | exact ⟨zn_bf (decide_eq_false (fun h => by rw [h39] at h; exact absurd h.2.2.2 (by decide))), rfl, rfl⟩ | exact ⟨zn_bf (decide_eq_false (fun h => h26 h.2.2.1)), rfl, rfl⟩ | exact ⟨zn_bf (decide_eq_false (fun h => h15 h.2.1)), rfl, rfl⟩ | exact ⟨zn_bf (decide_eq_false (fun h => h4 h.1)), rfl, rfl⟩)
      · have h26 := of_decide_eq_true h26
        refine zv_aload_n F d_LA_related_29 rfl ?_
        refine zv_get F d_LA_related_30 (by assumption) k_LA 3 (Nat.le_of_ble_eq_true rfl) ln_LA_25 rfl (by rfl) ?_
        refine zv_iload_n F d_LA_related_33 rfl ?_
        refine zv_iload_n F d_LA_related_34 rfl ?_
        refine zv_iload_n F d_LA_related_35 rfl ?_
        refine zv_pV3 F rfl (by assumption) k_Al.1 d_LA_related_36 (Al_areRelated_ok f5 a7 a8 a9 he hb h4 h15 h26) Y_Al_areRelated Yi_Al_areRelated Yv_Al_areRelated ln_LA_105 ⟨(Nat.le_of_ble_eq_true rfl), (Nat.le_of_ble_eq_true rfl)⟩ (Nat.le_of_ble_eq_true rfl) ⟨(Nat.le_of_ble_eq_true rfl), (Nat.le_of_ble_eq_true rfl)⟩ ?_
        first | refine zn_bif_eq (tgt := 46) F d_LA_related_39 rfl (fun h39 => ?_) (fun h39 => ?_) | refine zn_if_eq (tgt := 46) F d_LA_related_39 rfl (by omega) (fun h39 => ?_) (fun h39 => ?_)
        · refine zn_iconst (x := 0) F d_LA_related_46 (by decide) ?_
          exact zv_zret F d_LA_related_47 (Nat.le_of_ble_eq_true rfl) (Nat.le_of_ble_eq_true rfl) (by first | rfl | exact zn_nb _) (by first | exact ⟨zn_bt (decide_eq_true ⟨h4, h15, h26, h39⟩), rfl, rfl⟩ | exact ⟨zn_bf (decide_eq_false (fun h => by rw [h39] at h; exact absurd h.2.2.2 (by decide))), rfl, rfl⟩ | exact ⟨zn_bf (decide_eq_false (fun h => h26 h.2.2.1)), rfl, rfl⟩ | exact ⟨zn_bf (decide_eq_false (fun h => h15 h.2.1)), rfl, rfl⟩ | exact ⟨zn_bf (decide_eq_false (fun h => h4 h.1)), rfl, rfl⟩)
        · refine zn_iconst (x := 1) F d_LA_related_42 (by decide) ?_
          refine zv_goto (tgt := 47) F d_LA_related_43 rfl ?_
          exact zv_zret F d_LA_related_47 (Nat.le_of_ble_eq_true rfl) (Nat.le_of_ble_eq_true rfl) (by first | rfl | exact zn_nb _) (by first | exact ⟨zn_bt (decide_eq_true ⟨h4, h15, h26, h39⟩), rfl, rfl⟩ | exact ⟨zn_bf (decide_eq_false (fun h => by rw [h39] at h; exact absurd h.2.2.2 (by decide))), rfl, rfl⟩ | exact ⟨zn_bf (decide_eq_false (fun h => h26 h.2.2.1)), rfl, rfl⟩ | exact ⟨zn_bf (decide_eq_false (fun h => h15 h.2.1)), rfl, rfl⟩ | exact ⟨zn_bf (decide_eq_false (fun h => h4 h.1)), rfl, rfl⟩)
theorem LA_classes_ok {l : Launch} {Δ : zv_D} {hp : zv_M} {sz : Nat} {x c w e : Nat} {n acc : Nat → Nat} {g : Nat → Nat → Nat} {wd pr rs ls bs : Nat → Nat} (hL : la_at Δ hp x c n acc g e wd pr rs ls bs) (he : e ≤ 60) (hb : al_sb e rs ls bs) (hw : w < 4294967296) : zv_P l Δ 3 y_LA_classes b_LA_classes 2 ((some (FieldType.int))) [.ref x, .int (nI w)] hp sz (.int (nI (if w < 4 ∧ 0 < e then al_cc (al_fc rs ls bs w) e else 4294967295))) := by
  refine zv_E.intro (lv0 := [some (.ref x), some (.int (nI w))]) rfl (Nat.le_of_ble_eq_true rfl) rfl ?_
  intro Γ hl F
  clear hl
  obtain ⟨f0, -, -, f3, -⟩ := hL
  obtain ⟨f5, -, -, -, a7, a8, a9⟩ := f3
  refine zv_iload_n F d_LA_classes_0 rfl ?_
  refine zv_pS1 F rfl d_LA_classes_1 (LA_isRelation_ok hw) Y_LA_isRelation Ys_LA_isRelation ln_LA_102 ⟨(Nat.le_of_ble_eq_true rfl), (Nat.le_of_ble_eq_true rfl)⟩ (Nat.le_of_ble_eq_true rfl) ⟨(Nat.le_of_ble_eq_true rfl), (Nat.le_of_ble_eq_true rfl)⟩ ?_
  first | refine zn_bif_eq (tgt := 17) F d_LA_classes_4 rfl (fun h4 => ?_) (fun h4 => ?_) | refine zn_if_eq (tgt := 17) F d_LA_classes_4 rfl (by omega) (fun h4 => ?_) (fun h4 => ?_)
  · have h4 := of_decide_eq_false h4
    refine zn_iconst (x := 4294967295) F d_LA_classes_17 (by decide) ?_
    exact zv_iret F d_LA_classes_18 (Nat.le_of_ble_eq_true rfl) (Nat.le_of_ble_eq_true rfl) ⟨zn_rt (by rw [if_neg (by omega)]), rfl, rfl⟩
  · have h4 := of_decide_eq_true h4
    refine zv_aload_n F d_LA_classes_7 rfl ?_
    refine zv_get F d_LA_classes_8 (by assumption) k_LA 3 (Nat.le_of_ble_eq_true rfl) ln_LA_25 rfl (by rfl) ?_
    refine zv_pV0 F rfl (by assumption) k_Al.1 d_LA_classes_11 (Al_isWorkedOut_ok f5 he) Y_Al_isWorkedOut Yi_Al_isWorkedOut Yv_Al_isWorkedOut ln_LA_86 ⟨(Nat.le_of_ble_eq_true rfl), (Nat.le_of_ble_eq_true rfl)⟩ (Nat.le_of_ble_eq_true rfl) ⟨(Nat.le_of_ble_eq_true rfl), (Nat.le_of_ble_eq_true rfl)⟩ ?_
    first | refine zn_bif_ne (tgt := 19) F d_LA_classes_14 rfl (fun h14 => ?_) (fun h14 => ?_) | refine zn_if_ne (tgt := 19) F d_LA_classes_14 rfl (by omega) (fun h14 => ?_) (fun h14 => ?_)
    · have h14 := of_decide_eq_true h14
      refine zv_aload_n F d_LA_classes_19 rfl ?_
      refine zv_get F d_LA_classes_20 (by assumption) k_LA 3 (Nat.le_of_ble_eq_true rfl) ln_LA_25 rfl (by rfl) ?_
      refine zv_iload_n F d_LA_classes_23 rfl ?_
      refine zv_pV1 F rfl (by assumption) k_Al.1 d_LA_classes_24 (Al_countClasses_ok f5 a7 a8 a9 he hb h4) Y_Al_countClasses Yi_Al_countClasses Yv_Al_countClasses ln_LA_109 ⟨(Nat.le_of_ble_eq_true rfl), (Nat.le_of_ble_eq_true rfl)⟩ (Nat.le_of_ble_eq_true rfl) ⟨(Nat.le_of_ble_eq_true rfl), (Nat.le_of_ble_eq_true rfl)⟩ ?_
      exact zv_iret F d_LA_classes_27 (Nat.le_of_ble_eq_true rfl) (Nat.le_of_ble_eq_true rfl) ⟨zn_rt (by rw [if_pos ⟨h4, h14⟩]), rfl, rfl⟩
    · have h14 := of_decide_eq_false h14
      refine zn_iconst (x := 4294967295) F d_LA_classes_17 (by decide) ?_
      exact zv_iret F d_LA_classes_18 (Nat.le_of_ble_eq_true rfl) (Nat.le_of_ble_eq_true rfl) ⟨zn_rt (by rw [if_neg (by omega)]), rfl, rfl⟩
def la_J (p : Nat → Nat → Bool) (e : Nat) (j : Nat) : Bool := decide (zf_ff (p j) 0 e < e)
def la_wt (p : Nat → Nat → Bool) (e : Nat) : Nat := if zf_ff (la_J p e) 0 e < e then 64 * zf_ff (la_J p e) 0 e + zf_ff (p (zf_ff (la_J p e) 0 e)) 0 e else 4294967295
theorem LA_witness_ok {l : Launch} {Δ : zv_D} {hp : zv_M} {sz : Nat} {x c w e : Nat} {n acc : Nat → Nat} {g : Nat → Nat → Nat} {wd pr rs ls bs : Nat → Nat} (hL : la_at Δ hp x c n acc g e wd pr rs ls bs) (he : e ≤ 60) (hb : al_sb e rs ls bs) (hpr : ∀ j k, j < e → k < e → pr (60 * j + k) < e) (hw : w < 4294967296) : zv_P l Δ 2 y_LA_witness b_LA_witness 4 ((some (FieldType.int))) [.ref x, .int (nI w)] hp sz (.int (nI (if w < 6 ∧ 0 < e then la_wt (al_ag pr rs ls bs w) e else 4294967294))) := by
  refine zv_E.intro (lv0 := [some (.ref x), some (.int (nI w)), none, none]) rfl (Nat.le_of_ble_eq_true rfl) rfl ?_
  intro Γ hl F
  clear hl
  obtain ⟨f0, -, -, f3, -⟩ := hL
  obtain ⟨f5, -, -, a6, a7, a8, a9⟩ := f3
  have outer : ∀ (z j : Nat), z = e - j → j ≤ e → w < 6 → 0 < e → zf_ff (la_J (al_ag pr rs ls bs w) e) 0 e = zf_ff (la_J (al_ag pr rs ls bs w) e) j (e - j) → zv_V Δ Γ (zv_QQ Δ Γ 0 0 (fun r hp1 sz1 => r = some (.int (nI (if w < 6 ∧ 0 < e then la_wt (al_ag pr rs ls bs w) e else 4294967294))) ∧ hp1 = hp ∧ sz1 = sz)) 24 [some (.ref x), some (.int (nI w)), some (.int (nI j)), none] [] hp sz 0 0 := by
    intro z
    induction z using Nat.strongRecOn with
    | ind z ih =>
      intro j hz hj hw6 he0 hJ
      have inner : ∀ (z2 k : Nat), z2 = e - k → k ≤ e → j < e → zf_ff (al_ag pr rs ls bs w j) 0 e = zf_ff (al_ag pr rs ls bs w j) k (e - k) → zv_V Δ Γ (zv_QQ Δ Γ 0 0 (fun r hp1 sz1 => r = some (.int (nI (if w < 6 ∧ 0 < e then la_wt (al_ag pr rs ls bs w) e else 4294967294))) ∧ hp1 = hp ∧ sz1 = sz)) 37 [some (.ref x), some (.int (nI w)), some (.int (nI j)), some (.int (nI k))] [] hp sz 0 0 := by
        intro z2
        induction z2 using Nat.strongRecOn with
        | ind z2 ih2 =>
          intro k hz2 hk hje hK
          refine zv_iload_n F d_LA_witness_37 rfl ?_
          refine zv_aload_n F d_LA_witness_38 rfl ?_
          refine zv_get F d_LA_witness_39 (by assumption) k_LA 3 (Nat.le_of_ble_eq_true rfl) ln_LA_25 rfl (by rfl) ?_
          refine zv_getN F d_LA_witness_42 (by assumption) k_Al 4 (Nat.le_of_ble_eq_true rfl) ln_LA_85 rfl (by rfl) ?_
          refine zn_icmp_ge (tgt := 74) F d_LA_witness_45 rfl (by omega) (by omega) (fun h45 => ?_) (fun h45 => ?_)
          · refine zn_iinc F d_LA_witness_74 rfl ?_
            simp only [zv_s1, zv_s2, zv_kill, List.set_cons_zero, List.set_cons_succ, List.getElem?_cons_zero, List.getElem?_cons_succ]
            refine zv_goto (tgt := 24) F d_LA_witness_77 rfl ?_
            have e1 : zf_ff (al_ag pr rs ls bs w j) 0 e = e := by rw [hK, show e - k = 0 by omega]; simp only [zf_ff]; omega
            exact zv_weak (by repeat' (first | exact True.intro | refine And.intro rfl ?_)) (ih (e - (j + 1)) (by omega) (j + 1) rfl (by omega) hw6 he0 (by rw [hJ, zf_miss (decide_eq_false (by rw [e1]; omega)) (by omega)]; rfl))
          · refine zv_aload_n F d_LA_witness_48 rfl ?_
            refine zv_get F d_LA_witness_49 (by assumption) k_LA 3 (Nat.le_of_ble_eq_true rfl) ln_LA_25 rfl (by rfl) ?_
            refine zv_iload_n F d_LA_witness_52 rfl ?_
            refine zv_iload_n F d_LA_witness_53 rfl ?_
            refine zv_iload_n F d_LA_witness_54 rfl ?_
            refine zv_pV3 F rfl (by assumption) k_Al.1 d_LA_witness_55 (Al_isAgainst_ok f5 a6 a7 a8 a9 he hb hpr hw6 hje (by omega)) Y_Al_isAgainst Yi_Al_isAgainst Yv_Al_isAgainst ln_LA_113 ⟨(Nat.le_of_ble_eq_true rfl), (Nat.le_of_ble_eq_true rfl)⟩ (Nat.le_of_ble_eq_true rfl) ⟨(Nat.le_of_ble_eq_true rfl), (Nat.le_of_ble_eq_true rfl)⟩ ?_
            first | refine zn_bif_eq (tgt := 68) F d_LA_witness_58 rfl (fun h58 => ?_) (fun h58 => ?_) | refine zn_if_eq (tgt := 68) F d_LA_witness_58 rfl (by omega) (fun h58 => ?_) (fun h58 => ?_)
            · refine zn_iinc F d_LA_witness_68 rfl ?_
              simp only [zv_s1, zv_s2, zv_kill, List.set_cons_zero, List.set_cons_succ, List.getElem?_cons_zero, List.getElem?_cons_succ]
              refine zv_goto (tgt := 37) F d_LA_witness_71 rfl ?_
              exact zv_weak (by repeat' (first | exact True.intro | refine And.intro rfl ?_)) (ih2 (e - (k + 1)) (by omega) (k + 1) rfl (by omega) hje (by rw [hK, zf_miss h58 (by omega)]; rfl))
            · refine zn_bipush (x := 64) F d_LA_witness_61 (by decide) ?_
              refine zv_iload_n F d_LA_witness_63 rfl ?_
              refine zn_imul F d_LA_witness_64 ?_
              refine zv_iload_n F d_LA_witness_65 rfl ?_
              refine zn_iadd F d_LA_witness_66 ?_
              exact zv_iret F d_LA_witness_67 (Nat.le_of_ble_eq_true rfl) (Nat.le_of_ble_eq_true rfl) ⟨zn_rt (by
                have e1 : zf_ff (al_ag pr rs ls bs w j) 0 e = k := by rw [hK, zf_hit h58 (by omega)]
                have e2 : zf_ff (la_J (al_ag pr rs ls bs w) e) 0 e = j := by rw [hJ, zf_hit (decide_eq_true (by rw [e1]; omega)) (by omega)]
                rw [if_pos ⟨hw6, he0⟩]
                unfold la_wt
                rw [e2, e1, if_pos hje]), rfl, rfl⟩
      refine zv_iload_n F d_LA_witness_24 rfl ?_
      refine zv_aload_n F d_LA_witness_25 rfl ?_
      refine zv_get F d_LA_witness_26 (by assumption) k_LA 3 (Nat.le_of_ble_eq_true rfl) ln_LA_25 rfl (by rfl) ?_
      refine zv_getN F d_LA_witness_29 (by assumption) k_Al 4 (Nat.le_of_ble_eq_true rfl) ln_LA_85 rfl (by rfl) ?_
      refine zn_icmp_ge (tgt := 80) F d_LA_witness_32 rfl (by omega) (by omega) (fun h32 => ?_) (fun h32 => ?_)
      · refine zn_iconst (x := 4294967295) F d_LA_witness_80 (by decide) ?_
        exact zv_iret F d_LA_witness_81 (Nat.le_of_ble_eq_true rfl) (Nat.le_of_ble_eq_true rfl) ⟨zn_rt (by
          have e1 : zf_ff (la_J (al_ag pr rs ls bs w) e) 0 e = e := by rw [hJ, show e - j = 0 by omega]; simp only [zf_ff]; omega
          rw [if_pos ⟨hw6, he0⟩]
          unfold la_wt
          rw [e1, if_neg (Nat.lt_irrefl _)]), rfl, rfl⟩
      · refine zn_iconst (x := 0) F d_LA_witness_35 (by decide) ?_
        refine zv_istore_n F d_LA_witness_36 (Nat.le_of_ble_eq_true rfl) ?_
        simp only [zv_s1, zv_s2, zv_kill, List.set_cons_zero, List.set_cons_succ, List.getElem?_cons_zero, List.getElem?_cons_succ]
        exact zv_weak (by repeat' (first | exact True.intro | refine And.intro rfl ?_)) (inner _ 0 rfl (Nat.zero_le _) (by omega) (by rw [Nat.sub_zero]))
  refine zv_iload_n F d_LA_witness_0 rfl ?_
  refine zn_if_lt (tgt := 19) F d_LA_witness_1 rfl (by omega) (fun h1 => ?_) (fun h1 => ?_)
  · refine zn_bipush (x := 4294967294) F d_LA_witness_19 (by decide) ?_
    exact zv_iret F d_LA_witness_21 (Nat.le_of_ble_eq_true rfl) (Nat.le_of_ble_eq_true rfl) ⟨zn_rt (by rw [if_neg (by omega)]), rfl, rfl⟩
  · refine zv_iload_n F d_LA_witness_4 rfl ?_
    refine zn_iconst (x := 5) F d_LA_witness_5 (by decide) ?_
    refine zn_icmp_gt (tgt := 19) F d_LA_witness_6 rfl (by omega) (by omega) (fun h6 => ?_) (fun h6 => ?_)
    · refine zn_bipush (x := 4294967294) F d_LA_witness_19 (by decide) ?_
      exact zv_iret F d_LA_witness_21 (Nat.le_of_ble_eq_true rfl) (Nat.le_of_ble_eq_true rfl) ⟨zn_rt (by rw [if_neg (by omega)]), rfl, rfl⟩
    · refine zv_aload_n F d_LA_witness_9 rfl ?_
      refine zv_get F d_LA_witness_10 (by assumption) k_LA 3 (Nat.le_of_ble_eq_true rfl) ln_LA_25 rfl (by rfl) ?_
      refine zv_pV0 F rfl (by assumption) k_Al.1 d_LA_witness_13 (Al_isWorkedOut_ok f5 he) Y_Al_isWorkedOut Yi_Al_isWorkedOut Yv_Al_isWorkedOut ln_LA_86 ⟨(Nat.le_of_ble_eq_true rfl), (Nat.le_of_ble_eq_true rfl)⟩ (Nat.le_of_ble_eq_true rfl) ⟨(Nat.le_of_ble_eq_true rfl), (Nat.le_of_ble_eq_true rfl)⟩ ?_
      first | refine zn_bif_ne (tgt := 22) F d_LA_witness_16 rfl (fun h16 => ?_) (fun h16 => ?_) | refine zn_if_ne (tgt := 22) F d_LA_witness_16 rfl (by omega) (fun h16 => ?_) (fun h16 => ?_)
      · have h16 := of_decide_eq_true h16
        refine zn_iconst (x := 0) F d_LA_witness_22 (by decide) ?_
        refine zv_istore_n F d_LA_witness_23 (Nat.le_of_ble_eq_true rfl) ?_
        simp only [zv_s1, zv_s2, zv_kill, List.set_cons_zero, List.set_cons_succ, List.getElem?_cons_zero, List.getElem?_cons_succ]
        exact zv_weak (by repeat' (first | exact True.intro | refine And.intro rfl ?_)) (outer _ 0 rfl (Nat.zero_le _) (by omega) h16 (by rw [Nat.sub_zero]))
      · have h16 := of_decide_eq_false h16
        refine zn_bipush (x := 4294967294) F d_LA_witness_19 (by decide) ?_
        exact zv_iret F d_LA_witness_21 (Nat.le_of_ble_eq_true rfl) (Nat.le_of_ble_eq_true rfl) ⟨zn_rt (by rw [if_neg (by omega)]), rfl, rfl⟩

