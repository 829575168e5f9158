theorem mo_six {op fi se s0 cn : Nat} {gg gd : Nat → Nat} {δ : Nat → Nat → Nat} {ac : Nat → Bool} (h : mo_M op fi se gg gd δ ac s0 cn) : mo_M op fi se gg gd δ ac s0 cn := h
theorem Mo_chained_ok {l : Launch} {Δ : zv_D} {hp : zv_M} {sz : Nat} {y c op fi se st el x b : Nat} {gg gd : Nat → Nat} (f0 : hp y = some (mo_obj y c op fi se st el)) (f2 : hp (y + 2) = some (zn_I Δ 144 gg)) (f3 : hp (y + 3) = some (zn_I Δ 12 gd)) (hb : mo_b gg gd) (hf : fi < 12) (hs : se < 12) (hx : x < 384) (hl : b < 2) : zv_P l Δ 2 y_Mo_chained b_Mo_chained 5 ((some (FieldType.int))) [.ref y, .int (nI x), .int (nI b)] hp sz (.int (nI (pm_ch (gd fi) (mo_G gg fi) (mo_G gg se) 6 x b))) := by
  refine zv_E.intro (lv0 := [some (.ref y), some (.int (nI x)), some (.int (nI b)), none, none]) rfl (Nat.le_of_ble_eq_true rfl) rfl ?_
  intro Γ hl F
  clear hl
  have g6 : mo_G gg fi (2 * (x / 64) + b) < 6 := hb.1 _ (by omega)
  refine zv_aload_n F d_Mo_chained_0 rfl ?_
  refine zv_aload_n F d_Mo_chained_1 rfl ?_
  refine zv_get F d_Mo_chained_2 (by assumption) k_Mo 5 (Nat.le_of_ble_eq_true rfl) ln_Mo_62 rfl (by rfl) ?_
  refine zv_iload_n F d_Mo_chained_5 rfl ?_
  refine zn_bipush (x := 64) F d_Mo_chained_6 (by decide) ?_
  refine zn_idiv F d_Mo_chained_8 (by omega) (by omega) (by omega) ?_
  refine zv_iload_n F d_Mo_chained_9 rfl ?_
  refine zv_pV3 F rfl (by assumption) k_Mo.1 d_Mo_chained_10 (Mo_step_ok f0 f2 (by omega)) Y_Mo_step Yi_Mo_step Yv_Mo_step ln_Mo_55 ⟨(Nat.le_of_ble_eq_true rfl), (Nat.le_of_ble_eq_true rfl)⟩ (Nat.le_of_ble_eq_true rfl) ⟨(Nat.le_of_ble_eq_true rfl), (Nat.le_of_ble_eq_true rfl)⟩ ?_
  refine zv_istore_n F d_Mo_chained_13 (Nat.le_of_ble_eq_true rfl) ?_
  simp only [zv_s1, zv_s2, zv_kill, List.set_cons_zero, List.set_cons_succ, List.getElem?_cons_zero, List.getElem?_cons_succ]
  refine zv_aload_n F d_Mo_chained_14 rfl ?_
  refine zv_aload_n F d_Mo_chained_15 rfl ?_
  refine zv_get F d_Mo_chained_16 (by assumption) k_Mo 6 (Nat.le_of_ble_eq_true rfl) ln_Mo_69 rfl (by rfl) ?_
  refine zv_iload_n F d_Mo_chained_19 rfl ?_
  refine zn_bipush (x := 64) F d_Mo_chained_20 (by decide) ?_
  refine zn_irem F d_Mo_chained_22 (by omega) (by omega) (by omega) ?_
  refine zv_iload_n F d_Mo_chained_23 rfl ?_
  refine zv_pV3 F rfl (by assumption) k_Mo.1 d_Mo_chained_24 (Mo_image_ok f0 f2 hb.1 hs (by omega) hl) Y_Mo_image Yi_Mo_image Yv_Mo_image ln_Mo_72 ⟨(Nat.le_of_ble_eq_true rfl), (Nat.le_of_ble_eq_true rfl)⟩ (Nat.le_of_ble_eq_true rfl) ⟨(Nat.le_of_ble_eq_true rfl), (Nat.le_of_ble_eq_true rfl)⟩ ?_
  refine zv_istore F d_Mo_chained_27 (Nat.le_of_ble_eq_true rfl) ?_
  simp only [zv_s1, zv_s2, zv_kill, List.set_cons_zero, List.set_cons_succ, List.getElem?_cons_zero, List.getElem?_cons_succ]
  refine zn_bipush (x := 64) F d_Mo_chained_29 (by decide) ?_
  refine zv_iload_n F d_Mo_chained_31 rfl ?_
  refine zn_imul F d_Mo_chained_32 ?_
  refine zv_aload_n F d_Mo_chained_33 rfl ?_
  refine zv_aload_n F d_Mo_chained_34 rfl ?_
  refine zv_get F d_Mo_chained_35 (by assumption) k_Mo 5 (Nat.le_of_ble_eq_true rfl) ln_Mo_62 rfl (by rfl) ?_
  refine zv_iload_n F d_Mo_chained_38 rfl ?_
  refine zv_pV2 F rfl (by assumption) k_Mo.1 d_Mo_chained_39 (Mo_isGood_ok f0 f3 hf (hb.2 fi hf) (by omega)) Y_Mo_isGood Yi_Mo_isGood Yv_Mo_isGood ln_Mo_65 ⟨(Nat.le_of_ble_eq_true rfl), (Nat.le_of_ble_eq_true rfl)⟩ (Nat.le_of_ble_eq_true rfl) ⟨(Nat.le_of_ble_eq_true rfl), (Nat.le_of_ble_eq_true rfl)⟩ ?_
  first | refine zn_bif_eq (tgt := 52) F d_Mo_chained_42 rfl (fun h42 => ?_) (fun h42 => ?_) | refine zn_if_eq (tgt := 52) F d_Mo_chained_42 rfl (by omega) (fun h42 => ?_) (fun h42 => ?_)
  · refine zv_iload F d_Mo_chained_52 rfl ?_
    refine zn_iadd F d_Mo_chained_54 ?_
    exact zv_iret F d_Mo_chained_55 (Nat.le_of_ble_eq_true rfl) (Nat.le_of_ble_eq_true rfl) ⟨zn_rt (by unfold pm_ch pm_of; first | rw [if_pos (of_decide_eq_true h42)] | rw [if_neg (of_decide_eq_false h42)]), rfl, rfl⟩
  · refine zv_iload F d_Mo_chained_45 rfl ?_
    refine zn_iconst (x := 1) F d_Mo_chained_47 (by decide) ?_
    refine zn_ior F d_Mo_chained_48 ?_
    refine zv_goto (tgt := 54) F d_Mo_chained_49 rfl ?_
    refine zn_iadd F d_Mo_chained_54 ?_
    exact zv_iret F d_Mo_chained_55 (Nat.le_of_ble_eq_true rfl) (Nat.le_of_ble_eq_true rfl) ⟨zn_rt (by unfold pm_ch pm_of; first | rw [if_pos (of_decide_eq_true h42)] | rw [if_neg (of_decide_eq_false h42)]), rfl, rfl⟩
theorem Mo_starred_ok {l : Launch} {Δ : zv_D} {hp : zv_M} {sz : Nat} {y c op fi se st el x b : Nat} {gg gd : Nat → Nat} (f0 : hp y = some (mo_obj y c op fi se st el)) (f2 : hp (y + 2) = some (zn_I Δ 144 gg)) (f3 : hp (y + 3) = some (zn_I Δ 12 gd)) (hb : mo_b gg gd) (hf : fi < 12) (hx : x < 65) (hl : b < 2) : zv_P l Δ 2 y_Mo_starred b_Mo_starred 4 ((some (FieldType.int))) [.ref y, .int (nI x), .int (nI b)] hp sz (.int (nI (pm_st (gd fi) (mo_G gg fi) 6 x b))) := by
  refine zv_E.intro (lv0 := [some (.ref y), some (.int (nI x)), some (.int (nI b)), none]) rfl (Nat.le_of_ble_eq_true rfl) rfl ?_
  intro Γ hl F
  clear hl
  have g6 := hb.2 fi hf
  refine zv_aload_n F d_Mo_starred_0 rfl ?_
  refine zv_aload_n F d_Mo_starred_1 rfl ?_
  refine zv_get F d_Mo_starred_2 (by assumption) k_Mo 5 (Nat.le_of_ble_eq_true rfl) ln_Mo_62 rfl (by rfl) ?_
  refine zv_iload_n F d_Mo_starred_5 rfl ?_
  refine zn_bipush (x := 64) F d_Mo_starred_6 (by decide) ?_
  refine zn_icmp_ne (tgt := 15) F d_Mo_starred_8 rfl (by omega) (by omega) (fun h8 => ?_) (fun h8 => ?_)
  · have es : (if x = 64 then 1 else x) = x := if_neg h8
    refine zv_iload_n F d_Mo_starred_15 rfl ?_
    refine zv_iload_n F d_Mo_starred_16 rfl ?_
    refine zv_pV3 F rfl (by assumption) k_Mo.1 d_Mo_starred_17 (Mo_image_ok f0 f2 hb.1 hf (by omega) hl) Y_Mo_image Yi_Mo_image Yv_Mo_image ln_Mo_72 ⟨(Nat.le_of_ble_eq_true rfl), (Nat.le_of_ble_eq_true rfl)⟩ (Nat.le_of_ble_eq_true rfl) ⟨(Nat.le_of_ble_eq_true rfl), (Nat.le_of_ble_eq_true rfl)⟩ ?_
    refine zv_istore_n F d_Mo_starred_20 (Nat.le_of_ble_eq_true rfl) ?_
    simp only [zv_s1, zv_s2, zv_kill, List.set_cons_zero, List.set_cons_succ, List.getElem?_cons_zero, List.getElem?_cons_succ]
    refine zv_iload_n F d_Mo_starred_21 rfl ?_
    refine zv_aload_n F d_Mo_starred_22 rfl ?_
    refine zv_get F d_Mo_starred_23 (by assumption) k_Mo 3 (Nat.le_of_ble_eq_true rfl) ln_Mo_16 rfl (by rfl) ?_
    refine zv_aload_n F d_Mo_starred_26 rfl ?_
    refine zv_get F d_Mo_starred_27 (by assumption) k_Mo 5 (Nat.le_of_ble_eq_true rfl) ln_Mo_62 rfl (by rfl) ?_
    refine zn_iald F d_Mo_starred_30 (by assumption) (by omega) (by omega) ?_
    refine zn_iand F d_Mo_starred_31 ?_
    rw [Nat.and_comm]
    have hab : ∀ z, gd fi &&& z ≤ gd fi := fun z => Nat.and_le_left
    have hab2 := hab (au_ss (mo_G gg fi) (if x = 64 then 1 else x) b 6)
    rw [es] at hab2
    first | refine zn_bif_eq (tgt := 41) F d_Mo_starred_32 rfl (fun h32 => ?_) (fun h32 => ?_) | refine zn_if_eq (tgt := 41) F d_Mo_starred_32 rfl (by omega) (fun h32 => ?_) (fun h32 => ?_)
    · refine zv_iload_n F d_Mo_starred_41 rfl ?_
      exact zv_iret F d_Mo_starred_42 (Nat.le_of_ble_eq_true rfl) (Nat.le_of_ble_eq_true rfl) ⟨zn_rt (by unfold pm_st pm_sf; rw [es]; first | rw [if_pos h32] | rw [if_neg (fun z => z h32)]), rfl, rfl⟩
    · refine zv_iload_n F d_Mo_starred_35 rfl ?_
      refine zn_iconst (x := 1) F d_Mo_starred_36 (by decide) ?_
      refine zn_ior F d_Mo_starred_37 ?_
      refine zv_goto (tgt := 42) F d_Mo_starred_38 rfl ?_
      exact zv_iret F d_Mo_starred_42 (Nat.le_of_ble_eq_true rfl) (Nat.le_of_ble_eq_true rfl) ⟨zn_rt (by unfold pm_st pm_sf; rw [es]; first | rw [if_pos h32] | rw [if_neg (fun z => z h32)]), rfl, rfl⟩
  · have es : (if x = 64 then 1 else x) = 1 := if_pos h8
    refine zn_iconst (x := 1) F d_Mo_starred_11 (by decide) ?_
    refine zv_goto (tgt := 16) F d_Mo_starred_12 rfl ?_
    refine zv_iload_n F d_Mo_starred_16 rfl ?_
    refine zv_pV3 F rfl (by assumption) k_Mo.1 d_Mo_starred_17 (Mo_image_ok f0 f2 hb.1 hf (by omega) hl) Y_Mo_image Yi_Mo_image Yv_Mo_image ln_Mo_72 ⟨(Nat.le_of_ble_eq_true rfl), (Nat.le_of_ble_eq_true rfl)⟩ (Nat.le_of_ble_eq_true rfl) ⟨(Nat.le_of_ble_eq_true rfl), (Nat.le_of_ble_eq_true rfl)⟩ ?_
    refine zv_istore_n F d_Mo_starred_20 (Nat.le_of_ble_eq_true rfl) ?_
    simp only [zv_s1, zv_s2, zv_kill, List.set_cons_zero, List.set_cons_succ, List.getElem?_cons_zero, List.getElem?_cons_succ]
    refine zv_iload_n F d_Mo_starred_21 rfl ?_
    refine zv_aload_n F d_Mo_starred_22 rfl ?_
    refine zv_get F d_Mo_starred_23 (by assumption) k_Mo 3 (Nat.le_of_ble_eq_true rfl) ln_Mo_16 rfl (by rfl) ?_
    refine zv_aload_n F d_Mo_starred_26 rfl ?_
    refine zv_get F d_Mo_starred_27 (by assumption) k_Mo 5 (Nat.le_of_ble_eq_true rfl) ln_Mo_62 rfl (by rfl) ?_
    refine zn_iald F d_Mo_starred_30 (by assumption) (by omega) (by omega) ?_
    refine zn_iand F d_Mo_starred_31 ?_
    rw [Nat.and_comm]
    have hab : ∀ z, gd fi &&& z ≤ gd fi := fun z => Nat.and_le_left
    have hab2 := hab (au_ss (mo_G gg fi) (if x = 64 then 1 else x) b 6)
    rw [es] at hab2
    first | refine zn_bif_eq (tgt := 41) F d_Mo_starred_32 rfl (fun h32 => ?_) (fun h32 => ?_) | refine zn_if_eq (tgt := 41) F d_Mo_starred_32 rfl (by omega) (fun h32 => ?_) (fun h32 => ?_)
    · refine zv_iload_n F d_Mo_starred_41 rfl ?_
      exact zv_iret F d_Mo_starred_42 (Nat.le_of_ble_eq_true rfl) (Nat.le_of_ble_eq_true rfl) ⟨zn_rt (by unfold pm_st pm_sf; rw [es]; first | rw [if_pos h32] | rw [if_neg (fun z => z h32)]), rfl, rfl⟩
    · refine zv_iload_n F d_Mo_starred_35 rfl ?_
      refine zn_iconst (x := 1) F d_Mo_starred_36 (by decide) ?_
      refine zn_ior F d_Mo_starred_37 ?_
      refine zv_goto (tgt := 42) F d_Mo_starred_38 rfl ?_
      exact zv_iret F d_Mo_starred_42 (Nat.le_of_ble_eq_true rfl) (Nat.le_of_ble_eq_true rfl) ⟨zn_rt (by unfold pm_st pm_sf; rw [es]; first | rw [if_pos h32] | rw [if_neg (fun z => z h32)]), rfl, rfl⟩
theorem Mo_startCode_ok {l : Launch} {Δ : zv_D} {hp : zv_M} {sz : Nat} {y c op fi se st el s0 cn : Nat} {gg gd : Nat → Nat} {δ : Nat → Nat → Nat} {ac : Nat → Bool} (f0 : hp y = some (mo_obj y c op fi se st el)) (f2 : hp (y + 2) = some (zn_I Δ 144 gg)) (f3 : hp (y + 3) = some (zn_I Δ 12 gd)) (hM : mo_M op fi se gg gd δ ac s0 cn) (hb : mo_b gg gd) : zv_P l Δ 3 y_Mo_startCode b_Mo_startCode 1 ((some (FieldType.int))) [.ref y] hp sz (.int (nI s0)) := by
  refine zv_E.intro (lv0 := [some (.ref y)]) rfl (Nat.le_of_ble_eq_true rfl) rfl ?_
  intro Γ hl F
  clear hl
  rcases hM with ⟨rfl, h1, rfl, rfl, rfl, rfl⟩ | ⟨rfl, h1, rfl, rfl, rfl, rfl⟩ | ⟨rfl, h1, rfl, rfl, rfl, rfl⟩ | ⟨rfl, h1, rfl, rfl, rfl, rfl⟩ | ⟨rfl, h1, rfl, rfl, rfl, rfl⟩ | ⟨rfl, h1, rfl, rfl, rfl, rfl⟩
  · skip
    refine zv_aload_n F d_Mo_startCode_0 rfl ?_
    refine zv_get F d_Mo_startCode_1 (by assumption) k_Mo 4 (Nat.le_of_ble_eq_true rfl) ln_Mo_59 rfl (by rfl) ?_
    refine zn_iconst (x := 3) F d_Mo_startCode_4 (by decide) ?_
    refine zn_icmp_ne (tgt := 28) F d_Mo_startCode_5 rfl (by omega) (by omega) (fun h5 => ?_) (fun h5 => ?_)
    · skip
      refine zv_aload_n F d_Mo_startCode_28 rfl ?_
      refine zv_get F d_Mo_startCode_29 (by assumption) k_Mo 4 (Nat.le_of_ble_eq_true rfl) ln_Mo_59 rfl (by rfl) ?_
      refine zn_iconst (x := 4) F d_Mo_startCode_32 (by decide) ?_
      refine zn_icmp_ne (tgt := 41) F d_Mo_startCode_33 rfl (by omega) (by omega) (fun h33 => ?_) (fun h33 => ?_)
      · skip
        refine zn_iconst (x := 0) F d_Mo_startCode_41 (by decide) ?_
        exact zv_iret F d_Mo_startCode_42 (Nat.le_of_ble_eq_true rfl) (Nat.le_of_ble_eq_true rfl) ⟨rfl, rfl, rfl⟩
      · exact absurd h33 (by decide)
    · exact absurd h5 (by decide)
  · skip
    refine zv_aload_n F d_Mo_startCode_0 rfl ?_
    refine zv_get F d_Mo_startCode_1 (by assumption) k_Mo 4 (Nat.le_of_ble_eq_true rfl) ln_Mo_59 rfl (by rfl) ?_
    refine zn_iconst (x := 3) F d_Mo_startCode_4 (by decide) ?_
    refine zn_icmp_ne (tgt := 28) F d_Mo_startCode_5 rfl (by omega) (by omega) (fun h5 => ?_) (fun h5 => ?_)
    · skip
      refine zv_aload_n F d_Mo_startCode_28 rfl ?_
      refine zv_get F d_Mo_startCode_29 (by assumption) k_Mo 4 (Nat.le_of_ble_eq_true rfl) ln_Mo_59 rfl (by rfl) ?_
      refine zn_iconst (x := 4) F d_Mo_startCode_32 (by decide) ?_
      refine zn_icmp_ne (tgt := 41) F d_Mo_startCode_33 rfl (by omega) (by omega) (fun h33 => ?_) (fun h33 => ?_)
      · skip
        refine zn_iconst (x := 0) F d_Mo_startCode_41 (by decide) ?_
        exact zv_iret F d_Mo_startCode_42 (Nat.le_of_ble_eq_true rfl) (Nat.le_of_ble_eq_true rfl) ⟨rfl, rfl, rfl⟩
      · exact absurd h33 (by decide)
    · exact absurd h5 (by decide)
  · skip
    refine zv_aload_n F d_Mo_startCode_0 rfl ?_
    refine zv_get F d_Mo_startCode_1 (by assumption) k_Mo 4 (Nat.le_of_ble_eq_true rfl) ln_Mo_59 rfl (by rfl) ?_
    refine zn_iconst (x := 3) F d_Mo_startCode_4 (by decide) ?_
    refine zn_icmp_ne (tgt := 28) F d_Mo_startCode_5 rfl (by omega) (by omega) (fun h5 => ?_) (fun h5 => ?_)
    · skip
      refine zv_aload_n F d_Mo_startCode_28 rfl ?_
      refine zv_get F d_Mo_startCode_29 (by assumption) k_Mo 4 (Nat.le_of_ble_eq_true rfl) ln_Mo_59 rfl (by rfl) ?_
      refine zn_iconst (x := 4) F d_Mo_startCode_32 (by decide) ?_
      refine zn_icmp_ne (tgt := 41) F d_Mo_startCode_33 rfl (by omega) (by omega) (fun h33 => ?_) (fun h33 => ?_)
      · skip
        refine zn_iconst (x := 0) F d_Mo_startCode_41 (by decide) ?_
        exact zv_iret F d_Mo_startCode_42 (Nat.le_of_ble_eq_true rfl) (Nat.le_of_ble_eq_true rfl) ⟨rfl, rfl, rfl⟩
      · exact absurd h33 (by decide)
    · exact absurd h5 (by decide)
  · skip
    refine zv_aload_n F d_Mo_startCode_0 rfl ?_
    refine zv_get F d_Mo_startCode_1 (by assumption) k_Mo 4 (Nat.le_of_ble_eq_true rfl) ln_Mo_59 rfl (by rfl) ?_
    refine zn_iconst (x := 3) F d_Mo_startCode_4 (by decide) ?_
    refine zn_icmp_ne (tgt := 28) F d_Mo_startCode_5 rfl (by omega) (by omega) (fun h5 => ?_) (fun h5 => ?_)
    · exact absurd rfl h5
    · skip
      refine zv_aload_n F d_Mo_startCode_8 rfl ?_
      refine zv_aload_n F d_Mo_startCode_9 rfl ?_
      refine zv_get F d_Mo_startCode_10 (by assumption) k_Mo 5 (Nat.le_of_ble_eq_true rfl) ln_Mo_62 rfl (by rfl) ?_
      refine zn_iconst (x := 0) F d_Mo_startCode_13 (by decide) ?_
      refine zv_pV2 F rfl (by assumption) k_Mo.1 d_Mo_startCode_14 (Mo_isGood_ok f0 f3 h1.1 (hb.2 fi h1.1) (by decide)) Y_Mo_isGood Yi_Mo_isGood Yv_Mo_isGood ln_Mo_65 ⟨(Nat.le_of_ble_eq_true rfl), (Nat.le_of_ble_eq_true rfl)⟩ (Nat.le_of_ble_eq_true rfl) ⟨(Nat.le_of_ble_eq_true rfl), (Nat.le_of_ble_eq_true rfl)⟩ ?_
      first | refine zn_bif_eq (tgt := 24) F d_Mo_startCode_17 rfl (fun h17 => ?_) (fun h17 => ?_) | refine zn_if_eq (tgt := 24) F d_Mo_startCode_17 rfl (by omega) (fun h17 => ?_) (fun h17 => ?_)
      · refine zn_iconst (x := 0) F d_Mo_startCode_24 (by decide) ?_
        refine zv_goto (tgt := 42) F d_Mo_startCode_25 rfl ?_
        exact zv_iret F d_Mo_startCode_42 (Nat.le_of_ble_eq_true rfl) (Nat.le_of_ble_eq_true rfl) ⟨zn_rt (by unfold pm_of; (first | rw [if_pos (of_decide_eq_true h17)] | rw [if_neg (of_decide_eq_false h17)]) <;> decide), rfl, rfl⟩
      · refine zn_iconst (x := 1) F d_Mo_startCode_20 (by decide) ?_
        refine zv_goto (tgt := 42) F d_Mo_startCode_21 rfl ?_
        exact zv_iret F d_Mo_startCode_42 (Nat.le_of_ble_eq_true rfl) (Nat.le_of_ble_eq_true rfl) ⟨zn_rt (by unfold pm_of; (first | rw [if_pos (of_decide_eq_true h17)] | rw [if_neg (of_decide_eq_false h17)]) <;> decide), rfl, rfl⟩
  · skip
    refine zv_aload_n F d_Mo_startCode_0 rfl ?_
    refine zv_get F d_Mo_startCode_1 (by assumption) k_Mo 4 (Nat.le_of_ble_eq_true rfl) ln_Mo_59 rfl (by rfl) ?_
    refine zn_iconst (x := 3) F d_Mo_startCode_4 (by decide) ?_
    refine zn_icmp_ne (tgt := 28) F d_Mo_startCode_5 rfl (by omega) (by omega) (fun h5 => ?_) (fun h5 => ?_)
    · skip
      refine zv_aload_n F d_Mo_startCode_28 rfl ?_
      refine zv_get F d_Mo_startCode_29 (by assumption) k_Mo 4 (Nat.le_of_ble_eq_true rfl) ln_Mo_59 rfl (by rfl) ?_
      refine zn_iconst (x := 4) F d_Mo_startCode_32 (by decide) ?_
      refine zn_icmp_ne (tgt := 41) F d_Mo_startCode_33 rfl (by omega) (by omega) (fun h33 => ?_) (fun h33 => ?_)
      · exact absurd rfl h33
      · skip
        refine zn_bipush (x := 64) F d_Mo_startCode_36 (by decide) ?_
        refine zv_goto (tgt := 42) F d_Mo_startCode_38 rfl ?_
        exact zv_iret F d_Mo_startCode_42 (Nat.le_of_ble_eq_true rfl) (Nat.le_of_ble_eq_true rfl) ⟨rfl, rfl, rfl⟩
    · exact absurd h5 (by decide)
  · skip
    refine zv_aload_n F d_Mo_startCode_0 rfl ?_
    refine zv_get F d_Mo_startCode_1 (by assumption) k_Mo 4 (Nat.le_of_ble_eq_true rfl) ln_Mo_59 rfl (by rfl) ?_
    refine zn_iconst (x := 3) F d_Mo_startCode_4 (by decide) ?_
    refine zn_icmp_ne (tgt := 28) F d_Mo_startCode_5 rfl (by omega) (by omega) (fun h5 => ?_) (fun h5 => ?_)
    · skip
      refine zv_aload_n F d_Mo_startCode_28 rfl ?_
      refine zv_get F d_Mo_startCode_29 (by assumption) k_Mo 4 (Nat.le_of_ble_eq_true rfl) ln_Mo_59 rfl (by rfl) ?_
      refine zn_iconst (x := 4) F d_Mo_startCode_32 (by decide) ?_
      refine zn_icmp_ne (tgt := 41) F d_Mo_startCode_33 rfl (by omega) (by omega) (fun h33 => ?_) (fun h33 => ?_)
      · skip
        refine zn_iconst (x := 0) F d_Mo_startCode_41 (by decide) ?_
        exact zv_iret F d_Mo_startCode_42 (Nat.le_of_ble_eq_true rfl) (Nat.le_of_ble_eq_true rfl) ⟨rfl, rfl, rfl⟩
      · exact absurd h33 (by decide)
    · exact absurd h5 (by decide)
theorem Mo_codes_ok {l : Launch} {Δ : zv_D} {hp : zv_M} {sz : Nat} {y c op fi se st el s0 cn : Nat} {gg gd : Nat → Nat} {δ : Nat → Nat → Nat} {ac : Nat → Bool} (f0 : hp y = some (mo_obj y c op fi se st el)) (f2 : hp (y + 2) = some (zn_I Δ 144 gg)) (f3 : hp (y + 3) = some (zn_I Δ 12 gd)) (hM : mo_M op fi se gg gd δ ac s0 cn) (hb : mo_b gg gd) : zv_P l Δ 3 y_Mo_codes b_Mo_codes 1 ((some (FieldType.int))) [.ref y] hp sz (.int (nI cn)) := by
  refine zv_E.intro (lv0 := [some (.ref y)]) rfl (Nat.le_of_ble_eq_true rfl) rfl ?_
  intro Γ hl F
  clear hl
  rcases hM with ⟨rfl, h1, rfl, rfl, rfl, rfl⟩ | ⟨rfl, h1, rfl, rfl, rfl, rfl⟩ | ⟨rfl, h1, rfl, rfl, rfl, rfl⟩ | ⟨rfl, h1, rfl, rfl, rfl, rfl⟩ | ⟨rfl, h1, rfl, rfl, rfl, rfl⟩ | ⟨rfl, h1, rfl, rfl, rfl, rfl⟩
  · skip
    refine zv_aload_n F d_Mo_codes_0 rfl ?_
    refine zv_get F d_Mo_codes_1 (by assumption) k_Mo 4 (Nat.le_of_ble_eq_true rfl) ln_Mo_59 rfl (by rfl) ?_
    first | refine zn_bif_ne (tgt := 11) F d_Mo_codes_4 rfl (fun h4 => ?_) (fun h4 => ?_) | refine zn_if_ne (tgt := 11) F d_Mo_codes_4 rfl (by omega) (fun h4 => ?_) (fun h4 => ?_)
    · exact absurd rfl h4
    · refine zn_iconst (x := 3) F d_Mo_codes_7 (by decide) ?_
      refine zv_goto (tgt := 61) F d_Mo_codes_8 rfl ?_
      exact zv_iret F d_Mo_codes_61 (Nat.le_of_ble_eq_true rfl) (Nat.le_of_ble_eq_true rfl) ⟨rfl, rfl, rfl⟩
  · skip
    refine zv_aload_n F d_Mo_codes_0 rfl ?_
    refine zv_get F d_Mo_codes_1 (by assumption) k_Mo 4 (Nat.le_of_ble_eq_true rfl) ln_Mo_59 rfl (by rfl) ?_
    first | refine zn_bif_ne (tgt := 11) F d_Mo_codes_4 rfl (fun h4 => ?_) (fun h4 => ?_) | refine zn_if_ne (tgt := 11) F d_Mo_codes_4 rfl (by omega) (fun h4 => ?_) (fun h4 => ?_)
    · refine zv_aload_n F d_Mo_codes_11 rfl ?_
      refine zv_get F d_Mo_codes_12 (by assumption) k_Mo 4 (Nat.le_of_ble_eq_true rfl) ln_Mo_59 rfl (by rfl) ?_
      refine zn_iconst (x := 1) F d_Mo_codes_15 (by decide) ?_
      refine zn_icmp_eq (tgt := 27) F d_Mo_codes_16 rfl (by omega) (by omega) (fun h16 => ?_) (fun h16 => ?_)
      · refine zn_bipush (x := 36) F d_Mo_codes_27 (by decide) ?_
        refine zv_goto (tgt := 61) F d_Mo_codes_29 rfl ?_
        exact zv_iret F d_Mo_codes_61 (Nat.le_of_ble_eq_true rfl) (Nat.le_of_ble_eq_true rfl) ⟨rfl, rfl, rfl⟩
      · exact absurd rfl h16
    · exact absurd h4 (by decide)
  · skip
    refine zv_aload_n F d_Mo_codes_0 rfl ?_
    refine zv_get F d_Mo_codes_1 (by assumption) k_Mo 4 (Nat.le_of_ble_eq_true rfl) ln_Mo_59 rfl (by rfl) ?_
    first | refine zn_bif_ne (tgt := 11) F d_Mo_codes_4 rfl (fun h4 => ?_) (fun h4 => ?_) | refine zn_if_ne (tgt := 11) F d_Mo_codes_4 rfl (by omega) (fun h4 => ?_) (fun h4 => ?_)
    · refine zv_aload_n F d_Mo_codes_11 rfl ?_
      refine zv_get F d_Mo_codes_12 (by assumption) k_Mo 4 (Nat.le_of_ble_eq_true rfl) ln_Mo_59 rfl (by rfl) ?_
      refine zn_iconst (x := 1) F d_Mo_codes_15 (by decide) ?_
      refine zn_icmp_eq (tgt := 27) F d_Mo_codes_16 rfl (by omega) (by omega) (fun h16 => ?_) (fun h16 => ?_)
      · exact absurd h16 (by decide)
      · refine zv_aload_n F d_Mo_codes_19 rfl ?_
        refine zv_get F d_Mo_codes_20 (by assumption) k_Mo 4 (Nat.le_of_ble_eq_true rfl) ln_Mo_59 rfl (by rfl) ?_
        refine zn_iconst (x := 2) F d_Mo_codes_23 (by decide) ?_
        refine zn_icmp_ne (tgt := 32) F d_Mo_codes_24 rfl (by omega) (by omega) (fun h24 => ?_) (fun h24 => ?_)
        · exact absurd rfl h24
        · refine zn_bipush (x := 36) F d_Mo_codes_27 (by decide) ?_
          refine zv_goto (tgt := 61) F d_Mo_codes_29 rfl ?_
          exact zv_iret F d_Mo_codes_61 (Nat.le_of_ble_eq_true rfl) (Nat.le_of_ble_eq_true rfl) ⟨rfl, rfl, rfl⟩
    · exact absurd h4 (by decide)
  · skip
    refine zv_aload_n F d_Mo_codes_0 rfl ?_
    refine zv_get F d_Mo_codes_1 (by assumption) k_Mo 4 (Nat.le_of_ble_eq_true rfl) ln_Mo_59 rfl (by rfl) ?_
    first | refine zn_bif_ne (tgt := 11) F d_Mo_codes_4 rfl (fun h4 => ?_) (fun h4 => ?_) | refine zn_if_ne (tgt := 11) F d_Mo_codes_4 rfl (by omega) (fun h4 => ?_) (fun h4 => ?_)
    · refine zv_aload_n F d_Mo_codes_11 rfl ?_
      refine zv_get F d_Mo_codes_12 (by assumption) k_Mo 4 (Nat.le_of_ble_eq_true rfl) ln_Mo_59 rfl (by rfl) ?_
      refine zn_iconst (x := 1) F d_Mo_codes_15 (by decide) ?_
      refine zn_icmp_eq (tgt := 27) F d_Mo_codes_16 rfl (by omega) (by omega) (fun h16 => ?_) (fun h16 => ?_)
      · exact absurd h16 (by decide)
      · refine zv_aload_n F d_Mo_codes_19 rfl ?_
        refine zv_get F d_Mo_codes_20 (by assumption) k_Mo 4 (Nat.le_of_ble_eq_true rfl) ln_Mo_59 rfl (by rfl) ?_
        refine zn_iconst (x := 2) F d_Mo_codes_23 (by decide) ?_
        refine zn_icmp_ne (tgt := 32) F d_Mo_codes_24 rfl (by omega) (by omega) (fun h24 => ?_) (fun h24 => ?_)
        · refine zv_aload_n F d_Mo_codes_32 rfl ?_
          refine zv_get F d_Mo_codes_33 (by assumption) k_Mo 4 (Nat.le_of_ble_eq_true rfl) ln_Mo_59 rfl (by rfl) ?_
          refine zn_iconst (x := 3) F d_Mo_codes_36 (by decide) ?_
          refine zn_icmp_ne (tgt := 46) F d_Mo_codes_37 rfl (by omega) (by omega) (fun h37 => ?_) (fun h37 => ?_)
          · exact absurd rfl h37
          · refine zn_sipush (x := 384) F d_Mo_codes_40 (by decide) ?_
            refine zv_goto (tgt := 61) F d_Mo_codes_43 rfl ?_
            exact zv_iret F d_Mo_codes_61 (Nat.le_of_ble_eq_true rfl) (Nat.le_of_ble_eq_true rfl) ⟨rfl, rfl, rfl⟩
        · exact absurd h24 (by decide)
    · exact absurd h4 (by decide)
  · skip
    refine zv_aload_n F d_Mo_codes_0 rfl ?_
    refine zv_get F d_Mo_codes_1 (by assumption) k_Mo 4 (Nat.le_of_ble_eq_true rfl) ln_Mo_59 rfl (by rfl) ?_
    first | refine zn_bif_ne (tgt := 11) F d_Mo_codes_4 rfl (fun h4 => ?_) (fun h4 => ?_) | refine zn_if_ne (tgt := 11) F d_Mo_codes_4 rfl (by omega) (fun h4 => ?_) (fun h4 => ?_)
    · refine zv_aload_n F d_Mo_codes_11 rfl ?_
      refine zv_get F d_Mo_codes_12 (by assumption) k_Mo 4 (Nat.le_of_ble_eq_true rfl) ln_Mo_59 rfl (by rfl) ?_
      refine zn_iconst (x := 1) F d_Mo_codes_15 (by decide) ?_
      refine zn_icmp_eq (tgt := 27) F d_Mo_codes_16 rfl (by omega) (by omega) (fun h16 => ?_) (fun h16 => ?_)
      · exact absurd h16 (by decide)
      · refine zv_aload_n F d_Mo_codes_19 rfl ?_
        refine zv_get F d_Mo_codes_20 (by assumption) k_Mo 4 (Nat.le_of_ble_eq_true rfl) ln_Mo_59 rfl (by rfl) ?_
        refine zn_iconst (x := 2) F d_Mo_codes_23 (by decide) ?_
        refine zn_icmp_ne (tgt := 32) F d_Mo_codes_24 rfl (by omega) (by omega) (fun h24 => ?_) (fun h24 => ?_)
        · refine zv_aload_n F d_Mo_codes_32 rfl ?_
          refine zv_get F d_Mo_codes_33 (by assumption) k_Mo 4 (Nat.le_of_ble_eq_true rfl) ln_Mo_59 rfl (by rfl) ?_
          refine zn_iconst (x := 3) F d_Mo_codes_36 (by decide) ?_
          refine zn_icmp_ne (tgt := 46) F d_Mo_codes_37 rfl (by omega) (by omega) (fun h37 => ?_) (fun h37 => ?_)
          · refine zv_aload_n F d_Mo_codes_46 rfl ?_
            refine zv_get F d_Mo_codes_47 (by assumption) k_Mo 4 (Nat.le_of_ble_eq_true rfl) ln_Mo_59 rfl (by rfl) ?_
            refine zn_iconst (x := 4) F d_Mo_codes_50 (by decide) ?_
            refine zn_icmp_ne (tgt := 59) F d_Mo_codes_51 rfl (by omega) (by omega) (fun h51 => ?_) (fun h51 => ?_)
            · exact absurd rfl h51
            · refine zn_bipush (x := 65) F d_Mo_codes_54 (by decide) ?_
              refine zv_goto (tgt := 61) F d_Mo_codes_56 rfl ?_
              exact zv_iret F d_Mo_codes_61 (Nat.le_of_ble_eq_true rfl) (Nat.le_of_ble_eq_true rfl) ⟨rfl, rfl, rfl⟩
          · exact absurd h37 (by decide)
        · exact absurd h24 (by decide)
    · exact absurd h4 (by decide)
  · skip
    refine zv_aload_n F d_Mo_codes_0 rfl ?_
    refine zv_get F d_Mo_codes_1 (by assumption) k_Mo 4 (Nat.le_of_ble_eq_true rfl) ln_Mo_59 rfl (by rfl) ?_
    first | refine zn_bif_ne (tgt := 11) F d_Mo_codes_4 rfl (fun h4 => ?_) (fun h4 => ?_) | refine zn_if_ne (tgt := 11) F d_Mo_codes_4 rfl (by omega) (fun h4 => ?_) (fun h4 => ?_)
    · refine zv_aload_n F d_Mo_codes_11 rfl ?_
      refine zv_get F d_Mo_codes_12 (by assumption) k_Mo 4 (Nat.le_of_ble_eq_true rfl) ln_Mo_59 rfl (by rfl) ?_
      refine zn_iconst (x := 1) F d_Mo_codes_15 (by decide) ?_
      refine zn_icmp_eq (tgt := 27) F d_Mo_codes_16 rfl (by omega) (by omega) (fun h16 => ?_) (fun h16 => ?_)
      · exact absurd h16 (by decide)
      · refine zv_aload_n F d_Mo_codes_19 rfl ?_
        refine zv_get F d_Mo_codes_20 (by assumption) k_Mo 4 (Nat.le_of_ble_eq_true rfl) ln_Mo_59 rfl (by rfl) ?_
        refine zn_iconst (x := 2) F d_Mo_codes_23 (by decide) ?_
        refine zn_icmp_ne (tgt := 32) F d_Mo_codes_24 rfl (by omega) (by omega) (fun h24 => ?_) (fun h24 => ?_)
        · refine zv_aload_n F d_Mo_codes_32 rfl ?_
          refine zv_get F d_Mo_codes_33 (by assumption) k_Mo 4 (Nat.le_of_ble_eq_true rfl) ln_Mo_59 rfl (by rfl) ?_
          refine zn_iconst (x := 3) F d_Mo_codes_36 (by decide) ?_
          refine zn_icmp_ne (tgt := 46) F d_Mo_codes_37 rfl (by omega) (by omega) (fun h37 => ?_) (fun h37 => ?_)
          · refine zv_aload_n F d_Mo_codes_46 rfl ?_
            refine zv_get F d_Mo_codes_47 (by assumption) k_Mo 4 (Nat.le_of_ble_eq_true rfl) ln_Mo_59 rfl (by rfl) ?_
            refine zn_iconst (x := 4) F d_Mo_codes_50 (by decide) ?_
            refine zn_icmp_ne (tgt := 59) F d_Mo_codes_51 rfl (by omega) (by omega) (fun h51 => ?_) (fun h51 => ?_)
            · refine zn_bipush (x := 6) F d_Mo_codes_59 (by decide) ?_
              exact zv_iret F d_Mo_codes_61 (Nat.le_of_ble_eq_true rfl) (Nat.le_of_ble_eq_true rfl) ⟨rfl, rfl, rfl⟩
            · exact absurd h51 (by decide)
          · exact absurd h37 (by decide)
        · exact absurd h24 (by decide)
    · exact absurd h4 (by decide)
theorem Mo_accepted_ok {l : Launch} {Δ : zv_D} {hp : zv_M} {sz : Nat} {y c op fi se st el s0 cn : Nat} {gg gd : Nat → Nat} {δ : Nat → Nat → Nat} {ac : Nat → Bool} (f0 : hp y = some (mo_obj y c op fi se st el)) (f2 : hp (y + 2) = some (zn_I Δ 144 gg)) (f3 : hp (y + 3) = some (zn_I Δ 12 gd)) (hM : mo_M op fi se gg gd δ ac s0 cn) (hb : mo_b gg gd) {x : Nat} (hx : x < cn) : zv_P l Δ 3 y_Mo_accepted b_Mo_accepted 2 ((some (FieldType.boolean))) [.ref y, .int (nI x)] hp sz (.int (nI (ac x).toNat)) := by
  refine zv_E.intro (lv0 := [some (.ref y), some (.int (nI x))]) rfl (Nat.le_of_ble_eq_true rfl) rfl ?_
  intro Γ hl F
  clear hl
  rcases hM with ⟨rfl, h1, rfl, rfl, rfl, rfl⟩ | ⟨rfl, h1, rfl, rfl, rfl, rfl⟩ | ⟨rfl, h1, rfl, rfl, rfl, rfl⟩ | ⟨rfl, h1, rfl, rfl, rfl, rfl⟩ | ⟨rfl, h1, rfl, rfl, rfl, rfl⟩ | ⟨rfl, h1, rfl, rfl, rfl, rfl⟩
  · skip
    unfold pm_baA
    refine zv_aload_n F d_Mo_accepted_0 rfl ?_
    refine zv_get F d_Mo_accepted_1 (by assumption) k_Mo 4 (Nat.le_of_ble_eq_true rfl) ln_Mo_59 rfl (by rfl) ?_
    refine zv_tableIn (tgt := 40) F d_Mo_accepted_4 (by decide) (by decide) (by rfl) rfl ?_
    refine zv_aload_n F d_Mo_accepted_40 rfl ?_
    refine zv_get F d_Mo_accepted_41 (by assumption) k_Mo 5 (Nat.le_of_ble_eq_true rfl) ln_Mo_62 rfl (by rfl) ?_
    refine zn_iconst (x := 2) F d_Mo_accepted_44 (by decide) ?_
    refine zn_icmp_ge (tgt := 61) F d_Mo_accepted_45 rfl (by omega) (by omega) (fun h45 => ?_) (fun h45 => ?_)
    · refine zv_aload_n F d_Mo_accepted_61 rfl ?_
      refine zv_get F d_Mo_accepted_62 (by assumption) k_Mo 5 (Nat.le_of_ble_eq_true rfl) ln_Mo_62 rfl (by rfl) ?_
      refine zn_iconst (x := 2) F d_Mo_accepted_65 (by decide) ?_
      refine zn_icmp_ne (tgt := 77) F d_Mo_accepted_66 rfl (by omega) (by omega) (fun h66 => ?_) (fun h66 => ?_)
      · refine zn_iconst (x := 0) F d_Mo_accepted_77 (by decide) ?_
        exact zv_zret F d_Mo_accepted_78 (Nat.le_of_ble_eq_true rfl) (Nat.le_of_ble_eq_true rfl) (by first | rfl | exact zn_nb _) (by first | exact ⟨zn_bt (decide_eq_true (by omega)), rfl, rfl⟩ | exact ⟨zn_bf (decide_eq_false (by omega)), rfl, rfl⟩)
      · refine zv_iload_n F d_Mo_accepted_69 rfl ?_
        first | refine zn_bif_ne (tgt := 77) F d_Mo_accepted_70 rfl (fun h70 => ?_) (fun h70 => ?_) | refine zn_if_ne (tgt := 77) F d_Mo_accepted_70 rfl (by omega) (fun h70 => ?_) (fun h70 => ?_)
        · refine zn_iconst (x := 0) F d_Mo_accepted_77 (by decide) ?_
          exact zv_zret F d_Mo_accepted_78 (Nat.le_of_ble_eq_true rfl) (Nat.le_of_ble_eq_true rfl) (by first | rfl | exact zn_nb _) (by first | exact ⟨zn_bt (decide_eq_true (by omega)), rfl, rfl⟩ | exact ⟨zn_bf (decide_eq_false (by omega)), rfl, rfl⟩)
        · refine zn_iconst (x := 1) F d_Mo_accepted_73 (by decide) ?_
          refine zv_goto (tgt := 78) F d_Mo_accepted_74 rfl ?_
          exact zv_zret F d_Mo_accepted_78 (Nat.le_of_ble_eq_true rfl) (Nat.le_of_ble_eq_true rfl) (by first | rfl | exact zn_nb _) (by first | exact ⟨zn_bt (decide_eq_true (by omega)), rfl, rfl⟩ | exact ⟨zn_bf (decide_eq_false (by omega)), rfl, rfl⟩)
    · refine zv_iload_n F d_Mo_accepted_48 rfl ?_
      refine zn_iconst (x := 1) F d_Mo_accepted_49 (by decide) ?_
      refine zn_icmp_ne (tgt := 57) F d_Mo_accepted_50 rfl (by omega) (by omega) (fun h50 => ?_) (fun h50 => ?_)
      · refine zn_iconst (x := 0) F d_Mo_accepted_57 (by decide) ?_
        refine zv_goto (tgt := 78) F d_Mo_accepted_58 rfl ?_
        exact zv_zret F d_Mo_accepted_78 (Nat.le_of_ble_eq_true rfl) (Nat.le_of_ble_eq_true rfl) (by first | rfl | exact zn_nb _) (by first | exact ⟨zn_bt (decide_eq_true (by omega)), rfl, rfl⟩ | exact ⟨zn_bf (decide_eq_false (by omega)), rfl, rfl⟩)
      · refine zn_iconst (x := 1) F d_Mo_accepted_53 (by decide) ?_
        refine zv_goto (tgt := 78) F d_Mo_accepted_54 rfl ?_
        exact zv_zret F d_Mo_accepted_78 (Nat.le_of_ble_eq_true rfl) (Nat.le_of_ble_eq_true rfl) (by first | rfl | exact zn_nb _) (by first | exact ⟨zn_bt (decide_eq_true (by omega)), rfl, rfl⟩ | exact ⟨zn_bf (decide_eq_false (by omega)), rfl, rfl⟩)
  · skip
    refine zv_aload_n F d_Mo_accepted_0 rfl ?_
    refine zv_get F d_Mo_accepted_1 (by assumption) k_Mo 4 (Nat.le_of_ble_eq_true rfl) ln_Mo_59 rfl (by rfl) ?_
    refine zv_tableIn (tgt := 79) F d_Mo_accepted_4 (by decide) (by decide) (by rfl) rfl ?_
    refine zv_aload_n F d_Mo_accepted_79 rfl ?_
    refine zv_aload_n F d_Mo_accepted_80 rfl ?_
    refine zv_get F d_Mo_accepted_81 (by assumption) k_Mo 5 (Nat.le_of_ble_eq_true rfl) ln_Mo_62 rfl (by rfl) ?_
    refine zv_iload_n F d_Mo_accepted_84 rfl ?_
    refine zn_bipush (x := 6) F d_Mo_accepted_85 (by decide) ?_
    refine zn_idiv F d_Mo_accepted_87 (by omega) (by omega) (by omega) ?_
    refine zv_pV2 F rfl (by assumption) k_Mo.1 d_Mo_accepted_88 (Mo_isGood_ok f0 f3 h1.1 (hb.2 fi h1.1) (by omega)) Y_Mo_isGood Yi_Mo_isGood Yv_Mo_isGood ln_Mo_65 ⟨(Nat.le_of_ble_eq_true rfl), (Nat.le_of_ble_eq_true rfl)⟩ (Nat.le_of_ble_eq_true rfl) ⟨(Nat.le_of_ble_eq_true rfl), (Nat.le_of_ble_eq_true rfl)⟩ ?_
    first | refine zn_bif_ne (tgt := 109) F d_Mo_accepted_91 rfl (fun h91 => ?_) (fun h91 => ?_) | refine zn_if_ne (tgt := 109) F d_Mo_accepted_91 rfl (by omega) (fun h91 => ?_) (fun h91 => ?_)
    · refine zn_iconst (x := 1) F d_Mo_accepted_109 (by decide) ?_
      refine zv_goto (tgt := 114) F d_Mo_accepted_110 rfl ?_
      exact zv_zret F d_Mo_accepted_114 (Nat.le_of_ble_eq_true rfl) (Nat.le_of_ble_eq_true rfl) (by first | rfl | exact zn_nb _) (by first | exact ⟨zn_bt (by simp [pm_paA, *]), rfl, rfl⟩ | exact ⟨zn_bf (by simp [pm_paA, *]), rfl, rfl⟩)
    · refine zv_aload_n F d_Mo_accepted_94 rfl ?_
      refine zv_aload_n F d_Mo_accepted_95 rfl ?_
      refine zv_get F d_Mo_accepted_96 (by assumption) k_Mo 6 (Nat.le_of_ble_eq_true rfl) ln_Mo_69 rfl (by rfl) ?_
      refine zv_iload_n F d_Mo_accepted_99 rfl ?_
      refine zn_bipush (x := 6) F d_Mo_accepted_100 (by decide) ?_
      refine zn_irem F d_Mo_accepted_102 (by omega) (by omega) (by omega) ?_
      refine zv_pV2 F rfl (by assumption) k_Mo.1 d_Mo_accepted_103 (Mo_isGood_ok f0 f3 h1.2 (hb.2 se h1.2) (by omega)) Y_Mo_isGood Yi_Mo_isGood Yv_Mo_isGood ln_Mo_65 ⟨(Nat.le_of_ble_eq_true rfl), (Nat.le_of_ble_eq_true rfl)⟩ (Nat.le_of_ble_eq_true rfl) ⟨(Nat.le_of_ble_eq_true rfl), (Nat.le_of_ble_eq_true rfl)⟩ ?_
      first | refine zn_bif_eq (tgt := 113) F d_Mo_accepted_106 rfl (fun h106 => ?_) (fun h106 => ?_) | refine zn_if_eq (tgt := 113) F d_Mo_accepted_106 rfl (by omega) (fun h106 => ?_) (fun h106 => ?_)
      · refine zn_iconst (x := 0) F d_Mo_accepted_113 (by decide) ?_
        exact zv_zret F d_Mo_accepted_114 (Nat.le_of_ble_eq_true rfl) (Nat.le_of_ble_eq_true rfl) (by first | rfl | exact zn_nb _) (by first | exact ⟨zn_bt (by simp [pm_paA, *]), rfl, rfl⟩ | exact ⟨zn_bf (by simp [pm_paA, *]), rfl, rfl⟩)
      · refine zn_iconst (x := 1) F d_Mo_accepted_109 (by decide) ?_
        refine zv_goto (tgt := 114) F d_Mo_accepted_110 rfl ?_
        exact zv_zret F d_Mo_accepted_114 (Nat.le_of_ble_eq_true rfl) (Nat.le_of_ble_eq_true rfl) (by first | rfl | exact zn_nb _) (by first | exact ⟨zn_bt (by simp [pm_paA, *]), rfl, rfl⟩ | exact ⟨zn_bf (by simp [pm_paA, *]), rfl, rfl⟩)
  · skip
    refine zv_aload_n F d_Mo_accepted_0 rfl ?_
    refine zv_get F d_Mo_accepted_1 (by assumption) k_Mo 4 (Nat.le_of_ble_eq_true rfl) ln_Mo_59 rfl (by rfl) ?_
    refine zv_tableIn (tgt := 115) F d_Mo_accepted_4 (by decide) (by decide) (by rfl) rfl ?_
    refine zv_aload_n F d_Mo_accepted_115 rfl ?_
    refine zv_aload_n F d_Mo_accepted_116 rfl ?_
    refine zv_get F d_Mo_accepted_117 (by assumption) k_Mo 5 (Nat.le_of_ble_eq_true rfl) ln_Mo_62 rfl (by rfl) ?_
    refine zv_iload_n F d_Mo_accepted_120 rfl ?_
    refine zn_bipush (x := 6) F d_Mo_accepted_121 (by decide) ?_
    refine zn_idiv F d_Mo_accepted_123 (by omega) (by omega) (by omega) ?_
    refine zv_pV2 F rfl (by assumption) k_Mo.1 d_Mo_accepted_124 (Mo_isGood_ok f0 f3 h1.1 (hb.2 fi h1.1) (by omega)) Y_Mo_isGood Yi_Mo_isGood Yv_Mo_isGood ln_Mo_65 ⟨(Nat.le_of_ble_eq_true rfl), (Nat.le_of_ble_eq_true rfl)⟩ (Nat.le_of_ble_eq_true rfl) ⟨(Nat.le_of_ble_eq_true rfl), (Nat.le_of_ble_eq_true rfl)⟩ ?_
    first | refine zn_bif_eq (tgt := 149) F d_Mo_accepted_127 rfl (fun h127 => ?_) (fun h127 => ?_) | refine zn_if_eq (tgt := 149) F d_Mo_accepted_127 rfl (by omega) (fun h127 => ?_) (fun h127 => ?_)
    · refine zn_iconst (x := 0) F d_Mo_accepted_149 (by decide) ?_
      exact zv_zret F d_Mo_accepted_150 (Nat.le_of_ble_eq_true rfl) (Nat.le_of_ble_eq_true rfl) (by first | rfl | exact zn_nb _) (by first | exact ⟨zn_bt (by simp [pm_paA, *]), rfl, rfl⟩ | exact ⟨zn_bf (by simp [pm_paA, *]), rfl, rfl⟩)
    · refine zv_aload_n F d_Mo_accepted_130 rfl ?_
      refine zv_aload_n F d_Mo_accepted_131 rfl ?_
      refine zv_get F d_Mo_accepted_132 (by assumption) k_Mo 6 (Nat.le_of_ble_eq_true rfl) ln_Mo_69 rfl (by rfl) ?_
      refine zv_iload_n F d_Mo_accepted_135 rfl ?_
      refine zn_bipush (x := 6) F d_Mo_accepted_136 (by decide) ?_
      refine zn_irem F d_Mo_accepted_138 (by omega) (by omega) (by omega) ?_
      refine zv_pV2 F rfl (by assumption) k_Mo.1 d_Mo_accepted_139 (Mo_isGood_ok f0 f3 h1.2 (hb.2 se h1.2) (by omega)) Y_Mo_isGood Yi_Mo_isGood Yv_Mo_isGood ln_Mo_65 ⟨(Nat.le_of_ble_eq_true rfl), (Nat.le_of_ble_eq_true rfl)⟩ (Nat.le_of_ble_eq_true rfl) ⟨(Nat.le_of_ble_eq_true rfl), (Nat.le_of_ble_eq_true rfl)⟩ ?_
      first | refine zn_bif_eq (tgt := 149) F d_Mo_accepted_142 rfl (fun h142 => ?_) (fun h142 => ?_) | refine zn_if_eq (tgt := 149) F d_Mo_accepted_142 rfl (by omega) (fun h142 => ?_) (fun h142 => ?_)
      · refine zn_iconst (x := 0) F d_Mo_accepted_149 (by decide) ?_
        exact zv_zret F d_Mo_accepted_150 (Nat.le_of_ble_eq_true rfl) (Nat.le_of_ble_eq_true rfl) (by first | rfl | exact zn_nb _) (by first | exact ⟨zn_bt (by simp [pm_paA, *]), rfl, rfl⟩ | exact ⟨zn_bf (by simp [pm_paA, *]), rfl, rfl⟩)
      · refine zn_iconst (x := 1) F d_Mo_accepted_145 (by decide) ?_
        refine zv_goto (tgt := 150) F d_Mo_accepted_146 rfl ?_
        exact zv_zret F d_Mo_accepted_150 (Nat.le_of_ble_eq_true rfl) (Nat.le_of_ble_eq_true rfl) (by first | rfl | exact zn_nb _) (by first | exact ⟨zn_bt (by simp [pm_paA, *]), rfl, rfl⟩ | exact ⟨zn_bf (by simp [pm_paA, *]), rfl, rfl⟩)
  · skip
    have hab : gd se &&& (x % 64) ≤ gd se := Nat.and_le_left
    have g6 := hb.2 se h1.2
    have q1 := h1.2
    refine zv_aload_n F d_Mo_accepted_0 rfl ?_
    refine zv_get F d_Mo_accepted_1 (by assumption) k_Mo 4 (Nat.le_of_ble_eq_true rfl) ln_Mo_59 rfl (by rfl) ?_
    refine zv_tableIn (tgt := 151) F d_Mo_accepted_4 (by decide) (by decide) (by rfl) rfl ?_
    refine zv_iload_n F d_Mo_accepted_151 rfl ?_
    refine zn_bipush (x := 64) F d_Mo_accepted_152 (by decide) ?_
    refine zn_irem F d_Mo_accepted_154 (by omega) (by omega) (by omega) ?_
    refine zv_aload_n F d_Mo_accepted_155 rfl ?_
    refine zv_get F d_Mo_accepted_156 (by assumption) k_Mo 3 (Nat.le_of_ble_eq_true rfl) ln_Mo_16 rfl (by rfl) ?_
    refine zv_aload_n F d_Mo_accepted_159 rfl ?_
    refine zv_get F d_Mo_accepted_160 (by assumption) k_Mo 6 (Nat.le_of_ble_eq_true rfl) ln_Mo_69 rfl (by rfl) ?_
    refine zn_iald F d_Mo_accepted_163 (by assumption) (by omega) (by omega) ?_
    refine zn_iand F d_Mo_accepted_164 ?_
    rw [Nat.and_comm]
    first | refine zn_bif_eq (tgt := 172) F d_Mo_accepted_165 rfl (fun h165 => ?_) (fun h165 => ?_) | refine zn_if_eq (tgt := 172) F d_Mo_accepted_165 rfl (by omega) (fun h165 => ?_) (fun h165 => ?_)
    · refine zn_iconst (x := 0) F d_Mo_accepted_172 (by decide) ?_
      exact zv_zret F d_Mo_accepted_173 (Nat.le_of_ble_eq_true rfl) (Nat.le_of_ble_eq_true rfl) (by first | rfl | exact zn_nb _) (by first | exact ⟨zn_bt (decide_eq_true h165), rfl, rfl⟩ | exact ⟨zn_bf (decide_eq_false (fun z => z h165)), rfl, rfl⟩)
    · refine zn_iconst (x := 1) F d_Mo_accepted_168 (by decide) ?_
      refine zv_goto (tgt := 173) F d_Mo_accepted_169 rfl ?_
      exact zv_zret F d_Mo_accepted_173 (Nat.le_of_ble_eq_true rfl) (Nat.le_of_ble_eq_true rfl) (by first | rfl | exact zn_nb _) (by first | exact ⟨zn_bt (decide_eq_true h165), rfl, rfl⟩ | exact ⟨zn_bf (decide_eq_false (fun z => z h165)), rfl, rfl⟩)
  · skip
    have hab : gd fi &&& x ≤ gd fi := Nat.and_le_left
    have g6 := hb.2 fi h1
    refine zv_aload_n F d_Mo_accepted_0 rfl ?_
    refine zv_get F d_Mo_accepted_1 (by assumption) k_Mo 4 (Nat.le_of_ble_eq_true rfl) ln_Mo_59 rfl (by rfl) ?_
    refine zv_tableIn (tgt := 174) F d_Mo_accepted_4 (by decide) (by decide) (by rfl) rfl ?_
    refine zv_iload_n F d_Mo_accepted_174 rfl ?_
    refine zn_bipush (x := 64) F d_Mo_accepted_175 (by decide) ?_
    refine zn_icmp_eq (tgt := 194) F d_Mo_accepted_177 rfl (by omega) (by omega) (fun h177 => ?_) (fun h177 => ?_)
    · refine zn_iconst (x := 1) F d_Mo_accepted_194 (by decide) ?_
      refine zv_goto (tgt := 199) F d_Mo_accepted_195 rfl ?_
      exact zv_zret F d_Mo_accepted_199 (Nat.le_of_ble_eq_true rfl) (Nat.le_of_ble_eq_true rfl) (by first | rfl | exact zn_nb _) (by first | exact ⟨zn_bt (decide_eq_true (Or.inl h177)), rfl, rfl⟩ | exact ⟨zn_bt (decide_eq_true (Or.inr h191)), rfl, rfl⟩ | exact ⟨zn_bf (decide_eq_false (fun z => z.elim h177 (fun z => z h191))), rfl, rfl⟩)
    · refine zv_iload_n F d_Mo_accepted_180 rfl ?_
      refine zv_aload_n F d_Mo_accepted_181 rfl ?_
      refine zv_get F d_Mo_accepted_182 (by assumption) k_Mo 3 (Nat.le_of_ble_eq_true rfl) ln_Mo_16 rfl (by rfl) ?_
      refine zv_aload_n F d_Mo_accepted_185 rfl ?_
      refine zv_get F d_Mo_accepted_186 (by assumption) k_Mo 5 (Nat.le_of_ble_eq_true rfl) ln_Mo_62 rfl (by rfl) ?_
      refine zn_iald F d_Mo_accepted_189 (by assumption) (by omega) (by omega) ?_
      refine zn_iand F d_Mo_accepted_190 ?_
      rw [Nat.and_comm]
      first | refine zn_bif_eq (tgt := 198) F d_Mo_accepted_191 rfl (fun h191 => ?_) (fun h191 => ?_) | refine zn_if_eq (tgt := 198) F d_Mo_accepted_191 rfl (by omega) (fun h191 => ?_) (fun h191 => ?_)
      · refine zn_iconst (x := 0) F d_Mo_accepted_198 (by decide) ?_
        exact zv_zret F d_Mo_accepted_199 (Nat.le_of_ble_eq_true rfl) (Nat.le_of_ble_eq_true rfl) (by first | rfl | exact zn_nb _) (by first | exact ⟨zn_bt (decide_eq_true (Or.inl h177)), rfl, rfl⟩ | exact ⟨zn_bt (decide_eq_true (Or.inr h191)), rfl, rfl⟩ | exact ⟨zn_bf (decide_eq_false (fun z => z.elim h177 (fun z => z h191))), rfl, rfl⟩)
      · refine zn_iconst (x := 1) F d_Mo_accepted_194 (by decide) ?_
        refine zv_goto (tgt := 199) F d_Mo_accepted_195 rfl ?_
        exact zv_zret F d_Mo_accepted_199 (Nat.le_of_ble_eq_true rfl) (Nat.le_of_ble_eq_true rfl) (by first | rfl | exact zn_nb _) (by first | exact ⟨zn_bt (decide_eq_true (Or.inl h177)), rfl, rfl⟩ | exact ⟨zn_bt (decide_eq_true (Or.inr h191)), rfl, rfl⟩ | exact ⟨zn_bf (decide_eq_false (fun z => z.elim h177 (fun z => z h191))), rfl, rfl⟩)
  · skip
    refine zv_aload_n F d_Mo_accepted_0 rfl ?_
    refine zv_get F d_Mo_accepted_1 (by assumption) k_Mo 4 (Nat.le_of_ble_eq_true rfl) ln_Mo_59 rfl (by rfl) ?_
    refine zv_tableOut (tgt := 200) F d_Mo_accepted_4 (Or.inr (by decide)) rfl ?_
    refine zv_aload_n F d_Mo_accepted_200 rfl ?_
    refine zv_aload_n F d_Mo_accepted_201 rfl ?_
    refine zv_get F d_Mo_accepted_202 (by assumption) k_Mo 5 (Nat.le_of_ble_eq_true rfl) ln_Mo_62 rfl (by rfl) ?_
    refine zv_iload_n F d_Mo_accepted_205 rfl ?_
    refine zv_pV2 F rfl (by assumption) k_Mo.1 d_Mo_accepted_206 (Mo_isGood_ok f0 f3 h1 (hb.2 fi h1) (by omega)) Y_Mo_isGood Yi_Mo_isGood Yv_Mo_isGood ln_Mo_65 ⟨(Nat.le_of_ble_eq_true rfl), (Nat.le_of_ble_eq_true rfl)⟩ (Nat.le_of_ble_eq_true rfl) ⟨(Nat.le_of_ble_eq_true rfl), (Nat.le_of_ble_eq_true rfl)⟩ ?_
    first | refine zn_bif_ne (tgt := 216) F d_Mo_accepted_209 rfl (fun h209 => ?_) (fun h209 => ?_) | refine zn_if_ne (tgt := 216) F d_Mo_accepted_209 rfl (by omega) (fun h209 => ?_) (fun h209 => ?_)
    · refine zn_iconst (x := 0) F d_Mo_accepted_216 (by decide) ?_
      exact zv_zret F d_Mo_accepted_217 (Nat.le_of_ble_eq_true rfl) (Nat.le_of_ble_eq_true rfl) (by first | rfl | exact zn_nb _) (by first | exact ⟨zn_bt (by simp [pm_inA, *]), rfl, rfl⟩ | exact ⟨zn_bf (by simp [pm_inA, *]), rfl, rfl⟩)
    · refine zn_iconst (x := 1) F d_Mo_accepted_212 (by decide) ?_
      refine zv_goto (tgt := 217) F d_Mo_accepted_213 rfl ?_
      exact zv_zret F d_Mo_accepted_217 (Nat.le_of_ble_eq_true rfl) (Nat.le_of_ble_eq_true rfl) (by first | rfl | exact zn_nb _) (by first | exact ⟨zn_bt (by simp [pm_inA, *]), rfl, rfl⟩ | exact ⟨zn_bf (by simp [pm_inA, *]), rfl, rfl⟩)
theorem Mo_nextCode_ok {l : Launch} {Δ : zv_D} {hp : zv_M} {sz : Nat} {y c op fi se st el s0 cn : Nat} {gg gd : Nat → Nat} {δ : Nat → Nat → Nat} {ac : Nat → Bool} (f0 : hp y = some (mo_obj y c op fi se st el)) (f2 : hp (y + 2) = some (zn_I Δ 144 gg)) (f3 : hp (y + 3) = some (zn_I Δ 12 gd)) (hM : mo_M op fi se gg gd δ ac s0 cn) (hb : mo_b gg gd) {x b : Nat} (hx : x < cn) (hl : b < 2) : zv_P l Δ 3 y_Mo_nextCode b_Mo_nextCode 3 ((some (FieldType.int))) [.ref y, .int (nI x), .int (nI b)] hp sz (.int (nI (δ x b))) := by
  refine zv_E.intro (lv0 := [some (.ref y), some (.int (nI x)), some (.int (nI b))]) rfl (Nat.le_of_ble_eq_true rfl) rfl ?_
  intro Γ hl F
  clear hl
  rcases hM with ⟨rfl, h1, rfl, rfl, rfl, rfl⟩ | ⟨rfl, h1, rfl, rfl, rfl, rfl⟩ | ⟨rfl, h1, rfl, rfl, rfl, rfl⟩ | ⟨rfl, h1, rfl, rfl, rfl, rfl⟩ | ⟨rfl, h1, rfl, rfl, rfl, rfl⟩ | ⟨rfl, h1, rfl, rfl, rfl, rfl⟩
  · skip
    refine zv_aload_n F d_Mo_nextCode_0 rfl ?_
    refine zv_get F d_Mo_nextCode_1 (by assumption) k_Mo 4 (Nat.le_of_ble_eq_true rfl) ln_Mo_59 rfl (by rfl) ?_
    refine zv_tableIn (tgt := 40) F d_Mo_nextCode_4 (by decide) (by decide) (by rfl) rfl ?_
    refine zv_iload_n F d_Mo_nextCode_40 rfl ?_
    first | refine zn_bif_ne (tgt := 56) F d_Mo_nextCode_41 rfl (fun h41 => ?_) (fun h41 => ?_) | refine zn_if_ne (tgt := 56) F d_Mo_nextCode_41 rfl (by omega) (fun h41 => ?_) (fun h41 => ?_)
    · refine zn_iconst (x := 2) F d_Mo_nextCode_56 (by decide) ?_
      exact zv_iret F d_Mo_nextCode_57 (Nat.le_of_ble_eq_true rfl) (Nat.le_of_ble_eq_true rfl) ⟨zn_rt (by unfold pm_ba; first | rw [if_pos (by omega)] | rw [if_neg (by omega)]), rfl, rfl⟩
    · refine zv_aload_n F d_Mo_nextCode_44 rfl ?_
      refine zv_get F d_Mo_nextCode_45 (by assumption) k_Mo 5 (Nat.le_of_ble_eq_true rfl) ln_Mo_62 rfl (by rfl) ?_
      refine zv_iload_n F d_Mo_nextCode_48 rfl ?_
      refine zn_icmp_ne (tgt := 56) F d_Mo_nextCode_49 rfl (by omega) (by omega) (fun h49 => ?_) (fun h49 => ?_)
      · refine zn_iconst (x := 2) F d_Mo_nextCode_56 (by decide) ?_
        exact zv_iret F d_Mo_nextCode_57 (Nat.le_of_ble_eq_true rfl) (Nat.le_of_ble_eq_true rfl) ⟨zn_rt (by unfold pm_ba; first | rw [if_pos (by omega)] | rw [if_neg (by omega)]), rfl, rfl⟩
      · refine zn_iconst (x := 1) F d_Mo_nextCode_52 (by decide) ?_
        refine zv_goto (tgt := 57) F d_Mo_nextCode_53 rfl ?_
        exact zv_iret F d_Mo_nextCode_57 (Nat.le_of_ble_eq_true rfl) (Nat.le_of_ble_eq_true rfl) ⟨zn_rt (by unfold pm_ba; first | rw [if_pos (by omega)] | rw [if_neg (by omega)]), rfl, rfl⟩
  · skip
    obtain ⟨h1, h2⟩ := h1
    refine zv_aload_n F d_Mo_nextCode_0 rfl ?_
    refine zv_get F d_Mo_nextCode_1 (by assumption) k_Mo 4 (Nat.le_of_ble_eq_true rfl) ln_Mo_59 rfl (by rfl) ?_
    refine zv_tableIn (tgt := 58) F d_Mo_nextCode_4 (by decide) (by decide) (by rfl) rfl ?_
    refine zn_bipush (x := 6) F d_Mo_nextCode_58 (by decide) ?_
    refine zv_aload_n F d_Mo_nextCode_60 rfl ?_
    refine zv_aload_n F d_Mo_nextCode_61 rfl ?_
    refine zv_get F d_Mo_nextCode_62 (by assumption) k_Mo 5 (Nat.le_of_ble_eq_true rfl) ln_Mo_62 rfl (by rfl) ?_
    refine zv_iload_n F d_Mo_nextCode_65 rfl ?_
    refine zn_bipush (x := 6) F d_Mo_nextCode_66 (by decide) ?_
    refine zn_idiv F d_Mo_nextCode_68 (by omega) (by omega) (by omega) ?_
    refine zv_iload_n F d_Mo_nextCode_69 rfl ?_
    refine zv_pV3 F rfl (by assumption) k_Mo.1 d_Mo_nextCode_70 (Mo_step_ok f0 f2 (by omega)) Y_Mo_step Yi_Mo_step Yv_Mo_step ln_Mo_55 ⟨(Nat.le_of_ble_eq_true rfl), (Nat.le_of_ble_eq_true rfl)⟩ (Nat.le_of_ble_eq_true rfl) ⟨(Nat.le_of_ble_eq_true rfl), (Nat.le_of_ble_eq_true rfl)⟩ ?_
    refine zn_imul F d_Mo_nextCode_73 ?_
    refine zv_aload_n F d_Mo_nextCode_74 rfl ?_
    refine zv_aload_n F d_Mo_nextCode_75 rfl ?_
    refine zv_get F d_Mo_nextCode_76 (by assumption) k_Mo 6 (Nat.le_of_ble_eq_true rfl) ln_Mo_69 rfl (by rfl) ?_
    refine zv_iload_n F d_Mo_nextCode_79 rfl ?_
    refine zn_bipush (x := 6) F d_Mo_nextCode_80 (by decide) ?_
    refine zn_irem F d_Mo_nextCode_82 (by omega) (by omega) (by omega) ?_
    refine zv_iload_n F d_Mo_nextCode_83 rfl ?_
    refine zv_pV3 F rfl (by assumption) k_Mo.1 d_Mo_nextCode_84 (Mo_step_ok f0 f2 (by omega)) Y_Mo_step Yi_Mo_step Yv_Mo_step ln_Mo_55 ⟨(Nat.le_of_ble_eq_true rfl), (Nat.le_of_ble_eq_true rfl)⟩ (Nat.le_of_ble_eq_true rfl) ⟨(Nat.le_of_ble_eq_true rfl), (Nat.le_of_ble_eq_true rfl)⟩ ?_
    refine zn_iadd F d_Mo_nextCode_87 ?_
    exact zv_iret F d_Mo_nextCode_88 (Nat.le_of_ble_eq_true rfl) (Nat.le_of_ble_eq_true rfl) ⟨rfl, rfl, rfl⟩
  · skip
    obtain ⟨h1, h2⟩ := h1
    refine zv_aload_n F d_Mo_nextCode_0 rfl ?_
    refine zv_get F d_Mo_nextCode_1 (by assumption) k_Mo 4 (Nat.le_of_ble_eq_true rfl) ln_Mo_59 rfl (by rfl) ?_
    refine zv_tableIn (tgt := 58) F d_Mo_nextCode_4 (by decide) (by decide) (by rfl) rfl ?_
    refine zn_bipush (x := 6) F d_Mo_nextCode_58 (by decide) ?_
    refine zv_aload_n F d_Mo_nextCode_60 rfl ?_
    refine zv_aload_n F d_Mo_nextCode_61 rfl ?_
    refine zv_get F d_Mo_nextCode_62 (by assumption) k_Mo 5 (Nat.le_of_ble_eq_true rfl) ln_Mo_62 rfl (by rfl) ?_
    refine zv_iload_n F d_Mo_nextCode_65 rfl ?_
    refine zn_bipush (x := 6) F d_Mo_nextCode_66 (by decide) ?_
    refine zn_idiv F d_Mo_nextCode_68 (by omega) (by omega) (by omega) ?_
    refine zv_iload_n F d_Mo_nextCode_69 rfl ?_
    refine zv_pV3 F rfl (by assumption) k_Mo.1 d_Mo_nextCode_70 (Mo_step_ok f0 f2 (by omega)) Y_Mo_step Yi_Mo_step Yv_Mo_step ln_Mo_55 ⟨(Nat.le_of_ble_eq_true rfl), (Nat.le_of_ble_eq_true rfl)⟩ (Nat.le_of_ble_eq_true rfl) ⟨(Nat.le_of_ble_eq_true rfl), (Nat.le_of_ble_eq_true rfl)⟩ ?_
    refine zn_imul F d_Mo_nextCode_73 ?_
    refine zv_aload_n F d_Mo_nextCode_74 rfl ?_
    refine zv_aload_n F d_Mo_nextCode_75 rfl ?_
    refine zv_get F d_Mo_nextCode_76 (by assumption) k_Mo 6 (Nat.le_of_ble_eq_true rfl) ln_Mo_69 rfl (by rfl) ?_
    refine zv_iload_n F d_Mo_nextCode_79 rfl ?_
    refine zn_bipush (x := 6) F d_Mo_nextCode_80 (by decide) ?_
    refine zn_irem F d_Mo_nextCode_82 (by omega) (by omega) (by omega) ?_
    refine zv_iload_n F d_Mo_nextCode_83 rfl ?_
    refine zv_pV3 F rfl (by assumption) k_Mo.1 d_Mo_nextCode_84 (Mo_step_ok f0 f2 (by omega)) Y_Mo_step Yi_Mo_step Yv_Mo_step ln_Mo_55 ⟨(Nat.le_of_ble_eq_true rfl), (Nat.le_of_ble_eq_true rfl)⟩ (Nat.le_of_ble_eq_true rfl) ⟨(Nat.le_of_ble_eq_true rfl), (Nat.le_of_ble_eq_true rfl)⟩ ?_
    refine zn_iadd F d_Mo_nextCode_87 ?_
    exact zv_iret F d_Mo_nextCode_88 (Nat.le_of_ble_eq_true rfl) (Nat.le_of_ble_eq_true rfl) ⟨rfl, rfl, rfl⟩
  · skip
    refine zv_aload_n F d_Mo_nextCode_0 rfl ?_
    refine zv_get F d_Mo_nextCode_1 (by assumption) k_Mo 4 (Nat.le_of_ble_eq_true rfl) ln_Mo_59 rfl (by rfl) ?_
    refine zv_tableIn (tgt := 89) F d_Mo_nextCode_4 (by decide) (by decide) (by rfl) rfl ?_
    refine zv_aload_n F d_Mo_nextCode_89 rfl ?_
    refine zv_iload_n F d_Mo_nextCode_90 rfl ?_
    refine zv_iload_n F d_Mo_nextCode_91 rfl ?_
    refine zv_pV2 F rfl (by assumption) k_Mo.1 d_Mo_nextCode_92 (Mo_chained_ok f0 f2 f3 hb h1.1 h1.2 hx hl) Y_Mo_chained Yi_Mo_chained Yv_Mo_chained ln_Mo_75 ⟨(Nat.le_of_ble_eq_true rfl), (Nat.le_of_ble_eq_true rfl)⟩ (Nat.le_of_ble_eq_true rfl) ⟨(Nat.le_of_ble_eq_true rfl), (Nat.le_of_ble_eq_true rfl)⟩ ?_
    exact zv_iret F d_Mo_nextCode_95 (Nat.le_of_ble_eq_true rfl) (Nat.le_of_ble_eq_true rfl) ⟨rfl, rfl, rfl⟩
  · skip
    refine zv_aload_n F d_Mo_nextCode_0 rfl ?_
    refine zv_get F d_Mo_nextCode_1 (by assumption) k_Mo 4 (Nat.le_of_ble_eq_true rfl) ln_Mo_59 rfl (by rfl) ?_
    refine zv_tableIn (tgt := 96) F d_Mo_nextCode_4 (by decide) (by decide) (by rfl) rfl ?_
    refine zv_aload_n F d_Mo_nextCode_96 rfl ?_
    refine zv_iload_n F d_Mo_nextCode_97 rfl ?_
    refine zv_iload_n F d_Mo_nextCode_98 rfl ?_
    refine zv_pV2 F rfl (by assumption) k_Mo.1 d_Mo_nextCode_99 (Mo_starred_ok f0 f2 f3 hb h1 hx hl) Y_Mo_starred Yi_Mo_starred Yv_Mo_starred ln_Mo_79 ⟨(Nat.le_of_ble_eq_true rfl), (Nat.le_of_ble_eq_true rfl)⟩ (Nat.le_of_ble_eq_true rfl) ⟨(Nat.le_of_ble_eq_true rfl), (Nat.le_of_ble_eq_true rfl)⟩ ?_
    exact zv_iret F d_Mo_nextCode_102 (Nat.le_of_ble_eq_true rfl) (Nat.le_of_ble_eq_true rfl) ⟨rfl, rfl, rfl⟩
  · skip
    refine zv_aload_n F d_Mo_nextCode_0 rfl ?_
    refine zv_get F d_Mo_nextCode_1 (by assumption) k_Mo 4 (Nat.le_of_ble_eq_true rfl) ln_Mo_59 rfl (by rfl) ?_
    refine zv_tableOut (tgt := 103) F d_Mo_nextCode_4 (Or.inr (by decide)) rfl ?_
    refine zv_aload_n F d_Mo_nextCode_103 rfl ?_
    refine zv_aload_n F d_Mo_nextCode_104 rfl ?_
    refine zv_get F d_Mo_nextCode_105 (by assumption) k_Mo 5 (Nat.le_of_ble_eq_true rfl) ln_Mo_62 rfl (by rfl) ?_
    refine zv_iload_n F d_Mo_nextCode_108 rfl ?_
    refine zv_iload_n F d_Mo_nextCode_109 rfl ?_
    refine zv_pV3 F rfl (by assumption) k_Mo.1 d_Mo_nextCode_110 (Mo_step_ok f0 f2 (by omega)) Y_Mo_step Yi_Mo_step Yv_Mo_step ln_Mo_55 ⟨(Nat.le_of_ble_eq_true rfl), (Nat.le_of_ble_eq_true rfl)⟩ (Nat.le_of_ble_eq_true rfl) ⟨(Nat.le_of_ble_eq_true rfl), (Nat.le_of_ble_eq_true rfl)⟩ ?_
    exact zv_iret F d_Mo_nextCode_113 (Nat.le_of_ble_eq_true rfl) (Nat.le_of_ble_eq_true rfl) ⟨rfl, rfl, rfl⟩

