theorem Mo_both_ok {l : Launch} {Δ : zv_D} {hp : zv_M} {sz : Nat} {y c el w i j s0 cn : Nat} {ns gg gd wd pr : Nat → Nat} (hat : mo_at Δ hp y c ns gg gd el wd pr) (hc : c ≤ 12) (hb : mo_b gg gd) {δ : Nat → Nat → Nat} {ac : Nat → Bool} (hi : i < 4294967296) (hj : j < 4294967296) (hM : i < c → j < c → mo_M w i j gg gd δ ac s0 cn) : zv_E l Δ 6 y_Mo_both b_Mo_both 4 ((some (FieldType.int))) [.ref y, .int (nI w), .int (nI i), .int (nI j)] hp sz 0 0 (fun r hp1 sz1 => ∃ v : Nat, r = some (.int (nI v)) ∧ sz1 = sz ∧ (∀ q, q < y ∨ y + 14 ≤ q → hp1 q = hp q) ∧ ((¬ (i < c ∧ j < c) ∧ v = 4294967295 ∧ mo_at Δ hp1 y c ns gg gd el wd pr) ∨ ((i < c ∧ j < c) ∧ mo_add Δ hp1 y c ns gg gd el wd pr (mc_L δ ac s0) v))) := by
  refine zv_E.intro (lv0 := [some (.ref y), some (.int (nI w)), some (.int (nI i)), some (.int (nI j))]) rfl (Nat.le_of_ble_eq_true rfl) rfl ?_
  intro Γ hl F
  clear hl
  have hat0 := hat
  obtain ⟨⟨op, fi, se, st, f0⟩, f1, f2, f3, hrest⟩ := hat
  refine zv_aload_n F d_Mo_both_0 rfl ?_
  refine zv_iload_n F d_Mo_both_1 rfl ?_
  refine zv_pV1 F rfl (by assumption) k_Mo.1 d_Mo_both_2 (Mo_isIn_ok f0 hc hi) Y_Mo_isIn Yi_Mo_isIn Yv_Mo_isIn ln_Mo_105 ⟨(Nat.le_of_ble_eq_true rfl), (Nat.le_of_ble_eq_true rfl)⟩ (Nat.le_of_ble_eq_true rfl) ⟨(Nat.le_of_ble_eq_true rfl), (Nat.le_of_ble_eq_true rfl)⟩ ?_
  first | refine zn_bif_eq (tgt := 26) F d_Mo_both_5 rfl (fun h5 => ?_) (fun h5 => ?_) | refine zn_if_eq (tgt := 26) F d_Mo_both_5 rfl (by omega) (fun h5 => ?_) (fun h5 => ?_)
  · have h5 := of_decide_eq_false h5
    refine zn_iconst (x := 4294967295) F d_Mo_both_26 (by decide) ?_
    exact zv_iret F d_Mo_both_27 (Nat.le_of_ble_eq_true rfl) (Nat.le_of_ble_eq_true rfl) (by first | exact ⟨v, rfl, rfl, fr, Or.inr ⟨⟨h5, h13⟩, hv⟩⟩ | exact ⟨4294967295, rfl, rfl, fun q _ => rfl, Or.inl ⟨by omega, rfl, hat0⟩⟩)
  · have h5 := of_decide_eq_true h5
    refine zv_aload_n F d_Mo_both_8 rfl ?_
    refine zv_iload_n F d_Mo_both_9 rfl ?_
    refine zv_pV1 F rfl (by assumption) k_Mo.1 d_Mo_both_10 (Mo_isIn_ok f0 hc hj) Y_Mo_isIn Yi_Mo_isIn Yv_Mo_isIn ln_Mo_105 ⟨(Nat.le_of_ble_eq_true rfl), (Nat.le_of_ble_eq_true rfl)⟩ (Nat.le_of_ble_eq_true rfl) ⟨(Nat.le_of_ble_eq_true rfl), (Nat.le_of_ble_eq_true rfl)⟩ ?_
    first | refine zn_bif_eq (tgt := 26) F d_Mo_both_13 rfl (fun h13 => ?_) (fun h13 => ?_) | refine zn_if_eq (tgt := 26) F d_Mo_both_13 rfl (by omega) (fun h13 => ?_) (fun h13 => ?_)
    · have h13 := of_decide_eq_false h13
      refine zn_iconst (x := 4294967295) F d_Mo_both_26 (by decide) ?_
      exact zv_iret F d_Mo_both_27 (Nat.le_of_ble_eq_true rfl) (Nat.le_of_ble_eq_true rfl) (by first | exact ⟨v, rfl, rfl, fr, Or.inr ⟨⟨h5, h13⟩, hv⟩⟩ | exact ⟨4294967295, rfl, rfl, fun q _ => rfl, Or.inl ⟨by omega, rfl, hat0⟩⟩)
    · have h13 := of_decide_eq_true h13
      refine zv_aload_n F d_Mo_both_16 rfl ?_
      refine zv_iload_n F d_Mo_both_17 rfl ?_
      refine zv_iload_n F d_Mo_both_18 rfl ?_
      refine zv_iload_n F d_Mo_both_19 rfl ?_
      refine zv_mV3 F rfl (by assumption) k_Mo.1 d_Mo_both_20 (Mo_make_ok hat0 hc (hM h5 h13) hb) Y_Mo_make Yi_Mo_make Yv_Mo_make ln_Mo_102 ⟨(Nat.le_of_ble_eq_true rfl), (Nat.le_of_ble_eq_true rfl)⟩ (Nat.le_of_ble_eq_true rfl) ⟨(Nat.le_of_ble_eq_true rfl), (Nat.le_of_ble_eq_true rfl)⟩ (fun r hp20 sz20 q20 => ?_)
      obtain ⟨v, rfl, rfl, fr, hv⟩ := q20
      try simp only [Option.toList, List.cons_append, List.nil_append]
      refine zv_goto (tgt := 27) F d_Mo_both_23 rfl ?_
      exact zv_iret F d_Mo_both_27 (Nat.le_of_ble_eq_true rfl) (Nat.le_of_ble_eq_true rfl) (by first | exact ⟨v, rfl, rfl, fr, Or.inr ⟨⟨h5, h13⟩, hv⟩⟩ | exact ⟨4294967295, rfl, rfl, fun q _ => rfl, Or.inl ⟨by omega, rfl, hat0⟩⟩)
theorem Mo_basic_ok {l : Launch} {Δ : zv_D} {hp : zv_M} {sz : Nat} {y c el k : Nat} {ns gg gd wd pr : Nat → Nat} (hat : mo_at Δ hp y c ns gg gd el wd pr) (hc : c ≤ 12) (hb : mo_b gg gd) (hk : k < 4294967296) : zv_E l Δ 6 y_Mo_basic b_Mo_basic 2 ((some (FieldType.int))) [.ref y, .int (nI k)] hp sz 0 0 (fun r hp1 sz1 => ∃ v : Nat, r = some (.int (nI v)) ∧ sz1 = sz ∧ (∀ q, q < y ∨ y + 14 ≤ q → hp1 q = hp q) ∧ ((¬ (k < 4) ∧ v = 4294967295 ∧ mo_at Δ hp1 y c ns gg gd el wd pr) ∨ ((k < 4) ∧ mo_add Δ hp1 y c ns gg gd el wd pr (mc_L (pm_ba k) (pm_baA k) 0) v))) := by
  refine zv_E.intro (lv0 := [some (.ref y), some (.int (nI k))]) rfl (Nat.le_of_ble_eq_true rfl) rfl ?_
  intro Γ hl F
  clear hl
  have hat0 := hat
  obtain ⟨⟨op, fi, se, st, f0⟩, f1, f2, f3, hrest⟩ := hat
  refine zv_iload_n F d_Mo_basic_0 rfl ?_
  refine zn_if_lt (tgt := 9) F d_Mo_basic_1 rfl (by omega) (fun h1 => ?_) (fun h1 => ?_)
  · refine zn_iconst (x := 4294967295) F d_Mo_basic_9 (by decide) ?_
    refine zv_goto (tgt := 20) F d_Mo_basic_10 rfl ?_
    exact zv_iret F d_Mo_basic_20 (Nat.le_of_ble_eq_true rfl) (Nat.le_of_ble_eq_true rfl) (by first | exact ⟨v, rfl, rfl, fr, Or.inr ⟨by omega, hv⟩⟩ | exact ⟨4294967295, rfl, rfl, fun q _ => rfl, Or.inl ⟨by omega, rfl, hat0⟩⟩)
  · refine zv_iload_n F d_Mo_basic_4 rfl ?_
    refine zn_iconst (x := 3) F d_Mo_basic_5 (by decide) ?_
    refine zn_icmp_le (tgt := 13) F d_Mo_basic_6 rfl (by omega) (by omega) (fun h6 => ?_) (fun h6 => ?_)
    · refine zv_aload_n F d_Mo_basic_13 rfl ?_
      refine zn_iconst (x := 0) F d_Mo_basic_14 (by decide) ?_
      refine zv_iload_n F d_Mo_basic_15 rfl ?_
      refine zn_iconst (x := 0) F d_Mo_basic_16 (by decide) ?_
      refine zv_mV3 F rfl (by assumption) k_Mo.1 d_Mo_basic_17 (Mo_make_ok (fi := k) hat0 hc (Or.inl ⟨rfl, (by omega), rfl, rfl, rfl, rfl⟩) hb) Y_Mo_make Yi_Mo_make Yv_Mo_make ln_Mo_102 ⟨(Nat.le_of_ble_eq_true rfl), (Nat.le_of_ble_eq_true rfl)⟩ (Nat.le_of_ble_eq_true rfl) ⟨(Nat.le_of_ble_eq_true rfl), (Nat.le_of_ble_eq_true rfl)⟩ (fun r hp17 sz17 q17 => ?_)
      obtain ⟨v, rfl, rfl, fr, hv⟩ := q17
      try simp only [Option.toList, List.cons_append, List.nil_append]
      exact zv_iret F d_Mo_basic_20 (Nat.le_of_ble_eq_true rfl) (Nat.le_of_ble_eq_true rfl) (by first | exact ⟨v, rfl, rfl, fr, Or.inr ⟨by omega, hv⟩⟩ | exact ⟨4294967295, rfl, rfl, fun q _ => rfl, Or.inl ⟨by omega, rfl, hat0⟩⟩)
    · refine zn_iconst (x := 4294967295) F d_Mo_basic_9 (by decide) ?_
      refine zv_goto (tgt := 20) F d_Mo_basic_10 rfl ?_
      exact zv_iret F d_Mo_basic_20 (Nat.le_of_ble_eq_true rfl) (Nat.le_of_ble_eq_true rfl) (by first | exact ⟨v, rfl, rfl, fr, Or.inr ⟨by omega, hv⟩⟩ | exact ⟨4294967295, rfl, rfl, fun q _ => rfl, Or.inl ⟨by omega, rfl, hat0⟩⟩)
theorem Mo_unite_ok {l : Launch} {Δ : zv_D} {hp : zv_M} {sz : Nat} {y c el i j : Nat} {ns gg gd wd pr : Nat → Nat} (hat : mo_at Δ hp y c ns gg gd el wd pr) (hc : c ≤ 12) (hb : mo_b gg gd) (hi : i < 4294967296) (hj : j < 4294967296) : zv_E l Δ 7 y_Mo_unite b_Mo_unite 3 ((some (FieldType.int))) [.ref y, .int (nI i), .int (nI j)] hp sz 0 0 (fun r hp1 sz1 => ∃ v : Nat, r = some (.int (nI v)) ∧ sz1 = sz ∧ (∀ q, q < y ∨ y + 14 ≤ q → hp1 q = hp q) ∧ ((¬ (i < c ∧ j < c) ∧ v = 4294967295 ∧ mo_at Δ hp1 y c ns gg gd el wd pr) ∨ ((i < c ∧ j < c) ∧ mo_add Δ hp1 y c ns gg gd el wd pr (mc_L (pm_pa (mo_G gg i) (mo_G gg j)) (pm_paA false (gd i) (gd j)) 0) v))) := by
  refine zv_E.intro (lv0 := [some (.ref y), some (.int (nI i)), some (.int (nI j))]) rfl (Nat.le_of_ble_eq_true rfl) rfl ?_
  intro Γ hl F
  clear hl
  have hat0 := hat
  obtain ⟨⟨op, fi, se, st, f0⟩, f1, f2, f3, hrest⟩ := hat
  refine zv_aload_n F d_Mo_unite_0 rfl ?_
  refine zn_iconst (x := 1) F d_Mo_unite_1 (by decide) ?_
  refine zv_iload_n F d_Mo_unite_2 rfl ?_
  refine zv_iload_n F d_Mo_unite_3 rfl ?_
  refine zv_mV3 F rfl (by assumption) k_Mo.1 d_Mo_unite_4 (Mo_both_ok (w := 1) hat0 hc hb hi hj (fun h1 h2 => Or.inr (Or.inl ⟨rfl, ⟨by omega, by omega⟩, rfl, rfl, rfl, rfl⟩))) Y_Mo_both Yi_Mo_both Yv_Mo_both ln_Mo_108 ⟨(Nat.le_of_ble_eq_true rfl), (Nat.le_of_ble_eq_true rfl)⟩ (Nat.le_of_ble_eq_true rfl) ⟨(Nat.le_of_ble_eq_true rfl), (Nat.le_of_ble_eq_true rfl)⟩ (fun r hp4 sz4 q4 => ?_)
  obtain ⟨v, rfl, rfl, fr, hv⟩ := q4
  try simp only [Option.toList, List.cons_append, List.nil_append]
  exact zv_iret F d_Mo_unite_7 (Nat.le_of_ble_eq_true rfl) (Nat.le_of_ble_eq_true rfl) ⟨v, rfl, rfl, fr, hv⟩
theorem Mo_meet_ok {l : Launch} {Δ : zv_D} {hp : zv_M} {sz : Nat} {y c el i j : Nat} {ns gg gd wd pr : Nat → Nat} (hat : mo_at Δ hp y c ns gg gd el wd pr) (hc : c ≤ 12) (hb : mo_b gg gd) (hi : i < 4294967296) (hj : j < 4294967296) : zv_E l Δ 7 y_Mo_meet b_Mo_meet 3 ((some (FieldType.int))) [.ref y, .int (nI i), .int (nI j)] hp sz 0 0 (fun r hp1 sz1 => ∃ v : Nat, r = some (.int (nI v)) ∧ sz1 = sz ∧ (∀ q, q < y ∨ y + 14 ≤ q → hp1 q = hp q) ∧ ((¬ (i < c ∧ j < c) ∧ v = 4294967295 ∧ mo_at Δ hp1 y c ns gg gd el wd pr) ∨ ((i < c ∧ j < c) ∧ mo_add Δ hp1 y c ns gg gd el wd pr (mc_L (pm_pa (mo_G gg i) (mo_G gg j)) (pm_paA true (gd i) (gd j)) 0) v))) := by
  refine zv_E.intro (lv0 := [some (.ref y), some (.int (nI i)), some (.int (nI j))]) rfl (Nat.le_of_ble_eq_true rfl) rfl ?_
  intro Γ hl F
  clear hl
  have hat0 := hat
  obtain ⟨⟨op, fi, se, st, f0⟩, f1, f2, f3, hrest⟩ := hat
  refine zv_aload_n F d_Mo_meet_0 rfl ?_
  refine zn_iconst (x := 2) F d_Mo_meet_1 (by decide) ?_
  refine zv_iload_n F d_Mo_meet_2 rfl ?_
  refine zv_iload_n F d_Mo_meet_3 rfl ?_
  refine zv_mV3 F rfl (by assumption) k_Mo.1 d_Mo_meet_4 (Mo_both_ok (w := 2) hat0 hc hb hi hj (fun h1 h2 => Or.inr (Or.inr (Or.inl ⟨rfl, ⟨by omega, by omega⟩, rfl, rfl, rfl, rfl⟩)))) Y_Mo_both Yi_Mo_both Yv_Mo_both ln_Mo_108 ⟨(Nat.le_of_ble_eq_true rfl), (Nat.le_of_ble_eq_true rfl)⟩ (Nat.le_of_ble_eq_true rfl) ⟨(Nat.le_of_ble_eq_true rfl), (Nat.le_of_ble_eq_true rfl)⟩ (fun r hp4 sz4 q4 => ?_)
  obtain ⟨v, rfl, rfl, fr, hv⟩ := q4
  try simp only [Option.toList, List.cons_append, List.nil_append]
  exact zv_iret F d_Mo_meet_7 (Nat.le_of_ble_eq_true rfl) (Nat.le_of_ble_eq_true rfl) ⟨v, rfl, rfl, fr, hv⟩
theorem Mo_chain_ok {l : Launch} {Δ : zv_D} {hp : zv_M} {sz : Nat} {y c el i j : Nat} {ns gg gd wd pr : Nat → Nat} (hat : mo_at Δ hp y c ns gg gd el wd pr) (hc : c ≤ 12) (hb : mo_b gg gd) (hi : i < 4294967296) (hj : j < 4294967296) : zv_E l Δ 7 y_Mo_chain b_Mo_chain 3 ((some (FieldType.int))) [.ref y, .int (nI i), .int (nI j)] hp sz 0 0 (fun r hp1 sz1 => ∃ v : Nat, r = some (.int (nI v)) ∧ sz1 = sz ∧ (∀ q, q < y ∨ y + 14 ≤ q → hp1 q = hp q) ∧ ((¬ (i < c ∧ j < c) ∧ v = 4294967295 ∧ mo_at Δ hp1 y c ns gg gd el wd pr) ∨ ((i < c ∧ j < c) ∧ mo_add Δ hp1 y c ns gg gd el wd pr (mc_L (pm_ch (gd i) (mo_G gg i) (mo_G gg j) 6) (pm_chA (gd j)) (pm_of (gd i) 0 0)) v))) := by
  refine zv_E.intro (lv0 := [some (.ref y), some (.int (nI i)), some (.int (nI j))]) rfl (Nat.le_of_ble_eq_true rfl) rfl ?_
  intro Γ hl F
  clear hl
  have hat0 := hat
  obtain ⟨⟨op, fi, se, st, f0⟩, f1, f2, f3, hrest⟩ := hat
  refine zv_aload_n F d_Mo_chain_0 rfl ?_
  refine zn_iconst (x := 3) F d_Mo_chain_1 (by decide) ?_
  refine zv_iload_n F d_Mo_chain_2 rfl ?_
  refine zv_iload_n F d_Mo_chain_3 rfl ?_
  refine zv_mV3 F rfl (by assumption) k_Mo.1 d_Mo_chain_4 (Mo_both_ok (w := 3) hat0 hc hb hi hj (fun h1 h2 => Or.inr (Or.inr (Or.inr (Or.inl ⟨rfl, ⟨by omega, by omega⟩, rfl, rfl, rfl, rfl⟩))))) Y_Mo_both Yi_Mo_both Yv_Mo_both ln_Mo_108 ⟨(Nat.le_of_ble_eq_true rfl), (Nat.le_of_ble_eq_true rfl)⟩ (Nat.le_of_ble_eq_true rfl) ⟨(Nat.le_of_ble_eq_true rfl), (Nat.le_of_ble_eq_true rfl)⟩ (fun r hp4 sz4 q4 => ?_)
  obtain ⟨v, rfl, rfl, fr, hv⟩ := q4
  try simp only [Option.toList, List.cons_append, List.nil_append]
  exact zv_iret F d_Mo_chain_7 (Nat.le_of_ble_eq_true rfl) (Nat.le_of_ble_eq_true rfl) ⟨v, rfl, rfl, fr, hv⟩
theorem Mo_star_ok {l : Launch} {Δ : zv_D} {hp : zv_M} {sz : Nat} {y c el i : Nat} {ns gg gd wd pr : Nat → Nat} (hat : mo_at Δ hp y c ns gg gd el wd pr) (hc : c ≤ 12) (hb : mo_b gg gd) (hi : i < 4294967296) : zv_E l Δ 7 y_Mo_star b_Mo_star 2 ((some (FieldType.int))) [.ref y, .int (nI i)] hp sz 0 0 (fun r hp1 sz1 => ∃ v : Nat, r = some (.int (nI v)) ∧ sz1 = sz ∧ (∀ q, q < y ∨ y + 14 ≤ q → hp1 q = hp q) ∧ ((¬ (i < c) ∧ v = 4294967295 ∧ mo_at Δ hp1 y c ns gg gd el wd pr) ∨ ((i < c) ∧ mo_add Δ hp1 y c ns gg gd el wd pr (mc_L (pm_st (gd i) (mo_G gg i) 6) (pm_stA (gd i)) 64) v))) := by
  refine zv_E.intro (lv0 := [some (.ref y), some (.int (nI i))]) rfl (Nat.le_of_ble_eq_true rfl) rfl ?_
  intro Γ hl F
  clear hl
  have hat0 := hat
  obtain ⟨⟨op, fi, se, st, f0⟩, f1, f2, f3, hrest⟩ := hat
  refine zv_aload_n F d_Mo_star_0 rfl ?_
  refine zn_iconst (x := 4) F d_Mo_star_1 (by decide) ?_
  refine zv_iload_n F d_Mo_star_2 rfl ?_
  refine zv_iload_n F d_Mo_star_3 rfl ?_
  refine zv_mV3 F rfl (by assumption) k_Mo.1 d_Mo_star_4 (Mo_both_ok (w := 4) hat0 hc hb hi hi (fun h1 h2 => Or.inr (Or.inr (Or.inr (Or.inr (Or.inl ⟨rfl, by omega, rfl, rfl, rfl, rfl⟩)))))) Y_Mo_both Yi_Mo_both Yv_Mo_both ln_Mo_108 ⟨(Nat.le_of_ble_eq_true rfl), (Nat.le_of_ble_eq_true rfl)⟩ (Nat.le_of_ble_eq_true rfl) ⟨(Nat.le_of_ble_eq_true rfl), (Nat.le_of_ble_eq_true rfl)⟩ (fun r hp4 sz4 q4 => ?_)
  obtain ⟨v, rfl, rfl, fr, hv⟩ := q4
  try simp only [Option.toList, List.cons_append, List.nil_append]
  exact zv_iret F d_Mo_star_7 (Nat.le_of_ble_eq_true rfl) (Nat.le_of_ble_eq_true rfl) ⟨v, rfl, rfl, fr, hv.elim (fun h => Or.inl ⟨fun z => h.1 ⟨z, z⟩, h.2⟩) (fun h => Or.inr ⟨h.1.1, h.2⟩)⟩
theorem Mo_invert_ok {l : Launch} {Δ : zv_D} {hp : zv_M} {sz : Nat} {y c el i : Nat} {ns gg gd wd pr : Nat → Nat} (hat : mo_at Δ hp y c ns gg gd el wd pr) (hc : c ≤ 12) (hb : mo_b gg gd) (hi : i < 4294967296) : zv_E l Δ 7 y_Mo_invert b_Mo_invert 2 ((some (FieldType.int))) [.ref y, .int (nI i)] hp sz 0 0 (fun r hp1 sz1 => ∃ v : Nat, r = some (.int (nI v)) ∧ sz1 = sz ∧ (∀ q, q < y ∨ y + 14 ≤ q → hp1 q = hp q) ∧ ((¬ (i < c) ∧ v = 4294967295 ∧ mo_at Δ hp1 y c ns gg gd el wd pr) ∨ ((i < c) ∧ mo_add Δ hp1 y c ns gg gd el wd pr (mc_L (pm_in (mo_G gg i)) (pm_inA (gd i)) 0) v))) := by
  refine zv_E.intro (lv0 := [some (.ref y), some (.int (nI i))]) rfl (Nat.le_of_ble_eq_true rfl) rfl ?_
  intro Γ hl F
  clear hl
  have hat0 := hat
  obtain ⟨⟨op, fi, se, st, f0⟩, f1, f2, f3, hrest⟩ := hat
  refine zv_aload_n F d_Mo_invert_0 rfl ?_
  refine zn_iconst (x := 5) F d_Mo_invert_1 (by decide) ?_
  refine zv_iload_n F d_Mo_invert_2 rfl ?_
  refine zv_iload_n F d_Mo_invert_3 rfl ?_
  refine zv_mV3 F rfl (by assumption) k_Mo.1 d_Mo_invert_4 (Mo_both_ok (w := 5) hat0 hc hb hi hi (fun h1 h2 => Or.inr (Or.inr (Or.inr (Or.inr (Or.inr ⟨rfl, by omega, rfl, rfl, rfl, rfl⟩)))))) Y_Mo_both Yi_Mo_both Yv_Mo_both ln_Mo_108 ⟨(Nat.le_of_ble_eq_true rfl), (Nat.le_of_ble_eq_true rfl)⟩ (Nat.le_of_ble_eq_true rfl) ⟨(Nat.le_of_ble_eq_true rfl), (Nat.le_of_ble_eq_true rfl)⟩ (fun r hp4 sz4 q4 => ?_)
  obtain ⟨v, rfl, rfl, fr, hv⟩ := q4
  try simp only [Option.toList, List.cons_append, List.nil_append]
  exact zv_iret F d_Mo_invert_7 (Nat.le_of_ble_eq_true rfl) (Nat.le_of_ble_eq_true rfl) ⟨v, rfl, rfl, fr, hv.elim (fun h => Or.inl ⟨fun z => h.1 ⟨z, z⟩, h.2⟩) (fun h => Or.inr ⟨h.1.1, h.2⟩)⟩
theorem Mo_forget_ok {l : Launch} {Δ : zv_D} {hp : zv_M} {sz : Nat} {y c el : Nat} {ns gg gd wd pr : Nat → Nat} (hat : mo_at Δ hp y c ns gg gd el wd pr) (hc : c ≤ 12) : zv_E l Δ 0 y_Mo_forget b_Mo_forget 1 ((some (FieldType.boolean))) [.ref y] hp sz 0 0 (fun r hp1 sz1 => ∃ bb : Bool, r = some (.int (nI bb.toNat)) ∧ sz1 = sz ∧ (∀ q, q < y ∨ y + 14 ≤ q → hp1 q = hp q) ∧ bb = decide (0 < c) ∧ mo_at Δ hp1 y (c - 1) ns gg gd el wd pr) := by
  refine zv_E.intro (lv0 := [some (.ref y)]) rfl (Nat.le_of_ble_eq_true rfl) rfl ?_
  intro Γ hl F
  clear hl
  have hat0 := hat
  obtain ⟨⟨op, fi, se, st, f0⟩, f1, f2, f3, hrest⟩ := hat
  have fr : ∀ q, q ≠ y → hp q = hp q := fun q _ => rfl
  refine zv_aload_n F d_Mo_forget_0 rfl ?_
  refine zv_get F d_Mo_forget_1 (by assumption) k_Mo 0 (Nat.le_of_ble_eq_true rfl) ln_Mo_51 rfl (by rfl) ?_
  first | refine zn_bif_ne (tgt := 9) F d_Mo_forget_4 rfl (fun h4 => ?_) (fun h4 => ?_) | refine zn_if_ne (tgt := 9) F d_Mo_forget_4 rfl (by omega) (fun h4 => ?_) (fun h4 => ?_)
  · refine zv_aload_n F d_Mo_forget_9 rfl ?_
    refine zv_dup F d_Mo_forget_10 rfl ?_
    refine zv_get F d_Mo_forget_11 (by assumption) k_Mo 0 (Nat.le_of_ble_eq_true rfl) ln_Mo_51 rfl (by rfl) ?_
    refine zn_iconst (x := 1) F d_Mo_forget_14 (by decide) ?_
    refine zn_isub F d_Mo_forget_15 (by omega) ?_
    refine zv_put F d_Mo_forget_16 (by assumption) k_Mo 0 (Nat.le_of_ble_eq_true rfl) ln_Mo_51 rfl rfl rfl (by rfl) (by rfl) (Nat.le_of_ble_eq_true rfl) (fun hp16 e16 => ?_)
    replace f0 := zv_eq e16
    replace f1 := (zv_ne e16 (by omega)).trans f1
    replace f2 := (zv_ne e16 (by omega)).trans f2
    replace f3 := (zv_ne e16 (by omega)).trans f3
    replace fr := fun b hb => (zv_ne (b := b) e16 (by omega)).trans (fr b hb)
    refine zn_iconst (x := 1) F d_Mo_forget_19 (by decide) ?_
    exact zv_zret F d_Mo_forget_20 (Nat.le_of_ble_eq_true rfl) (Nat.le_of_ble_eq_true rfl) (by first | rfl | exact zn_nb _) ⟨true, rfl, rfl, fun q hq => fr q (by omega), (decide_eq_true (by omega)).symm, ⟨op, fi, se, st, f0⟩, f1, f2, f3, hrest.moved (fun q q1 q2 => fr q (by omega))⟩
  · refine zn_iconst (x := 0) F d_Mo_forget_7 (by decide) ?_
    exact zv_zret F d_Mo_forget_8 (Nat.le_of_ble_eq_true rfl) (Nat.le_of_ble_eq_true rfl) (by first | rfl | exact zn_nb _) ⟨false, rfl, rfl, fun q _ => rfl, (decide_eq_false (by omega)).symm, by rw [show c - 1 = c by omega]; exact hat0⟩
theorem Mo_count_ok {l : Launch} {Δ : zv_D} {hp : zv_M} {sz : Nat} {y c el : Nat} {ns gg gd wd pr : Nat → Nat} (hat : mo_at Δ hp y c ns gg gd el wd pr) : zv_P l Δ 0 y_Mo_count b_Mo_count 1 ((some (FieldType.int))) [.ref y] hp sz (.int (nI c)) := by
  refine zv_E.intro (lv0 := [some (.ref y)]) rfl (Nat.le_of_ble_eq_true rfl) rfl ?_
  intro Γ hl F
  clear hl
  obtain ⟨⟨op, fi, se, st, f0⟩, f1, f2, f3, hrest⟩ := hat
  refine zv_aload_n F d_Mo_count_0 rfl ?_
  refine zv_get F d_Mo_count_1 (by assumption) k_Mo 0 (Nat.le_of_ble_eq_true rfl) ln_Mo_51 rfl (by rfl) ?_
  exact zv_iret F d_Mo_count_4 (Nat.le_of_ble_eq_true rfl) (Nat.le_of_ble_eq_true rfl) ⟨rfl, rfl, rfl⟩
theorem Mo_states_ok {l : Launch} {Δ : zv_D} {hp : zv_M} {sz : Nat} {y c el i : Nat} {ns gg gd wd pr : Nat → Nat} (hat : mo_at Δ hp y c ns gg gd el wd pr) (hc : c ≤ 12) (hi : i < 4294967296) : zv_P l Δ 1 y_Mo_states b_Mo_states 2 ((some (FieldType.int))) [.ref y, .int (nI i)] hp sz (.int (nI (if i < c then ns i else 4294967295))) := by
  refine zv_E.intro (lv0 := [some (.ref y), some (.int (nI i))]) rfl (Nat.le_of_ble_eq_true rfl) rfl ?_
  intro Γ hl F
  clear hl
  obtain ⟨⟨op, fi, se, st, f0⟩, f1, f2, f3, hrest⟩ := hat
  refine zv_aload_n F d_Mo_states_0 rfl ?_
  refine zv_iload_n F d_Mo_states_1 rfl ?_
  refine zv_pV1 F rfl (by assumption) k_Mo.1 d_Mo_states_2 (Mo_isIn_ok f0 hc hi) Y_Mo_isIn Yi_Mo_isIn Yv_Mo_isIn ln_Mo_105 ⟨(Nat.le_of_ble_eq_true rfl), (Nat.le_of_ble_eq_true rfl)⟩ (Nat.le_of_ble_eq_true rfl) ⟨(Nat.le_of_ble_eq_true rfl), (Nat.le_of_ble_eq_true rfl)⟩ ?_
  first | refine zn_bif_eq (tgt := 17) F d_Mo_states_5 rfl (fun h5 => ?_) (fun h5 => ?_) | refine zn_if_eq (tgt := 17) F d_Mo_states_5 rfl (by omega) (fun h5 => ?_) (fun h5 => ?_)
  · have h5 := of_decide_eq_false h5
    refine zn_iconst (x := 4294967295) F d_Mo_states_17 (by decide) ?_
    exact zv_iret F d_Mo_states_18 (Nat.le_of_ble_eq_true rfl) (Nat.le_of_ble_eq_true rfl) ⟨zn_rt (by first | rw [if_pos h5] | rw [if_neg h5]), rfl, rfl⟩
  · have h5 := of_decide_eq_true h5
    refine zv_aload_n F d_Mo_states_8 rfl ?_
    refine zv_get F d_Mo_states_9 (by assumption) k_Mo 1 (Nat.le_of_ble_eq_true rfl) ln_Mo_7 rfl (by rfl) ?_
    refine zv_iload_n F d_Mo_states_12 rfl ?_
    refine zn_iald F d_Mo_states_13 (by assumption) (by omega) (by omega) ?_
    refine zv_goto (tgt := 18) F d_Mo_states_14 rfl ?_
    exact zv_iret F d_Mo_states_18 (Nat.le_of_ble_eq_true rfl) (Nat.le_of_ble_eq_true rfl) ⟨zn_rt (by first | rw [if_pos h5] | rw [if_neg h5]), rfl, rfl⟩
theorem Mo_isState_ok {l : Launch} {Δ : zv_D} {hp : zv_M} {sz : Nat} {y c el i q : Nat} {ns gg gd wd pr : Nat → Nat} (hat : mo_at Δ hp y c ns gg gd el wd pr) (hc : c ≤ 12) (hi : i < 4294967296) (hq : q < 4294967296) (hn : i < c → ns i ≤ 6) : zv_P l Δ 1 y_Mo_isState b_Mo_isState 3 ((some (FieldType.boolean))) [.ref y, .int (nI i), .int (nI q)] hp sz (.int (nI (decide (i < c ∧ q < ns i)).toNat)) := by
  refine zv_E.intro (lv0 := [some (.ref y), some (.int (nI i)), some (.int (nI q))]) rfl (Nat.le_of_ble_eq_true rfl) rfl ?_
  intro Γ hl F
  clear hl
  obtain ⟨⟨op, fi, se, st, f0⟩, f1, f2, f3, hrest⟩ := hat
  refine zv_aload_n F d_Mo_isState_0 rfl ?_
  refine zv_iload_n F d_Mo_isState_1 rfl ?_
  refine zv_pV1 F rfl (by assumption) k_Mo.1 d_Mo_isState_2 (Mo_isIn_ok f0 hc hi) Y_Mo_isIn Yi_Mo_isIn Yv_Mo_isIn ln_Mo_105 ⟨(Nat.le_of_ble_eq_true rfl), (Nat.le_of_ble_eq_true rfl)⟩ (Nat.le_of_ble_eq_true rfl) ⟨(Nat.le_of_ble_eq_true rfl), (Nat.le_of_ble_eq_true rfl)⟩ ?_
  first | refine zn_bif_eq (tgt := 26) F d_Mo_isState_5 rfl (fun h5 => ?_) (fun h5 => ?_) | refine zn_if_eq (tgt := 26) F d_Mo_isState_5 rfl (by omega) (fun h5 => ?_) (fun h5 => ?_)
  · have h5 := of_decide_eq_false h5
    refine zn_iconst (x := 0) F d_Mo_isState_26 (by decide) ?_
    exact zv_zret F d_Mo_isState_27 (Nat.le_of_ble_eq_true rfl) (Nat.le_of_ble_eq_true rfl) (by first | rfl | exact zn_nb _) (by first | exact ⟨zn_bt (decide_eq_true (by omega)), rfl, rfl⟩ | exact ⟨zn_bf (decide_eq_false (by omega)), rfl, rfl⟩)
  · have h5 := of_decide_eq_true h5
    have hni := hn h5
    refine zv_iload_n F d_Mo_isState_8 rfl ?_
    refine zn_if_lt (tgt := 26) F d_Mo_isState_9 rfl (by omega) (fun h9 => ?_) (fun h9 => ?_)
    · refine zn_iconst (x := 0) F d_Mo_isState_26 (by decide) ?_
      exact zv_zret F d_Mo_isState_27 (Nat.le_of_ble_eq_true rfl) (Nat.le_of_ble_eq_true rfl) (by first | rfl | exact zn_nb _) (by first | exact ⟨zn_bt (decide_eq_true (by omega)), rfl, rfl⟩ | exact ⟨zn_bf (decide_eq_false (by omega)), rfl, rfl⟩)
    · refine zv_iload_n F d_Mo_isState_12 rfl ?_
      refine zv_aload_n F d_Mo_isState_13 rfl ?_
      refine zv_get F d_Mo_isState_14 (by assumption) k_Mo 1 (Nat.le_of_ble_eq_true rfl) ln_Mo_7 rfl (by rfl) ?_
      refine zv_iload_n F d_Mo_isState_17 rfl ?_
      refine zn_iald F d_Mo_isState_18 (by assumption) (by omega) (by omega) ?_
      refine zn_icmp_ge (tgt := 26) F d_Mo_isState_19 rfl (by omega) (by omega) (fun h19 => ?_) (fun h19 => ?_)
      · refine zn_iconst (x := 0) F d_Mo_isState_26 (by decide) ?_
        exact zv_zret F d_Mo_isState_27 (Nat.le_of_ble_eq_true rfl) (Nat.le_of_ble_eq_true rfl) (by first | rfl | exact zn_nb _) (by first | exact ⟨zn_bt (decide_eq_true (by omega)), rfl, rfl⟩ | exact ⟨zn_bf (decide_eq_false (by omega)), rfl, rfl⟩)
      · refine zn_iconst (x := 1) F d_Mo_isState_22 (by decide) ?_
        refine zv_goto (tgt := 27) F d_Mo_isState_23 rfl ?_
        exact zv_zret F d_Mo_isState_27 (Nat.le_of_ble_eq_true rfl) (Nat.le_of_ble_eq_true rfl) (by first | rfl | exact zn_nb _) (by first | exact ⟨zn_bt (decide_eq_true (by omega)), rfl, rfl⟩ | exact ⟨zn_bf (decide_eq_false (by omega)), rfl, rfl⟩)
theorem Mo_next_ok {l : Launch} {Δ : zv_D} {hp : zv_M} {sz : Nat} {y c el i q b : Nat} {ns gg gd wd pr : Nat → Nat} (hat : mo_at Δ hp y c ns gg gd el wd pr) (hc : c ≤ 12) (hi : i < 4294967296) (hq : q < 4294967296) (hb : b < 4294967296) (hn : i < c → ns i ≤ 6) : zv_P l Δ 2 y_Mo_next b_Mo_next 4 ((some (FieldType.int))) [.ref y, .int (nI i), .int (nI q), .int (nI b)] hp sz (.int (nI (if i < c ∧ q < ns i ∧ b < 2 then mo_G gg i (2 * q + b) else 4294967295))) := by
  refine zv_E.intro (lv0 := [some (.ref y), some (.int (nI i)), some (.int (nI q)), some (.int (nI b))]) rfl (Nat.le_of_ble_eq_true rfl) rfl ?_
  intro Γ hl F
  clear hl
  have hat0 := hat
  obtain ⟨⟨op, fi, se, st, f0⟩, f1, f2, f3, hrest⟩ := hat
  refine zv_aload_n F d_Mo_next_0 rfl ?_
  refine zv_iload_n F d_Mo_next_1 rfl ?_
  refine zv_iload_n F d_Mo_next_2 rfl ?_
  refine zv_pV2 F rfl (by assumption) k_Mo.1 d_Mo_next_3 (Mo_isState_ok hat0 hc hi hq hn) Y_Mo_isState Yi_Mo_isState Yv_Mo_isState ln_Mo_111 ⟨(Nat.le_of_ble_eq_true rfl), (Nat.le_of_ble_eq_true rfl)⟩ (Nat.le_of_ble_eq_true rfl) ⟨(Nat.le_of_ble_eq_true rfl), (Nat.le_of_ble_eq_true rfl)⟩ ?_
  first | refine zn_bif_eq (tgt := 28) F d_Mo_next_6 rfl (fun h6 => ?_) (fun h6 => ?_) | refine zn_if_eq (tgt := 28) F d_Mo_next_6 rfl (by omega) (fun h6 => ?_) (fun h6 => ?_)
  · have h6 := of_decide_eq_false h6
    refine zn_iconst (x := 4294967295) F d_Mo_next_28 (by decide) ?_
    exact zv_iret F d_Mo_next_29 (Nat.le_of_ble_eq_true rfl) (Nat.le_of_ble_eq_true rfl) ⟨zn_rt (by first | rw [if_pos (by omega)] | rw [if_neg (by omega)]), rfl, rfl⟩
  · have h6 := of_decide_eq_true h6
    have hni := hn h6.1
    refine zv_iload_n F d_Mo_next_9 rfl ?_
    first | refine zn_bif_eq (tgt := 18) F d_Mo_next_10 rfl (fun h10 => ?_) (fun h10 => ?_) | refine zn_if_eq (tgt := 18) F d_Mo_next_10 rfl (by omega) (fun h10 => ?_) (fun h10 => ?_)
    · refine zv_aload_n F d_Mo_next_18 rfl ?_
      refine zv_iload_n F d_Mo_next_19 rfl ?_
      refine zv_iload_n F d_Mo_next_20 rfl ?_
      refine zv_iload_n F d_Mo_next_21 rfl ?_
      refine zv_pV3 F rfl (by assumption) k_Mo.1 d_Mo_next_22 (Mo_step_ok f0 f2 (by omega)) Y_Mo_step Yi_Mo_step Yv_Mo_step ln_Mo_55 ⟨(Nat.le_of_ble_eq_true rfl), (Nat.le_of_ble_eq_true rfl)⟩ (Nat.le_of_ble_eq_true rfl) ⟨(Nat.le_of_ble_eq_true rfl), (Nat.le_of_ble_eq_true rfl)⟩ ?_
      refine zv_goto (tgt := 29) F d_Mo_next_25 rfl ?_
      exact zv_iret F d_Mo_next_29 (Nat.le_of_ble_eq_true rfl) (Nat.le_of_ble_eq_true rfl) ⟨zn_rt (by first | rw [if_pos (by omega)] | rw [if_neg (by omega)]), rfl, rfl⟩
    · refine zv_iload_n F d_Mo_next_13 rfl ?_
      refine zn_iconst (x := 1) F d_Mo_next_14 (by decide) ?_
      refine zn_icmp_ne (tgt := 28) F d_Mo_next_15 rfl (by omega) (by omega) (fun h15 => ?_) (fun h15 => ?_)
      · refine zn_iconst (x := 4294967295) F d_Mo_next_28 (by decide) ?_
        exact zv_iret F d_Mo_next_29 (Nat.le_of_ble_eq_true rfl) (Nat.le_of_ble_eq_true rfl) ⟨zn_rt (by first | rw [if_pos (by omega)] | rw [if_neg (by omega)]), rfl, rfl⟩
      · refine zv_aload_n F d_Mo_next_18 rfl ?_
        refine zv_iload_n F d_Mo_next_19 rfl ?_
        refine zv_iload_n F d_Mo_next_20 rfl ?_
        refine zv_iload_n F d_Mo_next_21 rfl ?_
        refine zv_pV3 F rfl (by assumption) k_Mo.1 d_Mo_next_22 (Mo_step_ok f0 f2 (by omega)) Y_Mo_step Yi_Mo_step Yv_Mo_step ln_Mo_55 ⟨(Nat.le_of_ble_eq_true rfl), (Nat.le_of_ble_eq_true rfl)⟩ (Nat.le_of_ble_eq_true rfl) ⟨(Nat.le_of_ble_eq_true rfl), (Nat.le_of_ble_eq_true rfl)⟩ ?_
        refine zv_goto (tgt := 29) F d_Mo_next_25 rfl ?_
        exact zv_iret F d_Mo_next_29 (Nat.le_of_ble_eq_true rfl) (Nat.le_of_ble_eq_true rfl) ⟨zn_rt (by first | rw [if_pos (by omega)] | rw [if_neg (by omega)]), rfl, rfl⟩
theorem Mo_accepts_ok {l : Launch} {Δ : zv_D} {hp : zv_M} {sz : Nat} {y c el i q : Nat} {ns gg gd wd pr : Nat → Nat} (hat : mo_at Δ hp y c ns gg gd el wd pr) (hc : c ≤ 12) (hb : mo_b gg gd) (hi : i < 4294967296) (hq : q < 4294967296) (hn : i < c → ns i ≤ 6) : zv_P l Δ 2 y_Mo_accepts b_Mo_accepts 3 ((some (FieldType.boolean))) [.ref y, .int (nI i), .int (nI q)] hp sz (.int (nI (decide (i < c ∧ q < ns i ∧ gd i / 2 ^ q % 2 = 1)).toNat)) := by
  refine zv_E.intro (lv0 := [some (.ref y), some (.int (nI i)), some (.int (nI q))]) rfl (Nat.le_of_ble_eq_true rfl) rfl ?_
  intro Γ hl F
  clear hl
  have hat0 := hat
  obtain ⟨⟨op, fi, se, st, f0⟩, f1, f2, f3, hrest⟩ := hat
  refine zv_aload_n F d_Mo_accepts_0 rfl ?_
  refine zv_iload_n F d_Mo_accepts_1 rfl ?_
  refine zv_iload_n F d_Mo_accepts_2 rfl ?_
  refine zv_pV2 F rfl (by assumption) k_Mo.1 d_Mo_accepts_3 (Mo_isState_ok hat0 hc hi hq hn) Y_Mo_isState Yi_Mo_isState Yv_Mo_isState ln_Mo_111 ⟨(Nat.le_of_ble_eq_true rfl), (Nat.le_of_ble_eq_true rfl)⟩ (Nat.le_of_ble_eq_true rfl) ⟨(Nat.le_of_ble_eq_true rfl), (Nat.le_of_ble_eq_true rfl)⟩ ?_
  first | refine zn_bif_eq (tgt := 22) F d_Mo_accepts_6 rfl (fun h6 => ?_) (fun h6 => ?_) | refine zn_if_eq (tgt := 22) F d_Mo_accepts_6 rfl (by omega) (fun h6 => ?_) (fun h6 => ?_)
  · have h6 := of_decide_eq_false h6
    refine zn_iconst (x := 0) F d_Mo_accepts_22 (by decide) ?_
    exact zv_zret F d_Mo_accepts_23 (Nat.le_of_ble_eq_true rfl) (Nat.le_of_ble_eq_true rfl) (by first | rfl | exact zn_nb _) (by first | exact ⟨zn_bt (decide_eq_true (by omega)), rfl, rfl⟩ | exact ⟨zn_bf (decide_eq_false (by omega)), rfl, rfl⟩)
  · have h6 := of_decide_eq_true h6
    have hni := hn h6.1
    refine zv_aload_n F d_Mo_accepts_9 rfl ?_
    refine zv_iload_n F d_Mo_accepts_10 rfl ?_
    refine zv_iload_n F d_Mo_accepts_11 rfl ?_
    refine zv_pV2 F rfl (by assumption) k_Mo.1 d_Mo_accepts_12 (Mo_isGood_ok f0 f3 (by omega) (hb.2 i (by omega)) (by omega)) Y_Mo_isGood Yi_Mo_isGood Yv_Mo_isGood ln_Mo_65 ⟨(Nat.le_of_ble_eq_true rfl), (Nat.le_of_ble_eq_true rfl)⟩ (Nat.le_of_ble_eq_true rfl) ⟨(Nat.le_of_ble_eq_true rfl), (Nat.le_of_ble_eq_true rfl)⟩ ?_
    first | refine zn_bif_eq (tgt := 22) F d_Mo_accepts_15 rfl (fun h15 => ?_) (fun h15 => ?_) | refine zn_if_eq (tgt := 22) F d_Mo_accepts_15 rfl (by omega) (fun h15 => ?_) (fun h15 => ?_)
    · have h15 := of_decide_eq_false h15
      refine zn_iconst (x := 0) F d_Mo_accepts_22 (by decide) ?_
      exact zv_zret F d_Mo_accepts_23 (Nat.le_of_ble_eq_true rfl) (Nat.le_of_ble_eq_true rfl) (by first | rfl | exact zn_nb _) (by first | exact ⟨zn_bt (decide_eq_true (by omega)), rfl, rfl⟩ | exact ⟨zn_bf (decide_eq_false (by omega)), rfl, rfl⟩)
    · have h15 := of_decide_eq_true h15
      refine zn_iconst (x := 1) F d_Mo_accepts_18 (by decide) ?_
      refine zv_goto (tgt := 23) F d_Mo_accepts_19 rfl ?_
      exact zv_zret F d_Mo_accepts_23 (Nat.le_of_ble_eq_true rfl) (Nat.le_of_ble_eq_true rfl) (by first | rfl | exact zn_nb _) (by first | exact ⟨zn_bt (decide_eq_true (by omega)), rfl, rfl⟩ | exact ⟨zn_bf (decide_eq_false (by omega)), rfl, rfl⟩)
theorem Mo_contains_ok {l : Launch} {Δ : zv_D} {hp : zv_M} {sz : Nat} {y c el i w m : Nat} {ns gg gd wd pr : Nat → Nat} (hat : mo_at Δ hp y c ns gg gd el wd pr) (hc : c ≤ 12) (hb : mo_b gg gd) (hi : i < 4294967296) (hw : w < 18446744073709551616) (hm : m < 4294967296) : zv_P l Δ 1 y_Mo_contains b_Mo_contains 7 ((some (FieldType.boolean))) [.ref y, .int (nI i), .long (lN w), .int (nI m)] hp sz (.int (nI (decide (i < c ∧ m ≤ 64 ∧ gd i / 2 ^ la_go (mo_G gg i) w m % 2 = 1)).toNat)) := by
  refine zv_E.intro (lv0 := [some (.ref y), some (.int (nI i)), some (.long (lN w)), none, some (.int (nI m)), none, none]) rfl (Nat.le_of_ble_eq_true rfl) rfl ?_
  intro Γ hl F
  clear hl
  obtain ⟨⟨op, fi, se, st, f0⟩, f1, f2, f3, hrest⟩ := hat
  have loop : ∀ (z k : Nat), z = m - k → k ≤ m → i < c → m ≤ 64 → la_go (mo_G gg i) w k < 6 → zv_V Δ Γ (zv_QQ Δ Γ 0 0 (fun r hp1 sz1 => r = some (.int (nI (decide (i < c ∧ m ≤ 64 ∧ gd i / 2 ^ la_go (mo_G gg i) w m % 2 = 1)).toNat)) ∧ hp1 = hp ∧ sz1 = sz)) 28 [some (.ref y), some (.int (nI i)), some (.long (lN w)), none, some (.int (nI m)), some (.int (nI (la_go (mo_G gg i) w k))), some (.int (nI k))] [] hp sz 0 0 := by
    intro z
    induction z using Nat.strongRecOn with
    | ind z ih =>
      intro k hz hk hic hm64 h6
      refine zv_iload F d_Mo_contains_28 rfl ?_
      refine zv_iload F d_Mo_contains_30 rfl ?_
      refine zn_icmp_ge (tgt := 57) F d_Mo_contains_32 rfl (by omega) (by omega) (fun h32 => ?_) (fun h32 => ?_)
      · refine zv_aload_n F d_Mo_contains_57 rfl ?_
        refine zv_iload_n F d_Mo_contains_58 rfl ?_
        refine zv_iload F d_Mo_contains_59 rfl ?_
        refine zv_pV2 F rfl (by assumption) k_Mo.1 d_Mo_contains_61 (Mo_isGood_ok f0 f3 (by omega) (hb.2 i (by omega)) (by omega)) Y_Mo_isGood Yi_Mo_isGood Yv_Mo_isGood ln_Mo_65 ⟨(Nat.le_of_ble_eq_true rfl), (Nat.le_of_ble_eq_true rfl)⟩ (Nat.le_of_ble_eq_true rfl) ⟨(Nat.le_of_ble_eq_true rfl), (Nat.le_of_ble_eq_true rfl)⟩ ?_
        exact zv_zret F d_Mo_contains_64 (Nat.le_of_ble_eq_true rfl) (Nat.le_of_ble_eq_true rfl) (by first | rfl | exact zn_nb _) ⟨by rw [show k = m by omega]; unfold pm_tb; congr 4; exact decide_eq_decide.mpr ⟨fun h => ⟨hic, hm64, h⟩, fun h => h.2.2⟩, rfl, rfl⟩
      · refine zv_aload_n F d_Mo_contains_35 rfl ?_
        refine zv_iload_n F d_Mo_contains_36 rfl ?_
        refine zv_iload F d_Mo_contains_37 rfl ?_
        refine zv_lload_n F d_Mo_contains_39 rfl ?_
        refine zv_iload F d_Mo_contains_40 rfl ?_
        refine zn_lushr F d_Mo_contains_42 (by omega) (by omega) ?_
        refine zn_lconst (x := 1) F d_Mo_contains_43 (by decide) ?_
        refine zn_land F d_Mo_contains_44 ?_
        rw [Nat.and_one_is_mod]
        have h7 : mo_G gg i (2 * la_go (mo_G gg i) w k + w / 2 ^ k % 2) < 6 := hb.1 _ (by omega)
        refine zn_l2i F d_Mo_contains_45 ?_
        refine zv_pV3 F rfl (by assumption) k_Mo.1 d_Mo_contains_46 (Mo_step_ok f0 f2 (by omega)) Y_Mo_step Yi_Mo_step Yv_Mo_step ln_Mo_55 ⟨(Nat.le_of_ble_eq_true rfl), (Nat.le_of_ble_eq_true rfl)⟩ (Nat.le_of_ble_eq_true rfl) ⟨(Nat.le_of_ble_eq_true rfl), (Nat.le_of_ble_eq_true rfl)⟩ ?_
        refine zv_istore F d_Mo_contains_49 (Nat.le_of_ble_eq_true rfl) ?_
        simp only [zv_s1, zv_s2, zv_kill, List.set_cons_zero, List.set_cons_succ, List.getElem?_cons_zero, List.getElem?_cons_succ]
        refine zn_iinc F d_Mo_contains_51 rfl ?_
        simp only [zv_s1, zv_s2, zv_kill, List.set_cons_zero, List.set_cons_succ, List.getElem?_cons_zero, List.getElem?_cons_succ]
        refine zv_goto (tgt := 28) F d_Mo_contains_54 rfl ?_
        exact zv_weak (by repeat' (first | exact True.intro | refine And.intro rfl ?_)) (ih (m - (k + 1)) (by omega) (k + 1) rfl (by omega) hic hm64 h7)
  refine zv_aload_n F d_Mo_contains_0 rfl ?_
  refine zv_iload_n F d_Mo_contains_1 rfl ?_
  refine zv_pV1 F rfl (by assumption) k_Mo.1 d_Mo_contains_2 (Mo_isIn_ok f0 hc hi) Y_Mo_isIn Yi_Mo_isIn Yv_Mo_isIn ln_Mo_105 ⟨(Nat.le_of_ble_eq_true rfl), (Nat.le_of_ble_eq_true rfl)⟩ (Nat.le_of_ble_eq_true rfl) ⟨(Nat.le_of_ble_eq_true rfl), (Nat.le_of_ble_eq_true rfl)⟩ ?_
  first | refine zn_bif_eq (tgt := 20) F d_Mo_contains_5 rfl (fun h5 => ?_) (fun h5 => ?_) | refine zn_if_eq (tgt := 20) F d_Mo_contains_5 rfl (by omega) (fun h5 => ?_) (fun h5 => ?_)
  · have h5 := of_decide_eq_false h5
    refine zn_iconst (x := 0) F d_Mo_contains_20 (by decide) ?_
    exact zv_zret F d_Mo_contains_21 (Nat.le_of_ble_eq_true rfl) (Nat.le_of_ble_eq_true rfl) (by first | rfl | exact zn_nb _) ⟨zn_bf (decide_eq_false (by omega)), rfl, rfl⟩
  · have h5 := of_decide_eq_true h5
    refine zv_iload F d_Mo_contains_8 rfl ?_
    refine zn_if_lt (tgt := 20) F d_Mo_contains_10 rfl (by omega) (fun h10 => ?_) (fun h10 => ?_)
    · refine zn_iconst (x := 0) F d_Mo_contains_20 (by decide) ?_
      exact zv_zret F d_Mo_contains_21 (Nat.le_of_ble_eq_true rfl) (Nat.le_of_ble_eq_true rfl) (by first | rfl | exact zn_nb _) ⟨zn_bf (decide_eq_false (by omega)), rfl, rfl⟩
    · refine zv_iload F d_Mo_contains_13 rfl ?_
      refine zn_bipush (x := 64) F d_Mo_contains_15 (by decide) ?_
      refine zn_icmp_le (tgt := 22) F d_Mo_contains_17 rfl (by omega) (by omega) (fun h17 => ?_) (fun h17 => ?_)
      · refine zn_iconst (x := 0) F d_Mo_contains_22 (by decide) ?_
        refine zv_istore F d_Mo_contains_23 (Nat.le_of_ble_eq_true rfl) ?_
        simp only [zv_s1, zv_s2, zv_kill, List.set_cons_zero, List.set_cons_succ, List.getElem?_cons_zero, List.getElem?_cons_succ]
        refine zn_iconst (x := 0) F d_Mo_contains_25 (by decide) ?_
        refine zv_istore F d_Mo_contains_26 (Nat.le_of_ble_eq_true rfl) ?_
        simp only [zv_s1, zv_s2, zv_kill, List.set_cons_zero, List.set_cons_succ, List.getElem?_cons_zero, List.getElem?_cons_succ]
        exact zv_weak (by repeat' (first | exact True.intro | refine And.intro rfl ?_)) (loop _ 0 rfl (Nat.zero_le _) h5 (by omega) (by show 0 < 6; decide))
      · refine zn_iconst (x := 0) F d_Mo_contains_20 (by decide) ?_
        exact zv_zret F d_Mo_contains_21 (Nat.le_of_ble_eq_true rfl) (Nat.le_of_ble_eq_true rfl) (by first | rfl | exact zn_nb _) ⟨zn_bf (decide_eq_false (by omega)), rfl, rfl⟩

