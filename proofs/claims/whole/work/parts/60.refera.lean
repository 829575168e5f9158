theorem zv_lookup {Δ : zv_D} {Γ : zv_C} {Q : State → Prop} {own nm : String} {cc : ByteArray} {nL : Nat} {ret : Option FieldType} {R : Room} {pc : Nat} {lv : List (Option Value)} {st : List Value} {hp : zv_M} {sz ce sl : Nat} (F : zv_F Δ Γ own nm cc nL ret R) {dflt : Int} {ps : Array (Int × Int)} {len : Nat} {x : Int32} {off : Int} {tgt : Nat} (hd : decode cc pc = .ok (.lookupswitch dflt ps, len)) (hp2 : (ps.toList.zip (ps.toList.drop 1)).all (fun (a, next) => a.1 < next.1) = true) (ho : Op.lookupswitch.offset ps.toList dflt x.toInt = off) (ht : (pc : Int) + off = (tgt : Int)) (k : zv_V Δ Γ Q tgt lv st hp sz ce sl) : zv_V Δ Γ Q pc lv (.int x :: st) hp sz ce sl := by
  obtain ⟨p, l, e, R0, s, m, args, below, meth, c⟩ := Γ
  obtain ⟨hx, hb, hml, hown, hts, hT, hr, hlk, hnm, hR⟩ := F
  intro H locs ls hH hlo hL
  exact lv_lookup hx hb hd hp2 ho ht (k H locs ls hH hlo hL)
theorem Mo_isElement_ok {l : Launch} {Δ : zv_D} {hp : zv_M} {sz : Nat} {y c op fi se st el k : Nat} (f0 : hp y = some (mo_obj y c op fi se st el)) (he : el ≤ 60) (hk : k < 4294967296) : zv_P l Δ 0 y_Mo_isElement b_Mo_isElement 2 ((some (FieldType.boolean))) [.ref y, .int (nI k)] hp sz (.int (nI (decide (k < el)).toNat)) := by
  refine zv_E.intro (lv0 := [some (.ref y), some (.int (nI k))]) rfl (Nat.le_of_ble_eq_true rfl) rfl ?_
  intro Γ hl F
  clear hl
  refine zv_iload_n F d_Mo_isElement_0 rfl ?_
  refine zn_if_lt (tgt := 16) F d_Mo_isElement_1 rfl (by omega) (fun h1 => ?_) (fun h1 => ?_)
  · refine zn_iconst (x := 0) F d_Mo_isElement_16 (by decide) ?_
    exact zv_zret F d_Mo_isElement_17 (Nat.le_of_ble_eq_true rfl) (Nat.le_of_ble_eq_true rfl) (by first | rfl | exact zn_nb _) (by first | exact ⟨zn_bt (decide_eq_true (by omega)), rfl, rfl⟩ | exact ⟨zn_bf (decide_eq_false (by omega)), rfl, rfl⟩)
  · refine zv_iload_n F d_Mo_isElement_4 rfl ?_
    refine zv_aload_n F d_Mo_isElement_5 rfl ?_
    refine zv_get F d_Mo_isElement_6 (by assumption) k_Mo 13 (Nat.le_of_ble_eq_true rfl) ln_Mo_130 rfl (by rfl) ?_
    refine zn_icmp_ge (tgt := 16) F d_Mo_isElement_9 rfl (by omega) (by omega) (fun h9 => ?_) (fun h9 => ?_)
    · refine zn_iconst (x := 0) F d_Mo_isElement_16 (by decide) ?_
      exact zv_zret F d_Mo_isElement_17 (Nat.le_of_ble_eq_true rfl) (Nat.le_of_ble_eq_true rfl) (by first | rfl | exact zn_nb _) (by first | exact ⟨zn_bt (decide_eq_true (by omega)), rfl, rfl⟩ | exact ⟨zn_bf (decide_eq_false (by omega)), rfl, rfl⟩)
    · refine zn_iconst (x := 1) F d_Mo_isElement_12 (by decide) ?_
      refine zv_goto (tgt := 17) F d_Mo_isElement_13 rfl ?_
      exact zv_zret F d_Mo_isElement_17 (Nat.le_of_ble_eq_true rfl) (Nat.le_of_ble_eq_true rfl) (by first | rfl | exact zn_nb _) (by first | exact ⟨zn_bt (decide_eq_true (by omega)), rfl, rfl⟩ | exact ⟨zn_bf (decide_eq_false (by omega)), rfl, rfl⟩)
theorem Mo_elements_ok {l : Launch} {Δ : zv_D} {hp : zv_M} {sz : Nat} {y c el : Nat} {ns gg gd wd pr : Nat → Nat} (hat : mo_at Δ hp y c ns gg gd el wd pr) (he : el ≤ 60) : zv_P l Δ 0 y_Mo_elements b_Mo_elements 1 ((some (FieldType.int))) [.ref y] hp sz (.int (nI (if 0 < el then el else 4294967295))) := by
  refine zv_E.intro (lv0 := [some (.ref y)]) rfl (Nat.le_of_ble_eq_true rfl) rfl ?_
  intro Γ hl F
  clear hl
  obtain ⟨⟨op, fi, se, st, f0⟩, f1, f2, f3, hrest⟩ := hat
  refine zv_aload_n F d_Mo_elements_0 rfl ?_
  refine zv_get F d_Mo_elements_1 (by assumption) k_Mo 13 (Nat.le_of_ble_eq_true rfl) ln_Mo_130 rfl (by rfl) ?_
  first | refine zn_bif_ne (tgt := 11) F d_Mo_elements_4 rfl (fun h4 => ?_) (fun h4 => ?_) | refine zn_if_ne (tgt := 11) F d_Mo_elements_4 rfl (by omega) (fun h4 => ?_) (fun h4 => ?_)
  · refine zv_aload_n F d_Mo_elements_11 rfl ?_
    refine zv_get F d_Mo_elements_12 (by assumption) k_Mo 13 (Nat.le_of_ble_eq_true rfl) ln_Mo_130 rfl (by rfl) ?_
    exact zv_iret F d_Mo_elements_15 (Nat.le_of_ble_eq_true rfl) (Nat.le_of_ble_eq_true rfl) ⟨zn_rt (by first | rw [if_pos (by omega)] | rw [if_neg (by omega)]), rfl, rfl⟩
  · refine zn_iconst (x := 4294967295) F d_Mo_elements_7 (by decide) ?_
    refine zv_goto (tgt := 15) F d_Mo_elements_8 rfl ?_
    exact zv_iret F d_Mo_elements_15 (Nat.le_of_ble_eq_true rfl) (Nat.le_of_ble_eq_true rfl) ⟨zn_rt (by first | rw [if_pos (by omega)] | rw [if_neg (by omega)]), rfl, rfl⟩
theorem Mo_word_ok {l : Launch} {Δ : zv_D} {hp : zv_M} {sz : Nat} {y c el k : Nat} {ns gg gd wd pr : Nat → Nat} (hat : mo_at Δ hp y c ns gg gd el wd pr) (he : el ≤ 60) (hk : k < 4294967296) : zv_P l Δ 1 y_Mo_word b_Mo_word 2 ((some (FieldType.long))) [.ref y, .int (nI k)] hp sz (.long (lN (if k < el then wd k else 18446744073709551615))) := by
  refine zv_E.intro (lv0 := [some (.ref y), some (.int (nI k))]) rfl (Nat.le_of_ble_eq_true rfl) rfl ?_
  intro Γ hl F
  clear hl
  obtain ⟨⟨op, fi, se, st, f0⟩, f1, f2, f3, sa, mr, mt, ln, ds, fd, fw, sn, f4, f5, f6, f7, f8, f9, fa, fb, fc, fd0⟩ := hat
  refine zv_aload_n F d_Mo_word_0 rfl ?_
  refine zv_iload_n F d_Mo_word_1 rfl ?_
  refine zv_pV1 F rfl (by assumption) k_Mo.1 d_Mo_word_2 (Mo_isElement_ok f0 he hk) Y_Mo_isElement Yi_Mo_isElement Yv_Mo_isElement ln_Mo_136 ⟨(Nat.le_of_ble_eq_true rfl), (Nat.le_of_ble_eq_true rfl)⟩ (Nat.le_of_ble_eq_true rfl) ⟨(Nat.le_of_ble_eq_true rfl), (Nat.le_of_ble_eq_true rfl)⟩ ?_
  first | refine zn_bif_eq (tgt := 17) F d_Mo_word_5 rfl (fun h5 => ?_) (fun h5 => ?_) | refine zn_if_eq (tgt := 17) F d_Mo_word_5 rfl (by omega) (fun h5 => ?_) (fun h5 => ?_)
  · have h5 := of_decide_eq_false h5
    refine zn_ldc2 (x := 18446744073709551615) F d_Mo_word_17 ln_Mo_139 (by decide) ?_
    exact zv_lret F d_Mo_word_20 (Nat.le_of_ble_eq_true rfl) (Nat.le_of_ble_eq_true rfl) ⟨zn_rl (by first | rw [if_pos h5] | rw [if_neg h5]), rfl, rfl⟩
  · have h5 := of_decide_eq_true h5
    refine zv_aload_n F d_Mo_word_8 rfl ?_
    refine zv_get F d_Mo_word_9 (by assumption) k_Mo 15 (Nat.le_of_ble_eq_true rfl) ln_Mo_39 rfl (by rfl) ?_
    refine zv_iload_n F d_Mo_word_12 rfl ?_
    refine zn_lald F d_Mo_word_13 (by assumption) (by omega) (by omega) ?_
    refine zv_goto (tgt := 20) F d_Mo_word_14 rfl ?_
    exact zv_lret F d_Mo_word_20 (Nat.le_of_ble_eq_true rfl) (Nat.le_of_ble_eq_true rfl) ⟨zn_rl (by first | rw [if_pos h5] | rw [if_neg h5]), rfl, rfl⟩
theorem Mo_product_ok {l : Launch} {Δ : zv_D} {hp : zv_M} {sz : Nat} {y c el j k : Nat} {ns gg gd wd pr : Nat → Nat} (hat : mo_at Δ hp y c ns gg gd el wd pr) (he : el ≤ 60) (hj : j < 4294967296) (hk : k < 4294967296) : zv_P l Δ 1 y_Mo_product b_Mo_product 3 ((some (FieldType.int))) [.ref y, .int (nI j), .int (nI k)] hp sz (.int (nI (if j < el ∧ k < el then pr (60 * j + k) else 4294967295))) := by
  refine zv_E.intro (lv0 := [some (.ref y), some (.int (nI j)), some (.int (nI k))]) rfl (Nat.le_of_ble_eq_true rfl) rfl ?_
  intro Γ hl F
  clear hl
  obtain ⟨⟨op, fi, se, st, f0⟩, f1, f2, f3, sa, mr, mt, ln, ds, fd, fw, sn, f4, f5, f6, f7, f8, f9, fa, fb, fc, fd0⟩ := hat
  refine zv_aload_n F d_Mo_product_0 rfl ?_
  refine zv_iload_n F d_Mo_product_1 rfl ?_
  refine zv_pV1 F rfl (by assumption) k_Mo.1 d_Mo_product_2 (Mo_isElement_ok f0 he hj) Y_Mo_isElement Yi_Mo_isElement Yv_Mo_isElement ln_Mo_136 ⟨(Nat.le_of_ble_eq_true rfl), (Nat.le_of_ble_eq_true rfl)⟩ (Nat.le_of_ble_eq_true rfl) ⟨(Nat.le_of_ble_eq_true rfl), (Nat.le_of_ble_eq_true rfl)⟩ ?_
  first | refine zn_bif_eq (tgt := 30) F d_Mo_product_5 rfl (fun h5 => ?_) (fun h5 => ?_) | refine zn_if_eq (tgt := 30) F d_Mo_product_5 rfl (by omega) (fun h5 => ?_) (fun h5 => ?_)
  · have h5 := of_decide_eq_false h5
    refine zn_iconst (x := 4294967295) F d_Mo_product_30 (by decide) ?_
    exact zv_iret F d_Mo_product_31 (Nat.le_of_ble_eq_true rfl) (Nat.le_of_ble_eq_true rfl) ⟨zn_rt (by first | rw [if_pos (by omega)] | rw [if_neg (by omega)]), rfl, rfl⟩
  · have h5 := of_decide_eq_true h5
    refine zv_aload_n F d_Mo_product_8 rfl ?_
    refine zv_iload_n F d_Mo_product_9 rfl ?_
    refine zv_pV1 F rfl (by assumption) k_Mo.1 d_Mo_product_10 (Mo_isElement_ok f0 he hk) Y_Mo_isElement Yi_Mo_isElement Yv_Mo_isElement ln_Mo_136 ⟨(Nat.le_of_ble_eq_true rfl), (Nat.le_of_ble_eq_true rfl)⟩ (Nat.le_of_ble_eq_true rfl) ⟨(Nat.le_of_ble_eq_true rfl), (Nat.le_of_ble_eq_true rfl)⟩ ?_
    first | refine zn_bif_eq (tgt := 30) F d_Mo_product_13 rfl (fun h13 => ?_) (fun h13 => ?_) | refine zn_if_eq (tgt := 30) F d_Mo_product_13 rfl (by omega) (fun h13 => ?_) (fun h13 => ?_)
    · have h13 := of_decide_eq_false h13
      refine zn_iconst (x := 4294967295) F d_Mo_product_30 (by decide) ?_
      exact zv_iret F d_Mo_product_31 (Nat.le_of_ble_eq_true rfl) (Nat.le_of_ble_eq_true rfl) ⟨zn_rt (by first | rw [if_pos (by omega)] | rw [if_neg (by omega)]), rfl, rfl⟩
    · have h13 := of_decide_eq_true h13
      refine zv_aload_n F d_Mo_product_16 rfl ?_
      refine zv_get F d_Mo_product_17 (by assumption) k_Mo 18 (Nat.le_of_ble_eq_true rfl) ln_Mo_48 rfl (by rfl) ?_
      refine zn_bipush (x := 60) F d_Mo_product_20 (by decide) ?_
      refine zv_iload_n F d_Mo_product_22 rfl ?_
      refine zn_imul F d_Mo_product_23 ?_
      refine zv_iload_n F d_Mo_product_24 rfl ?_
      refine zn_iadd F d_Mo_product_25 ?_
      refine zn_iald F d_Mo_product_26 (by assumption) (by omega) (by omega) ?_
      refine zv_goto (tgt := 31) F d_Mo_product_27 rfl ?_
      exact zv_iret F d_Mo_product_31 (Nat.le_of_ble_eq_true rfl) (Nat.le_of_ble_eq_true rfl) ⟨zn_rt (by first | rw [if_pos (by omega)] | rw [if_neg (by omega)]), rfl, rfl⟩
theorem Mo_rightOf_ok {l : Launch} {Δ : zv_D} {hp : zv_M} {sz : Nat} {y c op fi se st el j : Nat} {pr : Nat → Nat} (f0 : hp y = some (mo_obj y c op fi se st el)) (fd0 : hp (y + 13) = some (zn_I Δ 3600 pr)) (he : el ≤ 60) (hpr : ∀ j k, j < el → k < el → pr (60 * j + k) < el) (hj : j < el) : zv_P l Δ 0 y_Mo_rightOf b_Mo_rightOf 5 ((some (FieldType.long))) [.ref y, .int (nI j)] hp sz (.long (lN (al_r el pr j))) := by
  refine zv_E.intro (lv0 := [some (.ref y), some (.int (nI j)), none, none, none]) rfl (Nat.le_of_ble_eq_true rfl) rfl ?_
  intro Γ hl F
  clear hl
  have loop : ∀ (m x : Nat), m = el - x → x ≤ el → zv_V Δ Γ (zv_QQ Δ Γ 0 0 (fun r hp1 sz1 => r = some (.long (lN (al_r el pr j))) ∧ hp1 = hp ∧ sz1 = sz)) 5 [some (.ref y), some (.int (nI j)), some (.long (lN (al_or (fun x => 2 ^ pr (60 * j + x)) x))), none, some (.int (nI x))] [] hp sz 0 0 := by
    intro m
    induction m using Nat.strongRecOn with
    | ind m ih =>
      intro x hm hx
      refine zv_iload F d_Mo_rightOf_5 rfl ?_
      refine zv_aload_n F d_Mo_rightOf_7 rfl ?_
      refine zv_get F d_Mo_rightOf_8 (by assumption) k_Mo 13 (Nat.le_of_ble_eq_true rfl) ln_Mo_130 rfl (by rfl) ?_
      refine zn_icmp_ge (tgt := 37) F d_Mo_rightOf_11 rfl (by omega) (by omega) (fun h11 => ?_) (fun h11 => ?_)
      · refine zv_lload_n F d_Mo_rightOf_37 rfl ?_
        exact zv_lret F d_Mo_rightOf_38 (Nat.le_of_ble_eq_true rfl) (Nat.le_of_ble_eq_true rfl) ⟨zn_rl (by rw [show x = el by omega]; rfl), rfl, rfl⟩
      · have hp1 := hpr j x hj h11
        refine zv_lload_n F d_Mo_rightOf_14 rfl ?_
        refine zn_lconst (x := 1) F d_Mo_rightOf_15 (by decide) ?_
        refine zv_aload_n F d_Mo_rightOf_16 rfl ?_
        refine zv_get F d_Mo_rightOf_17 (by assumption) k_Mo 18 (Nat.le_of_ble_eq_true rfl) ln_Mo_48 rfl (by rfl) ?_
        refine zn_bipush (x := 60) F d_Mo_rightOf_20 (by decide) ?_
        refine zv_iload_n F d_Mo_rightOf_22 rfl ?_
        refine zn_imul F d_Mo_rightOf_23 ?_
        refine zv_iload F d_Mo_rightOf_24 rfl ?_
        refine zn_iadd F d_Mo_rightOf_26 ?_
        refine zn_iald F d_Mo_rightOf_27 (by assumption) (by omega) (by omega) ?_
        refine zn_lshl F d_Mo_rightOf_28 (by omega) ?_
        rw [Nat.one_mul]
        refine zn_lor F d_Mo_rightOf_29 ?_
        refine zv_lstore_n F d_Mo_rightOf_30 (Nat.le_of_ble_eq_true rfl) ?_
        simp only [zv_s1, zv_s2, zv_kill, List.set_cons_zero, List.set_cons_succ, List.getElem?_cons_zero, List.getElem?_cons_succ]
        refine zn_iinc F d_Mo_rightOf_31 rfl ?_
        simp only [zv_s1, zv_s2, zv_kill, List.set_cons_zero, List.set_cons_succ, List.getElem?_cons_zero, List.getElem?_cons_succ]
        refine zv_goto (tgt := 5) F d_Mo_rightOf_34 rfl ?_
        exact zv_weak (by repeat' (first | exact True.intro | refine And.intro rfl ?_)) (ih (el - (x + 1)) (by omega) (x + 1) rfl (by omega))
  refine zn_lconst (x := 0) F d_Mo_rightOf_0 (by decide) ?_
  refine zv_lstore_n F d_Mo_rightOf_1 (Nat.le_of_ble_eq_true rfl) ?_
  simp only [zv_s1, zv_s2, zv_kill, List.set_cons_zero, List.set_cons_succ, List.getElem?_cons_zero, List.getElem?_cons_succ]
  refine zn_iconst (x := 0) F d_Mo_rightOf_2 (by decide) ?_
  refine zv_istore F d_Mo_rightOf_3 (Nat.le_of_ble_eq_true rfl) ?_
  simp only [zv_s1, zv_s2, zv_kill, List.set_cons_zero, List.set_cons_succ, List.getElem?_cons_zero, List.getElem?_cons_succ]
  exact zv_weak (by repeat' (first | exact True.intro | refine And.intro rfl ?_)) (loop _ 0 rfl (Nat.zero_le _))
theorem Mo_leftOf_ok {l : Launch} {Δ : zv_D} {hp : zv_M} {sz : Nat} {y c op fi se st el j : Nat} {pr : Nat → Nat} (f0 : hp y = some (mo_obj y c op fi se st el)) (fd0 : hp (y + 13) = some (zn_I Δ 3600 pr)) (he : el ≤ 60) (hpr : ∀ j k, j < el → k < el → pr (60 * j + k) < el) (hj : j < el) : zv_P l Δ 0 y_Mo_leftOf b_Mo_leftOf 5 ((some (FieldType.long))) [.ref y, .int (nI j)] hp sz (.long (lN (al_l el pr j))) := by
  refine zv_E.intro (lv0 := [some (.ref y), some (.int (nI j)), none, none, none]) rfl (Nat.le_of_ble_eq_true rfl) rfl ?_
  intro Γ hl F
  clear hl
  have loop : ∀ (m x : Nat), m = el - x → x ≤ el → zv_V Δ Γ (zv_QQ Δ Γ 0 0 (fun r hp1 sz1 => r = some (.long (lN (al_l el pr j))) ∧ hp1 = hp ∧ sz1 = sz)) 5 [some (.ref y), some (.int (nI j)), some (.long (lN (al_or (fun x => 2 ^ pr (60 * x + j)) x))), none, some (.int (nI x))] [] hp sz 0 0 := by
    intro m
    induction m using Nat.strongRecOn with
    | ind m ih =>
      intro x hm hx
      refine zv_iload F d_Mo_leftOf_5 rfl ?_
      refine zv_aload_n F d_Mo_leftOf_7 rfl ?_
      refine zv_get F d_Mo_leftOf_8 (by assumption) k_Mo 13 (Nat.le_of_ble_eq_true rfl) ln_Mo_130 rfl (by rfl) ?_
      refine zn_icmp_ge (tgt := 37) F d_Mo_leftOf_11 rfl (by omega) (by omega) (fun h11 => ?_) (fun h11 => ?_)
      · refine zv_lload_n F d_Mo_leftOf_37 rfl ?_
        exact zv_lret F d_Mo_leftOf_38 (Nat.le_of_ble_eq_true rfl) (Nat.le_of_ble_eq_true rfl) ⟨zn_rl (by rw [show x = el by omega]; rfl), rfl, rfl⟩
      · have hp1 := hpr x j h11 hj
        refine zv_lload_n F d_Mo_leftOf_14 rfl ?_
        refine zn_lconst (x := 1) F d_Mo_leftOf_15 (by decide) ?_
        refine zv_aload_n F d_Mo_leftOf_16 rfl ?_
        refine zv_get F d_Mo_leftOf_17 (by assumption) k_Mo 18 (Nat.le_of_ble_eq_true rfl) ln_Mo_48 rfl (by rfl) ?_
        refine zn_bipush (x := 60) F d_Mo_leftOf_20 (by decide) ?_
        refine zv_iload F d_Mo_leftOf_22 rfl ?_
        refine zn_imul F d_Mo_leftOf_24 ?_
        refine zv_iload_n F d_Mo_leftOf_25 rfl ?_
        refine zn_iadd F d_Mo_leftOf_26 ?_
        refine zn_iald F d_Mo_leftOf_27 (by assumption) (by omega) (by omega) ?_
        refine zn_lshl F d_Mo_leftOf_28 (by omega) ?_
        rw [Nat.one_mul]
        refine zn_lor F d_Mo_leftOf_29 ?_
        refine zv_lstore_n F d_Mo_leftOf_30 (Nat.le_of_ble_eq_true rfl) ?_
        simp only [zv_s1, zv_s2, zv_kill, List.set_cons_zero, List.set_cons_succ, List.getElem?_cons_zero, List.getElem?_cons_succ]
        refine zn_iinc F d_Mo_leftOf_31 rfl ?_
        simp only [zv_s1, zv_s2, zv_kill, List.set_cons_zero, List.set_cons_succ, List.getElem?_cons_zero, List.getElem?_cons_succ]
        refine zv_goto (tgt := 5) F d_Mo_leftOf_34 rfl ?_
        exact zv_weak (by repeat' (first | exact True.intro | refine And.intro rfl ?_)) (ih (el - (x + 1)) (by omega) (x + 1) rfl (by omega))
  refine zn_lconst (x := 0) F d_Mo_leftOf_0 (by decide) ?_
  refine zv_lstore_n F d_Mo_leftOf_1 (Nat.le_of_ble_eq_true rfl) ?_
  simp only [zv_s1, zv_s2, zv_kill, List.set_cons_zero, List.set_cons_succ, List.getElem?_cons_zero, List.getElem?_cons_succ]
  refine zn_iconst (x := 0) F d_Mo_leftOf_2 (by decide) ?_
  refine zv_istore F d_Mo_leftOf_3 (Nat.le_of_ble_eq_true rfl) ?_
  simp only [zv_s1, zv_s2, zv_kill, List.set_cons_zero, List.set_cons_succ, List.getElem?_cons_zero, List.getElem?_cons_succ]
  exact zv_weak (by repeat' (first | exact True.intro | refine And.intro rfl ?_)) (loop _ 0 rfl (Nat.zero_le _))
theorem Mo_aroundOf_ok {l : Launch} {Δ : zv_D} {hp : zv_M} {sz : Nat} {y c op fi se st el j : Nat} {pr : Nat → Nat} (f0 : hp y = some (mo_obj y c op fi se st el)) (fd0 : hp (y + 13) = some (zn_I Δ 3600 pr)) (he : el ≤ 60) (hpr : ∀ j k, j < el → k < el → pr (60 * j + k) < el) (hj : j < el) : zv_P l Δ 1 y_Mo_aroundOf b_Mo_aroundOf 5 ((some (FieldType.long))) [.ref y, .int (nI j)] hp sz (.long (lN (al_b el pr j))) := by
  refine zv_E.intro (lv0 := [some (.ref y), some (.int (nI j)), none, none, none]) rfl (Nat.le_of_ble_eq_true rfl) rfl ?_
  intro Γ hl F
  clear hl
  have loop : ∀ (m x : Nat), m = el - x → x ≤ el → zv_V Δ Γ (zv_QQ Δ Γ 0 0 (fun r hp1 sz1 => r = some (.long (lN (al_b el pr j))) ∧ hp1 = hp ∧ sz1 = sz)) 5 [some (.ref y), some (.int (nI j)), some (.long (lN (al_or (fun x => al_r el pr (pr (60 * x + j))) x))), none, some (.int (nI x))] [] hp sz 0 0 := by
    intro m
    induction m using Nat.strongRecOn with
    | ind m ih =>
      intro x hm hx
      refine zv_iload F d_Mo_aroundOf_5 rfl ?_
      refine zv_aload_n F d_Mo_aroundOf_7 rfl ?_
      refine zv_get F d_Mo_aroundOf_8 (by assumption) k_Mo 13 (Nat.le_of_ble_eq_true rfl) ln_Mo_130 rfl (by rfl) ?_
      refine zn_icmp_ge (tgt := 39) F d_Mo_aroundOf_11 rfl (by omega) (by omega) (fun h11 => ?_) (fun h11 => ?_)
      · refine zv_lload_n F d_Mo_aroundOf_39 rfl ?_
        exact zv_lret F d_Mo_aroundOf_40 (Nat.le_of_ble_eq_true rfl) (Nat.le_of_ble_eq_true rfl) ⟨zn_rl (by rw [show x = el by omega]; rfl), rfl, rfl⟩
      · have hp1 := hpr x j h11 hj
        refine zv_lload_n F d_Mo_aroundOf_14 rfl ?_
        refine zv_aload_n F d_Mo_aroundOf_15 rfl ?_
        refine zv_aload_n F d_Mo_aroundOf_16 rfl ?_
        refine zv_get F d_Mo_aroundOf_17 (by assumption) k_Mo 18 (Nat.le_of_ble_eq_true rfl) ln_Mo_48 rfl (by rfl) ?_
        refine zn_bipush (x := 60) F d_Mo_aroundOf_20 (by decide) ?_
        refine zv_iload F d_Mo_aroundOf_22 rfl ?_
        refine zn_imul F d_Mo_aroundOf_24 ?_
        refine zv_iload_n F d_Mo_aroundOf_25 rfl ?_
        refine zn_iadd F d_Mo_aroundOf_26 ?_
        refine zn_iald F d_Mo_aroundOf_27 (by assumption) (by omega) (by omega) ?_
        refine zv_pV1 F rfl (by assumption) k_Mo.1 d_Mo_aroundOf_28 (Mo_rightOf_ok f0 fd0 he hpr hp1) Y_Mo_rightOf Yi_Mo_rightOf Yv_Mo_rightOf ln_Mo_141 ⟨(Nat.le_of_ble_eq_true rfl), (Nat.le_of_ble_eq_true rfl)⟩ (Nat.le_of_ble_eq_true rfl) ⟨(Nat.le_of_ble_eq_true rfl), (Nat.le_of_ble_eq_true rfl)⟩ ?_
        refine zn_lor F d_Mo_aroundOf_31 ?_
        refine zv_lstore_n F d_Mo_aroundOf_32 (Nat.le_of_ble_eq_true rfl) ?_
        simp only [zv_s1, zv_s2, zv_kill, List.set_cons_zero, List.set_cons_succ, List.getElem?_cons_zero, List.getElem?_cons_succ]
        refine zn_iinc F d_Mo_aroundOf_33 rfl ?_
        simp only [zv_s1, zv_s2, zv_kill, List.set_cons_zero, List.set_cons_succ, List.getElem?_cons_zero, List.getElem?_cons_succ]
        refine zv_goto (tgt := 5) F d_Mo_aroundOf_36 rfl ?_
        exact zv_weak (by repeat' (first | exact True.intro | refine And.intro rfl ?_)) (ih (el - (x + 1)) (by omega) (x + 1) rfl (by omega))
  refine zn_lconst (x := 0) F d_Mo_aroundOf_0 (by decide) ?_
  refine zv_lstore_n F d_Mo_aroundOf_1 (Nat.le_of_ble_eq_true rfl) ?_
  simp only [zv_s1, zv_s2, zv_kill, List.set_cons_zero, List.set_cons_succ, List.getElem?_cons_zero, List.getElem?_cons_succ]
  refine zn_iconst (x := 0) F d_Mo_aroundOf_2 (by decide) ?_
  refine zv_istore F d_Mo_aroundOf_3 (Nat.le_of_ble_eq_true rfl) ?_
  simp only [zv_s1, zv_s2, zv_kill, List.set_cons_zero, List.set_cons_succ, List.getElem?_cons_zero, List.getElem?_cons_succ]
  exact zv_weak (by repeat' (first | exact True.intro | refine And.intro rfl ?_)) (loop _ 0 rfl (Nat.zero_le _))
theorem Mo_related_ok {l : Launch} {Δ : zv_D} {hp : zv_M} {sz : Nat} {y c el w j k : Nat} {ns gg gd wd pr : Nat → Nat} (hat : mo_at Δ hp y c ns gg gd el wd pr) (he : el ≤ 60) (hpr : ∀ j k, j < el → k < el → pr (60 * j + k) < el) (hw : w < 4294967296) (hj : j < 4294967296) (hk : k < 4294967296) : zv_P l Δ 2 y_Mo_related b_Mo_related 6 ((some (FieldType.boolean))) [.ref y, .int (nI w), .int (nI j), .int (nI k)] hp sz (.int (nI (decide (w < 4 ∧ j < el ∧ k < el ∧ al_rl (al_r el pr) (al_l el pr) (al_b el pr) w j k = true)).toNat)) := by
  refine zv_E.intro (lv0 := [some (.ref y), some (.int (nI w)), some (.int (nI j)), some (.int (nI k)), none, none]) rfl (Nat.le_of_ble_eq_true rfl) rfl ?_
  intro Γ hl F
  clear hl
  obtain ⟨⟨op, fi, se, st, f0⟩, f1, f2, f3, sa, mr, mt, ln, ds, fd, fw, sn, f4, f5, f6, f7, f8, f9, fa, fb, fc, fd0⟩ := hat
  have hsb := al_sets_sb (rs := al_r el pr) (ls := al_l el pr) (bs := al_b el pr) he hpr (fun j _ => ⟨rfl, rfl, rfl⟩)
  have hrl : al_rl (al_r el pr) (al_l el pr) (al_b el pr) w j k = true ↔ ((w = 0 ∧ al_r el pr j = al_r el pr k) ∨ (w = 1 ∧ al_l el pr j = al_l el pr k) ∨ (w = 2 ∧ al_b el pr j = al_b el pr k) ∨ (w = 3 ∧ al_r el pr j = al_r el pr k ∧ al_l el pr j = al_l el pr k)) := decide_eq_true_iff
  refine zv_iload_n F d_Mo_related_0 rfl ?_
  refine zn_if_lt (tgt := 25) F d_Mo_related_1 rfl (by omega) (fun h1 => ?_) (fun h1 => ?_)
  · refine zn_iconst (x := 0) F d_Mo_related_25 (by decide) ?_
    exact zv_zret F d_Mo_related_26 (Nat.le_of_ble_eq_true rfl) (Nat.le_of_ble_eq_true rfl) (by first | rfl | exact zn_nb _) ⟨zn_bf (decide_eq_false (by omega)), rfl, rfl⟩
  · refine zv_iload_n F d_Mo_related_4 rfl ?_
    refine zn_iconst (x := 3) F d_Mo_related_5 (by decide) ?_
    refine zn_icmp_gt (tgt := 25) F d_Mo_related_6 rfl (by omega) (by omega) (fun h6 => ?_) (fun h6 => ?_)
    · refine zn_iconst (x := 0) F d_Mo_related_25 (by decide) ?_
      exact zv_zret F d_Mo_related_26 (Nat.le_of_ble_eq_true rfl) (Nat.le_of_ble_eq_true rfl) (by first | rfl | exact zn_nb _) ⟨zn_bf (decide_eq_false (by omega)), rfl, rfl⟩
    · refine zv_aload_n F d_Mo_related_9 rfl ?_
      refine zv_iload_n F d_Mo_related_10 rfl ?_
      refine zv_pV1 F rfl (by assumption) k_Mo.1 d_Mo_related_11 (Mo_isElement_ok f0 he hj) Y_Mo_isElement Yi_Mo_isElement Yv_Mo_isElement ln_Mo_136 ⟨(Nat.le_of_ble_eq_true rfl), (Nat.le_of_ble_eq_true rfl)⟩ (Nat.le_of_ble_eq_true rfl) ⟨(Nat.le_of_ble_eq_true rfl), (Nat.le_of_ble_eq_true rfl)⟩ ?_
      first | refine zn_bif_eq (tgt := 25) F d_Mo_related_14 rfl (fun h14 => ?_) (fun h14 => ?_) | refine zn_if_eq (tgt := 25) F d_Mo_related_14 rfl (by omega) (fun h14 => ?_) (fun h14 => ?_)
      · have h14 := of_decide_eq_false h14
        refine zn_iconst (x := 0) F d_Mo_related_25 (by decide) ?_
        exact zv_zret F d_Mo_related_26 (Nat.le_of_ble_eq_true rfl) (Nat.le_of_ble_eq_true rfl) (by first | rfl | exact zn_nb _) ⟨zn_bf (decide_eq_false (by omega)), rfl, rfl⟩
      · have h14 := of_decide_eq_true h14
        refine zv_aload_n F d_Mo_related_17 rfl ?_
        refine zv_iload_n F d_Mo_related_18 rfl ?_
        refine zv_pV1 F rfl (by assumption) k_Mo.1 d_Mo_related_19 (Mo_isElement_ok f0 he hk) Y_Mo_isElement Yi_Mo_isElement Yv_Mo_isElement ln_Mo_136 ⟨(Nat.le_of_ble_eq_true rfl), (Nat.le_of_ble_eq_true rfl)⟩ (Nat.le_of_ble_eq_true rfl) ⟨(Nat.le_of_ble_eq_true rfl), (Nat.le_of_ble_eq_true rfl)⟩ ?_
        first | refine zn_bif_ne (tgt := 27) F d_Mo_related_22 rfl (fun h22 => ?_) (fun h22 => ?_) | refine zn_if_ne (tgt := 27) F d_Mo_related_22 rfl (by omega) (fun h22 => ?_) (fun h22 => ?_)
        · have h22 := of_decide_eq_true h22
          obtain ⟨r1, r2, r3⟩ := hsb j h14
          obtain ⟨r4, r5, r6⟩ := hsb k h22
          refine zv_aload_n F d_Mo_related_27 rfl ?_
          refine zv_iload_n F d_Mo_related_28 rfl ?_
          refine zv_pV1 F rfl (by assumption) k_Mo.1 d_Mo_related_29 (Mo_rightOf_ok f0 fd0 he hpr h14) Y_Mo_rightOf Yi_Mo_rightOf Yv_Mo_rightOf ln_Mo_141 ⟨(Nat.le_of_ble_eq_true rfl), (Nat.le_of_ble_eq_true rfl)⟩ (Nat.le_of_ble_eq_true rfl) ⟨(Nat.le_of_ble_eq_true rfl), (Nat.le_of_ble_eq_true rfl)⟩ ?_
          refine zv_aload_n F d_Mo_related_32 rfl ?_
          refine zv_iload_n F d_Mo_related_33 rfl ?_
          refine zv_pV1 F rfl (by assumption) k_Mo.1 d_Mo_related_34 (Mo_rightOf_ok f0 fd0 he hpr h22) Y_Mo_rightOf Yi_Mo_rightOf Yv_Mo_rightOf ln_Mo_141 ⟨(Nat.le_of_ble_eq_true rfl), (Nat.le_of_ble_eq_true rfl)⟩ (Nat.le_of_ble_eq_true rfl) ⟨(Nat.le_of_ble_eq_true rfl), (Nat.le_of_ble_eq_true rfl)⟩ ?_
          refine zn_lcmp F d_Mo_related_37 (by omega) (by omega) (fun w37 b37 c37 => ?_)
          first | refine zn_bif_ne (tgt := 45) F d_Mo_related_38 rfl (fun h38 => ?_) (fun h38 => ?_) | refine zn_if_ne (tgt := 45) F d_Mo_related_38 rfl (by omega) (fun h38 => ?_) (fun h38 => ?_)
          · refine zn_iconst (x := 0) F d_Mo_related_45 (by decide) ?_
            refine zv_istore F d_Mo_related_46 (Nat.le_of_ble_eq_true rfl) ?_
            simp only [zv_s1, zv_s2, zv_kill, List.set_cons_zero, List.set_cons_succ, List.getElem?_cons_zero, List.getElem?_cons_succ]
            refine zv_aload_n F d_Mo_related_48 rfl ?_
            refine zv_iload_n F d_Mo_related_49 rfl ?_
            refine zv_pV1 F rfl (by assumption) k_Mo.1 d_Mo_related_50 (Mo_leftOf_ok f0 fd0 he hpr h14) Y_Mo_leftOf Yi_Mo_leftOf Yv_Mo_leftOf ln_Mo_145 ⟨(Nat.le_of_ble_eq_true rfl), (Nat.le_of_ble_eq_true rfl)⟩ (Nat.le_of_ble_eq_true rfl) ⟨(Nat.le_of_ble_eq_true rfl), (Nat.le_of_ble_eq_true rfl)⟩ ?_
            refine zv_aload_n F d_Mo_related_53 rfl ?_
            refine zv_iload_n F d_Mo_related_54 rfl ?_
            refine zv_pV1 F rfl (by assumption) k_Mo.1 d_Mo_related_55 (Mo_leftOf_ok f0 fd0 he hpr h22) Y_Mo_leftOf Yi_Mo_leftOf Yv_Mo_leftOf ln_Mo_145 ⟨(Nat.le_of_ble_eq_true rfl), (Nat.le_of_ble_eq_true rfl)⟩ (Nat.le_of_ble_eq_true rfl) ⟨(Nat.le_of_ble_eq_true rfl), (Nat.le_of_ble_eq_true rfl)⟩ ?_
            refine zn_lcmp F d_Mo_related_58 (by omega) (by omega) (fun w58 b58 c58 => ?_)
            first | refine zn_bif_ne (tgt := 66) F d_Mo_related_59 rfl (fun h59 => ?_) (fun h59 => ?_) | refine zn_if_ne (tgt := 66) F d_Mo_related_59 rfl (by omega) (fun h59 => ?_) (fun h59 => ?_)
            · refine zn_iconst (x := 0) F d_Mo_related_66 (by decide) ?_
              refine zv_istore F d_Mo_related_67 (Nat.le_of_ble_eq_true rfl) ?_
              simp only [zv_s1, zv_s2, zv_kill, List.set_cons_zero, List.set_cons_succ, List.getElem?_cons_zero, List.getElem?_cons_succ]
              refine zv_iload_n F d_Mo_related_69 rfl ?_
              refine zn_iconst (x := 2) F d_Mo_related_70 (by decide) ?_
              refine zn_icmp_ne (tgt := 94) F d_Mo_related_71 rfl (by omega) (by omega) (fun h71 => ?_) (fun h71 => ?_)
              · refine zv_iload_n F d_Mo_related_94 rfl ?_
                first | refine zn_bif_ne (tgt := 103) F d_Mo_related_95 rfl (fun h95 => ?_) (fun h95 => ?_) | refine zn_if_ne (tgt := 103) F d_Mo_related_95 rfl (by omega) (fun h95 => ?_) (fun h95 => ?_)
                · refine zv_iload_n F d_Mo_related_103 rfl ?_
                  refine zn_iconst (x := 1) F d_Mo_related_104 (by decide) ?_
                  refine zn_icmp_ne (tgt := 113) F d_Mo_related_105 rfl (by omega) (by omega) (fun h105 => ?_) (fun h105 => ?_)
                  · refine zv_iload F d_Mo_related_113 rfl ?_
                    first | refine zn_bif_eq (tgt := 127) F d_Mo_related_115 rfl (fun h115 => ?_) (fun h115 => ?_) | refine zn_if_eq (tgt := 127) F d_Mo_related_115 rfl (by omega) (fun h115 => ?_) (fun h115 => ?_)
                    · refine zn_iconst (x := 0) F d_Mo_related_127 (by decide) ?_
                      exact zv_zret F d_Mo_related_128 (Nat.le_of_ble_eq_true rfl) (Nat.le_of_ble_eq_true rfl) (by first | rfl | exact zn_nb _) (by first | exact ⟨zn_bt (decide_eq_true (by rw [hrl]; omega)), rfl, rfl⟩ | exact ⟨zn_bf (decide_eq_false (by rw [hrl]; omega)), rfl, rfl⟩ | omega)
                    · refine zv_iload F d_Mo_related_118 rfl ?_
                      first | refine zn_bif_eq (tgt := 127) F d_Mo_related_120 rfl (fun h120 => ?_) (fun h120 => ?_) | refine zn_if_eq (tgt := 127) F d_Mo_related_120 rfl (by omega) (fun h120 => ?_) (fun h120 => ?_)
                      · refine zn_iconst (x := 0) F d_Mo_related_127 (by decide) ?_
                        exact zv_zret F d_Mo_related_128 (Nat.le_of_ble_eq_true rfl) (Nat.le_of_ble_eq_true rfl) (by first | rfl | exact zn_nb _) (by first | exact ⟨zn_bt (decide_eq_true (by rw [hrl]; omega)), rfl, rfl⟩ | exact ⟨zn_bf (decide_eq_false (by rw [hrl]; omega)), rfl, rfl⟩ | omega)
                      · refine zn_iconst (x := 1) F d_Mo_related_123 (by decide) ?_
                        refine zv_goto (tgt := 128) F d_Mo_related_124 rfl ?_
                        exact zv_zret F d_Mo_related_128 (Nat.le_of_ble_eq_true rfl) (Nat.le_of_ble_eq_true rfl) (by first | rfl | exact zn_nb _) (by first | exact ⟨zn_bt (decide_eq_true (by rw [hrl]; omega)), rfl, rfl⟩ | exact ⟨zn_bf (decide_eq_false (by rw [hrl]; omega)), rfl, rfl⟩ | omega)
                  · refine zv_iload F d_Mo_related_108 rfl ?_
                    refine zv_goto (tgt := 128) F d_Mo_related_110 rfl ?_
                    exact zv_zret F d_Mo_related_128 (Nat.le_of_ble_eq_true rfl) (Nat.le_of_ble_eq_true rfl) (by first | rfl | exact zn_nb _) (by first | exact ⟨zn_bt (decide_eq_true (by rw [hrl]; omega)), rfl, rfl⟩ | exact ⟨zn_bf (decide_eq_false (by rw [hrl]; omega)), rfl, rfl⟩ | omega)
                · refine zv_iload F d_Mo_related_98 rfl ?_
                  refine zv_goto (tgt := 128) F d_Mo_related_100 rfl ?_
                  exact zv_zret F d_Mo_related_128 (Nat.le_of_ble_eq_true rfl) (Nat.le_of_ble_eq_true rfl) (by first | rfl | exact zn_nb _) (by first | exact ⟨zn_bt (decide_eq_true (by rw [hrl]; omega)), rfl, rfl⟩ | exact ⟨zn_bf (decide_eq_false (by rw [hrl]; omega)), rfl, rfl⟩ | omega)
              · refine zv_aload_n F d_Mo_related_74 rfl ?_
                refine zv_iload_n F d_Mo_related_75 rfl ?_
                refine zv_pV1 F rfl (by assumption) k_Mo.1 d_Mo_related_76 (Mo_aroundOf_ok f0 fd0 he hpr h14) Y_Mo_aroundOf Yi_Mo_aroundOf Yv_Mo_aroundOf ln_Mo_148 ⟨(Nat.le_of_ble_eq_true rfl), (Nat.le_of_ble_eq_true rfl)⟩ (Nat.le_of_ble_eq_true rfl) ⟨(Nat.le_of_ble_eq_true rfl), (Nat.le_of_ble_eq_true rfl)⟩ ?_
                refine zv_aload_n F d_Mo_related_79 rfl ?_
                refine zv_iload_n F d_Mo_related_80 rfl ?_
                refine zv_pV1 F rfl (by assumption) k_Mo.1 d_Mo_related_81 (Mo_aroundOf_ok f0 fd0 he hpr h22) Y_Mo_aroundOf Yi_Mo_aroundOf Yv_Mo_aroundOf ln_Mo_148 ⟨(Nat.le_of_ble_eq_true rfl), (Nat.le_of_ble_eq_true rfl)⟩ (Nat.le_of_ble_eq_true rfl) ⟨(Nat.le_of_ble_eq_true rfl), (Nat.le_of_ble_eq_true rfl)⟩ ?_
                refine zn_lcmp F d_Mo_related_84 (by omega) (by omega) (fun w84 b84 c84 => ?_)
                first | refine zn_bif_ne (tgt := 92) F d_Mo_related_85 rfl (fun h85 => ?_) (fun h85 => ?_) | refine zn_if_ne (tgt := 92) F d_Mo_related_85 rfl (by omega) (fun h85 => ?_) (fun h85 => ?_)
                · refine zn_iconst (x := 0) F d_Mo_related_92 (by decide) ?_
                  exact zv_zret F d_Mo_related_93 (Nat.le_of_ble_eq_true rfl) (Nat.le_of_ble_eq_true rfl) (by first | rfl | exact zn_nb _) (by first | exact ⟨zn_bt (decide_eq_true (by rw [hrl]; omega)), rfl, rfl⟩ | exact ⟨zn_bf (decide_eq_false (by rw [hrl]; omega)), rfl, rfl⟩ | omega)
                · refine zn_iconst (x := 1) F d_Mo_related_88 (by decide) ?_
                  refine zv_goto (tgt := 93) F d_Mo_related_89 rfl ?_
                  exact zv_zret F d_Mo_related_93 (Nat.le_of_ble_eq_true rfl) (Nat.le_of_ble_eq_true rfl) (by first | rfl | exact zn_nb _) (by first | exact ⟨zn_bt (decide_eq_true (by rw [hrl]; omega)), rfl, rfl⟩ | exact ⟨zn_bf (decide_eq_false (by rw [hrl]; omega)), rfl, rfl⟩ | omega)
            · refine zn_iconst (x := 1) F d_Mo_related_62 (by decide) ?_
              refine zv_goto (tgt := 67) F d_Mo_related_63 rfl ?_
              refine zv_istore F d_Mo_related_67 (Nat.le_of_ble_eq_true rfl) ?_
              simp only [zv_s1, zv_s2, zv_kill, List.set_cons_zero, List.set_cons_succ, List.getElem?_cons_zero, List.getElem?_cons_succ]
              refine zv_iload_n F d_Mo_related_69 rfl ?_
              refine zn_iconst (x := 2) F d_Mo_related_70 (by decide) ?_
              refine zn_icmp_ne (tgt := 94) F d_Mo_related_71 rfl (by omega) (by omega) (fun h71 => ?_) (fun h71 => ?_)
              · refine zv_iload_n F d_Mo_related_94 rfl ?_
                first | refine zn_bif_ne (tgt := 103) F d_Mo_related_95 rfl (fun h95 => ?_) (fun h95 => ?_) | refine zn_if_ne (tgt := 103) F d_Mo_related_95 rfl (by omega) (fun h95 => ?_) (fun h95 => ?_)
                · refine zv_iload_n F d_Mo_related_103 rfl ?_
                  refine zn_iconst (x := 1) F d_Mo_related_104 (by decide) ?_
                  refine zn_icmp_ne (tgt := 113) F d_Mo_related_105 rfl (by omega) (by omega) (fun h105 => ?_) (fun h105 => ?_)
                  · refine zv_iload F d_Mo_related_113 rfl ?_
                    first | refine zn_bif_eq (tgt := 127) F d_Mo_related_115 rfl (fun h115 => ?_) (fun h115 => ?_) | refine zn_if_eq (tgt := 127) F d_Mo_related_115 rfl (by omega) (fun h115 => ?_) (fun h115 => ?_)
                    · refine zn_iconst (x := 0) F d_Mo_related_127 (by decide) ?_
                      exact zv_zret F d_Mo_related_128 (Nat.le_of_ble_eq_true rfl) (Nat.le_of_ble_eq_true rfl) (by first | rfl | exact zn_nb _) (by first | exact ⟨zn_bt (decide_eq_true (by rw [hrl]; omega)), rfl, rfl⟩ | exact ⟨zn_bf (decide_eq_false (by rw [hrl]; omega)), rfl, rfl⟩ | omega)
                    · refine zv_iload F d_Mo_related_118 rfl ?_
                      first | refine zn_bif_eq (tgt := 127) F d_Mo_related_120 rfl (fun h120 => ?_) (fun h120 => ?_) | refine zn_if_eq (tgt := 127) F d_Mo_related_120 rfl (by omega) (fun h120 => ?_) (fun h120 => ?_)
                      · refine zn_iconst (x := 0) F d_Mo_related_127 (by decide) ?_
                        exact zv_zret F d_Mo_related_128 (Nat.le_of_ble_eq_true rfl) (Nat.le_of_ble_eq_true rfl) (by first | rfl | exact zn_nb _) (by first | exact ⟨zn_bt (decide_eq_true (by rw [hrl]; omega)), rfl, rfl⟩ | exact ⟨zn_bf (decide_eq_false (by rw [hrl]; omega)), rfl, rfl⟩ | omega)
                      · refine zn_iconst (x := 1) F d_Mo_related_123 (by decide) ?_
                        refine zv_goto (tgt := 128) F d_Mo_related_124 rfl ?_
                        exact zv_zret F d_Mo_related_128 (Nat.le_of_ble_eq_true rfl) (Nat.le_of_ble_eq_true rfl) (by first | rfl | exact zn_nb _) (by first | exact ⟨zn_bt (decide_eq_true (by rw [hrl]; omega)), rfl, rfl⟩ | exact ⟨zn_bf (decide_eq_false (by rw [hrl]; omega)), rfl, rfl⟩ | omega)
                  · refine zv_iload F d_Mo_related_108 rfl ?_
                    refine zv_goto (tgt := 128) F d_Mo_related_110 rfl ?_
                    exact zv_zret F d_Mo_related_128 (Nat.le_of_ble_eq_true rfl) (Nat.le_of_ble_eq_true rfl) (by first | rfl | exact zn_nb _) (by first | exact ⟨zn_bt (decide_eq_true (by rw [hrl]; omega)), rfl, rfl⟩ | exact ⟨zn_bf (decide_eq_false (by rw [hrl]; omega)), rfl, rfl⟩ | omega)
                · refine zv_iload F d_Mo_related_98 rfl ?_
                  refine zv_goto (tgt := 128) F d_Mo_related_100 rfl ?_
                  exact zv_zret F d_Mo_related_128 (Nat.le_of_ble_eq_true rfl) (Nat.le_of_ble_eq_true rfl) (by first | rfl | exact zn_nb _) (by first | exact ⟨zn_bt (decide_eq_true (by rw [hrl]; omega)), rfl, rfl⟩ | exact ⟨zn_bf (decide_eq_false (by rw [hrl]; omega)), rfl, rfl⟩ | omega)
              · refine zv_aload_n F d_Mo_related_74 rfl ?_
                refine zv_iload_n F d_Mo_related_75 rfl ?_
                refine zv_pV1 F rfl (by assumption) k_Mo.1 d_Mo_related_76 (Mo_aroundOf_ok f0 fd0 he hpr h14) Y_Mo_aroundOf Yi_Mo_aroundOf Yv_Mo_aroundOf ln_Mo_148 ⟨(Nat.le_of_ble_eq_true rfl), (Nat.le_of_ble_eq_true rfl)⟩ (Nat.le_of_ble_eq_true rfl) ⟨(Nat.le_of_ble_eq_true rfl), (Nat.le_of_ble_eq_true rfl)⟩ ?_
                refine zv_aload_n F d_Mo_related_79 rfl ?_
                refine zv_iload_n F d_Mo_related_80 rfl ?_
                refine zv_pV1 F rfl (by assumption) k_Mo.1 d_Mo_related_81 (Mo_aroundOf_ok f0 fd0 he hpr h22) Y_Mo_aroundOf Yi_Mo_aroundOf Yv_Mo_aroundOf ln_Mo_148 ⟨(Nat.le_of_ble_eq_true rfl), (Nat.le_of_ble_eq_true rfl)⟩ (Nat.le_of_ble_eq_true rfl) ⟨(Nat.le_of_ble_eq_true rfl), (Nat.le_of_ble_eq_true rfl)⟩ ?_
                refine zn_lcmp F d_Mo_related_84 (by omega) (by omega) (fun w84 b84 c84 => ?_)
                first | refine zn_bif_ne (tgt := 92) F d_Mo_related_85 rfl (fun h85 => ?_) (fun h85 => ?_) | refine zn_if_ne (tgt := 92) F d_Mo_related_85 rfl (by omega) (fun h85 => ?_) (fun h85 => ?_)
                · refine zn_iconst (x := 0) F d_Mo_related_92 (by decide) ?_
                  exact zv_zret F d_Mo_related_93 (Nat.le_of_ble_eq_true rfl) (Nat.le_of_ble_eq_true rfl) (by first | rfl | exact zn_nb _) (by first | exact ⟨zn_bt (decide_eq_true (by rw [hrl]; omega)), rfl, rfl⟩ | exact ⟨zn_bf (decide_eq_false (by rw [hrl]; omega)), rfl, rfl⟩ | omega)
                · refine zn_iconst (x := 1) F d_Mo_related_88 (by decide) ?_
                  refine zv_goto (tgt := 93) F d_Mo_related_89 rfl ?_
                  exact zv_zret F d_Mo_related_93 (Nat.le_of_ble_eq_true rfl) (Nat.le_of_ble_eq_true rfl) (by first | rfl | exact zn_nb _) (by first | exact ⟨zn_bt (decide_eq_true (by rw [hrl]; omega)), rfl, rfl⟩ | exact ⟨zn_bf (decide_eq_false (by rw [hrl]; omega)), rfl, rfl⟩ | omega)
          · refine zn_iconst (x := 1) F d_Mo_related_41 (by decide) ?_
            refine zv_goto (tgt := 46) F d_Mo_related_42 rfl ?_
            refine zv_istore F d_Mo_related_46 (Nat.le_of_ble_eq_true rfl) ?_
            simp only [zv_s1, zv_s2, zv_kill, List.set_cons_zero, List.set_cons_succ, List.getElem?_cons_zero, List.getElem?_cons_succ]
            refine zv_aload_n F d_Mo_related_48 rfl ?_
            refine zv_iload_n F d_Mo_related_49 rfl ?_
            refine zv_pV1 F rfl (by assumption) k_Mo.1 d_Mo_related_50 (Mo_leftOf_ok f0 fd0 he hpr h14) Y_Mo_leftOf Yi_Mo_leftOf Yv_Mo_leftOf ln_Mo_145 ⟨(Nat.le_of_ble_eq_true rfl), (Nat.le_of_ble_eq_true rfl)⟩ (Nat.le_of_ble_eq_true rfl) ⟨(Nat.le_of_ble_eq_true rfl), (Nat.le_of_ble_eq_true rfl)⟩ ?_
            refine zv_aload_n F d_Mo_related_53 rfl ?_
            refine zv_iload_n F d_Mo_related_54 rfl ?_
            refine zv_pV1 F rfl (by assumption) k_Mo.1 d_Mo_related_55 (Mo_leftOf_ok f0 fd0 he hpr h22) Y_Mo_leftOf Yi_Mo_leftOf Yv_Mo_leftOf ln_Mo_145 ⟨(Nat.le_of_ble_eq_true rfl), (Nat.le_of_ble_eq_true rfl)⟩ (Nat.le_of_ble_eq_true rfl) ⟨(Nat.le_of_ble_eq_true rfl), (Nat.le_of_ble_eq_true rfl)⟩ ?_
            refine zn_lcmp F d_Mo_related_58 (by omega) (by omega) (fun w58 b58 c58 => ?_)
            first | refine zn_bif_ne (tgt := 66) F d_Mo_related_59 rfl (fun h59 => ?_) (fun h59 => ?_) | refine zn_if_ne (tgt := 66) F d_Mo_related_59 rfl (by omega) (fun h59 => ?_) (fun h59 => ?_)
            · refine zn_iconst (x := 0) F d_Mo_related_66 (by decide) ?_
              refine zv_istore F d_Mo_related_67 (Nat.le_of_ble_eq_true rfl) ?_
              simp only [zv_s1, zv_s2, zv_kill, List.set_cons_zero, List.set_cons_succ, List.getElem?_cons_zero, List.getElem?_cons_succ]
              refine zv_iload_n F d_Mo_related_69 rfl ?_
              refine zn_iconst (x := 2) F d_Mo_related_70 (by decide) ?_
              refine zn_icmp_ne (tgt := 94) F d_Mo_related_71 rfl (by omega) (by omega) (fun h71 => ?_) (fun h71 => ?_)
              · refine zv_iload_n F d_Mo_related_94 rfl ?_
                first | refine zn_bif_ne (tgt := 103) F d_Mo_related_95 rfl (fun h95 => ?_) (fun h95 => ?_) | refine zn_if_ne (tgt := 103) F d_Mo_related_95 rfl (by omega) (fun h95 => ?_) (fun h95 => ?_)
                · refine zv_iload_n F d_Mo_related_103 rfl ?_
                  refine zn_iconst (x := 1) F d_Mo_related_104 (by decide) ?_
                  refine zn_icmp_ne (tgt := 113) F d_Mo_related_105 rfl (by omega) (by omega) (fun h105 => ?_) (fun h105 => ?_)
                  · refine zv_iload F d_Mo_related_113 rfl ?_
                    first | refine zn_bif_eq (tgt := 127) F d_Mo_related_115 rfl (fun h115 => ?_) (fun h115 => ?_) | refine zn_if_eq (tgt := 127) F d_Mo_related_115 rfl (by omega) (fun h115 => ?_) (fun h115 => ?_)
                    · refine zn_iconst (x := 0) F d_Mo_related_127 (by decide) ?_
                      exact zv_zret F d_Mo_related_128 (Nat.le_of_ble_eq_true rfl) (Nat.le_of_ble_eq_true rfl) (by first | rfl | exact zn_nb _) (by first | exact ⟨zn_bt (decide_eq_true (by rw [hrl]; omega)), rfl, rfl⟩ | exact ⟨zn_bf (decide_eq_false (by rw [hrl]; omega)), rfl, rfl⟩ | omega)
                    · refine zv_iload F d_Mo_related_118 rfl ?_
                      first | refine zn_bif_eq (tgt := 127) F d_Mo_related_120 rfl (fun h120 => ?_) (fun h120 => ?_) | refine zn_if_eq (tgt := 127) F d_Mo_related_120 rfl (by omega) (fun h120 => ?_) (fun h120 => ?_)
                      · refine zn_iconst (x := 0) F d_Mo_related_127 (by decide) ?_
                        exact zv_zret F d_Mo_related_128 (Nat.le_of_ble_eq_true rfl) (Nat.le_of_ble_eq_true rfl) (by first | rfl | exact zn_nb _) (by first | exact ⟨zn_bt (decide_eq_true (by rw [hrl]; omega)), rfl, rfl⟩ | exact ⟨zn_bf (decide_eq_false (by rw [hrl]; omega)), rfl, rfl⟩ | omega)
                      · refine zn_iconst (x := 1) F d_Mo_related_123 (by decide) ?_
                        refine zv_goto (tgt := 128) F d_Mo_related_124 rfl ?_
                        exact zv_zret F d_Mo_related_128 (Nat.le_of_ble_eq_true rfl) (Nat.le_of_ble_eq_true rfl) (by first | rfl | exact zn_nb _) (by first | exact ⟨zn_bt (decide_eq_true (by rw [hrl]; omega)), rfl, rfl⟩ | exact ⟨zn_bf (decide_eq_false (by rw [hrl]; omega)), rfl, rfl⟩ | omega)
                  · refine zv_iload F d_Mo_related_108 rfl ?_
                    refine zv_goto (tgt := 128) F d_Mo_related_110 rfl ?_
                    exact zv_zret F d_Mo_related_128 (Nat.le_of_ble_eq_true rfl) (Nat.le_of_ble_eq_true rfl) (by first | rfl | exact zn_nb _) (by first | exact ⟨zn_bt (decide_eq_true (by rw [hrl]; omega)), rfl, rfl⟩ | exact ⟨zn_bf (decide_eq_false (by rw [hrl]; omega)), rfl, rfl⟩ | omega)
                · refine zv_iload F d_Mo_related_98 rfl ?_
                  refine zv_goto (tgt := 128) F d_Mo_related_100 rfl ?_
                  exact zv_zret F d_Mo_related_128 (Nat.le_of_ble_eq_true rfl) (Nat.le_of_ble_eq_true rfl) (by first | rfl | exact zn_nb _) (by first | exact ⟨zn_bt (decide_eq_true (by rw [hrl]; omega)), rfl, rfl⟩ | exact ⟨zn_bf (decide_eq_false (by rw [hrl]; omega)), rfl, rfl⟩ | omega)
              · refine zv_aload_n F d_Mo_related_74 rfl ?_
                refine zv_iload_n F d_Mo_related_75 rfl ?_
                refine zv_pV1 F rfl (by assumption) k_Mo.1 d_Mo_related_76 (Mo_aroundOf_ok f0 fd0 he hpr h14) Y_Mo_aroundOf Yi_Mo_aroundOf Yv_Mo_aroundOf ln_Mo_148 ⟨(Nat.le_of_ble_eq_true rfl), (Nat.le_of_ble_eq_true rfl)⟩ (Nat.le_of_ble_eq_true rfl) ⟨(Nat.le_of_ble_eq_true rfl), (Nat.le_of_ble_eq_true rfl)⟩ ?_
                refine zv_aload_n F d_Mo_related_79 rfl ?_
                refine zv_iload_n F d_Mo_related_80 rfl ?_
                refine zv_pV1 F rfl (by assumption) k_Mo.1 d_Mo_related_81 (Mo_aroundOf_ok f0 fd0 he hpr h22) Y_Mo_aroundOf Yi_Mo_aroundOf Yv_Mo_aroundOf ln_Mo_148 ⟨(Nat.le_of_ble_eq_true rfl), (Nat.le_of_ble_eq_true rfl)⟩ (Nat.le_of_ble_eq_true rfl) ⟨(Nat.le_of_ble_eq_true rfl), (Nat.le_of_ble_eq_true rfl)⟩ ?_
                refine zn_lcmp F d_Mo_related_84 (by omega) (by omega) (fun w84 b84 c84 => ?_)
                first | refine zn_bif_ne (tgt := 92) F d_Mo_related_85 rfl (fun h85 => ?_) (fun h85 => ?_) | refine zn_if_ne (tgt := 92) F d_Mo_related_85 rfl (by omega) (fun h85 => ?_) (fun h85 => ?_)
                · refine zn_iconst (x := 0) F d_Mo_related_92 (by decide) ?_
                  exact zv_zret F d_Mo_related_93 (Nat.le_of_ble_eq_true rfl) (Nat.le_of_ble_eq_true rfl) (by first | rfl | exact zn_nb _) (by first | exact ⟨zn_bt (decide_eq_true (by rw [hrl]; omega)), rfl, rfl⟩ | exact ⟨zn_bf (decide_eq_false (by rw [hrl]; omega)), rfl, rfl⟩ | omega)
                · refine zn_iconst (x := 1) F d_Mo_related_88 (by decide) ?_
                  refine zv_goto (tgt := 93) F d_Mo_related_89 rfl ?_
                  exact zv_zret F d_Mo_related_93 (Nat.le_of_ble_eq_true rfl) (Nat.le_of_ble_eq_true rfl) (by first | rfl | exact zn_nb _) (by first | exact ⟨zn_bt (decide_eq_true (by rw [hrl]; omega)), rfl, rfl⟩ | exact ⟨zn_bf (decide_eq_false (by rw [hrl]; omega)), rfl, rfl⟩ | omega)
            · refine zn_iconst (x := 1) F d_Mo_related_62 (by decide) ?_
              refine zv_goto (tgt := 67) F d_Mo_related_63 rfl ?_
              refine zv_istore F d_Mo_related_67 (Nat.le_of_ble_eq_true rfl) ?_
              simp only [zv_s1, zv_s2, zv_kill, List.set_cons_zero, List.set_cons_succ, List.getElem?_cons_zero, List.getElem?_cons_succ]
              refine zv_iload_n F d_Mo_related_69 rfl ?_
              refine zn_iconst (x := 2) F d_Mo_related_70 (by decide) ?_
              refine zn_icmp_ne (tgt := 94) F d_Mo_related_71 rfl (by omega) (by omega) (fun h71 => ?_) (fun h71 => ?_)
              · refine zv_iload_n F d_Mo_related_94 rfl ?_
                first | refine zn_bif_ne (tgt := 103) F d_Mo_related_95 rfl (fun h95 => ?_) (fun h95 => ?_) | refine zn_if_ne (tgt := 103) F d_Mo_related_95 rfl (by omega) (fun h95 => ?_) (fun h95 => ?_)
                · refine zv_iload_n F d_Mo_related_103 rfl ?_
                  refine zn_iconst (x := 1) F d_Mo_related_104 (by decide) ?_
                  refine zn_icmp_ne (tgt := 113) F d_Mo_related_105 rfl (by omega) (by omega) (fun h105 => ?_) (fun h105 => ?_)
                  · refine zv_iload F d_Mo_related_113 rfl ?_
                    first | refine zn_bif_eq (tgt := 127) F d_Mo_related_115 rfl (fun h115 => ?_) (fun h115 => ?_) | refine zn_if_eq (tgt := 127) F d_Mo_related_115 rfl (by omega) (fun h115 => ?_) (fun h115 => ?_)
                    · refine zn_iconst (x := 0) F d_Mo_related_127 (by decide) ?_
                      exact zv_zret F d_Mo_related_128 (Nat.le_of_ble_eq_true rfl) (Nat.le_of_ble_eq_true rfl) (by first | rfl | exact zn_nb _) (by first | exact ⟨zn_bt (decide_eq_true (by rw [hrl]; omega)), rfl, rfl⟩ | exact ⟨zn_bf (decide_eq_false (by rw [hrl]; omega)), rfl, rfl⟩ | omega)
                    · refine zv_iload F d_Mo_related_118 rfl ?_
                      first | refine zn_bif_eq (tgt := 127) F d_Mo_related_120 rfl (fun h120 => ?_) (fun h120 => ?_) | refine zn_if_eq (tgt := 127) F d_Mo_related_120 rfl (by omega) (fun h120 => ?_) (fun h120 => ?_)
                      · refine zn_iconst (x := 0) F d_Mo_related_127 (by decide) ?_
                        exact zv_zret F d_Mo_related_128 (Nat.le_of_ble_eq_true rfl) (Nat.le_of_ble_eq_true rfl) (by first | rfl | exact zn_nb _) (by first | exact ⟨zn_bt (decide_eq_true (by rw [hrl]; omega)), rfl, rfl⟩ | exact ⟨zn_bf (decide_eq_false (by rw [hrl]; omega)), rfl, rfl⟩ | omega)
                      · refine zn_iconst (x := 1) F d_Mo_related_123 (by decide) ?_
                        refine zv_goto (tgt := 128) F d_Mo_related_124 rfl ?_
                        exact zv_zret F d_Mo_related_128 (Nat.le_of_ble_eq_true rfl) (Nat.le_of_ble_eq_true rfl) (by first | rfl | exact zn_nb _) (by first | exact ⟨zn_bt (decide_eq_true (by rw [hrl]; omega)), rfl, rfl⟩ | exact ⟨zn_bf (decide_eq_false (by rw [hrl]; omega)), rfl, rfl⟩ | omega)
                  · refine zv_iload F d_Mo_related_108 rfl ?_
                    refine zv_goto (tgt := 128) F d_Mo_related_110 rfl ?_
                    exact zv_zret F d_Mo_related_128 (Nat.le_of_ble_eq_true rfl) (Nat.le_of_ble_eq_true rfl) (by first | rfl | exact zn_nb _) (by first | exact ⟨zn_bt (decide_eq_true (by rw [hrl]; omega)), rfl, rfl⟩ | exact ⟨zn_bf (decide_eq_false (by rw [hrl]; omega)), rfl, rfl⟩ | omega)
                · refine zv_iload F d_Mo_related_98 rfl ?_
                  refine zv_goto (tgt := 128) F d_Mo_related_100 rfl ?_
                  exact zv_zret F d_Mo_related_128 (Nat.le_of_ble_eq_true rfl) (Nat.le_of_ble_eq_true rfl) (by first | rfl | exact zn_nb _) (by first | exact ⟨zn_bt (decide_eq_true (by rw [hrl]; omega)), rfl, rfl⟩ | exact ⟨zn_bf (decide_eq_false (by rw [hrl]; omega)), rfl, rfl⟩ | omega)
              · refine zv_aload_n F d_Mo_related_74 rfl ?_
                refine zv_iload_n F d_Mo_related_75 rfl ?_
                refine zv_pV1 F rfl (by assumption) k_Mo.1 d_Mo_related_76 (Mo_aroundOf_ok f0 fd0 he hpr h14) Y_Mo_aroundOf Yi_Mo_aroundOf Yv_Mo_aroundOf ln_Mo_148 ⟨(Nat.le_of_ble_eq_true rfl), (Nat.le_of_ble_eq_true rfl)⟩ (Nat.le_of_ble_eq_true rfl) ⟨(Nat.le_of_ble_eq_true rfl), (Nat.le_of_ble_eq_true rfl)⟩ ?_
                refine zv_aload_n F d_Mo_related_79 rfl ?_
                refine zv_iload_n F d_Mo_related_80 rfl ?_
                refine zv_pV1 F rfl (by assumption) k_Mo.1 d_Mo_related_81 (Mo_aroundOf_ok f0 fd0 he hpr h22) Y_Mo_aroundOf Yi_Mo_aroundOf Yv_Mo_aroundOf ln_Mo_148 ⟨(Nat.le_of_ble_eq_true rfl), (Nat.le_of_ble_eq_true rfl)⟩ (Nat.le_of_ble_eq_true rfl) ⟨(Nat.le_of_ble_eq_true rfl), (Nat.le_of_ble_eq_true rfl)⟩ ?_
                refine zn_lcmp F d_Mo_related_84 (by omega) (by omega) (fun w84 b84 c84 => ?_)
                first | refine zn_bif_ne (tgt := 92) F d_Mo_related_85 rfl (fun h85 => ?_) (fun h85 => ?_) | refine zn_if_ne (tgt := 92) F d_Mo_related_85 rfl (by omega) (fun h85 => ?_) (fun h85 => ?_)
                · refine zn_iconst (x := 0) F d_Mo_related_92 (by decide) ?_
                  exact zv_zret F d_Mo_related_93 (Nat.le_of_ble_eq_true rfl) (Nat.le_of_ble_eq_true rfl) (by first | rfl | exact zn_nb _) (by first | exact ⟨zn_bt (decide_eq_true (by rw [hrl]; omega)), rfl, rfl⟩ | exact ⟨zn_bf (decide_eq_false (by rw [hrl]; omega)), rfl, rfl⟩ | omega)
                · refine zn_iconst (x := 1) F d_Mo_related_88 (by decide) ?_
                  refine zv_goto (tgt := 93) F d_Mo_related_89 rfl ?_
                  exact zv_zret F d_Mo_related_93 (Nat.le_of_ble_eq_true rfl) (Nat.le_of_ble_eq_true rfl) (by first | rfl | exact zn_nb _) (by first | exact ⟨zn_bt (decide_eq_true (by rw [hrl]; omega)), rfl, rfl⟩ | exact ⟨zn_bf (decide_eq_false (by rw [hrl]; omega)), rfl, rfl⟩ | omega)
        · have h22 := of_decide_eq_false h22
          refine zn_iconst (x := 0) F d_Mo_related_25 (by decide) ?_
          exact zv_zret F d_Mo_related_26 (Nat.le_of_ble_eq_true rfl) (Nat.le_of_ble_eq_true rfl) (by first | rfl | exact zn_nb _) ⟨zn_bf (decide_eq_false (by omega)), rfl, rfl⟩
def mo_fc (el : Nat) (pr : Nat → Nat) (w j : Nat) : Bool := decide (zf_ff (fun k => al_rl (al_r el pr) (al_l el pr) (al_b el pr) w j k) 0 j = j)
theorem Mo_classes_ok {l : Launch} {Δ : zv_D} {hp : zv_M} {sz : Nat} {y c el w : Nat} {ns gg gd wd pr : Nat → Nat} (hat : mo_at Δ hp y c ns gg gd el wd pr) (he : el ≤ 60) (hpr : ∀ j k, j < el → k < el → pr (60 * j + k) < el) (hw : w < 4294967296) : zv_P l Δ 3 y_Mo_classes b_Mo_classes 6 ((some (FieldType.int))) [.ref y, .int (nI w)] hp sz (.int (nI (if w < 4 ∧ 0 < el then al_cc (mo_fc el pr w) el else 4294967295))) := by
  refine zv_E.intro (lv0 := [some (.ref y), some (.int (nI w)), none, none, none, none]) rfl (Nat.le_of_ble_eq_true rfl) rfl ?_
  intro Γ hl F
  clear hl
  have hat0 := hat
  obtain ⟨⟨op, fi, se, st, f0⟩, f1, f2, f3, sa, mr, mt, ln, ds, fd, fw, sn, f4, f5, f6, f7, f8, f9, fa, fb, fc, fd0⟩ := hat
  have outer : ∀ (z j : Nat), z = el - j → j ≤ el → w < 4 → 0 < el → zv_V Δ Γ (zv_QQ Δ Γ 0 0 (fun r hp1 sz1 => r = some (.int (nI (if w < 4 ∧ 0 < el then al_cc (mo_fc el pr w) el else 4294967295))) ∧ hp1 = hp ∧ sz1 = sz)) 22 [some (.ref y), some (.int (nI w)), some (.int (nI (al_cc (mo_fc el pr w) j))), some (.int (nI j)), none, none] [] hp sz 0 0 := by
    intro z
    induction z using Nat.strongRecOn with
    | ind z ih =>
      intro j hz hj hw4 he0
      have inF : ∀ k, j < el → zf_ff (fun k => al_rl (al_r el pr) (al_l el pr) (al_b el pr) w j k) 0 j ≠ j → k ≤ j → zv_V Δ Γ (zv_QQ Δ Γ 0 0 (fun r hp1 sz1 => r = some (.int (nI (if w < 4 ∧ 0 < el then al_cc (mo_fc el pr w) el else 4294967295))) ∧ hp1 = hp ∧ sz1 = sz)) 36 [some (.ref y), some (.int (nI w)), some (.int (nI (al_cc (mo_fc el pr w) j))), some (.int (nI j)), some (.int (nI 0)), some (.int (nI k))] [] hp sz 0 0 := by
        intro k hje hne hk
        have es : al_cc (mo_fc el pr w) (j + 1) = al_cc (mo_fc el pr w) j := by rw [al_cc, if_neg (by unfold mo_fc; rw [decide_eq_false hne]; decide)]
        refine zv_iload F d_Mo_classes_36 rfl ?_
        refine zv_iload_n F d_Mo_classes_38 rfl ?_
        refine zn_icmp_ge (tgt := 71) F d_Mo_classes_39 rfl (by omega) (by omega) (fun h39 => ?_) (fun h39 => ?_)
        · refine zv_iload F d_Mo_classes_71 rfl ?_
          first | refine zn_bif_eq (tgt := 82) F d_Mo_classes_73 rfl (fun h73 => ?_) (fun h73 => ?_) | refine zn_if_eq (tgt := 82) F d_Mo_classes_73 rfl (by omega) (fun h73 => ?_) (fun h73 => ?_)
          · refine zv_iload_n F d_Mo_classes_82 rfl ?_
            refine zv_istore_n F d_Mo_classes_83 (Nat.le_of_ble_eq_true rfl) ?_
            simp only [zv_s1, zv_s2, zv_kill, List.set_cons_zero, List.set_cons_succ, List.getElem?_cons_zero, List.getElem?_cons_succ]
            refine zn_iinc F d_Mo_classes_84 rfl ?_
            simp only [zv_s1, zv_s2, zv_kill, List.set_cons_zero, List.set_cons_succ, List.getElem?_cons_zero, List.getElem?_cons_succ]
            refine zv_goto (tgt := 22) F d_Mo_classes_87 rfl ?_
            have y := ih (el - (j + 1)) (by omega) (j + 1) rfl (by omega) hw4 he0
            rw [es] at y
            exact zv_weak (by repeat' (first | exact True.intro | refine And.intro rfl ?_)) y
          · exact absurd rfl h73
        · refine zv_iload F d_Mo_classes_42 rfl ?_
          first | refine zn_bif_eq (tgt := 71) F d_Mo_classes_44 rfl (fun h44 => ?_) (fun h44 => ?_) | refine zn_if_eq (tgt := 71) F d_Mo_classes_44 rfl (by omega) (fun h44 => ?_) (fun h44 => ?_)
          · refine zv_iload F d_Mo_classes_71 rfl ?_
            first | refine zn_bif_eq (tgt := 82) F d_Mo_classes_73 rfl (fun h73 => ?_) (fun h73 => ?_) | refine zn_if_eq (tgt := 82) F d_Mo_classes_73 rfl (by omega) (fun h73 => ?_) (fun h73 => ?_)
            · refine zv_iload_n F d_Mo_classes_82 rfl ?_
              refine zv_istore_n F d_Mo_classes_83 (Nat.le_of_ble_eq_true rfl) ?_
              simp only [zv_s1, zv_s2, zv_kill, List.set_cons_zero, List.set_cons_succ, List.getElem?_cons_zero, List.getElem?_cons_succ]
              refine zn_iinc F d_Mo_classes_84 rfl ?_
              simp only [zv_s1, zv_s2, zv_kill, List.set_cons_zero, List.set_cons_succ, List.getElem?_cons_zero, List.getElem?_cons_succ]
              refine zv_goto (tgt := 22) F d_Mo_classes_87 rfl ?_
              have y := ih (el - (j + 1)) (by omega) (j + 1) rfl (by omega) hw4 he0
              rw [es] at y
              exact zv_weak (by repeat' (first | exact True.intro | refine And.intro rfl ?_)) y
            · exact absurd rfl h73
          · exact absurd rfl h44
      have inT : ∀ (z2 k : Nat), z2 = j - k → k ≤ j → j < el → zf_ff (fun k => al_rl (al_r el pr) (al_l el pr) (al_b el pr) w j k) 0 j = zf_ff (fun k => al_rl (al_r el pr) (al_l el pr) (al_b el pr) w j k) k (j - k) → zv_V Δ Γ (zv_QQ Δ Γ 0 0 (fun r hp1 sz1 => r = some (.int (nI (if w < 4 ∧ 0 < el then al_cc (mo_fc el pr w) el else 4294967295))) ∧ hp1 = hp ∧ sz1 = sz)) 36 [some (.ref y), some (.int (nI w)), some (.int (nI (al_cc (mo_fc el pr w) j))), some (.int (nI j)), some (.int (nI 1)), some (.int (nI k))] [] hp sz 0 0 := by
        intro z2
        induction z2 using Nat.strongRecOn with
        | ind z2 ih2 =>
          intro k hz2 hk hje hE
          refine zv_iload F d_Mo_classes_36 rfl ?_
          refine zv_iload_n F d_Mo_classes_38 rfl ?_
          refine zn_icmp_ge (tgt := 71) F d_Mo_classes_39 rfl (by omega) (by omega) (fun h39 => ?_) (fun h39 => ?_)
          · have ez : zf_ff (fun k => al_rl (al_r el pr) (al_l el pr) (al_b el pr) w j k) 0 j = j := by rw [hE, show j - k = 0 by omega]; simp only [zf_ff]; omega
            have es : al_cc (mo_fc el pr w) (j + 1) = al_cc (mo_fc el pr w) j + 1 := by rw [al_cc, if_pos (by unfold mo_fc; exact decide_eq_true ez)]
            refine zv_iload F d_Mo_classes_71 rfl ?_
            first | refine zn_bif_eq (tgt := 82) F d_Mo_classes_73 rfl (fun h73 => ?_) (fun h73 => ?_) | refine zn_if_eq (tgt := 82) F d_Mo_classes_73 rfl (by omega) (fun h73 => ?_) (fun h73 => ?_)
            · exact absurd h73 (by decide)
            · refine zv_iload_n F d_Mo_classes_76 rfl ?_
              refine zn_iconst (x := 1) F d_Mo_classes_77 (by decide) ?_
              refine zn_iadd F d_Mo_classes_78 ?_
              refine zv_goto (tgt := 83) F d_Mo_classes_79 rfl ?_
              refine zv_istore_n F d_Mo_classes_83 (Nat.le_of_ble_eq_true rfl) ?_
              simp only [zv_s1, zv_s2, zv_kill, List.set_cons_zero, List.set_cons_succ, List.getElem?_cons_zero, List.getElem?_cons_succ]
              refine zn_iinc F d_Mo_classes_84 rfl ?_
              simp only [zv_s1, zv_s2, zv_kill, List.set_cons_zero, List.set_cons_succ, List.getElem?_cons_zero, List.getElem?_cons_succ]
              refine zv_goto (tgt := 22) F d_Mo_classes_87 rfl ?_
              have y := ih (el - (j + 1)) (by omega) (j + 1) rfl (by omega) hw4 he0
              rw [es] at y
              exact zv_weak (by repeat' (first | exact True.intro | refine And.intro rfl ?_)) y
          · refine zv_iload F d_Mo_classes_42 rfl ?_
            first | refine zn_bif_eq (tgt := 71) F d_Mo_classes_44 rfl (fun h44 => ?_) (fun h44 => ?_) | refine zn_if_eq (tgt := 71) F d_Mo_classes_44 rfl (by omega) (fun h44 => ?_) (fun h44 => ?_)
            · exact absurd h44 (by decide)
            · refine zv_aload_n F d_Mo_classes_47 rfl ?_
              refine zv_iload_n F d_Mo_classes_48 rfl ?_
              refine zv_iload_n F d_Mo_classes_49 rfl ?_
              refine zv_iload F d_Mo_classes_50 rfl ?_
              refine zv_pV3 F rfl (by assumption) k_Mo.1 d_Mo_classes_52 (Mo_related_ok hat0 he hpr hw (by omega) (by omega)) Y_Mo_related Yi_Mo_related Yv_Mo_related ln_Mo_151 ⟨(Nat.le_of_ble_eq_true rfl), (Nat.le_of_ble_eq_true rfl)⟩ (Nat.le_of_ble_eq_true rfl) ⟨(Nat.le_of_ble_eq_true rfl), (Nat.le_of_ble_eq_true rfl)⟩ ?_
              first | refine zn_bif_ne (tgt := 62) F d_Mo_classes_55 rfl (fun h55 => ?_) (fun h55 => ?_) | refine zn_if_ne (tgt := 62) F d_Mo_classes_55 rfl (by omega) (fun h55 => ?_) (fun h55 => ?_)
              · refine zn_iconst (x := 0) F d_Mo_classes_62 (by decide) ?_
                refine zv_istore F d_Mo_classes_63 (Nat.le_of_ble_eq_true rfl) ?_
                simp only [zv_s1, zv_s2, zv_kill, List.set_cons_zero, List.set_cons_succ, List.getElem?_cons_zero, List.getElem?_cons_succ]
                refine zn_iinc F d_Mo_classes_65 rfl ?_
                simp only [zv_s1, zv_s2, zv_kill, List.set_cons_zero, List.set_cons_succ, List.getElem?_cons_zero, List.getElem?_cons_succ]
                refine zv_goto (tgt := 36) F d_Mo_classes_68 rfl ?_
                first | exact zv_weak (by repeat' (first | exact True.intro | refine And.intro rfl ?_)) (ih2 (j - (k + 1)) (by omega) (k + 1) rfl (by omega) hje (by rw [hE, zf_miss (p := fun k => al_rl (al_r el pr) (al_l el pr) (al_b el pr) w j k) (k := k) (Bool.eq_false_iff.mpr (fun q => of_decide_eq_false h55 ⟨hw4, hje, by omega, q⟩)) (by omega)]; rfl)) | exact zv_weak (by repeat' (first | exact True.intro | refine And.intro rfl ?_)) (inF (k + 1) hje (by rw [hE, zf_hit (p := fun k => al_rl (al_r el pr) (al_l el pr) (al_b el pr) w j k) (k := k) (of_decide_eq_true h55).2.2.2 (by omega)]; omega) (by omega))
              · refine zn_iconst (x := 1) F d_Mo_classes_58 (by decide) ?_
                refine zv_goto (tgt := 63) F d_Mo_classes_59 rfl ?_
                refine zv_istore F d_Mo_classes_63 (Nat.le_of_ble_eq_true rfl) ?_
                simp only [zv_s1, zv_s2, zv_kill, List.set_cons_zero, List.set_cons_succ, List.getElem?_cons_zero, List.getElem?_cons_succ]
                refine zn_iinc F d_Mo_classes_65 rfl ?_
                simp only [zv_s1, zv_s2, zv_kill, List.set_cons_zero, List.set_cons_succ, List.getElem?_cons_zero, List.getElem?_cons_succ]
                refine zv_goto (tgt := 36) F d_Mo_classes_68 rfl ?_
                first | exact zv_weak (by repeat' (first | exact True.intro | refine And.intro rfl ?_)) (ih2 (j - (k + 1)) (by omega) (k + 1) rfl (by omega) hje (by rw [hE, zf_miss (p := fun k => al_rl (al_r el pr) (al_l el pr) (al_b el pr) w j k) (k := k) (Bool.eq_false_iff.mpr (fun q => of_decide_eq_false h55 ⟨hw4, hje, by omega, q⟩)) (by omega)]; rfl)) | exact zv_weak (by repeat' (first | exact True.intro | refine And.intro rfl ?_)) (inF (k + 1) hje (by rw [hE, zf_hit (p := fun k => al_rl (al_r el pr) (al_l el pr) (al_b el pr) w j k) (k := k) (of_decide_eq_true h55).2.2.2 (by omega)]; omega) (by omega))
      refine zv_iload_n F d_Mo_classes_22 rfl ?_
      refine zv_aload_n F d_Mo_classes_23 rfl ?_
      refine zv_get F d_Mo_classes_24 (by assumption) k_Mo 13 (Nat.le_of_ble_eq_true rfl) ln_Mo_130 rfl (by rfl) ?_
      refine zn_icmp_ge (tgt := 90) F d_Mo_classes_27 rfl (by omega) (by omega) (fun h27 => ?_) (fun h27 => ?_)
      · refine zv_iload_n F d_Mo_classes_90 rfl ?_
        exact zv_iret F d_Mo_classes_91 (Nat.le_of_ble_eq_true rfl) (Nat.le_of_ble_eq_true rfl) ⟨zn_rt (by rw [if_pos ⟨hw4, he0⟩, show j = el by omega]), rfl, rfl⟩
      · refine zn_iconst (x := 1) F d_Mo_classes_30 (by decide) ?_
        refine zv_istore F d_Mo_classes_31 (Nat.le_of_ble_eq_true rfl) ?_
        simp only [zv_s1, zv_s2, zv_kill, List.set_cons_zero, List.set_cons_succ, List.getElem?_cons_zero, List.getElem?_cons_succ]
        refine zn_iconst (x := 0) F d_Mo_classes_33 (by decide) ?_
        refine zv_istore F d_Mo_classes_34 (Nat.le_of_ble_eq_true rfl) ?_
        simp only [zv_s1, zv_s2, zv_kill, List.set_cons_zero, List.set_cons_succ, List.getElem?_cons_zero, List.getElem?_cons_succ]
        exact zv_weak (by repeat' (first | exact True.intro | refine And.intro rfl ?_)) (inT _ 0 rfl (Nat.zero_le _) (by omega) (by rw [Nat.sub_zero]))
  refine zv_iload_n F d_Mo_classes_0 rfl ?_
  refine zn_if_lt (tgt := 16) F d_Mo_classes_1 rfl (by omega) (fun h1 => ?_) (fun h1 => ?_)
  · refine zn_iconst (x := 4294967295) F d_Mo_classes_16 (by decide) ?_
    exact zv_iret F d_Mo_classes_17 (Nat.le_of_ble_eq_true rfl) (Nat.le_of_ble_eq_true rfl) ⟨zn_rt (by rw [if_neg (by omega)]), rfl, rfl⟩
  · refine zv_iload_n F d_Mo_classes_4 rfl ?_
    refine zn_iconst (x := 3) F d_Mo_classes_5 (by decide) ?_
    refine zn_icmp_gt (tgt := 16) F d_Mo_classes_6 rfl (by omega) (by omega) (fun h6 => ?_) (fun h6 => ?_)
    · refine zn_iconst (x := 4294967295) F d_Mo_classes_16 (by decide) ?_
      exact zv_iret F d_Mo_classes_17 (Nat.le_of_ble_eq_true rfl) (Nat.le_of_ble_eq_true rfl) ⟨zn_rt (by rw [if_neg (by omega)]), rfl, rfl⟩
    · refine zv_aload_n F d_Mo_classes_9 rfl ?_
      refine zv_get F d_Mo_classes_10 (by assumption) k_Mo 13 (Nat.le_of_ble_eq_true rfl) ln_Mo_130 rfl (by rfl) ?_
      first | refine zn_bif_ne (tgt := 18) F d_Mo_classes_13 rfl (fun h13 => ?_) (fun h13 => ?_) | refine zn_if_ne (tgt := 18) F d_Mo_classes_13 rfl (by omega) (fun h13 => ?_) (fun h13 => ?_)
      · refine zn_iconst (x := 0) F d_Mo_classes_18 (by decide) ?_
        refine zv_istore_n F d_Mo_classes_19 (Nat.le_of_ble_eq_true rfl) ?_
        simp only [zv_s1, zv_s2, zv_kill, List.set_cons_zero, List.set_cons_succ, List.getElem?_cons_zero, List.getElem?_cons_succ]
        refine zn_iconst (x := 0) F d_Mo_classes_20 (by decide) ?_
        refine zv_istore_n F d_Mo_classes_21 (Nat.le_of_ble_eq_true rfl) ?_
        simp only [zv_s1, zv_s2, zv_kill, List.set_cons_zero, List.set_cons_succ, List.getElem?_cons_zero, List.getElem?_cons_succ]
        exact zv_weak (by repeat' (first | exact True.intro | refine And.intro rfl ?_)) (outer _ 0 rfl (Nat.zero_le _) (by omega) (by omega))
      · refine zn_iconst (x := 4294967295) F d_Mo_classes_16 (by decide) ?_
        exact zv_iret F d_Mo_classes_17 (Nat.le_of_ble_eq_true rfl) (Nat.le_of_ble_eq_true rfl) ⟨zn_rt (by rw [if_neg (by omega)]), rfl, rfl⟩
theorem Mo_against_ok {l : Launch} {Δ : zv_D} {hp : zv_M} {sz : Nat} {y c el w j k : Nat} {ns gg gd wd pr : Nat → Nat} (hat : mo_at Δ hp y c ns gg gd el wd pr) (he : el ≤ 60) (hpr : ∀ j k, j < el → k < el → pr (60 * j + k) < el) (hw : w < 6) (hj : j < el) (hk : k < el) : zv_P l Δ 3 y_Mo_against b_Mo_against 4 ((some (FieldType.boolean))) [.ref y, .int (nI w), .int (nI j), .int (nI k)] hp sz (.int (nI (al_ag pr (al_r el pr) (al_l el pr) (al_b el pr) w j k).toNat)) := by
  refine zv_E.intro (lv0 := [some (.ref y), some (.int (nI w)), some (.int (nI j)), some (.int (nI k))]) rfl (Nat.le_of_ble_eq_true rfl) rfl ?_
  intro Γ hl F
  clear hl
  have hat0 := hat
  obtain ⟨⟨op, fi, se, st, f0⟩, f1, f2, f3, sa, mr, mt, ln, ds, fd, fw, sn, f4, f5, f6, f7, f8, f9, fa, fb, fc, fd0⟩ := hat
  have hsb := al_sets_sb (rs := al_r el pr) (ls := al_l el pr) (bs := al_b el pr) he hpr (fun j _ => ⟨rfl, rfl, rfl⟩)
  have p1 := hpr j k hj hk
  have p2 := hpr k j hk hj
  have r1 := (hsb j hj).1
  unfold al_ag
  rcases (show w = 0 ∨ w = 1 ∨ w = 2 ∨ w = 3 ∨ w = 4 ∨ w = 5 by omega) with rfl | rfl | rfl | rfl | rfl | rfl
  · skip
    refine zv_iload_n F d_Mo_against_0 rfl ?_
    refine zv_lookup (tgt := 36) F d_Mo_against_1 (by decide) rfl (by decide) ?_
    refine zv_aload_n F d_Mo_against_36 rfl ?_
    refine zv_get F d_Mo_against_37 (by assumption) k_Mo 18 (Nat.le_of_ble_eq_true rfl) ln_Mo_48 rfl (by rfl) ?_
    refine zn_bipush (x := 60) F d_Mo_against_40 (by decide) ?_
    refine zv_iload_n F d_Mo_against_42 rfl ?_
    refine zn_imul F d_Mo_against_43 ?_
    refine zv_iload_n F d_Mo_against_44 rfl ?_
    refine zn_iadd F d_Mo_against_45 ?_
    refine zn_iald F d_Mo_against_46 (by assumption) (by omega) (by omega) ?_
    refine zv_aload_n F d_Mo_against_47 rfl ?_
    refine zv_get F d_Mo_against_48 (by assumption) k_Mo 18 (Nat.le_of_ble_eq_true rfl) ln_Mo_48 rfl (by rfl) ?_
    refine zn_bipush (x := 60) F d_Mo_against_51 (by decide) ?_
    refine zv_iload_n F d_Mo_against_53 rfl ?_
    refine zn_imul F d_Mo_against_54 ?_
    refine zv_iload_n F d_Mo_against_55 rfl ?_
    refine zn_iadd F d_Mo_against_56 ?_
    refine zn_iald F d_Mo_against_57 (by assumption) (by omega) (by omega) ?_
    refine zn_icmp_eq (tgt := 65) F d_Mo_against_58 rfl (by omega) (by omega) (fun h58 => ?_) (fun h58 => ?_)
    · refine zn_iconst (x := 0) F d_Mo_against_65 (by decide) ?_
      exact zv_zret F d_Mo_against_66 (Nat.le_of_ble_eq_true rfl) (Nat.le_of_ble_eq_true rfl) (by first | rfl | exact zn_nb _) (by first | exact ⟨zn_bt (decide_eq_true (by omega)), rfl, rfl⟩ | exact ⟨zn_bf (decide_eq_false (by omega)), rfl, rfl⟩)
    · refine zn_iconst (x := 1) F d_Mo_against_61 (by decide) ?_
      refine zv_goto (tgt := 66) F d_Mo_against_62 rfl ?_
      exact zv_zret F d_Mo_against_66 (Nat.le_of_ble_eq_true rfl) (Nat.le_of_ble_eq_true rfl) (by first | rfl | exact zn_nb _) (by first | exact ⟨zn_bt (decide_eq_true (by omega)), rfl, rfl⟩ | exact ⟨zn_bf (decide_eq_false (by omega)), rfl, rfl⟩)
  · skip
    refine zv_iload_n F d_Mo_against_0 rfl ?_
    refine zv_lookup (tgt := 67) F d_Mo_against_1 (by decide) rfl (by decide) ?_
    refine zv_iload_n F d_Mo_against_67 rfl ?_
    refine zv_iload_n F d_Mo_against_68 rfl ?_
    refine zn_icmp_eq (tgt := 86) F d_Mo_against_69 rfl (by omega) (by omega) (fun h69 => ?_) (fun h69 => ?_)
    · refine zn_iconst (x := 0) F d_Mo_against_86 (by decide) ?_
      exact zv_zret F d_Mo_against_87 (Nat.le_of_ble_eq_true rfl) (Nat.le_of_ble_eq_true rfl) (by first | rfl | exact zn_nb _) (by first | exact ⟨zn_bt (decide_eq_true (Or.inr (Or.inl ⟨rfl, h69, h79⟩))), rfl, rfl⟩ | exact ⟨zn_bf (decide_eq_false (fun z => by rcases z with z | z | z | z | z | z <;> first | omega | exact h79 ⟨by decide, hj, hk, z.2.2⟩ | exact absurd z.1 (by decide))), rfl, rfl⟩ | exact ⟨zn_bf (decide_eq_false (fun z => by rcases z with z | z | z | z | z | z <;> first | omega | exact z.2.1 h69)), rfl, rfl⟩)
    · refine zv_aload_n F d_Mo_against_72 rfl ?_
      refine zn_iconst (x := 3) F d_Mo_against_73 (by decide) ?_
      refine zv_iload_n F d_Mo_against_74 rfl ?_
      refine zv_iload_n F d_Mo_against_75 rfl ?_
      refine zv_pV3 F rfl (by assumption) k_Mo.1 d_Mo_against_76 (Mo_related_ok hat0 he hpr (by decide) (by omega) (by omega)) Y_Mo_related Yi_Mo_related Yv_Mo_related ln_Mo_151 ⟨(Nat.le_of_ble_eq_true rfl), (Nat.le_of_ble_eq_true rfl)⟩ (Nat.le_of_ble_eq_true rfl) ⟨(Nat.le_of_ble_eq_true rfl), (Nat.le_of_ble_eq_true rfl)⟩ ?_
      first | refine zn_bif_eq (tgt := 86) F d_Mo_against_79 rfl (fun h79 => ?_) (fun h79 => ?_) | refine zn_if_eq (tgt := 86) F d_Mo_against_79 rfl (by omega) (fun h79 => ?_) (fun h79 => ?_)
      · have h79 := of_decide_eq_false h79
        refine zn_iconst (x := 0) F d_Mo_against_86 (by decide) ?_
        exact zv_zret F d_Mo_against_87 (Nat.le_of_ble_eq_true rfl) (Nat.le_of_ble_eq_true rfl) (by first | rfl | exact zn_nb _) (by first | exact ⟨zn_bt (decide_eq_true (Or.inr (Or.inl ⟨rfl, h69, h79⟩))), rfl, rfl⟩ | exact ⟨zn_bf (decide_eq_false (fun z => by rcases z with z | z | z | z | z | z <;> first | omega | exact h79 ⟨by decide, hj, hk, z.2.2⟩ | exact absurd z.1 (by decide))), rfl, rfl⟩ | exact ⟨zn_bf (decide_eq_false (fun z => by rcases z with z | z | z | z | z | z <;> first | omega | exact z.2.1 h69)), rfl, rfl⟩)
      · have h79 := (of_decide_eq_true h79).2.2.2
        refine zn_iconst (x := 1) F d_Mo_against_82 (by decide) ?_
        refine zv_goto (tgt := 87) F d_Mo_against_83 rfl ?_
        exact zv_zret F d_Mo_against_87 (Nat.le_of_ble_eq_true rfl) (Nat.le_of_ble_eq_true rfl) (by first | rfl | exact zn_nb _) (by first | exact ⟨zn_bt (decide_eq_true (Or.inr (Or.inl ⟨rfl, h69, h79⟩))), rfl, rfl⟩ | exact ⟨zn_bf (decide_eq_false (fun z => by rcases z with z | z | z | z | z | z <;> first | omega | exact h79 ⟨by decide, hj, hk, z.2.2⟩ | exact absurd z.1 (by decide))), rfl, rfl⟩ | exact ⟨zn_bf (decide_eq_false (fun z => by rcases z with z | z | z | z | z | z <;> first | omega | exact z.2.1 h69)), rfl, rfl⟩)
  · skip
    refine zv_iload_n F d_Mo_against_0 rfl ?_
    refine zv_lookup (tgt := 111) F d_Mo_against_1 (by decide) rfl (by decide) ?_
    refine zv_iload_n F d_Mo_against_111 rfl ?_
    refine zv_iload_n F d_Mo_against_112 rfl ?_
    refine zn_icmp_eq (tgt := 132) F d_Mo_against_113 rfl (by omega) (by omega) (fun h113 => ?_) (fun h113 => ?_)
    · refine zn_iconst (x := 0) F d_Mo_against_132 (by decide) ?_
      exact zv_zret F d_Mo_against_133 (Nat.le_of_ble_eq_true rfl) (Nat.le_of_ble_eq_true rfl) (by first | rfl | exact zn_nb _) (by first | exact ⟨zn_bt (decide_eq_true (Or.inr (Or.inr (Or.inl ⟨rfl, h113, h125⟩)))), rfl, rfl⟩ | exact ⟨zn_bf (decide_eq_false (fun z => by rcases z with z | z | z | z | z | z <;> first | omega | exact h125 ⟨by decide, hj, hk, z.2.2⟩ | exact absurd z.1 (by decide))), rfl, rfl⟩ | exact ⟨zn_bf (decide_eq_false (fun z => by rcases z with z | z | z | z | z | z <;> first | omega | exact z.2.1 h113)), rfl, rfl⟩)
    · refine zv_aload_n F d_Mo_against_116 rfl ?_
      refine zv_iload_n F d_Mo_against_117 rfl ?_
      refine zn_iconst (x := 2) F d_Mo_against_118 (by decide) ?_
      refine zn_isub F d_Mo_against_119 (by omega) ?_
      refine zv_iload_n F d_Mo_against_120 rfl ?_
      refine zv_iload_n F d_Mo_against_121 rfl ?_
      refine zv_pV3 F rfl (by assumption) k_Mo.1 d_Mo_against_122 (Mo_related_ok hat0 he hpr (by decide) (by omega) (by omega)) Y_Mo_related Yi_Mo_related Yv_Mo_related ln_Mo_151 ⟨(Nat.le_of_ble_eq_true rfl), (Nat.le_of_ble_eq_true rfl)⟩ (Nat.le_of_ble_eq_true rfl) ⟨(Nat.le_of_ble_eq_true rfl), (Nat.le_of_ble_eq_true rfl)⟩ ?_
      first | refine zn_bif_eq (tgt := 132) F d_Mo_against_125 rfl (fun h125 => ?_) (fun h125 => ?_) | refine zn_if_eq (tgt := 132) F d_Mo_against_125 rfl (by omega) (fun h125 => ?_) (fun h125 => ?_)
      · have h125 := of_decide_eq_false h125
        refine zn_iconst (x := 0) F d_Mo_against_132 (by decide) ?_
        exact zv_zret F d_Mo_against_133 (Nat.le_of_ble_eq_true rfl) (Nat.le_of_ble_eq_true rfl) (by first | rfl | exact zn_nb _) (by first | exact ⟨zn_bt (decide_eq_true (Or.inr (Or.inr (Or.inl ⟨rfl, h113, h125⟩)))), rfl, rfl⟩ | exact ⟨zn_bf (decide_eq_false (fun z => by rcases z with z | z | z | z | z | z <;> first | omega | exact h125 ⟨by decide, hj, hk, z.2.2⟩ | exact absurd z.1 (by decide))), rfl, rfl⟩ | exact ⟨zn_bf (decide_eq_false (fun z => by rcases z with z | z | z | z | z | z <;> first | omega | exact z.2.1 h113)), rfl, rfl⟩)
      · have h125 := (of_decide_eq_true h125).2.2.2
        refine zn_iconst (x := 1) F d_Mo_against_128 (by decide) ?_
        refine zv_goto (tgt := 133) F d_Mo_against_129 rfl ?_
        exact zv_zret F d_Mo_against_133 (Nat.le_of_ble_eq_true rfl) (Nat.le_of_ble_eq_true rfl) (by first | rfl | exact zn_nb _) (by first | exact ⟨zn_bt (decide_eq_true (Or.inr (Or.inr (Or.inl ⟨rfl, h113, h125⟩)))), rfl, rfl⟩ | exact ⟨zn_bf (decide_eq_false (fun z => by rcases z with z | z | z | z | z | z <;> first | omega | exact h125 ⟨by decide, hj, hk, z.2.2⟩ | exact absurd z.1 (by decide))), rfl, rfl⟩ | exact ⟨zn_bf (decide_eq_false (fun z => by rcases z with z | z | z | z | z | z <;> first | omega | exact z.2.1 h113)), rfl, rfl⟩)
  · skip
    refine zv_iload_n F d_Mo_against_0 rfl ?_
    refine zv_lookup (tgt := 111) F d_Mo_against_1 (by decide) rfl (by decide) ?_
    refine zv_iload_n F d_Mo_against_111 rfl ?_
    refine zv_iload_n F d_Mo_against_112 rfl ?_
    refine zn_icmp_eq (tgt := 132) F d_Mo_against_113 rfl (by omega) (by omega) (fun h113 => ?_) (fun h113 => ?_)
    · refine zn_iconst (x := 0) F d_Mo_against_132 (by decide) ?_
      exact zv_zret F d_Mo_against_133 (Nat.le_of_ble_eq_true rfl) (Nat.le_of_ble_eq_true rfl) (by first | rfl | exact zn_nb _) (by first | exact ⟨zn_bt (decide_eq_true (Or.inr (Or.inr (Or.inr (Or.inl ⟨rfl, h113, h125⟩))))), rfl, rfl⟩ | exact ⟨zn_bf (decide_eq_false (fun z => by rcases z with z | z | z | z | z | z <;> first | omega | exact h125 ⟨by decide, hj, hk, z.2.2⟩ | exact absurd z.1 (by decide))), rfl, rfl⟩ | exact ⟨zn_bf (decide_eq_false (fun z => by rcases z with z | z | z | z | z | z <;> first | omega | exact z.2.1 h113)), rfl, rfl⟩)
    · refine zv_aload_n F d_Mo_against_116 rfl ?_
      refine zv_iload_n F d_Mo_against_117 rfl ?_
      refine zn_iconst (x := 2) F d_Mo_against_118 (by decide) ?_
      refine zn_isub F d_Mo_against_119 (by omega) ?_
      refine zv_iload_n F d_Mo_against_120 rfl ?_
      refine zv_iload_n F d_Mo_against_121 rfl ?_
      refine zv_pV3 F rfl (by assumption) k_Mo.1 d_Mo_against_122 (Mo_related_ok hat0 he hpr (by decide) (by omega) (by omega)) Y_Mo_related Yi_Mo_related Yv_Mo_related ln_Mo_151 ⟨(Nat.le_of_ble_eq_true rfl), (Nat.le_of_ble_eq_true rfl)⟩ (Nat.le_of_ble_eq_true rfl) ⟨(Nat.le_of_ble_eq_true rfl), (Nat.le_of_ble_eq_true rfl)⟩ ?_
      first | refine zn_bif_eq (tgt := 132) F d_Mo_against_125 rfl (fun h125 => ?_) (fun h125 => ?_) | refine zn_if_eq (tgt := 132) F d_Mo_against_125 rfl (by omega) (fun h125 => ?_) (fun h125 => ?_)
      · have h125 := of_decide_eq_false h125
        refine zn_iconst (x := 0) F d_Mo_against_132 (by decide) ?_
        exact zv_zret F d_Mo_against_133 (Nat.le_of_ble_eq_true rfl) (Nat.le_of_ble_eq_true rfl) (by first | rfl | exact zn_nb _) (by first | exact ⟨zn_bt (decide_eq_true (Or.inr (Or.inr (Or.inr (Or.inl ⟨rfl, h113, h125⟩))))), rfl, rfl⟩ | exact ⟨zn_bf (decide_eq_false (fun z => by rcases z with z | z | z | z | z | z <;> first | omega | exact h125 ⟨by decide, hj, hk, z.2.2⟩ | exact absurd z.1 (by decide))), rfl, rfl⟩ | exact ⟨zn_bf (decide_eq_false (fun z => by rcases z with z | z | z | z | z | z <;> first | omega | exact z.2.1 h113)), rfl, rfl⟩)
      · have h125 := (of_decide_eq_true h125).2.2.2
        refine zn_iconst (x := 1) F d_Mo_against_128 (by decide) ?_
        refine zv_goto (tgt := 133) F d_Mo_against_129 rfl ?_
        exact zv_zret F d_Mo_against_133 (Nat.le_of_ble_eq_true rfl) (Nat.le_of_ble_eq_true rfl) (by first | rfl | exact zn_nb _) (by first | exact ⟨zn_bt (decide_eq_true (Or.inr (Or.inr (Or.inr (Or.inl ⟨rfl, h113, h125⟩))))), rfl, rfl⟩ | exact ⟨zn_bf (decide_eq_false (fun z => by rcases z with z | z | z | z | z | z <;> first | omega | exact h125 ⟨by decide, hj, hk, z.2.2⟩ | exact absurd z.1 (by decide))), rfl, rfl⟩ | exact ⟨zn_bf (decide_eq_false (fun z => by rcases z with z | z | z | z | z | z <;> first | omega | exact z.2.1 h113)), rfl, rfl⟩)
  · skip
    refine zv_iload_n F d_Mo_against_0 rfl ?_
    refine zv_lookup (tgt := 111) F d_Mo_against_1 (by decide) rfl (by decide) ?_
    refine zv_iload_n F d_Mo_against_111 rfl ?_
    refine zv_iload_n F d_Mo_against_112 rfl ?_
    refine zn_icmp_eq (tgt := 132) F d_Mo_against_113 rfl (by omega) (by omega) (fun h113 => ?_) (fun h113 => ?_)
    · refine zn_iconst (x := 0) F d_Mo_against_132 (by decide) ?_
      exact zv_zret F d_Mo_against_133 (Nat.le_of_ble_eq_true rfl) (Nat.le_of_ble_eq_true rfl) (by first | rfl | exact zn_nb _) (by first | exact ⟨zn_bt (decide_eq_true (Or.inr (Or.inr (Or.inr (Or.inr (Or.inl ⟨rfl, h113, h125⟩)))))), rfl, rfl⟩ | exact ⟨zn_bf (decide_eq_false (fun z => by rcases z with z | z | z | z | z | z <;> first | omega | exact h125 ⟨by decide, hj, hk, z.2.2⟩ | exact absurd z.1 (by decide))), rfl, rfl⟩ | exact ⟨zn_bf (decide_eq_false (fun z => by rcases z with z | z | z | z | z | z <;> first | omega | exact z.2.1 h113)), rfl, rfl⟩)
    · refine zv_aload_n F d_Mo_against_116 rfl ?_
      refine zv_iload_n F d_Mo_against_117 rfl ?_
      refine zn_iconst (x := 2) F d_Mo_against_118 (by decide) ?_
      refine zn_isub F d_Mo_against_119 (by omega) ?_
      refine zv_iload_n F d_Mo_against_120 rfl ?_
      refine zv_iload_n F d_Mo_against_121 rfl ?_
      refine zv_pV3 F rfl (by assumption) k_Mo.1 d_Mo_against_122 (Mo_related_ok hat0 he hpr (by decide) (by omega) (by omega)) Y_Mo_related Yi_Mo_related Yv_Mo_related ln_Mo_151 ⟨(Nat.le_of_ble_eq_true rfl), (Nat.le_of_ble_eq_true rfl)⟩ (Nat.le_of_ble_eq_true rfl) ⟨(Nat.le_of_ble_eq_true rfl), (Nat.le_of_ble_eq_true rfl)⟩ ?_
      first | refine zn_bif_eq (tgt := 132) F d_Mo_against_125 rfl (fun h125 => ?_) (fun h125 => ?_) | refine zn_if_eq (tgt := 132) F d_Mo_against_125 rfl (by omega) (fun h125 => ?_) (fun h125 => ?_)
      · have h125 := of_decide_eq_false h125
        refine zn_iconst (x := 0) F d_Mo_against_132 (by decide) ?_
        exact zv_zret F d_Mo_against_133 (Nat.le_of_ble_eq_true rfl) (Nat.le_of_ble_eq_true rfl) (by first | rfl | exact zn_nb _) (by first | exact ⟨zn_bt (decide_eq_true (Or.inr (Or.inr (Or.inr (Or.inr (Or.inl ⟨rfl, h113, h125⟩)))))), rfl, rfl⟩ | exact ⟨zn_bf (decide_eq_false (fun z => by rcases z with z | z | z | z | z | z <;> first | omega | exact h125 ⟨by decide, hj, hk, z.2.2⟩ | exact absurd z.1 (by decide))), rfl, rfl⟩ | exact ⟨zn_bf (decide_eq_false (fun z => by rcases z with z | z | z | z | z | z <;> first | omega | exact z.2.1 h113)), rfl, rfl⟩)
      · have h125 := (of_decide_eq_true h125).2.2.2
        refine zn_iconst (x := 1) F d_Mo_against_128 (by decide) ?_
        refine zv_goto (tgt := 133) F d_Mo_against_129 rfl ?_
        exact zv_zret F d_Mo_against_133 (Nat.le_of_ble_eq_true rfl) (Nat.le_of_ble_eq_true rfl) (by first | rfl | exact zn_nb _) (by first | exact ⟨zn_bt (decide_eq_true (Or.inr (Or.inr (Or.inr (Or.inr (Or.inl ⟨rfl, h113, h125⟩)))))), rfl, rfl⟩ | exact ⟨zn_bf (decide_eq_false (fun z => by rcases z with z | z | z | z | z | z <;> first | omega | exact h125 ⟨by decide, hj, hk, z.2.2⟩ | exact absurd z.1 (by decide))), rfl, rfl⟩ | exact ⟨zn_bf (decide_eq_false (fun z => by rcases z with z | z | z | z | z | z <;> first | omega | exact z.2.1 h113)), rfl, rfl⟩)
  · skip
    refine zv_iload_n F d_Mo_against_0 rfl ?_
    refine zv_lookup (tgt := 88) F d_Mo_against_1 (by decide) rfl (by decide) ?_
    refine zv_iload_n F d_Mo_against_88 rfl ?_
    refine zv_iload_n F d_Mo_against_89 rfl ?_
    refine zn_icmp_ne (tgt := 109) F d_Mo_against_90 rfl (by omega) (by omega) (fun h90 => ?_) (fun h90 => ?_)
    · refine zn_iconst (x := 0) F d_Mo_against_109 (by decide) ?_
      exact zv_zret F d_Mo_against_110 (Nat.le_of_ble_eq_true rfl) (Nat.le_of_ble_eq_true rfl) (by first | rfl | exact zn_nb _) (by first | exact ⟨zn_bt (decide_eq_true (by omega)), rfl, rfl⟩ | exact ⟨zn_bf (decide_eq_false (by omega)), rfl, rfl⟩)
    · refine zv_aload_n F d_Mo_against_93 rfl ?_
      refine zv_iload_n F d_Mo_against_94 rfl ?_
      refine zv_pV1 F rfl (by assumption) k_Mo.1 d_Mo_against_95 (Mo_rightOf_ok f0 fd0 he hpr hj) Y_Mo_rightOf Yi_Mo_rightOf Yv_Mo_rightOf ln_Mo_141 ⟨(Nat.le_of_ble_eq_true rfl), (Nat.le_of_ble_eq_true rfl)⟩ (Nat.le_of_ble_eq_true rfl) ⟨(Nat.le_of_ble_eq_true rfl), (Nat.le_of_ble_eq_true rfl)⟩ ?_
      refine zn_lconst (x := 1) F d_Mo_against_98 (by decide) ?_
      refine zn_land F d_Mo_against_99 ?_
      rw [Nat.and_one_is_mod]
      refine zn_lconst (x := 0) F d_Mo_against_100 (by decide) ?_
      refine zn_lcmp F d_Mo_against_101 (by omega) (by omega) (fun w101 b101 c101 => ?_)
      first | refine zn_bif_ne (tgt := 109) F d_Mo_against_102 rfl (fun h102 => ?_) (fun h102 => ?_) | refine zn_if_ne (tgt := 109) F d_Mo_against_102 rfl (by omega) (fun h102 => ?_) (fun h102 => ?_)
      · refine zn_iconst (x := 0) F d_Mo_against_109 (by decide) ?_
        exact zv_zret F d_Mo_against_110 (Nat.le_of_ble_eq_true rfl) (Nat.le_of_ble_eq_true rfl) (by first | rfl | exact zn_nb _) (by first | exact ⟨zn_bt (decide_eq_true (by omega)), rfl, rfl⟩ | exact ⟨zn_bf (decide_eq_false (by omega)), rfl, rfl⟩)
      · refine zn_iconst (x := 1) F d_Mo_against_105 (by decide) ?_
        refine zv_goto (tgt := 110) F d_Mo_against_106 rfl ?_
        exact zv_zret F d_Mo_against_110 (Nat.le_of_ble_eq_true rfl) (Nat.le_of_ble_eq_true rfl) (by first | rfl | exact zn_nb _) (by first | exact ⟨zn_bt (decide_eq_true (by omega)), rfl, rfl⟩ | exact ⟨zn_bf (decide_eq_false (by omega)), rfl, rfl⟩)
theorem Mo_witness_ok {l : Launch} {Δ : zv_D} {hp : zv_M} {sz : Nat} {y c el w : Nat} {ns gg gd wd pr : Nat → Nat} (hat : mo_at Δ hp y c ns gg gd el wd pr) (he : el ≤ 60) (hpr : ∀ j k, j < el → k < el → pr (60 * j + k) < el) (hw : w < 4294967296) : zv_P l Δ 4 y_Mo_witness b_Mo_witness 4 ((some (FieldType.int))) [.ref y, .int (nI w)] hp sz (.int (nI (if w < 6 ∧ 0 < el then la_wt (al_ag pr (al_r el pr) (al_l el pr) (al_b el pr) w) el else 4294967294))) := by
  refine zv_E.intro (lv0 := [some (.ref y), some (.int (nI w)), none, none]) rfl (Nat.le_of_ble_eq_true rfl) rfl ?_
  intro Γ hl F
  clear hl
  have hat0 := hat
  obtain ⟨⟨op, fi, se, st, f0⟩, f1, f2, f3, hrest⟩ := hat
  have outer : ∀ (z j : Nat), z = el - j → j ≤ el → w < 6 → 0 < el → zf_ff (la_J (al_ag pr (al_r el pr) (al_l el pr) (al_b el pr) w) el) 0 el = zf_ff (la_J (al_ag pr (al_r el pr) (al_l el pr) (al_b el pr) w) el) j (el - j) → zv_V Δ Γ (zv_QQ Δ Γ 0 0 (fun r hp1 sz1 => r = some (.int (nI (if w < 6 ∧ 0 < el then la_wt (al_ag pr (al_r el pr) (al_l el pr) (al_b el pr) w) el else 4294967294))) ∧ hp1 = hp ∧ sz1 = sz)) 21 [some (.ref y), some (.int (nI w)), some (.int (nI j)), none] [] hp sz 0 0 := by
    intro z
    induction z using Nat.strongRecOn with
    | ind z ih =>
      intro j hz hj hw6 he0 hJ
      have inner : ∀ (z2 k : Nat), z2 = el - k → k ≤ el → j < el → zf_ff (al_ag pr (al_r el pr) (al_l el pr) (al_b el pr) w j) 0 el = zf_ff (al_ag pr (al_r el pr) (al_l el pr) (al_b el pr) w j) k (el - k) → zv_V Δ Γ (zv_QQ Δ Γ 0 0 (fun r hp1 sz1 => r = some (.int (nI (if w < 6 ∧ 0 < el then la_wt (al_ag pr (al_r el pr) (al_l el pr) (al_b el pr) w) el else 4294967294))) ∧ hp1 = hp ∧ sz1 = sz)) 31 [some (.ref y), some (.int (nI w)), some (.int (nI j)), some (.int (nI k))] [] hp sz 0 0 := by
        intro z2
        induction z2 using Nat.strongRecOn with
        | ind z2 ih2 =>
          intro k hz2 hk hje hK
          refine zv_iload_n F d_Mo_witness_31 rfl ?_
          refine zv_aload_n F d_Mo_witness_32 rfl ?_
          refine zv_get F d_Mo_witness_33 (by assumption) k_Mo 13 (Nat.le_of_ble_eq_true rfl) ln_Mo_130 rfl (by rfl) ?_
          refine zn_icmp_ge (tgt := 62) F d_Mo_witness_36 rfl (by omega) (by omega) (fun h36 => ?_) (fun h36 => ?_)
          · refine zn_iinc F d_Mo_witness_62 rfl ?_
            simp only [zv_s1, zv_s2, zv_kill, List.set_cons_zero, List.set_cons_succ, List.getElem?_cons_zero, List.getElem?_cons_succ]
            refine zv_goto (tgt := 21) F d_Mo_witness_65 rfl ?_
            have e1 : zf_ff (al_ag pr (al_r el pr) (al_l el pr) (al_b el pr) w j) 0 el = el := by rw [hK, show el - k = 0 by omega]; simp only [zf_ff]; omega
            exact zv_weak (by repeat' (first | exact True.intro | refine And.intro rfl ?_)) (ih (el - (j + 1)) (by omega) (j + 1) rfl (by omega) hw6 he0 (by rw [hJ, zf_miss (decide_eq_false (by rw [e1]; omega)) (by omega)]; rfl))
          · refine zv_aload_n F d_Mo_witness_39 rfl ?_
            refine zv_iload_n F d_Mo_witness_40 rfl ?_
            refine zv_iload_n F d_Mo_witness_41 rfl ?_
            refine zv_iload_n F d_Mo_witness_42 rfl ?_
            refine zv_pV3 F rfl (by assumption) k_Mo.1 d_Mo_witness_43 (Mo_against_ok hat0 he hpr hw6 hje (by omega)) Y_Mo_against Yi_Mo_against Yv_Mo_against ln_Mo_155 ⟨(Nat.le_of_ble_eq_true rfl), (Nat.le_of_ble_eq_true rfl)⟩ (Nat.le_of_ble_eq_true rfl) ⟨(Nat.le_of_ble_eq_true rfl), (Nat.le_of_ble_eq_true rfl)⟩ ?_
            first | refine zn_bif_eq (tgt := 56) F d_Mo_witness_46 rfl (fun h46 => ?_) (fun h46 => ?_) | refine zn_if_eq (tgt := 56) F d_Mo_witness_46 rfl (by omega) (fun h46 => ?_) (fun h46 => ?_)
            · refine zn_iinc F d_Mo_witness_56 rfl ?_
              simp only [zv_s1, zv_s2, zv_kill, List.set_cons_zero, List.set_cons_succ, List.getElem?_cons_zero, List.getElem?_cons_succ]
              refine zv_goto (tgt := 31) F d_Mo_witness_59 rfl ?_
              exact zv_weak (by repeat' (first | exact True.intro | refine And.intro rfl ?_)) (ih2 (el - (k + 1)) (by omega) (k + 1) rfl (by omega) hje (by rw [hK, zf_miss h46 (by omega)]; rfl))
            · refine zn_bipush (x := 64) F d_Mo_witness_49 (by decide) ?_
              refine zv_iload_n F d_Mo_witness_51 rfl ?_
              refine zn_imul F d_Mo_witness_52 ?_
              refine zv_iload_n F d_Mo_witness_53 rfl ?_
              refine zn_iadd F d_Mo_witness_54 ?_
              exact zv_iret F d_Mo_witness_55 (Nat.le_of_ble_eq_true rfl) (Nat.le_of_ble_eq_true rfl) ⟨zn_rt (by
                have e1 : zf_ff (al_ag pr (al_r el pr) (al_l el pr) (al_b el pr) w j) 0 el = k := by rw [hK, zf_hit h46 (by omega)]
                have e2 : zf_ff (la_J (al_ag pr (al_r el pr) (al_l el pr) (al_b el pr) w) el) 0 el = j := by rw [hJ, zf_hit (decide_eq_true (by rw [e1]; omega)) (by omega)]
                rw [if_pos ⟨hw6, he0⟩]
                unfold la_wt
                rw [e2, e1, if_pos hje]), rfl, rfl⟩
      refine zv_iload_n F d_Mo_witness_21 rfl ?_
      refine zv_aload_n F d_Mo_witness_22 rfl ?_
      refine zv_get F d_Mo_witness_23 (by assumption) k_Mo 13 (Nat.le_of_ble_eq_true rfl) ln_Mo_130 rfl (by rfl) ?_
      refine zn_icmp_ge (tgt := 68) F d_Mo_witness_26 rfl (by omega) (by omega) (fun h26 => ?_) (fun h26 => ?_)
      · refine zn_iconst (x := 4294967295) F d_Mo_witness_68 (by decide) ?_
        exact zv_iret F d_Mo_witness_69 (Nat.le_of_ble_eq_true rfl) (Nat.le_of_ble_eq_true rfl) ⟨zn_rt (by
          have e1 : zf_ff (la_J (al_ag pr (al_r el pr) (al_l el pr) (al_b el pr) w) el) 0 el = el := by rw [hJ, show el - j = 0 by omega]; simp only [zf_ff]; omega
          rw [if_pos ⟨hw6, he0⟩]
          unfold la_wt
          rw [e1, if_neg (Nat.lt_irrefl _)]), rfl, rfl⟩
      · refine zn_iconst (x := 0) F d_Mo_witness_29 (by decide) ?_
        refine zv_istore_n F d_Mo_witness_30 (Nat.le_of_ble_eq_true rfl) ?_
        simp only [zv_s1, zv_s2, zv_kill, List.set_cons_zero, List.set_cons_succ, List.getElem?_cons_zero, List.getElem?_cons_succ]
        exact zv_weak (by repeat' (first | exact True.intro | refine And.intro rfl ?_)) (inner _ 0 rfl (Nat.zero_le _) (by omega) (by rw [Nat.sub_zero]))
  refine zv_iload_n F d_Mo_witness_0 rfl ?_
  refine zn_if_lt (tgt := 16) F d_Mo_witness_1 rfl (by omega) (fun h1 => ?_) (fun h1 => ?_)
  · refine zn_bipush (x := 4294967294) F d_Mo_witness_16 (by decide) ?_
    exact zv_iret F d_Mo_witness_18 (Nat.le_of_ble_eq_true rfl) (Nat.le_of_ble_eq_true rfl) ⟨zn_rt (by rw [if_neg (by omega)]), rfl, rfl⟩
  · refine zv_iload_n F d_Mo_witness_4 rfl ?_
    refine zn_iconst (x := 5) F d_Mo_witness_5 (by decide) ?_
    refine zn_icmp_gt (tgt := 16) F d_Mo_witness_6 rfl (by omega) (by omega) (fun h6 => ?_) (fun h6 => ?_)
    · refine zn_bipush (x := 4294967294) F d_Mo_witness_16 (by decide) ?_
      exact zv_iret F d_Mo_witness_18 (Nat.le_of_ble_eq_true rfl) (Nat.le_of_ble_eq_true rfl) ⟨zn_rt (by rw [if_neg (by omega)]), rfl, rfl⟩
    · refine zv_aload_n F d_Mo_witness_9 rfl ?_
      refine zv_get F d_Mo_witness_10 (by assumption) k_Mo 13 (Nat.le_of_ble_eq_true rfl) ln_Mo_130 rfl (by rfl) ?_
      first | refine zn_bif_ne (tgt := 19) F d_Mo_witness_13 rfl (fun h13 => ?_) (fun h13 => ?_) | refine zn_if_ne (tgt := 19) F d_Mo_witness_13 rfl (by omega) (fun h13 => ?_) (fun h13 => ?_)
      · refine zn_iconst (x := 0) F d_Mo_witness_19 (by decide) ?_
        refine zv_istore_n F d_Mo_witness_20 (Nat.le_of_ble_eq_true rfl) ?_
        simp only [zv_s1, zv_s2, zv_kill, List.set_cons_zero, List.set_cons_succ, List.getElem?_cons_zero, List.getElem?_cons_succ]
        exact zv_weak (by repeat' (first | exact True.intro | refine And.intro rfl ?_)) (outer _ 0 rfl (Nat.zero_le _) (by omega) (by omega) (by rw [Nat.sub_zero]))
      · refine zn_bipush (x := 4294967294) F d_Mo_witness_16 (by decide) ?_
        exact zv_iret F d_Mo_witness_18 (Nat.le_of_ble_eq_true rfl) (Nat.le_of_ble_eq_true rfl) ⟨zn_rt (by rw [if_neg (by omega)]), rfl, rfl⟩

