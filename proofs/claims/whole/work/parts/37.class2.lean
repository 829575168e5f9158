theorem LA_basic_ok {l : Launch} {Δ : zv_D} {hp : zv_M} {sz : Nat} {x c e k : Nat} {n acc : Nat → Nat} {g : Nat → Nat → Nat} {wd pr rs ls bs : Nat → Nat} (hL : la_at Δ hp x c n acc g e wd pr rs ls bs) (hc : c ≤ 12) (hx : x + 43 ≤ sz) (hk : k < 4294967296) : zv_E l Δ 6 y_LA_basic b_LA_basic 2 ((some (FieldType.int))) [.ref x, .int (nI k)] hp sz 1 1 (fun r hp1 sz1 => ∃ v : Nat, r = some (.int (nI v)) ∧ sz ≤ sz1 ∧ (∀ q, q < sz ∧ (q < x ∨ x + 43 ≤ q) → hp1 q = hp q) ∧ ((¬ (k < 4) ∧ v = 4294967295 ∧ la_at Δ hp1 x c n acc g e wd pr rs ls bs) ∨ ((k < 4) ∧ la_add Δ hp hp1 x c n acc g e wd pr rs ls bs (mc_L (pm_ba k) (pm_baA k) 0) v))) := by
  refine zv_E.intro (lv0 := [some (.ref x), some (.int (nI k))]) rfl (Nat.le_of_ble_eq_true rfl) rfl ?_
  intro Γ hl F
  clear hl
  have f0 := hL.1
  obtain ⟨fa, f1, hfa⟩ := hL.2.1
  have hau := hL.2.2.2.2
  refine zv_iload_n F d_LA_basic_0 rfl ?_
  refine zn_if_lt (tgt := 9) F d_LA_basic_1 rfl (by omega) (fun h1 => ?_) (fun h1 => ?_)
  · refine zn_iconst (x := 4294967295) F d_LA_basic_9 (by decide) ?_
    exact zv_iret F d_LA_basic_10 (Nat.le_of_ble_eq_true rfl) (Nat.le_of_ble_eq_true rfl) ⟨4294967295, rfl, by omega, fun q _ => rfl, Or.inl ⟨by omega, rfl, hL⟩⟩
  · refine zv_iload_n F d_LA_basic_4 rfl ?_
    refine zn_iconst (x := 4) F d_LA_basic_5 (by decide) ?_
    refine zn_icmp_lt (tgt := 11) F d_LA_basic_6 rfl (by omega) (by omega) (fun h6 => ?_) (fun h6 => ?_)
    · refine zv_aload_n F d_LA_basic_11 rfl ?_
      refine zv_new (fs := [.int (nI 0)]) F d_LA_basic_12 k_Ba t_Ba t_Ba_ok nw_Ba ln_LA_30 ki_Ba kz_Ba (Nat.le_of_ble_eq_true rfl) (Nat.le_of_ble_eq_true rfl) (fun hp12 l12 e12 => ?_)
      have fN := zv_eq e12
      have hL1 := hL.moved (fun b b1 b2 => zv_ne (b := b) e12 (by omega))
      have g0 := hL1.1
      have g1 : hp12 (x + 1) = some (la_arr Δ fa) := (zv_ne e12 (by omega)).trans f1
      refine zv_dup F d_LA_basic_15 rfl ?_
      refine zv_iload_n F d_LA_basic_16 rfl ?_
      refine zv_mI1 F rfl d_LA_basic_17 (Ba_init_ok fN) Y_Ba_init Yi_Ba_init rfl ln_LA_32 ⟨(Nat.le_of_ble_eq_true rfl), (Nat.le_of_ble_eq_true rfl)⟩ (Nat.le_of_ble_eq_true rfl) ⟨(Nat.le_of_ble_eq_true rfl), (Nat.le_of_ble_eq_true rfl)⟩ (fun r hp17 sz17 q17 => ?_)
      obtain ⟨rfl, rfl, fB, fr1⟩ := q17
      have hL2 := hL1.moved (fun b b1 b2 => fr1 b (by omega))
      have g2 := hL2.1
      have hau2 := hL2.2.2.2.2
      try simp only [Option.toList, List.cons_append, List.nil_append]
      refine zv_mV1 F rfl (by assumption) k_LA.1 d_LA_basic_20 (LA_add_ok hL2 hc (mc_ba fB (by omega)) (fun q hq => by subst hq; exact Or.inr (by omega))) Y_LA_add Yi_LA_add Yv_LA_add ln_LA_35 ⟨(Nat.le_of_ble_eq_true rfl), (Nat.le_of_ble_eq_true rfl)⟩ (Nat.le_of_ble_eq_true rfl) ⟨(Nat.le_of_ble_eq_true rfl), (Nat.le_of_ble_eq_true rfl)⟩ (fun r hp20 sz20 q20 => ?_)
      obtain ⟨v, rfl, rfl, fr2, hv⟩ := q20
      try simp only [Option.toList, List.cons_append, List.nil_append]
      exact zv_iret F d_LA_basic_23 (Nat.le_of_ble_eq_true rfl) (Nat.le_of_ble_eq_true rfl) ⟨v, rfl, by omega, fun q hq => (fr2 q hq.2).trans ((fr1 q (by omega)).trans (zv_ne e12 (by omega))), Or.inr ⟨by omega, hv⟩⟩
    · refine zn_iconst (x := 4294967295) F d_LA_basic_9 (by decide) ?_
      exact zv_iret F d_LA_basic_10 (Nat.le_of_ble_eq_true rfl) (Nat.le_of_ble_eq_true rfl) ⟨4294967295, rfl, by omega, fun q _ => rfl, Or.inl ⟨by omega, rfl, hL⟩⟩
theorem LA_unite_ok {l : Launch} {Δ : zv_D} {hp : zv_M} {sz : Nat} {x c e i j : Nat} {n acc : Nat → Nat} {g : Nat → Nat → Nat} {wd pr rs ls bs : Nat → Nat} (hL : la_at Δ hp x c n acc g e wd pr rs ls bs) (hc : c ≤ 12) (hx : x + 43 ≤ sz) (hi : i < 4294967296) (hj : j < 4294967296) : zv_E l Δ 6 y_LA_unite b_LA_unite 3 ((some (FieldType.int))) [.ref x, .int (nI i), .int (nI j)] hp sz 1 3 (fun r hp1 sz1 => ∃ v : Nat, r = some (.int (nI v)) ∧ sz ≤ sz1 ∧ (∀ q, q < sz ∧ (q < x ∨ x + 43 ≤ q) → hp1 q = hp q) ∧ ((¬ (i < c ∧ j < c) ∧ v = 4294967295 ∧ la_at Δ hp1 x c n acc g e wd pr rs ls bs) ∨ ((i < c ∧ j < c) ∧ la_add Δ hp hp1 x c n acc g e wd pr rs ls bs (mc_L (pm_pa (g i) (g j)) (pm_paA false (acc i) (acc j)) 0) v))) := by
  refine zv_E.intro (lv0 := [some (.ref x), some (.int (nI i)), some (.int (nI j))]) rfl (Nat.le_of_ble_eq_true rfl) rfl ?_
  intro Γ hl F
  clear hl
  have f0 := hL.1
  obtain ⟨fa, f1, hfa⟩ := hL.2.1
  have hau := hL.2.2.2.2
  refine zv_aload_n F d_LA_unite_0 rfl ?_
  refine zv_iload_n F d_LA_unite_1 rfl ?_
  refine zv_pV1 F rfl (by assumption) k_LA.1 d_LA_unite_2 (LA_isListed_ok f0 hc hi) Y_LA_isListed Yi_LA_isListed Yv_LA_isListed ln_LA_39 ⟨(Nat.le_of_ble_eq_true rfl), (Nat.le_of_ble_eq_true rfl)⟩ (Nat.le_of_ble_eq_true rfl) ⟨(Nat.le_of_ble_eq_true rfl), (Nat.le_of_ble_eq_true rfl)⟩ ?_
  first | refine zn_bif_eq (tgt := 16) F d_LA_unite_5 rfl (fun h5 => ?_) (fun h5 => ?_) | refine zn_if_eq (tgt := 16) F d_LA_unite_5 rfl (by omega) (fun h5 => ?_) (fun h5 => ?_)
  · have h5 := of_decide_eq_false h5
    refine zn_iconst (x := 4294967295) F d_LA_unite_16 (by decide) ?_
    exact zv_iret F d_LA_unite_17 (Nat.le_of_ble_eq_true rfl) (Nat.le_of_ble_eq_true rfl) ⟨4294967295, rfl, by omega, fun q _ => rfl, Or.inl ⟨by omega, rfl, hL⟩⟩
  · have h5 := of_decide_eq_true h5
    refine zv_aload_n F d_LA_unite_8 rfl ?_
    refine zv_iload_n F d_LA_unite_9 rfl ?_
    refine zv_pV1 F rfl (by assumption) k_LA.1 d_LA_unite_10 (LA_isListed_ok f0 hc hj) Y_LA_isListed Yi_LA_isListed Yv_LA_isListed ln_LA_39 ⟨(Nat.le_of_ble_eq_true rfl), (Nat.le_of_ble_eq_true rfl)⟩ (Nat.le_of_ble_eq_true rfl) ⟨(Nat.le_of_ble_eq_true rfl), (Nat.le_of_ble_eq_true rfl)⟩ ?_
    first | refine zn_bif_ne (tgt := 18) F d_LA_unite_13 rfl (fun h13 => ?_) (fun h13 => ?_) | refine zn_if_ne (tgt := 18) F d_LA_unite_13 rfl (by omega) (fun h13 => ?_) (fun h13 => ?_)
    · have h13 := of_decide_eq_true h13
      refine zv_aload_n F d_LA_unite_18 rfl ?_
      refine zv_new (fs := [.null, .null, .int (nI 0)]) F d_LA_unite_19 k_Pa t_Pa t_Pa_ok nw_Pa ln_LA_43 ki_Pa kz_Pa (Nat.le_of_ble_eq_true rfl) (Nat.le_of_ble_eq_true rfl) (fun hp19 l19 e19 => ?_)
      have fN := zv_eq e19
      have hL1 := hL.moved (fun b b1 b2 => zv_ne (b := b) e19 (by omega))
      have g0 := hL1.1
      have g1 : hp19 (x + 1) = some (la_arr Δ fa) := (zv_ne e19 (by omega)).trans f1
      refine zv_dup F d_LA_unite_22 rfl ?_
      refine zv_aload_n F d_LA_unite_23 rfl ?_
      refine zv_get F d_LA_unite_24 (by assumption) k_LA 0 (Nat.le_of_ble_eq_true rfl) ln_LA_11 rfl (by rfl) ?_
      refine zv_iload_n F d_LA_unite_27 rfl ?_
      refine zv_aald (t0 := 3) F d_LA_unite_28 (by assumption) rfl (vp_in_nI (by omega) (by omega)) (by rw [nI_clamp (by omega)]; exact hfa _ (by omega)) ?_
      refine zv_aload_n F d_LA_unite_29 rfl ?_
      refine zv_get F d_LA_unite_30 (by assumption) k_LA 0 (Nat.le_of_ble_eq_true rfl) ln_LA_11 rfl (by rfl) ?_
      refine zv_iload_n F d_LA_unite_33 rfl ?_
      refine zv_aald (t0 := 3) F d_LA_unite_34 (by assumption) rfl (vp_in_nI (by omega) (by omega)) (by rw [nI_clamp (by omega)]; exact hfa _ (by omega)) ?_
      refine zn_iconst (x := 0) F d_LA_unite_35 (by decide) ?_
      refine zv_mI3 F rfl d_LA_unite_36 (Pa_init_ok (b := false) fN) Y_Pa_init Yi_Pa_init rfl ln_LA_45 ⟨(Nat.le_of_ble_eq_true rfl), (Nat.le_of_ble_eq_true rfl)⟩ (Nat.le_of_ble_eq_true rfl) ⟨(Nat.le_of_ble_eq_true rfl), (Nat.le_of_ble_eq_true rfl)⟩ (fun r hp36 sz36 q36 => ?_)
      obtain ⟨rfl, rfl, fB, fr1⟩ := q36
      have hL2 := hL1.moved (fun b b1 b2 => fr1 b (by omega))
      have g2 := hL2.1
      have hau2 := hL2.2.2.2.2
      try simp only [Option.toList, List.cons_append, List.nil_append]
      refine zv_mV1 F rfl (by assumption) k_LA.1 d_LA_unite_39 (LA_add_ok hL2 hc (mc_pa (both := false) fB (hau2 i (by omega)).1 (hau2 i (by omega)).2 (hau2 j (by omega)).1 (hau2 j (by omega)).2) (fun q hq => by rcases hq with rfl | rfl | rfl | rfl | rfl <;> omega)) Y_LA_add Yi_LA_add Yv_LA_add ln_LA_35 ⟨(Nat.le_of_ble_eq_true rfl), (Nat.le_of_ble_eq_true rfl)⟩ (Nat.le_of_ble_eq_true rfl) ⟨(Nat.le_of_ble_eq_true rfl), (Nat.le_of_ble_eq_true rfl)⟩ (fun r hp39 sz39 q39 => ?_)
      obtain ⟨v, rfl, rfl, fr2, hv⟩ := q39
      try simp only [Option.toList, List.cons_append, List.nil_append]
      exact zv_iret F d_LA_unite_42 (Nat.le_of_ble_eq_true rfl) (Nat.le_of_ble_eq_true rfl) ⟨v, rfl, by omega, fun q hq => (fr2 q hq.2).trans ((fr1 q (by omega)).trans (zv_ne e19 (by omega))), Or.inr ⟨by omega, hv⟩⟩
    · have h13 := of_decide_eq_false h13
      refine zn_iconst (x := 4294967295) F d_LA_unite_16 (by decide) ?_
      exact zv_iret F d_LA_unite_17 (Nat.le_of_ble_eq_true rfl) (Nat.le_of_ble_eq_true rfl) ⟨4294967295, rfl, by omega, fun q _ => rfl, Or.inl ⟨by omega, rfl, hL⟩⟩
theorem LA_meet_ok {l : Launch} {Δ : zv_D} {hp : zv_M} {sz : Nat} {x c e i j : Nat} {n acc : Nat → Nat} {g : Nat → Nat → Nat} {wd pr rs ls bs : Nat → Nat} (hL : la_at Δ hp x c n acc g e wd pr rs ls bs) (hc : c ≤ 12) (hx : x + 43 ≤ sz) (hi : i < 4294967296) (hj : j < 4294967296) : zv_E l Δ 6 y_LA_meet b_LA_meet 3 ((some (FieldType.int))) [.ref x, .int (nI i), .int (nI j)] hp sz 1 3 (fun r hp1 sz1 => ∃ v : Nat, r = some (.int (nI v)) ∧ sz ≤ sz1 ∧ (∀ q, q < sz ∧ (q < x ∨ x + 43 ≤ q) → hp1 q = hp q) ∧ ((¬ (i < c ∧ j < c) ∧ v = 4294967295 ∧ la_at Δ hp1 x c n acc g e wd pr rs ls bs) ∨ ((i < c ∧ j < c) ∧ la_add Δ hp hp1 x c n acc g e wd pr rs ls bs (mc_L (pm_pa (g i) (g j)) (pm_paA true (acc i) (acc j)) 0) v))) := by
  refine zv_E.intro (lv0 := [some (.ref x), some (.int (nI i)), some (.int (nI j))]) rfl (Nat.le_of_ble_eq_true rfl) rfl ?_
  intro Γ hl F
  clear hl
  have f0 := hL.1
  obtain ⟨fa, f1, hfa⟩ := hL.2.1
  have hau := hL.2.2.2.2
  refine zv_aload_n F d_LA_meet_0 rfl ?_
  refine zv_iload_n F d_LA_meet_1 rfl ?_
  refine zv_pV1 F rfl (by assumption) k_LA.1 d_LA_meet_2 (LA_isListed_ok f0 hc hi) Y_LA_isListed Yi_LA_isListed Yv_LA_isListed ln_LA_39 ⟨(Nat.le_of_ble_eq_true rfl), (Nat.le_of_ble_eq_true rfl)⟩ (Nat.le_of_ble_eq_true rfl) ⟨(Nat.le_of_ble_eq_true rfl), (Nat.le_of_ble_eq_true rfl)⟩ ?_
  first | refine zn_bif_eq (tgt := 16) F d_LA_meet_5 rfl (fun h5 => ?_) (fun h5 => ?_) | refine zn_if_eq (tgt := 16) F d_LA_meet_5 rfl (by omega) (fun h5 => ?_) (fun h5 => ?_)
  · have h5 := of_decide_eq_false h5
    refine zn_iconst (x := 4294967295) F d_LA_meet_16 (by decide) ?_
    exact zv_iret F d_LA_meet_17 (Nat.le_of_ble_eq_true rfl) (Nat.le_of_ble_eq_true rfl) ⟨4294967295, rfl, by omega, fun q _ => rfl, Or.inl ⟨by omega, rfl, hL⟩⟩
  · have h5 := of_decide_eq_true h5
    refine zv_aload_n F d_LA_meet_8 rfl ?_
    refine zv_iload_n F d_LA_meet_9 rfl ?_
    refine zv_pV1 F rfl (by assumption) k_LA.1 d_LA_meet_10 (LA_isListed_ok f0 hc hj) Y_LA_isListed Yi_LA_isListed Yv_LA_isListed ln_LA_39 ⟨(Nat.le_of_ble_eq_true rfl), (Nat.le_of_ble_eq_true rfl)⟩ (Nat.le_of_ble_eq_true rfl) ⟨(Nat.le_of_ble_eq_true rfl), (Nat.le_of_ble_eq_true rfl)⟩ ?_
    first | refine zn_bif_ne (tgt := 18) F d_LA_meet_13 rfl (fun h13 => ?_) (fun h13 => ?_) | refine zn_if_ne (tgt := 18) F d_LA_meet_13 rfl (by omega) (fun h13 => ?_) (fun h13 => ?_)
    · have h13 := of_decide_eq_true h13
      refine zv_aload_n F d_LA_meet_18 rfl ?_
      refine zv_new (fs := [.null, .null, .int (nI 0)]) F d_LA_meet_19 k_Pa t_Pa t_Pa_ok nw_Pa ln_LA_43 ki_Pa kz_Pa (Nat.le_of_ble_eq_true rfl) (Nat.le_of_ble_eq_true rfl) (fun hp19 l19 e19 => ?_)
      have fN := zv_eq e19
      have hL1 := hL.moved (fun b b1 b2 => zv_ne (b := b) e19 (by omega))
      have g0 := hL1.1
      have g1 : hp19 (x + 1) = some (la_arr Δ fa) := (zv_ne e19 (by omega)).trans f1
      refine zv_dup F d_LA_meet_22 rfl ?_
      refine zv_aload_n F d_LA_meet_23 rfl ?_
      refine zv_get F d_LA_meet_24 (by assumption) k_LA 0 (Nat.le_of_ble_eq_true rfl) ln_LA_11 rfl (by rfl) ?_
      refine zv_iload_n F d_LA_meet_27 rfl ?_
      refine zv_aald (t0 := 3) F d_LA_meet_28 (by assumption) rfl (vp_in_nI (by omega) (by omega)) (by rw [nI_clamp (by omega)]; exact hfa _ (by omega)) ?_
      refine zv_aload_n F d_LA_meet_29 rfl ?_
      refine zv_get F d_LA_meet_30 (by assumption) k_LA 0 (Nat.le_of_ble_eq_true rfl) ln_LA_11 rfl (by rfl) ?_
      refine zv_iload_n F d_LA_meet_33 rfl ?_
      refine zv_aald (t0 := 3) F d_LA_meet_34 (by assumption) rfl (vp_in_nI (by omega) (by omega)) (by rw [nI_clamp (by omega)]; exact hfa _ (by omega)) ?_
      refine zn_iconst (x := 1) F d_LA_meet_35 (by decide) ?_
      refine zv_mI3 F rfl d_LA_meet_36 (Pa_init_ok (b := true) fN) Y_Pa_init Yi_Pa_init rfl ln_LA_45 ⟨(Nat.le_of_ble_eq_true rfl), (Nat.le_of_ble_eq_true rfl)⟩ (Nat.le_of_ble_eq_true rfl) ⟨(Nat.le_of_ble_eq_true rfl), (Nat.le_of_ble_eq_true rfl)⟩ (fun r hp36 sz36 q36 => ?_)
      obtain ⟨rfl, rfl, fB, fr1⟩ := q36
      have hL2 := hL1.moved (fun b b1 b2 => fr1 b (by omega))
      have g2 := hL2.1
      have hau2 := hL2.2.2.2.2
      try simp only [Option.toList, List.cons_append, List.nil_append]
      refine zv_mV1 F rfl (by assumption) k_LA.1 d_LA_meet_39 (LA_add_ok hL2 hc (mc_pa (both := true) fB (hau2 i (by omega)).1 (hau2 i (by omega)).2 (hau2 j (by omega)).1 (hau2 j (by omega)).2) (fun q hq => by rcases hq with rfl | rfl | rfl | rfl | rfl <;> omega)) Y_LA_add Yi_LA_add Yv_LA_add ln_LA_35 ⟨(Nat.le_of_ble_eq_true rfl), (Nat.le_of_ble_eq_true rfl)⟩ (Nat.le_of_ble_eq_true rfl) ⟨(Nat.le_of_ble_eq_true rfl), (Nat.le_of_ble_eq_true rfl)⟩ (fun r hp39 sz39 q39 => ?_)
      obtain ⟨v, rfl, rfl, fr2, hv⟩ := q39
      try simp only [Option.toList, List.cons_append, List.nil_append]
      exact zv_iret F d_LA_meet_42 (Nat.le_of_ble_eq_true rfl) (Nat.le_of_ble_eq_true rfl) ⟨v, rfl, by omega, fun q hq => (fr2 q hq.2).trans ((fr1 q (by omega)).trans (zv_ne e19 (by omega))), Or.inr ⟨by omega, hv⟩⟩
    · have h13 := of_decide_eq_false h13
      refine zn_iconst (x := 4294967295) F d_LA_meet_16 (by decide) ?_
      exact zv_iret F d_LA_meet_17 (Nat.le_of_ble_eq_true rfl) (Nat.le_of_ble_eq_true rfl) ⟨4294967295, rfl, by omega, fun q _ => rfl, Or.inl ⟨by omega, rfl, hL⟩⟩
theorem LA_chain_ok {l : Launch} {Δ : zv_D} {hp : zv_M} {sz : Nat} {x c e i j : Nat} {n acc : Nat → Nat} {g : Nat → Nat → Nat} {wd pr rs ls bs : Nat → Nat} (hL : la_at Δ hp x c n acc g e wd pr rs ls bs) (hc : c ≤ 12) (hx : x + 43 ≤ sz) (hi : i < 4294967296) (hj : j < 4294967296) : zv_E l Δ 6 y_LA_chain b_LA_chain 3 ((some (FieldType.int))) [.ref x, .int (nI i), .int (nI j)] hp sz 1 2 (fun r hp1 sz1 => ∃ v : Nat, r = some (.int (nI v)) ∧ sz ≤ sz1 ∧ (∀ q, q < sz ∧ (q < x ∨ x + 43 ≤ q) → hp1 q = hp q) ∧ ((¬ (i < c ∧ j < c) ∧ v = 4294967295 ∧ la_at Δ hp1 x c n acc g e wd pr rs ls bs) ∨ ((i < c ∧ j < c) ∧ la_add Δ hp hp1 x c n acc g e wd pr rs ls bs (mc_L (pm_ch (acc i) (g i) (g j) (n j)) (pm_chA (acc j)) (pm_of (acc i) 0 0)) v))) := by
  refine zv_E.intro (lv0 := [some (.ref x), some (.int (nI i)), some (.int (nI j))]) rfl (Nat.le_of_ble_eq_true rfl) rfl ?_
  intro Γ hl F
  clear hl
  have f0 := hL.1
  obtain ⟨fa, f1, hfa⟩ := hL.2.1
  have hau := hL.2.2.2.2
  refine zv_aload_n F d_LA_chain_0 rfl ?_
  refine zv_iload_n F d_LA_chain_1 rfl ?_
  refine zv_pV1 F rfl (by assumption) k_LA.1 d_LA_chain_2 (LA_isListed_ok f0 hc hi) Y_LA_isListed Yi_LA_isListed Yv_LA_isListed ln_LA_39 ⟨(Nat.le_of_ble_eq_true rfl), (Nat.le_of_ble_eq_true rfl)⟩ (Nat.le_of_ble_eq_true rfl) ⟨(Nat.le_of_ble_eq_true rfl), (Nat.le_of_ble_eq_true rfl)⟩ ?_
  first | refine zn_bif_eq (tgt := 16) F d_LA_chain_5 rfl (fun h5 => ?_) (fun h5 => ?_) | refine zn_if_eq (tgt := 16) F d_LA_chain_5 rfl (by omega) (fun h5 => ?_) (fun h5 => ?_)
  · have h5 := of_decide_eq_false h5
    refine zn_iconst (x := 4294967295) F d_LA_chain_16 (by decide) ?_
    exact zv_iret F d_LA_chain_17 (Nat.le_of_ble_eq_true rfl) (Nat.le_of_ble_eq_true rfl) ⟨4294967295, rfl, by omega, fun q _ => rfl, Or.inl ⟨by omega, rfl, hL⟩⟩
  · have h5 := of_decide_eq_true h5
    refine zv_aload_n F d_LA_chain_8 rfl ?_
    refine zv_iload_n F d_LA_chain_9 rfl ?_
    refine zv_pV1 F rfl (by assumption) k_LA.1 d_LA_chain_10 (LA_isListed_ok f0 hc hj) Y_LA_isListed Yi_LA_isListed Yv_LA_isListed ln_LA_39 ⟨(Nat.le_of_ble_eq_true rfl), (Nat.le_of_ble_eq_true rfl)⟩ (Nat.le_of_ble_eq_true rfl) ⟨(Nat.le_of_ble_eq_true rfl), (Nat.le_of_ble_eq_true rfl)⟩ ?_
    first | refine zn_bif_ne (tgt := 18) F d_LA_chain_13 rfl (fun h13 => ?_) (fun h13 => ?_) | refine zn_if_ne (tgt := 18) F d_LA_chain_13 rfl (by omega) (fun h13 => ?_) (fun h13 => ?_)
    · have h13 := of_decide_eq_true h13
      refine zv_aload_n F d_LA_chain_18 rfl ?_
      refine zv_new (fs := [.null, .null]) F d_LA_chain_19 k_Ch t_Ch t_Ch_ok nw_Ch ln_LA_48 ki_Ch kz_Ch (Nat.le_of_ble_eq_true rfl) (Nat.le_of_ble_eq_true rfl) (fun hp19 l19 e19 => ?_)
      have fN := zv_eq e19
      have hL1 := hL.moved (fun b b1 b2 => zv_ne (b := b) e19 (by omega))
      have g0 := hL1.1
      have g1 : hp19 (x + 1) = some (la_arr Δ fa) := (zv_ne e19 (by omega)).trans f1
      refine zv_dup F d_LA_chain_22 rfl ?_
      refine zv_aload_n F d_LA_chain_23 rfl ?_
      refine zv_get F d_LA_chain_24 (by assumption) k_LA 0 (Nat.le_of_ble_eq_true rfl) ln_LA_11 rfl (by rfl) ?_
      refine zv_iload_n F d_LA_chain_27 rfl ?_
      refine zv_aald (t0 := 3) F d_LA_chain_28 (by assumption) rfl (vp_in_nI (by omega) (by omega)) (by rw [nI_clamp (by omega)]; exact hfa _ (by omega)) ?_
      refine zv_aload_n F d_LA_chain_29 rfl ?_
      refine zv_get F d_LA_chain_30 (by assumption) k_LA 0 (Nat.le_of_ble_eq_true rfl) ln_LA_11 rfl (by rfl) ?_
      refine zv_iload_n F d_LA_chain_33 rfl ?_
      refine zv_aald (t0 := 3) F d_LA_chain_34 (by assumption) rfl (vp_in_nI (by omega) (by omega)) (by rw [nI_clamp (by omega)]; exact hfa _ (by omega)) ?_
      refine zv_mI2 F rfl d_LA_chain_35 (Ch_init_ok fN) Y_Ch_init Yi_Ch_init rfl ln_LA_50 ⟨(Nat.le_of_ble_eq_true rfl), (Nat.le_of_ble_eq_true rfl)⟩ (Nat.le_of_ble_eq_true rfl) ⟨(Nat.le_of_ble_eq_true rfl), (Nat.le_of_ble_eq_true rfl)⟩ (fun r hp35 sz35 q35 => ?_)
      obtain ⟨rfl, rfl, fB, fr1⟩ := q35
      have hL2 := hL1.moved (fun b b1 b2 => fr1 b (by omega))
      have g2 := hL2.1
      have hau2 := hL2.2.2.2.2
      try simp only [Option.toList, List.cons_append, List.nil_append]
      refine zv_mV1 F rfl (by assumption) k_LA.1 d_LA_chain_38 (LA_add_ok hL2 hc (mc_ch fB (hau2 i (by omega)).1 (hau2 i (by omega)).2 (hau2 j (by omega)).1 (hau2 j (by omega)).2) (fun q hq => by rcases hq with rfl | rfl | rfl | rfl | rfl <;> omega)) Y_LA_add Yi_LA_add Yv_LA_add ln_LA_35 ⟨(Nat.le_of_ble_eq_true rfl), (Nat.le_of_ble_eq_true rfl)⟩ (Nat.le_of_ble_eq_true rfl) ⟨(Nat.le_of_ble_eq_true rfl), (Nat.le_of_ble_eq_true rfl)⟩ (fun r hp38 sz38 q38 => ?_)
      obtain ⟨v, rfl, rfl, fr2, hv⟩ := q38
      try simp only [Option.toList, List.cons_append, List.nil_append]
      exact zv_iret F d_LA_chain_41 (Nat.le_of_ble_eq_true rfl) (Nat.le_of_ble_eq_true rfl) ⟨v, rfl, by omega, fun q hq => (fr2 q hq.2).trans ((fr1 q (by omega)).trans (zv_ne e19 (by omega))), Or.inr ⟨by omega, hv⟩⟩
    · have h13 := of_decide_eq_false h13
      refine zn_iconst (x := 4294967295) F d_LA_chain_16 (by decide) ?_
      exact zv_iret F d_LA_chain_17 (Nat.le_of_ble_eq_true rfl) (Nat.le_of_ble_eq_true rfl) ⟨4294967295, rfl, by omega, fun q _ => rfl, Or.inl ⟨by omega, rfl, hL⟩⟩
theorem LA_star_ok {l : Launch} {Δ : zv_D} {hp : zv_M} {sz : Nat} {x c e i : Nat} {n acc : Nat → Nat} {g : Nat → Nat → Nat} {wd pr rs ls bs : Nat → Nat} (hL : la_at Δ hp x c n acc g e wd pr rs ls bs) (hc : c ≤ 12) (hx : x + 43 ≤ sz) (hi : i < 4294967296) : zv_E l Δ 6 y_LA_star b_LA_star 2 ((some (FieldType.int))) [.ref x, .int (nI i)] hp sz 1 1 (fun r hp1 sz1 => ∃ v : Nat, r = some (.int (nI v)) ∧ sz ≤ sz1 ∧ (∀ q, q < sz ∧ (q < x ∨ x + 43 ≤ q) → hp1 q = hp q) ∧ ((¬ (i < c) ∧ v = 4294967295 ∧ la_at Δ hp1 x c n acc g e wd pr rs ls bs) ∨ ((i < c) ∧ la_add Δ hp hp1 x c n acc g e wd pr rs ls bs (mc_L (pm_st (acc i) (g i) (n i)) (pm_stA (acc i)) 64) v))) := by
  refine zv_E.intro (lv0 := [some (.ref x), some (.int (nI i))]) rfl (Nat.le_of_ble_eq_true rfl) rfl ?_
  intro Γ hl F
  clear hl
  have f0 := hL.1
  obtain ⟨fa, f1, hfa⟩ := hL.2.1
  have hau := hL.2.2.2.2
  refine zv_aload_n F d_LA_star_0 rfl ?_
  refine zv_iload_n F d_LA_star_1 rfl ?_
  refine zv_pV1 F rfl (by assumption) k_LA.1 d_LA_star_2 (LA_isListed_ok f0 hc hi) Y_LA_isListed Yi_LA_isListed Yv_LA_isListed ln_LA_39 ⟨(Nat.le_of_ble_eq_true rfl), (Nat.le_of_ble_eq_true rfl)⟩ (Nat.le_of_ble_eq_true rfl) ⟨(Nat.le_of_ble_eq_true rfl), (Nat.le_of_ble_eq_true rfl)⟩ ?_
  first | refine zn_bif_ne (tgt := 10) F d_LA_star_5 rfl (fun h5 => ?_) (fun h5 => ?_) | refine zn_if_ne (tgt := 10) F d_LA_star_5 rfl (by omega) (fun h5 => ?_) (fun h5 => ?_)
  · have h5 := of_decide_eq_true h5
    refine zv_aload_n F d_LA_star_10 rfl ?_
    refine zv_new (fs := [.null]) F d_LA_star_11 k_St t_St t_St_ok nw_St ln_LA_53 ki_St kz_St (Nat.le_of_ble_eq_true rfl) (Nat.le_of_ble_eq_true rfl) (fun hp11 l11 e11 => ?_)
    have fN := zv_eq e11
    have hL1 := hL.moved (fun b b1 b2 => zv_ne (b := b) e11 (by omega))
    have g0 := hL1.1
    have g1 : hp11 (x + 1) = some (la_arr Δ fa) := (zv_ne e11 (by omega)).trans f1
    refine zv_dup F d_LA_star_14 rfl ?_
    refine zv_aload_n F d_LA_star_15 rfl ?_
    refine zv_get F d_LA_star_16 (by assumption) k_LA 0 (Nat.le_of_ble_eq_true rfl) ln_LA_11 rfl (by rfl) ?_
    refine zv_iload_n F d_LA_star_19 rfl ?_
    refine zv_aald (t0 := 3) F d_LA_star_20 (by assumption) rfl (vp_in_nI (by omega) (by omega)) (by rw [nI_clamp (by omega)]; exact hfa _ (by omega)) ?_
    refine zv_mI1 F rfl d_LA_star_21 (St_init_ok fN) Y_St_init Yi_St_init rfl ln_LA_55 ⟨(Nat.le_of_ble_eq_true rfl), (Nat.le_of_ble_eq_true rfl)⟩ (Nat.le_of_ble_eq_true rfl) ⟨(Nat.le_of_ble_eq_true rfl), (Nat.le_of_ble_eq_true rfl)⟩ (fun r hp21 sz21 q21 => ?_)
    obtain ⟨rfl, rfl, fB, fr1⟩ := q21
    have hL2 := hL1.moved (fun b b1 b2 => fr1 b (by omega))
    have g2 := hL2.1
    have hau2 := hL2.2.2.2.2
    try simp only [Option.toList, List.cons_append, List.nil_append]
    refine zv_mV1 F rfl (by assumption) k_LA.1 d_LA_star_24 (LA_add_ok hL2 hc (mc_st fB (hau2 i (by omega)).1 (hau2 i (by omega)).2) (fun q hq => by rcases hq with rfl | rfl | rfl <;> omega)) Y_LA_add Yi_LA_add Yv_LA_add ln_LA_35 ⟨(Nat.le_of_ble_eq_true rfl), (Nat.le_of_ble_eq_true rfl)⟩ (Nat.le_of_ble_eq_true rfl) ⟨(Nat.le_of_ble_eq_true rfl), (Nat.le_of_ble_eq_true rfl)⟩ (fun r hp24 sz24 q24 => ?_)
    obtain ⟨v, rfl, rfl, fr2, hv⟩ := q24
    try simp only [Option.toList, List.cons_append, List.nil_append]
    exact zv_iret F d_LA_star_27 (Nat.le_of_ble_eq_true rfl) (Nat.le_of_ble_eq_true rfl) ⟨v, rfl, by omega, fun q hq => (fr2 q hq.2).trans ((fr1 q (by omega)).trans (zv_ne e11 (by omega))), Or.inr ⟨by omega, hv⟩⟩
  · have h5 := of_decide_eq_false h5
    refine zn_iconst (x := 4294967295) F d_LA_star_8 (by decide) ?_
    exact zv_iret F d_LA_star_9 (Nat.le_of_ble_eq_true rfl) (Nat.le_of_ble_eq_true rfl) ⟨4294967295, rfl, by omega, fun q _ => rfl, Or.inl ⟨by omega, rfl, hL⟩⟩
theorem LA_invert_ok {l : Launch} {Δ : zv_D} {hp : zv_M} {sz : Nat} {x c e i : Nat} {n acc : Nat → Nat} {g : Nat → Nat → Nat} {wd pr rs ls bs : Nat → Nat} (hL : la_at Δ hp x c n acc g e wd pr rs ls bs) (hc : c ≤ 12) (hx : x + 43 ≤ sz) (hi : i < 4294967296) : zv_E l Δ 6 y_LA_invert b_LA_invert 2 ((some (FieldType.int))) [.ref x, .int (nI i)] hp sz 1 1 (fun r hp1 sz1 => ∃ v : Nat, r = some (.int (nI v)) ∧ sz ≤ sz1 ∧ (∀ q, q < sz ∧ (q < x ∨ x + 43 ≤ q) → hp1 q = hp q) ∧ ((¬ (i < c) ∧ v = 4294967295 ∧ la_at Δ hp1 x c n acc g e wd pr rs ls bs) ∨ ((i < c) ∧ la_add Δ hp hp1 x c n acc g e wd pr rs ls bs (mc_L (pm_in (g i)) (pm_inA (acc i)) 0) v))) := by
  refine zv_E.intro (lv0 := [some (.ref x), some (.int (nI i))]) rfl (Nat.le_of_ble_eq_true rfl) rfl ?_
  intro Γ hl F
  clear hl
  have f0 := hL.1
  obtain ⟨fa, f1, hfa⟩ := hL.2.1
  have hau := hL.2.2.2.2
  refine zv_aload_n F d_LA_invert_0 rfl ?_
  refine zv_iload_n F d_LA_invert_1 rfl ?_
  refine zv_pV1 F rfl (by assumption) k_LA.1 d_LA_invert_2 (LA_isListed_ok f0 hc hi) Y_LA_isListed Yi_LA_isListed Yv_LA_isListed ln_LA_39 ⟨(Nat.le_of_ble_eq_true rfl), (Nat.le_of_ble_eq_true rfl)⟩ (Nat.le_of_ble_eq_true rfl) ⟨(Nat.le_of_ble_eq_true rfl), (Nat.le_of_ble_eq_true rfl)⟩ ?_
  first | refine zn_bif_ne (tgt := 10) F d_LA_invert_5 rfl (fun h5 => ?_) (fun h5 => ?_) | refine zn_if_ne (tgt := 10) F d_LA_invert_5 rfl (by omega) (fun h5 => ?_) (fun h5 => ?_)
  · have h5 := of_decide_eq_true h5
    refine zv_aload_n F d_LA_invert_10 rfl ?_
    refine zv_new (fs := [.null]) F d_LA_invert_11 k_In t_In t_In_ok nw_In ln_LA_58 ki_In kz_In (Nat.le_of_ble_eq_true rfl) (Nat.le_of_ble_eq_true rfl) (fun hp11 l11 e11 => ?_)
    have fN := zv_eq e11
    have hL1 := hL.moved (fun b b1 b2 => zv_ne (b := b) e11 (by omega))
    have g0 := hL1.1
    have g1 : hp11 (x + 1) = some (la_arr Δ fa) := (zv_ne e11 (by omega)).trans f1
    refine zv_dup F d_LA_invert_14 rfl ?_
    refine zv_aload_n F d_LA_invert_15 rfl ?_
    refine zv_get F d_LA_invert_16 (by assumption) k_LA 0 (Nat.le_of_ble_eq_true rfl) ln_LA_11 rfl (by rfl) ?_
    refine zv_iload_n F d_LA_invert_19 rfl ?_
    refine zv_aald (t0 := 3) F d_LA_invert_20 (by assumption) rfl (vp_in_nI (by omega) (by omega)) (by rw [nI_clamp (by omega)]; exact hfa _ (by omega)) ?_
    refine zv_mI1 F rfl d_LA_invert_21 (In_init_ok fN) Y_In_init Yi_In_init rfl ln_LA_60 ⟨(Nat.le_of_ble_eq_true rfl), (Nat.le_of_ble_eq_true rfl)⟩ (Nat.le_of_ble_eq_true rfl) ⟨(Nat.le_of_ble_eq_true rfl), (Nat.le_of_ble_eq_true rfl)⟩ (fun r hp21 sz21 q21 => ?_)
    obtain ⟨rfl, rfl, fB, fr1⟩ := q21
    have hL2 := hL1.moved (fun b b1 b2 => fr1 b (by omega))
    have g2 := hL2.1
    have hau2 := hL2.2.2.2.2
    try simp only [Option.toList, List.cons_append, List.nil_append]
    refine zv_mV1 F rfl (by assumption) k_LA.1 d_LA_invert_24 (LA_add_ok hL2 hc (mc_in fB (hau2 i (by omega)).1 (hau2 i (by omega)).2) (fun q hq => by rcases hq with rfl | rfl | rfl <;> omega)) Y_LA_add Yi_LA_add Yv_LA_add ln_LA_35 ⟨(Nat.le_of_ble_eq_true rfl), (Nat.le_of_ble_eq_true rfl)⟩ (Nat.le_of_ble_eq_true rfl) ⟨(Nat.le_of_ble_eq_true rfl), (Nat.le_of_ble_eq_true rfl)⟩ (fun r hp24 sz24 q24 => ?_)
    obtain ⟨v, rfl, rfl, fr2, hv⟩ := q24
    try simp only [Option.toList, List.cons_append, List.nil_append]
    exact zv_iret F d_LA_invert_27 (Nat.le_of_ble_eq_true rfl) (Nat.le_of_ble_eq_true rfl) ⟨v, rfl, by omega, fun q hq => (fr2 q hq.2).trans ((fr1 q (by omega)).trans (zv_ne e11 (by omega))), Or.inr ⟨by omega, hv⟩⟩
  · have h5 := of_decide_eq_false h5
    refine zn_iconst (x := 4294967295) F d_LA_invert_8 (by decide) ?_
    exact zv_iret F d_LA_invert_9 (Nat.le_of_ble_eq_true rfl) (Nat.le_of_ble_eq_true rfl) ⟨4294967295, rfl, by omega, fun q _ => rfl, Or.inl ⟨by omega, rfl, hL⟩⟩

