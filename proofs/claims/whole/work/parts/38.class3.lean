theorem LA_forget_ok {l : Launch} {Δ : zv_D} {hp : zv_M} {sz : Nat} {x c e : Nat} {n acc : Nat → Nat} {g : Nat → Nat → Nat} {wd pr rs ls bs : Nat → Nat} (hL : la_at Δ hp x c n acc g e wd pr rs ls bs) (hc : c ≤ 12) : zv_E l Δ 0 y_LA_forget b_LA_forget 1 ((some (FieldType.boolean))) [.ref x] hp sz 0 0 (fun r hp1 sz1 => ∃ bb : Bool, r = some (.int (nI bb.toNat)) ∧ sz1 = sz ∧ (∀ q, q < x ∨ x + 43 ≤ q → hp1 q = hp q) ∧ bb = decide (0 < c) ∧ la_at Δ hp1 x (c - 1) n acc g e wd pr rs ls bs) := by
  refine zv_E.intro (lv0 := [some (.ref x)]) rfl (Nat.le_of_ble_eq_true rfl) rfl ?_
  intro Γ hl F
  clear hl
  obtain ⟨f0, f1, f2, f3, f4⟩ := hL
  have fr : ∀ q, q ≠ x → hp q = hp q := fun q _ => rfl
  refine zv_aload_n F d_LA_forget_0 rfl ?_
  refine zv_get F d_LA_forget_1 (by assumption) k_LA 1 (Nat.le_of_ble_eq_true rfl) ln_LA_61 rfl (by rfl) ?_
  first | refine zn_bif_ne (tgt := 9) F d_LA_forget_4 rfl (fun h4 => ?_) (fun h4 => ?_) | refine zn_if_ne (tgt := 9) F d_LA_forget_4 rfl (by omega) (fun h4 => ?_) (fun h4 => ?_)
  · refine zv_aload_n F d_LA_forget_9 rfl ?_
    refine zv_dup F d_LA_forget_10 rfl ?_
    refine zv_get F d_LA_forget_11 (by assumption) k_LA 1 (Nat.le_of_ble_eq_true rfl) ln_LA_61 rfl (by rfl) ?_
    refine zn_iconst (x := 1) F d_LA_forget_14 (by decide) ?_
    refine zn_isub F d_LA_forget_15 (by omega) ?_
    refine zv_put F d_LA_forget_16 (by assumption) k_LA 1 (Nat.le_of_ble_eq_true rfl) ln_LA_61 rfl rfl rfl (by rfl) (by rfl) (Nat.le_of_ble_eq_true rfl) (fun hp16 e16 => ?_)
    replace f0 := zv_eq e16
    replace fr := fun b hb => (zv_ne (b := b) e16 (by omega)).trans (fr b hb)
    refine zn_iconst (x := 1) F d_LA_forget_19 (by decide) ?_
    exact zv_zret F d_LA_forget_20 (Nat.le_of_ble_eq_true rfl) (Nat.le_of_ble_eq_true rfl) (by first | rfl | exact zn_nb _) ⟨true, rfl, rfl, fun q hq => fr q (by omega), (decide_eq_true (by omega)).symm, f0, (by obtain ⟨f, h1, h2⟩ := f1; exact ⟨f, (fr _ (by omega)).trans h1, h2⟩), f2.moved (fun q q1 q2 => fr q (by omega)), f3.moved (fun q q1 q2 => fr q (by omega)), fun i hi => ⟨(f4 i hi).1.moved (fr _ (by omega)) (fr _ (by omega)), (f4 i hi).2⟩⟩
  · refine zn_iconst (x := 0) F d_LA_forget_7 (by decide) ?_
    exact zv_zret F d_LA_forget_8 (Nat.le_of_ble_eq_true rfl) (Nat.le_of_ble_eq_true rfl) (by first | rfl | exact zn_nb _) ⟨false, rfl, rfl, fun q _ => rfl, (decide_eq_false (by omega)).symm, by rw [show c - 1 = c by omega]; exact ⟨f0, f1, f2, f3, f4⟩⟩
theorem LA_count_ok {l : Launch} {Δ : zv_D} {hp : zv_M} {sz : Nat} {x c : Nat} (f0 : hp x = some (la_obj x c)) : zv_P l Δ 0 y_LA_count b_LA_count 1 ((some (FieldType.int))) [.ref x] hp sz (.int (nI c)) := by
  refine zv_E.intro (lv0 := [some (.ref x)]) rfl (Nat.le_of_ble_eq_true rfl) rfl ?_
  intro Γ hl F
  clear hl
  refine zv_aload_n F d_LA_count_0 rfl ?_
  refine zv_get F d_LA_count_1 (by assumption) k_LA 1 (Nat.le_of_ble_eq_true rfl) ln_LA_61 rfl (by rfl) ?_
  exact zv_iret F d_LA_count_4 (Nat.le_of_ble_eq_true rfl) (Nat.le_of_ble_eq_true rfl) ⟨rfl, rfl, rfl⟩
theorem LA_states_ok {l : Launch} {Δ : zv_D} {hp : zv_M} {sz : Nat} {x c i e : Nat} {n acc : Nat → Nat} {g : Nat → Nat → Nat} {wd pr rs ls bs : Nat → Nat} (hL : la_at Δ hp x c n acc g e wd pr rs ls bs) (hc : c ≤ 12) (hi : i < 4294967296) : zv_P l Δ 1 y_LA_states b_LA_states 2 ((some (FieldType.int))) [.ref x, .int (nI i)] hp sz (.int (nI (if i < c then n i else 4294967295))) := by
  refine zv_E.intro (lv0 := [some (.ref x), some (.int (nI i))]) rfl (Nat.le_of_ble_eq_true rfl) rfl ?_
  intro Γ hl F
  clear hl
  obtain ⟨f0, ⟨fa, f1, hfa⟩, f2, f3, hau⟩ := hL
  refine zv_aload_n F d_LA_states_0 rfl ?_
  refine zv_iload_n F d_LA_states_1 rfl ?_
  refine zv_pV1 F rfl (by assumption) k_LA.1 d_LA_states_2 (LA_isListed_ok f0 hc hi) Y_LA_isListed Yi_LA_isListed Yv_LA_isListed ln_LA_39 ⟨(Nat.le_of_ble_eq_true rfl), (Nat.le_of_ble_eq_true rfl)⟩ (Nat.le_of_ble_eq_true rfl) ⟨(Nat.le_of_ble_eq_true rfl), (Nat.le_of_ble_eq_true rfl)⟩ ?_
  first | refine zn_bif_eq (tgt := 20) F d_LA_states_5 rfl (fun h5 => ?_) (fun h5 => ?_) | refine zn_if_eq (tgt := 20) F d_LA_states_5 rfl (by omega) (fun h5 => ?_) (fun h5 => ?_)
  · have h5 := of_decide_eq_false h5
    refine zn_iconst (x := 4294967295) F d_LA_states_20 (by decide) ?_
    exact zv_iret F d_LA_states_21 (Nat.le_of_ble_eq_true rfl) (Nat.le_of_ble_eq_true rfl) ⟨zn_rt (by first | rw [if_pos h5] | rw [if_neg h5]), rfl, rfl⟩
  · have h5 := of_decide_eq_true h5
    have f4 := (hau i (by omega)).1.1
    refine zv_aload_n F d_LA_states_8 rfl ?_
    refine zv_get F d_LA_states_9 (by assumption) k_LA 0 (Nat.le_of_ble_eq_true rfl) ln_LA_11 rfl (by rfl) ?_
    refine zv_iload_n F d_LA_states_12 rfl ?_
    refine zv_aald (t0 := 3) F d_LA_states_13 (by assumption) rfl (vp_in_nI (by omega) (by omega)) (by rw [nI_clamp (by omega)]; exact hfa _ (by omega)) ?_
    refine zv_getN F d_LA_states_14 (by assumption) k_Au 0 (Nat.le_of_ble_eq_true rfl) ln_LA_65 rfl (by rfl) ?_
    refine zv_goto (tgt := 21) F d_LA_states_17 rfl ?_
    exact zv_iret F d_LA_states_21 (Nat.le_of_ble_eq_true rfl) (Nat.le_of_ble_eq_true rfl) ⟨zn_rt (by first | rw [if_pos h5] | rw [if_neg h5]), rfl, rfl⟩
theorem LA_next_ok {l : Launch} {Δ : zv_D} {hp : zv_M} {sz : Nat} {x c i q b e : Nat} {n acc : Nat → Nat} {g : Nat → Nat → Nat} {wd pr rs ls bs : Nat → Nat} (hL : la_at Δ hp x c n acc g e wd pr rs ls bs) (hc : c ≤ 12) (hi : i < 4294967296) (hq : q < 4294967296) (hb : b < 4294967296) : zv_P l Δ 1 y_LA_next b_LA_next 4 ((some (FieldType.int))) [.ref x, .int (nI i), .int (nI q), .int (nI b)] hp sz (.int (nI (if i < c ∧ q < n i ∧ b < 2 then g i (2 * q + b) else 4294967295))) := by
  refine zv_E.intro (lv0 := [some (.ref x), some (.int (nI i)), some (.int (nI q)), some (.int (nI b))]) rfl (Nat.le_of_ble_eq_true rfl) rfl ?_
  intro Γ hl F
  clear hl
  obtain ⟨f0, ⟨fa, f1, hfa⟩, f2, f3, hau⟩ := hL
  refine zv_aload_n F d_LA_next_0 rfl ?_
  refine zv_iload_n F d_LA_next_1 rfl ?_
  refine zv_pV1 F rfl (by assumption) k_LA.1 d_LA_next_2 (LA_isListed_ok f0 hc hi) Y_LA_isListed Yi_LA_isListed Yv_LA_isListed ln_LA_39 ⟨(Nat.le_of_ble_eq_true rfl), (Nat.le_of_ble_eq_true rfl)⟩ (Nat.le_of_ble_eq_true rfl) ⟨(Nat.le_of_ble_eq_true rfl), (Nat.le_of_ble_eq_true rfl)⟩ ?_
  first | refine zn_bif_eq (tgt := 30) F d_LA_next_5 rfl (fun h5 => ?_) (fun h5 => ?_) | refine zn_if_eq (tgt := 30) F d_LA_next_5 rfl (by omega) (fun h5 => ?_) (fun h5 => ?_)
  · have h5 := of_decide_eq_false h5
    refine zn_iconst (x := 4294967295) F d_LA_next_30 (by decide) ?_
    exact zv_iret F d_LA_next_31 (Nat.le_of_ble_eq_true rfl) (Nat.le_of_ble_eq_true rfl) ⟨zn_rt (by rw [if_neg (by omega)]), rfl, rfl⟩
  · have h5 := of_decide_eq_true h5
    have f4 := (hau i (by omega)).1.1
    have ho := (hau i (by omega)).2.1
    refine zv_aload_n F d_LA_next_8 rfl ?_
    refine zv_get F d_LA_next_9 (by assumption) k_LA 0 (Nat.le_of_ble_eq_true rfl) ln_LA_11 rfl (by rfl) ?_
    refine zv_iload_n F d_LA_next_12 rfl ?_
    refine zv_aald (t0 := 3) F d_LA_next_13 (by assumption) rfl (vp_in_nI (by omega) (by omega)) (by rw [nI_clamp (by omega)]; exact hfa _ (by omega)) ?_
    refine zv_iload_n F d_LA_next_14 rfl ?_
    refine zv_pV1 F rfl (by assumption) k_Au.1 d_LA_next_15 (Au_hasState_ok (hau i (by omega)).1 ho hq) Y_Au_hasState Yi_Au_hasState Yv_Au_hasState ln_LA_68 ⟨(Nat.le_of_ble_eq_true rfl), (Nat.le_of_ble_eq_true rfl)⟩ (Nat.le_of_ble_eq_true rfl) ⟨(Nat.le_of_ble_eq_true rfl), (Nat.le_of_ble_eq_true rfl)⟩ ?_
    first | refine zn_bif_eq (tgt := 30) F d_LA_next_18 rfl (fun h18 => ?_) (fun h18 => ?_) | refine zn_if_eq (tgt := 30) F d_LA_next_18 rfl (by omega) (fun h18 => ?_) (fun h18 => ?_)
    · have h18 := of_decide_eq_false h18
      refine zn_iconst (x := 4294967295) F d_LA_next_30 (by decide) ?_
      exact zv_iret F d_LA_next_31 (Nat.le_of_ble_eq_true rfl) (Nat.le_of_ble_eq_true rfl) ⟨zn_rt (by rw [if_neg (by omega)]), rfl, rfl⟩
    · have h18 := of_decide_eq_true h18
      refine zv_iload_n F d_LA_next_21 rfl ?_
      refine zn_if_lt (tgt := 30) F d_LA_next_22 rfl (by omega) (fun h22 => ?_) (fun h22 => ?_)
      · refine zn_iconst (x := 4294967295) F d_LA_next_30 (by decide) ?_
        exact zv_iret F d_LA_next_31 (Nat.le_of_ble_eq_true rfl) (Nat.le_of_ble_eq_true rfl) ⟨zn_rt (by rw [if_neg (by omega)]), rfl, rfl⟩
      · refine zv_iload_n F d_LA_next_25 rfl ?_
        refine zn_iconst (x := 2) F d_LA_next_26 (by decide) ?_
        refine zn_icmp_lt (tgt := 32) F d_LA_next_27 rfl (by omega) (by omega) (fun h27 => ?_) (fun h27 => ?_)
        · refine zv_aload_n F d_LA_next_32 rfl ?_
          refine zv_get F d_LA_next_33 (by assumption) k_LA 0 (Nat.le_of_ble_eq_true rfl) ln_LA_11 rfl (by rfl) ?_
          refine zv_iload_n F d_LA_next_36 rfl ?_
          refine zv_aald (t0 := 3) F d_LA_next_37 (by assumption) rfl (vp_in_nI (by omega) (by omega)) (by rw [nI_clamp (by omega)]; exact hfa _ (by omega)) ?_
          refine zv_iload_n F d_LA_next_38 rfl ?_
          refine zv_iload_n F d_LA_next_39 rfl ?_
          refine zv_pV2 F rfl (by assumption) k_Au.1 d_LA_next_40 (Au_step_ok (hau i (by omega)).1 (by omega)) Y_Au_step Yi_Au_step Yv_Au_step ln_LA_71 ⟨(Nat.le_of_ble_eq_true rfl), (Nat.le_of_ble_eq_true rfl)⟩ (Nat.le_of_ble_eq_true rfl) ⟨(Nat.le_of_ble_eq_true rfl), (Nat.le_of_ble_eq_true rfl)⟩ ?_
          exact zv_iret F d_LA_next_43 (Nat.le_of_ble_eq_true rfl) (Nat.le_of_ble_eq_true rfl) ⟨zn_rt (by rw [if_pos (by omega)]), rfl, rfl⟩
        · refine zn_iconst (x := 4294967295) F d_LA_next_30 (by decide) ?_
          exact zv_iret F d_LA_next_31 (Nat.le_of_ble_eq_true rfl) (Nat.le_of_ble_eq_true rfl) ⟨zn_rt (by rw [if_neg (by omega)]), rfl, rfl⟩
theorem LA_accepts_ok {l : Launch} {Δ : zv_D} {hp : zv_M} {sz : Nat} {x c i q e : Nat} {n acc : Nat → Nat} {g : Nat → Nat → Nat} {wd pr rs ls bs : Nat → Nat} (hL : la_at Δ hp x c n acc g e wd pr rs ls bs) (hc : c ≤ 12) (hi : i < 4294967296) (hq : q < 4294967296) : zv_P l Δ 1 y_LA_accepts b_LA_accepts 3 ((some (FieldType.boolean))) [.ref x, .int (nI i), .int (nI q)] hp sz (.int (nI (decide (i < c ∧ q < n i ∧ acc i / 2 ^ q % 2 = 1)).toNat)) := by
  refine zv_E.intro (lv0 := [some (.ref x), some (.int (nI i)), some (.int (nI q))]) rfl (Nat.le_of_ble_eq_true rfl) rfl ?_
  intro Γ hl F
  clear hl
  obtain ⟨f0, ⟨fa, f1, hfa⟩, f2, f3, hau⟩ := hL
  refine zv_aload_n F d_LA_accepts_0 rfl ?_
  refine zv_iload_n F d_LA_accepts_1 rfl ?_
  refine zv_pV1 F rfl (by assumption) k_LA.1 d_LA_accepts_2 (LA_isListed_ok f0 hc hi) Y_LA_isListed Yi_LA_isListed Yv_LA_isListed ln_LA_39 ⟨(Nat.le_of_ble_eq_true rfl), (Nat.le_of_ble_eq_true rfl)⟩ (Nat.le_of_ble_eq_true rfl) ⟨(Nat.le_of_ble_eq_true rfl), (Nat.le_of_ble_eq_true rfl)⟩ ?_
  first | refine zn_bif_eq (tgt := 38) F d_LA_accepts_5 rfl (fun h5 => ?_) (fun h5 => ?_) | refine zn_if_eq (tgt := 38) F d_LA_accepts_5 rfl (by omega) (fun h5 => ?_) (fun h5 => ?_)
  · have h5 := of_decide_eq_false h5
    refine zn_iconst (x := 0) F d_LA_accepts_38 (by decide) ?_
    exact zv_zret F d_LA_accepts_39 (Nat.le_of_ble_eq_true rfl) (Nat.le_of_ble_eq_true rfl) (by first | rfl | exact zn_nb _) (by first | exact ⟨zn_bt (decide_eq_true (by omega)), rfl, rfl⟩ | exact ⟨zn_bf (decide_eq_false (by omega)), rfl, rfl⟩)
  · have h5 := of_decide_eq_true h5
    have f4 := (hau i (by omega)).1.1
    have ho := (hau i (by omega)).2
    have hn := ho.1
    refine zv_aload_n F d_LA_accepts_8 rfl ?_
    refine zv_get F d_LA_accepts_9 (by assumption) k_LA 0 (Nat.le_of_ble_eq_true rfl) ln_LA_11 rfl (by rfl) ?_
    refine zv_iload_n F d_LA_accepts_12 rfl ?_
    refine zv_aald (t0 := 3) F d_LA_accepts_13 (by assumption) rfl (vp_in_nI (by omega) (by omega)) (by rw [nI_clamp (by omega)]; exact hfa _ (by omega)) ?_
    refine zv_iload_n F d_LA_accepts_14 rfl ?_
    refine zv_pV1 F rfl (by assumption) k_Au.1 d_LA_accepts_15 (Au_hasState_ok (hau i (by omega)).1 hn hq) Y_Au_hasState Yi_Au_hasState Yv_Au_hasState ln_LA_68 ⟨(Nat.le_of_ble_eq_true rfl), (Nat.le_of_ble_eq_true rfl)⟩ (Nat.le_of_ble_eq_true rfl) ⟨(Nat.le_of_ble_eq_true rfl), (Nat.le_of_ble_eq_true rfl)⟩ ?_
    first | refine zn_bif_eq (tgt := 38) F d_LA_accepts_18 rfl (fun h18 => ?_) (fun h18 => ?_) | refine zn_if_eq (tgt := 38) F d_LA_accepts_18 rfl (by omega) (fun h18 => ?_) (fun h18 => ?_)
    · have h18 := of_decide_eq_false h18
      refine zn_iconst (x := 0) F d_LA_accepts_38 (by decide) ?_
      exact zv_zret F d_LA_accepts_39 (Nat.le_of_ble_eq_true rfl) (Nat.le_of_ble_eq_true rfl) (by first | rfl | exact zn_nb _) (by first | exact ⟨zn_bt (decide_eq_true (by omega)), rfl, rfl⟩ | exact ⟨zn_bf (decide_eq_false (by omega)), rfl, rfl⟩)
    · have h18 := of_decide_eq_true h18
      refine zv_aload_n F d_LA_accepts_21 rfl ?_
      refine zv_get F d_LA_accepts_22 (by assumption) k_LA 0 (Nat.le_of_ble_eq_true rfl) ln_LA_11 rfl (by rfl) ?_
      refine zv_iload_n F d_LA_accepts_25 rfl ?_
      refine zv_aald (t0 := 3) F d_LA_accepts_26 (by assumption) rfl (vp_in_nI (by omega) (by omega)) (by rw [nI_clamp (by omega)]; exact hfa _ (by omega)) ?_
      refine zv_iload_n F d_LA_accepts_27 rfl ?_
      refine zv_pV1 F rfl (by assumption) k_Au.1 d_LA_accepts_28 (Au_isAccepting_ok (hau i (by omega)).1 ho.2.1 (by omega)) Y_Au_isAccepting Yi_Au_isAccepting Yv_Au_isAccepting ln_LA_75 ⟨(Nat.le_of_ble_eq_true rfl), (Nat.le_of_ble_eq_true rfl)⟩ (Nat.le_of_ble_eq_true rfl) ⟨(Nat.le_of_ble_eq_true rfl), (Nat.le_of_ble_eq_true rfl)⟩ ?_
      first | refine zn_bif_eq (tgt := 38) F d_LA_accepts_31 rfl (fun h31 => ?_) (fun h31 => ?_) | refine zn_if_eq (tgt := 38) F d_LA_accepts_31 rfl (by omega) (fun h31 => ?_) (fun h31 => ?_)
      · have h31 := of_decide_eq_false h31
        refine zn_iconst (x := 0) F d_LA_accepts_38 (by decide) ?_
        exact zv_zret F d_LA_accepts_39 (Nat.le_of_ble_eq_true rfl) (Nat.le_of_ble_eq_true rfl) (by first | rfl | exact zn_nb _) (by first | exact ⟨zn_bt (decide_eq_true (by omega)), rfl, rfl⟩ | exact ⟨zn_bf (decide_eq_false (by omega)), rfl, rfl⟩)
      · have h31 := of_decide_eq_true h31
        refine zn_iconst (x := 1) F d_LA_accepts_34 (by decide) ?_
        refine zv_goto (tgt := 39) F d_LA_accepts_35 rfl ?_
        exact zv_zret F d_LA_accepts_39 (Nat.le_of_ble_eq_true rfl) (Nat.le_of_ble_eq_true rfl) (by first | rfl | exact zn_nb _) (by first | exact ⟨zn_bt (decide_eq_true (by omega)), rfl, rfl⟩ | exact ⟨zn_bf (decide_eq_false (by omega)), rfl, rfl⟩)
/-- where the low n letters of a number lead -/
def la_go (g : Nat → Nat) (w : Nat) : Nat → Nat
  | 0 => 0
  | k + 1 => g (2 * la_go g w k + w / 2 ^ k % 2)
theorem LA_contains_ok {l : Launch} {Δ : zv_D} {hp : zv_M} {sz : Nat} {x c i w m e : Nat} {n acc : Nat → Nat} {g : Nat → Nat → Nat} {wd pr rs ls bs : Nat → Nat} (hL : la_at Δ hp x c n acc g e wd pr rs ls bs) (hc : c ≤ 12) (hi : i < 4294967296) (hw : w < 18446744073709551616) (hm : m < 4294967296) : zv_P l Δ 1 y_LA_contains b_LA_contains 8 ((some (FieldType.boolean))) [.ref x, .int (nI i), .long (lN w), .int (nI m)] hp sz (.int (nI (decide (i < c ∧ m ≤ 64 ∧ acc i / 2 ^ la_go (g i) w m % 2 = 1)).toNat)) := by
  refine zv_E.intro (lv0 := [some (.ref x), some (.int (nI i)), some (.long (lN w)), none, some (.int (nI m)), none, none, none]) rfl (Nat.le_of_ble_eq_true rfl) rfl ?_
  intro Γ hl F
  clear hl
  obtain ⟨f0, ⟨fa, f1, hfa⟩, f2, f3, hau⟩ := hL
  have loop : ∀ (z k : Nat), z = m - k → k ≤ m → i < c → m ≤ 64 → la_go (g i) w k < 6 → zv_V Δ Γ (zv_QQ Δ Γ 0 0 (fun r hp1 sz1 => r = some (.int (nI (decide (i < c ∧ m ≤ 64 ∧ acc i / 2 ^ la_go (g i) w m % 2 = 1)).toNat)) ∧ hp1 = hp ∧ sz1 = sz)) 36 [some (.ref x), some (.int (nI i)), some (.long (lN w)), none, some (.int (nI m)), some (.ref (x + 19 + 2 * i)), some (.int (nI (la_go (g i) w k))), some (.int (nI k))] [] hp sz 0 0 := by
    intro z
    induction z using Nat.strongRecOn with
    | ind z ih =>
      intro k hz hk hic hm64 h6
      have hA := (hau i (by omega)).1
      have ho := (hau i (by omega)).2
      have f4 := hA.1
      refine zv_iload F d_LA_contains_36 rfl ?_
      refine zv_iload F d_LA_contains_38 rfl ?_
      refine zn_icmp_ge (tgt := 65) F d_LA_contains_40 rfl (by omega) (by omega) (fun h40 => ?_) (fun h40 => ?_)
      · refine zv_aload F d_LA_contains_65 rfl ?_
        refine zv_iload F d_LA_contains_67 rfl ?_
        refine zv_pV1 F rfl (by assumption) k_Au.1 d_LA_contains_69 (Au_isAccepting_ok hA ho.2.1 (by omega)) Y_Au_isAccepting Yi_Au_isAccepting Yv_Au_isAccepting ln_LA_75 ⟨(Nat.le_of_ble_eq_true rfl), (Nat.le_of_ble_eq_true rfl)⟩ (Nat.le_of_ble_eq_true rfl) ⟨(Nat.le_of_ble_eq_true rfl), (Nat.le_of_ble_eq_true rfl)⟩ ?_
        exact zv_zret F d_LA_contains_72 (Nat.le_of_ble_eq_true rfl) (Nat.le_of_ble_eq_true rfl) (by first | rfl | exact zn_nb _) ⟨by rw [show k = m by omega]; congr 4; exact decide_eq_decide.mpr ⟨fun h => ⟨hic, hm64, h⟩, fun h => h.2.2⟩, rfl, rfl⟩
      · refine zv_aload F d_LA_contains_43 rfl ?_
        refine zv_iload F d_LA_contains_45 rfl ?_
        refine zv_lload_n F d_LA_contains_47 rfl ?_
        refine zv_iload F d_LA_contains_48 rfl ?_
        refine zn_lushr F d_LA_contains_50 (by omega) (by omega) ?_
        refine zn_l2i F d_LA_contains_51 ?_
        refine zn_iconst (x := 1) F d_LA_contains_52 (by decide) ?_
        rw [show (1 : Nat) = 1 from rfl]
        refine zn_iand F d_LA_contains_53 ?_
        rw [Nat.and_one_is_mod]
        have h7 := ho.2.2 (2 * la_go (g i) w k + w / 2 ^ k % 2) (by omega)
        refine zv_pV2 F rfl (by assumption) k_Au.1 d_LA_contains_54 (Au_step_ok hA (by omega)) Y_Au_step Yi_Au_step Yv_Au_step ln_LA_71 ⟨(Nat.le_of_ble_eq_true rfl), (Nat.le_of_ble_eq_true rfl)⟩ (Nat.le_of_ble_eq_true rfl) ⟨(Nat.le_of_ble_eq_true rfl), (Nat.le_of_ble_eq_true rfl)⟩ ?_
        refine zv_istore F d_LA_contains_57 (Nat.le_of_ble_eq_true rfl) ?_
        simp only [zv_s1, zv_s2, zv_kill, List.set_cons_zero, List.set_cons_succ, List.getElem?_cons_zero, List.getElem?_cons_succ]
        refine zn_iinc F d_LA_contains_59 rfl ?_
        simp only [zv_s1, zv_s2, zv_kill, List.set_cons_zero, List.set_cons_succ, List.getElem?_cons_zero, List.getElem?_cons_succ]
        refine zv_goto (tgt := 36) F d_LA_contains_62 rfl ?_
        exact zv_weak (by repeat' (first | exact True.intro | refine And.intro rfl ?_)) (ih (m - (k + 1)) (by omega) (k + 1) rfl (by omega) hic hm64 h7)
  refine zv_aload_n F d_LA_contains_0 rfl ?_
  refine zv_iload_n F d_LA_contains_1 rfl ?_
  refine zv_pV1 F rfl (by assumption) k_LA.1 d_LA_contains_2 (LA_isListed_ok f0 hc hi) Y_LA_isListed Yi_LA_isListed Yv_LA_isListed ln_LA_39 ⟨(Nat.le_of_ble_eq_true rfl), (Nat.le_of_ble_eq_true rfl)⟩ (Nat.le_of_ble_eq_true rfl) ⟨(Nat.le_of_ble_eq_true rfl), (Nat.le_of_ble_eq_true rfl)⟩ ?_
  first | refine zn_bif_eq (tgt := 20) F d_LA_contains_5 rfl (fun h5 => ?_) (fun h5 => ?_) | refine zn_if_eq (tgt := 20) F d_LA_contains_5 rfl (by omega) (fun h5 => ?_) (fun h5 => ?_)
  · have h5 := of_decide_eq_false h5
    refine zn_iconst (x := 0) F d_LA_contains_20 (by decide) ?_
    exact zv_zret F d_LA_contains_21 (Nat.le_of_ble_eq_true rfl) (Nat.le_of_ble_eq_true rfl) (by first | rfl | exact zn_nb _) ⟨zn_bf (decide_eq_false (by omega)), rfl, rfl⟩
  · have h5 := of_decide_eq_true h5
    refine zv_iload F d_LA_contains_8 rfl ?_
    refine zn_if_lt (tgt := 20) F d_LA_contains_10 rfl (by omega) (fun h10 => ?_) (fun h10 => ?_)
    · refine zn_iconst (x := 0) F d_LA_contains_20 (by decide) ?_
      exact zv_zret F d_LA_contains_21 (Nat.le_of_ble_eq_true rfl) (Nat.le_of_ble_eq_true rfl) (by first | rfl | exact zn_nb _) ⟨zn_bf (decide_eq_false (by omega)), rfl, rfl⟩
    · refine zv_iload F d_LA_contains_13 rfl ?_
      refine zn_bipush (x := 64) F d_LA_contains_15 (by decide) ?_
      refine zn_icmp_le (tgt := 22) F d_LA_contains_17 rfl (by omega) (by omega) (fun h17 => ?_) (fun h17 => ?_)
      · refine zv_aload_n F d_LA_contains_22 rfl ?_
        refine zv_get F d_LA_contains_23 (by assumption) k_LA 0 (Nat.le_of_ble_eq_true rfl) ln_LA_11 rfl (by rfl) ?_
        refine zv_iload_n F d_LA_contains_26 rfl ?_
        refine zv_aald (t0 := 3) F d_LA_contains_27 (by assumption) rfl (vp_in_nI (by omega) (by omega)) (by rw [nI_clamp (by omega)]; exact hfa _ (by omega)) ?_
        refine zv_astore F d_LA_contains_28 (Nat.le_of_ble_eq_true rfl) ?_
        simp only [zv_s1, zv_s2, zv_kill, List.set_cons_zero, List.set_cons_succ, List.getElem?_cons_zero, List.getElem?_cons_succ]
        refine zn_iconst (x := 0) F d_LA_contains_30 (by decide) ?_
        refine zv_istore F d_LA_contains_31 (Nat.le_of_ble_eq_true rfl) ?_
        simp only [zv_s1, zv_s2, zv_kill, List.set_cons_zero, List.set_cons_succ, List.getElem?_cons_zero, List.getElem?_cons_succ]
        refine zn_iconst (x := 0) F d_LA_contains_33 (by decide) ?_
        refine zv_istore F d_LA_contains_34 (Nat.le_of_ble_eq_true rfl) ?_
        simp only [zv_s1, zv_s2, zv_kill, List.set_cons_zero, List.set_cons_succ, List.getElem?_cons_zero, List.getElem?_cons_succ]
        exact zv_weak (by repeat' (first | exact True.intro | refine And.intro rfl ?_)) (loop _ 0 rfl (Nat.zero_le _) h5 (by omega) (by show 0 < 6; decide))
      · refine zn_iconst (x := 0) F d_LA_contains_20 (by decide) ?_
        exact zv_zret F d_LA_contains_21 (Nat.le_of_ble_eq_true rfl) (Nat.le_of_ble_eq_true rfl) (by first | rfl | exact zn_nb _) ⟨zn_bf (decide_eq_false (by omega)), rfl, rfl⟩
theorem LA_same_ok {l : Launch} {Δ : zv_D} {hp : zv_M} {sz : Nat} {x c i j e : Nat} {n acc : Nat → Nat} {g : Nat → Nat → Nat} {wd pr rs ls bs : Nat → Nat} (hL : la_at Δ hp x c n acc g e wd pr rs ls bs) (hc : c ≤ 12) (hi : i < 4294967296) (hj : j < 4294967296) (r0 : Bool) (hr : r0 = true ↔ i < c ∧ j < c ∧ n i = n j ∧ acc i = acc j ∧ ∀ s, s < 2 * n i → g i s = g j s) : zv_P l Δ 1 y_LA_same b_LA_same 3 ((some (FieldType.boolean))) [.ref x, .int (nI i), .int (nI j)] hp sz (.int (nI r0.toNat)) := by
  refine zv_E.intro (lv0 := [some (.ref x), some (.int (nI i)), some (.int (nI j))]) rfl (Nat.le_of_ble_eq_true rfl) rfl ?_
  intro Γ hl F
  clear hl
  obtain ⟨f0, ⟨fa, f1, hfa⟩, f2, f3, hau⟩ := hL
  have no : ∀ {z : Prop}, (r0 = true → z) → ¬ z → r0 = false := fun h1 h2 => by
    cases r0
    · rfl
    · exact absurd (h1 rfl) h2
  refine zv_aload_n F d_LA_same_0 rfl ?_
  refine zv_iload_n F d_LA_same_1 rfl ?_
  refine zv_pV1 F rfl (by assumption) k_LA.1 d_LA_same_2 (LA_isListed_ok f0 hc hi) Y_LA_isListed Yi_LA_isListed Yv_LA_isListed ln_LA_39 ⟨(Nat.le_of_ble_eq_true rfl), (Nat.le_of_ble_eq_true rfl)⟩ (Nat.le_of_ble_eq_true rfl) ⟨(Nat.le_of_ble_eq_true rfl), (Nat.le_of_ble_eq_true rfl)⟩ ?_
  first | refine zn_bif_eq (tgt := 38) F d_LA_same_5 rfl (fun h5 => ?_) (fun h5 => ?_) | refine zn_if_eq (tgt := 38) F d_LA_same_5 rfl (by omega) (fun h5 => ?_) (fun h5 => ?_)
  · have h5 := of_decide_eq_false h5
    refine zn_iconst (x := 0) F d_LA_same_38 (by decide) ?_
    exact zv_zret F d_LA_same_39 (Nat.le_of_ble_eq_true rfl) (Nat.le_of_ble_eq_true rfl) (by first | rfl | exact zn_nb _) (by first | exact ⟨zn_bt h31, rfl, rfl⟩ | exact ⟨zn_bf h31, rfl, rfl⟩ | exact ⟨zn_bf (no (fun h => (hr.mp h).2.1) h13), rfl, rfl⟩ | exact ⟨zn_bf (no (fun h => (hr.mp h).1) h5), rfl, rfl⟩)
  · have h5 := of_decide_eq_true h5
    refine zv_aload_n F d_LA_same_8 rfl ?_
    refine zv_iload_n F d_LA_same_9 rfl ?_
    refine zv_pV1 F rfl (by assumption) k_LA.1 d_LA_same_10 (LA_isListed_ok f0 hc hj) Y_LA_isListed Yi_LA_isListed Yv_LA_isListed ln_LA_39 ⟨(Nat.le_of_ble_eq_true rfl), (Nat.le_of_ble_eq_true rfl)⟩ (Nat.le_of_ble_eq_true rfl) ⟨(Nat.le_of_ble_eq_true rfl), (Nat.le_of_ble_eq_true rfl)⟩ ?_
    first | refine zn_bif_eq (tgt := 38) F d_LA_same_13 rfl (fun h13 => ?_) (fun h13 => ?_) | refine zn_if_eq (tgt := 38) F d_LA_same_13 rfl (by omega) (fun h13 => ?_) (fun h13 => ?_)
    · have h13 := of_decide_eq_false h13
      refine zn_iconst (x := 0) F d_LA_same_38 (by decide) ?_
      exact zv_zret F d_LA_same_39 (Nat.le_of_ble_eq_true rfl) (Nat.le_of_ble_eq_true rfl) (by first | rfl | exact zn_nb _) (by first | exact ⟨zn_bt h31, rfl, rfl⟩ | exact ⟨zn_bf h31, rfl, rfl⟩ | exact ⟨zn_bf (no (fun h => (hr.mp h).2.1) h13), rfl, rfl⟩ | exact ⟨zn_bf (no (fun h => (hr.mp h).1) h5), rfl, rfl⟩)
    · have h13 := of_decide_eq_true h13
      have f4 := (hau i (by omega)).1.1
      refine zv_aload_n F d_LA_same_16 rfl ?_
      refine zv_get F d_LA_same_17 (by assumption) k_LA 0 (Nat.le_of_ble_eq_true rfl) ln_LA_11 rfl (by rfl) ?_
      refine zv_iload_n F d_LA_same_20 rfl ?_
      refine zv_aald (t0 := 3) F d_LA_same_21 (by assumption) rfl (vp_in_nI (by omega) (by omega)) (by rw [nI_clamp (by omega)]; exact hfa _ (by omega)) ?_
      refine zv_aload_n F d_LA_same_22 rfl ?_
      refine zv_get F d_LA_same_23 (by assumption) k_LA 0 (Nat.le_of_ble_eq_true rfl) ln_LA_11 rfl (by rfl) ?_
      refine zv_iload_n F d_LA_same_26 rfl ?_
      refine zv_aald (t0 := 3) F d_LA_same_27 (by assumption) rfl (vp_in_nI (by omega) (by omega)) (by rw [nI_clamp (by omega)]; exact hfa _ (by omega)) ?_
      refine zv_pV1 F rfl (by assumption) k_Au.1 d_LA_same_28 (Au_isLike_ok (hau i (by omega)).1 (hau i (by omega)).2 (hau j (by omega)).1 (hau j (by omega)).2 r0 ⟨fun h => (hr.mp h).2.2, fun h => hr.mpr ⟨h5, h13, h⟩⟩) Y_Au_isLike Yi_Au_isLike Yv_Au_isLike ln_LA_78 ⟨(Nat.le_of_ble_eq_true rfl), (Nat.le_of_ble_eq_true rfl)⟩ (Nat.le_of_ble_eq_true rfl) ⟨(Nat.le_of_ble_eq_true rfl), (Nat.le_of_ble_eq_true rfl)⟩ ?_
      first | refine zn_bif_eq (tgt := 38) F d_LA_same_31 rfl (fun h31 => ?_) (fun h31 => ?_) | refine zn_if_eq (tgt := 38) F d_LA_same_31 rfl (by omega) (fun h31 => ?_) (fun h31 => ?_)
      · refine zn_iconst (x := 0) F d_LA_same_38 (by decide) ?_
        exact zv_zret F d_LA_same_39 (Nat.le_of_ble_eq_true rfl) (Nat.le_of_ble_eq_true rfl) (by first | rfl | exact zn_nb _) (by first | exact ⟨zn_bt h31, rfl, rfl⟩ | exact ⟨zn_bf h31, rfl, rfl⟩ | exact ⟨zn_bf (no (fun h => (hr.mp h).2.1) h13), rfl, rfl⟩ | exact ⟨zn_bf (no (fun h => (hr.mp h).1) h5), rfl, rfl⟩)
      · refine zn_iconst (x := 1) F d_LA_same_34 (by decide) ?_
        refine zv_goto (tgt := 39) F d_LA_same_35 rfl ?_
        exact zv_zret F d_LA_same_39 (Nat.le_of_ble_eq_true rfl) (Nat.le_of_ble_eq_true rfl) (by first | rfl | exact zn_nb _) (by first | exact ⟨zn_bt h31, rfl, rfl⟩ | exact ⟨zn_bf h31, rfl, rfl⟩ | exact ⟨zn_bf (no (fun h => (hr.mp h).2.1) h13), rfl, rfl⟩ | exact ⟨zn_bf (no (fun h => (hr.mp h).1) h5), rfl, rfl⟩)

