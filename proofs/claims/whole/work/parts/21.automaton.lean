def au_at (Δ : zv_D) (hp : zv_M) (a n acc : Nat) (g : Nat → Nat) : Prop := hp a = some (.inr (0, [.int (nI n), .int (nI acc), .ref (a + 1)])) ∧ hp (a + 1) = some (zn_I Δ 12 g)
def au_ok (n acc : Nat) (g : Nat → Nat) : Prop := n ≤ 6 ∧ acc < 64 ∧ ∀ j, j < 12 → g j < 6
theorem zn_p2 {v : Nat} (h : v < 32) : 1 * 2 ^ v < 4294967296 := by
  rw [Nat.one_mul]
  exact Nat.lt_of_lt_of_le (Nat.pow_lt_pow_right (by decide) h) (by decide)
theorem au_and7 (x : Nat) : x &&& 7 = x % 8 := Nat.and_two_pow_sub_one_eq_mod x 3
theorem au_sh {v q : Nat} (hv : v < 8) (hq : q < 6) : v * 2 ^ (3 * q) < 262144 := by
  match q, hq with
  | 0, _ => omega
  | 1, _ => omega
  | 2, _ => omega
  | 3, _ => omega
  | 4, _ => omega
  | 5, _ => omega
theorem Au_step_ok {l : Launch} {Δ : zv_D} {hp : zv_M} {sz : Nat} {a n acc q c : Nat} {g : Nat → Nat} (hA : au_at Δ hp a n acc g) (hq : 2 * q + c < 12) : zv_P l Δ 0 y_Au_step b_Au_step 3 ((some (FieldType.int))) [.ref a, .int (nI q), .int (nI c)] hp sz (.int (nI (g (2 * q + c)))) := by
  refine zv_E.intro (lv0 := [some (.ref a), some (.int (nI q)), some (.int (nI c))]) rfl (Nat.le_of_ble_eq_true rfl) rfl ?_
  intro Γ hl F
  clear hl
  obtain ⟨f1, f2⟩ := hA
  refine zv_aload_n F d_Au_step_0 rfl ?_
  refine zv_get F d_Au_step_1 (by assumption) k_Au 2 (Nat.le_of_ble_eq_true rfl) ln_Au_9 rfl (by rfl) ?_
  refine zn_iconst (x := 2) F d_Au_step_4 (by decide) ?_
  refine zv_iload_n F d_Au_step_5 rfl ?_
  refine zn_imul F d_Au_step_6 ?_
  refine zv_iload_n F d_Au_step_7 rfl ?_
  refine zn_iadd F d_Au_step_8 ?_
  refine zn_iald F d_Au_step_9 (by assumption) (by omega) (by omega) ?_
  exact zv_iret F d_Au_step_10 (Nat.le_of_ble_eq_true rfl) (Nat.le_of_ble_eq_true rfl) ⟨rfl, rfl, rfl⟩
theorem Au_hasState_ok {l : Launch} {Δ : zv_D} {hp : zv_M} {sz : Nat} {a n acc x : Nat} {g : Nat → Nat} (hA : au_at Δ hp a n acc g) (hn : n ≤ 6) (hx : x < 4294967296) : zv_P l Δ 0 y_Au_hasState b_Au_hasState 2 ((some (FieldType.boolean))) [.ref a, .int (nI x)] hp sz (.int (nI (decide (x < n)).toNat)) := by
  refine zv_E.intro (lv0 := [some (.ref a), some (.int (nI x))]) rfl (Nat.le_of_ble_eq_true rfl) rfl ?_
  intro Γ hl F
  clear hl
  obtain ⟨f1, f2⟩ := hA
  refine zv_iload_n F d_Au_hasState_0 rfl ?_
  refine zn_if_lt (tgt := 16) F d_Au_hasState_1 rfl (by omega) (fun h1 => ?_) (fun h1 => ?_)
  · refine zn_iconst (x := 0) F d_Au_hasState_16 (by decide) ?_
    exact zv_zret F d_Au_hasState_17 (Nat.le_of_ble_eq_true rfl) (Nat.le_of_ble_eq_true rfl) (by first | rfl | exact zn_nb _) (by first | exact ⟨zn_bt (decide_eq_true (by omega)), rfl, rfl⟩ | exact ⟨zn_bf (decide_eq_false (by omega)), rfl, rfl⟩)
  · refine zv_iload_n F d_Au_hasState_4 rfl ?_
    refine zv_aload_n F d_Au_hasState_5 rfl ?_
    refine zv_get F d_Au_hasState_6 (by assumption) k_Au 0 (Nat.le_of_ble_eq_true rfl) ln_Au_15 rfl (by rfl) ?_
    refine zn_icmp_ge (tgt := 16) F d_Au_hasState_9 rfl (by omega) (by omega) (fun h9 => ?_) (fun h9 => ?_)
    · refine zn_iconst (x := 0) F d_Au_hasState_16 (by decide) ?_
      exact zv_zret F d_Au_hasState_17 (Nat.le_of_ble_eq_true rfl) (Nat.le_of_ble_eq_true rfl) (by first | rfl | exact zn_nb _) (by first | exact ⟨zn_bt (decide_eq_true (by omega)), rfl, rfl⟩ | exact ⟨zn_bf (decide_eq_false (by omega)), rfl, rfl⟩)
    · refine zn_iconst (x := 1) F d_Au_hasState_12 (by decide) ?_
      refine zv_goto (tgt := 17) F d_Au_hasState_13 rfl ?_
      exact zv_zret F d_Au_hasState_17 (Nat.le_of_ble_eq_true rfl) (Nat.le_of_ble_eq_true rfl) (by first | rfl | exact zn_nb _) (by first | exact ⟨zn_bt (decide_eq_true (by omega)), rfl, rfl⟩ | exact ⟨zn_bf (decide_eq_false (by omega)), rfl, rfl⟩)
theorem Au_isAccepting_ok {l : Launch} {Δ : zv_D} {hp : zv_M} {sz : Nat} {a n acc q : Nat} {g : Nat → Nat} (hA : au_at Δ hp a n acc g) (ha : acc < 64) (hq : q < 32) : zv_P l Δ 0 y_Au_isAccepting b_Au_isAccepting 2 ((some (FieldType.boolean))) [.ref a, .int (nI q)] hp sz (.int (nI (decide (acc / 2 ^ q % 2 = 1)).toNat)) := by
  refine zv_E.intro (lv0 := [some (.ref a), some (.int (nI q))]) rfl (Nat.le_of_ble_eq_true rfl) rfl ?_
  intro Γ hl F
  clear hl
  obtain ⟨f1, f2⟩ := hA
  refine zv_aload_n F d_Au_isAccepting_0 rfl ?_
  refine zv_get F d_Au_isAccepting_1 (by assumption) k_Au 1 (Nat.le_of_ble_eq_true rfl) ln_Au_19 rfl (by rfl) ?_
  refine zv_iload_n F d_Au_isAccepting_4 rfl ?_
  refine zn_ishr F d_Au_isAccepting_5 (by omega) (by omega) ?_
  refine zn_iconst (x := 1) F d_Au_isAccepting_6 (by decide) ?_
  refine zn_iand F d_Au_isAccepting_7 ?_
  rw [Nat.and_one_is_mod]
  first | refine zn_bif_eq (tgt := 15) F d_Au_isAccepting_8 rfl (fun h8 => ?_) (fun h8 => ?_) | refine zn_if_eq (tgt := 15) F d_Au_isAccepting_8 rfl (by omega) (fun h8 => ?_) (fun h8 => ?_)
  · refine zn_iconst (x := 0) F d_Au_isAccepting_15 (by decide) ?_
    exact zv_zret F d_Au_isAccepting_16 (Nat.le_of_ble_eq_true rfl) (Nat.le_of_ble_eq_true rfl) (by first | rfl | exact zn_nb _) (by first | exact ⟨zn_bt (decide_eq_true (by omega)), rfl, rfl⟩ | exact ⟨zn_bf (decide_eq_false (by omega)), rfl, rfl⟩)
  · refine zn_iconst (x := 1) F d_Au_isAccepting_11 (by decide) ?_
    refine zv_goto (tgt := 16) F d_Au_isAccepting_12 rfl ?_
    exact zv_zret F d_Au_isAccepting_16 (Nat.le_of_ble_eq_true rfl) (Nat.le_of_ble_eq_true rfl) (by first | rfl | exact zn_nb _) (by first | exact ⟨zn_bt (decide_eq_true (by omega)), rfl, rfl⟩ | exact ⟨zn_bf (decide_eq_false (by omega)), rfl, rfl⟩)
theorem Au_acceptsAnyOf_ok {l : Launch} {Δ : zv_D} {hp : zv_M} {sz : Nat} {a n acc set : Nat} {g : Nat → Nat} (hA : au_at Δ hp a n acc g) (ha : acc < 64) : zv_P l Δ 0 y_Au_acceptsAnyOf b_Au_acceptsAnyOf 2 ((some (FieldType.boolean))) [.ref a, .int (nI set)] hp sz (.int (nI (decide (¬ (acc &&& set) = 0)).toNat)) := by
  refine zv_E.intro (lv0 := [some (.ref a), some (.int (nI set))]) rfl (Nat.le_of_ble_eq_true rfl) rfl ?_
  intro Γ hl F
  clear hl
  obtain ⟨f1, f2⟩ := hA
  have hb : acc &&& set ≤ acc := Nat.and_le_left
  refine zv_aload_n F d_Au_acceptsAnyOf_0 rfl ?_
  refine zv_get F d_Au_acceptsAnyOf_1 (by assumption) k_Au 1 (Nat.le_of_ble_eq_true rfl) ln_Au_19 rfl (by rfl) ?_
  refine zv_iload_n F d_Au_acceptsAnyOf_4 rfl ?_
  refine zn_iand F d_Au_acceptsAnyOf_5 ?_
  first | refine zn_bif_eq (tgt := 13) F d_Au_acceptsAnyOf_6 rfl (fun h6 => ?_) (fun h6 => ?_) | refine zn_if_eq (tgt := 13) F d_Au_acceptsAnyOf_6 rfl (by omega) (fun h6 => ?_) (fun h6 => ?_)
  · refine zn_iconst (x := 0) F d_Au_acceptsAnyOf_13 (by decide) ?_
    exact zv_zret F d_Au_acceptsAnyOf_14 (Nat.le_of_ble_eq_true rfl) (Nat.le_of_ble_eq_true rfl) (by first | rfl | exact zn_nb _) (by first | exact ⟨zn_bt (decide_eq_true h6), rfl, rfl⟩ | exact ⟨zn_bf (decide_eq_false (fun z => z h6)), rfl, rfl⟩)
  · refine zn_iconst (x := 1) F d_Au_acceptsAnyOf_9 (by decide) ?_
    refine zv_goto (tgt := 14) F d_Au_acceptsAnyOf_10 rfl ?_
    exact zv_zret F d_Au_acceptsAnyOf_14 (Nat.le_of_ble_eq_true rfl) (Nat.le_of_ble_eq_true rfl) (by first | rfl | exact zn_nb _) (by first | exact ⟨zn_bt (decide_eq_true h6), rfl, rfl⟩ | exact ⟨zn_bf (decide_eq_false (fun z => z h6)), rfl, rfl⟩)
def au_ss (g : Nat → Nat) (set c : Nat) : Nat → Nat
  | 0 => 0
  | q + 1 => if set / 2 ^ q % 2 = 1 then au_ss g set c q ||| 2 ^ g (2 * q + c) else au_ss g set c q
theorem au_ss_lt {g : Nat → Nat} (hg : ∀ j, j < 12 → g j < 6) {set c : Nat} (hc : c < 2) : ∀ n, n ≤ 6 → au_ss g set c n < 64
  | 0, _ => by simp [au_ss]
  | q + 1, h => by
    have h1 := au_ss_lt hg (set := set) hc q (by omega)
    have h2 := hg (2 * q + c) (by omega)
    unfold au_ss
    split
    · exact Nat.or_lt_two_pow (n := 6) h1 (Nat.pow_lt_pow_right (by decide) h2)
    · exact h1
theorem Au_stepSet_ok {l : Launch} {Δ : zv_D} {hp : zv_M} {sz : Nat} {a n acc set c : Nat} {g : Nat → Nat} (hA : au_at Δ hp a n acc g) (ho : au_ok n acc g) (hs : set < 128) (hc : c < 2) : zv_P l Δ 1 y_Au_stepSet b_Au_stepSet 5 ((some (FieldType.int))) [.ref a, .int (nI set), .int (nI c)] hp sz (.int (nI (au_ss g set c n))) := by
  refine zv_E.intro (lv0 := [some (.ref a), some (.int (nI set)), some (.int (nI c)), none, none]) rfl (Nat.le_of_ble_eq_true rfl) rfl ?_
  intro Γ hl F
  clear hl
  have hA' := hA
  obtain ⟨f1, f2⟩ := hA
  obtain ⟨hn, ha, hg⟩ := ho
  have loop : ∀ (m q : Nat), m = n - q → q ≤ n → zv_V Δ Γ (zv_QQ Δ Γ 0 0 (fun r hp1 sz1 => r = some (.int (nI (au_ss g set c n))) ∧ hp1 = hp ∧ sz1 = sz)) 5 [some (.ref a), some (.int (nI set)), some (.int (nI c)), some (.int (nI (au_ss g set c q))), some (.int (nI q))] [] hp sz 0 0 := by
    intro m
    induction m using Nat.strongRecOn with
    | ind m ih =>
      intro q hm hq
      refine zv_iload F d_Au_stepSet_5 rfl ?_
      refine zv_aload_n F d_Au_stepSet_7 rfl ?_
      refine zv_get F d_Au_stepSet_8 (by assumption) k_Au 0 (Nat.le_of_ble_eq_true rfl) ln_Au_15 rfl (by rfl) ?_
      refine zn_icmp_ge (tgt := 41) F d_Au_stepSet_11 rfl (by omega) (by omega) (fun h11 => ?_) (fun h11 => ?_)
      · refine zv_iload_n F d_Au_stepSet_41 rfl ?_
        exact zv_iret F d_Au_stepSet_42 (Nat.le_of_ble_eq_true rfl) (Nat.le_of_ble_eq_true rfl) ⟨zn_rt (by rw [show q = n by omega]), rfl, rfl⟩
      · refine zv_iload_n F d_Au_stepSet_14 rfl ?_
        refine zv_iload F d_Au_stepSet_15 rfl ?_
        refine zn_ishr F d_Au_stepSet_17 (by omega) (by omega) ?_
        refine zn_iconst (x := 1) F d_Au_stepSet_18 (by decide) ?_
        refine zn_iand F d_Au_stepSet_19 ?_
        rw [Nat.and_one_is_mod]
        first | refine zn_bif_eq (tgt := 35) F d_Au_stepSet_20 rfl (fun h20 => ?_) (fun h20 => ?_) | refine zn_if_eq (tgt := 35) F d_Au_stepSet_20 rfl (by omega) (fun h20 => ?_) (fun h20 => ?_)
        · have es : au_ss g set c (q + 1) = au_ss g set c q := by rw [au_ss, if_neg (by omega)]
          refine zn_iinc F d_Au_stepSet_35 rfl ?_
          simp only [zv_s1, zv_s2, zv_kill, List.set_cons_zero, List.set_cons_succ, List.getElem?_cons_zero, List.getElem?_cons_succ]
          refine zv_goto (tgt := 5) F d_Au_stepSet_38 rfl ?_
          have z := ih (n - (q + 1)) (by omega) (q + 1) rfl (by omega)
          rw [es] at z
          exact z
        · have es : au_ss g set c (q + 1) = au_ss g set c q ||| 2 ^ g (2 * q + c) := by rw [au_ss, if_pos (by omega)]
          have hv := hg (2 * q + c) (by omega)
          refine zv_iload_n F d_Au_stepSet_23 rfl ?_
          refine zn_iconst (x := 1) F d_Au_stepSet_24 (by decide) ?_
          refine zv_aload_n F d_Au_stepSet_25 rfl ?_
          refine zv_iload F d_Au_stepSet_26 rfl ?_
          refine zv_iload_n F d_Au_stepSet_28 rfl ?_
          refine zv_pV2 F rfl (by assumption) k_Au.1 d_Au_stepSet_29 (Au_step_ok hA' (by omega)) Y_Au_step Yi_Au_step Yv_Au_step ln_Au_22 ⟨(Nat.le_of_ble_eq_true rfl), (Nat.le_of_ble_eq_true rfl)⟩ (Nat.le_of_ble_eq_true rfl) ⟨(Nat.le_of_ble_eq_true rfl), (Nat.le_of_ble_eq_true rfl)⟩ ?_
          refine zn_ishl F d_Au_stepSet_32 (zn_p2 (by omega)) (by omega) ?_
          rw [Nat.one_mul]
          refine zn_ior F d_Au_stepSet_33 ?_
          refine zv_istore_n F d_Au_stepSet_34 (Nat.le_of_ble_eq_true rfl) ?_
          simp only [zv_s1, zv_s2, zv_kill, List.set_cons_zero, List.set_cons_succ, List.getElem?_cons_zero, List.getElem?_cons_succ]
          refine zn_iinc F d_Au_stepSet_35 rfl ?_
          simp only [zv_s1, zv_s2, zv_kill, List.set_cons_zero, List.set_cons_succ, List.getElem?_cons_zero, List.getElem?_cons_succ]
          refine zv_goto (tgt := 5) F d_Au_stepSet_38 rfl ?_
          have z := ih (n - (q + 1)) (by omega) (q + 1) rfl (by omega)
          rw [es] at z
          exact z
  refine zn_iconst (x := 0) F d_Au_stepSet_0 (by decide) ?_
  refine zv_istore_n F d_Au_stepSet_1 (Nat.le_of_ble_eq_true rfl) ?_
  simp only [zv_s1, zv_s2, zv_kill, List.set_cons_zero, List.set_cons_succ, List.getElem?_cons_zero, List.getElem?_cons_succ]
  refine zn_iconst (x := 0) F d_Au_stepSet_2 (by decide) ?_
  refine zv_istore F d_Au_stepSet_3 (Nat.le_of_ble_eq_true rfl) ?_
  simp only [zv_s1, zv_s2, zv_kill, List.set_cons_zero, List.set_cons_succ, List.getElem?_cons_zero, List.getElem?_cons_succ]
  exact loop _ 0 rfl (Nat.zero_le _)
/-- three bits for each state -/
def au_pk (f : Nat → Nat) : Nat → Nat
  | 0 => 0
  | q + 1 => au_pk f q ||| f q * 2 ^ (3 * q)
theorem Au_emptyWordMap_ok {l : Launch} {Δ : zv_D} {hp : zv_M} {sz : Nat} {a n acc : Nat} {g : Nat → Nat} (hA : au_at Δ hp a n acc g) (hn : n ≤ 6) : zv_P l Δ 0 y_Au_emptyWordMap b_Au_emptyWordMap 3 ((some (FieldType.int))) [.ref a] hp sz (.int (nI (au_pk (fun q => q) n))) := by
  refine zv_E.intro (lv0 := [some (.ref a), none, none]) rfl (Nat.le_of_ble_eq_true rfl) rfl ?_
  intro Γ hl F
  clear hl
  obtain ⟨f1, f2⟩ := hA
  have loop : ∀ (m q : Nat), m = n - q → q ≤ n → zv_V Δ Γ (zv_QQ Δ Γ 0 0 (fun r hp1 sz1 => r = some (.int (nI (au_pk (fun q => q) n))) ∧ hp1 = hp ∧ sz1 = sz)) 4 [some (.ref a), some (.int (nI (au_pk (fun q => q) q))), some (.int (nI q))] [] hp sz 0 0 := by
    intro m
    induction m using Nat.strongRecOn with
    | ind m ih =>
      intro q hm hq
      refine zv_iload_n F d_Au_emptyWordMap_4 rfl ?_
      refine zv_aload_n F d_Au_emptyWordMap_5 rfl ?_
      refine zv_get F d_Au_emptyWordMap_6 (by assumption) k_Au 0 (Nat.le_of_ble_eq_true rfl) ln_Au_15 rfl (by rfl) ?_
      refine zn_icmp_ge (tgt := 26) F d_Au_emptyWordMap_9 rfl (by omega) (by omega) (fun h9 => ?_) (fun h9 => ?_)
      · refine zv_iload_n F d_Au_emptyWordMap_26 rfl ?_
        exact zv_iret F d_Au_emptyWordMap_27 (Nat.le_of_ble_eq_true rfl) (Nat.le_of_ble_eq_true rfl) ⟨zn_rt (by rw [show q = n by omega]), rfl, rfl⟩
      · refine zv_iload_n F d_Au_emptyWordMap_12 rfl ?_
        refine zv_iload_n F d_Au_emptyWordMap_13 rfl ?_
        refine zn_iconst (x := 3) F d_Au_emptyWordMap_14 (by decide) ?_
        refine zv_iload_n F d_Au_emptyWordMap_15 rfl ?_
        refine zn_imul F d_Au_emptyWordMap_16 ?_
        refine zn_ishl F d_Au_emptyWordMap_17 (Nat.lt_of_lt_of_le (au_sh (by omega) (by omega)) (by decide)) (by omega) ?_
        refine zn_ior F d_Au_emptyWordMap_18 ?_
        refine zv_istore_n F d_Au_emptyWordMap_19 (Nat.le_of_ble_eq_true rfl) ?_
        simp only [zv_s1, zv_s2, zv_kill, List.set_cons_zero, List.set_cons_succ, List.getElem?_cons_zero, List.getElem?_cons_succ]
        refine zn_iinc F d_Au_emptyWordMap_20 rfl ?_
        simp only [zv_s1, zv_s2, zv_kill, List.set_cons_zero, List.set_cons_succ, List.getElem?_cons_zero, List.getElem?_cons_succ]
        refine zv_goto (tgt := 4) F d_Au_emptyWordMap_23 rfl ?_
        exact ih (n - (q + 1)) (by omega) (q + 1) rfl (by omega)
  refine zn_iconst (x := 0) F d_Au_emptyWordMap_0 (by decide) ?_
  refine zv_istore_n F d_Au_emptyWordMap_1 (Nat.le_of_ble_eq_true rfl) ?_
  simp only [zv_s1, zv_s2, zv_kill, List.set_cons_zero, List.set_cons_succ, List.getElem?_cons_zero, List.getElem?_cons_succ]
  refine zn_iconst (x := 0) F d_Au_emptyWordMap_2 (by decide) ?_
  refine zv_istore_n F d_Au_emptyWordMap_3 (Nat.le_of_ble_eq_true rfl) ?_
  simp only [zv_s1, zv_s2, zv_kill, List.set_cons_zero, List.set_cons_succ, List.getElem?_cons_zero, List.getElem?_cons_succ]
  exact loop _ 0 rfl (Nat.zero_le _)
theorem Au_stepMap_ok {l : Launch} {Δ : zv_D} {hp : zv_M} {sz : Nat} {a n acc map c : Nat} {g : Nat → Nat} (hA : au_at Δ hp a n acc g) (ho : au_ok n acc g) (hm : map < 2147483648) (hd : ∀ q, q < n → map / 2 ^ (3 * q) % 8 < 6) (hc : c < 2) : zv_P l Δ 1 y_Au_stepMap b_Au_stepMap 5 ((some (FieldType.int))) [.ref a, .int (nI map), .int (nI c)] hp sz (.int (nI (au_pk (fun q => g (2 * (map / 2 ^ (3 * q) % 8) + c)) n))) := by
  refine zv_E.intro (lv0 := [some (.ref a), some (.int (nI map)), some (.int (nI c)), none, none]) rfl (Nat.le_of_ble_eq_true rfl) rfl ?_
  intro Γ hl F
  clear hl
  have hA' := hA
  obtain ⟨f1, f2⟩ := hA
  obtain ⟨hn, ha, hg⟩ := ho
  have loop : ∀ (m q : Nat), m = n - q → q ≤ n → zv_V Δ Γ (zv_QQ Δ Γ 0 0 (fun r hp1 sz1 => r = some (.int (nI (au_pk (fun q => g (2 * (map / 2 ^ (3 * q) % 8) + c)) n))) ∧ hp1 = hp ∧ sz1 = sz)) 5 [some (.ref a), some (.int (nI map)), some (.int (nI c)), some (.int (nI (au_pk (fun q => g (2 * (map / 2 ^ (3 * q) % 8) + c)) q))), some (.int (nI q))] [] hp sz 0 0 := by
    intro m
    induction m using Nat.strongRecOn with
    | ind m ih =>
      intro q hm2 hq
      refine zv_iload F d_Au_stepMap_5 rfl ?_
      refine zv_aload_n F d_Au_stepMap_7 rfl ?_
      refine zv_get F d_Au_stepMap_8 (by assumption) k_Au 0 (Nat.le_of_ble_eq_true rfl) ln_Au_15 rfl (by rfl) ?_
      refine zn_icmp_ge (tgt := 42) F d_Au_stepMap_11 rfl (by omega) (by omega) (fun h11 => ?_) (fun h11 => ?_)
      · refine zv_iload_n F d_Au_stepMap_42 rfl ?_
        exact zv_iret F d_Au_stepMap_43 (Nat.le_of_ble_eq_true rfl) (Nat.le_of_ble_eq_true rfl) ⟨zn_rt (by rw [show q = n by omega]), rfl, rfl⟩
      · have hdq := hd q h11
        have hv := hg (2 * (map / 2 ^ (3 * q) % 8) + c) (by omega)
        refine zv_iload_n F d_Au_stepMap_14 rfl ?_
        refine zv_aload_n F d_Au_stepMap_15 rfl ?_
        refine zv_iload_n F d_Au_stepMap_16 rfl ?_
        refine zn_iconst (x := 3) F d_Au_stepMap_17 (by decide) ?_
        refine zv_iload F d_Au_stepMap_18 rfl ?_
        refine zn_imul F d_Au_stepMap_20 ?_
        refine zn_ishr F d_Au_stepMap_21 (by omega) (by omega) ?_
        refine zn_bipush (x := 7) F d_Au_stepMap_22 (by decide) ?_
        refine zn_iand F d_Au_stepMap_24 ?_
        rw [au_and7]
        refine zv_iload_n F d_Au_stepMap_25 rfl ?_
        refine zv_pV2 F rfl (by assumption) k_Au.1 d_Au_stepMap_26 (Au_step_ok hA' (by omega)) Y_Au_step Yi_Au_step Yv_Au_step ln_Au_22 ⟨(Nat.le_of_ble_eq_true rfl), (Nat.le_of_ble_eq_true rfl)⟩ (Nat.le_of_ble_eq_true rfl) ⟨(Nat.le_of_ble_eq_true rfl), (Nat.le_of_ble_eq_true rfl)⟩ ?_
        refine zn_iconst (x := 3) F d_Au_stepMap_29 (by decide) ?_
        refine zv_iload F d_Au_stepMap_30 rfl ?_
        refine zn_imul F d_Au_stepMap_32 ?_
        refine zn_ishl F d_Au_stepMap_33 (Nat.lt_of_lt_of_le (au_sh (by omega) (by omega)) (by decide)) (by omega) ?_
        refine zn_ior F d_Au_stepMap_34 ?_
        refine zv_istore_n F d_Au_stepMap_35 (Nat.le_of_ble_eq_true rfl) ?_
        simp only [zv_s1, zv_s2, zv_kill, List.set_cons_zero, List.set_cons_succ, List.getElem?_cons_zero, List.getElem?_cons_succ]
        refine zn_iinc F d_Au_stepMap_36 rfl ?_
        simp only [zv_s1, zv_s2, zv_kill, List.set_cons_zero, List.set_cons_succ, List.getElem?_cons_zero, List.getElem?_cons_succ]
        refine zv_goto (tgt := 5) F d_Au_stepMap_39 rfl ?_
        exact ih (n - (q + 1)) (by omega) (q + 1) rfl (by omega)
  refine zn_iconst (x := 0) F d_Au_stepMap_0 (by decide) ?_
  refine zv_istore_n F d_Au_stepMap_1 (Nat.le_of_ble_eq_true rfl) ?_
  simp only [zv_s1, zv_s2, zv_kill, List.set_cons_zero, List.set_cons_succ, List.getElem?_cons_zero, List.getElem?_cons_succ]
  refine zn_iconst (x := 0) F d_Au_stepMap_2 (by decide) ?_
  refine zv_istore F d_Au_stepMap_3 (Nat.le_of_ble_eq_true rfl) ?_
  simp only [zv_s1, zv_s2, zv_kill, List.set_cons_zero, List.set_cons_succ, List.getElem?_cons_zero, List.getElem?_cons_succ]
  exact loop _ 0 rfl (Nat.zero_le _)
theorem Au_isLike_ok {l : Launch} {Δ : zv_D} {hp : zv_M} {sz : Nat} {a n acc b n2 acc2 : Nat} {g g2 : Nat → Nat} (hA : au_at Δ hp a n acc g) (ho : au_ok n acc g) (hB : au_at Δ hp b n2 acc2 g2) (ho2 : au_ok n2 acc2 g2) (r0 : Bool) (hr : r0 = true ↔ n = n2 ∧ acc = acc2 ∧ ∀ s, s < 2 * n → g s = g2 s) : zv_P l Δ 0 y_Au_isLike b_Au_isLike 3 ((some (FieldType.boolean))) [.ref a, .ref b] hp sz (.int (nI r0.toNat)) := by
  refine zv_E.intro (lv0 := [some (.ref a), some (.ref b), none]) rfl (Nat.le_of_ble_eq_true rfl) rfl ?_
  intro Γ hl F
  clear hl
  obtain ⟨f1, f2⟩ := hA
  obtain ⟨f3, f4⟩ := hB
  obtain ⟨hn, ha, hg⟩ := ho
  obtain ⟨hn2, ha2, hg2⟩ := ho2
  have no : ∀ {z : Prop}, (r0 = true → z) → ¬ z → r0 = false := fun h1 h2 => by
    cases r0
    · rfl
    · exact absurd (h1 rfl) h2
  have loop : ∀ (m q : Nat), m = 2 * n - q → q ≤ 2 * n → n = n2 → acc = acc2 → (∀ s, s < q → g s = g2 s) → zv_V Δ Γ (zv_QQ Δ Γ 0 0 (fun r hp1 sz1 => r = some (.int (nI r0.toNat)) ∧ hp1 = hp ∧ sz1 = sz)) 26 [some (.ref a), some (.ref b), some (.int (nI q))] [] hp sz 0 0 := by
    intro m
    induction m using Nat.strongRecOn with
    | ind m ih =>
      intro q hm hq e1 e2 e3
      refine zv_iload_n F d_Au_isLike_26 rfl ?_
      refine zn_iconst (x := 2) F d_Au_isLike_27 (by decide) ?_
      refine zv_aload_n F d_Au_isLike_28 rfl ?_
      refine zv_get F d_Au_isLike_29 (by assumption) k_Au 0 (Nat.le_of_ble_eq_true rfl) ln_Au_15 rfl (by rfl) ?_
      refine zn_imul F d_Au_isLike_32 ?_
      refine zn_icmp_ge (tgt := 59) F d_Au_isLike_33 rfl (by omega) (by omega) (fun h33 => ?_) (fun h33 => ?_)
      · have hT := hr.mpr ⟨e1, e2, fun s hs => e3 s (by omega)⟩
        refine zn_iconst (x := 1) F d_Au_isLike_59 (by decide) ?_
        exact zv_zret F d_Au_isLike_60 (Nat.le_of_ble_eq_true rfl) (Nat.le_of_ble_eq_true rfl) (by first | rfl | exact zn_nb _) ⟨zn_bt hT, rfl, rfl⟩
      · have b1 := hg q (by omega)
        have b2 := hg2 q (by omega)
        refine zv_aload_n F d_Au_isLike_36 rfl ?_
        refine zv_get F d_Au_isLike_37 (by assumption) k_Au 2 (Nat.le_of_ble_eq_true rfl) ln_Au_9 rfl (by rfl) ?_
        refine zv_iload_n F d_Au_isLike_40 rfl ?_
        refine zn_iald F d_Au_isLike_41 (by assumption) (by omega) (by omega) ?_
        refine zv_aload_n F d_Au_isLike_42 rfl ?_
        refine zv_get F d_Au_isLike_43 (by assumption) k_Au 2 (Nat.le_of_ble_eq_true rfl) ln_Au_9 rfl (by rfl) ?_
        refine zv_iload_n F d_Au_isLike_46 rfl ?_
        refine zn_iald F d_Au_isLike_47 (by assumption) (by omega) (by omega) ?_
        refine zn_icmp_eq (tgt := 53) F d_Au_isLike_48 rfl (by omega) (by omega) (fun h48 => ?_) (fun h48 => ?_)
        · refine zn_iinc F d_Au_isLike_53 rfl ?_
          simp only [zv_s1, zv_s2, zv_kill, List.set_cons_zero, List.set_cons_succ, List.getElem?_cons_zero, List.getElem?_cons_succ]
          refine zv_goto (tgt := 26) F d_Au_isLike_56 rfl ?_
          exact ih (2 * n - (q + 1)) (by omega) (q + 1) rfl (by omega) e1 e2 (fun s hs => by by_cases h : s = q; rw [h]; assumption; exact e3 s (by omega))
        · refine zn_iconst (x := 0) F d_Au_isLike_51 (by decide) ?_
          exact zv_zret F d_Au_isLike_52 (Nat.le_of_ble_eq_true rfl) (Nat.le_of_ble_eq_true rfl) (by first | rfl | exact zn_nb _) ⟨zn_bf (no (fun h => (hr.mp h).2.2 q (by omega)) (by assumption)), rfl, rfl⟩
  refine zv_aload_n F d_Au_isLike_0 rfl ?_
  refine zv_get F d_Au_isLike_1 (by assumption) k_Au 0 (Nat.le_of_ble_eq_true rfl) ln_Au_15 rfl (by rfl) ?_
  refine zv_aload_n F d_Au_isLike_4 rfl ?_
  refine zv_get F d_Au_isLike_5 (by assumption) k_Au 0 (Nat.le_of_ble_eq_true rfl) ln_Au_15 rfl (by rfl) ?_
  refine zn_icmp_ne (tgt := 22) F d_Au_isLike_8 rfl (by omega) (by omega) (fun h8 => ?_) (fun h8 => ?_)
  · refine zn_iconst (x := 0) F d_Au_isLike_22 (by decide) ?_
    exact zv_zret F d_Au_isLike_23 (Nat.le_of_ble_eq_true rfl) (Nat.le_of_ble_eq_true rfl) (by first | rfl | exact zn_nb _) ⟨zn_bf (by first | exact no (fun h => (hr.mp h).1) (by assumption) | exact no (fun h => (hr.mp h).2.1) (by assumption)), rfl, rfl⟩
  · refine zv_aload_n F d_Au_isLike_11 rfl ?_
    refine zv_get F d_Au_isLike_12 (by assumption) k_Au 1 (Nat.le_of_ble_eq_true rfl) ln_Au_19 rfl (by rfl) ?_
    refine zv_aload_n F d_Au_isLike_15 rfl ?_
    refine zv_get F d_Au_isLike_16 (by assumption) k_Au 1 (Nat.le_of_ble_eq_true rfl) ln_Au_19 rfl (by rfl) ?_
    refine zn_icmp_eq (tgt := 24) F d_Au_isLike_19 rfl (by omega) (by omega) (fun h19 => ?_) (fun h19 => ?_)
    · refine zn_iconst (x := 0) F d_Au_isLike_24 (by decide) ?_
      refine zv_istore_n F d_Au_isLike_25 (Nat.le_of_ble_eq_true rfl) ?_
      simp only [zv_s1, zv_s2, zv_kill, List.set_cons_zero, List.set_cons_succ, List.getElem?_cons_zero, List.getElem?_cons_succ]
      exact loop _ 0 rfl (Nat.zero_le _) (by assumption) (by assumption) (fun s hs => by omega)
    · refine zn_iconst (x := 0) F d_Au_isLike_22 (by decide) ?_
      exact zv_zret F d_Au_isLike_23 (Nat.le_of_ble_eq_true rfl) (Nat.le_of_ble_eq_true rfl) (by first | rfl | exact zn_nb _) ⟨zn_bf (by first | exact no (fun h => (hr.mp h).1) (by assumption) | exact no (fun h => (hr.mp h).2.1) (by assumption)), rfl, rfl⟩

