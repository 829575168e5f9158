def la_obj (x c : Nat) : va_E := .inr (1, [.ref (x + 1), .int (nI c), .ref (x + 2), .ref (x + 9)])
def la_arr (Δ : zv_D) (f : Nat → Option Nat) : va_E := .inl (Δ.2.2 3, 12, .inr (.inr (.inr (.inr f))))
theorem re_at.moved {Δ : zv_D} {hp hp1 : zv_M} {o : Nat} (h : re_at Δ hp o) (e : ∀ q, o ≤ q → q < o + 7 → hp1 q = hp q) : re_at Δ hp1 o := by
  obtain ⟨N, pA, pB, nc, cd, tg, P, P2, fo, hpp, f0, f1, f2, f3, f4, f5, f6⟩ := h
  have h2 := hpp
  unfold re_pp at h2
  exact ⟨N, pA, pB, nc, cd, tg, P, P2, fo, hpp, (e _ (by omega) (by omega)).trans f0, (e _ (by omega) (by omega)).trans f1, (e _ (by omega) (by omega)).trans f2, (e _ (by omega) (by omega)).trans f3, (e _ (by omega) (by omega)).trans f4, (e _ (by omega) (by omega)).trans f5, (e _ (by omega) (by omega)).trans f6⟩
theorem al_at.moved {Δ : zv_D} {hp hp1 : zv_M} {o e0 : Nat} {wd pr rs ls bs : Nat → Nat} (h : al_at Δ hp o e0 wd pr rs ls bs) (e : ∀ q, o ≤ q → q < o + 10 → hp1 q = hp q) : al_at Δ hp1 o e0 wd pr rs ls bs := by
  obtain ⟨a0, ⟨mp, lg, sh, la, a1, a2, a3, a4⟩, a5, a6, a7, a8, a9⟩ := h
  exact ⟨(e _ (by omega) (by omega)).trans a0, ⟨mp, lg, sh, la, (e _ (by omega) (by omega)).trans a1, (e _ (by omega) (by omega)).trans a2, (e _ (by omega) (by omega)).trans a3, (e _ (by omega) (by omega)).trans a4⟩, (e _ (by omega) (by omega)).trans a5, (e _ (by omega) (by omega)).trans a6, (e _ (by omega) (by omega)).trans a7, (e _ (by omega) (by omega)).trans a8, (e _ (by omega) (by omega)).trans a9⟩
/-- the class's object: its list of languages (n, acc, g), its algebra -/
def la_at (Δ : zv_D) (hp : zv_M) (x c : Nat) (n acc : Nat → Nat) (g : Nat → Nat → Nat) (e : Nat) (wd pr rs ls bs : Nat → Nat) : Prop :=
  hp x = some (la_obj x c) ∧ (∃ f : Nat → Option Nat, hp (x + 1) = some (la_arr Δ f) ∧ ∀ i, i < 12 → f i = some (x + 19 + 2 * i)) ∧ re_at Δ hp (x + 2) ∧ al_at Δ hp (x + 9) e wd pr rs ls bs ∧ ∀ i, i < 12 → au_at Δ hp (x + 19 + 2 * i) (n i) (acc i) (g i) ∧ au_ok (n i) (acc i) (g i)
theorem la_at.moved {Δ : zv_D} {hp hp1 : zv_M} {x c e : Nat} {n acc : Nat → Nat} {g : Nat → Nat → Nat} {wd pr rs ls bs : Nat → Nat} (h : la_at Δ hp x c n acc g e wd pr rs ls bs) (q : ∀ b, x ≤ b → b < x + 43 → hp1 b = hp b) : la_at Δ hp1 x c n acc g e wd pr rs ls bs := by
  obtain ⟨h0, ⟨f, h1, hf⟩, h2, h3, h4⟩ := h
  exact ⟨(q _ (by omega) (by omega)).trans h0, ⟨f, (q _ (by omega) (by omega)).trans h1, hf⟩, h2.moved (fun b b1 b2 => q b (by omega) (by omega)), h3.moved (fun b b1 b2 => q b (by omega) (by omega)), fun i hi => ⟨(h4 i hi).1.moved (q _ (by omega) (by omega)) (q _ (by omega) (by omega)), (h4 i hi).2⟩⟩
theorem LA_isListed_ok {l : Launch} {Δ : zv_D} {hp : zv_M} {sz : Nat} {x c i : Nat} (f0 : hp x = some (la_obj x c)) (hc : c ≤ 12) (hi : i < 4294967296) : zv_P l Δ 0 y_LA_isListed b_LA_isListed 2 ((some (FieldType.boolean))) [.ref x, .int (nI i)] hp sz (.int (nI (decide (i < c)).toNat)) := by
  refine zv_E.intro (lv0 := [some (.ref x), some (.int (nI i))]) rfl (Nat.le_of_ble_eq_true rfl) rfl ?_
  intro Γ hl F
  clear hl
  refine zv_iload_n F d_LA_isListed_0 rfl ?_
  refine zn_if_lt (tgt := 16) F d_LA_isListed_1 rfl (by omega) (fun h1 => ?_) (fun h1 => ?_)
  · refine zn_iconst (x := 0) F d_LA_isListed_16 (by decide) ?_
    exact zv_zret F d_LA_isListed_17 (Nat.le_of_ble_eq_true rfl) (Nat.le_of_ble_eq_true rfl) (by first | rfl | exact zn_nb _) (by first | exact ⟨zn_bt (decide_eq_true (by omega)), rfl, rfl⟩ | exact ⟨zn_bf (decide_eq_false (by omega)), rfl, rfl⟩)
  · refine zv_iload_n F d_LA_isListed_4 rfl ?_
    refine zv_aload_n F d_LA_isListed_5 rfl ?_
    refine zv_get F d_LA_isListed_6 (by assumption) k_LA 1 (Nat.le_of_ble_eq_true rfl) ln_LA_61 rfl (by rfl) ?_
    refine zn_icmp_ge (tgt := 16) F d_LA_isListed_9 rfl (by omega) (by omega) (fun h9 => ?_) (fun h9 => ?_)
    · refine zn_iconst (x := 0) F d_LA_isListed_16 (by decide) ?_
      exact zv_zret F d_LA_isListed_17 (Nat.le_of_ble_eq_true rfl) (Nat.le_of_ble_eq_true rfl) (by first | rfl | exact zn_nb _) (by first | exact ⟨zn_bt (decide_eq_true (by omega)), rfl, rfl⟩ | exact ⟨zn_bf (decide_eq_false (by omega)), rfl, rfl⟩)
    · refine zn_iconst (x := 1) F d_LA_isListed_12 (by decide) ?_
      refine zv_goto (tgt := 17) F d_LA_isListed_13 rfl ?_
      exact zv_zret F d_LA_isListed_17 (Nat.le_of_ble_eq_true rfl) (Nat.le_of_ble_eq_true rfl) (by first | rfl | exact zn_nb _) (by first | exact ⟨zn_bt (decide_eq_true (by omega)), rfl, rfl⟩ | exact ⟨zn_bf (decide_eq_false (by omega)), rfl, rfl⟩)
theorem LA_isRelation_ok {l : Launch} {Δ : zv_D} {hp : zv_M} {sz : Nat} {w : Nat} (hw : w < 4294967296) : zv_P l Δ 0 y_LA_isRelation b_LA_isRelation 1 ((some (FieldType.boolean))) [.int (nI w)] hp sz (.int (nI (decide (w < 4)).toNat)) := by
  refine zv_E.intro (lv0 := [some (.int (nI w))]) rfl (Nat.le_of_ble_eq_true rfl) rfl ?_
  intro Γ hl F
  clear hl
  refine zv_iload_n F d_LA_isRelation_0 rfl ?_
  refine zn_if_lt (tgt := 13) F d_LA_isRelation_1 rfl (by omega) (fun h1 => ?_) (fun h1 => ?_)
  · refine zn_iconst (x := 0) F d_LA_isRelation_13 (by decide) ?_
    exact zv_zret F d_LA_isRelation_14 (Nat.le_of_ble_eq_true rfl) (Nat.le_of_ble_eq_true rfl) (by first | rfl | exact zn_nb _) (by first | exact ⟨zn_bt (decide_eq_true (by omega)), rfl, rfl⟩ | exact ⟨zn_bf (decide_eq_false (by omega)), rfl, rfl⟩)
  · refine zv_iload_n F d_LA_isRelation_4 rfl ?_
    refine zn_iconst (x := 4) F d_LA_isRelation_5 (by decide) ?_
    refine zn_icmp_ge (tgt := 13) F d_LA_isRelation_6 rfl (by omega) (by omega) (fun h6 => ?_) (fun h6 => ?_)
    · refine zn_iconst (x := 0) F d_LA_isRelation_13 (by decide) ?_
      exact zv_zret F d_LA_isRelation_14 (Nat.le_of_ble_eq_true rfl) (Nat.le_of_ble_eq_true rfl) (by first | rfl | exact zn_nb _) (by first | exact ⟨zn_bt (decide_eq_true (by omega)), rfl, rfl⟩ | exact ⟨zn_bf (decide_eq_false (by omega)), rfl, rfl⟩)
    · refine zn_iconst (x := 1) F d_LA_isRelation_9 (by decide) ?_
      refine zv_goto (tgt := 14) F d_LA_isRelation_10 rfl ?_
      exact zv_zret F d_LA_isRelation_14 (Nat.le_of_ble_eq_true rfl) (Nat.le_of_ble_eq_true rfl) (by first | rfl | exact zn_nb _) (by first | exact ⟨zn_bt (decide_eq_true (by omega)), rfl, rfl⟩ | exact ⟨zn_bf (decide_eq_false (by omega)), rfl, rfl⟩)
def la_add (Δ : zv_D) (hp hp1 : zv_M) (x c : Nat) (n acc : Nat → Nat) (g : Nat → Nat → Nat) (e : Nat) (wd pr rs ls bs : Nat → Nat) (L : List Bool → Prop) (v : Nat) : Prop :=
  (c = 12 ∧ v = 4294967294 ∧ la_at Δ hp1 x c n acc g e wd pr rs ls bs) ∨ (c < 12 ∧ le_big L 7 ∧ v = 4294967293 ∧ la_at Δ hp1 x c n acc g e wd pr rs ls bs) ∨
  (c < 12 ∧ v = c ∧ ∃ (n1 a1 : Nat) (g1 : Nat → Nat), la_at Δ hp1 x (c + 1) (va_up n c n1) (va_up acc c a1) (va_up g c g1) e wd pr rs ls bs ∧ a1 = re_ab (pm_tb a1) n1 ∧ le_A L n1 g1 (pm_tb a1))
theorem LA_add_ok {l : Launch} {Δ : zv_D} {hp : zv_M} {sz : Nat} {x b c e s0 : Nat} {S : Nat → Prop} {δ : Nat → Nat → Nat} {ac : Nat → Bool} {Bd : Nat → Prop} {n acc : Nat → Nat} {g : Nat → Nat → Nat} {wd pr rs ls bs : Nat → Nat} (hL : la_at Δ hp x c n acc g e wd pr rs ls bs) (hc : c ≤ 12) (hM : mc_M Δ hp b S δ ac s0 Bd) (hS : ∀ q, S q → (x + 19 ≤ q ∧ q < x + 19 + 2 * c) ∨ x + 43 ≤ q) : zv_E l Δ 5 y_LA_add b_LA_add 2 ((some (FieldType.int))) [.ref x, .ref b] hp sz 0 0 (fun r hp1 sz1 => ∃ v : Nat, r = some (.int (nI v)) ∧ sz1 = sz ∧ (∀ q, q < x ∨ x + 43 ≤ q → hp1 q = hp q) ∧ la_add Δ hp hp1 x c n acc g e wd pr rs ls bs (mc_L δ ac s0) v) := by
  refine zv_E.intro (lv0 := [some (.ref x), some (.ref b)]) rfl (Nat.le_of_ble_eq_true rfl) rfl ?_
  intro Γ hl F
  clear hl
  have hL0 := hL
  obtain ⟨f0, ⟨fa, f1, hfa⟩, hR, hA, hau⟩ := hL
  have hR0 := hR
  obtain ⟨N, pA, pB, nc, cd, tg, P, P2, fo, hpp, fR, -⟩ := hR0
  refine zv_aload_n F d_LA_add_0 rfl ?_
  refine zv_get F d_LA_add_1 (by assumption) k_LA 1 (Nat.le_of_ble_eq_true rfl) ln_LA_61 rfl (by rfl) ?_
  refine zn_bipush (x := 12) F d_LA_add_4 (by decide) ?_
  refine zn_icmp_lt (tgt := 12) F d_LA_add_6 rfl (by omega) (by omega) (fun h6 => ?_) (fun h6 => ?_)
  · refine zv_aload_n F d_LA_add_12 rfl ?_
    refine zv_get F d_LA_add_13 (by assumption) k_LA 2 (Nat.le_of_ble_eq_true rfl) ln_LA_18 rfl (by rfl) ?_
    refine zv_aload_n F d_LA_add_16 rfl ?_
    refine zv_aload_n F d_LA_add_17 rfl ?_
    refine zv_get F d_LA_add_18 (by assumption) k_LA 0 (Nat.le_of_ble_eq_true rfl) ln_LA_11 rfl (by rfl) ?_
    refine zv_aload_n F d_LA_add_21 rfl ?_
    refine zv_get F d_LA_add_22 (by assumption) k_LA 1 (Nat.le_of_ble_eq_true rfl) ln_LA_61 rfl (by rfl) ?_
    refine zv_aald (t0 := 3) F d_LA_add_25 (by assumption) rfl (vp_in_nI (by omega) (by omega)) (by rw [nI_clamp (by omega)]; exact hfa _ (by omega)) ?_
    refine zv_mV2 F rfl (by assumption) k_Re.1 d_LA_add_26 (Re_reduce_ok hR (hau c h6).1.1 (hau c h6).1.2 (hau c h6).2.2.2 (by omega) hM (fun q hq => by have := hS q hq; omega) (fun q hq => by have := hS q hq; omega)) Y_Re_reduce Yi_Re_reduce Yv_Re_reduce ln_LA_116 ⟨(Nat.le_of_ble_eq_true rfl), (Nat.le_of_ble_eq_true rfl)⟩ (Nat.le_of_ble_eq_true rfl) ⟨(Nat.le_of_ble_eq_true rfl), (Nat.le_of_ble_eq_true rfl)⟩ (fun r hp26 sz26 q26 => ?_)
    obtain ⟨bb, rfl, rfl, hR2, fr, hF, hT⟩ := q26
    have f0' := (fr x (by omega)).trans f0
    have f1' := (fr (x + 1) (by omega)).trans f1
    have hA2 := hA.moved (fun q q1 q2 => fr q (by omega))
    try simp only [Option.toList, List.cons_append, List.nil_append]
    first | refine zn_bif_ne (tgt := 35) F d_LA_add_29 rfl (fun h29 => ?_) (fun h29 => ?_) | refine zn_if_ne (tgt := 35) F d_LA_add_29 rfl (by omega) (fun h29 => ?_) (fun h29 => ?_)
    · refine zv_aload_n F d_LA_add_35 rfl ?_
      refine zv_dup F d_LA_add_36 rfl ?_
      refine zv_get F d_LA_add_37 (by assumption) k_LA 1 (Nat.le_of_ble_eq_true rfl) ln_LA_61 rfl (by rfl) ?_
      refine zn_iconst (x := 1) F d_LA_add_40 (by decide) ?_
      refine zn_iadd F d_LA_add_41 ?_
      refine zv_put F d_LA_add_42 f0' k_LA 1 (Nat.le_of_ble_eq_true rfl) ln_LA_61 rfl rfl rfl (by rfl) (by rfl) (Nat.le_of_ble_eq_true rfl) (fun hp42 e42 => ?_)
      have f0'' : hp42 x = some (la_obj x (c + 1)) := zv_eq e42
      refine zv_aload_n F d_LA_add_45 rfl ?_
      refine zv_get F d_LA_add_46 (by assumption) k_LA 1 (Nat.le_of_ble_eq_true rfl) ln_LA_61 rfl (by rfl) ?_
      refine zn_iconst (x := 1) F d_LA_add_49 (by decide) ?_
      refine zn_isub F d_LA_add_50 (by omega) ?_
      exact zv_iret F d_LA_add_51 (Nat.le_of_ble_eq_true rfl) (Nat.le_of_ble_eq_true rfl) (by
        obtain ⟨n1, a1, g1, u1, u2, u3, u4⟩ := hT h29
        have mv : ∀ q, q ≠ x → hp42 q = hp26 q := fun q hq => zv_ne e42 hq
        refine ⟨c, rfl, rfl, fun q hq => (mv q (by omega)).trans (fr q (by omega)), Or.inr (Or.inr ⟨h6, rfl, n1, a1, g1, ⟨f0'', ⟨fa, (mv _ (by omega)).trans f1', hfa⟩, hR2.moved (fun q q1 q2 => mv q (by omega)), hA2.moved (fun q q1 q2 => mv q (by omega)), fun i hi => ?_⟩, u3, u4⟩)⟩
        by_cases ei : i = c
        · subst ei
          simp only [va_up, if_true]
          exact ⟨u1.moved (mv _ (by omega)) (mv _ (by omega)), u2⟩
        · simp only [va_up, ei, if_false]
          exact ⟨(hau i hi).1.moved ((mv _ (by omega)).trans (fr _ (by omega))) ((mv _ (by omega)).trans (fr _ (by omega))), (hau i hi).2⟩)
    · refine zn_bipush (x := 4294967293) F d_LA_add_32 (by decide) ?_
      exact zv_iret F d_LA_add_34 (Nat.le_of_ble_eq_true rfl) (Nat.le_of_ble_eq_true rfl) (by
        obtain ⟨hb, e1, e2⟩ := hF h29
        refine ⟨4294967293, rfl, rfl, fun q hq => fr q (by omega), Or.inr (Or.inl ⟨h6, hb, rfl, f0', ⟨fa, f1', hfa⟩, hR2, hA2, fun i hi => ⟨?_, (hau i hi).2⟩⟩)⟩
        by_cases ei : i = c
        · subst ei; exact (hau i hi).1.moved e1 e2
        · exact (hau i hi).1.moved (fr _ (by omega)) (fr _ (by omega)))
  · refine zn_bipush (x := 4294967294) F d_LA_add_9 (by decide) ?_
    exact zv_iret F d_LA_add_11 (Nat.le_of_ble_eq_true rfl) (Nat.le_of_ble_eq_true rfl) ⟨4294967294, rfl, rfl, fun q _ => rfl, Or.inl ⟨by omega, rfl, hL0⟩⟩

