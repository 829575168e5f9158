def re_pp (o pA pB : Nat) : Prop := (pA = o + 4 ∧ pB = o + 5) ∨ (pA = o + 5 ∧ pB = o + 4)
theorem Re_partByAcceptance_ok {l : Launch} {Δ : zv_D} {hp : zv_M} {sz : Nat} {o b N pA pB s0 : Nat} {S : Nat → Prop} {δ : Nat → Nat → Nat} {ac : Nat → Bool} {Bd : Nat → Prop} {cd P : Nat → Nat} (hpp : re_pp o pA pB) (f0 : hp o = some (re_obj o N pA pB)) (f2 : hp (o + 2) = some (zn_I Δ 384 cd)) (f4 : hp pA = some (zn_I Δ 384 P)) (hN : N ≤ 384) (hB : ∀ s, s < N → Bd (cd s)) (hM : mc_M Δ hp b S δ ac s0 Bd) (hS : ∀ q, S q → q < o ∨ o + 7 ≤ q) : zv_E l Δ 3 y_Re_partByAcceptance b_Re_partByAcceptance 3 (none) [.ref o, .ref b] hp sz 0 0 (fun r hp1 sz1 => ∃ P1 : Nat → Nat, r = none ∧ sz1 = sz ∧ hp1 pA = some (zn_I Δ 384 P1) ∧ (∀ s, s < N → P1 s = (ac (cd s)).toNat) ∧ ∀ b, b ≠ pA → hp1 b = hp b) := by
  refine zv_E.intro (lv0 := [some (.ref o), some (.ref b), none]) rfl (Nat.le_of_ble_eq_true rfl) rfl ?_
  intro Γ hl F
  clear hl
  unfold re_pp at hpp
  have loop : ∀ (m s : Nat) (h' : zv_M) (P : Nat → Nat), m = N - s → s ≤ N → h' pA = some (zn_I Δ 384 P) → (∀ i, i < s → P i = (ac (cd i)).toNat) → (∀ b, b ≠ pA → h' b = hp b) → zv_V Δ Γ (zv_QQ Δ Γ 0 0 (fun r hp1 sz1 => ∃ P1 : Nat → Nat, r = none ∧ sz1 = sz ∧ hp1 pA = some (zn_I Δ 384 P1) ∧ (∀ s, s < N → P1 s = (ac (cd s)).toNat) ∧ ∀ b, b ≠ pA → hp1 b = hp b)) 2 [some (.ref o), some (.ref b), some (.int (nI s))] [] h' sz 0 0 := by
    intro m
    induction m using Nat.strongRecOn with
    | ind m ih =>
      intro s h' P hm hs f4 hP fr
      have f0 := (fr o (by omega)).trans f0
      have f2 := (fr (o + 2) (by omega)).trans f2
      refine zv_iload_n F d_Re_partByAcceptance_2 rfl ?_
      refine zv_aload_n F d_Re_partByAcceptance_3 rfl ?_
      refine zv_get F d_Re_partByAcceptance_4 (by assumption) k_Re 3 (Nat.le_of_ble_eq_true rfl) ln_Re_51 rfl (by rfl) ?_
      refine zn_icmp_ge (tgt := 42) F d_Re_partByAcceptance_7 rfl (by omega) (by omega) (fun h7 => ?_) (fun h7 => ?_)
      · exact zv_vret F d_Re_partByAcceptance_42 (Nat.le_of_ble_eq_true rfl) (Nat.le_of_ble_eq_true rfl) ⟨P, rfl, rfl, f4, fun i hi => hP i (by omega), fr⟩
      · refine zv_aload_n F d_Re_partByAcceptance_10 rfl ?_
        refine zv_get F d_Re_partByAcceptance_11 (by assumption) k_Re 4 (Nat.le_of_ble_eq_true rfl) ln_Re_21 rfl (by rfl) ?_
        refine zv_iload_n F d_Re_partByAcceptance_14 rfl ?_
        refine zv_aload_n F d_Re_partByAcceptance_15 rfl ?_
        refine zv_aload_n F d_Re_partByAcceptance_16 rfl ?_
        refine zv_get F d_Re_partByAcceptance_17 (by assumption) k_Re 1 (Nat.le_of_ble_eq_true rfl) ln_Re_15 rfl (by rfl) ?_
        refine zv_iload_n F d_Re_partByAcceptance_20 rfl ?_
        refine zn_iald F d_Re_partByAcceptance_21 (by assumption) (by omega) (by omega) ?_
        refine zv_callM F rfl d_Re_partByAcceptance_22 ((hM.2 _ h' _ (fun q hq => fr q (by have := hS q hq; omega))).2.2 (cd s) (hB s (by omega))) ln_Re_68 (by decide) rfl rfl ⟨(Nat.le_of_ble_eq_true rfl), (Nat.le_of_ble_eq_true rfl)⟩ (Nat.le_of_ble_eq_true rfl) ⟨(Nat.le_of_ble_eq_true rfl), (Nat.le_of_ble_eq_true rfl)⟩ ?_
        first | refine zn_bif_eq (tgt := 34) F d_Re_partByAcceptance_27 rfl (fun h27 => ?_) (fun h27 => ?_) | refine zn_if_eq (tgt := 34) F d_Re_partByAcceptance_27 rfl (by omega) (fun h27 => ?_) (fun h27 => ?_)
        · refine zn_iconst (x := 0) F d_Re_partByAcceptance_34 (by decide) ?_
          refine zn_iast F d_Re_partByAcceptance_35 (by assumption) (by omega) (by omega) (fun hp35 e35 => ?_)
          replace f4 := zv_eq e35
          replace fr := fun b hb => (zv_ne (b := b) e35 (by omega)).trans (fr b hb)
          refine zn_iinc F d_Re_partByAcceptance_36 rfl ?_
          simp only [zv_s1, zv_s2, zv_kill, List.set_cons_zero, List.set_cons_succ, List.getElem?_cons_zero, List.getElem?_cons_succ]
          refine zv_goto (tgt := 2) F d_Re_partByAcceptance_39 rfl ?_
          exact zv_weak (by repeat' (first | exact True.intro | refine And.intro rfl ?_)) (ih (N - (s + 1)) (by omega) (s + 1) _ _ rfl (by omega) f4 (fun i hi => by by_cases e : i = s; simp only [va_up, e, if_true]; rw [h27]; rfl; simp only [va_up, e, if_false]; exact hP i (by omega)) fr)
        · refine zn_iconst (x := 1) F d_Re_partByAcceptance_30 (by decide) ?_
          refine zv_goto (tgt := 35) F d_Re_partByAcceptance_31 rfl ?_
          refine zn_iast F d_Re_partByAcceptance_35 (by assumption) (by omega) (by omega) (fun hp35 e35 => ?_)
          replace f4 := zv_eq e35
          replace fr := fun b hb => (zv_ne (b := b) e35 (by omega)).trans (fr b hb)
          refine zn_iinc F d_Re_partByAcceptance_36 rfl ?_
          simp only [zv_s1, zv_s2, zv_kill, List.set_cons_zero, List.set_cons_succ, List.getElem?_cons_zero, List.getElem?_cons_succ]
          refine zv_goto (tgt := 2) F d_Re_partByAcceptance_39 rfl ?_
          exact zv_weak (by repeat' (first | exact True.intro | refine And.intro rfl ?_)) (ih (N - (s + 1)) (by omega) (s + 1) _ _ rfl (by omega) f4 (fun i hi => by by_cases e : i = s; simp only [va_up, e, if_true]; rw [h27]; rfl; simp only [va_up, e, if_false]; exact hP i (by omega)) fr)
  refine zn_iconst (x := 0) F d_Re_partByAcceptance_0 (by decide) ?_
  refine zv_istore_n F d_Re_partByAcceptance_1 (Nat.le_of_ble_eq_true rfl) ?_
  simp only [zv_s1, zv_s2, zv_kill, List.set_cons_zero, List.set_cons_succ, List.getElem?_cons_zero, List.getElem?_cons_succ]
  exact zv_weak (by repeat' (first | exact True.intro | refine And.intro rfl ?_)) (loop _ 0 _ P rfl (Nat.zero_le _) f4 (fun i hi => by omega) (fun b _ => rfl))
theorem Re_goAlike_ok {l : Launch} {Δ : zv_D} {hp : zv_M} {sz : Nat} {o N pA pB s t : Nat} {tg P : Nat → Nat} (f0 : hp o = some (re_obj o N pA pB)) (f3 : hp (o + 3) = some (zn_I Δ 768 tg)) (f4 : hp pA = some (zn_I Δ 384 P)) (hN : N ≤ 384) (htg : ∀ j, j < 2 * N → tg j < N) (hPb : ∀ s, s < N → P s < 4294967296) (hs : s < N) (ht : t < N) : zv_P l Δ 0 y_Re_goAlike b_Re_goAlike 3 ((some (FieldType.boolean))) [.ref o, .int (nI s), .int (nI t)] hp sz (.int (nI (decide (P s = P t ∧ P (tg (2 * s)) = P (tg (2 * t)) ∧ P (tg (2 * s + 1)) = P (tg (2 * t + 1)))).toNat)) := by
  refine zv_E.intro (lv0 := [some (.ref o), some (.int (nI s)), some (.int (nI t))]) rfl (Nat.le_of_ble_eq_true rfl) rfl ?_
  intro Γ hl F
  clear hl
  have a1 := htg (2 * s) (by omega)
  have a2 := htg (2 * t) (by omega)
  have a3 := htg (2 * s + 1) (by omega)
  have a4 := htg (2 * t + 1) (by omega)
  have b1 := hPb s hs
  have b2 := hPb t ht
  have b3 := hPb _ a1
  have b4 := hPb _ a2
  have b5 := hPb _ a3
  have b6 := hPb _ a4
  refine zv_aload_n F d_Re_goAlike_0 rfl ?_
  refine zv_get F d_Re_goAlike_1 (by assumption) k_Re 4 (Nat.le_of_ble_eq_true rfl) ln_Re_21 rfl (by rfl) ?_
  refine zv_iload_n F d_Re_goAlike_4 rfl ?_
  refine zn_iald F d_Re_goAlike_5 (by assumption) (by omega) (by omega) ?_
  refine zv_aload_n F d_Re_goAlike_6 rfl ?_
  refine zv_get F d_Re_goAlike_7 (by assumption) k_Re 4 (Nat.le_of_ble_eq_true rfl) ln_Re_21 rfl (by rfl) ?_
  refine zv_iload_n F d_Re_goAlike_10 rfl ?_
  refine zn_iald F d_Re_goAlike_11 (by assumption) (by omega) (by omega) ?_
  refine zn_icmp_ne (tgt := 81) F d_Re_goAlike_12 rfl (by omega) (by omega) (fun h12 => ?_) (fun h12 => ?_)
  · refine zn_iconst (x := 0) F d_Re_goAlike_81 (by decide) ?_
    exact zv_zret F d_Re_goAlike_82 (Nat.le_of_ble_eq_true rfl) (Nat.le_of_ble_eq_true rfl) (by first | rfl | exact zn_nb _) (by first | exact ⟨zn_bt (decide_eq_true (by omega)), rfl, rfl⟩ | exact ⟨zn_bf (decide_eq_false (by omega)), rfl, rfl⟩)
  · refine zv_aload_n F d_Re_goAlike_15 rfl ?_
    refine zv_get F d_Re_goAlike_16 (by assumption) k_Re 4 (Nat.le_of_ble_eq_true rfl) ln_Re_21 rfl (by rfl) ?_
    refine zv_aload_n F d_Re_goAlike_19 rfl ?_
    refine zv_get F d_Re_goAlike_20 (by assumption) k_Re 2 (Nat.le_of_ble_eq_true rfl) ln_Re_18 rfl (by rfl) ?_
    refine zn_iconst (x := 2) F d_Re_goAlike_23 (by decide) ?_
    refine zv_iload_n F d_Re_goAlike_24 rfl ?_
    refine zn_imul F d_Re_goAlike_25 ?_
    refine zn_iald F d_Re_goAlike_26 (by assumption) (by omega) (by omega) ?_
    refine zn_iald F d_Re_goAlike_27 (by assumption) (by omega) (by omega) ?_
    refine zv_aload_n F d_Re_goAlike_28 rfl ?_
    refine zv_get F d_Re_goAlike_29 (by assumption) k_Re 4 (Nat.le_of_ble_eq_true rfl) ln_Re_21 rfl (by rfl) ?_
    refine zv_aload_n F d_Re_goAlike_32 rfl ?_
    refine zv_get F d_Re_goAlike_33 (by assumption) k_Re 2 (Nat.le_of_ble_eq_true rfl) ln_Re_18 rfl (by rfl) ?_
    refine zn_iconst (x := 2) F d_Re_goAlike_36 (by decide) ?_
    refine zv_iload_n F d_Re_goAlike_37 rfl ?_
    refine zn_imul F d_Re_goAlike_38 ?_
    refine zn_iald F d_Re_goAlike_39 (by assumption) (by omega) (by omega) ?_
    refine zn_iald F d_Re_goAlike_40 (by assumption) (by omega) (by omega) ?_
    refine zn_icmp_ne (tgt := 81) F d_Re_goAlike_41 rfl (by omega) (by omega) (fun h41 => ?_) (fun h41 => ?_)
    · refine zn_iconst (x := 0) F d_Re_goAlike_81 (by decide) ?_
      exact zv_zret F d_Re_goAlike_82 (Nat.le_of_ble_eq_true rfl) (Nat.le_of_ble_eq_true rfl) (by first | rfl | exact zn_nb _) (by first | exact ⟨zn_bt (decide_eq_true (by omega)), rfl, rfl⟩ | exact ⟨zn_bf (decide_eq_false (by omega)), rfl, rfl⟩)
    · refine zv_aload_n F d_Re_goAlike_44 rfl ?_
      refine zv_get F d_Re_goAlike_45 (by assumption) k_Re 4 (Nat.le_of_ble_eq_true rfl) ln_Re_21 rfl (by rfl) ?_
      refine zv_aload_n F d_Re_goAlike_48 rfl ?_
      refine zv_get F d_Re_goAlike_49 (by assumption) k_Re 2 (Nat.le_of_ble_eq_true rfl) ln_Re_18 rfl (by rfl) ?_
      refine zn_iconst (x := 2) F d_Re_goAlike_52 (by decide) ?_
      refine zv_iload_n F d_Re_goAlike_53 rfl ?_
      refine zn_imul F d_Re_goAlike_54 ?_
      refine zn_iconst (x := 1) F d_Re_goAlike_55 (by decide) ?_
      refine zn_iadd F d_Re_goAlike_56 ?_
      refine zn_iald F d_Re_goAlike_57 (by assumption) (by omega) (by omega) ?_
      refine zn_iald F d_Re_goAlike_58 (by assumption) (by omega) (by omega) ?_
      refine zv_aload_n F d_Re_goAlike_59 rfl ?_
      refine zv_get F d_Re_goAlike_60 (by assumption) k_Re 4 (Nat.le_of_ble_eq_true rfl) ln_Re_21 rfl (by rfl) ?_
      refine zv_aload_n F d_Re_goAlike_63 rfl ?_
      refine zv_get F d_Re_goAlike_64 (by assumption) k_Re 2 (Nat.le_of_ble_eq_true rfl) ln_Re_18 rfl (by rfl) ?_
      refine zn_iconst (x := 2) F d_Re_goAlike_67 (by decide) ?_
      refine zv_iload_n F d_Re_goAlike_68 rfl ?_
      refine zn_imul F d_Re_goAlike_69 ?_
      refine zn_iconst (x := 1) F d_Re_goAlike_70 (by decide) ?_
      refine zn_iadd F d_Re_goAlike_71 ?_
      refine zn_iald F d_Re_goAlike_72 (by assumption) (by omega) (by omega) ?_
      refine zn_iald F d_Re_goAlike_73 (by assumption) (by omega) (by omega) ?_
      refine zn_icmp_ne (tgt := 81) F d_Re_goAlike_74 rfl (by omega) (by omega) (fun h74 => ?_) (fun h74 => ?_)
      · refine zn_iconst (x := 0) F d_Re_goAlike_81 (by decide) ?_
        exact zv_zret F d_Re_goAlike_82 (Nat.le_of_ble_eq_true rfl) (Nat.le_of_ble_eq_true rfl) (by first | rfl | exact zn_nb _) (by first | exact ⟨zn_bt (decide_eq_true (by omega)), rfl, rfl⟩ | exact ⟨zn_bf (decide_eq_false (by omega)), rfl, rfl⟩)
      · refine zn_iconst (x := 1) F d_Re_goAlike_77 (by decide) ?_
        refine zv_goto (tgt := 82) F d_Re_goAlike_78 rfl ?_
        exact zv_zret F d_Re_goAlike_82 (Nat.le_of_ble_eq_true rfl) (Nat.le_of_ble_eq_true rfl) (by first | rfl | exact zn_nb _) (by first | exact ⟨zn_bt (decide_eq_true (by omega)), rfl, rfl⟩ | exact ⟨zn_bf (decide_eq_false (by omega)), rfl, rfl⟩)
def re_al (tg P fo : Nat → Nat) (s p : Nat) : Bool := decide (P s = P (fo p) ∧ P (tg (2 * s)) = P (tg (2 * fo p)) ∧ P (tg (2 * s + 1)) = P (tg (2 * fo p + 1)))
theorem re_al_iff {tg P fo : Nat → Nat} {s p : Nat} : re_al tg P fo s p = true ↔ mo_al tg P s (fo p) := decide_eq_true_iff
theorem Re_partLike_ok {l : Launch} {Δ : zv_D} {hp : zv_M} {sz : Nat} {o N pA pB s c : Nat} {tg P fo : Nat → Nat} (f0 : hp o = some (re_obj o N pA pB)) (f3 : hp (o + 3) = some (zn_I Δ 768 tg)) (f4 : hp pA = some (zn_I Δ 384 P)) (f6 : hp (o + 6) = some (zn_I Δ 6 fo)) (hN : N ≤ 384) (htg : ∀ j, j < 2 * N → tg j < N) (hPb : ∀ s, s < N → P s < 4294967296) (hs : s < N) (hc : c ≤ 6) (hfo : ∀ p, p < c → fo p < N) : zv_P l Δ 1 y_Re_partLike b_Re_partLike 4 ((some (FieldType.int))) [.ref o, .int (nI s), .int (nI c)] hp sz (.int (nI (zf_ff (re_al tg P fo s) 0 c))) := by
  refine zv_E.intro (lv0 := [some (.ref o), some (.int (nI s)), some (.int (nI c)), none]) rfl (Nat.le_of_ble_eq_true rfl) rfl ?_
  intro Γ hl F
  clear hl
  have loop : ∀ (m q : Nat), m = c - q → q ≤ c → zf_ff (re_al tg P fo s) 0 c = zf_ff (re_al tg P fo s) q (c - q) → zv_V Δ Γ (zv_QQ Δ Γ 0 0 (fun r hp1 sz1 => r = some (.int (nI (zf_ff (re_al tg P fo s) 0 c))) ∧ hp1 = hp ∧ sz1 = sz)) 2 [some (.ref o), some (.int (nI s)), some (.int (nI c)), some (.int (nI q))] [] hp sz 0 0 := by
    intro m
    induction m using Nat.strongRecOn with
    | ind m ih =>
      intro q hm hq he
      refine zv_iload_n F d_Re_partLike_2 rfl ?_
      refine zv_iload_n F d_Re_partLike_3 rfl ?_
      refine zn_icmp_ge (tgt := 29) F d_Re_partLike_4 rfl (by omega) (by omega) (fun h4 => ?_) (fun h4 => ?_)
      · refine zv_iload_n F d_Re_partLike_29 rfl ?_
        exact zv_iret F d_Re_partLike_30 (Nat.le_of_ble_eq_true rfl) (Nat.le_of_ble_eq_true rfl) ⟨zn_rt (by rw [he, show c - q = 0 by omega]; simp only [zf_ff]; omega), rfl, rfl⟩
      · have hfq := hfo q h4
        refine zv_aload_n F d_Re_partLike_7 rfl ?_
        refine zv_iload_n F d_Re_partLike_8 rfl ?_
        refine zv_aload_n F d_Re_partLike_9 rfl ?_
        refine zv_get F d_Re_partLike_10 (by assumption) k_Re 6 (Nat.le_of_ble_eq_true rfl) ln_Re_27 rfl (by rfl) ?_
        refine zv_iload_n F d_Re_partLike_13 rfl ?_
        refine zn_iald F d_Re_partLike_14 (by assumption) (by omega) (by omega) ?_
        refine zv_pV2 F rfl (by assumption) k_Re.1 d_Re_partLike_15 (Re_goAlike_ok f0 f3 f4 hN htg hPb hs hfq) Y_Re_goAlike Yi_Re_goAlike Yv_Re_goAlike ln_Re_78 ⟨(Nat.le_of_ble_eq_true rfl), (Nat.le_of_ble_eq_true rfl)⟩ (Nat.le_of_ble_eq_true rfl) ⟨(Nat.le_of_ble_eq_true rfl), (Nat.le_of_ble_eq_true rfl)⟩ ?_
        first | refine zn_bif_eq (tgt := 23) F d_Re_partLike_18 rfl (fun h18 => ?_) (fun h18 => ?_) | refine zn_if_eq (tgt := 23) F d_Re_partLike_18 rfl (by omega) (fun h18 => ?_) (fun h18 => ?_)
        · refine zn_iinc F d_Re_partLike_23 rfl ?_
          simp only [zv_s1, zv_s2, zv_kill, List.set_cons_zero, List.set_cons_succ, List.getElem?_cons_zero, List.getElem?_cons_succ]
          refine zv_goto (tgt := 2) F d_Re_partLike_26 rfl ?_
          exact zv_weak (by repeat' (first | exact True.intro | refine And.intro rfl ?_)) (ih (c - (q + 1)) (by omega) (q + 1) rfl (by omega) (by rw [he, zf_miss h18 (by omega)]; rfl))
        · refine zv_iload_n F d_Re_partLike_21 rfl ?_
          exact zv_iret F d_Re_partLike_22 (Nat.le_of_ble_eq_true rfl) (Nat.le_of_ble_eq_true rfl) ⟨zn_rt (by rw [he, zf_hit h18 (by omega)]), rfl, rfl⟩
  refine zn_iconst (x := 0) F d_Re_partLike_0 (by decide) ?_
  refine zv_istore_n F d_Re_partLike_1 (Nat.le_of_ble_eq_true rfl) ?_
  simp only [zv_s1, zv_s2, zv_kill, List.set_cons_zero, List.set_cons_succ, List.getElem?_cons_zero, List.getElem?_cons_succ]
  exact zv_weak (by repeat' (first | exact True.intro | refine And.intro rfl ?_)) (loop _ 0 rfl (Nat.zero_le _) (by rw [Nat.sub_zero]))
def re_sp (Δ : zv_D) (hp hp1 : zv_M) (o N pA pB : Nat) (tg P : Nat → Nat) (v : Nat) : Prop :=
  ∃ (P3 fo1 : Nat → Nat), hp1 (o + 6) = some (zn_I Δ 6 fo1) ∧ hp1 pB = some (zn_I Δ 384 P3) ∧ (∀ b, b ≠ o ∧ b ≠ pB ∧ b ≠ o + 6 → hp1 b = hp b) ∧
   ((v = 4294967295 ∧ hp1 o = some (re_obj o N pA pB) ∧ ∃ u : Nat → Nat, (∀ i, i < 7 → u i < N) ∧ ∀ i j, i < 7 → j < 7 → mo_al tg P (u i) (u j) → i = j) ∨ (v ≤ 6 ∧ hp1 o = some (re_obj o N pB pA) ∧ mo_sp N tg P v P3 fo1))
theorem Re_split_ok {l : Launch} {Δ : zv_D} {hp : zv_M} {sz : Nat} {o N pA pB : Nat} {tg P P2 fo : Nat → Nat} (hpp : re_pp o pA pB) (f0 : hp o = some (re_obj o N pA pB)) (f3 : hp (o + 3) = some (zn_I Δ 768 tg)) (f4 : hp pA = some (zn_I Δ 384 P)) (f5 : hp pB = some (zn_I Δ 384 P2)) (f6 : hp (o + 6) = some (zn_I Δ 6 fo)) (hN : N ≤ 384) (htg : ∀ j, j < 2 * N → tg j < N) (hPb : ∀ s, s < N → P s < 4294967296) : zv_E l Δ 2 y_Re_split b_Re_split 4 ((some (FieldType.int))) [.ref o] hp sz 0 0 (fun r hp1 sz1 => ∃ v : Nat, r = some (.int (nI v)) ∧ sz1 = sz ∧ re_sp Δ hp hp1 o N pA pB tg P v) := by
  refine zv_E.intro (lv0 := [some (.ref o), none, none, none]) rfl (Nat.le_of_ble_eq_true rfl) rfl ?_
  intro Γ hl F
  clear hl
  unfold re_pp at hpp
  have loop : ∀ (m s c : Nat) (h' : zv_M) (P3 fo1 : Nat → Nat), m = N - s → s ≤ N → c ≤ 6 → h' pB = some (zn_I Δ 384 P3) → h' (o + 6) = some (zn_I Δ 6 fo1) → mo_sp s tg P c P3 fo1 → (∀ b, b ≠ pB ∧ b ≠ o + 6 → h' b = hp b) → zv_V Δ Γ (zv_QQ Δ Γ 0 0 (fun r hp1 sz1 => ∃ v : Nat, r = some (.int (nI v)) ∧ sz1 = sz ∧ re_sp Δ hp hp1 o N pA pB tg P v)) 4 [some (.ref o), some (.int (nI c)), some (.int (nI s)), none] [] h' sz 0 0 := by
    intro m
    induction m using Nat.strongRecOn with
    | ind m ih =>
      intro s c h' P3 fo1 hm hs hc f5 f6 hsp fr
      have f0 := (fr o (by omega)).trans f0
      have f3 := (fr (o + 3) (by omega)).trans f3
      have f4 := (fr pA (by omega)).trans f4
      have fr2 : ∀ b, b ≠ o ∧ b ≠ pB ∧ b ≠ o + 6 → h' b = hp b := fun b hb => fr b ⟨hb.2.1, hb.2.2⟩
      obtain ⟨z1, z2, z3, z4⟩ := zf_spec (re_al tg P fo1 s) c 0
      have hno : ∀ p, p < zf_ff (re_al tg P fo1 s) 0 c → ¬ mo_al tg P s (fo1 p) := fun p hp2 hal => by
        have := z3 p (Nat.zero_le _) hp2
        rw [re_al_iff.mpr hal] at this
        cases this
      have hyes : zf_ff (re_al tg P fo1 s) 0 c < c → mo_al tg P s (fo1 (zf_ff (re_al tg P fo1 s) 0 c)) := fun h => re_al_iff.mp (z4 (by omega))
      generalize hv : zf_ff (re_al tg P fo1 s) 0 c = v at z1 z2 z3 z4 hno hyes
      refine zv_iload_n F d_Re_split_4 rfl ?_
      refine zv_aload_n F d_Re_split_5 rfl ?_
      refine zv_get F d_Re_split_6 (by assumption) k_Re 3 (Nat.le_of_ble_eq_true rfl) ln_Re_51 rfl (by rfl) ?_
      refine zn_icmp_ge (tgt := 55) F d_Re_split_9 rfl (by omega) (by omega) (fun h9 => ?_) (fun h9 => ?_)
      · refine zv_aload_n F d_Re_split_55 rfl ?_
        refine zv_get F d_Re_split_56 (by assumption) k_Re 4 (Nat.le_of_ble_eq_true rfl) ln_Re_21 rfl (by rfl) ?_
        refine zv_astore_n F d_Re_split_59 (Nat.le_of_ble_eq_true rfl) ?_
        simp only [zv_s1, zv_s2, zv_kill, List.set_cons_zero, List.set_cons_succ, List.getElem?_cons_zero, List.getElem?_cons_succ]
        refine zv_aload_n F d_Re_split_60 rfl ?_
        refine zv_aload_n F d_Re_split_61 rfl ?_
        refine zv_get F d_Re_split_62 (by assumption) k_Re 5 (Nat.le_of_ble_eq_true rfl) ln_Re_24 rfl (by rfl) ?_
        refine zv_put F d_Re_split_65 (by assumption) k_Re 4 (Nat.le_of_ble_eq_true rfl) ln_Re_21 rfl rfl rfl (by rfl) (by rfl) (Nat.le_of_ble_eq_true rfl) (fun hp65 e65 => ?_)
        replace f0 := zv_eq e65
        replace f3 := (zv_ne e65 (by omega)).trans f3
        replace f4 := (zv_ne e65 (by omega)).trans f4
        replace f5 := (zv_ne e65 (by omega)).trans f5
        replace f6 := (zv_ne e65 (by omega)).trans f6
        replace fr2 := fun b hb => (zv_ne (b := b) e65 (by omega)).trans (fr2 b hb)
        refine zv_aload_n F d_Re_split_68 rfl ?_
        refine zv_aload_n F d_Re_split_69 rfl ?_
        refine zv_put F d_Re_split_70 (by assumption) k_Re 5 (Nat.le_of_ble_eq_true rfl) ln_Re_24 rfl rfl rfl (by rfl) (by rfl) (Nat.le_of_ble_eq_true rfl) (fun hp70 e70 => ?_)
        replace f0 := zv_eq e70
        replace f3 := (zv_ne e70 (by omega)).trans f3
        replace f4 := (zv_ne e70 (by omega)).trans f4
        replace f5 := (zv_ne e70 (by omega)).trans f5
        replace f6 := (zv_ne e70 (by omega)).trans f6
        replace fr2 := fun b hb => (zv_ne (b := b) e70 (by omega)).trans (fr2 b hb)
        refine zv_iload_n F d_Re_split_73 rfl ?_
        exact zv_iret F d_Re_split_74 (Nat.le_of_ble_eq_true rfl) (Nat.le_of_ble_eq_true rfl) ⟨c, rfl, rfl, P3, fo1, f6, f5, fr2, Or.inr ⟨hc, f0, by have e : s = N := (by omega); rw [e] at hsp; exact hsp⟩⟩
      · refine zv_aload_n F d_Re_split_12 rfl ?_
        refine zv_iload_n F d_Re_split_13 rfl ?_
        refine zv_iload_n F d_Re_split_14 rfl ?_
        have hE := @Re_partLike_ok Γ.2.1 Δ h' sz o N pA pB s c tg P fo1 f0 f3 f4 f6 hN htg hPb (by omega) hc (fun p hp2 => by have := (hsp.1.2.1 p hp2).1; omega)
        rw [hv] at hE
        refine zv_pV2 F rfl (by assumption) k_Re.1 d_Re_split_15 (hE) Y_Re_partLike Yi_Re_partLike Yv_Re_partLike ln_Re_75 ⟨(Nat.le_of_ble_eq_true rfl), (Nat.le_of_ble_eq_true rfl)⟩ (Nat.le_of_ble_eq_true rfl) ⟨(Nat.le_of_ble_eq_true rfl), (Nat.le_of_ble_eq_true rfl)⟩ ?_
        refine zv_istore_n F d_Re_split_18 (Nat.le_of_ble_eq_true rfl) ?_
        simp only [zv_s1, zv_s2, zv_kill, List.set_cons_zero, List.set_cons_succ, List.getElem?_cons_zero, List.getElem?_cons_succ]
        refine zv_iload_n F d_Re_split_19 rfl ?_
        refine zn_bipush (x := 6) F d_Re_split_20 (by decide) ?_
        refine zn_icmp_ne (tgt := 27) F d_Re_split_22 rfl (by omega) (by omega) (fun h22 => ?_) (fun h22 => ?_)
        · refine zv_iload_n F d_Re_split_27 rfl ?_
          refine zv_iload_n F d_Re_split_28 rfl ?_
          refine zn_icmp_ne (tgt := 42) F d_Re_split_29 rfl (by omega) (by omega) (fun h29 => ?_) (fun h29 => ?_)
          · have hvc : v < c := by omega
            refine zv_aload_n F d_Re_split_42 rfl ?_
            refine zv_get F d_Re_split_43 (by assumption) k_Re 5 (Nat.le_of_ble_eq_true rfl) ln_Re_24 rfl (by rfl) ?_
            refine zv_iload_n F d_Re_split_46 rfl ?_
            refine zv_iload_n F d_Re_split_47 rfl ?_
            refine zn_iast F d_Re_split_48 (by assumption) (by omega) (by omega) (fun hp48 e48 => ?_)
            replace f0 := (zv_ne e48 (by omega)).trans f0
            replace f3 := (zv_ne e48 (by omega)).trans f3
            replace f4 := (zv_ne e48 (by omega)).trans f4
            replace f5 := zv_eq e48
            replace f6 := (zv_ne e48 (by omega)).trans f6
            replace fr := fun b hb => (zv_ne (b := b) e48 (by omega)).trans (fr b hb)
            replace fr2 := fun b hb => (zv_ne (b := b) e48 (by omega)).trans (fr2 b hb)
            refine zn_iinc F d_Re_split_49 rfl ?_
            simp only [zv_s1, zv_s2, zv_kill, List.set_cons_zero, List.set_cons_succ, List.getElem?_cons_zero, List.getElem?_cons_succ]
            refine zv_goto (tgt := 4) F d_Re_split_52 rfl ?_
            first | exact zv_weak (by repeat' (first | exact True.intro | refine And.intro rfl ?_)) (ih (N - (s + 1)) (by omega) (s + 1) c _ _ _ rfl (by omega) (by omega) f5 f6 (mo_sp_step hsp hno hyes (fun x hx => by simp only [va_up]; rw [if_neg (by omega)]) (by simp only [va_up, if_true]) (fun p _ => rfl) (fun e => absurd e (by omega)) (Or.inl ⟨hvc, rfl⟩)) fr) | exact zv_weak (by repeat' (first | exact True.intro | refine And.intro rfl ?_)) (ih (N - (s + 1)) (by omega) (s + 1) (c + 1) _ _ _ rfl (by omega) (by omega) f5 f6 (mo_sp_step hsp hno hyes (fun x hx => by simp only [va_up]; rw [if_neg (by omega)]) (by simp only [va_up, if_true]) (fun p hp2 => by simp only [va_up]; rw [if_neg (by omega)]) (fun e => by simp only [va_up, if_true]) (Or.inr ⟨h29, rfl⟩)) fr)
          · refine zv_aload_n F d_Re_split_32 rfl ?_
            refine zv_get F d_Re_split_33 (by assumption) k_Re 6 (Nat.le_of_ble_eq_true rfl) ln_Re_27 rfl (by rfl) ?_
            refine zv_iload_n F d_Re_split_36 rfl ?_
            refine zv_iload_n F d_Re_split_37 rfl ?_
            refine zn_iast F d_Re_split_38 (by assumption) (by omega) (by omega) (fun hp38 e38 => ?_)
            replace f0 := (zv_ne e38 (by omega)).trans f0
            replace f3 := (zv_ne e38 (by omega)).trans f3
            replace f4 := (zv_ne e38 (by omega)).trans f4
            replace f5 := (zv_ne e38 (by omega)).trans f5
            replace f6 := zv_eq e38
            replace fr := fun b hb => (zv_ne (b := b) e38 (by omega)).trans (fr b hb)
            replace fr2 := fun b hb => (zv_ne (b := b) e38 (by omega)).trans (fr2 b hb)
            refine zn_iinc F d_Re_split_39 rfl ?_
            simp only [zv_s1, zv_s2, zv_kill, List.set_cons_zero, List.set_cons_succ, List.getElem?_cons_zero, List.getElem?_cons_succ]
            refine zv_aload_n F d_Re_split_42 rfl ?_
            refine zv_get F d_Re_split_43 (by assumption) k_Re 5 (Nat.le_of_ble_eq_true rfl) ln_Re_24 rfl (by rfl) ?_
            refine zv_iload_n F d_Re_split_46 rfl ?_
            refine zv_iload_n F d_Re_split_47 rfl ?_
            refine zn_iast F d_Re_split_48 (by assumption) (by omega) (by omega) (fun hp48 e48 => ?_)
            replace f0 := (zv_ne e48 (by omega)).trans f0
            replace f3 := (zv_ne e48 (by omega)).trans f3
            replace f4 := (zv_ne e48 (by omega)).trans f4
            replace f5 := zv_eq e48
            replace f6 := (zv_ne e48 (by omega)).trans f6
            replace fr := fun b hb => (zv_ne (b := b) e48 (by omega)).trans (fr b hb)
            replace fr2 := fun b hb => (zv_ne (b := b) e48 (by omega)).trans (fr2 b hb)
            refine zn_iinc F d_Re_split_49 rfl ?_
            simp only [zv_s1, zv_s2, zv_kill, List.set_cons_zero, List.set_cons_succ, List.getElem?_cons_zero, List.getElem?_cons_succ]
            refine zv_goto (tgt := 4) F d_Re_split_52 rfl ?_
            first | exact zv_weak (by repeat' (first | exact True.intro | refine And.intro rfl ?_)) (ih (N - (s + 1)) (by omega) (s + 1) c _ _ _ rfl (by omega) (by omega) f5 f6 (mo_sp_step hsp hno hyes (fun x hx => by simp only [va_up]; rw [if_neg (by omega)]) (by simp only [va_up, if_true]) (fun p _ => rfl) (fun e => absurd e (by omega)) (Or.inl ⟨hvc, rfl⟩)) fr) | exact zv_weak (by repeat' (first | exact True.intro | refine And.intro rfl ?_)) (ih (N - (s + 1)) (by omega) (s + 1) (c + 1) _ _ _ rfl (by omega) (by omega) f5 f6 (mo_sp_step hsp hno hyes (fun x hx => by simp only [va_up]; rw [if_neg (by omega)]) (by simp only [va_up, if_true]) (fun p hp2 => by simp only [va_up]; rw [if_neg (by omega)]) (fun e => by simp only [va_up, if_true]) (Or.inr ⟨h29, rfl⟩)) fr)
        · refine zn_iconst (x := 4294967295) F d_Re_split_25 (by decide) ?_
          exact zv_iret F d_Re_split_26 (Nat.le_of_ble_eq_true rfl) (Nat.le_of_ble_eq_true rfl) ⟨4294967295, rfl, rfl, P3, fo1, f6, f5, fr2, Or.inl ⟨rfl, f0, fun i => if i < 6 then fo1 i else s, fun i hi => by by_cases e : i < 6; simp only [e, if_true]; have := (hsp.1.2.1 i (by omega)).1; omega; simp only [e, if_false]; omega, re_seven hsp (by omega) (fun p hp2 => hno p (by omega))⟩⟩
  refine zn_iconst (x := 0) F d_Re_split_0 (by decide) ?_
  refine zv_istore_n F d_Re_split_1 (Nat.le_of_ble_eq_true rfl) ?_
  simp only [zv_s1, zv_s2, zv_kill, List.set_cons_zero, List.set_cons_succ, List.getElem?_cons_zero, List.getElem?_cons_succ]
  refine zn_iconst (x := 0) F d_Re_split_2 (by decide) ?_
  refine zv_istore_n F d_Re_split_3 (Nat.le_of_ble_eq_true rfl) ?_
  simp only [zv_s1, zv_s2, zv_kill, List.set_cons_zero, List.set_cons_succ, List.getElem?_cons_zero, List.getElem?_cons_succ]
  exact zv_weak (by repeat' (first | exact True.intro | refine And.intro rfl ?_)) (loop _ 0 0 _ P2 fo rfl (Nat.zero_le _) (by decide) f5 f6 mo_sp_0 (fun b _ => rfl))

