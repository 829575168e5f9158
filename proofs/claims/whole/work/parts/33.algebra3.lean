theorem zv_63 {v : Nat} (h : v < 60) : 2 ^ v < 18446744073709551616 := Nat.lt_of_lt_of_le (Nat.pow_lt_pow_right (by decide) h) (by decide)
theorem Al_keepSets_ok {l : Launch} {Δ : zv_D} {hp : zv_M} {sz : Nat} {o e : Nat} {pr rs ls bs : Nat → Nat} (a0 : hp o = some (al_obj o e)) (a6 : hp (o + 6) = some (zn_I Δ 3600 pr)) (a7 : hp (o + 7) = some (zn_J Δ 60 rs)) (a8 : hp (o + 8) = some (zn_J Δ 60 ls)) (a9 : hp (o + 9) = some (zn_J Δ 60 bs)) (he : e ≤ 60) (hpr : ∀ j k, j < e → k < e → pr (60 * j + k) < e) : zv_E l Δ 1 y_Al_keepSets b_Al_keepSets 3 (none) [.ref o] hp sz 0 0 (fun r hp1 sz1 => ∃ rs1 ls1 bs1 : Nat → Nat, r = none ∧ sz1 = sz ∧ hp1 (o + 7) = some (zn_J Δ 60 rs1) ∧ hp1 (o + 8) = some (zn_J Δ 60 ls1) ∧ hp1 (o + 9) = some (zn_J Δ 60 bs1) ∧ (∀ b, b ≠ o + 7 ∧ b ≠ o + 8 ∧ b ≠ o + 9 → hp1 b = hp b) ∧ ∀ j, j < e → rs1 j = al_r e pr j ∧ ls1 j = al_l e pr j ∧ bs1 j = al_b e pr j) := by
  refine zv_E.intro (lv0 := [some (.ref o), none, none]) rfl (Nat.le_of_ble_eq_true rfl) rfl ?_
  intro Γ hl F
  clear hl
  have outer2 : ∀ (m j : Nat) (h' : zv_M) (rs ls bs : Nat → Nat), m = e - j → j ≤ e → h' (o + 7) = some (zn_J Δ 60 rs) → h' (o + 8) = some (zn_J Δ 60 ls) → h' (o + 9) = some (zn_J Δ 60 bs) → (∀ b, b ≠ o + 7 ∧ b ≠ o + 8 ∧ b ≠ o + 9 → h' b = hp b) → (∀ i, i < e → rs i = al_r e pr i ∧ ls i = al_l e pr i) → (∀ i, i < j → bs i = al_b e pr i) → zv_V Δ Γ (zv_QQ Δ Γ 0 0 (fun r hp1 sz1 => ∃ rs1 ls1 bs1 : Nat → Nat, r = none ∧ sz1 = sz ∧ hp1 (o + 7) = some (zn_J Δ 60 rs1) ∧ hp1 (o + 8) = some (zn_J Δ 60 ls1) ∧ hp1 (o + 9) = some (zn_J Δ 60 bs1) ∧ (∀ b, b ≠ o + 7 ∧ b ≠ o + 8 ∧ b ≠ o + 9 → hp1 b = hp b) ∧ ∀ j, j < e → rs1 j = al_r e pr j ∧ ls1 j = al_l e pr j ∧ bs1 j = al_b e pr j)) 82 [some (.ref o), some (.int (nI j)), none] [] h' sz 0 0 := by
    intro m
    induction m using Nat.strongRecOn with
    | ind m ih =>
      intro j h' rs ls bs hm hj a7 a8 a9 fr hrl hb
      have inner : ∀ (m2 x : Nat) (h' : zv_M) (bs : Nat → Nat), m2 = e - x → x ≤ e → j < e → h' (o + 7) = some (zn_J Δ 60 rs) → h' (o + 8) = some (zn_J Δ 60 ls) → h' (o + 9) = some (zn_J Δ 60 bs) → (∀ b, b ≠ o + 7 ∧ b ≠ o + 8 ∧ b ≠ o + 9 → h' b = hp b) → (∀ i, i < j → bs i = al_b e pr i) → bs j = al_or (fun x => al_r e pr (pr (60 * x + j))) x → zv_V Δ Γ (zv_QQ Δ Γ 0 0 (fun r hp1 sz1 => ∃ rs1 ls1 bs1 : Nat → Nat, r = none ∧ sz1 = sz ∧ hp1 (o + 7) = some (zn_J Δ 60 rs1) ∧ hp1 (o + 8) = some (zn_J Δ 60 ls1) ∧ hp1 (o + 9) = some (zn_J Δ 60 bs1) ∧ (∀ b, b ≠ o + 7 ∧ b ≠ o + 8 ∧ b ≠ o + 9 → hp1 b = hp b) ∧ ∀ j, j < e → rs1 j = al_r e pr j ∧ ls1 j = al_l e pr j ∧ bs1 j = al_b e pr j)) 99 [some (.ref o), some (.int (nI j)), some (.int (nI x))] [] h' sz 0 0 := by
        intro m2
        induction m2 using Nat.strongRecOn with
        | ind m2 ih2 =>
          intro x h' bs hm2 hx hje a7 a8 a9 fr hb hbj
          have a0 := (fr o (by omega)).trans a0
          have a6 := (fr (o + 6) (by omega)).trans a6
          refine zv_iload_n F d_Al_keepSets_99 rfl ?_
          refine zv_aload_n F d_Al_keepSets_100 rfl ?_
          refine zv_get F d_Al_keepSets_101 (by assumption) k_Al 4 (Nat.le_of_ble_eq_true rfl) ln_Al_40 rfl (by rfl) ?_
          refine zn_icmp_ge (tgt := 133) F d_Al_keepSets_104 rfl (by omega) (by omega) (fun h104 => ?_) (fun h104 => ?_)
          · refine zn_iinc F d_Al_keepSets_133 rfl ?_
            simp only [zv_s1, zv_s2, zv_kill, List.set_cons_zero, List.set_cons_succ, List.getElem?_cons_zero, List.getElem?_cons_succ]
            refine zv_goto (tgt := 82) F d_Al_keepSets_136 rfl ?_
            exact zv_weak (by repeat' (first | exact True.intro | refine And.intro rfl ?_)) (ih (e - (j + 1)) (by omega) (j + 1) _ rs ls bs rfl (by omega) a7 a8 a9 fr hrl (fun i hi => by by_cases c : i = j; rw [c, hbj, show x = e by omega]; rfl; exact hb i (by omega)))
          · have hpx := hpr x j h104 hje
            have hrx := (hrl _ hpx).1
            refine zv_aload_n F d_Al_keepSets_107 rfl ?_
            refine zv_get F d_Al_keepSets_108 (by assumption) k_Al 9 (Nat.le_of_ble_eq_true rfl) ln_Al_37 rfl (by rfl) ?_
            refine zv_iload_n F d_Al_keepSets_111 rfl ?_
            refine zv_dup2 F d_Al_keepSets_112 rfl rfl ?_
            refine zn_lald F d_Al_keepSets_113 (by assumption) (by omega) (by omega) ?_
            refine zv_aload_n F d_Al_keepSets_114 rfl ?_
            refine zv_get F d_Al_keepSets_115 (by assumption) k_Al 7 (Nat.le_of_ble_eq_true rfl) ln_Al_31 rfl (by rfl) ?_
            refine zv_aload_n F d_Al_keepSets_118 rfl ?_
            refine zv_iload_n F d_Al_keepSets_119 rfl ?_
            refine zv_iload_n F d_Al_keepSets_120 rfl ?_
            refine zv_pV2 F rfl (by assumption) k_Al.1 d_Al_keepSets_121 (Al_multiply_ok a0 a6 (by omega) (by omega)) Y_Al_multiply Yi_Al_multiply Yv_Al_multiply ln_Al_72 ⟨(Nat.le_of_ble_eq_true rfl), (Nat.le_of_ble_eq_true rfl)⟩ (Nat.le_of_ble_eq_true rfl) ⟨(Nat.le_of_ble_eq_true rfl), (Nat.le_of_ble_eq_true rfl)⟩ ?_
            refine zn_lald F d_Al_keepSets_124 (by assumption) (by omega) (by omega) ?_
            refine zn_lor F d_Al_keepSets_125 ?_
            refine zn_last F d_Al_keepSets_126 (by assumption) (by omega) (by omega) (fun hp126 e126 => ?_)
            replace a7 := (zv_ne e126 (by omega)).trans a7
            replace a8 := (zv_ne e126 (by omega)).trans a8
            replace a9 := zv_eq e126
            replace fr := fun b hb => (zv_ne (b := b) e126 (by omega)).trans (fr b hb)
            refine zn_iinc F d_Al_keepSets_127 rfl ?_
            simp only [zv_s1, zv_s2, zv_kill, List.set_cons_zero, List.set_cons_succ, List.getElem?_cons_zero, List.getElem?_cons_succ]
            refine zv_goto (tgt := 99) F d_Al_keepSets_130 rfl ?_
            exact zv_weak (by repeat' (first | exact True.intro | refine And.intro rfl ?_)) (ih2 (e - (x + 1)) (by omega) (x + 1) _ _ rfl (by omega) hje a7 a8 a9 fr (fun i hi => by simp only [va_up]; rw [if_neg (by omega)]; exact hb i hi) (by simp only [va_up, if_true]; rw [hbj, hrx]; rfl))
      have a0 := (fr o (by omega)).trans a0
      refine zv_iload_n F d_Al_keepSets_82 rfl ?_
      refine zv_aload_n F d_Al_keepSets_83 rfl ?_
      refine zv_get F d_Al_keepSets_84 (by assumption) k_Al 4 (Nat.le_of_ble_eq_true rfl) ln_Al_40 rfl (by rfl) ?_
      refine zn_icmp_ge (tgt := 139) F d_Al_keepSets_87 rfl (by omega) (by omega) (fun h87 => ?_) (fun h87 => ?_)
      · exact zv_vret F d_Al_keepSets_139 (Nat.le_of_ble_eq_true rfl) (Nat.le_of_ble_eq_true rfl) (by have c : j = e := (by omega); subst c; exact ⟨rs, ls, bs, rfl, rfl, a7, a8, a9, fr, fun i hi => ⟨(hrl i hi).1, (hrl i hi).2, hb i hi⟩⟩)
      · refine zv_aload_n F d_Al_keepSets_90 rfl ?_
        refine zv_get F d_Al_keepSets_91 (by assumption) k_Al 9 (Nat.le_of_ble_eq_true rfl) ln_Al_37 rfl (by rfl) ?_
        refine zv_iload_n F d_Al_keepSets_94 rfl ?_
        refine zn_lconst (x := 0) F d_Al_keepSets_95 (by decide) ?_
        refine zn_last F d_Al_keepSets_96 (by assumption) (by omega) (by omega) (fun hp96 e96 => ?_)
        replace a7 := (zv_ne e96 (by omega)).trans a7
        replace a8 := (zv_ne e96 (by omega)).trans a8
        replace a9 := zv_eq e96
        replace fr := fun b hb => (zv_ne (b := b) e96 (by omega)).trans (fr b hb)
        refine zn_iconst (x := 0) F d_Al_keepSets_97 (by decide) ?_
        refine zv_istore_n F d_Al_keepSets_98 (Nat.le_of_ble_eq_true rfl) ?_
        simp only [zv_s1, zv_s2, zv_kill, List.set_cons_zero, List.set_cons_succ, List.getElem?_cons_zero, List.getElem?_cons_succ]
        exact zv_weak (by repeat' (first | exact True.intro | refine And.intro rfl ?_)) (inner _ 0 _ _ rfl (Nat.zero_le _) (by omega) a7 a8 a9 fr (fun i hi => by simp only [va_up]; rw [if_neg (by omega)]; exact hb i hi) (by simp only [va_up, if_true]; rfl))
  have outer : ∀ (m j : Nat) (h' : zv_M) (rs ls : Nat → Nat), m = e - j → j ≤ e → h' (o + 7) = some (zn_J Δ 60 rs) → h' (o + 8) = some (zn_J Δ 60 ls) → h' (o + 9) = some (zn_J Δ 60 bs) → (∀ b, b ≠ o + 7 ∧ b ≠ o + 8 ∧ b ≠ o + 9 → h' b = hp b) → (∀ i, i < j → rs i = al_r e pr i ∧ ls i = al_l e pr i) → zv_V Δ Γ (zv_QQ Δ Γ 0 0 (fun r hp1 sz1 => ∃ rs1 ls1 bs1 : Nat → Nat, r = none ∧ sz1 = sz ∧ hp1 (o + 7) = some (zn_J Δ 60 rs1) ∧ hp1 (o + 8) = some (zn_J Δ 60 ls1) ∧ hp1 (o + 9) = some (zn_J Δ 60 bs1) ∧ (∀ b, b ≠ o + 7 ∧ b ≠ o + 8 ∧ b ≠ o + 9 → hp1 b = hp b) ∧ ∀ j, j < e → rs1 j = al_r e pr j ∧ ls1 j = al_l e pr j ∧ bs1 j = al_b e pr j)) 2 [some (.ref o), some (.int (nI j)), none] [] h' sz 0 0 := by
    intro m
    induction m using Nat.strongRecOn with
    | ind m ih =>
      intro j h' rs ls hm hj a7 a8 a9 fr hrl
      have inner : ∀ (m2 x : Nat) (h' : zv_M) (rs ls : Nat → Nat), m2 = e - x → x ≤ e → j < e → h' (o + 7) = some (zn_J Δ 60 rs) → h' (o + 8) = some (zn_J Δ 60 ls) → h' (o + 9) = some (zn_J Δ 60 bs) → (∀ b, b ≠ o + 7 ∧ b ≠ o + 8 ∧ b ≠ o + 9 → h' b = hp b) → (∀ i, i < j → rs i = al_r e pr i ∧ ls i = al_l e pr i) → rs j = al_or (fun x => 2 ^ pr (60 * j + x)) x → ls j = al_or (fun x => 2 ^ pr (60 * x + j)) x → zv_V Δ Γ (zv_QQ Δ Γ 0 0 (fun r hp1 sz1 => ∃ rs1 ls1 bs1 : Nat → Nat, r = none ∧ sz1 = sz ∧ hp1 (o + 7) = some (zn_J Δ 60 rs1) ∧ hp1 (o + 8) = some (zn_J Δ 60 ls1) ∧ hp1 (o + 9) = some (zn_J Δ 60 bs1) ∧ (∀ b, b ≠ o + 7 ∧ b ≠ o + 8 ∧ b ≠ o + 9 → hp1 b = hp b) ∧ ∀ j, j < e → rs1 j = al_r e pr j ∧ ls1 j = al_l e pr j ∧ bs1 j = al_b e pr j)) 26 [some (.ref o), some (.int (nI j)), some (.int (nI x))] [] h' sz 0 0 := by
        intro m2
        induction m2 using Nat.strongRecOn with
        | ind m2 ih2 =>
          intro x h' rs ls hm2 hx hje a7 a8 a9 fr hrl hr1 hl1
          have a0 := (fr o (by omega)).trans a0
          have a6 := (fr (o + 6) (by omega)).trans a6
          refine zv_iload_n F d_Al_keepSets_26 rfl ?_
          refine zv_aload_n F d_Al_keepSets_27 rfl ?_
          refine zv_get F d_Al_keepSets_28 (by assumption) k_Al 4 (Nat.le_of_ble_eq_true rfl) ln_Al_40 rfl (by rfl) ?_
          refine zn_icmp_ge (tgt := 74) F d_Al_keepSets_31 rfl (by omega) (by omega) (fun h31 => ?_) (fun h31 => ?_)
          · refine zn_iinc F d_Al_keepSets_74 rfl ?_
            simp only [zv_s1, zv_s2, zv_kill, List.set_cons_zero, List.set_cons_succ, List.getElem?_cons_zero, List.getElem?_cons_succ]
            refine zv_goto (tgt := 2) F d_Al_keepSets_77 rfl ?_
            exact zv_weak (by repeat' (first | exact True.intro | refine And.intro rfl ?_)) (ih (e - (j + 1)) (by omega) (j + 1) _ rs ls rfl (by omega) a7 a8 a9 fr (fun i hi => by by_cases c : i = j; rw [c, hr1, hl1, show x = e by omega]; exact ⟨rfl, rfl⟩; exact hrl i (by omega)))
          · have hp1 := hpr x j h31 hje
            have hp2 := hpr j x hje h31
            refine zv_aload_n F d_Al_keepSets_34 rfl ?_
            refine zv_get F d_Al_keepSets_35 (by assumption) k_Al 7 (Nat.le_of_ble_eq_true rfl) ln_Al_31 rfl (by rfl) ?_
            refine zv_iload_n F d_Al_keepSets_38 rfl ?_
            refine zv_dup2 F d_Al_keepSets_39 rfl rfl ?_
            refine zn_lald F d_Al_keepSets_40 (by assumption) (by omega) (by omega) ?_
            refine zn_lconst (x := 1) F d_Al_keepSets_41 (by decide) ?_
            refine zv_aload_n F d_Al_keepSets_42 rfl ?_
            refine zv_iload_n F d_Al_keepSets_43 rfl ?_
            refine zv_iload_n F d_Al_keepSets_44 rfl ?_
            refine zv_pV2 F rfl (by assumption) k_Al.1 d_Al_keepSets_45 (Al_multiply_ok a0 a6 (by omega) (by omega)) Y_Al_multiply Yi_Al_multiply Yv_Al_multiply ln_Al_72 ⟨(Nat.le_of_ble_eq_true rfl), (Nat.le_of_ble_eq_true rfl)⟩ (Nat.le_of_ble_eq_true rfl) ⟨(Nat.le_of_ble_eq_true rfl), (Nat.le_of_ble_eq_true rfl)⟩ ?_
            refine zn_lshl F d_Al_keepSets_48 (by omega) ?_
            rw [Nat.one_mul]
            refine zn_lor F d_Al_keepSets_49 ?_
            refine zn_last F d_Al_keepSets_50 (by assumption) (by omega) (by omega) (fun hp50 e50 => ?_)
            replace a0 := (zv_ne e50 (by omega)).trans a0
            replace a6 := (zv_ne e50 (by omega)).trans a6
            replace a7 := zv_eq e50
            replace a8 := (zv_ne e50 (by omega)).trans a8
            replace a9 := (zv_ne e50 (by omega)).trans a9
            replace fr := fun b hb => (zv_ne (b := b) e50 (by omega)).trans (fr b hb)
            refine zv_aload_n F d_Al_keepSets_51 rfl ?_
            refine zv_get F d_Al_keepSets_52 (by assumption) k_Al 8 (Nat.le_of_ble_eq_true rfl) ln_Al_34 rfl (by rfl) ?_
            refine zv_iload_n F d_Al_keepSets_55 rfl ?_
            refine zv_dup2 F d_Al_keepSets_56 rfl rfl ?_
            refine zn_lald F d_Al_keepSets_57 (by assumption) (by omega) (by omega) ?_
            refine zn_lconst (x := 1) F d_Al_keepSets_58 (by decide) ?_
            refine zv_aload_n F d_Al_keepSets_59 rfl ?_
            refine zv_iload_n F d_Al_keepSets_60 rfl ?_
            refine zv_iload_n F d_Al_keepSets_61 rfl ?_
            refine zv_pV2 F rfl (by assumption) k_Al.1 d_Al_keepSets_62 (Al_multiply_ok a0 a6 (by omega) (by omega)) Y_Al_multiply Yi_Al_multiply Yv_Al_multiply ln_Al_72 ⟨(Nat.le_of_ble_eq_true rfl), (Nat.le_of_ble_eq_true rfl)⟩ (Nat.le_of_ble_eq_true rfl) ⟨(Nat.le_of_ble_eq_true rfl), (Nat.le_of_ble_eq_true rfl)⟩ ?_
            refine zn_lshl F d_Al_keepSets_65 (by omega) ?_
            rw [Nat.one_mul]
            refine zn_lor F d_Al_keepSets_66 ?_
            refine zn_last F d_Al_keepSets_67 (by assumption) (by omega) (by omega) (fun hp67 e67 => ?_)
            replace a0 := (zv_ne e67 (by omega)).trans a0
            replace a6 := (zv_ne e67 (by omega)).trans a6
            replace a7 := (zv_ne e67 (by omega)).trans a7
            replace a8 := zv_eq e67
            replace a9 := (zv_ne e67 (by omega)).trans a9
            replace fr := fun b hb => (zv_ne (b := b) e67 (by omega)).trans (fr b hb)
            refine zn_iinc F d_Al_keepSets_68 rfl ?_
            simp only [zv_s1, zv_s2, zv_kill, List.set_cons_zero, List.set_cons_succ, List.getElem?_cons_zero, List.getElem?_cons_succ]
            refine zv_goto (tgt := 26) F d_Al_keepSets_71 rfl ?_
            exact zv_weak (by repeat' (first | exact True.intro | refine And.intro rfl ?_)) (ih2 (e - (x + 1)) (by omega) (x + 1) _ _ _ rfl (by omega) hje a7 a8 a9 fr (fun i hi => by simp only [va_up]; rw [if_neg (by omega), if_neg (by omega)]; exact hrl i hi) (by simp only [va_up, if_true]; rw [hr1]; rfl) (by simp only [va_up, if_true]; rw [hl1]; rfl))
      have a0 := (fr o (by omega)).trans a0
      refine zv_iload_n F d_Al_keepSets_2 rfl ?_
      refine zv_aload_n F d_Al_keepSets_3 rfl ?_
      refine zv_get F d_Al_keepSets_4 (by assumption) k_Al 4 (Nat.le_of_ble_eq_true rfl) ln_Al_40 rfl (by rfl) ?_
      refine zn_icmp_ge (tgt := 80) F d_Al_keepSets_7 rfl (by omega) (by omega) (fun h7 => ?_) (fun h7 => ?_)
      · refine zn_iconst (x := 0) F d_Al_keepSets_80 (by decide) ?_
        refine zv_istore_n F d_Al_keepSets_81 (Nat.le_of_ble_eq_true rfl) ?_
        simp only [zv_s1, zv_s2, zv_kill, List.set_cons_zero, List.set_cons_succ, List.getElem?_cons_zero, List.getElem?_cons_succ]
        exact zv_weak (by repeat' (first | exact True.intro | refine And.intro rfl ?_)) (outer2 _ 0 _ rs ls bs rfl (Nat.zero_le _) a7 a8 a9 fr (fun i hi => hrl i (by omega)) (fun i hi => by omega))
      · refine zv_aload_n F d_Al_keepSets_10 rfl ?_
        refine zv_get F d_Al_keepSets_11 (by assumption) k_Al 7 (Nat.le_of_ble_eq_true rfl) ln_Al_31 rfl (by rfl) ?_
        refine zv_iload_n F d_Al_keepSets_14 rfl ?_
        refine zn_lconst (x := 0) F d_Al_keepSets_15 (by decide) ?_
        refine zn_last F d_Al_keepSets_16 (by assumption) (by omega) (by omega) (fun hp16 e16 => ?_)
        replace a0 := (zv_ne e16 (by omega)).trans a0
        replace a7 := zv_eq e16
        replace a8 := (zv_ne e16 (by omega)).trans a8
        replace a9 := (zv_ne e16 (by omega)).trans a9
        replace fr := fun b hb => (zv_ne (b := b) e16 (by omega)).trans (fr b hb)
        refine zv_aload_n F d_Al_keepSets_17 rfl ?_
        refine zv_get F d_Al_keepSets_18 (by assumption) k_Al 8 (Nat.le_of_ble_eq_true rfl) ln_Al_34 rfl (by rfl) ?_
        refine zv_iload_n F d_Al_keepSets_21 rfl ?_
        refine zn_lconst (x := 0) F d_Al_keepSets_22 (by decide) ?_
        refine zn_last F d_Al_keepSets_23 (by assumption) (by omega) (by omega) (fun hp23 e23 => ?_)
        replace a0 := (zv_ne e23 (by omega)).trans a0
        replace a7 := (zv_ne e23 (by omega)).trans a7
        replace a8 := zv_eq e23
        replace a9 := (zv_ne e23 (by omega)).trans a9
        replace fr := fun b hb => (zv_ne (b := b) e23 (by omega)).trans (fr b hb)
        refine zn_iconst (x := 0) F d_Al_keepSets_24 (by decide) ?_
        refine zv_istore_n F d_Al_keepSets_25 (Nat.le_of_ble_eq_true rfl) ?_
        simp only [zv_s1, zv_s2, zv_kill, List.set_cons_zero, List.set_cons_succ, List.getElem?_cons_zero, List.getElem?_cons_succ]
        exact zv_weak (by repeat' (first | exact True.intro | refine And.intro rfl ?_)) (inner _ 0 _ _ _ rfl (Nat.zero_le _) (by omega) a7 a8 a9 fr (fun i hi => by simp only [va_up]; rw [if_neg (by omega), if_neg (by omega)]; exact hrl i hi) (by simp only [va_up, if_true]; rfl) (by simp only [va_up, if_true]; rfl))
  refine zn_iconst (x := 0) F d_Al_keepSets_0 (by decide) ?_
  refine zv_istore_n F d_Al_keepSets_1 (Nat.le_of_ble_eq_true rfl) ?_
  simp only [zv_s1, zv_s2, zv_kill, List.set_cons_zero, List.set_cons_succ, List.getElem?_cons_zero, List.getElem?_cons_succ]
  exact zv_weak (by repeat' (first | exact True.intro | refine And.intro rfl ?_)) (outer _ 0 _ rs ls rfl (Nat.zero_le _) a7 a8 a9 (fun b _ => rfl) (fun i hi => by omega))
def al_rl (rs ls bs : Nat → Nat) (w j k : Nat) : Bool := decide ((w = 0 ∧ rs j = rs k) ∨ (w = 1 ∧ ls j = ls k) ∨ (w = 2 ∧ bs j = bs k) ∨ (w = 3 ∧ rs j = rs k ∧ ls j = ls k))
def al_sb (e : Nat) (rs ls bs : Nat → Nat) : Prop := ∀ j, j < e → rs j < 18446744073709551616 ∧ ls j < 18446744073709551616 ∧ bs j < 18446744073709551616
theorem Al_areRelated_ok {l : Launch} {Δ : zv_D} {hp : zv_M} {sz : Nat} {o e w j k : Nat} {rs ls bs : Nat → Nat} (a0 : hp o = some (al_obj o e)) (a7 : hp (o + 7) = some (zn_J Δ 60 rs)) (a8 : hp (o + 8) = some (zn_J Δ 60 ls)) (a9 : hp (o + 9) = some (zn_J Δ 60 bs)) (he : e ≤ 60) (hb : al_sb e rs ls bs) (hw : w < 4) (hj : j < e) (hk : k < e) : zv_P l Δ 0 y_Al_areRelated b_Al_areRelated 4 ((some (FieldType.boolean))) [.ref o, .int (nI w), .int (nI j), .int (nI k)] hp sz (.int (nI (al_rl rs ls bs w j k).toNat)) := by
  refine zv_E.intro (lv0 := [some (.ref o), some (.int (nI w)), some (.int (nI j)), some (.int (nI k))]) rfl (Nat.le_of_ble_eq_true rfl) rfl ?_
  intro Γ hl F
  clear hl
  obtain ⟨r1, r2, r3⟩ := hb j hj
  obtain ⟨r4, r5, r6⟩ := hb k hk
  unfold al_rl
  rcases (show w = 0 ∨ w = 1 ∨ w = 2 ∨ w = 3 by omega) with rfl | rfl | rfl | rfl
  · skip
    refine zv_iload_n F d_Al_areRelated_0 rfl ?_
    refine zv_tableIn (tgt := 32) F d_Al_areRelated_1 (by decide) (by decide) (by rfl) rfl ?_
    refine zv_aload_n F d_Al_areRelated_32 rfl ?_
    refine zv_get F d_Al_areRelated_33 (by assumption) k_Al 7 (Nat.le_of_ble_eq_true rfl) ln_Al_31 rfl (by rfl) ?_
    refine zv_iload_n F d_Al_areRelated_36 rfl ?_
    refine zn_lald F d_Al_areRelated_37 (by assumption) (by omega) (by omega) ?_
    refine zv_aload_n F d_Al_areRelated_38 rfl ?_
    refine zv_get F d_Al_areRelated_39 (by assumption) k_Al 7 (Nat.le_of_ble_eq_true rfl) ln_Al_31 rfl (by rfl) ?_
    refine zv_iload_n F d_Al_areRelated_42 rfl ?_
    refine zn_lald F d_Al_areRelated_43 (by assumption) (by omega) (by omega) ?_
    refine zn_lcmp F d_Al_areRelated_44 (by omega) (by omega) (fun w44 b44 c44 => ?_)
    first | refine zn_bif_ne (tgt := 52) F d_Al_areRelated_45 rfl (fun h45 => ?_) (fun h45 => ?_) | refine zn_if_ne (tgt := 52) F d_Al_areRelated_45 rfl (by omega) (fun h45 => ?_) (fun h45 => ?_)
    · refine zn_iconst (x := 0) F d_Al_areRelated_52 (by decide) ?_
      exact zv_zret F d_Al_areRelated_53 (Nat.le_of_ble_eq_true rfl) (Nat.le_of_ble_eq_true rfl) (by first | rfl | exact zn_nb _) (by first | exact ⟨zn_bt (decide_eq_true (by omega)), rfl, rfl⟩ | exact ⟨zn_bf (decide_eq_false (by omega)), rfl, rfl⟩)
    · refine zn_iconst (x := 1) F d_Al_areRelated_48 (by decide) ?_
      refine zv_goto (tgt := 53) F d_Al_areRelated_49 rfl ?_
      exact zv_zret F d_Al_areRelated_53 (Nat.le_of_ble_eq_true rfl) (Nat.le_of_ble_eq_true rfl) (by first | rfl | exact zn_nb _) (by first | exact ⟨zn_bt (decide_eq_true (by omega)), rfl, rfl⟩ | exact ⟨zn_bf (decide_eq_false (by omega)), rfl, rfl⟩)
  · skip
    refine zv_iload_n F d_Al_areRelated_0 rfl ?_
    refine zv_tableIn (tgt := 54) F d_Al_areRelated_1 (by decide) (by decide) (by rfl) rfl ?_
    refine zv_aload_n F d_Al_areRelated_54 rfl ?_
    refine zv_get F d_Al_areRelated_55 (by assumption) k_Al 8 (Nat.le_of_ble_eq_true rfl) ln_Al_34 rfl (by rfl) ?_
    refine zv_iload_n F d_Al_areRelated_58 rfl ?_
    refine zn_lald F d_Al_areRelated_59 (by assumption) (by omega) (by omega) ?_
    refine zv_aload_n F d_Al_areRelated_60 rfl ?_
    refine zv_get F d_Al_areRelated_61 (by assumption) k_Al 8 (Nat.le_of_ble_eq_true rfl) ln_Al_34 rfl (by rfl) ?_
    refine zv_iload_n F d_Al_areRelated_64 rfl ?_
    refine zn_lald F d_Al_areRelated_65 (by assumption) (by omega) (by omega) ?_
    refine zn_lcmp F d_Al_areRelated_66 (by omega) (by omega) (fun w66 b66 c66 => ?_)
    first | refine zn_bif_ne (tgt := 74) F d_Al_areRelated_67 rfl (fun h67 => ?_) (fun h67 => ?_) | refine zn_if_ne (tgt := 74) F d_Al_areRelated_67 rfl (by omega) (fun h67 => ?_) (fun h67 => ?_)
    · refine zn_iconst (x := 0) F d_Al_areRelated_74 (by decide) ?_
      exact zv_zret F d_Al_areRelated_75 (Nat.le_of_ble_eq_true rfl) (Nat.le_of_ble_eq_true rfl) (by first | rfl | exact zn_nb _) (by first | exact ⟨zn_bt (decide_eq_true (by omega)), rfl, rfl⟩ | exact ⟨zn_bf (decide_eq_false (by omega)), rfl, rfl⟩)
    · refine zn_iconst (x := 1) F d_Al_areRelated_70 (by decide) ?_
      refine zv_goto (tgt := 75) F d_Al_areRelated_71 rfl ?_
      exact zv_zret F d_Al_areRelated_75 (Nat.le_of_ble_eq_true rfl) (Nat.le_of_ble_eq_true rfl) (by first | rfl | exact zn_nb _) (by first | exact ⟨zn_bt (decide_eq_true (by omega)), rfl, rfl⟩ | exact ⟨zn_bf (decide_eq_false (by omega)), rfl, rfl⟩)
  · skip
    refine zv_iload_n F d_Al_areRelated_0 rfl ?_
    refine zv_tableIn (tgt := 76) F d_Al_areRelated_1 (by decide) (by decide) (by rfl) rfl ?_
    refine zv_aload_n F d_Al_areRelated_76 rfl ?_
    refine zv_get F d_Al_areRelated_77 (by assumption) k_Al 9 (Nat.le_of_ble_eq_true rfl) ln_Al_37 rfl (by rfl) ?_
    refine zv_iload_n F d_Al_areRelated_80 rfl ?_
    refine zn_lald F d_Al_areRelated_81 (by assumption) (by omega) (by omega) ?_
    refine zv_aload_n F d_Al_areRelated_82 rfl ?_
    refine zv_get F d_Al_areRelated_83 (by assumption) k_Al 9 (Nat.le_of_ble_eq_true rfl) ln_Al_37 rfl (by rfl) ?_
    refine zv_iload_n F d_Al_areRelated_86 rfl ?_
    refine zn_lald F d_Al_areRelated_87 (by assumption) (by omega) (by omega) ?_
    refine zn_lcmp F d_Al_areRelated_88 (by omega) (by omega) (fun w88 b88 c88 => ?_)
    first | refine zn_bif_ne (tgt := 96) F d_Al_areRelated_89 rfl (fun h89 => ?_) (fun h89 => ?_) | refine zn_if_ne (tgt := 96) F d_Al_areRelated_89 rfl (by omega) (fun h89 => ?_) (fun h89 => ?_)
    · refine zn_iconst (x := 0) F d_Al_areRelated_96 (by decide) ?_
      exact zv_zret F d_Al_areRelated_97 (Nat.le_of_ble_eq_true rfl) (Nat.le_of_ble_eq_true rfl) (by first | rfl | exact zn_nb _) (by first | exact ⟨zn_bt (decide_eq_true (by omega)), rfl, rfl⟩ | exact ⟨zn_bf (decide_eq_false (by omega)), rfl, rfl⟩)
    · refine zn_iconst (x := 1) F d_Al_areRelated_92 (by decide) ?_
      refine zv_goto (tgt := 97) F d_Al_areRelated_93 rfl ?_
      exact zv_zret F d_Al_areRelated_97 (Nat.le_of_ble_eq_true rfl) (Nat.le_of_ble_eq_true rfl) (by first | rfl | exact zn_nb _) (by first | exact ⟨zn_bt (decide_eq_true (by omega)), rfl, rfl⟩ | exact ⟨zn_bf (decide_eq_false (by omega)), rfl, rfl⟩)
  · skip
    refine zv_iload_n F d_Al_areRelated_0 rfl ?_
    refine zv_tableIn (tgt := 98) F d_Al_areRelated_1 (by decide) (by decide) (by rfl) rfl ?_
    refine zv_aload_n F d_Al_areRelated_98 rfl ?_
    refine zv_get F d_Al_areRelated_99 (by assumption) k_Al 7 (Nat.le_of_ble_eq_true rfl) ln_Al_31 rfl (by rfl) ?_
    refine zv_iload_n F d_Al_areRelated_102 rfl ?_
    refine zn_lald F d_Al_areRelated_103 (by assumption) (by omega) (by omega) ?_
    refine zv_aload_n F d_Al_areRelated_104 rfl ?_
    refine zv_get F d_Al_areRelated_105 (by assumption) k_Al 7 (Nat.le_of_ble_eq_true rfl) ln_Al_31 rfl (by rfl) ?_
    refine zv_iload_n F d_Al_areRelated_108 rfl ?_
    refine zn_lald F d_Al_areRelated_109 (by assumption) (by omega) (by omega) ?_
    refine zn_lcmp F d_Al_areRelated_110 (by omega) (by omega) (fun w110 b110 c110 => ?_)
    first | refine zn_bif_ne (tgt := 134) F d_Al_areRelated_111 rfl (fun h111 => ?_) (fun h111 => ?_) | refine zn_if_ne (tgt := 134) F d_Al_areRelated_111 rfl (by omega) (fun h111 => ?_) (fun h111 => ?_)
    · refine zn_iconst (x := 0) F d_Al_areRelated_134 (by decide) ?_
      exact zv_zret F d_Al_areRelated_135 (Nat.le_of_ble_eq_true rfl) (Nat.le_of_ble_eq_true rfl) (by first | rfl | exact zn_nb _) (by first | exact ⟨zn_bt (decide_eq_true (by omega)), rfl, rfl⟩ | exact ⟨zn_bf (decide_eq_false (by omega)), rfl, rfl⟩)
    · refine zv_aload_n F d_Al_areRelated_114 rfl ?_
      refine zv_get F d_Al_areRelated_115 (by assumption) k_Al 8 (Nat.le_of_ble_eq_true rfl) ln_Al_34 rfl (by rfl) ?_
      refine zv_iload_n F d_Al_areRelated_118 rfl ?_
      refine zn_lald F d_Al_areRelated_119 (by assumption) (by omega) (by omega) ?_
      refine zv_aload_n F d_Al_areRelated_120 rfl ?_
      refine zv_get F d_Al_areRelated_121 (by assumption) k_Al 8 (Nat.le_of_ble_eq_true rfl) ln_Al_34 rfl (by rfl) ?_
      refine zv_iload_n F d_Al_areRelated_124 rfl ?_
      refine zn_lald F d_Al_areRelated_125 (by assumption) (by omega) (by omega) ?_
      refine zn_lcmp F d_Al_areRelated_126 (by omega) (by omega) (fun w126 b126 c126 => ?_)
      first | refine zn_bif_ne (tgt := 134) F d_Al_areRelated_127 rfl (fun h127 => ?_) (fun h127 => ?_) | refine zn_if_ne (tgt := 134) F d_Al_areRelated_127 rfl (by omega) (fun h127 => ?_) (fun h127 => ?_)
      · refine zn_iconst (x := 0) F d_Al_areRelated_134 (by decide) ?_
        exact zv_zret F d_Al_areRelated_135 (Nat.le_of_ble_eq_true rfl) (Nat.le_of_ble_eq_true rfl) (by first | rfl | exact zn_nb _) (by first | exact ⟨zn_bt (decide_eq_true (by omega)), rfl, rfl⟩ | exact ⟨zn_bf (decide_eq_false (by omega)), rfl, rfl⟩)
      · refine zn_iconst (x := 1) F d_Al_areRelated_130 (by decide) ?_
        refine zv_goto (tgt := 135) F d_Al_areRelated_131 rfl ?_
        exact zv_zret F d_Al_areRelated_135 (Nat.le_of_ble_eq_true rfl) (Nat.le_of_ble_eq_true rfl) (by first | rfl | exact zn_nb _) (by first | exact ⟨zn_bt (decide_eq_true (by omega)), rfl, rfl⟩ | exact ⟨zn_bf (decide_eq_false (by omega)), rfl, rfl⟩)
def al_fc (rs ls bs : Nat → Nat) (w k : Nat) : Bool := decide (zf_ff (fun j => al_rl rs ls bs w j k) 0 k = k)
theorem Al_isFirstOfClass_ok {l : Launch} {Δ : zv_D} {hp : zv_M} {sz : Nat} {o e w k : Nat} {rs ls bs : Nat → Nat} (a0 : hp o = some (al_obj o e)) (a7 : hp (o + 7) = some (zn_J Δ 60 rs)) (a8 : hp (o + 8) = some (zn_J Δ 60 ls)) (a9 : hp (o + 9) = some (zn_J Δ 60 bs)) (he : e ≤ 60) (hb : al_sb e rs ls bs) (hw : w < 4) (hk : k < e) : zv_P l Δ 1 y_Al_isFirstOfClass b_Al_isFirstOfClass 4 ((some (FieldType.boolean))) [.ref o, .int (nI w), .int (nI k)] hp sz (.int (nI (al_fc rs ls bs w k).toNat)) := by
  refine zv_E.intro (lv0 := [some (.ref o), some (.int (nI w)), some (.int (nI k)), none]) rfl (Nat.le_of_ble_eq_true rfl) rfl ?_
  intro Γ hl F
  clear hl
  unfold al_fc
  have loop : ∀ (z q : Nat), z = k - q → q ≤ k → zf_ff (fun j => al_rl rs ls bs w j k) 0 k = zf_ff (fun j => al_rl rs ls bs w j k) q (k - q) → zv_V Δ Γ (zv_QQ Δ Γ 0 0 (fun r hp1 sz1 => r = some (.int (nI (al_fc rs ls bs w k).toNat)) ∧ hp1 = hp ∧ sz1 = sz)) 2 [some (.ref o), some (.int (nI w)), some (.int (nI k)), some (.int (nI q))] [] hp sz 0 0 := by
    unfold al_fc
    intro z
    induction z using Nat.strongRecOn with
    | ind z ih =>
      intro q hz hq hE
      refine zv_iload_n F d_Al_isFirstOfClass_2 rfl ?_
      refine zv_iload_n F d_Al_isFirstOfClass_3 rfl ?_
      refine zn_icmp_ge (tgt := 25) F d_Al_isFirstOfClass_4 rfl (by omega) (by omega) (fun h4 => ?_) (fun h4 => ?_)
      · refine zn_iconst (x := 1) F d_Al_isFirstOfClass_25 (by decide) ?_
        exact zv_zret F d_Al_isFirstOfClass_26 (Nat.le_of_ble_eq_true rfl) (Nat.le_of_ble_eq_true rfl) (by first | rfl | exact zn_nb _) ⟨zn_bt (decide_eq_true (by rw [hE, show k - q = 0 by omega]; simp only [zf_ff]; omega)), rfl, rfl⟩
      · refine zv_aload_n F d_Al_isFirstOfClass_7 rfl ?_
        refine zv_iload_n F d_Al_isFirstOfClass_8 rfl ?_
        refine zv_iload_n F d_Al_isFirstOfClass_9 rfl ?_
        refine zv_iload_n F d_Al_isFirstOfClass_10 rfl ?_
        refine zv_pV3 F rfl (by assumption) k_Al.1 d_Al_isFirstOfClass_11 (Al_areRelated_ok a0 a7 a8 a9 he hb hw (by omega) hk) Y_Al_areRelated Yi_Al_areRelated Yv_Al_areRelated ln_Al_79 ⟨(Nat.le_of_ble_eq_true rfl), (Nat.le_of_ble_eq_true rfl)⟩ (Nat.le_of_ble_eq_true rfl) ⟨(Nat.le_of_ble_eq_true rfl), (Nat.le_of_ble_eq_true rfl)⟩ ?_
        first | refine zn_bif_eq (tgt := 19) F d_Al_isFirstOfClass_14 rfl (fun h14 => ?_) (fun h14 => ?_) | refine zn_if_eq (tgt := 19) F d_Al_isFirstOfClass_14 rfl (by omega) (fun h14 => ?_) (fun h14 => ?_)
        · refine zn_iinc F d_Al_isFirstOfClass_19 rfl ?_
          simp only [zv_s1, zv_s2, zv_kill, List.set_cons_zero, List.set_cons_succ, List.getElem?_cons_zero, List.getElem?_cons_succ]
          refine zv_goto (tgt := 2) F d_Al_isFirstOfClass_22 rfl ?_
          exact zv_weak (by repeat' (first | exact True.intro | refine And.intro rfl ?_)) (ih (k - (q + 1)) (by omega) (q + 1) rfl (by omega) (by rw [hE, zf_miss (p := fun j => al_rl rs ls bs w j k) (k := q) h14 (by omega)]; rfl))
        · refine zn_iconst (x := 0) F d_Al_isFirstOfClass_17 (by decide) ?_
          exact zv_zret F d_Al_isFirstOfClass_18 (Nat.le_of_ble_eq_true rfl) (Nat.le_of_ble_eq_true rfl) (by first | rfl | exact zn_nb _) ⟨zn_bf (decide_eq_false (by rw [hE, zf_hit (p := fun j => al_rl rs ls bs w j k) (k := q) h14 (by omega)]; omega)), rfl, rfl⟩
  unfold al_fc at loop
  refine zn_iconst (x := 0) F d_Al_isFirstOfClass_0 (by decide) ?_
  refine zv_istore_n F d_Al_isFirstOfClass_1 (Nat.le_of_ble_eq_true rfl) ?_
  simp only [zv_s1, zv_s2, zv_kill, List.set_cons_zero, List.set_cons_succ, List.getElem?_cons_zero, List.getElem?_cons_succ]
  exact zv_weak (by repeat' (first | exact True.intro | refine And.intro rfl ?_)) (loop _ 0 rfl (Nat.zero_le _) (by rw [Nat.sub_zero]))
def al_cc (p : Nat → Bool) : Nat → Nat
  | 0 => 0
  | k + 1 => if p k = true then al_cc p k + 1 else al_cc p k
theorem Al_countClasses_ok {l : Launch} {Δ : zv_D} {hp : zv_M} {sz : Nat} {o e w : Nat} {rs ls bs : Nat → Nat} (a0 : hp o = some (al_obj o e)) (a7 : hp (o + 7) = some (zn_J Δ 60 rs)) (a8 : hp (o + 8) = some (zn_J Δ 60 ls)) (a9 : hp (o + 9) = some (zn_J Δ 60 bs)) (he : e ≤ 60) (hb : al_sb e rs ls bs) (hw : w < 4) : zv_P l Δ 2 y_Al_countClasses b_Al_countClasses 4 ((some (FieldType.int))) [.ref o, .int (nI w)] hp sz (.int (nI (al_cc (al_fc rs ls bs w) e))) := by
  refine zv_E.intro (lv0 := [some (.ref o), some (.int (nI w)), none, none]) rfl (Nat.le_of_ble_eq_true rfl) rfl ?_
  intro Γ hl F
  clear hl
  have loop : ∀ (z q : Nat), z = e - q → q ≤ e → zv_V Δ Γ (zv_QQ Δ Γ 0 0 (fun r hp1 sz1 => r = some (.int (nI (al_cc (al_fc rs ls bs w) e))) ∧ hp1 = hp ∧ sz1 = sz)) 4 [some (.ref o), some (.int (nI w)), some (.int (nI (al_cc (al_fc rs ls bs w) q))), some (.int (nI q))] [] hp sz 0 0 := by
    intro z
    induction z using Nat.strongRecOn with
    | ind z ih =>
      intro q hz hq
      refine zv_iload_n F d_Al_countClasses_4 rfl ?_
      refine zv_aload_n F d_Al_countClasses_5 rfl ?_
      refine zv_get F d_Al_countClasses_6 (by assumption) k_Al 4 (Nat.le_of_ble_eq_true rfl) ln_Al_40 rfl (by rfl) ?_
      refine zn_icmp_ge (tgt := 30) F d_Al_countClasses_9 rfl (by omega) (by omega) (fun h9 => ?_) (fun h9 => ?_)
      · refine zv_iload_n F d_Al_countClasses_30 rfl ?_
        exact zv_iret F d_Al_countClasses_31 (Nat.le_of_ble_eq_true rfl) (Nat.le_of_ble_eq_true rfl) ⟨zn_rt (by rw [show q = e by omega]), rfl, rfl⟩
      · refine zv_aload_n F d_Al_countClasses_12 rfl ?_
        refine zv_iload_n F d_Al_countClasses_13 rfl ?_
        refine zv_iload_n F d_Al_countClasses_14 rfl ?_
        refine zv_pV2 F rfl (by assumption) k_Al.1 d_Al_countClasses_15 (Al_isFirstOfClass_ok a0 a7 a8 a9 he hb hw (by omega)) Y_Al_isFirstOfClass Yi_Al_isFirstOfClass Yv_Al_isFirstOfClass ln_Al_75 ⟨(Nat.le_of_ble_eq_true rfl), (Nat.le_of_ble_eq_true rfl)⟩ (Nat.le_of_ble_eq_true rfl) ⟨(Nat.le_of_ble_eq_true rfl), (Nat.le_of_ble_eq_true rfl)⟩ ?_
        first | refine zn_bif_eq (tgt := 24) F d_Al_countClasses_18 rfl (fun h18 => ?_) (fun h18 => ?_) | refine zn_if_eq (tgt := 24) F d_Al_countClasses_18 rfl (by omega) (fun h18 => ?_) (fun h18 => ?_)
        · have es : al_cc (al_fc rs ls bs w) (q + 1) = al_cc (al_fc rs ls bs w) q := by rw [al_cc, if_neg (by rw [h18]; decide)]
          refine zn_iinc F d_Al_countClasses_24 rfl ?_
          simp only [zv_s1, zv_s2, zv_kill, List.set_cons_zero, List.set_cons_succ, List.getElem?_cons_zero, List.getElem?_cons_succ]
          refine zv_goto (tgt := 4) F d_Al_countClasses_27 rfl ?_
          have y := ih (e - (q + 1)) (by omega) (q + 1) rfl (by omega)
          rw [es] at y
          exact y
        · have es : al_cc (al_fc rs ls bs w) (q + 1) = al_cc (al_fc rs ls bs w) q + 1 := by rw [al_cc, if_pos h18]
          refine zn_iinc F d_Al_countClasses_21 rfl ?_
          simp only [zv_s1, zv_s2, zv_kill, List.set_cons_zero, List.set_cons_succ, List.getElem?_cons_zero, List.getElem?_cons_succ]
          refine zn_iinc F d_Al_countClasses_24 rfl ?_
          simp only [zv_s1, zv_s2, zv_kill, List.set_cons_zero, List.set_cons_succ, List.getElem?_cons_zero, List.getElem?_cons_succ]
          refine zv_goto (tgt := 4) F d_Al_countClasses_27 rfl ?_
          have y := ih (e - (q + 1)) (by omega) (q + 1) rfl (by omega)
          rw [es] at y
          exact y
  refine zn_iconst (x := 0) F d_Al_countClasses_0 (by decide) ?_
  refine zv_istore_n F d_Al_countClasses_1 (Nat.le_of_ble_eq_true rfl) ?_
  simp only [zv_s1, zv_s2, zv_kill, List.set_cons_zero, List.set_cons_succ, List.getElem?_cons_zero, List.getElem?_cons_succ]
  refine zn_iconst (x := 0) F d_Al_countClasses_2 (by decide) ?_
  refine zv_istore_n F d_Al_countClasses_3 (Nat.le_of_ble_eq_true rfl) ?_
  simp only [zv_s1, zv_s2, zv_kill, List.set_cons_zero, List.set_cons_succ, List.getElem?_cons_zero, List.getElem?_cons_succ]
  exact loop _ 0 rfl (Nat.zero_le _)
def al_ag (pr rs ls bs : Nat → Nat) (w j k : Nat) : Bool := decide ((w = 0 ∧ ¬ pr (60 * j + k) = pr (60 * k + j)) ∨ (w = 1 ∧ ¬ j = k ∧ al_rl rs ls bs 3 j k = true) ∨ (w = 2 ∧ ¬ j = k ∧ al_rl rs ls bs 0 j k = true) ∨ (w = 3 ∧ ¬ j = k ∧ al_rl rs ls bs 1 j k = true) ∨ (w = 4 ∧ ¬ j = k ∧ al_rl rs ls bs 2 j k = true) ∨ (w = 5 ∧ j = k ∧ rs j % 2 = 0))
theorem Al_isAgainst_ok {l : Launch} {Δ : zv_D} {hp : zv_M} {sz : Nat} {o e w j k : Nat} {pr rs ls bs : Nat → Nat} (a0 : hp o = some (al_obj o e)) (a6 : hp (o + 6) = some (zn_I Δ 3600 pr)) (a7 : hp (o + 7) = some (zn_J Δ 60 rs)) (a8 : hp (o + 8) = some (zn_J Δ 60 ls)) (a9 : hp (o + 9) = some (zn_J Δ 60 bs)) (he : e ≤ 60) (hb : al_sb e rs ls bs) (hpr : ∀ j k, j < e → k < e → pr (60 * j + k) < e) (hw : w < 6) (hj : j < e) (hk : k < e) : zv_P l Δ 1 y_Al_isAgainst b_Al_isAgainst 4 ((some (FieldType.boolean))) [.ref o, .int (nI w), .int (nI j), .int (nI k)] hp sz (.int (nI (al_ag pr rs ls bs w j k).toNat)) := by
  refine zv_E.intro (lv0 := [some (.ref o), some (.int (nI w)), some (.int (nI j)), some (.int (nI k))]) rfl (Nat.le_of_ble_eq_true rfl) rfl ?_
  intro Γ hl F
  clear hl
  have p1 := hpr j k hj hk
  have p2 := hpr k j hk hj
  have r1 := (hb j hj).1
  unfold al_ag
  rcases (show w = 0 ∨ w = 1 ∨ w = 2 ∨ w = 3 ∨ w = 4 ∨ w = 5 by omega) with rfl | rfl | rfl | rfl | rfl | rfl
  · skip
    refine zv_iload_n F d_Al_isAgainst_0 rfl ?_
    refine zv_tableIn (tgt := 40) F d_Al_isAgainst_1 (by decide) (by decide) (by rfl) rfl ?_
    refine zv_aload_n F d_Al_isAgainst_40 rfl ?_
    refine zv_iload_n F d_Al_isAgainst_41 rfl ?_
    refine zv_iload_n F d_Al_isAgainst_42 rfl ?_
    refine zv_pV2 F rfl (by assumption) k_Al.1 d_Al_isAgainst_43 (Al_multiply_ok a0 a6 (by omega) (by omega)) Y_Al_multiply Yi_Al_multiply Yv_Al_multiply ln_Al_72 ⟨(Nat.le_of_ble_eq_true rfl), (Nat.le_of_ble_eq_true rfl)⟩ (Nat.le_of_ble_eq_true rfl) ⟨(Nat.le_of_ble_eq_true rfl), (Nat.le_of_ble_eq_true rfl)⟩ ?_
    refine zv_aload_n F d_Al_isAgainst_46 rfl ?_
    refine zv_iload_n F d_Al_isAgainst_47 rfl ?_
    refine zv_iload_n F d_Al_isAgainst_48 rfl ?_
    refine zv_pV2 F rfl (by assumption) k_Al.1 d_Al_isAgainst_49 (Al_multiply_ok a0 a6 (by omega) (by omega)) Y_Al_multiply Yi_Al_multiply Yv_Al_multiply ln_Al_72 ⟨(Nat.le_of_ble_eq_true rfl), (Nat.le_of_ble_eq_true rfl)⟩ (Nat.le_of_ble_eq_true rfl) ⟨(Nat.le_of_ble_eq_true rfl), (Nat.le_of_ble_eq_true rfl)⟩ ?_
    refine zn_icmp_eq (tgt := 59) F d_Al_isAgainst_52 rfl (by omega) (by omega) (fun h52 => ?_) (fun h52 => ?_)
    · refine zn_iconst (x := 0) F d_Al_isAgainst_59 (by decide) ?_
      exact zv_zret F d_Al_isAgainst_60 (Nat.le_of_ble_eq_true rfl) (Nat.le_of_ble_eq_true rfl) (by first | rfl | exact zn_nb _) (by first | exact ⟨zn_bt (decide_eq_true (by omega)), rfl, rfl⟩ | exact ⟨zn_bf (decide_eq_false (by omega)), rfl, rfl⟩)
    · refine zn_iconst (x := 1) F d_Al_isAgainst_55 (by decide) ?_
      refine zv_goto (tgt := 60) F d_Al_isAgainst_56 rfl ?_
      exact zv_zret F d_Al_isAgainst_60 (Nat.le_of_ble_eq_true rfl) (Nat.le_of_ble_eq_true rfl) (by first | rfl | exact zn_nb _) (by first | exact ⟨zn_bt (decide_eq_true (by omega)), rfl, rfl⟩ | exact ⟨zn_bf (decide_eq_false (by omega)), rfl, rfl⟩)
  · skip
    refine zv_iload_n F d_Al_isAgainst_0 rfl ?_
    refine zv_tableIn (tgt := 61) F d_Al_isAgainst_1 (by decide) (by decide) (by rfl) rfl ?_
    refine zv_iload_n F d_Al_isAgainst_61 rfl ?_
    refine zv_iload_n F d_Al_isAgainst_62 rfl ?_
    refine zn_icmp_eq (tgt := 80) F d_Al_isAgainst_63 rfl (by omega) (by omega) (fun h63 => ?_) (fun h63 => ?_)
    · refine zn_iconst (x := 0) F d_Al_isAgainst_80 (by decide) ?_
      exact zv_zret F d_Al_isAgainst_81 (Nat.le_of_ble_eq_true rfl) (Nat.le_of_ble_eq_true rfl) (by first | rfl | exact zn_nb _) (by first | exact ⟨zn_bt (decide_eq_true (by simp [*])), rfl, rfl⟩ | exact ⟨zn_bf (decide_eq_false (by simp [*])), rfl, rfl⟩)
    · refine zv_aload_n F d_Al_isAgainst_66 rfl ?_
      refine zn_iconst (x := 3) F d_Al_isAgainst_67 (by decide) ?_
      refine zv_iload_n F d_Al_isAgainst_68 rfl ?_
      refine zv_iload_n F d_Al_isAgainst_69 rfl ?_
      refine zv_pV3 F rfl (by assumption) k_Al.1 d_Al_isAgainst_70 (Al_areRelated_ok a0 a7 a8 a9 he hb (by decide) hj hk) Y_Al_areRelated Yi_Al_areRelated Yv_Al_areRelated ln_Al_79 ⟨(Nat.le_of_ble_eq_true rfl), (Nat.le_of_ble_eq_true rfl)⟩ (Nat.le_of_ble_eq_true rfl) ⟨(Nat.le_of_ble_eq_true rfl), (Nat.le_of_ble_eq_true rfl)⟩ ?_
      first | refine zn_bif_eq (tgt := 80) F d_Al_isAgainst_73 rfl (fun h73 => ?_) (fun h73 => ?_) | refine zn_if_eq (tgt := 80) F d_Al_isAgainst_73 rfl (by omega) (fun h73 => ?_) (fun h73 => ?_)
      · refine zn_iconst (x := 0) F d_Al_isAgainst_80 (by decide) ?_
        exact zv_zret F d_Al_isAgainst_81 (Nat.le_of_ble_eq_true rfl) (Nat.le_of_ble_eq_true rfl) (by first | rfl | exact zn_nb _) (by first | exact ⟨zn_bt (decide_eq_true (by simp [*])), rfl, rfl⟩ | exact ⟨zn_bf (decide_eq_false (by simp [*])), rfl, rfl⟩)
      · refine zn_iconst (x := 1) F d_Al_isAgainst_76 (by decide) ?_
        refine zv_goto (tgt := 81) F d_Al_isAgainst_77 rfl ?_
        exact zv_zret F d_Al_isAgainst_81 (Nat.le_of_ble_eq_true rfl) (Nat.le_of_ble_eq_true rfl) (by first | rfl | exact zn_nb _) (by first | exact ⟨zn_bt (decide_eq_true (by simp [*])), rfl, rfl⟩ | exact ⟨zn_bf (decide_eq_false (by simp [*])), rfl, rfl⟩)
  · skip
    refine zv_iload_n F d_Al_isAgainst_0 rfl ?_
    refine zv_tableIn (tgt := 82) F d_Al_isAgainst_1 (by decide) (by decide) (by rfl) rfl ?_
    refine zv_iload_n F d_Al_isAgainst_82 rfl ?_
    refine zv_iload_n F d_Al_isAgainst_83 rfl ?_
    refine zn_icmp_eq (tgt := 101) F d_Al_isAgainst_84 rfl (by omega) (by omega) (fun h84 => ?_) (fun h84 => ?_)
    · refine zn_iconst (x := 0) F d_Al_isAgainst_101 (by decide) ?_
      exact zv_zret F d_Al_isAgainst_102 (Nat.le_of_ble_eq_true rfl) (Nat.le_of_ble_eq_true rfl) (by first | rfl | exact zn_nb _) (by first | exact ⟨zn_bt (decide_eq_true (by simp [*])), rfl, rfl⟩ | exact ⟨zn_bf (decide_eq_false (by simp [*])), rfl, rfl⟩)
    · refine zv_aload_n F d_Al_isAgainst_87 rfl ?_
      refine zn_iconst (x := 0) F d_Al_isAgainst_88 (by decide) ?_
      refine zv_iload_n F d_Al_isAgainst_89 rfl ?_
      refine zv_iload_n F d_Al_isAgainst_90 rfl ?_
      refine zv_pV3 F rfl (by assumption) k_Al.1 d_Al_isAgainst_91 (Al_areRelated_ok a0 a7 a8 a9 he hb (by decide) hj hk) Y_Al_areRelated Yi_Al_areRelated Yv_Al_areRelated ln_Al_79 ⟨(Nat.le_of_ble_eq_true rfl), (Nat.le_of_ble_eq_true rfl)⟩ (Nat.le_of_ble_eq_true rfl) ⟨(Nat.le_of_ble_eq_true rfl), (Nat.le_of_ble_eq_true rfl)⟩ ?_
      first | refine zn_bif_eq (tgt := 101) F d_Al_isAgainst_94 rfl (fun h94 => ?_) (fun h94 => ?_) | refine zn_if_eq (tgt := 101) F d_Al_isAgainst_94 rfl (by omega) (fun h94 => ?_) (fun h94 => ?_)
      · refine zn_iconst (x := 0) F d_Al_isAgainst_101 (by decide) ?_
        exact zv_zret F d_Al_isAgainst_102 (Nat.le_of_ble_eq_true rfl) (Nat.le_of_ble_eq_true rfl) (by first | rfl | exact zn_nb _) (by first | exact ⟨zn_bt (decide_eq_true (by simp [*])), rfl, rfl⟩ | exact ⟨zn_bf (decide_eq_false (by simp [*])), rfl, rfl⟩)
      · refine zn_iconst (x := 1) F d_Al_isAgainst_97 (by decide) ?_
        refine zv_goto (tgt := 102) F d_Al_isAgainst_98 rfl ?_
        exact zv_zret F d_Al_isAgainst_102 (Nat.le_of_ble_eq_true rfl) (Nat.le_of_ble_eq_true rfl) (by first | rfl | exact zn_nb _) (by first | exact ⟨zn_bt (decide_eq_true (by simp [*])), rfl, rfl⟩ | exact ⟨zn_bf (decide_eq_false (by simp [*])), rfl, rfl⟩)
  · skip
    refine zv_iload_n F d_Al_isAgainst_0 rfl ?_
    refine zv_tableIn (tgt := 103) F d_Al_isAgainst_1 (by decide) (by decide) (by rfl) rfl ?_
    refine zv_iload_n F d_Al_isAgainst_103 rfl ?_
    refine zv_iload_n F d_Al_isAgainst_104 rfl ?_
    refine zn_icmp_eq (tgt := 122) F d_Al_isAgainst_105 rfl (by omega) (by omega) (fun h105 => ?_) (fun h105 => ?_)
    · refine zn_iconst (x := 0) F d_Al_isAgainst_122 (by decide) ?_
      exact zv_zret F d_Al_isAgainst_123 (Nat.le_of_ble_eq_true rfl) (Nat.le_of_ble_eq_true rfl) (by first | rfl | exact zn_nb _) (by first | exact ⟨zn_bt (decide_eq_true (by simp [*])), rfl, rfl⟩ | exact ⟨zn_bf (decide_eq_false (by simp [*])), rfl, rfl⟩)
    · refine zv_aload_n F d_Al_isAgainst_108 rfl ?_
      refine zn_iconst (x := 1) F d_Al_isAgainst_109 (by decide) ?_
      refine zv_iload_n F d_Al_isAgainst_110 rfl ?_
      refine zv_iload_n F d_Al_isAgainst_111 rfl ?_
      refine zv_pV3 F rfl (by assumption) k_Al.1 d_Al_isAgainst_112 (Al_areRelated_ok a0 a7 a8 a9 he hb (by decide) hj hk) Y_Al_areRelated Yi_Al_areRelated Yv_Al_areRelated ln_Al_79 ⟨(Nat.le_of_ble_eq_true rfl), (Nat.le_of_ble_eq_true rfl)⟩ (Nat.le_of_ble_eq_true rfl) ⟨(Nat.le_of_ble_eq_true rfl), (Nat.le_of_ble_eq_true rfl)⟩ ?_
      first | refine zn_bif_eq (tgt := 122) F d_Al_isAgainst_115 rfl (fun h115 => ?_) (fun h115 => ?_) | refine zn_if_eq (tgt := 122) F d_Al_isAgainst_115 rfl (by omega) (fun h115 => ?_) (fun h115 => ?_)
      · refine zn_iconst (x := 0) F d_Al_isAgainst_122 (by decide) ?_
        exact zv_zret F d_Al_isAgainst_123 (Nat.le_of_ble_eq_true rfl) (Nat.le_of_ble_eq_true rfl) (by first | rfl | exact zn_nb _) (by first | exact ⟨zn_bt (decide_eq_true (by simp [*])), rfl, rfl⟩ | exact ⟨zn_bf (decide_eq_false (by simp [*])), rfl, rfl⟩)
      · refine zn_iconst (x := 1) F d_Al_isAgainst_118 (by decide) ?_
        refine zv_goto (tgt := 123) F d_Al_isAgainst_119 rfl ?_
        exact zv_zret F d_Al_isAgainst_123 (Nat.le_of_ble_eq_true rfl) (Nat.le_of_ble_eq_true rfl) (by first | rfl | exact zn_nb _) (by first | exact ⟨zn_bt (decide_eq_true (by simp [*])), rfl, rfl⟩ | exact ⟨zn_bf (decide_eq_false (by simp [*])), rfl, rfl⟩)
  · skip
    refine zv_iload_n F d_Al_isAgainst_0 rfl ?_
    refine zv_tableIn (tgt := 124) F d_Al_isAgainst_1 (by decide) (by decide) (by rfl) rfl ?_
    refine zv_iload_n F d_Al_isAgainst_124 rfl ?_
    refine zv_iload_n F d_Al_isAgainst_125 rfl ?_
    refine zn_icmp_eq (tgt := 143) F d_Al_isAgainst_126 rfl (by omega) (by omega) (fun h126 => ?_) (fun h126 => ?_)
    · refine zn_iconst (x := 0) F d_Al_isAgainst_143 (by decide) ?_
      exact zv_zret F d_Al_isAgainst_144 (Nat.le_of_ble_eq_true rfl) (Nat.le_of_ble_eq_true rfl) (by first | rfl | exact zn_nb _) (by first | exact ⟨zn_bt (decide_eq_true (by simp [*])), rfl, rfl⟩ | exact ⟨zn_bf (decide_eq_false (by simp [*])), rfl, rfl⟩)
    · refine zv_aload_n F d_Al_isAgainst_129 rfl ?_
      refine zn_iconst (x := 2) F d_Al_isAgainst_130 (by decide) ?_
      refine zv_iload_n F d_Al_isAgainst_131 rfl ?_
      refine zv_iload_n F d_Al_isAgainst_132 rfl ?_
      refine zv_pV3 F rfl (by assumption) k_Al.1 d_Al_isAgainst_133 (Al_areRelated_ok a0 a7 a8 a9 he hb (by decide) hj hk) Y_Al_areRelated Yi_Al_areRelated Yv_Al_areRelated ln_Al_79 ⟨(Nat.le_of_ble_eq_true rfl), (Nat.le_of_ble_eq_true rfl)⟩ (Nat.le_of_ble_eq_true rfl) ⟨(Nat.le_of_ble_eq_true rfl), (Nat.le_of_ble_eq_true rfl)⟩ ?_
      first | refine zn_bif_eq (tgt := 143) F d_Al_isAgainst_136 rfl (fun h136 => ?_) (fun h136 => ?_) | refine zn_if_eq (tgt := 143) F d_Al_isAgainst_136 rfl (by omega) (fun h136 => ?_) (fun h136 => ?_)
      · refine zn_iconst (x := 0) F d_Al_isAgainst_143 (by decide) ?_
        exact zv_zret F d_Al_isAgainst_144 (Nat.le_of_ble_eq_true rfl) (Nat.le_of_ble_eq_true rfl) (by first | rfl | exact zn_nb _) (by first | exact ⟨zn_bt (decide_eq_true (by simp [*])), rfl, rfl⟩ | exact ⟨zn_bf (decide_eq_false (by simp [*])), rfl, rfl⟩)
      · refine zn_iconst (x := 1) F d_Al_isAgainst_139 (by decide) ?_
        refine zv_goto (tgt := 144) F d_Al_isAgainst_140 rfl ?_
        exact zv_zret F d_Al_isAgainst_144 (Nat.le_of_ble_eq_true rfl) (Nat.le_of_ble_eq_true rfl) (by first | rfl | exact zn_nb _) (by first | exact ⟨zn_bt (decide_eq_true (by simp [*])), rfl, rfl⟩ | exact ⟨zn_bf (decide_eq_false (by simp [*])), rfl, rfl⟩)
  · skip
    refine zv_iload_n F d_Al_isAgainst_0 rfl ?_
    refine zv_tableIn (tgt := 145) F d_Al_isAgainst_1 (by decide) (by decide) (by rfl) rfl ?_
    refine zv_iload_n F d_Al_isAgainst_145 rfl ?_
    refine zv_iload_n F d_Al_isAgainst_146 rfl ?_
    refine zn_icmp_ne (tgt := 167) F d_Al_isAgainst_147 rfl (by omega) (by omega) (fun h147 => ?_) (fun h147 => ?_)
    · refine zn_iconst (x := 0) F d_Al_isAgainst_167 (by decide) ?_
      exact zv_zret F d_Al_isAgainst_168 (Nat.le_of_ble_eq_true rfl) (Nat.le_of_ble_eq_true rfl) (by first | rfl | exact zn_nb _) (by first | exact ⟨zn_bt (decide_eq_true (by omega)), rfl, rfl⟩ | exact ⟨zn_bf (decide_eq_false (by omega)), rfl, rfl⟩)
    · refine zv_aload_n F d_Al_isAgainst_150 rfl ?_
      refine zv_get F d_Al_isAgainst_151 (by assumption) k_Al 7 (Nat.le_of_ble_eq_true rfl) ln_Al_31 rfl (by rfl) ?_
      refine zv_iload_n F d_Al_isAgainst_154 rfl ?_
      refine zn_lald F d_Al_isAgainst_155 (by assumption) (by omega) (by omega) ?_
      refine zn_lconst (x := 1) F d_Al_isAgainst_156 (by decide) ?_
      refine zn_land F d_Al_isAgainst_157 ?_
      rw [Nat.and_one_is_mod]
      refine zn_lconst (x := 0) F d_Al_isAgainst_158 (by decide) ?_
      refine zn_lcmp F d_Al_isAgainst_159 (by omega) (by omega) (fun w159 b159 c159 => ?_)
      first | refine zn_bif_ne (tgt := 167) F d_Al_isAgainst_160 rfl (fun h160 => ?_) (fun h160 => ?_) | refine zn_if_ne (tgt := 167) F d_Al_isAgainst_160 rfl (by omega) (fun h160 => ?_) (fun h160 => ?_)
      · refine zn_iconst (x := 0) F d_Al_isAgainst_167 (by decide) ?_
        exact zv_zret F d_Al_isAgainst_168 (Nat.le_of_ble_eq_true rfl) (Nat.le_of_ble_eq_true rfl) (by first | rfl | exact zn_nb _) (by first | exact ⟨zn_bt (decide_eq_true (by omega)), rfl, rfl⟩ | exact ⟨zn_bf (decide_eq_false (by omega)), rfl, rfl⟩)
      · refine zn_iconst (x := 1) F d_Al_isAgainst_163 (by decide) ?_
        refine zv_goto (tgt := 168) F d_Al_isAgainst_164 rfl ?_
        exact zv_zret F d_Al_isAgainst_168 (Nat.le_of_ble_eq_true rfl) (Nat.le_of_ble_eq_true rfl) (by first | rfl | exact zn_nb _) (by first | exact ⟨zn_bt (decide_eq_true (by omega)), rfl, rfl⟩ | exact ⟨zn_bf (decide_eq_false (by omega)), rfl, rfl⟩)

