def mo_bt : Nat → Nat
  | 0 => 1
  | r + 1 => 2 * mo_bt r + 1
def mo_sy (δ : Nat → Nat → Nat) (ac : Nat → Bool) : Nat → Nat → Nat
  | 0, k => (ac k).toNat
  | r + 1, k => (ac k).toNat ||| mo_sy δ ac r (δ k 0) * 2 ^ 1 ||| mo_sy δ ac r (δ k 1) * 2 ^ (1 + mo_bt r)
theorem mo_bt_le : ∀ r, r ≤ 4 → mo_bt r ≤ 31 := by decide
theorem Mo_listen_ok {l : Launch} {Δ : zv_D} {hp : zv_M} {sz : Nat} {y c op fi se st el s0 cn : Nat} {gg gd sa mr : Nat → Nat} {δ : Nat → Nat → Nat} {ac : Nat → Bool} (f0 : hp y = some (mo_obj y c op fi se st el)) (f2 : hp (y + 2) = some (zn_I Δ 144 gg)) (f3 : hp (y + 3) = some (zn_I Δ 12 gd)) (hM : mo_M op fi se gg gd δ ac s0 cn) (hb : mo_b gg gd) (f4 : hp (y + 4) = some (zn_J Δ 384 sa)) (f5 : hp (y + 5) = some (zn_J Δ 384 mr)) : zv_E l Δ 4 y_Mo_listen b_Mo_listen 9 (none) [.ref y] hp sz 0 0 (fun r hp1 sz1 => ∃ sa1 mr1 : Nat → Nat, r = none ∧ sz1 = sz ∧ hp1 (y + 4) = some (zn_J Δ 384 sa1) ∧ hp1 (y + 5) = some (zn_J Δ 384 mr1) ∧ (∀ k, k < cn → sa1 k = mo_sy δ ac 5 k) ∧ ∀ b, b ≠ y + 4 ∧ b ≠ y + 5 → hp1 b = hp b) := by
  refine zv_E.intro (lv0 := [some (.ref y), none, none, none, none, none, none, none, none]) rfl (Nat.le_of_ble_eq_true rfl) rfl ?_
  intro Γ hl F
  clear hl
  obtain ⟨hcn, hs0, hop, hδ⟩ := mo_M_ok hM hb
  have loopR : ∀ (m z : Nat) (h' : zv_M) (sa mr : Nat → Nat), m = 5 - z → z ≤ 5 → h' (y + 4) = some (zn_J Δ 384 sa) → h' (y + 5) = some (zn_J Δ 384 mr) → (∀ k, k < cn → sa k = mo_sy δ ac z k) → (∀ b, b ≠ y + 4 ∧ b ≠ y + 5 → h' b = hp b) → zv_V Δ Γ (zv_QQ Δ Γ 0 0 (fun r hp1 sz1 => ∃ sa1 mr1 : Nat → Nat, r = none ∧ sz1 = sz ∧ hp1 (y + 4) = some (zn_J Δ 384 sa1) ∧ hp1 (y + 5) = some (zn_J Δ 384 mr1) ∧ (∀ k, k < cn → sa1 k = mo_sy δ ac 5 k) ∧ ∀ b, b ≠ y + 4 ∧ b ≠ y + 5 → hp1 b = hp b)) 41 [some (.ref y), some (.int (nI cn)), some (.int (nI (mo_bt z))), some (.int (nI z)), none, none, none, none, none] [] h' sz 0 0 := by
    intro m
    induction m using Nat.strongRecOn with
    | ind m ih =>
      intro z h' sa mr hm hz f4 f5 hsa fr
      have inC : ∀ (m2 k : Nat) (h' : zv_M) (sa mr : Nat → Nat), m2 = cn - k → k ≤ cn → z < 5 → h' (y + 4) = some (zn_J Δ 384 sa) → h' (y + 5) = some (zn_J Δ 384 mr) → (∀ i, i < cn → mr i = mo_sy δ ac (z + 1) i) → (∀ i, i < k → sa i = mo_sy δ ac (z + 1) i) → (∀ b, b ≠ y + 4 ∧ b ≠ y + 5 → h' b = hp b) → zv_V Δ Γ (zv_QQ Δ Γ 0 0 (fun r hp1 sz1 => ∃ sa1 mr1 : Nat → Nat, r = none ∧ sz1 = sz ∧ hp1 (y + 4) = some (zn_J Δ 384 sa1) ∧ hp1 (y + 5) = some (zn_J Δ 384 mr1) ∧ (∀ k, k < cn → sa1 k = mo_sy δ ac 5 k) ∧ ∀ b, b ≠ y + 4 ∧ b ≠ y + 5 → hp1 b = hp b)) 125 [some (.ref y), some (.int (nI cn)), some (.int (nI (mo_bt z))), some (.int (nI z)), some (.int (nI k)), none, none, none, none] [] h' sz 0 0 := by
        intro m2
        induction m2 using Nat.strongRecOn with
        | ind m2 ih2 =>
          intro k h' sa mr hm2 hk hz5 f4 f5 hmr hsa fr
          have f0 := (fr y (by omega)).trans f0
          refine zv_iload F d_Mo_listen_125 rfl ?_
          refine zv_iload_n F d_Mo_listen_127 rfl ?_
          refine zn_icmp_ge (tgt := 151) F d_Mo_listen_128 rfl (by omega) (by omega) (fun h128 => ?_) (fun h128 => ?_)
          · refine zn_iconst (x := 2) F d_Mo_listen_151 (by decide) ?_
            refine zv_iload_n F d_Mo_listen_152 rfl ?_
            refine zn_imul F d_Mo_listen_153 ?_
            refine zn_iconst (x := 1) F d_Mo_listen_154 (by decide) ?_
            refine zn_iadd F d_Mo_listen_155 ?_
            refine zv_istore_n F d_Mo_listen_156 (Nat.le_of_ble_eq_true rfl) ?_
            simp only [zv_s1, zv_s2, zv_kill, List.set_cons_zero, List.set_cons_succ, List.getElem?_cons_zero, List.getElem?_cons_succ]
            refine zn_iinc F d_Mo_listen_157 rfl ?_
            simp only [zv_s1, zv_s2, zv_kill, List.set_cons_zero, List.set_cons_succ, List.getElem?_cons_zero, List.getElem?_cons_succ]
            refine zv_goto (tgt := 41) F d_Mo_listen_160 rfl ?_
            exact zv_weak (by repeat' (first | exact True.intro | refine And.intro rfl ?_)) (ih (5 - (z + 1)) (by omega) (z + 1) _ sa mr rfl (by omega) f4 f5 (fun i hi => hsa i (by omega)) fr)
          · refine zv_aload_n F d_Mo_listen_131 rfl ?_
            refine zv_get F d_Mo_listen_132 (by assumption) k_Mo 7 (Nat.le_of_ble_eq_true rfl) ln_Mo_19 rfl (by rfl) ?_
            refine zv_iload F d_Mo_listen_135 rfl ?_
            refine zv_aload_n F d_Mo_listen_137 rfl ?_
            refine zv_get F d_Mo_listen_138 (by assumption) k_Mo 8 (Nat.le_of_ble_eq_true rfl) ln_Mo_23 rfl (by rfl) ?_
            refine zv_iload F d_Mo_listen_141 rfl ?_
            refine zn_lald F d_Mo_listen_143 (by assumption) (by omega) (by omega) ?_
            refine zn_last F d_Mo_listen_144 (by assumption) (by omega) (by omega) (fun hp144 e144 => ?_)
            replace f4 := zv_eq e144
            replace f5 := (zv_ne e144 (by omega)).trans f5
            replace fr := fun b hb => (zv_ne (b := b) e144 (by omega)).trans (fr b hb)
            refine zn_iinc F d_Mo_listen_145 rfl ?_
            simp only [zv_s1, zv_s2, zv_kill, List.set_cons_zero, List.set_cons_succ, List.getElem?_cons_zero, List.getElem?_cons_succ]
            refine zv_goto (tgt := 125) F d_Mo_listen_148 rfl ?_
            exact zv_weak (by repeat' (first | exact True.intro | refine And.intro rfl ?_)) (ih2 (cn - (k + 1)) (by omega) (k + 1) _ _ mr rfl (by omega) hz5 f4 f5 hmr (fun i hi => if e : i = k then (by simp only [va_up, e, if_true]; exact hmr k (by omega)) else (by simp only [va_up, e, if_false]; exact hsa i (by omega))) fr)
      have inB : ∀ (m2 k : Nat) (h' : zv_M) (mr : Nat → Nat), m2 = cn - k → k ≤ cn → z < 5 → h' (y + 4) = some (zn_J Δ 384 sa) → h' (y + 5) = some (zn_J Δ 384 mr) → (∀ i, i < k → mr i = mo_sy δ ac (z + 1) i) → (∀ b, b ≠ y + 4 ∧ b ≠ y + 5 → h' b = hp b) → zv_V Δ Γ (zv_QQ Δ Γ 0 0 (fun r hp1 sz1 => ∃ sa1 mr1 : Nat → Nat, r = none ∧ sz1 = sz ∧ hp1 (y + 4) = some (zn_J Δ 384 sa1) ∧ hp1 (y + 5) = some (zn_J Δ 384 mr1) ∧ (∀ k, k < cn → sa1 k = mo_sy δ ac 5 k) ∧ ∀ b, b ≠ y + 4 ∧ b ≠ y + 5 → hp1 b = hp b)) 49 [some (.ref y), some (.int (nI cn)), some (.int (nI (mo_bt z))), some (.int (nI z)), some (.int (nI k)), none, none, none, none] [] h' sz 0 0 := by
        intro m2
        induction m2 using Nat.strongRecOn with
        | ind m2 ih2 =>
          intro k h' mr hm2 hk hz5 f4 f5 hmr fr
          have f0 := (fr y (by omega)).trans f0
          have f2 := (fr (y + 2) (by omega)).trans f2
          have f3 := (fr (y + 3) (by omega)).trans f3
          have hbt := mo_bt_le z (by omega)
          refine zv_iload F d_Mo_listen_49 rfl ?_
          refine zv_iload_n F d_Mo_listen_51 rfl ?_
          refine zn_icmp_ge (tgt := 122) F d_Mo_listen_52 rfl (by omega) (by omega) (fun h52 => ?_) (fun h52 => ?_)
          · refine zn_iconst (x := 0) F d_Mo_listen_122 (by decide) ?_
            refine zv_istore F d_Mo_listen_123 (Nat.le_of_ble_eq_true rfl) ?_
            simp only [zv_s1, zv_s2, zv_kill, List.set_cons_zero, List.set_cons_succ, List.getElem?_cons_zero, List.getElem?_cons_succ]
            exact zv_weak (by repeat' (first | exact True.intro | refine And.intro rfl ?_)) (inC _ 0 _ sa mr rfl (Nat.zero_le _) hz5 f4 f5 (fun i hi => hmr i (by omega)) (fun i hi => by omega) fr)
          · have d0 := hδ k 0 h52 (by decide)
            have d1 := hδ k 1 h52 (by decide)
            refine zv_aload_n F d_Mo_listen_55 rfl ?_
            refine zv_get F d_Mo_listen_56 (by assumption) k_Mo 7 (Nat.le_of_ble_eq_true rfl) ln_Mo_19 rfl (by rfl) ?_
            refine zv_aload_n F d_Mo_listen_59 rfl ?_
            refine zv_iload F d_Mo_listen_60 rfl ?_
            refine zn_iconst (x := 0) F d_Mo_listen_62 (by decide) ?_
            refine zv_pV2 F rfl (by assumption) k_Mo.1 d_Mo_listen_63 (Mo_nextCode_ok f0 f2 f3 hM hb h52 (by decide)) Y_Mo_nextCode Yi_Mo_nextCode Yv_Mo_nextCode ln_Mo_90 ⟨(Nat.le_of_ble_eq_true rfl), (Nat.le_of_ble_eq_true rfl)⟩ (Nat.le_of_ble_eq_true rfl) ⟨(Nat.le_of_ble_eq_true rfl), (Nat.le_of_ble_eq_true rfl)⟩ ?_
            refine zn_lald F d_Mo_listen_66 (by assumption) (by omega) (by omega) ?_
            refine zv_lstore F d_Mo_listen_67 (Nat.le_of_ble_eq_true rfl) ?_
            simp only [zv_s1, zv_s2, zv_kill, List.set_cons_zero, List.set_cons_succ, List.getElem?_cons_zero, List.getElem?_cons_succ]
            refine zv_aload_n F d_Mo_listen_69 rfl ?_
            refine zv_get F d_Mo_listen_70 (by assumption) k_Mo 7 (Nat.le_of_ble_eq_true rfl) ln_Mo_19 rfl (by rfl) ?_
            refine zv_aload_n F d_Mo_listen_73 rfl ?_
            refine zv_iload F d_Mo_listen_74 rfl ?_
            refine zn_iconst (x := 1) F d_Mo_listen_76 (by decide) ?_
            refine zv_pV2 F rfl (by assumption) k_Mo.1 d_Mo_listen_77 (Mo_nextCode_ok f0 f2 f3 hM hb h52 (by decide)) Y_Mo_nextCode Yi_Mo_nextCode Yv_Mo_nextCode ln_Mo_90 ⟨(Nat.le_of_ble_eq_true rfl), (Nat.le_of_ble_eq_true rfl)⟩ (Nat.le_of_ble_eq_true rfl) ⟨(Nat.le_of_ble_eq_true rfl), (Nat.le_of_ble_eq_true rfl)⟩ ?_
            refine zn_lald F d_Mo_listen_80 (by assumption) (by omega) (by omega) ?_
            refine zv_lstore F d_Mo_listen_81 (Nat.le_of_ble_eq_true rfl) ?_
            simp only [zv_s1, zv_s2, zv_kill, List.set_cons_zero, List.set_cons_succ, List.getElem?_cons_zero, List.getElem?_cons_succ]
            refine zv_aload_n F d_Mo_listen_83 rfl ?_
            refine zv_get F d_Mo_listen_84 (by assumption) k_Mo 8 (Nat.le_of_ble_eq_true rfl) ln_Mo_23 rfl (by rfl) ?_
            refine zv_iload F d_Mo_listen_87 rfl ?_
            refine zv_aload_n F d_Mo_listen_89 rfl ?_
            refine zv_iload F d_Mo_listen_90 rfl ?_
            refine zv_pV1 F rfl (by assumption) k_Mo.1 d_Mo_listen_92 (Mo_accepted_ok f0 f2 f3 hM hb h52) Y_Mo_accepted Yi_Mo_accepted Yv_Mo_accepted ln_Mo_86 ⟨(Nat.le_of_ble_eq_true rfl), (Nat.le_of_ble_eq_true rfl)⟩ (Nat.le_of_ble_eq_true rfl) ⟨(Nat.le_of_ble_eq_true rfl), (Nat.le_of_ble_eq_true rfl)⟩ ?_
            first | refine zn_bif_eq (tgt := 102) F d_Mo_listen_95 rfl (fun h95 => ?_) (fun h95 => ?_) | refine zn_if_eq (tgt := 102) F d_Mo_listen_95 rfl (by omega) (fun h95 => ?_) (fun h95 => ?_)
            · refine zn_lconst (x := 0) F d_Mo_listen_102 (by decide) ?_
              refine zv_lload F d_Mo_listen_103 rfl ?_
              refine zn_iconst (x := 1) F d_Mo_listen_105 (by decide) ?_
              refine zn_lshl F d_Mo_listen_106 (by omega) ?_
              refine zn_lor F d_Mo_listen_107 ?_
              refine zv_lload F d_Mo_listen_108 rfl ?_
              refine zn_iconst (x := 1) F d_Mo_listen_110 (by decide) ?_
              refine zv_iload_n F d_Mo_listen_111 rfl ?_
              refine zn_iadd F d_Mo_listen_112 ?_
              refine zn_lshl F d_Mo_listen_113 (by omega) ?_
              refine zn_lor F d_Mo_listen_114 ?_
              refine zn_last F d_Mo_listen_115 (by assumption) (by omega) (by omega) (fun hp115 e115 => ?_)
              replace f4 := (zv_ne e115 (by omega)).trans f4
              replace f5 := zv_eq e115
              replace fr := fun b hb => (zv_ne (b := b) e115 (by omega)).trans (fr b hb)
              refine zn_iinc F d_Mo_listen_116 rfl ?_
              simp only [zv_s1, zv_s2, zv_kill, List.set_cons_zero, List.set_cons_succ, List.getElem?_cons_zero, List.getElem?_cons_succ]
              refine zv_goto (tgt := 49) F d_Mo_listen_119 rfl ?_
              exact zv_weak (by repeat' (first | exact True.intro | refine And.intro rfl ?_)) (ih2 (cn - (k + 1)) (by omega) (k + 1) _ _ rfl (by omega) hz5 f4 f5 (fun i hi => if e : i = k then (by simp only [va_up, e, if_true, mo_sy]; rw [hsa _ d0, hsa _ d1, h95]; rfl) else (by simp only [va_up, e, if_false]; exact hmr i (by omega))) fr)
            · refine zn_lconst (x := 1) F d_Mo_listen_98 (by decide) ?_
              refine zv_goto (tgt := 103) F d_Mo_listen_99 rfl ?_
              refine zv_lload F d_Mo_listen_103 rfl ?_
              refine zn_iconst (x := 1) F d_Mo_listen_105 (by decide) ?_
              refine zn_lshl F d_Mo_listen_106 (by omega) ?_
              refine zn_lor F d_Mo_listen_107 ?_
              refine zv_lload F d_Mo_listen_108 rfl ?_
              refine zn_iconst (x := 1) F d_Mo_listen_110 (by decide) ?_
              refine zv_iload_n F d_Mo_listen_111 rfl ?_
              refine zn_iadd F d_Mo_listen_112 ?_
              refine zn_lshl F d_Mo_listen_113 (by omega) ?_
              refine zn_lor F d_Mo_listen_114 ?_
              refine zn_last F d_Mo_listen_115 (by assumption) (by omega) (by omega) (fun hp115 e115 => ?_)
              replace f4 := (zv_ne e115 (by omega)).trans f4
              replace f5 := zv_eq e115
              replace fr := fun b hb => (zv_ne (b := b) e115 (by omega)).trans (fr b hb)
              refine zn_iinc F d_Mo_listen_116 rfl ?_
              simp only [zv_s1, zv_s2, zv_kill, List.set_cons_zero, List.set_cons_succ, List.getElem?_cons_zero, List.getElem?_cons_succ]
              refine zv_goto (tgt := 49) F d_Mo_listen_119 rfl ?_
              exact zv_weak (by repeat' (first | exact True.intro | refine And.intro rfl ?_)) (ih2 (cn - (k + 1)) (by omega) (k + 1) _ _ rfl (by omega) hz5 f4 f5 (fun i hi => if e : i = k then (by simp only [va_up, e, if_true, mo_sy]; rw [hsa _ d0, hsa _ d1, h95]; rfl) else (by simp only [va_up, e, if_false]; exact hmr i (by omega))) fr)
      refine zv_iload_n F d_Mo_listen_41 rfl ?_
      refine zn_iconst (x := 5) F d_Mo_listen_42 (by decide) ?_
      refine zn_icmp_ge (tgt := 163) F d_Mo_listen_43 rfl (by omega) (by omega) (fun h43 => ?_) (fun h43 => ?_)
      · exact zv_vret F d_Mo_listen_163 (Nat.le_of_ble_eq_true rfl) (Nat.le_of_ble_eq_true rfl) (by have e : z = 5 := (by omega); subst e; exact ⟨sa, mr, rfl, rfl, f4, f5, hsa, fr⟩)
      · refine zn_iconst (x := 0) F d_Mo_listen_46 (by decide) ?_
        refine zv_istore F d_Mo_listen_47 (Nat.le_of_ble_eq_true rfl) ?_
        simp only [zv_s1, zv_s2, zv_kill, List.set_cons_zero, List.set_cons_succ, List.getElem?_cons_zero, List.getElem?_cons_succ]
        exact zv_weak (by repeat' (first | exact True.intro | refine And.intro rfl ?_)) (inB _ 0 _ mr rfl (Nat.zero_le _) (by omega) f4 f5 (fun i hi => by omega) fr)
  have loopA : ∀ (m k : Nat) (h' : zv_M) (sa : Nat → Nat), m = cn - k → k ≤ cn → h' (y + 4) = some (zn_J Δ 384 sa) → h' (y + 5) = some (zn_J Δ 384 mr) → (∀ i, i < k → sa i = mo_sy δ ac 0 i) → (∀ b, b ≠ y + 4 ∧ b ≠ y + 5 → h' b = hp b) → zv_V Δ Γ (zv_QQ Δ Γ 0 0 (fun r hp1 sz1 => ∃ sa1 mr1 : Nat → Nat, r = none ∧ sz1 = sz ∧ hp1 (y + 4) = some (zn_J Δ 384 sa1) ∧ hp1 (y + 5) = some (zn_J Δ 384 mr1) ∧ (∀ k, k < cn → sa1 k = mo_sy δ ac 5 k) ∧ ∀ b, b ≠ y + 4 ∧ b ≠ y + 5 → hp1 b = hp b)) 9 [some (.ref y), some (.int (nI cn)), some (.int (nI 1)), some (.int (nI k)), none, none, none, none, none] [] h' sz 0 0 := by
    intro m
    induction m using Nat.strongRecOn with
    | ind m ih =>
      intro k h' sa hm hk f4 f5 hsa fr
      have f0 := (fr y (by omega)).trans f0
      have f2 := (fr (y + 2) (by omega)).trans f2
      have f3 := (fr (y + 3) (by omega)).trans f3
      refine zv_iload_n F d_Mo_listen_9 rfl ?_
      refine zv_iload_n F d_Mo_listen_10 rfl ?_
      refine zn_icmp_ge (tgt := 39) F d_Mo_listen_11 rfl (by omega) (by omega) (fun h11 => ?_) (fun h11 => ?_)
      · refine zn_iconst (x := 0) F d_Mo_listen_39 (by decide) ?_
        refine zv_istore_n F d_Mo_listen_40 (Nat.le_of_ble_eq_true rfl) ?_
        simp only [zv_s1, zv_s2, zv_kill, List.set_cons_zero, List.set_cons_succ, List.getElem?_cons_zero, List.getElem?_cons_succ]
        exact zv_weak (by repeat' (first | exact True.intro | refine And.intro rfl ?_)) (loopR _ 0 _ sa mr rfl (by decide) f4 f5 (fun i hi => hsa i (by omega)) fr)
      · refine zv_aload_n F d_Mo_listen_14 rfl ?_
        refine zv_get F d_Mo_listen_15 (by assumption) k_Mo 7 (Nat.le_of_ble_eq_true rfl) ln_Mo_19 rfl (by rfl) ?_
        refine zv_iload_n F d_Mo_listen_18 rfl ?_
        refine zv_aload_n F d_Mo_listen_19 rfl ?_
        refine zv_iload_n F d_Mo_listen_20 rfl ?_
        refine zv_pV1 F rfl (by assumption) k_Mo.1 d_Mo_listen_21 (Mo_accepted_ok f0 f2 f3 hM hb h11) Y_Mo_accepted Yi_Mo_accepted Yv_Mo_accepted ln_Mo_86 ⟨(Nat.le_of_ble_eq_true rfl), (Nat.le_of_ble_eq_true rfl)⟩ (Nat.le_of_ble_eq_true rfl) ⟨(Nat.le_of_ble_eq_true rfl), (Nat.le_of_ble_eq_true rfl)⟩ ?_
        first | refine zn_bif_eq (tgt := 31) F d_Mo_listen_24 rfl (fun h24 => ?_) (fun h24 => ?_) | refine zn_if_eq (tgt := 31) F d_Mo_listen_24 rfl (by omega) (fun h24 => ?_) (fun h24 => ?_)
        · refine zn_lconst (x := 0) F d_Mo_listen_31 (by decide) ?_
          refine zn_last F d_Mo_listen_32 (by assumption) (by omega) (by omega) (fun hp32 e32 => ?_)
          replace f4 := zv_eq e32
          replace f5 := (zv_ne e32 (by omega)).trans f5
          replace fr := fun b hb => (zv_ne (b := b) e32 (by omega)).trans (fr b hb)
          refine zn_iinc F d_Mo_listen_33 rfl ?_
          simp only [zv_s1, zv_s2, zv_kill, List.set_cons_zero, List.set_cons_succ, List.getElem?_cons_zero, List.getElem?_cons_succ]
          refine zv_goto (tgt := 9) F d_Mo_listen_36 rfl ?_
          exact zv_weak (by repeat' (first | exact True.intro | refine And.intro rfl ?_)) (ih (cn - (k + 1)) (by omega) (k + 1) _ _ rfl (by omega) f4 f5 (fun i hi => if e : i = k then (by simp only [va_up, e, if_true, mo_sy]; rw [h24]; rfl) else (by simp only [va_up, e, if_false]; exact hsa i (by omega))) fr)
        · refine zn_lconst (x := 1) F d_Mo_listen_27 (by decide) ?_
          refine zv_goto (tgt := 32) F d_Mo_listen_28 rfl ?_
          refine zn_last F d_Mo_listen_32 (by assumption) (by omega) (by omega) (fun hp32 e32 => ?_)
          replace f4 := zv_eq e32
          replace f5 := (zv_ne e32 (by omega)).trans f5
          replace fr := fun b hb => (zv_ne (b := b) e32 (by omega)).trans (fr b hb)
          refine zn_iinc F d_Mo_listen_33 rfl ?_
          simp only [zv_s1, zv_s2, zv_kill, List.set_cons_zero, List.set_cons_succ, List.getElem?_cons_zero, List.getElem?_cons_succ]
          refine zv_goto (tgt := 9) F d_Mo_listen_36 rfl ?_
          exact zv_weak (by repeat' (first | exact True.intro | refine And.intro rfl ?_)) (ih (cn - (k + 1)) (by omega) (k + 1) _ _ rfl (by omega) f4 f5 (fun i hi => if e : i = k then (by simp only [va_up, e, if_true, mo_sy]; rw [h24]; rfl) else (by simp only [va_up, e, if_false]; exact hsa i (by omega))) fr)
  refine zv_aload_n F d_Mo_listen_0 rfl ?_
  refine zv_pV0 F rfl (by assumption) k_Mo.1 d_Mo_listen_1 (Mo_codes_ok f0 f2 f3 hM hb) Y_Mo_codes Yi_Mo_codes Yv_Mo_codes ln_Mo_82 ⟨(Nat.le_of_ble_eq_true rfl), (Nat.le_of_ble_eq_true rfl)⟩ (Nat.le_of_ble_eq_true rfl) ⟨(Nat.le_of_ble_eq_true rfl), (Nat.le_of_ble_eq_true rfl)⟩ ?_
  refine zv_istore_n F d_Mo_listen_4 (Nat.le_of_ble_eq_true rfl) ?_
  simp only [zv_s1, zv_s2, zv_kill, List.set_cons_zero, List.set_cons_succ, List.getElem?_cons_zero, List.getElem?_cons_succ]
  refine zn_iconst (x := 1) F d_Mo_listen_5 (by decide) ?_
  refine zv_istore_n F d_Mo_listen_6 (Nat.le_of_ble_eq_true rfl) ?_
  simp only [zv_s1, zv_s2, zv_kill, List.set_cons_zero, List.set_cons_succ, List.getElem?_cons_zero, List.getElem?_cons_succ]
  refine zn_iconst (x := 0) F d_Mo_listen_7 (by decide) ?_
  refine zv_istore_n F d_Mo_listen_8 (Nat.le_of_ble_eq_true rfl) ?_
  simp only [zv_s1, zv_s2, zv_kill, List.set_cons_zero, List.set_cons_succ, List.getElem?_cons_zero, List.getElem?_cons_succ]
  exact zv_weak (by repeat' (first | exact True.intro | refine And.intro rfl ?_)) (loopA _ 0 _ sa rfl (Nat.zero_le _) f4 f5 (fun i hi => by omega) (fun b _ => rfl))

