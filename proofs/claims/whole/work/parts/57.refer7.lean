theorem zn_shrL {x y : Nat} (hx : x < 9223372036854775808) (hy : y < 64) : lN x >>> ((nI y).toInt64 &&& 63) = lN (x / 2 ^ y) := by
  apply Int64.toBitVec_inj.mp
  show (lN x).toBitVec.sshiftRight (((nI y).toInt64 &&& 63).toBitVec.smod 64).toNat = _
  rw [zn_lsh y hy]
  apply BitVec.eq_of_toInt_eq
  have h1 : x / 2 ^ y ≤ x := Nat.div_le_self _ _
  have t : ∀ z, z < 9223372036854775808 → (lN z).toBitVec.toInt = (z : Int) := fun z hz => by
    rw [BitVec.toInt_eq_toNat_of_lt (by rw [zn_lT]; omega), zn_lT, Nat.mod_eq_of_lt (by omega)]
  rw [BitVec.toInt_sshiftRight, t x hx, t _ (by omega), Int.shiftRight_eq_div_pow]
  rfl
theorem zn_lshr {Δ : zv_D} {Γ : zv_C} {Q : State → Prop} {own nm : String} {cc : ByteArray} {nL : Nat} {ret : Option FieldType} {R : Room} {pc : Nat} {lv : List (Option Value)} {st : List Value} {hp : zv_M} {sz ce sl x y : Nat} (F : zv_F Δ Γ own nm cc nL ret R) (hd : decode cc pc = .ok (.lshr, 1)) (hx : x < 9223372036854775808) (hy : y < 64) (k : zv_V Δ Γ Q (pc + 1) lv (.long (lN (x / 2 ^ y)) :: st) hp sz ce sl) : zv_V Δ Γ Q pc lv (.int (nI y) :: .long (lN x) :: st) hp sz ce sl :=
  zv_lshr F hd (by rw [zn_shrL hx hy]; exact k)
/-- going through two automata side by side -/
def sm_n (g1 g2 : Nat → Nat) (p b : Nat) : Nat := 6 * g1 (2 * (p / 6) + b) + g2 (2 * (p % 6) + b)
def sm_p (g1 g2 : Nat → Nat) (w : List Bool) : Nat := 6 * bf_run g1 w + bf_run g2 w
def sm_ag (a1 a2 p : Nat) : Prop := pm_tb a1 (p / 6) = pm_tb a2 (p % 6)
/-- the pairs of a round: s0 at its start, s now, the pairs below p are gone through -/
def sm_I (g1 g2 : Nat → Nat) (a1 a2 s0 s p : Nat) : Prop := s < 2 ^ 36 ∧ (∀ q, s0.testBit q = true → s.testBit q = true) ∧ (∀ q, s.testBit q = true → ∃ w, q = sm_p g1 g2 w) ∧ s.testBit 0 = true ∧ ∀ q, q < p → s0.testBit q = true → sm_ag a1 a2 q ∧ s.testBit (sm_n g1 g2 q 0) = true ∧ s.testBit (sm_n g1 g2 q 1) = true
def sm_C (g1 g2 : Nat → Nat) (a1 a2 : Nat) : Prop := ∃ s : Nat, s.testBit 0 = true ∧ ∀ q, s.testBit q = true → sm_ag a1 a2 q ∧ s.testBit (sm_n g1 g2 q 0) = true ∧ s.testBit (sm_n g1 g2 q 1) = true
theorem sm_lt {s q : Nat} (h : s < 2 ^ 36) (hq : s.testBit q = true) : q < 36 := by
  refine Nat.lt_of_not_le fun z => ?_
  rw [Nat.testBit_lt_two_pow (Nat.lt_of_lt_of_le h (Nat.pow_le_pow_right (by decide) z))] at hq
  cases hq
theorem sm_step {g1 g2 : Nat → Nat} {n1 n2 : Nat} (h1 : ∀ j, j < 2 * n1 → g1 j < n1) (h2 : ∀ j, j < 2 * n2 → g2 j < n2) (p1 : 0 < n1) (p2 : 0 < n2) (l2 : n2 ≤ 6) (w : List Bool) (b : Bool) : sm_n g1 g2 (sm_p g1 g2 w) b.toNat = sm_p g1 g2 (w ++ [b]) := by
  have r2 : bf_run g2 w < 6 := by have := bf_from_lt h2 w 0 p2; rw [bf_from_0] at this; omega
  unfold sm_n sm_p
  rw [bf_run_snoc, bf_run_snoc, show (6 * bf_run g1 w + bf_run g2 w) / 6 = bf_run g1 w by omega, show (6 * bf_run g1 w + bf_run g2 w) % 6 = bf_run g2 w by omega]
theorem sm_C_all {g1 g2 : Nat → Nat} {a1 a2 n1 n2 : Nat} (h1 : ∀ j, j < 2 * n1 → g1 j < n1) (h2 : ∀ j, j < 2 * n2 → g2 j < n2) (p1 : 0 < n1) (p2 : 0 < n2) (l2 : n2 ≤ 6) (h : sm_C g1 g2 a1 a2) : ∀ w, pm_tb a1 (bf_run g1 w) = pm_tb a2 (bf_run g2 w) := by
  obtain ⟨s, s0, hs⟩ := h
  have key : ∀ w, s.testBit (sm_p g1 g2 w) = true := by
    refine zf_snoc s0 fun w b ih => ?_
    rw [← sm_step h1 h2 p1 p2 l2 w b]
    have q := (hs _ ih).2
    cases b
    · exact q.1
    · exact q.2
  intro w
  have q := (hs _ (key w)).1
  have r2 : bf_run g2 w < 6 := by have := bf_from_lt h2 w 0 p2; rw [bf_from_0] at this; omega
  unfold sm_ag sm_p at q
  rw [show (6 * bf_run g1 w + bf_run g2 w) / 6 = bf_run g1 w by omega, show (6 * bf_run g1 w + bf_run g2 w) % 6 = bf_run g2 w by omega] at q
  exact q
theorem al_cc_le (p : Nat → Bool) : ∀ n, al_cc p n ≤ n
  | 0 => Nat.le_refl _
  | n + 1 => by
    have := al_cc_le p n
    unfold al_cc
    split <;> omega
theorem al_cc_mono {p q : Nat → Bool} (h : ∀ x, p x = true → q x = true) : ∀ n, al_cc p n ≤ al_cc q n
  | 0 => Nat.le_refl _
  | n + 1 => by
    have := al_cc_mono h n
    unfold al_cc
    by_cases c : p n = true
    · rw [if_pos c, if_pos (h n c)]
      omega
    · rw [if_neg c]
      split <;> omega
theorem al_cc_lt {p q : Nat → Bool} (h : ∀ x, p x = true → q x = true) {x : Nat} (hp : ¬ p x = true) (hq : q x = true) : ∀ n, x < n → al_cc p n < al_cc q n
  | 0, hx => by omega
  | n + 1, hx => by
    unfold al_cc
    by_cases e : x = n
    · subst e
      have := al_cc_mono h x
      rw [if_neg hp, if_pos hq]
      omega
    · have := al_cc_lt h hp hq n (by omega)
      by_cases c : p n = true
      · rw [if_pos c, if_pos (h n c)]
        omega
      · rw [if_neg c]
        split <;> omega
theorem sm_bit {s p : Nat} : s / 2 ^ p % 2 = 1 ↔ s.testBit p = true := by
  rw [Nat.testBit_eq_decide_div_mod_eq]
  exact decide_eq_true_iff.symm
theorem sm_I_0 {g1 g2 : Nat → Nat} {a1 a2 s : Nat} (h : s < 2 ^ 36) (hr : ∀ q, s.testBit q = true → ∃ w, q = sm_p g1 g2 w) (h0 : s.testBit 0 = true) : sm_I g1 g2 a1 a2 s s 0 := ⟨h, fun q h => h, hr, h0, fun q hq => by omega⟩
theorem sm_I_skip {g1 g2 : Nat → Nat} {a1 a2 s0 s p : Nat} (h : sm_I g1 g2 a1 a2 s0 s p) (hp : ¬ s.testBit p = true) : sm_I g1 g2 a1 a2 s0 s (p + 1) := by
  obtain ⟨h1, h2, h3, h4, h5⟩ := h
  refine ⟨h1, h2, h3, h4, fun q hq hs => ?_⟩
  by_cases e : q = p
  · subst e
    exact absurd (h2 q hs) hp
  · exact h5 q (by omega) hs
theorem sm_I_take {g1 g2 : Nat → Nat} {a1 a2 s0 s p n1 n2 : Nat} (k1 : ∀ j, j < 2 * n1 → g1 j < n1) (k2 : ∀ j, j < 2 * n2 → g2 j < n2) (p1 : 0 < n1) (p2 : 0 < n2) (l1 : n1 ≤ 6) (l2 : n2 ≤ 6) (h : sm_I g1 g2 a1 a2 s0 s p) (hp : s.testBit p = true) (ha : sm_ag a1 a2 p) : sm_I g1 g2 a1 a2 s0 (s ||| 2 ^ sm_n g1 g2 p 0 ||| 2 ^ sm_n g1 g2 p 1) (p + 1) := by
  obtain ⟨h1, h2, h3, h4, h5⟩ := h
  obtain ⟨w, hw⟩ := h3 p hp
  have e0 : sm_n g1 g2 p 0 = sm_p g1 g2 (w ++ [false]) := by rw [hw]; exact sm_step k1 k2 p1 p2 l2 w false
  have e1 : sm_n g1 g2 p 1 = sm_p g1 g2 (w ++ [true]) := by rw [hw]; exact sm_step k1 k2 p1 p2 l2 w true
  have r1 : ∀ w, bf_run g1 w < n1 := fun w => by have := bf_from_lt k1 w 0 p1; rw [bf_from_0] at this; exact this
  have r2 : ∀ w, bf_run g2 w < n2 := fun w => by have := bf_from_lt k2 w 0 p2; rw [bf_from_0] at this; exact this
  have lt : ∀ w, sm_p g1 g2 w < 36 := fun w => by have := r1 w; have := r2 w; unfold sm_p; omega
  have tb : ∀ q, (s ||| 2 ^ sm_n g1 g2 p 0 ||| 2 ^ sm_n g1 g2 p 1).testBit q = true ↔ s.testBit q = true ∨ sm_n g1 g2 p 0 = q ∨ sm_n g1 g2 p 1 = q := fun q => by
    rw [Nat.testBit_or, Nat.testBit_or, Nat.testBit_two_pow, Nat.testBit_two_pow, Bool.or_eq_true, Bool.or_eq_true, decide_eq_true_iff, decide_eq_true_iff, or_assoc]
  refine ⟨?_, fun q hq => (tb q).mpr (Or.inl (h2 q hq)), fun q hq => ?_, (tb 0).mpr (Or.inl h4), fun q hq hs => ?_⟩
  · refine Nat.or_lt_two_pow (Nat.or_lt_two_pow h1 ?_) ?_
    · rw [e0]; exact Nat.pow_lt_pow_right (by decide) (lt _)
    · rw [e1]; exact Nat.pow_lt_pow_right (by decide) (lt _)
  · rcases (tb q).mp hq with z | z | z
    · exact h3 q z
    · exact ⟨_, z.symm.trans e0⟩
    · exact ⟨_, z.symm.trans e1⟩
  · by_cases e : q = p
    · subst e
      exact ⟨ha, (tb _).mpr (Or.inr (Or.inl rfl)), (tb _).mpr (Or.inr (Or.inr rfl))⟩
    · obtain ⟨b1, b2, b3⟩ := h5 q (by omega) hs
      exact ⟨b1, (tb _).mpr (Or.inl b2), (tb _).mpr (Or.inl b3)⟩
theorem sm_round {g1 g2 : Nat → Nat} {a1 a2 s0 s k : Nat} (h0 : s0 < 2 ^ 36) (h : sm_I g1 g2 a1 a2 s0 s 36) (hz : s0.testBit 0 = true) (hk : sm_C g1 g2 a1 a2 ∨ k + 1 ≤ al_cc (fun q => s0.testBit q) 36) : sm_C g1 g2 a1 a2 ∨ k + 2 ≤ al_cc (fun q => s.testBit q) 36 := by
  rcases hk with hk | hk
  · exact Or.inl hk
  · obtain ⟨h1, h2, h3, h4, h5⟩ := h
    by_cases c : ∃ q, s.testBit q = true ∧ ¬ s0.testBit q = true
    · obtain ⟨q, q1, q2⟩ := c
      have := al_cc_lt (p := fun q => s0.testBit q) (q := fun q => s.testBit q) h2 q2 q1 36 (sm_lt h1 q1)
      exact Or.inr (by omega)
    · have back : ∀ q, s.testBit q = true → s0.testBit q = true := fun q hq => Classical.byContradiction fun z => c ⟨q, hq, z⟩
      refine Or.inl ⟨s0, hz, fun q hq => ?_⟩
      obtain ⟨b1, b2, b3⟩ := h5 q (sm_lt h0 hq) hq
      exact ⟨b1, back _ b2, back _ b3⟩
theorem Mo_same_ok {l : Launch} {Δ : zv_D} {hp : zv_M} {sz : Nat} {y c el i j : Nat} {ns gg gd wd pr : Nat → Nat} (hat : mo_at Δ hp y c ns gg gd el wd pr) (hc : c ≤ 12) (hb : mo_b gg gd) (hi : i < 4294967296) (hj : j < 4294967296) (hn : ∀ i, i < c → ns i ≤ 6 ∧ 0 < ns i ∧ ∀ k, k < 2 * ns i → mo_G gg i k < ns i) (r0 : Bool) (hr : r0 = true ↔ i < c ∧ j < c ∧ ∀ w, pm_tb (gd i) (bf_run (mo_G gg i) w) = pm_tb (gd j) (bf_run (mo_G gg j) w)) : zv_P l Δ 1 y_Mo_same b_Mo_same 7 ((some (FieldType.boolean))) [.ref y, .int (nI i), .int (nI j)] hp sz (.int (nI r0.toNat)) := by
  refine zv_E.intro (lv0 := [some (.ref y), some (.int (nI i)), some (.int (nI j)), none, none, none, none]) rfl (Nat.le_of_ble_eq_true rfl) rfl ?_
  intro Γ hl F
  clear hl
  obtain ⟨⟨op, fi, se, st, f0⟩, f1, f2, f3, hrest⟩ := hat
  have no : ∀ {z : Prop}, (r0 = true → z) → ¬ z → r0 = false := fun h1 h2 => by
    cases r0
    · rfl
    · exact absurd (h1 rfl) h2
  have outer : ∀ (z k s : Nat), z = 36 - k → k ≤ 36 → i < c → j < c → s < 2 ^ 36 → (∀ q, s.testBit q = true → ∃ w, q = sm_p (mo_G gg i) (mo_G gg j) w) → s.testBit 0 = true → (sm_C (mo_G gg i) (mo_G gg j) (gd i) (gd j) ∨ k + 1 ≤ al_cc (fun q => s.testBit q) 36) → zv_V Δ Γ (zv_QQ Δ Γ 0 0 (fun r hp1 sz1 => r = some (.int (nI r0.toNat)) ∧ hp1 = hp ∧ sz1 = sz)) 23 [some (.ref y), some (.int (nI i)), some (.int (nI j)), some (.long (lN s)), none, some (.int (nI k)), none] [] hp sz 0 0 := by
    intro z
    induction z using Nat.strongRecOn with
    | ind z ih =>
      intro k s hz hk hic hjc hs hw h0 hC
      obtain ⟨l1, p1, k1⟩ := hn i hic
      obtain ⟨l2, p2, k2⟩ := hn j hjc
      have s0 := s
      have inner : ∀ (z2 p t : Nat), z2 = 36 - p → p ≤ 36 → k < 36 → sm_I (mo_G gg i) (mo_G gg j) (gd i) (gd j) s t p → zv_V Δ Γ (zv_QQ Δ Γ 0 0 (fun r hp1 sz1 => r = some (.int (nI r0.toNat)) ∧ hp1 = hp ∧ sz1 = sz)) 33 [some (.ref y), some (.int (nI i)), some (.int (nI j)), some (.long (lN t)), none, some (.int (nI k)), some (.int (nI p))] [] hp sz 0 0 := by
        intro z2
        induction z2 using Nat.strongRecOn with
        | ind z2 ih2 =>
          intro p t hz2 hp hk36 X
          have ht := X.1
          have g5 : ∀ x b, x < 6 → b < 2 → mo_G gg i (2 * x + b) < 6 := fun x b hx hb2 => hb.1 _ (by omega)
          have g6 : ∀ x b, x < 6 → b < 2 → mo_G gg j (2 * x + b) < 6 := fun x b hx hb2 => hb.1 _ (by omega)
          have lt36 : p < 36 → ∀ b, b < 2 → 6 * mo_G gg i (2 * (p / 6) + b) + mo_G gg j (2 * (p % 6) + b) < 36 := fun hp2 b hb2 => by have := g5 (p / 6) b (by omega) hb2; have := g6 (p % 6) b (by omega) hb2; omega
          refine zv_iload F d_Mo_same_33 rfl ?_
          refine zn_bipush (x := 36) F d_Mo_same_35 (by decide) ?_
          refine zn_icmp_ge (tgt := 142) F d_Mo_same_37 rfl (by omega) (by omega) (fun h37 => ?_) (fun h37 => ?_)
          · refine zn_iinc F d_Mo_same_142 rfl ?_
            simp only [zv_s1, zv_s2, zv_kill, List.set_cons_zero, List.set_cons_succ, List.getElem?_cons_zero, List.getElem?_cons_succ]
            refine zv_goto (tgt := 23) F d_Mo_same_145 rfl ?_
            have X36 : sm_I (mo_G gg i) (mo_G gg j) (gd i) (gd j) s t 36 := by have e : p = 36 := (by omega); rw [e] at X; exact X
            exact zv_weak (by repeat' (first | exact True.intro | refine And.intro rfl ?_)) (ih (36 - (k + 1)) (by omega) (k + 1) t rfl (by omega) hic hjc X.1 X.2.2.1 X.2.2.2.1 (sm_round hs X36 h0 hC))
          · have v0 := lt36 h37 0 (by decide)
            have v1 := lt36 h37 1 (by decide)
            refine zv_lload_n F d_Mo_same_40 rfl ?_
            refine zv_iload F d_Mo_same_41 rfl ?_
            refine zn_lshr F d_Mo_same_43 (by omega) (by omega) ?_
            refine zn_lconst (x := 1) F d_Mo_same_44 (by decide) ?_
            refine zn_land F d_Mo_same_45 ?_
            rw [Nat.and_one_is_mod]
            refine zn_lconst (x := 1) F d_Mo_same_46 (by decide) ?_
            refine zn_lcmp F d_Mo_same_47 (by omega) (by omega) (fun w47 b47 c47 => ?_)
            first | refine zn_bif_ne (tgt := 136) F d_Mo_same_48 rfl (fun h48 => ?_) (fun h48 => ?_) | refine zn_if_ne (tgt := 136) F d_Mo_same_48 rfl (by omega) (fun h48 => ?_) (fun h48 => ?_)
            · have hbit : ¬ t.testBit p = true := fun q => by have := sm_bit.mpr q; omega
              refine zn_iinc F d_Mo_same_136 rfl ?_
              simp only [zv_s1, zv_s2, zv_kill, List.set_cons_zero, List.set_cons_succ, List.getElem?_cons_zero, List.getElem?_cons_succ]
              refine zv_goto (tgt := 33) F d_Mo_same_139 rfl ?_
              first | exact zv_weak (by repeat' (first | exact True.intro | refine And.intro rfl ?_)) (ih2 (36 - (p + 1)) (by omega) (p + 1) t rfl (by omega) hk36 (sm_I_skip X hbit)) | exact zv_weak (by repeat' (first | exact True.intro | refine And.intro rfl ?_)) (ih2 (36 - (p + 1)) (by omega) (p + 1) _ rfl (by omega) hk36 (sm_I_take k1 k2 p1 p2 l1 l2 X hbit hag))
            · have hbit : t.testBit p = true := sm_bit.mp (by omega)
              refine zv_aload_n F d_Mo_same_51 rfl ?_
              refine zv_iload_n F d_Mo_same_52 rfl ?_
              refine zv_iload F d_Mo_same_53 rfl ?_
              refine zn_bipush (x := 6) F d_Mo_same_55 (by decide) ?_
              refine zn_idiv F d_Mo_same_57 (by omega) (by omega) (by omega) ?_
              refine zv_pV2 F rfl (by assumption) k_Mo.1 d_Mo_same_58 (Mo_isGood_ok f0 f3 (by omega) (hb.2 i (by omega)) (by omega)) Y_Mo_isGood Yi_Mo_isGood Yv_Mo_isGood ln_Mo_65 ⟨(Nat.le_of_ble_eq_true rfl), (Nat.le_of_ble_eq_true rfl)⟩ (Nat.le_of_ble_eq_true rfl) ⟨(Nat.le_of_ble_eq_true rfl), (Nat.le_of_ble_eq_true rfl)⟩ ?_
              refine zv_aload_n F d_Mo_same_61 rfl ?_
              refine zv_iload_n F d_Mo_same_62 rfl ?_
              refine zv_iload F d_Mo_same_63 rfl ?_
              refine zn_bipush (x := 6) F d_Mo_same_65 (by decide) ?_
              refine zn_irem F d_Mo_same_67 (by omega) (by omega) (by omega) ?_
              refine zv_pV2 F rfl (by assumption) k_Mo.1 d_Mo_same_68 (Mo_isGood_ok f0 f3 (by omega) (hb.2 j (by omega)) (by omega)) Y_Mo_isGood Yi_Mo_isGood Yv_Mo_isGood ln_Mo_65 ⟨(Nat.le_of_ble_eq_true rfl), (Nat.le_of_ble_eq_true rfl)⟩ (Nat.le_of_ble_eq_true rfl) ⟨(Nat.le_of_ble_eq_true rfl), (Nat.le_of_ble_eq_true rfl)⟩ ?_
              have bi : (pm_tb (gd i) (p / 6)).toNat < 2 := by cases pm_tb (gd i) (p / 6) <;> decide
              have bj : (pm_tb (gd j) (p % 6)).toNat < 2 := by cases pm_tb (gd j) (p % 6) <;> decide
              refine zn_icmp_eq (tgt := 76) F d_Mo_same_71 rfl (by omega) (by omega) (fun h71 => ?_) (fun h71 => ?_)
              · have hag : sm_ag (gd i) (gd j) p := by unfold sm_ag; revert h71; cases pm_tb (gd i) (p / 6) <;> cases pm_tb (gd j) (p % 6) <;> first | (intro _; rfl) | (intro q; exact absurd q (by decide))
                refine zv_lload_n F d_Mo_same_76 rfl ?_
                refine zn_lconst (x := 1) F d_Mo_same_77 (by decide) ?_
                refine zn_bipush (x := 6) F d_Mo_same_78 (by decide) ?_
                refine zv_aload_n F d_Mo_same_80 rfl ?_
                refine zv_iload_n F d_Mo_same_81 rfl ?_
                refine zv_iload F d_Mo_same_82 rfl ?_
                refine zn_bipush (x := 6) F d_Mo_same_84 (by decide) ?_
                refine zn_idiv F d_Mo_same_86 (by omega) (by omega) (by omega) ?_
                refine zn_iconst (x := 0) F d_Mo_same_87 (by decide) ?_
                refine zv_pV3 F rfl (by assumption) k_Mo.1 d_Mo_same_88 (Mo_step_ok f0 f2 (by omega)) Y_Mo_step Yi_Mo_step Yv_Mo_step ln_Mo_55 ⟨(Nat.le_of_ble_eq_true rfl), (Nat.le_of_ble_eq_true rfl)⟩ (Nat.le_of_ble_eq_true rfl) ⟨(Nat.le_of_ble_eq_true rfl), (Nat.le_of_ble_eq_true rfl)⟩ ?_
                refine zn_imul F d_Mo_same_91 ?_
                refine zv_aload_n F d_Mo_same_92 rfl ?_
                refine zv_iload_n F d_Mo_same_93 rfl ?_
                refine zv_iload F d_Mo_same_94 rfl ?_
                refine zn_bipush (x := 6) F d_Mo_same_96 (by decide) ?_
                refine zn_irem F d_Mo_same_98 (by omega) (by omega) (by omega) ?_
                refine zn_iconst (x := 0) F d_Mo_same_99 (by decide) ?_
                refine zv_pV3 F rfl (by assumption) k_Mo.1 d_Mo_same_100 (Mo_step_ok f0 f2 (by omega)) Y_Mo_step Yi_Mo_step Yv_Mo_step ln_Mo_55 ⟨(Nat.le_of_ble_eq_true rfl), (Nat.le_of_ble_eq_true rfl)⟩ (Nat.le_of_ble_eq_true rfl) ⟨(Nat.le_of_ble_eq_true rfl), (Nat.le_of_ble_eq_true rfl)⟩ ?_
                refine zn_iadd F d_Mo_same_103 ?_
                refine zn_lshl F d_Mo_same_104 (by omega) ?_
                rw [Nat.one_mul]
                refine zn_lor F d_Mo_same_105 ?_
                refine zn_lconst (x := 1) F d_Mo_same_106 (by decide) ?_
                refine zn_bipush (x := 6) F d_Mo_same_107 (by decide) ?_
                refine zv_aload_n F d_Mo_same_109 rfl ?_
                refine zv_iload_n F d_Mo_same_110 rfl ?_
                refine zv_iload F d_Mo_same_111 rfl ?_
                refine zn_bipush (x := 6) F d_Mo_same_113 (by decide) ?_
                refine zn_idiv F d_Mo_same_115 (by omega) (by omega) (by omega) ?_
                refine zn_iconst (x := 1) F d_Mo_same_116 (by decide) ?_
                refine zv_pV3 F rfl (by assumption) k_Mo.1 d_Mo_same_117 (Mo_step_ok f0 f2 (by omega)) Y_Mo_step Yi_Mo_step Yv_Mo_step ln_Mo_55 ⟨(Nat.le_of_ble_eq_true rfl), (Nat.le_of_ble_eq_true rfl)⟩ (Nat.le_of_ble_eq_true rfl) ⟨(Nat.le_of_ble_eq_true rfl), (Nat.le_of_ble_eq_true rfl)⟩ ?_
                refine zn_imul F d_Mo_same_120 ?_
                refine zv_aload_n F d_Mo_same_121 rfl ?_
                refine zv_iload_n F d_Mo_same_122 rfl ?_
                refine zv_iload F d_Mo_same_123 rfl ?_
                refine zn_bipush (x := 6) F d_Mo_same_125 (by decide) ?_
                refine zn_irem F d_Mo_same_127 (by omega) (by omega) (by omega) ?_
                refine zn_iconst (x := 1) F d_Mo_same_128 (by decide) ?_
                refine zv_pV3 F rfl (by assumption) k_Mo.1 d_Mo_same_129 (Mo_step_ok f0 f2 (by omega)) Y_Mo_step Yi_Mo_step Yv_Mo_step ln_Mo_55 ⟨(Nat.le_of_ble_eq_true rfl), (Nat.le_of_ble_eq_true rfl)⟩ (Nat.le_of_ble_eq_true rfl) ⟨(Nat.le_of_ble_eq_true rfl), (Nat.le_of_ble_eq_true rfl)⟩ ?_
                refine zn_iadd F d_Mo_same_132 ?_
                refine zn_lshl F d_Mo_same_133 (by omega) ?_
                rw [Nat.one_mul]
                refine zn_lor F d_Mo_same_134 ?_
                refine zv_lstore_n F d_Mo_same_135 (Nat.le_of_ble_eq_true rfl) ?_
                simp only [zv_s1, zv_s2, zv_kill, List.set_cons_zero, List.set_cons_succ, List.getElem?_cons_zero, List.getElem?_cons_succ]
                refine zn_iinc F d_Mo_same_136 rfl ?_
                simp only [zv_s1, zv_s2, zv_kill, List.set_cons_zero, List.set_cons_succ, List.getElem?_cons_zero, List.getElem?_cons_succ]
                refine zv_goto (tgt := 33) F d_Mo_same_139 rfl ?_
                first | exact zv_weak (by repeat' (first | exact True.intro | refine And.intro rfl ?_)) (ih2 (36 - (p + 1)) (by omega) (p + 1) t rfl (by omega) hk36 (sm_I_skip X hbit)) | exact zv_weak (by repeat' (first | exact True.intro | refine And.intro rfl ?_)) (ih2 (36 - (p + 1)) (by omega) (p + 1) _ rfl (by omega) hk36 (sm_I_take k1 k2 p1 p2 l1 l2 X hbit hag))
              · refine zn_iconst (x := 0) F d_Mo_same_74 (by decide) ?_
                exact zv_zret F d_Mo_same_75 (Nat.le_of_ble_eq_true rfl) (Nat.le_of_ble_eq_true rfl) (by first | rfl | exact zn_nb _) ⟨zn_bf (no (fun h => (hr.mp h).2.2) (fun q => h71 (by
                  obtain ⟨w, hw⟩ := X.2.2.1 p hbit
                  have r2 : bf_run (mo_G gg j) w < 6 := by have := bf_from_lt k2 w 0 p2; rw [bf_from_0] at this; omega
                  have q2 := q w
                  unfold sm_p at hw
                  rw [show p / 6 = bf_run (mo_G gg i) w by omega, show p % 6 = bf_run (mo_G gg j) w by omega, q2]))), rfl, rfl⟩
      refine zv_iload F d_Mo_same_23 rfl ?_
      refine zn_bipush (x := 36) F d_Mo_same_25 (by decide) ?_
      refine zn_icmp_ge (tgt := 148) F d_Mo_same_27 rfl (by omega) (by omega) (fun h27 => ?_) (fun h27 => ?_)
      · refine zn_iconst (x := 1) F d_Mo_same_148 (by decide) ?_
        exact zv_zret F d_Mo_same_149 (Nat.le_of_ble_eq_true rfl) (Nat.le_of_ble_eq_true rfl) (by first | rfl | exact zn_nb _) ⟨zn_bt (hr.mpr ⟨hic, hjc, by
          rcases hC with hC | hC
          · exact sm_C_all k1 k2 p1 p2 l2 hC
          · have := al_cc_le (fun q => s.testBit q) 36
            omega⟩), rfl, rfl⟩
      · refine zn_iconst (x := 0) F d_Mo_same_30 (by decide) ?_
        refine zv_istore F d_Mo_same_31 (Nat.le_of_ble_eq_true rfl) ?_
        simp only [zv_s1, zv_s2, zv_kill, List.set_cons_zero, List.set_cons_succ, List.getElem?_cons_zero, List.getElem?_cons_succ]
        exact zv_weak (by repeat' (first | exact True.intro | refine And.intro rfl ?_)) (inner _ 0 s rfl (by decide) (by omega) (sm_I_0 hs hw h0))
  refine zv_aload_n F d_Mo_same_0 rfl ?_
  refine zv_iload_n F d_Mo_same_1 rfl ?_
  refine zv_pV1 F rfl (by assumption) k_Mo.1 d_Mo_same_2 (Mo_isIn_ok f0 hc hi) Y_Mo_isIn Yi_Mo_isIn Yv_Mo_isIn ln_Mo_105 ⟨(Nat.le_of_ble_eq_true rfl), (Nat.le_of_ble_eq_true rfl)⟩ (Nat.le_of_ble_eq_true rfl) ⟨(Nat.le_of_ble_eq_true rfl), (Nat.le_of_ble_eq_true rfl)⟩ ?_
  first | refine zn_bif_eq (tgt := 16) F d_Mo_same_5 rfl (fun h5 => ?_) (fun h5 => ?_) | refine zn_if_eq (tgt := 16) F d_Mo_same_5 rfl (by omega) (fun h5 => ?_) (fun h5 => ?_)
  · have h5 := of_decide_eq_false h5
    refine zn_iconst (x := 0) F d_Mo_same_16 (by decide) ?_
    exact zv_zret F d_Mo_same_17 (Nat.le_of_ble_eq_true rfl) (Nat.le_of_ble_eq_true rfl) (by first | rfl | exact zn_nb _) ⟨zn_bf (no (fun h => (⟨(hr.mp h).1, (hr.mp h).2.1⟩ : i < c ∧ j < c)) (by omega)), rfl, rfl⟩
  · have h5 := of_decide_eq_true h5
    refine zv_aload_n F d_Mo_same_8 rfl ?_
    refine zv_iload_n F d_Mo_same_9 rfl ?_
    refine zv_pV1 F rfl (by assumption) k_Mo.1 d_Mo_same_10 (Mo_isIn_ok f0 hc hj) Y_Mo_isIn Yi_Mo_isIn Yv_Mo_isIn ln_Mo_105 ⟨(Nat.le_of_ble_eq_true rfl), (Nat.le_of_ble_eq_true rfl)⟩ (Nat.le_of_ble_eq_true rfl) ⟨(Nat.le_of_ble_eq_true rfl), (Nat.le_of_ble_eq_true rfl)⟩ ?_
    first | refine zn_bif_ne (tgt := 18) F d_Mo_same_13 rfl (fun h13 => ?_) (fun h13 => ?_) | refine zn_if_ne (tgt := 18) F d_Mo_same_13 rfl (by omega) (fun h13 => ?_) (fun h13 => ?_)
    · have h13 := of_decide_eq_true h13
      refine zn_lconst (x := 1) F d_Mo_same_18 (by decide) ?_
      refine zv_lstore_n F d_Mo_same_19 (Nat.le_of_ble_eq_true rfl) ?_
      simp only [zv_s1, zv_s2, zv_kill, List.set_cons_zero, List.set_cons_succ, List.getElem?_cons_zero, List.getElem?_cons_succ]
      refine zn_iconst (x := 0) F d_Mo_same_20 (by decide) ?_
      refine zv_istore F d_Mo_same_21 (Nat.le_of_ble_eq_true rfl) ?_
      simp only [zv_s1, zv_s2, zv_kill, List.set_cons_zero, List.set_cons_succ, List.getElem?_cons_zero, List.getElem?_cons_succ]
      refine zv_weak (by repeat' (first | exact True.intro | refine And.intro rfl ?_)) (outer _ 0 1 rfl (by decide) h5 h13 (by decide) (fun q hq => ?_) (by decide) (Or.inr (by decide)))
      refine ⟨[], ?_⟩
      have := sm_lt (s := 1) (by decide) hq
      have hz : q = 0 := by
        have h1 := sm_bit.mpr hq
        by_cases e : q = 0
        · exact e
        · have : 1 / 2 ^ q = 0 := Nat.div_eq_of_lt (Nat.one_lt_two_pow e)
          omega
      rw [hz]; rfl
    · have h13 := of_decide_eq_false h13
      refine zn_iconst (x := 0) F d_Mo_same_16 (by decide) ?_
      exact zv_zret F d_Mo_same_17 (Nat.le_of_ble_eq_true rfl) (Nat.le_of_ble_eq_true rfl) (by first | rfl | exact zn_nb _) ⟨zn_bf (no (fun h => (⟨(hr.mp h).1, (hr.mp h).2.1⟩ : i < c ∧ j < c)) (by omega)), rfl, rfl⟩

