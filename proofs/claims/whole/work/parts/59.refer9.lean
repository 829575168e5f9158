def al_cp (n : Nat) (ds : Nat → Nat) (j k : Nat) : Nat := p6_k (fun q => ds k / 6 ^ (ds j / 6 ^ q % 6) % 6) n
theorem al_Hprod {n e : Nat} {g fd lg ds pr : Nat → Nat} (hn : n ≤ 6) (hg : ∀ j, j < 2 * n → g j < n) (hT : al_T n g e lg) (hrun : ∀ w, fd (bf_run lg w) = p6_k (fun q => bf_from g q w) n) (hinj : ∀ k k2, k < e → k2 < e → fd k = fd k2 → k = k2) (hds : ∀ k, k < e → ds k = fd k) (hp : ∀ j k, j < e → k < e → pr (60 * j + k) = zf_ff (fun t => decide (fd t = al_cp n ds j k)) 0 e) : al_P e lg pr ∧ ∀ j k, j < e → k < e → pr (60 * j + k) < e := by
  have b6 : ∀ (w : List Bool) (q : Nat), q < n → bf_from g q w < 6 := fun w q hq => by have := bf_from_lt hg w q hq; omega
  have P : al_P e lg pr := by
    intro u v
    have lu := bf_run_lt hT.1 u
    have lv := bf_run_lt hT.1 v
    have luv := bf_run_lt hT.1 (u ++ v)
    have ecp : al_cp n ds (bf_run lg u) (bf_run lg v) = fd (bf_run lg (u ++ v)) := by
      rw [hrun]
      unfold al_cp
      refine p6_congr fun q hq => ?_
      rw [hds _ lu, hds _ lv, hrun, hrun, p6_at (b6 u) q hq, p6_at (b6 v) _ (bf_from_lt hg u q hq), bf_from_app]
    rw [hp _ _ lu lv, ecp]
    obtain ⟨y1, y2, y3, y4⟩ := zf_spec (fun t => decide (fd t = fd (bf_run lg (u ++ v)))) e 0
    have h1 : ¬ bf_run lg (u ++ v) < zf_ff (fun t => decide (fd t = fd (bf_run lg (u ++ v)))) 0 e := fun z => of_decide_eq_false (y3 _ (Nat.zero_le _) z) rfl
    have h2 : zf_ff (fun t => decide (fd t = fd (bf_run lg (u ++ v)))) 0 e < e := by omega
    exact hinj _ _ h2 luv (of_decide_eq_true (y4 (by omega)))
  refine ⟨P, fun j k hj hk => ?_⟩
  obtain ⟨u, hu⟩ := bf_all hT.1 hj
  obtain ⟨v, hv⟩ := bf_all hT.1 hk
  have := P u v
  rw [hu, hv] at this
  rw [this]
  exact bf_run_lt hT.1 _
theorem Mo_study_ok {l : Launch} {Δ : zv_D} {hp : zv_M} {sz : Nat} {y c el i : Nat} {ns gg gd wd pr : Nat → Nat} (hat : mo_at Δ hp y c ns gg gd el wd pr) (hc : c ≤ 12) (hi : i < 4294967296) (hn : i < c → ns i ≤ 6) (hg : i < c → ∀ j, j < 2 * ns i → mo_G gg i j < ns i) : zv_E l Δ 3 y_Mo_study b_Mo_study 8 ((some (FieldType.int))) [.ref y, .int (nI i)] hp sz 0 0 (fun r hp1 sz1 => ∃ v : Nat, r = some (.int (nI v)) ∧ sz1 = sz ∧ (∀ q, q < y ∨ y + 14 ≤ q → hp1 q = hp q) ∧ ((¬ i < c ∧ v = 4294967295 ∧ mo_at Δ hp1 y c ns gg gd el wd pr) ∨ (i < c ∧ al_big (ns i) (mo_G gg i) 61 ∧ v = 4294967293 ∧ mo_at Δ hp1 y c ns gg gd el wd pr) ∨ (i < c ∧ ∃ wd1 pr1 : Nat → Nat, mo_at Δ hp1 y c ns gg gd v wd1 pr1 ∧ al_ok (ns i) (mo_G gg i) v wd1 pr1))) := by
  refine zv_E.intro (lv0 := [some (.ref y), some (.int (nI i)), none, none, none, none, none, none]) rfl (Nat.le_of_ble_eq_true rfl) rfl ?_
  intro Γ hl F
  clear hl
  have hat0 := hat
  obtain ⟨⟨op, fi, se, st, f0⟩, f1, f2, f3, hrest⟩ := hat
  have prod : ∀ (hB : zv_M) (e : Nat) (fd fw ds wd1 lg : Nat → Nat), i < c → hB y = some (mo_obj y c op fi se (ns i) e) → hB (y + 1) = some (zn_I Δ 12 ns) → hB (y + 2) = some (zn_I Δ 144 gg) → hB (y + 3) = some (zn_I Δ 12 gd) → hB (y + 9) = some (zn_I Δ 60 ds) → hB (y + 10) = some (zn_J Δ 60 wd1) → hB (y + 11) = some (zn_I Δ 61 fd) → mo_rest Δ hB y wd1 pr → (∀ q, q < y ∨ y + 14 ≤ q → hB q = hp q) → e ≤ 60 → 0 < e → al_T (ns i) (mo_G gg i) e lg → al_W e lg wd1 → (∀ w, fd (bf_run lg w) = p6_k (fun q => bf_from (mo_G gg i) q w) (ns i)) → (∀ k k2, k < e → k2 < e → fd k = fd k2 → k = k2) → (∀ k, k < e → ds k = fd k) → (∀ k, k < e → fd k < 46656) → ∀ (z j : Nat) (h' : zv_M) (pr1 : Nat → Nat), z = e - j → j ≤ e → h' (y + 13) = some (zn_I Δ 3600 pr1) → (∀ q, q ≠ y + 13 → h' q = hB q) → (∀ x k, x < j → k < e → pr1 (60 * x + k) = zf_ff (fun t => decide (fd t = al_cp (ns i) ds x k)) 0 e) → zv_V Δ Γ (zv_QQ Δ Γ 0 0 (fun r hp1 sz1 => ∃ v : Nat, r = some (.int (nI v)) ∧ sz1 = sz ∧ (∀ q, q < y ∨ y + 14 ≤ q → hp1 q = hp q) ∧ ((¬ i < c ∧ v = 4294967295 ∧ mo_at Δ hp1 y c ns gg gd el wd pr) ∨ (i < c ∧ al_big (ns i) (mo_G gg i) 61 ∧ v = 4294967293 ∧ mo_at Δ hp1 y c ns gg gd el wd pr) ∨ (i < c ∧ ∃ wd1 pr1 : Nat → Nat, mo_at Δ hp1 y c ns gg gd v wd1 pr1 ∧ al_ok (ns i) (mo_G gg i) v wd1 pr1)))) 82 [some (.ref y), some (.int (nI i)), some (.int (nI e)), some (.int (nI j)), none, none, none, none] [] h' sz 0 0 := by
    intro hB e fd fw ds wd1 lg hic g0 g1 g2 g3 g9 ga gb grest gfr he he0 hT hW hrun hinj hds hfb z
    have hni := hn hic
    induction z using Nat.strongRecOn with
    | ind z ih =>
      intro j h' pr1 hz hj fdd fr hp1
      have mid : ∀ (z2 k : Nat) (h' : zv_M) (pr1 : Nat → Nat), z2 = e - k → k ≤ e → j < e → h' (y + 13) = some (zn_I Δ 3600 pr1) → (∀ q, q ≠ y + 13 → h' q = hB q) → (∀ x k, x < j → k < e → pr1 (60 * x + k) = zf_ff (fun t => decide (fd t = al_cp (ns i) ds x k)) 0 e) → (∀ x, x < k → pr1 (60 * j + x) = zf_ff (fun t => decide (fd t = al_cp (ns i) ds j x)) 0 e) → zv_V Δ Γ (zv_QQ Δ Γ 0 0 (fun r hp1 sz1 => ∃ v : Nat, r = some (.int (nI v)) ∧ sz1 = sz ∧ (∀ q, q < y ∨ y + 14 ≤ q → hp1 q = hp q) ∧ ((¬ i < c ∧ v = 4294967295 ∧ mo_at Δ hp1 y c ns gg gd el wd pr) ∨ (i < c ∧ al_big (ns i) (mo_G gg i) 61 ∧ v = 4294967293 ∧ mo_at Δ hp1 y c ns gg gd el wd pr) ∨ (i < c ∧ ∃ wd1 pr1 : Nat → Nat, mo_at Δ hp1 y c ns gg gd v wd1 pr1 ∧ al_ok (ns i) (mo_G gg i) v wd1 pr1)))) 93 [some (.ref y), some (.int (nI i)), some (.int (nI e)), some (.int (nI j)), some (.int (nI k)), none, none, none] [] h' sz 0 0 := by
        intro z2
        induction z2 using Nat.strongRecOn with
        | ind z2 ih2 =>
          intro k h' pr1 hz2 hk hje fdd fr hp1 hp2
          have f0 := (fr y (by omega)).trans g0
          have f9 := (fr (y + 9) (by omega)).trans g9
          have fb := (fr (y + 11) (by omega)).trans gb
          have hdj : ds j < 46656 := by rw [hds j hje]; exact hfb j hje
          have inn : ∀ (z3 q : Nat), z3 = ns i - q → q ≤ ns i → k < e → zv_V Δ Γ (zv_QQ Δ Γ 0 0 (fun r hp1 sz1 => ∃ v : Nat, r = some (.int (nI v)) ∧ sz1 = sz ∧ (∀ q, q < y ∨ y + 14 ≤ q → hp1 q = hp q) ∧ ((¬ i < c ∧ v = 4294967295 ∧ mo_at Δ hp1 y c ns gg gd el wd pr) ∨ (i < c ∧ al_big (ns i) (mo_G gg i) 61 ∧ v = 4294967293 ∧ mo_at Δ hp1 y c ns gg gd el wd pr) ∨ (i < c ∧ ∃ wd1 pr1 : Nat → Nat, mo_at Δ hp1 y c ns gg gd v wd1 pr1 ∧ al_ok (ns i) (mo_G gg i) v wd1 pr1)))) 108 [some (.ref y), some (.int (nI i)), some (.int (nI e)), some (.int (nI j)), some (.int (nI k)), some (.int (nI (al_cp q ds j k))), some (.int (nI q)), none] [] h' sz 0 0 := by
            intro z3
            induction z3 using Nat.strongRecOn with
            | ind z3 ih3 =>
              intro q hz3 hq hke
              have hdk : ds k < 46656 := by rw [hds k hke]; exact hfb k hke
              have hcb : al_cp (ns i) ds j k < 46656 := p6_big hni (fun q hq => by omega)
              refine zv_iload F d_Mo_study_108 rfl ?_
              refine zv_aload_n F d_Mo_study_110 rfl ?_
              refine zv_get F d_Mo_study_111 (by assumption) k_Mo 12 (Nat.le_of_ble_eq_true rfl) ln_Mo_133 rfl (by rfl) ?_
              refine zn_icmp_ge (tgt := 167) F d_Mo_study_114 rfl (by omega) (by omega) (fun h114 => ?_) (fun h114 => ?_)
              · have eq : q = ns i := by omega
                rw [eq]
                refine zv_aload_n F d_Mo_study_167 rfl ?_
                refine zv_get F d_Mo_study_168 (by assumption) k_Mo 18 (Nat.le_of_ble_eq_true rfl) ln_Mo_48 rfl (by rfl) ?_
                refine zn_bipush (x := 60) F d_Mo_study_171 (by decide) ?_
                refine zv_iload_n F d_Mo_study_173 rfl ?_
                refine zn_imul F d_Mo_study_174 ?_
                refine zv_iload F d_Mo_study_175 rfl ?_
                refine zn_iadd F d_Mo_study_177 ?_
                refine zv_aload_n F d_Mo_study_178 rfl ?_
                refine zv_iload F d_Mo_study_179 rfl ?_
                refine zv_aload_n F d_Mo_study_181 rfl ?_
                refine zv_get F d_Mo_study_182 (by assumption) k_Mo 13 (Nat.le_of_ble_eq_true rfl) ln_Mo_130 rfl (by rfl) ?_
                refine zv_pV2 F rfl (by assumption) k_Mo.1 d_Mo_study_185 (Mo_find_ok f0 fb (by omega) (by omega) (fun k2 hk2 => by have := hfb k2 hk2; omega)) Y_Mo_find Yi_Mo_find Yv_Mo_find ln_Mo_122 ⟨(Nat.le_of_ble_eq_true rfl), (Nat.le_of_ble_eq_true rfl)⟩ (Nat.le_of_ble_eq_true rfl) ⟨(Nat.le_of_ble_eq_true rfl), (Nat.le_of_ble_eq_true rfl)⟩ ?_
                refine zn_iast F d_Mo_study_188 (by assumption) (by omega) (by omega) (fun hp188 e188 => ?_)
                replace f0 := (zv_ne e188 (by omega)).trans f0
                replace f9 := (zv_ne e188 (by omega)).trans f9
                replace fb := (zv_ne e188 (by omega)).trans fb
                replace fdd := zv_eq e188
                replace fr := fun b hb => (zv_ne (b := b) e188 (by omega)).trans (fr b hb)
                refine zn_iinc F d_Mo_study_189 rfl ?_
                simp only [zv_s1, zv_s2, zv_kill, List.set_cons_zero, List.set_cons_succ, List.getElem?_cons_zero, List.getElem?_cons_succ]
                refine zv_goto (tgt := 93) F d_Mo_study_192 rfl ?_
                refine zv_weak (by repeat' (first | exact True.intro | refine And.intro rfl ?_)) (ih2 (e - (k + 1)) (by omega) (k + 1) _ _ rfl (by omega) hje fdd fr (fun x k2 hx hk2 => ?_) (fun x hx => ?_))
                · simp only [va_up]; rw [if_neg (by omega)]; exact hp1 x k2 hx hk2
                · by_cases c : x = k
                  · simp only [va_up, c, if_true]
                  · simp only [va_up]; rw [if_neg (by omega)]; exact hp2 x (by omega)
              · have pw := p6_le q (by omega)
                have pp : 0 < 6 ^ q := Nat.pow_pos (by decide)
                have hdv : ds j / 6 ^ q ≤ ds j := Nat.div_le_self _ _
                have pw2 := p6_le (ds j / 6 ^ q % 6) (by omega)
                have pp2 : 0 < 6 ^ (ds j / 6 ^ q % 6) := Nat.pow_pos (by decide)
                have hdv2 : ds k / 6 ^ (ds j / 6 ^ q % 6) ≤ ds k := Nat.div_le_self _ _
                refine zv_aload_n F d_Mo_study_117 rfl ?_
                refine zv_get F d_Mo_study_118 (by assumption) k_Mo 14 (Nat.le_of_ble_eq_true rfl) ln_Mo_36 rfl (by rfl) ?_
                refine zv_iload_n F d_Mo_study_121 rfl ?_
                refine zn_iald F d_Mo_study_122 (by assumption) (by omega) (by omega) ?_
                refine zv_iload F d_Mo_study_123 rfl ?_
                refine zv_pS1 F rfl d_Mo_study_125 (Mo_power_ok (by omega)) Y_Mo_power Ys_Mo_power ln_Mo_114 ⟨(Nat.le_of_ble_eq_true rfl), (Nat.le_of_ble_eq_true rfl)⟩ (Nat.le_of_ble_eq_true rfl) ⟨(Nat.le_of_ble_eq_true rfl), (Nat.le_of_ble_eq_true rfl)⟩ ?_
                refine zn_idiv F d_Mo_study_128 (by omega) (by omega) (by omega) ?_
                refine zn_bipush (x := 6) F d_Mo_study_129 (by decide) ?_
                refine zn_irem F d_Mo_study_131 (by omega) (by omega) (by omega) ?_
                refine zv_istore F d_Mo_study_132 (Nat.le_of_ble_eq_true rfl) ?_
                simp only [zv_s1, zv_s2, zv_kill, List.set_cons_zero, List.set_cons_succ, List.getElem?_cons_zero, List.getElem?_cons_succ]
                refine zv_iload F d_Mo_study_134 rfl ?_
                refine zv_aload_n F d_Mo_study_136 rfl ?_
                refine zv_get F d_Mo_study_137 (by assumption) k_Mo 14 (Nat.le_of_ble_eq_true rfl) ln_Mo_36 rfl (by rfl) ?_
                refine zv_iload F d_Mo_study_140 rfl ?_
                refine zn_iald F d_Mo_study_142 (by assumption) (by omega) (by omega) ?_
                refine zv_iload F d_Mo_study_143 rfl ?_
                refine zv_pS1 F rfl d_Mo_study_145 (Mo_power_ok (by omega)) Y_Mo_power Ys_Mo_power ln_Mo_114 ⟨(Nat.le_of_ble_eq_true rfl), (Nat.le_of_ble_eq_true rfl)⟩ (Nat.le_of_ble_eq_true rfl) ⟨(Nat.le_of_ble_eq_true rfl), (Nat.le_of_ble_eq_true rfl)⟩ ?_
                refine zn_idiv F d_Mo_study_148 (by omega) (by omega) (by omega) ?_
                refine zn_bipush (x := 6) F d_Mo_study_149 (by decide) ?_
                refine zn_irem F d_Mo_study_151 (by omega) (by omega) (by omega) ?_
                refine zv_iload F d_Mo_study_152 rfl ?_
                refine zv_pS1 F rfl d_Mo_study_154 (Mo_power_ok (by omega)) Y_Mo_power Ys_Mo_power ln_Mo_114 ⟨(Nat.le_of_ble_eq_true rfl), (Nat.le_of_ble_eq_true rfl)⟩ (Nat.le_of_ble_eq_true rfl) ⟨(Nat.le_of_ble_eq_true rfl), (Nat.le_of_ble_eq_true rfl)⟩ ?_
                refine zn_imul F d_Mo_study_157 ?_
                refine zn_iadd F d_Mo_study_158 ?_
                refine zv_istore F d_Mo_study_159 (Nat.le_of_ble_eq_true rfl) ?_
                simp only [zv_s1, zv_s2, zv_kill, List.set_cons_zero, List.set_cons_succ, List.getElem?_cons_zero, List.getElem?_cons_succ]
                refine zn_iinc F d_Mo_study_161 rfl ?_
                simp only [zv_s1, zv_s2, zv_kill, List.set_cons_zero, List.set_cons_succ, List.getElem?_cons_zero, List.getElem?_cons_succ]
                refine zv_goto (tgt := 108) F d_Mo_study_164 rfl ?_
                exact zv_weak (by repeat' (first | exact True.intro | refine And.intro rfl ?_)) (ih3 (ns i - (q + 1)) (by omega) (q + 1) rfl (by omega) hke)
          refine zv_iload F d_Mo_study_93 rfl ?_
          refine zv_aload_n F d_Mo_study_95 rfl ?_
          refine zv_get F d_Mo_study_96 (by assumption) k_Mo 13 (Nat.le_of_ble_eq_true rfl) ln_Mo_130 rfl (by rfl) ?_
          refine zn_icmp_ge (tgt := 195) F d_Mo_study_99 rfl (by omega) (by omega) (fun h99 => ?_) (fun h99 => ?_)
          · refine zn_iinc F d_Mo_study_195 rfl ?_
            simp only [zv_s1, zv_s2, zv_kill, List.set_cons_zero, List.set_cons_succ, List.getElem?_cons_zero, List.getElem?_cons_succ]
            refine zv_goto (tgt := 82) F d_Mo_study_198 rfl ?_
            exact zv_weak (by repeat' (first | exact True.intro | refine And.intro rfl ?_)) (ih (e - (j + 1)) (by omega) (j + 1) _ pr1 rfl (by omega) fdd fr (fun x k2 hx hk2 => if c : x = j then (by rw [c]; exact hp2 k2 (by omega)) else hp1 x k2 (by omega) hk2))
          · refine zn_iconst (x := 0) F d_Mo_study_102 (by decide) ?_
            refine zv_istore F d_Mo_study_103 (Nat.le_of_ble_eq_true rfl) ?_
            simp only [zv_s1, zv_s2, zv_kill, List.set_cons_zero, List.set_cons_succ, List.getElem?_cons_zero, List.getElem?_cons_succ]
            refine zn_iconst (x := 0) F d_Mo_study_105 (by decide) ?_
            refine zv_istore F d_Mo_study_106 (Nat.le_of_ble_eq_true rfl) ?_
            simp only [zv_s1, zv_s2, zv_kill, List.set_cons_zero, List.set_cons_succ, List.getElem?_cons_zero, List.getElem?_cons_succ]
            exact zv_weak (by repeat' (first | exact True.intro | refine And.intro rfl ?_)) (inn _ 0 rfl (Nat.zero_le _) (by omega))
      have f0 := (fr y (by omega)).trans g0
      refine zv_iload_n F d_Mo_study_82 rfl ?_
      refine zv_aload_n F d_Mo_study_83 rfl ?_
      refine zv_get F d_Mo_study_84 (by assumption) k_Mo 13 (Nat.le_of_ble_eq_true rfl) ln_Mo_130 rfl (by rfl) ?_
      refine zn_icmp_ge (tgt := 201) F d_Mo_study_87 rfl (by omega) (by omega) (fun h87 => ?_) (fun h87 => ?_)
      · refine zv_aload_n F d_Mo_study_201 rfl ?_
        refine zv_get F d_Mo_study_202 (by assumption) k_Mo 13 (Nat.le_of_ble_eq_true rfl) ln_Mo_130 rfl (by rfl) ?_
        exact zv_iret F d_Mo_study_205 (Nat.le_of_ble_eq_true rfl) (Nat.le_of_ble_eq_true rfl) (by
          have ej : j = e := by omega
          subst ej
          obtain ⟨q1, q2⟩ := al_Hprod hni (hg hic) hT hrun hinj hds hp1
          refine ⟨j, rfl, rfl, fun q hq => (fr q (by omega)).trans (gfr q hq), Or.inr (Or.inr ⟨hic, wd1, pr1, ⟨⟨op, fi, se, ns i, f0⟩, (fr _ (by omega)).trans g1, (fr _ (by omega)).trans g2, (fr _ (by omega)).trans g3, ?_⟩, he, he0, lg, hT, hW, q1, q2⟩)⟩
          obtain ⟨sa2, mr2, mt2, ln2, ds2, fd2, fw2, sn2, h4, h5, h6, h7, h8, h9, ha, hb9, hc9, hd9⟩ := grest
          exact ⟨sa2, mr2, mt2, ln2, ds2, fd2, fw2, sn2, (fr _ (by omega)).trans h4, (fr _ (by omega)).trans h5, (fr _ (by omega)).trans h6, (fr _ (by omega)).trans h7, (fr _ (by omega)).trans h8, (fr _ (by omega)).trans h9, (fr _ (by omega)).trans ha, (fr _ (by omega)).trans hb9, (fr _ (by omega)).trans hc9, fdd⟩)
      · refine zn_iconst (x := 0) F d_Mo_study_90 (by decide) ?_
        refine zv_istore F d_Mo_study_91 (Nat.le_of_ble_eq_true rfl) ?_
        simp only [zv_s1, zv_s2, zv_kill, List.set_cons_zero, List.set_cons_succ, List.getElem?_cons_zero, List.getElem?_cons_succ]
        exact zv_weak (by repeat' (first | exact True.intro | refine And.intro rfl ?_)) (mid _ 0 _ pr1 rfl (Nat.zero_le _) (by omega) fdd fr hp1 (fun x hx => by omega))
  have copy : ∀ (hA : zv_M) (e : Nat) (fd fw lg : Nat → Nat), i < c → hA y = some (mo_obj y c op fi se (ns i) e) → hA (y + 1) = some (zn_I Δ 12 ns) → hA (y + 2) = some (zn_I Δ 144 gg) → hA (y + 3) = some (zn_I Δ 12 gd) → hA (y + 11) = some (zn_I Δ 61 fd) → hA (y + 12) = some (zn_J Δ 61 fw) → mo_rest Δ hA y wd pr → (∀ q, q < y ∨ y + 14 ≤ q → hA q = hp q) → e ≤ 60 → 0 < e → al_T (ns i) (mo_G gg i) e lg → al_W e lg fw → (∀ w, fd (bf_run lg w) = p6_k (fun q => bf_from (mo_G gg i) q w) (ns i)) → (∀ k k2, k < e → k2 < e → fd k = fd k2 → k = k2) → (∀ k, k < e → fd k < 46656) → ∀ (z j : Nat) (h' : zv_M) (ds wd1 : Nat → Nat), z = e - j → j ≤ e → h' (y + 9) = some (zn_I Δ 60 ds) → h' (y + 10) = some (zn_J Δ 60 wd1) → (∀ q, q ≠ y + 9 ∧ q ≠ y + 10 → h' q = hA q) → (∀ x, x < j → ds x = fd x ∧ wd1 x = fw x) → zv_V Δ Γ (zv_QQ Δ Γ 0 0 (fun r hp1 sz1 => ∃ v : Nat, r = some (.int (nI v)) ∧ sz1 = sz ∧ (∀ q, q < y ∨ y + 14 ≤ q → hp1 q = hp q) ∧ ((¬ i < c ∧ v = 4294967295 ∧ mo_at Δ hp1 y c ns gg gd el wd pr) ∨ (i < c ∧ al_big (ns i) (mo_G gg i) 61 ∧ v = 4294967293 ∧ mo_at Δ hp1 y c ns gg gd el wd pr) ∨ (i < c ∧ ∃ wd1 pr1 : Nat → Nat, mo_at Δ hp1 y c ns gg gd v wd1 pr1 ∧ al_ok (ns i) (mo_G gg i) v wd1 pr1)))) 42 [some (.ref y), some (.int (nI i)), some (.int (nI e)), some (.int (nI j)), none, none, none, none] [] h' sz 0 0 := by
    intro hA e fd fw lg hic g0 g1 g2 g3 gb gc grest gfr he he0 hT hW hrun hinj hfb z
    induction z using Nat.strongRecOn with
    | ind z ih =>
      intro j h' ds wd1 hz hj f9 fa fr hx
      have f0 := (fr y (by omega)).trans g0
      have fb := (fr (y + 11) (by omega)).trans gb
      have fc := (fr (y + 12) (by omega)).trans gc
      refine zv_iload_n F d_Mo_study_42 rfl ?_
      refine zv_aload_n F d_Mo_study_43 rfl ?_
      refine zv_get F d_Mo_study_44 (by assumption) k_Mo 13 (Nat.le_of_ble_eq_true rfl) ln_Mo_130 rfl (by rfl) ?_
      refine zn_icmp_ge (tgt := 80) F d_Mo_study_47 rfl (by omega) (by omega) (fun h47 => ?_) (fun h47 => ?_)
      · refine zn_iconst (x := 0) F d_Mo_study_80 (by decide) ?_
        refine zv_istore_n F d_Mo_study_81 (Nat.le_of_ble_eq_true rfl) ?_
        simp only [zv_s1, zv_s2, zv_kill, List.set_cons_zero, List.set_cons_succ, List.getElem?_cons_zero, List.getElem?_cons_succ]
        have ej : j = e := by omega
        subst ej
        have hW2 : al_W j lg wd1 := by
          refine ⟨by rw [(hx 0 he0).2]; exact hW.1, fun k k1 k2 => ?_⟩
          obtain ⟨s, c1, c2, c3, c4⟩ := hW.2 k k1 k2
          exact ⟨s, c1, c2, c3, by rw [(hx k k2).2, (hx (s / 2) (by omega)).2]; exact c4⟩
        obtain ⟨sa2, mr2, mt2, ln2, ds2, fd2, fw2, sn2, h4, h5, h6, h7, h8, h9, ha, hb9, hc9, hd9⟩ := grest
        exact zv_weak (by repeat' (first | exact True.intro | refine And.intro rfl ?_)) (prod h' j fd fw ds wd1 lg hic f0 ((fr _ (by omega)).trans g1) ((fr _ (by omega)).trans g2) ((fr _ (by omega)).trans g3) f9 fa fb ⟨sa2, mr2, mt2, ln2, ds, fd, fw, sn2, (fr _ (by omega)).trans h4, (fr _ (by omega)).trans h5, (fr _ (by omega)).trans h6, (fr _ (by omega)).trans h7, (fr _ (by omega)).trans h8, f9, fa, fb, fc, (fr _ (by omega)).trans hd9⟩ (fun q hq => (fr q (by omega)).trans (gfr q hq)) he he0 hT hW2 hrun hinj (fun k hk => (hx k hk).1) hfb _ 0 h' pr rfl (Nat.zero_le _) ((fr _ (by omega)).trans hd9) (fun q _ => rfl) (fun x k hx => by omega))
      · refine zv_aload_n F d_Mo_study_50 rfl ?_
        refine zv_get F d_Mo_study_51 (by assumption) k_Mo 14 (Nat.le_of_ble_eq_true rfl) ln_Mo_36 rfl (by rfl) ?_
        refine zv_iload_n F d_Mo_study_54 rfl ?_
        refine zv_aload_n F d_Mo_study_55 rfl ?_
        refine zv_get F d_Mo_study_56 (by assumption) k_Mo 16 (Nat.le_of_ble_eq_true rfl) ln_Mo_42 rfl (by rfl) ?_
        refine zv_iload_n F d_Mo_study_59 rfl ?_
        refine zn_iald F d_Mo_study_60 (by assumption) (by omega) (by omega) ?_
        refine zn_iast F d_Mo_study_61 (by assumption) (by omega) (by omega) (fun hp61 e61 => ?_)
        replace f0 := (zv_ne e61 (by omega)).trans f0
        replace fb := (zv_ne e61 (by omega)).trans fb
        replace fc := (zv_ne e61 (by omega)).trans fc
        replace f9 := zv_eq e61
        replace fa := (zv_ne e61 (by omega)).trans fa
        replace fr := fun b hb => (zv_ne (b := b) e61 (by omega)).trans (fr b hb)
        refine zv_aload_n F d_Mo_study_62 rfl ?_
        refine zv_get F d_Mo_study_63 (by assumption) k_Mo 15 (Nat.le_of_ble_eq_true rfl) ln_Mo_39 rfl (by rfl) ?_
        refine zv_iload_n F d_Mo_study_66 rfl ?_
        refine zv_aload_n F d_Mo_study_67 rfl ?_
        refine zv_get F d_Mo_study_68 (by assumption) k_Mo 17 (Nat.le_of_ble_eq_true rfl) ln_Mo_45 rfl (by rfl) ?_
        refine zv_iload_n F d_Mo_study_71 rfl ?_
        refine zn_lald F d_Mo_study_72 (by assumption) (by omega) (by omega) ?_
        refine zn_last F d_Mo_study_73 (by assumption) (by omega) (by omega) (fun hp73 e73 => ?_)
        replace f0 := (zv_ne e73 (by omega)).trans f0
        replace fb := (zv_ne e73 (by omega)).trans fb
        replace fc := (zv_ne e73 (by omega)).trans fc
        replace f9 := (zv_ne e73 (by omega)).trans f9
        replace fa := zv_eq e73
        replace fr := fun b hb => (zv_ne (b := b) e73 (by omega)).trans (fr b hb)
        refine zn_iinc F d_Mo_study_74 rfl ?_
        simp only [zv_s1, zv_s2, zv_kill, List.set_cons_zero, List.set_cons_succ, List.getElem?_cons_zero, List.getElem?_cons_succ]
        refine zv_goto (tgt := 42) F d_Mo_study_77 rfl ?_
        exact zv_weak (by repeat' (first | exact True.intro | refine And.intro rfl ?_)) (ih (e - (j + 1)) (by omega) (j + 1) _ _ _ rfl (by omega) f9 fa fr (fun x hx2 => if c : x = j then (by rw [c]; constructor <;> simp only [va_up, if_true]) else (by simp only [va_up, c, if_false]; exact hx x (by omega))))
  obtain ⟨sa, mr, mt, ln, ds, fd, fw, sn, f4, f5, f6, f7, f8, f9, fa, fb, fc, fd0⟩ := hrest
  refine zv_aload_n F d_Mo_study_0 rfl ?_
  refine zv_iload_n F d_Mo_study_1 rfl ?_
  refine zv_pV1 F rfl (by assumption) k_Mo.1 d_Mo_study_2 (Mo_isIn_ok f0 hc hi) Y_Mo_isIn Yi_Mo_isIn Yv_Mo_isIn ln_Mo_105 ⟨(Nat.le_of_ble_eq_true rfl), (Nat.le_of_ble_eq_true rfl)⟩ (Nat.le_of_ble_eq_true rfl) ⟨(Nat.le_of_ble_eq_true rfl), (Nat.le_of_ble_eq_true rfl)⟩ ?_
  first | refine zn_bif_ne (tgt := 10) F d_Mo_study_5 rfl (fun h5 => ?_) (fun h5 => ?_) | refine zn_if_ne (tgt := 10) F d_Mo_study_5 rfl (by omega) (fun h5 => ?_) (fun h5 => ?_)
  · have h5 := of_decide_eq_true h5
    refine zv_aload_n F d_Mo_study_10 rfl ?_
    refine zv_iload_n F d_Mo_study_11 rfl ?_
    refine zv_mV1 F rfl (by assumption) k_Mo.1 d_Mo_study_12 (Mo_grow_ok f0 f1 f2 fb fc (by omega) (hn h5) (hg h5)) Y_Mo_grow Yi_Mo_grow Yv_Mo_grow ln_Mo_127 ⟨(Nat.le_of_ble_eq_true rfl), (Nat.le_of_ble_eq_true rfl)⟩ (Nat.le_of_ble_eq_true rfl) ⟨(Nat.le_of_ble_eq_true rfl), (Nat.le_of_ble_eq_true rfl)⟩ (fun r hp12 sz12 q12 => ?_)
    obtain ⟨v, fd, fw, rfl, rfl, fb, fc, fr, hv⟩ := q12
    have hv61 : v ≤ 61 := by rcases hv with h | h; omega; omega
    replace f0 := (fr y (by omega)).trans f0
    replace f1 := (fr (y + 1) (by omega)).trans f1
    replace f2 := (fr (y + 2) (by omega)).trans f2
    replace f3 := (fr (y + 3) (by omega)).trans f3
    replace f4 := (fr (y + 4) (by omega)).trans f4
    replace f5 := (fr (y + 5) (by omega)).trans f5
    replace f6 := (fr (y + 6) (by omega)).trans f6
    replace f7 := (fr (y + 7) (by omega)).trans f7
    replace f8 := (fr (y + 8) (by omega)).trans f8
    replace f9 := (fr (y + 9) (by omega)).trans f9
    replace fa := (fr (y + 10) (by omega)).trans fa
    replace fd0 := (fr (y + 13) (by omega)).trans fd0
    have fr2 : ∀ q, q < y ∨ y + 14 ≤ q → hp12 q = hp q := fun q hq => fr q (by omega)
    try simp only [Option.toList, List.cons_append, List.nil_append]
    refine zv_istore_n F d_Mo_study_15 (Nat.le_of_ble_eq_true rfl) ?_
    simp only [zv_s1, zv_s2, zv_kill, List.set_cons_zero, List.set_cons_succ, List.getElem?_cons_zero, List.getElem?_cons_succ]
    refine zv_iload_n F d_Mo_study_16 rfl ?_
    refine zn_bipush (x := 60) F d_Mo_study_17 (by decide) ?_
    refine zn_icmp_le (tgt := 25) F d_Mo_study_19 rfl (by omega) (by omega) (fun h19 => ?_) (fun h19 => ?_)
    · refine zv_aload_n F d_Mo_study_25 rfl ?_
      refine zv_iload_n F d_Mo_study_26 rfl ?_
      refine zv_put F d_Mo_study_27 f0 k_Mo 13 (Nat.le_of_ble_eq_true rfl) ln_Mo_130 rfl rfl rfl (by rfl) (by rfl) (Nat.le_of_ble_eq_true rfl) (fun hp27 e27 => ?_)
      replace f0 : hp27 y = some (mo_obj y c op fi se st v) := zv_eq e27
      have f1' := (zv_ne e27 (by omega)).trans f1
      refine zv_aload_n F d_Mo_study_30 rfl ?_
      refine zv_aload_n F d_Mo_study_31 rfl ?_
      refine zv_get F d_Mo_study_32 (by assumption) k_Mo 1 (Nat.le_of_ble_eq_true rfl) ln_Mo_7 rfl (by rfl) ?_
      refine zv_iload_n F d_Mo_study_35 rfl ?_
      refine zn_iald F d_Mo_study_36 (by assumption) (by omega) (by omega) ?_
      refine zv_put F d_Mo_study_37 f0 k_Mo 12 (Nat.le_of_ble_eq_true rfl) ln_Mo_133 rfl rfl rfl (by rfl) (by rfl) (Nat.le_of_ble_eq_true rfl) (fun hp37 e37 => ?_)
      replace f0 : hp37 y = some (mo_obj y c op fi se (ns i) v) := zv_eq e37
      refine zn_iconst (x := 0) F d_Mo_study_40 (by decide) ?_
      refine zv_istore_n F d_Mo_study_41 (Nat.le_of_ble_eq_true rfl) ?_
      simp only [zv_s1, zv_s2, zv_kill, List.set_cons_zero, List.set_cons_succ, List.getElem?_cons_zero, List.getElem?_cons_succ]
      obtain ⟨hv60, hv0, lg, X⟩ : v ≤ 60 ∧ 0 < v ∧ ∃ lg, al_H (ns i) (mo_G gg i) v (2 * v) fd fw lg := by rcases hv with h | h; omega; exact h
      obtain ⟨k1, k2, k3, k4⟩ := al_H_end (hn h5) (hg h5) X
      have b6 : ∀ (w : List Bool) (q : Nat), q < ns i → bf_from (mo_G gg i) q w < 6 := fun w q hq => by have := bf_from_lt (hg h5) w q hq; have := hn h5; omega
      have hfb : ∀ k, k < v → fd k < 46656 := fun k hk => by obtain ⟨w, hw⟩ := bf_all k1.1 hk; rw [← hw, k3 w]; exact p6_big (hn h5) (b6 w)
      have mv : ∀ q, q ≠ y → hp37 q = hp12 q := fun q hq => (zv_ne e37 hq).trans (zv_ne e27 hq)
      exact zv_weak (by repeat' (first | exact True.intro | refine And.intro rfl ?_)) (copy hp37 v fd fw lg h5 f0 ((mv _ (by omega)).trans f1) ((mv _ (by omega)).trans f2) ((mv _ (by omega)).trans f3) ((mv _ (by omega)).trans fb) ((mv _ (by omega)).trans fc) ⟨sa, mr, mt, ln, ds, fd, fw, sn, (mv _ (by omega)).trans f4, (mv _ (by omega)).trans f5, (mv _ (by omega)).trans f6, (mv _ (by omega)).trans f7, (mv _ (by omega)).trans f8, (mv _ (by omega)).trans f9, (mv _ (by omega)).trans fa, (mv _ (by omega)).trans fb, (mv _ (by omega)).trans fc, (mv _ (by omega)).trans fd0⟩ (fun q hq => (mv q (by omega)).trans (fr2 q hq)) hv60 hv0 k1 k2 k3 k4 hfb _ 0 hp37 ds wd rfl (Nat.zero_le _) ((mv _ (by omega)).trans f9) ((mv _ (by omega)).trans fa) (fun q _ => rfl) (fun x hx => by omega))
    · refine zn_bipush (x := 4294967293) F d_Mo_study_22 (by decide) ?_
      exact zv_iret F d_Mo_study_24 (Nat.le_of_ble_eq_true rfl) (Nat.le_of_ble_eq_true rfl) (by
        rcases hv with h | h
        · exact ⟨4294967293, rfl, rfl, fr2, Or.inr (Or.inl ⟨h5, h.2, rfl, ⟨op, fi, se, st, f0⟩, f1, f2, f3, sa, mr, mt, ln, ds, fd, fw, sn, f4, f5, f6, f7, f8, f9, fa, fb, fc, fd0⟩)⟩
        · omega)
  · have h5 := of_decide_eq_false h5
    refine zn_iconst (x := 4294967295) F d_Mo_study_8 (by decide) ?_
    exact zv_iret F d_Mo_study_9 (Nat.le_of_ble_eq_true rfl) (Nat.le_of_ble_eq_true rfl) ⟨4294967295, rfl, rfl, fun q _ => rfl, Or.inl ⟨h5, rfl, hat0⟩⟩

