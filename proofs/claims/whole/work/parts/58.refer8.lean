theorem zv_pV4 {Δ : zv_D} {Γ : zv_C} {Q : State → Prop} {own nm : String} {cc : ByteArray} {nL : Nat} {ret : Option FieldType} {R : Room} {pc : Nat} {lv : List (Option Value)} {hp : zv_M} {sz ce sl : Nat} {y : MethodName} {bytes : ByteArray} {maxL d index b : Nat} {ret1 : Option FieldType} {rest : List Value} {v v1 v2 v3 v4 : Value} (F : zv_F Δ Γ own nm cc nL ret R) (hlv : lv.length = nL) {ci N : Nat} {T : u_T} {fs : List Value} (ho : hp b = some (.inr (ci, fs))) (hC : zp_classes[ci]? = some (y.cls, T, N)) (hd : decode cc pc = .ok (.invokevirtual index, 3)) (E : zv_P Γ.2.1 Δ d y bytes maxL ret1 [.ref b, v1, v2, v3, v4] hp sz v) (hy : zv_y y bytes maxL ret1 4) (hi : Cond.instanceMethod y ∈ zp_G) (hse : Cond.selects y.cls y y ∈ zp_G) (hlk : Cond.methodLink own index y ∈ zp_G) (hroom : d + 1 ≤ R.frames ∧ 8 + (maxL + 11) + 39 * d ≤ R.locals) (hrest : (rest.map fun v => v.category).sum ≤ 8) (hf : ce ≤ R.cells ∧ sl ≤ R.slots) (k : zv_V Δ Γ Q (pc + 3) lv (v :: rest) hp sz ce sl) : zv_V Δ Γ Q pc lv (v4 :: v3 :: v2 :: v1 :: .ref b :: rest) hp sz ce sl :=
  zv_callV (As := [v1, v2, v3, v4]) F hlv ho hC hd E hy hi hse hlk rfl hroom hrest hf (fun r hp1 sz1 q => by obtain ⟨rfl, rfl, rfl⟩ := q; exact k)
theorem p6_le : ∀ q, q < 6 → 6 ^ q ≤ 7776 := by decide
theorem Mo_power_ok {l : Launch} {Δ : zv_D} {hp : zv_M} {sz : Nat} {k : Nat} (hk : k < 6) : zv_P l Δ 0 y_Mo_power b_Mo_power 3 ((some (FieldType.int))) [.int (nI k)] hp sz (.int (nI (6 ^ k))) := by
  refine zv_E.intro (lv0 := [some (.int (nI k)), none, none]) rfl (Nat.le_of_ble_eq_true rfl) rfl ?_
  intro Γ hl F
  clear hl
  have loop : ∀ (m q : Nat), m = k - q → q ≤ k → zv_V Δ Γ (zv_QQ Δ Γ 0 0 (fun r hp1 sz1 => r = some (.int (nI (6 ^ k))) ∧ hp1 = hp ∧ sz1 = sz)) 4 [some (.int (nI k)), some (.int (nI (6 ^ q))), some (.int (nI q))] [] hp sz 0 0 := by
    intro m
    induction m using Nat.strongRecOn with
    | ind m ih =>
      intro q hm hq
      refine zv_iload_n F d_Mo_power_4 rfl ?_
      refine zv_iload_n F d_Mo_power_5 rfl ?_
      refine zn_icmp_ge (tgt := 20) F d_Mo_power_6 rfl (by omega) (by omega) (fun h6 => ?_) (fun h6 => ?_)
      · refine zv_iload_n F d_Mo_power_20 rfl ?_
        exact zv_iret F d_Mo_power_21 (Nat.le_of_ble_eq_true rfl) (Nat.le_of_ble_eq_true rfl) ⟨zn_rt (by rw [show q = k by omega]), rfl, rfl⟩
      · refine zn_bipush (x := 6) F d_Mo_power_9 (by decide) ?_
        refine zv_iload_n F d_Mo_power_11 rfl ?_
        refine zn_imul F d_Mo_power_12 ?_
        refine zv_istore_n F d_Mo_power_13 (Nat.le_of_ble_eq_true rfl) ?_
        simp only [zv_s1, zv_s2, zv_kill, List.set_cons_zero, List.set_cons_succ, List.getElem?_cons_zero, List.getElem?_cons_succ]
        refine zn_iinc F d_Mo_power_14 rfl ?_
        simp only [zv_s1, zv_s2, zv_kill, List.set_cons_zero, List.set_cons_succ, List.getElem?_cons_zero, List.getElem?_cons_succ]
        refine zv_goto (tgt := 4) F d_Mo_power_17 rfl ?_
        have z := ih (k - (q + 1)) (by omega) (q + 1) rfl (by omega)
        rw [Nat.pow_succ, Nat.mul_comm] at z
        exact z
  refine zn_iconst (x := 1) F d_Mo_power_0 (by decide) ?_
  refine zv_istore_n F d_Mo_power_1 (Nat.le_of_ble_eq_true rfl) ?_
  simp only [zv_s1, zv_s2, zv_kill, List.set_cons_zero, List.set_cons_succ, List.getElem?_cons_zero, List.getElem?_cons_succ]
  refine zn_iconst (x := 0) F d_Mo_power_2 (by decide) ?_
  refine zv_istore_n F d_Mo_power_3 (Nat.le_of_ble_eq_true rfl) ?_
  simp only [zv_s1, zv_s2, zv_kill, List.set_cons_zero, List.set_cons_succ, List.getElem?_cons_zero, List.getElem?_cons_succ]
  exact loop _ 0 rfl (Nat.zero_le _)
/-- maps of states in base six -/
def p6_k (f : Nat → Nat) : Nat → Nat
  | 0 => 0
  | q + 1 => p6_k f q + f q * 6 ^ q
theorem p6_lt {f : Nat → Nat} : ∀ {n : Nat}, (∀ q, q < n → f q < 6) → p6_k f n < 6 ^ n
  | 0, _ => by simp [p6_k]
  | n + 1, h => by
    have h1 := p6_lt (f := f) (n := n) (fun q hq => h q (by omega))
    have h2 := h n (by omega)
    have h3 : f n * 6 ^ n ≤ 5 * 6 ^ n := Nat.mul_le_mul_right _ (by omega)
    unfold p6_k
    rw [Nat.pow_succ]
    omega
theorem p6_at {f : Nat → Nat} : ∀ {n : Nat}, (∀ q, q < n → f q < 6) → ∀ q, q < n → p6_k f n / 6 ^ q % 6 = f q
  | 0, _, q, hq => by omega
  | n + 1, h, q, hq => by
    have hl := p6_lt (f := f) (n := n) (fun q hq => h q (by omega))
    have hn := h n (by omega)
    have e0 : p6_k f (n + 1) = 6 ^ n * f n + p6_k f n := by
      rw [p6_k, Nat.add_comm, Nat.mul_comm]
    rw [e0]
    by_cases e : q = n
    · subst e
      rw [Nat.mul_add_div (Nat.pow_pos (by decide)), Nat.div_eq_of_lt hl, Nat.add_zero, Nat.mod_eq_of_lt hn]
    · have ih := p6_at (f := f) (n := n) (fun q hq => h q (by omega)) q (by omega)
      obtain ⟨k, hk⟩ : ∃ k, n = q + (k + 1) := ⟨n - q - 1, by omega⟩
      have e2 : 6 ^ n * f n = 6 ^ q * (6 * (6 ^ k * f n)) := by
        rw [hk, Nat.pow_add, Nat.pow_succ, Nat.mul_comm (6 ^ k) 6, Nat.mul_assoc, Nat.mul_assoc]
      rw [e2, Nat.mul_add_div (Nat.pow_pos (by decide)), Nat.mul_add_mod]
      exact ih
theorem p6_congr {f f2 : Nat → Nat} : ∀ {n : Nat}, (∀ q, q < n → f q = f2 q) → p6_k f n = p6_k f2 n
  | 0, _ => rfl
  | n + 1, h => by
    unfold p6_k
    rw [p6_congr (n := n) (fun q hq => h q (by omega)), h n (by omega)]
theorem p6_inj {f f2 : Nat → Nat} {n : Nat} (h : ∀ q, q < n → f q < 6) (h2 : ∀ q, q < n → f2 q < 6) : p6_k f n = p6_k f2 n ↔ ∀ q, q < n → f q = f2 q := by
  refine ⟨fun e q hq => ?_, p6_congr⟩
  have a := p6_at h q hq
  rw [e, p6_at h2 q hq] at a
  exact a.symm
theorem p6_big {f : Nat → Nat} {n : Nat} (hn : n ≤ 6) (h : ∀ q, q < n → f q < 6) : p6_k f n < 46656 := Nat.lt_of_lt_of_le (p6_lt h) (Nat.pow_le_pow_right (n := 6) (by decide) hn)
theorem Mo_behind_ok {l : Launch} {Δ : zv_D} {hp : zv_M} {sz : Nat} {y c op fi se st el i n x b : Nat} {gg : Nat → Nat} (f0 : hp y = some (mo_obj y c op fi se st el)) (f2 : hp (y + 2) = some (zn_I Δ 144 gg)) (hi : i < 12) (hn : n ≤ 6) (hx : x < 2147483648) (hb : b < 2) : zv_P l Δ 1 y_Mo_behind b_Mo_behind 8 ((some (FieldType.int))) [.ref y, .int (nI x), .int (nI i), .int (nI n), .int (nI b)] hp sz (.int (nI (p6_k (fun q => mo_G gg i (2 * (x / 6 ^ q % 6) + b)) n))) := by
  refine zv_E.intro (lv0 := [some (.ref y), some (.int (nI x)), some (.int (nI i)), some (.int (nI n)), some (.int (nI b)), none, none, none]) rfl (Nat.le_of_ble_eq_true rfl) rfl ?_
  intro Γ hl F
  clear hl
  have loop : ∀ (m q : Nat), m = n - q → q ≤ n → zv_V Δ Γ (zv_QQ Δ Γ 0 0 (fun r hp1 sz1 => r = some (.int (nI (p6_k (fun q => mo_G gg i (2 * (x / 6 ^ q % 6) + b)) n))) ∧ hp1 = hp ∧ sz1 = sz)) 6 [some (.ref y), some (.int (nI x)), some (.int (nI i)), some (.int (nI n)), some (.int (nI b)), some (.int (nI (p6_k (fun q => mo_G gg i (2 * (x / 6 ^ q % 6) + b)) q))), some (.int (nI q)), none] [] hp sz 0 0 := by
    intro m
    induction m using Nat.strongRecOn with
    | ind m ih =>
      intro q hm hq
      refine zv_iload F d_Mo_behind_6 rfl ?_
      refine zv_iload_n F d_Mo_behind_8 rfl ?_
      refine zn_icmp_ge (tgt := 50) F d_Mo_behind_9 rfl (by omega) (by omega) (fun h9 => ?_) (fun h9 => ?_)
      · refine zv_iload F d_Mo_behind_50 rfl ?_
        exact zv_iret F d_Mo_behind_52 (Nat.le_of_ble_eq_true rfl) (Nat.le_of_ble_eq_true rfl) ⟨zn_rt (by rw [show q = n by omega]), rfl, rfl⟩
      · have pw := p6_le q (by omega)
        have pp : 0 < 6 ^ q := Nat.pow_pos (by decide)
        have hdv : x / 6 ^ q ≤ x := Nat.div_le_self _ _
        refine zv_iload_n F d_Mo_behind_12 rfl ?_
        refine zv_iload F d_Mo_behind_13 rfl ?_
        refine zv_pS1 F rfl d_Mo_behind_15 (Mo_power_ok (by omega)) Y_Mo_power Ys_Mo_power ln_Mo_114 ⟨(Nat.le_of_ble_eq_true rfl), (Nat.le_of_ble_eq_true rfl)⟩ (Nat.le_of_ble_eq_true rfl) ⟨(Nat.le_of_ble_eq_true rfl), (Nat.le_of_ble_eq_true rfl)⟩ ?_
        refine zn_idiv F d_Mo_behind_18 (by omega) (by omega) (by omega) ?_
        refine zn_bipush (x := 6) F d_Mo_behind_19 (by decide) ?_
        refine zn_irem F d_Mo_behind_21 (by omega) (by omega) (by omega) ?_
        refine zv_istore F d_Mo_behind_22 (Nat.le_of_ble_eq_true rfl) ?_
        simp only [zv_s1, zv_s2, zv_kill, List.set_cons_zero, List.set_cons_succ, List.getElem?_cons_zero, List.getElem?_cons_succ]
        refine zv_iload F d_Mo_behind_24 rfl ?_
        refine zv_aload_n F d_Mo_behind_26 rfl ?_
        refine zv_iload_n F d_Mo_behind_27 rfl ?_
        refine zv_iload F d_Mo_behind_28 rfl ?_
        refine zv_iload F d_Mo_behind_30 rfl ?_
        refine zv_pV3 F rfl (by assumption) k_Mo.1 d_Mo_behind_32 (Mo_step_ok f0 f2 (by omega)) Y_Mo_step Yi_Mo_step Yv_Mo_step ln_Mo_55 ⟨(Nat.le_of_ble_eq_true rfl), (Nat.le_of_ble_eq_true rfl)⟩ (Nat.le_of_ble_eq_true rfl) ⟨(Nat.le_of_ble_eq_true rfl), (Nat.le_of_ble_eq_true rfl)⟩ ?_
        refine zv_iload F d_Mo_behind_35 rfl ?_
        refine zv_pS1 F rfl d_Mo_behind_37 (Mo_power_ok (by omega)) Y_Mo_power Ys_Mo_power ln_Mo_114 ⟨(Nat.le_of_ble_eq_true rfl), (Nat.le_of_ble_eq_true rfl)⟩ (Nat.le_of_ble_eq_true rfl) ⟨(Nat.le_of_ble_eq_true rfl), (Nat.le_of_ble_eq_true rfl)⟩ ?_
        refine zn_imul F d_Mo_behind_40 ?_
        refine zn_iadd F d_Mo_behind_41 ?_
        refine zv_istore F d_Mo_behind_42 (Nat.le_of_ble_eq_true rfl) ?_
        simp only [zv_s1, zv_s2, zv_kill, List.set_cons_zero, List.set_cons_succ, List.getElem?_cons_zero, List.getElem?_cons_succ]
        refine zn_iinc F d_Mo_behind_44 rfl ?_
        simp only [zv_s1, zv_s2, zv_kill, List.set_cons_zero, List.set_cons_succ, List.getElem?_cons_zero, List.getElem?_cons_succ]
        refine zv_goto (tgt := 6) F d_Mo_behind_47 rfl ?_
        exact zv_weak (by repeat' (first | exact True.intro | refine And.intro rfl ?_)) (ih (n - (q + 1)) (by omega) (q + 1) rfl (by omega))
  refine zn_iconst (x := 0) F d_Mo_behind_0 (by decide) ?_
  refine zv_istore F d_Mo_behind_1 (Nat.le_of_ble_eq_true rfl) ?_
  simp only [zv_s1, zv_s2, zv_kill, List.set_cons_zero, List.set_cons_succ, List.getElem?_cons_zero, List.getElem?_cons_succ]
  refine zn_iconst (x := 0) F d_Mo_behind_3 (by decide) ?_
  refine zv_istore F d_Mo_behind_4 (Nat.le_of_ble_eq_true rfl) ?_
  simp only [zv_s1, zv_s2, zv_kill, List.set_cons_zero, List.set_cons_succ, List.getElem?_cons_zero, List.getElem?_cons_succ]
  exact zv_weak (by repeat' (first | exact True.intro | refine And.intro rfl ?_)) (loop _ 0 rfl (Nat.zero_le _))
theorem Mo_find_ok {l : Launch} {Δ : zv_D} {hp : zv_M} {sz : Nat} {y c op fi se st el x m : Nat} {fd : Nat → Nat} (f0 : hp y = some (mo_obj y c op fi se st el)) (fb : hp (y + 11) = some (zn_I Δ 61 fd)) (hm : m ≤ 61) (hx : x < 4294967296) (hfd : ∀ k, k < m → fd k < 4294967296) : zv_P l Δ 0 y_Mo_find b_Mo_find 4 ((some (FieldType.int))) [.ref y, .int (nI x), .int (nI m)] hp sz (.int (nI (zf_ff (fun k => decide (fd k = x)) 0 m))) := by
  refine zv_E.intro (lv0 := [some (.ref y), some (.int (nI x)), some (.int (nI m)), none]) rfl (Nat.le_of_ble_eq_true rfl) rfl ?_
  intro Γ hl F
  clear hl
  have loop : ∀ (z q : Nat), z = m - q → q ≤ m → zf_ff (fun k => decide (fd k = x)) 0 m = zf_ff (fun k => decide (fd k = x)) q (m - q) → zv_V Δ Γ (zv_QQ Δ Γ 0 0 (fun r hp1 sz1 => r = some (.int (nI (zf_ff (fun k => decide (fd k = x)) 0 m))) ∧ hp1 = hp ∧ sz1 = sz)) 2 [some (.ref y), some (.int (nI x)), some (.int (nI m)), some (.int (nI q))] [] hp sz 0 0 := by
    intro z
    induction z using Nat.strongRecOn with
    | ind z ih =>
      intro q hz hq he
      refine zv_iload_n F d_Mo_find_2 rfl ?_
      refine zv_iload_n F d_Mo_find_3 rfl ?_
      refine zn_icmp_ge (tgt := 23) F d_Mo_find_4 rfl (by omega) (by omega) (fun h4 => ?_) (fun h4 => ?_)
      · refine zv_iload_n F d_Mo_find_23 rfl ?_
        exact zv_iret F d_Mo_find_24 (Nat.le_of_ble_eq_true rfl) (Nat.le_of_ble_eq_true rfl) (by first | exact ⟨zn_rt (by rw [he, zf_hit (p := fun k => decide (fd k = x)) (k := q) (decide_eq_true h14) (by omega)]), rfl, rfl⟩ | exact ⟨zn_rt (by rw [he, show m - q = 0 by omega]; rfl), rfl, rfl⟩)
      · have hbq := hfd q h4
        refine zv_aload_n F d_Mo_find_7 rfl ?_
        refine zv_get F d_Mo_find_8 (by assumption) k_Mo 16 (Nat.le_of_ble_eq_true rfl) ln_Mo_42 rfl (by rfl) ?_
        refine zv_iload_n F d_Mo_find_11 rfl ?_
        refine zn_iald F d_Mo_find_12 (by assumption) (by omega) (by omega) ?_
        refine zv_iload_n F d_Mo_find_13 rfl ?_
        refine zn_icmp_eq (tgt := 23) F d_Mo_find_14 rfl (by omega) (by omega) (fun h14 => ?_) (fun h14 => ?_)
        · refine zv_iload_n F d_Mo_find_23 rfl ?_
          exact zv_iret F d_Mo_find_24 (Nat.le_of_ble_eq_true rfl) (Nat.le_of_ble_eq_true rfl) (by first | exact ⟨zn_rt (by rw [he, zf_hit (p := fun k => decide (fd k = x)) (k := q) (decide_eq_true h14) (by omega)]), rfl, rfl⟩ | exact ⟨zn_rt (by rw [he, show m - q = 0 by omega]; rfl), rfl, rfl⟩)
        · refine zn_iinc F d_Mo_find_17 rfl ?_
          simp only [zv_s1, zv_s2, zv_kill, List.set_cons_zero, List.set_cons_succ, List.getElem?_cons_zero, List.getElem?_cons_succ]
          refine zv_goto (tgt := 2) F d_Mo_find_20 rfl ?_
          exact zv_weak (by repeat' (first | exact True.intro | refine And.intro rfl ?_)) (ih (m - (q + 1)) (by omega) (q + 1) rfl (by omega) (by rw [he, zf_miss (p := fun k => decide (fd k = x)) (k := q) (decide_eq_false h14) (by omega)]; rfl))
  refine zn_iconst (x := 0) F d_Mo_find_0 (by decide) ?_
  refine zv_istore_n F d_Mo_find_1 (Nat.le_of_ble_eq_true rfl) ?_
  simp only [zv_s1, zv_s2, zv_kill, List.set_cons_zero, List.set_cons_succ, List.getElem?_cons_zero, List.getElem?_cons_succ]
  exact zv_weak (by repeat' (first | exact True.intro | refine And.intro rfl ?_)) (loop _ 0 rfl (Nat.zero_le _) (by rw [Nat.sub_zero]))
/-- the model's growth, at slot j with m elements; lg is no cell of its own -/
def al_H (n : Nat) (g : Nat → Nat) (m j : Nat) (fd fw lg : Nat → Nat) : Prop :=
  bf_inv m j lg ∧ (∃ ws : Nat → List Bool, ∀ k, k < m → fd k = p6_k (fun q => bf_from g q (ws k)) n) ∧ (∀ k k2, k < m → k2 < m → fd k = fd k2 → k = k2) ∧ fd 0 = p6_k (fun q => q) n ∧
  (∀ i, i < j → lg i < m ∧ fd (lg i) = p6_k (fun q => g (2 * (fd (i / 2) / 6 ^ q % 6) + i % 2)) n) ∧ fw 0 = 1 ∧ ∀ k, 0 < k → k < m → ∃ s, s < j ∧ lg s = k ∧ (∀ i, i < s → lg i ≠ k) ∧ s / 2 < k ∧ fw k = 2 * fw (s / 2) + s % 2
theorem al_Hdig {n m k : Nat} {g fd : Nat → Nat} {ws : Nat → List Bool} (hn : n ≤ 6) (hg : ∀ j, j < 2 * n → g j < n) (h : ∀ k, k < m → fd k = p6_k (fun q => bf_from g q (ws k)) n) (hk : k < m) : ∀ q, q < n → fd k / 6 ^ q % 6 = bf_from g q (ws k) := by
  intro q hq
  rw [h k hk]
  exact p6_at (fun q hq => by have := bf_from_lt hg (ws k) q hq; omega) q hq
theorem al_Hnew {n m j : Nat} {g fd : Nat → Nat} {ws : Nat → List Bool} (hn : n ≤ 6) (hg : ∀ j, j < 2 * n → g j < n) (h : ∀ k, k < m → fd k = p6_k (fun q => bf_from g q (ws k)) n) (hj : j / 2 < m) : ∃ w : List Bool, p6_k (fun q => g (2 * (fd (j / 2) / 6 ^ q % 6) + j % 2)) n = p6_k (fun q => bf_from g q w) n := by
  obtain ⟨b, hb⟩ := al_b2 (j % 2) (by omega)
  refine ⟨ws (j / 2) ++ [b], p6_congr fun q hq => ?_⟩
  rw [bf_from_snoc, al_Hdig hn hg h hj q hq, hb]
theorem al_H_0 {n : Nat} {g fd fw lg : Nat → Nat} (h : fd 0 = p6_k (fun q => q) n) (hw : fw 0 = 1) : al_H n g 1 0 fd fw lg :=
  ⟨bf_inv_0 lg, ⟨fun _ => [], fun k hk => by rw [show k = 0 by omega]; exact h⟩, fun k k2 h1 h2 _ => by omega, h, fun i hi => by omega, hw, fun k h1 h2 => by omega⟩
theorem al_H_old {n m j v : Nat} {g fd fw lg : Nat → Nat} (h : al_H n g m j fd fw lg) (hj : j < 2 * m) (hv : v < m) (hmv : fd v = p6_k (fun q => g (2 * (fd (j / 2) / 6 ^ q % 6) + j % 2)) n) : al_H n g m (j + 1) fd fw (va_up lg j v) := by
  obtain ⟨h1, h2, h3, h4, h5, h7, h6⟩ := h
  have ne : ∀ i, i < j → va_up lg j v i = lg i := fun i hi => by simp only [va_up]; rw [if_neg (by omega)]
  refine ⟨bf_inv_step h1 hj ne (by simp only [va_up, if_true]) (Or.inl ⟨hv, rfl⟩), h2, h3, h4, fun i hi => ?_, h7, fun k k1 k2 => ?_⟩
  · by_cases e : i = j
    · subst e
      simp only [va_up, if_true]
      exact ⟨hv, hmv⟩
    · rw [ne i (by omega)]
      exact h5 i (by omega)
  · obtain ⟨s, c1, c2, c3, c4, c5⟩ := h6 k k1 k2
    refine ⟨s, by omega, by rw [ne _ c1]; exact c2, fun i hi => ?_, c4, c5⟩
    rw [ne i (by omega)]
    exact c3 i hi
theorem al_H_new {n m j : Nat} {g fd fw lg : Nat → Nat} (hn : n ≤ 6) (hg : ∀ j, j < 2 * n → g j < n) (h : al_H n g m j fd fw lg) (hj : j < 2 * m) (hno : ∀ k, k < m → fd k ≠ p6_k (fun q => g (2 * (fd (j / 2) / 6 ^ q % 6) + j % 2)) n) : al_H n g (m + 1) (j + 1) (va_up fd m (p6_k (fun q => g (2 * (fd (j / 2) / 6 ^ q % 6) + j % 2)) n)) (va_up fw m (2 * fw (j / 2) + j % 2)) (va_up lg j m) := by
  obtain ⟨h1, ⟨ws, h2⟩, h3, h4, h5, h7, h6⟩ := h
  obtain ⟨w, hw⟩ := al_Hnew hn hg h2 (show j / 2 < m by omega)
  generalize hM : p6_k (fun q => g (2 * (fd (j / 2) / 6 ^ q % 6) + j % 2)) n = M at hno hw ⊢
  have ne : ∀ i, i < j → va_up lg j m i = lg i := fun i hi => by simp only [va_up]; rw [if_neg (by omega)]
  have nm : ∀ k, k < m → va_up fd m M k = fd k := fun k hk => by simp only [va_up]; rw [if_neg (by omega)]
  have nw : ∀ k, k < m → va_up fw m (2 * fw (j / 2) + j % 2) k = fw k := fun k hk => by simp only [va_up]; rw [if_neg (by omega)]
  have nM : va_up fd m M m = M := by simp only [va_up, if_true]
  have m0 : 0 < m := by have := h1.1; omega
  refine ⟨bf_inv_step h1 hj ne (by simp only [va_up, if_true]) (Or.inr ⟨rfl, rfl⟩), ⟨va_up ws m w, fun k hk => ?_⟩, fun k k2 k1 k3 e => ?_, by rw [nm 0 m0]; exact h4, fun i hi => ?_, by rw [nw 0 m0]; exact h7, fun k k1 k2 => ?_⟩
  · by_cases e : k = m
    · subst e
      rw [nM]
      simp only [va_up, if_true]
      exact hw
    · rw [nm k (by omega)]
      simp only [va_up, e, if_false]
      exact h2 k (by omega)
  · by_cases e1 : k = m
    · by_cases e2 : k2 = m
      · omega
      · rw [e1, nM, nm k2 (by omega)] at e
        exact absurd e.symm (hno k2 (by omega))
    · by_cases e2 : k2 = m
      · rw [e2, nM, nm k (by omega)] at e
        exact absurd e (hno k (by omega))
      · rw [nm k (by omega), nm k2 (by omega)] at e
        exact h3 k k2 (by omega) (by omega) e
  · by_cases e : i = j
    · subst e
      have e1 : va_up lg i m i = m := by simp only [va_up, if_true]
      rw [e1, nM, nm _ (by omega)]
      exact ⟨by omega, hM.symm⟩
    · have := h5 i (by omega)
      rw [ne i (by omega), nm _ this.1, nm _ (by omega)]
      exact ⟨by omega, this.2⟩
  · by_cases e : k = m
    · subst e
      refine ⟨j, by omega, by simp only [va_up, if_true], fun i hi => ?_, by omega, ?_⟩
      · rw [ne i hi]
        have := (h5 i hi).1
        omega
      · rw [nw (j / 2) (by omega)]
        simp only [va_up, if_true]
    · obtain ⟨s, c1, c2, c3, c4, c5⟩ := h6 k k1 (by omega)
      refine ⟨s, by omega, by rw [ne _ c1]; exact c2, fun i hi => ?_, c4, ?_⟩
      · rw [ne i (by omega)]
        exact c3 i hi
      · rw [nw k (by omega), nw (s / 2) (by omega)]
        exact c5
theorem al_H_big {n m j : Nat} {g fd fw lg : Nat → Nat} (h : al_H n g m j fd fw lg) : al_big n g m := by
  obtain ⟨h1, ⟨ws, h2⟩, h3, h4, h5, h7, h6⟩ := h
  exact ⟨ws, fun i k hi hk e => h3 i k hi hk (by rw [h2 i hi, h2 k hk]; exact p6_congr e)⟩
theorem al_H_end {n m : Nat} {g fd fw lg : Nat → Nat} (hn : n ≤ 6) (hg : ∀ j, j < 2 * n → g j < n) (h : al_H n g m (2 * m) fd fw lg) : al_T n g m lg ∧ al_W m lg fw ∧ (∀ w, fd (bf_run lg w) = p6_k (fun q => bf_from g q w) n) ∧ ∀ k k2, k < m → k2 < m → fd k = fd k2 → k = k2 := by
  obtain ⟨h1, ⟨ws, h2⟩, h3, h4, h5, h7, h6⟩ := h
  have m0 : 0 < m := by have := h1.1; omega
  have hb := bf_inv_end h1 m0
  have b6 : ∀ (w : List Bool) (q : Nat), q < n → bf_from g q w < 6 := fun w q hq => by have := bf_from_lt hg w q hq; omega
  have run : ∀ w, fd (bf_run lg w) = p6_k (fun q => bf_from g q w) n := by
    refine zf_snoc h4 fun w b ih => ?_
    have hb2 : b.toNat < 2 := by cases b <;> decide
    have hlt := bf_run_lt hb w
    have q := (h5 (2 * bf_run lg w + b.toNat) (by omega)).2
    rw [show (2 * bf_run lg w + b.toNat) / 2 = bf_run lg w by omega, show (2 * bf_run lg w + b.toNat) % 2 = b.toNat by omega] at q
    rw [bf_run_snoc, q]
    refine p6_congr fun q hq => ?_
    rw [ih, p6_at (b6 w) q hq, bf_from_snoc]
  refine ⟨⟨hb, fun u v => ?_⟩, ⟨h7, fun k k1 k2 => ?_⟩, run, h3⟩
  · rw [← p6_inj (b6 u) (b6 v), ← run, ← run]
    exact ⟨fun e => by rw [e], fun e => h3 _ _ (bf_run_lt hb u) (bf_run_lt hb v) e⟩
  · obtain ⟨s, c1, c2, c3, c4, c5⟩ := h6 k k1 k2
    exact ⟨s, c2, c3, c4, c5⟩
theorem Mo_grow_ok {l : Launch} {Δ : zv_D} {hp : zv_M} {sz : Nat} {y c op fi se st el i : Nat} {ns gg fd fw : Nat → Nat} (f0 : hp y = some (mo_obj y c op fi se st el)) (f1 : hp (y + 1) = some (zn_I Δ 12 ns)) (f2 : hp (y + 2) = some (zn_I Δ 144 gg)) (fb : hp (y + 11) = some (zn_I Δ 61 fd)) (fc : hp (y + 12) = some (zn_J Δ 61 fw)) (hi : i < 12) (hn : ns i ≤ 6) (hg : ∀ j, j < 2 * ns i → mo_G gg i j < ns i) : zv_E l Δ 2 y_Mo_grow b_Mo_grow 7 ((some (FieldType.int))) [.ref y, .int (nI i)] hp sz 0 0 (fun r hp1 sz1 => ∃ (v : Nat) (fd1 fw1 : Nat → Nat), r = some (.int (nI v)) ∧ sz1 = sz ∧ hp1 (y + 11) = some (zn_I Δ 61 fd1) ∧ hp1 (y + 12) = some (zn_J Δ 61 fw1) ∧ (∀ q, q ≠ y + 11 ∧ q ≠ y + 12 → hp1 q = hp q) ∧ ((v = 61 ∧ al_big (ns i) (mo_G gg i) 61) ∨ (v ≤ 60 ∧ 0 < v ∧ ∃ lg, al_H (ns i) (mo_G gg i) v (2 * v) fd1 fw1 lg))) := by
  refine zv_E.intro (lv0 := [some (.ref y), some (.int (nI i)), none, none, none, none, none]) rfl (Nat.le_of_ble_eq_true rfl) rfl ?_
  intro Γ hl F
  clear hl
  have outer : ∀ (z k m : Nat) (h' : zv_M) (fd fw : Nat → Nat), z = 61 - k → k ≤ m → h' (y + 11) = some (zn_I Δ 61 fd) → h' (y + 12) = some (zn_J Δ 61 fw) → (∀ q, q ≠ y + 11 ∧ q ≠ y + 12 → h' q = hp q) → ((m = 61 ∧ al_big (ns i) (mo_G gg i) 61) ∨ (m ≤ 60 ∧ ∃ lg, al_H (ns i) (mo_G gg i) m (2 * k) fd fw lg)) → zv_V Δ Γ (zv_QQ Δ Γ 0 0 (fun r hp1 sz1 => ∃ (v : Nat) (fd1 fw1 : Nat → Nat), r = some (.int (nI v)) ∧ sz1 = sz ∧ hp1 (y + 11) = some (zn_I Δ 61 fd1) ∧ hp1 (y + 12) = some (zn_J Δ 61 fw1) ∧ (∀ q, q ≠ y + 11 ∧ q ≠ y + 12 → hp1 q = hp q) ∧ ((v = 61 ∧ al_big (ns i) (mo_G gg i) 61) ∨ (v ≤ 60 ∧ 0 < v ∧ ∃ lg, al_H (ns i) (mo_G gg i) v (2 * v) fd1 fw1 lg)))) 62 [some (.ref y), some (.int (nI i)), some (.int (nI (ns i))), some (.int (nI m)), some (.int (nI k)), none, none] [] h' sz 0 0 := by
    intro z
    induction z using Nat.strongRecOn with
    | ind z ih =>
      intro k m h' fd fw hz hk fb fc fr hX
      have hm61 : m ≤ 61 := by rcases hX with h | h; omega; omega
      have inner : ∀ (z2 b m : Nat) (h' : zv_M) (fd fw : Nat → Nat), z2 = 2 - b → b ≤ 2 → k < m → h' (y + 11) = some (zn_I Δ 61 fd) → h' (y + 12) = some (zn_J Δ 61 fw) → (∀ q, q ≠ y + 11 ∧ q ≠ y + 12 → h' q = hp q) → ((m = 61 ∧ al_big (ns i) (mo_G gg i) 61) ∨ (m ≤ 60 ∧ ∃ lg, al_H (ns i) (mo_G gg i) m (2 * k + b) fd fw lg)) → zv_V Δ Γ (zv_QQ Δ Γ 0 0 (fun r hp1 sz1 => ∃ (v : Nat) (fd1 fw1 : Nat → Nat), r = some (.int (nI v)) ∧ sz1 = sz ∧ hp1 (y + 11) = some (zn_I Δ 61 fd1) ∧ hp1 (y + 12) = some (zn_J Δ 61 fw1) ∧ (∀ q, q ≠ y + 11 ∧ q ≠ y + 12 → hp1 q = hp q) ∧ ((v = 61 ∧ al_big (ns i) (mo_G gg i) 61) ∨ (v ≤ 60 ∧ 0 < v ∧ ∃ lg, al_H (ns i) (mo_G gg i) v (2 * v) fd1 fw1 lg)))) 77 [some (.ref y), some (.int (nI i)), some (.int (nI (ns i))), some (.int (nI m)), some (.int (nI k)), some (.int (nI b)), none] [] h' sz 0 0 := by
        intro z2
        induction z2 using Nat.strongRecOn with
        | ind z2 ih2 =>
          intro b m h' fd fw hz2 hb2 hkm fb fc fr hX
          have hm61 : m ≤ 61 := by rcases hX with h | h; omega; omega
          have f0 := (fr y (by omega)).trans f0
          have f2 := (fr (y + 2) (by omega)).trans f2
          refine zv_iload F d_Mo_grow_77 rfl ?_
          refine zn_iconst (x := 2) F d_Mo_grow_79 (by decide) ?_
          refine zn_icmp_ge (tgt := 155) F d_Mo_grow_80 rfl (by omega) (by omega) (fun h80 => ?_) (fun h80 => ?_)
          · refine zn_iinc F d_Mo_grow_155 rfl ?_
            simp only [zv_s1, zv_s2, zv_kill, List.set_cons_zero, List.set_cons_succ, List.getElem?_cons_zero, List.getElem?_cons_succ]
            refine zv_goto (tgt := 62) F d_Mo_grow_158 rfl ?_
            refine zv_weak (by repeat' (first | exact True.intro | refine And.intro rfl ?_)) (ih (61 - (k + 1)) (by omega) (k + 1) m _ fd fw rfl (by omega) fb fc fr ?_)
            rcases hX with h | ⟨h, lg, X⟩
            · exact Or.inl h
            · have eb : b = 2 := by omega
              subst eb
              exact Or.inr ⟨h, lg, X⟩
          · refine zv_iload_n F d_Mo_grow_83 rfl ?_
            refine zn_bipush (x := 61) F d_Mo_grow_84 (by decide) ?_
            refine zn_icmp_ge (tgt := 155) F d_Mo_grow_86 rfl (by omega) (by omega) (fun h86 => ?_) (fun h86 => ?_)
            · refine zn_iinc F d_Mo_grow_155 rfl ?_
              simp only [zv_s1, zv_s2, zv_kill, List.set_cons_zero, List.set_cons_succ, List.getElem?_cons_zero, List.getElem?_cons_succ]
              refine zv_goto (tgt := 62) F d_Mo_grow_158 rfl ?_
              refine zv_weak (by repeat' (first | exact True.intro | refine And.intro rfl ?_)) (ih (61 - (k + 1)) (by omega) (k + 1) m _ fd fw rfl (by omega) fb fc fr ?_)
              rcases hX with h | ⟨h, lg, X⟩
              · exact Or.inl h
              · have eb : b = 2 := by omega
                subst eb
                exact Or.inr ⟨h, lg, X⟩
            · obtain ⟨hm60, lg, X⟩ : m ≤ 60 ∧ ∃ lg, al_H (ns i) (mo_G gg i) m (2 * k + b) fd fw lg := by rcases hX with h | h; omega; exact h
              have hws := X.2.1
              have b6 : ∀ (w : List Bool) (q : Nat), q < ns i → bf_from (mo_G gg i) q w < 6 := fun w q hq => by have := bf_from_lt hg w q hq; omega
              have hfd : ∀ k, k < m → fd k < 46656 := fun k hk => by obtain ⟨ws, hws⟩ := hws; rw [hws k hk]; exact p6_big hn (b6 _)
              have hfk := hfd k hkm
              have ej : (2 * k + b) / 2 = k := by omega
              have em : (2 * k + b) % 2 = b := by omega
              have hMb : p6_k (fun q => mo_G gg i (2 * (fd k / 6 ^ q % 6) + b)) (ns i) < 46656 := by obtain ⟨ws, hws⟩ := hws; obtain ⟨w, hw⟩ := al_Hnew (j := 2 * k + b) hn hg hws (by omega); rw [ej, em] at hw; rw [hw]; exact p6_big hn (b6 _)
              obtain ⟨y1, y2, y3, y4⟩ := zf_spec (fun k2 => decide (fd k2 = p6_k (fun q => mo_G gg i (2 * (fd k / 6 ^ q % 6) + b)) (ns i))) m 0
              refine zv_aload_n F d_Mo_grow_89 rfl ?_
              refine zv_aload_n F d_Mo_grow_90 rfl ?_
              refine zv_get F d_Mo_grow_91 (by assumption) k_Mo 16 (Nat.le_of_ble_eq_true rfl) ln_Mo_42 rfl (by rfl) ?_
              refine zv_iload F d_Mo_grow_94 rfl ?_
              refine zn_iald F d_Mo_grow_96 (by assumption) (by omega) (by omega) ?_
              refine zv_iload_n F d_Mo_grow_97 rfl ?_
              refine zv_iload_n F d_Mo_grow_98 rfl ?_
              refine zv_iload F d_Mo_grow_99 rfl ?_
              refine zv_pV4 F rfl (by assumption) k_Mo.1 d_Mo_grow_101 (Mo_behind_ok f0 f2 hi hn (by omega) (by omega)) Y_Mo_behind Yi_Mo_behind Yv_Mo_behind ln_Mo_118 ⟨(Nat.le_of_ble_eq_true rfl), (Nat.le_of_ble_eq_true rfl)⟩ (Nat.le_of_ble_eq_true rfl) ⟨(Nat.le_of_ble_eq_true rfl), (Nat.le_of_ble_eq_true rfl)⟩ ?_
              refine zv_istore F d_Mo_grow_104 (Nat.le_of_ble_eq_true rfl) ?_
              simp only [zv_s1, zv_s2, zv_kill, List.set_cons_zero, List.set_cons_succ, List.getElem?_cons_zero, List.getElem?_cons_succ]
              refine zv_aload_n F d_Mo_grow_106 rfl ?_
              refine zv_iload F d_Mo_grow_107 rfl ?_
              refine zv_iload_n F d_Mo_grow_109 rfl ?_
              refine zv_pV2 F rfl (by assumption) k_Mo.1 d_Mo_grow_110 (Mo_find_ok f0 fb (by omega) (by omega) (fun k2 hk2 => by have := hfd k2 hk2; omega)) Y_Mo_find Yi_Mo_find Yv_Mo_find ln_Mo_122 ⟨(Nat.le_of_ble_eq_true rfl), (Nat.le_of_ble_eq_true rfl)⟩ (Nat.le_of_ble_eq_true rfl) ⟨(Nat.le_of_ble_eq_true rfl), (Nat.le_of_ble_eq_true rfl)⟩ ?_
              refine zv_iload_n F d_Mo_grow_113 rfl ?_
              refine zn_icmp_ne (tgt := 149) F d_Mo_grow_114 rfl (by omega) (by omega) (fun h114 => ?_) (fun h114 => ?_)
              · refine zn_iinc F d_Mo_grow_149 rfl ?_
                simp only [zv_s1, zv_s2, zv_kill, List.set_cons_zero, List.set_cons_succ, List.getElem?_cons_zero, List.getElem?_cons_succ]
                refine zv_goto (tgt := 77) F d_Mo_grow_152 rfl ?_
                first | exact zv_weak (by repeat' (first | exact True.intro | refine And.intro rfl ?_)) (ih2 (2 - (b + 1)) (by omega) (b + 1) m _ fd fw rfl (by omega) hkm fb fc fr (Or.inr ⟨hm60, _, al_H_old (j := 2 * k + b) (v := zf_ff (fun k2 => decide (fd k2 = p6_k (fun q => mo_G gg i (2 * (fd k / 6 ^ q % 6) + b)) (ns i))) 0 m) X (by omega) (by omega) (by rw [ej, em]; exact of_decide_eq_true (y4 (by omega)))⟩)) | exact zv_weak (by repeat' (first | exact True.intro | refine And.intro rfl ?_)) (ih2 (2 - (b + 1)) (by omega) (b + 1) (m + 1) _ _ _ rfl (by omega) (by omega) fb fc fr (if e : m = 60 then Or.inl ⟨by omega, by rw [e] at X2; exact al_H_big X2⟩ else Or.inr ⟨by omega, _, X2⟩))
              · have X2 := al_H_new (j := 2 * k + b) hn hg X (by omega) (fun k2 hk2 => by rw [ej, em]; exact of_decide_eq_false (y3 k2 (Nat.zero_le _) (by omega)))
                rw [ej, em] at X2
                refine zv_aload_n F d_Mo_grow_117 rfl ?_
                refine zv_get F d_Mo_grow_118 (by assumption) k_Mo 16 (Nat.le_of_ble_eq_true rfl) ln_Mo_42 rfl (by rfl) ?_
                refine zv_iload_n F d_Mo_grow_121 rfl ?_
                refine zv_iload F d_Mo_grow_122 rfl ?_
                refine zn_iast F d_Mo_grow_124 (by assumption) (by omega) (by omega) (fun hp124 e124 => ?_)
                replace f0 := (zv_ne e124 (by omega)).trans f0
                replace fb := zv_eq e124
                replace fc := (zv_ne e124 (by omega)).trans fc
                replace fr := fun b hb => (zv_ne (b := b) e124 (by omega)).trans (fr b hb)
                refine zv_aload_n F d_Mo_grow_125 rfl ?_
                refine zv_get F d_Mo_grow_126 (by assumption) k_Mo 17 (Nat.le_of_ble_eq_true rfl) ln_Mo_45 rfl (by rfl) ?_
                refine zv_iload_n F d_Mo_grow_129 rfl ?_
                refine zn_ldc2 (x := 2) F d_Mo_grow_130 ln_Mo_125 (by decide) ?_
                refine zv_aload_n F d_Mo_grow_133 rfl ?_
                refine zv_get F d_Mo_grow_134 (by assumption) k_Mo 17 (Nat.le_of_ble_eq_true rfl) ln_Mo_45 rfl (by rfl) ?_
                refine zv_iload F d_Mo_grow_137 rfl ?_
                refine zn_lald F d_Mo_grow_139 (by assumption) (by omega) (by omega) ?_
                refine zn_lmul F d_Mo_grow_140 ?_
                refine zv_iload F d_Mo_grow_141 rfl ?_
                refine zn_i2l F d_Mo_grow_143 (by omega) ?_
                refine zn_ladd F d_Mo_grow_144 ?_
                refine zn_last F d_Mo_grow_145 (by assumption) (by omega) (by omega) (fun hp145 e145 => ?_)
                replace f0 := (zv_ne e145 (by omega)).trans f0
                replace fb := (zv_ne e145 (by omega)).trans fb
                replace fc := zv_eq e145
                replace fr := fun b hb => (zv_ne (b := b) e145 (by omega)).trans (fr b hb)
                refine zn_iinc F d_Mo_grow_146 rfl ?_
                simp only [zv_s1, zv_s2, zv_kill, List.set_cons_zero, List.set_cons_succ, List.getElem?_cons_zero, List.getElem?_cons_succ]
                refine zn_iinc F d_Mo_grow_149 rfl ?_
                simp only [zv_s1, zv_s2, zv_kill, List.set_cons_zero, List.set_cons_succ, List.getElem?_cons_zero, List.getElem?_cons_succ]
                refine zv_goto (tgt := 77) F d_Mo_grow_152 rfl ?_
                first | exact zv_weak (by repeat' (first | exact True.intro | refine And.intro rfl ?_)) (ih2 (2 - (b + 1)) (by omega) (b + 1) m _ fd fw rfl (by omega) hkm fb fc fr (Or.inr ⟨hm60, _, al_H_old (j := 2 * k + b) (v := zf_ff (fun k2 => decide (fd k2 = p6_k (fun q => mo_G gg i (2 * (fd k / 6 ^ q % 6) + b)) (ns i))) 0 m) X (by omega) (by omega) (by rw [ej, em]; exact of_decide_eq_true (y4 (by omega)))⟩)) | exact zv_weak (by repeat' (first | exact True.intro | refine And.intro rfl ?_)) (ih2 (2 - (b + 1)) (by omega) (b + 1) (m + 1) _ _ _ rfl (by omega) (by omega) fb fc fr (if e : m = 60 then Or.inl ⟨by omega, by rw [e] at X2; exact al_H_big X2⟩ else Or.inr ⟨by omega, _, X2⟩))
      refine zv_iload F d_Mo_grow_62 rfl ?_
      refine zv_iload_n F d_Mo_grow_64 rfl ?_
      refine zn_icmp_ge (tgt := 161) F d_Mo_grow_65 rfl (by omega) (by omega) (fun h65 => ?_) (fun h65 => ?_)
      · refine zv_iload_n F d_Mo_grow_161 rfl ?_
        exact zv_iret F d_Mo_grow_162 (Nat.le_of_ble_eq_true rfl) (Nat.le_of_ble_eq_true rfl) ⟨m, fd, fw, rfl, rfl, fb, fc, fr, by
          rcases hX with h | ⟨h, lg, X⟩
          · exact Or.inl h
          · have e : k = m := by omega
            subst e
            exact Or.inr ⟨h, by have := X.1.1; omega, lg, X⟩⟩
      · refine zv_iload_n F d_Mo_grow_68 rfl ?_
        refine zn_bipush (x := 61) F d_Mo_grow_69 (by decide) ?_
        refine zn_icmp_ge (tgt := 161) F d_Mo_grow_71 rfl (by omega) (by omega) (fun h71 => ?_) (fun h71 => ?_)
        · refine zv_iload_n F d_Mo_grow_161 rfl ?_
          exact zv_iret F d_Mo_grow_162 (Nat.le_of_ble_eq_true rfl) (Nat.le_of_ble_eq_true rfl) ⟨m, fd, fw, rfl, rfl, fb, fc, fr, by
            rcases hX with h | ⟨h, lg, X⟩
            · exact Or.inl h
            · have e : k = m := by omega
              subst e
              exact Or.inr ⟨h, by have := X.1.1; omega, lg, X⟩⟩
        · refine zn_iconst (x := 0) F d_Mo_grow_74 (by decide) ?_
          refine zv_istore F d_Mo_grow_75 (Nat.le_of_ble_eq_true rfl) ?_
          simp only [zv_s1, zv_s2, zv_kill, List.set_cons_zero, List.set_cons_succ, List.getElem?_cons_zero, List.getElem?_cons_succ]
          exact zv_weak (by repeat' (first | exact True.intro | refine And.intro rfl ?_)) (inner _ 0 m _ fd fw rfl (by decide) (by omega) fb fc fr hX)
  have start : ∀ (z q : Nat) (h' : zv_M) (fd : Nat → Nat), z = ns i - q → q ≤ ns i → h' (y + 11) = some (zn_I Δ 61 fd) → h' (y + 12) = some (zn_J Δ 61 fw) → (∀ q, q ≠ y + 11 ∧ q ≠ y + 12 → h' q = hp q) → fd 0 = p6_k (fun q => q) q → zv_V Δ Γ (zv_QQ Δ Γ 0 0 (fun r hp1 sz1 => ∃ (v : Nat) (fd1 fw1 : Nat → Nat), r = some (.int (nI v)) ∧ sz1 = sz ∧ hp1 (y + 11) = some (zn_I Δ 61 fd1) ∧ hp1 (y + 12) = some (zn_J Δ 61 fw1) ∧ (∀ q, q ≠ y + 11 ∧ q ≠ y + 12 → hp1 q = hp q) ∧ ((v = 61 ∧ al_big (ns i) (mo_G gg i) 61) ∨ (v ≤ 60 ∧ 0 < v ∧ ∃ lg, al_H (ns i) (mo_G gg i) v (2 * v) fd1 fw1 lg)))) 19 [some (.ref y), some (.int (nI i)), some (.int (nI (ns i))), some (.int (nI 1)), some (.int (nI q)), none, none] [] h' sz 0 0 := by
    intro z
    induction z using Nat.strongRecOn with
    | ind z ih =>
      intro q h' fd hz hq fb fc fr h0
      have f0 := (fr y (by omega)).trans f0
      refine zv_iload F d_Mo_grow_19 rfl ?_
      refine zv_iload_n F d_Mo_grow_21 rfl ?_
      refine zn_icmp_ge (tgt := 52) F d_Mo_grow_22 rfl (by omega) (by omega) (fun h22 => ?_) (fun h22 => ?_)
      · refine zv_aload_n F d_Mo_grow_52 rfl ?_
        refine zv_get F d_Mo_grow_53 (by assumption) k_Mo 17 (Nat.le_of_ble_eq_true rfl) ln_Mo_45 rfl (by rfl) ?_
        refine zn_iconst (x := 0) F d_Mo_grow_56 (by decide) ?_
        refine zn_lconst (x := 1) F d_Mo_grow_57 (by decide) ?_
        refine zn_last F d_Mo_grow_58 (by assumption) (by omega) (by omega) (fun hp58 e58 => ?_)
        replace f0 := (zv_ne e58 (by omega)).trans f0
        replace fb := (zv_ne e58 (by omega)).trans fb
        replace fc := zv_eq e58
        replace fr := fun b hb => (zv_ne (b := b) e58 (by omega)).trans (fr b hb)
        refine zn_iconst (x := 0) F d_Mo_grow_59 (by decide) ?_
        refine zv_istore F d_Mo_grow_60 (Nat.le_of_ble_eq_true rfl) ?_
        simp only [zv_s1, zv_s2, zv_kill, List.set_cons_zero, List.set_cons_succ, List.getElem?_cons_zero, List.getElem?_cons_succ]
        exact zv_weak (by repeat' (first | exact True.intro | refine And.intro rfl ?_)) (outer _ 0 1 _ fd _ rfl (by decide) fb fc fr (Or.inr ⟨by decide, fun _ => 0, al_H_0 (by rw [h0, show q = ns i by omega]) (by simp only [va_up, if_true])⟩))
      · refine zv_aload_n F d_Mo_grow_25 rfl ?_
        refine zv_get F d_Mo_grow_26 (by assumption) k_Mo 16 (Nat.le_of_ble_eq_true rfl) ln_Mo_42 rfl (by rfl) ?_
        refine zn_iconst (x := 0) F d_Mo_grow_29 (by decide) ?_
        refine zv_aload_n F d_Mo_grow_30 rfl ?_
        refine zv_get F d_Mo_grow_31 (by assumption) k_Mo 16 (Nat.le_of_ble_eq_true rfl) ln_Mo_42 rfl (by rfl) ?_
        refine zn_iconst (x := 0) F d_Mo_grow_34 (by decide) ?_
        refine zn_iald F d_Mo_grow_35 (by assumption) (by omega) (by omega) ?_
        refine zv_iload F d_Mo_grow_36 rfl ?_
        refine zv_iload F d_Mo_grow_38 rfl ?_
        refine zv_pS1 F rfl d_Mo_grow_40 (Mo_power_ok (by omega)) Y_Mo_power Ys_Mo_power ln_Mo_114 ⟨(Nat.le_of_ble_eq_true rfl), (Nat.le_of_ble_eq_true rfl)⟩ (Nat.le_of_ble_eq_true rfl) ⟨(Nat.le_of_ble_eq_true rfl), (Nat.le_of_ble_eq_true rfl)⟩ ?_
        refine zn_imul F d_Mo_grow_43 ?_
        refine zn_iadd F d_Mo_grow_44 ?_
        refine zn_iast F d_Mo_grow_45 (by assumption) (by omega) (by omega) (fun hp45 e45 => ?_)
        replace f0 := (zv_ne e45 (by omega)).trans f0
        replace fb := zv_eq e45
        replace fc := (zv_ne e45 (by omega)).trans fc
        replace fr := fun b hb => (zv_ne (b := b) e45 (by omega)).trans (fr b hb)
        refine zn_iinc F d_Mo_grow_46 rfl ?_
        simp only [zv_s1, zv_s2, zv_kill, List.set_cons_zero, List.set_cons_succ, List.getElem?_cons_zero, List.getElem?_cons_succ]
        refine zv_goto (tgt := 19) F d_Mo_grow_49 rfl ?_
        exact zv_weak (by repeat' (first | exact True.intro | refine And.intro rfl ?_)) (ih (ns i - (q + 1)) (by omega) (q + 1) _ _ rfl (by omega) fb fc fr (by simp only [va_up, if_true]; rw [h0]; rfl))
  have fr : ∀ q, q ≠ y + 11 ∧ q ≠ y + 12 → hp q = hp q := fun q _ => rfl
  refine zv_aload_n F d_Mo_grow_0 rfl ?_
  refine zv_get F d_Mo_grow_1 (by assumption) k_Mo 1 (Nat.le_of_ble_eq_true rfl) ln_Mo_7 rfl (by rfl) ?_
  refine zv_iload_n F d_Mo_grow_4 rfl ?_
  refine zn_iald F d_Mo_grow_5 (by assumption) (by omega) (by omega) ?_
  refine zv_istore_n F d_Mo_grow_6 (Nat.le_of_ble_eq_true rfl) ?_
  simp only [zv_s1, zv_s2, zv_kill, List.set_cons_zero, List.set_cons_succ, List.getElem?_cons_zero, List.getElem?_cons_succ]
  refine zn_iconst (x := 1) F d_Mo_grow_7 (by decide) ?_
  refine zv_istore_n F d_Mo_grow_8 (Nat.le_of_ble_eq_true rfl) ?_
  simp only [zv_s1, zv_s2, zv_kill, List.set_cons_zero, List.set_cons_succ, List.getElem?_cons_zero, List.getElem?_cons_succ]
  refine zv_aload_n F d_Mo_grow_9 rfl ?_
  refine zv_get F d_Mo_grow_10 (by assumption) k_Mo 16 (Nat.le_of_ble_eq_true rfl) ln_Mo_42 rfl (by rfl) ?_
  refine zn_iconst (x := 0) F d_Mo_grow_13 (by decide) ?_
  refine zn_iconst (x := 0) F d_Mo_grow_14 (by decide) ?_
  refine zn_iast F d_Mo_grow_15 (by assumption) (by omega) (by omega) (fun hp15 e15 => ?_)
  replace f0 := (zv_ne e15 (by omega)).trans f0
  replace f1 := (zv_ne e15 (by omega)).trans f1
  replace fb := zv_eq e15
  replace fc := (zv_ne e15 (by omega)).trans fc
  replace fr := fun b hb => (zv_ne (b := b) e15 (by omega)).trans (fr b hb)
  refine zn_iconst (x := 0) F d_Mo_grow_16 (by decide) ?_
  refine zv_istore F d_Mo_grow_17 (Nat.le_of_ble_eq_true rfl) ?_
  simp only [zv_s1, zv_s2, zv_kill, List.set_cons_zero, List.set_cons_succ, List.getElem?_cons_zero, List.getElem?_cons_succ]
  exact zv_weak (by repeat' (first | exact True.intro | refine And.intro rfl ?_)) (start _ 0 _ _ rfl (Nat.zero_le _) fb fc fr (by simp only [va_up, if_true]; rfl))

