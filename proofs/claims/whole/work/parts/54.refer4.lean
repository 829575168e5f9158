theorem zf_or {x y k : Nat} (h : x < 2 ^ k) : x ||| y * 2 ^ k = 2 ^ k * y + x := by
  rw [Nat.two_pow_add_eq_or_of_lt h, Nat.or_comm, Nat.mul_comm]
theorem mo_sy_form (δ : Nat → Nat → Nat) (ac : Nat → Bool) (r : Nat) : (∀ k, mo_sy δ ac r k < 2 ^ mo_bt r) ∧ ∀ k, mo_sy δ ac (r + 1) k = 2 ^ (1 + mo_bt r) * mo_sy δ ac r (δ k 1) + (2 * mo_sy δ ac r (δ k 0) + (ac k).toNat) := by
  have b2 : ∀ k, (ac k).toNat < 2 := fun k => by cases ac k <;> decide
  have form : ∀ r, (∀ k, mo_sy δ ac r k < 2 ^ mo_bt r) → ∀ k, mo_sy δ ac (r + 1) k = 2 ^ (1 + mo_bt r) * mo_sy δ ac r (δ k 1) + (2 * mo_sy δ ac r (δ k 0) + (ac k).toNat) := by
    intro r h k
    have h0 := h (δ k 0)
    have h1 := b2 k
    have e1 : 2 ^ (1 + mo_bt r) = 2 * 2 ^ mo_bt r := by rw [Nat.pow_add]
    have e2 : (ac k).toNat ||| mo_sy δ ac r (δ k 0) * 2 ^ 1 = 2 * mo_sy δ ac r (δ k 0) + (ac k).toNat := zf_or (k := 1) (by omega)
    simp only [mo_sy]
    rw [e2, zf_or (by omega)]
  have lt : ∀ r k, mo_sy δ ac r k < 2 ^ mo_bt r := by
    intro r
    induction r with
    | zero => intro k; simp only [mo_sy, mo_bt]; exact b2 k
    | succ r ih =>
      intro k
      rw [form r ih k]
      have h0 := ih (δ k 0)
      have h1 := ih (δ k 1)
      have h2 := b2 k
      have e1 : 2 ^ (1 + mo_bt r) = 2 * 2 ^ mo_bt r := by rw [Nat.pow_add]
      have e3 : 2 ^ mo_bt (r + 1) = 2 ^ (1 + mo_bt r) * 2 ^ mo_bt r := by
        rw [← Nat.pow_add]
        congr 1
        simp only [mo_bt]
        omega
      rw [e3]
      have h3 : 2 ^ (1 + mo_bt r) * (mo_sy δ ac r (δ k 1) + 1) ≤ 2 ^ (1 + mo_bt r) * 2 ^ mo_bt r := Nat.mul_le_mul_left _ h1
      rw [Nat.mul_add, Nat.mul_one] at h3
      omega
  exact ⟨lt r, form r (lt r)⟩
theorem mo_sy_iff {δ : Nat → Nat → Nat} {ac : Nat → Bool} {r a b : Nat} : mo_sy δ ac (r + 1) a = mo_sy δ ac (r + 1) b ↔ ac a = ac b ∧ mo_sy δ ac r (δ a 0) = mo_sy δ ac r (δ b 0) ∧ mo_sy δ ac r (δ a 1) = mo_sy δ ac r (δ b 1) := by
  have b2 : ∀ k, (ac k).toNat < 2 := fun k => by cases ac k <;> decide
  obtain ⟨hl, hf⟩ := mo_sy_form δ ac r
  constructor
  · intro h
    rw [hf a, hf b] at h
    have p : 0 < 2 ^ (1 + mo_bt r) := Nat.two_pow_pos _
    have e1 : 2 ^ (1 + mo_bt r) = 2 * 2 ^ mo_bt r := by rw [Nat.pow_add]
    have la := hl (δ a 0)
    have lb := hl (δ b 0)
    have ba := b2 a
    have bb := b2 b
    have m := congrArg (· % 2 ^ (1 + mo_bt r)) h
    have d := congrArg (· / 2 ^ (1 + mo_bt r)) h
    simp only [Nat.mul_add_mod, Nat.mul_add_div p] at m d
    rw [Nat.mod_eq_of_lt (by omega), Nat.mod_eq_of_lt (by omega)] at m
    rw [Nat.div_eq_of_lt (by omega), Nat.div_eq_of_lt (by omega)] at d
    have e : (ac a).toNat = (ac b).toNat := by omega
    refine ⟨?_, by omega, by omega⟩
    revert e
    cases ac a <;> cases ac b <;> first | (intro _; rfl) | (intro e; exact absurd e (by decide))
  · rintro ⟨h1, h2, h3⟩
    rw [hf a, hf b, h1, h2, h3]
theorem mo_sy_ac {δ : Nat → Nat → Nat} {ac : Nat → Bool} : ∀ {r a b : Nat}, mo_sy δ ac r a = mo_sy δ ac r b → ac a = ac b
  | 0, a, b, h => by
    simp only [mo_sy] at h
    revert h
    cases ac a <;> cases ac b <;> first | (intro _; rfl) | (intro e; exact absurd e (by decide))
  | r + 1, a, b, h => (mo_sy_iff.mp h).1
theorem mo_sy_mono {δ : Nat → Nat → Nat} {ac : Nat → Bool} : ∀ {r a b : Nat}, mo_sy δ ac (r + 1) a = mo_sy δ ac (r + 1) b → mo_sy δ ac r a = mo_sy δ ac r b
  | 0, a, b, h => by
    simp only [mo_sy]
    rw [(mo_sy_iff.mp h).1]
  | r + 1, a, b, h => by
    obtain ⟨h1, h2, h3⟩ := mo_sy_iff.mp h
    exact mo_sy_iff.mpr ⟨h1, mo_sy_mono h2, mo_sy_mono h3⟩
theorem mc_run_cons (δ : Nat → Nat → Nat) (s : Nat) (b : Bool) (w : List Bool) : mc_run δ s (b :: w) = mc_run δ (δ s b.toNat) w := rfl
theorem mc_run_app (δ : Nat → Nat → Nat) (s : Nat) (u v : List Bool) : mc_run δ s (u ++ v) = mc_run δ (mc_run δ s u) v := by
  simp [mc_run, List.foldl_append]
theorem mo_sy_tell {δ : Nat → Nat → Nat} {ac : Nat → Bool} : ∀ {r a b : Nat}, (∀ w, ac (mc_run δ a w) = ac (mc_run δ b w)) → mo_sy δ ac r a = mo_sy δ ac r b
  | 0, a, b, h => by
    simp only [mo_sy]
    have := h []
    simp only [mc_run, List.foldl_nil] at this
    rw [this]
  | r + 1, a, b, h => mo_sy_iff.mpr ⟨h [], mo_sy_tell (fun w => h (false :: w)), mo_sy_tell (fun w => h (true :: w))⟩
/-- m reachable codes that are told apart in r steps -/
def mo_cnt (δ : Nat → Nat → Nat) (ac : Nat → Bool) (s0 r m : Nat) : Prop := ∃ u : Nat → Nat, (∀ i, i < m → ∃ w, u i = mc_run δ s0 w) ∧ ∀ i j, i < m → j < m → mo_sy δ ac r (u i) = mo_sy δ ac r (u j) → i = j
def mo_str (δ : Nat → Nat → Nat) (ac : Nat → Bool) (s0 r : Nat) : Prop := ∃ x z : Nat, (∃ w, x = mc_run δ s0 w) ∧ (∃ w, z = mc_run δ s0 w) ∧ mo_sy δ ac r x = mo_sy δ ac r z ∧ ¬ mo_sy δ ac (r + 1) x = mo_sy δ ac (r + 1) z
theorem mo_next {δ : Nat → Nat → Nat} {s0 x b : Nat} (hb : b < 2) (h : ∃ w, x = mc_run δ s0 w) : ∃ w, δ x b = mc_run δ s0 w := by
  obtain ⟨w, hw⟩ := h
  obtain ⟨bb, hbb⟩ := al_b2 b hb
  exact ⟨w ++ [bb], by rw [mc_run_snoc, ← hw, hbb]⟩
theorem mo_str_down {δ : Nat → Nat → Nat} {ac : Nat → Bool} {s0 r : Nat} (h : mo_str δ ac s0 (r + 1)) : mo_str δ ac s0 r := by
  obtain ⟨x, z, hx, hz, e, ne⟩ := h
  obtain ⟨e1, e2, e3⟩ := mo_sy_iff.mp e
  by_cases c : mo_sy δ ac (r + 1) (δ x 0) = mo_sy δ ac (r + 1) (δ z 0)
  · refine ⟨δ x 1, δ z 1, mo_next (by decide) hx, mo_next (by decide) hz, e3, fun q => ne (mo_sy_iff.mpr ⟨e1, c, q⟩)⟩
  · exact ⟨δ x 0, δ z 0, mo_next (by decide) hx, mo_next (by decide) hz, e2, c⟩
theorem mo_cnt_0 {δ : Nat → Nat → Nat} {ac : Nat → Bool} {s0 : Nat} (h : mo_str δ ac s0 0) : mo_cnt δ ac s0 0 2 := by
  obtain ⟨x, z, hx, hz, e, ne⟩ := h
  have two : ∀ p q, (∃ w, p = mc_run δ s0 w) → (∃ w, q = mc_run δ s0 w) → ¬ mo_sy δ ac 0 p = mo_sy δ ac 0 q → mo_cnt δ ac s0 0 2 := fun p q hp hq hn => by
    refine ⟨fun i => if i = 0 then p else q, fun i hi => ?_, fun i j hi hj e => ?_⟩
    · show ∃ w, (if i = 0 then p else q) = mc_run δ s0 w
      split
      · exact hp
      · exact hq
    · by_cases c : i = 0
      · by_cases d : j = 0
        · omega
        · simp only [c, d, if_true, if_false] at e
          exact absurd e hn
      · by_cases d : j = 0
        · simp only [c, d, if_true, if_false] at e
          exact absurd e.symm hn
        · omega
  have ea := mo_sy_ac e
  by_cases c : mo_sy δ ac 0 (δ x 0) = mo_sy δ ac 0 (δ z 0)
  · exact two _ _ (mo_next (by decide) hx) (mo_next (by decide) hz) (fun q => ne (mo_sy_iff.mpr ⟨ea, c, q⟩))
  · exact two _ _ (mo_next (by decide) hx) (mo_next (by decide) hz) c
theorem mo_cnt_up {δ : Nat → Nat → Nat} {ac : Nat → Bool} {s0 r m : Nat} (h : mo_cnt δ ac s0 r m) (hs : mo_str δ ac s0 r) : mo_cnt δ ac s0 (r + 1) (m + 1) := by
  obtain ⟨u, u1, u2⟩ := h
  obtain ⟨x, z, hx, hz, e, ne⟩ := hs
  by_cases c : ∃ i, i < m ∧ mo_sy δ ac r (u i) = mo_sy δ ac r x
  · obtain ⟨i0, hi0, e0⟩ := c
    refine ⟨fun i => if i = m then z else if i = i0 then x else u i, fun i hi => ?_, fun i j hi hj eq => ?_⟩
    · show ∃ w, (if i = m then z else if i = i0 then x else u i) = mc_run δ s0 w
      by_cases c1 : i = m
      · rw [if_pos c1]; exact hz
      · rw [if_neg c1]
        by_cases c2 : i = i0
        · rw [if_pos c2]; exact hx
        · rw [if_neg c2]; exact u1 i (by omega)
    · replace eq : mo_sy δ ac (r + 1) (if i = m then z else if i = i0 then x else u i) = mo_sy δ ac (r + 1) (if j = m then z else if j = i0 then x else u j) := eq
      have far : ∀ k, k < m → k ≠ i0 → ¬ mo_sy δ ac r (u k) = mo_sy δ ac r x := fun k hk hne q => hne (u2 k i0 hk hi0 (q.trans e0.symm))
      by_cases c1 : i = m
      · by_cases d1 : j = m
        · omega
        · by_cases d2 : j = i0
          · rw [if_pos c1, if_neg d1, if_pos d2] at eq
            exact absurd eq.symm ne
          · rw [if_pos c1, if_neg d1, if_neg d2] at eq
            exact absurd ((mo_sy_mono eq).symm.trans e.symm) (far j (by omega) d2)
      · by_cases c2 : i = i0
        · by_cases d1 : j = m
          · rw [if_neg c1, if_pos c2, if_pos d1] at eq
            exact absurd eq ne
          · by_cases d2 : j = i0
            · omega
            · rw [if_neg c1, if_pos c2, if_neg d1, if_neg d2] at eq
              exact absurd (mo_sy_mono eq).symm (far j (by omega) d2)
        · by_cases d1 : j = m
          · rw [if_neg c1, if_neg c2, if_pos d1] at eq
            exact absurd ((mo_sy_mono eq).trans e.symm) (far i (by omega) c2)
          · by_cases d2 : j = i0
            · rw [if_neg c1, if_neg c2, if_neg d1, if_pos d2] at eq
              exact absurd (mo_sy_mono eq) (far i (by omega) c2)
            · rw [if_neg c1, if_neg c2, if_neg d1, if_neg d2] at eq
              exact u2 i j (by omega) (by omega) (mo_sy_mono eq)
  · refine ⟨fun i => if i = m then x else u i, fun i hi => ?_, fun i j hi hj eq => ?_⟩
    · show ∃ w, (if i = m then x else u i) = mc_run δ s0 w
      by_cases c1 : i = m
      · rw [if_pos c1]; exact hx
      · rw [if_neg c1]; exact u1 i (by omega)
    · replace eq : mo_sy δ ac (r + 1) (if i = m then x else u i) = mo_sy δ ac (r + 1) (if j = m then x else u j) := eq
      by_cases c1 : i = m
      · by_cases d1 : j = m
        · omega
        · rw [if_pos c1, if_neg d1] at eq
          exact absurd ⟨j, by omega, (mo_sy_mono eq).symm⟩ c
      · by_cases d1 : j = m
        · rw [if_neg c1, if_pos d1] at eq
          exact absurd ⟨i, by omega, mo_sy_mono eq⟩ c
        · rw [if_neg c1, if_neg d1] at eq
          exact u2 i j (by omega) (by omega) (mo_sy_mono eq)
/-- what is said in five steps tells all, if at most six things are said -/
theorem mo_five {δ : Nat → Nat → Nat} {ac : Nat → Bool} {s0 v : Nat} {mt : Nat → Nat} (hv : v ≤ 6) (h : ∀ w, ∃ t, t < v ∧ mt t = mo_sy δ ac 5 (mc_run δ s0 w)) : ¬ mo_str δ ac s0 5 := by
  intro s5
  have s4 := mo_str_down s5
  have s3 := mo_str_down s4
  have s2 := mo_str_down s3
  have s1 := mo_str_down s2
  have s0' := mo_str_down s1
  obtain ⟨u, u1, u2⟩ := mo_cnt_up (mo_cnt_up (mo_cnt_up (mo_cnt_up (mo_cnt_up (mo_cnt_0 s0') s0') s1) s2) s3) s4
  have hc : ∀ i, i < 7 → ∃ t, t < v ∧ mt t = mo_sy δ ac 5 (u i) := fun i hi => by
    obtain ⟨w, hw⟩ := u1 i hi
    rw [hw]
    exact h w
  have := le_pig v 7 (fun i => if hi : i < 7 then Classical.choose (hc i hi) else 0) (fun i hi => by
    have q := Classical.choose_spec (hc i hi)
    simp only [hi, dif_pos]
    exact q.1) (fun i j hi hj e => by
    have q1 := Classical.choose_spec (hc i hi)
    have q2 := Classical.choose_spec (hc j hj)
    simp only [hi, hj, dif_pos] at e
    rw [e] at q1
    exact u2 i j hi hj (q1.2.symm.trans q2.2))
  omega
theorem mo_keep5 {δ : Nat → Nat → Nat} {ac : Nat → Bool} {s0 : Nat} (h : ¬ mo_str δ ac s0 5) {x z b : Nat} (hb : b < 2) (hx : ∃ w, x = mc_run δ s0 w) (hz : ∃ w, z = mc_run δ s0 w) (e : mo_sy δ ac 5 x = mo_sy δ ac 5 z) : mo_sy δ ac 5 (δ x b) = mo_sy δ ac 5 (δ z b) := by
  have e6 : mo_sy δ ac 6 x = mo_sy δ ac 6 z := Classical.byContradiction fun q => h ⟨x, z, hx, hz, e, q⟩
  obtain ⟨e1, e2, e3⟩ := mo_sy_iff.mp e6
  by_cases c : b = 0
  · rw [c]; exact e2
  · rw [show b = 1 by omega]; exact e3
theorem le_A.congr {L : List Bool → Prop} {n : Nat} {g g2 : Nat → Nat} {a a2 : Nat → Bool} (h : le_A L n g a) (hg : ∀ k, k < 2 * n → g2 k = g k) (ha : ∀ s, s < n → a2 s = a s) : le_A L n g2 a2 := by
  obtain ⟨h1, h2, h3⟩ := h
  have glt : ∀ j, j < 2 * n → g j < n := fun j hj => (h1.2.1 j hj).1
  have fr : ∀ (w : List Bool) (s : Nat), s < n → bf_from g2 s w = bf_from g s w := by
    intro w
    induction w with
    | nil => intro s _; rfl
    | cons b w ih =>
      intro s hs
      have hb : b.toNat < 2 := by cases b <;> decide
      rw [bf_from_cons, bf_from_cons, hg _ (by omega)]
      exact ih _ (glt _ (by omega))
  have mx : ∀ k, k ≤ 2 * n → bf_max g2 k = bf_max g k := fun k hk => bf_max_congr (fun j hj => hg j (by omega))
  refine ⟨⟨h1.1, fun k hk => ?_, fun t ht => ?_⟩, fun w => ?_, fun s t hs ht hw => h3 s t hs ht fun w => ?_⟩
  · rw [hg k hk, mx k (by omega)]
    exact h1.2.1 k hk
  · rw [mx _ (by omega)]
    exact h1.2.2 t ht
  · rw [← bf_from_0, fr w 0 h1.1, ha _ (bf_from_lt glt w 0 h1.1)]
    exact h2 w
  · have q := hw w
    rw [fr w s hs, fr w t ht, ha _ (bf_from_lt glt w s hs), ha _ (bf_from_lt glt w t ht)] at q
    exact q
/-- the model's making, at slot j with n states met -/
def mo_B (δ : Nat → Nat → Nat) (sa : Nat → Nat) (s0 cn n j : Nat) (mt tb : Nat → Nat) : Prop := bf_inv n j tb ∧ mt 0 = s0 ∧ (∀ t, t < n → mt t < cn ∧ ∃ w, mt t = mc_run δ s0 w) ∧ (∀ t u, t < n → u < n → sa (mt t) = sa (mt u) → t = u) ∧ ∀ i, i < j → tb i < n ∧ sa (mt (tb i)) = sa (δ (mt (i / 2)) (i % 2))
theorem mo_B_six {δ : Nat → Nat → Nat} {sa mt mt1 : Nat → Nat} {s0 n v : Nat} (hv : v ≤ 6) (h : ∀ w, ∃ t, t < v ∧ sa (mt1 t) = sa (mc_run δ s0 w)) (h1 : ∀ t, t < n → ∃ w, mt t = mc_run δ s0 w) (h2 : ∀ t u, t < n → u < n → sa (mt t) = sa (mt u) → t = u) : n ≤ 6 := by
  have hc : ∀ i, i < n → ∃ t, t < v ∧ sa (mt1 t) = sa (mt i) := fun i hi => by
    obtain ⟨w, hw⟩ := h1 i hi
    rw [hw]
    exact h w
  have := le_pig v n (fun i => if hi : i < n then Classical.choose (hc i hi) else 0) (fun i hi => by
    have q := Classical.choose_spec (hc i hi)
    simp only [hi, dif_pos]
    exact q.1) (fun i j hi hj e => by
    have q1 := Classical.choose_spec (hc i hi)
    have q2 := Classical.choose_spec (hc j hj)
    simp only [hi, hj, dif_pos] at e
    rw [e] at q1
    exact h2 i j hi hj (q1.2.symm.trans q2.2))
  omega
theorem mo_B_old {δ : Nat → Nat → Nat} {sa mt tb : Nat → Nat} {s0 cn n j v : Nat} (h : mo_B δ sa s0 cn n j mt tb) (hj : j < 2 * n) (hv : v < n) (he : sa (mt v) = sa (δ (mt (j / 2)) (j % 2))) : mo_B δ sa s0 cn n (j + 1) mt (va_up tb j v) := by
  obtain ⟨a1, a2, a3, a4, a5⟩ := h
  have ne : ∀ i, i < j → va_up tb j v i = tb i := fun i hi => by simp only [va_up]; rw [if_neg (by omega)]
  refine ⟨bf_inv_step a1 hj ne (by simp only [va_up, if_true]) (Or.inl ⟨hv, rfl⟩), a2, a3, a4, fun i hi => ?_⟩
  by_cases c : i = j
  · subst c
    simp only [va_up, if_true]
    exact ⟨hv, he⟩
  · rw [ne i (by omega)]
    exact a5 i (by omega)
theorem mo_B_new {δ : Nat → Nat → Nat} {sa mt tb : Nat → Nat} {s0 cn n j : Nat} (hδ : ∀ x b, x < cn → b < 2 → δ x b < cn) (h : mo_B δ sa s0 cn n j mt tb) (hj : j < 2 * n) (hno : ∀ t, t < n → sa (mt t) ≠ sa (δ (mt (j / 2)) (j % 2))) : mo_B δ sa s0 cn (n + 1) (j + 1) (va_up mt n (δ (mt (j / 2)) (j % 2))) (va_up tb j n) := by
  obtain ⟨a1, a2, a3, a4, a5⟩ := h
  have n0 : 0 < n := by have := a1.1; omega
  have q3 := a3 (j / 2) (by omega)
  have hx : δ (mt (j / 2)) (j % 2) < cn := hδ _ _ q3.1 (by omega)
  have hw : ∃ w, δ (mt (j / 2)) (j % 2) = mc_run δ s0 w := mo_next (by omega) q3.2
  generalize hX : δ (mt (j / 2)) (j % 2) = X at hno hx hw ⊢
  have ne : ∀ i, i < j → va_up tb j n i = tb i := fun i hi => by simp only [va_up]; rw [if_neg (by omega)]
  have old : ∀ t, t < n → va_up mt n X t = mt t := fun t ht => by simp only [va_up]; rw [if_neg (by omega)]
  have new : va_up mt n X n = X := by simp only [va_up, if_true]
  refine ⟨bf_inv_step a1 hj ne (by simp only [va_up, if_true]) (Or.inr ⟨rfl, rfl⟩), by rw [old 0 n0]; exact a2, fun t ht => ?_, fun t u ht hu e => ?_, fun i hi => ?_⟩
  · by_cases c : t = n
    · rw [c, new]; exact ⟨hx, hw⟩
    · rw [old t (by omega)]; exact a3 t (by omega)
  · by_cases c : t = n
    · by_cases d : u = n
      · omega
      · rw [c, new, old u (by omega)] at e
        exact absurd e.symm (hno u (by omega))
    · by_cases d : u = n
      · rw [d, new, old t (by omega)] at e
        exact absurd e (hno t (by omega))
      · rw [old t (by omega), old u (by omega)] at e
        exact a4 t u (by omega) (by omega) e
  · by_cases c : i = j
    · subst c
      have e1 : va_up tb i n i = n := by simp only [va_up, if_true]
      rw [e1, new, old _ (by omega), hX]
      exact ⟨by omega, rfl⟩
    · have q := a5 i (by omega)
      rw [ne i (by omega), old _ q.1, old _ (by omega)]
      exact ⟨by omega, q.2⟩
theorem mo_B_end {δ : Nat → Nat → Nat} {ac : Nat → Bool} {sa mt tb : Nat → Nat} {s0 cn n : Nat} (hδ : ∀ x b, x < cn → b < 2 → δ x b < cn) (hs0 : s0 < cn) (hsa : ∀ k, k < cn → sa k = mo_sy δ ac 5 k) (hst : ¬ mo_str δ ac s0 5) (h : mo_B δ sa s0 cn n (2 * n) mt tb) : le_A (mc_L δ ac s0) n tb (fun t => ac (mt t)) := by
  obtain ⟨a1, a2, a3, a4, a5⟩ := h
  have n0 : 0 < n := by have := a1.1; omega
  have hb := bf_inv_end a1 n0
  have glt : ∀ j, j < 2 * n → tb j < n := fun j hj => (hb.2.1 j hj).1
  have run : ∀ (w : List Bool) (t : Nat), t < n → mo_sy δ ac 5 (mt (bf_from tb t w)) = mo_sy δ ac 5 (mc_run δ (mt t) w) ∧ ∃ u, mc_run δ (mt t) w = mc_run δ s0 u := by
    intro w t ht
    revert w
    refine zf_snoc ⟨rfl, (a3 t ht).2⟩ fun w b ih => ?_
    have hb2 : b.toNat < 2 := by cases b <;> decide
    have hlt := bf_from_lt glt w t ht
    have q := (a5 (2 * bf_from tb t w + b.toNat) (by omega)).2
    have l1 := a3 _ hlt
    have l2 := a3 _ (glt (2 * bf_from tb t w + b.toNat) (by omega))
    rw [show (2 * bf_from tb t w + b.toNat) / 2 = bf_from tb t w by omega, show (2 * bf_from tb t w + b.toNat) % 2 = b.toNat by omega, hsa _ l2.1, hsa _ (hδ _ _ l1.1 hb2)] at q
    rw [bf_from_snoc, mc_run_snoc, q]
    exact ⟨mo_keep5 hst hb2 l1.2 ih.2 ih.1, mo_next hb2 ih.2⟩
  refine ⟨hb, fun w => ?_, fun s t hs ht hw => ?_⟩
  · have q := (run w 0 n0).1
    rw [a2, bf_from_0] at q
    show ac (mt (bf_run tb w)) = true ↔ _
    rw [mo_sy_ac q]
    exact Iff.rfl
  · refine a4 s t hs ht ?_
    rw [hsa _ (a3 s hs).1, hsa _ (a3 t ht).1]
    refine mo_sy_tell fun w => ?_
    have q1 := mo_sy_ac (run w s hs).1
    have q2 := mo_sy_ac (run w t ht).1
    rw [← q1, ← q2]
    exact hw w
theorem mo_B_big {δ : Nat → Nat → Nat} {ac : Nat → Bool} {sa : Nat → Nat} {s0 cn : Nat} (hsa : ∀ k, k < cn → sa k = mo_sy δ ac 5 k) {u : Nat → Nat} (h1 : ∀ i, i < 7 → u i < cn ∧ ∃ w, u i = mc_run δ s0 w) (h2 : ∀ i j, i < 7 → j < 7 → sa (u i) = sa (u j) → i = j) : le_big (mc_L δ ac s0) 7 := by
  refine ⟨fun i => if h : i < 7 then Classical.choose (h1 i h).2 else [], fun i j hi hj hx => h2 i j hi hj ?_⟩
  have e1 := Classical.choose_spec (h1 i hi).2
  have e2 := Classical.choose_spec (h1 j hj).2
  rw [hsa _ (h1 i hi).1, hsa _ (h1 j hj).1]
  refine mo_sy_tell fun w => ?_
  have q := hx w
  simp only [hi, hj, dif_pos] at q
  unfold mc_L at q
  rw [mc_run_app, mc_run_app, ← e1, ← e2] at q
  exact Bool.eq_iff_iff.mpr q

