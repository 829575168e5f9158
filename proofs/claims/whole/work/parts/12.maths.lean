-- first place where something holds; numbering while it grows; bits of a set; parts while they are split. Behind least.lean.txt. Own work.
def zf_ff (p : Nat → Bool) : Nat → Nat → Nat
  | k, 0 => k
  | k, m + 1 => if p k = true then k else zf_ff p (k + 1) m
theorem zf_spec (p : Nat → Bool) : ∀ (m k : Nat), k ≤ zf_ff p k m ∧ zf_ff p k m ≤ k + m ∧ (∀ i, k ≤ i → i < zf_ff p k m → p i = false) ∧ (zf_ff p k m < k + m → p (zf_ff p k m) = true)
  | 0, k => by
    simp only [zf_ff]
    exact ⟨Nat.le_refl _, Nat.le_refl _, fun i h1 h2 => by omega, fun h => by omega⟩
  | m + 1, k => by
    simp only [zf_ff]
    by_cases h : p k = true
    · rw [if_pos h]
      exact ⟨Nat.le_refl _, by omega, fun i h1 h2 => by omega, fun _ => h⟩
    · rw [if_neg h]
      obtain ⟨a1, a2, a3, a4⟩ := zf_spec p m (k + 1)
      refine ⟨by omega, by omega, fun i h1 h2 => ?_, fun h2 => a4 (by omega)⟩
      by_cases e : i = k
      · rw [e]
        exact Bool.eq_false_iff.mpr h
      · exact a3 i (by omega) h2
theorem zf_hit {p : Nat → Bool} {k m : Nat} (h : p k = true) (hm : 0 < m) : zf_ff p k m = k := by
  obtain ⟨m', rfl⟩ : ∃ m', m = m' + 1 := ⟨m - 1, by omega⟩
  simp only [zf_ff]
  rw [if_pos h]
theorem zf_miss {p : Nat → Bool} {k m : Nat} (h : p k = false) (hm : 0 < m) : zf_ff p k m = zf_ff p (k + 1) (m - 1) := by
  obtain ⟨m', rfl⟩ : ∃ m', m = m' + 1 := ⟨m - 1, by omega⟩
  simp only [zf_ff]
  rw [if_neg (by rw [h]; decide)]
  rfl
def bf_inv (m j : Nat) (g : Nat → Nat) : Prop := m = bf_max g j + 1 ∧ (∀ i, i < j → g i ≤ bf_max g i + 1) ∧ ∀ t, 2 * t < j → t ≤ bf_max g (2 * t)
theorem bf_inv_0 (g : Nat → Nat) : bf_inv 1 0 g := ⟨rfl, fun i h => by omega, fun t h => by omega⟩
theorem bf_inv_step {m j v m' : Nat} {g g' : Nat → Nat} (h : bf_inv m j g) (hj : j < 2 * m) (hg : ∀ i, i < j → g' i = g i) (hgj : g' j = v) (hm : (v < m ∧ m' = m) ∨ (v = m ∧ m' = m + 1)) : bf_inv m' (j + 1) g' := by
  have c : ∀ k, k ≤ j → bf_max g' k = bf_max g k := fun k hk => bf_max_congr (fun i hi => hg i (by omega))
  have h1 := h.1
  refine ⟨?_, fun i hi => ?_, fun t ht => ?_⟩
  · simp only [bf_max]
    rw [c j (Nat.le_refl _), hgj]
    omega
  · by_cases e : i = j
    · subst e
      rw [c i (Nat.le_refl _), hgj]
      omega
    · rw [hg i (by omega), c i (by omega)]
      exact h.2.1 i (by omega)
  · rw [c (2 * t) (by omega)]
    by_cases e : 2 * t < j
    · exact h.2.2 t e
    · have e2 : 2 * t = j := by omega
      rw [e2]
      omega
theorem bf_inv_end {m : Nat} {g : Nat → Nat} (h : bf_inv m (2 * m) g) (hm : 0 < m) : bf_num m g := by
  have h1 := h.1
  refine ⟨hm, fun k hk => ⟨?_, h.2.1 k hk⟩, fun t ht => h.2.2 t (by omega)⟩
  have := bf_max_ge (g := g) hk
  omega
/-- a set of states as bits -/
def re_ab (a : Nat → Bool) : Nat → Nat
  | 0 => 0
  | p + 1 => if a p = true then re_ab a p ||| 2 ^ p else re_ab a p
theorem re_ab_lt (a : Nat → Bool) : ∀ n, re_ab a n < 2 ^ n
  | 0 => by simp [re_ab]
  | p + 1 => by
    have h1 := re_ab_lt a p
    have h2 : 2 ^ p < 2 ^ (p + 1) := Nat.pow_lt_pow_right (by decide) (by omega)
    unfold re_ab
    split
    · exact Nat.or_lt_two_pow (by omega) h2
    · omega
theorem re_ab_tb (a : Nat → Bool) : ∀ n p, (re_ab a n).testBit p = (decide (p < n) && a p)
  | 0, p => by simp [re_ab]
  | n + 1, p => by
    have ih := re_ab_tb a n p
    unfold re_ab
    by_cases h : a n = true
    · rw [if_pos h, Nat.testBit_or, ih, Nat.testBit_two_pow]
      by_cases e : p = n
      · subst e
        simp [h]
      · have e1 : decide (n = p) = false := decide_eq_false (fun z => e z.symm)
        rw [e1, Bool.or_false]
        congr 1
        exact decide_eq_decide.mpr ⟨fun _ => by omega, fun _ => by omega⟩
    · rw [if_neg h, ih]
      by_cases e : p = n
      · subst e
        simp [h]
      · congr 1
        exact decide_eq_decide.mpr ⟨fun _ => by omega, fun _ => by omega⟩
theorem re_ab_bit {a : Nat → Bool} {n p : Nat} (hp : p < n) : re_ab a n / 2 ^ p % 2 = 1 ↔ a p = true := by
  have h := re_ab_tb a n p
  rw [Nat.testBit_eq_decide_div_mod_eq, decide_eq_true hp, Bool.true_and] at h
  rw [← h]
  exact (decide_eq_true_iff).symm
theorem re_ab_congr {a b : Nat → Bool} : ∀ {n : Nat}, (∀ p, p < n → a p = b p) → re_ab a n = re_ab b n
  | 0, _ => rfl
  | n + 1, h => by
    unfold re_ab
    rw [re_ab_congr (n := n) (fun p hp => h p (by omega)), h n (by omega)]
theorem mo_al_refl {g P : Nat → Nat} (s : Nat) : mo_al g P s s := ⟨rfl, rfl, rfl⟩
theorem mo_al_symm {g P : Nat → Nat} {s t : Nat} (h : mo_al g P s t) : mo_al g P t s := ⟨h.1.symm, h.2.1.symm, h.2.2.symm⟩
theorem mo_al_trans {g P : Nat → Nat} {s t u : Nat} (h : mo_al g P s t) (k : mo_al g P t u) : mo_al g P s u := ⟨h.1.trans k.1, h.2.1.trans k.2.1, h.2.2.trans k.2.2⟩
theorem mo_sp_0 {g P P' f : Nat → Nat} : mo_sp 0 g P 0 P' f := ⟨⟨fun s h => by omega, fun p h => by omega, fun p q _ h => by omega⟩, fun s t h => by omega⟩
theorem mo_sp_step {s c v c' : Nat} {g P P' f P2 f2 : Nat → Nat} (h : mo_sp s g P c P' f) (hno : ∀ p, p < v → ¬ mo_al g P s (f p)) (hyes : v < c → mo_al g P s (f v)) (hP : ∀ x, x < s → P2 x = P' x) (hPs : P2 s = v) (hf : ∀ p, p < c → f2 p = f p) (hfc : v = c → f2 c = s) (hc : (v < c ∧ c' = c) ∨ (v = c ∧ c' = c + 1)) : mo_sp (s + 1) g P c' P2 f2 := by
  obtain ⟨⟨a1, a2, a3⟩, a4⟩ := h
  have key : ∀ y, y < s → (v = P' y ↔ mo_al g P s y) := by
    intro y hy
    have b1 := a1 y hy
    have b2 := a2 _ b1.1
    have b3 : mo_al g P y (f (P' y)) := (a4 y _ hy b2.1).mp b2.2.symm
    constructor
    · intro e
      have := hyes (by omega)
      rw [e] at this
      exact mo_al_trans this (mo_al_symm b3)
    · intro hal
      have h1 := mo_al_trans hal b3
      have h2 : ¬ P' y < v := fun z => hno _ z h1
      have hvc : v < c := by omega
      have h3 := hyes hvc
      have h4 := a2 v hvc
      have h5 := (a4 _ _ h4.1 b2.1).mpr (mo_al_trans (mo_al_symm h3) h1)
      rw [h4.2, b2.2] at h5
      exact h5
  refine ⟨⟨fun x hx => ?_, fun p hp => ?_, fun p q hpq hq => ?_⟩, fun x y hx hy => ?_⟩
  · by_cases e : x = s
    · subst e
      rw [hPs]
      rcases hc with ⟨c1, c2⟩ | ⟨c1, c2⟩
      · have := a2 v c1
        rw [hf v c1]
        omega
      · rw [c1, hfc c1]
        omega
    · have := a1 x (by omega)
      rw [hP x (by omega), hf _ this.1]
      omega
  · by_cases e : p = c
    · have hv : v = c := by omega
      subst e
      rw [hfc hv, hPs]
      omega
    · have h1 := a2 p (by omega)
      rw [hf p (by omega), hP _ h1.1]
      exact ⟨by omega, h1.2⟩
  · by_cases e : q = c
    · have hv : v = c := by omega
      subst e
      have := a2 p (by omega)
      rw [hfc hv, hf p (by omega)]
      exact this.1
    · rw [hf p (by omega), hf q (by omega)]
      exact a3 p q hpq (by omega)
  · by_cases e1 : x = s
    · by_cases e2 : y = s
      · rw [e1, e2]
        exact ⟨fun _ => mo_al_refl _, fun _ => rfl⟩
      · rw [e1, hPs, hP y (by omega)]
        exact key y (by omega)
    · by_cases e2 : y = s
      · rw [e2, hPs, hP x (by omega)]
        constructor
        · intro e
          exact mo_al_symm ((key x (by omega)).mp e.symm)
        · intro e
          exact ((key x (by omega)).mpr (mo_al_symm e)).symm
      · rw [hP x (by omega), hP y (by omega)]
        exact a4 x y (by omega) (by omega)
theorem mo_le {N c c' : Nat} {P f P' f' : Nat → Nat} (h : mo_fst N c P f) (h' : mo_fst N c' P' f') (hf : ∀ s t, s < N → t < N → P' s = P' t → P s = P t) : c ≤ c' :=
  le_pig c' c (fun p => P' (f p)) (fun i hi => (h'.1 _ (h.2.1 i hi).1).1) (fun i j hi hj e => by
    have := hf _ _ (h.2.1 i hi).1 (h.2.1 j hj).1 e
    rw [(h.2.1 i hi).2, (h.2.1 j hj).2] at this
    exact this)
/-- states told apart, so the language is large -/
theorem mo_big {N k m : Nat} {g A : Nat → Nat} {L : List Bool → Prop} (hn : bf_num N g) (hL : ∀ w, A (bf_run g w) = 1 ↔ L w) (hA : ∀ s, s < N → A s < 2) {u : Nat → Nat} (hu : ∀ i, i < m → u i < N) (hd : ∀ i j, i < m → j < m → mo_eq g A k (u i) (u j) → i = j) : le_big L m := by
  refine ⟨fun i => if h : u i < N then Classical.choose (bf_all hn h) else [], fun i j hi hj hx => ?_⟩
  have e1 := Classical.choose_spec (bf_all hn (hu i hi))
  have e2 := Classical.choose_spec (bf_all hn (hu j hj))
  refine hd i j hi hj (mo_tell k _ _ fun w => ?_)
  have := hx w
  simp only [hu i hi, hu j hj, dif_pos] at this
  rw [← hL, ← hL, bf_run_app, bf_run_app, e1, e2] at this
  have hg : ∀ k, k < 2 * N → g k < N := fun k hk => (hn.2.1 k hk).1
  have b1 := hA _ (bf_from_lt hg w _ (hu i hi))
  have b2 := hA _ (bf_from_lt hg w _ (hu j hj))
  omega
/-- six first states and one more that goes like none of them -/
theorem re_seven {N c : Nat} {g P P' f : Nat → Nat} (h : mo_sp N g P c P' f) (hc : c = 6) {s : Nat} (hno : ∀ p, p < 6 → ¬ mo_al g P s (f p)) : ∀ i j, i < 7 → j < 7 → mo_al g P (if i < 6 then f i else s) (if j < 6 then f j else s) → i = j := by
  subst hc
  intro i j hi hj hal
  by_cases e1 : i < 6
  · by_cases e2 : j < 6
    · simp only [e1, e2, if_true] at hal
      have a := h.1.2.1 i e1
      have b := h.1.2.1 j e2
      have := (h.2 _ _ a.1 b.1).mpr hal
      rw [a.2, b.2] at this
      exact this
    · simp only [e1, e2, if_true, if_false] at hal
      exact absurd (mo_al_symm hal) (hno i e1)
  · by_cases e2 : j < 6
    · simp only [e1, e2, if_true, if_false] at hal
      exact absurd hal (hno j e2)
    · omega
