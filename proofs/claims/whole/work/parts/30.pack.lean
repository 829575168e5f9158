-- maps of states packed in three bits each; the algebra's table. Behind more.lean.txt and the automaton. Own work.
theorem au_pk_lt {f : Nat → Nat} : ∀ {n : Nat}, (∀ q, q < n → f q < 8) → au_pk f n < 2 ^ (3 * n)
  | 0, _ => by simp [au_pk]
  | n + 1, h => by
    have h1 := au_pk_lt (f := f) (n := n) (fun q hq => h q (by omega))
    have h2 := h n (by omega)
    have e : 2 ^ (3 * (n + 1)) = 8 * 2 ^ (3 * n) := by
      rw [show 3 * (n + 1) = 3 * n + 3 by omega, Nat.pow_add, Nat.mul_comm]
    have h3 : 2 ^ (3 * n) ≤ 2 ^ (3 * (n + 1)) := Nat.pow_le_pow_right (by decide) (by omega)
    unfold au_pk
    refine Nat.or_lt_two_pow (Nat.lt_of_lt_of_le h1 h3) ?_
    rw [e]
    exact (Nat.mul_lt_mul_right (Nat.two_pow_pos _)).mpr h2
theorem au_pk_succ {f : Nat → Nat} {n : Nat} (h : ∀ q, q < n → f q < 8) : au_pk f (n + 1) = 2 ^ (3 * n) * f n + au_pk f n := by
  rw [Nat.two_pow_add_eq_or_of_lt (au_pk_lt h), au_pk, Nat.or_comm, Nat.mul_comm]
theorem au_pk_at {f : Nat → Nat} : ∀ {n : Nat}, (∀ q, q < n → f q < 8) → ∀ q, q < n → au_pk f n / 2 ^ (3 * q) % 8 = f q
  | 0, _, q, hq => by omega
  | n + 1, h, q, hq => by
    have hl := au_pk_lt (f := f) (n := n) (fun q hq => h q (by omega))
    have hn := h n (by omega)
    rw [au_pk_succ (fun q hq => h q (by omega))]
    by_cases e : q = n
    · subst e
      rw [Nat.mul_add_div (Nat.two_pow_pos _), Nat.div_eq_of_lt hl, Nat.add_zero, Nat.mod_eq_of_lt hn]
    · have ih := au_pk_at (f := f) (n := n) (fun q hq => h q (by omega)) q (by omega)
      obtain ⟨k, hk⟩ : ∃ k, n = q + (k + 1) := ⟨n - q - 1, by omega⟩
      have e2 : 2 ^ (3 * n) * f n = 2 ^ (3 * q) * (8 * (2 ^ (3 * k) * f n)) := by
        rw [hk, show 3 * (q + (k + 1)) = 3 * q + (3 + 3 * k) by omega, Nat.pow_add, Nat.pow_add, show (2 : Nat) ^ 3 = 8 from rfl, Nat.mul_assoc, Nat.mul_assoc]
      rw [e2, Nat.mul_add_div (Nat.two_pow_pos _), Nat.mul_add_mod]
      exact ih
theorem au_pk_congr {f f2 : Nat → Nat} : ∀ {n : Nat}, (∀ q, q < n → f q = f2 q) → au_pk f n = au_pk f2 n
  | 0, _ => rfl
  | n + 1, h => by
    unfold au_pk
    rw [au_pk_congr (n := n) (fun q hq => h q (by omega)), h n (by omega)]
theorem au_pk_inj {f f2 : Nat → Nat} {n : Nat} (h : ∀ q, q < n → f q < 8) (h2 : ∀ q, q < n → f2 q < 8) : au_pk f n = au_pk f2 n ↔ ∀ q, q < n → f q = f2 q := by
  refine ⟨fun e q hq => ?_, au_pk_congr⟩
  have a := au_pk_at h q hq
  rw [e, au_pk_at h2 q hq] at a
  exact a.symm
/-- the table of the algebra: words that do the same -/
def al_T (n : Nat) (g : Nat → Nat) (e : Nat) (lg : Nat → Nat) : Prop := bf_num e lg ∧ ∀ u v, bf_run lg u = bf_run lg v ↔ ∀ q, q < n → bf_from g q u = bf_from g q v
def al_big (n : Nat) (g : Nat → Nat) (m : Nat) : Prop := ∃ u : Nat → List Bool, ∀ i j, i < m → j < m → (∀ q, q < n → bf_from g q (u i) = bf_from g q (u j)) → i = j
theorem al_T_same {n e1 e2 : Nat} {g lg1 lg2 : Nat → Nat} (h1 : al_T n g e1 lg1) (h2 : al_T n g e2 lg2) : e1 = e2 ∧ ∀ k, k < 2 * e1 → lg1 k = lg2 k :=
  bf_same h1.1 h2.1 (fun u v => (h1.2 u v).trans (h2.2 u v).symm)
theorem al_T_big {n e m : Nat} {g lg : Nat → Nat} (h : al_T n g e lg) (hb : al_big n g m) : m ≤ e := by
  obtain ⟨u, hu⟩ := hb
  exact le_pig e m (fun i => bf_run lg (u i)) (fun i _ => bf_run_lt h.1 _) (fun i j hi hj q => hu i j hi hj ((h.2 _ _).mp q))
/-- the least words as numbers -/
def al_W (e : Nat) (lg wd : Nat → Nat) : Prop := wd 0 = 1 ∧ ∀ k, 0 < k → k < e → ∃ j, lg j = k ∧ (∀ i, i < j → lg i ≠ k) ∧ j / 2 < k ∧ wd k = 2 * wd (j / 2) + j % 2
theorem al_W_same {e : Nat} {lg lg2 wd wd2 : Nat → Nat} (hl : ∀ k, k < 2 * e → lg k = lg2 k) (h : al_W e lg wd) (h2 : al_W e lg2 wd2) : ∀ k, k < e → wd k = wd2 k := by
  intro k
  induction k using Nat.strongRecOn with
  | ind k ih =>
    intro hk
    by_cases e0 : k = 0
    · rw [e0, h.1, h2.1]
    · obtain ⟨j, a1, a2, a3, a4⟩ := h.2 k (by omega) hk
      obtain ⟨j2, b1, b2, b3, b4⟩ := h2.2 k (by omega) hk
      have ej : j = j2 := by
        refine Nat.le_antisymm (Nat.le_of_not_lt fun z => ?_) (Nat.le_of_not_lt fun z => ?_)
        · exact a2 j2 z (by rw [hl j2 (by omega)]; exact b1)
        · exact b2 j z (by rw [← hl j (by omega)]; exact a1)
      subst ej
      rw [a4, b4, ih _ a3 (by omega)]
/-- products -/
def al_P (e : Nat) (lg pr : Nat → Nat) : Prop := ∀ u v, pr (60 * bf_run lg u + bf_run lg v) = bf_run lg (u ++ v)
theorem al_P_same {e : Nat} {lg lg2 pr pr2 : Nat → Nat} (hn : bf_num e lg) (hn2 : bf_num e lg2) (hl : ∀ k, k < 2 * e → lg k = lg2 k) (h : al_P e lg pr) (h2 : al_P e lg2 pr2) : ∀ j k, j < e → k < e → pr (60 * j + k) = pr2 (60 * j + k) := by
  intro j k hj hk
  have run : ∀ w, bf_run lg w = bf_run lg2 w := by
    intro w
    have key : ∀ (w : List Bool) (s : Nat), s < e → bf_from lg s w = bf_from lg2 s w := by
      intro w
      induction w with
      | nil => intro s _; rfl
      | cons b w ih =>
        intro s hs
        have hb : b.toNat < 2 := by cases b <;> decide
        rw [bf_from_cons, bf_from_cons, hl _ (by omega)]
        exact ih _ (hn2.2.1 _ (by omega)).1
    exact key w 0 hn.1
  obtain ⟨u, hu⟩ := bf_all hn hj
  obtain ⟨v, hv⟩ := bf_all hn hk
  have a := h u v
  have b := h2 u v
  rw [← run, ← run, ← run] at b
  rw [hu, hv] at a b
  rw [a, b]
/-- sets of elements as bits -/
def al_or (f : Nat → Nat) : Nat → Nat
  | 0 => 0
  | x + 1 => al_or f x ||| f x
theorem al_or_congr {f f2 : Nat → Nat} : ∀ {n : Nat}, (∀ q, q < n → f q = f2 q) → al_or f n = al_or f2 n
  | 0, _ => rfl
  | n + 1, h => by
    unfold al_or
    rw [al_or_congr (n := n) (fun q hq => h q (by omega)), h n (by omega)]
theorem al_or_lt {f : Nat → Nat} {k : Nat} : ∀ {n : Nat}, (∀ q, q < n → f q < 2 ^ k) → al_or f n < 2 ^ k
  | 0, _ => Nat.two_pow_pos _
  | n + 1, h => by
    unfold al_or
    exact Nat.or_lt_two_pow (al_or_lt (n := n) (fun q hq => h q (by omega))) (h n (by omega))
def al_r (e : Nat) (pr : Nat → Nat) (j : Nat) : Nat := al_or (fun x => 2 ^ pr (60 * j + x)) e
def al_l (e : Nat) (pr : Nat → Nat) (j : Nat) : Nat := al_or (fun x => 2 ^ pr (60 * x + j)) e
def al_b (e : Nat) (pr : Nat → Nat) (j : Nat) : Nat := al_or (fun x => al_r e pr (pr (60 * x + j))) e
