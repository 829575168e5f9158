-- numbering as met: a table g of steps over two letters, slot 2 * s + b; run from 0. DRAFT, never compiled yet (2026-11-15).
def bf_run (g : Nat → Nat) (w : List Bool) : Nat := w.foldl (fun s b => g (2 * s + b.toNat)) 0
theorem bf_run_snoc (g : Nat → Nat) (w : List Bool) (b : Bool) : bf_run g (w ++ [b]) = g (2 * bf_run g w + b.toNat) := by
  simp [bf_run, List.foldl_append]
/-- the greatest state met in the slots below k -/
def bf_max (g : Nat → Nat) : Nat → Nat
  | 0 => 0
  | k + 1 => max (bf_max g k) (g k)
theorem bf_max_ge {g : Nat → Nat} {j : Nat} : ∀ {k : Nat}, j < k → g j ≤ bf_max g k
  | 0, h => by omega
  | k + 1, h => by
    simp only [bf_max]
    by_cases hj : j = k
    · subst hj; omega
    · have := bf_max_ge (g := g) (j := j) (k := k) (by omega)
      omega
theorem bf_max_le {g : Nat → Nat} {n : Nat} : ∀ {k : Nat}, (∀ j, j < k → g j ≤ n) → bf_max g k ≤ n
  | 0, _ => by simp [bf_max]
  | k + 1, h => by
    have h1 := bf_max_le (g := g) (n := n) (k := k) (fun j hj => h j (by omega))
    have h2 := h k (by omega)
    simp only [bf_max]
    omega
theorem bf_max_congr {g g' : Nat → Nat} : ∀ {k : Nat}, (∀ j, j < k → g j = g' j) → bf_max g k = bf_max g' k
  | 0, _ => rfl
  | k + 1, h => by
    simp only [bf_max]
    rw [bf_max_congr (k := k) (fun j hj => h j (by omega)), h k (by omega)]
theorem bf_hit {g : Nat → Nat} {t : Nat} (ht : 0 < t) : ∀ {k : Nat}, (∀ j, j < k → g j ≤ bf_max g j + 1) → t ≤ bf_max g k → ∃ j, j < k ∧ g j = t
  | 0, _, h => by simp [bf_max] at h; omega
  | k + 1, hs, h => by
    simp only [bf_max] at h
    by_cases h1 : t ≤ bf_max g k
    · obtain ⟨j, hj, e⟩ := bf_hit ht (k := k) (fun j hj => hs j (by omega)) h1
      exact ⟨j, by omega, e⟩
    · have h2 := hs k (by omega)
      exact ⟨k, by omega, by omega⟩
/-- numbered as met, n states -/
def bf_num (n : Nat) (g : Nat → Nat) : Prop := 0 < n ∧ (∀ k, k < 2 * n → g k < n ∧ g k ≤ bf_max g k + 1) ∧ ∀ t, t < n → t ≤ bf_max g (2 * t)
/-- a state met below slot k has a word over those slots -/
theorem bf_word {n : Nat} {g : Nat → Nat} (h : bf_num n g) : ∀ (k : Nat), k ≤ 2 * n → ∀ t, t ≤ bf_max g k → ∃ w : List Bool, ∀ g' : Nat → Nat, (∀ j, j < k → g' j = g j) → bf_run g' w = t := by
  intro k
  induction k using Nat.strongRecOn with
  | ind k ih =>
    intro hk t ht
    by_cases h0 : t = 0
    · subst h0
      exact ⟨[], fun g' _ => rfl⟩
    · obtain ⟨j, hj, e⟩ := bf_hit (g := g) (by omega : 0 < t) (k := k) (fun j hj => (h.2.1 j (by omega)).2) ht
      have hs := h.2.2 (j / 2) (by omega)
      obtain ⟨w, hw⟩ := ih (2 * (j / 2)) (by omega) (by omega) (j / 2) hs
      by_cases hb : j % 2 = 1
      · refine ⟨w ++ [true], fun g' hg => ?_⟩
        rw [bf_run_snoc, hw g' (fun i hi => hg i (by omega))]
        have e2 : 2 * (j / 2) + true.toNat = j := by simp; omega
        rw [e2, hg j hj]
        exact e
      · refine ⟨w ++ [false], fun g' hg => ?_⟩
        rw [bf_run_snoc, hw g' (fun i hi => hg i (by omega))]
        have e2 : 2 * (j / 2) + false.toNat = j := by simp; omega
        rw [e2, hg j hj]
        exact e
theorem bf_run_lt {n : Nat} {g : Nat → Nat} (h : bf_num n g) (w : List Bool) : bf_run g w < n := by
  have key : ∀ (w : List Bool) (s : Nat), s < n → w.foldl (fun s b => g (2 * s + b.toNat)) s < n := by
    intro w
    induction w with
    | nil => intro s hs; exact hs
    | cons b w ih =>
      intro s hs
      have hb : b.toNat < 2 := by cases b <;> decide
      exact ih _ (h.2.1 (2 * s + b.toNat) (by omega)).1
  exact key w 0 h.1
/-- every state is met -/
theorem bf_all {n : Nat} {g : Nat → Nat} (h : bf_num n g) {t : Nat} (ht : t < n) : ∃ w : List Bool, bf_run g w = t := by
  obtain ⟨w, hw⟩ := bf_word h (2 * t) (by omega) t (h.2.2 t ht)
  exact ⟨w, hw g (fun _ _ => rfl)⟩
/-- the numbering is one alone: two tables, numbered as met, that tell words apart alike, are alike -/
theorem bf_same {n1 n2 : Nat} {g1 g2 : Nat → Nat} (h1 : bf_num n1 g1) (h2 : bf_num n2 g2) (hE : ∀ u v : List Bool, bf_run g1 u = bf_run g1 v ↔ bf_run g2 u = bf_run g2 v) : n1 = n2 ∧ ∀ k, k < 2 * n1 → g1 k = g2 k := by
  have key : ∀ k, k < 2 * n1 → k < 2 * n2 → g1 k = g2 k := by
    intro k
    induction k using Nat.strongRecOn with
    | ind k ih =>
      intro hk1 hk2
      have agree : ∀ j, j < k → g2 j = g1 j := fun j hj => (ih j hj (by omega) (by omega)).symm
      have hm : bf_max g2 k = bf_max g1 k := bf_max_congr agree
      obtain ⟨u, hu⟩ := bf_word h1 (2 * (k / 2)) (by omega) (k / 2) (h1.2.2 (k / 2) (by omega))
      have hu1 := hu g1 (fun _ _ => rfl)
      have hu2 := hu g2 (fun j hj => agree j (by omega))
      obtain ⟨b, hb⟩ : ∃ b : Bool, 2 * (k / 2) + b.toNat = k := by
        by_cases hb : k % 2 = 1
        · exact ⟨true, by simp; omega⟩
        · exact ⟨false, by simp; omega⟩
      have e1 : bf_run g1 (u ++ [b]) = g1 k := by rw [bf_run_snoc, hu1, hb]
      have e2 : bf_run g2 (u ++ [b]) = g2 k := by rw [bf_run_snoc, hu2, hb]
      have l1 := (h1.2.1 k hk1).2
      have l2 := (h2.2.1 k hk2).2
      by_cases c1 : g1 k ≤ bf_max g1 k
      · obtain ⟨w, hw⟩ := bf_word h1 k (by omega) (g1 k) c1
        have w1 := hw g1 (fun _ _ => rfl)
        have w2 := hw g2 agree
        have := (hE (u ++ [b]) w).mp (by rw [e1, w1])
        rw [e2, w2] at this
        exact this.symm
      · by_cases c2 : g2 k ≤ bf_max g1 k
        · obtain ⟨w, hw⟩ := bf_word h1 k (by omega) (g2 k) c2
          have w1 := hw g1 (fun _ _ => rfl)
          have w2 := hw g2 agree
          have := (hE (u ++ [b]) w).mpr (by rw [e2, w2])
          rw [e1, w1] at this
          exact this
        · omega
  have le : ∀ {n1 n2 : Nat} {g1 g2 : Nat → Nat}, bf_num n1 g1 → bf_num n2 g2 → (∀ k, k < 2 * n1 → k < 2 * n2 → g1 k = g2 k) → n2 ≤ n1 := by
    intro n1 n2 g1 g2 h1 h2 hk
    refine Nat.le_of_not_lt fun hlt => ?_
    have a := h2.2.2 n1 hlt
    have b : bf_max g2 (2 * n1) ≤ n1 - 1 := bf_max_le fun j hj => by
      rw [← hk j hj (by omega)]
      have := (h1.2.1 j hj).1
      omega
    have := h1.1
    omega
  have a := le h1 h2 key
  have b := le h2 h1 (fun k q1 q2 => (key k q2 q1).symm)
  have hn : n1 = n2 := by omega
  exact ⟨hn, fun k hk => key k hk (by omega)⟩
