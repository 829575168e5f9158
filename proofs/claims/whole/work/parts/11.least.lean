-- least automata: partitions split until nothing more splits. Behind bfs.lean.txt. DRAFT, never compiled yet (2026-11-15).
def bf_from (g : Nat → Nat) (s : Nat) (w : List Bool) : Nat := w.foldl (fun s b => g (2 * s + b.toNat)) s
theorem bf_from_0 (g : Nat → Nat) (w : List Bool) : bf_from g 0 w = bf_run g w := rfl
theorem bf_from_cons (g : Nat → Nat) (s : Nat) (b : Bool) (w : List Bool) : bf_from g s (b :: w) = bf_from g (g (2 * s + b.toNat)) w := rfl
theorem bf_run_app (g : Nat → Nat) (u v : List Bool) : bf_run g (u ++ v) = bf_from g (bf_run g u) v := by
  simp [bf_run, bf_from, List.foldl_append]
theorem bf_from_lt {n : Nat} {g : Nat → Nat} (h : ∀ k, k < 2 * n → g k < n) : ∀ (w : List Bool) (s : Nat), s < n → bf_from g s w < n
  | [], s, hs => hs
  | b :: w, s, hs => by
    have hb : b.toNat < 2 := by cases b <;> decide
    exact bf_from_lt h w _ (h (2 * s + b.toNat) (by omega))
/-- the least automaton of a language: numbered as met, right, and no two states alike -/
def le_A (L : List Bool → Prop) (n : Nat) (g : Nat → Nat) (a : Nat → Bool) : Prop :=
  bf_num n g ∧ (∀ w, a (bf_run g w) = true ↔ L w) ∧ ∀ s t, s < n → t < n → (∀ w, a (bf_from g s w) = a (bf_from g t w)) → s = t
/-- two words lead to one state just when nothing behind them tells them apart -/
theorem le_ner {L : List Bool → Prop} {n : Nat} {g : Nat → Nat} {a : Nat → Bool} (h : le_A L n g a) (u v : List Bool) : bf_run g u = bf_run g v ↔ ∀ x, (L (u ++ x) ↔ L (v ++ x)) := by
  constructor
  · intro e x
    rw [← h.2.1, ← h.2.1, bf_run_app, bf_run_app, e]
  · intro e
    refine h.2.2 _ _ (bf_run_lt h.1 u) (bf_run_lt h.1 v) fun w => ?_
    rw [← bf_run_app, ← bf_run_app]
    exact Bool.eq_iff_iff.mpr ((h.2.1 _).trans ((e w).trans (h.2.1 _).symm))
/-- it is one alone -/
theorem le_same {L : List Bool → Prop} {n1 n2 : Nat} {g1 g2 : Nat → Nat} {a1 a2 : Nat → Bool} (h1 : le_A L n1 g1 a1) (h2 : le_A L n2 g2 a2) : n1 = n2 ∧ (∀ k, k < 2 * n1 → g1 k = g2 k) ∧ ∀ s, s < n1 → a1 s = a2 s := by
  obtain ⟨hn, hg⟩ := bf_same h1.1 h2.1 (fun u v => (le_ner h1 u v).trans (le_ner h2 u v).symm)
  refine ⟨hn, hg, fun s hs => ?_⟩
  obtain ⟨w, hw⟩ := bf_word h1.1 (2 * s) (by omega) s (h1.1.2.2 s hs)
  have e1 := hw g1 (fun _ _ => rfl)
  have e2 := hw g2 (fun j hj => (hg j (by omega)).symm)
  have r1 := h1.2.1 w
  have r2 := h2.2.1 w
  rw [e1] at r1
  rw [e2] at r2
  exact Bool.eq_iff_iff.mpr (r1.trans r2.symm)
/-- words that are told apart in pairs: no automaton of fewer states has the language -/
def le_big (L : List Bool → Prop) (m : Nat) : Prop := ∃ u : Nat → List Bool, ∀ i j, i < m → j < m → (∀ x, L (u i ++ x) ↔ L (u j ++ x)) → i = j
theorem le_pig : ∀ (n m : Nat) (f : Nat → Nat), (∀ i, i < m → f i < n) → (∀ i j, i < m → j < m → f i = f j → i = j) → m ≤ n
  | 0, m, f, h, _ => by
    refine Nat.le_of_not_lt fun hm => ?_
    have := h 0 (by omega)
    omega
  | n + 1, m, f, h, inj => by
    by_cases hx : ∃ i, i < m ∧ f i = n
    · obtain ⟨i0, hi0, e0⟩ := hx
      -- leave i0 out: move the last one into its place
      have := le_pig n (m - 1) (fun i => if i = i0 then f (m - 1) else f i) (fun i hi => by
        show (if i = i0 then f (m - 1) else f i) < n
        by_cases c : i = i0
        · rw [if_pos c]
          have a := h (m - 1) (by omega)
          have b : f (m - 1) ≠ n := fun e => by
            have := inj (m - 1) i0 (by omega) hi0 (by rw [e, e0])
            omega
          omega
        · rw [if_neg c]
          have a := h i (by omega)
          have b : f i ≠ n := fun e => c (inj i i0 (by omega) hi0 (by rw [e, e0]))
          omega) (fun i j hi hj e => by
        by_cases c : i = i0
        · by_cases d : j = i0
          · rw [c, d]
          · simp only [c, d, if_true, if_false] at e
            have := inj (m - 1) j (by omega) (by omega) e
            omega
        · by_cases d : j = i0
          · simp only [c, d, if_true, if_false] at e
            have := inj i (m - 1) (by omega) (by omega) e
            omega
          · simp only [c, d, if_false] at e
            exact inj i j (by omega) (by omega) e)
      omega
    · have := le_pig n m f (fun i hi => by
        have a := h i hi
        have b : f i ≠ n := fun e => hx ⟨i, hi, e⟩
        omega) inj
      omega
theorem le_big_not {L : List Bool → Prop} {n m : Nat} {g : Nat → Nat} {a : Nat → Bool} (h : le_A L n g a) (hb : le_big L m) : m ≤ n := by
  obtain ⟨u, hu⟩ := hb
  exact le_pig n m (fun i => bf_run g (u i)) (fun i _ => bf_run_lt h.1 _) (fun i j hi hj e => hu i j hi hj ((le_ner h _ _).mp e))
/-- two states go alike under a partition -/
def mo_al (g P : Nat → Nat) (s t : Nat) : Prop := P s = P t ∧ P (g (2 * s)) = P (g (2 * t)) ∧ P (g (2 * s + 1)) = P (g (2 * t + 1))
/-- parts numbered by their first states -/
def mo_fst (N c : Nat) (P f : Nat → Nat) : Prop := (∀ s, s < N → P s < c ∧ f (P s) ≤ s) ∧ (∀ p, p < c → f p < N ∧ P (f p) = p) ∧ ∀ p q, p < q → q < c → f p < f q
def mo_sp (N : Nat) (g P : Nat → Nat) (c : Nat) (P' f : Nat → Nat) : Prop := mo_fst N c P' f ∧ ∀ s t, s < N → t < N → (P' s = P' t ↔ mo_al g P s t)
theorem mo_below {N c : Nat} {P f : Nat → Nat} (h : mo_fst N c P f) {s p : Nat} (hp : p < c) (hs : s < f p) : P s < p := by
  have hN := (h.2.1 p hp).1
  have h1 := h.1 s (by omega)
  refine Nat.lt_of_not_le fun hle => ?_
  rcases Nat.eq_or_lt_of_le hle with e | e
  · rw [← e] at h1
    omega
  · have := h.2.2 p (P s) e h1.1
    omega
/-- a finer partition with as many parts is the same one, number for number -/
theorem mo_stable {N c : Nat} {P f P' f' : Nat → Nat} (h : mo_fst N c P f) (h' : mo_fst N c P' f') (hf : ∀ s t, s < N → t < N → P' s = P' t → P s = P t) : ∀ s, s < N → P' s = P s := by
  -- the first states of P' and of P agree, from part 0 on
  have inj : ∀ p q, p < c → q < c → P (f' p) = P (f' q) → p = q := by
    -- the map p ↦ P (f' p) is onto the c parts of P, so it is one to one
    intro p q hp hq e
    refine Classical.byContradiction fun hne => ?_
    -- a choice of a part of P' for each part of P misses one
    have hon : ∀ r, r < c → ∃ p', p' < c ∧ P (f' p') = r := fun r hr => by
      have a := h.2.1 r hr
      have b := h'.1 (f r) a.1
      refine ⟨P' (f r), b.1, ?_⟩
      have d := h'.2.1 (P' (f r)) b.1
      rw [hf _ _ d.1 a.1 d.2]
      exact a.2
    let F : Nat → Nat := fun r => if hr : r < c then Classical.choose (hon r hr) else 0
    have hF : ∀ r, r < c → F r < c ∧ P (f' (F r)) = r := fun r hr => by
      have := Classical.choose_spec (hon r hr)
      simp only [F, hr, dif_pos]
      exact this
    -- F is one to one into the parts without p or without q
    have hmiss : (∀ r, r < c → F r ≠ p) ∨ (∀ r, r < c → F r ≠ q) := by
      by_cases hx : ∃ r, r < c ∧ F r = p
      · right
        obtain ⟨r, hr, er⟩ := hx
        intro r2 hr2 er2
        have a := (hF r hr).2
        have b := (hF r2 hr2).2
        rw [er] at a
        rw [er2] at b
        have : r = r2 := by rw [← a, ← b, e]
        subst this
        exact hne (by rw [← er, ← er2])
      · left
        exact fun r hr er => hx ⟨r, hr, er⟩
    have hinj : ∀ i j, i < c → j < c → F i = F j → i = j := fun i j hi hj e2 => by
      rw [← (hF i hi).2, ← (hF j hj).2, e2]
    have go : ∀ z, z < c → (∀ r, r < c → F r ≠ z) → False := fun z hz hm => by
      have := le_pig (c - 1) c (fun r => if F r = c - 1 then z else F r) (fun i hi => by
        have a := (hF i hi).1
        have b := hm i hi
        show (if F i = c - 1 then z else F i) < c - 1
        by_cases d : F i = c - 1
        · rw [if_pos d]; omega
        · rw [if_neg d]; omega) (fun i j hi hj e2 => by
        have bi := hm i hi
        have bj := hm j hj
        by_cases di : F i = c - 1
        · by_cases dj : F j = c - 1
          · exact hinj i j hi hj (by rw [di, dj])
          · simp only [di, dj, if_true, if_false] at e2
            exact absurd e2.symm bj
        · by_cases dj : F j = c - 1
          · simp only [di, dj, if_true, if_false] at e2
            exact absurd e2 bi
          · simp only [di, dj, if_false] at e2
            exact hinj i j hi hj e2)
      omega
    rcases hmiss with hm | hm
    · exact go p hp hm
    · exact go q hq hm
  have conv : ∀ s t, s < N → t < N → P s = P t → P' s = P' t := fun s t hs ht e => by
    have a := h'.1 s hs
    have b := h'.1 t ht
    refine inj _ _ a.1 b.1 ?_
    have a2 := h'.2.1 _ a.1
    have b2 := h'.2.1 _ b.1
    rw [hf _ _ a2.1 hs a2.2, hf _ _ b2.1 ht b2.2, e]
  -- numbered by first states, so the numbers agree
  have fs : ∀ p, p < c → f' p = f p := by
    intro p
    induction p using Nat.strongRecOn with
    | ind p ih =>
      intro hp
      have a := h.2.1 p hp
      have a' := h'.2.1 p hp
      -- f p is in a part of P' that is none below p, and f' p in none of P below p
      have n1 : P' (f p) ≥ p := Nat.le_of_not_lt fun hlt => by
        have b := h'.2.1 (P' (f p)) (by omega)
        have e := hf _ _ b.1 a.1 b.2
        rw [ih _ hlt (by omega), (h.2.1 _ (by omega)).2, a.2] at e
        omega
      have n2 : P (f' p) ≥ p := Nat.le_of_not_lt fun hlt => by
        have b := h.2.1 (P (f' p)) (by omega)
        have e := conv _ _ b.1 a'.1 b.2
        rw [← ih _ hlt (by omega), (h'.2.1 _ (by omega)).2, a'.2] at e
        omega
      have l1 : f' p ≤ f p := by
        have b := h'.1 (f p) a.1
        rcases Nat.eq_or_lt_of_le n1 with e | e
        · rw [← e] at b; exact b.2
        · have := h'.2.2 p _ e b.1
          omega
      have l2 : f p ≤ f' p := by
        have b := h.1 (f' p) a'.1
        rcases Nat.eq_or_lt_of_le n2 with e | e
        · rw [← e] at b; exact b.2
        · have := h.2.2 p _ e b.1
          omega
      omega
  intro s hs
  have a := h'.1 s hs
  have b := h'.2.1 _ a.1
  have e := hf _ _ b.1 hs b.2
  rw [fs _ a.1, (h.2.1 _ a.1).2] at e
  exact e
/-- alike in k steps -/
def mo_eq (g A : Nat → Nat) : Nat → Nat → Nat → Prop
  | 0, s, t => A s = A t
  | k + 1, s, t => mo_eq g A k s t ∧ mo_eq g A k (g (2 * s)) (g (2 * t)) ∧ mo_eq g A k (g (2 * s + 1)) (g (2 * t + 1))
theorem mo_eq_sp {N c k : Nat} {g A P P' f : Nat → Nat} (hg : ∀ j, j < 2 * N → g j < N) (hP : ∀ s t, s < N → t < N → (P s = P t ↔ mo_eq g A k s t)) (h : mo_sp N g P c P' f) : ∀ s t, s < N → t < N → (P' s = P' t ↔ mo_eq g A (k + 1) s t) := by
  intro s t hs ht
  rw [h.2 s t hs ht]
  unfold mo_al mo_eq
  rw [hP s t hs ht, hP _ _ (hg _ (by omega)) (hg _ (by omega)), hP _ _ (hg _ (by omega)) (hg _ (by omega))]
theorem mo_tell {g A : Nat → Nat} : ∀ (k s t : Nat), (∀ w, A (bf_from g s w) = A (bf_from g t w)) → mo_eq g A k s t
  | 0, s, t, h => h []
  | k + 1, s, t, h => ⟨mo_tell k s t h, mo_tell k _ _ (fun w => h (false :: w)), mo_tell k _ _ (fun w => h (true :: w))⟩
/-- a partition that splits no more tells nothing alike apart -/
theorem mo_keep {N : Nat} {g A P : Nat → Nat} (hg : ∀ j, j < 2 * N → g j < N) (hA : ∀ s t, s < N → t < N → P s = P t → A s = A t) (hs : ∀ s t, s < N → t < N → P s = P t → mo_al g P s t) : ∀ (w : List Bool) (s t : Nat), s < N → t < N → P s = P t → A (bf_from g s w) = A (bf_from g t w)
  | [], s, t, h1, h2, e => hA s t h1 h2 e
  | b :: w, s, t, h1, h2, e => by
    have a := hs s t h1 h2 e
    rw [bf_from_cons, bf_from_cons]
    cases b with
    | false => exact mo_keep hg hA hs w _ _ (hg _ (by simp; omega)) (hg _ (by simp; omega)) a.2.1
    | true => exact mo_keep hg hA hs w _ _ (hg _ (by simp; omega)) (hg _ (by simp; omega)) a.2.2
/-- the automaton of the parts is the least one -/
theorem mo_least {N c : Nat} {g P f : Nat → Nat} {a : Nat → Bool} {L : List Bool → Prop} (hn : bf_num N g) (hL : ∀ w, a (bf_run g w) = true ↔ L w) (hP : mo_fst N c P f) (hs : ∀ s t, s < N → t < N → P s = P t → mo_al g P s t) (ha : ∀ s t, s < N → t < N → P s = P t → a s = a t) (hd : ∀ s t, s < N → t < N → (∀ w, a (bf_from g s w) = a (bf_from g t w)) → P s = P t)
    {G : Nat → Nat} (hG : ∀ p, p < c → G (2 * p) = P (g (2 * f p)) ∧ G (2 * p + 1) = P (g (2 * f p + 1))) {b : Nat → Bool} (hb : ∀ p, p < c → b p = a (f p)) : le_A L c G b := by
  have hg : ∀ j, j < 2 * N → g j < N := fun j hj => (hn.2.1 j hj).1
  -- a slot of the parts: over any state of the part
  have slot : ∀ (s : Nat) (e : Bool), s < N → G (2 * P s + e.toNat) = P (g (2 * s + e.toNat)) := by
    intro s e hs'
    have q := hP.1 s hs'
    have r := hP.2.1 _ q.1
    have al := hs _ _ r.1 hs' r.2
    cases e with
    | false => exact ((hG _ q.1).1).trans al.2.1
    | true => exact ((hG _ q.1).2).trans al.2.2
  have p0 : P 0 = 0 := by
    have q := hP.1 0 hn.1
    have r := hP.2.1 _ q.1
    have z : f (P 0) = 0 := by omega
    refine Classical.byContradiction fun hne => ?_
    have := hP.2.2 0 (P 0) (by omega) q.1
    omega
  have run : ∀ w, bf_run G w = P (bf_run g w) := by
    have key : ∀ (w : List Bool) (s : Nat), s < N → bf_from G (P s) w = P (bf_from g s w) := by
      intro w
      induction w with
      | nil => intro s _; rfl
      | cons e w ih =>
        intro s hs'
        have he : e.toNat < 2 := by cases e <;> decide
        rw [bf_from_cons, bf_from_cons, slot s e hs']
        exact ih _ (hg _ (by omega))
    intro w
    have := key w 0 hn.1
    rw [p0] at this
    exact this
  have c0 : 0 < c := by
    have := (hP.1 0 hn.1).1
    omega
  -- every slot of G below 2 p + e is met over states in order
  have met : ∀ (p : Nat) (e : Bool), p < c → ∀ t, t ≤ bf_max g (2 * f p + e.toNat) → P t ≤ bf_max G (2 * p + e.toNat) := by
    intro p e hp t ht
    have he : e.toNat < 2 := by cases e <;> decide
    have hfp := (hP.2.1 p hp).1
    by_cases ht0 : t = 0
    · subst ht0; rw [p0]; omega
    · obtain ⟨j, hj, ej⟩ := bf_hit (g := g) (by omega : 0 < t) (k := 2 * f p + e.toNat) (fun i hi => (hn.2.1 i (by omega)).2) ht
      obtain ⟨e2, he2⟩ : ∃ e2 : Bool, 2 * (j / 2) + e2.toNat = j := by
        by_cases hb : j % 2 = 1
        · exact ⟨true, by simp; omega⟩
        · exact ⟨false, by simp; omega⟩
      have hj2 : j / 2 < N := by omega
      have sl := slot (j / 2) e2 hj2
      rw [he2, ej] at sl
      rw [← sl]
      have he2' : e2.toNat < 2 := by cases e2 <;> decide
      refine bf_max_ge ?_
      by_cases hlt : j / 2 < f p
      · have := mo_below hP hp hlt
        omega
      · have : j / 2 = f p := by omega
        rw [this, (hP.2.1 p hp).2]
        omega
  refine ⟨⟨c0, fun k hk => ?_, fun p hp => ?_⟩, fun w => ?_, fun s t hs' ht' hw => ?_⟩
  · -- slot k
    obtain ⟨e, he⟩ : ∃ e : Bool, 2 * (k / 2) + e.toNat = k := by
      by_cases hb : k % 2 = 1
      · exact ⟨true, by simp; omega⟩
      · exact ⟨false, by simp; omega⟩
    have he2 : e.toNat < 2 := by cases e <;> decide
    have hp : k / 2 < c := by omega
    have r := hP.2.1 _ hp
    have sl := slot (f (k / 2)) e r.1
    rw [r.2, he] at sl
    have hin := hg (2 * f (k / 2) + e.toNat) (by omega)
    refine ⟨by rw [sl]; exact (hP.1 _ hin).1, ?_⟩
    rw [sl]
    have num := (hn.2.1 (2 * f (k / 2) + e.toNat) (by omega)).2
    -- the part before it has its first state before this one
    by_cases hq : P (g (2 * f (k / 2) + e.toNat)) = 0
    · omega
    · have q := hP.1 _ hin
      have fl := hP.2.2 (P (g (2 * f (k / 2) + e.toNat)) - 1) _ (by omega) q.1
      have m := met (k / 2) e hp (f (P (g (2 * f (k / 2) + e.toNat)) - 1)) (by omega)
      rw [(hP.2.1 _ (by omega)).2, he] at m
      omega
  · -- part p is met before its own slots
    by_cases hp0 : p = 0
    · omega
    · have r := hP.2.1 p hp
      have mm := hn.2.2 (f p) r.1
      have := met p false hp (f p) (by simpa using mm)
      rw [r.2] at this
      simpa using this
  · rw [run, hb _ (hP.1 _ (bf_run_lt hn w)).1]
    have q := hP.1 _ (bf_run_lt hn w)
    have r := hP.2.1 _ q.1
    rw [ha _ _ r.1 (bf_run_lt hn w) r.2]
    exact hL w
  · have rs := hP.2.1 s hs'
    have rt := hP.2.1 t ht'
    rw [← rs.2, ← rt.2]
    refine hd _ _ rs.1 rt.1 fun w => ?_
    have key : ∀ (w : List Bool) (s : Nat), s < N → b (bf_from G (P s) w) = a (bf_from g s w) := by
      intro w
      induction w with
      | nil =>
        intro s hs2
        have q := hP.1 s hs2
        have r := hP.2.1 _ q.1
        show b (P s) = a s
        rw [hb _ q.1]
        exact ha _ _ r.1 hs2 r.2
      | cons e w ih =>
        intro s hs2
        have he : e.toNat < 2 := by cases e <;> decide
        rw [bf_from_cons, bf_from_cons, slot s e hs2]
        exact ih _ (hg _ (by omega))
    have k1 := key w (f s) rs.1
    have k2 := key w (f t) rt.1
    rw [rs.2] at k1
    rw [rt.2] at k2
    rw [← k1, ← k2]
    exact hw w
