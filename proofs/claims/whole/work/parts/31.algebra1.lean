/-- the search, at slot j with m elements found -/
def al_G (n : Nat) (g : Nat → Nat) (m j : Nat) (mp lg sh la : Nat → Nat) : Prop :=
  bf_inv m j lg ∧ (∃ ws : Nat → List Bool, ∀ k, k < m → mp k = au_pk (fun q => bf_from g q (ws k)) n) ∧ (∀ k k2, k < m → k2 < m → mp k = mp k2 → k = k2) ∧ mp 0 = au_pk (fun q => q) n ∧
  (∀ i, i < j → lg i < m ∧ mp (lg i) = au_pk (fun q => g (2 * (mp (i / 2) / 2 ^ (3 * q) % 8) + i % 2)) n) ∧ ∀ k, 0 < k → k < m → sh k < k ∧ la k < 2 ∧ 2 * sh k + la k < j ∧ lg (2 * sh k + la k) = k ∧ ∀ i, i < 2 * sh k + la k → lg i < k
theorem bf_from_snoc (g : Nat → Nat) (s : Nat) (w : List Bool) (b : Bool) : bf_from g s (w ++ [b]) = g (2 * bf_from g s w + b.toNat) := by
  simp [bf_from, List.foldl_append]
theorem al_dig {n m k : Nat} {g mp : Nat → Nat} {ws : Nat → List Bool} (hn : n ≤ 6) (hg : ∀ j, j < 2 * n → g j < n) (h : ∀ k, k < m → mp k = au_pk (fun q => bf_from g q (ws k)) n) (hk : k < m) : ∀ q, q < n → mp k / 2 ^ (3 * q) % 8 = bf_from g q (ws k) := by
  intro q hq
  rw [h k hk]
  exact au_pk_at (fun q hq => by have := bf_from_lt hg (ws k) q hq; omega) q hq
theorem al_b2 (c : Nat) (hc : c < 2) : ∃ b : Bool, b.toNat = c := by
  by_cases h : c = 1
  · exact ⟨true, h.symm⟩
  · exact ⟨false, by simp; omega⟩
theorem al_new {n m j : Nat} {g mp : Nat → Nat} {ws : Nat → List Bool} (hn : n ≤ 6) (hg : ∀ j, j < 2 * n → g j < n) (h : ∀ k, k < m → mp k = au_pk (fun q => bf_from g q (ws k)) n) (hj : j / 2 < m) : ∃ w : List Bool, au_pk (fun q => g (2 * (mp (j / 2) / 2 ^ (3 * q) % 8) + j % 2)) n = au_pk (fun q => bf_from g q w) n := by
  obtain ⟨b, hb⟩ := al_b2 (j % 2) (by omega)
  refine ⟨ws (j / 2) ++ [b], au_pk_congr fun q hq => ?_⟩
  rw [bf_from_snoc, al_dig hn hg h hj q hq, hb]
theorem al_G_0 {n : Nat} {g mp lg sh la : Nat → Nat} (h : mp 0 = au_pk (fun q => q) n) : al_G n g 1 0 mp lg sh la :=
  ⟨bf_inv_0 lg, ⟨fun _ => [], fun k hk => by rw [show k = 0 by omega]; exact h⟩, fun k k2 h1 h2 _ => by omega, h, fun i hi => by omega, fun k h1 h2 => by omega⟩
theorem al_G_old {n m j v : Nat} {g mp lg sh la : Nat → Nat} (h : al_G n g m j mp lg sh la) (hj : j < 2 * m) (hv : v < m) (hmv : mp v = au_pk (fun q => g (2 * (mp (j / 2) / 2 ^ (3 * q) % 8) + j % 2)) n) : al_G n g m (j + 1) mp (va_up lg j v) sh la := by
  obtain ⟨h1, h2, h3, h4, h5, h6⟩ := h
  have ne : ∀ i, i < j → va_up lg j v i = lg i := fun i hi => by simp only [va_up]; rw [if_neg (by omega)]
  refine ⟨bf_inv_step h1 hj ne (by simp only [va_up, if_true]) (Or.inl ⟨hv, rfl⟩), h2, h3, h4, fun i hi => ?_, fun k k1 k2 => ?_⟩
  · by_cases e : i = j
    · subst e
      simp only [va_up, if_true]
      exact ⟨hv, hmv⟩
    · rw [ne i (by omega)]
      exact h5 i (by omega)
  · obtain ⟨c1, c2, c3, c4, c5⟩ := h6 k k1 k2
    refine ⟨c1, c2, by omega, by rw [ne _ c3]; exact c4, fun i hi => ?_⟩
    rw [ne i (by omega)]
    exact c5 i hi
theorem al_G_new {n m j : Nat} {g mp lg sh la : Nat → Nat} (hn : n ≤ 6) (hg : ∀ j, j < 2 * n → g j < n) (h : al_G n g m j mp lg sh la) (hj : j < 2 * m) (hno : ∀ k, k < m → mp k ≠ au_pk (fun q => g (2 * (mp (j / 2) / 2 ^ (3 * q) % 8) + j % 2)) n) : al_G n g (m + 1) (j + 1) (va_up mp m (au_pk (fun q => g (2 * (mp (j / 2) / 2 ^ (3 * q) % 8) + j % 2)) n)) (va_up lg j m) (va_up sh m (j / 2)) (va_up la m (j % 2)) := by
  obtain ⟨h1, ⟨ws, h2⟩, h3, h4, h5, h6⟩ := h
  obtain ⟨w, hw⟩ := al_new hn hg h2 (show j / 2 < m by omega)
  generalize hM : au_pk (fun q => g (2 * (mp (j / 2) / 2 ^ (3 * q) % 8) + j % 2)) n = M at hno hw ⊢
  have ne : ∀ i, i < j → va_up lg j m i = lg i := fun i hi => by simp only [va_up]; rw [if_neg (by omega)]
  have nm : ∀ k, k < m → va_up mp m M k = mp k := fun k hk => by simp only [va_up]; rw [if_neg (by omega)]
  have nM : va_up mp m M m = M := by simp only [va_up, if_true]
  have m0 : 0 < m := by have := h1.1; omega
  refine ⟨bf_inv_step h1 hj ne (by simp only [va_up, if_true]) (Or.inr ⟨rfl, rfl⟩), ⟨va_up ws m w, fun k hk => ?_⟩, fun k k2 k1 k3 e => ?_, by rw [nm 0 m0]; exact h4, fun i hi => ?_, fun k k1 k2 => ?_⟩
  · by_cases e : k = m
    · subst e
      rw [nM]
      simp only [va_up, if_true]
      exact hw
    · rw [nm k (by omega)]
      simp only [va_up, e, if_false]
      exact h2 k (by omega)
  · by_cases e1 : k = m
    · by_cases e2 : k2 = m
      · omega
      · rw [e1, nM, nm k2 (by omega)] at e
        exact absurd e.symm (hno k2 (by omega))
    · by_cases e2 : k2 = m
      · rw [e2, nM, nm k (by omega)] at e
        exact absurd e (hno k (by omega))
      · rw [nm k (by omega), nm k2 (by omega)] at e
        exact h3 k k2 (by omega) (by omega) e
  · by_cases e : i = j
    · subst e
      have e1 : va_up lg i m i = m := by simp only [va_up, if_true]
      rw [e1, nM, nm _ (by omega)]
      exact ⟨by omega, hM.symm⟩
    · have := h5 i (by omega)
      rw [ne i (by omega), nm _ this.1, nm _ (by omega)]
      exact ⟨by omega, this.2⟩
  · by_cases e : k = m
    · subst e
      have e1 : va_up sh k (j / 2) k = j / 2 := by simp only [va_up, if_true]
      have e2 : va_up la k (j % 2) k = j % 2 := by simp only [va_up, if_true]
      rw [e1, e2, show 2 * (j / 2) + j % 2 = j by omega]
      refine ⟨by omega, by omega, by omega, by simp only [va_up, if_true], fun i hi => ?_⟩
      rw [ne i hi]
      exact (h5 i hi).1
    · obtain ⟨c1, c2, c3, c4, c5⟩ := h6 k k1 (by omega)
      have e1 : va_up sh m (j / 2) k = sh k := by simp only [va_up, e, if_false]
      have e2 : va_up la m (j % 2) k = la k := by simp only [va_up, e, if_false]
      rw [e1, e2]
      refine ⟨c1, c2, by omega, by rw [ne _ c3]; exact c4, fun i hi => ?_⟩
      rw [ne i (by omega)]
      exact c5 i hi
theorem al_G_big {n m j : Nat} {g mp lg sh la : Nat → Nat} (hn : n ≤ 6) (hg : ∀ j, j < 2 * n → g j < n) (h : al_G n g m j mp lg sh la) (hj : j < 2 * m) (hno : ∀ k, k < m → mp k ≠ au_pk (fun q => g (2 * (mp (j / 2) / 2 ^ (3 * q) % 8) + j % 2)) n) : al_big n g (m + 1) := by
  obtain ⟨h1, ⟨ws, h2⟩, h3, h4, h5, h6⟩ := h
  obtain ⟨w, hw⟩ := al_new hn hg h2 (show j / 2 < m by omega)
  rw [hw] at hno
  have no : ∀ k, k < m → ¬ ∀ q, q < n → bf_from g q (ws k) = bf_from g q w := fun k hk e => hno k hk (by rw [h2 k hk]; exact au_pk_congr e)
  refine ⟨va_up ws m w, fun k k2 k1 k3 e => ?_⟩
  by_cases e1 : k = m
  · by_cases e2 : k2 = m
    · omega
    · simp only [va_up, e1, e2, if_true, if_false] at e
      exact absurd (fun q hq => (e q hq).symm) (no k2 (by omega))
  · by_cases e2 : k2 = m
    · simp only [va_up, e1, e2, if_true, if_false] at e
      exact absurd e (no k (by omega))
    · simp only [va_up, e1, e2, if_false] at e
      exact h3 k k2 (by omega) (by omega) (by rw [h2 k (by omega), h2 k2 (by omega)]; exact au_pk_congr e)
def al_S (n : Nat) (g : Nat → Nat) (e : Nat) (lg sh la : Nat → Nat) : Prop := al_T n g e lg ∧ ∀ k, 0 < k → k < e → sh k < k ∧ la k < 2 ∧ lg (2 * sh k + la k) = k ∧ ∀ i, i < 2 * sh k + la k → lg i < k
theorem al_G_end {n m : Nat} {g mp lg sh la : Nat → Nat} (hn : n ≤ 6) (hg : ∀ j, j < 2 * n → g j < n) (h : al_G n g m (2 * m) mp lg sh la) : al_S n g m lg sh la := by
  obtain ⟨h1, ⟨ws, h2⟩, h3, h4, h5, h6⟩ := h
  have m0 : 0 < m := by have := h1.1; omega
  have hb := bf_inv_end h1 m0
  have b6 : ∀ (w : List Bool) (q : Nat), q < n → bf_from g q w < 8 := fun w q hq => by have := bf_from_lt hg w q hq; omega
  have run : ∀ w, mp (bf_run lg w) = au_pk (fun q => bf_from g q w) n := by
    refine zf_snoc h4 fun w b ih => ?_
    have hb2 : b.toNat < 2 := by cases b <;> decide
    have hlt := bf_run_lt hb w
    have q := (h5 (2 * bf_run lg w + b.toNat) (by omega)).2
    rw [show (2 * bf_run lg w + b.toNat) / 2 = bf_run lg w by omega, show (2 * bf_run lg w + b.toNat) % 2 = b.toNat by omega] at q
    rw [bf_run_snoc, q]
    refine au_pk_congr fun q hq => ?_
    rw [ih, au_pk_at (b6 w) q hq, bf_from_snoc]
  refine ⟨⟨hb, fun u v => ?_⟩, fun k k1 k2 => ?_⟩
  · rw [← au_pk_inj (b6 u) (b6 v), ← run, ← run]
    exact ⟨fun e => by rw [e], fun e => h3 _ _ (bf_run_lt hb u) (bf_run_lt hb v) e⟩
  · obtain ⟨c1, c2, c3, c4, c5⟩ := h6 k k1 k2
    exact ⟨c1, c2, c4, c5⟩
def al_obj (o e : Nat) : va_E := .inr (8, [.ref (o + 1), .ref (o + 2), .ref (o + 3), .ref (o + 4), .int (nI e), .ref (o + 5), .ref (o + 6), .ref (o + 7), .ref (o + 8), .ref (o + 9)])
theorem Al_placeOf_ok {l : Launch} {Δ : zv_D} {hp : zv_M} {sz : Nat} {o e0 m x : Nat} {mp : Nat → Nat} (a0 : hp o = some (al_obj o e0)) (a1 : hp (o + 1) = some (zn_I Δ 60 mp)) (hm : m ≤ 60) (hx : x < 4294967296) (hb : ∀ k, k < m → mp k < 4294967296) : zv_P l Δ 0 y_Al_placeOf b_Al_placeOf 4 ((some (FieldType.int))) [.ref o, .int (nI x), .int (nI m)] hp sz (.int (nI (zf_ff (fun k => decide (mp k = x)) 0 m))) := by
  refine zv_E.intro (lv0 := [some (.ref o), some (.int (nI x)), some (.int (nI m)), none]) rfl (Nat.le_of_ble_eq_true rfl) rfl ?_
  intro Γ hl F
  clear hl
  have loop : ∀ (z q : Nat), z = m - q → q ≤ m → zf_ff (fun k => decide (mp k = x)) 0 m = zf_ff (fun k => decide (mp k = x)) q (m - q) → zv_V Δ Γ (zv_QQ Δ Γ 0 0 (fun r hp1 sz1 => r = some (.int (nI (zf_ff (fun k => decide (mp k = x)) 0 m))) ∧ hp1 = hp ∧ sz1 = sz)) 2 [some (.ref o), some (.int (nI x)), some (.int (nI m)), some (.int (nI q))] [] hp sz 0 0 := by
    intro z
    induction z using Nat.strongRecOn with
    | ind z ih =>
      intro q hz hq he
      refine zv_iload_n F d_Al_placeOf_2 rfl ?_
      refine zv_iload_n F d_Al_placeOf_3 rfl ?_
      refine zn_icmp_ge (tgt := 25) F d_Al_placeOf_4 rfl (by omega) (by omega) (fun h4 => ?_) (fun h4 => ?_)
      · refine zv_iload_n F d_Al_placeOf_25 rfl ?_
        exact zv_iret F d_Al_placeOf_26 (Nat.le_of_ble_eq_true rfl) (Nat.le_of_ble_eq_true rfl) ⟨zn_rt (by rw [he, show m - q = 0 by omega]; simp only [zf_ff]; omega), rfl, rfl⟩
      · have hbq := hb q h4
        refine zv_aload_n F d_Al_placeOf_7 rfl ?_
        refine zv_get F d_Al_placeOf_8 (by assumption) k_Al 0 (Nat.le_of_ble_eq_true rfl) ln_Al_9 rfl (by rfl) ?_
        refine zv_iload_n F d_Al_placeOf_11 rfl ?_
        refine zn_iald F d_Al_placeOf_12 (by assumption) (by omega) (by omega) ?_
        refine zv_iload_n F d_Al_placeOf_13 rfl ?_
        refine zn_icmp_ne (tgt := 19) F d_Al_placeOf_14 rfl (by omega) (by omega) (fun h14 => ?_) (fun h14 => ?_)
        · refine zn_iinc F d_Al_placeOf_19 rfl ?_
          simp only [zv_s1, zv_s2, zv_kill, List.set_cons_zero, List.set_cons_succ, List.getElem?_cons_zero, List.getElem?_cons_succ]
          refine zv_goto (tgt := 2) F d_Al_placeOf_22 rfl ?_
          exact zv_weak (by repeat' (first | exact True.intro | refine And.intro rfl ?_)) (ih (m - (q + 1)) (by omega) (q + 1) rfl (by omega) (by rw [he, zf_miss (decide_eq_false h14) (by omega)]; rfl))
        · refine zv_iload_n F d_Al_placeOf_17 rfl ?_
          exact zv_iret F d_Al_placeOf_18 (Nat.le_of_ble_eq_true rfl) (Nat.le_of_ble_eq_true rfl) ⟨zn_rt (by rw [he, zf_hit (decide_eq_true h14) (by omega)]), rfl, rfl⟩
  refine zn_iconst (x := 0) F d_Al_placeOf_0 (by decide) ?_
  refine zv_istore_n F d_Al_placeOf_1 (Nat.le_of_ble_eq_true rfl) ?_
  simp only [zv_s1, zv_s2, zv_kill, List.set_cons_zero, List.set_cons_succ, List.getElem?_cons_zero, List.getElem?_cons_succ]
  exact zv_weak (by repeat' (first | exact True.intro | refine And.intro rfl ?_)) (loop _ 0 rfl (Nat.zero_le _) (by rw [Nat.sub_zero]))

