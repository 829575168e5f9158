theorem mc_L_same {δ1 δ2 : Nat → Nat → Nat} {a1 a2 : Nat → Bool} {s0 : Nat} (V : Nat → Prop) (h0 : V s0) (hs : ∀ x b, V x → b < 2 → V (δ1 x b) ∧ δ2 x b = δ1 x b) (ha : ∀ x, V x → a2 x = a1 x) : ∀ w, mc_L δ1 a1 s0 w ↔ mc_L δ2 a2 s0 w := by
  have key : ∀ w, V (mc_run δ1 s0 w) ∧ mc_run δ2 s0 w = mc_run δ1 s0 w := by
    refine zf_snoc ⟨h0, rfl⟩ fun w b ih => ?_
    have hb : b.toNat < 2 := by cases b <;> decide
    rw [mc_run_snoc, mc_run_snoc, ih.2]
    exact hs _ _ ih.1 hb
  intro w
  unfold mc_L
  rw [(key w).2, ha _ (key w).1]
/-- what the class and the model have alike of one language -/
def jt_l (n acc : Nat) (g : Nat → Nat) (n2 acc2 : Nat) (g2 : Nat → Nat) : Prop := n2 = n ∧ acc2 = acc ∧ (∀ k, k < 2 * n → g2 k = g k) ∧ n ≤ 6 ∧ acc = re_ab (pm_tb acc) n ∧ ∃ L, le_A L n g (pm_tb acc)
theorem jt_l.lt {n acc n2 acc2 : Nat} {g g2 : Nat → Nat} (h : jt_l n acc g n2 acc2 g2) : 0 < n ∧ ∀ k, k < 2 * n → g k < n := by
  obtain ⟨-, -, -, -, -, L, hL⟩ := h
  exact ⟨hL.1.1, fun k hk => (hL.1.2.1 k hk).1⟩
theorem au_ss_lt2 {g : Nat → Nat} {n set b : Nat} (hg : ∀ k, k < 2 * n → g k < n) (hb : b < 2) : ∀ m, m ≤ n → au_ss g set b m < 2 ^ n
  | 0, _ => Nat.two_pow_pos _
  | q + 1, h => by
    have h1 := au_ss_lt2 (set := set) hg hb q (by omega)
    have h2 := hg (2 * q + b) (by omega)
    unfold au_ss
    split
    · exact Nat.or_lt_two_pow h1 (Nat.pow_lt_pow_right (by decide) h2)
    · exact h1
theorem au_ss_eq {g g2 : Nat → Nat} {n set b : Nat} (hg : ∀ k, k < 2 * n → g2 k = g k) (hb : b < 2) (hs : set < 2 ^ n) : ∀ m, au_ss g2 set b (n + m) = au_ss g set b n
  | 0 => by
    have key : ∀ q, q ≤ n → au_ss g2 set b q = au_ss g set b q := by
      intro q
      induction q with
      | zero => intro _; rfl
      | succ q ih =>
        intro hq
        simp only [au_ss]
        rw [ih (by omega), hg (2 * q + b) (by omega)]
    exact key n (Nat.le_refl _)
  | m + 1 => by
    rw [← Nat.add_assoc, au_ss, if_neg, au_ss_eq hg hb hs m]
    have : set / 2 ^ (n + m) = 0 := Nat.div_eq_of_lt (Nat.lt_of_lt_of_le hs (Nat.pow_le_pow_right (by decide) (by omega)))
    omega
theorem au_ss_6 {g g2 : Nat → Nat} {n set b : Nat} (hn : n ≤ 6) (hg : ∀ k, k < 2 * n → g2 k = g k) (hb : b < 2) (hs : set < 2 ^ n) : au_ss g2 set b 6 = au_ss g set b n := by
  have := au_ss_eq hg hb hs (6 - n)
  rw [show n + (6 - n) = 6 by omega] at this
  exact this
theorem jt_pair {n1 a1 n1' a1' n2 a2 n2' a2' : Nat} {g1 g1' g2 g2' : Nat → Nat} (both : Bool) (h1 : jt_l n1 a1 g1 n1' a1' g1') (h2 : jt_l n2 a2 g2 n2' a2' g2') : ∀ w, mc_L (pm_pa g1 g2) (pm_paA both a1 a2) 0 w ↔ mc_L (pm_pa g1' g2') (pm_paA both a1' a2') 0 w := by
  obtain ⟨p1, l1⟩ := h1.lt
  obtain ⟨p2, l2⟩ := h2.lt
  obtain ⟨-, rfl, e1, n16, -, -⟩ := h1
  obtain ⟨-, rfl, e2, n26, -, -⟩ := h2
  refine mc_L_same (fun x => x / 6 < n1 ∧ x % 6 < n2) ⟨by omega, by omega⟩ (fun x b hV hb => ?_) (fun x _ => rfl)
  have q1 := l1 (2 * (x / 6) + b) (by omega)
  have q2 := l2 (2 * (x % 6) + b) (by omega)
  unfold pm_pa
  rw [e1 _ (by omega), e2 _ (by omega)]
  exact ⟨⟨by omega, by omega⟩, rfl⟩
theorem pm_of_V {a p set n : Nat} (hn : n ≤ 6) (hn0 : 0 < n) (hs : set < 2 ^ n) : pm_of a p set / 64 = p ∧ pm_of a p set % 64 < 2 ^ n := by
  have h64 : 2 ^ n ≤ 64 := Nat.pow_le_pow_right (n := 2) (i := n) (j := 6) (by decide) hn
  have h1 : set ||| 1 < 2 ^ n := Nat.or_lt_two_pow hs (Nat.one_lt_two_pow (by omega))
  unfold pm_of
  split
  · omega
  · omega
theorem jt_chain {n1 a1 n1' a1' n2 a2 n2' a2' : Nat} {g1 g1' g2 g2' : Nat → Nat} (h1 : jt_l n1 a1 g1 n1' a1' g1') (h2 : jt_l n2 a2 g2 n2' a2' g2') : ∀ w, mc_L (pm_ch a1 g1 g2 n2) (pm_chA a2) (pm_of a1 0 0) w ↔ mc_L (pm_ch a1' g1' g2' 6) (pm_chA a2') (pm_of a1' 0 0) w := by
  obtain ⟨p1, l1⟩ := h1.lt
  obtain ⟨p2, l2⟩ := h2.lt
  obtain ⟨-, rfl, e1, n16, -, -⟩ := h1
  obtain ⟨-, rfl, e2, n26, -, -⟩ := h2
  refine mc_L_same (fun x => x / 64 < n1 ∧ x % 64 < 2 ^ n2) ?_ (fun x b hV hb => ?_) (fun x _ => rfl)
  · obtain ⟨q1, q2⟩ := pm_of_V (a := a1') (p := 0) n26 p2 (Nat.two_pow_pos n2)
    rw [q1]
    exact ⟨p1, q2⟩
  · have q1 := l1 (2 * (x / 64) + b) (by omega)
    have q2 := au_ss_lt2 (set := x % 64) l2 hb n2 (Nat.le_refl _)
    unfold pm_ch
    rw [e1 _ (by omega), au_ss_6 n26 e2 hb hV.2]
    obtain ⟨q3, q4⟩ := pm_of_V (a := a1') (p := g1 (2 * (x / 64) + b)) n26 p2 q2
    rw [q3]
    exact ⟨⟨q1, q4⟩, rfl⟩
theorem jt_star {n a n' a' : Nat} {g g' : Nat → Nat} (h : jt_l n a g n' a' g') : ∀ w, mc_L (pm_st a g n) (pm_stA a) 64 w ↔ mc_L (pm_st a' g' 6) (pm_stA a') 64 w := by
  obtain ⟨p, l⟩ := h.lt
  obtain ⟨-, rfl, e, n6, -, -⟩ := h
  refine mc_L_same (fun x => x = 64 ∨ x < 2 ^ n) (Or.inl rfl) (fun x b hV hb => ?_) (fun x _ => rfl)
  have h64 : 2 ^ n ≤ 64 := Nat.pow_le_pow_right (n := 2) (i := n) (j := 6) (by decide) n6
  have h1 : 1 < 2 ^ n := Nat.one_lt_two_pow (by omega)
  have hs : (if x = 64 then 1 else x) < 2 ^ n := by
    split
    · exact h1
    · rcases hV with z | z
      · omega
      · exact z
  have q2 := au_ss_lt2 (set := if x = 64 then 1 else x) l hb n (Nat.le_refl _)
  unfold pm_st
  rw [au_ss_6 n6 e hb hs]
  refine ⟨Or.inr ?_, rfl⟩
  generalize au_ss g (if x = 64 then 1 else x) b n = z at q2
  unfold pm_sf
  split
  · exact Nat.or_lt_two_pow q2 h1
  · exact q2
theorem jt_inv {n a n' a' : Nat} {g g' : Nat → Nat} (h : jt_l n a g n' a' g') : ∀ w, mc_L (pm_in g) (pm_inA a) 0 w ↔ mc_L (pm_in g') (pm_inA a') 0 w := by
  obtain ⟨p, l⟩ := h.lt
  obtain ⟨-, rfl, e, n6, -, -⟩ := h
  refine mc_L_same (fun x => x < n) p (fun x b hV hb => ?_) (fun x _ => rfl)
  unfold pm_in
  rw [e _ (by omega)]
  exact ⟨l _ (by omega), rfl⟩
def jt_R (c : Nat) (n acc : Nat → Nat) (g : Nat → Nat → Nat) (ns gg gd : Nat → Nat) : Prop := c ≤ 12 ∧ mo_b gg gd ∧ ∀ i, i < c → jt_l (n i) (acc i) (g i) (ns i) (gd i) (mo_G gg i)
def jt_A (e : Nat) (pr rs ls bs wd wd2 pr2 : Nat → Nat) : Prop := e = 0 ∨ (e ≤ 60 ∧ 0 < e ∧ (∀ j k, j < e → k < e → pr (60 * j + k) < e) ∧ al_sets e pr rs ls bs ∧ (∀ k, k < e → wd2 k = wd k) ∧ ∀ j k, j < e → k < e → pr2 (60 * j + k) = pr (60 * j + k))
/-- the class's object at x and the model's at y -/
def jt_at (Δ : zv_D) (hp : zv_M) (sz x y : Nat) : Prop := ∃ (c e : Nat) (n acc : Nat → Nat) (g : Nat → Nat → Nat) (wd pr rs ls bs ns gg gd wd2 pr2 : Nat → Nat), la_at Δ hp x c n acc g e wd pr rs ls bs ∧ mo_at Δ hp y c ns gg gd e wd2 pr2 ∧ jt_R c n acc g ns gg gd ∧ jt_A e pr rs ls bs wd wd2 pr2 ∧ x + 43 ≤ y ∧ y + 14 ≤ sz
theorem jt_make {Δ : zv_D} {hp0 hp1 hp2 : zv_M} {sz x y c e v1 v2 : Nat} {n acc : Nat → Nat} {g : Nat → Nat → Nat} {wd pr rs ls bs ns gg gd wd2 pr2 : Nat → Nat} {L1 L2 : List Bool → Prop} (hR : jt_R c n acc g ns gg gd) (hA : jt_A e pr rs ls bs wd wd2 pr2) (hL : ∀ w, L1 w ↔ L2 w) (h1 : la_add Δ hp0 hp1 x c n acc g e wd pr rs ls bs L1 v1) (h2 : mo_add Δ hp2 y c ns gg gd e wd2 pr2 L2 v2) (mv : ∀ q, x ≤ q → q < x + 43 → hp2 q = hp1 q) (hx : x + 43 ≤ y) (hy : y + 14 ≤ sz) : v2 = v1 ∧ jt_at Δ hp2 sz x y := by
  have eL : L1 = L2 := funext fun w => propext (hL w)
  subst eL
  rcases h1 with ⟨c1, e1, a1⟩ | ⟨c1, b1, e1, a1⟩ | ⟨c1, e1, n1, k1, g1, a1, m1, le1⟩
  · rcases h2 with ⟨c2, e2, a2⟩ | ⟨c2, b2, e2, a2⟩ | ⟨c2, e2, n2, k2, g2, a2, s2, m2, o2, r2, le2⟩
    · exact ⟨by rw [e1, e2], c, e, n, acc, g, wd, pr, rs, ls, bs, ns, gg, gd, wd2, pr2, a1.moved mv, a2, hR, hA, hx, hy⟩
    · omega
    · omega
  · rcases h2 with ⟨c2, e2, a2⟩ | ⟨c2, b2, e2, a2⟩ | ⟨c2, e2, n2, k2, g2, a2, s2, m2, o2, r2, le2⟩
    · omega
    · exact ⟨by rw [e1, e2], c, e, n, acc, g, wd, pr, rs, ls, bs, ns, gg, gd, wd2, pr2, a1.moved mv, a2, hR, hA, hx, hy⟩
    · have := le_big_not le2 b1
      omega
  · have hn6 : n1 ≤ 6 := by
      have q := (a1.2.2.2.2 c c1).2.1
      simp only [va_up, if_true] at q
      exact q
    rcases h2 with ⟨c2, e2, a2⟩ | ⟨c2, b2, e2, a2⟩ | ⟨c2, e2, n2, k2, g2, a2, s2, m2, o2, r2, le2⟩
    · omega
    · have := le_big_not le1 b2
      omega
    · obtain ⟨q1, q2, q3⟩ := le_same le1 le2
      have ek : k2 = k1 := by
        rw [r2, m1, ← q1]
        exact re_ab_congr (fun p hp => (q3 p hp).symm)
      refine ⟨by rw [e1, e2], c + 1, e, _, _, _, wd, pr, rs, ls, bs, _, _, _, wd2, pr2, a1.moved mv, a2, ⟨by omega, m2, fun i hi => ?_⟩, hA, hx, hy⟩
      by_cases ei : i = c
      · subst ei
        simp only [va_up, if_true]
        exact ⟨q1.symm, ek, fun k hk => (q2 k hk).symm, hn6, m1, _, le1⟩
      · have o := hR.2.2 i (by omega)
        simp only [va_up, ei, if_false]
        obtain ⟨d1, d2, d3, d4, d5, d6⟩ := o
        exact ⟨d1, d2, fun k hk => (o2 i k (by omega) ei (by omega)).trans (d3 k hk), d4, d5, d6⟩
theorem bf_run_congr {n : Nat} {g g2 : Nat → Nat} (hg : ∀ k, k < 2 * n → g2 k = g k) (hl : ∀ k, k < 2 * n → g k < n) : ∀ (w : List Bool) (s : Nat), s < n → bf_from g2 s w = bf_from g s w
  | [], s, _ => rfl
  | b :: w, s, hs => by
    have hb : b.toNat < 2 := by cases b <;> decide
    rw [bf_from_cons, bf_from_cons, hg _ (by omega)]
    exact bf_run_congr hg hl w _ (hl _ (by omega))
theorem jt_same {n1 a1 n1' a1' n2 a2 n2' a2' : Nat} {g1 g1' g2 g2' : Nat → Nat} (h1 : jt_l n1 a1 g1 n1' a1' g1') (h2 : jt_l n2 a2 g2 n2' a2' g2') : (n1 = n2 ∧ a1 = a2 ∧ ∀ s, s < 2 * n1 → g1 s = g2 s) ↔ ∀ w, pm_tb a1' (bf_run g1' w) = pm_tb a2' (bf_run g2' w) := by
  obtain ⟨p1, l1⟩ := h1.lt
  obtain ⟨p2, l2⟩ := h2.lt
  obtain ⟨-, rfl, e1, n16, r1, L1, le1⟩ := h1
  obtain ⟨-, rfl, e2, n26, r2, L2, le2⟩ := h2
  have u1 : ∀ w, bf_run g1' w = bf_run g1 w := fun w => bf_run_congr e1 l1 w 0 p1
  have u2 : ∀ w, bf_run g2' w = bf_run g2 w := fun w => bf_run_congr e2 l2 w 0 p2
  constructor
  · rintro ⟨rfl, rfl, hg⟩ w
    have := bf_run_congr (g2 := g1) (g := g2) hg l2 w 0 p2
    rw [u1, u2]
    show pm_tb a1' (bf_from g1 0 w) = pm_tb a1' (bf_from g2 0 w)
    rw [this]
  · intro h
    have eL : L1 = L2 := funext fun w => propext (by
      rw [← le1.2.1 w, ← le2.2.1 w]
      have := h w
      rw [u1, u2] at this
      rw [this])
    subst eL
    obtain ⟨q1, q2, q3⟩ := le_same le1 le2
    refine ⟨q1, ?_, q2⟩
    rw [r1, r2, ← q1]
    exact re_ab_congr (fun p hp => q3 p hp)
theorem al_T_congr {n e : Nat} {g g2 lg : Nat → Nat} (hg : ∀ k, k < 2 * n → g2 k = g k) (hl : ∀ k, k < 2 * n → g k < n) (h : al_T n g2 e lg) : al_T n g e lg :=
  ⟨h.1, fun u v => (h.2 u v).trans ⟨fun q s hs => by rw [← bf_run_congr hg hl u s hs, ← bf_run_congr hg hl v s hs]; exact q s hs, fun q s hs => by rw [bf_run_congr hg hl u s hs, bf_run_congr hg hl v s hs]; exact q s hs⟩⟩
theorem al_big_congr {n m : Nat} {g g2 : Nat → Nat} (hg : ∀ k, k < 2 * n → g2 k = g k) (hl : ∀ k, k < 2 * n → g k < n) (h : al_big n g2 m) : al_big n g m := by
  obtain ⟨u, hu⟩ := h
  exact ⟨u, fun i j hi hj q => hu i j hi hj fun s hs => by rw [bf_run_congr hg hl _ s hs, bf_run_congr hg hl _ s hs]; exact q s hs⟩
theorem jt_study {e1 e2 n a n' a' : Nat} {g g' wd1 pr1 rs ls bs wd2 pr2 : Nat → Nat} (h : jt_l n a g n' a' g') (h1 : al_ok n g e1 wd1 pr1) (hs : al_sets e1 pr1 rs ls bs) (h2 : al_ok n' g' e2 wd2 pr2) : e2 = e1 ∧ jt_A e1 pr1 rs ls bs wd1 wd2 pr2 := by
  obtain ⟨p, l⟩ := h.lt
  obtain ⟨rfl, rfl, e, n6, r, L, le⟩ := h
  obtain ⟨a1, a2, lg1, a3, a4, a5, a6⟩ := h1
  obtain ⟨b1, b2, lg2, b3, b4, b5, b6⟩ := h2
  have b3' := al_T_congr e l b3
  obtain ⟨q1, q2⟩ := al_T_same a3 b3'
  subst q1
  exact ⟨rfl, Or.inr ⟨a1, a2, a6, hs, fun k hk => (al_W_same q2 a4 b4 k hk).symm, fun j k hj hk => (al_P_same a3.1 b3.1 q2 a5 b5 j k hj hk).symm⟩⟩
theorem jt_study_no {e1 n a n' a' : Nat} {g g' wd1 pr1 : Nat → Nat} (h : jt_l n a g n' a' g') (h1 : al_ok n g e1 wd1 pr1) (h2 : al_big n' g' 61) : False := by
  obtain ⟨p, l⟩ := h.lt
  obtain ⟨rfl, rfl, e, n6, r, L, le⟩ := h
  obtain ⟨a1, a2, lg1, a3, a4, a5, a6⟩ := h1
  have := al_T_big a3 (al_big_congr e l h2)
  omega
theorem jt_study_no2 {e1 n a n' a' : Nat} {g g' wd1 pr1 : Nat → Nat} (h : jt_l n a g n' a' g') (h1 : al_ok n' g' e1 wd1 pr1) (h2 : al_big n g 61) : False := by
  obtain ⟨p, l⟩ := h.lt
  obtain ⟨rfl, rfl, e, n6, r, L, le⟩ := h
  obtain ⟨a1, a2, lg1, a3, a4, a5, a6⟩ := h1
  have := al_T_big (al_T_congr e l a3) h2
  omega
/-- the sets of the model are those of the class -/
theorem jt_A.sets {e : Nat} {pr rs ls bs wd wd2 pr2 : Nat → Nat} (h : jt_A e pr rs ls bs wd wd2 pr2) : e ≤ 60 ∧ al_sb e rs ls bs ∧ (∀ j k, j < e → k < e → pr (60 * j + k) < e) ∧ (∀ j k, j < e → k < e → pr2 (60 * j + k) < e) ∧ (∀ j k, j < e → k < e → pr2 (60 * j + k) = pr (60 * j + k)) ∧ (∀ k, k < e → wd2 k = wd k) ∧ ∀ j, j < e → al_r e pr2 j = rs j ∧ al_l e pr2 j = ls j ∧ al_b e pr2 j = bs j := by
  rcases h with rfl | ⟨h1, h2, h3, h4, h5, h6⟩
  · exact ⟨by decide, fun j hj => by omega, fun j k hj => by omega, fun j k hj => by omega, fun j k hj => by omega, fun k hk => by omega, fun j hj => by omega⟩
  · have r2 : ∀ j, j < e → al_r e pr2 j = al_r e pr j := fun j hj => al_or_congr (fun x hx => by rw [h6 j x hj hx])
    refine ⟨h1, al_sets_sb h1 h3 h4, h3, fun j k hj hk => by rw [h6 j k hj hk]; exact h3 j k hj hk, h6, h5, fun j hj => ?_⟩
    obtain ⟨s1, s2, s3⟩ := h4 j hj
    refine ⟨(r2 j hj).trans s1.symm, (al_or_congr (fun x hx => by rw [h6 x j hx hj])).trans s2.symm, (al_or_congr (fun x hx => ?_)).trans s3.symm⟩
    show al_r e pr2 (pr2 (60 * x + j)) = al_r e pr (pr (60 * x + j))
    rw [h6 x j hx hj, r2 _ (h3 x j hx hj)]
theorem zf_congr {p q : Nat → Bool} : ∀ (m k : Nat), (∀ i, k ≤ i → i < k + m → p i = q i) → zf_ff p k m = zf_ff q k m
  | 0, k, _ => rfl
  | m + 1, k, h => by
    simp only [zf_ff]
    rw [h k (Nat.le_refl _) (by omega), zf_congr m (k + 1) (fun i h1 h2 => h i (by omega) (by omega))]
theorem al_cc_congr {p q : Nat → Bool} : ∀ {n : Nat}, (∀ i, i < n → p i = q i) → al_cc p n = al_cc q n
  | 0, _ => rfl
  | n + 1, h => by
    simp only [al_cc]
    rw [al_cc_congr (n := n) (fun i hi => h i (by omega)), h n (by omega)]
theorem jt_rl {e : Nat} {rs ls bs rs2 ls2 bs2 : Nat → Nat} (h : ∀ j, j < e → rs2 j = rs j ∧ ls2 j = ls j ∧ bs2 j = bs j) {w j k : Nat} (hj : j < e) (hk : k < e) : al_rl rs2 ls2 bs2 w j k = al_rl rs ls bs w j k := by
  obtain ⟨a1, a2, a3⟩ := h j hj
  obtain ⟨b1, b2, b3⟩ := h k hk
  unfold al_rl
  rw [a1, a2, a3, b1, b2, b3]
theorem al_rl_symm {rs ls bs : Nat → Nat} {w j k : Nat} : al_rl rs ls bs w j k = al_rl rs ls bs w k j := by
  unfold al_rl
  refine decide_eq_decide.mpr ⟨fun h => ?_, fun h => ?_⟩ <;> omega
theorem jt_cc {e : Nat} {pr rs ls bs wd wd2 pr2 : Nat → Nat} (h : jt_A e pr rs ls bs wd wd2 pr2) (w : Nat) : al_cc (mo_fc e pr2 w) e = al_cc (al_fc rs ls bs w) e := by
  obtain ⟨-, -, -, -, -, -, hs⟩ := h.sets
  refine al_cc_congr fun k hk => ?_
  unfold mo_fc al_fc
  have := zf_congr (p := fun j => al_rl (al_r e pr2) (al_l e pr2) (al_b e pr2) w k j) (q := fun j => al_rl rs ls bs w j k) k 0 (fun i _ hi => by
    show al_rl (al_r e pr2) (al_l e pr2) (al_b e pr2) w k i = al_rl rs ls bs w i k
    rw [jt_rl hs hk (show i < e by omega), al_rl_symm])
  rw [this]
theorem jt_ag {e : Nat} {pr rs ls bs wd wd2 pr2 : Nat → Nat} (h : jt_A e pr rs ls bs wd wd2 pr2) {w j k : Nat} (hj : j < e) (hk : k < e) : al_ag pr2 (al_r e pr2) (al_l e pr2) (al_b e pr2) w j k = al_ag pr rs ls bs w j k := by
  obtain ⟨-, -, -, -, hp, -, hs⟩ := h.sets
  unfold al_ag
  rw [hp j k hj hk, hp k j hk hj, jt_rl hs hj hk, jt_rl hs hj hk, jt_rl hs hj hk, jt_rl hs hj hk, (hs j hj).1]
theorem jt_wt {e : Nat} {p q : Nat → Nat → Bool} (h : ∀ j k, j < e → k < e → p j k = q j k) : la_wt p e = la_wt q e := by
  have row : ∀ j, j < e → zf_ff (p j) 0 e = zf_ff (q j) 0 e := fun j hj => zf_congr e 0 (fun i _ hi => h j i hj (by omega))
  have J : zf_ff (la_J p e) 0 e = zf_ff (la_J q e) 0 e := zf_congr e 0 (fun i _ hi => by unfold la_J; rw [row i (by omega)])
  unfold la_wt
  rw [J]
  by_cases c : zf_ff (la_J q e) 0 e < e
  · rw [if_pos c, if_pos c, row _ c]
  · rw [if_neg c, if_neg c]

