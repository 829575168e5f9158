def mc_run (δ : Nat → Nat → Nat) (s0 : Nat) (w : List Bool) : Nat := w.foldl (fun x b => δ x b.toNat) s0
theorem mc_run_snoc (δ : Nat → Nat → Nat) (s0 : Nat) (w : List Bool) (b : Bool) : mc_run δ s0 (w ++ [b]) = δ (mc_run δ s0 w) b.toNat := by
  simp [mc_run, List.foldl_append]
theorem zf_snoc {p : List Bool → Prop} (h0 : p []) (hs : ∀ w b, p w → p (w ++ [b])) : ∀ w, p w := by
  have key : ∀ (n : Nat) (w : List Bool), w.length = n → p w := by
    intro n
    induction n with
    | zero => intro w hw; rw [List.eq_nil_of_length_eq_zero hw]; exact h0
    | succ n ih =>
      intro w hw
      have hne : w ≠ [] := fun e => by rw [e] at hw; simp at hw
      have e := List.dropLast_concat_getLast hne
      rw [← e]
      refine hs _ _ (ih _ ?_)
      rw [List.length_dropLast, hw]
      rfl
  exact fun w => key w.length w rfl
theorem re_run {N s0 : Nat} {δ : Nat → Nat → Nat} {cd tg : Nat → Nat} (hn : bf_num N tg) (h0 : cd 0 = s0) (ht : ∀ i, i < 2 * N → cd (tg i) = δ (cd (i / 2)) (i % 2)) : ∀ w, cd (bf_run tg w) = mc_run δ s0 w := by
  refine zf_snoc h0 fun w b ih => ?_
  have hb : b.toNat < 2 := by cases b <;> decide
  have hlt := bf_run_lt hn w
  rw [bf_run_snoc, mc_run_snoc, ht _ (by omega), ← ih, show (2 * bf_run tg w + b.toNat) / 2 = bf_run tg w by omega, show (2 * bf_run tg w + b.toNat) % 2 = b.toNat by omega]
def mc_L (δ : Nat → Nat → Nat) (ac : Nat → Bool) (s0 : Nat) (w : List Bool) : Prop := ac (mc_run δ s0 w) = true
def re_at (Δ : zv_D) (hp : zv_M) (o : Nat) : Prop := ∃ (N pA pB : Nat) (nc cd tg P P2 fo : Nat → Nat), re_pp o pA pB ∧ hp o = some (re_obj o N pA pB) ∧ hp (o + 1) = some (zn_I Δ 384 nc) ∧ hp (o + 2) = some (zn_I Δ 384 cd) ∧ hp (o + 3) = some (zn_I Δ 768 tg) ∧ hp pA = some (zn_I Δ 384 P) ∧ hp pB = some (zn_I Δ 384 P2) ∧ hp (o + 6) = some (zn_I Δ 6 fo)
/-- a least automaton in its cells -/
def au_L (Δ : zv_D) (hp : zv_M) (t : Nat) (L : List Bool → Prop) : Prop := ∃ (n ab : Nat) (g : Nat → Nat), au_at Δ hp t n ab g ∧ au_ok n ab g ∧ ab = re_ab (pm_tb ab) n ∧ le_A L n g (pm_tb ab)
theorem re_done {N c k : Nat} {tg A P fo cd : Nat → Nat} {ac : Nat → Bool} {δ : Nat → Nat → Nat} {s0 : Nat} (hn : bf_num N tg) (h0 : cd 0 = s0) (ht : ∀ i, i < 2 * N → cd (tg i) = δ (cd (i / 2)) (i % 2)) (hA : ∀ s, s < N → A s = (ac (cd s)).toNat) (hc : c ≤ 6) (hf : mo_fst N c P fo) (h1 : ∀ s t, s < N → t < N → P s = P t → mo_al tg P s t) (h2 : ∀ s t, s < N → t < N → P s = P t → A s = A t) (h3 : ∀ s t, s < N → t < N → (∀ w, A (bf_from tg s w) = A (bf_from tg t w)) → P s = P t) {g0 g1 : Nat → Nat} (hg0 : ∀ j, j < 12 → g0 j < 6) (hg1 : ∀ j, j < 2 * c → g1 j = P (tg (2 * fo (j / 2) + j % 2))) (hg2 : ∀ j, 2 * c ≤ j → g1 j = g0 j) :
    au_ok c (re_ab (fun p => ac (cd (fo p))) c) g1 ∧ re_ab (fun p => ac (cd (fo p))) c = re_ab (pm_tb (re_ab (fun p => ac (cd (fo p))) c)) c ∧ le_A (mc_L δ ac s0) c g1 (pm_tb (re_ab (fun p => ac (cd (fo p))) c)) := by
  have bit : ∀ p, p < c → pm_tb (re_ab (fun p => ac (cd (fo p))) c) p = ac (cd (fo p)) := fun p hp => by
    refine Bool.eq_iff_iff.mpr ?_
    unfold pm_tb
    rw [decide_eq_true_iff]
    exact re_ab_bit hp
  have hg : ∀ j, j < 2 * N → tg j < N := fun j hj => (hn.2.1 j hj).1
  have tn : ∀ {b1 b2 : Bool}, b1.toNat = b2.toNat → b1 = b2 := fun {b1 b2} h => by cases b1 <;> cases b2 <;> first | rfl | (exact absurd h (by decide))
  refine ⟨⟨hc, ?_, fun j hj => ?_⟩, re_ab_congr (fun p hp => (bit p hp).symm), ?_⟩
  · exact Nat.lt_of_lt_of_le (re_ab_lt _ c) (Nat.pow_le_pow_right (by decide) hc)
  · by_cases e : j < 2 * c
    · rw [hg1 j e]
      have q := (hf.2.1 (j / 2) (by omega)).1
      have := (hf.1 _ (hg (2 * fo (j / 2) + j % 2) (by omega))).1
      omega
    · rw [hg2 j (by omega)]
      exact hg0 j hj
  · refine mo_least (a := fun s => ac (cd s)) hn (fun w => ?_) hf h1 (fun s t hs ht2 e => tn (by rw [← hA s hs, ← hA t ht2]; exact h2 s t hs ht2 e)) (fun s t hs ht2 hw => h3 s t hs ht2 (fun w => by rw [hA _ (bf_from_lt hg w s hs), hA _ (bf_from_lt hg w t ht2), hw w])) (fun p hp => ?_) bit
    · show ac (cd (bf_run tg w)) = true ↔ _
      rw [re_run hn h0 ht]
      exact Iff.rfl
    · constructor
      · rw [hg1 _ (by omega), show 2 * p / 2 = p by omega, show 2 * p % 2 = 0 by omega]; rfl
      · rw [hg1 _ (by omega), show (2 * p + 1) / 2 = p by omega, show (2 * p + 1) % 2 = 1 by omega]
theorem Re_reduce_ok {l : Launch} {Δ : zv_D} {hp : zv_M} {sz : Nat} {o b s0 t n0 a0 : Nat} {S : Nat → Prop} {δ : Nat → Nat → Nat} {ac : Nat → Bool} {Bd : Nat → Prop} {g0 : Nat → Nat} (hR : re_at Δ hp o) (t0 : hp t = some (re_tgt t n0 a0)) (t1 : hp (t + 1) = some (zn_I Δ 12 g0)) (hg0 : ∀ j, j < 12 → g0 j < 6) (ht : t + 1 < o ∨ o + 7 ≤ t) (hM : mc_M Δ hp b S δ ac s0 Bd) (hS : ∀ q, S q → q < o ∨ o + 7 ≤ q) (hS2 : ∀ q, S q → q ≠ t ∧ q ≠ t + 1) : zv_E l Δ 4 y_Re_reduce b_Re_reduce 4 ((some (FieldType.boolean))) [.ref o, .ref b, .ref t] hp sz 0 0 (fun r hp1 sz1 => ∃ bb : Bool, r = some (.int (nI bb.toNat)) ∧ sz1 = sz ∧ re_at Δ hp1 o ∧ (∀ q, (q < o ∨ o + 7 ≤ q) ∧ q ≠ t ∧ q ≠ t + 1 → hp1 q = hp q) ∧ (bb = false → le_big (mc_L δ ac s0) 7 ∧ hp1 t = hp t ∧ hp1 (t + 1) = hp (t + 1)) ∧ (bb = true → au_L Δ hp1 t (mc_L δ ac s0))) := by
  refine zv_E.intro (lv0 := [some (.ref o), some (.ref b), some (.ref t), none]) rfl (Nat.le_of_ble_eq_true rfl) rfl ?_
  intro Γ hl F
  clear hl
  obtain ⟨N, pA, pB, nc, cd, tg, P, P2, fo, hpp, f0, f1, f2, f3, f4, f5, f6⟩ := hR
  have hpp2 := hpp
  unfold re_pp at hpp2
  refine zv_aload_n F d_Re_reduce_0 rfl ?_
  refine zv_aload_n F d_Re_reduce_1 rfl ?_
  refine zv_mV1 F rfl (by assumption) k_Re.1 d_Re_reduce_2 (Re_explore_ok f0 f1 f2 f3 hM hS) Y_Re_explore Yi_Re_explore Yv_Re_explore ln_Re_30 ⟨(Nat.le_of_ble_eq_true rfl), (Nat.le_of_ble_eq_true rfl)⟩ (Nat.le_of_ble_eq_true rfl) ⟨(Nat.le_of_ble_eq_true rfl), (Nat.le_of_ble_eq_true rfl)⟩ (fun r hp2 sz2 q2 => ?_)
  obtain ⟨N, nc, cd, tg, rfl, rfl, f0, f1, f2, f3, fr, hi, hb, h0, hBd, htr⟩ := q2
  replace f4 := (fr pA (by omega)).trans f4
  replace f5 := (fr pB (by omega)).trans f5
  replace f6 := (fr (o + 6) (by omega)).trans f6
  have hN := hi.1
  have hN0 : 0 < N := by have := hb.1; omega
  have hn := bf_inv_end hb hN0
  have htg : ∀ j, j < 2 * N → tg j < N := fun j hj => (htr j hj).1
  have M2 : mc_M Δ hp2 b S δ ac s0 Bd := hM.moved (fun q hq => fr q (by have := hS q hq; omega))
  try simp only [Option.toList, List.cons_append, List.nil_append]
  refine zv_aload_n F d_Re_reduce_5 rfl ?_
  refine zv_aload_n F d_Re_reduce_6 rfl ?_
  refine zv_mV1 F rfl (by assumption) k_Re.1 d_Re_reduce_7 (Re_partByAcceptance_ok hpp f0 f2 f4 hN hBd M2 hS) Y_Re_partByAcceptance Yi_Re_partByAcceptance Yv_Re_partByAcceptance ln_Re_34 ⟨(Nat.le_of_ble_eq_true rfl), (Nat.le_of_ble_eq_true rfl)⟩ (Nat.le_of_ble_eq_true rfl) ⟨(Nat.le_of_ble_eq_true rfl), (Nat.le_of_ble_eq_true rfl)⟩ (fun r hp7 sz7 q7 => ?_)
  obtain ⟨A, rfl, rfl, f4, hA, fr2⟩ := q7
  replace f0 := (fr2 o (by omega)).trans f0
  replace f1 := (fr2 (o + 1) (by omega)).trans f1
  replace f2 := (fr2 (o + 2) (by omega)).trans f2
  replace f3 := (fr2 (o + 3) (by omega)).trans f3
  replace f5 := (fr2 pB (by omega)).trans f5
  replace f6 := (fr2 (o + 6) (by omega)).trans f6
  have hA2 : ∀ s, s < N → A s < 2 := fun s hs => by rw [hA s hs]; cases ac (cd s) <;> decide
  try simp only [Option.toList, List.cons_append, List.nil_append]
  refine zv_aload_n F d_Re_reduce_10 rfl ?_
  refine zv_mV0 F rfl (by assumption) k_Re.1 d_Re_reduce_11 (Re_refine_ok hpp f0 f3 f4 f5 f6 hN hN0 htg hA2) Y_Re_refine Yi_Re_refine Yv_Re_refine ln_Re_37 ⟨(Nat.le_of_ble_eq_true rfl), (Nat.le_of_ble_eq_true rfl)⟩ (Nat.le_of_ble_eq_true rfl) ⟨(Nat.le_of_ble_eq_true rfl), (Nat.le_of_ble_eq_true rfl)⟩ (fun r hp11 sz11 q11 => ?_)
  obtain ⟨v, pA, pB, P, P2, fo, rfl, rfl, hpp, f0, f4, f5, f6, fr3, hfin⟩ := q11
  have hpp3 := hpp
  unfold re_pp at hpp3
  replace f1 := (fr3 (o + 1) (by omega)).trans f1
  replace f2 := (fr3 (o + 2) (by omega)).trans f2
  replace f3 := (fr3 (o + 3) (by omega)).trans f3
  have hv1 : v = 4294967295 ∨ v ≤ 6 := by rcases hfin with h | h; exact Or.inl h.1; exact Or.inr h.1
  have fo0 : ∀ q, (q < o ∨ o + 7 ≤ q) → hp11 q = hp q := fun q hq => (fr3 q (by omega)).trans ((fr2 q (by omega)).trans (fr q (by omega)))
  have M3 : mc_M Δ hp11 b S δ ac s0 Bd := hM.moved (fun q hq => fo0 q (hS q hq))
  try simp only [Option.toList, List.cons_append, List.nil_append]
  refine zv_istore_n F d_Re_reduce_14 (Nat.le_of_ble_eq_true rfl) ?_
  simp only [zv_s1, zv_s2, zv_kill, List.set_cons_zero, List.set_cons_succ, List.getElem?_cons_zero, List.getElem?_cons_succ]
  refine zv_iload_n F d_Re_reduce_15 rfl ?_
  refine zn_iconst (x := 4294967295) F d_Re_reduce_16 (by decide) ?_
  refine zn_icmp_ne (tgt := 22) F d_Re_reduce_17 rfl (by omega) (by omega) (fun h17 => ?_) (fun h17 => ?_)
  · refine zv_aload_n F d_Re_reduce_22 rfl ?_
    refine zv_aload_n F d_Re_reduce_23 rfl ?_
    refine zv_iload_n F d_Re_reduce_24 rfl ?_
    refine zv_aload_n F d_Re_reduce_25 rfl ?_
    obtain ⟨e6, hf, c1, c2, c3⟩ : v ≤ 6 ∧ mo_fst N v P fo ∧ (∀ s t, s < N → t < N → P s = P t → mo_al tg P s t) ∧ (∀ s t, s < N → t < N → P s = P t → A s = A t) ∧ ∀ s t, s < N → t < N → (∀ w, A (bf_from tg s w) = A (bf_from tg t w)) → P s = P t := by rcases hfin with h | h; exact absurd h.1 h17; exact h
    refine zv_mV3 F rfl (by assumption) k_Re.1 d_Re_reduce_26 (Re_write_ok hpp f0 f2 f3 f4 f6 ((fo0 t (by omega)).trans t0) ((fo0 (t + 1) (by omega)).trans t1) ht e6 (fun p hp2 => (hf.2.1 p hp2).1) hN htg hBd M3 hS hS2) Y_Re_write Yi_Re_write Yv_Re_write ln_Re_41 ⟨(Nat.le_of_ble_eq_true rfl), (Nat.le_of_ble_eq_true rfl)⟩ (Nat.le_of_ble_eq_true rfl) ⟨(Nat.le_of_ble_eq_true rfl), (Nat.le_of_ble_eq_true rfl)⟩ (fun r hp26 sz26 q26 => ?_)
    obtain ⟨g1, rfl, rfl, w0, w1, hg1, hg2, fr4⟩ := q26
    obtain ⟨d1, d2, d3⟩ := re_done (k := 0) hn h0 (fun i hi => (htr i hi).2) hA e6 hf c1 c2 c3 hg0 hg1 hg2
    try simp only [Option.toList, List.cons_append, List.nil_append]
    refine zn_iconst (x := 1) F d_Re_reduce_29 (by decide) ?_
    exact zv_zret F d_Re_reduce_30 (Nat.le_of_ble_eq_true rfl) (Nat.le_of_ble_eq_true rfl) (by first | rfl | exact zn_nb _) ⟨true, rfl, rfl, ⟨N, pA, pB, nc, cd, tg, P, P2, fo, hpp, (fr4 o (by omega)).trans f0, (fr4 (o + 1) (by omega)).trans f1, (fr4 (o + 2) (by omega)).trans f2, (fr4 (o + 3) (by omega)).trans f3, (fr4 pA (by omega)).trans f4, (fr4 pB (by omega)).trans f5, (fr4 (o + 6) (by omega)).trans f6⟩, fun q hq => (fr4 q hq.2).trans (fo0 q hq.1), (fun h => by cases h), fun _ => ⟨v, _, g1, ⟨w0, w1⟩, d1, d2, d3⟩⟩
  · refine zn_iconst (x := 0) F d_Re_reduce_20 (by decide) ?_
    exact zv_zret F d_Re_reduce_21 (Nat.le_of_ble_eq_true rfl) (Nat.le_of_ble_eq_true rfl) (by first | rfl | exact zn_nb _) (by
      rcases hfin with ⟨e, k, u, u1, u2⟩ | ⟨e, _⟩
      · refine ⟨false, rfl, rfl, ⟨N, pA, pB, nc, cd, tg, P, P2, fo, hpp, f0, f1, f2, f3, f4, f5, f6⟩, fun q hq => fo0 q hq.1, fun _ => ⟨mo_big (A := A) hn (fun w => ?_) hA2 u1 u2, fo0 t (by omega), fo0 (t + 1) (by omega)⟩, fun h => by cases h⟩
        rw [hA _ (bf_run_lt hn w), re_run hn h0 (fun i hi => (htr i hi).2)]
        unfold mc_L
        cases ac (mc_run δ s0 w) <;> decide
      · exact absurd e (by omega))

