theorem mo_eq_succ {N k : Nat} {g A P : Nat → Nat} (hg : ∀ j, j < 2 * N → g j < N) (hP : ∀ s t, s < N → t < N → (P s = P t ↔ mo_eq g A k s t)) {s t : Nat} (hs : s < N) (ht : t < N) (h : mo_eq g A (k + 1) s t) : mo_al g P s t :=
  ⟨(hP s t hs ht).mpr h.1, (hP _ _ (hg _ (by omega)) (hg _ (by omega))).mpr h.2.1, (hP _ _ (hg _ (by omega)) (hg _ (by omega))).mpr h.2.2⟩
def re_fin (N : Nat) (tg A P1 fo1 : Nat → Nat) (v : Nat) : Prop :=
  (v = 4294967295 ∧ ∃ (k : Nat) (u : Nat → Nat), (∀ i, i < 7 → u i < N) ∧ ∀ i j, i < 7 → j < 7 → mo_eq tg A k (u i) (u j) → i = j) ∨
  (v ≤ 6 ∧ mo_fst N v P1 fo1 ∧ (∀ s t, s < N → t < N → P1 s = P1 t → mo_al tg P1 s t) ∧ (∀ s t, s < N → t < N → P1 s = P1 t → A s = A t) ∧ ∀ s t, s < N → t < N → (∀ w, A (bf_from tg s w) = A (bf_from tg t w)) → P1 s = P1 t)
theorem mo_eq_A {g A : Nat → Nat} : ∀ {k s t : Nat}, mo_eq g A k s t → A s = A t
  | 0, _, _, h => h
  | k + 1, _, _, h => mo_eq_A (k := k) h.1
theorem Re_refine_ok {l : Launch} {Δ : zv_D} {hp : zv_M} {sz : Nat} {o N pA pB : Nat} {tg A P2 fo : Nat → Nat} (hpp : re_pp o pA pB) (f0 : hp o = some (re_obj o N pA pB)) (f3 : hp (o + 3) = some (zn_I Δ 768 tg)) (f4 : hp pA = some (zn_I Δ 384 A)) (f5 : hp pB = some (zn_I Δ 384 P2)) (f6 : hp (o + 6) = some (zn_I Δ 6 fo)) (hN : N ≤ 384) (hN0 : 0 < N) (htg : ∀ j, j < 2 * N → tg j < N) (hA : ∀ s, s < N → A s < 2) : zv_E l Δ 3 y_Re_refine b_Re_refine 4 ((some (FieldType.int))) [.ref o] hp sz 0 0 (fun r hp1 sz1 => ∃ (v pA1 pB1 : Nat) (P1 P3 fo1 : Nat → Nat), r = some (.int (nI v)) ∧ sz1 = sz ∧ re_pp o pA1 pB1 ∧ hp1 o = some (re_obj o N pA1 pB1) ∧ hp1 pA1 = some (zn_I Δ 384 P1) ∧ hp1 pB1 = some (zn_I Δ 384 P3) ∧ hp1 (o + 6) = some (zn_I Δ 6 fo1) ∧ (∀ b, b ≠ o ∧ b ≠ o + 4 ∧ b ≠ o + 5 ∧ b ≠ o + 6 → hp1 b = hp b) ∧ re_fin N tg A P1 fo1 v) := by
  refine zv_E.intro (lv0 := [some (.ref o), none, none, none]) rfl (Nat.le_of_ble_eq_true rfl) rfl ?_
  intro Γ hl F
  clear hl
  have loop : ∀ (m k c : Nat) (h' : zv_M) (pA pB : Nat) (P P2 fo : Nat → Nat), m = 7 - k → k ≤ 7 → c ≤ 6 → re_pp o pA pB → h' o = some (re_obj o N pA pB) → h' (o + 3) = some (zn_I Δ 768 tg) → h' pA = some (zn_I Δ 384 P) → h' pB = some (zn_I Δ 384 P2) → h' (o + 6) = some (zn_I Δ 6 fo) → (∀ b, b ≠ o ∧ b ≠ o + 4 ∧ b ≠ o + 5 ∧ b ≠ o + 6 → h' b = hp b) → (∀ s, s < N → P s < 4294967296) → (∀ s t, s < N → t < N → (P s = P t ↔ mo_eq tg A k s t)) → ((k = 0 ∧ c = 0) ∨ (0 < k ∧ k ≤ c ∧ mo_fst N c P fo)) → zv_V Δ Γ (zv_QQ Δ Γ 0 0 (fun r hp1 sz1 => ∃ (v pA1 pB1 : Nat) (P1 P3 fo1 : Nat → Nat), r = some (.int (nI v)) ∧ sz1 = sz ∧ re_pp o pA1 pB1 ∧ hp1 o = some (re_obj o N pA1 pB1) ∧ hp1 pA1 = some (zn_I Δ 384 P1) ∧ hp1 pB1 = some (zn_I Δ 384 P3) ∧ hp1 (o + 6) = some (zn_I Δ 6 fo1) ∧ (∀ b, b ≠ o ∧ b ≠ o + 4 ∧ b ≠ o + 5 ∧ b ≠ o + 6 → hp1 b = hp b) ∧ re_fin N tg A P1 fo1 v)) 4 [some (.ref o), some (.int (nI c)), some (.int (nI k)), none] [] h' sz 0 0 := by
    intro m
    induction m using Nat.strongRecOn with
    | ind m ih =>
      intro k c h' pA pB P P2 fo hm hk hc hpp f0 f3 f4 f5 f6 fr hPb hP hin
      have hpp2 := hpp
      unfold re_pp at hpp2
      refine zv_iload_n F d_Re_refine_4 rfl ?_
      refine zn_bipush (x := 6) F d_Re_refine_5 (by decide) ?_
      refine zn_icmp_gt (tgt := 35) F d_Re_refine_7 rfl (by omega) (by omega) (fun h7 => ?_) (fun h7 => ?_)
      · exact absurd h7 (by omega)
      · refine zv_aload_n F d_Re_refine_10 rfl ?_
        refine zv_mV0 F rfl (by assumption) k_Re.1 d_Re_refine_11 (Re_split_ok hpp f0 f3 f4 f5 f6 hN htg hPb) Y_Re_split Yi_Re_split Yv_Re_split ln_Re_72 ⟨(Nat.le_of_ble_eq_true rfl), (Nat.le_of_ble_eq_true rfl)⟩ (Nat.le_of_ble_eq_true rfl) ⟨(Nat.le_of_ble_eq_true rfl), (Nat.le_of_ble_eq_true rfl)⟩ (fun r hp11 sz11 q11 => ?_)
        obtain ⟨v, rfl, rfl, P3, fo1, g6, g5, gfr, hv⟩ := q11
        have g3 := (gfr (o + 3) (by omega)).trans f3
        have g4 := (gfr pA (by omega)).trans f4
        have gr : ∀ b, b ≠ o ∧ b ≠ o + 4 ∧ b ≠ o + 5 ∧ b ≠ o + 6 → hp11 b = hp b := fun b hb => (gfr b (by omega)).trans (fr b hb)
        have hv1 : v = 4294967295 ∨ v ≤ 6 := by rcases hv with h | h; exact Or.inl h.1; exact Or.inr h.1
        try simp only [Option.toList, List.cons_append, List.nil_append]
        refine zv_istore_n F d_Re_refine_14 (Nat.le_of_ble_eq_true rfl) ?_
        simp only [zv_s1, zv_s2, zv_kill, List.set_cons_zero, List.set_cons_succ, List.getElem?_cons_zero, List.getElem?_cons_succ]
        refine zv_iload_n F d_Re_refine_15 rfl ?_
        refine zn_iconst (x := 4294967295) F d_Re_refine_16 (by decide) ?_
        refine zn_icmp_eq (tgt := 25) F d_Re_refine_17 rfl (by omega) (by omega) (fun h17 => ?_) (fun h17 => ?_)
        · refine zv_iload_n F d_Re_refine_25 rfl ?_
          exact zv_iret F d_Re_refine_26 (Nat.le_of_ble_eq_true rfl) (Nat.le_of_ble_eq_true rfl) (by
            rcases hv with ⟨e, g0, u, u1, u2⟩ | ⟨e, g0, hsp⟩
            · exact ⟨v, pA, pB, P, P3, fo1, rfl, rfl, hpp, g0, g4, g5, g6, gr, Or.inl ⟨e, k + 1, u, u1, fun i j hi hj h => u2 i j hi hj (mo_eq_succ htg hP (u1 i hi) (u1 j hj) h)⟩⟩
            · have evc : v = c := by omega
              subst evc
              have hpos : 0 < v := by have := (hsp.1.1 0 hN0).1; omega
              have hf : mo_fst N v P fo := by rcases hin with z | z; omega; exact z.2.2
              have st := mo_stable hf hsp.1 (fun s t hs ht e2 => ((hsp.2 s t hs ht).mp e2).1)
              refine ⟨v, pB, pA, P3, P, fo1, rfl, rfl, by unfold re_pp; omega, g0, g5, g4, g6, gr, Or.inr ⟨by omega, hsp.1, fun s t hs ht e2 => ?_, fun s t hs ht e2 => ?_, fun s t hs ht hw => ?_⟩⟩
              · have al := (hsp.2 s t hs ht).mp e2
                refine ⟨e2, ?_, ?_⟩
                · rw [st _ (htg _ (by omega)), st _ (htg _ (by omega))]; exact al.2.1
                · rw [st _ (htg _ (by omega)), st _ (htg _ (by omega))]; exact al.2.2
              · exact mo_eq_A ((hP s t hs ht).mp ((hsp.2 s t hs ht).mp e2).1)
              · rw [st s hs, st t ht]; exact (hP s t hs ht).mpr (mo_tell k s t hw))
        · refine zv_iload_n F d_Re_refine_20 rfl ?_
          refine zv_iload_n F d_Re_refine_21 rfl ?_
          refine zn_icmp_ne (tgt := 27) F d_Re_refine_22 rfl (by omega) (by omega) (fun h22 => ?_) (fun h22 => ?_)
          · refine zv_iload_n F d_Re_refine_27 rfl ?_
            refine zv_istore_n F d_Re_refine_28 (Nat.le_of_ble_eq_true rfl) ?_
            simp only [zv_s1, zv_s2, zv_kill, List.set_cons_zero, List.set_cons_succ, List.getElem?_cons_zero, List.getElem?_cons_succ]
            refine zn_iinc F d_Re_refine_29 rfl ?_
            simp only [zv_s1, zv_s2, zv_kill, List.set_cons_zero, List.set_cons_succ, List.getElem?_cons_zero, List.getElem?_cons_succ]
            refine zv_goto (tgt := 4) F d_Re_refine_32 rfl ?_
            rcases hv with ⟨e, g0, u, u1, u2⟩ | ⟨e, g0, hsp⟩
            · exact absurd e (by assumption)
            · refine zv_weak (by repeat' (first | exact True.intro | refine And.intro rfl ?_)) (ih (7 - (k + 1)) (by omega) (k + 1) v _ pB pA P3 P fo1 rfl (by omega) e (by unfold re_pp; omega) g0 g3 g5 g4 g6 gr (fun s hs => by have := (hsp.1.1 s hs).1; omega) (mo_eq_sp htg hP hsp) (Or.inr ⟨by omega, ?_, hsp.1⟩))
              rcases hin with ⟨z1, z2⟩ | ⟨z1, z2, z3⟩
              · have := (hsp.1.1 0 hN0).1; omega
              · have := mo_le z3 hsp.1 (fun s t hs ht e2 => ((hsp.2 s t hs ht).mp e2).1); omega
          · refine zv_iload_n F d_Re_refine_25 rfl ?_
            exact zv_iret F d_Re_refine_26 (Nat.le_of_ble_eq_true rfl) (Nat.le_of_ble_eq_true rfl) (by
              rcases hv with ⟨e, g0, u, u1, u2⟩ | ⟨e, g0, hsp⟩
              · exact ⟨v, pA, pB, P, P3, fo1, rfl, rfl, hpp, g0, g4, g5, g6, gr, Or.inl ⟨e, k + 1, u, u1, fun i j hi hj h => u2 i j hi hj (mo_eq_succ htg hP (u1 i hi) (u1 j hj) h)⟩⟩
              · have evc : v = c := by omega
                subst evc
                have hpos : 0 < v := by have := (hsp.1.1 0 hN0).1; omega
                have hf : mo_fst N v P fo := by rcases hin with z | z; omega; exact z.2.2
                have st := mo_stable hf hsp.1 (fun s t hs ht e2 => ((hsp.2 s t hs ht).mp e2).1)
                refine ⟨v, pB, pA, P3, P, fo1, rfl, rfl, by unfold re_pp; omega, g0, g5, g4, g6, gr, Or.inr ⟨by omega, hsp.1, fun s t hs ht e2 => ?_, fun s t hs ht e2 => ?_, fun s t hs ht hw => ?_⟩⟩
                · have al := (hsp.2 s t hs ht).mp e2
                  refine ⟨e2, ?_, ?_⟩
                  · rw [st _ (htg _ (by omega)), st _ (htg _ (by omega))]; exact al.2.1
                  · rw [st _ (htg _ (by omega)), st _ (htg _ (by omega))]; exact al.2.2
                · exact mo_eq_A ((hP s t hs ht).mp ((hsp.2 s t hs ht).mp e2).1)
                · rw [st s hs, st t ht]; exact (hP s t hs ht).mpr (mo_tell k s t hw))
  refine zn_iconst (x := 0) F d_Re_refine_0 (by decide) ?_
  refine zv_istore_n F d_Re_refine_1 (Nat.le_of_ble_eq_true rfl) ?_
  simp only [zv_s1, zv_s2, zv_kill, List.set_cons_zero, List.set_cons_succ, List.getElem?_cons_zero, List.getElem?_cons_succ]
  refine zn_iconst (x := 0) F d_Re_refine_2 (by decide) ?_
  refine zv_istore_n F d_Re_refine_3 (Nat.le_of_ble_eq_true rfl) ?_
  simp only [zv_s1, zv_s2, zv_kill, List.set_cons_zero, List.set_cons_succ, List.getElem?_cons_zero, List.getElem?_cons_succ]
  exact zv_weak (by repeat' (first | exact True.intro | refine And.intro rfl ?_)) (loop _ 0 0 _ pA pB A P2 fo rfl (by decide) (by decide) hpp f0 f3 f4 f5 f6 (fun b _ => rfl) (fun s hs => by have := hA s hs; omega) (fun s t _ _ => Iff.rfl) (Or.inl ⟨rfl, rfl⟩))
def re_tgt (t n a : Nat) : va_E := .inr (0, [.int (nI n), .int (nI a), .ref (t + 1)])
theorem Re_write_ok {l : Launch} {Δ : zv_D} {hp : zv_M} {sz : Nat} {o b N pA pB s0 t c n0 a0 : Nat} {S : Nat → Prop} {δ : Nat → Nat → Nat} {ac : Nat → Bool} {Bd : Nat → Prop} {cd tg P fo g0 : Nat → Nat} (hpp : re_pp o pA pB) (f0 : hp o = some (re_obj o N pA pB)) (f2 : hp (o + 2) = some (zn_I Δ 384 cd)) (f3 : hp (o + 3) = some (zn_I Δ 768 tg)) (f4 : hp pA = some (zn_I Δ 384 P)) (f6 : hp (o + 6) = some (zn_I Δ 6 fo)) (t0 : hp t = some (re_tgt t n0 a0)) (t1 : hp (t + 1) = some (zn_I Δ 12 g0)) (ht : t + 1 < o ∨ o + 7 ≤ t) (hc : c ≤ 6) (hfo : ∀ p, p < c → fo p < N) (hN : N ≤ 384) (htg : ∀ j, j < 2 * N → tg j < N) (hB : ∀ s, s < N → Bd (cd s)) (hM : mc_M Δ hp b S δ ac s0 Bd) (hS : ∀ q, S q → q < o ∨ o + 7 ≤ q) (hS2 : ∀ q, S q → q ≠ t ∧ q ≠ t + 1) : zv_E l Δ 3 y_Re_write b_Re_write 7 (none) [.ref o, .ref b, .int (nI c), .ref t] hp sz 0 0 (fun r hp1 sz1 => ∃ g1 : Nat → Nat, r = none ∧ sz1 = sz ∧ hp1 t = some (re_tgt t c (re_ab (fun p => ac (cd (fo p))) c)) ∧ hp1 (t + 1) = some (zn_I Δ 12 g1) ∧ (∀ j, j < 2 * c → g1 j = P (tg (2 * fo (j / 2) + j % 2))) ∧ (∀ j, 2 * c ≤ j → g1 j = g0 j) ∧ ∀ q, q ≠ t ∧ q ≠ t + 1 → hp1 q = hp q) := by
  refine zv_E.intro (lv0 := [some (.ref o), some (.ref b), some (.int (nI c)), some (.ref t), none, none, none]) rfl (Nat.le_of_ble_eq_true rfl) rfl ?_
  intro Γ hl F
  clear hl
  unfold re_pp at hpp
  have outer : ∀ (m p : Nat) (h' : zv_M) (g1 : Nat → Nat), m = c - p → p ≤ c → h' t = some (re_tgt t c (re_ab (fun p => ac (cd (fo p))) p)) → h' (t + 1) = some (zn_I Δ 12 g1) → (∀ j, j < 2 * p → g1 j = P (tg (2 * fo (j / 2) + j % 2))) → (∀ j, 2 * p ≤ j → g1 j = g0 j) → (∀ q, q ≠ t ∧ q ≠ t + 1 → h' q = hp q) → zv_V Δ Γ (zv_QQ Δ Γ 0 0 (fun r hp1 sz1 => ∃ g1 : Nat → Nat, r = none ∧ sz1 = sz ∧ hp1 t = some (re_tgt t c (re_ab (fun p => ac (cd (fo p))) c)) ∧ hp1 (t + 1) = some (zn_I Δ 12 g1) ∧ (∀ j, j < 2 * c → g1 j = P (tg (2 * fo (j / 2) + j % 2))) ∧ (∀ j, 2 * c ≤ j → g1 j = g0 j) ∧ ∀ q, q ≠ t ∧ q ≠ t + 1 → hp1 q = hp q)) 13 [some (.ref o), some (.ref b), some (.int (nI c)), some (.ref t), some (.int (nI p)), none, none] [] h' sz 0 0 := by
    intro m
    induction m using Nat.strongRecOn with
    | ind m ih =>
      intro p h' g1 hm hp2 t0 t1 hg1 hg2 fr
      have inner : ∀ (m2 x : Nat) (h' : zv_M) (g1 : Nat → Nat), m2 = 2 - x → x ≤ 2 → p < c → h' t = some (re_tgt t c (re_ab (fun p => ac (cd (fo p))) p)) → h' (t + 1) = some (zn_I Δ 12 g1) → (∀ j, j < 2 * p + x → g1 j = P (tg (2 * fo (j / 2) + j % 2))) → (∀ j, 2 * p + x ≤ j → g1 j = g0 j) → (∀ q, q ≠ t ∧ q ≠ t + 1 → h' q = hp q) → zv_V Δ Γ (zv_QQ Δ Γ 0 0 (fun r hp1 sz1 => ∃ g1 : Nat → Nat, r = none ∧ sz1 = sz ∧ hp1 t = some (re_tgt t c (re_ab (fun p => ac (cd (fo p))) c)) ∧ hp1 (t + 1) = some (zn_I Δ 12 g1) ∧ (∀ j, j < 2 * c → g1 j = P (tg (2 * fo (j / 2) + j % 2))) ∧ (∀ j, 2 * c ≤ j → g1 j = g0 j) ∧ ∀ q, q ≠ t ∧ q ≠ t + 1 → hp1 q = hp q)) 31 [some (.ref o), some (.ref b), some (.int (nI c)), some (.ref t), some (.int (nI p)), some (.int (nI (fo p))), some (.int (nI x))] [] h' sz 0 0 := by
        intro m2
        induction m2 using Nat.strongRecOn with
        | ind m2 ih2 =>
          intro x h' g1 hm2 hx hpc t0 t1 hg1 hg2 fr
          have f0 := (fr o (by omega)).trans f0
          have f2 := (fr (o + 2) (by omega)).trans f2
          have f3 := (fr (o + 3) (by omega)).trans f3
          have f4 := (fr pA (by omega)).trans f4
          have hfp := hfo p hpc
          refine zv_iload F d_Re_write_31 rfl ?_
          refine zn_iconst (x := 2) F d_Re_write_33 (by decide) ?_
          refine zn_icmp_ge (tgt := 72) F d_Re_write_34 rfl (by omega) (by omega) (fun h34 => ?_) (fun h34 => ?_)
          · have ex : x = 2 := by omega
            subst ex
            refine zv_aload_n F d_Re_write_72 rfl ?_
            refine zv_aload_n F d_Re_write_73 rfl ?_
            refine zv_get F d_Re_write_74 (by assumption) k_Re 1 (Nat.le_of_ble_eq_true rfl) ln_Re_15 rfl (by rfl) ?_
            refine zv_iload F d_Re_write_77 rfl ?_
            refine zn_iald F d_Re_write_79 (by assumption) (by omega) (by omega) ?_
            refine zv_callM F rfl d_Re_write_80 ((hM.2 _ h' _ (fun q hq => fr q (hS2 q hq))).2.2 (cd (fo p)) (hB _ hfp)) ln_Re_68 (by decide) rfl rfl ⟨(Nat.le_of_ble_eq_true rfl), (Nat.le_of_ble_eq_true rfl)⟩ (Nat.le_of_ble_eq_true rfl) ⟨(Nat.le_of_ble_eq_true rfl), (Nat.le_of_ble_eq_true rfl)⟩ ?_
            first | refine zn_bif_eq (tgt := 101) F d_Re_write_85 rfl (fun h85 => ?_) (fun h85 => ?_) | refine zn_if_eq (tgt := 101) F d_Re_write_85 rfl (by omega) (fun h85 => ?_) (fun h85 => ?_)
            · have es : re_ab (fun p => ac (cd (fo p))) (p + 1) = re_ab (fun p => ac (cd (fo p))) p := by rw [re_ab, if_neg (by rw [h85]; decide)]
              refine zn_iinc F d_Re_write_101 rfl ?_
              simp only [zv_s1, zv_s2, zv_kill, List.set_cons_zero, List.set_cons_succ, List.getElem?_cons_zero, List.getElem?_cons_succ]
              refine zv_goto (tgt := 13) F d_Re_write_104 rfl ?_
              exact zv_weak (by repeat' (first | exact True.intro | refine And.intro rfl ?_)) (ih (c - (p + 1)) (by omega) (p + 1) _ g1 rfl (by omega) (by rw [es]; exact t0) t1 (fun j hj => hg1 j (by omega)) (fun j hj => hg2 j (by omega)) fr)
            · have es : re_ab (fun p => ac (cd (fo p))) (p + 1) = re_ab (fun p => ac (cd (fo p))) p ||| 2 ^ p := by rw [re_ab, if_pos h85]
              refine zv_aload_n F d_Re_write_88 rfl ?_
              refine zv_dup F d_Re_write_89 rfl ?_
              refine zv_getN F d_Re_write_90 (by assumption) k_Au 1 (Nat.le_of_ble_eq_true rfl) ln_Re_85 rfl (by rfl) ?_
              refine zn_iconst (x := 1) F d_Re_write_93 (by decide) ?_
              refine zv_iload F d_Re_write_94 rfl ?_
              refine zn_ishl F d_Re_write_96 (zn_p2 (by omega)) (by omega) ?_
              rw [Nat.one_mul]
              refine zn_ior F d_Re_write_97 ?_
              refine zv_putN F d_Re_write_98 (by assumption) k_Au 1 (Nat.le_of_ble_eq_true rfl) ln_Re_85 rfl rfl rfl (by rfl) (by rfl) (Nat.le_of_ble_eq_true rfl) (fun hp98 e98 => ?_)
              replace t0 := zv_eq e98
              replace t1 := (zv_ne e98 (by omega)).trans t1
              replace fr := fun b hb => (zv_ne (b := b) e98 (by omega)).trans (fr b hb)
              refine zn_iinc F d_Re_write_101 rfl ?_
              simp only [zv_s1, zv_s2, zv_kill, List.set_cons_zero, List.set_cons_succ, List.getElem?_cons_zero, List.getElem?_cons_succ]
              refine zv_goto (tgt := 13) F d_Re_write_104 rfl ?_
              exact zv_weak (by repeat' (first | exact True.intro | refine And.intro rfl ?_)) (ih (c - (p + 1)) (by omega) (p + 1) _ g1 rfl (by omega) (by rw [es]; exact t0) t1 (fun j hj => hg1 j (by omega)) (fun j hj => hg2 j (by omega)) fr)
          · have htx := htg (2 * fo p + x) (by omega)
            refine zv_aload_n F d_Re_write_37 rfl ?_
            refine zv_getN F d_Re_write_38 (by assumption) k_Au 2 (Nat.le_of_ble_eq_true rfl) ln_Re_88 rfl (by rfl) ?_
            refine zn_iconst (x := 2) F d_Re_write_41 (by decide) ?_
            refine zv_iload F d_Re_write_42 rfl ?_
            refine zn_imul F d_Re_write_44 ?_
            refine zv_iload F d_Re_write_45 rfl ?_
            refine zn_iadd F d_Re_write_47 ?_
            refine zv_aload_n F d_Re_write_48 rfl ?_
            refine zv_get F d_Re_write_49 (by assumption) k_Re 4 (Nat.le_of_ble_eq_true rfl) ln_Re_21 rfl (by rfl) ?_
            refine zv_aload_n F d_Re_write_52 rfl ?_
            refine zv_get F d_Re_write_53 (by assumption) k_Re 2 (Nat.le_of_ble_eq_true rfl) ln_Re_18 rfl (by rfl) ?_
            refine zn_iconst (x := 2) F d_Re_write_56 (by decide) ?_
            refine zv_iload F d_Re_write_57 rfl ?_
            refine zn_imul F d_Re_write_59 ?_
            refine zv_iload F d_Re_write_60 rfl ?_
            refine zn_iadd F d_Re_write_62 ?_
            refine zn_iald F d_Re_write_63 (by assumption) (by omega) (by omega) ?_
            refine zn_iald F d_Re_write_64 (by assumption) (by omega) (by omega) ?_
            refine zn_iast F d_Re_write_65 (by assumption) (by omega) (by omega) (fun hp65 e65 => ?_)
            replace t0 := (zv_ne e65 (by omega)).trans t0
            replace t1 := zv_eq e65
            replace fr := fun b hb => (zv_ne (b := b) e65 (by omega)).trans (fr b hb)
            refine zn_iinc F d_Re_write_66 rfl ?_
            simp only [zv_s1, zv_s2, zv_kill, List.set_cons_zero, List.set_cons_succ, List.getElem?_cons_zero, List.getElem?_cons_succ]
            refine zv_goto (tgt := 31) F d_Re_write_69 rfl ?_
            refine zv_weak (by repeat' (first | exact True.intro | refine And.intro rfl ?_)) (ih2 (2 - (x + 1)) (by omega) (x + 1) _ _ rfl (by omega) hpc t0 t1 (fun j hj => ?_) (fun j hj => ?_) fr)
            · by_cases e : j = 2 * p + x
              · simp only [va_up, e, if_true]; rw [show (2 * p + x) / 2 = p by omega, show (2 * p + x) % 2 = x by omega]
              · simp only [va_up, e, if_false]; exact hg1 j (by omega)
            · simp only [va_up]; rw [if_neg (by omega)]; exact hg2 j (by omega)
      have f0 := (fr o (by omega)).trans f0
      have f6 := (fr (o + 6) (by omega)).trans f6
      refine zv_iload F d_Re_write_13 rfl ?_
      refine zv_iload_n F d_Re_write_15 rfl ?_
      refine zn_icmp_ge (tgt := 107) F d_Re_write_16 rfl (by omega) (by omega) (fun h16 => ?_) (fun h16 => ?_)
      · exact zv_vret F d_Re_write_107 (Nat.le_of_ble_eq_true rfl) (Nat.le_of_ble_eq_true rfl) (by have e : p = c := (by omega); subst e; exact ⟨g1, rfl, rfl, t0, t1, hg1, hg2, fr⟩)
      · refine zv_aload_n F d_Re_write_19 rfl ?_
        refine zv_get F d_Re_write_20 (by assumption) k_Re 6 (Nat.le_of_ble_eq_true rfl) ln_Re_27 rfl (by rfl) ?_
        refine zv_iload F d_Re_write_23 rfl ?_
        refine zn_iald F d_Re_write_25 (by assumption) (by omega) (by omega) ?_
        refine zv_istore F d_Re_write_26 (Nat.le_of_ble_eq_true rfl) ?_
        simp only [zv_s1, zv_s2, zv_kill, List.set_cons_zero, List.set_cons_succ, List.getElem?_cons_zero, List.getElem?_cons_succ]
        refine zn_iconst (x := 0) F d_Re_write_28 (by decide) ?_
        refine zv_istore F d_Re_write_29 (Nat.le_of_ble_eq_true rfl) ?_
        simp only [zv_s1, zv_s2, zv_kill, List.set_cons_zero, List.set_cons_succ, List.getElem?_cons_zero, List.getElem?_cons_succ]
        exact zv_weak (by repeat' (first | exact True.intro | refine And.intro rfl ?_)) (inner _ 0 _ g1 rfl (by decide) (by omega) t0 t1 hg1 hg2 fr)
  have fr : ∀ q, q ≠ t ∧ q ≠ t + 1 → hp q = hp q := fun q _ => rfl
  refine zv_aload_n F d_Re_write_0 rfl ?_
  refine zv_iload_n F d_Re_write_1 rfl ?_
  refine zv_putN F d_Re_write_2 (by assumption) k_Au 0 (Nat.le_of_ble_eq_true rfl) ln_Re_82 rfl rfl rfl (by rfl) (by rfl) (Nat.le_of_ble_eq_true rfl) (fun hp2 e2 => ?_)
  replace t0 := zv_eq e2
  replace t1 := (zv_ne e2 (by omega)).trans t1
  replace fr := fun b hb => (zv_ne (b := b) e2 (by omega)).trans (fr b hb)
  refine zv_aload_n F d_Re_write_5 rfl ?_
  refine zn_iconst (x := 0) F d_Re_write_6 (by decide) ?_
  refine zv_putN F d_Re_write_7 (by assumption) k_Au 1 (Nat.le_of_ble_eq_true rfl) ln_Re_85 rfl rfl rfl (by rfl) (by rfl) (Nat.le_of_ble_eq_true rfl) (fun hp7 e7 => ?_)
  replace t0 := zv_eq e7
  replace t1 := (zv_ne e7 (by omega)).trans t1
  replace fr := fun b hb => (zv_ne (b := b) e7 (by omega)).trans (fr b hb)
  refine zn_iconst (x := 0) F d_Re_write_10 (by decide) ?_
  refine zv_istore F d_Re_write_11 (Nat.le_of_ble_eq_true rfl) ?_
  simp only [zv_s1, zv_s2, zv_kill, List.set_cons_zero, List.set_cons_succ, List.getElem?_cons_zero, List.getElem?_cons_succ]
  exact zv_weak (by repeat' (first | exact True.intro | refine And.intro rfl ?_)) (outer _ 0 _ g0 rfl (Nat.zero_le _) t0 t1 (fun j hj => by omega) (fun j _ => rfl) fr)

