theorem LA_init_ok {l : Launch} {Δ : zv_D} {hp : zv_M} {sz : Nat} {x : Nat} (f0 : hp x = some (.inr (1, [.null, .int (nI 0), .null, .null]))) (hx : sz = x + 1) : zv_E l Δ 2 y_LA_init b_LA_init 2 (none) [.ref x] hp sz 42 6659 (fun r hp1 sz1 => r = none ∧ sz1 = x + 43 ∧ la_at Δ hp1 x 0 (fun _ => 0) (fun _ => 0) (fun _ _ => 0) 0 (fun _ => 0) (fun _ => 0) (fun _ => 0) (fun _ => 0) (fun _ => 0) ∧ ∀ q, q < x → hp1 q = hp q) := by
  refine zv_E.intro (lv0 := [some (.ref x), none]) rfl (Nat.le_of_ble_eq_true rfl) rfl ?_
  intro Γ hl F
  clear hl
  subst hx
  have loop : ∀ (m i : Nat) (h' : zv_M) (f : Nat → Option Nat) (z ce sl : Nat), m = 12 - i → i ≤ 12 → z = x + 19 + 2 * i → ce = 18 + 2 * i → sl = 6479 + 15 * i → h' x = some (la_obj x 0) → h' (x + 1) = some (la_arr Δ f) → (∀ j, j < i → f j = some (x + 19 + 2 * j)) → re_at Δ h' (x + 2) → al_at Δ h' (x + 9) 0 (fun _ => 0) (fun _ => 0) (fun _ => 0) (fun _ => 0) (fun _ => 0) → (∀ j, j < i → au_at Δ h' (x + 19 + 2 * j) 0 0 (fun _ => 0)) → (∀ q, q < x → h' q = hp q) → zv_V Δ Γ (zv_QQ Δ Γ 42 6659 (fun r hp1 sz1 => r = none ∧ sz1 = x + 43 ∧ la_at Δ hp1 x 0 (fun _ => 0) (fun _ => 0) (fun _ _ => 0) 0 (fun _ => 0) (fun _ => 0) (fun _ => 0) (fun _ => 0) (fun _ => 0) ∧ ∀ q, q < x → hp1 q = hp q)) 37 [some (.ref x), some (.int (nI i))] [] h' z ce sl := by
    intro m
    induction m using Nat.strongRecOn with
    | ind m ih =>
      intro i h' f z ce sl hm hi hz hce hsl f0 f1 hf hR hA hau fr
      subst hz
      refine zv_iload_n F d_LA_init_37 rfl ?_
      refine zn_bipush (x := 12) F d_LA_init_38 (by decide) ?_
      refine zn_icmp_ge (tgt := 62) F d_LA_init_40 rfl (by omega) (by omega) (fun h40 => ?_) (fun h40 => ?_)
      · exact zv_vret F d_LA_init_62 (by show _ ≤ 42; omega) (by show _ ≤ 6659; omega) (by have c : i = 12 := (by omega); subst c; exact ⟨rfl, rfl, ⟨f0, ⟨f, f1, hf⟩, hR, hA, fun j hj => ⟨hau j hj, Nat.zero_le 6, Nat.zero_lt_succ 63, fun _ _ => Nat.zero_lt_succ 5⟩⟩, fr⟩)
      · refine zv_aload_n F d_LA_init_43 rfl ?_
        refine zv_get F d_LA_init_44 (by assumption) k_LA 0 (Nat.le_of_ble_eq_true rfl) ln_LA_11 rfl (by rfl) ?_
        refine zv_iload_n F d_LA_init_47 rfl ?_
        refine zv_new (fs := [.int (nI 0), .int (nI 0), .null]) F d_LA_init_48 k_Au t_Au t_Au_ok nw_Au ln_LA_9 ki_Au kz_Au (by show _ ≤ 42; omega) (by show _ ≤ 6659; omega) (fun hp48 l48 e48 => ?_)
        have fN := zv_eq e48
        have mv : ∀ q, q < x + 19 + 2 * i → hp48 q = h' q := fun q hq => zv_ne e48 (by omega)
        refine zv_dup F d_LA_init_51 rfl ?_
        refine zv_mIN0 F rfl d_LA_init_52 (Au_init_ok fN rfl) Y_Au_init Yi_Au_init rfl ln_LA_29 ⟨(Nat.le_of_ble_eq_true rfl), (Nat.le_of_ble_eq_true rfl)⟩ (Nat.le_of_ble_eq_true rfl) ⟨(by show _ ≤ 42; omega), (by show _ ≤ 6659; omega)⟩ (fun r hp52 sz52 q52 => ?_)
        obtain ⟨rfl, rfl, hN, fr1⟩ := q52
        have mv2 : ∀ q, q < x + 19 + 2 * i → hp52 q = h' q := fun q hq => (fr1 q hq).trans (mv q hq)
        have g1 := (mv2 (x + 1) (by omega)).trans f1
        have gN := hN.1
        try simp only [Option.toList, List.cons_append, List.nil_append]
        refine zv_aast (t0 := 3) F d_LA_init_55 g1 rfl gN k_Au.1 (vp_in_nI (by omega) (by omega)) (fun hp55 e55 => ?_)
        rw [nI_clamp (by omega)] at e55
        have mv3 : ∀ q, q ≠ x + 1 → hp55 q = hp52 q := fun q hq => zv_ne e55 hq
        refine zn_iinc F d_LA_init_56 rfl ?_
        simp only [zv_s1, zv_s2, zv_kill, List.set_cons_zero, List.set_cons_succ, List.getElem?_cons_zero, List.getElem?_cons_succ]
        refine zv_goto (tgt := 37) F d_LA_init_59 rfl ?_
        refine zv_weak (by repeat' (first | exact True.intro | refine And.intro rfl ?_)) (ih (12 - (i + 1)) (by omega) (i + 1) hp55 (va_up f i (some (x + 19 + 2 * i))) _ _ _ rfl (by omega) (by omega) (by omega) (by omega) ((mv3 x (by omega)).trans ((mv2 x (by omega)).trans f0)) (zv_eq e55) (fun j hj => ?_) (hR.moved (fun q q1 q2 => (mv3 q (by omega)).trans (mv2 q (by omega)))) (hA.moved (fun q q1 q2 => (mv3 q (by omega)).trans (mv2 q (by omega)))) (fun j hj => ?_) (fun q hq => (mv3 q (by omega)).trans ((mv2 q (by omega)).trans (fr q hq))))
        · by_cases c : j = i
          · simp only [va_up, c, if_true]
          · simp only [va_up, c, if_false]; exact hf j (by omega)
        · by_cases c : j = i
          · rw [c]; exact hN.moved (mv3 _ (by omega)) (mv3 _ (by omega))
          · exact (hau j (by omega)).moved ((mv3 _ (by omega)).trans (mv2 _ (by omega))) ((mv3 _ (by omega)).trans (mv2 _ (by omega)))
  have fr : ∀ q, q < x → hp q = hp q := fun q _ => rfl
  refine zv_aload_n F d_LA_init_0 rfl ?_
  refine zv_obj F rfl d_LA_init_1 ln_LA_3 ko_i ko_c ⟨(Nat.le_of_ble_eq_true rfl), (Nat.le_of_ble_eq_true rfl)⟩ ?_
  refine zv_aload_n F d_LA_init_4 rfl ?_
  refine zn_bipush (x := 12) F d_LA_init_5 (by decide) ?_
  refine zv_newq (t0 := 3) (N := 12) F d_LA_init_7 ln_LA_9 (by decide) rfl (zn_n0 (by decide)) (nI_clamp (by decide)) (by decide) (Nat.le_of_ble_eq_true rfl) (Nat.le_of_ble_eq_true rfl) (fun hp7 l7 e7 => ?_)
  replace f0 := (zv_ne e7 (by omega)).trans f0
  replace fr := fun b hb => (zv_ne (b := b) e7 (by omega)).trans (fr b hb)
  have f1 : hp7 (x + 1) = some (la_arr Δ (fun _ => none)) := zv_eq e7
  refine zv_putF F d_LA_init_10 (by assumption) k_LA 0 (Nat.le_of_ble_eq_true rfl) ln_LA_11 rfl rfl rfl rfl rfl (by rfl) (by rfl) (Nat.le_of_ble_eq_true rfl) (fun hp10 e10 => ?_)
  replace f0 := zv_eq e10
  replace fr := fun b hb => (zv_ne (b := b) e10 (by omega)).trans (fr b hb)
  replace f1 := (zv_ne e10 (by omega)).trans f1
  refine zv_aload_n F d_LA_init_13 rfl ?_
  refine zv_new (fs := [.null, .null, .null, .int (nI 0), .null, .null, .null]) F d_LA_init_14 k_Re t_Re t_Re_ok nw_Re ln_LA_15 ki_Re kz_Re (Nat.le_of_ble_eq_true rfl) (Nat.le_of_ble_eq_true rfl) (fun hp14 l14 e14 => ?_)
  have l14_f0 := l14 _ _ f0
  replace f0 := (zv_ne e14 (by omega)).trans f0
  replace fr := fun b hb => (zv_ne (b := b) e14 (by omega)).trans (fr b hb)
  have fR := zv_eq e14
  replace f1 := (zv_ne e14 (by omega)).trans f1
  refine zv_dup F d_LA_init_17 rfl ?_
  refine zv_mIN0 F rfl d_LA_init_18 (Re_init_ok fR rfl) Y_Re_init Yi_Re_init rfl ln_LA_17 ⟨(Nat.le_of_ble_eq_true rfl), (Nat.le_of_ble_eq_true rfl)⟩ (Nat.le_of_ble_eq_true rfl) ⟨(Nat.le_of_ble_eq_true rfl), (Nat.le_of_ble_eq_true rfl)⟩ (fun r hp18 sz18 q18 => ?_)
  obtain ⟨rfl, rfl, hR, fr1⟩ := q18
  replace f0 := (fr1 x (by omega)).trans f0
  replace f1 := (fr1 (x + 1) (by omega)).trans f1
  replace fr : ∀ q, q < x → hp18 q = hp q := fun q hq => (fr1 q (by omega)).trans (fr q hq)
  clear fR
  try simp only [Option.toList, List.cons_append, List.nil_append]
  refine zv_putF F d_LA_init_21 (by assumption) k_LA 2 (Nat.le_of_ble_eq_true rfl) ln_LA_18 rfl rfl rfl rfl rfl (by rfl) (by rfl) (Nat.le_of_ble_eq_true rfl) (fun hp21 e21 => ?_)
  replace f0 := zv_eq e21
  replace fr := fun b hb => (zv_ne (b := b) e21 (by omega)).trans (fr b hb)
  replace f1 := (zv_ne e21 (by omega)).trans f1
  replace hR := hR.moved (hp1 := hp21) (fun q q1 q2 => zv_ne e21 (by omega))
  refine zv_aload_n F d_LA_init_24 rfl ?_
  refine zv_new (fs := [.null, .null, .null, .null, .int (nI 0), .null, .null, .null, .null, .null]) F d_LA_init_25 k_Al t_Al t_Al_ok nw_Al ln_LA_22 ki_Al kz_Al (Nat.le_of_ble_eq_true rfl) (Nat.le_of_ble_eq_true rfl) (fun hp25 l25 e25 => ?_)
  have l25_f0 := l25 _ _ f0
  replace f0 := (zv_ne e25 (by omega)).trans f0
  replace fr := fun b hb => (zv_ne (b := b) e25 (by omega)).trans (fr b hb)
  have fA := zv_eq e25
  replace f1 := (zv_ne e25 (by omega)).trans f1
  replace hR := hR.moved (hp1 := hp25) (fun q q1 q2 => zv_ne e25 (by omega))
  refine zv_dup F d_LA_init_28 rfl ?_
  refine zv_mIN0 F rfl d_LA_init_29 (Al_init_ok fA rfl) Y_Al_init Yi_Al_init rfl ln_LA_24 ⟨(Nat.le_of_ble_eq_true rfl), (Nat.le_of_ble_eq_true rfl)⟩ (Nat.le_of_ble_eq_true rfl) ⟨(Nat.le_of_ble_eq_true rfl), (Nat.le_of_ble_eq_true rfl)⟩ (fun r hp29 sz29 q29 => ?_)
  obtain ⟨rfl, rfl, hA, fr2⟩ := q29
  replace f0 := (fr2 x (by omega)).trans f0
  replace f1 := (fr2 (x + 1) (by omega)).trans f1
  replace hR := hR.moved (hp1 := hp29) (fun q q1 q2 => fr2 q (by omega))
  replace fr : ∀ q, q < x → hp29 q = hp q := fun q hq => (fr2 q (by omega)).trans (fr q hq)
  clear fA
  try simp only [Option.toList, List.cons_append, List.nil_append]
  refine zv_putF F d_LA_init_32 (by assumption) k_LA 3 (Nat.le_of_ble_eq_true rfl) ln_LA_25 rfl rfl rfl rfl rfl (by rfl) (by rfl) (Nat.le_of_ble_eq_true rfl) (fun hp32 e32 => ?_)
  replace f0 := zv_eq e32
  replace fr := fun b hb => (zv_ne (b := b) e32 (by omega)).trans (fr b hb)
  replace f1 := (zv_ne e32 (by omega)).trans f1
  replace hR := hR.moved (hp1 := hp32) (fun q q1 q2 => zv_ne e32 (by omega))
  replace hA := hA.moved (hp1 := hp32) (fun q q1 q2 => zv_ne e32 (by omega))
  refine zn_iconst (x := 0) F d_LA_init_35 (by decide) ?_
  refine zv_istore_n F d_LA_init_36 (Nat.le_of_ble_eq_true rfl) ?_
  simp only [zv_s1, zv_s2, zv_kill, List.set_cons_zero, List.set_cons_succ, List.getElem?_cons_zero, List.getElem?_cons_succ]
  exact zv_weak (by repeat' (first | exact True.intro | refine And.intro rfl ?_)) (loop _ 0 _ (fun _ => none) _ _ _ rfl (by decide) rfl rfl rfl f0 f1 (fun j hj => by omega) hR hA (fun j hj => by omega) fr)

