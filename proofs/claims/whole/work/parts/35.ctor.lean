theorem Au_init_ok {l : Launch} {Δ : zv_D} {hp : zv_M} {sz : Nat} {a : Nat} (f0 : hp a = some (.inr (0, [.int (nI 0), .int (nI 0), .null]))) (ha : sz = a + 1) : zv_E l Δ 1 y_Au_init b_Au_init 1 (none) [.ref a] hp sz 1 12 (fun r hp1 sz1 => r = none ∧ sz1 = a + 2 ∧ au_at Δ hp1 a 0 0 (fun _ => 0) ∧ ∀ q, q < a → hp1 q = hp q) := by
  refine zv_E.intro (lv0 := [some (.ref a)]) rfl (Nat.le_of_ble_eq_true rfl) rfl ?_
  intro Γ hl F
  clear hl
  have fr : ∀ q, q < a → hp q = hp q := fun q _ => rfl
  subst ha
  refine zv_aload_n F d_Au_init_0 rfl ?_
  refine zv_obj F rfl d_Au_init_1 ln_Au_3 ko_i ko_c ⟨(Nat.le_of_ble_eq_true rfl), (Nat.le_of_ble_eq_true rfl)⟩ ?_
  refine zv_aload_n F d_Au_init_4 rfl ?_
  refine zn_bipush (x := 12) F d_Au_init_5 (by decide) ?_
  refine zn_newI F d_Au_init_7 (by decide) (Nat.le_of_ble_eq_true rfl) (Nat.le_of_ble_eq_true rfl) (fun hp7 l7 e7 => ?_)
  have l7_f0 := l7 _ _ f0
  replace f0 := (zv_ne e7 (by omega)).trans f0
  replace fr := fun b hb => (zv_ne (b := b) e7 (by omega)).trans (fr b hb)
  have f1 := zv_eq e7
  refine zv_putF F d_Au_init_9 (by assumption) k_Au 2 (Nat.le_of_ble_eq_true rfl) ln_Au_9 rfl rfl rfl rfl rfl (by rfl) (by rfl) (Nat.le_of_ble_eq_true rfl) (fun hp9 e9 => ?_)
  replace f0 := zv_eq e9
  replace fr := fun b hb => (zv_ne (b := b) e9 (by omega)).trans (fr b hb)
  replace f1 := (zv_ne e9 (by omega)).trans f1
  exact zv_vret F d_Au_init_12 (Nat.le_of_ble_eq_true rfl) (Nat.le_of_ble_eq_true rfl) ⟨rfl, rfl, ⟨f0, f1⟩, fr⟩
theorem Re_init_ok {l : Launch} {Δ : zv_D} {hp : zv_M} {sz : Nat} {a : Nat} (f0 : hp a = some (.inr (7, [.null, .null, .null, .int (nI 0), .null, .null, .null]))) (ha : sz = a + 1) : zv_E l Δ 1 y_Re_init b_Re_init 1 (none) [.ref a] hp sz 6 2310 (fun r hp1 sz1 => r = none ∧ sz1 = a + 7 ∧ re_at Δ hp1 a ∧ ∀ q, q < a → hp1 q = hp q) := by
  refine zv_E.intro (lv0 := [some (.ref a)]) rfl (Nat.le_of_ble_eq_true rfl) rfl ?_
  intro Γ hl F
  clear hl
  have fr : ∀ q, q < a → hp q = hp q := fun q _ => rfl
  subst ha
  refine zv_aload_n F d_Re_init_0 rfl ?_
  refine zv_obj F rfl d_Re_init_1 ln_Re_3 ko_i ko_c ⟨(Nat.le_of_ble_eq_true rfl), (Nat.le_of_ble_eq_true rfl)⟩ ?_
  refine zv_aload_n F d_Re_init_4 rfl ?_
  refine zn_sipush (x := 384) F d_Re_init_5 (by decide) ?_
  refine zn_newI F d_Re_init_8 (by decide) (Nat.le_of_ble_eq_true rfl) (Nat.le_of_ble_eq_true rfl) (fun hp8 l8 e8 => ?_)
  have l8_f0 := l8 _ _ f0
  replace f0 := (zv_ne e8 (by omega)).trans f0
  replace fr := fun b hb => (zv_ne (b := b) e8 (by omega)).trans (fr b hb)
  have f1 := zv_eq e8
  refine zv_putF F d_Re_init_10 (by assumption) k_Re 0 (Nat.le_of_ble_eq_true rfl) ln_Re_9 rfl rfl rfl rfl rfl (by rfl) (by rfl) (Nat.le_of_ble_eq_true rfl) (fun hp10 e10 => ?_)
  replace f0 := zv_eq e10
  replace fr := fun b hb => (zv_ne (b := b) e10 (by omega)).trans (fr b hb)
  replace f1 := (zv_ne e10 (by omega)).trans f1
  refine zv_aload_n F d_Re_init_13 rfl ?_
  refine zn_sipush (x := 384) F d_Re_init_14 (by decide) ?_
  refine zn_newI F d_Re_init_17 (by decide) (Nat.le_of_ble_eq_true rfl) (Nat.le_of_ble_eq_true rfl) (fun hp17 l17 e17 => ?_)
  have l17_f0 := l17 _ _ f0
  replace f0 := (zv_ne e17 (by omega)).trans f0
  replace fr := fun b hb => (zv_ne (b := b) e17 (by omega)).trans (fr b hb)
  have l17_f1 := l17 _ _ f1
  replace f1 := (zv_ne e17 (by omega)).trans f1
  have f2 := zv_eq e17
  refine zv_putF F d_Re_init_19 (by assumption) k_Re 1 (Nat.le_of_ble_eq_true rfl) ln_Re_15 rfl rfl rfl rfl rfl (by rfl) (by rfl) (Nat.le_of_ble_eq_true rfl) (fun hp19 e19 => ?_)
  replace f0 := zv_eq e19
  replace fr := fun b hb => (zv_ne (b := b) e19 (by omega)).trans (fr b hb)
  replace f1 := (zv_ne e19 (by omega)).trans f1
  replace f2 := (zv_ne e19 (by omega)).trans f2
  refine zv_aload_n F d_Re_init_22 rfl ?_
  refine zn_sipush (x := 768) F d_Re_init_23 (by decide) ?_
  refine zn_newI F d_Re_init_26 (by decide) (Nat.le_of_ble_eq_true rfl) (Nat.le_of_ble_eq_true rfl) (fun hp26 l26 e26 => ?_)
  have l26_f0 := l26 _ _ f0
  replace f0 := (zv_ne e26 (by omega)).trans f0
  replace fr := fun b hb => (zv_ne (b := b) e26 (by omega)).trans (fr b hb)
  have l26_f1 := l26 _ _ f1
  replace f1 := (zv_ne e26 (by omega)).trans f1
  have l26_f2 := l26 _ _ f2
  replace f2 := (zv_ne e26 (by omega)).trans f2
  have f3 := zv_eq e26
  refine zv_putF F d_Re_init_28 (by assumption) k_Re 2 (Nat.le_of_ble_eq_true rfl) ln_Re_18 rfl rfl rfl rfl rfl (by rfl) (by rfl) (Nat.le_of_ble_eq_true rfl) (fun hp28 e28 => ?_)
  replace f0 := zv_eq e28
  replace fr := fun b hb => (zv_ne (b := b) e28 (by omega)).trans (fr b hb)
  replace f1 := (zv_ne e28 (by omega)).trans f1
  replace f2 := (zv_ne e28 (by omega)).trans f2
  replace f3 := (zv_ne e28 (by omega)).trans f3
  refine zv_aload_n F d_Re_init_31 rfl ?_
  refine zn_sipush (x := 384) F d_Re_init_32 (by decide) ?_
  refine zn_newI F d_Re_init_35 (by decide) (Nat.le_of_ble_eq_true rfl) (Nat.le_of_ble_eq_true rfl) (fun hp35 l35 e35 => ?_)
  have l35_f0 := l35 _ _ f0
  replace f0 := (zv_ne e35 (by omega)).trans f0
  replace fr := fun b hb => (zv_ne (b := b) e35 (by omega)).trans (fr b hb)
  have l35_f1 := l35 _ _ f1
  replace f1 := (zv_ne e35 (by omega)).trans f1
  have l35_f2 := l35 _ _ f2
  replace f2 := (zv_ne e35 (by omega)).trans f2
  have l35_f3 := l35 _ _ f3
  replace f3 := (zv_ne e35 (by omega)).trans f3
  have f4 := zv_eq e35
  refine zv_put F d_Re_init_37 (by assumption) k_Re 4 (Nat.le_of_ble_eq_true rfl) ln_Re_21 rfl rfl rfl (by rfl) (by rfl) (Nat.le_of_ble_eq_true rfl) (fun hp37 e37 => ?_)
  replace f0 := zv_eq e37
  replace fr := fun b hb => (zv_ne (b := b) e37 (by omega)).trans (fr b hb)
  replace f1 := (zv_ne e37 (by omega)).trans f1
  replace f2 := (zv_ne e37 (by omega)).trans f2
  replace f3 := (zv_ne e37 (by omega)).trans f3
  replace f4 := (zv_ne e37 (by omega)).trans f4
  refine zv_aload_n F d_Re_init_40 rfl ?_
  refine zn_sipush (x := 384) F d_Re_init_41 (by decide) ?_
  refine zn_newI F d_Re_init_44 (by decide) (Nat.le_of_ble_eq_true rfl) (Nat.le_of_ble_eq_true rfl) (fun hp44 l44 e44 => ?_)
  have l44_f0 := l44 _ _ f0
  replace f0 := (zv_ne e44 (by omega)).trans f0
  replace fr := fun b hb => (zv_ne (b := b) e44 (by omega)).trans (fr b hb)
  have l44_f1 := l44 _ _ f1
  replace f1 := (zv_ne e44 (by omega)).trans f1
  have l44_f2 := l44 _ _ f2
  replace f2 := (zv_ne e44 (by omega)).trans f2
  have l44_f3 := l44 _ _ f3
  replace f3 := (zv_ne e44 (by omega)).trans f3
  have l44_f4 := l44 _ _ f4
  replace f4 := (zv_ne e44 (by omega)).trans f4
  have f5 := zv_eq e44
  refine zv_put F d_Re_init_46 (by assumption) k_Re 5 (Nat.le_of_ble_eq_true rfl) ln_Re_24 rfl rfl rfl (by rfl) (by rfl) (Nat.le_of_ble_eq_true rfl) (fun hp46 e46 => ?_)
  replace f0 := zv_eq e46
  replace fr := fun b hb => (zv_ne (b := b) e46 (by omega)).trans (fr b hb)
  replace f1 := (zv_ne e46 (by omega)).trans f1
  replace f2 := (zv_ne e46 (by omega)).trans f2
  replace f3 := (zv_ne e46 (by omega)).trans f3
  replace f4 := (zv_ne e46 (by omega)).trans f4
  replace f5 := (zv_ne e46 (by omega)).trans f5
  refine zv_aload_n F d_Re_init_49 rfl ?_
  refine zn_bipush (x := 6) F d_Re_init_50 (by decide) ?_
  refine zn_newI F d_Re_init_52 (by decide) (Nat.le_of_ble_eq_true rfl) (Nat.le_of_ble_eq_true rfl) (fun hp52 l52 e52 => ?_)
  have l52_f0 := l52 _ _ f0
  replace f0 := (zv_ne e52 (by omega)).trans f0
  replace fr := fun b hb => (zv_ne (b := b) e52 (by omega)).trans (fr b hb)
  have l52_f1 := l52 _ _ f1
  replace f1 := (zv_ne e52 (by omega)).trans f1
  have l52_f2 := l52 _ _ f2
  replace f2 := (zv_ne e52 (by omega)).trans f2
  have l52_f3 := l52 _ _ f3
  replace f3 := (zv_ne e52 (by omega)).trans f3
  have l52_f4 := l52 _ _ f4
  replace f4 := (zv_ne e52 (by omega)).trans f4
  have l52_f5 := l52 _ _ f5
  replace f5 := (zv_ne e52 (by omega)).trans f5
  have f6 := zv_eq e52
  refine zv_putF F d_Re_init_54 (by assumption) k_Re 6 (Nat.le_of_ble_eq_true rfl) ln_Re_27 rfl rfl rfl rfl rfl (by rfl) (by rfl) (Nat.le_of_ble_eq_true rfl) (fun hp54 e54 => ?_)
  replace f0 := zv_eq e54
  replace fr := fun b hb => (zv_ne (b := b) e54 (by omega)).trans (fr b hb)
  replace f1 := (zv_ne e54 (by omega)).trans f1
  replace f2 := (zv_ne e54 (by omega)).trans f2
  replace f3 := (zv_ne e54 (by omega)).trans f3
  replace f4 := (zv_ne e54 (by omega)).trans f4
  replace f5 := (zv_ne e54 (by omega)).trans f5
  replace f6 := (zv_ne e54 (by omega)).trans f6
  exact zv_vret F d_Re_init_57 (Nat.le_of_ble_eq_true rfl) (Nat.le_of_ble_eq_true rfl) ⟨rfl, rfl, ⟨0, a + 4, a + 5, _, _, _, _, _, _, Or.inl ⟨rfl, rfl⟩, f0, f1, f2, f3, f4, f5, f6⟩, fr⟩
theorem Al_init_ok {l : Launch} {Δ : zv_D} {hp : zv_M} {sz : Nat} {a : Nat} (f0 : hp a = some (.inr (8, [.null, .null, .null, .null, .int (nI 0), .null, .null, .null, .null, .null]))) (ha : sz = a + 1) : zv_E l Δ 1 y_Al_init b_Al_init 1 (none) [.ref a] hp sz 9 4140 (fun r hp1 sz1 => r = none ∧ sz1 = a + 10 ∧ al_at Δ hp1 a 0 (fun _ => 0) (fun _ => 0) (fun _ => 0) (fun _ => 0) (fun _ => 0) ∧ ∀ q, q < a → hp1 q = hp q) := by
  refine zv_E.intro (lv0 := [some (.ref a)]) rfl (Nat.le_of_ble_eq_true rfl) rfl ?_
  intro Γ hl F
  clear hl
  have fr : ∀ q, q < a → hp q = hp q := fun q _ => rfl
  subst ha
  refine zv_aload_n F d_Al_init_0 rfl ?_
  refine zv_obj F rfl d_Al_init_1 ln_Al_3 ko_i ko_c ⟨(Nat.le_of_ble_eq_true rfl), (Nat.le_of_ble_eq_true rfl)⟩ ?_
  refine zv_aload_n F d_Al_init_4 rfl ?_
  refine zn_bipush (x := 60) F d_Al_init_5 (by decide) ?_
  refine zn_newI F d_Al_init_7 (by decide) (Nat.le_of_ble_eq_true rfl) (Nat.le_of_ble_eq_true rfl) (fun hp7 l7 e7 => ?_)
  have l7_f0 := l7 _ _ f0
  replace f0 := (zv_ne e7 (by omega)).trans f0
  replace fr := fun b hb => (zv_ne (b := b) e7 (by omega)).trans (fr b hb)
  have f1 := zv_eq e7
  refine zv_putF F d_Al_init_9 (by assumption) k_Al 0 (Nat.le_of_ble_eq_true rfl) ln_Al_9 rfl rfl rfl rfl rfl (by rfl) (by rfl) (Nat.le_of_ble_eq_true rfl) (fun hp9 e9 => ?_)
  replace f0 := zv_eq e9
  replace fr := fun b hb => (zv_ne (b := b) e9 (by omega)).trans (fr b hb)
  replace f1 := (zv_ne e9 (by omega)).trans f1
  refine zv_aload_n F d_Al_init_12 rfl ?_
  refine zn_bipush (x := 120) F d_Al_init_13 (by decide) ?_
  refine zn_newI F d_Al_init_15 (by decide) (Nat.le_of_ble_eq_true rfl) (Nat.le_of_ble_eq_true rfl) (fun hp15 l15 e15 => ?_)
  have l15_f0 := l15 _ _ f0
  replace f0 := (zv_ne e15 (by omega)).trans f0
  replace fr := fun b hb => (zv_ne (b := b) e15 (by omega)).trans (fr b hb)
  have l15_f1 := l15 _ _ f1
  replace f1 := (zv_ne e15 (by omega)).trans f1
  have f2 := zv_eq e15
  refine zv_putF F d_Al_init_17 (by assumption) k_Al 1 (Nat.le_of_ble_eq_true rfl) ln_Al_15 rfl rfl rfl rfl rfl (by rfl) (by rfl) (Nat.le_of_ble_eq_true rfl) (fun hp17 e17 => ?_)
  replace f0 := zv_eq e17
  replace fr := fun b hb => (zv_ne (b := b) e17 (by omega)).trans (fr b hb)
  replace f1 := (zv_ne e17 (by omega)).trans f1
  replace f2 := (zv_ne e17 (by omega)).trans f2
  refine zv_aload_n F d_Al_init_20 rfl ?_
  refine zn_bipush (x := 60) F d_Al_init_21 (by decide) ?_
  refine zn_newI F d_Al_init_23 (by decide) (Nat.le_of_ble_eq_true rfl) (Nat.le_of_ble_eq_true rfl) (fun hp23 l23 e23 => ?_)
  have l23_f0 := l23 _ _ f0
  replace f0 := (zv_ne e23 (by omega)).trans f0
  replace fr := fun b hb => (zv_ne (b := b) e23 (by omega)).trans (fr b hb)
  have l23_f1 := l23 _ _ f1
  replace f1 := (zv_ne e23 (by omega)).trans f1
  have l23_f2 := l23 _ _ f2
  replace f2 := (zv_ne e23 (by omega)).trans f2
  have f3 := zv_eq e23
  refine zv_putF F d_Al_init_25 (by assumption) k_Al 2 (Nat.le_of_ble_eq_true rfl) ln_Al_18 rfl rfl rfl rfl rfl (by rfl) (by rfl) (Nat.le_of_ble_eq_true rfl) (fun hp25 e25 => ?_)
  replace f0 := zv_eq e25
  replace fr := fun b hb => (zv_ne (b := b) e25 (by omega)).trans (fr b hb)
  replace f1 := (zv_ne e25 (by omega)).trans f1
  replace f2 := (zv_ne e25 (by omega)).trans f2
  replace f3 := (zv_ne e25 (by omega)).trans f3
  refine zv_aload_n F d_Al_init_28 rfl ?_
  refine zn_bipush (x := 60) F d_Al_init_29 (by decide) ?_
  refine zn_newI F d_Al_init_31 (by decide) (Nat.le_of_ble_eq_true rfl) (Nat.le_of_ble_eq_true rfl) (fun hp31 l31 e31 => ?_)
  have l31_f0 := l31 _ _ f0
  replace f0 := (zv_ne e31 (by omega)).trans f0
  replace fr := fun b hb => (zv_ne (b := b) e31 (by omega)).trans (fr b hb)
  have l31_f1 := l31 _ _ f1
  replace f1 := (zv_ne e31 (by omega)).trans f1
  have l31_f2 := l31 _ _ f2
  replace f2 := (zv_ne e31 (by omega)).trans f2
  have l31_f3 := l31 _ _ f3
  replace f3 := (zv_ne e31 (by omega)).trans f3
  have f4 := zv_eq e31
  refine zv_putF F d_Al_init_33 (by assumption) k_Al 3 (Nat.le_of_ble_eq_true rfl) ln_Al_21 rfl rfl rfl rfl rfl (by rfl) (by rfl) (Nat.le_of_ble_eq_true rfl) (fun hp33 e33 => ?_)
  replace f0 := zv_eq e33
  replace fr := fun b hb => (zv_ne (b := b) e33 (by omega)).trans (fr b hb)
  replace f1 := (zv_ne e33 (by omega)).trans f1
  replace f2 := (zv_ne e33 (by omega)).trans f2
  replace f3 := (zv_ne e33 (by omega)).trans f3
  replace f4 := (zv_ne e33 (by omega)).trans f4
  refine zv_aload_n F d_Al_init_36 rfl ?_
  refine zn_bipush (x := 60) F d_Al_init_37 (by decide) ?_
  refine zn_newJ F d_Al_init_39 (by decide) (Nat.le_of_ble_eq_true rfl) (Nat.le_of_ble_eq_true rfl) (fun hp39 l39 e39 => ?_)
  have l39_f0 := l39 _ _ f0
  replace f0 := (zv_ne e39 (by omega)).trans f0
  replace fr := fun b hb => (zv_ne (b := b) e39 (by omega)).trans (fr b hb)
  have l39_f1 := l39 _ _ f1
  replace f1 := (zv_ne e39 (by omega)).trans f1
  have l39_f2 := l39 _ _ f2
  replace f2 := (zv_ne e39 (by omega)).trans f2
  have l39_f3 := l39 _ _ f3
  replace f3 := (zv_ne e39 (by omega)).trans f3
  have l39_f4 := l39 _ _ f4
  replace f4 := (zv_ne e39 (by omega)).trans f4
  have f5 := zv_eq e39
  refine zv_putF F d_Al_init_41 (by assumption) k_Al 5 (Nat.le_of_ble_eq_true rfl) ln_Al_24 rfl rfl rfl rfl rfl (by rfl) (by rfl) (Nat.le_of_ble_eq_true rfl) (fun hp41 e41 => ?_)
  replace f0 := zv_eq e41
  replace fr := fun b hb => (zv_ne (b := b) e41 (by omega)).trans (fr b hb)
  replace f1 := (zv_ne e41 (by omega)).trans f1
  replace f2 := (zv_ne e41 (by omega)).trans f2
  replace f3 := (zv_ne e41 (by omega)).trans f3
  replace f4 := (zv_ne e41 (by omega)).trans f4
  replace f5 := (zv_ne e41 (by omega)).trans f5
  refine zv_aload_n F d_Al_init_44 rfl ?_
  refine zn_sipush (x := 3600) F d_Al_init_45 (by decide) ?_
  refine zn_newI F d_Al_init_48 (by decide) (Nat.le_of_ble_eq_true rfl) (Nat.le_of_ble_eq_true rfl) (fun hp48 l48 e48 => ?_)
  have l48_f0 := l48 _ _ f0
  replace f0 := (zv_ne e48 (by omega)).trans f0
  replace fr := fun b hb => (zv_ne (b := b) e48 (by omega)).trans (fr b hb)
  have l48_f1 := l48 _ _ f1
  replace f1 := (zv_ne e48 (by omega)).trans f1
  have l48_f2 := l48 _ _ f2
  replace f2 := (zv_ne e48 (by omega)).trans f2
  have l48_f3 := l48 _ _ f3
  replace f3 := (zv_ne e48 (by omega)).trans f3
  have l48_f4 := l48 _ _ f4
  replace f4 := (zv_ne e48 (by omega)).trans f4
  have l48_f5 := l48 _ _ f5
  replace f5 := (zv_ne e48 (by omega)).trans f5
  have f6 := zv_eq e48
  refine zv_putF F d_Al_init_50 (by assumption) k_Al 6 (Nat.le_of_ble_eq_true rfl) ln_Al_28 rfl rfl rfl rfl rfl (by rfl) (by rfl) (Nat.le_of_ble_eq_true rfl) (fun hp50 e50 => ?_)
  replace f0 := zv_eq e50
  replace fr := fun b hb => (zv_ne (b := b) e50 (by omega)).trans (fr b hb)
  replace f1 := (zv_ne e50 (by omega)).trans f1
  replace f2 := (zv_ne e50 (by omega)).trans f2
  replace f3 := (zv_ne e50 (by omega)).trans f3
  replace f4 := (zv_ne e50 (by omega)).trans f4
  replace f5 := (zv_ne e50 (by omega)).trans f5
  replace f6 := (zv_ne e50 (by omega)).trans f6
  refine zv_aload_n F d_Al_init_53 rfl ?_
  refine zn_bipush (x := 60) F d_Al_init_54 (by decide) ?_
  refine zn_newJ F d_Al_init_56 (by decide) (Nat.le_of_ble_eq_true rfl) (Nat.le_of_ble_eq_true rfl) (fun hp56 l56 e56 => ?_)
  have l56_f0 := l56 _ _ f0
  replace f0 := (zv_ne e56 (by omega)).trans f0
  replace fr := fun b hb => (zv_ne (b := b) e56 (by omega)).trans (fr b hb)
  have l56_f1 := l56 _ _ f1
  replace f1 := (zv_ne e56 (by omega)).trans f1
  have l56_f2 := l56 _ _ f2
  replace f2 := (zv_ne e56 (by omega)).trans f2
  have l56_f3 := l56 _ _ f3
  replace f3 := (zv_ne e56 (by omega)).trans f3
  have l56_f4 := l56 _ _ f4
  replace f4 := (zv_ne e56 (by omega)).trans f4
  have l56_f5 := l56 _ _ f5
  replace f5 := (zv_ne e56 (by omega)).trans f5
  have l56_f6 := l56 _ _ f6
  replace f6 := (zv_ne e56 (by omega)).trans f6
  have f7 := zv_eq e56
  refine zv_putF F d_Al_init_58 (by assumption) k_Al 7 (Nat.le_of_ble_eq_true rfl) ln_Al_31 rfl rfl rfl rfl rfl (by rfl) (by rfl) (Nat.le_of_ble_eq_true rfl) (fun hp58 e58 => ?_)
  replace f0 := zv_eq e58
  replace fr := fun b hb => (zv_ne (b := b) e58 (by omega)).trans (fr b hb)
  replace f1 := (zv_ne e58 (by omega)).trans f1
  replace f2 := (zv_ne e58 (by omega)).trans f2
  replace f3 := (zv_ne e58 (by omega)).trans f3
  replace f4 := (zv_ne e58 (by omega)).trans f4
  replace f5 := (zv_ne e58 (by omega)).trans f5
  replace f6 := (zv_ne e58 (by omega)).trans f6
  replace f7 := (zv_ne e58 (by omega)).trans f7
  refine zv_aload_n F d_Al_init_61 rfl ?_
  refine zn_bipush (x := 60) F d_Al_init_62 (by decide) ?_
  refine zn_newJ F d_Al_init_64 (by decide) (Nat.le_of_ble_eq_true rfl) (Nat.le_of_ble_eq_true rfl) (fun hp64 l64 e64 => ?_)
  have l64_f0 := l64 _ _ f0
  replace f0 := (zv_ne e64 (by omega)).trans f0
  replace fr := fun b hb => (zv_ne (b := b) e64 (by omega)).trans (fr b hb)
  have l64_f1 := l64 _ _ f1
  replace f1 := (zv_ne e64 (by omega)).trans f1
  have l64_f2 := l64 _ _ f2
  replace f2 := (zv_ne e64 (by omega)).trans f2
  have l64_f3 := l64 _ _ f3
  replace f3 := (zv_ne e64 (by omega)).trans f3
  have l64_f4 := l64 _ _ f4
  replace f4 := (zv_ne e64 (by omega)).trans f4
  have l64_f5 := l64 _ _ f5
  replace f5 := (zv_ne e64 (by omega)).trans f5
  have l64_f6 := l64 _ _ f6
  replace f6 := (zv_ne e64 (by omega)).trans f6
  have l64_f7 := l64 _ _ f7
  replace f7 := (zv_ne e64 (by omega)).trans f7
  have f8 := zv_eq e64
  refine zv_putF F d_Al_init_66 (by assumption) k_Al 8 (Nat.le_of_ble_eq_true rfl) ln_Al_34 rfl rfl rfl rfl rfl (by rfl) (by rfl) (Nat.le_of_ble_eq_true rfl) (fun hp66 e66 => ?_)
  replace f0 := zv_eq e66
  replace fr := fun b hb => (zv_ne (b := b) e66 (by omega)).trans (fr b hb)
  replace f1 := (zv_ne e66 (by omega)).trans f1
  replace f2 := (zv_ne e66 (by omega)).trans f2
  replace f3 := (zv_ne e66 (by omega)).trans f3
  replace f4 := (zv_ne e66 (by omega)).trans f4
  replace f5 := (zv_ne e66 (by omega)).trans f5
  replace f6 := (zv_ne e66 (by omega)).trans f6
  replace f7 := (zv_ne e66 (by omega)).trans f7
  replace f8 := (zv_ne e66 (by omega)).trans f8
  refine zv_aload_n F d_Al_init_69 rfl ?_
  refine zn_bipush (x := 60) F d_Al_init_70 (by decide) ?_
  refine zn_newJ F d_Al_init_72 (by decide) (Nat.le_of_ble_eq_true rfl) (Nat.le_of_ble_eq_true rfl) (fun hp72 l72 e72 => ?_)
  have l72_f0 := l72 _ _ f0
  replace f0 := (zv_ne e72 (by omega)).trans f0
  replace fr := fun b hb => (zv_ne (b := b) e72 (by omega)).trans (fr b hb)
  have l72_f1 := l72 _ _ f1
  replace f1 := (zv_ne e72 (by omega)).trans f1
  have l72_f2 := l72 _ _ f2
  replace f2 := (zv_ne e72 (by omega)).trans f2
  have l72_f3 := l72 _ _ f3
  replace f3 := (zv_ne e72 (by omega)).trans f3
  have l72_f4 := l72 _ _ f4
  replace f4 := (zv_ne e72 (by omega)).trans f4
  have l72_f5 := l72 _ _ f5
  replace f5 := (zv_ne e72 (by omega)).trans f5
  have l72_f6 := l72 _ _ f6
  replace f6 := (zv_ne e72 (by omega)).trans f6
  have l72_f7 := l72 _ _ f7
  replace f7 := (zv_ne e72 (by omega)).trans f7
  have l72_f8 := l72 _ _ f8
  replace f8 := (zv_ne e72 (by omega)).trans f8
  have f9 := zv_eq e72
  refine zv_putF F d_Al_init_74 (by assumption) k_Al 9 (Nat.le_of_ble_eq_true rfl) ln_Al_37 rfl rfl rfl rfl rfl (by rfl) (by rfl) (Nat.le_of_ble_eq_true rfl) (fun hp74 e74 => ?_)
  replace f0 := zv_eq e74
  replace fr := fun b hb => (zv_ne (b := b) e74 (by omega)).trans (fr b hb)
  replace f1 := (zv_ne e74 (by omega)).trans f1
  replace f2 := (zv_ne e74 (by omega)).trans f2
  replace f3 := (zv_ne e74 (by omega)).trans f3
  replace f4 := (zv_ne e74 (by omega)).trans f4
  replace f5 := (zv_ne e74 (by omega)).trans f5
  replace f6 := (zv_ne e74 (by omega)).trans f6
  replace f7 := (zv_ne e74 (by omega)).trans f7
  replace f8 := (zv_ne e74 (by omega)).trans f8
  replace f9 := (zv_ne e74 (by omega)).trans f9
  exact zv_vret F d_Al_init_77 (Nat.le_of_ble_eq_true rfl) (Nat.le_of_ble_eq_true rfl) ⟨rfl, rfl, ⟨f0, ⟨_, _, _, _, f1, f2, f3, f4⟩, f5, f6, f7, f8, f9⟩, fr⟩
theorem Ba_init_ok {l : Launch} {Δ : zv_D} {hp : zv_M} {sz : Nat} {a k : Nat} (f0 : hp a = some (.inr (2, [.int (nI 0)]))) : zv_E l Δ 1 y_Ba_init b_Ba_init 2 (none) [.ref a, .int (nI k)] hp sz 0 0 (fun r hp1 sz1 => r = none ∧ sz1 = sz ∧ hp1 a = some (.inr (2, [.int (nI k)])) ∧ ∀ q, q ≠ a → hp1 q = hp q) := by
  refine zv_E.intro (lv0 := [some (.ref a), some (.int (nI k))]) rfl (Nat.le_of_ble_eq_true rfl) rfl ?_
  intro Γ hl F
  clear hl
  have fr : ∀ q, q ≠ a → hp q = hp q := fun q _ => rfl
  refine zv_aload_n F d_Ba_init_0 rfl ?_
  refine zv_obj F rfl d_Ba_init_1 ln_Ba_3 ko_i ko_c ⟨(Nat.le_of_ble_eq_true rfl), (Nat.le_of_ble_eq_true rfl)⟩ ?_
  refine zv_aload_n F d_Ba_init_4 rfl ?_
  refine zv_iload_n F d_Ba_init_5 rfl ?_
  refine zv_putF F d_Ba_init_6 (by assumption) k_Ba 0 (Nat.le_of_ble_eq_true rfl) ln_Ba_9 rfl rfl rfl rfl rfl (by rfl) (by rfl) (Nat.le_of_ble_eq_true rfl) (fun hp6 e6 => ?_)
  replace f0 := zv_eq e6
  replace fr := fun b hb => (zv_ne (b := b) e6 (by omega)).trans (fr b hb)
  exact zv_vret F d_Ba_init_9 (Nat.le_of_ble_eq_true rfl) (Nat.le_of_ble_eq_true rfl) ⟨rfl, rfl, f0, fr⟩
theorem Pa_init_ok {l : Launch} {Δ : zv_D} {hp : zv_M} {sz : Nat} {a a1 a2 : Nat} {b : Bool} (f0 : hp a = some (.inr (3, [.null, .null, .int (nI 0)]))) : zv_E l Δ 1 y_Pa_init b_Pa_init 4 (none) [.ref a, .ref a1, .ref a2, .int (nI b.toNat)] hp sz 0 0 (fun r hp1 sz1 => r = none ∧ sz1 = sz ∧ hp1 a = some (.inr (3, [.ref a1, .ref a2, .int (nI b.toNat)])) ∧ ∀ q, q ≠ a → hp1 q = hp q) := by
  refine zv_E.intro (lv0 := [some (.ref a), some (.ref a1), some (.ref a2), some (.int (nI b.toNat))]) rfl (Nat.le_of_ble_eq_true rfl) rfl ?_
  intro Γ hl F
  clear hl
  have fr : ∀ q, q ≠ a → hp q = hp q := fun q _ => rfl
  refine zv_aload_n F d_Pa_init_0 rfl ?_
  refine zv_obj F rfl d_Pa_init_1 ln_Pa_3 ko_i ko_c ⟨(Nat.le_of_ble_eq_true rfl), (Nat.le_of_ble_eq_true rfl)⟩ ?_
  refine zv_aload_n F d_Pa_init_4 rfl ?_
  refine zv_aload_n F d_Pa_init_5 rfl ?_
  refine zv_putF F d_Pa_init_6 (by assumption) k_Pa 0 (Nat.le_of_ble_eq_true rfl) ln_Pa_9 rfl rfl rfl rfl rfl (by rfl) (by rfl) (Nat.le_of_ble_eq_true rfl) (fun hp6 e6 => ?_)
  replace f0 := zv_eq e6
  replace fr := fun b hb => (zv_ne (b := b) e6 (by omega)).trans (fr b hb)
  refine zv_aload_n F d_Pa_init_9 rfl ?_
  refine zv_aload_n F d_Pa_init_10 rfl ?_
  refine zv_putF F d_Pa_init_11 (by assumption) k_Pa 1 (Nat.le_of_ble_eq_true rfl) ln_Pa_15 rfl rfl rfl rfl rfl (by rfl) (by rfl) (Nat.le_of_ble_eq_true rfl) (fun hp11 e11 => ?_)
  replace f0 := zv_eq e11
  replace fr := fun b hb => (zv_ne (b := b) e11 (by omega)).trans (fr b hb)
  refine zv_aload_n F d_Pa_init_14 rfl ?_
  refine zv_iload_n F d_Pa_init_15 rfl ?_
  refine zv_putF F d_Pa_init_16 (by assumption) k_Pa 2 (Nat.le_of_ble_eq_true rfl) ln_Pa_18 rfl rfl rfl rfl rfl (zn_nb b) (by cases b <;> rfl) (Nat.le_of_ble_eq_true rfl) (fun hp16 e16 => ?_)
  replace f0 := zv_eq e16
  replace fr := fun b hb => (zv_ne (b := b) e16 (by omega)).trans (fr b hb)
  exact zv_vret F d_Pa_init_19 (Nat.le_of_ble_eq_true rfl) (Nat.le_of_ble_eq_true rfl) ⟨rfl, rfl, f0, fr⟩
theorem Ch_init_ok {l : Launch} {Δ : zv_D} {hp : zv_M} {sz : Nat} {a a1 a2 : Nat} (f0 : hp a = some (.inr (4, [.null, .null]))) : zv_E l Δ 1 y_Ch_init b_Ch_init 3 (none) [.ref a, .ref a1, .ref a2] hp sz 0 0 (fun r hp1 sz1 => r = none ∧ sz1 = sz ∧ hp1 a = some (.inr (4, [.ref a1, .ref a2])) ∧ ∀ q, q ≠ a → hp1 q = hp q) := by
  refine zv_E.intro (lv0 := [some (.ref a), some (.ref a1), some (.ref a2)]) rfl (Nat.le_of_ble_eq_true rfl) rfl ?_
  intro Γ hl F
  clear hl
  have fr : ∀ q, q ≠ a → hp q = hp q := fun q _ => rfl
  refine zv_aload_n F d_Ch_init_0 rfl ?_
  refine zv_obj F rfl d_Ch_init_1 ln_Ch_3 ko_i ko_c ⟨(Nat.le_of_ble_eq_true rfl), (Nat.le_of_ble_eq_true rfl)⟩ ?_
  refine zv_aload_n F d_Ch_init_4 rfl ?_
  refine zv_aload_n F d_Ch_init_5 rfl ?_
  refine zv_putF F d_Ch_init_6 (by assumption) k_Ch 0 (Nat.le_of_ble_eq_true rfl) ln_Ch_9 rfl rfl rfl rfl rfl (by rfl) (by rfl) (Nat.le_of_ble_eq_true rfl) (fun hp6 e6 => ?_)
  replace f0 := zv_eq e6
  replace fr := fun b hb => (zv_ne (b := b) e6 (by omega)).trans (fr b hb)
  refine zv_aload_n F d_Ch_init_9 rfl ?_
  refine zv_aload_n F d_Ch_init_10 rfl ?_
  refine zv_putF F d_Ch_init_11 (by assumption) k_Ch 1 (Nat.le_of_ble_eq_true rfl) ln_Ch_15 rfl rfl rfl rfl rfl (by rfl) (by rfl) (Nat.le_of_ble_eq_true rfl) (fun hp11 e11 => ?_)
  replace f0 := zv_eq e11
  replace fr := fun b hb => (zv_ne (b := b) e11 (by omega)).trans (fr b hb)
  exact zv_vret F d_Ch_init_14 (Nat.le_of_ble_eq_true rfl) (Nat.le_of_ble_eq_true rfl) ⟨rfl, rfl, f0, fr⟩
theorem St_init_ok {l : Launch} {Δ : zv_D} {hp : zv_M} {sz : Nat} {a a1 : Nat} (f0 : hp a = some (.inr (5, [.null]))) : zv_E l Δ 1 y_St_init b_St_init 2 (none) [.ref a, .ref a1] hp sz 0 0 (fun r hp1 sz1 => r = none ∧ sz1 = sz ∧ hp1 a = some (.inr (5, [.ref a1])) ∧ ∀ q, q ≠ a → hp1 q = hp q) := by
  refine zv_E.intro (lv0 := [some (.ref a), some (.ref a1)]) rfl (Nat.le_of_ble_eq_true rfl) rfl ?_
  intro Γ hl F
  clear hl
  have fr : ∀ q, q ≠ a → hp q = hp q := fun q _ => rfl
  refine zv_aload_n F d_St_init_0 rfl ?_
  refine zv_obj F rfl d_St_init_1 ln_St_3 ko_i ko_c ⟨(Nat.le_of_ble_eq_true rfl), (Nat.le_of_ble_eq_true rfl)⟩ ?_
  refine zv_aload_n F d_St_init_4 rfl ?_
  refine zv_aload_n F d_St_init_5 rfl ?_
  refine zv_putF F d_St_init_6 (by assumption) k_St 0 (Nat.le_of_ble_eq_true rfl) ln_St_9 rfl rfl rfl rfl rfl (by rfl) (by rfl) (Nat.le_of_ble_eq_true rfl) (fun hp6 e6 => ?_)
  replace f0 := zv_eq e6
  replace fr := fun b hb => (zv_ne (b := b) e6 (by omega)).trans (fr b hb)
  exact zv_vret F d_St_init_9 (Nat.le_of_ble_eq_true rfl) (Nat.le_of_ble_eq_true rfl) ⟨rfl, rfl, f0, fr⟩
theorem In_init_ok {l : Launch} {Δ : zv_D} {hp : zv_M} {sz : Nat} {a a1 : Nat} (f0 : hp a = some (.inr (6, [.null]))) : zv_E l Δ 1 y_In_init b_In_init 2 (none) [.ref a, .ref a1] hp sz 0 0 (fun r hp1 sz1 => r = none ∧ sz1 = sz ∧ hp1 a = some (.inr (6, [.ref a1])) ∧ ∀ q, q ≠ a → hp1 q = hp q) := by
  refine zv_E.intro (lv0 := [some (.ref a), some (.ref a1)]) rfl (Nat.le_of_ble_eq_true rfl) rfl ?_
  intro Γ hl F
  clear hl
  have fr : ∀ q, q ≠ a → hp q = hp q := fun q _ => rfl
  refine zv_aload_n F d_In_init_0 rfl ?_
  refine zv_obj F rfl d_In_init_1 ln_In_1 ko_i ko_c ⟨(Nat.le_of_ble_eq_true rfl), (Nat.le_of_ble_eq_true rfl)⟩ ?_
  refine zv_aload_n F d_In_init_4 rfl ?_
  refine zv_aload_n F d_In_init_5 rfl ?_
  refine zv_putF F d_In_init_6 (by assumption) k_In 0 (Nat.le_of_ble_eq_true rfl) ln_In_7 rfl rfl rfl rfl rfl (by rfl) (by rfl) (Nat.le_of_ble_eq_true rfl) (fun hp6 e6 => ?_)
  replace f0 := zv_eq e6
  replace fr := fun b hb => (zv_ne (b := b) e6 (by omega)).trans (fr b hb)
  exact zv_vret F d_In_init_9 (Nat.le_of_ble_eq_true rfl) (Nat.le_of_ble_eq_true rfl) ⟨rfl, rfl, f0, fr⟩

