def zn_Z (Δ : zv_D) (n : Nat) (g : Nat → Bool) : va_E := .inl (Δ.2.2 2, n, .inl (fun j => nI (g j).toNat))
theorem zn_updZ (g : Nat → Bool) (i : Nat) (v : Bool) : upd (fun j => nI (g j).toNat) i (nI v.toNat) = fun j => nI (va_up g i v j).toNat := by
  funext j
  by_cases h : j = i <;> simp [upd, va_up, h]
theorem zn_narZ (b : Bool) : vp_nar .boolean (nI b.toNat) = nI b.toNat := by
  cases b <;> rfl
section ZBO
variable {Δ : zv_D} {Γ : zv_C} {Q : State → Prop} {own nm : String} {cc : ByteArray} {nL : Nat} {ret : Option FieldType} {R : Room} {pc : Nat} {lv : List (Option Value)} {st : List Value} {hp : zv_M} {sz ce sl n : Nat}
theorem zn_zald (F : zv_F Δ Γ own nm cc nL ret R) {a n i : Nat} {g : Nat → Bool} (hd : decode cc pc = .ok (.baload, 1)) (ha : hp a = some (zn_Z Δ n g)) (hn : n < 2147483648) (hi : i < n) (k : zv_V Δ Γ Q (pc + 1) lv (.int (nI (g i).toNat) :: st) hp sz ce sl) : zv_V Δ Γ Q pc lv (.int (nI i) :: .ref a :: st) hp sz ce sl :=
  zv_zald F (t0 := 2) hd ha rfl (vp_in_nI hi (by omega)) (by rw [nI_clamp (by omega)]; exact k)
theorem zn_zast (F : zv_F Δ Γ own nm cc nL ret R) {a n i : Nat} {b : Bool} {g : Nat → Bool} (hd : decode cc pc = .ok (.bastore, 1)) (ha : hp a = some (zn_Z Δ n g)) (hn : n < 2147483648) (hi : i < n) (k : ∀ hp1 : zv_M, hp1 = va_up hp a (some (zn_Z Δ n (va_up g i b))) → zv_V Δ Γ Q (pc + 1) lv st hp1 sz ce sl) : zv_V Δ Γ Q pc lv (.int (nI b.toNat) :: .int (nI i) :: .ref a :: st) hp sz ce sl :=
  zv_zast F (t0 := 2) hd ha rfl (vp_in_nI hi (by omega)) (fun hp1 e => k hp1 (by rw [e, nI_clamp (by omega), zn_narZ, zn_updZ]; rfl))
theorem zn_newZ (F : zv_F Δ Γ own nm cc nL ret R) (hd : decode cc pc = .ok (.newarray .boolean, 2)) (hn : n < 100000) (hce : ce + 1 ≤ R.cells) (hsl : sl + n ≤ R.slots) (k : ∀ hp1 : zv_M, (∀ (a : Nat) (e : va_E), hp a = some e → a < sz) → hp1 = va_up hp sz (some (zn_Z Δ n (fun _ => false))) → zv_V Δ Γ Q (pc + 2) lv (.ref sz :: st) hp1 (sz + 1) (ce + 1) (sl + n)) : zv_V Δ Γ Q pc lv (.int (nI n) :: st) hp sz ce sl :=
  zv_newa (ty := .boolean) (t0 := 2) (N := n) (a0 := (n, .inl (fun _ => nI 0))) F hd ka_boolean rfl rfl (fun U h => h) (fun cB => rfl) (zn_n0 (by omega)) (nI_clamp (by omega)) (by show n * 1 ≤ _; omega) hce hsl (fun hp1 hl e => k hp1 hl e)
end ZBO
def mo_obj (y c op fi se st el : Nat) : va_E := .inr (9, [.int (nI c), .ref (y + 1), .ref (y + 2), .ref (y + 3), .int (nI op), .int (nI fi), .int (nI se), .ref (y + 4), .ref (y + 5), .ref (y + 6), .ref (y + 7), .ref (y + 8), .int (nI st), .int (nI el), .ref (y + 9), .ref (y + 10), .ref (y + 11), .ref (y + 12), .ref (y + 13)])
def mo_G (gg : Nat → Nat) (i j : Nat) : Nat := gg (12 * i + j)
theorem Mo_init_ok {l : Launch} {Δ : zv_D} {hp : zv_M} {sz : Nat} {a : Nat} (f0 : hp a = some (.inr (9, [.int (nI 0), .null, .null, .null, .int (nI 0), .int (nI 0), .int (nI 0), .null, .null, .null, .null, .null, .int (nI 0), .int (nI 0), .null, .null, .null, .null, .null]))) (ha : sz = a + 1) : zv_E l Δ 1 y_Mo_init b_Mo_init 1 (none) [.ref a] hp sz 13 5932 (fun r hp1 sz1 => r = none ∧ sz1 = a + 14 ∧ (∀ q, q < a → hp1 q = hp q) ∧ hp1 a = some (mo_obj a 0 0 0 0 0 0) ∧ hp1 (a + 1) = some (zn_I Δ 12 (fun _ => 0)) ∧ hp1 (a + 2) = some (zn_I Δ 144 (fun _ => 0)) ∧ hp1 (a + 3) = some (zn_I Δ 12 (fun _ => 0)) ∧ hp1 (a + 4) = some (zn_J Δ 384 (fun _ => 0)) ∧ hp1 (a + 5) = some (zn_J Δ 384 (fun _ => 0)) ∧ hp1 (a + 6) = some (zn_I Δ 7 (fun _ => 0)) ∧ hp1 (a + 7) = some (zn_I Δ 384 (fun _ => 0)) ∧ hp1 (a + 8) = some (zn_Z Δ 384 (fun _ => false)) ∧ hp1 (a + 9) = some (zn_I Δ 60 (fun _ => 0)) ∧ hp1 (a + 10) = some (zn_J Δ 60 (fun _ => 0)) ∧ hp1 (a + 11) = some (zn_I Δ 61 (fun _ => 0)) ∧ hp1 (a + 12) = some (zn_J Δ 61 (fun _ => 0)) ∧ hp1 (a + 13) = some (zn_I Δ 3600 (fun _ => 0))) := by
  refine zv_E.intro (lv0 := [some (.ref a)]) rfl (Nat.le_of_ble_eq_true rfl) rfl ?_
  intro Γ hl F
  clear hl
  have fr : ∀ q, q < a → hp q = hp q := fun q _ => rfl
  subst ha
  refine zv_aload_n F d_Mo_init_0 rfl ?_
  refine zv_obj F rfl d_Mo_init_1 ln_Mo_1 ko_i ko_c ⟨(Nat.le_of_ble_eq_true rfl), (Nat.le_of_ble_eq_true rfl)⟩ ?_
  refine zv_aload_n F d_Mo_init_4 rfl ?_
  refine zn_bipush (x := 12) F d_Mo_init_5 (by decide) ?_
  refine zn_newI F d_Mo_init_7 (by decide) (Nat.le_of_ble_eq_true rfl) (Nat.le_of_ble_eq_true rfl) (fun hp7 l7 e7 => ?_)
  have l7_f0 := l7 _ _ f0
  replace f0 := (zv_ne e7 (by omega)).trans f0
  replace fr := fun b hb => (zv_ne (b := b) e7 (by omega)).trans (fr b hb)
  have f1 := zv_eq e7
  refine zv_putF F d_Mo_init_9 (by assumption) k_Mo 1 (Nat.le_of_ble_eq_true rfl) ln_Mo_7 rfl rfl rfl rfl rfl (by rfl) (by rfl) (Nat.le_of_ble_eq_true rfl) (fun hp9 e9 => ?_)
  replace f0 := zv_eq e9
  replace fr := fun b hb => (zv_ne (b := b) e9 (by omega)).trans (fr b hb)
  replace f1 := (zv_ne e9 (by omega)).trans f1
  refine zv_aload_n F d_Mo_init_12 rfl ?_
  refine zn_sipush (x := 144) F d_Mo_init_13 (by decide) ?_
  refine zn_newI F d_Mo_init_16 (by decide) (Nat.le_of_ble_eq_true rfl) (Nat.le_of_ble_eq_true rfl) (fun hp16 l16 e16 => ?_)
  have l16_f0 := l16 _ _ f0
  replace f0 := (zv_ne e16 (by omega)).trans f0
  replace fr := fun b hb => (zv_ne (b := b) e16 (by omega)).trans (fr b hb)
  have l16_f1 := l16 _ _ f1
  replace f1 := (zv_ne e16 (by omega)).trans f1
  have f2 := zv_eq e16
  refine zv_putF F d_Mo_init_18 (by assumption) k_Mo 2 (Nat.le_of_ble_eq_true rfl) ln_Mo_13 rfl rfl rfl rfl rfl (by rfl) (by rfl) (Nat.le_of_ble_eq_true rfl) (fun hp18 e18 => ?_)
  replace f0 := zv_eq e18
  replace fr := fun b hb => (zv_ne (b := b) e18 (by omega)).trans (fr b hb)
  replace f1 := (zv_ne e18 (by omega)).trans f1
  replace f2 := (zv_ne e18 (by omega)).trans f2
  refine zv_aload_n F d_Mo_init_21 rfl ?_
  refine zn_bipush (x := 12) F d_Mo_init_22 (by decide) ?_
  refine zn_newI F d_Mo_init_24 (by decide) (Nat.le_of_ble_eq_true rfl) (Nat.le_of_ble_eq_true rfl) (fun hp24 l24 e24 => ?_)
  have l24_f0 := l24 _ _ f0
  replace f0 := (zv_ne e24 (by omega)).trans f0
  replace fr := fun b hb => (zv_ne (b := b) e24 (by omega)).trans (fr b hb)
  have l24_f1 := l24 _ _ f1
  replace f1 := (zv_ne e24 (by omega)).trans f1
  have l24_f2 := l24 _ _ f2
  replace f2 := (zv_ne e24 (by omega)).trans f2
  have f3 := zv_eq e24
  refine zv_putF F d_Mo_init_26 (by assumption) k_Mo 3 (Nat.le_of_ble_eq_true rfl) ln_Mo_16 rfl rfl rfl rfl rfl (by rfl) (by rfl) (Nat.le_of_ble_eq_true rfl) (fun hp26 e26 => ?_)
  replace f0 := zv_eq e26
  replace fr := fun b hb => (zv_ne (b := b) e26 (by omega)).trans (fr b hb)
  replace f1 := (zv_ne e26 (by omega)).trans f1
  replace f2 := (zv_ne e26 (by omega)).trans f2
  replace f3 := (zv_ne e26 (by omega)).trans f3
  refine zv_aload_n F d_Mo_init_29 rfl ?_
  refine zn_sipush (x := 384) F d_Mo_init_30 (by decide) ?_
  refine zn_newJ F d_Mo_init_33 (by decide) (Nat.le_of_ble_eq_true rfl) (Nat.le_of_ble_eq_true rfl) (fun hp33 l33 e33 => ?_)
  have l33_f0 := l33 _ _ f0
  replace f0 := (zv_ne e33 (by omega)).trans f0
  replace fr := fun b hb => (zv_ne (b := b) e33 (by omega)).trans (fr b hb)
  have l33_f1 := l33 _ _ f1
  replace f1 := (zv_ne e33 (by omega)).trans f1
  have l33_f2 := l33 _ _ f2
  replace f2 := (zv_ne e33 (by omega)).trans f2
  have l33_f3 := l33 _ _ f3
  replace f3 := (zv_ne e33 (by omega)).trans f3
  have f4 := zv_eq e33
  refine zv_putF F d_Mo_init_35 (by assumption) k_Mo 7 (Nat.le_of_ble_eq_true rfl) ln_Mo_19 rfl rfl rfl rfl rfl (by rfl) (by rfl) (Nat.le_of_ble_eq_true rfl) (fun hp35 e35 => ?_)
  replace f0 := zv_eq e35
  replace fr := fun b hb => (zv_ne (b := b) e35 (by omega)).trans (fr b hb)
  replace f1 := (zv_ne e35 (by omega)).trans f1
  replace f2 := (zv_ne e35 (by omega)).trans f2
  replace f3 := (zv_ne e35 (by omega)).trans f3
  replace f4 := (zv_ne e35 (by omega)).trans f4
  refine zv_aload_n F d_Mo_init_38 rfl ?_
  refine zn_sipush (x := 384) F d_Mo_init_39 (by decide) ?_
  refine zn_newJ F d_Mo_init_42 (by decide) (Nat.le_of_ble_eq_true rfl) (Nat.le_of_ble_eq_true rfl) (fun hp42 l42 e42 => ?_)
  have l42_f0 := l42 _ _ f0
  replace f0 := (zv_ne e42 (by omega)).trans f0
  replace fr := fun b hb => (zv_ne (b := b) e42 (by omega)).trans (fr b hb)
  have l42_f1 := l42 _ _ f1
  replace f1 := (zv_ne e42 (by omega)).trans f1
  have l42_f2 := l42 _ _ f2
  replace f2 := (zv_ne e42 (by omega)).trans f2
  have l42_f3 := l42 _ _ f3
  replace f3 := (zv_ne e42 (by omega)).trans f3
  have l42_f4 := l42 _ _ f4
  replace f4 := (zv_ne e42 (by omega)).trans f4
  have f5 := zv_eq e42
  refine zv_putF F d_Mo_init_44 (by assumption) k_Mo 8 (Nat.le_of_ble_eq_true rfl) ln_Mo_23 rfl rfl rfl rfl rfl (by rfl) (by rfl) (Nat.le_of_ble_eq_true rfl) (fun hp44 e44 => ?_)
  replace f0 := zv_eq e44
  replace fr := fun b hb => (zv_ne (b := b) e44 (by omega)).trans (fr b hb)
  replace f1 := (zv_ne e44 (by omega)).trans f1
  replace f2 := (zv_ne e44 (by omega)).trans f2
  replace f3 := (zv_ne e44 (by omega)).trans f3
  replace f4 := (zv_ne e44 (by omega)).trans f4
  replace f5 := (zv_ne e44 (by omega)).trans f5
  refine zv_aload_n F d_Mo_init_47 rfl ?_
  refine zn_bipush (x := 7) F d_Mo_init_48 (by decide) ?_
  refine zn_newI F d_Mo_init_50 (by decide) (Nat.le_of_ble_eq_true rfl) (Nat.le_of_ble_eq_true rfl) (fun hp50 l50 e50 => ?_)
  have l50_f0 := l50 _ _ f0
  replace f0 := (zv_ne e50 (by omega)).trans f0
  replace fr := fun b hb => (zv_ne (b := b) e50 (by omega)).trans (fr b hb)
  have l50_f1 := l50 _ _ f1
  replace f1 := (zv_ne e50 (by omega)).trans f1
  have l50_f2 := l50 _ _ f2
  replace f2 := (zv_ne e50 (by omega)).trans f2
  have l50_f3 := l50 _ _ f3
  replace f3 := (zv_ne e50 (by omega)).trans f3
  have l50_f4 := l50 _ _ f4
  replace f4 := (zv_ne e50 (by omega)).trans f4
  have l50_f5 := l50 _ _ f5
  replace f5 := (zv_ne e50 (by omega)).trans f5
  have f6 := zv_eq e50
  refine zv_putF F d_Mo_init_52 (by assumption) k_Mo 9 (Nat.le_of_ble_eq_true rfl) ln_Mo_26 rfl rfl rfl rfl rfl (by rfl) (by rfl) (Nat.le_of_ble_eq_true rfl) (fun hp52 e52 => ?_)
  replace f0 := zv_eq e52
  replace fr := fun b hb => (zv_ne (b := b) e52 (by omega)).trans (fr b hb)
  replace f1 := (zv_ne e52 (by omega)).trans f1
  replace f2 := (zv_ne e52 (by omega)).trans f2
  replace f3 := (zv_ne e52 (by omega)).trans f3
  replace f4 := (zv_ne e52 (by omega)).trans f4
  replace f5 := (zv_ne e52 (by omega)).trans f5
  replace f6 := (zv_ne e52 (by omega)).trans f6
  refine zv_aload_n F d_Mo_init_55 rfl ?_
  refine zn_sipush (x := 384) F d_Mo_init_56 (by decide) ?_
  refine zn_newI F d_Mo_init_59 (by decide) (Nat.le_of_ble_eq_true rfl) (Nat.le_of_ble_eq_true rfl) (fun hp59 l59 e59 => ?_)
  have l59_f0 := l59 _ _ f0
  replace f0 := (zv_ne e59 (by omega)).trans f0
  replace fr := fun b hb => (zv_ne (b := b) e59 (by omega)).trans (fr b hb)
  have l59_f1 := l59 _ _ f1
  replace f1 := (zv_ne e59 (by omega)).trans f1
  have l59_f2 := l59 _ _ f2
  replace f2 := (zv_ne e59 (by omega)).trans f2
  have l59_f3 := l59 _ _ f3
  replace f3 := (zv_ne e59 (by omega)).trans f3
  have l59_f4 := l59 _ _ f4
  replace f4 := (zv_ne e59 (by omega)).trans f4
  have l59_f5 := l59 _ _ f5
  replace f5 := (zv_ne e59 (by omega)).trans f5
  have l59_f6 := l59 _ _ f6
  replace f6 := (zv_ne e59 (by omega)).trans f6
  have f7 := zv_eq e59
  refine zv_putF F d_Mo_init_61 (by assumption) k_Mo 10 (Nat.le_of_ble_eq_true rfl) ln_Mo_29 rfl rfl rfl rfl rfl (by rfl) (by rfl) (Nat.le_of_ble_eq_true rfl) (fun hp61 e61 => ?_)
  replace f0 := zv_eq e61
  replace fr := fun b hb => (zv_ne (b := b) e61 (by omega)).trans (fr b hb)
  replace f1 := (zv_ne e61 (by omega)).trans f1
  replace f2 := (zv_ne e61 (by omega)).trans f2
  replace f3 := (zv_ne e61 (by omega)).trans f3
  replace f4 := (zv_ne e61 (by omega)).trans f4
  replace f5 := (zv_ne e61 (by omega)).trans f5
  replace f6 := (zv_ne e61 (by omega)).trans f6
  replace f7 := (zv_ne e61 (by omega)).trans f7
  refine zv_aload_n F d_Mo_init_64 rfl ?_
  refine zn_sipush (x := 384) F d_Mo_init_65 (by decide) ?_
  refine zn_newZ F d_Mo_init_68 (by decide) (Nat.le_of_ble_eq_true rfl) (Nat.le_of_ble_eq_true rfl) (fun hp68 l68 e68 => ?_)
  have l68_f0 := l68 _ _ f0
  replace f0 := (zv_ne e68 (by omega)).trans f0
  replace fr := fun b hb => (zv_ne (b := b) e68 (by omega)).trans (fr b hb)
  have l68_f1 := l68 _ _ f1
  replace f1 := (zv_ne e68 (by omega)).trans f1
  have l68_f2 := l68 _ _ f2
  replace f2 := (zv_ne e68 (by omega)).trans f2
  have l68_f3 := l68 _ _ f3
  replace f3 := (zv_ne e68 (by omega)).trans f3
  have l68_f4 := l68 _ _ f4
  replace f4 := (zv_ne e68 (by omega)).trans f4
  have l68_f5 := l68 _ _ f5
  replace f5 := (zv_ne e68 (by omega)).trans f5
  have l68_f6 := l68 _ _ f6
  replace f6 := (zv_ne e68 (by omega)).trans f6
  have l68_f7 := l68 _ _ f7
  replace f7 := (zv_ne e68 (by omega)).trans f7
  have f8 := zv_eq e68
  refine zv_putF F d_Mo_init_70 (by assumption) k_Mo 11 (Nat.le_of_ble_eq_true rfl) ln_Mo_32 rfl rfl rfl rfl rfl (by rfl) (by rfl) (Nat.le_of_ble_eq_true rfl) (fun hp70 e70 => ?_)
  replace f0 := zv_eq e70
  replace fr := fun b hb => (zv_ne (b := b) e70 (by omega)).trans (fr b hb)
  replace f1 := (zv_ne e70 (by omega)).trans f1
  replace f2 := (zv_ne e70 (by omega)).trans f2
  replace f3 := (zv_ne e70 (by omega)).trans f3
  replace f4 := (zv_ne e70 (by omega)).trans f4
  replace f5 := (zv_ne e70 (by omega)).trans f5
  replace f6 := (zv_ne e70 (by omega)).trans f6
  replace f7 := (zv_ne e70 (by omega)).trans f7
  replace f8 := (zv_ne e70 (by omega)).trans f8
  refine zv_aload_n F d_Mo_init_73 rfl ?_
  refine zn_bipush (x := 60) F d_Mo_init_74 (by decide) ?_
  refine zn_newI F d_Mo_init_76 (by decide) (Nat.le_of_ble_eq_true rfl) (Nat.le_of_ble_eq_true rfl) (fun hp76 l76 e76 => ?_)
  have l76_f0 := l76 _ _ f0
  replace f0 := (zv_ne e76 (by omega)).trans f0
  replace fr := fun b hb => (zv_ne (b := b) e76 (by omega)).trans (fr b hb)
  have l76_f1 := l76 _ _ f1
  replace f1 := (zv_ne e76 (by omega)).trans f1
  have l76_f2 := l76 _ _ f2
  replace f2 := (zv_ne e76 (by omega)).trans f2
  have l76_f3 := l76 _ _ f3
  replace f3 := (zv_ne e76 (by omega)).trans f3
  have l76_f4 := l76 _ _ f4
  replace f4 := (zv_ne e76 (by omega)).trans f4
  have l76_f5 := l76 _ _ f5
  replace f5 := (zv_ne e76 (by omega)).trans f5
  have l76_f6 := l76 _ _ f6
  replace f6 := (zv_ne e76 (by omega)).trans f6
  have l76_f7 := l76 _ _ f7
  replace f7 := (zv_ne e76 (by omega)).trans f7
  have l76_f8 := l76 _ _ f8
  replace f8 := (zv_ne e76 (by omega)).trans f8
  have f9 := zv_eq e76
  refine zv_putF F d_Mo_init_78 (by assumption) k_Mo 14 (Nat.le_of_ble_eq_true rfl) ln_Mo_36 rfl rfl rfl rfl rfl (by rfl) (by rfl) (Nat.le_of_ble_eq_true rfl) (fun hp78 e78 => ?_)
  replace f0 := zv_eq e78
  replace fr := fun b hb => (zv_ne (b := b) e78 (by omega)).trans (fr b hb)
  replace f1 := (zv_ne e78 (by omega)).trans f1
  replace f2 := (zv_ne e78 (by omega)).trans f2
  replace f3 := (zv_ne e78 (by omega)).trans f3
  replace f4 := (zv_ne e78 (by omega)).trans f4
  replace f5 := (zv_ne e78 (by omega)).trans f5
  replace f6 := (zv_ne e78 (by omega)).trans f6
  replace f7 := (zv_ne e78 (by omega)).trans f7
  replace f8 := (zv_ne e78 (by omega)).trans f8
  replace f9 := (zv_ne e78 (by omega)).trans f9
  refine zv_aload_n F d_Mo_init_81 rfl ?_
  refine zn_bipush (x := 60) F d_Mo_init_82 (by decide) ?_
  refine zn_newJ F d_Mo_init_84 (by decide) (Nat.le_of_ble_eq_true rfl) (Nat.le_of_ble_eq_true rfl) (fun hp84 l84 e84 => ?_)
  have l84_f0 := l84 _ _ f0
  replace f0 := (zv_ne e84 (by omega)).trans f0
  replace fr := fun b hb => (zv_ne (b := b) e84 (by omega)).trans (fr b hb)
  have l84_f1 := l84 _ _ f1
  replace f1 := (zv_ne e84 (by omega)).trans f1
  have l84_f2 := l84 _ _ f2
  replace f2 := (zv_ne e84 (by omega)).trans f2
  have l84_f3 := l84 _ _ f3
  replace f3 := (zv_ne e84 (by omega)).trans f3
  have l84_f4 := l84 _ _ f4
  replace f4 := (zv_ne e84 (by omega)).trans f4
  have l84_f5 := l84 _ _ f5
  replace f5 := (zv_ne e84 (by omega)).trans f5
  have l84_f6 := l84 _ _ f6
  replace f6 := (zv_ne e84 (by omega)).trans f6
  have l84_f7 := l84 _ _ f7
  replace f7 := (zv_ne e84 (by omega)).trans f7
  have l84_f8 := l84 _ _ f8
  replace f8 := (zv_ne e84 (by omega)).trans f8
  have l84_f9 := l84 _ _ f9
  replace f9 := (zv_ne e84 (by omega)).trans f9
  have fa := zv_eq e84
  refine zv_putF F d_Mo_init_86 (by assumption) k_Mo 15 (Nat.le_of_ble_eq_true rfl) ln_Mo_39 rfl rfl rfl rfl rfl (by rfl) (by rfl) (Nat.le_of_ble_eq_true rfl) (fun hp86 e86 => ?_)
  replace f0 := zv_eq e86
  replace fr := fun b hb => (zv_ne (b := b) e86 (by omega)).trans (fr b hb)
  replace f1 := (zv_ne e86 (by omega)).trans f1
  replace f2 := (zv_ne e86 (by omega)).trans f2
  replace f3 := (zv_ne e86 (by omega)).trans f3
  replace f4 := (zv_ne e86 (by omega)).trans f4
  replace f5 := (zv_ne e86 (by omega)).trans f5
  replace f6 := (zv_ne e86 (by omega)).trans f6
  replace f7 := (zv_ne e86 (by omega)).trans f7
  replace f8 := (zv_ne e86 (by omega)).trans f8
  replace f9 := (zv_ne e86 (by omega)).trans f9
  replace fa := (zv_ne e86 (by omega)).trans fa
  refine zv_aload_n F d_Mo_init_89 rfl ?_
  refine zn_bipush (x := 61) F d_Mo_init_90 (by decide) ?_
  refine zn_newI F d_Mo_init_92 (by decide) (Nat.le_of_ble_eq_true rfl) (Nat.le_of_ble_eq_true rfl) (fun hp92 l92 e92 => ?_)
  have l92_f0 := l92 _ _ f0
  replace f0 := (zv_ne e92 (by omega)).trans f0
  replace fr := fun b hb => (zv_ne (b := b) e92 (by omega)).trans (fr b hb)
  have l92_f1 := l92 _ _ f1
  replace f1 := (zv_ne e92 (by omega)).trans f1
  have l92_f2 := l92 _ _ f2
  replace f2 := (zv_ne e92 (by omega)).trans f2
  have l92_f3 := l92 _ _ f3
  replace f3 := (zv_ne e92 (by omega)).trans f3
  have l92_f4 := l92 _ _ f4
  replace f4 := (zv_ne e92 (by omega)).trans f4
  have l92_f5 := l92 _ _ f5
  replace f5 := (zv_ne e92 (by omega)).trans f5
  have l92_f6 := l92 _ _ f6
  replace f6 := (zv_ne e92 (by omega)).trans f6
  have l92_f7 := l92 _ _ f7
  replace f7 := (zv_ne e92 (by omega)).trans f7
  have l92_f8 := l92 _ _ f8
  replace f8 := (zv_ne e92 (by omega)).trans f8
  have l92_f9 := l92 _ _ f9
  replace f9 := (zv_ne e92 (by omega)).trans f9
  have l92_fa := l92 _ _ fa
  replace fa := (zv_ne e92 (by omega)).trans fa
  have fb := zv_eq e92
  refine zv_putF F d_Mo_init_94 (by assumption) k_Mo 16 (Nat.le_of_ble_eq_true rfl) ln_Mo_42 rfl rfl rfl rfl rfl (by rfl) (by rfl) (Nat.le_of_ble_eq_true rfl) (fun hp94 e94 => ?_)
  replace f0 := zv_eq e94
  replace fr := fun b hb => (zv_ne (b := b) e94 (by omega)).trans (fr b hb)
  replace f1 := (zv_ne e94 (by omega)).trans f1
  replace f2 := (zv_ne e94 (by omega)).trans f2
  replace f3 := (zv_ne e94 (by omega)).trans f3
  replace f4 := (zv_ne e94 (by omega)).trans f4
  replace f5 := (zv_ne e94 (by omega)).trans f5
  replace f6 := (zv_ne e94 (by omega)).trans f6
  replace f7 := (zv_ne e94 (by omega)).trans f7
  replace f8 := (zv_ne e94 (by omega)).trans f8
  replace f9 := (zv_ne e94 (by omega)).trans f9
  replace fa := (zv_ne e94 (by omega)).trans fa
  replace fb := (zv_ne e94 (by omega)).trans fb
  refine zv_aload_n F d_Mo_init_97 rfl ?_
  refine zn_bipush (x := 61) F d_Mo_init_98 (by decide) ?_
  refine zn_newJ F d_Mo_init_100 (by decide) (Nat.le_of_ble_eq_true rfl) (Nat.le_of_ble_eq_true rfl) (fun hp100 l100 e100 => ?_)
  have l100_f0 := l100 _ _ f0
  replace f0 := (zv_ne e100 (by omega)).trans f0
  replace fr := fun b hb => (zv_ne (b := b) e100 (by omega)).trans (fr b hb)
  have l100_f1 := l100 _ _ f1
  replace f1 := (zv_ne e100 (by omega)).trans f1
  have l100_f2 := l100 _ _ f2
  replace f2 := (zv_ne e100 (by omega)).trans f2
  have l100_f3 := l100 _ _ f3
  replace f3 := (zv_ne e100 (by omega)).trans f3
  have l100_f4 := l100 _ _ f4
  replace f4 := (zv_ne e100 (by omega)).trans f4
  have l100_f5 := l100 _ _ f5
  replace f5 := (zv_ne e100 (by omega)).trans f5
  have l100_f6 := l100 _ _ f6
  replace f6 := (zv_ne e100 (by omega)).trans f6
  have l100_f7 := l100 _ _ f7
  replace f7 := (zv_ne e100 (by omega)).trans f7
  have l100_f8 := l100 _ _ f8
  replace f8 := (zv_ne e100 (by omega)).trans f8
  have l100_f9 := l100 _ _ f9
  replace f9 := (zv_ne e100 (by omega)).trans f9
  have l100_fa := l100 _ _ fa
  replace fa := (zv_ne e100 (by omega)).trans fa
  have l100_fb := l100 _ _ fb
  replace fb := (zv_ne e100 (by omega)).trans fb
  have fc := zv_eq e100
  refine zv_putF F d_Mo_init_102 (by assumption) k_Mo 17 (Nat.le_of_ble_eq_true rfl) ln_Mo_45 rfl rfl rfl rfl rfl (by rfl) (by rfl) (Nat.le_of_ble_eq_true rfl) (fun hp102 e102 => ?_)
  replace f0 := zv_eq e102
  replace fr := fun b hb => (zv_ne (b := b) e102 (by omega)).trans (fr b hb)
  replace f1 := (zv_ne e102 (by omega)).trans f1
  replace f2 := (zv_ne e102 (by omega)).trans f2
  replace f3 := (zv_ne e102 (by omega)).trans f3
  replace f4 := (zv_ne e102 (by omega)).trans f4
  replace f5 := (zv_ne e102 (by omega)).trans f5
  replace f6 := (zv_ne e102 (by omega)).trans f6
  replace f7 := (zv_ne e102 (by omega)).trans f7
  replace f8 := (zv_ne e102 (by omega)).trans f8
  replace f9 := (zv_ne e102 (by omega)).trans f9
  replace fa := (zv_ne e102 (by omega)).trans fa
  replace fb := (zv_ne e102 (by omega)).trans fb
  replace fc := (zv_ne e102 (by omega)).trans fc
  refine zv_aload_n F d_Mo_init_105 rfl ?_
  refine zn_sipush (x := 3600) F d_Mo_init_106 (by decide) ?_
  refine zn_newI F d_Mo_init_109 (by decide) (Nat.le_of_ble_eq_true rfl) (Nat.le_of_ble_eq_true rfl) (fun hp109 l109 e109 => ?_)
  have l109_f0 := l109 _ _ f0
  replace f0 := (zv_ne e109 (by omega)).trans f0
  replace fr := fun b hb => (zv_ne (b := b) e109 (by omega)).trans (fr b hb)
  have l109_f1 := l109 _ _ f1
  replace f1 := (zv_ne e109 (by omega)).trans f1
  have l109_f2 := l109 _ _ f2
  replace f2 := (zv_ne e109 (by omega)).trans f2
  have l109_f3 := l109 _ _ f3
  replace f3 := (zv_ne e109 (by omega)).trans f3
  have l109_f4 := l109 _ _ f4
  replace f4 := (zv_ne e109 (by omega)).trans f4
  have l109_f5 := l109 _ _ f5
  replace f5 := (zv_ne e109 (by omega)).trans f5
  have l109_f6 := l109 _ _ f6
  replace f6 := (zv_ne e109 (by omega)).trans f6
  have l109_f7 := l109 _ _ f7
  replace f7 := (zv_ne e109 (by omega)).trans f7
  have l109_f8 := l109 _ _ f8
  replace f8 := (zv_ne e109 (by omega)).trans f8
  have l109_f9 := l109 _ _ f9
  replace f9 := (zv_ne e109 (by omega)).trans f9
  have l109_fa := l109 _ _ fa
  replace fa := (zv_ne e109 (by omega)).trans fa
  have l109_fb := l109 _ _ fb
  replace fb := (zv_ne e109 (by omega)).trans fb
  have l109_fc := l109 _ _ fc
  replace fc := (zv_ne e109 (by omega)).trans fc
  have fd := zv_eq e109
  refine zv_putF F d_Mo_init_111 (by assumption) k_Mo 18 (Nat.le_of_ble_eq_true rfl) ln_Mo_48 rfl rfl rfl rfl rfl (by rfl) (by rfl) (Nat.le_of_ble_eq_true rfl) (fun hp111 e111 => ?_)
  replace f0 := zv_eq e111
  replace fr := fun b hb => (zv_ne (b := b) e111 (by omega)).trans (fr b hb)
  replace f1 := (zv_ne e111 (by omega)).trans f1
  replace f2 := (zv_ne e111 (by omega)).trans f2
  replace f3 := (zv_ne e111 (by omega)).trans f3
  replace f4 := (zv_ne e111 (by omega)).trans f4
  replace f5 := (zv_ne e111 (by omega)).trans f5
  replace f6 := (zv_ne e111 (by omega)).trans f6
  replace f7 := (zv_ne e111 (by omega)).trans f7
  replace f8 := (zv_ne e111 (by omega)).trans f8
  replace f9 := (zv_ne e111 (by omega)).trans f9
  replace fa := (zv_ne e111 (by omega)).trans fa
  replace fb := (zv_ne e111 (by omega)).trans fb
  replace fc := (zv_ne e111 (by omega)).trans fc
  replace fd := (zv_ne e111 (by omega)).trans fd
  exact zv_vret F d_Mo_init_114 (Nat.le_of_ble_eq_true rfl) (Nat.le_of_ble_eq_true rfl) ⟨rfl, rfl, fr, f0, f1, f2, f3, f4, f5, f6, f7, f8, f9, fa, fb, fc, fd⟩
theorem Mo_isIn_ok {l : Launch} {Δ : zv_D} {hp : zv_M} {sz : Nat} {y c op fi se st el i : Nat} (f0 : hp y = some (mo_obj y c op fi se st el)) (hc : c ≤ 12) (hi : i < 4294967296) : zv_P l Δ 0 y_Mo_isIn b_Mo_isIn 2 ((some (FieldType.boolean))) [.ref y, .int (nI i)] hp sz (.int (nI (decide (i < c)).toNat)) := by
  refine zv_E.intro (lv0 := [some (.ref y), some (.int (nI i))]) rfl (Nat.le_of_ble_eq_true rfl) rfl ?_
  intro Γ hl F
  clear hl
  refine zv_iload_n F d_Mo_isIn_0 rfl ?_
  refine zn_if_lt (tgt := 16) F d_Mo_isIn_1 rfl (by omega) (fun h1 => ?_) (fun h1 => ?_)
  · refine zn_iconst (x := 0) F d_Mo_isIn_16 (by decide) ?_
    exact zv_zret F d_Mo_isIn_17 (Nat.le_of_ble_eq_true rfl) (Nat.le_of_ble_eq_true rfl) (by first | rfl | exact zn_nb _) (by first | exact ⟨zn_bt (decide_eq_true (by omega)), rfl, rfl⟩ | exact ⟨zn_bf (decide_eq_false (by omega)), rfl, rfl⟩)
  · refine zv_iload_n F d_Mo_isIn_4 rfl ?_
    refine zv_aload_n F d_Mo_isIn_5 rfl ?_
    refine zv_get F d_Mo_isIn_6 (by assumption) k_Mo 0 (Nat.le_of_ble_eq_true rfl) ln_Mo_51 rfl (by rfl) ?_
    refine zn_icmp_ge (tgt := 16) F d_Mo_isIn_9 rfl (by omega) (by omega) (fun h9 => ?_) (fun h9 => ?_)
    · refine zn_iconst (x := 0) F d_Mo_isIn_16 (by decide) ?_
      exact zv_zret F d_Mo_isIn_17 (Nat.le_of_ble_eq_true rfl) (Nat.le_of_ble_eq_true rfl) (by first | rfl | exact zn_nb _) (by first | exact ⟨zn_bt (decide_eq_true (by omega)), rfl, rfl⟩ | exact ⟨zn_bf (decide_eq_false (by omega)), rfl, rfl⟩)
    · refine zn_iconst (x := 1) F d_Mo_isIn_12 (by decide) ?_
      refine zv_goto (tgt := 17) F d_Mo_isIn_13 rfl ?_
      exact zv_zret F d_Mo_isIn_17 (Nat.le_of_ble_eq_true rfl) (Nat.le_of_ble_eq_true rfl) (by first | rfl | exact zn_nb _) (by first | exact ⟨zn_bt (decide_eq_true (by omega)), rfl, rfl⟩ | exact ⟨zn_bf (decide_eq_false (by omega)), rfl, rfl⟩)
theorem Mo_step_ok {l : Launch} {Δ : zv_D} {hp : zv_M} {sz : Nat} {y c op fi se st el i q b : Nat} {gg : Nat → Nat} (f0 : hp y = some (mo_obj y c op fi se st el)) (f2 : hp (y + 2) = some (zn_I Δ 144 gg)) (hi : 12 * i + 2 * q + b < 144) : zv_P l Δ 0 y_Mo_step b_Mo_step 4 ((some (FieldType.int))) [.ref y, .int (nI i), .int (nI q), .int (nI b)] hp sz (.int (nI (mo_G gg i (2 * q + b)))) := by
  refine zv_E.intro (lv0 := [some (.ref y), some (.int (nI i)), some (.int (nI q)), some (.int (nI b))]) rfl (Nat.le_of_ble_eq_true rfl) rfl ?_
  intro Γ hl F
  clear hl
  refine zv_aload_n F d_Mo_step_0 rfl ?_
  refine zv_get F d_Mo_step_1 (by assumption) k_Mo 2 (Nat.le_of_ble_eq_true rfl) ln_Mo_13 rfl (by rfl) ?_
  refine zn_bipush (x := 12) F d_Mo_step_4 (by decide) ?_
  refine zv_iload_n F d_Mo_step_6 rfl ?_
  refine zn_imul F d_Mo_step_7 ?_
  refine zn_iconst (x := 2) F d_Mo_step_8 (by decide) ?_
  refine zv_iload_n F d_Mo_step_9 rfl ?_
  refine zn_imul F d_Mo_step_10 ?_
  refine zn_iadd F d_Mo_step_11 ?_
  refine zv_iload_n F d_Mo_step_12 rfl ?_
  refine zn_iadd F d_Mo_step_13 ?_
  refine zn_iald F d_Mo_step_14 (by assumption) (by omega) (by omega) ?_
  exact zv_iret F d_Mo_step_15 (Nat.le_of_ble_eq_true rfl) (Nat.le_of_ble_eq_true rfl) ⟨zn_rt (by unfold mo_G; rw [Nat.add_assoc]), rfl, rfl⟩
theorem Mo_isGood_ok {l : Launch} {Δ : zv_D} {hp : zv_M} {sz : Nat} {y c op fi se st el i q : Nat} {gd : Nat → Nat} (f0 : hp y = some (mo_obj y c op fi se st el)) (f3 : hp (y + 3) = some (zn_I Δ 12 gd)) (hi : i < 12) (hg : gd i < 64) (hq : q < 32) : zv_P l Δ 0 y_Mo_isGood b_Mo_isGood 3 ((some (FieldType.boolean))) [.ref y, .int (nI i), .int (nI q)] hp sz (.int (nI (pm_tb (gd i) q).toNat)) := by
  refine zv_E.intro (lv0 := [some (.ref y), some (.int (nI i)), some (.int (nI q))]) rfl (Nat.le_of_ble_eq_true rfl) rfl ?_
  intro Γ hl F
  clear hl
  unfold pm_tb
  refine zv_aload_n F d_Mo_isGood_0 rfl ?_
  refine zv_get F d_Mo_isGood_1 (by assumption) k_Mo 3 (Nat.le_of_ble_eq_true rfl) ln_Mo_16 rfl (by rfl) ?_
  refine zv_iload_n F d_Mo_isGood_4 rfl ?_
  refine zn_iald F d_Mo_isGood_5 (by assumption) (by omega) (by omega) ?_
  refine zv_iload_n F d_Mo_isGood_6 rfl ?_
  refine zn_ishr F d_Mo_isGood_7 (by omega) (by omega) ?_
  refine zn_iconst (x := 1) F d_Mo_isGood_8 (by decide) ?_
  refine zn_iand F d_Mo_isGood_9 ?_
  rw [Nat.and_one_is_mod]
  refine zn_iconst (x := 1) F d_Mo_isGood_10 (by decide) ?_
  refine zn_icmp_ne (tgt := 18) F d_Mo_isGood_11 rfl (by omega) (by omega) (fun h11 => ?_) (fun h11 => ?_)
  · refine zn_iconst (x := 0) F d_Mo_isGood_18 (by decide) ?_
    exact zv_zret F d_Mo_isGood_19 (Nat.le_of_ble_eq_true rfl) (Nat.le_of_ble_eq_true rfl) (by first | rfl | exact zn_nb _) (by first | exact ⟨zn_bt (decide_eq_true (by omega)), rfl, rfl⟩ | exact ⟨zn_bf (decide_eq_false (by omega)), rfl, rfl⟩)
  · refine zn_iconst (x := 1) F d_Mo_isGood_14 (by decide) ?_
    refine zv_goto (tgt := 19) F d_Mo_isGood_15 rfl ?_
    exact zv_zret F d_Mo_isGood_19 (Nat.le_of_ble_eq_true rfl) (Nat.le_of_ble_eq_true rfl) (by first | rfl | exact zn_nb _) (by first | exact ⟨zn_bt (decide_eq_true (by omega)), rfl, rfl⟩ | exact ⟨zn_bf (decide_eq_false (by omega)), rfl, rfl⟩)
theorem Mo_image_ok {l : Launch} {Δ : zv_D} {hp : zv_M} {sz : Nat} {y c op fi se st el i set b : Nat} {gg : Nat → Nat} (f0 : hp y = some (mo_obj y c op fi se st el)) (f2 : hp (y + 2) = some (zn_I Δ 144 gg)) (hgg : ∀ j, j < 144 → gg j < 6) (hi : i < 12) (hs : set < 128) (hb : b < 2) : zv_P l Δ 1 y_Mo_image b_Mo_image 6 ((some (FieldType.int))) [.ref y, .int (nI i), .int (nI set), .int (nI b)] hp sz (.int (nI (au_ss (mo_G gg i) set b 6))) := by
  refine zv_E.intro (lv0 := [some (.ref y), some (.int (nI i)), some (.int (nI set)), some (.int (nI b)), none, none]) rfl (Nat.le_of_ble_eq_true rfl) rfl ?_
  intro Γ hl F
  clear hl
  have loop : ∀ (m q : Nat), m = 6 - q → q ≤ 6 → zv_V Δ Γ (zv_QQ Δ Γ 0 0 (fun r hp1 sz1 => r = some (.int (nI (au_ss (mo_G gg i) set b 6))) ∧ hp1 = hp ∧ sz1 = sz)) 6 [some (.ref y), some (.int (nI i)), some (.int (nI set)), some (.int (nI b)), some (.int (nI (au_ss (mo_G gg i) set b q))), some (.int (nI q))] [] hp sz 0 0 := by
    intro m
    induction m using Nat.strongRecOn with
    | ind m ih =>
      intro q hm hq
      refine zv_iload F d_Mo_image_6 rfl ?_
      refine zn_bipush (x := 6) F d_Mo_image_8 (by decide) ?_
      refine zn_icmp_ge (tgt := 49) F d_Mo_image_10 rfl (by omega) (by omega) (fun h10 => ?_) (fun h10 => ?_)
      · refine zv_iload F d_Mo_image_49 rfl ?_
        exact zv_iret F d_Mo_image_51 (Nat.le_of_ble_eq_true rfl) (Nat.le_of_ble_eq_true rfl) ⟨zn_rt (by rw [show q = 6 by omega]), rfl, rfl⟩
      · refine zv_iload_n F d_Mo_image_13 rfl ?_
        refine zv_iload F d_Mo_image_14 rfl ?_
        refine zn_ishr F d_Mo_image_16 (by omega) (by omega) ?_
        refine zn_iconst (x := 1) F d_Mo_image_17 (by decide) ?_
        refine zn_iand F d_Mo_image_18 ?_
        rw [Nat.and_one_is_mod]
        refine zn_iconst (x := 1) F d_Mo_image_19 (by decide) ?_
        refine zn_icmp_ne (tgt := 39) F d_Mo_image_20 rfl (by omega) (by omega) (fun h20 => ?_) (fun h20 => ?_)
        · have es : au_ss (mo_G gg i) set b (q + 1) = au_ss (mo_G gg i) set b q := by rw [au_ss, if_neg h20]
          refine zv_iload F d_Mo_image_39 rfl ?_
          refine zv_istore F d_Mo_image_41 (Nat.le_of_ble_eq_true rfl) ?_
          simp only [zv_s1, zv_s2, zv_kill, List.set_cons_zero, List.set_cons_succ, List.getElem?_cons_zero, List.getElem?_cons_succ]
          refine zn_iinc F d_Mo_image_43 rfl ?_
          simp only [zv_s1, zv_s2, zv_kill, List.set_cons_zero, List.set_cons_succ, List.getElem?_cons_zero, List.getElem?_cons_succ]
          refine zv_goto (tgt := 6) F d_Mo_image_46 rfl ?_
          have z := ih (6 - (q + 1)) (by omega) (q + 1) rfl (by omega)
          rw [es] at z
          exact z
        · have es : au_ss (mo_G gg i) set b (q + 1) = au_ss (mo_G gg i) set b q ||| 2 ^ mo_G gg i (2 * q + b) := by rw [au_ss, if_pos h20]
          have hv : mo_G gg i (2 * q + b) < 6 := hgg _ (by omega)
          refine zv_iload F d_Mo_image_23 rfl ?_
          refine zn_iconst (x := 1) F d_Mo_image_25 (by decide) ?_
          refine zv_aload_n F d_Mo_image_26 rfl ?_
          refine zv_iload_n F d_Mo_image_27 rfl ?_
          refine zv_iload F d_Mo_image_28 rfl ?_
          refine zv_iload_n F d_Mo_image_30 rfl ?_
          refine zv_pV3 F rfl (by assumption) k_Mo.1 d_Mo_image_31 (Mo_step_ok f0 f2 (by omega)) Y_Mo_step Yi_Mo_step Yv_Mo_step ln_Mo_55 ⟨(Nat.le_of_ble_eq_true rfl), (Nat.le_of_ble_eq_true rfl)⟩ (Nat.le_of_ble_eq_true rfl) ⟨(Nat.le_of_ble_eq_true rfl), (Nat.le_of_ble_eq_true rfl)⟩ ?_
          refine zn_ishl F d_Mo_image_34 (zn_p2 (by omega)) (by omega) ?_
          rw [Nat.one_mul]
          refine zn_ior F d_Mo_image_35 ?_
          refine zv_goto (tgt := 41) F d_Mo_image_36 rfl ?_
          refine zv_istore F d_Mo_image_41 (Nat.le_of_ble_eq_true rfl) ?_
          simp only [zv_s1, zv_s2, zv_kill, List.set_cons_zero, List.set_cons_succ, List.getElem?_cons_zero, List.getElem?_cons_succ]
          refine zn_iinc F d_Mo_image_43 rfl ?_
          simp only [zv_s1, zv_s2, zv_kill, List.set_cons_zero, List.set_cons_succ, List.getElem?_cons_zero, List.getElem?_cons_succ]
          refine zv_goto (tgt := 6) F d_Mo_image_46 rfl ?_
          have z := ih (6 - (q + 1)) (by omega) (q + 1) rfl (by omega)
          rw [es] at z
          exact z
  refine zn_iconst (x := 0) F d_Mo_image_0 (by decide) ?_
  refine zv_istore F d_Mo_image_1 (Nat.le_of_ble_eq_true rfl) ?_
  simp only [zv_s1, zv_s2, zv_kill, List.set_cons_zero, List.set_cons_succ, List.getElem?_cons_zero, List.getElem?_cons_succ]
  refine zn_iconst (x := 0) F d_Mo_image_3 (by decide) ?_
  refine zv_istore F d_Mo_image_4 (Nat.le_of_ble_eq_true rfl) ?_
  simp only [zv_s1, zv_s2, zv_kill, List.set_cons_zero, List.set_cons_succ, List.getElem?_cons_zero, List.getElem?_cons_succ]
  exact loop _ 0 rfl (Nat.zero_le _)
/-- the machine that the model goes over -/
def mo_M (op fi se : Nat) (gg gd : Nat → Nat) (δ : Nat → Nat → Nat) (ac : Nat → Bool) (s0 cn : Nat) : Prop :=
  (op = 0 ∧ fi < 4 ∧ δ = pm_ba fi ∧ ac = pm_baA fi ∧ s0 = 0 ∧ cn = 3) ∨ (op = 1 ∧ (fi < 12 ∧ se < 12) ∧ δ = pm_pa (mo_G gg fi) (mo_G gg se) ∧ ac = pm_paA false (gd fi) (gd se) ∧ s0 = 0 ∧ cn = 36) ∨ (op = 2 ∧ (fi < 12 ∧ se < 12) ∧ δ = pm_pa (mo_G gg fi) (mo_G gg se) ∧ ac = pm_paA true (gd fi) (gd se) ∧ s0 = 0 ∧ cn = 36) ∨
  (op = 3 ∧ (fi < 12 ∧ se < 12) ∧ δ = pm_ch (gd fi) (mo_G gg fi) (mo_G gg se) 6 ∧ ac = pm_chA (gd se) ∧ s0 = pm_of (gd fi) 0 0 ∧ cn = 384) ∨ (op = 4 ∧ fi < 12 ∧ δ = pm_st (gd fi) (mo_G gg fi) 6 ∧ ac = pm_stA (gd fi) ∧ s0 = 64 ∧ cn = 65) ∨ (op = 5 ∧ fi < 12 ∧ δ = pm_in (mo_G gg fi) ∧ ac = pm_inA (gd fi) ∧ s0 = 0 ∧ cn = 6)
def mo_b (gg gd : Nat → Nat) : Prop := (∀ j, j < 144 → gg j < 6) ∧ ∀ i, i < 12 → gd i < 64
theorem mo_M_ok {op fi se s0 cn : Nat} {gg gd : Nat → Nat} {δ : Nat → Nat → Nat} {ac : Nat → Bool} (h : mo_M op fi se gg gd δ ac s0 cn) (hb : mo_b gg gd) : cn ≤ 384 ∧ s0 < cn ∧ op < 6 ∧ ∀ x b, x < cn → b < 2 → δ x b < cn := by
  have G6 : ∀ {i j : Nat}, i < 12 → j < 12 → mo_G gg i j < 6 := fun {i j} hi hj => hb.1 _ (by omega)
  rcases h with ⟨rfl, h1, rfl, rfl, rfl, rfl⟩ | ⟨rfl, h1, rfl, rfl, rfl, rfl⟩ | ⟨rfl, h1, rfl, rfl, rfl, rfl⟩ | ⟨rfl, h1, rfl, rfl, rfl, rfl⟩ | ⟨rfl, h1, rfl, rfl, rfl, rfl⟩ | ⟨rfl, h1, rfl, rfl, rfl, rfl⟩
  · exact ⟨by decide, by decide, by decide, fun x b _ _ => by unfold pm_ba; split <;> omega⟩
  · refine ⟨by decide, by decide, by decide, fun x b hx hb2 => ?_⟩
    have q1 := G6 (i := fi) (j := 2 * (x / 6) + b) h1.1 (by omega)
    have q2 := G6 (i := se) (j := 2 * (x % 6) + b) h1.2 (by omega)
    unfold pm_pa
    omega
  · refine ⟨by decide, by decide, by decide, fun x b hx hb2 => ?_⟩
    have q1 := G6 (i := fi) (j := 2 * (x / 6) + b) h1.1 (by omega)
    have q2 := G6 (i := se) (j := 2 * (x % 6) + b) h1.2 (by omega)
    unfold pm_pa
    omega
  · exact ⟨by decide, pm_of_lt (by decide) (by decide), by decide, fun x b hx hb2 => pm_of_lt (G6 h1.1 (by omega)) (au_ss_lt (fun j hj => G6 h1.2 hj) hb2 6 (by decide))⟩
  · exact ⟨by decide, by decide, by decide, fun x b hx hb2 => Nat.lt_succ_of_lt (pm_sf_lt (au_ss_lt (fun j hj => G6 h1 hj) hb2 6 (by decide)))⟩
  · exact ⟨by decide, by decide, by decide, fun x b hx hb2 => G6 h1 (by omega)⟩

