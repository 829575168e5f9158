section ZNEW
variable {Δ : zv_D} {Γ : zv_C} {Q : State → Prop} {own nm : String} {cc : ByteArray} {nL : Nat} {ret : Option FieldType} {R : Room} {pc : Nat} {lv : List (Option Value)} {st : List Value} {hp : zv_M} {sz ce sl n : Nat}
theorem zn_n0 {n : Nat} (h : n < 2147483648) : ¬ nI n < 0 := fun q => by
  have := (zn_lt0 (x := n) (by omega)).mp q
  omega
theorem zn_newI (F : zv_F Δ Γ own nm cc nL ret R) (hd : decode cc pc = .ok (.newarray .int, 2)) (hn : n < 100000) (hce : ce + 1 ≤ R.cells) (hsl : sl + n ≤ R.slots) (k : ∀ hp1 : zv_M, (∀ (a : Nat) (e : va_E), hp a = some e → a < sz) → hp1 = va_up hp sz (some (zn_I Δ n (fun _ => 0))) → zv_V Δ Γ Q (pc + 2) lv (.ref sz :: st) hp1 (sz + 1) (ce + 1) (sl + n)) : zv_V Δ Γ Q pc lv (.int (nI n) :: st) hp sz ce sl :=
  zv_newa (ty := .int) (t0 := 0) (N := n) (a0 := (n, .inl (fun _ => nI 0))) F hd ka_int rfl rfl (fun U h => h) (fun cB => rfl) (zn_n0 (by omega)) (nI_clamp (by omega)) (by show n * 4 ≤ _; omega) hce hsl (fun hp1 hl e => k hp1 hl e)
theorem zn_newJ (F : zv_F Δ Γ own nm cc nL ret R) (hd : decode cc pc = .ok (.newarray .long, 2)) (hn : n < 100000) (hce : ce + 1 ≤ R.cells) (hsl : sl + n ≤ R.slots) (k : ∀ hp1 : zv_M, (∀ (a : Nat) (e : va_E), hp a = some e → a < sz) → hp1 = va_up hp sz (some (zn_J Δ n (fun _ => 0))) → zv_V Δ Γ Q (pc + 2) lv (.ref sz :: st) hp1 (sz + 1) (ce + 1) (sl + n)) : zv_V Δ Γ Q pc lv (.int (nI n) :: st) hp sz ce sl :=
  zv_newa (ty := .long) (t0 := 1) (N := n) (a0 := (n, .inr (.inl (fun _ => lN 0)))) F hd ka_long rfl rfl (fun U h => h) (fun cB => rfl) (zn_n0 (by omega)) (nI_clamp (by omega)) (by show n * 8 ≤ _; omega) hce hsl (fun hp1 hl e => k hp1 hl e)
end ZNEW

