def zx (xs : Nat → Int32) (i : Nat) : Nat := (xs i).toBitVec.toNat
theorem zx_lt (xs : Nat → Int32) (i : Nat) : zx xs i < 4294967296 := (xs i).toBitVec.isLt
theorem zx_eq (xs : Nat → Int32) (i : Nat) : xs i = nI (zx xs i) := by
  apply Int32.toBitVec_inj.mp
  apply BitVec.eq_of_toNat_eq
  rw [pk_tn (by have := zx_lt xs i; omega)]
  rfl
section ZLW
variable {Δ : zv_D} {Γ : zv_C} {Q : State → Prop} {own nm : String} {cc : ByteArray} {nL : Nat} {rt : Option FieldType} {R : Room} {pc : Nat} {lv : List (Option Value)} {st : List Value} {hp : zv_M} {sz ce sl : Nat}
theorem zn_sld (F : zv_F Δ Γ own nm cc nL rt R) {b N i : Nat} {xs : Nat → Int32} (hd : decode cc pc = .ok (.iaload, 1)) (hX : va_X b N xs Γ.2.2.2.2.1 Δ.1) (hbl : b < Δ.1.size) (hN : N < 2147483648) (hi : i < N) (k : zv_V Δ Γ Q (pc + 1) lv (.int (nI (zx xs i)) :: st) hp sz ce sl) : zv_V Δ Γ Q pc lv (.int (nI i) :: .ref b :: st) hp sz ce sl :=
  zv_sld F hd hX hbl (vp_in_nI hi (by omega)) (by rw [nI_clamp (by omega), zx_eq xs i]; exact k)
theorem zn_icmp_same (F : zv_F Δ Γ own nm cc nL rt R) {a b : Int32} {off : Int} {tgt : Nat} (hd : decode cc pc = .ok (.if_icmp .eq off, 3)) (ht : (pc : Int) + off = (tgt : Int)) (h : a = b) (k : zv_V Δ Γ Q tgt lv st hp sz ce sl) : zv_V Δ Γ Q pc lv (.int b :: .int a :: st) hp sz ce sl :=
  zv_icmp_eq F hd ht (fun _ => k) (fun q => absurd h q)
theorem zn_lcmp_same (F : zv_F Δ Γ own nm cc nL rt R) {a b : Int64} (hd : decode cc pc = .ok (.lcmp, 1)) (h : a = b) (k : zv_V Δ Γ Q (pc + 1) lv (.int (nI 0) :: st) hp sz ce sl) : zv_V Δ Γ Q pc lv (.long b :: .long a :: st) hp sz ce sl :=
  zv_lcmp F hd (by rw [(lg_cmp_eq a b).mpr h]; exact k)
theorem zv_topL {x : Int64} (k : ∀ w : Nat, w < 18446744073709551616 → x = lN w → zv_V Δ Γ Q pc lv (.long (lN w) :: st) hp sz ce sl) : zv_V Δ Γ Q pc lv (.long x :: st) hp sz ce sl := by
  obtain ⟨w, hw, e⟩ := zn_ofL x
  rw [e]
  exact k w hw e
end ZLW
theorem zn_i5 (i : Nat) : nI i + Int32.ofInt 5 = nI (i + 5) := by
  rw [show Int32.ofInt 5 = nI 5 from rfl, nI_add]
theorem zn_gt5 {L i : Nat} (hL : L ≤ 2560) (hi : i ≤ 2560) : nI L - nI 5 < nI i ↔ L < i + 5 := by
  by_cases h : 5 ≤ L
  · rw [pk_sub h, nI_ltI (by omega) (by omega)]
    omega
  · refine ⟨fun _ => by omega, fun _ => ?_⟩
    rw [Int32.lt_iff_toInt_lt, nI_toInt (by omega)]
    have : (nI L - nI 5).toInt < 0 := by
      have : L = 0 ∨ L = 1 ∨ L = 2 ∨ L = 3 ∨ L = 4 := by omega
      rcases this with rfl | rfl | rfl | rfl | rfl <;> decide
    omega
/-- from behind the compare on -/
def lw_K (Δ : zv_D) (Γ : zv_C) (Q : State → Prop) (b x y i : Nat) : Prop := ∀ (hp : zv_M) (sz ce sl : Nat), jt_at Δ hp sz x y → ce ≤ 105 + i → sl ≤ 20015 + 3 * i → zv_V Δ Γ Q 709 [some (.ref b), some (.ref x), some (.ref y), some (.int (nI i))] [] hp sz ce sl
theorem la_go_congr {n : Nat} {g g2 : Nat → Nat} (hg : ∀ k, k < 2 * n → g2 k = g k) (hl : ∀ k, k < 2 * n → g k < n) (h0 : 0 < n) (w : Nat) : ∀ k, la_go g w k < n ∧ la_go g2 w k = la_go g w k
  | 0 => ⟨h0, rfl⟩
  | k + 1 => by
    obtain ⟨a, b⟩ := la_go_congr hg hl h0 w k
    simp only [la_go]
    rw [b, hg _ (by omega)]
    exact ⟨hl _ (by omega), rfl⟩

