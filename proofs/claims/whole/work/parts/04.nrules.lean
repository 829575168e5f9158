/-- int arrays and long arrays by natural numbers -/
def zn_I (Δ : zv_D) (n : Nat) (g : Nat → Nat) : va_E := .inl (Δ.2.2 0, n, .inl (fun j => nI (g j)))
def zn_J (Δ : zv_D) (n : Nat) (g : Nat → Nat) : va_E := .inl (Δ.2.2 1, n, .inr (.inl (fun j => lN (g j))))
theorem zn_inj {a b : Nat} (ha : a < 4294967296) (hb : b < 4294967296) : nI a = nI b ↔ a = b := by
  refine ⟨fun h => ?_, fun h => by rw [h]⟩
  have h2 := congrArg (fun x : Int32 => x.toBitVec.toNat) h
  simpa [pk_tn (n := a) (by omega), pk_tn (n := b) (by omega)] using h2
theorem zn_of (x : Int32) : ∃ n : Nat, n < 4294967296 ∧ x = nI n := by
  refine ⟨x.toBitVec.toNat, x.toBitVec.isLt, ?_⟩
  apply Int32.toBitVec_inj.mp
  apply BitVec.eq_of_toNat_eq
  rw [pk_tn (by have := x.toBitVec.isLt; omega)]
theorem zn_sh : ∀ q, q < 32 → ((nI q &&& 31).toBitVec.smod 32).toNat = q := by decide +kernel
theorem zn_upd (g : Nat → Nat) (i v : Nat) : upd (fun j => nI (g j)) i (nI v) = fun j => nI (va_up g i v j) := by
  funext j
  by_cases h : j = i <;> simp [upd, va_up, h]
theorem zn_updL (g : Nat → Nat) (i v : Nat) : vp_updL (fun j => lN (g j)) i (lN v) = fun j => lN (va_up g i v j) := by
  funext j
  by_cases h : j = i <;> simp [vp_updL, va_up, h]
section ZN
variable {Δ : zv_D} {Γ : zv_C} {Q : State → Prop} {own nm : String} {cc : ByteArray} {nL : Nat} {ret : Option FieldType} {R : Room} {pc : Nat} {lv : List (Option Value)} {st : List Value} {hp : zv_M} {sz ce sl : Nat} {x y : Nat}
theorem zn_iconst (F : zv_F Δ Γ own nm cc nL ret R) {n : Int} (hd : decode cc pc = .ok (.iconst n, 1)) (hv : Int32.ofInt n = nI x) (k : zv_V Δ Γ Q (pc + 1) lv (.int (nI x) :: st) hp sz ce sl) : zv_V Δ Γ Q (pc) lv (st) hp sz ce sl := zv_iconst F hd hv k
theorem zn_bipush (F : zv_F Δ Γ own nm cc nL ret R) {n : Int} (hd : decode cc pc = .ok (.bipush n, 2)) (hv : (Int8.ofInt n).toInt32 = nI x) (k : zv_V Δ Γ Q (pc + 2) lv (.int (nI x) :: st) hp sz ce sl) : zv_V Δ Γ Q (pc) lv (st) hp sz ce sl := zv_bipush F hd hv k
theorem zn_sipush (F : zv_F Δ Γ own nm cc nL ret R) {n : Int} (hd : decode cc pc = .ok (.sipush n, 3)) (hv : (Int16.ofInt n).toInt32 = nI x) (k : zv_V Δ Γ Q (pc + 3) lv (.int (nI x) :: st) hp sz ce sl) : zv_V Δ Γ Q (pc) lv (st) hp sz ce sl := zv_sipush F hd hv k
theorem zn_lconst (F : zv_F Δ Γ own nm cc nL ret R) {n : Fin 2} (hd : decode cc pc = .ok (.lconst n, 1)) (hv : Int64.ofNat (n : Nat) = lN x) (k : zv_V Δ Γ Q (pc + 1) lv (.long (lN x) :: st) hp sz ce sl) : zv_V Δ Γ Q (pc) lv (st) hp sz ce sl := zv_lconst F hd hv k
theorem zn_iadd (F : zv_F Δ Γ own nm cc nL ret R) (hd : decode cc pc = .ok (.iadd, 1)) (k : zv_V Δ Γ Q (pc + 1) lv (.int (nI (x + y)) :: st) hp sz ce sl) : zv_V Δ Γ Q (pc) lv (.int (nI y) :: .int (nI x) :: st) hp sz ce sl := zv_iadd F hd (by rw [nI_add]; exact k)
theorem zn_imul (F : zv_F Δ Γ own nm cc nL ret R) (hd : decode cc pc = .ok (.imul, 1)) (k : zv_V Δ Γ Q (pc + 1) lv (.int (nI (x * y)) :: st) hp sz ce sl) : zv_V Δ Γ Q (pc) lv (.int (nI y) :: .int (nI x) :: st) hp sz ce sl := zv_imul F hd (by rw [pk_mul]; exact k)
theorem zn_isub (F : zv_F Δ Γ own nm cc nL ret R) (hd : decode cc pc = .ok (.isub, 1)) (h : y ≤ x) (k : zv_V Δ Γ Q (pc + 1) lv (.int (nI (x - y)) :: st) hp sz ce sl) : zv_V Δ Γ Q (pc) lv (.int (nI y) :: .int (nI x) :: st) hp sz ce sl := zv_isub F hd (by rw [pk_sub h]; exact k)
theorem zn_idiv (F : zv_F Δ Γ own nm cc nL ret R) (hd : decode cc pc = .ok (.idiv, 1)) (hx : x < 2147483648) (h0 : 0 < y) (hy : y < 2147483648) (k : zv_V Δ Γ Q (pc + 1) lv (.int (nI (x / y)) :: st) hp sz ce sl) : zv_V Δ Γ Q (pc) lv (.int (nI y) :: .int (nI x) :: st) hp sz ce sl := zv_idiv F hd (nI_ne0 h0 (by omega)) (by rw [pk_div (by omega) h0 (by omega)]; exact k)
theorem zn_irem (F : zv_F Δ Γ own nm cc nL ret R) (hd : decode cc pc = .ok (.irem, 1)) (hx : x < 2147483648) (h0 : 0 < y) (hy : y < 2147483648) (k : zv_V Δ Γ Q (pc + 1) lv (.int (nI (x % y)) :: st) hp sz ce sl) : zv_V Δ Γ Q (pc) lv (.int (nI y) :: .int (nI x) :: st) hp sz ce sl := zv_irem F hd (nI_ne0 h0 (by omega)) (by rw [pk_rem (by omega) h0 (by omega)]; exact k)
theorem zn_ishr (F : zv_F Δ Γ own nm cc nL ret R) (hd : decode cc pc = .ok (.ishr, 1)) (hx : x < 2147483648) (hy : y < 32) (k : zv_V Δ Γ Q (pc + 1) lv (.int (nI (x / 2 ^ y)) :: st) hp sz ce sl) : zv_V Δ Γ Q (pc) lv (.int (nI y) :: .int (nI x) :: st) hp sz ce sl := zv_ishr F hd (by rw [pk_shrN (by omega) _ y (zn_sh y hy)]; exact k)
theorem zn_ishl (F : zv_F Δ Γ own nm cc nL ret R) (hd : decode cc pc = .ok (.ishl, 1)) (hx : x * 2 ^ y < 4294967296) (hy : y < 32) (k : zv_V Δ Γ Q (pc + 1) lv (.int (nI (x * 2 ^ y)) :: st) hp sz ce sl) : zv_V Δ Γ Q (pc) lv (.int (nI y) :: .int (nI x) :: st) hp sz ce sl := zv_ishl F hd (by rw [pk_shlN _ y (zn_sh y hy) (by omega)]; exact k)
theorem zn_i2l (F : zv_F Δ Γ own nm cc nL ret R) (hd : decode cc pc = .ok (.i2l, 1)) (hx : x < 2147483648) (k : zv_V Δ Γ Q (pc + 1) lv (.long (lN x) :: st) hp sz ce sl) : zv_V Δ Γ Q (pc) lv (.int (nI x) :: st) hp sz ce sl := zv_i2l F hd (by rw [nI_l (by omega)]; exact k)
theorem zn_l2i (F : zv_F Δ Γ own nm cc nL ret R) (hd : decode cc pc = .ok (.l2i, 1)) (k : zv_V Δ Γ Q (pc + 1) lv (.int (nI x) :: st) hp sz ce sl) : zv_V Δ Γ Q (pc) lv (.long (lN x) :: st) hp sz ce sl := zv_l2i F hd (by rw [lN_i]; exact k)
theorem zn_ladd (F : zv_F Δ Γ own nm cc nL ret R) (hd : decode cc pc = .ok (.ladd, 1)) (k : zv_V Δ Γ Q (pc + 1) lv (.long (lN (x + y)) :: st) hp sz ce sl) : zv_V Δ Γ Q (pc) lv (.long (lN y) :: .long (lN x) :: st) hp sz ce sl := zv_ladd F hd (by rw [lN_add]; exact k)
theorem zn_lmul (F : zv_F Δ Γ own nm cc nL ret R) (hd : decode cc pc = .ok (.lmul, 1)) (k : zv_V Δ Γ Q (pc + 1) lv (.long (lN (x * y)) :: st) hp sz ce sl) : zv_V Δ Γ Q (pc) lv (.long (lN y) :: .long (lN x) :: st) hp sz ce sl := zv_lmul F hd (by rw [lN_mul]; exact k)
theorem zn_and (a b : Nat) : nI a &&& nI b = nI (a &&& b) := by
  apply Int32.toBitVec_inj.mp
  apply BitVec.eq_of_toNat_eq
  simp [nI]
theorem zn_or (a b : Nat) : nI a ||| nI b = nI (a ||| b) := by
  apply Int32.toBitVec_inj.mp
  apply BitVec.eq_of_toNat_eq
  simp [nI]
theorem zn_iand (F : zv_F Δ Γ own nm cc nL ret R) (hd : decode cc pc = .ok (.iand, 1)) (k : zv_V Δ Γ Q (pc + 1) lv (.int (nI (x &&& y)) :: st) hp sz ce sl) : zv_V Δ Γ Q (pc) lv (.int (nI y) :: .int (nI x) :: st) hp sz ce sl := zv_iand F hd (by rw [zn_and]; exact k)
theorem zn_ior (F : zv_F Δ Γ own nm cc nL ret R) (hd : decode cc pc = .ok (.ior, 1)) (k : zv_V Δ Γ Q (pc + 1) lv (.int (nI (x ||| y)) :: st) hp sz ce sl) : zv_V Δ Γ Q (pc) lv (.int (nI y) :: .int (nI x) :: st) hp sz ce sl := zv_ior F hd (by rw [zn_or]; exact k)
theorem zn_icmp_lt (F : zv_F Δ Γ own nm cc nL ret R) {off : Int} {tgt : Nat} (hd : decode cc pc = .ok (.if_icmp .lt off, 3)) (ht : (pc : Int) + off = (tgt : Int)) (hx : x < 2147483648) (hy : y < 2147483648) (kt : x < y → zv_V Δ Γ Q (tgt) lv (st) hp sz ce sl) (kf : y ≤ x → zv_V Δ Γ Q (pc + 3) lv (st) hp sz ce sl) : zv_V Δ Γ Q (pc) lv (.int (nI y) :: .int (nI x) :: st) hp sz ce sl := zv_icmp_lt F hd ht (fun h => kt ((nI_ltI (by omega) (by omega)).mp h)) (fun h => kf (Nat.le_of_not_lt fun g => h ((nI_ltI (by omega) (by omega)).mpr g)))
theorem zn_icmp_ge (F : zv_F Δ Γ own nm cc nL ret R) {off : Int} {tgt : Nat} (hd : decode cc pc = .ok (.if_icmp .ge off, 3)) (ht : (pc : Int) + off = (tgt : Int)) (hx : x < 2147483648) (hy : y < 2147483648) (kt : y ≤ x → zv_V Δ Γ Q (tgt) lv (st) hp sz ce sl) (kf : x < y → zv_V Δ Γ Q (pc + 3) lv (st) hp sz ce sl) : zv_V Δ Γ Q (pc) lv (.int (nI y) :: .int (nI x) :: st) hp sz ce sl := zv_icmp_ge F hd ht (fun h => kt ((nI_leI (by omega) (by omega)).mp h)) (fun h => kf (Nat.lt_of_not_le fun g => h ((nI_leI (by omega) (by omega)).mpr g)))
theorem zn_icmp_gt (F : zv_F Δ Γ own nm cc nL ret R) {off : Int} {tgt : Nat} (hd : decode cc pc = .ok (.if_icmp .gt off, 3)) (ht : (pc : Int) + off = (tgt : Int)) (hx : x < 2147483648) (hy : y < 2147483648) (kt : y < x → zv_V Δ Γ Q (tgt) lv (st) hp sz ce sl) (kf : x ≤ y → zv_V Δ Γ Q (pc + 3) lv (st) hp sz ce sl) : zv_V Δ Γ Q (pc) lv (.int (nI y) :: .int (nI x) :: st) hp sz ce sl := zv_icmp_gt F hd ht (fun h => kt ((nI_ltI (by omega) (by omega)).mp h)) (fun h => kf (Nat.le_of_not_lt fun g => h ((nI_ltI (by omega) (by omega)).mpr g)))
theorem zn_icmp_le (F : zv_F Δ Γ own nm cc nL ret R) {off : Int} {tgt : Nat} (hd : decode cc pc = .ok (.if_icmp .le off, 3)) (ht : (pc : Int) + off = (tgt : Int)) (hx : x < 2147483648) (hy : y < 2147483648) (kt : x ≤ y → zv_V Δ Γ Q (tgt) lv (st) hp sz ce sl) (kf : y < x → zv_V Δ Γ Q (pc + 3) lv (st) hp sz ce sl) : zv_V Δ Γ Q (pc) lv (.int (nI y) :: .int (nI x) :: st) hp sz ce sl := zv_icmp_le F hd ht (fun h => kt ((nI_leI (by omega) (by omega)).mp h)) (fun h => kf (Nat.lt_of_not_le fun g => h ((nI_leI (by omega) (by omega)).mpr g)))
theorem zn_icmp_eq (F : zv_F Δ Γ own nm cc nL ret R) {off : Int} {tgt : Nat} (hd : decode cc pc = .ok (.if_icmp .eq off, 3)) (ht : (pc : Int) + off = (tgt : Int)) (hx : x < 4294967296) (hy : y < 4294967296) (kt : x = y → zv_V Δ Γ Q (tgt) lv (st) hp sz ce sl) (kf : ¬ x = y → zv_V Δ Γ Q (pc + 3) lv (st) hp sz ce sl) : zv_V Δ Γ Q (pc) lv (.int (nI y) :: .int (nI x) :: st) hp sz ce sl := zv_icmp_eq F hd ht (fun h => kt ((zn_inj (by omega) (by omega)).mp h)) (fun h => kf (fun g => h ((zn_inj (by omega) (by omega)).mpr g)))
theorem zn_icmp_ne (F : zv_F Δ Γ own nm cc nL ret R) {off : Int} {tgt : Nat} (hd : decode cc pc = .ok (.if_icmp .ne off, 3)) (ht : (pc : Int) + off = (tgt : Int)) (hx : x < 4294967296) (hy : y < 4294967296) (kt : ¬ x = y → zv_V Δ Γ Q (tgt) lv (st) hp sz ce sl) (kf : x = y → zv_V Δ Γ Q (pc + 3) lv (st) hp sz ce sl) : zv_V Δ Γ Q (pc) lv (.int (nI y) :: .int (nI x) :: st) hp sz ce sl := zv_icmp_ne F hd ht (fun h => kt (fun g => h ((zn_inj (by omega) (by omega)).mpr g))) (fun h => kf ((zn_inj (by omega) (by omega)).mp h))
theorem zn_if_eq (F : zv_F Δ Γ own nm cc nL ret R) {off : Int} {tgt : Nat} (hd : decode cc pc = .ok (.ifCond .eq off, 3)) (ht : (pc : Int) + off = (tgt : Int)) (hx : x < 4294967296) (kt : x = 0 → zv_V Δ Γ Q (tgt) lv (st) hp sz ce sl) (kf : ¬ x = 0 → zv_V Δ Γ Q (pc + 3) lv (st) hp sz ce sl) : zv_V Δ Γ Q (pc) lv (.int (nI x) :: st) hp sz ce sl := zv_if_eq F hd ht (fun h => kt ((zn_inj (b := 0) (by omega) (by omega)).mp h)) (fun h => kf (fun g => h ((zn_inj (b := 0) (by omega) (by omega)).mpr g)))
theorem zn_if_ne (F : zv_F Δ Γ own nm cc nL ret R) {off : Int} {tgt : Nat} (hd : decode cc pc = .ok (.ifCond .ne off, 3)) (ht : (pc : Int) + off = (tgt : Int)) (hx : x < 4294967296) (kt : ¬ x = 0 → zv_V Δ Γ Q (tgt) lv (st) hp sz ce sl) (kf : x = 0 → zv_V Δ Γ Q (pc + 3) lv (st) hp sz ce sl) : zv_V Δ Γ Q (pc) lv (.int (nI x) :: st) hp sz ce sl := zv_if_ne F hd ht (fun h => kt (fun g => h ((zn_inj (b := 0) (by omega) (by omega)).mpr g))) (fun h => kf ((zn_inj (b := 0) (by omega) (by omega)).mp h))
theorem zn_iald (F : zv_F Δ Γ own nm cc nL ret R) {a n i : Nat} {g : Nat → Nat} (hd : decode cc pc = .ok (.iaload, 1)) (ha : hp a = some (zn_I Δ n g)) (hn : n < 2147483648) (hi : i < n) (k : zv_V Δ Γ Q (pc + 1) lv (.int (nI (g i)) :: st) hp sz ce sl) : zv_V Δ Γ Q pc lv (.int (nI i) :: .ref a :: st) hp sz ce sl :=
  zv_iald F (t0 := 0) hd ha rfl (vp_in_nI hi (by omega)) (by rw [nI_clamp (by omega)]; exact k)
theorem zn_lald (F : zv_F Δ Γ own nm cc nL ret R) {a n i : Nat} {g : Nat → Nat} (hd : decode cc pc = .ok (.laload, 1)) (ha : hp a = some (zn_J Δ n g)) (hn : n < 2147483648) (hi : i < n) (k : zv_V Δ Γ Q (pc + 1) lv (.long (lN (g i)) :: st) hp sz ce sl) : zv_V Δ Γ Q pc lv (.int (nI i) :: .ref a :: st) hp sz ce sl :=
  zv_lald F (t0 := 1) hd ha rfl (vp_in_nI hi (by omega)) (by rw [nI_clamp (by omega)]; exact k)
theorem zn_iast (F : zv_F Δ Γ own nm cc nL ret R) {a n i v : Nat} {g : Nat → Nat} (hd : decode cc pc = .ok (.iastore, 1)) (ha : hp a = some (zn_I Δ n g)) (hn : n < 2147483648) (hi : i < n) (k : ∀ hp1 : zv_M, hp1 = va_up hp a (some (zn_I Δ n (va_up g i v))) → zv_V Δ Γ Q (pc + 1) lv st hp1 sz ce sl) : zv_V Δ Γ Q pc lv (.int (nI v) :: .int (nI i) :: .ref a :: st) hp sz ce sl :=
  zv_iast F (t0 := 0) hd ha rfl (vp_in_nI hi (by omega)) (fun hp1 e => k hp1 (by rw [e, nI_clamp (by omega), zn_upd]; rfl))
theorem zn_last (F : zv_F Δ Γ own nm cc nL ret R) {a n i v : Nat} {g : Nat → Nat} (hd : decode cc pc = .ok (.lastore, 1)) (ha : hp a = some (zn_J Δ n g)) (hn : n < 2147483648) (hi : i < n) (k : ∀ hp1 : zv_M, hp1 = va_up hp a (some (zn_J Δ n (va_up g i v))) → zv_V Δ Γ Q (pc + 1) lv st hp1 sz ce sl) : zv_V Δ Γ Q pc lv (.long (lN v) :: .int (nI i) :: .ref a :: st) hp sz ce sl :=
  zv_last F (t0 := 1) hd ha rfl (vp_in_nI hi (by omega)) (fun hp1 e => k hp1 (by rw [e, nI_clamp (by omega), zn_updL]; rfl))
theorem zn_iinc (F : zv_F Δ Γ own nm cc nL ret R) {j : Nat} (hd : decode cc pc = .ok (.iinc j 1, 3)) (hl : lv[j]? = some (some (.int (nI x)))) (k : zv_V Δ Γ Q (pc + 3) (zv_s1 lv j (.int (nI (x + 1)))) st hp sz ce sl) : zv_V Δ Γ Q pc lv st hp sz ce sl :=
  zv_iinc F hd hl (by rw [nI_succ]; rfl) k
end ZN
