theorem zv_ne {hp hp1 : zv_M} {a b : Nat} {x : Option va_E} (e : hp1 = va_up hp a x) (h : b ≠ a) : hp1 b = hp b := by
  rw [e]
  simp only [va_up, h, if_false]
theorem zv_eq {hp hp1 : zv_M} {a : Nat} {x : Option va_E} (e : hp1 = va_up hp a x) : hp1 a = x := by
  rw [e]
  simp only [va_up, if_true]
theorem zn_nb (b : Bool) : narrow .boolean (.int (nI b.toNat)) = .int (nI b.toNat) := by
  cases b <;> rfl
theorem zn_bt {b : Bool} (h : b = true) : (some (.int (nI 1)) : Option Value) = some (.int (nI b.toNat)) := by
  rw [h]
  rfl
theorem zn_bf {b : Bool} (h : b = false) : (some (.int (nI 0)) : Option Value) = some (.int (nI b.toNat)) := by
  rw [h]
  rfl
theorem zn_rt {a b : Nat} (h : a = b) : (some (.int (nI a)) : Option Value) = some (.int (nI b)) := by rw [h]
theorem zn_rl {a b : Nat} (h : a = b) : (some (.long (lN a)) : Option Value) = some (.long (lN b)) := by rw [h]
theorem zn_lt0 {x : Nat} (hx : x < 4294967296) : nI x < 0 ↔ 2147483648 ≤ x := by
  have e : (nI x < 0) ↔ (nI x).toInt < 0 := Int32.lt_iff_toInt_lt
  rw [e]
  have e2 : (nI x).toInt = (BitVec.ofNat 32 x).toInt := rfl
  rw [e2, BitVec.toInt_eq_toNat_cond]
  simp only [BitVec.toNat_ofNat]
  rw [Nat.mod_eq_of_lt (by omega)]
  split <;> omega
def zv_P (l : Launch) (Δ : zv_D) (d : Nat) (y : MethodName) (bytes : ByteArray) (maxL : Nat) (ret : Option FieldType) (av : List Value) (hp : zv_M) (sz : Nat) (v : Value) : Prop :=
  zv_E l Δ d y bytes maxL ret av hp sz 0 0 (fun r hp1 sz1 => r = some v ∧ hp1 = hp ∧ sz1 = sz)
section ZB
variable {Δ : zv_D} {Γ : zv_C} {Q : State → Prop} {own nm : String} {cc : ByteArray} {nL : Nat} {ret : Option FieldType} {R : Room} {pc : Nat} {lv : List (Option Value)} {st : List Value} {hp : zv_M} {sz ce sl : Nat} {x y : Nat} {b : Bool}
theorem zn_if_lt (F : zv_F Δ Γ own nm cc nL ret R) {off : Int} {tgt : Nat} (hd : decode cc pc = .ok (.ifCond .lt off, 3)) (ht : (pc : Int) + off = (tgt : Int)) (hx : x < 4294967296) (kt : 2147483648 ≤ x → zv_V Δ Γ Q (tgt) lv (st) hp sz ce sl) (kf : x < 2147483648 → zv_V Δ Γ Q (pc + 3) lv (st) hp sz ce sl) : zv_V Δ Γ Q (pc) lv (.int (nI x) :: st) hp sz ce sl := zv_if_lt F hd ht (fun h => kt ((zn_lt0 hx).mp h)) (fun h => kf (Nat.lt_of_not_le fun g => h ((zn_lt0 hx).mpr g)))
theorem zn_if_le (F : zv_F Δ Γ own nm cc nL ret R) {off : Int} {tgt : Nat} (hd : decode cc pc = .ok (.ifCond .le off, 3)) (ht : (pc : Int) + off = (tgt : Int)) (hx : x < 2147483648) (kt : x = 0 → zv_V Δ Γ Q (tgt) lv (st) hp sz ce sl) (kf : 0 < x → zv_V Δ Γ Q (pc + 3) lv (st) hp sz ce sl) : zv_V Δ Γ Q (pc) lv (.int (nI x) :: st) hp sz ce sl := zv_if_le F hd ht (fun h => kt (by have h2 := (nI_leI (a := x) (b := 0) (by omega) (by omega)).mp h; omega)) (fun h => kf (Nat.pos_of_ne_zero fun g => h (by subst g; exact (nI_leI (a := 0) (b := 0) (by omega) (by omega)).mpr (Nat.le_refl _))))
theorem zn_b0 {b : Bool} (h : nI b.toNat = 0) : b = false := by
  cases b
  · rfl
  · exact absurd h (by decide)
theorem zn_b1 {b : Bool} (h : ¬ nI b.toNat = 0) : b = true := by
  cases b
  · exact absurd rfl h
  · rfl
theorem zn_bif_eq (F : zv_F Δ Γ own nm cc nL ret R) {off : Int} {tgt : Nat} (hd : decode cc pc = .ok (.ifCond .eq off, 3)) (ht : (pc : Int) + off = (tgt : Int)) (kt : b = false → zv_V Δ Γ Q (tgt) lv (st) hp sz ce sl) (kf : b = true → zv_V Δ Γ Q (pc + 3) lv (st) hp sz ce sl) : zv_V Δ Γ Q (pc) lv (.int (nI b.toNat) :: st) hp sz ce sl := zv_if_eq F hd ht (fun h => kt (zn_b0 h)) (fun h => kf (zn_b1 h))
theorem zn_bif_ne (F : zv_F Δ Γ own nm cc nL ret R) {off : Int} {tgt : Nat} (hd : decode cc pc = .ok (.ifCond .ne off, 3)) (ht : (pc : Int) + off = (tgt : Int)) (kt : b = true → zv_V Δ Γ Q (tgt) lv (st) hp sz ce sl) (kf : b = false → zv_V Δ Γ Q (pc + 3) lv (st) hp sz ce sl) : zv_V Δ Γ Q (pc) lv (.int (nI b.toNat) :: st) hp sz ce sl := zv_if_ne F hd ht (fun h => kt (zn_b1 h)) (fun h => kf (zn_b0 h))
theorem zn_lT (n : Nat) : (lN n).toBitVec.toNat = n % 18446744073709551616 := rfl
theorem zn_linj {a b : Nat} (ha : a < 18446744073709551616) (hb : b < 18446744073709551616) : lN a = lN b ↔ a = b := by
  refine ⟨fun h => ?_, fun h => by rw [h]⟩
  have h2 := congrArg (fun x : Int64 => x.toBitVec.toNat) h
  simp only [zn_lT] at h2
  rw [Nat.mod_eq_of_lt ha, Nat.mod_eq_of_lt hb] at h2
  exact h2
theorem zn_ofL (x : Int64) : ∃ n : Nat, n < 18446744073709551616 ∧ x = lN n := by
  refine ⟨x.toBitVec.toNat, x.toBitVec.isLt, ?_⟩
  apply Int64.toBitVec_inj.mp
  apply BitVec.eq_of_toNat_eq
  rw [zn_lT, Nat.mod_eq_of_lt x.toBitVec.isLt]
theorem zn_lsh : ∀ q, q < 64 → (((nI q).toInt64 &&& 63).toBitVec.smod 64).toNat = q := by decide +kernel
theorem zn_lush : ∀ q, q < 64 → ((nI q).toInt64.toUInt64 &&& Int64.toUInt64 63).toNat % 64 = q := by decide +kernel
theorem zn_shlL (x : Nat) {y : Nat} (hy : y < 64) : lN x <<< ((nI y).toInt64 &&& 63) = lN (x * 2 ^ y) := by
  apply Int64.toBitVec_inj.mp
  apply BitVec.eq_of_toNat_eq
  show ((lN x).toBitVec <<< (((nI y).toInt64 &&& 63).toBitVec.smod 64).toNat).toNat = _
  rw [zn_lsh y hy, BitVec.toNat_shiftLeft, Nat.shiftLeft_eq, zn_lT, zn_lT]
  exact Nat.mod_mul_mod x (2 ^ y) _
theorem zn_ushrL {x y : Nat} (hx : x < 18446744073709551616) (hy : y < 64) : ((lN x).toUInt64 >>> ((nI y).toInt64.toUInt64 &&& Int64.toUInt64 63)).toInt64 = lN (x / 2 ^ y) := by
  apply Int64.toBitVec_inj.mp
  apply BitVec.eq_of_toNat_eq
  show ((lN x).toUInt64 >>> ((nI y).toInt64.toUInt64 &&& Int64.toUInt64 63)).toNat = _
  rw [UInt64.toNat_shiftRight, zn_lush y hy, Nat.shiftRight_eq_div_pow, zn_lT]
  have e : (lN x).toUInt64.toNat = x := by
    show (lN x).toBitVec.toNat = x
    rw [zn_lT, Nat.mod_eq_of_lt hx]
  rw [e, Nat.mod_eq_of_lt (Nat.lt_of_le_of_lt (Nat.div_le_self _ _) hx)]
theorem zn_landL (a b : Nat) : lN a &&& lN b = lN (a &&& b) := by
  apply Int64.toBitVec_inj.mp
  apply BitVec.eq_of_toNat_eq
  simp [lN]
theorem zn_lorL (a b : Nat) : lN a ||| lN b = lN (a ||| b) := by
  apply Int64.toBitVec_inj.mp
  apply BitVec.eq_of_toNat_eq
  simp [lN]
theorem zn_lshl (F : zv_F Δ Γ own nm cc nL ret R) (hd : decode cc pc = .ok (.lshl, 1)) (hy : y < 64) (k : zv_V Δ Γ Q (pc + 1) lv (.long (lN (x * 2 ^ y)) :: st) hp sz ce sl) : zv_V Δ Γ Q pc lv (.int (nI y) :: .long (lN x) :: st) hp sz ce sl :=
  zv_lshl F hd (by rw [zn_shlL x hy]; exact k)
theorem zn_lushr (F : zv_F Δ Γ own nm cc nL ret R) (hd : decode cc pc = .ok (.lushr, 1)) (hx : x < 18446744073709551616) (hy : y < 64) (k : zv_V Δ Γ Q (pc + 1) lv (.long (lN (x / 2 ^ y)) :: st) hp sz ce sl) : zv_V Δ Γ Q pc lv (.int (nI y) :: .long (lN x) :: st) hp sz ce sl :=
  zv_lushr F hd (by rw [zn_ushrL hx hy]; exact k)
theorem zn_land (F : zv_F Δ Γ own nm cc nL ret R) (hd : decode cc pc = .ok (.land, 1)) (k : zv_V Δ Γ Q (pc + 1) lv (.long (lN (x &&& y)) :: st) hp sz ce sl) : zv_V Δ Γ Q pc lv (.long (lN y) :: .long (lN x) :: st) hp sz ce sl :=
  zv_land F hd (by rw [zn_landL]; exact k)
theorem zn_lor (F : zv_F Δ Γ own nm cc nL ret R) (hd : decode cc pc = .ok (.lor, 1)) (k : zv_V Δ Γ Q (pc + 1) lv (.long (lN (x ||| y)) :: st) hp sz ce sl) : zv_V Δ Γ Q pc lv (.long (lN y) :: .long (lN x) :: st) hp sz ce sl :=
  zv_lor F hd (by rw [zn_lorL]; exact k)
theorem zn_lcmp (F : zv_F Δ Γ own nm cc nL ret R) (hd : decode cc pc = .ok (.lcmp, 1)) (hx : x < 18446744073709551616) (hy : y < 18446744073709551616) (k : ∀ w : Nat, w < 4294967296 → (w = 0 ↔ x = y) → zv_V Δ Γ Q (pc + 1) lv (.int (nI w) :: st) hp sz ce sl) : zv_V Δ Γ Q pc lv (.long (lN y) :: .long (lN x) :: st) hp sz ce sl := by
  obtain ⟨w, hw, e⟩ := zn_of (lg_cmp (lN x) (lN y))
  refine zv_lcmp F hd ?_
  rw [e]
  refine k w hw ?_
  have h1 : lg_cmp (lN x) (lN y) = 0 ↔ lN x = lN y := lg_cmp_eq (lN x) (lN y)
  rw [e] at h1
  have h2 : nI w = 0 ↔ w = 0 := zn_inj (b := 0) hw (by decide)
  rw [← h2, h1]
  exact zn_linj hx hy
theorem zn_ldc2 (F : zv_F Δ Γ own nm cc nL ret R) {index : Nat} {v : Int64} (hd : decode cc pc = .ok (.ldc2_w index, 3)) (hc : Cond.constantLong own index v ∈ zp_G) (hv : v = lN x) (k : zv_V Δ Γ Q (pc + 3) lv (.long (lN x) :: st) hp sz ce sl) : zv_V Δ Γ Q pc lv st hp sz ce sl :=
  zv_ldc2 F hd (by rw [← hv]; exact hc) k
theorem zn_alen (F : zv_F Δ Γ own nm cc nL ret R) {a n : Nat} {g : Nat → Nat} (hd : decode cc pc = .ok (.arraylength, 1)) (ha : hp a = some (zn_I Δ n g)) (k : zv_V Δ Γ Q (pc + 1) lv (.int (nI n) :: st) hp sz ce sl) : zv_V Δ Γ Q pc lv (.ref a :: st) hp sz ce sl :=
  zv_alen (t0 := 0) F hd ha rfl rfl k
/-- forgetting locals -/
def zv_le : List (Option Value) → List (Option Value) → Prop
  | [], [] => True
  | none :: l, _ :: l2 => zv_le l l2
  | some v :: l, some w :: l2 => v = w ∧ zv_le l l2
  | _, _ => False
theorem zv_le_len : ∀ {l l2 : List (Option Value)}, zv_le l l2 → l.length = l2.length
  | [], [], _ => rfl
  | none :: l, _ :: l2, h => by simp only [List.length_cons]; rw [zv_le_len (l := l) (l2 := l2) h]
  | some v :: l, some w :: l2, h => by simp only [List.length_cons]; rw [zv_le_len (l := l) (l2 := l2) h.2]
  | [], _ :: _, h => h.elim
  | some _ :: _, [], h => h.elim
  | some _ :: _, none :: _, h => h.elim
  | none :: _, [], h => h.elim
theorem zv_le_at : ∀ {l l2 : List (Option Value)} {i : Nat} {v : Value}, zv_le l l2 → l[i]? = some (some v) → l2[i]? = some (some v)
  | [], [], i, v, _, h => by simp at h
  | none :: l, _ :: l2, 0, v, _, h => by simp at h
  | none :: l, _ :: l2, i + 1, v, h1, h => by
    have h1 : zv_le l l2 := h1
    simpa using zv_le_at (i := i) h1 (by simpa using h)
  | some w :: l, some w2 :: l2, 0, v, h1, h => by
    have e : w = w2 := h1.1
    subst e
    simpa using h
  | some w :: l, some w2 :: l2, i + 1, v, h1, h => by
    have h1 : w = w2 ∧ zv_le l l2 := h1
    simpa using zv_le_at (i := i) h1.2 (by simpa using h)
  | [], _ :: _, _, _, h, _ => h.elim
  | some _ :: _, [], _, _, h, _ => h.elim
  | some _ :: _, none :: _, _, _, h, _ => h.elim
  | none :: _, [], _, _, h, _ => h.elim
theorem zv_weak {lv2 : List (Option Value)} (h : zv_le lv2 lv) (k : zv_V Δ Γ Q pc lv2 st hp sz ce sl) : zv_V Δ Γ Q pc lv st hp sz ce sl := by
  intro H locs ls hH hlo hL
  exact k H locs ls hH hlo ⟨by rw [zv_le_len h]; exact hL.1, hL.2.1, fun i v hi => hL.2.2 i v (zv_le_at h hi)⟩
end ZB
section ZP
variable {Δ : zv_D} {Γ : zv_C} {Q : State → Prop} {own nm : String} {cc : ByteArray} {nL : Nat} {ret : Option FieldType} {R : Room} {pc : Nat} {lv : List (Option Value)} {hp : zv_M} {sz ce sl : Nat}
variable {y : MethodName} {bytes : ByteArray} {maxL d mc ms index b : Nat} {ret1 : Option FieldType} {rest : List Value} {post : Option Value → zv_M → Nat → Prop} {v v1 v2 v3 v4 : Value}
theorem zv_pV0 (F : zv_F Δ Γ own nm cc nL ret R) (hlv : lv.length = nL) {ci N : Nat} {T : u_T} {fs : List Value} (ho : hp b = some (.inr (ci, fs))) (hC : zp_classes[ci]? = some (y.cls, T, N)) (hd : decode cc pc = .ok (.invokevirtual index, 3)) (E : zv_P Γ.2.1 Δ d y bytes maxL ret1 [.ref b] hp sz v) (hy : zv_y y bytes maxL ret1 0) (hi : Cond.instanceMethod y ∈ zp_G) (hse : Cond.selects y.cls y y ∈ zp_G) (hlk : Cond.methodLink own index y ∈ zp_G) (hroom : d + 1 ≤ R.frames ∧ 8 + (maxL + 11) + 39 * d ≤ R.locals) (hrest : (rest.map fun v => v.category).sum ≤ 8) (hf : ce ≤ R.cells ∧ sl ≤ R.slots) (k : zv_V Δ Γ Q (pc + 3) lv (v :: rest) hp sz ce sl) : zv_V Δ Γ Q pc lv (.ref b :: rest) hp sz ce sl :=
  zv_callV (As := []) F hlv ho hC hd E hy hi hse hlk rfl hroom hrest hf (fun r hp1 sz1 q => by obtain ⟨rfl, rfl, rfl⟩ := q; exact k)
theorem zv_mV0 (F : zv_F Δ Γ own nm cc nL ret R) (hlv : lv.length = nL) {ci N : Nat} {T : u_T} {fs : List Value} (ho : hp b = some (.inr (ci, fs))) (hC : zp_classes[ci]? = some (y.cls, T, N)) (hd : decode cc pc = .ok (.invokevirtual index, 3)) (E : zv_E Γ.2.1 Δ d y bytes maxL ret1 [.ref b] hp sz mc ms post) (hy : zv_y y bytes maxL ret1 0) (hi : Cond.instanceMethod y ∈ zp_G) (hse : Cond.selects y.cls y y ∈ zp_G) (hlk : Cond.methodLink own index y ∈ zp_G) (hroom : d + 1 ≤ R.frames ∧ 8 + (maxL + 11) + 39 * d ≤ R.locals) (hrest : (rest.map fun v => v.category).sum ≤ 8) (hf : ce + mc ≤ R.cells ∧ sl + ms ≤ R.slots) (k : ∀ (r : Option Value) (hp1 : zv_M) (sz1 : Nat), post r hp1 sz1 → zv_V Δ Γ Q (pc + 3) lv (r.toList ++ rest) hp1 sz1 (ce + mc) (sl + ms)) : zv_V Δ Γ Q pc lv (.ref b :: rest) hp sz ce sl :=
  zv_callV (As := []) F hlv ho hC hd E hy hi hse hlk rfl hroom hrest hf k
theorem zv_pVN0 (F : zv_F Δ Γ own nm cc nL ret R) (hlv : lv.length = nL) {ci N : Nat} {T : u_T} {fs : List Value} (ho : hp b = some (.inr (ci, fs))) (hC : zp_classes[ci]? = some (y.cls, T, N)) (hd : decode cc pc = .ok (.invokevirtual index, 3)) (E : zv_P Γ.2.1 Δ d y bytes maxL ret1 [.ref b] hp sz v) (hy : zv_y y bytes maxL ret1 0) (hi : Cond.instanceMethod y ∈ zp_G) (hse : Cond.selects y.cls y y ∈ zp_G) {host : String} (hlk : Cond.methodLinkNest own index y host ∈ zp_N) (hroom : d + 1 ≤ R.frames ∧ 8 + (maxL + 11) + 39 * d ≤ R.locals) (hrest : (rest.map fun v => v.category).sum ≤ 8) (hf : ce ≤ R.cells ∧ sl ≤ R.slots) (k : zv_V Δ Γ Q (pc + 3) lv (v :: rest) hp sz ce sl) : zv_V Δ Γ Q pc lv (.ref b :: rest) hp sz ce sl :=
  zv_callVN (As := []) F hlv ho hC hd E hy hi hse hlk rfl hroom hrest hf (fun r hp1 sz1 q => by obtain ⟨rfl, rfl, rfl⟩ := q; exact k)
theorem zv_mVN0 (F : zv_F Δ Γ own nm cc nL ret R) (hlv : lv.length = nL) {ci N : Nat} {T : u_T} {fs : List Value} (ho : hp b = some (.inr (ci, fs))) (hC : zp_classes[ci]? = some (y.cls, T, N)) (hd : decode cc pc = .ok (.invokevirtual index, 3)) (E : zv_E Γ.2.1 Δ d y bytes maxL ret1 [.ref b] hp sz mc ms post) (hy : zv_y y bytes maxL ret1 0) (hi : Cond.instanceMethod y ∈ zp_G) (hse : Cond.selects y.cls y y ∈ zp_G) {host : String} (hlk : Cond.methodLinkNest own index y host ∈ zp_N) (hroom : d + 1 ≤ R.frames ∧ 8 + (maxL + 11) + 39 * d ≤ R.locals) (hrest : (rest.map fun v => v.category).sum ≤ 8) (hf : ce + mc ≤ R.cells ∧ sl + ms ≤ R.slots) (k : ∀ (r : Option Value) (hp1 : zv_M) (sz1 : Nat), post r hp1 sz1 → zv_V Δ Γ Q (pc + 3) lv (r.toList ++ rest) hp1 sz1 (ce + mc) (sl + ms)) : zv_V Δ Γ Q pc lv (.ref b :: rest) hp sz ce sl :=
  zv_callVN (As := []) F hlv ho hC hd E hy hi hse hlk rfl hroom hrest hf k
theorem zv_pV1 (F : zv_F Δ Γ own nm cc nL ret R) (hlv : lv.length = nL) {ci N : Nat} {T : u_T} {fs : List Value} (ho : hp b = some (.inr (ci, fs))) (hC : zp_classes[ci]? = some (y.cls, T, N)) (hd : decode cc pc = .ok (.invokevirtual index, 3)) (E : zv_P Γ.2.1 Δ d y bytes maxL ret1 [.ref b, v1] hp sz v) (hy : zv_y y bytes maxL ret1 1) (hi : Cond.instanceMethod y ∈ zp_G) (hse : Cond.selects y.cls y y ∈ zp_G) (hlk : Cond.methodLink own index y ∈ zp_G) (hroom : d + 1 ≤ R.frames ∧ 8 + (maxL + 11) + 39 * d ≤ R.locals) (hrest : (rest.map fun v => v.category).sum ≤ 8) (hf : ce ≤ R.cells ∧ sl ≤ R.slots) (k : zv_V Δ Γ Q (pc + 3) lv (v :: rest) hp sz ce sl) : zv_V Δ Γ Q pc lv (v1 :: .ref b :: rest) hp sz ce sl :=
  zv_callV (As := [v1]) F hlv ho hC hd E hy hi hse hlk rfl hroom hrest hf (fun r hp1 sz1 q => by obtain ⟨rfl, rfl, rfl⟩ := q; exact k)
theorem zv_mV1 (F : zv_F Δ Γ own nm cc nL ret R) (hlv : lv.length = nL) {ci N : Nat} {T : u_T} {fs : List Value} (ho : hp b = some (.inr (ci, fs))) (hC : zp_classes[ci]? = some (y.cls, T, N)) (hd : decode cc pc = .ok (.invokevirtual index, 3)) (E : zv_E Γ.2.1 Δ d y bytes maxL ret1 [.ref b, v1] hp sz mc ms post) (hy : zv_y y bytes maxL ret1 1) (hi : Cond.instanceMethod y ∈ zp_G) (hse : Cond.selects y.cls y y ∈ zp_G) (hlk : Cond.methodLink own index y ∈ zp_G) (hroom : d + 1 ≤ R.frames ∧ 8 + (maxL + 11) + 39 * d ≤ R.locals) (hrest : (rest.map fun v => v.category).sum ≤ 8) (hf : ce + mc ≤ R.cells ∧ sl + ms ≤ R.slots) (k : ∀ (r : Option Value) (hp1 : zv_M) (sz1 : Nat), post r hp1 sz1 → zv_V Δ Γ Q (pc + 3) lv (r.toList ++ rest) hp1 sz1 (ce + mc) (sl + ms)) : zv_V Δ Γ Q pc lv (v1 :: .ref b :: rest) hp sz ce sl :=
  zv_callV (As := [v1]) F hlv ho hC hd E hy hi hse hlk rfl hroom hrest hf k
theorem zv_pVN1 (F : zv_F Δ Γ own nm cc nL ret R) (hlv : lv.length = nL) {ci N : Nat} {T : u_T} {fs : List Value} (ho : hp b = some (.inr (ci, fs))) (hC : zp_classes[ci]? = some (y.cls, T, N)) (hd : decode cc pc = .ok (.invokevirtual index, 3)) (E : zv_P Γ.2.1 Δ d y bytes maxL ret1 [.ref b, v1] hp sz v) (hy : zv_y y bytes maxL ret1 1) (hi : Cond.instanceMethod y ∈ zp_G) (hse : Cond.selects y.cls y y ∈ zp_G) {host : String} (hlk : Cond.methodLinkNest own index y host ∈ zp_N) (hroom : d + 1 ≤ R.frames ∧ 8 + (maxL + 11) + 39 * d ≤ R.locals) (hrest : (rest.map fun v => v.category).sum ≤ 8) (hf : ce ≤ R.cells ∧ sl ≤ R.slots) (k : zv_V Δ Γ Q (pc + 3) lv (v :: rest) hp sz ce sl) : zv_V Δ Γ Q pc lv (v1 :: .ref b :: rest) hp sz ce sl :=
  zv_callVN (As := [v1]) F hlv ho hC hd E hy hi hse hlk rfl hroom hrest hf (fun r hp1 sz1 q => by obtain ⟨rfl, rfl, rfl⟩ := q; exact k)
theorem zv_mVN1 (F : zv_F Δ Γ own nm cc nL ret R) (hlv : lv.length = nL) {ci N : Nat} {T : u_T} {fs : List Value} (ho : hp b = some (.inr (ci, fs))) (hC : zp_classes[ci]? = some (y.cls, T, N)) (hd : decode cc pc = .ok (.invokevirtual index, 3)) (E : zv_E Γ.2.1 Δ d y bytes maxL ret1 [.ref b, v1] hp sz mc ms post) (hy : zv_y y bytes maxL ret1 1) (hi : Cond.instanceMethod y ∈ zp_G) (hse : Cond.selects y.cls y y ∈ zp_G) {host : String} (hlk : Cond.methodLinkNest own index y host ∈ zp_N) (hroom : d + 1 ≤ R.frames ∧ 8 + (maxL + 11) + 39 * d ≤ R.locals) (hrest : (rest.map fun v => v.category).sum ≤ 8) (hf : ce + mc ≤ R.cells ∧ sl + ms ≤ R.slots) (k : ∀ (r : Option Value) (hp1 : zv_M) (sz1 : Nat), post r hp1 sz1 → zv_V Δ Γ Q (pc + 3) lv (r.toList ++ rest) hp1 sz1 (ce + mc) (sl + ms)) : zv_V Δ Γ Q pc lv (v1 :: .ref b :: rest) hp sz ce sl :=
  zv_callVN (As := [v1]) F hlv ho hC hd E hy hi hse hlk rfl hroom hrest hf k
theorem zv_pV2 (F : zv_F Δ Γ own nm cc nL ret R) (hlv : lv.length = nL) {ci N : Nat} {T : u_T} {fs : List Value} (ho : hp b = some (.inr (ci, fs))) (hC : zp_classes[ci]? = some (y.cls, T, N)) (hd : decode cc pc = .ok (.invokevirtual index, 3)) (E : zv_P Γ.2.1 Δ d y bytes maxL ret1 [.ref b, v1, v2] hp sz v) (hy : zv_y y bytes maxL ret1 2) (hi : Cond.instanceMethod y ∈ zp_G) (hse : Cond.selects y.cls y y ∈ zp_G) (hlk : Cond.methodLink own index y ∈ zp_G) (hroom : d + 1 ≤ R.frames ∧ 8 + (maxL + 11) + 39 * d ≤ R.locals) (hrest : (rest.map fun v => v.category).sum ≤ 8) (hf : ce ≤ R.cells ∧ sl ≤ R.slots) (k : zv_V Δ Γ Q (pc + 3) lv (v :: rest) hp sz ce sl) : zv_V Δ Γ Q pc lv (v2 :: v1 :: .ref b :: rest) hp sz ce sl :=
  zv_callV (As := [v1, v2]) F hlv ho hC hd E hy hi hse hlk rfl hroom hrest hf (fun r hp1 sz1 q => by obtain ⟨rfl, rfl, rfl⟩ := q; exact k)
theorem zv_mV2 (F : zv_F Δ Γ own nm cc nL ret R) (hlv : lv.length = nL) {ci N : Nat} {T : u_T} {fs : List Value} (ho : hp b = some (.inr (ci, fs))) (hC : zp_classes[ci]? = some (y.cls, T, N)) (hd : decode cc pc = .ok (.invokevirtual index, 3)) (E : zv_E Γ.2.1 Δ d y bytes maxL ret1 [.ref b, v1, v2] hp sz mc ms post) (hy : zv_y y bytes maxL ret1 2) (hi : Cond.instanceMethod y ∈ zp_G) (hse : Cond.selects y.cls y y ∈ zp_G) (hlk : Cond.methodLink own index y ∈ zp_G) (hroom : d + 1 ≤ R.frames ∧ 8 + (maxL + 11) + 39 * d ≤ R.locals) (hrest : (rest.map fun v => v.category).sum ≤ 8) (hf : ce + mc ≤ R.cells ∧ sl + ms ≤ R.slots) (k : ∀ (r : Option Value) (hp1 : zv_M) (sz1 : Nat), post r hp1 sz1 → zv_V Δ Γ Q (pc + 3) lv (r.toList ++ rest) hp1 sz1 (ce + mc) (sl + ms)) : zv_V Δ Γ Q pc lv (v2 :: v1 :: .ref b :: rest) hp sz ce sl :=
  zv_callV (As := [v1, v2]) F hlv ho hC hd E hy hi hse hlk rfl hroom hrest hf k
theorem zv_pVN2 (F : zv_F Δ Γ own nm cc nL ret R) (hlv : lv.length = nL) {ci N : Nat} {T : u_T} {fs : List Value} (ho : hp b = some (.inr (ci, fs))) (hC : zp_classes[ci]? = some (y.cls, T, N)) (hd : decode cc pc = .ok (.invokevirtual index, 3)) (E : zv_P Γ.2.1 Δ d y bytes maxL ret1 [.ref b, v1, v2] hp sz v) (hy : zv_y y bytes maxL ret1 2) (hi : Cond.instanceMethod y ∈ zp_G) (hse : Cond.selects y.cls y y ∈ zp_G) {host : String} (hlk : Cond.methodLinkNest own index y host ∈ zp_N) (hroom : d + 1 ≤ R.frames ∧ 8 + (maxL + 11) + 39 * d ≤ R.locals) (hrest : (rest.map fun v => v.category).sum ≤ 8) (hf : ce ≤ R.cells ∧ sl ≤ R.slots) (k : zv_V Δ Γ Q (pc + 3) lv (v :: rest) hp sz ce sl) : zv_V Δ Γ Q pc lv (v2 :: v1 :: .ref b :: rest) hp sz ce sl :=
  zv_callVN (As := [v1, v2]) F hlv ho hC hd E hy hi hse hlk rfl hroom hrest hf (fun r hp1 sz1 q => by obtain ⟨rfl, rfl, rfl⟩ := q; exact k)
theorem zv_mVN2 (F : zv_F Δ Γ own nm cc nL ret R) (hlv : lv.length = nL) {ci N : Nat} {T : u_T} {fs : List Value} (ho : hp b = some (.inr (ci, fs))) (hC : zp_classes[ci]? = some (y.cls, T, N)) (hd : decode cc pc = .ok (.invokevirtual index, 3)) (E : zv_E Γ.2.1 Δ d y bytes maxL ret1 [.ref b, v1, v2] hp sz mc ms post) (hy : zv_y y bytes maxL ret1 2) (hi : Cond.instanceMethod y ∈ zp_G) (hse : Cond.selects y.cls y y ∈ zp_G) {host : String} (hlk : Cond.methodLinkNest own index y host ∈ zp_N) (hroom : d + 1 ≤ R.frames ∧ 8 + (maxL + 11) + 39 * d ≤ R.locals) (hrest : (rest.map fun v => v.category).sum ≤ 8) (hf : ce + mc ≤ R.cells ∧ sl + ms ≤ R.slots) (k : ∀ (r : Option Value) (hp1 : zv_M) (sz1 : Nat), post r hp1 sz1 → zv_V Δ Γ Q (pc + 3) lv (r.toList ++ rest) hp1 sz1 (ce + mc) (sl + ms)) : zv_V Δ Γ Q pc lv (v2 :: v1 :: .ref b :: rest) hp sz ce sl :=
  zv_callVN (As := [v1, v2]) F hlv ho hC hd E hy hi hse hlk rfl hroom hrest hf k
theorem zv_pV3 (F : zv_F Δ Γ own nm cc nL ret R) (hlv : lv.length = nL) {ci N : Nat} {T : u_T} {fs : List Value} (ho : hp b = some (.inr (ci, fs))) (hC : zp_classes[ci]? = some (y.cls, T, N)) (hd : decode cc pc = .ok (.invokevirtual index, 3)) (E : zv_P Γ.2.1 Δ d y bytes maxL ret1 [.ref b, v1, v2, v3] hp sz v) (hy : zv_y y bytes maxL ret1 3) (hi : Cond.instanceMethod y ∈ zp_G) (hse : Cond.selects y.cls y y ∈ zp_G) (hlk : Cond.methodLink own index y ∈ zp_G) (hroom : d + 1 ≤ R.frames ∧ 8 + (maxL + 11) + 39 * d ≤ R.locals) (hrest : (rest.map fun v => v.category).sum ≤ 8) (hf : ce ≤ R.cells ∧ sl ≤ R.slots) (k : zv_V Δ Γ Q (pc + 3) lv (v :: rest) hp sz ce sl) : zv_V Δ Γ Q pc lv (v3 :: v2 :: v1 :: .ref b :: rest) hp sz ce sl :=
  zv_callV (As := [v1, v2, v3]) F hlv ho hC hd E hy hi hse hlk rfl hroom hrest hf (fun r hp1 sz1 q => by obtain ⟨rfl, rfl, rfl⟩ := q; exact k)
theorem zv_mV3 (F : zv_F Δ Γ own nm cc nL ret R) (hlv : lv.length = nL) {ci N : Nat} {T : u_T} {fs : List Value} (ho : hp b = some (.inr (ci, fs))) (hC : zp_classes[ci]? = some (y.cls, T, N)) (hd : decode cc pc = .ok (.invokevirtual index, 3)) (E : zv_E Γ.2.1 Δ d y bytes maxL ret1 [.ref b, v1, v2, v3] hp sz mc ms post) (hy : zv_y y bytes maxL ret1 3) (hi : Cond.instanceMethod y ∈ zp_G) (hse : Cond.selects y.cls y y ∈ zp_G) (hlk : Cond.methodLink own index y ∈ zp_G) (hroom : d + 1 ≤ R.frames ∧ 8 + (maxL + 11) + 39 * d ≤ R.locals) (hrest : (rest.map fun v => v.category).sum ≤ 8) (hf : ce + mc ≤ R.cells ∧ sl + ms ≤ R.slots) (k : ∀ (r : Option Value) (hp1 : zv_M) (sz1 : Nat), post r hp1 sz1 → zv_V Δ Γ Q (pc + 3) lv (r.toList ++ rest) hp1 sz1 (ce + mc) (sl + ms)) : zv_V Δ Γ Q pc lv (v3 :: v2 :: v1 :: .ref b :: rest) hp sz ce sl :=
  zv_callV (As := [v1, v2, v3]) F hlv ho hC hd E hy hi hse hlk rfl hroom hrest hf k
theorem zv_pVN3 (F : zv_F Δ Γ own nm cc nL ret R) (hlv : lv.length = nL) {ci N : Nat} {T : u_T} {fs : List Value} (ho : hp b = some (.inr (ci, fs))) (hC : zp_classes[ci]? = some (y.cls, T, N)) (hd : decode cc pc = .ok (.invokevirtual index, 3)) (E : zv_P Γ.2.1 Δ d y bytes maxL ret1 [.ref b, v1, v2, v3] hp sz v) (hy : zv_y y bytes maxL ret1 3) (hi : Cond.instanceMethod y ∈ zp_G) (hse : Cond.selects y.cls y y ∈ zp_G) {host : String} (hlk : Cond.methodLinkNest own index y host ∈ zp_N) (hroom : d + 1 ≤ R.frames ∧ 8 + (maxL + 11) + 39 * d ≤ R.locals) (hrest : (rest.map fun v => v.category).sum ≤ 8) (hf : ce ≤ R.cells ∧ sl ≤ R.slots) (k : zv_V Δ Γ Q (pc + 3) lv (v :: rest) hp sz ce sl) : zv_V Δ Γ Q pc lv (v3 :: v2 :: v1 :: .ref b :: rest) hp sz ce sl :=
  zv_callVN (As := [v1, v2, v3]) F hlv ho hC hd E hy hi hse hlk rfl hroom hrest hf (fun r hp1 sz1 q => by obtain ⟨rfl, rfl, rfl⟩ := q; exact k)
theorem zv_mVN3 (F : zv_F Δ Γ own nm cc nL ret R) (hlv : lv.length = nL) {ci N : Nat} {T : u_T} {fs : List Value} (ho : hp b = some (.inr (ci, fs))) (hC : zp_classes[ci]? = some (y.cls, T, N)) (hd : decode cc pc = .ok (.invokevirtual index, 3)) (E : zv_E Γ.2.1 Δ d y bytes maxL ret1 [.ref b, v1, v2, v3] hp sz mc ms post) (hy : zv_y y bytes maxL ret1 3) (hi : Cond.instanceMethod y ∈ zp_G) (hse : Cond.selects y.cls y y ∈ zp_G) {host : String} (hlk : Cond.methodLinkNest own index y host ∈ zp_N) (hroom : d + 1 ≤ R.frames ∧ 8 + (maxL + 11) + 39 * d ≤ R.locals) (hrest : (rest.map fun v => v.category).sum ≤ 8) (hf : ce + mc ≤ R.cells ∧ sl + ms ≤ R.slots) (k : ∀ (r : Option Value) (hp1 : zv_M) (sz1 : Nat), post r hp1 sz1 → zv_V Δ Γ Q (pc + 3) lv (r.toList ++ rest) hp1 sz1 (ce + mc) (sl + ms)) : zv_V Δ Γ Q pc lv (v3 :: v2 :: v1 :: .ref b :: rest) hp sz ce sl :=
  zv_callVN (As := [v1, v2, v3]) F hlv ho hC hd E hy hi hse hlk rfl hroom hrest hf k
theorem zv_pS0 (F : zv_F Δ Γ own nm cc nL ret R) (hlv : lv.length = nL) (hd : decode cc pc = .ok (.invokestatic index, 3)) (E : zv_P Γ.2.1 Δ d y bytes maxL ret1 [] hp sz v) (hy : zv_y y bytes maxL ret1 0) (hi : Cond.static y ∈ zp_G) (hlk : Cond.methodLink own index y ∈ zp_G) (hroom : d + 1 ≤ R.frames ∧ 8 + (maxL + 11) + 39 * d ≤ R.locals) (hrest : (rest.map fun v => v.category).sum ≤ 8) (hf : ce ≤ R.cells ∧ sl ≤ R.slots) (k : zv_V Δ Γ Q (pc + 3) lv (v :: rest) hp sz ce sl) : zv_V Δ Γ Q pc lv (rest) hp sz ce sl :=
  zv_callS (As := []) F hlv hd E hy hi hlk rfl hroom hrest hf (fun r hp1 sz1 q => by obtain ⟨rfl, rfl, rfl⟩ := q; exact k)
theorem zv_mS0 (F : zv_F Δ Γ own nm cc nL ret R) (hlv : lv.length = nL) (hd : decode cc pc = .ok (.invokestatic index, 3)) (E : zv_E Γ.2.1 Δ d y bytes maxL ret1 [] hp sz mc ms post) (hy : zv_y y bytes maxL ret1 0) (hi : Cond.static y ∈ zp_G) (hlk : Cond.methodLink own index y ∈ zp_G) (hroom : d + 1 ≤ R.frames ∧ 8 + (maxL + 11) + 39 * d ≤ R.locals) (hrest : (rest.map fun v => v.category).sum ≤ 8) (hf : ce + mc ≤ R.cells ∧ sl + ms ≤ R.slots) (k : ∀ (r : Option Value) (hp1 : zv_M) (sz1 : Nat), post r hp1 sz1 → zv_V Δ Γ Q (pc + 3) lv (r.toList ++ rest) hp1 sz1 (ce + mc) (sl + ms)) : zv_V Δ Γ Q pc lv (rest) hp sz ce sl :=
  zv_callS (As := []) F hlv hd E hy hi hlk rfl hroom hrest hf k
theorem zv_pS1 (F : zv_F Δ Γ own nm cc nL ret R) (hlv : lv.length = nL) (hd : decode cc pc = .ok (.invokestatic index, 3)) (E : zv_P Γ.2.1 Δ d y bytes maxL ret1 [v1] hp sz v) (hy : zv_y y bytes maxL ret1 1) (hi : Cond.static y ∈ zp_G) (hlk : Cond.methodLink own index y ∈ zp_G) (hroom : d + 1 ≤ R.frames ∧ 8 + (maxL + 11) + 39 * d ≤ R.locals) (hrest : (rest.map fun v => v.category).sum ≤ 8) (hf : ce ≤ R.cells ∧ sl ≤ R.slots) (k : zv_V Δ Γ Q (pc + 3) lv (v :: rest) hp sz ce sl) : zv_V Δ Γ Q pc lv (v1 :: rest) hp sz ce sl :=
  zv_callS (As := [v1]) F hlv hd E hy hi hlk rfl hroom hrest hf (fun r hp1 sz1 q => by obtain ⟨rfl, rfl, rfl⟩ := q; exact k)
theorem zv_mS1 (F : zv_F Δ Γ own nm cc nL ret R) (hlv : lv.length = nL) (hd : decode cc pc = .ok (.invokestatic index, 3)) (E : zv_E Γ.2.1 Δ d y bytes maxL ret1 [v1] hp sz mc ms post) (hy : zv_y y bytes maxL ret1 1) (hi : Cond.static y ∈ zp_G) (hlk : Cond.methodLink own index y ∈ zp_G) (hroom : d + 1 ≤ R.frames ∧ 8 + (maxL + 11) + 39 * d ≤ R.locals) (hrest : (rest.map fun v => v.category).sum ≤ 8) (hf : ce + mc ≤ R.cells ∧ sl + ms ≤ R.slots) (k : ∀ (r : Option Value) (hp1 : zv_M) (sz1 : Nat), post r hp1 sz1 → zv_V Δ Γ Q (pc + 3) lv (r.toList ++ rest) hp1 sz1 (ce + mc) (sl + ms)) : zv_V Δ Γ Q pc lv (v1 :: rest) hp sz ce sl :=
  zv_callS (As := [v1]) F hlv hd E hy hi hlk rfl hroom hrest hf k
theorem zv_pS2 (F : zv_F Δ Γ own nm cc nL ret R) (hlv : lv.length = nL) (hd : decode cc pc = .ok (.invokestatic index, 3)) (E : zv_P Γ.2.1 Δ d y bytes maxL ret1 [v1, v2] hp sz v) (hy : zv_y y bytes maxL ret1 2) (hi : Cond.static y ∈ zp_G) (hlk : Cond.methodLink own index y ∈ zp_G) (hroom : d + 1 ≤ R.frames ∧ 8 + (maxL + 11) + 39 * d ≤ R.locals) (hrest : (rest.map fun v => v.category).sum ≤ 8) (hf : ce ≤ R.cells ∧ sl ≤ R.slots) (k : zv_V Δ Γ Q (pc + 3) lv (v :: rest) hp sz ce sl) : zv_V Δ Γ Q pc lv (v2 :: v1 :: rest) hp sz ce sl :=
  zv_callS (As := [v1, v2]) F hlv hd E hy hi hlk rfl hroom hrest hf (fun r hp1 sz1 q => by obtain ⟨rfl, rfl, rfl⟩ := q; exact k)
theorem zv_mS2 (F : zv_F Δ Γ own nm cc nL ret R) (hlv : lv.length = nL) (hd : decode cc pc = .ok (.invokestatic index, 3)) (E : zv_E Γ.2.1 Δ d y bytes maxL ret1 [v1, v2] hp sz mc ms post) (hy : zv_y y bytes maxL ret1 2) (hi : Cond.static y ∈ zp_G) (hlk : Cond.methodLink own index y ∈ zp_G) (hroom : d + 1 ≤ R.frames ∧ 8 + (maxL + 11) + 39 * d ≤ R.locals) (hrest : (rest.map fun v => v.category).sum ≤ 8) (hf : ce + mc ≤ R.cells ∧ sl + ms ≤ R.slots) (k : ∀ (r : Option Value) (hp1 : zv_M) (sz1 : Nat), post r hp1 sz1 → zv_V Δ Γ Q (pc + 3) lv (r.toList ++ rest) hp1 sz1 (ce + mc) (sl + ms)) : zv_V Δ Γ Q pc lv (v2 :: v1 :: rest) hp sz ce sl :=
  zv_callS (As := [v1, v2]) F hlv hd E hy hi hlk rfl hroom hrest hf k
theorem zv_mI0 (F : zv_F Δ Γ own nm cc nL ret R) (hlv : lv.length = nL) (hd : decode cc pc = .ok (.invokespecial index, 3)) (E : zv_E Γ.2.1 Δ d y bytes maxL none [.ref b] hp sz mc ms post) (hy : zv_y y bytes maxL none 0) (hi : Cond.instanceMethod y ∈ zp_G) (hin : y.name = "<init>") (hlk : Cond.methodLink own index y ∈ zp_G) (hroom : d + 1 ≤ R.frames ∧ 8 + (maxL + 11) + 39 * d ≤ R.locals) (hrest : (rest.map fun v => v.category).sum ≤ 8) (hf : ce + mc ≤ R.cells ∧ sl + ms ≤ R.slots) (k : ∀ (r : Option Value) (hp1 : zv_M) (sz1 : Nat), post r hp1 sz1 → zv_V Δ Γ Q (pc + 3) lv (r.toList ++ rest) hp1 sz1 (ce + mc) (sl + ms)) : zv_V Δ Γ Q pc lv (.ref b :: rest) hp sz ce sl :=
  zv_callI (As := []) F hlv hd E hy hi hin hlk rfl hroom hrest hf k
theorem zv_mIN0 (F : zv_F Δ Γ own nm cc nL ret R) (hlv : lv.length = nL) (hd : decode cc pc = .ok (.invokespecial index, 3)) (E : zv_E Γ.2.1 Δ d y bytes maxL none [.ref b] hp sz mc ms post) (hy : zv_y y bytes maxL none 0) (hi : Cond.instanceMethod y ∈ zp_G) (hin : y.name = "<init>") {host : String} (hlk : Cond.methodLinkNest own index y host ∈ zp_N) (hroom : d + 1 ≤ R.frames ∧ 8 + (maxL + 11) + 39 * d ≤ R.locals) (hrest : (rest.map fun v => v.category).sum ≤ 8) (hf : ce + mc ≤ R.cells ∧ sl + ms ≤ R.slots) (k : ∀ (r : Option Value) (hp1 : zv_M) (sz1 : Nat), post r hp1 sz1 → zv_V Δ Γ Q (pc + 3) lv (r.toList ++ rest) hp1 sz1 (ce + mc) (sl + ms)) : zv_V Δ Γ Q pc lv (.ref b :: rest) hp sz ce sl :=
  zv_callIN (As := []) F hlv hd E hy hi hin hlk rfl hroom hrest hf k
theorem zv_mI1 (F : zv_F Δ Γ own nm cc nL ret R) (hlv : lv.length = nL) (hd : decode cc pc = .ok (.invokespecial index, 3)) (E : zv_E Γ.2.1 Δ d y bytes maxL none [.ref b, v1] hp sz mc ms post) (hy : zv_y y bytes maxL none 1) (hi : Cond.instanceMethod y ∈ zp_G) (hin : y.name = "<init>") (hlk : Cond.methodLink own index y ∈ zp_G) (hroom : d + 1 ≤ R.frames ∧ 8 + (maxL + 11) + 39 * d ≤ R.locals) (hrest : (rest.map fun v => v.category).sum ≤ 8) (hf : ce + mc ≤ R.cells ∧ sl + ms ≤ R.slots) (k : ∀ (r : Option Value) (hp1 : zv_M) (sz1 : Nat), post r hp1 sz1 → zv_V Δ Γ Q (pc + 3) lv (r.toList ++ rest) hp1 sz1 (ce + mc) (sl + ms)) : zv_V Δ Γ Q pc lv (v1 :: .ref b :: rest) hp sz ce sl :=
  zv_callI (As := [v1]) F hlv hd E hy hi hin hlk rfl hroom hrest hf k
theorem zv_mIN1 (F : zv_F Δ Γ own nm cc nL ret R) (hlv : lv.length = nL) (hd : decode cc pc = .ok (.invokespecial index, 3)) (E : zv_E Γ.2.1 Δ d y bytes maxL none [.ref b, v1] hp sz mc ms post) (hy : zv_y y bytes maxL none 1) (hi : Cond.instanceMethod y ∈ zp_G) (hin : y.name = "<init>") {host : String} (hlk : Cond.methodLinkNest own index y host ∈ zp_N) (hroom : d + 1 ≤ R.frames ∧ 8 + (maxL + 11) + 39 * d ≤ R.locals) (hrest : (rest.map fun v => v.category).sum ≤ 8) (hf : ce + mc ≤ R.cells ∧ sl + ms ≤ R.slots) (k : ∀ (r : Option Value) (hp1 : zv_M) (sz1 : Nat), post r hp1 sz1 → zv_V Δ Γ Q (pc + 3) lv (r.toList ++ rest) hp1 sz1 (ce + mc) (sl + ms)) : zv_V Δ Γ Q pc lv (v1 :: .ref b :: rest) hp sz ce sl :=
  zv_callIN (As := [v1]) F hlv hd E hy hi hin hlk rfl hroom hrest hf k
theorem zv_mI2 (F : zv_F Δ Γ own nm cc nL ret R) (hlv : lv.length = nL) (hd : decode cc pc = .ok (.invokespecial index, 3)) (E : zv_E Γ.2.1 Δ d y bytes maxL none [.ref b, v1, v2] hp sz mc ms post) (hy : zv_y y bytes maxL none 2) (hi : Cond.instanceMethod y ∈ zp_G) (hin : y.name = "<init>") (hlk : Cond.methodLink own index y ∈ zp_G) (hroom : d + 1 ≤ R.frames ∧ 8 + (maxL + 11) + 39 * d ≤ R.locals) (hrest : (rest.map fun v => v.category).sum ≤ 8) (hf : ce + mc ≤ R.cells ∧ sl + ms ≤ R.slots) (k : ∀ (r : Option Value) (hp1 : zv_M) (sz1 : Nat), post r hp1 sz1 → zv_V Δ Γ Q (pc + 3) lv (r.toList ++ rest) hp1 sz1 (ce + mc) (sl + ms)) : zv_V Δ Γ Q pc lv (v2 :: v1 :: .ref b :: rest) hp sz ce sl :=
  zv_callI (As := [v1, v2]) F hlv hd E hy hi hin hlk rfl hroom hrest hf k
theorem zv_mIN2 (F : zv_F Δ Γ own nm cc nL ret R) (hlv : lv.length = nL) (hd : decode cc pc = .ok (.invokespecial index, 3)) (E : zv_E Γ.2.1 Δ d y bytes maxL none [.ref b, v1, v2] hp sz mc ms post) (hy : zv_y y bytes maxL none 2) (hi : Cond.instanceMethod y ∈ zp_G) (hin : y.name = "<init>") {host : String} (hlk : Cond.methodLinkNest own index y host ∈ zp_N) (hroom : d + 1 ≤ R.frames ∧ 8 + (maxL + 11) + 39 * d ≤ R.locals) (hrest : (rest.map fun v => v.category).sum ≤ 8) (hf : ce + mc ≤ R.cells ∧ sl + ms ≤ R.slots) (k : ∀ (r : Option Value) (hp1 : zv_M) (sz1 : Nat), post r hp1 sz1 → zv_V Δ Γ Q (pc + 3) lv (r.toList ++ rest) hp1 sz1 (ce + mc) (sl + ms)) : zv_V Δ Γ Q pc lv (v2 :: v1 :: .ref b :: rest) hp sz ce sl :=
  zv_callIN (As := [v1, v2]) F hlv hd E hy hi hin hlk rfl hroom hrest hf k
theorem zv_mI3 (F : zv_F Δ Γ own nm cc nL ret R) (hlv : lv.length = nL) (hd : decode cc pc = .ok (.invokespecial index, 3)) (E : zv_E Γ.2.1 Δ d y bytes maxL none [.ref b, v1, v2, v3] hp sz mc ms post) (hy : zv_y y bytes maxL none 3) (hi : Cond.instanceMethod y ∈ zp_G) (hin : y.name = "<init>") (hlk : Cond.methodLink own index y ∈ zp_G) (hroom : d + 1 ≤ R.frames ∧ 8 + (maxL + 11) + 39 * d ≤ R.locals) (hrest : (rest.map fun v => v.category).sum ≤ 8) (hf : ce + mc ≤ R.cells ∧ sl + ms ≤ R.slots) (k : ∀ (r : Option Value) (hp1 : zv_M) (sz1 : Nat), post r hp1 sz1 → zv_V Δ Γ Q (pc + 3) lv (r.toList ++ rest) hp1 sz1 (ce + mc) (sl + ms)) : zv_V Δ Γ Q pc lv (v3 :: v2 :: v1 :: .ref b :: rest) hp sz ce sl :=
  zv_callI (As := [v1, v2, v3]) F hlv hd E hy hi hin hlk rfl hroom hrest hf k
theorem zv_mIN3 (F : zv_F Δ Γ own nm cc nL ret R) (hlv : lv.length = nL) (hd : decode cc pc = .ok (.invokespecial index, 3)) (E : zv_E Γ.2.1 Δ d y bytes maxL none [.ref b, v1, v2, v3] hp sz mc ms post) (hy : zv_y y bytes maxL none 3) (hi : Cond.instanceMethod y ∈ zp_G) (hin : y.name = "<init>") {host : String} (hlk : Cond.methodLinkNest own index y host ∈ zp_N) (hroom : d + 1 ≤ R.frames ∧ 8 + (maxL + 11) + 39 * d ≤ R.locals) (hrest : (rest.map fun v => v.category).sum ≤ 8) (hf : ce + mc ≤ R.cells ∧ sl + ms ≤ R.slots) (k : ∀ (r : Option Value) (hp1 : zv_M) (sz1 : Nat), post r hp1 sz1 → zv_V Δ Γ Q (pc + 3) lv (r.toList ++ rest) hp1 sz1 (ce + mc) (sl + ms)) : zv_V Δ Γ Q pc lv (v3 :: v2 :: v1 :: .ref b :: rest) hp sz ce sl :=
  zv_callIN (As := [v1, v2, v3]) F hlv hd E hy hi hin hlk rfl hroom hrest hf k
end ZP
