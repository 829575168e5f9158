def x_start : MethodName := ⟨"LetterAlgebra$Machine", "startCode", "()I"⟩
def x_step : MethodName := ⟨"LetterAlgebra$Machine", "stepCode", "(II)I"⟩
def x_acc : MethodName := ⟨"LetterAlgebra$Machine", "isAcceptingCode", "(I)Z"⟩
/-- an interface call that is pure -/
def mc_call (l : Launch) (Δ : zv_D) (x : MethodName) (ret : Option FieldType) (n : Nat) (hp : zv_M) (b : Nat) (As : List Value) (sz : Nat) (v : Value) : Prop :=
  ∃ (C : String) (y : MethodName) (bytes : ByteArray) (maxL ci N : Nat) (T : u_T) (fs : List Value), (C, x, y) ∈ zp_F ∧ Cond.instanceMethod y ∈ zp_G ∧ Cond.selects C x y ∈ zp_G ∧ hp b = some (.inr (ci, fs)) ∧ zp_classes[ci]? = some (C, T, N) ∧ zv_y y bytes maxL ret n ∧ maxL ≤ 8 ∧ zv_P l Δ 2 y bytes maxL ret (.ref b :: As) hp sz v
theorem zv_callM {Δ : zv_D} {Γ : zv_C} {Q : State → Prop} {own nm : String} {cc : ByteArray} {nL : Nat} {ret : Option FieldType} {R : Room} {pc : Nat} {lv : List (Option Value)} {hp : zv_M} {sz ce sl : Nat} {x : MethodName} {n index count b : Nat} {ret1 : Option FieldType} {As rest st : List Value} {v : Value}
    (F : zv_F Δ Γ own nm cc nL ret R) (hlv : lv.length = nL) (hd : decode cc pc = .ok (.invokeinterface index count, 5)) (E : mc_call Γ.2.1 Δ x ret1 n hp b As sz v) (hlk : Cond.methodLink own index x ∈ zp_G) (hxd : x.cls ≠ "java/lang/invoke/MethodHandle" ∧ x.cls ≠ "java/lang/invoke/VarHandle" ∧ (parseMethodDescriptor x.desc).map (fun d => d.parameters.length) = some n) (hn : As.length = n) (hst : As.reverse ++ .ref b :: rest = st) (hroom : 3 ≤ R.frames ∧ 105 ≤ R.locals) (hrest : (rest.map fun v => v.category).sum ≤ 8) (hf : ce ≤ R.cells ∧ sl ≤ R.slots) (k : zv_V Δ Γ Q (pc + 5) lv (v :: rest) hp sz ce sl) : zv_V Δ Γ Q pc lv st hp sz ce sl := by
  obtain ⟨C, y, bytes, maxL, ci, N, T, fs, h1, h2, h3, h4, h5, h6, h7, E⟩ := E
  subst hst
  exact zv_callF F hlv hd E h6 h1 h2 h3 hlk hxd h4 h5 hn ⟨hroom.1, by omega⟩ hrest hf (fun r hp1 sz1 q => by obtain ⟨rfl, rfl, rfl⟩ := q; exact k)
/-- a machine at b: it reads the cells of S alone -/
def mc_M (Δ : zv_D) (hp : zv_M) (b : Nat) (S : Nat → Prop) (δ : Nat → Nat → Nat) (ac : Nat → Bool) (s0 : Nat) (Bd : Nat → Prop) : Prop :=
  (Bd s0 ∧ (∀ code, Bd code → code < 384) ∧ ∀ code c, Bd code → c < 2 → Bd (δ code c)) ∧ ∀ (l : Launch) (hp' : zv_M) (sz : Nat), (∀ q, S q → hp' q = hp q) →
    mc_call l Δ x_start (some .int) 0 hp' b [] sz (.int (nI s0)) ∧ (∀ code c, Bd code → c < 2 → mc_call l Δ x_step (some .int) 2 hp' b [.int (nI code), .int (nI c)] sz (.int (nI (δ code c)))) ∧ ∀ code, Bd code → mc_call l Δ x_acc (some .boolean) 1 hp' b [.int (nI code)] sz (.int (nI (ac code).toNat))
theorem mc_M.moved {Δ : zv_D} {hp hp1 : zv_M} {b : Nat} {S : Nat → Prop} {δ : Nat → Nat → Nat} {ac : Nat → Bool} {s0 : Nat} {Bd : Nat → Prop} (h : mc_M Δ hp b S δ ac s0 Bd) (e : ∀ q, S q → hp1 q = hp q) : mc_M Δ hp1 b S δ ac s0 Bd :=
  ⟨h.1, fun l hp' sz h2 => h.2 l hp' sz (fun q hq => (h2 q hq).trans (e q hq))⟩
theorem mc_ba {Δ : zv_D} {hp : zv_M} {b k : Nat} (hB : hp b = some (.inr (2, [.int (nI k)]))) (hk : k < 4) : mc_M Δ hp b (fun q => q = b) (pm_ba k) (pm_baA k) 0 (fun code => code < 3) := by
  refine ⟨⟨by decide, fun code h => by omega, fun code c _ _ => by unfold pm_ba; split <;> omega⟩, fun l hp' sz h => ?_⟩
  have hB' := (h b rfl).trans hB
  exact ⟨⟨_, _, _, _, _, _, _, _, Ff_Ba_startCode, Yi_Ba_startCode, Fs_Ba_startCode, hB', k_Ba.1, Y_Ba_startCode, by decide, Ba_startCode_ok⟩,
    fun code c h1 h2 => ⟨_, _, _, _, _, _, _, _, Ff_Ba_stepCode, Yi_Ba_stepCode, Fs_Ba_stepCode, hB', k_Ba.1, Y_Ba_stepCode, by decide, Ba_stepCode_ok hB' hk (by omega) h2⟩,
    fun code h1 => ⟨_, _, _, _, _, _, _, _, Ff_Ba_isAcceptingCode, Yi_Ba_isAcceptingCode, Fs_Ba_isAcceptingCode, hB', k_Ba.1, Y_Ba_isAcceptingCode, by decide, Ba_isAcceptingCode_ok hB' hk (by omega)⟩⟩
theorem au_at.moved {Δ : zv_D} {hp hp1 : zv_M} {a n acc : Nat} {g : Nat → Nat} (h : au_at Δ hp a n acc g) (e1 : hp1 a = hp a) (e2 : hp1 (a + 1) = hp (a + 1)) : au_at Δ hp1 a n acc g := ⟨e1.trans h.1, e2.trans h.2⟩
theorem mc_pa {Δ : zv_D} {hp : zv_M} {b a1 a2 n1 n2 c1 c2 : Nat} {both : Bool} {g1 g2 : Nat → Nat} (hB : hp b = some (.inr (3, [.ref a1, .ref a2, .int (nI both.toNat)]))) (hA1 : au_at Δ hp a1 n1 c1 g1) (ho1 : au_ok n1 c1 g1) (hA2 : au_at Δ hp a2 n2 c2 g2) (ho2 : au_ok n2 c2 g2) : mc_M Δ hp b (fun q => q = b ∨ q = a1 ∨ q = a1 + 1 ∨ q = a2 ∨ q = a2 + 1) (pm_pa g1 g2) (pm_paA both c1 c2) 0 (fun code => code < 36) := by
  refine ⟨⟨by decide, fun code h => by omega, fun code c h1 h2 => ?_⟩, fun l hp' sz h => ?_⟩
  · have q1 := ho1.2.2 (2 * (code / 6) + c) (by omega)
    have q2 := ho2.2.2 (2 * (code % 6) + c) (by omega)
    unfold pm_pa
    omega
  have hB' := (h b (Or.inl rfl)).trans hB
  have hA1' := hA1.moved (h a1 (by omega)) (h (a1 + 1) (by omega))
  have hA2' := hA2.moved (h a2 (by omega)) (h (a2 + 1) (by omega))
  exact ⟨⟨_, _, _, _, _, _, _, _, Ff_Pa_startCode, Yi_Pa_startCode, Fs_Pa_startCode, hB', k_Pa.1, Y_Pa_startCode, by decide, Pa_startCode_ok⟩,
    fun code c h1 h2 => ⟨_, _, _, _, _, _, _, _, Ff_Pa_stepCode, Yi_Pa_stepCode, Fs_Pa_stepCode, hB', k_Pa.1, Y_Pa_stepCode, by decide, Pa_stepCode_ok hB' hA1' hA2' h1 h2⟩,
    fun code h1 => ⟨_, _, _, _, _, _, _, _, Ff_Pa_isAcceptingCode, Yi_Pa_isAcceptingCode, Fs_Pa_isAcceptingCode, hB', k_Pa.1, Y_Pa_isAcceptingCode, by decide, Pa_isAcceptingCode_ok hB' hA1' hA2' ho1.2.1 ho2.2.1 h1⟩⟩
theorem pm_or1 {s : Nat} (h : s < 64) : s ||| 1 < 64 := Nat.or_lt_two_pow (n := 6) h (by decide)
theorem pm_of_lt {a p set : Nat} (hp6 : p < 6) (hs : set < 64) : pm_of a p set < 384 := by
  have := pm_or1 hs
  unfold pm_of
  split <;> omega
theorem mc_ch {Δ : zv_D} {hp : zv_M} {b a1 a2 n1 n2 c1 c2 : Nat} {g1 g2 : Nat → Nat} (hB : hp b = some (.inr (4, [.ref a1, .ref a2]))) (hA1 : au_at Δ hp a1 n1 c1 g1) (ho1 : au_ok n1 c1 g1) (hA2 : au_at Δ hp a2 n2 c2 g2) (ho2 : au_ok n2 c2 g2) : mc_M Δ hp b (fun q => q = b ∨ q = a1 ∨ q = a1 + 1 ∨ q = a2 ∨ q = a2 + 1) (pm_ch c1 g1 g2 n2) (pm_chA c2) (pm_of c1 0 0) (fun code => code < 384) := by
  refine ⟨⟨pm_of_lt (by decide) (by decide), fun code h => h, fun code c h1 h2 => pm_of_lt (ho1.2.2 (2 * (code / 64) + c) (by omega)) (au_ss_lt ho2.2.2 h2 n2 ho2.1)⟩, fun l hp' sz h => ?_⟩
  have hB' := (h b (Or.inl rfl)).trans hB
  have hA1' := hA1.moved (h a1 (by omega)) (h (a1 + 1) (by omega))
  have hA2' := hA2.moved (h a2 (by omega)) (h (a2 + 1) (by omega))
  exact ⟨⟨_, _, _, _, _, _, _, _, Ff_Ch_startCode, Yi_Ch_startCode, Fs_Ch_startCode, hB', k_Ch.1, Y_Ch_startCode, by decide, Ch_startCode_ok hB' hA1' ho1.2.1⟩,
    fun code c h1 h2 => ⟨_, _, _, _, _, _, _, _, Ff_Ch_stepCode, Yi_Ch_stepCode, Fs_Ch_stepCode, hB', k_Ch.1, Y_Ch_stepCode, by decide, Ch_stepCode_ok hB' hA1' ho1 hA2' ho2 h1 h2⟩,
    fun code h1 => ⟨_, _, _, _, _, _, _, _, Ff_Ch_isAcceptingCode, Yi_Ch_isAcceptingCode, Fs_Ch_isAcceptingCode, hB', k_Ch.1, Y_Ch_isAcceptingCode, by decide, Ch_isAcceptingCode_ok hB' hA2' ho2.2.1 h1⟩⟩
theorem pm_sf_lt {a s : Nat} (hs : s < 64) : pm_sf a s < 64 := by
  have := pm_or1 hs
  unfold pm_sf
  split <;> omega
theorem mc_st {Δ : zv_D} {hp : zv_M} {b a n acc : Nat} {g : Nat → Nat} (hB : hp b = some (.inr (5, [.ref a]))) (hA : au_at Δ hp a n acc g) (ho : au_ok n acc g) : mc_M Δ hp b (fun q => q = b ∨ q = a ∨ q = a + 1) (pm_st acc g n) (pm_stA acc) 64 (fun code => code ≤ 64) := by
  refine ⟨⟨by decide, fun code h => by omega, fun code c h1 h2 => Nat.le_of_lt (pm_sf_lt (au_ss_lt ho.2.2 h2 n ho.1))⟩, fun l hp' sz h => ?_⟩
  have hB' := (h b (Or.inl rfl)).trans hB
  have hA' := hA.moved (h a (by omega)) (h (a + 1) (by omega))
  exact ⟨⟨_, _, _, _, _, _, _, _, Ff_St_startCode, Yi_St_startCode, Fs_St_startCode, hB', k_St.1, Y_St_startCode, by decide, St_startCode_ok⟩,
    fun code c h1 h2 => ⟨_, _, _, _, _, _, _, _, Ff_St_stepCode, Yi_St_stepCode, Fs_St_stepCode, hB', k_St.1, Y_St_stepCode, by decide, St_stepCode_ok hB' hA' ho h1 h2⟩,
    fun code h1 => ⟨_, _, _, _, _, _, _, _, Ff_St_isAcceptingCode, Yi_St_isAcceptingCode, Fs_St_isAcceptingCode, hB', k_St.1, Y_St_isAcceptingCode, by decide, St_isAcceptingCode_ok hB' hA' ho.2.1 h1⟩⟩
theorem mc_in {Δ : zv_D} {hp : zv_M} {b a n acc : Nat} {g : Nat → Nat} (hB : hp b = some (.inr (6, [.ref a]))) (hA : au_at Δ hp a n acc g) (ho : au_ok n acc g) : mc_M Δ hp b (fun q => q = b ∨ q = a ∨ q = a + 1) (pm_in g) (pm_inA acc) 0 (fun code => code < 6) := by
  refine ⟨⟨by decide, fun code h => by omega, fun code c h1 h2 => ho.2.2 (2 * code + c) (by omega)⟩, fun l hp' sz h => ?_⟩
  have hB' := (h b (Or.inl rfl)).trans hB
  have hA' := hA.moved (h a (by omega)) (h (a + 1) (by omega))
  exact ⟨⟨_, _, _, _, _, _, _, _, Ff_In_startCode, Yi_In_startCode, Fs_In_startCode, hB', k_In.1, Y_In_startCode, by decide, In_startCode_ok⟩,
    fun code c h1 h2 => ⟨_, _, _, _, _, _, _, _, Ff_In_stepCode, Yi_In_stepCode, Fs_In_stepCode, hB', k_In.1, Y_In_stepCode, by decide, In_stepCode_ok hB' hA' h1 h2⟩,
    fun code h1 => ⟨_, _, _, _, _, _, _, _, Ff_In_isAcceptingCode, Yi_In_isAcceptingCode, Fs_In_isAcceptingCode, hB', k_In.1, Y_In_isAcceptingCode, by decide, In_isAcceptingCode_ok hB' hA' ho.2.1 h1⟩⟩

