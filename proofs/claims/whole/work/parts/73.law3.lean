/-! THE CLAIM OUT OF ONE WALK OF THE LAW'S BODY. Your part is whole_start (and what it stands on); all else here is the same for every law, but numbers. -/
def lw_P (b : Addr) (xs : List Int32) (args : Array Value) (s : State) : Prop := args = #[.ref b] ∧ s.IntsAt b xs ∧ xs.length ≤ 2560 ∧ (Jvm.Cond.and given_1 narrow_1).before args s = true
def lw_Q (_ : Array Value) (s : State) (o : Outcome) (t : State) : Prop := o = .returned (some (.int 1)) ∧ Framed s o t [] 600000 7302250
def lw_Z (below : List Frame) (a : Array Value) (s : State) : State → Prop := fun t => ∃ o, t.status = .running ∧ Ended t below o ∧ lw_Q a s o t
/-- the law's own end, with 1 on the stack, nothing written that was there before, its room as the claim has it -/
theorem lw_ret {p : Program} {l : Launch} {e : Env} {s : State} {m : MethodId} {below : List Frame} {meth : Method} {c : Code} {b : Nat} (hx : p.tables.exec = Jvm.exec) (hb : c.code = code) (hr : meth.sig.returnType = ret) (hlocks : meth.locks = false) {pc : Nat} {H : Heap} {ls : Array Slot} (hdg : decode code pc = .ok (.ireturn, 1)) : W p l e room_1 s m #[Value.ref b] below meth c H [] 600000 7302250 (lw_Z below #[Value.ref b] s) (F0 m pc ls [.int 1]) := by
  intro T hT X
  obtain ⟨fs, hret, hrun, hended, hW, hframe⟩ := X.leave (v := some (.int 1)) (hlocks := hlocks) (fun h => by rw [hr] at h; cases h)
  have hmeth' : T.vm.method? m = some meth := X.method'
  refine ⟨T.setFrames fs, ?_, .returned (some (.int 1)), hrun, hended, rfl, ⟨_, rfl⟩, hW, hframe⟩
  jvm_step X.here [X.here.top, hx, hb, hdg, hmeth', hr, ret, narrow_b1]
  (try refine ⟨rfl, ?_⟩); (try refine ⟨rfl, ?_⟩)
  first | (intro acts; rw [hret _ acts rfl rfl rfl]) | rw [hret _ _ rfl rfl rfl]
  exact Steps.refl _
/-- what holds at the law's entry: the machine, the code, the tables' words (any of lw_tbl by 'hts w (by decide +kernel)'), the script of L ints xs at the cell b, what the Statement gives of the start (any of its parts by flat_of_before) -/
def lw_At (p : Program) (s : State) (m : MethodId) (meth : Method) (c : Code) (b L : Nat) (xs : Nat → Int32) : Prop :=
  p.tables.exec = Jvm.exec ∧ c.code = code ∧ meth.sig.returnType = ret ∧ c.maxLocals = 4 ∧ s.vm.findClass R_law = some m.cls ∧ (∀ w ∈ lw_tbl, w.before #[Value.ref b] s = true) ∧ va_X b L xs s s.heap ∧ b < s.heap.size ∧ meth.locks = false ∧ (Jvm.Cond.and given_1 narrow_1).before #[Value.ref b] s = true
theorem lw_loop {Δ : zv_D} {Γ : zv_C} {Q : State → Prop} {nm : String} {b L x y : Nat} {xs : Nat → Int32} (F : zv_F Δ Γ R_law nm code 4 ret room_1) (hX : va_X b L xs Γ.2.2.2.2.1 Δ.1) (hbl : b < Δ.1.size) (hL : L ≤ 2560) (hE : ∀ (i : Nat) (hp : zv_M) (sz ce sl : Nat), ce ≤ 600000 → sl ≤ 7302250 → zv_V Δ Γ Q 716 [some (.ref b), some (.ref x), some (.ref y), some (.int (nI i))] [.int (nI 1)] hp sz ce sl) : ∀ (m i : Nat) (hp : zv_M) (sz ce sl : Nat), m = L - i → i ≤ L → jt_at Δ hp sz x y → ce ≤ 100 + i → sl ≤ 20000 + 3 * i → zv_V Δ Γ Q 18 [some (.ref b), some (.ref x), some (.ref y), some (.int (nI i))] [] hp sz ce sl := by
  intro m
  induction m using Nat.strongRecOn with
  | ind m ih =>
    intro i hp sz ce sl hm hi J hce hsl
    refine zv_iload_n F d_Lw_law_18 rfl ?_
    refine zv_aload_n F d_Lw_law_19 rfl ?_
    refine zv_slen F d_Lw_law_20 hX hbl ?_
    refine zn_iconst (x := 5) F d_Lw_law_21 (by decide) ?_
    refine zv_isub F d_Lw_law_22 ?_
    refine zv_icmp_gt (tgt := 715) F d_Lw_law_23 rfl (fun h23 => ?_) (fun h23 => ?_)
    · refine zn_iconst (x := 1) F d_Lw_law_715 (by decide) ?_
      exact hE i hp sz ce sl (by omega) (by omega)
    · have hi5 : i + 5 ≤ L := by have q := mt (zn_gt5 hL (show i ≤ 2560 by omega)).mpr h23; omega
      have K : lw_K Δ Γ Q b x y i := by
        intro hp sz ce sl J hce hsl
        refine zv_iinc (v := nI (i + 5)) F d_Lw_law_709 rfl (zn_i5 i) ?_
        simp only [zv_s1, zv_s2, zv_kill, List.set_cons_zero, List.set_cons_succ, List.getElem?_cons_zero, List.getElem?_cons_succ]
        refine zv_goto (tgt := 18) F d_Lw_law_712 rfl ?_
        exact ih (L - (i + 5)) (by omega) (i + 5) hp sz ce sl rfl (by omega) J (by omega) (by omega)
      refine zv_aload_n F d_Lw_law_26 rfl ?_
      refine zv_iload_n F d_Lw_law_27 rfl ?_
      refine zn_sld F d_Lw_law_28 hX hbl (by omega) (by omega) ?_
      refine zn_bipush (x := 31) F d_Lw_law_29 (by decide) ?_
      refine zn_iand F d_Lw_law_31 ?_
      rw [show zx xs i &&& 31 = zx xs i % 32 from Nat.and_two_pow_sub_one_eq_mod _ 5]
      have hv : zx xs i % 32 < 32 := Nat.mod_lt _ (by decide)
      generalize zx xs i % 32 = v at hv ⊢
      by_cases h20 : 20 ≤ v
      · exact zv_tableOut (tgt := 709) F d_Lw_law_32 (Or.inr (by rw [nI_toInt (by omega)]; omega)) rfl (K hp sz ce sl J (by omega) (by omega))
      · rcases (show v = 0 ∨ v = 1 ∨ v = 2 ∨ v = 3 ∨ v = 4 ∨ v = 5 ∨ v = 6 ∨ v = 7 ∨ v = 8 ∨ v = 9 ∨ v = 10 ∨ v = 11 ∨ v = 12 ∨ v = 13 ∨ v = 14 ∨ v = 15 ∨ v = 16 ∨ v = 17 ∨ v = 18 ∨ v = 19 by omega) with rfl | rfl | rfl | rfl | rfl | rfl | rfl | rfl | rfl | rfl | rfl | rfl | rfl | rfl | rfl | rfl | rfl | rfl | rfl | rfl
        · exact zv_tableIn (tgt := 128) F d_Lw_law_32 (by decide) (by decide) (by rfl) rfl (lw_c0 F hX hbl hL hi5 J hce hsl K)
        · exact zv_tableIn (tgt := 151) F d_Lw_law_32 (by decide) (by decide) (by rfl) rfl (lw_c1 F hX hbl hL hi5 J hce hsl K)
        · exact zv_tableIn (tgt := 184) F d_Lw_law_32 (by decide) (by decide) (by rfl) rfl (lw_c2 F hX hbl hL hi5 J hce hsl K)
        · exact zv_tableIn (tgt := 217) F d_Lw_law_32 (by decide) (by decide) (by rfl) rfl (lw_c3 F hX hbl hL hi5 J hce hsl K)
        · exact zv_tableIn (tgt := 250) F d_Lw_law_32 (by decide) (by decide) (by rfl) rfl (lw_c4 F hX hbl hL hi5 J hce hsl K)
        · exact zv_tableIn (tgt := 273) F d_Lw_law_32 (by decide) (by decide) (by rfl) rfl (lw_c5 F hX hbl hL hi5 J hce hsl K)
        · exact zv_tableIn (tgt := 296) F d_Lw_law_32 (by decide) (by decide) (by rfl) rfl (lw_c6 F hX hbl hL hi5 J hce hsl K)
        · exact zv_tableIn (tgt := 309) F d_Lw_law_32 (by decide) (by decide) (by rfl) rfl (lw_c7 F hX hbl hL hi5 J hce hsl K)
        · exact zv_tableIn (tgt := 322) F d_Lw_law_32 (by decide) (by decide) (by rfl) rfl (lw_c8 F hX hbl hL hi5 J hce hsl K)
        · exact zv_tableIn (tgt := 345) F d_Lw_law_32 (by decide) (by decide) (by rfl) rfl (lw_c9 F hX hbl hL hi5 J hce hsl K)
        · exact zv_tableIn (tgt := 388) F d_Lw_law_32 (by decide) (by decide) (by rfl) rfl (lw_c10 F hX hbl hL hi5 J hce hsl K)
        · exact zv_tableIn (tgt := 421) F d_Lw_law_32 (by decide) (by decide) (by rfl) rfl (lw_c11 F hX hbl hL hi5 J hce hsl K)
        · exact zv_tableIn (tgt := 494) F d_Lw_law_32 (by decide) (by decide) (by rfl) rfl (lw_c12 F hX hbl hL hi5 J hce hsl K)
        · exact zv_tableIn (tgt := 527) F d_Lw_law_32 (by decide) (by decide) (by rfl) rfl (lw_c13 F hX hbl hL hi5 J hce hsl K)
        · exact zv_tableIn (tgt := 550) F d_Lw_law_32 (by decide) (by decide) (by rfl) rfl (lw_c14 F hX hbl hL hi5 J hce hsl K)
        · exact zv_tableIn (tgt := 563) F d_Lw_law_32 (by decide) (by decide) (by rfl) rfl (lw_c15 F hX hbl hL hi5 J hce hsl K)
        · exact zv_tableIn (tgt := 587) F d_Lw_law_32 (by decide) (by decide) (by rfl) rfl (lw_c16 F hX hbl hL hi5 J hce hsl K)
        · exact zv_tableIn (tgt := 620) F d_Lw_law_32 (by decide) (by decide) (by rfl) rfl (lw_c17 F hX hbl hL hi5 J hce hsl K)
        · exact zv_tableIn (tgt := 663) F d_Lw_law_32 (by decide) (by decide) (by rfl) rfl (lw_c18 F hX hbl hL hi5 J hce hsl K)
        · exact zv_tableIn (tgt := 686) F d_Lw_law_32 (by decide) (by decide) (by rfl) rfl (lw_c19 F hX hbl hL hi5 J hce hsl K)
theorem whole_start {p : Program} {e : Env} {s : State} {m : MethodId} {below : List Frame} {meth : Method} {c : Code} (l : Launch) {b L : Nat} {xs : Nat → Int32} (hL : L ≤ 2560) (C0 : lw_At p s m meth c b L xs) : W p l e room_1 s m #[Value.ref b] below meth c s.heap [] 0 0 (lw_Z below #[Value.ref b] s) (entryFrame m ([Value.ref b] : List Value).toArray 4) := by
  obtain ⟨hx, hb, hr, hml, hown, hts, hX, hbl, hlk, hgv⟩ := C0
  obtain ⟨D, cA, hT⟩ := zv_start hts
  have hG : ∀ w ∈ zp_G, w.before #[Value.ref b] s = true := fun w hw => hts w (List.mem_filter.mp hw).1
  have F : zv_F (s.heap, D, cA) (p, l, e, room_1, s, m, #[Value.ref b], below, meth, c) R_law meth.name code 4 ret room_1 := ⟨hx, hb, hml, hown, hG, hT, hr, hlk, rfl, rfl⟩
  have hE : ∀ (x y i : Nat) (hp : zv_M) (sz ce sl : Nat), ce ≤ 600000 → sl ≤ 7302250 → zv_V (s.heap, D, cA) (p, l, e, room_1, s, m, #[Value.ref b], below, meth, c) (lw_Z below #[Value.ref b] s) 716 [some (.ref b), some (.ref x), some (.ref y), some (.int (nI i))] [.int (nI 1)] hp sz ce sl := by
    intro x y i hp sz ce sl h1 h2 H locs ls hH hlo hLs
    exact va_forget hlo (W.widen h1 h2 (lw_ret hx hb hr hlk d_Lw_law_716))
  have main : zv_V (s.heap, D, cA) (p, l, e, room_1, s, m, #[Value.ref b], below, meth, c) (lw_Z below #[Value.ref b] s) 0 [some (.ref b), none, none, none] [] (fun _ => none) s.heap.size 0 0 := by
    generalize s.heap.size = z0
    refine zv_new (fs := [.null, .int (nI 0), .null, .null]) F d_Lw_law_0 k_LA t_LA t_LA_ok nw_LA ln_Lw_7 ki_LA kz_LA (Nat.le_of_ble_eq_true rfl) (Nat.le_of_ble_eq_true rfl) (fun hp0 l0 e0 => ?_)
    have fN := zv_eq e0
    refine zv_dup F d_Lw_law_3 rfl ?_
    refine zv_mI0 F rfl d_Lw_law_4 (LA_init_ok fN rfl) Y_LA_init Yi_LA_init rfl ln_Lw_9 ⟨(Nat.le_of_ble_eq_true rfl), (Nat.le_of_ble_eq_true rfl)⟩ (Nat.le_of_ble_eq_true rfl) ⟨(Nat.le_of_ble_eq_true rfl), (Nat.le_of_ble_eq_true rfl)⟩ (fun r hp4 sz4 q4 => ?_)
    obtain ⟨rfl, rfl, hLA, fr1⟩ := q4
    try simp only [Option.toList, List.cons_append, List.nil_append]
    refine zv_astore_n F d_Lw_law_7 (Nat.le_of_ble_eq_true rfl) ?_
    simp only [zv_s1, zv_s2, zv_kill, List.set_cons_zero, List.set_cons_succ, List.getElem?_cons_zero, List.getElem?_cons_succ]
    refine zv_new (fs := [.int (nI 0), .null, .null, .null, .int (nI 0), .int (nI 0), .int (nI 0), .null, .null, .null, .null, .null, .int (nI 0), .int (nI 0), .null, .null, .null, .null, .null]) F d_Lw_law_8 k_Mo t_Mo t_Mo_ok nw_Mo ln_Lw_10 ki_Mo kz_Mo (Nat.le_of_ble_eq_true rfl) (Nat.le_of_ble_eq_true rfl) (fun hp8 l8 e8 => ?_)
    have fM := zv_eq e8
    have hLA1 := hLA.moved (hp1 := hp8) (fun q q1 q2 => zv_ne e8 (by omega))
    refine zv_dup F d_Lw_law_11 rfl ?_
    refine zv_mI0 F rfl d_Lw_law_12 (Mo_init_ok fM rfl) Y_Mo_init Yi_Mo_init rfl ln_Lw_12 ⟨(Nat.le_of_ble_eq_true rfl), (Nat.le_of_ble_eq_true rfl)⟩ (Nat.le_of_ble_eq_true rfl) ⟨(Nat.le_of_ble_eq_true rfl), (Nat.le_of_ble_eq_true rfl)⟩ (fun r hp12 sz12 q12 => ?_)
    obtain ⟨rfl, rfl, fr2, m0, m1, m2, m3, m4, m5, m6, m7, m8, m9, ma, mb, mc, md⟩ := q12
    have hLA2 := hLA1.moved (hp1 := hp12) (fun q q1 q2 => fr2 q (by omega))
    try simp only [Option.toList, List.cons_append, List.nil_append]
    refine zv_astore_n F d_Lw_law_15 (Nat.le_of_ble_eq_true rfl) ?_
    simp only [zv_s1, zv_s2, zv_kill, List.set_cons_zero, List.set_cons_succ, List.getElem?_cons_zero, List.getElem?_cons_succ]
    refine zn_iconst (x := 0) F d_Lw_law_16 (by decide) ?_
    refine zv_istore_n F d_Lw_law_17 (Nat.le_of_ble_eq_true rfl) ?_
    simp only [zv_s1, zv_s2, zv_kill, List.set_cons_zero, List.set_cons_succ, List.getElem?_cons_zero, List.getElem?_cons_succ]
    exact lw_loop F hX hbl hL (hE z0 (z0 + 43)) _ 0 hp12 _ _ _ rfl (Nat.zero_le _) ⟨0, 0, fun _ => 0, fun _ => 0, fun _ _ => 0, fun _ => 0, fun _ => 0, fun _ => 0, fun _ => 0, fun _ => 0, fun _ => 0, fun _ => 0, fun _ => 0, fun _ => 0, fun _ => 0, hLA2, ⟨⟨0, 0, 0, 0, m0⟩, m1, m2, m3, _, _, _, _, _, _, _, _, m4, m5, m6, m7, m8, m9, ma, mb, mc, md⟩, ⟨by decide, ⟨fun _ _ => Nat.zero_lt_succ 5, fun _ _ => Nat.zero_lt_succ 63⟩, fun i hi => absurd hi (Nat.not_lt_zero i)⟩, Or.inl rfl, by omega, by omega⟩ (by decide) (by decide)
  have hlen : (lg_sl [Value.ref b]).length ≤ 4 := Nat.le_of_ble_eq_true rfl
  have hl := lv_entry [Value.ref b] (n := 4) hlen
  rw [lg_entry_eq]
  have hlv : zv_args [Value.ref b] 4 = [some (.ref b), none, none, none] := rfl
  rw [← hlv] at main
  exact main s.heap [] _ ⟨rfl, Nat.le_refl _, fun q _ => rfl, fun a e h => by cases h⟩ (fun q h => by cases h) ⟨by rw [hl.1, zv_args_len [Value.ref b] 4 hlen], hl.2.1, fun i v h => hl.2.2 (i, v) (by have := zv_args_mem [Value.ref b] 4 0 i v h; simpa using this)⟩
set_option maxHeartbeats 4000000 in
theorem lw_walk (l : Launch) (b : Addr) (xs : List Int32) : MetFree l x (headSpec (Jvm.Cond.code x code maxLocals ret :: tables_1) room_1) (lw_P b xs) (fun _ _ _ _ _ => True) lw_Q := by
  refine MetFree.of_bodyS (code := code) (maxLocals := maxLocals) (ret := ret) (by decide) ?_ ?_
  · intro args s m h hn
    obtain ⟨meth, c, h1, h2, h3, h4, h5, h6, -, -⟩ := Cond.code_spec hn (atoms_spec (ws := Jvm.Cond.code x code maxLocals ret :: tables_1) h _ List.mem_cons_self)
    exact ⟨meth, c, h1, h2, h3, h4, h5, h6⟩
  · intro p e s m args below meth c s₁ B hml0 hP _
    obtain ⟨rfl, hx, hbd, hgv⟩ := hP
    obtain ⟨scr, harrAt, hlist, hof, hsmall⟩ := hx
    obtain ⟨hcb, hkn, -, -⟩ := State.arrayAt?_spec harrAt
    have hown : s.vm.findClass R_law = some m.cls := findClass_of_methodNamed B.named
    have hts0 : ∀ c ∈ (Jvm.Cond.code x code maxLocals ret :: tables_1), c.before #[Value.ref b] s = true := atoms_spec (ws := Jvm.Cond.code x code maxLocals ret :: tables_1) B.pre
    have hts : ∀ w ∈ lw_tbl, w.before #[Value.ref b] s = true := k2_hts_sels lw_privs (fun w hw => hts0 w (List.mem_cons_of_mem _ hw)) lw_privs_ok
    have hml : c.maxLocals = 4 := B.maxLocals_eq (hts0 _ List.mem_cons_self)
    have X₀ : Stand p l e room_1 s m #[Value.ref b] below meth c s₁ [] 0 0 := Stand.of_body B
    have hh0 : s₁.heap = s.heap := by rw [B.state]; rfl
    have hsz : scr.slots.size = xs.length := by rw [← Array.length_toList, hlist, List.length_map]
    have hval : ∀ j : Nat, j < xs.length → scr.slots[j]? = some (.int (xs.getD j 0)) := fun j hj => by
      rw [← Array.getElem?_toList, hlist]
      simp [hj]
    have hbl : b < s.heap.size := (Array.getElem?_eq_some_iff.mp hcb).1
    have hX : va_X b xs.length (fun j => xs.getD j 0) s s.heap := ⟨scr, hcb, hof, hkn, hsz, hval⟩
    have K : W p l e room_1 s m #[Value.ref b] below meth c s₁.heap [] 0 0 (lw_Z below #[Value.ref b] s) (entryFrame m ([Value.ref b] : List Value).toArray 4) := by
      rw [hh0]
      exact whole_start l hbd ⟨B.exec, B.bytes, B.returns, hml, hown, hts, hX, hbl, B.notSynchronized, hgv⟩
    obtain ⟨t, a1, o, b1, b2, b3⟩ := K s₁ rfl X₀
    exact ⟨t, o, a1, b1, b2, b3⟩
theorem lw_pre_spec {args : Array Value} {s : State} (h : (Jvm.Cond.and given_1 narrow_1).before args s = true) (hr : rest_1_c.before args s = true) : ∃ (b : Addr) (xs : List Int32), lw_P b xs args s := by
  have hs := flat_of_before _ h
  have hq := flat_of_before _ hr
  have hc : (Cond.count 1).before args s = true := hs _ (by decide +kernel)
  have harr : (Cond.arrayOf (.arg 0) .int).before args s = true := hs _ (by decide +kernel)
  have hle : (Cond.le (.length (.arg 0)) (.int 2560)).before args s = true := hs _ (by decide +kernel)
  have hlen : (Cond.isInt (.length (.arg 0))).before args s = true := hq _ (by decide +kernel)
  have hall : (Cond.all (.arg 0) (.isInt (.elem (.arg 0) (.index 0)))).before args s = true := hq _ (by decide +kernel)
  obtain ⟨b, xs, hb, hx⟩ := State.ints_of_pre rfl harr hlen hall
  have hsm : xs.length < 2 ^ 31 := hx.choose_spec.2.2.2
  have hev : (Term.length (.arg 0)).eval args s none [] s = some (.int xs.length.toInt32) := hx.length_eval hb
  have hv := Cond.le_ints hev (show (Term.int 2560).eval args s none [] s = some (.int 2560) from rfl)
  have hd : xs.length.toInt32 ≤ 2560 := by
    simpa [Cond.before, Cond.holds, hv] using hle
  have hN : xs.length ≤ 2560 := (Int32.ofNat_le_ofNat hsm (by decide)).mp (show Int32.ofNat xs.length ≤ Int32.ofNat 2560 from hd)
  exact ⟨b, xs, Cond.one_arg hc (show args[0]? = some (.ref b) from hb), hx, hN, h⟩
theorem lw_comes (l : Launch) : Comes l x (Jvm.Cond.code x code maxLocals ret :: tables_1) room_1 (fun tb e args s => Calls_1 tb e args s ∧ rest_1 tb e args s ∧ Pre_1 tb e args s)
    (fun _ _ args s o t => lw_Q args s o t) := by
  intro p e ha hc hk s m args below hf hfit hheap happ hpre
  obtain ⟨b, xs, hP⟩ := lw_pre_spec hpre.2.2 hpre.2.1
  obtain ⟨k, o, h1, h2, h3, hQ⟩ := lw_walk l b xs p e ha hc hk s m args below hf ((Spec.applies_iff_loose hf).mp happ).1 hP trivial
  exact ⟨k, o, h1, h2, h3, hQ⟩
theorem lw_frame {s t : State} {o : Outcome} {args : Array Value} (h : Framed s o t [] 600000 7302250) :
    Framed s o t (fieldLocs frame_1_writes args s ++ arrayLocs frame_1_arrays args s ++ staticLocs frame_1_statics s) 600000 7302250 := h
theorem lw_limb (L : Cond) (hL : ∀ (args : Array Value) (s t : State), L.after args s (.returned (some (.int 1))) t = true) :
    ArmFor flags0 classFile x code maxLocals ret World_1 tables_1 room_1 Calls_1 rest_1 Pre_1
      (fun tb e a s o t => postC L tb e a s o t ∧ Framed s o t (fieldLocs frame_1_writes a s ++ arrayLocs frame_1_arrays a s ++ staticLocs frame_1_statics s) 600000 7302250) := by
  intro l _ _ _ p e ha hc hk s m args below hf hfit hheap happ hpre
  obtain ⟨k, o, h1, h2, h3, rfl, hF⟩ := lw_comes l p e ha hc hk s m args below hf hfit hheap happ hpre
  exact ⟨k, _, h1, h2, h3, hL args s _, lw_frame hF⟩
theorem i_vc : Claimed_1_1 ∧ Claimed_1_2 := ⟨lw_limb limb_1_1 (fun args s t => by simp [limb_1_1, Cond.after, Cond.holds, Cond.value]), lw_limb limb_1_2 (fun args s t => Cond.after_iff.mpr (by
  first | (rw [show limb_1_2 = Cond.eq .result (.int 1) from rfl, Cond.eq_ints (x := 1) (y := 1) rfl rfl]; simp; done) | (simp [limb_1_2, Cond.value, Term.eval]; done)))⟩


