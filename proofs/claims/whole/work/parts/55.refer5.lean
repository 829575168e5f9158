def mo_rest (Δ : zv_D) (hp : zv_M) (y : Nat) (wd pr : Nat → Nat) : Prop := ∃ (sa mr mt ln ds fd fw : Nat → Nat) (sn : Nat → Bool), hp (y + 4) = some (zn_J Δ 384 sa) ∧ hp (y + 5) = some (zn_J Δ 384 mr) ∧ hp (y + 6) = some (zn_I Δ 7 mt) ∧ hp (y + 7) = some (zn_I Δ 384 ln) ∧ hp (y + 8) = some (zn_Z Δ 384 sn) ∧ hp (y + 9) = some (zn_I Δ 60 ds) ∧ hp (y + 10) = some (zn_J Δ 60 wd) ∧ hp (y + 11) = some (zn_I Δ 61 fd) ∧ hp (y + 12) = some (zn_J Δ 61 fw) ∧ hp (y + 13) = some (zn_I Δ 3600 pr)
theorem mo_rest.moved {Δ : zv_D} {hp hp1 : zv_M} {y : Nat} {wd pr : Nat → Nat} (h : mo_rest Δ hp y wd pr) (e : ∀ q, y + 4 ≤ q → q < y + 14 → hp1 q = hp q) : mo_rest Δ hp1 y wd pr := by
  obtain ⟨sa, mr, mt, ln, ds, fd, fw, sn, h4, h5, h6, h7, h8, h9, ha, hb, hc, hd⟩ := h
  exact ⟨sa, mr, mt, ln, ds, fd, fw, sn, (e _ (by omega) (by omega)).trans h4, (e _ (by omega) (by omega)).trans h5, (e _ (by omega) (by omega)).trans h6, (e _ (by omega) (by omega)).trans h7, (e _ (by omega) (by omega)).trans h8, (e _ (by omega) (by omega)).trans h9, (e _ (by omega) (by omega)).trans ha, (e _ (by omega) (by omega)).trans hb, (e _ (by omega) (by omega)).trans hc, (e _ (by omega) (by omega)).trans hd⟩
/-- the model's object -/
def mo_at (Δ : zv_D) (hp : zv_M) (y c : Nat) (ns gg gd : Nat → Nat) (el : Nat) (wd pr : Nat → Nat) : Prop := (∃ op fi se st : Nat, hp y = some (mo_obj y c op fi se st el)) ∧ hp (y + 1) = some (zn_I Δ 12 ns) ∧ hp (y + 2) = some (zn_I Δ 144 gg) ∧ hp (y + 3) = some (zn_I Δ 12 gd) ∧ mo_rest Δ hp y wd pr
theorem mo_at.moved {Δ : zv_D} {hp hp1 : zv_M} {y c el : Nat} {ns gg gd wd pr : Nat → Nat} (h : mo_at Δ hp y c ns gg gd el wd pr) (e : ∀ q, y ≤ q → q < y + 14 → hp1 q = hp q) : mo_at Δ hp1 y c ns gg gd el wd pr := by
  obtain ⟨⟨op, fi, se, st, h0⟩, h1, h2, h3, h4⟩ := h
  exact ⟨⟨op, fi, se, st, (e _ (by omega) (by omega)).trans h0⟩, (e _ (by omega) (by omega)).trans h1, (e _ (by omega) (by omega)).trans h2, (e _ (by omega) (by omega)).trans h3, h4.moved (fun q q1 q2 => e q (by omega) q2)⟩
def mo_add (Δ : zv_D) (hp1 : zv_M) (y c : Nat) (ns gg gd : Nat → Nat) (el : Nat) (wd pr : Nat → Nat) (L : List Bool → Prop) (v : Nat) : Prop :=
  (c = 12 ∧ v = 4294967294 ∧ mo_at Δ hp1 y c ns gg gd el wd pr) ∨ (c < 12 ∧ le_big L 7 ∧ v = 4294967293 ∧ mo_at Δ hp1 y c ns gg gd el wd pr) ∨
  (c < 12 ∧ v = c ∧ ∃ (n1 a1 : Nat) (gg1 : Nat → Nat), mo_at Δ hp1 y (c + 1) (va_up ns c n1) gg1 (va_up gd c a1) el wd pr ∧ n1 ≤ 6 ∧ mo_b gg1 (va_up gd c a1) ∧ (∀ i j, i < 12 → i ≠ c → j < 12 → mo_G gg1 i j = mo_G gg i j) ∧ a1 = re_ab (pm_tb a1) n1 ∧ le_A L n1 (mo_G gg1 c) (pm_tb a1))
theorem mo_fin {Δ : zv_D} {hp1 : zv_M} {y c el n : Nat} {ns gg gd wd pr gg1 mr mt : Nat → Nat} {L : List Bool → Prop} {ac : Nat → Bool} (hc : c < 12) (hb : mo_b gg gd) (hn : n ≤ 6) (hle : le_A L n mr (fun t => ac (mt t))) (hgg : ∀ x, x < 144 → gg1 x = if 12 * c ≤ x ∧ x < 12 * c + 2 * n then mr (x - 12 * c) else gg x) (hat : mo_at Δ hp1 y (c + 1) (va_up ns c n) gg1 (va_up gd c (re_ab (fun t => ac (mt t)) n)) el wd pr) : mo_add Δ hp1 y c ns gg gd el wd pr L c := by
  have bit : ∀ p, p < n → pm_tb (re_ab (fun t => ac (mt t)) n) p = ac (mt p) := fun p hp => by
    refine Bool.eq_iff_iff.mpr ?_
    unfold pm_tb
    rw [decide_eq_true_iff]
    exact re_ab_bit hp
  have glt : ∀ j, j < 2 * n → mr j < n := fun j hj => (hle.1.2.1 j hj).1
  refine Or.inr (Or.inr ⟨hc, rfl, n, _, gg1, hat, hn, ⟨fun j hj => ?_, fun i hi => ?_⟩, fun i j hi hne hj => ?_, re_ab_congr (fun p hp => (bit p hp).symm), hle.congr (fun k hk => ?_) bit⟩)
  · rw [hgg j hj]
    split
    · have := glt (j - 12 * c) (by omega)
      omega
    · exact hb.1 j hj
  · by_cases e : i = c
    · simp only [va_up, e, if_true]
      exact Nat.lt_of_lt_of_le (re_ab_lt _ n) (Nat.pow_le_pow_right (n := 2) (by decide) hn)
    · simp only [va_up, e, if_false]
      exact hb.2 i hi
  · unfold mo_G
    rw [hgg _ (by omega), if_neg (by omega)]
  · unfold mo_G
    rw [hgg _ (by omega), if_pos (by omega), show 12 * c + k - 12 * c = k by omega]
theorem Mo_make_ok {l : Launch} {Δ : zv_D} {hp : zv_M} {sz : Nat} {y c op fi se el s0 cn : Nat} {ns gg gd wd pr : Nat → Nat} {δ : Nat → Nat → Nat} {ac : Nat → Bool} (hat : mo_at Δ hp y c ns gg gd el wd pr) (hc : c ≤ 12) (hM : mo_M op fi se gg gd δ ac s0 cn) (hb : mo_b gg gd) : zv_E l Δ 5 y_Mo_make b_Mo_make 10 ((some (FieldType.int))) [.ref y, .int (nI op), .int (nI fi), .int (nI se)] hp sz 0 0 (fun r hp1 sz1 => ∃ v : Nat, r = some (.int (nI v)) ∧ sz1 = sz ∧ (∀ q, q < y ∨ y + 14 ≤ q → hp1 q = hp q) ∧ mo_add Δ hp1 y c ns gg gd el wd pr (mc_L δ ac s0) v) := by
  refine zv_E.intro (lv0 := [some (.ref y), some (.int (nI op)), some (.int (nI fi)), some (.int (nI se)), none, none, none, none, none, none]) rfl (Nat.le_of_ble_eq_true rfl) rfl ?_
  intro Γ hl F
  clear hl
  have hat0 := hat
  obtain ⟨⟨op0, fi0, se0, st, f0⟩, f1, f2, f3, hrest⟩ := hat
  obtain ⟨hcn, hs0, hop, hδ⟩ := mo_M_ok hM hb
  have copy : ∀ (m s n : Nat) (h' : zv_M) (gg1 mr mt : Nat → Nat), m = 2 * n - s → s ≤ 2 * n → n ≤ 6 → c < 12 → h' y = some (mo_obj y c op fi se st el) → h' (y + 1) = some (zn_I Δ 12 ns) → h' (y + 2) = some (zn_I Δ 144 gg1) → h' (y + 3) = some (zn_I Δ 12 gd) → h' (y + 5) = some (zn_J Δ 384 mr) → mo_rest Δ h' y wd pr → (∀ q, q < y ∨ y + 14 ≤ q → h' q = hp q) → (∀ x, x < 144 → gg1 x = if 12 * c ≤ x ∧ x < 12 * c + s then mr (x - 12 * c) else gg x) → le_A (mc_L δ ac s0) n mr (fun t => ac (mt t)) → zv_V Δ Γ (zv_QQ Δ Γ 0 0 (fun r hp1 sz1 => ∃ v : Nat, r = some (.int (nI v)) ∧ sz1 = sz ∧ (∀ q, q < y ∨ y + 14 ≤ q → hp1 q = hp q) ∧ mo_add Δ hp1 y c ns gg gd el wd pr (mc_L δ ac s0) v)) 209 [some (.ref y), some (.int (nI op)), some (.int (nI fi)), some (.int (nI se)), some (.int (nI n)), some (.int (nI (re_ab (fun t => ac (mt t)) n))), some (.int (nI s)), none, none, none] [] h' sz 0 0 := by
    intro m
    induction m using Nat.strongRecOn with
    | ind m ih =>
      intro s n h' gg1 mr mt hm hs hn hc12 f0 f1 f2 f3 f5 hrest fr hgg hle
      refine zv_iload F d_Mo_make_209 rfl ?_
      refine zn_iconst (x := 2) F d_Mo_make_211 (by decide) ?_
      refine zv_iload F d_Mo_make_212 rfl ?_
      refine zn_imul F d_Mo_make_214 ?_
      refine zn_icmp_ge (tgt := 247) F d_Mo_make_215 rfl (by omega) (by omega) (fun h215 => ?_) (fun h215 => ?_)
      · refine zv_aload_n F d_Mo_make_247 rfl ?_
        refine zv_get F d_Mo_make_248 (by assumption) k_Mo 1 (Nat.le_of_ble_eq_true rfl) ln_Mo_7 rfl (by rfl) ?_
        refine zv_aload_n F d_Mo_make_251 rfl ?_
        refine zv_get F d_Mo_make_252 (by assumption) k_Mo 0 (Nat.le_of_ble_eq_true rfl) ln_Mo_51 rfl (by rfl) ?_
        refine zv_iload F d_Mo_make_255 rfl ?_
        refine zn_iast F d_Mo_make_257 (by assumption) (by omega) (by omega) (fun hp257 e257 => ?_)
        replace f0 := (zv_ne e257 (by omega)).trans f0
        replace f1 := zv_eq e257
        replace f2 := (zv_ne e257 (by omega)).trans f2
        replace f3 := (zv_ne e257 (by omega)).trans f3
        replace f5 := (zv_ne e257 (by omega)).trans f5
        replace fr := fun b hb => (zv_ne (b := b) e257 (by omega)).trans (fr b hb)
        refine zv_aload_n F d_Mo_make_258 rfl ?_
        refine zv_get F d_Mo_make_259 (by assumption) k_Mo 3 (Nat.le_of_ble_eq_true rfl) ln_Mo_16 rfl (by rfl) ?_
        refine zv_aload_n F d_Mo_make_262 rfl ?_
        refine zv_get F d_Mo_make_263 (by assumption) k_Mo 0 (Nat.le_of_ble_eq_true rfl) ln_Mo_51 rfl (by rfl) ?_
        refine zv_iload F d_Mo_make_266 rfl ?_
        refine zn_iast F d_Mo_make_268 (by assumption) (by omega) (by omega) (fun hp268 e268 => ?_)
        replace f0 := (zv_ne e268 (by omega)).trans f0
        replace f1 := (zv_ne e268 (by omega)).trans f1
        replace f2 := (zv_ne e268 (by omega)).trans f2
        replace f3 := zv_eq e268
        replace f5 := (zv_ne e268 (by omega)).trans f5
        replace fr := fun b hb => (zv_ne (b := b) e268 (by omega)).trans (fr b hb)
        refine zv_aload_n F d_Mo_make_269 rfl ?_
        refine zv_dup F d_Mo_make_270 rfl ?_
        refine zv_get F d_Mo_make_271 (by assumption) k_Mo 0 (Nat.le_of_ble_eq_true rfl) ln_Mo_51 rfl (by rfl) ?_
        refine zn_iconst (x := 1) F d_Mo_make_274 (by decide) ?_
        refine zn_iadd F d_Mo_make_275 ?_
        refine zv_put F d_Mo_make_276 (by assumption) k_Mo 0 (Nat.le_of_ble_eq_true rfl) ln_Mo_51 rfl rfl rfl (by rfl) (by rfl) (Nat.le_of_ble_eq_true rfl) (fun hp276 e276 => ?_)
        replace f0 := zv_eq e276
        replace f1 := (zv_ne e276 (by omega)).trans f1
        replace f2 := (zv_ne e276 (by omega)).trans f2
        replace f3 := (zv_ne e276 (by omega)).trans f3
        replace f5 := (zv_ne e276 (by omega)).trans f5
        replace fr := fun b hb => (zv_ne (b := b) e276 (by omega)).trans (fr b hb)
        refine zv_aload_n F d_Mo_make_279 rfl ?_
        refine zv_get F d_Mo_make_280 (by assumption) k_Mo 0 (Nat.le_of_ble_eq_true rfl) ln_Mo_51 rfl (by rfl) ?_
        refine zn_iconst (x := 1) F d_Mo_make_283 (by decide) ?_
        refine zn_isub F d_Mo_make_284 (by omega) ?_
        exact zv_iret F d_Mo_make_285 (Nat.le_of_ble_eq_true rfl) (Nat.le_of_ble_eq_true rfl) ⟨c, rfl, rfl, fr, mo_fin hc12 hb hn hle (by have e : s = 2 * n := (by omega); rw [e] at hgg; exact hgg) ⟨⟨op, fi, se, st, f0⟩, f1, f2, f3, hrest.moved (fun q q1 q2 => (zv_ne e276 (by omega)).trans ((zv_ne e268 (by omega)).trans (zv_ne e257 (by omega))))⟩⟩
      · refine zv_aload_n F d_Mo_make_218 rfl ?_
        refine zv_get F d_Mo_make_219 (by assumption) k_Mo 2 (Nat.le_of_ble_eq_true rfl) ln_Mo_13 rfl (by rfl) ?_
        refine zn_bipush (x := 12) F d_Mo_make_222 (by decide) ?_
        refine zv_aload_n F d_Mo_make_224 rfl ?_
        refine zv_get F d_Mo_make_225 (by assumption) k_Mo 0 (Nat.le_of_ble_eq_true rfl) ln_Mo_51 rfl (by rfl) ?_
        refine zn_imul F d_Mo_make_228 ?_
        refine zv_iload F d_Mo_make_229 rfl ?_
        refine zn_iadd F d_Mo_make_231 ?_
        refine zv_aload_n F d_Mo_make_232 rfl ?_
        refine zv_get F d_Mo_make_233 (by assumption) k_Mo 8 (Nat.le_of_ble_eq_true rfl) ln_Mo_23 rfl (by rfl) ?_
        refine zv_iload F d_Mo_make_236 rfl ?_
        refine zn_lald F d_Mo_make_238 (by assumption) (by omega) (by omega) ?_
        refine zn_l2i F d_Mo_make_239 ?_
        refine zn_iast F d_Mo_make_240 (by assumption) (by omega) (by omega) (fun hp240 e240 => ?_)
        replace f0 := (zv_ne e240 (by omega)).trans f0
        replace f1 := (zv_ne e240 (by omega)).trans f1
        replace f2 := zv_eq e240
        replace f3 := (zv_ne e240 (by omega)).trans f3
        replace f5 := (zv_ne e240 (by omega)).trans f5
        replace fr := fun b hb => (zv_ne (b := b) e240 (by omega)).trans (fr b hb)
        refine zn_iinc F d_Mo_make_241 rfl ?_
        simp only [zv_s1, zv_s2, zv_kill, List.set_cons_zero, List.set_cons_succ, List.getElem?_cons_zero, List.getElem?_cons_succ]
        refine zv_goto (tgt := 209) F d_Mo_make_244 rfl ?_
        refine zv_weak (by repeat' (first | exact True.intro | refine And.intro rfl ?_)) (ih (2 * n - (s + 1)) (by omega) (s + 1) n _ _ mr mt rfl (by omega) hn hc12 f0 f1 f2 f3 f5 (hrest.moved (fun q q1 q2 => zv_ne e240 (by omega))) fr (fun x hx => ?_) hle)
        by_cases e : x = 12 * c + s
        · simp only [va_up, e, if_true]; rw [if_pos (by omega), show 12 * c + s - 12 * c = s by omega]
        · simp only [va_up, e, if_false]; rw [hgg x hx]
          by_cases e2 : 12 * c ≤ x ∧ x < 12 * c + s
          · rw [if_pos e2, if_pos (by omega)]
          · rw [if_neg e2, if_neg (by omega)]
  have outer : ∀ (hS : zv_M) (sa mt1 : Nat → Nat) (v : Nat), hS y = some (mo_obj y c op fi se st el) → hS (y + 1) = some (zn_I Δ 12 ns) → hS (y + 2) = some (zn_I Δ 144 gg) → hS (y + 3) = some (zn_I Δ 12 gd) → hS (y + 4) = some (zn_J Δ 384 sa) → mo_rest Δ hS y wd pr → (∀ q, q < y ∨ y + 14 ≤ q → hS q = hp q) → (∀ k, k < cn → sa k = mo_sy δ ac 5 k) → (∀ k, k < cn → sa k < 18446744073709551616) → v ≤ 6 → (∀ w, ∃ t, t < v ∧ sa (mt1 t) = sa (mc_run δ s0 w)) → ¬ mo_str δ ac s0 5 → c < 12 → ∀ (m k n : Nat) (h' : zv_M) (mt mr : Nat → Nat), m = 6 - k → k ≤ n → h' (y + 5) = some (zn_J Δ 384 mr) → h' (y + 6) = some (zn_I Δ 7 mt) → (∀ q, q ≠ y + 5 ∧ q ≠ y + 6 → h' q = hS q) → mo_B δ sa s0 cn n (2 * k) mt mr → zv_V Δ Γ (zv_QQ Δ Γ 0 0 (fun r hp1 sz1 => ∃ v : Nat, r = some (.int (nI v)) ∧ sz1 = sz ∧ (∀ q, q < y ∨ y + 14 ≤ q → hp1 q = hp q) ∧ mo_add Δ hp1 y c ns gg gd el wd pr (mc_L δ ac s0) v)) 62 [some (.ref y), some (.int (nI op)), some (.int (nI fi)), some (.int (nI se)), some (.int (nI n)), some (.int (nI (re_ab (fun t => ac (mt t)) k))), some (.int (nI k)), none, none, none] [] h' sz 0 0 := by
    intro hS sa mt1 v g0 g1 g2 g3 g4 grest gfr hsa hsb hv6 hR hst hc12 m
    induction m using Nat.strongRecOn with
    | ind m ih =>
      intro k n h' mt mr hm hk f5 f6 fr X
      have n6 : ∀ {n j : Nat} {mt mr : Nat → Nat}, mo_B δ sa s0 cn n j mt mr → n ≤ 6 := fun X => mo_B_six hv6 hR (fun t ht => (X.2.2.1 t ht).2) X.2.2.2.1
      have inner : ∀ (m2 b n : Nat) (h' : zv_M) (mt mr : Nat → Nat), m2 = 2 - b → b ≤ 2 → k < n → h' (y + 5) = some (zn_J Δ 384 mr) → h' (y + 6) = some (zn_I Δ 7 mt) → (∀ q, q ≠ y + 5 ∧ q ≠ y + 6 → h' q = hS q) → mo_B δ sa s0 cn n (2 * k + b) mt mr → zv_V Δ Γ (zv_QQ Δ Γ 0 0 (fun r hp1 sz1 => ∃ v : Nat, r = some (.int (nI v)) ∧ sz1 = sz ∧ (∀ q, q < y ∨ y + 14 ≤ q → hp1 q = hp q) ∧ mo_add Δ hp1 y c ns gg gd el wd pr (mc_L δ ac s0) v)) 72 [some (.ref y), some (.int (nI op)), some (.int (nI fi)), some (.int (nI se)), some (.int (nI n)), some (.int (nI (re_ab (fun t => ac (mt t)) k))), some (.int (nI k)), some (.int (nI b)), none, none] [] h' sz 0 0 := by
        intro m2
        induction m2 using Nat.strongRecOn with
        | ind m2 ih2 =>
          intro b n h' mt mr hm2 hb2 hkn f5 f6 fr X
          have f0 := (fr y (by omega)).trans g0
          have f2 := (fr (y + 2) (by omega)).trans g2
          have f3 := (fr (y + 3) (by omega)).trans g3
          have f4 := (fr (y + 4) (by omega)).trans g4
          have hn6 := n6 X
          have hmk := (X.2.2.1 k hkn).1
          have ej : (2 * k + b) / 2 = k ∨ b = 2 := by omega
          have whil : ∀ (m3 t : Nat), m3 = n - t → t ≤ n → b < 2 → zf_ff (fun t => decide (sa (mt t) = sa (δ (mt k) b))) 0 n = zf_ff (fun t => decide (sa (mt t) = sa (δ (mt k) b))) t (n - t) → zv_V Δ Γ (zv_QQ Δ Γ 0 0 (fun r hp1 sz1 => ∃ v : Nat, r = some (.int (nI v)) ∧ sz1 = sz ∧ (∀ q, q < y ∨ y + 14 ≤ q → hp1 q = hp q) ∧ mo_add Δ hp1 y c ns gg gd el wd pr (mc_L δ ac s0) v)) 96 [some (.ref y), some (.int (nI op)), some (.int (nI fi)), some (.int (nI se)), some (.int (nI n)), some (.int (nI (re_ab (fun t => ac (mt t)) k))), some (.int (nI k)), some (.int (nI b)), some (.int (nI (δ (mt k) b))), some (.int (nI t))] [] h' sz 0 0 := by
            intro m3
            induction m3 using Nat.strongRecOn with
            | ind m3 ih3 =>
              intro t hm3 ht hb3 hE
              have hto := hδ (mt k) b hmk hb3
              have s1 := hsb _ hto
              have ej : (2 * k + b) / 2 = k := by omega
              have em : (2 * k + b) % 2 = b := by omega
              obtain ⟨z1, z2, z3, z4⟩ := zf_spec (fun t => decide (sa (mt t) = sa (δ (mt k) b))) n 0
              have hno : ∀ t2, t2 < zf_ff (fun t => decide (sa (mt t) = sa (δ (mt k) b))) 0 n → sa (mt t2) ≠ sa (δ (mt k) b) := fun t2 h2 => of_decide_eq_false (z3 t2 (Nat.zero_le _) h2)
              have hyes : zf_ff (fun t => decide (sa (mt t) = sa (δ (mt k) b))) 0 n < n → sa (mt (zf_ff (fun t => decide (sa (mt t) = sa (δ (mt k) b))) 0 n)) = sa (δ (mt k) b) := fun h2 => of_decide_eq_true (z4 (by omega))
              refine zv_iload F d_Mo_make_96 rfl ?_
              refine zv_iload F d_Mo_make_98 rfl ?_
              refine zn_icmp_ge (tgt := 132) F d_Mo_make_100 rfl (by omega) (by omega) (fun h100 => ?_) (fun h100 => ?_)
              · have hv : zf_ff (fun t => decide (sa (mt t) = sa (δ (mt k) b))) 0 n = t := by first | rw [hE, show n - t = 0 by omega]; rfl | rw [hE, zf_hit (p := fun t => decide (sa (mt t) = sa (δ (mt k) b))) (k := t) (decide_eq_true (by omega)) (by omega)]
                rw [hv] at hno hyes
                refine zv_iload F d_Mo_make_132 rfl ?_
                refine zv_iload F d_Mo_make_134 rfl ?_
                refine zn_icmp_ne (tgt := 151) F d_Mo_make_136 rfl (by omega) (by omega) (fun h136 => ?_) (fun h136 => ?_)
                · refine zv_aload_n F d_Mo_make_151 rfl ?_
                  refine zv_get F d_Mo_make_152 (by assumption) k_Mo 8 (Nat.le_of_ble_eq_true rfl) ln_Mo_23 rfl (by rfl) ?_
                  refine zn_iconst (x := 2) F d_Mo_make_155 (by decide) ?_
                  refine zv_iload F d_Mo_make_156 rfl ?_
                  refine zn_imul F d_Mo_make_158 ?_
                  refine zv_iload F d_Mo_make_159 rfl ?_
                  refine zn_iadd F d_Mo_make_161 ?_
                  refine zv_iload F d_Mo_make_162 rfl ?_
                  refine zn_i2l F d_Mo_make_164 (by omega) ?_
                  refine zn_last F d_Mo_make_165 (by assumption) (by omega) (by omega) (fun hp165 e165 => ?_)
                  replace f0 := (zv_ne e165 (by omega)).trans f0
                  replace f5 := zv_eq e165
                  replace f6 := (zv_ne e165 (by omega)).trans f6
                  replace fr := fun b hb => (zv_ne (b := b) e165 (by omega)).trans (fr b hb)
                  refine zn_iinc F d_Mo_make_166 rfl ?_
                  simp only [zv_s1, zv_s2, zv_kill, List.set_cons_zero, List.set_cons_succ, List.getElem?_cons_zero, List.getElem?_cons_succ]
                  refine zv_goto (tgt := 72) F d_Mo_make_169 rfl ?_
                  first | exact zv_weak (by repeat' (first | exact True.intro | refine And.intro rfl ?_)) (ih2 (2 - (b + 1)) (by omega) (b + 1) n _ mt _ rfl (by omega) hkn f5 f6 fr (mo_B_old (j := 2 * k + b) X (by omega) (show t < n by omega) (by rw [ej, em]; exact hyes (by omega)))) | (rw [h136] at f5; have er : re_ab (fun t => ac (va_up mt n (δ (mt k) b) t)) k = re_ab (fun t => ac (mt t)) k := re_ab_congr (fun p hp => (by show ac (va_up mt n (δ (mt k) b) p) = ac (mt p); simp only [va_up]; rw [if_neg (by omega)])); have zz := ih2 (2 - (b + 1)) (by omega) (b + 1) (n + 1) _ _ _ rfl (by omega) (by omega) f5 f6 fr X2; rw [er] at zz; exact zv_weak (by repeat' (first | exact True.intro | refine And.intro rfl ?_)) zz)
                · have X2 := mo_B_new (j := 2 * k + b) hδ X (by omega) (fun t2 h2 => by rw [ej, em]; exact hno t2 (by omega))
                  rw [ej, em] at X2
                  have hn7 := n6 X2
                  refine zv_aload_n F d_Mo_make_139 rfl ?_
                  refine zv_get F d_Mo_make_140 (by assumption) k_Mo 9 (Nat.le_of_ble_eq_true rfl) ln_Mo_26 rfl (by rfl) ?_
                  refine zv_iload F d_Mo_make_143 rfl ?_
                  refine zv_iload F d_Mo_make_145 rfl ?_
                  refine zn_iast F d_Mo_make_147 (by assumption) (by omega) (by omega) (fun hp147 e147 => ?_)
                  replace f0 := (zv_ne e147 (by omega)).trans f0
                  replace f5 := (zv_ne e147 (by omega)).trans f5
                  replace f6 := zv_eq e147
                  replace fr := fun b hb => (zv_ne (b := b) e147 (by omega)).trans (fr b hb)
                  refine zn_iinc F d_Mo_make_148 rfl ?_
                  simp only [zv_s1, zv_s2, zv_kill, List.set_cons_zero, List.set_cons_succ, List.getElem?_cons_zero, List.getElem?_cons_succ]
                  refine zv_aload_n F d_Mo_make_151 rfl ?_
                  refine zv_get F d_Mo_make_152 (by assumption) k_Mo 8 (Nat.le_of_ble_eq_true rfl) ln_Mo_23 rfl (by rfl) ?_
                  refine zn_iconst (x := 2) F d_Mo_make_155 (by decide) ?_
                  refine zv_iload F d_Mo_make_156 rfl ?_
                  refine zn_imul F d_Mo_make_158 ?_
                  refine zv_iload F d_Mo_make_159 rfl ?_
                  refine zn_iadd F d_Mo_make_161 ?_
                  refine zv_iload F d_Mo_make_162 rfl ?_
                  refine zn_i2l F d_Mo_make_164 (by omega) ?_
                  refine zn_last F d_Mo_make_165 (by assumption) (by omega) (by omega) (fun hp165 e165 => ?_)
                  replace f0 := (zv_ne e165 (by omega)).trans f0
                  replace f5 := zv_eq e165
                  replace f6 := (zv_ne e165 (by omega)).trans f6
                  replace fr := fun b hb => (zv_ne (b := b) e165 (by omega)).trans (fr b hb)
                  refine zn_iinc F d_Mo_make_166 rfl ?_
                  simp only [zv_s1, zv_s2, zv_kill, List.set_cons_zero, List.set_cons_succ, List.getElem?_cons_zero, List.getElem?_cons_succ]
                  refine zv_goto (tgt := 72) F d_Mo_make_169 rfl ?_
                  first | exact zv_weak (by repeat' (first | exact True.intro | refine And.intro rfl ?_)) (ih2 (2 - (b + 1)) (by omega) (b + 1) n _ mt _ rfl (by omega) hkn f5 f6 fr (mo_B_old (j := 2 * k + b) X (by omega) (show t < n by omega) (by rw [ej, em]; exact hyes (by omega)))) | (rw [h136] at f5; have er : re_ab (fun t => ac (va_up mt n (δ (mt k) b) t)) k = re_ab (fun t => ac (mt t)) k := re_ab_congr (fun p hp => (by show ac (va_up mt n (δ (mt k) b) p) = ac (mt p); simp only [va_up]; rw [if_neg (by omega)])); have zz := ih2 (2 - (b + 1)) (by omega) (b + 1) (n + 1) _ _ _ rfl (by omega) (by omega) f5 f6 fr X2; rw [er] at zz; exact zv_weak (by repeat' (first | exact True.intro | refine And.intro rfl ?_)) zz)
              · have hmt := (X.2.2.1 t h100).1
                have s2 := hsb _ hmt
                refine zv_aload_n F d_Mo_make_103 rfl ?_
                refine zv_get F d_Mo_make_104 (by assumption) k_Mo 7 (Nat.le_of_ble_eq_true rfl) ln_Mo_19 rfl (by rfl) ?_
                refine zv_aload_n F d_Mo_make_107 rfl ?_
                refine zv_get F d_Mo_make_108 (by assumption) k_Mo 9 (Nat.le_of_ble_eq_true rfl) ln_Mo_26 rfl (by rfl) ?_
                refine zv_iload F d_Mo_make_111 rfl ?_
                refine zn_iald F d_Mo_make_113 (by assumption) (by omega) (by omega) ?_
                refine zn_lald F d_Mo_make_114 (by assumption) (by omega) (by omega) ?_
                refine zv_aload_n F d_Mo_make_115 rfl ?_
                refine zv_get F d_Mo_make_116 (by assumption) k_Mo 7 (Nat.le_of_ble_eq_true rfl) ln_Mo_19 rfl (by rfl) ?_
                refine zv_iload F d_Mo_make_119 rfl ?_
                refine zn_lald F d_Mo_make_121 (by assumption) (by omega) (by omega) ?_
                refine zn_lcmp F d_Mo_make_122 (by omega) (by omega) (fun w122 b122 c122 => ?_)
                first | refine zn_bif_eq (tgt := 132) F d_Mo_make_123 rfl (fun h123 => ?_) (fun h123 => ?_) | refine zn_if_eq (tgt := 132) F d_Mo_make_123 rfl (by omega) (fun h123 => ?_) (fun h123 => ?_)
                · have hv : zf_ff (fun t => decide (sa (mt t) = sa (δ (mt k) b))) 0 n = t := by first | rw [hE, show n - t = 0 by omega]; rfl | rw [hE, zf_hit (p := fun t => decide (sa (mt t) = sa (δ (mt k) b))) (k := t) (decide_eq_true (by omega)) (by omega)]
                  rw [hv] at hno hyes
                  refine zv_iload F d_Mo_make_132 rfl ?_
                  refine zv_iload F d_Mo_make_134 rfl ?_
                  refine zn_icmp_ne (tgt := 151) F d_Mo_make_136 rfl (by omega) (by omega) (fun h136 => ?_) (fun h136 => ?_)
                  · refine zv_aload_n F d_Mo_make_151 rfl ?_
                    refine zv_get F d_Mo_make_152 (by assumption) k_Mo 8 (Nat.le_of_ble_eq_true rfl) ln_Mo_23 rfl (by rfl) ?_
                    refine zn_iconst (x := 2) F d_Mo_make_155 (by decide) ?_
                    refine zv_iload F d_Mo_make_156 rfl ?_
                    refine zn_imul F d_Mo_make_158 ?_
                    refine zv_iload F d_Mo_make_159 rfl ?_
                    refine zn_iadd F d_Mo_make_161 ?_
                    refine zv_iload F d_Mo_make_162 rfl ?_
                    refine zn_i2l F d_Mo_make_164 (by omega) ?_
                    refine zn_last F d_Mo_make_165 (by assumption) (by omega) (by omega) (fun hp165 e165 => ?_)
                    replace f0 := (zv_ne e165 (by omega)).trans f0
                    replace f5 := zv_eq e165
                    replace f6 := (zv_ne e165 (by omega)).trans f6
                    replace fr := fun b hb => (zv_ne (b := b) e165 (by omega)).trans (fr b hb)
                    refine zn_iinc F d_Mo_make_166 rfl ?_
                    simp only [zv_s1, zv_s2, zv_kill, List.set_cons_zero, List.set_cons_succ, List.getElem?_cons_zero, List.getElem?_cons_succ]
                    refine zv_goto (tgt := 72) F d_Mo_make_169 rfl ?_
                    first | exact zv_weak (by repeat' (first | exact True.intro | refine And.intro rfl ?_)) (ih2 (2 - (b + 1)) (by omega) (b + 1) n _ mt _ rfl (by omega) hkn f5 f6 fr (mo_B_old (j := 2 * k + b) X (by omega) (show t < n by omega) (by rw [ej, em]; exact hyes (by omega)))) | (rw [h136] at f5; have er : re_ab (fun t => ac (va_up mt n (δ (mt k) b) t)) k = re_ab (fun t => ac (mt t)) k := re_ab_congr (fun p hp => (by show ac (va_up mt n (δ (mt k) b) p) = ac (mt p); simp only [va_up]; rw [if_neg (by omega)])); have zz := ih2 (2 - (b + 1)) (by omega) (b + 1) (n + 1) _ _ _ rfl (by omega) (by omega) f5 f6 fr X2; rw [er] at zz; exact zv_weak (by repeat' (first | exact True.intro | refine And.intro rfl ?_)) zz)
                  · have X2 := mo_B_new (j := 2 * k + b) hδ X (by omega) (fun t2 h2 => by rw [ej, em]; exact hno t2 (by omega))
                    rw [ej, em] at X2
                    have hn7 := n6 X2
                    refine zv_aload_n F d_Mo_make_139 rfl ?_
                    refine zv_get F d_Mo_make_140 (by assumption) k_Mo 9 (Nat.le_of_ble_eq_true rfl) ln_Mo_26 rfl (by rfl) ?_
                    refine zv_iload F d_Mo_make_143 rfl ?_
                    refine zv_iload F d_Mo_make_145 rfl ?_
                    refine zn_iast F d_Mo_make_147 (by assumption) (by omega) (by omega) (fun hp147 e147 => ?_)
                    replace f0 := (zv_ne e147 (by omega)).trans f0
                    replace f5 := (zv_ne e147 (by omega)).trans f5
                    replace f6 := zv_eq e147
                    replace fr := fun b hb => (zv_ne (b := b) e147 (by omega)).trans (fr b hb)
                    refine zn_iinc F d_Mo_make_148 rfl ?_
                    simp only [zv_s1, zv_s2, zv_kill, List.set_cons_zero, List.set_cons_succ, List.getElem?_cons_zero, List.getElem?_cons_succ]
                    refine zv_aload_n F d_Mo_make_151 rfl ?_
                    refine zv_get F d_Mo_make_152 (by assumption) k_Mo 8 (Nat.le_of_ble_eq_true rfl) ln_Mo_23 rfl (by rfl) ?_
                    refine zn_iconst (x := 2) F d_Mo_make_155 (by decide) ?_
                    refine zv_iload F d_Mo_make_156 rfl ?_
                    refine zn_imul F d_Mo_make_158 ?_
                    refine zv_iload F d_Mo_make_159 rfl ?_
                    refine zn_iadd F d_Mo_make_161 ?_
                    refine zv_iload F d_Mo_make_162 rfl ?_
                    refine zn_i2l F d_Mo_make_164 (by omega) ?_
                    refine zn_last F d_Mo_make_165 (by assumption) (by omega) (by omega) (fun hp165 e165 => ?_)
                    replace f0 := (zv_ne e165 (by omega)).trans f0
                    replace f5 := zv_eq e165
                    replace f6 := (zv_ne e165 (by omega)).trans f6
                    replace fr := fun b hb => (zv_ne (b := b) e165 (by omega)).trans (fr b hb)
                    refine zn_iinc F d_Mo_make_166 rfl ?_
                    simp only [zv_s1, zv_s2, zv_kill, List.set_cons_zero, List.set_cons_succ, List.getElem?_cons_zero, List.getElem?_cons_succ]
                    refine zv_goto (tgt := 72) F d_Mo_make_169 rfl ?_
                    first | exact zv_weak (by repeat' (first | exact True.intro | refine And.intro rfl ?_)) (ih2 (2 - (b + 1)) (by omega) (b + 1) n _ mt _ rfl (by omega) hkn f5 f6 fr (mo_B_old (j := 2 * k + b) X (by omega) (show t < n by omega) (by rw [ej, em]; exact hyes (by omega)))) | (rw [h136] at f5; have er : re_ab (fun t => ac (va_up mt n (δ (mt k) b) t)) k = re_ab (fun t => ac (mt t)) k := re_ab_congr (fun p hp => (by show ac (va_up mt n (δ (mt k) b) p) = ac (mt p); simp only [va_up]; rw [if_neg (by omega)])); have zz := ih2 (2 - (b + 1)) (by omega) (b + 1) (n + 1) _ _ _ rfl (by omega) (by omega) f5 f6 fr X2; rw [er] at zz; exact zv_weak (by repeat' (first | exact True.intro | refine And.intro rfl ?_)) zz)
                · refine zn_iinc F d_Mo_make_126 rfl ?_
                  simp only [zv_s1, zv_s2, zv_kill, List.set_cons_zero, List.set_cons_succ, List.getElem?_cons_zero, List.getElem?_cons_succ]
                  refine zv_goto (tgt := 96) F d_Mo_make_129 rfl ?_
                  exact zv_weak (by repeat' (first | exact True.intro | refine And.intro rfl ?_)) (ih3 (n - (t + 1)) (by omega) (t + 1) rfl (by omega) hb3 (by rw [hE, zf_miss (p := fun t => decide (sa (mt t) = sa (δ (mt k) b))) (k := t) (decide_eq_false (by omega)) (by omega)]; rfl))
          refine zv_iload F d_Mo_make_72 rfl ?_
          refine zn_iconst (x := 2) F d_Mo_make_74 (by decide) ?_
          refine zn_icmp_ge (tgt := 172) F d_Mo_make_75 rfl (by omega) (by omega) (fun h75 => ?_) (fun h75 => ?_)
          · have eb : b = 2 := by omega
            subst eb
            refine zv_aload_n F d_Mo_make_172 rfl ?_
            refine zv_aload_n F d_Mo_make_173 rfl ?_
            refine zv_get F d_Mo_make_174 (by assumption) k_Mo 9 (Nat.le_of_ble_eq_true rfl) ln_Mo_26 rfl (by rfl) ?_
            refine zv_iload F d_Mo_make_177 rfl ?_
            refine zn_iald F d_Mo_make_179 (by assumption) (by omega) (by omega) ?_
            refine zv_pV1 F rfl (by assumption) k_Mo.1 d_Mo_make_180 (Mo_accepted_ok f0 f2 f3 hM hb hmk) Y_Mo_accepted Yi_Mo_accepted Yv_Mo_accepted ln_Mo_86 ⟨(Nat.le_of_ble_eq_true rfl), (Nat.le_of_ble_eq_true rfl)⟩ (Nat.le_of_ble_eq_true rfl) ⟨(Nat.le_of_ble_eq_true rfl), (Nat.le_of_ble_eq_true rfl)⟩ ?_
            first | refine zn_bif_eq (tgt := 196) F d_Mo_make_183 rfl (fun h183 => ?_) (fun h183 => ?_) | refine zn_if_eq (tgt := 196) F d_Mo_make_183 rfl (by omega) (fun h183 => ?_) (fun h183 => ?_)
            · have es : re_ab (fun t => ac (mt t)) (k + 1) = re_ab (fun t => ac (mt t)) k := by rw [re_ab, if_neg (by rw [h183]; decide)]
              refine zv_iload F d_Mo_make_196 rfl ?_
              refine zv_istore F d_Mo_make_198 (Nat.le_of_ble_eq_true rfl) ?_
              simp only [zv_s1, zv_s2, zv_kill, List.set_cons_zero, List.set_cons_succ, List.getElem?_cons_zero, List.getElem?_cons_succ]
              refine zn_iinc F d_Mo_make_200 rfl ?_
              simp only [zv_s1, zv_s2, zv_kill, List.set_cons_zero, List.set_cons_succ, List.getElem?_cons_zero, List.getElem?_cons_succ]
              refine zv_goto (tgt := 62) F d_Mo_make_203 rfl ?_
              have zz := ih (6 - (k + 1)) (by omega) (k + 1) n _ mt mr rfl (by omega) f5 f6 fr X
              rw [es] at zz
              exact zv_weak (by repeat' (first | exact True.intro | refine And.intro rfl ?_)) zz
            · have es : re_ab (fun t => ac (mt t)) (k + 1) = re_ab (fun t => ac (mt t)) k ||| 2 ^ k := by rw [re_ab, if_pos h183]
              refine zv_iload F d_Mo_make_186 rfl ?_
              refine zn_iconst (x := 1) F d_Mo_make_188 (by decide) ?_
              refine zv_iload F d_Mo_make_189 rfl ?_
              refine zn_ishl F d_Mo_make_191 (zn_p2 (by omega)) (by omega) ?_
              rw [Nat.one_mul]
              refine zn_ior F d_Mo_make_192 ?_
              refine zv_goto (tgt := 198) F d_Mo_make_193 rfl ?_
              refine zv_istore F d_Mo_make_198 (Nat.le_of_ble_eq_true rfl) ?_
              simp only [zv_s1, zv_s2, zv_kill, List.set_cons_zero, List.set_cons_succ, List.getElem?_cons_zero, List.getElem?_cons_succ]
              refine zn_iinc F d_Mo_make_200 rfl ?_
              simp only [zv_s1, zv_s2, zv_kill, List.set_cons_zero, List.set_cons_succ, List.getElem?_cons_zero, List.getElem?_cons_succ]
              refine zv_goto (tgt := 62) F d_Mo_make_203 rfl ?_
              have zz := ih (6 - (k + 1)) (by omega) (k + 1) n _ mt mr rfl (by omega) f5 f6 fr X
              rw [es] at zz
              exact zv_weak (by repeat' (first | exact True.intro | refine And.intro rfl ?_)) zz
          · refine zv_aload_n F d_Mo_make_78 rfl ?_
            refine zv_aload_n F d_Mo_make_79 rfl ?_
            refine zv_get F d_Mo_make_80 (by assumption) k_Mo 9 (Nat.le_of_ble_eq_true rfl) ln_Mo_26 rfl (by rfl) ?_
            refine zv_iload F d_Mo_make_83 rfl ?_
            refine zn_iald F d_Mo_make_85 (by assumption) (by omega) (by omega) ?_
            refine zv_iload F d_Mo_make_86 rfl ?_
            refine zv_pV2 F rfl (by assumption) k_Mo.1 d_Mo_make_88 (Mo_nextCode_ok f0 f2 f3 hM hb hmk (by omega)) Y_Mo_nextCode Yi_Mo_nextCode Yv_Mo_nextCode ln_Mo_90 ⟨(Nat.le_of_ble_eq_true rfl), (Nat.le_of_ble_eq_true rfl)⟩ (Nat.le_of_ble_eq_true rfl) ⟨(Nat.le_of_ble_eq_true rfl), (Nat.le_of_ble_eq_true rfl)⟩ ?_
            refine zv_istore F d_Mo_make_91 (Nat.le_of_ble_eq_true rfl) ?_
            simp only [zv_s1, zv_s2, zv_kill, List.set_cons_zero, List.set_cons_succ, List.getElem?_cons_zero, List.getElem?_cons_succ]
            refine zn_iconst (x := 0) F d_Mo_make_93 (by decide) ?_
            refine zv_istore F d_Mo_make_94 (Nat.le_of_ble_eq_true rfl) ?_
            simp only [zv_s1, zv_s2, zv_kill, List.set_cons_zero, List.set_cons_succ, List.getElem?_cons_zero, List.getElem?_cons_succ]
            exact zv_weak (by repeat' (first | exact True.intro | refine And.intro rfl ?_)) (whil _ 0 rfl (Nat.zero_le _) (by omega) (by rw [Nat.sub_zero]))
      have hn6 := n6 X
      refine zv_iload F d_Mo_make_62 rfl ?_
      refine zv_iload F d_Mo_make_64 rfl ?_
      refine zn_icmp_ge (tgt := 206) F d_Mo_make_66 rfl (by omega) (by omega) (fun h66 => ?_) (fun h66 => ?_)
      · have ek : k = n := by omega
        subst ek
        have mvr : ∀ q, q ≠ y + 5 ∧ q ≠ y + 6 → h' q = hS q := fr
        refine zn_iconst (x := 0) F d_Mo_make_206 (by decide) ?_
        refine zv_istore F d_Mo_make_207 (Nat.le_of_ble_eq_true rfl) ?_
        simp only [zv_s1, zv_s2, zv_kill, List.set_cons_zero, List.set_cons_succ, List.getElem?_cons_zero, List.getElem?_cons_succ]
        refine zv_weak (by repeat' (first | exact True.intro | refine And.intro rfl ?_)) (copy _ 0 k h' gg mr mt rfl (Nat.zero_le _) hn6 hc12 ((fr y (by omega)).trans g0) ((fr (y + 1) (by omega)).trans g1) ((fr (y + 2) (by omega)).trans g2) ((fr (y + 3) (by omega)).trans g3) f5 ?_ (fun q hq => (fr q (by omega)).trans (gfr q hq)) (fun x hx => by rw [if_neg (by omega)]) (mo_B_end hδ hs0 hsa hst X))
        obtain ⟨sa2, mr2, mt2, ln2, ds2, fd2, fw2, sn2, h4, h5, h6, h7, h8, h9, ha, hb9, hc9, hd9⟩ := grest
        exact ⟨sa2, mr, mt, ln2, ds2, fd2, fw2, sn2, (fr _ (by omega)).trans h4, f5, f6, (fr _ (by omega)).trans h7, (fr _ (by omega)).trans h8, (fr _ (by omega)).trans h9, (fr _ (by omega)).trans ha, (fr _ (by omega)).trans hb9, (fr _ (by omega)).trans hc9, (fr _ (by omega)).trans hd9⟩
      · refine zn_iconst (x := 0) F d_Mo_make_69 (by decide) ?_
        refine zv_istore F d_Mo_make_70 (Nat.le_of_ble_eq_true rfl) ?_
        simp only [zv_s1, zv_s2, zv_kill, List.set_cons_zero, List.set_cons_succ, List.getElem?_cons_zero, List.getElem?_cons_succ]
        exact zv_weak (by repeat' (first | exact True.intro | refine And.intro rfl ?_)) (inner _ 0 n _ mt mr rfl (by decide) (by omega) f5 f6 fr X)
  obtain ⟨sa, mr, mt, ln, ds, fd, fw, sn, f4, f5, f6, f7, f8, f9, fa, fb, fc, fd0⟩ := hrest
  have fr : ∀ q, q < y ∨ y + 14 ≤ q → hp q = hp q := fun q _ => rfl
  refine zv_aload_n F d_Mo_make_0 rfl ?_
  refine zv_get F d_Mo_make_1 (by assumption) k_Mo 0 (Nat.le_of_ble_eq_true rfl) ln_Mo_51 rfl (by rfl) ?_
  refine zn_bipush (x := 12) F d_Mo_make_4 (by decide) ?_
  refine zn_icmp_lt (tgt := 12) F d_Mo_make_6 rfl (by omega) (by omega) (fun h6 => ?_) (fun h6 => ?_)
  · refine zv_aload_n F d_Mo_make_12 rfl ?_
    refine zv_iload_n F d_Mo_make_13 rfl ?_
    refine zv_put F d_Mo_make_14 (by assumption) k_Mo 4 (Nat.le_of_ble_eq_true rfl) ln_Mo_59 rfl rfl rfl (by rfl) (by rfl) (Nat.le_of_ble_eq_true rfl) (fun hp14 e14 => ?_)
    replace f0 := zv_eq e14
    replace f1 := (zv_ne e14 (by omega)).trans f1
    replace f2 := (zv_ne e14 (by omega)).trans f2
    replace f3 := (zv_ne e14 (by omega)).trans f3
    replace f4 := (zv_ne e14 (by omega)).trans f4
    replace f5 := (zv_ne e14 (by omega)).trans f5
    replace f6 := (zv_ne e14 (by omega)).trans f6
    replace f7 := (zv_ne e14 (by omega)).trans f7
    replace f8 := (zv_ne e14 (by omega)).trans f8
    replace f9 := (zv_ne e14 (by omega)).trans f9
    replace fa := (zv_ne e14 (by omega)).trans fa
    replace fb := (zv_ne e14 (by omega)).trans fb
    replace fc := (zv_ne e14 (by omega)).trans fc
    replace fd0 := (zv_ne e14 (by omega)).trans fd0
    replace fr := fun b hb => (zv_ne (b := b) e14 (by omega)).trans (fr b hb)
    refine zv_aload_n F d_Mo_make_17 rfl ?_
    refine zv_iload_n F d_Mo_make_18 rfl ?_
    refine zv_put F d_Mo_make_19 (by assumption) k_Mo 5 (Nat.le_of_ble_eq_true rfl) ln_Mo_62 rfl rfl rfl (by rfl) (by rfl) (Nat.le_of_ble_eq_true rfl) (fun hp19 e19 => ?_)
    replace f0 := zv_eq e19
    replace f1 := (zv_ne e19 (by omega)).trans f1
    replace f2 := (zv_ne e19 (by omega)).trans f2
    replace f3 := (zv_ne e19 (by omega)).trans f3
    replace f4 := (zv_ne e19 (by omega)).trans f4
    replace f5 := (zv_ne e19 (by omega)).trans f5
    replace f6 := (zv_ne e19 (by omega)).trans f6
    replace f7 := (zv_ne e19 (by omega)).trans f7
    replace f8 := (zv_ne e19 (by omega)).trans f8
    replace f9 := (zv_ne e19 (by omega)).trans f9
    replace fa := (zv_ne e19 (by omega)).trans fa
    replace fb := (zv_ne e19 (by omega)).trans fb
    replace fc := (zv_ne e19 (by omega)).trans fc
    replace fd0 := (zv_ne e19 (by omega)).trans fd0
    replace fr := fun b hb => (zv_ne (b := b) e19 (by omega)).trans (fr b hb)
    refine zv_aload_n F d_Mo_make_22 rfl ?_
    refine zv_iload_n F d_Mo_make_23 rfl ?_
    refine zv_put F d_Mo_make_24 (by assumption) k_Mo 6 (Nat.le_of_ble_eq_true rfl) ln_Mo_69 rfl rfl rfl (by rfl) (by rfl) (Nat.le_of_ble_eq_true rfl) (fun hp24 e24 => ?_)
    replace f0 := zv_eq e24
    replace f1 := (zv_ne e24 (by omega)).trans f1
    replace f2 := (zv_ne e24 (by omega)).trans f2
    replace f3 := (zv_ne e24 (by omega)).trans f3
    replace f4 := (zv_ne e24 (by omega)).trans f4
    replace f5 := (zv_ne e24 (by omega)).trans f5
    replace f6 := (zv_ne e24 (by omega)).trans f6
    replace f7 := (zv_ne e24 (by omega)).trans f7
    replace f8 := (zv_ne e24 (by omega)).trans f8
    replace f9 := (zv_ne e24 (by omega)).trans f9
    replace fa := (zv_ne e24 (by omega)).trans fa
    replace fb := (zv_ne e24 (by omega)).trans fb
    replace fc := (zv_ne e24 (by omega)).trans fc
    replace fd0 := (zv_ne e24 (by omega)).trans fd0
    replace fr := fun b hb => (zv_ne (b := b) e24 (by omega)).trans (fr b hb)
    refine zv_aload_n F d_Mo_make_27 rfl ?_
    refine zv_mV0 F rfl (by assumption) k_Mo.1 d_Mo_make_28 (Mo_listen_ok f0 f2 f3 hM hb f4 f5) Y_Mo_listen Yi_Mo_listen Yv_Mo_listen ln_Mo_96 ⟨(Nat.le_of_ble_eq_true rfl), (Nat.le_of_ble_eq_true rfl)⟩ (Nat.le_of_ble_eq_true rfl) ⟨(Nat.le_of_ble_eq_true rfl), (Nat.le_of_ble_eq_true rfl)⟩ (fun r hp28 sz28 q28 => ?_)
    obtain ⟨sa, mr, rfl, rfl, f4, f5, hsa, fr1⟩ := q28
    replace f0 := (fr1 y (by omega)).trans f0
    replace f1 := (fr1 (y + 1) (by omega)).trans f1
    replace f2 := (fr1 (y + 2) (by omega)).trans f2
    replace f3 := (fr1 (y + 3) (by omega)).trans f3
    replace f6 := (fr1 (y + 6) (by omega)).trans f6
    replace f7 := (fr1 (y + 7) (by omega)).trans f7
    replace f8 := (fr1 (y + 8) (by omega)).trans f8
    replace f9 := (fr1 (y + 9) (by omega)).trans f9
    replace fa := (fr1 (y + 10) (by omega)).trans fa
    replace fb := (fr1 (y + 11) (by omega)).trans fb
    replace fc := (fr1 (y + 12) (by omega)).trans fc
    replace fd0 := (fr1 (y + 13) (by omega)).trans fd0
    replace fr : ∀ q, q < y ∨ y + 14 ≤ q → hp28 q = hp q := fun q hq => (fr1 q (by omega)).trans (fr q hq)
    have hsb : ∀ k, k < cn → sa k < 18446744073709551616 := fun k hk => by rw [hsa k hk]; exact Nat.lt_of_lt_of_le ((mo_sy_form δ ac 5).1 k) (by decide)
    try simp only [Option.toList, List.cons_append, List.nil_append]
    refine zv_aload_n F d_Mo_make_31 rfl ?_
    refine zv_mV0 F rfl (by assumption) k_Mo.1 d_Mo_make_32 (Mo_said_ok f0 f2 f3 hM hb f4 f6 f7 f8 hsb) Y_Mo_said Yi_Mo_said Yv_Mo_said ln_Mo_99 ⟨(Nat.le_of_ble_eq_true rfl), (Nat.le_of_ble_eq_true rfl)⟩ (Nat.le_of_ble_eq_true rfl) ⟨(Nat.le_of_ble_eq_true rfl), (Nat.le_of_ble_eq_true rfl)⟩ (fun r hp32 sz32 q32 => ?_)
    obtain ⟨v, mt1, ln1, sn1, rfl, rfl, f6, f7, f8, fr2, hR⟩ := q32
    replace f0 := (fr2 y (by omega)).trans f0
    replace f1 := (fr2 (y + 1) (by omega)).trans f1
    replace f2 := (fr2 (y + 2) (by omega)).trans f2
    replace f3 := (fr2 (y + 3) (by omega)).trans f3
    replace f4 := (fr2 (y + 4) (by omega)).trans f4
    replace f5 := (fr2 (y + 5) (by omega)).trans f5
    replace f9 := (fr2 (y + 9) (by omega)).trans f9
    replace fa := (fr2 (y + 10) (by omega)).trans fa
    replace fb := (fr2 (y + 11) (by omega)).trans fb
    replace fc := (fr2 (y + 12) (by omega)).trans fc
    replace fd0 := (fr2 (y + 13) (by omega)).trans fd0
    replace fr : ∀ q, q < y ∨ y + 14 ≤ q → hp32 q = hp q := fun q hq => (fr2 q (by omega)).trans (fr q hq)
    have hv7 : v ≤ 7 := by rcases hR with h | h; omega; omega
    try simp only [Option.toList, List.cons_append, List.nil_append]
    refine zn_bipush (x := 6) F d_Mo_make_35 (by decide) ?_
    refine zn_icmp_le (tgt := 43) F d_Mo_make_37 rfl (by omega) (by omega) (fun h37 => ?_) (fun h37 => ?_)
    · obtain ⟨hv6, hcov⟩ : v ≤ 6 ∧ ∀ w, ∃ t, t < v ∧ sa (mt1 t) = sa (mc_run δ s0 w) := by rcases hR with h | h; omega; exact h
      have hrun : ∀ w, mc_run δ s0 w < cn := zf_snoc hs0 (fun w b ih => by rw [mc_run_snoc]; exact hδ _ _ ih (by cases b <;> decide))
      refine zn_iconst (x := 1) F d_Mo_make_43 (by decide) ?_
      refine zv_istore F d_Mo_make_44 (Nat.le_of_ble_eq_true rfl) ?_
      simp only [zv_s1, zv_s2, zv_kill, List.set_cons_zero, List.set_cons_succ, List.getElem?_cons_zero, List.getElem?_cons_succ]
      refine zv_aload_n F d_Mo_make_46 rfl ?_
      refine zv_get F d_Mo_make_47 (by assumption) k_Mo 9 (Nat.le_of_ble_eq_true rfl) ln_Mo_26 rfl (by rfl) ?_
      refine zn_iconst (x := 0) F d_Mo_make_50 (by decide) ?_
      refine zv_aload_n F d_Mo_make_51 rfl ?_
      refine zv_pV0 F rfl (by assumption) k_Mo.1 d_Mo_make_52 (Mo_startCode_ok f0 f2 f3 hM hb) Y_Mo_startCode Yi_Mo_startCode Yv_Mo_startCode ln_Mo_93 ⟨(Nat.le_of_ble_eq_true rfl), (Nat.le_of_ble_eq_true rfl)⟩ (Nat.le_of_ble_eq_true rfl) ⟨(Nat.le_of_ble_eq_true rfl), (Nat.le_of_ble_eq_true rfl)⟩ ?_
      refine zn_iast F d_Mo_make_55 (by assumption) (by omega) (by omega) (fun hp55 e55 => ?_)
      replace f0 := (zv_ne e55 (by omega)).trans f0
      replace f1 := (zv_ne e55 (by omega)).trans f1
      replace f2 := (zv_ne e55 (by omega)).trans f2
      replace f3 := (zv_ne e55 (by omega)).trans f3
      replace f4 := (zv_ne e55 (by omega)).trans f4
      replace f5 := (zv_ne e55 (by omega)).trans f5
      replace f6 := zv_eq e55
      replace f7 := (zv_ne e55 (by omega)).trans f7
      replace f8 := (zv_ne e55 (by omega)).trans f8
      replace f9 := (zv_ne e55 (by omega)).trans f9
      replace fa := (zv_ne e55 (by omega)).trans fa
      replace fb := (zv_ne e55 (by omega)).trans fb
      replace fc := (zv_ne e55 (by omega)).trans fc
      replace fd0 := (zv_ne e55 (by omega)).trans fd0
      replace fr := fun b hb => (zv_ne (b := b) e55 (by omega)).trans (fr b hb)
      refine zn_iconst (x := 0) F d_Mo_make_56 (by decide) ?_
      refine zv_istore F d_Mo_make_57 (Nat.le_of_ble_eq_true rfl) ?_
      simp only [zv_s1, zv_s2, zv_kill, List.set_cons_zero, List.set_cons_succ, List.getElem?_cons_zero, List.getElem?_cons_succ]
      refine zn_iconst (x := 0) F d_Mo_make_59 (by decide) ?_
      refine zv_istore F d_Mo_make_60 (Nat.le_of_ble_eq_true rfl) ?_
      simp only [zv_s1, zv_s2, zv_kill, List.set_cons_zero, List.set_cons_succ, List.getElem?_cons_zero, List.getElem?_cons_succ]
      have e0 : va_up mt1 0 s0 0 = s0 := by simp only [va_up, if_true]
      exact zv_weak (by repeat' (first | exact True.intro | refine And.intro rfl ?_)) (outer hp55 sa mt1 v f0 f1 f2 f3 f4 ⟨sa, mr, _, ln1, ds, fd, fw, sn1, f4, f5, f6, f7, f8, f9, fa, fb, fc, fd0⟩ fr hsa hsb hv6 hcov (mo_five (mt := fun t => sa (mt1 t)) hv6 (fun w => by obtain ⟨t, t1, t2⟩ := hcov w; exact ⟨t, t1, by rw [t2, hsa _ (hrun w)]⟩)) (by omega) _ 0 1 hp55 _ mr rfl (by decide) f5 f6 (fun q _ => rfl) ⟨bf_inv_0 _, e0, fun t ht => (by rw [show t = 0 by omega, e0]; exact ⟨hs0, [], rfl⟩), fun t u ht hu _ => by omega, fun i hi => by omega⟩)
    · refine zn_bipush (x := 4294967293) F d_Mo_make_40 (by decide) ?_
      exact zv_iret F d_Mo_make_42 (Nat.le_of_ble_eq_true rfl) (Nat.le_of_ble_eq_true rfl) (by
        rcases hR with ⟨e, u, u1, u2⟩ | h
        · exact ⟨4294967293, rfl, rfl, fr, Or.inr (Or.inl ⟨by omega, mo_B_big hsa u1 u2, rfl, ⟨op, fi, se, st, f0⟩, f1, f2, f3, sa, mr, mt1, ln1, ds, fd, fw, sn1, f4, f5, f6, f7, f8, f9, fa, fb, fc, fd0⟩)⟩
        · omega)
  · refine zn_bipush (x := 4294967294) F d_Mo_make_9 (by decide) ?_
    exact zv_iret F d_Mo_make_11 (Nat.le_of_ble_eq_true rfl) (Nat.le_of_ble_eq_true rfl) ⟨4294967294, rfl, rfl, fr, Or.inl ⟨by omega, rfl, hat0⟩⟩

