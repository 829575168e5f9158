def pm_ba (k code c : Nat) : Nat := if code = 0 ∧ c = k then 1 else 2
def pm_baA (k code : Nat) : Bool := decide ((k < 2 ∧ code = 1) ∨ (k = 2 ∧ code = 0))
def pm_tb (a q : Nat) : Bool := decide (a / 2 ^ q % 2 = 1)
def pm_pa (g1 g2 : Nat → Nat) (code c : Nat) : Nat := 6 * g1 (2 * (code / 6) + c) + g2 (2 * (code % 6) + c)
def pm_paA (both : Bool) (a1 a2 code : Nat) : Bool := if both = true then (pm_tb a1 (code / 6) && pm_tb a2 (code % 6)) else (pm_tb a1 (code / 6) || pm_tb a2 (code % 6))
def pm_of (a1 p set : Nat) : Nat := 64 * p + (if a1 / 2 ^ p % 2 = 1 then set ||| 1 else set)
def pm_ch (a1 : Nat) (g1 g2 : Nat → Nat) (n2 code c : Nat) : Nat := pm_of a1 (g1 (2 * (code / 64) + c)) (au_ss g2 (code % 64) c n2)
def pm_chA (a2 code : Nat) : Bool := decide (¬ (a2 &&& (code % 64)) = 0)
def pm_sf (a s : Nat) : Nat := if ¬ (a &&& s) = 0 then s ||| 1 else s
def pm_st (a : Nat) (g : Nat → Nat) (n code c : Nat) : Nat := pm_sf a (au_ss g (if code = 64 then 1 else code) c n)
def pm_stA (a code : Nat) : Bool := decide (code = 64 ∨ ¬ (a &&& code) = 0)
def pm_in (g : Nat → Nat) (code c : Nat) : Nat := g (2 * code + c)
def pm_inA (a code : Nat) : Bool := !pm_tb a code
theorem Ba_startCode_ok {l : Launch} {Δ : zv_D} {hp : zv_M} {sz : Nat} {b : Nat} : zv_P l Δ 2 y_Ba_startCode b_Ba_startCode 1 ((some (FieldType.int))) [.ref b] hp sz (.int (nI 0)) := by
  refine zv_E.intro (lv0 := [some (.ref b)]) rfl (Nat.le_of_ble_eq_true rfl) rfl ?_
  intro Γ hl F
  clear hl
  refine zn_iconst (x := 0) F d_Ba_startCode_0 (by decide) ?_
  exact zv_iret F d_Ba_startCode_1 (Nat.le_of_ble_eq_true rfl) (Nat.le_of_ble_eq_true rfl) ⟨rfl, rfl, rfl⟩
theorem Ba_stepCode_ok {l : Launch} {Δ : zv_D} {hp : zv_M} {sz : Nat} {b k code c : Nat} (hB : hp b = some (.inr (2, [.int (nI k)]))) (hk : k < 4) (hx : code < 384) (hc : c < 2) : zv_P l Δ 2 y_Ba_stepCode b_Ba_stepCode 3 ((some (FieldType.int))) [.ref b, .int (nI code), .int (nI c)] hp sz (.int (nI (pm_ba k code c))) := by
  refine zv_E.intro (lv0 := [some (.ref b), some (.int (nI code)), some (.int (nI c))]) rfl (Nat.le_of_ble_eq_true rfl) rfl ?_
  intro Γ hl F
  clear hl
  refine zv_iload_n F d_Ba_stepCode_0 rfl ?_
  first | refine zn_bif_ne (tgt := 16) F d_Ba_stepCode_1 rfl (fun h1 => ?_) (fun h1 => ?_) | refine zn_if_ne (tgt := 16) F d_Ba_stepCode_1 rfl (by omega) (fun h1 => ?_) (fun h1 => ?_)
  · refine zn_iconst (x := 2) F d_Ba_stepCode_16 (by decide) ?_
    exact zv_iret F d_Ba_stepCode_17 (Nat.le_of_ble_eq_true rfl) (Nat.le_of_ble_eq_true rfl) ⟨zn_rt (by unfold pm_ba; first | rw [if_pos (by omega)] | rw [if_neg (by omega)]), rfl, rfl⟩
  · refine zv_iload_n F d_Ba_stepCode_4 rfl ?_
    refine zv_aload_n F d_Ba_stepCode_5 rfl ?_
    refine zv_get F d_Ba_stepCode_6 (by assumption) k_Ba 0 (Nat.le_of_ble_eq_true rfl) ln_Ba_9 rfl (by rfl) ?_
    refine zn_icmp_ne (tgt := 16) F d_Ba_stepCode_9 rfl (by omega) (by omega) (fun h9 => ?_) (fun h9 => ?_)
    · refine zn_iconst (x := 2) F d_Ba_stepCode_16 (by decide) ?_
      exact zv_iret F d_Ba_stepCode_17 (Nat.le_of_ble_eq_true rfl) (Nat.le_of_ble_eq_true rfl) ⟨zn_rt (by unfold pm_ba; first | rw [if_pos (by omega)] | rw [if_neg (by omega)]), rfl, rfl⟩
    · refine zn_iconst (x := 1) F d_Ba_stepCode_12 (by decide) ?_
      refine zv_goto (tgt := 17) F d_Ba_stepCode_13 rfl ?_
      exact zv_iret F d_Ba_stepCode_17 (Nat.le_of_ble_eq_true rfl) (Nat.le_of_ble_eq_true rfl) ⟨zn_rt (by unfold pm_ba; first | rw [if_pos (by omega)] | rw [if_neg (by omega)]), rfl, rfl⟩
theorem Ba_isAcceptingCode_ok {l : Launch} {Δ : zv_D} {hp : zv_M} {sz : Nat} {b k code : Nat} (hB : hp b = some (.inr (2, [.int (nI k)]))) (hk : k < 4) (hx : code < 384) : zv_P l Δ 2 y_Ba_isAcceptingCode b_Ba_isAcceptingCode 2 ((some (FieldType.boolean))) [.ref b, .int (nI code)] hp sz (.int (nI (pm_baA k code).toNat)) := by
  refine zv_E.intro (lv0 := [some (.ref b), some (.int (nI code))]) rfl (Nat.le_of_ble_eq_true rfl) rfl ?_
  intro Γ hl F
  clear hl
  unfold pm_baA
  refine zv_aload_n F d_Ba_isAcceptingCode_0 rfl ?_
  refine zv_get F d_Ba_isAcceptingCode_1 (by assumption) k_Ba 0 (Nat.le_of_ble_eq_true rfl) ln_Ba_9 rfl (by rfl) ?_
  refine zn_iconst (x := 2) F d_Ba_isAcceptingCode_4 (by decide) ?_
  refine zn_icmp_ge (tgt := 21) F d_Ba_isAcceptingCode_5 rfl (by omega) (by omega) (fun h5 => ?_) (fun h5 => ?_)
  · refine zv_aload_n F d_Ba_isAcceptingCode_21 rfl ?_
    refine zv_get F d_Ba_isAcceptingCode_22 (by assumption) k_Ba 0 (Nat.le_of_ble_eq_true rfl) ln_Ba_9 rfl (by rfl) ?_
    refine zn_iconst (x := 2) F d_Ba_isAcceptingCode_25 (by decide) ?_
    refine zn_icmp_ne (tgt := 37) F d_Ba_isAcceptingCode_26 rfl (by omega) (by omega) (fun h26 => ?_) (fun h26 => ?_)
    · refine zn_iconst (x := 0) F d_Ba_isAcceptingCode_37 (by decide) ?_
      exact zv_zret F d_Ba_isAcceptingCode_38 (Nat.le_of_ble_eq_true rfl) (Nat.le_of_ble_eq_true rfl) (by first | rfl | exact zn_nb _) (by first | exact ⟨zn_bt (decide_eq_true (by omega)), rfl, rfl⟩ | exact ⟨zn_bf (decide_eq_false (by omega)), rfl, rfl⟩)
    · refine zv_iload_n F d_Ba_isAcceptingCode_29 rfl ?_
      first | refine zn_bif_ne (tgt := 37) F d_Ba_isAcceptingCode_30 rfl (fun h30 => ?_) (fun h30 => ?_) | refine zn_if_ne (tgt := 37) F d_Ba_isAcceptingCode_30 rfl (by omega) (fun h30 => ?_) (fun h30 => ?_)
      · refine zn_iconst (x := 0) F d_Ba_isAcceptingCode_37 (by decide) ?_
        exact zv_zret F d_Ba_isAcceptingCode_38 (Nat.le_of_ble_eq_true rfl) (Nat.le_of_ble_eq_true rfl) (by first | rfl | exact zn_nb _) (by first | exact ⟨zn_bt (decide_eq_true (by omega)), rfl, rfl⟩ | exact ⟨zn_bf (decide_eq_false (by omega)), rfl, rfl⟩)
      · refine zn_iconst (x := 1) F d_Ba_isAcceptingCode_33 (by decide) ?_
        refine zv_goto (tgt := 38) F d_Ba_isAcceptingCode_34 rfl ?_
        exact zv_zret F d_Ba_isAcceptingCode_38 (Nat.le_of_ble_eq_true rfl) (Nat.le_of_ble_eq_true rfl) (by first | rfl | exact zn_nb _) (by first | exact ⟨zn_bt (decide_eq_true (by omega)), rfl, rfl⟩ | exact ⟨zn_bf (decide_eq_false (by omega)), rfl, rfl⟩)
  · refine zv_iload_n F d_Ba_isAcceptingCode_8 rfl ?_
    refine zn_iconst (x := 1) F d_Ba_isAcceptingCode_9 (by decide) ?_
    refine zn_icmp_ne (tgt := 17) F d_Ba_isAcceptingCode_10 rfl (by omega) (by omega) (fun h10 => ?_) (fun h10 => ?_)
    · refine zn_iconst (x := 0) F d_Ba_isAcceptingCode_17 (by decide) ?_
      refine zv_goto (tgt := 38) F d_Ba_isAcceptingCode_18 rfl ?_
      exact zv_zret F d_Ba_isAcceptingCode_38 (Nat.le_of_ble_eq_true rfl) (Nat.le_of_ble_eq_true rfl) (by first | rfl | exact zn_nb _) (by first | exact ⟨zn_bt (decide_eq_true (by omega)), rfl, rfl⟩ | exact ⟨zn_bf (decide_eq_false (by omega)), rfl, rfl⟩)
    · refine zn_iconst (x := 1) F d_Ba_isAcceptingCode_13 (by decide) ?_
      refine zv_goto (tgt := 38) F d_Ba_isAcceptingCode_14 rfl ?_
      exact zv_zret F d_Ba_isAcceptingCode_38 (Nat.le_of_ble_eq_true rfl) (Nat.le_of_ble_eq_true rfl) (by first | rfl | exact zn_nb _) (by first | exact ⟨zn_bt (decide_eq_true (by omega)), rfl, rfl⟩ | exact ⟨zn_bf (decide_eq_false (by omega)), rfl, rfl⟩)
theorem Pa_startCode_ok {l : Launch} {Δ : zv_D} {hp : zv_M} {sz : Nat} {b : Nat} : zv_P l Δ 2 y_Pa_startCode b_Pa_startCode 1 ((some (FieldType.int))) [.ref b] hp sz (.int (nI 0)) := by
  refine zv_E.intro (lv0 := [some (.ref b)]) rfl (Nat.le_of_ble_eq_true rfl) rfl ?_
  intro Γ hl F
  clear hl
  refine zn_iconst (x := 0) F d_Pa_startCode_0 (by decide) ?_
  exact zv_iret F d_Pa_startCode_1 (Nat.le_of_ble_eq_true rfl) (Nat.le_of_ble_eq_true rfl) ⟨rfl, rfl, rfl⟩
theorem Pa_stepCode_ok {l : Launch} {Δ : zv_D} {hp : zv_M} {sz : Nat} {b a1 a2 n1 n2 c1 c2 code c : Nat} {both : Bool} {g1 g2 : Nat → Nat} (hB : hp b = some (.inr (3, [.ref a1, .ref a2, .int (nI both.toNat)]))) (hA1 : au_at Δ hp a1 n1 c1 g1) (hA2 : au_at Δ hp a2 n2 c2 g2) (hx : code < 36) (hc : c < 2) : zv_P l Δ 2 y_Pa_stepCode b_Pa_stepCode 5 ((some (FieldType.int))) [.ref b, .int (nI code), .int (nI c)] hp sz (.int (nI (pm_pa g1 g2 code c))) := by
  refine zv_E.intro (lv0 := [some (.ref b), some (.int (nI code)), some (.int (nI c)), none, none]) rfl (Nat.le_of_ble_eq_true rfl) rfl ?_
  intro Γ hl F
  clear hl
  have f1 := hA1.1
  have f2 := hA2.1
  refine zv_aload_n F d_Pa_stepCode_0 rfl ?_
  refine zv_get F d_Pa_stepCode_1 (by assumption) k_Pa 0 (Nat.le_of_ble_eq_true rfl) ln_Pa_9 rfl (by rfl) ?_
  refine zv_iload_n F d_Pa_stepCode_4 rfl ?_
  refine zn_bipush (x := 6) F d_Pa_stepCode_5 (by decide) ?_
  refine zn_idiv F d_Pa_stepCode_7 (by omega) (by omega) (by omega) ?_
  refine zv_iload_n F d_Pa_stepCode_8 rfl ?_
  refine zv_pV2 F rfl (by assumption) k_Au.1 d_Pa_stepCode_9 (Au_step_ok hA1 (by omega)) Y_Au_step Yi_Au_step Yv_Au_step ln_Pa_22 ⟨(Nat.le_of_ble_eq_true rfl), (Nat.le_of_ble_eq_true rfl)⟩ (Nat.le_of_ble_eq_true rfl) ⟨(Nat.le_of_ble_eq_true rfl), (Nat.le_of_ble_eq_true rfl)⟩ ?_
  refine zv_istore_n F d_Pa_stepCode_12 (Nat.le_of_ble_eq_true rfl) ?_
  simp only [zv_s1, zv_s2, zv_kill, List.set_cons_zero, List.set_cons_succ, List.getElem?_cons_zero, List.getElem?_cons_succ]
  refine zv_aload_n F d_Pa_stepCode_13 rfl ?_
  refine zv_get F d_Pa_stepCode_14 (by assumption) k_Pa 1 (Nat.le_of_ble_eq_true rfl) ln_Pa_15 rfl (by rfl) ?_
  refine zv_iload_n F d_Pa_stepCode_17 rfl ?_
  refine zn_bipush (x := 6) F d_Pa_stepCode_18 (by decide) ?_
  refine zn_irem F d_Pa_stepCode_20 (by omega) (by omega) (by omega) ?_
  refine zv_iload_n F d_Pa_stepCode_21 rfl ?_
  refine zv_pV2 F rfl (by assumption) k_Au.1 d_Pa_stepCode_22 (Au_step_ok hA2 (by omega)) Y_Au_step Yi_Au_step Yv_Au_step ln_Pa_22 ⟨(Nat.le_of_ble_eq_true rfl), (Nat.le_of_ble_eq_true rfl)⟩ (Nat.le_of_ble_eq_true rfl) ⟨(Nat.le_of_ble_eq_true rfl), (Nat.le_of_ble_eq_true rfl)⟩ ?_
  refine zv_istore F d_Pa_stepCode_25 (Nat.le_of_ble_eq_true rfl) ?_
  simp only [zv_s1, zv_s2, zv_kill, List.set_cons_zero, List.set_cons_succ, List.getElem?_cons_zero, List.getElem?_cons_succ]
  refine zn_bipush (x := 6) F d_Pa_stepCode_27 (by decide) ?_
  refine zv_iload_n F d_Pa_stepCode_29 rfl ?_
  refine zn_imul F d_Pa_stepCode_30 ?_
  refine zv_iload F d_Pa_stepCode_31 rfl ?_
  refine zn_iadd F d_Pa_stepCode_33 ?_
  exact zv_iret F d_Pa_stepCode_34 (Nat.le_of_ble_eq_true rfl) (Nat.le_of_ble_eq_true rfl) ⟨rfl, rfl, rfl⟩
theorem Pa_isAcceptingCode_ok {l : Launch} {Δ : zv_D} {hp : zv_M} {sz : Nat} {b a1 a2 n1 n2 c1 c2 code : Nat} {both : Bool} {g1 g2 : Nat → Nat} (hB : hp b = some (.inr (3, [.ref a1, .ref a2, .int (nI both.toNat)]))) (hA1 : au_at Δ hp a1 n1 c1 g1) (hA2 : au_at Δ hp a2 n2 c2 g2) (hc1 : c1 < 64) (hc2 : c2 < 64) (hx : code < 36) : zv_P l Δ 2 y_Pa_isAcceptingCode b_Pa_isAcceptingCode 4 ((some (FieldType.boolean))) [.ref b, .int (nI code)] hp sz (.int (nI (pm_paA both c1 c2 code).toNat)) := by
  refine zv_E.intro (lv0 := [some (.ref b), some (.int (nI code)), none, none]) rfl (Nat.le_of_ble_eq_true rfl) rfl ?_
  intro Γ hl F
  clear hl
  have f1 := hA1.1
  have f2 := hA2.1
  refine zv_aload_n F d_Pa_isAcceptingCode_0 rfl ?_
  refine zv_get F d_Pa_isAcceptingCode_1 (by assumption) k_Pa 0 (Nat.le_of_ble_eq_true rfl) ln_Pa_9 rfl (by rfl) ?_
  refine zv_iload_n F d_Pa_isAcceptingCode_4 rfl ?_
  refine zn_bipush (x := 6) F d_Pa_isAcceptingCode_5 (by decide) ?_
  refine zn_idiv F d_Pa_isAcceptingCode_7 (by omega) (by omega) (by omega) ?_
  refine zv_pV1 F rfl (by assumption) k_Au.1 d_Pa_isAcceptingCode_8 (Au_isAccepting_ok hA1 hc1 (by omega)) Y_Au_isAccepting Yi_Au_isAccepting Yv_Au_isAccepting ln_Pa_28 ⟨(Nat.le_of_ble_eq_true rfl), (Nat.le_of_ble_eq_true rfl)⟩ (Nat.le_of_ble_eq_true rfl) ⟨(Nat.le_of_ble_eq_true rfl), (Nat.le_of_ble_eq_true rfl)⟩ ?_
  refine zv_istore_n F d_Pa_isAcceptingCode_11 (Nat.le_of_ble_eq_true rfl) ?_
  simp only [zv_s1, zv_s2, zv_kill, List.set_cons_zero, List.set_cons_succ, List.getElem?_cons_zero, List.getElem?_cons_succ]
  refine zv_aload_n F d_Pa_isAcceptingCode_12 rfl ?_
  refine zv_get F d_Pa_isAcceptingCode_13 (by assumption) k_Pa 1 (Nat.le_of_ble_eq_true rfl) ln_Pa_15 rfl (by rfl) ?_
  refine zv_iload_n F d_Pa_isAcceptingCode_16 rfl ?_
  refine zn_bipush (x := 6) F d_Pa_isAcceptingCode_17 (by decide) ?_
  refine zn_irem F d_Pa_isAcceptingCode_19 (by omega) (by omega) (by omega) ?_
  refine zv_pV1 F rfl (by assumption) k_Au.1 d_Pa_isAcceptingCode_20 (Au_isAccepting_ok hA2 hc2 (by omega)) Y_Au_isAccepting Yi_Au_isAccepting Yv_Au_isAccepting ln_Pa_28 ⟨(Nat.le_of_ble_eq_true rfl), (Nat.le_of_ble_eq_true rfl)⟩ (Nat.le_of_ble_eq_true rfl) ⟨(Nat.le_of_ble_eq_true rfl), (Nat.le_of_ble_eq_true rfl)⟩ ?_
  refine zv_istore_n F d_Pa_isAcceptingCode_23 (Nat.le_of_ble_eq_true rfl) ?_
  simp only [zv_s1, zv_s2, zv_kill, List.set_cons_zero, List.set_cons_succ, List.getElem?_cons_zero, List.getElem?_cons_succ]
  refine zv_aload_n F d_Pa_isAcceptingCode_24 rfl ?_
  refine zv_get F d_Pa_isAcceptingCode_25 (by assumption) k_Pa 2 (Nat.le_of_ble_eq_true rfl) ln_Pa_18 rfl (by rfl) ?_
  first | refine zn_bif_eq (tgt := 47) F d_Pa_isAcceptingCode_28 rfl (fun h28 => ?_) (fun h28 => ?_) | refine zn_if_eq (tgt := 47) F d_Pa_isAcceptingCode_28 rfl (by omega) (fun h28 => ?_) (fun h28 => ?_)
  · refine zv_iload_n F d_Pa_isAcceptingCode_47 rfl ?_
    first | refine zn_bif_ne (tgt := 55) F d_Pa_isAcceptingCode_48 rfl (fun h48 => ?_) (fun h48 => ?_) | refine zn_if_ne (tgt := 55) F d_Pa_isAcceptingCode_48 rfl (by omega) (fun h48 => ?_) (fun h48 => ?_)
    · refine zn_iconst (x := 1) F d_Pa_isAcceptingCode_55 (by decide) ?_
      refine zv_goto (tgt := 60) F d_Pa_isAcceptingCode_56 rfl ?_
      exact zv_zret F d_Pa_isAcceptingCode_60 (Nat.le_of_ble_eq_true rfl) (Nat.le_of_ble_eq_true rfl) (by first | rfl | exact zn_nb _) (by first | exact ⟨zn_bt (by simp [pm_paA, pm_tb, *]), rfl, rfl⟩ | exact ⟨zn_bf (by simp [pm_paA, pm_tb, *]), rfl, rfl⟩)
    · refine zv_iload_n F d_Pa_isAcceptingCode_51 rfl ?_
      first | refine zn_bif_eq (tgt := 59) F d_Pa_isAcceptingCode_52 rfl (fun h52 => ?_) (fun h52 => ?_) | refine zn_if_eq (tgt := 59) F d_Pa_isAcceptingCode_52 rfl (by omega) (fun h52 => ?_) (fun h52 => ?_)
      · refine zn_iconst (x := 0) F d_Pa_isAcceptingCode_59 (by decide) ?_
        exact zv_zret F d_Pa_isAcceptingCode_60 (Nat.le_of_ble_eq_true rfl) (Nat.le_of_ble_eq_true rfl) (by first | rfl | exact zn_nb _) (by first | exact ⟨zn_bt (by simp [pm_paA, pm_tb, *]), rfl, rfl⟩ | exact ⟨zn_bf (by simp [pm_paA, pm_tb, *]), rfl, rfl⟩)
      · refine zn_iconst (x := 1) F d_Pa_isAcceptingCode_55 (by decide) ?_
        refine zv_goto (tgt := 60) F d_Pa_isAcceptingCode_56 rfl ?_
        exact zv_zret F d_Pa_isAcceptingCode_60 (Nat.le_of_ble_eq_true rfl) (Nat.le_of_ble_eq_true rfl) (by first | rfl | exact zn_nb _) (by first | exact ⟨zn_bt (by simp [pm_paA, pm_tb, *]), rfl, rfl⟩ | exact ⟨zn_bf (by simp [pm_paA, pm_tb, *]), rfl, rfl⟩)
  · refine zv_iload_n F d_Pa_isAcceptingCode_31 rfl ?_
    first | refine zn_bif_eq (tgt := 43) F d_Pa_isAcceptingCode_32 rfl (fun h32 => ?_) (fun h32 => ?_) | refine zn_if_eq (tgt := 43) F d_Pa_isAcceptingCode_32 rfl (by omega) (fun h32 => ?_) (fun h32 => ?_)
    · refine zn_iconst (x := 0) F d_Pa_isAcceptingCode_43 (by decide) ?_
      refine zv_goto (tgt := 60) F d_Pa_isAcceptingCode_44 rfl ?_
      exact zv_zret F d_Pa_isAcceptingCode_60 (Nat.le_of_ble_eq_true rfl) (Nat.le_of_ble_eq_true rfl) (by first | rfl | exact zn_nb _) (by first | exact ⟨zn_bt (by simp [pm_paA, pm_tb, *]), rfl, rfl⟩ | exact ⟨zn_bf (by simp [pm_paA, pm_tb, *]), rfl, rfl⟩)
    · refine zv_iload_n F d_Pa_isAcceptingCode_35 rfl ?_
      first | refine zn_bif_eq (tgt := 43) F d_Pa_isAcceptingCode_36 rfl (fun h36 => ?_) (fun h36 => ?_) | refine zn_if_eq (tgt := 43) F d_Pa_isAcceptingCode_36 rfl (by omega) (fun h36 => ?_) (fun h36 => ?_)
      · refine zn_iconst (x := 0) F d_Pa_isAcceptingCode_43 (by decide) ?_
        refine zv_goto (tgt := 60) F d_Pa_isAcceptingCode_44 rfl ?_
        exact zv_zret F d_Pa_isAcceptingCode_60 (Nat.le_of_ble_eq_true rfl) (Nat.le_of_ble_eq_true rfl) (by first | rfl | exact zn_nb _) (by first | exact ⟨zn_bt (by simp [pm_paA, pm_tb, *]), rfl, rfl⟩ | exact ⟨zn_bf (by simp [pm_paA, pm_tb, *]), rfl, rfl⟩)
      · refine zn_iconst (x := 1) F d_Pa_isAcceptingCode_39 (by decide) ?_
        refine zv_goto (tgt := 60) F d_Pa_isAcceptingCode_40 rfl ?_
        exact zv_zret F d_Pa_isAcceptingCode_60 (Nat.le_of_ble_eq_true rfl) (Nat.le_of_ble_eq_true rfl) (by first | rfl | exact zn_nb _) (by first | exact ⟨zn_bt (by simp [pm_paA, pm_tb, *]), rfl, rfl⟩ | exact ⟨zn_bf (by simp [pm_paA, pm_tb, *]), rfl, rfl⟩)
theorem Ch_codeOf_ok {l : Launch} {Δ : zv_D} {hp : zv_M} {sz : Nat} {b a1 a2 n1 c1 p set : Nat} {g1 : Nat → Nat} (hB : hp b = some (.inr (4, [.ref a1, .ref a2]))) (hA1 : au_at Δ hp a1 n1 c1 g1) (hc1 : c1 < 64) (hp6 : p < 6) : zv_P l Δ 1 y_Ch_codeOf b_Ch_codeOf 4 ((some (FieldType.int))) [.ref b, .int (nI p), .int (nI set)] hp sz (.int (nI (pm_of c1 p set))) := by
  refine zv_E.intro (lv0 := [some (.ref b), some (.int (nI p)), some (.int (nI set)), none]) rfl (Nat.le_of_ble_eq_true rfl) rfl ?_
  intro Γ hl F
  clear hl
  have f1 := hA1.1
  refine zv_aload_n F d_Ch_codeOf_0 rfl ?_
  refine zv_get F d_Ch_codeOf_1 (by assumption) k_Ch 0 (Nat.le_of_ble_eq_true rfl) ln_Ch_9 rfl (by rfl) ?_
  refine zv_iload_n F d_Ch_codeOf_4 rfl ?_
  refine zv_pV1 F rfl (by assumption) k_Au.1 d_Ch_codeOf_5 (Au_isAccepting_ok hA1 hc1 (by omega)) Y_Au_isAccepting Yi_Au_isAccepting Yv_Au_isAccepting ln_Ch_34 ⟨(Nat.le_of_ble_eq_true rfl), (Nat.le_of_ble_eq_true rfl)⟩ (Nat.le_of_ble_eq_true rfl) ⟨(Nat.le_of_ble_eq_true rfl), (Nat.le_of_ble_eq_true rfl)⟩ ?_
  first | refine zn_bif_eq (tgt := 17) F d_Ch_codeOf_8 rfl (fun h8 => ?_) (fun h8 => ?_) | refine zn_if_eq (tgt := 17) F d_Ch_codeOf_8 rfl (by omega) (fun h8 => ?_) (fun h8 => ?_)
  · refine zv_iload_n F d_Ch_codeOf_17 rfl ?_
    refine zv_istore_n F d_Ch_codeOf_18 (Nat.le_of_ble_eq_true rfl) ?_
    simp only [zv_s1, zv_s2, zv_kill, List.set_cons_zero, List.set_cons_succ, List.getElem?_cons_zero, List.getElem?_cons_succ]
    refine zn_bipush (x := 64) F d_Ch_codeOf_19 (by decide) ?_
    refine zv_iload_n F d_Ch_codeOf_21 rfl ?_
    refine zn_imul F d_Ch_codeOf_22 ?_
    refine zv_iload_n F d_Ch_codeOf_23 rfl ?_
    refine zn_iadd F d_Ch_codeOf_24 ?_
    exact zv_iret F d_Ch_codeOf_25 (Nat.le_of_ble_eq_true rfl) (Nat.le_of_ble_eq_true rfl) ⟨zn_rt (by unfold pm_of; first | rw [if_pos (of_decide_eq_true h8)] | rw [if_neg (of_decide_eq_false h8)]), rfl, rfl⟩
  · refine zv_iload_n F d_Ch_codeOf_11 rfl ?_
    refine zn_iconst (x := 1) F d_Ch_codeOf_12 (by decide) ?_
    refine zn_ior F d_Ch_codeOf_13 ?_
    refine zv_goto (tgt := 18) F d_Ch_codeOf_14 rfl ?_
    refine zv_istore_n F d_Ch_codeOf_18 (Nat.le_of_ble_eq_true rfl) ?_
    simp only [zv_s1, zv_s2, zv_kill, List.set_cons_zero, List.set_cons_succ, List.getElem?_cons_zero, List.getElem?_cons_succ]
    refine zn_bipush (x := 64) F d_Ch_codeOf_19 (by decide) ?_
    refine zv_iload_n F d_Ch_codeOf_21 rfl ?_
    refine zn_imul F d_Ch_codeOf_22 ?_
    refine zv_iload_n F d_Ch_codeOf_23 rfl ?_
    refine zn_iadd F d_Ch_codeOf_24 ?_
    exact zv_iret F d_Ch_codeOf_25 (Nat.le_of_ble_eq_true rfl) (Nat.le_of_ble_eq_true rfl) ⟨zn_rt (by unfold pm_of; first | rw [if_pos (of_decide_eq_true h8)] | rw [if_neg (of_decide_eq_false h8)]), rfl, rfl⟩
theorem Ch_startCode_ok {l : Launch} {Δ : zv_D} {hp : zv_M} {sz : Nat} {b a1 a2 n1 c1 : Nat} {g1 : Nat → Nat} (hB : hp b = some (.inr (4, [.ref a1, .ref a2]))) (hA1 : au_at Δ hp a1 n1 c1 g1) (hc1 : c1 < 64) : zv_P l Δ 2 y_Ch_startCode b_Ch_startCode 1 ((some (FieldType.int))) [.ref b] hp sz (.int (nI (pm_of c1 0 0))) := by
  refine zv_E.intro (lv0 := [some (.ref b)]) rfl (Nat.le_of_ble_eq_true rfl) rfl ?_
  intro Γ hl F
  clear hl
  refine zv_aload_n F d_Ch_startCode_0 rfl ?_
  refine zn_iconst (x := 0) F d_Ch_startCode_1 (by decide) ?_
  refine zn_iconst (x := 0) F d_Ch_startCode_2 (by decide) ?_
  refine zv_pV2 F rfl (by assumption) k_Ch.1 d_Ch_startCode_3 (Ch_codeOf_ok hB hA1 hc1 (by decide)) Y_Ch_codeOf Yi_Ch_codeOf Yv_Ch_codeOf ln_Ch_18 ⟨(Nat.le_of_ble_eq_true rfl), (Nat.le_of_ble_eq_true rfl)⟩ (Nat.le_of_ble_eq_true rfl) ⟨(Nat.le_of_ble_eq_true rfl), (Nat.le_of_ble_eq_true rfl)⟩ ?_
  exact zv_iret F d_Ch_startCode_6 (Nat.le_of_ble_eq_true rfl) (Nat.le_of_ble_eq_true rfl) ⟨rfl, rfl, rfl⟩
theorem Ch_stepCode_ok {l : Launch} {Δ : zv_D} {hp : zv_M} {sz : Nat} {b a1 a2 n1 n2 c1 c2 code c : Nat} {g1 g2 : Nat → Nat} (hB : hp b = some (.inr (4, [.ref a1, .ref a2]))) (hA1 : au_at Δ hp a1 n1 c1 g1) (ho1 : au_ok n1 c1 g1) (hA2 : au_at Δ hp a2 n2 c2 g2) (ho2 : au_ok n2 c2 g2) (hx : code < 384) (hc : c < 2) : zv_P l Δ 2 y_Ch_stepCode b_Ch_stepCode 5 ((some (FieldType.int))) [.ref b, .int (nI code), .int (nI c)] hp sz (.int (nI (pm_ch c1 g1 g2 n2 code c))) := by
  refine zv_E.intro (lv0 := [some (.ref b), some (.int (nI code)), some (.int (nI c)), none, none]) rfl (Nat.le_of_ble_eq_true rfl) rfl ?_
  intro Γ hl F
  clear hl
  have f1 := hA1.1
  have f2 := hA2.1
  have h1 := ho1.2.2 (2 * (code / 64) + c) (by omega)
  refine zv_aload_n F d_Ch_stepCode_0 rfl ?_
  refine zv_get F d_Ch_stepCode_1 (by assumption) k_Ch 0 (Nat.le_of_ble_eq_true rfl) ln_Ch_9 rfl (by rfl) ?_
  refine zv_iload_n F d_Ch_stepCode_4 rfl ?_
  refine zn_bipush (x := 64) F d_Ch_stepCode_5 (by decide) ?_
  refine zn_idiv F d_Ch_stepCode_7 (by omega) (by omega) (by omega) ?_
  refine zv_iload_n F d_Ch_stepCode_8 rfl ?_
  refine zv_pV2 F rfl (by assumption) k_Au.1 d_Ch_stepCode_9 (Au_step_ok hA1 (by omega)) Y_Au_step Yi_Au_step Yv_Au_step ln_Ch_22 ⟨(Nat.le_of_ble_eq_true rfl), (Nat.le_of_ble_eq_true rfl)⟩ (Nat.le_of_ble_eq_true rfl) ⟨(Nat.le_of_ble_eq_true rfl), (Nat.le_of_ble_eq_true rfl)⟩ ?_
  refine zv_istore_n F d_Ch_stepCode_12 (Nat.le_of_ble_eq_true rfl) ?_
  simp only [zv_s1, zv_s2, zv_kill, List.set_cons_zero, List.set_cons_succ, List.getElem?_cons_zero, List.getElem?_cons_succ]
  refine zv_aload_n F d_Ch_stepCode_13 rfl ?_
  refine zv_get F d_Ch_stepCode_14 (by assumption) k_Ch 1 (Nat.le_of_ble_eq_true rfl) ln_Ch_15 rfl (by rfl) ?_
  refine zv_iload_n F d_Ch_stepCode_17 rfl ?_
  refine zn_bipush (x := 64) F d_Ch_stepCode_18 (by decide) ?_
  refine zn_irem F d_Ch_stepCode_20 (by omega) (by omega) (by omega) ?_
  refine zv_iload_n F d_Ch_stepCode_21 rfl ?_
  refine zv_pV2 F rfl (by assumption) k_Au.1 d_Ch_stepCode_22 (Au_stepSet_ok hA2 ho2 (by omega) hc) Y_Au_stepSet Yi_Au_stepSet Yv_Au_stepSet ln_Ch_27 ⟨(Nat.le_of_ble_eq_true rfl), (Nat.le_of_ble_eq_true rfl)⟩ (Nat.le_of_ble_eq_true rfl) ⟨(Nat.le_of_ble_eq_true rfl), (Nat.le_of_ble_eq_true rfl)⟩ ?_
  refine zv_istore F d_Ch_stepCode_25 (Nat.le_of_ble_eq_true rfl) ?_
  simp only [zv_s1, zv_s2, zv_kill, List.set_cons_zero, List.set_cons_succ, List.getElem?_cons_zero, List.getElem?_cons_succ]
  refine zv_aload_n F d_Ch_stepCode_27 rfl ?_
  refine zv_iload_n F d_Ch_stepCode_28 rfl ?_
  refine zv_iload F d_Ch_stepCode_29 rfl ?_
  refine zv_pV2 F rfl (by assumption) k_Ch.1 d_Ch_stepCode_31 (Ch_codeOf_ok hB hA1 ho1.2.1 h1) Y_Ch_codeOf Yi_Ch_codeOf Yv_Ch_codeOf ln_Ch_18 ⟨(Nat.le_of_ble_eq_true rfl), (Nat.le_of_ble_eq_true rfl)⟩ (Nat.le_of_ble_eq_true rfl) ⟨(Nat.le_of_ble_eq_true rfl), (Nat.le_of_ble_eq_true rfl)⟩ ?_
  exact zv_iret F d_Ch_stepCode_34 (Nat.le_of_ble_eq_true rfl) (Nat.le_of_ble_eq_true rfl) ⟨rfl, rfl, rfl⟩
theorem Ch_isAcceptingCode_ok {l : Launch} {Δ : zv_D} {hp : zv_M} {sz : Nat} {b a1 a2 n2 c2 code : Nat} {g2 : Nat → Nat} (hB : hp b = some (.inr (4, [.ref a1, .ref a2]))) (hA2 : au_at Δ hp a2 n2 c2 g2) (hc2 : c2 < 64) (hx : code < 384) : zv_P l Δ 2 y_Ch_isAcceptingCode b_Ch_isAcceptingCode 2 ((some (FieldType.boolean))) [.ref b, .int (nI code)] hp sz (.int (nI (pm_chA c2 code).toNat)) := by
  refine zv_E.intro (lv0 := [some (.ref b), some (.int (nI code))]) rfl (Nat.le_of_ble_eq_true rfl) rfl ?_
  intro Γ hl F
  clear hl
  have f2 := hA2.1
  refine zv_aload_n F d_Ch_isAcceptingCode_0 rfl ?_
  refine zv_get F d_Ch_isAcceptingCode_1 (by assumption) k_Ch 1 (Nat.le_of_ble_eq_true rfl) ln_Ch_15 rfl (by rfl) ?_
  refine zv_iload_n F d_Ch_isAcceptingCode_4 rfl ?_
  refine zn_bipush (x := 64) F d_Ch_isAcceptingCode_5 (by decide) ?_
  refine zn_irem F d_Ch_isAcceptingCode_7 (by omega) (by omega) (by omega) ?_
  refine zv_pV1 F rfl (by assumption) k_Au.1 d_Ch_isAcceptingCode_8 (Au_acceptsAnyOf_ok hA2 hc2) Y_Au_acceptsAnyOf Yi_Au_acceptsAnyOf Yv_Au_acceptsAnyOf ln_Ch_30 ⟨(Nat.le_of_ble_eq_true rfl), (Nat.le_of_ble_eq_true rfl)⟩ (Nat.le_of_ble_eq_true rfl) ⟨(Nat.le_of_ble_eq_true rfl), (Nat.le_of_ble_eq_true rfl)⟩ ?_
  exact zv_zret F d_Ch_isAcceptingCode_11 (Nat.le_of_ble_eq_true rfl) (Nat.le_of_ble_eq_true rfl) (by first | rfl | exact zn_nb _) ⟨rfl, rfl, rfl⟩
theorem St_startCode_ok {l : Launch} {Δ : zv_D} {hp : zv_M} {sz : Nat} {b : Nat} : zv_P l Δ 2 y_St_startCode b_St_startCode 1 ((some (FieldType.int))) [.ref b] hp sz (.int (nI 64)) := by
  refine zv_E.intro (lv0 := [some (.ref b)]) rfl (Nat.le_of_ble_eq_true rfl) rfl ?_
  intro Γ hl F
  clear hl
  refine zn_bipush (x := 64) F d_St_startCode_0 (by decide) ?_
  exact zv_iret F d_St_startCode_2 (Nat.le_of_ble_eq_true rfl) (Nat.le_of_ble_eq_true rfl) ⟨rfl, rfl, rfl⟩
theorem St_stepCode_ok {l : Launch} {Δ : zv_D} {hp : zv_M} {sz : Nat} {b a n acc code c : Nat} {g : Nat → Nat} (hB : hp b = some (.inr (5, [.ref a]))) (hA : au_at Δ hp a n acc g) (ho : au_ok n acc g) (hx : code ≤ 64) (hc : c < 2) : zv_P l Δ 2 y_St_stepCode b_St_stepCode 4 ((some (FieldType.int))) [.ref b, .int (nI code), .int (nI c)] hp sz (.int (nI (pm_st acc g n code c))) := by
  refine zv_E.intro (lv0 := [some (.ref b), some (.int (nI code)), some (.int (nI c)), none]) rfl (Nat.le_of_ble_eq_true rfl) rfl ?_
  intro Γ hl F
  clear hl
  have f1 := hA.1
  refine zv_aload_n F d_St_stepCode_0 rfl ?_
  refine zv_get F d_St_stepCode_1 (by assumption) k_St 0 (Nat.le_of_ble_eq_true rfl) ln_St_9 rfl (by rfl) ?_
  refine zv_iload_n F d_St_stepCode_4 rfl ?_
  refine zn_bipush (x := 64) F d_St_stepCode_5 (by decide) ?_
  refine zn_icmp_ne (tgt := 14) F d_St_stepCode_7 rfl (by omega) (by omega) (fun h7 => ?_) (fun h7 => ?_)
  · have es : (if code = 64 then 1 else code) = code := if_neg h7
    refine zv_iload_n F d_St_stepCode_14 rfl ?_
    refine zv_iload_n F d_St_stepCode_15 rfl ?_
    refine zv_pV2 F rfl (by assumption) k_Au.1 d_St_stepCode_16 (Au_stepSet_ok hA ho (by omega) hc) Y_Au_stepSet Yi_Au_stepSet Yv_Au_stepSet ln_St_15 ⟨(Nat.le_of_ble_eq_true rfl), (Nat.le_of_ble_eq_true rfl)⟩ (Nat.le_of_ble_eq_true rfl) ⟨(Nat.le_of_ble_eq_true rfl), (Nat.le_of_ble_eq_true rfl)⟩ ?_
    refine zv_istore_n F d_St_stepCode_19 (Nat.le_of_ble_eq_true rfl) ?_
    simp only [zv_s1, zv_s2, zv_kill, List.set_cons_zero, List.set_cons_succ, List.getElem?_cons_zero, List.getElem?_cons_succ]
    refine zv_aload_n F d_St_stepCode_20 rfl ?_
    refine zv_get F d_St_stepCode_21 (by assumption) k_St 0 (Nat.le_of_ble_eq_true rfl) ln_St_9 rfl (by rfl) ?_
    refine zv_iload_n F d_St_stepCode_24 rfl ?_
    refine zv_pV1 F rfl (by assumption) k_Au.1 d_St_stepCode_25 (Au_acceptsAnyOf_ok hA ho.2.1) Y_Au_acceptsAnyOf Yi_Au_acceptsAnyOf Yv_Au_acceptsAnyOf ln_St_21 ⟨(Nat.le_of_ble_eq_true rfl), (Nat.le_of_ble_eq_true rfl)⟩ (Nat.le_of_ble_eq_true rfl) ⟨(Nat.le_of_ble_eq_true rfl), (Nat.le_of_ble_eq_true rfl)⟩ ?_
    first | refine zn_bif_eq (tgt := 37) F d_St_stepCode_28 rfl (fun h28 => ?_) (fun h28 => ?_) | refine zn_if_eq (tgt := 37) F d_St_stepCode_28 rfl (by omega) (fun h28 => ?_) (fun h28 => ?_)
    · refine zv_iload_n F d_St_stepCode_37 rfl ?_
      exact zv_iret F d_St_stepCode_38 (Nat.le_of_ble_eq_true rfl) (Nat.le_of_ble_eq_true rfl) ⟨zn_rt (by unfold pm_st pm_sf; rw [es]; first | rw [if_pos (of_decide_eq_true h28)] | rw [if_neg (of_decide_eq_false h28)]), rfl, rfl⟩
    · refine zv_iload_n F d_St_stepCode_31 rfl ?_
      refine zn_iconst (x := 1) F d_St_stepCode_32 (by decide) ?_
      refine zn_ior F d_St_stepCode_33 ?_
      refine zv_goto (tgt := 38) F d_St_stepCode_34 rfl ?_
      exact zv_iret F d_St_stepCode_38 (Nat.le_of_ble_eq_true rfl) (Nat.le_of_ble_eq_true rfl) ⟨zn_rt (by unfold pm_st pm_sf; rw [es]; first | rw [if_pos (of_decide_eq_true h28)] | rw [if_neg (of_decide_eq_false h28)]), rfl, rfl⟩
  · have es : (if code = 64 then 1 else code) = 1 := if_pos h7
    refine zn_iconst (x := 1) F d_St_stepCode_10 (by decide) ?_
    refine zv_goto (tgt := 15) F d_St_stepCode_11 rfl ?_
    refine zv_iload_n F d_St_stepCode_15 rfl ?_
    refine zv_pV2 F rfl (by assumption) k_Au.1 d_St_stepCode_16 (Au_stepSet_ok hA ho (by omega) hc) Y_Au_stepSet Yi_Au_stepSet Yv_Au_stepSet ln_St_15 ⟨(Nat.le_of_ble_eq_true rfl), (Nat.le_of_ble_eq_true rfl)⟩ (Nat.le_of_ble_eq_true rfl) ⟨(Nat.le_of_ble_eq_true rfl), (Nat.le_of_ble_eq_true rfl)⟩ ?_
    refine zv_istore_n F d_St_stepCode_19 (Nat.le_of_ble_eq_true rfl) ?_
    simp only [zv_s1, zv_s2, zv_kill, List.set_cons_zero, List.set_cons_succ, List.getElem?_cons_zero, List.getElem?_cons_succ]
    refine zv_aload_n F d_St_stepCode_20 rfl ?_
    refine zv_get F d_St_stepCode_21 (by assumption) k_St 0 (Nat.le_of_ble_eq_true rfl) ln_St_9 rfl (by rfl) ?_
    refine zv_iload_n F d_St_stepCode_24 rfl ?_
    refine zv_pV1 F rfl (by assumption) k_Au.1 d_St_stepCode_25 (Au_acceptsAnyOf_ok hA ho.2.1) Y_Au_acceptsAnyOf Yi_Au_acceptsAnyOf Yv_Au_acceptsAnyOf ln_St_21 ⟨(Nat.le_of_ble_eq_true rfl), (Nat.le_of_ble_eq_true rfl)⟩ (Nat.le_of_ble_eq_true rfl) ⟨(Nat.le_of_ble_eq_true rfl), (Nat.le_of_ble_eq_true rfl)⟩ ?_
    first | refine zn_bif_eq (tgt := 37) F d_St_stepCode_28 rfl (fun h28 => ?_) (fun h28 => ?_) | refine zn_if_eq (tgt := 37) F d_St_stepCode_28 rfl (by omega) (fun h28 => ?_) (fun h28 => ?_)
    · refine zv_iload_n F d_St_stepCode_37 rfl ?_
      exact zv_iret F d_St_stepCode_38 (Nat.le_of_ble_eq_true rfl) (Nat.le_of_ble_eq_true rfl) ⟨zn_rt (by unfold pm_st pm_sf; rw [es]; first | rw [if_pos (of_decide_eq_true h28)] | rw [if_neg (of_decide_eq_false h28)]), rfl, rfl⟩
    · refine zv_iload_n F d_St_stepCode_31 rfl ?_
      refine zn_iconst (x := 1) F d_St_stepCode_32 (by decide) ?_
      refine zn_ior F d_St_stepCode_33 ?_
      refine zv_goto (tgt := 38) F d_St_stepCode_34 rfl ?_
      exact zv_iret F d_St_stepCode_38 (Nat.le_of_ble_eq_true rfl) (Nat.le_of_ble_eq_true rfl) ⟨zn_rt (by unfold pm_st pm_sf; rw [es]; first | rw [if_pos (of_decide_eq_true h28)] | rw [if_neg (of_decide_eq_false h28)]), rfl, rfl⟩
theorem St_isAcceptingCode_ok {l : Launch} {Δ : zv_D} {hp : zv_M} {sz : Nat} {b a n acc code : Nat} {g : Nat → Nat} (hB : hp b = some (.inr (5, [.ref a]))) (hA : au_at Δ hp a n acc g) (ha : acc < 64) (hx : code ≤ 64) : zv_P l Δ 2 y_St_isAcceptingCode b_St_isAcceptingCode 2 ((some (FieldType.boolean))) [.ref b, .int (nI code)] hp sz (.int (nI (pm_stA acc code).toNat)) := by
  refine zv_E.intro (lv0 := [some (.ref b), some (.int (nI code))]) rfl (Nat.le_of_ble_eq_true rfl) rfl ?_
  intro Γ hl F
  clear hl
  have f1 := hA.1
  refine zv_iload_n F d_St_isAcceptingCode_0 rfl ?_
  refine zn_bipush (x := 64) F d_St_isAcceptingCode_1 (by decide) ?_
  refine zn_icmp_eq (tgt := 17) F d_St_isAcceptingCode_3 rfl (by omega) (by omega) (fun h3 => ?_) (fun h3 => ?_)
  · refine zn_iconst (x := 1) F d_St_isAcceptingCode_17 (by decide) ?_
    refine zv_goto (tgt := 22) F d_St_isAcceptingCode_18 rfl ?_
    exact zv_zret F d_St_isAcceptingCode_22 (Nat.le_of_ble_eq_true rfl) (Nat.le_of_ble_eq_true rfl) (by first | rfl | exact zn_nb _) (by first | exact ⟨zn_bt (decide_eq_true (Or.inl h3)), rfl, rfl⟩ | exact ⟨zn_bt (decide_eq_true (Or.inr (of_decide_eq_true h14))), rfl, rfl⟩ | exact ⟨zn_bf (decide_eq_false (fun z => z.elim h3 (of_decide_eq_false h14))), rfl, rfl⟩)
  · refine zv_aload_n F d_St_isAcceptingCode_6 rfl ?_
    refine zv_get F d_St_isAcceptingCode_7 (by assumption) k_St 0 (Nat.le_of_ble_eq_true rfl) ln_St_9 rfl (by rfl) ?_
    refine zv_iload_n F d_St_isAcceptingCode_10 rfl ?_
    refine zv_pV1 F rfl (by assumption) k_Au.1 d_St_isAcceptingCode_11 (Au_acceptsAnyOf_ok hA ha) Y_Au_acceptsAnyOf Yi_Au_acceptsAnyOf Yv_Au_acceptsAnyOf ln_St_21 ⟨(Nat.le_of_ble_eq_true rfl), (Nat.le_of_ble_eq_true rfl)⟩ (Nat.le_of_ble_eq_true rfl) ⟨(Nat.le_of_ble_eq_true rfl), (Nat.le_of_ble_eq_true rfl)⟩ ?_
    first | refine zn_bif_eq (tgt := 21) F d_St_isAcceptingCode_14 rfl (fun h14 => ?_) (fun h14 => ?_) | refine zn_if_eq (tgt := 21) F d_St_isAcceptingCode_14 rfl (by omega) (fun h14 => ?_) (fun h14 => ?_)
    · refine zn_iconst (x := 0) F d_St_isAcceptingCode_21 (by decide) ?_
      exact zv_zret F d_St_isAcceptingCode_22 (Nat.le_of_ble_eq_true rfl) (Nat.le_of_ble_eq_true rfl) (by first | rfl | exact zn_nb _) (by first | exact ⟨zn_bt (decide_eq_true (Or.inl h3)), rfl, rfl⟩ | exact ⟨zn_bt (decide_eq_true (Or.inr (of_decide_eq_true h14))), rfl, rfl⟩ | exact ⟨zn_bf (decide_eq_false (fun z => z.elim h3 (of_decide_eq_false h14))), rfl, rfl⟩)
    · refine zn_iconst (x := 1) F d_St_isAcceptingCode_17 (by decide) ?_
      refine zv_goto (tgt := 22) F d_St_isAcceptingCode_18 rfl ?_
      exact zv_zret F d_St_isAcceptingCode_22 (Nat.le_of_ble_eq_true rfl) (Nat.le_of_ble_eq_true rfl) (by first | rfl | exact zn_nb _) (by first | exact ⟨zn_bt (decide_eq_true (Or.inl h3)), rfl, rfl⟩ | exact ⟨zn_bt (decide_eq_true (Or.inr (of_decide_eq_true h14))), rfl, rfl⟩ | exact ⟨zn_bf (decide_eq_false (fun z => z.elim h3 (of_decide_eq_false h14))), rfl, rfl⟩)
theorem In_startCode_ok {l : Launch} {Δ : zv_D} {hp : zv_M} {sz : Nat} {b : Nat} : zv_P l Δ 2 y_In_startCode b_In_startCode 1 ((some (FieldType.int))) [.ref b] hp sz (.int (nI 0)) := by
  refine zv_E.intro (lv0 := [some (.ref b)]) rfl (Nat.le_of_ble_eq_true rfl) rfl ?_
  intro Γ hl F
  clear hl
  refine zn_iconst (x := 0) F d_In_startCode_0 (by decide) ?_
  exact zv_iret F d_In_startCode_1 (Nat.le_of_ble_eq_true rfl) (Nat.le_of_ble_eq_true rfl) ⟨rfl, rfl, rfl⟩
theorem In_stepCode_ok {l : Launch} {Δ : zv_D} {hp : zv_M} {sz : Nat} {b a n acc code c : Nat} {g : Nat → Nat} (hB : hp b = some (.inr (6, [.ref a]))) (hA : au_at Δ hp a n acc g) (hx : code < 6) (hc : c < 2) : zv_P l Δ 2 y_In_stepCode b_In_stepCode 3 ((some (FieldType.int))) [.ref b, .int (nI code), .int (nI c)] hp sz (.int (nI (pm_in g code c))) := by
  refine zv_E.intro (lv0 := [some (.ref b), some (.int (nI code)), some (.int (nI c))]) rfl (Nat.le_of_ble_eq_true rfl) rfl ?_
  intro Γ hl F
  clear hl
  have f1 := hA.1
  refine zv_aload_n F d_In_stepCode_0 rfl ?_
  refine zv_get F d_In_stepCode_1 (by assumption) k_In 0 (Nat.le_of_ble_eq_true rfl) ln_In_7 rfl (by rfl) ?_
  refine zv_iload_n F d_In_stepCode_4 rfl ?_
  refine zv_iload_n F d_In_stepCode_5 rfl ?_
  refine zv_pV2 F rfl (by assumption) k_Au.1 d_In_stepCode_6 (Au_step_ok hA (by omega)) Y_Au_step Yi_Au_step Yv_Au_step ln_In_13 ⟨(Nat.le_of_ble_eq_true rfl), (Nat.le_of_ble_eq_true rfl)⟩ (Nat.le_of_ble_eq_true rfl) ⟨(Nat.le_of_ble_eq_true rfl), (Nat.le_of_ble_eq_true rfl)⟩ ?_
  exact zv_iret F d_In_stepCode_9 (Nat.le_of_ble_eq_true rfl) (Nat.le_of_ble_eq_true rfl) ⟨rfl, rfl, rfl⟩
theorem In_isAcceptingCode_ok {l : Launch} {Δ : zv_D} {hp : zv_M} {sz : Nat} {b a n acc code : Nat} {g : Nat → Nat} (hB : hp b = some (.inr (6, [.ref a]))) (hA : au_at Δ hp a n acc g) (ha : acc < 64) (hx : code < 6) : zv_P l Δ 2 y_In_isAcceptingCode b_In_isAcceptingCode 2 ((some (FieldType.boolean))) [.ref b, .int (nI code)] hp sz (.int (nI (pm_inA acc code).toNat)) := by
  refine zv_E.intro (lv0 := [some (.ref b), some (.int (nI code))]) rfl (Nat.le_of_ble_eq_true rfl) rfl ?_
  intro Γ hl F
  clear hl
  have f1 := hA.1
  refine zv_aload_n F d_In_isAcceptingCode_0 rfl ?_
  refine zv_get F d_In_isAcceptingCode_1 (by assumption) k_In 0 (Nat.le_of_ble_eq_true rfl) ln_In_7 rfl (by rfl) ?_
  refine zv_iload_n F d_In_isAcceptingCode_4 rfl ?_
  refine zv_pV1 F rfl (by assumption) k_Au.1 d_In_isAcceptingCode_5 (Au_isAccepting_ok hA ha (by omega)) Y_Au_isAccepting Yi_Au_isAccepting Yv_Au_isAccepting ln_In_19 ⟨(Nat.le_of_ble_eq_true rfl), (Nat.le_of_ble_eq_true rfl)⟩ (Nat.le_of_ble_eq_true rfl) ⟨(Nat.le_of_ble_eq_true rfl), (Nat.le_of_ble_eq_true rfl)⟩ ?_
  first | refine zn_bif_ne (tgt := 15) F d_In_isAcceptingCode_8 rfl (fun h8 => ?_) (fun h8 => ?_) | refine zn_if_ne (tgt := 15) F d_In_isAcceptingCode_8 rfl (by omega) (fun h8 => ?_) (fun h8 => ?_)
  · refine zn_iconst (x := 0) F d_In_isAcceptingCode_15 (by decide) ?_
    exact zv_zret F d_In_isAcceptingCode_16 (Nat.le_of_ble_eq_true rfl) (Nat.le_of_ble_eq_true rfl) (by first | rfl | exact zn_nb _) (by first | exact ⟨zn_bt (by simp [pm_inA, pm_tb, *]), rfl, rfl⟩ | exact ⟨zn_bf (by simp [pm_inA, pm_tb, *]), rfl, rfl⟩)
  · refine zn_iconst (x := 1) F d_In_isAcceptingCode_11 (by decide) ?_
    refine zv_goto (tgt := 16) F d_In_isAcceptingCode_12 rfl ?_
    exact zv_zret F d_In_isAcceptingCode_16 (Nat.le_of_ble_eq_true rfl) (Nat.le_of_ble_eq_true rfl) (by first | rfl | exact zn_nb _) (by first | exact ⟨zn_bt (by simp [pm_inA, pm_tb, *]), rfl, rfl⟩ | exact ⟨zn_bf (by simp [pm_inA, pm_tb, *]), rfl, rfl⟩)

