theorem Al_search_ok {l : Launch} {Δ : zv_D} {hp : zv_M} {sz : Nat} {o a n acc e0 : Nat} {g mp lg sh la : Nat → Nat} (a0 : hp o = some (al_obj o e0)) (a1 : hp (o + 1) = some (zn_I Δ 60 mp)) (a2 : hp (o + 2) = some (zn_I Δ 120 lg)) (a3 : hp (o + 3) = some (zn_I Δ 60 sh)) (a4 : hp (o + 4) = some (zn_I Δ 60 la)) (hA : au_at Δ hp a n acc g) (ho : au_ok n acc g) (hg : ∀ j, j < 2 * n → g j < n) (hd : a + 1 < o ∨ o + 10 ≤ a) : zv_E l Δ 2 y_Al_search b_Al_search 7 ((some (FieldType.int))) [.ref o, .ref a] hp sz 0 0 (fun r hp1 sz1 => ∃ (v : Nat) (mp1 lg1 sh1 la1 : Nat → Nat), r = some (.int (nI v)) ∧ sz1 = sz ∧ hp1 (o + 1) = some (zn_I Δ 60 mp1) ∧ hp1 (o + 2) = some (zn_I Δ 120 lg1) ∧ hp1 (o + 3) = some (zn_I Δ 60 sh1) ∧ hp1 (o + 4) = some (zn_I Δ 60 la1) ∧ (∀ b, b ≠ o + 1 ∧ b ≠ o + 2 ∧ b ≠ o + 3 ∧ b ≠ o + 4 → hp1 b = hp b) ∧ ((v = 61 ∧ al_big n g 61) ∨ (v ≤ 60 ∧ 0 < v ∧ al_S n g v lg1 sh1 la1))) := by
  refine zv_E.intro (lv0 := [some (.ref o), some (.ref a), none, none, none, none, none]) rfl (Nat.le_of_ble_eq_true rfl) rfl ?_
  intro Γ hl F
  clear hl
  have hn := ho.1
  have outer : ∀ (z s m : Nat) (h' : zv_M) (mp lg sh la : Nat → Nat), z = 60 - s → s ≤ m → m ≤ 60 → h' (o + 1) = some (zn_I Δ 60 mp) → h' (o + 2) = some (zn_I Δ 120 lg) → h' (o + 3) = some (zn_I Δ 60 sh) → h' (o + 4) = some (zn_I Δ 60 la) → (∀ b, b ≠ o + 1 ∧ b ≠ o + 2 ∧ b ≠ o + 3 ∧ b ≠ o + 4 → h' b = hp b) → al_G n g m (2 * s) mp lg sh la → zv_V Δ Γ (zv_QQ Δ Γ 0 0 (fun r hp1 sz1 => ∃ (v : Nat) (mp1 lg1 sh1 la1 : Nat → Nat), r = some (.int (nI v)) ∧ sz1 = sz ∧ hp1 (o + 1) = some (zn_I Δ 60 mp1) ∧ hp1 (o + 2) = some (zn_I Δ 120 lg1) ∧ hp1 (o + 3) = some (zn_I Δ 60 sh1) ∧ hp1 (o + 4) = some (zn_I Δ 60 la1) ∧ (∀ b, b ≠ o + 1 ∧ b ≠ o + 2 ∧ b ≠ o + 3 ∧ b ≠ o + 4 → hp1 b = hp b) ∧ ((v = 61 ∧ al_big n g 61) ∨ (v ≤ 60 ∧ 0 < v ∧ al_S n g v lg1 sh1 la1)))) 14 [some (.ref o), some (.ref a), some (.int (nI m)), some (.int (nI s)), none, none, none] [] h' sz 0 0 := by
    intro z
    induction z using Nat.strongRecOn with
    | ind z ih =>
      intro s m h' mp lg sh la hz hs hm a1 a2 a3 a4 fr X
      have inner : ∀ (z2 c m : Nat) (h' : zv_M) (mp lg sh la : Nat → Nat), z2 = 2 - c → c ≤ 2 → s < m → m ≤ 60 → h' (o + 1) = some (zn_I Δ 60 mp) → h' (o + 2) = some (zn_I Δ 120 lg) → h' (o + 3) = some (zn_I Δ 60 sh) → h' (o + 4) = some (zn_I Δ 60 la) → (∀ b, b ≠ o + 1 ∧ b ≠ o + 2 ∧ b ≠ o + 3 ∧ b ≠ o + 4 → h' b = hp b) → al_G n g m (2 * s + c) mp lg sh la → zv_V Δ Γ (zv_QQ Δ Γ 0 0 (fun r hp1 sz1 => ∃ (v : Nat) (mp1 lg1 sh1 la1 : Nat → Nat), r = some (.int (nI v)) ∧ sz1 = sz ∧ hp1 (o + 1) = some (zn_I Δ 60 mp1) ∧ hp1 (o + 2) = some (zn_I Δ 120 lg1) ∧ hp1 (o + 3) = some (zn_I Δ 60 sh1) ∧ hp1 (o + 4) = some (zn_I Δ 60 la1) ∧ (∀ b, b ≠ o + 1 ∧ b ≠ o + 2 ∧ b ≠ o + 3 ∧ b ≠ o + 4 → hp1 b = hp b) ∧ ((v = 61 ∧ al_big n g 61) ∨ (v ≤ 60 ∧ 0 < v ∧ al_S n g v lg1 sh1 la1)))) 28 [some (.ref o), some (.ref a), some (.int (nI m)), some (.int (nI s)), some (.int (nI c)), none, none] [] h' sz 0 0 := by
        intro z2
        induction z2 using Nat.strongRecOn with
        | ind z2 ih2 =>
          intro c m h' mp lg sh la hz2 hc hsm hm a1 a2 a3 a4 fr X
          have a0 := (fr o (by omega)).trans a0
          have hA := hA.moved (fr a (by omega)) (fr (a + 1) (by omega))
          have f1 := hA.1
          obtain ⟨ws, hws⟩ := X.2.1
          have dig := al_dig hn hg hws hsm
          have b6 : ∀ (w : List Bool) (q : Nat), q < n → bf_from g q w < 8 := fun w q hq => by have := bf_from_lt hg w q hq; omega
          have big : ∀ (f : Nat → Nat), (∀ q, q < n → f q < 8) → au_pk f n < 262144 := fun f hf => Nat.lt_of_lt_of_le (au_pk_lt hf) (Nat.pow_le_pow_right (n := 2) (by decide) (show 3 * n ≤ 18 by omega))
          have hmb : ∀ k, k < m → mp k < 262144 := fun k hk => by rw [hws k hk]; exact big _ (b6 _)
          have hms := hmb s hsm
          refine zv_iload F d_Al_search_28 rfl ?_
          refine zn_iconst (x := 2) F d_Al_search_30 (by decide) ?_
          refine zn_icmp_ge (tgt := 118) F d_Al_search_31 rfl (by omega) (by omega) (fun h31 => ?_) (fun h31 => ?_)
          · have ec : c = 2 := by omega
            subst ec
            refine zn_iinc F d_Al_search_118 rfl ?_
            simp only [zv_s1, zv_s2, zv_kill, List.set_cons_zero, List.set_cons_succ, List.getElem?_cons_zero, List.getElem?_cons_succ]
            refine zv_goto (tgt := 14) F d_Al_search_121 rfl ?_
            exact zv_weak (by repeat' (first | exact True.intro | refine And.intro rfl ?_)) (ih (60 - (s + 1)) (by omega) (s + 1) m _ mp lg sh la rfl (by omega) hm a1 a2 a3 a4 fr X)
          · have hdg : ∀ q, q < n → mp s / 2 ^ (3 * q) % 8 < 6 := fun q hq => by rw [dig q hq]; have := bf_from_lt hg (ws s) q hq; omega
            have hMb : au_pk (fun q => g (2 * (mp s / 2 ^ (3 * q) % 8) + c)) n < 262144 := big _ (fun q hq => by have := ho.2.2 (2 * (mp s / 2 ^ (3 * q) % 8) + c) (by have := hdg q hq; omega); omega)
            have ej : (2 * s + c) / 2 = s := by omega
            have em : (2 * s + c) % 2 = c := by omega
            refine zv_aload_n F d_Al_search_34 rfl ?_
            refine zv_aload_n F d_Al_search_35 rfl ?_
            refine zv_get F d_Al_search_36 (by assumption) k_Al 0 (Nat.le_of_ble_eq_true rfl) ln_Al_9 rfl (by rfl) ?_
            refine zv_iload_n F d_Al_search_39 rfl ?_
            refine zn_iald F d_Al_search_40 (by assumption) (by omega) (by omega) ?_
            refine zv_iload F d_Al_search_41 rfl ?_
            refine zv_pV2 F rfl (by assumption) k_Au.1 d_Al_search_43 (Au_stepMap_ok hA ho (by omega) hdg (by omega)) Y_Au_stepMap Yi_Au_stepMap Yv_Au_stepMap ln_Al_63 ⟨(Nat.le_of_ble_eq_true rfl), (Nat.le_of_ble_eq_true rfl)⟩ (Nat.le_of_ble_eq_true rfl) ⟨(Nat.le_of_ble_eq_true rfl), (Nat.le_of_ble_eq_true rfl)⟩ ?_
            refine zv_istore F d_Al_search_46 (Nat.le_of_ble_eq_true rfl) ?_
            simp only [zv_s1, zv_s2, zv_kill, List.set_cons_zero, List.set_cons_succ, List.getElem?_cons_zero, List.getElem?_cons_succ]
            refine zv_aload_n F d_Al_search_48 rfl ?_
            refine zv_iload F d_Al_search_49 rfl ?_
            refine zv_iload_n F d_Al_search_51 rfl ?_
            obtain ⟨y1, y2, y3, y4⟩ := zf_spec (fun k => decide (mp k = au_pk (fun q => g (2 * (mp s / 2 ^ (3 * q) % 8) + c)) n)) m 0
            have hE := @Al_placeOf_ok Γ.2.1 Δ h' sz o e0 m (au_pk (fun q => g (2 * (mp s / 2 ^ (3 * q) % 8) + c)) n) mp a0 a1 hm (by omega) (fun k hk => by have := hmb k hk; omega)
            generalize hv : zf_ff (fun k => decide (mp k = au_pk (fun q => g (2 * (mp s / 2 ^ (3 * q) % 8) + c)) n)) 0 m = v at hE y1 y2 y3 y4
            have hno : ∀ k, k < v → mp k ≠ au_pk (fun q => g (2 * (mp ((2 * s + c) / 2) / 2 ^ (3 * q) % 8) + (2 * s + c) % 2)) n := fun k hk => by rw [ej, em]; exact of_decide_eq_false (y3 k (Nat.zero_le _) hk)
            refine zv_pV2 F rfl (by assumption) k_Al.1 d_Al_search_52 (hE) Y_Al_placeOf Yi_Al_placeOf Yv_Al_placeOf ln_Al_67 ⟨(Nat.le_of_ble_eq_true rfl), (Nat.le_of_ble_eq_true rfl)⟩ (Nat.le_of_ble_eq_true rfl) ⟨(Nat.le_of_ble_eq_true rfl), (Nat.le_of_ble_eq_true rfl)⟩ ?_
            refine zv_istore F d_Al_search_55 (Nat.le_of_ble_eq_true rfl) ?_
            simp only [zv_s1, zv_s2, zv_kill, List.set_cons_zero, List.set_cons_succ, List.getElem?_cons_zero, List.getElem?_cons_succ]
            refine zv_iload F d_Al_search_57 rfl ?_
            refine zn_bipush (x := 60) F d_Al_search_59 (by decide) ?_
            refine zn_icmp_ne (tgt := 67) F d_Al_search_61 rfl (by omega) (by omega) (fun h61 => ?_) (fun h61 => ?_)
            · refine zv_iload F d_Al_search_67 rfl ?_
              refine zv_iload_n F d_Al_search_69 rfl ?_
              refine zn_icmp_ne (tgt := 99) F d_Al_search_70 rfl (by omega) (by omega) (fun h70 => ?_) (fun h70 => ?_)
              · have hvm : v < m := by omega
                refine zv_aload_n F d_Al_search_99 rfl ?_
                refine zv_get F d_Al_search_100 (by assumption) k_Al 1 (Nat.le_of_ble_eq_true rfl) ln_Al_15 rfl (by rfl) ?_
                refine zn_iconst (x := 2) F d_Al_search_103 (by decide) ?_
                refine zv_iload_n F d_Al_search_104 rfl ?_
                refine zn_imul F d_Al_search_105 ?_
                refine zv_iload F d_Al_search_106 rfl ?_
                refine zn_iadd F d_Al_search_108 ?_
                refine zv_iload F d_Al_search_109 rfl ?_
                refine zn_iast F d_Al_search_111 (by assumption) (by omega) (by omega) (fun hp111 e111 => ?_)
                replace a0 := (zv_ne e111 (by omega)).trans a0
                replace a1 := (zv_ne e111 (by omega)).trans a1
                replace a2 := zv_eq e111
                replace a3 := (zv_ne e111 (by omega)).trans a3
                replace a4 := (zv_ne e111 (by omega)).trans a4
                replace fr := fun b hb => (zv_ne (b := b) e111 (by omega)).trans (fr b hb)
                refine zn_iinc F d_Al_search_112 rfl ?_
                simp only [zv_s1, zv_s2, zv_kill, List.set_cons_zero, List.set_cons_succ, List.getElem?_cons_zero, List.getElem?_cons_succ]
                refine zv_goto (tgt := 28) F d_Al_search_115 rfl ?_
                first | exact zv_weak (by repeat' (first | exact True.intro | refine And.intro rfl ?_)) (ih2 (2 - (c + 1)) (by omega) (c + 1) m _ mp (va_up lg (2 * s + c) v) sh la rfl (by omega) hsm hm a1 a2 a3 a4 fr (al_G_old (j := 2 * s + c) X (by omega) hvm (by rw [ej, em]; exact of_decide_eq_true (y4 (by omega))))) | (have X2 := al_G_new (j := 2 * s + c) hn hg X (by omega) (fun k hk => hno k (by omega)); rw [ej, em] at X2; rw [h70] at a2; exact zv_weak (by repeat' (first | exact True.intro | refine And.intro rfl ?_)) (ih2 (2 - (c + 1)) (by omega) (c + 1) (m + 1) _ _ _ _ _ rfl (by omega) (by omega) (by omega) a1 a2 a3 a4 fr X2))
              · refine zv_aload_n F d_Al_search_73 rfl ?_
                refine zv_get F d_Al_search_74 (by assumption) k_Al 0 (Nat.le_of_ble_eq_true rfl) ln_Al_9 rfl (by rfl) ?_
                refine zv_iload_n F d_Al_search_77 rfl ?_
                refine zv_iload F d_Al_search_78 rfl ?_
                refine zn_iast F d_Al_search_80 (by assumption) (by omega) (by omega) (fun hp80 e80 => ?_)
                replace a0 := (zv_ne e80 (by omega)).trans a0
                replace a1 := zv_eq e80
                replace a2 := (zv_ne e80 (by omega)).trans a2
                replace a3 := (zv_ne e80 (by omega)).trans a3
                replace a4 := (zv_ne e80 (by omega)).trans a4
                replace fr := fun b hb => (zv_ne (b := b) e80 (by omega)).trans (fr b hb)
                refine zv_aload_n F d_Al_search_81 rfl ?_
                refine zv_get F d_Al_search_82 (by assumption) k_Al 2 (Nat.le_of_ble_eq_true rfl) ln_Al_18 rfl (by rfl) ?_
                refine zv_iload_n F d_Al_search_85 rfl ?_
                refine zv_iload_n F d_Al_search_86 rfl ?_
                refine zn_iast F d_Al_search_87 (by assumption) (by omega) (by omega) (fun hp87 e87 => ?_)
                replace a0 := (zv_ne e87 (by omega)).trans a0
                replace a1 := (zv_ne e87 (by omega)).trans a1
                replace a2 := (zv_ne e87 (by omega)).trans a2
                replace a3 := zv_eq e87
                replace a4 := (zv_ne e87 (by omega)).trans a4
                replace fr := fun b hb => (zv_ne (b := b) e87 (by omega)).trans (fr b hb)
                refine zv_aload_n F d_Al_search_88 rfl ?_
                refine zv_get F d_Al_search_89 (by assumption) k_Al 3 (Nat.le_of_ble_eq_true rfl) ln_Al_21 rfl (by rfl) ?_
                refine zv_iload_n F d_Al_search_92 rfl ?_
                refine zv_iload F d_Al_search_93 rfl ?_
                refine zn_iast F d_Al_search_95 (by assumption) (by omega) (by omega) (fun hp95 e95 => ?_)
                replace a0 := (zv_ne e95 (by omega)).trans a0
                replace a1 := (zv_ne e95 (by omega)).trans a1
                replace a2 := (zv_ne e95 (by omega)).trans a2
                replace a3 := (zv_ne e95 (by omega)).trans a3
                replace a4 := zv_eq e95
                replace fr := fun b hb => (zv_ne (b := b) e95 (by omega)).trans (fr b hb)
                refine zn_iinc F d_Al_search_96 rfl ?_
                simp only [zv_s1, zv_s2, zv_kill, List.set_cons_zero, List.set_cons_succ, List.getElem?_cons_zero, List.getElem?_cons_succ]
                refine zv_aload_n F d_Al_search_99 rfl ?_
                refine zv_get F d_Al_search_100 (by assumption) k_Al 1 (Nat.le_of_ble_eq_true rfl) ln_Al_15 rfl (by rfl) ?_
                refine zn_iconst (x := 2) F d_Al_search_103 (by decide) ?_
                refine zv_iload_n F d_Al_search_104 rfl ?_
                refine zn_imul F d_Al_search_105 ?_
                refine zv_iload F d_Al_search_106 rfl ?_
                refine zn_iadd F d_Al_search_108 ?_
                refine zv_iload F d_Al_search_109 rfl ?_
                refine zn_iast F d_Al_search_111 (by assumption) (by omega) (by omega) (fun hp111 e111 => ?_)
                replace a0 := (zv_ne e111 (by omega)).trans a0
                replace a1 := (zv_ne e111 (by omega)).trans a1
                replace a2 := zv_eq e111
                replace a3 := (zv_ne e111 (by omega)).trans a3
                replace a4 := (zv_ne e111 (by omega)).trans a4
                replace fr := fun b hb => (zv_ne (b := b) e111 (by omega)).trans (fr b hb)
                refine zn_iinc F d_Al_search_112 rfl ?_
                simp only [zv_s1, zv_s2, zv_kill, List.set_cons_zero, List.set_cons_succ, List.getElem?_cons_zero, List.getElem?_cons_succ]
                refine zv_goto (tgt := 28) F d_Al_search_115 rfl ?_
                first | exact zv_weak (by repeat' (first | exact True.intro | refine And.intro rfl ?_)) (ih2 (2 - (c + 1)) (by omega) (c + 1) m _ mp (va_up lg (2 * s + c) v) sh la rfl (by omega) hsm hm a1 a2 a3 a4 fr (al_G_old (j := 2 * s + c) X (by omega) hvm (by rw [ej, em]; exact of_decide_eq_true (y4 (by omega))))) | (have X2 := al_G_new (j := 2 * s + c) hn hg X (by omega) (fun k hk => hno k (by omega)); rw [ej, em] at X2; rw [h70] at a2; exact zv_weak (by repeat' (first | exact True.intro | refine And.intro rfl ?_)) (ih2 (2 - (c + 1)) (by omega) (c + 1) (m + 1) _ _ _ _ _ rfl (by omega) (by omega) (by omega) a1 a2 a3 a4 fr X2))
            · refine zn_bipush (x := 61) F d_Al_search_64 (by decide) ?_
              exact zv_iret F d_Al_search_66 (Nat.le_of_ble_eq_true rfl) (Nat.le_of_ble_eq_true rfl) ⟨61, mp, lg, sh, la, rfl, rfl, a1, a2, a3, a4, fr, Or.inl ⟨rfl, by have em2 : m = 60 := (by omega); have := al_G_big (j := 2 * s + c) hn hg X (by omega) (fun k hk => hno k (by omega)); rw [em2] at this; exact this⟩⟩
      refine zv_iload_n F d_Al_search_14 rfl ?_
      refine zv_iload_n F d_Al_search_15 rfl ?_
      refine zn_icmp_ge (tgt := 124) F d_Al_search_16 rfl (by omega) (by omega) (fun h16 => ?_) (fun h16 => ?_)
      · refine zv_iload_n F d_Al_search_124 rfl ?_
        exact zv_iret F d_Al_search_125 (Nat.le_of_ble_eq_true rfl) (Nat.le_of_ble_eq_true rfl) (by have e : s = m := (by omega); subst e; exact ⟨s, mp, lg, sh, la, rfl, rfl, a1, a2, a3, a4, fr, Or.inr ⟨hm, by have := X.1.1; omega, al_G_end hn hg X⟩⟩)
      · refine zv_iload_n F d_Al_search_19 rfl ?_
        refine zn_bipush (x := 60) F d_Al_search_20 (by decide) ?_
        refine zn_icmp_ge (tgt := 124) F d_Al_search_22 rfl (by omega) (by omega) (fun h22 => ?_) (fun h22 => ?_)
        · refine zv_iload_n F d_Al_search_124 rfl ?_
          exact zv_iret F d_Al_search_125 (Nat.le_of_ble_eq_true rfl) (Nat.le_of_ble_eq_true rfl) (by have e : s = m := (by omega); subst e; exact ⟨s, mp, lg, sh, la, rfl, rfl, a1, a2, a3, a4, fr, Or.inr ⟨hm, by have := X.1.1; omega, al_G_end hn hg X⟩⟩)
        · refine zn_iconst (x := 0) F d_Al_search_25 (by decide) ?_
          refine zv_istore F d_Al_search_26 (Nat.le_of_ble_eq_true rfl) ?_
          simp only [zv_s1, zv_s2, zv_kill, List.set_cons_zero, List.set_cons_succ, List.getElem?_cons_zero, List.getElem?_cons_succ]
          exact zv_weak (by repeat' (first | exact True.intro | refine And.intro rfl ?_)) (inner _ 0 m _ mp lg sh la rfl (by decide) (by omega) hm a1 a2 a3 a4 fr X)
  have fr : ∀ b, b ≠ o + 1 ∧ b ≠ o + 2 ∧ b ≠ o + 3 ∧ b ≠ o + 4 → hp b = hp b := fun b _ => rfl
  have f1 := hA.1
  refine zv_aload_n F d_Al_search_0 rfl ?_
  refine zv_get F d_Al_search_1 (by assumption) k_Al 0 (Nat.le_of_ble_eq_true rfl) ln_Al_9 rfl (by rfl) ?_
  refine zn_iconst (x := 0) F d_Al_search_4 (by decide) ?_
  refine zv_aload_n F d_Al_search_5 rfl ?_
  refine zv_pV0 F rfl (by assumption) k_Au.1 d_Al_search_6 (Au_emptyWordMap_ok hA hn) Y_Au_emptyWordMap Yi_Au_emptyWordMap Yv_Au_emptyWordMap ln_Al_57 ⟨(Nat.le_of_ble_eq_true rfl), (Nat.le_of_ble_eq_true rfl)⟩ (Nat.le_of_ble_eq_true rfl) ⟨(Nat.le_of_ble_eq_true rfl), (Nat.le_of_ble_eq_true rfl)⟩ ?_
  refine zn_iast F d_Al_search_9 (by assumption) (by omega) (by omega) (fun hp9 e9 => ?_)
  replace a0 := (zv_ne e9 (by omega)).trans a0
  replace a1 := zv_eq e9
  replace a2 := (zv_ne e9 (by omega)).trans a2
  replace a3 := (zv_ne e9 (by omega)).trans a3
  replace a4 := (zv_ne e9 (by omega)).trans a4
  replace fr := fun b hb => (zv_ne (b := b) e9 (by omega)).trans (fr b hb)
  refine zn_iconst (x := 1) F d_Al_search_10 (by decide) ?_
  refine zv_istore_n F d_Al_search_11 (Nat.le_of_ble_eq_true rfl) ?_
  simp only [zv_s1, zv_s2, zv_kill, List.set_cons_zero, List.set_cons_succ, List.getElem?_cons_zero, List.getElem?_cons_succ]
  refine zn_iconst (x := 0) F d_Al_search_12 (by decide) ?_
  refine zv_istore_n F d_Al_search_13 (Nat.le_of_ble_eq_true rfl) ?_
  simp only [zv_s1, zv_s2, zv_kill, List.set_cons_zero, List.set_cons_succ, List.getElem?_cons_zero, List.getElem?_cons_succ]
  exact zv_weak (by repeat' (first | exact True.intro | refine And.intro rfl ?_)) (outer _ 0 1 _ _ lg sh la rfl (by decide) (by decide) a1 a2 a3 a4 fr (al_G_0 (by simp only [va_up, if_true])))
theorem Al_keepWords_ok {l : Launch} {Δ : zv_D} {hp : zv_M} {sz : Nat} {o e : Nat} {lg sh la wd : Nat → Nat} (a0 : hp o = some (al_obj o e)) (a3 : hp (o + 3) = some (zn_I Δ 60 sh)) (a4 : hp (o + 4) = some (zn_I Δ 60 la)) (a5 : hp (o + 5) = some (zn_J Δ 60 wd)) (he : e ≤ 60) (he0 : 0 < e) (hS : ∀ k, 0 < k → k < e → sh k < k ∧ la k < 2 ∧ lg (2 * sh k + la k) = k ∧ ∀ i, i < 2 * sh k + la k → lg i < k) : zv_E l Δ 0 y_Al_keepWords b_Al_keepWords 2 (none) [.ref o] hp sz 0 0 (fun r hp1 sz1 => ∃ wd1 : Nat → Nat, r = none ∧ sz1 = sz ∧ hp1 (o + 5) = some (zn_J Δ 60 wd1) ∧ (∀ b, b ≠ o + 5 → hp1 b = hp b) ∧ al_W e lg wd1) := by
  refine zv_E.intro (lv0 := [some (.ref o), none]) rfl (Nat.le_of_ble_eq_true rfl) rfl ?_
  intro Γ hl F
  clear hl
  have loop : ∀ (m k : Nat) (h' : zv_M) (wd : Nat → Nat), m = e - k → k ≤ e → 0 < k → h' (o + 5) = some (zn_J Δ 60 wd) → (∀ b, b ≠ o + 5 → h' b = hp b) → wd 0 = 1 → (∀ i, 0 < i → i < k → wd i = 2 * wd (sh i) + la i) → zv_V Δ Γ (zv_QQ Δ Γ 0 0 (fun r hp1 sz1 => ∃ wd1 : Nat → Nat, r = none ∧ sz1 = sz ∧ hp1 (o + 5) = some (zn_J Δ 60 wd1) ∧ (∀ b, b ≠ o + 5 → hp1 b = hp b) ∧ al_W e lg wd1)) 9 [some (.ref o), some (.int (nI k))] [] h' sz 0 0 := by
    intro m
    induction m using Nat.strongRecOn with
    | ind m ih =>
      intro k h' wd hm hk hk0 a5 fr h0 hw
      have a0 := (fr o (by omega)).trans a0
      have a3 := (fr (o + 3) (by omega)).trans a3
      have a4 := (fr (o + 4) (by omega)).trans a4
      refine zv_iload_n F d_Al_keepWords_9 rfl ?_
      refine zv_aload_n F d_Al_keepWords_10 rfl ?_
      refine zv_get F d_Al_keepWords_11 (by assumption) k_Al 4 (Nat.le_of_ble_eq_true rfl) ln_Al_40 rfl (by rfl) ?_
      refine zn_icmp_ge (tgt := 52) F d_Al_keepWords_14 rfl (by omega) (by omega) (fun h14 => ?_) (fun h14 => ?_)
      · exact zv_vret F d_Al_keepWords_52 (Nat.le_of_ble_eq_true rfl) (Nat.le_of_ble_eq_true rfl) ⟨wd, rfl, rfl, a5, fr, h0, fun i i1 i2 => by obtain ⟨s1, s2, s3, s4⟩ := hS i i1 i2; exact ⟨2 * sh i + la i, s3, fun x hx => Nat.ne_of_lt (s4 x hx), by omega, by rw [show (2 * sh i + la i) / 2 = sh i by omega, show (2 * sh i + la i) % 2 = la i by omega]; exact hw i i1 (by omega)⟩⟩
      · obtain ⟨s1, s2, s3, s4⟩ := hS k hk0 h14
        refine zv_aload_n F d_Al_keepWords_17 rfl ?_
        refine zv_get F d_Al_keepWords_18 (by assumption) k_Al 5 (Nat.le_of_ble_eq_true rfl) ln_Al_24 rfl (by rfl) ?_
        refine zv_iload_n F d_Al_keepWords_21 rfl ?_
        refine zn_ldc2 (x := 2) F d_Al_keepWords_22 ln_Al_70 (by decide) ?_
        refine zv_aload_n F d_Al_keepWords_25 rfl ?_
        refine zv_get F d_Al_keepWords_26 (by assumption) k_Al 5 (Nat.le_of_ble_eq_true rfl) ln_Al_24 rfl (by rfl) ?_
        refine zv_aload_n F d_Al_keepWords_29 rfl ?_
        refine zv_get F d_Al_keepWords_30 (by assumption) k_Al 2 (Nat.le_of_ble_eq_true rfl) ln_Al_18 rfl (by rfl) ?_
        refine zv_iload_n F d_Al_keepWords_33 rfl ?_
        refine zn_iald F d_Al_keepWords_34 (by assumption) (by omega) (by omega) ?_
        refine zn_lald F d_Al_keepWords_35 (by assumption) (by omega) (by omega) ?_
        refine zn_lmul F d_Al_keepWords_36 ?_
        refine zv_aload_n F d_Al_keepWords_37 rfl ?_
        refine zv_get F d_Al_keepWords_38 (by assumption) k_Al 3 (Nat.le_of_ble_eq_true rfl) ln_Al_21 rfl (by rfl) ?_
        refine zv_iload_n F d_Al_keepWords_41 rfl ?_
        refine zn_iald F d_Al_keepWords_42 (by assumption) (by omega) (by omega) ?_
        refine zn_i2l F d_Al_keepWords_43 (by omega) ?_
        refine zn_ladd F d_Al_keepWords_44 ?_
        refine zn_last F d_Al_keepWords_45 (by assumption) (by omega) (by omega) (fun hp45 e45 => ?_)
        replace a5 := zv_eq e45
        replace fr := fun b hb => (zv_ne (b := b) e45 (by omega)).trans (fr b hb)
        refine zn_iinc F d_Al_keepWords_46 rfl ?_
        simp only [zv_s1, zv_s2, zv_kill, List.set_cons_zero, List.set_cons_succ, List.getElem?_cons_zero, List.getElem?_cons_succ]
        refine zv_goto (tgt := 9) F d_Al_keepWords_49 rfl ?_
        refine zv_weak (by repeat' (first | exact True.intro | refine And.intro rfl ?_)) (ih (e - (k + 1)) (by omega) (k + 1) _ _ rfl (by omega) (by omega) a5 fr (by simp only [va_up]; rw [if_neg (by omega)]; exact h0) (fun i i1 i2 => ?_))
        by_cases c : i = k
        · subst c; simp only [va_up, if_true]; rw [if_neg (by omega)]
        · have := (hS i i1 (by omega)).1; simp only [va_up, c, if_false]; rw [if_neg (by omega)]; exact hw i i1 (by omega)
  have fr : ∀ b, b ≠ o + 5 → hp b = hp b := fun b _ => rfl
  refine zv_aload_n F d_Al_keepWords_0 rfl ?_
  refine zv_get F d_Al_keepWords_1 (by assumption) k_Al 5 (Nat.le_of_ble_eq_true rfl) ln_Al_24 rfl (by rfl) ?_
  refine zn_iconst (x := 0) F d_Al_keepWords_4 (by decide) ?_
  refine zn_lconst (x := 1) F d_Al_keepWords_5 (by decide) ?_
  refine zn_last F d_Al_keepWords_6 (by assumption) (by omega) (by omega) (fun hp6 e6 => ?_)
  replace a0 := (zv_ne e6 (by omega)).trans a0
  replace a3 := (zv_ne e6 (by omega)).trans a3
  replace a4 := (zv_ne e6 (by omega)).trans a4
  replace a5 := zv_eq e6
  replace fr := fun b hb => (zv_ne (b := b) e6 (by omega)).trans (fr b hb)
  refine zn_iconst (x := 1) F d_Al_keepWords_7 (by decide) ?_
  refine zv_istore_n F d_Al_keepWords_8 (Nat.le_of_ble_eq_true rfl) ?_
  simp only [zv_s1, zv_s2, zv_kill, List.set_cons_zero, List.set_cons_succ, List.getElem?_cons_zero, List.getElem?_cons_succ]
  exact zv_weak (by repeat' (first | exact True.intro | refine And.intro rfl ?_)) (loop _ 1 _ _ rfl (by omega) (by decide) a5 fr (by simp only [va_up, if_true]) (fun i i1 i2 => by omega))
theorem Al_multiply_ok {l : Launch} {Δ : zv_D} {hp : zv_M} {sz : Nat} {o e j k : Nat} {pr : Nat → Nat} (a0 : hp o = some (al_obj o e)) (a6 : hp (o + 6) = some (zn_I Δ 3600 pr)) (hj : j < 60) (hk : k < 60) : zv_P l Δ 0 y_Al_multiply b_Al_multiply 3 ((some (FieldType.int))) [.ref o, .int (nI j), .int (nI k)] hp sz (.int (nI (pr (60 * j + k)))) := by
  refine zv_E.intro (lv0 := [some (.ref o), some (.int (nI j)), some (.int (nI k))]) rfl (Nat.le_of_ble_eq_true rfl) rfl ?_
  intro Γ hl F
  clear hl
  refine zv_aload_n F d_Al_multiply_0 rfl ?_
  refine zv_get F d_Al_multiply_1 (by assumption) k_Al 6 (Nat.le_of_ble_eq_true rfl) ln_Al_28 rfl (by rfl) ?_
  refine zn_bipush (x := 60) F d_Al_multiply_4 (by decide) ?_
  refine zv_iload_n F d_Al_multiply_6 rfl ?_
  refine zn_imul F d_Al_multiply_7 ?_
  refine zv_iload_n F d_Al_multiply_8 rfl ?_
  refine zn_iadd F d_Al_multiply_9 ?_
  refine zn_iald F d_Al_multiply_10 (by assumption) (by omega) (by omega) ?_
  exact zv_iret F d_Al_multiply_11 (Nat.le_of_ble_eq_true rfl) (Nat.le_of_ble_eq_true rfl) ⟨rfl, rfl, rfl⟩
theorem Al_hasElement_ok {l : Launch} {Δ : zv_D} {hp : zv_M} {sz : Nat} {o e x : Nat} (a0 : hp o = some (al_obj o e)) (he : e ≤ 60) (hx : x < 4294967296) : zv_P l Δ 0 y_Al_hasElement b_Al_hasElement 2 ((some (FieldType.boolean))) [.ref o, .int (nI x)] hp sz (.int (nI (decide (x < e)).toNat)) := by
  refine zv_E.intro (lv0 := [some (.ref o), some (.int (nI x))]) rfl (Nat.le_of_ble_eq_true rfl) rfl ?_
  intro Γ hl F
  clear hl
  refine zv_iload_n F d_Al_hasElement_0 rfl ?_
  refine zn_if_lt (tgt := 16) F d_Al_hasElement_1 rfl (by omega) (fun h1 => ?_) (fun h1 => ?_)
  · refine zn_iconst (x := 0) F d_Al_hasElement_16 (by decide) ?_
    exact zv_zret F d_Al_hasElement_17 (Nat.le_of_ble_eq_true rfl) (Nat.le_of_ble_eq_true rfl) (by first | rfl | exact zn_nb _) (by first | exact ⟨zn_bt (decide_eq_true (by omega)), rfl, rfl⟩ | exact ⟨zn_bf (decide_eq_false (by omega)), rfl, rfl⟩)
  · refine zv_iload_n F d_Al_hasElement_4 rfl ?_
    refine zv_aload_n F d_Al_hasElement_5 rfl ?_
    refine zv_get F d_Al_hasElement_6 (by assumption) k_Al 4 (Nat.le_of_ble_eq_true rfl) ln_Al_40 rfl (by rfl) ?_
    refine zn_icmp_ge (tgt := 16) F d_Al_hasElement_9 rfl (by omega) (by omega) (fun h9 => ?_) (fun h9 => ?_)
    · refine zn_iconst (x := 0) F d_Al_hasElement_16 (by decide) ?_
      exact zv_zret F d_Al_hasElement_17 (Nat.le_of_ble_eq_true rfl) (Nat.le_of_ble_eq_true rfl) (by first | rfl | exact zn_nb _) (by first | exact ⟨zn_bt (decide_eq_true (by omega)), rfl, rfl⟩ | exact ⟨zn_bf (decide_eq_false (by omega)), rfl, rfl⟩)
    · refine zn_iconst (x := 1) F d_Al_hasElement_12 (by decide) ?_
      refine zv_goto (tgt := 17) F d_Al_hasElement_13 rfl ?_
      exact zv_zret F d_Al_hasElement_17 (Nat.le_of_ble_eq_true rfl) (Nat.le_of_ble_eq_true rfl) (by first | rfl | exact zn_nb _) (by first | exact ⟨zn_bt (decide_eq_true (by omega)), rfl, rfl⟩ | exact ⟨zn_bf (decide_eq_false (by omega)), rfl, rfl⟩)
theorem Al_isWorkedOut_ok {l : Launch} {Δ : zv_D} {hp : zv_M} {sz : Nat} {o e : Nat} (a0 : hp o = some (al_obj o e)) (he : e ≤ 60) : zv_P l Δ 0 y_Al_isWorkedOut b_Al_isWorkedOut 1 ((some (FieldType.boolean))) [.ref o] hp sz (.int (nI (decide (0 < e)).toNat)) := by
  refine zv_E.intro (lv0 := [some (.ref o)]) rfl (Nat.le_of_ble_eq_true rfl) rfl ?_
  intro Γ hl F
  clear hl
  refine zv_aload_n F d_Al_isWorkedOut_0 rfl ?_
  refine zv_get F d_Al_isWorkedOut_1 (by assumption) k_Al 4 (Nat.le_of_ble_eq_true rfl) ln_Al_40 rfl (by rfl) ?_
  refine zn_if_le (tgt := 11) F d_Al_isWorkedOut_4 rfl (by omega) (fun h4 => ?_) (fun h4 => ?_)
  · refine zn_iconst (x := 0) F d_Al_isWorkedOut_11 (by decide) ?_
    exact zv_zret F d_Al_isWorkedOut_12 (Nat.le_of_ble_eq_true rfl) (Nat.le_of_ble_eq_true rfl) (by first | rfl | exact zn_nb _) (by first | exact ⟨zn_bt (decide_eq_true (by omega)), rfl, rfl⟩ | exact ⟨zn_bf (decide_eq_false (by omega)), rfl, rfl⟩)
  · refine zn_iconst (x := 1) F d_Al_isWorkedOut_7 (by decide) ?_
    refine zv_goto (tgt := 12) F d_Al_isWorkedOut_8 rfl ?_
    exact zv_zret F d_Al_isWorkedOut_12 (Nat.le_of_ble_eq_true rfl) (Nat.le_of_ble_eq_true rfl) (by first | rfl | exact zn_nb _) (by first | exact ⟨zn_bt (decide_eq_true (by omega)), rfl, rfl⟩ | exact ⟨zn_bf (decide_eq_false (by omega)), rfl, rfl⟩)
theorem Al_keepProducts_ok {l : Launch} {Δ : zv_D} {hp : zv_M} {sz : Nat} {o e : Nat} {lg sh la pr : Nat → Nat} (a0 : hp o = some (al_obj o e)) (a2 : hp (o + 2) = some (zn_I Δ 120 lg)) (a3 : hp (o + 3) = some (zn_I Δ 60 sh)) (a4 : hp (o + 4) = some (zn_I Δ 60 la)) (a6 : hp (o + 6) = some (zn_I Δ 3600 pr)) (he : e ≤ 60) (hlg : ∀ i, i < 2 * e → lg i < e) (hS : ∀ k, 0 < k → k < e → sh k < k ∧ la k < 2) : zv_E l Δ 0 y_Al_keepProducts b_Al_keepProducts 4 (none) [.ref o] hp sz 0 0 (fun r hp1 sz1 => ∃ pr1 : Nat → Nat, r = none ∧ sz1 = sz ∧ hp1 (o + 6) = some (zn_I Δ 3600 pr1) ∧ (∀ b, b ≠ o + 6 → hp1 b = hp b) ∧ ∀ j, j < e → pr1 (60 * j) = j ∧ ∀ k, 0 < k → k < e → pr1 (60 * j + k) = lg (2 * pr1 (60 * j + sh k) + la k)) := by
  refine zv_E.intro (lv0 := [some (.ref o), none, none, none]) rfl (Nat.le_of_ble_eq_true rfl) rfl ?_
  intro Γ hl F
  clear hl
  have outer : ∀ (m j : Nat) (h' : zv_M) (pr : Nat → Nat), m = e - j → j ≤ e → h' (o + 6) = some (zn_I Δ 3600 pr) → (∀ b, b ≠ o + 6 → h' b = hp b) → (∀ i, i < j → pr (60 * i) = i ∧ ∀ k, 0 < k → k < e → pr (60 * i + k) = lg (2 * pr (60 * i + sh k) + la k)) → zv_V Δ Γ (zv_QQ Δ Γ 0 0 (fun r hp1 sz1 => ∃ pr1 : Nat → Nat, r = none ∧ sz1 = sz ∧ hp1 (o + 6) = some (zn_I Δ 3600 pr1) ∧ (∀ b, b ≠ o + 6 → hp1 b = hp b) ∧ ∀ j, j < e → pr1 (60 * j) = j ∧ ∀ k, 0 < k → k < e → pr1 (60 * j + k) = lg (2 * pr1 (60 * j + sh k) + la k))) 2 [some (.ref o), some (.int (nI j)), none, none] [] h' sz 0 0 := by
    intro m
    induction m using Nat.strongRecOn with
    | ind m ih =>
      intro j h' pr hm hj a6 fr hp2
      have inner : ∀ (m2 k : Nat) (h' : zv_M) (pr : Nat → Nat), m2 = e - k → k ≤ e → 0 < k → j < e → h' (o + 6) = some (zn_I Δ 3600 pr) → (∀ b, b ≠ o + 6 → h' b = hp b) → (∀ i, i < j → pr (60 * i) = i ∧ ∀ k, 0 < k → k < e → pr (60 * i + k) = lg (2 * pr (60 * i + sh k) + la k)) → pr (60 * j) = j → (∀ x, x < k → pr (60 * j + x) < e) → (∀ x, 0 < x → x < k → pr (60 * j + x) = lg (2 * pr (60 * j + sh x) + la x)) → zv_V Δ Γ (zv_QQ Δ Γ 0 0 (fun r hp1 sz1 => ∃ pr1 : Nat → Nat, r = none ∧ sz1 = sz ∧ hp1 (o + 6) = some (zn_I Δ 3600 pr1) ∧ (∀ b, b ≠ o + 6 → hp1 b = hp b) ∧ ∀ j, j < e → pr1 (60 * j) = j ∧ ∀ k, 0 < k → k < e → pr1 (60 * j + k) = lg (2 * pr1 (60 * j + sh k) + la k))) 24 [some (.ref o), some (.int (nI j)), some (.int (nI (60 * j))), some (.int (nI k))] [] h' sz 0 0 := by
        intro m2
        induction m2 using Nat.strongRecOn with
        | ind m2 ih2 =>
          intro k h' pr hm2 hk hk0 hje a6 fr hp2 hj0 hlt hpk
          have a0 := (fr o (by omega)).trans a0
          have a2 := (fr (o + 2) (by omega)).trans a2
          have a3 := (fr (o + 3) (by omega)).trans a3
          have a4 := (fr (o + 4) (by omega)).trans a4
          refine zv_iload_n F d_Al_keepProducts_24 rfl ?_
          refine zv_aload_n F d_Al_keepProducts_25 rfl ?_
          refine zv_get F d_Al_keepProducts_26 (by assumption) k_Al 4 (Nat.le_of_ble_eq_true rfl) ln_Al_40 rfl (by rfl) ?_
          refine zn_icmp_ge (tgt := 73) F d_Al_keepProducts_29 rfl (by omega) (by omega) (fun h29 => ?_) (fun h29 => ?_)
          · refine zn_iinc F d_Al_keepProducts_73 rfl ?_
            simp only [zv_s1, zv_s2, zv_kill, List.set_cons_zero, List.set_cons_succ, List.getElem?_cons_zero, List.getElem?_cons_succ]
            refine zv_goto (tgt := 2) F d_Al_keepProducts_76 rfl ?_
            exact zv_weak (by repeat' (first | exact True.intro | refine And.intro rfl ?_)) (ih (e - (j + 1)) (by omega) (j + 1) _ pr rfl (by omega) a6 fr (fun i hi => by by_cases c : i = j; rw [c]; exact ⟨hj0, fun k1 k2 k3 => hpk k1 k2 (by omega)⟩; exact hp2 i (by omega)))
          · obtain ⟨s1, s2⟩ := hS k hk0 h29
            have l1 := hlt (sh k) s1
            have l2 := hlg (2 * pr (60 * j + sh k) + la k) (by omega)
            refine zv_aload_n F d_Al_keepProducts_32 rfl ?_
            refine zv_get F d_Al_keepProducts_33 (by assumption) k_Al 6 (Nat.le_of_ble_eq_true rfl) ln_Al_28 rfl (by rfl) ?_
            refine zv_iload_n F d_Al_keepProducts_36 rfl ?_
            refine zv_iload_n F d_Al_keepProducts_37 rfl ?_
            refine zn_iadd F d_Al_keepProducts_38 ?_
            refine zv_aload_n F d_Al_keepProducts_39 rfl ?_
            refine zv_get F d_Al_keepProducts_40 (by assumption) k_Al 1 (Nat.le_of_ble_eq_true rfl) ln_Al_15 rfl (by rfl) ?_
            refine zn_iconst (x := 2) F d_Al_keepProducts_43 (by decide) ?_
            refine zv_aload_n F d_Al_keepProducts_44 rfl ?_
            refine zv_get F d_Al_keepProducts_45 (by assumption) k_Al 6 (Nat.le_of_ble_eq_true rfl) ln_Al_28 rfl (by rfl) ?_
            refine zv_iload_n F d_Al_keepProducts_48 rfl ?_
            refine zv_aload_n F d_Al_keepProducts_49 rfl ?_
            refine zv_get F d_Al_keepProducts_50 (by assumption) k_Al 2 (Nat.le_of_ble_eq_true rfl) ln_Al_18 rfl (by rfl) ?_
            refine zv_iload_n F d_Al_keepProducts_53 rfl ?_
            refine zn_iald F d_Al_keepProducts_54 (by assumption) (by omega) (by omega) ?_
            refine zn_iadd F d_Al_keepProducts_55 ?_
            refine zn_iald F d_Al_keepProducts_56 (by assumption) (by omega) (by omega) ?_
            refine zn_imul F d_Al_keepProducts_57 ?_
            refine zv_aload_n F d_Al_keepProducts_58 rfl ?_
            refine zv_get F d_Al_keepProducts_59 (by assumption) k_Al 3 (Nat.le_of_ble_eq_true rfl) ln_Al_21 rfl (by rfl) ?_
            refine zv_iload_n F d_Al_keepProducts_62 rfl ?_
            refine zn_iald F d_Al_keepProducts_63 (by assumption) (by omega) (by omega) ?_
            refine zn_iadd F d_Al_keepProducts_64 ?_
            refine zn_iald F d_Al_keepProducts_65 (by assumption) (by omega) (by omega) ?_
            refine zn_iast F d_Al_keepProducts_66 (by assumption) (by omega) (by omega) (fun hp66 e66 => ?_)
            replace a6 := zv_eq e66
            replace fr := fun b hb => (zv_ne (b := b) e66 (by omega)).trans (fr b hb)
            refine zn_iinc F d_Al_keepProducts_67 rfl ?_
            simp only [zv_s1, zv_s2, zv_kill, List.set_cons_zero, List.set_cons_succ, List.getElem?_cons_zero, List.getElem?_cons_succ]
            refine zv_goto (tgt := 24) F d_Al_keepProducts_70 rfl ?_
            have ne : ∀ x, x ≠ 60 * j + k → va_up pr (60 * j + k) (lg (2 * pr (60 * j + sh k) + la k)) x = pr x := fun x hx => by simp only [va_up, hx, if_false]
            have eq : va_up pr (60 * j + k) (lg (2 * pr (60 * j + sh k) + la k)) (60 * j + k) = lg (2 * pr (60 * j + sh k) + la k) := by simp only [va_up, if_true]
            refine zv_weak (by repeat' (first | exact True.intro | refine And.intro rfl ?_)) (ih2 (e - (k + 1)) (by omega) (k + 1) _ _ rfl (by omega) (by omega) hje a6 fr (fun i hi => ?_) (by rw [ne _ (by omega)]; exact hj0) (fun x hx => ?_) (fun x x1 x2 => ?_))
            · refine ⟨by rw [ne _ (by omega)]; exact (hp2 i hi).1, fun k2 k3 k4 => ?_⟩
              have := (hS k2 k3 k4).1
              rw [ne _ (by omega), ne _ (by omega)]; exact (hp2 i hi).2 k2 k3 k4
            · by_cases c : x = k
              · rw [c, eq]; exact l2
              · rw [ne _ (by omega)]; exact hlt x (by omega)
            · have := (hS x x1 (by omega)).1
              by_cases c : x = k
              · rw [c, eq, ne _ (by omega)]
              · rw [ne _ (by omega), ne _ (by omega)]; exact hpk x x1 (by omega)
      have a0 := (fr o (by omega)).trans a0
      refine zv_iload_n F d_Al_keepProducts_2 rfl ?_
      refine zv_aload_n F d_Al_keepProducts_3 rfl ?_
      refine zv_get F d_Al_keepProducts_4 (by assumption) k_Al 4 (Nat.le_of_ble_eq_true rfl) ln_Al_40 rfl (by rfl) ?_
      refine zn_icmp_ge (tgt := 79) F d_Al_keepProducts_7 rfl (by omega) (by omega) (fun h7 => ?_) (fun h7 => ?_)
      · exact zv_vret F d_Al_keepProducts_79 (Nat.le_of_ble_eq_true rfl) (Nat.le_of_ble_eq_true rfl) (by have c : j = e := (by omega); subst c; exact ⟨pr, rfl, rfl, a6, fr, hp2⟩)
      · refine zn_bipush (x := 60) F d_Al_keepProducts_10 (by decide) ?_
        refine zv_iload_n F d_Al_keepProducts_12 rfl ?_
        refine zn_imul F d_Al_keepProducts_13 ?_
        refine zv_istore_n F d_Al_keepProducts_14 (Nat.le_of_ble_eq_true rfl) ?_
        simp only [zv_s1, zv_s2, zv_kill, List.set_cons_zero, List.set_cons_succ, List.getElem?_cons_zero, List.getElem?_cons_succ]
        refine zv_aload_n F d_Al_keepProducts_15 rfl ?_
        refine zv_get F d_Al_keepProducts_16 (by assumption) k_Al 6 (Nat.le_of_ble_eq_true rfl) ln_Al_28 rfl (by rfl) ?_
        refine zv_iload_n F d_Al_keepProducts_19 rfl ?_
        refine zv_iload_n F d_Al_keepProducts_20 rfl ?_
        refine zn_iast F d_Al_keepProducts_21 (by assumption) (by omega) (by omega) (fun hp21 e21 => ?_)
        replace a6 := zv_eq e21
        replace fr := fun b hb => (zv_ne (b := b) e21 (by omega)).trans (fr b hb)
        refine zn_iconst (x := 1) F d_Al_keepProducts_22 (by decide) ?_
        refine zv_istore_n F d_Al_keepProducts_23 (Nat.le_of_ble_eq_true rfl) ?_
        simp only [zv_s1, zv_s2, zv_kill, List.set_cons_zero, List.set_cons_succ, List.getElem?_cons_zero, List.getElem?_cons_succ]
        have ne : ∀ x, x ≠ 60 * j → va_up pr (60 * j) j x = pr x := fun x hx => by simp only [va_up, hx, if_false]
        refine zv_weak (by repeat' (first | exact True.intro | refine And.intro rfl ?_)) (inner _ 1 _ _ rfl (by omega) (by decide) (by omega) a6 fr (fun i hi => ⟨by rw [ne _ (by omega)]; exact (hp2 i hi).1, fun k2 k3 k4 => ?_⟩) (by simp only [va_up, if_true]) (fun x hx => ?_) (fun x x1 x2 => by omega))
        · have := (hS k2 k3 k4).1
          rw [ne _ (by omega), ne _ (by omega)]; exact (hp2 i hi).2 k2 k3 k4
        · rw [show x = 0 by omega, Nat.add_zero]; simp only [va_up, if_true]; omega
  refine zn_iconst (x := 0) F d_Al_keepProducts_0 (by decide) ?_
  refine zv_istore_n F d_Al_keepProducts_1 (Nat.le_of_ble_eq_true rfl) ?_
  simp only [zv_s1, zv_s2, zv_kill, List.set_cons_zero, List.set_cons_succ, List.getElem?_cons_zero, List.getElem?_cons_succ]
  exact zv_weak (by repeat' (first | exact True.intro | refine And.intro rfl ?_)) (outer _ 0 _ pr rfl (Nat.zero_le _) a6 (fun b _ => rfl) (fun i hi => by omega))

