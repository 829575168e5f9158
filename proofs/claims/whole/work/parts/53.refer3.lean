def mo_Sl (cn s0 : Nat) (δ : Nat → Nat → Nat) (n : Nat) (ln : Nat → Nat) (sn : Nat → Bool) : Prop := n ≤ 384 ∧ 0 < n ∧ ln 0 = s0 ∧ (∀ i, i < n → ln i < cn ∧ ∃ w, ln i = mc_run δ s0 w) ∧ (∀ i j, i < n → j < n → ln i = ln j → i = j) ∧ ∀ x, x < cn → (sn x = true ↔ ∃ i, i < n ∧ ln i = x)
def mo_Sm (sa : Nat → Nat) (k d n : Nat) (ln mt : Nat → Nat) : Prop := d ≤ 6 ∧ (∀ t, t < d → ∃ i, i < n ∧ mt t = ln i) ∧ (∀ t u, t < d → u < d → sa (mt t) = sa (mt u) → t = u) ∧ ∀ i, i < k → ∃ t, t < d ∧ sa (mt t) = sa (ln i)
theorem mo_Sl_new {cn s0 n x : Nat} {δ : Nat → Nat → Nat} {ln : Nat → Nat} {sn : Nat → Bool} (hcn : cn ≤ 384) (h : mo_Sl cn s0 δ n ln sn) (hx : x < cn) (hs : sn x = false) (hw : ∃ w, x = mc_run δ s0 w) : n < 384 ∧ mo_Sl cn s0 δ (n + 1) (va_up ln n x) (va_up sn x true) := by
  obtain ⟨h1, h2, h3, h4, h5, h6⟩ := h
  have ne : ∀ i, i < n → ln i ≠ x := fun i hi e => by
    have := (h6 x hx).mpr ⟨i, hi, e⟩
    rw [hs] at this
    cases this
  have old : ∀ i, i < n → va_up ln n x i = ln i := fun i hi => by simp only [va_up]; rw [if_neg (by omega)]
  have new : va_up ln n x n = x := by simp only [va_up, if_true]
  have inj : ∀ i j, i < n + 1 → j < n + 1 → va_up ln n x i = va_up ln n x j → i = j := fun i j hi hj e => by
    by_cases ei : i = n
    · by_cases ej : j = n
      · omega
      · rw [ei, new, old j (by omega)] at e
        exact absurd e.symm (ne j (by omega))
    · by_cases ej : j = n
      · rw [ej, new, old i (by omega)] at e
        exact absurd e (ne i (by omega))
      · rw [old i (by omega), old j (by omega)] at e
        exact h5 i j (by omega) (by omega) e
  have hlt : n < 384 := by
    have := le_pig cn (n + 1) (va_up ln n x) (fun i hi => by
      by_cases ei : i = n
      · rw [ei, new]; exact hx
      · rw [old i (by omega)]; exact (h4 i (by omega)).1) inj
    omega
  refine ⟨hlt, by omega, by omega, by rw [old 0 h2]; exact h3, fun i hi => ?_, inj, fun z hz => ?_⟩
  · by_cases ei : i = n
    · rw [ei, new]; exact ⟨hx, hw⟩
    · rw [old i (by omega)]; exact h4 i (by omega)
  · by_cases ez : z = x
    · subst ez
      simp only [va_up, if_true]
      exact ⟨fun _ => ⟨n, by omega, by simp only [if_true]⟩, fun _ => trivial⟩
    · have e1 : va_up sn x true z = sn z := by simp only [va_up, ez, if_false]
      rw [e1, h6 z hz]
      constructor
      · rintro ⟨i, hi, e⟩
        exact ⟨i, by omega, by rw [old i hi]; exact e⟩
      · rintro ⟨i, hi, e⟩
        by_cases ei : i = n
        · rw [ei, new] at e
          exact absurd e.symm ez
        · rw [old i (by omega)] at e
          exact ⟨i, by omega, e⟩
/-- the model's count of what is said -/
def mo_R (cn s0 : Nat) (δ : Nat → Nat → Nat) (sa : Nat → Nat) (v : Nat) (mt : Nat → Nat) : Prop :=
  (v = 7 ∧ ∃ u : Nat → Nat, (∀ i, i < 7 → u i < cn ∧ ∃ w, u i = mc_run δ s0 w) ∧ ∀ i j, i < 7 → j < 7 → sa (u i) = sa (u j) → i = j) ∨ (v ≤ 6 ∧ ∀ w, ∃ t, t < v ∧ sa (mt t) = sa (mc_run δ s0 w))
theorem mo_R_seven {cn s0 k n : Nat} {δ : Nat → Nat → Nat} {sa ln mt : Nat → Nat} {sn : Nat → Bool} (hl : mo_Sl cn s0 δ n ln sn) (hm : mo_Sm sa k 6 n ln mt) (hk : k < n) (hno : ∀ t, t < 6 → sa (mt t) ≠ sa (ln k)) (mt2 : Nat → Nat) : mo_R cn s0 δ sa 7 mt2 := by
  refine Or.inl ⟨rfl, fun i => if i < 6 then mt i else ln k, fun i hi => ?_, fun i j hi hj e => ?_⟩
  · by_cases c : i < 6
    · simp only [c, if_true]
      obtain ⟨q, hq, eq⟩ := hm.2.1 i c
      rw [eq]
      exact hl.2.2.2.1 q hq
    · simp only [c, if_false]
      exact hl.2.2.2.1 k hk
  · by_cases c : i < 6
    · by_cases d : j < 6
      · simp only [c, d, if_true] at e
        exact hm.2.2.1 i j c d e
      · simp only [c, d, if_true, if_false] at e
        exact absurd e (hno i c)
    · by_cases d : j < 6
      · simp only [c, d, if_true, if_false] at e
        exact absurd e.symm (hno j d)
      · omega
theorem mo_R_end {cn s0 n d : Nat} {δ : Nat → Nat → Nat} {sa ln mt : Nat → Nat} {sn : Nat → Bool} (hs0 : s0 < cn) (hδ : ∀ x b, x < cn → b < 2 → δ x b < cn) (hl : mo_Sl cn s0 δ n ln sn) (hm : mo_Sm sa n d n ln mt) (hc : ∀ i b, i < n → b < 2 → sn (δ (ln i) b) = true) : mo_R cn s0 δ sa d mt := by
  refine Or.inr ⟨hm.1, ?_⟩
  have key : ∀ w, ∃ i, i < n ∧ ln i = mc_run δ s0 w := by
    refine zf_snoc ⟨0, hl.2.1, hl.2.2.1⟩ fun w b ih => ?_
    obtain ⟨i, hi, e⟩ := ih
    have hb : b.toNat < 2 := by cases b <;> decide
    rw [mc_run_snoc, ← e]
    exact (hl.2.2.2.2.2 _ (hδ _ _ (hl.2.2.2.1 i hi).1 hb)).mp (hc i _ hi hb)
  intro w
  obtain ⟨i, hi, e⟩ := key w
  rw [← e]
  exact hm.2.2.2 i hi
theorem mo_Sm_step {sa ln mt mt2 : Nat → Nat} {k d n v d2 : Nat} (h : mo_Sm sa k d n ln mt) (hk : k < n) (hno : ∀ t, t < v → sa (mt t) ≠ sa (ln k)) (hyes : v < d → sa (mt v) = sa (ln k)) (h1 : ∀ t, t < d → mt2 t = mt t) (h2 : v = d → mt2 d = ln k) (hd : (v < d ∧ d2 = d) ∨ (v = d ∧ d2 = d + 1)) (h6 : d2 ≤ 6) : mo_Sm sa (k + 1) d2 n ln mt2 := by
  obtain ⟨a1, a2, a3, a4⟩ := h
  refine ⟨h6, fun t ht => ?_, fun t u ht hu e => ?_, fun i hi => ?_⟩
  · by_cases c : t < d
    · rw [h1 t c]; exact a2 t c
    · have e : t = d := by omega
      rw [e, h2 (by omega)]
      exact ⟨k, hk, rfl⟩
  · by_cases c : t < d
    · by_cases c2 : u < d
      · rw [h1 t c, h1 u c2] at e
        exact a3 t u c c2 e
      · have e2 : u = d := by omega
        rw [e2, h1 t c, h2 (by omega)] at e
        exact absurd e (hno t (by omega))
    · have e1 : t = d := by omega
      by_cases c2 : u < d
      · rw [e1, h1 u c2, h2 (by omega)] at e
        exact absurd e.symm (hno u (by omega))
      · omega
  · by_cases c : i < k
    · obtain ⟨t, ht, e⟩ := a4 i c
      exact ⟨t, by omega, by rw [h1 t ht]; exact e⟩
    · have e : i = k := by omega
      subst e
      rcases hd with ⟨b1, b2⟩ | ⟨b1, b2⟩
      · exact ⟨v, by omega, by rw [h1 v b1]; exact hyes b1⟩
      · exact ⟨d, by omega, by rw [h2 b1]⟩
theorem mo_Sm_more {sa ln ln2 mt : Nat → Nat} {k d n n2 : Nat} (h : mo_Sm sa k d n ln mt) (hkn : k ≤ n) (hn : n ≤ n2) (hl : ∀ i, i < n → ln2 i = ln i) : mo_Sm sa k d n2 ln2 mt := by
  obtain ⟨a1, a2, a3, a4⟩ := h
  refine ⟨a1, fun t ht => ?_, a3, fun i hi => ?_⟩
  · obtain ⟨i, hi, e⟩ := a2 t ht
    exact ⟨i, by omega, by rw [hl i hi]; exact e⟩
  · rw [hl i (by omega)]
    exact a4 i hi
theorem Mo_said_ok {l : Launch} {Δ : zv_D} {hp : zv_M} {sz : Nat} {y c op fi se st el s0 cn : Nat} {gg gd sa mt ln : Nat → Nat} {sn : Nat → Bool} {δ : Nat → Nat → Nat} {ac : Nat → Bool} (f0 : hp y = some (mo_obj y c op fi se st el)) (f2 : hp (y + 2) = some (zn_I Δ 144 gg)) (f3 : hp (y + 3) = some (zn_I Δ 12 gd)) (hM : mo_M op fi se gg gd δ ac s0 cn) (hb : mo_b gg gd) (f4 : hp (y + 4) = some (zn_J Δ 384 sa)) (f6 : hp (y + 6) = some (zn_I Δ 7 mt)) (f7 : hp (y + 7) = some (zn_I Δ 384 ln)) (f8 : hp (y + 8) = some (zn_Z Δ 384 sn)) (hsb : ∀ k, k < cn → sa k < 18446744073709551616) : zv_E l Δ 4 y_Mo_said b_Mo_said 7 ((some (FieldType.int))) [.ref y] hp sz 0 0 (fun r hp1 sz1 => ∃ (v : Nat) (mt1 ln1 : Nat → Nat) (sn1 : Nat → Bool), r = some (.int (nI v)) ∧ sz1 = sz ∧ hp1 (y + 6) = some (zn_I Δ 7 mt1) ∧ hp1 (y + 7) = some (zn_I Δ 384 ln1) ∧ hp1 (y + 8) = some (zn_Z Δ 384 sn1) ∧ (∀ b, b ≠ y + 6 ∧ b ≠ y + 7 ∧ b ≠ y + 8 → hp1 b = hp b) ∧ mo_R cn s0 δ sa v mt1) := by
  refine zv_E.intro (lv0 := [some (.ref y), none, none, none, none, none, none]) rfl (Nat.le_of_ble_eq_true rfl) rfl ?_
  intro Γ hl F
  clear hl
  obtain ⟨hcn, hs0, hop, hδ⟩ := mo_M_ok hM hb
  have outer : ∀ (m k n d : Nat) (h' : zv_M) (mt ln : Nat → Nat) (sn : Nat → Bool), m = 384 - k → k ≤ n → h' (y + 6) = some (zn_I Δ 7 mt) → h' (y + 7) = some (zn_I Δ 384 ln) → h' (y + 8) = some (zn_Z Δ 384 sn) → (∀ b, b ≠ y + 6 ∧ b ≠ y + 7 ∧ b ≠ y + 8 → h' b = hp b) → mo_Sl cn s0 δ n ln sn → mo_Sm sa k d n ln mt → (∀ i b, i < k → b < 2 → sn (δ (ln i) b) = true) → zv_V Δ Γ (zv_QQ Δ Γ 0 0 (fun r hp1 sz1 => ∃ (v : Nat) (mt1 ln1 : Nat → Nat) (sn1 : Nat → Bool), r = some (.int (nI v)) ∧ sz1 = sz ∧ hp1 (y + 6) = some (zn_I Δ 7 mt1) ∧ hp1 (y + 7) = some (zn_I Δ 384 ln1) ∧ hp1 (y + 8) = some (zn_Z Δ 384 sn1) ∧ (∀ b, b ≠ y + 6 ∧ b ≠ y + 7 ∧ b ≠ y + 8 → hp1 b = hp b) ∧ mo_R cn s0 δ sa v mt1)) 50 [some (.ref y), some (.int (nI n)), some (.int (nI d)), some (.int (nI k)), none, none, none] [] h' sz 0 0 := by
    intro m
    induction m using Nat.strongRecOn with
    | ind m ih =>
      intro k n d h' mt ln sn hm hk f6 f7 f8 fr hl hsm hcl
      have inner : ∀ (m2 b n d : Nat) (h' : zv_M) (mt ln : Nat → Nat) (sn : Nat → Bool), m2 = 2 - b → b ≤ 2 → k < n → h' (y + 6) = some (zn_I Δ 7 mt) → h' (y + 7) = some (zn_I Δ 384 ln) → h' (y + 8) = some (zn_Z Δ 384 sn) → (∀ b, b ≠ y + 6 ∧ b ≠ y + 7 ∧ b ≠ y + 8 → h' b = hp b) → mo_Sl cn s0 δ n ln sn → mo_Sm sa (k + 1) d n ln mt → (∀ i b, i < k → b < 2 → sn (δ (ln i) b) = true) → (∀ b2, b2 < b → sn (δ (ln k) b2) = true) → zv_V Δ Γ (zv_QQ Δ Γ 0 0 (fun r hp1 sz1 => ∃ (v : Nat) (mt1 ln1 : Nat → Nat) (sn1 : Nat → Bool), r = some (.int (nI v)) ∧ sz1 = sz ∧ hp1 (y + 6) = some (zn_I Δ 7 mt1) ∧ hp1 (y + 7) = some (zn_I Δ 384 ln1) ∧ hp1 (y + 8) = some (zn_Z Δ 384 sn1) ∧ (∀ b, b ≠ y + 6 ∧ b ≠ y + 7 ∧ b ≠ y + 8 → hp1 b = hp b) ∧ mo_R cn s0 δ sa v mt1)) 132 [some (.ref y), some (.int (nI n)), some (.int (nI d)), some (.int (nI k)), none, some (.int (nI b)), none] [] h' sz 0 0 := by
        intro m2
        induction m2 using Nat.strongRecOn with
        | ind m2 ih2 =>
          intro b n d h' mt ln sn hm2 hb2 hkn f6 f7 f8 fr hl hsm hcl hck
          have f0 := (fr y (by omega)).trans f0
          have f2 := (fr (y + 2) (by omega)).trans f2
          have f3 := (fr (y + 3) (by omega)).trans f3
          have hn := hl.1
          have hlk := hl.2.2.2.1 k hkn
          have hlk1 := hlk.1
          refine zv_iload F d_Mo_said_132 rfl ?_
          refine zn_iconst (x := 2) F d_Mo_said_134 (by decide) ?_
          refine zn_icmp_ge (tgt := 187) F d_Mo_said_135 rfl (by omega) (by omega) (fun h135 => ?_) (fun h135 => ?_)
          · refine zn_iinc F d_Mo_said_187 rfl ?_
            simp only [zv_s1, zv_s2, zv_kill, List.set_cons_zero, List.set_cons_succ, List.getElem?_cons_zero, List.getElem?_cons_succ]
            refine zv_goto (tgt := 50) F d_Mo_said_190 rfl ?_
            exact zv_weak (by repeat' (first | exact True.intro | refine And.intro rfl ?_)) (ih (384 - (k + 1)) (by omega) (k + 1) n d _ mt ln sn rfl (by omega) f6 f7 f8 fr hl hsm (fun i b2 hi h2 => if e : i = k then (by rw [e]; exact hck b2 (by omega)) else hcl i b2 (by omega) h2))
          · have hto := hδ (ln k) b hlk.1 h135
            have hwt : ∃ w, δ (ln k) b = mc_run δ s0 w := by obtain ⟨w, hw⟩ := hlk.2; obtain ⟨bb, hbb⟩ := al_b2 b h135; exact ⟨w ++ [bb], by rw [mc_run_snoc, ← hw, hbb]⟩
            refine zv_aload_n F d_Mo_said_138 rfl ?_
            refine zv_aload_n F d_Mo_said_139 rfl ?_
            refine zv_get F d_Mo_said_140 (by assumption) k_Mo 10 (Nat.le_of_ble_eq_true rfl) ln_Mo_29 rfl (by rfl) ?_
            refine zv_iload_n F d_Mo_said_143 rfl ?_
            refine zn_iald F d_Mo_said_144 (by assumption) (by omega) (by omega) ?_
            refine zv_iload F d_Mo_said_145 rfl ?_
            refine zv_pV2 F rfl (by assumption) k_Mo.1 d_Mo_said_147 (Mo_nextCode_ok f0 f2 f3 hM hb hlk.1 h135) Y_Mo_nextCode Yi_Mo_nextCode Yv_Mo_nextCode ln_Mo_90 ⟨(Nat.le_of_ble_eq_true rfl), (Nat.le_of_ble_eq_true rfl)⟩ (Nat.le_of_ble_eq_true rfl) ⟨(Nat.le_of_ble_eq_true rfl), (Nat.le_of_ble_eq_true rfl)⟩ ?_
            refine zv_istore F d_Mo_said_150 (Nat.le_of_ble_eq_true rfl) ?_
            simp only [zv_s1, zv_s2, zv_kill, List.set_cons_zero, List.set_cons_succ, List.getElem?_cons_zero, List.getElem?_cons_succ]
            refine zv_aload_n F d_Mo_said_152 rfl ?_
            refine zv_get F d_Mo_said_153 (by assumption) k_Mo 11 (Nat.le_of_ble_eq_true rfl) ln_Mo_32 rfl (by rfl) ?_
            refine zv_iload F d_Mo_said_156 rfl ?_
            refine zn_zald F d_Mo_said_158 (by assumption) (by omega) (by omega) ?_
            first | refine zn_bif_ne (tgt := 181) F d_Mo_said_159 rfl (fun h159 => ?_) (fun h159 => ?_) | refine zn_if_ne (tgt := 181) F d_Mo_said_159 rfl (by omega) (fun h159 => ?_) (fun h159 => ?_)
            · refine zn_iinc F d_Mo_said_181 rfl ?_
              simp only [zv_s1, zv_s2, zv_kill, List.set_cons_zero, List.set_cons_succ, List.getElem?_cons_zero, List.getElem?_cons_succ]
              refine zv_goto (tgt := 132) F d_Mo_said_184 rfl ?_
              first | exact zv_weak (by repeat' (first | exact True.intro | refine And.intro rfl ?_)) (ih2 (2 - (b + 1)) (by omega) (b + 1) n d _ mt ln sn rfl (by omega) hkn f6 f7 f8 fr hl hsm hcl (fun b2 h2 => if e : b2 = b then (by rw [e]; exact h159) else hck b2 (by omega))) | exact zv_weak (by repeat' (first | exact True.intro | refine And.intro rfl ?_)) (ih2 (2 - (b + 1)) (by omega) (b + 1) (n + 1) d _ mt _ _ rfl (by omega) (by omega) f6 f7 f8 fr hl2 (mo_Sm_more hsm (by omega) (by omega) (fun i hi => by simp only [va_up]; rw [if_neg (by omega)])) (fun i b2 hi h2 => by have e1 : va_up ln n (δ (ln k) b) i = ln i := (by simp only [va_up]; rw [if_neg (by omega)]); rw [e1]; simp only [va_up]; split; rfl; exact hcl i b2 hi h2) (fun b2 h2 => by have e1 : va_up ln n (δ (ln k) b) k = ln k := (by simp only [va_up]; rw [if_neg (by omega)]); rw [e1]; by_cases e : b2 = b; (simp only [va_up, e, if_true]); (simp only [va_up]; split; rfl; exact hck b2 (by omega))))
            · obtain ⟨hn4, hl2⟩ := mo_Sl_new hcn hl hto h159 hwt
              refine zv_aload_n F d_Mo_said_162 rfl ?_
              refine zv_get F d_Mo_said_163 (by assumption) k_Mo 11 (Nat.le_of_ble_eq_true rfl) ln_Mo_32 rfl (by rfl) ?_
              refine zv_iload F d_Mo_said_166 rfl ?_
              refine zn_iconst (x := 1) F d_Mo_said_168 (by decide) ?_
              refine zn_zast (b := true) F d_Mo_said_169 (by assumption) (by omega) (by omega) (fun hp169 e169 => ?_)
              replace f0 := (zv_ne e169 (by omega)).trans f0
              replace f6 := (zv_ne e169 (by omega)).trans f6
              replace f7 := (zv_ne e169 (by omega)).trans f7
              replace f8 := zv_eq e169
              replace fr := fun b hb => (zv_ne (b := b) e169 (by omega)).trans (fr b hb)
              refine zv_aload_n F d_Mo_said_170 rfl ?_
              refine zv_get F d_Mo_said_171 (by assumption) k_Mo 10 (Nat.le_of_ble_eq_true rfl) ln_Mo_29 rfl (by rfl) ?_
              refine zv_iload_n F d_Mo_said_174 rfl ?_
              refine zv_iload F d_Mo_said_175 rfl ?_
              refine zn_iast F d_Mo_said_177 (by assumption) (by omega) (by omega) (fun hp177 e177 => ?_)
              replace f0 := (zv_ne e177 (by omega)).trans f0
              replace f6 := (zv_ne e177 (by omega)).trans f6
              replace f7 := zv_eq e177
              replace f8 := (zv_ne e177 (by omega)).trans f8
              replace fr := fun b hb => (zv_ne (b := b) e177 (by omega)).trans (fr b hb)
              refine zn_iinc F d_Mo_said_178 rfl ?_
              simp only [zv_s1, zv_s2, zv_kill, List.set_cons_zero, List.set_cons_succ, List.getElem?_cons_zero, List.getElem?_cons_succ]
              refine zn_iinc F d_Mo_said_181 rfl ?_
              simp only [zv_s1, zv_s2, zv_kill, List.set_cons_zero, List.set_cons_succ, List.getElem?_cons_zero, List.getElem?_cons_succ]
              refine zv_goto (tgt := 132) F d_Mo_said_184 rfl ?_
              first | exact zv_weak (by repeat' (first | exact True.intro | refine And.intro rfl ?_)) (ih2 (2 - (b + 1)) (by omega) (b + 1) n d _ mt ln sn rfl (by omega) hkn f6 f7 f8 fr hl hsm hcl (fun b2 h2 => if e : b2 = b then (by rw [e]; exact h159) else hck b2 (by omega))) | exact zv_weak (by repeat' (first | exact True.intro | refine And.intro rfl ?_)) (ih2 (2 - (b + 1)) (by omega) (b + 1) (n + 1) d _ mt _ _ rfl (by omega) (by omega) f6 f7 f8 fr hl2 (mo_Sm_more hsm (by omega) (by omega) (fun i hi => by simp only [va_up]; rw [if_neg (by omega)])) (fun i b2 hi h2 => by have e1 : va_up ln n (δ (ln k) b) i = ln i := (by simp only [va_up]; rw [if_neg (by omega)]); rw [e1]; simp only [va_up]; split; rfl; exact hcl i b2 hi h2) (fun b2 h2 => by have e1 : va_up ln n (δ (ln k) b) k = ln k := (by simp only [va_up]; rw [if_neg (by omega)]); rw [e1]; by_cases e : b2 = b; (simp only [va_up, e, if_true]); (simp only [va_up]; split; rfl; exact hck b2 (by omega))))
      have whil : ∀ (m2 t : Nat), m2 = d - t → t ≤ d → k < n → zf_ff (fun t => decide (sa (mt t) = sa (ln k))) 0 d = zf_ff (fun t => decide (sa (mt t) = sa (ln k))) t (d - t) → zv_V Δ Γ (zv_QQ Δ Γ 0 0 (fun r hp1 sz1 => ∃ (v : Nat) (mt1 ln1 : Nat → Nat) (sn1 : Nat → Bool), r = some (.int (nI v)) ∧ sz1 = sz ∧ hp1 (y + 6) = some (zn_I Δ 7 mt1) ∧ hp1 (y + 7) = some (zn_I Δ 384 ln1) ∧ hp1 (y + 8) = some (zn_Z Δ 384 sn1) ∧ (∀ b, b ≠ y + 6 ∧ b ≠ y + 7 ∧ b ≠ y + 8 → hp1 b = hp b) ∧ mo_R cn s0 δ sa v mt1)) 58 [some (.ref y), some (.int (nI n)), some (.int (nI d)), some (.int (nI k)), some (.int (nI t)), none, none] [] h' sz 0 0 := by
        intro m2
        induction m2 using Nat.strongRecOn with
        | ind m2 ih2 =>
          intro t hm2 ht hkn hE
          have f0 := (fr y (by omega)).trans f0
          have f4 := (fr (y + 4) (by omega)).trans f4
          have hn := hl.1
          have hlk := (hl.2.2.2.1 k hkn).1
          have hd6 := hsm.1
          have s1 := hsb _ hlk
          obtain ⟨z1, z2, z3, z4⟩ := zf_spec (fun t => decide (sa (mt t) = sa (ln k))) d 0
          have hno : ∀ t2, t2 < zf_ff (fun t => decide (sa (mt t) = sa (ln k))) 0 d → sa (mt t2) ≠ sa (ln k) := fun t2 h2 => of_decide_eq_false (z3 t2 (Nat.zero_le _) h2)
          have hyes : zf_ff (fun t => decide (sa (mt t) = sa (ln k))) 0 d < d → sa (mt (zf_ff (fun t => decide (sa (mt t) = sa (ln k))) 0 d)) = sa (ln k) := fun h2 => of_decide_eq_true (z4 (by omega))
          refine zv_iload F d_Mo_said_58 rfl ?_
          refine zv_iload_n F d_Mo_said_60 rfl ?_
          refine zn_icmp_ge (tgt := 97) F d_Mo_said_61 rfl (by omega) (by omega) (fun h61 => ?_) (fun h61 => ?_)
          · have hv : zf_ff (fun t => decide (sa (mt t) = sa (ln k))) 0 d = t := by first | rw [hE, show d - t = 0 by omega]; rfl | rw [hE, zf_hit (p := fun t => decide (sa (mt t) = sa (ln k))) (k := t) (decide_eq_true (by omega)) (by omega)]
            rw [hv] at hno hyes
            refine zv_iload F d_Mo_said_97 rfl ?_
            refine zn_bipush (x := 6) F d_Mo_said_99 (by decide) ?_
            refine zn_icmp_ne (tgt := 107) F d_Mo_said_101 rfl (by omega) (by omega) (fun h101 => ?_) (fun h101 => ?_)
            · refine zv_iload F d_Mo_said_107 rfl ?_
              refine zv_iload_n F d_Mo_said_109 rfl ?_
              refine zn_icmp_ne (tgt := 129) F d_Mo_said_110 rfl (by omega) (by omega) (fun h110 => ?_) (fun h110 => ?_)
              · refine zn_iconst (x := 0) F d_Mo_said_129 (by decide) ?_
                refine zv_istore F d_Mo_said_130 (Nat.le_of_ble_eq_true rfl) ?_
                simp only [zv_s1, zv_s2, zv_kill, List.set_cons_zero, List.set_cons_succ, List.getElem?_cons_zero, List.getElem?_cons_succ]
                first | exact zv_weak (by repeat' (first | exact True.intro | refine And.intro rfl ?_)) (inner _ 0 n d _ mt ln sn rfl (by decide) hkn f6 f7 f8 fr hl (mo_Sm_step hsm hkn hno hyes (fun _ _ => rfl) (fun e => absurd e h110) (Or.inl ⟨by omega, rfl⟩) (by omega)) hcl (fun b2 h2 => by omega)) | exact zv_weak (by repeat' (first | exact True.intro | refine And.intro rfl ?_)) (inner _ 0 n (d + 1) _ _ ln sn rfl (by decide) hkn f6 f7 f8 fr hl (mo_Sm_step hsm hkn hno hyes (fun t2 h2 => by simp only [va_up]; rw [if_neg (by omega)]) (fun e => by rw [← e]; simp only [va_up, if_true]) (Or.inr ⟨h110, rfl⟩) (by omega)) hcl (fun b2 h2 => by omega))
              · refine zv_aload_n F d_Mo_said_113 rfl ?_
                refine zv_get F d_Mo_said_114 (by assumption) k_Mo 9 (Nat.le_of_ble_eq_true rfl) ln_Mo_26 rfl (by rfl) ?_
                refine zv_iload F d_Mo_said_117 rfl ?_
                refine zv_aload_n F d_Mo_said_119 rfl ?_
                refine zv_get F d_Mo_said_120 (by assumption) k_Mo 10 (Nat.le_of_ble_eq_true rfl) ln_Mo_29 rfl (by rfl) ?_
                refine zv_iload_n F d_Mo_said_123 rfl ?_
                refine zn_iald F d_Mo_said_124 (by assumption) (by omega) (by omega) ?_
                refine zn_iast F d_Mo_said_125 (by assumption) (by omega) (by omega) (fun hp125 e125 => ?_)
                replace f6 := zv_eq e125
                replace f7 := (zv_ne e125 (by omega)).trans f7
                replace f8 := (zv_ne e125 (by omega)).trans f8
                replace fr := fun b hb => (zv_ne (b := b) e125 (by omega)).trans (fr b hb)
                refine zn_iinc F d_Mo_said_126 rfl ?_
                simp only [zv_s1, zv_s2, zv_kill, List.set_cons_zero, List.set_cons_succ, List.getElem?_cons_zero, List.getElem?_cons_succ]
                refine zn_iconst (x := 0) F d_Mo_said_129 (by decide) ?_
                refine zv_istore F d_Mo_said_130 (Nat.le_of_ble_eq_true rfl) ?_
                simp only [zv_s1, zv_s2, zv_kill, List.set_cons_zero, List.set_cons_succ, List.getElem?_cons_zero, List.getElem?_cons_succ]
                first | exact zv_weak (by repeat' (first | exact True.intro | refine And.intro rfl ?_)) (inner _ 0 n d _ mt ln sn rfl (by decide) hkn f6 f7 f8 fr hl (mo_Sm_step hsm hkn hno hyes (fun _ _ => rfl) (fun e => absurd e h110) (Or.inl ⟨by omega, rfl⟩) (by omega)) hcl (fun b2 h2 => by omega)) | exact zv_weak (by repeat' (first | exact True.intro | refine And.intro rfl ?_)) (inner _ 0 n (d + 1) _ _ ln sn rfl (by decide) hkn f6 f7 f8 fr hl (mo_Sm_step hsm hkn hno hyes (fun t2 h2 => by simp only [va_up]; rw [if_neg (by omega)]) (fun e => by rw [← e]; simp only [va_up, if_true]) (Or.inr ⟨h110, rfl⟩) (by omega)) hcl (fun b2 h2 => by omega))
            · refine zn_bipush (x := 7) F d_Mo_said_104 (by decide) ?_
              exact zv_iret F d_Mo_said_106 (Nat.le_of_ble_eq_true rfl) (Nat.le_of_ble_eq_true rfl) ⟨7, mt, ln, sn, rfl, rfl, f6, f7, f8, fr, by have e6 : d = 6 := (by omega); subst e6; exact mo_R_seven hl hsm hkn (fun t2 h2 => hno t2 (by omega)) mt⟩
          · obtain ⟨i6, hi6, ei6⟩ := hsm.2.1 t h61
            have hmt : mt t < cn := by rw [ei6]; exact (hl.2.2.2.1 i6 hi6).1
            have s2 := hsb _ hmt
            refine zv_aload_n F d_Mo_said_64 rfl ?_
            refine zv_get F d_Mo_said_65 (by assumption) k_Mo 7 (Nat.le_of_ble_eq_true rfl) ln_Mo_19 rfl (by rfl) ?_
            refine zv_aload_n F d_Mo_said_68 rfl ?_
            refine zv_get F d_Mo_said_69 (by assumption) k_Mo 9 (Nat.le_of_ble_eq_true rfl) ln_Mo_26 rfl (by rfl) ?_
            refine zv_iload F d_Mo_said_72 rfl ?_
            refine zn_iald F d_Mo_said_74 (by assumption) (by omega) (by omega) ?_
            refine zn_lald F d_Mo_said_75 (by assumption) (by omega) (by omega) ?_
            refine zv_aload_n F d_Mo_said_76 rfl ?_
            refine zv_get F d_Mo_said_77 (by assumption) k_Mo 7 (Nat.le_of_ble_eq_true rfl) ln_Mo_19 rfl (by rfl) ?_
            refine zv_aload_n F d_Mo_said_80 rfl ?_
            refine zv_get F d_Mo_said_81 (by assumption) k_Mo 10 (Nat.le_of_ble_eq_true rfl) ln_Mo_29 rfl (by rfl) ?_
            refine zv_iload_n F d_Mo_said_84 rfl ?_
            refine zn_iald F d_Mo_said_85 (by assumption) (by omega) (by omega) ?_
            refine zn_lald F d_Mo_said_86 (by assumption) (by omega) (by omega) ?_
            refine zn_lcmp F d_Mo_said_87 (by omega) (by omega) (fun w87 b87 c87 => ?_)
            first | refine zn_bif_eq (tgt := 97) F d_Mo_said_88 rfl (fun h88 => ?_) (fun h88 => ?_) | refine zn_if_eq (tgt := 97) F d_Mo_said_88 rfl (by omega) (fun h88 => ?_) (fun h88 => ?_)
            · have hv : zf_ff (fun t => decide (sa (mt t) = sa (ln k))) 0 d = t := by first | rw [hE, show d - t = 0 by omega]; rfl | rw [hE, zf_hit (p := fun t => decide (sa (mt t) = sa (ln k))) (k := t) (decide_eq_true (by omega)) (by omega)]
              rw [hv] at hno hyes
              refine zv_iload F d_Mo_said_97 rfl ?_
              refine zn_bipush (x := 6) F d_Mo_said_99 (by decide) ?_
              refine zn_icmp_ne (tgt := 107) F d_Mo_said_101 rfl (by omega) (by omega) (fun h101 => ?_) (fun h101 => ?_)
              · refine zv_iload F d_Mo_said_107 rfl ?_
                refine zv_iload_n F d_Mo_said_109 rfl ?_
                refine zn_icmp_ne (tgt := 129) F d_Mo_said_110 rfl (by omega) (by omega) (fun h110 => ?_) (fun h110 => ?_)
                · refine zn_iconst (x := 0) F d_Mo_said_129 (by decide) ?_
                  refine zv_istore F d_Mo_said_130 (Nat.le_of_ble_eq_true rfl) ?_
                  simp only [zv_s1, zv_s2, zv_kill, List.set_cons_zero, List.set_cons_succ, List.getElem?_cons_zero, List.getElem?_cons_succ]
                  first | exact zv_weak (by repeat' (first | exact True.intro | refine And.intro rfl ?_)) (inner _ 0 n d _ mt ln sn rfl (by decide) hkn f6 f7 f8 fr hl (mo_Sm_step hsm hkn hno hyes (fun _ _ => rfl) (fun e => absurd e h110) (Or.inl ⟨by omega, rfl⟩) (by omega)) hcl (fun b2 h2 => by omega)) | exact zv_weak (by repeat' (first | exact True.intro | refine And.intro rfl ?_)) (inner _ 0 n (d + 1) _ _ ln sn rfl (by decide) hkn f6 f7 f8 fr hl (mo_Sm_step hsm hkn hno hyes (fun t2 h2 => by simp only [va_up]; rw [if_neg (by omega)]) (fun e => by rw [← e]; simp only [va_up, if_true]) (Or.inr ⟨h110, rfl⟩) (by omega)) hcl (fun b2 h2 => by omega))
                · refine zv_aload_n F d_Mo_said_113 rfl ?_
                  refine zv_get F d_Mo_said_114 (by assumption) k_Mo 9 (Nat.le_of_ble_eq_true rfl) ln_Mo_26 rfl (by rfl) ?_
                  refine zv_iload F d_Mo_said_117 rfl ?_
                  refine zv_aload_n F d_Mo_said_119 rfl ?_
                  refine zv_get F d_Mo_said_120 (by assumption) k_Mo 10 (Nat.le_of_ble_eq_true rfl) ln_Mo_29 rfl (by rfl) ?_
                  refine zv_iload_n F d_Mo_said_123 rfl ?_
                  refine zn_iald F d_Mo_said_124 (by assumption) (by omega) (by omega) ?_
                  refine zn_iast F d_Mo_said_125 (by assumption) (by omega) (by omega) (fun hp125 e125 => ?_)
                  replace f6 := zv_eq e125
                  replace f7 := (zv_ne e125 (by omega)).trans f7
                  replace f8 := (zv_ne e125 (by omega)).trans f8
                  replace fr := fun b hb => (zv_ne (b := b) e125 (by omega)).trans (fr b hb)
                  refine zn_iinc F d_Mo_said_126 rfl ?_
                  simp only [zv_s1, zv_s2, zv_kill, List.set_cons_zero, List.set_cons_succ, List.getElem?_cons_zero, List.getElem?_cons_succ]
                  refine zn_iconst (x := 0) F d_Mo_said_129 (by decide) ?_
                  refine zv_istore F d_Mo_said_130 (Nat.le_of_ble_eq_true rfl) ?_
                  simp only [zv_s1, zv_s2, zv_kill, List.set_cons_zero, List.set_cons_succ, List.getElem?_cons_zero, List.getElem?_cons_succ]
                  first | exact zv_weak (by repeat' (first | exact True.intro | refine And.intro rfl ?_)) (inner _ 0 n d _ mt ln sn rfl (by decide) hkn f6 f7 f8 fr hl (mo_Sm_step hsm hkn hno hyes (fun _ _ => rfl) (fun e => absurd e h110) (Or.inl ⟨by omega, rfl⟩) (by omega)) hcl (fun b2 h2 => by omega)) | exact zv_weak (by repeat' (first | exact True.intro | refine And.intro rfl ?_)) (inner _ 0 n (d + 1) _ _ ln sn rfl (by decide) hkn f6 f7 f8 fr hl (mo_Sm_step hsm hkn hno hyes (fun t2 h2 => by simp only [va_up]; rw [if_neg (by omega)]) (fun e => by rw [← e]; simp only [va_up, if_true]) (Or.inr ⟨h110, rfl⟩) (by omega)) hcl (fun b2 h2 => by omega))
              · refine zn_bipush (x := 7) F d_Mo_said_104 (by decide) ?_
                exact zv_iret F d_Mo_said_106 (Nat.le_of_ble_eq_true rfl) (Nat.le_of_ble_eq_true rfl) ⟨7, mt, ln, sn, rfl, rfl, f6, f7, f8, fr, by have e6 : d = 6 := (by omega); subst e6; exact mo_R_seven hl hsm hkn (fun t2 h2 => hno t2 (by omega)) mt⟩
            · refine zn_iinc F d_Mo_said_91 rfl ?_
              simp only [zv_s1, zv_s2, zv_kill, List.set_cons_zero, List.set_cons_succ, List.getElem?_cons_zero, List.getElem?_cons_succ]
              refine zv_goto (tgt := 58) F d_Mo_said_94 rfl ?_
              exact zv_weak (by repeat' (first | exact True.intro | refine And.intro rfl ?_)) (ih2 (d - (t + 1)) (by omega) (t + 1) rfl (by omega) hkn (by rw [hE, zf_miss (p := fun t => decide (sa (mt t) = sa (ln k))) (k := t) (decide_eq_false (by omega)) (by omega)]; rfl))
      have hn := hl.1
      have hd6 := hsm.1
      refine zv_iload_n F d_Mo_said_50 rfl ?_
      refine zv_iload_n F d_Mo_said_51 rfl ?_
      refine zn_icmp_ge (tgt := 193) F d_Mo_said_52 rfl (by omega) (by omega) (fun h52 => ?_) (fun h52 => ?_)
      · refine zv_iload_n F d_Mo_said_193 rfl ?_
        exact zv_iret F d_Mo_said_194 (Nat.le_of_ble_eq_true rfl) (Nat.le_of_ble_eq_true rfl) ⟨d, mt, ln, sn, rfl, rfl, f6, f7, f8, fr, by have e : k = n := (by omega); subst e; exact mo_R_end hs0 hδ hl hsm hcl⟩
      · refine zn_iconst (x := 0) F d_Mo_said_55 (by decide) ?_
        refine zv_istore F d_Mo_said_56 (Nat.le_of_ble_eq_true rfl) ?_
        simp only [zv_s1, zv_s2, zv_kill, List.set_cons_zero, List.set_cons_succ, List.getElem?_cons_zero, List.getElem?_cons_succ]
        exact zv_weak (by repeat' (first | exact True.intro | refine And.intro rfl ?_)) (whil _ 0 rfl (Nat.zero_le _) (by omega) (by rw [Nat.sub_zero]))
  have reset : ∀ (m k : Nat) (h' : zv_M) (sn : Nat → Bool), m = 384 - k → k ≤ 384 → h' (y + 6) = some (zn_I Δ 7 mt) → h' (y + 7) = some (zn_I Δ 384 ln) → h' (y + 8) = some (zn_Z Δ 384 sn) → (∀ b, b ≠ y + 6 ∧ b ≠ y + 7 ∧ b ≠ y + 8 → h' b = hp b) → (∀ i, i < k → sn i = false) → zv_V Δ Γ (zv_QQ Δ Γ 0 0 (fun r hp1 sz1 => ∃ (v : Nat) (mt1 ln1 : Nat → Nat) (sn1 : Nat → Bool), r = some (.int (nI v)) ∧ sz1 = sz ∧ hp1 (y + 6) = some (zn_I Δ 7 mt1) ∧ hp1 (y + 7) = some (zn_I Δ 384 ln1) ∧ hp1 (y + 8) = some (zn_Z Δ 384 sn1) ∧ (∀ b, b ≠ y + 6 ∧ b ≠ y + 7 ∧ b ≠ y + 8 → hp1 b = hp b) ∧ mo_R cn s0 δ sa v mt1)) 2 [some (.ref y), some (.int (nI k)), none, none, none, none, none] [] h' sz 0 0 := by
    intro m
    induction m using Nat.strongRecOn with
    | ind m ih =>
      intro k h' sn hm hk f6 f7 f8 fr hsn
      have f0 := (fr y (by omega)).trans f0
      have f2 := (fr (y + 2) (by omega)).trans f2
      have f3 := (fr (y + 3) (by omega)).trans f3
      refine zv_iload_n F d_Mo_said_2 rfl ?_
      refine zn_sipush (x := 384) F d_Mo_said_3 (by decide) ?_
      refine zn_icmp_ge (tgt := 22) F d_Mo_said_6 rfl (by omega) (by omega) (fun h6 => ?_) (fun h6 => ?_)
      · refine zv_aload_n F d_Mo_said_22 rfl ?_
        refine zv_get F d_Mo_said_23 (by assumption) k_Mo 10 (Nat.le_of_ble_eq_true rfl) ln_Mo_29 rfl (by rfl) ?_
        refine zn_iconst (x := 0) F d_Mo_said_26 (by decide) ?_
        refine zv_aload_n F d_Mo_said_27 rfl ?_
        refine zv_pV0 F rfl (by assumption) k_Mo.1 d_Mo_said_28 (Mo_startCode_ok f0 f2 f3 hM hb) Y_Mo_startCode Yi_Mo_startCode Yv_Mo_startCode ln_Mo_93 ⟨(Nat.le_of_ble_eq_true rfl), (Nat.le_of_ble_eq_true rfl)⟩ (Nat.le_of_ble_eq_true rfl) ⟨(Nat.le_of_ble_eq_true rfl), (Nat.le_of_ble_eq_true rfl)⟩ ?_
        refine zn_iast F d_Mo_said_31 (by assumption) (by omega) (by omega) (fun hp31 e31 => ?_)
        replace f0 := (zv_ne e31 (by omega)).trans f0
        replace f2 := (zv_ne e31 (by omega)).trans f2
        replace f3 := (zv_ne e31 (by omega)).trans f3
        replace f6 := (zv_ne e31 (by omega)).trans f6
        replace f7 := zv_eq e31
        replace f8 := (zv_ne e31 (by omega)).trans f8
        replace fr := fun b hb => (zv_ne (b := b) e31 (by omega)).trans (fr b hb)
        refine zv_aload_n F d_Mo_said_32 rfl ?_
        refine zv_get F d_Mo_said_33 (by assumption) k_Mo 11 (Nat.le_of_ble_eq_true rfl) ln_Mo_32 rfl (by rfl) ?_
        refine zv_aload_n F d_Mo_said_36 rfl ?_
        refine zv_get F d_Mo_said_37 (by assumption) k_Mo 10 (Nat.le_of_ble_eq_true rfl) ln_Mo_29 rfl (by rfl) ?_
        refine zn_iconst (x := 0) F d_Mo_said_40 (by decide) ?_
        refine zn_iald F d_Mo_said_41 f7 (by omega) (by omega) ?_
        have e0 : va_up ln 0 s0 0 = s0 := (by simp only [va_up, if_true])
        rw [e0]
        refine zn_iconst (x := 1) F d_Mo_said_42 (by decide) ?_
        refine zn_zast (b := true) F d_Mo_said_43 (by assumption) (by omega) (by omega) (fun hp43 e43 => ?_)
        replace f0 := (zv_ne e43 (by omega)).trans f0
        replace f2 := (zv_ne e43 (by omega)).trans f2
        replace f3 := (zv_ne e43 (by omega)).trans f3
        replace f6 := (zv_ne e43 (by omega)).trans f6
        replace f7 := (zv_ne e43 (by omega)).trans f7
        replace f8 := zv_eq e43
        replace fr := fun b hb => (zv_ne (b := b) e43 (by omega)).trans (fr b hb)
        refine zn_iconst (x := 1) F d_Mo_said_44 (by decide) ?_
        refine zv_istore_n F d_Mo_said_45 (Nat.le_of_ble_eq_true rfl) ?_
        simp only [zv_s1, zv_s2, zv_kill, List.set_cons_zero, List.set_cons_succ, List.getElem?_cons_zero, List.getElem?_cons_succ]
        refine zn_iconst (x := 0) F d_Mo_said_46 (by decide) ?_
        refine zv_istore_n F d_Mo_said_47 (Nat.le_of_ble_eq_true rfl) ?_
        simp only [zv_s1, zv_s2, zv_kill, List.set_cons_zero, List.set_cons_succ, List.getElem?_cons_zero, List.getElem?_cons_succ]
        refine zn_iconst (x := 0) F d_Mo_said_48 (by decide) ?_
        refine zv_istore_n F d_Mo_said_49 (Nat.le_of_ble_eq_true rfl) ?_
        simp only [zv_s1, zv_s2, zv_kill, List.set_cons_zero, List.set_cons_succ, List.getElem?_cons_zero, List.getElem?_cons_succ]
        refine zv_weak (by repeat' (first | exact True.intro | refine And.intro rfl ?_)) (outer _ 0 1 0 _ mt _ _ rfl (by decide) f6 f7 f8 fr ⟨by decide, by decide, e0, fun i hi => ?_, fun i j hi hj _ => by omega, fun x hx => ?_⟩ ⟨by decide, fun t ht => by omega, fun t u ht => by omega, fun i hi => by omega⟩ (fun i b hi => by omega))
        · rw [show i = 0 by omega, e0]; exact ⟨hs0, [], rfl⟩
        · by_cases e : x = s0
          · simp only [va_up, e, if_true]; exact ⟨fun _ => ⟨0, by decide, rfl⟩, fun _ => trivial⟩
          · simp only [va_up, e, if_false]; rw [hsn x (by omega)]
            refine ⟨(fun h => by cases h), fun h => ?_⟩
            obtain ⟨i, hi, ei⟩ := h
            rw [if_pos (by omega)] at ei
            exact absurd ei.symm e
      · refine zv_aload_n F d_Mo_said_9 rfl ?_
        refine zv_get F d_Mo_said_10 (by assumption) k_Mo 11 (Nat.le_of_ble_eq_true rfl) ln_Mo_32 rfl (by rfl) ?_
        refine zv_iload_n F d_Mo_said_13 rfl ?_
        refine zn_iconst (x := 0) F d_Mo_said_14 (by decide) ?_
        refine zn_zast (b := false) F d_Mo_said_15 (by assumption) (by omega) (by omega) (fun hp15 e15 => ?_)
        replace f0 := (zv_ne e15 (by omega)).trans f0
        replace f2 := (zv_ne e15 (by omega)).trans f2
        replace f3 := (zv_ne e15 (by omega)).trans f3
        replace f6 := (zv_ne e15 (by omega)).trans f6
        replace f7 := (zv_ne e15 (by omega)).trans f7
        replace f8 := zv_eq e15
        replace fr := fun b hb => (zv_ne (b := b) e15 (by omega)).trans (fr b hb)
        refine zn_iinc F d_Mo_said_16 rfl ?_
        simp only [zv_s1, zv_s2, zv_kill, List.set_cons_zero, List.set_cons_succ, List.getElem?_cons_zero, List.getElem?_cons_succ]
        refine zv_goto (tgt := 2) F d_Mo_said_19 rfl ?_
        exact zv_weak (by repeat' (first | exact True.intro | refine And.intro rfl ?_)) (ih (384 - (k + 1)) (by omega) (k + 1) _ _ rfl (by omega) f6 f7 f8 fr (fun i hi => if e : i = k then (by simp only [va_up, e, if_true]) else (by simp only [va_up, e, if_false]; exact hsn i (by omega))))
  refine zn_iconst (x := 0) F d_Mo_said_0 (by decide) ?_
  refine zv_istore_n F d_Mo_said_1 (Nat.le_of_ble_eq_true rfl) ?_
  simp only [zv_s1, zv_s2, zv_kill, List.set_cons_zero, List.set_cons_succ, List.getElem?_cons_zero, List.getElem?_cons_succ]
  exact zv_weak (by repeat' (first | exact True.intro | refine And.intro rfl ?_)) (reset _ 0 _ sn rfl (by decide) f6 f7 f8 (fun b _ => rfl) (fun i hi => by omega))

