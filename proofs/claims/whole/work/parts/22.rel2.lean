section REL2
variable {F pr : Nat → Nat → Int32} {ev on mn pm : Nat → Int32}
/-- what kFail = 0 says -/
theorem kFail_0 {k : Nat → Int32} {id e : Int32} (h : kFail k F id e = 0) : ¬ e < 1 ∧ ¬ id < 0 ∧ id ≤ 255 ∧ kFind F id 8 0 = none ∧ k 8 < 8 := by
  unfold kFail at h
  by_cases c1 : k 6 = 0
  · rw [if_pos c1] at h; exact absurd h (by decide)
  · rw [if_neg c1] at h
    by_cases c2 : e < 1
    · rw [if_pos c2] at h; exact absurd h (by decide)
    · rw [if_neg c2] at h
      by_cases c3 : 255 < e
      · rw [if_pos c3] at h; exact absurd h (by decide)
      · rw [if_neg c3] at h
        by_cases c4 : id < 0
        · rw [if_pos c4] at h; exact absurd h (by decide)
        · rw [if_neg c4] at h
          by_cases c5 : id ≤ 255
          · rw [if_pos c5] at h
            cases hf : kFind F id 8 0 with
            | some i => rw [hf] at h; exact absurd (show (11 : Int32) = 0 from h) (by decide)
            | none =>
              rw [hf] at h
              by_cases c6 : k 8 < 8
              · exact ⟨c2, c4, c5, rfl, c6⟩
              · have h9 : (if k 8 < 8 then (0 : Int32) else 12) = 0 := h
                rw [if_neg c6] at h9
                exact absurd h9 (by decide)
          · rw [if_neg c5] at h; exact absurd h (by decide)
theorem r_form (k j txt tx : Nat → Int32) (h : Rf (k 8) F pr ev on mn pm) (h6 : k 6 = j 6) (ht : txt = tx) {t : Nat} (ht8 : t ≤ 8) (hk6 : k 6 = nI t) (id e : Int32) : Rf (kFoK k F id e 8) (kFoF k F id e) (kFoP k txt F pr id e) (mFoE j ev id e) (mFoO j ev on id e) (mFoN j ev mn id e) (mFoP j tx ev pm id e) := by
  unfold kFoK kFoF kFoP mFoE mFoO mFoN mFoP
  rw [← r_failR k j h h6 id e]
  show Rf ((if kFail k F id e = 0 then kFiK k F else k) 8) _ _ _ _ _ _
  by_cases h0 : kFail k F id e = 0
  · rw [if_pos h0, if_pos h0, if_pos h0, if_pos h0, if_pos h0, if_pos h0, if_pos h0]
    obtain ⟨c2, c4, c5, hfn, c8⟩ := kFail_0 h0
    obtain ⟨d, hd, hid⟩ := vp_in_of (m_in2 (n := 256) (N := 255) (by decide) c4 c5) (by decide)
    obtain ⟨ha, hb, hc, he, hf, hk, hcc⟩ := h
    have hle : cnt (tF F) 8 0 ≤ 8 := cntF_le
    have hlt : cnt (tF F) 8 0 < 8 := (nI_ltI (by omega) (by decide)).mp (show nI (cnt (tF F) 8 0) < nI 8 by rw [← hk]; exact c8)
    cases hfr : kFree F 8 0 with
    | none => exact absurd (kFree_none hfr) (by omega)
    | some i =>
      obtain ⟨-, hi, hi0⟩ := kFree_some hfr
      have hi : i < 8 := by omega
      have hnone : ∀ x, x < 8 → ¬ F x 0 = 0 → ¬ F x 1 = nI d := fun x hx h1 h2 => kFind_none hfn x (Nat.zero_le _) (by omega) h1 (by rw [hid]; exact h2)
      have hev : ev d ≤ 0 := by
        by_cases z : ev d ≤ 0
        · exact z
        · obtain ⟨a, ha8, h1, h2⟩ := hb d hd z
          exact absurd h2 (hnone a ha8 h1)
      have hdc : id.toNatClampNeg = d := by rw [hid]; exact nI_clamp (by omega)
      have htc : (k 6).toNatClampNeg = t := by rw [hk6]; exact nI_clamp (by omega)
      have hjc : (j 6).toNatClampNeg = t := by rw [← h6]; exact htc
      unfold kFiK kFiF kFiP
      rw [hfr, hdc, hjc]
      show Rf (k 8 + 1) (up2 (up2 (up2 (up2 (up2 F i 0 1) i 1 id) i 2 e) i 3 0) i 4 (k 6)) (va_up pr i (va_cpy txt (pr i) 0 0 (k 6).toNatClampNeg)) _ _ _ _
      rw [htc, ← h6]
      generalize hG : up2 (up2 (up2 (up2 (up2 F i 0 1) i 1 id) i 2 e) i 3 0) i 4 (k 6) = G
      have g0 : G i 0 = 1 := by rw [← hG, up2_f (by decide), up2_f (by decide), up2_f (by decide), up2_f (by decide), up2_s]
      have g1 : G i 1 = id := by rw [← hG, up2_f (by decide), up2_f (by decide), up2_f (by decide), up2_s]
      have g2 : G i 2 = e := by rw [← hG, up2_f (by decide), up2_f (by decide), up2_s]
      have g3 : G i 3 = 0 := by rw [← hG, up2_f (by decide), up2_s]
      have g4 : G i 4 = k 6 := by rw [← hG, up2_s]
      have gn : ∀ a b, a ≠ i → G a b = F a b := fun a b w => by rw [← hG, up2_i w, up2_i w, up2_i w, up2_i w, up2_i w]
      have hne1 : ¬ e ≤ 0 := fun z => c2 (by
        rw [Int32.lt_iff_toInt_lt]
        rw [Int32.le_iff_toInt_le] at z
        have e1 : (1 : Int32).toInt = 1 := by decide
        have e0 : (0 : Int32).toInt = 0 := by decide
        omega)
      have c1 := cnt_upd (f := tF F) (g := tF G) (a := i) (fun x hx => by unfold tF; rw [gn x 0 hx]) (n := 8) (i := 0) (Nat.zero_le _) (by omega)
      have c3 := cnt_upd (f := tE ev) (g := tE (upd ev d e)) (a := d) (fun x hx => by unfold tE; rw [pk_un hx]) (n := 256) (i := 0) (Nat.zero_le _) (by omega)
      have t1 : tF F i = 0 := by unfold tF; rw [if_pos hi0]
      have t2 : tF G i = 1 := by unfold tF; rw [g0, if_neg (by decide)]
      have t3 : tE ev d = 0 := by unfold tE; rw [if_pos hev]
      have t4 : tE (upd ev d e) d = 1 := by unfold tE; rw [pk_us, if_neg hne1]
      refine ⟨?_, ?_, ?_, ?_, ?_, ?_, by omega⟩
      · intro a ha8 h4
        by_cases hai : a = i
        · subst hai
          refine ⟨d, hd, by rw [g1]; exact hid, by rw [g2, pk_us], by rw [pk_us]; exact hne1, by rw [g3, pk_us], by rw [g4, pk_us], t, ht8, by rw [pk_us]; exact hk6, ?_⟩
          intro q hq
          rw [va_up_self, pk_cpy_in (Nat.zero_le _) (by omega), mCpy_at, if_pos (by omega), ht]
          rw [show 8 * d + q - 8 * d = q by omega, show 0 + (q - 0) = q by omega]
        · rw [gn a 0 hai] at h4
          obtain ⟨d', hd', m1, m2, m3, m4, m5, c, hc8, m6, m7⟩ := ha a ha8 h4
          have hdd : d' ≠ d := fun z => hnone a ha8 h4 (by rw [m1, z])
          refine ⟨d', hd', by rw [gn a 1 hai]; exact m1, by rw [gn a 2 hai, pk_un hdd]; exact m2, by rw [pk_un hdd]; exact m3, by rw [gn a 3 hai, pk_un hdd]; exact m4, by rw [gn a 4 hai, pk_un hdd]; exact m5, c, hc8, by rw [pk_un hdd]; exact m6, ?_⟩
          intro q hq
          rw [va_up_ne _ _ hai, mCpy_at, if_neg (by omega)]
          exact m7 q hq
      · intro d' hd' h4
        by_cases hdd : d' = d
        · subst hdd
          exact ⟨i, hi, by rw [g0]; decide, by rw [g1]; exact hid⟩
        · rw [pk_un hdd] at h4
          obtain ⟨a, ha8, h5, h7⟩ := hb d' hd' h4
          have hai : a ≠ i := fun z => h5 (by rw [z]; exact hi0)
          exact ⟨a, ha8, by rw [gn a 0 hai]; exact h5, by rw [gn a 1 hai]; exact h7⟩
      · intro a b ha8 hb8 h4 h5 h7
        by_cases hai : a = i
        · by_cases hbi : b = i
          · rw [hai, hbi]
          · rw [gn b 0 hbi] at h5
            rw [hai, g1, gn b 1 hbi] at h7
            exact absurd (by rw [← h7]; exact hid) (hnone b hb8 h5)
        · rw [gn a 0 hai] at h4
          by_cases hbi : b = i
          · rw [hbi, g1, gn a 1 hai] at h7
            exact absurd (by rw [h7]; exact hid) (hnone a ha8 h4)
          · rw [gn b 0 hbi] at h5
            rw [gn a 1 hai, gn b 1 hbi] at h7
            exact hc a b ha8 hb8 h4 h5 h7
      · intro a ha8
        by_cases hai : a = i
        · rw [hai, g4, hk6, nI_toInt (by omega)]
          omega
        · rw [gn a 4 hai]
          exact he a ha8
      · intro d' hd'
        by_cases hdd : d' = d
        · rw [hdd, pk_us, hk6, nI_toInt (by omega)]
          omega
        · rw [pk_un hdd]
          exact hf d' hd'
      · rw [hk, nI_1, show cnt (tF G) 8 0 = cnt (tF F) 8 0 + 1 by omega]
  · rw [if_neg h0, if_neg h0, if_neg h0, if_neg h0, if_neg h0, if_neg h0, if_neg h0]
    exact h
/-- the reference's id d is due -/
def cM (ev on : Nat → Int32) (tick fr : Int32) (d : Nat) : Prop := ¬ nI d < fr ∧ ¬ ev d ≤ 0 ∧ ¬ on d = 0 ∧ tick - tick / ev d * ev d = 0
def cK (F : Nat → Nat → Int32) (tick fr : Int32) (i : Nat) : Prop := ¬ F i 0 = 0 ∧ ¬ F i 3 = 0 ∧ ¬ F i 1 < fr ∧ ¬ kD (F i 2) tick = 0
theorem mDue_none {tick fr : Int32} : ∀ {n : Nat} {x : Int32}, (∀ d, d < n → ¬ cM ev on tick fr d) → mDue ev on tick fr n x = x := by
  intro n
  induction n with
  | zero => intro x _; rfl
  | succ n ih =>
    intro x h
    unfold mDue
    by_cases c1 : nI n < fr
    · rw [if_pos c1]
    · rw [if_neg c1]
      by_cases c2 : ev n ≤ 0
      · rw [if_pos c2]; exact ih (fun d hd => h d (by omega))
      · rw [if_neg c2]
        by_cases c3 : on n = 0
        · rw [if_pos c3]; exact ih (fun d hd => h d (by omega))
        · rw [if_neg c3]
          by_cases c4 : tick - tick / ev n * ev n = 0
          · exact absurd ⟨c1, c2, c3, c4⟩ (h n (by omega))
          · rw [if_neg c4]; exact ih (fun d hd => h d (by omega))
theorem mDue_some {tick fr : Int32} {d : Nat} (hd : cM ev on tick fr d) (hl : ∀ d', d' < d → ¬ cM ev on tick fr d') : ∀ {n : Nat} {x : Int32}, n ≤ 256 → d < n → mDue ev on tick fr n x = nI d := by
  intro n
  induction n with
  | zero => intro x _ h; omega
  | succ n ih =>
    intro x hn h
    unfold mDue
    by_cases e : d = n
    · subst e
      rw [if_neg hd.1, if_neg hd.2.1, if_neg hd.2.2.1, if_pos hd.2.2.2]
      exact mDue_none hl
    · have hdn : d < n := by omega
      by_cases c1 : nI n < fr
      · exact absurd (Int32.lt_trans (nI_lt hdn (by omega)) c1) hd.1
      · rw [if_neg c1]
        by_cases c2 : ev n ≤ 0
        · rw [if_pos c2]; exact ih (by omega) hdn
        · rw [if_neg c2]
          by_cases c3 : on n = 0
          · rw [if_pos c3]; exact ih (by omega) hdn
          · rw [if_neg c3]
            by_cases c4 : tick - tick / ev n * ev n = 0
            · rw [if_pos c4]; exact ih (by omega) hdn
            · rw [if_neg c4]; exact ih (by omega) hdn
theorem kDue_none {tick fr : Int32} : ∀ {n i : Nat} {x : Int32}, (∀ a, i ≤ a → a < i + n → ¬ cK F tick fr a) → kDue F tick fr n i x = x := by
  intro n
  induction n with
  | zero => intro i x _; rfl
  | succ n ih =>
    intro i x h
    have hh : ∀ y, kDue F tick fr n (i + 1) y = y := fun y => ih (fun a h1 h2 => h a (by omega) (by omega))
    unfold kDue
    by_cases c1 : F i 0 = 0
    · rw [if_pos c1]; exact hh x
    · rw [if_neg c1]
      by_cases c2 : F i 3 = 0
      · rw [if_pos c2]; exact hh x
      · rw [if_neg c2]
        by_cases c3 : F i 1 < fr
        · rw [if_pos c3]; exact hh x
        · rw [if_neg c3]
          by_cases c4 : kD (F i 2) tick = 0
          · rw [if_pos c4]; exact hh x
          · exact absurd ⟨c1, c2, c3, c4⟩ (h i (Nat.le_refl _) (by omega))
theorem nI_ne_m1 {d : Nat} (hd : d < 256) : ¬ nI d = -1 := fun z => by
  have h1 := nI_toInt (n := d) (by omega)
  rw [z] at h1
  have h2 : (-1 : Int32).toInt = -1 := by decide
  omega
theorem kDue_some {tick fr : Int32} {d : Nat} (hd : d < 256) : ∀ {n i : Nat} {x : Int32}, (∀ a, i ≤ a → a < i + n → cK F tick fr a → ∃ d', d ≤ d' ∧ d' < 256 ∧ F a 1 = nI d') → (x = nI d ∨ ((x = -1 ∨ ∃ d', d ≤ d' ∧ d' < 256 ∧ x = nI d') ∧ ∃ a, i ≤ a ∧ a < i + n ∧ cK F tick fr a ∧ F a 1 = nI d)) → kDue F tick fr n i x = nI d := by
  intro n
  induction n with
  | zero =>
    intro i x _ h
    rcases h with h | ⟨-, a, h1, h2, -⟩
    · exact h
    · omega
  | succ n ih =>
    intro i x hall h
    have hall' : ∀ a, i + 1 ≤ a → a < i + 1 + n → cK F tick fr a → ∃ d', d ≤ d' ∧ d' < 256 ∧ F a 1 = nI d' := fun a h1 h2 => hall a (by omega) (by omega)
    by_cases hc : cK F tick fr i
    · obtain ⟨c1, c2, c3, c4⟩ := id hc
      obtain ⟨d1, hd1, hd2, hd3⟩ := hall i (Nat.le_refl _) (by omega) hc
      unfold kDue
      rw [if_neg c1, if_neg c2, if_neg c3, if_neg c4]
      rcases h with h | ⟨h, a, h1, h2, h3, h4⟩
      · rw [if_neg (by rw [h]; exact nI_ne_m1 hd), if_pos (by rw [h, hd3]; exact nI_le hd1 (by omega))]
        exact ih hall' (Or.inl h)
      · by_cases e : a = i
        · subst e
          by_cases e1 : x = -1
          · rw [if_pos e1]
            exact ih hall' (Or.inl h4)
          · rw [if_neg e1]
            by_cases e2 : x ≤ F a 1
            · rw [if_pos e2]
              refine ih hall' (Or.inl ?_)
              rcases h with h | ⟨d2, h5, h6, h7⟩
              · exact absurd h e1
              · rw [h7, h4] at e2
                have h8 := (nI_leI (by omega) (by omega)).mp e2
                rw [h7, show d2 = d by omega]
            · rw [if_neg e2]
              exact ih hall' (Or.inl h4)
        · have hrest : ∃ a, i + 1 ≤ a ∧ a < i + 1 + n ∧ cK F tick fr a ∧ F a 1 = nI d := ⟨a, by omega, by omega, h3, h4⟩
          by_cases e1 : x = -1
          · rw [if_pos e1]
            exact ih hall' (Or.inr ⟨Or.inr ⟨d1, hd1, hd2, hd3⟩, hrest⟩)
          · rw [if_neg e1]
            by_cases e2 : x ≤ F i 1
            · rw [if_pos e2]
              exact ih hall' (Or.inr ⟨h, hrest⟩)
            · rw [if_neg e2]
              exact ih hall' (Or.inr ⟨Or.inr ⟨d1, hd1, hd2, hd3⟩, hrest⟩)
    · have h' : x = nI d ∨ ((x = -1 ∨ ∃ d', d ≤ d' ∧ d' < 256 ∧ x = nI d') ∧ ∃ a, i + 1 ≤ a ∧ a < i + 1 + n ∧ cK F tick fr a ∧ F a 1 = nI d) := by
        rcases h with h | ⟨h, a, h1, h2, h3, h4⟩
        · exact Or.inl h
        · refine Or.inr ⟨h, a, ?_, by omega, h3, h4⟩
          rcases Nat.lt_or_ge i a with z | z
          · omega
          · exact absurd (by rw [show i = a by omega]; exact h3) hc
      have hh := ih hall' h'
      unfold kDue
      by_cases c1 : F i 0 = 0
      · rw [if_pos c1]; exact hh
      · rw [if_neg c1]
        by_cases c2 : F i 3 = 0
        · rw [if_pos c2]; exact hh
        · rw [if_neg c2]
          by_cases c3 : F i 1 < fr
          · rw [if_pos c3]; exact hh
          · rw [if_neg c3]
            by_cases c4 : kD (F i 2) tick = 0
            · rw [if_pos c4]; exact hh
            · exact absurd ⟨c1, c2, c3, c4⟩ hc
theorem kD_iff {e t : Int32} (h : ¬ e ≤ 0) : ¬ kD e t = 0 ↔ t - t / e * e = 0 := by
  unfold kD
  rw [if_neg h]
  by_cases c : t - t / e * e = 0
  · rw [if_pos c]; exact ⟨fun _ => c, fun _ => by decide⟩
  · rw [if_neg c]; exact ⟨fun z => absurd rfl z, fun z => absurd z c⟩
theorem r_dueR {k8 : Int32} (h : Rf k8 F pr ev on mn pm) (tick fr : Int32) : kDue F tick fr 8 0 (-1) = mDue ev on tick fr 256 (-1) := by
  obtain ⟨ha, hb, hc, -⟩ := h
  have hKM : ∀ i, i < 8 → cK F tick fr i → ∃ d, d < 256 ∧ F i 1 = nI d ∧ cM ev on tick fr d := by
    intro i hi hk
    obtain ⟨d, hd, m1, m2, m3, m4, -⟩ := ha i hi hk.1
    exact ⟨d, hd, m1, by rw [← m1]; exact hk.2.2.1, m3, by rw [← m4]; exact hk.2.1, (kD_iff m3).mp (by rw [← m2]; exact hk.2.2.2)⟩
  by_cases hex : ∃ d, d < 256 ∧ cM ev on tick fr d
  · obtain ⟨d, ⟨hd, hm⟩, hl⟩ := pk_least (fun d => d < 256 ∧ cM ev on tick fr d) hex
    rw [mDue_some hm (fun d' hd' hm' => hl d' hd' ⟨by omega, hm'⟩) (Nat.le_refl _) hd]
    obtain ⟨i, hi, h1, h2⟩ := hb d hd hm.2.1
    obtain ⟨d', hd', m1, m2, m3, m4, -⟩ := ha i hi h1
    obtain rfl : d' = d := (nI_eq (by omega) (by omega)).mp (by rw [← m1]; exact h2)
    have hci : cK F tick fr i := ⟨h1, by rw [m4]; exact hm.2.2.1, by rw [m1]; exact hm.1, by rw [m2]; exact (kD_iff m3).mpr hm.2.2.2⟩
    refine kDue_some hd ?_ (Or.inr ⟨Or.inl rfl, i, Nat.zero_le _, by omega, hci, h2⟩)
    intro a _ ha8 hca
    obtain ⟨d2, hd2, h3, h4⟩ := hKM a (by omega) hca
    exact ⟨d2, Nat.not_lt.mp (fun z => hl d2 z ⟨hd2, h4⟩), hd2, h3⟩
  · rw [mDue_none (fun d hd hm => hex ⟨d, hd, hm⟩)]
    refine kDue_none (fun a _ ha8 hca => ?_)
    obtain ⟨d, hd, -, hm⟩ := hKM a (by omega) hca
    exact hex ⟨d, hd, hm⟩
end REL2
