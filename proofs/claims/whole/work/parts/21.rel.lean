/-! The keeper's places and the reference's rows by id: what ties them. -/
def cnt (f : Nat → Nat) : Nat → Nat → Nat
  | 0, _ => 0
  | n + 1, i => f i + cnt f n (i + 1)
theorem cnt_congr {f g : Nat → Nat} : ∀ {n i : Nat}, (∀ x, i ≤ x → x < i + n → f x = g x) → cnt f n i = cnt g n i := by
  intro n
  induction n with
  | zero => intro i _; rfl
  | succ n ih =>
    intro i h
    show f i + cnt f n (i + 1) = g i + cnt g n (i + 1)
    rw [h i (Nat.le_refl _) (by omega), ih (i := i + 1) (fun x h1 h2 => h x (by omega) (by omega))]
theorem cnt_upd {f g : Nat → Nat} {a : Nat} (h : ∀ x, x ≠ a → f x = g x) : ∀ {n i : Nat}, i ≤ a → a < i + n → cnt g n i + f a = cnt f n i + g a := by
  intro n
  induction n with
  | zero => intro i h1 h2; omega
  | succ n ih =>
    intro i h1 h2
    show (g i + cnt g n (i + 1)) + f a = (f i + cnt f n (i + 1)) + g a
    by_cases e : a = i
    · subst e
      have h3 := cnt_congr (f := f) (g := g) (n := n) (i := a + 1) (fun x hx _ => h x (by omega))
      omega
    · have h3 := ih (i := i + 1) (by omega) (by omega)
      have h4 := h i (by omega)
      omega
def tF (F : Nat → Nat → Int32) : Nat → Nat := fun i => if F i 0 = 0 then 0 else 1
def tE (ev : Nat → Int32) : Nat → Nat := fun d => if ev d ≤ 0 then 0 else 1
theorem tF_le (F : Nat → Nat → Int32) (i : Nat) : tF F i ≤ 1 := by
  unfold tF
  split <;> omega
theorem cntF_le {F : Nat → Nat → Int32} : ∀ {n i : Nat}, cnt (tF F) n i ≤ n := by
  intro n
  induction n with
  | zero => intro i; exact Nat.le_refl _
  | succ n ih =>
    intro i
    show tF F i + cnt (tF F) n (i + 1) ≤ n + 1
    have h1 := tF_le F i
    have h2 := ih (i := i + 1)
    omega
theorem kFree_none {F : Nat → Nat → Int32} : ∀ {n i : Nat}, kFree F n i = none → cnt (tF F) n i = n := by
  intro n
  induction n with
  | zero => intro i _; rfl
  | succ n ih =>
    intro i h
    unfold kFree at h
    by_cases h1 : F i 0 = 0
    · rw [if_pos h1] at h; cases h
    · rw [if_neg h1] at h
      show tF F i + cnt (tF F) n (i + 1) = n + 1
      rw [ih h]
      unfold tF
      rw [if_neg h1]
      omega
theorem mCnt_eq {ev : Nat → Int32} : ∀ (n i : Nat) (x : Int32), mCnt ev n i x = x + nI (cnt (tE ev) n i) := by
  intro n
  induction n with
  | zero => intro i x; show x = x + nI 0; rw [nI_0, Int32.add_zero]
  | succ n ih =>
    intro i x
    show (if ev i ≤ 0 then mCnt ev n (i + 1) (x + 0) else mCnt ev n (i + 1) (x + 1)) = x + nI (tE ev i + cnt (tE ev) n (i + 1))
    by_cases h : ev i ≤ 0
    · rw [if_pos h, ih, Int32.add_zero]
      unfold tE
      rw [if_pos h, Nat.zero_add]
    · rw [if_neg h, ih]
      have e : tE ev i = 1 := by unfold tE; rw [if_neg h]
      rw [e, ← nI_add, Int32.add_assoc]
      rfl
theorem kFind_none {F : Nat → Nat → Int32} {id : Int32} : ∀ {n i : Nat}, kFind F id n i = none → ∀ x, i ≤ x → x < i + n → ¬ F x 0 = 0 → ¬ F x 1 = id := by
  intro n
  induction n with
  | zero => intro i _ x h1 h2; omega
  | succ n ih =>
    intro i h x h1 h2 h3 h4
    unfold kFind at h
    by_cases e : x = i
    · subst e
      rw [if_neg h3, if_pos h4] at h
      cases h
    · by_cases h5 : F i 0 = 0
      · rw [if_pos h5] at h
        exact ih h x (by omega) (by omega) h3 h4
      · rw [if_neg h5] at h
        by_cases h6 : F i 1 = id
        · rw [if_pos h6] at h; cases h
        · rw [if_neg h6] at h
          exact ih h x (by omega) (by omega) h3 h4
theorem up2_s {F : Nat → Nat → Int32} {i j : Nat} {v : Int32} : up2 F i j v i j = v := by
  unfold up2
  rw [if_pos rfl, if_pos rfl]
theorem up2_f {F : Nat → Nat → Int32} {i j a b : Nat} {v : Int32} (h : b ≠ j) : up2 F i j v a b = F a b := by
  unfold up2
  rw [if_neg h]
  split <;> rfl
theorem up2_i {F : Nat → Nat → Int32} {i j a b : Nat} {v : Int32} (h : a ≠ i) : up2 F i j v a b = F a b := by
  unfold up2
  rw [if_neg h]
/-- place i holds what the reference holds of the id d -/
def Fm (F pr : Nat → Nat → Int32) (ev on mn pm : Nat → Int32) (i d : Nat) : Prop := F i 1 = nI d ∧ F i 2 = ev d ∧ ¬ ev d ≤ 0 ∧ F i 3 = on d ∧ F i 4 = mn d ∧ ∃ c : Nat, c ≤ 8 ∧ mn d = nI c ∧ ∀ q : Nat, q < c → pr i q = pm (8 * d + q)
def Rf (k8 : Int32) (F pr : Nat → Nat → Int32) (ev on mn pm : Nat → Int32) : Prop :=
  (∀ i, i < 8 → ¬ F i 0 = 0 → ∃ d, d < 256 ∧ Fm F pr ev on mn pm i d) ∧ (∀ d, d < 256 → ¬ ev d ≤ 0 → ∃ i, i < 8 ∧ ¬ F i 0 = 0 ∧ F i 1 = nI d) ∧ (∀ a b, a < 8 → b < 8 → ¬ F a 0 = 0 → ¬ F b 0 = 0 → F a 1 = F b 1 → a = b) ∧ (∀ i, i < 8 → (F i 4).toInt ≤ 8) ∧ (∀ d, d < 256 → (mn d).toInt ≤ 8) ∧ k8 = nI (cnt (tF F) 8 0) ∧ cnt (tF F) 8 0 = cnt (tE ev) 256 0
theorem mTh_1 {ev : Nat → Int32} {d : Nat} (hd : d < 256) (h : ¬ ev d ≤ 0) : mTh ev (nI d) = 1 := by
  unfold mTh
  rw [if_neg (nI_pos (by omega)), if_neg (show ¬ (256 : Int32) ≤ nI d from nI_ge (b := 256) hd (by decide)), nI_clamp (by omega), if_neg h]
theorem mTh_0 {ev : Nat → Int32} {id : Int32} (h : ¬ mTh ev id = 0) : ∃ d, d < 256 ∧ id = nI d ∧ ¬ ev d ≤ 0 := by
  obtain ⟨d, hd, rfl⟩ := vp_in_of (mTh_in h) (by decide)
  refine ⟨d, hd, rfl, fun z => h ?_⟩
  unfold mTh
  rw [if_neg (nI_pos (by omega)), if_neg (show ¬ (256 : Int32) ≤ nI d from nI_ge (b := 256) hd (by decide)), nI_clamp (by omega), if_pos z]
section REL
variable {k8 : Int32} {F pr : Nat → Nat → Int32} {ev on mn pm : Nat → Int32}
theorem r_find (h : Rf k8 F pr ev on mn pm) (id : Int32) : (kFind F id 8 0 = none ∧ mTh ev id = 0) ∨ ∃ i d : Nat, kFind F id 8 0 = some i ∧ i < 8 ∧ d < 256 ∧ id = nI d ∧ ¬ F i 0 = 0 ∧ mTh ev id = 1 ∧ Fm F pr ev on mn pm i d := by
  obtain ⟨ha, hb, -⟩ := h
  cases hf : kFind F id 8 0 with
  | none =>
    refine Or.inl ⟨rfl, ?_⟩
    by_cases hm : mTh ev id = 0
    · exact hm
    · obtain ⟨d, hd, rfl, he⟩ := mTh_0 hm
      obtain ⟨i, hi, h1, h2⟩ := hb d hd he
      exact absurd h2 (kFind_none hf i (Nat.zero_le _) (by omega) h1)
  | some i =>
    obtain ⟨-, h1, h2, h3⟩ := kFind_some hf
    obtain ⟨d, hd, hm⟩ := ha i (by omega) h2
    have e : id = nI d := by rw [← h3]; exact hm.1
    exact Or.inr ⟨i, d, rfl, by omega, hd, e, h2, by rw [e]; exact mTh_1 hd hm.2.2.1, hm⟩
theorem r_removeR (h : Rf k8 F pr ev on mn pm) (id : Int32) : kReR F id = mReR ev on id := by
  unfold kReR mReR
  rcases r_find h id with ⟨h1, h2⟩ | ⟨i, d, h1, hi, hd, rfl, h3, h2, hm⟩
  · rw [h1, if_pos h2]
  · rw [h1, h2, if_neg (by decide), nI_clamp (by omega)]
    show (if F i 3 = 0 then (0 : Int32) else 15) = _
    rw [hm.2.2.2.1]
theorem r_remove (k : Nat → Int32) (h : Rf (k 8) F pr ev on mn pm) (id : Int32) : Rf (kReK k F id 8) (kReF F id) pr (mReE ev on id) on mn pm := by
  unfold kReK kReF mReE
  rcases r_find h id with ⟨h1, h2⟩ | ⟨i, d, h1, hi, hd, rfl, h3, h2, hm⟩
  · rw [h1, if_pos h2]
    exact h
  · rw [h1, h2, if_neg (by decide), nI_clamp (by omega)]
    show Rf ((if F i 3 = 0 then upd k 8 (k 8 - 1) else k) 8) (if F i 3 = 0 then up2 F i 0 0 else F) pr _ on mn pm
    rw [← hm.2.2.2.1]
    by_cases h0 : F i 3 = 0
    · rw [if_pos h0, if_pos h0, if_pos h0]
      show Rf (k 8 - 1) _ pr _ on mn pm
      obtain ⟨ha, hb, hc, he, hf, hk, hcc⟩ := h
      have hne : ∀ a, ¬ up2 F i 0 0 a 0 = 0 → a ≠ i := fun a z w => z (by rw [w]; exact up2_s)
      have hF : ∀ a b, a ≠ i → up2 F i 0 0 a b = F a b := fun a b w => up2_i w
      have hF1 : ∀ a b, b ≠ 0 → up2 F i 0 0 a b = F a b := fun a b w => up2_f w
      have c1 := cnt_upd (f := tF F) (g := tF (up2 F i 0 0)) (a := i) (fun x hx => by unfold tF; rw [hF x 0 hx]) (n := 8) (i := 0) (Nat.zero_le _) (by omega)
      have c2 := cnt_upd (f := tE ev) (g := tE (upd ev d 0)) (a := d) (fun x hx => by unfold tE; rw [pk_un hx]) (n := 256) (i := 0) (Nat.zero_le _) (by omega)
      have t1 : tF F i = 1 := by unfold tF; rw [if_neg h3]
      have t2 : tF (up2 F i 0 0) i = 0 := by unfold tF; rw [if_pos up2_s]
      have t3 : tE ev d = 1 := by unfold tE; rw [if_neg hm.2.2.1]
      have t4 : tE (upd ev d 0) d = 0 := by unfold tE; rw [pk_us, if_pos (by decide)]
      refine ⟨?_, ?_, ?_, ?_, hf, ?_, by omega⟩
      · intro a ha8 h4
        have hai := hne a h4
        rw [hF a 0 hai] at h4
        obtain ⟨d', hd', hm'⟩ := ha a ha8 h4
        have hdd : d' ≠ d := fun z => hai (hc a i ha8 hi h4 h3 (by rw [hm'.1, hm.1, z]))
        refine ⟨d', hd', ?_⟩
        obtain ⟨m1, m2, m3, m4, m5, m6⟩ := hm'
        refine ⟨by rw [hF a 1 hai]; exact m1, by rw [hF a 2 hai, pk_un hdd]; exact m2, by rw [pk_un hdd]; exact m3, by rw [hF a 3 hai]; exact m4, by rw [hF a 4 hai]; exact m5, m6⟩
      · intro d' hd' h4
        by_cases hdd : d' = d
        · subst hdd
          exact absurd (by rw [pk_us]; decide) h4
        · rw [pk_un hdd] at h4
          obtain ⟨a, ha8, h5, h6⟩ := hb d' hd' h4
          have hai : a ≠ i := fun z => hdd ((nI_eq (by omega) (by omega)).mp (by rw [← h6, z]; exact hm.1))
          exact ⟨a, ha8, by rw [hF a 0 hai]; exact h5, by rw [hF a 1 hai]; exact h6⟩
      · intro a b ha8 hb8 h4 h5 h6
        have hai := hne a h4
        have hbi := hne b h5
        rw [hF a 0 hai] at h4
        rw [hF b 0 hbi] at h5
        rw [hF1 a 1 (by decide), hF1 b 1 (by decide)] at h6
        exact hc a b ha8 hb8 h4 h5 h6
      · intro a ha8
        rw [hF1 a 4 (by decide)]
        exact he a ha8
      · rw [hk, show cnt (tF F) 8 0 = cnt (tF (up2 F i 0 0)) 8 0 + 1 by omega]
        exact nI_pred _
    · rw [if_neg h0, if_neg h0, if_neg h0]
      exact h
theorem r_enableR (h : Rf k8 F pr ev on mn pm) (id : Int32) : kEbR F id = mEbR ev id := by
  unfold kEbR mEbR
  rcases r_find h id with ⟨h1, h2⟩ | ⟨i, d, h1, hi, hd, rfl, h3, h2, hm⟩
  · rw [h1, if_pos h2]
  · rw [h1, h2, if_neg (by decide)]
theorem r_enable (h : Rf k8 F pr ev on mn pm) (id b : Int32) : Rf k8 (kEbF F id b) pr ev (mEbO ev on id b) mn pm := by
  unfold kEbF mEbO
  rcases r_find h id with ⟨h1, h2⟩ | ⟨i, d, h1, hi, hd, rfl, h3, h2, hm⟩
  · rw [h1, if_pos h2]
    exact h
  · rw [h1, h2, if_neg (by decide), nI_clamp (by omega)]
    show Rf k8 (up2 F i 3 b) pr ev (upd on d b) mn pm
    obtain ⟨ha, hb, hc, he, hf, hk, hcc⟩ := h
    have hF : ∀ a b', a ≠ i → up2 F i 3 b a b' = F a b' := fun a b' w => up2_i w
    have hF1 : ∀ a b', b' ≠ 3 → up2 F i 3 b a b' = F a b' := fun a b' w => up2_f w
    have c1 : cnt (tF (up2 F i 3 b)) 8 0 = cnt (tF F) 8 0 := cnt_congr (fun x _ _ => by unfold tF; rw [hF1 x 0 (by decide)])
    refine ⟨?_, ?_, ?_, ?_, hf, by rw [c1]; exact hk, by rw [c1]; exact hcc⟩
    · intro a ha8 h4
      rw [hF1 a 0 (by decide)] at h4
      obtain ⟨d', hd', hm'⟩ := ha a ha8 h4
      refine ⟨d', hd', ?_⟩
      obtain ⟨m1, m2, m3, m4, m5, m6⟩ := hm'
      refine ⟨by rw [hF1 a 1 (by decide)]; exact m1, by rw [hF1 a 2 (by decide)]; exact m2, m3, ?_, by rw [hF1 a 4 (by decide)]; exact m5, m6⟩
      by_cases hai : a = i
      · subst hai
        have hdd : d' = d := (nI_eq (by omega) (by omega)).mp (by rw [← m1]; exact hm.1)
        subst hdd
        rw [up2_s, pk_us]
      · have hdd : d' ≠ d := fun z => hai (hc a i ha8 hi h4 h3 (by rw [m1, hm.1, z]))
        rw [hF a 3 hai, pk_un hdd]
        exact m4
    · intro d' hd' h4
      obtain ⟨a, ha8, h5, h6⟩ := hb d' hd' h4
      exact ⟨a, ha8, by rw [hF1 a 0 (by decide)]; exact h5, by rw [hF1 a 1 (by decide)]; exact h6⟩
    · intro a b' ha8 hb8 h4 h5 h6
      rw [hF1 a 0 (by decide)] at h4
      rw [hF1 b' 0 (by decide)] at h5
      rw [hF1 a 1 (by decide), hF1 b' 1 (by decide)] at h6
      exact hc a b' ha8 hb8 h4 h5 h6
    · intro a ha8
      rw [hF1 a 4 (by decide)]
      exact he a ha8
theorem r_aboutR (h : Rf k8 F pr ev on mn pm) (id w : Int32) : kAbR F id w = mAbR ev on id w := by
  unfold kAbR mAbR
  rcases r_find h id with ⟨h1, h2⟩ | ⟨i, d, h1, hi, hd, rfl, h3, h2, hm⟩
  · rw [h1, if_pos h2]
  · rw [h1, h2, if_neg (by decide), nI_clamp (by omega)]
    show (if w = 0 then F i 2 else if w = 1 then (if F i 3 = 0 then (0 : Int32) else 1) else -1) = _
    rw [hm.2.1, hm.2.2.2.1]
theorem r_parameterR (h : Rf k8 F pr ev on mn pm) (id j : Int32) : kPaR F pr id j = mPaR ev mn pm id j := by
  unfold kPaR mPaR
  rcases r_find h id with ⟨h1, h2⟩ | ⟨i, d, h1, hi, hd, rfl, h3, h2, hm⟩
  · rw [h1, if_pos h2]
  · rw [h1, h2, if_neg (by decide), nI_clamp (by omega)]
    show (if j = -1 then F i 4 else if j < 0 then -1 else if j < F i 4 then pr i j.toNatClampNeg else -1) = _
    obtain ⟨m1, m2, m3, m4, m5, c, hc8, m6, m7⟩ := hm
    rw [m5]
    by_cases e : j = -1
    · subst e
      rw [if_pos rfl, if_neg (by decide), if_pos, if_neg (by decide)]
      rw [m6, Int32.lt_iff_toInt_lt, nI_toInt (by omega)]
      show (-1 : Int) < _
      omega
    · rw [if_neg e]
      by_cases e1 : j < 0
      · rw [if_pos e1, if_pos]
        rw [Int32.lt_iff_toInt_lt] at e1 ⊢
        have e2 : j.toInt ≠ (-1 : Int32).toInt := fun z => e (Int32.toInt_inj.mp z)
        have e3 : (-1 : Int32).toInt = -1 := by decide
        have e4 : (0 : Int32).toInt = 0 := by decide
        omega
      · have hlt : ¬ j < -1 := fun z => e1 (by
          rw [Int32.lt_iff_toInt_lt] at z ⊢
          have e3 : (-1 : Int32).toInt = -1 := by decide
          have e4 : (0 : Int32).toInt = 0 := by decide
          omega)
        rw [if_neg e1, if_neg hlt]
        by_cases e2 : j < mn d
        · rw [if_pos e2, if_pos e2, if_pos (Int32.not_lt.mp e1)]
          obtain ⟨q, hq, rfl⟩ := nI_of e1
          have hqc : q < c := by rw [m6] at e2; exact (nI_ltI hq (by omega)).mp e2
          rw [nI_clamp hq, m7 q hqc, show (8 : Int32) * nI d + nI q = nI (8 * d + q) from by rw [show (8 : Int32) = nI 8 from rfl, pk_mul, nI_add], nI_clamp (by omega)]
        · rw [if_neg e2, if_neg e2]
theorem mCpy_at {tx : Nat → Int32} {b : Nat} : ∀ (n i : Nat) (p : Nat → Int32) (x : Nat), mCpy tx b n i p x = if b + i ≤ x ∧ x < b + i + n then tx (x - b) else p x := by
  intro n
  induction n with
  | zero => intro i p x; rw [if_neg (by omega)]; rfl
  | succ n ih =>
    intro i p x
    show mCpy tx b n (i + 1) (upd p (b + i) (tx i)) x = _
    rw [ih]
    by_cases h1 : x = b + i
    · subst h1
      rw [if_neg (by omega), if_pos (by omega), pk_us, Nat.add_sub_cancel_left]
    · rw [pk_un h1]
      by_cases h2 : b + (i + 1) ≤ x ∧ x < b + (i + 1) + n
      · rw [if_pos h2, if_pos (by omega)]
      · rw [if_neg h2, if_neg (by omega)]
theorem r_failR (k j : Nat → Int32) (h : Rf (k 8) F pr ev on mn pm) (h6 : k 6 = j 6) (id e : Int32) : kFail k F id e = mFail j ev id e := by
  unfold kFail mFail
  rw [h6]
  by_cases c1 : j 6 = 0
  · rw [if_pos c1, if_pos c1]
  · rw [if_neg c1, if_neg c1]
    by_cases c2 : e < 1
    · rw [if_pos c2, if_pos c2]
    · rw [if_neg c2, if_neg c2]
      by_cases c3 : 255 < e
      · rw [if_pos c3, if_pos c3]
      · rw [if_neg c3, if_neg c3]
        by_cases c4 : id < 0
        · rw [if_pos c4, if_pos c4]
        · rw [if_neg c4, if_neg c4]
          by_cases c5 : id ≤ 255
          · rw [if_pos c5, if_pos c5]
            obtain ⟨d, hd, hid⟩ := vp_in_of (m_in2 (n := 256) (N := 255) (by decide) c4 c5) (by decide)
            rcases r_find h id with ⟨h1, h2⟩ | ⟨i, d', h1, hi, hd', hid', h3, h2, hm⟩
            · rw [h1]
              have he : ev id.toNatClampNeg ≤ 0 := by
                by_cases z : ev id.toNatClampNeg ≤ 0
                · exact z
                · rw [hid, nI_clamp (by omega)] at z
                  rw [hid, mTh_1 hd z] at h2
                  exact absurd h2 (by decide)
              rw [if_pos he, mCnt_eq]
              obtain ⟨-, -, -, -, -, hk, hcc⟩ := h
              have hle : cnt (tF F) 8 0 ≤ 8 := cntF_le
              show (if k 8 < 8 then (0 : Int32) else 12) = _
              rw [hk, ← hcc, show (0 : Int32) + nI (cnt (tF F) 8 0) = nI (cnt (tF F) 8 0) from by rw [Int32.zero_add]]
              by_cases c6 : cnt (tF F) 8 0 = 8
              · rw [c6, if_neg (show ¬ nI 8 < (8 : Int32) by decide +kernel), if_pos (show nI 8 = (8 : Int32) from rfl)]
              · rw [if_pos (show nI (cnt (tF F) 8 0) < (8 : Int32) from nI_lt (b := 8) (by omega) (by decide)), if_neg (fun z : nI (cnt (tF F) 8 0) = (8 : Int32) => c6 ((nI_eq (by omega) (by decide)).mp (show nI (cnt (tF F) 8 0) = nI 8 from z)))]
            · have hz : ¬ ev id.toNatClampNeg ≤ 0 := by rw [hid', nI_clamp (by omega)]; exact hm.2.2.1
              rw [h1, if_neg hz]
          · rw [if_neg c5, if_neg c5]
end REL
