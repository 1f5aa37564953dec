/-- keeper and reference agree -/
def Rl (k act txt : Nat → Int32) (F pr : Nat → Nat → Int32) (j ac tx ev on mn pm : Nat → Int32) : Prop := k 1 = j 1 ∧ k 2 = j 5 ∧ k 3 = j 3 ∧ k 4 = j 4 ∧ k 6 = j 6 ∧ (∃ t : Nat, t ≤ 8 ∧ k 6 = nI t) ∧ act = ac ∧ txt = tx ∧ Rf (k 8) F pr ev on mn pm
section REL3
variable {k act txt : Nat → Int32} {F pr : Nat → Nat → Int32} {j ac tx ev on mn pm : Nat → Int32}
theorem Rl.j0 (h : Rl k act txt F pr j ac tx ev on mn pm) : Rl k act txt F pr (upd j 0 0) ac tx ev on mn pm := h
theorem s_78 {a : Int32} : a ≤ 7 ↔ ¬ 8 ≤ a := by
  rw [Int32.le_iff_toInt_le, Int32.le_iff_toInt_le]
  have e7 : (7 : Int32).toInt = 7 := by decide
  have e8 : (8 : Int32).toInt = 8 := by decide
  omega
theorem kA_neg {a : Int32} (h : a < 0) : kA a = 0 := by unfold kA; rw [if_pos h]
theorem kA_big {a : Int32} (h : 8 ≤ a) : kA a = 0 := by
  unfold kA
  rw [if_pos h]
  split <;> rfl
theorem kA_mid {a : Int32} (h1 : ¬ a < 0) (h2 : ¬ 8 ≤ a) : kA a = 1 := by unfold kA; rw [if_neg h1, if_neg h2]
theorem l_move (h : Rl k act txt F pr j ac tx ev on mn pm) (a v : Int32) : kMvR k a = mMvR j a ∧ Rl k (kMvA k act a v) txt F pr (upd j 0 0) (mMvA j ac a v) tx ev on mn pm := by
  obtain ⟨h1, h2, h3, h4, h5, h6, h7, h8, h9⟩ := h
  unfold kMvR mMvR kMvA mMvA
  subst h7
  by_cases c1 : a < 0
  · rw [kA_neg c1, if_pos rfl, if_pos c1, if_pos rfl, if_pos c1]
    exact ⟨rfl, h1, h2, h3, h4, h5, h6, rfl, h8, h9⟩
  · by_cases c2 : 8 ≤ a
    · rw [kA_big c2, if_pos rfl, if_neg c1, if_neg (fun z => (s_78.mp z) c2), if_pos rfl, if_neg c1, if_neg (fun z => (s_78.mp z) c2)]
      exact ⟨rfl, h1, h2, h3, h4, h5, h6, rfl, h8, h9⟩
    · rw [kA_mid c1 c2, if_neg (show ¬ (1 : Int32) = 0 by decide), if_neg c1, if_pos (s_78.mpr c2), if_neg (show ¬ (1 : Int32) = 0 by decide), if_neg c1, if_pos (s_78.mpr c2), h1]
      exact ⟨rfl, h1, h2, h3, h4, h5, h6, rfl, h8, h9⟩
theorem s_safe (f : Nat → Int32) : va_cpy kSafe f 0 0 8 = mSafe f := by
  funext x
  match x with
  | 0 => rfl
  | 1 => rfl
  | 2 => rfl
  | 3 => rfl
  | 4 => rfl
  | 5 => rfl
  | 6 => rfl
  | 7 => rfl
  | n + 8 =>
    rw [pk_cpy_out (Or.inr (by omega))]
    unfold mSafe
    rw [pk_un (by omega), pk_un (by omega), pk_un (by omega), pk_un (by omega), pk_un (by omega), pk_un (by omega), pk_un (by omega), pk_un (by omega)]
theorem l_change (h : Rl k act txt F pr j ac tx ev on mn pm) (m : Int32) : kChR k m = mBeR j m ∧ Rl (kChK k m) (kChA k act m) txt F pr (mBeJ j m) (mBeA j ac m) tx ev on mn pm := by
  obtain ⟨h1, h2, h3, h4, h5, h6, h7, h8, h9⟩ := h
  unfold kChR mBeR kChK kChA mBeJ mBeA
  subst h7
  by_cases c1 : k 1 = m
  · have c2 : m = j 1 := by rw [← c1]; exact h1
    rw [if_pos c1, if_pos c2, if_pos c1, if_pos c1, if_pos c2, if_pos c2]
    exact ⟨rfl, c1, by show k 2 = j 5 + 0; rw [Int32.add_zero]; exact h2, h3, h4, h5, h6, rfl, h8, h9⟩
  · have c2 : ¬ m = j 1 := fun z => c1 (by rw [h1]; exact z.symm)
    rw [if_neg c1, if_neg c2, if_neg c1, if_neg c1, if_neg c2, if_neg c2, s_safe]
    exact ⟨rfl, rfl, by show k 2 + 1 = j 5 + 1; rw [h2], h3, h4, h5, h6, rfl, h8, h9⟩
theorem l_enter (h : Rl k act txt F pr j ac tx ev on mn pm) (m : Int32) : kEnR k m = mEnR j m ∧ Rl (kEnK k m) (kEnA k act m) txt F pr (mEnJ j m) (mEnA j ac m) tx ev on mn pm := by
  have h1 : k 1 = j 1 := h.1
  unfold kEnR mEnR kEnK kEnA mEnJ mEnA
  by_cases c1 : m < 0
  · rw [if_pos c1, if_pos c1, if_pos c1, if_pos c1, if_pos c1, if_pos c1]
    exact ⟨rfl, h.j0⟩
  · rw [if_neg c1, if_neg c1, if_neg c1, if_neg c1, if_neg c1, if_neg c1]
    by_cases c2 : m ≤ 2
    · rw [if_pos c2, if_pos c2, if_pos c2, if_pos c2, if_pos c2, if_pos c2, h1]
      by_cases c3 : j 1 = 0
      · rw [if_pos c3, if_pos c3, if_pos c3, if_pos c3, if_pos c3]
        by_cases c4 : m = 2
        · rw [if_pos c4, if_pos c4, if_pos c4, if_pos c4, if_pos c4]
          exact ⟨rfl, h.j0⟩
        · rw [if_neg c4, if_neg c4, if_neg c4, if_neg c4, if_neg c4]
          exact ⟨rfl, (l_change h.j0 m).2⟩
      · rw [if_neg c3, if_neg c3, if_neg c3, if_neg c3, if_neg c3]
        exact ⟨rfl, (l_change h.j0 m).2⟩
    · rw [if_neg c2, if_neg c2, if_neg c2, if_neg c2, if_neg c2, if_neg c2]
      exact ⟨rfl, h.j0⟩
theorem l_alarm (h : Rl k act txt F pr j ac tx ev on mn pm) (t : Int32) : kAlR k = mAlR j ∧ Rl (kAlK k t) act txt F pr (mAlJ j t) ac tx ev on mn pm := by
  have h3 : k 3 = j 3 := h.2.2.1
  unfold kAlR mAlR kAlK mAlJ
  rw [h3]
  by_cases c1 : j 3 = 0
  · rw [if_pos c1, if_pos c1, if_pos c1]
    obtain ⟨h1, h2, -, h4, h5, h6, h7, h8, h9⟩ := h
    exact ⟨rfl, h1, h2, rfl, rfl, h5, h6, h7, h8, h9⟩
  · rw [if_neg c1, if_neg c1, if_neg c1]
    exact ⟨rfl, h.j0⟩
theorem l_look (h : Rl k act txt F pr j ac tx ev on mn pm) (t : Int32) : kLkR k t = mLkR j t ∧ Rl (kLkK k t) (kLkA k act t) txt F pr (mLkJ j t) (mLkA j ac t) tx ev on mn pm := by
  have h3 : k 3 = j 3 := h.2.2.1
  have h4 : k 4 = j 4 := h.2.2.2.1
  unfold kLkR mLkR kLkK kLkA mLkJ mLkA
  rw [h3, h4]
  by_cases c1 : j 3 = 0
  · rw [if_pos c1, if_pos c1, if_pos c1, if_pos c1, if_pos c1, if_pos c1]
    exact ⟨rfl, h.j0⟩
  · rw [if_neg c1, if_neg c1, if_neg c1, if_neg c1, if_neg c1, if_neg c1]
    by_cases c2 : j 4 ≤ t
    · rw [if_pos c2, if_pos c2, if_pos c2, if_pos c2, if_pos c2, if_pos c2]
      have h' : Rl (upd k 3 0) act txt F pr (upd (upd j 0 0) 3 0) ac tx ev on mn pm := by
        obtain ⟨h1, h2, -, h4, h5, h6, h7, h8, h9⟩ := h
        exact ⟨h1, h2, rfl, h4, h5, h6, h7, h8, h9⟩
      exact l_change h' 0
    · rw [if_neg c2, if_neg c2, if_neg c2, if_neg c2, if_neg c2, if_neg c2]
      exact ⟨rfl, h.j0⟩
theorem l_put (h : Rl k act txt F pr j ac tx ev on mn pm) (x : Int32) : kPuR k x = mPuR j x ∧ Rl (kPuK k x) act (kPuT k txt x) F pr (mPuJ j x) ac (mPuT j tx x) ev on mn pm := by
  have h5 : k 6 = j 6 := h.2.2.2.2.1
  obtain ⟨t, ht8, ht⟩ := h.2.2.2.2.2.1
  unfold kPuR mPuR kPuK kPuT mPuJ mPuT
  by_cases c1 : x < 0
  · rw [if_pos c1, if_pos c1, if_pos c1, if_pos c1, if_pos c1, if_pos c1]
    exact ⟨rfl, h.j0⟩
  · rw [if_neg c1, if_neg c1, if_neg c1, if_neg c1, if_neg c1, if_neg c1]
    by_cases c2 : 31 < x
    · rw [if_pos c2, if_pos c2, if_pos c2, if_pos c2, if_pos c2, if_pos c2]
      exact ⟨rfl, h.j0⟩
    · rw [if_neg c2, if_neg c2, if_neg c2, if_neg c2, if_neg c2, if_neg c2, ← h5]
      by_cases c3 : t = 8
      · have d1 : ¬ k 6 < 8 := by rw [ht, c3]; decide +kernel
        have d2 : k 6 = 8 := by rw [ht, c3]; rfl
        rw [if_neg d1, if_neg d1, if_neg d1, if_pos d2, if_pos d2, if_pos d2]
        exact ⟨rfl, h.j0⟩
      · have d1 : k 6 < 8 := by rw [ht]; exact nI_lt (b := 8) (by omega) (by decide)
        have d2 : ¬ k 6 = 8 := fun z => c3 ((nI_eq (by omega) (by decide)).mp (show nI t = nI 8 by rw [← ht]; exact z))
        rw [if_pos d1, if_pos d1, if_pos d1, if_neg d2, if_neg d2, if_neg d2]
        obtain ⟨h1, h2, h3, h4, -, -, h7, h8, h9⟩ := h
        refine ⟨rfl, h1, h2, h3, h4, rfl, ⟨t + 1, by omega, by show k 6 + 1 = nI (t + 1); rw [ht, nI_1]⟩, h7, by rw [h8], h9⟩
theorem l_form (h : Rl k act txt F pr j ac tx ev on mn pm) (id e : Int32) : kFail k F id e = mFail j ev id e ∧ Rl (kFoK k F id e) act txt (kFoF k F id e) (kFoP k txt F pr id e) (upd (upd j 0 0) 6 0) ac tx (mFoE j ev id e) (mFoO j ev on id e) (mFoN j ev mn id e) (mFoP j tx ev pm id e) := by
  obtain ⟨h1, h2, h3, h4, h5, ⟨t, ht8, ht⟩, h7, h8, h9⟩ := h
  refine ⟨r_failR k j h9 h5 id e, ?_⟩
  have hr := r_form k j txt tx h9 h5 h8 ht8 ht id e
  have hx : ∀ x, x ≠ 6 → x ≠ 8 → kFoK k F id e x = k x := by
    intro x hx6 hx8
    unfold kFoK
    rw [pk_un hx6]
    by_cases c : kFail k F id e = 0
    · rw [if_pos c]
      unfold kFiK
      cases kFree F 8 0 with
      | none => rfl
      | some i => exact pk_un hx8
    · rw [if_neg c]
  refine ⟨by rw [hx 1 (by decide) (by decide)]; exact h1, by rw [hx 2 (by decide) (by decide)]; exact h2, by rw [hx 3 (by decide) (by decide)]; exact h3, by rw [hx 4 (by decide) (by decide)]; exact h4, rfl, ⟨0, by omega, rfl⟩, h7, h8, hr⟩
theorem l_remove (h : Rl k act txt F pr j ac tx ev on mn pm) (id : Int32) : kReR F id = mReR ev on id ∧ Rl (kReK k F id) act txt (kReF F id) pr (upd j 0 0) ac tx (mReE ev on id) on mn pm := by
  obtain ⟨h1, h2, h3, h4, h5, h6, h7, h8, h9⟩ := h
  refine ⟨r_removeR h9 id, ?_⟩
  have hr := r_remove k h9 id
  have hx : ∀ x, x ≠ 8 → kReK k F id x = k x := by
    intro x hx8
    unfold kReK
    cases kFind F id 8 0 with
    | none => rfl
    | some i =>
      show (if F i 3 = 0 then upd k 8 (k 8 - 1) else k) x = k x
      by_cases c : F i 3 = 0
      · rw [if_pos c]; exact pk_un hx8
      · rw [if_neg c]
  refine ⟨by rw [hx 1 (by decide)]; exact h1, by rw [hx 2 (by decide)]; exact h2, by rw [hx 3 (by decide)]; exact h3, by rw [hx 4 (by decide)]; exact h4, by rw [hx 6 (by decide)]; exact h5, by rw [hx 6 (by decide)]; exact h6, h7, h8, hr⟩
theorem l_enable (h : Rl k act txt F pr j ac tx ev on mn pm) (id b : Int32) : kEbR F id = mEbR ev id ∧ Rl k act txt (kEbF F id b) pr (upd j 0 0) ac tx ev (mEbO ev on id b) mn pm := by
  obtain ⟨h1, h2, h3, h4, h5, h6, h7, h8, h9⟩ := h
  exact ⟨r_enableR h9 id, h1, h2, h3, h4, h5, h6, h7, h8, r_enable h9 id b⟩
theorem l_due (h : Rl k act txt F pr j ac tx ev on mn pm) (tick fr : Int32) : kDue F tick fr 8 0 (-1) = mDue ev on tick fr 256 (-1) ∧ Rl k act txt F pr (upd j 0 0) ac tx ev on mn pm := ⟨r_dueR h.2.2.2.2.2.2.2.2 tick fr, h.j0⟩
theorem l_parameter (h : Rl k act txt F pr j ac tx ev on mn pm) (id q : Int32) : kPaR F pr id q = mPaR ev mn pm id q ∧ Rl k act txt F pr (upd j 0 0) ac tx ev on mn pm := ⟨r_parameterR h.2.2.2.2.2.2.2.2 id q, h.j0⟩
theorem l_about (h : Rl k act txt F pr j ac tx ev on mn pm) (id w : Int32) : kAbR F id w = mAbR ev on id w ∧ Rl k act txt F pr (upd j 0 0) ac tx ev on mn pm := ⟨r_aboutR h.2.2.2.2.2.2.2.2 id w, h.j0⟩
theorem l_value (h : Rl k act txt F pr j ac tx ev on mn pm) (w : Int32) : kVaR k act w = mVaR j ac ev w ∧ Rl k act txt F pr (upd j 0 0) ac tx ev on mn pm := by
  refine ⟨?_, h.j0⟩
  obtain ⟨h1, h2, h3, h4, h5, h6, h7, h8, h9⟩ := h
  obtain ⟨-, -, -, -, -, hk, hcc⟩ := h9
  have h10 : k 8 = mCnt ev 256 0 0 := by rw [mCnt_eq, hk, hcc, Int32.zero_add]
  unfold kVaR mVaR
  rw [h1, h2, h3, h4, h7, h10]
  by_cases c1 : w < 0
  · rw [kA_neg c1, if_pos rfl, if_pos c1]
  · rw [if_neg c1]
    by_cases c2 : 8 ≤ w
    · rw [kA_big c2, if_pos rfl, if_pos c2]
    · rw [kA_mid c1 c2, if_neg (by decide), if_neg c2]
end REL3
theorem Rl_0 : Rl kK0 (fun _ => 0) (fun _ => 0) kF0 (fun _ _ => 0) mJ0 (fun _ => 0) (fun _ => 0) (fun _ => 0) (fun _ => 0) (fun _ => 0) (fun _ => 0) := by
  refine ⟨rfl, rfl, rfl, rfl, rfl, ⟨0, by omega, rfl⟩, rfl, rfl, ?_, ?_, ?_, ?_, ?_, ?_, ?_⟩
  · intro i _ h; exact absurd rfl h
  · intro d _ h; exact absurd (show (0 : Int32) ≤ 0 by decide) h
  · intro a b _ _ h; exact absurd rfl h
  · intro i _; show (0 : Int32).toInt ≤ 8; decide
  · intro d _; show (0 : Int32).toInt ≤ 8; decide
  · have h : cnt (tF kF0) 8 0 = 0 := by decide +kernel
    rw [h]; rfl
  · decide +kernel
