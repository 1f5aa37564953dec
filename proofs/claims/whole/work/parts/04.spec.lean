/-! What the keeper's methods answer and do, as functions of its cells. k: its own fields by their place (1 mode, 2 changes, 3 alarm set, 4 alarm tick, 6 text count, 8 form count); act, txt: its int arrays; F i j: field j of place i (0 there, 1 id, 2 every, 3 on, 4 count); pr i: its parameters. -/
def kA (a : Int32) : Int32 := if a < 0 then 0 else if 8 ≤ a then 0 else 1
def kD (e t : Int32) : Int32 := if e ≤ 0 then 0 else if t - t / e * e = 0 then 1 else 0
def kFind (F : Nat → Nat → Int32) (id : Int32) : Nat → Nat → Option Nat
  | 0, _ => none
  | n + 1, i => if F i 0 = 0 then kFind F id n (i + 1) else if F i 1 = id then some i else kFind F id n (i + 1)
def kFree (F : Nat → Nat → Int32) : Nat → Nat → Option Nat
  | 0, _ => none
  | n + 1, i => if F i 0 = 0 then some i else kFree F n (i + 1)
def kDue (F : Nat → Nat → Int32) (tick fr : Int32) : Nat → Nat → Int32 → Int32
  | 0, _, x => x
  | n + 1, i, x => if F i 0 = 0 then kDue F tick fr n (i + 1) x else if F i 3 = 0 then kDue F tick fr n (i + 1) x else if F i 1 < fr then kDue F tick fr n (i + 1) x else if kD (F i 2) tick = 0 then kDue F tick fr n (i + 1) x else if x = -1 then kDue F tick fr n (i + 1) (F i 1) else if x ≤ F i 1 then kDue F tick fr n (i + 1) x else kDue F tick fr n (i + 1) (F i 1)
def kMvR (k : Nat → Int32) (a : Int32) : Int32 := if kA a = 0 then 18 else if k 1 = 0 then 19 else 0
def kMvA (k act : Nat → Int32) (a v : Int32) : Nat → Int32 := if kA a = 0 then act else if k 1 = 0 then act else upd act a.toNatClampNeg v
def kSafe : Nat → Int32 := fun j => ([0, 0, 0, 0, 50, 50, 100, 1] : List Int32).getD j 0
def kChR (k : Nat → Int32) (m : Int32) : Int32 := if k 1 = m then 0 else 1
def kChK (k : Nat → Int32) (m : Int32) : Nat → Int32 := if k 1 = m then k else upd (upd k 1 m) 2 (k 2 + 1)
def kChA (k act : Nat → Int32) (m : Int32) : Nat → Int32 := if k 1 = m then act else if m = 0 then va_cpy kSafe act 0 0 8 else act
def kEnR (k : Nat → Int32) (m : Int32) : Int32 := if m < 0 then 18 else if m ≤ 2 then (if k 1 = 0 then (if m = 2 then 19 else 0) else 0) else 18
def kEnK (k : Nat → Int32) (m : Int32) : Nat → Int32 := if m < 0 then k else if m ≤ 2 then (if k 1 = 0 then (if m = 2 then k else kChK k m) else kChK k m) else k
def kEnA (k act : Nat → Int32) (m : Int32) : Nat → Int32 := if m < 0 then act else if m ≤ 2 then (if k 1 = 0 then (if m = 2 then act else kChA k act m) else kChA k act m) else act
def kAlR (k : Nat → Int32) : Int32 := if k 3 = 0 then 1 else 0
def kAlK (k : Nat → Int32) (t : Int32) : Nat → Int32 := if k 3 = 0 then upd (upd k 3 1) 4 t else k
def kLkR (k : Nat → Int32) (t : Int32) : Int32 := if k 3 = 0 then 0 else if k 4 ≤ t then kChR (upd k 3 0) 0 else 0
def kLkK (k : Nat → Int32) (t : Int32) : Nat → Int32 := if k 3 = 0 then k else if k 4 ≤ t then kChK (upd k 3 0) 0 else k
def kLkA (k act : Nat → Int32) (t : Int32) : Nat → Int32 := if k 3 = 0 then act else if k 4 ≤ t then kChA (upd k 3 0) act 0 else act
def kPuR (k : Nat → Int32) (x : Int32) : Int32 := if x < 0 then -1 else if 31 < x then -1 else if k 6 < 8 then k 6 + 1 else -1
def kPuK (k : Nat → Int32) (x : Int32) : Nat → Int32 := if x < 0 then k else if 31 < x then k else if k 6 < 8 then upd k 6 (k 6 + 1) else k
def kPuT (k txt : Nat → Int32) (x : Int32) : Nat → Int32 := if x < 0 then txt else if 31 < x then txt else if k 6 < 8 then upd txt (k 6).toNatClampNeg x else txt
def kFail (k : Nat → Int32) (F : Nat → Nat → Int32) (id ev : Int32) : Int32 := if k 6 = 0 then 13 else if ev < 1 then 13 else if 255 < ev then 13 else if id < 0 then 13 else if id ≤ 255 then (match kFind F id 8 0 with | some _ => 11 | none => if k 8 < 8 then 0 else 12) else 13
def kFiK (k : Nat → Int32) (F : Nat → Nat → Int32) : Nat → Int32 := match kFree F 8 0 with | some _ => upd k 8 (k 8 + 1) | none => k
def kFiF (k : Nat → Int32) (F : Nat → Nat → Int32) (id ev : Int32) : Nat → Nat → Int32 := match kFree F 8 0 with | some i => up2 (up2 (up2 (up2 (up2 F i 0 1) i 1 id) i 2 ev) i 3 0) i 4 (k 6) | none => F
def kFiP (k txt : Nat → Int32) (F pr : Nat → Nat → Int32) : Nat → Nat → Int32 := match kFree F 8 0 with | some i => va_up pr i (va_cpy txt (pr i) 0 0 (k 6).toNatClampNeg) | none => pr
def kFoK (k : Nat → Int32) (F : Nat → Nat → Int32) (id ev : Int32) : Nat → Int32 := upd (if kFail k F id ev = 0 then kFiK k F else k) 6 0
def kFoF (k : Nat → Int32) (F : Nat → Nat → Int32) (id ev : Int32) : Nat → Nat → Int32 := if kFail k F id ev = 0 then kFiF k F id ev else F
def kFoP (k txt : Nat → Int32) (F pr : Nat → Nat → Int32) (id ev : Int32) : Nat → Nat → Int32 := if kFail k F id ev = 0 then kFiP k txt F pr else pr
def kReR (F : Nat → Nat → Int32) (id : Int32) : Int32 := match kFind F id 8 0 with | none => 14 | some i => if F i 3 = 0 then 0 else 15
def kReK (k : Nat → Int32) (F : Nat → Nat → Int32) (id : Int32) : Nat → Int32 := match kFind F id 8 0 with | none => k | some i => if F i 3 = 0 then upd k 8 (k 8 - 1) else k
def kReF (F : Nat → Nat → Int32) (id : Int32) : Nat → Nat → Int32 := match kFind F id 8 0 with | none => F | some i => if F i 3 = 0 then up2 F i 0 0 else F
def kEbR (F : Nat → Nat → Int32) (id : Int32) : Int32 := match kFind F id 8 0 with | none => 14 | some _ => 0
def kEbF (F : Nat → Nat → Int32) (id on : Int32) : Nat → Nat → Int32 := match kFind F id 8 0 with | none => F | some i => up2 F i 3 on
def kPaR (F pr : Nat → Nat → Int32) (id j : Int32) : Int32 := match kFind F id 8 0 with | none => -1 | some i => if j = -1 then F i 4 else if j < 0 then -1 else if j < F i 4 then pr i j.toNatClampNeg else -1
def kVaR (k act : Nat → Int32) (w : Int32) : Int32 := if kA w = 0 then (if w = 8 then k 1 else if w = 9 then (if k 3 = 0 then -1 else k 4) else if w = 10 then k 2 else if w = 11 then k 8 else 0) else act w.toNatClampNeg
def kAbR (F : Nat → Nat → Int32) (id w : Int32) : Int32 := match kFind F id 8 0 with | none => -1 | some i => if w = 0 then F i 2 else if w = 1 then (if F i 3 = 0 then 0 else 1) else -1
theorem kA_in {a : Int32} (h : ¬ kA a = 0) : vp_in a 8 := by
  unfold kA at h
  by_cases h1 : a < 0
  · rw [if_pos h1] at h; exact absurd rfl h
  · rw [if_neg h1] at h
    by_cases h2 : 8 ≤ a
    · rw [if_pos h2] at h; exact absurd rfl h
    · rw [vp_in_iff]
      have h3 := Int32.not_lt.mp h1
      have h4 := Int32.not_le.mp h2
      rw [Int32.le_iff_toInt_le] at h3
      rw [Int32.lt_iff_toInt_lt] at h4
      exact ⟨h3, h4⟩
theorem kA_01 (a : Int32) : kA a = 0 ∨ kA a = 1 := by
  unfold kA
  split
  · exact Or.inl rfl
  · split
    · exact Or.inl rfl
    · exact Or.inr rfl
theorem kD_01 (e t : Int32) : kD e t = 0 ∨ kD e t = 1 := by
  unfold kD
  split
  · exact Or.inl rfl
  · split
    · exact Or.inr rfl
    · exact Or.inl rfl
theorem kChR_01 (k : Nat → Int32) (m : Int32) : kChR k m = 0 ∨ kChR k m = 1 := by
  unfold kChR
  split
  · exact Or.inl rfl
  · exact Or.inr rfl
theorem kFind_some {F : Nat → Nat → Int32} {id : Int32} : ∀ {n i j : Nat}, kFind F id n i = some j → i ≤ j ∧ j < i + n ∧ ¬ F j 0 = 0 ∧ F j 1 = id := by
  intro n
  induction n with
  | zero => intro i j h; cases h
  | succ n ih =>
    intro i j h
    unfold kFind at h
    by_cases h1 : F i 0 = 0
    · rw [if_pos h1] at h
      obtain ⟨a, b, c, d⟩ := ih h
      exact ⟨by omega, by omega, c, d⟩
    · rw [if_neg h1] at h
      by_cases h2 : F i 1 = id
      · rw [if_pos h2] at h
        cases h
        exact ⟨Nat.le_refl _, by omega, h1, h2⟩
      · rw [if_neg h2] at h
        obtain ⟨a, b, c, d⟩ := ih h
        exact ⟨by omega, by omega, c, d⟩
theorem kFree_some {F : Nat → Nat → Int32} : ∀ {n i j : Nat}, kFree F n i = some j → i ≤ j ∧ j < i + n ∧ F j 0 = 0 := by
  intro n
  induction n with
  | zero => intro i j h; cases h
  | succ n ih =>
    intro i j h
    unfold kFree at h
    by_cases h1 : F i 0 = 0
    · rw [if_pos h1] at h
      cases h
      exact ⟨Nat.le_refl _, by omega, h1⟩
    · rw [if_neg h1] at h
      obtain ⟨a, b, c⟩ := ih h
      exact ⟨by omega, by omega, c⟩
