/-! What the reference's methods answer and do. j: its own fields by their place (0 thrown, 1 mode, 3 alarmed, 4 alarm tick, 5 changes, 6 size); ac, tx: actuators and text; ev, on, mn: every, on, many by id; pm: parameters. -/
def mMvR (j : Nat → Int32) (a : Int32) : Int32 := if a < 0 then 18 else if a ≤ 7 then (if j 1 = 0 then 19 else 0) else 18
def mMvA (j ac : Nat → Int32) (a v : Int32) : Nat → Int32 := if a < 0 then ac else if a ≤ 7 then (if j 1 = 0 then ac else upd ac a.toNatClampNeg v) else ac
def mSafe (ac : Nat → Int32) : Nat → Int32 := upd (upd (upd (upd (upd (upd (upd (upd ac 0 0) 1 0) 2 0) 3 0) 4 50) 5 50) 6 100) 7 1
def mBeR (j : Nat → Int32) (m : Int32) : Int32 := if m = j 1 then 0 else 1
def mBeJ (j : Nat → Int32) (m : Int32) : Nat → Int32 := if m = j 1 then upd (upd j 1 m) 5 (j 5 + 0) else upd (upd j 1 m) 5 (j 5 + 1)
def mBeA (j ac : Nat → Int32) (m : Int32) : Nat → Int32 := if m = j 1 then ac else if m = 0 then mSafe ac else ac
def mEnR (j : Nat → Int32) (m : Int32) : Int32 := if m < 0 then 18 else if m ≤ 2 then (if j 1 = 0 then (if m = 2 then 19 else 0) else 0) else 18
def mEnJ (j : Nat → Int32) (m : Int32) : Nat → Int32 := if m < 0 then upd j 0 0 else if m ≤ 2 then (if j 1 = 0 then (if m = 2 then upd j 0 0 else mBeJ (upd j 0 0) m) else mBeJ (upd j 0 0) m) else upd j 0 0
def mEnA (j ac : Nat → Int32) (m : Int32) : Nat → Int32 := if m < 0 then ac else if m ≤ 2 then (if j 1 = 0 then (if m = 2 then ac else mBeA (upd j 0 0) ac m) else mBeA (upd j 0 0) ac m) else ac
def mAlR (j : Nat → Int32) : Int32 := if j 3 = 0 then 1 else 0
def mAlJ (j : Nat → Int32) (t : Int32) : Nat → Int32 := if j 3 = 0 then upd (upd (upd j 0 0) 3 1) 4 t else upd j 0 0
def mLkR (j : Nat → Int32) (t : Int32) : Int32 := if j 3 = 0 then 0 else if j 4 ≤ t then mBeR (upd (upd j 0 0) 3 0) 0 else 0
def mLkJ (j : Nat → Int32) (t : Int32) : Nat → Int32 := if j 3 = 0 then upd j 0 0 else if j 4 ≤ t then mBeJ (upd (upd j 0 0) 3 0) 0 else upd j 0 0
def mLkA (j ac : Nat → Int32) (t : Int32) : Nat → Int32 := if j 3 = 0 then ac else if j 4 ≤ t then mBeA (upd (upd j 0 0) 3 0) ac 0 else ac
def mTh (ev : Nat → Int32) (id : Int32) : Int32 := if id < 0 then 0 else if 256 ≤ id then 0 else if ev id.toNatClampNeg ≤ 0 then 0 else 1
def mCnt (ev : Nat → Int32) : Nat → Nat → Int32 → Int32
  | 0, _, x => x
  | n + 1, i, x => if ev i ≤ 0 then mCnt ev n (i + 1) (x + 0) else mCnt ev n (i + 1) (x + 1)
def mPuR (j : Nat → Int32) (x : Int32) : Int32 := if x < 0 then -1 else if 31 < x then -1 else if j 6 = 8 then -1 else j 6 + 1
def mPuJ (j : Nat → Int32) (x : Int32) : Nat → Int32 := if x < 0 then upd j 0 0 else if 31 < x then upd j 0 0 else if j 6 = 8 then upd j 0 0 else upd (upd j 0 0) 6 (j 6 + 1)
def mPuT (j tx : Nat → Int32) (x : Int32) : Nat → Int32 := if x < 0 then tx else if 31 < x then tx else if j 6 = 8 then tx else upd tx (j 6).toNatClampNeg x
def mCpy (tx : Nat → Int32) (b : Nat) : Nat → Nat → (Nat → Int32) → Nat → Int32
  | 0, _, pm => pm
  | n + 1, i, pm => mCpy tx b n (i + 1) (upd pm (b + i) (tx i))
def mFail (j ev : Nat → Int32) (id e : Int32) : Int32 := if j 6 = 0 then 13 else if e < 1 then 13 else if 255 < e then 13 else if id < 0 then 13 else if id ≤ 255 then (if ev id.toNatClampNeg ≤ 0 then (if mCnt ev 256 0 0 = 8 then 12 else 0) else 11) else 13
def mFoE (j ev : Nat → Int32) (id e : Int32) : Nat → Int32 := if mFail j ev id e = 0 then upd ev id.toNatClampNeg e else ev
def mFoO (j ev on : Nat → Int32) (id e : Int32) : Nat → Int32 := if mFail j ev id e = 0 then upd on id.toNatClampNeg 0 else on
def mFoN (j ev mn : Nat → Int32) (id e : Int32) : Nat → Int32 := if mFail j ev id e = 0 then upd mn id.toNatClampNeg (j 6) else mn
def mFoP (j tx ev pm : Nat → Int32) (id e : Int32) : Nat → Int32 := if mFail j ev id e = 0 then mCpy tx (8 * id.toNatClampNeg) (j 6).toNatClampNeg 0 pm else pm
def mReR (ev on : Nat → Int32) (id : Int32) : Int32 := if mTh ev id = 0 then 14 else if on id.toNatClampNeg = 0 then 0 else 15
def mReE (ev on : Nat → Int32) (id : Int32) : Nat → Int32 := if mTh ev id = 0 then ev else if on id.toNatClampNeg = 0 then upd ev id.toNatClampNeg 0 else ev
def mEbR (ev : Nat → Int32) (id : Int32) : Int32 := if mTh ev id = 0 then 14 else 0
def mEbO (ev on : Nat → Int32) (id b : Int32) : Nat → Int32 := if mTh ev id = 0 then on else upd on id.toNatClampNeg b
def mDue (ev on : Nat → Int32) (tick fr : Int32) : Nat → Int32 → Int32
  | 0, x => x
  | n + 1, x => if nI n < fr then x else if ev n ≤ 0 then mDue ev on tick fr n x else if on n = 0 then mDue ev on tick fr n x else if tick - tick / ev n * ev n = 0 then mDue ev on tick fr n (nI n) else mDue ev on tick fr n x
def mPaR (ev mn pm : Nat → Int32) (id k : Int32) : Int32 := if mTh ev id = 0 then -1 else if k < -1 then -1 else if k < mn id.toNatClampNeg then (if 0 ≤ k then pm (8 * id + k).toNatClampNeg else mn id.toNatClampNeg) else -1
def mVaR (j ac ev : Nat → Int32) (w : Int32) : Int32 := if w < 0 then (if w = 8 then j 1 else if w = 9 then (if j 3 = 0 then -1 else j 4) else if w = 10 then j 5 else if w = 11 then mCnt ev 256 0 0 else 0) else if 8 ≤ w then (if w = 8 then j 1 else if w = 9 then (if j 3 = 0 then -1 else j 4) else if w = 10 then j 5 else if w = 11 then mCnt ev 256 0 0 else 0) else ac w.toNatClampNeg
def mAbR (ev on : Nat → Int32) (id w : Int32) : Int32 := if mTh ev id = 0 then -1 else if w = 0 then ev id.toNatClampNeg else if w = 1 then (if on id.toNatClampNeg = 0 then 0 else 1) else -1
theorem m_in {x : Int32} {n : Nat} {N : Int32} (hN : N.toInt = n) (h1 : ¬ x < 0) (h2 : ¬ N ≤ x) : vp_in x n := by
  rw [vp_in_iff]
  have h3 := Int32.not_lt.mp h1
  have h4 := Int32.not_le.mp h2
  rw [Int32.le_iff_toInt_le] at h3
  rw [Int32.lt_iff_toInt_lt] at h4
  exact ⟨h3, by omega⟩
theorem m_in2 {x : Int32} {n : Nat} {N : Int32} (hN : N.toInt + 1 = n) (h1 : ¬ x < 0) (h2 : x ≤ N) : vp_in x n := by
  rw [vp_in_iff]
  have h3 := Int32.not_lt.mp h1
  rw [Int32.le_iff_toInt_le] at h3 h2
  exact ⟨h3, by omega⟩
theorem mTh_in {ev : Nat → Int32} {id : Int32} (h : ¬ mTh ev id = 0) : vp_in id 256 := by
  unfold mTh at h
  by_cases h1 : id < 0
  · rw [if_pos h1] at h; exact absurd rfl h
  · rw [if_neg h1] at h
    by_cases h2 : 256 ≤ id
    · rw [if_pos h2] at h; exact absurd rfl h
    · exact m_in (by decide) h1 h2
theorem mBeR_01 (j : Nat → Int32) (m : Int32) : mBeR j m = 0 ∨ mBeR j m = 1 := by
  unfold mBeR
  split
  · exact Or.inl rfl
  · exact Or.inr rfl
theorem m_nar {x : Int32} (h : x = 0 ∨ x = 1) : vp_nar .boolean x = x := by
  rcases h with rfl | rfl <;> rfl
theorem m_ix {id k : Int32} {n : Int32} (h : n.toInt ≤ 8) (hid : vp_in id 256) (h1 : 0 ≤ k) (h2 : k < n) : vp_in (8 * id + k) 2048 := by
  obtain ⟨d, hd, rfl⟩ := vp_in_of hid (by decide)
  have h1' : ¬ k < 0 := Int32.not_lt.mpr h1
  obtain ⟨e, he, rfl⟩ := vp_in_of (kP_in h h1' h2) (by decide)
  rw [show (8 : Int32) * nI d + nI e = nI (8 * d + e) from by rw [show (8 : Int32) = nI 8 from rfl, pk_mul, nI_add]]
  exact vp_in_nI (by omega) (by decide)
/-! The reference's world: seven cells. -/
def tyM (cI cZ : ClassId) : List (ClassId × FieldType) := [(cI, .int), (cZ, .boolean)]
def wM (bd : Nat → Nat) (cI cZ : ClassId) (j ac tx ev on mn pm : Nat → Int32) : va_W :=
  [(bd 0, .inr (2, [.int (j 0), .int (j 1), .ref (bd 1), .int (j 3), .int (j 4), .int (j 5), .int (j 6), .ref (bd 2), .ref (bd 3), .ref (bd 4), .ref (bd 5), .ref (bd 6)])), (bd 1, .inl (cI, 8, .inl ac)), (bd 2, .inl (cI, 8, .inl tx)), (bd 3, .inl (cI, 256, .inl ev)), (bd 4, .inl (cZ, 256, .inl on)), (bd 5, .inl (cI, 256, .inl mn)), (bd 6, .inl (cI, 2048, .inl pm))]
section MKM
variable {p : Program} {l : Launch} {e : Env} {R : Room} {s : State} {m : MethodId} {args : Array Value} {below : List Frame} {meth : Method} {c : Code} {H : Heap} {locs : List Loc} {cells slots : Nat} {Q : State → Prop}
variable {pc : Nat} {ls : Array Slot} {rest st0 : List Value} {D : va_G} {cl : List vw_C} {tys : List (ClassId × FieldType)} {cc : ByteArray}
theorem g_zld {ad : Nat} {ws : va_W} (hexec : p.tables.exec = Jvm.exec) (hb : c.code = cc) (hK : va_K D cl tys s) (hP : va_P D cl ws H) (q0 t0 : Nat) {cA : ClassId} {n : Nat} {f : Nat → Int32} (ha : ws[q0]? = some (ad, .inl (cA, n, .inl f))) (ht : tys[t0]? = some (cA, .boolean)) {i : Nat} (hi : i < n) (hn : n < 2 ^ 31) (hdg : decode cc pc = .ok (.baload, 1))
    (kk : W p l e R s m args below meth c H locs cells slots Q (F0 m (pc + 1) ls (.int (f i) :: rest))) : W p l e R s m args below meth c H locs cells slots Q (F0 m pc ls (.int (nI i) :: .ref ad :: rest)) := by
  refine va_zald hexec hb hK hP q0 t0 ha ht (vp_in_nI hi hn) hdg ?_
  rw [nI_clamp (Nat.lt_trans hi hn)]
  exact kk
end MKM
theorem vp_lt {x : Int32} {n : Nat} (h : vp_in x n) : x.toNatClampNeg < n := Nat.not_le.mp (fun z => h (Or.inr z))
def mJ0 : Nat → Int32 := fun j => if j = 1 then 1 else 0
