/-! Rows of my own: worlds in two parts, calls that get a whole part, arrays by a Nat index. -/
section MKB
variable {p : Program} {l : Launch} {e : Env} {R : Room} {s : State} {m : MethodId} {args : Array Value} {below : List Frame} {meth : Method} {c : Code} {H : Heap} {locs : List Loc} {cells slots : Nat} {Q : State → Prop}
variable {pc : Nat} {ls : Array Slot} {rest st0 : List Value} {a : Array Value} {A0 A1 : Nat → Prop} {H0 : Heap} {D : va_G} {cl : List vw_C} {tys : List (ClassId × FieldType)} {cc : ByteArray}
theorem g_left {X Y : va_W} {k : Nat} {q : Nat × va_E} (h : X[k]? = some q) : (X ++ Y)[k]? = some q := by
  rw [List.getElem?_append_left (List.getElem?_eq_some_iff.mp h).1]
  exact h
theorem g_right {X Y : va_W} {k : Nat} {q : Nat × va_E} (h : Y[k]? = some q) : (X ++ Y)[X.length + k]? = some q := by
  rw [List.getElem?_append_right (Nat.le_add_right _ _), Nat.add_sub_cancel_left]
  exact h
theorem g_PL {X Y : va_W} (h : va_P D cl (X ++ Y) H) : va_P D cl X H := fun k q hk => h k q (g_left hk)
theorem g_PR {X Y : va_W} (h : va_P D cl (X ++ Y) H) : va_P D cl Y H := fun k q hk => h _ q (g_right hk)
theorem g_DL {X Y : va_W} (h : va_D A0 (X ++ Y)) : va_D A0 X := ⟨fun i j p q h1 h2 e => h.1 i j p q (g_left h1) (g_left h2) e, fun k q hk => h.2 k q (g_left hk)⟩
theorem g_DR {X Y : va_W} (h : va_D A0 (X ++ Y)) : va_D A0 Y := ⟨fun i j p q h1 h2 e => Nat.add_left_cancel (h.1 _ _ p q (g_right h1) (g_right h2) e), fun k q hk => h.2 _ q (g_right hk)⟩
theorem g_DX {X Y : va_W} (h : va_D A0 (X ++ Y)) (i j : Nat) (p q : Nat × va_E) (h1 : X[i]? = some p) (h2 : Y[j]? = some q) : p.1 ≠ q.1 := fun z => by
  have h3 := h.1 _ _ p q (g_left h1) (g_right h2) z
  have h4 := (List.getElem?_eq_some_iff.mp h1).1
  omega
theorem g_swap {X Y : va_W} (h : va_D A0 (X ++ Y)) : va_D A0 (Y ++ X) := va_D.app (g_DR h) (g_DL h) (fun i j p q h1 h2 z => g_DX h j i q p h2 h1 z.symm)
/-- what a callee that gets the part X may change -/
theorem g_free {X : va_W} (hD : va_D A0 X) (hS : va_S A0 H0 H locs) (hA : ∀ q, H0.size ≤ q → A0 q) : ∀ q, va_A X H.size q → A0 q := by
  intro q hq
  rcases hq with ⟨k, e, hk⟩ | hq
  · exact hD.2 k (q, e) hk
  · exact hA q (Nat.le_trans hS.1 hq)
/-- behind a call that got X and left X': Y is as it was -/
theorem g_keep {X X' Y : va_W} {H1 : Heap} (hPY : va_P D cl Y H) (hD : va_D A0 (X ++ Y)) (hF : ∀ q, va_A X H.size q → A0 q) (hk : ∀ q : Nat, q < H.size → ¬ va_A X H.size q → H1[q]? = H[q]?) (hD1 : va_D (va_A X H.size) X') : va_P D cl Y H1 ∧ va_D A0 (X' ++ Y) := by
  have hlt : ∀ (k : Nat) (q : Nat × va_E), Y[k]? = some q → q.1 < H.size ∧ ¬ va_A X H.size q.1 := by
    intro k q hq
    have h1 := (hPY k q hq).lt
    refine ⟨h1, fun z => ?_⟩
    rcases z with ⟨i, e, hi⟩ | z
    · exact g_DX hD i k _ q hi hq rfl
    · omega
  refine ⟨hPY.kept (fun k q hq => hk q.1 (hlt k q hq).1 (hlt k q hq).2), va_D.app (hD1.weaken (fun _ _ _ h => hF _ h)) (g_DR hD) ?_⟩
  intro i j p q h1 h2 z
  have h3 := hD1.2 i p h1
  rw [z] at h3
  exact (hlt j q h2).2 h3
/-- the world behind a call -/
def gB (D : va_G) (cl : List vw_C) (A : Nat → Prop) (X : va_W) (t : State) : Prop := va_P D cl X t.heap ∧ va_D A X
/-- a call of an int method that gets the whole world -/
theorem g_calli {X X' : va_W} {post : Int32 → Prop} (hr : va_Run p l e R s m args below meth c H locs cells slots 0 0 (F0 m pc ls st0) rest (va_Qi (fun r (_ : Unit) => post r) (fun _ t => gB D cl (va_A X H.size) X' t) (va_A X H.size) a) (va_A X H.size)) (hD : va_D A0 X) (hS : va_S A0 H0 H locs) (hA : ∀ q, H0.size ≤ q → A0 q)
    (kk : ∀ (r : Int32) (H1 : Heap) (locs1 : List Loc), post r → va_P D cl X' H1 → va_D A0 X' → va_S A0 H0 H1 locs1 → W p l e R s m args below meth c H1 locs1 cells slots Q (F0 m (pc + 3) ls (.int r :: rest))) : W p l e R s m args below meth c H locs cells slots Q (F0 m pc ls st0) := by
  have hF := g_free hD hS hA
  refine va_calli hr hS (fun q _ h => hF q h) hF ?_
  intro r u t H1 locs1 ht hvm hw hB hz hk hS1
  obtain ⟨hP1, hD1⟩ := hB
  rw [ht] at hP1
  exact kk r H1 locs1 hw hP1 (hD1.weaken (fun _ _ _ h => hF _ h)) hS1
/-- the same, of a void method -/
theorem g_callv {X X' : va_W} (hr : va_Run p l e R s m args below meth c H locs cells slots 0 0 (F0 m pc ls st0) rest (va_Qv (fun (_ : Unit) => True) (fun _ t => gB D cl (va_A X H.size) X' t) (va_A X H.size) a) (va_A X H.size)) (hD : va_D A0 X) (hS : va_S A0 H0 H locs) (hA : ∀ q, H0.size ≤ q → A0 q)
    (kk : ∀ (H1 : Heap) (locs1 : List Loc), va_P D cl X' H1 → va_D A0 X' → va_S A0 H0 H1 locs1 → W p l e R s m args below meth c H1 locs1 cells slots Q (F0 m (pc + 3) ls rest)) : W p l e R s m args below meth c H locs cells slots Q (F0 m pc ls st0) := by
  have hF := g_free hD hS hA
  refine va_callv hr hS (fun q _ h => hF q h) hF ?_
  intro u t H1 locs1 ht hvm hw hB hz hk hS1
  obtain ⟨hP1, hD1⟩ := hB
  rw [ht] at hP1
  exact kk H1 locs1 hP1 (hD1.weaken (fun _ _ _ h => hF _ h)) hS1
/-- a call of an int method that gets the first part of the world -/
theorem g_calliL {X X' Y : va_W} {post : Int32 → Prop} (hr : va_Run p l e R s m args below meth c H locs cells slots 0 0 (F0 m pc ls st0) rest (va_Qi (fun r (_ : Unit) => post r) (fun _ t => gB D cl (va_A X H.size) X' t) (va_A X H.size) a) (va_A X H.size)) (hPY : va_P D cl Y H) (hD : va_D A0 (X ++ Y)) (hS : va_S A0 H0 H locs) (hA : ∀ q, H0.size ≤ q → A0 q)
    (kk : ∀ (r : Int32) (H1 : Heap) (locs1 : List Loc), post r → va_P D cl X' H1 → va_P D cl Y H1 → va_D A0 (X' ++ Y) → va_S A0 H0 H1 locs1 → W p l e R s m args below meth c H1 locs1 cells slots Q (F0 m (pc + 3) ls (.int r :: rest))) : W p l e R s m args below meth c H locs cells slots Q (F0 m pc ls st0) := by
  have hF := g_free (g_DL hD) hS hA
  refine va_calli hr hS (fun q _ h => hF q h) hF ?_
  intro r u t H1 locs1 ht hvm hw hB hz hk hS1
  obtain ⟨hP1, hD1⟩ := hB
  rw [ht] at hP1
  obtain ⟨h1, h2⟩ := g_keep hPY hD hF hk hD1
  exact kk r H1 locs1 hw hP1 h1 h2 hS1
/-- a call of an int method that gets the second part of the world -/
theorem g_calliR {X Y Y' : va_W} {post : Int32 → Prop} (hr : va_Run p l e R s m args below meth c H locs cells slots 0 0 (F0 m pc ls st0) rest (va_Qi (fun r (_ : Unit) => post r) (fun _ t => gB D cl (va_A Y H.size) Y' t) (va_A Y H.size) a) (va_A Y H.size)) (hPX : va_P D cl X H) (hD : va_D A0 (X ++ Y)) (hS : va_S A0 H0 H locs) (hA : ∀ q, H0.size ≤ q → A0 q)
    (kk : ∀ (r : Int32) (H1 : Heap) (locs1 : List Loc), post r → va_P D cl X H1 → va_P D cl Y' H1 → va_D A0 (X ++ Y') → va_S A0 H0 H1 locs1 → W p l e R s m args below meth c H1 locs1 cells slots Q (F0 m (pc + 3) ls (.int r :: rest))) : W p l e R s m args below meth c H locs cells slots Q (F0 m pc ls st0) := by
  have hF := g_free (g_DR hD) hS hA
  refine va_calli hr hS (fun q _ h => hF q h) hF ?_
  intro r u t H1 locs1 ht hvm hw hB hz hk hS1
  obtain ⟨hP1, hD1⟩ := hB
  rw [ht] at hP1
  obtain ⟨h1, h2⟩ := g_keep hPX (g_swap hD) hF hk hD1
  exact kk r H1 locs1 hw h1 hP1 (g_swap h2) hS1
/-- two arrays of ints are of one kind -/
theorem g_same {i j : Nat} {c1 c2 : ClassId} (hK : va_K D cl tys s) (h1 : tys[i]? = some (c1, .int)) (h2 : tys[j]? = some (c2, .int)) : c1 = c2 := by
  have a1 : s.vm.findClass ("[" ++ FieldType.int.toString) = some c1 := (hK.2 i _ h1).2
  have a2 : s.vm.findClass ("[" ++ FieldType.int.toString) = some c2 := (hK.2 j _ h2).2
  exact Option.some.inj (a1.symm.trans a2)
/-- a cell of an array of references, by a Nat index -/
theorem g_ald {ad : Nat} {ws : va_W} (hexec : p.tables.exec = Jvm.exec) (hb : c.code = cc) (hK : va_K D cl tys s) (hP : va_P D cl ws H) (q0 t0 : Nat) {cA : ClassId} {C : String} {n : Nat} {f : Nat → Option Nat} (ha : ws[q0]? = some (ad, .inl (cA, n, .inr (.inr (.inr (.inr f)))))) (ht : tys[t0]? = some (cA, .object C)) {i y : Nat} (hi : i < n) (hn : n < 2 ^ 31) (hf : f i = some y) (hdg : decode cc pc = .ok (.aaload, 1))
    (kk : W p l e R s m args below meth c H locs cells slots Q (F0 m (pc + 1) ls (.ref y :: rest))) : W p l e R s m args below meth c H locs cells slots Q (F0 m pc ls (.int (nI i) :: .ref ad :: rest)) := by
  refine va_aldq hexec hb hK hP q0 t0 ha ht (vp_in_nI hi hn) hdg ?_
  rw [nI_clamp (Nat.lt_trans hi hn), hf]
  exact kk
/-- an int of an array, by a Nat index -/
theorem g_ild {ad : Nat} {ws : va_W} (hexec : p.tables.exec = Jvm.exec) (hb : c.code = cc) (hK : va_K D cl tys s) (hP : va_P D cl ws H) (q0 t0 : Nat) {cA : ClassId} {n : Nat} {f : Nat → Int32} (ha : ws[q0]? = some (ad, .inl (cA, n, .inl f))) (ht : tys[t0]? = some (cA, .int)) {i : Nat} (hi : i < n) (hn : n < 2 ^ 31) (hdg : decode cc pc = .ok (.iaload, 1))
    (kk : W p l e R s m args below meth c H locs cells slots Q (F0 m (pc + 1) ls (.int (f i) :: rest))) : W p l e R s m args below meth c H locs cells slots Q (F0 m pc ls (.int (nI i) :: .ref ad :: rest)) := by
  refine va_iald hexec hb hK hP q0 t0 ha ht (vp_in_nI hi hn) hdg ?_
  rw [nI_clamp (Nat.lt_trans hi hn)]
  exact kk
theorem g_ist {ad : Nat} {ws : va_W} (hexec : p.tables.exec = Jvm.exec) (hb : c.code = cc) (hK : va_K D cl tys s) (hP : va_P D cl ws H) (hD : va_D A0 ws) (hS : va_S A0 H0 H locs) (q0 t0 : Nat) {cA : ClassId} {n : Nat} {f : Nat → Int32} (ha : ws[q0]? = some (ad, .inl (cA, n, .inl f))) (ht : tys[t0]? = some (cA, .int)) {i : Nat} {x : Int32} (hi : i < n) (hn : n < 2 ^ 31) (hdg : decode cc pc = .ok (.iastore, 1))
    (kk : ∀ (H1 : Heap) (locs1 : List Loc), va_P D cl (ws.set q0 (ad, .inl (cA, n, .inl (upd f i x)))) H1 → va_D A0 (ws.set q0 (ad, .inl (cA, n, .inl (upd f i x)))) → va_S A0 H0 H1 locs1 → W p l e R s m args below meth c H1 locs1 cells slots Q (F0 m (pc + 1) ls rest)) : W p l e R s m args below meth c H locs cells slots Q (F0 m pc ls (.int x :: .int (nI i) :: .ref ad :: rest)) := by
  refine va_iast hexec hb hK hP hD hS q0 t0 ha ht (vp_in_nI hi hn) hdg ?_
  rw [nI_clamp (Nat.lt_trans hi hn)]
  exact kk
end MKB
def up2 (F : Nat → Nat → Int32) (i j : Nat) (v : Int32) : Nat → Nat → Int32 := fun a b => if a = i then (if b = j then v else F a b) else F a b
theorem g_nar {x : Int32} (h : x = 0 ∨ x = 1) : narrow .boolean (.int x) = .int x := by
  rcases h with rfl | rfl <;> rfl
theorem g_fit {x : Int32} (h : x = 0 ∨ x = 1) : fits .boolean (.int x) = true := by
  rcases h with rfl | rfl <;> rfl
