/-! The keeper's world: twenty cells at ad 0 .. ad 19. -/
def gR (ad : Nat → Nat) : Nat → Option Nat := fun j => if j < 8 then some (ad (4 + j)) else none
def tyK (cI cF : ClassId) : List (ClassId × FieldType) := [(cI, .int), (cF, .object "ModeKeeper$Form")]
def wK (ad : Nat → Nat) (cI cF : ClassId) (k act txt : Nat → Int32) (F pr : Nat → Nat → Int32) : va_W :=
  [(ad 0, .inr (0, [.ref (ad 1), .int (k 1), .int (k 2), .int (k 3), .int (k 4), .ref (ad 2), .int (k 6), .ref (ad 3), .int (k 8)])), (ad 1, .inl (cI, 8, .inl act)), (ad 2, .inl (cI, 8, .inl txt)), (ad 3, .inl (cF, 8, .inr (.inr (.inr (.inr (gR ad)))))), (ad 4, .inr (1, [.int (F 0 0), .int (F 0 1), .int (F 0 2), .int (F 0 3), .int (F 0 4), .ref (ad 12)])), (ad 5, .inr (1, [.int (F 1 0), .int (F 1 1), .int (F 1 2), .int (F 1 3), .int (F 1 4), .ref (ad 13)])), (ad 6, .inr (1, [.int (F 2 0), .int (F 2 1), .int (F 2 2), .int (F 2 3), .int (F 2 4), .ref (ad 14)])), (ad 7, .inr (1, [.int (F 3 0), .int (F 3 1), .int (F 3 2), .int (F 3 3), .int (F 3 4), .ref (ad 15)])), (ad 8, .inr (1, [.int (F 4 0), .int (F 4 1), .int (F 4 2), .int (F 4 3), .int (F 4 4), .ref (ad 16)])), (ad 9, .inr (1, [.int (F 5 0), .int (F 5 1), .int (F 5 2), .int (F 5 3), .int (F 5 4), .ref (ad 17)])), (ad 10, .inr (1, [.int (F 6 0), .int (F 6 1), .int (F 6 2), .int (F 6 3), .int (F 6 4), .ref (ad 18)])), (ad 11, .inr (1, [.int (F 7 0), .int (F 7 1), .int (F 7 2), .int (F 7 3), .int (F 7 4), .ref (ad 19)])), (ad 12, .inl (cI, 8, .inl (pr 0))), (ad 13, .inl (cI, 8, .inl (pr 1))), (ad 14, .inl (cI, 8, .inl (pr 2))), (ad 15, .inl (cI, 8, .inl (pr 3))), (ad 16, .inl (cI, 8, .inl (pr 4))), (ad 17, .inl (cI, 8, .inl (pr 5))), (ad 18, .inl (cI, 8, .inl (pr 6))), (ad 19, .inl (cI, 8, .inl (pr 7)))]
def kK0 : Nat → Int32 := fun j => if j = 1 then 1 else 0
def kF0 : Nat → Nat → Int32 := fun _ j => if j = 2 then 1 else 0
theorem wK_at {ad : Nat → Nat} {cI cF : ClassId} {k act txt : Nat → Int32} {F pr : Nat → Nat → Int32} {i : Nat} (hi : i < 8) : (wK ad cI cF k act txt F pr)[4 + i]? = some (ad (4 + i), .inr (1, [.int (F i 0), .int (F i 1), .int (F i 2), .int (F i 3), .int (F i 4), .ref (ad (12 + i))])) := by
  match i, hi with
  | 0, _ => rfl
  | 1, _ => rfl
  | 2, _ => rfl
  | 3, _ => rfl
  | 4, _ => rfl
  | 5, _ => rfl
  | 6, _ => rfl
  | 7, _ => rfl
  | n + 8, h => exact absurd h (by omega)
theorem wK_pat {ad : Nat → Nat} {cI cF : ClassId} {k act txt : Nat → Int32} {F pr : Nat → Nat → Int32} {i : Nat} (hi : i < 8) : (wK ad cI cF k act txt F pr)[12 + i]? = some (ad (12 + i), .inl (cI, 8, .inl (pr i))) := by
  match i, hi with
  | 0, _ => rfl
  | 1, _ => rfl
  | 2, _ => rfl
  | 3, _ => rfl
  | 4, _ => rfl
  | 5, _ => rfl
  | 6, _ => rfl
  | 7, _ => rfl
  | n + 8, h => exact absurd h (by omega)
theorem wK_set0 {ad : Nat → Nat} {cI cF : ClassId} {k act txt : Nat → Int32} {F pr : Nat → Nat → Int32} {i : Nat} {v : Int32} (hi : i < 8) : (wK ad cI cF k act txt F pr).set (4 + i) (ad (4 + i), .inr (1, [.int (F i 0), .int (F i 1), .int (F i 2), .int (F i 3), .int (F i 4), .ref (ad (12 + i))].set 0 (.int v))) = wK ad cI cF k act txt (up2 F i 0 v) pr := by
  match i, hi with
  | 0, _ => rfl
  | 1, _ => rfl
  | 2, _ => rfl
  | 3, _ => rfl
  | 4, _ => rfl
  | 5, _ => rfl
  | 6, _ => rfl
  | 7, _ => rfl
  | n + 8, h => exact absurd h (by omega)
theorem wK_set1 {ad : Nat → Nat} {cI cF : ClassId} {k act txt : Nat → Int32} {F pr : Nat → Nat → Int32} {i : Nat} {v : Int32} (hi : i < 8) : (wK ad cI cF k act txt F pr).set (4 + i) (ad (4 + i), .inr (1, [.int (F i 0), .int (F i 1), .int (F i 2), .int (F i 3), .int (F i 4), .ref (ad (12 + i))].set 1 (.int v))) = wK ad cI cF k act txt (up2 F i 1 v) pr := by
  match i, hi with
  | 0, _ => rfl
  | 1, _ => rfl
  | 2, _ => rfl
  | 3, _ => rfl
  | 4, _ => rfl
  | 5, _ => rfl
  | 6, _ => rfl
  | 7, _ => rfl
  | n + 8, h => exact absurd h (by omega)
theorem wK_set2 {ad : Nat → Nat} {cI cF : ClassId} {k act txt : Nat → Int32} {F pr : Nat → Nat → Int32} {i : Nat} {v : Int32} (hi : i < 8) : (wK ad cI cF k act txt F pr).set (4 + i) (ad (4 + i), .inr (1, [.int (F i 0), .int (F i 1), .int (F i 2), .int (F i 3), .int (F i 4), .ref (ad (12 + i))].set 2 (.int v))) = wK ad cI cF k act txt (up2 F i 2 v) pr := by
  match i, hi with
  | 0, _ => rfl
  | 1, _ => rfl
  | 2, _ => rfl
  | 3, _ => rfl
  | 4, _ => rfl
  | 5, _ => rfl
  | 6, _ => rfl
  | 7, _ => rfl
  | n + 8, h => exact absurd h (by omega)
theorem wK_set3 {ad : Nat → Nat} {cI cF : ClassId} {k act txt : Nat → Int32} {F pr : Nat → Nat → Int32} {i : Nat} {v : Int32} (hi : i < 8) : (wK ad cI cF k act txt F pr).set (4 + i) (ad (4 + i), .inr (1, [.int (F i 0), .int (F i 1), .int (F i 2), .int (F i 3), .int (F i 4), .ref (ad (12 + i))].set 3 (.int v))) = wK ad cI cF k act txt (up2 F i 3 v) pr := by
  match i, hi with
  | 0, _ => rfl
  | 1, _ => rfl
  | 2, _ => rfl
  | 3, _ => rfl
  | 4, _ => rfl
  | 5, _ => rfl
  | 6, _ => rfl
  | 7, _ => rfl
  | n + 8, h => exact absurd h (by omega)
theorem wK_set4 {ad : Nat → Nat} {cI cF : ClassId} {k act txt : Nat → Int32} {F pr : Nat → Nat → Int32} {i : Nat} {v : Int32} (hi : i < 8) : (wK ad cI cF k act txt F pr).set (4 + i) (ad (4 + i), .inr (1, [.int (F i 0), .int (F i 1), .int (F i 2), .int (F i 3), .int (F i 4), .ref (ad (12 + i))].set 4 (.int v))) = wK ad cI cF k act txt (up2 F i 4 v) pr := by
  match i, hi with
  | 0, _ => rfl
  | 1, _ => rfl
  | 2, _ => rfl
  | 3, _ => rfl
  | 4, _ => rfl
  | 5, _ => rfl
  | 6, _ => rfl
  | 7, _ => rfl
  | n + 8, h => exact absurd h (by omega)
theorem wK_pset {ad : Nat → Nat} {cI cF : ClassId} {k act txt : Nat → Int32} {F pr : Nat → Nat → Int32} {i : Nat} {g : Nat → Int32} (hi : i < 8) : (wK ad cI cF k act txt F pr).set (12 + i) (ad (12 + i), .inl (cI, 8, .inl g)) = wK ad cI cF k act txt F (va_up pr i g) := by
  match i, hi with
  | 0, _ => rfl
  | 1, _ => rfl
  | 2, _ => rfl
  | 3, _ => rfl
  | 4, _ => rfl
  | 5, _ => rfl
  | 6, _ => rfl
  | 7, _ => rfl
  | n + 8, h => exact absurd h (by omega)
theorem gR_8 (h0 q1 q2 q3 f0 f1 f2 f3 f4 f5 f6 f7 p0 p1 p2 p3 p4 p5 p6 p7 : Nat) : ((va_up (va_up (va_up (va_up (va_up (va_up (va_up (va_up (fun _ => none) 0 (some f0)) 1 (some f1)) 2 (some f2)) 3 (some f3)) 4 (some f4)) 5 (some f5)) 6 (some f6)) 7 (some f7)) : Nat → Option Nat) = gR (fun j => ([h0, q1, q2, q3, f0, f1, f2, f3, f4, f5, f6, f7, p0, p1, p2, p3, p4, p5, p6, p7] : List Nat).getD j 0) := by
  funext j
  match j with
  | 0 => rfl
  | 1 => rfl
  | 2 => rfl
  | 3 => rfl
  | 4 => rfl
  | 5 => rfl
  | 6 => rfl
  | 7 => rfl
  | n + 8 =>
    unfold gR
    rw [if_neg (by omega)]
    simp only [va_up]
    rw [if_neg (by omega), if_neg (by omega), if_neg (by omega), if_neg (by omega), if_neg (by omega), if_neg (by omega), if_neg (by omega), if_neg (by omega)]
theorem kP_in {j n : Int32} (h : n.toInt ≤ 8) (h1 : ¬ j < 0) (h2 : j < n) : vp_in j 8 := by
  rw [vp_in_iff]
  have h3 := Int32.not_lt.mp h1
  rw [Int32.le_iff_toInt_le] at h3
  rw [Int32.lt_iff_toInt_lt] at h2
  exact ⟨h3, by omega⟩
section MKW
variable {p : Program} {l : Launch} {e : Env} {R : Room} {s : State} {m : MethodId} {args : Array Value} {below : List Frame} {meth : Method} {c : Code} {H : Heap} {locs : List Loc} {cells slots : Nat} {Q : State → Prop}
variable {pc : Nat} {ls : Array Slot} {rest st0 : List Value} {a : Array Value} {A0 A1 : Nat → Prop} {H0 : Heap} {D : va_G} {cl : List vw_C} {tys : List (ClassId × FieldType)} {cc : ByteArray} {X : va_W} {av : List Value} {sz tS : Nat}
/-- words of the tables on nest mates, which a caller hands on -/
def gN (U : State) : Prop := va_Nw (.fieldLinkNest R_ModeKeeper 65 "ModeKeeper$Form" "there" "Z" "ModeKeeper") U ∧ va_Nw (.fieldLinkNest R_ModeKeeper 68 "ModeKeeper$Form" "id" "I" "ModeKeeper") U ∧ va_Nw (.fieldLinkNest R_ModeKeeper 71 "ModeKeeper$Form" "every" "I" "ModeKeeper") U ∧ va_Nw (.fieldLinkNest R_ModeKeeper 62 "ModeKeeper$Form" "on" "Z" "ModeKeeper") U ∧ va_Nw (.fieldLinkNest R_ModeKeeper 78 "ModeKeeper$Form" "count" "I" "ModeKeeper") U ∧ va_Nw (.fieldLinkNest R_ModeKeeper 81 "ModeKeeper$Form" "parameters" "[I" "ModeKeeper") U ∧ va_Nw (.methodLinkNest R_ModeKeeper 42 y_Form_init "ModeKeeper") U ∧ va_AO "ModeKeeper$Form" U
theorem gN_there {U : State} {A : Array Value} (h : gN U) : (Cond.fieldLinkNest R_ModeKeeper 65 "ModeKeeper$Form" "there" "Z" "ModeKeeper").before A U = true := va_Nw.use rfl h.1
theorem gN_id {U : State} {A : Array Value} (h : gN U) : (Cond.fieldLinkNest R_ModeKeeper 68 "ModeKeeper$Form" "id" "I" "ModeKeeper").before A U = true := va_Nw.use rfl h.2.1
theorem gN_every {U : State} {A : Array Value} (h : gN U) : (Cond.fieldLinkNest R_ModeKeeper 71 "ModeKeeper$Form" "every" "I" "ModeKeeper").before A U = true := va_Nw.use rfl h.2.2.1
theorem gN_on {U : State} {A : Array Value} (h : gN U) : (Cond.fieldLinkNest R_ModeKeeper 62 "ModeKeeper$Form" "on" "Z" "ModeKeeper").before A U = true := va_Nw.use rfl h.2.2.2.1
theorem gN_count {U : State} {A : Array Value} (h : gN U) : (Cond.fieldLinkNest R_ModeKeeper 78 "ModeKeeper$Form" "count" "I" "ModeKeeper").before A U = true := va_Nw.use rfl h.2.2.2.2.1
theorem gN_parameters {U : State} {A : Array Value} (h : gN U) : (Cond.fieldLinkNest R_ModeKeeper 81 "ModeKeeper$Form" "parameters" "[I" "ModeKeeper").before A U = true := va_Nw.use rfl h.2.2.2.2.2.1
theorem gN.warm {U : State} (hW : s.WarmedH U.vm) (h : gN s) : gN U := ⟨h.1.warmF hW, h.2.1.warmF hW, h.2.2.1.warmF hW, h.2.2.2.1.warmF hW, h.2.2.2.2.1.warmF hW, h.2.2.2.2.2.1.warmF hW, h.2.2.2.2.2.2.1.warmM hW, h.2.2.2.2.2.2.2.moved hW.alike⟩
theorem gN.same {u U : State} (e : u.vm = U.vm) (h : gN u) : gN U := ⟨h.1.same rfl e, h.2.1.same rfl e, h.2.2.1.same rfl e, h.2.2.2.1.same rfl e, h.2.2.2.2.1.same rfl e, h.2.2.2.2.2.1.same rfl e, h.2.2.2.2.2.2.1.same rfl e, h.2.2.2.2.2.2.2.moved (by rw [e]; exact Vm.Alike.refl _)⟩
/-- what a method finds -/
def gP (D : va_G) (cl : List vw_C) (tys : List (ClassId × FieldType)) (X : va_W) (sz : Nat) (U : State) : Prop := U.heap.size = sz ∧ va_P D cl X U.heap ∧ va_K D cl tys U ∧ va_D (fun _ => True) X ∧ gN U
theorem gP.calling {g : JFrame} {mk : MethodId} {U : State} (q : gP D cl tys X sz U) : gP D cl tys X sz (U.calling g mk a) := by
  obtain ⟨q1, qP, qK, qD, qN⟩ := q
  exact ⟨q1, qP, va_K.moved (u := U) (U := U.calling g mk a) (Vm.Alike.refl U.vm) qK, qD, gN.same (u := U) (U := U.calling g mk a) rfl qN⟩
theorem g_blind : FrameBlind (va_Pc av (gP D cl tys X sz)) := fun _ _ _ _ q => ⟨q.1, q.2.calling⟩
theorem gP.of {U : State} (hP : va_P D cl X H) (hK : va_K D cl tys s) (hD : va_D A0 X) (hN : gN s) (hU : U.heap = H) (hW : s.WarmedH U.vm) : gP D cl tys X H.size U := ⟨by rw [hU], by rw [hU]; exact hP, va_K.moved hW.alike hK, hD.weaken (fun _ _ _ _ => trivial), hN.warm hW⟩
theorem g_pre (hP : va_P D cl X H) (hK : va_K D cl tys s) (hD : va_D A0 X) (hN : gN s) : ∀ U : State, U.heap = H → s.WarmedH U.vm → va_Pc av (gP D cl tys X H.size) av.toArray U := fun _ hU hW => ⟨rfl, gP.of hP hK hD hN hU hW⟩
theorem g_blind0 : FrameBlind (va_Pc av (fun _ => True)) := fun _ _ _ _ q => q
/-- the table of the safe mode: its static field, and the ints that it holds -/
def gZ (tS : Nat) (A : Nat → Prop) (U : State) (H : Heap) : Prop := va_Z "ModeKeeper" "SAFE_ACTUATORS" "[I" (.ref tS) A U H ∧ va_X tS 8 kSafe U H ∧ tS < H.size ∧ ¬ A tS
def gPz (D : va_G) (cl : List vw_C) (tys : List (ClassId × FieldType)) (X : va_W) (sz tS : Nat) (U : State) : Prop := gP D cl tys X sz U ∧ gZ tS (va_A X sz) U U.heap
theorem gZ.moved {A : Nat → Prop} {u U : State} (hvm : u.vm.Alike U.vm) (h : gZ tS A u H) : gZ tS A U H := ⟨h.1.moved hvm, h.2.1.moved hvm, h.2.2⟩
theorem g_blindZ : FrameBlind (va_Pc av (gPz D cl tys X sz tS)) := fun a U g mk q => ⟨q.1, q.2.1.calling, gZ.moved (u := U) (U := U.calling g mk a) (Vm.Alike.refl U.vm) q.2.2⟩
theorem gZ.pass (hZ : gZ tS A0 s s.heap) (hD : va_D A0 X) (hS : va_S A0 s.heap H locs) (hA : ∀ q, s.heap.size ≤ q → A0 q) : gZ tS (va_A X H.size) s H := by
  have hF := g_free hD hS hA
  obtain ⟨h1, h2, h3, h4⟩ := hZ
  exact ⟨(h1.kept hS.2.1).narrow hF, h2.kept (hS.2.1 tS h3 h4), Nat.lt_of_lt_of_le h3 hS.1, fun z => h4 (hF tS z)⟩
theorem g_preZ (hP : va_P D cl X H) (hK : va_K D cl tys s) (hD : va_D A0 X) (hN : gN s) (hZ : gZ tS (va_A X H.size) s H) : ∀ U : State, U.heap = H → s.WarmedH U.vm → va_Pc av (gPz D cl tys X H.size tS) av.toArray U := fun U hU hW => ⟨rfl, gP.of hP hK hD hN hU hW, by rw [hU]; exact hZ.moved hW.alike⟩
/-- an object into an array of references, by a Nat index -/
theorem g_ast {ad : Nat} {ws : va_W} (hexec : p.tables.exec = Jvm.exec) (hb : c.code = cc) (hK : va_K D cl tys s) (hP : va_P D cl ws H) (hD : va_D A0 ws) (hS : va_S A0 H0 H locs) (q0 t0 qk ci : Nat) {cA : ClassId} {r : vw_C} {n v : Nat} {vs : List Value} {f : Nat → Option Nat} (ha : ws[q0]? = some (ad, .inl (cA, n, .inr (.inr (.inr (.inr f)))))) (ht : tys[t0]? = some (cA, .object r.1)) (hv : ws[qk]? = some (v, .inr (ci, vs))) (hc : cl[ci]? = some r) {i : Nat} (hi : i < n) (hn : n < 2 ^ 31) (hdg : decode cc pc = .ok (.aastore, 1))
    (kk : ∀ (H1 : Heap) (locs1 : List Loc), va_P D cl (ws.set q0 (ad, .inl (cA, n, .inr (.inr (.inr (.inr (va_up f i (some v)))))))) H1 → va_D A0 (ws.set q0 (ad, .inl (cA, n, .inr (.inr (.inr (.inr (va_up f i (some v)))))))) → va_S A0 H0 H1 locs1 → W p l e R s m args below meth c H1 locs1 cells slots Q (F0 m (pc + 1) ls rest)) : W p l e R s m args below meth c H locs cells slots Q (F0 m pc ls (.ref v :: .int (nI i) :: .ref ad :: rest)) := by
  refine va_astq hexec hb hK hP hD hS q0 t0 qk ci ha ht hv hc (vp_in_nI hi hn) hdg ?_
  rw [nI_clamp (Nat.lt_trans hi hn)]
  exact kk
end MKW
