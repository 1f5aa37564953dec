set_option maxHeartbeats 4000000 in
set_option maxRecDepth 100000 in
theorem c_ModeKeeper_isActuator (l : Launch) (a : Int32) : Met l y_ModeKeeper_isActuator w_ModeKeeper_isActuator ({ frames := 0, cells := 0, slots := 0, locals := 0 }) (va_Pc [.int a] (fun _ => True)) (vp_Si (fun r => r = (kA a))) 0 0 (fun _ => False) := by
  refine Met.ofW (cc := b_ModeKeeper_isActuator) (maxL := 1) (ret := (some .boolean)) (by decide) rfl ?_
  intro p e s m args below meth c s₁ B hml hv
  obtain ⟨rfl, -⟩ := hv
  have hx := B.exec
  have hb := B.bytes
  have hrt := B.returns
  have hq : ∀ w ∈ wAll, w.before ([.int a] : List Value).toArray s = true := fun w h => atoms_spec (ws := w_ModeKeeper_isActuator) B.pre w (List.mem_cons_of_mem _ h)
  have hown : s.vm.findClass R_ModeKeeper = some m.cls := findClass_of_methodNamed B.named
  have hlocks := B.notSynchronized
  have hl := lv_entry ([.int a]) (n := 1) (Nat.le_of_ble_eq_true rfl)
  rw [lg_entry_eq]
  generalize (lg_sl ([.int a]) ++ List.replicate (1 - (lg_sl ([.int a])).length) Slot.unset).toArray = ls at hl ⊢
  have hl : lv_has ls 1 [(0, .int a)] := hl
  refine lv_iload_n hx hb d_ModeKeeper_isActuator_0 rfl (lv_at hl 0 rfl) ?_
  refine lv_if_lt (tgt := 14) hx hb d_ModeKeeper_isActuator_1 (by decide) (fun c_1 => ?_) (fun c_1 => ?_)
  · refine lv_iconst (v := 0) hx hb d_ModeKeeper_isActuator_14 (by decide) ?_
    exact W.zret (v := 0) hx hb hrt rfl (fun t ht hW => ⟨0, rfl, (by simp only [kA, if_pos c_1] <;> rfl), ht⟩) (fun _ h => by cases h) d_ModeKeeper_isActuator_15
  · refine lv_iload_n hx hb d_ModeKeeper_isActuator_4 rfl (lv_at hl 0 rfl) ?_
    refine lv_bipush (v := 8) hx hb d_ModeKeeper_isActuator_5 (by decide) ?_
    refine lv_icmp_ge (tgt := 14) hx hb d_ModeKeeper_isActuator_7 (by decide) (fun c_2 => ?_) (fun c_2 => ?_)
    · refine lv_iconst (v := 0) hx hb d_ModeKeeper_isActuator_14 (by decide) ?_
      exact W.zret (v := 0) hx hb hrt rfl (fun t ht hW => ⟨0, rfl, (by simp only [kA, if_neg c_1, if_pos c_2] <;> rfl), ht⟩) (fun _ h => by cases h) d_ModeKeeper_isActuator_15
    · refine lv_iconst (v := 1) hx hb d_ModeKeeper_isActuator_10 (by decide) ?_
      refine lv_goto (tgt := 15) hx hb d_ModeKeeper_isActuator_11 (by decide) ?_
      exact W.zret (v := 1) hx hb hrt rfl (fun t ht hW => ⟨1, rfl, (by simp only [kA, if_neg c_1, if_neg c_2] <;> rfl), ht⟩) (fun _ h => by cases h) d_ModeKeeper_isActuator_15
set_option maxHeartbeats 4000000 in
set_option maxRecDepth 100000 in
theorem c_ModeKeeper_divides (l : Launch) (x y : Int32) : Met l y_ModeKeeper_divides w_ModeKeeper_divides ({ frames := 0, cells := 0, slots := 0, locals := 0 }) (va_Pc [.int x, .int y] (fun _ => True)) (vp_Si (fun r => r = (kD x y))) 0 0 (fun _ => False) := by
  refine Met.ofW (cc := b_ModeKeeper_divides) (maxL := 2) (ret := (some .boolean)) (by decide) rfl ?_
  intro p e s m args below meth c s₁ B hml hv
  obtain ⟨rfl, -⟩ := hv
  have hx := B.exec
  have hb := B.bytes
  have hrt := B.returns
  have hq : ∀ w ∈ wAll, w.before ([.int x, .int y] : List Value).toArray s = true := fun w h => atoms_spec (ws := w_ModeKeeper_divides) B.pre w (List.mem_cons_of_mem _ h)
  have hown : s.vm.findClass R_ModeKeeper = some m.cls := findClass_of_methodNamed B.named
  have hlocks := B.notSynchronized
  have hl := lv_entry ([.int x, .int y]) (n := 2) (Nat.le_of_ble_eq_true rfl)
  rw [lg_entry_eq]
  generalize (lg_sl ([.int x, .int y]) ++ List.replicate (2 - (lg_sl ([.int x, .int y])).length) Slot.unset).toArray = ls at hl ⊢
  have hl : lv_has ls 2 [(0, .int x), (1, .int y)] := hl
  refine lv_iload_n hx hb d_ModeKeeper_divides_0 rfl (lv_at hl 0 rfl) ?_
  refine lv_if_le (tgt := 14) hx hb d_ModeKeeper_divides_1 (by decide) (fun c_1 => ?_) (fun c_1 => ?_)
  · refine lv_iconst (v := 0) hx hb d_ModeKeeper_divides_14 (by decide) ?_
    exact W.zret (v := 0) hx hb hrt rfl (fun t ht hW => ⟨0, rfl, (by simp only [kD, if_pos c_1] <;> rfl), ht⟩) (fun _ h => by cases h) d_ModeKeeper_divides_15
  · refine lv_iload_n hx hb d_ModeKeeper_divides_4 rfl (lv_at hl 1 rfl) ?_
    refine lv_iload_n hx hb d_ModeKeeper_divides_5 rfl (lv_at hl 0 rfl) ?_
    refine lv_irem hx hb d_ModeKeeper_divides_6 (fun h0 => c_1 (by rw [h0]; decide)) ?_
    refine lv_if_ne (tgt := 14) hx hb d_ModeKeeper_divides_7 (by decide) (fun c_2 => ?_) (fun c_2 => ?_)
    · refine lv_iconst (v := 0) hx hb d_ModeKeeper_divides_14 (by decide) ?_
      exact W.zret (v := 0) hx hb hrt rfl (fun t ht hW => ⟨0, rfl, (by simp only [kD, if_neg c_1, if_neg c_2] <;> rfl), ht⟩) (fun _ h => by cases h) d_ModeKeeper_divides_15
    · refine lv_iconst (v := 1) hx hb d_ModeKeeper_divides_10 (by decide) ?_
      refine lv_goto (tgt := 15) hx hb d_ModeKeeper_divides_11 (by decide) ?_
      exact W.zret (v := 1) hx hb hrt rfl (fun t ht hW => ⟨1, rfl, (by simp only [kD, if_neg c_1, if_pos c_2] <;> rfl), ht⟩) (fun _ h => by cases h) d_ModeKeeper_divides_15
set_option maxHeartbeats 4000000 in
set_option maxRecDepth 100000 in
theorem c_ModeKeeper_find (l : Launch) (dC : Nat → ClassId) (dI : Nat → Nat → Nat) (ad : Nat → Nat) (sz : Nat) (cI cF : ClassId) (k act txt : Nat → Int32) (F pr : Nat → Nat → Int32) (id : Int32) : Met l y_ModeKeeper_find w_ModeKeeper_find ({ frames := 0, cells := 0, slots := 0, locals := 0 }) (va_Pc [.ref (ad 0), .int id] (gP (dC, dI) classes (tyK cI cF) (wK ad cI cF k act txt F pr) sz)) (va_Sq (fun r => r = (kFind F id 8 0).map (fun i => ad (4 + i)))) 0 0 (fun _ => False) := by
  refine Met.ofW (cc := b_ModeKeeper_find) (maxL := 4) (ret := (some (.object "ModeKeeper$Form"))) (by decide) rfl ?_
  intro p e s m args below meth c s₁ B hml hv
  obtain ⟨rfl, hsz, hP, hK, hD0, hN⟩ := hv
  have hx := B.exec
  have hb := B.bytes
  have hrt := B.returns
  have hq : ∀ w ∈ wAll, w.before ([.ref (ad 0), .int id] : List Value).toArray s = true := fun w h => atoms_spec (ws := w_ModeKeeper_find) B.pre w (List.mem_cons_of_mem _ h)
  have hown : s.vm.findClass R_ModeKeeper = some m.cls := findClass_of_methodNamed B.named
  have hlocks := B.notSynchronized
  subst hsz
  have hD := hD0
  have hl := lv_entry ([.ref (ad 0), .int id]) (n := 4) (Nat.le_of_ble_eq_true rfl)
  rw [lg_entry_eq]
  generalize (lg_sl ([.ref (ad 0), .int id]) ++ List.replicate (4 - (lg_sl ([.ref (ad 0), .int id])).length) Slot.unset).toArray = ls at hl ⊢
  have hl : lv_has ls 4 [(0, .ref (ad 0)), (1, .int id)] := hl
  have key : ∀ (n i : Nat), i + n = 8 → kFind F id 8 0 = kFind F id n i → ∀ (ls : Array Slot), lv_has ls 4 [(0, .ref (ad 0)), (1, .int id), (2, .int (nI i))] → W p l e (headSpec w_ModeKeeper_find ({ frames := 0, cells := 0, slots := 0, locals := 0 })).room s m ([.ref (ad 0), .int id] : List Value).toArray below meth c s.heap [] 0 0 (MQ below (va_Sq (fun r => r = (kFind F id 8 0).map (fun i => ad (4 + i)))) ([.ref (ad 0), .int id] : List Value).toArray s 0 0 (fun _ => False)) (F0 m 2 ls []) := by
    intro n
    induction n with
    | zero =>
      intro i hin hres ls hl
      obtain rfl : i = 8 := by omega
      refine lv_iload_n hx hb d_ModeKeeper_find_2 rfl (lv_at hl 2 rfl) ?_
      refine lv_bipush (v := 8) hx hb d_ModeKeeper_find_3 (by decide) ?_
      refine lv_icmp_ge (tgt := 38) hx hb d_ModeKeeper_find_5 (by decide) (fun c_1 => ?_) (fun c_1 => ?_)
      · refine lv_null hx hb d_ModeKeeper_find_38 ?_
        exact W.aret (v := .null) hx hb hrt (Or.inl ⟨_, rfl⟩) (Or.inl rfl) (fun t ht hW => ⟨none, rfl, (by rw [hres]; rfl), ht⟩) (fun _ h => by cases h) d_ModeKeeper_find_39
      · exact absurd (by decide +kernel) c_1
    | succ n ih =>
      intro i hin hres ls hl
      have hi : i < 8 := by omega
      refine lv_iload_n hx hb d_ModeKeeper_find_2 rfl (lv_at hl 2 rfl) ?_
      refine lv_bipush (v := 8) hx hb d_ModeKeeper_find_3 (by decide) ?_
      refine lv_icmp_ge (tgt := 38) hx hb d_ModeKeeper_find_5 (by decide) (fun c_2 => ?_) (fun c_2 => ?_)
      · exact absurd c_2 (nI_ge (b := 8) hi (by decide))
      · refine lv_aload_n hx hb d_ModeKeeper_find_8 rfl (lv_at hl 0 rfl) ?_
        refine va_get (D := (dC, dI)) (ci := 0) (v := .ref (ad 3)) (C := R_ModeKeeper) (T := F_ModeKeeper) (N := 9) hx hb hq iw_K hown hK hP 0 rfl rfl 7 (by decide) (hq _ qk_0) (fun _ h9 => h9) rfl d_ModeKeeper_find_9 ?_
        refine lv_iload_n hx hb d_ModeKeeper_find_12 rfl (lv_at hl 2 rfl) ?_
        refine g_ald (D := (dC, dI)) hx hb hK hP 3 1 rfl rfl (i := i) (y := ad (4 + i)) hi (by decide) (if_pos hi) d_ModeKeeper_find_13 ?_
        refine lv_astore_n (lv' := [(3, .ref (ad (4 + i))), (0, .ref (ad 0)), (1, .int id), (2, .int (nI i))]) hx hb d_ModeKeeper_find_14 rfl hl (by decide) rfl (fun ls hl => ?_)
        refine lv_aload_n hx hb d_ModeKeeper_find_15 rfl (lv_at hl 0 rfl) ?_
        refine va_getN (D := (dC, dI)) (ci := 1) (v := .int (F i 0)) (C := R_Form) (T := F_Form) (N := 6) hx hb hq iw_F hown hK hP (4 + i) (wK_at hi) rfl 0 (by decide) (gN_there hN) (fun _ h9 => h9) rfl d_ModeKeeper_find_16 ?_
        refine lv_if_eq (tgt := 32) hx hb d_ModeKeeper_find_19 (by decide) (fun c_3 => ?_) (fun c_3 => ?_)
        · refine lv_iinc (v := (nI (i + 1))) (lv' := [(2, .int (nI (i + 1))), (3, .ref (ad (4 + i))), (0, .ref (ad 0)), (1, .int id)]) hx hb d_ModeKeeper_find_32 hl (k := 3) rfl ((show nI i + Int32.ofInt 1 = nI i + 1 from rfl).trans (nI_1 i)) (by decide) rfl (fun ls hl => ?_)
          refine lv_goto (tgt := 2) hx hb d_ModeKeeper_find_35 (by decide) ?_
          exact ih (i + 1) (by omega) (by rw [hres]; simp only [kFind, if_pos c_3]) ls (lv_sub hl [2, 3, 0] rfl)
        · refine lv_aload_n hx hb d_ModeKeeper_find_22 rfl (lv_at hl 0 rfl) ?_
          refine va_getN (D := (dC, dI)) (ci := 1) (v := .int (F i 1)) (C := R_Form) (T := F_Form) (N := 6) hx hb hq iw_F hown hK hP (4 + i) (wK_at hi) rfl 1 (by decide) (gN_id hN) (fun _ h9 => h9) rfl d_ModeKeeper_find_23 ?_
          refine lv_iload_n hx hb d_ModeKeeper_find_26 rfl (lv_at hl 2 rfl) ?_
          refine lv_icmp_ne (tgt := 32) hx hb d_ModeKeeper_find_27 (by decide) (fun c_4 => ?_) (fun c_4 => ?_)
          · refine lv_iinc (v := (nI (i + 1))) (lv' := [(2, .int (nI (i + 1))), (3, .ref (ad (4 + i))), (0, .ref (ad 0)), (1, .int id)]) hx hb d_ModeKeeper_find_32 hl (k := 3) rfl ((show nI i + Int32.ofInt 1 = nI i + 1 from rfl).trans (nI_1 i)) (by decide) rfl (fun ls hl => ?_)
            refine lv_goto (tgt := 2) hx hb d_ModeKeeper_find_35 (by decide) ?_
            exact ih (i + 1) (by omega) (by rw [hres]; simp only [kFind, if_neg c_3, if_neg c_4]) ls (lv_sub hl [2, 3, 0] rfl)
          · refine lv_aload_n hx hb d_ModeKeeper_find_30 rfl (lv_at hl 0 rfl) ?_
            exact W.aret (v := .ref (ad (4 + i))) hx hb hrt (Or.inl ⟨_, rfl⟩) (Or.inr ⟨_, rfl⟩) (fun t ht hW => ⟨(some ((ad (4 + i)))), rfl, (by rw [hres]; simp only [kFind, if_neg c_3, if_pos c_4] <;> rfl), ht⟩) (fun _ h => by cases h) d_ModeKeeper_find_31
  refine lv_iconst (v := 0) hx hb d_ModeKeeper_find_0 (by decide) ?_
  refine lv_istore_n (lv' := [(2, .int 0), (0, .ref (ad 0)), (1, .int id)]) hx hb d_ModeKeeper_find_1 rfl hl (by decide) rfl (fun ls hl => ?_)
  exact key 8 0 rfl rfl ls (lv_sub hl [1, 2, 0] rfl)
