set_option maxHeartbeats 4000000 in
set_option maxRecDepth 100000 in
theorem c_ModeKeeper_move (l : Launch) (dC : Nat → ClassId) (dI : Nat → Nat → Nat) (ad : Nat → Nat) (sz : Nat) (cI cF : ClassId) (k act txt : Nat → Int32) (F pr : Nat → Nat → Int32) (a v : Int32) : Met l y_ModeKeeper_move w_ModeKeeper_move ({ frames := 1, cells := 0, slots := 0, locals := 20 }) (va_Pc [.ref (ad 0), .int a, .int v] (gP (dC, dI) classes (tyK cI cF) (wK ad cI cF k act txt F pr) sz)) (va_Qi (fun r (_ : Unit) => r = (kMvR k a)) (fun _ t => gB (dC, dI) classes (va_A (wK ad cI cF k act txt F pr) sz) (wK ad cI cF k ((kMvA k act a v)) txt F pr) t) (va_A (wK ad cI cF k act txt F pr) sz)) 0 0 (va_A (wK ad cI cF k act txt F pr) sz) := by
  refine Met.ofW (cc := b_ModeKeeper_move) (maxL := 3) (ret := (some .int)) (by decide) rfl ?_
  intro p e s m args below meth c s₁ B hml hv
  obtain ⟨rfl, hsz, hP, hK, hD0, hN⟩ := hv
  have hx := B.exec
  have hb := B.bytes
  have hrt := B.returns
  have hq : ∀ w ∈ wAll, w.before ([.ref (ad 0), .int a, .int v] : List Value).toArray s = true := fun w h => atoms_spec (ws := w_ModeKeeper_move) B.pre w (List.mem_cons_of_mem _ h)
  have hown : s.vm.findClass R_ModeKeeper = some m.cls := findClass_of_methodNamed B.named
  have hlocks := B.notSynchronized
  subst hsz
  have hD := hD0.self (sz := s.heap.size)
  generalize hAe : va_A (wK ad cI cF k act txt F pr) s.heap.size = A at hD ⊢
  have hA : ∀ q : Nat, s.heap.size ≤ q → A q := fun q h => by rw [← hAe]; exact Or.inr h
  have hS : va_S A s.heap s.heap [] := va_S.rf
  have hl := lv_entry ([.ref (ad 0), .int a, .int v]) (n := 3) (Nat.le_of_ble_eq_true rfl)
  rw [lg_entry_eq]
  generalize (lg_sl ([.ref (ad 0), .int a, .int v]) ++ List.replicate (3 - (lg_sl ([.ref (ad 0), .int a, .int v])).length) Slot.unset).toArray = ls at hl ⊢
  have hl : lv_has ls 3 [(0, .ref (ad 0)), (1, .int a), (2, .int v)] := hl
  refine lv_iload_n hx hb d_ModeKeeper_move_0 rfl (lv_at hl 1 rfl) ?_
  refine vp_callSi (va_Run.run (va_runS (As := [.int a]) (rest := []) ⟨hx, hb, hml, hown, hq⟩ (c_ModeKeeper_isActuator l a) ⟨callB_of 1 hq (gd m_ModeKeeper_isActuator) rfl rfl rfl (hq _ qk_10) (hq _ qk_16) (by decide +kernel) ⟨Nat.le_of_ble_eq_true rfl, Nat.le_of_ble_eq_true rfl⟩, (hq _ qk_17)⟩ ⟨g_blind0, fun _ _ _ => ⟨rfl, trivial⟩⟩ rfl rfl hl.1 rfl (lv_room (Nat.le_of_ble_eq_true rfl)) d_ModeKeeper_move_1 ⟨Nat.zero_le _, Nat.zero_le _⟩)) (fun r hr => ?_)
  subst hr
  refine lv_if_ne (tgt := 10) hx hb d_ModeKeeper_move_4 (by decide) (fun c_1 => ?_) (fun c_1 => ?_)
  · refine lv_aload_n hx hb d_ModeKeeper_move_10 rfl (lv_at hl 0 rfl) ?_
    refine va_get (D := (dC, dI)) (ci := 0) (v := .int (k 1)) (C := R_ModeKeeper) (T := F_ModeKeeper) (N := 9) hx hb hq iw_K hown hK hP 0 rfl rfl 1 (by decide) (hq _ qk_1) (fun _ h9 => h9) rfl d_ModeKeeper_move_11 ?_
    refine lv_if_ne (tgt := 20) hx hb d_ModeKeeper_move_14 (by decide) (fun c_2 => ?_) (fun c_2 => ?_)
    · refine lv_aload_n hx hb d_ModeKeeper_move_20 rfl (lv_at hl 0 rfl) ?_
      refine va_get (D := (dC, dI)) (ci := 0) (v := .ref (ad 1)) (C := R_ModeKeeper) (T := F_ModeKeeper) (N := 9) hx hb hq iw_K hown hK hP 0 rfl rfl 0 (by decide) (hq _ qk_4) (fun _ h9 => h9) rfl d_ModeKeeper_move_21 ?_
      refine lv_iload_n hx hb d_ModeKeeper_move_24 rfl (lv_at hl 1 rfl) ?_
      refine lv_iload_n hx hb d_ModeKeeper_move_25 rfl (lv_at hl 2 rfl) ?_
      refine va_iast (D := (dC, dI)) hx hb hK hP hD hS 1 0 rfl rfl (kA_in c_1) d_ModeKeeper_move_26 (fun H locs hP hD hS => ?_)
      have hP : va_P (dC, dI) classes (wK ad cI cF k ((upd act a.toNatClampNeg v)) txt F pr) H := hP
      have hD : va_D A (wK ad cI cF k ((upd act a.toNatClampNeg v)) txt F pr) := hD
      refine lv_iconst (v := 0) hx hb d_ModeKeeper_move_27 (by decide) ?_
      have e_act : (kMvA k act a v) = (upd act a.toNatClampNeg v) := (by simp only [kMvR, kMvA, if_neg c_1, if_neg c_2] <;> rfl)
      have hP9 : va_P (dC, dI) classes (wK ad cI cF k ((kMvA k act a v)) txt F pr) H := by rw [e_act]; exact hP
      have hD9 : va_D A (wK ad cI cF k ((kMvA k act a v)) txt F pr) := by rw [e_act]; exact hD
      exact W.iret (v := 0) hx hb hrt (fun t ht hW => ⟨⟨0, (), rfl, (by simp only [kMvR, kMvA, if_neg c_1, if_neg c_2] <;> rfl), by rw [ht]; exact hP9, hD9⟩, hS.F ht⟩) hS.2.2 d_ModeKeeper_move_28
    · refine lv_bipush (v := 19) hx hb d_ModeKeeper_move_17 (by decide) ?_
      have e_act : (kMvA k act a v) = act := (by simp only [kMvR, kMvA, if_neg c_1, if_pos c_2] <;> rfl)
      have hP9 : va_P (dC, dI) classes (wK ad cI cF k ((kMvA k act a v)) txt F pr) s.heap := by rw [e_act]; exact hP
      have hD9 : va_D A (wK ad cI cF k ((kMvA k act a v)) txt F pr) := by rw [e_act]; exact hD
      exact W.iret (v := 19) hx hb hrt (fun t ht hW => ⟨⟨19, (), rfl, (by simp only [kMvR, kMvA, if_neg c_1, if_pos c_2] <;> rfl), by rw [ht]; exact hP9, hD9⟩, hS.F ht⟩) hS.2.2 d_ModeKeeper_move_19
  · refine lv_bipush (v := 18) hx hb d_ModeKeeper_move_7 (by decide) ?_
    have e_act : (kMvA k act a v) = act := (by simp only [kMvR, kMvA, if_pos c_1] <;> rfl)
    have hP9 : va_P (dC, dI) classes (wK ad cI cF k ((kMvA k act a v)) txt F pr) s.heap := by rw [e_act]; exact hP
    have hD9 : va_D A (wK ad cI cF k ((kMvA k act a v)) txt F pr) := by rw [e_act]; exact hD
    exact W.iret (v := 18) hx hb hrt (fun t ht hW => ⟨⟨18, (), rfl, (by simp only [kMvR, kMvA, if_pos c_1] <;> rfl), by rw [ht]; exact hP9, hD9⟩, hS.F ht⟩) hS.2.2 d_ModeKeeper_move_9
set_option maxHeartbeats 4000000 in
set_option maxRecDepth 100000 in
theorem c_ModeKeeper_enter (l : Launch) (dC : Nat → ClassId) (dI : Nat → Nat → Nat) (ad : Nat → Nat) (sz : Nat) (cI cF : ClassId) (k act txt : Nat → Int32) (F pr : Nat → Nat → Int32) (m0 : Int32) (tS : Nat) : Met l y_ModeKeeper_enter w_ModeKeeper_enter ({ frames := 2, cells := 0, slots := 0, locals := 39 }) (va_Pc [.ref (ad 0), .int m0] (gPz (dC, dI) classes (tyK cI cF) (wK ad cI cF k act txt F pr) sz tS)) (va_Qi (fun r (_ : Unit) => r = (kEnR k m0)) (fun _ t => gB (dC, dI) classes (va_A (wK ad cI cF k act txt F pr) sz) (wK ad cI cF ((kEnK k m0)) ((kEnA k act m0)) txt F pr) t) (va_A (wK ad cI cF k act txt F pr) sz)) 0 0 (va_A (wK ad cI cF k act txt F pr) sz) := by
  refine Met.ofW (cc := b_ModeKeeper_enter) (maxL := 2) (ret := (some .int)) (by decide) rfl ?_
  intro p e s m args below meth c s₁ B hml hv
  obtain ⟨rfl, ⟨hsz, hP, hK, hD0, hN⟩, hZ⟩ := hv
  have hx := B.exec
  have hb := B.bytes
  have hrt := B.returns
  have hq : ∀ w ∈ wAll, w.before ([.ref (ad 0), .int m0] : List Value).toArray s = true := fun w h => atoms_spec (ws := w_ModeKeeper_enter) B.pre w (List.mem_cons_of_mem _ h)
  have hown : s.vm.findClass R_ModeKeeper = some m.cls := findClass_of_methodNamed B.named
  have hlocks := B.notSynchronized
  subst hsz
  have hD := hD0.self (sz := s.heap.size)
  generalize hAe : va_A (wK ad cI cF k act txt F pr) s.heap.size = A at hD hZ ⊢
  have hA : ∀ q : Nat, s.heap.size ≤ q → A q := fun q h => by rw [← hAe]; exact Or.inr h
  have hS : va_S A s.heap s.heap [] := va_S.rf
  have hl := lv_entry ([.ref (ad 0), .int m0]) (n := 2) (Nat.le_of_ble_eq_true rfl)
  rw [lg_entry_eq]
  generalize (lg_sl ([.ref (ad 0), .int m0]) ++ List.replicate (2 - (lg_sl ([.ref (ad 0), .int m0])).length) Slot.unset).toArray = ls at hl ⊢
  have hl : lv_has ls 2 [(0, .ref (ad 0)), (1, .int m0)] := hl
  refine lv_iload_n hx hb d_ModeKeeper_enter_0 rfl (lv_at hl 1 rfl) ?_
  refine lv_if_lt (tgt := 9) hx hb d_ModeKeeper_enter_1 (by decide) (fun c_1 => ?_) (fun c_1 => ?_)
  · refine lv_bipush (v := 18) hx hb d_ModeKeeper_enter_9 (by decide) ?_
    have e_k : (kEnK k m0) = k := (by simp only [kEnR, kEnK, kEnA, if_pos c_1] <;> rfl)
    have e_act : (kEnA k act m0) = act := (by simp only [kEnR, kEnK, kEnA, if_pos c_1] <;> rfl)
    have hP9 : va_P (dC, dI) classes (wK ad cI cF ((kEnK k m0)) ((kEnA k act m0)) txt F pr) s.heap := by rw [e_k, e_act]; exact hP
    have hD9 : va_D A (wK ad cI cF ((kEnK k m0)) ((kEnA k act m0)) txt F pr) := by rw [e_k, e_act]; exact hD
    exact W.iret (v := 18) hx hb hrt (fun t ht hW => ⟨⟨18, (), rfl, (by simp only [kEnR, kEnK, kEnA, if_pos c_1] <;> rfl), by rw [ht]; exact hP9, hD9⟩, hS.F ht⟩) hS.2.2 d_ModeKeeper_enter_11
  · refine lv_iload_n hx hb d_ModeKeeper_enter_4 rfl (lv_at hl 1 rfl) ?_
    refine lv_iconst (v := 2) hx hb d_ModeKeeper_enter_5 (by decide) ?_
    refine lv_icmp_le (tgt := 12) hx hb d_ModeKeeper_enter_6 (by decide) (fun c_2 => ?_) (fun c_2 => ?_)
    · refine lv_aload_n hx hb d_ModeKeeper_enter_12 rfl (lv_at hl 0 rfl) ?_
      refine va_get (D := (dC, dI)) (ci := 0) (v := .int (k 1)) (C := R_ModeKeeper) (T := F_ModeKeeper) (N := 9) hx hb hq iw_K hown hK hP 0 rfl rfl 1 (by decide) (hq _ qk_1) (fun _ h9 => h9) rfl d_ModeKeeper_enter_13 ?_
      refine lv_if_ne (tgt := 27) hx hb d_ModeKeeper_enter_16 (by decide) (fun c_3 => ?_) (fun c_3 => ?_)
      · refine lv_aload_n hx hb d_ModeKeeper_enter_27 rfl (lv_at hl 0 rfl) ?_
        refine lv_iload_n hx hb d_ModeKeeper_enter_28 rfl (lv_at hl 1 rfl) ?_
        refine g_calli (va_runV (As := [.int m0]) (rest := []) ⟨hx, hb, hml, hown, hq⟩ (c_ModeKeeper_changeMode l dC dI ad s.heap.size cI cF k act txt F pr m0 tS) ⟨callB_of 1 hq (gd m_ModeKeeper_changeMode) rfl rfl rfl (hq _ qk_10) (hq _ qk_18) (by decide +kernel) ⟨Nat.le_of_ble_eq_true rfl, Nat.le_of_ble_eq_true rfl⟩, (hq _ qk_19), (hq _ qk_20)⟩ ⟨g_blindZ, va_recv hK hP (ci := 0) (q0 := 0) rfl rfl, g_preZ hP hK hD hN (hZ.pass hD hS hA)⟩ rfl rfl hl.1 rfl (lv_room (Nat.le_of_ble_eq_true rfl)) d_ModeKeeper_enter_29 ⟨Nat.zero_le _, Nat.zero_le _⟩) hD hS hA (fun r H locs hr hP hD hS => ?_)
        subst hr
        refine lv_pop hx hb d_ModeKeeper_enter_32 rfl ?_
        refine lv_iconst (v := 0) hx hb d_ModeKeeper_enter_33 (by decide) ?_
        have e_k : (kEnK k m0) = (kChK k m0) := (by simp only [kEnR, kEnK, kEnA, if_neg c_1, if_pos c_2, if_neg c_3] <;> rfl)
        have e_act : (kEnA k act m0) = (kChA k act m0) := (by simp only [kEnR, kEnK, kEnA, if_neg c_1, if_pos c_2, if_neg c_3] <;> rfl)
        have hP9 : va_P (dC, dI) classes (wK ad cI cF ((kEnK k m0)) ((kEnA k act m0)) txt F pr) H := by rw [e_k, e_act]; exact hP
        have hD9 : va_D A (wK ad cI cF ((kEnK k m0)) ((kEnA k act m0)) txt F pr) := by rw [e_k, e_act]; exact hD
        exact W.iret (v := 0) hx hb hrt (fun t ht hW => ⟨⟨0, (), rfl, (by simp only [kEnR, kEnK, kEnA, if_neg c_1, if_pos c_2, if_neg c_3] <;> rfl), by rw [ht]; exact hP9, hD9⟩, hS.F ht⟩) hS.2.2 d_ModeKeeper_enter_34
      · refine lv_iload_n hx hb d_ModeKeeper_enter_19 rfl (lv_at hl 1 rfl) ?_
        refine lv_iconst (v := 2) hx hb d_ModeKeeper_enter_20 (by decide) ?_
        refine lv_icmp_ne (tgt := 27) hx hb d_ModeKeeper_enter_21 (by decide) (fun c_4 => ?_) (fun c_4 => ?_)
        · refine lv_aload_n hx hb d_ModeKeeper_enter_27 rfl (lv_at hl 0 rfl) ?_
          refine lv_iload_n hx hb d_ModeKeeper_enter_28 rfl (lv_at hl 1 rfl) ?_
          refine g_calli (va_runV (As := [.int m0]) (rest := []) ⟨hx, hb, hml, hown, hq⟩ (c_ModeKeeper_changeMode l dC dI ad s.heap.size cI cF k act txt F pr m0 tS) ⟨callB_of 1 hq (gd m_ModeKeeper_changeMode) rfl rfl rfl (hq _ qk_10) (hq _ qk_18) (by decide +kernel) ⟨Nat.le_of_ble_eq_true rfl, Nat.le_of_ble_eq_true rfl⟩, (hq _ qk_19), (hq _ qk_20)⟩ ⟨g_blindZ, va_recv hK hP (ci := 0) (q0 := 0) rfl rfl, g_preZ hP hK hD hN (hZ.pass hD hS hA)⟩ rfl rfl hl.1 rfl (lv_room (Nat.le_of_ble_eq_true rfl)) d_ModeKeeper_enter_29 ⟨Nat.zero_le _, Nat.zero_le _⟩) hD hS hA (fun r H locs hr hP hD hS => ?_)
          subst hr
          refine lv_pop hx hb d_ModeKeeper_enter_32 rfl ?_
          refine lv_iconst (v := 0) hx hb d_ModeKeeper_enter_33 (by decide) ?_
          have e_k : (kEnK k m0) = (kChK k m0) := (by simp only [kEnR, kEnK, kEnA, if_neg c_1, if_pos c_2, if_pos c_3, if_neg c_4] <;> rfl)
          have e_act : (kEnA k act m0) = (kChA k act m0) := (by simp only [kEnR, kEnK, kEnA, if_neg c_1, if_pos c_2, if_pos c_3, if_neg c_4] <;> rfl)
          have hP9 : va_P (dC, dI) classes (wK ad cI cF ((kEnK k m0)) ((kEnA k act m0)) txt F pr) H := by rw [e_k, e_act]; exact hP
          have hD9 : va_D A (wK ad cI cF ((kEnK k m0)) ((kEnA k act m0)) txt F pr) := by rw [e_k, e_act]; exact hD
          exact W.iret (v := 0) hx hb hrt (fun t ht hW => ⟨⟨0, (), rfl, (by simp only [kEnR, kEnK, kEnA, if_neg c_1, if_pos c_2, if_pos c_3, if_neg c_4] <;> rfl), by rw [ht]; exact hP9, hD9⟩, hS.F ht⟩) hS.2.2 d_ModeKeeper_enter_34
        · refine lv_bipush (v := 19) hx hb d_ModeKeeper_enter_24 (by decide) ?_
          have e_k : (kEnK k m0) = k := (by simp only [kEnR, kEnK, kEnA, if_neg c_1, if_pos c_2, if_pos c_3, if_pos c_4] <;> rfl)
          have e_act : (kEnA k act m0) = act := (by simp only [kEnR, kEnK, kEnA, if_neg c_1, if_pos c_2, if_pos c_3, if_pos c_4] <;> rfl)
          have hP9 : va_P (dC, dI) classes (wK ad cI cF ((kEnK k m0)) ((kEnA k act m0)) txt F pr) s.heap := by rw [e_k, e_act]; exact hP
          have hD9 : va_D A (wK ad cI cF ((kEnK k m0)) ((kEnA k act m0)) txt F pr) := by rw [e_k, e_act]; exact hD
          exact W.iret (v := 19) hx hb hrt (fun t ht hW => ⟨⟨19, (), rfl, (by simp only [kEnR, kEnK, kEnA, if_neg c_1, if_pos c_2, if_pos c_3, if_pos c_4] <;> rfl), by rw [ht]; exact hP9, hD9⟩, hS.F ht⟩) hS.2.2 d_ModeKeeper_enter_26
    · refine lv_bipush (v := 18) hx hb d_ModeKeeper_enter_9 (by decide) ?_
      have e_k : (kEnK k m0) = k := (by simp only [kEnR, kEnK, kEnA, if_neg c_1, if_neg c_2] <;> rfl)
      have e_act : (kEnA k act m0) = act := (by simp only [kEnR, kEnK, kEnA, if_neg c_1, if_neg c_2] <;> rfl)
      have hP9 : va_P (dC, dI) classes (wK ad cI cF ((kEnK k m0)) ((kEnA k act m0)) txt F pr) s.heap := by rw [e_k, e_act]; exact hP
      have hD9 : va_D A (wK ad cI cF ((kEnK k m0)) ((kEnA k act m0)) txt F pr) := by rw [e_k, e_act]; exact hD
      exact W.iret (v := 18) hx hb hrt (fun t ht hW => ⟨⟨18, (), rfl, (by simp only [kEnR, kEnK, kEnA, if_neg c_1, if_neg c_2] <;> rfl), by rw [ht]; exact hP9, hD9⟩, hS.F ht⟩) hS.2.2 d_ModeKeeper_enter_11
set_option maxHeartbeats 4000000 in
set_option maxRecDepth 100000 in
theorem c_ModeKeeper_alarm (l : Launch) (dC : Nat → ClassId) (dI : Nat → Nat → Nat) (ad : Nat → Nat) (sz : Nat) (cI cF : ClassId) (k act txt : Nat → Int32) (F pr : Nat → Nat → Int32) (t0 : Int32) : Met l y_ModeKeeper_alarm w_ModeKeeper_alarm ({ frames := 0, cells := 0, slots := 0, locals := 0 }) (va_Pc [.ref (ad 0), .int t0] (gP (dC, dI) classes (tyK cI cF) (wK ad cI cF k act txt F pr) sz)) (va_Qi (fun r (_ : Unit) => r = (kAlR k)) (fun _ t => gB (dC, dI) classes (va_A (wK ad cI cF k act txt F pr) sz) (wK ad cI cF ((kAlK k t0)) act txt F pr) t) (va_A (wK ad cI cF k act txt F pr) sz)) 0 0 (va_A (wK ad cI cF k act txt F pr) sz) := by
  refine Met.ofW (cc := b_ModeKeeper_alarm) (maxL := 2) (ret := (some .boolean)) (by decide) rfl ?_
  intro p e s m args below meth c s₁ B hml hv
  obtain ⟨rfl, hsz, hP, hK, hD0, hN⟩ := hv
  have hx := B.exec
  have hb := B.bytes
  have hrt := B.returns
  have hq : ∀ w ∈ wAll, w.before ([.ref (ad 0), .int t0] : List Value).toArray s = true := fun w h => atoms_spec (ws := w_ModeKeeper_alarm) B.pre w (List.mem_cons_of_mem _ h)
  have hown : s.vm.findClass R_ModeKeeper = some m.cls := findClass_of_methodNamed B.named
  have hlocks := B.notSynchronized
  subst hsz
  have hD := hD0.self (sz := s.heap.size)
  generalize hAe : va_A (wK ad cI cF k act txt F pr) s.heap.size = A at hD ⊢
  have hA : ∀ q : Nat, s.heap.size ≤ q → A q := fun q h => by rw [← hAe]; exact Or.inr h
  have hS : va_S A s.heap s.heap [] := va_S.rf
  have hl := lv_entry ([.ref (ad 0), .int t0]) (n := 2) (Nat.le_of_ble_eq_true rfl)
  rw [lg_entry_eq]
  generalize (lg_sl ([.ref (ad 0), .int t0]) ++ List.replicate (2 - (lg_sl ([.ref (ad 0), .int t0])).length) Slot.unset).toArray = ls at hl ⊢
  have hl : lv_has ls 2 [(0, .ref (ad 0)), (1, .int t0)] := hl
  refine lv_aload_n hx hb d_ModeKeeper_alarm_0 rfl (lv_at hl 0 rfl) ?_
  refine va_get (D := (dC, dI)) (ci := 0) (v := .int (k 3)) (C := R_ModeKeeper) (T := F_ModeKeeper) (N := 9) hx hb hq iw_K hown hK hP 0 rfl rfl 3 (by decide) (hq _ qk_21) (fun _ h9 => h9) rfl d_ModeKeeper_alarm_1 ?_
  refine lv_if_eq (tgt := 9) hx hb d_ModeKeeper_alarm_4 (by decide) (fun c_1 => ?_) (fun c_1 => ?_)
  · refine lv_aload_n hx hb d_ModeKeeper_alarm_9 rfl (lv_at hl 0 rfl) ?_
    refine lv_iconst (v := 1) hx hb d_ModeKeeper_alarm_10 (by decide) ?_
    refine va_put (D := (dC, dI)) (ci := 0) (v := .int 1) (ty := .boolean) (C := R_ModeKeeper) (T := F_ModeKeeper) (N := 9) hx hb hq iw_K t_ModeKeeper t_ModeKeeper_ok n_ModeKeeper hown hK hP hD hS 0 rfl rfl 3 (by decide) (hq _ qk_21) (fun _ h9 => h9) rfl (by decide +kernel) rfl rfl (Nat.le_of_ble_eq_true rfl) d_ModeKeeper_alarm_11 (fun H locs hP hD hS => ?_)
    have hP : va_P (dC, dI) classes (wK ad cI cF ((upd k 3 1)) act txt F pr) H := hP
    have hD : va_D A (wK ad cI cF ((upd k 3 1)) act txt F pr) := hD
    refine lv_aload_n hx hb d_ModeKeeper_alarm_14 rfl (lv_at hl 0 rfl) ?_
    refine lv_iload_n hx hb d_ModeKeeper_alarm_15 rfl (lv_at hl 1 rfl) ?_
    refine va_put (D := (dC, dI)) (ci := 0) (v := .int t0) (ty := .int) (C := R_ModeKeeper) (T := F_ModeKeeper) (N := 9) hx hb hq iw_K t_ModeKeeper t_ModeKeeper_ok n_ModeKeeper hown hK hP hD hS 0 rfl rfl 4 (by decide) (hq _ qk_22) (fun _ h9 => h9) rfl (by decide +kernel) rfl rfl (Nat.le_of_ble_eq_true rfl) d_ModeKeeper_alarm_16 (fun H locs hP hD hS => ?_)
    have hP : va_P (dC, dI) classes (wK ad cI cF ((upd (upd k 3 1) 4 t0)) act txt F pr) H := hP
    have hD : va_D A (wK ad cI cF ((upd (upd k 3 1) 4 t0)) act txt F pr) := hD
    refine lv_iconst (v := 1) hx hb d_ModeKeeper_alarm_19 (by decide) ?_
    have e_k : (kAlK k t0) = (upd (upd k 3 1) 4 t0) := (by simp only [kAlR, kAlK, if_pos c_1] <;> rfl)
    have hP9 : va_P (dC, dI) classes (wK ad cI cF ((kAlK k t0)) act txt F pr) H := by rw [e_k]; exact hP
    have hD9 : va_D A (wK ad cI cF ((kAlK k t0)) act txt F pr) := by rw [e_k]; exact hD
    exact W.zret (v := 1) hx hb hrt rfl (fun t ht hW => ⟨⟨1, (), rfl, (by simp only [kAlR, kAlK, if_pos c_1] <;> rfl), by rw [ht]; exact hP9, hD9⟩, hS.F ht⟩) hS.2.2 d_ModeKeeper_alarm_20
  · refine lv_iconst (v := 0) hx hb d_ModeKeeper_alarm_7 (by decide) ?_
    have e_k : (kAlK k t0) = k := (by simp only [kAlR, kAlK, if_neg c_1] <;> rfl)
    have hP9 : va_P (dC, dI) classes (wK ad cI cF ((kAlK k t0)) act txt F pr) s.heap := by rw [e_k]; exact hP
    have hD9 : va_D A (wK ad cI cF ((kAlK k t0)) act txt F pr) := by rw [e_k]; exact hD
    exact W.zret (v := 0) hx hb hrt rfl (fun t ht hW => ⟨⟨0, (), rfl, (by simp only [kAlR, kAlK, if_neg c_1] <;> rfl), by rw [ht]; exact hP9, hD9⟩, hS.F ht⟩) hS.2.2 d_ModeKeeper_alarm_8
set_option maxHeartbeats 4000000 in
set_option maxRecDepth 100000 in
theorem c_ModeKeeper_look (l : Launch) (dC : Nat → ClassId) (dI : Nat → Nat → Nat) (ad : Nat → Nat) (sz : Nat) (cI cF : ClassId) (k act txt : Nat → Int32) (F pr : Nat → Nat → Int32) (t0 : Int32) (tS : Nat) : Met l y_ModeKeeper_look w_ModeKeeper_look ({ frames := 2, cells := 0, slots := 0, locals := 39 }) (va_Pc [.ref (ad 0), .int t0] (gPz (dC, dI) classes (tyK cI cF) (wK ad cI cF k act txt F pr) sz tS)) (va_Qi (fun r (_ : Unit) => r = (kLkR k t0)) (fun _ t => gB (dC, dI) classes (va_A (wK ad cI cF k act txt F pr) sz) (wK ad cI cF ((kLkK k t0)) ((kLkA k act t0)) txt F pr) t) (va_A (wK ad cI cF k act txt F pr) sz)) 0 0 (va_A (wK ad cI cF k act txt F pr) sz) := by
  refine Met.ofW (cc := b_ModeKeeper_look) (maxL := 2) (ret := (some .boolean)) (by decide) rfl ?_
  intro p e s m args below meth c s₁ B hml hv
  obtain ⟨rfl, ⟨hsz, hP, hK, hD0, hN⟩, hZ⟩ := hv
  have hx := B.exec
  have hb := B.bytes
  have hrt := B.returns
  have hq : ∀ w ∈ wAll, w.before ([.ref (ad 0), .int t0] : List Value).toArray s = true := fun w h => atoms_spec (ws := w_ModeKeeper_look) B.pre w (List.mem_cons_of_mem _ h)
  have hown : s.vm.findClass R_ModeKeeper = some m.cls := findClass_of_methodNamed B.named
  have hlocks := B.notSynchronized
  subst hsz
  have hD := hD0.self (sz := s.heap.size)
  generalize hAe : va_A (wK ad cI cF k act txt F pr) s.heap.size = A at hD hZ ⊢
  have hA : ∀ q : Nat, s.heap.size ≤ q → A q := fun q h => by rw [← hAe]; exact Or.inr h
  have hS : va_S A s.heap s.heap [] := va_S.rf
  have hl := lv_entry ([.ref (ad 0), .int t0]) (n := 2) (Nat.le_of_ble_eq_true rfl)
  rw [lg_entry_eq]
  generalize (lg_sl ([.ref (ad 0), .int t0]) ++ List.replicate (2 - (lg_sl ([.ref (ad 0), .int t0])).length) Slot.unset).toArray = ls at hl ⊢
  have hl : lv_has ls 2 [(0, .ref (ad 0)), (1, .int t0)] := hl
  refine lv_aload_n hx hb d_ModeKeeper_look_0 rfl (lv_at hl 0 rfl) ?_
  refine va_get (D := (dC, dI)) (ci := 0) (v := .int (k 3)) (C := R_ModeKeeper) (T := F_ModeKeeper) (N := 9) hx hb hq iw_K hown hK hP 0 rfl rfl 3 (by decide) (hq _ qk_21) (fun _ h9 => h9) rfl d_ModeKeeper_look_1 ?_
  refine lv_if_eq (tgt := 15) hx hb d_ModeKeeper_look_4 (by decide) (fun c_1 => ?_) (fun c_1 => ?_)
  · refine lv_iconst (v := 0) hx hb d_ModeKeeper_look_15 (by decide) ?_
    have e_k : (kLkK k t0) = k := (by simp only [kLkR, kLkK, kLkA, if_pos c_1] <;> rfl)
    have e_act : (kLkA k act t0) = act := (by simp only [kLkR, kLkK, kLkA, if_pos c_1] <;> rfl)
    have hP9 : va_P (dC, dI) classes (wK ad cI cF ((kLkK k t0)) ((kLkA k act t0)) txt F pr) s.heap := by rw [e_k, e_act]; exact hP
    have hD9 : va_D A (wK ad cI cF ((kLkK k t0)) ((kLkA k act t0)) txt F pr) := by rw [e_k, e_act]; exact hD
    exact W.zret (v := 0) hx hb hrt rfl (fun t ht hW => ⟨⟨0, (), rfl, (by simp only [kLkR, kLkK, kLkA, if_pos c_1] <;> rfl), by rw [ht]; exact hP9, hD9⟩, hS.F ht⟩) hS.2.2 d_ModeKeeper_look_16
  · refine lv_aload_n hx hb d_ModeKeeper_look_7 rfl (lv_at hl 0 rfl) ?_
    refine va_get (D := (dC, dI)) (ci := 0) (v := .int (k 4)) (C := R_ModeKeeper) (T := F_ModeKeeper) (N := 9) hx hb hq iw_K hown hK hP 0 rfl rfl 4 (by decide) (hq _ qk_22) (fun _ h9 => h9) rfl d_ModeKeeper_look_8 ?_
    refine lv_iload_n hx hb d_ModeKeeper_look_11 rfl (lv_at hl 1 rfl) ?_
    refine lv_icmp_le (tgt := 17) hx hb d_ModeKeeper_look_12 (by decide) (fun c_2 => ?_) (fun c_2 => ?_)
    · refine lv_aload_n hx hb d_ModeKeeper_look_17 rfl (lv_at hl 0 rfl) ?_
      refine lv_iconst (v := 0) hx hb d_ModeKeeper_look_18 (by decide) ?_
      refine va_put (D := (dC, dI)) (ci := 0) (v := .int 0) (ty := .boolean) (C := R_ModeKeeper) (T := F_ModeKeeper) (N := 9) hx hb hq iw_K t_ModeKeeper t_ModeKeeper_ok n_ModeKeeper hown hK hP hD hS 0 rfl rfl 3 (by decide) (hq _ qk_21) (fun _ h9 => h9) rfl (by decide +kernel) rfl rfl (Nat.le_of_ble_eq_true rfl) d_ModeKeeper_look_19 (fun H locs hP hD hS => ?_)
      have hP : va_P (dC, dI) classes (wK ad cI cF ((upd k 3 0)) act txt F pr) H := hP
      have hD : va_D A (wK ad cI cF ((upd k 3 0)) act txt F pr) := hD
      refine lv_aload_n hx hb d_ModeKeeper_look_22 rfl (lv_at hl 0 rfl) ?_
      refine lv_iconst (v := 0) hx hb d_ModeKeeper_look_23 (by decide) ?_
      refine g_calli (va_runV (As := [.int 0]) (rest := []) ⟨hx, hb, hml, hown, hq⟩ (c_ModeKeeper_changeMode l dC dI ad H.size cI cF ((upd k 3 0)) act txt F pr 0 tS) ⟨callB_of 1 hq (gd m_ModeKeeper_changeMode) rfl rfl rfl (hq _ qk_10) (hq _ qk_18) (by decide +kernel) ⟨Nat.le_of_ble_eq_true rfl, Nat.le_of_ble_eq_true rfl⟩, (hq _ qk_19), (hq _ qk_20)⟩ ⟨g_blindZ, va_recv hK hP (ci := 0) (q0 := 0) rfl rfl, g_preZ hP hK hD hN (hZ.pass hD hS hA)⟩ rfl rfl hl.1 rfl (lv_room (Nat.le_of_ble_eq_true rfl)) d_ModeKeeper_look_24 ⟨Nat.zero_le _, Nat.zero_le _⟩) hD hS hA (fun r H locs hr hP hD hS => ?_)
      subst hr
      have e_k : (kLkK k t0) = (kChK ((upd k 3 0)) 0) := (by simp only [kLkR, kLkK, kLkA, if_neg c_1, if_pos c_2] <;> rfl)
      have e_act : (kLkA k act t0) = (kChA ((upd k 3 0)) act 0) := (by simp only [kLkR, kLkK, kLkA, if_neg c_1, if_pos c_2] <;> rfl)
      have hP9 : va_P (dC, dI) classes (wK ad cI cF ((kLkK k t0)) ((kLkA k act t0)) txt F pr) H := by rw [e_k, e_act]; exact hP
      have hD9 : va_D A (wK ad cI cF ((kLkK k t0)) ((kLkA k act t0)) txt F pr) := by rw [e_k, e_act]; exact hD
      exact W.zret (v := (kChR ((upd k 3 0)) 0)) hx hb hrt (g_nar (kChR_01 _ _)) (fun t ht hW => ⟨⟨(kChR ((upd k 3 0)) 0), (), rfl, (by simp only [kLkR, kLkK, kLkA, if_neg c_1, if_pos c_2] <;> rfl), by rw [ht]; exact hP9, hD9⟩, hS.F ht⟩) hS.2.2 d_ModeKeeper_look_27
    · refine lv_iconst (v := 0) hx hb d_ModeKeeper_look_15 (by decide) ?_
      have e_k : (kLkK k t0) = k := (by simp only [kLkR, kLkK, kLkA, if_neg c_1, if_neg c_2] <;> rfl)
      have e_act : (kLkA k act t0) = act := (by simp only [kLkR, kLkK, kLkA, if_neg c_1, if_neg c_2] <;> rfl)
      have hP9 : va_P (dC, dI) classes (wK ad cI cF ((kLkK k t0)) ((kLkA k act t0)) txt F pr) s.heap := by rw [e_k, e_act]; exact hP
      have hD9 : va_D A (wK ad cI cF ((kLkK k t0)) ((kLkA k act t0)) txt F pr) := by rw [e_k, e_act]; exact hD
      exact W.zret (v := 0) hx hb hrt rfl (fun t ht hW => ⟨⟨0, (), rfl, (by simp only [kLkR, kLkK, kLkA, if_neg c_1, if_neg c_2] <;> rfl), by rw [ht]; exact hP9, hD9⟩, hS.F ht⟩) hS.2.2 d_ModeKeeper_look_16
set_option maxHeartbeats 4000000 in
set_option maxRecDepth 100000 in
theorem c_ModeKeeper_put (l : Launch) (dC : Nat → ClassId) (dI : Nat → Nat → Nat) (ad : Nat → Nat) (sz : Nat) (cI cF : ClassId) (k act txt : Nat → Int32) (F pr : Nat → Nat → Int32) (x : Int32) (t : Nat) (ht8 : t ≤ 8) (hk6 : k 6 = nI t) : Met l y_ModeKeeper_put w_ModeKeeper_put ({ frames := 0, cells := 0, slots := 0, locals := 0 }) (va_Pc [.ref (ad 0), .int x] (gP (dC, dI) classes (tyK cI cF) (wK ad cI cF k act txt F pr) sz)) (va_Qi (fun r (_ : Unit) => r = (kPuR k x)) (fun _ t => gB (dC, dI) classes (va_A (wK ad cI cF k act txt F pr) sz) (wK ad cI cF ((kPuK k x)) act ((kPuT k txt x)) F pr) t) (va_A (wK ad cI cF k act txt F pr) sz)) 0 0 (va_A (wK ad cI cF k act txt F pr) sz) := by
  refine Met.ofW (cc := b_ModeKeeper_put) (maxL := 2) (ret := (some .int)) (by decide) rfl ?_
  intro p e s m args below meth c s₁ B hml hv
  obtain ⟨rfl, hsz, hP, hK, hD0, hN⟩ := hv
  have hx := B.exec
  have hb := B.bytes
  have hrt := B.returns
  have hq : ∀ w ∈ wAll, w.before ([.ref (ad 0), .int x] : List Value).toArray s = true := fun w h => atoms_spec (ws := w_ModeKeeper_put) B.pre w (List.mem_cons_of_mem _ h)
  have hown : s.vm.findClass R_ModeKeeper = some m.cls := findClass_of_methodNamed B.named
  have hlocks := B.notSynchronized
  subst hsz
  have hD := hD0.self (sz := s.heap.size)
  generalize hAe : va_A (wK ad cI cF k act txt F pr) s.heap.size = A at hD ⊢
  have hA : ∀ q : Nat, s.heap.size ≤ q → A q := fun q h => by rw [← hAe]; exact Or.inr h
  have hS : va_S A s.heap s.heap [] := va_S.rf
  have hl := lv_entry ([.ref (ad 0), .int x]) (n := 2) (Nat.le_of_ble_eq_true rfl)
  rw [lg_entry_eq]
  generalize (lg_sl ([.ref (ad 0), .int x]) ++ List.replicate (2 - (lg_sl ([.ref (ad 0), .int x])).length) Slot.unset).toArray = ls at hl ⊢
  have hl : lv_has ls 2 [(0, .ref (ad 0)), (1, .int x)] := hl
  refine lv_iload_n hx hb d_ModeKeeper_put_0 rfl (lv_at hl 1 rfl) ?_
  refine lv_if_lt (tgt := 19) hx hb d_ModeKeeper_put_1 (by decide) (fun c_1 => ?_) (fun c_1 => ?_)
  · refine lv_iconst (v := (-1)) hx hb d_ModeKeeper_put_19 (by decide) ?_
    have e_k : (kPuK k x) = k := (by simp only [kPuR, kPuK, kPuT, if_pos c_1] <;> rfl)
    have e_txt : (kPuT k txt x) = txt := (by simp only [kPuR, kPuK, kPuT, if_pos c_1] <;> rfl)
    have hP9 : va_P (dC, dI) classes (wK ad cI cF ((kPuK k x)) act ((kPuT k txt x)) F pr) s.heap := by rw [e_k, e_txt]; exact hP
    have hD9 : va_D A (wK ad cI cF ((kPuK k x)) act ((kPuT k txt x)) F pr) := by rw [e_k, e_txt]; exact hD
    exact W.iret (v := (-1)) hx hb hrt (fun t ht hW => ⟨⟨(-1), (), rfl, (by simp only [kPuR, kPuK, kPuT, if_pos c_1] <;> rfl), by rw [ht]; exact hP9, hD9⟩, hS.F ht⟩) hS.2.2 d_ModeKeeper_put_20
  · refine lv_iload_n hx hb d_ModeKeeper_put_4 rfl (lv_at hl 1 rfl) ?_
    refine lv_bipush (v := 31) hx hb d_ModeKeeper_put_5 (by decide) ?_
    refine lv_icmp_gt (tgt := 19) hx hb d_ModeKeeper_put_7 (by decide) (fun c_2 => ?_) (fun c_2 => ?_)
    · refine lv_iconst (v := (-1)) hx hb d_ModeKeeper_put_19 (by decide) ?_
      have e_k : (kPuK k x) = k := (by simp only [kPuR, kPuK, kPuT, if_neg c_1, if_pos c_2] <;> rfl)
      have e_txt : (kPuT k txt x) = txt := (by simp only [kPuR, kPuK, kPuT, if_neg c_1, if_pos c_2] <;> rfl)
      have hP9 : va_P (dC, dI) classes (wK ad cI cF ((kPuK k x)) act ((kPuT k txt x)) F pr) s.heap := by rw [e_k, e_txt]; exact hP
      have hD9 : va_D A (wK ad cI cF ((kPuK k x)) act ((kPuT k txt x)) F pr) := by rw [e_k, e_txt]; exact hD
      exact W.iret (v := (-1)) hx hb hrt (fun t ht hW => ⟨⟨(-1), (), rfl, (by simp only [kPuR, kPuK, kPuT, if_neg c_1, if_pos c_2] <;> rfl), by rw [ht]; exact hP9, hD9⟩, hS.F ht⟩) hS.2.2 d_ModeKeeper_put_20
    · refine lv_aload_n hx hb d_ModeKeeper_put_10 rfl (lv_at hl 0 rfl) ?_
      refine va_get (D := (dC, dI)) (ci := 0) (v := .int (k 6)) (C := R_ModeKeeper) (T := F_ModeKeeper) (N := 9) hx hb hq iw_K hown hK hP 0 rfl rfl 6 (by decide) (hq _ qk_9) (fun _ h9 => h9) rfl d_ModeKeeper_put_11 ?_
      refine lv_bipush (v := 8) hx hb d_ModeKeeper_put_14 (by decide) ?_
      refine lv_icmp_lt (tgt := 21) hx hb d_ModeKeeper_put_16 (by decide) (fun c_3 => ?_) (fun c_3 => ?_)
      · refine lv_aload_n hx hb d_ModeKeeper_put_21 rfl (lv_at hl 0 rfl) ?_
        refine va_get (D := (dC, dI)) (ci := 0) (v := .ref (ad 2)) (C := R_ModeKeeper) (T := F_ModeKeeper) (N := 9) hx hb hq iw_K hown hK hP 0 rfl rfl 5 (by decide) (hq _ qk_15) (fun _ h9 => h9) rfl d_ModeKeeper_put_22 ?_
        refine lv_aload_n hx hb d_ModeKeeper_put_25 rfl (lv_at hl 0 rfl) ?_
        refine va_get (D := (dC, dI)) (ci := 0) (v := .int (k 6)) (C := R_ModeKeeper) (T := F_ModeKeeper) (N := 9) hx hb hq iw_K hown hK hP 0 rfl rfl 6 (by decide) (hq _ qk_9) (fun _ h9 => h9) rfl d_ModeKeeper_put_26 ?_
        refine lv_iload_n hx hb d_ModeKeeper_put_29 rfl (lv_at hl 1 rfl) ?_
        refine va_iast (D := (dC, dI)) hx hb hK hP hD hS 2 0 rfl rfl (by show vp_in (k 6) 8; rw [hk6] at c_3 ⊢; exact vp_in_nI ((nI_ltI (by omega) (by decide)).mp c_3) (by decide)) d_ModeKeeper_put_30 (fun H locs hP hD hS => ?_)
        have hP : va_P (dC, dI) classes (wK ad cI cF k act ((upd txt ((k 6)).toNatClampNeg x)) F pr) H := hP
        have hD : va_D A (wK ad cI cF k act ((upd txt ((k 6)).toNatClampNeg x)) F pr) := hD
        refine lv_aload_n hx hb d_ModeKeeper_put_31 rfl (lv_at hl 0 rfl) ?_
        refine lv_dup hx hb d_ModeKeeper_put_32 rfl ?_
        refine va_get (D := (dC, dI)) (ci := 0) (v := .int (k 6)) (C := R_ModeKeeper) (T := F_ModeKeeper) (N := 9) hx hb hq iw_K hown hK hP 0 rfl rfl 6 (by decide) (hq _ qk_9) (fun _ h9 => h9) rfl d_ModeKeeper_put_33 ?_
        refine lv_iconst (v := 1) hx hb d_ModeKeeper_put_36 (by decide) ?_
        refine lv_iadd hx hb d_ModeKeeper_put_37 ?_
        refine va_put (D := (dC, dI)) (ci := 0) (v := .int ((k 6) + 1)) (ty := .int) (C := R_ModeKeeper) (T := F_ModeKeeper) (N := 9) hx hb hq iw_K t_ModeKeeper t_ModeKeeper_ok n_ModeKeeper hown hK hP hD hS 0 rfl rfl 6 (by decide) (hq _ qk_9) (fun _ h9 => h9) rfl (by decide +kernel) rfl rfl (Nat.le_of_ble_eq_true rfl) d_ModeKeeper_put_38 (fun H locs hP hD hS => ?_)
        have hP : va_P (dC, dI) classes (wK ad cI cF ((upd k 6 (((k 6) + 1)))) act ((upd txt ((k 6)).toNatClampNeg x)) F pr) H := hP
        have hD : va_D A (wK ad cI cF ((upd k 6 (((k 6) + 1)))) act ((upd txt ((k 6)).toNatClampNeg x)) F pr) := hD
        refine lv_aload_n hx hb d_ModeKeeper_put_41 rfl (lv_at hl 0 rfl) ?_
        refine va_get (D := (dC, dI)) (ci := 0) (v := .int ((upd k 6 (((k 6) + 1))) 6)) (C := R_ModeKeeper) (T := F_ModeKeeper) (N := 9) hx hb hq iw_K hown hK hP 0 rfl rfl 6 (by decide) (hq _ qk_9) (fun _ h9 => h9) rfl d_ModeKeeper_put_42 ?_
        have e_k : (kPuK k x) = (upd k 6 (((k 6) + 1))) := (by simp only [kPuR, kPuK, kPuT, if_neg c_1, if_neg c_2, if_pos c_3] <;> rfl)
        have e_txt : (kPuT k txt x) = (upd txt ((k 6)).toNatClampNeg x) := (by simp only [kPuR, kPuK, kPuT, if_neg c_1, if_neg c_2, if_pos c_3] <;> rfl)
        have hP9 : va_P (dC, dI) classes (wK ad cI cF ((kPuK k x)) act ((kPuT k txt x)) F pr) H := by rw [e_k, e_txt]; exact hP
        have hD9 : va_D A (wK ad cI cF ((kPuK k x)) act ((kPuT k txt x)) F pr) := by rw [e_k, e_txt]; exact hD
        exact W.iret (v := ((upd k 6 (((k 6) + 1))) 6)) hx hb hrt (fun t ht hW => ⟨⟨((upd k 6 (((k 6) + 1))) 6), (), rfl, (by simp only [kPuR, kPuK, kPuT, if_neg c_1, if_neg c_2, if_pos c_3] <;> rfl), by rw [ht]; exact hP9, hD9⟩, hS.F ht⟩) hS.2.2 d_ModeKeeper_put_45
      · refine lv_iconst (v := (-1)) hx hb d_ModeKeeper_put_19 (by decide) ?_
        have e_k : (kPuK k x) = k := (by simp only [kPuR, kPuK, kPuT, if_neg c_1, if_neg c_2, if_neg c_3] <;> rfl)
        have e_txt : (kPuT k txt x) = txt := (by simp only [kPuR, kPuK, kPuT, if_neg c_1, if_neg c_2, if_neg c_3] <;> rfl)
        have hP9 : va_P (dC, dI) classes (wK ad cI cF ((kPuK k x)) act ((kPuT k txt x)) F pr) s.heap := by rw [e_k, e_txt]; exact hP
        have hD9 : va_D A (wK ad cI cF ((kPuK k x)) act ((kPuT k txt x)) F pr) := by rw [e_k, e_txt]; exact hD
        exact W.iret (v := (-1)) hx hb hrt (fun t ht hW => ⟨⟨(-1), (), rfl, (by simp only [kPuR, kPuK, kPuT, if_neg c_1, if_neg c_2, if_neg c_3] <;> rfl), by rw [ht]; exact hP9, hD9⟩, hS.F ht⟩) hS.2.2 d_ModeKeeper_put_20
