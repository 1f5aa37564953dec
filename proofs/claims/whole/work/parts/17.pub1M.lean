set_option maxHeartbeats 4000000 in
set_option maxRecDepth 100000 in
theorem c_Model_move (l : Launch) (dC : Nat → ClassId) (dI : Nat → Nat → Nat) (bd : Nat → Nat) (sz : Nat) (cI cZ : ClassId) (j ac tx ev on mn pm : Nat → Int32) (a v : Int32) : Met l y_Model_move w_Model_move ({ frames := 0, cells := 0, slots := 0, locals := 0 }) (va_Pc [.ref (bd 0), .int a, .int v] (gP (dC, dI) classes (tyM cI cZ) (wM bd cI cZ j ac tx ev on mn pm) sz)) (va_Qi (fun r (_ : Unit) => r = (mMvR j a)) (fun _ t => gB (dC, dI) classes (va_A (wM bd cI cZ j ac tx ev on mn pm) sz) (wM bd cI cZ ((upd j 0 0)) ((mMvA j ac a v)) tx ev on mn pm) t) (va_A (wM bd cI cZ j ac tx ev on mn pm) sz)) 0 0 (va_A (wM bd cI cZ j ac tx ev on mn pm) sz) := by
  refine Met.ofW (cc := b_Model_move) (maxL := 3) (ret := (some .int)) (by decide) rfl ?_
  intro p e s m args below meth c s₁ B hml hv
  obtain ⟨rfl, hsz, hP, hK, hD0, hN⟩ := hv
  have hx := B.exec
  have hb := B.bytes
  have hrt := B.returns
  have hq : ∀ w ∈ wAll, w.before ([.ref (bd 0), .int a, .int v] : List Value).toArray s = true := fun w h => atoms_spec (ws := w_Model_move) B.pre w (List.mem_cons_of_mem _ h)
  have hown : s.vm.findClass R_Model = some m.cls := findClass_of_methodNamed B.named
  have hlocks := B.notSynchronized
  subst hsz
  have hD := hD0.self (sz := s.heap.size)
  generalize hAe : va_A (wM bd cI cZ j ac tx ev on mn pm) s.heap.size = A at hD ⊢
  have hA : ∀ q : Nat, s.heap.size ≤ q → A q := fun q h => by rw [← hAe]; exact Or.inr h
  have hS : va_S A s.heap s.heap [] := va_S.rf
  have hl := lv_entry ([.ref (bd 0), .int a, .int v]) (n := 3) (Nat.le_of_ble_eq_true rfl)
  rw [lg_entry_eq]
  generalize (lg_sl ([.ref (bd 0), .int a, .int v]) ++ List.replicate (3 - (lg_sl ([.ref (bd 0), .int a, .int v])).length) Slot.unset).toArray = ls at hl ⊢
  have hl : lv_has ls 3 [(0, .ref (bd 0)), (1, .int a), (2, .int v)] := hl
  refine lv_aload_n hx hb d_Model_move_0 rfl (lv_at hl 0 rfl) ?_
  refine lv_iconst (v := 0) hx hb d_Model_move_1 (by decide) ?_
  refine va_put (D := (dC, dI)) (ci := 2) (v := .int 0) (ty := .int) (C := R_Model) (T := F_Model) (N := 12) hx hb hq iw_M t_Model t_Model_ok n_Model hown hK hP hD hS 0 rfl rfl 0 (by decide) (hq _ qm_4) (fun _ h9 => h9) rfl (by decide +kernel) rfl rfl (Nat.le_of_ble_eq_true rfl) d_Model_move_2 (fun H locs hP hD hS => ?_)
  have hP : va_P (dC, dI) classes (wM bd cI cZ ((upd j 0 0)) ac tx ev on mn pm) H := hP
  have hD : va_D A (wM bd cI cZ ((upd j 0 0)) ac tx ev on mn pm) := hD
  refine lv_iload_n hx hb d_Model_move_5 rfl (lv_at hl 1 rfl) ?_
  refine lv_if_lt (tgt := 15) hx hb d_Model_move_6 (by decide) (fun c_1 => ?_) (fun c_1 => ?_)
  · refine lv_bipush (v := 18) hx hb d_Model_move_15 (by decide) ?_
    have e_ac : (mMvA j ac a v) = ac := (by simp only [mMvR, mMvA, if_pos c_1] <;> rfl)
    have hP9 : va_P (dC, dI) classes (wM bd cI cZ ((upd j 0 0)) ((mMvA j ac a v)) tx ev on mn pm) H := by rw [e_ac]; exact hP
    have hD9 : va_D A (wM bd cI cZ ((upd j 0 0)) ((mMvA j ac a v)) tx ev on mn pm) := by rw [e_ac]; exact hD
    exact W.iret (v := 18) hx hb hrt (fun t ht hW => ⟨⟨18, (), rfl, (by simp only [mMvR, mMvA, if_pos c_1] <;> rfl), by rw [ht]; exact hP9, hD9⟩, hS.F ht⟩) hS.2.2 d_Model_move_17
  · refine lv_iload_n hx hb d_Model_move_9 rfl (lv_at hl 1 rfl) ?_
    refine lv_bipush (v := 7) hx hb d_Model_move_10 (by decide) ?_
    refine lv_icmp_le (tgt := 18) hx hb d_Model_move_12 (by decide) (fun c_2 => ?_) (fun c_2 => ?_)
    · refine lv_aload_n hx hb d_Model_move_18 rfl (lv_at hl 0 rfl) ?_
      refine va_get (D := (dC, dI)) (ci := 2) (v := .int (j 1)) (C := R_Model) (T := F_Model) (N := 12) hx hb hq iw_M hown hK hP 0 rfl rfl 1 (by decide) (hq _ qm_1) (fun _ h9 => h9) rfl d_Model_move_19 ?_
      refine lv_if_ne (tgt := 28) hx hb d_Model_move_22 (by decide) (fun c_3 => ?_) (fun c_3 => ?_)
      · refine lv_aload_n hx hb d_Model_move_28 rfl (lv_at hl 0 rfl) ?_
        refine va_get (D := (dC, dI)) (ci := 2) (v := .ref (bd 1)) (C := R_Model) (T := F_Model) (N := 12) hx hb hq iw_M hown hK hP 0 rfl rfl 2 (by decide) (hq _ qm_3) (fun _ h9 => h9) rfl d_Model_move_29 ?_
        refine lv_iload_n hx hb d_Model_move_32 rfl (lv_at hl 1 rfl) ?_
        refine lv_iload_n hx hb d_Model_move_33 rfl (lv_at hl 2 rfl) ?_
        refine va_iast (D := (dC, dI)) hx hb hK hP hD hS 1 0 rfl rfl (m_in2 (N := 7) (by decide) c_1 c_2) d_Model_move_34 (fun H locs hP hD hS => ?_)
        have hP : va_P (dC, dI) classes (wM bd cI cZ ((upd j 0 0)) ((upd ac a.toNatClampNeg v)) tx ev on mn pm) H := hP
        have hD : va_D A (wM bd cI cZ ((upd j 0 0)) ((upd ac a.toNatClampNeg v)) tx ev on mn pm) := hD
        refine lv_iconst (v := 0) hx hb d_Model_move_35 (by decide) ?_
        have e_ac : (mMvA j ac a v) = (upd ac a.toNatClampNeg v) := (by simp only [mMvR, mMvA, if_neg c_1, if_pos c_2, if_neg c_3] <;> rfl)
        have hP9 : va_P (dC, dI) classes (wM bd cI cZ ((upd j 0 0)) ((mMvA j ac a v)) tx ev on mn pm) H := by rw [e_ac]; exact hP
        have hD9 : va_D A (wM bd cI cZ ((upd j 0 0)) ((mMvA j ac a v)) tx ev on mn pm) := by rw [e_ac]; exact hD
        exact W.iret (v := 0) hx hb hrt (fun t ht hW => ⟨⟨0, (), rfl, (by simp only [mMvR, mMvA, if_neg c_1, if_pos c_2, if_neg c_3] <;> rfl), by rw [ht]; exact hP9, hD9⟩, hS.F ht⟩) hS.2.2 d_Model_move_36
      · refine lv_bipush (v := 19) hx hb d_Model_move_25 (by decide) ?_
        have e_ac : (mMvA j ac a v) = ac := (by simp only [mMvR, mMvA, if_neg c_1, if_pos c_2, if_pos c_3] <;> rfl)
        have hP9 : va_P (dC, dI) classes (wM bd cI cZ ((upd j 0 0)) ((mMvA j ac a v)) tx ev on mn pm) H := by rw [e_ac]; exact hP
        have hD9 : va_D A (wM bd cI cZ ((upd j 0 0)) ((mMvA j ac a v)) tx ev on mn pm) := by rw [e_ac]; exact hD
        exact W.iret (v := 19) hx hb hrt (fun t ht hW => ⟨⟨19, (), rfl, (by simp only [mMvR, mMvA, if_neg c_1, if_pos c_2, if_pos c_3] <;> rfl), by rw [ht]; exact hP9, hD9⟩, hS.F ht⟩) hS.2.2 d_Model_move_27
    · refine lv_bipush (v := 18) hx hb d_Model_move_15 (by decide) ?_
      have e_ac : (mMvA j ac a v) = ac := (by simp only [mMvR, mMvA, if_neg c_1, if_neg c_2] <;> rfl)
      have hP9 : va_P (dC, dI) classes (wM bd cI cZ ((upd j 0 0)) ((mMvA j ac a v)) tx ev on mn pm) H := by rw [e_ac]; exact hP
      have hD9 : va_D A (wM bd cI cZ ((upd j 0 0)) ((mMvA j ac a v)) tx ev on mn pm) := by rw [e_ac]; exact hD
      exact W.iret (v := 18) hx hb hrt (fun t ht hW => ⟨⟨18, (), rfl, (by simp only [mMvR, mMvA, if_neg c_1, if_neg c_2] <;> rfl), by rw [ht]; exact hP9, hD9⟩, hS.F ht⟩) hS.2.2 d_Model_move_17
set_option maxHeartbeats 4000000 in
set_option maxRecDepth 100000 in
theorem c_Model_enter (l : Launch) (dC : Nat → ClassId) (dI : Nat → Nat → Nat) (bd : Nat → Nat) (sz : Nat) (cI cZ : ClassId) (j ac tx ev on mn pm : Nat → Int32) (m0 : Int32) : Met l y_Model_enter w_Model_enter ({ frames := 1, cells := 0, slots := 0, locals := 23 }) (va_Pc [.ref (bd 0), .int m0] (gP (dC, dI) classes (tyM cI cZ) (wM bd cI cZ j ac tx ev on mn pm) sz)) (va_Qi (fun r (_ : Unit) => r = (mEnR j m0)) (fun _ t => gB (dC, dI) classes (va_A (wM bd cI cZ j ac tx ev on mn pm) sz) (wM bd cI cZ ((mEnJ j m0)) ((mEnA j ac m0)) tx ev on mn pm) t) (va_A (wM bd cI cZ j ac tx ev on mn pm) sz)) 0 0 (va_A (wM bd cI cZ j ac tx ev on mn pm) sz) := by
  refine Met.ofW (cc := b_Model_enter) (maxL := 3) (ret := (some .int)) (by decide) rfl ?_
  intro p e s m args below meth c s₁ B hml hv
  obtain ⟨rfl, hsz, hP, hK, hD0, hN⟩ := hv
  have hx := B.exec
  have hb := B.bytes
  have hrt := B.returns
  have hq : ∀ w ∈ wAll, w.before ([.ref (bd 0), .int m0] : List Value).toArray s = true := fun w h => atoms_spec (ws := w_Model_enter) B.pre w (List.mem_cons_of_mem _ h)
  have hown : s.vm.findClass R_Model = some m.cls := findClass_of_methodNamed B.named
  have hlocks := B.notSynchronized
  subst hsz
  have hD := hD0.self (sz := s.heap.size)
  generalize hAe : va_A (wM bd cI cZ j ac tx ev on mn pm) s.heap.size = A at hD ⊢
  have hA : ∀ q : Nat, s.heap.size ≤ q → A q := fun q h => by rw [← hAe]; exact Or.inr h
  have hS : va_S A s.heap s.heap [] := va_S.rf
  have hl := lv_entry ([.ref (bd 0), .int m0]) (n := 3) (Nat.le_of_ble_eq_true rfl)
  rw [lg_entry_eq]
  generalize (lg_sl ([.ref (bd 0), .int m0]) ++ List.replicate (3 - (lg_sl ([.ref (bd 0), .int m0])).length) Slot.unset).toArray = ls at hl ⊢
  have hl : lv_has ls 3 [(0, .ref (bd 0)), (1, .int m0)] := hl
  refine lv_aload_n hx hb d_Model_enter_0 rfl (lv_at hl 0 rfl) ?_
  refine lv_iconst (v := 0) hx hb d_Model_enter_1 (by decide) ?_
  refine va_put (D := (dC, dI)) (ci := 2) (v := .int 0) (ty := .int) (C := R_Model) (T := F_Model) (N := 12) hx hb hq iw_M t_Model t_Model_ok n_Model hown hK hP hD hS 0 rfl rfl 0 (by decide) (hq _ qm_4) (fun _ h9 => h9) rfl (by decide +kernel) rfl rfl (Nat.le_of_ble_eq_true rfl) d_Model_enter_2 (fun H locs hP hD hS => ?_)
  have hP : va_P (dC, dI) classes (wM bd cI cZ ((upd j 0 0)) ac tx ev on mn pm) H := hP
  have hD : va_D A (wM bd cI cZ ((upd j 0 0)) ac tx ev on mn pm) := hD
  refine lv_iload_n hx hb d_Model_enter_5 rfl (lv_at hl 1 rfl) ?_
  refine lv_if_lt (tgt := 14) hx hb d_Model_enter_6 (by decide) (fun c_1 => ?_) (fun c_1 => ?_)
  · refine lv_bipush (v := 18) hx hb d_Model_enter_14 (by decide) ?_
    have e_j : (mEnJ j m0) = (upd j 0 0) := (by simp only [mEnR, mEnJ, mEnA, if_pos c_1] <;> rfl)
    have e_ac : (mEnA j ac m0) = ac := (by simp only [mEnR, mEnJ, mEnA, if_pos c_1] <;> rfl)
    have hP9 : va_P (dC, dI) classes (wM bd cI cZ ((mEnJ j m0)) ((mEnA j ac m0)) tx ev on mn pm) H := by rw [e_j, e_ac]; exact hP
    have hD9 : va_D A (wM bd cI cZ ((mEnJ j m0)) ((mEnA j ac m0)) tx ev on mn pm) := by rw [e_j, e_ac]; exact hD
    exact W.iret (v := 18) hx hb hrt (fun t ht hW => ⟨⟨18, (), rfl, (by simp only [mEnR, mEnJ, mEnA, if_pos c_1] <;> rfl), by rw [ht]; exact hP9, hD9⟩, hS.F ht⟩) hS.2.2 d_Model_enter_16
  · refine lv_iload_n hx hb d_Model_enter_9 rfl (lv_at hl 1 rfl) ?_
    refine lv_iconst (v := 2) hx hb d_Model_enter_10 (by decide) ?_
    refine lv_icmp_le (tgt := 17) hx hb d_Model_enter_11 (by decide) (fun c_2 => ?_) (fun c_2 => ?_)
    · refine lv_aload_n hx hb d_Model_enter_17 rfl (lv_at hl 0 rfl) ?_
      refine va_get (D := (dC, dI)) (ci := 2) (v := .int (j 1)) (C := R_Model) (T := F_Model) (N := 12) hx hb hq iw_M hown hK hP 0 rfl rfl 1 (by decide) (hq _ qm_1) (fun _ h9 => h9) rfl d_Model_enter_18 ?_
      refine lv_if_ne (tgt := 32) hx hb d_Model_enter_21 (by decide) (fun c_3 => ?_) (fun c_3 => ?_)
      · refine lv_aload_n hx hb d_Model_enter_32 rfl (lv_at hl 0 rfl) ?_
        refine lv_iload_n hx hb d_Model_enter_33 rfl (lv_at hl 1 rfl) ?_
        refine g_calli (va_runV (As := [.int m0]) (rest := []) ⟨hx, hb, hml, hown, hq⟩ (c_Model_becomes l dC dI bd H.size cI cZ ((upd j 0 0)) ac tx ev on mn pm m0) ⟨callB_of 1 hq (gd m_Model_becomes) rfl rfl rfl (hq _ qm_5) (hq _ qm_6) (by decide +kernel) ⟨Nat.le_of_ble_eq_true rfl, Nat.le_of_ble_eq_true rfl⟩, (hq _ qm_7), (hq _ qm_8)⟩ ⟨g_blind, va_recv hK hP (ci := 2) (q0 := 0) rfl rfl, g_pre hP hK hD hN⟩ rfl rfl hl.1 rfl (lv_room (Nat.le_of_ble_eq_true rfl)) d_Model_enter_34 ⟨Nat.zero_le _, Nat.zero_le _⟩) hD hS hA (fun r H locs hr hP hD hS => ?_)
        subst hr
        refine lv_istore_n (lv' := [(2, .int (mBeR ((upd j 0 0)) m0)), (0, .ref (bd 0)), (1, .int m0)]) hx hb d_Model_enter_37 rfl hl (by decide) rfl (fun ls hl => ?_)
        refine lv_iconst (v := 0) hx hb d_Model_enter_38 (by decide) ?_
        have e_j : (mEnJ j m0) = (mBeJ ((upd j 0 0)) m0) := (by simp only [mEnR, mEnJ, mEnA, if_neg c_1, if_pos c_2, if_neg c_3] <;> rfl)
        have e_ac : (mEnA j ac m0) = (mBeA ((upd j 0 0)) ac m0) := (by simp only [mEnR, mEnJ, mEnA, if_neg c_1, if_pos c_2, if_neg c_3] <;> rfl)
        have hP9 : va_P (dC, dI) classes (wM bd cI cZ ((mEnJ j m0)) ((mEnA j ac m0)) tx ev on mn pm) H := by rw [e_j, e_ac]; exact hP
        have hD9 : va_D A (wM bd cI cZ ((mEnJ j m0)) ((mEnA j ac m0)) tx ev on mn pm) := by rw [e_j, e_ac]; exact hD
        exact W.iret (v := 0) hx hb hrt (fun t ht hW => ⟨⟨0, (), rfl, (by simp only [mEnR, mEnJ, mEnA, if_neg c_1, if_pos c_2, if_neg c_3] <;> rfl), by rw [ht]; exact hP9, hD9⟩, hS.F ht⟩) hS.2.2 d_Model_enter_39
      · refine lv_iload_n hx hb d_Model_enter_24 rfl (lv_at hl 1 rfl) ?_
        refine lv_iconst (v := 2) hx hb d_Model_enter_25 (by decide) ?_
        refine lv_icmp_ne (tgt := 32) hx hb d_Model_enter_26 (by decide) (fun c_4 => ?_) (fun c_4 => ?_)
        · refine lv_aload_n hx hb d_Model_enter_32 rfl (lv_at hl 0 rfl) ?_
          refine lv_iload_n hx hb d_Model_enter_33 rfl (lv_at hl 1 rfl) ?_
          refine g_calli (va_runV (As := [.int m0]) (rest := []) ⟨hx, hb, hml, hown, hq⟩ (c_Model_becomes l dC dI bd H.size cI cZ ((upd j 0 0)) ac tx ev on mn pm m0) ⟨callB_of 1 hq (gd m_Model_becomes) rfl rfl rfl (hq _ qm_5) (hq _ qm_6) (by decide +kernel) ⟨Nat.le_of_ble_eq_true rfl, Nat.le_of_ble_eq_true rfl⟩, (hq _ qm_7), (hq _ qm_8)⟩ ⟨g_blind, va_recv hK hP (ci := 2) (q0 := 0) rfl rfl, g_pre hP hK hD hN⟩ rfl rfl hl.1 rfl (lv_room (Nat.le_of_ble_eq_true rfl)) d_Model_enter_34 ⟨Nat.zero_le _, Nat.zero_le _⟩) hD hS hA (fun r H locs hr hP hD hS => ?_)
          subst hr
          refine lv_istore_n (lv' := [(2, .int (mBeR ((upd j 0 0)) m0)), (0, .ref (bd 0)), (1, .int m0)]) hx hb d_Model_enter_37 rfl hl (by decide) rfl (fun ls hl => ?_)
          refine lv_iconst (v := 0) hx hb d_Model_enter_38 (by decide) ?_
          have e_j : (mEnJ j m0) = (mBeJ ((upd j 0 0)) m0) := (by simp only [mEnR, mEnJ, mEnA, if_neg c_1, if_pos c_2, if_pos c_3, if_neg c_4] <;> rfl)
          have e_ac : (mEnA j ac m0) = (mBeA ((upd j 0 0)) ac m0) := (by simp only [mEnR, mEnJ, mEnA, if_neg c_1, if_pos c_2, if_pos c_3, if_neg c_4] <;> rfl)
          have hP9 : va_P (dC, dI) classes (wM bd cI cZ ((mEnJ j m0)) ((mEnA j ac m0)) tx ev on mn pm) H := by rw [e_j, e_ac]; exact hP
          have hD9 : va_D A (wM bd cI cZ ((mEnJ j m0)) ((mEnA j ac m0)) tx ev on mn pm) := by rw [e_j, e_ac]; exact hD
          exact W.iret (v := 0) hx hb hrt (fun t ht hW => ⟨⟨0, (), rfl, (by simp only [mEnR, mEnJ, mEnA, if_neg c_1, if_pos c_2, if_pos c_3, if_neg c_4] <;> rfl), by rw [ht]; exact hP9, hD9⟩, hS.F ht⟩) hS.2.2 d_Model_enter_39
        · refine lv_bipush (v := 19) hx hb d_Model_enter_29 (by decide) ?_
          have e_j : (mEnJ j m0) = (upd j 0 0) := (by simp only [mEnR, mEnJ, mEnA, if_neg c_1, if_pos c_2, if_pos c_3, if_pos c_4] <;> rfl)
          have e_ac : (mEnA j ac m0) = ac := (by simp only [mEnR, mEnJ, mEnA, if_neg c_1, if_pos c_2, if_pos c_3, if_pos c_4] <;> rfl)
          have hP9 : va_P (dC, dI) classes (wM bd cI cZ ((mEnJ j m0)) ((mEnA j ac m0)) tx ev on mn pm) H := by rw [e_j, e_ac]; exact hP
          have hD9 : va_D A (wM bd cI cZ ((mEnJ j m0)) ((mEnA j ac m0)) tx ev on mn pm) := by rw [e_j, e_ac]; exact hD
          exact W.iret (v := 19) hx hb hrt (fun t ht hW => ⟨⟨19, (), rfl, (by simp only [mEnR, mEnJ, mEnA, if_neg c_1, if_pos c_2, if_pos c_3, if_pos c_4] <;> rfl), by rw [ht]; exact hP9, hD9⟩, hS.F ht⟩) hS.2.2 d_Model_enter_31
    · refine lv_bipush (v := 18) hx hb d_Model_enter_14 (by decide) ?_
      have e_j : (mEnJ j m0) = (upd j 0 0) := (by simp only [mEnR, mEnJ, mEnA, if_neg c_1, if_neg c_2] <;> rfl)
      have e_ac : (mEnA j ac m0) = ac := (by simp only [mEnR, mEnJ, mEnA, if_neg c_1, if_neg c_2] <;> rfl)
      have hP9 : va_P (dC, dI) classes (wM bd cI cZ ((mEnJ j m0)) ((mEnA j ac m0)) tx ev on mn pm) H := by rw [e_j, e_ac]; exact hP
      have hD9 : va_D A (wM bd cI cZ ((mEnJ j m0)) ((mEnA j ac m0)) tx ev on mn pm) := by rw [e_j, e_ac]; exact hD
      exact W.iret (v := 18) hx hb hrt (fun t ht hW => ⟨⟨18, (), rfl, (by simp only [mEnR, mEnJ, mEnA, if_neg c_1, if_neg c_2] <;> rfl), by rw [ht]; exact hP9, hD9⟩, hS.F ht⟩) hS.2.2 d_Model_enter_16
set_option maxHeartbeats 4000000 in
set_option maxRecDepth 100000 in
theorem c_Model_alarm (l : Launch) (dC : Nat → ClassId) (dI : Nat → Nat → Nat) (bd : Nat → Nat) (sz : Nat) (cI cZ : ClassId) (j ac tx ev on mn pm : Nat → Int32) (t0 : Int32) : Met l y_Model_alarm w_Model_alarm ({ frames := 0, cells := 0, slots := 0, locals := 0 }) (va_Pc [.ref (bd 0), .int t0] (gP (dC, dI) classes (tyM cI cZ) (wM bd cI cZ j ac tx ev on mn pm) sz)) (va_Qi (fun r (_ : Unit) => r = (mAlR j)) (fun _ t => gB (dC, dI) classes (va_A (wM bd cI cZ j ac tx ev on mn pm) sz) (wM bd cI cZ ((mAlJ j t0)) ac tx ev on mn pm) t) (va_A (wM bd cI cZ j ac tx ev on mn pm) sz)) 0 0 (va_A (wM bd cI cZ j ac tx ev on mn pm) sz) := by
  refine Met.ofW (cc := b_Model_alarm) (maxL := 2) (ret := (some .boolean)) (by decide) rfl ?_
  intro p e s m args below meth c s₁ B hml hv
  obtain ⟨rfl, hsz, hP, hK, hD0, hN⟩ := hv
  have hx := B.exec
  have hb := B.bytes
  have hrt := B.returns
  have hq : ∀ w ∈ wAll, w.before ([.ref (bd 0), .int t0] : List Value).toArray s = true := fun w h => atoms_spec (ws := w_Model_alarm) B.pre w (List.mem_cons_of_mem _ h)
  have hown : s.vm.findClass R_Model = some m.cls := findClass_of_methodNamed B.named
  have hlocks := B.notSynchronized
  subst hsz
  have hD := hD0.self (sz := s.heap.size)
  generalize hAe : va_A (wM bd cI cZ j ac tx ev on mn pm) s.heap.size = A at hD ⊢
  have hA : ∀ q : Nat, s.heap.size ≤ q → A q := fun q h => by rw [← hAe]; exact Or.inr h
  have hS : va_S A s.heap s.heap [] := va_S.rf
  have hl := lv_entry ([.ref (bd 0), .int t0]) (n := 2) (Nat.le_of_ble_eq_true rfl)
  rw [lg_entry_eq]
  generalize (lg_sl ([.ref (bd 0), .int t0]) ++ List.replicate (2 - (lg_sl ([.ref (bd 0), .int t0])).length) Slot.unset).toArray = ls at hl ⊢
  have hl : lv_has ls 2 [(0, .ref (bd 0)), (1, .int t0)] := hl
  refine lv_aload_n hx hb d_Model_alarm_0 rfl (lv_at hl 0 rfl) ?_
  refine lv_iconst (v := 0) hx hb d_Model_alarm_1 (by decide) ?_
  refine va_put (D := (dC, dI)) (ci := 2) (v := .int 0) (ty := .int) (C := R_Model) (T := F_Model) (N := 12) hx hb hq iw_M t_Model t_Model_ok n_Model hown hK hP hD hS 0 rfl rfl 0 (by decide) (hq _ qm_4) (fun _ h9 => h9) rfl (by decide +kernel) rfl rfl (Nat.le_of_ble_eq_true rfl) d_Model_alarm_2 (fun H locs hP hD hS => ?_)
  have hP : va_P (dC, dI) classes (wM bd cI cZ ((upd j 0 0)) ac tx ev on mn pm) H := hP
  have hD : va_D A (wM bd cI cZ ((upd j 0 0)) ac tx ev on mn pm) := hD
  refine lv_aload_n hx hb d_Model_alarm_5 rfl (lv_at hl 0 rfl) ?_
  refine va_get (D := (dC, dI)) (ci := 2) (v := .int (j 3)) (C := R_Model) (T := F_Model) (N := 12) hx hb hq iw_M hown hK hP 0 rfl rfl 3 (by decide) (hq _ qm_9) (fun _ h9 => h9) rfl d_Model_alarm_6 ?_
  refine lv_if_eq (tgt := 14) hx hb d_Model_alarm_9 (by decide) (fun c_1 => ?_) (fun c_1 => ?_)
  · refine lv_aload_n hx hb d_Model_alarm_14 rfl (lv_at hl 0 rfl) ?_
    refine lv_iconst (v := 1) hx hb d_Model_alarm_15 (by decide) ?_
    refine va_put (D := (dC, dI)) (ci := 2) (v := .int 1) (ty := .boolean) (C := R_Model) (T := F_Model) (N := 12) hx hb hq iw_M t_Model t_Model_ok n_Model hown hK hP hD hS 0 rfl rfl 3 (by decide) (hq _ qm_9) (fun _ h9 => h9) rfl (by decide +kernel) rfl rfl (Nat.le_of_ble_eq_true rfl) d_Model_alarm_16 (fun H locs hP hD hS => ?_)
    have hP : va_P (dC, dI) classes (wM bd cI cZ ((upd (upd j 0 0) 3 1)) ac tx ev on mn pm) H := hP
    have hD : va_D A (wM bd cI cZ ((upd (upd j 0 0) 3 1)) ac tx ev on mn pm) := hD
    refine lv_aload_n hx hb d_Model_alarm_19 rfl (lv_at hl 0 rfl) ?_
    refine lv_iload_n hx hb d_Model_alarm_20 rfl (lv_at hl 1 rfl) ?_
    refine va_put (D := (dC, dI)) (ci := 2) (v := .int t0) (ty := .int) (C := R_Model) (T := F_Model) (N := 12) hx hb hq iw_M t_Model t_Model_ok n_Model hown hK hP hD hS 0 rfl rfl 4 (by decide) (hq _ qm_10) (fun _ h9 => h9) rfl (by decide +kernel) rfl rfl (Nat.le_of_ble_eq_true rfl) d_Model_alarm_21 (fun H locs hP hD hS => ?_)
    have hP : va_P (dC, dI) classes (wM bd cI cZ ((upd (upd (upd j 0 0) 3 1) 4 t0)) ac tx ev on mn pm) H := hP
    have hD : va_D A (wM bd cI cZ ((upd (upd (upd j 0 0) 3 1) 4 t0)) ac tx ev on mn pm) := hD
    refine lv_iconst (v := 1) hx hb d_Model_alarm_24 (by decide) ?_
    have e_j : (mAlJ j t0) = (upd (upd (upd j 0 0) 3 1) 4 t0) := (by simp only [mAlR, mAlJ, if_pos c_1] <;> rfl)
    have hP9 : va_P (dC, dI) classes (wM bd cI cZ ((mAlJ j t0)) ac tx ev on mn pm) H := by rw [e_j]; exact hP
    have hD9 : va_D A (wM bd cI cZ ((mAlJ j t0)) ac tx ev on mn pm) := by rw [e_j]; exact hD
    exact W.zret (v := 1) hx hb hrt rfl (fun t ht hW => ⟨⟨1, (), rfl, (by simp only [mAlR, mAlJ, if_pos c_1] <;> rfl), by rw [ht]; exact hP9, hD9⟩, hS.F ht⟩) hS.2.2 d_Model_alarm_25
  · refine lv_iconst (v := 0) hx hb d_Model_alarm_12 (by decide) ?_
    have e_j : (mAlJ j t0) = (upd j 0 0) := (by simp only [mAlR, mAlJ, if_neg c_1] <;> rfl)
    have hP9 : va_P (dC, dI) classes (wM bd cI cZ ((mAlJ j t0)) ac tx ev on mn pm) H := by rw [e_j]; exact hP
    have hD9 : va_D A (wM bd cI cZ ((mAlJ j t0)) ac tx ev on mn pm) := by rw [e_j]; exact hD
    exact W.zret (v := 0) hx hb hrt rfl (fun t ht hW => ⟨⟨0, (), rfl, (by simp only [mAlR, mAlJ, if_neg c_1] <;> rfl), by rw [ht]; exact hP9, hD9⟩, hS.F ht⟩) hS.2.2 d_Model_alarm_13
set_option maxHeartbeats 4000000 in
set_option maxRecDepth 100000 in
theorem c_Model_look (l : Launch) (dC : Nat → ClassId) (dI : Nat → Nat → Nat) (bd : Nat → Nat) (sz : Nat) (cI cZ : ClassId) (j ac tx ev on mn pm : Nat → Int32) (t0 : Int32) : Met l y_Model_look w_Model_look ({ frames := 1, cells := 0, slots := 0, locals := 23 }) (va_Pc [.ref (bd 0), .int t0] (gP (dC, dI) classes (tyM cI cZ) (wM bd cI cZ j ac tx ev on mn pm) sz)) (va_Qi (fun r (_ : Unit) => r = (mLkR j t0)) (fun _ t => gB (dC, dI) classes (va_A (wM bd cI cZ j ac tx ev on mn pm) sz) (wM bd cI cZ ((mLkJ j t0)) ((mLkA j ac t0)) tx ev on mn pm) t) (va_A (wM bd cI cZ j ac tx ev on mn pm) sz)) 0 0 (va_A (wM bd cI cZ j ac tx ev on mn pm) sz) := by
  refine Met.ofW (cc := b_Model_look) (maxL := 2) (ret := (some .boolean)) (by decide) rfl ?_
  intro p e s m args below meth c s₁ B hml hv
  obtain ⟨rfl, hsz, hP, hK, hD0, hN⟩ := hv
  have hx := B.exec
  have hb := B.bytes
  have hrt := B.returns
  have hq : ∀ w ∈ wAll, w.before ([.ref (bd 0), .int t0] : List Value).toArray s = true := fun w h => atoms_spec (ws := w_Model_look) B.pre w (List.mem_cons_of_mem _ h)
  have hown : s.vm.findClass R_Model = some m.cls := findClass_of_methodNamed B.named
  have hlocks := B.notSynchronized
  subst hsz
  have hD := hD0.self (sz := s.heap.size)
  generalize hAe : va_A (wM bd cI cZ j ac tx ev on mn pm) s.heap.size = A at hD ⊢
  have hA : ∀ q : Nat, s.heap.size ≤ q → A q := fun q h => by rw [← hAe]; exact Or.inr h
  have hS : va_S A s.heap s.heap [] := va_S.rf
  have hl := lv_entry ([.ref (bd 0), .int t0]) (n := 2) (Nat.le_of_ble_eq_true rfl)
  rw [lg_entry_eq]
  generalize (lg_sl ([.ref (bd 0), .int t0]) ++ List.replicate (2 - (lg_sl ([.ref (bd 0), .int t0])).length) Slot.unset).toArray = ls at hl ⊢
  have hl : lv_has ls 2 [(0, .ref (bd 0)), (1, .int t0)] := hl
  refine lv_aload_n hx hb d_Model_look_0 rfl (lv_at hl 0 rfl) ?_
  refine lv_iconst (v := 0) hx hb d_Model_look_1 (by decide) ?_
  refine va_put (D := (dC, dI)) (ci := 2) (v := .int 0) (ty := .int) (C := R_Model) (T := F_Model) (N := 12) hx hb hq iw_M t_Model t_Model_ok n_Model hown hK hP hD hS 0 rfl rfl 0 (by decide) (hq _ qm_4) (fun _ h9 => h9) rfl (by decide +kernel) rfl rfl (Nat.le_of_ble_eq_true rfl) d_Model_look_2 (fun H locs hP hD hS => ?_)
  have hP : va_P (dC, dI) classes (wM bd cI cZ ((upd j 0 0)) ac tx ev on mn pm) H := hP
  have hD : va_D A (wM bd cI cZ ((upd j 0 0)) ac tx ev on mn pm) := hD
  refine lv_aload_n hx hb d_Model_look_5 rfl (lv_at hl 0 rfl) ?_
  refine va_get (D := (dC, dI)) (ci := 2) (v := .int (j 3)) (C := R_Model) (T := F_Model) (N := 12) hx hb hq iw_M hown hK hP 0 rfl rfl 3 (by decide) (hq _ qm_9) (fun _ h9 => h9) rfl d_Model_look_6 ?_
  refine lv_if_eq (tgt := 20) hx hb d_Model_look_9 (by decide) (fun c_1 => ?_) (fun c_1 => ?_)
  · refine lv_iconst (v := 0) hx hb d_Model_look_20 (by decide) ?_
    have e_j : (mLkJ j t0) = (upd j 0 0) := (by simp only [mLkR, mLkJ, mLkA, if_pos c_1] <;> rfl)
    have e_ac : (mLkA j ac t0) = ac := (by simp only [mLkR, mLkJ, mLkA, if_pos c_1] <;> rfl)
    have hP9 : va_P (dC, dI) classes (wM bd cI cZ ((mLkJ j t0)) ((mLkA j ac t0)) tx ev on mn pm) H := by rw [e_j, e_ac]; exact hP
    have hD9 : va_D A (wM bd cI cZ ((mLkJ j t0)) ((mLkA j ac t0)) tx ev on mn pm) := by rw [e_j, e_ac]; exact hD
    exact W.zret (v := 0) hx hb hrt rfl (fun t ht hW => ⟨⟨0, (), rfl, (by simp only [mLkR, mLkJ, mLkA, if_pos c_1] <;> rfl), by rw [ht]; exact hP9, hD9⟩, hS.F ht⟩) hS.2.2 d_Model_look_21
  · refine lv_aload_n hx hb d_Model_look_12 rfl (lv_at hl 0 rfl) ?_
    refine va_get (D := (dC, dI)) (ci := 2) (v := .int (j 4)) (C := R_Model) (T := F_Model) (N := 12) hx hb hq iw_M hown hK hP 0 rfl rfl 4 (by decide) (hq _ qm_10) (fun _ h9 => h9) rfl d_Model_look_13 ?_
    refine lv_iload_n hx hb d_Model_look_16 rfl (lv_at hl 1 rfl) ?_
    refine lv_icmp_le (tgt := 22) hx hb d_Model_look_17 (by decide) (fun c_2 => ?_) (fun c_2 => ?_)
    · refine lv_aload_n hx hb d_Model_look_22 rfl (lv_at hl 0 rfl) ?_
      refine lv_iconst (v := 0) hx hb d_Model_look_23 (by decide) ?_
      refine va_put (D := (dC, dI)) (ci := 2) (v := .int 0) (ty := .boolean) (C := R_Model) (T := F_Model) (N := 12) hx hb hq iw_M t_Model t_Model_ok n_Model hown hK hP hD hS 0 rfl rfl 3 (by decide) (hq _ qm_9) (fun _ h9 => h9) rfl (by decide +kernel) rfl rfl (Nat.le_of_ble_eq_true rfl) d_Model_look_24 (fun H locs hP hD hS => ?_)
      have hP : va_P (dC, dI) classes (wM bd cI cZ ((upd (upd j 0 0) 3 0)) ac tx ev on mn pm) H := hP
      have hD : va_D A (wM bd cI cZ ((upd (upd j 0 0) 3 0)) ac tx ev on mn pm) := hD
      refine lv_aload_n hx hb d_Model_look_27 rfl (lv_at hl 0 rfl) ?_
      refine lv_iconst (v := 0) hx hb d_Model_look_28 (by decide) ?_
      refine g_calli (va_runV (As := [.int 0]) (rest := []) ⟨hx, hb, hml, hown, hq⟩ (c_Model_becomes l dC dI bd H.size cI cZ ((upd (upd j 0 0) 3 0)) ac tx ev on mn pm 0) ⟨callB_of 1 hq (gd m_Model_becomes) rfl rfl rfl (hq _ qm_5) (hq _ qm_6) (by decide +kernel) ⟨Nat.le_of_ble_eq_true rfl, Nat.le_of_ble_eq_true rfl⟩, (hq _ qm_7), (hq _ qm_8)⟩ ⟨g_blind, va_recv hK hP (ci := 2) (q0 := 0) rfl rfl, g_pre hP hK hD hN⟩ rfl rfl hl.1 rfl (lv_room (Nat.le_of_ble_eq_true rfl)) d_Model_look_29 ⟨Nat.zero_le _, Nat.zero_le _⟩) hD hS hA (fun r H locs hr hP hD hS => ?_)
      subst hr
      have e_j : (mLkJ j t0) = (mBeJ ((upd (upd j 0 0) 3 0)) 0) := (by simp only [mLkR, mLkJ, mLkA, if_neg c_1, if_pos c_2] <;> rfl)
      have e_ac : (mLkA j ac t0) = (mBeA ((upd (upd j 0 0) 3 0)) ac 0) := (by simp only [mLkR, mLkJ, mLkA, if_neg c_1, if_pos c_2] <;> rfl)
      have hP9 : va_P (dC, dI) classes (wM bd cI cZ ((mLkJ j t0)) ((mLkA j ac t0)) tx ev on mn pm) H := by rw [e_j, e_ac]; exact hP
      have hD9 : va_D A (wM bd cI cZ ((mLkJ j t0)) ((mLkA j ac t0)) tx ev on mn pm) := by rw [e_j, e_ac]; exact hD
      exact W.zret (v := (mBeR ((upd (upd j 0 0) 3 0)) 0)) hx hb hrt (g_nar (mBeR_01 _ _)) (fun t ht hW => ⟨⟨(mBeR ((upd (upd j 0 0) 3 0)) 0), (), rfl, (by simp only [mLkR, mLkJ, mLkA, if_neg c_1, if_pos c_2] <;> rfl), by rw [ht]; exact hP9, hD9⟩, hS.F ht⟩) hS.2.2 d_Model_look_32
    · refine lv_iconst (v := 0) hx hb d_Model_look_20 (by decide) ?_
      have e_j : (mLkJ j t0) = (upd j 0 0) := (by simp only [mLkR, mLkJ, mLkA, if_neg c_1, if_neg c_2] <;> rfl)
      have e_ac : (mLkA j ac t0) = ac := (by simp only [mLkR, mLkJ, mLkA, if_neg c_1, if_neg c_2] <;> rfl)
      have hP9 : va_P (dC, dI) classes (wM bd cI cZ ((mLkJ j t0)) ((mLkA j ac t0)) tx ev on mn pm) H := by rw [e_j, e_ac]; exact hP
      have hD9 : va_D A (wM bd cI cZ ((mLkJ j t0)) ((mLkA j ac t0)) tx ev on mn pm) := by rw [e_j, e_ac]; exact hD
      exact W.zret (v := 0) hx hb hrt rfl (fun t ht hW => ⟨⟨0, (), rfl, (by simp only [mLkR, mLkJ, mLkA, if_neg c_1, if_neg c_2] <;> rfl), by rw [ht]; exact hP9, hD9⟩, hS.F ht⟩) hS.2.2 d_Model_look_21
set_option maxHeartbeats 4000000 in
set_option maxRecDepth 100000 in
theorem c_Model_put (l : Launch) (dC : Nat → ClassId) (dI : Nat → Nat → Nat) (bd : Nat → Nat) (sz : Nat) (cI cZ : ClassId) (j ac tx ev on mn pm : Nat → Int32) (x : Int32) (t : Nat) (ht8 : t ≤ 8) (hj6 : j 6 = nI t) : Met l y_Model_put w_Model_put ({ frames := 0, cells := 0, slots := 0, locals := 0 }) (va_Pc [.ref (bd 0), .int x] (gP (dC, dI) classes (tyM cI cZ) (wM bd cI cZ j ac tx ev on mn pm) sz)) (va_Qi (fun r (_ : Unit) => r = (mPuR j x)) (fun _ t => gB (dC, dI) classes (va_A (wM bd cI cZ j ac tx ev on mn pm) sz) (wM bd cI cZ ((mPuJ j x)) ac ((mPuT j tx x)) ev on mn pm) t) (va_A (wM bd cI cZ j ac tx ev on mn pm) sz)) 0 0 (va_A (wM bd cI cZ j ac tx ev on mn pm) sz) := by
  refine Met.ofW (cc := b_Model_put) (maxL := 2) (ret := (some .int)) (by decide) rfl ?_
  intro p e s m args below meth c s₁ B hml hv
  obtain ⟨rfl, hsz, hP, hK, hD0, hN⟩ := hv
  have hx := B.exec
  have hb := B.bytes
  have hrt := B.returns
  have hq : ∀ w ∈ wAll, w.before ([.ref (bd 0), .int x] : List Value).toArray s = true := fun w h => atoms_spec (ws := w_Model_put) B.pre w (List.mem_cons_of_mem _ h)
  have hown : s.vm.findClass R_Model = some m.cls := findClass_of_methodNamed B.named
  have hlocks := B.notSynchronized
  subst hsz
  have hD := hD0.self (sz := s.heap.size)
  generalize hAe : va_A (wM bd cI cZ j ac tx ev on mn pm) s.heap.size = A at hD ⊢
  have hA : ∀ q : Nat, s.heap.size ≤ q → A q := fun q h => by rw [← hAe]; exact Or.inr h
  have hS : va_S A s.heap s.heap [] := va_S.rf
  have hl := lv_entry ([.ref (bd 0), .int x]) (n := 2) (Nat.le_of_ble_eq_true rfl)
  rw [lg_entry_eq]
  generalize (lg_sl ([.ref (bd 0), .int x]) ++ List.replicate (2 - (lg_sl ([.ref (bd 0), .int x])).length) Slot.unset).toArray = ls at hl ⊢
  have hl : lv_has ls 2 [(0, .ref (bd 0)), (1, .int x)] := hl
  refine lv_aload_n hx hb d_Model_put_0 rfl (lv_at hl 0 rfl) ?_
  refine lv_iconst (v := 0) hx hb d_Model_put_1 (by decide) ?_
  refine va_put (D := (dC, dI)) (ci := 2) (v := .int 0) (ty := .int) (C := R_Model) (T := F_Model) (N := 12) hx hb hq iw_M t_Model t_Model_ok n_Model hown hK hP hD hS 0 rfl rfl 0 (by decide) (hq _ qm_4) (fun _ h9 => h9) rfl (by decide +kernel) rfl rfl (Nat.le_of_ble_eq_true rfl) d_Model_put_2 (fun H locs hP hD hS => ?_)
  have hP : va_P (dC, dI) classes (wM bd cI cZ ((upd j 0 0)) ac tx ev on mn pm) H := hP
  have hD : va_D A (wM bd cI cZ ((upd j 0 0)) ac tx ev on mn pm) := hD
  refine lv_iload_n hx hb d_Model_put_5 rfl (lv_at hl 1 rfl) ?_
  refine lv_if_lt (tgt := 24) hx hb d_Model_put_6 (by decide) (fun c_1 => ?_) (fun c_1 => ?_)
  · refine lv_iconst (v := (-1)) hx hb d_Model_put_24 (by decide) ?_
    have e_j : (mPuJ j x) = (upd j 0 0) := (by simp only [mPuR, mPuJ, mPuT, if_pos c_1] <;> rfl)
    have e_tx : (mPuT j tx x) = tx := (by simp only [mPuR, mPuJ, mPuT, if_pos c_1] <;> rfl)
    have hP9 : va_P (dC, dI) classes (wM bd cI cZ ((mPuJ j x)) ac ((mPuT j tx x)) ev on mn pm) H := by rw [e_j, e_tx]; exact hP
    have hD9 : va_D A (wM bd cI cZ ((mPuJ j x)) ac ((mPuT j tx x)) ev on mn pm) := by rw [e_j, e_tx]; exact hD
    exact W.iret (v := (-1)) hx hb hrt (fun t ht hW => ⟨⟨(-1), (), rfl, (by simp only [mPuR, mPuJ, mPuT, if_pos c_1] <;> rfl), by rw [ht]; exact hP9, hD9⟩, hS.F ht⟩) hS.2.2 d_Model_put_25
  · refine lv_iload_n hx hb d_Model_put_9 rfl (lv_at hl 1 rfl) ?_
    refine lv_bipush (v := 31) hx hb d_Model_put_10 (by decide) ?_
    refine lv_icmp_gt (tgt := 24) hx hb d_Model_put_12 (by decide) (fun c_2 => ?_) (fun c_2 => ?_)
    · refine lv_iconst (v := (-1)) hx hb d_Model_put_24 (by decide) ?_
      have e_j : (mPuJ j x) = (upd j 0 0) := (by simp only [mPuR, mPuJ, mPuT, if_neg c_1, if_pos c_2] <;> rfl)
      have e_tx : (mPuT j tx x) = tx := (by simp only [mPuR, mPuJ, mPuT, if_neg c_1, if_pos c_2] <;> rfl)
      have hP9 : va_P (dC, dI) classes (wM bd cI cZ ((mPuJ j x)) ac ((mPuT j tx x)) ev on mn pm) H := by rw [e_j, e_tx]; exact hP
      have hD9 : va_D A (wM bd cI cZ ((mPuJ j x)) ac ((mPuT j tx x)) ev on mn pm) := by rw [e_j, e_tx]; exact hD
      exact W.iret (v := (-1)) hx hb hrt (fun t ht hW => ⟨⟨(-1), (), rfl, (by simp only [mPuR, mPuJ, mPuT, if_neg c_1, if_pos c_2] <;> rfl), by rw [ht]; exact hP9, hD9⟩, hS.F ht⟩) hS.2.2 d_Model_put_25
    · refine lv_aload_n hx hb d_Model_put_15 rfl (lv_at hl 0 rfl) ?_
      refine va_get (D := (dC, dI)) (ci := 2) (v := .int (j 6)) (C := R_Model) (T := F_Model) (N := 12) hx hb hq iw_M hown hK hP 0 rfl rfl 6 (by decide) (hq _ qm_11) (fun _ h9 => h9) rfl d_Model_put_16 ?_
      refine lv_bipush (v := 8) hx hb d_Model_put_19 (by decide) ?_
      refine lv_icmp_ne (tgt := 26) hx hb d_Model_put_21 (by decide) (fun c_3 => ?_) (fun c_3 => ?_)
      · refine lv_aload_n hx hb d_Model_put_26 rfl (lv_at hl 0 rfl) ?_
        refine va_get (D := (dC, dI)) (ci := 2) (v := .ref (bd 2)) (C := R_Model) (T := F_Model) (N := 12) hx hb hq iw_M hown hK hP 0 rfl rfl 7 (by decide) (hq _ qm_12) (fun _ h9 => h9) rfl d_Model_put_27 ?_
        refine lv_aload_n hx hb d_Model_put_30 rfl (lv_at hl 0 rfl) ?_
        refine va_get (D := (dC, dI)) (ci := 2) (v := .int (j 6)) (C := R_Model) (T := F_Model) (N := 12) hx hb hq iw_M hown hK hP 0 rfl rfl 6 (by decide) (hq _ qm_11) (fun _ h9 => h9) rfl d_Model_put_31 ?_
        refine lv_iload_n hx hb d_Model_put_34 rfl (lv_at hl 1 rfl) ?_
        refine va_iast (D := (dC, dI)) hx hb hK hP hD hS 2 0 rfl rfl (by show vp_in (j 6) 8; rw [hj6] at c_3 ⊢; exact vp_in_nI (by rcases Nat.lt_or_ge t 8 with h | h; exact h; exact absurd (by rw [show t = 8 by omega]; rfl) c_3) (by decide)) d_Model_put_35 (fun H locs hP hD hS => ?_)
        have hP : va_P (dC, dI) classes (wM bd cI cZ ((upd j 0 0)) ac ((upd tx ((j 6)).toNatClampNeg x)) ev on mn pm) H := hP
        have hD : va_D A (wM bd cI cZ ((upd j 0 0)) ac ((upd tx ((j 6)).toNatClampNeg x)) ev on mn pm) := hD
        refine lv_aload_n hx hb d_Model_put_36 rfl (lv_at hl 0 rfl) ?_
        refine lv_dup hx hb d_Model_put_37 rfl ?_
        refine va_get (D := (dC, dI)) (ci := 2) (v := .int (j 6)) (C := R_Model) (T := F_Model) (N := 12) hx hb hq iw_M hown hK hP 0 rfl rfl 6 (by decide) (hq _ qm_11) (fun _ h9 => h9) rfl d_Model_put_38 ?_
        refine lv_iconst (v := 1) hx hb d_Model_put_41 (by decide) ?_
        refine lv_iadd hx hb d_Model_put_42 ?_
        refine va_put (D := (dC, dI)) (ci := 2) (v := .int ((j 6) + 1)) (ty := .int) (C := R_Model) (T := F_Model) (N := 12) hx hb hq iw_M t_Model t_Model_ok n_Model hown hK hP hD hS 0 rfl rfl 6 (by decide) (hq _ qm_11) (fun _ h9 => h9) rfl (by decide +kernel) rfl rfl (Nat.le_of_ble_eq_true rfl) d_Model_put_43 (fun H locs hP hD hS => ?_)
        have hP : va_P (dC, dI) classes (wM bd cI cZ ((upd (upd j 0 0) 6 (((j 6) + 1)))) ac ((upd tx ((j 6)).toNatClampNeg x)) ev on mn pm) H := hP
        have hD : va_D A (wM bd cI cZ ((upd (upd j 0 0) 6 (((j 6) + 1)))) ac ((upd tx ((j 6)).toNatClampNeg x)) ev on mn pm) := hD
        refine lv_aload_n hx hb d_Model_put_46 rfl (lv_at hl 0 rfl) ?_
        refine va_get (D := (dC, dI)) (ci := 2) (v := .int ((((j 6) + 1)))) (C := R_Model) (T := F_Model) (N := 12) hx hb hq iw_M hown hK hP 0 rfl rfl 6 (by decide) (hq _ qm_11) (fun _ h9 => h9) rfl d_Model_put_47 ?_
        have e_j : (mPuJ j x) = (upd (upd j 0 0) 6 (((j 6) + 1))) := (by simp only [mPuR, mPuJ, mPuT, if_neg c_1, if_neg c_2, if_neg c_3] <;> rfl)
        have e_tx : (mPuT j tx x) = (upd tx ((j 6)).toNatClampNeg x) := (by simp only [mPuR, mPuJ, mPuT, if_neg c_1, if_neg c_2, if_neg c_3] <;> rfl)
        have hP9 : va_P (dC, dI) classes (wM bd cI cZ ((mPuJ j x)) ac ((mPuT j tx x)) ev on mn pm) H := by rw [e_j, e_tx]; exact hP
        have hD9 : va_D A (wM bd cI cZ ((mPuJ j x)) ac ((mPuT j tx x)) ev on mn pm) := by rw [e_j, e_tx]; exact hD
        exact W.iret (v := ((((j 6) + 1)))) hx hb hrt (fun t ht hW => ⟨⟨((((j 6) + 1))), (), rfl, (by simp only [mPuR, mPuJ, mPuT, if_neg c_1, if_neg c_2, if_neg c_3] <;> rfl), by rw [ht]; exact hP9, hD9⟩, hS.F ht⟩) hS.2.2 d_Model_put_50
      · refine lv_iconst (v := (-1)) hx hb d_Model_put_24 (by decide) ?_
        have e_j : (mPuJ j x) = (upd j 0 0) := (by simp only [mPuR, mPuJ, mPuT, if_neg c_1, if_neg c_2, if_pos c_3] <;> rfl)
        have e_tx : (mPuT j tx x) = tx := (by simp only [mPuR, mPuJ, mPuT, if_neg c_1, if_neg c_2, if_pos c_3] <;> rfl)
        have hP9 : va_P (dC, dI) classes (wM bd cI cZ ((mPuJ j x)) ac ((mPuT j tx x)) ev on mn pm) H := by rw [e_j, e_tx]; exact hP
        have hD9 : va_D A (wM bd cI cZ ((mPuJ j x)) ac ((mPuT j tx x)) ev on mn pm) := by rw [e_j, e_tx]; exact hD
        exact W.iret (v := (-1)) hx hb hrt (fun t ht hW => ⟨⟨(-1), (), rfl, (by simp only [mPuR, mPuJ, mPuT, if_neg c_1, if_neg c_2, if_pos c_3] <;> rfl), by rw [ht]; exact hP9, hD9⟩, hS.F ht⟩) hS.2.2 d_Model_put_25
