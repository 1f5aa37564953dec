set_option maxHeartbeats 4000000 in
set_option maxRecDepth 100000 in
theorem c_Model_due (l : Launch) (dC : Nat → ClassId) (dI : Nat → Nat → Nat) (bd : Nat → Nat) (sz : Nat) (cI cZ : ClassId) (j ac tx ev on mn pm : Nat → Int32) (tick fr : Int32) : Met l y_Model_due w_Model_due ({ frames := 0, cells := 0, slots := 0, locals := 0 }) (va_Pc [.ref (bd 0), .int tick, .int fr] (gP (dC, dI) classes (tyM cI cZ) (wM bd cI cZ j ac tx ev on mn pm) sz)) (va_Qi (fun r (_ : Unit) => r = (mDue ev on tick fr 256 (-1))) (fun _ t => gB (dC, dI) classes (va_A (wM bd cI cZ j ac tx ev on mn pm) sz) (wM bd cI cZ ((upd j 0 0)) ac tx ev on mn pm) t) (va_A (wM bd cI cZ j ac tx ev on mn pm) sz)) 0 0 (va_A (wM bd cI cZ j ac tx ev on mn pm) sz) := by
  refine Met.ofW (cc := b_Model_due) (maxL := 5) (ret := (some .int)) (by decide) rfl ?_
  intro p e s m args below meth c s₁ B hml hv
  obtain ⟨rfl, hsz, hP, hK, hD0, hN⟩ := hv
  have hx := B.exec
  have hb := B.bytes
  have hrt := B.returns
  have hq : ∀ w ∈ wAll, w.before ([.ref (bd 0), .int tick, .int fr] : List Value).toArray s = true := fun w h => atoms_spec (ws := w_Model_due) B.pre w (List.mem_cons_of_mem _ h)
  have hown : s.vm.findClass R_Model = some m.cls := findClass_of_methodNamed B.named
  have hlocks := B.notSynchronized
  subst hsz
  have hD := hD0.self (sz := s.heap.size)
  generalize hAe : va_A (wM bd cI cZ j ac tx ev on mn pm) s.heap.size = A at hD ⊢
  have hA : ∀ q : Nat, s.heap.size ≤ q → A q := fun q h => by rw [← hAe]; exact Or.inr h
  have hS : va_S A s.heap s.heap [] := va_S.rf
  have hl := lv_entry ([.ref (bd 0), .int tick, .int fr]) (n := 5) (Nat.le_of_ble_eq_true rfl)
  rw [lg_entry_eq]
  generalize (lg_sl ([.ref (bd 0), .int tick, .int fr]) ++ List.replicate (5 - (lg_sl ([.ref (bd 0), .int tick, .int fr])).length) Slot.unset).toArray = ls at hl ⊢
  have hl : lv_has ls 5 [(0, .ref (bd 0)), (1, .int tick), (2, .int fr)] := hl
  refine lv_aload_n hx hb d_Model_due_0 rfl (lv_at hl 0 rfl) ?_
  refine lv_iconst (v := 0) hx hb d_Model_due_1 (by decide) ?_
  refine va_put (D := (dC, dI)) (ci := 2) (v := .int 0) (ty := .int) (C := R_Model) (T := F_Model) (N := 12) hx hb hq iw_M t_Model t_Model_ok n_Model hown hK hP hD hS 0 rfl rfl 0 (by decide) (hq _ qm_4) (fun _ h9 => h9) rfl (by decide +kernel) rfl rfl (Nat.le_of_ble_eq_true rfl) d_Model_due_2 (fun H locs hP hD hS => ?_)
  have hP : va_P (dC, dI) classes (wM bd cI cZ ((upd j 0 0)) ac tx ev on mn pm) H := hP
  have hD : va_D A (wM bd cI cZ ((upd j 0 0)) ac tx ev on mn pm) := hD
  refine lv_iconst (v := (-1)) hx hb d_Model_due_5 (by decide) ?_
  refine lv_istore_n (lv' := [(3, .int (-1)), (0, .ref (bd 0)), (1, .int tick), (2, .int fr)]) hx hb d_Model_due_6 rfl hl (by decide) rfl (fun ls hl => ?_)
  refine lv_sipush (v := 255) hx hb d_Model_due_7 (by decide) ?_
  refine lv_istore (lv' := [(4, .int 255), (3, .int (-1)), (0, .ref (bd 0)), (1, .int tick), (2, .int fr)]) hx hb d_Model_due_10 hl (by decide) rfl (fun ls hl => ?_)
  have key : ∀ (n : Nat) (x : Int32), n ≤ 256 → mDue ev on tick fr 256 (-1) = mDue ev on tick fr n x → ∀ (ls : Array Slot), lv_has ls 5 [(0, .ref (bd 0)), (1, .int tick), (2, .int fr), (3, .int x), (4, .int (nI n + (-1)))] → W p l e (headSpec w_Model_due ({ frames := 0, cells := 0, slots := 0, locals := 0 })).room s m ([.ref (bd 0), .int tick, .int fr] : List Value).toArray below meth c H locs 0 0 (MQ below (va_Qi (fun r (_ : Unit) => r = (mDue ev on tick fr 256 (-1))) (fun _ t => gB (dC, dI) classes A (wM bd cI cZ ((upd j 0 0)) ac tx ev on mn pm) t) A) ([.ref (bd 0), .int tick, .int fr] : List Value).toArray s 0 0 A) (F0 m 12 ls []) := by
    intro n
    induction n with
    | zero =>
      intro x hn hres ls hl
      refine lv_iload hx hb d_Model_due_12 (lv_at hl 4 rfl) ?_
      refine lv_if_lt (tgt := 68) hx hb d_Model_due_14 (by decide) (fun c_1 => ?_) (fun c_1 => ?_)
      · refine lv_iload_n hx hb d_Model_due_68 rfl (lv_at hl 3 rfl) ?_
        have hP9 : va_P (dC, dI) classes (wM bd cI cZ ((upd j 0 0)) ac tx ev on mn pm) H := by exact hP
        have hD9 : va_D A (wM bd cI cZ ((upd j 0 0)) ac tx ev on mn pm) := by exact hD
        exact W.iret (v := x) hx hb hrt (fun t ht hW => ⟨⟨x, (), rfl, hres.symm, by rw [ht]; exact hP9, hD9⟩, hS.F ht⟩) hS.2.2 d_Model_due_69
      · exact absurd (by decide +kernel) c_1
    | succ n ih =>
      intro x hn hres ls hl
      rw [pk_m1] at hl
      have hi : n < 256 := by omega
      refine lv_iload hx hb d_Model_due_12 (lv_at hl 4 rfl) ?_
      refine lv_if_lt (tgt := 68) hx hb d_Model_due_14 (by decide) (fun c_2 => ?_) (fun c_2 => ?_)
      · exact absurd c_2 (nI_pos (by omega))
      · refine lv_iload hx hb d_Model_due_17 (lv_at hl 4 rfl) ?_
        refine lv_iload_n hx hb d_Model_due_19 rfl (lv_at hl 2 rfl) ?_
        refine lv_icmp_lt (tgt := 68) hx hb d_Model_due_20 (by decide) (fun c_3 => ?_) (fun c_3 => ?_)
        · refine lv_iload_n hx hb d_Model_due_68 rfl (lv_at hl 3 rfl) ?_
          have hP9 : va_P (dC, dI) classes (wM bd cI cZ ((upd j 0 0)) ac tx ev on mn pm) H := by exact hP
          have hD9 : va_D A (wM bd cI cZ ((upd j 0 0)) ac tx ev on mn pm) := by exact hD
          exact W.iret (v := x) hx hb hrt (fun t ht hW => ⟨⟨x, (), rfl, (by rw [hres]; simp only [mDue, if_pos c_3]), by rw [ht]; exact hP9, hD9⟩, hS.F ht⟩) hS.2.2 d_Model_due_69
        · refine lv_aload_n hx hb d_Model_due_23 rfl (lv_at hl 0 rfl) ?_
          refine va_get (D := (dC, dI)) (ci := 2) (v := .ref (bd 3)) (C := R_Model) (T := F_Model) (N := 12) hx hb hq iw_M hown hK hP 0 rfl rfl 8 (by decide) (hq _ qm_0) (fun _ h9 => h9) rfl d_Model_due_24 ?_
          refine lv_iload hx hb d_Model_due_27 (lv_at hl 4 rfl) ?_
          refine g_ild (D := (dC, dI)) hx hb hK hP 3 0 rfl rfl (i := n) hi (by decide) d_Model_due_29 ?_
          refine lv_if_le (tgt := 60) hx hb d_Model_due_30 (by decide) (fun c_4 => ?_) (fun c_4 => ?_)
          · refine lv_iload_n hx hb d_Model_due_60 rfl (lv_at hl 3 rfl) ?_
            refine lv_istore_n (lv' := [(3, .int x), (0, .ref (bd 0)), (1, .int tick), (2, .int fr), (4, .int (nI n))]) hx hb d_Model_due_61 rfl hl (by decide) rfl (fun ls hl => ?_)
            refine lv_iinc (v := (nI n + (-1))) (lv' := [(4, .int (nI n + (-1))), (3, .int x), (0, .ref (bd 0)), (1, .int tick), (2, .int fr)]) hx hb d_Model_due_62 hl (k := 4) rfl rfl (by decide) rfl (fun ls hl => ?_)
            refine lv_goto (tgt := 12) hx hb d_Model_due_65 (by decide) ?_
            exact ih x (by omega) (by rw [hres]; simp only [mDue, if_neg c_3, if_pos c_4]) ls (lv_sub hl [2, 3, 4, 1, 0] rfl)
          · refine lv_aload_n hx hb d_Model_due_33 rfl (lv_at hl 0 rfl) ?_
            refine va_get (D := (dC, dI)) (ci := 2) (v := .ref (bd 4)) (C := R_Model) (T := F_Model) (N := 12) hx hb hq iw_M hown hK hP 0 rfl rfl 9 (by decide) (hq _ qm_16) (fun _ h9 => h9) rfl d_Model_due_34 ?_
            refine lv_iload hx hb d_Model_due_37 (lv_at hl 4 rfl) ?_
            refine g_zld (D := (dC, dI)) hx hb hK hP 4 1 rfl rfl (i := n) hi (by decide) d_Model_due_39 ?_
            refine lv_if_eq (tgt := 60) hx hb d_Model_due_40 (by decide) (fun c_5 => ?_) (fun c_5 => ?_)
            · refine lv_iload_n hx hb d_Model_due_60 rfl (lv_at hl 3 rfl) ?_
              refine lv_istore_n (lv' := [(3, .int x), (0, .ref (bd 0)), (1, .int tick), (2, .int fr), (4, .int (nI n))]) hx hb d_Model_due_61 rfl hl (by decide) rfl (fun ls hl => ?_)
              refine lv_iinc (v := (nI n + (-1))) (lv' := [(4, .int (nI n + (-1))), (3, .int x), (0, .ref (bd 0)), (1, .int tick), (2, .int fr)]) hx hb d_Model_due_62 hl (k := 4) rfl rfl (by decide) rfl (fun ls hl => ?_)
              refine lv_goto (tgt := 12) hx hb d_Model_due_65 (by decide) ?_
              exact ih x (by omega) (by rw [hres]; simp only [mDue, if_neg c_3, if_neg c_4, if_pos c_5]) ls (lv_sub hl [2, 3, 4, 1, 0] rfl)
            · refine lv_iload_n hx hb d_Model_due_43 rfl (lv_at hl 1 rfl) ?_
              refine lv_aload_n hx hb d_Model_due_44 rfl (lv_at hl 0 rfl) ?_
              refine va_get (D := (dC, dI)) (ci := 2) (v := .ref (bd 3)) (C := R_Model) (T := F_Model) (N := 12) hx hb hq iw_M hown hK hP 0 rfl rfl 8 (by decide) (hq _ qm_0) (fun _ h9 => h9) rfl d_Model_due_45 ?_
              refine lv_iload hx hb d_Model_due_48 (lv_at hl 4 rfl) ?_
              refine g_ild (D := (dC, dI)) hx hb hK hP 3 0 rfl rfl (i := n) hi (by decide) d_Model_due_50 ?_
              refine lv_irem hx hb d_Model_due_51 (fun h0 => c_4 (by rw [h0]; decide)) ?_
              refine lv_if_ne (tgt := 60) hx hb d_Model_due_52 (by decide) (fun c_6 => ?_) (fun c_6 => ?_)
              · refine lv_iload_n hx hb d_Model_due_60 rfl (lv_at hl 3 rfl) ?_
                refine lv_istore_n (lv' := [(3, .int x), (0, .ref (bd 0)), (1, .int tick), (2, .int fr), (4, .int (nI n))]) hx hb d_Model_due_61 rfl hl (by decide) rfl (fun ls hl => ?_)
                refine lv_iinc (v := (nI n + (-1))) (lv' := [(4, .int (nI n + (-1))), (3, .int x), (0, .ref (bd 0)), (1, .int tick), (2, .int fr)]) hx hb d_Model_due_62 hl (k := 4) rfl rfl (by decide) rfl (fun ls hl => ?_)
                refine lv_goto (tgt := 12) hx hb d_Model_due_65 (by decide) ?_
                exact ih x (by omega) (by rw [hres]; simp only [mDue, if_neg c_3, if_neg c_4, if_neg c_5, if_neg c_6]) ls (lv_sub hl [2, 3, 4, 1, 0] rfl)
              · refine lv_iload hx hb d_Model_due_55 (lv_at hl 4 rfl) ?_
                refine lv_goto (tgt := 61) hx hb d_Model_due_57 (by decide) ?_
                refine lv_istore_n (lv' := [(3, .int (nI n)), (0, .ref (bd 0)), (1, .int tick), (2, .int fr), (4, .int (nI n))]) hx hb d_Model_due_61 rfl hl (by decide) rfl (fun ls hl => ?_)
                refine lv_iinc (v := (nI n + (-1))) (lv' := [(4, .int (nI n + (-1))), (3, .int (nI n)), (0, .ref (bd 0)), (1, .int tick), (2, .int fr)]) hx hb d_Model_due_62 hl (k := 4) rfl rfl (by decide) rfl (fun ls hl => ?_)
                refine lv_goto (tgt := 12) hx hb d_Model_due_65 (by decide) ?_
                exact ih ((nI n)) (by omega) (by rw [hres]; simp only [mDue, if_neg c_3, if_neg c_4, if_neg c_5, if_pos c_6]) ls (lv_sub hl [2, 3, 4, 1, 0] rfl)
  exact key 256 (-1) (by omega) rfl ls (lv_sub hl [2, 3, 4, 1, 0] rfl)
set_option maxHeartbeats 4000000 in
set_option maxRecDepth 100000 in
theorem c_Model_parameter (l : Launch) (dC : Nat → ClassId) (dI : Nat → Nat → Nat) (bd : Nat → Nat) (sz : Nat) (cI cZ : ClassId) (j ac tx ev on mn pm : Nat → Int32) (id k0 : Int32) (hmn : ∀ d, d < 256 → (mn d).toInt ≤ 8) : Met l y_Model_parameter w_Model_parameter ({ frames := 1, cells := 0, slots := 0, locals := 21 }) (va_Pc [.ref (bd 0), .int id, .int k0] (gP (dC, dI) classes (tyM cI cZ) (wM bd cI cZ j ac tx ev on mn pm) sz)) (va_Qi (fun r (_ : Unit) => r = (mPaR ev mn pm id k0)) (fun _ t => gB (dC, dI) classes (va_A (wM bd cI cZ j ac tx ev on mn pm) sz) (wM bd cI cZ ((upd j 0 0)) ac tx ev on mn pm) t) (va_A (wM bd cI cZ j ac tx ev on mn pm) sz)) 0 0 (va_A (wM bd cI cZ j ac tx ev on mn pm) sz) := by
  refine Met.ofW (cc := b_Model_parameter) (maxL := 3) (ret := (some .int)) (by decide) rfl ?_
  intro p e s m args below meth c s₁ B hml hv
  obtain ⟨rfl, hsz, hP, hK, hD0, hN⟩ := hv
  have hx := B.exec
  have hb := B.bytes
  have hrt := B.returns
  have hq : ∀ w ∈ wAll, w.before ([.ref (bd 0), .int id, .int k0] : List Value).toArray s = true := fun w h => atoms_spec (ws := w_Model_parameter) B.pre w (List.mem_cons_of_mem _ h)
  have hown : s.vm.findClass R_Model = some m.cls := findClass_of_methodNamed B.named
  have hlocks := B.notSynchronized
  subst hsz
  have hD := hD0.self (sz := s.heap.size)
  generalize hAe : va_A (wM bd cI cZ j ac tx ev on mn pm) s.heap.size = A at hD ⊢
  have hA : ∀ q : Nat, s.heap.size ≤ q → A q := fun q h => by rw [← hAe]; exact Or.inr h
  have hS : va_S A s.heap s.heap [] := va_S.rf
  have hl := lv_entry ([.ref (bd 0), .int id, .int k0]) (n := 3) (Nat.le_of_ble_eq_true rfl)
  rw [lg_entry_eq]
  generalize (lg_sl ([.ref (bd 0), .int id, .int k0]) ++ List.replicate (3 - (lg_sl ([.ref (bd 0), .int id, .int k0])).length) Slot.unset).toArray = ls at hl ⊢
  have hl : lv_has ls 3 [(0, .ref (bd 0)), (1, .int id), (2, .int k0)] := hl
  refine lv_aload_n hx hb d_Model_parameter_0 rfl (lv_at hl 0 rfl) ?_
  refine lv_iconst (v := 0) hx hb d_Model_parameter_1 (by decide) ?_
  refine va_put (D := (dC, dI)) (ci := 2) (v := .int 0) (ty := .int) (C := R_Model) (T := F_Model) (N := 12) hx hb hq iw_M t_Model t_Model_ok n_Model hown hK hP hD hS 0 rfl rfl 0 (by decide) (hq _ qm_4) (fun _ h9 => h9) rfl (by decide +kernel) rfl rfl (Nat.le_of_ble_eq_true rfl) d_Model_parameter_2 (fun H locs hP hD hS => ?_)
  have hP : va_P (dC, dI) classes (wM bd cI cZ ((upd j 0 0)) ac tx ev on mn pm) H := hP
  have hD : va_D A (wM bd cI cZ ((upd j 0 0)) ac tx ev on mn pm) := hD
  refine lv_aload_n hx hb d_Model_parameter_5 rfl (lv_at hl 0 rfl) ?_
  refine lv_iload_n hx hb d_Model_parameter_6 rfl (lv_at hl 1 rfl) ?_
  refine vp_callSi (va_Run.run (va_runV (As := [.int id]) (rest := []) ⟨hx, hb, hml, hown, hq⟩ (c_Model_isThere l dC dI bd H.size cI cZ ((upd j 0 0)) ac tx ev on mn pm id) ⟨callB_of 1 hq (gd m_Model_isThere) rfl rfl rfl (hq _ qm_5) (hq _ qm_19) (by decide +kernel) ⟨Nat.le_of_ble_eq_true rfl, Nat.le_of_ble_eq_true rfl⟩, (hq _ qm_20), (hq _ qm_21)⟩ ⟨g_blind, va_recv hK hP (ci := 2) (q0 := 0) rfl rfl, g_pre hP hK hD hN⟩ rfl rfl hl.1 rfl (lv_room (Nat.le_of_ble_eq_true rfl)) d_Model_parameter_7 ⟨Nat.zero_le _, Nat.zero_le _⟩)) (fun r hr => ?_)
  subst hr
  refine lv_if_eq (tgt := 28) hx hb d_Model_parameter_10 (by decide) (fun c_1 => ?_) (fun c_1 => ?_)
  · refine lv_iconst (v := (-1)) hx hb d_Model_parameter_28 (by decide) ?_
    have hP9 : va_P (dC, dI) classes (wM bd cI cZ ((upd j 0 0)) ac tx ev on mn pm) H := by exact hP
    have hD9 : va_D A (wM bd cI cZ ((upd j 0 0)) ac tx ev on mn pm) := by exact hD
    exact W.iret (v := (-1)) hx hb hrt (fun t ht hW => ⟨⟨(-1), (), rfl, (by simp only [mPaR, if_pos c_1] <;> rfl), by rw [ht]; exact hP9, hD9⟩, hS.F ht⟩) hS.2.2 d_Model_parameter_29
  · refine lv_iload_n hx hb d_Model_parameter_13 rfl (lv_at hl 2 rfl) ?_
    refine lv_iconst (v := (-1)) hx hb d_Model_parameter_14 (by decide) ?_
    refine lv_icmp_lt (tgt := 28) hx hb d_Model_parameter_15 (by decide) (fun c_2 => ?_) (fun c_2 => ?_)
    · refine lv_iconst (v := (-1)) hx hb d_Model_parameter_28 (by decide) ?_
      have hP9 : va_P (dC, dI) classes (wM bd cI cZ ((upd j 0 0)) ac tx ev on mn pm) H := by exact hP
      have hD9 : va_D A (wM bd cI cZ ((upd j 0 0)) ac tx ev on mn pm) := by exact hD
      exact W.iret (v := (-1)) hx hb hrt (fun t ht hW => ⟨⟨(-1), (), rfl, (by simp only [mPaR, if_neg c_1, if_pos c_2] <;> rfl), by rw [ht]; exact hP9, hD9⟩, hS.F ht⟩) hS.2.2 d_Model_parameter_29
    · refine lv_iload_n hx hb d_Model_parameter_18 rfl (lv_at hl 2 rfl) ?_
      refine lv_aload_n hx hb d_Model_parameter_19 rfl (lv_at hl 0 rfl) ?_
      refine va_get (D := (dC, dI)) (ci := 2) (v := .ref (bd 5)) (C := R_Model) (T := F_Model) (N := 12) hx hb hq iw_M hown hK hP 0 rfl rfl 10 (by decide) (hq _ qm_17) (fun _ h9 => h9) rfl d_Model_parameter_20 ?_
      refine lv_iload_n hx hb d_Model_parameter_23 rfl (lv_at hl 1 rfl) ?_
      refine va_iald (D := (dC, dI)) hx hb hK hP 5 0 rfl rfl (mTh_in c_1) d_Model_parameter_24 ?_
      refine lv_icmp_lt (tgt := 30) hx hb d_Model_parameter_25 (by decide) (fun c_3 => ?_) (fun c_3 => ?_)
      · refine lv_iload_n hx hb d_Model_parameter_30 rfl (lv_at hl 2 rfl) ?_
        refine lv_if_ge (tgt := 43) hx hb d_Model_parameter_31 (by decide) (fun c_4 => ?_) (fun c_4 => ?_)
        · refine lv_aload_n hx hb d_Model_parameter_43 rfl (lv_at hl 0 rfl) ?_
          refine va_get (D := (dC, dI)) (ci := 2) (v := .ref (bd 6)) (C := R_Model) (T := F_Model) (N := 12) hx hb hq iw_M hown hK hP 0 rfl rfl 11 (by decide) (hq _ qm_18) (fun _ h9 => h9) rfl d_Model_parameter_44 ?_
          refine lv_bipush (v := 8) hx hb d_Model_parameter_47 (by decide) ?_
          refine lv_iload_n hx hb d_Model_parameter_49 rfl (lv_at hl 1 rfl) ?_
          refine lv_imul hx hb d_Model_parameter_50 ?_
          refine lv_iload_n hx hb d_Model_parameter_51 rfl (lv_at hl 2 rfl) ?_
          refine lv_iadd hx hb d_Model_parameter_52 ?_
          refine va_iald (D := (dC, dI)) hx hb hK hP 6 0 rfl rfl (m_ix (hmn _ (vp_lt (mTh_in c_1))) (mTh_in c_1) c_4 c_3) d_Model_parameter_53 ?_
          have hP9 : va_P (dC, dI) classes (wM bd cI cZ ((upd j 0 0)) ac tx ev on mn pm) H := by exact hP
          have hD9 : va_D A (wM bd cI cZ ((upd j 0 0)) ac tx ev on mn pm) := by exact hD
          exact W.iret (v := (pm (((8 * id) + k0)).toNatClampNeg)) hx hb hrt (fun t ht hW => ⟨⟨(pm (((8 * id) + k0)).toNatClampNeg), (), rfl, (by simp only [mPaR, if_neg c_1, if_neg c_2, if_pos c_3, if_pos c_4] <;> rfl), by rw [ht]; exact hP9, hD9⟩, hS.F ht⟩) hS.2.2 d_Model_parameter_54
        · refine lv_aload_n hx hb d_Model_parameter_34 rfl (lv_at hl 0 rfl) ?_
          refine va_get (D := (dC, dI)) (ci := 2) (v := .ref (bd 5)) (C := R_Model) (T := F_Model) (N := 12) hx hb hq iw_M hown hK hP 0 rfl rfl 10 (by decide) (hq _ qm_17) (fun _ h9 => h9) rfl d_Model_parameter_35 ?_
          refine lv_iload_n hx hb d_Model_parameter_38 rfl (lv_at hl 1 rfl) ?_
          refine va_iald (D := (dC, dI)) hx hb hK hP 5 0 rfl rfl (mTh_in c_1) d_Model_parameter_39 ?_
          refine lv_goto (tgt := 54) hx hb d_Model_parameter_40 (by decide) ?_
          have hP9 : va_P (dC, dI) classes (wM bd cI cZ ((upd j 0 0)) ac tx ev on mn pm) H := by exact hP
          have hD9 : va_D A (wM bd cI cZ ((upd j 0 0)) ac tx ev on mn pm) := by exact hD
          exact W.iret (v := (mn id.toNatClampNeg)) hx hb hrt (fun t ht hW => ⟨⟨(mn id.toNatClampNeg), (), rfl, (by simp only [mPaR, if_neg c_1, if_neg c_2, if_pos c_3, if_neg c_4] <;> rfl), by rw [ht]; exact hP9, hD9⟩, hS.F ht⟩) hS.2.2 d_Model_parameter_54
      · refine lv_iconst (v := (-1)) hx hb d_Model_parameter_28 (by decide) ?_
        have hP9 : va_P (dC, dI) classes (wM bd cI cZ ((upd j 0 0)) ac tx ev on mn pm) H := by exact hP
        have hD9 : va_D A (wM bd cI cZ ((upd j 0 0)) ac tx ev on mn pm) := by exact hD
        exact W.iret (v := (-1)) hx hb hrt (fun t ht hW => ⟨⟨(-1), (), rfl, (by simp only [mPaR, if_neg c_1, if_neg c_2, if_neg c_3] <;> rfl), by rw [ht]; exact hP9, hD9⟩, hS.F ht⟩) hS.2.2 d_Model_parameter_29
set_option maxHeartbeats 4000000 in
set_option maxRecDepth 100000 in
theorem c_Model_value (l : Launch) (dC : Nat → ClassId) (dI : Nat → Nat → Nat) (bd : Nat → Nat) (sz : Nat) (cI cZ : ClassId) (j ac tx ev on mn pm : Nat → Int32) (x : Int32) : Met l y_Model_value w_Model_value ({ frames := 1, cells := 0, slots := 0, locals := 22 }) (va_Pc [.ref (bd 0), .int x] (gP (dC, dI) classes (tyM cI cZ) (wM bd cI cZ j ac tx ev on mn pm) sz)) (va_Qi (fun r (_ : Unit) => r = (mVaR j ac ev x)) (fun _ t => gB (dC, dI) classes (va_A (wM bd cI cZ j ac tx ev on mn pm) sz) (wM bd cI cZ ((upd j 0 0)) ac tx ev on mn pm) t) (va_A (wM bd cI cZ j ac tx ev on mn pm) sz)) 0 0 (va_A (wM bd cI cZ j ac tx ev on mn pm) sz) := by
  refine Met.ofW (cc := b_Model_value) (maxL := 2) (ret := (some .int)) (by decide) rfl ?_
  intro p e s m args below meth c s₁ B hml hv
  obtain ⟨rfl, hsz, hP, hK, hD0, hN⟩ := hv
  have hx := B.exec
  have hb := B.bytes
  have hrt := B.returns
  have hq : ∀ w ∈ wAll, w.before ([.ref (bd 0), .int x] : List Value).toArray s = true := fun w h => atoms_spec (ws := w_Model_value) B.pre w (List.mem_cons_of_mem _ h)
  have hown : s.vm.findClass R_Model = some m.cls := findClass_of_methodNamed B.named
  have hlocks := B.notSynchronized
  subst hsz
  have hD := hD0.self (sz := s.heap.size)
  generalize hAe : va_A (wM bd cI cZ j ac tx ev on mn pm) s.heap.size = A at hD ⊢
  have hA : ∀ q : Nat, s.heap.size ≤ q → A q := fun q h => by rw [← hAe]; exact Or.inr h
  have hS : va_S A s.heap s.heap [] := va_S.rf
  have hl := lv_entry ([.ref (bd 0), .int x]) (n := 2) (Nat.le_of_ble_eq_true rfl)
  rw [lg_entry_eq]
  generalize (lg_sl ([.ref (bd 0), .int x]) ++ List.replicate (2 - (lg_sl ([.ref (bd 0), .int x])).length) Slot.unset).toArray = ls at hl ⊢
  have hl : lv_has ls 2 [(0, .ref (bd 0)), (1, .int x)] := hl
  refine lv_aload_n hx hb d_Model_value_0 rfl (lv_at hl 0 rfl) ?_
  refine lv_iconst (v := 0) hx hb d_Model_value_1 (by decide) ?_
  refine va_put (D := (dC, dI)) (ci := 2) (v := .int 0) (ty := .int) (C := R_Model) (T := F_Model) (N := 12) hx hb hq iw_M t_Model t_Model_ok n_Model hown hK hP hD hS 0 rfl rfl 0 (by decide) (hq _ qm_4) (fun _ h9 => h9) rfl (by decide +kernel) rfl rfl (Nat.le_of_ble_eq_true rfl) d_Model_value_2 (fun H locs hP hD hS => ?_)
  have hP : va_P (dC, dI) classes (wM bd cI cZ ((upd j 0 0)) ac tx ev on mn pm) H := hP
  have hD : va_D A (wM bd cI cZ ((upd j 0 0)) ac tx ev on mn pm) := hD
  refine lv_iload_n hx hb d_Model_value_5 rfl (lv_at hl 1 rfl) ?_
  refine lv_if_lt (tgt := 22) hx hb d_Model_value_6 (by decide) (fun c_1 => ?_) (fun c_1 => ?_)
  · refine lv_iload_n hx hb d_Model_value_22 rfl (lv_at hl 1 rfl) ?_
    refine lv_bipush (v := 8) hx hb d_Model_value_23 (by decide) ?_
    refine lv_icmp_ne (tgt := 35) hx hb d_Model_value_25 (by decide) (fun c_2 => ?_) (fun c_2 => ?_)
    · refine lv_iload_n hx hb d_Model_value_35 rfl (lv_at hl 1 rfl) ?_
      refine lv_bipush (v := 9) hx hb d_Model_value_36 (by decide) ?_
      refine lv_icmp_ne (tgt := 59) hx hb d_Model_value_38 (by decide) (fun c_3 => ?_) (fun c_3 => ?_)
      · refine lv_iload_n hx hb d_Model_value_59 rfl (lv_at hl 1 rfl) ?_
        refine lv_bipush (v := 10) hx hb d_Model_value_60 (by decide) ?_
        refine lv_icmp_ne (tgt := 72) hx hb d_Model_value_62 (by decide) (fun c_4 => ?_) (fun c_4 => ?_)
        · refine lv_iload_n hx hb d_Model_value_72 rfl (lv_at hl 1 rfl) ?_
          refine lv_bipush (v := 11) hx hb d_Model_value_73 (by decide) ?_
          refine lv_icmp_ne (tgt := 85) hx hb d_Model_value_75 (by decide) (fun c_5 => ?_) (fun c_5 => ?_)
          · refine lv_iconst (v := 0) hx hb d_Model_value_85 (by decide) ?_
            have hP9 : va_P (dC, dI) classes (wM bd cI cZ ((upd j 0 0)) ac tx ev on mn pm) H := by exact hP
            have hD9 : va_D A (wM bd cI cZ ((upd j 0 0)) ac tx ev on mn pm) := by exact hD
            exact W.iret (v := 0) hx hb hrt (fun t ht hW => ⟨⟨0, (), rfl, (by simp only [mVaR, if_pos c_1, if_neg c_2, if_neg c_3, if_neg c_4, if_neg c_5] <;> rfl), by rw [ht]; exact hP9, hD9⟩, hS.F ht⟩) hS.2.2 d_Model_value_86
          · refine lv_aload_n hx hb d_Model_value_78 rfl (lv_at hl 0 rfl) ?_
            refine vp_callSi (va_Run.run (va_runV (As := []) (rest := []) ⟨hx, hb, hml, hown, hq⟩ (c_Model_forms l dC dI bd H.size cI cZ ((upd j 0 0)) ac tx ev on mn pm ) ⟨callB_of 0 hq (gd m_Model_forms) rfl rfl rfl (hq _ qm_5) (hq _ qm_13) (by decide +kernel) ⟨Nat.le_of_ble_eq_true rfl, Nat.le_of_ble_eq_true rfl⟩, (hq _ qm_14), (hq _ qm_15)⟩ ⟨g_blind, va_recv hK hP (ci := 2) (q0 := 0) rfl rfl, g_pre hP hK hD hN⟩ rfl rfl hl.1 rfl (lv_room (Nat.le_of_ble_eq_true rfl)) d_Model_value_79 ⟨Nat.zero_le _, Nat.zero_le _⟩)) (fun r hr => ?_)
            subst hr
            refine lv_goto (tgt := 86) hx hb d_Model_value_82 (by decide) ?_
            have hP9 : va_P (dC, dI) classes (wM bd cI cZ ((upd j 0 0)) ac tx ev on mn pm) H := by exact hP
            have hD9 : va_D A (wM bd cI cZ ((upd j 0 0)) ac tx ev on mn pm) := by exact hD
            exact W.iret (v := (mCnt ev 256 0 0)) hx hb hrt (fun t ht hW => ⟨⟨(mCnt ev 256 0 0), (), rfl, (by simp only [mVaR, if_pos c_1, if_neg c_2, if_neg c_3, if_neg c_4, if_pos c_5] <;> rfl), by rw [ht]; exact hP9, hD9⟩, hS.F ht⟩) hS.2.2 d_Model_value_86
        · refine lv_aload_n hx hb d_Model_value_65 rfl (lv_at hl 0 rfl) ?_
          refine va_get (D := (dC, dI)) (ci := 2) (v := .int (j 5)) (C := R_Model) (T := F_Model) (N := 12) hx hb hq iw_M hown hK hP 0 rfl rfl 5 (by decide) (hq _ qm_2) (fun _ h9 => h9) rfl d_Model_value_66 ?_
          refine lv_goto (tgt := 86) hx hb d_Model_value_69 (by decide) ?_
          have hP9 : va_P (dC, dI) classes (wM bd cI cZ ((upd j 0 0)) ac tx ev on mn pm) H := by exact hP
          have hD9 : va_D A (wM bd cI cZ ((upd j 0 0)) ac tx ev on mn pm) := by exact hD
          exact W.iret (v := (j 5)) hx hb hrt (fun t ht hW => ⟨⟨(j 5), (), rfl, (by simp only [mVaR, if_pos c_1, if_neg c_2, if_neg c_3, if_pos c_4] <;> rfl), by rw [ht]; exact hP9, hD9⟩, hS.F ht⟩) hS.2.2 d_Model_value_86
      · refine lv_aload_n hx hb d_Model_value_41 rfl (lv_at hl 0 rfl) ?_
        refine va_get (D := (dC, dI)) (ci := 2) (v := .int (j 3)) (C := R_Model) (T := F_Model) (N := 12) hx hb hq iw_M hown hK hP 0 rfl rfl 3 (by decide) (hq _ qm_9) (fun _ h9 => h9) rfl d_Model_value_42 ?_
        refine lv_if_eq (tgt := 55) hx hb d_Model_value_45 (by decide) (fun c_6 => ?_) (fun c_6 => ?_)
        · refine lv_iconst (v := (-1)) hx hb d_Model_value_55 (by decide) ?_
          refine lv_goto (tgt := 86) hx hb d_Model_value_56 (by decide) ?_
          have hP9 : va_P (dC, dI) classes (wM bd cI cZ ((upd j 0 0)) ac tx ev on mn pm) H := by exact hP
          have hD9 : va_D A (wM bd cI cZ ((upd j 0 0)) ac tx ev on mn pm) := by exact hD
          exact W.iret (v := (-1)) hx hb hrt (fun t ht hW => ⟨⟨(-1), (), rfl, (by simp only [mVaR, if_pos c_1, if_neg c_2, if_pos c_3, if_pos c_6] <;> rfl), by rw [ht]; exact hP9, hD9⟩, hS.F ht⟩) hS.2.2 d_Model_value_86
        · refine lv_aload_n hx hb d_Model_value_48 rfl (lv_at hl 0 rfl) ?_
          refine va_get (D := (dC, dI)) (ci := 2) (v := .int (j 4)) (C := R_Model) (T := F_Model) (N := 12) hx hb hq iw_M hown hK hP 0 rfl rfl 4 (by decide) (hq _ qm_10) (fun _ h9 => h9) rfl d_Model_value_49 ?_
          refine lv_goto (tgt := 86) hx hb d_Model_value_52 (by decide) ?_
          have hP9 : va_P (dC, dI) classes (wM bd cI cZ ((upd j 0 0)) ac tx ev on mn pm) H := by exact hP
          have hD9 : va_D A (wM bd cI cZ ((upd j 0 0)) ac tx ev on mn pm) := by exact hD
          exact W.iret (v := (j 4)) hx hb hrt (fun t ht hW => ⟨⟨(j 4), (), rfl, (by simp only [mVaR, if_pos c_1, if_neg c_2, if_pos c_3, if_neg c_6] <;> rfl), by rw [ht]; exact hP9, hD9⟩, hS.F ht⟩) hS.2.2 d_Model_value_86
    · refine lv_aload_n hx hb d_Model_value_28 rfl (lv_at hl 0 rfl) ?_
      refine va_get (D := (dC, dI)) (ci := 2) (v := .int (j 1)) (C := R_Model) (T := F_Model) (N := 12) hx hb hq iw_M hown hK hP 0 rfl rfl 1 (by decide) (hq _ qm_1) (fun _ h9 => h9) rfl d_Model_value_29 ?_
      refine lv_goto (tgt := 86) hx hb d_Model_value_32 (by decide) ?_
      have hP9 : va_P (dC, dI) classes (wM bd cI cZ ((upd j 0 0)) ac tx ev on mn pm) H := by exact hP
      have hD9 : va_D A (wM bd cI cZ ((upd j 0 0)) ac tx ev on mn pm) := by exact hD
      exact W.iret (v := (j 1)) hx hb hrt (fun t ht hW => ⟨⟨(j 1), (), rfl, (by simp only [mVaR, if_pos c_1, if_pos c_2] <;> rfl), by rw [ht]; exact hP9, hD9⟩, hS.F ht⟩) hS.2.2 d_Model_value_86
  · refine lv_iload_n hx hb d_Model_value_9 rfl (lv_at hl 1 rfl) ?_
    refine lv_bipush (v := 8) hx hb d_Model_value_10 (by decide) ?_
    refine lv_icmp_ge (tgt := 22) hx hb d_Model_value_12 (by decide) (fun c_7 => ?_) (fun c_7 => ?_)
    · refine lv_iload_n hx hb d_Model_value_22 rfl (lv_at hl 1 rfl) ?_
      refine lv_bipush (v := 8) hx hb d_Model_value_23 (by decide) ?_
      refine lv_icmp_ne (tgt := 35) hx hb d_Model_value_25 (by decide) (fun c_8 => ?_) (fun c_8 => ?_)
      · refine lv_iload_n hx hb d_Model_value_35 rfl (lv_at hl 1 rfl) ?_
        refine lv_bipush (v := 9) hx hb d_Model_value_36 (by decide) ?_
        refine lv_icmp_ne (tgt := 59) hx hb d_Model_value_38 (by decide) (fun c_9 => ?_) (fun c_9 => ?_)
        · refine lv_iload_n hx hb d_Model_value_59 rfl (lv_at hl 1 rfl) ?_
          refine lv_bipush (v := 10) hx hb d_Model_value_60 (by decide) ?_
          refine lv_icmp_ne (tgt := 72) hx hb d_Model_value_62 (by decide) (fun c_10 => ?_) (fun c_10 => ?_)
          · refine lv_iload_n hx hb d_Model_value_72 rfl (lv_at hl 1 rfl) ?_
            refine lv_bipush (v := 11) hx hb d_Model_value_73 (by decide) ?_
            refine lv_icmp_ne (tgt := 85) hx hb d_Model_value_75 (by decide) (fun c_11 => ?_) (fun c_11 => ?_)
            · refine lv_iconst (v := 0) hx hb d_Model_value_85 (by decide) ?_
              have hP9 : va_P (dC, dI) classes (wM bd cI cZ ((upd j 0 0)) ac tx ev on mn pm) H := by exact hP
              have hD9 : va_D A (wM bd cI cZ ((upd j 0 0)) ac tx ev on mn pm) := by exact hD
              exact W.iret (v := 0) hx hb hrt (fun t ht hW => ⟨⟨0, (), rfl, (by simp only [mVaR, if_neg c_1, if_pos c_7, if_neg c_8, if_neg c_9, if_neg c_10, if_neg c_11] <;> rfl), by rw [ht]; exact hP9, hD9⟩, hS.F ht⟩) hS.2.2 d_Model_value_86
            · refine lv_aload_n hx hb d_Model_value_78 rfl (lv_at hl 0 rfl) ?_
              refine vp_callSi (va_Run.run (va_runV (As := []) (rest := []) ⟨hx, hb, hml, hown, hq⟩ (c_Model_forms l dC dI bd H.size cI cZ ((upd j 0 0)) ac tx ev on mn pm ) ⟨callB_of 0 hq (gd m_Model_forms) rfl rfl rfl (hq _ qm_5) (hq _ qm_13) (by decide +kernel) ⟨Nat.le_of_ble_eq_true rfl, Nat.le_of_ble_eq_true rfl⟩, (hq _ qm_14), (hq _ qm_15)⟩ ⟨g_blind, va_recv hK hP (ci := 2) (q0 := 0) rfl rfl, g_pre hP hK hD hN⟩ rfl rfl hl.1 rfl (lv_room (Nat.le_of_ble_eq_true rfl)) d_Model_value_79 ⟨Nat.zero_le _, Nat.zero_le _⟩)) (fun r hr => ?_)
              subst hr
              refine lv_goto (tgt := 86) hx hb d_Model_value_82 (by decide) ?_
              have hP9 : va_P (dC, dI) classes (wM bd cI cZ ((upd j 0 0)) ac tx ev on mn pm) H := by exact hP
              have hD9 : va_D A (wM bd cI cZ ((upd j 0 0)) ac tx ev on mn pm) := by exact hD
              exact W.iret (v := (mCnt ev 256 0 0)) hx hb hrt (fun t ht hW => ⟨⟨(mCnt ev 256 0 0), (), rfl, (by simp only [mVaR, if_neg c_1, if_pos c_7, if_neg c_8, if_neg c_9, if_neg c_10, if_pos c_11] <;> rfl), by rw [ht]; exact hP9, hD9⟩, hS.F ht⟩) hS.2.2 d_Model_value_86
          · refine lv_aload_n hx hb d_Model_value_65 rfl (lv_at hl 0 rfl) ?_
            refine va_get (D := (dC, dI)) (ci := 2) (v := .int (j 5)) (C := R_Model) (T := F_Model) (N := 12) hx hb hq iw_M hown hK hP 0 rfl rfl 5 (by decide) (hq _ qm_2) (fun _ h9 => h9) rfl d_Model_value_66 ?_
            refine lv_goto (tgt := 86) hx hb d_Model_value_69 (by decide) ?_
            have hP9 : va_P (dC, dI) classes (wM bd cI cZ ((upd j 0 0)) ac tx ev on mn pm) H := by exact hP
            have hD9 : va_D A (wM bd cI cZ ((upd j 0 0)) ac tx ev on mn pm) := by exact hD
            exact W.iret (v := (j 5)) hx hb hrt (fun t ht hW => ⟨⟨(j 5), (), rfl, (by simp only [mVaR, if_neg c_1, if_pos c_7, if_neg c_8, if_neg c_9, if_pos c_10] <;> rfl), by rw [ht]; exact hP9, hD9⟩, hS.F ht⟩) hS.2.2 d_Model_value_86
        · refine lv_aload_n hx hb d_Model_value_41 rfl (lv_at hl 0 rfl) ?_
          refine va_get (D := (dC, dI)) (ci := 2) (v := .int (j 3)) (C := R_Model) (T := F_Model) (N := 12) hx hb hq iw_M hown hK hP 0 rfl rfl 3 (by decide) (hq _ qm_9) (fun _ h9 => h9) rfl d_Model_value_42 ?_
          refine lv_if_eq (tgt := 55) hx hb d_Model_value_45 (by decide) (fun c_12 => ?_) (fun c_12 => ?_)
          · refine lv_iconst (v := (-1)) hx hb d_Model_value_55 (by decide) ?_
            refine lv_goto (tgt := 86) hx hb d_Model_value_56 (by decide) ?_
            have hP9 : va_P (dC, dI) classes (wM bd cI cZ ((upd j 0 0)) ac tx ev on mn pm) H := by exact hP
            have hD9 : va_D A (wM bd cI cZ ((upd j 0 0)) ac tx ev on mn pm) := by exact hD
            exact W.iret (v := (-1)) hx hb hrt (fun t ht hW => ⟨⟨(-1), (), rfl, (by simp only [mVaR, if_neg c_1, if_pos c_7, if_neg c_8, if_pos c_9, if_pos c_12] <;> rfl), by rw [ht]; exact hP9, hD9⟩, hS.F ht⟩) hS.2.2 d_Model_value_86
          · refine lv_aload_n hx hb d_Model_value_48 rfl (lv_at hl 0 rfl) ?_
            refine va_get (D := (dC, dI)) (ci := 2) (v := .int (j 4)) (C := R_Model) (T := F_Model) (N := 12) hx hb hq iw_M hown hK hP 0 rfl rfl 4 (by decide) (hq _ qm_10) (fun _ h9 => h9) rfl d_Model_value_49 ?_
            refine lv_goto (tgt := 86) hx hb d_Model_value_52 (by decide) ?_
            have hP9 : va_P (dC, dI) classes (wM bd cI cZ ((upd j 0 0)) ac tx ev on mn pm) H := by exact hP
            have hD9 : va_D A (wM bd cI cZ ((upd j 0 0)) ac tx ev on mn pm) := by exact hD
            exact W.iret (v := (j 4)) hx hb hrt (fun t ht hW => ⟨⟨(j 4), (), rfl, (by simp only [mVaR, if_neg c_1, if_pos c_7, if_neg c_8, if_pos c_9, if_neg c_12] <;> rfl), by rw [ht]; exact hP9, hD9⟩, hS.F ht⟩) hS.2.2 d_Model_value_86
      · refine lv_aload_n hx hb d_Model_value_28 rfl (lv_at hl 0 rfl) ?_
        refine va_get (D := (dC, dI)) (ci := 2) (v := .int (j 1)) (C := R_Model) (T := F_Model) (N := 12) hx hb hq iw_M hown hK hP 0 rfl rfl 1 (by decide) (hq _ qm_1) (fun _ h9 => h9) rfl d_Model_value_29 ?_
        refine lv_goto (tgt := 86) hx hb d_Model_value_32 (by decide) ?_
        have hP9 : va_P (dC, dI) classes (wM bd cI cZ ((upd j 0 0)) ac tx ev on mn pm) H := by exact hP
        have hD9 : va_D A (wM bd cI cZ ((upd j 0 0)) ac tx ev on mn pm) := by exact hD
        exact W.iret (v := (j 1)) hx hb hrt (fun t ht hW => ⟨⟨(j 1), (), rfl, (by simp only [mVaR, if_neg c_1, if_pos c_7, if_pos c_8] <;> rfl), by rw [ht]; exact hP9, hD9⟩, hS.F ht⟩) hS.2.2 d_Model_value_86
    · refine lv_aload_n hx hb d_Model_value_15 rfl (lv_at hl 0 rfl) ?_
      refine va_get (D := (dC, dI)) (ci := 2) (v := .ref (bd 1)) (C := R_Model) (T := F_Model) (N := 12) hx hb hq iw_M hown hK hP 0 rfl rfl 2 (by decide) (hq _ qm_3) (fun _ h9 => h9) rfl d_Model_value_16 ?_
      refine lv_iload_n hx hb d_Model_value_19 rfl (lv_at hl 1 rfl) ?_
      refine va_iald (D := (dC, dI)) hx hb hK hP 1 0 rfl rfl (m_in (N := 8) (by decide) c_1 c_7) d_Model_value_20 ?_
      have hP9 : va_P (dC, dI) classes (wM bd cI cZ ((upd j 0 0)) ac tx ev on mn pm) H := by exact hP
      have hD9 : va_D A (wM bd cI cZ ((upd j 0 0)) ac tx ev on mn pm) := by exact hD
      exact W.iret (v := (ac x.toNatClampNeg)) hx hb hrt (fun t ht hW => ⟨⟨(ac x.toNatClampNeg), (), rfl, (by simp only [mVaR, if_neg c_1, if_neg c_7] <;> rfl), by rw [ht]; exact hP9, hD9⟩, hS.F ht⟩) hS.2.2 d_Model_value_21
set_option maxHeartbeats 4000000 in
set_option maxRecDepth 100000 in
theorem c_Model_about (l : Launch) (dC : Nat → ClassId) (dI : Nat → Nat → Nat) (bd : Nat → Nat) (sz : Nat) (cI cZ : ClassId) (j ac tx ev on mn pm : Nat → Int32) (id x : Int32) : Met l y_Model_about w_Model_about ({ frames := 1, cells := 0, slots := 0, locals := 21 }) (va_Pc [.ref (bd 0), .int id, .int x] (gP (dC, dI) classes (tyM cI cZ) (wM bd cI cZ j ac tx ev on mn pm) sz)) (va_Qi (fun r (_ : Unit) => r = (mAbR ev on id x)) (fun _ t => gB (dC, dI) classes (va_A (wM bd cI cZ j ac tx ev on mn pm) sz) (wM bd cI cZ ((upd j 0 0)) ac tx ev on mn pm) t) (va_A (wM bd cI cZ j ac tx ev on mn pm) sz)) 0 0 (va_A (wM bd cI cZ j ac tx ev on mn pm) sz) := by
  refine Met.ofW (cc := b_Model_about) (maxL := 3) (ret := (some .int)) (by decide) rfl ?_
  intro p e s m args below meth c s₁ B hml hv
  obtain ⟨rfl, hsz, hP, hK, hD0, hN⟩ := hv
  have hx := B.exec
  have hb := B.bytes
  have hrt := B.returns
  have hq : ∀ w ∈ wAll, w.before ([.ref (bd 0), .int id, .int x] : List Value).toArray s = true := fun w h => atoms_spec (ws := w_Model_about) B.pre w (List.mem_cons_of_mem _ h)
  have hown : s.vm.findClass R_Model = some m.cls := findClass_of_methodNamed B.named
  have hlocks := B.notSynchronized
  subst hsz
  have hD := hD0.self (sz := s.heap.size)
  generalize hAe : va_A (wM bd cI cZ j ac tx ev on mn pm) s.heap.size = A at hD ⊢
  have hA : ∀ q : Nat, s.heap.size ≤ q → A q := fun q h => by rw [← hAe]; exact Or.inr h
  have hS : va_S A s.heap s.heap [] := va_S.rf
  have hl := lv_entry ([.ref (bd 0), .int id, .int x]) (n := 3) (Nat.le_of_ble_eq_true rfl)
  rw [lg_entry_eq]
  generalize (lg_sl ([.ref (bd 0), .int id, .int x]) ++ List.replicate (3 - (lg_sl ([.ref (bd 0), .int id, .int x])).length) Slot.unset).toArray = ls at hl ⊢
  have hl : lv_has ls 3 [(0, .ref (bd 0)), (1, .int id), (2, .int x)] := hl
  refine lv_aload_n hx hb d_Model_about_0 rfl (lv_at hl 0 rfl) ?_
  refine lv_iconst (v := 0) hx hb d_Model_about_1 (by decide) ?_
  refine va_put (D := (dC, dI)) (ci := 2) (v := .int 0) (ty := .int) (C := R_Model) (T := F_Model) (N := 12) hx hb hq iw_M t_Model t_Model_ok n_Model hown hK hP hD hS 0 rfl rfl 0 (by decide) (hq _ qm_4) (fun _ h9 => h9) rfl (by decide +kernel) rfl rfl (Nat.le_of_ble_eq_true rfl) d_Model_about_2 (fun H locs hP hD hS => ?_)
  have hP : va_P (dC, dI) classes (wM bd cI cZ ((upd j 0 0)) ac tx ev on mn pm) H := hP
  have hD : va_D A (wM bd cI cZ ((upd j 0 0)) ac tx ev on mn pm) := hD
  refine lv_aload_n hx hb d_Model_about_5 rfl (lv_at hl 0 rfl) ?_
  refine lv_iload_n hx hb d_Model_about_6 rfl (lv_at hl 1 rfl) ?_
  refine vp_callSi (va_Run.run (va_runV (As := [.int id]) (rest := []) ⟨hx, hb, hml, hown, hq⟩ (c_Model_isThere l dC dI bd H.size cI cZ ((upd j 0 0)) ac tx ev on mn pm id) ⟨callB_of 1 hq (gd m_Model_isThere) rfl rfl rfl (hq _ qm_5) (hq _ qm_19) (by decide +kernel) ⟨Nat.le_of_ble_eq_true rfl, Nat.le_of_ble_eq_true rfl⟩, (hq _ qm_20), (hq _ qm_21)⟩ ⟨g_blind, va_recv hK hP (ci := 2) (q0 := 0) rfl rfl, g_pre hP hK hD hN⟩ rfl rfl hl.1 rfl (lv_room (Nat.le_of_ble_eq_true rfl)) d_Model_about_7 ⟨Nat.zero_le _, Nat.zero_le _⟩)) (fun r hr => ?_)
  subst hr
  refine lv_if_ne (tgt := 17) hx hb d_Model_about_10 (by decide) (fun c_1 => ?_) (fun c_1 => ?_)
  · refine lv_iload_n hx hb d_Model_about_17 rfl (lv_at hl 2 rfl) ?_
    refine lv_if_ne (tgt := 30) hx hb d_Model_about_18 (by decide) (fun c_2 => ?_) (fun c_2 => ?_)
    · refine lv_iload_n hx hb d_Model_about_30 rfl (lv_at hl 2 rfl) ?_
      refine lv_iconst (v := 1) hx hb d_Model_about_31 (by decide) ?_
      refine lv_icmp_ne (tgt := 52) hx hb d_Model_about_32 (by decide) (fun c_3 => ?_) (fun c_3 => ?_)
      · refine lv_iconst (v := (-1)) hx hb d_Model_about_52 (by decide) ?_
        have hP9 : va_P (dC, dI) classes (wM bd cI cZ ((upd j 0 0)) ac tx ev on mn pm) H := by exact hP
        have hD9 : va_D A (wM bd cI cZ ((upd j 0 0)) ac tx ev on mn pm) := by exact hD
        exact W.iret (v := (-1)) hx hb hrt (fun t ht hW => ⟨⟨(-1), (), rfl, (by simp only [mAbR, if_neg c_1, if_neg c_2, if_neg c_3] <;> rfl), by rw [ht]; exact hP9, hD9⟩, hS.F ht⟩) hS.2.2 d_Model_about_53
      · refine lv_aload_n hx hb d_Model_about_35 rfl (lv_at hl 0 rfl) ?_
        refine va_get (D := (dC, dI)) (ci := 2) (v := .ref (bd 4)) (C := R_Model) (T := F_Model) (N := 12) hx hb hq iw_M hown hK hP 0 rfl rfl 9 (by decide) (hq _ qm_16) (fun _ h9 => h9) rfl d_Model_about_36 ?_
        refine lv_iload_n hx hb d_Model_about_39 rfl (lv_at hl 1 rfl) ?_
        refine va_zald (D := (dC, dI)) hx hb hK hP 4 1 rfl rfl (mTh_in c_1) d_Model_about_40 ?_
        refine lv_if_eq (tgt := 48) hx hb d_Model_about_41 (by decide) (fun c_4 => ?_) (fun c_4 => ?_)
        · refine lv_iconst (v := 0) hx hb d_Model_about_48 (by decide) ?_
          refine lv_goto (tgt := 53) hx hb d_Model_about_49 (by decide) ?_
          have hP9 : va_P (dC, dI) classes (wM bd cI cZ ((upd j 0 0)) ac tx ev on mn pm) H := by exact hP
          have hD9 : va_D A (wM bd cI cZ ((upd j 0 0)) ac tx ev on mn pm) := by exact hD
          exact W.iret (v := 0) hx hb hrt (fun t ht hW => ⟨⟨0, (), rfl, (by simp only [mAbR, if_neg c_1, if_neg c_2, if_pos c_3, if_pos c_4] <;> rfl), by rw [ht]; exact hP9, hD9⟩, hS.F ht⟩) hS.2.2 d_Model_about_53
        · refine lv_iconst (v := 1) hx hb d_Model_about_44 (by decide) ?_
          refine lv_goto (tgt := 53) hx hb d_Model_about_45 (by decide) ?_
          have hP9 : va_P (dC, dI) classes (wM bd cI cZ ((upd j 0 0)) ac tx ev on mn pm) H := by exact hP
          have hD9 : va_D A (wM bd cI cZ ((upd j 0 0)) ac tx ev on mn pm) := by exact hD
          exact W.iret (v := 1) hx hb hrt (fun t ht hW => ⟨⟨1, (), rfl, (by simp only [mAbR, if_neg c_1, if_neg c_2, if_pos c_3, if_neg c_4] <;> rfl), by rw [ht]; exact hP9, hD9⟩, hS.F ht⟩) hS.2.2 d_Model_about_53
    · refine lv_aload_n hx hb d_Model_about_21 rfl (lv_at hl 0 rfl) ?_
      refine va_get (D := (dC, dI)) (ci := 2) (v := .ref (bd 3)) (C := R_Model) (T := F_Model) (N := 12) hx hb hq iw_M hown hK hP 0 rfl rfl 8 (by decide) (hq _ qm_0) (fun _ h9 => h9) rfl d_Model_about_22 ?_
      refine lv_iload_n hx hb d_Model_about_25 rfl (lv_at hl 1 rfl) ?_
      refine va_iald (D := (dC, dI)) hx hb hK hP 3 0 rfl rfl (mTh_in c_1) d_Model_about_26 ?_
      refine lv_goto (tgt := 53) hx hb d_Model_about_27 (by decide) ?_
      have hP9 : va_P (dC, dI) classes (wM bd cI cZ ((upd j 0 0)) ac tx ev on mn pm) H := by exact hP
      have hD9 : va_D A (wM bd cI cZ ((upd j 0 0)) ac tx ev on mn pm) := by exact hD
      exact W.iret (v := (ev id.toNatClampNeg)) hx hb hrt (fun t ht hW => ⟨⟨(ev id.toNatClampNeg), (), rfl, (by simp only [mAbR, if_neg c_1, if_pos c_2] <;> rfl), by rw [ht]; exact hP9, hD9⟩, hS.F ht⟩) hS.2.2 d_Model_about_53
  · refine lv_iconst (v := (-1)) hx hb d_Model_about_13 (by decide) ?_
    refine lv_goto (tgt := 53) hx hb d_Model_about_14 (by decide) ?_
    have hP9 : va_P (dC, dI) classes (wM bd cI cZ ((upd j 0 0)) ac tx ev on mn pm) H := by exact hP
    have hD9 : va_D A (wM bd cI cZ ((upd j 0 0)) ac tx ev on mn pm) := by exact hD
    exact W.iret (v := (-1)) hx hb hrt (fun t ht hW => ⟨⟨(-1), (), rfl, (by simp only [mAbR, if_pos c_1] <;> rfl), by rw [ht]; exact hP9, hD9⟩, hS.F ht⟩) hS.2.2 d_Model_about_53
