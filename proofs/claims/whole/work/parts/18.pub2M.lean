set_option maxHeartbeats 4000000 in
set_option maxRecDepth 100000 in
theorem c_Model_form (l : Launch) (dC : Nat → ClassId) (dI : Nat → Nat → Nat) (bd : Nat → Nat) (sz : Nat) (cI cZ : ClassId) (j ac tx ev on mn pm : Nat → Int32) (id e0 : Int32) (t : Nat) (ht8 : t ≤ 8) (hj6 : j 6 = nI t) : Met l y_Model_form w_Model_form ({ frames := 1, cells := 0, slots := 0, locals := 22 }) (va_Pc [.ref (bd 0), .int id, .int e0] (gP (dC, dI) classes (tyM cI cZ) (wM bd cI cZ j ac tx ev on mn pm) sz)) (va_Qi (fun r (_ : Unit) => r = (mFail j ev id e0)) (fun _ t => gB (dC, dI) classes (va_A (wM bd cI cZ j ac tx ev on mn pm) sz) (wM bd cI cZ ((upd (upd j 0 0) 6 0)) ac tx ((mFoE j ev id e0)) ((mFoO j ev on id e0)) ((mFoN j ev mn id e0)) ((mFoP j tx ev pm id e0))) t) (va_A (wM bd cI cZ j ac tx ev on mn pm) sz)) 0 0 (va_A (wM bd cI cZ j ac tx ev on mn pm) sz) := by
  refine Met.ofW (cc := b_Model_form) (maxL := 5) (ret := (some .int)) (by decide) rfl ?_
  intro p e s m args below meth c s₁ B hml hv
  obtain ⟨rfl, hsz, hP, hK, hD0, hN⟩ := hv
  have hx := B.exec
  have hb := B.bytes
  have hrt := B.returns
  have hq : ∀ w ∈ wAll, w.before ([.ref (bd 0), .int id, .int e0] : List Value).toArray s = true := fun w h => atoms_spec (ws := w_Model_form) B.pre w (List.mem_cons_of_mem _ h)
  have hown : s.vm.findClass R_Model = some m.cls := findClass_of_methodNamed B.named
  have hlocks := B.notSynchronized
  subst hsz
  have hD := hD0.self (sz := s.heap.size)
  generalize hAe : va_A (wM bd cI cZ j ac tx ev on mn pm) s.heap.size = A at hD ⊢
  have hA : ∀ q : Nat, s.heap.size ≤ q → A q := fun q h => by rw [← hAe]; exact Or.inr h
  have hS : va_S A s.heap s.heap [] := va_S.rf
  have hl := lv_entry ([.ref (bd 0), .int id, .int e0]) (n := 5) (Nat.le_of_ble_eq_true rfl)
  rw [lg_entry_eq]
  generalize (lg_sl ([.ref (bd 0), .int id, .int e0]) ++ List.replicate (5 - (lg_sl ([.ref (bd 0), .int id, .int e0])).length) Slot.unset).toArray = ls at hl ⊢
  have hl : lv_has ls 5 [(0, .ref (bd 0)), (1, .int id), (2, .int e0)] := hl
  refine lv_aload_n hx hb d_Model_form_0 rfl (lv_at hl 0 rfl) ?_
  refine lv_iconst (v := 0) hx hb d_Model_form_1 (by decide) ?_
  refine va_put (D := (dC, dI)) (ci := 2) (v := .int 0) (ty := .int) (C := R_Model) (T := F_Model) (N := 12) hx hb hq iw_M t_Model t_Model_ok n_Model hown hK hP hD hS 0 rfl rfl 0 (by decide) (hq _ qm_4) (fun _ h9 => h9) rfl (by decide +kernel) rfl rfl (Nat.le_of_ble_eq_true rfl) d_Model_form_2 (fun H locs hP hD hS => ?_)
  have hP : va_P (dC, dI) classes (wM bd cI cZ ((upd j 0 0)) ac tx ev on mn pm) H := hP
  have hD : va_D A (wM bd cI cZ ((upd j 0 0)) ac tx ev on mn pm) := hD
  refine lv_aload_n hx hb d_Model_form_5 rfl (lv_at hl 0 rfl) ?_
  refine va_get (D := (dC, dI)) (ci := 2) (v := .int (j 6)) (C := R_Model) (T := F_Model) (N := 12) hx hb hq iw_M hown hK hP 0 rfl rfl 6 (by decide) (hq _ qm_11) (fun _ h9 => h9) rfl d_Model_form_6 ?_
  refine lv_istore_n (lv' := [(3, .int (j 6)), (0, .ref (bd 0)), (1, .int id), (2, .int e0)]) hx hb d_Model_form_9 rfl hl (by decide) rfl (fun ls hl => ?_)
  refine lv_aload_n hx hb d_Model_form_10 rfl (lv_at hl 1 rfl) ?_
  refine lv_iconst (v := 0) hx hb d_Model_form_11 (by decide) ?_
  refine va_put (D := (dC, dI)) (ci := 2) (v := .int 0) (ty := .int) (C := R_Model) (T := F_Model) (N := 12) hx hb hq iw_M t_Model t_Model_ok n_Model hown hK hP hD hS 0 rfl rfl 6 (by decide) (hq _ qm_11) (fun _ h9 => h9) rfl (by decide +kernel) rfl rfl (Nat.le_of_ble_eq_true rfl) d_Model_form_12 (fun H locs hP hD hS => ?_)
  have hP : va_P (dC, dI) classes (wM bd cI cZ ((upd (upd j 0 0) 6 0)) ac tx ev on mn pm) H := hP
  have hD : va_D A (wM bd cI cZ ((upd (upd j 0 0) 6 0)) ac tx ev on mn pm) := hD
  refine lv_iload_n hx hb d_Model_form_15 rfl (lv_at hl 0 rfl) ?_
  refine lv_if_eq (tgt := 42) hx hb d_Model_form_16 (by decide) (fun c_1 => ?_) (fun c_1 => ?_)
  · refine lv_bipush (v := 13) hx hb d_Model_form_42 (by decide) ?_
    have hf : mFail j ev id e0 = 13 := by simp only [mFail, if_pos c_1]
    have e_ev : (mFoE j ev id e0) = ev := (by unfold mFoE; rw [hf, if_neg (by decide)])
    have e_on : (mFoO j ev on id e0) = on := (by unfold mFoO; rw [hf, if_neg (by decide)])
    have e_mn : (mFoN j ev mn id e0) = mn := (by unfold mFoN; rw [hf, if_neg (by decide)])
    have e_pm : (mFoP j tx ev pm id e0) = pm := (by unfold mFoP; rw [hf, if_neg (by decide)])
    have hP9 : va_P (dC, dI) classes (wM bd cI cZ ((upd (upd j 0 0) 6 0)) ac tx ((mFoE j ev id e0)) ((mFoO j ev on id e0)) ((mFoN j ev mn id e0)) ((mFoP j tx ev pm id e0))) H := by rw [e_ev, e_on, e_mn, e_pm]; exact hP
    have hD9 : va_D A (wM bd cI cZ ((upd (upd j 0 0) 6 0)) ac tx ((mFoE j ev id e0)) ((mFoO j ev on id e0)) ((mFoN j ev mn id e0)) ((mFoP j tx ev pm id e0))) := by rw [e_ev, e_on, e_mn, e_pm]; exact hD
    exact W.iret (v := 13) hx hb hrt (fun t ht hW => ⟨⟨13, (), rfl, hf.symm, by rw [ht]; exact hP9, hD9⟩, hS.F ht⟩) hS.2.2 d_Model_form_44
  · refine lv_iload_n hx hb d_Model_form_19 rfl (lv_at hl 3 rfl) ?_
    refine lv_iconst (v := 1) hx hb d_Model_form_20 (by decide) ?_
    refine lv_icmp_lt (tgt := 42) hx hb d_Model_form_21 (by decide) (fun c_2 => ?_) (fun c_2 => ?_)
    · refine lv_bipush (v := 13) hx hb d_Model_form_42 (by decide) ?_
      have hf : mFail j ev id e0 = 13 := by simp only [mFail, if_neg c_1, if_pos c_2]
      have e_ev : (mFoE j ev id e0) = ev := (by unfold mFoE; rw [hf, if_neg (by decide)])
      have e_on : (mFoO j ev on id e0) = on := (by unfold mFoO; rw [hf, if_neg (by decide)])
      have e_mn : (mFoN j ev mn id e0) = mn := (by unfold mFoN; rw [hf, if_neg (by decide)])
      have e_pm : (mFoP j tx ev pm id e0) = pm := (by unfold mFoP; rw [hf, if_neg (by decide)])
      have hP9 : va_P (dC, dI) classes (wM bd cI cZ ((upd (upd j 0 0) 6 0)) ac tx ((mFoE j ev id e0)) ((mFoO j ev on id e0)) ((mFoN j ev mn id e0)) ((mFoP j tx ev pm id e0))) H := by rw [e_ev, e_on, e_mn, e_pm]; exact hP
      have hD9 : va_D A (wM bd cI cZ ((upd (upd j 0 0) 6 0)) ac tx ((mFoE j ev id e0)) ((mFoO j ev on id e0)) ((mFoN j ev mn id e0)) ((mFoP j tx ev pm id e0))) := by rw [e_ev, e_on, e_mn, e_pm]; exact hD
      exact W.iret (v := 13) hx hb hrt (fun t ht hW => ⟨⟨13, (), rfl, hf.symm, by rw [ht]; exact hP9, hD9⟩, hS.F ht⟩) hS.2.2 d_Model_form_44
    · refine lv_iload_n hx hb d_Model_form_24 rfl (lv_at hl 3 rfl) ?_
      refine lv_sipush (v := 255) hx hb d_Model_form_25 (by decide) ?_
      refine lv_icmp_gt (tgt := 42) hx hb d_Model_form_28 (by decide) (fun c_3 => ?_) (fun c_3 => ?_)
      · refine lv_bipush (v := 13) hx hb d_Model_form_42 (by decide) ?_
        have hf : mFail j ev id e0 = 13 := by simp only [mFail, if_neg c_1, if_neg c_2, if_pos c_3]
        have e_ev : (mFoE j ev id e0) = ev := (by unfold mFoE; rw [hf, if_neg (by decide)])
        have e_on : (mFoO j ev on id e0) = on := (by unfold mFoO; rw [hf, if_neg (by decide)])
        have e_mn : (mFoN j ev mn id e0) = mn := (by unfold mFoN; rw [hf, if_neg (by decide)])
        have e_pm : (mFoP j tx ev pm id e0) = pm := (by unfold mFoP; rw [hf, if_neg (by decide)])
        have hP9 : va_P (dC, dI) classes (wM bd cI cZ ((upd (upd j 0 0) 6 0)) ac tx ((mFoE j ev id e0)) ((mFoO j ev on id e0)) ((mFoN j ev mn id e0)) ((mFoP j tx ev pm id e0))) H := by rw [e_ev, e_on, e_mn, e_pm]; exact hP
        have hD9 : va_D A (wM bd cI cZ ((upd (upd j 0 0) 6 0)) ac tx ((mFoE j ev id e0)) ((mFoO j ev on id e0)) ((mFoN j ev mn id e0)) ((mFoP j tx ev pm id e0))) := by rw [e_ev, e_on, e_mn, e_pm]; exact hD
        exact W.iret (v := 13) hx hb hrt (fun t ht hW => ⟨⟨13, (), rfl, hf.symm, by rw [ht]; exact hP9, hD9⟩, hS.F ht⟩) hS.2.2 d_Model_form_44
      · refine lv_iload_n hx hb d_Model_form_31 rfl (lv_at hl 2 rfl) ?_
        refine lv_if_lt (tgt := 42) hx hb d_Model_form_32 (by decide) (fun c_4 => ?_) (fun c_4 => ?_)
        · refine lv_bipush (v := 13) hx hb d_Model_form_42 (by decide) ?_
          have hf : mFail j ev id e0 = 13 := by simp only [mFail, if_neg c_1, if_neg c_2, if_neg c_3, if_pos c_4]
          have e_ev : (mFoE j ev id e0) = ev := (by unfold mFoE; rw [hf, if_neg (by decide)])
          have e_on : (mFoO j ev on id e0) = on := (by unfold mFoO; rw [hf, if_neg (by decide)])
          have e_mn : (mFoN j ev mn id e0) = mn := (by unfold mFoN; rw [hf, if_neg (by decide)])
          have e_pm : (mFoP j tx ev pm id e0) = pm := (by unfold mFoP; rw [hf, if_neg (by decide)])
          have hP9 : va_P (dC, dI) classes (wM bd cI cZ ((upd (upd j 0 0) 6 0)) ac tx ((mFoE j ev id e0)) ((mFoO j ev on id e0)) ((mFoN j ev mn id e0)) ((mFoP j tx ev pm id e0))) H := by rw [e_ev, e_on, e_mn, e_pm]; exact hP
          have hD9 : va_D A (wM bd cI cZ ((upd (upd j 0 0) 6 0)) ac tx ((mFoE j ev id e0)) ((mFoO j ev on id e0)) ((mFoN j ev mn id e0)) ((mFoP j tx ev pm id e0))) := by rw [e_ev, e_on, e_mn, e_pm]; exact hD
          exact W.iret (v := 13) hx hb hrt (fun t ht hW => ⟨⟨13, (), rfl, hf.symm, by rw [ht]; exact hP9, hD9⟩, hS.F ht⟩) hS.2.2 d_Model_form_44
        · refine lv_iload_n hx hb d_Model_form_35 rfl (lv_at hl 2 rfl) ?_
          refine lv_sipush (v := 255) hx hb d_Model_form_36 (by decide) ?_
          refine lv_icmp_le (tgt := 45) hx hb d_Model_form_39 (by decide) (fun c_5 => ?_) (fun c_5 => ?_)
          · refine lv_aload_n hx hb d_Model_form_45 rfl (lv_at hl 1 rfl) ?_
            refine va_get (D := (dC, dI)) (ci := 2) (v := .ref (bd 3)) (C := R_Model) (T := F_Model) (N := 12) hx hb hq iw_M hown hK hP 0 rfl rfl 8 (by decide) (hq _ qm_0) (fun _ h9 => h9) rfl d_Model_form_46 ?_
            refine lv_iload_n hx hb d_Model_form_49 rfl (lv_at hl 2 rfl) ?_
            refine va_iald (D := (dC, dI)) hx hb hK hP 3 0 rfl rfl (m_in2 (N := 255) (by decide) c_4 c_5) d_Model_form_50 ?_
            refine lv_if_le (tgt := 57) hx hb d_Model_form_51 (by decide) (fun c_6 => ?_) (fun c_6 => ?_)
            · refine lv_aload_n hx hb d_Model_form_57 rfl (lv_at hl 1 rfl) ?_
              refine vp_callSi (va_Run.run (va_runV (As := []) (rest := []) ⟨hx, hb, hml, hown, hq⟩ (c_Model_forms l dC dI bd H.size cI cZ ((upd (upd j 0 0) 6 0)) ac tx ev on mn pm ) ⟨callB_of 0 hq (gd m_Model_forms) rfl rfl rfl (hq _ qm_5) (hq _ qm_13) (by decide +kernel) ⟨Nat.le_of_ble_eq_true rfl, Nat.le_of_ble_eq_true rfl⟩, (hq _ qm_14), (hq _ qm_15)⟩ ⟨g_blind, va_recv hK hP (ci := 2) (q0 := 0) rfl rfl, g_pre hP hK hD hN⟩ rfl rfl hl.1 rfl (lv_room (Nat.le_of_ble_eq_true rfl)) d_Model_form_58 ⟨Nat.zero_le _, Nat.zero_le _⟩)) (fun r hr => ?_)
              subst hr
              refine lv_bipush (v := 8) hx hb d_Model_form_61 (by decide) ?_
              refine lv_icmp_ne (tgt := 69) hx hb d_Model_form_63 (by decide) (fun c_7 => ?_) (fun c_7 => ?_)
              · refine lv_aload_n hx hb d_Model_form_69 rfl (lv_at hl 1 rfl) ?_
                refine va_get (D := (dC, dI)) (ci := 2) (v := .ref (bd 3)) (C := R_Model) (T := F_Model) (N := 12) hx hb hq iw_M hown hK hP 0 rfl rfl 8 (by decide) (hq _ qm_0) (fun _ h9 => h9) rfl d_Model_form_70 ?_
                refine lv_iload_n hx hb d_Model_form_73 rfl (lv_at hl 2 rfl) ?_
                refine lv_iload_n hx hb d_Model_form_74 rfl (lv_at hl 3 rfl) ?_
                refine va_iast (D := (dC, dI)) hx hb hK hP hD hS 3 0 rfl rfl (m_in2 (N := 255) (by decide) c_4 c_5) d_Model_form_75 (fun H locs hP hD hS => ?_)
                have hP : va_P (dC, dI) classes (wM bd cI cZ ((upd (upd j 0 0) 6 0)) ac tx ((upd ev id.toNatClampNeg e0)) on mn pm) H := hP
                have hD : va_D A (wM bd cI cZ ((upd (upd j 0 0) 6 0)) ac tx ((upd ev id.toNatClampNeg e0)) on mn pm) := hD
                refine lv_aload_n hx hb d_Model_form_76 rfl (lv_at hl 1 rfl) ?_
                refine va_get (D := (dC, dI)) (ci := 2) (v := .ref (bd 4)) (C := R_Model) (T := F_Model) (N := 12) hx hb hq iw_M hown hK hP 0 rfl rfl 9 (by decide) (hq _ qm_16) (fun _ h9 => h9) rfl d_Model_form_77 ?_
                refine lv_iload_n hx hb d_Model_form_80 rfl (lv_at hl 2 rfl) ?_
                refine lv_iconst (v := 0) hx hb d_Model_form_81 (by decide) ?_
                refine va_zast (D := (dC, dI)) hx hb hK hP hD hS 4 1 rfl rfl (m_in2 (N := 255) (by decide) c_4 c_5) d_Model_form_82 (fun H locs hP hD hS => ?_)
                rw [m_nar (Or.inl rfl)] at hP hD
                have hP : va_P (dC, dI) classes (wM bd cI cZ ((upd (upd j 0 0) 6 0)) ac tx ((upd ev id.toNatClampNeg e0)) ((upd on id.toNatClampNeg 0)) mn pm) H := hP
                have hD : va_D A (wM bd cI cZ ((upd (upd j 0 0) 6 0)) ac tx ((upd ev id.toNatClampNeg e0)) ((upd on id.toNatClampNeg 0)) mn pm) := hD
                refine lv_aload_n hx hb d_Model_form_83 rfl (lv_at hl 1 rfl) ?_
                refine va_get (D := (dC, dI)) (ci := 2) (v := .ref (bd 5)) (C := R_Model) (T := F_Model) (N := 12) hx hb hq iw_M hown hK hP 0 rfl rfl 10 (by decide) (hq _ qm_17) (fun _ h9 => h9) rfl d_Model_form_84 ?_
                refine lv_iload_n hx hb d_Model_form_87 rfl (lv_at hl 2 rfl) ?_
                refine lv_iload_n hx hb d_Model_form_88 rfl (lv_at hl 0 rfl) ?_
                refine va_iast (D := (dC, dI)) hx hb hK hP hD hS 5 0 rfl rfl (m_in2 (N := 255) (by decide) c_4 c_5) d_Model_form_89 (fun H locs hP hD hS => ?_)
                have hP : va_P (dC, dI) classes (wM bd cI cZ ((upd (upd j 0 0) 6 0)) ac tx ((upd ev id.toNatClampNeg e0)) ((upd on id.toNatClampNeg 0)) ((upd mn id.toNatClampNeg ((j 6)))) pm) H := hP
                have hD : va_D A (wM bd cI cZ ((upd (upd j 0 0) 6 0)) ac tx ((upd ev id.toNatClampNeg e0)) ((upd on id.toNatClampNeg 0)) ((upd mn id.toNatClampNeg ((j 6)))) pm) := hD
                refine lv_iconst (v := 0) hx hb d_Model_form_90 (by decide) ?_
                refine lv_istore (lv' := [(4, .int 0), (3, .int (j 6)), (0, .ref (bd 0)), (1, .int id), (2, .int e0)]) hx hb d_Model_form_91 hl (by decide) rfl (fun ls hl => ?_)
                have hf : mFail j ev id e0 = 0 := by simp only [mFail, if_neg c_1, if_neg c_2, if_neg c_3, if_neg c_4, if_pos c_5, if_pos c_6, if_neg c_7]
                obtain ⟨d, hd, hid⟩ : ∃ d : Nat, d < 256 ∧ id = nI d := vp_in_of (m_in2 (N := 255) (by decide) c_4 c_5) (by decide)
                have hdc : id.toNatClampNeg = d := by rw [hid]; exact nI_clamp (by omega)
                have key : ∀ (n i : Nat) (pq : Nat → Int32), i + n = t → mCpy tx (8 * d) t 0 pm = mCpy tx (8 * d) n i pq → ∀ (H : Heap) (locs : List Loc), va_P (dC, dI) classes (wM bd cI cZ ((upd (upd j 0 0) 6 0)) ac tx ((upd ev id.toNatClampNeg e0)) ((upd on id.toNatClampNeg 0)) ((upd mn id.toNatClampNeg ((j 6)))) pq) H → va_D A (wM bd cI cZ ((upd (upd j 0 0) 6 0)) ac tx ((upd ev id.toNatClampNeg e0)) ((upd on id.toNatClampNeg 0)) ((upd mn id.toNatClampNeg ((j 6)))) pq) → va_S A s.heap H locs → ∀ (ls : Array Slot), lv_has ls 5 [(0, .ref (bd 0)), (1, .int id), (2, .int e0), (3, .int (j 6)), (4, .int (nI i))] → W p l e (headSpec w_Model_form ({ frames := 1, cells := 0, slots := 0, locals := 22 })).room s m ([.ref (bd 0), .int id, .int e0] : List Value).toArray below meth c H locs 0 0 (MQ below (va_Qi (fun r (_ : Unit) => r = (mFail j ev id e0)) (fun _ t => gB (dC, dI) classes A (wM bd cI cZ ((upd (upd j 0 0) 6 0)) ac tx ((mFoE j ev id e0)) ((mFoO j ev on id e0)) ((mFoN j ev mn id e0)) ((mFoP j tx ev pm id e0))) t) A) ([.ref (bd 0), .int id, .int e0] : List Value).toArray s 0 0 A) (F0 m 93 ls []) := by
                  intro n
                  induction n with
                  | zero =>
                    intro i pq hin hres H locs hP hD hS ls hl
                    obtain rfl : i = t := by omega
                    refine lv_iload hx hb d_Model_form_93 (lv_at hl 4 rfl) ?_
                    refine lv_iload_n hx hb d_Model_form_95 rfl (lv_at hl 3 rfl) ?_
                    refine lv_icmp_ge (tgt := 124) hx hb d_Model_form_96 (by decide) (fun c_8 => ?_) (fun c_8 => ?_)
                    · refine lv_iconst (v := 0) hx hb d_Model_form_124 (by decide) ?_
                      have e9 : mFoP j tx ev pm id e0 = pq := by unfold mFoP; rw [hf, if_pos rfl, hdc, hj6, nI_clamp (by omega)]; exact hres
                      have e_ev : (mFoE j ev id e0) = (upd ev id.toNatClampNeg e0) := (by unfold mFoE; rw [hf, if_pos rfl])
                      have e_on : (mFoO j ev on id e0) = (upd on id.toNatClampNeg 0) := (by unfold mFoO; rw [hf, if_pos rfl])
                      have e_mn : (mFoN j ev mn id e0) = (upd mn id.toNatClampNeg ((j 6))) := (by unfold mFoN; rw [hf, if_pos rfl])
                      have e_pm : (mFoP j tx ev pm id e0) = pq := e9
                      have hP9 : va_P (dC, dI) classes (wM bd cI cZ ((upd (upd j 0 0) 6 0)) ac tx ((mFoE j ev id e0)) ((mFoO j ev on id e0)) ((mFoN j ev mn id e0)) ((mFoP j tx ev pm id e0))) H := by rw [e_ev, e_on, e_mn, e_pm]; exact hP
                      have hD9 : va_D A (wM bd cI cZ ((upd (upd j 0 0) 6 0)) ac tx ((mFoE j ev id e0)) ((mFoO j ev on id e0)) ((mFoN j ev mn id e0)) ((mFoP j tx ev pm id e0))) := by rw [e_ev, e_on, e_mn, e_pm]; exact hD
                      exact W.iret (v := 0) hx hb hrt (fun t ht hW => ⟨⟨0, (), rfl, hf.symm, by rw [ht]; exact hP9, hD9⟩, hS.F ht⟩) hS.2.2 d_Model_form_125
                    · exact absurd (by rw [hj6]; exact Int32.le_refl _) c_8
                  | succ n ih =>
                    intro i pq hin hres H locs hP hD hS ls hl
                    have hi : i < 8 := by omega
                    refine lv_iload hx hb d_Model_form_93 (lv_at hl 4 rfl) ?_
                    refine lv_iload_n hx hb d_Model_form_95 rfl (lv_at hl 3 rfl) ?_
                    refine lv_icmp_ge (tgt := 124) hx hb d_Model_form_96 (by decide) (fun c_9 => ?_) (fun c_9 => ?_)
                    · exact absurd c_9 (by rw [hj6]; exact nI_ge (by omega) (by omega))
                    · refine lv_aload_n hx hb d_Model_form_99 rfl (lv_at hl 0 rfl) ?_
                      refine va_get (D := (dC, dI)) (ci := 2) (v := .ref (bd 6)) (C := R_Model) (T := F_Model) (N := 12) hx hb hq iw_M hown hK hP 0 rfl rfl 11 (by decide) (hq _ qm_18) (fun _ h9 => h9) rfl d_Model_form_100 ?_
                      refine lv_bipush (v := 8) hx hb d_Model_form_103 (by decide) ?_
                      refine lv_iload_n hx hb d_Model_form_105 rfl (lv_at hl 1 rfl) ?_
                      refine lv_imul hx hb d_Model_form_106 ?_
                      refine lv_iload hx hb d_Model_form_107 (lv_at hl 4 rfl) ?_
                      refine lv_iadd hx hb d_Model_form_109 ?_
                      refine lv_aload_n hx hb d_Model_form_110 rfl (lv_at hl 0 rfl) ?_
                      refine va_get (D := (dC, dI)) (ci := 2) (v := .ref (bd 2)) (C := R_Model) (T := F_Model) (N := 12) hx hb hq iw_M hown hK hP 0 rfl rfl 7 (by decide) (hq _ qm_12) (fun _ h9 => h9) rfl d_Model_form_111 ?_
                      refine lv_iload hx hb d_Model_form_114 (lv_at hl 4 rfl) ?_
                      refine g_ild (D := (dC, dI)) hx hb hK hP 2 0 rfl rfl (i := i) hi (by decide) d_Model_form_116 ?_
                      rw [show ((8 : Int32) * id + nI i) = nI (8 * d + i) from by rw [hid, show (8 : Int32) = nI 8 from rfl, pk_mul, nI_add]]
                      refine g_ist (D := (dC, dI)) hx hb hK hP hD hS 6 0 rfl rfl (i := (8 * d + i)) (by omega) (by decide) d_Model_form_117 (fun H locs hP hD hS => ?_)
                      have hP : va_P (dC, dI) classes (wM bd cI cZ ((upd (upd j 0 0) 6 0)) ac tx ((upd ev id.toNatClampNeg e0)) ((upd on id.toNatClampNeg 0)) ((upd mn id.toNatClampNeg ((j 6)))) ((upd pq ((8 * d + i)) ((tx i))))) H := hP
                      have hD : va_D A (wM bd cI cZ ((upd (upd j 0 0) 6 0)) ac tx ((upd ev id.toNatClampNeg e0)) ((upd on id.toNatClampNeg 0)) ((upd mn id.toNatClampNeg ((j 6)))) ((upd pq ((8 * d + i)) ((tx i))))) := hD
                      refine lv_iinc (v := (nI (i + 1))) (lv' := [(4, .int (nI (i + 1))), (0, .ref (bd 0)), (1, .int id), (2, .int e0), (3, .int (j 6))]) hx hb d_Model_form_118 hl (k := 4) rfl ((show nI i + Int32.ofInt 1 = nI i + 1 from rfl).trans (nI_1 i)) (by decide) rfl (fun ls hl => ?_)
                      refine lv_goto (tgt := 93) hx hb d_Model_form_121 (by decide) ?_
                      exact ih (i + 1) ((upd pq ((8 * d + i)) ((tx i)))) (by omega) (by rw [hres]; rfl) H locs hP hD hS ls (lv_sub hl [1, 2, 3, 4, 0] rfl)
                exact key t 0 pm (by omega) rfl H locs hP hD hS ls (lv_sub hl [2, 3, 4, 1, 0] rfl)
              · refine lv_bipush (v := 12) hx hb d_Model_form_66 (by decide) ?_
                have hf : mFail j ev id e0 = 12 := by simp only [mFail, if_neg c_1, if_neg c_2, if_neg c_3, if_neg c_4, if_pos c_5, if_pos c_6, if_pos c_7]
                have e_ev : (mFoE j ev id e0) = ev := (by unfold mFoE; rw [hf, if_neg (by decide)])
                have e_on : (mFoO j ev on id e0) = on := (by unfold mFoO; rw [hf, if_neg (by decide)])
                have e_mn : (mFoN j ev mn id e0) = mn := (by unfold mFoN; rw [hf, if_neg (by decide)])
                have e_pm : (mFoP j tx ev pm id e0) = pm := (by unfold mFoP; rw [hf, if_neg (by decide)])
                have hP9 : va_P (dC, dI) classes (wM bd cI cZ ((upd (upd j 0 0) 6 0)) ac tx ((mFoE j ev id e0)) ((mFoO j ev on id e0)) ((mFoN j ev mn id e0)) ((mFoP j tx ev pm id e0))) H := by rw [e_ev, e_on, e_mn, e_pm]; exact hP
                have hD9 : va_D A (wM bd cI cZ ((upd (upd j 0 0) 6 0)) ac tx ((mFoE j ev id e0)) ((mFoO j ev on id e0)) ((mFoN j ev mn id e0)) ((mFoP j tx ev pm id e0))) := by rw [e_ev, e_on, e_mn, e_pm]; exact hD
                exact W.iret (v := 12) hx hb hrt (fun t ht hW => ⟨⟨12, (), rfl, hf.symm, by rw [ht]; exact hP9, hD9⟩, hS.F ht⟩) hS.2.2 d_Model_form_68
            · refine lv_bipush (v := 11) hx hb d_Model_form_54 (by decide) ?_
              have hf : mFail j ev id e0 = 11 := by simp only [mFail, if_neg c_1, if_neg c_2, if_neg c_3, if_neg c_4, if_pos c_5, if_neg c_6]
              have e_ev : (mFoE j ev id e0) = ev := (by unfold mFoE; rw [hf, if_neg (by decide)])
              have e_on : (mFoO j ev on id e0) = on := (by unfold mFoO; rw [hf, if_neg (by decide)])
              have e_mn : (mFoN j ev mn id e0) = mn := (by unfold mFoN; rw [hf, if_neg (by decide)])
              have e_pm : (mFoP j tx ev pm id e0) = pm := (by unfold mFoP; rw [hf, if_neg (by decide)])
              have hP9 : va_P (dC, dI) classes (wM bd cI cZ ((upd (upd j 0 0) 6 0)) ac tx ((mFoE j ev id e0)) ((mFoO j ev on id e0)) ((mFoN j ev mn id e0)) ((mFoP j tx ev pm id e0))) H := by rw [e_ev, e_on, e_mn, e_pm]; exact hP
              have hD9 : va_D A (wM bd cI cZ ((upd (upd j 0 0) 6 0)) ac tx ((mFoE j ev id e0)) ((mFoO j ev on id e0)) ((mFoN j ev mn id e0)) ((mFoP j tx ev pm id e0))) := by rw [e_ev, e_on, e_mn, e_pm]; exact hD
              exact W.iret (v := 11) hx hb hrt (fun t ht hW => ⟨⟨11, (), rfl, hf.symm, by rw [ht]; exact hP9, hD9⟩, hS.F ht⟩) hS.2.2 d_Model_form_56
          · refine lv_bipush (v := 13) hx hb d_Model_form_42 (by decide) ?_
            have hf : mFail j ev id e0 = 13 := by simp only [mFail, if_neg c_1, if_neg c_2, if_neg c_3, if_neg c_4, if_neg c_5]
            have e_ev : (mFoE j ev id e0) = ev := (by unfold mFoE; rw [hf, if_neg (by decide)])
            have e_on : (mFoO j ev on id e0) = on := (by unfold mFoO; rw [hf, if_neg (by decide)])
            have e_mn : (mFoN j ev mn id e0) = mn := (by unfold mFoN; rw [hf, if_neg (by decide)])
            have e_pm : (mFoP j tx ev pm id e0) = pm := (by unfold mFoP; rw [hf, if_neg (by decide)])
            have hP9 : va_P (dC, dI) classes (wM bd cI cZ ((upd (upd j 0 0) 6 0)) ac tx ((mFoE j ev id e0)) ((mFoO j ev on id e0)) ((mFoN j ev mn id e0)) ((mFoP j tx ev pm id e0))) H := by rw [e_ev, e_on, e_mn, e_pm]; exact hP
            have hD9 : va_D A (wM bd cI cZ ((upd (upd j 0 0) 6 0)) ac tx ((mFoE j ev id e0)) ((mFoO j ev on id e0)) ((mFoN j ev mn id e0)) ((mFoP j tx ev pm id e0))) := by rw [e_ev, e_on, e_mn, e_pm]; exact hD
            exact W.iret (v := 13) hx hb hrt (fun t ht hW => ⟨⟨13, (), rfl, hf.symm, by rw [ht]; exact hP9, hD9⟩, hS.F ht⟩) hS.2.2 d_Model_form_44
set_option maxHeartbeats 4000000 in
set_option maxRecDepth 100000 in
theorem c_Model_remove (l : Launch) (dC : Nat → ClassId) (dI : Nat → Nat → Nat) (bd : Nat → Nat) (sz : Nat) (cI cZ : ClassId) (j ac tx ev on mn pm : Nat → Int32) (id : Int32) : Met l y_Model_remove w_Model_remove ({ frames := 1, cells := 0, slots := 0, locals := 21 }) (va_Pc [.ref (bd 0), .int id] (gP (dC, dI) classes (tyM cI cZ) (wM bd cI cZ j ac tx ev on mn pm) sz)) (va_Qi (fun r (_ : Unit) => r = (mReR ev on id)) (fun _ t => gB (dC, dI) classes (va_A (wM bd cI cZ j ac tx ev on mn pm) sz) (wM bd cI cZ ((upd j 0 0)) ac tx ((mReE ev on id)) on mn pm) t) (va_A (wM bd cI cZ j ac tx ev on mn pm) sz)) 0 0 (va_A (wM bd cI cZ j ac tx ev on mn pm) sz) := by
  refine Met.ofW (cc := b_Model_remove) (maxL := 2) (ret := (some .int)) (by decide) rfl ?_
  intro p e s m args below meth c s₁ B hml hv
  obtain ⟨rfl, hsz, hP, hK, hD0, hN⟩ := hv
  have hx := B.exec
  have hb := B.bytes
  have hrt := B.returns
  have hq : ∀ w ∈ wAll, w.before ([.ref (bd 0), .int id] : List Value).toArray s = true := fun w h => atoms_spec (ws := w_Model_remove) B.pre w (List.mem_cons_of_mem _ h)
  have hown : s.vm.findClass R_Model = some m.cls := findClass_of_methodNamed B.named
  have hlocks := B.notSynchronized
  subst hsz
  have hD := hD0.self (sz := s.heap.size)
  generalize hAe : va_A (wM bd cI cZ j ac tx ev on mn pm) s.heap.size = A at hD ⊢
  have hA : ∀ q : Nat, s.heap.size ≤ q → A q := fun q h => by rw [← hAe]; exact Or.inr h
  have hS : va_S A s.heap s.heap [] := va_S.rf
  have hl := lv_entry ([.ref (bd 0), .int id]) (n := 2) (Nat.le_of_ble_eq_true rfl)
  rw [lg_entry_eq]
  generalize (lg_sl ([.ref (bd 0), .int id]) ++ List.replicate (2 - (lg_sl ([.ref (bd 0), .int id])).length) Slot.unset).toArray = ls at hl ⊢
  have hl : lv_has ls 2 [(0, .ref (bd 0)), (1, .int id)] := hl
  refine lv_aload_n hx hb d_Model_remove_0 rfl (lv_at hl 0 rfl) ?_
  refine lv_iconst (v := 0) hx hb d_Model_remove_1 (by decide) ?_
  refine va_put (D := (dC, dI)) (ci := 2) (v := .int 0) (ty := .int) (C := R_Model) (T := F_Model) (N := 12) hx hb hq iw_M t_Model t_Model_ok n_Model hown hK hP hD hS 0 rfl rfl 0 (by decide) (hq _ qm_4) (fun _ h9 => h9) rfl (by decide +kernel) rfl rfl (Nat.le_of_ble_eq_true rfl) d_Model_remove_2 (fun H locs hP hD hS => ?_)
  have hP : va_P (dC, dI) classes (wM bd cI cZ ((upd j 0 0)) ac tx ev on mn pm) H := hP
  have hD : va_D A (wM bd cI cZ ((upd j 0 0)) ac tx ev on mn pm) := hD
  refine lv_aload_n hx hb d_Model_remove_5 rfl (lv_at hl 0 rfl) ?_
  refine lv_iload_n hx hb d_Model_remove_6 rfl (lv_at hl 1 rfl) ?_
  refine vp_callSi (va_Run.run (va_runV (As := [.int id]) (rest := []) ⟨hx, hb, hml, hown, hq⟩ (c_Model_isThere l dC dI bd H.size cI cZ ((upd j 0 0)) ac tx ev on mn pm id) ⟨callB_of 1 hq (gd m_Model_isThere) rfl rfl rfl (hq _ qm_5) (hq _ qm_19) (by decide +kernel) ⟨Nat.le_of_ble_eq_true rfl, Nat.le_of_ble_eq_true rfl⟩, (hq _ qm_20), (hq _ qm_21)⟩ ⟨g_blind, va_recv hK hP (ci := 2) (q0 := 0) rfl rfl, g_pre hP hK hD hN⟩ rfl rfl hl.1 rfl (lv_room (Nat.le_of_ble_eq_true rfl)) d_Model_remove_7 ⟨Nat.zero_le _, Nat.zero_le _⟩)) (fun r hr => ?_)
  subst hr
  refine lv_if_ne (tgt := 16) hx hb d_Model_remove_10 (by decide) (fun c_1 => ?_) (fun c_1 => ?_)
  · refine lv_aload_n hx hb d_Model_remove_16 rfl (lv_at hl 0 rfl) ?_
    refine va_get (D := (dC, dI)) (ci := 2) (v := .ref (bd 4)) (C := R_Model) (T := F_Model) (N := 12) hx hb hq iw_M hown hK hP 0 rfl rfl 9 (by decide) (hq _ qm_16) (fun _ h9 => h9) rfl d_Model_remove_17 ?_
    refine lv_iload_n hx hb d_Model_remove_20 rfl (lv_at hl 1 rfl) ?_
    refine va_zald (D := (dC, dI)) hx hb hK hP 4 1 rfl rfl (mTh_in c_1) d_Model_remove_21 ?_
    refine lv_if_eq (tgt := 28) hx hb d_Model_remove_22 (by decide) (fun c_2 => ?_) (fun c_2 => ?_)
    · refine lv_aload_n hx hb d_Model_remove_28 rfl (lv_at hl 0 rfl) ?_
      refine va_get (D := (dC, dI)) (ci := 2) (v := .ref (bd 3)) (C := R_Model) (T := F_Model) (N := 12) hx hb hq iw_M hown hK hP 0 rfl rfl 8 (by decide) (hq _ qm_0) (fun _ h9 => h9) rfl d_Model_remove_29 ?_
      refine lv_iload_n hx hb d_Model_remove_32 rfl (lv_at hl 1 rfl) ?_
      refine lv_iconst (v := 0) hx hb d_Model_remove_33 (by decide) ?_
      refine va_iast (D := (dC, dI)) hx hb hK hP hD hS 3 0 rfl rfl (mTh_in c_1) d_Model_remove_34 (fun H locs hP hD hS => ?_)
      have hP : va_P (dC, dI) classes (wM bd cI cZ ((upd j 0 0)) ac tx ((upd ev id.toNatClampNeg 0)) on mn pm) H := hP
      have hD : va_D A (wM bd cI cZ ((upd j 0 0)) ac tx ((upd ev id.toNatClampNeg 0)) on mn pm) := hD
      refine lv_iconst (v := 0) hx hb d_Model_remove_35 (by decide) ?_
      have e_ev : (mReE ev on id) = (upd ev id.toNatClampNeg 0) := (by simp only [mReR, mReE, if_neg c_1, if_pos c_2] <;> rfl)
      have hP9 : va_P (dC, dI) classes (wM bd cI cZ ((upd j 0 0)) ac tx ((mReE ev on id)) on mn pm) H := by rw [e_ev]; exact hP
      have hD9 : va_D A (wM bd cI cZ ((upd j 0 0)) ac tx ((mReE ev on id)) on mn pm) := by rw [e_ev]; exact hD
      exact W.iret (v := 0) hx hb hrt (fun t ht hW => ⟨⟨0, (), rfl, (by simp only [mReR, mReE, if_neg c_1, if_pos c_2] <;> rfl), by rw [ht]; exact hP9, hD9⟩, hS.F ht⟩) hS.2.2 d_Model_remove_36
    · refine lv_bipush (v := 15) hx hb d_Model_remove_25 (by decide) ?_
      have e_ev : (mReE ev on id) = ev := (by simp only [mReR, mReE, if_neg c_1, if_neg c_2] <;> rfl)
      have hP9 : va_P (dC, dI) classes (wM bd cI cZ ((upd j 0 0)) ac tx ((mReE ev on id)) on mn pm) H := by rw [e_ev]; exact hP
      have hD9 : va_D A (wM bd cI cZ ((upd j 0 0)) ac tx ((mReE ev on id)) on mn pm) := by rw [e_ev]; exact hD
      exact W.iret (v := 15) hx hb hrt (fun t ht hW => ⟨⟨15, (), rfl, (by simp only [mReR, mReE, if_neg c_1, if_neg c_2] <;> rfl), by rw [ht]; exact hP9, hD9⟩, hS.F ht⟩) hS.2.2 d_Model_remove_27
  · refine lv_bipush (v := 14) hx hb d_Model_remove_13 (by decide) ?_
    have e_ev : (mReE ev on id) = ev := (by simp only [mReR, mReE, if_pos c_1] <;> rfl)
    have hP9 : va_P (dC, dI) classes (wM bd cI cZ ((upd j 0 0)) ac tx ((mReE ev on id)) on mn pm) H := by rw [e_ev]; exact hP
    have hD9 : va_D A (wM bd cI cZ ((upd j 0 0)) ac tx ((mReE ev on id)) on mn pm) := by rw [e_ev]; exact hD
    exact W.iret (v := 14) hx hb hrt (fun t ht hW => ⟨⟨14, (), rfl, (by simp only [mReR, mReE, if_pos c_1] <;> rfl), by rw [ht]; exact hP9, hD9⟩, hS.F ht⟩) hS.2.2 d_Model_remove_15
set_option maxHeartbeats 4000000 in
set_option maxRecDepth 100000 in
theorem c_Model_enable (l : Launch) (dC : Nat → ClassId) (dI : Nat → Nat → Nat) (bd : Nat → Nat) (sz : Nat) (cI cZ : ClassId) (j ac tx ev on mn pm : Nat → Int32) (id b0 : Int32) (hb0 : b0 = 0 ∨ b0 = 1) : Met l y_Model_enable w_Model_enable ({ frames := 1, cells := 0, slots := 0, locals := 21 }) (va_Pc [.ref (bd 0), .int id, .int b0] (gP (dC, dI) classes (tyM cI cZ) (wM bd cI cZ j ac tx ev on mn pm) sz)) (va_Qi (fun r (_ : Unit) => r = (mEbR ev id)) (fun _ t => gB (dC, dI) classes (va_A (wM bd cI cZ j ac tx ev on mn pm) sz) (wM bd cI cZ ((upd j 0 0)) ac tx ev ((mEbO ev on id b0)) mn pm) t) (va_A (wM bd cI cZ j ac tx ev on mn pm) sz)) 0 0 (va_A (wM bd cI cZ j ac tx ev on mn pm) sz) := by
  refine Met.ofW (cc := b_Model_enable) (maxL := 3) (ret := (some .int)) (by decide) rfl ?_
  intro p e s m args below meth c s₁ B hml hv
  obtain ⟨rfl, hsz, hP, hK, hD0, hN⟩ := hv
  have hx := B.exec
  have hb := B.bytes
  have hrt := B.returns
  have hq : ∀ w ∈ wAll, w.before ([.ref (bd 0), .int id, .int b0] : List Value).toArray s = true := fun w h => atoms_spec (ws := w_Model_enable) B.pre w (List.mem_cons_of_mem _ h)
  have hown : s.vm.findClass R_Model = some m.cls := findClass_of_methodNamed B.named
  have hlocks := B.notSynchronized
  subst hsz
  have hD := hD0.self (sz := s.heap.size)
  generalize hAe : va_A (wM bd cI cZ j ac tx ev on mn pm) s.heap.size = A at hD ⊢
  have hA : ∀ q : Nat, s.heap.size ≤ q → A q := fun q h => by rw [← hAe]; exact Or.inr h
  have hS : va_S A s.heap s.heap [] := va_S.rf
  have hl := lv_entry ([.ref (bd 0), .int id, .int b0]) (n := 3) (Nat.le_of_ble_eq_true rfl)
  rw [lg_entry_eq]
  generalize (lg_sl ([.ref (bd 0), .int id, .int b0]) ++ List.replicate (3 - (lg_sl ([.ref (bd 0), .int id, .int b0])).length) Slot.unset).toArray = ls at hl ⊢
  have hl : lv_has ls 3 [(0, .ref (bd 0)), (1, .int id), (2, .int b0)] := hl
  refine lv_aload_n hx hb d_Model_enable_0 rfl (lv_at hl 0 rfl) ?_
  refine lv_iconst (v := 0) hx hb d_Model_enable_1 (by decide) ?_
  refine va_put (D := (dC, dI)) (ci := 2) (v := .int 0) (ty := .int) (C := R_Model) (T := F_Model) (N := 12) hx hb hq iw_M t_Model t_Model_ok n_Model hown hK hP hD hS 0 rfl rfl 0 (by decide) (hq _ qm_4) (fun _ h9 => h9) rfl (by decide +kernel) rfl rfl (Nat.le_of_ble_eq_true rfl) d_Model_enable_2 (fun H locs hP hD hS => ?_)
  have hP : va_P (dC, dI) classes (wM bd cI cZ ((upd j 0 0)) ac tx ev on mn pm) H := hP
  have hD : va_D A (wM bd cI cZ ((upd j 0 0)) ac tx ev on mn pm) := hD
  refine lv_aload_n hx hb d_Model_enable_5 rfl (lv_at hl 0 rfl) ?_
  refine lv_iload_n hx hb d_Model_enable_6 rfl (lv_at hl 1 rfl) ?_
  refine vp_callSi (va_Run.run (va_runV (As := [.int id]) (rest := []) ⟨hx, hb, hml, hown, hq⟩ (c_Model_isThere l dC dI bd H.size cI cZ ((upd j 0 0)) ac tx ev on mn pm id) ⟨callB_of 1 hq (gd m_Model_isThere) rfl rfl rfl (hq _ qm_5) (hq _ qm_19) (by decide +kernel) ⟨Nat.le_of_ble_eq_true rfl, Nat.le_of_ble_eq_true rfl⟩, (hq _ qm_20), (hq _ qm_21)⟩ ⟨g_blind, va_recv hK hP (ci := 2) (q0 := 0) rfl rfl, g_pre hP hK hD hN⟩ rfl rfl hl.1 rfl (lv_room (Nat.le_of_ble_eq_true rfl)) d_Model_enable_7 ⟨Nat.zero_le _, Nat.zero_le _⟩)) (fun r hr => ?_)
  subst hr
  refine lv_if_ne (tgt := 16) hx hb d_Model_enable_10 (by decide) (fun c_1 => ?_) (fun c_1 => ?_)
  · refine lv_aload_n hx hb d_Model_enable_16 rfl (lv_at hl 0 rfl) ?_
    refine va_get (D := (dC, dI)) (ci := 2) (v := .ref (bd 4)) (C := R_Model) (T := F_Model) (N := 12) hx hb hq iw_M hown hK hP 0 rfl rfl 9 (by decide) (hq _ qm_16) (fun _ h9 => h9) rfl d_Model_enable_17 ?_
    refine lv_iload_n hx hb d_Model_enable_20 rfl (lv_at hl 1 rfl) ?_
    refine lv_iload_n hx hb d_Model_enable_21 rfl (lv_at hl 2 rfl) ?_
    refine va_zast (D := (dC, dI)) hx hb hK hP hD hS 4 1 rfl rfl (mTh_in c_1) d_Model_enable_22 (fun H locs hP hD hS => ?_)
    rw [m_nar hb0] at hP hD
    have hP : va_P (dC, dI) classes (wM bd cI cZ ((upd j 0 0)) ac tx ev ((upd on id.toNatClampNeg b0)) mn pm) H := hP
    have hD : va_D A (wM bd cI cZ ((upd j 0 0)) ac tx ev ((upd on id.toNatClampNeg b0)) mn pm) := hD
    refine lv_iconst (v := 0) hx hb d_Model_enable_23 (by decide) ?_
    have e_on : (mEbO ev on id b0) = (upd on id.toNatClampNeg b0) := (by simp only [mEbR, mEbO, if_neg c_1] <;> rfl)
    have hP9 : va_P (dC, dI) classes (wM bd cI cZ ((upd j 0 0)) ac tx ev ((mEbO ev on id b0)) mn pm) H := by rw [e_on]; exact hP
    have hD9 : va_D A (wM bd cI cZ ((upd j 0 0)) ac tx ev ((mEbO ev on id b0)) mn pm) := by rw [e_on]; exact hD
    exact W.iret (v := 0) hx hb hrt (fun t ht hW => ⟨⟨0, (), rfl, (by simp only [mEbR, mEbO, if_neg c_1] <;> rfl), by rw [ht]; exact hP9, hD9⟩, hS.F ht⟩) hS.2.2 d_Model_enable_24
  · refine lv_bipush (v := 14) hx hb d_Model_enable_13 (by decide) ?_
    have e_on : (mEbO ev on id b0) = on := (by simp only [mEbR, mEbO, if_pos c_1] <;> rfl)
    have hP9 : va_P (dC, dI) classes (wM bd cI cZ ((upd j 0 0)) ac tx ev ((mEbO ev on id b0)) mn pm) H := by rw [e_on]; exact hP
    have hD9 : va_D A (wM bd cI cZ ((upd j 0 0)) ac tx ev ((mEbO ev on id b0)) mn pm) := by rw [e_on]; exact hD
    exact W.iret (v := 14) hx hb hrt (fun t ht hW => ⟨⟨14, (), rfl, (by simp only [mEbR, mEbO, if_pos c_1] <;> rfl), by rw [ht]; exact hP9, hD9⟩, hS.F ht⟩) hS.2.2 d_Model_enable_15
