set_option maxHeartbeats 16000000 in
set_option maxRecDepth 100000 in
theorem law_loop {p : Program} {l : Launch} {e : Env} {s : State} {m : MethodId} {below : List Frame} {meth : Method} {c : Code} {dC : Nat → ClassId} {dI : Nat → Nat → Nat} {b L : Nat} {xs : Nat → Int32} (hL : L ≤ 1536) (C0 : lw_At p s m meth c b L xs) (hN : gN s) {tS : Nat} (hZ : gZ tS (fun q : Nat => s.heap.size ≤ q) s s.heap) {ad bd : Nat → Nat} {cI cF cZ : ClassId} (hKK : va_K (dC, dI) classes (tyK cI cF) s) (hKM : va_K (dC, dI) classes (tyM cI cZ) s) :
    ∀ (n i : Nat), i ≤ L → L + 1 ≤ i + n → ∀ (k act txt : Nat → Int32) (F pr : Nat → Nat → Int32) (j ac tx ev on mn pm : Nat → Int32), Rl k act txt F pr j ac tx ev on mn pm → ∀ (H : Heap) (locs : List Loc), va_P (dC, dI) classes (wK ad cI cF k act txt F pr) H → va_P (dC, dI) classes (wM bd cI cZ j ac tx ev on mn pm) H → va_D (fun q : Nat => s.heap.size ≤ q) ((wK ad cI cF k act txt F pr) ++ (wM bd cI cZ j ac tx ev on mn pm)) → va_S (fun q : Nat => s.heap.size ≤ q) s.heap H locs → ∀ (ls : Array Slot), lv_has ls 4 [(0, .ref b), (1, .ref (ad 0)), (2, .ref (bd 0)), (3, .int (nI i))] → W p l e room_1 s m #[Value.ref b] below meth c H locs 600000 7302250 (lw_Z below #[Value.ref b] s) (F0 m 18 ls []) := by
  obtain ⟨hx, hb, hrr, hml, hown, hts, hX, hbl, hlocks, hgv⟩ := C0
  have hq : ∀ w ∈ wAll, w.before #[Value.ref b] s = true := fun w h => hts w (List.mem_filter.mp h).1
  have hA : ∀ q : Nat, s.heap.size ≤ q → (fun q : Nat => s.heap.size ≤ q) q := fun _ h => h
  have hbA : ¬ (fun q : Nat => s.heap.size ≤ q) b := Nat.not_le.mpr hbl
  intro n
  induction n with
  | zero =>
    intro i h1 h2
    exact absurd h2 (by omega)
  | succ n ih =>
    intro i hi hin k act txt F pr j ac tx ev on mn pm hR H locs hPK hPM hD hS ls hl
    refine lv_iload_n hx hb d_law_18 rfl (lv_at hl 3 rfl) ?_
    refine lv_aload_n hx hb d_law_19 rfl (lv_at hl 0 rfl) ?_
    refine va_slen (A := (fun q : Nat => s.heap.size ≤ q)) hx hb hX hbl hbA hS d_law_20 ?_
    refine lv_iconst (v := 3) hx hb d_law_21 (by decide) ?_
    refine lv_isub hx hb d_law_22 ?_
    refine lv_icmp_gt (tgt := 454) hx hb d_law_23 (by decide) (fun c_1 => ?_) (fun c_1 => ?_)
    · refine lv_iconst (v := 1) hx hb d_law_454 (by decide) ?_
      refine va_forget (fun q hq => hS.2.2 q hq) ?_
      exact lw_ret hx hb hrr hlocks d_law_455
    · have hiL : i + 3 ≤ L := by
        rw [Int32.lt_iff_toInt_lt, show (Int32.ofNat L - 3).toInt = (L : Int) - 3 from pk_sub_toInt (a := L) (b := 3) (by omega) (by decide), nI_toInt (by omega)] at c_1
        omega
      have hi0 : vp_in (nI i) L := vp_in_nI (by omega) (by omega)
      have hi1 : vp_in (nI i + 1) L := by rw [nI_1]; exact vp_in_nI (by omega) (by omega)
      have hi2 : vp_in (nI i + 2) L := by rw [show nI i + 2 = nI i + nI 2 from rfl, nI_add]; exact vp_in_nI (by omega) (by omega)
      obtain ⟨v0, ev0⟩ : ∃ y : Int32, xs (nI i).toNatClampNeg = y := ⟨_, rfl⟩
      obtain ⟨v1, ev1⟩ : ∃ y : Int32, xs (nI i + 1).toNatClampNeg = y := ⟨_, rfl⟩
      obtain ⟨v2, ev2⟩ : ∃ y : Int32, xs (nI i + 2).toNatClampNeg = y := ⟨_, rfl⟩
      obtain ⟨t, ht8, hk6⟩ := hR.2.2.2.2.2.1
      have hj6 : j 6 = nI t := by rw [← hR.2.2.2.2.1]; exact hk6
      have hct := hR.2.2.2.2.2.2.2.2.2.2.2.1
      have hmn := hR.2.2.2.2.2.2.2.2.2.2.2.2.1
      refine lv_aload_n hx hb d_law_26 rfl (lv_at hl 0 rfl) ?_
      refine lv_iload_n hx hb d_law_27 rfl (lv_at hl 3 rfl) ?_
      refine va_sld (A := (fun q : Nat => s.heap.size ≤ q)) hx hb hX hbl hbA hS hi0 d_law_28 ?_
      rw [ev0]
      refine lv_bipush (v := 15) hx hb d_law_29 (by decide) ?_
      refine lv_iand hx hb d_law_31 ?_
      by_cases h_2 : (v0 &&& 15) = 0
      · refine lv_tableIn (tgt := 96) hx hb d_law_32 (by rw [h_2]; decide) (by rw [h_2]; decide) (by rw [h_2]; rfl) (by decide) ?_
        refine lv_aload_n hx hb d_law_96 rfl (lv_at hl 1 rfl) ?_
        refine lv_aload_n hx hb d_law_97 rfl (lv_at hl 0 rfl) ?_
        refine lv_iload_n hx hb d_law_98 rfl (lv_at hl 3 rfl) ?_
        refine lv_iconst (v := 1) hx hb d_law_99 (by decide) ?_
        refine lv_iadd hx hb d_law_100 ?_
        refine va_sld (A := (fun q : Nat => s.heap.size ≤ q)) hx hb hX hbl hbA hS hi1 d_law_101 ?_
        rw [ev1]
        refine lv_aload_n hx hb d_law_102 rfl (lv_at hl 0 rfl) ?_
        refine lv_iload_n hx hb d_law_103 rfl (lv_at hl 3 rfl) ?_
        refine lv_iconst (v := 2) hx hb d_law_104 (by decide) ?_
        refine lv_iadd hx hb d_law_105 ?_
        refine va_sld (A := (fun q : Nat => s.heap.size ≤ q)) hx hb hX hbl hbA hS hi2 d_law_106 ?_
        rw [ev2]
        refine g_calliL (va_runV (As := [.int v1, .int v2]) (rest := []) ⟨hx, hb, hml, hown, hq⟩ (c_ModeKeeper_move l dC dI ad H.size cI cF k act txt F pr v1 v2) ⟨callB_of 2 hq (gd m_ModeKeeper_move) rfl rfl rfl (hq _ qk_10) (hq _ ql_0) (by decide +kernel) ⟨Nat.le_of_ble_eq_true rfl, Nat.le_of_ble_eq_true rfl⟩, (hq _ ql_1), (hq _ ql_2)⟩ ⟨g_blind, va_recv hKK hPK (ci := 0) (q0 := 0) rfl rfl, g_pre hPK hKK (g_DL hD) hN⟩ rfl rfl hl.1 rfl (lv_room (Nat.le_of_ble_eq_true rfl)) d_law_107 ⟨Nat.le_of_ble_eq_true rfl, Nat.le_of_ble_eq_true rfl⟩) hPM hD hS hA (fun r H locs hr hPK hPM hD hS => ?_)
        subst hr
        refine lv_aload_n hx hb d_law_110 rfl (lv_at hl 2 rfl) ?_
        refine lv_aload_n hx hb d_law_111 rfl (lv_at hl 0 rfl) ?_
        refine lv_iload_n hx hb d_law_112 rfl (lv_at hl 3 rfl) ?_
        refine lv_iconst (v := 1) hx hb d_law_113 (by decide) ?_
        refine lv_iadd hx hb d_law_114 ?_
        refine va_sld (A := (fun q : Nat => s.heap.size ≤ q)) hx hb hX hbl hbA hS hi1 d_law_115 ?_
        rw [ev1]
        refine lv_aload_n hx hb d_law_116 rfl (lv_at hl 0 rfl) ?_
        refine lv_iload_n hx hb d_law_117 rfl (lv_at hl 3 rfl) ?_
        refine lv_iconst (v := 2) hx hb d_law_118 (by decide) ?_
        refine lv_iadd hx hb d_law_119 ?_
        refine va_sld (A := (fun q : Nat => s.heap.size ≤ q)) hx hb hX hbl hbA hS hi2 d_law_120 ?_
        rw [ev2]
        refine g_calliR (va_runV (As := [.int v1, .int v2]) (rest := [.int (kMvR k v1)]) ⟨hx, hb, hml, hown, hq⟩ (c_Model_move l dC dI bd H.size cI cZ j ac tx ev on mn pm v1 v2) ⟨callB_of 2 hq (gd m_Model_move) rfl rfl rfl (hq _ qm_5) (hq _ ql_3) (by decide +kernel) ⟨Nat.le_of_ble_eq_true rfl, Nat.le_of_ble_eq_true rfl⟩, (hq _ ql_4), (hq _ ql_5)⟩ ⟨g_blind, va_recv hKM hPM (ci := 2) (q0 := 0) rfl rfl, g_pre hPM hKM (g_DR hD) hN⟩ rfl rfl hl.1 rfl (lv_room (Nat.le_of_ble_eq_true rfl)) d_law_121 ⟨Nat.le_of_ble_eq_true rfl, Nat.le_of_ble_eq_true rfl⟩) hPK hD hS hA (fun r H locs hr hPK hPM hD hS => ?_)
        subst hr
        refine lv_icmp_eq (tgt := 448) hx hb d_law_124 (by decide) (fun c_3 => ?_) (fun c_3 => ?_)
        · refine lv_iinc (v := (nI (i + 3))) (lv' := [(3, .int (nI (i + 3))), (0, .ref b), (1, .ref (ad 0)), (2, .ref (bd 0))]) hx hb d_law_448 hl (k := 3) rfl ((show nI i + Int32.ofInt 3 = nI i + nI 3 from rfl).trans (nI_add i 3)) (by decide) rfl (fun ls hl => ?_)
          refine lv_goto (tgt := 18) hx hb d_law_451 (by decide) ?_
          exact ih (i + 3) (by omega) (by omega) k ((kMvA k act v1 v2)) txt F pr ((upd j 0 0)) ((mMvA j ac v1 v2)) tx ev on mn pm (l_move hR v1 v2).2 H locs hPK hPM hD hS ls (lv_sub hl [1, 2, 3, 0] rfl)
        · exact absurd (l_move hR v1 v2).1 c_3
      · by_cases h_4 : (v0 &&& 15) = 1
        · refine lv_tableIn (tgt := 129) hx hb d_law_32 (by rw [h_4]; decide) (by rw [h_4]; decide) (by rw [h_4]; rfl) (by decide) ?_
          refine lv_aload_n hx hb d_law_129 rfl (lv_at hl 1 rfl) ?_
          refine lv_aload_n hx hb d_law_130 rfl (lv_at hl 0 rfl) ?_
          refine lv_iload_n hx hb d_law_131 rfl (lv_at hl 3 rfl) ?_
          refine lv_iconst (v := 1) hx hb d_law_132 (by decide) ?_
          refine lv_iadd hx hb d_law_133 ?_
          refine va_sld (A := (fun q : Nat => s.heap.size ≤ q)) hx hb hX hbl hbA hS hi1 d_law_134 ?_
          rw [ev1]
          refine g_calliL (va_runV (As := [.int v1]) (rest := []) ⟨hx, hb, hml, hown, hq⟩ (c_ModeKeeper_enter l dC dI ad H.size cI cF k act txt F pr v1 tS) ⟨callB_of 1 hq (gd m_ModeKeeper_enter) rfl rfl rfl (hq _ qk_10) (hq _ ql_6) (by decide +kernel) ⟨Nat.le_of_ble_eq_true rfl, Nat.le_of_ble_eq_true rfl⟩, (hq _ ql_7), (hq _ ql_8)⟩ ⟨g_blindZ, va_recv hKK hPK (ci := 0) (q0 := 0) rfl rfl, g_preZ hPK hKK (g_DL hD) hN (hZ.pass (g_DL hD) hS hA)⟩ rfl rfl hl.1 rfl (lv_room (Nat.le_of_ble_eq_true rfl)) d_law_135 ⟨Nat.le_of_ble_eq_true rfl, Nat.le_of_ble_eq_true rfl⟩) hPM hD hS hA (fun r H locs hr hPK hPM hD hS => ?_)
          subst hr
          refine lv_aload_n hx hb d_law_138 rfl (lv_at hl 2 rfl) ?_
          refine lv_aload_n hx hb d_law_139 rfl (lv_at hl 0 rfl) ?_
          refine lv_iload_n hx hb d_law_140 rfl (lv_at hl 3 rfl) ?_
          refine lv_iconst (v := 1) hx hb d_law_141 (by decide) ?_
          refine lv_iadd hx hb d_law_142 ?_
          refine va_sld (A := (fun q : Nat => s.heap.size ≤ q)) hx hb hX hbl hbA hS hi1 d_law_143 ?_
          rw [ev1]
          refine g_calliR (va_runV (As := [.int v1]) (rest := [.int (kEnR k v1)]) ⟨hx, hb, hml, hown, hq⟩ (c_Model_enter l dC dI bd H.size cI cZ j ac tx ev on mn pm v1) ⟨callB_of 1 hq (gd m_Model_enter) rfl rfl rfl (hq _ qm_5) (hq _ ql_9) (by decide +kernel) ⟨Nat.le_of_ble_eq_true rfl, Nat.le_of_ble_eq_true rfl⟩, (hq _ ql_10), (hq _ ql_11)⟩ ⟨g_blind, va_recv hKM hPM (ci := 2) (q0 := 0) rfl rfl, g_pre hPM hKM (g_DR hD) hN⟩ rfl rfl hl.1 rfl (lv_room (Nat.le_of_ble_eq_true rfl)) d_law_144 ⟨Nat.le_of_ble_eq_true rfl, Nat.le_of_ble_eq_true rfl⟩) hPK hD hS hA (fun r H locs hr hPK hPM hD hS => ?_)
          subst hr
          refine lv_icmp_eq (tgt := 448) hx hb d_law_147 (by decide) (fun c_5 => ?_) (fun c_5 => ?_)
          · refine lv_iinc (v := (nI (i + 3))) (lv' := [(3, .int (nI (i + 3))), (0, .ref b), (1, .ref (ad 0)), (2, .ref (bd 0))]) hx hb d_law_448 hl (k := 3) rfl ((show nI i + Int32.ofInt 3 = nI i + nI 3 from rfl).trans (nI_add i 3)) (by decide) rfl (fun ls hl => ?_)
            refine lv_goto (tgt := 18) hx hb d_law_451 (by decide) ?_
            exact ih (i + 3) (by omega) (by omega) ((kEnK k v1)) ((kEnA k act v1)) txt F pr ((mEnJ j v1)) ((mEnA j ac v1)) tx ev on mn pm (l_enter hR v1).2 H locs hPK hPM hD hS ls (lv_sub hl [1, 2, 3, 0] rfl)
          · exact absurd (l_enter hR v1).1 c_5
        · by_cases h_6 : (v0 &&& 15) = 2
          · refine lv_tableIn (tgt := 152) hx hb d_law_32 (by rw [h_6]; decide) (by rw [h_6]; decide) (by rw [h_6]; rfl) (by decide) ?_
            refine lv_aload_n hx hb d_law_152 rfl (lv_at hl 1 rfl) ?_
            refine lv_aload_n hx hb d_law_153 rfl (lv_at hl 0 rfl) ?_
            refine lv_iload_n hx hb d_law_154 rfl (lv_at hl 3 rfl) ?_
            refine lv_iconst (v := 1) hx hb d_law_155 (by decide) ?_
            refine lv_iadd hx hb d_law_156 ?_
            refine va_sld (A := (fun q : Nat => s.heap.size ≤ q)) hx hb hX hbl hbA hS hi1 d_law_157 ?_
            rw [ev1]
            refine g_calliL (va_runV (As := [.int v1]) (rest := []) ⟨hx, hb, hml, hown, hq⟩ (c_ModeKeeper_alarm l dC dI ad H.size cI cF k act txt F pr v1) ⟨callB_of 1 hq (gd m_ModeKeeper_alarm) rfl rfl rfl (hq _ qk_10) (hq _ ql_12) (by decide +kernel) ⟨Nat.le_of_ble_eq_true rfl, Nat.le_of_ble_eq_true rfl⟩, (hq _ ql_13), (hq _ ql_14)⟩ ⟨g_blind, va_recv hKK hPK (ci := 0) (q0 := 0) rfl rfl, g_pre hPK hKK (g_DL hD) hN⟩ rfl rfl hl.1 rfl (lv_room (Nat.le_of_ble_eq_true rfl)) d_law_158 ⟨Nat.le_of_ble_eq_true rfl, Nat.le_of_ble_eq_true rfl⟩) hPM hD hS hA (fun r H locs hr hPK hPM hD hS => ?_)
            subst hr
            refine lv_aload_n hx hb d_law_161 rfl (lv_at hl 2 rfl) ?_
            refine lv_aload_n hx hb d_law_162 rfl (lv_at hl 0 rfl) ?_
            refine lv_iload_n hx hb d_law_163 rfl (lv_at hl 3 rfl) ?_
            refine lv_iconst (v := 1) hx hb d_law_164 (by decide) ?_
            refine lv_iadd hx hb d_law_165 ?_
            refine va_sld (A := (fun q : Nat => s.heap.size ≤ q)) hx hb hX hbl hbA hS hi1 d_law_166 ?_
            rw [ev1]
            refine g_calliR (va_runV (As := [.int v1]) (rest := [.int (kAlR k)]) ⟨hx, hb, hml, hown, hq⟩ (c_Model_alarm l dC dI bd H.size cI cZ j ac tx ev on mn pm v1) ⟨callB_of 1 hq (gd m_Model_alarm) rfl rfl rfl (hq _ qm_5) (hq _ ql_15) (by decide +kernel) ⟨Nat.le_of_ble_eq_true rfl, Nat.le_of_ble_eq_true rfl⟩, (hq _ ql_16), (hq _ ql_17)⟩ ⟨g_blind, va_recv hKM hPM (ci := 2) (q0 := 0) rfl rfl, g_pre hPM hKM (g_DR hD) hN⟩ rfl rfl hl.1 rfl (lv_room (Nat.le_of_ble_eq_true rfl)) d_law_167 ⟨Nat.le_of_ble_eq_true rfl, Nat.le_of_ble_eq_true rfl⟩) hPK hD hS hA (fun r H locs hr hPK hPM hD hS => ?_)
            subst hr
            refine lv_icmp_eq (tgt := 448) hx hb d_law_170 (by decide) (fun c_7 => ?_) (fun c_7 => ?_)
            · refine lv_iinc (v := (nI (i + 3))) (lv' := [(3, .int (nI (i + 3))), (0, .ref b), (1, .ref (ad 0)), (2, .ref (bd 0))]) hx hb d_law_448 hl (k := 3) rfl ((show nI i + Int32.ofInt 3 = nI i + nI 3 from rfl).trans (nI_add i 3)) (by decide) rfl (fun ls hl => ?_)
              refine lv_goto (tgt := 18) hx hb d_law_451 (by decide) ?_
              exact ih (i + 3) (by omega) (by omega) ((kAlK k v1)) act txt F pr ((mAlJ j v1)) ac tx ev on mn pm (l_alarm hR v1).2 H locs hPK hPM hD hS ls (lv_sub hl [1, 2, 3, 0] rfl)
            · exact absurd (l_alarm hR v1).1 c_7
          · by_cases h_8 : (v0 &&& 15) = 3
            · refine lv_tableIn (tgt := 175) hx hb d_law_32 (by rw [h_8]; decide) (by rw [h_8]; decide) (by rw [h_8]; rfl) (by decide) ?_
              refine lv_aload_n hx hb d_law_175 rfl (lv_at hl 1 rfl) ?_
              refine lv_aload_n hx hb d_law_176 rfl (lv_at hl 0 rfl) ?_
              refine lv_iload_n hx hb d_law_177 rfl (lv_at hl 3 rfl) ?_
              refine lv_iconst (v := 1) hx hb d_law_178 (by decide) ?_
              refine lv_iadd hx hb d_law_179 ?_
              refine va_sld (A := (fun q : Nat => s.heap.size ≤ q)) hx hb hX hbl hbA hS hi1 d_law_180 ?_
              rw [ev1]
              refine g_calliL (va_runV (As := [.int v1]) (rest := []) ⟨hx, hb, hml, hown, hq⟩ (c_ModeKeeper_look l dC dI ad H.size cI cF k act txt F pr v1 tS) ⟨callB_of 1 hq (gd m_ModeKeeper_look) rfl rfl rfl (hq _ qk_10) (hq _ ql_18) (by decide +kernel) ⟨Nat.le_of_ble_eq_true rfl, Nat.le_of_ble_eq_true rfl⟩, (hq _ ql_19), (hq _ ql_20)⟩ ⟨g_blindZ, va_recv hKK hPK (ci := 0) (q0 := 0) rfl rfl, g_preZ hPK hKK (g_DL hD) hN (hZ.pass (g_DL hD) hS hA)⟩ rfl rfl hl.1 rfl (lv_room (Nat.le_of_ble_eq_true rfl)) d_law_181 ⟨Nat.le_of_ble_eq_true rfl, Nat.le_of_ble_eq_true rfl⟩) hPM hD hS hA (fun r H locs hr hPK hPM hD hS => ?_)
              subst hr
              refine lv_aload_n hx hb d_law_184 rfl (lv_at hl 2 rfl) ?_
              refine lv_aload_n hx hb d_law_185 rfl (lv_at hl 0 rfl) ?_
              refine lv_iload_n hx hb d_law_186 rfl (lv_at hl 3 rfl) ?_
              refine lv_iconst (v := 1) hx hb d_law_187 (by decide) ?_
              refine lv_iadd hx hb d_law_188 ?_
              refine va_sld (A := (fun q : Nat => s.heap.size ≤ q)) hx hb hX hbl hbA hS hi1 d_law_189 ?_
              rw [ev1]
              refine g_calliR (va_runV (As := [.int v1]) (rest := [.int (kLkR k v1)]) ⟨hx, hb, hml, hown, hq⟩ (c_Model_look l dC dI bd H.size cI cZ j ac tx ev on mn pm v1) ⟨callB_of 1 hq (gd m_Model_look) rfl rfl rfl (hq _ qm_5) (hq _ ql_21) (by decide +kernel) ⟨Nat.le_of_ble_eq_true rfl, Nat.le_of_ble_eq_true rfl⟩, (hq _ ql_22), (hq _ ql_23)⟩ ⟨g_blind, va_recv hKM hPM (ci := 2) (q0 := 0) rfl rfl, g_pre hPM hKM (g_DR hD) hN⟩ rfl rfl hl.1 rfl (lv_room (Nat.le_of_ble_eq_true rfl)) d_law_190 ⟨Nat.le_of_ble_eq_true rfl, Nat.le_of_ble_eq_true rfl⟩) hPK hD hS hA (fun r H locs hr hPK hPM hD hS => ?_)
              subst hr
              refine lv_icmp_eq (tgt := 448) hx hb d_law_193 (by decide) (fun c_9 => ?_) (fun c_9 => ?_)
              · refine lv_iinc (v := (nI (i + 3))) (lv' := [(3, .int (nI (i + 3))), (0, .ref b), (1, .ref (ad 0)), (2, .ref (bd 0))]) hx hb d_law_448 hl (k := 3) rfl ((show nI i + Int32.ofInt 3 = nI i + nI 3 from rfl).trans (nI_add i 3)) (by decide) rfl (fun ls hl => ?_)
                refine lv_goto (tgt := 18) hx hb d_law_451 (by decide) ?_
                exact ih (i + 3) (by omega) (by omega) ((kLkK k v1)) ((kLkA k act v1)) txt F pr ((mLkJ j v1)) ((mLkA j ac v1)) tx ev on mn pm (l_look hR v1).2 H locs hPK hPM hD hS ls (lv_sub hl [1, 2, 3, 0] rfl)
              · exact absurd (l_look hR v1).1 c_9
            · by_cases h_10 : (v0 &&& 15) = 4
              · refine lv_tableIn (tgt := 198) hx hb d_law_32 (by rw [h_10]; decide) (by rw [h_10]; decide) (by rw [h_10]; rfl) (by decide) ?_
                refine lv_aload_n hx hb d_law_198 rfl (lv_at hl 1 rfl) ?_
                refine lv_aload_n hx hb d_law_199 rfl (lv_at hl 0 rfl) ?_
                refine lv_iload_n hx hb d_law_200 rfl (lv_at hl 3 rfl) ?_
                refine lv_iconst (v := 1) hx hb d_law_201 (by decide) ?_
                refine lv_iadd hx hb d_law_202 ?_
                refine va_sld (A := (fun q : Nat => s.heap.size ≤ q)) hx hb hX hbl hbA hS hi1 d_law_203 ?_
                rw [ev1]
                refine g_calliL (va_runV (As := [.int v1]) (rest := []) ⟨hx, hb, hml, hown, hq⟩ (c_ModeKeeper_put l dC dI ad H.size cI cF k act txt F pr v1 t ht8 hk6) ⟨callB_of 1 hq (gd m_ModeKeeper_put) rfl rfl rfl (hq _ qk_10) (hq _ ql_24) (by decide +kernel) ⟨Nat.le_of_ble_eq_true rfl, Nat.le_of_ble_eq_true rfl⟩, (hq _ ql_25), (hq _ ql_26)⟩ ⟨g_blind, va_recv hKK hPK (ci := 0) (q0 := 0) rfl rfl, g_pre hPK hKK (g_DL hD) hN⟩ rfl rfl hl.1 rfl (lv_room (Nat.le_of_ble_eq_true rfl)) d_law_204 ⟨Nat.le_of_ble_eq_true rfl, Nat.le_of_ble_eq_true rfl⟩) hPM hD hS hA (fun r H locs hr hPK hPM hD hS => ?_)
                subst hr
                refine lv_aload_n hx hb d_law_207 rfl (lv_at hl 2 rfl) ?_
                refine lv_aload_n hx hb d_law_208 rfl (lv_at hl 0 rfl) ?_
                refine lv_iload_n hx hb d_law_209 rfl (lv_at hl 3 rfl) ?_
                refine lv_iconst (v := 1) hx hb d_law_210 (by decide) ?_
                refine lv_iadd hx hb d_law_211 ?_
                refine va_sld (A := (fun q : Nat => s.heap.size ≤ q)) hx hb hX hbl hbA hS hi1 d_law_212 ?_
                rw [ev1]
                refine g_calliR (va_runV (As := [.int v1]) (rest := [.int (kPuR k v1)]) ⟨hx, hb, hml, hown, hq⟩ (c_Model_put l dC dI bd H.size cI cZ j ac tx ev on mn pm v1 t ht8 hj6) ⟨callB_of 1 hq (gd m_Model_put) rfl rfl rfl (hq _ qm_5) (hq _ ql_27) (by decide +kernel) ⟨Nat.le_of_ble_eq_true rfl, Nat.le_of_ble_eq_true rfl⟩, (hq _ ql_28), (hq _ ql_29)⟩ ⟨g_blind, va_recv hKM hPM (ci := 2) (q0 := 0) rfl rfl, g_pre hPM hKM (g_DR hD) hN⟩ rfl rfl hl.1 rfl (lv_room (Nat.le_of_ble_eq_true rfl)) d_law_213 ⟨Nat.le_of_ble_eq_true rfl, Nat.le_of_ble_eq_true rfl⟩) hPK hD hS hA (fun r H locs hr hPK hPM hD hS => ?_)
                subst hr
                refine lv_icmp_eq (tgt := 448) hx hb d_law_216 (by decide) (fun c_11 => ?_) (fun c_11 => ?_)
                · refine lv_iinc (v := (nI (i + 3))) (lv' := [(3, .int (nI (i + 3))), (0, .ref b), (1, .ref (ad 0)), (2, .ref (bd 0))]) hx hb d_law_448 hl (k := 3) rfl ((show nI i + Int32.ofInt 3 = nI i + nI 3 from rfl).trans (nI_add i 3)) (by decide) rfl (fun ls hl => ?_)
                  refine lv_goto (tgt := 18) hx hb d_law_451 (by decide) ?_
                  exact ih (i + 3) (by omega) (by omega) ((kPuK k v1)) act ((kPuT k txt v1)) F pr ((mPuJ j v1)) ac ((mPuT j tx v1)) ev on mn pm (l_put hR v1).2 H locs hPK hPM hD hS ls (lv_sub hl [1, 2, 3, 0] rfl)
                · exact absurd (l_put hR v1).1 c_11
              · by_cases h_12 : (v0 &&& 15) = 5
                · refine lv_tableIn (tgt := 221) hx hb d_law_32 (by rw [h_12]; decide) (by rw [h_12]; decide) (by rw [h_12]; rfl) (by decide) ?_
                  refine lv_aload_n hx hb d_law_221 rfl (lv_at hl 1 rfl) ?_
                  refine lv_aload_n hx hb d_law_222 rfl (lv_at hl 0 rfl) ?_
                  refine lv_iload_n hx hb d_law_223 rfl (lv_at hl 3 rfl) ?_
                  refine lv_iconst (v := 1) hx hb d_law_224 (by decide) ?_
                  refine lv_iadd hx hb d_law_225 ?_
                  refine va_sld (A := (fun q : Nat => s.heap.size ≤ q)) hx hb hX hbl hbA hS hi1 d_law_226 ?_
                  rw [ev1]
                  refine lv_aload_n hx hb d_law_227 rfl (lv_at hl 0 rfl) ?_
                  refine lv_iload_n hx hb d_law_228 rfl (lv_at hl 3 rfl) ?_
                  refine lv_iconst (v := 2) hx hb d_law_229 (by decide) ?_
                  refine lv_iadd hx hb d_law_230 ?_
                  refine va_sld (A := (fun q : Nat => s.heap.size ≤ q)) hx hb hX hbl hbA hS hi2 d_law_231 ?_
                  rw [ev2]
                  refine g_calliL (va_runV (As := [.int v1, .int v2]) (rest := []) ⟨hx, hb, hml, hown, hq⟩ (c_ModeKeeper_form l dC dI ad H.size cI cF k act txt F pr v1 v2 t ht8 hk6) ⟨callB_of 2 hq (gd m_ModeKeeper_form) rfl rfl rfl (hq _ qk_10) (hq _ ql_30) (by decide +kernel) ⟨Nat.le_of_ble_eq_true rfl, Nat.le_of_ble_eq_true rfl⟩, (hq _ ql_31), (hq _ ql_32)⟩ ⟨g_blind, va_recv hKK hPK (ci := 0) (q0 := 0) rfl rfl, g_pre hPK hKK (g_DL hD) hN⟩ rfl rfl hl.1 rfl (lv_room (Nat.le_of_ble_eq_true rfl)) d_law_232 ⟨Nat.le_of_ble_eq_true rfl, Nat.le_of_ble_eq_true rfl⟩) hPM hD hS hA (fun r H locs hr hPK hPM hD hS => ?_)
                  subst hr
                  refine lv_aload_n hx hb d_law_235 rfl (lv_at hl 2 rfl) ?_
                  refine lv_aload_n hx hb d_law_236 rfl (lv_at hl 0 rfl) ?_
                  refine lv_iload_n hx hb d_law_237 rfl (lv_at hl 3 rfl) ?_
                  refine lv_iconst (v := 1) hx hb d_law_238 (by decide) ?_
                  refine lv_iadd hx hb d_law_239 ?_
                  refine va_sld (A := (fun q : Nat => s.heap.size ≤ q)) hx hb hX hbl hbA hS hi1 d_law_240 ?_
                  rw [ev1]
                  refine lv_aload_n hx hb d_law_241 rfl (lv_at hl 0 rfl) ?_
                  refine lv_iload_n hx hb d_law_242 rfl (lv_at hl 3 rfl) ?_
                  refine lv_iconst (v := 2) hx hb d_law_243 (by decide) ?_
                  refine lv_iadd hx hb d_law_244 ?_
                  refine va_sld (A := (fun q : Nat => s.heap.size ≤ q)) hx hb hX hbl hbA hS hi2 d_law_245 ?_
                  rw [ev2]
                  refine g_calliR (va_runV (As := [.int v1, .int v2]) (rest := [.int (kFail k F v1 v2)]) ⟨hx, hb, hml, hown, hq⟩ (c_Model_form l dC dI bd H.size cI cZ j ac tx ev on mn pm v1 v2 t ht8 hj6) ⟨callB_of 2 hq (gd m_Model_form) rfl rfl rfl (hq _ qm_5) (hq _ ql_33) (by decide +kernel) ⟨Nat.le_of_ble_eq_true rfl, Nat.le_of_ble_eq_true rfl⟩, (hq _ ql_34), (hq _ ql_35)⟩ ⟨g_blind, va_recv hKM hPM (ci := 2) (q0 := 0) rfl rfl, g_pre hPM hKM (g_DR hD) hN⟩ rfl rfl hl.1 rfl (lv_room (Nat.le_of_ble_eq_true rfl)) d_law_246 ⟨Nat.le_of_ble_eq_true rfl, Nat.le_of_ble_eq_true rfl⟩) hPK hD hS hA (fun r H locs hr hPK hPM hD hS => ?_)
                  subst hr
                  refine lv_icmp_eq (tgt := 448) hx hb d_law_249 (by decide) (fun c_13 => ?_) (fun c_13 => ?_)
                  · refine lv_iinc (v := (nI (i + 3))) (lv' := [(3, .int (nI (i + 3))), (0, .ref b), (1, .ref (ad 0)), (2, .ref (bd 0))]) hx hb d_law_448 hl (k := 3) rfl ((show nI i + Int32.ofInt 3 = nI i + nI 3 from rfl).trans (nI_add i 3)) (by decide) rfl (fun ls hl => ?_)
                    refine lv_goto (tgt := 18) hx hb d_law_451 (by decide) ?_
                    exact ih (i + 3) (by omega) (by omega) ((kFoK k F v1 v2)) act txt ((kFoF k F v1 v2)) ((kFoP k txt F pr v1 v2)) ((upd (upd j 0 0) 6 0)) ac tx ((mFoE j ev v1 v2)) ((mFoO j ev on v1 v2)) ((mFoN j ev mn v1 v2)) ((mFoP j tx ev pm v1 v2)) (l_form hR v1 v2).2 H locs hPK hPM hD hS ls (lv_sub hl [1, 2, 3, 0] rfl)
                  · exact absurd (l_form hR v1 v2).1 c_13
                · by_cases h_14 : (v0 &&& 15) = 6
                  · refine lv_tableIn (tgt := 254) hx hb d_law_32 (by rw [h_14]; decide) (by rw [h_14]; decide) (by rw [h_14]; rfl) (by decide) ?_
                    refine lv_aload_n hx hb d_law_254 rfl (lv_at hl 1 rfl) ?_
                    refine lv_aload_n hx hb d_law_255 rfl (lv_at hl 0 rfl) ?_
                    refine lv_iload_n hx hb d_law_256 rfl (lv_at hl 3 rfl) ?_
                    refine lv_iconst (v := 1) hx hb d_law_257 (by decide) ?_
                    refine lv_iadd hx hb d_law_258 ?_
                    refine va_sld (A := (fun q : Nat => s.heap.size ≤ q)) hx hb hX hbl hbA hS hi1 d_law_259 ?_
                    rw [ev1]
                    refine g_calliL (va_runV (As := [.int v1]) (rest := []) ⟨hx, hb, hml, hown, hq⟩ (c_ModeKeeper_remove l dC dI ad H.size cI cF k act txt F pr v1) ⟨callB_of 1 hq (gd m_ModeKeeper_remove) rfl rfl rfl (hq _ qk_10) (hq _ ql_36) (by decide +kernel) ⟨Nat.le_of_ble_eq_true rfl, Nat.le_of_ble_eq_true rfl⟩, (hq _ ql_37), (hq _ ql_38)⟩ ⟨g_blind, va_recv hKK hPK (ci := 0) (q0 := 0) rfl rfl, g_pre hPK hKK (g_DL hD) hN⟩ rfl rfl hl.1 rfl (lv_room (Nat.le_of_ble_eq_true rfl)) d_law_260 ⟨Nat.le_of_ble_eq_true rfl, Nat.le_of_ble_eq_true rfl⟩) hPM hD hS hA (fun r H locs hr hPK hPM hD hS => ?_)
                    subst hr
                    refine lv_aload_n hx hb d_law_263 rfl (lv_at hl 2 rfl) ?_
                    refine lv_aload_n hx hb d_law_264 rfl (lv_at hl 0 rfl) ?_
                    refine lv_iload_n hx hb d_law_265 rfl (lv_at hl 3 rfl) ?_
                    refine lv_iconst (v := 1) hx hb d_law_266 (by decide) ?_
                    refine lv_iadd hx hb d_law_267 ?_
                    refine va_sld (A := (fun q : Nat => s.heap.size ≤ q)) hx hb hX hbl hbA hS hi1 d_law_268 ?_
                    rw [ev1]
                    refine g_calliR (va_runV (As := [.int v1]) (rest := [.int (kReR F v1)]) ⟨hx, hb, hml, hown, hq⟩ (c_Model_remove l dC dI bd H.size cI cZ j ac tx ev on mn pm v1) ⟨callB_of 1 hq (gd m_Model_remove) rfl rfl rfl (hq _ qm_5) (hq _ ql_39) (by decide +kernel) ⟨Nat.le_of_ble_eq_true rfl, Nat.le_of_ble_eq_true rfl⟩, (hq _ ql_40), (hq _ ql_41)⟩ ⟨g_blind, va_recv hKM hPM (ci := 2) (q0 := 0) rfl rfl, g_pre hPM hKM (g_DR hD) hN⟩ rfl rfl hl.1 rfl (lv_room (Nat.le_of_ble_eq_true rfl)) d_law_269 ⟨Nat.le_of_ble_eq_true rfl, Nat.le_of_ble_eq_true rfl⟩) hPK hD hS hA (fun r H locs hr hPK hPM hD hS => ?_)
                    subst hr
                    refine lv_icmp_eq (tgt := 448) hx hb d_law_272 (by decide) (fun c_15 => ?_) (fun c_15 => ?_)
                    · refine lv_iinc (v := (nI (i + 3))) (lv' := [(3, .int (nI (i + 3))), (0, .ref b), (1, .ref (ad 0)), (2, .ref (bd 0))]) hx hb d_law_448 hl (k := 3) rfl ((show nI i + Int32.ofInt 3 = nI i + nI 3 from rfl).trans (nI_add i 3)) (by decide) rfl (fun ls hl => ?_)
                      refine lv_goto (tgt := 18) hx hb d_law_451 (by decide) ?_
                      exact ih (i + 3) (by omega) (by omega) ((kReK k F v1)) act txt ((kReF F v1)) pr ((upd j 0 0)) ac tx ((mReE ev on v1)) on mn pm (l_remove hR v1).2 H locs hPK hPM hD hS ls (lv_sub hl [1, 2, 3, 0] rfl)
                    · exact absurd (l_remove hR v1).1 c_15
                  · by_cases h_16 : (v0 &&& 15) = 7
                    · refine lv_tableIn (tgt := 277) hx hb d_law_32 (by rw [h_16]; decide) (by rw [h_16]; decide) (by rw [h_16]; rfl) (by decide) ?_
                      refine lv_aload_n hx hb d_law_277 rfl (lv_at hl 1 rfl) ?_
                      refine lv_aload_n hx hb d_law_278 rfl (lv_at hl 0 rfl) ?_
                      refine lv_iload_n hx hb d_law_279 rfl (lv_at hl 3 rfl) ?_
                      refine lv_iconst (v := 1) hx hb d_law_280 (by decide) ?_
                      refine lv_iadd hx hb d_law_281 ?_
                      refine va_sld (A := (fun q : Nat => s.heap.size ≤ q)) hx hb hX hbl hbA hS hi1 d_law_282 ?_
                      rw [ev1]
                      refine lv_aload_n hx hb d_law_283 rfl (lv_at hl 0 rfl) ?_
                      refine lv_iload_n hx hb d_law_284 rfl (lv_at hl 3 rfl) ?_
                      refine lv_iconst (v := 2) hx hb d_law_285 (by decide) ?_
                      refine lv_iadd hx hb d_law_286 ?_
                      refine va_sld (A := (fun q : Nat => s.heap.size ≤ q)) hx hb hX hbl hbA hS hi2 d_law_287 ?_
                      rw [ev2]
                      refine lv_if_eq (tgt := 295) hx hb d_law_288 (by decide) (fun c_17 => ?_) (fun c_17 => ?_)
                      · refine lv_iconst (v := 0) hx hb d_law_295 (by decide) ?_
                        refine g_calliL (va_runV (As := [.int v1, .int 0]) (rest := []) ⟨hx, hb, hml, hown, hq⟩ (c_ModeKeeper_enable l dC dI ad H.size cI cF k act txt F pr v1 0 (Or.inl rfl)) ⟨callB_of 2 hq (gd m_ModeKeeper_enable) rfl rfl rfl (hq _ qk_10) (hq _ ql_42) (by decide +kernel) ⟨Nat.le_of_ble_eq_true rfl, Nat.le_of_ble_eq_true rfl⟩, (hq _ ql_43), (hq _ ql_44)⟩ ⟨g_blind, va_recv hKK hPK (ci := 0) (q0 := 0) rfl rfl, g_pre hPK hKK (g_DL hD) hN⟩ rfl rfl hl.1 rfl (lv_room (Nat.le_of_ble_eq_true rfl)) d_law_296 ⟨Nat.le_of_ble_eq_true rfl, Nat.le_of_ble_eq_true rfl⟩) hPM hD hS hA (fun r H locs hr hPK hPM hD hS => ?_)
                        subst hr
                        refine lv_aload_n hx hb d_law_299 rfl (lv_at hl 2 rfl) ?_
                        refine lv_aload_n hx hb d_law_300 rfl (lv_at hl 0 rfl) ?_
                        refine lv_iload_n hx hb d_law_301 rfl (lv_at hl 3 rfl) ?_
                        refine lv_iconst (v := 1) hx hb d_law_302 (by decide) ?_
                        refine lv_iadd hx hb d_law_303 ?_
                        refine va_sld (A := (fun q : Nat => s.heap.size ≤ q)) hx hb hX hbl hbA hS hi1 d_law_304 ?_
                        rw [ev1]
                        refine lv_aload_n hx hb d_law_305 rfl (lv_at hl 0 rfl) ?_
                        refine lv_iload_n hx hb d_law_306 rfl (lv_at hl 3 rfl) ?_
                        refine lv_iconst (v := 2) hx hb d_law_307 (by decide) ?_
                        refine lv_iadd hx hb d_law_308 ?_
                        refine va_sld (A := (fun q : Nat => s.heap.size ≤ q)) hx hb hX hbl hbA hS hi2 d_law_309 ?_
                        rw [ev2]
                        refine lv_if_eq (tgt := 317) hx hb d_law_310 (by decide) (fun c_18 => ?_) (fun c_18 => ?_)
                        · refine lv_iconst (v := 0) hx hb d_law_317 (by decide) ?_
                          refine g_calliR (va_runV (As := [.int v1, .int 0]) (rest := [.int (kEbR F v1)]) ⟨hx, hb, hml, hown, hq⟩ (c_Model_enable l dC dI bd H.size cI cZ j ac tx ev on mn pm v1 0 (Or.inl rfl)) ⟨callB_of 2 hq (gd m_Model_enable) rfl rfl rfl (hq _ qm_5) (hq _ ql_45) (by decide +kernel) ⟨Nat.le_of_ble_eq_true rfl, Nat.le_of_ble_eq_true rfl⟩, (hq _ ql_46), (hq _ ql_47)⟩ ⟨g_blind, va_recv hKM hPM (ci := 2) (q0 := 0) rfl rfl, g_pre hPM hKM (g_DR hD) hN⟩ rfl rfl hl.1 rfl (lv_room (Nat.le_of_ble_eq_true rfl)) d_law_318 ⟨Nat.le_of_ble_eq_true rfl, Nat.le_of_ble_eq_true rfl⟩) hPK hD hS hA (fun r H locs hr hPK hPM hD hS => ?_)
                          subst hr
                          refine lv_icmp_eq (tgt := 448) hx hb d_law_321 (by decide) (fun c_19 => ?_) (fun c_19 => ?_)
                          · refine lv_iinc (v := (nI (i + 3))) (lv' := [(3, .int (nI (i + 3))), (0, .ref b), (1, .ref (ad 0)), (2, .ref (bd 0))]) hx hb d_law_448 hl (k := 3) rfl ((show nI i + Int32.ofInt 3 = nI i + nI 3 from rfl).trans (nI_add i 3)) (by decide) rfl (fun ls hl => ?_)
                            refine lv_goto (tgt := 18) hx hb d_law_451 (by decide) ?_
                            exact ih (i + 3) (by omega) (by omega) k act txt ((kEbF F v1 0)) pr ((upd j 0 0)) ac tx ev ((mEbO ev on v1 0)) mn pm (l_enable hR v1 0).2 H locs hPK hPM hD hS ls (lv_sub hl [1, 2, 3, 0] rfl)
                          · exact absurd (l_enable hR v1 0).1 c_19
                        · exact absurd c_17 c_18
                      · refine lv_iconst (v := 1) hx hb d_law_291 (by decide) ?_
                        refine lv_goto (tgt := 296) hx hb d_law_292 (by decide) ?_
                        refine g_calliL (va_runV (As := [.int v1, .int 1]) (rest := []) ⟨hx, hb, hml, hown, hq⟩ (c_ModeKeeper_enable l dC dI ad H.size cI cF k act txt F pr v1 1 (Or.inr rfl)) ⟨callB_of 2 hq (gd m_ModeKeeper_enable) rfl rfl rfl (hq _ qk_10) (hq _ ql_42) (by decide +kernel) ⟨Nat.le_of_ble_eq_true rfl, Nat.le_of_ble_eq_true rfl⟩, (hq _ ql_43), (hq _ ql_44)⟩ ⟨g_blind, va_recv hKK hPK (ci := 0) (q0 := 0) rfl rfl, g_pre hPK hKK (g_DL hD) hN⟩ rfl rfl hl.1 rfl (lv_room (Nat.le_of_ble_eq_true rfl)) d_law_296 ⟨Nat.le_of_ble_eq_true rfl, Nat.le_of_ble_eq_true rfl⟩) hPM hD hS hA (fun r H locs hr hPK hPM hD hS => ?_)
                        subst hr
                        refine lv_aload_n hx hb d_law_299 rfl (lv_at hl 2 rfl) ?_
                        refine lv_aload_n hx hb d_law_300 rfl (lv_at hl 0 rfl) ?_
                        refine lv_iload_n hx hb d_law_301 rfl (lv_at hl 3 rfl) ?_
                        refine lv_iconst (v := 1) hx hb d_law_302 (by decide) ?_
                        refine lv_iadd hx hb d_law_303 ?_
                        refine va_sld (A := (fun q : Nat => s.heap.size ≤ q)) hx hb hX hbl hbA hS hi1 d_law_304 ?_
                        rw [ev1]
                        refine lv_aload_n hx hb d_law_305 rfl (lv_at hl 0 rfl) ?_
                        refine lv_iload_n hx hb d_law_306 rfl (lv_at hl 3 rfl) ?_
                        refine lv_iconst (v := 2) hx hb d_law_307 (by decide) ?_
                        refine lv_iadd hx hb d_law_308 ?_
                        refine va_sld (A := (fun q : Nat => s.heap.size ≤ q)) hx hb hX hbl hbA hS hi2 d_law_309 ?_
                        rw [ev2]
                        refine lv_if_eq (tgt := 317) hx hb d_law_310 (by decide) (fun c_20 => ?_) (fun c_20 => ?_)
                        · exact absurd c_20 c_17
                        · refine lv_iconst (v := 1) hx hb d_law_313 (by decide) ?_
                          refine lv_goto (tgt := 318) hx hb d_law_314 (by decide) ?_
                          refine g_calliR (va_runV (As := [.int v1, .int 1]) (rest := [.int (kEbR F v1)]) ⟨hx, hb, hml, hown, hq⟩ (c_Model_enable l dC dI bd H.size cI cZ j ac tx ev on mn pm v1 1 (Or.inr rfl)) ⟨callB_of 2 hq (gd m_Model_enable) rfl rfl rfl (hq _ qm_5) (hq _ ql_45) (by decide +kernel) ⟨Nat.le_of_ble_eq_true rfl, Nat.le_of_ble_eq_true rfl⟩, (hq _ ql_46), (hq _ ql_47)⟩ ⟨g_blind, va_recv hKM hPM (ci := 2) (q0 := 0) rfl rfl, g_pre hPM hKM (g_DR hD) hN⟩ rfl rfl hl.1 rfl (lv_room (Nat.le_of_ble_eq_true rfl)) d_law_318 ⟨Nat.le_of_ble_eq_true rfl, Nat.le_of_ble_eq_true rfl⟩) hPK hD hS hA (fun r H locs hr hPK hPM hD hS => ?_)
                          subst hr
                          refine lv_icmp_eq (tgt := 448) hx hb d_law_321 (by decide) (fun c_21 => ?_) (fun c_21 => ?_)
                          · refine lv_iinc (v := (nI (i + 3))) (lv' := [(3, .int (nI (i + 3))), (0, .ref b), (1, .ref (ad 0)), (2, .ref (bd 0))]) hx hb d_law_448 hl (k := 3) rfl ((show nI i + Int32.ofInt 3 = nI i + nI 3 from rfl).trans (nI_add i 3)) (by decide) rfl (fun ls hl => ?_)
                            refine lv_goto (tgt := 18) hx hb d_law_451 (by decide) ?_
                            exact ih (i + 3) (by omega) (by omega) k act txt ((kEbF F v1 1)) pr ((upd j 0 0)) ac tx ev ((mEbO ev on v1 1)) mn pm (l_enable hR v1 1).2 H locs hPK hPM hD hS ls (lv_sub hl [1, 2, 3, 0] rfl)
                          · exact absurd (l_enable hR v1 1).1 c_21
                    · by_cases h_22 : (v0 &&& 15) = 8
                      · refine lv_tableIn (tgt := 326) hx hb d_law_32 (by rw [h_22]; decide) (by rw [h_22]; decide) (by rw [h_22]; rfl) (by decide) ?_
                        refine lv_aload_n hx hb d_law_326 rfl (lv_at hl 1 rfl) ?_
                        refine lv_aload_n hx hb d_law_327 rfl (lv_at hl 0 rfl) ?_
                        refine lv_iload_n hx hb d_law_328 rfl (lv_at hl 3 rfl) ?_
                        refine lv_iconst (v := 1) hx hb d_law_329 (by decide) ?_
                        refine lv_iadd hx hb d_law_330 ?_
                        refine va_sld (A := (fun q : Nat => s.heap.size ≤ q)) hx hb hX hbl hbA hS hi1 d_law_331 ?_
                        rw [ev1]
                        refine lv_aload_n hx hb d_law_332 rfl (lv_at hl 0 rfl) ?_
                        refine lv_iload_n hx hb d_law_333 rfl (lv_at hl 3 rfl) ?_
                        refine lv_iconst (v := 2) hx hb d_law_334 (by decide) ?_
                        refine lv_iadd hx hb d_law_335 ?_
                        refine va_sld (A := (fun q : Nat => s.heap.size ≤ q)) hx hb hX hbl hbA hS hi2 d_law_336 ?_
                        rw [ev2]
                        refine vp_callSi (va_Run.run (va_runV (As := [.int v1, .int v2]) (rest := []) ⟨hx, hb, hml, hown, hq⟩ (c_ModeKeeper_due l dC dI ad H.size cI cF k act txt F pr v1 v2) ⟨callB_of 2 hq (gd m_ModeKeeper_due) rfl rfl rfl (hq _ qk_10) (hq _ ql_48) (by decide +kernel) ⟨Nat.le_of_ble_eq_true rfl, Nat.le_of_ble_eq_true rfl⟩, (hq _ ql_49), (hq _ ql_50)⟩ ⟨g_blind, va_recv hKK hPK (ci := 0) (q0 := 0) rfl rfl, g_pre hPK hKK (g_DL hD) hN⟩ rfl rfl hl.1 rfl (lv_room (Nat.le_of_ble_eq_true rfl)) d_law_337 ⟨Nat.le_of_ble_eq_true rfl, Nat.le_of_ble_eq_true rfl⟩)) (fun r hr => ?_)
                        subst hr
                        refine lv_aload_n hx hb d_law_340 rfl (lv_at hl 2 rfl) ?_
                        refine lv_aload_n hx hb d_law_341 rfl (lv_at hl 0 rfl) ?_
                        refine lv_iload_n hx hb d_law_342 rfl (lv_at hl 3 rfl) ?_
                        refine lv_iconst (v := 1) hx hb d_law_343 (by decide) ?_
                        refine lv_iadd hx hb d_law_344 ?_
                        refine va_sld (A := (fun q : Nat => s.heap.size ≤ q)) hx hb hX hbl hbA hS hi1 d_law_345 ?_
                        rw [ev1]
                        refine lv_aload_n hx hb d_law_346 rfl (lv_at hl 0 rfl) ?_
                        refine lv_iload_n hx hb d_law_347 rfl (lv_at hl 3 rfl) ?_
                        refine lv_iconst (v := 2) hx hb d_law_348 (by decide) ?_
                        refine lv_iadd hx hb d_law_349 ?_
                        refine va_sld (A := (fun q : Nat => s.heap.size ≤ q)) hx hb hX hbl hbA hS hi2 d_law_350 ?_
                        rw [ev2]
                        refine g_calliR (va_runV (As := [.int v1, .int v2]) (rest := [.int (kDue F v1 v2 8 0 (-1))]) ⟨hx, hb, hml, hown, hq⟩ (c_Model_due l dC dI bd H.size cI cZ j ac tx ev on mn pm v1 v2) ⟨callB_of 2 hq (gd m_Model_due) rfl rfl rfl (hq _ qm_5) (hq _ ql_51) (by decide +kernel) ⟨Nat.le_of_ble_eq_true rfl, Nat.le_of_ble_eq_true rfl⟩, (hq _ ql_52), (hq _ ql_53)⟩ ⟨g_blind, va_recv hKM hPM (ci := 2) (q0 := 0) rfl rfl, g_pre hPM hKM (g_DR hD) hN⟩ rfl rfl hl.1 rfl (lv_room (Nat.le_of_ble_eq_true rfl)) d_law_351 ⟨Nat.le_of_ble_eq_true rfl, Nat.le_of_ble_eq_true rfl⟩) hPK hD hS hA (fun r H locs hr hPK hPM hD hS => ?_)
                        subst hr
                        refine lv_icmp_eq (tgt := 448) hx hb d_law_354 (by decide) (fun c_23 => ?_) (fun c_23 => ?_)
                        · refine lv_iinc (v := (nI (i + 3))) (lv' := [(3, .int (nI (i + 3))), (0, .ref b), (1, .ref (ad 0)), (2, .ref (bd 0))]) hx hb d_law_448 hl (k := 3) rfl ((show nI i + Int32.ofInt 3 = nI i + nI 3 from rfl).trans (nI_add i 3)) (by decide) rfl (fun ls hl => ?_)
                          refine lv_goto (tgt := 18) hx hb d_law_451 (by decide) ?_
                          exact ih (i + 3) (by omega) (by omega) k act txt F pr ((upd j 0 0)) ac tx ev on mn pm (l_due hR v1 v2).2 H locs hPK hPM hD hS ls (lv_sub hl [1, 2, 3, 0] rfl)
                        · exact absurd (l_due hR v1 v2).1 c_23
                      · by_cases h_24 : (v0 &&& 15) = 9
                        · refine lv_tableIn (tgt := 359) hx hb d_law_32 (by rw [h_24]; decide) (by rw [h_24]; decide) (by rw [h_24]; rfl) (by decide) ?_
                          refine lv_aload_n hx hb d_law_359 rfl (lv_at hl 1 rfl) ?_
                          refine lv_aload_n hx hb d_law_360 rfl (lv_at hl 0 rfl) ?_
                          refine lv_iload_n hx hb d_law_361 rfl (lv_at hl 3 rfl) ?_
                          refine lv_iconst (v := 1) hx hb d_law_362 (by decide) ?_
                          refine lv_iadd hx hb d_law_363 ?_
                          refine va_sld (A := (fun q : Nat => s.heap.size ≤ q)) hx hb hX hbl hbA hS hi1 d_law_364 ?_
                          rw [ev1]
                          refine lv_aload_n hx hb d_law_365 rfl (lv_at hl 0 rfl) ?_
                          refine lv_iload_n hx hb d_law_366 rfl (lv_at hl 3 rfl) ?_
                          refine lv_iconst (v := 2) hx hb d_law_367 (by decide) ?_
                          refine lv_iadd hx hb d_law_368 ?_
                          refine va_sld (A := (fun q : Nat => s.heap.size ≤ q)) hx hb hX hbl hbA hS hi2 d_law_369 ?_
                          rw [ev2]
                          refine vp_callSi (va_Run.run (va_runV (As := [.int v1, .int v2]) (rest := []) ⟨hx, hb, hml, hown, hq⟩ (c_ModeKeeper_parameter l dC dI ad H.size cI cF k act txt F pr v1 v2 hct) ⟨callB_of 2 hq (gd m_ModeKeeper_parameter) rfl rfl rfl (hq _ qk_10) (hq _ ql_54) (by decide +kernel) ⟨Nat.le_of_ble_eq_true rfl, Nat.le_of_ble_eq_true rfl⟩, (hq _ ql_55), (hq _ ql_56)⟩ ⟨g_blind, va_recv hKK hPK (ci := 0) (q0 := 0) rfl rfl, g_pre hPK hKK (g_DL hD) hN⟩ rfl rfl hl.1 rfl (lv_room (Nat.le_of_ble_eq_true rfl)) d_law_370 ⟨Nat.le_of_ble_eq_true rfl, Nat.le_of_ble_eq_true rfl⟩)) (fun r hr => ?_)
                          subst hr
                          refine lv_aload_n hx hb d_law_373 rfl (lv_at hl 2 rfl) ?_
                          refine lv_aload_n hx hb d_law_374 rfl (lv_at hl 0 rfl) ?_
                          refine lv_iload_n hx hb d_law_375 rfl (lv_at hl 3 rfl) ?_
                          refine lv_iconst (v := 1) hx hb d_law_376 (by decide) ?_
                          refine lv_iadd hx hb d_law_377 ?_
                          refine va_sld (A := (fun q : Nat => s.heap.size ≤ q)) hx hb hX hbl hbA hS hi1 d_law_378 ?_
                          rw [ev1]
                          refine lv_aload_n hx hb d_law_379 rfl (lv_at hl 0 rfl) ?_
                          refine lv_iload_n hx hb d_law_380 rfl (lv_at hl 3 rfl) ?_
                          refine lv_iconst (v := 2) hx hb d_law_381 (by decide) ?_
                          refine lv_iadd hx hb d_law_382 ?_
                          refine va_sld (A := (fun q : Nat => s.heap.size ≤ q)) hx hb hX hbl hbA hS hi2 d_law_383 ?_
                          rw [ev2]
                          refine g_calliR (va_runV (As := [.int v1, .int v2]) (rest := [.int (kPaR F pr v1 v2)]) ⟨hx, hb, hml, hown, hq⟩ (c_Model_parameter l dC dI bd H.size cI cZ j ac tx ev on mn pm v1 v2 hmn) ⟨callB_of 2 hq (gd m_Model_parameter) rfl rfl rfl (hq _ qm_5) (hq _ ql_57) (by decide +kernel) ⟨Nat.le_of_ble_eq_true rfl, Nat.le_of_ble_eq_true rfl⟩, (hq _ ql_58), (hq _ ql_59)⟩ ⟨g_blind, va_recv hKM hPM (ci := 2) (q0 := 0) rfl rfl, g_pre hPM hKM (g_DR hD) hN⟩ rfl rfl hl.1 rfl (lv_room (Nat.le_of_ble_eq_true rfl)) d_law_384 ⟨Nat.le_of_ble_eq_true rfl, Nat.le_of_ble_eq_true rfl⟩) hPK hD hS hA (fun r H locs hr hPK hPM hD hS => ?_)
                          subst hr
                          refine lv_icmp_eq (tgt := 448) hx hb d_law_387 (by decide) (fun c_25 => ?_) (fun c_25 => ?_)
                          · refine lv_iinc (v := (nI (i + 3))) (lv' := [(3, .int (nI (i + 3))), (0, .ref b), (1, .ref (ad 0)), (2, .ref (bd 0))]) hx hb d_law_448 hl (k := 3) rfl ((show nI i + Int32.ofInt 3 = nI i + nI 3 from rfl).trans (nI_add i 3)) (by decide) rfl (fun ls hl => ?_)
                            refine lv_goto (tgt := 18) hx hb d_law_451 (by decide) ?_
                            exact ih (i + 3) (by omega) (by omega) k act txt F pr ((upd j 0 0)) ac tx ev on mn pm (l_parameter hR v1 v2).2 H locs hPK hPM hD hS ls (lv_sub hl [1, 2, 3, 0] rfl)
                          · exact absurd (l_parameter hR v1 v2).1 c_25
                        · by_cases h_26 : (v0 &&& 15) = 10
                          · refine lv_tableIn (tgt := 392) hx hb d_law_32 (by rw [h_26]; decide) (by rw [h_26]; decide) (by rw [h_26]; rfl) (by decide) ?_
                            refine lv_aload_n hx hb d_law_392 rfl (lv_at hl 1 rfl) ?_
                            refine lv_aload_n hx hb d_law_393 rfl (lv_at hl 0 rfl) ?_
                            refine lv_iload_n hx hb d_law_394 rfl (lv_at hl 3 rfl) ?_
                            refine lv_iconst (v := 1) hx hb d_law_395 (by decide) ?_
                            refine lv_iadd hx hb d_law_396 ?_
                            refine va_sld (A := (fun q : Nat => s.heap.size ≤ q)) hx hb hX hbl hbA hS hi1 d_law_397 ?_
                            rw [ev1]
                            refine vp_callSi (va_Run.run (va_runV (As := [.int v1]) (rest := []) ⟨hx, hb, hml, hown, hq⟩ (c_ModeKeeper_value l dC dI ad H.size cI cF k act txt F pr v1) ⟨callB_of 1 hq (gd m_ModeKeeper_value) rfl rfl rfl (hq _ qk_10) (hq _ ql_60) (by decide +kernel) ⟨Nat.le_of_ble_eq_true rfl, Nat.le_of_ble_eq_true rfl⟩, (hq _ ql_61), (hq _ ql_62)⟩ ⟨g_blind, va_recv hKK hPK (ci := 0) (q0 := 0) rfl rfl, g_pre hPK hKK (g_DL hD) hN⟩ rfl rfl hl.1 rfl (lv_room (Nat.le_of_ble_eq_true rfl)) d_law_398 ⟨Nat.le_of_ble_eq_true rfl, Nat.le_of_ble_eq_true rfl⟩)) (fun r hr => ?_)
                            subst hr
                            refine lv_aload_n hx hb d_law_401 rfl (lv_at hl 2 rfl) ?_
                            refine lv_aload_n hx hb d_law_402 rfl (lv_at hl 0 rfl) ?_
                            refine lv_iload_n hx hb d_law_403 rfl (lv_at hl 3 rfl) ?_
                            refine lv_iconst (v := 1) hx hb d_law_404 (by decide) ?_
                            refine lv_iadd hx hb d_law_405 ?_
                            refine va_sld (A := (fun q : Nat => s.heap.size ≤ q)) hx hb hX hbl hbA hS hi1 d_law_406 ?_
                            rw [ev1]
                            refine g_calliR (va_runV (As := [.int v1]) (rest := [.int (kVaR k act v1)]) ⟨hx, hb, hml, hown, hq⟩ (c_Model_value l dC dI bd H.size cI cZ j ac tx ev on mn pm v1) ⟨callB_of 1 hq (gd m_Model_value) rfl rfl rfl (hq _ qm_5) (hq _ ql_63) (by decide +kernel) ⟨Nat.le_of_ble_eq_true rfl, Nat.le_of_ble_eq_true rfl⟩, (hq _ ql_64), (hq _ ql_65)⟩ ⟨g_blind, va_recv hKM hPM (ci := 2) (q0 := 0) rfl rfl, g_pre hPM hKM (g_DR hD) hN⟩ rfl rfl hl.1 rfl (lv_room (Nat.le_of_ble_eq_true rfl)) d_law_407 ⟨Nat.le_of_ble_eq_true rfl, Nat.le_of_ble_eq_true rfl⟩) hPK hD hS hA (fun r H locs hr hPK hPM hD hS => ?_)
                            subst hr
                            refine lv_icmp_eq (tgt := 448) hx hb d_law_410 (by decide) (fun c_27 => ?_) (fun c_27 => ?_)
                            · refine lv_iinc (v := (nI (i + 3))) (lv' := [(3, .int (nI (i + 3))), (0, .ref b), (1, .ref (ad 0)), (2, .ref (bd 0))]) hx hb d_law_448 hl (k := 3) rfl ((show nI i + Int32.ofInt 3 = nI i + nI 3 from rfl).trans (nI_add i 3)) (by decide) rfl (fun ls hl => ?_)
                              refine lv_goto (tgt := 18) hx hb d_law_451 (by decide) ?_
                              exact ih (i + 3) (by omega) (by omega) k act txt F pr ((upd j 0 0)) ac tx ev on mn pm (l_value hR v1).2 H locs hPK hPM hD hS ls (lv_sub hl [1, 2, 3, 0] rfl)
                            · exact absurd (l_value hR v1).1 c_27
                          · by_cases h_28 : (v0 &&& 15) = 11
                            · refine lv_tableIn (tgt := 415) hx hb d_law_32 (by rw [h_28]; decide) (by rw [h_28]; decide) (by rw [h_28]; rfl) (by decide) ?_
                              refine lv_aload_n hx hb d_law_415 rfl (lv_at hl 1 rfl) ?_
                              refine lv_aload_n hx hb d_law_416 rfl (lv_at hl 0 rfl) ?_
                              refine lv_iload_n hx hb d_law_417 rfl (lv_at hl 3 rfl) ?_
                              refine lv_iconst (v := 1) hx hb d_law_418 (by decide) ?_
                              refine lv_iadd hx hb d_law_419 ?_
                              refine va_sld (A := (fun q : Nat => s.heap.size ≤ q)) hx hb hX hbl hbA hS hi1 d_law_420 ?_
                              rw [ev1]
                              refine lv_aload_n hx hb d_law_421 rfl (lv_at hl 0 rfl) ?_
                              refine lv_iload_n hx hb d_law_422 rfl (lv_at hl 3 rfl) ?_
                              refine lv_iconst (v := 2) hx hb d_law_423 (by decide) ?_
                              refine lv_iadd hx hb d_law_424 ?_
                              refine va_sld (A := (fun q : Nat => s.heap.size ≤ q)) hx hb hX hbl hbA hS hi2 d_law_425 ?_
                              rw [ev2]
                              refine vp_callSi (va_Run.run (va_runV (As := [.int v1, .int v2]) (rest := []) ⟨hx, hb, hml, hown, hq⟩ (c_ModeKeeper_about l dC dI ad H.size cI cF k act txt F pr v1 v2) ⟨callB_of 2 hq (gd m_ModeKeeper_about) rfl rfl rfl (hq _ qk_10) (hq _ ql_66) (by decide +kernel) ⟨Nat.le_of_ble_eq_true rfl, Nat.le_of_ble_eq_true rfl⟩, (hq _ ql_67), (hq _ ql_68)⟩ ⟨g_blind, va_recv hKK hPK (ci := 0) (q0 := 0) rfl rfl, g_pre hPK hKK (g_DL hD) hN⟩ rfl rfl hl.1 rfl (lv_room (Nat.le_of_ble_eq_true rfl)) d_law_426 ⟨Nat.le_of_ble_eq_true rfl, Nat.le_of_ble_eq_true rfl⟩)) (fun r hr => ?_)
                              subst hr
                              refine lv_aload_n hx hb d_law_429 rfl (lv_at hl 2 rfl) ?_
                              refine lv_aload_n hx hb d_law_430 rfl (lv_at hl 0 rfl) ?_
                              refine lv_iload_n hx hb d_law_431 rfl (lv_at hl 3 rfl) ?_
                              refine lv_iconst (v := 1) hx hb d_law_432 (by decide) ?_
                              refine lv_iadd hx hb d_law_433 ?_
                              refine va_sld (A := (fun q : Nat => s.heap.size ≤ q)) hx hb hX hbl hbA hS hi1 d_law_434 ?_
                              rw [ev1]
                              refine lv_aload_n hx hb d_law_435 rfl (lv_at hl 0 rfl) ?_
                              refine lv_iload_n hx hb d_law_436 rfl (lv_at hl 3 rfl) ?_
                              refine lv_iconst (v := 2) hx hb d_law_437 (by decide) ?_
                              refine lv_iadd hx hb d_law_438 ?_
                              refine va_sld (A := (fun q : Nat => s.heap.size ≤ q)) hx hb hX hbl hbA hS hi2 d_law_439 ?_
                              rw [ev2]
                              refine g_calliR (va_runV (As := [.int v1, .int v2]) (rest := [.int (kAbR F v1 v2)]) ⟨hx, hb, hml, hown, hq⟩ (c_Model_about l dC dI bd H.size cI cZ j ac tx ev on mn pm v1 v2) ⟨callB_of 2 hq (gd m_Model_about) rfl rfl rfl (hq _ qm_5) (hq _ ql_69) (by decide +kernel) ⟨Nat.le_of_ble_eq_true rfl, Nat.le_of_ble_eq_true rfl⟩, (hq _ ql_70), (hq _ ql_71)⟩ ⟨g_blind, va_recv hKM hPM (ci := 2) (q0 := 0) rfl rfl, g_pre hPM hKM (g_DR hD) hN⟩ rfl rfl hl.1 rfl (lv_room (Nat.le_of_ble_eq_true rfl)) d_law_440 ⟨Nat.le_of_ble_eq_true rfl, Nat.le_of_ble_eq_true rfl⟩) hPK hD hS hA (fun r H locs hr hPK hPM hD hS => ?_)
                              subst hr
                              refine lv_icmp_eq (tgt := 448) hx hb d_law_443 (by decide) (fun c_29 => ?_) (fun c_29 => ?_)
                              · refine lv_iinc (v := (nI (i + 3))) (lv' := [(3, .int (nI (i + 3))), (0, .ref b), (1, .ref (ad 0)), (2, .ref (bd 0))]) hx hb d_law_448 hl (k := 3) rfl ((show nI i + Int32.ofInt 3 = nI i + nI 3 from rfl).trans (nI_add i 3)) (by decide) rfl (fun ls hl => ?_)
                                refine lv_goto (tgt := 18) hx hb d_law_451 (by decide) ?_
                                exact ih (i + 3) (by omega) (by omega) k act txt F pr ((upd j 0 0)) ac tx ev on mn pm (l_about hR v1 v2).2 H locs hPK hPM hD hS ls (lv_sub hl [1, 2, 3, 0] rfl)
                              · exact absurd (l_about hR v1 v2).1 c_29
                            · refine lv_tableOut (tgt := 448) hx hb d_law_32 (by have zh_2 := lv_neT h_2 (a := 0) (by decide); have zh_4 := lv_neT h_4 (a := 1) (by decide); have zh_6 := lv_neT h_6 (a := 2) (by decide); have zh_8 := lv_neT h_8 (a := 3) (by decide); have zh_10 := lv_neT h_10 (a := 4) (by decide); have zh_12 := lv_neT h_12 (a := 5) (by decide); have zh_14 := lv_neT h_14 (a := 6) (by decide); have zh_16 := lv_neT h_16 (a := 7) (by decide); have zh_22 := lv_neT h_22 (a := 8) (by decide); have zh_24 := lv_neT h_24 (a := 9) (by decide); have zh_26 := lv_neT h_26 (a := 10) (by decide); have zh_28 := lv_neT h_28 (a := 11) (by decide); omega) (by decide) ?_
                              refine lv_iinc (v := (nI (i + 3))) (lv' := [(3, .int (nI (i + 3))), (0, .ref b), (1, .ref (ad 0)), (2, .ref (bd 0))]) hx hb d_law_448 hl (k := 3) rfl ((show nI i + Int32.ofInt 3 = nI i + nI 3 from rfl).trans (nI_add i 3)) (by decide) rfl (fun ls hl => ?_)
                              refine lv_goto (tgt := 18) hx hb d_law_451 (by decide) ?_
                              exact ih (i + 3) (by omega) (by omega) k act txt F pr j ac tx ev on mn pm hR H locs hPK hPM hD hS ls (lv_sub hl [1, 2, 3, 0] rfl)
