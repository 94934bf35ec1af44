set_option maxHeartbeats 4000000 in
set_option maxRecDepth 100000 in
theorem c_Y1_column (l : Launch) (dC : Nat → ClassId) (dI : Nat → Nat → Nat) (cI cJ : ClassId) (h0 b1 b2 : Nat) (fl : Int32) (rc rl ps : Nat) (g t : Nat → Int32) (k x : Nat) (hk : k ≤ 6) (hx9 : x ≤ 100000) : Met l yY1_column wsY1_column ({ frames := 0, cells := 0, slots := 0, locals := 0 }) (va_Pc [.ref h0, .int (nI k), .int (nI x)] (rv_pre dC dI cI cJ h0 b1 b2 fl rc rl ps g t)) (vp_Si (fun r => (x % rf_sx k = rf_fx k → r = 1) ∧ (¬ x % rf_sx k = rf_fx k → r = 0))) 0 0 (fun _ => False) := by
  refine Met.ofW (cc := cY1_column) (maxL := 3) (ret := (some .boolean)) (by decide) rfl ?_
  intro p e s m args below meth c s₁ B hml hv
  obtain ⟨rfl, hP, hK⟩ := hv
  have hx := B.exec
  have hb := B.bytes
  have hr := B.returns
  have hts := atoms_spec (ws := wsY1_column) B.pre
  have hown : s.vm.findClass RX1 = some m.cls := findClass_of_methodNamed B.named
  have hlocks := B.notSynchronized
  have hP : va_P (dC, dI) rw_cl (rv_W h0 b1 b2 cI cJ fl rc rl ps g t) s.heap := hP
  have hl := lv_entry ([.ref h0, .int (nI k), .int (nI x)]) (n := 3) (Nat.le_of_ble_eq_true rfl)
  rw [lg_entry_eq]
  generalize (lg_sl ([.ref h0, .int (nI k), .int (nI x)]) ++ List.replicate (3 - (lg_sl ([.ref h0, .int (nI k), .int (nI x)])).length) Slot.unset).toArray = ls at hl ⊢
  have hl : lv_has ls 3 [(0, .ref h0), (1, .int (nI k)), (2, .int (nI x))] := hl
  obtain rfl | rfl | rfl | rfl | rfl | rfl | rfl := rf_7 hk
  · refine lv_iload_n hx hb dY1_column_0 rfl (lv_at hl 1 rfl) ?_
    refine lv_tableIn (tgt := 44) hx hb dY1_column_1 (by decide +kernel) (by decide +kernel) rfl (by decide) ?_
    refine lv_iload_n hx hb dY1_column_44 rfl (lv_at hl 1 rfl) ?_
    refine lv_if_ne (tgt := 63) hx hb dY1_column_45 (by decide) (fun q0 => ?_) (fun q0 => ?_)
    · exact absurd q0 (by decide +kernel)
    · refine lv_iload_n hx hb dY1_column_48 rfl (lv_at hl 2 rfl) ?_
      refine lv_bipush (v := 8) hx hb dY1_column_49 (by decide) ?_
      refine lv_irem hx hb dY1_column_51 (by decide) ?_
      refine W.eq (g2 := F0 m 52 ls [.int (nI (x % 8))]) (congrArg (fun z9 => F0 m 52 ls [.int z9]) (show ((nI x) - (nI x) / 8 * 8) = nI (x % 8) from rf_rem (b := 8) (by omega) (by omega))) ?_
      refine lv_if_ne (tgt := 59) hx hb dY1_column_52 (by decide) (fun q1 => ?_) (fun q1 => ?_)
      · refine lv_iconst (v := 0) hx hb dY1_column_59 (by decide) ?_
        refine lv_goto (tgt := 102) hx hb dY1_column_60 (by decide) ?_
        exact W.zret (v := 0) hx hb hr rfl (fun t ht hW => ⟨0, rfl, ⟨fun q => absurd (show nI (x % 8) = nI 0 from congrArg nI q) q1, fun _ => rfl⟩, ht⟩) (fun q h => by cases h) dY1_column_102
      · refine lv_iconst (v := 1) hx hb dY1_column_55 (by decide) ?_
        refine lv_goto (tgt := 102) hx hb dY1_column_56 (by decide) ?_
        exact W.zret (v := 1) hx hb hr rfl (fun t ht hW => ⟨1, rfl, ⟨fun _ => rfl, fun q => absurd ((nI_eq (b := 0) (by omega) (by omega)).mp q1) q⟩, ht⟩) (fun q h => by cases h) dY1_column_102
  · refine lv_iload_n hx hb dY1_column_0 rfl (lv_at hl 1 rfl) ?_
    refine lv_tableIn (tgt := 103) hx hb dY1_column_1 (by decide +kernel) (by decide +kernel) rfl (by decide) ?_
    refine lv_iload_n hx hb dY1_column_103 rfl (lv_at hl 2 rfl) ?_
    refine lv_bipush (v := 8) hx hb dY1_column_104 (by decide) ?_
    refine lv_irem hx hb dY1_column_106 (by decide) ?_
    refine W.eq (g2 := F0 m 107 ls [.int (nI (x % 8))]) (congrArg (fun z9 => F0 m 107 ls [.int z9]) (show ((nI x) - (nI x) / 8 * 8) = nI (x % 8) from rf_rem (b := 8) (by omega) (by omega))) ?_
    refine lv_iconst (v := 4) hx hb dY1_column_107 (by decide) ?_
    refine lv_icmp_ne (tgt := 115) hx hb dY1_column_108 (by decide) (fun q0 => ?_) (fun q0 => ?_)
    · refine lv_iconst (v := 0) hx hb dY1_column_115 (by decide) ?_
      exact W.zret (v := 0) hx hb hr rfl (fun t ht hW => ⟨0, rfl, ⟨fun q => absurd (show nI (x % 8) = nI 4 from congrArg nI q) q0, fun _ => rfl⟩, ht⟩) (fun q h => by cases h) dY1_column_116
    · refine lv_iconst (v := 1) hx hb dY1_column_111 (by decide) ?_
      refine lv_goto (tgt := 116) hx hb dY1_column_112 (by decide) ?_
      exact W.zret (v := 1) hx hb hr rfl (fun t ht hW => ⟨1, rfl, ⟨fun _ => rfl, fun q => absurd ((nI_eq (b := 4) (by omega) (by omega)).mp q0) q⟩, ht⟩) (fun q h => by cases h) dY1_column_116
  · refine lv_iload_n hx hb dY1_column_0 rfl (lv_at hl 1 rfl) ?_
    refine lv_tableIn (tgt := 44) hx hb dY1_column_1 (by decide +kernel) (by decide +kernel) rfl (by decide) ?_
    refine lv_iload_n hx hb dY1_column_44 rfl (lv_at hl 1 rfl) ?_
    refine lv_if_ne (tgt := 63) hx hb dY1_column_45 (by decide) (fun q0 => ?_) (fun q0 => ?_)
    · refine lv_iload_n hx hb dY1_column_63 rfl (lv_at hl 1 rfl) ?_
      refine lv_iconst (v := 2) hx hb dY1_column_64 (by decide) ?_
      refine lv_icmp_ne (tgt := 82) hx hb dY1_column_65 (by decide) (fun q1 => ?_) (fun q1 => ?_)
      · exact absurd q1 (by decide +kernel)
      · refine lv_iload_n hx hb dY1_column_68 rfl (lv_at hl 2 rfl) ?_
        refine lv_iconst (v := 4) hx hb dY1_column_69 (by decide) ?_
        refine lv_irem hx hb dY1_column_70 (by decide) ?_
        refine W.eq (g2 := F0 m 71 ls [.int (nI (x % 4))]) (congrArg (fun z9 => F0 m 71 ls [.int z9]) (show ((nI x) - (nI x) / 4 * 4) = nI (x % 4) from rf_rem (b := 4) (by omega) (by omega))) ?_
        refine lv_if_ne (tgt := 78) hx hb dY1_column_71 (by decide) (fun q2 => ?_) (fun q2 => ?_)
        · refine lv_iconst (v := 0) hx hb dY1_column_78 (by decide) ?_
          refine lv_goto (tgt := 102) hx hb dY1_column_79 (by decide) ?_
          exact W.zret (v := 0) hx hb hr rfl (fun t ht hW => ⟨0, rfl, ⟨fun q => absurd (show nI (x % 4) = nI 0 from congrArg nI q) q2, fun _ => rfl⟩, ht⟩) (fun q h => by cases h) dY1_column_102
        · refine lv_iconst (v := 1) hx hb dY1_column_74 (by decide) ?_
          refine lv_goto (tgt := 102) hx hb dY1_column_75 (by decide) ?_
          exact W.zret (v := 1) hx hb hr rfl (fun t ht hW => ⟨1, rfl, ⟨fun _ => rfl, fun q => absurd ((nI_eq (b := 0) (by omega) (by omega)).mp q2) q⟩, ht⟩) (fun q h => by cases h) dY1_column_102
    · exact absurd q0 (by decide +kernel)
  · refine lv_iload_n hx hb dY1_column_0 rfl (lv_at hl 1 rfl) ?_
    refine lv_tableIn (tgt := 117) hx hb dY1_column_1 (by decide +kernel) (by decide +kernel) rfl (by decide) ?_
    refine lv_iload_n hx hb dY1_column_117 rfl (lv_at hl 2 rfl) ?_
    refine lv_iconst (v := 4) hx hb dY1_column_118 (by decide) ?_
    refine lv_irem hx hb dY1_column_119 (by decide) ?_
    refine W.eq (g2 := F0 m 120 ls [.int (nI (x % 4))]) (congrArg (fun z9 => F0 m 120 ls [.int z9]) (show ((nI x) - (nI x) / 4 * 4) = nI (x % 4) from rf_rem (b := 4) (by omega) (by omega))) ?_
    refine lv_iconst (v := 2) hx hb dY1_column_120 (by decide) ?_
    refine lv_icmp_ne (tgt := 128) hx hb dY1_column_121 (by decide) (fun q0 => ?_) (fun q0 => ?_)
    · refine lv_iconst (v := 0) hx hb dY1_column_128 (by decide) ?_
      exact W.zret (v := 0) hx hb hr rfl (fun t ht hW => ⟨0, rfl, ⟨fun q => absurd (show nI (x % 4) = nI 2 from congrArg nI q) q0, fun _ => rfl⟩, ht⟩) (fun q h => by cases h) dY1_column_129
    · refine lv_iconst (v := 1) hx hb dY1_column_124 (by decide) ?_
      refine lv_goto (tgt := 129) hx hb dY1_column_125 (by decide) ?_
      exact W.zret (v := 1) hx hb hr rfl (fun t ht hW => ⟨1, rfl, ⟨fun _ => rfl, fun q => absurd ((nI_eq (b := 2) (by omega) (by omega)).mp q0) q⟩, ht⟩) (fun q h => by cases h) dY1_column_129
  · refine lv_iload_n hx hb dY1_column_0 rfl (lv_at hl 1 rfl) ?_
    refine lv_tableIn (tgt := 44) hx hb dY1_column_1 (by decide +kernel) (by decide +kernel) rfl (by decide) ?_
    refine lv_iload_n hx hb dY1_column_44 rfl (lv_at hl 1 rfl) ?_
    refine lv_if_ne (tgt := 63) hx hb dY1_column_45 (by decide) (fun q0 => ?_) (fun q0 => ?_)
    · refine lv_iload_n hx hb dY1_column_63 rfl (lv_at hl 1 rfl) ?_
      refine lv_iconst (v := 2) hx hb dY1_column_64 (by decide) ?_
      refine lv_icmp_ne (tgt := 82) hx hb dY1_column_65 (by decide) (fun q1 => ?_) (fun q1 => ?_)
      · refine lv_iload_n hx hb dY1_column_82 rfl (lv_at hl 1 rfl) ?_
        refine lv_iconst (v := 4) hx hb dY1_column_83 (by decide) ?_
        refine lv_icmp_ne (tgt := 101) hx hb dY1_column_84 (by decide) (fun q2 => ?_) (fun q2 => ?_)
        · exact absurd q2 (by decide +kernel)
        · refine lv_iload_n hx hb dY1_column_87 rfl (lv_at hl 2 rfl) ?_
          refine lv_iconst (v := 2) hx hb dY1_column_88 (by decide) ?_
          refine lv_irem hx hb dY1_column_89 (by decide) ?_
          refine W.eq (g2 := F0 m 90 ls [.int (nI (x % 2))]) (congrArg (fun z9 => F0 m 90 ls [.int z9]) (show ((nI x) - (nI x) / 2 * 2) = nI (x % 2) from rf_rem (b := 2) (by omega) (by omega))) ?_
          refine lv_if_ne (tgt := 97) hx hb dY1_column_90 (by decide) (fun q3 => ?_) (fun q3 => ?_)
          · refine lv_iconst (v := 0) hx hb dY1_column_97 (by decide) ?_
            refine lv_goto (tgt := 102) hx hb dY1_column_98 (by decide) ?_
            exact W.zret (v := 0) hx hb hr rfl (fun t ht hW => ⟨0, rfl, ⟨fun q => absurd (show nI (x % 2) = nI 0 from congrArg nI q) q3, fun _ => rfl⟩, ht⟩) (fun q h => by cases h) dY1_column_102
          · refine lv_iconst (v := 1) hx hb dY1_column_93 (by decide) ?_
            refine lv_goto (tgt := 102) hx hb dY1_column_94 (by decide) ?_
            exact W.zret (v := 1) hx hb hr rfl (fun t ht hW => ⟨1, rfl, ⟨fun _ => rfl, fun q => absurd ((nI_eq (b := 0) (by omega) (by omega)).mp q3) q⟩, ht⟩) (fun q h => by cases h) dY1_column_102
      · exact absurd q1 (by decide +kernel)
    · exact absurd q0 (by decide +kernel)
  · refine lv_iload_n hx hb dY1_column_0 rfl (lv_at hl 1 rfl) ?_
    refine lv_tableIn (tgt := 130) hx hb dY1_column_1 (by decide +kernel) (by decide +kernel) rfl (by decide) ?_
    refine lv_iload_n hx hb dY1_column_130 rfl (lv_at hl 2 rfl) ?_
    refine lv_iconst (v := 2) hx hb dY1_column_131 (by decide) ?_
    refine lv_irem hx hb dY1_column_132 (by decide) ?_
    refine W.eq (g2 := F0 m 133 ls [.int (nI (x % 2))]) (congrArg (fun z9 => F0 m 133 ls [.int z9]) (show ((nI x) - (nI x) / 2 * 2) = nI (x % 2) from rf_rem (b := 2) (by omega) (by omega))) ?_
    refine lv_iconst (v := 1) hx hb dY1_column_133 (by decide) ?_
    refine lv_icmp_ne (tgt := 141) hx hb dY1_column_134 (by decide) (fun q0 => ?_) (fun q0 => ?_)
    · refine lv_iconst (v := 0) hx hb dY1_column_141 (by decide) ?_
      exact W.zret (v := 0) hx hb hr rfl (fun t ht hW => ⟨0, rfl, ⟨fun q => absurd (show nI (x % 2) = nI 1 from congrArg nI q) q0, fun _ => rfl⟩, ht⟩) (fun q h => by cases h) dY1_column_142
    · refine lv_iconst (v := 1) hx hb dY1_column_137 (by decide) ?_
      refine lv_goto (tgt := 142) hx hb dY1_column_138 (by decide) ?_
      exact W.zret (v := 1) hx hb hr rfl (fun t ht hW => ⟨1, rfl, ⟨fun _ => rfl, fun q => absurd ((nI_eq (b := 1) (by omega) (by omega)).mp q0) q⟩, ht⟩) (fun q h => by cases h) dY1_column_142
  · refine lv_iload_n hx hb dY1_column_0 rfl (lv_at hl 1 rfl) ?_
    refine lv_tableIn (tgt := 44) hx hb dY1_column_1 (by decide +kernel) (by decide +kernel) rfl (by decide) ?_
    refine lv_iload_n hx hb dY1_column_44 rfl (lv_at hl 1 rfl) ?_
    refine lv_if_ne (tgt := 63) hx hb dY1_column_45 (by decide) (fun q0 => ?_) (fun q0 => ?_)
    · refine lv_iload_n hx hb dY1_column_63 rfl (lv_at hl 1 rfl) ?_
      refine lv_iconst (v := 2) hx hb dY1_column_64 (by decide) ?_
      refine lv_icmp_ne (tgt := 82) hx hb dY1_column_65 (by decide) (fun q1 => ?_) (fun q1 => ?_)
      · refine lv_iload_n hx hb dY1_column_82 rfl (lv_at hl 1 rfl) ?_
        refine lv_iconst (v := 4) hx hb dY1_column_83 (by decide) ?_
        refine lv_icmp_ne (tgt := 101) hx hb dY1_column_84 (by decide) (fun q2 => ?_) (fun q2 => ?_)
        · refine lv_iconst (v := 1) hx hb dY1_column_101 (by decide) ?_
          exact W.zret (v := 1) hx hb hr rfl (fun t ht hW => ⟨1, rfl, ⟨fun _ => rfl, fun q => absurd (Nat.mod_one x) q⟩, ht⟩) (fun q h => by cases h) dY1_column_102
        · exact absurd q2 (by decide +kernel)
      · exact absurd q1 (by decide +kernel)
    · exact absurd q0 (by decide +kernel)
set_option maxHeartbeats 4000000 in
set_option maxRecDepth 100000 in
theorem c_Y1_line (l : Launch) (dC : Nat → ClassId) (dI : Nat → Nat → Nat) (cI cJ : ClassId) (h0 b1 b2 : Nat) (fl : Int32) (rc rl ps : Nat) (g t : Nat → Int32) (k x : Nat) (hk : k ≤ 6) (hx9 : x ≤ 100000) : Met l yY1_line wsY1_line ({ frames := 0, cells := 0, slots := 0, locals := 0 }) (va_Pc [.ref h0, .int (nI k), .int (nI x)] (rv_pre dC dI cI cJ h0 b1 b2 fl rc rl ps g t)) (vp_Si (fun r => (x % rf_sy k = rf_fy k → r = 1) ∧ (¬ x % rf_sy k = rf_fy k → r = 0))) 0 0 (fun _ => False) := by
  refine Met.ofW (cc := cY1_line) (maxL := 3) (ret := (some .boolean)) (by decide) rfl ?_
  intro p e s m args below meth c s₁ B hml hv
  obtain ⟨rfl, hP, hK⟩ := hv
  have hx := B.exec
  have hb := B.bytes
  have hr := B.returns
  have hts := atoms_spec (ws := wsY1_line) B.pre
  have hown : s.vm.findClass RX1 = some m.cls := findClass_of_methodNamed B.named
  have hlocks := B.notSynchronized
  have hP : va_P (dC, dI) rw_cl (rv_W h0 b1 b2 cI cJ fl rc rl ps g t) s.heap := hP
  have hl := lv_entry ([.ref h0, .int (nI k), .int (nI x)]) (n := 3) (Nat.le_of_ble_eq_true rfl)
  rw [lg_entry_eq]
  generalize (lg_sl ([.ref h0, .int (nI k), .int (nI x)]) ++ List.replicate (3 - (lg_sl ([.ref h0, .int (nI k), .int (nI x)])).length) Slot.unset).toArray = ls at hl ⊢
  have hl : lv_has ls 3 [(0, .ref h0), (1, .int (nI k)), (2, .int (nI x))] := hl
  obtain rfl | rfl | rfl | rfl | rfl | rfl | rfl := rf_7 hk
  · refine lv_iload_n hx hb dY1_line_0 rfl (lv_at hl 1 rfl) ?_
    refine lv_iconst (v := 2) hx hb dY1_line_1 (by decide) ?_
    refine lv_icmp_ge (tgt := 20) hx hb dY1_line_2 (by decide) (fun q0 => ?_) (fun q0 => ?_)
    · exact absurd q0 (by decide +kernel)
    · refine lv_iload_n hx hb dY1_line_5 rfl (lv_at hl 2 rfl) ?_
      refine lv_bipush (v := 8) hx hb dY1_line_6 (by decide) ?_
      refine lv_irem hx hb dY1_line_8 (by decide) ?_
      refine W.eq (g2 := F0 m 9 ls [.int (nI (x % 8))]) (congrArg (fun z9 => F0 m 9 ls [.int z9]) (show ((nI x) - (nI x) / 8 * 8) = nI (x % 8) from rf_rem (b := 8) (by omega) (by omega))) ?_
      refine lv_if_ne (tgt := 16) hx hb dY1_line_9 (by decide) (fun q1 => ?_) (fun q1 => ?_)
      · refine lv_iconst (v := 0) hx hb dY1_line_16 (by decide) ?_
        refine lv_goto (tgt := 111) hx hb dY1_line_17 (by decide) ?_
        exact W.zret (v := 0) hx hb hr rfl (fun t ht hW => ⟨0, rfl, ⟨fun q => absurd (show nI (x % 8) = nI 0 from congrArg nI q) q1, fun _ => rfl⟩, ht⟩) (fun q h => by cases h) dY1_line_111
      · refine lv_iconst (v := 1) hx hb dY1_line_12 (by decide) ?_
        refine lv_goto (tgt := 111) hx hb dY1_line_13 (by decide) ?_
        exact W.zret (v := 1) hx hb hr rfl (fun t ht hW => ⟨1, rfl, ⟨fun _ => rfl, fun q => absurd ((nI_eq (b := 0) (by omega) (by omega)).mp q1) q⟩, ht⟩) (fun q h => by cases h) dY1_line_111
  · refine lv_iload_n hx hb dY1_line_0 rfl (lv_at hl 1 rfl) ?_
    refine lv_iconst (v := 2) hx hb dY1_line_1 (by decide) ?_
    refine lv_icmp_ge (tgt := 20) hx hb dY1_line_2 (by decide) (fun q0 => ?_) (fun q0 => ?_)
    · exact absurd q0 (by decide +kernel)
    · refine lv_iload_n hx hb dY1_line_5 rfl (lv_at hl 2 rfl) ?_
      refine lv_bipush (v := 8) hx hb dY1_line_6 (by decide) ?_
      refine lv_irem hx hb dY1_line_8 (by decide) ?_
      refine W.eq (g2 := F0 m 9 ls [.int (nI (x % 8))]) (congrArg (fun z9 => F0 m 9 ls [.int z9]) (show ((nI x) - (nI x) / 8 * 8) = nI (x % 8) from rf_rem (b := 8) (by omega) (by omega))) ?_
      refine lv_if_ne (tgt := 16) hx hb dY1_line_9 (by decide) (fun q1 => ?_) (fun q1 => ?_)
      · refine lv_iconst (v := 0) hx hb dY1_line_16 (by decide) ?_
        refine lv_goto (tgt := 111) hx hb dY1_line_17 (by decide) ?_
        exact W.zret (v := 0) hx hb hr rfl (fun t ht hW => ⟨0, rfl, ⟨fun q => absurd (show nI (x % 8) = nI 0 from congrArg nI q) q1, fun _ => rfl⟩, ht⟩) (fun q h => by cases h) dY1_line_111
      · refine lv_iconst (v := 1) hx hb dY1_line_12 (by decide) ?_
        refine lv_goto (tgt := 111) hx hb dY1_line_13 (by decide) ?_
        exact W.zret (v := 1) hx hb hr rfl (fun t ht hW => ⟨1, rfl, ⟨fun _ => rfl, fun q => absurd ((nI_eq (b := 0) (by omega) (by omega)).mp q1) q⟩, ht⟩) (fun q h => by cases h) dY1_line_111
  · refine lv_iload_n hx hb dY1_line_0 rfl (lv_at hl 1 rfl) ?_
    refine lv_iconst (v := 2) hx hb dY1_line_1 (by decide) ?_
    refine lv_icmp_ge (tgt := 20) hx hb dY1_line_2 (by decide) (fun q0 => ?_) (fun q0 => ?_)
    · refine lv_iload_n hx hb dY1_line_20 rfl (lv_at hl 1 rfl) ?_
      refine lv_iconst (v := 2) hx hb dY1_line_21 (by decide) ?_
      refine lv_icmp_ne (tgt := 41) hx hb dY1_line_22 (by decide) (fun q1 => ?_) (fun q1 => ?_)
      · exact absurd q1 (by decide +kernel)
      · refine lv_iload_n hx hb dY1_line_25 rfl (lv_at hl 2 rfl) ?_
        refine lv_bipush (v := 8) hx hb dY1_line_26 (by decide) ?_
        refine lv_irem hx hb dY1_line_28 (by decide) ?_
        refine W.eq (g2 := F0 m 29 ls [.int (nI (x % 8))]) (congrArg (fun z9 => F0 m 29 ls [.int z9]) (show ((nI x) - (nI x) / 8 * 8) = nI (x % 8) from rf_rem (b := 8) (by omega) (by omega))) ?_
        refine lv_iconst (v := 4) hx hb dY1_line_29 (by decide) ?_
        refine lv_icmp_ne (tgt := 37) hx hb dY1_line_30 (by decide) (fun q2 => ?_) (fun q2 => ?_)
        · refine lv_iconst (v := 0) hx hb dY1_line_37 (by decide) ?_
          refine lv_goto (tgt := 111) hx hb dY1_line_38 (by decide) ?_
          exact W.zret (v := 0) hx hb hr rfl (fun t ht hW => ⟨0, rfl, ⟨fun q => absurd (show nI (x % 8) = nI 4 from congrArg nI q) q2, fun _ => rfl⟩, ht⟩) (fun q h => by cases h) dY1_line_111
        · refine lv_iconst (v := 1) hx hb dY1_line_33 (by decide) ?_
          refine lv_goto (tgt := 111) hx hb dY1_line_34 (by decide) ?_
          exact W.zret (v := 1) hx hb hr rfl (fun t ht hW => ⟨1, rfl, ⟨fun _ => rfl, fun q => absurd ((nI_eq (b := 4) (by omega) (by omega)).mp q2) q⟩, ht⟩) (fun q h => by cases h) dY1_line_111
    · exact absurd q0 (by decide +kernel)
  · refine lv_iload_n hx hb dY1_line_0 rfl (lv_at hl 1 rfl) ?_
    refine lv_iconst (v := 2) hx hb dY1_line_1 (by decide) ?_
    refine lv_icmp_ge (tgt := 20) hx hb dY1_line_2 (by decide) (fun q0 => ?_) (fun q0 => ?_)
    · refine lv_iload_n hx hb dY1_line_20 rfl (lv_at hl 1 rfl) ?_
      refine lv_iconst (v := 2) hx hb dY1_line_21 (by decide) ?_
      refine lv_icmp_ne (tgt := 41) hx hb dY1_line_22 (by decide) (fun q1 => ?_) (fun q1 => ?_)
      · refine lv_iload_n hx hb dY1_line_41 rfl (lv_at hl 1 rfl) ?_
        refine lv_iconst (v := 3) hx hb dY1_line_42 (by decide) ?_
        refine lv_icmp_ne (tgt := 60) hx hb dY1_line_43 (by decide) (fun q2 => ?_) (fun q2 => ?_)
        · exact absurd q2 (by decide +kernel)
        · refine lv_iload_n hx hb dY1_line_46 rfl (lv_at hl 2 rfl) ?_
          refine lv_iconst (v := 4) hx hb dY1_line_47 (by decide) ?_
          refine lv_irem hx hb dY1_line_48 (by decide) ?_
          refine W.eq (g2 := F0 m 49 ls [.int (nI (x % 4))]) (congrArg (fun z9 => F0 m 49 ls [.int z9]) (show ((nI x) - (nI x) / 4 * 4) = nI (x % 4) from rf_rem (b := 4) (by omega) (by omega))) ?_
          refine lv_if_ne (tgt := 56) hx hb dY1_line_49 (by decide) (fun q3 => ?_) (fun q3 => ?_)
          · refine lv_iconst (v := 0) hx hb dY1_line_56 (by decide) ?_
            refine lv_goto (tgt := 111) hx hb dY1_line_57 (by decide) ?_
            exact W.zret (v := 0) hx hb hr rfl (fun t ht hW => ⟨0, rfl, ⟨fun q => absurd (show nI (x % 4) = nI 0 from congrArg nI q) q3, fun _ => rfl⟩, ht⟩) (fun q h => by cases h) dY1_line_111
          · refine lv_iconst (v := 1) hx hb dY1_line_52 (by decide) ?_
            refine lv_goto (tgt := 111) hx hb dY1_line_53 (by decide) ?_
            exact W.zret (v := 1) hx hb hr rfl (fun t ht hW => ⟨1, rfl, ⟨fun _ => rfl, fun q => absurd ((nI_eq (b := 0) (by omega) (by omega)).mp q3) q⟩, ht⟩) (fun q h => by cases h) dY1_line_111
      · exact absurd q1 (by decide +kernel)
    · exact absurd q0 (by decide +kernel)
  · refine lv_iload_n hx hb dY1_line_0 rfl (lv_at hl 1 rfl) ?_
    refine lv_iconst (v := 2) hx hb dY1_line_1 (by decide) ?_
    refine lv_icmp_ge (tgt := 20) hx hb dY1_line_2 (by decide) (fun q0 => ?_) (fun q0 => ?_)
    · refine lv_iload_n hx hb dY1_line_20 rfl (lv_at hl 1 rfl) ?_
      refine lv_iconst (v := 2) hx hb dY1_line_21 (by decide) ?_
      refine lv_icmp_ne (tgt := 41) hx hb dY1_line_22 (by decide) (fun q1 => ?_) (fun q1 => ?_)
      · refine lv_iload_n hx hb dY1_line_41 rfl (lv_at hl 1 rfl) ?_
        refine lv_iconst (v := 3) hx hb dY1_line_42 (by decide) ?_
        refine lv_icmp_ne (tgt := 60) hx hb dY1_line_43 (by decide) (fun q2 => ?_) (fun q2 => ?_)
        · refine lv_iload_n hx hb dY1_line_60 rfl (lv_at hl 1 rfl) ?_
          refine lv_iconst (v := 4) hx hb dY1_line_61 (by decide) ?_
          refine lv_icmp_ne (tgt := 80) hx hb dY1_line_62 (by decide) (fun q3 => ?_) (fun q3 => ?_)
          · exact absurd q3 (by decide +kernel)
          · refine lv_iload_n hx hb dY1_line_65 rfl (lv_at hl 2 rfl) ?_
            refine lv_iconst (v := 4) hx hb dY1_line_66 (by decide) ?_
            refine lv_irem hx hb dY1_line_67 (by decide) ?_
            refine W.eq (g2 := F0 m 68 ls [.int (nI (x % 4))]) (congrArg (fun z9 => F0 m 68 ls [.int z9]) (show ((nI x) - (nI x) / 4 * 4) = nI (x % 4) from rf_rem (b := 4) (by omega) (by omega))) ?_
            refine lv_iconst (v := 2) hx hb dY1_line_68 (by decide) ?_
            refine lv_icmp_ne (tgt := 76) hx hb dY1_line_69 (by decide) (fun q4 => ?_) (fun q4 => ?_)
            · refine lv_iconst (v := 0) hx hb dY1_line_76 (by decide) ?_
              refine lv_goto (tgt := 111) hx hb dY1_line_77 (by decide) ?_
              exact W.zret (v := 0) hx hb hr rfl (fun t ht hW => ⟨0, rfl, ⟨fun q => absurd (show nI (x % 4) = nI 2 from congrArg nI q) q4, fun _ => rfl⟩, ht⟩) (fun q h => by cases h) dY1_line_111
            · refine lv_iconst (v := 1) hx hb dY1_line_72 (by decide) ?_
              refine lv_goto (tgt := 111) hx hb dY1_line_73 (by decide) ?_
              exact W.zret (v := 1) hx hb hr rfl (fun t ht hW => ⟨1, rfl, ⟨fun _ => rfl, fun q => absurd ((nI_eq (b := 2) (by omega) (by omega)).mp q4) q⟩, ht⟩) (fun q h => by cases h) dY1_line_111
        · exact absurd q2 (by decide +kernel)
      · exact absurd q1 (by decide +kernel)
    · exact absurd q0 (by decide +kernel)
  · refine lv_iload_n hx hb dY1_line_0 rfl (lv_at hl 1 rfl) ?_
    refine lv_iconst (v := 2) hx hb dY1_line_1 (by decide) ?_
    refine lv_icmp_ge (tgt := 20) hx hb dY1_line_2 (by decide) (fun q0 => ?_) (fun q0 => ?_)
    · refine lv_iload_n hx hb dY1_line_20 rfl (lv_at hl 1 rfl) ?_
      refine lv_iconst (v := 2) hx hb dY1_line_21 (by decide) ?_
      refine lv_icmp_ne (tgt := 41) hx hb dY1_line_22 (by decide) (fun q1 => ?_) (fun q1 => ?_)
      · refine lv_iload_n hx hb dY1_line_41 rfl (lv_at hl 1 rfl) ?_
        refine lv_iconst (v := 3) hx hb dY1_line_42 (by decide) ?_
        refine lv_icmp_ne (tgt := 60) hx hb dY1_line_43 (by decide) (fun q2 => ?_) (fun q2 => ?_)
        · refine lv_iload_n hx hb dY1_line_60 rfl (lv_at hl 1 rfl) ?_
          refine lv_iconst (v := 4) hx hb dY1_line_61 (by decide) ?_
          refine lv_icmp_ne (tgt := 80) hx hb dY1_line_62 (by decide) (fun q3 => ?_) (fun q3 => ?_)
          · refine lv_iload_n hx hb dY1_line_80 rfl (lv_at hl 1 rfl) ?_
            refine lv_iconst (v := 5) hx hb dY1_line_81 (by decide) ?_
            refine lv_icmp_ne (tgt := 99) hx hb dY1_line_82 (by decide) (fun q4 => ?_) (fun q4 => ?_)
            · exact absurd q4 (by decide +kernel)
            · refine lv_iload_n hx hb dY1_line_85 rfl (lv_at hl 2 rfl) ?_
              refine lv_iconst (v := 2) hx hb dY1_line_86 (by decide) ?_
              refine lv_irem hx hb dY1_line_87 (by decide) ?_
              refine W.eq (g2 := F0 m 88 ls [.int (nI (x % 2))]) (congrArg (fun z9 => F0 m 88 ls [.int z9]) (show ((nI x) - (nI x) / 2 * 2) = nI (x % 2) from rf_rem (b := 2) (by omega) (by omega))) ?_
              refine lv_if_ne (tgt := 95) hx hb dY1_line_88 (by decide) (fun q5 => ?_) (fun q5 => ?_)
              · refine lv_iconst (v := 0) hx hb dY1_line_95 (by decide) ?_
                refine lv_goto (tgt := 111) hx hb dY1_line_96 (by decide) ?_
                exact W.zret (v := 0) hx hb hr rfl (fun t ht hW => ⟨0, rfl, ⟨fun q => absurd (show nI (x % 2) = nI 0 from congrArg nI q) q5, fun _ => rfl⟩, ht⟩) (fun q h => by cases h) dY1_line_111
              · refine lv_iconst (v := 1) hx hb dY1_line_91 (by decide) ?_
                refine lv_goto (tgt := 111) hx hb dY1_line_92 (by decide) ?_
                exact W.zret (v := 1) hx hb hr rfl (fun t ht hW => ⟨1, rfl, ⟨fun _ => rfl, fun q => absurd ((nI_eq (b := 0) (by omega) (by omega)).mp q5) q⟩, ht⟩) (fun q h => by cases h) dY1_line_111
          · exact absurd q3 (by decide +kernel)
        · exact absurd q2 (by decide +kernel)
      · exact absurd q1 (by decide +kernel)
    · exact absurd q0 (by decide +kernel)
  · refine lv_iload_n hx hb dY1_line_0 rfl (lv_at hl 1 rfl) ?_
    refine lv_iconst (v := 2) hx hb dY1_line_1 (by decide) ?_
    refine lv_icmp_ge (tgt := 20) hx hb dY1_line_2 (by decide) (fun q0 => ?_) (fun q0 => ?_)
    · refine lv_iload_n hx hb dY1_line_20 rfl (lv_at hl 1 rfl) ?_
      refine lv_iconst (v := 2) hx hb dY1_line_21 (by decide) ?_
      refine lv_icmp_ne (tgt := 41) hx hb dY1_line_22 (by decide) (fun q1 => ?_) (fun q1 => ?_)
      · refine lv_iload_n hx hb dY1_line_41 rfl (lv_at hl 1 rfl) ?_
        refine lv_iconst (v := 3) hx hb dY1_line_42 (by decide) ?_
        refine lv_icmp_ne (tgt := 60) hx hb dY1_line_43 (by decide) (fun q2 => ?_) (fun q2 => ?_)
        · refine lv_iload_n hx hb dY1_line_60 rfl (lv_at hl 1 rfl) ?_
          refine lv_iconst (v := 4) hx hb dY1_line_61 (by decide) ?_
          refine lv_icmp_ne (tgt := 80) hx hb dY1_line_62 (by decide) (fun q3 => ?_) (fun q3 => ?_)
          · refine lv_iload_n hx hb dY1_line_80 rfl (lv_at hl 1 rfl) ?_
            refine lv_iconst (v := 5) hx hb dY1_line_81 (by decide) ?_
            refine lv_icmp_ne (tgt := 99) hx hb dY1_line_82 (by decide) (fun q4 => ?_) (fun q4 => ?_)
            · refine lv_iload_n hx hb dY1_line_99 rfl (lv_at hl 2 rfl) ?_
              refine lv_iconst (v := 2) hx hb dY1_line_100 (by decide) ?_
              refine lv_irem hx hb dY1_line_101 (by decide) ?_
              refine W.eq (g2 := F0 m 102 ls [.int (nI (x % 2))]) (congrArg (fun z9 => F0 m 102 ls [.int z9]) (show ((nI x) - (nI x) / 2 * 2) = nI (x % 2) from rf_rem (b := 2) (by omega) (by omega))) ?_
              refine lv_iconst (v := 1) hx hb dY1_line_102 (by decide) ?_
              refine lv_icmp_ne (tgt := 110) hx hb dY1_line_103 (by decide) (fun q5 => ?_) (fun q5 => ?_)
              · refine lv_iconst (v := 0) hx hb dY1_line_110 (by decide) ?_
                exact W.zret (v := 0) hx hb hr rfl (fun t ht hW => ⟨0, rfl, ⟨fun q => absurd (show nI (x % 2) = nI 1 from congrArg nI q) q5, fun _ => rfl⟩, ht⟩) (fun q h => by cases h) dY1_line_111
              · refine lv_iconst (v := 1) hx hb dY1_line_106 (by decide) ?_
                refine lv_goto (tgt := 111) hx hb dY1_line_107 (by decide) ?_
                exact W.zret (v := 1) hx hb hr rfl (fun t ht hW => ⟨1, rfl, ⟨fun _ => rfl, fun q => absurd ((nI_eq (b := 1) (by omega) (by omega)).mp q5) q⟩, ht⟩) (fun q h => by cases h) dY1_line_111
            · exact absurd q4 (by decide +kernel)
          · exact absurd q3 (by decide +kernel)
        · exact absurd q2 (by decide +kernel)
      · exact absurd q1 (by decide +kernel)
    · exact absurd q0 (by decide +kernel)
