section RPUB
variable {sc : List (Nat × Nat × (Nat → Int32))} {l : Launch} {d : Nat} {h : se_H} {S : st_S} {t : Int32} {N : Nat}
set_option maxHeartbeats 1000000 in
set_option maxRecDepth 100000 in
theorem r_list {k i a b g e : Int32} (hd : 3 ≤ d) (hR : is_R S t h) (hI : st_I S) (hQ : st_Q N S) (hN : N < 2 ^ 31) : se_W (vG sc) l d mR_list 0 (se_ent 7 [.ref 41, .int k, .int i, .int a, .int b, .int g, .int e]) [] h 0 0 (rPv h (sp_list S k i a b g e)) := by
  obtain ⟨d, rfl⟩ : ∃ e, d = e + 1 := ⟨d - 1, by omega⟩
  show se_W (vG sc) l (d + 1) mR_list 0 [some (.ref 41), some (.int k), some (.int i), some (.int a), some (.int b), some (.int g), some (.int e)] [] h 0 0 _
  have hn20 := hI.2.1
  have hO := hR.1
  rw [hI.1, hI.2.2.1] at hO
  refine se_aload_n (pc := 0) rfl dR_list_0 ?_
  refine se_iload_n (pc := 1) rfl dR_list_1 ?_
  refine se_invS (pc := 2) (as := [.int k]) (st := [.ref 41]) (vok sc) kR_isKind dR_list_2 ⟨wd_649, wd_650, wd_3⟩ rfl (Nat.le_of_ble_eq_true rfl) (Nat.le_of_ble_eq_true rfl) (x_R_isKind (by omega)) (C2 := 0) (S2 := 0) (by omega) (by omega) (fun v2 h2 _ q2 => ?_) (fun x hx => absurd hx List.not_mem_nil) (fun v2 h2 _ q2 => ?_)
  rotate_left
  · rcases q2.2 with ⟨_, _, _, _, e⟩ | ⟨_, e⟩ <;> cases e
  obtain ⟨h2e, q2⟩ := q2
  have h2f := h2e.symm
  subst h2f
  rcases q2 with ⟨jk, hxk, hjk, rfl, q2⟩ | ⟨hxk, q2⟩
  · cases q2
    refine se_if_eq (pc := 5) (tgt := 19) dR_list_5 (by decide) (fun q1 => absurd q1 (by decide)) (fun q1 => ?_)
    refine se_iload_n (pc := 8) rfl dR_list_8 ?_
    refine se_invS (pc := 9) (as := [.int i]) (st := [.ref 41]) (vok sc) kR_isItem dR_list_9 ⟨wd_663, wd_664, wd_3⟩ rfl (Nat.le_of_ble_eq_true rfl) (Nat.le_of_ble_eq_true rfl) (x_R_isItem (by omega)) (C2 := 0) (S2 := 0) (by omega) (by omega) (fun v9 h9 _ q9 => ?_) (fun x hx => absurd hx List.not_mem_nil) (fun v9 h9 _ q9 => ?_)
    rotate_left
    · rcases q9.2 with ⟨_, _, _, _, e⟩ | ⟨_, e⟩ <;> cases e
    obtain ⟨h9e, q9⟩ := q9
    have h9f := h9e.symm
    subst h9f
    rcases q9 with ⟨ji, hxi, hji, rfl, q9⟩ | ⟨hxi, q9⟩
    · cases q9
      refine se_if_eq (pc := 12) (tgt := 19) dR_list_12 (by decide) (fun q2 => absurd q2 (by decide)) (fun q2 => ?_)
      refine se_iconst (pc := 15) 1 (by decide) dR_list_15 ?_
      refine se_goto (pc := 16) (tgt := 20) dR_list_16 (by decide) ?_
      refine se_iload_n (pc := 20) rfl dR_list_20 ?_
      refine se_sipush (pc := 21) (-9999) (by decide) dR_list_21 ?_
      refine se_sipush (pc := 24) 9999 (by decide) dR_list_24 ?_
      refine se_invS (pc := 27) (as := [.int a, .int (-9999), .int 9999]) (st := [.int 1, .ref 41]) (vok sc) kR_in dR_list_27 ⟨wd_652, wd_653, wd_3⟩ rfl (Nat.le_of_ble_eq_true rfl) (Nat.le_of_ble_eq_true rfl) (x_R_in) (C2 := 0) (S2 := 0) (by omega) (by omega) (fun v27 h27 _ q27 => ?_) (fun x hx => absurd hx List.not_mem_nil) (fun v27 h27 _ q27 => ?_)
      rotate_left
      · rcases q27.2 with ⟨_, e⟩ | ⟨_, e⟩ <;> cases e
      obtain ⟨h27e, q27⟩ := q27
      have h27f := h27e.symm
      subst h27f
      rcases q27 with ⟨hi27, q27⟩ | ⟨hi27, q27⟩
      · cases q27
        refine se_if_eq (pc := 30) (tgt := 71) dR_list_30 (by decide) (fun q3 => absurd q3 (by decide)) (fun q3 => ?_)
        refine se_iload (pc := 33) rfl dR_list_33 ?_
        refine se_iload_n (pc := 35) rfl dR_list_35 ?_
        refine se_sipush (pc := 36) 9999 (by decide) dR_list_36 ?_
        refine se_invS (pc := 39) (as := [.int b, .int a, .int 9999]) (st := [.int 1, .ref 41]) (vok sc) kR_in dR_list_39 ⟨wd_652, wd_653, wd_3⟩ rfl (Nat.le_of_ble_eq_true rfl) (Nat.le_of_ble_eq_true rfl) (x_R_in) (C2 := 0) (S2 := 0) (by omega) (by omega) (fun v39 h39 _ q39 => ?_) (fun x hx => absurd hx List.not_mem_nil) (fun v39 h39 _ q39 => ?_)
        rotate_left
        · rcases q39.2 with ⟨_, e⟩ | ⟨_, e⟩ <;> cases e
        obtain ⟨h39e, q39⟩ := q39
        have h39f := h39e.symm
        subst h39f
        rcases q39 with ⟨hi39, q39⟩ | ⟨hi39, q39⟩
        · cases q39
          refine se_if_eq (pc := 42) (tgt := 71) dR_list_42 (by decide) (fun q4 => absurd q4 (by decide)) (fun q4 => ?_)
          refine se_iload (pc := 45) rfl dR_list_45 ?_
          refine se_iconst (pc := 47) 1 (by decide) dR_list_47 ?_
          refine se_iconst (pc := 48) 3 (by decide) dR_list_48 ?_
          refine se_invS (pc := 49) (as := [.int g, .int 1, .int 3]) (st := [.int 1, .ref 41]) (vok sc) kR_in dR_list_49 ⟨wd_652, wd_653, wd_3⟩ rfl (Nat.le_of_ble_eq_true rfl) (Nat.le_of_ble_eq_true rfl) (x_R_in) (C2 := 0) (S2 := 0) (by omega) (by omega) (fun v49 h49 _ q49 => ?_) (fun x hx => absurd hx List.not_mem_nil) (fun v49 h49 _ q49 => ?_)
          rotate_left
          · rcases q49.2 with ⟨_, e⟩ | ⟨_, e⟩ <;> cases e
          obtain ⟨h49e, q49⟩ := q49
          have h49f := h49e.symm
          subst h49f
          rcases q49 with ⟨hi49, q49⟩ | ⟨hi49, q49⟩
          · cases q49
            refine se_if_eq (pc := 52) (tgt := 71) dR_list_52 (by decide) (fun q5 => absurd q5 (by decide)) (fun q5 => ?_)
            refine se_iload (pc := 55) rfl dR_list_55 ?_
            refine se_iconst (pc := 57) 0 (by decide) dR_list_57 ?_
            refine se_sipush (pc := 58) 5000 (by decide) dR_list_58 ?_
            refine se_invS (pc := 61) (as := [.int e, .int 0, .int 5000]) (st := [.int 1, .ref 41]) (vok sc) kR_in dR_list_61 ⟨wd_652, wd_653, wd_3⟩ rfl (Nat.le_of_ble_eq_true rfl) (Nat.le_of_ble_eq_true rfl) (x_R_in) (C2 := 0) (S2 := 0) (by omega) (by omega) (fun v61 h61 _ q61 => ?_) (fun x hx => absurd hx List.not_mem_nil) (fun v61 h61 _ q61 => ?_)
            rotate_left
            · rcases q61.2 with ⟨_, e⟩ | ⟨_, e⟩ <;> cases e
            obtain ⟨h61e, q61⟩ := q61
            have h61f := h61e.symm
            subst h61f
            rcases q61 with ⟨hi61, q61⟩ | ⟨hi61, q61⟩
            · cases q61
              refine se_if_eq (pc := 64) (tgt := 71) dR_list_64 (by decide) (fun q6 => absurd q6 (by decide)) (fun q6 => ?_)
              refine se_iconst (pc := 67) 1 (by decide) dR_list_67 ?_
              refine se_goto (pc := 68) (tgt := 72) dR_list_68 (by decide) ?_
              refine se_iconst (pc := 72) 1 (by decide) dR_list_72 ?_
              refine se_invV (pc := 73) (as := [.int 1, .int 1, .int 1]) (st := []) (vok sc) kR_goes dR_list_73 ⟨wd_655, wd_657, sl_10, wd_3⟩ rfl hO rfl (Nat.le_of_ble_eq_true rfl) (Nat.le_of_ble_eq_true rfl) (g_goes (r := 1) 0 hR (by decide) (by decide)) (C2 := 0) (S2 := 0) (by omega) (by omega) (fun v73 h73 _ q73 => ?_) (fun x hx => absurd hx List.not_mem_nil) (fun v73 h73 _ q73 => ?_)
              rotate_left
              · cases q73.2.2
              obtain ⟨hR9, hf9, q73⟩ := q73
              cases q73
              have hO9 := hR9.1
              rw [hI.1, hI.2.2.1] at hO9
              refine se_if_ne (pc := 76) (tgt := 80) dR_list_76 (by decide) (fun q7 => ?_) (fun q7 => absurd q7 (by decide))
              refine se_aload_n (pc := 80) rfl dR_list_80 ?_
              refine se_getf (pc := 81) clR 2 dR_list_81 wd_555 rfl (by decide) hO9 rfl ?_
              refine se_bipush (pc := 84) 10 (by decide) dR_list_84 ?_
              refine se_iload_n (pc := 86) rfl dR_list_86 ?_
              refine se_imul (pc := 87) dR_list_87 ?_
              refine se_iload_n (pc := 88) rfl dR_list_88 ?_
              refine se_iadd (pc := 89) dR_list_89 ?_
              rw [nx10]
              refine se_iconst (pc := 90) 1 (by decide) dR_list_90 ?_
              refine se_zastN (pc := 91) 1 dR_list_91 rfl hR9.2.1 (by omega) (by decide) (by first | decide | assumption) ?_
              refine se_aload_n (pc := 92) rfl dR_list_92 ?_
              refine se_getf (pc := 93) clR 3 dR_list_93 wd_556 rfl (by decide) (st_ne hO9 (by omega)) rfl ?_
              refine se_bipush (pc := 96) 10 (by decide) dR_list_96 ?_
              refine se_iload_n (pc := 98) rfl dR_list_98 ?_
              refine se_imul (pc := 99) dR_list_99 ?_
              refine se_iload_n (pc := 100) rfl dR_list_100 ?_
              refine se_iadd (pc := 101) dR_list_101 ?_
              rw [nx10]
              refine se_iload_n (pc := 102) rfl dR_list_102 ?_
              refine se_iastN (pc := 103) 0 dR_list_103 rfl (st_ne hR9.2.2.1 (by omega)) (by omega) (by decide) ?_
              refine se_aload_n (pc := 104) rfl dR_list_104 ?_
              refine se_getf (pc := 105) clR 4 dR_list_105 wd_557 rfl (by decide) (st_ne (st_ne hO9 (by omega)) (by omega)) rfl ?_
              refine se_bipush (pc := 108) 10 (by decide) dR_list_108 ?_
              refine se_iload_n (pc := 110) rfl dR_list_110 ?_
              refine se_imul (pc := 111) dR_list_111 ?_
              refine se_iload_n (pc := 112) rfl dR_list_112 ?_
              refine se_iadd (pc := 113) dR_list_113 ?_
              rw [nx10]
              refine se_iload (pc := 114) rfl dR_list_114 ?_
              refine se_iastN (pc := 116) 0 dR_list_116 rfl (st_ne (st_ne hR9.2.2.2.1 (by omega)) (by omega)) (by omega) (by decide) ?_
              refine se_aload_n (pc := 117) rfl dR_list_117 ?_
              refine se_getf (pc := 118) clR 5 dR_list_118 wd_558 rfl (by decide) (st_ne (st_ne (st_ne hO9 (by omega)) (by omega)) (by omega)) rfl ?_
              refine se_bipush (pc := 121) 10 (by decide) dR_list_121 ?_
              refine se_iload_n (pc := 123) rfl dR_list_123 ?_
              refine se_imul (pc := 124) dR_list_124 ?_
              refine se_iload_n (pc := 125) rfl dR_list_125 ?_
              refine se_iadd (pc := 126) dR_list_126 ?_
              rw [nx10]
              refine se_iload (pc := 127) rfl dR_list_127 ?_
              refine se_iastN (pc := 129) 0 dR_list_129 rfl (st_ne (st_ne (st_ne hR9.2.2.2.2.1 (by omega)) (by omega)) (by omega)) (by omega) (by decide) ?_
              refine se_aload_n (pc := 130) rfl dR_list_130 ?_
              refine se_getf (pc := 131) clR 6 dR_list_131 wd_559 rfl (by decide) (st_ne (st_ne (st_ne (st_ne hO9 (by omega)) (by omega)) (by omega)) (by omega)) rfl ?_
              refine se_bipush (pc := 134) 10 (by decide) dR_list_134 ?_
              refine se_iload_n (pc := 136) rfl dR_list_136 ?_
              refine se_imul (pc := 137) dR_list_137 ?_
              refine se_iload_n (pc := 138) rfl dR_list_138 ?_
              refine se_iadd (pc := 139) dR_list_139 ?_
              rw [nx10]
              refine se_iload (pc := 140) rfl dR_list_140 ?_
              refine se_iastN (pc := 142) 0 dR_list_142 rfl (st_ne (st_ne (st_ne (st_ne hR9.2.2.2.2.2.1 (by omega)) (by omega)) (by omega)) (by omega)) (by omega) (by decide) ?_
              exact se_vret (pc := 143) dR_list_143 rfl (rPv_ok 0 (S' := st_up (st_up (st_up (st_up (st_up S 0 jk ji 1) 1 jk ji a) 2 jk ji b) 3 jk ji g) 4 jk ji e) (by clear hR hO hR9 hO9 hf9; simp_all [sp_list]) ⟨rf_O (st_ne (st_ne (st_ne (st_ne (st_ne hO9 (by omega)) (by omega)) (by omega)) (by omega)) (by omega)) (by simp (decide := true) only [up_ne, up_v, ← hI.1, ← hI.2.2.1]) (by simp (decide := true) only [up_ne, up_v, ← hI.1, ← hI.2.2.1]) (by simp (decide := true) only [up_ne, up_v, ← hI.1, ← hI.2.2.1]), rf_R (st_ne (st_ne (st_ne (st_ne (st_eq hR9.2.1) (by omega)) (by omega)) (by omega)) (by omega)) (by simp (decide := true) only [rf_l_ne, rf_v_ne, rf_an_ne, rf_at_ne, rf_by_ne, rf_ky_ne, up_ne, up_eq, up_v, rf_l_up hji]), rf_R (st_ne (st_ne (st_ne (st_eq (st_ne hR9.2.2.1 (by omega))) (by omega)) (by omega)) (by omega)) (by simp (decide := true) only [rf_l_ne, rf_v_ne, rf_an_ne, rf_at_ne, rf_by_ne, rf_ky_ne, up_ne, up_eq, up_v, rf_l_up hji]), rf_R (st_ne (st_ne (st_eq (st_ne (st_ne hR9.2.2.2.1 (by omega)) (by omega))) (by omega)) (by omega)) (by simp (decide := true) only [rf_l_ne, rf_v_ne, rf_an_ne, rf_at_ne, rf_by_ne, rf_ky_ne, up_ne, up_eq, up_v, rf_l_up hji]), rf_R (st_ne (st_eq (st_ne (st_ne (st_ne hR9.2.2.2.2.1 (by omega)) (by omega)) (by omega))) (by omega)) (by simp (decide := true) only [rf_l_ne, rf_v_ne, rf_an_ne, rf_at_ne, rf_by_ne, rf_ky_ne, up_ne, up_eq, up_v, rf_l_up hji]), rf_R (st_eq (st_ne (st_ne (st_ne (st_ne hR9.2.2.2.2.2.1 (by omega)) (by omega)) (by omega)) (by omega))) (by simp (decide := true) only [rf_l_ne, rf_v_ne, rf_an_ne, rf_at_ne, rf_by_ne, rf_ky_ne, up_ne, up_eq, up_v, rf_l_up hji]), rf_R (st_ne (st_ne (st_ne (st_ne (st_ne hR9.2.2.2.2.2.2.1 (by omega)) (by omega)) (by omega)) (by omega)) (by omega)) (by simp (decide := true) only [rf_l_ne, rf_v_ne, rf_an_ne, rf_at_ne, rf_by_ne, rf_ky_ne, up_ne, up_eq, up_v, rf_l_up hji]), rf_R (st_ne (st_ne (st_ne (st_ne (st_ne hR9.2.2.2.2.2.2.2.1 (by omega)) (by omega)) (by omega)) (by omega)) (by omega)) (by simp (decide := true) only [rf_l_ne, rf_v_ne, rf_an_ne, rf_at_ne, rf_by_ne, rf_ky_ne, up_ne, up_eq, up_v, rf_l_up hji]), rf_R (st_ne (st_ne (st_ne (st_ne (st_ne hR9.2.2.2.2.2.2.2.2.1 (by omega)) (by omega)) (by omega)) (by omega)) (by omega)) (by simp (decide := true) only [rf_l_ne, rf_v_ne, rf_an_ne, rf_at_ne, rf_by_ne, rf_ky_ne, up_ne, up_eq, up_v, rf_l_up hji]), rf_R (st_ne (st_ne (st_ne (st_ne (st_ne hR9.2.2.2.2.2.2.2.2.2.1 (by omega)) (by omega)) (by omega)) (by omega)) (by omega)) (by simp (decide := true) only [rf_l_ne, rf_v_ne, rf_an_ne, rf_at_ne, rf_by_ne, rf_ky_ne, up_ne, up_eq, up_v, rf_l_up hji]), rf_R (st_ne (st_ne (st_ne (st_ne (st_ne hR9.2.2.2.2.2.2.2.2.2.2.1 (by omega)) (by omega)) (by omega)) (by omega)) (by omega)) (by simp (decide := true) only [rf_l_ne, rf_v_ne, rf_an_ne, rf_at_ne, rf_by_ne, rf_ky_ne, up_ne, up_eq, up_v, rf_l_up hji]), rf_R (st_ne (st_ne (st_ne (st_ne (st_ne hR9.2.2.2.2.2.2.2.2.2.2.2.1 (by omega)) (by omega)) (by omega)) (by omega)) (by omega)) (by simp (decide := true) only [rf_l_ne, rf_v_ne, rf_an_ne, rf_at_ne, rf_by_ne, rf_ky_ne, up_ne, up_eq, up_v, rf_l_up hji]), rf_R (st_ne (st_ne (st_ne (st_ne (st_ne hR9.2.2.2.2.2.2.2.2.2.2.2.2.1 (by omega)) (by omega)) (by omega)) (by omega)) (by omega)) (by simp (decide := true) only [rf_l_ne, rf_v_ne, rf_an_ne, rf_at_ne, rf_by_ne, rf_ky_ne, up_ne, up_eq, up_v, rf_l_up hji]), rf_R (st_ne (st_ne (st_ne (st_ne (st_ne hR9.2.2.2.2.2.2.2.2.2.2.2.2.2.1 (by omega)) (by omega)) (by omega)) (by omega)) (by omega)) (by simp (decide := true) only [rf_l_ne, rf_v_ne, rf_an_ne, rf_at_ne, rf_by_ne, rf_ky_ne, up_ne, up_eq, up_v, rf_l_up hji]), rf_R (st_ne (st_ne (st_ne (st_ne (st_ne hR9.2.2.2.2.2.2.2.2.2.2.2.2.2.2.1 (by omega)) (by omega)) (by omega)) (by omega)) (by omega)) (by simp (decide := true) only [rf_l_ne, rf_v_ne, rf_an_ne, rf_at_ne, rf_by_ne, rf_ky_ne, up_ne, up_eq, up_v, rf_l_up hji]), rf_R (st_ne (st_ne (st_ne (st_ne (st_ne hR9.2.2.2.2.2.2.2.2.2.2.2.2.2.2.2.1 (by omega)) (by omega)) (by omega)) (by omega)) (by omega)) (by simp (decide := true) only [rf_l_ne, rf_v_ne, rf_an_ne, rf_at_ne, rf_by_ne, rf_ky_ne, up_ne, up_eq, up_v, rf_l_up hji]), rf_R (st_ne (st_ne (st_ne (st_ne (st_ne hR9.2.2.2.2.2.2.2.2.2.2.2.2.2.2.2.2.1 (by omega)) (by omega)) (by omega)) (by omega)) (by omega)) (by simp (decide := true) only [rf_l_ne, rf_v_ne, rf_an_ne, rf_at_ne, rf_by_ne, rf_ky_ne, up_ne, up_eq, up_v, rf_l_up hji]), rf_R (st_ne (st_ne (st_ne (st_ne (st_ne hR9.2.2.2.2.2.2.2.2.2.2.2.2.2.2.2.2.2.1 (by omega)) (by omega)) (by omega)) (by omega)) (by omega)) (by simp (decide := true) only [rf_l_ne, rf_v_ne, rf_an_ne, rf_at_ne, rf_by_ne, rf_ky_ne, up_ne, up_eq, up_v, rf_l_up hji]), rf_R (st_ne (st_ne (st_ne (st_ne (st_ne hR9.2.2.2.2.2.2.2.2.2.2.2.2.2.2.2.2.2.2.1 (by omega)) (by omega)) (by omega)) (by omega)) (by omega)) (by simp (decide := true) only [rf_l_ne, rf_v_ne, rf_an_ne, rf_at_ne, rf_by_ne, rf_ky_ne, up_ne, up_eq, up_v, rf_l_up hji]), rf_R (st_ne (st_ne (st_ne (st_ne (st_ne hR9.2.2.2.2.2.2.2.2.2.2.2.2.2.2.2.2.2.2.2.1 (by omega)) (by omega)) (by omega)) (by omega)) (by omega)) (by simp (decide := true) only [rf_l_ne, rf_v_ne, rf_an_ne, rf_at_ne, rf_by_ne, rf_ky_ne, up_ne, up_eq, up_v, rf_l_up hji]), rf_R (st_ne (st_ne (st_ne (st_ne (st_ne hR9.2.2.2.2.2.2.2.2.2.2.2.2.2.2.2.2.2.2.2.2.1 (by omega)) (by omega)) (by omega)) (by omega)) (by omega)) (by simp (decide := true) only [rf_l_ne, rf_v_ne, rf_an_ne, rf_at_ne, rf_by_ne, rf_ky_ne, up_ne, up_eq, up_v, rf_l_up hji]), rf_R (st_ne (st_ne (st_ne (st_ne (st_ne hR9.2.2.2.2.2.2.2.2.2.2.2.2.2.2.2.2.2.2.2.2.2.1 (by omega)) (by omega)) (by omega)) (by omega)) (by omega)) (by simp (decide := true) only [rf_l_ne, rf_v_ne, rf_an_ne, rf_at_ne, rf_by_ne, rf_ky_ne, up_ne, up_eq, up_v, rf_l_up hji]), rf_R (st_ne (st_ne (st_ne (st_ne (st_ne hR9.2.2.2.2.2.2.2.2.2.2.2.2.2.2.2.2.2.2.2.2.2.2.1 (by omega)) (by omega)) (by omega)) (by omega)) (by omega)) (by simp (decide := true) only [rf_l_ne, rf_v_ne, rf_an_ne, rf_at_ne, rf_by_ne, rf_ky_ne, up_ne, up_eq, up_v, rf_l_up hji]), rf_R (st_ne (st_ne (st_ne (st_ne (st_ne hR9.2.2.2.2.2.2.2.2.2.2.2.2.2.2.2.2.2.2.2.2.2.2.2.1 (by omega)) (by omega)) (by omega)) (by omega)) (by omega)) (by simp (decide := true) only [rf_l_ne, rf_v_ne, rf_an_ne, rf_at_ne, rf_by_ne, rf_ky_ne, up_ne, up_eq, up_v, rf_l_up hji]), rf_R (st_ne (st_ne (st_ne (st_ne (st_ne hR9.2.2.2.2.2.2.2.2.2.2.2.2.2.2.2.2.2.2.2.2.2.2.2.2.1 (by omega)) (by omega)) (by omega)) (by omega)) (by omega)) (by simp (decide := true) only [rf_l_ne, rf_v_ne, rf_an_ne, rf_at_ne, rf_by_ne, rf_ky_ne, up_ne, up_eq, up_v, rf_l_up hji]), rf_R (st_ne (st_ne (st_ne (st_ne (st_ne hR9.2.2.2.2.2.2.2.2.2.2.2.2.2.2.2.2.2.2.2.2.2.2.2.2.2 (by omega)) (by omega)) (by omega)) (by omega)) (by omega)) (by simp (decide := true) only [rf_l_ne, rf_v_ne, rf_an_ne, rf_at_ne, rf_by_ne, rf_ky_ne, up_ne, up_eq, up_v, rf_l_up hji])⟩ (fR_tr (fR_tr (fR_tr (fR_tr (fR_tr hf9 (fR_set (by decide) (by decide))) (fR_set (by decide) (by decide))) (fR_set (by decide) (by decide))) (fR_set (by decide) (by decide))) (fR_set (by decide) (by decide))))
            · cases q61
              refine se_if_eq (pc := 64) (tgt := 71) dR_list_64 (by decide) (fun q8 => ?_) (fun q8 => absurd q8 (by decide))
              refine se_iconst (pc := 71) 0 (by decide) dR_list_71 ?_
              refine se_iconst (pc := 72) 1 (by decide) dR_list_72 ?_
              refine se_invV (pc := 73) (as := [.int 1, .int 0, .int 1]) (st := []) (vok sc) kR_goes dR_list_73 ⟨wd_655, wd_657, sl_10, wd_3⟩ rfl hO rfl (Nat.le_of_ble_eq_true rfl) (Nat.le_of_ble_eq_true rfl) (g_goes (r := 0) 2 hR (by decide) (by decide)) (C2 := 0) (S2 := 0) (by omega) (by omega) (fun v73 h73 _ q73 => ?_) (fun x hx => absurd hx List.not_mem_nil) (fun v73 h73 _ q73 => ?_)
              rotate_left
              · cases q73.2.2
              obtain ⟨hR9, hf9, q73⟩ := q73
              cases q73
              have hO9 := hR9.1
              rw [hI.1, hI.2.2.1] at hO9
              refine se_if_ne (pc := 76) (tgt := 80) dR_list_76 (by decide) (fun q9 => absurd q9 (by decide)) (fun q9 => ?_)
              exact se_vret (pc := 79) dR_list_79 rfl (rPv_ok 2 (by clear hR hO hR9 hO9 hf9; simp_all [sp_list]) hR9 hf9)
          · cases q49
            refine se_if_eq (pc := 52) (tgt := 71) dR_list_52 (by decide) (fun q10 => ?_) (fun q10 => absurd q10 (by decide))
            refine se_iconst (pc := 71) 0 (by decide) dR_list_71 ?_
            refine se_iconst (pc := 72) 1 (by decide) dR_list_72 ?_
            refine se_invV (pc := 73) (as := [.int 1, .int 0, .int 1]) (st := []) (vok sc) kR_goes dR_list_73 ⟨wd_655, wd_657, sl_10, wd_3⟩ rfl hO rfl (Nat.le_of_ble_eq_true rfl) (Nat.le_of_ble_eq_true rfl) (g_goes (r := 0) 2 hR (by decide) (by decide)) (C2 := 0) (S2 := 0) (by omega) (by omega) (fun v73 h73 _ q73 => ?_) (fun x hx => absurd hx List.not_mem_nil) (fun v73 h73 _ q73 => ?_)
            rotate_left
            · cases q73.2.2
            obtain ⟨hR9, hf9, q73⟩ := q73
            cases q73
            have hO9 := hR9.1
            rw [hI.1, hI.2.2.1] at hO9
            refine se_if_ne (pc := 76) (tgt := 80) dR_list_76 (by decide) (fun q11 => absurd q11 (by decide)) (fun q11 => ?_)
            exact se_vret (pc := 79) dR_list_79 rfl (rPv_ok 2 (by clear hR hO hR9 hO9 hf9; simp_all [sp_list]) hR9 hf9)
        · cases q39
          refine se_if_eq (pc := 42) (tgt := 71) dR_list_42 (by decide) (fun q12 => ?_) (fun q12 => absurd q12 (by decide))
          refine se_iconst (pc := 71) 0 (by decide) dR_list_71 ?_
          refine se_iconst (pc := 72) 1 (by decide) dR_list_72 ?_
          refine se_invV (pc := 73) (as := [.int 1, .int 0, .int 1]) (st := []) (vok sc) kR_goes dR_list_73 ⟨wd_655, wd_657, sl_10, wd_3⟩ rfl hO rfl (Nat.le_of_ble_eq_true rfl) (Nat.le_of_ble_eq_true rfl) (g_goes (r := 0) 2 hR (by decide) (by decide)) (C2 := 0) (S2 := 0) (by omega) (by omega) (fun v73 h73 _ q73 => ?_) (fun x hx => absurd hx List.not_mem_nil) (fun v73 h73 _ q73 => ?_)
          rotate_left
          · cases q73.2.2
          obtain ⟨hR9, hf9, q73⟩ := q73
          cases q73
          have hO9 := hR9.1
          rw [hI.1, hI.2.2.1] at hO9
          refine se_if_ne (pc := 76) (tgt := 80) dR_list_76 (by decide) (fun q13 => absurd q13 (by decide)) (fun q13 => ?_)
          exact se_vret (pc := 79) dR_list_79 rfl (rPv_ok 2 (by clear hR hO hR9 hO9 hf9; simp_all [sp_list]) hR9 hf9)
      · cases q27
        refine se_if_eq (pc := 30) (tgt := 71) dR_list_30 (by decide) (fun q14 => ?_) (fun q14 => absurd q14 (by decide))
        refine se_iconst (pc := 71) 0 (by decide) dR_list_71 ?_
        refine se_iconst (pc := 72) 1 (by decide) dR_list_72 ?_
        refine se_invV (pc := 73) (as := [.int 1, .int 0, .int 1]) (st := []) (vok sc) kR_goes dR_list_73 ⟨wd_655, wd_657, sl_10, wd_3⟩ rfl hO rfl (Nat.le_of_ble_eq_true rfl) (Nat.le_of_ble_eq_true rfl) (g_goes (r := 0) 2 hR (by decide) (by decide)) (C2 := 0) (S2 := 0) (by omega) (by omega) (fun v73 h73 _ q73 => ?_) (fun x hx => absurd hx List.not_mem_nil) (fun v73 h73 _ q73 => ?_)
        rotate_left
        · cases q73.2.2
        obtain ⟨hR9, hf9, q73⟩ := q73
        cases q73
        have hO9 := hR9.1
        rw [hI.1, hI.2.2.1] at hO9
        refine se_if_ne (pc := 76) (tgt := 80) dR_list_76 (by decide) (fun q15 => absurd q15 (by decide)) (fun q15 => ?_)
        exact se_vret (pc := 79) dR_list_79 rfl (rPv_ok 2 (by clear hR hO hR9 hO9 hf9; simp_all [sp_list]) hR9 hf9)
    · cases q9
      refine se_if_eq (pc := 12) (tgt := 19) dR_list_12 (by decide) (fun q16 => ?_) (fun q16 => absurd q16 (by decide))
      refine se_iconst (pc := 19) 0 (by decide) dR_list_19 ?_
      refine se_iload_n (pc := 20) rfl dR_list_20 ?_
      refine se_sipush (pc := 21) (-9999) (by decide) dR_list_21 ?_
      refine se_sipush (pc := 24) 9999 (by decide) dR_list_24 ?_
      refine se_invS (pc := 27) (as := [.int a, .int (-9999), .int 9999]) (st := [.int 0, .ref 41]) (vok sc) kR_in dR_list_27 ⟨wd_652, wd_653, wd_3⟩ rfl (Nat.le_of_ble_eq_true rfl) (Nat.le_of_ble_eq_true rfl) (x_R_in) (C2 := 0) (S2 := 0) (by omega) (by omega) (fun v27 h27 _ q27 => ?_) (fun x hx => absurd hx List.not_mem_nil) (fun v27 h27 _ q27 => ?_)
      rotate_left
      · rcases q27.2 with ⟨_, e⟩ | ⟨_, e⟩ <;> cases e
      obtain ⟨h27e, q27⟩ := q27
      have h27f := h27e.symm
      subst h27f
      rcases q27 with ⟨hi27, q27⟩ | ⟨hi27, q27⟩
      · cases q27
        refine se_if_eq (pc := 30) (tgt := 71) dR_list_30 (by decide) (fun q17 => absurd q17 (by decide)) (fun q17 => ?_)
        refine se_iload (pc := 33) rfl dR_list_33 ?_
        refine se_iload_n (pc := 35) rfl dR_list_35 ?_
        refine se_sipush (pc := 36) 9999 (by decide) dR_list_36 ?_
        refine se_invS (pc := 39) (as := [.int b, .int a, .int 9999]) (st := [.int 0, .ref 41]) (vok sc) kR_in dR_list_39 ⟨wd_652, wd_653, wd_3⟩ rfl (Nat.le_of_ble_eq_true rfl) (Nat.le_of_ble_eq_true rfl) (x_R_in) (C2 := 0) (S2 := 0) (by omega) (by omega) (fun v39 h39 _ q39 => ?_) (fun x hx => absurd hx List.not_mem_nil) (fun v39 h39 _ q39 => ?_)
        rotate_left
        · rcases q39.2 with ⟨_, e⟩ | ⟨_, e⟩ <;> cases e
        obtain ⟨h39e, q39⟩ := q39
        have h39f := h39e.symm
        subst h39f
        rcases q39 with ⟨hi39, q39⟩ | ⟨hi39, q39⟩
        · cases q39
          refine se_if_eq (pc := 42) (tgt := 71) dR_list_42 (by decide) (fun q18 => absurd q18 (by decide)) (fun q18 => ?_)
          refine se_iload (pc := 45) rfl dR_list_45 ?_
          refine se_iconst (pc := 47) 1 (by decide) dR_list_47 ?_
          refine se_iconst (pc := 48) 3 (by decide) dR_list_48 ?_
          refine se_invS (pc := 49) (as := [.int g, .int 1, .int 3]) (st := [.int 0, .ref 41]) (vok sc) kR_in dR_list_49 ⟨wd_652, wd_653, wd_3⟩ rfl (Nat.le_of_ble_eq_true rfl) (Nat.le_of_ble_eq_true rfl) (x_R_in) (C2 := 0) (S2 := 0) (by omega) (by omega) (fun v49 h49 _ q49 => ?_) (fun x hx => absurd hx List.not_mem_nil) (fun v49 h49 _ q49 => ?_)
          rotate_left
          · rcases q49.2 with ⟨_, e⟩ | ⟨_, e⟩ <;> cases e
          obtain ⟨h49e, q49⟩ := q49
          have h49f := h49e.symm
          subst h49f
          rcases q49 with ⟨hi49, q49⟩ | ⟨hi49, q49⟩
          · cases q49
            refine se_if_eq (pc := 52) (tgt := 71) dR_list_52 (by decide) (fun q19 => absurd q19 (by decide)) (fun q19 => ?_)
            refine se_iload (pc := 55) rfl dR_list_55 ?_
            refine se_iconst (pc := 57) 0 (by decide) dR_list_57 ?_
            refine se_sipush (pc := 58) 5000 (by decide) dR_list_58 ?_
            refine se_invS (pc := 61) (as := [.int e, .int 0, .int 5000]) (st := [.int 0, .ref 41]) (vok sc) kR_in dR_list_61 ⟨wd_652, wd_653, wd_3⟩ rfl (Nat.le_of_ble_eq_true rfl) (Nat.le_of_ble_eq_true rfl) (x_R_in) (C2 := 0) (S2 := 0) (by omega) (by omega) (fun v61 h61 _ q61 => ?_) (fun x hx => absurd hx List.not_mem_nil) (fun v61 h61 _ q61 => ?_)
            rotate_left
            · rcases q61.2 with ⟨_, e⟩ | ⟨_, e⟩ <;> cases e
            obtain ⟨h61e, q61⟩ := q61
            have h61f := h61e.symm
            subst h61f
            rcases q61 with ⟨hi61, q61⟩ | ⟨hi61, q61⟩
            · cases q61
              refine se_if_eq (pc := 64) (tgt := 71) dR_list_64 (by decide) (fun q20 => absurd q20 (by decide)) (fun q20 => ?_)
              refine se_iconst (pc := 67) 1 (by decide) dR_list_67 ?_
              refine se_goto (pc := 68) (tgt := 72) dR_list_68 (by decide) ?_
              refine se_iconst (pc := 72) 1 (by decide) dR_list_72 ?_
              refine se_invV (pc := 73) (as := [.int 0, .int 1, .int 1]) (st := []) (vok sc) kR_goes dR_list_73 ⟨wd_655, wd_657, sl_10, wd_3⟩ rfl hO rfl (Nat.le_of_ble_eq_true rfl) (Nat.le_of_ble_eq_true rfl) (g_goes (r := 0) 1 hR (by decide) (by decide)) (C2 := 0) (S2 := 0) (by omega) (by omega) (fun v73 h73 _ q73 => ?_) (fun x hx => absurd hx List.not_mem_nil) (fun v73 h73 _ q73 => ?_)
              rotate_left
              · cases q73.2.2
              obtain ⟨hR9, hf9, q73⟩ := q73
              cases q73
              have hO9 := hR9.1
              rw [hI.1, hI.2.2.1] at hO9
              refine se_if_ne (pc := 76) (tgt := 80) dR_list_76 (by decide) (fun q21 => absurd q21 (by decide)) (fun q21 => ?_)
              exact se_vret (pc := 79) dR_list_79 rfl (rPv_ok 1 (by clear hR hO hR9 hO9 hf9; simp_all [sp_list]) hR9 hf9)
            · cases q61
              refine se_if_eq (pc := 64) (tgt := 71) dR_list_64 (by decide) (fun q22 => ?_) (fun q22 => absurd q22 (by decide))
              refine se_iconst (pc := 71) 0 (by decide) dR_list_71 ?_
              refine se_iconst (pc := 72) 1 (by decide) dR_list_72 ?_
              refine se_invV (pc := 73) (as := [.int 0, .int 0, .int 1]) (st := []) (vok sc) kR_goes dR_list_73 ⟨wd_655, wd_657, sl_10, wd_3⟩ rfl hO rfl (Nat.le_of_ble_eq_true rfl) (Nat.le_of_ble_eq_true rfl) (g_goes (r := 0) 1 hR (by decide) (by decide)) (C2 := 0) (S2 := 0) (by omega) (by omega) (fun v73 h73 _ q73 => ?_) (fun x hx => absurd hx List.not_mem_nil) (fun v73 h73 _ q73 => ?_)
              rotate_left
              · cases q73.2.2
              obtain ⟨hR9, hf9, q73⟩ := q73
              cases q73
              have hO9 := hR9.1
              rw [hI.1, hI.2.2.1] at hO9
              refine se_if_ne (pc := 76) (tgt := 80) dR_list_76 (by decide) (fun q23 => absurd q23 (by decide)) (fun q23 => ?_)
              exact se_vret (pc := 79) dR_list_79 rfl (rPv_ok 1 (by clear hR hO hR9 hO9 hf9; simp_all [sp_list]) hR9 hf9)
          · cases q49
            refine se_if_eq (pc := 52) (tgt := 71) dR_list_52 (by decide) (fun q24 => ?_) (fun q24 => absurd q24 (by decide))
            refine se_iconst (pc := 71) 0 (by decide) dR_list_71 ?_
            refine se_iconst (pc := 72) 1 (by decide) dR_list_72 ?_
            refine se_invV (pc := 73) (as := [.int 0, .int 0, .int 1]) (st := []) (vok sc) kR_goes dR_list_73 ⟨wd_655, wd_657, sl_10, wd_3⟩ rfl hO rfl (Nat.le_of_ble_eq_true rfl) (Nat.le_of_ble_eq_true rfl) (g_goes (r := 0) 1 hR (by decide) (by decide)) (C2 := 0) (S2 := 0) (by omega) (by omega) (fun v73 h73 _ q73 => ?_) (fun x hx => absurd hx List.not_mem_nil) (fun v73 h73 _ q73 => ?_)
            rotate_left
            · cases q73.2.2
            obtain ⟨hR9, hf9, q73⟩ := q73
            cases q73
            have hO9 := hR9.1
            rw [hI.1, hI.2.2.1] at hO9
            refine se_if_ne (pc := 76) (tgt := 80) dR_list_76 (by decide) (fun q25 => absurd q25 (by decide)) (fun q25 => ?_)
            exact se_vret (pc := 79) dR_list_79 rfl (rPv_ok 1 (by clear hR hO hR9 hO9 hf9; simp_all [sp_list]) hR9 hf9)
        · cases q39
          refine se_if_eq (pc := 42) (tgt := 71) dR_list_42 (by decide) (fun q26 => ?_) (fun q26 => absurd q26 (by decide))
          refine se_iconst (pc := 71) 0 (by decide) dR_list_71 ?_
          refine se_iconst (pc := 72) 1 (by decide) dR_list_72 ?_
          refine se_invV (pc := 73) (as := [.int 0, .int 0, .int 1]) (st := []) (vok sc) kR_goes dR_list_73 ⟨wd_655, wd_657, sl_10, wd_3⟩ rfl hO rfl (Nat.le_of_ble_eq_true rfl) (Nat.le_of_ble_eq_true rfl) (g_goes (r := 0) 1 hR (by decide) (by decide)) (C2 := 0) (S2 := 0) (by omega) (by omega) (fun v73 h73 _ q73 => ?_) (fun x hx => absurd hx List.not_mem_nil) (fun v73 h73 _ q73 => ?_)
          rotate_left
          · cases q73.2.2
          obtain ⟨hR9, hf9, q73⟩ := q73
          cases q73
          have hO9 := hR9.1
          rw [hI.1, hI.2.2.1] at hO9
          refine se_if_ne (pc := 76) (tgt := 80) dR_list_76 (by decide) (fun q27 => absurd q27 (by decide)) (fun q27 => ?_)
          exact se_vret (pc := 79) dR_list_79 rfl (rPv_ok 1 (by clear hR hO hR9 hO9 hf9; simp_all [sp_list]) hR9 hf9)
      · cases q27
        refine se_if_eq (pc := 30) (tgt := 71) dR_list_30 (by decide) (fun q28 => ?_) (fun q28 => absurd q28 (by decide))
        refine se_iconst (pc := 71) 0 (by decide) dR_list_71 ?_
        refine se_iconst (pc := 72) 1 (by decide) dR_list_72 ?_
        refine se_invV (pc := 73) (as := [.int 0, .int 0, .int 1]) (st := []) (vok sc) kR_goes dR_list_73 ⟨wd_655, wd_657, sl_10, wd_3⟩ rfl hO rfl (Nat.le_of_ble_eq_true rfl) (Nat.le_of_ble_eq_true rfl) (g_goes (r := 0) 1 hR (by decide) (by decide)) (C2 := 0) (S2 := 0) (by omega) (by omega) (fun v73 h73 _ q73 => ?_) (fun x hx => absurd hx List.not_mem_nil) (fun v73 h73 _ q73 => ?_)
        rotate_left
        · cases q73.2.2
        obtain ⟨hR9, hf9, q73⟩ := q73
        cases q73
        have hO9 := hR9.1
        rw [hI.1, hI.2.2.1] at hO9
        refine se_if_ne (pc := 76) (tgt := 80) dR_list_76 (by decide) (fun q29 => absurd q29 (by decide)) (fun q29 => ?_)
        exact se_vret (pc := 79) dR_list_79 rfl (rPv_ok 1 (by clear hR hO hR9 hO9 hf9; simp_all [sp_list]) hR9 hf9)
  · cases q2
    refine se_if_eq (pc := 5) (tgt := 19) dR_list_5 (by decide) (fun q30 => ?_) (fun q30 => absurd q30 (by decide))
    refine se_iconst (pc := 19) 0 (by decide) dR_list_19 ?_
    refine se_iload_n (pc := 20) rfl dR_list_20 ?_
    refine se_sipush (pc := 21) (-9999) (by decide) dR_list_21 ?_
    refine se_sipush (pc := 24) 9999 (by decide) dR_list_24 ?_
    refine se_invS (pc := 27) (as := [.int a, .int (-9999), .int 9999]) (st := [.int 0, .ref 41]) (vok sc) kR_in dR_list_27 ⟨wd_652, wd_653, wd_3⟩ rfl (Nat.le_of_ble_eq_true rfl) (Nat.le_of_ble_eq_true rfl) (x_R_in) (C2 := 0) (S2 := 0) (by omega) (by omega) (fun v27 h27 _ q27 => ?_) (fun x hx => absurd hx List.not_mem_nil) (fun v27 h27 _ q27 => ?_)
    rotate_left
    · rcases q27.2 with ⟨_, e⟩ | ⟨_, e⟩ <;> cases e
    obtain ⟨h27e, q27⟩ := q27
    have h27f := h27e.symm
    subst h27f
    rcases q27 with ⟨hi27, q27⟩ | ⟨hi27, q27⟩
    · cases q27
      refine se_if_eq (pc := 30) (tgt := 71) dR_list_30 (by decide) (fun q31 => absurd q31 (by decide)) (fun q31 => ?_)
      refine se_iload (pc := 33) rfl dR_list_33 ?_
      refine se_iload_n (pc := 35) rfl dR_list_35 ?_
      refine se_sipush (pc := 36) 9999 (by decide) dR_list_36 ?_
      refine se_invS (pc := 39) (as := [.int b, .int a, .int 9999]) (st := [.int 0, .ref 41]) (vok sc) kR_in dR_list_39 ⟨wd_652, wd_653, wd_3⟩ rfl (Nat.le_of_ble_eq_true rfl) (Nat.le_of_ble_eq_true rfl) (x_R_in) (C2 := 0) (S2 := 0) (by omega) (by omega) (fun v39 h39 _ q39 => ?_) (fun x hx => absurd hx List.not_mem_nil) (fun v39 h39 _ q39 => ?_)
      rotate_left
      · rcases q39.2 with ⟨_, e⟩ | ⟨_, e⟩ <;> cases e
      obtain ⟨h39e, q39⟩ := q39
      have h39f := h39e.symm
      subst h39f
      rcases q39 with ⟨hi39, q39⟩ | ⟨hi39, q39⟩
      · cases q39
        refine se_if_eq (pc := 42) (tgt := 71) dR_list_42 (by decide) (fun q32 => absurd q32 (by decide)) (fun q32 => ?_)
        refine se_iload (pc := 45) rfl dR_list_45 ?_
        refine se_iconst (pc := 47) 1 (by decide) dR_list_47 ?_
        refine se_iconst (pc := 48) 3 (by decide) dR_list_48 ?_
        refine se_invS (pc := 49) (as := [.int g, .int 1, .int 3]) (st := [.int 0, .ref 41]) (vok sc) kR_in dR_list_49 ⟨wd_652, wd_653, wd_3⟩ rfl (Nat.le_of_ble_eq_true rfl) (Nat.le_of_ble_eq_true rfl) (x_R_in) (C2 := 0) (S2 := 0) (by omega) (by omega) (fun v49 h49 _ q49 => ?_) (fun x hx => absurd hx List.not_mem_nil) (fun v49 h49 _ q49 => ?_)
        rotate_left
        · rcases q49.2 with ⟨_, e⟩ | ⟨_, e⟩ <;> cases e
        obtain ⟨h49e, q49⟩ := q49
        have h49f := h49e.symm
        subst h49f
        rcases q49 with ⟨hi49, q49⟩ | ⟨hi49, q49⟩
        · cases q49
          refine se_if_eq (pc := 52) (tgt := 71) dR_list_52 (by decide) (fun q33 => absurd q33 (by decide)) (fun q33 => ?_)
          refine se_iload (pc := 55) rfl dR_list_55 ?_
          refine se_iconst (pc := 57) 0 (by decide) dR_list_57 ?_
          refine se_sipush (pc := 58) 5000 (by decide) dR_list_58 ?_
          refine se_invS (pc := 61) (as := [.int e, .int 0, .int 5000]) (st := [.int 0, .ref 41]) (vok sc) kR_in dR_list_61 ⟨wd_652, wd_653, wd_3⟩ rfl (Nat.le_of_ble_eq_true rfl) (Nat.le_of_ble_eq_true rfl) (x_R_in) (C2 := 0) (S2 := 0) (by omega) (by omega) (fun v61 h61 _ q61 => ?_) (fun x hx => absurd hx List.not_mem_nil) (fun v61 h61 _ q61 => ?_)
          rotate_left
          · rcases q61.2 with ⟨_, e⟩ | ⟨_, e⟩ <;> cases e
          obtain ⟨h61e, q61⟩ := q61
          have h61f := h61e.symm
          subst h61f
          rcases q61 with ⟨hi61, q61⟩ | ⟨hi61, q61⟩
          · cases q61
            refine se_if_eq (pc := 64) (tgt := 71) dR_list_64 (by decide) (fun q34 => absurd q34 (by decide)) (fun q34 => ?_)
            refine se_iconst (pc := 67) 1 (by decide) dR_list_67 ?_
            refine se_goto (pc := 68) (tgt := 72) dR_list_68 (by decide) ?_
            refine se_iconst (pc := 72) 1 (by decide) dR_list_72 ?_
            refine se_invV (pc := 73) (as := [.int 0, .int 1, .int 1]) (st := []) (vok sc) kR_goes dR_list_73 ⟨wd_655, wd_657, sl_10, wd_3⟩ rfl hO rfl (Nat.le_of_ble_eq_true rfl) (Nat.le_of_ble_eq_true rfl) (g_goes (r := 0) 1 hR (by decide) (by decide)) (C2 := 0) (S2 := 0) (by omega) (by omega) (fun v73 h73 _ q73 => ?_) (fun x hx => absurd hx List.not_mem_nil) (fun v73 h73 _ q73 => ?_)
            rotate_left
            · cases q73.2.2
            obtain ⟨hR9, hf9, q73⟩ := q73
            cases q73
            have hO9 := hR9.1
            rw [hI.1, hI.2.2.1] at hO9
            refine se_if_ne (pc := 76) (tgt := 80) dR_list_76 (by decide) (fun q35 => absurd q35 (by decide)) (fun q35 => ?_)
            exact se_vret (pc := 79) dR_list_79 rfl (rPv_ok 1 (by clear hR hO hR9 hO9 hf9; simp_all [sp_list]) hR9 hf9)
          · cases q61
            refine se_if_eq (pc := 64) (tgt := 71) dR_list_64 (by decide) (fun q36 => ?_) (fun q36 => absurd q36 (by decide))
            refine se_iconst (pc := 71) 0 (by decide) dR_list_71 ?_
            refine se_iconst (pc := 72) 1 (by decide) dR_list_72 ?_
            refine se_invV (pc := 73) (as := [.int 0, .int 0, .int 1]) (st := []) (vok sc) kR_goes dR_list_73 ⟨wd_655, wd_657, sl_10, wd_3⟩ rfl hO rfl (Nat.le_of_ble_eq_true rfl) (Nat.le_of_ble_eq_true rfl) (g_goes (r := 0) 1 hR (by decide) (by decide)) (C2 := 0) (S2 := 0) (by omega) (by omega) (fun v73 h73 _ q73 => ?_) (fun x hx => absurd hx List.not_mem_nil) (fun v73 h73 _ q73 => ?_)
            rotate_left
            · cases q73.2.2
            obtain ⟨hR9, hf9, q73⟩ := q73
            cases q73
            have hO9 := hR9.1
            rw [hI.1, hI.2.2.1] at hO9
            refine se_if_ne (pc := 76) (tgt := 80) dR_list_76 (by decide) (fun q37 => absurd q37 (by decide)) (fun q37 => ?_)
            exact se_vret (pc := 79) dR_list_79 rfl (rPv_ok 1 (by clear hR hO hR9 hO9 hf9; simp_all [sp_list]) hR9 hf9)
        · cases q49
          refine se_if_eq (pc := 52) (tgt := 71) dR_list_52 (by decide) (fun q38 => ?_) (fun q38 => absurd q38 (by decide))
          refine se_iconst (pc := 71) 0 (by decide) dR_list_71 ?_
          refine se_iconst (pc := 72) 1 (by decide) dR_list_72 ?_
          refine se_invV (pc := 73) (as := [.int 0, .int 0, .int 1]) (st := []) (vok sc) kR_goes dR_list_73 ⟨wd_655, wd_657, sl_10, wd_3⟩ rfl hO rfl (Nat.le_of_ble_eq_true rfl) (Nat.le_of_ble_eq_true rfl) (g_goes (r := 0) 1 hR (by decide) (by decide)) (C2 := 0) (S2 := 0) (by omega) (by omega) (fun v73 h73 _ q73 => ?_) (fun x hx => absurd hx List.not_mem_nil) (fun v73 h73 _ q73 => ?_)
          rotate_left
          · cases q73.2.2
          obtain ⟨hR9, hf9, q73⟩ := q73
          cases q73
          have hO9 := hR9.1
          rw [hI.1, hI.2.2.1] at hO9
          refine se_if_ne (pc := 76) (tgt := 80) dR_list_76 (by decide) (fun q39 => absurd q39 (by decide)) (fun q39 => ?_)
          exact se_vret (pc := 79) dR_list_79 rfl (rPv_ok 1 (by clear hR hO hR9 hO9 hf9; simp_all [sp_list]) hR9 hf9)
      · cases q39
        refine se_if_eq (pc := 42) (tgt := 71) dR_list_42 (by decide) (fun q40 => ?_) (fun q40 => absurd q40 (by decide))
        refine se_iconst (pc := 71) 0 (by decide) dR_list_71 ?_
        refine se_iconst (pc := 72) 1 (by decide) dR_list_72 ?_
        refine se_invV (pc := 73) (as := [.int 0, .int 0, .int 1]) (st := []) (vok sc) kR_goes dR_list_73 ⟨wd_655, wd_657, sl_10, wd_3⟩ rfl hO rfl (Nat.le_of_ble_eq_true rfl) (Nat.le_of_ble_eq_true rfl) (g_goes (r := 0) 1 hR (by decide) (by decide)) (C2 := 0) (S2 := 0) (by omega) (by omega) (fun v73 h73 _ q73 => ?_) (fun x hx => absurd hx List.not_mem_nil) (fun v73 h73 _ q73 => ?_)
        rotate_left
        · cases q73.2.2
        obtain ⟨hR9, hf9, q73⟩ := q73
        cases q73
        have hO9 := hR9.1
        rw [hI.1, hI.2.2.1] at hO9
        refine se_if_ne (pc := 76) (tgt := 80) dR_list_76 (by decide) (fun q41 => absurd q41 (by decide)) (fun q41 => ?_)
        exact se_vret (pc := 79) dR_list_79 rfl (rPv_ok 1 (by clear hR hO hR9 hO9 hf9; simp_all [sp_list]) hR9 hf9)
    · cases q27
      refine se_if_eq (pc := 30) (tgt := 71) dR_list_30 (by decide) (fun q42 => ?_) (fun q42 => absurd q42 (by decide))
      refine se_iconst (pc := 71) 0 (by decide) dR_list_71 ?_
      refine se_iconst (pc := 72) 1 (by decide) dR_list_72 ?_
      refine se_invV (pc := 73) (as := [.int 0, .int 0, .int 1]) (st := []) (vok sc) kR_goes dR_list_73 ⟨wd_655, wd_657, sl_10, wd_3⟩ rfl hO rfl (Nat.le_of_ble_eq_true rfl) (Nat.le_of_ble_eq_true rfl) (g_goes (r := 0) 1 hR (by decide) (by decide)) (C2 := 0) (S2 := 0) (by omega) (by omega) (fun v73 h73 _ q73 => ?_) (fun x hx => absurd hx List.not_mem_nil) (fun v73 h73 _ q73 => ?_)
      rotate_left
      · cases q73.2.2
      obtain ⟨hR9, hf9, q73⟩ := q73
      cases q73
      have hO9 := hR9.1
      rw [hI.1, hI.2.2.1] at hO9
      refine se_if_ne (pc := 76) (tgt := 80) dR_list_76 (by decide) (fun q43 => absurd q43 (by decide)) (fun q43 => ?_)
      exact se_vret (pc := 79) dR_list_79 rfl (rPv_ok 1 (by clear hR hO hR9 hO9 hf9; simp_all [sp_list]) hR9 hf9)
set_option maxHeartbeats 1000000 in
set_option maxRecDepth 100000 in
theorem r_unlist {k i : Int32} (hd : 3 ≤ d) (hR : is_R S t h) (hI : st_I S) (hQ : st_Q N S) (hN : N < 2 ^ 31) : se_W (vG sc) l d mR_unlist 0 (se_ent 4 [.ref 41, .int k, .int i]) [] h 0 0 (rPv h (sp_unlist S k i)) := by
  obtain ⟨d, rfl⟩ : ∃ e, d = e + 1 := ⟨d - 1, by omega⟩
  show se_W (vG sc) l (d + 1) mR_unlist 0 [some (.ref 41), some (.int k), some (.int i), none] [] h 0 0 _
  have hn20 := hI.2.1
  have hO := hR.1
  rw [hI.1, hI.2.2.1] at hO
  refine se_iload_n (pc := 0) rfl dR_unlist_0 ?_
  refine se_invS (pc := 1) (as := [.int k]) (st := []) (vok sc) kR_isKind dR_unlist_1 ⟨wd_649, wd_650, wd_3⟩ rfl (Nat.le_of_ble_eq_true rfl) (Nat.le_of_ble_eq_true rfl) (x_R_isKind (by omega)) (C2 := 0) (S2 := 0) (by omega) (by omega) (fun v1 h1 _ q1 => ?_) (fun x hx => absurd hx List.not_mem_nil) (fun v1 h1 _ q1 => ?_)
  rotate_left
  · rcases q1.2 with ⟨_, _, _, _, e⟩ | ⟨_, e⟩ <;> cases e
  obtain ⟨h1e, q1⟩ := q1
  have h1f := h1e.symm
  subst h1f
  rcases q1 with ⟨jk, hxk, hjk, rfl, q1⟩ | ⟨hxk, q1⟩
  · cases q1
    refine se_if_eq (pc := 4) (tgt := 18) dR_unlist_4 (by decide) (fun q1 => absurd q1 (by decide)) (fun q1 => ?_)
    refine se_iload_n (pc := 7) rfl dR_unlist_7 ?_
    refine se_invS (pc := 8) (as := [.int i]) (st := []) (vok sc) kR_isItem dR_unlist_8 ⟨wd_663, wd_664, wd_3⟩ rfl (Nat.le_of_ble_eq_true rfl) (Nat.le_of_ble_eq_true rfl) (x_R_isItem (by omega)) (C2 := 0) (S2 := 0) (by omega) (by omega) (fun v8 h8 _ q8 => ?_) (fun x hx => absurd hx List.not_mem_nil) (fun v8 h8 _ q8 => ?_)
    rotate_left
    · rcases q8.2 with ⟨_, _, _, _, e⟩ | ⟨_, e⟩ <;> cases e
    obtain ⟨h8e, q8⟩ := q8
    have h8f := h8e.symm
    subst h8f
    rcases q8 with ⟨ji, hxi, hji, rfl, q8⟩ | ⟨hxi, q8⟩
    · cases q8
      refine se_if_eq (pc := 11) (tgt := 18) dR_unlist_11 (by decide) (fun q2 => absurd q2 (by decide)) (fun q2 => ?_)
      refine se_iconst (pc := 14) 1 (by decide) dR_unlist_14 ?_
      refine se_goto (pc := 15) (tgt := 19) dR_unlist_15 (by decide) ?_
      refine se_istore_n (pc := 19) dR_unlist_19 (by decide) [some (.ref 41), some (.int (nI jk)), some (.int (nI ji)), some (.int 1)] rfl ?_
      refine se_aload_n (pc := 20) rfl dR_unlist_20 ?_
      refine se_iload_n (pc := 21) rfl dR_unlist_21 ?_
      refine se_iload_n (pc := 22) rfl dR_unlist_22 ?_
      refine se_if_eq (pc := 23) (tgt := 44) dR_unlist_23 (by decide) (fun q3 => absurd q3 (by decide)) (fun q3 => ?_)
      refine se_aload_n (pc := 26) rfl dR_unlist_26 ?_
      refine se_getf (pc := 27) clR 2 dR_unlist_27 wd_555 rfl (by decide) hO rfl ?_
      refine se_bipush (pc := 30) 10 (by decide) dR_unlist_30 ?_
      refine se_iload_n (pc := 32) rfl dR_unlist_32 ?_
      refine se_imul (pc := 33) dR_unlist_33 ?_
      refine se_iload_n (pc := 34) rfl dR_unlist_34 ?_
      refine se_iadd (pc := 35) dR_unlist_35 ?_
      rw [nx10]
      refine se_zaldN (pc := 36) 1 dR_unlist_36 rfl hR.2.1 (by omega) (by decide) ?_
      rw [rf_l_at (by omega)]
      refine se_if_eq (pc := 37) (tgt := 44) dR_unlist_37 (by decide) (fun q4 => ?_) (fun q4 => ?_)
      · refine se_iconst (pc := 44) 0 (by decide) dR_unlist_44 ?_
        refine se_iconst (pc := 45) 1 (by decide) dR_unlist_45 ?_
        refine se_invV (pc := 46) (as := [.int 1, .int 0, .int 1]) (st := []) (vok sc) kR_goes dR_unlist_46 ⟨wd_655, wd_657, sl_10, wd_3⟩ rfl hO rfl (Nat.le_of_ble_eq_true rfl) (Nat.le_of_ble_eq_true rfl) (g_goes (r := 0) 2 hR (by decide) (by decide)) (C2 := 0) (S2 := 0) (by omega) (by omega) (fun v46 h46 _ q46 => ?_) (fun x hx => absurd hx List.not_mem_nil) (fun v46 h46 _ q46 => ?_)
        rotate_left
        · cases q46.2.2
        obtain ⟨hR9, hf9, q46⟩ := q46
        cases q46
        have hO9 := hR9.1
        rw [hI.1, hI.2.2.1] at hO9
        refine se_if_eq (pc := 49) (tgt := 64) dR_unlist_49 (by decide) (fun q5 => ?_) (fun q5 => absurd q5 (by decide))
        exact se_vret (pc := 64) dR_unlist_64 rfl (rPv_ok 2 (by clear hR hO hR9 hO9 hf9; simp_all [sp_unlist]) hR9 hf9)
      · refine se_iconst (pc := 40) 1 (by decide) dR_unlist_40 ?_
        refine se_goto (pc := 41) (tgt := 45) dR_unlist_41 (by decide) ?_
        refine se_iconst (pc := 45) 1 (by decide) dR_unlist_45 ?_
        refine se_invV (pc := 46) (as := [.int 1, .int 1, .int 1]) (st := []) (vok sc) kR_goes dR_unlist_46 ⟨wd_655, wd_657, sl_10, wd_3⟩ rfl hO rfl (Nat.le_of_ble_eq_true rfl) (Nat.le_of_ble_eq_true rfl) (g_goes (r := 1) 0 hR (by decide) (by decide)) (C2 := 0) (S2 := 0) (by omega) (by omega) (fun v46 h46 _ q46 => ?_) (fun x hx => absurd hx List.not_mem_nil) (fun v46 h46 _ q46 => ?_)
        rotate_left
        · cases q46.2.2
        obtain ⟨hR9, hf9, q46⟩ := q46
        cases q46
        have hO9 := hR9.1
        rw [hI.1, hI.2.2.1] at hO9
        refine se_if_eq (pc := 49) (tgt := 64) dR_unlist_49 (by decide) (fun q6 => absurd q6 (by decide)) (fun q6 => ?_)
        refine se_aload_n (pc := 52) rfl dR_unlist_52 ?_
        refine se_getf (pc := 53) clR 2 dR_unlist_53 wd_555 rfl (by decide) hO9 rfl ?_
        refine se_bipush (pc := 56) 10 (by decide) dR_unlist_56 ?_
        refine se_iload_n (pc := 58) rfl dR_unlist_58 ?_
        refine se_imul (pc := 59) dR_unlist_59 ?_
        refine se_iload_n (pc := 60) rfl dR_unlist_60 ?_
        refine se_iadd (pc := 61) dR_unlist_61 ?_
        rw [nx10]
        refine se_iconst (pc := 62) 0 (by decide) dR_unlist_62 ?_
        refine se_zastN (pc := 63) 1 dR_unlist_63 rfl hR9.2.1 (by omega) (by decide) (by first | decide | assumption) ?_
        exact se_vret (pc := 64) dR_unlist_64 rfl (rPv_ok 0 (S' := st_up S 0 jk ji 0) (by clear hR hO hR9 hO9 hf9; simp_all [sp_unlist]) ⟨rf_O (st_ne hO9 (by omega)) (by simp (decide := true) only [up_ne, up_v, ← hI.1, ← hI.2.2.1]) (by simp (decide := true) only [up_ne, up_v, ← hI.1, ← hI.2.2.1]) (by simp (decide := true) only [up_ne, up_v, ← hI.1, ← hI.2.2.1]), rf_R (st_eq hR9.2.1) (by simp (decide := true) only [rf_l_ne, rf_v_ne, rf_an_ne, rf_at_ne, rf_by_ne, rf_ky_ne, up_ne, up_eq, up_v, rf_l_up hji]), rf_R (st_ne hR9.2.2.1 (by omega)) (by simp (decide := true) only [rf_l_ne, rf_v_ne, rf_an_ne, rf_at_ne, rf_by_ne, rf_ky_ne, up_ne, up_eq, up_v, rf_l_up hji]), rf_R (st_ne hR9.2.2.2.1 (by omega)) (by simp (decide := true) only [rf_l_ne, rf_v_ne, rf_an_ne, rf_at_ne, rf_by_ne, rf_ky_ne, up_ne, up_eq, up_v, rf_l_up hji]), rf_R (st_ne hR9.2.2.2.2.1 (by omega)) (by simp (decide := true) only [rf_l_ne, rf_v_ne, rf_an_ne, rf_at_ne, rf_by_ne, rf_ky_ne, up_ne, up_eq, up_v, rf_l_up hji]), rf_R (st_ne hR9.2.2.2.2.2.1 (by omega)) (by simp (decide := true) only [rf_l_ne, rf_v_ne, rf_an_ne, rf_at_ne, rf_by_ne, rf_ky_ne, up_ne, up_eq, up_v, rf_l_up hji]), rf_R (st_ne hR9.2.2.2.2.2.2.1 (by omega)) (by simp (decide := true) only [rf_l_ne, rf_v_ne, rf_an_ne, rf_at_ne, rf_by_ne, rf_ky_ne, up_ne, up_eq, up_v, rf_l_up hji]), rf_R (st_ne hR9.2.2.2.2.2.2.2.1 (by omega)) (by simp (decide := true) only [rf_l_ne, rf_v_ne, rf_an_ne, rf_at_ne, rf_by_ne, rf_ky_ne, up_ne, up_eq, up_v, rf_l_up hji]), rf_R (st_ne hR9.2.2.2.2.2.2.2.2.1 (by omega)) (by simp (decide := true) only [rf_l_ne, rf_v_ne, rf_an_ne, rf_at_ne, rf_by_ne, rf_ky_ne, up_ne, up_eq, up_v, rf_l_up hji]), rf_R (st_ne hR9.2.2.2.2.2.2.2.2.2.1 (by omega)) (by simp (decide := true) only [rf_l_ne, rf_v_ne, rf_an_ne, rf_at_ne, rf_by_ne, rf_ky_ne, up_ne, up_eq, up_v, rf_l_up hji]), rf_R (st_ne hR9.2.2.2.2.2.2.2.2.2.2.1 (by omega)) (by simp (decide := true) only [rf_l_ne, rf_v_ne, rf_an_ne, rf_at_ne, rf_by_ne, rf_ky_ne, up_ne, up_eq, up_v, rf_l_up hji]), rf_R (st_ne hR9.2.2.2.2.2.2.2.2.2.2.2.1 (by omega)) (by simp (decide := true) only [rf_l_ne, rf_v_ne, rf_an_ne, rf_at_ne, rf_by_ne, rf_ky_ne, up_ne, up_eq, up_v, rf_l_up hji]), rf_R (st_ne hR9.2.2.2.2.2.2.2.2.2.2.2.2.1 (by omega)) (by simp (decide := true) only [rf_l_ne, rf_v_ne, rf_an_ne, rf_at_ne, rf_by_ne, rf_ky_ne, up_ne, up_eq, up_v, rf_l_up hji]), rf_R (st_ne hR9.2.2.2.2.2.2.2.2.2.2.2.2.2.1 (by omega)) (by simp (decide := true) only [rf_l_ne, rf_v_ne, rf_an_ne, rf_at_ne, rf_by_ne, rf_ky_ne, up_ne, up_eq, up_v, rf_l_up hji]), rf_R (st_ne hR9.2.2.2.2.2.2.2.2.2.2.2.2.2.2.1 (by omega)) (by simp (decide := true) only [rf_l_ne, rf_v_ne, rf_an_ne, rf_at_ne, rf_by_ne, rf_ky_ne, up_ne, up_eq, up_v, rf_l_up hji]), rf_R (st_ne hR9.2.2.2.2.2.2.2.2.2.2.2.2.2.2.2.1 (by omega)) (by simp (decide := true) only [rf_l_ne, rf_v_ne, rf_an_ne, rf_at_ne, rf_by_ne, rf_ky_ne, up_ne, up_eq, up_v, rf_l_up hji]), rf_R (st_ne hR9.2.2.2.2.2.2.2.2.2.2.2.2.2.2.2.2.1 (by omega)) (by simp (decide := true) only [rf_l_ne, rf_v_ne, rf_an_ne, rf_at_ne, rf_by_ne, rf_ky_ne, up_ne, up_eq, up_v, rf_l_up hji]), rf_R (st_ne hR9.2.2.2.2.2.2.2.2.2.2.2.2.2.2.2.2.2.1 (by omega)) (by simp (decide := true) only [rf_l_ne, rf_v_ne, rf_an_ne, rf_at_ne, rf_by_ne, rf_ky_ne, up_ne, up_eq, up_v, rf_l_up hji]), rf_R (st_ne hR9.2.2.2.2.2.2.2.2.2.2.2.2.2.2.2.2.2.2.1 (by omega)) (by simp (decide := true) only [rf_l_ne, rf_v_ne, rf_an_ne, rf_at_ne, rf_by_ne, rf_ky_ne, up_ne, up_eq, up_v, rf_l_up hji]), rf_R (st_ne hR9.2.2.2.2.2.2.2.2.2.2.2.2.2.2.2.2.2.2.2.1 (by omega)) (by simp (decide := true) only [rf_l_ne, rf_v_ne, rf_an_ne, rf_at_ne, rf_by_ne, rf_ky_ne, up_ne, up_eq, up_v, rf_l_up hji]), rf_R (st_ne hR9.2.2.2.2.2.2.2.2.2.2.2.2.2.2.2.2.2.2.2.2.1 (by omega)) (by simp (decide := true) only [rf_l_ne, rf_v_ne, rf_an_ne, rf_at_ne, rf_by_ne, rf_ky_ne, up_ne, up_eq, up_v, rf_l_up hji]), rf_R (st_ne hR9.2.2.2.2.2.2.2.2.2.2.2.2.2.2.2.2.2.2.2.2.2.1 (by omega)) (by simp (decide := true) only [rf_l_ne, rf_v_ne, rf_an_ne, rf_at_ne, rf_by_ne, rf_ky_ne, up_ne, up_eq, up_v, rf_l_up hji]), rf_R (st_ne hR9.2.2.2.2.2.2.2.2.2.2.2.2.2.2.2.2.2.2.2.2.2.2.1 (by omega)) (by simp (decide := true) only [rf_l_ne, rf_v_ne, rf_an_ne, rf_at_ne, rf_by_ne, rf_ky_ne, up_ne, up_eq, up_v, rf_l_up hji]), rf_R (st_ne hR9.2.2.2.2.2.2.2.2.2.2.2.2.2.2.2.2.2.2.2.2.2.2.2.1 (by omega)) (by simp (decide := true) only [rf_l_ne, rf_v_ne, rf_an_ne, rf_at_ne, rf_by_ne, rf_ky_ne, up_ne, up_eq, up_v, rf_l_up hji]), rf_R (st_ne hR9.2.2.2.2.2.2.2.2.2.2.2.2.2.2.2.2.2.2.2.2.2.2.2.2.1 (by omega)) (by simp (decide := true) only [rf_l_ne, rf_v_ne, rf_an_ne, rf_at_ne, rf_by_ne, rf_ky_ne, up_ne, up_eq, up_v, rf_l_up hji]), rf_R (st_ne hR9.2.2.2.2.2.2.2.2.2.2.2.2.2.2.2.2.2.2.2.2.2.2.2.2.2 (by omega)) (by simp (decide := true) only [rf_l_ne, rf_v_ne, rf_an_ne, rf_at_ne, rf_by_ne, rf_ky_ne, up_ne, up_eq, up_v, rf_l_up hji])⟩ (fR_tr hf9 (fR_set (by decide) (by decide))))
    · cases q8
      refine se_if_eq (pc := 11) (tgt := 18) dR_unlist_11 (by decide) (fun q7 => ?_) (fun q7 => absurd q7 (by decide))
      refine se_iconst (pc := 18) 0 (by decide) dR_unlist_18 ?_
      refine se_istore_n (pc := 19) dR_unlist_19 (by decide) [some (.ref 41), some (.int (nI jk)), some (.int i), some (.int 0)] rfl ?_
      refine se_aload_n (pc := 20) rfl dR_unlist_20 ?_
      refine se_iload_n (pc := 21) rfl dR_unlist_21 ?_
      refine se_iload_n (pc := 22) rfl dR_unlist_22 ?_
      refine se_if_eq (pc := 23) (tgt := 44) dR_unlist_23 (by decide) (fun q8 => ?_) (fun q8 => absurd q8 (by decide))
      refine se_iconst (pc := 44) 0 (by decide) dR_unlist_44 ?_
      refine se_iconst (pc := 45) 1 (by decide) dR_unlist_45 ?_
      refine se_invV (pc := 46) (as := [.int 0, .int 0, .int 1]) (st := []) (vok sc) kR_goes dR_unlist_46 ⟨wd_655, wd_657, sl_10, wd_3⟩ rfl hO rfl (Nat.le_of_ble_eq_true rfl) (Nat.le_of_ble_eq_true rfl) (g_goes (r := 0) 1 hR (by decide) (by decide)) (C2 := 0) (S2 := 0) (by omega) (by omega) (fun v46 h46 _ q46 => ?_) (fun x hx => absurd hx List.not_mem_nil) (fun v46 h46 _ q46 => ?_)
      rotate_left
      · cases q46.2.2
      obtain ⟨hR9, hf9, q46⟩ := q46
      cases q46
      have hO9 := hR9.1
      rw [hI.1, hI.2.2.1] at hO9
      refine se_if_eq (pc := 49) (tgt := 64) dR_unlist_49 (by decide) (fun q9 => ?_) (fun q9 => absurd q9 (by decide))
      exact se_vret (pc := 64) dR_unlist_64 rfl (rPv_ok 1 (by clear hR hO hR9 hO9 hf9; simp_all [sp_unlist]) hR9 hf9)
  · cases q1
    refine se_if_eq (pc := 4) (tgt := 18) dR_unlist_4 (by decide) (fun q10 => ?_) (fun q10 => absurd q10 (by decide))
    refine se_iconst (pc := 18) 0 (by decide) dR_unlist_18 ?_
    refine se_istore_n (pc := 19) dR_unlist_19 (by decide) [some (.ref 41), some (.int k), some (.int i), some (.int 0)] rfl ?_
    refine se_aload_n (pc := 20) rfl dR_unlist_20 ?_
    refine se_iload_n (pc := 21) rfl dR_unlist_21 ?_
    refine se_iload_n (pc := 22) rfl dR_unlist_22 ?_
    refine se_if_eq (pc := 23) (tgt := 44) dR_unlist_23 (by decide) (fun q11 => ?_) (fun q11 => absurd q11 (by decide))
    refine se_iconst (pc := 44) 0 (by decide) dR_unlist_44 ?_
    refine se_iconst (pc := 45) 1 (by decide) dR_unlist_45 ?_
    refine se_invV (pc := 46) (as := [.int 0, .int 0, .int 1]) (st := []) (vok sc) kR_goes dR_unlist_46 ⟨wd_655, wd_657, sl_10, wd_3⟩ rfl hO rfl (Nat.le_of_ble_eq_true rfl) (Nat.le_of_ble_eq_true rfl) (g_goes (r := 0) 1 hR (by decide) (by decide)) (C2 := 0) (S2 := 0) (by omega) (by omega) (fun v46 h46 _ q46 => ?_) (fun x hx => absurd hx List.not_mem_nil) (fun v46 h46 _ q46 => ?_)
    rotate_left
    · cases q46.2.2
    obtain ⟨hR9, hf9, q46⟩ := q46
    cases q46
    have hO9 := hR9.1
    rw [hI.1, hI.2.2.1] at hO9
    refine se_if_eq (pc := 49) (tgt := 64) dR_unlist_49 (by decide) (fun q12 => ?_) (fun q12 => absurd q12 (by decide))
    exact se_vret (pc := 64) dR_unlist_64 rfl (rPv_ok 1 (by clear hR hO hR9 hO9 hf9; simp_all [sp_unlist]) hR9 hf9)
set_option maxHeartbeats 1000000 in
set_option maxRecDepth 100000 in
theorem r_need {k t9 n : Int32} (hd : 3 ≤ d) (hR : is_R S t h) (hI : st_I S) (hQ : st_Q N S) (hN : N < 2 ^ 31) : se_W (vG sc) l d mR_need 0 (se_ent 4 [.ref 41, .int k, .int t9, .int n]) [] h 0 0 (rPv h (sp_need S k t9 n)) := by
  obtain ⟨d, rfl⟩ : ∃ e, d = e + 1 := ⟨d - 1, by omega⟩
  show se_W (vG sc) l (d + 1) mR_need 0 [some (.ref 41), some (.int k), some (.int t9), some (.int n)] [] h 0 0 _
  have hn20 := hI.2.1
  have hO := hR.1
  rw [hI.1, hI.2.2.1] at hO
  refine se_aload_n (pc := 0) rfl dR_need_0 ?_
  refine se_iload_n (pc := 1) rfl dR_need_1 ?_
  refine se_invS (pc := 2) (as := [.int k]) (st := [.ref 41]) (vok sc) kR_isKind dR_need_2 ⟨wd_649, wd_650, wd_3⟩ rfl (Nat.le_of_ble_eq_true rfl) (Nat.le_of_ble_eq_true rfl) (x_R_isKind (by omega)) (C2 := 0) (S2 := 0) (by omega) (by omega) (fun v2 h2 _ q2 => ?_) (fun x hx => absurd hx List.not_mem_nil) (fun v2 h2 _ q2 => ?_)
  rotate_left
  · rcases q2.2 with ⟨_, _, _, _, e⟩ | ⟨_, e⟩ <;> cases e
  obtain ⟨h2e, q2⟩ := q2
  have h2f := h2e.symm
  subst h2f
  rcases q2 with ⟨jk, hxk, hjk, rfl, q2⟩ | ⟨hxk, q2⟩
  · cases q2
    refine se_if_eq (pc := 5) (tgt := 19) dR_need_5 (by decide) (fun q1 => absurd q1 (by decide)) (fun q1 => ?_)
    refine se_iload_n (pc := 8) rfl dR_need_8 ?_
    refine se_invS (pc := 9) (as := [.int t9]) (st := [.ref 41]) (vok sc) kR_isThing dR_need_9 ⟨wd_740, wd_741, wd_3⟩ rfl (Nat.le_of_ble_eq_true rfl) (Nat.le_of_ble_eq_true rfl) (x_R_isThing (by omega)) (C2 := 0) (S2 := 0) (by omega) (by omega) (fun v9 h9 _ q9 => ?_) (fun x hx => absurd hx List.not_mem_nil) (fun v9 h9 _ q9 => ?_)
    rotate_left
    · rcases q9.2 with ⟨_, _, _, _, e⟩ | ⟨_, e⟩ <;> cases e
    obtain ⟨h9e, q9⟩ := q9
    have h9f := h9e.symm
    subst h9f
    rcases q9 with ⟨jt9, hxt9, hjt9, rfl, q9⟩ | ⟨hxt9, q9⟩
    · cases q9
      refine se_if_eq (pc := 12) (tgt := 19) dR_need_12 (by decide) (fun q2 => absurd q2 (by decide)) (fun q2 => ?_)
      refine se_iconst (pc := 15) 1 (by decide) dR_need_15 ?_
      refine se_goto (pc := 16) (tgt := 20) dR_need_16 (by decide) ?_
      refine se_iload_n (pc := 20) rfl dR_need_20 ?_
      refine se_iconst (pc := 21) 0 (by decide) dR_need_21 ?_
      refine se_bipush (pc := 22) 9 (by decide) dR_need_22 ?_
      refine se_invS (pc := 24) (as := [.int n, .int 0, .int 9]) (st := [.int 1, .ref 41]) (vok sc) kR_in dR_need_24 ⟨wd_652, wd_653, wd_3⟩ rfl (Nat.le_of_ble_eq_true rfl) (Nat.le_of_ble_eq_true rfl) (x_R_in) (C2 := 0) (S2 := 0) (by omega) (by omega) (fun v24 h24 _ q24 => ?_) (fun x hx => absurd hx List.not_mem_nil) (fun v24 h24 _ q24 => ?_)
      rotate_left
      · rcases q24.2 with ⟨_, e⟩ | ⟨_, e⟩ <;> cases e
      obtain ⟨h24e, q24⟩ := q24
      have h24f := h24e.symm
      subst h24f
      rcases q24 with ⟨hi24, q24⟩ | ⟨hi24, q24⟩
      · cases q24
        refine se_iconst (pc := 27) 1 (by decide) dR_need_27 ?_
        refine se_invV (pc := 28) (as := [.int 1, .int 1, .int 1]) (st := []) (vok sc) kR_goes dR_need_28 ⟨wd_655, wd_657, sl_10, wd_3⟩ rfl hO rfl (Nat.le_of_ble_eq_true rfl) (Nat.le_of_ble_eq_true rfl) (g_goes (r := 1) 0 hR (by decide) (by decide)) (C2 := 0) (S2 := 0) (by omega) (by omega) (fun v28 h28 _ q28 => ?_) (fun x hx => absurd hx List.not_mem_nil) (fun v28 h28 _ q28 => ?_)
        rotate_left
        · cases q28.2.2
        obtain ⟨hR9, hf9, q28⟩ := q28
        cases q28
        have hO9 := hR9.1
        rw [hI.1, hI.2.2.1] at hO9
        refine se_if_eq (pc := 31) (tgt := 46) dR_need_31 (by decide) (fun q3 => absurd q3 (by decide)) (fun q3 => ?_)
        refine se_aload_n (pc := 34) rfl dR_need_34 ?_
        refine se_getf (pc := 35) clR 7 dR_need_35 wd_560 rfl (by decide) hO9 rfl ?_
        refine se_bipush (pc := 38) 10 (by decide) dR_need_38 ?_
        refine se_iload_n (pc := 40) rfl dR_need_40 ?_
        refine se_imul (pc := 41) dR_need_41 ?_
        refine se_iload_n (pc := 42) rfl dR_need_42 ?_
        refine se_iadd (pc := 43) dR_need_43 ?_
        rw [nx10]
        refine se_iload_n (pc := 44) rfl dR_need_44 ?_
        refine se_iastN (pc := 45) 0 dR_need_45 rfl hR9.2.2.2.2.2.2.1 (by omega) (by decide) ?_
        exact se_vret (pc := 46) dR_need_46 rfl (rPv_ok 0 (S' := st_up S 5 jk jt9 n) (by clear hR hO hR9 hO9 hf9; simp_all [sp_need]) ⟨rf_O (st_ne hO9 (by omega)) (by simp (decide := true) only [up_ne, up_v, ← hI.1, ← hI.2.2.1]) (by simp (decide := true) only [up_ne, up_v, ← hI.1, ← hI.2.2.1]) (by simp (decide := true) only [up_ne, up_v, ← hI.1, ← hI.2.2.1]), rf_R (st_ne hR9.2.1 (by omega)) (by simp (decide := true) only [rf_l_ne, rf_v_ne, rf_an_ne, rf_at_ne, rf_by_ne, rf_ky_ne, up_ne, up_eq, up_v, rf_l_up hjt9]), rf_R (st_ne hR9.2.2.1 (by omega)) (by simp (decide := true) only [rf_l_ne, rf_v_ne, rf_an_ne, rf_at_ne, rf_by_ne, rf_ky_ne, up_ne, up_eq, up_v, rf_l_up hjt9]), rf_R (st_ne hR9.2.2.2.1 (by omega)) (by simp (decide := true) only [rf_l_ne, rf_v_ne, rf_an_ne, rf_at_ne, rf_by_ne, rf_ky_ne, up_ne, up_eq, up_v, rf_l_up hjt9]), rf_R (st_ne hR9.2.2.2.2.1 (by omega)) (by simp (decide := true) only [rf_l_ne, rf_v_ne, rf_an_ne, rf_at_ne, rf_by_ne, rf_ky_ne, up_ne, up_eq, up_v, rf_l_up hjt9]), rf_R (st_ne hR9.2.2.2.2.2.1 (by omega)) (by simp (decide := true) only [rf_l_ne, rf_v_ne, rf_an_ne, rf_at_ne, rf_by_ne, rf_ky_ne, up_ne, up_eq, up_v, rf_l_up hjt9]), rf_R (st_eq hR9.2.2.2.2.2.2.1) (by simp (decide := true) only [rf_l_ne, rf_v_ne, rf_an_ne, rf_at_ne, rf_by_ne, rf_ky_ne, up_ne, up_eq, up_v, rf_l_up hjt9]), rf_R (st_ne hR9.2.2.2.2.2.2.2.1 (by omega)) (by simp (decide := true) only [rf_l_ne, rf_v_ne, rf_an_ne, rf_at_ne, rf_by_ne, rf_ky_ne, up_ne, up_eq, up_v, rf_l_up hjt9]), rf_R (st_ne hR9.2.2.2.2.2.2.2.2.1 (by omega)) (by simp (decide := true) only [rf_l_ne, rf_v_ne, rf_an_ne, rf_at_ne, rf_by_ne, rf_ky_ne, up_ne, up_eq, up_v, rf_l_up hjt9]), rf_R (st_ne hR9.2.2.2.2.2.2.2.2.2.1 (by omega)) (by simp (decide := true) only [rf_l_ne, rf_v_ne, rf_an_ne, rf_at_ne, rf_by_ne, rf_ky_ne, up_ne, up_eq, up_v, rf_l_up hjt9]), rf_R (st_ne hR9.2.2.2.2.2.2.2.2.2.2.1 (by omega)) (by simp (decide := true) only [rf_l_ne, rf_v_ne, rf_an_ne, rf_at_ne, rf_by_ne, rf_ky_ne, up_ne, up_eq, up_v, rf_l_up hjt9]), rf_R (st_ne hR9.2.2.2.2.2.2.2.2.2.2.2.1 (by omega)) (by simp (decide := true) only [rf_l_ne, rf_v_ne, rf_an_ne, rf_at_ne, rf_by_ne, rf_ky_ne, up_ne, up_eq, up_v, rf_l_up hjt9]), rf_R (st_ne hR9.2.2.2.2.2.2.2.2.2.2.2.2.1 (by omega)) (by simp (decide := true) only [rf_l_ne, rf_v_ne, rf_an_ne, rf_at_ne, rf_by_ne, rf_ky_ne, up_ne, up_eq, up_v, rf_l_up hjt9]), rf_R (st_ne hR9.2.2.2.2.2.2.2.2.2.2.2.2.2.1 (by omega)) (by simp (decide := true) only [rf_l_ne, rf_v_ne, rf_an_ne, rf_at_ne, rf_by_ne, rf_ky_ne, up_ne, up_eq, up_v, rf_l_up hjt9]), rf_R (st_ne hR9.2.2.2.2.2.2.2.2.2.2.2.2.2.2.1 (by omega)) (by simp (decide := true) only [rf_l_ne, rf_v_ne, rf_an_ne, rf_at_ne, rf_by_ne, rf_ky_ne, up_ne, up_eq, up_v, rf_l_up hjt9]), rf_R (st_ne hR9.2.2.2.2.2.2.2.2.2.2.2.2.2.2.2.1 (by omega)) (by simp (decide := true) only [rf_l_ne, rf_v_ne, rf_an_ne, rf_at_ne, rf_by_ne, rf_ky_ne, up_ne, up_eq, up_v, rf_l_up hjt9]), rf_R (st_ne hR9.2.2.2.2.2.2.2.2.2.2.2.2.2.2.2.2.1 (by omega)) (by simp (decide := true) only [rf_l_ne, rf_v_ne, rf_an_ne, rf_at_ne, rf_by_ne, rf_ky_ne, up_ne, up_eq, up_v, rf_l_up hjt9]), rf_R (st_ne hR9.2.2.2.2.2.2.2.2.2.2.2.2.2.2.2.2.2.1 (by omega)) (by simp (decide := true) only [rf_l_ne, rf_v_ne, rf_an_ne, rf_at_ne, rf_by_ne, rf_ky_ne, up_ne, up_eq, up_v, rf_l_up hjt9]), rf_R (st_ne hR9.2.2.2.2.2.2.2.2.2.2.2.2.2.2.2.2.2.2.1 (by omega)) (by simp (decide := true) only [rf_l_ne, rf_v_ne, rf_an_ne, rf_at_ne, rf_by_ne, rf_ky_ne, up_ne, up_eq, up_v, rf_l_up hjt9]), rf_R (st_ne hR9.2.2.2.2.2.2.2.2.2.2.2.2.2.2.2.2.2.2.2.1 (by omega)) (by simp (decide := true) only [rf_l_ne, rf_v_ne, rf_an_ne, rf_at_ne, rf_by_ne, rf_ky_ne, up_ne, up_eq, up_v, rf_l_up hjt9]), rf_R (st_ne hR9.2.2.2.2.2.2.2.2.2.2.2.2.2.2.2.2.2.2.2.2.1 (by omega)) (by simp (decide := true) only [rf_l_ne, rf_v_ne, rf_an_ne, rf_at_ne, rf_by_ne, rf_ky_ne, up_ne, up_eq, up_v, rf_l_up hjt9]), rf_R (st_ne hR9.2.2.2.2.2.2.2.2.2.2.2.2.2.2.2.2.2.2.2.2.2.1 (by omega)) (by simp (decide := true) only [rf_l_ne, rf_v_ne, rf_an_ne, rf_at_ne, rf_by_ne, rf_ky_ne, up_ne, up_eq, up_v, rf_l_up hjt9]), rf_R (st_ne hR9.2.2.2.2.2.2.2.2.2.2.2.2.2.2.2.2.2.2.2.2.2.2.1 (by omega)) (by simp (decide := true) only [rf_l_ne, rf_v_ne, rf_an_ne, rf_at_ne, rf_by_ne, rf_ky_ne, up_ne, up_eq, up_v, rf_l_up hjt9]), rf_R (st_ne hR9.2.2.2.2.2.2.2.2.2.2.2.2.2.2.2.2.2.2.2.2.2.2.2.1 (by omega)) (by simp (decide := true) only [rf_l_ne, rf_v_ne, rf_an_ne, rf_at_ne, rf_by_ne, rf_ky_ne, up_ne, up_eq, up_v, rf_l_up hjt9]), rf_R (st_ne hR9.2.2.2.2.2.2.2.2.2.2.2.2.2.2.2.2.2.2.2.2.2.2.2.2.1 (by omega)) (by simp (decide := true) only [rf_l_ne, rf_v_ne, rf_an_ne, rf_at_ne, rf_by_ne, rf_ky_ne, up_ne, up_eq, up_v, rf_l_up hjt9]), rf_R (st_ne hR9.2.2.2.2.2.2.2.2.2.2.2.2.2.2.2.2.2.2.2.2.2.2.2.2.2 (by omega)) (by simp (decide := true) only [rf_l_ne, rf_v_ne, rf_an_ne, rf_at_ne, rf_by_ne, rf_ky_ne, up_ne, up_eq, up_v, rf_l_up hjt9])⟩ (fR_tr hf9 (fR_set (by decide) (by decide))))
      · cases q24
        refine se_iconst (pc := 27) 1 (by decide) dR_need_27 ?_
        refine se_invV (pc := 28) (as := [.int 1, .int 0, .int 1]) (st := []) (vok sc) kR_goes dR_need_28 ⟨wd_655, wd_657, sl_10, wd_3⟩ rfl hO rfl (Nat.le_of_ble_eq_true rfl) (Nat.le_of_ble_eq_true rfl) (g_goes (r := 0) 2 hR (by decide) (by decide)) (C2 := 0) (S2 := 0) (by omega) (by omega) (fun v28 h28 _ q28 => ?_) (fun x hx => absurd hx List.not_mem_nil) (fun v28 h28 _ q28 => ?_)
        rotate_left
        · cases q28.2.2
        obtain ⟨hR9, hf9, q28⟩ := q28
        cases q28
        have hO9 := hR9.1
        rw [hI.1, hI.2.2.1] at hO9
        refine se_if_eq (pc := 31) (tgt := 46) dR_need_31 (by decide) (fun q4 => ?_) (fun q4 => absurd q4 (by decide))
        exact se_vret (pc := 46) dR_need_46 rfl (rPv_ok 2 (by clear hR hO hR9 hO9 hf9; simp_all [sp_need]) hR9 hf9)
    · cases q9
      refine se_if_eq (pc := 12) (tgt := 19) dR_need_12 (by decide) (fun q5 => ?_) (fun q5 => absurd q5 (by decide))
      refine se_iconst (pc := 19) 0 (by decide) dR_need_19 ?_
      refine se_iload_n (pc := 20) rfl dR_need_20 ?_
      refine se_iconst (pc := 21) 0 (by decide) dR_need_21 ?_
      refine se_bipush (pc := 22) 9 (by decide) dR_need_22 ?_
      refine se_invS (pc := 24) (as := [.int n, .int 0, .int 9]) (st := [.int 0, .ref 41]) (vok sc) kR_in dR_need_24 ⟨wd_652, wd_653, wd_3⟩ rfl (Nat.le_of_ble_eq_true rfl) (Nat.le_of_ble_eq_true rfl) (x_R_in) (C2 := 0) (S2 := 0) (by omega) (by omega) (fun v24 h24 _ q24 => ?_) (fun x hx => absurd hx List.not_mem_nil) (fun v24 h24 _ q24 => ?_)
      rotate_left
      · rcases q24.2 with ⟨_, e⟩ | ⟨_, e⟩ <;> cases e
      obtain ⟨h24e, q24⟩ := q24
      have h24f := h24e.symm
      subst h24f
      rcases q24 with ⟨hi24, q24⟩ | ⟨hi24, q24⟩
      · cases q24
        refine se_iconst (pc := 27) 1 (by decide) dR_need_27 ?_
        refine se_invV (pc := 28) (as := [.int 0, .int 1, .int 1]) (st := []) (vok sc) kR_goes dR_need_28 ⟨wd_655, wd_657, sl_10, wd_3⟩ rfl hO rfl (Nat.le_of_ble_eq_true rfl) (Nat.le_of_ble_eq_true rfl) (g_goes (r := 0) 1 hR (by decide) (by decide)) (C2 := 0) (S2 := 0) (by omega) (by omega) (fun v28 h28 _ q28 => ?_) (fun x hx => absurd hx List.not_mem_nil) (fun v28 h28 _ q28 => ?_)
        rotate_left
        · cases q28.2.2
        obtain ⟨hR9, hf9, q28⟩ := q28
        cases q28
        have hO9 := hR9.1
        rw [hI.1, hI.2.2.1] at hO9
        refine se_if_eq (pc := 31) (tgt := 46) dR_need_31 (by decide) (fun q6 => ?_) (fun q6 => absurd q6 (by decide))
        exact se_vret (pc := 46) dR_need_46 rfl (rPv_ok 1 (by clear hR hO hR9 hO9 hf9; simp_all [sp_need]) hR9 hf9)
      · cases q24
        refine se_iconst (pc := 27) 1 (by decide) dR_need_27 ?_
        refine se_invV (pc := 28) (as := [.int 0, .int 0, .int 1]) (st := []) (vok sc) kR_goes dR_need_28 ⟨wd_655, wd_657, sl_10, wd_3⟩ rfl hO rfl (Nat.le_of_ble_eq_true rfl) (Nat.le_of_ble_eq_true rfl) (g_goes (r := 0) 1 hR (by decide) (by decide)) (C2 := 0) (S2 := 0) (by omega) (by omega) (fun v28 h28 _ q28 => ?_) (fun x hx => absurd hx List.not_mem_nil) (fun v28 h28 _ q28 => ?_)
        rotate_left
        · cases q28.2.2
        obtain ⟨hR9, hf9, q28⟩ := q28
        cases q28
        have hO9 := hR9.1
        rw [hI.1, hI.2.2.1] at hO9
        refine se_if_eq (pc := 31) (tgt := 46) dR_need_31 (by decide) (fun q7 => ?_) (fun q7 => absurd q7 (by decide))
        exact se_vret (pc := 46) dR_need_46 rfl (rPv_ok 1 (by clear hR hO hR9 hO9 hf9; simp_all [sp_need]) hR9 hf9)
  · cases q2
    refine se_if_eq (pc := 5) (tgt := 19) dR_need_5 (by decide) (fun q8 => ?_) (fun q8 => absurd q8 (by decide))
    refine se_iconst (pc := 19) 0 (by decide) dR_need_19 ?_
    refine se_iload_n (pc := 20) rfl dR_need_20 ?_
    refine se_iconst (pc := 21) 0 (by decide) dR_need_21 ?_
    refine se_bipush (pc := 22) 9 (by decide) dR_need_22 ?_
    refine se_invS (pc := 24) (as := [.int n, .int 0, .int 9]) (st := [.int 0, .ref 41]) (vok sc) kR_in dR_need_24 ⟨wd_652, wd_653, wd_3⟩ rfl (Nat.le_of_ble_eq_true rfl) (Nat.le_of_ble_eq_true rfl) (x_R_in) (C2 := 0) (S2 := 0) (by omega) (by omega) (fun v24 h24 _ q24 => ?_) (fun x hx => absurd hx List.not_mem_nil) (fun v24 h24 _ q24 => ?_)
    rotate_left
    · rcases q24.2 with ⟨_, e⟩ | ⟨_, e⟩ <;> cases e
    obtain ⟨h24e, q24⟩ := q24
    have h24f := h24e.symm
    subst h24f
    rcases q24 with ⟨hi24, q24⟩ | ⟨hi24, q24⟩
    · cases q24
      refine se_iconst (pc := 27) 1 (by decide) dR_need_27 ?_
      refine se_invV (pc := 28) (as := [.int 0, .int 1, .int 1]) (st := []) (vok sc) kR_goes dR_need_28 ⟨wd_655, wd_657, sl_10, wd_3⟩ rfl hO rfl (Nat.le_of_ble_eq_true rfl) (Nat.le_of_ble_eq_true rfl) (g_goes (r := 0) 1 hR (by decide) (by decide)) (C2 := 0) (S2 := 0) (by omega) (by omega) (fun v28 h28 _ q28 => ?_) (fun x hx => absurd hx List.not_mem_nil) (fun v28 h28 _ q28 => ?_)
      rotate_left
      · cases q28.2.2
      obtain ⟨hR9, hf9, q28⟩ := q28
      cases q28
      have hO9 := hR9.1
      rw [hI.1, hI.2.2.1] at hO9
      refine se_if_eq (pc := 31) (tgt := 46) dR_need_31 (by decide) (fun q9 => ?_) (fun q9 => absurd q9 (by decide))
      exact se_vret (pc := 46) dR_need_46 rfl (rPv_ok 1 (by clear hR hO hR9 hO9 hf9; simp_all [sp_need]) hR9 hf9)
    · cases q24
      refine se_iconst (pc := 27) 1 (by decide) dR_need_27 ?_
      refine se_invV (pc := 28) (as := [.int 0, .int 0, .int 1]) (st := []) (vok sc) kR_goes dR_need_28 ⟨wd_655, wd_657, sl_10, wd_3⟩ rfl hO rfl (Nat.le_of_ble_eq_true rfl) (Nat.le_of_ble_eq_true rfl) (g_goes (r := 0) 1 hR (by decide) (by decide)) (C2 := 0) (S2 := 0) (by omega) (by omega) (fun v28 h28 _ q28 => ?_) (fun x hx => absurd hx List.not_mem_nil) (fun v28 h28 _ q28 => ?_)
      rotate_left
      · cases q28.2.2
      obtain ⟨hR9, hf9, q28⟩ := q28
      cases q28
      have hO9 := hR9.1
      rw [hI.1, hI.2.2.1] at hO9
      refine se_if_eq (pc := 31) (tgt := 46) dR_need_31 (by decide) (fun q10 => ?_) (fun q10 => absurd q10 (by decide))
      exact se_vret (pc := 46) dR_need_46 rfl (rPv_ok 1 (by clear hR hO hR9 hO9 hf9; simp_all [sp_need]) hR9 hf9)
set_option maxHeartbeats 1000000 in
set_option maxRecDepth 100000 in
theorem r_runs {v : Int32} (hd : 8 ≤ d) (hR : is_R S t h) (hI : st_I S) (hQ : st_Q N S) (hN : N < 2 ^ 31) : se_W (vG sc) l d mR_runs 0 (se_ent 2 [.ref 41, .int v]) [] h 0 0 (rPi h (sp_runs S v)) := by
  obtain ⟨d, rfl⟩ : ∃ e, d = e + 1 := ⟨d - 1, by omega⟩
  show se_W (vG sc) l (d + 1) mR_runs 0 [some (.ref 41), some (.int v)] [] h 0 0 _
  have hn20 := hI.2.1
  have hO := hR.1
  rw [hI.1, hI.2.2.1] at hO
  refine se_aload_n (pc := 0) rfl dR_runs_0 ?_
  refine se_aload_n (pc := 1) rfl dR_runs_1 ?_
  refine se_iload_n (pc := 2) rfl dR_runs_2 ?_
  refine se_invV (pc := 3) (as := [.int v]) (st := [.ref 41]) (vok sc) kR_isVehicle dR_runs_3 ⟨wd_674, wd_676, sl_11, wd_3⟩ rfl hO rfl (Nat.le_of_ble_eq_true rfl) (Nat.le_of_ble_eq_true rfl) (x_R_isVehicle (by omega) hR hI) (C2 := 0) (S2 := 0) (by omega) (by omega) (fun v3 h3 _ q3 => ?_) (fun x hx => absurd hx List.not_mem_nil) (fun v3 h3 _ q3 => ?_)
  rotate_left
  · rcases q3.2 with ⟨_, _, _, _, e⟩ | ⟨_, e⟩ <;> cases e
  obtain ⟨h3e, q3⟩ := q3
  have h3f := h3e.symm
  subst h3f
  rcases q3 with ⟨jv, hxv, hjv, rfl, q3⟩ | ⟨hxv, q3⟩
  · cases q3
    refine se_iconst (pc := 6) 1 (by decide) dR_runs_6 ?_
    refine se_iconst (pc := 7) 1 (by decide) dR_runs_7 ?_
    refine se_invV (pc := 8) (as := [.int 1, .int 1, .int 1]) (st := []) (vok sc) kR_goes dR_runs_8 ⟨wd_655, wd_657, sl_10, wd_3⟩ rfl hO rfl (Nat.le_of_ble_eq_true rfl) (Nat.le_of_ble_eq_true rfl) (g_goes (r := 1) 0 hR (by decide) (by decide)) (C2 := 0) (S2 := 0) (by omega) (by omega) (fun v8 h8 _ q8 => ?_) (fun x hx => absurd hx List.not_mem_nil) (fun v8 h8 _ q8 => ?_)
    rotate_left
    · cases q8.2.2
    obtain ⟨hR9, hf9, q8⟩ := q8
    cases q8
    have hO9 := hR9.1
    rw [hI.1, hI.2.2.1] at hO9
    refine se_if_eq (pc := 11) (tgt := 26) dR_runs_11 (by decide) (fun q1 => absurd q1 (by decide)) (fun q1 => ?_)
    refine se_aload_n (pc := 14) rfl dR_runs_14 ?_
    refine se_iload_n (pc := 15) rfl dR_runs_15 ?_
    refine se_invV (pc := 16) (as := [.int (nI jv)]) (st := []) (vok sc) kR_isRunning dR_runs_16 ⟨wd_715, wd_717, sl_17, wd_3⟩ rfl hO9 rfl (Nat.le_of_ble_eq_true rfl) (Nat.le_of_ble_eq_true rfl) (c_R_isRunning (by omega) hR9 (q_kd hQ hjv) (by omega) (hI.2.2.2.2 _ hjv) hQ hN hI) (C2 := 0) (S2 := 0) (by omega) (by omega) (fun v16 h16 _ q16 => ?_) (fun x hx => absurd hx List.not_mem_nil) (fun v16 h16 _ q16 => ?_)
    rotate_left
    · cases q16.2
    obtain ⟨h16e, q16⟩ := q16
    have h16f := h16e.symm
    subst h16f
    cases q16
    cases hru : st_ru S (st_kd S jv) jv
    · show se_W _ _ _ _ _ _ (.int 0 :: _) _ _ _ _
      refine se_if_eq (pc := 19) (tgt := 26) dR_runs_19 (by decide) (fun q2 => ?_) (fun q2 => absurd q2 (by decide))
      refine se_iconst (pc := 26) 0 (by decide) dR_runs_26 ?_
      exact se_zret (pc := 27) dR_runs_27 rfl (by first | decide | exact st_b01 _) (rPi_ok (by clear hR hO hR9 hO9 hf9; simp_all [sp_runs, st_b]) hR9 hf9)
    · show se_W _ _ _ _ _ _ (.int 1 :: _) _ _ _ _
      refine se_if_eq (pc := 19) (tgt := 26) dR_runs_19 (by decide) (fun q3 => absurd q3 (by decide)) (fun q3 => ?_)
      refine se_iconst (pc := 22) 1 (by decide) dR_runs_22 ?_
      refine se_goto (pc := 23) (tgt := 27) dR_runs_23 (by decide) ?_
      exact se_zret (pc := 27) dR_runs_27 rfl (by first | decide | exact st_b01 _) (rPi_ok (by clear hR hO hR9 hO9 hf9; simp_all [sp_runs, st_b]) hR9 hf9)
  · cases q3
    refine se_iconst (pc := 6) 1 (by decide) dR_runs_6 ?_
    refine se_iconst (pc := 7) 1 (by decide) dR_runs_7 ?_
    refine se_invV (pc := 8) (as := [.int 0, .int 1, .int 1]) (st := []) (vok sc) kR_goes dR_runs_8 ⟨wd_655, wd_657, sl_10, wd_3⟩ rfl hO rfl (Nat.le_of_ble_eq_true rfl) (Nat.le_of_ble_eq_true rfl) (g_goes (r := 0) 1 hR (by decide) (by decide)) (C2 := 0) (S2 := 0) (by omega) (by omega) (fun v8 h8 _ q8 => ?_) (fun x hx => absurd hx List.not_mem_nil) (fun v8 h8 _ q8 => ?_)
    rotate_left
    · cases q8.2.2
    obtain ⟨hR9, hf9, q8⟩ := q8
    cases q8
    have hO9 := hR9.1
    rw [hI.1, hI.2.2.1] at hO9
    refine se_if_eq (pc := 11) (tgt := 26) dR_runs_11 (by decide) (fun q4 => ?_) (fun q4 => absurd q4 (by decide))
    refine se_iconst (pc := 26) 0 (by decide) dR_runs_26 ?_
    exact se_zret (pc := 27) dR_runs_27 rfl (by first | decide | exact st_b01 _) (rPi_no 0 (by clear hR hO hR9 hO9 hf9; simp_all [sp_runs, st_b]) hR9 hf9)
set_option maxHeartbeats 1000000 in
set_option maxRecDepth 100000 in
theorem r_reason {v i : Int32} (hd : 8 ≤ d) (hR : is_R S t h) (hI : st_I S) (hQ : st_Q N S) (hN : N < 2 ^ 31) : se_W (vG sc) l d mR_reason 0 (se_ent 3 [.ref 41, .int v, .int i]) [] h 0 0 (rPi h (sp_reason S v i)) := by
  obtain ⟨d, rfl⟩ : ∃ e, d = e + 1 := ⟨d - 1, by omega⟩
  show se_W (vG sc) l (d + 1) mR_reason 0 [some (.ref 41), some (.int v), some (.int i)] [] h 0 0 _
  have hn20 := hI.2.1
  have hO := hR.1
  rw [hI.1, hI.2.2.1] at hO
  refine se_aload_n (pc := 0) rfl dR_reason_0 ?_
  refine se_aload_n (pc := 1) rfl dR_reason_1 ?_
  refine se_iload_n (pc := 2) rfl dR_reason_2 ?_
  refine se_invV (pc := 3) (as := [.int v]) (st := [.ref 41]) (vok sc) kR_isVehicle dR_reason_3 ⟨wd_674, wd_676, sl_11, wd_3⟩ rfl hO rfl (Nat.le_of_ble_eq_true rfl) (Nat.le_of_ble_eq_true rfl) (x_R_isVehicle (by omega) hR hI) (C2 := 0) (S2 := 0) (by omega) (by omega) (fun v3 h3 _ q3 => ?_) (fun x hx => absurd hx List.not_mem_nil) (fun v3 h3 _ q3 => ?_)
  rotate_left
  · rcases q3.2 with ⟨_, _, _, _, e⟩ | ⟨_, e⟩ <;> cases e
  obtain ⟨h3e, q3⟩ := q3
  have h3f := h3e.symm
  subst h3f
  rcases q3 with ⟨jv, hxv, hjv, rfl, q3⟩ | ⟨hxv, q3⟩
  · cases q3
    refine se_iload_n (pc := 6) rfl dR_reason_6 ?_
    refine se_if_lt (pc := 7) (tgt := 14) dR_reason_7 (by decide) (fun q1 => ?_) (fun q1 => ?_)
    · refine se_iconst (pc := 14) 0 (by decide) dR_reason_14 ?_
      refine se_iconst (pc := 15) 1 (by decide) dR_reason_15 ?_
      refine se_invV (pc := 16) (as := [.int 1, .int 0, .int 1]) (st := []) (vok sc) kR_goes dR_reason_16 ⟨wd_655, wd_657, sl_10, wd_3⟩ rfl hO rfl (Nat.le_of_ble_eq_true rfl) (Nat.le_of_ble_eq_true rfl) (g_goes (r := 0) 2 hR (by decide) (by decide)) (C2 := 0) (S2 := 0) (by omega) (by omega) (fun v16 h16 _ q16 => ?_) (fun x hx => absurd hx List.not_mem_nil) (fun v16 h16 _ q16 => ?_)
      rotate_left
      · cases q16.2.2
      obtain ⟨hR9, hf9, q16⟩ := q16
      cases q16
      have hO9 := hR9.1
      rw [hI.1, hI.2.2.1] at hO9
      refine se_if_ne (pc := 19) (tgt := 24) dR_reason_19 (by decide) (fun q2 => absurd q2 (by decide)) (fun q2 => ?_)
      refine se_iconst (pc := 22) 0 (by decide) dR_reason_22 ?_
      exact se_iret (pc := 23) dR_reason_23 rfl (rPi_no 1 (by clear hR hO hR9 hO9 hf9; simp_all [sp_reason, st_g0, Int32.not_lt, Int32.not_le]) hR9 hf9)
    · refine se_iconst (pc := 10) 1 (by decide) dR_reason_10 ?_
      refine se_goto (pc := 11) (tgt := 15) dR_reason_11 (by decide) ?_
      refine se_iconst (pc := 15) 1 (by decide) dR_reason_15 ?_
      refine se_invV (pc := 16) (as := [.int 1, .int 1, .int 1]) (st := []) (vok sc) kR_goes dR_reason_16 ⟨wd_655, wd_657, sl_10, wd_3⟩ rfl hO rfl (Nat.le_of_ble_eq_true rfl) (Nat.le_of_ble_eq_true rfl) (g_goes (r := 1) 0 hR (by decide) (by decide)) (C2 := 0) (S2 := 0) (by omega) (by omega) (fun v16 h16 _ q16 => ?_) (fun x hx => absurd hx List.not_mem_nil) (fun v16 h16 _ q16 => ?_)
      rotate_left
      · cases q16.2.2
      obtain ⟨hR9, hf9, q16⟩ := q16
      cases q16
      have hO9 := hR9.1
      rw [hI.1, hI.2.2.1] at hO9
      refine se_if_ne (pc := 19) (tgt := 24) dR_reason_19 (by decide) (fun q3 => ?_) (fun q3 => absurd q3 (by decide))
      refine se_aload_n (pc := 24) rfl dR_reason_24 ?_
      refine se_iload_n (pc := 25) rfl dR_reason_25 ?_
      refine se_iload_n (pc := 26) rfl dR_reason_26 ?_
      refine se_invV (pc := 27) (as := [.int (nI jv), .int i]) (st := []) (vok sc) kR_reasonOf dR_reason_27 ⟨wd_707, wd_709, sl_16, wd_3⟩ rfl hO9 rfl (Nat.le_of_ble_eq_true rfl) (Nat.le_of_ble_eq_true rfl) (c_R_reasonOf (by omega) hR9 (q_kd hQ hjv) (by omega) (hI.2.2.2.2 _ hjv) hQ hN hI) (C2 := 0) (S2 := 0) (by omega) (by omega) (fun v27 h27 _ q27 => ?_) (fun x hx => absurd hx List.not_mem_nil) (fun v27 h27 _ q27 => ?_)
      rotate_left
      · cases q27.2
      obtain ⟨h27e, q27⟩ := q27
      have h27f := h27e.symm
      subst h27f
      cases q27
      exact se_iret (pc := 30) dR_reason_30 rfl (rPi_ok (by clear hR hO hR9 hO9 hf9; simp_all [sp_reason, st_g0, Int32.not_lt, Int32.not_le]) hR9 hf9)
  · cases q3
    refine se_iload_n (pc := 6) rfl dR_reason_6 ?_
    refine se_if_lt (pc := 7) (tgt := 14) dR_reason_7 (by decide) (fun q4 => ?_) (fun q4 => ?_)
    · refine se_iconst (pc := 14) 0 (by decide) dR_reason_14 ?_
      refine se_iconst (pc := 15) 1 (by decide) dR_reason_15 ?_
      refine se_invV (pc := 16) (as := [.int 0, .int 0, .int 1]) (st := []) (vok sc) kR_goes dR_reason_16 ⟨wd_655, wd_657, sl_10, wd_3⟩ rfl hO rfl (Nat.le_of_ble_eq_true rfl) (Nat.le_of_ble_eq_true rfl) (g_goes (r := 0) 1 hR (by decide) (by decide)) (C2 := 0) (S2 := 0) (by omega) (by omega) (fun v16 h16 _ q16 => ?_) (fun x hx => absurd hx List.not_mem_nil) (fun v16 h16 _ q16 => ?_)
      rotate_left
      · cases q16.2.2
      obtain ⟨hR9, hf9, q16⟩ := q16
      cases q16
      have hO9 := hR9.1
      rw [hI.1, hI.2.2.1] at hO9
      refine se_if_ne (pc := 19) (tgt := 24) dR_reason_19 (by decide) (fun q5 => absurd q5 (by decide)) (fun q5 => ?_)
      refine se_iconst (pc := 22) 0 (by decide) dR_reason_22 ?_
      exact se_iret (pc := 23) dR_reason_23 rfl (rPi_no 0 (by clear hR hO hR9 hO9 hf9; simp_all [sp_reason, st_g0, Int32.not_lt, Int32.not_le]) hR9 hf9)
    · refine se_iconst (pc := 10) 1 (by decide) dR_reason_10 ?_
      refine se_goto (pc := 11) (tgt := 15) dR_reason_11 (by decide) ?_
      refine se_iconst (pc := 15) 1 (by decide) dR_reason_15 ?_
      refine se_invV (pc := 16) (as := [.int 0, .int 1, .int 1]) (st := []) (vok sc) kR_goes dR_reason_16 ⟨wd_655, wd_657, sl_10, wd_3⟩ rfl hO rfl (Nat.le_of_ble_eq_true rfl) (Nat.le_of_ble_eq_true rfl) (g_goes (r := 0) 1 hR (by decide) (by decide)) (C2 := 0) (S2 := 0) (by omega) (by omega) (fun v16 h16 _ q16 => ?_) (fun x hx => absurd hx List.not_mem_nil) (fun v16 h16 _ q16 => ?_)
      rotate_left
      · cases q16.2.2
      obtain ⟨hR9, hf9, q16⟩ := q16
      cases q16
      have hO9 := hR9.1
      rw [hI.1, hI.2.2.1] at hO9
      refine se_if_ne (pc := 19) (tgt := 24) dR_reason_19 (by decide) (fun q6 => absurd q6 (by decide)) (fun q6 => ?_)
      refine se_iconst (pc := 22) 0 (by decide) dR_reason_22 ?_
      exact se_iret (pc := 23) dR_reason_23 rfl (rPi_no 0 (by clear hR hO hR9 hO9 hf9; simp_all [sp_reason, st_g0, Int32.not_lt, Int32.not_le]) hR9 hf9)
end RPUB
